section
set_option maxHeartbeats 4000000 in
set_option maxRecDepth 20000 in
theorem k_X5_statement_f (d : Nat) {T : CT} {σ : MS} {a : Nat} {dp : Int} {kp : Int} {lv : Nat} {Sx : Int → Int} {nx jx : Nat} {cx : CS} {Nx : Int} {bx : Int} (ha : OB T a 5) (h_dp : -2147483648 ≤ dp ∧ dp ≤ 2147483647) (hw : WT T σ) (hex : ∀ (d : Nat) {T : CT} {σ : MS} {a : Nat} {dp : Int} {kp : Int} {Sx : Int → Int} {nx jx : Nat} {cx : CS} {Nx : Int} {bx : Int} (ha : OB T a 5) (h_dp : -2147483648 ≤ dp ∧ dp ≤ 2147483647) (hw : WT T σ) (hdp : 1 ≤ dp ∧ dp ≤ 7) (hlv : 7 ≤ dp + (lv : Int)) (hfx : RDX σ a Sx nx jx cx Nx) (hb : bx = dp - 1) (hm : cx.m ≤ (jx : Int)) (hkp : kp ≤ 140) (hrp : RP σ a kp), Tn (d + 3 * lv + 60) m_X5_block 0 T σ [(0, .ref a), (1, .int (iI dp))] [] (fun ro T2 σ2 => ∃ v : Int, ro = some (.int (iI v)) ∧ WT T2 σ2 ∧ FrC T [5, 6, 7, 9, 42, 43, 44, 45, 46, 47, 50, 51, 84, 85, 86, 87, 518, 519, 520, 521] σ σ2 ∧ (v = 0 ∨ v = 1) ∧ (YQ σ2 a Sx nx bx [28] jx cx (Nx) 2 v) ∧ (RP σ2 a (kp + 2 - 10 * v)))) (hdp : 1 ≤ dp ∧ dp ≤ 6) (hlv : 6 ≤ dp + (lv : Int)) (hfx : RDX σ a Sx nx jx cx Nx) (hb : bx = dp) (hm : cx.m ≤ (jx : Int)) (hkp : kp ≤ 140) (hrp : RP σ a kp) : Tn (d + 3 * lv + 62) m_X5_statement 0 T σ [(0, .ref a), (1, .int (iI dp))] [] (fun ro T2 σ2 => ∃ v : Int, ro = some (.int (iI v)) ∧ WT T2 σ2 ∧ FrC T [5, 6, 7, 9, 42, 43, 44, 45, 46, 47, 50, 51, 84, 85, 86, 87, 518, 519, 520, 521] σ σ2 ∧ (v = 0 ∨ v = 1) ∧ (YQ σ2 a Sx nx bx [20] jx cx (Nx) 1 v) ∧ (RP σ2 a (kp + 2 - 8 * v))) := by
  have hSb := hfx.1.sb
  have e45 := hfx.e45
  have hpo9 := hfx.po
  unfold PO at hpo9
  have hjn := RDX.jn hfx hw ha
  refine tn_aload_n dX5_statement_0 rfl 0 rfl ?_
  refine tn_dup dX5_statement_1 rfl ?_
  refine tn_getI (ci := 5) (i := 12) (n := 45) (t := σ.2.1 45 a) dX5_statement_2 rfl lay_5 (by decide) fl5_64 ha rfl rfl (rfl) ?_
  have g1 : ((-2147483648 : Int) ≤ σ.2.1 45 a ∧ σ.2.1 45 a ≤ 2147483647) := wf_45 hw ha
  refine tn_iconst dX5_statement_5 ?_
  refine tn_iadd dX5_statement_6 ?_
  refine tn_putV (ci := 5) (i := 12) (n := 45) (r := false) (v := (σ.2.1 45 a) + 1) tyX5 tyX5_ok nmX5 dX5_statement_7 rfl lay_5 (by decide) fl5_64 rfl (tyX5_ok 12 (by decide)) rfl rfl rfl ha rfl rfl ?_
  have fx2 : RDX (sA 45 a ((σ.2.1 45 a) + 1) σ) a Sx nx jx (msC (cx.m + 1) cx) Nx := by have q9 := RDX.sm hfx hm; rw [← e45] at q9 ⊢; exact q9
  refine tn_aload_n dX5_statement_10 rfl 0 rfl ?_
  refine tn_getI (ci := 5) (i := 12) (n := 45) (t := (σ.2.1 45 a) + 1) dX5_statement_11 rfl lay_5 (by decide) fl5_64 ha rfl rfl (ra_eq) ?_
  refine tn_bipush dX5_statement_14 (by decide) ?_
  refine tn_icmp_le (tgt := 31) dX5_statement_16 (by decide) ⟨by omega, by omega⟩ ⟨by decide, by decide⟩ (fun h3 => ?_) (fun h3 => ?_)
  · refine tn_aload_n dX5_statement_31 rfl 0 rfl ?_
    obtain ⟨x4, hx5, hk6⟩ : ∃ x : Nat, σ.2.1 35 a = (x : Int) ∧ (T x).1 = 31 := wf_35 hw ha
    have hk6o : OB T x4 1 := ⟨by omega, by rw [hk6]; rfl, by omega⟩
    refine tn_getR (ci := 5) (i := 2) (n := 35) (x := x4) dX5_statement_32 rfl lay_5 (by decide) fl5_47 ha rfl rfl (rc_o (by decide) (hx5)) ?_
    refine tn_getI (ci := 1) (i := 4) (n := 9) (t := σ.2.1 9 x4) dX5_statement_35 rfl lay_1 (by decide) fl5_186 hk6o rfl rfl (rc_o (by decide) (rfl)) ?_
    have g8 : ((-2147483648 : Int) ≤ σ.2.1 9 x4 ∧ σ.2.1 9 x4 ≤ 2147483647) := wf_9 hw hk6o
    refine tn_if_ne (tgt := 52) dX5_statement_38 (by decide) ⟨by omega, by omega⟩ (fun h9 => ?_) (fun h9 => ?_)
    · have fx10 : RDX (sA 45 a ((σ.2.1 45 a) + 1) σ) a Sx nx jx (uC cx (5, (tkS Sx jx).1, 0, 0)) Nx := RDX.cq fx2 (by rw [uC5n (by omega)])
      refine tn_aload_n dX5_statement_52 rfl 0 rfl ?_
      obtain ⟨x11, hx12, hk13⟩ : ∃ x : Nat, σ.2.1 33 a = (x : Int) ∧ (T x).1 = 39 := wf_33 hw ha
      have hk13o : OB T x11 9 := ⟨by omega, by rw [hk13]; rfl, by omega⟩
      refine tn_getR (ci := 5) (i := 0) (n := 33) (x := x11) dX5_statement_53 rfl lay_5 (by decide) fl5_12 ha rfl rfl (rc_o (by decide) (hx12)) ?_
      refine tn_getI (ci := 9) (i := 4) (n := 85) (t := σ.2.1 85 x11) dX5_statement_56 rfl lay_9 (by decide) fl5_71 hk13o rfl rfl (rc_o (by decide) (rfl)) ?_
      have g15 : ((-2147483648 : Int) ≤ σ.2.1 85 x11 ∧ σ.2.1 85 x11 ≤ 2147483647) := wf_85 hw hk13o
      have g15kd : σ.2.1 85 x11 = ckd (tkS Sx jx) := (rc_o (by decide) (rfl)).symm.trans ((fx10).1.kd (rc_o (by decide) (hx12)))
      by_cases h16 : σ.2.1 85 x11 < 256 ∨ 262 < σ.2.1 85 x11
      · refine tn_tableOut (tgt := 131) dX5_statement_59 (x := σ.2.1 85 x11) ⟨by omega, by omega⟩ h16 (by decide) ?_
        refine tn_aload_n dX5_statement_131 rfl 0 rfl ?_
        refine tn_callV (M := m_X5_statement) (pc := 132) (ix := 90) (ci := 5) (M' := m_X5_refuse) (As := []) (rest := []) dX5_statement_132 ok_X5_refuse im_X5_refuse se_X5_refuse ml5_90 np_X5_refuse rfl rfl ha rfl (Nat.le_of_ble_eq_true rfl) (Nat.le_of_ble_eq_true rfl) rfl (k_X5_refuse_f (d + 3 * lv + 60) (T := T) (σ := (sA 45 a ((σ.2.1 45 a) + 1) σ)) (a := a) ha (hw.put (by decide) (by decide) (fo_45 (by omega))) (fx10).1.1) (fun r17 T19 σ18 gt20 hp => ?_)
        obtain ⟨v25, rfl, rfl, w26, F27, f21, f22, f23, f24⟩ := hp
        clear gt20
        have pc28 : GRF Sx [20] jx (0) (bx) u0 (tkS Sx jx).1 := x20f hSb (by omega)
        have rf290 : GR Sx [20] jx 0 (bx) u0 [20] jx (0) (bx) u0 (0) ([]) := GR.nl
        have rf29 : GRF Sx [20] jx 0 (bx) u0 ((tkS Sx jx).1) := GR.fl (l := [20]) [] rf290 pc28
        have rp30 : RP σ18 a (kp) := RP.frc (hrp.put (by decide)) F27 (by decide) (by decide) (by decide) (by decide) (by decide)
        show Tn _ _ 135 T σ18 [(0, .ref a), (1, .int (iI dp))] [.int (iI v25)] _
        have rb32 : YF σ18 a Sx bx [20] jx := ⟨_, rf29, f23⟩
        exact tn_zret (v := v25) rfl (by omega) dX5_statement_135 ⟨_, rfl, w26, ((FrC.rfl.put (by decide) (by decide)).trans (FrC.sub F27 (by decide))), by omega, ⟨fun q => absurd q (by omega), fun _ => rb32⟩, (RP.up rp30 (by omega))⟩
      · have h33 : σ.2.1 85 x11 = 256 ∨ σ.2.1 85 x11 = 257 ∨ σ.2.1 85 x11 = 258 ∨ σ.2.1 85 x11 = 259 ∨ σ.2.1 85 x11 = 260 ∨ σ.2.1 85 x11 = 261 ∨ σ.2.1 85 x11 = 262 := by omega
        rcases h33 with h33 | h33 | h33 | h33 | h33 | h33 | h33
        · refine tn_tableIn (tgt := 100) (off := 41) dX5_statement_59 (x := σ.2.1 85 x11) ⟨by omega, by omega⟩ (by omega) (by omega) (by rw [h33]; rfl) (by decide) ?_
          refine tn_aload_n dX5_statement_100 rfl 0 rfl ?_
          have pc34 : GR Sx [20] jx (0) (bx) u0 [51, 23] jx (0) (bx) u0 0 [(5, (tkS Sx jx).1, 0, 0)] := x20n hSb (by omega)
          have rd350 : GR Sx [20] jx 0 (bx) u0 [20] jx (0) (bx) u0 (0) ([]) := GR.nl
          have rd35a : GR Sx [20] jx 0 (bx) u0 [51, 23] jx (0) (bx) u0 (0 + 0) ([] ++ [(5, (tkS Sx jx).1, 0, 0)]) := GR.gg (l := [20]) (ms := [51, 23]) [] rd350 pc34
          have rd35 : GR Sx [20] jx 0 (bx) u0 [51, 23] jx (0) (bx) u0 (0 + 0) ([(5, (tkS Sx jx).1, 0, 0)]) := rd35a
          refine tn_callV (M := m_X5_statement) (pc := 101) (ix := 189) (ci := 5) (M' := m_X5_assignment) (As := []) (rest := []) dX5_statement_101 ok_X5_assignment im_X5_assignment se_X5_assignment ml5_189 np_X5_assignment rfl rfl ha rfl (Nat.le_of_ble_eq_true rfl) (Nat.le_of_ble_eq_true rfl) rfl (k_X5_assignment_f (d + 3 * lv + 9) (T := T) (σ := (sA 45 a ((σ.2.1 45 a) + 1) σ)) (a := a) (kp := kp) (bx := bx) ha (hw.put (by decide) (by decide) (fo_45 (by omega))) fx10 (by omega) (by omega) (hrp.put (by decide))) (fun r36 T38 σ37 gt39 hp => ?_)
          obtain ⟨v43, rfl, w44, F45, f40, f41, f42⟩ := hp
          replace ha : OB T38 a 5 := gt39.ob ha
          have rp47 : RP σ37 a (kp - 10 * v43 + 1) := RP.up f42 (by omega)
          show Tn _ _ 104 T38 σ37 [(0, .ref a), (1, .int (iI dp))] [.int (iI v43)] _
          have ra48 : v43 = 1 → YS σ37 a Sx nx bx [20] jx cx (Nx) bx [] ((jx : Int) + 1) := fun hv => by
            obtain ⟨i50, es51, m52, lo53, rr54, fx55, fx55m⟩ := f41.1 hv
            have fx55s : σ37.2.1 45 a ≤ (i50 : Int) := by rw [fx55.e45]; exact fx55m
            have rd56 : GR Sx [20] jx 0 (bx) u0 [] i50 (0) (bx) u0 (0 + 0 + m52) ([(5, (tkS Sx jx).1, 0, 0)] ++ es51) := GR.gg (l := [51, 23]) (ms := []) [] rd35 rr54
            have fe57 := RDX.nq (M := Nx + (0 + 0 + m52)) (RDX.cq (c2 := ([(5, (tkS Sx jx).1, 0, 0)] ++ es51).foldl uC cx) fx55 (by simp only [List.foldl_append, List.foldl_cons, List.foldl_nil])) (by omega)
            have fe57m : (([(5, (tkS Sx jx).1, 0, 0)] ++ es51).foldl uC cx).m = (σ.2.1 45 a) + 1 := (fe57.e45).symm.trans (rc_F F45 (Or.inl (by decide)) (by decide) (ra_eq))
            exact ⟨i50, [(5, (tkS Sx jx).1, 0, 0)] ++ es51, 0 + 0 + m52, (by omega), rd56, fe57, by rw [fe57m]; omega⟩
          have rb49 : v43 = 0 → YF σ37 a Sx bx [20] jx := fun hv => by
            obtain ⟨pl58, g59, fx60⟩ := f41.2 hv
            have rf61 : GRF Sx [20] jx 0 (bx) u0 (pl58) := GR.fl (l := [51, 23]) [] rd35 g59
            exact ⟨_, rf61, fx60⟩
          exact tn_zret (v := v43) rfl (by omega) dX5_statement_104 ⟨_, rfl, w44, ((FrC.rfl.put (by decide) (by decide)).trans (FrC.sub F45 (by decide))), by omega, ⟨ra48, rb49⟩, (RP.up rp47 (by omega))⟩
        · refine tn_tableIn (tgt := 131) (off := 72) dX5_statement_59 (x := σ.2.1 85 x11) ⟨by omega, by omega⟩ (by omega) (by omega) (by rw [h33]; rfl) (by decide) ?_
          refine tn_aload_n dX5_statement_131 rfl 0 rfl ?_
          refine tn_callV (M := m_X5_statement) (pc := 132) (ix := 90) (ci := 5) (M' := m_X5_refuse) (As := []) (rest := []) dX5_statement_132 ok_X5_refuse im_X5_refuse se_X5_refuse ml5_90 np_X5_refuse rfl rfl ha rfl (Nat.le_of_ble_eq_true rfl) (Nat.le_of_ble_eq_true rfl) rfl (k_X5_refuse_f (d + 3 * lv + 60) (T := T) (σ := (sA 45 a ((σ.2.1 45 a) + 1) σ)) (a := a) ha (hw.put (by decide) (by decide) (fo_45 (by omega))) (fx10).1.1) (fun r62 T64 σ63 gt65 hp => ?_)
          obtain ⟨v70, rfl, rfl, w71, F72, f66, f67, f68, f69⟩ := hp
          clear gt65
          have pc73 : GRF Sx [20] jx (0) (bx) u0 (tkS Sx jx).1 := x20f hSb (by omega)
          have rf740 : GR Sx [20] jx 0 (bx) u0 [20] jx (0) (bx) u0 (0) ([]) := GR.nl
          have rf74 : GRF Sx [20] jx 0 (bx) u0 ((tkS Sx jx).1) := GR.fl (l := [20]) [] rf740 pc73
          have rp75 : RP σ63 a (kp) := RP.frc (hrp.put (by decide)) F72 (by decide) (by decide) (by decide) (by decide) (by decide)
          show Tn _ _ 135 T σ63 [(0, .ref a), (1, .int (iI dp))] [.int (iI v70)] _
          have rb77 : YF σ63 a Sx bx [20] jx := ⟨_, rf74, f68⟩
          exact tn_zret (v := v70) rfl (by omega) dX5_statement_135 ⟨_, rfl, w71, ((FrC.rfl.put (by decide) (by decide)).trans (FrC.sub F72 (by decide))), by omega, ⟨fun q => absurd q (by omega), fun _ => rb77⟩, (RP.up rp75 (by omega))⟩
        · refine tn_tableIn (tgt := 105) (off := 46) dX5_statement_59 (x := σ.2.1 85 x11) ⟨by omega, by omega⟩ (by omega) (by omega) (by rw [h33]; rfl) (by decide) ?_
          refine tn_aload_n dX5_statement_105 rfl 0 rfl ?_
          refine tn_bipush dX5_statement_106 (by decide) ?_
          have pc78 : GR Sx [20] jx (0) (bx) u0 [51, 39] jx (0) (bx) u0 0 [(5, (tkS Sx jx).1, 0, 0)] := x20o hSb (by omega)
          have rd790 : GR Sx [20] jx 0 (bx) u0 [20] jx (0) (bx) u0 (0) ([]) := GR.nl
          have rd79a : GR Sx [20] jx 0 (bx) u0 [51, 39] jx (0) (bx) u0 (0 + 0) ([] ++ [(5, (tkS Sx jx).1, 0, 0)]) := GR.gg (l := [20]) (ms := [51, 39]) [] rd790 pc78
          have rd79 : GR Sx [20] jx 0 (bx) u0 [51, 39] jx (0) (bx) u0 (0 + 0) ([(5, (tkS Sx jx).1, 0, 0)]) := rd79a
          refine tn_callV (M := m_X5_statement) (pc := 108) (ix := 192) (ci := 5) (M' := m_X5_single) (As := [.int (iI 6)]) (rest := []) dX5_statement_108 ok_X5_single im_X5_single se_X5_single ml5_192 np_X5_single rfl rfl ha rfl (Nat.le_of_ble_eq_true rfl) (Nat.le_of_ble_eq_true rfl) rfl (k_X5_single_f (d + 3 * lv + 10) (T := T) (σ := (sA 45 a ((σ.2.1 45 a) + 1) σ)) (a := a) (k := 6) (kp := kp) (bx := bx) ha (by decide) (hw.put (by decide) (by decide) (fo_45 (by omega))) (by omega) fx10 (by omega) (by omega) (hrp.put (by decide))) (fun r80 T82 σ81 gt83 hp => ?_)
          obtain ⟨v87, rfl, w88, F89, f84, f85, f86⟩ := hp
          replace ha : OB T82 a 5 := gt83.ob ha
          have rp91 : RP σ81 a (kp - 7 * v87 + 1) := RP.up f86 (by omega)
          show Tn _ _ 111 T82 σ81 [(0, .ref a), (1, .int (iI dp))] [.int (iI v87)] _
          have ra92 : v87 = 1 → YS σ81 a Sx nx bx [20] jx cx (Nx) bx [] ((jx : Int) + 1) := fun hv => by
            obtain ⟨i94, es95, m96, lo97, rr98, fx99, fx99m⟩ := f85.1 hv
            have fx99s : σ81.2.1 45 a ≤ (i94 : Int) := by rw [fx99.e45]; exact fx99m
            have rd100 : GR Sx [20] jx 0 (bx) u0 [] i94 (0) (bx) u0 (0 + 0 + m96) ([(5, (tkS Sx jx).1, 0, 0)] ++ es95) := GR.gg (l := [51, 39]) (ms := []) [] rd79 rr98
            have fe101 := RDX.nq (M := Nx + (0 + 0 + m96)) (RDX.cq (c2 := ([(5, (tkS Sx jx).1, 0, 0)] ++ es95).foldl uC cx) fx99 (by simp only [List.foldl_append, List.foldl_cons, List.foldl_nil])) (by omega)
            have fe101m : (([(5, (tkS Sx jx).1, 0, 0)] ++ es95).foldl uC cx).m = (σ.2.1 45 a) + 1 := (fe101.e45).symm.trans (rc_F F89 (Or.inl (by decide)) (by decide) (ra_eq))
            exact ⟨i94, [(5, (tkS Sx jx).1, 0, 0)] ++ es95, 0 + 0 + m96, (by omega), rd100, fe101, by rw [fe101m]; omega⟩
          have rb93 : v87 = 0 → YF σ81 a Sx bx [20] jx := fun hv => by
            obtain ⟨pl102, g103, fx104⟩ := f85.2 hv
            have rf105 : GRF Sx [20] jx 0 (bx) u0 (pl102) := GR.fl (l := [51, 39]) [] rd79 g103
            exact ⟨_, rf105, fx104⟩
          exact tn_zret (v := v87) rfl (by omega) dX5_statement_111 ⟨_, rfl, w88, ((FrC.rfl.put (by decide) (by decide)).trans (FrC.sub F89 (by decide))), by omega, ⟨ra92, rb93⟩, (RP.up rp91 (by omega))⟩
        · refine tn_tableIn (tgt := 112) (off := 53) dX5_statement_59 (x := σ.2.1 85 x11) ⟨by omega, by omega⟩ (by omega) (by omega) (by rw [h33]; rfl) (by decide) ?_
          refine tn_aload_n dX5_statement_112 rfl 0 rfl ?_
          refine tn_bipush dX5_statement_113 (by decide) ?_
          have pc106 : GR Sx [20] jx (0) (bx) u0 [51, 39] jx (0) (bx) u0 0 [(5, (tkS Sx jx).1, 0, 0)] := x20r hSb (by omega)
          have rd1070 : GR Sx [20] jx 0 (bx) u0 [20] jx (0) (bx) u0 (0) ([]) := GR.nl
          have rd107a : GR Sx [20] jx 0 (bx) u0 [51, 39] jx (0) (bx) u0 (0 + 0) ([] ++ [(5, (tkS Sx jx).1, 0, 0)]) := GR.gg (l := [20]) (ms := [51, 39]) [] rd1070 pc106
          have rd107 : GR Sx [20] jx 0 (bx) u0 [51, 39] jx (0) (bx) u0 (0 + 0) ([(5, (tkS Sx jx).1, 0, 0)]) := rd107a
          refine tn_callV (M := m_X5_statement) (pc := 115) (ix := 192) (ci := 5) (M' := m_X5_single) (As := [.int (iI 7)]) (rest := []) dX5_statement_115 ok_X5_single im_X5_single se_X5_single ml5_192 np_X5_single rfl rfl ha rfl (Nat.le_of_ble_eq_true rfl) (Nat.le_of_ble_eq_true rfl) rfl (k_X5_single_f (d + 3 * lv + 10) (T := T) (σ := (sA 45 a ((σ.2.1 45 a) + 1) σ)) (a := a) (k := 7) (kp := kp) (bx := bx) ha (by decide) (hw.put (by decide) (by decide) (fo_45 (by omega))) (by omega) fx10 (by omega) (by omega) (hrp.put (by decide))) (fun r108 T110 σ109 gt111 hp => ?_)
          obtain ⟨v115, rfl, w116, F117, f112, f113, f114⟩ := hp
          replace ha : OB T110 a 5 := gt111.ob ha
          have rp119 : RP σ109 a (kp - 7 * v115 + 1) := RP.up f114 (by omega)
          show Tn _ _ 118 T110 σ109 [(0, .ref a), (1, .int (iI dp))] [.int (iI v115)] _
          have ra120 : v115 = 1 → YS σ109 a Sx nx bx [20] jx cx (Nx) bx [] ((jx : Int) + 1) := fun hv => by
            obtain ⟨i122, es123, m124, lo125, rr126, fx127, fx127m⟩ := f113.1 hv
            have fx127s : σ109.2.1 45 a ≤ (i122 : Int) := by rw [fx127.e45]; exact fx127m
            have rd128 : GR Sx [20] jx 0 (bx) u0 [] i122 (0) (bx) u0 (0 + 0 + m124) ([(5, (tkS Sx jx).1, 0, 0)] ++ es123) := GR.gg (l := [51, 39]) (ms := []) [] rd107 rr126
            have fe129 := RDX.nq (M := Nx + (0 + 0 + m124)) (RDX.cq (c2 := ([(5, (tkS Sx jx).1, 0, 0)] ++ es123).foldl uC cx) fx127 (by simp only [List.foldl_append, List.foldl_cons, List.foldl_nil])) (by omega)
            have fe129m : (([(5, (tkS Sx jx).1, 0, 0)] ++ es123).foldl uC cx).m = (σ.2.1 45 a) + 1 := (fe129.e45).symm.trans (rc_F F117 (Or.inl (by decide)) (by decide) (ra_eq))
            exact ⟨i122, [(5, (tkS Sx jx).1, 0, 0)] ++ es123, 0 + 0 + m124, (by omega), rd128, fe129, by rw [fe129m]; omega⟩
          have rb121 : v115 = 0 → YF σ109 a Sx bx [20] jx := fun hv => by
            obtain ⟨pl130, g131, fx132⟩ := f113.2 hv
            have rf133 : GRF Sx [20] jx 0 (bx) u0 (pl130) := GR.fl (l := [51, 39]) [] rd107 g131
            exact ⟨_, rf133, fx132⟩
          exact tn_zret (v := v115) rfl (by omega) dX5_statement_118 ⟨_, rfl, w116, ((FrC.rfl.put (by decide) (by decide)).trans (FrC.sub F117 (by decide))), by omega, ⟨ra120, rb121⟩, (RP.up rp119 (by omega))⟩
        · refine tn_tableIn (tgt := 119) (off := 60) dX5_statement_59 (x := σ.2.1 85 x11) ⟨by omega, by omega⟩ (by omega) (by omega) (by rw [h33]; rfl) (by decide) ?_
          refine tn_aload_n dX5_statement_119 rfl 0 rfl ?_
          refine tn_iload_n dX5_statement_120 rfl 1 rfl ?_
          have pc134 : GR Sx [20] jx (0) (bx) u0 [51, 21] jx (0) (bx) u0 0 [(5, (tkS Sx jx).1, 0, 0)] := x20i hSb (by omega)
          have rd1350 : GR Sx [20] jx 0 (bx) u0 [20] jx (0) (bx) u0 (0) ([]) := GR.nl
          have rd135a : GR Sx [20] jx 0 (bx) u0 [51, 21] jx (0) (bx) u0 (0 + 0) ([] ++ [(5, (tkS Sx jx).1, 0, 0)]) := GR.gg (l := [20]) (ms := [51, 21]) [] rd1350 pc134
          have rd135 : GR Sx [20] jx 0 (bx) u0 [51, 21] jx (0) (bx) u0 (0 + 0) ([(5, (tkS Sx jx).1, 0, 0)]) := rd135a
          refine tn_callV (M := m_X5_statement) (pc := 121) (ix := 195) (ci := 5) (M' := m_X5_choice) (As := [.int (iI dp)]) (rest := []) dX5_statement_121 ok_X5_choice im_X5_choice se_X5_choice ml5_195 np_X5_choice rfl rfl ha rfl (Nat.le_of_ble_eq_true rfl) (Nat.le_of_ble_eq_true rfl) rfl (k_X5_choice_f (d) (T := T) (σ := (sA 45 a ((σ.2.1 45 a) + 1) σ)) (a := a) (dp := dp) (kp := kp) (lv := lv) (bx := bx) ha (by omega) (hw.put (by decide) (by decide) (fo_45 (by omega))) hex (by omega) (by omega) fx10 (by omega) (by omega) (by omega) (hrp.put (by decide))) (fun r136 T138 σ137 gt139 hp => ?_)
          obtain ⟨v143, rfl, w144, F145, f140, f141, f142⟩ := hp
          replace ha : OB T138 a 5 := gt139.ob ha
          have rp147 : RP σ137 a (kp - 10 * v143 + 1) := RP.up f142 (by omega)
          show Tn _ _ 124 T138 σ137 [(0, .ref a), (1, .int (iI dp))] [.int (iI v143)] _
          have ra148 : v143 = 1 → YS σ137 a Sx nx bx [20] jx cx (Nx) bx [] ((jx : Int) + 1) := fun hv => by
            obtain ⟨i150, es151, m152, lo153, rr154, fx155, fx155m⟩ := f141.1 hv
            have fx155s : σ137.2.1 45 a ≤ (i150 : Int) := by rw [fx155.e45]; exact fx155m
            have rd156 : GR Sx [20] jx 0 (bx) u0 [] i150 (0) (bx) u0 (0 + 0 + m152) ([(5, (tkS Sx jx).1, 0, 0)] ++ es151) := GR.gg (l := [51, 21]) (ms := []) [] rd135 rr154
            have fe157 := RDX.nq (M := Nx + (0 + 0 + m152)) (RDX.cq (c2 := ([(5, (tkS Sx jx).1, 0, 0)] ++ es151).foldl uC cx) fx155 (by simp only [List.foldl_append, List.foldl_cons, List.foldl_nil])) (by omega)
            have fe157m : (([(5, (tkS Sx jx).1, 0, 0)] ++ es151).foldl uC cx).m = σ137.2.1 45 a := (fe157.e45).symm.trans (rfl)
            exact ⟨i150, [(5, (tkS Sx jx).1, 0, 0)] ++ es151, 0 + 0 + m152, (by omega), rd156, fe157, by rw [fe157m]; omega⟩
          have rb149 : v143 = 0 → YF σ137 a Sx bx [20] jx := fun hv => by
            obtain ⟨pl158, g159, fx160⟩ := f141.2 hv
            have rf161 : GRF Sx [20] jx 0 (bx) u0 (pl158) := GR.fl (l := [51, 21]) [] rd135 g159
            exact ⟨_, rf161, fx160⟩
          exact tn_zret (v := v143) rfl (by omega) dX5_statement_124 ⟨_, rfl, w144, ((FrC.rfl.put (by decide) (by decide)).trans (FrC.sub F145 (by decide))), by omega, ⟨ra148, rb149⟩, (RP.up rp147 (by omega))⟩
        · refine tn_tableIn (tgt := 131) (off := 72) dX5_statement_59 (x := σ.2.1 85 x11) ⟨by omega, by omega⟩ (by omega) (by omega) (by rw [h33]; rfl) (by decide) ?_
          refine tn_aload_n dX5_statement_131 rfl 0 rfl ?_
          refine tn_callV (M := m_X5_statement) (pc := 132) (ix := 90) (ci := 5) (M' := m_X5_refuse) (As := []) (rest := []) dX5_statement_132 ok_X5_refuse im_X5_refuse se_X5_refuse ml5_90 np_X5_refuse rfl rfl ha rfl (Nat.le_of_ble_eq_true rfl) (Nat.le_of_ble_eq_true rfl) rfl (k_X5_refuse_f (d + 3 * lv + 60) (T := T) (σ := (sA 45 a ((σ.2.1 45 a) + 1) σ)) (a := a) ha (hw.put (by decide) (by decide) (fo_45 (by omega))) (fx10).1.1) (fun r162 T164 σ163 gt165 hp => ?_)
          obtain ⟨v170, rfl, rfl, w171, F172, f166, f167, f168, f169⟩ := hp
          clear gt165
          have pc173 : GRF Sx [20] jx (0) (bx) u0 (tkS Sx jx).1 := x20f hSb (by omega)
          have rf1740 : GR Sx [20] jx 0 (bx) u0 [20] jx (0) (bx) u0 (0) ([]) := GR.nl
          have rf174 : GRF Sx [20] jx 0 (bx) u0 ((tkS Sx jx).1) := GR.fl (l := [20]) [] rf1740 pc173
          have rp175 : RP σ163 a (kp) := RP.frc (hrp.put (by decide)) F172 (by decide) (by decide) (by decide) (by decide) (by decide)
          show Tn _ _ 135 T σ163 [(0, .ref a), (1, .int (iI dp))] [.int (iI v170)] _
          have rb177 : YF σ163 a Sx bx [20] jx := ⟨_, rf174, f168⟩
          exact tn_zret (v := v170) rfl (by omega) dX5_statement_135 ⟨_, rfl, w171, ((FrC.rfl.put (by decide) (by decide)).trans (FrC.sub F172 (by decide))), by omega, ⟨fun q => absurd q (by omega), fun _ => rb177⟩, (RP.up rp175 (by omega))⟩
        · refine tn_tableIn (tgt := 125) (off := 66) dX5_statement_59 (x := σ.2.1 85 x11) ⟨by omega, by omega⟩ (by omega) (by omega) (by rw [h33]; rfl) (by decide) ?_
          refine tn_aload_n dX5_statement_125 rfl 0 rfl ?_
          refine tn_iload_n dX5_statement_126 rfl 1 rfl ?_
          have pc178 : GR Sx [20] jx (0) (bx) u0 [22] jx (0) (bx) u0 0 [(5, (tkS Sx jx).1, 0, 0)] := x20w hSb (by omega)
          have rd1790 : GR Sx [20] jx 0 (bx) u0 [20] jx (0) (bx) u0 (0) ([]) := GR.nl
          have rd179a : GR Sx [20] jx 0 (bx) u0 [22] jx (0) (bx) u0 (0 + 0) ([] ++ [(5, (tkS Sx jx).1, 0, 0)]) := GR.gg (l := [20]) (ms := [22]) [] rd1790 pc178
          have rd179 : GR Sx [20] jx 0 (bx) u0 [22] jx (0) (bx) u0 (0 + 0) ([(5, (tkS Sx jx).1, 0, 0)]) := rd179a
          refine tn_callV (M := m_X5_statement) (pc := 127) (ix := 198) (ci := 5) (M' := m_X5_ring) (As := [.int (iI dp)]) (rest := []) dX5_statement_127 ok_X5_ring im_X5_ring se_X5_ring ml5_198 np_X5_ring rfl rfl ha rfl (Nat.le_of_ble_eq_true rfl) (Nat.le_of_ble_eq_true rfl) rfl (k_X5_ring_f (d) (T := T) (σ := (sA 45 a ((σ.2.1 45 a) + 1) σ)) (a := a) (dp := dp) (kp := kp) (lv := lv) (bx := bx) ha (by omega) (hw.put (by decide) (by decide) (fo_45 (by omega))) hex (by omega) (by omega) fx10 (by omega) (by omega) (by omega) (hrp.put (by decide))) (fun r180 T182 σ181 gt183 hp => ?_)
          obtain ⟨v187, rfl, w188, F189, f184, f185, f186⟩ := hp
          replace ha : OB T182 a 5 := gt183.ob ha
          have rp191 : RP σ181 a (kp - 9 * v187 + 2) := RP.up f186 (by omega)
          show Tn _ _ 130 T182 σ181 [(0, .ref a), (1, .int (iI dp))] [.int (iI v187)] _
          have ra192 : v187 = 1 → YS σ181 a Sx nx bx [20] jx cx (Nx) bx [] ((jx : Int) + 1) := fun hv => by
            obtain ⟨i194, es195, m196, lo197, rr198, fx199, fx199m⟩ := f185.1 hv
            have fx199s : σ181.2.1 45 a ≤ (i194 : Int) := by rw [fx199.e45]; exact fx199m
            have rd200 : GR Sx [20] jx 0 (bx) u0 [] i194 (0) (bx) u0 (0 + 0 + m196) ([(5, (tkS Sx jx).1, 0, 0)] ++ es195) := GR.gg (l := [22]) (ms := []) [] rd179 rr198
            have fe201 := RDX.nq (M := Nx + (0 + 0 + m196)) (RDX.cq (c2 := ([(5, (tkS Sx jx).1, 0, 0)] ++ es195).foldl uC cx) fx199 (by simp only [List.foldl_append, List.foldl_cons, List.foldl_nil])) (by omega)
            have fe201m : (([(5, (tkS Sx jx).1, 0, 0)] ++ es195).foldl uC cx).m = σ181.2.1 45 a := (fe201.e45).symm.trans (rfl)
            exact ⟨i194, [(5, (tkS Sx jx).1, 0, 0)] ++ es195, 0 + 0 + m196, (by omega), rd200, fe201, by rw [fe201m]; omega⟩
          have rb193 : v187 = 0 → YF σ181 a Sx bx [20] jx := fun hv => by
            obtain ⟨pl202, g203, fx204⟩ := f185.2 hv
            have rf205 : GRF Sx [20] jx 0 (bx) u0 (pl202) := GR.fl (l := [22]) [] rd179 g203
            exact ⟨_, rf205, fx204⟩
          exact tn_zret (v := v187) rfl (by omega) dX5_statement_130 ⟨_, rfl, w188, ((FrC.rfl.put (by decide) (by decide)).trans (FrC.sub F189 (by decide))), by omega, ⟨ra192, rb193⟩, (RP.up rp191 (by omega))⟩
    · refine tn_aload_n dX5_statement_41 rfl 0 rfl ?_
      refine tn_getR (ci := 5) (i := 2) (n := 35) (x := x4) dX5_statement_42 rfl lay_5 (by decide) fl5_47 ha rfl rfl (rc_o (by decide) (hx5)) ?_
      refine tn_aload_n dX5_statement_45 rfl 0 rfl ?_
      refine tn_getI (ci := 5) (i := 12) (n := 45) (t := (σ.2.1 45 a) + 1) dX5_statement_46 rfl lay_5 (by decide) fl5_64 ha rfl rfl (ra_eq) ?_
      refine tn_putV (ci := 1) (i := 4) (n := 9) (r := false) (v := (σ.2.1 45 a) + 1) tyX1 tyX1_ok nmX1 dX5_statement_49 rfl lay_1 (by decide) fl5_186 rfl (tyX1_ok 4 (by decide)) rfl rfl rfl hk6o rfl rfl ?_
      have fx206 : RDX (sA 9 x4 ((σ.2.1 45 a) + 1) (sA 45 a ((σ.2.1 45 a) + 1) σ)) a Sx nx jx (uC cx (5, (tkS Sx jx).1, 0, 0)) Nx := RDX.cq (fx2.pt (by decide) (by decide)) (by rw [uC5n (by omega)])
      refine tn_aload_n dX5_statement_52 rfl 0 rfl ?_
      obtain ⟨x207, hx208, hk209⟩ : ∃ x : Nat, σ.2.1 33 a = (x : Int) ∧ (T x).1 = 39 := wf_33 hw ha
      have hk209o : OB T x207 9 := ⟨by omega, by rw [hk209]; rfl, by omega⟩
      refine tn_getR (ci := 5) (i := 0) (n := 33) (x := x207) dX5_statement_53 rfl lay_5 (by decide) fl5_12 ha rfl rfl (rc_o (by decide) (rc_o (by decide) (hx208))) ?_
      refine tn_getI (ci := 9) (i := 4) (n := 85) (t := σ.2.1 85 x207) dX5_statement_56 rfl lay_9 (by decide) fl5_71 hk209o rfl rfl (rc_o (by decide) (rc_o (by decide) (rfl))) ?_
      have g211 : ((-2147483648 : Int) ≤ σ.2.1 85 x207 ∧ σ.2.1 85 x207 ≤ 2147483647) := wf_85 hw hk209o
      have g211kd : σ.2.1 85 x207 = ckd (tkS Sx jx) := (rc_o (by decide) (rc_o (by decide) (rfl))).symm.trans ((fx206).1.kd (rc_o (by decide) (rc_o (by decide) (hx208))))
      by_cases h212 : σ.2.1 85 x207 < 256 ∨ 262 < σ.2.1 85 x207
      · refine tn_tableOut (tgt := 131) dX5_statement_59 (x := σ.2.1 85 x207) ⟨by omega, by omega⟩ h212 (by decide) ?_
        refine tn_aload_n dX5_statement_131 rfl 0 rfl ?_
        refine tn_callV (M := m_X5_statement) (pc := 132) (ix := 90) (ci := 5) (M' := m_X5_refuse) (As := []) (rest := []) dX5_statement_132 ok_X5_refuse im_X5_refuse se_X5_refuse ml5_90 np_X5_refuse rfl rfl ha rfl (Nat.le_of_ble_eq_true rfl) (Nat.le_of_ble_eq_true rfl) rfl (k_X5_refuse_f (d + 3 * lv + 60) (T := T) (σ := (sA 9 x4 ((σ.2.1 45 a) + 1) (sA 45 a ((σ.2.1 45 a) + 1) σ))) (a := a) ha ((hw.put (by decide) (by decide) (fo_45 (by omega))).put (by decide) (by decide) (fo_9 (by omega))) (fx206).1.1) (fun r213 T215 σ214 gt216 hp => ?_)
        obtain ⟨v221, rfl, rfl, w222, F223, f217, f218, f219, f220⟩ := hp
        clear gt216
        have pc224 : GRF Sx [20] jx (0) (bx) u0 (tkS Sx jx).1 := x20f hSb (by omega)
        have rf2250 : GR Sx [20] jx 0 (bx) u0 [20] jx (0) (bx) u0 (0) ([]) := GR.nl
        have rf225 : GRF Sx [20] jx 0 (bx) u0 ((tkS Sx jx).1) := GR.fl (l := [20]) [] rf2250 pc224
        have rp226 : RP σ214 a (kp) := RP.frc ((hrp.put (by decide)).put (by decide)) F223 (by decide) (by decide) (by decide) (by decide) (by decide)
        show Tn _ _ 135 T σ214 [(0, .ref a), (1, .int (iI dp))] [.int (iI v221)] _
        have rb228 : YF σ214 a Sx bx [20] jx := ⟨_, rf225, f219⟩
        exact tn_zret (v := v221) rfl (by omega) dX5_statement_135 ⟨_, rfl, w222, (((FrC.rfl.put (by decide) (by decide)).put (by decide) (by decide)).trans (FrC.sub F223 (by decide))), by omega, ⟨fun q => absurd q (by omega), fun _ => rb228⟩, (RP.up rp226 (by omega))⟩
      · have h229 : σ.2.1 85 x207 = 256 ∨ σ.2.1 85 x207 = 257 ∨ σ.2.1 85 x207 = 258 ∨ σ.2.1 85 x207 = 259 ∨ σ.2.1 85 x207 = 260 ∨ σ.2.1 85 x207 = 261 ∨ σ.2.1 85 x207 = 262 := by omega
        rcases h229 with h229 | h229 | h229 | h229 | h229 | h229 | h229
        · refine tn_tableIn (tgt := 100) (off := 41) dX5_statement_59 (x := σ.2.1 85 x207) ⟨by omega, by omega⟩ (by omega) (by omega) (by rw [h229]; rfl) (by decide) ?_
          refine tn_aload_n dX5_statement_100 rfl 0 rfl ?_
          have pc230 : GR Sx [20] jx (0) (bx) u0 [51, 23] jx (0) (bx) u0 0 [(5, (tkS Sx jx).1, 0, 0)] := x20n hSb (by omega)
          have rd2310 : GR Sx [20] jx 0 (bx) u0 [20] jx (0) (bx) u0 (0) ([]) := GR.nl
          have rd231a : GR Sx [20] jx 0 (bx) u0 [51, 23] jx (0) (bx) u0 (0 + 0) ([] ++ [(5, (tkS Sx jx).1, 0, 0)]) := GR.gg (l := [20]) (ms := [51, 23]) [] rd2310 pc230
          have rd231 : GR Sx [20] jx 0 (bx) u0 [51, 23] jx (0) (bx) u0 (0 + 0) ([(5, (tkS Sx jx).1, 0, 0)]) := rd231a
          refine tn_callV (M := m_X5_statement) (pc := 101) (ix := 189) (ci := 5) (M' := m_X5_assignment) (As := []) (rest := []) dX5_statement_101 ok_X5_assignment im_X5_assignment se_X5_assignment ml5_189 np_X5_assignment rfl rfl ha rfl (Nat.le_of_ble_eq_true rfl) (Nat.le_of_ble_eq_true rfl) rfl (k_X5_assignment_f (d + 3 * lv + 9) (T := T) (σ := (sA 9 x4 ((σ.2.1 45 a) + 1) (sA 45 a ((σ.2.1 45 a) + 1) σ))) (a := a) (kp := kp) (bx := bx) ha ((hw.put (by decide) (by decide) (fo_45 (by omega))).put (by decide) (by decide) (fo_9 (by omega))) fx206 (by omega) (by omega) ((hrp.put (by decide)).put (by decide))) (fun r232 T234 σ233 gt235 hp => ?_)
          obtain ⟨v239, rfl, w240, F241, f236, f237, f238⟩ := hp
          replace ha : OB T234 a 5 := gt235.ob ha
          have rp243 : RP σ233 a (kp - 10 * v239 + 1) := RP.up f238 (by omega)
          show Tn _ _ 104 T234 σ233 [(0, .ref a), (1, .int (iI dp))] [.int (iI v239)] _
          have ra244 : v239 = 1 → YS σ233 a Sx nx bx [20] jx cx (Nx) bx [] ((jx : Int) + 1) := fun hv => by
            obtain ⟨i246, es247, m248, lo249, rr250, fx251, fx251m⟩ := f237.1 hv
            have fx251s : σ233.2.1 45 a ≤ (i246 : Int) := by rw [fx251.e45]; exact fx251m
            have rd252 : GR Sx [20] jx 0 (bx) u0 [] i246 (0) (bx) u0 (0 + 0 + m248) ([(5, (tkS Sx jx).1, 0, 0)] ++ es247) := GR.gg (l := [51, 23]) (ms := []) [] rd231 rr250
            have fe253 := RDX.nq (M := Nx + (0 + 0 + m248)) (RDX.cq (c2 := ([(5, (tkS Sx jx).1, 0, 0)] ++ es247).foldl uC cx) fx251 (by simp only [List.foldl_append, List.foldl_cons, List.foldl_nil])) (by omega)
            have fe253m : (([(5, (tkS Sx jx).1, 0, 0)] ++ es247).foldl uC cx).m = (σ.2.1 45 a) + 1 := (fe253.e45).symm.trans (rc_F F241 (Or.inl (by decide)) (by decide) (rc_o (by decide) (ra_eq)))
            exact ⟨i246, [(5, (tkS Sx jx).1, 0, 0)] ++ es247, 0 + 0 + m248, (by omega), rd252, fe253, by rw [fe253m]; omega⟩
          have rb245 : v239 = 0 → YF σ233 a Sx bx [20] jx := fun hv => by
            obtain ⟨pl254, g255, fx256⟩ := f237.2 hv
            have rf257 : GRF Sx [20] jx 0 (bx) u0 (pl254) := GR.fl (l := [51, 23]) [] rd231 g255
            exact ⟨_, rf257, fx256⟩
          exact tn_zret (v := v239) rfl (by omega) dX5_statement_104 ⟨_, rfl, w240, (((FrC.rfl.put (by decide) (by decide)).put (by decide) (by decide)).trans (FrC.sub F241 (by decide))), by omega, ⟨ra244, rb245⟩, (RP.up rp243 (by omega))⟩
        · refine tn_tableIn (tgt := 131) (off := 72) dX5_statement_59 (x := σ.2.1 85 x207) ⟨by omega, by omega⟩ (by omega) (by omega) (by rw [h229]; rfl) (by decide) ?_
          refine tn_aload_n dX5_statement_131 rfl 0 rfl ?_
          refine tn_callV (M := m_X5_statement) (pc := 132) (ix := 90) (ci := 5) (M' := m_X5_refuse) (As := []) (rest := []) dX5_statement_132 ok_X5_refuse im_X5_refuse se_X5_refuse ml5_90 np_X5_refuse rfl rfl ha rfl (Nat.le_of_ble_eq_true rfl) (Nat.le_of_ble_eq_true rfl) rfl (k_X5_refuse_f (d + 3 * lv + 60) (T := T) (σ := (sA 9 x4 ((σ.2.1 45 a) + 1) (sA 45 a ((σ.2.1 45 a) + 1) σ))) (a := a) ha ((hw.put (by decide) (by decide) (fo_45 (by omega))).put (by decide) (by decide) (fo_9 (by omega))) (fx206).1.1) (fun r258 T260 σ259 gt261 hp => ?_)
          obtain ⟨v266, rfl, rfl, w267, F268, f262, f263, f264, f265⟩ := hp
          clear gt261
          have pc269 : GRF Sx [20] jx (0) (bx) u0 (tkS Sx jx).1 := x20f hSb (by omega)
          have rf2700 : GR Sx [20] jx 0 (bx) u0 [20] jx (0) (bx) u0 (0) ([]) := GR.nl
          have rf270 : GRF Sx [20] jx 0 (bx) u0 ((tkS Sx jx).1) := GR.fl (l := [20]) [] rf2700 pc269
          have rp271 : RP σ259 a (kp) := RP.frc ((hrp.put (by decide)).put (by decide)) F268 (by decide) (by decide) (by decide) (by decide) (by decide)
          show Tn _ _ 135 T σ259 [(0, .ref a), (1, .int (iI dp))] [.int (iI v266)] _
          have rb273 : YF σ259 a Sx bx [20] jx := ⟨_, rf270, f264⟩
          exact tn_zret (v := v266) rfl (by omega) dX5_statement_135 ⟨_, rfl, w267, (((FrC.rfl.put (by decide) (by decide)).put (by decide) (by decide)).trans (FrC.sub F268 (by decide))), by omega, ⟨fun q => absurd q (by omega), fun _ => rb273⟩, (RP.up rp271 (by omega))⟩
        · refine tn_tableIn (tgt := 105) (off := 46) dX5_statement_59 (x := σ.2.1 85 x207) ⟨by omega, by omega⟩ (by omega) (by omega) (by rw [h229]; rfl) (by decide) ?_
          refine tn_aload_n dX5_statement_105 rfl 0 rfl ?_
          refine tn_bipush dX5_statement_106 (by decide) ?_
          have pc274 : GR Sx [20] jx (0) (bx) u0 [51, 39] jx (0) (bx) u0 0 [(5, (tkS Sx jx).1, 0, 0)] := x20o hSb (by omega)
          have rd2750 : GR Sx [20] jx 0 (bx) u0 [20] jx (0) (bx) u0 (0) ([]) := GR.nl
          have rd275a : GR Sx [20] jx 0 (bx) u0 [51, 39] jx (0) (bx) u0 (0 + 0) ([] ++ [(5, (tkS Sx jx).1, 0, 0)]) := GR.gg (l := [20]) (ms := [51, 39]) [] rd2750 pc274
          have rd275 : GR Sx [20] jx 0 (bx) u0 [51, 39] jx (0) (bx) u0 (0 + 0) ([(5, (tkS Sx jx).1, 0, 0)]) := rd275a
          refine tn_callV (M := m_X5_statement) (pc := 108) (ix := 192) (ci := 5) (M' := m_X5_single) (As := [.int (iI 6)]) (rest := []) dX5_statement_108 ok_X5_single im_X5_single se_X5_single ml5_192 np_X5_single rfl rfl ha rfl (Nat.le_of_ble_eq_true rfl) (Nat.le_of_ble_eq_true rfl) rfl (k_X5_single_f (d + 3 * lv + 10) (T := T) (σ := (sA 9 x4 ((σ.2.1 45 a) + 1) (sA 45 a ((σ.2.1 45 a) + 1) σ))) (a := a) (k := 6) (kp := kp) (bx := bx) ha (by decide) ((hw.put (by decide) (by decide) (fo_45 (by omega))).put (by decide) (by decide) (fo_9 (by omega))) (by omega) fx206 (by omega) (by omega) ((hrp.put (by decide)).put (by decide))) (fun r276 T278 σ277 gt279 hp => ?_)
          obtain ⟨v283, rfl, w284, F285, f280, f281, f282⟩ := hp
          replace ha : OB T278 a 5 := gt279.ob ha
          have rp287 : RP σ277 a (kp - 7 * v283 + 1) := RP.up f282 (by omega)
          show Tn _ _ 111 T278 σ277 [(0, .ref a), (1, .int (iI dp))] [.int (iI v283)] _
          have ra288 : v283 = 1 → YS σ277 a Sx nx bx [20] jx cx (Nx) bx [] ((jx : Int) + 1) := fun hv => by
            obtain ⟨i290, es291, m292, lo293, rr294, fx295, fx295m⟩ := f281.1 hv
            have fx295s : σ277.2.1 45 a ≤ (i290 : Int) := by rw [fx295.e45]; exact fx295m
            have rd296 : GR Sx [20] jx 0 (bx) u0 [] i290 (0) (bx) u0 (0 + 0 + m292) ([(5, (tkS Sx jx).1, 0, 0)] ++ es291) := GR.gg (l := [51, 39]) (ms := []) [] rd275 rr294
            have fe297 := RDX.nq (M := Nx + (0 + 0 + m292)) (RDX.cq (c2 := ([(5, (tkS Sx jx).1, 0, 0)] ++ es291).foldl uC cx) fx295 (by simp only [List.foldl_append, List.foldl_cons, List.foldl_nil])) (by omega)
            have fe297m : (([(5, (tkS Sx jx).1, 0, 0)] ++ es291).foldl uC cx).m = (σ.2.1 45 a) + 1 := (fe297.e45).symm.trans (rc_F F285 (Or.inl (by decide)) (by decide) (rc_o (by decide) (ra_eq)))
            exact ⟨i290, [(5, (tkS Sx jx).1, 0, 0)] ++ es291, 0 + 0 + m292, (by omega), rd296, fe297, by rw [fe297m]; omega⟩
          have rb289 : v283 = 0 → YF σ277 a Sx bx [20] jx := fun hv => by
            obtain ⟨pl298, g299, fx300⟩ := f281.2 hv
            have rf301 : GRF Sx [20] jx 0 (bx) u0 (pl298) := GR.fl (l := [51, 39]) [] rd275 g299
            exact ⟨_, rf301, fx300⟩
          exact tn_zret (v := v283) rfl (by omega) dX5_statement_111 ⟨_, rfl, w284, (((FrC.rfl.put (by decide) (by decide)).put (by decide) (by decide)).trans (FrC.sub F285 (by decide))), by omega, ⟨ra288, rb289⟩, (RP.up rp287 (by omega))⟩
        · refine tn_tableIn (tgt := 112) (off := 53) dX5_statement_59 (x := σ.2.1 85 x207) ⟨by omega, by omega⟩ (by omega) (by omega) (by rw [h229]; rfl) (by decide) ?_
          refine tn_aload_n dX5_statement_112 rfl 0 rfl ?_
          refine tn_bipush dX5_statement_113 (by decide) ?_
          have pc302 : GR Sx [20] jx (0) (bx) u0 [51, 39] jx (0) (bx) u0 0 [(5, (tkS Sx jx).1, 0, 0)] := x20r hSb (by omega)
          have rd3030 : GR Sx [20] jx 0 (bx) u0 [20] jx (0) (bx) u0 (0) ([]) := GR.nl
          have rd303a : GR Sx [20] jx 0 (bx) u0 [51, 39] jx (0) (bx) u0 (0 + 0) ([] ++ [(5, (tkS Sx jx).1, 0, 0)]) := GR.gg (l := [20]) (ms := [51, 39]) [] rd3030 pc302
          have rd303 : GR Sx [20] jx 0 (bx) u0 [51, 39] jx (0) (bx) u0 (0 + 0) ([(5, (tkS Sx jx).1, 0, 0)]) := rd303a
          refine tn_callV (M := m_X5_statement) (pc := 115) (ix := 192) (ci := 5) (M' := m_X5_single) (As := [.int (iI 7)]) (rest := []) dX5_statement_115 ok_X5_single im_X5_single se_X5_single ml5_192 np_X5_single rfl rfl ha rfl (Nat.le_of_ble_eq_true rfl) (Nat.le_of_ble_eq_true rfl) rfl (k_X5_single_f (d + 3 * lv + 10) (T := T) (σ := (sA 9 x4 ((σ.2.1 45 a) + 1) (sA 45 a ((σ.2.1 45 a) + 1) σ))) (a := a) (k := 7) (kp := kp) (bx := bx) ha (by decide) ((hw.put (by decide) (by decide) (fo_45 (by omega))).put (by decide) (by decide) (fo_9 (by omega))) (by omega) fx206 (by omega) (by omega) ((hrp.put (by decide)).put (by decide))) (fun r304 T306 σ305 gt307 hp => ?_)
          obtain ⟨v311, rfl, w312, F313, f308, f309, f310⟩ := hp
          replace ha : OB T306 a 5 := gt307.ob ha
          have rp315 : RP σ305 a (kp - 7 * v311 + 1) := RP.up f310 (by omega)
          show Tn _ _ 118 T306 σ305 [(0, .ref a), (1, .int (iI dp))] [.int (iI v311)] _
          have ra316 : v311 = 1 → YS σ305 a Sx nx bx [20] jx cx (Nx) bx [] ((jx : Int) + 1) := fun hv => by
            obtain ⟨i318, es319, m320, lo321, rr322, fx323, fx323m⟩ := f309.1 hv
            have fx323s : σ305.2.1 45 a ≤ (i318 : Int) := by rw [fx323.e45]; exact fx323m
            have rd324 : GR Sx [20] jx 0 (bx) u0 [] i318 (0) (bx) u0 (0 + 0 + m320) ([(5, (tkS Sx jx).1, 0, 0)] ++ es319) := GR.gg (l := [51, 39]) (ms := []) [] rd303 rr322
            have fe325 := RDX.nq (M := Nx + (0 + 0 + m320)) (RDX.cq (c2 := ([(5, (tkS Sx jx).1, 0, 0)] ++ es319).foldl uC cx) fx323 (by simp only [List.foldl_append, List.foldl_cons, List.foldl_nil])) (by omega)
            have fe325m : (([(5, (tkS Sx jx).1, 0, 0)] ++ es319).foldl uC cx).m = (σ.2.1 45 a) + 1 := (fe325.e45).symm.trans (rc_F F313 (Or.inl (by decide)) (by decide) (rc_o (by decide) (ra_eq)))
            exact ⟨i318, [(5, (tkS Sx jx).1, 0, 0)] ++ es319, 0 + 0 + m320, (by omega), rd324, fe325, by rw [fe325m]; omega⟩
          have rb317 : v311 = 0 → YF σ305 a Sx bx [20] jx := fun hv => by
            obtain ⟨pl326, g327, fx328⟩ := f309.2 hv
            have rf329 : GRF Sx [20] jx 0 (bx) u0 (pl326) := GR.fl (l := [51, 39]) [] rd303 g327
            exact ⟨_, rf329, fx328⟩
          exact tn_zret (v := v311) rfl (by omega) dX5_statement_118 ⟨_, rfl, w312, (((FrC.rfl.put (by decide) (by decide)).put (by decide) (by decide)).trans (FrC.sub F313 (by decide))), by omega, ⟨ra316, rb317⟩, (RP.up rp315 (by omega))⟩
        · refine tn_tableIn (tgt := 119) (off := 60) dX5_statement_59 (x := σ.2.1 85 x207) ⟨by omega, by omega⟩ (by omega) (by omega) (by rw [h229]; rfl) (by decide) ?_
          refine tn_aload_n dX5_statement_119 rfl 0 rfl ?_
          refine tn_iload_n dX5_statement_120 rfl 1 rfl ?_
          have pc330 : GR Sx [20] jx (0) (bx) u0 [51, 21] jx (0) (bx) u0 0 [(5, (tkS Sx jx).1, 0, 0)] := x20i hSb (by omega)
          have rd3310 : GR Sx [20] jx 0 (bx) u0 [20] jx (0) (bx) u0 (0) ([]) := GR.nl
          have rd331a : GR Sx [20] jx 0 (bx) u0 [51, 21] jx (0) (bx) u0 (0 + 0) ([] ++ [(5, (tkS Sx jx).1, 0, 0)]) := GR.gg (l := [20]) (ms := [51, 21]) [] rd3310 pc330
          have rd331 : GR Sx [20] jx 0 (bx) u0 [51, 21] jx (0) (bx) u0 (0 + 0) ([(5, (tkS Sx jx).1, 0, 0)]) := rd331a
          refine tn_callV (M := m_X5_statement) (pc := 121) (ix := 195) (ci := 5) (M' := m_X5_choice) (As := [.int (iI dp)]) (rest := []) dX5_statement_121 ok_X5_choice im_X5_choice se_X5_choice ml5_195 np_X5_choice rfl rfl ha rfl (Nat.le_of_ble_eq_true rfl) (Nat.le_of_ble_eq_true rfl) rfl (k_X5_choice_f (d) (T := T) (σ := (sA 9 x4 ((σ.2.1 45 a) + 1) (sA 45 a ((σ.2.1 45 a) + 1) σ))) (a := a) (dp := dp) (kp := kp) (lv := lv) (bx := bx) ha (by omega) ((hw.put (by decide) (by decide) (fo_45 (by omega))).put (by decide) (by decide) (fo_9 (by omega))) hex (by omega) (by omega) fx206 (by omega) (by omega) (by omega) ((hrp.put (by decide)).put (by decide))) (fun r332 T334 σ333 gt335 hp => ?_)
          obtain ⟨v339, rfl, w340, F341, f336, f337, f338⟩ := hp
          replace ha : OB T334 a 5 := gt335.ob ha
          have rp343 : RP σ333 a (kp - 10 * v339 + 1) := RP.up f338 (by omega)
          show Tn _ _ 124 T334 σ333 [(0, .ref a), (1, .int (iI dp))] [.int (iI v339)] _
          have ra344 : v339 = 1 → YS σ333 a Sx nx bx [20] jx cx (Nx) bx [] ((jx : Int) + 1) := fun hv => by
            obtain ⟨i346, es347, m348, lo349, rr350, fx351, fx351m⟩ := f337.1 hv
            have fx351s : σ333.2.1 45 a ≤ (i346 : Int) := by rw [fx351.e45]; exact fx351m
            have rd352 : GR Sx [20] jx 0 (bx) u0 [] i346 (0) (bx) u0 (0 + 0 + m348) ([(5, (tkS Sx jx).1, 0, 0)] ++ es347) := GR.gg (l := [51, 21]) (ms := []) [] rd331 rr350
            have fe353 := RDX.nq (M := Nx + (0 + 0 + m348)) (RDX.cq (c2 := ([(5, (tkS Sx jx).1, 0, 0)] ++ es347).foldl uC cx) fx351 (by simp only [List.foldl_append, List.foldl_cons, List.foldl_nil])) (by omega)
            have fe353m : (([(5, (tkS Sx jx).1, 0, 0)] ++ es347).foldl uC cx).m = σ333.2.1 45 a := (fe353.e45).symm.trans (rfl)
            exact ⟨i346, [(5, (tkS Sx jx).1, 0, 0)] ++ es347, 0 + 0 + m348, (by omega), rd352, fe353, by rw [fe353m]; omega⟩
          have rb345 : v339 = 0 → YF σ333 a Sx bx [20] jx := fun hv => by
            obtain ⟨pl354, g355, fx356⟩ := f337.2 hv
            have rf357 : GRF Sx [20] jx 0 (bx) u0 (pl354) := GR.fl (l := [51, 21]) [] rd331 g355
            exact ⟨_, rf357, fx356⟩
          exact tn_zret (v := v339) rfl (by omega) dX5_statement_124 ⟨_, rfl, w340, (((FrC.rfl.put (by decide) (by decide)).put (by decide) (by decide)).trans (FrC.sub F341 (by decide))), by omega, ⟨ra344, rb345⟩, (RP.up rp343 (by omega))⟩
        · refine tn_tableIn (tgt := 131) (off := 72) dX5_statement_59 (x := σ.2.1 85 x207) ⟨by omega, by omega⟩ (by omega) (by omega) (by rw [h229]; rfl) (by decide) ?_
          refine tn_aload_n dX5_statement_131 rfl 0 rfl ?_
          refine tn_callV (M := m_X5_statement) (pc := 132) (ix := 90) (ci := 5) (M' := m_X5_refuse) (As := []) (rest := []) dX5_statement_132 ok_X5_refuse im_X5_refuse se_X5_refuse ml5_90 np_X5_refuse rfl rfl ha rfl (Nat.le_of_ble_eq_true rfl) (Nat.le_of_ble_eq_true rfl) rfl (k_X5_refuse_f (d + 3 * lv + 60) (T := T) (σ := (sA 9 x4 ((σ.2.1 45 a) + 1) (sA 45 a ((σ.2.1 45 a) + 1) σ))) (a := a) ha ((hw.put (by decide) (by decide) (fo_45 (by omega))).put (by decide) (by decide) (fo_9 (by omega))) (fx206).1.1) (fun r358 T360 σ359 gt361 hp => ?_)
          obtain ⟨v366, rfl, rfl, w367, F368, f362, f363, f364, f365⟩ := hp
          clear gt361
          have pc369 : GRF Sx [20] jx (0) (bx) u0 (tkS Sx jx).1 := x20f hSb (by omega)
          have rf3700 : GR Sx [20] jx 0 (bx) u0 [20] jx (0) (bx) u0 (0) ([]) := GR.nl
          have rf370 : GRF Sx [20] jx 0 (bx) u0 ((tkS Sx jx).1) := GR.fl (l := [20]) [] rf3700 pc369
          have rp371 : RP σ359 a (kp) := RP.frc ((hrp.put (by decide)).put (by decide)) F368 (by decide) (by decide) (by decide) (by decide) (by decide)
          show Tn _ _ 135 T σ359 [(0, .ref a), (1, .int (iI dp))] [.int (iI v366)] _
          have rb373 : YF σ359 a Sx bx [20] jx := ⟨_, rf370, f364⟩
          exact tn_zret (v := v366) rfl (by omega) dX5_statement_135 ⟨_, rfl, w367, (((FrC.rfl.put (by decide) (by decide)).put (by decide) (by decide)).trans (FrC.sub F368 (by decide))), by omega, ⟨fun q => absurd q (by omega), fun _ => rb373⟩, (RP.up rp371 (by omega))⟩
        · refine tn_tableIn (tgt := 125) (off := 66) dX5_statement_59 (x := σ.2.1 85 x207) ⟨by omega, by omega⟩ (by omega) (by omega) (by rw [h229]; rfl) (by decide) ?_
          refine tn_aload_n dX5_statement_125 rfl 0 rfl ?_
          refine tn_iload_n dX5_statement_126 rfl 1 rfl ?_
          have pc374 : GR Sx [20] jx (0) (bx) u0 [22] jx (0) (bx) u0 0 [(5, (tkS Sx jx).1, 0, 0)] := x20w hSb (by omega)
          have rd3750 : GR Sx [20] jx 0 (bx) u0 [20] jx (0) (bx) u0 (0) ([]) := GR.nl
          have rd375a : GR Sx [20] jx 0 (bx) u0 [22] jx (0) (bx) u0 (0 + 0) ([] ++ [(5, (tkS Sx jx).1, 0, 0)]) := GR.gg (l := [20]) (ms := [22]) [] rd3750 pc374
          have rd375 : GR Sx [20] jx 0 (bx) u0 [22] jx (0) (bx) u0 (0 + 0) ([(5, (tkS Sx jx).1, 0, 0)]) := rd375a
          refine tn_callV (M := m_X5_statement) (pc := 127) (ix := 198) (ci := 5) (M' := m_X5_ring) (As := [.int (iI dp)]) (rest := []) dX5_statement_127 ok_X5_ring im_X5_ring se_X5_ring ml5_198 np_X5_ring rfl rfl ha rfl (Nat.le_of_ble_eq_true rfl) (Nat.le_of_ble_eq_true rfl) rfl (k_X5_ring_f (d) (T := T) (σ := (sA 9 x4 ((σ.2.1 45 a) + 1) (sA 45 a ((σ.2.1 45 a) + 1) σ))) (a := a) (dp := dp) (kp := kp) (lv := lv) (bx := bx) ha (by omega) ((hw.put (by decide) (by decide) (fo_45 (by omega))).put (by decide) (by decide) (fo_9 (by omega))) hex (by omega) (by omega) fx206 (by omega) (by omega) (by omega) ((hrp.put (by decide)).put (by decide))) (fun r376 T378 σ377 gt379 hp => ?_)
          obtain ⟨v383, rfl, w384, F385, f380, f381, f382⟩ := hp
          replace ha : OB T378 a 5 := gt379.ob ha
          have rp387 : RP σ377 a (kp - 9 * v383 + 2) := RP.up f382 (by omega)
          show Tn _ _ 130 T378 σ377 [(0, .ref a), (1, .int (iI dp))] [.int (iI v383)] _
          have ra388 : v383 = 1 → YS σ377 a Sx nx bx [20] jx cx (Nx) bx [] ((jx : Int) + 1) := fun hv => by
            obtain ⟨i390, es391, m392, lo393, rr394, fx395, fx395m⟩ := f381.1 hv
            have fx395s : σ377.2.1 45 a ≤ (i390 : Int) := by rw [fx395.e45]; exact fx395m
            have rd396 : GR Sx [20] jx 0 (bx) u0 [] i390 (0) (bx) u0 (0 + 0 + m392) ([(5, (tkS Sx jx).1, 0, 0)] ++ es391) := GR.gg (l := [22]) (ms := []) [] rd375 rr394
            have fe397 := RDX.nq (M := Nx + (0 + 0 + m392)) (RDX.cq (c2 := ([(5, (tkS Sx jx).1, 0, 0)] ++ es391).foldl uC cx) fx395 (by simp only [List.foldl_append, List.foldl_cons, List.foldl_nil])) (by omega)
            have fe397m : (([(5, (tkS Sx jx).1, 0, 0)] ++ es391).foldl uC cx).m = σ377.2.1 45 a := (fe397.e45).symm.trans (rfl)
            exact ⟨i390, [(5, (tkS Sx jx).1, 0, 0)] ++ es391, 0 + 0 + m392, (by omega), rd396, fe397, by rw [fe397m]; omega⟩
          have rb389 : v383 = 0 → YF σ377 a Sx bx [20] jx := fun hv => by
            obtain ⟨pl398, g399, fx400⟩ := f381.2 hv
            have rf401 : GRF Sx [20] jx 0 (bx) u0 (pl398) := GR.fl (l := [22]) [] rd375 g399
            exact ⟨_, rf401, fx400⟩
          exact tn_zret (v := v383) rfl (by omega) dX5_statement_130 ⟨_, rfl, w384, (((FrC.rfl.put (by decide) (by decide)).put (by decide) (by decide)).trans (FrC.sub F385 (by decide))), by omega, ⟨ra388, rb389⟩, (RP.up rp387 (by omega))⟩
  · refine tn_aload_n dX5_statement_19 rfl 0 rfl ?_
    refine tn_iconst dX5_statement_20 ?_
    refine tn_aload_n dX5_statement_21 rfl 0 rfl ?_
    obtain ⟨x402, hx403, hk404⟩ : ∃ x : Nat, σ.2.1 33 a = (x : Int) ∧ (T x).1 = 39 := wf_33 hw ha
    have hk404o : OB T x402 9 := ⟨by omega, by rw [hk404]; rfl, by omega⟩
    refine tn_getR (ci := 5) (i := 0) (n := 33) (x := x402) dX5_statement_22 rfl lay_5 (by decide) fl5_12 ha rfl rfl (rc_o (by decide) (hx403)) ?_
    refine tn_getI (ci := 9) (i := 6) (n := 87) (t := σ.2.1 87 x402) dX5_statement_25 rfl lay_9 (by decide) fl5_74 hk404o rfl rfl (rc_o (by decide) (rfl)) ?_
    have g406 : ((-2147483648 : Int) ≤ σ.2.1 87 x402 ∧ σ.2.1 87 x402 ≤ 2147483647) := wf_87 hw hk404o
    have g406pl : σ.2.1 87 x402 = (tkS Sx jx).1 := (rc_o (by decide) (rfl)).symm.trans ((fx2).1.pl (rc_o (by decide) (hx403)))
    refine tn_callV (M := m_X5_statement) (pc := 28) (ix := 113) (ci := 5) (M' := m_X5_note) (As := [.int (iI 5), .int (iI (σ.2.1 87 x402))]) (rest := []) dX5_statement_28 ok_X5_note im_X5_note se_X5_note ml5_113 np_X5_note rfl rfl ha rfl (Nat.le_of_ble_eq_true rfl) (Nat.le_of_ble_eq_true rfl) rfl (k_X5_note_f (d + 3 * lv + 60) (T := T) (σ := (sA 45 a ((σ.2.1 45 a) + 1) σ)) (a := a) (f := 5) (p := σ.2.1 87 x402) ha (by decide) (by omega) (hw.put (by decide) (by decide) (fo_45 (by omega))) ) (fun r407 T409 σ408 gt410 hp => ?_)
    obtain ⟨rfl, rfl, w413, F414, f411⟩ := hp
    clear gt410
    have fx415 : RDX σ408 a Sx nx jx (fpC (cntN 5 (σ.2.1 87 x402) (msC (cx.m + 1) cx).fp) (msC (cx.m + 1) cx)) (Nx) := RDX.nt fx2 (hw.put (by decide) (by decide) (fo_45 (by omega))) ha F414 f411
    have rp416 : RP σ408 a (kp) := RP.frc (hrp.put (by decide)) F414 (by decide) (by decide) (by decide) (by decide) (by decide)
    show Tn _ _ 31 T σ408 [(0, .ref a), (1, .int (iI dp))] [] _
    refine tn_aload_n dX5_statement_31 rfl 0 rfl ?_
    obtain ⟨x417, hx418, hk419⟩ : ∃ x : Nat, σ.2.1 35 a = (x : Int) ∧ (T x).1 = 31 := wf_35 hw ha
    have hk419o : OB T x417 1 := ⟨by omega, by rw [hk419]; rfl, by omega⟩
    refine tn_getR (ci := 5) (i := 2) (n := 35) (x := x417) dX5_statement_32 rfl lay_5 (by decide) fl5_47 ha rfl rfl (rc_F F414 (Or.inl (by decide)) (by decide) (rc_o (by decide) (hx418))) ?_
    refine tn_getI (ci := 1) (i := 4) (n := 9) (t := σ.2.1 9 x417) dX5_statement_35 rfl lay_1 (by decide) fl5_186 hk419o rfl rfl (rc_F F414 (Or.inl (by decide)) (by decide) (rc_o (by decide) (rfl))) ?_
    have g421 : ((-2147483648 : Int) ≤ σ.2.1 9 x417 ∧ σ.2.1 9 x417 ≤ 2147483647) := wf_9 hw hk419o
    refine tn_if_ne (tgt := 52) dX5_statement_38 (by decide) ⟨by omega, by omega⟩ (fun h422 => ?_) (fun h422 => ?_)
    · have fx423 : RDX σ408 a Sx nx jx (uC cx (5, (tkS Sx jx).1, 0, 0)) Nx := RDX.cq fx415 (by rw [g406pl, uC5o (by omega)]; rfl)
      refine tn_aload_n dX5_statement_52 rfl 0 rfl ?_
      refine tn_getR (ci := 5) (i := 0) (n := 33) (x := x402) dX5_statement_53 rfl lay_5 (by decide) fl5_12 ha rfl rfl (rc_F F414 (Or.inl (by decide)) (by decide) (rc_o (by decide) (hx403))) ?_
      refine tn_getI (ci := 9) (i := 4) (n := 85) (t := σ.2.1 85 x402) dX5_statement_56 rfl lay_9 (by decide) fl5_71 hk404o rfl rfl (rc_F F414 (Or.inl (by decide)) (by decide) (rc_o (by decide) (rfl))) ?_
      have g424 : ((-2147483648 : Int) ≤ σ.2.1 85 x402 ∧ σ.2.1 85 x402 ≤ 2147483647) := wf_85 hw hk404o
      have g424kd : σ.2.1 85 x402 = ckd (tkS Sx jx) := (rc_F F414 (Or.inl (by decide)) (by decide) (rc_o (by decide) (rfl))).symm.trans ((fx423).1.kd (rc_F F414 (Or.inl (by decide)) (by decide) (rc_o (by decide) (hx403))))
      by_cases h425 : σ.2.1 85 x402 < 256 ∨ 262 < σ.2.1 85 x402
      · refine tn_tableOut (tgt := 131) dX5_statement_59 (x := σ.2.1 85 x402) ⟨by omega, by omega⟩ h425 (by decide) ?_
        refine tn_aload_n dX5_statement_131 rfl 0 rfl ?_
        refine tn_callV (M := m_X5_statement) (pc := 132) (ix := 90) (ci := 5) (M' := m_X5_refuse) (As := []) (rest := []) dX5_statement_132 ok_X5_refuse im_X5_refuse se_X5_refuse ml5_90 np_X5_refuse rfl rfl ha rfl (Nat.le_of_ble_eq_true rfl) (Nat.le_of_ble_eq_true rfl) rfl (k_X5_refuse_f (d + 3 * lv + 60) (T := T) (σ := σ408) (a := a) ha w413 (fx423).1.1) (fun r426 T428 σ427 gt429 hp => ?_)
        obtain ⟨v434, rfl, rfl, w435, F436, f430, f431, f432, f433⟩ := hp
        clear gt429
        have pc437 : GRF Sx [20] jx (0) (bx) u0 (tkS Sx jx).1 := x20f hSb (by omega)
        have rf4380 : GR Sx [20] jx 0 (bx) u0 [20] jx (0) (bx) u0 (0) ([]) := GR.nl
        have rf438 : GRF Sx [20] jx 0 (bx) u0 ((tkS Sx jx).1) := GR.fl (l := [20]) [] rf4380 pc437
        have rp439 : RP σ427 a (kp) := RP.frc rp416 F436 (by decide) (by decide) (by decide) (by decide) (by decide)
        show Tn _ _ 135 T σ427 [(0, .ref a), (1, .int (iI dp))] [.int (iI v434)] _
        have rb441 : YF σ427 a Sx bx [20] jx := ⟨_, rf438, f432⟩
        exact tn_zret (v := v434) rfl (by omega) dX5_statement_135 ⟨_, rfl, w435, (((FrC.rfl.put (by decide) (by decide)).trans (FrC.sub F414 (by decide))).trans (FrC.sub F436 (by decide))), by omega, ⟨fun q => absurd q (by omega), fun _ => rb441⟩, (RP.up rp439 (by omega))⟩
      · have h442 : σ.2.1 85 x402 = 256 ∨ σ.2.1 85 x402 = 257 ∨ σ.2.1 85 x402 = 258 ∨ σ.2.1 85 x402 = 259 ∨ σ.2.1 85 x402 = 260 ∨ σ.2.1 85 x402 = 261 ∨ σ.2.1 85 x402 = 262 := by omega
        rcases h442 with h442 | h442 | h442 | h442 | h442 | h442 | h442
        · refine tn_tableIn (tgt := 100) (off := 41) dX5_statement_59 (x := σ.2.1 85 x402) ⟨by omega, by omega⟩ (by omega) (by omega) (by rw [h442]; rfl) (by decide) ?_
          refine tn_aload_n dX5_statement_100 rfl 0 rfl ?_
          have pc443 : GR Sx [20] jx (0) (bx) u0 [51, 23] jx (0) (bx) u0 0 [(5, (tkS Sx jx).1, 0, 0)] := x20n hSb (by omega)
          have rd4440 : GR Sx [20] jx 0 (bx) u0 [20] jx (0) (bx) u0 (0) ([]) := GR.nl
          have rd444a : GR Sx [20] jx 0 (bx) u0 [51, 23] jx (0) (bx) u0 (0 + 0) ([] ++ [(5, (tkS Sx jx).1, 0, 0)]) := GR.gg (l := [20]) (ms := [51, 23]) [] rd4440 pc443
          have rd444 : GR Sx [20] jx 0 (bx) u0 [51, 23] jx (0) (bx) u0 (0 + 0) ([(5, (tkS Sx jx).1, 0, 0)]) := rd444a
          refine tn_callV (M := m_X5_statement) (pc := 101) (ix := 189) (ci := 5) (M' := m_X5_assignment) (As := []) (rest := []) dX5_statement_101 ok_X5_assignment im_X5_assignment se_X5_assignment ml5_189 np_X5_assignment rfl rfl ha rfl (Nat.le_of_ble_eq_true rfl) (Nat.le_of_ble_eq_true rfl) rfl (k_X5_assignment_f (d + 3 * lv + 9) (T := T) (σ := σ408) (a := a) (kp := kp) (bx := bx) ha w413 fx423 (by omega) (by omega) rp416) (fun r445 T447 σ446 gt448 hp => ?_)
          obtain ⟨v452, rfl, w453, F454, f449, f450, f451⟩ := hp
          replace ha : OB T447 a 5 := gt448.ob ha
          have rp456 : RP σ446 a (kp - 10 * v452 + 1) := RP.up f451 (by omega)
          show Tn _ _ 104 T447 σ446 [(0, .ref a), (1, .int (iI dp))] [.int (iI v452)] _
          have ra457 : v452 = 1 → YS σ446 a Sx nx bx [20] jx cx (Nx) bx [] ((jx : Int) + 1) := fun hv => by
            obtain ⟨i459, es460, m461, lo462, rr463, fx464, fx464m⟩ := f450.1 hv
            have fx464s : σ446.2.1 45 a ≤ (i459 : Int) := by rw [fx464.e45]; exact fx464m
            have rd465 : GR Sx [20] jx 0 (bx) u0 [] i459 (0) (bx) u0 (0 + 0 + m461) ([(5, (tkS Sx jx).1, 0, 0)] ++ es460) := GR.gg (l := [51, 23]) (ms := []) [] rd444 rr463
            have fe466 := RDX.nq (M := Nx + (0 + 0 + m461)) (RDX.cq (c2 := ([(5, (tkS Sx jx).1, 0, 0)] ++ es460).foldl uC cx) fx464 (by simp only [List.foldl_append, List.foldl_cons, List.foldl_nil])) (by omega)
            have fe466m : (([(5, (tkS Sx jx).1, 0, 0)] ++ es460).foldl uC cx).m = (σ.2.1 45 a) + 1 := (fe466.e45).symm.trans (rc_F F454 (Or.inl (by decide)) (by decide) (rc_F F414 (Or.inl (by decide)) (by decide) (ra_eq)))
            exact ⟨i459, [(5, (tkS Sx jx).1, 0, 0)] ++ es460, 0 + 0 + m461, (by omega), rd465, fe466, by rw [fe466m]; omega⟩
          have rb458 : v452 = 0 → YF σ446 a Sx bx [20] jx := fun hv => by
            obtain ⟨pl467, g468, fx469⟩ := f450.2 hv
            have rf470 : GRF Sx [20] jx 0 (bx) u0 (pl467) := GR.fl (l := [51, 23]) [] rd444 g468
            exact ⟨_, rf470, fx469⟩
          exact tn_zret (v := v452) rfl (by omega) dX5_statement_104 ⟨_, rfl, w453, (((FrC.rfl.put (by decide) (by decide)).trans (FrC.sub F414 (by decide))).trans (FrC.sub F454 (by decide))), by omega, ⟨ra457, rb458⟩, (RP.up rp456 (by omega))⟩
        · refine tn_tableIn (tgt := 131) (off := 72) dX5_statement_59 (x := σ.2.1 85 x402) ⟨by omega, by omega⟩ (by omega) (by omega) (by rw [h442]; rfl) (by decide) ?_
          refine tn_aload_n dX5_statement_131 rfl 0 rfl ?_
          refine tn_callV (M := m_X5_statement) (pc := 132) (ix := 90) (ci := 5) (M' := m_X5_refuse) (As := []) (rest := []) dX5_statement_132 ok_X5_refuse im_X5_refuse se_X5_refuse ml5_90 np_X5_refuse rfl rfl ha rfl (Nat.le_of_ble_eq_true rfl) (Nat.le_of_ble_eq_true rfl) rfl (k_X5_refuse_f (d + 3 * lv + 60) (T := T) (σ := σ408) (a := a) ha w413 (fx423).1.1) (fun r471 T473 σ472 gt474 hp => ?_)
          obtain ⟨v479, rfl, rfl, w480, F481, f475, f476, f477, f478⟩ := hp
          clear gt474
          have pc482 : GRF Sx [20] jx (0) (bx) u0 (tkS Sx jx).1 := x20f hSb (by omega)
          have rf4830 : GR Sx [20] jx 0 (bx) u0 [20] jx (0) (bx) u0 (0) ([]) := GR.nl
          have rf483 : GRF Sx [20] jx 0 (bx) u0 ((tkS Sx jx).1) := GR.fl (l := [20]) [] rf4830 pc482
          have rp484 : RP σ472 a (kp) := RP.frc rp416 F481 (by decide) (by decide) (by decide) (by decide) (by decide)
          show Tn _ _ 135 T σ472 [(0, .ref a), (1, .int (iI dp))] [.int (iI v479)] _
          have rb486 : YF σ472 a Sx bx [20] jx := ⟨_, rf483, f477⟩
          exact tn_zret (v := v479) rfl (by omega) dX5_statement_135 ⟨_, rfl, w480, (((FrC.rfl.put (by decide) (by decide)).trans (FrC.sub F414 (by decide))).trans (FrC.sub F481 (by decide))), by omega, ⟨fun q => absurd q (by omega), fun _ => rb486⟩, (RP.up rp484 (by omega))⟩
        · refine tn_tableIn (tgt := 105) (off := 46) dX5_statement_59 (x := σ.2.1 85 x402) ⟨by omega, by omega⟩ (by omega) (by omega) (by rw [h442]; rfl) (by decide) ?_
          refine tn_aload_n dX5_statement_105 rfl 0 rfl ?_
          refine tn_bipush dX5_statement_106 (by decide) ?_
          have pc487 : GR Sx [20] jx (0) (bx) u0 [51, 39] jx (0) (bx) u0 0 [(5, (tkS Sx jx).1, 0, 0)] := x20o hSb (by omega)
          have rd4880 : GR Sx [20] jx 0 (bx) u0 [20] jx (0) (bx) u0 (0) ([]) := GR.nl
          have rd488a : GR Sx [20] jx 0 (bx) u0 [51, 39] jx (0) (bx) u0 (0 + 0) ([] ++ [(5, (tkS Sx jx).1, 0, 0)]) := GR.gg (l := [20]) (ms := [51, 39]) [] rd4880 pc487
          have rd488 : GR Sx [20] jx 0 (bx) u0 [51, 39] jx (0) (bx) u0 (0 + 0) ([(5, (tkS Sx jx).1, 0, 0)]) := rd488a
          refine tn_callV (M := m_X5_statement) (pc := 108) (ix := 192) (ci := 5) (M' := m_X5_single) (As := [.int (iI 6)]) (rest := []) dX5_statement_108 ok_X5_single im_X5_single se_X5_single ml5_192 np_X5_single rfl rfl ha rfl (Nat.le_of_ble_eq_true rfl) (Nat.le_of_ble_eq_true rfl) rfl (k_X5_single_f (d + 3 * lv + 10) (T := T) (σ := σ408) (a := a) (k := 6) (kp := kp) (bx := bx) ha (by decide) w413 (by omega) fx423 (by omega) (by omega) rp416) (fun r489 T491 σ490 gt492 hp => ?_)
          obtain ⟨v496, rfl, w497, F498, f493, f494, f495⟩ := hp
          replace ha : OB T491 a 5 := gt492.ob ha
          have rp500 : RP σ490 a (kp - 7 * v496 + 1) := RP.up f495 (by omega)
          show Tn _ _ 111 T491 σ490 [(0, .ref a), (1, .int (iI dp))] [.int (iI v496)] _
          have ra501 : v496 = 1 → YS σ490 a Sx nx bx [20] jx cx (Nx) bx [] ((jx : Int) + 1) := fun hv => by
            obtain ⟨i503, es504, m505, lo506, rr507, fx508, fx508m⟩ := f494.1 hv
            have fx508s : σ490.2.1 45 a ≤ (i503 : Int) := by rw [fx508.e45]; exact fx508m
            have rd509 : GR Sx [20] jx 0 (bx) u0 [] i503 (0) (bx) u0 (0 + 0 + m505) ([(5, (tkS Sx jx).1, 0, 0)] ++ es504) := GR.gg (l := [51, 39]) (ms := []) [] rd488 rr507
            have fe510 := RDX.nq (M := Nx + (0 + 0 + m505)) (RDX.cq (c2 := ([(5, (tkS Sx jx).1, 0, 0)] ++ es504).foldl uC cx) fx508 (by simp only [List.foldl_append, List.foldl_cons, List.foldl_nil])) (by omega)
            have fe510m : (([(5, (tkS Sx jx).1, 0, 0)] ++ es504).foldl uC cx).m = (σ.2.1 45 a) + 1 := (fe510.e45).symm.trans (rc_F F498 (Or.inl (by decide)) (by decide) (rc_F F414 (Or.inl (by decide)) (by decide) (ra_eq)))
            exact ⟨i503, [(5, (tkS Sx jx).1, 0, 0)] ++ es504, 0 + 0 + m505, (by omega), rd509, fe510, by rw [fe510m]; omega⟩
          have rb502 : v496 = 0 → YF σ490 a Sx bx [20] jx := fun hv => by
            obtain ⟨pl511, g512, fx513⟩ := f494.2 hv
            have rf514 : GRF Sx [20] jx 0 (bx) u0 (pl511) := GR.fl (l := [51, 39]) [] rd488 g512
            exact ⟨_, rf514, fx513⟩
          exact tn_zret (v := v496) rfl (by omega) dX5_statement_111 ⟨_, rfl, w497, (((FrC.rfl.put (by decide) (by decide)).trans (FrC.sub F414 (by decide))).trans (FrC.sub F498 (by decide))), by omega, ⟨ra501, rb502⟩, (RP.up rp500 (by omega))⟩
        · refine tn_tableIn (tgt := 112) (off := 53) dX5_statement_59 (x := σ.2.1 85 x402) ⟨by omega, by omega⟩ (by omega) (by omega) (by rw [h442]; rfl) (by decide) ?_
          refine tn_aload_n dX5_statement_112 rfl 0 rfl ?_
          refine tn_bipush dX5_statement_113 (by decide) ?_
          have pc515 : GR Sx [20] jx (0) (bx) u0 [51, 39] jx (0) (bx) u0 0 [(5, (tkS Sx jx).1, 0, 0)] := x20r hSb (by omega)
          have rd5160 : GR Sx [20] jx 0 (bx) u0 [20] jx (0) (bx) u0 (0) ([]) := GR.nl
          have rd516a : GR Sx [20] jx 0 (bx) u0 [51, 39] jx (0) (bx) u0 (0 + 0) ([] ++ [(5, (tkS Sx jx).1, 0, 0)]) := GR.gg (l := [20]) (ms := [51, 39]) [] rd5160 pc515
          have rd516 : GR Sx [20] jx 0 (bx) u0 [51, 39] jx (0) (bx) u0 (0 + 0) ([(5, (tkS Sx jx).1, 0, 0)]) := rd516a
          refine tn_callV (M := m_X5_statement) (pc := 115) (ix := 192) (ci := 5) (M' := m_X5_single) (As := [.int (iI 7)]) (rest := []) dX5_statement_115 ok_X5_single im_X5_single se_X5_single ml5_192 np_X5_single rfl rfl ha rfl (Nat.le_of_ble_eq_true rfl) (Nat.le_of_ble_eq_true rfl) rfl (k_X5_single_f (d + 3 * lv + 10) (T := T) (σ := σ408) (a := a) (k := 7) (kp := kp) (bx := bx) ha (by decide) w413 (by omega) fx423 (by omega) (by omega) rp416) (fun r517 T519 σ518 gt520 hp => ?_)
          obtain ⟨v524, rfl, w525, F526, f521, f522, f523⟩ := hp
          replace ha : OB T519 a 5 := gt520.ob ha
          have rp528 : RP σ518 a (kp - 7 * v524 + 1) := RP.up f523 (by omega)
          show Tn _ _ 118 T519 σ518 [(0, .ref a), (1, .int (iI dp))] [.int (iI v524)] _
          have ra529 : v524 = 1 → YS σ518 a Sx nx bx [20] jx cx (Nx) bx [] ((jx : Int) + 1) := fun hv => by
            obtain ⟨i531, es532, m533, lo534, rr535, fx536, fx536m⟩ := f522.1 hv
            have fx536s : σ518.2.1 45 a ≤ (i531 : Int) := by rw [fx536.e45]; exact fx536m
            have rd537 : GR Sx [20] jx 0 (bx) u0 [] i531 (0) (bx) u0 (0 + 0 + m533) ([(5, (tkS Sx jx).1, 0, 0)] ++ es532) := GR.gg (l := [51, 39]) (ms := []) [] rd516 rr535
            have fe538 := RDX.nq (M := Nx + (0 + 0 + m533)) (RDX.cq (c2 := ([(5, (tkS Sx jx).1, 0, 0)] ++ es532).foldl uC cx) fx536 (by simp only [List.foldl_append, List.foldl_cons, List.foldl_nil])) (by omega)
            have fe538m : (([(5, (tkS Sx jx).1, 0, 0)] ++ es532).foldl uC cx).m = (σ.2.1 45 a) + 1 := (fe538.e45).symm.trans (rc_F F526 (Or.inl (by decide)) (by decide) (rc_F F414 (Or.inl (by decide)) (by decide) (ra_eq)))
            exact ⟨i531, [(5, (tkS Sx jx).1, 0, 0)] ++ es532, 0 + 0 + m533, (by omega), rd537, fe538, by rw [fe538m]; omega⟩
          have rb530 : v524 = 0 → YF σ518 a Sx bx [20] jx := fun hv => by
            obtain ⟨pl539, g540, fx541⟩ := f522.2 hv
            have rf542 : GRF Sx [20] jx 0 (bx) u0 (pl539) := GR.fl (l := [51, 39]) [] rd516 g540
            exact ⟨_, rf542, fx541⟩
          exact tn_zret (v := v524) rfl (by omega) dX5_statement_118 ⟨_, rfl, w525, (((FrC.rfl.put (by decide) (by decide)).trans (FrC.sub F414 (by decide))).trans (FrC.sub F526 (by decide))), by omega, ⟨ra529, rb530⟩, (RP.up rp528 (by omega))⟩
        · refine tn_tableIn (tgt := 119) (off := 60) dX5_statement_59 (x := σ.2.1 85 x402) ⟨by omega, by omega⟩ (by omega) (by omega) (by rw [h442]; rfl) (by decide) ?_
          refine tn_aload_n dX5_statement_119 rfl 0 rfl ?_
          refine tn_iload_n dX5_statement_120 rfl 1 rfl ?_
          have pc543 : GR Sx [20] jx (0) (bx) u0 [51, 21] jx (0) (bx) u0 0 [(5, (tkS Sx jx).1, 0, 0)] := x20i hSb (by omega)
          have rd5440 : GR Sx [20] jx 0 (bx) u0 [20] jx (0) (bx) u0 (0) ([]) := GR.nl
          have rd544a : GR Sx [20] jx 0 (bx) u0 [51, 21] jx (0) (bx) u0 (0 + 0) ([] ++ [(5, (tkS Sx jx).1, 0, 0)]) := GR.gg (l := [20]) (ms := [51, 21]) [] rd5440 pc543
          have rd544 : GR Sx [20] jx 0 (bx) u0 [51, 21] jx (0) (bx) u0 (0 + 0) ([(5, (tkS Sx jx).1, 0, 0)]) := rd544a
          refine tn_callV (M := m_X5_statement) (pc := 121) (ix := 195) (ci := 5) (M' := m_X5_choice) (As := [.int (iI dp)]) (rest := []) dX5_statement_121 ok_X5_choice im_X5_choice se_X5_choice ml5_195 np_X5_choice rfl rfl ha rfl (Nat.le_of_ble_eq_true rfl) (Nat.le_of_ble_eq_true rfl) rfl (k_X5_choice_f (d) (T := T) (σ := σ408) (a := a) (dp := dp) (kp := kp) (lv := lv) (bx := bx) ha (by omega) w413 hex (by omega) (by omega) fx423 (by omega) (by omega) (by omega) rp416) (fun r545 T547 σ546 gt548 hp => ?_)
          obtain ⟨v552, rfl, w553, F554, f549, f550, f551⟩ := hp
          replace ha : OB T547 a 5 := gt548.ob ha
          have rp556 : RP σ546 a (kp - 10 * v552 + 1) := RP.up f551 (by omega)
          show Tn _ _ 124 T547 σ546 [(0, .ref a), (1, .int (iI dp))] [.int (iI v552)] _
          have ra557 : v552 = 1 → YS σ546 a Sx nx bx [20] jx cx (Nx) bx [] ((jx : Int) + 1) := fun hv => by
            obtain ⟨i559, es560, m561, lo562, rr563, fx564, fx564m⟩ := f550.1 hv
            have fx564s : σ546.2.1 45 a ≤ (i559 : Int) := by rw [fx564.e45]; exact fx564m
            have rd565 : GR Sx [20] jx 0 (bx) u0 [] i559 (0) (bx) u0 (0 + 0 + m561) ([(5, (tkS Sx jx).1, 0, 0)] ++ es560) := GR.gg (l := [51, 21]) (ms := []) [] rd544 rr563
            have fe566 := RDX.nq (M := Nx + (0 + 0 + m561)) (RDX.cq (c2 := ([(5, (tkS Sx jx).1, 0, 0)] ++ es560).foldl uC cx) fx564 (by simp only [List.foldl_append, List.foldl_cons, List.foldl_nil])) (by omega)
            have fe566m : (([(5, (tkS Sx jx).1, 0, 0)] ++ es560).foldl uC cx).m = σ546.2.1 45 a := (fe566.e45).symm.trans (rfl)
            exact ⟨i559, [(5, (tkS Sx jx).1, 0, 0)] ++ es560, 0 + 0 + m561, (by omega), rd565, fe566, by rw [fe566m]; omega⟩
          have rb558 : v552 = 0 → YF σ546 a Sx bx [20] jx := fun hv => by
            obtain ⟨pl567, g568, fx569⟩ := f550.2 hv
            have rf570 : GRF Sx [20] jx 0 (bx) u0 (pl567) := GR.fl (l := [51, 21]) [] rd544 g568
            exact ⟨_, rf570, fx569⟩
          exact tn_zret (v := v552) rfl (by omega) dX5_statement_124 ⟨_, rfl, w553, (((FrC.rfl.put (by decide) (by decide)).trans (FrC.sub F414 (by decide))).trans (FrC.sub F554 (by decide))), by omega, ⟨ra557, rb558⟩, (RP.up rp556 (by omega))⟩
        · refine tn_tableIn (tgt := 131) (off := 72) dX5_statement_59 (x := σ.2.1 85 x402) ⟨by omega, by omega⟩ (by omega) (by omega) (by rw [h442]; rfl) (by decide) ?_
          refine tn_aload_n dX5_statement_131 rfl 0 rfl ?_
          refine tn_callV (M := m_X5_statement) (pc := 132) (ix := 90) (ci := 5) (M' := m_X5_refuse) (As := []) (rest := []) dX5_statement_132 ok_X5_refuse im_X5_refuse se_X5_refuse ml5_90 np_X5_refuse rfl rfl ha rfl (Nat.le_of_ble_eq_true rfl) (Nat.le_of_ble_eq_true rfl) rfl (k_X5_refuse_f (d + 3 * lv + 60) (T := T) (σ := σ408) (a := a) ha w413 (fx423).1.1) (fun r571 T573 σ572 gt574 hp => ?_)
          obtain ⟨v579, rfl, rfl, w580, F581, f575, f576, f577, f578⟩ := hp
          clear gt574
          have pc582 : GRF Sx [20] jx (0) (bx) u0 (tkS Sx jx).1 := x20f hSb (by omega)
          have rf5830 : GR Sx [20] jx 0 (bx) u0 [20] jx (0) (bx) u0 (0) ([]) := GR.nl
          have rf583 : GRF Sx [20] jx 0 (bx) u0 ((tkS Sx jx).1) := GR.fl (l := [20]) [] rf5830 pc582
          have rp584 : RP σ572 a (kp) := RP.frc rp416 F581 (by decide) (by decide) (by decide) (by decide) (by decide)
          show Tn _ _ 135 T σ572 [(0, .ref a), (1, .int (iI dp))] [.int (iI v579)] _
          have rb586 : YF σ572 a Sx bx [20] jx := ⟨_, rf583, f577⟩
          exact tn_zret (v := v579) rfl (by omega) dX5_statement_135 ⟨_, rfl, w580, (((FrC.rfl.put (by decide) (by decide)).trans (FrC.sub F414 (by decide))).trans (FrC.sub F581 (by decide))), by omega, ⟨fun q => absurd q (by omega), fun _ => rb586⟩, (RP.up rp584 (by omega))⟩
        · refine tn_tableIn (tgt := 125) (off := 66) dX5_statement_59 (x := σ.2.1 85 x402) ⟨by omega, by omega⟩ (by omega) (by omega) (by rw [h442]; rfl) (by decide) ?_
          refine tn_aload_n dX5_statement_125 rfl 0 rfl ?_
          refine tn_iload_n dX5_statement_126 rfl 1 rfl ?_
          have pc587 : GR Sx [20] jx (0) (bx) u0 [22] jx (0) (bx) u0 0 [(5, (tkS Sx jx).1, 0, 0)] := x20w hSb (by omega)
          have rd5880 : GR Sx [20] jx 0 (bx) u0 [20] jx (0) (bx) u0 (0) ([]) := GR.nl
          have rd588a : GR Sx [20] jx 0 (bx) u0 [22] jx (0) (bx) u0 (0 + 0) ([] ++ [(5, (tkS Sx jx).1, 0, 0)]) := GR.gg (l := [20]) (ms := [22]) [] rd5880 pc587
          have rd588 : GR Sx [20] jx 0 (bx) u0 [22] jx (0) (bx) u0 (0 + 0) ([(5, (tkS Sx jx).1, 0, 0)]) := rd588a
          refine tn_callV (M := m_X5_statement) (pc := 127) (ix := 198) (ci := 5) (M' := m_X5_ring) (As := [.int (iI dp)]) (rest := []) dX5_statement_127 ok_X5_ring im_X5_ring se_X5_ring ml5_198 np_X5_ring rfl rfl ha rfl (Nat.le_of_ble_eq_true rfl) (Nat.le_of_ble_eq_true rfl) rfl (k_X5_ring_f (d) (T := T) (σ := σ408) (a := a) (dp := dp) (kp := kp) (lv := lv) (bx := bx) ha (by omega) w413 hex (by omega) (by omega) fx423 (by omega) (by omega) (by omega) rp416) (fun r589 T591 σ590 gt592 hp => ?_)
          obtain ⟨v596, rfl, w597, F598, f593, f594, f595⟩ := hp
          replace ha : OB T591 a 5 := gt592.ob ha
          have rp600 : RP σ590 a (kp - 9 * v596 + 2) := RP.up f595 (by omega)
          show Tn _ _ 130 T591 σ590 [(0, .ref a), (1, .int (iI dp))] [.int (iI v596)] _
          have ra601 : v596 = 1 → YS σ590 a Sx nx bx [20] jx cx (Nx) bx [] ((jx : Int) + 1) := fun hv => by
            obtain ⟨i603, es604, m605, lo606, rr607, fx608, fx608m⟩ := f594.1 hv
            have fx608s : σ590.2.1 45 a ≤ (i603 : Int) := by rw [fx608.e45]; exact fx608m
            have rd609 : GR Sx [20] jx 0 (bx) u0 [] i603 (0) (bx) u0 (0 + 0 + m605) ([(5, (tkS Sx jx).1, 0, 0)] ++ es604) := GR.gg (l := [22]) (ms := []) [] rd588 rr607
            have fe610 := RDX.nq (M := Nx + (0 + 0 + m605)) (RDX.cq (c2 := ([(5, (tkS Sx jx).1, 0, 0)] ++ es604).foldl uC cx) fx608 (by simp only [List.foldl_append, List.foldl_cons, List.foldl_nil])) (by omega)
            have fe610m : (([(5, (tkS Sx jx).1, 0, 0)] ++ es604).foldl uC cx).m = σ590.2.1 45 a := (fe610.e45).symm.trans (rfl)
            exact ⟨i603, [(5, (tkS Sx jx).1, 0, 0)] ++ es604, 0 + 0 + m605, (by omega), rd609, fe610, by rw [fe610m]; omega⟩
          have rb602 : v596 = 0 → YF σ590 a Sx bx [20] jx := fun hv => by
            obtain ⟨pl611, g612, fx613⟩ := f594.2 hv
            have rf614 : GRF Sx [20] jx 0 (bx) u0 (pl611) := GR.fl (l := [22]) [] rd588 g612
            exact ⟨_, rf614, fx613⟩
          exact tn_zret (v := v596) rfl (by omega) dX5_statement_130 ⟨_, rfl, w597, (((FrC.rfl.put (by decide) (by decide)).trans (FrC.sub F414 (by decide))).trans (FrC.sub F598 (by decide))), by omega, ⟨ra601, rb602⟩, (RP.up rp600 (by omega))⟩
    · refine tn_aload_n dX5_statement_41 rfl 0 rfl ?_
      refine tn_getR (ci := 5) (i := 2) (n := 35) (x := x417) dX5_statement_42 rfl lay_5 (by decide) fl5_47 ha rfl rfl (rc_F F414 (Or.inl (by decide)) (by decide) (rc_o (by decide) (hx418))) ?_
      refine tn_aload_n dX5_statement_45 rfl 0 rfl ?_
      refine tn_getI (ci := 5) (i := 12) (n := 45) (t := (σ.2.1 45 a) + 1) dX5_statement_46 rfl lay_5 (by decide) fl5_64 ha rfl rfl (rc_F F414 (Or.inl (by decide)) (by decide) (ra_eq)) ?_
      refine tn_putV (ci := 1) (i := 4) (n := 9) (r := false) (v := (σ.2.1 45 a) + 1) tyX1 tyX1_ok nmX1 dX5_statement_49 rfl lay_1 (by decide) fl5_186 rfl (tyX1_ok 4 (by decide)) rfl rfl rfl hk419o rfl rfl ?_
      have fx615 : RDX (sA 9 x417 ((σ.2.1 45 a) + 1) σ408) a Sx nx jx (uC cx (5, (tkS Sx jx).1, 0, 0)) Nx := RDX.cq (fx415.pt (by decide) (by decide)) (by rw [g406pl, uC5o (by omega)]; rfl)
      refine tn_aload_n dX5_statement_52 rfl 0 rfl ?_
      refine tn_getR (ci := 5) (i := 0) (n := 33) (x := x402) dX5_statement_53 rfl lay_5 (by decide) fl5_12 ha rfl rfl (rc_o (by decide) (rc_F F414 (Or.inl (by decide)) (by decide) (rc_o (by decide) (hx403)))) ?_
      refine tn_getI (ci := 9) (i := 4) (n := 85) (t := σ.2.1 85 x402) dX5_statement_56 rfl lay_9 (by decide) fl5_71 hk404o rfl rfl (rc_o (by decide) (rc_F F414 (Or.inl (by decide)) (by decide) (rc_o (by decide) (rfl)))) ?_
      have g616 : ((-2147483648 : Int) ≤ σ.2.1 85 x402 ∧ σ.2.1 85 x402 ≤ 2147483647) := wf_85 hw hk404o
      have g616kd : σ.2.1 85 x402 = ckd (tkS Sx jx) := (rc_o (by decide) (rc_F F414 (Or.inl (by decide)) (by decide) (rc_o (by decide) (rfl)))).symm.trans ((fx615).1.kd (rc_o (by decide) (rc_F F414 (Or.inl (by decide)) (by decide) (rc_o (by decide) (hx403)))))
      by_cases h617 : σ.2.1 85 x402 < 256 ∨ 262 < σ.2.1 85 x402
      · refine tn_tableOut (tgt := 131) dX5_statement_59 (x := σ.2.1 85 x402) ⟨by omega, by omega⟩ h617 (by decide) ?_
        refine tn_aload_n dX5_statement_131 rfl 0 rfl ?_
        refine tn_callV (M := m_X5_statement) (pc := 132) (ix := 90) (ci := 5) (M' := m_X5_refuse) (As := []) (rest := []) dX5_statement_132 ok_X5_refuse im_X5_refuse se_X5_refuse ml5_90 np_X5_refuse rfl rfl ha rfl (Nat.le_of_ble_eq_true rfl) (Nat.le_of_ble_eq_true rfl) rfl (k_X5_refuse_f (d + 3 * lv + 60) (T := T) (σ := (sA 9 x417 ((σ.2.1 45 a) + 1) σ408)) (a := a) ha (w413.put (by decide) (by decide) (fo_9 (by omega))) (fx615).1.1) (fun r618 T620 σ619 gt621 hp => ?_)
        obtain ⟨v626, rfl, rfl, w627, F628, f622, f623, f624, f625⟩ := hp
        clear gt621
        have pc629 : GRF Sx [20] jx (0) (bx) u0 (tkS Sx jx).1 := x20f hSb (by omega)
        have rf6300 : GR Sx [20] jx 0 (bx) u0 [20] jx (0) (bx) u0 (0) ([]) := GR.nl
        have rf630 : GRF Sx [20] jx 0 (bx) u0 ((tkS Sx jx).1) := GR.fl (l := [20]) [] rf6300 pc629
        have rp631 : RP σ619 a (kp) := RP.frc (rp416.put (by decide)) F628 (by decide) (by decide) (by decide) (by decide) (by decide)
        show Tn _ _ 135 T σ619 [(0, .ref a), (1, .int (iI dp))] [.int (iI v626)] _
        have rb633 : YF σ619 a Sx bx [20] jx := ⟨_, rf630, f624⟩
        exact tn_zret (v := v626) rfl (by omega) dX5_statement_135 ⟨_, rfl, w627, ((((FrC.rfl.put (by decide) (by decide)).trans (FrC.sub F414 (by decide))).put (by decide) (by decide)).trans (FrC.sub F628 (by decide))), by omega, ⟨fun q => absurd q (by omega), fun _ => rb633⟩, (RP.up rp631 (by omega))⟩
      · have h634 : σ.2.1 85 x402 = 256 ∨ σ.2.1 85 x402 = 257 ∨ σ.2.1 85 x402 = 258 ∨ σ.2.1 85 x402 = 259 ∨ σ.2.1 85 x402 = 260 ∨ σ.2.1 85 x402 = 261 ∨ σ.2.1 85 x402 = 262 := by omega
        rcases h634 with h634 | h634 | h634 | h634 | h634 | h634 | h634
        · refine tn_tableIn (tgt := 100) (off := 41) dX5_statement_59 (x := σ.2.1 85 x402) ⟨by omega, by omega⟩ (by omega) (by omega) (by rw [h634]; rfl) (by decide) ?_
          refine tn_aload_n dX5_statement_100 rfl 0 rfl ?_
          have pc635 : GR Sx [20] jx (0) (bx) u0 [51, 23] jx (0) (bx) u0 0 [(5, (tkS Sx jx).1, 0, 0)] := x20n hSb (by omega)
          have rd6360 : GR Sx [20] jx 0 (bx) u0 [20] jx (0) (bx) u0 (0) ([]) := GR.nl
          have rd636a : GR Sx [20] jx 0 (bx) u0 [51, 23] jx (0) (bx) u0 (0 + 0) ([] ++ [(5, (tkS Sx jx).1, 0, 0)]) := GR.gg (l := [20]) (ms := [51, 23]) [] rd6360 pc635
          have rd636 : GR Sx [20] jx 0 (bx) u0 [51, 23] jx (0) (bx) u0 (0 + 0) ([(5, (tkS Sx jx).1, 0, 0)]) := rd636a
          refine tn_callV (M := m_X5_statement) (pc := 101) (ix := 189) (ci := 5) (M' := m_X5_assignment) (As := []) (rest := []) dX5_statement_101 ok_X5_assignment im_X5_assignment se_X5_assignment ml5_189 np_X5_assignment rfl rfl ha rfl (Nat.le_of_ble_eq_true rfl) (Nat.le_of_ble_eq_true rfl) rfl (k_X5_assignment_f (d + 3 * lv + 9) (T := T) (σ := (sA 9 x417 ((σ.2.1 45 a) + 1) σ408)) (a := a) (kp := kp) (bx := bx) ha (w413.put (by decide) (by decide) (fo_9 (by omega))) fx615 (by omega) (by omega) (rp416.put (by decide))) (fun r637 T639 σ638 gt640 hp => ?_)
          obtain ⟨v644, rfl, w645, F646, f641, f642, f643⟩ := hp
          replace ha : OB T639 a 5 := gt640.ob ha
          have rp648 : RP σ638 a (kp - 10 * v644 + 1) := RP.up f643 (by omega)
          show Tn _ _ 104 T639 σ638 [(0, .ref a), (1, .int (iI dp))] [.int (iI v644)] _
          have ra649 : v644 = 1 → YS σ638 a Sx nx bx [20] jx cx (Nx) bx [] ((jx : Int) + 1) := fun hv => by
            obtain ⟨i651, es652, m653, lo654, rr655, fx656, fx656m⟩ := f642.1 hv
            have fx656s : σ638.2.1 45 a ≤ (i651 : Int) := by rw [fx656.e45]; exact fx656m
            have rd657 : GR Sx [20] jx 0 (bx) u0 [] i651 (0) (bx) u0 (0 + 0 + m653) ([(5, (tkS Sx jx).1, 0, 0)] ++ es652) := GR.gg (l := [51, 23]) (ms := []) [] rd636 rr655
            have fe658 := RDX.nq (M := Nx + (0 + 0 + m653)) (RDX.cq (c2 := ([(5, (tkS Sx jx).1, 0, 0)] ++ es652).foldl uC cx) fx656 (by simp only [List.foldl_append, List.foldl_cons, List.foldl_nil])) (by omega)
            have fe658m : (([(5, (tkS Sx jx).1, 0, 0)] ++ es652).foldl uC cx).m = (σ.2.1 45 a) + 1 := (fe658.e45).symm.trans (rc_F F646 (Or.inl (by decide)) (by decide) (rc_o (by decide) (rc_F F414 (Or.inl (by decide)) (by decide) (ra_eq))))
            exact ⟨i651, [(5, (tkS Sx jx).1, 0, 0)] ++ es652, 0 + 0 + m653, (by omega), rd657, fe658, by rw [fe658m]; omega⟩
          have rb650 : v644 = 0 → YF σ638 a Sx bx [20] jx := fun hv => by
            obtain ⟨pl659, g660, fx661⟩ := f642.2 hv
            have rf662 : GRF Sx [20] jx 0 (bx) u0 (pl659) := GR.fl (l := [51, 23]) [] rd636 g660
            exact ⟨_, rf662, fx661⟩
          exact tn_zret (v := v644) rfl (by omega) dX5_statement_104 ⟨_, rfl, w645, ((((FrC.rfl.put (by decide) (by decide)).trans (FrC.sub F414 (by decide))).put (by decide) (by decide)).trans (FrC.sub F646 (by decide))), by omega, ⟨ra649, rb650⟩, (RP.up rp648 (by omega))⟩
        · refine tn_tableIn (tgt := 131) (off := 72) dX5_statement_59 (x := σ.2.1 85 x402) ⟨by omega, by omega⟩ (by omega) (by omega) (by rw [h634]; rfl) (by decide) ?_
          refine tn_aload_n dX5_statement_131 rfl 0 rfl ?_
          refine tn_callV (M := m_X5_statement) (pc := 132) (ix := 90) (ci := 5) (M' := m_X5_refuse) (As := []) (rest := []) dX5_statement_132 ok_X5_refuse im_X5_refuse se_X5_refuse ml5_90 np_X5_refuse rfl rfl ha rfl (Nat.le_of_ble_eq_true rfl) (Nat.le_of_ble_eq_true rfl) rfl (k_X5_refuse_f (d + 3 * lv + 60) (T := T) (σ := (sA 9 x417 ((σ.2.1 45 a) + 1) σ408)) (a := a) ha (w413.put (by decide) (by decide) (fo_9 (by omega))) (fx615).1.1) (fun r663 T665 σ664 gt666 hp => ?_)
          obtain ⟨v671, rfl, rfl, w672, F673, f667, f668, f669, f670⟩ := hp
          clear gt666
          have pc674 : GRF Sx [20] jx (0) (bx) u0 (tkS Sx jx).1 := x20f hSb (by omega)
          have rf6750 : GR Sx [20] jx 0 (bx) u0 [20] jx (0) (bx) u0 (0) ([]) := GR.nl
          have rf675 : GRF Sx [20] jx 0 (bx) u0 ((tkS Sx jx).1) := GR.fl (l := [20]) [] rf6750 pc674
          have rp676 : RP σ664 a (kp) := RP.frc (rp416.put (by decide)) F673 (by decide) (by decide) (by decide) (by decide) (by decide)
          show Tn _ _ 135 T σ664 [(0, .ref a), (1, .int (iI dp))] [.int (iI v671)] _
          have rb678 : YF σ664 a Sx bx [20] jx := ⟨_, rf675, f669⟩
          exact tn_zret (v := v671) rfl (by omega) dX5_statement_135 ⟨_, rfl, w672, ((((FrC.rfl.put (by decide) (by decide)).trans (FrC.sub F414 (by decide))).put (by decide) (by decide)).trans (FrC.sub F673 (by decide))), by omega, ⟨fun q => absurd q (by omega), fun _ => rb678⟩, (RP.up rp676 (by omega))⟩
        · refine tn_tableIn (tgt := 105) (off := 46) dX5_statement_59 (x := σ.2.1 85 x402) ⟨by omega, by omega⟩ (by omega) (by omega) (by rw [h634]; rfl) (by decide) ?_
          refine tn_aload_n dX5_statement_105 rfl 0 rfl ?_
          refine tn_bipush dX5_statement_106 (by decide) ?_
          have pc679 : GR Sx [20] jx (0) (bx) u0 [51, 39] jx (0) (bx) u0 0 [(5, (tkS Sx jx).1, 0, 0)] := x20o hSb (by omega)
          have rd6800 : GR Sx [20] jx 0 (bx) u0 [20] jx (0) (bx) u0 (0) ([]) := GR.nl
          have rd680a : GR Sx [20] jx 0 (bx) u0 [51, 39] jx (0) (bx) u0 (0 + 0) ([] ++ [(5, (tkS Sx jx).1, 0, 0)]) := GR.gg (l := [20]) (ms := [51, 39]) [] rd6800 pc679
          have rd680 : GR Sx [20] jx 0 (bx) u0 [51, 39] jx (0) (bx) u0 (0 + 0) ([(5, (tkS Sx jx).1, 0, 0)]) := rd680a
          refine tn_callV (M := m_X5_statement) (pc := 108) (ix := 192) (ci := 5) (M' := m_X5_single) (As := [.int (iI 6)]) (rest := []) dX5_statement_108 ok_X5_single im_X5_single se_X5_single ml5_192 np_X5_single rfl rfl ha rfl (Nat.le_of_ble_eq_true rfl) (Nat.le_of_ble_eq_true rfl) rfl (k_X5_single_f (d + 3 * lv + 10) (T := T) (σ := (sA 9 x417 ((σ.2.1 45 a) + 1) σ408)) (a := a) (k := 6) (kp := kp) (bx := bx) ha (by decide) (w413.put (by decide) (by decide) (fo_9 (by omega))) (by omega) fx615 (by omega) (by omega) (rp416.put (by decide))) (fun r681 T683 σ682 gt684 hp => ?_)
          obtain ⟨v688, rfl, w689, F690, f685, f686, f687⟩ := hp
          replace ha : OB T683 a 5 := gt684.ob ha
          have rp692 : RP σ682 a (kp - 7 * v688 + 1) := RP.up f687 (by omega)
          show Tn _ _ 111 T683 σ682 [(0, .ref a), (1, .int (iI dp))] [.int (iI v688)] _
          have ra693 : v688 = 1 → YS σ682 a Sx nx bx [20] jx cx (Nx) bx [] ((jx : Int) + 1) := fun hv => by
            obtain ⟨i695, es696, m697, lo698, rr699, fx700, fx700m⟩ := f686.1 hv
            have fx700s : σ682.2.1 45 a ≤ (i695 : Int) := by rw [fx700.e45]; exact fx700m
            have rd701 : GR Sx [20] jx 0 (bx) u0 [] i695 (0) (bx) u0 (0 + 0 + m697) ([(5, (tkS Sx jx).1, 0, 0)] ++ es696) := GR.gg (l := [51, 39]) (ms := []) [] rd680 rr699
            have fe702 := RDX.nq (M := Nx + (0 + 0 + m697)) (RDX.cq (c2 := ([(5, (tkS Sx jx).1, 0, 0)] ++ es696).foldl uC cx) fx700 (by simp only [List.foldl_append, List.foldl_cons, List.foldl_nil])) (by omega)
            have fe702m : (([(5, (tkS Sx jx).1, 0, 0)] ++ es696).foldl uC cx).m = (σ.2.1 45 a) + 1 := (fe702.e45).symm.trans (rc_F F690 (Or.inl (by decide)) (by decide) (rc_o (by decide) (rc_F F414 (Or.inl (by decide)) (by decide) (ra_eq))))
            exact ⟨i695, [(5, (tkS Sx jx).1, 0, 0)] ++ es696, 0 + 0 + m697, (by omega), rd701, fe702, by rw [fe702m]; omega⟩
          have rb694 : v688 = 0 → YF σ682 a Sx bx [20] jx := fun hv => by
            obtain ⟨pl703, g704, fx705⟩ := f686.2 hv
            have rf706 : GRF Sx [20] jx 0 (bx) u0 (pl703) := GR.fl (l := [51, 39]) [] rd680 g704
            exact ⟨_, rf706, fx705⟩
          exact tn_zret (v := v688) rfl (by omega) dX5_statement_111 ⟨_, rfl, w689, ((((FrC.rfl.put (by decide) (by decide)).trans (FrC.sub F414 (by decide))).put (by decide) (by decide)).trans (FrC.sub F690 (by decide))), by omega, ⟨ra693, rb694⟩, (RP.up rp692 (by omega))⟩
        · refine tn_tableIn (tgt := 112) (off := 53) dX5_statement_59 (x := σ.2.1 85 x402) ⟨by omega, by omega⟩ (by omega) (by omega) (by rw [h634]; rfl) (by decide) ?_
          refine tn_aload_n dX5_statement_112 rfl 0 rfl ?_
          refine tn_bipush dX5_statement_113 (by decide) ?_
          have pc707 : GR Sx [20] jx (0) (bx) u0 [51, 39] jx (0) (bx) u0 0 [(5, (tkS Sx jx).1, 0, 0)] := x20r hSb (by omega)
          have rd7080 : GR Sx [20] jx 0 (bx) u0 [20] jx (0) (bx) u0 (0) ([]) := GR.nl
          have rd708a : GR Sx [20] jx 0 (bx) u0 [51, 39] jx (0) (bx) u0 (0 + 0) ([] ++ [(5, (tkS Sx jx).1, 0, 0)]) := GR.gg (l := [20]) (ms := [51, 39]) [] rd7080 pc707
          have rd708 : GR Sx [20] jx 0 (bx) u0 [51, 39] jx (0) (bx) u0 (0 + 0) ([(5, (tkS Sx jx).1, 0, 0)]) := rd708a
          refine tn_callV (M := m_X5_statement) (pc := 115) (ix := 192) (ci := 5) (M' := m_X5_single) (As := [.int (iI 7)]) (rest := []) dX5_statement_115 ok_X5_single im_X5_single se_X5_single ml5_192 np_X5_single rfl rfl ha rfl (Nat.le_of_ble_eq_true rfl) (Nat.le_of_ble_eq_true rfl) rfl (k_X5_single_f (d + 3 * lv + 10) (T := T) (σ := (sA 9 x417 ((σ.2.1 45 a) + 1) σ408)) (a := a) (k := 7) (kp := kp) (bx := bx) ha (by decide) (w413.put (by decide) (by decide) (fo_9 (by omega))) (by omega) fx615 (by omega) (by omega) (rp416.put (by decide))) (fun r709 T711 σ710 gt712 hp => ?_)
          obtain ⟨v716, rfl, w717, F718, f713, f714, f715⟩ := hp
          replace ha : OB T711 a 5 := gt712.ob ha
          have rp720 : RP σ710 a (kp - 7 * v716 + 1) := RP.up f715 (by omega)
          show Tn _ _ 118 T711 σ710 [(0, .ref a), (1, .int (iI dp))] [.int (iI v716)] _
          have ra721 : v716 = 1 → YS σ710 a Sx nx bx [20] jx cx (Nx) bx [] ((jx : Int) + 1) := fun hv => by
            obtain ⟨i723, es724, m725, lo726, rr727, fx728, fx728m⟩ := f714.1 hv
            have fx728s : σ710.2.1 45 a ≤ (i723 : Int) := by rw [fx728.e45]; exact fx728m
            have rd729 : GR Sx [20] jx 0 (bx) u0 [] i723 (0) (bx) u0 (0 + 0 + m725) ([(5, (tkS Sx jx).1, 0, 0)] ++ es724) := GR.gg (l := [51, 39]) (ms := []) [] rd708 rr727
            have fe730 := RDX.nq (M := Nx + (0 + 0 + m725)) (RDX.cq (c2 := ([(5, (tkS Sx jx).1, 0, 0)] ++ es724).foldl uC cx) fx728 (by simp only [List.foldl_append, List.foldl_cons, List.foldl_nil])) (by omega)
            have fe730m : (([(5, (tkS Sx jx).1, 0, 0)] ++ es724).foldl uC cx).m = (σ.2.1 45 a) + 1 := (fe730.e45).symm.trans (rc_F F718 (Or.inl (by decide)) (by decide) (rc_o (by decide) (rc_F F414 (Or.inl (by decide)) (by decide) (ra_eq))))
            exact ⟨i723, [(5, (tkS Sx jx).1, 0, 0)] ++ es724, 0 + 0 + m725, (by omega), rd729, fe730, by rw [fe730m]; omega⟩
          have rb722 : v716 = 0 → YF σ710 a Sx bx [20] jx := fun hv => by
            obtain ⟨pl731, g732, fx733⟩ := f714.2 hv
            have rf734 : GRF Sx [20] jx 0 (bx) u0 (pl731) := GR.fl (l := [51, 39]) [] rd708 g732
            exact ⟨_, rf734, fx733⟩
          exact tn_zret (v := v716) rfl (by omega) dX5_statement_118 ⟨_, rfl, w717, ((((FrC.rfl.put (by decide) (by decide)).trans (FrC.sub F414 (by decide))).put (by decide) (by decide)).trans (FrC.sub F718 (by decide))), by omega, ⟨ra721, rb722⟩, (RP.up rp720 (by omega))⟩
        · refine tn_tableIn (tgt := 119) (off := 60) dX5_statement_59 (x := σ.2.1 85 x402) ⟨by omega, by omega⟩ (by omega) (by omega) (by rw [h634]; rfl) (by decide) ?_
          refine tn_aload_n dX5_statement_119 rfl 0 rfl ?_
          refine tn_iload_n dX5_statement_120 rfl 1 rfl ?_
          have pc735 : GR Sx [20] jx (0) (bx) u0 [51, 21] jx (0) (bx) u0 0 [(5, (tkS Sx jx).1, 0, 0)] := x20i hSb (by omega)
          have rd7360 : GR Sx [20] jx 0 (bx) u0 [20] jx (0) (bx) u0 (0) ([]) := GR.nl
          have rd736a : GR Sx [20] jx 0 (bx) u0 [51, 21] jx (0) (bx) u0 (0 + 0) ([] ++ [(5, (tkS Sx jx).1, 0, 0)]) := GR.gg (l := [20]) (ms := [51, 21]) [] rd7360 pc735
          have rd736 : GR Sx [20] jx 0 (bx) u0 [51, 21] jx (0) (bx) u0 (0 + 0) ([(5, (tkS Sx jx).1, 0, 0)]) := rd736a
          refine tn_callV (M := m_X5_statement) (pc := 121) (ix := 195) (ci := 5) (M' := m_X5_choice) (As := [.int (iI dp)]) (rest := []) dX5_statement_121 ok_X5_choice im_X5_choice se_X5_choice ml5_195 np_X5_choice rfl rfl ha rfl (Nat.le_of_ble_eq_true rfl) (Nat.le_of_ble_eq_true rfl) rfl (k_X5_choice_f (d) (T := T) (σ := (sA 9 x417 ((σ.2.1 45 a) + 1) σ408)) (a := a) (dp := dp) (kp := kp) (lv := lv) (bx := bx) ha (by omega) (w413.put (by decide) (by decide) (fo_9 (by omega))) hex (by omega) (by omega) fx615 (by omega) (by omega) (by omega) (rp416.put (by decide))) (fun r737 T739 σ738 gt740 hp => ?_)
          obtain ⟨v744, rfl, w745, F746, f741, f742, f743⟩ := hp
          replace ha : OB T739 a 5 := gt740.ob ha
          have rp748 : RP σ738 a (kp - 10 * v744 + 1) := RP.up f743 (by omega)
          show Tn _ _ 124 T739 σ738 [(0, .ref a), (1, .int (iI dp))] [.int (iI v744)] _
          have ra749 : v744 = 1 → YS σ738 a Sx nx bx [20] jx cx (Nx) bx [] ((jx : Int) + 1) := fun hv => by
            obtain ⟨i751, es752, m753, lo754, rr755, fx756, fx756m⟩ := f742.1 hv
            have fx756s : σ738.2.1 45 a ≤ (i751 : Int) := by rw [fx756.e45]; exact fx756m
            have rd757 : GR Sx [20] jx 0 (bx) u0 [] i751 (0) (bx) u0 (0 + 0 + m753) ([(5, (tkS Sx jx).1, 0, 0)] ++ es752) := GR.gg (l := [51, 21]) (ms := []) [] rd736 rr755
            have fe758 := RDX.nq (M := Nx + (0 + 0 + m753)) (RDX.cq (c2 := ([(5, (tkS Sx jx).1, 0, 0)] ++ es752).foldl uC cx) fx756 (by simp only [List.foldl_append, List.foldl_cons, List.foldl_nil])) (by omega)
            have fe758m : (([(5, (tkS Sx jx).1, 0, 0)] ++ es752).foldl uC cx).m = σ738.2.1 45 a := (fe758.e45).symm.trans (rfl)
            exact ⟨i751, [(5, (tkS Sx jx).1, 0, 0)] ++ es752, 0 + 0 + m753, (by omega), rd757, fe758, by rw [fe758m]; omega⟩
          have rb750 : v744 = 0 → YF σ738 a Sx bx [20] jx := fun hv => by
            obtain ⟨pl759, g760, fx761⟩ := f742.2 hv
            have rf762 : GRF Sx [20] jx 0 (bx) u0 (pl759) := GR.fl (l := [51, 21]) [] rd736 g760
            exact ⟨_, rf762, fx761⟩
          exact tn_zret (v := v744) rfl (by omega) dX5_statement_124 ⟨_, rfl, w745, ((((FrC.rfl.put (by decide) (by decide)).trans (FrC.sub F414 (by decide))).put (by decide) (by decide)).trans (FrC.sub F746 (by decide))), by omega, ⟨ra749, rb750⟩, (RP.up rp748 (by omega))⟩
        · refine tn_tableIn (tgt := 131) (off := 72) dX5_statement_59 (x := σ.2.1 85 x402) ⟨by omega, by omega⟩ (by omega) (by omega) (by rw [h634]; rfl) (by decide) ?_
          refine tn_aload_n dX5_statement_131 rfl 0 rfl ?_
          refine tn_callV (M := m_X5_statement) (pc := 132) (ix := 90) (ci := 5) (M' := m_X5_refuse) (As := []) (rest := []) dX5_statement_132 ok_X5_refuse im_X5_refuse se_X5_refuse ml5_90 np_X5_refuse rfl rfl ha rfl (Nat.le_of_ble_eq_true rfl) (Nat.le_of_ble_eq_true rfl) rfl (k_X5_refuse_f (d + 3 * lv + 60) (T := T) (σ := (sA 9 x417 ((σ.2.1 45 a) + 1) σ408)) (a := a) ha (w413.put (by decide) (by decide) (fo_9 (by omega))) (fx615).1.1) (fun r763 T765 σ764 gt766 hp => ?_)
          obtain ⟨v771, rfl, rfl, w772, F773, f767, f768, f769, f770⟩ := hp
          clear gt766
          have pc774 : GRF Sx [20] jx (0) (bx) u0 (tkS Sx jx).1 := x20f hSb (by omega)
          have rf7750 : GR Sx [20] jx 0 (bx) u0 [20] jx (0) (bx) u0 (0) ([]) := GR.nl
          have rf775 : GRF Sx [20] jx 0 (bx) u0 ((tkS Sx jx).1) := GR.fl (l := [20]) [] rf7750 pc774
          have rp776 : RP σ764 a (kp) := RP.frc (rp416.put (by decide)) F773 (by decide) (by decide) (by decide) (by decide) (by decide)
          show Tn _ _ 135 T σ764 [(0, .ref a), (1, .int (iI dp))] [.int (iI v771)] _
          have rb778 : YF σ764 a Sx bx [20] jx := ⟨_, rf775, f769⟩
          exact tn_zret (v := v771) rfl (by omega) dX5_statement_135 ⟨_, rfl, w772, ((((FrC.rfl.put (by decide) (by decide)).trans (FrC.sub F414 (by decide))).put (by decide) (by decide)).trans (FrC.sub F773 (by decide))), by omega, ⟨fun q => absurd q (by omega), fun _ => rb778⟩, (RP.up rp776 (by omega))⟩
        · refine tn_tableIn (tgt := 125) (off := 66) dX5_statement_59 (x := σ.2.1 85 x402) ⟨by omega, by omega⟩ (by omega) (by omega) (by rw [h634]; rfl) (by decide) ?_
          refine tn_aload_n dX5_statement_125 rfl 0 rfl ?_
          refine tn_iload_n dX5_statement_126 rfl 1 rfl ?_
          have pc779 : GR Sx [20] jx (0) (bx) u0 [22] jx (0) (bx) u0 0 [(5, (tkS Sx jx).1, 0, 0)] := x20w hSb (by omega)
          have rd7800 : GR Sx [20] jx 0 (bx) u0 [20] jx (0) (bx) u0 (0) ([]) := GR.nl
          have rd780a : GR Sx [20] jx 0 (bx) u0 [22] jx (0) (bx) u0 (0 + 0) ([] ++ [(5, (tkS Sx jx).1, 0, 0)]) := GR.gg (l := [20]) (ms := [22]) [] rd7800 pc779
          have rd780 : GR Sx [20] jx 0 (bx) u0 [22] jx (0) (bx) u0 (0 + 0) ([(5, (tkS Sx jx).1, 0, 0)]) := rd780a
          refine tn_callV (M := m_X5_statement) (pc := 127) (ix := 198) (ci := 5) (M' := m_X5_ring) (As := [.int (iI dp)]) (rest := []) dX5_statement_127 ok_X5_ring im_X5_ring se_X5_ring ml5_198 np_X5_ring rfl rfl ha rfl (Nat.le_of_ble_eq_true rfl) (Nat.le_of_ble_eq_true rfl) rfl (k_X5_ring_f (d) (T := T) (σ := (sA 9 x417 ((σ.2.1 45 a) + 1) σ408)) (a := a) (dp := dp) (kp := kp) (lv := lv) (bx := bx) ha (by omega) (w413.put (by decide) (by decide) (fo_9 (by omega))) hex (by omega) (by omega) fx615 (by omega) (by omega) (by omega) (rp416.put (by decide))) (fun r781 T783 σ782 gt784 hp => ?_)
          obtain ⟨v788, rfl, w789, F790, f785, f786, f787⟩ := hp
          replace ha : OB T783 a 5 := gt784.ob ha
          have rp792 : RP σ782 a (kp - 9 * v788 + 2) := RP.up f787 (by omega)
          show Tn _ _ 130 T783 σ782 [(0, .ref a), (1, .int (iI dp))] [.int (iI v788)] _
          have ra793 : v788 = 1 → YS σ782 a Sx nx bx [20] jx cx (Nx) bx [] ((jx : Int) + 1) := fun hv => by
            obtain ⟨i795, es796, m797, lo798, rr799, fx800, fx800m⟩ := f786.1 hv
            have fx800s : σ782.2.1 45 a ≤ (i795 : Int) := by rw [fx800.e45]; exact fx800m
            have rd801 : GR Sx [20] jx 0 (bx) u0 [] i795 (0) (bx) u0 (0 + 0 + m797) ([(5, (tkS Sx jx).1, 0, 0)] ++ es796) := GR.gg (l := [22]) (ms := []) [] rd780 rr799
            have fe802 := RDX.nq (M := Nx + (0 + 0 + m797)) (RDX.cq (c2 := ([(5, (tkS Sx jx).1, 0, 0)] ++ es796).foldl uC cx) fx800 (by simp only [List.foldl_append, List.foldl_cons, List.foldl_nil])) (by omega)
            have fe802m : (([(5, (tkS Sx jx).1, 0, 0)] ++ es796).foldl uC cx).m = σ782.2.1 45 a := (fe802.e45).symm.trans (rfl)
            exact ⟨i795, [(5, (tkS Sx jx).1, 0, 0)] ++ es796, 0 + 0 + m797, (by omega), rd801, fe802, by rw [fe802m]; omega⟩
          have rb794 : v788 = 0 → YF σ782 a Sx bx [20] jx := fun hv => by
            obtain ⟨pl803, g804, fx805⟩ := f786.2 hv
            have rf806 : GRF Sx [20] jx 0 (bx) u0 (pl803) := GR.fl (l := [22]) [] rd780 g804
            exact ⟨_, rf806, fx805⟩
          exact tn_zret (v := v788) rfl (by omega) dX5_statement_130 ⟨_, rfl, w789, ((((FrC.rfl.put (by decide) (by decide)).trans (FrC.sub F414 (by decide))).put (by decide) (by decide)).trans (FrC.sub F790 (by decide))), by omega, ⟨ra793, rb794⟩, (RP.up rp792 (by omega))⟩
end
section
set_option maxHeartbeats 4000000 in
set_option maxRecDepth 20000 in
theorem k_X5_block_f0 (d : Nat) {T : CT} {σ : MS} {a : Nat} {dp : Int} {kp : Int} {Sx : Int → Int} {nx jx : Nat} {cx : CS} {Nx : Int} {bx : Int} (ha : OB T a 5) (h_dp : -2147483648 ≤ dp ∧ dp ≤ 2147483647) (hw : WT T σ) (h9 : 7 = dp) (hfx : RDX σ a Sx nx jx cx Nx) (hb : bx = dp - 1) (hm : cx.m ≤ (jx : Int)) (hkp : kp ≤ 140) (hrp : RP σ a kp) : Tn (d + 60) m_X5_block 0 T σ [(0, .ref a), (1, .int (iI dp))] [] (fun ro T2 σ2 => ∃ v : Int, ro = some (.int (iI v)) ∧ WT T2 σ2 ∧ FrC T [5, 6, 7, 9, 42, 43, 44, 45, 46, 47, 50, 51, 84, 85, 86, 87, 518, 519, 520, 521] σ σ2 ∧ (v = 0 ∨ v = 1) ∧ (YQ σ2 a Sx nx bx [28] jx cx (Nx) 2 v) ∧ (RP σ2 a (kp + 2 - 10 * v))) := by
  have hSb := hfx.1.sb
  have e45 := hfx.e45
  have hpo9 := hfx.po
  unfold PO at hpo9
  refine tn_iload_n dX5_block_0 rfl 1 rfl ?_
  refine tn_bipush dX5_block_1 (by decide) ?_
  refine tn_icmp_gt (tgt := 15) dX5_block_3 (by decide) ⟨by omega, by omega⟩ ⟨by decide, by decide⟩ (fun h1 => ?_) (fun h1 => absurd h1 (by omega))
  refine tn_aload_n dX5_block_15 rfl 0 rfl ?_
  refine tn_callV (M := m_X5_block) (pc := 16) (ix := 90) (ci := 5) (M' := m_X5_refuse) (As := []) (rest := []) dX5_block_16 ok_X5_refuse im_X5_refuse se_X5_refuse ml5_90 np_X5_refuse rfl rfl ha rfl (Nat.le_of_ble_eq_true rfl) (Nat.le_of_ble_eq_true rfl) rfl (k_X5_refuse_f (d + 58) (T := T) (σ := σ) (a := a) ha hw (hfx).1.1) (fun r2 T4 σ3 gt5 hp => ?_)
  obtain ⟨v10, rfl, rfl, w11, F12, f6, f7, f8, f9⟩ := hp
  clear gt5
  have pc13 : GRF Sx [28] jx (0) (bx) u0 (tkS Sx jx).1 := x28f hSb (by omega)
  have rf140 : GR Sx [28] jx 0 (bx) u0 [28] jx (0) (bx) u0 (0) ([]) := GR.nl
  have rf14 : GRF Sx [28] jx 0 (bx) u0 ((tkS Sx jx).1) := GR.fl (l := [28]) [] rf140 pc13
  have rp15 : RP σ3 a (kp) := RP.frc hrp F12 (by decide) (by decide) (by decide) (by decide) (by decide)
  show Tn _ _ 19 T σ3 [(0, .ref a), (1, .int (iI dp))] [.int (iI v10)] _
  have rb17 : YF σ3 a Sx bx [28] jx := ⟨_, rf14, f8⟩
  exact tn_zret (v := v10) rfl (by omega) dX5_block_19 ⟨_, rfl, w11, (FrC.rfl.trans (FrC.sub F12 (by decide))), by omega, ⟨fun q => absurd q (by omega), fun _ => rb17⟩, (RP.up rp15 (by omega))⟩
end
section
set_option maxHeartbeats 4000000 in
set_option maxRecDepth 20000 in
theorem l_X5_block_f1_22 (d : Nat) {T0 : CT} {σ0 : MS} {a : Nat} {c1 : Int} {Sx : Int → Int} {nx : Nat} {jx : Nat} {cx : CS} {Nx : Int} {bx : Int} {kp : Int} {lv : Nat} {post : Option Value → CT → MS → Prop} (r_c1 : 1 ≤ c1 ∧ c1 ≤ 6) (hw0 : WT T0 σ0) (hlv : 6 ≤ c1 + (lv : Int)) (hb : bx = c1 - 1) (hkp : kp ≤ 140) (hex : ∀ (d : Nat) {T : CT} {σ : MS} {a : Nat} {dp : Int} {kp : Int} {Sx : Int → Int} {nx jx : Nat} {cx : CS} {Nx : Int} {bx : Int} (ha : OB T a 5) (h_dp : -2147483648 ≤ dp ∧ dp ≤ 2147483647) (hw : WT T σ) (hdp : 1 ≤ dp ∧ dp ≤ 7) (hlv : 7 ≤ dp + (lv : Int)) (hfx : RDX σ a Sx nx jx cx Nx) (hb : bx = dp - 1) (hm : cx.m ≤ (jx : Int)) (hkp : kp ≤ 140) (hrp : RP σ a kp), Tn (d + 3 * lv + 60) m_X5_block 0 T σ [(0, .ref a), (1, .int (iI dp))] [] (fun ro T2 σ2 => ∃ v : Int, ro = some (.int (iI v)) ∧ WT T2 σ2 ∧ FrC T [5, 6, 7, 9, 42, 43, 44, 45, 46, 47, 50, 51, 84, 85, 86, 87, 518, 519, 520, 521] σ σ2 ∧ (v = 0 ∨ v = 1) ∧ (YQ σ2 a Sx nx bx [28] jx cx (Nx) 2 v) ∧ (RP σ2 a (kp + 2 - 10 * v)))) (hx_49 : ∀ (T : CT) (i2 : Int) (σ : MS) , (GT T0 T) → (WT T σ) → (FrC T0 [5, 6, 7, 9, 42, 43, 44, 45, 46, 47, 50, 51, 84, 85, 86, 87, 518, 519, 520, 521] σ0 σ) → (OB T a 5) → (0 ≤ i2 ∧ i2 ≤ 2147483647) → (True) → (RP σ a (kp + 2)) → (YF σ a Sx bx [28] jx) → Tn (d + 3 * lv + 63) m_X5_block 49 T σ [(0, .ref a), (1, .int (iI c1)), (2, .int (iI i2))] [] post) (hx_57 : ∀ (T : CT) (i2 : Int) (σ : MS) , (GT T0 T) → (WT T σ) → (FrC T0 [5, 6, 7, 9, 42, 43, 44, 45, 46, 47, 50, 51, 84, 85, 86, 87, 518, 519, 520, 521] σ0 σ) → (OB T a 5) → (0 ≤ i2 ∧ i2 ≤ 2147483647) → (True) → (RP σ a kp) → (YK σ a Sx nx bx [28] jx cx Nx (bx + 1) [29] ((jx : Int) + 1) 125) → Tn (d + 3 * lv + 63) m_X5_block 57 T σ [(0, .ref a), (1, .int (iI c1)), (2, .int (iI i2))] [] post) : ∀ (n : Nat) (T : CT) (i2 : Int) (σ : MS) , (GT T0 T) → (WT T σ) → (FrC T0 [5, 6, 7, 9, 42, 43, 44, 45, 46, 47, 50, 51, 84, 85, 86, 87, 518, 519, 520, 521] σ0 σ) → (OB T a 5) → (0 ≤ i2 ∧ i2 ≤ 2147483647) → (YS σ a Sx nx bx [28] jx cx Nx (bx + 1) [29] ((jx : Int) + 1 + i2)) → (RP σ a kp) → (2147483700 - i2).toNat = n → Tn (d + 3 * lv + 63) m_X5_block 22 T σ [(0, .ref a), (1, .int (iI c1)), (2, .int (iI i2))] [] post := by
  intro n
  induction n using Nat.strongRecOn with
  | _ n ih =>
    intro T i2 σ hG hw hF h_a r_i2 hx hrp hm
    obtain ⟨jy, ey, my, loy, rdy, hfy, hmy⟩ := hx
    have hSb := hfy.1.sb
    have hjn := RDX.jn hfy hw h_a
    have e45 := hfy.e45
    refine tn_iload_n dX5_block_22 rfl 2 rfl ?_
    refine tn_sipush dX5_block_23 (by decide) ?_
    refine tn_icmp_ge (tgt := 57) dX5_block_26 (by decide) ⟨by omega, by omega⟩ ⟨by decide, by decide⟩ (fun h1 => ?_) (fun h1 => ?_)
    · exact tn_sub [0, 1, 2] rfl (hx_57 T (i2) σ hG hw (FrC.rfl.trans (FrC.sub hF (by decide))) h_a (by omega) True.intro (RP.up hrp (by omega)) (False.elim (by omega)))
    · refine tn_aload_n dX5_block_29 rfl 0 rfl ?_
      obtain ⟨x2, hx3, hk4⟩ : ∃ x : Nat, σ.2.1 33 a = (x : Int) ∧ (T x).1 = 39 := wf_33 hw h_a
      have hk4o : OB T x2 9 := ⟨by omega, by rw [hk4]; rfl, by omega⟩
      refine tn_getR (ci := 5) (i := 0) (n := 33) (x := x2) dX5_block_30 rfl lay_5 (by decide) fl5_12 h_a rfl rfl (hx3) ?_
      refine tn_getI (ci := 9) (i := 4) (n := 85) (t := σ.2.1 85 x2) dX5_block_33 rfl lay_9 (by decide) fl5_71 hk4o rfl rfl (rfl) ?_
      have g6 : ((-2147483648 : Int) ≤ σ.2.1 85 x2 ∧ σ.2.1 85 x2 ≤ 2147483647) := wf_85 hw hk4o
      have g6kd : σ.2.1 85 x2 = ckd (tkS Sx jy) := (rfl).symm.trans ((hfy).1.kd (hx3))
      refine tn_bipush dX5_block_36 (by decide) ?_
      refine tn_icmp_eq (tgt := 57) dX5_block_38 (by decide) ⟨by omega, by omega⟩ ⟨by decide, by decide⟩ (fun h7 => ?_) (fun h7 => ?_)
      · exact tn_sub [0, 1, 2] rfl (hx_57 T (i2) σ hG hw (FrC.rfl.trans (FrC.sub hF (by decide))) h_a (by omega) True.intro (RP.up hrp (by omega)) ⟨jy, ey, my, by omega, rdy, hfy, hmy, by omega⟩)
      · refine tn_aload_n dX5_block_41 rfl 0 rfl ?_
        refine tn_iload_n dX5_block_42 rfl 1 rfl ?_
        have pc8 : GR Sx [29] jy (0) (bx + 1) u0 [20, 29] jy (0) (bx + 1) u0 0 [] := x29n hSb (by omega)
        have rd9 : GR Sx [28] jx 0 (bx) u0 [20, 29] jy (0) (bx + 1) u0 (my + 0) (ey) := GR.g0 (l := [29]) (ms := [20, 29]) [] rdy pc8
        refine tn_callV (M := m_X5_block) (pc := 43) (ix := 183) (ci := 5) (M' := m_X5_statement) (As := [.int (iI c1)]) (rest := []) dX5_block_43 ok_X5_statement im_X5_statement se_X5_statement ml5_183 np_X5_statement rfl rfl h_a rfl (Nat.le_of_ble_eq_true rfl) (Nat.le_of_ble_eq_true rfl) rfl (k_X5_statement_f (d) (T := T) (σ := σ) (a := a) (dp := c1) (kp := kp) (lv := lv) (bx := bx + 1) h_a (by omega) hw hex (by omega) (by omega) hfy (by omega) hmy (by omega) hrp) (fun r10 T12 σ11 gt13 hp => ?_)
        obtain ⟨v17, rfl, w18, F19, f14, f15, f16⟩ := hp
        replace h_a : OB T12 a 5 := gt13.ob h_a
        have rp21 : RP σ11 a (kp - 8 * v17 + 2) := RP.up f16 (by omega)
        show Tn _ _ 46 T12 σ11 [(0, .ref a), (1, .int (iI c1)), (2, .int (iI i2))] [.int (iI v17)] _
        refine tn_if_ne (tgt := 51) dX5_block_46 (by decide) ⟨by omega, by omega⟩ (fun h22 => ?_) (fun h22 => ?_)
        · refine tn_iinc (q0 := 2) (L' := [(2, .int (iI (i2 + 1))), (0, .ref a), (1, .int (iI c1))]) dX5_block_51 rfl (by decide) rfl ?_
          refine tn_goto (tgt := 22) dX5_block_54 (by decide) ?_
          obtain ⟨i23, es24, m25, lo26, rr27, fx28, fx28m⟩ := f15.1 (by omega)
          have fx28s : σ11.2.1 45 a ≤ (i23 : Int) := by rw [fx28.e45]; exact fx28m
          have rd29 : GR Sx [28] jx 0 (bx) u0 [29] i23 (0) (bx + 1) u0 (my + 0 + m25) (ey ++ es24) := GR.gg (l := [20]) (ms := []) [29] rd9 rr27
          have fe31 := RDX.nq (M := Nx + (my + 0 + m25)) (RDX.cq (c2 := (ey ++ es24).foldl uC cx) fx28 (by simp only [List.foldl_append, List.foldl_cons, List.foldl_nil])) (by omega)
          have fe31m : ((ey ++ es24).foldl uC cx).m = σ11.2.1 45 a := (fe31.e45).symm.trans (rfl)
          have hx30 : YS σ11 a Sx nx bx [28] jx cx Nx (bx + 1) [29] ((jx : Int) + 1 + (i2 + 1)) := ⟨i23, ey ++ es24, my + 0 + m25, (by omega), rd29, fe31, by rw [fe31m]; omega⟩
          exact tn_sub [1, 2, 0] rfl (ih _ (by omega) T12 (i2 + 1) σ11 (GT.trans hG gt13) w18 ((FrC.rfl.trans (FrC.sub hF (by decide))).trans (FrC.sub (FrC.old F19 hG) (by decide))) h_a (by omega) hx30 (RP.up rp21 (by omega)) rfl)
        · obtain ⟨pl32, g33, fx34⟩ := f15.2 (by omega)
          have rf35 : GRF Sx [28] jx 0 (bx) u0 (pl32) := GR.fl (l := [20]) [29] rd9 g33
          exact tn_sub [0, 1, 2] rfl (hx_49 T12 (i2) σ11 (GT.trans hG gt13) w18 ((FrC.rfl.trans (FrC.sub hF (by decide))).trans (FrC.sub (FrC.old F19 hG) (by decide))) h_a (by omega) True.intro (RP.up rp21 (by omega)) ⟨_, rf35, fx34⟩)
set_option maxHeartbeats 4000000 in
set_option maxRecDepth 20000 in
theorem k_X5_block_f1 (d : Nat) {T : CT} {σ : MS} {a : Nat} {dp : Int} {kp : Int} {lv : Nat} {Sx : Int → Int} {nx jx : Nat} {cx : CS} {Nx : Int} {bx : Int} (ha : OB T a 5) (h_dp : -2147483648 ≤ dp ∧ dp ≤ 2147483647) (hw : WT T σ) (hex : ∀ (d : Nat) {T : CT} {σ : MS} {a : Nat} {dp : Int} {kp : Int} {Sx : Int → Int} {nx jx : Nat} {cx : CS} {Nx : Int} {bx : Int} (ha : OB T a 5) (h_dp : -2147483648 ≤ dp ∧ dp ≤ 2147483647) (hw : WT T σ) (hdp : 1 ≤ dp ∧ dp ≤ 7) (hlv : 7 ≤ dp + (lv : Int)) (hfx : RDX σ a Sx nx jx cx Nx) (hb : bx = dp - 1) (hm : cx.m ≤ (jx : Int)) (hkp : kp ≤ 140) (hrp : RP σ a kp), Tn (d + 3 * lv + 60) m_X5_block 0 T σ [(0, .ref a), (1, .int (iI dp))] [] (fun ro T2 σ2 => ∃ v : Int, ro = some (.int (iI v)) ∧ WT T2 σ2 ∧ FrC T [5, 6, 7, 9, 42, 43, 44, 45, 46, 47, 50, 51, 84, 85, 86, 87, 518, 519, 520, 521] σ σ2 ∧ (v = 0 ∨ v = 1) ∧ (YQ σ2 a Sx nx bx [28] jx cx (Nx) 2 v) ∧ (RP σ2 a (kp + 2 - 10 * v)))) (hdp : 1 ≤ dp ∧ dp ≤ 6) (hlv : 7 ≤ dp + ((lv : Int) + 1)) (hfx : RDX σ a Sx nx jx cx Nx) (hb : bx = dp - 1) (hm : cx.m ≤ (jx : Int)) (hkp : kp ≤ 140) (hrp : RP σ a kp) : Tn (d + 3 * lv + 63) m_X5_block 0 T σ [(0, .ref a), (1, .int (iI dp))] [] (fun ro T2 σ2 => ∃ v : Int, ro = some (.int (iI v)) ∧ WT T2 σ2 ∧ FrC T [5, 6, 7, 9, 42, 43, 44, 45, 46, 47, 50, 51, 84, 85, 86, 87, 518, 519, 520, 521] σ σ2 ∧ (v = 0 ∨ v = 1) ∧ (YQ σ2 a Sx nx bx [28] jx cx (Nx) 2 v) ∧ (RP σ2 a (kp + 2 - 10 * v))) := by
  have hSb := hfx.1.sb
  have e45 := hfx.e45
  have hpo9 := hfx.po
  unfold PO at hpo9
  refine tn_iload_n dX5_block_0 rfl 1 rfl ?_
  refine tn_bipush dX5_block_1 (by decide) ?_
  refine tn_icmp_gt (tgt := 15) dX5_block_3 (by decide) ⟨by omega, by omega⟩ ⟨by decide, by decide⟩ (fun h1 => absurd h1 (by omega)) (fun h1 => ?_)
  refine tn_aload_n dX5_block_6 rfl 0 rfl ?_
  refine tn_bipush dX5_block_7 (by decide) ?_
  refine tn_callV (M := m_X5_block) (pc := 9) (ix := 102) (ci := 5) (M' := m_X5_taken) (As := [.int (iI 123)]) (rest := []) dX5_block_9 ok_X5_taken im_X5_taken se_X5_taken ml5_102 np_X5_taken rfl rfl ha rfl (Nat.le_of_ble_eq_true rfl) (Nat.le_of_ble_eq_true rfl) rfl (k_X5_taken_f (d + 3 * lv + 60) (T := T) (σ := σ) (a := a) (s := 123) (kp := kp) ha (by decide) hw (by omega) hfx (by omega) hrp) (fun r2 T4 σ3 gt5 hp => ?_)
  obtain ⟨v9, rfl, rfl, w10, F11, f6, f7, f8⟩ := hp
  clear gt5
  have pc12 : GR Sx [28] jx (0) (bx) u0 [223, 29] jx (0) (bx + 1) u0 0 [] := x28 hSb (by omega)
  have rd130 : GR Sx [28] jx 0 (bx) u0 [28] jx (0) (bx) u0 (0) ([]) := GR.nl
  have rd13 : GR Sx [28] jx 0 (bx) u0 [223, 29] jx (0) (bx + 1) u0 (0 + 0) ([]) := GR.g0 (l := [28]) (ms := [223, 29]) [] rd130 pc12
  show Tn _ _ 12 T σ3 [(0, .ref a), (1, .int (iI dp))] [.int (iI v9)] _
  refine tn_if_ne (tgt := 20) dX5_block_12 (by decide) ⟨by omega, by omega⟩ (fun h15 => ?_) (fun h15 => ?_)
  · refine tn_iconst dX5_block_20 ?_
    refine tn_istore_n (L' := [(2, .int (iI 0)), (0, .ref a), (1, .int (iI dp))]) dX5_block_21 rfl (by decide) rfl ?_
    obtain ⟨kd17, fx16⟩ := f7.1 (by omega)
    have pc18 : GR Sx [223] jx (0) (bx + 1) u0 [] (jx + 1) (0) (bx + 1) u0 0 [] := y123 hSb kd17
    have rd19 : GR Sx [28] jx 0 (bx) u0 [29] (jx + 1) (0) (bx + 1) u0 (0 + 0 + 0) ([]) := GR.g0 (l := [223]) (ms := []) [29] rd13 pc18
    have fe21 := RDX.nq (M := Nx + (0 + 0 + 0)) (RDX.cq (c2 := ([]).foldl uC cx) fx16 rfl) (by omega)
    have fe21m : (([]).foldl uC cx).m = σ.2.1 45 a := (fe21.e45).symm.trans (rc_F F11 (Or.inl (by decide)) (by decide) (rfl))
    have hx20 : YS σ3 a Sx nx bx [28] jx cx Nx (bx + 1) [29] ((jx : Int) + 1 + (0)) := ⟨(jx + 1), [], 0 + 0 + 0, (by omega), rd19, fe21, by rw [fe21m]; omega⟩
    refine tn_sub [1, 2, 0] rfl (l_X5_block_f1_22 (d) (σ0 := σ3) (T0 := T) (a := a) (c1 := dp) (kp := kp - 4 * v9) (lv := lv) (Sx := Sx) (nx := nx) (jx := jx) (cx := cx) (Nx := Nx) (bx := bx) (by omega) w10 (by omega) hb (by omega) hex (fun T24 i222 σ23 gt25 w26 F27 q28 r29 f30 f31 f32 => ?_) (fun T35 i233 σ34 gt36 w37 F38 q39 r40 f41 f42 f43 => ?_) _ T (0) σ3 GT.rfl w10 FrC.rfl ha (by omega) hx20 f8 rfl)
    · show Tn _ _ 49 T24 σ23 [(0, .ref a), (1, .int (iI dp)), (2, .int (iI i222))] [] _
      refine tn_iconst dX5_block_49 ?_
      exact tn_zret (v := 0) rfl (by decide) dX5_block_50 ⟨_, rfl, w26, ((FrC.rfl.trans (FrC.sub F11 (by decide))).trans (FrC.sub F27 (by decide))), by omega, ⟨fun q => absurd q (by decide), fun _ => f32⟩, (RP.up f31 (by omega))⟩
    · obtain ⟨i44, es45, m46, lo47, rr48, fx49, hm50, hk51⟩ := f43
      have fx49s : σ34.2.1 45 a ≤ (i44 : Int) := by rw [fx49.e45]; exact hm50
      show Tn _ _ 57 T35 σ34 [(0, .ref a), (1, .int (iI dp)), (2, .int (iI i233))] [] _
      refine tn_aload_n dX5_block_57 rfl 0 rfl ?_
      refine tn_bipush dX5_block_58 (by decide) ?_
      refine tn_callV (M := m_X5_block) (pc := 60) (ix := 102) (ci := 5) (M' := m_X5_taken) (As := [.int (iI 125)]) (rest := []) dX5_block_60 ok_X5_taken im_X5_taken se_X5_taken ml5_102 np_X5_taken rfl rfl q39 rfl (Nat.le_of_ble_eq_true rfl) (Nat.le_of_ble_eq_true rfl) rfl (k_X5_taken_f (d + 3 * lv + 60) (T := T35) (σ := σ34) (a := a) (s := 125) (kp := kp - 4 * v9) q39 (by decide) w37 (by omega) fx49 (by omega) f42) (fun r52 T54 σ53 gt55 hp => ?_)
      obtain ⟨v59, rfl, rfl, w60, F61, f56, f57, f58⟩ := hp
      clear gt55
      show Tn _ _ 63 T35 σ53 [(0, .ref a), (1, .int (iI dp)), (2, .int (iI i233))] [.int (iI v59)] _
      have ra63 : v59 = 1 → YS σ53 a Sx nx bx [28] jx cx (Nx) bx [] ((jx : Int) + 2) := fun hv => by
        obtain ⟨kd66, fx65⟩ := f57.1 hv
        have pc67 : GR Sx [29] i44 0 (bx + 1) u0 [40] (i44 + 1) 0 (bx + 1) u0 0 [] := x29y hSb kd66
        have rd68 : GR Sx [28] jx 0 (bx) u0 [40] (i44 + 1) (0) (bx + 1) u0 (m46 + 0) (es45) := GR.g0 (l := [29]) (ms := [40]) [] rr48 pc67
        have pc69 : GR Sx [40] (i44 + 1) 0 (bx + 1) u0 [] (i44 + 1) 0 bx u0 0 [] := by have q9 := x40 (S := Sx) (j := i44 + 1) (e := 0) (b := bx + 1) (u := u0) hSb; rw [show bx + 1 - 1 = bx by omega] at q9; exact q9
        have rd70 : GR Sx [28] jx 0 (bx) u0 [] (i44 + 1) (0) (bx) u0 (m46 + 0 + 0) (es45) := GR.g0 (l := [40]) (ms := []) [] rd68 pc69
        have fe71 := RDX.nq (M := Nx + (m46 + 0 + 0)) (RDX.cq (c2 := (es45).foldl uC cx) fx65 rfl) (by omega)
        have fe71m : ((es45).foldl uC cx).m = σ34.2.1 45 a := (fe71.e45).symm.trans (rc_F F61 (Or.inl (by decide)) (by decide) (rfl))
        exact ⟨(i44 + 1), es45, m46 + 0 + 0, (by omega), rd70, fe71, by rw [fe71m]; omega⟩
      exact tn_zret (v := v59) rfl (by omega) dX5_block_63 ⟨_, rfl, w60, (((FrC.rfl.trans (FrC.sub F11 (by decide))).trans (FrC.sub F38 (by decide))).trans (FrC.sub (FrC.old F61 gt36) (by decide))), by omega, ⟨ra63, fun q => absurd hk51 (f57.2 q).1⟩, (RP.up f58 (by omega))⟩
  · refine tn_aload_n dX5_block_15 rfl 0 rfl ?_
    obtain ⟨kd72, fx73, tk74⟩ := f7.2 (by omega)
    have pc75 : GRF Sx [223] jx (0) (bx + 1) u0 (tkS Sx jx).1 := z123 hSb kd72
    have rf76 : GRF Sx [28] jx 0 (bx) u0 ((tkS Sx jx).1) := GR.fl (l := [223]) [29] rd13 pc75
    refine tn_callV (M := m_X5_block) (pc := 16) (ix := 90) (ci := 5) (M' := m_X5_refuse) (As := []) (rest := []) dX5_block_16 ok_X5_refuse im_X5_refuse se_X5_refuse ml5_90 np_X5_refuse rfl rfl ha rfl (Nat.le_of_ble_eq_true rfl) (Nat.le_of_ble_eq_true rfl) rfl (k_X5_refuse_f (d + 3 * lv + 61) (T := T) (σ := σ3) (a := a) ha w10 tk74) (fun r77 T79 σ78 gt80 hp => ?_)
    obtain ⟨v85, rfl, rfl, w86, F87, f81, f82, f83, f84⟩ := hp
    clear gt80
    have rp88 : RP σ78 a (kp - 4 * v9) := RP.frc f8 F87 (by decide) (by decide) (by decide) (by decide) (by decide)
    show Tn _ _ 19 T σ78 [(0, .ref a), (1, .int (iI dp))] [.int (iI v85)] _
    have rb90 : YF σ78 a Sx bx [28] jx := ⟨_, rf76, f83⟩
    exact tn_zret (v := v85) rfl (by omega) dX5_block_19 ⟨_, rfl, w86, ((FrC.rfl.trans (FrC.sub F11 (by decide))).trans (FrC.sub F87 (by decide))), by omega, ⟨fun q => absurd q (by omega), fun _ => rb90⟩, (RP.up rp88 (by omega))⟩
end
section
theorem lvf_X5_block : ∀ (lv : Nat), ∀ (d : Nat) {T : CT} {σ : MS} {a : Nat} {dp : Int} {kp : Int} {Sx : Int → Int} {nx jx : Nat} {cx : CS} {Nx : Int} {bx : Int} (ha : OB T a 5) (h_dp : -2147483648 ≤ dp ∧ dp ≤ 2147483647) (hw : WT T σ) (hdp : 1 ≤ dp ∧ dp ≤ 7) (hlv : 7 ≤ dp + (lv : Int)) (hfx : RDX σ a Sx nx jx cx Nx) (hb : bx = dp - 1) (hm : cx.m ≤ (jx : Int)) (hkp : kp ≤ 140) (hrp : RP σ a kp), Tn (d + 3 * lv + 60) m_X5_block 0 T σ [(0, .ref a), (1, .int (iI dp))] [] (fun ro T2 σ2 => ∃ v : Int, ro = some (.int (iI v)) ∧ WT T2 σ2 ∧ FrC T [5, 6, 7, 9, 42, 43, 44, 45, 46, 47, 50, 51, 84, 85, 86, 87, 518, 519, 520, 521] σ σ2 ∧ (v = 0 ∨ v = 1) ∧ (YQ σ2 a Sx nx bx [28] jx cx (Nx) 2 v) ∧ (RP σ2 a (kp + 2 - 10 * v))) := by
  intro lv
  induction lv with
  | zero =>
    intro d T σ a dp kp Sx nx jx cx Nx bx ha h_dp hw hdp hlv hfx hb hm hkp hrp
    exact k_X5_block_f0 d ha h_dp hw (by omega) hfx hb hm hkp hrp
  | succ lv ih =>
    intro d T σ a dp kp Sx nx jx cx Nx bx ha h_dp hw hdp hlv hfx hb hm hkp hrp
    have e : d + 3 * (lv + 1) + 60 = d + 3 * lv + 63 := by omega
    by_cases h9 : dp = 7
    · exact k_X5_block_f0 (d + 3 * (lv + 1)) ha h_dp hw (by omega) hfx hb hm hkp hrp
    · rw [e]
      exact k_X5_block_f1 d (lv := lv) ha h_dp hw ih (by omega) (by omega) hfx hb hm hkp hrp
theorem k_X5_block_f : ∀ (d : Nat) {T : CT} {σ : MS} {a : Nat} {dp : Int} {kp : Int} {Sx : Int → Int} {nx jx : Nat} {cx : CS} {Nx : Int} {bx : Int} (ha : OB T a 5) (h_dp : -2147483648 ≤ dp ∧ dp ≤ 2147483647) (hw : WT T σ) (hdp : 1 ≤ dp ∧ dp ≤ 7) (hfx : RDX σ a Sx nx jx cx Nx) (hb : bx = dp - 1) (hm : cx.m ≤ (jx : Int)) (hkp : kp ≤ 140) (hrp : RP σ a kp), Tn (d + 78) m_X5_block 0 T σ [(0, .ref a), (1, .int (iI dp))] [] (fun ro T2 σ2 => ∃ v : Int, ro = some (.int (iI v)) ∧ WT T2 σ2 ∧ FrC T [5, 6, 7, 9, 42, 43, 44, 45, 46, 47, 50, 51, 84, 85, 86, 87, 518, 519, 520, 521] σ σ2 ∧ (v = 0 ∨ v = 1) ∧ (YQ σ2 a Sx nx bx [28] jx cx (Nx) 2 v) ∧ (RP σ2 a (kp + 2 - 10 * v))) := by
  intro d T σ a dp kp Sx nx jx cx Nx bx ha h_dp hw hdp hfx hb hm hkp hrp
  have e : d + 78 = d + 3 * 6 + 60 := by omega
  rw [e]
  exact lvf_X5_block 6 d ha h_dp hw (by omega) (by omega) hfx hb hm hkp hrp
end
section
set_option maxHeartbeats 4000000 in
set_option maxRecDepth 20000 in
theorem l_X5_parameters_f_16 (d : Nat) {T : CT} {σ0 : MS} {a : Nat} {Sx : Int → Int} {nx : Nat} {jx : Nat} {cx : CS} {Nx : Int} {rp : Int} {kp : Int} {post : Option Value → CT → MS → Prop} (h_a : OB T a 5) (hw0 : WT T σ0) (hj : 1 ≤ (jx : Int)) (hrn : 1 ≤ cx.rn ∧ cx.rn ≤ 256) (hkp : kp ≤ 150) (hx_36 : ∀ (i1 : Int) (σ : MS) , (WT T σ) → (FrC T [7, 8, 43, 44, 84, 85, 86, 87, 517, 521] σ0 σ) → (0 ≤ i1 ∧ i1 ≤ 2147483647) → (True) → (RP σ a kp) → (PLX σ a Sx nx jx cx Nx rp) → Tn (d + 4) m_X5_parameters 36 T σ [(0, .ref a), (1, .int (iI i1))] [] post) (hx_67 : ∀ (i1 : Int) (σ : MS) , (WT T σ) → (FrC T [7, 8, 43, 44, 84, 85, 86, 87, 517, 521] σ0 σ) → (0 ≤ i1 ∧ i1 ≤ 2147483647) → (True) → (RP σ a kp) → (PS σ a Sx nx jx cx Nx rp) → Tn (d + 4) m_X5_parameters 67 T σ [(0, .ref a), (1, .int (iI i1))] [] post) (hx_82 : ∀ (i1 : Int) (σ : MS) , (WT T σ) → (FrC T [7, 8, 43, 44, 84, 85, 86, 87, 517, 521] σ0 σ) → (0 ≤ i1 ∧ i1 ≤ 2147483647) → (True) → (RP σ a kp) → ((1 : Int) ≤ 0) → Tn (d + 4) m_X5_parameters 82 T σ [(0, .ref a), (1, .int (iI i1))] [] post) : ∀ (n : Nat) (i1 : Int) (σ : MS) , (WT T σ) → (FrC T [7, 8, 43, 44, 84, 85, 86, 87, 517, 521] σ0 σ) → (0 ≤ i1 ∧ i1 ≤ 2147483647) → (PLJ σ a Sx nx jx cx Nx rp (i1)) → (RP σ a kp) → (2147483700 - i1).toNat = n → Tn (d + 4) m_X5_parameters 16 T σ [(0, .ref a), (1, .int (iI i1))] [] post := by
  intro n
  induction n using Nat.strongRecOn with
  | _ n ih =>
    intro i1 σ hw hF r_i1 hx hrp hm
    obtain ⟨jy, ey, loy, pry, hfy, hry⟩ := hx
    have hSb := hfy.1.sb
    have hjn := RDX.jn hfy hw h_a
    refine tn_iload_n dX5_parameters_16 rfl 1 rfl ?_
    refine tn_sipush dX5_parameters_17 (by decide) ?_
    refine tn_icmp_ge (tgt := 82) dX5_parameters_20 (by decide) ⟨by omega, by omega⟩ ⟨by decide, by decide⟩ (fun h1 => ?_) (fun h1 => ?_)
    · exact tn_sub [0, 1] rfl (hx_82 (i1) σ hw (FrC.rfl.trans (FrC.sub hF (by decide))) (by omega) True.intro (RP.up hrp (by omega)) (by omega))
    · refine tn_aload_n dX5_parameters_23 rfl 0 rfl ?_
      obtain ⟨x2, hx3, hk4⟩ : ∃ x : Nat, σ0.2.1 33 a = (x : Int) ∧ (T x).1 = 39 := wf_33 hw0 h_a
      have hk4o : OB T x2 9 := ⟨by omega, by rw [hk4]; rfl, by omega⟩
      refine tn_getR (ci := 5) (i := 0) (n := 33) (x := x2) dX5_parameters_24 rfl lay_5 (by decide) fl5_12 h_a rfl rfl (rc_F hF (Or.inl (by decide)) (by decide) (hx3)) ?_
      refine tn_getI (ci := 9) (i := 4) (n := 85) (t := σ.2.1 85 x2) dX5_parameters_27 rfl lay_9 (by decide) fl5_71 hk4o rfl rfl (rfl) ?_
      have g6 : ((-2147483648 : Int) ≤ σ.2.1 85 x2 ∧ σ.2.1 85 x2 ≤ 2147483647) := wf_85 hw hk4o
      have g6kd : σ.2.1 85 x2 = ckd (tkS Sx jy) := (rfl).symm.trans ((hfy).1.kd (rc_F hF (Or.inl (by decide)) (by decide) (hx3)))
      refine tn_sipush dX5_parameters_30 (by decide) ?_
      refine tn_icmp_eq (tgt := 41) dX5_parameters_33 (by decide) ⟨by omega, by omega⟩ ⟨by decide, by decide⟩ (fun h7 => ?_) (fun h7 => ?_)
      · refine tn_aload_n dX5_parameters_41 rfl 0 rfl ?_
        refine tn_iload_n dX5_parameters_42 rfl 1 rfl ?_
        refine tn_iconst dX5_parameters_43 ?_
        refine tn_iadd dX5_parameters_44 ?_
        refine tn_callV (M := m_X5_parameters) (pc := 45) (ix := 170) (ci := 5) (M' := m_X5_parameter) (As := [.int (iI (i1 + 1))]) (rest := []) dX5_parameters_45 ok_X5_parameter im_X5_parameter se_X5_parameter ml5_170 np_X5_parameter rfl rfl h_a rfl (Nat.le_of_ble_eq_true rfl) (Nat.le_of_ble_eq_true rfl) rfl (k_X5_parameter_f (d) (T := T) (σ := σ) (a := a) (c := i1 + 1) h_a (by omega) hw (by omega) hfy (by omega) (by rw [hry]; exact hrn)) (fun r8 T10 σ9 gt11 hp => ?_)
        obtain ⟨rfl, rfl, w14, F15, f12⟩ := hp
        clear gt11
        have rp16 : RP σ9 a (kp) := RP.frc hrp F15 (by decide) (by decide) (by decide) (by decide) (by decide)
        have fx17 : RDX σ9 a Sx nx jy ((ey ++ [(3, (tkS Sx jy).1, i1, (tkS Sx jy).2.2.2.2)]).foldl uC cx) Nx := RDX.cq f12 (by rw [show ((i1 + 1) - 1 : Int) = i1 by omega, fc_one])
        have fx17p := PR.one hSb pry (by omega)
        show Tn _ _ 48 T σ9 [(0, .ref a), (1, .int (iI i1))] [] _
        refine tn_aload_n dX5_parameters_48 rfl 0 rfl ?_
        refine tn_getR (ci := 5) (i := 0) (n := 33) (x := x2) dX5_parameters_49 rfl lay_5 (by decide) fl5_12 h_a rfl rfl (rc_F F15 (Or.inl (by decide)) (by decide) (rc_F hF (Or.inl (by decide)) (by decide) (hx3))) ?_
        have q22 : σ9.2.1 84 x2 = σ.2.1 84 x2 := rc_F F15 (Or.inl (by decide)) (by decide) (rfl)
        refine tn_callV (M := m_X5_parameters) (pc := 52) (ix := 93) (ci := 9) (M' := m_X9_next) (As := []) (rest := []) dX5_parameters_52 ok_X9_next im_X9_next se_X9_next ml5_93 np_X9_next rfl rfl hk4o rfl (Nat.le_of_ble_eq_true rfl) (Nat.le_of_ble_eq_true rfl) rfl (k_X9_next_f (d + 2) (T := T) (σ := σ9) (a := x2) hk4o w14 (RP.tk rp16 w14 h_a (rc_F F15 (Or.inl (by decide)) (by decide) (rc_F hF (Or.inl (by decide)) (by decide) (hx3)))) ((fx17).1.tk (rc_F F15 (Or.inl (by decide)) (by decide) (rc_F hF (Or.inl (by decide)) (by decide) (hx3)))) (by rw [(fx17).1.kd (rc_F F15 (Or.inl (by decide)) (by decide) (rc_F hF (Or.inl (by decide)) (by decide) (hx3)))]; omega)) (fun r18 T20 σ19 gt21 hp => ?_)
        obtain ⟨rfl, rfl, w28, F29, f23, f24, f25, f26⟩ := hp
        clear gt21
        have fx30 : RDX σ19 a Sx nx (jy + 1) ((ey ++ [(3, (tkS Sx jy).1, i1, (tkS Sx jy).2.2.2.2)]).foldl uC cx) (Nx) := RDX.nx fx17 w14 h_a (rc_F F15 (Or.inl (by decide)) (by decide) (rc_F hF (Or.inl (by decide)) (by decide) (hx3))) F29 f26
        have rp31 : RP σ19 a (kp - 4) := RP.next4 rp16 (rc_F F15 (Or.inl (by decide)) (by decide) (rc_F hF (Or.inl (by decide)) (by decide) (hx3))) F29 (by decide) (by decide) (by decide) f23 f25 (by rw [show σ9.2.1 85 x2 = σ.2.1 85 x2 from rc_F F15 (Or.inl (by decide)) (by decide) (rfl)]; omega)
        show Tn _ _ 55 T σ19 [(0, .ref a), (1, .int (iI i1))] [] _
        refine tn_aload_n dX5_parameters_55 rfl 0 rfl ?_
        refine tn_getR (ci := 5) (i := 0) (n := 33) (x := x2) dX5_parameters_56 rfl lay_5 (by decide) fl5_12 h_a rfl rfl (rc_F F29 (Or.inl (by decide)) (by decide) (rc_F F15 (Or.inl (by decide)) (by decide) (rc_F hF (Or.inl (by decide)) (by decide) (hx3)))) ?_
        refine tn_getI (ci := 9) (i := 4) (n := 85) (t := σ19.2.1 85 x2) dX5_parameters_59 rfl lay_9 (by decide) fl5_71 hk4o rfl rfl (rfl) ?_
        have g32 : ((-2147483648 : Int) ≤ σ19.2.1 85 x2 ∧ σ19.2.1 85 x2 ≤ 2147483647) := wf_85 w28 hk4o
        have g32kd : σ19.2.1 85 x2 = ckd (tkS Sx (jy + 1)) := (rfl).symm.trans ((fx30).1.kd (rc_F F29 (Or.inl (by decide)) (by decide) (rc_F F15 (Or.inl (by decide)) (by decide) (rc_F hF (Or.inl (by decide)) (by decide) (hx3)))))
        refine tn_bipush dX5_parameters_62 (by decide) ?_
        refine tn_icmp_eq (tgt := 69) dX5_parameters_64 (by decide) ⟨by omega, by omega⟩ ⟨by decide, by decide⟩ (fun h33 => ?_) (fun h33 => ?_)
        · refine tn_aload_n dX5_parameters_69 rfl 0 rfl ?_
          refine tn_getR (ci := 5) (i := 0) (n := 33) (x := x2) dX5_parameters_70 rfl lay_5 (by decide) fl5_12 h_a rfl rfl (rc_F F29 (Or.inl (by decide)) (by decide) (rc_F F15 (Or.inl (by decide)) (by decide) (rc_F hF (Or.inl (by decide)) (by decide) (hx3)))) ?_
          refine tn_callV (M := m_X5_parameters) (pc := 73) (ix := 93) (ci := 9) (M' := m_X9_next) (As := []) (rest := []) dX5_parameters_73 ok_X9_next im_X9_next se_X9_next ml5_93 np_X9_next rfl rfl hk4o rfl (Nat.le_of_ble_eq_true rfl) (Nat.le_of_ble_eq_true rfl) rfl (k_X9_next_f (d + 2) (T := T) (σ := σ19) (a := x2) hk4o w28 (RP.tk rp31 w28 h_a (rc_F F29 (Or.inl (by decide)) (by decide) (rc_F F15 (Or.inl (by decide)) (by decide) (rc_F hF (Or.inl (by decide)) (by decide) (hx3))))) ((fx30).1.tk (rc_F F29 (Or.inl (by decide)) (by decide) (rc_F F15 (Or.inl (by decide)) (by decide) (rc_F hF (Or.inl (by decide)) (by decide) (hx3))))) (by rw [(fx30).1.kd (rc_F F29 (Or.inl (by decide)) (by decide) (rc_F F15 (Or.inl (by decide)) (by decide) (rc_F hF (Or.inl (by decide)) (by decide) (hx3))))]; omega)) (fun r34 T36 σ35 gt37 hp => ?_)
          obtain ⟨rfl, rfl, w43, F44, f38, f39, f40, f41⟩ := hp
          clear gt37
          have fx45 : RDX σ35 a Sx nx ((jy + 1) + 1) ((ey ++ [(3, (tkS Sx jy).1, i1, (tkS Sx jy).2.2.2.2)]).foldl uC cx) (Nx) := RDX.nx fx30 w28 h_a (rc_F F29 (Or.inl (by decide)) (by decide) (rc_F F15 (Or.inl (by decide)) (by decide) (rc_F hF (Or.inl (by decide)) (by decide) (hx3)))) F44 f41
          have rp46 : RP σ35 a (kp - 4 - 4) := RP.next4 rp31 (rc_F F29 (Or.inl (by decide)) (by decide) (rc_F F15 (Or.inl (by decide)) (by decide) (rc_F hF (Or.inl (by decide)) (by decide) (hx3)))) F44 (by decide) (by decide) (by decide) f38 f40 (by rw [show σ19.2.1 85 x2 = σ19.2.1 85 x2 from rfl]; omega)
          have rp47 : RP σ35 a (kp - 8) := RP.up rp46 (by omega)
          show Tn _ _ 76 T σ35 [(0, .ref a), (1, .int (iI i1))] [] _
          refine tn_iinc (q0 := 1) (L' := [(1, .int (iI (i1 + 1))), (0, .ref a)]) dX5_parameters_76 rfl (by decide) rfl ?_
          refine tn_goto (tgt := 16) dX5_parameters_79 (by decide) ?_
          have hx48 : PLJ σ35 a Sx nx jx cx Nx rp (i1 + 1) := ⟨((jy + 1) + 1), ey ++ [(3, (tkS Sx jy).1, i1, (tkS Sx jy).2.2.2.2)], by omega, PR.comma hSb fx17p (by omega), fx45, by rw [← fc_one, uC3_rn]; exact hry⟩
          exact tn_sub [1, 0] rfl (ih _ (by omega) (i1 + 1) σ35 w43 ((((FrC.rfl.trans (FrC.sub hF (by decide))).trans (FrC.sub F15 (by decide))).trans (FrC.sub F29 (by decide))).trans (FrC.sub F44 (by decide))) (by omega) hx48 (RP.up rp47 (by omega)) rfl)
        · have hx49 : PS σ19 a Sx nx jx cx Nx rp := ⟨(jy + 1), (ey ++ [(3, (tkS Sx jy).1, i1, (tkS Sx jy).2.2.2.2)]) ++ [(7, 0, i1 + 1, 0)], i1 + 1, by omega, PR.done hSb fx17p (by omega), RDX.cq fx30 f7.symm, by rw [f7, ← fc_one, uC3_rn]; exact hry⟩
          exact tn_sub [0, 1] rfl (hx_67 (i1) σ19 w28 (((FrC.rfl.trans (FrC.sub hF (by decide))).trans (FrC.sub F15 (by decide))).trans (FrC.sub F29 (by decide))) (by omega) True.intro (RP.up rp31 (by omega)) hx49)
      · exact tn_sub [0, 1] rfl (hx_36 (i1) σ hw (FrC.rfl.trans (FrC.sub hF (by decide))) (by omega) True.intro (RP.up hrp (by omega)) ⟨jy, ey, i1, pry, hfy, by omega⟩)
set_option maxHeartbeats 4000000 in
set_option maxRecDepth 20000 in
theorem k_X5_parameters_f (d : Nat) {T : CT} {σ : MS} {a : Nat} {kp : Int} {Sx : Int → Int} {nx jx : Nat} {cx : CS} {Nx : Int} {rp : Int} (ha : OB T a 5) (hw : WT T σ) (hfx : RDX σ a Sx nx jx cx Nx) (hrn : 1 ≤ cx.rn ∧ cx.rn ≤ 256) (hj : 1 ≤ (jx : Int)) (hkp : kp ≤ 150) (hrp : RP σ a kp) : Tn (d + 4) m_X5_parameters 0 T σ [(0, .ref a)] [] (fun ro T2 σ2 => ∃ v : Int, ro = some (.int (iI v)) ∧ T = T2 ∧ WT T2 σ2 ∧ FrC T [7, 8, 43, 44, 84, 85, 86, 87, 517, 521] σ σ2 ∧ (v = 0 ∨ v = 1) ∧ (PQ σ2 a Sx nx jx cx Nx rp v) ∧ (RP σ2 a (kp))) := by
  have hSb := hfx.1.sb
  have hjn := RDX.jn hfx hw ha
  refine tn_aload_n dX5_parameters_0 rfl 0 rfl ?_
  obtain ⟨x1, hx2, hk3⟩ : ∃ x : Nat, σ.2.1 33 a = (x : Int) ∧ (T x).1 = 39 := wf_33 hw ha
  have hk3o : OB T x1 9 := ⟨by omega, by rw [hk3]; rfl, by omega⟩
  refine tn_getR (ci := 5) (i := 0) (n := 33) (x := x1) dX5_parameters_1 rfl lay_5 (by decide) fl5_12 ha rfl rfl (hx2) ?_
  refine tn_getI (ci := 9) (i := 4) (n := 85) (t := σ.2.1 85 x1) dX5_parameters_4 rfl lay_9 (by decide) fl5_71 hk3o rfl rfl (rfl) ?_
  have g5 : ((-2147483648 : Int) ≤ σ.2.1 85 x1 ∧ σ.2.1 85 x1 ≤ 2147483647) := wf_85 hw hk3o
  have g5kd : σ.2.1 85 x1 = ckd (tkS Sx jx) := (rfl).symm.trans ((hfx).1.kd (hx2))
  refine tn_bipush dX5_parameters_7 (by decide) ?_
  refine tn_icmp_ne (tgt := 14) dX5_parameters_9 (by decide) ⟨by omega, by omega⟩ ⟨by decide, by decide⟩ (fun h6 => ?_) (fun h6 => ?_)
  · refine tn_iconst dX5_parameters_14 ?_
    refine tn_istore_n (L' := [(1, .int (iI 0)), (0, .ref a)]) dX5_parameters_15 rfl (by decide) rfl ?_
    have hx7 : PLJ σ a Sx nx jx cx Nx rp (0) := ⟨jx, [], by omega, PR.some hSb (by omega), hfx, rfl⟩
    refine tn_sub [1, 0] rfl (l_X5_parameters_f_16 (d) (T := T) (σ0 := σ) (a := a) (kp := kp) (Sx := Sx) (nx := nx) (jx := jx) (cx := cx) (Nx := Nx) (rp := rp) ha hw hj hrn (by omega) (fun i18 σ9 w12 F13 r14 f15 f16 f17 => ?_) (fun i118 σ19 w22 F23 r24 f25 f26 f27 => ?_) (fun i128 σ29 w32 F33 r34 f35 f36 f37 => ?_) _ (0) σ hw FrC.rfl (by omega) hx7 hrp rfl)
    · obtain ⟨i38, es39, k40, pr41, fx42, hk43⟩ := f17
      show Tn _ _ 36 T σ9 [(0, .ref a), (1, .int (iI i18))] [] _
      refine tn_aload_n dX5_parameters_36 rfl 0 rfl ?_
      refine tn_callV (M := m_X5_parameters) (pc := 37) (ix := 90) (ci := 5) (M' := m_X5_refuse) (As := []) (rest := []) dX5_parameters_37 ok_X5_refuse im_X5_refuse se_X5_refuse ml5_90 np_X5_refuse rfl rfl ha rfl (Nat.le_of_ble_eq_true rfl) (Nat.le_of_ble_eq_true rfl) rfl (k_X5_refuse_f (d + 2) (T := T) (σ := σ9) (a := a) ha w12 (fx42).1.1) (fun r44 T46 σ45 gt47 hp => ?_)
      obtain ⟨v52, rfl, rfl, w53, F54, f48, f49, f50, f51⟩ := hp
      clear gt47
      have rp55 : RP σ45 a (kp) := RP.frc f16 F54 (by decide) (by decide) (by decide) (by decide) (by decide)
      show Tn _ _ 40 T σ45 [(0, .ref a), (1, .int (iI i18))] [.int (iI v52)] _
      exact tn_zret (v := v52) rfl (by omega) dX5_parameters_40 ⟨_, rfl, rfl, w53, ((FrC.rfl.trans (FrC.sub F13 (by decide))).trans (FrC.sub F54 (by decide))), by omega, ⟨fun q => absurd q (by omega), fun _ => ⟨_, PR.fail hSb pr41 hk43, f50⟩⟩, (RP.up rp55 (by omega))⟩
    · show Tn _ _ 67 T σ19 [(0, .ref a), (1, .int (iI i118))] [] _
      refine tn_iconst dX5_parameters_67 ?_
      exact tn_zret (v := 1) rfl (by decide) dX5_parameters_68 ⟨_, rfl, rfl, w22, (FrC.rfl.trans (FrC.sub F23 (by decide))), by omega, ⟨fun _ => f27, fun q => absurd q (by decide)⟩, (RP.up f26 (by omega))⟩
    · show Tn _ _ 82 T σ29 [(0, .ref a), (1, .int (iI i128))] [] _
      exact absurd True.intro (by omega)
  · refine tn_iconst dX5_parameters_12 ?_
    have hx56 : PS σ a Sx nx jx cx Nx rp := ⟨jx, [(7, 0, 0, 0)], 0, by omega, PR.none hSb (by omega), RDX.cq hfx (f7 (es := [])).symm, by rw [show ([(7, 0, 0, 0)] : List EW) = [] ++ [(7, 0, 0, 0)] from rfl, f7]; rfl⟩
    exact tn_zret (v := 1) rfl (by decide) dX5_parameters_13 ⟨_, rfl, rfl, hw, FrC.rfl, by omega, ⟨fun _ => hx56, fun q => absurd q (by decide)⟩, (RP.up hrp (by omega))⟩
end
section
set_option maxHeartbeats 4000000 in
set_option maxRecDepth 20000 in
theorem k_X5_header_f (d : Nat) {T : CT} {σ : MS} {a : Nat} {Sx : Int → Int} {nx jx : Nat} {cx : CS} (ha : OB T a 5) (hw : WT T σ) (hrt : RT σ a) (hf0 : RD0 σ a Sx nx jx cx) (hpo : 5 * cx.rn ≤ (jx : Int)) (hr0 : 0 ≤ cx.rn) : Tn (d + 5) m_X5_header 0 T σ [(0, .ref a)] [] (fun ro T2 σ2 => ∃ v : Int, ro = some (.int (iI v)) ∧ T = T2 ∧ WT T2 σ2 ∧ FrC T [6, 7, 8, 9, 10, 35, 38, 43, 44, 46, 47, 84, 85, 86, 87, 516, 517, 521] σ σ2 ∧ (v = 0 ∨ v = 1) ∧ (v = 1 → RP σ2 a 4) ∧ (HQ9 σ2 a Sx nx jx cx v)) := by
  have hSb := hf0.sb
  have hjn := RD0.jn hf0 hw ha
  refine tn_aload_n dX5_header_0 rfl 0 rfl ?_
  obtain ⟨x1, hx2, hk3⟩ : ∃ x : Nat, σ.2.1 33 a = (x : Int) ∧ (T x).1 = 39 := wf_33 hw ha
  have hk3o : OB T x1 9 := ⟨by omega, by rw [hk3]; rfl, by omega⟩
  refine tn_getR (ci := 5) (i := 0) (n := 33) (x := x1) dX5_header_1 rfl lay_5 (by decide) fl5_12 ha rfl rfl (hx2) ?_
  refine tn_getI (ci := 9) (i := 4) (n := 85) (t := σ.2.1 85 x1) dX5_header_4 rfl lay_9 (by decide) fl5_71 hk3o rfl rfl (rfl) ?_
  have g5 : ((-2147483648 : Int) ≤ σ.2.1 85 x1 ∧ σ.2.1 85 x1 ≤ 2147483647) := wf_85 hw hk3o
  have g5kd : σ.2.1 85 x1 = ckd (tkS Sx jx) := (rfl).symm.trans ((hf0).kd (hx2))
  refine tn_sipush dX5_header_7 (by decide) ?_
  refine tn_icmp_eq (tgt := 18) dX5_header_10 (by decide) ⟨by omega, by omega⟩ ⟨by decide, by decide⟩ (fun h6 => ?_) (fun h6 => ?_)
  · have hk256 : ckd (tkS Sx jx) = 256 := by omega
    refine tn_aload_n dX5_header_18 rfl 0 rfl ?_
    refine tn_aload_n dX5_header_19 rfl 0 rfl ?_
    refine tn_getR (ci := 5) (i := 0) (n := 33) (x := x1) dX5_header_20 rfl lay_5 (by decide) fl5_12 ha rfl rfl (hx2) ?_
    refine tn_getI (ci := 9) (i := 5) (n := 86) (t := σ.2.1 86 x1) dX5_header_23 rfl lay_9 (by decide) fl5_96 hk3o rfl rfl (rfl) ?_
    have g7 : ((-2147483648 : Int) ≤ σ.2.1 86 x1 ∧ σ.2.1 86 x1 ≤ 2147483647) := wf_86 hw hk3o
    have g7ky : NKY (tkS Sx jx) (σ.2.1 86 x1) := by rw [← show σ.2.1 86 x1 = σ.2.1 86 x1 from rfl]; exact (hf0).ky (hx2)
    refine tn_callV (M := m_X5_header) (pc := 26) (ix := 99) (ci := 5) (M' := m_X5_openRoutine) (As := [.int (iI (σ.2.1 86 x1))]) (rest := []) dX5_header_26 ok_X5_openRoutine im_X5_openRoutine se_X5_openRoutine ml5_99 np_X5_openRoutine rfl rfl ha rfl (Nat.le_of_ble_eq_true rfl) (Nat.le_of_ble_eq_true rfl) rfl (k_X5_openRoutine_f (d + 1) (T := T) (σ := σ) (a := a) (k := σ.2.1 86 x1) ha (by omega) hw hrt hf0 (g7ky.kw ((ck_nam (tkS_v hSb jx)).mp hk256).1) hpo) (fun r8 T10 σ9 gt11 hp => ?_)
    obtain ⟨rfl, rfl, w15, F16, f12, f13⟩ := hp
    clear gt11
    show Tn _ _ 29 T σ9 [(0, .ref a)] [] _
    refine tn_aload_n dX5_header_29 rfl 0 rfl ?_
    refine tn_getR (ci := 5) (i := 0) (n := 33) (x := x1) dX5_header_30 rfl lay_5 (by decide) fl5_12 ha rfl rfl (rc_F F16 (Or.inl (by decide)) (by decide) (hx2)) ?_
    have q21 : σ9.2.1 84 x1 = σ.2.1 84 x1 := rc_F F16 (Or.inl (by decide)) (by decide) (rfl)
    refine tn_callV (M := m_X5_header) (pc := 33) (ix := 93) (ci := 9) (M' := m_X9_next) (As := []) (rest := []) dX5_header_33 ok_X9_next im_X9_next se_X9_next ml5_93 np_X9_next rfl rfl hk3o rfl (Nat.le_of_ble_eq_true rfl) (Nat.le_of_ble_eq_true rfl) rfl (k_X9_next_f (d + 3) (T := T) (σ := σ9) (a := x1) hk3o w15 (RP.tk f12 w15 ha (rc_F F16 (Or.inl (by decide)) (by decide) (hx2))) ((f13).1.tk (rc_F F16 (Or.inl (by decide)) (by decide) (hx2))) (by rw [(f13).1.kd (rc_F F16 (Or.inl (by decide)) (by decide) (hx2))]; omega)) (fun r17 T19 σ18 gt20 hp => ?_)
    obtain ⟨rfl, rfl, w27, F28, f22, f23, f24, f25⟩ := hp
    clear gt20
    have fx29 : RDX σ18 a Sx nx (jx + 1) (uC cx (2, (tkS Sx jx).1, 0, (tkS Sx jx).2.2.2.2)) (0) := RDX.nx f13 w15 ha (rc_F F16 (Or.inl (by decide)) (by decide) (hx2)) F28 f25
    have rp30 : RP σ18 a (4 - 4) := RP.next4 f12 (rc_F F16 (Or.inl (by decide)) (by decide) (hx2)) F28 (by decide) (by decide) (by decide) f22 f24 (by rw [show σ9.2.1 85 x1 = σ.2.1 85 x1 from rc_F F16 (Or.inl (by decide)) (by decide) (rfl)]; omega)
    have rp31 : RP σ18 a (0) := RP.up rp30 (by omega)
    show Tn _ _ 36 T σ18 [(0, .ref a)] [] _
    refine tn_aload_n dX5_header_36 rfl 0 rfl ?_
    refine tn_bipush dX5_header_37 (by decide) ?_
    refine tn_callV (M := m_X5_header) (pc := 39) (ix := 102) (ci := 5) (M' := m_X5_taken) (As := [.int (iI 40)]) (rest := []) dX5_header_39 ok_X5_taken im_X5_taken se_X5_taken ml5_102 np_X5_taken rfl rfl ha rfl (Nat.le_of_ble_eq_true rfl) (Nat.le_of_ble_eq_true rfl) rfl (k_X5_taken_f (d + 2) (T := T) (σ := σ18) (a := a) (s := 40) (kp := 0) ha (by decide) w27 (by omega) fx29 (by omega) rp31) (fun r32 T34 σ33 gt35 hp => ?_)
    obtain ⟨v39, rfl, rfl, w40, F41, f36, f37, f38⟩ := hp
    clear gt35
    have rp43 : RP σ33 a (- 4 * v39) := RP.up f38 (by omega)
    show Tn _ _ 42 T σ33 [(0, .ref a)] [.int (iI v39)] _
    refine tn_if_eq (tgt := 65) dX5_header_42 (by decide) ⟨by omega, by omega⟩ (fun h44 => ?_) (fun h44 => ?_)
    · refine tn_iconst dX5_header_65 ?_
      obtain ⟨kd45, fx46, tk47⟩ := f37.2 (by omega)
      exact tn_zret (v := 0) rfl (by decide) dX5_header_66 ⟨_, rfl, rfl, w40, (((FrC.rfl.trans (FrC.sub F16 (by decide))).trans (FrC.sub F28 (by decide))).trans (FrC.sub F41 (by decide))), by omega, fun _ => (RP.up rp43 (by omega)), ⟨fun q => absurd q (by decide), fun _ => ⟨_, HD.f40 hSb hk256 kd45, fx46⟩⟩⟩
    · refine tn_aload_n dX5_header_45 rfl 0 rfl ?_
      obtain ⟨kd49, fx48⟩ := f37.1 (by omega)
      refine tn_callV (M := m_X5_header) (pc := 46) (ix := 106) (ci := 5) (M' := m_X5_parameters) (As := []) (rest := []) dX5_header_46 ok_X5_parameters im_X5_parameters se_X5_parameters ml5_106 np_X5_parameters rfl rfl ha rfl (Nat.le_of_ble_eq_true rfl) (Nat.le_of_ble_eq_true rfl) rfl (k_X5_parameters_f (d) (T := T) (σ := σ33) (a := a) (kp := - 4 * v39) (rp := (tkS Sx jx).1) ha w40 fx48 ⟨by show 1 ≤ cx.rn + 1; omega, by show cx.rn + 1 ≤ 256; omega⟩ (by omega) (by omega) rp43) (fun r51 T53 σ52 gt54 hp => ?_)
      obtain ⟨v58, rfl, rfl, w59, F60, f55, f56, f57⟩ := hp
      clear gt54
      show Tn _ _ 49 T σ52 [(0, .ref a)] [.int (iI v58)] _
      refine tn_if_eq (tgt := 65) dX5_header_49 (by decide) ⟨by omega, by omega⟩ (fun h62 => ?_) (fun h62 => ?_)
      · refine tn_iconst dX5_header_65 ?_
        obtain ⟨pl63, g64, fx65⟩ := f56.2 (by omega)
        exact tn_zret (v := 0) rfl (by decide) dX5_header_66 ⟨_, rfl, rfl, w59, ((((FrC.rfl.trans (FrC.sub F16 (by decide))).trans (FrC.sub F28 (by decide))).trans (FrC.sub F41 (by decide))).trans (FrC.sub F60 (by decide))), by omega, fun _ => (RP.up f57 (by omega)), ⟨fun q => absurd q (by decide), fun _ => ⟨_, HD.fpr hSb hk256 kd49 g64, fx65⟩⟩⟩
      · refine tn_aload_n dX5_header_52 rfl 0 rfl ?_
        refine tn_bipush dX5_header_53 (by decide) ?_
        obtain ⟨i66, es67, k68, lo69, pr70, fx71, fx71rn⟩ := f56.1 (by omega)
        refine tn_callV (M := m_X5_header) (pc := 55) (ix := 102) (ci := 5) (M' := m_X5_taken) (As := [.int (iI 41)]) (rest := []) dX5_header_55 ok_X5_taken im_X5_taken se_X5_taken ml5_102 np_X5_taken rfl rfl ha rfl (Nat.le_of_ble_eq_true rfl) (Nat.le_of_ble_eq_true rfl) rfl (k_X5_taken_f (d + 2) (T := T) (σ := σ52) (a := a) (s := 41) (kp := - 4 * v39) ha (by decide) w59 (by omega) fx71 (by omega) f57) (fun r72 T74 σ73 gt75 hp => ?_)
        obtain ⟨v79, rfl, rfl, w80, F81, f76, f77, f78⟩ := hp
        clear gt75
        show Tn _ _ 58 T σ73 [(0, .ref a)] [.int (iI v79)] _
        refine tn_if_eq (tgt := 65) dX5_header_58 (by decide) ⟨by omega, by omega⟩ (fun h83 => ?_) (fun h83 => ?_)
        · refine tn_iconst dX5_header_65 ?_
          obtain ⟨kd84, fx85, tk86⟩ := f77.2 (by omega)
          exact tn_zret (v := 0) rfl (by decide) dX5_header_66 ⟨_, rfl, rfl, w80, (((((FrC.rfl.trans (FrC.sub F16 (by decide))).trans (FrC.sub F28 (by decide))).trans (FrC.sub F41 (by decide))).trans (FrC.sub F60 (by decide))).trans (FrC.sub F81 (by decide))), by omega, fun _ => (RP.up f78 (by omega)), ⟨fun q => absurd q (by decide), fun _ => ⟨_, HD.f41 hSb hk256 kd49 pr70 kd84, fx85⟩⟩⟩
        · refine tn_iconst dX5_header_61 ?_
          refine tn_goto (tgt := 66) dX5_header_62 (by decide) ?_
          obtain ⟨kd88, fx87⟩ := f77.1 (by omega)
          have hq89 := HD.ok hSb hk256 kd49 pr70 kd88
          exact tn_zret (v := 1) rfl (by decide) dX5_header_66 ⟨_, rfl, rfl, w80, (((((FrC.rfl.trans (FrC.sub F16 (by decide))).trans (FrC.sub F28 (by decide))).trans (FrC.sub F41 (by decide))).trans (FrC.sub F60 (by decide))).trans (FrC.sub F81 (by decide))), by omega, fun _ => (RP.up f78 (by omega)), ⟨fun _ => ⟨(i66 + 1), _, k68, by omega, hq89, RDX.cq fx87 (by rw [List.foldl_append]; rfl), by rw [List.foldl_append]; exact fx71rn.trans uC2_rn⟩, fun q => absurd q (by decide)⟩⟩
  · refine tn_aload_n dX5_header_13 rfl 0 rfl ?_
    refine tn_callV (M := m_X5_header) (pc := 14) (ix := 90) (ci := 5) (M' := m_X5_refuse) (As := []) (rest := []) dX5_header_14 ok_X5_refuse im_X5_refuse se_X5_refuse ml5_90 np_X5_refuse rfl rfl ha rfl (Nat.le_of_ble_eq_true rfl) (Nat.le_of_ble_eq_true rfl) rfl (k_X5_refuse_f (d + 3) (T := T) (σ := σ) (a := a) ha hw (hf0).1) (fun r90 T92 σ91 gt93 hp => ?_)
    obtain ⟨v98, rfl, rfl, w99, F100, f94, f95, f96, f97⟩ := hp
    clear gt93
    show Tn _ _ 17 T σ91 [(0, .ref a)] [.int (iI v98)] _
    exact tn_zret (v := v98) rfl (by omega) dX5_header_17 ⟨_, rfl, rfl, w99, (FrC.rfl.trans (FrC.sub F100 (by decide))), by omega, fun q => by omega, ⟨fun q => absurd q (by omega), fun _ => ⟨_, HD.f30 hSb (by omega), f96⟩⟩⟩
end
section
set_option maxHeartbeats 4000000 in
set_option maxRecDepth 20000 in
theorem l_X9_isSign_f_2 (d : Nat) {T : CT} {σ : MS} {c0 : Int} {post : Option Value → CT → MS → Prop} (r_c0 : -2147483648 ≤ c0 ∧ c0 ≤ 2147483647) (hw : WT T σ) (hx_19 : ∀ (i1 : Int) , (0 ≤ i1 ∧ i1 ≤ 2147483647) → (True) → (c0 ∈ sgL) → Tn (d + 1) m_X9_isSign 19 T σ [(0, .int (iI c0)), (1, .int (iI i1))] [] post) (hx_27 : ∀ (i1 : Int) , (0 ≤ i1 ∧ i1 ≤ 2147483647) → (True) → (c0 ∉ sgL) → Tn (d + 1) m_X9_isSign 27 T σ [(0, .int (iI c0)), (1, .int (iI i1))] [] post) : ∀ (n : Nat) (i1 : Int) , (0 ≤ i1 ∧ i1 ≤ 2147483647) → (SGI c0 i1) → (2147483700 - i1).toNat = n → Tn (d + 1) m_X9_isSign 2 T σ [(0, .int (iI c0)), (1, .int (iI i1))] [] post := by
  intro n
  induction n using Nat.strongRecOn with
  | _ n ih =>
    intro i1 r_i1 hsg hm
    refine tn_iload_n dX9_isSign_2 rfl 1 rfl ?_
    refine tn_stLen st_sg dX9_isSign_3 fl9_69 dX9_isSign_6 ?_
    show Tn _ _ 7 T σ [(0, .int (iI c0)), (1, .int (iI i1))] (.int (iI 11) :: [.int (iI i1)]) _
    refine tn_icmp_ge (tgt := 27) dX9_isSign_7 (by decide) ⟨by omega, by omega⟩ ⟨by decide, by decide⟩ (fun h1 => ?_) (fun h1 => ?_)
    · exact tn_sub [0, 1] rfl (hx_27 (i1) (by omega) True.intro (hsg.no (by omega) (by omega)))
    · refine tn_stChrX (z := i1) st_sg dX9_isSign_10 fl9_69 dX9_isSign_13 rfl (q := 1) rfl dX9_isSign_14 (by omega) (by omega) (by decide) (fun v2 g3 => ?_)
      have g3r : -2147483648 ≤ v2 ∧ v2 ≤ 2147483647 := g3.1
      show Tn _ _ 15 T σ [(0, .int (iI c0)), (1, .int (iI i1))] [.int (iI v2)] _
      refine tn_iload_n dX9_isSign_15 rfl 0 rfl ?_
      refine tn_icmp_ne (tgt := 21) dX9_isSign_16 (by decide) ⟨by omega, by omega⟩ ⟨by omega, by omega⟩ (fun h4 => ?_) (fun h4 => ?_)
      · refine tn_iinc (q0 := 1) (L' := [(1, .int (iI (i1 + 1))), (0, .int (iI c0))]) dX9_isSign_21 rfl (by decide) rfl ?_
        refine tn_goto (tgt := 2) dX9_isSign_24 (by decide) ?_
        exact tn_sub [1, 0] rfl (ih _ (by omega) (i1 + 1) (by omega) (SGI.up hsg (by omega) g3 (by omega) (by omega)) rfl)
      · exact tn_sub [0, 1] rfl (hx_19 (i1) (by omega) True.intro ((sgB_iff (by omega)).mpr ⟨i1.toNat, by omega, by have q9 := g3.2; rw [show v2 = c0 by omega] at q9; exact q9⟩))
set_option maxHeartbeats 4000000 in
set_option maxRecDepth 20000 in
theorem k_X9_isSign_f (d : Nat) {T : CT} {σ : MS} {o : Int} (h_o : -2147483648 ≤ o ∧ o ≤ 2147483647) (hw : WT T σ) : Tn (d + 1) m_X9_isSign 0 T σ [(0, .int (iI o))] [] (fun ro T2 σ2 => ∃ v : Int, ro = some (.int (iI v)) ∧ T = T2 ∧ σ = σ2 ∧ (v = 0 ∨ v = 1) ∧ (SGQ o v)) := by
  refine tn_iconst dX9_isSign_0 ?_
  refine tn_istore_n (L' := [(1, .int (iI 0)), (0, .int (iI o))]) dX9_isSign_1 rfl (by decide) rfl ?_
  refine tn_sub [1, 0] rfl (l_X9_isSign_f_2 (d) (T := T) (σ := σ) (c0 := o) (by omega) hw (fun i11 r7 f8 f9 => ?_) (fun i110 r16 f17 f18 => ?_) _ (0) (by omega) (fun j hj => absurd hj (by omega)) rfl)
  · show Tn _ _ 19 T σ [(0, .int (iI o)), (1, .int (iI i11))] [] _
    refine tn_iconst dX9_isSign_19 ?_
    exact tn_zret (v := 1) rfl (by decide) dX9_isSign_20 ⟨_, rfl, rfl, rfl, by omega, ⟨fun _ => f9, fun q => absurd q (by decide)⟩⟩
  · show Tn _ _ 27 T σ [(0, .int (iI o)), (1, .int (iI i110))] [] _
    refine tn_iconst dX9_isSign_27 ?_
    exact tn_zret (v := 0) rfl (by decide) dX9_isSign_28 ⟨_, rfl, rfl, rfl, by omega, ⟨fun q => absurd q (by decide), fun _ => f18⟩⟩
end
section
set_option maxHeartbeats 4000000 in
set_option maxRecDepth 20000 in
theorem l_X9_wordKind_f_2 (d : Nat) {T : CT} {σ : MS} {a : Nat} {post : Option Value → CT → MS → Prop} (h_a : OB T a 9) (hw : WT T σ) (hx_22 : ∀ (i1 : Int) , (0 ≤ i1 ∧ i1 ≤ 5) → (True) → (258 + i1 = wkF (σ.2.1 86 a)) → Tn (d + 1) m_X9_wordKind 22 T σ [(0, .ref a), (1, .int (iI i1))] [] post) (hx_34 : ∀ (i1 : Int) , (0 ≤ i1 ∧ i1 ≤ 5) → (True) → (256 = wkF (σ.2.1 86 a)) → Tn (d + 1) m_X9_wordKind 34 T σ [(0, .ref a), (1, .int (iI i1))] [] post) : ∀ (n : Nat) (i1 : Int) , (0 ≤ i1 ∧ i1 ≤ 5) → (WKI (σ.2.1 86 a) i1) → (2147483700 - i1).toNat = n → Tn (d + 1) m_X9_wordKind 2 T σ [(0, .ref a), (1, .int (iI i1))] [] post := by
  intro n
  induction n using Nat.strongRecOn with
  | _ n ih =>
    intro i1 r_i1 hwk hm
    refine tn_iload_n dX9_wordKind_2 rfl 1 rfl ?_
    refine tn_stLen st_wk dX9_wordKind_3 fl9_66 dX9_wordKind_6 ?_
    show Tn _ _ 7 T σ [(0, .ref a), (1, .int (iI i1))] (.int (iI 5) :: [.int (iI i1)]) _
    refine tn_icmp_ge (tgt := 34) dX9_wordKind_7 (by decide) ⟨by omega, by omega⟩ ⟨by decide, by decide⟩ (fun h1 => ?_) (fun h1 => ?_)
    · exact tn_sub [0, 1] rfl (hx_34 (i1) (by omega) True.intro (WKI.no hwk (by omega) (by have q9 := wf_86 hw h_a; omega)))
    · refine tn_stIntX (z := i1) st_wk dX9_wordKind_10 fl9_66 (Or.inl ⟨_, rfl, rfl, dX9_wordKind_13⟩) (q := 1) rfl dX9_wordKind_14 (by omega) (by omega) (by decide) (fun v2 g3 => ?_)
      have g3r : -2147483648 ≤ v2 ∧ v2 ≤ 2147483647 := g3.1
      show Tn _ _ 15 T σ [(0, .ref a), (1, .int (iI i1))] [.int (iI v2)] _
      refine tn_aload_n dX9_wordKind_15 rfl 0 rfl ?_
      refine tn_getI (ci := 9) (i := 5) (n := 86) (t := σ.2.1 86 a) dX9_wordKind_16 rfl lay_9 (by decide) fl9_55 h_a rfl rfl (rfl) ?_
      have g4 : ((-2147483648 : Int) ≤ σ.2.1 86 a ∧ σ.2.1 86 a ≤ 2147483647) := wf_86 hw h_a
      refine tn_icmp_ne (tgt := 28) dX9_wordKind_19 (by decide) ⟨by omega, by omega⟩ ⟨by omega, by omega⟩ (fun h5 => ?_) (fun h5 => ?_)
      · refine tn_iinc (q0 := 1) (L' := [(1, .int (iI (i1 + 1))), (0, .ref a)]) dX9_wordKind_28 rfl (by decide) rfl ?_
        refine tn_goto (tgt := 2) dX9_wordKind_31 (by decide) ?_
        exact tn_sub [1, 0] rfl (ih _ (by omega) (i1 + 1) (by omega) (WKI.up hwk (by omega) g3 (by omega) (by omega)) rfl)
      · exact tn_sub [0, 1] rfl (hx_22 (i1) (by omega) True.intro (WKI.yes hwk ⟨by omega, by omega⟩ g3 (by omega) (by omega)))
set_option maxHeartbeats 4000000 in
set_option maxRecDepth 20000 in
theorem k_X9_wordKind_f (d : Nat) {T : CT} {σ : MS} {a : Nat} (ha : OB T a 9) (hw : WT T σ) : Tn (d + 1) m_X9_wordKind 0 T σ [(0, .ref a)] [] (fun ro T2 σ2 => ∃ v : Int, ro = some (.int (iI v)) ∧ T = T2 ∧ σ = σ2 ∧ (-2147483648 ≤ v ∧ v ≤ 2147483647) ∧ (v = wkF (σ.2.1 86 a))) := by
  refine tn_iconst dX9_wordKind_0 ?_
  refine tn_istore_n (L' := [(1, .int (iI 0)), (0, .ref a)]) dX9_wordKind_1 rfl (by decide) rfl ?_
  refine tn_sub [1, 0] rfl (l_X9_wordKind_f_2 (d) (T := T) (σ := σ) (a := a) ha hw (fun i11 r7 f8 f9 => ?_) (fun i110 r16 f17 f18 => ?_) _ (0) (by omega) (fun j hj => absurd hj (by omega)) rfl)
  · show Tn _ _ 22 T σ [(0, .ref a), (1, .int (iI i11))] [] _
    refine tn_sipush dX9_wordKind_22 (by decide) ?_
    refine tn_iload_n dX9_wordKind_25 rfl 1 rfl ?_
    refine tn_iadd dX9_wordKind_26 ?_
    exact tn_iret rfl dX9_wordKind_27 ⟨_, rfl, rfl, rfl, by omega, f9⟩
  · show Tn _ _ 34 T σ [(0, .ref a), (1, .int (iI i110))] [] _
    refine tn_sipush dX9_wordKind_34 (by decide) ?_
    exact tn_iret rfl dX9_wordKind_37 ⟨_, rfl, rfl, rfl, by omega, f18⟩
end
section
set_option maxHeartbeats 4000000 in
set_option maxRecDepth 20000 in
theorem k_X9_keep_f (d : Nat) {T : CT} {σ : MS} {a : Nat} {n : Int} (ha : OB T a 9) (h_n : -2147483648 ≤ n ∧ n ≤ 2147483647) (hw : WT T σ) (hk : n = 1200 → σ.2.1 85 a = 0 ∨ σ.2.1 85 a = 263 ∨ σ.2.1 85 a = 264) (hn : 0 ≤ n ∧ n ≤ 1200) : Tn (d + 2) m_X9_keep 0 T σ [(0, .ref a), (1, .int (iI n))] [] (fun ro T2 σ2 => ro = none ∧ T = T2 ∧ WT T2 σ2 ∧ FrC T [512, 522, 523] σ σ2 ∧ (KPQ σ σ2 a n (σ.2.1 85 a) (σ.2.1 86 a) (σ.2.1 87 a))) := by
  refine tn_aload_n dX9_keep_0 rfl 0 rfl ?_
  obtain ⟨x1, hx2, hk3, hl4⟩ : ∃ x : Nat, σ.2.1 81 a = (x : Int) ∧ AR T x 12 1201 1201 := wf_81 hw ha
  have hk3i : IA T x1 := by unfold IA; omega
  refine tn_getR (ci := 9) (i := 0) (n := 81) (x := x1) dX9_keep_1 rfl lay_9 (by decide) fl9_9 ha rfl rfl (hx2) ?_
  refine tn_iload_n dX9_keep_4 rfl 1 rfl ?_
  refine tn_aload_n dX9_keep_5 rfl 0 rfl ?_
  refine tn_getI (ci := 9) (i := 4) (n := 85) (t := σ.2.1 85 a) dX9_keep_6 rfl lay_9 (by decide) fl9_30 ha rfl rfl (rfl) ?_
  have g5 : ((-2147483648 : Int) ≤ σ.2.1 85 a ∧ σ.2.1 85 a ≤ 2147483647) := wf_85 hw ha
  refine tn_callSN (M := m_X9_keep) (pc := 9) (ix := 51) (M' := m_X11_put) (As := [.ref x1, .int (iI n), .int (iI (σ.2.1 85 a))]) (rest := []) dX9_keep_9 ok_X11_put stt_X11_put nl9_51 np_X11_put rfl (Nat.le_of_ble_eq_true rfl) (Nat.le_of_ble_eq_true rfl) rfl (k_X11_put_12 (d) (T := T) (σ := σ) (x := x1) (i := n) (y := σ.2.1 85 a) hk3i (by omega) hk3 (by omega) (by omega) hw (by rw [hk3]; exact vok_12 (by omega) hk)) (fun r6 T8 σ7 gt9 hp => ?_)
  obtain ⟨rfl, rfl, w12, F13, f10⟩ := hp
  clear gt9
  show Tn _ _ 12 T σ7 [(0, .ref a), (1, .int (iI n))] [] _
  refine tn_aload_n dX9_keep_12 rfl 0 rfl ?_
  obtain ⟨x14, hx15, hk16, hl17⟩ : ∃ x : Nat, σ.2.1 82 a = (x : Int) ∧ AR T x 22 1201 1201 := wf_82 hw ha
  have hk16i : IA T x14 := by unfold IA; omega
  refine tn_getR (ci := 9) (i := 1) (n := 82) (x := x14) dX9_keep_13 rfl lay_9 (by decide) fl9_15 ha rfl rfl (rc_F F13 (Or.inl (by decide)) (by decide) (hx15)) ?_
  refine tn_iload_n dX9_keep_16 rfl 1 rfl ?_
  refine tn_aload_n dX9_keep_17 rfl 0 rfl ?_
  refine tn_getI (ci := 9) (i := 5) (n := 86) (t := σ.2.1 86 a) dX9_keep_18 rfl lay_9 (by decide) fl9_55 ha rfl rfl (rc_F F13 (Or.inl (by decide)) (by decide) (rfl)) ?_
  have g18 : ((-2147483648 : Int) ≤ σ.2.1 86 a ∧ σ.2.1 86 a ≤ 2147483647) := wf_86 hw ha
  refine tn_callSN (M := m_X9_keep) (pc := 21) (ix := 51) (M' := m_X11_put) (As := [.ref x14, .int (iI n), .int (iI (σ.2.1 86 a))]) (rest := []) dX9_keep_21 ok_X11_put stt_X11_put nl9_51 np_X11_put rfl (Nat.le_of_ble_eq_true rfl) (Nat.le_of_ble_eq_true rfl) rfl (k_X11_put_22 (d) (T := T) (σ := σ7) (x := x14) (i := n) (y := σ.2.1 86 a) hk16i (by omega) hk16 (by omega) (by omega) w12 ) (fun r19 T21 σ20 gt22 hp => ?_)
  obtain ⟨rfl, rfl, w25, F26, f23⟩ := hp
  clear gt22
  show Tn _ _ 24 T σ20 [(0, .ref a), (1, .int (iI n))] [] _
  refine tn_aload_n dX9_keep_24 rfl 0 rfl ?_
  obtain ⟨x27, hx28, hk29, hl30⟩ : ∃ x : Nat, σ.2.1 83 a = (x : Int) ∧ AR T x 23 1201 1201 := wf_83 hw ha
  have hk29i : IA T x27 := by unfold IA; omega
  refine tn_getR (ci := 9) (i := 2) (n := 83) (x := x27) dX9_keep_25 rfl lay_9 (by decide) fl9_18 ha rfl rfl (rc_F F26 (Or.inl (by decide)) (by decide) (rc_F F13 (Or.inl (by decide)) (by decide) (hx28))) ?_
  refine tn_iload_n dX9_keep_28 rfl 1 rfl ?_
  refine tn_aload_n dX9_keep_29 rfl 0 rfl ?_
  refine tn_getI (ci := 9) (i := 6) (n := 87) (t := σ.2.1 87 a) dX9_keep_30 rfl lay_9 (by decide) fl9_34 ha rfl rfl (rc_F F26 (Or.inl (by decide)) (by decide) (rc_F F13 (Or.inl (by decide)) (by decide) (rfl))) ?_
  have g31 : ((-2147483648 : Int) ≤ σ.2.1 87 a ∧ σ.2.1 87 a ≤ 2147483647) := wf_87 hw ha
  refine tn_callSN (M := m_X9_keep) (pc := 33) (ix := 51) (M' := m_X11_put) (As := [.ref x27, .int (iI n), .int (iI (σ.2.1 87 a))]) (rest := []) dX9_keep_33 ok_X11_put stt_X11_put nl9_51 np_X11_put rfl (Nat.le_of_ble_eq_true rfl) (Nat.le_of_ble_eq_true rfl) rfl (k_X11_put_23 (d) (T := T) (σ := σ20) (x := x27) (i := n) (y := σ.2.1 87 a) hk29i (by omega) hk29 (by omega) (by omega) w25 ) (fun r32 T34 σ33 gt35 hp => ?_)
  obtain ⟨rfl, rfl, w38, F39, f36⟩ := hp
  clear gt35
  show Tn _ _ 36 T σ33 [(0, .ref a), (1, .int (iI n))] [] _
  have w40n8182 : x1 ≠ x14 := fun e => by have q9 := hk3; rw [e] at q9; have w9 := hk16; omega
  have w40n8183 : x1 ≠ x27 := fun e => by have q9 := hk3; rw [e] at q9; have w9 := hk29; omega
  have w40n8283 : x14 ≠ x27 := fun e => by have q9 := hk16; rw [e] at q9; have w9 := hk29; omega
  have w4081 : ∀ k : Nat, σ.2.1 81 a = (k : Int) → ∀ i, σ33.2.1 (1000 + k) i = if i = n then σ.2.1 85 a else σ.2.1 (1000 + k) i := fun y hy i => by
      have e : y = x1 := by omega
      rw [e, f36, if_pos ⟨by omega, by omega⟩, sA_k (by omega), f23, if_pos ⟨by omega, by omega⟩, sA_k (by omega), f10, if_pos ⟨by omega, by omega⟩, sA_at]
  have w4082 : ∀ k : Nat, σ.2.1 82 a = (k : Int) → ∀ i, σ33.2.1 (1000 + k) i = if i = n then σ.2.1 86 a else σ.2.1 (1000 + k) i := fun y hy i => by
      have e : y = x14 := by omega
      rw [e, f36, if_pos ⟨by omega, by omega⟩, sA_k (by omega), f23, if_pos ⟨by omega, by omega⟩, sA_at, show σ7.2.1 (1000 + x14) = σ.2.1 (1000 + x14) by rw [f10, if_pos ⟨by omega, by omega⟩, sA_k (by omega)]]
  have w4083 : ∀ k : Nat, σ.2.1 83 a = (k : Int) → ∀ i, σ33.2.1 (1000 + k) i = if i = n then σ.2.1 87 a else σ.2.1 (1000 + k) i := fun y hy i => by
      have e : y = x27 := by omega
      rw [e, f36, if_pos ⟨by omega, by omega⟩, sA_at, show σ20.2.1 (1000 + x27) = σ.2.1 (1000 + x27) by rw [f23, if_pos ⟨by omega, by omega⟩, sA_k (by omega), f10, if_pos ⟨by omega, by omega⟩, sA_k (by omega)]]
  exact tn_vret rfl dX9_keep_36 ⟨rfl, rfl, w38, (((FrC.rfl.trans (FrC.sub F13 (by decide))).trans (FrC.sub F26 (by decide))).trans (FrC.sub F39 (by decide))), ⟨w4081, w4082, w4083⟩⟩
end
section
set_option maxHeartbeats 4000000 in
set_option maxRecDepth 20000 in
theorem l_X9_scanOne_f_8 (d : Nat) {T : CT} {σ0 : MS} {a : Nat} {rx1 : Nat} {c2 : Int} {c3 : Int} {fT : Int → Int} {Sx : Int → Int} {post : Option Value → CT → MS → Prop} (h_a : OB T a 9) (h_rx1 : (T rx1).1 = 2) (l_rx1 : (T rx1).2 ≤ 1000000) (r_c2 : 0 ≤ c2 ∧ c2 ≤ 1200) (r_c3 : 0 ≤ c3 ∧ c3 ≤ 1200) (hw0 : WT T σ0) (ht : (T rx1).2 = 1200) (hB : BYT fT) (hSx : Sx = svC fT c2) (hx_56 : ∀ (i4 : Int) (σ : MS) , (WT T σ) → (FrC T [86] σ0 σ) → (0 ≤ i4 ∧ i4 ≤ 1200) → (c3 ≤ i4 ∧ i4 ≤ c2) → (LTN Sx c3 i4) → (NUM9 Sx c3 i4 (σ.2.1 86 a)) → (RWE σ rx1 fT c2) → (¬ (97 ≤ Sx i4 ∧ Sx i4 ≤ 122)) → Tn (d + 2) m_X9_scanOne 56 T σ [(0, .ref a), (1, .ref rx1), (2, .int (iI c2)), (3, .int (iI c3)), (4, .int (iI i4))] [] post) : ∀ (n : Nat) (i4 : Int) (σ : MS) , (WT T σ) → (FrC T [86] σ0 σ) → (0 ≤ i4 ∧ i4 ≤ 1200) → (c3 ≤ i4 ∧ i4 ≤ c2) → (LTN Sx c3 i4) → (NUM9 Sx c3 i4 (σ.2.1 86 a)) → (RWE σ rx1 fT c2) → (2147483700 - i4).toNat = n → Tn (d + 2) m_X9_scanOne 8 T σ [(0, .ref a), (1, .ref rx1), (2, .int (iI c2)), (3, .int (iI c3)), (4, .int (iI i4))] [] post := by
  intro n
  induction n using Nat.strongRecOn with
  | _ n ih =>
    intro i4 σ hw hF r_i4 h0 hlt hnu hrow hm
    refine tn_iload dX9_scanOne_8 4 rfl ?_
    refine tn_iload_n dX9_scanOne_10 rfl 2 rfl ?_
    refine tn_icmp_ge (tgt := 56) dX9_scanOne_11 (by decide) ⟨by omega, by omega⟩ ⟨by omega, by omega⟩ (fun h1 => ?_) (fun h1 => ?_)
    · exact tn_sub [0, 1, 2, 3, 4] rfl (hx_56 (i4) σ hw (FrC.rfl.trans (FrC.sub hF (by decide))) (by omega) (by omega) hlt hnu hrow (not_let hSx hB (by omega)))
    · refine tn_aload_n dX9_scanOne_14 rfl 1 rfl ?_
      refine tn_iload dX9_scanOne_15 4 rfl ?_
      have g2 := hB (i4)
      refine tn_bald (z := i4) (v := fT (i4)) dX9_scanOne_17 h_rx1 (by omega) (by omega) (by omega) (hrow (i4) (by omega) (by omega)) ?_
      refine tn_bipush dX9_scanOne_18 (by decide) ?_
      refine tn_icmp_lt (tgt := 56) dX9_scanOne_20 (by decide) ⟨by omega, by omega⟩ ⟨by decide, by decide⟩ (fun h3 => ?_) (fun h3 => ?_)
      · exact tn_sub [0, 1, 2, 3, 4] rfl (hx_56 (i4) σ hw (FrC.rfl.trans (FrC.sub hF (by decide))) (by omega) (by omega) hlt hnu hrow (not_let hSx hB (by omega)))
      · refine tn_aload_n dX9_scanOne_23 rfl 1 rfl ?_
        refine tn_iload dX9_scanOne_24 4 rfl ?_
        have g4 := hB (i4)
        refine tn_bald (z := i4) (v := fT (i4)) dX9_scanOne_26 h_rx1 (by omega) (by omega) (by omega) (hrow (i4) (by omega) (by omega)) ?_
        refine tn_bipush dX9_scanOne_27 (by decide) ?_
        refine tn_icmp_gt (tgt := 56) dX9_scanOne_29 (by decide) ⟨by omega, by omega⟩ ⟨by decide, by decide⟩ (fun h5 => ?_) (fun h5 => ?_)
        · exact tn_sub [0, 1, 2, 3, 4] rfl (hx_56 (i4) σ hw (FrC.rfl.trans (FrC.sub hF (by decide))) (by omega) (by omega) hlt hnu hrow (not_let hSx hB (by omega)))
        · refine tn_aload_n dX9_scanOne_32 rfl 0 rfl ?_
          refine tn_aload_n dX9_scanOne_33 rfl 0 rfl ?_
          refine tn_getI (ci := 9) (i := 5) (n := 86) (t := σ.2.1 86 a) dX9_scanOne_34 rfl lay_9 (by decide) fl9_55 h_a rfl rfl (rfl) ?_
          have g6 : ((-2147483648 : Int) ≤ σ.2.1 86 a ∧ σ.2.1 86 a ≤ 2147483647) := wf_86 hw h_a
          refine tn_iconst dX9_scanOne_37 ?_
          refine tn_ishl dX9_scanOne_38 ?_
          refine tn_aload_n dX9_scanOne_39 rfl 1 rfl ?_
          refine tn_iload dX9_scanOne_40 4 rfl ?_
          have g7 := hB (i4)
          refine tn_bald (z := i4) (v := fT (i4)) dX9_scanOne_42 h_rx1 (by omega) (by omega) (by omega) (hrow (i4) (by omega) (by omega)) ?_
          refine tn_bipush dX9_scanOne_43 (by decide) ?_
          refine tn_isub dX9_scanOne_45 ?_
          refine tn_ior dX9_scanOne_46 ?_
          rw [← sh5_i]
          have g8 := sh5_r (σ.2.1 86 a) ((fT (i4)) - 96)
          refine tn_putV (ci := 9) (i := 5) (n := 86) (r := false) (v := sh5 (σ.2.1 86 a) ((fT (i4)) - 96)) tyX9 tyX9_ok nmX9 dX9_scanOne_47 rfl lay_9 (by decide) fl9_55 rfl (tyX9_ok 5 (by decide)) rfl rfl rfl h_a rfl rfl ?_
          refine tn_iinc (q0 := 4) (L' := [(4, .int (iI (i4 + 1))), (0, .ref a), (1, .ref rx1), (2, .int (iI c2)), (3, .int (iI c3))]) dX9_scanOne_50 rfl (by decide) rfl ?_
          refine tn_goto (tgt := 8) dX9_scanOne_53 (by decide) ?_
          have q9 : 97 ≤ Sx i4 ∧ Sx i4 ≤ 122 := by rw [hSx]; exact (svC_eq hB (by omega) (by decide) (by decide)).mpr ⟨by omega, by omega⟩
          have q9e : Sx i4 = fT (i4) := is_byte hSx (by omega) (by omega)
          have q10 : (sA 86 a (sh5 (σ.2.1 86 a) ((fT (i4)) - 96)) σ).2.1 86 a = sh5 (σ.2.1 86 a) ((fT (i4)) - 96) := ra_eq
          exact tn_sub [1, 2, 3, 4, 0] rfl (ih _ (by omega) (i4 + 1) (sA 86 a (sh5 (σ.2.1 86 a) ((fT (i4)) - 96)) σ) (hw.put (by decide) (by decide) (fo_86 (by omega))) ((FrC.rfl.trans (FrC.sub hF (by decide))).put (by decide) (by decide)) (by omega) (by omega) (hlt.up (by omega) q9) (by rw [q10]; have w9 := NUM9.up hnu hlt (by omega) q9; rw [q9e] at w9; exact w9) (RWE.cg hrow (sA_k (by omega))) rfl)
set_option maxHeartbeats 4000000 in
set_option maxRecDepth 20000 in
theorem l_X9_scanOne_f_88 (d : Nat) {T : CT} {σ0 : MS} {a : Nat} {rx1 : Nat} {c2 : Int} {c3 : Int} {fT : Int → Int} {Sx : Int → Int} {post : Option Value → CT → MS → Prop} (h_a : OB T a 9) (h_rx1 : (T rx1).1 = 2) (l_rx1 : (T rx1).2 ≤ 1000000) (r_c2 : 0 ≤ c2 ∧ c2 ≤ 1200) (r_c3 : 0 ≤ c3 ∧ c3 ≤ 1200) (hw0 : WT T σ0) (ht : (T rx1).2 = 1200) (hB : BYT fT) (hSx : Sx = svC fT c2) (hx_137 : ∀ (i4 : Int) (σ : MS) , (WT T σ) → (FrC T [86] σ0 σ) → (0 ≤ i4 ∧ i4 ≤ 1200) → (c3 ≤ i4 ∧ i4 ≤ c2) → (DGN Sx c3 i4) → (DVQ Sx c3 i4 (σ.2.1 86 a)) → (RWE σ rx1 fT c2) → (¬ (48 ≤ Sx i4 ∧ Sx i4 ≤ 57)) → Tn (d + 2) m_X9_scanOne 137 T σ [(0, .ref a), (1, .ref rx1), (2, .int (iI c2)), (3, .int (iI c3)), (4, .int (iI i4))] [] post) : ∀ (n : Nat) (i4 : Int) (σ : MS) , (WT T σ) → (FrC T [86] σ0 σ) → (0 ≤ i4 ∧ i4 ≤ 1200) → (c3 ≤ i4 ∧ i4 ≤ c2) → (DGN Sx c3 i4) → (DVQ Sx c3 i4 (σ.2.1 86 a)) → (RWE σ rx1 fT c2) → (2147483700 - i4).toNat = n → Tn (d + 2) m_X9_scanOne 88 T σ [(0, .ref a), (1, .ref rx1), (2, .int (iI c2)), (3, .int (iI c3)), (4, .int (iI i4))] [] post := by
  intro n
  induction n using Nat.strongRecOn with
  | _ n ih =>
    intro i4 σ hw hF r_i4 h0 hdg hdv hrow hm
    refine tn_iload dX9_scanOne_88 4 rfl ?_
    refine tn_iload_n dX9_scanOne_90 rfl 2 rfl ?_
    refine tn_icmp_ge (tgt := 137) dX9_scanOne_91 (by decide) ⟨by omega, by omega⟩ ⟨by omega, by omega⟩ (fun h1 => ?_) (fun h1 => ?_)
    · exact tn_sub [0, 1, 2, 3, 4] rfl (hx_137 (i4) σ hw (FrC.rfl.trans (FrC.sub hF (by decide))) (by omega) (by omega) hdg hdv hrow (not_dig hSx hB (by omega)))
    · refine tn_aload_n dX9_scanOne_94 rfl 1 rfl ?_
      refine tn_iload dX9_scanOne_95 4 rfl ?_
      have g2 := hB (i4)
      refine tn_bald (z := i4) (v := fT (i4)) dX9_scanOne_97 h_rx1 (by omega) (by omega) (by omega) (hrow (i4) (by omega) (by omega)) ?_
      refine tn_bipush dX9_scanOne_98 (by decide) ?_
      refine tn_icmp_lt (tgt := 137) dX9_scanOne_100 (by decide) ⟨by omega, by omega⟩ ⟨by decide, by decide⟩ (fun h3 => ?_) (fun h3 => ?_)
      · exact tn_sub [0, 1, 2, 3, 4] rfl (hx_137 (i4) σ hw (FrC.rfl.trans (FrC.sub hF (by decide))) (by omega) (by omega) hdg hdv hrow (not_dig hSx hB (by omega)))
      · refine tn_aload_n dX9_scanOne_103 rfl 1 rfl ?_
        refine tn_iload dX9_scanOne_104 4 rfl ?_
        have g4 := hB (i4)
        refine tn_bald (z := i4) (v := fT (i4)) dX9_scanOne_106 h_rx1 (by omega) (by omega) (by omega) (hrow (i4) (by omega) (by omega)) ?_
        refine tn_bipush dX9_scanOne_107 (by decide) ?_
        refine tn_icmp_gt (tgt := 137) dX9_scanOne_109 (by decide) ⟨by omega, by omega⟩ ⟨by decide, by decide⟩ (fun h5 => ?_) (fun h5 => ?_)
        · exact tn_sub [0, 1, 2, 3, 4] rfl (hx_137 (i4) σ hw (FrC.rfl.trans (FrC.sub hF (by decide))) (by omega) (by omega) hdg hdv hrow (not_dig hSx hB (by omega)))
        · refine tn_aload_n dX9_scanOne_112 rfl 0 rfl ?_
          refine tn_aload_n dX9_scanOne_113 rfl 0 rfl ?_
          refine tn_getI (ci := 9) (i := 5) (n := 86) (t := σ.2.1 86 a) dX9_scanOne_114 rfl lay_9 (by decide) fl9_55 h_a rfl rfl (rfl) ?_
          have g6 : ((-2147483648 : Int) ≤ σ.2.1 86 a ∧ σ.2.1 86 a ≤ 2147483647) := wf_86 hw h_a
          refine tn_bipush dX9_scanOne_117 (by decide) ?_
          refine tn_imul dX9_scanOne_119 ?_
          rw [show iI ((σ.2.1 86 a) * 10) = iI (iw ((σ.2.1 86 a) * 10)) from (iI_self _).symm]
          have g7r : -2147483648 ≤ iw ((σ.2.1 86 a) * 10) ∧ iw ((σ.2.1 86 a) * 10) ≤ 2147483647 := inR_toInt _
          refine tn_aload_n dX9_scanOne_120 rfl 1 rfl ?_
          refine tn_iload dX9_scanOne_121 4 rfl ?_
          have g8 := hB (i4)
          refine tn_bald (z := i4) (v := fT (i4)) dX9_scanOne_123 h_rx1 (by omega) (by omega) (by omega) (hrow (i4) (by omega) (by omega)) ?_
          refine tn_bipush dX9_scanOne_124 (by decide) ?_
          refine tn_isub dX9_scanOne_126 ?_
          refine tn_iadd dX9_scanOne_127 ?_
          rw [show iI ((iw ((σ.2.1 86 a) * 10)) + ((fT (i4)) - 48)) = iI (iw ((iw ((σ.2.1 86 a) * 10)) + ((fT (i4)) - 48))) from (iI_self _).symm]
          have g9r : -2147483648 ≤ iw ((iw ((σ.2.1 86 a) * 10)) + ((fT (i4)) - 48)) ∧ iw ((iw ((σ.2.1 86 a) * 10)) + ((fT (i4)) - 48)) ≤ 2147483647 := inR_toInt _
          refine tn_putV (ci := 9) (i := 5) (n := 86) (r := false) (v := iw ((iw ((σ.2.1 86 a) * 10)) + ((fT (i4)) - 48))) tyX9 tyX9_ok nmX9 dX9_scanOne_128 rfl lay_9 (by decide) fl9_55 rfl (tyX9_ok 5 (by decide)) rfl rfl rfl h_a rfl rfl ?_
          refine tn_iinc (q0 := 4) (L' := [(4, .int (iI (i4 + 1))), (0, .ref a), (1, .ref rx1), (2, .int (iI c2)), (3, .int (iI c3))]) dX9_scanOne_131 rfl (by decide) rfl ?_
          refine tn_goto (tgt := 88) dX9_scanOne_134 (by decide) ?_
          have q10 : 48 ≤ Sx i4 ∧ Sx i4 ≤ 57 := by rw [hSx]; exact (svC_eq hB (by omega) (by decide) (by decide)).mpr ⟨by omega, by omega⟩
          have q10e : Sx i4 = fT (i4) := is_byte hSx (by omega) (by omega)
          have q11 : (sA 86 a (iw ((iw ((σ.2.1 86 a) * 10)) + ((fT (i4)) - 48))) σ).2.1 86 a = iw ((iw ((σ.2.1 86 a) * 10)) + ((fT (i4)) - 48)) := ra_eq
          exact tn_sub [1, 2, 3, 4, 0] rfl (ih _ (by omega) (i4 + 1) (sA 86 a (iw ((iw ((σ.2.1 86 a) * 10)) + ((fT (i4)) - 48))) σ) (hw.put (by decide) (by decide) (fo_86 (by omega))) ((FrC.rfl.trans (FrC.sub hF (by decide))).put (by decide) (by decide)) (by omega) (by omega) (hdg.up (by omega) q10) (by rw [q11]; have w9 := DVQ.up hdv (by omega) (by omega) q10; rw [q10e] at w9; exact w9) (RWE.cg hrow (sA_k (by omega))) rfl)
set_option maxHeartbeats 4000000 in
set_option maxRecDepth 20000 in
theorem k_X9_scanOne_f (d : Nat) {T : CT} {σ : MS} {a : Nat} {t : Nat} {l : Int} {i : Int} {fT Sx : Int → Int} (ha : OB T a 9) (h_t : (T t).1 = 2) (l_t : (T t).2 ≤ 1000000) (h_l : -2147483648 ≤ l ∧ l ≤ 2147483647) (h_i : -2147483648 ≤ i ∧ i ≤ 2147483647) (hw : WT T σ) (hi : 0 ≤ i ∧ i < l ∧ l ≤ 1200) (ht : (T t).2 = 1200) (hfT : RWE σ t fT l) (hB : BYT fT) (hSx : Sx = svC fT l) : Tn (d + 2) m_X9_scanOne 0 T σ [(0, .ref a), (1, .ref t), (2, .int (iI l)), (3, .int (iI i))] [] (fun ro T2 σ2 => ∃ v : Int, ro = some (.int (iI v)) ∧ T = T2 ∧ WT T2 σ2 ∧ FrC T [85, 86] σ σ2 ∧ (-2147483648 ≤ v ∧ v ≤ 2147483647) ∧ (i < v ∧ v ≤ l) ∧ (SOQ Sx i v (σ2.2.1 85 a) (σ2.2.1 86 a))) := by
  have hrow := hfT
  refine tn_iload_n dX9_scanOne_0 rfl 3 rfl ?_
  refine tn_istore (L' := [(4, .int (iI i)), (0, .ref a), (1, .ref t), (2, .int (iI l)), (3, .int (iI i))]) dX9_scanOne_1 (by decide) rfl ?_
  refine tn_aload_n dX9_scanOne_3 rfl 1 rfl ?_
  refine tn_iconst dX9_scanOne_4 ?_
  refine tn_putV (ci := 9) (i := 5) (n := 86) (r := false) (v := 0) tyX9 tyX9_ok nmX9 dX9_scanOne_5 rfl lay_9 (by decide) fl9_55 rfl (tyX9_ok 5 (by decide)) rfl rfl rfl ha rfl rfl ?_
  have q1 : (sA 86 a (0) σ).2.1 86 a = 0 := ra_eq
  refine tn_sub [1, 2, 3, 4, 0] rfl (l_X9_scanOne_f_8 (d) (T := T) (σ0 := (sA 86 a (0) σ)) (a := a) (rx1 := t) (c2 := l) (c3 := i) (fT := fT) (Sx := Sx) ha h_t (by omega) (by omega) (by omega) (hw.put (by decide) (by decide) (fo_86 (by omega))) ht hB hSx (fun i42 σ3 w6 F7 r8 f9 f10 f11 f12 f13 => ?_) _ (i) (sA 86 a (0) σ) (hw.put (by decide) (by decide) (fo_86 (by omega))) FrC.rfl (by omega) (by omega) (fun j hj => absurd hj (by omega)) (fun _ => by rw [q1, show (i - i).toNat = 0 by omega]; rfl) (RWE.cg hrow (sA_k (by omega))) rfl)
  show Tn _ _ 56 T σ3 [(0, .ref a), (1, .ref t), (2, .int (iI l)), (3, .int (iI i)), (4, .int (iI i42))] [] _
  refine tn_iload dX9_scanOne_56 4 rfl ?_
  refine tn_iload_n dX9_scanOne_58 rfl 3 rfl ?_
  refine tn_icmp_le (tgt := 88) dX9_scanOne_59 (by decide) ⟨by omega, by omega⟩ ⟨by omega, by omega⟩ (fun h14 => ?_) (fun h14 => ?_)
  · have w150 : i42 = i := by omega
    have w15 : σ3.2.1 86 a = 0 := by have w9 := f11 (by omega); rw [show (i42 - i).toNat = 0 by omega] at w9; exact w9
    refine tn_sub [0, 1, 2, 3, 4] rfl (l_X9_scanOne_f_88 (d) (T := T) (σ0 := σ3) (a := a) (rx1 := t) (c2 := l) (c3 := i) (fT := fT) (Sx := Sx) ha h_t (by omega) (by omega) (by omega) w6 ht hB hSx (fun i416 σ17 w20 F21 r22 f23 f24 f25 f26 f27 => ?_) _ (i42) σ3 w6 FrC.rfl (by omega) (by omega) (fun j hj => absurd hj (by omega)) (by rw [w150]; exact DVQ.nl w15) (RWE.cg (RWE.cg hrow (sA_k (by omega))) (F7.2 t (by rw [h_t]; unfold HT; omega) (by rw [h_t]; decide))) rfl)
    show Tn _ _ 137 T σ17 [(0, .ref a), (1, .ref t), (2, .int (iI l)), (3, .int (iI i)), (4, .int (iI i416))] [] _
    refine tn_iload dX9_scanOne_137 4 rfl ?_
    refine tn_iload_n dX9_scanOne_139 rfl 3 rfl ?_
    refine tn_icmp_le (tgt := 168) dX9_scanOne_140 (by decide) ⟨by omega, by omega⟩ ⟨by omega, by omega⟩ (fun h28 => ?_) (fun h28 => ?_)
    · refine tn_aload_n dX9_scanOne_168 rfl 0 rfl ?_
      refine tn_aload_n dX9_scanOne_169 rfl 1 rfl ?_
      refine tn_iload_n dX9_scanOne_170 rfl 3 rfl ?_
      have g29 := hB (i)
      refine tn_bald (z := i) (v := fT (i)) dX9_scanOne_171 h_t (by omega) (by omega) (by omega) ((RWE.cg (RWE.cg (RWE.cg hrow (sA_k (by omega))) (F7.2 t (by rw [h_t]; unfold HT; omega) (by rw [h_t]; decide))) (F21.2 t (by rw [h_t]; unfold HT; omega) (by rw [h_t]; decide))) (i) (by omega) (by omega)) ?_
      refine tn_callS (M := m_X9_scanOne) (pc := 172) (ix := 62) (M' := m_X9_isSign) (As := [.int (iI (fT (i)))]) (rest := [.ref a]) dX9_scanOne_172 ok_X9_isSign stt_X9_isSign ml9_62 np_X9_isSign rfl (Nat.le_of_ble_eq_true rfl) (Nat.le_of_ble_eq_true rfl) rfl (k_X9_isSign_f (d) (T := T) (σ := σ17) (o := fT (i)) (by omega) w20 ) (fun r30 T32 σ31 gt33 hp => ?_)
      obtain ⟨v36, rfl, rfl, rfl, f34, f35⟩ := hp
      clear gt33
      show Tn _ _ 175 T σ17 [(0, .ref a), (1, .ref t), (2, .int (iI l)), (3, .int (iI i)), (4, .int (iI i416))] [.int (iI v36), .ref a] _
      refine tn_if_eq (tgt := 184) dX9_scanOne_175 (by decide) ⟨by omega, by omega⟩ (fun h37 => ?_) (fun h37 => ?_)
      · refine tn_sipush dX9_scanOne_184 (by decide) ?_
        refine tn_putV (ci := 9) (i := 4) (n := 85) (r := false) (v := 263) tyX9 tyX9_ok nmX9 dX9_scanOne_187 rfl lay_9 (by decide) fl9_30 rfl (tyX9_ok 4 (by decide)) rfl rfl rfl ha rfl rfl ?_
        refine tn_iload_n dX9_scanOne_190 rfl 3 rfl ?_
        refine tn_iconst dX9_scanOne_191 ?_
        refine tn_iadd dX9_scanOne_192 ?_
        have q38 : (sA 85 a (263) σ17).2.1 85 a = 263 := ra_eq
        have q39 : (sA 85 a (263) σ17).2.1 86 a = σ17.2.1 86 a := rc_o (by decide) (rfl)
        have w40a : ¬ (97 ≤ svC fT l i ∧ svC fT l i ≤ 122) := by rw [← hSx, show i = i42 by omega]; exact f13
        have w40b : ¬ (48 ≤ svC fT l i ∧ svC fT l i ≤ 57) := by rw [← hSx, show i = i416 by omega]; exact f27
        have w40 := (so_sg2 (x := σ17.2.1 86 a) hB (by omega) w40a w40b f35).2 (by omega)
        exact tn_iret rfl dX9_scanOne_193 ⟨_, rfl, rfl, (w20.put (by decide) (by decide) (fo_85 (by omega))), ((((FrC.rfl.put (by decide) (by decide)).trans (FrC.sub F7 (by decide))).trans (FrC.sub F21 (by decide))).put (by decide) (by decide)), by omega, by omega, by rw [q38, q39, hSx]; exact w40⟩
      · refine tn_aload_n dX9_scanOne_178 rfl 1 rfl ?_
        refine tn_iload_n dX9_scanOne_179 rfl 3 rfl ?_
        have g41 := hB (i)
        refine tn_bald (z := i) (v := fT (i)) dX9_scanOne_180 h_t (by omega) (by omega) (by omega) ((RWE.cg (RWE.cg (RWE.cg hrow (sA_k (by omega))) (F7.2 t (by rw [h_t]; unfold HT; omega) (by rw [h_t]; decide))) (F21.2 t (by rw [h_t]; unfold HT; omega) (by rw [h_t]; decide))) (i) (by omega) (by omega)) ?_
        refine tn_goto (tgt := 187) dX9_scanOne_181 (by decide) ?_
        refine tn_putV (ci := 9) (i := 4) (n := 85) (r := false) (v := fT (i)) tyX9 tyX9_ok nmX9 dX9_scanOne_187 rfl lay_9 (by decide) fl9_30 rfl (tyX9_ok 4 (by decide)) rfl rfl rfl ha rfl rfl ?_
        refine tn_iload_n dX9_scanOne_190 rfl 3 rfl ?_
        refine tn_iconst dX9_scanOne_191 ?_
        refine tn_iadd dX9_scanOne_192 ?_
        have q42 : (sA 85 a (fT (i)) σ17).2.1 85 a = fT (i) := ra_eq
        have q43 : (sA 85 a (fT (i)) σ17).2.1 86 a = σ17.2.1 86 a := rc_o (by decide) (rfl)
        have w44a : ¬ (97 ≤ svC fT l i ∧ svC fT l i ≤ 122) := by rw [← hSx, show i = i42 by omega]; exact f13
        have w44b : ¬ (48 ≤ svC fT l i ∧ svC fT l i ≤ 57) := by rw [← hSx, show i = i416 by omega]; exact f27
        have w44 := (so_sg2 (x := σ17.2.1 86 a) hB (by omega) w44a w44b f35).1 (by omega)
        exact tn_iret rfl dX9_scanOne_193 ⟨_, rfl, rfl, (w20.put (by decide) (by decide) (fo_85 (by omega))), ((((FrC.rfl.put (by decide) (by decide)).trans (FrC.sub F7 (by decide))).trans (FrC.sub F21 (by decide))).put (by decide) (by decide)), by omega, by omega, by rw [q42, q43, hSx]; exact w44⟩
    · refine tn_aload_n dX9_scanOne_143 rfl 0 rfl ?_
      refine tn_iload dX9_scanOne_144 4 rfl ?_
      refine tn_iload_n dX9_scanOne_146 rfl 3 rfl ?_
      refine tn_isub dX9_scanOne_147 ?_
      refine tn_bipush dX9_scanOne_148 (by decide) ?_
      refine tn_icmp_le (tgt := 159) dX9_scanOne_150 (by decide) ⟨by omega, by omega⟩ ⟨by decide, by decide⟩ (fun h45 => ?_) (fun h45 => ?_)
      · refine tn_sipush dX9_scanOne_159 (by decide) ?_
        refine tn_putV (ci := 9) (i := 4) (n := 85) (r := false) (v := 257) tyX9 tyX9_ok nmX9 dX9_scanOne_162 rfl lay_9 (by decide) fl9_30 rfl (tyX9_ok 4 (by decide)) rfl rfl rfl ha rfl rfl ?_
        refine tn_iload dX9_scanOne_165 4 rfl ?_
        have q46 : (sA 85 a (257) σ17).2.1 85 a = 257 := ra_eq
        have q47 : (sA 85 a (257) σ17).2.1 86 a = σ17.2.1 86 a := rc_o (by decide) (rfl)
        have w48 := (so_dig (x := σ17.2.1 86 a) (by omega) (by omega) f24 f25 f27).1 (by omega)
        exact tn_iret rfl dX9_scanOne_167 ⟨_, rfl, rfl, (w20.put (by decide) (by decide) (fo_85 (by omega))), ((((FrC.rfl.put (by decide) (by decide)).trans (FrC.sub F7 (by decide))).trans (FrC.sub F21 (by decide))).put (by decide) (by decide)), by omega, by omega, by rw [q46, q47]; exact w48⟩
      · refine tn_sipush dX9_scanOne_153 (by decide) ?_
        refine tn_goto (tgt := 162) dX9_scanOne_156 (by decide) ?_
        refine tn_putV (ci := 9) (i := 4) (n := 85) (r := false) (v := 263) tyX9 tyX9_ok nmX9 dX9_scanOne_162 rfl lay_9 (by decide) fl9_30 rfl (tyX9_ok 4 (by decide)) rfl rfl rfl ha rfl rfl ?_
        refine tn_iload dX9_scanOne_165 4 rfl ?_
        have q49 : (sA 85 a (263) σ17).2.1 85 a = 263 := ra_eq
        have q50 : (sA 85 a (263) σ17).2.1 86 a = σ17.2.1 86 a := rc_o (by decide) (rfl)
        have w51 := (so_dig (x := σ17.2.1 86 a) (by omega) (by omega) f24 f25 f27).2 (by omega)
        exact tn_iret rfl dX9_scanOne_167 ⟨_, rfl, rfl, (w20.put (by decide) (by decide) (fo_85 (by omega))), ((((FrC.rfl.put (by decide) (by decide)).trans (FrC.sub F7 (by decide))).trans (FrC.sub F21 (by decide))).put (by decide) (by decide)), by omega, by omega, by rw [q49, q50]; exact w51⟩
  · refine tn_aload_n dX9_scanOne_62 rfl 0 rfl ?_
    refine tn_iload dX9_scanOne_63 4 rfl ?_
    refine tn_iload_n dX9_scanOne_65 rfl 3 rfl ?_
    refine tn_isub dX9_scanOne_66 ?_
    refine tn_bipush dX9_scanOne_67 (by decide) ?_
    refine tn_icmp_le (tgt := 78) dX9_scanOne_69 (by decide) ⟨by omega, by omega⟩ ⟨by decide, by decide⟩ (fun h52 => ?_) (fun h52 => ?_)
    · refine tn_aload_n dX9_scanOne_78 rfl 0 rfl ?_
      refine tn_callV (M := m_X9_scanOne) (pc := 79) (ix := 58) (ci := 9) (M' := m_X9_wordKind) (As := []) (rest := [.ref a]) dX9_scanOne_79 ok_X9_wordKind im_X9_wordKind se_X9_wordKind ml9_58 np_X9_wordKind rfl rfl ha rfl (Nat.le_of_ble_eq_true rfl) (Nat.le_of_ble_eq_true rfl) rfl (k_X9_wordKind_f (d) (T := T) (σ := σ3) (a := a) ha w6 ) (fun r53 T55 σ54 gt56 hp => ?_)
      obtain ⟨v59, rfl, rfl, rfl, f57, f58⟩ := hp
      clear gt56
      show Tn _ _ 82 T σ3 [(0, .ref a), (1, .ref t), (2, .int (iI l)), (3, .int (iI i)), (4, .int (iI i42))] [.int (iI v59), .ref a] _
      refine tn_putV (ci := 9) (i := 4) (n := 85) (r := false) (v := v59) tyX9 tyX9_ok nmX9 dX9_scanOne_82 rfl lay_9 (by decide) fl9_30 rfl (tyX9_ok 4 (by decide)) rfl rfl rfl ha rfl rfl ?_
      refine tn_iload dX9_scanOne_85 4 rfl ?_
      have q60 : (sA 85 a (v59) σ3).2.1 85 a = v59 := ra_eq
      have q61 : (sA 85 a (v59) σ3).2.1 86 a = σ3.2.1 86 a := rc_o (by decide) (rfl)
      have w62 := (so_let (by omega) (by omega) f10 f11 f13).1 (by omega)
      exact tn_iret rfl dX9_scanOne_87 ⟨_, rfl, rfl, (w6.put (by decide) (by decide) (fo_85 (by omega))), (((FrC.rfl.put (by decide) (by decide)).trans (FrC.sub F7 (by decide))).put (by decide) (by decide)), by omega, by omega, by rw [q60, q61, f58]; exact w62⟩
    · refine tn_sipush dX9_scanOne_72 (by decide) ?_
      refine tn_goto (tgt := 82) dX9_scanOne_75 (by decide) ?_
      refine tn_putV (ci := 9) (i := 4) (n := 85) (r := false) (v := 263) tyX9 tyX9_ok nmX9 dX9_scanOne_82 rfl lay_9 (by decide) fl9_30 rfl (tyX9_ok 4 (by decide)) rfl rfl rfl ha rfl rfl ?_
      refine tn_iload dX9_scanOne_85 4 rfl ?_
      have q63 : (sA 85 a (263) σ3).2.1 85 a = 263 := ra_eq
      have q64 : (sA 85 a (263) σ3).2.1 86 a = σ3.2.1 86 a := rc_o (by decide) (rfl)
      have w65 := (so_let (by omega) (by omega) f10 f11 f13).2 (by omega)
      exact tn_iret rfl dX9_scanOne_87 ⟨_, rfl, rfl, (w6.put (by decide) (by decide) (fo_85 (by omega))), (((FrC.rfl.put (by decide) (by decide)).trans (FrC.sub F7 (by decide))).put (by decide) (by decide)), by omega, by omega, by rw [q63, q64]; exact w65⟩
end
section
set_option maxHeartbeats 4000000 in
set_option maxRecDepth 20000 in
theorem k_X9_next_f0 (d : Nat) {T : CT} {σ : MS} {a : Nat} {Sx : Int → Int} {nx : Nat} (ha : OB T a 9) (hw : WT T σ) (hT : TKI σ a) (h1 : σ.2.1 84 a = -1) (hr : TRW σ a Sx nx) (he : TEN Sx nx) (hn : nx ≤ 1200) : Tn (d + 1) m_X9_next 0 T σ [(0, .ref a)] [] (fun ro T2 σ2 => ro = none ∧ T = T2 ∧ WT T2 σ2 ∧ FrC T [84, 85, 86, 87] σ σ2 ∧ (TKI σ2 a) ∧ (σ.2.1 84 a ≤ σ2.2.1 84 a) ∧ (ADV σ σ2 a) ∧ (TKT σ2 a Sx nx 0)) := by
  refine tn_aload_n dX9_next_0 rfl 0 rfl ?_
  refine tn_getI (ci := 9) (i := 3) (n := 84) (t := σ.2.1 84 a) dX9_next_1 rfl lay_9 (by decide) fl9_45 ha rfl rfl (rfl) ?_
  have g1 : ((-1 : Int) ≤ σ.2.1 84 a ∧ σ.2.1 84 a ≤ 1200) := wf_84 hw ha
  refine tn_iconst dX9_next_4 ?_
  refine tn_iadd dX9_next_5 ?_
  refine tn_aload_n dX9_next_6 rfl 0 rfl ?_
  obtain ⟨x2, hx3, hk4, hl5⟩ : ∃ x : Nat, σ.2.1 81 a = (x : Int) ∧ AR T x 12 1201 1201 := wf_81 hw ha
  have hk4i : IA T x2 := by unfold IA; omega
  refine tn_getR (ci := 9) (i := 0) (n := 81) (x := x2) dX9_next_7 rfl lay_9 (by decide) fl9_9 ha rfl rfl (hx3) ?_
  refine tn_alenX dX9_next_10 (Or.inl hk4i) ?_
  refine tn_icmp_ge (tgt := 118) dX9_next_11 (by decide) ⟨by omega, by omega⟩ ⟨by omega, by omega⟩ (fun h6 => ?_) (fun h6 => ?_)
  · have q7 : σ.2.1 84 a = σ.2.1 84 a := rfl
    have q8 : σ.2.1 85 a = σ.2.1 85 a := rfl
    exact tn_vret rfl dX9_next_118 ⟨rfl, rfl, hw, FrC.rfl, False.elim (by omega), False.elim (by omega), False.elim (by omega), False.elim (by omega)⟩
  · refine tn_aload_n dX9_next_14 rfl 0 rfl ?_
    refine tn_getI (ci := 9) (i := 3) (n := 84) (t := σ.2.1 84 a) dX9_next_15 rfl lay_9 (by decide) fl9_45 ha rfl rfl (rfl) ?_
    refine tn_iconst dX9_next_18 ?_
    refine tn_iadd dX9_next_19 ?_
    refine tn_aload_n dX9_next_20 rfl 0 rfl ?_
    obtain ⟨x9, hx10, hk11, hl12⟩ : ∃ x : Nat, σ.2.1 82 a = (x : Int) ∧ AR T x 22 1201 1201 := wf_82 hw ha
    have hk11i : IA T x9 := by unfold IA; omega
    refine tn_getR (ci := 9) (i := 1) (n := 82) (x := x9) dX9_next_21 rfl lay_9 (by decide) fl9_15 ha rfl rfl (hx10) ?_
    refine tn_alenX dX9_next_24 (Or.inl hk11i) ?_
    refine tn_icmp_ge (tgt := 118) dX9_next_25 (by decide) ⟨by omega, by omega⟩ ⟨by omega, by omega⟩ (fun h13 => ?_) (fun h13 => ?_)
    · have q14 : σ.2.1 84 a = σ.2.1 84 a := rfl
      have q15 : σ.2.1 85 a = σ.2.1 85 a := rfl
      exact tn_vret rfl dX9_next_118 ⟨rfl, rfl, hw, FrC.rfl, False.elim (by omega), False.elim (by omega), False.elim (by omega), False.elim (by omega)⟩
    · refine tn_aload_n dX9_next_28 rfl 0 rfl ?_
      refine tn_getI (ci := 9) (i := 3) (n := 84) (t := σ.2.1 84 a) dX9_next_29 rfl lay_9 (by decide) fl9_45 ha rfl rfl (rfl) ?_
      refine tn_iconst dX9_next_32 ?_
      refine tn_iadd dX9_next_33 ?_
      refine tn_aload_n dX9_next_34 rfl 0 rfl ?_
      obtain ⟨x16, hx17, hk18, hl19⟩ : ∃ x : Nat, σ.2.1 83 a = (x : Int) ∧ AR T x 23 1201 1201 := wf_83 hw ha
      have hk18i : IA T x16 := by unfold IA; omega
      refine tn_getR (ci := 9) (i := 2) (n := 83) (x := x16) dX9_next_35 rfl lay_9 (by decide) fl9_18 ha rfl rfl (hx17) ?_
      refine tn_alenX dX9_next_38 (Or.inl hk18i) ?_
      refine tn_icmp_ge (tgt := 118) dX9_next_39 (by decide) ⟨by omega, by omega⟩ ⟨by omega, by omega⟩ (fun h20 => ?_) (fun h20 => ?_)
      · have q21 : σ.2.1 84 a = σ.2.1 84 a := rfl
        have q22 : σ.2.1 85 a = σ.2.1 85 a := rfl
        exact tn_vret rfl dX9_next_118 ⟨rfl, rfl, hw, FrC.rfl, False.elim (by omega), False.elim (by omega), False.elim (by omega), False.elim (by omega)⟩
      · refine tn_aload_n dX9_next_42 rfl 0 rfl ?_
        refine tn_getI (ci := 9) (i := 3) (n := 84) (t := σ.2.1 84 a) dX9_next_43 rfl lay_9 (by decide) fl9_45 ha rfl rfl (rfl) ?_
        refine tn_if_lt (tgt := 69) dX9_next_46 (by decide) ⟨by omega, by omega⟩ (fun h23 => ?_) (fun h23 => ?_)
        · refine tn_aload_n dX9_next_69 rfl 0 rfl ?_
          refine tn_dup dX9_next_70 rfl ?_
          refine tn_getI (ci := 9) (i := 3) (n := 84) (t := σ.2.1 84 a) dX9_next_71 rfl lay_9 (by decide) fl9_45 ha rfl rfl (rfl) ?_
          refine tn_iconst dX9_next_74 ?_
          refine tn_iadd dX9_next_75 ?_
          refine tn_putV (ci := 9) (i := 3) (n := 84) (r := false) (v := (σ.2.1 84 a) + 1) tyX9 tyX9_ok nmX9 dX9_next_76 rfl lay_9 (by decide) fl9_45 rfl (tyX9_ok 3 (by decide)) rfl rfl rfl ha rfl rfl ?_
          refine tn_aload_n dX9_next_79 rfl 0 rfl ?_
          refine tn_aload_n dX9_next_80 rfl 0 rfl ?_
          refine tn_getR (ci := 9) (i := 0) (n := 81) (x := x2) dX9_next_81 rfl lay_9 (by decide) fl9_9 ha rfl rfl (rc_o (by decide) (hx3)) ?_
          refine tn_aload_n dX9_next_84 rfl 0 rfl ?_
          refine tn_getI (ci := 9) (i := 3) (n := 84) (t := (σ.2.1 84 a) + 1) dX9_next_85 rfl lay_9 (by decide) fl9_45 ha rfl rfl (ra_eq) ?_
          refine tn_ialdX (z := (σ.2.1 84 a) + 1) (hw.put (by decide) (by decide) (fo_84 (by omega))) dX9_next_88 hk4i (by omega) (by omega) (by omega) (fun v24 g25q g25 g25k => ?_)
          have g25u := g25k.2.2.1 hk4
          have g25Q : v24 = σ.2.1 (1000 + x2) ((σ.2.1 84 a) + 1) := by rw [g25q, sA_k (by omega)]
          clear g25k g25q
          refine tn_putV (ci := 9) (i := 4) (n := 85) (r := false) (v := v24) tyX9 tyX9_ok nmX9 dX9_next_89 rfl lay_9 (by decide) fl9_30 rfl (tyX9_ok 4 (by decide)) rfl rfl rfl ha rfl rfl ?_
          refine tn_aload_n dX9_next_92 rfl 0 rfl ?_
          refine tn_aload_n dX9_next_93 rfl 0 rfl ?_
          refine tn_getR (ci := 9) (i := 1) (n := 82) (x := x9) dX9_next_94 rfl lay_9 (by decide) fl9_15 ha rfl rfl (rc_o (by decide) (rc_o (by decide) (hx10))) ?_
          refine tn_aload_n dX9_next_97 rfl 0 rfl ?_
          refine tn_getI (ci := 9) (i := 3) (n := 84) (t := (σ.2.1 84 a) + 1) dX9_next_98 rfl lay_9 (by decide) fl9_45 ha rfl rfl (rc_o (by decide) (ra_eq)) ?_
          refine tn_ialdX (z := (σ.2.1 84 a) + 1) ((hw.put (by decide) (by decide) (fo_84 (by omega))).put (by decide) (by decide) (fo_85 (by omega))) dX9_next_101 hk11i (by omega) (by omega) (by omega) (fun v26 g27q g27 g27k => ?_)
          have g27Q : v26 = σ.2.1 (1000 + x9) ((σ.2.1 84 a) + 1) := by rw [g27q, sA_k (by omega), sA_k (by omega)]
          clear g27k g27q
          refine tn_putV (ci := 9) (i := 5) (n := 86) (r := false) (v := v26) tyX9 tyX9_ok nmX9 dX9_next_102 rfl lay_9 (by decide) fl9_55 rfl (tyX9_ok 5 (by decide)) rfl rfl rfl ha rfl rfl ?_
          refine tn_aload_n dX9_next_105 rfl 0 rfl ?_
          refine tn_aload_n dX9_next_106 rfl 0 rfl ?_
          refine tn_getR (ci := 9) (i := 2) (n := 83) (x := x16) dX9_next_107 rfl lay_9 (by decide) fl9_18 ha rfl rfl (rc_o (by decide) (rc_o (by decide) (rc_o (by decide) (hx17)))) ?_
          refine tn_aload_n dX9_next_110 rfl 0 rfl ?_
          refine tn_getI (ci := 9) (i := 3) (n := 84) (t := (σ.2.1 84 a) + 1) dX9_next_111 rfl lay_9 (by decide) fl9_45 ha rfl rfl (rc_o (by decide) (rc_o (by decide) (ra_eq))) ?_
          refine tn_ialdX (z := (σ.2.1 84 a) + 1) (((hw.put (by decide) (by decide) (fo_84 (by omega))).put (by decide) (by decide) (fo_85 (by omega))).put (by decide) (by decide) (fo_86 (by omega))) dX9_next_114 hk18i (by omega) (by omega) (by omega) (fun v28 g29q g29 g29k => ?_)
          have g29Q : v28 = σ.2.1 (1000 + x16) ((σ.2.1 84 a) + 1) := by rw [g29q, sA_k (by omega), sA_k (by omega), sA_k (by omega)]
          clear g29k g29q
          refine tn_putV (ci := 9) (i := 6) (n := 87) (r := false) (v := v28) tyX9 tyX9_ok nmX9 dX9_next_115 rfl lay_9 (by decide) fl9_34 rfl (tyX9_ok 6 (by decide)) rfl rfl rfl ha rfl rfl ?_
          have q30 : (sA 87 a (v28) (sA 86 a (v26) (sA 85 a (v24) (sA 84 a ((σ.2.1 84 a) + 1) σ)))).2.1 84 a = (σ.2.1 84 a) + 1 := rc_o (by decide) (rc_o (by decide) (rc_o (by decide) (ra_eq)))
          have q31 : (sA 87 a (v28) (sA 86 a (v26) (sA 85 a (v24) (sA 84 a ((σ.2.1 84 a) + 1) σ)))).2.1 85 a = v24 := rc_o (by decide) (rc_o (by decide) (ra_eq))
          have q32 : (sA 87 a (v28) (sA 86 a (v26) (sA 85 a (v24) (sA 84 a ((σ.2.1 84 a) + 1) σ)))).2.1 84 a = (σ.2.1 84 a) + 1 := rc_o (by decide) (rc_o (by decide) (rc_o (by decide) (ra_eq)))
          have q33 : (sA 87 a (v28) (sA 86 a (v26) (sA 85 a (v24) (sA 84 a ((σ.2.1 84 a) + 1) σ)))).2.1 85 a = v24 := rc_o (by decide) (rc_o (by decide) (ra_eq))
          have q34 : (sA 87 a (v28) (sA 86 a (v26) (sA 85 a (v24) (sA 84 a ((σ.2.1 84 a) + 1) σ)))).2.1 86 a = v26 := rc_o (by decide) (ra_eq)
          have q35 : (sA 87 a (v28) (sA 86 a (v26) (sA 85 a (v24) (sA 84 a ((σ.2.1 84 a) + 1) σ)))).2.1 87 a = v28 := ra_eq
          have w36 := hr x2 x9 x16 hx3 hx10 hx17 0 (Nat.zero_le _)
          have w36i : σ.2.1 84 a + 1 = ((0 : Nat) : Int) := by omega
          rw [w36i] at g25Q
          rw [w36i] at g27Q
          rw [w36i] at g29Q
          exact tn_vret rfl dX9_next_118 ⟨rfl, rfl, ((((hw.put (by decide) (by decide) (fo_84 (by omega))).put (by decide) (by decide) (fo_85 (by omega))).put (by decide) (by decide) (fo_86 (by omega))).put (by decide) (by decide) (fo_87 (by omega))), ((((FrC.rfl.put (by decide) (by decide)).put (by decide) (by decide)).put (by decide) (by decide)).put (by decide) (by decide)), by unfold TKI at *; rw [q30, q31]; omega, by rw [q30]; omega, by unfold ADV TKI at *; rw [q30]; omega, ⟨⟨Nat.zero_le _, hn, by rw [q32]; omega⟩, ⟨by rw [q33, g25Q]; exact w36.1, by rw [q34, g27Q]; exact w36.2.1, by rw [q35, g29Q]; exact w36.2.2⟩, ((((hr).pt (by decide)).pt (by decide)).pt (by decide)).pt (by decide), he⟩⟩
        · refine tn_aload_n dX9_next_49 rfl 0 rfl ?_
          refine tn_getI (ci := 9) (i := 4) (n := 85) (t := σ.2.1 85 a) dX9_next_50 rfl lay_9 (by decide) fl9_30 ha rfl rfl (rfl) ?_
          have g37 : ((-2147483648 : Int) ≤ σ.2.1 85 a ∧ σ.2.1 85 a ≤ 2147483647) := wf_85 hw ha
          refine tn_sipush dX9_next_53 (by decide) ?_
          refine tn_icmp_eq (tgt := 118) dX9_next_56 (by decide) ⟨by omega, by omega⟩ ⟨by decide, by decide⟩ (fun h38 => ?_) (fun h38 => ?_)
          · have q39 : σ.2.1 84 a = σ.2.1 84 a := rfl
            have q40 : σ.2.1 85 a = σ.2.1 85 a := rfl
            exact tn_vret rfl dX9_next_118 ⟨rfl, rfl, hw, FrC.rfl, False.elim (by omega), False.elim (by omega), False.elim (by omega), False.elim (by omega)⟩
          · refine tn_aload_n dX9_next_59 rfl 0 rfl ?_
            refine tn_getI (ci := 9) (i := 4) (n := 85) (t := σ.2.1 85 a) dX9_next_60 rfl lay_9 (by decide) fl9_30 ha rfl rfl (rfl) ?_
            refine tn_sipush dX9_next_63 (by decide) ?_
            refine tn_icmp_eq (tgt := 118) dX9_next_66 (by decide) ⟨by omega, by omega⟩ ⟨by decide, by decide⟩ (fun h41 => ?_) (fun h41 => ?_)
            · have q42 : σ.2.1 84 a = σ.2.1 84 a := rfl
              have q43 : σ.2.1 85 a = σ.2.1 85 a := rfl
              exact tn_vret rfl dX9_next_118 ⟨rfl, rfl, hw, FrC.rfl, False.elim (by omega), False.elim (by omega), False.elim (by omega), False.elim (by omega)⟩
            · refine tn_aload_n dX9_next_69 rfl 0 rfl ?_
              refine tn_dup dX9_next_70 rfl ?_
              refine tn_getI (ci := 9) (i := 3) (n := 84) (t := σ.2.1 84 a) dX9_next_71 rfl lay_9 (by decide) fl9_45 ha rfl rfl (rfl) ?_
              refine tn_iconst dX9_next_74 ?_
              refine tn_iadd dX9_next_75 ?_
              refine tn_putV (ci := 9) (i := 3) (n := 84) (r := false) (v := (σ.2.1 84 a) + 1) tyX9 tyX9_ok nmX9 dX9_next_76 rfl lay_9 (by decide) fl9_45 rfl (tyX9_ok 3 (by decide)) rfl rfl rfl ha rfl rfl ?_
              refine tn_aload_n dX9_next_79 rfl 0 rfl ?_
              refine tn_aload_n dX9_next_80 rfl 0 rfl ?_
              refine tn_getR (ci := 9) (i := 0) (n := 81) (x := x2) dX9_next_81 rfl lay_9 (by decide) fl9_9 ha rfl rfl (rc_o (by decide) (hx3)) ?_
              refine tn_aload_n dX9_next_84 rfl 0 rfl ?_
              refine tn_getI (ci := 9) (i := 3) (n := 84) (t := (σ.2.1 84 a) + 1) dX9_next_85 rfl lay_9 (by decide) fl9_45 ha rfl rfl (ra_eq) ?_
              refine tn_ialdX (z := (σ.2.1 84 a) + 1) (hw.put (by decide) (by decide) (fo_84 (by omega))) dX9_next_88 hk4i (by omega) (by omega) (by omega) (fun v44 g45q g45 g45k => ?_)
              have g45u := g45k.2.2.1 hk4
              have g45Q : v44 = σ.2.1 (1000 + x2) ((σ.2.1 84 a) + 1) := by rw [g45q, sA_k (by omega)]
              clear g45k g45q
              refine tn_putV (ci := 9) (i := 4) (n := 85) (r := false) (v := v44) tyX9 tyX9_ok nmX9 dX9_next_89 rfl lay_9 (by decide) fl9_30 rfl (tyX9_ok 4 (by decide)) rfl rfl rfl ha rfl rfl ?_
              refine tn_aload_n dX9_next_92 rfl 0 rfl ?_
              refine tn_aload_n dX9_next_93 rfl 0 rfl ?_
              refine tn_getR (ci := 9) (i := 1) (n := 82) (x := x9) dX9_next_94 rfl lay_9 (by decide) fl9_15 ha rfl rfl (rc_o (by decide) (rc_o (by decide) (hx10))) ?_
              refine tn_aload_n dX9_next_97 rfl 0 rfl ?_
              refine tn_getI (ci := 9) (i := 3) (n := 84) (t := (σ.2.1 84 a) + 1) dX9_next_98 rfl lay_9 (by decide) fl9_45 ha rfl rfl (rc_o (by decide) (ra_eq)) ?_
              refine tn_ialdX (z := (σ.2.1 84 a) + 1) ((hw.put (by decide) (by decide) (fo_84 (by omega))).put (by decide) (by decide) (fo_85 (by omega))) dX9_next_101 hk11i (by omega) (by omega) (by omega) (fun v46 g47q g47 g47k => ?_)
              have g47Q : v46 = σ.2.1 (1000 + x9) ((σ.2.1 84 a) + 1) := by rw [g47q, sA_k (by omega), sA_k (by omega)]
              clear g47k g47q
              refine tn_putV (ci := 9) (i := 5) (n := 86) (r := false) (v := v46) tyX9 tyX9_ok nmX9 dX9_next_102 rfl lay_9 (by decide) fl9_55 rfl (tyX9_ok 5 (by decide)) rfl rfl rfl ha rfl rfl ?_
              refine tn_aload_n dX9_next_105 rfl 0 rfl ?_
              refine tn_aload_n dX9_next_106 rfl 0 rfl ?_
              refine tn_getR (ci := 9) (i := 2) (n := 83) (x := x16) dX9_next_107 rfl lay_9 (by decide) fl9_18 ha rfl rfl (rc_o (by decide) (rc_o (by decide) (rc_o (by decide) (hx17)))) ?_
              refine tn_aload_n dX9_next_110 rfl 0 rfl ?_
              refine tn_getI (ci := 9) (i := 3) (n := 84) (t := (σ.2.1 84 a) + 1) dX9_next_111 rfl lay_9 (by decide) fl9_45 ha rfl rfl (rc_o (by decide) (rc_o (by decide) (ra_eq))) ?_
              refine tn_ialdX (z := (σ.2.1 84 a) + 1) (((hw.put (by decide) (by decide) (fo_84 (by omega))).put (by decide) (by decide) (fo_85 (by omega))).put (by decide) (by decide) (fo_86 (by omega))) dX9_next_114 hk18i (by omega) (by omega) (by omega) (fun v48 g49q g49 g49k => ?_)
              have g49Q : v48 = σ.2.1 (1000 + x16) ((σ.2.1 84 a) + 1) := by rw [g49q, sA_k (by omega), sA_k (by omega), sA_k (by omega)]
              clear g49k g49q
              refine tn_putV (ci := 9) (i := 6) (n := 87) (r := false) (v := v48) tyX9 tyX9_ok nmX9 dX9_next_115 rfl lay_9 (by decide) fl9_34 rfl (tyX9_ok 6 (by decide)) rfl rfl rfl ha rfl rfl ?_
              have q50 : (sA 87 a (v48) (sA 86 a (v46) (sA 85 a (v44) (sA 84 a ((σ.2.1 84 a) + 1) σ)))).2.1 84 a = (σ.2.1 84 a) + 1 := rc_o (by decide) (rc_o (by decide) (rc_o (by decide) (ra_eq)))
              have q51 : (sA 87 a (v48) (sA 86 a (v46) (sA 85 a (v44) (sA 84 a ((σ.2.1 84 a) + 1) σ)))).2.1 85 a = v44 := rc_o (by decide) (rc_o (by decide) (ra_eq))
              have q52 : (sA 87 a (v48) (sA 86 a (v46) (sA 85 a (v44) (sA 84 a ((σ.2.1 84 a) + 1) σ)))).2.1 84 a = (σ.2.1 84 a) + 1 := rc_o (by decide) (rc_o (by decide) (rc_o (by decide) (ra_eq)))
              have q53 : (sA 87 a (v48) (sA 86 a (v46) (sA 85 a (v44) (sA 84 a ((σ.2.1 84 a) + 1) σ)))).2.1 85 a = v44 := rc_o (by decide) (rc_o (by decide) (ra_eq))
              have q54 : (sA 87 a (v48) (sA 86 a (v46) (sA 85 a (v44) (sA 84 a ((σ.2.1 84 a) + 1) σ)))).2.1 86 a = v46 := rc_o (by decide) (ra_eq)
              have q55 : (sA 87 a (v48) (sA 86 a (v46) (sA 85 a (v44) (sA 84 a ((σ.2.1 84 a) + 1) σ)))).2.1 87 a = v48 := ra_eq
              have w56 := hr x2 x9 x16 hx3 hx10 hx17 0 (Nat.zero_le _)
              have w56i : σ.2.1 84 a + 1 = ((0 : Nat) : Int) := by omega
              rw [w56i] at g45Q
              rw [w56i] at g47Q
              rw [w56i] at g49Q
              exact tn_vret rfl dX9_next_118 ⟨rfl, rfl, ((((hw.put (by decide) (by decide) (fo_84 (by omega))).put (by decide) (by decide) (fo_85 (by omega))).put (by decide) (by decide) (fo_86 (by omega))).put (by decide) (by decide) (fo_87 (by omega))), ((((FrC.rfl.put (by decide) (by decide)).put (by decide) (by decide)).put (by decide) (by decide)).put (by decide) (by decide)), by unfold TKI at *; rw [q50, q51]; omega, by rw [q50]; omega, by unfold ADV TKI at *; rw [q50]; omega, ⟨⟨Nat.zero_le _, hn, by rw [q52]; omega⟩, ⟨by rw [q53, g45Q]; exact w56.1, by rw [q54, g47Q]; exact w56.2.1, by rw [q55, g49Q]; exact w56.2.2⟩, ((((hr).pt (by decide)).pt (by decide)).pt (by decide)).pt (by decide), he⟩⟩
end
