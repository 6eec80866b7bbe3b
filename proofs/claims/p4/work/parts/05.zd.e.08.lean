set_option maxHeartbeats 4000000 in
set_option maxRecDepth 20000 in
theorem k_X5_statement_f (d : Nat) {T : CT} {σ : MS} {a : Nat} {dp : Int} {kp : Int} {lv : Nat} {Sx : Int → Int} {nx jx : Nat} {cx : CS} {Nx : Int} {bx : Int} (ha : OB T a 5) (h_dp : -2147483648 ≤ dp ∧ dp ≤ 2147483647) (hw : WT T σ) (hex : ∀ (d : Nat) {T : CT} {σ : MS} {a : Nat} {dp : Int} {kp : Int} {Sx : Int → Int} {nx jx : Nat} {cx : CS} {Nx : Int} {bx : Int} (ha : OB T a 5) (h_dp : -2147483648 ≤ dp ∧ dp ≤ 2147483647) (hw : WT T σ) (hdp : 1 ≤ dp ∧ dp ≤ 7) (hlv : 7 ≤ dp + (lv : Int)) (hfx : RDX σ a Sx nx jx cx Nx) (hb : bx = dp - 1) (hm : cx.m ≤ (jx : Int)) (hkp : kp ≤ 140) (hrp : RP σ a kp), Tn (d + 3 * lv + 60) m_X5_block 0 T σ [(0, .ref a), (1, .int (iI dp))] [] (fun ro T2 σ2 => ∃ v : Int, ro = some (.int (iI v)) ∧ WT T2 σ2 ∧ FrC T [5, 6, 7, 9, 42, 43, 44, 45, 46, 47, 50, 51, 84, 85, 86, 87, 518, 519, 520, 521] σ σ2 ∧ (v = 0 ∨ v = 1) ∧ (YQ σ2 a Sx nx bx [28] jx cx (Nx) 2 v) ∧ (RP σ2 a (kp + 2 - 10 * v)))) (hdp : 1 ≤ dp ∧ dp ≤ 6) (hlv : 6 ≤ dp + (lv : Int)) (hfx : RDX σ a Sx nx jx cx Nx) (hb : bx = dp) (hm : cx.m ≤ (jx : Int)) (hkp : kp ≤ 140) (hrp : RP σ a kp) : Tn (d + 3 * lv + 62) m_X5_statement 0 T σ [(0, .ref a), (1, .int (iI dp))] [] (fun ro T2 σ2 => ∃ v : Int, ro = some (.int (iI v)) ∧ WT T2 σ2 ∧ FrC T [5, 6, 7, 9, 42, 43, 44, 45, 46, 47, 50, 51, 84, 85, 86, 87, 518, 519, 520, 521] σ σ2 ∧ (v = 0 ∨ v = 1) ∧ (YQ σ2 a Sx nx bx [20] jx cx (Nx) 1 v) ∧ (RP σ2 a (kp + 2 - 8 * v))) := by
  have hSb := hfx.1.sb
  have e45 := hfx.e45
  have hpo9 := hfx.po
  unfold PO at hpo9
  have hjn := RDX.jn hfx hw ha
  refine tn_aload_n dX5_statement_0 rfl 0 rfl ?_
  refine tn_dup dX5_statement_1 rfl ?_
  refine tn_getI (ci := 5) (i := 12) (n := 45) (t := σ.2.1 45 a) dX5_statement_2 rfl lay_5 (by decide) fl5_64 ha rfl rfl (rfl) ?_
  have g1 : ((-2147483648 : Int) ≤ σ.2.1 45 a ∧ σ.2.1 45 a ≤ 2147483647) := wf_45 hw ha
  refine tn_iconst dX5_statement_5 ?_
  refine tn_iadd dX5_statement_6 ?_
  refine tn_putV (ci := 5) (i := 12) (n := 45) (r := false) (v := (σ.2.1 45 a) + 1) tyX5 tyX5_ok nmX5 dX5_statement_7 rfl lay_5 (by decide) fl5_64 rfl (tyX5_ok 12 (by decide)) rfl rfl rfl ha rfl rfl ?_
  have fx2 : RDX (sA 45 a ((σ.2.1 45 a) + 1) σ) a Sx nx jx (msC (cx.m + 1) cx) Nx := by have q9 := RDX.sm hfx hm; rw [← e45] at q9 ⊢; exact q9
  refine tn_aload_n dX5_statement_10 rfl 0 rfl ?_
  refine tn_getI (ci := 5) (i := 12) (n := 45) (t := (σ.2.1 45 a) + 1) dX5_statement_11 rfl lay_5 (by decide) fl5_64 ha rfl rfl (ra_eq) ?_
  refine tn_bipush dX5_statement_14 (by decide) ?_
  refine tn_icmp_le (tgt := 31) dX5_statement_16 (by decide) ⟨by omega, by omega⟩ ⟨by decide, by decide⟩ (fun h3 => ?_) (fun h3 => ?_)
  · refine tn_aload_n dX5_statement_31 rfl 0 rfl ?_
    obtain ⟨x4, hx5, hk6⟩ : ∃ x : Nat, σ.2.1 35 a = (x : Int) ∧ (T x).1 = 31 := wf_35 hw ha
    have hk6o : OB T x4 1 := ⟨by omega, by rw [hk6]; rfl, by omega⟩
    refine tn_getR (ci := 5) (i := 2) (n := 35) (x := x4) dX5_statement_32 rfl lay_5 (by decide) fl5_47 ha rfl rfl (rc_o (by decide) (hx5)) ?_
    refine tn_getI (ci := 1) (i := 4) (n := 9) (t := σ.2.1 9 x4) dX5_statement_35 rfl lay_1 (by decide) fl5_186 hk6o rfl rfl (rc_o (by decide) (rfl)) ?_
    have g8 : ((-2147483648 : Int) ≤ σ.2.1 9 x4 ∧ σ.2.1 9 x4 ≤ 2147483647) := wf_9 hw hk6o
    refine tn_if_ne (tgt := 52) dX5_statement_38 (by decide) ⟨by omega, by omega⟩ (fun h9 => ?_) (fun h9 => ?_)
    · have fx10 : RDX (sA 45 a ((σ.2.1 45 a) + 1) σ) a Sx nx jx (uC cx (5, (tkS Sx jx).1, 0, 0)) Nx := RDX.cq fx2 (by rw [uC5n (by omega)])
      refine tn_aload_n dX5_statement_52 rfl 0 rfl ?_
      obtain ⟨x11, hx12, hk13⟩ : ∃ x : Nat, σ.2.1 33 a = (x : Int) ∧ (T x).1 = 39 := wf_33 hw ha
      have hk13o : OB T x11 9 := ⟨by omega, by rw [hk13]; rfl, by omega⟩
      refine tn_getR (ci := 5) (i := 0) (n := 33) (x := x11) dX5_statement_53 rfl lay_5 (by decide) fl5_12 ha rfl rfl (rc_o (by decide) (hx12)) ?_
      refine tn_getI (ci := 9) (i := 4) (n := 85) (t := σ.2.1 85 x11) dX5_statement_56 rfl lay_9 (by decide) fl5_71 hk13o rfl rfl (rc_o (by decide) (rfl)) ?_
      have g15 : ((-2147483648 : Int) ≤ σ.2.1 85 x11 ∧ σ.2.1 85 x11 ≤ 2147483647) := wf_85 hw hk13o
      have g15kd : σ.2.1 85 x11 = ckd (tkS Sx jx) := (rc_o (by decide) (rfl)).symm.trans ((fx10).1.kd (rc_o (by decide) (hx12)))
      by_cases h16 : σ.2.1 85 x11 < 256 ∨ 262 < σ.2.1 85 x11
      · refine tn_tableOut (tgt := 131) dX5_statement_59 (x := σ.2.1 85 x11) ⟨by omega, by omega⟩ h16 (by decide) ?_
        refine tn_aload_n dX5_statement_131 rfl 0 rfl ?_
        refine tn_callV (M := m_X5_statement) (pc := 132) (ix := 90) (ci := 5) (M' := m_X5_refuse) (As := []) (rest := []) dX5_statement_132 ok_X5_refuse im_X5_refuse se_X5_refuse ml5_90 np_X5_refuse rfl rfl ha rfl (Nat.le_of_ble_eq_true rfl) (Nat.le_of_ble_eq_true rfl) rfl (k_X5_refuse_f (d + 3 * lv + 60) (T := T) (σ := (sA 45 a ((σ.2.1 45 a) + 1) σ)) (a := a) ha (hw.put (by decide) (by decide) (fo_45 (by omega))) (fx10).1.1) (fun r17 T19 σ18 gt20 hp => ?_)
        obtain ⟨v25, rfl, rfl, w26, F27, f21, f22, f23, f24⟩ := hp
        clear gt20
        have pc28 : GRF Sx [20] jx (0) (bx) u0 (tkS Sx jx).1 := x20f hSb (by omega)
        have rf290 : GR Sx [20] jx 0 (bx) u0 [20] jx (0) (bx) u0 (0) ([]) := GR.nl
        have rf29 : GRF Sx [20] jx 0 (bx) u0 ((tkS Sx jx).1) := GR.fl (l := [20]) [] rf290 pc28
        have rp30 : RP σ18 a (kp) := RP.frc (hrp.put (by decide)) F27 (by decide) (by decide) (by decide) (by decide) (by decide)
        show Tn _ _ 135 T σ18 [(0, .ref a), (1, .int (iI dp))] [.int (iI v25)] _
        have rb32 : YF σ18 a Sx bx [20] jx := ⟨_, rf29, f23⟩
        exact tn_zret (v := v25) rfl (by omega) dX5_statement_135 ⟨_, rfl, w26, ((FrC.rfl.put (by decide) (by decide)).trans (FrC.sub F27 (by decide))), by omega, ⟨fun q => absurd q (by omega), fun _ => rb32⟩, (RP.up rp30 (by omega))⟩
      · have h33 : σ.2.1 85 x11 = 256 ∨ σ.2.1 85 x11 = 257 ∨ σ.2.1 85 x11 = 258 ∨ σ.2.1 85 x11 = 259 ∨ σ.2.1 85 x11 = 260 ∨ σ.2.1 85 x11 = 261 ∨ σ.2.1 85 x11 = 262 := by omega
        rcases h33 with h33 | h33 | h33 | h33 | h33 | h33 | h33
        · refine tn_tableIn (tgt := 100) (off := 41) dX5_statement_59 (x := σ.2.1 85 x11) ⟨by omega, by omega⟩ (by omega) (by omega) (by rw [h33]; rfl) (by decide) ?_
          refine tn_aload_n dX5_statement_100 rfl 0 rfl ?_
          have pc34 : GR Sx [20] jx (0) (bx) u0 [51, 23] jx (0) (bx) u0 0 [(5, (tkS Sx jx).1, 0, 0)] := x20n hSb (by omega)
          have rd350 : GR Sx [20] jx 0 (bx) u0 [20] jx (0) (bx) u0 (0) ([]) := GR.nl
          have rd35a : GR Sx [20] jx 0 (bx) u0 [51, 23] jx (0) (bx) u0 (0 + 0) ([] ++ [(5, (tkS Sx jx).1, 0, 0)]) := GR.gg (l := [20]) (ms := [51, 23]) [] rd350 pc34
          have rd35 : GR Sx [20] jx 0 (bx) u0 [51, 23] jx (0) (bx) u0 (0 + 0) ([(5, (tkS Sx jx).1, 0, 0)]) := rd35a
          refine tn_callV (M := m_X5_statement) (pc := 101) (ix := 189) (ci := 5) (M' := m_X5_assignment) (As := []) (rest := []) dX5_statement_101 ok_X5_assignment im_X5_assignment se_X5_assignment ml5_189 np_X5_assignment rfl rfl ha rfl (Nat.le_of_ble_eq_true rfl) (Nat.le_of_ble_eq_true rfl) rfl (k_X5_assignment_f (d + 3 * lv + 9) (T := T) (σ := (sA 45 a ((σ.2.1 45 a) + 1) σ)) (a := a) (kp := kp) (bx := bx) ha (hw.put (by decide) (by decide) (fo_45 (by omega))) fx10 (by omega) (by omega) (hrp.put (by decide))) (fun r36 T38 σ37 gt39 hp => ?_)
          obtain ⟨v43, rfl, w44, F45, f40, f41, f42⟩ := hp
          replace ha : OB T38 a 5 := gt39.ob ha
          have rp47 : RP σ37 a (kp - 10 * v43 + 1) := RP.up f42 (by omega)
          show Tn _ _ 104 T38 σ37 [(0, .ref a), (1, .int (iI dp))] [.int (iI v43)] _
          have ra48 : v43 = 1 → YS σ37 a Sx nx bx [20] jx cx (Nx) bx [] ((jx : Int) + 1) := fun hv => by
            obtain ⟨i50, es51, m52, lo53, rr54, fx55, fx55m⟩ := f41.1 hv
            have fx55s : σ37.2.1 45 a ≤ (i50 : Int) := by rw [fx55.e45]; exact fx55m
            have rd56 : GR Sx [20] jx 0 (bx) u0 [] i50 (0) (bx) u0 (0 + 0 + m52) ([(5, (tkS Sx jx).1, 0, 0)] ++ es51) := GR.gg (l := [51, 23]) (ms := []) [] rd35 rr54
            have fe57 := RDX.nq (M := Nx + (0 + 0 + m52)) (RDX.cq (c2 := ([(5, (tkS Sx jx).1, 0, 0)] ++ es51).foldl uC cx) fx55 (by simp only [List.foldl_append, List.foldl_cons, List.foldl_nil])) (by omega)
            have fe57m : (([(5, (tkS Sx jx).1, 0, 0)] ++ es51).foldl uC cx).m = (σ.2.1 45 a) + 1 := (fe57.e45).symm.trans (rc_F F45 (Or.inl (by decide)) (by decide) (ra_eq))
            exact ⟨i50, [(5, (tkS Sx jx).1, 0, 0)] ++ es51, 0 + 0 + m52, (by omega), rd56, fe57, by rw [fe57m]; omega⟩
          have rb49 : v43 = 0 → YF σ37 a Sx bx [20] jx := fun hv => by
            obtain ⟨pl58, g59, fx60⟩ := f41.2 hv
            have rf61 : GRF Sx [20] jx 0 (bx) u0 (pl58) := GR.fl (l := [51, 23]) [] rd35 g59
            exact ⟨_, rf61, fx60⟩
          exact tn_zret (v := v43) rfl (by omega) dX5_statement_104 ⟨_, rfl, w44, ((FrC.rfl.put (by decide) (by decide)).trans (FrC.sub F45 (by decide))), by omega, ⟨ra48, rb49⟩, (RP.up rp47 (by omega))⟩
        · refine tn_tableIn (tgt := 131) (off := 72) dX5_statement_59 (x := σ.2.1 85 x11) ⟨by omega, by omega⟩ (by omega) (by omega) (by rw [h33]; rfl) (by decide) ?_
          refine tn_aload_n dX5_statement_131 rfl 0 rfl ?_
          refine tn_callV (M := m_X5_statement) (pc := 132) (ix := 90) (ci := 5) (M' := m_X5_refuse) (As := []) (rest := []) dX5_statement_132 ok_X5_refuse im_X5_refuse se_X5_refuse ml5_90 np_X5_refuse rfl rfl ha rfl (Nat.le_of_ble_eq_true rfl) (Nat.le_of_ble_eq_true rfl) rfl (k_X5_refuse_f (d + 3 * lv + 60) (T := T) (σ := (sA 45 a ((σ.2.1 45 a) + 1) σ)) (a := a) ha (hw.put (by decide) (by decide) (fo_45 (by omega))) (fx10).1.1) (fun r62 T64 σ63 gt65 hp => ?_)
          obtain ⟨v70, rfl, rfl, w71, F72, f66, f67, f68, f69⟩ := hp
          clear gt65
          have pc73 : GRF Sx [20] jx (0) (bx) u0 (tkS Sx jx).1 := x20f hSb (by omega)
          have rf740 : GR Sx [20] jx 0 (bx) u0 [20] jx (0) (bx) u0 (0) ([]) := GR.nl
          have rf74 : GRF Sx [20] jx 0 (bx) u0 ((tkS Sx jx).1) := GR.fl (l := [20]) [] rf740 pc73
          have rp75 : RP σ63 a (kp) := RP.frc (hrp.put (by decide)) F72 (by decide) (by decide) (by decide) (by decide) (by decide)
          show Tn _ _ 135 T σ63 [(0, .ref a), (1, .int (iI dp))] [.int (iI v70)] _
          have rb77 : YF σ63 a Sx bx [20] jx := ⟨_, rf74, f68⟩
          exact tn_zret (v := v70) rfl (by omega) dX5_statement_135 ⟨_, rfl, w71, ((FrC.rfl.put (by decide) (by decide)).trans (FrC.sub F72 (by decide))), by omega, ⟨fun q => absurd q (by omega), fun _ => rb77⟩, (RP.up rp75 (by omega))⟩
        · refine tn_tableIn (tgt := 105) (off := 46) dX5_statement_59 (x := σ.2.1 85 x11) ⟨by omega, by omega⟩ (by omega) (by omega) (by rw [h33]; rfl) (by decide) ?_
          refine tn_aload_n dX5_statement_105 rfl 0 rfl ?_
          refine tn_bipush dX5_statement_106 (by decide) ?_
          have pc78 : GR Sx [20] jx (0) (bx) u0 [51, 39] jx (0) (bx) u0 0 [(5, (tkS Sx jx).1, 0, 0)] := x20o hSb (by omega)
          have rd790 : GR Sx [20] jx 0 (bx) u0 [20] jx (0) (bx) u0 (0) ([]) := GR.nl
          have rd79a : GR Sx [20] jx 0 (bx) u0 [51, 39] jx (0) (bx) u0 (0 + 0) ([] ++ [(5, (tkS Sx jx).1, 0, 0)]) := GR.gg (l := [20]) (ms := [51, 39]) [] rd790 pc78
          have rd79 : GR Sx [20] jx 0 (bx) u0 [51, 39] jx (0) (bx) u0 (0 + 0) ([(5, (tkS Sx jx).1, 0, 0)]) := rd79a
          refine tn_callV (M := m_X5_statement) (pc := 108) (ix := 192) (ci := 5) (M' := m_X5_single) (As := [.int (iI 6)]) (rest := []) dX5_statement_108 ok_X5_single im_X5_single se_X5_single ml5_192 np_X5_single rfl rfl ha rfl (Nat.le_of_ble_eq_true rfl) (Nat.le_of_ble_eq_true rfl) rfl (k_X5_single_f (d + 3 * lv + 10) (T := T) (σ := (sA 45 a ((σ.2.1 45 a) + 1) σ)) (a := a) (k := 6) (kp := kp) (bx := bx) ha (by decide) (hw.put (by decide) (by decide) (fo_45 (by omega))) (by omega) fx10 (by omega) (by omega) (hrp.put (by decide))) (fun r80 T82 σ81 gt83 hp => ?_)
          obtain ⟨v87, rfl, w88, F89, f84, f85, f86⟩ := hp
          replace ha : OB T82 a 5 := gt83.ob ha
          have rp91 : RP σ81 a (kp - 7 * v87 + 1) := RP.up f86 (by omega)
          show Tn _ _ 111 T82 σ81 [(0, .ref a), (1, .int (iI dp))] [.int (iI v87)] _
          have ra92 : v87 = 1 → YS σ81 a Sx nx bx [20] jx cx (Nx) bx [] ((jx : Int) + 1) := fun hv => by
            obtain ⟨i94, es95, m96, lo97, rr98, fx99, fx99m⟩ := f85.1 hv
            have fx99s : σ81.2.1 45 a ≤ (i94 : Int) := by rw [fx99.e45]; exact fx99m
            have rd100 : GR Sx [20] jx 0 (bx) u0 [] i94 (0) (bx) u0 (0 + 0 + m96) ([(5, (tkS Sx jx).1, 0, 0)] ++ es95) := GR.gg (l := [51, 39]) (ms := []) [] rd79 rr98
            have fe101 := RDX.nq (M := Nx + (0 + 0 + m96)) (RDX.cq (c2 := ([(5, (tkS Sx jx).1, 0, 0)] ++ es95).foldl uC cx) fx99 (by simp only [List.foldl_append, List.foldl_cons, List.foldl_nil])) (by omega)
            have fe101m : (([(5, (tkS Sx jx).1, 0, 0)] ++ es95).foldl uC cx).m = (σ.2.1 45 a) + 1 := (fe101.e45).symm.trans (rc_F F89 (Or.inl (by decide)) (by decide) (ra_eq))
            exact ⟨i94, [(5, (tkS Sx jx).1, 0, 0)] ++ es95, 0 + 0 + m96, (by omega), rd100, fe101, by rw [fe101m]; omega⟩
          have rb93 : v87 = 0 → YF σ81 a Sx bx [20] jx := fun hv => by
            obtain ⟨pl102, g103, fx104⟩ := f85.2 hv
            have rf105 : GRF Sx [20] jx 0 (bx) u0 (pl102) := GR.fl (l := [51, 39]) [] rd79 g103
            exact ⟨_, rf105, fx104⟩
          exact tn_zret (v := v87) rfl (by omega) dX5_statement_111 ⟨_, rfl, w88, ((FrC.rfl.put (by decide) (by decide)).trans (FrC.sub F89 (by decide))), by omega, ⟨ra92, rb93⟩, (RP.up rp91 (by omega))⟩
        · refine tn_tableIn (tgt := 112) (off := 53) dX5_statement_59 (x := σ.2.1 85 x11) ⟨by omega, by omega⟩ (by omega) (by omega) (by rw [h33]; rfl) (by decide) ?_
          refine tn_aload_n dX5_statement_112 rfl 0 rfl ?_
          refine tn_bipush dX5_statement_113 (by decide) ?_
          have pc106 : GR Sx [20] jx (0) (bx) u0 [51, 39] jx (0) (bx) u0 0 [(5, (tkS Sx jx).1, 0, 0)] := x20r hSb (by omega)
          have rd1070 : GR Sx [20] jx 0 (bx) u0 [20] jx (0) (bx) u0 (0) ([]) := GR.nl
          have rd107a : GR Sx [20] jx 0 (bx) u0 [51, 39] jx (0) (bx) u0 (0 + 0) ([] ++ [(5, (tkS Sx jx).1, 0, 0)]) := GR.gg (l := [20]) (ms := [51, 39]) [] rd1070 pc106
          have rd107 : GR Sx [20] jx 0 (bx) u0 [51, 39] jx (0) (bx) u0 (0 + 0) ([(5, (tkS Sx jx).1, 0, 0)]) := rd107a
          refine tn_callV (M := m_X5_statement) (pc := 115) (ix := 192) (ci := 5) (M' := m_X5_single) (As := [.int (iI 7)]) (rest := []) dX5_statement_115 ok_X5_single im_X5_single se_X5_single ml5_192 np_X5_single rfl rfl ha rfl (Nat.le_of_ble_eq_true rfl) (Nat.le_of_ble_eq_true rfl) rfl (k_X5_single_f (d + 3 * lv + 10) (T := T) (σ := (sA 45 a ((σ.2.1 45 a) + 1) σ)) (a := a) (k := 7) (kp := kp) (bx := bx) ha (by decide) (hw.put (by decide) (by decide) (fo_45 (by omega))) (by omega) fx10 (by omega) (by omega) (hrp.put (by decide))) (fun r108 T110 σ109 gt111 hp => ?_)
          obtain ⟨v115, rfl, w116, F117, f112, f113, f114⟩ := hp
          replace ha : OB T110 a 5 := gt111.ob ha
          have rp119 : RP σ109 a (kp - 7 * v115 + 1) := RP.up f114 (by omega)
          show Tn _ _ 118 T110 σ109 [(0, .ref a), (1, .int (iI dp))] [.int (iI v115)] _
          have ra120 : v115 = 1 → YS σ109 a Sx nx bx [20] jx cx (Nx) bx [] ((jx : Int) + 1) := fun hv => by
            obtain ⟨i122, es123, m124, lo125, rr126, fx127, fx127m⟩ := f113.1 hv
            have fx127s : σ109.2.1 45 a ≤ (i122 : Int) := by rw [fx127.e45]; exact fx127m
            have rd128 : GR Sx [20] jx 0 (bx) u0 [] i122 (0) (bx) u0 (0 + 0 + m124) ([(5, (tkS Sx jx).1, 0, 0)] ++ es123) := GR.gg (l := [51, 39]) (ms := []) [] rd107 rr126
            have fe129 := RDX.nq (M := Nx + (0 + 0 + m124)) (RDX.cq (c2 := ([(5, (tkS Sx jx).1, 0, 0)] ++ es123).foldl uC cx) fx127 (by simp only [List.foldl_append, List.foldl_cons, List.foldl_nil])) (by omega)
            have fe129m : (([(5, (tkS Sx jx).1, 0, 0)] ++ es123).foldl uC cx).m = (σ.2.1 45 a) + 1 := (fe129.e45).symm.trans (rc_F F117 (Or.inl (by decide)) (by decide) (ra_eq))
            exact ⟨i122, [(5, (tkS Sx jx).1, 0, 0)] ++ es123, 0 + 0 + m124, (by omega), rd128, fe129, by rw [fe129m]; omega⟩
          have rb121 : v115 = 0 → YF σ109 a Sx bx [20] jx := fun hv => by
            obtain ⟨pl130, g131, fx132⟩ := f113.2 hv
            have rf133 : GRF Sx [20] jx 0 (bx) u0 (pl130) := GR.fl (l := [51, 39]) [] rd107 g131
            exact ⟨_, rf133, fx132⟩
          exact tn_zret (v := v115) rfl (by omega) dX5_statement_118 ⟨_, rfl, w116, ((FrC.rfl.put (by decide) (by decide)).trans (FrC.sub F117 (by decide))), by omega, ⟨ra120, rb121⟩, (RP.up rp119 (by omega))⟩
        · refine tn_tableIn (tgt := 119) (off := 60) dX5_statement_59 (x := σ.2.1 85 x11) ⟨by omega, by omega⟩ (by omega) (by omega) (by rw [h33]; rfl) (by decide) ?_
          refine tn_aload_n dX5_statement_119 rfl 0 rfl ?_
          refine tn_iload_n dX5_statement_120 rfl 1 rfl ?_
          have pc134 : GR Sx [20] jx (0) (bx) u0 [51, 21] jx (0) (bx) u0 0 [(5, (tkS Sx jx).1, 0, 0)] := x20i hSb (by omega)
          have rd1350 : GR Sx [20] jx 0 (bx) u0 [20] jx (0) (bx) u0 (0) ([]) := GR.nl
          have rd135a : GR Sx [20] jx 0 (bx) u0 [51, 21] jx (0) (bx) u0 (0 + 0) ([] ++ [(5, (tkS Sx jx).1, 0, 0)]) := GR.gg (l := [20]) (ms := [51, 21]) [] rd1350 pc134
          have rd135 : GR Sx [20] jx 0 (bx) u0 [51, 21] jx (0) (bx) u0 (0 + 0) ([(5, (tkS Sx jx).1, 0, 0)]) := rd135a
          refine tn_callV (M := m_X5_statement) (pc := 121) (ix := 195) (ci := 5) (M' := m_X5_choice) (As := [.int (iI dp)]) (rest := []) dX5_statement_121 ok_X5_choice im_X5_choice se_X5_choice ml5_195 np_X5_choice rfl rfl ha rfl (Nat.le_of_ble_eq_true rfl) (Nat.le_of_ble_eq_true rfl) rfl (k_X5_choice_f (d) (T := T) (σ := (sA 45 a ((σ.2.1 45 a) + 1) σ)) (a := a) (dp := dp) (kp := kp) (lv := lv) (bx := bx) ha (by omega) (hw.put (by decide) (by decide) (fo_45 (by omega))) hex (by omega) (by omega) fx10 (by omega) (by omega) (by omega) (hrp.put (by decide))) (fun r136 T138 σ137 gt139 hp => ?_)
          obtain ⟨v143, rfl, w144, F145, f140, f141, f142⟩ := hp
          replace ha : OB T138 a 5 := gt139.ob ha
          have rp147 : RP σ137 a (kp - 10 * v143 + 1) := RP.up f142 (by omega)
          show Tn _ _ 124 T138 σ137 [(0, .ref a), (1, .int (iI dp))] [.int (iI v143)] _
          have ra148 : v143 = 1 → YS σ137 a Sx nx bx [20] jx cx (Nx) bx [] ((jx : Int) + 1) := fun hv => by
            obtain ⟨i150, es151, m152, lo153, rr154, fx155, fx155m⟩ := f141.1 hv
            have fx155s : σ137.2.1 45 a ≤ (i150 : Int) := by rw [fx155.e45]; exact fx155m
            have rd156 : GR Sx [20] jx 0 (bx) u0 [] i150 (0) (bx) u0 (0 + 0 + m152) ([(5, (tkS Sx jx).1, 0, 0)] ++ es151) := GR.gg (l := [51, 21]) (ms := []) [] rd135 rr154
            have fe157 := RDX.nq (M := Nx + (0 + 0 + m152)) (RDX.cq (c2 := ([(5, (tkS Sx jx).1, 0, 0)] ++ es151).foldl uC cx) fx155 (by simp only [List.foldl_append, List.foldl_cons, List.foldl_nil])) (by omega)
            have fe157m : (([(5, (tkS Sx jx).1, 0, 0)] ++ es151).foldl uC cx).m = σ137.2.1 45 a := (fe157.e45).symm.trans (rfl)
            exact ⟨i150, [(5, (tkS Sx jx).1, 0, 0)] ++ es151, 0 + 0 + m152, (by omega), rd156, fe157, by rw [fe157m]; omega⟩
          have rb149 : v143 = 0 → YF σ137 a Sx bx [20] jx := fun hv => by
            obtain ⟨pl158, g159, fx160⟩ := f141.2 hv
            have rf161 : GRF Sx [20] jx 0 (bx) u0 (pl158) := GR.fl (l := [51, 21]) [] rd135 g159
            exact ⟨_, rf161, fx160⟩
          exact tn_zret (v := v143) rfl (by omega) dX5_statement_124 ⟨_, rfl, w144, ((FrC.rfl.put (by decide) (by decide)).trans (FrC.sub F145 (by decide))), by omega, ⟨ra148, rb149⟩, (RP.up rp147 (by omega))⟩
        · refine tn_tableIn (tgt := 131) (off := 72) dX5_statement_59 (x := σ.2.1 85 x11) ⟨by omega, by omega⟩ (by omega) (by omega) (by rw [h33]; rfl) (by decide) ?_
          refine tn_aload_n dX5_statement_131 rfl 0 rfl ?_
          refine tn_callV (M := m_X5_statement) (pc := 132) (ix := 90) (ci := 5) (M' := m_X5_refuse) (As := []) (rest := []) dX5_statement_132 ok_X5_refuse im_X5_refuse se_X5_refuse ml5_90 np_X5_refuse rfl rfl ha rfl (Nat.le_of_ble_eq_true rfl) (Nat.le_of_ble_eq_true rfl) rfl (k_X5_refuse_f (d + 3 * lv + 60) (T := T) (σ := (sA 45 a ((σ.2.1 45 a) + 1) σ)) (a := a) ha (hw.put (by decide) (by decide) (fo_45 (by omega))) (fx10).1.1) (fun r162 T164 σ163 gt165 hp => ?_)
          obtain ⟨v170, rfl, rfl, w171, F172, f166, f167, f168, f169⟩ := hp
          clear gt165
          have pc173 : GRF Sx [20] jx (0) (bx) u0 (tkS Sx jx).1 := x20f hSb (by omega)
          have rf1740 : GR Sx [20] jx 0 (bx) u0 [20] jx (0) (bx) u0 (0) ([]) := GR.nl
          have rf174 : GRF Sx [20] jx 0 (bx) u0 ((tkS Sx jx).1) := GR.fl (l := [20]) [] rf1740 pc173
          have rp175 : RP σ163 a (kp) := RP.frc (hrp.put (by decide)) F172 (by decide) (by decide) (by decide) (by decide) (by decide)
          show Tn _ _ 135 T σ163 [(0, .ref a), (1, .int (iI dp))] [.int (iI v170)] _
          have rb177 : YF σ163 a Sx bx [20] jx := ⟨_, rf174, f168⟩
          exact tn_zret (v := v170) rfl (by omega) dX5_statement_135 ⟨_, rfl, w171, ((FrC.rfl.put (by decide) (by decide)).trans (FrC.sub F172 (by decide))), by omega, ⟨fun q => absurd q (by omega), fun _ => rb177⟩, (RP.up rp175 (by omega))⟩
        · refine tn_tableIn (tgt := 125) (off := 66) dX5_statement_59 (x := σ.2.1 85 x11) ⟨by omega, by omega⟩ (by omega) (by omega) (by rw [h33]; rfl) (by decide) ?_
          refine tn_aload_n dX5_statement_125 rfl 0 rfl ?_
          refine tn_iload_n dX5_statement_126 rfl 1 rfl ?_
          have pc178 : GR Sx [20] jx (0) (bx) u0 [22] jx (0) (bx) u0 0 [(5, (tkS Sx jx).1, 0, 0)] := x20w hSb (by omega)
          have rd1790 : GR Sx [20] jx 0 (bx) u0 [20] jx (0) (bx) u0 (0) ([]) := GR.nl
          have rd179a : GR Sx [20] jx 0 (bx) u0 [22] jx (0) (bx) u0 (0 + 0) ([] ++ [(5, (tkS Sx jx).1, 0, 0)]) := GR.gg (l := [20]) (ms := [22]) [] rd1790 pc178
          have rd179 : GR Sx [20] jx 0 (bx) u0 [22] jx (0) (bx) u0 (0 + 0) ([(5, (tkS Sx jx).1, 0, 0)]) := rd179a
          refine tn_callV (M := m_X5_statement) (pc := 127) (ix := 198) (ci := 5) (M' := m_X5_ring) (As := [.int (iI dp)]) (rest := []) dX5_statement_127 ok_X5_ring im_X5_ring se_X5_ring ml5_198 np_X5_ring rfl rfl ha rfl (Nat.le_of_ble_eq_true rfl) (Nat.le_of_ble_eq_true rfl) rfl (k_X5_ring_f (d) (T := T) (σ := (sA 45 a ((σ.2.1 45 a) + 1) σ)) (a := a) (dp := dp) (kp := kp) (lv := lv) (bx := bx) ha (by omega) (hw.put (by decide) (by decide) (fo_45 (by omega))) hex (by omega) (by omega) fx10 (by omega) (by omega) (by omega) (hrp.put (by decide))) (fun r180 T182 σ181 gt183 hp => ?_)
          obtain ⟨v187, rfl, w188, F189, f184, f185, f186⟩ := hp
          replace ha : OB T182 a 5 := gt183.ob ha
          have rp191 : RP σ181 a (kp - 9 * v187 + 2) := RP.up f186 (by omega)
          show Tn _ _ 130 T182 σ181 [(0, .ref a), (1, .int (iI dp))] [.int (iI v187)] _
          have ra192 : v187 = 1 → YS σ181 a Sx nx bx [20] jx cx (Nx) bx [] ((jx : Int) + 1) := fun hv => by
            obtain ⟨i194, es195, m196, lo197, rr198, fx199, fx199m⟩ := f185.1 hv
            have fx199s : σ181.2.1 45 a ≤ (i194 : Int) := by rw [fx199.e45]; exact fx199m
            have rd200 : GR Sx [20] jx 0 (bx) u0 [] i194 (0) (bx) u0 (0 + 0 + m196) ([(5, (tkS Sx jx).1, 0, 0)] ++ es195) := GR.gg (l := [22]) (ms := []) [] rd179 rr198
            have fe201 := RDX.nq (M := Nx + (0 + 0 + m196)) (RDX.cq (c2 := ([(5, (tkS Sx jx).1, 0, 0)] ++ es195).foldl uC cx) fx199 (by simp only [List.foldl_append, List.foldl_cons, List.foldl_nil])) (by omega)
            have fe201m : (([(5, (tkS Sx jx).1, 0, 0)] ++ es195).foldl uC cx).m = σ181.2.1 45 a := (fe201.e45).symm.trans (rfl)
            exact ⟨i194, [(5, (tkS Sx jx).1, 0, 0)] ++ es195, 0 + 0 + m196, (by omega), rd200, fe201, by rw [fe201m]; omega⟩
          have rb193 : v187 = 0 → YF σ181 a Sx bx [20] jx := fun hv => by
            obtain ⟨pl202, g203, fx204⟩ := f185.2 hv
            have rf205 : GRF Sx [20] jx 0 (bx) u0 (pl202) := GR.fl (l := [22]) [] rd179 g203
            exact ⟨_, rf205, fx204⟩
          exact tn_zret (v := v187) rfl (by omega) dX5_statement_130 ⟨_, rfl, w188, ((FrC.rfl.put (by decide) (by decide)).trans (FrC.sub F189 (by decide))), by omega, ⟨ra192, rb193⟩, (RP.up rp191 (by omega))⟩
    · refine tn_aload_n dX5_statement_41 rfl 0 rfl ?_
      refine tn_getR (ci := 5) (i := 2) (n := 35) (x := x4) dX5_statement_42 rfl lay_5 (by decide) fl5_47 ha rfl rfl (rc_o (by decide) (hx5)) ?_
      refine tn_aload_n dX5_statement_45 rfl 0 rfl ?_
      refine tn_getI (ci := 5) (i := 12) (n := 45) (t := (σ.2.1 45 a) + 1) dX5_statement_46 rfl lay_5 (by decide) fl5_64 ha rfl rfl (ra_eq) ?_
      refine tn_putV (ci := 1) (i := 4) (n := 9) (r := false) (v := (σ.2.1 45 a) + 1) tyX1 tyX1_ok nmX1 dX5_statement_49 rfl lay_1 (by decide) fl5_186 rfl (tyX1_ok 4 (by decide)) rfl rfl rfl hk6o rfl rfl ?_
      have fx206 : RDX (sA 9 x4 ((σ.2.1 45 a) + 1) (sA 45 a ((σ.2.1 45 a) + 1) σ)) a Sx nx jx (uC cx (5, (tkS Sx jx).1, 0, 0)) Nx := RDX.cq (fx2.pt (by decide) (by decide)) (by rw [uC5n (by omega)])
      refine tn_aload_n dX5_statement_52 rfl 0 rfl ?_
      obtain ⟨x207, hx208, hk209⟩ : ∃ x : Nat, σ.2.1 33 a = (x : Int) ∧ (T x).1 = 39 := wf_33 hw ha
      have hk209o : OB T x207 9 := ⟨by omega, by rw [hk209]; rfl, by omega⟩
      refine tn_getR (ci := 5) (i := 0) (n := 33) (x := x207) dX5_statement_53 rfl lay_5 (by decide) fl5_12 ha rfl rfl (rc_o (by decide) (rc_o (by decide) (hx208))) ?_
      refine tn_getI (ci := 9) (i := 4) (n := 85) (t := σ.2.1 85 x207) dX5_statement_56 rfl lay_9 (by decide) fl5_71 hk209o rfl rfl (rc_o (by decide) (rc_o (by decide) (rfl))) ?_
      have g211 : ((-2147483648 : Int) ≤ σ.2.1 85 x207 ∧ σ.2.1 85 x207 ≤ 2147483647) := wf_85 hw hk209o
      have g211kd : σ.2.1 85 x207 = ckd (tkS Sx jx) := (rc_o (by decide) (rc_o (by decide) (rfl))).symm.trans ((fx206).1.kd (rc_o (by decide) (rc_o (by decide) (hx208))))
      by_cases h212 : σ.2.1 85 x207 < 256 ∨ 262 < σ.2.1 85 x207
      · refine tn_tableOut (tgt := 131) dX5_statement_59 (x := σ.2.1 85 x207) ⟨by omega, by omega⟩ h212 (by decide) ?_
        refine tn_aload_n dX5_statement_131 rfl 0 rfl ?_
        refine tn_callV (M := m_X5_statement) (pc := 132) (ix := 90) (ci := 5) (M' := m_X5_refuse) (As := []) (rest := []) dX5_statement_132 ok_X5_refuse im_X5_refuse se_X5_refuse ml5_90 np_X5_refuse rfl rfl ha rfl (Nat.le_of_ble_eq_true rfl) (Nat.le_of_ble_eq_true rfl) rfl (k_X5_refuse_f (d + 3 * lv + 60) (T := T) (σ := (sA 9 x4 ((σ.2.1 45 a) + 1) (sA 45 a ((σ.2.1 45 a) + 1) σ))) (a := a) ha ((hw.put (by decide) (by decide) (fo_45 (by omega))).put (by decide) (by decide) (fo_9 (by omega))) (fx206).1.1) (fun r213 T215 σ214 gt216 hp => ?_)
        obtain ⟨v221, rfl, rfl, w222, F223, f217, f218, f219, f220⟩ := hp
        clear gt216
        have pc224 : GRF Sx [20] jx (0) (bx) u0 (tkS Sx jx).1 := x20f hSb (by omega)
        have rf2250 : GR Sx [20] jx 0 (bx) u0 [20] jx (0) (bx) u0 (0) ([]) := GR.nl
        have rf225 : GRF Sx [20] jx 0 (bx) u0 ((tkS Sx jx).1) := GR.fl (l := [20]) [] rf2250 pc224
        have rp226 : RP σ214 a (kp) := RP.frc ((hrp.put (by decide)).put (by decide)) F223 (by decide) (by decide) (by decide) (by decide) (by decide)
        show Tn _ _ 135 T σ214 [(0, .ref a), (1, .int (iI dp))] [.int (iI v221)] _
        have rb228 : YF σ214 a Sx bx [20] jx := ⟨_, rf225, f219⟩
        exact tn_zret (v := v221) rfl (by omega) dX5_statement_135 ⟨_, rfl, w222, (((FrC.rfl.put (by decide) (by decide)).put (by decide) (by decide)).trans (FrC.sub F223 (by decide))), by omega, ⟨fun q => absurd q (by omega), fun _ => rb228⟩, (RP.up rp226 (by omega))⟩
      · have h229 : σ.2.1 85 x207 = 256 ∨ σ.2.1 85 x207 = 257 ∨ σ.2.1 85 x207 = 258 ∨ σ.2.1 85 x207 = 259 ∨ σ.2.1 85 x207 = 260 ∨ σ.2.1 85 x207 = 261 ∨ σ.2.1 85 x207 = 262 := by omega
        rcases h229 with h229 | h229 | h229 | h229 | h229 | h229 | h229
        · refine tn_tableIn (tgt := 100) (off := 41) dX5_statement_59 (x := σ.2.1 85 x207) ⟨by omega, by omega⟩ (by omega) (by omega) (by rw [h229]; rfl) (by decide) ?_
          refine tn_aload_n dX5_statement_100 rfl 0 rfl ?_
          have pc230 : GR Sx [20] jx (0) (bx) u0 [51, 23] jx (0) (bx) u0 0 [(5, (tkS Sx jx).1, 0, 0)] := x20n hSb (by omega)
          have rd2310 : GR Sx [20] jx 0 (bx) u0 [20] jx (0) (bx) u0 (0) ([]) := GR.nl
          have rd231a : GR Sx [20] jx 0 (bx) u0 [51, 23] jx (0) (bx) u0 (0 + 0) ([] ++ [(5, (tkS Sx jx).1, 0, 0)]) := GR.gg (l := [20]) (ms := [51, 23]) [] rd2310 pc230
          have rd231 : GR Sx [20] jx 0 (bx) u0 [51, 23] jx (0) (bx) u0 (0 + 0) ([(5, (tkS Sx jx).1, 0, 0)]) := rd231a
          refine tn_callV (M := m_X5_statement) (pc := 101) (ix := 189) (ci := 5) (M' := m_X5_assignment) (As := []) (rest := []) dX5_statement_101 ok_X5_assignment im_X5_assignment se_X5_assignment ml5_189 np_X5_assignment rfl rfl ha rfl (Nat.le_of_ble_eq_true rfl) (Nat.le_of_ble_eq_true rfl) rfl (k_X5_assignment_f (d + 3 * lv + 9) (T := T) (σ := (sA 9 x4 ((σ.2.1 45 a) + 1) (sA 45 a ((σ.2.1 45 a) + 1) σ))) (a := a) (kp := kp) (bx := bx) ha ((hw.put (by decide) (by decide) (fo_45 (by omega))).put (by decide) (by decide) (fo_9 (by omega))) fx206 (by omega) (by omega) ((hrp.put (by decide)).put (by decide))) (fun r232 T234 σ233 gt235 hp => ?_)
          obtain ⟨v239, rfl, w240, F241, f236, f237, f238⟩ := hp
          replace ha : OB T234 a 5 := gt235.ob ha
          have rp243 : RP σ233 a (kp - 10 * v239 + 1) := RP.up f238 (by omega)
          show Tn _ _ 104 T234 σ233 [(0, .ref a), (1, .int (iI dp))] [.int (iI v239)] _
          have ra244 : v239 = 1 → YS σ233 a Sx nx bx [20] jx cx (Nx) bx [] ((jx : Int) + 1) := fun hv => by
            obtain ⟨i246, es247, m248, lo249, rr250, fx251, fx251m⟩ := f237.1 hv
            have fx251s : σ233.2.1 45 a ≤ (i246 : Int) := by rw [fx251.e45]; exact fx251m
            have rd252 : GR Sx [20] jx 0 (bx) u0 [] i246 (0) (bx) u0 (0 + 0 + m248) ([(5, (tkS Sx jx).1, 0, 0)] ++ es247) := GR.gg (l := [51, 23]) (ms := []) [] rd231 rr250
            have fe253 := RDX.nq (M := Nx + (0 + 0 + m248)) (RDX.cq (c2 := ([(5, (tkS Sx jx).1, 0, 0)] ++ es247).foldl uC cx) fx251 (by simp only [List.foldl_append, List.foldl_cons, List.foldl_nil])) (by omega)
            have fe253m : (([(5, (tkS Sx jx).1, 0, 0)] ++ es247).foldl uC cx).m = (σ.2.1 45 a) + 1 := (fe253.e45).symm.trans (rc_F F241 (Or.inl (by decide)) (by decide) (rc_o (by decide) (ra_eq)))
            exact ⟨i246, [(5, (tkS Sx jx).1, 0, 0)] ++ es247, 0 + 0 + m248, (by omega), rd252, fe253, by rw [fe253m]; omega⟩
          have rb245 : v239 = 0 → YF σ233 a Sx bx [20] jx := fun hv => by
            obtain ⟨pl254, g255, fx256⟩ := f237.2 hv
            have rf257 : GRF Sx [20] jx 0 (bx) u0 (pl254) := GR.fl (l := [51, 23]) [] rd231 g255
            exact ⟨_, rf257, fx256⟩
          exact tn_zret (v := v239) rfl (by omega) dX5_statement_104 ⟨_, rfl, w240, (((FrC.rfl.put (by decide) (by decide)).put (by decide) (by decide)).trans (FrC.sub F241 (by decide))), by omega, ⟨ra244, rb245⟩, (RP.up rp243 (by omega))⟩
        · refine tn_tableIn (tgt := 131) (off := 72) dX5_statement_59 (x := σ.2.1 85 x207) ⟨by omega, by omega⟩ (by omega) (by omega) (by rw [h229]; rfl) (by decide) ?_
          refine tn_aload_n dX5_statement_131 rfl 0 rfl ?_
          refine tn_callV (M := m_X5_statement) (pc := 132) (ix := 90) (ci := 5) (M' := m_X5_refuse) (As := []) (rest := []) dX5_statement_132 ok_X5_refuse im_X5_refuse se_X5_refuse ml5_90 np_X5_refuse rfl rfl ha rfl (Nat.le_of_ble_eq_true rfl) (Nat.le_of_ble_eq_true rfl) rfl (k_X5_refuse_f (d + 3 * lv + 60) (T := T) (σ := (sA 9 x4 ((σ.2.1 45 a) + 1) (sA 45 a ((σ.2.1 45 a) + 1) σ))) (a := a) ha ((hw.put (by decide) (by decide) (fo_45 (by omega))).put (by decide) (by decide) (fo_9 (by omega))) (fx206).1.1) (fun r258 T260 σ259 gt261 hp => ?_)
          obtain ⟨v266, rfl, rfl, w267, F268, f262, f263, f264, f265⟩ := hp
          clear gt261
          have pc269 : GRF Sx [20] jx (0) (bx) u0 (tkS Sx jx).1 := x20f hSb (by omega)
          have rf2700 : GR Sx [20] jx 0 (bx) u0 [20] jx (0) (bx) u0 (0) ([]) := GR.nl
          have rf270 : GRF Sx [20] jx 0 (bx) u0 ((tkS Sx jx).1) := GR.fl (l := [20]) [] rf2700 pc269
          have rp271 : RP σ259 a (kp) := RP.frc ((hrp.put (by decide)).put (by decide)) F268 (by decide) (by decide) (by decide) (by decide) (by decide)
          show Tn _ _ 135 T σ259 [(0, .ref a), (1, .int (iI dp))] [.int (iI v266)] _
          have rb273 : YF σ259 a Sx bx [20] jx := ⟨_, rf270, f264⟩
          exact tn_zret (v := v266) rfl (by omega) dX5_statement_135 ⟨_, rfl, w267, (((FrC.rfl.put (by decide) (by decide)).put (by decide) (by decide)).trans (FrC.sub F268 (by decide))), by omega, ⟨fun q => absurd q (by omega), fun _ => rb273⟩, (RP.up rp271 (by omega))⟩
        · refine tn_tableIn (tgt := 105) (off := 46) dX5_statement_59 (x := σ.2.1 85 x207) ⟨by omega, by omega⟩ (by omega) (by omega) (by rw [h229]; rfl) (by decide) ?_
          refine tn_aload_n dX5_statement_105 rfl 0 rfl ?_
          refine tn_bipush dX5_statement_106 (by decide) ?_
          have pc274 : GR Sx [20] jx (0) (bx) u0 [51, 39] jx (0) (bx) u0 0 [(5, (tkS Sx jx).1, 0, 0)] := x20o hSb (by omega)
          have rd2750 : GR Sx [20] jx 0 (bx) u0 [20] jx (0) (bx) u0 (0) ([]) := GR.nl
          have rd275a : GR Sx [20] jx 0 (bx) u0 [51, 39] jx (0) (bx) u0 (0 + 0) ([] ++ [(5, (tkS Sx jx).1, 0, 0)]) := GR.gg (l := [20]) (ms := [51, 39]) [] rd2750 pc274
          have rd275 : GR Sx [20] jx 0 (bx) u0 [51, 39] jx (0) (bx) u0 (0 + 0) ([(5, (tkS Sx jx).1, 0, 0)]) := rd275a
          refine tn_callV (M := m_X5_statement) (pc := 108) (ix := 192) (ci := 5) (M' := m_X5_single) (As := [.int (iI 6)]) (rest := []) dX5_statement_108 ok_X5_single im_X5_single se_X5_single ml5_192 np_X5_single rfl rfl ha rfl (Nat.le_of_ble_eq_true rfl) (Nat.le_of_ble_eq_true rfl) rfl (k_X5_single_f (d + 3 * lv + 10) (T := T) (σ := (sA 9 x4 ((σ.2.1 45 a) + 1) (sA 45 a ((σ.2.1 45 a) + 1) σ))) (a := a) (k := 6) (kp := kp) (bx := bx) ha (by decide) ((hw.put (by decide) (by decide) (fo_45 (by omega))).put (by decide) (by decide) (fo_9 (by omega))) (by omega) fx206 (by omega) (by omega) ((hrp.put (by decide)).put (by decide))) (fun r276 T278 σ277 gt279 hp => ?_)
          obtain ⟨v283, rfl, w284, F285, f280, f281, f282⟩ := hp
          replace ha : OB T278 a 5 := gt279.ob ha
          have rp287 : RP σ277 a (kp - 7 * v283 + 1) := RP.up f282 (by omega)
          show Tn _ _ 111 T278 σ277 [(0, .ref a), (1, .int (iI dp))] [.int (iI v283)] _
          have ra288 : v283 = 1 → YS σ277 a Sx nx bx [20] jx cx (Nx) bx [] ((jx : Int) + 1) := fun hv => by
            obtain ⟨i290, es291, m292, lo293, rr294, fx295, fx295m⟩ := f281.1 hv
            have fx295s : σ277.2.1 45 a ≤ (i290 : Int) := by rw [fx295.e45]; exact fx295m
            have rd296 : GR Sx [20] jx 0 (bx) u0 [] i290 (0) (bx) u0 (0 + 0 + m292) ([(5, (tkS Sx jx).1, 0, 0)] ++ es291) := GR.gg (l := [51, 39]) (ms := []) [] rd275 rr294
            have fe297 := RDX.nq (M := Nx + (0 + 0 + m292)) (RDX.cq (c2 := ([(5, (tkS Sx jx).1, 0, 0)] ++ es291).foldl uC cx) fx295 (by simp only [List.foldl_append, List.foldl_cons, List.foldl_nil])) (by omega)
            have fe297m : (([(5, (tkS Sx jx).1, 0, 0)] ++ es291).foldl uC cx).m = (σ.2.1 45 a) + 1 := (fe297.e45).symm.trans (rc_F F285 (Or.inl (by decide)) (by decide) (rc_o (by decide) (ra_eq)))
            exact ⟨i290, [(5, (tkS Sx jx).1, 0, 0)] ++ es291, 0 + 0 + m292, (by omega), rd296, fe297, by rw [fe297m]; omega⟩
          have rb289 : v283 = 0 → YF σ277 a Sx bx [20] jx := fun hv => by
            obtain ⟨pl298, g299, fx300⟩ := f281.2 hv
            have rf301 : GRF Sx [20] jx 0 (bx) u0 (pl298) := GR.fl (l := [51, 39]) [] rd275 g299
            exact ⟨_, rf301, fx300⟩
          exact tn_zret (v := v283) rfl (by omega) dX5_statement_111 ⟨_, rfl, w284, (((FrC.rfl.put (by decide) (by decide)).put (by decide) (by decide)).trans (FrC.sub F285 (by decide))), by omega, ⟨ra288, rb289⟩, (RP.up rp287 (by omega))⟩
        · refine tn_tableIn (tgt := 112) (off := 53) dX5_statement_59 (x := σ.2.1 85 x207) ⟨by omega, by omega⟩ (by omega) (by omega) (by rw [h229]; rfl) (by decide) ?_
          refine tn_aload_n dX5_statement_112 rfl 0 rfl ?_
          refine tn_bipush dX5_statement_113 (by decide) ?_
          have pc302 : GR Sx [20] jx (0) (bx) u0 [51, 39] jx (0) (bx) u0 0 [(5, (tkS Sx jx).1, 0, 0)] := x20r hSb (by omega)
          have rd3030 : GR Sx [20] jx 0 (bx) u0 [20] jx (0) (bx) u0 (0) ([]) := GR.nl
          have rd303a : GR Sx [20] jx 0 (bx) u0 [51, 39] jx (0) (bx) u0 (0 + 0) ([] ++ [(5, (tkS Sx jx).1, 0, 0)]) := GR.gg (l := [20]) (ms := [51, 39]) [] rd3030 pc302
          have rd303 : GR Sx [20] jx 0 (bx) u0 [51, 39] jx (0) (bx) u0 (0 + 0) ([(5, (tkS Sx jx).1, 0, 0)]) := rd303a
          refine tn_callV (M := m_X5_statement) (pc := 115) (ix := 192) (ci := 5) (M' := m_X5_single) (As := [.int (iI 7)]) (rest := []) dX5_statement_115 ok_X5_single im_X5_single se_X5_single ml5_192 np_X5_single rfl rfl ha rfl (Nat.le_of_ble_eq_true rfl) (Nat.le_of_ble_eq_true rfl) rfl (k_X5_single_f (d + 3 * lv + 10) (T := T) (σ := (sA 9 x4 ((σ.2.1 45 a) + 1) (sA 45 a ((σ.2.1 45 a) + 1) σ))) (a := a) (k := 7) (kp := kp) (bx := bx) ha (by decide) ((hw.put (by decide) (by decide) (fo_45 (by omega))).put (by decide) (by decide) (fo_9 (by omega))) (by omega) fx206 (by omega) (by omega) ((hrp.put (by decide)).put (by decide))) (fun r304 T306 σ305 gt307 hp => ?_)
          obtain ⟨v311, rfl, w312, F313, f308, f309, f310⟩ := hp
          replace ha : OB T306 a 5 := gt307.ob ha
          have rp315 : RP σ305 a (kp - 7 * v311 + 1) := RP.up f310 (by omega)
          show Tn _ _ 118 T306 σ305 [(0, .ref a), (1, .int (iI dp))] [.int (iI v311)] _
          have ra316 : v311 = 1 → YS σ305 a Sx nx bx [20] jx cx (Nx) bx [] ((jx : Int) + 1) := fun hv => by
            obtain ⟨i318, es319, m320, lo321, rr322, fx323, fx323m⟩ := f309.1 hv
            have fx323s : σ305.2.1 45 a ≤ (i318 : Int) := by rw [fx323.e45]; exact fx323m
            have rd324 : GR Sx [20] jx 0 (bx) u0 [] i318 (0) (bx) u0 (0 + 0 + m320) ([(5, (tkS Sx jx).1, 0, 0)] ++ es319) := GR.gg (l := [51, 39]) (ms := []) [] rd303 rr322
            have fe325 := RDX.nq (M := Nx + (0 + 0 + m320)) (RDX.cq (c2 := ([(5, (tkS Sx jx).1, 0, 0)] ++ es319).foldl uC cx) fx323 (by simp only [List.foldl_append, List.foldl_cons, List.foldl_nil])) (by omega)
            have fe325m : (([(5, (tkS Sx jx).1, 0, 0)] ++ es319).foldl uC cx).m = (σ.2.1 45 a) + 1 := (fe325.e45).symm.trans (rc_F F313 (Or.inl (by decide)) (by decide) (rc_o (by decide) (ra_eq)))
            exact ⟨i318, [(5, (tkS Sx jx).1, 0, 0)] ++ es319, 0 + 0 + m320, (by omega), rd324, fe325, by rw [fe325m]; omega⟩
          have rb317 : v311 = 0 → YF σ305 a Sx bx [20] jx := fun hv => by
            obtain ⟨pl326, g327, fx328⟩ := f309.2 hv
            have rf329 : GRF Sx [20] jx 0 (bx) u0 (pl326) := GR.fl (l := [51, 39]) [] rd303 g327
            exact ⟨_, rf329, fx328⟩
          exact tn_zret (v := v311) rfl (by omega) dX5_statement_118 ⟨_, rfl, w312, (((FrC.rfl.put (by decide) (by decide)).put (by decide) (by decide)).trans (FrC.sub F313 (by decide))), by omega, ⟨ra316, rb317⟩, (RP.up rp315 (by omega))⟩
        · refine tn_tableIn (tgt := 119) (off := 60) dX5_statement_59 (x := σ.2.1 85 x207) ⟨by omega, by omega⟩ (by omega) (by omega) (by rw [h229]; rfl) (by decide) ?_
          refine tn_aload_n dX5_statement_119 rfl 0 rfl ?_
          refine tn_iload_n dX5_statement_120 rfl 1 rfl ?_
          have pc330 : GR Sx [20] jx (0) (bx) u0 [51, 21] jx (0) (bx) u0 0 [(5, (tkS Sx jx).1, 0, 0)] := x20i hSb (by omega)
          have rd3310 : GR Sx [20] jx 0 (bx) u0 [20] jx (0) (bx) u0 (0) ([]) := GR.nl
          have rd331a : GR Sx [20] jx 0 (bx) u0 [51, 21] jx (0) (bx) u0 (0 + 0) ([] ++ [(5, (tkS Sx jx).1, 0, 0)]) := GR.gg (l := [20]) (ms := [51, 21]) [] rd3310 pc330
          have rd331 : GR Sx [20] jx 0 (bx) u0 [51, 21] jx (0) (bx) u0 (0 + 0) ([(5, (tkS Sx jx).1, 0, 0)]) := rd331a
          refine tn_callV (M := m_X5_statement) (pc := 121) (ix := 195) (ci := 5) (M' := m_X5_choice) (As := [.int (iI dp)]) (rest := []) dX5_statement_121 ok_X5_choice im_X5_choice se_X5_choice ml5_195 np_X5_choice rfl rfl ha rfl (Nat.le_of_ble_eq_true rfl) (Nat.le_of_ble_eq_true rfl) rfl (k_X5_choice_f (d) (T := T) (σ := (sA 9 x4 ((σ.2.1 45 a) + 1) (sA 45 a ((σ.2.1 45 a) + 1) σ))) (a := a) (dp := dp) (kp := kp) (lv := lv) (bx := bx) ha (by omega) ((hw.put (by decide) (by decide) (fo_45 (by omega))).put (by decide) (by decide) (fo_9 (by omega))) hex (by omega) (by omega) fx206 (by omega) (by omega) (by omega) ((hrp.put (by decide)).put (by decide))) (fun r332 T334 σ333 gt335 hp => ?_)
          obtain ⟨v339, rfl, w340, F341, f336, f337, f338⟩ := hp
          replace ha : OB T334 a 5 := gt335.ob ha
          have rp343 : RP σ333 a (kp - 10 * v339 + 1) := RP.up f338 (by omega)
          show Tn _ _ 124 T334 σ333 [(0, .ref a), (1, .int (iI dp))] [.int (iI v339)] _
          have ra344 : v339 = 1 → YS σ333 a Sx nx bx [20] jx cx (Nx) bx [] ((jx : Int) + 1) := fun hv => by
            obtain ⟨i346, es347, m348, lo349, rr350, fx351, fx351m⟩ := f337.1 hv
            have fx351s : σ333.2.1 45 a ≤ (i346 : Int) := by rw [fx351.e45]; exact fx351m
            have rd352 : GR Sx [20] jx 0 (bx) u0 [] i346 (0) (bx) u0 (0 + 0 + m348) ([(5, (tkS Sx jx).1, 0, 0)] ++ es347) := GR.gg (l := [51, 21]) (ms := []) [] rd331 rr350
            have fe353 := RDX.nq (M := Nx + (0 + 0 + m348)) (RDX.cq (c2 := ([(5, (tkS Sx jx).1, 0, 0)] ++ es347).foldl uC cx) fx351 (by simp only [List.foldl_append, List.foldl_cons, List.foldl_nil])) (by omega)
            have fe353m : (([(5, (tkS Sx jx).1, 0, 0)] ++ es347).foldl uC cx).m = σ333.2.1 45 a := (fe353.e45).symm.trans (rfl)
            exact ⟨i346, [(5, (tkS Sx jx).1, 0, 0)] ++ es347, 0 + 0 + m348, (by omega), rd352, fe353, by rw [fe353m]; omega⟩
          have rb345 : v339 = 0 → YF σ333 a Sx bx [20] jx := fun hv => by
            obtain ⟨pl354, g355, fx356⟩ := f337.2 hv
            have rf357 : GRF Sx [20] jx 0 (bx) u0 (pl354) := GR.fl (l := [51, 21]) [] rd331 g355
            exact ⟨_, rf357, fx356⟩
          exact tn_zret (v := v339) rfl (by omega) dX5_statement_124 ⟨_, rfl, w340, (((FrC.rfl.put (by decide) (by decide)).put (by decide) (by decide)).trans (FrC.sub F341 (by decide))), by omega, ⟨ra344, rb345⟩, (RP.up rp343 (by omega))⟩
        · refine tn_tableIn (tgt := 131) (off := 72) dX5_statement_59 (x := σ.2.1 85 x207) ⟨by omega, by omega⟩ (by omega) (by omega) (by rw [h229]; rfl) (by decide) ?_
          refine tn_aload_n dX5_statement_131 rfl 0 rfl ?_
          refine tn_callV (M := m_X5_statement) (pc := 132) (ix := 90) (ci := 5) (M' := m_X5_refuse) (As := []) (rest := []) dX5_statement_132 ok_X5_refuse im_X5_refuse se_X5_refuse ml5_90 np_X5_refuse rfl rfl ha rfl (Nat.le_of_ble_eq_true rfl) (Nat.le_of_ble_eq_true rfl) rfl (k_X5_refuse_f (d + 3 * lv + 60) (T := T) (σ := (sA 9 x4 ((σ.2.1 45 a) + 1) (sA 45 a ((σ.2.1 45 a) + 1) σ))) (a := a) ha ((hw.put (by decide) (by decide) (fo_45 (by omega))).put (by decide) (by decide) (fo_9 (by omega))) (fx206).1.1) (fun r358 T360 σ359 gt361 hp => ?_)
          obtain ⟨v366, rfl, rfl, w367, F368, f362, f363, f364, f365⟩ := hp
          clear gt361
          have pc369 : GRF Sx [20] jx (0) (bx) u0 (tkS Sx jx).1 := x20f hSb (by omega)
          have rf3700 : GR Sx [20] jx 0 (bx) u0 [20] jx (0) (bx) u0 (0) ([]) := GR.nl
          have rf370 : GRF Sx [20] jx 0 (bx) u0 ((tkS Sx jx).1) := GR.fl (l := [20]) [] rf3700 pc369
          have rp371 : RP σ359 a (kp) := RP.frc ((hrp.put (by decide)).put (by decide)) F368 (by decide) (by decide) (by decide) (by decide) (by decide)
          show Tn _ _ 135 T σ359 [(0, .ref a), (1, .int (iI dp))] [.int (iI v366)] _
          have rb373 : YF σ359 a Sx bx [20] jx := ⟨_, rf370, f364⟩
          exact tn_zret (v := v366) rfl (by omega) dX5_statement_135 ⟨_, rfl, w367, (((FrC.rfl.put (by decide) (by decide)).put (by decide) (by decide)).trans (FrC.sub F368 (by decide))), by omega, ⟨fun q => absurd q (by omega), fun _ => rb373⟩, (RP.up rp371 (by omega))⟩
        · refine tn_tableIn (tgt := 125) (off := 66) dX5_statement_59 (x := σ.2.1 85 x207) ⟨by omega, by omega⟩ (by omega) (by omega) (by rw [h229]; rfl) (by decide) ?_
          refine tn_aload_n dX5_statement_125 rfl 0 rfl ?_
          refine tn_iload_n dX5_statement_126 rfl 1 rfl ?_
          have pc374 : GR Sx [20] jx (0) (bx) u0 [22] jx (0) (bx) u0 0 [(5, (tkS Sx jx).1, 0, 0)] := x20w hSb (by omega)
          have rd3750 : GR Sx [20] jx 0 (bx) u0 [20] jx (0) (bx) u0 (0) ([]) := GR.nl
          have rd375a : GR Sx [20] jx 0 (bx) u0 [22] jx (0) (bx) u0 (0 + 0) ([] ++ [(5, (tkS Sx jx).1, 0, 0)]) := GR.gg (l := [20]) (ms := [22]) [] rd3750 pc374
          have rd375 : GR Sx [20] jx 0 (bx) u0 [22] jx (0) (bx) u0 (0 + 0) ([(5, (tkS Sx jx).1, 0, 0)]) := rd375a
          refine tn_callV (M := m_X5_statement) (pc := 127) (ix := 198) (ci := 5) (M' := m_X5_ring) (As := [.int (iI dp)]) (rest := []) dX5_statement_127 ok_X5_ring im_X5_ring se_X5_ring ml5_198 np_X5_ring rfl rfl ha rfl (Nat.le_of_ble_eq_true rfl) (Nat.le_of_ble_eq_true rfl) rfl (k_X5_ring_f (d) (T := T) (σ := (sA 9 x4 ((σ.2.1 45 a) + 1) (sA 45 a ((σ.2.1 45 a) + 1) σ))) (a := a) (dp := dp) (kp := kp) (lv := lv) (bx := bx) ha (by omega) ((hw.put (by decide) (by decide) (fo_45 (by omega))).put (by decide) (by decide) (fo_9 (by omega))) hex (by omega) (by omega) fx206 (by omega) (by omega) (by omega) ((hrp.put (by decide)).put (by decide))) (fun r376 T378 σ377 gt379 hp => ?_)
          obtain ⟨v383, rfl, w384, F385, f380, f381, f382⟩ := hp
          replace ha : OB T378 a 5 := gt379.ob ha
          have rp387 : RP σ377 a (kp - 9 * v383 + 2) := RP.up f382 (by omega)
          show Tn _ _ 130 T378 σ377 [(0, .ref a), (1, .int (iI dp))] [.int (iI v383)] _
          have ra388 : v383 = 1 → YS σ377 a Sx nx bx [20] jx cx (Nx) bx [] ((jx : Int) + 1) := fun hv => by
            obtain ⟨i390, es391, m392, lo393, rr394, fx395, fx395m⟩ := f381.1 hv
            have fx395s : σ377.2.1 45 a ≤ (i390 : Int) := by rw [fx395.e45]; exact fx395m
            have rd396 : GR Sx [20] jx 0 (bx) u0 [] i390 (0) (bx) u0 (0 + 0 + m392) ([(5, (tkS Sx jx).1, 0, 0)] ++ es391) := GR.gg (l := [22]) (ms := []) [] rd375 rr394
            have fe397 := RDX.nq (M := Nx + (0 + 0 + m392)) (RDX.cq (c2 := ([(5, (tkS Sx jx).1, 0, 0)] ++ es391).foldl uC cx) fx395 (by simp only [List.foldl_append, List.foldl_cons, List.foldl_nil])) (by omega)
            have fe397m : (([(5, (tkS Sx jx).1, 0, 0)] ++ es391).foldl uC cx).m = σ377.2.1 45 a := (fe397.e45).symm.trans (rfl)
            exact ⟨i390, [(5, (tkS Sx jx).1, 0, 0)] ++ es391, 0 + 0 + m392, (by omega), rd396, fe397, by rw [fe397m]; omega⟩
          have rb389 : v383 = 0 → YF σ377 a Sx bx [20] jx := fun hv => by
            obtain ⟨pl398, g399, fx400⟩ := f381.2 hv
            have rf401 : GRF Sx [20] jx 0 (bx) u0 (pl398) := GR.fl (l := [22]) [] rd375 g399
            exact ⟨_, rf401, fx400⟩
          exact tn_zret (v := v383) rfl (by omega) dX5_statement_130 ⟨_, rfl, w384, (((FrC.rfl.put (by decide) (by decide)).put (by decide) (by decide)).trans (FrC.sub F385 (by decide))), by omega, ⟨ra388, rb389⟩, (RP.up rp387 (by omega))⟩
  · refine tn_aload_n dX5_statement_19 rfl 0 rfl ?_
    refine tn_iconst dX5_statement_20 ?_
    refine tn_aload_n dX5_statement_21 rfl 0 rfl ?_
    obtain ⟨x402, hx403, hk404⟩ : ∃ x : Nat, σ.2.1 33 a = (x : Int) ∧ (T x).1 = 39 := wf_33 hw ha
    have hk404o : OB T x402 9 := ⟨by omega, by rw [hk404]; rfl, by omega⟩
    refine tn_getR (ci := 5) (i := 0) (n := 33) (x := x402) dX5_statement_22 rfl lay_5 (by decide) fl5_12 ha rfl rfl (rc_o (by decide) (hx403)) ?_
    refine tn_getI (ci := 9) (i := 6) (n := 87) (t := σ.2.1 87 x402) dX5_statement_25 rfl lay_9 (by decide) fl5_74 hk404o rfl rfl (rc_o (by decide) (rfl)) ?_
    have g406 : ((-2147483648 : Int) ≤ σ.2.1 87 x402 ∧ σ.2.1 87 x402 ≤ 2147483647) := wf_87 hw hk404o
    have g406pl : σ.2.1 87 x402 = (tkS Sx jx).1 := (rc_o (by decide) (rfl)).symm.trans ((fx2).1.pl (rc_o (by decide) (hx403)))
    refine tn_callV (M := m_X5_statement) (pc := 28) (ix := 113) (ci := 5) (M' := m_X5_note) (As := [.int (iI 5), .int (iI (σ.2.1 87 x402))]) (rest := []) dX5_statement_28 ok_X5_note im_X5_note se_X5_note ml5_113 np_X5_note rfl rfl ha rfl (Nat.le_of_ble_eq_true rfl) (Nat.le_of_ble_eq_true rfl) rfl (k_X5_note_f (d + 3 * lv + 60) (T := T) (σ := (sA 45 a ((σ.2.1 45 a) + 1) σ)) (a := a) (f := 5) (p := σ.2.1 87 x402) ha (by decide) (by omega) (hw.put (by decide) (by decide) (fo_45 (by omega))) ) (fun r407 T409 σ408 gt410 hp => ?_)
    obtain ⟨rfl, rfl, w413, F414, f411⟩ := hp
    clear gt410
    have fx415 : RDX σ408 a Sx nx jx (fpC (cntN 5 (σ.2.1 87 x402) (msC (cx.m + 1) cx).fp) (msC (cx.m + 1) cx)) (Nx) := RDX.nt fx2 (hw.put (by decide) (by decide) (fo_45 (by omega))) ha F414 f411
    have rp416 : RP σ408 a (kp) := RP.frc (hrp.put (by decide)) F414 (by decide) (by decide) (by decide) (by decide) (by decide)
    show Tn _ _ 31 T σ408 [(0, .ref a), (1, .int (iI dp))] [] _
    refine tn_aload_n dX5_statement_31 rfl 0 rfl ?_
    obtain ⟨x417, hx418, hk419⟩ : ∃ x : Nat, σ.2.1 35 a = (x : Int) ∧ (T x).1 = 31 := wf_35 hw ha
    have hk419o : OB T x417 1 := ⟨by omega, by rw [hk419]; rfl, by omega⟩
    refine tn_getR (ci := 5) (i := 2) (n := 35) (x := x417) dX5_statement_32 rfl lay_5 (by decide) fl5_47 ha rfl rfl (rc_F F414 (Or.inl (by decide)) (by decide) (rc_o (by decide) (hx418))) ?_
    refine tn_getI (ci := 1) (i := 4) (n := 9) (t := σ.2.1 9 x417) dX5_statement_35 rfl lay_1 (by decide) fl5_186 hk419o rfl rfl (rc_F F414 (Or.inl (by decide)) (by decide) (rc_o (by decide) (rfl))) ?_
    have g421 : ((-2147483648 : Int) ≤ σ.2.1 9 x417 ∧ σ.2.1 9 x417 ≤ 2147483647) := wf_9 hw hk419o
    refine tn_if_ne (tgt := 52) dX5_statement_38 (by decide) ⟨by omega, by omega⟩ (fun h422 => ?_) (fun h422 => ?_)
    · have fx423 : RDX σ408 a Sx nx jx (uC cx (5, (tkS Sx jx).1, 0, 0)) Nx := RDX.cq fx415 (by rw [g406pl, uC5o (by omega)]; rfl)
      refine tn_aload_n dX5_statement_52 rfl 0 rfl ?_
      refine tn_getR (ci := 5) (i := 0) (n := 33) (x := x402) dX5_statement_53 rfl lay_5 (by decide) fl5_12 ha rfl rfl (rc_F F414 (Or.inl (by decide)) (by decide) (rc_o (by decide) (hx403))) ?_
      refine tn_getI (ci := 9) (i := 4) (n := 85) (t := σ.2.1 85 x402) dX5_statement_56 rfl lay_9 (by decide) fl5_71 hk404o rfl rfl (rc_F F414 (Or.inl (by decide)) (by decide) (rc_o (by decide) (rfl))) ?_
      have g424 : ((-2147483648 : Int) ≤ σ.2.1 85 x402 ∧ σ.2.1 85 x402 ≤ 2147483647) := wf_85 hw hk404o
      have g424kd : σ.2.1 85 x402 = ckd (tkS Sx jx) := (rc_F F414 (Or.inl (by decide)) (by decide) (rc_o (by decide) (rfl))).symm.trans ((fx423).1.kd (rc_F F414 (Or.inl (by decide)) (by decide) (rc_o (by decide) (hx403))))
      by_cases h425 : σ.2.1 85 x402 < 256 ∨ 262 < σ.2.1 85 x402
      · refine tn_tableOut (tgt := 131) dX5_statement_59 (x := σ.2.1 85 x402) ⟨by omega, by omega⟩ h425 (by decide) ?_
        refine tn_aload_n dX5_statement_131 rfl 0 rfl ?_
        refine tn_callV (M := m_X5_statement) (pc := 132) (ix := 90) (ci := 5) (M' := m_X5_refuse) (As := []) (rest := []) dX5_statement_132 ok_X5_refuse im_X5_refuse se_X5_refuse ml5_90 np_X5_refuse rfl rfl ha rfl (Nat.le_of_ble_eq_true rfl) (Nat.le_of_ble_eq_true rfl) rfl (k_X5_refuse_f (d + 3 * lv + 60) (T := T) (σ := σ408) (a := a) ha w413 (fx423).1.1) (fun r426 T428 σ427 gt429 hp => ?_)
        obtain ⟨v434, rfl, rfl, w435, F436, f430, f431, f432, f433⟩ := hp
        clear gt429
        have pc437 : GRF Sx [20] jx (0) (bx) u0 (tkS Sx jx).1 := x20f hSb (by omega)
        have rf4380 : GR Sx [20] jx 0 (bx) u0 [20] jx (0) (bx) u0 (0) ([]) := GR.nl
        have rf438 : GRF Sx [20] jx 0 (bx) u0 ((tkS Sx jx).1) := GR.fl (l := [20]) [] rf4380 pc437
        have rp439 : RP σ427 a (kp) := RP.frc rp416 F436 (by decide) (by decide) (by decide) (by decide) (by decide)
        show Tn _ _ 135 T σ427 [(0, .ref a), (1, .int (iI dp))] [.int (iI v434)] _
        have rb441 : YF σ427 a Sx bx [20] jx := ⟨_, rf438, f432⟩
        exact tn_zret (v := v434) rfl (by omega) dX5_statement_135 ⟨_, rfl, w435, (((FrC.rfl.put (by decide) (by decide)).trans (FrC.sub F414 (by decide))).trans (FrC.sub F436 (by decide))), by omega, ⟨fun q => absurd q (by omega), fun _ => rb441⟩, (RP.up rp439 (by omega))⟩
      · have h442 : σ.2.1 85 x402 = 256 ∨ σ.2.1 85 x402 = 257 ∨ σ.2.1 85 x402 = 258 ∨ σ.2.1 85 x402 = 259 ∨ σ.2.1 85 x402 = 260 ∨ σ.2.1 85 x402 = 261 ∨ σ.2.1 85 x402 = 262 := by omega
        rcases h442 with h442 | h442 | h442 | h442 | h442 | h442 | h442
        · refine tn_tableIn (tgt := 100) (off := 41) dX5_statement_59 (x := σ.2.1 85 x402) ⟨by omega, by omega⟩ (by omega) (by omega) (by rw [h442]; rfl) (by decide) ?_
          refine tn_aload_n dX5_statement_100 rfl 0 rfl ?_
          have pc443 : GR Sx [20] jx (0) (bx) u0 [51, 23] jx (0) (bx) u0 0 [(5, (tkS Sx jx).1, 0, 0)] := x20n hSb (by omega)
          have rd4440 : GR Sx [20] jx 0 (bx) u0 [20] jx (0) (bx) u0 (0) ([]) := GR.nl
          have rd444a : GR Sx [20] jx 0 (bx) u0 [51, 23] jx (0) (bx) u0 (0 + 0) ([] ++ [(5, (tkS Sx jx).1, 0, 0)]) := GR.gg (l := [20]) (ms := [51, 23]) [] rd4440 pc443
          have rd444 : GR Sx [20] jx 0 (bx) u0 [51, 23] jx (0) (bx) u0 (0 + 0) ([(5, (tkS Sx jx).1, 0, 0)]) := rd444a
          refine tn_callV (M := m_X5_statement) (pc := 101) (ix := 189) (ci := 5) (M' := m_X5_assignment) (As := []) (rest := []) dX5_statement_101 ok_X5_assignment im_X5_assignment se_X5_assignment ml5_189 np_X5_assignment rfl rfl ha rfl (Nat.le_of_ble_eq_true rfl) (Nat.le_of_ble_eq_true rfl) rfl (k_X5_assignment_f (d + 3 * lv + 9) (T := T) (σ := σ408) (a := a) (kp := kp) (bx := bx) ha w413 fx423 (by omega) (by omega) rp416) (fun r445 T447 σ446 gt448 hp => ?_)
          obtain ⟨v452, rfl, w453, F454, f449, f450, f451⟩ := hp
          replace ha : OB T447 a 5 := gt448.ob ha
          have rp456 : RP σ446 a (kp - 10 * v452 + 1) := RP.up f451 (by omega)
          show Tn _ _ 104 T447 σ446 [(0, .ref a), (1, .int (iI dp))] [.int (iI v452)] _
          have ra457 : v452 = 1 → YS σ446 a Sx nx bx [20] jx cx (Nx) bx [] ((jx : Int) + 1) := fun hv => by
            obtain ⟨i459, es460, m461, lo462, rr463, fx464, fx464m⟩ := f450.1 hv
            have fx464s : σ446.2.1 45 a ≤ (i459 : Int) := by rw [fx464.e45]; exact fx464m
            have rd465 : GR Sx [20] jx 0 (bx) u0 [] i459 (0) (bx) u0 (0 + 0 + m461) ([(5, (tkS Sx jx).1, 0, 0)] ++ es460) := GR.gg (l := [51, 23]) (ms := []) [] rd444 rr463
            have fe466 := RDX.nq (M := Nx + (0 + 0 + m461)) (RDX.cq (c2 := ([(5, (tkS Sx jx).1, 0, 0)] ++ es460).foldl uC cx) fx464 (by simp only [List.foldl_append, List.foldl_cons, List.foldl_nil])) (by omega)
            have fe466m : (([(5, (tkS Sx jx).1, 0, 0)] ++ es460).foldl uC cx).m = (σ.2.1 45 a) + 1 := (fe466.e45).symm.trans (rc_F F454 (Or.inl (by decide)) (by decide) (rc_F F414 (Or.inl (by decide)) (by decide) (ra_eq)))
            exact ⟨i459, [(5, (tkS Sx jx).1, 0, 0)] ++ es460, 0 + 0 + m461, (by omega), rd465, fe466, by rw [fe466m]; omega⟩
          have rb458 : v452 = 0 → YF σ446 a Sx bx [20] jx := fun hv => by
            obtain ⟨pl467, g468, fx469⟩ := f450.2 hv
            have rf470 : GRF Sx [20] jx 0 (bx) u0 (pl467) := GR.fl (l := [51, 23]) [] rd444 g468
            exact ⟨_, rf470, fx469⟩
          exact tn_zret (v := v452) rfl (by omega) dX5_statement_104 ⟨_, rfl, w453, (((FrC.rfl.put (by decide) (by decide)).trans (FrC.sub F414 (by decide))).trans (FrC.sub F454 (by decide))), by omega, ⟨ra457, rb458⟩, (RP.up rp456 (by omega))⟩
        · refine tn_tableIn (tgt := 131) (off := 72) dX5_statement_59 (x := σ.2.1 85 x402) ⟨by omega, by omega⟩ (by omega) (by omega) (by rw [h442]; rfl) (by decide) ?_
          refine tn_aload_n dX5_statement_131 rfl 0 rfl ?_
          refine tn_callV (M := m_X5_statement) (pc := 132) (ix := 90) (ci := 5) (M' := m_X5_refuse) (As := []) (rest := []) dX5_statement_132 ok_X5_refuse im_X5_refuse se_X5_refuse ml5_90 np_X5_refuse rfl rfl ha rfl (Nat.le_of_ble_eq_true rfl) (Nat.le_of_ble_eq_true rfl) rfl (k_X5_refuse_f (d + 3 * lv + 60) (T := T) (σ := σ408) (a := a) ha w413 (fx423).1.1) (fun r471 T473 σ472 gt474 hp => ?_)
          obtain ⟨v479, rfl, rfl, w480, F481, f475, f476, f477, f478⟩ := hp
          clear gt474
          have pc482 : GRF Sx [20] jx (0) (bx) u0 (tkS Sx jx).1 := x20f hSb (by omega)
          have rf4830 : GR Sx [20] jx 0 (bx) u0 [20] jx (0) (bx) u0 (0) ([]) := GR.nl
          have rf483 : GRF Sx [20] jx 0 (bx) u0 ((tkS Sx jx).1) := GR.fl (l := [20]) [] rf4830 pc482
          have rp484 : RP σ472 a (kp) := RP.frc rp416 F481 (by decide) (by decide) (by decide) (by decide) (by decide)
          show Tn _ _ 135 T σ472 [(0, .ref a), (1, .int (iI dp))] [.int (iI v479)] _
          have rb486 : YF σ472 a Sx bx [20] jx := ⟨_, rf483, f477⟩
          exact tn_zret (v := v479) rfl (by omega) dX5_statement_135 ⟨_, rfl, w480, (((FrC.rfl.put (by decide) (by decide)).trans (FrC.sub F414 (by decide))).trans (FrC.sub F481 (by decide))), by omega, ⟨fun q => absurd q (by omega), fun _ => rb486⟩, (RP.up rp484 (by omega))⟩
        · refine tn_tableIn (tgt := 105) (off := 46) dX5_statement_59 (x := σ.2.1 85 x402) ⟨by omega, by omega⟩ (by omega) (by omega) (by rw [h442]; rfl) (by decide) ?_
          refine tn_aload_n dX5_statement_105 rfl 0 rfl ?_
          refine tn_bipush dX5_statement_106 (by decide) ?_
          have pc487 : GR Sx [20] jx (0) (bx) u0 [51, 39] jx (0) (bx) u0 0 [(5, (tkS Sx jx).1, 0, 0)] := x20o hSb (by omega)
          have rd4880 : GR Sx [20] jx 0 (bx) u0 [20] jx (0) (bx) u0 (0) ([]) := GR.nl
          have rd488a : GR Sx [20] jx 0 (bx) u0 [51, 39] jx (0) (bx) u0 (0 + 0) ([] ++ [(5, (tkS Sx jx).1, 0, 0)]) := GR.gg (l := [20]) (ms := [51, 39]) [] rd4880 pc487
          have rd488 : GR Sx [20] jx 0 (bx) u0 [51, 39] jx (0) (bx) u0 (0 + 0) ([(5, (tkS Sx jx).1, 0, 0)]) := rd488a
          refine tn_callV (M := m_X5_statement) (pc := 108) (ix := 192) (ci := 5) (M' := m_X5_single) (As := [.int (iI 6)]) (rest := []) dX5_statement_108 ok_X5_single im_X5_single se_X5_single ml5_192 np_X5_single rfl rfl ha rfl (Nat.le_of_ble_eq_true rfl) (Nat.le_of_ble_eq_true rfl) rfl (k_X5_single_f (d + 3 * lv + 10) (T := T) (σ := σ408) (a := a) (k := 6) (kp := kp) (bx := bx) ha (by decide) w413 (by omega) fx423 (by omega) (by omega) rp416) (fun r489 T491 σ490 gt492 hp => ?_)
          obtain ⟨v496, rfl, w497, F498, f493, f494, f495⟩ := hp
          replace ha : OB T491 a 5 := gt492.ob ha
          have rp500 : RP σ490 a (kp - 7 * v496 + 1) := RP.up f495 (by omega)
          show Tn _ _ 111 T491 σ490 [(0, .ref a), (1, .int (iI dp))] [.int (iI v496)] _
          have ra501 : v496 = 1 → YS σ490 a Sx nx bx [20] jx cx (Nx) bx [] ((jx : Int) + 1) := fun hv => by
            obtain ⟨i503, es504, m505, lo506, rr507, fx508, fx508m⟩ := f494.1 hv
            have fx508s : σ490.2.1 45 a ≤ (i503 : Int) := by rw [fx508.e45]; exact fx508m
            have rd509 : GR Sx [20] jx 0 (bx) u0 [] i503 (0) (bx) u0 (0 + 0 + m505) ([(5, (tkS Sx jx).1, 0, 0)] ++ es504) := GR.gg (l := [51, 39]) (ms := []) [] rd488 rr507
            have fe510 := RDX.nq (M := Nx + (0 + 0 + m505)) (RDX.cq (c2 := ([(5, (tkS Sx jx).1, 0, 0)] ++ es504).foldl uC cx) fx508 (by simp only [List.foldl_append, List.foldl_cons, List.foldl_nil])) (by omega)
            have fe510m : (([(5, (tkS Sx jx).1, 0, 0)] ++ es504).foldl uC cx).m = (σ.2.1 45 a) + 1 := (fe510.e45).symm.trans (rc_F F498 (Or.inl (by decide)) (by decide) (rc_F F414 (Or.inl (by decide)) (by decide) (ra_eq)))
            exact ⟨i503, [(5, (tkS Sx jx).1, 0, 0)] ++ es504, 0 + 0 + m505, (by omega), rd509, fe510, by rw [fe510m]; omega⟩
          have rb502 : v496 = 0 → YF σ490 a Sx bx [20] jx := fun hv => by
            obtain ⟨pl511, g512, fx513⟩ := f494.2 hv
            have rf514 : GRF Sx [20] jx 0 (bx) u0 (pl511) := GR.fl (l := [51, 39]) [] rd488 g512
            exact ⟨_, rf514, fx513⟩
          exact tn_zret (v := v496) rfl (by omega) dX5_statement_111 ⟨_, rfl, w497, (((FrC.rfl.put (by decide) (by decide)).trans (FrC.sub F414 (by decide))).trans (FrC.sub F498 (by decide))), by omega, ⟨ra501, rb502⟩, (RP.up rp500 (by omega))⟩
        · refine tn_tableIn (tgt := 112) (off := 53) dX5_statement_59 (x := σ.2.1 85 x402) ⟨by omega, by omega⟩ (by omega) (by omega) (by rw [h442]; rfl) (by decide) ?_
          refine tn_aload_n dX5_statement_112 rfl 0 rfl ?_
          refine tn_bipush dX5_statement_113 (by decide) ?_
          have pc515 : GR Sx [20] jx (0) (bx) u0 [51, 39] jx (0) (bx) u0 0 [(5, (tkS Sx jx).1, 0, 0)] := x20r hSb (by omega)
          have rd5160 : GR Sx [20] jx 0 (bx) u0 [20] jx (0) (bx) u0 (0) ([]) := GR.nl
          have rd516a : GR Sx [20] jx 0 (bx) u0 [51, 39] jx (0) (bx) u0 (0 + 0) ([] ++ [(5, (tkS Sx jx).1, 0, 0)]) := GR.gg (l := [20]) (ms := [51, 39]) [] rd5160 pc515
          have rd516 : GR Sx [20] jx 0 (bx) u0 [51, 39] jx (0) (bx) u0 (0 + 0) ([(5, (tkS Sx jx).1, 0, 0)]) := rd516a
          refine tn_callV (M := m_X5_statement) (pc := 115) (ix := 192) (ci := 5) (M' := m_X5_single) (As := [.int (iI 7)]) (rest := []) dX5_statement_115 ok_X5_single im_X5_single se_X5_single ml5_192 np_X5_single rfl rfl ha rfl (Nat.le_of_ble_eq_true rfl) (Nat.le_of_ble_eq_true rfl) rfl (k_X5_single_f (d + 3 * lv + 10) (T := T) (σ := σ408) (a := a) (k := 7) (kp := kp) (bx := bx) ha (by decide) w413 (by omega) fx423 (by omega) (by omega) rp416) (fun r517 T519 σ518 gt520 hp => ?_)
          obtain ⟨v524, rfl, w525, F526, f521, f522, f523⟩ := hp
          replace ha : OB T519 a 5 := gt520.ob ha
          have rp528 : RP σ518 a (kp - 7 * v524 + 1) := RP.up f523 (by omega)
          show Tn _ _ 118 T519 σ518 [(0, .ref a), (1, .int (iI dp))] [.int (iI v524)] _
          have ra529 : v524 = 1 → YS σ518 a Sx nx bx [20] jx cx (Nx) bx [] ((jx : Int) + 1) := fun hv => by
            obtain ⟨i531, es532, m533, lo534, rr535, fx536, fx536m⟩ := f522.1 hv
            have fx536s : σ518.2.1 45 a ≤ (i531 : Int) := by rw [fx536.e45]; exact fx536m
            have rd537 : GR Sx [20] jx 0 (bx) u0 [] i531 (0) (bx) u0 (0 + 0 + m533) ([(5, (tkS Sx jx).1, 0, 0)] ++ es532) := GR.gg (l := [51, 39]) (ms := []) [] rd516 rr535
            have fe538 := RDX.nq (M := Nx + (0 + 0 + m533)) (RDX.cq (c2 := ([(5, (tkS Sx jx).1, 0, 0)] ++ es532).foldl uC cx) fx536 (by simp only [List.foldl_append, List.foldl_cons, List.foldl_nil])) (by omega)
            have fe538m : (([(5, (tkS Sx jx).1, 0, 0)] ++ es532).foldl uC cx).m = (σ.2.1 45 a) + 1 := (fe538.e45).symm.trans (rc_F F526 (Or.inl (by decide)) (by decide) (rc_F F414 (Or.inl (by decide)) (by decide) (ra_eq)))
            exact ⟨i531, [(5, (tkS Sx jx).1, 0, 0)] ++ es532, 0 + 0 + m533, (by omega), rd537, fe538, by rw [fe538m]; omega⟩
          have rb530 : v524 = 0 → YF σ518 a Sx bx [20] jx := fun hv => by
            obtain ⟨pl539, g540, fx541⟩ := f522.2 hv
            have rf542 : GRF Sx [20] jx 0 (bx) u0 (pl539) := GR.fl (l := [51, 39]) [] rd516 g540
            exact ⟨_, rf542, fx541⟩
          exact tn_zret (v := v524) rfl (by omega) dX5_statement_118 ⟨_, rfl, w525, (((FrC.rfl.put (by decide) (by decide)).trans (FrC.sub F414 (by decide))).trans (FrC.sub F526 (by decide))), by omega, ⟨ra529, rb530⟩, (RP.up rp528 (by omega))⟩
        · refine tn_tableIn (tgt := 119) (off := 60) dX5_statement_59 (x := σ.2.1 85 x402) ⟨by omega, by omega⟩ (by omega) (by omega) (by rw [h442]; rfl) (by decide) ?_
          refine tn_aload_n dX5_statement_119 rfl 0 rfl ?_
          refine tn_iload_n dX5_statement_120 rfl 1 rfl ?_
          have pc543 : GR Sx [20] jx (0) (bx) u0 [51, 21] jx (0) (bx) u0 0 [(5, (tkS Sx jx).1, 0, 0)] := x20i hSb (by omega)
          have rd5440 : GR Sx [20] jx 0 (bx) u0 [20] jx (0) (bx) u0 (0) ([]) := GR.nl
          have rd544a : GR Sx [20] jx 0 (bx) u0 [51, 21] jx (0) (bx) u0 (0 + 0) ([] ++ [(5, (tkS Sx jx).1, 0, 0)]) := GR.gg (l := [20]) (ms := [51, 21]) [] rd5440 pc543
          have rd544 : GR Sx [20] jx 0 (bx) u0 [51, 21] jx (0) (bx) u0 (0 + 0) ([(5, (tkS Sx jx).1, 0, 0)]) := rd544a
          refine tn_callV (M := m_X5_statement) (pc := 121) (ix := 195) (ci := 5) (M' := m_X5_choice) (As := [.int (iI dp)]) (rest := []) dX5_statement_121 ok_X5_choice im_X5_choice se_X5_choice ml5_195 np_X5_choice rfl rfl ha rfl (Nat.le_of_ble_eq_true rfl) (Nat.le_of_ble_eq_true rfl) rfl (k_X5_choice_f (d) (T := T) (σ := σ408) (a := a) (dp := dp) (kp := kp) (lv := lv) (bx := bx) ha (by omega) w413 hex (by omega) (by omega) fx423 (by omega) (by omega) (by omega) rp416) (fun r545 T547 σ546 gt548 hp => ?_)
          obtain ⟨v552, rfl, w553, F554, f549, f550, f551⟩ := hp
          replace ha : OB T547 a 5 := gt548.ob ha
          have rp556 : RP σ546 a (kp - 10 * v552 + 1) := RP.up f551 (by omega)
          show Tn _ _ 124 T547 σ546 [(0, .ref a), (1, .int (iI dp))] [.int (iI v552)] _
          have ra557 : v552 = 1 → YS σ546 a Sx nx bx [20] jx cx (Nx) bx [] ((jx : Int) + 1) := fun hv => by
            obtain ⟨i559, es560, m561, lo562, rr563, fx564, fx564m⟩ := f550.1 hv
            have fx564s : σ546.2.1 45 a ≤ (i559 : Int) := by rw [fx564.e45]; exact fx564m
            have rd565 : GR Sx [20] jx 0 (bx) u0 [] i559 (0) (bx) u0 (0 + 0 + m561) ([(5, (tkS Sx jx).1, 0, 0)] ++ es560) := GR.gg (l := [51, 21]) (ms := []) [] rd544 rr563
            have fe566 := RDX.nq (M := Nx + (0 + 0 + m561)) (RDX.cq (c2 := ([(5, (tkS Sx jx).1, 0, 0)] ++ es560).foldl uC cx) fx564 (by simp only [List.foldl_append, List.foldl_cons, List.foldl_nil])) (by omega)
            have fe566m : (([(5, (tkS Sx jx).1, 0, 0)] ++ es560).foldl uC cx).m = σ546.2.1 45 a := (fe566.e45).symm.trans (rfl)
            exact ⟨i559, [(5, (tkS Sx jx).1, 0, 0)] ++ es560, 0 + 0 + m561, (by omega), rd565, fe566, by rw [fe566m]; omega⟩
          have rb558 : v552 = 0 → YF σ546 a Sx bx [20] jx := fun hv => by
            obtain ⟨pl567, g568, fx569⟩ := f550.2 hv
            have rf570 : GRF Sx [20] jx 0 (bx) u0 (pl567) := GR.fl (l := [51, 21]) [] rd544 g568
            exact ⟨_, rf570, fx569⟩
          exact tn_zret (v := v552) rfl (by omega) dX5_statement_124 ⟨_, rfl, w553, (((FrC.rfl.put (by decide) (by decide)).trans (FrC.sub F414 (by decide))).trans (FrC.sub F554 (by decide))), by omega, ⟨ra557, rb558⟩, (RP.up rp556 (by omega))⟩
        · refine tn_tableIn (tgt := 131) (off := 72) dX5_statement_59 (x := σ.2.1 85 x402) ⟨by omega, by omega⟩ (by omega) (by omega) (by rw [h442]; rfl) (by decide) ?_
          refine tn_aload_n dX5_statement_131 rfl 0 rfl ?_
          refine tn_callV (M := m_X5_statement) (pc := 132) (ix := 90) (ci := 5) (M' := m_X5_refuse) (As := []) (rest := []) dX5_statement_132 ok_X5_refuse im_X5_refuse se_X5_refuse ml5_90 np_X5_refuse rfl rfl ha rfl (Nat.le_of_ble_eq_true rfl) (Nat.le_of_ble_eq_true rfl) rfl (k_X5_refuse_f (d + 3 * lv + 60) (T := T) (σ := σ408) (a := a) ha w413 (fx423).1.1) (fun r571 T573 σ572 gt574 hp => ?_)
          obtain ⟨v579, rfl, rfl, w580, F581, f575, f576, f577, f578⟩ := hp
          clear gt574
          have pc582 : GRF Sx [20] jx (0) (bx) u0 (tkS Sx jx).1 := x20f hSb (by omega)
          have rf5830 : GR Sx [20] jx 0 (bx) u0 [20] jx (0) (bx) u0 (0) ([]) := GR.nl
          have rf583 : GRF Sx [20] jx 0 (bx) u0 ((tkS Sx jx).1) := GR.fl (l := [20]) [] rf5830 pc582
          have rp584 : RP σ572 a (kp) := RP.frc rp416 F581 (by decide) (by decide) (by decide) (by decide) (by decide)
          show Tn _ _ 135 T σ572 [(0, .ref a), (1, .int (iI dp))] [.int (iI v579)] _
          have rb586 : YF σ572 a Sx bx [20] jx := ⟨_, rf583, f577⟩
          exact tn_zret (v := v579) rfl (by omega) dX5_statement_135 ⟨_, rfl, w580, (((FrC.rfl.put (by decide) (by decide)).trans (FrC.sub F414 (by decide))).trans (FrC.sub F581 (by decide))), by omega, ⟨fun q => absurd q (by omega), fun _ => rb586⟩, (RP.up rp584 (by omega))⟩
        · refine tn_tableIn (tgt := 125) (off := 66) dX5_statement_59 (x := σ.2.1 85 x402) ⟨by omega, by omega⟩ (by omega) (by omega) (by rw [h442]; rfl) (by decide) ?_
          refine tn_aload_n dX5_statement_125 rfl 0 rfl ?_
          refine tn_iload_n dX5_statement_126 rfl 1 rfl ?_
          have pc587 : GR Sx [20] jx (0) (bx) u0 [22] jx (0) (bx) u0 0 [(5, (tkS Sx jx).1, 0, 0)] := x20w hSb (by omega)
          have rd5880 : GR Sx [20] jx 0 (bx) u0 [20] jx (0) (bx) u0 (0) ([]) := GR.nl
          have rd588a : GR Sx [20] jx 0 (bx) u0 [22] jx (0) (bx) u0 (0 + 0) ([] ++ [(5, (tkS Sx jx).1, 0, 0)]) := GR.gg (l := [20]) (ms := [22]) [] rd5880 pc587
          have rd588 : GR Sx [20] jx 0 (bx) u0 [22] jx (0) (bx) u0 (0 + 0) ([(5, (tkS Sx jx).1, 0, 0)]) := rd588a
          refine tn_callV (M := m_X5_statement) (pc := 127) (ix := 198) (ci := 5) (M' := m_X5_ring) (As := [.int (iI dp)]) (rest := []) dX5_statement_127 ok_X5_ring im_X5_ring se_X5_ring ml5_198 np_X5_ring rfl rfl ha rfl (Nat.le_of_ble_eq_true rfl) (Nat.le_of_ble_eq_true rfl) rfl (k_X5_ring_f (d) (T := T) (σ := σ408) (a := a) (dp := dp) (kp := kp) (lv := lv) (bx := bx) ha (by omega) w413 hex (by omega) (by omega) fx423 (by omega) (by omega) (by omega) rp416) (fun r589 T591 σ590 gt592 hp => ?_)
          obtain ⟨v596, rfl, w597, F598, f593, f594, f595⟩ := hp
          replace ha : OB T591 a 5 := gt592.ob ha
          have rp600 : RP σ590 a (kp - 9 * v596 + 2) := RP.up f595 (by omega)
          show Tn _ _ 130 T591 σ590 [(0, .ref a), (1, .int (iI dp))] [.int (iI v596)] _
          have ra601 : v596 = 1 → YS σ590 a Sx nx bx [20] jx cx (Nx) bx [] ((jx : Int) + 1) := fun hv => by
            obtain ⟨i603, es604, m605, lo606, rr607, fx608, fx608m⟩ := f594.1 hv
            have fx608s : σ590.2.1 45 a ≤ (i603 : Int) := by rw [fx608.e45]; exact fx608m
            have rd609 : GR Sx [20] jx 0 (bx) u0 [] i603 (0) (bx) u0 (0 + 0 + m605) ([(5, (tkS Sx jx).1, 0, 0)] ++ es604) := GR.gg (l := [22]) (ms := []) [] rd588 rr607
            have fe610 := RDX.nq (M := Nx + (0 + 0 + m605)) (RDX.cq (c2 := ([(5, (tkS Sx jx).1, 0, 0)] ++ es604).foldl uC cx) fx608 (by simp only [List.foldl_append, List.foldl_cons, List.foldl_nil])) (by omega)
            have fe610m : (([(5, (tkS Sx jx).1, 0, 0)] ++ es604).foldl uC cx).m = σ590.2.1 45 a := (fe610.e45).symm.trans (rfl)
            exact ⟨i603, [(5, (tkS Sx jx).1, 0, 0)] ++ es604, 0 + 0 + m605, (by omega), rd609, fe610, by rw [fe610m]; omega⟩
          have rb602 : v596 = 0 → YF σ590 a Sx bx [20] jx := fun hv => by
            obtain ⟨pl611, g612, fx613⟩ := f594.2 hv
            have rf614 : GRF Sx [20] jx 0 (bx) u0 (pl611) := GR.fl (l := [22]) [] rd588 g612
            exact ⟨_, rf614, fx613⟩
          exact tn_zret (v := v596) rfl (by omega) dX5_statement_130 ⟨_, rfl, w597, (((FrC.rfl.put (by decide) (by decide)).trans (FrC.sub F414 (by decide))).trans (FrC.sub F598 (by decide))), by omega, ⟨ra601, rb602⟩, (RP.up rp600 (by omega))⟩
    · refine tn_aload_n dX5_statement_41 rfl 0 rfl ?_
      refine tn_getR (ci := 5) (i := 2) (n := 35) (x := x417) dX5_statement_42 rfl lay_5 (by decide) fl5_47 ha rfl rfl (rc_F F414 (Or.inl (by decide)) (by decide) (rc_o (by decide) (hx418))) ?_
      refine tn_aload_n dX5_statement_45 rfl 0 rfl ?_
      refine tn_getI (ci := 5) (i := 12) (n := 45) (t := (σ.2.1 45 a) + 1) dX5_statement_46 rfl lay_5 (by decide) fl5_64 ha rfl rfl (rc_F F414 (Or.inl (by decide)) (by decide) (ra_eq)) ?_
      refine tn_putV (ci := 1) (i := 4) (n := 9) (r := false) (v := (σ.2.1 45 a) + 1) tyX1 tyX1_ok nmX1 dX5_statement_49 rfl lay_1 (by decide) fl5_186 rfl (tyX1_ok 4 (by decide)) rfl rfl rfl hk419o rfl rfl ?_
      have fx615 : RDX (sA 9 x417 ((σ.2.1 45 a) + 1) σ408) a Sx nx jx (uC cx (5, (tkS Sx jx).1, 0, 0)) Nx := RDX.cq (fx415.pt (by decide) (by decide)) (by rw [g406pl, uC5o (by omega)]; rfl)
      refine tn_aload_n dX5_statement_52 rfl 0 rfl ?_
      refine tn_getR (ci := 5) (i := 0) (n := 33) (x := x402) dX5_statement_53 rfl lay_5 (by decide) fl5_12 ha rfl rfl (rc_o (by decide) (rc_F F414 (Or.inl (by decide)) (by decide) (rc_o (by decide) (hx403)))) ?_
      refine tn_getI (ci := 9) (i := 4) (n := 85) (t := σ.2.1 85 x402) dX5_statement_56 rfl lay_9 (by decide) fl5_71 hk404o rfl rfl (rc_o (by decide) (rc_F F414 (Or.inl (by decide)) (by decide) (rc_o (by decide) (rfl)))) ?_
      have g616 : ((-2147483648 : Int) ≤ σ.2.1 85 x402 ∧ σ.2.1 85 x402 ≤ 2147483647) := wf_85 hw hk404o
      have g616kd : σ.2.1 85 x402 = ckd (tkS Sx jx) := (rc_o (by decide) (rc_F F414 (Or.inl (by decide)) (by decide) (rc_o (by decide) (rfl)))).symm.trans ((fx615).1.kd (rc_o (by decide) (rc_F F414 (Or.inl (by decide)) (by decide) (rc_o (by decide) (hx403)))))
      by_cases h617 : σ.2.1 85 x402 < 256 ∨ 262 < σ.2.1 85 x402
      · refine tn_tableOut (tgt := 131) dX5_statement_59 (x := σ.2.1 85 x402) ⟨by omega, by omega⟩ h617 (by decide) ?_
        refine tn_aload_n dX5_statement_131 rfl 0 rfl ?_
        refine tn_callV (M := m_X5_statement) (pc := 132) (ix := 90) (ci := 5) (M' := m_X5_refuse) (As := []) (rest := []) dX5_statement_132 ok_X5_refuse im_X5_refuse se_X5_refuse ml5_90 np_X5_refuse rfl rfl ha rfl (Nat.le_of_ble_eq_true rfl) (Nat.le_of_ble_eq_true rfl) rfl (k_X5_refuse_f (d + 3 * lv + 60) (T := T) (σ := (sA 9 x417 ((σ.2.1 45 a) + 1) σ408)) (a := a) ha (w413.put (by decide) (by decide) (fo_9 (by omega))) (fx615).1.1) (fun r618 T620 σ619 gt621 hp => ?_)
        obtain ⟨v626, rfl, rfl, w627, F628, f622, f623, f624, f625⟩ := hp
        clear gt621
        have pc629 : GRF Sx [20] jx (0) (bx) u0 (tkS Sx jx).1 := x20f hSb (by omega)
        have rf6300 : GR Sx [20] jx 0 (bx) u0 [20] jx (0) (bx) u0 (0) ([]) := GR.nl
        have rf630 : GRF Sx [20] jx 0 (bx) u0 ((tkS Sx jx).1) := GR.fl (l := [20]) [] rf6300 pc629
        have rp631 : RP σ619 a (kp) := RP.frc (rp416.put (by decide)) F628 (by decide) (by decide) (by decide) (by decide) (by decide)
        show Tn _ _ 135 T σ619 [(0, .ref a), (1, .int (iI dp))] [.int (iI v626)] _
        have rb633 : YF σ619 a Sx bx [20] jx := ⟨_, rf630, f624⟩
        exact tn_zret (v := v626) rfl (by omega) dX5_statement_135 ⟨_, rfl, w627, ((((FrC.rfl.put (by decide) (by decide)).trans (FrC.sub F414 (by decide))).put (by decide) (by decide)).trans (FrC.sub F628 (by decide))), by omega, ⟨fun q => absurd q (by omega), fun _ => rb633⟩, (RP.up rp631 (by omega))⟩
      · have h634 : σ.2.1 85 x402 = 256 ∨ σ.2.1 85 x402 = 257 ∨ σ.2.1 85 x402 = 258 ∨ σ.2.1 85 x402 = 259 ∨ σ.2.1 85 x402 = 260 ∨ σ.2.1 85 x402 = 261 ∨ σ.2.1 85 x402 = 262 := by omega
        rcases h634 with h634 | h634 | h634 | h634 | h634 | h634 | h634
        · refine tn_tableIn (tgt := 100) (off := 41) dX5_statement_59 (x := σ.2.1 85 x402) ⟨by omega, by omega⟩ (by omega) (by omega) (by rw [h634]; rfl) (by decide) ?_
          refine tn_aload_n dX5_statement_100 rfl 0 rfl ?_
          have pc635 : GR Sx [20] jx (0) (bx) u0 [51, 23] jx (0) (bx) u0 0 [(5, (tkS Sx jx).1, 0, 0)] := x20n hSb (by omega)
          have rd6360 : GR Sx [20] jx 0 (bx) u0 [20] jx (0) (bx) u0 (0) ([]) := GR.nl
          have rd636a : GR Sx [20] jx 0 (bx) u0 [51, 23] jx (0) (bx) u0 (0 + 0) ([] ++ [(5, (tkS Sx jx).1, 0, 0)]) := GR.gg (l := [20]) (ms := [51, 23]) [] rd6360 pc635
          have rd636 : GR Sx [20] jx 0 (bx) u0 [51, 23] jx (0) (bx) u0 (0 + 0) ([(5, (tkS Sx jx).1, 0, 0)]) := rd636a
          refine tn_callV (M := m_X5_statement) (pc := 101) (ix := 189) (ci := 5) (M' := m_X5_assignment) (As := []) (rest := []) dX5_statement_101 ok_X5_assignment im_X5_assignment se_X5_assignment ml5_189 np_X5_assignment rfl rfl ha rfl (Nat.le_of_ble_eq_true rfl) (Nat.le_of_ble_eq_true rfl) rfl (k_X5_assignment_f (d + 3 * lv + 9) (T := T) (σ := (sA 9 x417 ((σ.2.1 45 a) + 1) σ408)) (a := a) (kp := kp) (bx := bx) ha (w413.put (by decide) (by decide) (fo_9 (by omega))) fx615 (by omega) (by omega) (rp416.put (by decide))) (fun r637 T639 σ638 gt640 hp => ?_)
          obtain ⟨v644, rfl, w645, F646, f641, f642, f643⟩ := hp
          replace ha : OB T639 a 5 := gt640.ob ha
          have rp648 : RP σ638 a (kp - 10 * v644 + 1) := RP.up f643 (by omega)
          show Tn _ _ 104 T639 σ638 [(0, .ref a), (1, .int (iI dp))] [.int (iI v644)] _
          have ra649 : v644 = 1 → YS σ638 a Sx nx bx [20] jx cx (Nx) bx [] ((jx : Int) + 1) := fun hv => by
            obtain ⟨i651, es652, m653, lo654, rr655, fx656, fx656m⟩ := f642.1 hv
            have fx656s : σ638.2.1 45 a ≤ (i651 : Int) := by rw [fx656.e45]; exact fx656m
            have rd657 : GR Sx [20] jx 0 (bx) u0 [] i651 (0) (bx) u0 (0 + 0 + m653) ([(5, (tkS Sx jx).1, 0, 0)] ++ es652) := GR.gg (l := [51, 23]) (ms := []) [] rd636 rr655
            have fe658 := RDX.nq (M := Nx + (0 + 0 + m653)) (RDX.cq (c2 := ([(5, (tkS Sx jx).1, 0, 0)] ++ es652).foldl uC cx) fx656 (by simp only [List.foldl_append, List.foldl_cons, List.foldl_nil])) (by omega)
            have fe658m : (([(5, (tkS Sx jx).1, 0, 0)] ++ es652).foldl uC cx).m = (σ.2.1 45 a) + 1 := (fe658.e45).symm.trans (rc_F F646 (Or.inl (by decide)) (by decide) (rc_o (by decide) (rc_F F414 (Or.inl (by decide)) (by decide) (ra_eq))))
            exact ⟨i651, [(5, (tkS Sx jx).1, 0, 0)] ++ es652, 0 + 0 + m653, (by omega), rd657, fe658, by rw [fe658m]; omega⟩
          have rb650 : v644 = 0 → YF σ638 a Sx bx [20] jx := fun hv => by
            obtain ⟨pl659, g660, fx661⟩ := f642.2 hv
            have rf662 : GRF Sx [20] jx 0 (bx) u0 (pl659) := GR.fl (l := [51, 23]) [] rd636 g660
            exact ⟨_, rf662, fx661⟩
          exact tn_zret (v := v644) rfl (by omega) dX5_statement_104 ⟨_, rfl, w645, ((((FrC.rfl.put (by decide) (by decide)).trans (FrC.sub F414 (by decide))).put (by decide) (by decide)).trans (FrC.sub F646 (by decide))), by omega, ⟨ra649, rb650⟩, (RP.up rp648 (by omega))⟩
        · refine tn_tableIn (tgt := 131) (off := 72) dX5_statement_59 (x := σ.2.1 85 x402) ⟨by omega, by omega⟩ (by omega) (by omega) (by rw [h634]; rfl) (by decide) ?_
          refine tn_aload_n dX5_statement_131 rfl 0 rfl ?_
          refine tn_callV (M := m_X5_statement) (pc := 132) (ix := 90) (ci := 5) (M' := m_X5_refuse) (As := []) (rest := []) dX5_statement_132 ok_X5_refuse im_X5_refuse se_X5_refuse ml5_90 np_X5_refuse rfl rfl ha rfl (Nat.le_of_ble_eq_true rfl) (Nat.le_of_ble_eq_true rfl) rfl (k_X5_refuse_f (d + 3 * lv + 60) (T := T) (σ := (sA 9 x417 ((σ.2.1 45 a) + 1) σ408)) (a := a) ha (w413.put (by decide) (by decide) (fo_9 (by omega))) (fx615).1.1) (fun r663 T665 σ664 gt666 hp => ?_)
          obtain ⟨v671, rfl, rfl, w672, F673, f667, f668, f669, f670⟩ := hp
          clear gt666
          have pc674 : GRF Sx [20] jx (0) (bx) u0 (tkS Sx jx).1 := x20f hSb (by omega)
          have rf6750 : GR Sx [20] jx 0 (bx) u0 [20] jx (0) (bx) u0 (0) ([]) := GR.nl
          have rf675 : GRF Sx [20] jx 0 (bx) u0 ((tkS Sx jx).1) := GR.fl (l := [20]) [] rf6750 pc674
          have rp676 : RP σ664 a (kp) := RP.frc (rp416.put (by decide)) F673 (by decide) (by decide) (by decide) (by decide) (by decide)
          show Tn _ _ 135 T σ664 [(0, .ref a), (1, .int (iI dp))] [.int (iI v671)] _
          have rb678 : YF σ664 a Sx bx [20] jx := ⟨_, rf675, f669⟩
          exact tn_zret (v := v671) rfl (by omega) dX5_statement_135 ⟨_, rfl, w672, ((((FrC.rfl.put (by decide) (by decide)).trans (FrC.sub F414 (by decide))).put (by decide) (by decide)).trans (FrC.sub F673 (by decide))), by omega, ⟨fun q => absurd q (by omega), fun _ => rb678⟩, (RP.up rp676 (by omega))⟩
        · refine tn_tableIn (tgt := 105) (off := 46) dX5_statement_59 (x := σ.2.1 85 x402) ⟨by omega, by omega⟩ (by omega) (by omega) (by rw [h634]; rfl) (by decide) ?_
          refine tn_aload_n dX5_statement_105 rfl 0 rfl ?_
          refine tn_bipush dX5_statement_106 (by decide) ?_
          have pc679 : GR Sx [20] jx (0) (bx) u0 [51, 39] jx (0) (bx) u0 0 [(5, (tkS Sx jx).1, 0, 0)] := x20o hSb (by omega)
          have rd6800 : GR Sx [20] jx 0 (bx) u0 [20] jx (0) (bx) u0 (0) ([]) := GR.nl
          have rd680a : GR Sx [20] jx 0 (bx) u0 [51, 39] jx (0) (bx) u0 (0 + 0) ([] ++ [(5, (tkS Sx jx).1, 0, 0)]) := GR.gg (l := [20]) (ms := [51, 39]) [] rd6800 pc679
          have rd680 : GR Sx [20] jx 0 (bx) u0 [51, 39] jx (0) (bx) u0 (0 + 0) ([(5, (tkS Sx jx).1, 0, 0)]) := rd680a
          refine tn_callV (M := m_X5_statement) (pc := 108) (ix := 192) (ci := 5) (M' := m_X5_single) (As := [.int (iI 6)]) (rest := []) dX5_statement_108 ok_X5_single im_X5_single se_X5_single ml5_192 np_X5_single rfl rfl ha rfl (Nat.le_of_ble_eq_true rfl) (Nat.le_of_ble_eq_true rfl) rfl (k_X5_single_f (d + 3 * lv + 10) (T := T) (σ := (sA 9 x417 ((σ.2.1 45 a) + 1) σ408)) (a := a) (k := 6) (kp := kp) (bx := bx) ha (by decide) (w413.put (by decide) (by decide) (fo_9 (by omega))) (by omega) fx615 (by omega) (by omega) (rp416.put (by decide))) (fun r681 T683 σ682 gt684 hp => ?_)
          obtain ⟨v688, rfl, w689, F690, f685, f686, f687⟩ := hp
          replace ha : OB T683 a 5 := gt684.ob ha
          have rp692 : RP σ682 a (kp - 7 * v688 + 1) := RP.up f687 (by omega)
          show Tn _ _ 111 T683 σ682 [(0, .ref a), (1, .int (iI dp))] [.int (iI v688)] _
          have ra693 : v688 = 1 → YS σ682 a Sx nx bx [20] jx cx (Nx) bx [] ((jx : Int) + 1) := fun hv => by
            obtain ⟨i695, es696, m697, lo698, rr699, fx700, fx700m⟩ := f686.1 hv
            have fx700s : σ682.2.1 45 a ≤ (i695 : Int) := by rw [fx700.e45]; exact fx700m
            have rd701 : GR Sx [20] jx 0 (bx) u0 [] i695 (0) (bx) u0 (0 + 0 + m697) ([(5, (tkS Sx jx).1, 0, 0)] ++ es696) := GR.gg (l := [51, 39]) (ms := []) [] rd680 rr699
            have fe702 := RDX.nq (M := Nx + (0 + 0 + m697)) (RDX.cq (c2 := ([(5, (tkS Sx jx).1, 0, 0)] ++ es696).foldl uC cx) fx700 (by simp only [List.foldl_append, List.foldl_cons, List.foldl_nil])) (by omega)
            have fe702m : (([(5, (tkS Sx jx).1, 0, 0)] ++ es696).foldl uC cx).m = (σ.2.1 45 a) + 1 := (fe702.e45).symm.trans (rc_F F690 (Or.inl (by decide)) (by decide) (rc_o (by decide) (rc_F F414 (Or.inl (by decide)) (by decide) (ra_eq))))
            exact ⟨i695, [(5, (tkS Sx jx).1, 0, 0)] ++ es696, 0 + 0 + m697, (by omega), rd701, fe702, by rw [fe702m]; omega⟩
          have rb694 : v688 = 0 → YF σ682 a Sx bx [20] jx := fun hv => by
            obtain ⟨pl703, g704, fx705⟩ := f686.2 hv
            have rf706 : GRF Sx [20] jx 0 (bx) u0 (pl703) := GR.fl (l := [51, 39]) [] rd680 g704
            exact ⟨_, rf706, fx705⟩
          exact tn_zret (v := v688) rfl (by omega) dX5_statement_111 ⟨_, rfl, w689, ((((FrC.rfl.put (by decide) (by decide)).trans (FrC.sub F414 (by decide))).put (by decide) (by decide)).trans (FrC.sub F690 (by decide))), by omega, ⟨ra693, rb694⟩, (RP.up rp692 (by omega))⟩
        · refine tn_tableIn (tgt := 112) (off := 53) dX5_statement_59 (x := σ.2.1 85 x402) ⟨by omega, by omega⟩ (by omega) (by omega) (by rw [h634]; rfl) (by decide) ?_
          refine tn_aload_n dX5_statement_112 rfl 0 rfl ?_
          refine tn_bipush dX5_statement_113 (by decide) ?_
          have pc707 : GR Sx [20] jx (0) (bx) u0 [51, 39] jx (0) (bx) u0 0 [(5, (tkS Sx jx).1, 0, 0)] := x20r hSb (by omega)
          have rd7080 : GR Sx [20] jx 0 (bx) u0 [20] jx (0) (bx) u0 (0) ([]) := GR.nl
          have rd708a : GR Sx [20] jx 0 (bx) u0 [51, 39] jx (0) (bx) u0 (0 + 0) ([] ++ [(5, (tkS Sx jx).1, 0, 0)]) := GR.gg (l := [20]) (ms := [51, 39]) [] rd7080 pc707
          have rd708 : GR Sx [20] jx 0 (bx) u0 [51, 39] jx (0) (bx) u0 (0 + 0) ([(5, (tkS Sx jx).1, 0, 0)]) := rd708a
          refine tn_callV (M := m_X5_statement) (pc := 115) (ix := 192) (ci := 5) (M' := m_X5_single) (As := [.int (iI 7)]) (rest := []) dX5_statement_115 ok_X5_single im_X5_single se_X5_single ml5_192 np_X5_single rfl rfl ha rfl (Nat.le_of_ble_eq_true rfl) (Nat.le_of_ble_eq_true rfl) rfl (k_X5_single_f (d + 3 * lv + 10) (T := T) (σ := (sA 9 x417 ((σ.2.1 45 a) + 1) σ408)) (a := a) (k := 7) (kp := kp) (bx := bx) ha (by decide) (w413.put (by decide) (by decide) (fo_9 (by omega))) (by omega) fx615 (by omega) (by omega) (rp416.put (by decide))) (fun r709 T711 σ710 gt712 hp => ?_)
          obtain ⟨v716, rfl, w717, F718, f713, f714, f715⟩ := hp
          replace ha : OB T711 a 5 := gt712.ob ha
          have rp720 : RP σ710 a (kp - 7 * v716 + 1) := RP.up f715 (by omega)
          show Tn _ _ 118 T711 σ710 [(0, .ref a), (1, .int (iI dp))] [.int (iI v716)] _
          have ra721 : v716 = 1 → YS σ710 a Sx nx bx [20] jx cx (Nx) bx [] ((jx : Int) + 1) := fun hv => by
            obtain ⟨i723, es724, m725, lo726, rr727, fx728, fx728m⟩ := f714.1 hv
            have fx728s : σ710.2.1 45 a ≤ (i723 : Int) := by rw [fx728.e45]; exact fx728m
            have rd729 : GR Sx [20] jx 0 (bx) u0 [] i723 (0) (bx) u0 (0 + 0 + m725) ([(5, (tkS Sx jx).1, 0, 0)] ++ es724) := GR.gg (l := [51, 39]) (ms := []) [] rd708 rr727
            have fe730 := RDX.nq (M := Nx + (0 + 0 + m725)) (RDX.cq (c2 := ([(5, (tkS Sx jx).1, 0, 0)] ++ es724).foldl uC cx) fx728 (by simp only [List.foldl_append, List.foldl_cons, List.foldl_nil])) (by omega)
            have fe730m : (([(5, (tkS Sx jx).1, 0, 0)] ++ es724).foldl uC cx).m = (σ.2.1 45 a) + 1 := (fe730.e45).symm.trans (rc_F F718 (Or.inl (by decide)) (by decide) (rc_o (by decide) (rc_F F414 (Or.inl (by decide)) (by decide) (ra_eq))))
            exact ⟨i723, [(5, (tkS Sx jx).1, 0, 0)] ++ es724, 0 + 0 + m725, (by omega), rd729, fe730, by rw [fe730m]; omega⟩
          have rb722 : v716 = 0 → YF σ710 a Sx bx [20] jx := fun hv => by
            obtain ⟨pl731, g732, fx733⟩ := f714.2 hv
            have rf734 : GRF Sx [20] jx 0 (bx) u0 (pl731) := GR.fl (l := [51, 39]) [] rd708 g732
            exact ⟨_, rf734, fx733⟩
          exact tn_zret (v := v716) rfl (by omega) dX5_statement_118 ⟨_, rfl, w717, ((((FrC.rfl.put (by decide) (by decide)).trans (FrC.sub F414 (by decide))).put (by decide) (by decide)).trans (FrC.sub F718 (by decide))), by omega, ⟨ra721, rb722⟩, (RP.up rp720 (by omega))⟩
        · refine tn_tableIn (tgt := 119) (off := 60) dX5_statement_59 (x := σ.2.1 85 x402) ⟨by omega, by omega⟩ (by omega) (by omega) (by rw [h634]; rfl) (by decide) ?_
          refine tn_aload_n dX5_statement_119 rfl 0 rfl ?_
          refine tn_iload_n dX5_statement_120 rfl 1 rfl ?_
          have pc735 : GR Sx [20] jx (0) (bx) u0 [51, 21] jx (0) (bx) u0 0 [(5, (tkS Sx jx).1, 0, 0)] := x20i hSb (by omega)
          have rd7360 : GR Sx [20] jx 0 (bx) u0 [20] jx (0) (bx) u0 (0) ([]) := GR.nl
          have rd736a : GR Sx [20] jx 0 (bx) u0 [51, 21] jx (0) (bx) u0 (0 + 0) ([] ++ [(5, (tkS Sx jx).1, 0, 0)]) := GR.gg (l := [20]) (ms := [51, 21]) [] rd7360 pc735
          have rd736 : GR Sx [20] jx 0 (bx) u0 [51, 21] jx (0) (bx) u0 (0 + 0) ([(5, (tkS Sx jx).1, 0, 0)]) := rd736a
          refine tn_callV (M := m_X5_statement) (pc := 121) (ix := 195) (ci := 5) (M' := m_X5_choice) (As := [.int (iI dp)]) (rest := []) dX5_statement_121 ok_X5_choice im_X5_choice se_X5_choice ml5_195 np_X5_choice rfl rfl ha rfl (Nat.le_of_ble_eq_true rfl) (Nat.le_of_ble_eq_true rfl) rfl (k_X5_choice_f (d) (T := T) (σ := (sA 9 x417 ((σ.2.1 45 a) + 1) σ408)) (a := a) (dp := dp) (kp := kp) (lv := lv) (bx := bx) ha (by omega) (w413.put (by decide) (by decide) (fo_9 (by omega))) hex (by omega) (by omega) fx615 (by omega) (by omega) (by omega) (rp416.put (by decide))) (fun r737 T739 σ738 gt740 hp => ?_)
          obtain ⟨v744, rfl, w745, F746, f741, f742, f743⟩ := hp
          replace ha : OB T739 a 5 := gt740.ob ha
          have rp748 : RP σ738 a (kp - 10 * v744 + 1) := RP.up f743 (by omega)
          show Tn _ _ 124 T739 σ738 [(0, .ref a), (1, .int (iI dp))] [.int (iI v744)] _
          have ra749 : v744 = 1 → YS σ738 a Sx nx bx [20] jx cx (Nx) bx [] ((jx : Int) + 1) := fun hv => by
            obtain ⟨i751, es752, m753, lo754, rr755, fx756, fx756m⟩ := f742.1 hv
            have fx756s : σ738.2.1 45 a ≤ (i751 : Int) := by rw [fx756.e45]; exact fx756m
            have rd757 : GR Sx [20] jx 0 (bx) u0 [] i751 (0) (bx) u0 (0 + 0 + m753) ([(5, (tkS Sx jx).1, 0, 0)] ++ es752) := GR.gg (l := [51, 21]) (ms := []) [] rd736 rr755
            have fe758 := RDX.nq (M := Nx + (0 + 0 + m753)) (RDX.cq (c2 := ([(5, (tkS Sx jx).1, 0, 0)] ++ es752).foldl uC cx) fx756 (by simp only [List.foldl_append, List.foldl_cons, List.foldl_nil])) (by omega)
            have fe758m : (([(5, (tkS Sx jx).1, 0, 0)] ++ es752).foldl uC cx).m = σ738.2.1 45 a := (fe758.e45).symm.trans (rfl)
            exact ⟨i751, [(5, (tkS Sx jx).1, 0, 0)] ++ es752, 0 + 0 + m753, (by omega), rd757, fe758, by rw [fe758m]; omega⟩
          have rb750 : v744 = 0 → YF σ738 a Sx bx [20] jx := fun hv => by
            obtain ⟨pl759, g760, fx761⟩ := f742.2 hv
            have rf762 : GRF Sx [20] jx 0 (bx) u0 (pl759) := GR.fl (l := [51, 21]) [] rd736 g760
            exact ⟨_, rf762, fx761⟩
          exact tn_zret (v := v744) rfl (by omega) dX5_statement_124 ⟨_, rfl, w745, ((((FrC.rfl.put (by decide) (by decide)).trans (FrC.sub F414 (by decide))).put (by decide) (by decide)).trans (FrC.sub F746 (by decide))), by omega, ⟨ra749, rb750⟩, (RP.up rp748 (by omega))⟩
        · refine tn_tableIn (tgt := 131) (off := 72) dX5_statement_59 (x := σ.2.1 85 x402) ⟨by omega, by omega⟩ (by omega) (by omega) (by rw [h634]; rfl) (by decide) ?_
          refine tn_aload_n dX5_statement_131 rfl 0 rfl ?_
          refine tn_callV (M := m_X5_statement) (pc := 132) (ix := 90) (ci := 5) (M' := m_X5_refuse) (As := []) (rest := []) dX5_statement_132 ok_X5_refuse im_X5_refuse se_X5_refuse ml5_90 np_X5_refuse rfl rfl ha rfl (Nat.le_of_ble_eq_true rfl) (Nat.le_of_ble_eq_true rfl) rfl (k_X5_refuse_f (d + 3 * lv + 60) (T := T) (σ := (sA 9 x417 ((σ.2.1 45 a) + 1) σ408)) (a := a) ha (w413.put (by decide) (by decide) (fo_9 (by omega))) (fx615).1.1) (fun r763 T765 σ764 gt766 hp => ?_)
          obtain ⟨v771, rfl, rfl, w772, F773, f767, f768, f769, f770⟩ := hp
          clear gt766
          have pc774 : GRF Sx [20] jx (0) (bx) u0 (tkS Sx jx).1 := x20f hSb (by omega)
          have rf7750 : GR Sx [20] jx 0 (bx) u0 [20] jx (0) (bx) u0 (0) ([]) := GR.nl
          have rf775 : GRF Sx [20] jx 0 (bx) u0 ((tkS Sx jx).1) := GR.fl (l := [20]) [] rf7750 pc774
          have rp776 : RP σ764 a (kp) := RP.frc (rp416.put (by decide)) F773 (by decide) (by decide) (by decide) (by decide) (by decide)
          show Tn _ _ 135 T σ764 [(0, .ref a), (1, .int (iI dp))] [.int (iI v771)] _
          have rb778 : YF σ764 a Sx bx [20] jx := ⟨_, rf775, f769⟩
          exact tn_zret (v := v771) rfl (by omega) dX5_statement_135 ⟨_, rfl, w772, ((((FrC.rfl.put (by decide) (by decide)).trans (FrC.sub F414 (by decide))).put (by decide) (by decide)).trans (FrC.sub F773 (by decide))), by omega, ⟨fun q => absurd q (by omega), fun _ => rb778⟩, (RP.up rp776 (by omega))⟩
        · refine tn_tableIn (tgt := 125) (off := 66) dX5_statement_59 (x := σ.2.1 85 x402) ⟨by omega, by omega⟩ (by omega) (by omega) (by rw [h634]; rfl) (by decide) ?_
          refine tn_aload_n dX5_statement_125 rfl 0 rfl ?_
          refine tn_iload_n dX5_statement_126 rfl 1 rfl ?_
          have pc779 : GR Sx [20] jx (0) (bx) u0 [22] jx (0) (bx) u0 0 [(5, (tkS Sx jx).1, 0, 0)] := x20w hSb (by omega)
          have rd7800 : GR Sx [20] jx 0 (bx) u0 [20] jx (0) (bx) u0 (0) ([]) := GR.nl
          have rd780a : GR Sx [20] jx 0 (bx) u0 [22] jx (0) (bx) u0 (0 + 0) ([] ++ [(5, (tkS Sx jx).1, 0, 0)]) := GR.gg (l := [20]) (ms := [22]) [] rd7800 pc779
          have rd780 : GR Sx [20] jx 0 (bx) u0 [22] jx (0) (bx) u0 (0 + 0) ([(5, (tkS Sx jx).1, 0, 0)]) := rd780a
          refine tn_callV (M := m_X5_statement) (pc := 127) (ix := 198) (ci := 5) (M' := m_X5_ring) (As := [.int (iI dp)]) (rest := []) dX5_statement_127 ok_X5_ring im_X5_ring se_X5_ring ml5_198 np_X5_ring rfl rfl ha rfl (Nat.le_of_ble_eq_true rfl) (Nat.le_of_ble_eq_true rfl) rfl (k_X5_ring_f (d) (T := T) (σ := (sA 9 x417 ((σ.2.1 45 a) + 1) σ408)) (a := a) (dp := dp) (kp := kp) (lv := lv) (bx := bx) ha (by omega) (w413.put (by decide) (by decide) (fo_9 (by omega))) hex (by omega) (by omega) fx615 (by omega) (by omega) (by omega) (rp416.put (by decide))) (fun r781 T783 σ782 gt784 hp => ?_)
          obtain ⟨v788, rfl, w789, F790, f785, f786, f787⟩ := hp
          replace ha : OB T783 a 5 := gt784.ob ha
          have rp792 : RP σ782 a (kp - 9 * v788 + 2) := RP.up f787 (by omega)
          show Tn _ _ 130 T783 σ782 [(0, .ref a), (1, .int (iI dp))] [.int (iI v788)] _
          have ra793 : v788 = 1 → YS σ782 a Sx nx bx [20] jx cx (Nx) bx [] ((jx : Int) + 1) := fun hv => by
            obtain ⟨i795, es796, m797, lo798, rr799, fx800, fx800m⟩ := f786.1 hv
            have fx800s : σ782.2.1 45 a ≤ (i795 : Int) := by rw [fx800.e45]; exact fx800m
            have rd801 : GR Sx [20] jx 0 (bx) u0 [] i795 (0) (bx) u0 (0 + 0 + m797) ([(5, (tkS Sx jx).1, 0, 0)] ++ es796) := GR.gg (l := [22]) (ms := []) [] rd780 rr799
            have fe802 := RDX.nq (M := Nx + (0 + 0 + m797)) (RDX.cq (c2 := ([(5, (tkS Sx jx).1, 0, 0)] ++ es796).foldl uC cx) fx800 (by simp only [List.foldl_append, List.foldl_cons, List.foldl_nil])) (by omega)
            have fe802m : (([(5, (tkS Sx jx).1, 0, 0)] ++ es796).foldl uC cx).m = σ782.2.1 45 a := (fe802.e45).symm.trans (rfl)
            exact ⟨i795, [(5, (tkS Sx jx).1, 0, 0)] ++ es796, 0 + 0 + m797, (by omega), rd801, fe802, by rw [fe802m]; omega⟩
          have rb794 : v788 = 0 → YF σ782 a Sx bx [20] jx := fun hv => by
            obtain ⟨pl803, g804, fx805⟩ := f786.2 hv
            have rf806 : GRF Sx [20] jx 0 (bx) u0 (pl803) := GR.fl (l := [22]) [] rd780 g804
            exact ⟨_, rf806, fx805⟩
          exact tn_zret (v := v788) rfl (by omega) dX5_statement_130 ⟨_, rfl, w789, ((((FrC.rfl.put (by decide) (by decide)).trans (FrC.sub F414 (by decide))).put (by decide) (by decide)).trans (FrC.sub F790 (by decide))), by omega, ⟨ra793, rb794⟩, (RP.up rp792 (by omega))⟩
