set_option maxHeartbeats 4000000 in
set_option maxRecDepth 20000 in
theorem k_X5_atom_f (d : Nat) {T : CT} {σ : MS} {a : Nat} {dp : Int} {kp : Int} {lv : Nat} {Sx : Int → Int} {nx jx : Nat} {cx : CS} {Nx : Int} {eo : Int} (ha : OB T a 5) (h_dp : -2147483648 ≤ dp ∧ dp ≤ 2147483647) (hw : WT T σ) (hex : ∀ (d : Nat) {T : CT} {σ : MS} {a : Nat} {dp : Int} {kp : Int} {Sx : Int → Int} {nx jx : Nat} {cx : CS} {Nx : Int} {eo : Int} (ha : OB T a 5) (h_dp : -2147483648 ≤ dp ∧ dp ≤ 2147483647) (hw : WT T σ) (hdp : 1 ≤ dp ∧ dp ≤ 9) (hlv : 9 ≤ dp + (lv : Int)) (hfx : RDX σ a Sx nx jx cx Nx) (heo : eo = dp - 1) (hkp : kp ≤ 150) (hrp : RP σ a kp), Tn (d + 5 * lv + 10) m_X5_expression 0 T σ [(0, .ref a), (1, .int (iI dp))] [] (fun ro T2 σ2 => ∃ v : Int, ro = some (.int (iI v)) ∧ WT T2 σ2 ∧ FrC T [5, 6, 7, 43, 44, 47, 50, 51, 84, 85, 86, 87, 521] σ σ2 ∧ (v = 0 ∨ v = 1) ∧ (XQ σ2 a Sx nx (eo) [2] jx cx Nx v) ∧ (RP σ2 a (kp - 4 * v)))) (hdp : 1 ≤ dp ∧ dp ≤ 8) (hlv : 8 ≤ dp + (lv : Int)) (hfx : RDX σ a Sx nx jx cx Nx) (heo : eo = dp) (hkp : kp ≤ 150) (hrp : RP σ a kp) : Tn (d + 5 * lv + 11) m_X5_atom 0 T σ [(0, .ref a), (1, .int (iI dp))] [] (fun ro T2 σ2 => ∃ v : Int, ro = some (.int (iI v)) ∧ WT T2 σ2 ∧ FrC T [5, 6, 7, 43, 44, 47, 50, 51, 84, 85, 86, 87, 521] σ σ2 ∧ (v = 0 ∨ v = 1) ∧ (XQ σ2 a Sx nx (eo) [1] jx cx Nx v) ∧ (RP σ2 a (kp - 4 * v))) := by
  have hSb := hfx.1.sb
  refine tn_aload_n dX5_atom_0 rfl 0 rfl ?_
  obtain ⟨x1, hx2, hk3⟩ : ∃ x : Nat, σ.2.1 33 a = (x : Int) ∧ (T x).1 = 39 := wf_33 hw ha
  have hk3o : OB T x1 9 := ⟨by omega, by rw [hk3]; rfl, by omega⟩
  refine tn_getR (ci := 5) (i := 0) (n := 33) (x := x1) dX5_atom_1 rfl lay_5 (by decide) fl5_12 ha rfl rfl (hx2) ?_
  refine tn_getI (ci := 9) (i := 4) (n := 85) (t := σ.2.1 85 x1) dX5_atom_4 rfl lay_9 (by decide) fl5_71 hk3o rfl rfl (rfl) ?_
  have g5 : ((-2147483648 : Int) ≤ σ.2.1 85 x1 ∧ σ.2.1 85 x1 ≤ 2147483647) := wf_85 hw hk3o
  have g5kd : σ.2.1 85 x1 = ckd (tkS Sx jx) := (rfl).symm.trans ((hfx).1.kd (hx2))
  refine tn_bipush dX5_atom_7 (by decide) ?_
  refine tn_icmp_ne (tgt := 44) dX5_atom_9 (by decide) ⟨by omega, by omega⟩ ⟨by decide, by decide⟩ (fun h6 => ?_) (fun h6 => ?_)
  · refine tn_aload_n dX5_atom_44 rfl 0 rfl ?_
    refine tn_getR (ci := 5) (i := 0) (n := 33) (x := x1) dX5_atom_45 rfl lay_5 (by decide) fl5_12 ha rfl rfl (hx2) ?_
    refine tn_getI (ci := 9) (i := 4) (n := 85) (t := σ.2.1 85 x1) dX5_atom_48 rfl lay_9 (by decide) fl5_71 hk3o rfl rfl (rfl) ?_
    refine tn_sipush dX5_atom_51 (by decide) ?_
    refine tn_icmp_ne (tgt := 76) dX5_atom_54 (by decide) ⟨by omega, by omega⟩ ⟨by decide, by decide⟩ (fun h7 => ?_) (fun h7 => ?_)
    · refine tn_aload_n dX5_atom_76 rfl 0 rfl ?_
      refine tn_getR (ci := 5) (i := 0) (n := 33) (x := x1) dX5_atom_77 rfl lay_5 (by decide) fl5_12 ha rfl rfl (hx2) ?_
      refine tn_getI (ci := 9) (i := 4) (n := 85) (t := σ.2.1 85 x1) dX5_atom_80 rfl lay_9 (by decide) fl5_71 hk3o rfl rfl (rfl) ?_
      refine tn_sipush dX5_atom_83 (by decide) ?_
      refine tn_icmp_ne (tgt := 105) dX5_atom_86 (by decide) ⟨by omega, by omega⟩ ⟨by decide, by decide⟩ (fun h8 => ?_) (fun h8 => ?_)
      · refine tn_aload_n dX5_atom_105 rfl 0 rfl ?_
        refine tn_callV (M := m_X5_atom) (pc := 106) (ix := 90) (ci := 5) (M' := m_X5_refuse) (As := []) (rest := []) dX5_atom_106 ok_X5_refuse im_X5_refuse se_X5_refuse ml5_90 np_X5_refuse rfl rfl ha rfl (Nat.le_of_ble_eq_true rfl) (Nat.le_of_ble_eq_true rfl) rfl (k_X5_refuse_f (d + 5 * lv + 9) (T := T) (σ := σ) (a := a) ha hw (hfx).1.1) (fun r9 T11 σ10 gt12 hp => ?_)
        obtain ⟨v17, rfl, rfl, w18, F19, f13, f14, f15, f16⟩ := hp
        clear gt12
        have pc20 : EXF Sx (eo) [1] jx (tkS Sx jx).1 := fun _ _ => x1f hSb (by omega) (by omega) (by omega)
        have rf210 : EXR Sx (eo) [1] jx (eo) [1] jx (0) ([]) := EXR.nl
        have rf21 : EXF Sx (eo) [1] jx ((tkS Sx jx).1) := EXR.fl (l := [1]) [] rf210 pc20
        have rp22 : RP σ10 a (kp) := RP.frc hrp F19 (by decide) (by decide) (by decide) (by decide) (by decide)
        show Tn _ _ 109 T σ10 [(0, .ref a), (1, .int (iI dp))] [.int (iI v17)] _
        have rb24 : XFc σ10 a Sx (eo) [1] jx := ⟨_, rf21, f15⟩
        exact tn_zret (v := v17) rfl (by omega) dX5_atom_109 ⟨_, rfl, w18, (FrC.rfl.trans (FrC.sub F19 (by decide))), by omega, ⟨fun q => absurd q (by omega), fun _ => rb24⟩, (RP.up rp22 (by omega))⟩
      · refine tn_aload_n dX5_atom_89 rfl 0 rfl ?_
        refine tn_iconst dX5_atom_90 ?_
        refine tn_putV (ci := 5) (i := 17) (n := 50) (r := false) (v := 2) tyX5 tyX5_ok nmX5 dX5_atom_91 rfl lay_5 (by decide) fl5_216 rfl (tyX5_ok 17 (by decide)) rfl rfl rfl ha rfl rfl ?_
        refine tn_aload_n dX5_atom_94 rfl 0 rfl ?_
        refine tn_aload_n dX5_atom_95 rfl 0 rfl ?_
        refine tn_callV (M := m_X5_atom) (pc := 96) (ix := 176) (ci := 5) (M' := m_X5_register) (As := []) (rest := [.ref a]) dX5_atom_96 ok_X5_register im_X5_register se_X5_register ml5_176 np_X5_register rfl rfl ha rfl (Nat.le_of_ble_eq_true rfl) (Nat.le_of_ble_eq_true rfl) rfl (k_X5_register_f (d + 5 * lv + 8) (T := T) (σ := (sA 50 a (2) σ)) (a := a) ha (hw.put (by decide) (by decide) (fo_50 (by omega))) (hfx.pt (by decide) (by decide)) (by omega)) (fun r25 T27 σ26 gt28 hp => ?_)
        obtain ⟨v31, rfl, rfl, w32, F33, f29, f30⟩ := hp
        clear gt28
        have rp34 : RP σ26 a (kp) := RP.frc (hrp.put (by decide)) F33 (by decide) (by decide) (by decide) (by decide) (by decide)
        show Tn _ _ 99 T σ26 [(0, .ref a), (1, .int (iI dp))] [.int (iI v31), .ref a] _
        refine tn_putV (ci := 5) (i := 18) (n := 51) (r := false) (v := v31) tyX5 tyX5_ok nmX5 dX5_atom_99 rfl lay_5 (by decide) fl5_219 rfl (tyX5_ok 18 (by decide)) rfl rfl rfl ha rfl rfl ?_
        refine tn_goto (tgt := 110) dX5_atom_102 (by decide) ?_
        refine tn_aload_n dX5_atom_110 rfl 0 rfl ?_
        refine tn_getR (ci := 5) (i := 0) (n := 33) (x := x1) dX5_atom_111 rfl lay_5 (by decide) fl5_12 ha rfl rfl (rc_o (by decide) (rc_F F33 (Or.inl (by decide)) (by decide) (rc_o (by decide) (hx2)))) ?_
        have q39 : (sA 51 a (v31) σ26).2.1 84 x1 = σ.2.1 84 x1 := rc_o (by decide) (rc_F F33 (Or.inl (by decide)) (by decide) (rc_o (by decide) (rfl)))
        refine tn_callV (M := m_X5_atom) (pc := 114) (ix := 93) (ci := 9) (M' := m_X9_next) (As := []) (rest := []) dX5_atom_114 ok_X9_next im_X9_next se_X9_next ml5_93 np_X9_next rfl rfl hk3o rfl (Nat.le_of_ble_eq_true rfl) (Nat.le_of_ble_eq_true rfl) rfl (k_X9_next_f (d + 5 * lv + 9) (T := T) (σ := (sA 51 a (v31) σ26)) (a := x1) hk3o (w32.put (by decide) (by decide) (fo_51 (by omega))) (RP.tk (rp34.put (by decide)) (w32.put (by decide) (by decide) (fo_51 (by omega))) ha (rc_o (by decide) (rc_F F33 (Or.inl (by decide)) (by decide) (rc_o (by decide) (hx2))))) (((f30.pt (by decide) (by decide))).1.tk (rc_o (by decide) (rc_F F33 (Or.inl (by decide)) (by decide) (rc_o (by decide) (hx2))))) (by rw [((f30.pt (by decide) (by decide))).1.kd (rc_o (by decide) (rc_F F33 (Or.inl (by decide)) (by decide) (rc_o (by decide) (hx2))))]; omega)) (fun r35 T37 σ36 gt38 hp => ?_)
        obtain ⟨rfl, rfl, w45, F46, f40, f41, f42, f43⟩ := hp
        clear gt38
        have pc48 : EXR Sx (eo) [1] jx (eo) [] (jx + 1) 0 [(4, (tkS Sx jx).1, 0, (tkS Sx jx).2.2.2.2)] := fun _ _ => x1w hSb (by omega)
        have rd490 : EXR Sx (eo) [1] jx (eo) [1] jx (0) ([]) := EXR.nl
        have rd49a : EXR Sx (eo) [1] jx (eo) [] (jx + 1) (0 + 0) ([] ++ [(4, (tkS Sx jx).1, 0, (tkS Sx jx).2.2.2.2)]) := EXR.gg (l := [1]) (ms := []) [] rd490 pc48
        have rd49 : EXR Sx (eo) [1] jx (eo) [] (jx + 1) (0 + 0) ([(4, (tkS Sx jx).1, 0, (tkS Sx jx).2.2.2.2)]) := rd49a
        have fx47 : RDX σ36 a Sx nx (jx + 1) (uC (cx) (4, (tkS Sx jx).1, 0, (tkS Sx jx).2.2.2.2)) (Nx) := RDX.nx (f30.pt (by decide) (by decide)) (w32.put (by decide) (by decide) (fo_51 (by omega))) ha (rc_o (by decide) (rc_F F33 (Or.inl (by decide)) (by decide) (rc_o (by decide) (hx2)))) F46 f43
        have rp50 : RP σ36 a (kp - 4) := RP.next4 (rp34.put (by decide)) (rc_o (by decide) (rc_F F33 (Or.inl (by decide)) (by decide) (rc_o (by decide) (hx2)))) F46 (by decide) (by decide) (by decide) f40 f42 (by rw [show (sA 51 a (v31) σ26).2.1 85 x1 = σ.2.1 85 x1 from rc_o (by decide) (rc_F F33 (Or.inl (by decide)) (by decide) (rc_o (by decide) (rfl)))]; omega)
        show Tn _ _ 117 T σ36 [(0, .ref a), (1, .int (iI dp))] [] _
        refine tn_iconst dX5_atom_117 ?_
        have ra51 : XS σ36 a Sx nx (eo) [1] jx cx Nx (eo) [] ((jx : Int) + 1) := ⟨(jx + 1), [(4, (tkS Sx jx).1, 0, (tkS Sx jx).2.2.2.2)], 0 + 0, (by omega), rd49, RDX.nq (RDX.cq fx47 (by simp only [List.foldl_append, List.foldl_cons, List.foldl_nil])) (by omega)⟩
        exact tn_zret (v := 1) rfl (by decide) dX5_atom_118 ⟨_, rfl, w45, ((((FrC.rfl.put (by decide) (by decide)).trans (FrC.sub F33 (by decide))).put (by decide) (by decide)).trans (FrC.sub F46 (by decide))), by omega, ⟨fun _ => ra51, fun q => absurd q (by decide)⟩, (RP.up rp50 (by omega))⟩
    · refine tn_aload_n dX5_atom_57 rfl 0 rfl ?_
      refine tn_iconst dX5_atom_58 ?_
      refine tn_putV (ci := 5) (i := 17) (n := 50) (r := false) (v := 1) tyX5 tyX5_ok nmX5 dX5_atom_59 rfl lay_5 (by decide) fl5_216 rfl (tyX5_ok 17 (by decide)) rfl rfl rfl ha rfl rfl ?_
      refine tn_aload_n dX5_atom_62 rfl 0 rfl ?_
      refine tn_aload_n dX5_atom_63 rfl 0 rfl ?_
      refine tn_getR (ci := 5) (i := 0) (n := 33) (x := x1) dX5_atom_64 rfl lay_5 (by decide) fl5_12 ha rfl rfl (rc_o (by decide) (hx2)) ?_
      refine tn_getI (ci := 9) (i := 5) (n := 86) (t := σ.2.1 86 x1) dX5_atom_67 rfl lay_9 (by decide) fl5_96 hk3o rfl rfl (rc_o (by decide) (rfl)) ?_
      have g53 : ((-2147483648 : Int) ≤ σ.2.1 86 x1 ∧ σ.2.1 86 x1 ≤ 2147483647) := wf_86 hw hk3o
      have g53ky : NKY (tkS Sx jx) (σ.2.1 86 x1) := by rw [← show (sA 50 a (1) σ).2.1 86 x1 = σ.2.1 86 x1 from rc_o (by decide) (rfl)]; exact ((hfx.pt (by decide) (by decide))).1.ky (rc_o (by decide) (hx2))
      refine tn_putV (ci := 5) (i := 18) (n := 51) (r := false) (v := σ.2.1 86 x1) tyX5 tyX5_ok nmX5 dX5_atom_70 rfl lay_5 (by decide) fl5_219 rfl (tyX5_ok 18 (by decide)) rfl rfl rfl ha rfl rfl ?_
      refine tn_goto (tgt := 110) dX5_atom_73 (by decide) ?_
      refine tn_aload_n dX5_atom_110 rfl 0 rfl ?_
      refine tn_getR (ci := 5) (i := 0) (n := 33) (x := x1) dX5_atom_111 rfl lay_5 (by decide) fl5_12 ha rfl rfl (rc_o (by decide) (rc_o (by decide) (hx2))) ?_
      have q58 : (sA 51 a (σ.2.1 86 x1) (sA 50 a (1) σ)).2.1 84 x1 = σ.2.1 84 x1 := rc_o (by decide) (rc_o (by decide) (rfl))
      refine tn_callV (M := m_X5_atom) (pc := 114) (ix := 93) (ci := 9) (M' := m_X9_next) (As := []) (rest := []) dX5_atom_114 ok_X9_next im_X9_next se_X9_next ml5_93 np_X9_next rfl rfl hk3o rfl (Nat.le_of_ble_eq_true rfl) (Nat.le_of_ble_eq_true rfl) rfl (k_X9_next_f (d + 5 * lv + 9) (T := T) (σ := (sA 51 a (σ.2.1 86 x1) (sA 50 a (1) σ))) (a := x1) hk3o ((hw.put (by decide) (by decide) (fo_50 (by omega))).put (by decide) (by decide) (fo_51 (by omega))) (RP.tk ((hrp.put (by decide)).put (by decide)) ((hw.put (by decide) (by decide) (fo_50 (by omega))).put (by decide) (by decide) (fo_51 (by omega))) ha (rc_o (by decide) (rc_o (by decide) (hx2)))) ((((hfx.pt (by decide) (by decide)).pt (by decide) (by decide))).1.tk (rc_o (by decide) (rc_o (by decide) (hx2)))) (by rw [(((hfx.pt (by decide) (by decide)).pt (by decide) (by decide))).1.kd (rc_o (by decide) (rc_o (by decide) (hx2)))]; omega)) (fun r54 T56 σ55 gt57 hp => ?_)
      obtain ⟨rfl, rfl, w64, F65, f59, f60, f61, f62⟩ := hp
      clear gt57
      have pc67 : EXR Sx (eo) [1] jx (eo) [] (jx + 1) 0 [] := fun _ _ => x1d hSb (by omega)
      have rd680 : EXR Sx (eo) [1] jx (eo) [1] jx (0) ([]) := EXR.nl
      have rd68 : EXR Sx (eo) [1] jx (eo) [] (jx + 1) (0 + 0) ([]) := EXR.g0 (l := [1]) (ms := []) [] rd680 pc67
      have fx66 : RDX σ55 a Sx nx (jx + 1) (cx) (Nx) := RDX.nx ((hfx.pt (by decide) (by decide)).pt (by decide) (by decide)) ((hw.put (by decide) (by decide) (fo_50 (by omega))).put (by decide) (by decide) (fo_51 (by omega))) ha (rc_o (by decide) (rc_o (by decide) (hx2))) F65 f62
      have rp69 : RP σ55 a (kp - 4) := RP.next4 ((hrp.put (by decide)).put (by decide)) (rc_o (by decide) (rc_o (by decide) (hx2))) F65 (by decide) (by decide) (by decide) f59 f61 (by rw [show (sA 51 a (σ.2.1 86 x1) (sA 50 a (1) σ)).2.1 85 x1 = σ.2.1 85 x1 from rc_o (by decide) (rc_o (by decide) (rfl))]; omega)
      show Tn _ _ 117 T σ55 [(0, .ref a), (1, .int (iI dp))] [] _
      refine tn_iconst dX5_atom_117 ?_
      have ra70 : XS σ55 a Sx nx (eo) [1] jx cx Nx (eo) [] ((jx : Int) + 1) := ⟨(jx + 1), [], 0 + 0, (by omega), rd68, RDX.nq (RDX.cq fx66 rfl) (by omega)⟩
      exact tn_zret (v := 1) rfl (by decide) dX5_atom_118 ⟨_, rfl, w64, (((FrC.rfl.put (by decide) (by decide)).put (by decide) (by decide)).trans (FrC.sub F65 (by decide))), by omega, ⟨fun _ => ra70, fun q => absurd q (by decide)⟩, (RP.up rp69 (by omega))⟩
  · refine tn_aload_n dX5_atom_12 rfl 0 rfl ?_
    refine tn_getR (ci := 5) (i := 0) (n := 33) (x := x1) dX5_atom_13 rfl lay_5 (by decide) fl5_12 ha rfl rfl (hx2) ?_
    refine tn_callV (M := m_X5_atom) (pc := 16) (ix := 93) (ci := 9) (M' := m_X9_next) (As := []) (rest := []) dX5_atom_16 ok_X9_next im_X9_next se_X9_next ml5_93 np_X9_next rfl rfl hk3o rfl (Nat.le_of_ble_eq_true rfl) (Nat.le_of_ble_eq_true rfl) rfl (k_X9_next_f (d + 5 * lv + 9) (T := T) (σ := σ) (a := x1) hk3o hw (RP.tk hrp hw ha (hx2)) ((hfx).1.tk (hx2)) (by rw [(hfx).1.kd (hx2)]; omega)) (fun r72 T74 σ73 gt75 hp => ?_)
    obtain ⟨rfl, rfl, w81, F82, f76, f77, f78, f79⟩ := hp
    clear gt75
    have pc84 : EXR Sx (eo) [1] jx (eo) [2, 141] (jx + 1) 0 [] := fun _ _ => x1p hSb (by omega)
    have rd850 : EXR Sx (eo) [1] jx (eo) [1] jx (0) ([]) := EXR.nl
    have rd85 : EXR Sx (eo) [1] jx (eo) [2, 141] (jx + 1) (0 + 0) ([]) := EXR.g0 (l := [1]) (ms := [2, 141]) [] rd850 pc84
    have fx83 : RDX σ73 a Sx nx (jx + 1) (cx) (Nx) := RDX.nx hfx hw ha (hx2) F82 f79
    have rp86 : RP σ73 a (kp - 4) := RP.next4 hrp (hx2) F82 (by decide) (by decide) (by decide) f76 f78 (by rw [show σ.2.1 85 x1 = σ.2.1 85 x1 from rfl]; omega)
    show Tn _ _ 19 T σ73 [(0, .ref a), (1, .int (iI dp))] [] _
    refine tn_aload_n dX5_atom_19 rfl 0 rfl ?_
    refine tn_iload_n dX5_atom_20 rfl 1 rfl ?_
    refine tn_iconst dX5_atom_21 ?_
    refine tn_iadd dX5_atom_22 ?_
    refine tn_callV (M := m_X5_atom) (pc := 23) (ix := 213) (ci := 5) (M' := m_X5_expression) (As := [.int (iI (dp + 1))]) (rest := []) dX5_atom_23 ok_X5_expression im_X5_expression se_X5_expression ml5_213 np_X5_expression rfl rfl ha rfl (Nat.le_of_ble_eq_true rfl) (Nat.le_of_ble_eq_true rfl) rfl (hex (d) (T := T) (σ := σ73) (a := a) (dp := dp + 1) (kp := kp - 4) (eo := eo) ha (by omega) w81 (by omega) (by omega) fx83 (by omega) (by omega) rp86) (fun r87 T89 σ88 gt90 hp => ?_)
    obtain ⟨v94, rfl, w95, F96, f91, f92, f93⟩ := hp
    replace ha : OB T89 a 5 := gt90.ob ha
    have rp98 : RP σ88 a (kp - 4 * v94 - 4) := RP.up f93 (by omega)
    show Tn _ _ 26 T89 σ88 [(0, .ref a), (1, .int (iI dp))] [.int (iI v94)] _
    refine tn_if_eq (tgt := 42) dX5_atom_26 (by decide) ⟨by omega, by omega⟩ (fun h99 => ?_) (fun h99 => ?_)
    · refine tn_iconst dX5_atom_42 ?_
      obtain ⟨pl102, g103, fx104⟩ := f92.2 (by omega)
      have rf105 : EXF Sx (eo) [1] jx (pl102) := EXR.fl (l := [2]) [141] rd85 g103
      have rb101 : XFc σ88 a Sx (eo) [1] jx := ⟨_, rf105, fx104⟩
      exact tn_zret (v := 0) rfl (by decide) dX5_atom_43 ⟨_, rfl, w95, ((FrC.rfl.trans (FrC.sub F82 (by decide))).trans (FrC.sub F96 (by decide))), by omega, ⟨fun q => absurd q (by decide), fun _ => rb101⟩, (RP.up rp98 (by omega))⟩
    · refine tn_aload_n dX5_atom_29 rfl 0 rfl ?_
      refine tn_bipush dX5_atom_30 (by decide) ?_
      obtain ⟨i106, es107, m108, lo109, rr110, fx111⟩ := f92.1 (by omega)
      have rd112a : EXR Sx (eo) [1] jx (eo) [141] i106 (0 + 0 + m108) ([] ++ es107) := EXR.gg (l := [2]) (ms := []) [141] rd85 rr110
      have rd112 : EXR Sx (eo) [1] jx (eo) [141] i106 (0 + 0 + m108) (es107) := rd112a
      refine tn_callV (M := m_X5_atom) (pc := 32) (ix := 102) (ci := 5) (M' := m_X5_taken) (As := [.int (iI 41)]) (rest := []) dX5_atom_32 ok_X5_taken im_X5_taken se_X5_taken ml5_102 np_X5_taken rfl rfl ha rfl (Nat.le_of_ble_eq_true rfl) (Nat.le_of_ble_eq_true rfl) rfl (k_X5_taken_f (d + 5 * lv + 8) (T := T89) (σ := σ88) (a := a) (s := 41) (kp := kp - 4 * v94 - 4) ha (by decide) w95 (by omega) fx111 (by omega) rp98) (fun r113 T115 σ114 gt116 hp => ?_)
      obtain ⟨v120, rfl, rfl, w121, F122, f117, f118, f119⟩ := hp
      clear gt116
      have rp124 : RP σ114 a (kp - 4 * v94 - 4 * v120 - 4) := RP.up f119 (by omega)
      show Tn _ _ 35 T89 σ114 [(0, .ref a), (1, .int (iI dp))] [.int (iI v120)] _
      refine tn_if_eq (tgt := 42) dX5_atom_35 (by decide) ⟨by omega, by omega⟩ (fun h125 => ?_) (fun h125 => ?_)
      · refine tn_iconst dX5_atom_42 ?_
        obtain ⟨kd128, fx129, tk130⟩ := f118.2 (by omega)
        have pc131 : EXF Sx (eo) [141] i106 (tkS Sx i106).1 := fun _ _ => z41 hSb kd128
        have rf132 : EXF Sx (eo) [1] jx ((tkS Sx i106).1) := EXR.fl (l := [141]) [] rd112 pc131
        have rb127 : XFc σ114 a Sx (eo) [1] jx := ⟨_, rf132, fx129⟩
        exact tn_zret (v := 0) rfl (by decide) dX5_atom_43 ⟨_, rfl, w121, (((FrC.rfl.trans (FrC.sub F82 (by decide))).trans (FrC.sub F96 (by decide))).trans (FrC.sub (FrC.old F122 gt90) (by decide))), by omega, ⟨fun q => absurd q (by decide), fun _ => rb127⟩, (RP.up rp124 (by omega))⟩
      · refine tn_iconst dX5_atom_38 ?_
        refine tn_goto (tgt := 43) dX5_atom_39 (by decide) ?_
        obtain ⟨kd136, fx135⟩ := f118.1 (by omega)
        have pc137 : EXR Sx (eo) [141] i106 (eo) [] (i106 + 1) 0 [] := fun _ _ => y41 hSb kd136
        have rd138 : EXR Sx (eo) [1] jx (eo) [] (i106 + 1) (0 + 0 + m108 + 0) (es107) := EXR.g0 (l := [141]) (ms := []) [] rd112 pc137
        have ra133 : XS σ114 a Sx nx (eo) [1] jx cx Nx (eo) [] ((jx : Int) + 1) := ⟨(i106 + 1), es107, 0 + 0 + m108 + 0, (by omega), rd138, RDX.nq (RDX.cq fx135 rfl) (by omega)⟩
        exact tn_zret (v := 1) rfl (by decide) dX5_atom_43 ⟨_, rfl, w121, (((FrC.rfl.trans (FrC.sub F82 (by decide))).trans (FrC.sub F96 (by decide))).trans (FrC.sub (FrC.old F122 gt90) (by decide))), by omega, ⟨fun _ => ra133, fun q => absurd q (by decide)⟩, (RP.up rp124 (by omega))⟩
