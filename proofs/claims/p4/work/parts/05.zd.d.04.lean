set_option maxHeartbeats 4000000 in
set_option maxRecDepth 20000 in
theorem l_X5_sum_f_12 (d : Nat) {T0 : CT} {σ0 : MS} {a : Nat} {c1 : Int} {Sx : Int → Int} {nx : Nat} {jx : Nat} {cx : CS} {Nx : Int} {eo : Int} {kp : Int} {lv : Nat} {post : Option Value → CT → MS → Prop} (r_c1 : 1 ≤ c1 ∧ c1 ≤ 8) (hw0 : WT T0 σ0) (hlv : 8 ≤ c1 + (lv : Int)) (heo : eo = c1) (hkp : kp ≤ 150) (hex : ∀ (d : Nat) {T : CT} {σ : MS} {a : Nat} {dp : Int} {kp : Int} {Sx : Int → Int} {nx jx : Nat} {cx : CS} {Nx : Int} {eo : Int} (ha : OB T a 5) (h_dp : -2147483648 ≤ dp ∧ dp ≤ 2147483647) (hw : WT T σ) (hdp : 1 ≤ dp ∧ dp ≤ 9) (hlv : 9 ≤ dp + (lv : Int)) (hfx : RDX σ a Sx nx jx cx Nx) (heo : eo = dp - 1) (hkp : kp ≤ 150) (hrp : RP σ a kp), Tn (d + 5 * lv + 10) m_X5_expression 0 T σ [(0, .ref a), (1, .int (iI dp))] [] (fun ro T2 σ2 => ∃ v : Int, ro = some (.int (iI v)) ∧ WT T2 σ2 ∧ FrC T [5, 6, 7, 43, 44, 47, 50, 51, 84, 85, 86, 87, 521] σ σ2 ∧ (v = 0 ∨ v = 1) ∧ (XQ σ2 a Sx nx (eo) [2] jx cx Nx v) ∧ (RP σ2 a (kp - 4 * v)))) (hx_88 : ∀ (T : CT) (i2 : Int) (σ : MS) , (GT T0 T) → (WT T σ) → (FrC T0 [5, 6, 7, 43, 44, 47, 50, 51, 84, 85, 86, 87, 521] σ0 σ) → (OB T a 5) → (0 ≤ i2 ∧ i2 ≤ 2147483647) → (True) → (RP σ a kp) → (XFc σ a Sx (eo) [3] jx) → Tn (d + 5 * lv + 14) m_X5_sum 88 T σ [(0, .ref a), (1, .int (iI c1)), (2, .int (iI i2))] [] post) (hx_105 : ∀ (T : CT) (i2 : Int) (σ : MS) , (GT T0 T) → (WT T σ) → (FrC T0 [5, 6, 7, 43, 44, 47, 50, 51, 84, 85, 86, 87, 521] σ0 σ) → (OB T a 5) → (0 ≤ i2 ∧ i2 ≤ 2147483647) → (True) → (RP σ a kp) → (XS σ a Sx nx (eo) [3] jx cx Nx (eo) [] ((jx : Int) + 1)) → Tn (d + 5 * lv + 14) m_X5_sum 105 T σ [(0, .ref a), (1, .int (iI c1)), (2, .int (iI i2))] [] post) : ∀ (n : Nat) (T : CT) (i2 : Int) (σ : MS) , (GT T0 T) → (WT T σ) → (FrC T0 [5, 6, 7, 43, 44, 47, 50, 51, 84, 85, 86, 87, 521] σ0 σ) → (OB T a 5) → (0 ≤ i2 ∧ i2 ≤ 2147483647) → (XS σ a Sx nx (eo) [3] jx cx Nx (eo) [8] ((jx : Int) + 1 + i2)) → (RP σ a kp) → (2147483700 - i2).toNat = n → Tn (d + 5 * lv + 14) m_X5_sum 12 T σ [(0, .ref a), (1, .int (iI c1)), (2, .int (iI i2))] [] post := by
  intro n
  induction n using Nat.strongRecOn with
  | _ n ih =>
    intro T i2 σ hG hw hF h_a r_i2 hx hrp hm
    obtain ⟨jy, ey, my, loy, rdy, hfy⟩ := hx
    have hSb := hfy.1.sb
    have hjn := RDX.jn hfy hw h_a
    refine tn_iload_n dX5_sum_12 rfl 2 rfl ?_
    refine tn_sipush dX5_sum_13 (by decide) ?_
    refine tn_icmp_ge (tgt := 105) dX5_sum_16 (by decide) ⟨by omega, by omega⟩ ⟨by decide, by decide⟩ (fun h1 => ?_) (fun h1 => ?_)
    · exact tn_sub [0, 1, 2] rfl (hx_105 T (i2) σ hG hw (FrC.rfl.trans (FrC.sub hF (by decide))) h_a (by omega) True.intro (RP.up hrp (by omega)) (False.elim (by omega)))
    · refine tn_aload_n dX5_sum_19 rfl 0 rfl ?_
      obtain ⟨x2, hx3, hk4⟩ : ∃ x : Nat, σ.2.1 33 a = (x : Int) ∧ (T x).1 = 39 := wf_33 hw h_a
      have hk4o : OB T x2 9 := ⟨by omega, by rw [hk4]; rfl, by omega⟩
      refine tn_getR (ci := 5) (i := 0) (n := 33) (x := x2) dX5_sum_20 rfl lay_5 (by decide) fl5_12 h_a rfl rfl (hx3) ?_
      refine tn_getI (ci := 9) (i := 4) (n := 85) (t := σ.2.1 85 x2) dX5_sum_23 rfl lay_9 (by decide) fl5_71 hk4o rfl rfl (rfl) ?_
      have g6 : ((-2147483648 : Int) ≤ σ.2.1 85 x2 ∧ σ.2.1 85 x2 ≤ 2147483647) := wf_85 hw hk4o
      have g6kd : σ.2.1 85 x2 = ckd (tkS Sx jy) := (rfl).symm.trans ((hfy).1.kd (hx3))
      refine tn_bipush dX5_sum_26 (by decide) ?_
      refine tn_icmp_eq (tgt := 43) dX5_sum_28 (by decide) ⟨by omega, by omega⟩ ⟨by decide, by decide⟩ (fun h7 => ?_) (fun h7 => ?_)
      · refine tn_aload_n dX5_sum_43 rfl 0 rfl ?_
        refine tn_getR (ci := 5) (i := 0) (n := 33) (x := x2) dX5_sum_44 rfl lay_5 (by decide) fl5_12 h_a rfl rfl (hx3) ?_
        refine tn_getI (ci := 9) (i := 4) (n := 85) (t := σ.2.1 85 x2) dX5_sum_47 rfl lay_9 (by decide) fl5_71 hk4o rfl rfl (rfl) ?_
        refine tn_bipush dX5_sum_50 (by decide) ?_
        refine tn_icmp_ne (tgt := 59) dX5_sum_52 (by decide) ⟨by omega, by omega⟩ ⟨by decide, by decide⟩ (fun h8 => absurd h8 (by omega)) (fun h8 => ?_)
        refine tn_iconst dX5_sum_55 ?_
        refine tn_goto (tgt := 60) dX5_sum_56 (by decide) ?_
        refine tn_istore_n (L' := [(3, .int (iI 1)), (0, .ref a), (1, .int (iI c1)), (2, .int (iI i2))]) dX5_sum_60 rfl (by decide) rfl ?_
        refine tn_aload_n dX5_sum_61 rfl 1 rfl ?_
        refine tn_getI (ci := 5) (i := 17) (n := 50) (t := σ.2.1 50 a) dX5_sum_62 rfl lay_5 (by decide) fl5_216 h_a rfl rfl (rfl) ?_
        have g9 : ((-2147483648 : Int) ≤ σ.2.1 50 a ∧ σ.2.1 50 a ≤ 2147483647) := wf_50 hw h_a
        refine tn_istore (L' := [(4, .int (iI (σ.2.1 50 a))), (3, .int (iI 1)), (0, .ref a), (1, .int (iI c1)), (2, .int (iI i2))]) dX5_sum_65 (by decide) rfl ?_
        refine tn_aload_n dX5_sum_67 rfl 2 rfl ?_
        refine tn_getI (ci := 5) (i := 18) (n := 51) (t := σ.2.1 51 a) dX5_sum_68 rfl lay_5 (by decide) fl5_219 h_a rfl rfl (rfl) ?_
        have g10 : ((-2147483648 : Int) ≤ σ.2.1 51 a ∧ σ.2.1 51 a ≤ 2147483647) := wf_51 hw h_a
        refine tn_istore (L' := [(5, .int (iI (σ.2.1 51 a))), (4, .int (iI (σ.2.1 50 a))), (3, .int (iI 1)), (0, .ref a), (1, .int (iI c1)), (2, .int (iI i2))]) dX5_sum_71 (by decide) rfl ?_
        refine tn_aload_n dX5_sum_73 rfl 3 rfl ?_
        refine tn_getR (ci := 5) (i := 0) (n := 33) (x := x2) dX5_sum_74 rfl lay_5 (by decide) fl5_12 h_a rfl rfl (hx3) ?_
        refine tn_callV (M := m_X5_sum) (pc := 77) (ix := 93) (ci := 9) (M' := m_X9_next) (As := []) (rest := []) dX5_sum_77 ok_X9_next im_X9_next se_X9_next ml5_93 np_X9_next rfl rfl hk4o rfl (Nat.le_of_ble_eq_true rfl) (Nat.le_of_ble_eq_true rfl) rfl (k_X9_next_f (d + 5 * lv + 12) (T := T) (σ := σ) (a := x2) hk4o hw (RP.tk hrp hw h_a (hx3)) ((hfy).1.tk (hx3)) (by rw [(hfy).1.kd (hx3)]; omega)) (fun r11 T13 σ12 gt14 hp => ?_)
        obtain ⟨rfl, rfl, w20, F21, f15, f16, f17, f18⟩ := hp
        clear gt14
        have pc23 : EXR Sx (eo) [8] jy (eo) [4, 51, 8] (jy + 1) 0 [] := fun _ _ => x8p hSb (by omega)
        have rd24 : EXR Sx (eo) [3] jx (eo) [4, 51, 8] (jy + 1) (my + 0) (ey) := EXR.g0 (l := [8]) (ms := [4, 51, 8]) [] rdy pc23
        have fx22 : RDX σ12 a Sx nx (jy + 1) (ey.foldl uC cx) (Nx + my) := RDX.nx hfy hw h_a (hx3) F21 f18
        have rp25 : RP σ12 a (kp - 4) := RP.next4 hrp (hx3) F21 (by decide) (by decide) (by decide) f15 f17 (by rw [show σ.2.1 85 x2 = σ.2.1 85 x2 from rfl]; omega)
        show Tn _ _ 80 T σ12 [(5, .int (iI (σ.2.1 51 a))), (4, .int (iI (σ.2.1 50 a))), (3, .int (iI 1)), (0, .ref a), (1, .int (iI c1)), (2, .int (iI i2))] [] _
        refine tn_aload_n dX5_sum_80 rfl 3 rfl ?_
        refine tn_iload_n dX5_sum_81 rfl 4 rfl ?_
        refine tn_callV (M := m_X5_sum) (pc := 82) (ix := 247) (ci := 5) (M' := m_X5_term) (As := [.int (iI c1)]) (rest := []) dX5_sum_82 ok_X5_term im_X5_term se_X5_term ml5_247 np_X5_term rfl rfl h_a rfl (Nat.le_of_ble_eq_true rfl) (Nat.le_of_ble_eq_true rfl) rfl (k_X5_term_f (d) (T := T) (σ := σ12) (a := a) (dp := c1) (kp := kp - 4) (lv := lv) (eo := eo) h_a (by omega) w20 hex (by omega) (by omega) fx22 (by omega) (by omega) rp25) (fun r26 T28 σ27 gt29 hp => ?_)
        obtain ⟨v33, rfl, w34, F35, f30, f31, f32⟩ := hp
        replace h_a : OB T28 a 5 := gt29.ob h_a
        have rp37 : RP σ27 a (kp - 4 * v33 - 4) := RP.up f32 (by omega)
        show Tn _ _ 85 T28 σ27 [(5, .int (iI (σ.2.1 51 a))), (4, .int (iI (σ.2.1 50 a))), (3, .int (iI 1)), (0, .ref a), (1, .int (iI c1)), (2, .int (iI i2))] [.int (iI v33)] _
        refine tn_if_ne (tgt := 90) dX5_sum_85 (by decide) ⟨by omega, by omega⟩ (fun h38 => ?_) (fun h38 => ?_)
        · refine tn_aload_n dX5_sum_90 rfl 3 rfl ?_
          refine tn_iload_n dX5_sum_91 rfl 2 rfl ?_
          refine tn_iload dX5_sum_92 1 rfl ?_
          refine tn_iload dX5_sum_94 0 rfl ?_
          obtain ⟨i39, es40, m41, lo42, rr43, fx44⟩ := f31.1 (by omega)
          have rd45 : EXR Sx (eo) [3] jx (eo) [51, 8] i39 (my + 0 + m41) (ey ++ es40) := EXR.gg (l := [4]) (ms := []) [51, 8] rd24 rr43
          refine tn_callV (M := m_X5_sum) (pc := 96) (ix := 244) (ci := 5) (M' := m_X5_join) (As := [.int (iI 1), .int (iI (σ.2.1 50 a)), .int (iI (σ.2.1 51 a))]) (rest := []) dX5_sum_96 ok_X5_join im_X5_join se_X5_join ml5_244 np_X5_join rfl rfl h_a rfl (Nat.le_of_ble_eq_true rfl) (Nat.le_of_ble_eq_true rfl) rfl (k_X5_join_f (d + 5 * lv + 9) (T := T28) (σ := σ27) (a := a) (k := 1) (e := σ.2.1 50 a) (l := σ.2.1 51 a) (kp := kp - 4 * v33 - 4) h_a (by decide) (by omega) (by omega) w34 (by omega) fx44 (by omega) rp37) (fun r46 T48 σ47 gt49 hp => ?_)
          obtain ⟨rfl, w53, F54, f50, f51⟩ := hp
          replace h_a : OB T48 a 5 := gt49.ob h_a
          have rp56 : RP σ47 a (kp - 4 * v33 - 3) := RP.up f51 (by omega)
          show Tn _ _ 99 T48 σ47 [(5, .int (iI (σ.2.1 51 a))), (4, .int (iI (σ.2.1 50 a))), (3, .int (iI 1)), (0, .ref a), (1, .int (iI c1)), (2, .int (iI i2))] [] _
          refine tn_iinc (q0 := 5) (L' := [(2, .int (iI (i2 + 1))), (5, .int (iI (σ.2.1 51 a))), (4, .int (iI (σ.2.1 50 a))), (3, .int (iI 1)), (0, .ref a), (1, .int (iI c1))]) dX5_sum_99 rfl (by decide) rfl ?_
          refine tn_goto (tgt := 12) dX5_sum_102 (by decide) ?_
          have pc57 : EXR Sx (eo) [51] i39 (eo) [] i39 1 [] := fun _ _ => x51 hSb 
          have rd58 : EXR Sx (eo) [3] jx (eo) [8] i39 (my + 0 + m41 + 1) (ey ++ es40) := EXR.g0 (l := [51]) (ms := []) [8] rd45 pc57
          have hx59 : XS σ47 a Sx nx (eo) [3] jx cx Nx (eo) [8] ((jx : Int) + 1 + (i2 + 1)) := ⟨i39, ey ++ es40, my + 0 + m41 + 1, (by omega), rd58, RDX.nq (RDX.cq f50 (by simp only [List.foldl_append, List.foldl_cons, List.foldl_nil])) (by omega)⟩
          exact tn_sub [4, 5, 0] rfl (ih _ (by omega) T48 (i2 + 1) σ47 (GT.trans (GT.trans hG gt29) gt49) w53 ((((FrC.rfl.trans (FrC.sub hF (by decide))).trans (FrC.sub (FrC.old F21 hG) (by decide))).trans (FrC.sub (FrC.old F35 hG) (by decide))).trans (FrC.sub (FrC.old F54 (GT.trans hG gt29)) (by decide))) h_a (by omega) hx59 (RP.up rp56 (by omega)) rfl)
        · obtain ⟨pl60, g61, fx62⟩ := f31.2 (by omega)
          have rf63 : EXF Sx (eo) [3] jx (pl60) := EXR.fl (l := [4]) [51, 8] rd24 g61
          exact tn_sub [3, 4, 5] rfl (hx_88 T28 (i2) σ27 (GT.trans hG gt29) w34 (((FrC.rfl.trans (FrC.sub hF (by decide))).trans (FrC.sub (FrC.old F21 hG) (by decide))).trans (FrC.sub (FrC.old F35 hG) (by decide))) h_a (by omega) True.intro (RP.up rp37 (by omega)) ⟨_, rf63, fx62⟩)
      · refine tn_aload_n dX5_sum_31 rfl 0 rfl ?_
        refine tn_getR (ci := 5) (i := 0) (n := 33) (x := x2) dX5_sum_32 rfl lay_5 (by decide) fl5_12 h_a rfl rfl (hx3) ?_
        refine tn_getI (ci := 9) (i := 4) (n := 85) (t := σ.2.1 85 x2) dX5_sum_35 rfl lay_9 (by decide) fl5_71 hk4o rfl rfl (rfl) ?_
        refine tn_bipush dX5_sum_38 (by decide) ?_
        refine tn_icmp_ne (tgt := 105) dX5_sum_40 (by decide) ⟨by omega, by omega⟩ ⟨by decide, by decide⟩ (fun h64 => ?_) (fun h64 => ?_)
        · have pc65 : EXR Sx (eo) [8] jy (eo) [] jy 0 [] := fun _ _ => x8n hSb (by omega) (by omega)
          have rd66 : EXR Sx (eo) [3] jx (eo) [] jy (my + 0) (ey) := EXR.g0 (l := [8]) (ms := []) [] rdy pc65
          have hx67 : XS σ a Sx nx (eo) [3] jx cx Nx (eo) [] ((jx : Int) + 1) := ⟨jy, ey, my + 0, (by omega), rd66, RDX.nq (RDX.cq hfy rfl) (by omega)⟩
          exact tn_sub [0, 1, 2] rfl (hx_105 T (i2) σ hG hw (FrC.rfl.trans (FrC.sub hF (by decide))) h_a (by omega) True.intro (RP.up hrp (by omega)) hx67)
        · refine tn_aload_n dX5_sum_43 rfl 0 rfl ?_
          refine tn_getR (ci := 5) (i := 0) (n := 33) (x := x2) dX5_sum_44 rfl lay_5 (by decide) fl5_12 h_a rfl rfl (hx3) ?_
          refine tn_getI (ci := 9) (i := 4) (n := 85) (t := σ.2.1 85 x2) dX5_sum_47 rfl lay_9 (by decide) fl5_71 hk4o rfl rfl (rfl) ?_
          refine tn_bipush dX5_sum_50 (by decide) ?_
          refine tn_icmp_ne (tgt := 59) dX5_sum_52 (by decide) ⟨by omega, by omega⟩ ⟨by decide, by decide⟩ (fun h68 => ?_) (fun h68 => absurd h68 (by omega))
          refine tn_iconst dX5_sum_59 ?_
          refine tn_istore_n (L' := [(3, .int (iI 2)), (0, .ref a), (1, .int (iI c1)), (2, .int (iI i2))]) dX5_sum_60 rfl (by decide) rfl ?_
          refine tn_aload_n dX5_sum_61 rfl 1 rfl ?_
          refine tn_getI (ci := 5) (i := 17) (n := 50) (t := σ.2.1 50 a) dX5_sum_62 rfl lay_5 (by decide) fl5_216 h_a rfl rfl (rfl) ?_
          have g69 : ((-2147483648 : Int) ≤ σ.2.1 50 a ∧ σ.2.1 50 a ≤ 2147483647) := wf_50 hw h_a
          refine tn_istore (L' := [(4, .int (iI (σ.2.1 50 a))), (3, .int (iI 2)), (0, .ref a), (1, .int (iI c1)), (2, .int (iI i2))]) dX5_sum_65 (by decide) rfl ?_
          refine tn_aload_n dX5_sum_67 rfl 2 rfl ?_
          refine tn_getI (ci := 5) (i := 18) (n := 51) (t := σ.2.1 51 a) dX5_sum_68 rfl lay_5 (by decide) fl5_219 h_a rfl rfl (rfl) ?_
          have g70 : ((-2147483648 : Int) ≤ σ.2.1 51 a ∧ σ.2.1 51 a ≤ 2147483647) := wf_51 hw h_a
          refine tn_istore (L' := [(5, .int (iI (σ.2.1 51 a))), (4, .int (iI (σ.2.1 50 a))), (3, .int (iI 2)), (0, .ref a), (1, .int (iI c1)), (2, .int (iI i2))]) dX5_sum_71 (by decide) rfl ?_
          refine tn_aload_n dX5_sum_73 rfl 3 rfl ?_
          refine tn_getR (ci := 5) (i := 0) (n := 33) (x := x2) dX5_sum_74 rfl lay_5 (by decide) fl5_12 h_a rfl rfl (hx3) ?_
          refine tn_callV (M := m_X5_sum) (pc := 77) (ix := 93) (ci := 9) (M' := m_X9_next) (As := []) (rest := []) dX5_sum_77 ok_X9_next im_X9_next se_X9_next ml5_93 np_X9_next rfl rfl hk4o rfl (Nat.le_of_ble_eq_true rfl) (Nat.le_of_ble_eq_true rfl) rfl (k_X9_next_f (d + 5 * lv + 12) (T := T) (σ := σ) (a := x2) hk4o hw (RP.tk hrp hw h_a (hx3)) ((hfy).1.tk (hx3)) (by rw [(hfy).1.kd (hx3)]; omega)) (fun r71 T73 σ72 gt74 hp => ?_)
          obtain ⟨rfl, rfl, w80, F81, f75, f76, f77, f78⟩ := hp
          clear gt74
          have pc83 : EXR Sx (eo) [8] jy (eo) [4, 51, 8] (jy + 1) 0 [] := fun _ _ => x8m hSb (by omega)
          have rd84 : EXR Sx (eo) [3] jx (eo) [4, 51, 8] (jy + 1) (my + 0) (ey) := EXR.g0 (l := [8]) (ms := [4, 51, 8]) [] rdy pc83
          have fx82 : RDX σ72 a Sx nx (jy + 1) (ey.foldl uC cx) (Nx + my) := RDX.nx hfy hw h_a (hx3) F81 f78
          have rp85 : RP σ72 a (kp - 4) := RP.next4 hrp (hx3) F81 (by decide) (by decide) (by decide) f75 f77 (by rw [show σ.2.1 85 x2 = σ.2.1 85 x2 from rfl]; omega)
          show Tn _ _ 80 T σ72 [(5, .int (iI (σ.2.1 51 a))), (4, .int (iI (σ.2.1 50 a))), (3, .int (iI 2)), (0, .ref a), (1, .int (iI c1)), (2, .int (iI i2))] [] _
          refine tn_aload_n dX5_sum_80 rfl 3 rfl ?_
          refine tn_iload_n dX5_sum_81 rfl 4 rfl ?_
          refine tn_callV (M := m_X5_sum) (pc := 82) (ix := 247) (ci := 5) (M' := m_X5_term) (As := [.int (iI c1)]) (rest := []) dX5_sum_82 ok_X5_term im_X5_term se_X5_term ml5_247 np_X5_term rfl rfl h_a rfl (Nat.le_of_ble_eq_true rfl) (Nat.le_of_ble_eq_true rfl) rfl (k_X5_term_f (d) (T := T) (σ := σ72) (a := a) (dp := c1) (kp := kp - 4) (lv := lv) (eo := eo) h_a (by omega) w80 hex (by omega) (by omega) fx82 (by omega) (by omega) rp85) (fun r86 T88 σ87 gt89 hp => ?_)
          obtain ⟨v93, rfl, w94, F95, f90, f91, f92⟩ := hp
          replace h_a : OB T88 a 5 := gt89.ob h_a
          have rp97 : RP σ87 a (kp - 4 * v93 - 4) := RP.up f92 (by omega)
          show Tn _ _ 85 T88 σ87 [(5, .int (iI (σ.2.1 51 a))), (4, .int (iI (σ.2.1 50 a))), (3, .int (iI 2)), (0, .ref a), (1, .int (iI c1)), (2, .int (iI i2))] [.int (iI v93)] _
          refine tn_if_ne (tgt := 90) dX5_sum_85 (by decide) ⟨by omega, by omega⟩ (fun h98 => ?_) (fun h98 => ?_)
          · refine tn_aload_n dX5_sum_90 rfl 3 rfl ?_
            refine tn_iload_n dX5_sum_91 rfl 2 rfl ?_
            refine tn_iload dX5_sum_92 1 rfl ?_
            refine tn_iload dX5_sum_94 0 rfl ?_
            obtain ⟨i99, es100, m101, lo102, rr103, fx104⟩ := f91.1 (by omega)
            have rd105 : EXR Sx (eo) [3] jx (eo) [51, 8] i99 (my + 0 + m101) (ey ++ es100) := EXR.gg (l := [4]) (ms := []) [51, 8] rd84 rr103
            refine tn_callV (M := m_X5_sum) (pc := 96) (ix := 244) (ci := 5) (M' := m_X5_join) (As := [.int (iI 2), .int (iI (σ.2.1 50 a)), .int (iI (σ.2.1 51 a))]) (rest := []) dX5_sum_96 ok_X5_join im_X5_join se_X5_join ml5_244 np_X5_join rfl rfl h_a rfl (Nat.le_of_ble_eq_true rfl) (Nat.le_of_ble_eq_true rfl) rfl (k_X5_join_f (d + 5 * lv + 9) (T := T88) (σ := σ87) (a := a) (k := 2) (e := σ.2.1 50 a) (l := σ.2.1 51 a) (kp := kp - 4 * v93 - 4) h_a (by decide) (by omega) (by omega) w94 (by omega) fx104 (by omega) rp97) (fun r106 T108 σ107 gt109 hp => ?_)
            obtain ⟨rfl, w113, F114, f110, f111⟩ := hp
            replace h_a : OB T108 a 5 := gt109.ob h_a
            have rp116 : RP σ107 a (kp - 4 * v93 - 3) := RP.up f111 (by omega)
            show Tn _ _ 99 T108 σ107 [(5, .int (iI (σ.2.1 51 a))), (4, .int (iI (σ.2.1 50 a))), (3, .int (iI 2)), (0, .ref a), (1, .int (iI c1)), (2, .int (iI i2))] [] _
            refine tn_iinc (q0 := 5) (L' := [(2, .int (iI (i2 + 1))), (5, .int (iI (σ.2.1 51 a))), (4, .int (iI (σ.2.1 50 a))), (3, .int (iI 2)), (0, .ref a), (1, .int (iI c1))]) dX5_sum_99 rfl (by decide) rfl ?_
            refine tn_goto (tgt := 12) dX5_sum_102 (by decide) ?_
            have pc117 : EXR Sx (eo) [51] i99 (eo) [] i99 1 [] := fun _ _ => x51 hSb 
            have rd118 : EXR Sx (eo) [3] jx (eo) [8] i99 (my + 0 + m101 + 1) (ey ++ es100) := EXR.g0 (l := [51]) (ms := []) [8] rd105 pc117
            have hx119 : XS σ107 a Sx nx (eo) [3] jx cx Nx (eo) [8] ((jx : Int) + 1 + (i2 + 1)) := ⟨i99, ey ++ es100, my + 0 + m101 + 1, (by omega), rd118, RDX.nq (RDX.cq f110 (by simp only [List.foldl_append, List.foldl_cons, List.foldl_nil])) (by omega)⟩
            exact tn_sub [4, 5, 0] rfl (ih _ (by omega) T108 (i2 + 1) σ107 (GT.trans (GT.trans hG gt89) gt109) w113 ((((FrC.rfl.trans (FrC.sub hF (by decide))).trans (FrC.sub (FrC.old F81 hG) (by decide))).trans (FrC.sub (FrC.old F95 hG) (by decide))).trans (FrC.sub (FrC.old F114 (GT.trans hG gt89)) (by decide))) h_a (by omega) hx119 (RP.up rp116 (by omega)) rfl)
          · obtain ⟨pl120, g121, fx122⟩ := f91.2 (by omega)
            have rf123 : EXF Sx (eo) [3] jx (pl120) := EXR.fl (l := [4]) [51, 8] rd84 g121
            exact tn_sub [3, 4, 5] rfl (hx_88 T88 (i2) σ87 (GT.trans hG gt89) w94 (((FrC.rfl.trans (FrC.sub hF (by decide))).trans (FrC.sub (FrC.old F81 hG) (by decide))).trans (FrC.sub (FrC.old F95 hG) (by decide))) h_a (by omega) True.intro (RP.up rp97 (by omega)) ⟨_, rf123, fx122⟩)
set_option maxHeartbeats 4000000 in
set_option maxRecDepth 20000 in
theorem k_X5_sum_f (d : Nat) {T : CT} {σ : MS} {a : Nat} {dp : Int} {kp : Int} {lv : Nat} {Sx : Int → Int} {nx jx : Nat} {cx : CS} {Nx : Int} {eo : Int} (ha : OB T a 5) (h_dp : -2147483648 ≤ dp ∧ dp ≤ 2147483647) (hw : WT T σ) (hex : ∀ (d : Nat) {T : CT} {σ : MS} {a : Nat} {dp : Int} {kp : Int} {Sx : Int → Int} {nx jx : Nat} {cx : CS} {Nx : Int} {eo : Int} (ha : OB T a 5) (h_dp : -2147483648 ≤ dp ∧ dp ≤ 2147483647) (hw : WT T σ) (hdp : 1 ≤ dp ∧ dp ≤ 9) (hlv : 9 ≤ dp + (lv : Int)) (hfx : RDX σ a Sx nx jx cx Nx) (heo : eo = dp - 1) (hkp : kp ≤ 150) (hrp : RP σ a kp), Tn (d + 5 * lv + 10) m_X5_expression 0 T σ [(0, .ref a), (1, .int (iI dp))] [] (fun ro T2 σ2 => ∃ v : Int, ro = some (.int (iI v)) ∧ WT T2 σ2 ∧ FrC T [5, 6, 7, 43, 44, 47, 50, 51, 84, 85, 86, 87, 521] σ σ2 ∧ (v = 0 ∨ v = 1) ∧ (XQ σ2 a Sx nx (eo) [2] jx cx Nx v) ∧ (RP σ2 a (kp - 4 * v)))) (hdp : 1 ≤ dp ∧ dp ≤ 8) (hlv : 8 ≤ dp + (lv : Int)) (hfx : RDX σ a Sx nx jx cx Nx) (heo : eo = dp) (hkp : kp ≤ 150) (hrp : RP σ a kp) : Tn (d + 5 * lv + 14) m_X5_sum 0 T σ [(0, .ref a), (1, .int (iI dp))] [] (fun ro T2 σ2 => ∃ v : Int, ro = some (.int (iI v)) ∧ WT T2 σ2 ∧ FrC T [5, 6, 7, 43, 44, 47, 50, 51, 84, 85, 86, 87, 521] σ σ2 ∧ (v = 0 ∨ v = 1) ∧ (XQ σ2 a Sx nx (eo) [3] jx cx Nx v) ∧ (RP σ2 a (kp - 4 * v))) := by
  have hSb := hfx.1.sb
  refine tn_aload_n dX5_sum_0 rfl 0 rfl ?_
  refine tn_iload_n dX5_sum_1 rfl 1 rfl ?_
  have pc1 : EXR Sx (eo) [3] jx (eo) [4, 8] jx 0 [] := fun _ _ => x3 hSb 
  have rd20 : EXR Sx (eo) [3] jx (eo) [3] jx (0) ([]) := EXR.nl
  have rd2 : EXR Sx (eo) [3] jx (eo) [4, 8] jx (0 + 0) ([]) := EXR.g0 (l := [3]) (ms := [4, 8]) [] rd20 pc1
  refine tn_callV (M := m_X5_sum) (pc := 2) (ix := 247) (ci := 5) (M' := m_X5_term) (As := [.int (iI dp)]) (rest := []) dX5_sum_2 ok_X5_term im_X5_term se_X5_term ml5_247 np_X5_term rfl rfl ha rfl (Nat.le_of_ble_eq_true rfl) (Nat.le_of_ble_eq_true rfl) rfl (k_X5_term_f (d) (T := T) (σ := σ) (a := a) (dp := dp) (kp := kp) (lv := lv) (eo := eo) ha (by omega) hw hex (by omega) (by omega) hfx (by omega) (by omega) hrp) (fun r3 T5 σ4 gt6 hp => ?_)
  obtain ⟨v10, rfl, w11, F12, f7, f8, f9⟩ := hp
  replace ha : OB T5 a 5 := gt6.ob ha
  show Tn _ _ 5 T5 σ4 [(0, .ref a), (1, .int (iI dp))] [.int (iI v10)] _
  refine tn_if_ne (tgt := 10) dX5_sum_5 (by decide) ⟨by omega, by omega⟩ (fun h14 => ?_) (fun h14 => ?_)
  · refine tn_iconst dX5_sum_10 ?_
    refine tn_istore_n (L' := [(2, .int (iI 0)), (0, .ref a), (1, .int (iI dp))]) dX5_sum_11 rfl (by decide) rfl ?_
    obtain ⟨i15, es16, m17, lo18, rr19, fx20⟩ := f8.1 (by omega)
    have rd21a : EXR Sx (eo) [3] jx (eo) [8] i15 (0 + 0 + m17) ([] ++ es16) := EXR.gg (l := [4]) (ms := []) [8] rd2 rr19
    have rd21 : EXR Sx (eo) [3] jx (eo) [8] i15 (0 + 0 + m17) (es16) := rd21a
    have hx22 : XS σ4 a Sx nx (eo) [3] jx cx Nx (eo) [8] ((jx : Int) + 1 + (0)) := ⟨i15, es16, 0 + 0 + m17, (by omega), rd21, RDX.nq (RDX.cq fx20 rfl) (by omega)⟩
    refine tn_sub [1, 2, 0] rfl (l_X5_sum_f_12 (d) (σ0 := σ4) (T0 := T5) (a := a) (c1 := dp) (kp := kp - 4 * v10) (lv := lv) (Sx := Sx) (nx := nx) (jx := jx) (cx := cx) (Nx := Nx) (eo := eo) (by omega) w11 (by omega) heo (by omega) hex (fun T25 i223 σ24 gt26 w27 F28 q29 r30 f31 f32 f33 => ?_) (fun T36 i234 σ35 gt37 w38 F39 q40 r41 f42 f43 f44 => ?_) _ T5 (0) σ4 GT.rfl w11 FrC.rfl ha (by omega) hx22 f9 rfl)
    · show Tn _ _ 88 T25 σ24 [(0, .ref a), (1, .int (iI dp)), (2, .int (iI i223))] [] _
      refine tn_iconst dX5_sum_88 ?_
      exact tn_zret (v := 0) rfl (by decide) dX5_sum_89 ⟨_, rfl, w27, ((FrC.rfl.trans (FrC.sub F12 (by decide))).trans (FrC.sub (FrC.old F28 gt6) (by decide))), by omega, ⟨fun q => absurd q (by decide), fun _ => f33⟩, (RP.up f32 (by omega))⟩
    · show Tn _ _ 105 T36 σ35 [(0, .ref a), (1, .int (iI dp)), (2, .int (iI i234))] [] _
      refine tn_iconst dX5_sum_105 ?_
      exact tn_zret (v := 1) rfl (by decide) dX5_sum_106 ⟨_, rfl, w38, ((FrC.rfl.trans (FrC.sub F12 (by decide))).trans (FrC.sub (FrC.old F39 gt6) (by decide))), by omega, ⟨fun _ => f44, fun q => absurd q (by decide)⟩, (RP.up f43 (by omega))⟩
  · refine tn_iconst dX5_sum_8 ?_
    obtain ⟨pl47, g48, fx49⟩ := f8.2 (by omega)
    have rf50 : EXF Sx (eo) [3] jx (pl47) := EXR.fl (l := [4]) [8] rd2 g48
    have rb46 : XFc σ4 a Sx (eo) [3] jx := ⟨_, rf50, fx49⟩
    exact tn_zret (v := 0) rfl (by decide) dX5_sum_9 ⟨_, rfl, w11, (FrC.rfl.trans (FrC.sub F12 (by decide))), by omega, ⟨fun q => absurd q (by decide), fun _ => rb46⟩, (RP.up f9 (by omega))⟩
