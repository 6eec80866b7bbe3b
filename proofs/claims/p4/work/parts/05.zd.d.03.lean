set_option maxHeartbeats 4000000 in
set_option maxRecDepth 20000 in
theorem l_X5_term_f_12 (d : Nat) {T0 : CT} {σ0 : MS} {a : Nat} {c1 : Int} {Sx : Int → Int} {nx : Nat} {jx : Nat} {cx : CS} {Nx : Int} {eo : Int} {kp : Int} {lv : Nat} {post : Option Value → CT → MS → Prop} (r_c1 : 1 ≤ c1 ∧ c1 ≤ 8) (hw0 : WT T0 σ0) (hlv : 8 ≤ c1 + (lv : Int)) (heo : eo = c1) (hkp : kp ≤ 150) (hex : ∀ (d : Nat) {T : CT} {σ : MS} {a : Nat} {dp : Int} {kp : Int} {Sx : Int → Int} {nx jx : Nat} {cx : CS} {Nx : Int} {eo : Int} (ha : OB T a 5) (h_dp : -2147483648 ≤ dp ∧ dp ≤ 2147483647) (hw : WT T σ) (hdp : 1 ≤ dp ∧ dp ≤ 9) (hlv : 9 ≤ dp + (lv : Int)) (hfx : RDX σ a Sx nx jx cx Nx) (heo : eo = dp - 1) (hkp : kp ≤ 150) (hrp : RP σ a kp), Tn (d + 5 * lv + 10) m_X5_expression 0 T σ [(0, .ref a), (1, .int (iI dp))] [] (fun ro T2 σ2 => ∃ v : Int, ro = some (.int (iI v)) ∧ WT T2 σ2 ∧ FrC T [5, 6, 7, 43, 44, 47, 50, 51, 84, 85, 86, 87, 521] σ σ2 ∧ (v = 0 ∨ v = 1) ∧ (XQ σ2 a Sx nx (eo) [2] jx cx Nx v) ∧ (RP σ2 a (kp - 4 * v)))) (hx_57 : ∀ (T : CT) (i2 : Int) (σ : MS) , (GT T0 T) → (WT T σ) → (FrC T0 [5, 6, 7, 43, 44, 47, 50, 51, 84, 85, 86, 87, 521] σ0 σ) → (OB T a 5) → (0 ≤ i2 ∧ i2 ≤ 2147483647) → (True) → (RP σ a kp) → (XFc σ a Sx (eo) [4] jx) → Tn (d + 5 * lv + 13) m_X5_term 57 T σ [(0, .ref a), (1, .int (iI c1)), (2, .int (iI i2))] [] post) (hx_73 : ∀ (T : CT) (i2 : Int) (σ : MS) , (GT T0 T) → (WT T σ) → (FrC T0 [5, 6, 7, 43, 44, 47, 50, 51, 84, 85, 86, 87, 521] σ0 σ) → (OB T a 5) → (0 ≤ i2 ∧ i2 ≤ 2147483647) → (True) → (RP σ a kp) → (XS σ a Sx nx (eo) [4] jx cx Nx (eo) [] ((jx : Int) + 1)) → Tn (d + 5 * lv + 13) m_X5_term 73 T σ [(0, .ref a), (1, .int (iI c1)), (2, .int (iI i2))] [] post) : ∀ (n : Nat) (T : CT) (i2 : Int) (σ : MS) , (GT T0 T) → (WT T σ) → (FrC T0 [5, 6, 7, 43, 44, 47, 50, 51, 84, 85, 86, 87, 521] σ0 σ) → (OB T a 5) → (0 ≤ i2 ∧ i2 ≤ 2147483647) → (XS σ a Sx nx (eo) [4] jx cx Nx (eo) [9] ((jx : Int) + 1 + i2)) → (RP σ a kp) → (2147483700 - i2).toNat = n → Tn (d + 5 * lv + 13) m_X5_term 12 T σ [(0, .ref a), (1, .int (iI c1)), (2, .int (iI i2))] [] post := by
  intro n
  induction n using Nat.strongRecOn with
  | _ n ih =>
    intro T i2 σ hG hw hF h_a r_i2 hx hrp hm
    obtain ⟨jy, ey, my, loy, rdy, hfy⟩ := hx
    have hSb := hfy.1.sb
    have hjn := RDX.jn hfy hw h_a
    refine tn_iload_n dX5_term_12 rfl 2 rfl ?_
    refine tn_sipush dX5_term_13 (by decide) ?_
    refine tn_icmp_ge (tgt := 73) dX5_term_16 (by decide) ⟨by omega, by omega⟩ ⟨by decide, by decide⟩ (fun h1 => ?_) (fun h1 => ?_)
    · exact tn_sub [0, 1, 2] rfl (hx_73 T (i2) σ hG hw (FrC.rfl.trans (FrC.sub hF (by decide))) h_a (by omega) True.intro (RP.up hrp (by omega)) (False.elim (by omega)))
    · refine tn_aload_n dX5_term_19 rfl 0 rfl ?_
      obtain ⟨x2, hx3, hk4⟩ : ∃ x : Nat, σ.2.1 33 a = (x : Int) ∧ (T x).1 = 39 := wf_33 hw h_a
      have hk4o : OB T x2 9 := ⟨by omega, by rw [hk4]; rfl, by omega⟩
      refine tn_getR (ci := 5) (i := 0) (n := 33) (x := x2) dX5_term_20 rfl lay_5 (by decide) fl5_12 h_a rfl rfl (hx3) ?_
      refine tn_getI (ci := 9) (i := 4) (n := 85) (t := σ.2.1 85 x2) dX5_term_23 rfl lay_9 (by decide) fl5_71 hk4o rfl rfl (rfl) ?_
      have g6 : ((-2147483648 : Int) ≤ σ.2.1 85 x2 ∧ σ.2.1 85 x2 ≤ 2147483647) := wf_85 hw hk4o
      have g6kd : σ.2.1 85 x2 = ckd (tkS Sx jy) := (rfl).symm.trans ((hfy).1.kd (hx3))
      refine tn_bipush dX5_term_26 (by decide) ?_
      refine tn_icmp_ne (tgt := 73) dX5_term_28 (by decide) ⟨by omega, by omega⟩ ⟨by decide, by decide⟩ (fun h7 => ?_) (fun h7 => ?_)
      · have pc8 : EXR Sx (eo) [9] jy (eo) [] jy 0 [] := fun _ _ => x9n hSb (by omega)
        have rd9 : EXR Sx (eo) [4] jx (eo) [] jy (my + 0) (ey) := EXR.g0 (l := [9]) (ms := []) [] rdy pc8
        have hx10 : XS σ a Sx nx (eo) [4] jx cx Nx (eo) [] ((jx : Int) + 1) := ⟨jy, ey, my + 0, (by omega), rd9, RDX.nq (RDX.cq hfy rfl) (by omega)⟩
        exact tn_sub [0, 1, 2] rfl (hx_73 T (i2) σ hG hw (FrC.rfl.trans (FrC.sub hF (by decide))) h_a (by omega) True.intro (RP.up hrp (by omega)) hx10)
      · refine tn_aload_n dX5_term_31 rfl 0 rfl ?_
        refine tn_getI (ci := 5) (i := 17) (n := 50) (t := σ.2.1 50 a) dX5_term_32 rfl lay_5 (by decide) fl5_216 h_a rfl rfl (rfl) ?_
        have g11 : ((-2147483648 : Int) ≤ σ.2.1 50 a ∧ σ.2.1 50 a ≤ 2147483647) := wf_50 hw h_a
        refine tn_istore_n (L' := [(3, .int (iI (σ.2.1 50 a))), (0, .ref a), (1, .int (iI c1)), (2, .int (iI i2))]) dX5_term_35 rfl (by decide) rfl ?_
        refine tn_aload_n dX5_term_36 rfl 1 rfl ?_
        refine tn_getI (ci := 5) (i := 18) (n := 51) (t := σ.2.1 51 a) dX5_term_37 rfl lay_5 (by decide) fl5_219 h_a rfl rfl (rfl) ?_
        have g12 : ((-2147483648 : Int) ≤ σ.2.1 51 a ∧ σ.2.1 51 a ≤ 2147483647) := wf_51 hw h_a
        refine tn_istore (L' := [(4, .int (iI (σ.2.1 51 a))), (3, .int (iI (σ.2.1 50 a))), (0, .ref a), (1, .int (iI c1)), (2, .int (iI i2))]) dX5_term_40 (by decide) rfl ?_
        refine tn_aload_n dX5_term_42 rfl 2 rfl ?_
        refine tn_getR (ci := 5) (i := 0) (n := 33) (x := x2) dX5_term_43 rfl lay_5 (by decide) fl5_12 h_a rfl rfl (hx3) ?_
        refine tn_callV (M := m_X5_term) (pc := 46) (ix := 93) (ci := 9) (M' := m_X9_next) (As := []) (rest := []) dX5_term_46 ok_X9_next im_X9_next se_X9_next ml5_93 np_X9_next rfl rfl hk4o rfl (Nat.le_of_ble_eq_true rfl) (Nat.le_of_ble_eq_true rfl) rfl (k_X9_next_f (d + 5 * lv + 11) (T := T) (σ := σ) (a := x2) hk4o hw (RP.tk hrp hw h_a (hx3)) ((hfy).1.tk (hx3)) (by rw [(hfy).1.kd (hx3)]; omega)) (fun r13 T15 σ14 gt16 hp => ?_)
        obtain ⟨rfl, rfl, w22, F23, f17, f18, f19, f20⟩ := hp
        clear gt16
        have pc25 : EXR Sx (eo) [9] jy (eo) [0, 51, 9] (jy + 1) 0 [] := fun _ _ => x9y hSb (by omega)
        have rd26 : EXR Sx (eo) [4] jx (eo) [0, 51, 9] (jy + 1) (my + 0) (ey) := EXR.g0 (l := [9]) (ms := [0, 51, 9]) [] rdy pc25
        have fx24 : RDX σ14 a Sx nx (jy + 1) (ey.foldl uC cx) (Nx + my) := RDX.nx hfy hw h_a (hx3) F23 f20
        have rp27 : RP σ14 a (kp - 4) := RP.next4 hrp (hx3) F23 (by decide) (by decide) (by decide) f17 f19 (by rw [show σ.2.1 85 x2 = σ.2.1 85 x2 from rfl]; omega)
        show Tn _ _ 49 T σ14 [(4, .int (iI (σ.2.1 51 a))), (3, .int (iI (σ.2.1 50 a))), (0, .ref a), (1, .int (iI c1)), (2, .int (iI i2))] [] _
        refine tn_aload_n dX5_term_49 rfl 2 rfl ?_
        refine tn_iload_n dX5_term_50 rfl 3 rfl ?_
        refine tn_callV (M := m_X5_term) (pc := 51) (ix := 250) (ci := 5) (M' := m_X5_factor) (As := [.int (iI c1)]) (rest := []) dX5_term_51 ok_X5_factor im_X5_factor se_X5_factor ml5_250 np_X5_factor rfl rfl h_a rfl (Nat.le_of_ble_eq_true rfl) (Nat.le_of_ble_eq_true rfl) rfl (k_X5_factor_f (d) (T := T) (σ := σ14) (a := a) (dp := c1) (kp := kp - 4) (lv := lv) (eo := eo) h_a (by omega) w22 hex (by omega) (by omega) fx24 (by omega) (by omega) rp27) (fun r28 T30 σ29 gt31 hp => ?_)
        obtain ⟨v35, rfl, w36, F37, f32, f33, f34⟩ := hp
        replace h_a : OB T30 a 5 := gt31.ob h_a
        have rp39 : RP σ29 a (kp - 4 * v35 - 4) := RP.up f34 (by omega)
        show Tn _ _ 54 T30 σ29 [(4, .int (iI (σ.2.1 51 a))), (3, .int (iI (σ.2.1 50 a))), (0, .ref a), (1, .int (iI c1)), (2, .int (iI i2))] [.int (iI v35)] _
        refine tn_if_ne (tgt := 59) dX5_term_54 (by decide) ⟨by omega, by omega⟩ (fun h40 => ?_) (fun h40 => ?_)
        · refine tn_aload_n dX5_term_59 rfl 2 rfl ?_
          refine tn_iconst dX5_term_60 ?_
          refine tn_iload_n dX5_term_61 rfl 1 rfl ?_
          refine tn_iload dX5_term_62 0 rfl ?_
          obtain ⟨i41, es42, m43, lo44, rr45, fx46⟩ := f33.1 (by omega)
          have rd47 : EXR Sx (eo) [4] jx (eo) [51, 9] i41 (my + 0 + m43) (ey ++ es42) := EXR.gg (l := [0]) (ms := []) [51, 9] rd26 rr45
          refine tn_callV (M := m_X5_term) (pc := 64) (ix := 244) (ci := 5) (M' := m_X5_join) (As := [.int (iI 3), .int (iI (σ.2.1 50 a)), .int (iI (σ.2.1 51 a))]) (rest := []) dX5_term_64 ok_X5_join im_X5_join se_X5_join ml5_244 np_X5_join rfl rfl h_a rfl (Nat.le_of_ble_eq_true rfl) (Nat.le_of_ble_eq_true rfl) rfl (k_X5_join_f (d + 5 * lv + 8) (T := T30) (σ := σ29) (a := a) (k := 3) (e := σ.2.1 50 a) (l := σ.2.1 51 a) (kp := kp - 4 * v35 - 4) h_a (by decide) (by omega) (by omega) w36 (by omega) fx46 (by omega) rp39) (fun r48 T50 σ49 gt51 hp => ?_)
          obtain ⟨rfl, w55, F56, f52, f53⟩ := hp
          replace h_a : OB T50 a 5 := gt51.ob h_a
          have rp58 : RP σ49 a (kp - 4 * v35 - 3) := RP.up f53 (by omega)
          show Tn _ _ 67 T50 σ49 [(4, .int (iI (σ.2.1 51 a))), (3, .int (iI (σ.2.1 50 a))), (0, .ref a), (1, .int (iI c1)), (2, .int (iI i2))] [] _
          refine tn_iinc (q0 := 4) (L' := [(2, .int (iI (i2 + 1))), (4, .int (iI (σ.2.1 51 a))), (3, .int (iI (σ.2.1 50 a))), (0, .ref a), (1, .int (iI c1))]) dX5_term_67 rfl (by decide) rfl ?_
          refine tn_goto (tgt := 12) dX5_term_70 (by decide) ?_
          have pc59 : EXR Sx (eo) [51] i41 (eo) [] i41 1 [] := fun _ _ => x51 hSb 
          have rd60 : EXR Sx (eo) [4] jx (eo) [9] i41 (my + 0 + m43 + 1) (ey ++ es42) := EXR.g0 (l := [51]) (ms := []) [9] rd47 pc59
          have hx61 : XS σ49 a Sx nx (eo) [4] jx cx Nx (eo) [9] ((jx : Int) + 1 + (i2 + 1)) := ⟨i41, ey ++ es42, my + 0 + m43 + 1, (by omega), rd60, RDX.nq (RDX.cq f52 (by simp only [List.foldl_append, List.foldl_cons, List.foldl_nil])) (by omega)⟩
          exact tn_sub [3, 4, 0] rfl (ih _ (by omega) T50 (i2 + 1) σ49 (GT.trans (GT.trans hG gt31) gt51) w55 ((((FrC.rfl.trans (FrC.sub hF (by decide))).trans (FrC.sub (FrC.old F23 hG) (by decide))).trans (FrC.sub (FrC.old F37 hG) (by decide))).trans (FrC.sub (FrC.old F56 (GT.trans hG gt31)) (by decide))) h_a (by omega) hx61 (RP.up rp58 (by omega)) rfl)
        · obtain ⟨pl62, g63, fx64⟩ := f33.2 (by omega)
          have rf65 : EXF Sx (eo) [4] jx (pl62) := EXR.fl (l := [0]) [51, 9] rd26 g63
          exact tn_sub [2, 3, 4] rfl (hx_57 T30 (i2) σ29 (GT.trans hG gt31) w36 (((FrC.rfl.trans (FrC.sub hF (by decide))).trans (FrC.sub (FrC.old F23 hG) (by decide))).trans (FrC.sub (FrC.old F37 hG) (by decide))) h_a (by omega) True.intro (RP.up rp39 (by omega)) ⟨_, rf65, fx64⟩)
set_option maxHeartbeats 4000000 in
set_option maxRecDepth 20000 in
theorem k_X5_term_f (d : Nat) {T : CT} {σ : MS} {a : Nat} {dp : Int} {kp : Int} {lv : Nat} {Sx : Int → Int} {nx jx : Nat} {cx : CS} {Nx : Int} {eo : Int} (ha : OB T a 5) (h_dp : -2147483648 ≤ dp ∧ dp ≤ 2147483647) (hw : WT T σ) (hex : ∀ (d : Nat) {T : CT} {σ : MS} {a : Nat} {dp : Int} {kp : Int} {Sx : Int → Int} {nx jx : Nat} {cx : CS} {Nx : Int} {eo : Int} (ha : OB T a 5) (h_dp : -2147483648 ≤ dp ∧ dp ≤ 2147483647) (hw : WT T σ) (hdp : 1 ≤ dp ∧ dp ≤ 9) (hlv : 9 ≤ dp + (lv : Int)) (hfx : RDX σ a Sx nx jx cx Nx) (heo : eo = dp - 1) (hkp : kp ≤ 150) (hrp : RP σ a kp), Tn (d + 5 * lv + 10) m_X5_expression 0 T σ [(0, .ref a), (1, .int (iI dp))] [] (fun ro T2 σ2 => ∃ v : Int, ro = some (.int (iI v)) ∧ WT T2 σ2 ∧ FrC T [5, 6, 7, 43, 44, 47, 50, 51, 84, 85, 86, 87, 521] σ σ2 ∧ (v = 0 ∨ v = 1) ∧ (XQ σ2 a Sx nx (eo) [2] jx cx Nx v) ∧ (RP σ2 a (kp - 4 * v)))) (hdp : 1 ≤ dp ∧ dp ≤ 8) (hlv : 8 ≤ dp + (lv : Int)) (hfx : RDX σ a Sx nx jx cx Nx) (heo : eo = dp) (hkp : kp ≤ 150) (hrp : RP σ a kp) : Tn (d + 5 * lv + 13) m_X5_term 0 T σ [(0, .ref a), (1, .int (iI dp))] [] (fun ro T2 σ2 => ∃ v : Int, ro = some (.int (iI v)) ∧ WT T2 σ2 ∧ FrC T [5, 6, 7, 43, 44, 47, 50, 51, 84, 85, 86, 87, 521] σ σ2 ∧ (v = 0 ∨ v = 1) ∧ (XQ σ2 a Sx nx (eo) [4] jx cx Nx v) ∧ (RP σ2 a (kp - 4 * v))) := by
  have hSb := hfx.1.sb
  refine tn_aload_n dX5_term_0 rfl 0 rfl ?_
  refine tn_iload_n dX5_term_1 rfl 1 rfl ?_
  have pc1 : EXR Sx (eo) [4] jx (eo) [0, 9] jx 0 [] := fun _ _ => x4 hSb 
  have rd20 : EXR Sx (eo) [4] jx (eo) [4] jx (0) ([]) := EXR.nl
  have rd2 : EXR Sx (eo) [4] jx (eo) [0, 9] jx (0 + 0) ([]) := EXR.g0 (l := [4]) (ms := [0, 9]) [] rd20 pc1
  refine tn_callV (M := m_X5_term) (pc := 2) (ix := 250) (ci := 5) (M' := m_X5_factor) (As := [.int (iI dp)]) (rest := []) dX5_term_2 ok_X5_factor im_X5_factor se_X5_factor ml5_250 np_X5_factor rfl rfl ha rfl (Nat.le_of_ble_eq_true rfl) (Nat.le_of_ble_eq_true rfl) rfl (k_X5_factor_f (d) (T := T) (σ := σ) (a := a) (dp := dp) (kp := kp) (lv := lv) (eo := eo) ha (by omega) hw hex (by omega) (by omega) hfx (by omega) (by omega) hrp) (fun r3 T5 σ4 gt6 hp => ?_)
  obtain ⟨v10, rfl, w11, F12, f7, f8, f9⟩ := hp
  replace ha : OB T5 a 5 := gt6.ob ha
  show Tn _ _ 5 T5 σ4 [(0, .ref a), (1, .int (iI dp))] [.int (iI v10)] _
  refine tn_if_ne (tgt := 10) dX5_term_5 (by decide) ⟨by omega, by omega⟩ (fun h14 => ?_) (fun h14 => ?_)
  · refine tn_iconst dX5_term_10 ?_
    refine tn_istore_n (L' := [(2, .int (iI 0)), (0, .ref a), (1, .int (iI dp))]) dX5_term_11 rfl (by decide) rfl ?_
    obtain ⟨i15, es16, m17, lo18, rr19, fx20⟩ := f8.1 (by omega)
    have rd21a : EXR Sx (eo) [4] jx (eo) [9] i15 (0 + 0 + m17) ([] ++ es16) := EXR.gg (l := [0]) (ms := []) [9] rd2 rr19
    have rd21 : EXR Sx (eo) [4] jx (eo) [9] i15 (0 + 0 + m17) (es16) := rd21a
    have hx22 : XS σ4 a Sx nx (eo) [4] jx cx Nx (eo) [9] ((jx : Int) + 1 + (0)) := ⟨i15, es16, 0 + 0 + m17, (by omega), rd21, RDX.nq (RDX.cq fx20 rfl) (by omega)⟩
    refine tn_sub [1, 2, 0] rfl (l_X5_term_f_12 (d) (σ0 := σ4) (T0 := T5) (a := a) (c1 := dp) (kp := kp - 4 * v10) (lv := lv) (Sx := Sx) (nx := nx) (jx := jx) (cx := cx) (Nx := Nx) (eo := eo) (by omega) w11 (by omega) heo (by omega) hex (fun T25 i223 σ24 gt26 w27 F28 q29 r30 f31 f32 f33 => ?_) (fun T36 i234 σ35 gt37 w38 F39 q40 r41 f42 f43 f44 => ?_) _ T5 (0) σ4 GT.rfl w11 FrC.rfl ha (by omega) hx22 f9 rfl)
    · show Tn _ _ 57 T25 σ24 [(0, .ref a), (1, .int (iI dp)), (2, .int (iI i223))] [] _
      refine tn_iconst dX5_term_57 ?_
      exact tn_zret (v := 0) rfl (by decide) dX5_term_58 ⟨_, rfl, w27, ((FrC.rfl.trans (FrC.sub F12 (by decide))).trans (FrC.sub (FrC.old F28 gt6) (by decide))), by omega, ⟨fun q => absurd q (by decide), fun _ => f33⟩, (RP.up f32 (by omega))⟩
    · show Tn _ _ 73 T36 σ35 [(0, .ref a), (1, .int (iI dp)), (2, .int (iI i234))] [] _
      refine tn_iconst dX5_term_73 ?_
      exact tn_zret (v := 1) rfl (by decide) dX5_term_74 ⟨_, rfl, w38, ((FrC.rfl.trans (FrC.sub F12 (by decide))).trans (FrC.sub (FrC.old F39 gt6) (by decide))), by omega, ⟨fun _ => f44, fun q => absurd q (by decide)⟩, (RP.up f43 (by omega))⟩
  · refine tn_iconst dX5_term_8 ?_
    obtain ⟨pl47, g48, fx49⟩ := f8.2 (by omega)
    have rf50 : EXF Sx (eo) [4] jx (pl47) := EXR.fl (l := [0]) [9] rd2 g48
    have rb46 : XFc σ4 a Sx (eo) [4] jx := ⟨_, rf50, fx49⟩
    exact tn_zret (v := 0) rfl (by decide) dX5_term_9 ⟨_, rfl, w11, (FrC.rfl.trans (FrC.sub F12 (by decide))), by omega, ⟨fun q => absurd q (by decide), fun _ => rb46⟩, (RP.up f9 (by omega))⟩
