set_option maxHeartbeats 4000000 in
set_option maxRecDepth 20000 in
theorem l_X5_block_f1_22 (d : Nat) {T0 : CT} {σ0 : MS} {a : Nat} {c1 : Int} {Sx : Int → Int} {nx : Nat} {jx : Nat} {cx : CS} {Nx : Int} {bx : Int} {kp : Int} {lv : Nat} {post : Option Value → CT → MS → Prop} (r_c1 : 1 ≤ c1 ∧ c1 ≤ 6) (hw0 : WT T0 σ0) (hlv : 6 ≤ c1 + (lv : Int)) (hb : bx = c1 - 1) (hkp : kp ≤ 140) (hex : ∀ (d : Nat) {T : CT} {σ : MS} {a : Nat} {dp : Int} {kp : Int} {Sx : Int → Int} {nx jx : Nat} {cx : CS} {Nx : Int} {bx : Int} (ha : OB T a 5) (h_dp : -2147483648 ≤ dp ∧ dp ≤ 2147483647) (hw : WT T σ) (hdp : 1 ≤ dp ∧ dp ≤ 7) (hlv : 7 ≤ dp + (lv : Int)) (hfx : RDX σ a Sx nx jx cx Nx) (hb : bx = dp - 1) (hm : cx.m ≤ (jx : Int)) (hkp : kp ≤ 140) (hrp : RP σ a kp), Tn (d + 3 * lv + 60) m_X5_block 0 T σ [(0, .ref a), (1, .int (iI dp))] [] (fun ro T2 σ2 => ∃ v : Int, ro = some (.int (iI v)) ∧ WT T2 σ2 ∧ FrC T [5, 6, 7, 9, 42, 43, 44, 45, 46, 47, 50, 51, 84, 85, 86, 87, 518, 519, 520, 521] σ σ2 ∧ (v = 0 ∨ v = 1) ∧ (YQ σ2 a Sx nx bx [28] jx cx (Nx) 2 v) ∧ (RP σ2 a (kp + 2 - 10 * v)))) (hx_49 : ∀ (T : CT) (i2 : Int) (σ : MS) , (GT T0 T) → (WT T σ) → (FrC T0 [5, 6, 7, 9, 42, 43, 44, 45, 46, 47, 50, 51, 84, 85, 86, 87, 518, 519, 520, 521] σ0 σ) → (OB T a 5) → (0 ≤ i2 ∧ i2 ≤ 2147483647) → (True) → (RP σ a (kp + 2)) → (YF σ a Sx bx [28] jx) → Tn (d + 3 * lv + 63) m_X5_block 49 T σ [(0, .ref a), (1, .int (iI c1)), (2, .int (iI i2))] [] post) (hx_57 : ∀ (T : CT) (i2 : Int) (σ : MS) , (GT T0 T) → (WT T σ) → (FrC T0 [5, 6, 7, 9, 42, 43, 44, 45, 46, 47, 50, 51, 84, 85, 86, 87, 518, 519, 520, 521] σ0 σ) → (OB T a 5) → (0 ≤ i2 ∧ i2 ≤ 2147483647) → (True) → (RP σ a kp) → (YK σ a Sx nx bx [28] jx cx Nx (bx + 1) [29] ((jx : Int) + 1) 125) → Tn (d + 3 * lv + 63) m_X5_block 57 T σ [(0, .ref a), (1, .int (iI c1)), (2, .int (iI i2))] [] post) : ∀ (n : Nat) (T : CT) (i2 : Int) (σ : MS) , (GT T0 T) → (WT T σ) → (FrC T0 [5, 6, 7, 9, 42, 43, 44, 45, 46, 47, 50, 51, 84, 85, 86, 87, 518, 519, 520, 521] σ0 σ) → (OB T a 5) → (0 ≤ i2 ∧ i2 ≤ 2147483647) → (YS σ a Sx nx bx [28] jx cx Nx (bx + 1) [29] ((jx : Int) + 1 + i2)) → (RP σ a kp) → (2147483700 - i2).toNat = n → Tn (d + 3 * lv + 63) m_X5_block 22 T σ [(0, .ref a), (1, .int (iI c1)), (2, .int (iI i2))] [] post := by
  intro n
  induction n using Nat.strongRecOn with
  | _ n ih =>
    intro T i2 σ hG hw hF h_a r_i2 hx hrp hm
    obtain ⟨jy, ey, my, loy, rdy, hfy, hmy⟩ := hx
    have hSb := hfy.1.sb
    have hjn := RDX.jn hfy hw h_a
    have e45 := hfy.e45
    refine tn_iload_n dX5_block_22 rfl 2 rfl ?_
    refine tn_sipush dX5_block_23 (by decide) ?_
    refine tn_icmp_ge (tgt := 57) dX5_block_26 (by decide) ⟨by omega, by omega⟩ ⟨by decide, by decide⟩ (fun h1 => ?_) (fun h1 => ?_)
    · exact tn_sub [0, 1, 2] rfl (hx_57 T (i2) σ hG hw (FrC.rfl.trans (FrC.sub hF (by decide))) h_a (by omega) True.intro (RP.up hrp (by omega)) (False.elim (by omega)))
    · refine tn_aload_n dX5_block_29 rfl 0 rfl ?_
      obtain ⟨x2, hx3, hk4⟩ : ∃ x : Nat, σ.2.1 33 a = (x : Int) ∧ (T x).1 = 39 := wf_33 hw h_a
      have hk4o : OB T x2 9 := ⟨by omega, by rw [hk4]; rfl, by omega⟩
      refine tn_getR (ci := 5) (i := 0) (n := 33) (x := x2) dX5_block_30 rfl lay_5 (by decide) fl5_12 h_a rfl rfl (hx3) ?_
      refine tn_getI (ci := 9) (i := 4) (n := 85) (t := σ.2.1 85 x2) dX5_block_33 rfl lay_9 (by decide) fl5_71 hk4o rfl rfl (rfl) ?_
      have g6 : ((-2147483648 : Int) ≤ σ.2.1 85 x2 ∧ σ.2.1 85 x2 ≤ 2147483647) := wf_85 hw hk4o
      have g6kd : σ.2.1 85 x2 = ckd (tkS Sx jy) := (rfl).symm.trans ((hfy).1.kd (hx3))
      refine tn_bipush dX5_block_36 (by decide) ?_
      refine tn_icmp_eq (tgt := 57) dX5_block_38 (by decide) ⟨by omega, by omega⟩ ⟨by decide, by decide⟩ (fun h7 => ?_) (fun h7 => ?_)
      · exact tn_sub [0, 1, 2] rfl (hx_57 T (i2) σ hG hw (FrC.rfl.trans (FrC.sub hF (by decide))) h_a (by omega) True.intro (RP.up hrp (by omega)) ⟨jy, ey, my, by omega, rdy, hfy, hmy, by omega⟩)
      · refine tn_aload_n dX5_block_41 rfl 0 rfl ?_
        refine tn_iload_n dX5_block_42 rfl 1 rfl ?_
        have pc8 : GR Sx [29] jy (0) (bx + 1) u0 [20, 29] jy (0) (bx + 1) u0 0 [] := x29n hSb (by omega)
        have rd9 : GR Sx [28] jx 0 (bx) u0 [20, 29] jy (0) (bx + 1) u0 (my + 0) (ey) := GR.g0 (l := [29]) (ms := [20, 29]) [] rdy pc8
        refine tn_callV (M := m_X5_block) (pc := 43) (ix := 183) (ci := 5) (M' := m_X5_statement) (As := [.int (iI c1)]) (rest := []) dX5_block_43 ok_X5_statement im_X5_statement se_X5_statement ml5_183 np_X5_statement rfl rfl h_a rfl (Nat.le_of_ble_eq_true rfl) (Nat.le_of_ble_eq_true rfl) rfl (k_X5_statement_f (d) (T := T) (σ := σ) (a := a) (dp := c1) (kp := kp) (lv := lv) (bx := bx + 1) h_a (by omega) hw hex (by omega) (by omega) hfy (by omega) hmy (by omega) hrp) (fun r10 T12 σ11 gt13 hp => ?_)
        obtain ⟨v17, rfl, w18, F19, f14, f15, f16⟩ := hp
        replace h_a : OB T12 a 5 := gt13.ob h_a
        have rp21 : RP σ11 a (kp - 8 * v17 + 2) := RP.up f16 (by omega)
        show Tn _ _ 46 T12 σ11 [(0, .ref a), (1, .int (iI c1)), (2, .int (iI i2))] [.int (iI v17)] _
        refine tn_if_ne (tgt := 51) dX5_block_46 (by decide) ⟨by omega, by omega⟩ (fun h22 => ?_) (fun h22 => ?_)
        · refine tn_iinc (q0 := 2) (L' := [(2, .int (iI (i2 + 1))), (0, .ref a), (1, .int (iI c1))]) dX5_block_51 rfl (by decide) rfl ?_
          refine tn_goto (tgt := 22) dX5_block_54 (by decide) ?_
          obtain ⟨i23, es24, m25, lo26, rr27, fx28, fx28m⟩ := f15.1 (by omega)
          have fx28s : σ11.2.1 45 a ≤ (i23 : Int) := by rw [fx28.e45]; exact fx28m
          have rd29 : GR Sx [28] jx 0 (bx) u0 [29] i23 (0) (bx + 1) u0 (my + 0 + m25) (ey ++ es24) := GR.gg (l := [20]) (ms := []) [29] rd9 rr27
          have fe31 := RDX.nq (M := Nx + (my + 0 + m25)) (RDX.cq (c2 := (ey ++ es24).foldl uC cx) fx28 (by simp only [List.foldl_append, List.foldl_cons, List.foldl_nil])) (by omega)
          have fe31m : ((ey ++ es24).foldl uC cx).m = σ11.2.1 45 a := (fe31.e45).symm.trans (rfl)
          have hx30 : YS σ11 a Sx nx bx [28] jx cx Nx (bx + 1) [29] ((jx : Int) + 1 + (i2 + 1)) := ⟨i23, ey ++ es24, my + 0 + m25, (by omega), rd29, fe31, by rw [fe31m]; omega⟩
          exact tn_sub [1, 2, 0] rfl (ih _ (by omega) T12 (i2 + 1) σ11 (GT.trans hG gt13) w18 ((FrC.rfl.trans (FrC.sub hF (by decide))).trans (FrC.sub (FrC.old F19 hG) (by decide))) h_a (by omega) hx30 (RP.up rp21 (by omega)) rfl)
        · obtain ⟨pl32, g33, fx34⟩ := f15.2 (by omega)
          have rf35 : GRF Sx [28] jx 0 (bx) u0 (pl32) := GR.fl (l := [20]) [29] rd9 g33
          exact tn_sub [0, 1, 2] rfl (hx_49 T12 (i2) σ11 (GT.trans hG gt13) w18 ((FrC.rfl.trans (FrC.sub hF (by decide))).trans (FrC.sub (FrC.old F19 hG) (by decide))) h_a (by omega) True.intro (RP.up rp21 (by omega)) ⟨_, rf35, fx34⟩)
set_option maxHeartbeats 4000000 in
set_option maxRecDepth 20000 in
theorem k_X5_block_f1 (d : Nat) {T : CT} {σ : MS} {a : Nat} {dp : Int} {kp : Int} {lv : Nat} {Sx : Int → Int} {nx jx : Nat} {cx : CS} {Nx : Int} {bx : Int} (ha : OB T a 5) (h_dp : -2147483648 ≤ dp ∧ dp ≤ 2147483647) (hw : WT T σ) (hex : ∀ (d : Nat) {T : CT} {σ : MS} {a : Nat} {dp : Int} {kp : Int} {Sx : Int → Int} {nx jx : Nat} {cx : CS} {Nx : Int} {bx : Int} (ha : OB T a 5) (h_dp : -2147483648 ≤ dp ∧ dp ≤ 2147483647) (hw : WT T σ) (hdp : 1 ≤ dp ∧ dp ≤ 7) (hlv : 7 ≤ dp + (lv : Int)) (hfx : RDX σ a Sx nx jx cx Nx) (hb : bx = dp - 1) (hm : cx.m ≤ (jx : Int)) (hkp : kp ≤ 140) (hrp : RP σ a kp), Tn (d + 3 * lv + 60) m_X5_block 0 T σ [(0, .ref a), (1, .int (iI dp))] [] (fun ro T2 σ2 => ∃ v : Int, ro = some (.int (iI v)) ∧ WT T2 σ2 ∧ FrC T [5, 6, 7, 9, 42, 43, 44, 45, 46, 47, 50, 51, 84, 85, 86, 87, 518, 519, 520, 521] σ σ2 ∧ (v = 0 ∨ v = 1) ∧ (YQ σ2 a Sx nx bx [28] jx cx (Nx) 2 v) ∧ (RP σ2 a (kp + 2 - 10 * v)))) (hdp : 1 ≤ dp ∧ dp ≤ 6) (hlv : 7 ≤ dp + ((lv : Int) + 1)) (hfx : RDX σ a Sx nx jx cx Nx) (hb : bx = dp - 1) (hm : cx.m ≤ (jx : Int)) (hkp : kp ≤ 140) (hrp : RP σ a kp) : Tn (d + 3 * lv + 63) m_X5_block 0 T σ [(0, .ref a), (1, .int (iI dp))] [] (fun ro T2 σ2 => ∃ v : Int, ro = some (.int (iI v)) ∧ WT T2 σ2 ∧ FrC T [5, 6, 7, 9, 42, 43, 44, 45, 46, 47, 50, 51, 84, 85, 86, 87, 518, 519, 520, 521] σ σ2 ∧ (v = 0 ∨ v = 1) ∧ (YQ σ2 a Sx nx bx [28] jx cx (Nx) 2 v) ∧ (RP σ2 a (kp + 2 - 10 * v))) := by
  have hSb := hfx.1.sb
  have e45 := hfx.e45
  have hpo9 := hfx.po
  unfold PO at hpo9
  refine tn_iload_n dX5_block_0 rfl 1 rfl ?_
  refine tn_bipush dX5_block_1 (by decide) ?_
  refine tn_icmp_gt (tgt := 15) dX5_block_3 (by decide) ⟨by omega, by omega⟩ ⟨by decide, by decide⟩ (fun h1 => absurd h1 (by omega)) (fun h1 => ?_)
  refine tn_aload_n dX5_block_6 rfl 0 rfl ?_
  refine tn_bipush dX5_block_7 (by decide) ?_
  refine tn_callV (M := m_X5_block) (pc := 9) (ix := 102) (ci := 5) (M' := m_X5_taken) (As := [.int (iI 123)]) (rest := []) dX5_block_9 ok_X5_taken im_X5_taken se_X5_taken ml5_102 np_X5_taken rfl rfl ha rfl (Nat.le_of_ble_eq_true rfl) (Nat.le_of_ble_eq_true rfl) rfl (k_X5_taken_f (d + 3 * lv + 60) (T := T) (σ := σ) (a := a) (s := 123) (kp := kp) ha (by decide) hw (by omega) hfx (by omega) hrp) (fun r2 T4 σ3 gt5 hp => ?_)
  obtain ⟨v9, rfl, rfl, w10, F11, f6, f7, f8⟩ := hp
  clear gt5
  have pc12 : GR Sx [28] jx (0) (bx) u0 [223, 29] jx (0) (bx + 1) u0 0 [] := x28 hSb (by omega)
  have rd130 : GR Sx [28] jx 0 (bx) u0 [28] jx (0) (bx) u0 (0) ([]) := GR.nl
  have rd13 : GR Sx [28] jx 0 (bx) u0 [223, 29] jx (0) (bx + 1) u0 (0 + 0) ([]) := GR.g0 (l := [28]) (ms := [223, 29]) [] rd130 pc12
  show Tn _ _ 12 T σ3 [(0, .ref a), (1, .int (iI dp))] [.int (iI v9)] _
  refine tn_if_ne (tgt := 20) dX5_block_12 (by decide) ⟨by omega, by omega⟩ (fun h15 => ?_) (fun h15 => ?_)
  · refine tn_iconst dX5_block_20 ?_
    refine tn_istore_n (L' := [(2, .int (iI 0)), (0, .ref a), (1, .int (iI dp))]) dX5_block_21 rfl (by decide) rfl ?_
    obtain ⟨kd17, fx16⟩ := f7.1 (by omega)
    have pc18 : GR Sx [223] jx (0) (bx + 1) u0 [] (jx + 1) (0) (bx + 1) u0 0 [] := y123 hSb kd17
    have rd19 : GR Sx [28] jx 0 (bx) u0 [29] (jx + 1) (0) (bx + 1) u0 (0 + 0 + 0) ([]) := GR.g0 (l := [223]) (ms := []) [29] rd13 pc18
    have fe21 := RDX.nq (M := Nx + (0 + 0 + 0)) (RDX.cq (c2 := ([]).foldl uC cx) fx16 rfl) (by omega)
    have fe21m : (([]).foldl uC cx).m = σ.2.1 45 a := (fe21.e45).symm.trans (rc_F F11 (Or.inl (by decide)) (by decide) (rfl))
    have hx20 : YS σ3 a Sx nx bx [28] jx cx Nx (bx + 1) [29] ((jx : Int) + 1 + (0)) := ⟨(jx + 1), [], 0 + 0 + 0, (by omega), rd19, fe21, by rw [fe21m]; omega⟩
    refine tn_sub [1, 2, 0] rfl (l_X5_block_f1_22 (d) (σ0 := σ3) (T0 := T) (a := a) (c1 := dp) (kp := kp - 4 * v9) (lv := lv) (Sx := Sx) (nx := nx) (jx := jx) (cx := cx) (Nx := Nx) (bx := bx) (by omega) w10 (by omega) hb (by omega) hex (fun T24 i222 σ23 gt25 w26 F27 q28 r29 f30 f31 f32 => ?_) (fun T35 i233 σ34 gt36 w37 F38 q39 r40 f41 f42 f43 => ?_) _ T (0) σ3 GT.rfl w10 FrC.rfl ha (by omega) hx20 f8 rfl)
    · show Tn _ _ 49 T24 σ23 [(0, .ref a), (1, .int (iI dp)), (2, .int (iI i222))] [] _
      refine tn_iconst dX5_block_49 ?_
      exact tn_zret (v := 0) rfl (by decide) dX5_block_50 ⟨_, rfl, w26, ((FrC.rfl.trans (FrC.sub F11 (by decide))).trans (FrC.sub F27 (by decide))), by omega, ⟨fun q => absurd q (by decide), fun _ => f32⟩, (RP.up f31 (by omega))⟩
    · obtain ⟨i44, es45, m46, lo47, rr48, fx49, hm50, hk51⟩ := f43
      have fx49s : σ34.2.1 45 a ≤ (i44 : Int) := by rw [fx49.e45]; exact hm50
      show Tn _ _ 57 T35 σ34 [(0, .ref a), (1, .int (iI dp)), (2, .int (iI i233))] [] _
      refine tn_aload_n dX5_block_57 rfl 0 rfl ?_
      refine tn_bipush dX5_block_58 (by decide) ?_
      refine tn_callV (M := m_X5_block) (pc := 60) (ix := 102) (ci := 5) (M' := m_X5_taken) (As := [.int (iI 125)]) (rest := []) dX5_block_60 ok_X5_taken im_X5_taken se_X5_taken ml5_102 np_X5_taken rfl rfl q39 rfl (Nat.le_of_ble_eq_true rfl) (Nat.le_of_ble_eq_true rfl) rfl (k_X5_taken_f (d + 3 * lv + 60) (T := T35) (σ := σ34) (a := a) (s := 125) (kp := kp - 4 * v9) q39 (by decide) w37 (by omega) fx49 (by omega) f42) (fun r52 T54 σ53 gt55 hp => ?_)
      obtain ⟨v59, rfl, rfl, w60, F61, f56, f57, f58⟩ := hp
      clear gt55
      show Tn _ _ 63 T35 σ53 [(0, .ref a), (1, .int (iI dp)), (2, .int (iI i233))] [.int (iI v59)] _
      have ra63 : v59 = 1 → YS σ53 a Sx nx bx [28] jx cx (Nx) bx [] ((jx : Int) + 2) := fun hv => by
        obtain ⟨kd66, fx65⟩ := f57.1 hv
        have pc67 : GR Sx [29] i44 0 (bx + 1) u0 [40] (i44 + 1) 0 (bx + 1) u0 0 [] := x29y hSb kd66
        have rd68 : GR Sx [28] jx 0 (bx) u0 [40] (i44 + 1) (0) (bx + 1) u0 (m46 + 0) (es45) := GR.g0 (l := [29]) (ms := [40]) [] rr48 pc67
        have pc69 : GR Sx [40] (i44 + 1) 0 (bx + 1) u0 [] (i44 + 1) 0 bx u0 0 [] := by have q9 := x40 (S := Sx) (j := i44 + 1) (e := 0) (b := bx + 1) (u := u0) hSb; rw [show bx + 1 - 1 = bx by omega] at q9; exact q9
        have rd70 : GR Sx [28] jx 0 (bx) u0 [] (i44 + 1) (0) (bx) u0 (m46 + 0 + 0) (es45) := GR.g0 (l := [40]) (ms := []) [] rd68 pc69
        have fe71 := RDX.nq (M := Nx + (m46 + 0 + 0)) (RDX.cq (c2 := (es45).foldl uC cx) fx65 rfl) (by omega)
        have fe71m : ((es45).foldl uC cx).m = σ34.2.1 45 a := (fe71.e45).symm.trans (rc_F F61 (Or.inl (by decide)) (by decide) (rfl))
        exact ⟨(i44 + 1), es45, m46 + 0 + 0, (by omega), rd70, fe71, by rw [fe71m]; omega⟩
      exact tn_zret (v := v59) rfl (by omega) dX5_block_63 ⟨_, rfl, w60, (((FrC.rfl.trans (FrC.sub F11 (by decide))).trans (FrC.sub F38 (by decide))).trans (FrC.sub (FrC.old F61 gt36) (by decide))), by omega, ⟨ra63, fun q => absurd hk51 (f57.2 q).1⟩, (RP.up f58 (by omega))⟩
  · refine tn_aload_n dX5_block_15 rfl 0 rfl ?_
    obtain ⟨kd72, fx73, tk74⟩ := f7.2 (by omega)
    have pc75 : GRF Sx [223] jx (0) (bx + 1) u0 (tkS Sx jx).1 := z123 hSb kd72
    have rf76 : GRF Sx [28] jx 0 (bx) u0 ((tkS Sx jx).1) := GR.fl (l := [223]) [29] rd13 pc75
    refine tn_callV (M := m_X5_block) (pc := 16) (ix := 90) (ci := 5) (M' := m_X5_refuse) (As := []) (rest := []) dX5_block_16 ok_X5_refuse im_X5_refuse se_X5_refuse ml5_90 np_X5_refuse rfl rfl ha rfl (Nat.le_of_ble_eq_true rfl) (Nat.le_of_ble_eq_true rfl) rfl (k_X5_refuse_f (d + 3 * lv + 61) (T := T) (σ := σ3) (a := a) ha w10 tk74) (fun r77 T79 σ78 gt80 hp => ?_)
    obtain ⟨v85, rfl, rfl, w86, F87, f81, f82, f83, f84⟩ := hp
    clear gt80
    have rp88 : RP σ78 a (kp - 4 * v9) := RP.frc f8 F87 (by decide) (by decide) (by decide) (by decide) (by decide)
    show Tn _ _ 19 T σ78 [(0, .ref a), (1, .int (iI dp))] [.int (iI v85)] _
    have rb90 : YF σ78 a Sx bx [28] jx := ⟨_, rf76, f83⟩
    exact tn_zret (v := v85) rfl (by omega) dX5_block_19 ⟨_, rfl, w86, ((FrC.rfl.trans (FrC.sub F11 (by decide))).trans (FrC.sub F87 (by decide))), by omega, ⟨fun q => absurd q (by omega), fun _ => rb90⟩, (RP.up rp88 (by omega))⟩
