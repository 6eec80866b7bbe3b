section
set_option maxHeartbeats 1000000 in
set_option maxRecDepth 20000 in
theorem l_X5_sum_m_12 (d : Nat) {T0 : CT} {σ0 : MS} {a : Nat} {c1 : Int} {Sx : Int → Int} {nx : Nat} {jx : Nat} {cx : CS} {Nx : Int} {nm : Int → Int64 → Int} {Tg : CT} {gs : MS} {mx : MK} {eo : Int} {kp : Int} {lv : Nat} {post : Option Value → CT → MS → Prop} (r_c1 : 1 ≤ c1 ∧ c1 ≤ 8) (hw0 : WT T0 σ0) (hlv : 8 ≤ c1 + (lv : Int)) (heo : eo = c1) (hkp : kp ≤ 150) (hex : ∀ (d : Nat) {T : CT} {σ : MS} {a : Nat} {dp : Int} {kp : Int} {Sx : Int → Int} {nx jx : Nat} {cx : CS} {Nx : Int} {Tg : CT} {gs : MS} {mx : MK} {nm : Int → Int64 → Int} {eo : Int} (ha : OB T a 5) (h_dp : -2147483648 ≤ dp ∧ dp ≤ 2147483647) (hw : WT T σ) (hdp : 1 ≤ dp ∧ dp ≤ 9) (hlv : 9 ≤ dp + (lv : Int)) (hfx : RDX σ a Sx nx jx cx Nx) (hmg : MG Tg gs T σ a mx) (hmb : MBD mx) (heo : eo = dp - 1) (hkp : kp ≤ 150) (hrp : RP σ a kp), Tn (d + 5 * lv + 10) m_X5_expression 0 T σ [(0, .ref a), (1, .int (iI dp))] [] (fun ro T2 σ2 => ∃ v : Int, ro = some (.int (iI v)) ∧ WT T2 σ2 ∧ FrC T [5, 6, 7, 43, 44, 47, 50, 51, 84, 85, 86, 87, 521] σ σ2 ∧ (v = 0 ∨ v = 1) ∧ (XQM σ2 a Sx nx (eo) [2] jx cx Nx v nm Tg gs T2 mx) ∧ (RP σ2 a (kp - 4 * v)))) (hx_88 : ∀ (T : CT) (i2 : Int) (σ : MS) , (GT T0 T) → (WT T σ) → (FrC T0 [5, 6, 7, 43, 44, 47, 50, 51, 84, 85, 86, 87, 521] σ0 σ) → (OB T a 5) → (0 ≤ i2 ∧ i2 ≤ 2147483647) → (True) → (RP σ a kp) → (XFc σ a Sx (eo) [3] jx ∧ FG Tg gs T σ a) → Tn (d + 5 * lv + 14) m_X5_sum 88 T σ [(0, .ref a), (1, .int (iI c1)), (2, .int (iI i2))] [] post) (hx_105 : ∀ (T : CT) (i2 : Int) (σ : MS) , (GT T0 T) → (WT T σ) → (FrC T0 [5, 6, 7, 43, 44, 47, 50, 51, 84, 85, 86, 87, 521] σ0 σ) → (OB T a 5) → (0 ≤ i2 ∧ i2 ≤ 2147483647) → (True) → (RP σ a kp) → (XSM σ a Sx nx (eo) [3] jx cx Nx (eo) [] ((jx : Int) + 1) nm Tg gs T mx) → Tn (d + 5 * lv + 14) m_X5_sum 105 T σ [(0, .ref a), (1, .int (iI c1)), (2, .int (iI i2))] [] post) : ∀ (n : Nat) (T : CT) (i2 : Int) (σ : MS) , (GT T0 T) → (WT T σ) → (FrC T0 [5, 6, 7, 43, 44, 47, 50, 51, 84, 85, 86, 87, 521] σ0 σ) → (OB T a 5) → (0 ≤ i2 ∧ i2 ≤ 2147483647) → (XSM σ a Sx nx (eo) [3] jx cx Nx (eo) [8] ((jx : Int) + 1 + i2) nm Tg gs T mx) → (RP σ a kp) → (2147483700 - i2).toNat = n → Tn (d + 5 * lv + 14) m_X5_sum 12 T σ [(0, .ref a), (1, .int (iI c1)), (2, .int (iI i2))] [] post := by
  intro n
  induction n using Nat.strongRecOn with
  | _ n ih =>
    intro T i2 σ hG hw hF h_a r_i2 hx hrp hm
    obtain ⟨jy, ey, my, mw, loy, rdy, hfy, niy, mgy, mby, cny⟩ := hx
    have hSb := hfy.1.sb
    have hjn := RDX.jn hfy hw h_a
    refine tn_iload_n dX5_sum_12 rfl 2 rfl ?_
    refine tn_sipush dX5_sum_13 (by decide) ?_
    refine tn_icmp_ge (tgt := 105) dX5_sum_16 (by decide) ⟨by omega, by omega⟩ ⟨by decide, by decide⟩ (fun h1 => ?_) (fun h1 => ?_)
    · exact tn_sub [0, 1, 2] rfl (hx_105 T (i2) σ hG hw (FrC.rfl.trans (FrC.sub hF (by decide))) h_a (by omega) True.intro (RP.up hrp (by omega)) (False.elim (by omega)))
    · refine tn_aload_n dX5_sum_19 rfl 0 rfl ?_
      obtain ⟨xq2, hx3, hk4⟩ : ∃ x : Nat, σ.2.1 33 a = (x : Int) ∧ (T x).1 = 39 := wf_33 hw h_a
      have hk4o : OB T xq2 9 := ⟨by omega, by rw [hk4]; rfl, by omega⟩
      refine tn_getR (ci := 5) (i := 0) (n := 33) (x := xq2) dX5_sum_20 rfl lay_5 (by decide) fl5_12 h_a rfl rfl (hx3) ?_
      refine tn_getI (ci := 9) (i := 4) (n := 85) (t := σ.2.1 85 xq2) dX5_sum_23 rfl lay_9 (by decide) fl5_71 hk4o rfl rfl (rfl) ?_
      have g6 : ((-2147483648 : Int) ≤ σ.2.1 85 xq2 ∧ σ.2.1 85 xq2 ≤ 2147483647) := wf_85 hw hk4o
      have g6kd : σ.2.1 85 xq2 = ckd (tkS Sx jy) := (rfl).symm.trans ((hfy).1.kd (hx3))
      refine tn_bipush dX5_sum_26 (by decide) ?_
      refine tn_icmp_eq (tgt := 43) dX5_sum_28 (by decide) ⟨by omega, by omega⟩ ⟨by decide, by decide⟩ (fun h7 => ?_) (fun h7 => ?_)
      · refine tn_aload_n dX5_sum_43 rfl 0 rfl ?_
        refine tn_getR (ci := 5) (i := 0) (n := 33) (x := xq2) dX5_sum_44 rfl lay_5 (by decide) fl5_12 h_a rfl rfl (hx3) ?_
        refine tn_getI (ci := 9) (i := 4) (n := 85) (t := σ.2.1 85 xq2) dX5_sum_47 rfl lay_9 (by decide) fl5_71 hk4o rfl rfl (rfl) ?_
        refine tn_bipush dX5_sum_50 (by decide) ?_
        refine tn_icmp_ne (tgt := 59) dX5_sum_52 (by decide) ⟨by omega, by omega⟩ ⟨by decide, by decide⟩ (fun h8 => absurd h8 (by omega)) (fun h8 => ?_)
        refine tn_iconst dX5_sum_55 ?_
        refine tn_goto (tgt := 60) dX5_sum_56 (by decide) ?_
        refine tn_istore_n (L' := [(3, .int (iI 1)), (0, .ref a), (1, .int (iI c1)), (2, .int (iI i2))]) dX5_sum_60 rfl (by decide) rfl ?_
        refine tn_aload_n dX5_sum_61 rfl 1 rfl ?_
        refine tn_getI (ci := 5) (i := 17) (n := 50) (t := σ.2.1 50 a) dX5_sum_62 rfl lay_5 (by decide) fl5_216 h_a rfl rfl (rfl) ?_
        have g9 : ((-2147483648 : Int) ≤ σ.2.1 50 a ∧ σ.2.1 50 a ≤ 2147483647) := wf_50 hw h_a
        have g9pk : σ.2.1 50 a = (mw).pk := (rfl).symm.trans (MG.e50 mgy)
        refine tn_istore (L' := [(4, .int (iI (σ.2.1 50 a))), (3, .int (iI 1)), (0, .ref a), (1, .int (iI c1)), (2, .int (iI i2))]) dX5_sum_65 (by decide) rfl ?_
        refine tn_aload_n dX5_sum_67 rfl 2 rfl ?_
        refine tn_getI (ci := 5) (i := 18) (n := 51) (t := σ.2.1 51 a) dX5_sum_68 rfl lay_5 (by decide) fl5_219 h_a rfl rfl (rfl) ?_
        have g10 : ((-2147483648 : Int) ≤ σ.2.1 51 a ∧ σ.2.1 51 a ≤ 2147483647) := wf_51 hw h_a
        have g10pv : σ.2.1 51 a = (mw).pv := (rfl).symm.trans (MG.e51 mgy)
        refine tn_istore (L' := [(5, .int (iI (σ.2.1 51 a))), (4, .int (iI (σ.2.1 50 a))), (3, .int (iI 1)), (0, .ref a), (1, .int (iI c1)), (2, .int (iI i2))]) dX5_sum_71 (by decide) rfl ?_
        refine tn_aload_n dX5_sum_73 rfl 3 rfl ?_
        refine tn_getR (ci := 5) (i := 0) (n := 33) (x := xq2) dX5_sum_74 rfl lay_5 (by decide) fl5_12 h_a rfl rfl (hx3) ?_
        refine tn_callV (M := m_X5_sum) (pc := 77) (ix := 93) (ci := 9) (M' := m_X9_next) (As := []) (rest := []) dX5_sum_77 ok_X9_next im_X9_next se_X9_next ml5_93 np_X9_next rfl rfl hk4o rfl (Nat.le_of_ble_eq_true rfl) (Nat.le_of_ble_eq_true rfl) rfl (k_X9_next_m (d + 5 * lv + 12) (T := T) (σ := σ) (a := xq2) hk4o hw (RP.tk hrp hw h_a (hx3)) ((hfy).1.tk (hx3)) (by rw [(hfy).1.kd (hx3)]; omega)) (fun r11 T13 σ12 gt14 hp => ?_)
        obtain ⟨rfl, rfl, w21, F22, f15, f16, f17, f18, f19⟩ := hp
        clear gt14
        have pc24 : EXR Sx (eo) [8] jy (eo) [4, 51, 8] (jy + 1) 0 [] := fun _ _ => x8p hSb (by omega)
        have pm25 : CN nm mx.rt (ey.foldl uC cx) (EXW Sx nm rnQ tb1 (eo) [8] jy (mw.on mx) (eo) [4, 51, 8] (jy + 1) 0 ((mw.on mx).pj 1)) := fun hn9 b9 u9 => GW.of (gm8p hSb (by omega)) rfl
        have rd26 : EXR Sx (eo) [3] jx (eo) [4, 51, 8] (jy + 1) (my + 0) (ey) := EXR.g0 (l := [8]) (ms := [4, 51, 8]) [] rdy pc24
        have rm27 : CN nm mx.rt (ey.foldl uC cx) (EXW Sx nm rnQ tb1 (eo) [3] jx mx (eo) [4, 51, 8] (jy + 1) (my + 0) ((mw.on mx).pj 1)) := CN.ge (l := [8]) (ms := [4, 51, 8]) [] cny (fun q9 => q9) pm25
        have fx23 : RDX σ12 a Sx nx (jy + 1) (ey.foldl uC cx) (Nx + my) := RDX.nx hfy hw h_a (hx3) F22 f18
        have rp28 : RP σ12 a (kp - 4) := RP.next4 hrp (hx3) F22 (by decide) (by decide) (by decide) f15 f17 (by rw [show σ.2.1 85 xq2 = σ.2.1 85 xq2 from rfl]; omega)
        show Tn _ _ 80 T σ12 [(5, .int (iI (σ.2.1 51 a))), (4, .int (iI (σ.2.1 50 a))), (3, .int (iI 1)), (0, .ref a), (1, .int (iI c1)), (2, .int (iI i2))] [] _
        refine tn_aload_n dX5_sum_80 rfl 3 rfl ?_
        refine tn_iload_n dX5_sum_81 rfl 4 rfl ?_
        have mg29 : MG Tg gs T σ12 a mw := (MG.tk mgy (hx3) f19)
        have sy30 : (mw).w = (((mw.on mx).pj 1)).w := rfl
        refine tn_callV (M := m_X5_sum) (pc := 82) (ix := 247) (ci := 5) (M' := m_X5_term) (As := [.int (iI c1)]) (rest := []) dX5_sum_82 ok_X5_term im_X5_term se_X5_term ml5_247 np_X5_term rfl rfl h_a rfl (Nat.le_of_ble_eq_true rfl) (Nat.le_of_ble_eq_true rfl) rfl (k_X5_term_m (d) (T := T) (σ := σ12) (a := a) (dp := c1) (kp := kp - 4) (lv := lv) (eo := eo) (nm := nm) (Tg := Tg) (gs := gs) (mx := ((mw.on mx).pj 1)) h_a (by omega) w21 hex (by omega) (by omega) fx23 (MG.cg mg29 sy30) (MBD.same mby sy30) (by omega) (by omega) rp28) (fun r31 T33 σ32 gt34 hp => ?_)
        obtain ⟨v38, rfl, w39, F40, f35, f36, f37⟩ := hp
        replace h_a : OB T33 a 5 := gt34.ob h_a
        have rp42 : RP σ32 a (kp - 4 * v38 - 4) := RP.up f37 (by omega)
        show Tn _ _ 85 T33 σ32 [(5, .int (iI (σ.2.1 51 a))), (4, .int (iI (σ.2.1 50 a))), (3, .int (iI 1)), (0, .ref a), (1, .int (iI c1)), (2, .int (iI i2))] [.int (iI v38)] _
        refine tn_if_ne (tgt := 90) dX5_sum_85 (by decide) ⟨by omega, by omega⟩ (fun h43 => ?_) (fun h43 => ?_)
        · refine tn_aload_n dX5_sum_90 rfl 3 rfl ?_
          refine tn_iload_n dX5_sum_91 rfl 2 rfl ?_
          refine tn_iload dX5_sum_92 1 rfl ?_
          refine tn_iload dX5_sum_94 0 rfl ?_
          obtain ⟨i44, es45, m46, mw47, lo48, rr49, fx50, ni51, mgq52, mb53, cn54⟩ := f36.1 (by omega)
          have pm55 : CN nm mx.rt (es45.foldl uC (ey.foldl uC cx)) (EXW Sx nm rnQ tb1 (eo) [4] (jy + 1) ((mw.on mx).pj 1) (eo) [] i44 m46 (mw47.on ((mw.on mx).pj 1))) := cn54
          have rd56 : EXR Sx (eo) [3] jx (eo) [51, 8] i44 (my + 0 + m46) (ey ++ es45) := EXR.gg (l := [4]) (ms := []) [51, 8] rd26 rr49
          have rm57 : CN nm mx.rt (es45.foldl uC (ey.foldl uC cx)) (EXW Sx nm rnQ tb1 (eo) [3] jx mx (eo) [51, 8] i44 (my + 0 + m46) (mw47.on ((mw.on mx).pj 1))) := CN.ge (l := [4]) (ms := []) [51, 8] rm27 (fun q9 => (fun q9 => q9) (NMA.fo ni51 q9)) pm55
          refine tn_callV (M := m_X5_sum) (pc := 96) (ix := 244) (ci := 5) (M' := m_X5_join) (As := [.int (iI 1), .int (iI (σ.2.1 50 a)), .int (iI (σ.2.1 51 a))]) (rest := []) dX5_sum_96 ok_X5_join im_X5_join se_X5_join ml5_244 np_X5_join rfl rfl h_a rfl (Nat.le_of_ble_eq_true rfl) (Nat.le_of_ble_eq_true rfl) rfl (k_X5_join_n (d + 5 * lv + 9) (T := T33) (σ := σ32) (a := a) (k := 1) (e := σ.2.1 50 a) (l := σ.2.1 51 a) (kp := kp - 4 * v38 - 4) (Tg := Tg) (gs := gs) (mx := mw47) h_a (by decide) (by omega) (by omega) w39 (by omega) (by omega) fx50 mgq52 mb53 (by omega) rp42) (fun r58 T60 σ59 gt61 hp => ?_)
          obtain ⟨rfl, w66, F67, f62, f63, f64⟩ := hp
          have mj68 := f63
          rw [show σ.2.1 50 a = (mw).pk from g9pk, show σ.2.1 51 a = (mw).pv from g10pv] at mj68
          replace h_a : OB T60 a 5 := gt61.ob h_a
          have rp70 : RP σ59 a (kp - 4 * v38 - 3) := RP.up f64 (by omega)
          show Tn _ _ 99 T60 σ59 [(5, .int (iI (σ.2.1 51 a))), (4, .int (iI (σ.2.1 50 a))), (3, .int (iI 1)), (0, .ref a), (1, .int (iI c1)), (2, .int (iI i2))] [] _
          refine tn_iinc (q0 := 5) (L' := [(2, .int (iI (i2 + 1))), (5, .int (iI (σ.2.1 51 a))), (4, .int (iI (σ.2.1 50 a))), (3, .int (iI 1)), (0, .ref a), (1, .int (iI c1))]) dX5_sum_99 rfl (by decide) rfl ?_
          refine tn_goto (tgt := 12) dX5_sum_102 (by decide) ?_
          have pc71 : EXR Sx (eo) [51] i44 (eo) [] i44 1 [] := fun _ _ => x51 hSb 
          have pm72 : CN nm mx.rt (es45.foldl uC (ey.foldl uC cx)) (EXW Sx nm rnQ tb1 (eo) [51] i44 (mw47.on ((mw.on mx).pj 1)) (eo) [] i44 1 ((mw47.on ((mw.on mx).pj 1)).one tb1)) := fun hn9 b9 u9 => GW.of (gm51 hSb ) rfl
          have rd73 : EXR Sx (eo) [3] jx (eo) [8] i44 (my + 0 + m46 + 1) (ey ++ es45) := EXR.g0 (l := [51]) (ms := []) [8] rd56 pc71
          have rm74 : CN nm mx.rt (es45.foldl uC (ey.foldl uC cx)) (EXW Sx nm rnQ tb1 (eo) [3] jx mx (eo) [8] i44 (my + 0 + m46 + 1) ((mw47.on ((mw.on mx).pj 1)).one tb1)) := CN.ge (l := [51]) (ms := []) [8] rm57 (fun q9 => q9) pm72
          have hz76e : ((mw47.on ((mw.on mx).pj 1)).one tb1) = (((mw47).jn (1) ((mw).pk) ((mw).pv))).on mx := rfl
          have hz76c : (es45.foldl uC (ey.foldl uC cx)) = (ey ++ es45).foldl uC cx := (by simp only [List.foldl_append, List.foldl_cons, List.foldl_nil])
          have hz76 : CN nm mx.rt ((ey ++ es45).foldl uC cx) (EXW Sx nm rnQ tb1 (eo) [3] jx mx (eo) [8] i44 (my + 0 + m46 + 1) ((((mw47).jn (1) ((mw).pk) ((mw).pv))).on mx)) := by
            have q9 := CN.up (c2 := es45.foldl uC (ey.foldl uC cx)) rm74 (fun q9 => q9)
            rw [hz76e, hz76c] at q9
            exact q9
          have hx75 : XSM σ59 a Sx nx (eo) [3] jx cx Nx (eo) [8] ((jx : Int) + 1 + (i2 + 1)) nm Tg gs T60 mx := ⟨i44, ey ++ es45, my + 0 + m46 + 1, ((mw47).jn (1) ((mw).pk) ((mw).pv)), (by omega), rd73, RDX.nq (RDX.cq f62 hz76c) (by omega), (NI2.app niy ni51), mj68, (MBD.jn mb53), hz76⟩
          exact tn_sub [4, 5, 0] rfl (ih _ (by omega) T60 (i2 + 1) σ59 (GT.trans (GT.trans hG gt34) gt61) w66 ((((FrC.rfl.trans (FrC.sub hF (by decide))).trans (FrC.sub (FrC.old F22 hG) (by decide))).trans (FrC.sub (FrC.old F40 hG) (by decide))).trans (FrC.sub (FrC.old F67 (GT.trans hG gt34)) (by decide))) h_a (by omega) hx75 (RP.up rp70 (by omega)) rfl)
        · obtain ⟨⟨pl77, g78, fx79⟩, nf80⟩ := f36.2 (by omega)
          have rf81 : EXF Sx (eo) [3] jx (pl77) := EXR.fl (l := [4]) [51, 8] rd26 g78
          exact tn_sub [3, 4, 5] rfl (hx_88 T33 (i2) σ32 (GT.trans hG gt34) w39 (((FrC.rfl.trans (FrC.sub hF (by decide))).trans (FrC.sub (FrC.old F22 hG) (by decide))).trans (FrC.sub (FrC.old F40 hG) (by decide))) h_a (by omega) True.intro (RP.up rp42 (by omega)) ⟨⟨_, rf81, fx79⟩, nf80⟩)
      · refine tn_aload_n dX5_sum_31 rfl 0 rfl ?_
        refine tn_getR (ci := 5) (i := 0) (n := 33) (x := xq2) dX5_sum_32 rfl lay_5 (by decide) fl5_12 h_a rfl rfl (hx3) ?_
        refine tn_getI (ci := 9) (i := 4) (n := 85) (t := σ.2.1 85 xq2) dX5_sum_35 rfl lay_9 (by decide) fl5_71 hk4o rfl rfl (rfl) ?_
        refine tn_bipush dX5_sum_38 (by decide) ?_
        refine tn_icmp_ne (tgt := 105) dX5_sum_40 (by decide) ⟨by omega, by omega⟩ ⟨by decide, by decide⟩ (fun h82 => ?_) (fun h82 => ?_)
        · have pc83 : EXR Sx (eo) [8] jy (eo) [] jy 0 [] := fun _ _ => x8n hSb (by omega) (by omega)
          have pm84 : CN nm mx.rt (ey.foldl uC cx) (EXW Sx nm rnQ tb1 (eo) [8] jy (mw.on mx) (eo) [] jy 0 (mw.on mx)) := fun hn9 b9 u9 => GW.of (gm8n hSb (by omega) (by omega)) rfl
          have rd85 : EXR Sx (eo) [3] jx (eo) [] jy (my + 0) (ey) := EXR.g0 (l := [8]) (ms := []) [] rdy pc83
          have rm86 : CN nm mx.rt (ey.foldl uC cx) (EXW Sx nm rnQ tb1 (eo) [3] jx mx (eo) [] jy (my + 0) (mw.on mx)) := CN.ge (l := [8]) (ms := []) [] cny (fun q9 => q9) pm84
          have hz88e : (mw.on mx) = (mw).on mx := rfl
          have hz88c : (ey.foldl uC cx) = (ey).foldl uC cx := rfl
          have hz88 : CN nm mx.rt ((ey).foldl uC cx) (EXW Sx nm rnQ tb1 (eo) [3] jx mx (eo) [] jy (my + 0) ((mw).on mx)) := by
            have q9 := CN.up (c2 := ey.foldl uC cx) rm86 (fun q9 => q9)
            rw [hz88e, hz88c] at q9
            exact q9
          have hx87 : XSM σ a Sx nx (eo) [3] jx cx Nx (eo) [] ((jx : Int) + 1) nm Tg gs T mx := ⟨jy, ey, my + 0, mw, (by omega), rd85, RDX.nq (RDX.cq hfy hz88c) (by omega), niy, mgy, mby, hz88⟩
          exact tn_sub [0, 1, 2] rfl (hx_105 T (i2) σ hG hw (FrC.rfl.trans (FrC.sub hF (by decide))) h_a (by omega) True.intro (RP.up hrp (by omega)) hx87)
        · refine tn_aload_n dX5_sum_43 rfl 0 rfl ?_
          refine tn_getR (ci := 5) (i := 0) (n := 33) (x := xq2) dX5_sum_44 rfl lay_5 (by decide) fl5_12 h_a rfl rfl (hx3) ?_
          refine tn_getI (ci := 9) (i := 4) (n := 85) (t := σ.2.1 85 xq2) dX5_sum_47 rfl lay_9 (by decide) fl5_71 hk4o rfl rfl (rfl) ?_
          refine tn_bipush dX5_sum_50 (by decide) ?_
          refine tn_icmp_ne (tgt := 59) dX5_sum_52 (by decide) ⟨by omega, by omega⟩ ⟨by decide, by decide⟩ (fun h89 => ?_) (fun h89 => absurd h89 (by omega))
          refine tn_iconst dX5_sum_59 ?_
          refine tn_istore_n (L' := [(3, .int (iI 2)), (0, .ref a), (1, .int (iI c1)), (2, .int (iI i2))]) dX5_sum_60 rfl (by decide) rfl ?_
          refine tn_aload_n dX5_sum_61 rfl 1 rfl ?_
          refine tn_getI (ci := 5) (i := 17) (n := 50) (t := σ.2.1 50 a) dX5_sum_62 rfl lay_5 (by decide) fl5_216 h_a rfl rfl (rfl) ?_
          have g90 : ((-2147483648 : Int) ≤ σ.2.1 50 a ∧ σ.2.1 50 a ≤ 2147483647) := wf_50 hw h_a
          have g90pk : σ.2.1 50 a = (mw).pk := (rfl).symm.trans (MG.e50 mgy)
          refine tn_istore (L' := [(4, .int (iI (σ.2.1 50 a))), (3, .int (iI 2)), (0, .ref a), (1, .int (iI c1)), (2, .int (iI i2))]) dX5_sum_65 (by decide) rfl ?_
          refine tn_aload_n dX5_sum_67 rfl 2 rfl ?_
          refine tn_getI (ci := 5) (i := 18) (n := 51) (t := σ.2.1 51 a) dX5_sum_68 rfl lay_5 (by decide) fl5_219 h_a rfl rfl (rfl) ?_
          have g91 : ((-2147483648 : Int) ≤ σ.2.1 51 a ∧ σ.2.1 51 a ≤ 2147483647) := wf_51 hw h_a
          have g91pv : σ.2.1 51 a = (mw).pv := (rfl).symm.trans (MG.e51 mgy)
          refine tn_istore (L' := [(5, .int (iI (σ.2.1 51 a))), (4, .int (iI (σ.2.1 50 a))), (3, .int (iI 2)), (0, .ref a), (1, .int (iI c1)), (2, .int (iI i2))]) dX5_sum_71 (by decide) rfl ?_
          refine tn_aload_n dX5_sum_73 rfl 3 rfl ?_
          refine tn_getR (ci := 5) (i := 0) (n := 33) (x := xq2) dX5_sum_74 rfl lay_5 (by decide) fl5_12 h_a rfl rfl (hx3) ?_
          refine tn_callV (M := m_X5_sum) (pc := 77) (ix := 93) (ci := 9) (M' := m_X9_next) (As := []) (rest := []) dX5_sum_77 ok_X9_next im_X9_next se_X9_next ml5_93 np_X9_next rfl rfl hk4o rfl (Nat.le_of_ble_eq_true rfl) (Nat.le_of_ble_eq_true rfl) rfl (k_X9_next_m (d + 5 * lv + 12) (T := T) (σ := σ) (a := xq2) hk4o hw (RP.tk hrp hw h_a (hx3)) ((hfy).1.tk (hx3)) (by rw [(hfy).1.kd (hx3)]; omega)) (fun r92 T94 σ93 gt95 hp => ?_)
          obtain ⟨rfl, rfl, w102, F103, f96, f97, f98, f99, f100⟩ := hp
          clear gt95
          have pc105 : EXR Sx (eo) [8] jy (eo) [4, 51, 8] (jy + 1) 0 [] := fun _ _ => x8m hSb (by omega)
          have pm106 : CN nm mx.rt (ey.foldl uC cx) (EXW Sx nm rnQ tb1 (eo) [8] jy (mw.on mx) (eo) [4, 51, 8] (jy + 1) 0 ((mw.on mx).pj 2)) := fun hn9 b9 u9 => GW.of (gm8m hSb (by omega)) rfl
          have rd107 : EXR Sx (eo) [3] jx (eo) [4, 51, 8] (jy + 1) (my + 0) (ey) := EXR.g0 (l := [8]) (ms := [4, 51, 8]) [] rdy pc105
          have rm108 : CN nm mx.rt (ey.foldl uC cx) (EXW Sx nm rnQ tb1 (eo) [3] jx mx (eo) [4, 51, 8] (jy + 1) (my + 0) ((mw.on mx).pj 2)) := CN.ge (l := [8]) (ms := [4, 51, 8]) [] cny (fun q9 => q9) pm106
          have fx104 : RDX σ93 a Sx nx (jy + 1) (ey.foldl uC cx) (Nx + my) := RDX.nx hfy hw h_a (hx3) F103 f99
          have rp109 : RP σ93 a (kp - 4) := RP.next4 hrp (hx3) F103 (by decide) (by decide) (by decide) f96 f98 (by rw [show σ.2.1 85 xq2 = σ.2.1 85 xq2 from rfl]; omega)
          show Tn _ _ 80 T σ93 [(5, .int (iI (σ.2.1 51 a))), (4, .int (iI (σ.2.1 50 a))), (3, .int (iI 2)), (0, .ref a), (1, .int (iI c1)), (2, .int (iI i2))] [] _
          refine tn_aload_n dX5_sum_80 rfl 3 rfl ?_
          refine tn_iload_n dX5_sum_81 rfl 4 rfl ?_
          have mg110 : MG Tg gs T σ93 a mw := (MG.tk mgy (hx3) f100)
          have sy111 : (mw).w = (((mw.on mx).pj 2)).w := rfl
          refine tn_callV (M := m_X5_sum) (pc := 82) (ix := 247) (ci := 5) (M' := m_X5_term) (As := [.int (iI c1)]) (rest := []) dX5_sum_82 ok_X5_term im_X5_term se_X5_term ml5_247 np_X5_term rfl rfl h_a rfl (Nat.le_of_ble_eq_true rfl) (Nat.le_of_ble_eq_true rfl) rfl (k_X5_term_m (d) (T := T) (σ := σ93) (a := a) (dp := c1) (kp := kp - 4) (lv := lv) (eo := eo) (nm := nm) (Tg := Tg) (gs := gs) (mx := ((mw.on mx).pj 2)) h_a (by omega) w102 hex (by omega) (by omega) fx104 (MG.cg mg110 sy111) (MBD.same mby sy111) (by omega) (by omega) rp109) (fun r112 T114 σ113 gt115 hp => ?_)
          obtain ⟨v119, rfl, w120, F121, f116, f117, f118⟩ := hp
          replace h_a : OB T114 a 5 := gt115.ob h_a
          have rp123 : RP σ113 a (kp - 4 * v119 - 4) := RP.up f118 (by omega)
          show Tn _ _ 85 T114 σ113 [(5, .int (iI (σ.2.1 51 a))), (4, .int (iI (σ.2.1 50 a))), (3, .int (iI 2)), (0, .ref a), (1, .int (iI c1)), (2, .int (iI i2))] [.int (iI v119)] _
          refine tn_if_ne (tgt := 90) dX5_sum_85 (by decide) ⟨by omega, by omega⟩ (fun h124 => ?_) (fun h124 => ?_)
          · refine tn_aload_n dX5_sum_90 rfl 3 rfl ?_
            refine tn_iload_n dX5_sum_91 rfl 2 rfl ?_
            refine tn_iload dX5_sum_92 1 rfl ?_
            refine tn_iload dX5_sum_94 0 rfl ?_
            obtain ⟨i125, es126, m127, mw128, lo129, rr130, fx131, ni132, mgq133, mb134, cn135⟩ := f117.1 (by omega)
            have pm136 : CN nm mx.rt (es126.foldl uC (ey.foldl uC cx)) (EXW Sx nm rnQ tb1 (eo) [4] (jy + 1) ((mw.on mx).pj 2) (eo) [] i125 m127 (mw128.on ((mw.on mx).pj 2))) := cn135
            have rd137 : EXR Sx (eo) [3] jx (eo) [51, 8] i125 (my + 0 + m127) (ey ++ es126) := EXR.gg (l := [4]) (ms := []) [51, 8] rd107 rr130
            have rm138 : CN nm mx.rt (es126.foldl uC (ey.foldl uC cx)) (EXW Sx nm rnQ tb1 (eo) [3] jx mx (eo) [51, 8] i125 (my + 0 + m127) (mw128.on ((mw.on mx).pj 2))) := CN.ge (l := [4]) (ms := []) [51, 8] rm108 (fun q9 => (fun q9 => q9) (NMA.fo ni132 q9)) pm136
            refine tn_callV (M := m_X5_sum) (pc := 96) (ix := 244) (ci := 5) (M' := m_X5_join) (As := [.int (iI 2), .int (iI (σ.2.1 50 a)), .int (iI (σ.2.1 51 a))]) (rest := []) dX5_sum_96 ok_X5_join im_X5_join se_X5_join ml5_244 np_X5_join rfl rfl h_a rfl (Nat.le_of_ble_eq_true rfl) (Nat.le_of_ble_eq_true rfl) rfl (k_X5_join_n (d + 5 * lv + 9) (T := T114) (σ := σ113) (a := a) (k := 2) (e := σ.2.1 50 a) (l := σ.2.1 51 a) (kp := kp - 4 * v119 - 4) (Tg := Tg) (gs := gs) (mx := mw128) h_a (by decide) (by omega) (by omega) w120 (by omega) (by omega) fx131 mgq133 mb134 (by omega) rp123) (fun r139 T141 σ140 gt142 hp => ?_)
            obtain ⟨rfl, w147, F148, f143, f144, f145⟩ := hp
            have mj149 := f144
            rw [show σ.2.1 50 a = (mw).pk from g90pk, show σ.2.1 51 a = (mw).pv from g91pv] at mj149
            replace h_a : OB T141 a 5 := gt142.ob h_a
            have rp151 : RP σ140 a (kp - 4 * v119 - 3) := RP.up f145 (by omega)
            show Tn _ _ 99 T141 σ140 [(5, .int (iI (σ.2.1 51 a))), (4, .int (iI (σ.2.1 50 a))), (3, .int (iI 2)), (0, .ref a), (1, .int (iI c1)), (2, .int (iI i2))] [] _
            refine tn_iinc (q0 := 5) (L' := [(2, .int (iI (i2 + 1))), (5, .int (iI (σ.2.1 51 a))), (4, .int (iI (σ.2.1 50 a))), (3, .int (iI 2)), (0, .ref a), (1, .int (iI c1))]) dX5_sum_99 rfl (by decide) rfl ?_
            refine tn_goto (tgt := 12) dX5_sum_102 (by decide) ?_
            have pc152 : EXR Sx (eo) [51] i125 (eo) [] i125 1 [] := fun _ _ => x51 hSb 
            have pm153 : CN nm mx.rt (es126.foldl uC (ey.foldl uC cx)) (EXW Sx nm rnQ tb1 (eo) [51] i125 (mw128.on ((mw.on mx).pj 2)) (eo) [] i125 1 ((mw128.on ((mw.on mx).pj 2)).one tb1)) := fun hn9 b9 u9 => GW.of (gm51 hSb ) rfl
            have rd154 : EXR Sx (eo) [3] jx (eo) [8] i125 (my + 0 + m127 + 1) (ey ++ es126) := EXR.g0 (l := [51]) (ms := []) [8] rd137 pc152
            have rm155 : CN nm mx.rt (es126.foldl uC (ey.foldl uC cx)) (EXW Sx nm rnQ tb1 (eo) [3] jx mx (eo) [8] i125 (my + 0 + m127 + 1) ((mw128.on ((mw.on mx).pj 2)).one tb1)) := CN.ge (l := [51]) (ms := []) [8] rm138 (fun q9 => q9) pm153
            have hz157e : ((mw128.on ((mw.on mx).pj 2)).one tb1) = (((mw128).jn (2) ((mw).pk) ((mw).pv))).on mx := rfl
            have hz157c : (es126.foldl uC (ey.foldl uC cx)) = (ey ++ es126).foldl uC cx := (by simp only [List.foldl_append, List.foldl_cons, List.foldl_nil])
            have hz157 : CN nm mx.rt ((ey ++ es126).foldl uC cx) (EXW Sx nm rnQ tb1 (eo) [3] jx mx (eo) [8] i125 (my + 0 + m127 + 1) ((((mw128).jn (2) ((mw).pk) ((mw).pv))).on mx)) := by
              have q9 := CN.up (c2 := es126.foldl uC (ey.foldl uC cx)) rm155 (fun q9 => q9)
              rw [hz157e, hz157c] at q9
              exact q9
            have hx156 : XSM σ140 a Sx nx (eo) [3] jx cx Nx (eo) [8] ((jx : Int) + 1 + (i2 + 1)) nm Tg gs T141 mx := ⟨i125, ey ++ es126, my + 0 + m127 + 1, ((mw128).jn (2) ((mw).pk) ((mw).pv)), (by omega), rd154, RDX.nq (RDX.cq f143 hz157c) (by omega), (NI2.app niy ni132), mj149, (MBD.jn mb134), hz157⟩
            exact tn_sub [4, 5, 0] rfl (ih _ (by omega) T141 (i2 + 1) σ140 (GT.trans (GT.trans hG gt115) gt142) w147 ((((FrC.rfl.trans (FrC.sub hF (by decide))).trans (FrC.sub (FrC.old F103 hG) (by decide))).trans (FrC.sub (FrC.old F121 hG) (by decide))).trans (FrC.sub (FrC.old F148 (GT.trans hG gt115)) (by decide))) h_a (by omega) hx156 (RP.up rp151 (by omega)) rfl)
          · obtain ⟨⟨pl158, g159, fx160⟩, nf161⟩ := f117.2 (by omega)
            have rf162 : EXF Sx (eo) [3] jx (pl158) := EXR.fl (l := [4]) [51, 8] rd107 g159
            exact tn_sub [3, 4, 5] rfl (hx_88 T114 (i2) σ113 (GT.trans hG gt115) w120 (((FrC.rfl.trans (FrC.sub hF (by decide))).trans (FrC.sub (FrC.old F103 hG) (by decide))).trans (FrC.sub (FrC.old F121 hG) (by decide))) h_a (by omega) True.intro (RP.up rp123 (by omega)) ⟨⟨_, rf162, fx160⟩, nf161⟩)
set_option maxHeartbeats 1000000 in
set_option maxRecDepth 20000 in
theorem k_X5_sum_m (d : Nat) {T : CT} {σ : MS} {a : Nat} {dp : Int} {kp : Int} {lv : Nat} {Sx : Int → Int} {nx jx : Nat} {cx : CS} {Nx : Int} {Tg : CT} {gs : MS} {mx : MK} {nm : Int → Int64 → Int} {eo : Int} (ha : OB T a 5) (h_dp : -2147483648 ≤ dp ∧ dp ≤ 2147483647) (hw : WT T σ) (hex : ∀ (d : Nat) {T : CT} {σ : MS} {a : Nat} {dp : Int} {kp : Int} {Sx : Int → Int} {nx jx : Nat} {cx : CS} {Nx : Int} {Tg : CT} {gs : MS} {mx : MK} {nm : Int → Int64 → Int} {eo : Int} (ha : OB T a 5) (h_dp : -2147483648 ≤ dp ∧ dp ≤ 2147483647) (hw : WT T σ) (hdp : 1 ≤ dp ∧ dp ≤ 9) (hlv : 9 ≤ dp + (lv : Int)) (hfx : RDX σ a Sx nx jx cx Nx) (hmg : MG Tg gs T σ a mx) (hmb : MBD mx) (heo : eo = dp - 1) (hkp : kp ≤ 150) (hrp : RP σ a kp), Tn (d + 5 * lv + 10) m_X5_expression 0 T σ [(0, .ref a), (1, .int (iI dp))] [] (fun ro T2 σ2 => ∃ v : Int, ro = some (.int (iI v)) ∧ WT T2 σ2 ∧ FrC T [5, 6, 7, 43, 44, 47, 50, 51, 84, 85, 86, 87, 521] σ σ2 ∧ (v = 0 ∨ v = 1) ∧ (XQM σ2 a Sx nx (eo) [2] jx cx Nx v nm Tg gs T2 mx) ∧ (RP σ2 a (kp - 4 * v)))) (hdp : 1 ≤ dp ∧ dp ≤ 8) (hlv : 8 ≤ dp + (lv : Int)) (hfx : RDX σ a Sx nx jx cx Nx) (hmg : MG Tg gs T σ a mx) (hmb : MBD mx) (heo : eo = dp) (hkp : kp ≤ 150) (hrp : RP σ a kp) : Tn (d + 5 * lv + 14) m_X5_sum 0 T σ [(0, .ref a), (1, .int (iI dp))] [] (fun ro T2 σ2 => ∃ v : Int, ro = some (.int (iI v)) ∧ WT T2 σ2 ∧ FrC T [5, 6, 7, 43, 44, 47, 50, 51, 84, 85, 86, 87, 521] σ σ2 ∧ (v = 0 ∨ v = 1) ∧ (XQM σ2 a Sx nx (eo) [3] jx cx Nx v nm Tg gs T2 mx) ∧ (RP σ2 a (kp - 4 * v))) := by
  have hSb := hfx.1.sb
  refine tn_aload_n dX5_sum_0 rfl 0 rfl ?_
  refine tn_iload_n dX5_sum_1 rfl 1 rfl ?_
  have pc1 : EXR Sx (eo) [3] jx (eo) [4, 8] jx 0 [] := fun _ _ => x3 hSb 
  have pm2 : CN nm mx.rt (cx) (EXW Sx nm rnQ tb1 (eo) [3] jx mx (eo) [4, 8] jx 0 mx) := fun hn9 b9 u9 => GW.of (gm3 hSb ) rfl
  have rd30 : EXR Sx (eo) [3] jx (eo) [3] jx (0) ([]) := EXR.nl
  have rd3 : EXR Sx (eo) [3] jx (eo) [4, 8] jx (0 + 0) ([]) := EXR.g0 (l := [3]) (ms := [4, 8]) [] rd30 pc1
  have rm40 : CN nm mx.rt (cx) (EXW Sx nm rnQ tb1 (eo) [3] jx mx (eo) [3] jx (0) mx) := fun _ => EXW.nl
  have rm4 : CN nm mx.rt (cx) (EXW Sx nm rnQ tb1 (eo) [3] jx mx (eo) [4, 8] jx (0 + 0) mx) := CN.ge (l := [3]) (ms := [4, 8]) [] rm40 (fun q9 => q9) pm2
  refine tn_callV (M := m_X5_sum) (pc := 2) (ix := 247) (ci := 5) (M' := m_X5_term) (As := [.int (iI dp)]) (rest := []) dX5_sum_2 ok_X5_term im_X5_term se_X5_term ml5_247 np_X5_term rfl rfl ha rfl (Nat.le_of_ble_eq_true rfl) (Nat.le_of_ble_eq_true rfl) rfl (k_X5_term_m (d) (T := T) (σ := σ) (a := a) (dp := dp) (kp := kp) (lv := lv) (eo := eo) (nm := nm) (Tg := Tg) (gs := gs) (mx := mx) ha (by omega) hw hex (by omega) (by omega) hfx hmg hmb (by omega) (by omega) hrp) (fun r5 T7 σ6 gt8 hp => ?_)
  obtain ⟨v12, rfl, w13, F14, f9, f10, f11⟩ := hp
  replace ha : OB T7 a 5 := gt8.ob ha
  show Tn _ _ 5 T7 σ6 [(0, .ref a), (1, .int (iI dp))] [.int (iI v12)] _
  refine tn_if_ne (tgt := 10) dX5_sum_5 (by decide) ⟨by omega, by omega⟩ (fun h16 => ?_) (fun h16 => ?_)
  · refine tn_iconst dX5_sum_10 ?_
    refine tn_istore_n (L' := [(2, .int (iI 0)), (0, .ref a), (1, .int (iI dp))]) dX5_sum_11 rfl (by decide) rfl ?_
    obtain ⟨i17, es18, m19, mw20, lo21, rr22, fx23, ni24, mgq25, mb26, cn27⟩ := f10.1 (by omega)
    have pm28 : CN nm mx.rt (es18.foldl uC (cx)) (EXW Sx nm rnQ tb1 (eo) [4] jx mx (eo) [] i17 m19 (mw20.on mx)) := cn27
    have rd29a : EXR Sx (eo) [3] jx (eo) [8] i17 (0 + 0 + m19) ([] ++ es18) := EXR.gg (l := [4]) (ms := []) [8] rd3 rr22
    have rd29 : EXR Sx (eo) [3] jx (eo) [8] i17 (0 + 0 + m19) (es18) := rd29a
    have rm30 : CN nm mx.rt (es18.foldl uC (cx)) (EXW Sx nm rnQ tb1 (eo) [3] jx mx (eo) [8] i17 (0 + 0 + m19) (mw20.on mx)) := CN.ge (l := [4]) (ms := []) [8] rm4 (fun q9 => (fun q9 => q9) (NMA.fo ni24 q9)) pm28
    have hz32e : (mw20.on mx) = (mw20).on mx := rfl
    have hz32c : (es18.foldl uC (cx)) = (es18).foldl uC cx := rfl
    have hz32 : CN nm mx.rt ((es18).foldl uC cx) (EXW Sx nm rnQ tb1 (eo) [3] jx mx (eo) [8] i17 (0 + 0 + m19) ((mw20).on mx)) := by
      have q9 := CN.up (c2 := es18.foldl uC (cx)) rm30 (fun q9 => q9)
      rw [hz32e, hz32c] at q9
      exact q9
    have hx31 : XSM σ6 a Sx nx (eo) [3] jx cx Nx (eo) [8] ((jx : Int) + 1 + (0)) nm Tg gs T7 mx := ⟨i17, es18, 0 + 0 + m19, mw20, (by omega), rd29, RDX.nq (RDX.cq fx23 hz32c) (by omega), ni24, mgq25, mb26, hz32⟩
    refine tn_sub [1, 2, 0] rfl (l_X5_sum_m_12 (d) (σ0 := σ6) (T0 := T7) (a := a) (c1 := dp) (kp := kp - 4 * v12) (lv := lv) (Sx := Sx) (nx := nx) (jx := jx) (cx := cx) (Nx := Nx) (nm := nm) (Tg := Tg) (gs := gs) (mx := mx) (eo := eo) (by omega) w13 (by omega) heo (by omega) hex (fun T35 i233 σ34 gt36 w37 F38 q39 r40 f41 f42 f43 => ?_) (fun T46 i244 σ45 gt47 w48 F49 q50 r51 f52 f53 f54 => ?_) _ T7 (0) σ6 GT.rfl w13 FrC.rfl ha (by omega) hx31 f11 rfl)
    · show Tn _ _ 88 T35 σ34 [(0, .ref a), (1, .int (iI dp)), (2, .int (iI i233))] [] _
      refine tn_iconst dX5_sum_88 ?_
      exact tn_zret (v := 0) rfl (by decide) dX5_sum_89 ⟨_, rfl, w37, ((FrC.rfl.trans (FrC.sub F14 (by decide))).trans (FrC.sub (FrC.old F38 gt8) (by decide))), by omega, ⟨fun q => absurd q (by decide), fun _ => f43⟩, (RP.up f42 (by omega))⟩
    · show Tn _ _ 105 T46 σ45 [(0, .ref a), (1, .int (iI dp)), (2, .int (iI i244))] [] _
      refine tn_iconst dX5_sum_105 ?_
      exact tn_zret (v := 1) rfl (by decide) dX5_sum_106 ⟨_, rfl, w48, ((FrC.rfl.trans (FrC.sub F14 (by decide))).trans (FrC.sub (FrC.old F49 gt8) (by decide))), by omega, ⟨fun _ => f54, fun q => absurd q (by decide)⟩, (RP.up f53 (by omega))⟩
  · refine tn_iconst dX5_sum_8 ?_
    obtain ⟨⟨pl57, g58, fx59⟩, nf60⟩ := f10.2 (by omega)
    have rf61 : EXF Sx (eo) [3] jx (pl57) := EXR.fl (l := [4]) [8] rd3 g58
    have rb56 : XFc σ6 a Sx (eo) [3] jx ∧ FG Tg gs T7 σ6 a := ⟨⟨_, rf61, fx59⟩, nf60⟩
    exact tn_zret (v := 0) rfl (by decide) dX5_sum_9 ⟨_, rfl, w13, (FrC.rfl.trans (FrC.sub F14 (by decide))), by omega, ⟨fun q => absurd q (by decide), fun _ => rb56⟩, (RP.up f11 (by omega))⟩
end
section
set_option maxHeartbeats 1000000 in
set_option maxRecDepth 20000 in
theorem k_X5_expression_m0 (d : Nat) {T : CT} {σ : MS} {a : Nat} {dp : Int} {kp : Int} {Sx : Int → Int} {nx jx : Nat} {cx : CS} {Nx : Int} {Tg : CT} {gs : MS} {mx : MK} {nm : Int → Int64 → Int} {eo : Int} (ha : OB T a 5) (h_dp : -2147483648 ≤ dp ∧ dp ≤ 2147483647) (hw : WT T σ) (h9 : 9 = dp) (hfx : RDX σ a Sx nx jx cx Nx) (hmg : MG Tg gs T σ a mx) (hmb : MBD mx) (heo : eo = dp - 1) (hkp : kp ≤ 150) (hrp : RP σ a kp) : Tn (d + 10) m_X5_expression 0 T σ [(0, .ref a), (1, .int (iI dp))] [] (fun ro T2 σ2 => ∃ v : Int, ro = some (.int (iI v)) ∧ WT T2 σ2 ∧ FrC T [5, 6, 7, 43, 44, 47, 50, 51, 84, 85, 86, 87, 521] σ σ2 ∧ (v = 0 ∨ v = 1) ∧ (XQM σ2 a Sx nx (eo) [2] jx cx Nx v nm Tg gs T2 mx) ∧ (RP σ2 a (kp - 4 * v))) := by
  have hSb := hfx.1.sb
  refine tn_iload_n dX5_expression_0 rfl 1 rfl ?_
  refine tn_bipush dX5_expression_1 (by decide) ?_
  refine tn_icmp_le (tgt := 11) dX5_expression_3 (by decide) ⟨by omega, by omega⟩ ⟨by decide, by decide⟩ (fun h1 => absurd h1 (by omega)) (fun h1 => ?_)
  refine tn_aload_n dX5_expression_6 rfl 0 rfl ?_
  refine tn_callV (M := m_X5_expression) (pc := 7) (ix := 90) (ci := 5) (M' := m_X5_refuse) (As := []) (rest := []) dX5_expression_7 ok_X5_refuse im_X5_refuse se_X5_refuse ml5_90 np_X5_refuse rfl rfl ha rfl (Nat.le_of_ble_eq_true rfl) (Nat.le_of_ble_eq_true rfl) rfl (k_X5_refuse_m (d + 8) (T := T) (σ := σ) (a := a) ha hw (hfx).1.1) (fun r2 T4 σ3 gt5 hp => ?_)
  obtain ⟨v11, rfl, rfl, w12, F13, f6, f7, f8, f9, f10⟩ := hp
  clear gt5
  have pc14 : EXF Sx (eo) [2] jx (tkS Sx jx).1 := fun _ _ => x2f hSb (by omega)
  have rf150 : EXR Sx (eo) [2] jx (eo) [2] jx (0) ([]) := EXR.nl
  have rf15 : EXF Sx (eo) [2] jx ((tkS Sx jx).1) := EXR.fl (l := [2]) [] rf150 pc14
  have rp16 : RP σ3 a (kp) := RP.frc hrp F13 (by decide) (by decide) (by decide) (by decide) (by decide)
  show Tn _ _ 10 T σ3 [(0, .ref a), (1, .int (iI dp))] [.int (iI v11)] _
  have mg19 : MG Tg gs T σ3 a mx := (MG.nt hmg f10)
  have rb18 : XFc σ3 a Sx (eo) [2] jx ∧ FG Tg gs T σ3 a := ⟨⟨_, rf15, f8⟩, (mg19).1⟩
  exact tn_zret (v := v11) rfl (by omega) dX5_expression_10 ⟨_, rfl, w12, (FrC.rfl.trans (FrC.sub F13 (by decide))), by omega, ⟨fun q => absurd q (by omega), fun _ => rb18⟩, (RP.up rp16 (by omega))⟩
end
section
set_option maxHeartbeats 1000000 in
set_option maxRecDepth 20000 in
theorem k_X5_expression_m1 (d : Nat) {T : CT} {σ : MS} {a : Nat} {dp : Int} {kp : Int} {lv : Nat} {Sx : Int → Int} {nx jx : Nat} {cx : CS} {Nx : Int} {Tg : CT} {gs : MS} {mx : MK} {nm : Int → Int64 → Int} {eo : Int} (ha : OB T a 5) (h_dp : -2147483648 ≤ dp ∧ dp ≤ 2147483647) (hw : WT T σ) (hex : ∀ (d : Nat) {T : CT} {σ : MS} {a : Nat} {dp : Int} {kp : Int} {Sx : Int → Int} {nx jx : Nat} {cx : CS} {Nx : Int} {Tg : CT} {gs : MS} {mx : MK} {nm : Int → Int64 → Int} {eo : Int} (ha : OB T a 5) (h_dp : -2147483648 ≤ dp ∧ dp ≤ 2147483647) (hw : WT T σ) (hdp : 1 ≤ dp ∧ dp ≤ 9) (hlv : 9 ≤ dp + (lv : Int)) (hfx : RDX σ a Sx nx jx cx Nx) (hmg : MG Tg gs T σ a mx) (hmb : MBD mx) (heo : eo = dp - 1) (hkp : kp ≤ 150) (hrp : RP σ a kp), Tn (d + 5 * lv + 10) m_X5_expression 0 T σ [(0, .ref a), (1, .int (iI dp))] [] (fun ro T2 σ2 => ∃ v : Int, ro = some (.int (iI v)) ∧ WT T2 σ2 ∧ FrC T [5, 6, 7, 43, 44, 47, 50, 51, 84, 85, 86, 87, 521] σ σ2 ∧ (v = 0 ∨ v = 1) ∧ (XQM σ2 a Sx nx (eo) [2] jx cx Nx v nm Tg gs T2 mx) ∧ (RP σ2 a (kp - 4 * v)))) (hdp : 1 ≤ dp ∧ dp ≤ 8) (hlv : 9 ≤ dp + ((lv : Int) + 1)) (hfx : RDX σ a Sx nx jx cx Nx) (hmg : MG Tg gs T σ a mx) (hmb : MBD mx) (heo : eo = dp - 1) (hkp : kp ≤ 150) (hrp : RP σ a kp) : Tn (d + 5 * lv + 15) m_X5_expression 0 T σ [(0, .ref a), (1, .int (iI dp))] [] (fun ro T2 σ2 => ∃ v : Int, ro = some (.int (iI v)) ∧ WT T2 σ2 ∧ FrC T [5, 6, 7, 43, 44, 47, 50, 51, 84, 85, 86, 87, 521] σ σ2 ∧ (v = 0 ∨ v = 1) ∧ (XQM σ2 a Sx nx (eo) [2] jx cx Nx v nm Tg gs T2 mx) ∧ (RP σ2 a (kp - 4 * v))) := by
  have hSb := hfx.1.sb
  refine tn_iload_n dX5_expression_0 rfl 1 rfl ?_
  refine tn_bipush dX5_expression_1 (by decide) ?_
  refine tn_icmp_le (tgt := 11) dX5_expression_3 (by decide) ⟨by omega, by omega⟩ ⟨by decide, by decide⟩ (fun h1 => ?_) (fun h1 => absurd h1 (by omega))
  refine tn_aload_n dX5_expression_11 rfl 0 rfl ?_
  refine tn_iload_n dX5_expression_12 rfl 1 rfl ?_
  have pc2 : EXR Sx (eo) [2] jx (eo + 1) [3, 6] jx 0 [] := fun _ _ => x2 hSb (by omega)
  have pm3 : CN nm mx.rt (cx) (EXW Sx nm rnQ tb1 (eo) [2] jx mx (eo + 1) [3, 6] jx 0 mx) := fun hn9 b9 u9 => GW.of (gm2 hSb (by omega)) rfl
  have rd40 : EXR Sx (eo) [2] jx (eo) [2] jx (0) ([]) := EXR.nl
  have rd4 : EXR Sx (eo) [2] jx (eo + 1) [3, 6] jx (0 + 0) ([]) := EXR.g0 (l := [2]) (ms := [3, 6]) [] rd40 pc2
  have rm50 : CN nm mx.rt (cx) (EXW Sx nm rnQ tb1 (eo) [2] jx mx (eo) [2] jx (0) mx) := fun _ => EXW.nl
  have rm5 : CN nm mx.rt (cx) (EXW Sx nm rnQ tb1 (eo) [2] jx mx (eo + 1) [3, 6] jx (0 + 0) mx) := CN.ge (l := [2]) (ms := [3, 6]) [] rm50 (fun q9 => q9) pm3
  refine tn_callV (M := m_X5_expression) (pc := 13) (ix := 241) (ci := 5) (M' := m_X5_sum) (As := [.int (iI dp)]) (rest := []) dX5_expression_13 ok_X5_sum im_X5_sum se_X5_sum ml5_241 np_X5_sum rfl rfl ha rfl (Nat.le_of_ble_eq_true rfl) (Nat.le_of_ble_eq_true rfl) rfl (k_X5_sum_m (d) (T := T) (σ := σ) (a := a) (dp := dp) (kp := kp) (lv := lv) (eo := eo + 1) (nm := nm) (Tg := Tg) (gs := gs) (mx := mx) ha (by omega) hw hex (by omega) (by omega) hfx hmg hmb (by omega) (by omega) hrp) (fun r6 T8 σ7 gt9 hp => ?_)
  obtain ⟨v13, rfl, w14, F15, f10, f11, f12⟩ := hp
  replace ha : OB T8 a 5 := gt9.ob ha
  show Tn _ _ 16 T8 σ7 [(0, .ref a), (1, .int (iI dp))] [.int (iI v13)] _
  refine tn_if_ne (tgt := 21) dX5_expression_16 (by decide) ⟨by omega, by omega⟩ (fun h17 => ?_) (fun h17 => ?_)
  · refine tn_aload_n dX5_expression_21 rfl 0 rfl ?_
    obtain ⟨xq18, hx19, hk20⟩ : ∃ x : Nat, σ7.2.1 33 a = (x : Int) ∧ (T8 x).1 = 39 := wf_33 w14 ha
    have hk20o : OB T8 xq18 9 := ⟨by omega, by rw [hk20]; rfl, by omega⟩
    refine tn_getR (ci := 5) (i := 0) (n := 33) (x := xq18) dX5_expression_22 rfl lay_5 (by decide) fl5_12 ha rfl rfl (hx19) ?_
    refine tn_getI (ci := 9) (i := 4) (n := 85) (t := σ7.2.1 85 xq18) dX5_expression_25 rfl lay_9 (by decide) fl5_71 hk20o rfl rfl (rfl) ?_
    have g22 : ((-2147483648 : Int) ≤ σ7.2.1 85 xq18 ∧ σ7.2.1 85 xq18 ≤ 2147483647) := wf_85 w14 hk20o
    obtain ⟨i23, es24, m25, mw26, lo27, rr28, fx29, ni30, mgq31, mb32, cn33⟩ := f11.1 (by omega)
    have pm34 : CN nm mx.rt (es24.foldl uC (cx)) (EXW Sx nm rnQ tb1 (eo + 1) [3] jx mx (eo + 1) [] i23 m25 (mw26.on mx)) := cn33
    have rd35a : EXR Sx (eo) [2] jx (eo + 1) [6] i23 (0 + 0 + m25) ([] ++ es24) := EXR.gg (l := [3]) (ms := []) [6] rd4 rr28
    have rd35 : EXR Sx (eo) [2] jx (eo + 1) [6] i23 (0 + 0 + m25) (es24) := rd35a
    have rm36 : CN nm mx.rt (es24.foldl uC (cx)) (EXW Sx nm rnQ tb1 (eo) [2] jx mx (eo + 1) [6] i23 (0 + 0 + m25) (mw26.on mx)) := CN.ge (l := [3]) (ms := []) [6] rm5 (fun q9 => (fun q9 => q9) (NMA.fo ni30 q9)) pm34
    have g22kd : σ7.2.1 85 xq18 = ckd (tkS Sx i23) := (rfl).symm.trans ((fx29).1.kd (hx19))
    refine tn_bipush dX5_expression_28 (by decide) ?_
    refine tn_icmp_eq (tgt := 47) dX5_expression_30 (by decide) ⟨by omega, by omega⟩ ⟨by decide, by decide⟩ (fun h37 => ?_) (fun h37 => ?_)
    · refine tn_aload_n dX5_expression_47 rfl 0 rfl ?_
      refine tn_getR (ci := 5) (i := 0) (n := 33) (x := xq18) dX5_expression_48 rfl lay_5 (by decide) fl5_12 ha rfl rfl (hx19) ?_
      refine tn_getI (ci := 9) (i := 4) (n := 85) (t := σ7.2.1 85 xq18) dX5_expression_51 rfl lay_9 (by decide) fl5_71 hk20o rfl rfl (rfl) ?_
      refine tn_bipush dX5_expression_54 (by decide) ?_
      refine tn_icmp_ne (tgt := 63) dX5_expression_56 (by decide) ⟨by omega, by omega⟩ ⟨by decide, by decide⟩ (fun h38 => absurd h38 (by omega)) (fun h38 => ?_)
      refine tn_iconst dX5_expression_59 ?_
      refine tn_goto (tgt := 64) dX5_expression_60 (by decide) ?_
      refine tn_istore_n (L' := [(2, .int (iI 4)), (0, .ref a), (1, .int (iI dp))]) dX5_expression_64 rfl (by decide) rfl ?_
      refine tn_aload_n dX5_expression_65 rfl 1 rfl ?_
      refine tn_getI (ci := 5) (i := 17) (n := 50) (t := σ7.2.1 50 a) dX5_expression_66 rfl lay_5 (by decide) fl5_216 ha rfl rfl (rfl) ?_
      have g39 : ((-2147483648 : Int) ≤ σ7.2.1 50 a ∧ σ7.2.1 50 a ≤ 2147483647) := wf_50 w14 ha
      have g39pk : σ7.2.1 50 a = (mw26).pk := (rfl).symm.trans (MG.e50 mgq31)
      refine tn_istore_n (L' := [(3, .int (iI (σ7.2.1 50 a))), (2, .int (iI 4)), (0, .ref a), (1, .int (iI dp))]) dX5_expression_69 rfl (by decide) rfl ?_
      refine tn_aload_n dX5_expression_70 rfl 2 rfl ?_
      refine tn_getI (ci := 5) (i := 18) (n := 51) (t := σ7.2.1 51 a) dX5_expression_71 rfl lay_5 (by decide) fl5_219 ha rfl rfl (rfl) ?_
      have g40 : ((-2147483648 : Int) ≤ σ7.2.1 51 a ∧ σ7.2.1 51 a ≤ 2147483647) := wf_51 w14 ha
      have g40pv : σ7.2.1 51 a = (mw26).pv := (rfl).symm.trans (MG.e51 mgq31)
      refine tn_istore (L' := [(4, .int (iI (σ7.2.1 51 a))), (3, .int (iI (σ7.2.1 50 a))), (2, .int (iI 4)), (0, .ref a), (1, .int (iI dp))]) dX5_expression_74 (by decide) rfl ?_
      refine tn_aload_n dX5_expression_76 rfl 3 rfl ?_
      refine tn_getR (ci := 5) (i := 0) (n := 33) (x := xq18) dX5_expression_77 rfl lay_5 (by decide) fl5_12 ha rfl rfl (hx19) ?_
      refine tn_callV (M := m_X5_expression) (pc := 80) (ix := 93) (ci := 9) (M' := m_X9_next) (As := []) (rest := []) dX5_expression_80 ok_X9_next im_X9_next se_X9_next ml5_93 np_X9_next rfl rfl hk20o rfl (Nat.le_of_ble_eq_true rfl) (Nat.le_of_ble_eq_true rfl) rfl (k_X9_next_m (d + 5 * lv + 13) (T := T8) (σ := σ7) (a := xq18) hk20o w14 (RP.tk f12 w14 ha (hx19)) ((fx29).1.tk (hx19)) (by rw [(fx29).1.kd (hx19)]; omega)) (fun r41 T43 σ42 gt44 hp => ?_)
      obtain ⟨rfl, rfl, w51, F52, f45, f46, f47, f48, f49⟩ := hp
      clear gt44
      have pc54 : EXR Sx (eo + 1) [6] i23 (eo + 1) [3, 51, 7] (i23 + 1) 0 [] := fun _ _ => x6e hSb (by omega)
      have pm55 : CN nm mx.rt (es24.foldl uC (cx)) (EXW Sx nm rnQ tb1 (eo + 1) [6] i23 (mw26.on mx) (eo + 1) [3, 51, 7] (i23 + 1) 0 ((mw26.on mx).pj 4)) := fun hn9 b9 u9 => GW.of (gm6e hSb (by omega)) rfl
      have rd56 : EXR Sx (eo) [2] jx (eo + 1) [3, 51, 7] (i23 + 1) (0 + 0 + m25 + 0) (es24) := EXR.g0 (l := [6]) (ms := [3, 51, 7]) [] rd35 pc54
      have rm57 : CN nm mx.rt (es24.foldl uC (cx)) (EXW Sx nm rnQ tb1 (eo) [2] jx mx (eo + 1) [3, 51, 7] (i23 + 1) (0 + 0 + m25 + 0) ((mw26.on mx).pj 4)) := CN.ge (l := [6]) (ms := [3, 51, 7]) [] rm36 (fun q9 => q9) pm55
      have fx53 : RDX σ42 a Sx nx (i23 + 1) (es24.foldl uC (cx)) (Nx + m25) := RDX.nx fx29 w14 ha (hx19) F52 f48
      have rp58 : RP σ42 a (kp - 4 * v13 - 4) := RP.next4 f12 (hx19) F52 (by decide) (by decide) (by decide) f45 f47 (by rw [show σ7.2.1 85 xq18 = σ7.2.1 85 xq18 from rfl]; omega)
      show Tn _ _ 83 T8 σ42 [(4, .int (iI (σ7.2.1 51 a))), (3, .int (iI (σ7.2.1 50 a))), (2, .int (iI 4)), (0, .ref a), (1, .int (iI dp))] [] _
      refine tn_aload_n dX5_expression_83 rfl 3 rfl ?_
      refine tn_iload_n dX5_expression_84 rfl 4 rfl ?_
      have mg59 : MG Tg gs T8 σ42 a mw26 := (MG.tk mgq31 (hx19) f49)
      have sy60 : (mw26).w = (((mw26.on mx).pj 4)).w := rfl
      refine tn_callV (M := m_X5_expression) (pc := 85) (ix := 241) (ci := 5) (M' := m_X5_sum) (As := [.int (iI dp)]) (rest := []) dX5_expression_85 ok_X5_sum im_X5_sum se_X5_sum ml5_241 np_X5_sum rfl rfl ha rfl (Nat.le_of_ble_eq_true rfl) (Nat.le_of_ble_eq_true rfl) rfl (k_X5_sum_m (d) (T := T8) (σ := σ42) (a := a) (dp := dp) (kp := kp - 4 * v13 - 4) (lv := lv) (eo := eo + 1) (nm := nm) (Tg := Tg) (gs := gs) (mx := ((mw26.on mx).pj 4)) ha (by omega) w51 hex (by omega) (by omega) fx53 (MG.cg mg59 sy60) (MBD.same mb32 sy60) (by omega) (by omega) rp58) (fun r61 T63 σ62 gt64 hp => ?_)
      obtain ⟨v68, rfl, w69, F70, f65, f66, f67⟩ := hp
      replace ha : OB T63 a 5 := gt64.ob ha
      have rp72 : RP σ62 a (kp - 4 * v13 - 4 * v68 - 4) := RP.up f67 (by omega)
      show Tn _ _ 88 T63 σ62 [(4, .int (iI (σ7.2.1 51 a))), (3, .int (iI (σ7.2.1 50 a))), (2, .int (iI 4)), (0, .ref a), (1, .int (iI dp))] [.int (iI v68)] _
      refine tn_if_ne (tgt := 93) dX5_expression_88 (by decide) ⟨by omega, by omega⟩ (fun h73 => ?_) (fun h73 => ?_)
      · refine tn_aload_n dX5_expression_93 rfl 3 rfl ?_
        refine tn_iload_n dX5_expression_94 rfl 2 rfl ?_
        refine tn_iload_n dX5_expression_95 rfl 1 rfl ?_
        refine tn_iload dX5_expression_96 0 rfl ?_
        obtain ⟨i74, es75, m76, mw77, lo78, rr79, fx80, ni81, mgq82, mb83, cn84⟩ := f66.1 (by omega)
        have pm85 : CN nm mx.rt (es75.foldl uC (es24.foldl uC (cx))) (EXW Sx nm rnQ tb1 (eo + 1) [3] (i23 + 1) ((mw26.on mx).pj 4) (eo + 1) [] i74 m76 (mw77.on ((mw26.on mx).pj 4))) := cn84
        have rd86 : EXR Sx (eo) [2] jx (eo + 1) [51, 7] i74 (0 + 0 + m25 + 0 + m76) (es24 ++ es75) := EXR.gg (l := [3]) (ms := []) [51, 7] rd56 rr79
        have rm87 : CN nm mx.rt (es75.foldl uC (es24.foldl uC (cx))) (EXW Sx nm rnQ tb1 (eo) [2] jx mx (eo + 1) [51, 7] i74 (0 + 0 + m25 + 0 + m76) (mw77.on ((mw26.on mx).pj 4))) := CN.ge (l := [3]) (ms := []) [51, 7] rm57 (fun q9 => (fun q9 => q9) (NMA.fo ni81 q9)) pm85
        refine tn_callV (M := m_X5_expression) (pc := 98) (ix := 244) (ci := 5) (M' := m_X5_join) (As := [.int (iI 4), .int (iI (σ7.2.1 50 a)), .int (iI (σ7.2.1 51 a))]) (rest := []) dX5_expression_98 ok_X5_join im_X5_join se_X5_join ml5_244 np_X5_join rfl rfl ha rfl (Nat.le_of_ble_eq_true rfl) (Nat.le_of_ble_eq_true rfl) rfl (k_X5_join_n (d + 5 * lv + 10) (T := T63) (σ := σ62) (a := a) (k := 4) (e := σ7.2.1 50 a) (l := σ7.2.1 51 a) (kp := kp - 4 * v13 - 4 * v68 - 4) (Tg := Tg) (gs := gs) (mx := mw77) ha (by decide) (by omega) (by omega) w69 (by omega) (by omega) fx80 mgq82 mb83 (by omega) rp72) (fun r88 T90 σ89 gt91 hp => ?_)
        obtain ⟨rfl, w96, F97, f92, f93, f94⟩ := hp
        have mj98 := f93
        rw [show σ7.2.1 50 a = (mw26).pk from g39pk, show σ7.2.1 51 a = (mw26).pv from g40pv] at mj98
        replace ha : OB T90 a 5 := gt91.ob ha
        have rp100 : RP σ89 a (kp - 4 * v13 - 4 * v68 - 3) := RP.up f94 (by omega)
        show Tn _ _ 101 T90 σ89 [(4, .int (iI (σ7.2.1 51 a))), (3, .int (iI (σ7.2.1 50 a))), (2, .int (iI 4)), (0, .ref a), (1, .int (iI dp))] [] _
        refine tn_iconst dX5_expression_101 ?_
        have pc105 : EXR Sx (eo + 1) [51] i74 (eo + 1) [] i74 1 [] := fun _ _ => x51 hSb 
        have pm106 : CN nm mx.rt (es75.foldl uC (es24.foldl uC (cx))) (EXW Sx nm rnQ tb1 (eo + 1) [51] i74 (mw77.on ((mw26.on mx).pj 4)) (eo + 1) [] i74 1 ((mw77.on ((mw26.on mx).pj 4)).one tb1)) := fun hn9 b9 u9 => GW.of (gm51 hSb ) rfl
        have rd107 : EXR Sx (eo) [2] jx (eo + 1) [7] i74 (0 + 0 + m25 + 0 + m76 + 1) (es24 ++ es75) := EXR.g0 (l := [51]) (ms := []) [7] rd86 pc105
        have rm108 : CN nm mx.rt (es75.foldl uC (es24.foldl uC (cx))) (EXW Sx nm rnQ tb1 (eo) [2] jx mx (eo + 1) [7] i74 (0 + 0 + m25 + 0 + m76 + 1) ((mw77.on ((mw26.on mx).pj 4)).one tb1)) := CN.ge (l := [51]) (ms := []) [7] rm87 (fun q9 => q9) pm106
        have pc109 : EXR Sx (eo + 1) [7] i74 (eo) [] i74 0 [] := fun b9 u9 => by have q9 := x7 (S := Sx) (j := i74) (e := eo + 1) (b := b9) (u := u9) hSb; rw [show eo + 1 - 1 = eo by omega] at q9; exact q9
        have pm110 : CN nm mx.rt (es75.foldl uC (es24.foldl uC (cx))) (EXW Sx nm rnQ tb1 (eo + 1) [7] i74 ((mw77.on ((mw26.on mx).pj 4)).one tb1) (eo) [] i74 0 ((mw77.on ((mw26.on mx).pj 4)).one tb1)) := fun _ b9 u9 => by have q9 := GW.of (m0 := ((mw77.on ((mw26.on mx).pj 4)).one tb1)) (m1 := ((mw77.on ((mw26.on mx).pj 4)).one tb1)) (gm7 (S := Sx) (nm := nm) (rn := rnQ) (tb := tb1) (j := i74) (e := eo + 1) (b := b9) (u := u9) hSb) rfl; rw [show eo + 1 - 1 = eo by omega] at q9; exact q9
        have rd111 : EXR Sx (eo) [2] jx (eo) [] i74 (0 + 0 + m25 + 0 + m76 + 1 + 0) (es24 ++ es75) := EXR.g0 (l := [7]) (ms := []) [] rd107 pc109
        have rm112 : CN nm mx.rt (es75.foldl uC (es24.foldl uC (cx))) (EXW Sx nm rnQ tb1 (eo) [2] jx mx (eo) [] i74 (0 + 0 + m25 + 0 + m76 + 1 + 0) ((mw77.on ((mw26.on mx).pj 4)).one tb1)) := CN.ge (l := [7]) (ms := []) [] rm108 (fun q9 => q9) pm110
        have hz113e : ((mw77.on ((mw26.on mx).pj 4)).one tb1) = (((mw77).jn (4) ((mw26).pk) ((mw26).pv))).on mx := rfl
        have hz113c : (es75.foldl uC (es24.foldl uC (cx))) = (es24 ++ es75).foldl uC cx := (by simp only [List.foldl_append, List.foldl_cons, List.foldl_nil])
        have hz113 : CN nm mx.rt ((es24 ++ es75).foldl uC cx) (EXW Sx nm rnQ tb1 (eo) [2] jx mx (eo) [] i74 (0 + 0 + m25 + 0 + m76 + 1 + 0) ((((mw77).jn (4) ((mw26).pk) ((mw26).pv))).on mx)) := by
          have q9 := CN.up (c2 := es75.foldl uC (es24.foldl uC (cx))) rm112 (fun q9 => q9)
          rw [hz113e, hz113c] at q9
          exact q9
        have ra103 : XSM σ89 a Sx nx (eo) [2] jx cx Nx (eo) [] ((jx : Int) + 1) nm Tg gs T90 mx := ⟨i74, es24 ++ es75, 0 + 0 + m25 + 0 + m76 + 1 + 0, ((mw77).jn (4) ((mw26).pk) ((mw26).pv)), (by omega), rd111, RDX.nq (RDX.cq f92 hz113c) (by omega), (NI2.app ni30 ni81), mj98, (MBD.jn mb83), hz113⟩
        exact tn_zret (v := 1) rfl (by decide) dX5_expression_102 ⟨_, rfl, w96, ((((FrC.rfl.trans (FrC.sub F15 (by decide))).trans (FrC.sub (FrC.old F52 gt9) (by decide))).trans (FrC.sub (FrC.old F70 gt9) (by decide))).trans (FrC.sub (FrC.old F97 (GT.trans gt9 gt64)) (by decide))), by omega, ⟨fun _ => ra103, fun q => absurd q (by decide)⟩, (RP.up rp100 (by omega))⟩
      · refine tn_iconst dX5_expression_91 ?_
        obtain ⟨⟨pl116, g117, fx118⟩, nf119⟩ := f66.2 (by omega)
        have rf120 : EXF Sx (eo) [2] jx (pl116) := EXR.fl (l := [3]) [51, 7] rd56 g117
        have rb115 : XFc σ62 a Sx (eo) [2] jx ∧ FG Tg gs T63 σ62 a := ⟨⟨_, rf120, fx118⟩, nf119⟩
        exact tn_zret (v := 0) rfl (by decide) dX5_expression_92 ⟨_, rfl, w69, (((FrC.rfl.trans (FrC.sub F15 (by decide))).trans (FrC.sub (FrC.old F52 gt9) (by decide))).trans (FrC.sub (FrC.old F70 gt9) (by decide))), by omega, ⟨fun q => absurd q (by decide), fun _ => rb115⟩, (RP.up rp72 (by omega))⟩
    · refine tn_aload_n dX5_expression_33 rfl 0 rfl ?_
      refine tn_getR (ci := 5) (i := 0) (n := 33) (x := xq18) dX5_expression_34 rfl lay_5 (by decide) fl5_12 ha rfl rfl (hx19) ?_
      refine tn_getI (ci := 9) (i := 4) (n := 85) (t := σ7.2.1 85 xq18) dX5_expression_37 rfl lay_9 (by decide) fl5_71 hk20o rfl rfl (rfl) ?_
      refine tn_bipush dX5_expression_40 (by decide) ?_
      refine tn_icmp_eq (tgt := 47) dX5_expression_42 (by decide) ⟨by omega, by omega⟩ ⟨by decide, by decide⟩ (fun h121 => ?_) (fun h121 => ?_)
      · refine tn_aload_n dX5_expression_47 rfl 0 rfl ?_
        refine tn_getR (ci := 5) (i := 0) (n := 33) (x := xq18) dX5_expression_48 rfl lay_5 (by decide) fl5_12 ha rfl rfl (hx19) ?_
        refine tn_getI (ci := 9) (i := 4) (n := 85) (t := σ7.2.1 85 xq18) dX5_expression_51 rfl lay_9 (by decide) fl5_71 hk20o rfl rfl (rfl) ?_
        refine tn_bipush dX5_expression_54 (by decide) ?_
        refine tn_icmp_ne (tgt := 63) dX5_expression_56 (by decide) ⟨by omega, by omega⟩ ⟨by decide, by decide⟩ (fun h122 => ?_) (fun h122 => absurd h122 (by omega))
        refine tn_iconst dX5_expression_63 ?_
        refine tn_istore_n (L' := [(2, .int (iI 5)), (0, .ref a), (1, .int (iI dp))]) dX5_expression_64 rfl (by decide) rfl ?_
        refine tn_aload_n dX5_expression_65 rfl 1 rfl ?_
        refine tn_getI (ci := 5) (i := 17) (n := 50) (t := σ7.2.1 50 a) dX5_expression_66 rfl lay_5 (by decide) fl5_216 ha rfl rfl (rfl) ?_
        have g123 : ((-2147483648 : Int) ≤ σ7.2.1 50 a ∧ σ7.2.1 50 a ≤ 2147483647) := wf_50 w14 ha
        have g123pk : σ7.2.1 50 a = (mw26).pk := (rfl).symm.trans (MG.e50 mgq31)
        refine tn_istore_n (L' := [(3, .int (iI (σ7.2.1 50 a))), (2, .int (iI 5)), (0, .ref a), (1, .int (iI dp))]) dX5_expression_69 rfl (by decide) rfl ?_
        refine tn_aload_n dX5_expression_70 rfl 2 rfl ?_
        refine tn_getI (ci := 5) (i := 18) (n := 51) (t := σ7.2.1 51 a) dX5_expression_71 rfl lay_5 (by decide) fl5_219 ha rfl rfl (rfl) ?_
        have g124 : ((-2147483648 : Int) ≤ σ7.2.1 51 a ∧ σ7.2.1 51 a ≤ 2147483647) := wf_51 w14 ha
        have g124pv : σ7.2.1 51 a = (mw26).pv := (rfl).symm.trans (MG.e51 mgq31)
        refine tn_istore (L' := [(4, .int (iI (σ7.2.1 51 a))), (3, .int (iI (σ7.2.1 50 a))), (2, .int (iI 5)), (0, .ref a), (1, .int (iI dp))]) dX5_expression_74 (by decide) rfl ?_
        refine tn_aload_n dX5_expression_76 rfl 3 rfl ?_
        refine tn_getR (ci := 5) (i := 0) (n := 33) (x := xq18) dX5_expression_77 rfl lay_5 (by decide) fl5_12 ha rfl rfl (hx19) ?_
        refine tn_callV (M := m_X5_expression) (pc := 80) (ix := 93) (ci := 9) (M' := m_X9_next) (As := []) (rest := []) dX5_expression_80 ok_X9_next im_X9_next se_X9_next ml5_93 np_X9_next rfl rfl hk20o rfl (Nat.le_of_ble_eq_true rfl) (Nat.le_of_ble_eq_true rfl) rfl (k_X9_next_m (d + 5 * lv + 13) (T := T8) (σ := σ7) (a := xq18) hk20o w14 (RP.tk f12 w14 ha (hx19)) ((fx29).1.tk (hx19)) (by rw [(fx29).1.kd (hx19)]; omega)) (fun r125 T127 σ126 gt128 hp => ?_)
        obtain ⟨rfl, rfl, w135, F136, f129, f130, f131, f132, f133⟩ := hp
        clear gt128
        have pc138 : EXR Sx (eo + 1) [6] i23 (eo + 1) [3, 51, 7] (i23 + 1) 0 [] := fun _ _ => x6l hSb (by omega)
        have pm139 : CN nm mx.rt (es24.foldl uC (cx)) (EXW Sx nm rnQ tb1 (eo + 1) [6] i23 (mw26.on mx) (eo + 1) [3, 51, 7] (i23 + 1) 0 ((mw26.on mx).pj 5)) := fun hn9 b9 u9 => GW.of (gm6l hSb (by omega)) rfl
        have rd140 : EXR Sx (eo) [2] jx (eo + 1) [3, 51, 7] (i23 + 1) (0 + 0 + m25 + 0) (es24) := EXR.g0 (l := [6]) (ms := [3, 51, 7]) [] rd35 pc138
        have rm141 : CN nm mx.rt (es24.foldl uC (cx)) (EXW Sx nm rnQ tb1 (eo) [2] jx mx (eo + 1) [3, 51, 7] (i23 + 1) (0 + 0 + m25 + 0) ((mw26.on mx).pj 5)) := CN.ge (l := [6]) (ms := [3, 51, 7]) [] rm36 (fun q9 => q9) pm139
        have fx137 : RDX σ126 a Sx nx (i23 + 1) (es24.foldl uC (cx)) (Nx + m25) := RDX.nx fx29 w14 ha (hx19) F136 f132
        have rp142 : RP σ126 a (kp - 4 * v13 - 4) := RP.next4 f12 (hx19) F136 (by decide) (by decide) (by decide) f129 f131 (by rw [show σ7.2.1 85 xq18 = σ7.2.1 85 xq18 from rfl]; omega)
        show Tn _ _ 83 T8 σ126 [(4, .int (iI (σ7.2.1 51 a))), (3, .int (iI (σ7.2.1 50 a))), (2, .int (iI 5)), (0, .ref a), (1, .int (iI dp))] [] _
        refine tn_aload_n dX5_expression_83 rfl 3 rfl ?_
        refine tn_iload_n dX5_expression_84 rfl 4 rfl ?_
        have mg143 : MG Tg gs T8 σ126 a mw26 := (MG.tk mgq31 (hx19) f133)
        have sy144 : (mw26).w = (((mw26.on mx).pj 5)).w := rfl
        refine tn_callV (M := m_X5_expression) (pc := 85) (ix := 241) (ci := 5) (M' := m_X5_sum) (As := [.int (iI dp)]) (rest := []) dX5_expression_85 ok_X5_sum im_X5_sum se_X5_sum ml5_241 np_X5_sum rfl rfl ha rfl (Nat.le_of_ble_eq_true rfl) (Nat.le_of_ble_eq_true rfl) rfl (k_X5_sum_m (d) (T := T8) (σ := σ126) (a := a) (dp := dp) (kp := kp - 4 * v13 - 4) (lv := lv) (eo := eo + 1) (nm := nm) (Tg := Tg) (gs := gs) (mx := ((mw26.on mx).pj 5)) ha (by omega) w135 hex (by omega) (by omega) fx137 (MG.cg mg143 sy144) (MBD.same mb32 sy144) (by omega) (by omega) rp142) (fun r145 T147 σ146 gt148 hp => ?_)
        obtain ⟨v152, rfl, w153, F154, f149, f150, f151⟩ := hp
        replace ha : OB T147 a 5 := gt148.ob ha
        have rp156 : RP σ146 a (kp - 4 * v13 - 4 * v152 - 4) := RP.up f151 (by omega)
        show Tn _ _ 88 T147 σ146 [(4, .int (iI (σ7.2.1 51 a))), (3, .int (iI (σ7.2.1 50 a))), (2, .int (iI 5)), (0, .ref a), (1, .int (iI dp))] [.int (iI v152)] _
        refine tn_if_ne (tgt := 93) dX5_expression_88 (by decide) ⟨by omega, by omega⟩ (fun h157 => ?_) (fun h157 => ?_)
        · refine tn_aload_n dX5_expression_93 rfl 3 rfl ?_
          refine tn_iload_n dX5_expression_94 rfl 2 rfl ?_
          refine tn_iload_n dX5_expression_95 rfl 1 rfl ?_
          refine tn_iload dX5_expression_96 0 rfl ?_
          obtain ⟨i158, es159, m160, mw161, lo162, rr163, fx164, ni165, mgq166, mb167, cn168⟩ := f150.1 (by omega)
          have pm169 : CN nm mx.rt (es159.foldl uC (es24.foldl uC (cx))) (EXW Sx nm rnQ tb1 (eo + 1) [3] (i23 + 1) ((mw26.on mx).pj 5) (eo + 1) [] i158 m160 (mw161.on ((mw26.on mx).pj 5))) := cn168
          have rd170 : EXR Sx (eo) [2] jx (eo + 1) [51, 7] i158 (0 + 0 + m25 + 0 + m160) (es24 ++ es159) := EXR.gg (l := [3]) (ms := []) [51, 7] rd140 rr163
          have rm171 : CN nm mx.rt (es159.foldl uC (es24.foldl uC (cx))) (EXW Sx nm rnQ tb1 (eo) [2] jx mx (eo + 1) [51, 7] i158 (0 + 0 + m25 + 0 + m160) (mw161.on ((mw26.on mx).pj 5))) := CN.ge (l := [3]) (ms := []) [51, 7] rm141 (fun q9 => (fun q9 => q9) (NMA.fo ni165 q9)) pm169
          refine tn_callV (M := m_X5_expression) (pc := 98) (ix := 244) (ci := 5) (M' := m_X5_join) (As := [.int (iI 5), .int (iI (σ7.2.1 50 a)), .int (iI (σ7.2.1 51 a))]) (rest := []) dX5_expression_98 ok_X5_join im_X5_join se_X5_join ml5_244 np_X5_join rfl rfl ha rfl (Nat.le_of_ble_eq_true rfl) (Nat.le_of_ble_eq_true rfl) rfl (k_X5_join_n (d + 5 * lv + 10) (T := T147) (σ := σ146) (a := a) (k := 5) (e := σ7.2.1 50 a) (l := σ7.2.1 51 a) (kp := kp - 4 * v13 - 4 * v152 - 4) (Tg := Tg) (gs := gs) (mx := mw161) ha (by decide) (by omega) (by omega) w153 (by omega) (by omega) fx164 mgq166 mb167 (by omega) rp156) (fun r172 T174 σ173 gt175 hp => ?_)
          obtain ⟨rfl, w180, F181, f176, f177, f178⟩ := hp
          have mj182 := f177
          rw [show σ7.2.1 50 a = (mw26).pk from g123pk, show σ7.2.1 51 a = (mw26).pv from g124pv] at mj182
          replace ha : OB T174 a 5 := gt175.ob ha
          have rp184 : RP σ173 a (kp - 4 * v13 - 4 * v152 - 3) := RP.up f178 (by omega)
          show Tn _ _ 101 T174 σ173 [(4, .int (iI (σ7.2.1 51 a))), (3, .int (iI (σ7.2.1 50 a))), (2, .int (iI 5)), (0, .ref a), (1, .int (iI dp))] [] _
          refine tn_iconst dX5_expression_101 ?_
          have pc189 : EXR Sx (eo + 1) [51] i158 (eo + 1) [] i158 1 [] := fun _ _ => x51 hSb 
          have pm190 : CN nm mx.rt (es159.foldl uC (es24.foldl uC (cx))) (EXW Sx nm rnQ tb1 (eo + 1) [51] i158 (mw161.on ((mw26.on mx).pj 5)) (eo + 1) [] i158 1 ((mw161.on ((mw26.on mx).pj 5)).one tb1)) := fun hn9 b9 u9 => GW.of (gm51 hSb ) rfl
          have rd191 : EXR Sx (eo) [2] jx (eo + 1) [7] i158 (0 + 0 + m25 + 0 + m160 + 1) (es24 ++ es159) := EXR.g0 (l := [51]) (ms := []) [7] rd170 pc189
          have rm192 : CN nm mx.rt (es159.foldl uC (es24.foldl uC (cx))) (EXW Sx nm rnQ tb1 (eo) [2] jx mx (eo + 1) [7] i158 (0 + 0 + m25 + 0 + m160 + 1) ((mw161.on ((mw26.on mx).pj 5)).one tb1)) := CN.ge (l := [51]) (ms := []) [7] rm171 (fun q9 => q9) pm190
          have pc193 : EXR Sx (eo + 1) [7] i158 (eo) [] i158 0 [] := fun b9 u9 => by have q9 := x7 (S := Sx) (j := i158) (e := eo + 1) (b := b9) (u := u9) hSb; rw [show eo + 1 - 1 = eo by omega] at q9; exact q9
          have pm194 : CN nm mx.rt (es159.foldl uC (es24.foldl uC (cx))) (EXW Sx nm rnQ tb1 (eo + 1) [7] i158 ((mw161.on ((mw26.on mx).pj 5)).one tb1) (eo) [] i158 0 ((mw161.on ((mw26.on mx).pj 5)).one tb1)) := fun _ b9 u9 => by have q9 := GW.of (m0 := ((mw161.on ((mw26.on mx).pj 5)).one tb1)) (m1 := ((mw161.on ((mw26.on mx).pj 5)).one tb1)) (gm7 (S := Sx) (nm := nm) (rn := rnQ) (tb := tb1) (j := i158) (e := eo + 1) (b := b9) (u := u9) hSb) rfl; rw [show eo + 1 - 1 = eo by omega] at q9; exact q9
          have rd195 : EXR Sx (eo) [2] jx (eo) [] i158 (0 + 0 + m25 + 0 + m160 + 1 + 0) (es24 ++ es159) := EXR.g0 (l := [7]) (ms := []) [] rd191 pc193
          have rm196 : CN nm mx.rt (es159.foldl uC (es24.foldl uC (cx))) (EXW Sx nm rnQ tb1 (eo) [2] jx mx (eo) [] i158 (0 + 0 + m25 + 0 + m160 + 1 + 0) ((mw161.on ((mw26.on mx).pj 5)).one tb1)) := CN.ge (l := [7]) (ms := []) [] rm192 (fun q9 => q9) pm194
          have hz197e : ((mw161.on ((mw26.on mx).pj 5)).one tb1) = (((mw161).jn (5) ((mw26).pk) ((mw26).pv))).on mx := rfl
          have hz197c : (es159.foldl uC (es24.foldl uC (cx))) = (es24 ++ es159).foldl uC cx := (by simp only [List.foldl_append, List.foldl_cons, List.foldl_nil])
          have hz197 : CN nm mx.rt ((es24 ++ es159).foldl uC cx) (EXW Sx nm rnQ tb1 (eo) [2] jx mx (eo) [] i158 (0 + 0 + m25 + 0 + m160 + 1 + 0) ((((mw161).jn (5) ((mw26).pk) ((mw26).pv))).on mx)) := by
            have q9 := CN.up (c2 := es159.foldl uC (es24.foldl uC (cx))) rm196 (fun q9 => q9)
            rw [hz197e, hz197c] at q9
            exact q9
          have ra187 : XSM σ173 a Sx nx (eo) [2] jx cx Nx (eo) [] ((jx : Int) + 1) nm Tg gs T174 mx := ⟨i158, es24 ++ es159, 0 + 0 + m25 + 0 + m160 + 1 + 0, ((mw161).jn (5) ((mw26).pk) ((mw26).pv)), (by omega), rd195, RDX.nq (RDX.cq f176 hz197c) (by omega), (NI2.app ni30 ni165), mj182, (MBD.jn mb167), hz197⟩
          exact tn_zret (v := 1) rfl (by decide) dX5_expression_102 ⟨_, rfl, w180, ((((FrC.rfl.trans (FrC.sub F15 (by decide))).trans (FrC.sub (FrC.old F136 gt9) (by decide))).trans (FrC.sub (FrC.old F154 gt9) (by decide))).trans (FrC.sub (FrC.old F181 (GT.trans gt9 gt148)) (by decide))), by omega, ⟨fun _ => ra187, fun q => absurd q (by decide)⟩, (RP.up rp184 (by omega))⟩
        · refine tn_iconst dX5_expression_91 ?_
          obtain ⟨⟨pl200, g201, fx202⟩, nf203⟩ := f150.2 (by omega)
          have rf204 : EXF Sx (eo) [2] jx (pl200) := EXR.fl (l := [3]) [51, 7] rd140 g201
          have rb199 : XFc σ146 a Sx (eo) [2] jx ∧ FG Tg gs T147 σ146 a := ⟨⟨_, rf204, fx202⟩, nf203⟩
          exact tn_zret (v := 0) rfl (by decide) dX5_expression_92 ⟨_, rfl, w153, (((FrC.rfl.trans (FrC.sub F15 (by decide))).trans (FrC.sub (FrC.old F136 gt9) (by decide))).trans (FrC.sub (FrC.old F154 gt9) (by decide))), by omega, ⟨fun q => absurd q (by decide), fun _ => rb199⟩, (RP.up rp156 (by omega))⟩
      · refine tn_iconst dX5_expression_45 ?_
        have pc209 : EXR Sx (eo + 1) [6] i23 (eo + 1) [7] i23 0 [] := fun _ _ => x6n hSb (by omega) (by omega)
        have pm210 : CN nm mx.rt (es24.foldl uC (cx)) (EXW Sx nm rnQ tb1 (eo + 1) [6] i23 (mw26.on mx) (eo + 1) [7] i23 0 (mw26.on mx)) := fun hn9 b9 u9 => GW.of (gm6n hSb (by omega) (by omega)) rfl
        have rd211 : EXR Sx (eo) [2] jx (eo + 1) [7] i23 (0 + 0 + m25 + 0) (es24) := EXR.g0 (l := [6]) (ms := [7]) [] rd35 pc209
        have rm212 : CN nm mx.rt (es24.foldl uC (cx)) (EXW Sx nm rnQ tb1 (eo) [2] jx mx (eo + 1) [7] i23 (0 + 0 + m25 + 0) (mw26.on mx)) := CN.ge (l := [6]) (ms := [7]) [] rm36 (fun q9 => q9) pm210
        have pc213 : EXR Sx (eo + 1) [7] i23 (eo) [] i23 0 [] := fun b9 u9 => by have q9 := x7 (S := Sx) (j := i23) (e := eo + 1) (b := b9) (u := u9) hSb; rw [show eo + 1 - 1 = eo by omega] at q9; exact q9
        have pm214 : CN nm mx.rt (es24.foldl uC (cx)) (EXW Sx nm rnQ tb1 (eo + 1) [7] i23 (mw26.on mx) (eo) [] i23 0 (mw26.on mx)) := fun _ b9 u9 => by have q9 := GW.of (m0 := (mw26.on mx)) (m1 := (mw26.on mx)) (gm7 (S := Sx) (nm := nm) (rn := rnQ) (tb := tb1) (j := i23) (e := eo + 1) (b := b9) (u := u9) hSb) rfl; rw [show eo + 1 - 1 = eo by omega] at q9; exact q9
        have rd215 : EXR Sx (eo) [2] jx (eo) [] i23 (0 + 0 + m25 + 0 + 0) (es24) := EXR.g0 (l := [7]) (ms := []) [] rd211 pc213
        have rm216 : CN nm mx.rt (es24.foldl uC (cx)) (EXW Sx nm rnQ tb1 (eo) [2] jx mx (eo) [] i23 (0 + 0 + m25 + 0 + 0) (mw26.on mx)) := CN.ge (l := [7]) (ms := []) [] rm212 (fun q9 => q9) pm214
        have hz217e : (mw26.on mx) = (mw26).on mx := rfl
        have hz217c : (es24.foldl uC (cx)) = (es24).foldl uC cx := rfl
        have hz217 : CN nm mx.rt ((es24).foldl uC cx) (EXW Sx nm rnQ tb1 (eo) [2] jx mx (eo) [] i23 (0 + 0 + m25 + 0 + 0) ((mw26).on mx)) := by
          have q9 := CN.up (c2 := es24.foldl uC (cx)) rm216 (fun q9 => q9)
          rw [hz217e, hz217c] at q9
          exact q9
        have ra207 : XSM σ7 a Sx nx (eo) [2] jx cx Nx (eo) [] ((jx : Int) + 1) nm Tg gs T8 mx := ⟨i23, es24, 0 + 0 + m25 + 0 + 0, mw26, (by omega), rd215, RDX.nq (RDX.cq fx29 hz217c) (by omega), ni30, mgq31, mb32, hz217⟩
        exact tn_zret (v := 1) rfl (by decide) dX5_expression_46 ⟨_, rfl, w14, (FrC.rfl.trans (FrC.sub F15 (by decide))), by omega, ⟨fun _ => ra207, fun q => absurd q (by decide)⟩, (RP.up f12 (by omega))⟩
  · refine tn_iconst dX5_expression_19 ?_
    obtain ⟨⟨pl220, g221, fx222⟩, nf223⟩ := f11.2 (by omega)
    have rf224 : EXF Sx (eo) [2] jx (pl220) := EXR.fl (l := [3]) [6] rd4 g221
    have rb219 : XFc σ7 a Sx (eo) [2] jx ∧ FG Tg gs T8 σ7 a := ⟨⟨_, rf224, fx222⟩, nf223⟩
    exact tn_zret (v := 0) rfl (by decide) dX5_expression_20 ⟨_, rfl, w14, (FrC.rfl.trans (FrC.sub F15 (by decide))), by omega, ⟨fun q => absurd q (by decide), fun _ => rb219⟩, (RP.up f12 (by omega))⟩
end
section
theorem lvm_X5_expression : ∀ (lv : Nat), ∀ (d : Nat) {T : CT} {σ : MS} {a : Nat} {dp : Int} {kp : Int} {Sx : Int → Int} {nx jx : Nat} {cx : CS} {Nx : Int} {Tg : CT} {gs : MS} {mx : MK} {nm : Int → Int64 → Int} {eo : Int} (ha : OB T a 5) (h_dp : -2147483648 ≤ dp ∧ dp ≤ 2147483647) (hw : WT T σ) (hdp : 1 ≤ dp ∧ dp ≤ 9) (hlv : 9 ≤ dp + (lv : Int)) (hfx : RDX σ a Sx nx jx cx Nx) (hmg : MG Tg gs T σ a mx) (hmb : MBD mx) (heo : eo = dp - 1) (hkp : kp ≤ 150) (hrp : RP σ a kp), Tn (d + 5 * lv + 10) m_X5_expression 0 T σ [(0, .ref a), (1, .int (iI dp))] [] (fun ro T2 σ2 => ∃ v : Int, ro = some (.int (iI v)) ∧ WT T2 σ2 ∧ FrC T [5, 6, 7, 43, 44, 47, 50, 51, 84, 85, 86, 87, 521] σ σ2 ∧ (v = 0 ∨ v = 1) ∧ (XQM σ2 a Sx nx (eo) [2] jx cx Nx v nm Tg gs T2 mx) ∧ (RP σ2 a (kp - 4 * v))) := by
  intro lv
  induction lv with
  | zero =>
    intro d T σ a dp kp Sx nx jx cx Nx Tg gs mx nm eo ha h_dp hw hdp hlv hfx hmg hmb heo hkp hrp
    exact k_X5_expression_m0 d ha h_dp hw (by omega) hfx hmg hmb heo hkp hrp
  | succ lv ih =>
    intro d T σ a dp kp Sx nx jx cx Nx Tg gs mx nm eo ha h_dp hw hdp hlv hfx hmg hmb heo hkp hrp
    have e : d + 5 * (lv + 1) + 10 = d + 5 * lv + 15 := by omega
    by_cases h9 : dp = 9
    · exact k_X5_expression_m0 (d + 5 * (lv + 1)) ha h_dp hw (by omega) hfx hmg hmb heo hkp hrp
    · rw [e]
      exact k_X5_expression_m1 d (lv := lv) ha h_dp hw ih (by omega) (by omega) hfx hmg hmb heo hkp hrp
theorem k_X5_expression_m : ∀ (d : Nat) {T : CT} {σ : MS} {a : Nat} {dp : Int} {kp : Int} {Sx : Int → Int} {nx jx : Nat} {cx : CS} {Nx : Int} {Tg : CT} {gs : MS} {mx : MK} {nm : Int → Int64 → Int} {eo : Int} (ha : OB T a 5) (h_dp : -2147483648 ≤ dp ∧ dp ≤ 2147483647) (hw : WT T σ) (hdp : 1 ≤ dp ∧ dp ≤ 9) (hfx : RDX σ a Sx nx jx cx Nx) (hmg : MG Tg gs T σ a mx) (hmb : MBD mx) (heo : eo = dp - 1) (hkp : kp ≤ 150) (hrp : RP σ a kp), Tn (d + 50) m_X5_expression 0 T σ [(0, .ref a), (1, .int (iI dp))] [] (fun ro T2 σ2 => ∃ v : Int, ro = some (.int (iI v)) ∧ WT T2 σ2 ∧ FrC T [5, 6, 7, 43, 44, 47, 50, 51, 84, 85, 86, 87, 521] σ σ2 ∧ (v = 0 ∨ v = 1) ∧ (XQM σ2 a Sx nx (eo) [2] jx cx Nx v nm Tg gs T2 mx) ∧ (RP σ2 a (kp - 4 * v))) := by
  intro d T σ a dp kp Sx nx jx cx Nx Tg gs mx nm eo ha h_dp hw hdp hfx hmg hmb heo hkp hrp
  have e : d + 50 = d + 5 * 8 + 10 := by omega
  rw [e]
  exact lvm_X5_expression 8 d ha h_dp hw (by omega) (by omega) hfx hmg hmb heo hkp hrp
end
section
set_option maxHeartbeats 1000000 in
set_option maxRecDepth 20000 in
theorem k_X5_setting_m (d : Nat) {T : CT} {σ : MS} {a : Nat} {r : Int} {kp : Int} {Sx : Int → Int} {nx jx : Nat} {cx : CS} {Nx : Int} {Tg : CT} {gs : MS} {mx : MK} {nm : Int → Int64 → Int} {bx : Int} (ha : OB T a 5) (h_r : -2147483648 ≤ r ∧ r ≤ 2147483647) (hw : WT T σ) (hfx : RDX σ a Sx nx jx cx Nx) (hmg : MG Tg gs T σ a mx) (hmb : MBD mx) (hns : ¬ (ckd (tkS Sx jx) = 256 ∧ ckd (tkS Sx (jx + 1)) = 40)) (hkp : kp ≤ 150) (hrp : RP σ a kp) : Tn (d + 51) m_X5_setting 0 T σ [(0, .ref a), (1, .int (iI r))] [] (fun ro T2 σ2 => ∃ v : Int, ro = some (.int (iI v)) ∧ WT T2 σ2 ∧ FrC T [5, 6, 7, 43, 44, 47, 50, 51, 84, 85, 86, 87, 521] σ σ2 ∧ (v = 0 ∨ v = 1) ∧ (YQM σ2 a Sx nx bx [25] jx cx (Nx - 1) 2 v nm Tg gs T2 mx (mx.push (8, r, 0, [])) (fun m9 => m9.bd r)) ∧ (RP σ2 a (kp - 7 * v))) := by
  have hSb := hfx.1.sb
  have e45 := hfx.e45
  have hpo9 := hfx.po
  unfold PO at hpo9
  refine tn_aload_n dX5_setting_0 rfl 0 rfl ?_
  refine tn_iconst dX5_setting_1 ?_
  have pc1 : GR Sx [25] jx (0) (bx) u0 [2, 52, 159] jx (0) (bx) u0 0 [] := x25s hSb hns
  have pm2 : CN nm mx.rt (cx) (GW Sx nm rnQ tb1 [25] jx (0) (bx) u0 (mx.push (8, r, 0, [])) [2, 52, 159] jx (0) (bx) u0 0 (mx.push (8, r, 0, []))) := fun hn9 => GW.of (gm25s hSb hns) rfl
  have rd30 : GR Sx [25] jx 0 (bx) u0 [25] jx (0) (bx) u0 (0) ([]) := GR.nl
  have rd3 : GR Sx [25] jx 0 (bx) u0 [2, 52, 159] jx (0) (bx) u0 (0 + 0) ([]) := GR.g0 (l := [25]) (ms := [2, 52, 159]) [] rd30 pc1
  have rm40 : CN nm mx.rt (cx) (GW Sx nm rnQ tb1 [25] jx 0 (bx) u0 (mx.push (8, r, 0, [])) [25] jx (0) (bx) u0 (0) (mx.push (8, r, 0, []))) := fun _ => GW.nl
  have rm4 : CN nm mx.rt (cx) (GW Sx nm rnQ tb1 [25] jx 0 (bx) u0 (mx.push (8, r, 0, [])) [2, 52, 159] jx (0) (bx) u0 (0 + 0) (mx.push (8, r, 0, []))) := CN.gg (l := [25]) (ms := [2, 52, 159]) [] rm40 (fun q9 => q9) pm2
  have sy5 : (mx).w = ((mx.push (8, r, 0, []))).w := rfl
  refine tn_callV (M := m_X5_setting) (pc := 2) (ix := 213) (ci := 5) (M' := m_X5_expression) (As := [.int (iI 1)]) (rest := []) dX5_setting_2 ok_X5_expression im_X5_expression se_X5_expression ml5_213 np_X5_expression rfl rfl ha rfl (Nat.le_of_ble_eq_true rfl) (Nat.le_of_ble_eq_true rfl) rfl (k_X5_expression_m (d) (T := T) (σ := σ) (a := a) (dp := 1) (kp := kp) (eo := 0) (nm := nm) (Tg := Tg) (gs := gs) (mx := (mx.push (8, r, 0, []))) ha (by decide) hw (by omega) hfx (MG.cg hmg sy5) (MBD.same hmb sy5) (by omega) (by omega) hrp) (fun r6 T8 σ7 gt9 hp => ?_)
  obtain ⟨v13, rfl, w14, F15, f10, f11, f12⟩ := hp
  replace ha : OB T8 a 5 := gt9.ob ha
  show Tn _ _ 5 T8 σ7 [(0, .ref a), (1, .int (iI r))] [.int (iI v13)] _
  refine tn_if_eq (tgt := 17) dX5_setting_5 (by decide) ⟨by omega, by omega⟩ (fun h17 => ?_) (fun h17 => ?_)
  · refine tn_iconst dX5_setting_17 ?_
    obtain ⟨⟨pl20, g21, fx22⟩, nf23⟩ := f11.2 (by omega)
    have g21g := g21 (bx) u0
    have rf24 : GRF Sx [25] jx 0 (bx) u0 (pl20) := GR.fl (l := [2]) [52, 159] rd3 g21g
    have rb19 : YF σ7 a Sx bx [25] jx ∧ FG Tg gs T8 σ7 a := ⟨⟨_, rf24, fx22⟩, nf23⟩
    exact tn_zret (v := 0) rfl (by decide) dX5_setting_18 ⟨_, rfl, w14, (FrC.rfl.trans (FrC.sub F15 (by decide))), by omega, ⟨fun q => absurd q (by decide), fun _ => rb19⟩, (RP.up f12 (by omega))⟩
  · refine tn_aload_n dX5_setting_8 rfl 0 rfl ?_
    refine tn_bipush dX5_setting_9 (by decide) ?_
    obtain ⟨i25, es26, m27, mw28, lo29, rr30, fx31, ni32, mgq33, mb34, cn35⟩ := f11.1 (by omega)
    have rr30g := rr30 (bx) u0
    have pm36 : CN nm mx.rt (es26.foldl uC (cx)) (GW Sx nm rnQ tb1 [2] jx (0) (bx) u0 (mx.push (8, r, 0, [])) [] i25 (0) (bx) u0 m27 (mw28.on (mx.push (8, r, 0, [])))) := fun hn9 => cn35 hn9 (bx) u0
    have rd37a : GR Sx [25] jx 0 (bx) u0 [52, 159] i25 (0) (bx) u0 (0 + 0 + m27) ([] ++ es26) := GR.gg (l := [2]) (ms := []) [52, 159] rd3 rr30g
    have rd37 : GR Sx [25] jx 0 (bx) u0 [52, 159] i25 (0) (bx) u0 (0 + 0 + m27) (es26) := rd37a
    have rm38 : CN nm mx.rt (es26.foldl uC (cx)) (GW Sx nm rnQ tb1 [25] jx 0 (bx) u0 (mx.push (8, r, 0, [])) [52, 159] i25 (0) (bx) u0 (0 + 0 + m27) (mw28.on (mx.push (8, r, 0, [])))) := CN.gg (l := [2]) (ms := []) [52, 159] rm4 (fun q9 => (fun q9 => q9) (NMA.fo ni32 q9)) pm36
    refine tn_callV (M := m_X5_setting) (pc := 11) (ix := 102) (ci := 5) (M' := m_X5_taken) (As := [.int (iI 59)]) (rest := []) dX5_setting_11 ok_X5_taken im_X5_taken se_X5_taken ml5_102 np_X5_taken rfl rfl ha rfl (Nat.le_of_ble_eq_true rfl) (Nat.le_of_ble_eq_true rfl) rfl (k_X5_taken_m (d + 48) (T := T8) (σ := σ7) (a := a) (s := 59) (kp := kp - 4 * v13) (Tg := Tg) (gs := gs) (mx := mw28) ha (by decide) w14 (by omega) fx31 mgq33 (by omega) f12) (fun r39 T41 σ40 gt42 hp => ?_)
    obtain ⟨v47, rfl, rfl, w48, F49, f43, f44, f45, f46⟩ := hp
    clear gt42
    have pc50 : GR Sx [52] i25 (0) (bx) u0 [] i25 (0) (bx) u0 2 [] := x52 hSb 
    have pm51 : CN nm mx.rt (es26.foldl uC (cx)) (GW Sx nm rnQ tb1 [52] i25 (0) (bx) u0 (mw28.on (mx.push (8, r, 0, []))) [] i25 (0) (bx) u0 2 ((mw28.on (mx.push (8, r, 0, []))).two)) := fun hn9 => GW.of (gm52 hSb ) rfl
    have rd52 : GR Sx [25] jx 0 (bx) u0 [159] i25 (0) (bx) u0 (0 + 0 + m27 + 2) (es26) := GR.g0 (l := [52]) (ms := []) [159] rd37 pc50
    have rm53 : CN nm mx.rt (es26.foldl uC (cx)) (GW Sx nm rnQ tb1 [25] jx 0 (bx) u0 (mx.push (8, r, 0, [])) [159] i25 (0) (bx) u0 (0 + 0 + m27 + 2) ((mw28.on (mx.push (8, r, 0, []))).two)) := CN.gg (l := [52]) (ms := []) [159] rm38 (fun q9 => q9) pm51
    show Tn _ _ 14 T8 σ40 [(0, .ref a), (1, .int (iI r))] [.int (iI v47)] _
    refine tn_if_ne (tgt := 19) dX5_setting_14 (by decide) ⟨by omega, by omega⟩ (fun h55 => ?_) (fun h55 => ?_)
    · refine tn_aload_n dX5_setting_19 rfl 0 rfl ?_
      obtain ⟨xq56, hx57, hk58⟩ : ∃ x : Nat, σ7.2.1 35 a = (x : Int) ∧ (T8 x).1 = 31 := wf_35 w14 ha
      have hk58o : OB T8 xq56 1 := ⟨by omega, by rw [hk58]; rfl, by omega⟩
      refine tn_getR (ci := 5) (i := 2) (n := 35) (x := xq56) dX5_setting_20 rfl lay_5 (by decide) fl5_47 ha rfl rfl (rc_F F49 (Or.inl (by decide)) (by decide) (hx57)) ?_
      refine tn_iconst dX5_setting_23 ?_
      refine tn_iload_n dX5_setting_24 rfl 1 rfl ?_
      refine tn_iconst dX5_setting_25 ?_
      refine tn_callV (M := m_X5_setting) (pc := 26) (ix := 139) (ci := 1) (M' := m_X1_append) (As := [.int (iI 0), .int (iI r), .int (iI 0)]) (rest := []) dX5_setting_26 ok_X1_append im_X1_append se_X1_append ml5_139 np_X1_append rfl rfl hk58o rfl (Nat.le_of_ble_eq_true rfl) (Nat.le_of_ble_eq_true rfl) rfl (k_append_c (d + 47) (T := T8) (σ := σ40) (a := xq56) (k := 0) (p := r) (q := 0) hk58o hk58 (by decide) (by omega) (by decide) w48 (RP.cnt f46 w48 ha (rc_F F49 (Or.inl (by decide)) (by decide) (hx57)) (by omega)) (by omega)) (fun r60 T62 σ61 gt63 hp => ?_)
      obtain ⟨rfl, w68, F69, f64, f65, f66⟩ := hp
      obtain ⟨kd71, fx70⟩ := f44.1 (by omega)
      have pc72 : GR Sx [159] i25 (0) (bx) u0 [] (i25 + 1) (0) (bx) u0 0 [] := y59 hSb kd71
      have pm73 : CN nm mx.rt (es26.foldl uC (cx)) (GW Sx nm rnQ tb1 [159] i25 (0) (bx) u0 ((mw28.on (mx.push (8, r, 0, []))).two) [] (i25 + 1) (0) (bx) u0 0 ((mw28.on (mx.push (8, r, 0, []))).two)) := fun _ => GW.of (gmy59 hSb kd71) rfl
      have rd74 : GR Sx [25] jx 0 (bx) u0 [] (i25 + 1) (0) (bx) u0 (0 + 0 + m27 + 2 + 0) (es26) := GR.g0 (l := [159]) (ms := []) [] rd52 pc72
      have rm75 : CN nm mx.rt (es26.foldl uC (cx)) (GW Sx nm rnQ tb1 [25] jx 0 (bx) u0 (mx.push (8, r, 0, [])) [] (i25 + 1) (0) (bx) u0 (0 + 0 + m27 + 2 + 0) ((mw28.on (mx.push (8, r, 0, []))).two)) := CN.gg (l := [159]) (ms := []) [] rm53 (fun q9 => q9) pm73
      have nn76 : 0 ≤ (mw28).n := by have z7 : WT T8 σ40 := w48; have z6 : σ40.2.1 35 a = (xq56 : Int) := rc_F F49 (Or.inl (by decide)) (by decide) (hx57); have z9 := wf_6 z7 (code_ob z7 ha z6); have z8 := MG.e6 f45 (MG.cd f45 z6); omega
      have a3577 : σ40.2.1 35 a = (xq56 : Int) := rc_F F49 (Or.inl (by decide)) (by decide) (hx57)
      have fx78 : RDX σ61 a Sx nx (i25 + 1) (es26.foldl uC (cx)) (Nx + m27 + 1) := RDX.ap fx70 w48 ha (rc_F F49 (Or.inl (by decide)) (by decide) (hx57)) F69 f64
      replace ha : OB T62 a 5 := gt63.ob ha
      have rp79 : RP σ61 a (kp - 4 * v13 - 4 * v47 + 1) := RP.app f46 (rc_F F49 (Or.inl (by decide)) (by decide) (hx57)) F69 (by decide) (by decide) (by decide) (by decide) f64
      have mg80 : MG Tg gs T62 σ61 a ((mw28).put (rwI (0) (r) (0))) := MG.app f45 (MG.cd f45 a3577) gt63 f64 f65 f66 (by omega)
      show Tn _ _ 29 T62 σ61 [(0, .ref a), (1, .int (iI r))] [] _
      refine tn_aload_n dX5_setting_29 rfl 0 rfl ?_
      obtain ⟨xq81, hx82, hk83⟩ : ∃ x : Nat, σ61.2.1 35 a = (x : Int) ∧ (T62 x).1 = 31 := wf_35 w68 ha
      have hk83o : OB T62 xq81 1 := ⟨by omega, by rw [hk83]; rfl, by omega⟩
      refine tn_getR (ci := 5) (i := 2) (n := 35) (x := xq81) dX5_setting_30 rfl lay_5 (by decide) fl5_47 ha rfl rfl (hx82) ?_
      refine tn_iconst dX5_setting_33 ?_
      refine tn_aload_n dX5_setting_34 rfl 0 rfl ?_
      refine tn_getI (ci := 5) (i := 17) (n := 50) (t := σ61.2.1 50 a) dX5_setting_35 rfl lay_5 (by decide) fl5_216 ha rfl rfl (rfl) ?_
      have g85 : ((-2147483648 : Int) ≤ σ61.2.1 50 a ∧ σ61.2.1 50 a ≤ 2147483647) := wf_50 w68 ha
      refine tn_aload_n dX5_setting_38 rfl 0 rfl ?_
      refine tn_getI (ci := 5) (i := 18) (n := 51) (t := σ61.2.1 51 a) dX5_setting_39 rfl lay_5 (by decide) fl5_219 ha rfl rfl (rfl) ?_
      have g86 : ((-2147483648 : Int) ≤ σ61.2.1 51 a ∧ σ61.2.1 51 a ≤ 2147483647) := wf_51 w68 ha
      have c687 : 1 ≤ σ61.2.1 6 xq81 := MG.c1 (m := mw28) mg80 (MG.cd mg80 (hx82)) nn76
      refine tn_callV (M := m_X5_setting) (pc := 42) (ix := 143) (ci := 1) (M' := m_X1_lastOperand) (As := [.int (iI 0), .int (iI (σ61.2.1 50 a)), .int (iI (σ61.2.1 51 a))]) (rest := []) dX5_setting_42 ok_X1_lastOperand im_X1_lastOperand se_X1_lastOperand ml5_143 np_X1_lastOperand rfl rfl hk83o rfl (Nat.le_of_ble_eq_true rfl) (Nat.le_of_ble_eq_true rfl) rfl (k_lastOperand_c (d + 49) (T := T62) (σ := σ61) (a := xq81) (i := 0) (k := σ61.2.1 50 a) (p := σ61.2.1 51 a) hk83o hk83 (by decide) (by omega) (by omega) w68 (by omega) (by omega)) (fun r88 T90 σ89 gt91 hp => ?_)
      obtain ⟨rfl, rfl, w95, F96, f92, f93⟩ := hp
      clear gt91
      have mg97 : MG Tg gs T62 σ89 a ((mw28).put (uZ (uZ (rwI (0) (r) (0)) (3 + 2 * 0) (σ61.2.1 50 a)) (4 + 2 * 0) (σ61.2.1 51 a))) := MG.lo (m := mw28) mg80 (MG.cd mg80 (show σ61.2.1 35 a = (xq81 : Int) from hx82)) f92 f93 (by decide) (by show (0 : Int) ≠ 12; omega) nn76
      have z98 : σ61.2.1 50 a = (mw28).pk := by have z0 := MG.e50 mg80; have z1 : σ61.2.1 50 a = (mw28).pk := z0; have z2 : σ61.2.1 50 a = σ61.2.1 50 a := rfl; omega
      have z99 : σ61.2.1 51 a = (mw28).pv := by have z0 := MG.e51 mg80; have z1 : σ61.2.1 51 a = (mw28).pv := z0; have z2 : σ61.2.1 51 a = σ61.2.1 51 a := rfl; omega
      have mg97l : MG Tg gs T62 σ89 a ((mw28).cp r) := MG.cp (m := mw28) mg97 z98 z99
      have fx100 : RDX σ89 a Sx nx (i25 + 1) (es26.foldl uC (cx)) (Nx + m27 + 1) := RDX.fc fx78 w68 ha F96 (by decide) (by decide)
      have rp101 : RP σ89 a (kp - 4 * v13 - 4 * v47 + 1) := RP.frc rp79 F96 (by decide) (by decide) (by decide) (by decide) (by decide)
      show Tn _ _ 45 T62 σ89 [(0, .ref a), (1, .int (iI r))] [] _
      refine tn_iconst dX5_setting_45 ?_
      have hz106e : ((mw28.on (mx.push (8, r, 0, []))).two) = ((((mw28).cp r)).bd r).on mx := rfl
      have hz106c : (es26.foldl uC (cx)) = (es26).foldl uC cx := rfl
      have hz106 : CN nm mx.rt ((es26).foldl uC cx) (GW Sx nm rnQ tb1 [25] jx 0 (bx) u0 (mx.push (8, r, 0, [])) [] (i25 + 1) (0) (bx) u0 (0 + 0 + m27 + 2 + 0) (((((mw28).cp r)).bd r).on mx)) := by
        have q9 := CN.up (c2 := es26.foldl uC (cx)) rm75 (fun q9 => q9)
        rw [hz106e, hz106c] at q9
        exact q9
      have fe107 := RDX.nq (M := (Nx - 1) + (0 + 0 + m27 + 2 + 0)) (RDX.cq (c2 := (es26).foldl uC cx) fx100 hz106c) (by omega)
      have fe107m : ((es26).foldl uC cx).m = σ.2.1 45 a := (fe107.e45).symm.trans (rc_F F96 (Or.inl (by decide)) (by decide) (rc_F F69 (Or.inl (by decide)) (by decide) (rc_F F49 (Or.inl (by decide)) (by decide) (rc_F F15 (Or.inl (by decide)) (by decide) (rfl)))))
      have ra104 : YSM σ89 a Sx nx bx [25] jx cx (Nx - 1) bx [] ((jx : Int) + 2) nm Tg gs T62 mx (mx.push (8, r, 0, [])) (fun m9 => m9.bd r) := ⟨(i25 + 1), es26, 0 + 0 + m27 + 2 + 0, ((mw28).cp r), (by omega), rd74, fe107, by rw [fe107m]; omega, ni32, mg97l, (MBD.put mb34), hz106⟩
      exact tn_zret (v := 1) rfl (by decide) dX5_setting_46 ⟨_, rfl, w95, ((((FrC.rfl.trans (FrC.sub F15 (by decide))).trans (FrC.sub (FrC.old F49 gt9) (by decide))).trans (FrC.sub (FrC.old F69 gt9) (by decide))).trans (FrC.sub (FrC.old F96 (GT.trans gt9 gt63)) (by decide))), by omega, ⟨fun _ => ra104, fun q => absurd q (by decide)⟩, (RP.up rp101 (by omega))⟩
    · refine tn_iconst dX5_setting_17 ?_
      obtain ⟨kd110, fx111, tk112⟩ := f44.2 (by omega)
      have pc113 : GRF Sx [159] i25 (0) (bx) u0 (tkS Sx i25).1 := z59 hSb kd110
      have rf114 : GRF Sx [25] jx 0 (bx) u0 ((tkS Sx i25).1) := GR.fl (l := [159]) [] rd52 pc113
      have rb109 : YF σ40 a Sx bx [25] jx ∧ FG Tg gs T8 σ40 a := ⟨⟨_, rf114, fx111⟩, (f45).1⟩
      exact tn_zret (v := 0) rfl (by decide) dX5_setting_18 ⟨_, rfl, w48, ((FrC.rfl.trans (FrC.sub F15 (by decide))).trans (FrC.sub (FrC.old F49 gt9) (by decide))), by omega, ⟨fun q => absurd q (by decide), fun _ => rb109⟩, (RP.up f46 (by omega))⟩
end
section
set_option maxHeartbeats 1000000 in
set_option maxRecDepth 20000 in
theorem k_X5_single_mo (d : Nat) {T : CT} {σ : MS} {a : Nat} {k : Int} {kp : Int} {Sx : Int → Int} {nx jx : Nat} {cx : CS} {Nx : Int} {Tg : CT} {gs : MS} {mx : MK} {nm : Int → Int64 → Int} {bx : Int} (ha : OB T a 5) (h_k : -2147483648 ≤ k ∧ k ≤ 2147483647) (hw : WT T σ) (hk6 : k = 6) (hfx : RDX σ a Sx nx jx cx Nx) (hmg : MG Tg gs T σ a mx) (hmb : MBD mx) (hkd : ckd (tkS Sx jx) = 258) (hkp : kp ≤ 140) (hrp : RP σ a kp) : Tn (d + 51) m_X5_single 0 T σ [(0, .ref a), (1, .int (iI k))] [] (fun ro T2 σ2 => ∃ v : Int, ro = some (.int (iI v)) ∧ WT T2 σ2 ∧ FrC T [5, 6, 7, 43, 44, 47, 50, 51, 84, 85, 86, 87, 521] σ σ2 ∧ (v = 0 ∨ v = 1) ∧ (YQM σ2 a Sx nx bx [51, 39] jx cx (Nx) 1 v nm Tg gs T2 mx (mx.push (1, 0, 0, [])) (fun m9 => m9)) ∧ (RP σ2 a (kp + 1 - 7 * v))) := by
  have hSb := hfx.1.sb
  have e45 := hfx.e45
  have hpo9 := hfx.po
  unfold PO at hpo9
  refine tn_aload_n dX5_single_0 rfl 0 rfl ?_
  obtain ⟨xq1, hx2, hk3⟩ : ∃ x : Nat, σ.2.1 35 a = (x : Int) ∧ (T x).1 = 31 := wf_35 hw ha
  have hk3o : OB T xq1 1 := ⟨by omega, by rw [hk3]; rfl, by omega⟩
  refine tn_getR (ci := 5) (i := 2) (n := 35) (x := xq1) dX5_single_1 rfl lay_5 (by decide) fl5_47 ha rfl rfl (hx2) ?_
  refine tn_bipush dX5_single_4 (by decide) ?_
  refine tn_aload_n dX5_single_6 rfl 0 rfl ?_
  refine tn_getI (ci := 5) (i := 12) (n := 45) (t := σ.2.1 45 a) dX5_single_7 rfl lay_5 (by decide) fl5_64 ha rfl rfl (rfl) ?_
  have g5 : ((-2147483648 : Int) ≤ σ.2.1 45 a ∧ σ.2.1 45 a ≤ 2147483647) := wf_45 hw ha
  refine tn_iconst dX5_single_10 ?_
  refine tn_callV (M := m_X5_single) (pc := 11) (ix := 139) (ci := 1) (M' := m_X1_append) (As := [.int (iI 11), .int (iI (σ.2.1 45 a)), .int (iI 0)]) (rest := []) dX5_single_11 ok_X1_append im_X1_append se_X1_append ml5_139 np_X1_append rfl rfl hk3o rfl (Nat.le_of_ble_eq_true rfl) (Nat.le_of_ble_eq_true rfl) rfl (k_append_c (d + 47) (T := T) (σ := σ) (a := xq1) (k := 11) (p := σ.2.1 45 a) (q := 0) hk3o hk3 (by decide) (by omega) (by decide) hw (RP.cnt hrp hw ha (hx2) (by omega)) (by omega)) (fun r6 T8 σ7 gt9 hp => ?_)
  obtain ⟨rfl, w14, F15, f10, f11, f12⟩ := hp
  have nn16 : 0 ≤ (mx).n := by have z7 : WT T σ := hw; have z6 : σ.2.1 35 a = (xq1 : Int) := hx2; have z9 := wf_6 z7 (code_ob z7 ha z6); have z8 := MG.e6 hmg (MG.cd hmg z6); omega
  have z17 : σ.2.1 45 a = (mx).ln := by have z0 := MG.e45 hmg; have z1 : σ.2.1 45 a = (mx).ln := z0; have z2 : σ.2.1 45 a = σ.2.1 45 a := rfl; have z3 : σ.2.1 45 a = σ.2.1 45 a := rfl; omega
  have a3518 : σ.2.1 35 a = (xq1 : Int) := hx2
  have fx19 : RDX σ7 a Sx nx jx (cx) (Nx + 1) := RDX.ap hfx hw ha (hx2) F15 f10
  replace ha : OB T8 a 5 := gt9.ob ha
  have rp20 : RP σ7 a (kp + 1) := RP.app hrp (hx2) F15 (by decide) (by decide) (by decide) (by decide) f10
  have mg21 : MG Tg gs T8 σ7 a ((mx).put (rwI (11) (σ.2.1 45 a) (0))) := MG.app hmg (MG.cd hmg a3518) gt9 f10 f11 f12 (by omega)
  have mg21l : MG Tg gs T8 σ7 a ((mx).li) := MG.li (m := mx) mg21 z17
  show Tn _ _ 14 T8 σ7 [(0, .ref a), (1, .int (iI k))] [] _
  refine tn_aload_n dX5_single_14 rfl 0 rfl ?_
  obtain ⟨xq22, hx23, hk24⟩ : ∃ x : Nat, σ7.2.1 33 a = (x : Int) ∧ (T8 x).1 = 39 := wf_33 w14 ha
  have hk24o : OB T8 xq22 9 := ⟨by omega, by rw [hk24]; rfl, by omega⟩
  refine tn_getR (ci := 5) (i := 0) (n := 33) (x := xq22) dX5_single_15 rfl lay_5 (by decide) fl5_12 ha rfl rfl (hx23) ?_
  refine tn_callV (M := m_X5_single) (pc := 18) (ix := 93) (ci := 9) (M' := m_X9_next) (As := []) (rest := []) dX5_single_18 ok_X9_next im_X9_next se_X9_next ml5_93 np_X9_next rfl rfl hk24o rfl (Nat.le_of_ble_eq_true rfl) (Nat.le_of_ble_eq_true rfl) rfl (k_X9_next_m (d + 49) (T := T8) (σ := σ7) (a := xq22) hk24o w14 (RP.tk rp20 w14 ha (hx23)) ((fx19).1.tk (hx23)) (by rw [(fx19).1.kd (hx23)]; omega)) (fun r26 T28 σ27 gt29 hp => ?_)
  obtain ⟨rfl, rfl, w36, F37, f30, f31, f32, f33, f34⟩ := hp
  clear gt29
  have pc39 : GR Sx [51] jx (0) (bx) u0 [] jx (0) (bx) u0 1 [] := x51 hSb 
  have pm40 : CN nm mx.rt (cx) (GW Sx nm rnQ tb1 [51] jx (0) (bx) u0 (mx.push (1, 0, 0, [])) [] jx (0) (bx) u0 1 ((mx.push (1, 0, 0, [])).one tb1)) := fun hn9 => GW.of (gm51 hSb ) rfl
  have rd410 : GR Sx [51, 39] jx 0 (bx) u0 [51, 39] jx (0) (bx) u0 (0) ([]) := GR.nl
  have rd41 : GR Sx [51, 39] jx 0 (bx) u0 [39] jx (0) (bx) u0 (0 + 1) ([]) := GR.g0 (l := [51]) (ms := []) [39] rd410 pc39
  have rm420 : CN nm mx.rt (cx) (GW Sx nm rnQ tb1 [51, 39] jx 0 (bx) u0 (mx.push (1, 0, 0, [])) [51, 39] jx (0) (bx) u0 (0) (mx.push (1, 0, 0, []))) := fun _ => GW.nl
  have rm42 : CN nm mx.rt (cx) (GW Sx nm rnQ tb1 [51, 39] jx 0 (bx) u0 (mx.push (1, 0, 0, [])) [39] jx (0) (bx) u0 (0 + 1) ((mx.push (1, 0, 0, [])).one tb1)) := CN.gg (l := [51]) (ms := []) [39] rm420 (fun q9 => q9) pm40
  have pc43 : GR Sx [39] jx (0) (bx) u0 [2, 51, 159] (jx + 1) (0) (bx) u0 0 [] := x39 hSb 
  have pm44 : CN nm mx.rt (cx) (GW Sx nm rnQ tb1 [39] jx (0) (bx) u0 ((mx.push (1, 0, 0, [])).one tb1) [2, 51, 159] (jx + 1) (0) (bx) u0 0 (((mx.push (1, 0, 0, [])).one tb1).push (10, 6, 0, []))) := fun hn9 => GW.of (gm39 hSb ) (if_pos (by omega))
  have rd45 : GR Sx [51, 39] jx 0 (bx) u0 [2, 51, 159] (jx + 1) (0) (bx) u0 (0 + 1 + 0) ([]) := GR.g0 (l := [39]) (ms := [2, 51, 159]) [] rd41 pc43
  have rm46 : CN nm mx.rt (cx) (GW Sx nm rnQ tb1 [51, 39] jx 0 (bx) u0 (mx.push (1, 0, 0, [])) [2, 51, 159] (jx + 1) (0) (bx) u0 (0 + 1 + 0) (((mx.push (1, 0, 0, [])).one tb1).push (10, 6, 0, []))) := CN.gg (l := [39]) (ms := [2, 51, 159]) [] rm42 (fun q9 => q9) pm44
  have fx38 : RDX σ27 a Sx nx (jx + 1) (cx) (Nx + 1) := RDX.nx fx19 w14 ha (hx23) F37 f33
  have rp47 : RP σ27 a (kp + 1) := RP.next rp20 (hx23) F37 (by decide) (by decide) (by decide) f30 f31
  show Tn _ _ 21 T8 σ27 [(0, .ref a), (1, .int (iI k))] [] _
  refine tn_aload_n dX5_single_21 rfl 0 rfl ?_
  refine tn_iconst dX5_single_22 ?_
  have mg48 : MG Tg gs T8 σ27 a ((mx).li) := (MG.tk mg21l (hx23) f34)
  have sy49 : (((mx).li)).w = ((((mx.push (1, 0, 0, [])).one tb1).push (10, 6, 0, []))).w := rfl
  refine tn_callV (M := m_X5_single) (pc := 23) (ix := 213) (ci := 5) (M' := m_X5_expression) (As := [.int (iI 1)]) (rest := []) dX5_single_23 ok_X5_expression im_X5_expression se_X5_expression ml5_213 np_X5_expression rfl rfl ha rfl (Nat.le_of_ble_eq_true rfl) (Nat.le_of_ble_eq_true rfl) rfl (k_X5_expression_m (d) (T := T8) (σ := σ27) (a := a) (dp := 1) (kp := kp + 1) (eo := 0) (nm := nm) (Tg := Tg) (gs := gs) (mx := (((mx.push (1, 0, 0, [])).one tb1).push (10, 6, 0, []))) ha (by decide) w36 (by omega) fx38 (MG.cg mg48 sy49) (MBD.same (MBD.put hmb) sy49) (by omega) (by omega) rp47) (fun r50 T52 σ51 gt53 hp => ?_)
  obtain ⟨v57, rfl, w58, F59, f54, f55, f56⟩ := hp
  replace ha : OB T52 a 5 := gt53.ob ha
  have rp61 : RP σ51 a (kp - 4 * v57 + 1) := RP.up f56 (by omega)
  show Tn _ _ 26 T52 σ51 [(0, .ref a), (1, .int (iI k))] [.int (iI v57)] _
  refine tn_if_eq (tgt := 38) dX5_single_26 (by decide) ⟨by omega, by omega⟩ (fun h62 => ?_) (fun h62 => ?_)
  · refine tn_iconst dX5_single_38 ?_
    obtain ⟨⟨pl65, g66, fx67⟩, nf68⟩ := f55.2 (by omega)
    have g66g := g66 (bx) u0
    have rf69 : GRF Sx [51, 39] jx 0 (bx) u0 (pl65) := GR.fl (l := [2]) [51, 159] rd45 g66g
    have rb64 : YF σ51 a Sx bx [51, 39] jx ∧ FG Tg gs T52 σ51 a := ⟨⟨_, rf69, fx67⟩, nf68⟩
    exact tn_zret (v := 0) rfl (by decide) dX5_single_39 ⟨_, rfl, w58, (((FrC.rfl.trans (FrC.sub F15 (by decide))).trans (FrC.sub (FrC.old F37 gt9) (by decide))).trans (FrC.sub (FrC.old F59 gt9) (by decide))), by omega, ⟨fun q => absurd q (by decide), fun _ => rb64⟩, (RP.up rp61 (by omega))⟩
  · refine tn_aload_n dX5_single_29 rfl 0 rfl ?_
    refine tn_bipush dX5_single_30 (by decide) ?_
    obtain ⟨i70, es71, m72, mw73, lo74, rr75, fx76, ni77, mgq78, mb79, cn80⟩ := f55.1 (by omega)
    have rr75g := rr75 (bx) u0
    have pm81 : CN nm mx.rt (es71.foldl uC (cx)) (GW Sx nm rnQ tb1 [2] (jx + 1) (0) (bx) u0 (((mx.push (1, 0, 0, [])).one tb1).push (10, 6, 0, [])) [] i70 (0) (bx) u0 m72 (mw73.on (((mx.push (1, 0, 0, [])).one tb1).push (10, 6, 0, [])))) := fun hn9 => cn80 hn9 (bx) u0
    have rd82a : GR Sx [51, 39] jx 0 (bx) u0 [51, 159] i70 (0) (bx) u0 (0 + 1 + 0 + m72) ([] ++ es71) := GR.gg (l := [2]) (ms := []) [51, 159] rd45 rr75g
    have rd82 : GR Sx [51, 39] jx 0 (bx) u0 [51, 159] i70 (0) (bx) u0 (0 + 1 + 0 + m72) (es71) := rd82a
    have rm83 : CN nm mx.rt (es71.foldl uC (cx)) (GW Sx nm rnQ tb1 [51, 39] jx 0 (bx) u0 (mx.push (1, 0, 0, [])) [51, 159] i70 (0) (bx) u0 (0 + 1 + 0 + m72) (mw73.on (((mx.push (1, 0, 0, [])).one tb1).push (10, 6, 0, [])))) := CN.gg (l := [2]) (ms := []) [51, 159] rm46 (fun q9 => (fun q9 => q9) (NMA.fo ni77 q9)) pm81
    refine tn_callV (M := m_X5_single) (pc := 32) (ix := 102) (ci := 5) (M' := m_X5_taken) (As := [.int (iI 59)]) (rest := []) dX5_single_32 ok_X5_taken im_X5_taken se_X5_taken ml5_102 np_X5_taken rfl rfl ha rfl (Nat.le_of_ble_eq_true rfl) (Nat.le_of_ble_eq_true rfl) rfl (k_X5_taken_m (d + 48) (T := T52) (σ := σ51) (a := a) (s := 59) (kp := kp - 4 * v57 + 1) (Tg := Tg) (gs := gs) (mx := mw73) ha (by decide) w58 (by omega) fx76 mgq78 (by omega) rp61) (fun r84 T86 σ85 gt87 hp => ?_)
    obtain ⟨v92, rfl, rfl, w93, F94, f88, f89, f90, f91⟩ := hp
    clear gt87
    have pc95 : GR Sx [51] i70 (0) (bx) u0 [] i70 (0) (bx) u0 1 [] := x51 hSb 
    have pm96 : CN nm mx.rt (es71.foldl uC (cx)) (GW Sx nm rnQ tb1 [51] i70 (0) (bx) u0 (mw73.on (((mx.push (1, 0, 0, [])).one tb1).push (10, 6, 0, []))) [] i70 (0) (bx) u0 1 ((mw73.on (((mx.push (1, 0, 0, [])).one tb1).push (10, 6, 0, []))).one tb1)) := fun hn9 => GW.of (gm51 hSb ) rfl
    have rd97 : GR Sx [51, 39] jx 0 (bx) u0 [159] i70 (0) (bx) u0 (0 + 1 + 0 + m72 + 1) (es71) := GR.g0 (l := [51]) (ms := []) [159] rd82 pc95
    have rm98 : CN nm mx.rt (es71.foldl uC (cx)) (GW Sx nm rnQ tb1 [51, 39] jx 0 (bx) u0 (mx.push (1, 0, 0, [])) [159] i70 (0) (bx) u0 (0 + 1 + 0 + m72 + 1) ((mw73.on (((mx.push (1, 0, 0, [])).one tb1).push (10, 6, 0, []))).one tb1)) := CN.gg (l := [51]) (ms := []) [159] rm83 (fun q9 => q9) pm96
    have rp100 : RP σ85 a (kp - 4 * v57 - 4 * v92 + 1) := RP.up f91 (by omega)
    show Tn _ _ 35 T52 σ85 [(0, .ref a), (1, .int (iI k))] [.int (iI v92)] _
    refine tn_if_ne (tgt := 40) dX5_single_35 (by decide) ⟨by omega, by omega⟩ (fun h101 => ?_) (fun h101 => ?_)
    · refine tn_aload_n dX5_single_40 rfl 0 rfl ?_
      obtain ⟨xq102, hx103, hk104⟩ : ∃ x : Nat, σ51.2.1 35 a = (x : Int) ∧ (T52 x).1 = 31 := wf_35 w58 ha
      have hk104o : OB T52 xq102 1 := ⟨by omega, by rw [hk104]; rfl, by omega⟩
      refine tn_getR (ci := 5) (i := 2) (n := 35) (x := xq102) dX5_single_41 rfl lay_5 (by decide) fl5_47 ha rfl rfl (rc_F F94 (Or.inl (by decide)) (by decide) (hx103)) ?_
      refine tn_iload_n dX5_single_44 rfl 1 rfl ?_
      refine tn_iconst dX5_single_45 ?_
      refine tn_iconst dX5_single_46 ?_
      refine tn_callV (M := m_X5_single) (pc := 47) (ix := 139) (ci := 1) (M' := m_X1_append) (As := [.int (iI k), .int (iI 0), .int (iI 0)]) (rest := []) dX5_single_47 ok_X1_append im_X1_append se_X1_append ml5_139 np_X1_append rfl rfl hk104o rfl (Nat.le_of_ble_eq_true rfl) (Nat.le_of_ble_eq_true rfl) rfl (k_append_c (d + 47) (T := T52) (σ := σ85) (a := xq102) (k := k) (p := 0) (q := 0) hk104o hk104 (by omega) (by decide) (by decide) w93 (RP.cnt rp100 w93 ha (rc_F F94 (Or.inl (by decide)) (by decide) (hx103)) (by omega)) (by omega)) (fun r106 T108 σ107 gt109 hp => ?_)
      obtain ⟨rfl, w114, F115, f110, f111, f112⟩ := hp
      obtain ⟨kd117, fx116⟩ := f89.1 (by omega)
      have pc118 : GR Sx [159] i70 (0) (bx) u0 [] (i70 + 1) (0) (bx) u0 0 [] := y59 hSb kd117
      have pm119 : CN nm mx.rt (es71.foldl uC (cx)) (GW Sx nm rnQ tb1 [159] i70 (0) (bx) u0 ((mw73.on (((mx.push (1, 0, 0, [])).one tb1).push (10, 6, 0, []))).one tb1) [] (i70 + 1) (0) (bx) u0 0 ((mw73.on (((mx.push (1, 0, 0, [])).one tb1).push (10, 6, 0, []))).one tb1)) := fun _ => GW.of (gmy59 hSb kd117) rfl
      have rd120 : GR Sx [51, 39] jx 0 (bx) u0 [] (i70 + 1) (0) (bx) u0 (0 + 1 + 0 + m72 + 1 + 0) (es71) := GR.g0 (l := [159]) (ms := []) [] rd97 pc118
      have rm121 : CN nm mx.rt (es71.foldl uC (cx)) (GW Sx nm rnQ tb1 [51, 39] jx 0 (bx) u0 (mx.push (1, 0, 0, [])) [] (i70 + 1) (0) (bx) u0 (0 + 1 + 0 + m72 + 1 + 0) ((mw73.on (((mx.push (1, 0, 0, [])).one tb1).push (10, 6, 0, []))).one tb1)) := CN.gg (l := [159]) (ms := []) [] rm98 (fun q9 => q9) pm119
      have nn122 : 0 ≤ (mw73).n := by have z7 : WT T52 σ85 := w93; have z6 : σ85.2.1 35 a = (xq102 : Int) := rc_F F94 (Or.inl (by decide)) (by decide) (hx103); have z9 := wf_6 z7 (code_ob z7 ha z6); have z8 := MG.e6 f90 (MG.cd f90 z6); omega
      have a35123 : σ85.2.1 35 a = (xq102 : Int) := rc_F F94 (Or.inl (by decide)) (by decide) (hx103)
      have fx124 : RDX σ107 a Sx nx (i70 + 1) (es71.foldl uC (cx)) (Nx + 1 + m72 + 1) := RDX.ap fx116 w93 ha (rc_F F94 (Or.inl (by decide)) (by decide) (hx103)) F115 f110
      replace ha : OB T108 a 5 := gt109.ob ha
      have rp125 : RP σ107 a (kp - 4 * v57 - 4 * v92 + 1 + 1) := RP.app rp100 (rc_F F94 (Or.inl (by decide)) (by decide) (hx103)) F115 (by decide) (by decide) (by decide) (by decide) f110
      have rp126 : RP σ107 a (kp - 4 * v57 - 4 * v92 + 2) := RP.up rp125 (by omega)
      have mg127 : MG Tg gs T108 σ107 a ((mw73).put (rwI (k) (0) (0))) := MG.app f90 (MG.cd f90 a35123) gt109 f110 f111 f112 (by omega)
      show Tn _ _ 50 T108 σ107 [(0, .ref a), (1, .int (iI k))] [] _
      refine tn_aload_n dX5_single_50 rfl 0 rfl ?_
      obtain ⟨xq128, hx129, hk130⟩ : ∃ x : Nat, σ107.2.1 35 a = (x : Int) ∧ (T108 x).1 = 31 := wf_35 w114 ha
      have hk130o : OB T108 xq128 1 := ⟨by omega, by rw [hk130]; rfl, by omega⟩
      refine tn_getR (ci := 5) (i := 2) (n := 35) (x := xq128) dX5_single_51 rfl lay_5 (by decide) fl5_47 ha rfl rfl (hx129) ?_
      refine tn_iconst dX5_single_54 ?_
      refine tn_aload_n dX5_single_55 rfl 0 rfl ?_
      refine tn_getI (ci := 5) (i := 17) (n := 50) (t := σ107.2.1 50 a) dX5_single_56 rfl lay_5 (by decide) fl5_216 ha rfl rfl (rfl) ?_
      have g132 : ((-2147483648 : Int) ≤ σ107.2.1 50 a ∧ σ107.2.1 50 a ≤ 2147483647) := wf_50 w114 ha
      refine tn_aload_n dX5_single_59 rfl 0 rfl ?_
      refine tn_getI (ci := 5) (i := 18) (n := 51) (t := σ107.2.1 51 a) dX5_single_60 rfl lay_5 (by decide) fl5_219 ha rfl rfl (rfl) ?_
      have g133 : ((-2147483648 : Int) ≤ σ107.2.1 51 a ∧ σ107.2.1 51 a ≤ 2147483647) := wf_51 w114 ha
      have c6134 : 1 ≤ σ107.2.1 6 xq128 := MG.c1 (m := mw73) mg127 (MG.cd mg127 (hx129)) nn122
      refine tn_callV (M := m_X5_single) (pc := 63) (ix := 143) (ci := 1) (M' := m_X1_lastOperand) (As := [.int (iI 0), .int (iI (σ107.2.1 50 a)), .int (iI (σ107.2.1 51 a))]) (rest := []) dX5_single_63 ok_X1_lastOperand im_X1_lastOperand se_X1_lastOperand ml5_143 np_X1_lastOperand rfl rfl hk130o rfl (Nat.le_of_ble_eq_true rfl) (Nat.le_of_ble_eq_true rfl) rfl (k_lastOperand_c (d + 49) (T := T108) (σ := σ107) (a := xq128) (i := 0) (k := σ107.2.1 50 a) (p := σ107.2.1 51 a) hk130o hk130 (by decide) (by omega) (by omega) w114 (by omega) (by omega)) (fun r135 T137 σ136 gt138 hp => ?_)
      obtain ⟨rfl, rfl, w142, F143, f139, f140⟩ := hp
      clear gt138
      have mg144 : MG Tg gs T108 σ136 a ((mw73).put (uZ (uZ (rwI (k) (0) (0)) (3 + 2 * 0) (σ107.2.1 50 a)) (4 + 2 * 0) (σ107.2.1 51 a))) := MG.lo (m := mw73) mg127 (MG.cd mg127 (show σ107.2.1 35 a = (xq128 : Int) from hx129)) f139 f140 (by decide) (by show (k : Int) ≠ 12; omega) nn122
      have z145 : σ107.2.1 50 a = (mw73).pk := by have z0 := MG.e50 mg127; have z1 : σ107.2.1 50 a = (mw73).pk := z0; have z2 : σ107.2.1 50 a = σ107.2.1 50 a := rfl; omega
      have z146 : σ107.2.1 51 a = (mw73).pv := by have z0 := MG.e51 mg127; have z1 : σ107.2.1 51 a = (mw73).pv := z0; have z2 : σ107.2.1 51 a = σ107.2.1 51 a := rfl; omega
      have mg144l : MG Tg gs T108 σ136 a ((mw73).sg k) := MG.sg (m := mw73) mg144 z145 z146
      have fx147 : RDX σ136 a Sx nx (i70 + 1) (es71.foldl uC (cx)) (Nx + 1 + m72 + 1) := RDX.fc fx124 w114 ha F143 (by decide) (by decide)
      have rp148 : RP σ136 a (kp - 4 * v57 - 4 * v92 + 2) := RP.frc rp126 F143 (by decide) (by decide) (by decide) (by decide) (by decide)
      show Tn _ _ 66 T108 σ136 [(0, .ref a), (1, .int (iI k))] [] _
      refine tn_iconst dX5_single_66 ?_
      have hz153e : ((mw73.on (((mx.push (1, 0, 0, [])).one tb1).push (10, 6, 0, []))).one tb1) = (((mw73).sg k)).on mx := (by rw [hk6]; rfl)
      have hz153c : (es71.foldl uC (cx)) = (es71).foldl uC cx := rfl
      have hz153 : CN nm mx.rt ((es71).foldl uC cx) (GW Sx nm rnQ tb1 [51, 39] jx 0 (bx) u0 (mx.push (1, 0, 0, [])) [] (i70 + 1) (0) (bx) u0 (0 + 1 + 0 + m72 + 1 + 0) ((((mw73).sg k)).on mx)) := by
        have q9 := CN.up (c2 := es71.foldl uC (cx)) rm121 (fun q9 => q9)
        rw [hz153e, hz153c] at q9
        exact q9
      have fe154 := RDX.nq (M := Nx + (0 + 1 + 0 + m72 + 1 + 0)) (RDX.cq (c2 := (es71).foldl uC cx) fx147 hz153c) (by omega)
      have fe154m : ((es71).foldl uC cx).m = σ.2.1 45 a := (fe154.e45).symm.trans (rc_F F143 (Or.inl (by decide)) (by decide) (rc_F F115 (Or.inl (by decide)) (by decide) (rc_F F94 (Or.inl (by decide)) (by decide) (rc_F F59 (Or.inl (by decide)) (by decide) (rc_F F37 (Or.inl (by decide)) (by decide) (rc_F F15 (Or.inl (by decide)) (by decide) (rfl)))))))
      have ra151 : YSM σ136 a Sx nx bx [51, 39] jx cx (Nx) bx [] ((jx : Int) + 1) nm Tg gs T108 mx (mx.push (1, 0, 0, [])) (fun m9 => m9) := ⟨(i70 + 1), es71, 0 + 1 + 0 + m72 + 1 + 0, ((mw73).sg k), (by omega), rd120, fe154, by rw [fe154m]; omega, ni77, mg144l, (MBD.put mb79), hz153⟩
      exact tn_zret (v := 1) rfl (by decide) dX5_single_67 ⟨_, rfl, w142, ((((((FrC.rfl.trans (FrC.sub F15 (by decide))).trans (FrC.sub (FrC.old F37 gt9) (by decide))).trans (FrC.sub (FrC.old F59 gt9) (by decide))).trans (FrC.sub (FrC.old F94 (GT.trans gt9 gt53)) (by decide))).trans (FrC.sub (FrC.old F115 (GT.trans gt9 gt53)) (by decide))).trans (FrC.sub (FrC.old F143 (GT.trans (GT.trans gt9 gt53) gt109)) (by decide))), by omega, ⟨fun _ => ra151, fun q => absurd q (by decide)⟩, (RP.up rp148 (by omega))⟩
    · refine tn_iconst dX5_single_38 ?_
      obtain ⟨kd157, fx158, tk159⟩ := f89.2 (by omega)
      have pc160 : GRF Sx [159] i70 (0) (bx) u0 (tkS Sx i70).1 := z59 hSb kd157
      have rf161 : GRF Sx [51, 39] jx 0 (bx) u0 ((tkS Sx i70).1) := GR.fl (l := [159]) [] rd97 pc160
      have rb156 : YF σ85 a Sx bx [51, 39] jx ∧ FG Tg gs T52 σ85 a := ⟨⟨_, rf161, fx158⟩, (f90).1⟩
      exact tn_zret (v := 0) rfl (by decide) dX5_single_39 ⟨_, rfl, w93, ((((FrC.rfl.trans (FrC.sub F15 (by decide))).trans (FrC.sub (FrC.old F37 gt9) (by decide))).trans (FrC.sub (FrC.old F59 gt9) (by decide))).trans (FrC.sub (FrC.old F94 (GT.trans gt9 gt53)) (by decide))), by omega, ⟨fun q => absurd q (by decide), fun _ => rb156⟩, (RP.up rp100 (by omega))⟩
end
section
set_option maxHeartbeats 1000000 in
set_option maxRecDepth 20000 in
theorem k_X5_single_mr (d : Nat) {T : CT} {σ : MS} {a : Nat} {k : Int} {kp : Int} {Sx : Int → Int} {nx jx : Nat} {cx : CS} {Nx : Int} {Tg : CT} {gs : MS} {mx : MK} {nm : Int → Int64 → Int} {bx : Int} (ha : OB T a 5) (h_k : -2147483648 ≤ k ∧ k ≤ 2147483647) (hw : WT T σ) (hk6 : k = 7) (hfx : RDX σ a Sx nx jx cx Nx) (hmg : MG Tg gs T σ a mx) (hmb : MBD mx) (hkd : ckd (tkS Sx jx) = 259) (hkp : kp ≤ 140) (hrp : RP σ a kp) : Tn (d + 51) m_X5_single 0 T σ [(0, .ref a), (1, .int (iI k))] [] (fun ro T2 σ2 => ∃ v : Int, ro = some (.int (iI v)) ∧ WT T2 σ2 ∧ FrC T [5, 6, 7, 43, 44, 47, 50, 51, 84, 85, 86, 87, 521] σ σ2 ∧ (v = 0 ∨ v = 1) ∧ (YQM σ2 a Sx nx bx [51, 39] jx cx (Nx) 1 v nm Tg gs T2 mx (mx.push (1, 0, 0, [])) (fun m9 => m9)) ∧ (RP σ2 a (kp + 1 - 7 * v))) := by
  have hSb := hfx.1.sb
  have e45 := hfx.e45
  have hpo9 := hfx.po
  unfold PO at hpo9
  refine tn_aload_n dX5_single_0 rfl 0 rfl ?_
  obtain ⟨xq1, hx2, hk3⟩ : ∃ x : Nat, σ.2.1 35 a = (x : Int) ∧ (T x).1 = 31 := wf_35 hw ha
  have hk3o : OB T xq1 1 := ⟨by omega, by rw [hk3]; rfl, by omega⟩
  refine tn_getR (ci := 5) (i := 2) (n := 35) (x := xq1) dX5_single_1 rfl lay_5 (by decide) fl5_47 ha rfl rfl (hx2) ?_
  refine tn_bipush dX5_single_4 (by decide) ?_
  refine tn_aload_n dX5_single_6 rfl 0 rfl ?_
  refine tn_getI (ci := 5) (i := 12) (n := 45) (t := σ.2.1 45 a) dX5_single_7 rfl lay_5 (by decide) fl5_64 ha rfl rfl (rfl) ?_
  have g5 : ((-2147483648 : Int) ≤ σ.2.1 45 a ∧ σ.2.1 45 a ≤ 2147483647) := wf_45 hw ha
  refine tn_iconst dX5_single_10 ?_
  refine tn_callV (M := m_X5_single) (pc := 11) (ix := 139) (ci := 1) (M' := m_X1_append) (As := [.int (iI 11), .int (iI (σ.2.1 45 a)), .int (iI 0)]) (rest := []) dX5_single_11 ok_X1_append im_X1_append se_X1_append ml5_139 np_X1_append rfl rfl hk3o rfl (Nat.le_of_ble_eq_true rfl) (Nat.le_of_ble_eq_true rfl) rfl (k_append_c (d + 47) (T := T) (σ := σ) (a := xq1) (k := 11) (p := σ.2.1 45 a) (q := 0) hk3o hk3 (by decide) (by omega) (by decide) hw (RP.cnt hrp hw ha (hx2) (by omega)) (by omega)) (fun r6 T8 σ7 gt9 hp => ?_)
  obtain ⟨rfl, w14, F15, f10, f11, f12⟩ := hp
  have nn16 : 0 ≤ (mx).n := by have z7 : WT T σ := hw; have z6 : σ.2.1 35 a = (xq1 : Int) := hx2; have z9 := wf_6 z7 (code_ob z7 ha z6); have z8 := MG.e6 hmg (MG.cd hmg z6); omega
  have z17 : σ.2.1 45 a = (mx).ln := by have z0 := MG.e45 hmg; have z1 : σ.2.1 45 a = (mx).ln := z0; have z2 : σ.2.1 45 a = σ.2.1 45 a := rfl; have z3 : σ.2.1 45 a = σ.2.1 45 a := rfl; omega
  have a3518 : σ.2.1 35 a = (xq1 : Int) := hx2
  have fx19 : RDX σ7 a Sx nx jx (cx) (Nx + 1) := RDX.ap hfx hw ha (hx2) F15 f10
  replace ha : OB T8 a 5 := gt9.ob ha
  have rp20 : RP σ7 a (kp + 1) := RP.app hrp (hx2) F15 (by decide) (by decide) (by decide) (by decide) f10
  have mg21 : MG Tg gs T8 σ7 a ((mx).put (rwI (11) (σ.2.1 45 a) (0))) := MG.app hmg (MG.cd hmg a3518) gt9 f10 f11 f12 (by omega)
  have mg21l : MG Tg gs T8 σ7 a ((mx).li) := MG.li (m := mx) mg21 z17
  show Tn _ _ 14 T8 σ7 [(0, .ref a), (1, .int (iI k))] [] _
  refine tn_aload_n dX5_single_14 rfl 0 rfl ?_
  obtain ⟨xq22, hx23, hk24⟩ : ∃ x : Nat, σ7.2.1 33 a = (x : Int) ∧ (T8 x).1 = 39 := wf_33 w14 ha
  have hk24o : OB T8 xq22 9 := ⟨by omega, by rw [hk24]; rfl, by omega⟩
  refine tn_getR (ci := 5) (i := 0) (n := 33) (x := xq22) dX5_single_15 rfl lay_5 (by decide) fl5_12 ha rfl rfl (hx23) ?_
  refine tn_callV (M := m_X5_single) (pc := 18) (ix := 93) (ci := 9) (M' := m_X9_next) (As := []) (rest := []) dX5_single_18 ok_X9_next im_X9_next se_X9_next ml5_93 np_X9_next rfl rfl hk24o rfl (Nat.le_of_ble_eq_true rfl) (Nat.le_of_ble_eq_true rfl) rfl (k_X9_next_m (d + 49) (T := T8) (σ := σ7) (a := xq22) hk24o w14 (RP.tk rp20 w14 ha (hx23)) ((fx19).1.tk (hx23)) (by rw [(fx19).1.kd (hx23)]; omega)) (fun r26 T28 σ27 gt29 hp => ?_)
  obtain ⟨rfl, rfl, w36, F37, f30, f31, f32, f33, f34⟩ := hp
  clear gt29
  have pc39 : GR Sx [51] jx (0) (bx) u0 [] jx (0) (bx) u0 1 [] := x51 hSb 
  have pm40 : CN nm mx.rt (cx) (GW Sx nm rnQ tb1 [51] jx (0) (bx) u0 (mx.push (1, 0, 0, [])) [] jx (0) (bx) u0 1 ((mx.push (1, 0, 0, [])).one tb1)) := fun hn9 => GW.of (gm51 hSb ) rfl
  have rd410 : GR Sx [51, 39] jx 0 (bx) u0 [51, 39] jx (0) (bx) u0 (0) ([]) := GR.nl
  have rd41 : GR Sx [51, 39] jx 0 (bx) u0 [39] jx (0) (bx) u0 (0 + 1) ([]) := GR.g0 (l := [51]) (ms := []) [39] rd410 pc39
  have rm420 : CN nm mx.rt (cx) (GW Sx nm rnQ tb1 [51, 39] jx 0 (bx) u0 (mx.push (1, 0, 0, [])) [51, 39] jx (0) (bx) u0 (0) (mx.push (1, 0, 0, []))) := fun _ => GW.nl
  have rm42 : CN nm mx.rt (cx) (GW Sx nm rnQ tb1 [51, 39] jx 0 (bx) u0 (mx.push (1, 0, 0, [])) [39] jx (0) (bx) u0 (0 + 1) ((mx.push (1, 0, 0, [])).one tb1)) := CN.gg (l := [51]) (ms := []) [39] rm420 (fun q9 => q9) pm40
  have pc43 : GR Sx [39] jx (0) (bx) u0 [2, 51, 159] (jx + 1) (0) (bx) u0 0 [] := x39 hSb 
  have pm44 : CN nm mx.rt (cx) (GW Sx nm rnQ tb1 [39] jx (0) (bx) u0 ((mx.push (1, 0, 0, [])).one tb1) [2, 51, 159] (jx + 1) (0) (bx) u0 0 (((mx.push (1, 0, 0, [])).one tb1).push (10, 7, 0, []))) := fun hn9 => GW.of (gm39 hSb ) (if_neg (by omega))
  have rd45 : GR Sx [51, 39] jx 0 (bx) u0 [2, 51, 159] (jx + 1) (0) (bx) u0 (0 + 1 + 0) ([]) := GR.g0 (l := [39]) (ms := [2, 51, 159]) [] rd41 pc43
  have rm46 : CN nm mx.rt (cx) (GW Sx nm rnQ tb1 [51, 39] jx 0 (bx) u0 (mx.push (1, 0, 0, [])) [2, 51, 159] (jx + 1) (0) (bx) u0 (0 + 1 + 0) (((mx.push (1, 0, 0, [])).one tb1).push (10, 7, 0, []))) := CN.gg (l := [39]) (ms := [2, 51, 159]) [] rm42 (fun q9 => q9) pm44
  have fx38 : RDX σ27 a Sx nx (jx + 1) (cx) (Nx + 1) := RDX.nx fx19 w14 ha (hx23) F37 f33
  have rp47 : RP σ27 a (kp + 1) := RP.next rp20 (hx23) F37 (by decide) (by decide) (by decide) f30 f31
  show Tn _ _ 21 T8 σ27 [(0, .ref a), (1, .int (iI k))] [] _
  refine tn_aload_n dX5_single_21 rfl 0 rfl ?_
  refine tn_iconst dX5_single_22 ?_
  have mg48 : MG Tg gs T8 σ27 a ((mx).li) := (MG.tk mg21l (hx23) f34)
  have sy49 : (((mx).li)).w = ((((mx.push (1, 0, 0, [])).one tb1).push (10, 7, 0, []))).w := rfl
  refine tn_callV (M := m_X5_single) (pc := 23) (ix := 213) (ci := 5) (M' := m_X5_expression) (As := [.int (iI 1)]) (rest := []) dX5_single_23 ok_X5_expression im_X5_expression se_X5_expression ml5_213 np_X5_expression rfl rfl ha rfl (Nat.le_of_ble_eq_true rfl) (Nat.le_of_ble_eq_true rfl) rfl (k_X5_expression_m (d) (T := T8) (σ := σ27) (a := a) (dp := 1) (kp := kp + 1) (eo := 0) (nm := nm) (Tg := Tg) (gs := gs) (mx := (((mx.push (1, 0, 0, [])).one tb1).push (10, 7, 0, []))) ha (by decide) w36 (by omega) fx38 (MG.cg mg48 sy49) (MBD.same (MBD.put hmb) sy49) (by omega) (by omega) rp47) (fun r50 T52 σ51 gt53 hp => ?_)
  obtain ⟨v57, rfl, w58, F59, f54, f55, f56⟩ := hp
  replace ha : OB T52 a 5 := gt53.ob ha
  have rp61 : RP σ51 a (kp - 4 * v57 + 1) := RP.up f56 (by omega)
  show Tn _ _ 26 T52 σ51 [(0, .ref a), (1, .int (iI k))] [.int (iI v57)] _
  refine tn_if_eq (tgt := 38) dX5_single_26 (by decide) ⟨by omega, by omega⟩ (fun h62 => ?_) (fun h62 => ?_)
  · refine tn_iconst dX5_single_38 ?_
    obtain ⟨⟨pl65, g66, fx67⟩, nf68⟩ := f55.2 (by omega)
    have g66g := g66 (bx) u0
    have rf69 : GRF Sx [51, 39] jx 0 (bx) u0 (pl65) := GR.fl (l := [2]) [51, 159] rd45 g66g
    have rb64 : YF σ51 a Sx bx [51, 39] jx ∧ FG Tg gs T52 σ51 a := ⟨⟨_, rf69, fx67⟩, nf68⟩
    exact tn_zret (v := 0) rfl (by decide) dX5_single_39 ⟨_, rfl, w58, (((FrC.rfl.trans (FrC.sub F15 (by decide))).trans (FrC.sub (FrC.old F37 gt9) (by decide))).trans (FrC.sub (FrC.old F59 gt9) (by decide))), by omega, ⟨fun q => absurd q (by decide), fun _ => rb64⟩, (RP.up rp61 (by omega))⟩
  · refine tn_aload_n dX5_single_29 rfl 0 rfl ?_
    refine tn_bipush dX5_single_30 (by decide) ?_
    obtain ⟨i70, es71, m72, mw73, lo74, rr75, fx76, ni77, mgq78, mb79, cn80⟩ := f55.1 (by omega)
    have rr75g := rr75 (bx) u0
    have pm81 : CN nm mx.rt (es71.foldl uC (cx)) (GW Sx nm rnQ tb1 [2] (jx + 1) (0) (bx) u0 (((mx.push (1, 0, 0, [])).one tb1).push (10, 7, 0, [])) [] i70 (0) (bx) u0 m72 (mw73.on (((mx.push (1, 0, 0, [])).one tb1).push (10, 7, 0, [])))) := fun hn9 => cn80 hn9 (bx) u0
    have rd82a : GR Sx [51, 39] jx 0 (bx) u0 [51, 159] i70 (0) (bx) u0 (0 + 1 + 0 + m72) ([] ++ es71) := GR.gg (l := [2]) (ms := []) [51, 159] rd45 rr75g
    have rd82 : GR Sx [51, 39] jx 0 (bx) u0 [51, 159] i70 (0) (bx) u0 (0 + 1 + 0 + m72) (es71) := rd82a
    have rm83 : CN nm mx.rt (es71.foldl uC (cx)) (GW Sx nm rnQ tb1 [51, 39] jx 0 (bx) u0 (mx.push (1, 0, 0, [])) [51, 159] i70 (0) (bx) u0 (0 + 1 + 0 + m72) (mw73.on (((mx.push (1, 0, 0, [])).one tb1).push (10, 7, 0, [])))) := CN.gg (l := [2]) (ms := []) [51, 159] rm46 (fun q9 => (fun q9 => q9) (NMA.fo ni77 q9)) pm81
    refine tn_callV (M := m_X5_single) (pc := 32) (ix := 102) (ci := 5) (M' := m_X5_taken) (As := [.int (iI 59)]) (rest := []) dX5_single_32 ok_X5_taken im_X5_taken se_X5_taken ml5_102 np_X5_taken rfl rfl ha rfl (Nat.le_of_ble_eq_true rfl) (Nat.le_of_ble_eq_true rfl) rfl (k_X5_taken_m (d + 48) (T := T52) (σ := σ51) (a := a) (s := 59) (kp := kp - 4 * v57 + 1) (Tg := Tg) (gs := gs) (mx := mw73) ha (by decide) w58 (by omega) fx76 mgq78 (by omega) rp61) (fun r84 T86 σ85 gt87 hp => ?_)
    obtain ⟨v92, rfl, rfl, w93, F94, f88, f89, f90, f91⟩ := hp
    clear gt87
    have pc95 : GR Sx [51] i70 (0) (bx) u0 [] i70 (0) (bx) u0 1 [] := x51 hSb 
    have pm96 : CN nm mx.rt (es71.foldl uC (cx)) (GW Sx nm rnQ tb1 [51] i70 (0) (bx) u0 (mw73.on (((mx.push (1, 0, 0, [])).one tb1).push (10, 7, 0, []))) [] i70 (0) (bx) u0 1 ((mw73.on (((mx.push (1, 0, 0, [])).one tb1).push (10, 7, 0, []))).one tb1)) := fun hn9 => GW.of (gm51 hSb ) rfl
    have rd97 : GR Sx [51, 39] jx 0 (bx) u0 [159] i70 (0) (bx) u0 (0 + 1 + 0 + m72 + 1) (es71) := GR.g0 (l := [51]) (ms := []) [159] rd82 pc95
    have rm98 : CN nm mx.rt (es71.foldl uC (cx)) (GW Sx nm rnQ tb1 [51, 39] jx 0 (bx) u0 (mx.push (1, 0, 0, [])) [159] i70 (0) (bx) u0 (0 + 1 + 0 + m72 + 1) ((mw73.on (((mx.push (1, 0, 0, [])).one tb1).push (10, 7, 0, []))).one tb1)) := CN.gg (l := [51]) (ms := []) [159] rm83 (fun q9 => q9) pm96
    have rp100 : RP σ85 a (kp - 4 * v57 - 4 * v92 + 1) := RP.up f91 (by omega)
    show Tn _ _ 35 T52 σ85 [(0, .ref a), (1, .int (iI k))] [.int (iI v92)] _
    refine tn_if_ne (tgt := 40) dX5_single_35 (by decide) ⟨by omega, by omega⟩ (fun h101 => ?_) (fun h101 => ?_)
    · refine tn_aload_n dX5_single_40 rfl 0 rfl ?_
      obtain ⟨xq102, hx103, hk104⟩ : ∃ x : Nat, σ51.2.1 35 a = (x : Int) ∧ (T52 x).1 = 31 := wf_35 w58 ha
      have hk104o : OB T52 xq102 1 := ⟨by omega, by rw [hk104]; rfl, by omega⟩
      refine tn_getR (ci := 5) (i := 2) (n := 35) (x := xq102) dX5_single_41 rfl lay_5 (by decide) fl5_47 ha rfl rfl (rc_F F94 (Or.inl (by decide)) (by decide) (hx103)) ?_
      refine tn_iload_n dX5_single_44 rfl 1 rfl ?_
      refine tn_iconst dX5_single_45 ?_
      refine tn_iconst dX5_single_46 ?_
      refine tn_callV (M := m_X5_single) (pc := 47) (ix := 139) (ci := 1) (M' := m_X1_append) (As := [.int (iI k), .int (iI 0), .int (iI 0)]) (rest := []) dX5_single_47 ok_X1_append im_X1_append se_X1_append ml5_139 np_X1_append rfl rfl hk104o rfl (Nat.le_of_ble_eq_true rfl) (Nat.le_of_ble_eq_true rfl) rfl (k_append_c (d + 47) (T := T52) (σ := σ85) (a := xq102) (k := k) (p := 0) (q := 0) hk104o hk104 (by omega) (by decide) (by decide) w93 (RP.cnt rp100 w93 ha (rc_F F94 (Or.inl (by decide)) (by decide) (hx103)) (by omega)) (by omega)) (fun r106 T108 σ107 gt109 hp => ?_)
      obtain ⟨rfl, w114, F115, f110, f111, f112⟩ := hp
      obtain ⟨kd117, fx116⟩ := f89.1 (by omega)
      have pc118 : GR Sx [159] i70 (0) (bx) u0 [] (i70 + 1) (0) (bx) u0 0 [] := y59 hSb kd117
      have pm119 : CN nm mx.rt (es71.foldl uC (cx)) (GW Sx nm rnQ tb1 [159] i70 (0) (bx) u0 ((mw73.on (((mx.push (1, 0, 0, [])).one tb1).push (10, 7, 0, []))).one tb1) [] (i70 + 1) (0) (bx) u0 0 ((mw73.on (((mx.push (1, 0, 0, [])).one tb1).push (10, 7, 0, []))).one tb1)) := fun _ => GW.of (gmy59 hSb kd117) rfl
      have rd120 : GR Sx [51, 39] jx 0 (bx) u0 [] (i70 + 1) (0) (bx) u0 (0 + 1 + 0 + m72 + 1 + 0) (es71) := GR.g0 (l := [159]) (ms := []) [] rd97 pc118
      have rm121 : CN nm mx.rt (es71.foldl uC (cx)) (GW Sx nm rnQ tb1 [51, 39] jx 0 (bx) u0 (mx.push (1, 0, 0, [])) [] (i70 + 1) (0) (bx) u0 (0 + 1 + 0 + m72 + 1 + 0) ((mw73.on (((mx.push (1, 0, 0, [])).one tb1).push (10, 7, 0, []))).one tb1)) := CN.gg (l := [159]) (ms := []) [] rm98 (fun q9 => q9) pm119
      have nn122 : 0 ≤ (mw73).n := by have z7 : WT T52 σ85 := w93; have z6 : σ85.2.1 35 a = (xq102 : Int) := rc_F F94 (Or.inl (by decide)) (by decide) (hx103); have z9 := wf_6 z7 (code_ob z7 ha z6); have z8 := MG.e6 f90 (MG.cd f90 z6); omega
      have a35123 : σ85.2.1 35 a = (xq102 : Int) := rc_F F94 (Or.inl (by decide)) (by decide) (hx103)
      have fx124 : RDX σ107 a Sx nx (i70 + 1) (es71.foldl uC (cx)) (Nx + 1 + m72 + 1) := RDX.ap fx116 w93 ha (rc_F F94 (Or.inl (by decide)) (by decide) (hx103)) F115 f110
      replace ha : OB T108 a 5 := gt109.ob ha
      have rp125 : RP σ107 a (kp - 4 * v57 - 4 * v92 + 1 + 1) := RP.app rp100 (rc_F F94 (Or.inl (by decide)) (by decide) (hx103)) F115 (by decide) (by decide) (by decide) (by decide) f110
      have rp126 : RP σ107 a (kp - 4 * v57 - 4 * v92 + 2) := RP.up rp125 (by omega)
      have mg127 : MG Tg gs T108 σ107 a ((mw73).put (rwI (k) (0) (0))) := MG.app f90 (MG.cd f90 a35123) gt109 f110 f111 f112 (by omega)
      show Tn _ _ 50 T108 σ107 [(0, .ref a), (1, .int (iI k))] [] _
      refine tn_aload_n dX5_single_50 rfl 0 rfl ?_
      obtain ⟨xq128, hx129, hk130⟩ : ∃ x : Nat, σ107.2.1 35 a = (x : Int) ∧ (T108 x).1 = 31 := wf_35 w114 ha
      have hk130o : OB T108 xq128 1 := ⟨by omega, by rw [hk130]; rfl, by omega⟩
      refine tn_getR (ci := 5) (i := 2) (n := 35) (x := xq128) dX5_single_51 rfl lay_5 (by decide) fl5_47 ha rfl rfl (hx129) ?_
      refine tn_iconst dX5_single_54 ?_
      refine tn_aload_n dX5_single_55 rfl 0 rfl ?_
      refine tn_getI (ci := 5) (i := 17) (n := 50) (t := σ107.2.1 50 a) dX5_single_56 rfl lay_5 (by decide) fl5_216 ha rfl rfl (rfl) ?_
      have g132 : ((-2147483648 : Int) ≤ σ107.2.1 50 a ∧ σ107.2.1 50 a ≤ 2147483647) := wf_50 w114 ha
      refine tn_aload_n dX5_single_59 rfl 0 rfl ?_
      refine tn_getI (ci := 5) (i := 18) (n := 51) (t := σ107.2.1 51 a) dX5_single_60 rfl lay_5 (by decide) fl5_219 ha rfl rfl (rfl) ?_
      have g133 : ((-2147483648 : Int) ≤ σ107.2.1 51 a ∧ σ107.2.1 51 a ≤ 2147483647) := wf_51 w114 ha
      have c6134 : 1 ≤ σ107.2.1 6 xq128 := MG.c1 (m := mw73) mg127 (MG.cd mg127 (hx129)) nn122
      refine tn_callV (M := m_X5_single) (pc := 63) (ix := 143) (ci := 1) (M' := m_X1_lastOperand) (As := [.int (iI 0), .int (iI (σ107.2.1 50 a)), .int (iI (σ107.2.1 51 a))]) (rest := []) dX5_single_63 ok_X1_lastOperand im_X1_lastOperand se_X1_lastOperand ml5_143 np_X1_lastOperand rfl rfl hk130o rfl (Nat.le_of_ble_eq_true rfl) (Nat.le_of_ble_eq_true rfl) rfl (k_lastOperand_c (d + 49) (T := T108) (σ := σ107) (a := xq128) (i := 0) (k := σ107.2.1 50 a) (p := σ107.2.1 51 a) hk130o hk130 (by decide) (by omega) (by omega) w114 (by omega) (by omega)) (fun r135 T137 σ136 gt138 hp => ?_)
      obtain ⟨rfl, rfl, w142, F143, f139, f140⟩ := hp
      clear gt138
      have mg144 : MG Tg gs T108 σ136 a ((mw73).put (uZ (uZ (rwI (k) (0) (0)) (3 + 2 * 0) (σ107.2.1 50 a)) (4 + 2 * 0) (σ107.2.1 51 a))) := MG.lo (m := mw73) mg127 (MG.cd mg127 (show σ107.2.1 35 a = (xq128 : Int) from hx129)) f139 f140 (by decide) (by show (k : Int) ≠ 12; omega) nn122
      have z145 : σ107.2.1 50 a = (mw73).pk := by have z0 := MG.e50 mg127; have z1 : σ107.2.1 50 a = (mw73).pk := z0; have z2 : σ107.2.1 50 a = σ107.2.1 50 a := rfl; omega
      have z146 : σ107.2.1 51 a = (mw73).pv := by have z0 := MG.e51 mg127; have z1 : σ107.2.1 51 a = (mw73).pv := z0; have z2 : σ107.2.1 51 a = σ107.2.1 51 a := rfl; omega
      have mg144l : MG Tg gs T108 σ136 a ((mw73).sg k) := MG.sg (m := mw73) mg144 z145 z146
      have fx147 : RDX σ136 a Sx nx (i70 + 1) (es71.foldl uC (cx)) (Nx + 1 + m72 + 1) := RDX.fc fx124 w114 ha F143 (by decide) (by decide)
      have rp148 : RP σ136 a (kp - 4 * v57 - 4 * v92 + 2) := RP.frc rp126 F143 (by decide) (by decide) (by decide) (by decide) (by decide)
      show Tn _ _ 66 T108 σ136 [(0, .ref a), (1, .int (iI k))] [] _
      refine tn_iconst dX5_single_66 ?_
      have hz153e : ((mw73.on (((mx.push (1, 0, 0, [])).one tb1).push (10, 7, 0, []))).one tb1) = (((mw73).sg k)).on mx := (by rw [hk6]; rfl)
      have hz153c : (es71.foldl uC (cx)) = (es71).foldl uC cx := rfl
      have hz153 : CN nm mx.rt ((es71).foldl uC cx) (GW Sx nm rnQ tb1 [51, 39] jx 0 (bx) u0 (mx.push (1, 0, 0, [])) [] (i70 + 1) (0) (bx) u0 (0 + 1 + 0 + m72 + 1 + 0) ((((mw73).sg k)).on mx)) := by
        have q9 := CN.up (c2 := es71.foldl uC (cx)) rm121 (fun q9 => q9)
        rw [hz153e, hz153c] at q9
        exact q9
      have fe154 := RDX.nq (M := Nx + (0 + 1 + 0 + m72 + 1 + 0)) (RDX.cq (c2 := (es71).foldl uC cx) fx147 hz153c) (by omega)
      have fe154m : ((es71).foldl uC cx).m = σ.2.1 45 a := (fe154.e45).symm.trans (rc_F F143 (Or.inl (by decide)) (by decide) (rc_F F115 (Or.inl (by decide)) (by decide) (rc_F F94 (Or.inl (by decide)) (by decide) (rc_F F59 (Or.inl (by decide)) (by decide) (rc_F F37 (Or.inl (by decide)) (by decide) (rc_F F15 (Or.inl (by decide)) (by decide) (rfl)))))))
      have ra151 : YSM σ136 a Sx nx bx [51, 39] jx cx (Nx) bx [] ((jx : Int) + 1) nm Tg gs T108 mx (mx.push (1, 0, 0, [])) (fun m9 => m9) := ⟨(i70 + 1), es71, 0 + 1 + 0 + m72 + 1 + 0, ((mw73).sg k), (by omega), rd120, fe154, by rw [fe154m]; omega, ni77, mg144l, (MBD.put mb79), hz153⟩
      exact tn_zret (v := 1) rfl (by decide) dX5_single_67 ⟨_, rfl, w142, ((((((FrC.rfl.trans (FrC.sub F15 (by decide))).trans (FrC.sub (FrC.old F37 gt9) (by decide))).trans (FrC.sub (FrC.old F59 gt9) (by decide))).trans (FrC.sub (FrC.old F94 (GT.trans gt9 gt53)) (by decide))).trans (FrC.sub (FrC.old F115 (GT.trans gt9 gt53)) (by decide))).trans (FrC.sub (FrC.old F143 (GT.trans (GT.trans gt9 gt53) gt109)) (by decide))), by omega, ⟨fun _ => ra151, fun q => absurd q (by decide)⟩, (RP.up rp148 (by omega))⟩
    · refine tn_iconst dX5_single_38 ?_
      obtain ⟨kd157, fx158, tk159⟩ := f89.2 (by omega)
      have pc160 : GRF Sx [159] i70 (0) (bx) u0 (tkS Sx i70).1 := z59 hSb kd157
      have rf161 : GRF Sx [51, 39] jx 0 (bx) u0 ((tkS Sx i70).1) := GR.fl (l := [159]) [] rd97 pc160
      have rb156 : YF σ85 a Sx bx [51, 39] jx ∧ FG Tg gs T52 σ85 a := ⟨⟨_, rf161, fx158⟩, (f90).1⟩
      exact tn_zret (v := 0) rfl (by decide) dX5_single_39 ⟨_, rfl, w93, ((((FrC.rfl.trans (FrC.sub F15 (by decide))).trans (FrC.sub (FrC.old F37 gt9) (by decide))).trans (FrC.sub (FrC.old F59 gt9) (by decide))).trans (FrC.sub (FrC.old F94 (GT.trans gt9 gt53)) (by decide))), by omega, ⟨fun q => absurd q (by decide), fun _ => rb156⟩, (RP.up rp100 (by omega))⟩
end
section
def flg (σ : MS) : MS := (fun _ => 1, σ.2)
section FLS
variable {Tg T T2 : CT} {g σ τ : MS} {a d x t : Nat} {m w : MK} {as : List (Int × Int)} {n p v r q i k z : Int}
theorem MG.fl (h : MG Tg g T σ a m) : MG T (flg σ) T σ a m := by
  refine ⟨⟨GT.rfl, ⟨fun _ _ _ _ => rfl, fun _ _ _ => rfl, fun _ _ => rfl⟩, Or.inl rfl⟩, ?_⟩
  have e : adN (flg σ) 35 a = adN g 35 a := by show (σ.2.1 35 a).toNat = (g.2.1 35 a).toNat; rw [h.1.f35]
  rw [e]; exact h.2
theorem MG.tr (h : MG Tg g T σ a m) (k : MG T (flg σ) T2 τ a w) : MG Tg g T2 τ a w := by
  have e5 : adN (flg σ) 35 a = adN g 35 a := by show (σ.2.1 35 a).toNat = (g.2.1 35 a).toNat; rw [h.1.f35]
  have e3 : adN (flg σ) 33 a = adN g 33 a := by show (σ.2.1 33 a).toNat = (g.2.1 33 a).toNat; rw [h.1.f33]
  have e8 : adN (flg σ) 48 a = adN g 48 a := by show (σ.2.1 48 a).toNat = (g.2.1 48 a).toNat; rw [h.1.fr (by decide)]
  obtain ⟨⟨k1, k2, k3⟩, k4⟩ := k
  rw [e5] at k3 k4
  have ek : RKS (flg σ) a = RKS g a := by unfold RKS; rw [e5, e3]
  rw [ek] at k2
  refine ⟨h.1.go k1 (fun j b hj hp => k2.1 j b hj hp) (fun x ht hx hn => k2.2.1 x (fun q => ?_) ht) (fun x => k2.2.2 x (by simp)) k3, k4⟩
  rcases List.mem_append.mp q with q | q
  · simp only [List.mem_cons, List.not_mem_nil, or_false] at q
    rcases q with q | q
    · rw [e5] at q; exact hn q
    · rw [e8] at q; exact hx (List.mem_append.mpr (Or.inl (by rw [q]; simp)))
  · unfold RRX at q
    rw [if_pos (show (flg σ).1 5 = 1 from rfl)] at q
    exact absurd q (by simp)
theorem FG.tr (h : FG Tg g T σ a) (k : FG T (flg σ) T2 τ a) : FG Tg g T2 τ a := by
  have e5 : adN (flg σ) 35 a = adN g 35 a := by show (σ.2.1 35 a).toNat = (g.2.1 35 a).toNat; rw [h.f35]
  have e3 : adN (flg σ) 33 a = adN g 33 a := by show (σ.2.1 33 a).toNat = (g.2.1 33 a).toNat; rw [h.f33]
  have e8 : adN (flg σ) 48 a = adN g 48 a := by show (σ.2.1 48 a).toNat = (g.2.1 48 a).toNat; rw [h.fr (by decide)]
  obtain ⟨k1, k2, k3⟩ := k
  rw [e5] at k3
  have ek : RKS (flg σ) a = RKS g a := by unfold RKS; rw [e5, e3]
  rw [ek] at k2
  refine h.go k1 (fun j b hj hp => k2.1 j b hj hp) (fun x ht hx hn => k2.2.1 x (fun q => ?_) ht) (fun x => k2.2.2 x (by simp)) k3
  rcases List.mem_append.mp q with q | q
  · simp only [List.mem_cons, List.not_mem_nil, or_false] at q
    rcases q with q | q
    · rw [e5] at q; exact hn q
    · rw [e8] at q; exact hx (List.mem_append.mpr (Or.inl (by rw [q]; simp)))
  · unfold RRX at q
    rw [if_pos (show (flg σ).1 5 = 1 from rfl)] at q
    exact absurd q (by simp)
def ARG (σ : MS) (a : Nat) (as : List (Int × Int)) : Prop := ∀ x : Nat, σ.2.1 49 a = (x : Int) → ∀ i : Nat, i < 4 → σ.2.1 (1000 + x) (2 * i) = (argA as i).1 ∧ σ.2.1 (1000 + x) (2 * i + 1) = (argA as i).2
theorem ARG.cg (h : ARG σ a as) (h1 : τ.2.1 49 a = σ.2.1 49 a) (h2 : ∀ x : Nat, σ.2.1 49 a = (x : Int) → τ.2.1 (1000 + x) = σ.2.1 (1000 + x)) : ARG τ a as := fun x hx => by
  rw [h1] at hx
  rw [h2 x hx]; exact h x hx
theorem ARG.tk (h : ARG σ a as) (ch : CHX [(84, t), (85, t), (86, t), (87, t)] [] [] σ τ) : ARG τ a as := h.cg (ch.f (by decide) (by simp)) (fun x _ => ch.r (by simp))
theorem ARG.fg (h : ARG σ a as) (hw : WT T σ) (ha : OB T a 5) (k : MG T (flg σ) T2 τ a w) : ARG τ a as := by
  have k2 := k.1.2.1
  have c := k.c31
  refine h.cg (k2.f (by decide) (by simp)) (fun x hx => ?_)
  have ar := ar_of (wf_49 hw ha) hx
  refine k2.2.1 x (fun q => ?_) (by have := ar.1; omega)
  obtain ⟨y, y1, y2⟩ := wf_35 hw ha
  have ey : adN (flg σ) 35 a = y := adN_of y1
  rcases List.mem_append.mp q with q | q
  · simp only [List.mem_cons, List.not_mem_nil, or_false] at q
    rcases q with q | q
    · rw [ey] at q
      exact cel_ne hw ⟨by omega, by rw [y2]; rfl, by omega⟩ y2 ar (by decide) q
    · obtain ⟨u, u1, u2⟩ := wf_48 hw ha
      have eu : adN (flg σ) 48 a = u := adN_of u1
      rw [eu] at q
      have z1 := ar.1
      have z2 := u2.1
      rw [q] at z1
      omega
  · unfold RRX at q
    rw [if_pos (show (flg σ).1 5 = 1 from rfl)] at q
    exact absurd q (by simp)
theorem ARG.chn (h : ARG σ a as) (hw : WT T σ) (ha : OB T a 5) (hd : σ.2.1 35 a = (d : Int)) (ch : CHN T [(5, d), (6, d)] [adN σ 5 d] [] σ τ) : ARG τ a as := by
  obtain ⟨y, y1, y2⟩ := wf_35 hw ha
  have e : d = y := by omega
  subst e
  refine h.cg (ch.f (by decide) (by simp)) (fun x hx => ?_)
  have ar := ar_of (wf_49 hw ha) hx
  exact ch.2.1 x (by simp only [List.mem_singleton]; exact cel_ne hw ⟨by omega, by rw [y2]; rfl, by omega⟩ y2 ar (by decide)) (by have := ar.1; omega)
theorem ARG.chx (h : ARG σ a as) (hw : WT T σ) (ha : OB T a 5) (hd : σ.2.1 35 a = (d : Int)) (ch : CHX [] [adN σ 5 d] [] σ τ) : ARG τ a as := by
  obtain ⟨y, y1, y2⟩ := wf_35 hw ha
  have e : d = y := by omega
  subst e
  refine h.cg (ch.f (by decide) (by simp)) (fun x hx => ?_)
  have ar := ar_of (wf_49 hw ha) hx
  exact ch.r (by simp only [List.mem_singleton]; exact cel_ne hw ⟨by omega, by rw [y2]; rfl, by omega⟩ y2 ar (by decide))
theorem ARG.ls (h : ARG σ a as) (hw : WT T σ) (ha : OB T a 5) (ch : CHX [(42, a)] [adN σ 39 a, adN σ 40 a, adN σ 41 a] [] σ τ) : ARG τ a as := by
  refine h.cg (ch.f (by decide) (by simp)) (fun x hx => ?_)
  have ar := ar_of (wf_49 hw ha) hx
  obtain ⟨y, y1, y2⟩ := wf_39 hw ha
  obtain ⟨u, u1, u2⟩ := wf_40 hw ha
  obtain ⟨z, z1, z2⟩ := wf_41 hw ha
  have x1 := ar.1
  have x2 := y2.1
  have x3 := u2.1
  have x4 := z2.1
  refine ch.r ?_
  rw [adN_of y1, adN_of u1, adN_of z1]
  simp only [List.mem_cons, List.not_mem_nil, or_false]
  rintro (q | q | q)
  · rw [q] at x1; omega
  · rw [q] at x1; omega
  · rw [q] at x1; omega
theorem MG.ls (h : MG Tg g T σ a m) (hw : WT T σ) (ha : OB T a 5) (hg : g.1 5 = 0) (ch : CHX [(42, a)] [adN σ 39 a, adN σ 40 a, adN σ 41 a] [] σ τ) : MG Tg g T τ a m := by
  obtain ⟨y, y1, y2⟩ := wf_39 hw ha
  obtain ⟨u, u1, u2⟩ := wf_40 hw ha
  obtain ⟨z, z1, z2⟩ := wf_41 hw ha
  refine h.chx ch (fun p hp => by rw [List.mem_singleton.mp hp]; exact ⟨by simp, by simp⟩) (fun x hx => ?_)
  simp only [List.mem_cons, List.not_mem_nil, or_false] at hx
  rcases hx with hx | hx | hx
  · rw [adN_of y1] at hx; rw [hx]; exact h.rr hw ha (by decide) y1 y2 (by decide) hg
  · rw [adN_of u1] at hx; rw [hx]; exact h.rr hw ha (by decide) u1 u2 (by decide) hg
  · rw [adN_of z1] at hx; rw [hx]; exact h.rr hw ha (by decide) z1 z2 (by decide) hg
theorem ARG.nil (hx : σ.2.1 49 a = (x : Int)) (ch : CHX [] [x] [] σ τ) (hl : ((T x).2 : Int) = 8) (f : FLR σ τ x 0 ((T x).2 : Int) 0) : ARG τ a [] := fun y hy i hi => by
  rw [ch.f (by decide) (by simp)] at hy
  have e : y = x := by omega
  rw [e, f, f, if_pos (by omega), if_pos (by omega)]
  exact ⟨rfl, rfl⟩
theorem argA_app {l : List (Int × Int)} {e : Int × Int} {i : Nat} : argA (l ++ [e]) i = if i = l.length then e else argA l i := by
  unfold argA
  by_cases h : i = l.length
  · rw [if_pos h, h]
    simp [List.getD_eq_getElem?_getD]
  · rw [if_neg h]
    by_cases h2 : i < l.length
    · simp [List.getD_eq_getElem?_getD, List.getElem?_append_left h2]
    · have h3 : (l ++ [e]).length ≤ i := by simp; omega
      simp only [List.getD_eq_getElem?_getD, List.getElem?_eq_none h3, List.getElem?_eq_none (show l.length ≤ i by omega)]
theorem ARG.add {s1 : MS} (h : ARG σ a as) (hx : σ.2.1 49 a = (x : Int)) (hl : ((T x).2 : Int) = 8) (hn : (as.length : Int) = n) (e1 : s1 = if 0 ≤ 2 * n ∧ 2 * n < ((T x).2 : Int) then sA (1000 + x) (2 * n) p σ else σ) (e2 : τ = if 0 ≤ 2 * n + 1 ∧ 2 * n + 1 < ((T x).2 : Int) then sA (1000 + x) (2 * n + 1) v s1 else s1) : ARG τ a (as ++ [(p, v)]) := fun y hy i hi => by
  by_cases z : n < 4
  · rw [if_pos (by omega)] at e1 e2
    have ex : y = x := by rw [e2, sA_k (by omega), e1, sA_k (by omega)] at hy; omega
    subst ex
    rw [argA_app, e2, e1]
    simp only [sA_at]
    by_cases w : i = as.length
    · rw [if_pos w, if_neg (by omega), if_pos (by omega), if_pos (by omega)]
      exact ⟨rfl, rfl⟩
    · rw [if_neg w, if_neg (by omega), if_neg (by omega), if_neg (by omega), if_neg (by omega)]
      exact h y hx i hi
  · rw [if_neg (by omega)] at e1 e2
    rw [argA_app, if_neg (by omega), e2, e1]
    rw [e2, e1] at hy
    exact h y hy i hi
def itP (d q : Int) (as : List (Int × Int)) (i : Int) : It := fun c => if c = 0 then 10 else if c = 1 then d else if c = 2 then q else if 3 ≤ c ∧ c < 3 + 2 * i then itC d q as c else 0
theorem itP_0 : itP r q as 0 = rwI 10 r q := by
  funext c
  unfold itP rwI
  rw [if_neg (show ¬ (3 ≤ c ∧ c < 3 + 2 * 0) by omega)]
theorem itP_4 : itP r q as 4 = itC r q as := by
  funext c
  unfold itP
  by_cases h : 3 ≤ c ∧ c < 3 + 2 * 4
  · rw [if_pos h, if_neg (by omega), if_neg (by omega), if_neg (by omega)]
  · rw [if_neg h]
    unfold itC
    by_cases c0 : c = 0
    · rw [if_pos c0, if_pos c0]
    · by_cases c1 : c = 1
      · rw [if_neg c0, if_pos c1, if_neg c0, if_pos c1]
      · by_cases c2 : c = 2
        · rw [if_neg c0, if_neg c1, if_pos c2, if_neg c0, if_neg c1, if_pos c2]
        · rw [if_neg c0, if_neg c1, if_neg c2, if_neg c0, if_neg c1, if_neg c2, if_neg (by omega), if_neg (by omega), if_neg (by omega), if_neg (by omega), if_neg (by omega), if_neg (by omega), if_neg (by omega), if_neg (by omega)]
theorem itC_a (hi : 0 ≤ i ∧ i < 4) : itC r q as (3 + 2 * i) = (argA as i.toNat).1 ∧ itC r q as (4 + 2 * i) = (argA as i.toNat).2 := by
  rcases (show i = 0 ∨ i = 1 ∨ i = 2 ∨ i = 3 by omega) with rfl | rfl | rfl | rfl <;> exact ⟨rfl, rfl⟩
theorem itP_s (hi : 0 ≤ i ∧ i < 4) (e1 : k = (argA as i.toNat).1) (e2 : p = (argA as i.toNat).2) : uZ (uZ (itP r q as i) (3 + 2 * i) k) (4 + 2 * i) p = itP r q as (i + 1) := by
  have z := itC_a (r := r) (q := q) (as := as) hi
  funext c
  unfold uZ
  show (if c = 4 + 2 * i then p else if c = 3 + 2 * i then k else itP r q as i c) = _
  unfold itP
  by_cases h4 : c = 4 + 2 * i
  · rw [if_pos h4, if_neg (show ¬ c = 0 by omega), if_neg (show ¬ c = 1 by omega), if_neg (show ¬ c = 2 by omega), if_pos (show 3 ≤ c ∧ c < 3 + 2 * (i + 1) by omega), h4, z.2, e2]
  · rw [if_neg h4]
    by_cases h3 : c = 3 + 2 * i
    · rw [if_pos h3, if_neg (show ¬ c = 0 by omega), if_neg (show ¬ c = 1 by omega), if_neg (show ¬ c = 2 by omega), if_pos (show 3 ≤ c ∧ c < 3 + 2 * (i + 1) by omega), h3, z.1, e1]
    · rw [if_neg h3]
      by_cases h : 3 ≤ c ∧ c < 3 + 2 * i
      · rw [if_pos h, if_pos (show 3 ≤ c ∧ c < 3 + 2 * (i + 1) by omega)]
      · rw [if_neg h, if_neg (show ¬ (3 ≤ c ∧ c < 3 + 2 * (i + 1)) by omega)]
theorem MG.lp (h : MG Tg g T σ a (m.put (itP r q as i))) (hd : adN g 35 a = d) (ch : CHX [] [adN σ 5 d] [] σ τ) (lo : LOC σ τ d i k p) (hi : 0 ≤ i ∧ i < 4) (e1 : k = (argA as i.toNat).1) (e2 : p = (argA as i.toNat).2) (hm0 : 0 ≤ m.n) : MG Tg g T τ a (m.put (itP r q as (i + 1))) := by
  have w := MG.lo h hd ch lo (by omega) (by show (10 : Int) ≠ 12; decide) hm0
  rw [itP_s hi e1 e2] at w
  exact w
end FLS
def CLW (σ : MS) (a : Nat) (S : Int → Int) (n : Nat) (b : Int) (j : Nat) (c : CS) (N : Int) (W : Int64) (P k lo : Int) (nm : Int → Int64 → Int) (Tg : CT) (g : MS) (T : CT) (mx : MK) (r : Int) : Prop := ∃ (i : Nat) (es : List EW) (m : Int) (mw : MK) (as : List (Int × Int)), lo ≤ (i : Int) ∧ RDX σ a S n i (es.foldl uC c) (N + m) ∧ NI2 es ∧ MG Tg g T σ a mw ∧ MBD mw ∧ (as.length : Int) = k ∧ ARG σ a as ∧ ((k = 0 ∧ ckd (tkS S i) = 41) → GR S [25] j 0 b u0 [38, 141, 159] i 0 b (W, k, P) m es ∧ CN nm mx.rt (es.foldl uC c) (GW S nm rnQ tb1 [25] j 0 b u0 (mx.push (8, r, 0, [])) [38, 141, 159] i 0 b (W, k, P) m (mw.on (mx.push (9, r, 0, as))))) ∧ (¬ (k = 0 ∧ ckd (tkS S i) = 41) → GR S [25] j 0 b u0 [2, 27, 159] i 0 b (W, k, P) m es ∧ CN nm mx.rt (es.foldl uC c) (GW S nm rnQ tb1 [25] j 0 b u0 (mx.push (8, r, 0, [])) [2, 27, 159] i 0 b (W, k, P) m (mw.on (mx.push (9, r, 0, as)))))
def CLQW (σ : MS) (a : Nat) (S : Int → Int) (n : Nat) (b : Int) (j : Nat) (c : CS) (N : Int) (W : Int64) (P k lo : Int) (nm : Int → Int64 → Int) (Tg : CT) (g : MS) (T : CT) (mx : MK) (r : Int) : Prop := ∃ (i : Nat) (es : List EW) (m : Int) (mw : MK) (as : List (Int × Int)), lo ≤ (i : Int) ∧ RDX σ a S n i (es.foldl uC c) (N + m) ∧ NI2 es ∧ MG Tg g T σ a mw ∧ MBD mw ∧ ARG σ a as ∧ GR S [25] j 0 b u0 [38, 141, 159] i 0 b (W, k, P) m es ∧ CN nm mx.rt (es.foldl uC c) (GW S nm rnQ tb1 [25] j 0 b u0 (mx.push (8, r, 0, [])) [38, 141, 159] i 0 b (W, k, P) m (mw.on (mx.push (9, r, 0, as))))

theorem CHX.pq {ks : List (Nat × Nat)} {rs ls : List Nat} {σ s1 τ : MS} {x : Nat} {i v : Int} {P : Prop} [Decidable P] (h : CHX ks rs ls σ s1) (e : τ = if P then sA (1000 + x) i v s1 else s1) (m : x ∈ rs) : CHX ks rs ls σ τ := by
  rw [e]
  by_cases q : P
  · rw [if_pos q]; exact h.arr m
  · rw [if_neg q]; exact h
end
section
set_option maxHeartbeats 1000000 in
set_option maxRecDepth 20000 in
theorem k_X5_listCall_m (d : Nat) {T : CT} {σ : MS} {a : Nat} {k : Int} {p : Int} {m : Int} {Sx : Int → Int} {nx jx : Nat} {cx : CS} {Nx : Int} {wx : Int64} (ha : OB T a 5) (h_k : -2147483648 ≤ k ∧ k ≤ 2147483647) (h_p : -2147483648 ≤ p ∧ p ≤ 2147483647) (h_m : -2147483648 ≤ m ∧ m ≤ 2147483647) (hw : WT T σ) (hfx : RDX σ a Sx nx jx cx Nx) (hkw : KW k wx) (hpo : 6 * cx.cn + 6 ≤ (jx : Int)) : Tn (d + 2) m_X5_listCall 0 T σ [(0, .ref a), (1, .int (iI k)), (2, .int (iI p)), (3, .int (iI m))] [] (fun ro T2 σ2 => ro = none ∧ T = T2 ∧ WT T2 σ2 ∧ FrC T [42, 518, 519, 520] σ σ2 ∧ (RDX σ2 a Sx nx jx (uC cx (1, p, m, wx)) Nx) ∧ (CHX [(42, a)] [adN σ 39 a, adN σ 40 a, adN σ 41 a] [] σ σ2)) := by
  have hSb := hfx.1.sb
  have e42 : σ.2.1 42 a = cx.cn := hfx.1.2.1.1.2.2.2.1
  have hjn := RDX.jn hfx hw ha
  refine tn_aload_n dX5_listCall_0 rfl 0 rfl ?_
  obtain ⟨xq1, hx2, hk3, hl4⟩ : ∃ x : Nat, σ.2.1 39 a = (x : Int) ∧ AR T x 18 256 256 := wf_39 hw ha
  have hk3i : IA T xq1 := by unfold IA; omega
  refine tn_getR (ci := 5) (i := 6) (n := 39) (x := xq1) dX5_listCall_1 rfl lay_5 (by decide) fl5_31 ha rfl rfl (hx2) ?_
  refine tn_aload_n dX5_listCall_4 rfl 0 rfl ?_
  refine tn_getI (ci := 5) (i := 9) (n := 42) (t := σ.2.1 42 a) dX5_listCall_5 rfl lay_5 (by decide) fl5_61 ha rfl rfl (rfl) ?_
  have g5 : ((0 : Int) ≤ σ.2.1 42 a ∧ σ.2.1 42 a ≤ 256) := wf_42 hw ha
  refine tn_iload_n dX5_listCall_8 rfl 1 rfl ?_
  refine tn_callSN (M := m_X5_listCall) (pc := 9) (ix := 129) (M' := m_X11_put) (As := [.ref xq1, .int (iI (σ.2.1 42 a)), .int (iI k)]) (rest := []) dX5_listCall_9 ok_X11_put stt_X11_put nl5_129 np_X11_put rfl (Nat.le_of_ble_eq_true rfl) (Nat.le_of_ble_eq_true rfl) rfl (k_X11_put_18 (d) (T := T) (σ := σ) (x := xq1) (i := σ.2.1 42 a) (y := k) hk3i (by omega) hk3 (by omega) (by omega) hw ) (fun r6 T8 σ7 gt9 hp => ?_)
  obtain ⟨rfl, rfl, w12, F13, f10⟩ := hp
  clear gt9
  show Tn _ _ 12 T σ7 [(0, .ref a), (1, .int (iI k)), (2, .int (iI p)), (3, .int (iI m))] [] _
  refine tn_aload_n dX5_listCall_12 rfl 0 rfl ?_
  obtain ⟨xq14, hx15, hk16, hl17⟩ : ∃ x : Nat, σ.2.1 40 a = (x : Int) ∧ AR T x 19 256 256 := wf_40 hw ha
  have hk16i : IA T xq14 := by unfold IA; omega
  refine tn_getR (ci := 5) (i := 7) (n := 40) (x := xq14) dX5_listCall_13 rfl lay_5 (by decide) fl5_34 ha rfl rfl (rc_F F13 (Or.inl (by decide)) (by decide) (hx15)) ?_
  refine tn_aload_n dX5_listCall_16 rfl 0 rfl ?_
  refine tn_getI (ci := 5) (i := 9) (n := 42) (t := σ.2.1 42 a) dX5_listCall_17 rfl lay_5 (by decide) fl5_61 ha rfl rfl (rc_F F13 (Or.inl (by decide)) (by decide) (rfl)) ?_
  refine tn_iload_n dX5_listCall_20 rfl 2 rfl ?_
  refine tn_callSN (M := m_X5_listCall) (pc := 21) (ix := 129) (M' := m_X11_put) (As := [.ref xq14, .int (iI (σ.2.1 42 a)), .int (iI p)]) (rest := []) dX5_listCall_21 ok_X11_put stt_X11_put nl5_129 np_X11_put rfl (Nat.le_of_ble_eq_true rfl) (Nat.le_of_ble_eq_true rfl) rfl (k_X11_put_19 (d) (T := T) (σ := σ7) (x := xq14) (i := σ.2.1 42 a) (y := p) hk16i (by omega) hk16 (by omega) (by omega) w12 ) (fun r18 T20 σ19 gt21 hp => ?_)
  obtain ⟨rfl, rfl, w24, F25, f22⟩ := hp
  clear gt21
  show Tn _ _ 24 T σ19 [(0, .ref a), (1, .int (iI k)), (2, .int (iI p)), (3, .int (iI m))] [] _
  refine tn_aload_n dX5_listCall_24 rfl 0 rfl ?_
  obtain ⟨xq26, hx27, hk28, hl29⟩ : ∃ x : Nat, σ.2.1 41 a = (x : Int) ∧ AR T x 20 256 256 := wf_41 hw ha
  have hk28i : IA T xq26 := by unfold IA; omega
  refine tn_getR (ci := 5) (i := 8) (n := 41) (x := xq26) dX5_listCall_25 rfl lay_5 (by decide) fl5_37 ha rfl rfl (rc_F F25 (Or.inl (by decide)) (by decide) (rc_F F13 (Or.inl (by decide)) (by decide) (hx27))) ?_
  refine tn_aload_n dX5_listCall_28 rfl 0 rfl ?_
  refine tn_getI (ci := 5) (i := 9) (n := 42) (t := σ.2.1 42 a) dX5_listCall_29 rfl lay_5 (by decide) fl5_61 ha rfl rfl (rc_F F25 (Or.inl (by decide)) (by decide) (rc_F F13 (Or.inl (by decide)) (by decide) (rfl))) ?_
  refine tn_iload_n dX5_listCall_32 rfl 3 rfl ?_
  refine tn_callSN (M := m_X5_listCall) (pc := 33) (ix := 129) (M' := m_X11_put) (As := [.ref xq26, .int (iI (σ.2.1 42 a)), .int (iI m)]) (rest := []) dX5_listCall_33 ok_X11_put stt_X11_put nl5_129 np_X11_put rfl (Nat.le_of_ble_eq_true rfl) (Nat.le_of_ble_eq_true rfl) rfl (k_X11_put_20 (d) (T := T) (σ := σ19) (x := xq26) (i := σ.2.1 42 a) (y := m) hk28i (by omega) hk28 (by omega) (by omega) w24 ) (fun r30 T32 σ31 gt33 hp => ?_)
  obtain ⟨rfl, rfl, w36, F37, f34⟩ := hp
  clear gt33
  show Tn _ _ 36 T σ31 [(0, .ref a), (1, .int (iI k)), (2, .int (iI p)), (3, .int (iI m))] [] _
  refine tn_aload_n dX5_listCall_36 rfl 0 rfl ?_
  refine tn_aload_n dX5_listCall_37 rfl 0 rfl ?_
  refine tn_getI (ci := 5) (i := 9) (n := 42) (t := σ.2.1 42 a) dX5_listCall_38 rfl lay_5 (by decide) fl5_61 ha rfl rfl (rc_F F37 (Or.inl (by decide)) (by decide) (rc_F F25 (Or.inl (by decide)) (by decide) (rc_F F13 (Or.inl (by decide)) (by decide) (rfl)))) ?_
  refine tn_iconst dX5_listCall_41 ?_
  refine tn_iadd dX5_listCall_42 ?_
  refine tn_sipush dX5_listCall_43 (by decide) ?_
  refine tn_mmin (x := (σ.2.1 42 a) + 1) (y := 256) dX5_listCall_46 mlm5_117 stM_min iniM cdM_min (by omega) (Nat.le_of_ble_eq_true rfl) ⟨by omega, by omega⟩ ⟨by omega, by omega⟩ (fun z38 g39 => ?_)
  refine tn_putV (ci := 5) (i := 9) (n := 42) (r := false) (v := z38) tyX5 tyX5_ok nmX5 dX5_listCall_49 rfl lay_5 (by decide) fl5_61 rfl (tyX5_ok 9 (by decide)) rfl rfl rfl ha rfl rfl ?_
  have w40n3940 : xq1 ≠ xq14 := fun e => by have q9 := hk3; rw [e] at q9; have w9 := hk16; omega
  have w40n3941 : xq1 ≠ xq26 := fun e => by have q9 := hk3; rw [e] at q9; have w9 := hk28; omega
  have w40n4041 : xq14 ≠ xq26 := fun e => by have q9 := hk16; rw [e] at q9; have w9 := hk28; omega
  have q41 : (sA 42 a (z38) σ31).2.1 42 a = z38 := ra_eq
  have w40a : ∀ x : Nat, σ.2.1 39 a = (x : Int) → ∀ i, (sA 42 a (z38) σ31).2.1 (1000 + x) i = if i = cx.cn then k else σ.2.1 (1000 + x) i := (fun y hy i => by
      have e : y = xq1 := by omega
      rw [e, sA_k (by omega), f34, if_pos ⟨by omega, by omega⟩, sA_k (by omega), f22, if_pos ⟨by omega, by omega⟩, sA_k (by omega), f10, if_pos ⟨by omega, by omega⟩, sA_at, e42])
  have w40b : ∀ x : Nat, σ.2.1 40 a = (x : Int) → ∀ i, (sA 42 a (z38) σ31).2.1 (1000 + x) i = if i = cx.cn then p else σ.2.1 (1000 + x) i := (fun y hy i => by
      have e : y = xq14 := by omega
      rw [e, sA_k (by omega), f34, if_pos ⟨by omega, by omega⟩, sA_k (by omega), f22, if_pos ⟨by omega, by omega⟩, sA_at, e42, show σ7.2.1 (1000 + xq14) = σ.2.1 (1000 + xq14) by rw [f10, if_pos ⟨by omega, by omega⟩, sA_k (by omega)]])
  have w40c : ∀ x : Nat, σ.2.1 41 a = (x : Int) → ∀ i, (sA 42 a (z38) σ31).2.1 (1000 + x) i = if i = cx.cn then m else σ.2.1 (1000 + x) i := (fun y hy i => by
      have e : y = xq26 := by omega
      rw [e, sA_k (by omega), f34, if_pos ⟨by omega, by omega⟩, sA_at, e42, show σ19.2.1 (1000 + xq26) = σ.2.1 (1000 + xq26) by rw [f22, if_pos ⟨by omega, by omega⟩, sA_k (by omega), f10, if_pos ⟨by omega, by omega⟩, sA_k (by omega)]])
  have w40r : RDX (sA 42 a (z38) σ31) a Sx nx jx (clC wx p m cx) Nx := RDX.cl hfx hw ha (show FrC T [42, 518, 519, 520] σ (sA 42 a (z38) σ31) from ((((FrC.rfl.trans (FrC.sub F13 (by decide))).trans (FrC.sub F25 (by decide))).trans (FrC.sub F37 (by decide))).put (by decide) (by decide))) (by rw [q41]; omega) hkw w40a w40b w40c hpo
  exact tn_vret rfl dX5_listCall_52 ⟨rfl, rfl, (w36.put (by decide) (by decide) (fo_42 (by omega))), ((((FrC.rfl.trans (FrC.sub F13 (by decide))).trans (FrC.sub F25 (by decide))).trans (FrC.sub F37 (by decide))).put (by decide) (by decide)), RDX.cq w40r uC1.symm, ((CHX.pq (CHX.pq (CHX.pq CHX.rfl f10 (by rw [← adN_of (show σ.2.1 39 a = (xq1 : Int) from hx2)]; simp)) f22 (by rw [← adN_of (show σ.2.1 40 a = (xq14 : Int) from hx15)]; simp)) f34 (by rw [← adN_of (show σ.2.1 41 a = (xq26 : Int) from hx27)]; simp)).fld (by simp) (by decide))⟩
end
