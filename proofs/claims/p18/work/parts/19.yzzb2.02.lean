section
set_option maxHeartbeats 1000000 in
set_option maxRecDepth 20000 in
theorem l_X5_call_m_44 (d : Nat) {T0 : CT} {σ0 : MS} {a : Nat} {c1 : Int} {c2 : Int} {c3 : Int} {Sx : Int → Int} {nx : Nat} {jx : Nat} {cx : CS} {Nx : Int} {nm : Int → Int64 → Int} {Tg : CT} {gs : MS} {mx : MK} {bx : Int} {rq : Int} {kp : Int} {post : Option Value → CT → MS → Prop} (r_c1 : -2147483648 ≤ c1 ∧ c1 ≤ 2147483647) (r_c2 : -2147483648 ≤ c2 ∧ c2 ≤ 2147483647) (r_c3 : -2147483648 ≤ c3 ∧ c3 ≤ 2147483647) (hw0 : WT T0 σ0) (hgf : gs.1 5 = 0) (hkp : kp ≤ 150) (hx_77 : ∀ (T : CT) (i4 : Int) (i5 : Int) (σ : MS) , (GT T0 T) → (WT T σ) → (FrC T0 [5, 6, 7, 43, 44, 47, 50, 51, 84, 85, 86, 87, 521] σ0 σ) → (OB T a 5) → (0 ≤ i4 ∧ i4 ≤ 1200) → (0 ≤ i5 ∧ i5 ≤ 2147483647) → (True) → (True) → (RP σ a kp) → (YF σ a Sx bx [25] jx ∧ FG Tg gs T σ a) → Tn (d + 51) m_X5_call 77 T σ [(0, .ref a), (1, .int (iI c1)), (2, .int (iI c2)), (3, .int (iI c3)), (4, .int (iI i4)), (5, .int (iI i5))] [] post) (hx_126 : ∀ (T : CT) (i4 : Int) (i5 : Int) (σ : MS) , (GT T0 T) → (WT T σ) → (FrC T0 [5, 6, 7, 43, 44, 47, 50, 51, 84, 85, 86, 87, 521] σ0 σ) → (OB T a 5) → (0 ≤ i4 ∧ i4 ≤ 1200) → (0 ≤ i5 ∧ i5 ≤ 2147483647) → (True) → (True) → (RP σ a kp) → (CLQW σ a Sx nx bx jx cx Nx (tkS Sx jx).2.2.2.2 (tkS Sx jx).1 (i4) ((jx : Int) + 2) nm Tg gs T mx rq) → Tn (d + 51) m_X5_call 126 T σ [(0, .ref a), (1, .int (iI c1)), (2, .int (iI c2)), (3, .int (iI c3)), (4, .int (iI i4)), (5, .int (iI i5))] [] post) (hx_142 : ∀ (T : CT) (i4 : Int) (i5 : Int) (σ : MS) , (GT T0 T) → (WT T σ) → (FrC T0 [5, 6, 7, 43, 44, 47, 50, 51, 84, 85, 86, 87, 521] σ0 σ) → (OB T a 5) → (0 ≤ i4 ∧ i4 ≤ 1200) → (0 ≤ i5 ∧ i5 ≤ 2147483647) → (True) → (True) → (RP σ a kp) → (CLQW σ a Sx nx bx jx cx Nx (tkS Sx jx).2.2.2.2 (tkS Sx jx).1 (i4) ((jx : Int) + 2) nm Tg gs T mx rq) → Tn (d + 51) m_X5_call 142 T σ [(0, .ref a), (1, .int (iI c1)), (2, .int (iI c2)), (3, .int (iI c3)), (4, .int (iI i4)), (5, .int (iI i5))] [] post) : ∀ (n : Nat) (T : CT) (i4 : Int) (i5 : Int) (σ : MS) , (GT T0 T) → (WT T σ) → (FrC T0 [5, 6, 7, 43, 44, 47, 50, 51, 84, 85, 86, 87, 521] σ0 σ) → (OB T a 5) → (0 ≤ i4 ∧ i4 ≤ 1200) → (0 ≤ i5 ∧ i5 ≤ 2147483647) → (i4 = i5) → (CLW σ a Sx nx bx jx cx Nx (tkS Sx jx).2.2.2.2 (tkS Sx jx).1 (i4) ((jx : Int) + 2 + i5) nm Tg gs T mx rq) → (RP σ a kp) → (2147483700 - i5).toNat = n → Tn (d + 51) m_X5_call 44 T σ [(0, .ref a), (1, .int (iI c1)), (2, .int (iI c2)), (3, .int (iI c3)), (4, .int (iI i4)), (5, .int (iI i5))] [] post := by
  intro n
  induction n using Nat.strongRecOn with
  | _ n ih =>
    intro T i4 i5 σ hG hw hF h_a r_i4 r_i5 h45 hx hrp hm
    obtain ⟨jy, ey, my, mw, as, loy, hfy, niy, mgy, mby, hla, hag, rda, rdb⟩ := hx
    have hSb := hfy.1.sb
    have hjn := RDX.jn hfy hw h_a
    refine tn_iload dX5_call_44 5 rfl ?_
    refine tn_sipush dX5_call_46 (by decide) ?_
    refine tn_icmp_ge (tgt := 142) dX5_call_49 (by decide) ⟨by omega, by omega⟩ ⟨by decide, by decide⟩ (fun h1 => ?_) (fun h1 => ?_)
    · exact tn_sub [0, 1, 2, 3, 4, 5] rfl (hx_142 T (i4) (i5) σ hG hw (FrC.rfl.trans (FrC.sub hF (by decide))) h_a (by omega) (by omega) True.intro True.intro (RP.up hrp (by omega)) (False.elim (by omega)))
    · refine tn_aload_n dX5_call_52 rfl 0 rfl ?_
      obtain ⟨xq2, hx3, hk4⟩ : ∃ x : Nat, σ.2.1 33 a = (x : Int) ∧ (T x).1 = 39 := wf_33 hw h_a
      have hk4o : OB T xq2 9 := ⟨by omega, by rw [hk4]; rfl, by omega⟩
      refine tn_getR (ci := 5) (i := 0) (n := 33) (x := xq2) dX5_call_53 rfl lay_5 (by decide) fl5_12 h_a rfl rfl (hx3) ?_
      refine tn_getI (ci := 9) (i := 4) (n := 85) (t := σ.2.1 85 xq2) dX5_call_56 rfl lay_9 (by decide) fl5_71 hk4o rfl rfl (rfl) ?_
      have g6 : ((-2147483648 : Int) ≤ σ.2.1 85 xq2 ∧ σ.2.1 85 xq2 ≤ 2147483647) := wf_85 hw hk4o
      have g6kd : σ.2.1 85 xq2 = ckd (tkS Sx jy) := (rfl).symm.trans ((hfy).1.kd (hx3))
      refine tn_bipush dX5_call_59 (by decide) ?_
      refine tn_icmp_ne (tgt := 69) dX5_call_61 (by decide) ⟨by omega, by omega⟩ ⟨by decide, by decide⟩ (fun h7 => ?_) (fun h7 => ?_)
      · have rdy := (rdb (by omega)).1
        have cny := (rdb (by omega)).2
        refine tn_aload_n dX5_call_69 rfl 0 rfl ?_
        refine tn_iconst dX5_call_70 ?_
        have sy8 : (mw).w = ((mw.on (mx.push (9, rq, 0, as)))).w := rfl
        have sy9 : MG Tg gs T σ a (mw.on (mx.push (9, rq, 0, as))) := (MG.cg mgy sy8)
        refine tn_callV (M := m_X5_call) (pc := 71) (ix := 213) (ci := 5) (M' := m_X5_expression) (As := [.int (iI 1)]) (rest := []) dX5_call_71 ok_X5_expression im_X5_expression se_X5_expression ml5_213 np_X5_expression rfl rfl h_a rfl (Nat.le_of_ble_eq_true rfl) (Nat.le_of_ble_eq_true rfl) rfl (k_X5_expression_m (d) (T := T) (σ := σ) (a := a) (dp := 1) (kp := kp) (eo := 0) (nm := nm) (Tg := T) (gs := flg σ) (mx := (mw.on (mx.push (9, rq, 0, as)))) h_a (by decide) hw (by omega) hfy (MG.fl sy9) (MBD.same mby sy8) (by omega) (by omega) hrp) (fun r10 T12 σ11 gt13 hp => ?_)
        obtain ⟨v17, rfl, w18, F19, f14, f15, f16⟩ := hp
        have obq20 : OB T a 5 := h_a
        replace h_a : OB T12 a 5 := gt13.ob h_a
        show Tn _ _ 74 T12 σ11 [(0, .ref a), (1, .int (iI c1)), (2, .int (iI c2)), (3, .int (iI c3)), (4, .int (iI i4)), (5, .int (iI i5))] [.int (iI v17)] _
        refine tn_if_ne (tgt := 79) dX5_call_74 (by decide) ⟨by omega, by omega⟩ (fun h22 => ?_) (fun h22 => ?_)
        · obtain ⟨i23, es24, m25, mw26, lo27, rr28, fx29, ni30, mgq31, mb32, cn33⟩ := f15.1 (by omega)
          have rr28g := rr28 (bx) ((tkS Sx jx).2.2.2.2, i4, (tkS Sx jx).1)
          have pm34 : CN nm mx.rt (es24.foldl uC (ey.foldl uC cx)) (GW Sx nm rnQ tb1 [2] jy (0) (bx) ((tkS Sx jx).2.2.2.2, i4, (tkS Sx jx).1) (mw.on (mx.push (9, rq, 0, as))) [] i23 (0) (bx) ((tkS Sx jx).2.2.2.2, i4, (tkS Sx jx).1) m25 (mw26.on (mw.on (mx.push (9, rq, 0, as))))) := fun hn9 => cn33 hn9 (bx) ((tkS Sx jx).2.2.2.2, i4, (tkS Sx jx).1)
          have rd35 : GR Sx [25] jx 0 (bx) u0 [27, 159] i23 (0) (bx) ((tkS Sx jx).2.2.2.2, i4, (tkS Sx jx).1) (my + m25) (ey ++ es24) := GR.gg (l := [2]) (ms := []) [27, 159] rdy rr28g
          have rm36 : CN nm mx.rt (es24.foldl uC (ey.foldl uC cx)) (GW Sx nm rnQ tb1 [25] jx 0 (bx) u0 (mx.push (8, rq, 0, [])) [27, 159] i23 (0) (bx) ((tkS Sx jx).2.2.2.2, i4, (tkS Sx jx).1) (my + m25) (mw26.on (mw.on (mx.push (9, rq, 0, as))))) := CN.gg (l := [2]) (ms := []) [27, 159] cny (fun q9 => (fun q9 => q9) (NMA.fo ni30 q9)) pm34
          obtain ⟨xq37, hx38, hk39, hl40⟩ : ∃ x : Nat, σ11.2.1 49 a = (x : Int) ∧ AR T12 x 1 8 8 := wf_49 w18 h_a
          have hk39i : IA T12 xq37 := by unfold IA; omega
          refine tn_aload_n dX5_call_79 rfl 0 rfl ?_
          refine tn_getR (ci := 5) (i := 16) (n := 49) (x := xq37) dX5_call_80 rfl lay_5 (by decide) fl5_43 h_a rfl rfl (hx38) ?_
          refine tn_iconst dX5_call_83 ?_
          refine tn_iload dX5_call_84 4 rfl ?_
          refine tn_imul dX5_call_86 ?_
          refine tn_aload_n dX5_call_87 rfl 0 rfl ?_
          refine tn_getI (ci := 5) (i := 17) (n := 50) (t := σ11.2.1 50 a) dX5_call_88 rfl lay_5 (by decide) fl5_216 h_a rfl rfl (rfl) ?_
          have g41 : ((-2147483648 : Int) ≤ σ11.2.1 50 a ∧ σ11.2.1 50 a ≤ 2147483647) := wf_50 w18 h_a
          refine tn_callSN (M := m_X5_call) (pc := 91) (ix := 129) (M' := m_X11_put) (As := [.ref xq37, .int (iI (2 * i4)), .int (iI (σ11.2.1 50 a))]) (rest := []) dX5_call_91 ok_X11_put stt_X11_put nl5_129 np_X11_put rfl (Nat.le_of_ble_eq_true rfl) (Nat.le_of_ble_eq_true rfl) rfl (k_X11_put_x (d + 49) (T := T12) (σ := σ11) (x := xq37) (i := 2 * i4) (y := σ11.2.1 50 a) hk39i (by omega) (by omega) (by omega) w18 (nh_k hk39 (by unfold HT; omega)) (vok_1 (by have q9 := hk39; omega) (by omega))) (fun r42 T44 σ43 gt45 hp => ?_)
          obtain ⟨rfl, rfl, w49, F50, f46, f47⟩ := hp
          clear gt45
          have mg51 : MG Tg gs T12 σ11 a mw26 := (MG.tr sy9 mgq31)
          have ar52 : xq37 ∈ RRS gs a ∧ xq37 ≠ adN σ11 5 (adN gs 35 a) := MG.rr mg51 w18 h_a (by decide) (hx38) (ar_of (wf_49 w18 h_a) (hx38)) (by decide) hgf
          have fx53 : RDX σ43 a Sx nx i23 (es24.foldl uC (ey.foldl uC cx)) (Nx + my + m25) := RDX.fc fx29 w18 h_a F50 (by decide) (by decide)
          have rp54 : RP σ43 a (kp - 4 * v17) := RP.frc f16 F50 (by decide) (by decide) (by decide) (by decide) (by decide)
          show Tn _ _ 94 T12 σ43 [(0, .ref a), (1, .int (iI c1)), (2, .int (iI c2)), (3, .int (iI c3)), (4, .int (iI i4)), (5, .int (iI i5))] [] _
          refine tn_aload_n dX5_call_94 rfl 0 rfl ?_
          refine tn_getR (ci := 5) (i := 16) (n := 49) (x := xq37) dX5_call_95 rfl lay_5 (by decide) fl5_43 h_a rfl rfl (rc_F F50 (Or.inl (by decide)) (by decide) (hx38)) ?_
          refine tn_iconst dX5_call_98 ?_
          refine tn_iload dX5_call_99 4 rfl ?_
          refine tn_imul dX5_call_101 ?_
          refine tn_iconst dX5_call_102 ?_
          refine tn_iadd dX5_call_103 ?_
          refine tn_aload_n dX5_call_104 rfl 0 rfl ?_
          refine tn_getI (ci := 5) (i := 18) (n := 51) (t := σ11.2.1 51 a) dX5_call_105 rfl lay_5 (by decide) fl5_219 h_a rfl rfl (rc_F F50 (Or.inl (by decide)) (by decide) (rfl)) ?_
          have g55 : ((-2147483648 : Int) ≤ σ11.2.1 51 a ∧ σ11.2.1 51 a ≤ 2147483647) := wf_51 w18 h_a
          refine tn_callSN (M := m_X5_call) (pc := 108) (ix := 129) (M' := m_X11_put) (As := [.ref xq37, .int (iI ((2 * i4) + 1)), .int (iI (σ11.2.1 51 a))]) (rest := []) dX5_call_108 ok_X11_put stt_X11_put nl5_129 np_X11_put rfl (Nat.le_of_ble_eq_true rfl) (Nat.le_of_ble_eq_true rfl) rfl (k_X11_put_x (d + 49) (T := T12) (σ := σ43) (x := xq37) (i := (2 * i4) + 1) (y := σ11.2.1 51 a) hk39i (by omega) (by omega) (by omega) w49 (nh_k hk39 (by unfold HT; omega)) (vok_1 (by have q9 := hk39; omega) (by omega))) (fun r56 T58 σ57 gt59 hp => ?_)
          obtain ⟨rfl, rfl, w63, F64, f60, f61⟩ := hp
          clear gt59
          have mg65 : MG Tg gs T12 σ43 a mw26 := (MG.pq mg51 ar52 f47)
          have ar66 : xq37 ∈ RRS gs a ∧ xq37 ≠ adN σ43 5 (adN gs 35 a) := MG.rr mg65 w49 h_a (by decide) (rc_F F50 (Or.inl (by decide)) (by decide) (hx38)) (ar_of (wf_49 w49 h_a) (rc_F F50 (Or.inl (by decide)) (by decide) (hx38))) (by decide) hgf
          have fx67 : RDX σ57 a Sx nx i23 (es24.foldl uC (ey.foldl uC cx)) (Nx + my + m25) := RDX.fc fx53 w49 h_a F64 (by decide) (by decide)
          have rp68 : RP σ57 a (kp - 4 * v17) := RP.frc rp54 F64 (by decide) (by decide) (by decide) (by decide) (by decide)
          show Tn _ _ 111 T12 σ57 [(0, .ref a), (1, .int (iI c1)), (2, .int (iI c2)), (3, .int (iI c3)), (4, .int (iI i4)), (5, .int (iI i5))] [] _
          have ag69 : ARG σ57 a (as ++ [(σ11.2.1 50 a, σ11.2.1 51 a)]) := ARG.add (T := T12) (n := i4) (ARG.fg hag hw obq20 mgq31) (show σ11.2.1 49 a = (xq37 : Int) from hx38) (by have z9 := ar_of (wf_49 w63 h_a) (rc_F F64 (Or.inl (by decide)) (by decide) (rc_F F50 (Or.inl (by decide)) (by decide) (hx38))); have z8 := z9.2; omega) (by omega) f47 f61
          have mg70 : MG Tg gs T12 σ57 a mw26 := (MG.pq mg65 ar66 f61)
          have ag69pk : σ11.2.1 50 a = (mw26).pk := by have z0 := MG.e50 mg70; have z1 : σ57.2.1 50 a = (mw26).pk := z0; have z2 : σ57.2.1 50 a = σ11.2.1 50 a := rc_F F64 (Or.inl (by decide)) (by decide) (rc_F F50 (Or.inl (by decide)) (by decide) (rfl)); omega
          have ag69pv : σ11.2.1 51 a = (mw26).pv := by have z0 := MG.e51 mg70; have z1 : σ57.2.1 51 a = (mw26).pv := z0; have z2 : σ57.2.1 51 a = σ11.2.1 51 a := rc_F F64 (Or.inl (by decide)) (by decide) (rc_F F50 (Or.inl (by decide)) (by decide) (rfl)); omega
          rw [ag69pk, ag69pv] at ag69
          refine tn_iinc (q0 := 4) (L' := [(4, .int (iI (i4 + 1))), (0, .ref a), (1, .int (iI c1)), (2, .int (iI c2)), (3, .int (iI c3)), (5, .int (iI i5))]) dX5_call_111 rfl (by decide) rfl ?_
          refine tn_aload_n dX5_call_114 rfl 1 rfl ?_
          obtain ⟨xq71, hx72, hk73⟩ : ∃ x : Nat, σ11.2.1 33 a = (x : Int) ∧ (T12 x).1 = 39 := wf_33 w18 h_a
          have hk73o : OB T12 xq71 9 := ⟨by omega, by rw [hk73]; rfl, by omega⟩
          refine tn_getR (ci := 5) (i := 0) (n := 33) (x := xq71) dX5_call_115 rfl lay_5 (by decide) fl5_12 h_a rfl rfl (rc_F F64 (Or.inl (by decide)) (by decide) (rc_F F50 (Or.inl (by decide)) (by decide) (hx72))) ?_
          refine tn_getI (ci := 9) (i := 4) (n := 85) (t := σ11.2.1 85 xq71) dX5_call_118 rfl lay_9 (by decide) fl5_71 hk73o rfl rfl (rc_F F64 (Or.inl (by decide)) (by decide) (rc_F F50 (Or.inl (by decide)) (by decide) (rfl))) ?_
          have g75 : ((-2147483648 : Int) ≤ σ11.2.1 85 xq71 ∧ σ11.2.1 85 xq71 ≤ 2147483647) := wf_85 w18 hk73o
          have g75kd : σ11.2.1 85 xq71 = ckd (tkS Sx i23) := (rc_F F64 (Or.inl (by decide)) (by decide) (rc_F F50 (Or.inl (by decide)) (by decide) (rfl))).symm.trans ((fx67).1.kd (rc_F F64 (Or.inl (by decide)) (by decide) (rc_F F50 (Or.inl (by decide)) (by decide) (hx72))))
          refine tn_bipush dX5_call_121 (by decide) ?_
          refine tn_icmp_eq (tgt := 129) dX5_call_123 (by decide) ⟨by omega, by omega⟩ ⟨by decide, by decide⟩ (fun h76 => ?_) (fun h76 => ?_)
          · refine tn_aload_n dX5_call_129 rfl 1 rfl ?_
            refine tn_getR (ci := 5) (i := 0) (n := 33) (x := xq71) dX5_call_130 rfl lay_5 (by decide) fl5_12 h_a rfl rfl (rc_F F64 (Or.inl (by decide)) (by decide) (rc_F F50 (Or.inl (by decide)) (by decide) (hx72))) ?_
            have q81 : σ57.2.1 84 xq71 = σ11.2.1 84 xq71 := rc_F F64 (Or.inl (by decide)) (by decide) (rc_F F50 (Or.inl (by decide)) (by decide) (rfl))
            refine tn_callV (M := m_X5_call) (pc := 133) (ix := 93) (ci := 9) (M' := m_X9_next) (As := []) (rest := []) dX5_call_133 ok_X9_next im_X9_next se_X9_next ml5_93 np_X9_next rfl rfl hk73o rfl (Nat.le_of_ble_eq_true rfl) (Nat.le_of_ble_eq_true rfl) rfl (k_X9_next_m (d + 49) (T := T12) (σ := σ57) (a := xq71) hk73o w63 (RP.tk rp68 w63 h_a (rc_F F64 (Or.inl (by decide)) (by decide) (rc_F F50 (Or.inl (by decide)) (by decide) (hx72)))) ((fx67).1.tk (rc_F F64 (Or.inl (by decide)) (by decide) (rc_F F50 (Or.inl (by decide)) (by decide) (hx72)))) (by rw [(fx67).1.kd (rc_F F64 (Or.inl (by decide)) (by decide) (rc_F F50 (Or.inl (by decide)) (by decide) (hx72)))]; omega)) (fun r77 T79 σ78 gt80 hp => ?_)
            obtain ⟨rfl, rfl, w88, F89, f82, f83, f84, f85, f86⟩ := hp
            clear gt80
            have ag90 : ARG σ78 a (as ++ [((mw26).pk, (mw26).pv)]) := (ARG.tk ag69 f86)
            have pc92 : GR Sx [27] i23 (0) (bx) ((tkS Sx jx).2.2.2.2, i4, (tkS Sx jx).1) [2, 27] (i23 + 1) (0) (bx) (((tkS Sx jx).2.2.2.2, i4, (tkS Sx jx).1).1, ((tkS Sx jx).2.2.2.2, i4, (tkS Sx jx).1).2.1 + 1, ((tkS Sx jx).2.2.2.2, i4, (tkS Sx jx).1).2.2) 0 [] := x27y hSb (by omega)
            have pm93 : CN nm mx.rt (es24.foldl uC (ey.foldl uC cx)) (GW Sx nm rnQ tb1 [27] i23 (0) (bx) ((tkS Sx jx).2.2.2.2, i4, (tkS Sx jx).1) (mw26.on (mw.on (mx.push (9, rq, 0, as)))) [2, 27] (i23 + 1) (0) (bx) (((tkS Sx jx).2.2.2.2, i4, (tkS Sx jx).1).1, ((tkS Sx jx).2.2.2.2, i4, (tkS Sx jx).1).2.1 + 1, ((tkS Sx jx).2.2.2.2, i4, (tkS Sx jx).1).2.2) 0 ((mw26.on (mw.on (mx.push (9, rq, 0, as)))).ag)) := fun hn9 => GW.of (gm27y hSb (by omega)) rfl
            have rd94 : GR Sx [25] jx 0 (bx) u0 [2, 27, 159] (i23 + 1) (0) (bx) (((tkS Sx jx).2.2.2.2, i4, (tkS Sx jx).1).1, ((tkS Sx jx).2.2.2.2, i4, (tkS Sx jx).1).2.1 + 1, ((tkS Sx jx).2.2.2.2, i4, (tkS Sx jx).1).2.2) (my + m25 + 0) (ey ++ es24) := GR.g0 (l := [27]) (ms := [2, 27]) [159] rd35 pc92
            have rm95 : CN nm mx.rt (es24.foldl uC (ey.foldl uC cx)) (GW Sx nm rnQ tb1 [25] jx 0 (bx) u0 (mx.push (8, rq, 0, [])) [2, 27, 159] (i23 + 1) (0) (bx) (((tkS Sx jx).2.2.2.2, i4, (tkS Sx jx).1).1, ((tkS Sx jx).2.2.2.2, i4, (tkS Sx jx).1).2.1 + 1, ((tkS Sx jx).2.2.2.2, i4, (tkS Sx jx).1).2.2) (my + m25 + 0) ((mw26.on (mw.on (mx.push (9, rq, 0, as)))).ag)) := CN.gg (l := [27]) (ms := [2, 27]) [159] rm36 (fun q9 => q9) pm93
            have fx91 : RDX σ78 a Sx nx (i23 + 1) (es24.foldl uC (ey.foldl uC cx)) (Nx + my + m25) := RDX.nx fx67 w63 h_a (rc_F F64 (Or.inl (by decide)) (by decide) (rc_F F50 (Or.inl (by decide)) (by decide) (hx72))) F89 f85
            have rp96 : RP σ78 a (kp - 4 * v17 - 4) := RP.next4 rp68 (rc_F F64 (Or.inl (by decide)) (by decide) (rc_F F50 (Or.inl (by decide)) (by decide) (hx72))) F89 (by decide) (by decide) (by decide) f82 f84 (by rw [show σ57.2.1 85 xq71 = σ11.2.1 85 xq71 from rc_F F64 (Or.inl (by decide)) (by decide) (rc_F F50 (Or.inl (by decide)) (by decide) (rfl))]; omega)
            show Tn _ _ 136 T12 σ78 [(4, .int (iI (i4 + 1))), (0, .ref a), (1, .int (iI c1)), (2, .int (iI c2)), (3, .int (iI c3)), (5, .int (iI i5))] [] _
            refine tn_iinc (q0 := 5) (L' := [(5, .int (iI (i5 + 1))), (4, .int (iI (i4 + 1))), (0, .ref a), (1, .int (iI c1)), (2, .int (iI c2)), (3, .int (iI c3))]) dX5_call_136 rfl (by decide) rfl ?_
            refine tn_goto (tgt := 44) dX5_call_139 (by decide) ?_
            have mg98 : MG Tg gs T12 σ78 a mw26 := (MG.tk mg70 (rc_F F64 (Or.inl (by decide)) (by decide) (rc_F F50 (Or.inl (by decide)) (by decide) (hx72))) f86)
            have hz99e : ((mw26.on (mw.on (mx.push (9, rq, 0, as)))).ag) = (mw26).on (mx.push (9, rq, 0, (as ++ [((mw26).pk, (mw26).pv)]))) := rfl
            have hz99c : (es24.foldl uC (ey.foldl uC cx)) = (ey ++ es24).foldl uC cx := (by simp only [List.foldl_append, List.foldl_cons, List.foldl_nil])
            have hz99 : CN nm mx.rt ((ey ++ es24).foldl uC cx) (GW Sx nm rnQ tb1 [25] jx 0 (bx) u0 (mx.push (8, rq, 0, [])) [2, 27, 159] (i23 + 1) (0) (bx) (((tkS Sx jx).2.2.2.2, i4, (tkS Sx jx).1).1, ((tkS Sx jx).2.2.2.2, i4, (tkS Sx jx).1).2.1 + 1, ((tkS Sx jx).2.2.2.2, i4, (tkS Sx jx).1).2.2) (my + m25 + 0) ((mw26).on (mx.push (9, rq, 0, (as ++ [((mw26).pk, (mw26).pv)]))))) := by
              have q9 := CN.up (c2 := es24.foldl uC (ey.foldl uC cx)) rm95 (fun q9 => q9)
              rw [hz99e, hz99c] at q9
              exact q9
            have hx97 : CLW σ78 a Sx nx bx jx cx Nx (tkS Sx jx).2.2.2.2 (tkS Sx jx).1 (i4 + 1) ((jx : Int) + 2 + (i5 + 1)) nm Tg gs T12 mx rq := ⟨(i23 + 1), ey ++ es24, my + m25 + 0, mw26, (as ++ [((mw26).pk, (mw26).pv)]), by omega, RDX.nq (RDX.cq fx91 hz99c) (by omega), (NI2.app niy ni30), mg98, mb32, by rw [List.length_append]; simp only [List.length_singleton]; omega, ag90, fun q => absurd q.1 (by omega), fun _ => ⟨rd94, hz99⟩⟩
            exact tn_sub [2, 3, 4, 5, 1, 0] rfl (ih _ (by omega) T12 (i4 + 1) (i5 + 1) σ78 (GT.trans hG gt13) w88 (((((FrC.rfl.trans (FrC.sub hF (by decide))).trans (FrC.sub (FrC.old F19 hG) (by decide))).trans (FrC.sub (FrC.old F50 (GT.trans hG gt13)) (by decide))).trans (FrC.sub (FrC.old F64 (GT.trans hG gt13)) (by decide))).trans (FrC.sub (FrC.old F89 (GT.trans hG gt13)) (by decide))) h_a (by omega) (by omega) (by omega) hx97 (RP.up rp96 (by omega)) rfl)
          · have pc101 : GR Sx [27] i23 (0) (bx) ((tkS Sx jx).2.2.2.2, i4, (tkS Sx jx).1) [38, 141] i23 (0) (bx) (((tkS Sx jx).2.2.2.2, i4, (tkS Sx jx).1).1, ((tkS Sx jx).2.2.2.2, i4, (tkS Sx jx).1).2.1 + 1, ((tkS Sx jx).2.2.2.2, i4, (tkS Sx jx).1).2.2) 0 [] := x27n hSb (by omega)
            have pm102 : CN nm mx.rt (es24.foldl uC (ey.foldl uC cx)) (GW Sx nm rnQ tb1 [27] i23 (0) (bx) ((tkS Sx jx).2.2.2.2, i4, (tkS Sx jx).1) (mw26.on (mw.on (mx.push (9, rq, 0, as)))) [38, 141] i23 (0) (bx) (((tkS Sx jx).2.2.2.2, i4, (tkS Sx jx).1).1, ((tkS Sx jx).2.2.2.2, i4, (tkS Sx jx).1).2.1 + 1, ((tkS Sx jx).2.2.2.2, i4, (tkS Sx jx).1).2.2) 0 ((mw26.on (mw.on (mx.push (9, rq, 0, as)))).ag)) := fun hn9 => GW.of (gm27n hSb (by omega)) rfl
            have rd103 : GR Sx [25] jx 0 (bx) u0 [38, 141, 159] i23 (0) (bx) (((tkS Sx jx).2.2.2.2, i4, (tkS Sx jx).1).1, ((tkS Sx jx).2.2.2.2, i4, (tkS Sx jx).1).2.1 + 1, ((tkS Sx jx).2.2.2.2, i4, (tkS Sx jx).1).2.2) (my + m25 + 0) (ey ++ es24) := GR.g0 (l := [27]) (ms := [38, 141]) [159] rd35 pc101
            have rm104 : CN nm mx.rt (es24.foldl uC (ey.foldl uC cx)) (GW Sx nm rnQ tb1 [25] jx 0 (bx) u0 (mx.push (8, rq, 0, [])) [38, 141, 159] i23 (0) (bx) (((tkS Sx jx).2.2.2.2, i4, (tkS Sx jx).1).1, ((tkS Sx jx).2.2.2.2, i4, (tkS Sx jx).1).2.1 + 1, ((tkS Sx jx).2.2.2.2, i4, (tkS Sx jx).1).2.2) (my + m25 + 0) ((mw26.on (mw.on (mx.push (9, rq, 0, as)))).ag)) := CN.gg (l := [27]) (ms := [38, 141]) [159] rm36 (fun q9 => q9) pm102
            have hz105e : ((mw26.on (mw.on (mx.push (9, rq, 0, as)))).ag) = (mw26).on (mx.push (9, rq, 0, (as ++ [((mw26).pk, (mw26).pv)]))) := rfl
            have hz105c : (es24.foldl uC (ey.foldl uC cx)) = (ey ++ es24).foldl uC cx := (by simp only [List.foldl_append, List.foldl_cons, List.foldl_nil])
            have hz105 : CN nm mx.rt ((ey ++ es24).foldl uC cx) (GW Sx nm rnQ tb1 [25] jx 0 (bx) u0 (mx.push (8, rq, 0, [])) [38, 141, 159] i23 (0) (bx) (((tkS Sx jx).2.2.2.2, i4, (tkS Sx jx).1).1, ((tkS Sx jx).2.2.2.2, i4, (tkS Sx jx).1).2.1 + 1, ((tkS Sx jx).2.2.2.2, i4, (tkS Sx jx).1).2.2) (my + m25 + 0) ((mw26).on (mx.push (9, rq, 0, (as ++ [((mw26).pk, (mw26).pv)]))))) := by
              have q9 := CN.up (c2 := es24.foldl uC (ey.foldl uC cx)) rm104 (fun q9 => q9)
              rw [hz105e, hz105c] at q9
              exact q9
            have hx100 : CLQW σ57 a Sx nx bx jx cx Nx (tkS Sx jx).2.2.2.2 (tkS Sx jx).1 (i4 + 1) ((jx : Int) + 2) nm Tg gs T12 mx rq := ⟨i23, ey ++ es24, my + m25 + 0, mw26, (as ++ [((mw26).pk, (mw26).pv)]), by omega, RDX.nq (RDX.cq fx67 hz105c) (by omega), (NI2.app niy ni30), mg70, mb32, ag69, rd103, hz105⟩
            exact tn_sub [1, 2, 3, 4, 0, 5] rfl (hx_126 T12 (i4 + 1) (i5) σ57 (GT.trans hG gt13) w63 ((((FrC.rfl.trans (FrC.sub hF (by decide))).trans (FrC.sub (FrC.old F19 hG) (by decide))).trans (FrC.sub (FrC.old F50 (GT.trans hG gt13)) (by decide))).trans (FrC.sub (FrC.old F64 (GT.trans hG gt13)) (by decide))) h_a (by omega) (by omega) True.intro True.intro (RP.up rp68 (by omega)) hx100)
        · obtain ⟨⟨pl106, g107, fx108⟩, nf109⟩ := f15.2 (by omega)
          have g107g := g107 (bx) ((tkS Sx jx).2.2.2.2, i4, (tkS Sx jx).1)
          have rf110 : GRF Sx [25] jx 0 (bx) u0 (pl106) := GR.fl (l := [2]) [27, 159] rdy g107g
          exact tn_sub [0, 1, 2, 3, 4, 5] rfl (hx_77 T12 (i4) (i5) σ11 (GT.trans hG gt13) w18 ((FrC.rfl.trans (FrC.sub hF (by decide))).trans (FrC.sub (FrC.old F19 hG) (by decide))) h_a (by omega) (by omega) True.intro True.intro (RP.up f16 (by omega)) ⟨⟨_, rf110, fx108⟩, (FG.tr (sy9).1 nf109)⟩)
      · refine tn_iload dX5_call_64 4 rfl ?_
        refine tn_if_le (tgt := 142) dX5_call_66 (by decide) ⟨by omega, by omega⟩ (fun h111 => ?_) (fun h111 => ?_)
        · have hx112 : CLQW σ a Sx nx bx jx cx Nx (tkS Sx jx).2.2.2.2 (tkS Sx jx).1 (i4) ((jx : Int) + 2) nm Tg gs T mx rq := ⟨jy, ey, my, mw, as, by omega, hfy, niy, mgy, mby, hag, (rda (by omega)).1, (rda (by omega)).2⟩
          exact tn_sub [0, 1, 2, 3, 4, 5] rfl (hx_142 T (i4) (i5) σ hG hw (FrC.rfl.trans (FrC.sub hF (by decide))) h_a (by omega) (by omega) True.intro True.intro (RP.up hrp (by omega)) hx112)
        · have rdy := (rdb (by omega)).1
          have cny := (rdb (by omega)).2
          refine tn_aload_n dX5_call_69 rfl 0 rfl ?_
          refine tn_iconst dX5_call_70 ?_
          have sy113 : (mw).w = ((mw.on (mx.push (9, rq, 0, as)))).w := rfl
          have sy114 : MG Tg gs T σ a (mw.on (mx.push (9, rq, 0, as))) := (MG.cg mgy sy113)
          refine tn_callV (M := m_X5_call) (pc := 71) (ix := 213) (ci := 5) (M' := m_X5_expression) (As := [.int (iI 1)]) (rest := []) dX5_call_71 ok_X5_expression im_X5_expression se_X5_expression ml5_213 np_X5_expression rfl rfl h_a rfl (Nat.le_of_ble_eq_true rfl) (Nat.le_of_ble_eq_true rfl) rfl (k_X5_expression_m (d) (T := T) (σ := σ) (a := a) (dp := 1) (kp := kp) (eo := 0) (nm := nm) (Tg := T) (gs := flg σ) (mx := (mw.on (mx.push (9, rq, 0, as)))) h_a (by decide) hw (by omega) hfy (MG.fl sy114) (MBD.same mby sy113) (by omega) (by omega) hrp) (fun r115 T117 σ116 gt118 hp => ?_)
          obtain ⟨v122, rfl, w123, F124, f119, f120, f121⟩ := hp
          have obq125 : OB T a 5 := h_a
          replace h_a : OB T117 a 5 := gt118.ob h_a
          show Tn _ _ 74 T117 σ116 [(0, .ref a), (1, .int (iI c1)), (2, .int (iI c2)), (3, .int (iI c3)), (4, .int (iI i4)), (5, .int (iI i5))] [.int (iI v122)] _
          refine tn_if_ne (tgt := 79) dX5_call_74 (by decide) ⟨by omega, by omega⟩ (fun h127 => ?_) (fun h127 => ?_)
          · obtain ⟨i128, es129, m130, mw131, lo132, rr133, fx134, ni135, mgq136, mb137, cn138⟩ := f120.1 (by omega)
            have rr133g := rr133 (bx) ((tkS Sx jx).2.2.2.2, i4, (tkS Sx jx).1)
            have pm139 : CN nm mx.rt (es129.foldl uC (ey.foldl uC cx)) (GW Sx nm rnQ tb1 [2] jy (0) (bx) ((tkS Sx jx).2.2.2.2, i4, (tkS Sx jx).1) (mw.on (mx.push (9, rq, 0, as))) [] i128 (0) (bx) ((tkS Sx jx).2.2.2.2, i4, (tkS Sx jx).1) m130 (mw131.on (mw.on (mx.push (9, rq, 0, as))))) := fun hn9 => cn138 hn9 (bx) ((tkS Sx jx).2.2.2.2, i4, (tkS Sx jx).1)
            have rd140 : GR Sx [25] jx 0 (bx) u0 [27, 159] i128 (0) (bx) ((tkS Sx jx).2.2.2.2, i4, (tkS Sx jx).1) (my + m130) (ey ++ es129) := GR.gg (l := [2]) (ms := []) [27, 159] rdy rr133g
            have rm141 : CN nm mx.rt (es129.foldl uC (ey.foldl uC cx)) (GW Sx nm rnQ tb1 [25] jx 0 (bx) u0 (mx.push (8, rq, 0, [])) [27, 159] i128 (0) (bx) ((tkS Sx jx).2.2.2.2, i4, (tkS Sx jx).1) (my + m130) (mw131.on (mw.on (mx.push (9, rq, 0, as))))) := CN.gg (l := [2]) (ms := []) [27, 159] cny (fun q9 => (fun q9 => q9) (NMA.fo ni135 q9)) pm139
            obtain ⟨xq142, hx143, hk144, hl145⟩ : ∃ x : Nat, σ116.2.1 49 a = (x : Int) ∧ AR T117 x 1 8 8 := wf_49 w123 h_a
            have hk144i : IA T117 xq142 := by unfold IA; omega
            refine tn_aload_n dX5_call_79 rfl 0 rfl ?_
            refine tn_getR (ci := 5) (i := 16) (n := 49) (x := xq142) dX5_call_80 rfl lay_5 (by decide) fl5_43 h_a rfl rfl (hx143) ?_
            refine tn_iconst dX5_call_83 ?_
            refine tn_iload dX5_call_84 4 rfl ?_
            refine tn_imul dX5_call_86 ?_
            refine tn_aload_n dX5_call_87 rfl 0 rfl ?_
            refine tn_getI (ci := 5) (i := 17) (n := 50) (t := σ116.2.1 50 a) dX5_call_88 rfl lay_5 (by decide) fl5_216 h_a rfl rfl (rfl) ?_
            have g146 : ((-2147483648 : Int) ≤ σ116.2.1 50 a ∧ σ116.2.1 50 a ≤ 2147483647) := wf_50 w123 h_a
            refine tn_callSN (M := m_X5_call) (pc := 91) (ix := 129) (M' := m_X11_put) (As := [.ref xq142, .int (iI (2 * i4)), .int (iI (σ116.2.1 50 a))]) (rest := []) dX5_call_91 ok_X11_put stt_X11_put nl5_129 np_X11_put rfl (Nat.le_of_ble_eq_true rfl) (Nat.le_of_ble_eq_true rfl) rfl (k_X11_put_x (d + 49) (T := T117) (σ := σ116) (x := xq142) (i := 2 * i4) (y := σ116.2.1 50 a) hk144i (by omega) (by omega) (by omega) w123 (nh_k hk144 (by unfold HT; omega)) (vok_1 (by have q9 := hk144; omega) (by omega))) (fun r147 T149 σ148 gt150 hp => ?_)
            obtain ⟨rfl, rfl, w154, F155, f151, f152⟩ := hp
            clear gt150
            have mg156 : MG Tg gs T117 σ116 a mw131 := (MG.tr sy114 mgq136)
            have ar157 : xq142 ∈ RRS gs a ∧ xq142 ≠ adN σ116 5 (adN gs 35 a) := MG.rr mg156 w123 h_a (by decide) (hx143) (ar_of (wf_49 w123 h_a) (hx143)) (by decide) hgf
            have fx158 : RDX σ148 a Sx nx i128 (es129.foldl uC (ey.foldl uC cx)) (Nx + my + m130) := RDX.fc fx134 w123 h_a F155 (by decide) (by decide)
            have rp159 : RP σ148 a (kp - 4 * v122) := RP.frc f121 F155 (by decide) (by decide) (by decide) (by decide) (by decide)
            show Tn _ _ 94 T117 σ148 [(0, .ref a), (1, .int (iI c1)), (2, .int (iI c2)), (3, .int (iI c3)), (4, .int (iI i4)), (5, .int (iI i5))] [] _
            refine tn_aload_n dX5_call_94 rfl 0 rfl ?_
            refine tn_getR (ci := 5) (i := 16) (n := 49) (x := xq142) dX5_call_95 rfl lay_5 (by decide) fl5_43 h_a rfl rfl (rc_F F155 (Or.inl (by decide)) (by decide) (hx143)) ?_
            refine tn_iconst dX5_call_98 ?_
            refine tn_iload dX5_call_99 4 rfl ?_
            refine tn_imul dX5_call_101 ?_
            refine tn_iconst dX5_call_102 ?_
            refine tn_iadd dX5_call_103 ?_
            refine tn_aload_n dX5_call_104 rfl 0 rfl ?_
            refine tn_getI (ci := 5) (i := 18) (n := 51) (t := σ116.2.1 51 a) dX5_call_105 rfl lay_5 (by decide) fl5_219 h_a rfl rfl (rc_F F155 (Or.inl (by decide)) (by decide) (rfl)) ?_
            have g160 : ((-2147483648 : Int) ≤ σ116.2.1 51 a ∧ σ116.2.1 51 a ≤ 2147483647) := wf_51 w123 h_a
            refine tn_callSN (M := m_X5_call) (pc := 108) (ix := 129) (M' := m_X11_put) (As := [.ref xq142, .int (iI ((2 * i4) + 1)), .int (iI (σ116.2.1 51 a))]) (rest := []) dX5_call_108 ok_X11_put stt_X11_put nl5_129 np_X11_put rfl (Nat.le_of_ble_eq_true rfl) (Nat.le_of_ble_eq_true rfl) rfl (k_X11_put_x (d + 49) (T := T117) (σ := σ148) (x := xq142) (i := (2 * i4) + 1) (y := σ116.2.1 51 a) hk144i (by omega) (by omega) (by omega) w154 (nh_k hk144 (by unfold HT; omega)) (vok_1 (by have q9 := hk144; omega) (by omega))) (fun r161 T163 σ162 gt164 hp => ?_)
            obtain ⟨rfl, rfl, w168, F169, f165, f166⟩ := hp
            clear gt164
            have mg170 : MG Tg gs T117 σ148 a mw131 := (MG.pq mg156 ar157 f152)
            have ar171 : xq142 ∈ RRS gs a ∧ xq142 ≠ adN σ148 5 (adN gs 35 a) := MG.rr mg170 w154 h_a (by decide) (rc_F F155 (Or.inl (by decide)) (by decide) (hx143)) (ar_of (wf_49 w154 h_a) (rc_F F155 (Or.inl (by decide)) (by decide) (hx143))) (by decide) hgf
            have fx172 : RDX σ162 a Sx nx i128 (es129.foldl uC (ey.foldl uC cx)) (Nx + my + m130) := RDX.fc fx158 w154 h_a F169 (by decide) (by decide)
            have rp173 : RP σ162 a (kp - 4 * v122) := RP.frc rp159 F169 (by decide) (by decide) (by decide) (by decide) (by decide)
            show Tn _ _ 111 T117 σ162 [(0, .ref a), (1, .int (iI c1)), (2, .int (iI c2)), (3, .int (iI c3)), (4, .int (iI i4)), (5, .int (iI i5))] [] _
            have ag174 : ARG σ162 a (as ++ [(σ116.2.1 50 a, σ116.2.1 51 a)]) := ARG.add (T := T117) (n := i4) (ARG.fg hag hw obq125 mgq136) (show σ116.2.1 49 a = (xq142 : Int) from hx143) (by have z9 := ar_of (wf_49 w168 h_a) (rc_F F169 (Or.inl (by decide)) (by decide) (rc_F F155 (Or.inl (by decide)) (by decide) (hx143))); have z8 := z9.2; omega) (by omega) f152 f166
            have mg175 : MG Tg gs T117 σ162 a mw131 := (MG.pq mg170 ar171 f166)
            have ag174pk : σ116.2.1 50 a = (mw131).pk := by have z0 := MG.e50 mg175; have z1 : σ162.2.1 50 a = (mw131).pk := z0; have z2 : σ162.2.1 50 a = σ116.2.1 50 a := rc_F F169 (Or.inl (by decide)) (by decide) (rc_F F155 (Or.inl (by decide)) (by decide) (rfl)); omega
            have ag174pv : σ116.2.1 51 a = (mw131).pv := by have z0 := MG.e51 mg175; have z1 : σ162.2.1 51 a = (mw131).pv := z0; have z2 : σ162.2.1 51 a = σ116.2.1 51 a := rc_F F169 (Or.inl (by decide)) (by decide) (rc_F F155 (Or.inl (by decide)) (by decide) (rfl)); omega
            rw [ag174pk, ag174pv] at ag174
            refine tn_iinc (q0 := 4) (L' := [(4, .int (iI (i4 + 1))), (0, .ref a), (1, .int (iI c1)), (2, .int (iI c2)), (3, .int (iI c3)), (5, .int (iI i5))]) dX5_call_111 rfl (by decide) rfl ?_
            refine tn_aload_n dX5_call_114 rfl 1 rfl ?_
            obtain ⟨xq176, hx177, hk178⟩ : ∃ x : Nat, σ116.2.1 33 a = (x : Int) ∧ (T117 x).1 = 39 := wf_33 w123 h_a
            have hk178o : OB T117 xq176 9 := ⟨by omega, by rw [hk178]; rfl, by omega⟩
            refine tn_getR (ci := 5) (i := 0) (n := 33) (x := xq176) dX5_call_115 rfl lay_5 (by decide) fl5_12 h_a rfl rfl (rc_F F169 (Or.inl (by decide)) (by decide) (rc_F F155 (Or.inl (by decide)) (by decide) (hx177))) ?_
            refine tn_getI (ci := 9) (i := 4) (n := 85) (t := σ116.2.1 85 xq176) dX5_call_118 rfl lay_9 (by decide) fl5_71 hk178o rfl rfl (rc_F F169 (Or.inl (by decide)) (by decide) (rc_F F155 (Or.inl (by decide)) (by decide) (rfl))) ?_
            have g180 : ((-2147483648 : Int) ≤ σ116.2.1 85 xq176 ∧ σ116.2.1 85 xq176 ≤ 2147483647) := wf_85 w123 hk178o
            have g180kd : σ116.2.1 85 xq176 = ckd (tkS Sx i128) := (rc_F F169 (Or.inl (by decide)) (by decide) (rc_F F155 (Or.inl (by decide)) (by decide) (rfl))).symm.trans ((fx172).1.kd (rc_F F169 (Or.inl (by decide)) (by decide) (rc_F F155 (Or.inl (by decide)) (by decide) (hx177))))
            refine tn_bipush dX5_call_121 (by decide) ?_
            refine tn_icmp_eq (tgt := 129) dX5_call_123 (by decide) ⟨by omega, by omega⟩ ⟨by decide, by decide⟩ (fun h181 => ?_) (fun h181 => ?_)
            · refine tn_aload_n dX5_call_129 rfl 1 rfl ?_
              refine tn_getR (ci := 5) (i := 0) (n := 33) (x := xq176) dX5_call_130 rfl lay_5 (by decide) fl5_12 h_a rfl rfl (rc_F F169 (Or.inl (by decide)) (by decide) (rc_F F155 (Or.inl (by decide)) (by decide) (hx177))) ?_
              have q186 : σ162.2.1 84 xq176 = σ116.2.1 84 xq176 := rc_F F169 (Or.inl (by decide)) (by decide) (rc_F F155 (Or.inl (by decide)) (by decide) (rfl))
              refine tn_callV (M := m_X5_call) (pc := 133) (ix := 93) (ci := 9) (M' := m_X9_next) (As := []) (rest := []) dX5_call_133 ok_X9_next im_X9_next se_X9_next ml5_93 np_X9_next rfl rfl hk178o rfl (Nat.le_of_ble_eq_true rfl) (Nat.le_of_ble_eq_true rfl) rfl (k_X9_next_m (d + 49) (T := T117) (σ := σ162) (a := xq176) hk178o w168 (RP.tk rp173 w168 h_a (rc_F F169 (Or.inl (by decide)) (by decide) (rc_F F155 (Or.inl (by decide)) (by decide) (hx177)))) ((fx172).1.tk (rc_F F169 (Or.inl (by decide)) (by decide) (rc_F F155 (Or.inl (by decide)) (by decide) (hx177)))) (by rw [(fx172).1.kd (rc_F F169 (Or.inl (by decide)) (by decide) (rc_F F155 (Or.inl (by decide)) (by decide) (hx177)))]; omega)) (fun r182 T184 σ183 gt185 hp => ?_)
              obtain ⟨rfl, rfl, w193, F194, f187, f188, f189, f190, f191⟩ := hp
              clear gt185
              have ag195 : ARG σ183 a (as ++ [((mw131).pk, (mw131).pv)]) := (ARG.tk ag174 f191)
              have pc197 : GR Sx [27] i128 (0) (bx) ((tkS Sx jx).2.2.2.2, i4, (tkS Sx jx).1) [2, 27] (i128 + 1) (0) (bx) (((tkS Sx jx).2.2.2.2, i4, (tkS Sx jx).1).1, ((tkS Sx jx).2.2.2.2, i4, (tkS Sx jx).1).2.1 + 1, ((tkS Sx jx).2.2.2.2, i4, (tkS Sx jx).1).2.2) 0 [] := x27y hSb (by omega)
              have pm198 : CN nm mx.rt (es129.foldl uC (ey.foldl uC cx)) (GW Sx nm rnQ tb1 [27] i128 (0) (bx) ((tkS Sx jx).2.2.2.2, i4, (tkS Sx jx).1) (mw131.on (mw.on (mx.push (9, rq, 0, as)))) [2, 27] (i128 + 1) (0) (bx) (((tkS Sx jx).2.2.2.2, i4, (tkS Sx jx).1).1, ((tkS Sx jx).2.2.2.2, i4, (tkS Sx jx).1).2.1 + 1, ((tkS Sx jx).2.2.2.2, i4, (tkS Sx jx).1).2.2) 0 ((mw131.on (mw.on (mx.push (9, rq, 0, as)))).ag)) := fun hn9 => GW.of (gm27y hSb (by omega)) rfl
              have rd199 : GR Sx [25] jx 0 (bx) u0 [2, 27, 159] (i128 + 1) (0) (bx) (((tkS Sx jx).2.2.2.2, i4, (tkS Sx jx).1).1, ((tkS Sx jx).2.2.2.2, i4, (tkS Sx jx).1).2.1 + 1, ((tkS Sx jx).2.2.2.2, i4, (tkS Sx jx).1).2.2) (my + m130 + 0) (ey ++ es129) := GR.g0 (l := [27]) (ms := [2, 27]) [159] rd140 pc197
              have rm200 : CN nm mx.rt (es129.foldl uC (ey.foldl uC cx)) (GW Sx nm rnQ tb1 [25] jx 0 (bx) u0 (mx.push (8, rq, 0, [])) [2, 27, 159] (i128 + 1) (0) (bx) (((tkS Sx jx).2.2.2.2, i4, (tkS Sx jx).1).1, ((tkS Sx jx).2.2.2.2, i4, (tkS Sx jx).1).2.1 + 1, ((tkS Sx jx).2.2.2.2, i4, (tkS Sx jx).1).2.2) (my + m130 + 0) ((mw131.on (mw.on (mx.push (9, rq, 0, as)))).ag)) := CN.gg (l := [27]) (ms := [2, 27]) [159] rm141 (fun q9 => q9) pm198
              have fx196 : RDX σ183 a Sx nx (i128 + 1) (es129.foldl uC (ey.foldl uC cx)) (Nx + my + m130) := RDX.nx fx172 w168 h_a (rc_F F169 (Or.inl (by decide)) (by decide) (rc_F F155 (Or.inl (by decide)) (by decide) (hx177))) F194 f190
              have rp201 : RP σ183 a (kp - 4 * v122 - 4) := RP.next4 rp173 (rc_F F169 (Or.inl (by decide)) (by decide) (rc_F F155 (Or.inl (by decide)) (by decide) (hx177))) F194 (by decide) (by decide) (by decide) f187 f189 (by rw [show σ162.2.1 85 xq176 = σ116.2.1 85 xq176 from rc_F F169 (Or.inl (by decide)) (by decide) (rc_F F155 (Or.inl (by decide)) (by decide) (rfl))]; omega)
              show Tn _ _ 136 T117 σ183 [(4, .int (iI (i4 + 1))), (0, .ref a), (1, .int (iI c1)), (2, .int (iI c2)), (3, .int (iI c3)), (5, .int (iI i5))] [] _
              refine tn_iinc (q0 := 5) (L' := [(5, .int (iI (i5 + 1))), (4, .int (iI (i4 + 1))), (0, .ref a), (1, .int (iI c1)), (2, .int (iI c2)), (3, .int (iI c3))]) dX5_call_136 rfl (by decide) rfl ?_
              refine tn_goto (tgt := 44) dX5_call_139 (by decide) ?_
              have mg203 : MG Tg gs T117 σ183 a mw131 := (MG.tk mg175 (rc_F F169 (Or.inl (by decide)) (by decide) (rc_F F155 (Or.inl (by decide)) (by decide) (hx177))) f191)
              have hz204e : ((mw131.on (mw.on (mx.push (9, rq, 0, as)))).ag) = (mw131).on (mx.push (9, rq, 0, (as ++ [((mw131).pk, (mw131).pv)]))) := rfl
              have hz204c : (es129.foldl uC (ey.foldl uC cx)) = (ey ++ es129).foldl uC cx := (by simp only [List.foldl_append, List.foldl_cons, List.foldl_nil])
              have hz204 : CN nm mx.rt ((ey ++ es129).foldl uC cx) (GW Sx nm rnQ tb1 [25] jx 0 (bx) u0 (mx.push (8, rq, 0, [])) [2, 27, 159] (i128 + 1) (0) (bx) (((tkS Sx jx).2.2.2.2, i4, (tkS Sx jx).1).1, ((tkS Sx jx).2.2.2.2, i4, (tkS Sx jx).1).2.1 + 1, ((tkS Sx jx).2.2.2.2, i4, (tkS Sx jx).1).2.2) (my + m130 + 0) ((mw131).on (mx.push (9, rq, 0, (as ++ [((mw131).pk, (mw131).pv)]))))) := by
                have q9 := CN.up (c2 := es129.foldl uC (ey.foldl uC cx)) rm200 (fun q9 => q9)
                rw [hz204e, hz204c] at q9
                exact q9
              have hx202 : CLW σ183 a Sx nx bx jx cx Nx (tkS Sx jx).2.2.2.2 (tkS Sx jx).1 (i4 + 1) ((jx : Int) + 2 + (i5 + 1)) nm Tg gs T117 mx rq := ⟨(i128 + 1), ey ++ es129, my + m130 + 0, mw131, (as ++ [((mw131).pk, (mw131).pv)]), by omega, RDX.nq (RDX.cq fx196 hz204c) (by omega), (NI2.app niy ni135), mg203, mb137, by rw [List.length_append]; simp only [List.length_singleton]; omega, ag195, fun q => absurd q.1 (by omega), fun _ => ⟨rd199, hz204⟩⟩
              exact tn_sub [2, 3, 4, 5, 1, 0] rfl (ih _ (by omega) T117 (i4 + 1) (i5 + 1) σ183 (GT.trans hG gt118) w193 (((((FrC.rfl.trans (FrC.sub hF (by decide))).trans (FrC.sub (FrC.old F124 hG) (by decide))).trans (FrC.sub (FrC.old F155 (GT.trans hG gt118)) (by decide))).trans (FrC.sub (FrC.old F169 (GT.trans hG gt118)) (by decide))).trans (FrC.sub (FrC.old F194 (GT.trans hG gt118)) (by decide))) h_a (by omega) (by omega) (by omega) hx202 (RP.up rp201 (by omega)) rfl)
            · have pc206 : GR Sx [27] i128 (0) (bx) ((tkS Sx jx).2.2.2.2, i4, (tkS Sx jx).1) [38, 141] i128 (0) (bx) (((tkS Sx jx).2.2.2.2, i4, (tkS Sx jx).1).1, ((tkS Sx jx).2.2.2.2, i4, (tkS Sx jx).1).2.1 + 1, ((tkS Sx jx).2.2.2.2, i4, (tkS Sx jx).1).2.2) 0 [] := x27n hSb (by omega)
              have pm207 : CN nm mx.rt (es129.foldl uC (ey.foldl uC cx)) (GW Sx nm rnQ tb1 [27] i128 (0) (bx) ((tkS Sx jx).2.2.2.2, i4, (tkS Sx jx).1) (mw131.on (mw.on (mx.push (9, rq, 0, as)))) [38, 141] i128 (0) (bx) (((tkS Sx jx).2.2.2.2, i4, (tkS Sx jx).1).1, ((tkS Sx jx).2.2.2.2, i4, (tkS Sx jx).1).2.1 + 1, ((tkS Sx jx).2.2.2.2, i4, (tkS Sx jx).1).2.2) 0 ((mw131.on (mw.on (mx.push (9, rq, 0, as)))).ag)) := fun hn9 => GW.of (gm27n hSb (by omega)) rfl
              have rd208 : GR Sx [25] jx 0 (bx) u0 [38, 141, 159] i128 (0) (bx) (((tkS Sx jx).2.2.2.2, i4, (tkS Sx jx).1).1, ((tkS Sx jx).2.2.2.2, i4, (tkS Sx jx).1).2.1 + 1, ((tkS Sx jx).2.2.2.2, i4, (tkS Sx jx).1).2.2) (my + m130 + 0) (ey ++ es129) := GR.g0 (l := [27]) (ms := [38, 141]) [159] rd140 pc206
              have rm209 : CN nm mx.rt (es129.foldl uC (ey.foldl uC cx)) (GW Sx nm rnQ tb1 [25] jx 0 (bx) u0 (mx.push (8, rq, 0, [])) [38, 141, 159] i128 (0) (bx) (((tkS Sx jx).2.2.2.2, i4, (tkS Sx jx).1).1, ((tkS Sx jx).2.2.2.2, i4, (tkS Sx jx).1).2.1 + 1, ((tkS Sx jx).2.2.2.2, i4, (tkS Sx jx).1).2.2) (my + m130 + 0) ((mw131.on (mw.on (mx.push (9, rq, 0, as)))).ag)) := CN.gg (l := [27]) (ms := [38, 141]) [159] rm141 (fun q9 => q9) pm207
              have hz210e : ((mw131.on (mw.on (mx.push (9, rq, 0, as)))).ag) = (mw131).on (mx.push (9, rq, 0, (as ++ [((mw131).pk, (mw131).pv)]))) := rfl
              have hz210c : (es129.foldl uC (ey.foldl uC cx)) = (ey ++ es129).foldl uC cx := (by simp only [List.foldl_append, List.foldl_cons, List.foldl_nil])
              have hz210 : CN nm mx.rt ((ey ++ es129).foldl uC cx) (GW Sx nm rnQ tb1 [25] jx 0 (bx) u0 (mx.push (8, rq, 0, [])) [38, 141, 159] i128 (0) (bx) (((tkS Sx jx).2.2.2.2, i4, (tkS Sx jx).1).1, ((tkS Sx jx).2.2.2.2, i4, (tkS Sx jx).1).2.1 + 1, ((tkS Sx jx).2.2.2.2, i4, (tkS Sx jx).1).2.2) (my + m130 + 0) ((mw131).on (mx.push (9, rq, 0, (as ++ [((mw131).pk, (mw131).pv)]))))) := by
                have q9 := CN.up (c2 := es129.foldl uC (ey.foldl uC cx)) rm209 (fun q9 => q9)
                rw [hz210e, hz210c] at q9
                exact q9
              have hx205 : CLQW σ162 a Sx nx bx jx cx Nx (tkS Sx jx).2.2.2.2 (tkS Sx jx).1 (i4 + 1) ((jx : Int) + 2) nm Tg gs T117 mx rq := ⟨i128, ey ++ es129, my + m130 + 0, mw131, (as ++ [((mw131).pk, (mw131).pv)]), by omega, RDX.nq (RDX.cq fx172 hz210c) (by omega), (NI2.app niy ni135), mg175, mb137, ag174, rd208, hz210⟩
              exact tn_sub [1, 2, 3, 4, 0, 5] rfl (hx_126 T117 (i4 + 1) (i5) σ162 (GT.trans hG gt118) w168 ((((FrC.rfl.trans (FrC.sub hF (by decide))).trans (FrC.sub (FrC.old F124 hG) (by decide))).trans (FrC.sub (FrC.old F155 (GT.trans hG gt118)) (by decide))).trans (FrC.sub (FrC.old F169 (GT.trans hG gt118)) (by decide))) h_a (by omega) (by omega) True.intro True.intro (RP.up rp173 (by omega)) hx205)
          · obtain ⟨⟨pl211, g212, fx213⟩, nf214⟩ := f120.2 (by omega)
            have g212g := g212 (bx) ((tkS Sx jx).2.2.2.2, i4, (tkS Sx jx).1)
            have rf215 : GRF Sx [25] jx 0 (bx) u0 (pl211) := GR.fl (l := [2]) [27, 159] rdy g212g
            exact tn_sub [0, 1, 2, 3, 4, 5] rfl (hx_77 T117 (i4) (i5) σ116 (GT.trans hG gt118) w123 ((FrC.rfl.trans (FrC.sub hF (by decide))).trans (FrC.sub (FrC.old F124 hG) (by decide))) h_a (by omega) (by omega) True.intro True.intro (RP.up f121 (by omega)) ⟨⟨_, rf215, fx213⟩, (FG.tr (sy114).1 nf214)⟩)
set_option maxHeartbeats 1000000 in
set_option maxRecDepth 20000 in
theorem l_X5_call_m_184 (d : Nat) {T : CT} {σ0 : MS} {a : Nat} {Sx : Int → Int} {nx : Nat} {jx : Nat} {cy : CS} {Ny : Int} {Tg : CT} {gs : MS} {mwq : MK} {asq : List (Int × Int)} {rq : Int} {kq : Int} {kp : Int} {post : Option Value → CT → MS → Prop} (h_a : OB T a 5) (hw0 : WT T σ0) (hn0 : 0 ≤ mwq.n) (hkp : kp ≤ 150) (hx_229 : ∀ (i5 : Int) (σ : MS) , (WT T σ) → (FrC T [] σ0 σ) → (0 ≤ i5 ∧ i5 ≤ 4) → (RDX σ a Sx nx jx cy Ny) → (MG Tg gs T σ a (mwq.put (itP rq kq asq i5))) → (ARG σ a asq) → (RP σ a kp) → (4 ≤ i5) → Tn (d + 51) m_X5_call 229 T σ [(0, .ref a), (5, .int (iI i5))] [] post) : ∀ (n : Nat) (i5 : Int) (σ : MS) , (WT T σ) → (FrC T [] σ0 σ) → (0 ≤ i5 ∧ i5 ≤ 4) → (RDX σ a Sx nx jx cy Ny) → (MG Tg gs T σ a (mwq.put (itP rq kq asq i5))) → (ARG σ a asq) → (RP σ a kp) → (2147483700 - i5).toNat = n → Tn (d + 51) m_X5_call 184 T σ [(0, .ref a), (5, .int (iI i5))] [] post := by
  intro n
  induction n using Nat.strongRecOn with
  | _ n ih =>
    intro i5 σ hw hF r_i5 hcy hm2 hag hrp hm
    refine tn_iload dX5_call_184 1 rfl ?_
    refine tn_iconst dX5_call_186 ?_
    refine tn_icmp_ge (tgt := 229) dX5_call_187 (by decide) ⟨by omega, by omega⟩ ⟨by decide, by decide⟩ (fun h1 => ?_) (fun h1 => ?_)
    · exact tn_sub [0, 1] rfl (hx_229 (i5) σ hw (FrC.rfl.trans (FrC.sub hF (by decide))) (by omega) hcy hm2 hag (RP.up hrp (by omega)) (by omega))
    · refine tn_aload_n dX5_call_190 rfl 0 rfl ?_
      obtain ⟨xq2, hx3, hk4⟩ : ∃ x : Nat, σ0.2.1 35 a = (x : Int) ∧ (T x).1 = 31 := wf_35 hw0 h_a
      have hk4o : OB T xq2 1 := ⟨by omega, by rw [hk4]; rfl, by omega⟩
      refine tn_getR (ci := 5) (i := 2) (n := 35) (x := xq2) dX5_call_191 rfl lay_5 (by decide) fl5_47 h_a rfl rfl (rc_F hF (Or.inl (by decide)) (by decide) (hx3)) ?_
      refine tn_iload dX5_call_194 1 rfl ?_
      refine tn_aload_n dX5_call_196 rfl 0 rfl ?_
      obtain ⟨xq6, hx7, hk8, hl9⟩ : ∃ x : Nat, σ0.2.1 49 a = (x : Int) ∧ AR T x 1 8 8 := wf_49 hw0 h_a
      have hk8i : IA T xq6 := by unfold IA; omega
      refine tn_getR (ci := 5) (i := 16) (n := 49) (x := xq6) dX5_call_197 rfl lay_5 (by decide) fl5_43 h_a rfl rfl (rc_F hF (Or.inl (by decide)) (by decide) (hx7)) ?_
      refine tn_iconst dX5_call_200 ?_
      refine tn_iload dX5_call_201 1 rfl ?_
      refine tn_imul dX5_call_203 ?_
      refine tn_callSN (M := m_X5_call) (pc := 204) (ix := 231) (M' := m_X11_at) (As := [.ref xq6, .int (iI (2 * i5))]) (rest := [.int (iI i5), .ref xq2]) dX5_call_204 ok_X11_at stt_X11_at nl5_231 np_X11_at rfl (Nat.le_of_ble_eq_true rfl) (Nat.le_of_ble_eq_true rfl) rfl (k_X11_at (d + 49) (T := T) (σ := σ) (x := xq6) (i := 2 * i5) hk8i (by omega) (by omega) hw ) (fun r10 T12 σ11 gt13 hp => ?_)
      obtain ⟨v17, rfl, rfl, rfl, f14, f15, f16⟩ := hp
      clear gt13
      show Tn _ _ 207 T σ [(0, .ref a), (5, .int (iI i5))] [.int (iI v17), .int (iI i5), .ref xq2] _
      refine tn_aload_n dX5_call_207 rfl 0 rfl ?_
      refine tn_getR (ci := 5) (i := 16) (n := 49) (x := xq6) dX5_call_208 rfl lay_5 (by decide) fl5_43 h_a rfl rfl (rc_F hF (Or.inl (by decide)) (by decide) (hx7)) ?_
      refine tn_iconst dX5_call_211 ?_
      refine tn_iload dX5_call_212 1 rfl ?_
      refine tn_imul dX5_call_214 ?_
      refine tn_iconst dX5_call_215 ?_
      refine tn_iadd dX5_call_216 ?_
      refine tn_callSN (M := m_X5_call) (pc := 217) (ix := 231) (M' := m_X11_at) (As := [.ref xq6, .int (iI ((2 * i5) + 1))]) (rest := [.int (iI v17), .int (iI i5), .ref xq2]) dX5_call_217 ok_X11_at stt_X11_at nl5_231 np_X11_at rfl (Nat.le_of_ble_eq_true rfl) (Nat.le_of_ble_eq_true rfl) rfl (k_X11_at (d + 49) (T := T) (σ := σ) (x := xq6) (i := (2 * i5) + 1) hk8i (by omega) (by omega) hw ) (fun r18 T20 σ19 gt21 hp => ?_)
      obtain ⟨v25, rfl, rfl, rfl, f22, f23, f24⟩ := hp
      clear gt21
      show Tn _ _ 220 T σ [(0, .ref a), (5, .int (iI i5))] [.int (iI v25), .int (iI v17), .int (iI i5), .ref xq2] _
      have c626 : 1 ≤ σ.2.1 6 xq2 := MG.c1 (m := mwq) hm2 (MG.cd hm2 (rc_F hF (Or.inl (by decide)) (by decide) (hx3))) hn0
      refine tn_callV (M := m_X5_call) (pc := 220) (ix := 143) (ci := 1) (M' := m_X1_lastOperand) (As := [.int (iI i5), .int (iI v17), .int (iI v25)]) (rest := []) dX5_call_220 ok_X1_lastOperand im_X1_lastOperand se_X1_lastOperand ml5_143 np_X1_lastOperand rfl rfl hk4o rfl (Nat.le_of_ble_eq_true rfl) (Nat.le_of_ble_eq_true rfl) rfl (k_lastOperand_c (d + 49) (T := T) (σ := σ) (a := xq2) (i := i5) (k := v17) (p := v25) hk4o hk4 (by omega) (by omega) (by omega) hw (by omega) (by omega)) (fun r27 T29 σ28 gt30 hp => ?_)
      obtain ⟨rfl, rfl, w34, F35, f31, f32⟩ := hp
      clear gt30
      have mg36l := ar_of (wf_49 hw h_a) (rc_F hF (Or.inl (by decide)) (by decide) (hx7))
      have mg36q := hag xq6 (rc_F hF (Or.inl (by decide)) (by decide) (hx7)) i5.toNat (by omega)
      have mg36i : ((i5.toNat : Nat) : Int) = i5 := by omega
      rw [mg36i] at mg36q
      have mg36v1 : v17 = (argA asq i5.toNat).1 := by have w9 := f16; unfold ATV at w9; rw [if_pos ⟨by omega, by have z8 := mg36l.2; omega⟩] at w9; rw [w9]; exact mg36q.1
      have mg36v2 : v25 = (argA asq i5.toNat).2 := by have w9 := f24; unfold ATV at w9; rw [if_pos ⟨by omega, by have z8 := mg36l.2; omega⟩] at w9; rw [w9]; exact mg36q.2
      have mg36 : MG Tg gs T σ28 a (mwq.put (itP rq kq asq (i5 + 1))) := MG.lp (m := mwq) hm2 (MG.cd hm2 (show σ.2.1 35 a = (xq2 : Int) from rc_F hF (Or.inl (by decide)) (by decide) (hx3))) f31 f32 (by omega) mg36v1 mg36v2 hn0
      have mg36g : ARG σ28 a asq := ARG.chx hag hw h_a (show σ.2.1 35 a = (xq2 : Int) from rc_F hF (Or.inl (by decide)) (by decide) (hx3)) f31
      have fx37 : RDX σ28 a Sx nx jx (cy) (Ny) := RDX.fc hcy hw h_a F35 (by decide) (by decide)
      have rp38 : RP σ28 a (kp) := RP.frc hrp F35 (by decide) (by decide) (by decide) (by decide) (by decide)
      show Tn _ _ 223 T σ28 [(0, .ref a), (5, .int (iI i5))] [] _
      refine tn_iinc (q0 := 1) (L' := [(5, .int (iI (i5 + 1))), (0, .ref a)]) dX5_call_223 rfl (by decide) rfl ?_
      refine tn_goto (tgt := 184) dX5_call_226 (by decide) ?_
      exact tn_sub [1, 0] rfl (ih _ (by omega) (i5 + 1) σ28 w34 ((FrC.rfl.trans (FrC.sub hF (by decide))).trans (FrC.sub F35 (by decide))) (by omega) fx37 mg36 mg36g (RP.up rp38 (by omega)) rfl)
set_option maxHeartbeats 1000000 in
set_option maxRecDepth 20000 in
theorem k_X5_call_m (d : Nat) {T : CT} {σ : MS} {a : Nat} {r : Int} {kp : Int} {Sx : Int → Int} {nx jx : Nat} {cx : CS} {Nx : Int} {Tg : CT} {gs : MS} {mx : MK} {nm : Int → Int64 → Int} {bx : Int} (ha : OB T a 5) (h_r : -2147483648 ≤ r ∧ r ≤ 2147483647) (hw : WT T σ) (hfx : RDX σ a Sx nx jx cx Nx) (hmg : MG Tg gs T σ a mx) (hmb : MBD mx) (hgf : gs.1 5 = 0) (hk1 : ckd (tkS Sx jx) = 256) (hk2 : ckd (tkS Sx (jx + 1)) = 40) (hpo : 6 * cx.cn + 2 ≤ (jx : Int)) (hkp : kp ≤ 150) (hrp : RP σ a kp) : Tn (d + 51) m_X5_call 0 T σ [(0, .ref a), (1, .int (iI r))] [] (fun ro T2 σ2 => ∃ v : Int, ro = some (.int (iI v)) ∧ WT T2 σ2 ∧ FrC T [5, 6, 7, 42, 43, 44, 47, 50, 51, 84, 85, 86, 87, 518, 519, 520, 521] σ σ2 ∧ (v = 0 ∨ v = 1) ∧ (YQM σ2 a Sx nx bx [25] jx cx (Nx - 1) 2 v nm Tg gs T2 mx (mx.push (8, r, 0, [])) (fun m9 => m9.bd r)) ∧ (RP σ2 a (kp - 7 * v))) := by
  have hSb := hfx.1.sb
  have e45 := hfx.e45
  have hpo9 := hfx.po
  unfold PO at hpo9
  have e42 : σ.2.1 42 a = cx.cn := hfx.1.2.1.1.2.2.2.1
  refine tn_aload_n dX5_call_0 rfl 0 rfl ?_
  obtain ⟨xq1, hx2, hk3⟩ : ∃ x : Nat, σ.2.1 33 a = (x : Int) ∧ (T x).1 = 39 := wf_33 hw ha
  have hk3o : OB T xq1 9 := ⟨by omega, by rw [hk3]; rfl, by omega⟩
  refine tn_getR (ci := 5) (i := 0) (n := 33) (x := xq1) dX5_call_1 rfl lay_5 (by decide) fl5_12 ha rfl rfl (hx2) ?_
  refine tn_getI (ci := 9) (i := 5) (n := 86) (t := σ.2.1 86 xq1) dX5_call_4 rfl lay_9 (by decide) fl5_96 hk3o rfl rfl (rfl) ?_
  have g5 : ((-2147483648 : Int) ≤ σ.2.1 86 xq1 ∧ σ.2.1 86 xq1 ≤ 2147483647) := wf_86 hw hk3o
  have g5ky : NKY (tkS Sx jx) (σ.2.1 86 xq1) := by rw [← show σ.2.1 86 xq1 = σ.2.1 86 xq1 from rfl]; exact (hfx).1.ky (hx2)
  have hkw9 : KW (σ.2.1 86 xq1) (tkS Sx jx).2.2.2.2 := (hfx.1.ky hx2).kw ((ck_nam (tkS_v hSb jx)).mp hk1).1
  have hpl9 : σ.2.1 87 xq1 = (tkS Sx jx).1 := hfx.1.pl hx2
  refine tn_istore_n (L' := [(2, .int (iI (σ.2.1 86 xq1))), (0, .ref a), (1, .int (iI r))]) dX5_call_7 rfl (by decide) rfl ?_
  refine tn_aload_n dX5_call_8 rfl 1 rfl ?_
  refine tn_getR (ci := 5) (i := 0) (n := 33) (x := xq1) dX5_call_9 rfl lay_5 (by decide) fl5_12 ha rfl rfl (hx2) ?_
  refine tn_getI (ci := 9) (i := 6) (n := 87) (t := σ.2.1 87 xq1) dX5_call_12 rfl lay_9 (by decide) fl5_74 hk3o rfl rfl (rfl) ?_
  have g6 : ((-2147483648 : Int) ≤ σ.2.1 87 xq1 ∧ σ.2.1 87 xq1 ≤ 2147483647) := wf_87 hw hk3o
  have g6pl : σ.2.1 87 xq1 = (tkS Sx jx).1 := (rfl).symm.trans ((hfx).1.pl (hx2))
  refine tn_istore_n (L' := [(3, .int (iI (σ.2.1 87 xq1))), (2, .int (iI (σ.2.1 86 xq1))), (0, .ref a), (1, .int (iI r))]) dX5_call_15 rfl (by decide) rfl ?_
  refine tn_aload_n dX5_call_16 rfl 2 rfl ?_
  refine tn_getR (ci := 5) (i := 0) (n := 33) (x := xq1) dX5_call_17 rfl lay_5 (by decide) fl5_12 ha rfl rfl (hx2) ?_
  refine tn_callV (M := m_X5_call) (pc := 20) (ix := 93) (ci := 9) (M' := m_X9_next) (As := []) (rest := []) dX5_call_20 ok_X9_next im_X9_next se_X9_next ml5_93 np_X9_next rfl rfl hk3o rfl (Nat.le_of_ble_eq_true rfl) (Nat.le_of_ble_eq_true rfl) rfl (k_X9_next_m (d + 49) (T := T) (σ := σ) (a := xq1) hk3o hw (RP.tk hrp hw ha (hx2)) ((hfx).1.tk (hx2)) (by rw [(hfx).1.kd (hx2)]; omega)) (fun r7 T9 σ8 gt10 hp => ?_)
  obtain ⟨rfl, rfl, w17, F18, f11, f12, f13, f14, f15⟩ := hp
  clear gt10
  have pc20 : GR Sx [25] jx (0) (bx) u0 [26, 159] (jx + 1) (0) (bx) ((tkS Sx jx).2.2.2.2, 0, (tkS Sx jx).1) 0 [] := x25c hSb hk1 hk2
  have pm21 : CN nm mx.rt (cx) (GW Sx nm rnQ tb1 [25] jx (0) (bx) u0 (mx.push (8, r, 0, [])) [26, 159] (jx + 1) (0) (bx) ((tkS Sx jx).2.2.2.2, 0, (tkS Sx jx).1) 0 ((mx.push (8, r, 0, [])).cl)) := fun hn9 => GW.of (gm25c hSb hk1 hk2) rfl
  have rd220 : GR Sx [25] jx 0 (bx) u0 [25] jx (0) (bx) u0 (0) ([]) := GR.nl
  have rd22 : GR Sx [25] jx 0 (bx) u0 [26, 159] (jx + 1) (0) (bx) ((tkS Sx jx).2.2.2.2, 0, (tkS Sx jx).1) (0 + 0) ([]) := GR.g0 (l := [25]) (ms := [26, 159]) [] rd220 pc20
  have rm230 : CN nm mx.rt (cx) (GW Sx nm rnQ tb1 [25] jx 0 (bx) u0 (mx.push (8, r, 0, [])) [25] jx (0) (bx) u0 (0) (mx.push (8, r, 0, []))) := fun _ => GW.nl
  have rm23 : CN nm mx.rt (cx) (GW Sx nm rnQ tb1 [25] jx 0 (bx) u0 (mx.push (8, r, 0, [])) [26, 159] (jx + 1) (0) (bx) ((tkS Sx jx).2.2.2.2, 0, (tkS Sx jx).1) (0 + 0) ((mx.push (8, r, 0, [])).cl)) := CN.gg (l := [25]) (ms := [26, 159]) [] rm230 (fun q9 => q9) pm21
  have fx19 : RDX σ8 a Sx nx (jx + 1) (cx) (Nx) := RDX.nx hfx hw ha (hx2) F18 f14
  have rp24 : RP σ8 a (kp) := RP.next hrp (hx2) F18 (by decide) (by decide) (by decide) f11 f12
  show Tn _ _ 23 T σ8 [(3, .int (iI (σ.2.1 87 xq1))), (2, .int (iI (σ.2.1 86 xq1))), (0, .ref a), (1, .int (iI r))] [] _
  refine tn_aload_n dX5_call_23 rfl 2 rfl ?_
  refine tn_getR (ci := 5) (i := 0) (n := 33) (x := xq1) dX5_call_24 rfl lay_5 (by decide) fl5_12 ha rfl rfl (rc_F F18 (Or.inl (by decide)) (by decide) (hx2)) ?_
  refine tn_callV (M := m_X5_call) (pc := 27) (ix := 93) (ci := 9) (M' := m_X9_next) (As := []) (rest := []) dX5_call_27 ok_X9_next im_X9_next se_X9_next ml5_93 np_X9_next rfl rfl hk3o rfl (Nat.le_of_ble_eq_true rfl) (Nat.le_of_ble_eq_true rfl) rfl (k_X9_next_m (d + 49) (T := T) (σ := σ8) (a := xq1) hk3o w17 (RP.tk rp24 w17 ha (rc_F F18 (Or.inl (by decide)) (by decide) (hx2))) ((fx19).1.tk (rc_F F18 (Or.inl (by decide)) (by decide) (hx2))) (by rw [(fx19).1.kd (rc_F F18 (Or.inl (by decide)) (by decide) (hx2))]; omega)) (fun r25 T27 σ26 gt28 hp => ?_)
  obtain ⟨rfl, rfl, w35, F36, f29, f30, f31, f32, f33⟩ := hp
  clear gt28
  have mg37 : MG Tg gs T σ8 a mx := (MG.tk hmg (hx2) f15)
  have fx38 : RDX σ26 a Sx nx ((jx + 1) + 1) (cx) (Nx) := RDX.nx fx19 w17 ha (rc_F F18 (Or.inl (by decide)) (by decide) (hx2)) F36 f32
  have rp39 : RP σ26 a (kp) := RP.next rp24 (rc_F F18 (Or.inl (by decide)) (by decide) (hx2)) F36 (by decide) (by decide) (by decide) f29 f30
  show Tn _ _ 30 T σ26 [(3, .int (iI (σ.2.1 87 xq1))), (2, .int (iI (σ.2.1 86 xq1))), (0, .ref a), (1, .int (iI r))] [] _
  refine tn_iconst dX5_call_30 ?_
  refine tn_istore (L' := [(4, .int (iI 0)), (3, .int (iI (σ.2.1 87 xq1))), (2, .int (iI (σ.2.1 86 xq1))), (0, .ref a), (1, .int (iI r))]) dX5_call_31 (by decide) rfl ?_
  refine tn_aload_n dX5_call_33 rfl 3 rfl ?_
  obtain ⟨xq40, hx41, hk42, hl43⟩ : ∃ x : Nat, σ.2.1 49 a = (x : Int) ∧ AR T x 1 8 8 := wf_49 hw ha
  have hk42i : IA T xq40 := by unfold IA; omega
  refine tn_getR (ci := 5) (i := 16) (n := 49) (x := xq40) dX5_call_34 rfl lay_5 (by decide) fl5_43 ha rfl rfl (rc_F F36 (Or.inl (by decide)) (by decide) (rc_F F18 (Or.inl (by decide)) (by decide) (hx41))) ?_
  refine tn_iconst dX5_call_37 ?_
  refine tn_callS (M := m_X5_call) (pc := 38) (ix := 222) (M' := m_J7_fill_53178) (As := [.ref xq40, .int (iI 0)]) (rest := []) dX5_call_38 ok_J7_fill_53178 stt_J7_fill_53178 ml5_222 np_J7_fill_53178 rfl (Nat.le_of_ble_eq_true rfl) (Nat.le_of_ble_eq_true rfl) rfl (k_J7_fill_53178_x (d + 49) (T := T) (σ := σ26) (x := xq40) (y := 0) hk42i (by omega) (by decide) w35 (nh_k hk42 (by unfold HT; omega)) (by omega)) (fun r44 T46 σ45 gt47 hp => ?_)
  obtain ⟨rfl, rfl, w51, F52, f48, f49⟩ := hp
  clear gt47
  have mg53 : MG Tg gs T σ26 a mx := (MG.tk mg37 (rc_F F18 (Or.inl (by decide)) (by decide) (hx2)) f33)
  have ar54 := ar_of (wf_49 w35 ha) (rc_F F36 (Or.inl (by decide)) (by decide) (rc_F F18 (Or.inl (by decide)) (by decide) (hx41)))
  have ar54r : xq40 ∈ RRS gs a ∧ xq40 ≠ adN σ26 5 (adN gs 35 a) := MG.rr mg53 w35 ha (by decide) (rc_F F36 (Or.inl (by decide)) (by decide) (rc_F F18 (Or.inl (by decide)) (by decide) (hx41))) ar54 (by decide) hgf
  have fx55 : RDX σ45 a Sx nx ((jx + 1) + 1) (cx) (Nx) := RDX.fc fx38 w35 ha F52 (by decide) (by decide)
  have rp56 : RP σ45 a (kp) := RP.frc rp39 F52 (by decide) (by decide) (by decide) (by decide) (by decide)
  show Tn _ _ 41 T σ45 [(4, .int (iI 0)), (3, .int (iI (σ.2.1 87 xq1))), (2, .int (iI (σ.2.1 86 xq1))), (0, .ref a), (1, .int (iI r))] [] _
  refine tn_iconst dX5_call_41 ?_
  refine tn_istore (L' := [(5, .int (iI 0)), (4, .int (iI 0)), (3, .int (iI (σ.2.1 87 xq1))), (2, .int (iI (σ.2.1 86 xq1))), (0, .ref a), (1, .int (iI r))]) dX5_call_42 (by decide) rfl ?_
  have mg58 : MG Tg gs T σ45 a mx := (MG.chx mg53 f48 (fun _ q9 => absurd q9 (by simp)) (fun z9 q9 => by rw [List.mem_singleton.mp q9]; exact ar54r))
  have hx57g : ARG σ45 a [] := (ARG.nil (T := T) (rc_F F36 (Or.inl (by decide)) (by decide) (rc_F F18 (Or.inl (by decide)) (by decide) (hx41))) f48 (by have z9 := ar54.2; omega) f49)
  have hx57e : ((mx.push (8, r, 0, [])).cl) = (mx).on (mx.push (9, r, 0, [])) := rfl
  have hx57a : ((0 : Int) = 0 ∧ ckd (tkS Sx ((jx + 1) + 1)) = 41) → GR Sx [25] jx 0 bx u0 [38, 141, 159] ((jx + 1) + 1) 0 bx ((tkS Sx jx).2.2.2.2, 0, (tkS Sx jx).1) (0 + 0 + 0) [] ∧ CN nm mx.rt ([].foldl uC cx) (GW Sx nm rnQ tb1 [25] jx 0 bx u0 (mx.push (8, r, 0, [])) [38, 141, 159] ((jx + 1) + 1) 0 bx ((tkS Sx jx).2.2.2.2, 0, (tkS Sx jx).1) (0 + 0 + 0) ((mx).on (mx.push (9, r, 0, [])))) := fun q => ⟨GR.g0 (l := [26]) (ms := [38, 141]) [159] rd22 (x26y hSb q.2), by
    have q9 := CN.gg (l := [26]) (ms := [38, 141]) [159] rm23 (fun q9 => q9) (fun _ => GW.of (gm26y hSb q.2) rfl)
    rw [hx57e] at q9
    exact q9⟩
  have hx57b : ¬ ((0 : Int) = 0 ∧ ckd (tkS Sx ((jx + 1) + 1)) = 41) → GR Sx [25] jx 0 bx u0 [2, 27, 159] ((jx + 1) + 1) 0 bx ((tkS Sx jx).2.2.2.2, 0, (tkS Sx jx).1) (0 + 0 + 0) [] ∧ CN nm mx.rt ([].foldl uC cx) (GW Sx nm rnQ tb1 [25] jx 0 bx u0 (mx.push (8, r, 0, [])) [2, 27, 159] ((jx + 1) + 1) 0 bx ((tkS Sx jx).2.2.2.2, 0, (tkS Sx jx).1) (0 + 0 + 0) ((mx).on (mx.push (9, r, 0, [])))) := fun q => ⟨GR.g0 (l := [26]) (ms := [2, 27]) [159] rd22 (x26n hSb (fun w => q ⟨rfl, w⟩)), by
    have q9 := CN.gg (l := [26]) (ms := [2, 27]) [159] rm23 (fun q9 => q9) (fun _ => GW.of (gm26n hSb (fun w => q ⟨rfl, w⟩)) rfl)
    rw [hx57e] at q9
    exact q9⟩
  have hx57 : CLW σ45 a Sx nx bx jx cx Nx (tkS Sx jx).2.2.2.2 (tkS Sx jx).1 (0) ((jx : Int) + 2 + (0)) nm Tg gs T mx r := ⟨((jx + 1) + 1), [], 0 + 0 + 0, mx, [], by omega, RDX.nq fx55 (by omega), NI2.nil, mg58, hmb, rfl, hx57g, hx57a, hx57b⟩
  refine tn_sub [4, 5, 3, 2, 1, 0] rfl (l_X5_call_m_44 (d) (σ0 := σ45) (T0 := T) (a := a) (c1 := r) (c2 := σ.2.1 86 xq1) (c3 := σ.2.1 87 xq1) (kp := kp) (Sx := Sx) (nx := nx) (jx := jx) (cx := cx) (Nx := Nx) (nm := nm) (Tg := Tg) (gs := gs) (mx := mx) (bx := bx) (rq := r) (by omega) (by omega) (by omega) w51 hgf (by omega) (fun T62 i459 i560 σ61 gt63 w64 F65 q66 r67 r68 f69 f70 f71 f72 => ?_) (fun T76 i473 i574 σ75 gt77 w78 F79 q80 r81 r82 f83 f84 f85 f86 => ?_) (fun T90 i487 i588 σ89 gt91 w92 F93 q94 r95 r96 f97 f98 f99 f100 => ?_) _ T (0) (0) σ45 GT.rfl w51 FrC.rfl ha (by omega) (by omega) (by omega) hx57 rp56 rfl)
  · show Tn _ _ 77 T62 σ61 [(0, .ref a), (1, .int (iI r)), (2, .int (iI (σ.2.1 86 xq1))), (3, .int (iI (σ.2.1 87 xq1))), (4, .int (iI i459)), (5, .int (iI i560))] [] _
    refine tn_iconst dX5_call_77 ?_
    exact tn_zret (v := 0) rfl (by decide) dX5_call_78 ⟨_, rfl, w64, ((((FrC.rfl.trans (FrC.sub F18 (by decide))).trans (FrC.sub F36 (by decide))).trans (FrC.sub F52 (by decide))).trans (FrC.sub F65 (by decide))), by omega, ⟨fun q => absurd q (by decide), fun _ => f72⟩, (RP.up f71 (by omega))⟩
  · obtain ⟨i101, es102, m103, mw104, as105, lo106, fx107, ni108, mgq109, mb110, ag111, rr112, cn113⟩ := f86
    show Tn _ _ 126 T76 σ75 [(0, .ref a), (1, .int (iI r)), (2, .int (iI (σ.2.1 86 xq1))), (3, .int (iI (σ.2.1 87 xq1))), (4, .int (iI i473)), (5, .int (iI i574))] [] _
    refine tn_goto (tgt := 142) dX5_call_126 (by decide) ?_
    refine tn_aload_n dX5_call_142 rfl 0 rfl ?_
    refine tn_bipush dX5_call_143 (by decide) ?_
    refine tn_callV (M := m_X5_call) (pc := 145) (ix := 102) (ci := 5) (M' := m_X5_taken) (As := [.int (iI 41)]) (rest := []) dX5_call_145 ok_X5_taken im_X5_taken se_X5_taken ml5_102 np_X5_taken rfl rfl q80 rfl (Nat.le_of_ble_eq_true rfl) (Nat.le_of_ble_eq_true rfl) rfl (k_X5_taken_m (d + 48) (T := T76) (σ := σ75) (a := a) (s := 41) (kp := kp) (Tg := T76) (gs := flg σ75) (mx := mw104) q80 (by decide) w78 (by omega) fx107 (MG.fl mgq109) (by omega) f85) (fun r114 T116 σ115 gt117 hp => ?_)
    obtain ⟨v122, rfl, rfl, w123, F124, f118, f119, f120, f121⟩ := hp
    clear gt117
    have ag125 : ARG σ115 a as105 := (ARG.fg ag111 w78 q80 f120)
    have pc126 : GR Sx [38] i101 (0) (bx) ((tkS Sx jx).2.2.2.2, i473, (tkS Sx jx).1) [] i101 (0) (bx) u0 2 [(1, ((tkS Sx jx).2.2.2.2, i473, (tkS Sx jx).1).2.2, ((tkS Sx jx).2.2.2.2, i473, (tkS Sx jx).1).2.1, ((tkS Sx jx).2.2.2.2, i473, (tkS Sx jx).1).1)] := x38 hSb 
    have pm127 : CN nm mx.rt (es102.foldl uC cx) (GW Sx nm rnQ tb1 [38] i101 (0) (bx) ((tkS Sx jx).2.2.2.2, i473, (tkS Sx jx).1) (mw104.on (mx.push (9, r, 0, as105))) [] i101 (0) (bx) u0 2 ((mw104.on (mx.push (9, r, 0, as105))).cal rnQ ((tkS Sx jx).2.2.2.2, i473, (tkS Sx jx).1).1)) := fun hn9 => GW.of (gm38 hSb ) rfl
    have rd128 : GR Sx [25] jx 0 (bx) u0 [141, 159] i101 (0) (bx) u0 (m103 + 2) (es102 ++ [(1, ((tkS Sx jx).2.2.2.2, i473, (tkS Sx jx).1).2.2, ((tkS Sx jx).2.2.2.2, i473, (tkS Sx jx).1).2.1, ((tkS Sx jx).2.2.2.2, i473, (tkS Sx jx).1).1)]) := GR.gg (l := [38]) (ms := []) [141, 159] rr112 pc126
    have rm129 : CN nm mx.rt (es102.foldl uC cx) (GW Sx nm rnQ tb1 [25] jx 0 (bx) u0 (mx.push (8, r, 0, [])) [141, 159] i101 (0) (bx) u0 (m103 + 2) ((mw104.on (mx.push (9, r, 0, as105))).cal rnQ ((tkS Sx jx).2.2.2.2, i473, (tkS Sx jx).1).1)) := CN.gg (l := [38]) (ms := []) [141, 159] cn113 (fun q9 => q9) pm127
    show Tn _ _ 148 T76 σ115 [(0, .ref a), (1, .int (iI r)), (2, .int (iI (σ.2.1 86 xq1))), (3, .int (iI (σ.2.1 87 xq1))), (4, .int (iI i473)), (5, .int (iI i574))] [.int (iI v122)] _
    refine tn_if_eq (tgt := 160) dX5_call_148 (by decide) ⟨by omega, by omega⟩ (fun h131 => ?_) (fun h131 => ?_)
    · refine tn_iconst dX5_call_160 ?_
      obtain ⟨kd134, fx135, tk136⟩ := f119.2 (by omega)
      have pc137 : GRF Sx [141] i101 (0) (bx) u0 (tkS Sx i101).1 := z41 hSb kd134
      have rf138 : GRF Sx [25] jx 0 (bx) u0 ((tkS Sx i101).1) := GR.fl (l := [141]) [159] rd128 pc137
      have mg139 : MG Tg gs T76 σ115 a mw104 := (MG.tr mgq109 f120)
      have rb133 : YF σ115 a Sx bx [25] jx ∧ FG Tg gs T76 σ115 a := ⟨⟨_, rf138, fx135⟩, (mg139).1⟩
      exact tn_zret (v := 0) rfl (by decide) dX5_call_161 ⟨_, rfl, w123, (((((FrC.rfl.trans (FrC.sub F18 (by decide))).trans (FrC.sub F36 (by decide))).trans (FrC.sub F52 (by decide))).trans (FrC.sub F79 (by decide))).trans (FrC.sub (FrC.old F124 gt77) (by decide))), by omega, ⟨fun q => absurd q (by decide), fun _ => rb133⟩, (RP.up f121 (by omega))⟩
    · refine tn_aload_n dX5_call_151 rfl 0 rfl ?_
      refine tn_bipush dX5_call_152 (by decide) ?_
      obtain ⟨kd141, fx140⟩ := f119.1 (by omega)
      have pc142 : GR Sx [141] i101 (0) (bx) u0 [] (i101 + 1) (0) (bx) u0 0 [] := y41 hSb kd141
      have pm143 : CN nm mx.rt (es102.foldl uC cx) (GW Sx nm rnQ tb1 [141] i101 (0) (bx) u0 ((mw104.on (mx.push (9, r, 0, as105))).cal rnQ ((tkS Sx jx).2.2.2.2, i473, (tkS Sx jx).1).1) [] (i101 + 1) (0) (bx) u0 0 ((mw104.on (mx.push (9, r, 0, as105))).cal rnQ ((tkS Sx jx).2.2.2.2, i473, (tkS Sx jx).1).1)) := fun _ => GW.of (gmy41 hSb kd141) rfl
      have rd144 : GR Sx [25] jx 0 (bx) u0 [159] (i101 + 1) (0) (bx) u0 (m103 + 2 + 0) (es102 ++ [(1, ((tkS Sx jx).2.2.2.2, i473, (tkS Sx jx).1).2.2, ((tkS Sx jx).2.2.2.2, i473, (tkS Sx jx).1).2.1, ((tkS Sx jx).2.2.2.2, i473, (tkS Sx jx).1).1)]) := GR.g0 (l := [141]) (ms := []) [159] rd128 pc142
      have rm145 : CN nm mx.rt (es102.foldl uC cx) (GW Sx nm rnQ tb1 [25] jx 0 (bx) u0 (mx.push (8, r, 0, [])) [159] (i101 + 1) (0) (bx) u0 (m103 + 2 + 0) ((mw104.on (mx.push (9, r, 0, as105))).cal rnQ ((tkS Sx jx).2.2.2.2, i473, (tkS Sx jx).1).1)) := CN.gg (l := [141]) (ms := []) [159] rm129 (fun q9 => q9) pm143
      have mg146 : MG Tg gs T76 σ115 a mw104 := (MG.tr mgq109 f120)
      refine tn_callV (M := m_X5_call) (pc := 154) (ix := 102) (ci := 5) (M' := m_X5_taken) (As := [.int (iI 59)]) (rest := []) dX5_call_154 ok_X5_taken im_X5_taken se_X5_taken ml5_102 np_X5_taken rfl rfl q80 rfl (Nat.le_of_ble_eq_true rfl) (Nat.le_of_ble_eq_true rfl) rfl (k_X5_taken_m (d + 48) (T := T76) (σ := σ115) (a := a) (s := 59) (kp := kp - 4 * v122) (Tg := T76) (gs := flg σ115) (mx := mw104) q80 (by decide) w123 (by omega) fx140 (MG.fl mg146) (by omega) f121) (fun r147 T149 σ148 gt150 hp => ?_)
      obtain ⟨v155, rfl, rfl, w156, F157, f151, f152, f153, f154⟩ := hp
      clear gt150
      have ag158 : ARG σ148 a as105 := (ARG.fg ag125 w123 q80 f153)
      show Tn _ _ 157 T76 σ148 [(0, .ref a), (1, .int (iI r)), (2, .int (iI (σ.2.1 86 xq1))), (3, .int (iI (σ.2.1 87 xq1))), (4, .int (iI i473)), (5, .int (iI i574))] [.int (iI v155)] _
      refine tn_if_ne (tgt := 162) dX5_call_157 (by decide) ⟨by omega, by omega⟩ (fun h160 => ?_) (fun h160 => ?_)
      · refine tn_aload_n dX5_call_162 rfl 0 rfl ?_
        refine tn_iload_n dX5_call_163 rfl 2 rfl ?_
        refine tn_iload_n dX5_call_164 rfl 3 rfl ?_
        refine tn_iload dX5_call_165 4 rfl ?_
        obtain ⟨kd162, fx161⟩ := f152.1 (by omega)
        have pc163 : GR Sx [159] (i101 + 1) (0) (bx) u0 [] ((i101 + 1) + 1) (0) (bx) u0 0 [] := y59 hSb kd162
        have pm164 : CN nm mx.rt (es102.foldl uC cx) (GW Sx nm rnQ tb1 [159] (i101 + 1) (0) (bx) u0 ((mw104.on (mx.push (9, r, 0, as105))).cal rnQ ((tkS Sx jx).2.2.2.2, i473, (tkS Sx jx).1).1) [] ((i101 + 1) + 1) (0) (bx) u0 0 ((mw104.on (mx.push (9, r, 0, as105))).cal rnQ ((tkS Sx jx).2.2.2.2, i473, (tkS Sx jx).1).1)) := fun _ => GW.of (gmy59 hSb kd162) rfl
        have rd165 : GR Sx [25] jx 0 (bx) u0 [] ((i101 + 1) + 1) (0) (bx) u0 (m103 + 2 + 0 + 0) (es102 ++ [(1, ((tkS Sx jx).2.2.2.2, i473, (tkS Sx jx).1).2.2, ((tkS Sx jx).2.2.2.2, i473, (tkS Sx jx).1).2.1, ((tkS Sx jx).2.2.2.2, i473, (tkS Sx jx).1).1)]) := GR.g0 (l := [159]) (ms := []) [] rd144 pc163
        have rm166 : CN nm mx.rt (es102.foldl uC cx) (GW Sx nm rnQ tb1 [25] jx 0 (bx) u0 (mx.push (8, r, 0, [])) [] ((i101 + 1) + 1) (0) (bx) u0 (m103 + 2 + 0 + 0) ((mw104.on (mx.push (9, r, 0, as105))).cal rnQ ((tkS Sx jx).2.2.2.2, i473, (tkS Sx jx).1).1)) := CN.gg (l := [159]) (ms := []) [] rm145 (fun q9 => q9) pm164
        have q42167 : (es102.foldl uC cx).cn = σ.2.1 42 a := (fx161.1.2.1.1.2.2.2.1).symm.trans (rc_F F157 (Or.inl (by decide)) (by decide) (rc_F F124 (Or.inl (by decide)) (by decide) (rc_F F79 (Or.inl (by decide)) (by decide) (rc_F F52 (Or.inl (by decide)) (by decide) (rc_F F36 (Or.inl (by decide)) (by decide) (rc_F F18 (Or.inl (by decide)) (by decide) (rfl)))))))
        refine tn_callV (M := m_X5_call) (pc := 167) (ix := 228) (ci := 5) (M' := m_X5_listCall) (As := [.int (iI (σ.2.1 86 xq1)), .int (iI (σ.2.1 87 xq1)), .int (iI i473)]) (rest := []) dX5_call_167 ok_X5_listCall im_X5_listCall se_X5_listCall ml5_228 np_X5_listCall rfl rfl q80 rfl (Nat.le_of_ble_eq_true rfl) (Nat.le_of_ble_eq_true rfl) rfl (k_X5_listCall_m (d + 48) (T := T76) (σ := σ148) (a := a) (k := σ.2.1 86 xq1) (p := σ.2.1 87 xq1) (m := i473) q80 (by omega) (by omega) (by omega) w156 fx161 hkw9 (by rw [q42167]; omega)) (fun r168 T170 σ169 gt171 hp => ?_)
        obtain ⟨rfl, rfl, w175, F176, f172, f173⟩ := hp
        clear gt171
        have mg177 : MG Tg gs T76 σ148 a mw104 := (MG.tr mg146 f153)
        have ag178 : ARG σ169 a as105 := (ARG.ls ag158 w156 q80 f173)
        have rp179 : RP σ169 a (kp - 4 * v122 - 4 * v155) := RP.frc f154 F176 (by decide) (by decide) (by decide) (by decide) (by decide)
        have fx180 : RDX σ169 a Sx nx ((i101 + 1) + 1) (uC (es102.foldl uC cx) (1, (tkS Sx jx).1, i473, (tkS Sx jx).2.2.2.2)) (Nx + m103) := by have q9 := f172; rw [hpl9] at q9; exact q9
        show Tn _ _ 170 T76 σ169 [(0, .ref a), (1, .int (iI r)), (2, .int (iI (σ.2.1 86 xq1))), (3, .int (iI (σ.2.1 87 xq1))), (4, .int (iI i473)), (5, .int (iI i574))] [] _
        refine tn_aload_n dX5_call_170 rfl 0 rfl ?_
        obtain ⟨xq181, hx182, hk183⟩ : ∃ x : Nat, σ75.2.1 35 a = (x : Int) ∧ (T76 x).1 = 31 := wf_35 w78 q80
        have hk183o : OB T76 xq181 1 := ⟨by omega, by rw [hk183]; rfl, by omega⟩
        refine tn_getR (ci := 5) (i := 2) (n := 35) (x := xq181) dX5_call_171 rfl lay_5 (by decide) fl5_47 q80 rfl rfl (rc_F F176 (Or.inl (by decide)) (by decide) (rc_F F157 (Or.inl (by decide)) (by decide) (rc_F F124 (Or.inl (by decide)) (by decide) (hx182)))) ?_
        refine tn_bipush dX5_call_174 (by decide) ?_
        refine tn_iload_n dX5_call_176 rfl 1 rfl ?_
        refine tn_iload_n dX5_call_177 rfl 2 rfl ?_
        refine tn_callV (M := m_X5_call) (pc := 178) (ix := 139) (ci := 1) (M' := m_X1_append) (As := [.int (iI 10), .int (iI r), .int (iI (σ.2.1 86 xq1))]) (rest := []) dX5_call_178 ok_X1_append im_X1_append se_X1_append ml5_139 np_X1_append rfl rfl hk183o rfl (Nat.le_of_ble_eq_true rfl) (Nat.le_of_ble_eq_true rfl) rfl (k_append_c (d + 47) (T := T76) (σ := σ169) (a := xq181) (k := 10) (p := r) (q := σ.2.1 86 xq1) hk183o hk183 (by decide) (by omega) (by omega) w175 (RP.cnt rp179 w175 q80 (rc_F F176 (Or.inl (by decide)) (by decide) (rc_F F157 (Or.inl (by decide)) (by decide) (rc_F F124 (Or.inl (by decide)) (by decide) (hx182)))) (by omega)) (by omega)) (fun r185 T187 σ186 gt188 hp => ?_)
        obtain ⟨rfl, w193, F194, f189, f190, f191⟩ := hp
        have mg195 : MG Tg gs T76 σ169 a mw104 := (MG.ls mg177 w156 q80 hgf f173)
        have obq196 : OB T76 a 5 := q80
        have nn197 : 0 ≤ (mw104).n := by have z7 : WT T76 σ169 := w175; have z6 : σ169.2.1 35 a = (xq181 : Int) := rc_F F176 (Or.inl (by decide)) (by decide) (rc_F F157 (Or.inl (by decide)) (by decide) (rc_F F124 (Or.inl (by decide)) (by decide) (hx182))); have z9 := wf_6 z7 (code_ob z7 q80 z6); have z8 := MG.e6 mg195 (MG.cd mg195 z6); omega
        have a35198 : σ169.2.1 35 a = (xq181 : Int) := rc_F F176 (Or.inl (by decide)) (by decide) (rc_F F157 (Or.inl (by decide)) (by decide) (rc_F F124 (Or.inl (by decide)) (by decide) (hx182)))
        have fx199 : RDX σ186 a Sx nx ((i101 + 1) + 1) (uC (es102.foldl uC cx) (1, (tkS Sx jx).1, i473, (tkS Sx jx).2.2.2.2)) (Nx + m103 + 1) := RDX.ap fx180 w175 q80 (rc_F F176 (Or.inl (by decide)) (by decide) (rc_F F157 (Or.inl (by decide)) (by decide) (rc_F F124 (Or.inl (by decide)) (by decide) (hx182)))) F194 f189
        replace q80 : OB T187 a 5 := gt188.ob q80
        have rp200 : RP σ186 a (kp - 4 * v122 - 4 * v155 + 1) := RP.app rp179 (rc_F F176 (Or.inl (by decide)) (by decide) (rc_F F157 (Or.inl (by decide)) (by decide) (rc_F F124 (Or.inl (by decide)) (by decide) (hx182)))) F194 (by decide) (by decide) (by decide) (by decide) f189
        have mg201 : MG Tg gs T187 σ186 a ((mw104).put (rwI (10) (r) (σ.2.1 86 xq1))) := MG.app mg195 (MG.cd mg195 a35198) gt188 f189 f190 f191 (by omega)
        have mg201p : MG Tg gs T187 σ186 a ((mw104).put (itP r (σ.2.1 86 xq1) as105 0)) := by rw [itP_0]; exact mg201
        have mg201pg : ARG σ186 a as105 := ARG.chn ag178 w175 obq196 a35198 f190
        show Tn _ _ 181 T187 σ186 [(0, .ref a), (1, .int (iI r)), (2, .int (iI (σ.2.1 86 xq1))), (3, .int (iI (σ.2.1 87 xq1))), (4, .int (iI i473)), (5, .int (iI i574))] [] _
        refine tn_iconst dX5_call_181 ?_
        refine tn_istore (L' := [(5, .int (iI 0)), (0, .ref a), (1, .int (iI r)), (2, .int (iI (σ.2.1 86 xq1))), (3, .int (iI (σ.2.1 87 xq1))), (4, .int (iI i473))]) dX5_call_182 (by decide) rfl ?_
        refine tn_sub [1, 0] rfl (l_X5_call_m_184 (d) (T := T187) (σ0 := σ186) (a := a) (kp := kp - 4 * v122 - 4 * v155 + 1) (Sx := Sx) (nx := nx) (jx := ((i101 + 1) + 1)) (cy := uC (es102.foldl uC cx) (1, (tkS Sx jx).1, i473, (tkS Sx jx).2.2.2.2)) (Ny := Nx + m103 + 1) (Tg := Tg) (gs := gs) (mwq := mw104) (asq := as105) (rq := r) (kq := σ.2.1 86 xq1) q80 w193 (show 0 ≤ (mw104).n from nn197) (by omega) (fun i5202 σ203 w206 F207 r208 f209 f210 f211 f212 f213 => ?_) _ (0) σ186 w193 FrC.rfl (by omega) fx199 mg201p mg201pg rp200 rfl)
        show Tn _ _ 229 T187 σ203 [(0, .ref a), (5, .int (iI i5202))] [] _
        refine tn_iconst dX5_call_229 ?_
        have mg214 : MG Tg gs T187 σ203 a ((mw104).put (itC r (rnQ (tkS Sx jx).2.2.2.2) as105)) := by
          have q9 := f210
          rw [show i5202 = 4 by omega, itP_4, ← rnQ_of hkw9] at q9
          exact q9
        have hz219e : ((mw104.on (mx.push (9, r, 0, as105))).cal rnQ ((tkS Sx jx).2.2.2.2, i473, (tkS Sx jx).1).1) = ((((mw104).put (itC r (rnQ (tkS Sx jx).2.2.2.2) as105))).bd r).on mx := rfl
        have hz219c : (uC (es102.foldl uC cx) (1, (tkS Sx jx).1, i473, (tkS Sx jx).2.2.2.2)) = (es102 ++ [(1, ((tkS Sx jx).2.2.2.2, i473, (tkS Sx jx).1).2.2, ((tkS Sx jx).2.2.2.2, i473, (tkS Sx jx).1).2.1, ((tkS Sx jx).2.2.2.2, i473, (tkS Sx jx).1).1)]).foldl uC cx := (by simp only [List.foldl_append, List.foldl_cons, List.foldl_nil])
        have hz219 : CN nm mx.rt ((es102 ++ [(1, ((tkS Sx jx).2.2.2.2, i473, (tkS Sx jx).1).2.2, ((tkS Sx jx).2.2.2.2, i473, (tkS Sx jx).1).2.1, ((tkS Sx jx).2.2.2.2, i473, (tkS Sx jx).1).1)]).foldl uC cx) (GW Sx nm rnQ tb1 [25] jx 0 (bx) u0 (mx.push (8, r, 0, [])) [] ((i101 + 1) + 1) (0) (bx) u0 (m103 + 2 + 0 + 0) (((((mw104).put (itC r (rnQ (tkS Sx jx).2.2.2.2) as105))).bd r).on mx)) := by
          have q9 := CN.up (c2 := uC (es102.foldl uC cx) (1, (tkS Sx jx).1, i473, (tkS Sx jx).2.2.2.2)) rm166 (fun q9 => (fun q9 => q9) (NMA.up (show (1 : Int) ≠ 2 by decide) q9))
          rw [hz219e, hz219c] at q9
          exact q9
        have fe220 := RDX.nq (M := (Nx - 1) + (m103 + 2 + 0 + 0)) (RDX.cq (c2 := (es102 ++ [(1, ((tkS Sx jx).2.2.2.2, i473, (tkS Sx jx).1).2.2, ((tkS Sx jx).2.2.2.2, i473, (tkS Sx jx).1).2.1, ((tkS Sx jx).2.2.2.2, i473, (tkS Sx jx).1).1)]).foldl uC cx) f209 hz219c) (by omega)
        have fe220m : ((es102 ++ [(1, ((tkS Sx jx).2.2.2.2, i473, (tkS Sx jx).1).2.2, ((tkS Sx jx).2.2.2.2, i473, (tkS Sx jx).1).2.1, ((tkS Sx jx).2.2.2.2, i473, (tkS Sx jx).1).1)]).foldl uC cx).m = σ.2.1 45 a := (fe220.e45).symm.trans (rc_F F207 (Or.inl (by decide)) (by decide) (rc_F F194 (Or.inl (by decide)) (by decide) (rc_F F176 (Or.inl (by decide)) (by decide) (rc_F F157 (Or.inl (by decide)) (by decide) (rc_F F124 (Or.inl (by decide)) (by decide) (rc_F F79 (Or.inl (by decide)) (by decide) (rc_F F52 (Or.inl (by decide)) (by decide) (rc_F F36 (Or.inl (by decide)) (by decide) (rc_F F18 (Or.inl (by decide)) (by decide) (rfl))))))))))
        have ra217 : YSM σ203 a Sx nx bx [25] jx cx (Nx - 1) bx [] ((jx : Int) + 2) nm Tg gs T187 mx (mx.push (8, r, 0, [])) (fun m9 => m9.bd r) := ⟨((i101 + 1) + 1), es102 ++ [(1, ((tkS Sx jx).2.2.2.2, i473, (tkS Sx jx).1).2.2, ((tkS Sx jx).2.2.2.2, i473, (tkS Sx jx).1).2.1, ((tkS Sx jx).2.2.2.2, i473, (tkS Sx jx).1).1)], m103 + 2 + 0 + 0, ((mw104).put (itC r (rnQ (tkS Sx jx).2.2.2.2) as105)), (by omega), rd165, fe220, by rw [fe220m]; omega, (NI2.app ni108 (NI2.one (show (1 : Int) ≠ 2 by decide))), mg214, (MBD.put mb110), hz219⟩
        exact tn_zret (v := 1) rfl (by decide) dX5_call_230 ⟨_, rfl, w206, (((((((((FrC.rfl.trans (FrC.sub F18 (by decide))).trans (FrC.sub F36 (by decide))).trans (FrC.sub F52 (by decide))).trans (FrC.sub F79 (by decide))).trans (FrC.sub (FrC.old F124 gt77) (by decide))).trans (FrC.sub (FrC.old F157 gt77) (by decide))).trans (FrC.sub (FrC.old F176 gt77) (by decide))).trans (FrC.sub (FrC.old F194 gt77) (by decide))).trans (FrC.sub (FrC.old F207 (GT.trans gt77 gt188)) (by decide))), by omega, ⟨fun _ => ra217, fun q => absurd q (by decide)⟩, (RP.up f212 (by omega))⟩
      · refine tn_iconst dX5_call_160 ?_
        obtain ⟨kd223, fx224, tk225⟩ := f152.2 (by omega)
        have pc226 : GRF Sx [159] (i101 + 1) (0) (bx) u0 (tkS Sx (i101 + 1)).1 := z59 hSb kd223
        have rf227 : GRF Sx [25] jx 0 (bx) u0 ((tkS Sx (i101 + 1)).1) := GR.fl (l := [159]) [] rd144 pc226
        have mg228 : MG Tg gs T76 σ148 a mw104 := (MG.tr mg146 f153)
        have rb222 : YF σ148 a Sx bx [25] jx ∧ FG Tg gs T76 σ148 a := ⟨⟨_, rf227, fx224⟩, (mg228).1⟩
        exact tn_zret (v := 0) rfl (by decide) dX5_call_161 ⟨_, rfl, w156, ((((((FrC.rfl.trans (FrC.sub F18 (by decide))).trans (FrC.sub F36 (by decide))).trans (FrC.sub F52 (by decide))).trans (FrC.sub F79 (by decide))).trans (FrC.sub (FrC.old F124 gt77) (by decide))).trans (FrC.sub (FrC.old F157 gt77) (by decide))), by omega, ⟨fun q => absurd q (by decide), fun _ => rb222⟩, (RP.up f154 (by omega))⟩
  · obtain ⟨i229, es230, m231, mw232, as233, lo234, fx235, ni236, mgq237, mb238, ag239, rr240, cn241⟩ := f100
    show Tn _ _ 142 T90 σ89 [(0, .ref a), (1, .int (iI r)), (2, .int (iI (σ.2.1 86 xq1))), (3, .int (iI (σ.2.1 87 xq1))), (4, .int (iI i487)), (5, .int (iI i588))] [] _
    refine tn_aload_n dX5_call_142 rfl 0 rfl ?_
    refine tn_bipush dX5_call_143 (by decide) ?_
    refine tn_callV (M := m_X5_call) (pc := 145) (ix := 102) (ci := 5) (M' := m_X5_taken) (As := [.int (iI 41)]) (rest := []) dX5_call_145 ok_X5_taken im_X5_taken se_X5_taken ml5_102 np_X5_taken rfl rfl q94 rfl (Nat.le_of_ble_eq_true rfl) (Nat.le_of_ble_eq_true rfl) rfl (k_X5_taken_m (d + 48) (T := T90) (σ := σ89) (a := a) (s := 41) (kp := kp) (Tg := T90) (gs := flg σ89) (mx := mw232) q94 (by decide) w92 (by omega) fx235 (MG.fl mgq237) (by omega) f99) (fun r242 T244 σ243 gt245 hp => ?_)
    obtain ⟨v250, rfl, rfl, w251, F252, f246, f247, f248, f249⟩ := hp
    clear gt245
    have ag253 : ARG σ243 a as233 := (ARG.fg ag239 w92 q94 f248)
    have pc254 : GR Sx [38] i229 (0) (bx) ((tkS Sx jx).2.2.2.2, i487, (tkS Sx jx).1) [] i229 (0) (bx) u0 2 [(1, ((tkS Sx jx).2.2.2.2, i487, (tkS Sx jx).1).2.2, ((tkS Sx jx).2.2.2.2, i487, (tkS Sx jx).1).2.1, ((tkS Sx jx).2.2.2.2, i487, (tkS Sx jx).1).1)] := x38 hSb 
    have pm255 : CN nm mx.rt (es230.foldl uC cx) (GW Sx nm rnQ tb1 [38] i229 (0) (bx) ((tkS Sx jx).2.2.2.2, i487, (tkS Sx jx).1) (mw232.on (mx.push (9, r, 0, as233))) [] i229 (0) (bx) u0 2 ((mw232.on (mx.push (9, r, 0, as233))).cal rnQ ((tkS Sx jx).2.2.2.2, i487, (tkS Sx jx).1).1)) := fun hn9 => GW.of (gm38 hSb ) rfl
    have rd256 : GR Sx [25] jx 0 (bx) u0 [141, 159] i229 (0) (bx) u0 (m231 + 2) (es230 ++ [(1, ((tkS Sx jx).2.2.2.2, i487, (tkS Sx jx).1).2.2, ((tkS Sx jx).2.2.2.2, i487, (tkS Sx jx).1).2.1, ((tkS Sx jx).2.2.2.2, i487, (tkS Sx jx).1).1)]) := GR.gg (l := [38]) (ms := []) [141, 159] rr240 pc254
    have rm257 : CN nm mx.rt (es230.foldl uC cx) (GW Sx nm rnQ tb1 [25] jx 0 (bx) u0 (mx.push (8, r, 0, [])) [141, 159] i229 (0) (bx) u0 (m231 + 2) ((mw232.on (mx.push (9, r, 0, as233))).cal rnQ ((tkS Sx jx).2.2.2.2, i487, (tkS Sx jx).1).1)) := CN.gg (l := [38]) (ms := []) [141, 159] cn241 (fun q9 => q9) pm255
    show Tn _ _ 148 T90 σ243 [(0, .ref a), (1, .int (iI r)), (2, .int (iI (σ.2.1 86 xq1))), (3, .int (iI (σ.2.1 87 xq1))), (4, .int (iI i487)), (5, .int (iI i588))] [.int (iI v250)] _
    refine tn_if_eq (tgt := 160) dX5_call_148 (by decide) ⟨by omega, by omega⟩ (fun h259 => ?_) (fun h259 => ?_)
    · refine tn_iconst dX5_call_160 ?_
      obtain ⟨kd262, fx263, tk264⟩ := f247.2 (by omega)
      have pc265 : GRF Sx [141] i229 (0) (bx) u0 (tkS Sx i229).1 := z41 hSb kd262
      have rf266 : GRF Sx [25] jx 0 (bx) u0 ((tkS Sx i229).1) := GR.fl (l := [141]) [159] rd256 pc265
      have mg267 : MG Tg gs T90 σ243 a mw232 := (MG.tr mgq237 f248)
      have rb261 : YF σ243 a Sx bx [25] jx ∧ FG Tg gs T90 σ243 a := ⟨⟨_, rf266, fx263⟩, (mg267).1⟩
      exact tn_zret (v := 0) rfl (by decide) dX5_call_161 ⟨_, rfl, w251, (((((FrC.rfl.trans (FrC.sub F18 (by decide))).trans (FrC.sub F36 (by decide))).trans (FrC.sub F52 (by decide))).trans (FrC.sub F93 (by decide))).trans (FrC.sub (FrC.old F252 gt91) (by decide))), by omega, ⟨fun q => absurd q (by decide), fun _ => rb261⟩, (RP.up f249 (by omega))⟩
    · refine tn_aload_n dX5_call_151 rfl 0 rfl ?_
      refine tn_bipush dX5_call_152 (by decide) ?_
      obtain ⟨kd269, fx268⟩ := f247.1 (by omega)
      have pc270 : GR Sx [141] i229 (0) (bx) u0 [] (i229 + 1) (0) (bx) u0 0 [] := y41 hSb kd269
      have pm271 : CN nm mx.rt (es230.foldl uC cx) (GW Sx nm rnQ tb1 [141] i229 (0) (bx) u0 ((mw232.on (mx.push (9, r, 0, as233))).cal rnQ ((tkS Sx jx).2.2.2.2, i487, (tkS Sx jx).1).1) [] (i229 + 1) (0) (bx) u0 0 ((mw232.on (mx.push (9, r, 0, as233))).cal rnQ ((tkS Sx jx).2.2.2.2, i487, (tkS Sx jx).1).1)) := fun _ => GW.of (gmy41 hSb kd269) rfl
      have rd272 : GR Sx [25] jx 0 (bx) u0 [159] (i229 + 1) (0) (bx) u0 (m231 + 2 + 0) (es230 ++ [(1, ((tkS Sx jx).2.2.2.2, i487, (tkS Sx jx).1).2.2, ((tkS Sx jx).2.2.2.2, i487, (tkS Sx jx).1).2.1, ((tkS Sx jx).2.2.2.2, i487, (tkS Sx jx).1).1)]) := GR.g0 (l := [141]) (ms := []) [159] rd256 pc270
      have rm273 : CN nm mx.rt (es230.foldl uC cx) (GW Sx nm rnQ tb1 [25] jx 0 (bx) u0 (mx.push (8, r, 0, [])) [159] (i229 + 1) (0) (bx) u0 (m231 + 2 + 0) ((mw232.on (mx.push (9, r, 0, as233))).cal rnQ ((tkS Sx jx).2.2.2.2, i487, (tkS Sx jx).1).1)) := CN.gg (l := [141]) (ms := []) [159] rm257 (fun q9 => q9) pm271
      have mg274 : MG Tg gs T90 σ243 a mw232 := (MG.tr mgq237 f248)
      refine tn_callV (M := m_X5_call) (pc := 154) (ix := 102) (ci := 5) (M' := m_X5_taken) (As := [.int (iI 59)]) (rest := []) dX5_call_154 ok_X5_taken im_X5_taken se_X5_taken ml5_102 np_X5_taken rfl rfl q94 rfl (Nat.le_of_ble_eq_true rfl) (Nat.le_of_ble_eq_true rfl) rfl (k_X5_taken_m (d + 48) (T := T90) (σ := σ243) (a := a) (s := 59) (kp := kp - 4 * v250) (Tg := T90) (gs := flg σ243) (mx := mw232) q94 (by decide) w251 (by omega) fx268 (MG.fl mg274) (by omega) f249) (fun r275 T277 σ276 gt278 hp => ?_)
      obtain ⟨v283, rfl, rfl, w284, F285, f279, f280, f281, f282⟩ := hp
      clear gt278
      have ag286 : ARG σ276 a as233 := (ARG.fg ag253 w251 q94 f281)
      show Tn _ _ 157 T90 σ276 [(0, .ref a), (1, .int (iI r)), (2, .int (iI (σ.2.1 86 xq1))), (3, .int (iI (σ.2.1 87 xq1))), (4, .int (iI i487)), (5, .int (iI i588))] [.int (iI v283)] _
      refine tn_if_ne (tgt := 162) dX5_call_157 (by decide) ⟨by omega, by omega⟩ (fun h288 => ?_) (fun h288 => ?_)
      · refine tn_aload_n dX5_call_162 rfl 0 rfl ?_
        refine tn_iload_n dX5_call_163 rfl 2 rfl ?_
        refine tn_iload_n dX5_call_164 rfl 3 rfl ?_
        refine tn_iload dX5_call_165 4 rfl ?_
        obtain ⟨kd290, fx289⟩ := f280.1 (by omega)
        have pc291 : GR Sx [159] (i229 + 1) (0) (bx) u0 [] ((i229 + 1) + 1) (0) (bx) u0 0 [] := y59 hSb kd290
        have pm292 : CN nm mx.rt (es230.foldl uC cx) (GW Sx nm rnQ tb1 [159] (i229 + 1) (0) (bx) u0 ((mw232.on (mx.push (9, r, 0, as233))).cal rnQ ((tkS Sx jx).2.2.2.2, i487, (tkS Sx jx).1).1) [] ((i229 + 1) + 1) (0) (bx) u0 0 ((mw232.on (mx.push (9, r, 0, as233))).cal rnQ ((tkS Sx jx).2.2.2.2, i487, (tkS Sx jx).1).1)) := fun _ => GW.of (gmy59 hSb kd290) rfl
        have rd293 : GR Sx [25] jx 0 (bx) u0 [] ((i229 + 1) + 1) (0) (bx) u0 (m231 + 2 + 0 + 0) (es230 ++ [(1, ((tkS Sx jx).2.2.2.2, i487, (tkS Sx jx).1).2.2, ((tkS Sx jx).2.2.2.2, i487, (tkS Sx jx).1).2.1, ((tkS Sx jx).2.2.2.2, i487, (tkS Sx jx).1).1)]) := GR.g0 (l := [159]) (ms := []) [] rd272 pc291
        have rm294 : CN nm mx.rt (es230.foldl uC cx) (GW Sx nm rnQ tb1 [25] jx 0 (bx) u0 (mx.push (8, r, 0, [])) [] ((i229 + 1) + 1) (0) (bx) u0 (m231 + 2 + 0 + 0) ((mw232.on (mx.push (9, r, 0, as233))).cal rnQ ((tkS Sx jx).2.2.2.2, i487, (tkS Sx jx).1).1)) := CN.gg (l := [159]) (ms := []) [] rm273 (fun q9 => q9) pm292
        have q42295 : (es230.foldl uC cx).cn = σ.2.1 42 a := (fx289.1.2.1.1.2.2.2.1).symm.trans (rc_F F285 (Or.inl (by decide)) (by decide) (rc_F F252 (Or.inl (by decide)) (by decide) (rc_F F93 (Or.inl (by decide)) (by decide) (rc_F F52 (Or.inl (by decide)) (by decide) (rc_F F36 (Or.inl (by decide)) (by decide) (rc_F F18 (Or.inl (by decide)) (by decide) (rfl)))))))
        refine tn_callV (M := m_X5_call) (pc := 167) (ix := 228) (ci := 5) (M' := m_X5_listCall) (As := [.int (iI (σ.2.1 86 xq1)), .int (iI (σ.2.1 87 xq1)), .int (iI i487)]) (rest := []) dX5_call_167 ok_X5_listCall im_X5_listCall se_X5_listCall ml5_228 np_X5_listCall rfl rfl q94 rfl (Nat.le_of_ble_eq_true rfl) (Nat.le_of_ble_eq_true rfl) rfl (k_X5_listCall_m (d + 48) (T := T90) (σ := σ276) (a := a) (k := σ.2.1 86 xq1) (p := σ.2.1 87 xq1) (m := i487) q94 (by omega) (by omega) (by omega) w284 fx289 hkw9 (by rw [q42295]; omega)) (fun r296 T298 σ297 gt299 hp => ?_)
        obtain ⟨rfl, rfl, w303, F304, f300, f301⟩ := hp
        clear gt299
        have mg305 : MG Tg gs T90 σ276 a mw232 := (MG.tr mg274 f281)
        have ag306 : ARG σ297 a as233 := (ARG.ls ag286 w284 q94 f301)
        have rp307 : RP σ297 a (kp - 4 * v250 - 4 * v283) := RP.frc f282 F304 (by decide) (by decide) (by decide) (by decide) (by decide)
        have fx308 : RDX σ297 a Sx nx ((i229 + 1) + 1) (uC (es230.foldl uC cx) (1, (tkS Sx jx).1, i487, (tkS Sx jx).2.2.2.2)) (Nx + m231) := by have q9 := f300; rw [hpl9] at q9; exact q9
        show Tn _ _ 170 T90 σ297 [(0, .ref a), (1, .int (iI r)), (2, .int (iI (σ.2.1 86 xq1))), (3, .int (iI (σ.2.1 87 xq1))), (4, .int (iI i487)), (5, .int (iI i588))] [] _
        refine tn_aload_n dX5_call_170 rfl 0 rfl ?_
        obtain ⟨xq309, hx310, hk311⟩ : ∃ x : Nat, σ89.2.1 35 a = (x : Int) ∧ (T90 x).1 = 31 := wf_35 w92 q94
        have hk311o : OB T90 xq309 1 := ⟨by omega, by rw [hk311]; rfl, by omega⟩
        refine tn_getR (ci := 5) (i := 2) (n := 35) (x := xq309) dX5_call_171 rfl lay_5 (by decide) fl5_47 q94 rfl rfl (rc_F F304 (Or.inl (by decide)) (by decide) (rc_F F285 (Or.inl (by decide)) (by decide) (rc_F F252 (Or.inl (by decide)) (by decide) (hx310)))) ?_
        refine tn_bipush dX5_call_174 (by decide) ?_
        refine tn_iload_n dX5_call_176 rfl 1 rfl ?_
        refine tn_iload_n dX5_call_177 rfl 2 rfl ?_
        refine tn_callV (M := m_X5_call) (pc := 178) (ix := 139) (ci := 1) (M' := m_X1_append) (As := [.int (iI 10), .int (iI r), .int (iI (σ.2.1 86 xq1))]) (rest := []) dX5_call_178 ok_X1_append im_X1_append se_X1_append ml5_139 np_X1_append rfl rfl hk311o rfl (Nat.le_of_ble_eq_true rfl) (Nat.le_of_ble_eq_true rfl) rfl (k_append_c (d + 47) (T := T90) (σ := σ297) (a := xq309) (k := 10) (p := r) (q := σ.2.1 86 xq1) hk311o hk311 (by decide) (by omega) (by omega) w303 (RP.cnt rp307 w303 q94 (rc_F F304 (Or.inl (by decide)) (by decide) (rc_F F285 (Or.inl (by decide)) (by decide) (rc_F F252 (Or.inl (by decide)) (by decide) (hx310)))) (by omega)) (by omega)) (fun r313 T315 σ314 gt316 hp => ?_)
        obtain ⟨rfl, w321, F322, f317, f318, f319⟩ := hp
        have mg323 : MG Tg gs T90 σ297 a mw232 := (MG.ls mg305 w284 q94 hgf f301)
        have obq324 : OB T90 a 5 := q94
        have nn325 : 0 ≤ (mw232).n := by have z7 : WT T90 σ297 := w303; have z6 : σ297.2.1 35 a = (xq309 : Int) := rc_F F304 (Or.inl (by decide)) (by decide) (rc_F F285 (Or.inl (by decide)) (by decide) (rc_F F252 (Or.inl (by decide)) (by decide) (hx310))); have z9 := wf_6 z7 (code_ob z7 q94 z6); have z8 := MG.e6 mg323 (MG.cd mg323 z6); omega
        have a35326 : σ297.2.1 35 a = (xq309 : Int) := rc_F F304 (Or.inl (by decide)) (by decide) (rc_F F285 (Or.inl (by decide)) (by decide) (rc_F F252 (Or.inl (by decide)) (by decide) (hx310)))
        have fx327 : RDX σ314 a Sx nx ((i229 + 1) + 1) (uC (es230.foldl uC cx) (1, (tkS Sx jx).1, i487, (tkS Sx jx).2.2.2.2)) (Nx + m231 + 1) := RDX.ap fx308 w303 q94 (rc_F F304 (Or.inl (by decide)) (by decide) (rc_F F285 (Or.inl (by decide)) (by decide) (rc_F F252 (Or.inl (by decide)) (by decide) (hx310)))) F322 f317
        replace q94 : OB T315 a 5 := gt316.ob q94
        have rp328 : RP σ314 a (kp - 4 * v250 - 4 * v283 + 1) := RP.app rp307 (rc_F F304 (Or.inl (by decide)) (by decide) (rc_F F285 (Or.inl (by decide)) (by decide) (rc_F F252 (Or.inl (by decide)) (by decide) (hx310)))) F322 (by decide) (by decide) (by decide) (by decide) f317
        have mg329 : MG Tg gs T315 σ314 a ((mw232).put (rwI (10) (r) (σ.2.1 86 xq1))) := MG.app mg323 (MG.cd mg323 a35326) gt316 f317 f318 f319 (by omega)
        have mg329p : MG Tg gs T315 σ314 a ((mw232).put (itP r (σ.2.1 86 xq1) as233 0)) := by rw [itP_0]; exact mg329
        have mg329pg : ARG σ314 a as233 := ARG.chn ag306 w303 obq324 a35326 f318
        show Tn _ _ 181 T315 σ314 [(0, .ref a), (1, .int (iI r)), (2, .int (iI (σ.2.1 86 xq1))), (3, .int (iI (σ.2.1 87 xq1))), (4, .int (iI i487)), (5, .int (iI i588))] [] _
        refine tn_iconst dX5_call_181 ?_
        refine tn_istore (L' := [(5, .int (iI 0)), (0, .ref a), (1, .int (iI r)), (2, .int (iI (σ.2.1 86 xq1))), (3, .int (iI (σ.2.1 87 xq1))), (4, .int (iI i487))]) dX5_call_182 (by decide) rfl ?_
        refine tn_sub [1, 0] rfl (l_X5_call_m_184 (d) (T := T315) (σ0 := σ314) (a := a) (kp := kp - 4 * v250 - 4 * v283 + 1) (Sx := Sx) (nx := nx) (jx := ((i229 + 1) + 1)) (cy := uC (es230.foldl uC cx) (1, (tkS Sx jx).1, i487, (tkS Sx jx).2.2.2.2)) (Ny := Nx + m231 + 1) (Tg := Tg) (gs := gs) (mwq := mw232) (asq := as233) (rq := r) (kq := σ.2.1 86 xq1) q94 w321 (show 0 ≤ (mw232).n from nn325) (by omega) (fun i5330 σ331 w334 F335 r336 f337 f338 f339 f340 f341 => ?_) _ (0) σ314 w321 FrC.rfl (by omega) fx327 mg329p mg329pg rp328 rfl)
        show Tn _ _ 229 T315 σ331 [(0, .ref a), (5, .int (iI i5330))] [] _
        refine tn_iconst dX5_call_229 ?_
        have mg342 : MG Tg gs T315 σ331 a ((mw232).put (itC r (rnQ (tkS Sx jx).2.2.2.2) as233)) := by
          have q9 := f338
          rw [show i5330 = 4 by omega, itP_4, ← rnQ_of hkw9] at q9
          exact q9
        have hz347e : ((mw232.on (mx.push (9, r, 0, as233))).cal rnQ ((tkS Sx jx).2.2.2.2, i487, (tkS Sx jx).1).1) = ((((mw232).put (itC r (rnQ (tkS Sx jx).2.2.2.2) as233))).bd r).on mx := rfl
        have hz347c : (uC (es230.foldl uC cx) (1, (tkS Sx jx).1, i487, (tkS Sx jx).2.2.2.2)) = (es230 ++ [(1, ((tkS Sx jx).2.2.2.2, i487, (tkS Sx jx).1).2.2, ((tkS Sx jx).2.2.2.2, i487, (tkS Sx jx).1).2.1, ((tkS Sx jx).2.2.2.2, i487, (tkS Sx jx).1).1)]).foldl uC cx := (by simp only [List.foldl_append, List.foldl_cons, List.foldl_nil])
        have hz347 : CN nm mx.rt ((es230 ++ [(1, ((tkS Sx jx).2.2.2.2, i487, (tkS Sx jx).1).2.2, ((tkS Sx jx).2.2.2.2, i487, (tkS Sx jx).1).2.1, ((tkS Sx jx).2.2.2.2, i487, (tkS Sx jx).1).1)]).foldl uC cx) (GW Sx nm rnQ tb1 [25] jx 0 (bx) u0 (mx.push (8, r, 0, [])) [] ((i229 + 1) + 1) (0) (bx) u0 (m231 + 2 + 0 + 0) (((((mw232).put (itC r (rnQ (tkS Sx jx).2.2.2.2) as233))).bd r).on mx)) := by
          have q9 := CN.up (c2 := uC (es230.foldl uC cx) (1, (tkS Sx jx).1, i487, (tkS Sx jx).2.2.2.2)) rm294 (fun q9 => (fun q9 => q9) (NMA.up (show (1 : Int) ≠ 2 by decide) q9))
          rw [hz347e, hz347c] at q9
          exact q9
        have fe348 := RDX.nq (M := (Nx - 1) + (m231 + 2 + 0 + 0)) (RDX.cq (c2 := (es230 ++ [(1, ((tkS Sx jx).2.2.2.2, i487, (tkS Sx jx).1).2.2, ((tkS Sx jx).2.2.2.2, i487, (tkS Sx jx).1).2.1, ((tkS Sx jx).2.2.2.2, i487, (tkS Sx jx).1).1)]).foldl uC cx) f337 hz347c) (by omega)
        have fe348m : ((es230 ++ [(1, ((tkS Sx jx).2.2.2.2, i487, (tkS Sx jx).1).2.2, ((tkS Sx jx).2.2.2.2, i487, (tkS Sx jx).1).2.1, ((tkS Sx jx).2.2.2.2, i487, (tkS Sx jx).1).1)]).foldl uC cx).m = σ.2.1 45 a := (fe348.e45).symm.trans (rc_F F335 (Or.inl (by decide)) (by decide) (rc_F F322 (Or.inl (by decide)) (by decide) (rc_F F304 (Or.inl (by decide)) (by decide) (rc_F F285 (Or.inl (by decide)) (by decide) (rc_F F252 (Or.inl (by decide)) (by decide) (rc_F F93 (Or.inl (by decide)) (by decide) (rc_F F52 (Or.inl (by decide)) (by decide) (rc_F F36 (Or.inl (by decide)) (by decide) (rc_F F18 (Or.inl (by decide)) (by decide) (rfl))))))))))
        have ra345 : YSM σ331 a Sx nx bx [25] jx cx (Nx - 1) bx [] ((jx : Int) + 2) nm Tg gs T315 mx (mx.push (8, r, 0, [])) (fun m9 => m9.bd r) := ⟨((i229 + 1) + 1), es230 ++ [(1, ((tkS Sx jx).2.2.2.2, i487, (tkS Sx jx).1).2.2, ((tkS Sx jx).2.2.2.2, i487, (tkS Sx jx).1).2.1, ((tkS Sx jx).2.2.2.2, i487, (tkS Sx jx).1).1)], m231 + 2 + 0 + 0, ((mw232).put (itC r (rnQ (tkS Sx jx).2.2.2.2) as233)), (by omega), rd293, fe348, by rw [fe348m]; omega, (NI2.app ni236 (NI2.one (show (1 : Int) ≠ 2 by decide))), mg342, (MBD.put mb238), hz347⟩
        exact tn_zret (v := 1) rfl (by decide) dX5_call_230 ⟨_, rfl, w334, (((((((((FrC.rfl.trans (FrC.sub F18 (by decide))).trans (FrC.sub F36 (by decide))).trans (FrC.sub F52 (by decide))).trans (FrC.sub F93 (by decide))).trans (FrC.sub (FrC.old F252 gt91) (by decide))).trans (FrC.sub (FrC.old F285 gt91) (by decide))).trans (FrC.sub (FrC.old F304 gt91) (by decide))).trans (FrC.sub (FrC.old F322 gt91) (by decide))).trans (FrC.sub (FrC.old F335 (GT.trans gt91 gt316)) (by decide))), by omega, ⟨fun _ => ra345, fun q => absurd q (by decide)⟩, (RP.up f340 (by omega))⟩
      · refine tn_iconst dX5_call_160 ?_
        obtain ⟨kd351, fx352, tk353⟩ := f280.2 (by omega)
        have pc354 : GRF Sx [159] (i229 + 1) (0) (bx) u0 (tkS Sx (i229 + 1)).1 := z59 hSb kd351
        have rf355 : GRF Sx [25] jx 0 (bx) u0 ((tkS Sx (i229 + 1)).1) := GR.fl (l := [159]) [] rd272 pc354
        have mg356 : MG Tg gs T90 σ276 a mw232 := (MG.tr mg274 f281)
        have rb350 : YF σ276 a Sx bx [25] jx ∧ FG Tg gs T90 σ276 a := ⟨⟨_, rf355, fx352⟩, (mg356).1⟩
        exact tn_zret (v := 0) rfl (by decide) dX5_call_161 ⟨_, rfl, w284, ((((((FrC.rfl.trans (FrC.sub F18 (by decide))).trans (FrC.sub F36 (by decide))).trans (FrC.sub F52 (by decide))).trans (FrC.sub F93 (by decide))).trans (FrC.sub (FrC.old F252 gt91) (by decide))).trans (FrC.sub (FrC.old F285 gt91) (by decide))), by omega, ⟨fun q => absurd q (by decide), fun _ => rb350⟩, (RP.up f282 (by omega))⟩
end
section
set_option maxHeartbeats 1000000 in
set_option maxRecDepth 20000 in
theorem k_X5_assignment_m (d : Nat) {T : CT} {σ : MS} {a : Nat} {kp : Int} {Sx : Int → Int} {nx jx : Nat} {cx : CS} {Nx : Int} {Tg : CT} {gs : MS} {mx : MK} {nm : Int → Int64 → Int} {bx : Int} (ha : OB T a 5) (hw : WT T σ) (hfx : RDX σ a Sx nx jx cx Nx) (hmg : MG Tg gs T σ a mx) (hmb : MBD mx) (hgf : gs.1 5 = 0) (hkd : ckd (tkS Sx jx) = 256) (hkp : kp ≤ 140) (hrp : RP σ a kp) : Tn (d + 52) m_X5_assignment 0 T σ [(0, .ref a)] [] (fun ro T2 σ2 => ∃ v : Int, ro = some (.int (iI v)) ∧ WT T2 σ2 ∧ FrC T [5, 6, 7, 42, 43, 44, 47, 50, 51, 84, 85, 86, 87, 518, 519, 520, 521] σ σ2 ∧ (v = 0 ∨ v = 1) ∧ (YQM σ2 a Sx nx bx [51, 23] jx cx (Nx) 1 v nm Tg gs T2 mx (mx.push (1, 0, 0, [])) (fun m9 => m9)) ∧ (RP σ2 a (kp + 1 - 10 * v))) := by
  have hSb := hfx.1.sb
  have e45 := hfx.e45
  have hpo9 := hfx.po
  unfold PO at hpo9
  have e42 : σ.2.1 42 a = cx.cn := hfx.1.2.1.1.2.2.2.1
  refine tn_aload_n dX5_assignment_0 rfl 0 rfl ?_
  obtain ⟨xq1, hx2, hk3⟩ : ∃ x : Nat, σ.2.1 35 a = (x : Int) ∧ (T x).1 = 31 := wf_35 hw ha
  have hk3o : OB T xq1 1 := ⟨by omega, by rw [hk3]; rfl, by omega⟩
  refine tn_getR (ci := 5) (i := 2) (n := 35) (x := xq1) dX5_assignment_1 rfl lay_5 (by decide) fl5_47 ha rfl rfl (hx2) ?_
  refine tn_bipush dX5_assignment_4 (by decide) ?_
  refine tn_aload_n dX5_assignment_6 rfl 0 rfl ?_
  refine tn_getI (ci := 5) (i := 12) (n := 45) (t := σ.2.1 45 a) dX5_assignment_7 rfl lay_5 (by decide) fl5_64 ha rfl rfl (rfl) ?_
  have g5 : ((-2147483648 : Int) ≤ σ.2.1 45 a ∧ σ.2.1 45 a ≤ 2147483647) := wf_45 hw ha
  refine tn_iconst dX5_assignment_10 ?_
  refine tn_callV (M := m_X5_assignment) (pc := 11) (ix := 139) (ci := 1) (M' := m_X1_append) (As := [.int (iI 11), .int (iI (σ.2.1 45 a)), .int (iI 0)]) (rest := []) dX5_assignment_11 ok_X1_append im_X1_append se_X1_append ml5_139 np_X1_append rfl rfl hk3o rfl (Nat.le_of_ble_eq_true rfl) (Nat.le_of_ble_eq_true rfl) rfl (k_append_c (d + 48) (T := T) (σ := σ) (a := xq1) (k := 11) (p := σ.2.1 45 a) (q := 0) hk3o hk3 (by decide) (by omega) (by decide) hw (RP.cnt hrp hw ha (hx2) (by omega)) (by omega)) (fun r6 T8 σ7 gt9 hp => ?_)
  obtain ⟨rfl, w14, F15, f10, f11, f12⟩ := hp
  have nn16 : 0 ≤ (mx).n := by have z7 : WT T σ := hw; have z6 : σ.2.1 35 a = (xq1 : Int) := hx2; have z9 := wf_6 z7 (code_ob z7 ha z6); have z8 := MG.e6 hmg (MG.cd hmg z6); omega
  have z17 : σ.2.1 45 a = (mx).ln := by have z0 := MG.e45 hmg; have z1 : σ.2.1 45 a = (mx).ln := z0; have z2 : σ.2.1 45 a = σ.2.1 45 a := rfl; have z3 : σ.2.1 45 a = σ.2.1 45 a := rfl; omega
  have a3518 : σ.2.1 35 a = (xq1 : Int) := hx2
  have fx19 : RDX σ7 a Sx nx jx (cx) (Nx + 1) := RDX.ap hfx hw ha (hx2) F15 f10
  replace ha : OB T8 a 5 := gt9.ob ha
  have rp20 : RP σ7 a (kp + 1) := RP.app hrp (hx2) F15 (by decide) (by decide) (by decide) (by decide) f10
  have mg21 : MG Tg gs T8 σ7 a ((mx).put (rwI (11) (σ.2.1 45 a) (0))) := MG.app hmg (MG.cd hmg a3518) gt9 f10 f11 f12 (by omega)
  have mg21l : MG Tg gs T8 σ7 a ((mx).li) := MG.li (m := mx) mg21 z17
  show Tn _ _ 14 T8 σ7 [(0, .ref a)] [] _
  refine tn_aload_n dX5_assignment_14 rfl 0 rfl ?_
  refine tn_callV (M := m_X5_assignment) (pc := 15) (ix := 176) (ci := 5) (M' := m_X5_register) (As := []) (rest := []) dX5_assignment_15 ok_X5_register im_X5_register se_X5_register ml5_176 np_X5_register rfl rfl ha rfl (Nat.le_of_ble_eq_true rfl) (Nat.le_of_ble_eq_true rfl) rfl (k_X5_register_m (d + 49) (T := T8) (σ := σ7) (a := a) (Tg := Tg) (gs := gs) (mx := ((mx).li)) ha w14 fx19 hkd mg21l) (fun r22 T24 σ23 gt25 hp => ?_)
  obtain ⟨v30, rfl, rfl, w31, F32, f26, f27, f28, f29⟩ := hp
  clear gt25
  have rp33 : RP σ23 a (kp + 1) := RP.frc rp20 F32 (by decide) (by decide) (by decide) (by decide) (by decide)
  show Tn _ _ 18 T8 σ23 [(0, .ref a)] [.int (iI v30)] _
  refine tn_istore_n (L' := [(1, .int (iI v30)), (0, .ref a)]) dX5_assignment_18 rfl (by decide) rfl ?_
  refine tn_aload_n dX5_assignment_19 rfl 1 rfl ?_
  obtain ⟨xq34, hx35, hk36⟩ : ∃ x : Nat, σ7.2.1 33 a = (x : Int) ∧ (T8 x).1 = 39 := wf_33 w14 ha
  have hk36o : OB T8 xq34 9 := ⟨by omega, by rw [hk36]; rfl, by omega⟩
  refine tn_getR (ci := 5) (i := 0) (n := 33) (x := xq34) dX5_assignment_20 rfl lay_5 (by decide) fl5_12 ha rfl rfl (rc_F F32 (Or.inl (by decide)) (by decide) (hx35)) ?_
  have q42 : σ23.2.1 84 xq34 = σ7.2.1 84 xq34 := rc_F F32 (Or.inl (by decide)) (by decide) (rfl)
  refine tn_callV (M := m_X5_assignment) (pc := 23) (ix := 93) (ci := 9) (M' := m_X9_next) (As := []) (rest := []) dX5_assignment_23 ok_X9_next im_X9_next se_X9_next ml5_93 np_X9_next rfl rfl hk36o rfl (Nat.le_of_ble_eq_true rfl) (Nat.le_of_ble_eq_true rfl) rfl (k_X9_next_m (d + 50) (T := T8) (σ := σ23) (a := xq34) hk36o w31 (RP.tk rp33 w31 ha (rc_F F32 (Or.inl (by decide)) (by decide) (hx35))) ((f27).1.tk (rc_F F32 (Or.inl (by decide)) (by decide) (hx35))) (by rw [(f27).1.kd (rc_F F32 (Or.inl (by decide)) (by decide) (hx35))]; omega)) (fun r38 T40 σ39 gt41 hp => ?_)
  obtain ⟨rfl, rfl, w49, F50, f43, f44, f45, f46, f47⟩ := hp
  clear gt41
  have pc52 : GR Sx [51] jx (0) (bx) u0 [] jx (0) (bx) u0 1 [] := x51 hSb 
  have pm53 : CN nm mx.rt (uC (cx) (4, (tkS Sx jx).1, 0, (tkS Sx jx).2.2.2.2)) (GW Sx nm rnQ tb1 [51] jx (0) (bx) u0 (mx.push (1, 0, 0, [])) [] jx (0) (bx) u0 1 ((mx.push (1, 0, 0, [])).one tb1)) := fun hn9 => GW.of (gm51 hSb ) rfl
  have rd540 : GR Sx [51, 23] jx 0 (bx) u0 [51, 23] jx (0) (bx) u0 (0) ([]) := GR.nl
  have rd54 : GR Sx [51, 23] jx 0 (bx) u0 [23] jx (0) (bx) u0 (0 + 1) ([]) := GR.g0 (l := [51]) (ms := []) [23] rd540 pc52
  have rm550 : CN nm mx.rt (cx) (GW Sx nm rnQ tb1 [51, 23] jx 0 (bx) u0 (mx.push (1, 0, 0, [])) [51, 23] jx (0) (bx) u0 (0) (mx.push (1, 0, 0, []))) := fun _ => GW.nl
  have rm55 : CN nm mx.rt (uC (cx) (4, (tkS Sx jx).1, 0, (tkS Sx jx).2.2.2.2)) (GW Sx nm rnQ tb1 [51, 23] jx 0 (bx) u0 (mx.push (1, 0, 0, [])) [23] jx (0) (bx) u0 (0 + 1) ((mx.push (1, 0, 0, [])).one tb1)) := CN.gg (l := [51]) (ms := []) [23] rm550 (fun q9 => (fun q9 => q9) (NMA.up (show (4 : Int) ≠ 2 by decide) q9)) pm53
  have pc56 : GR Sx [23] jx (0) (bx) u0 [161, 25] (jx + 1) (0) (bx) u0 0 [(4, (tkS Sx jx).1, 0, (tkS Sx jx).2.2.2.2)] := x23 hSb 
  have pm57 : CN nm mx.rt (uC (cx) (4, (tkS Sx jx).1, 0, (tkS Sx jx).2.2.2.2)) (GW Sx nm rnQ tb1 [23] jx (0) (bx) u0 ((mx.push (1, 0, 0, [])).one tb1) [161, 25] (jx + 1) (0) (bx) u0 0 (((mx.push (1, 0, 0, [])).one tb1).push (8, v30, 0, []))) := fun hn9 => GW.of (gm23 hSb ) (congrArg (fun z9 => ((mx.push (1, 0, 0, [])).one tb1).push (8, z9, 0, [])) (RGV.no f28 hn9))
  have rd58a : GR Sx [51, 23] jx 0 (bx) u0 [161, 25] (jx + 1) (0) (bx) u0 (0 + 1 + 0) ([] ++ [(4, (tkS Sx jx).1, 0, (tkS Sx jx).2.2.2.2)]) := GR.gg (l := [23]) (ms := [161, 25]) [] rd54 pc56
  have rd58 : GR Sx [51, 23] jx 0 (bx) u0 [161, 25] (jx + 1) (0) (bx) u0 (0 + 1 + 0) ([(4, (tkS Sx jx).1, 0, (tkS Sx jx).2.2.2.2)]) := rd58a
  have rm59 : CN nm mx.rt (uC (cx) (4, (tkS Sx jx).1, 0, (tkS Sx jx).2.2.2.2)) (GW Sx nm rnQ tb1 [51, 23] jx 0 (bx) u0 (mx.push (1, 0, 0, [])) [161, 25] (jx + 1) (0) (bx) u0 (0 + 1 + 0) (((mx.push (1, 0, 0, [])).one tb1).push (8, v30, 0, []))) := CN.gg (l := [23]) (ms := [161, 25]) [] rm55 (fun q9 => q9) pm57
  have fx51 : RDX σ39 a Sx nx (jx + 1) (uC (cx) (4, (tkS Sx jx).1, 0, (tkS Sx jx).2.2.2.2)) (Nx + 1) := RDX.nx f27 w31 ha (rc_F F32 (Or.inl (by decide)) (by decide) (hx35)) F50 f46
  have rp60 : RP σ39 a (kp + 1) := RP.next rp33 (rc_F F32 (Or.inl (by decide)) (by decide) (hx35)) F50 (by decide) (by decide) (by decide) f43 f44
  show Tn _ _ 26 T8 σ39 [(1, .int (iI v30)), (0, .ref a)] [] _
  refine tn_aload_n dX5_assignment_26 rfl 1 rfl ?_
  refine tn_bipush dX5_assignment_27 (by decide) ?_
  have mg61 : MG Tg gs T8 σ39 a ((mx).li) := (MG.tk f29 (rc_F F32 (Or.inl (by decide)) (by decide) (hx35)) f47)
  refine tn_callV (M := m_X5_assignment) (pc := 29) (ix := 102) (ci := 5) (M' := m_X5_taken) (As := [.int (iI 61)]) (rest := []) dX5_assignment_29 ok_X5_taken im_X5_taken se_X5_taken ml5_102 np_X5_taken rfl rfl ha rfl (Nat.le_of_ble_eq_true rfl) (Nat.le_of_ble_eq_true rfl) rfl (k_X5_taken_m (d + 49) (T := T8) (σ := σ39) (a := a) (s := 61) (kp := kp + 1) (Tg := Tg) (gs := gs) (mx := ((mx).li)) ha (by decide) w49 (by omega) fx51 mg61 (by omega) rp60) (fun r62 T64 σ63 gt65 hp => ?_)
  obtain ⟨v70, rfl, rfl, w71, F72, f66, f67, f68, f69⟩ := hp
  clear gt65
  have rp74 : RP σ63 a (kp - 4 * v70 + 1) := RP.up f69 (by omega)
  show Tn _ _ 32 T8 σ63 [(1, .int (iI v30)), (0, .ref a)] [.int (iI v70)] _
  refine tn_if_ne (tgt := 37) dX5_assignment_32 (by decide) ⟨by omega, by omega⟩ (fun h75 => ?_) (fun h75 => ?_)
  · refine tn_aload_n dX5_assignment_37 rfl 1 rfl ?_
    refine tn_getR (ci := 5) (i := 0) (n := 33) (x := xq34) dX5_assignment_38 rfl lay_5 (by decide) fl5_12 ha rfl rfl (rc_F F72 (Or.inl (by decide)) (by decide) (rc_F F50 (Or.inl (by decide)) (by decide) (rc_F F32 (Or.inl (by decide)) (by decide) (hx35)))) ?_
    refine tn_getI (ci := 9) (i := 4) (n := 85) (t := σ63.2.1 85 xq34) dX5_assignment_41 rfl lay_9 (by decide) fl5_71 hk36o rfl rfl (rfl) ?_
    have g76 : ((-2147483648 : Int) ≤ σ63.2.1 85 xq34 ∧ σ63.2.1 85 xq34 ≤ 2147483647) := wf_85 w71 hk36o
    obtain ⟨kd78, fx77⟩ := f67.1 (by omega)
    have pc79 : GR Sx [161] (jx + 1) (0) (bx) u0 [] ((jx + 1) + 1) (0) (bx) u0 0 [] := y61 hSb kd78
    have pm80 : CN nm mx.rt (uC (cx) (4, (tkS Sx jx).1, 0, (tkS Sx jx).2.2.2.2)) (GW Sx nm rnQ tb1 [161] (jx + 1) (0) (bx) u0 (((mx.push (1, 0, 0, [])).one tb1).push (8, v30, 0, [])) [] ((jx + 1) + 1) (0) (bx) u0 0 (((mx.push (1, 0, 0, [])).one tb1).push (8, v30, 0, []))) := fun _ => GW.of (gmy61 hSb kd78) rfl
    have rd81 : GR Sx [51, 23] jx 0 (bx) u0 [25] ((jx + 1) + 1) (0) (bx) u0 (0 + 1 + 0 + 0) ([(4, (tkS Sx jx).1, 0, (tkS Sx jx).2.2.2.2)]) := GR.g0 (l := [161]) (ms := []) [25] rd58 pc79
    have rm82 : CN nm mx.rt (uC (cx) (4, (tkS Sx jx).1, 0, (tkS Sx jx).2.2.2.2)) (GW Sx nm rnQ tb1 [51, 23] jx 0 (bx) u0 (mx.push (1, 0, 0, [])) [25] ((jx + 1) + 1) (0) (bx) u0 (0 + 1 + 0 + 0) (((mx.push (1, 0, 0, [])).one tb1).push (8, v30, 0, []))) := CN.gg (l := [161]) (ms := []) [25] rm59 (fun q9 => q9) pm80
    have g76kd : σ63.2.1 85 xq34 = ckd (tkS Sx ((jx + 1) + 1)) := (rfl).symm.trans ((fx77).1.kd (rc_F F72 (Or.inl (by decide)) (by decide) (rc_F F50 (Or.inl (by decide)) (by decide) (rc_F F32 (Or.inl (by decide)) (by decide) (hx35)))))
    refine tn_sipush dX5_assignment_44 (by decide) ?_
    refine tn_icmp_ne (tgt := 70) dX5_assignment_47 (by decide) ⟨by omega, by omega⟩ ⟨by decide, by decide⟩ (fun h83 => ?_) (fun h83 => ?_)
    · refine tn_aload_n dX5_assignment_70 rfl 1 rfl ?_
      refine tn_iload_n dX5_assignment_71 rfl 0 rfl ?_
      have sy84 : (((mx).li)).w = (((mx.push (1, 0, 0, [])).one tb1)).w := rfl
      refine tn_callV (M := m_X5_assignment) (pc := 72) (ix := 207) (ci := 5) (M' := m_X5_setting) (As := [.int (iI v30)]) (rest := []) dX5_assignment_72 ok_X5_setting im_X5_setting se_X5_setting ml5_207 np_X5_setting rfl rfl ha rfl (Nat.le_of_ble_eq_true rfl) (Nat.le_of_ble_eq_true rfl) rfl (k_X5_setting_m (d) (T := T8) (σ := σ63) (a := a) (r := v30) (kp := kp - 4 * v70 + 1) (bx := bx) (nm := nm) (Tg := Tg) (gs := gs) (mx := ((mx.push (1, 0, 0, [])).one tb1)) ha (by omega) w71 fx77 (MG.cg f68 sy84) (MBD.same (MBD.put hmb) sy84) (fun q => absurd q.1 (by omega)) (by omega) rp74) (fun r85 T87 σ86 gt88 hp => ?_)
      obtain ⟨v92, rfl, w93, F94, f89, f90, f91⟩ := hp
      replace ha : OB T87 a 5 := gt88.ob ha
      have rp96 : RP σ86 a (kp - 4 * v70 - 7 * v92 + 1) := RP.up f91 (by omega)
      show Tn _ _ 75 T87 σ86 [(1, .int (iI v30)), (0, .ref a)] [.int (iI v92)] _
      rcases f89 with f89 | f89
      · refine tn_istore_n (L' := [(2, .int (iI v92)), (1, .int (iI v30)), (0, .ref a)]) dX5_assignment_75 rfl (by decide) rfl ?_
        refine tn_aload_n dX5_assignment_76 rfl 2 rfl ?_
        obtain ⟨xq97, hx98, hk99⟩ : ∃ x : Nat, σ86.2.1 35 a = (x : Int) ∧ (T87 x).1 = 31 := wf_35 w93 ha
        have hk99o : OB T87 xq97 1 := ⟨by omega, by rw [hk99]; rfl, by omega⟩
        refine tn_getR (ci := 5) (i := 2) (n := 35) (x := xq97) dX5_assignment_77 rfl lay_5 (by decide) fl5_47 ha rfl rfl (hx98) ?_
        refine tn_bipush dX5_assignment_80 (by decide) ?_
        refine tn_iload_n dX5_assignment_82 rfl 1 rfl ?_
        refine tn_iconst dX5_assignment_83 ?_
        obtain ⟨⟨pl101, g102, fx103⟩, nf104⟩ := f90.2 (by omega)
        have rf105 : GRF Sx [51, 23] jx 0 (bx) u0 (pl101) := GR.fl (l := [25]) [] rd81 g102
        have a35106 : σ86.2.1 35 a = (xq97 : Int) := hx98
        have a351066 : 0 ≤ σ86.2.1 6 xq97 := (wf_6 w93 (code_ob w93 ha a35106)).1.1
        refine tn_callV (M := m_X5_assignment) (pc := 84) (ix := 139) (ci := 1) (M' := m_X1_append) (As := [.int (iI 12), .int (iI v30), .int (iI 0)]) (rest := []) dX5_assignment_84 ok_X1_append im_X1_append se_X1_append ml5_139 np_X1_append rfl rfl hk99o rfl (Nat.le_of_ble_eq_true rfl) (Nat.le_of_ble_eq_true rfl) rfl (k_append_c (d + 48) (T := T87) (σ := σ86) (a := xq97) (k := 12) (p := v30) (q := 0) hk99o hk99 (by decide) (by omega) (by decide) w93 (RP.cnt rp96 w93 ha (hx98) (by omega)) (by omega)) (fun r107 T109 σ108 gt110 hp => ?_)
        obtain ⟨rfl, w115, F116, f111, f112, f113⟩ := hp
        have fx117 : FLC σ108 a (pl101) := FLC.fc fx103 F116 (by decide) (by decide)
        replace ha : OB T109 a 5 := gt110.ob ha
        have rp118 : RP σ108 a (kp - 4 * v70 - 7 * v92 + 1 + 1) := RP.app rp96 (hx98) F116 (by decide) (by decide) (by decide) (by decide) f111
        have rp119 : RP σ108 a (kp - 4 * v70 - 7 * v92 + 2) := RP.up rp118 (by omega)
        have fg120 : FG Tg gs T109 σ108 a := FG.app nf104 (FG.ad nf104 a35106) gt110 f112 f113
        have fg1206 : ∀ c9 : Nat, σ108.2.1 35 a = (c9 : Int) → 1 ≤ σ108.2.1 6 c9 := fun c9 h9 => by
          have e9 := FG.ad fg120 h9
          have e8 := FG.ad nf104 a35106
          have e7 : c9 = xq97 := by omega
          rw [e7]
          have z9 := f111
          have z8 := a351066
          omega
        show Tn _ _ 87 T109 σ108 [(2, .int (iI v92)), (1, .int (iI v30)), (0, .ref a)] [] _
        refine tn_aload_n dX5_assignment_87 rfl 2 rfl ?_
        obtain ⟨xq121, hx122, hk123⟩ : ∃ x : Nat, σ108.2.1 35 a = (x : Int) ∧ (T109 x).1 = 31 := wf_35 w115 ha
        have hk123o : OB T109 xq121 1 := ⟨by omega, by rw [hk123]; rfl, by omega⟩
        refine tn_getR (ci := 5) (i := 2) (n := 35) (x := xq121) dX5_assignment_88 rfl lay_5 (by decide) fl5_47 ha rfl rfl (hx122) ?_
        refine tn_aload_n dX5_assignment_91 rfl 2 rfl ?_
        refine tn_getR (ci := 5) (i := 2) (n := 35) (x := xq121) dX5_assignment_92 rfl lay_5 (by decide) fl5_47 ha rfl rfl (hx122) ?_
        refine tn_getI (ci := 1) (i := 1) (n := 6) (t := σ108.2.1 6 xq121) dX5_assignment_95 rfl lay_1 (by decide) fl5_146 hk123o rfl rfl (rfl) ?_
        have g125 : ((0 : Int) ≤ σ108.2.1 6 xq121 ∧ σ108.2.1 6 xq121 ≤ 5000) ∧ ((T109 xq121).1 = 50 → σ108.2.1 6 xq121 ≤ 200) := wf_6 w115 hk123o
        have g125x := g125.2
        replace g125 := g125.1
        clear g125x
        refine tn_iconst dX5_assignment_98 ?_
        refine tn_isub dX5_assignment_99 ?_
        refine tn_iconst dX5_assignment_100 ?_
        refine tn_iload_n dX5_assignment_101 rfl 1 rfl ?_
        have a35126 : σ108.2.1 35 a = (xq121 : Int) := hx122
        refine tn_callV (M := m_X5_assignment) (pc := 102) (ix := 210) (ci := 1) (M' := m_X1_setWhere) (As := [.int (iI ((σ108.2.1 6 xq121) - 1)), .int (iI 2), .int (iI v30)]) (rest := []) dX5_assignment_102 ok_X1_setWhere im_X1_setWhere se_X1_setWhere ml5_210 np_X1_setWhere rfl rfl hk123o rfl (Nat.le_of_ble_eq_true rfl) (Nat.le_of_ble_eq_true rfl) rfl (k_setWhere_hc (d + 49) (T := T109) (σ := σ108) (a := xq121) (i := (σ108.2.1 6 xq121) - 1) (k := 2) (p := v30) hk123o hk123 (by omega) (by decide) (by omega) w115 (by have z2 : σ108.2.1 6 xq121 = σ108.2.1 6 xq121 := rfl; have z3 := fg1206 xq121 (hx122); have z4 := wf_6 w115 (code_ob w115 ha (hx122)); omega)) (fun r127 T129 σ128 gt130 hp => ?_)
        obtain ⟨rfl, rfl, w133, F134, f131⟩ := hp
        clear gt130
        have fx135 : FLC σ128 a (pl101) := FLC.fc fx117 F134 (by decide) (by decide)
        have rp136 : RP σ128 a (kp - 4 * v70 - 7 * v92 + 2) := RP.frc rp119 F134 (by decide) (by decide) (by decide) (by decide) (by decide)
        have fg137 : FG Tg gs T109 σ128 a := FG.c1 fg120 (FG.ad fg120 a35126) f131
        show Tn _ _ 105 T109 σ128 [(2, .int (iI v92)), (1, .int (iI v30)), (0, .ref a)] [] _
        refine tn_iload_n dX5_assignment_105 rfl 0 rfl ?_
        have rb139 : YF σ128 a Sx bx [51, 23] jx ∧ FG Tg gs T109 σ128 a := ⟨⟨_, rf105, fx135⟩, fg137⟩
        exact tn_zret (v := v92) rfl (by omega) dX5_assignment_106 ⟨_, rfl, w133, (((((((FrC.rfl.trans (FrC.sub F15 (by decide))).trans (FrC.sub (FrC.old F32 gt9) (by decide))).trans (FrC.sub (FrC.old F50 gt9) (by decide))).trans (FrC.sub (FrC.old F72 gt9) (by decide))).trans (FrC.sub (FrC.old F94 gt9) (by decide))).trans (FrC.sub (FrC.old F116 (GT.trans gt9 gt88)) (by decide))).trans (FrC.sub (FrC.old F134 (GT.trans (GT.trans gt9 gt88) gt110)) (by decide))), by omega, ⟨fun q => absurd q (by omega), fun _ => rb139⟩, (RP.up rp136 (by omega))⟩
      · refine tn_istore_n (L' := [(2, .int (iI v92)), (1, .int (iI v30)), (0, .ref a)]) dX5_assignment_75 rfl (by decide) rfl ?_
        refine tn_aload_n dX5_assignment_76 rfl 2 rfl ?_
        obtain ⟨xq140, hx141, hk142⟩ : ∃ x : Nat, σ86.2.1 35 a = (x : Int) ∧ (T87 x).1 = 31 := wf_35 w93 ha
        have hk142o : OB T87 xq140 1 := ⟨by omega, by rw [hk142]; rfl, by omega⟩
        refine tn_getR (ci := 5) (i := 2) (n := 35) (x := xq140) dX5_assignment_77 rfl lay_5 (by decide) fl5_47 ha rfl rfl (hx141) ?_
        refine tn_bipush dX5_assignment_80 (by decide) ?_
        refine tn_iload_n dX5_assignment_82 rfl 1 rfl ?_
        refine tn_iconst dX5_assignment_83 ?_
        obtain ⟨i144, es145, m146, mw147, lo148, rr149, fx150, fx150m, ni151, mgq152, mb153, cn154⟩ := f90.1 (by omega)
        have fx150s : σ86.2.1 45 a ≤ (i144 : Int) := by rw [fx150.e45]; exact fx150m
        have pm155 : CN nm mx.rt (es145.foldl uC (uC (cx) (4, (tkS Sx jx).1, 0, (tkS Sx jx).2.2.2.2))) (GW Sx nm rnQ tb1 [25] ((jx + 1) + 1) (0) (bx) u0 (((mx.push (1, 0, 0, [])).one tb1).push (8, v30, 0, [])) [] i144 (0) (bx) u0 m146 (((mw147).bd (v30)).on ((mx.push (1, 0, 0, [])).one tb1))) := cn154
        have rd156 : GR Sx [51, 23] jx 0 (bx) u0 [] i144 (0) (bx) u0 (0 + 1 + 0 + 0 + m146) ([(4, (tkS Sx jx).1, 0, (tkS Sx jx).2.2.2.2)] ++ es145) := GR.gg (l := [25]) (ms := []) [] rd81 rr149
        have rm157 : CN nm mx.rt (es145.foldl uC (uC (cx) (4, (tkS Sx jx).1, 0, (tkS Sx jx).2.2.2.2))) (GW Sx nm rnQ tb1 [51, 23] jx 0 (bx) u0 (mx.push (1, 0, 0, [])) [] i144 (0) (bx) u0 (0 + 1 + 0 + 0 + m146) (((mw147).bd (v30)).on ((mx.push (1, 0, 0, [])).one tb1))) := CN.gg (l := [25]) (ms := []) [] rm82 (fun q9 => (fun q9 => q9) (NMA.fo ni151 q9)) pm155
        refine tn_callV (M := m_X5_assignment) (pc := 84) (ix := 139) (ci := 1) (M' := m_X1_append) (As := [.int (iI 12), .int (iI v30), .int (iI 0)]) (rest := []) dX5_assignment_84 ok_X1_append im_X1_append se_X1_append ml5_139 np_X1_append rfl rfl hk142o rfl (Nat.le_of_ble_eq_true rfl) (Nat.le_of_ble_eq_true rfl) rfl (k_append_c (d + 48) (T := T87) (σ := σ86) (a := xq140) (k := 12) (p := v30) (q := 0) hk142o hk142 (by decide) (by omega) (by decide) w93 (RP.cnt rp96 w93 ha (hx141) (by omega)) (by omega)) (fun r158 T160 σ159 gt161 hp => ?_)
        obtain ⟨rfl, w166, F167, f162, f163, f164⟩ := hp
        have nn168 : 0 ≤ (mw147).n := by have z7 : WT T87 σ86 := w93; have z6 : σ86.2.1 35 a = (xq140 : Int) := hx141; have z9 := wf_6 z7 (code_ob z7 ha z6); have z8 := MG.e6 mgq152 (MG.cd mgq152 z6); omega
        have a35169 : σ86.2.1 35 a = (xq140 : Int) := hx141
        have fx170 : RDX σ159 a Sx nx i144 (es145.foldl uC (uC (cx) (4, (tkS Sx jx).1, 0, (tkS Sx jx).2.2.2.2))) (Nx + 1 - 1 + m146 + 1) := RDX.ap fx150 w93 ha (hx141) F167 f162
        replace ha : OB T160 a 5 := gt161.ob ha
        have rp171 : RP σ159 a (kp - 4 * v70 - 7 * v92 + 1 + 1) := RP.app rp96 (hx141) F167 (by decide) (by decide) (by decide) (by decide) f162
        have rp172 : RP σ159 a (kp - 4 * v70 - 7 * v92 + 2) := RP.up rp171 (by omega)
        have mg173 : MG Tg gs T160 σ159 a ((mw147).put (rwI (12) (v30) (0))) := MG.app mgq152 (MG.cd mgq152 a35169) gt161 f162 f163 f164 (by omega)
        show Tn _ _ 87 T160 σ159 [(2, .int (iI v92)), (1, .int (iI v30)), (0, .ref a)] [] _
        refine tn_aload_n dX5_assignment_87 rfl 2 rfl ?_
        obtain ⟨xq174, hx175, hk176⟩ : ∃ x : Nat, σ159.2.1 35 a = (x : Int) ∧ (T160 x).1 = 31 := wf_35 w166 ha
        have hk176o : OB T160 xq174 1 := ⟨by omega, by rw [hk176]; rfl, by omega⟩
        refine tn_getR (ci := 5) (i := 2) (n := 35) (x := xq174) dX5_assignment_88 rfl lay_5 (by decide) fl5_47 ha rfl rfl (hx175) ?_
        refine tn_aload_n dX5_assignment_91 rfl 2 rfl ?_
        refine tn_getR (ci := 5) (i := 2) (n := 35) (x := xq174) dX5_assignment_92 rfl lay_5 (by decide) fl5_47 ha rfl rfl (hx175) ?_
        refine tn_getI (ci := 1) (i := 1) (n := 6) (t := σ159.2.1 6 xq174) dX5_assignment_95 rfl lay_1 (by decide) fl5_146 hk176o rfl rfl (rfl) ?_
        have g178 : ((0 : Int) ≤ σ159.2.1 6 xq174 ∧ σ159.2.1 6 xq174 ≤ 5000) ∧ ((T160 xq174).1 = 50 → σ159.2.1 6 xq174 ≤ 200) := wf_6 w166 hk176o
        have g178x := g178.2
        replace g178 := g178.1
        clear g178x
        refine tn_iconst dX5_assignment_98 ?_
        refine tn_isub dX5_assignment_99 ?_
        refine tn_iconst dX5_assignment_100 ?_
        refine tn_iload_n dX5_assignment_101 rfl 1 rfl ?_
        have c6179 : 1 ≤ σ159.2.1 6 xq174 := MG.c1 (m := mw147) mg173 (MG.cd mg173 (hx175)) nn168
        refine tn_callV (M := m_X5_assignment) (pc := 102) (ix := 210) (ci := 1) (M' := m_X1_setWhere) (As := [.int (iI ((σ159.2.1 6 xq174) - 1)), .int (iI 2), .int (iI v30)]) (rest := []) dX5_assignment_102 ok_X1_setWhere im_X1_setWhere se_X1_setWhere ml5_210 np_X1_setWhere rfl rfl hk176o rfl (Nat.le_of_ble_eq_true rfl) (Nat.le_of_ble_eq_true rfl) rfl (k_setWhere_c (d + 49) (T := T160) (σ := σ159) (a := xq174) (i := (σ159.2.1 6 xq174) - 1) (k := 2) (p := v30) hk176o hk176 (by omega) (by decide) (by omega) w166 (by have z2 : σ159.2.1 6 xq174 = σ159.2.1 6 xq174 := rfl; omega)) (fun r180 T182 σ181 gt183 hp => ?_)
        obtain ⟨rfl, rfl, w187, F188, f184, f185⟩ := hp
        clear gt183
        have mg189 : MG Tg gs T160 σ181 a ((mw147).bd (v30)) := MG.sw (m := mw147) mg173 (MG.cd mg173 (show σ159.2.1 35 a = (xq174 : Int) from hx175)) f184 f185 (by have z2 : σ159.2.1 6 xq174 = σ159.2.1 6 xq174 := rfl; omega) nn168
        have fx190 : RDX σ181 a Sx nx i144 (es145.foldl uC (uC (cx) (4, (tkS Sx jx).1, 0, (tkS Sx jx).2.2.2.2))) (Nx + 1 - 1 + m146 + 1) := RDX.fc fx170 w166 ha F188 (by decide) (by decide)
        have rp191 : RP σ181 a (kp - 4 * v70 - 7 * v92 + 2) := RP.frc rp172 F188 (by decide) (by decide) (by decide) (by decide) (by decide)
        show Tn _ _ 105 T160 σ181 [(2, .int (iI v92)), (1, .int (iI v30)), (0, .ref a)] [] _
        refine tn_iload_n dX5_assignment_105 rfl 0 rfl ?_
        have hz196e : (((mw147).bd (v30)).on ((mx.push (1, 0, 0, [])).one tb1)) = (((mw147).bd (v30))).on mx := rfl
        have hz196c : (es145.foldl uC (uC (cx) (4, (tkS Sx jx).1, 0, (tkS Sx jx).2.2.2.2))) = ([(4, (tkS Sx jx).1, 0, (tkS Sx jx).2.2.2.2)] ++ es145).foldl uC cx := (by simp only [List.foldl_append, List.foldl_cons, List.foldl_nil])
        have hz196 : CN nm mx.rt (([(4, (tkS Sx jx).1, 0, (tkS Sx jx).2.2.2.2)] ++ es145).foldl uC cx) (GW Sx nm rnQ tb1 [51, 23] jx 0 (bx) u0 (mx.push (1, 0, 0, [])) [] i144 (0) (bx) u0 (0 + 1 + 0 + 0 + m146) ((((mw147).bd (v30))).on mx)) := by
          have q9 := CN.up (c2 := es145.foldl uC (uC (cx) (4, (tkS Sx jx).1, 0, (tkS Sx jx).2.2.2.2))) rm157 (fun q9 => q9)
          rw [hz196e, hz196c] at q9
          exact q9
        have fe197 := RDX.nq (M := Nx + (0 + 1 + 0 + 0 + m146)) (RDX.cq (c2 := ([(4, (tkS Sx jx).1, 0, (tkS Sx jx).2.2.2.2)] ++ es145).foldl uC cx) fx190 hz196c) (by omega)
        have fe197m : (([(4, (tkS Sx jx).1, 0, (tkS Sx jx).2.2.2.2)] ++ es145).foldl uC cx).m = σ.2.1 45 a := (fe197.e45).symm.trans (rc_F F188 (Or.inl (by decide)) (by decide) (rc_F F167 (Or.inl (by decide)) (by decide) (rc_F F94 (Or.inl (by decide)) (by decide) (rc_F F72 (Or.inl (by decide)) (by decide) (rc_F F50 (Or.inl (by decide)) (by decide) (rc_F F32 (Or.inl (by decide)) (by decide) (rc_F F15 (Or.inl (by decide)) (by decide) (rfl))))))))
        have ra194 : YSM σ181 a Sx nx bx [51, 23] jx cx (Nx) bx [] ((jx : Int) + 1) nm Tg gs T160 mx (mx.push (1, 0, 0, [])) (fun m9 => m9) := ⟨i144, [(4, (tkS Sx jx).1, 0, (tkS Sx jx).2.2.2.2)] ++ es145, 0 + 1 + 0 + 0 + m146, ((mw147).bd (v30)), (by omega), rd156, fe197, by rw [fe197m]; omega, (NI2.app (NI2.one (show (4 : Int) ≠ 2 by decide)) ni151), mg189, (MBD.put mb153), hz196⟩
        exact tn_zret (v := v92) rfl (by omega) dX5_assignment_106 ⟨_, rfl, w187, (((((((FrC.rfl.trans (FrC.sub F15 (by decide))).trans (FrC.sub (FrC.old F32 gt9) (by decide))).trans (FrC.sub (FrC.old F50 gt9) (by decide))).trans (FrC.sub (FrC.old F72 gt9) (by decide))).trans (FrC.sub (FrC.old F94 gt9) (by decide))).trans (FrC.sub (FrC.old F167 (GT.trans gt9 gt88)) (by decide))).trans (FrC.sub (FrC.old F188 (GT.trans (GT.trans gt9 gt88) gt161)) (by decide))), by omega, ⟨fun _ => ra194, fun q => absurd q (by omega)⟩, (RP.up rp191 (by omega))⟩
    · refine tn_aload_n dX5_assignment_50 rfl 1 rfl ?_
      refine tn_getR (ci := 5) (i := 0) (n := 33) (x := xq34) dX5_assignment_51 rfl lay_5 (by decide) fl5_12 ha rfl rfl (rc_F F72 (Or.inl (by decide)) (by decide) (rc_F F50 (Or.inl (by decide)) (by decide) (rc_F F32 (Or.inl (by decide)) (by decide) (hx35)))) ?_
      refine tn_bipush dX5_assignment_54 (by decide) ?_
      refine tn_callV (M := m_X5_assignment) (pc := 56) (ix := 201) (ci := 9) (M' := m_X9_nextIs) (As := [.int (iI 40)]) (rest := []) dX5_assignment_56 ok_X9_nextIs im_X9_nextIs se_X9_nextIs ml5_201 np_X9_nextIs rfl rfl hk36o rfl (Nat.le_of_ble_eq_true rfl) (Nat.le_of_ble_eq_true rfl) rfl (k_X9_nextIs_f (d + 49) (T := T8) (σ := σ63) (a := xq34) (s := 40) hk36o (by decide) w71 ((fx77).1.tk (rc_F F72 (Or.inl (by decide)) (by decide) (rc_F F50 (Or.inl (by decide)) (by decide) (rc_F F32 (Or.inl (by decide)) (by decide) (hx35))))) (by rw [(fx77).1.kd (rc_F F72 (Or.inl (by decide)) (by decide) (rc_F F50 (Or.inl (by decide)) (by decide) (rc_F F32 (Or.inl (by decide)) (by decide) (hx35))))]; omega)) (fun r198 T200 σ199 gt201 hp => ?_)
      obtain ⟨v204, rfl, rfl, rfl, f202, f203⟩ := hp
      clear gt201
      show Tn _ _ 59 T8 σ63 [(1, .int (iI v30)), (0, .ref a)] [.int (iI v204)] _
      refine tn_if_eq (tgt := 70) dX5_assignment_59 (by decide) ⟨by omega, by omega⟩ (fun h205 => ?_) (fun h205 => ?_)
      · refine tn_aload_n dX5_assignment_70 rfl 1 rfl ?_
        refine tn_iload_n dX5_assignment_71 rfl 0 rfl ?_
        have sy206 : (((mx).li)).w = (((mx.push (1, 0, 0, [])).one tb1)).w := rfl
        refine tn_callV (M := m_X5_assignment) (pc := 72) (ix := 207) (ci := 5) (M' := m_X5_setting) (As := [.int (iI v30)]) (rest := []) dX5_assignment_72 ok_X5_setting im_X5_setting se_X5_setting ml5_207 np_X5_setting rfl rfl ha rfl (Nat.le_of_ble_eq_true rfl) (Nat.le_of_ble_eq_true rfl) rfl (k_X5_setting_m (d) (T := T8) (σ := σ63) (a := a) (r := v30) (kp := kp - 4 * v70 + 1) (bx := bx) (nm := nm) (Tg := Tg) (gs := gs) (mx := ((mx.push (1, 0, 0, [])).one tb1)) ha (by omega) w71 fx77 (MG.cg f68 sy206) (MBD.same (MBD.put hmb) sy206) (fun q => f203.2 (by omega) q.2) (by omega) rp74) (fun r207 T209 σ208 gt210 hp => ?_)
        obtain ⟨v214, rfl, w215, F216, f211, f212, f213⟩ := hp
        replace ha : OB T209 a 5 := gt210.ob ha
        have rp218 : RP σ208 a (kp - 4 * v70 - 7 * v214 + 1) := RP.up f213 (by omega)
        show Tn _ _ 75 T209 σ208 [(1, .int (iI v30)), (0, .ref a)] [.int (iI v214)] _
        rcases f211 with f211 | f211
        · refine tn_istore_n (L' := [(2, .int (iI v214)), (1, .int (iI v30)), (0, .ref a)]) dX5_assignment_75 rfl (by decide) rfl ?_
          refine tn_aload_n dX5_assignment_76 rfl 2 rfl ?_
          obtain ⟨xq219, hx220, hk221⟩ : ∃ x : Nat, σ208.2.1 35 a = (x : Int) ∧ (T209 x).1 = 31 := wf_35 w215 ha
          have hk221o : OB T209 xq219 1 := ⟨by omega, by rw [hk221]; rfl, by omega⟩
          refine tn_getR (ci := 5) (i := 2) (n := 35) (x := xq219) dX5_assignment_77 rfl lay_5 (by decide) fl5_47 ha rfl rfl (hx220) ?_
          refine tn_bipush dX5_assignment_80 (by decide) ?_
          refine tn_iload_n dX5_assignment_82 rfl 1 rfl ?_
          refine tn_iconst dX5_assignment_83 ?_
          obtain ⟨⟨pl223, g224, fx225⟩, nf226⟩ := f212.2 (by omega)
          have rf227 : GRF Sx [51, 23] jx 0 (bx) u0 (pl223) := GR.fl (l := [25]) [] rd81 g224
          have a35228 : σ208.2.1 35 a = (xq219 : Int) := hx220
          have a352286 : 0 ≤ σ208.2.1 6 xq219 := (wf_6 w215 (code_ob w215 ha a35228)).1.1
          refine tn_callV (M := m_X5_assignment) (pc := 84) (ix := 139) (ci := 1) (M' := m_X1_append) (As := [.int (iI 12), .int (iI v30), .int (iI 0)]) (rest := []) dX5_assignment_84 ok_X1_append im_X1_append se_X1_append ml5_139 np_X1_append rfl rfl hk221o rfl (Nat.le_of_ble_eq_true rfl) (Nat.le_of_ble_eq_true rfl) rfl (k_append_c (d + 48) (T := T209) (σ := σ208) (a := xq219) (k := 12) (p := v30) (q := 0) hk221o hk221 (by decide) (by omega) (by decide) w215 (RP.cnt rp218 w215 ha (hx220) (by omega)) (by omega)) (fun r229 T231 σ230 gt232 hp => ?_)
          obtain ⟨rfl, w237, F238, f233, f234, f235⟩ := hp
          have fx239 : FLC σ230 a (pl223) := FLC.fc fx225 F238 (by decide) (by decide)
          replace ha : OB T231 a 5 := gt232.ob ha
          have rp240 : RP σ230 a (kp - 4 * v70 - 7 * v214 + 1 + 1) := RP.app rp218 (hx220) F238 (by decide) (by decide) (by decide) (by decide) f233
          have rp241 : RP σ230 a (kp - 4 * v70 - 7 * v214 + 2) := RP.up rp240 (by omega)
          have fg242 : FG Tg gs T231 σ230 a := FG.app nf226 (FG.ad nf226 a35228) gt232 f234 f235
          have fg2426 : ∀ c9 : Nat, σ230.2.1 35 a = (c9 : Int) → 1 ≤ σ230.2.1 6 c9 := fun c9 h9 => by
            have e9 := FG.ad fg242 h9
            have e8 := FG.ad nf226 a35228
            have e7 : c9 = xq219 := by omega
            rw [e7]
            have z9 := f233
            have z8 := a352286
            omega
          show Tn _ _ 87 T231 σ230 [(2, .int (iI v214)), (1, .int (iI v30)), (0, .ref a)] [] _
          refine tn_aload_n dX5_assignment_87 rfl 2 rfl ?_
          obtain ⟨xq243, hx244, hk245⟩ : ∃ x : Nat, σ230.2.1 35 a = (x : Int) ∧ (T231 x).1 = 31 := wf_35 w237 ha
          have hk245o : OB T231 xq243 1 := ⟨by omega, by rw [hk245]; rfl, by omega⟩
          refine tn_getR (ci := 5) (i := 2) (n := 35) (x := xq243) dX5_assignment_88 rfl lay_5 (by decide) fl5_47 ha rfl rfl (hx244) ?_
          refine tn_aload_n dX5_assignment_91 rfl 2 rfl ?_
          refine tn_getR (ci := 5) (i := 2) (n := 35) (x := xq243) dX5_assignment_92 rfl lay_5 (by decide) fl5_47 ha rfl rfl (hx244) ?_
          refine tn_getI (ci := 1) (i := 1) (n := 6) (t := σ230.2.1 6 xq243) dX5_assignment_95 rfl lay_1 (by decide) fl5_146 hk245o rfl rfl (rfl) ?_
          have g247 : ((0 : Int) ≤ σ230.2.1 6 xq243 ∧ σ230.2.1 6 xq243 ≤ 5000) ∧ ((T231 xq243).1 = 50 → σ230.2.1 6 xq243 ≤ 200) := wf_6 w237 hk245o
          have g247x := g247.2
          replace g247 := g247.1
          clear g247x
          refine tn_iconst dX5_assignment_98 ?_
          refine tn_isub dX5_assignment_99 ?_
          refine tn_iconst dX5_assignment_100 ?_
          refine tn_iload_n dX5_assignment_101 rfl 1 rfl ?_
          have a35248 : σ230.2.1 35 a = (xq243 : Int) := hx244
          refine tn_callV (M := m_X5_assignment) (pc := 102) (ix := 210) (ci := 1) (M' := m_X1_setWhere) (As := [.int (iI ((σ230.2.1 6 xq243) - 1)), .int (iI 2), .int (iI v30)]) (rest := []) dX5_assignment_102 ok_X1_setWhere im_X1_setWhere se_X1_setWhere ml5_210 np_X1_setWhere rfl rfl hk245o rfl (Nat.le_of_ble_eq_true rfl) (Nat.le_of_ble_eq_true rfl) rfl (k_setWhere_hc (d + 49) (T := T231) (σ := σ230) (a := xq243) (i := (σ230.2.1 6 xq243) - 1) (k := 2) (p := v30) hk245o hk245 (by omega) (by decide) (by omega) w237 (by have z2 : σ230.2.1 6 xq243 = σ230.2.1 6 xq243 := rfl; have z3 := fg2426 xq243 (hx244); have z4 := wf_6 w237 (code_ob w237 ha (hx244)); omega)) (fun r249 T251 σ250 gt252 hp => ?_)
          obtain ⟨rfl, rfl, w255, F256, f253⟩ := hp
          clear gt252
          have fx257 : FLC σ250 a (pl223) := FLC.fc fx239 F256 (by decide) (by decide)
          have rp258 : RP σ250 a (kp - 4 * v70 - 7 * v214 + 2) := RP.frc rp241 F256 (by decide) (by decide) (by decide) (by decide) (by decide)
          have fg259 : FG Tg gs T231 σ250 a := FG.c1 fg242 (FG.ad fg242 a35248) f253
          show Tn _ _ 105 T231 σ250 [(2, .int (iI v214)), (1, .int (iI v30)), (0, .ref a)] [] _
          refine tn_iload_n dX5_assignment_105 rfl 0 rfl ?_
          have rb261 : YF σ250 a Sx bx [51, 23] jx ∧ FG Tg gs T231 σ250 a := ⟨⟨_, rf227, fx257⟩, fg259⟩
          exact tn_zret (v := v214) rfl (by omega) dX5_assignment_106 ⟨_, rfl, w255, (((((((FrC.rfl.trans (FrC.sub F15 (by decide))).trans (FrC.sub (FrC.old F32 gt9) (by decide))).trans (FrC.sub (FrC.old F50 gt9) (by decide))).trans (FrC.sub (FrC.old F72 gt9) (by decide))).trans (FrC.sub (FrC.old F216 gt9) (by decide))).trans (FrC.sub (FrC.old F238 (GT.trans gt9 gt210)) (by decide))).trans (FrC.sub (FrC.old F256 (GT.trans (GT.trans gt9 gt210) gt232)) (by decide))), by omega, ⟨fun q => absurd q (by omega), fun _ => rb261⟩, (RP.up rp258 (by omega))⟩
        · refine tn_istore_n (L' := [(2, .int (iI v214)), (1, .int (iI v30)), (0, .ref a)]) dX5_assignment_75 rfl (by decide) rfl ?_
          refine tn_aload_n dX5_assignment_76 rfl 2 rfl ?_
          obtain ⟨xq262, hx263, hk264⟩ : ∃ x : Nat, σ208.2.1 35 a = (x : Int) ∧ (T209 x).1 = 31 := wf_35 w215 ha
          have hk264o : OB T209 xq262 1 := ⟨by omega, by rw [hk264]; rfl, by omega⟩
          refine tn_getR (ci := 5) (i := 2) (n := 35) (x := xq262) dX5_assignment_77 rfl lay_5 (by decide) fl5_47 ha rfl rfl (hx263) ?_
          refine tn_bipush dX5_assignment_80 (by decide) ?_
          refine tn_iload_n dX5_assignment_82 rfl 1 rfl ?_
          refine tn_iconst dX5_assignment_83 ?_
          obtain ⟨i266, es267, m268, mw269, lo270, rr271, fx272, fx272m, ni273, mgq274, mb275, cn276⟩ := f212.1 (by omega)
          have fx272s : σ208.2.1 45 a ≤ (i266 : Int) := by rw [fx272.e45]; exact fx272m
          have pm277 : CN nm mx.rt (es267.foldl uC (uC (cx) (4, (tkS Sx jx).1, 0, (tkS Sx jx).2.2.2.2))) (GW Sx nm rnQ tb1 [25] ((jx + 1) + 1) (0) (bx) u0 (((mx.push (1, 0, 0, [])).one tb1).push (8, v30, 0, [])) [] i266 (0) (bx) u0 m268 (((mw269).bd (v30)).on ((mx.push (1, 0, 0, [])).one tb1))) := cn276
          have rd278 : GR Sx [51, 23] jx 0 (bx) u0 [] i266 (0) (bx) u0 (0 + 1 + 0 + 0 + m268) ([(4, (tkS Sx jx).1, 0, (tkS Sx jx).2.2.2.2)] ++ es267) := GR.gg (l := [25]) (ms := []) [] rd81 rr271
          have rm279 : CN nm mx.rt (es267.foldl uC (uC (cx) (4, (tkS Sx jx).1, 0, (tkS Sx jx).2.2.2.2))) (GW Sx nm rnQ tb1 [51, 23] jx 0 (bx) u0 (mx.push (1, 0, 0, [])) [] i266 (0) (bx) u0 (0 + 1 + 0 + 0 + m268) (((mw269).bd (v30)).on ((mx.push (1, 0, 0, [])).one tb1))) := CN.gg (l := [25]) (ms := []) [] rm82 (fun q9 => (fun q9 => q9) (NMA.fo ni273 q9)) pm277
          refine tn_callV (M := m_X5_assignment) (pc := 84) (ix := 139) (ci := 1) (M' := m_X1_append) (As := [.int (iI 12), .int (iI v30), .int (iI 0)]) (rest := []) dX5_assignment_84 ok_X1_append im_X1_append se_X1_append ml5_139 np_X1_append rfl rfl hk264o rfl (Nat.le_of_ble_eq_true rfl) (Nat.le_of_ble_eq_true rfl) rfl (k_append_c (d + 48) (T := T209) (σ := σ208) (a := xq262) (k := 12) (p := v30) (q := 0) hk264o hk264 (by decide) (by omega) (by decide) w215 (RP.cnt rp218 w215 ha (hx263) (by omega)) (by omega)) (fun r280 T282 σ281 gt283 hp => ?_)
          obtain ⟨rfl, w288, F289, f284, f285, f286⟩ := hp
          have nn290 : 0 ≤ (mw269).n := by have z7 : WT T209 σ208 := w215; have z6 : σ208.2.1 35 a = (xq262 : Int) := hx263; have z9 := wf_6 z7 (code_ob z7 ha z6); have z8 := MG.e6 mgq274 (MG.cd mgq274 z6); omega
          have a35291 : σ208.2.1 35 a = (xq262 : Int) := hx263
          have fx292 : RDX σ281 a Sx nx i266 (es267.foldl uC (uC (cx) (4, (tkS Sx jx).1, 0, (tkS Sx jx).2.2.2.2))) (Nx + 1 - 1 + m268 + 1) := RDX.ap fx272 w215 ha (hx263) F289 f284
          replace ha : OB T282 a 5 := gt283.ob ha
          have rp293 : RP σ281 a (kp - 4 * v70 - 7 * v214 + 1 + 1) := RP.app rp218 (hx263) F289 (by decide) (by decide) (by decide) (by decide) f284
          have rp294 : RP σ281 a (kp - 4 * v70 - 7 * v214 + 2) := RP.up rp293 (by omega)
          have mg295 : MG Tg gs T282 σ281 a ((mw269).put (rwI (12) (v30) (0))) := MG.app mgq274 (MG.cd mgq274 a35291) gt283 f284 f285 f286 (by omega)
          show Tn _ _ 87 T282 σ281 [(2, .int (iI v214)), (1, .int (iI v30)), (0, .ref a)] [] _
          refine tn_aload_n dX5_assignment_87 rfl 2 rfl ?_
          obtain ⟨xq296, hx297, hk298⟩ : ∃ x : Nat, σ281.2.1 35 a = (x : Int) ∧ (T282 x).1 = 31 := wf_35 w288 ha
          have hk298o : OB T282 xq296 1 := ⟨by omega, by rw [hk298]; rfl, by omega⟩
          refine tn_getR (ci := 5) (i := 2) (n := 35) (x := xq296) dX5_assignment_88 rfl lay_5 (by decide) fl5_47 ha rfl rfl (hx297) ?_
          refine tn_aload_n dX5_assignment_91 rfl 2 rfl ?_
          refine tn_getR (ci := 5) (i := 2) (n := 35) (x := xq296) dX5_assignment_92 rfl lay_5 (by decide) fl5_47 ha rfl rfl (hx297) ?_
          refine tn_getI (ci := 1) (i := 1) (n := 6) (t := σ281.2.1 6 xq296) dX5_assignment_95 rfl lay_1 (by decide) fl5_146 hk298o rfl rfl (rfl) ?_
          have g300 : ((0 : Int) ≤ σ281.2.1 6 xq296 ∧ σ281.2.1 6 xq296 ≤ 5000) ∧ ((T282 xq296).1 = 50 → σ281.2.1 6 xq296 ≤ 200) := wf_6 w288 hk298o
          have g300x := g300.2
          replace g300 := g300.1
          clear g300x
          refine tn_iconst dX5_assignment_98 ?_
          refine tn_isub dX5_assignment_99 ?_
          refine tn_iconst dX5_assignment_100 ?_
          refine tn_iload_n dX5_assignment_101 rfl 1 rfl ?_
          have c6301 : 1 ≤ σ281.2.1 6 xq296 := MG.c1 (m := mw269) mg295 (MG.cd mg295 (hx297)) nn290
          refine tn_callV (M := m_X5_assignment) (pc := 102) (ix := 210) (ci := 1) (M' := m_X1_setWhere) (As := [.int (iI ((σ281.2.1 6 xq296) - 1)), .int (iI 2), .int (iI v30)]) (rest := []) dX5_assignment_102 ok_X1_setWhere im_X1_setWhere se_X1_setWhere ml5_210 np_X1_setWhere rfl rfl hk298o rfl (Nat.le_of_ble_eq_true rfl) (Nat.le_of_ble_eq_true rfl) rfl (k_setWhere_c (d + 49) (T := T282) (σ := σ281) (a := xq296) (i := (σ281.2.1 6 xq296) - 1) (k := 2) (p := v30) hk298o hk298 (by omega) (by decide) (by omega) w288 (by have z2 : σ281.2.1 6 xq296 = σ281.2.1 6 xq296 := rfl; omega)) (fun r302 T304 σ303 gt305 hp => ?_)
          obtain ⟨rfl, rfl, w309, F310, f306, f307⟩ := hp
          clear gt305
          have mg311 : MG Tg gs T282 σ303 a ((mw269).bd (v30)) := MG.sw (m := mw269) mg295 (MG.cd mg295 (show σ281.2.1 35 a = (xq296 : Int) from hx297)) f306 f307 (by have z2 : σ281.2.1 6 xq296 = σ281.2.1 6 xq296 := rfl; omega) nn290
          have fx312 : RDX σ303 a Sx nx i266 (es267.foldl uC (uC (cx) (4, (tkS Sx jx).1, 0, (tkS Sx jx).2.2.2.2))) (Nx + 1 - 1 + m268 + 1) := RDX.fc fx292 w288 ha F310 (by decide) (by decide)
          have rp313 : RP σ303 a (kp - 4 * v70 - 7 * v214 + 2) := RP.frc rp294 F310 (by decide) (by decide) (by decide) (by decide) (by decide)
          show Tn _ _ 105 T282 σ303 [(2, .int (iI v214)), (1, .int (iI v30)), (0, .ref a)] [] _
          refine tn_iload_n dX5_assignment_105 rfl 0 rfl ?_
          have hz318e : (((mw269).bd (v30)).on ((mx.push (1, 0, 0, [])).one tb1)) = (((mw269).bd (v30))).on mx := rfl
          have hz318c : (es267.foldl uC (uC (cx) (4, (tkS Sx jx).1, 0, (tkS Sx jx).2.2.2.2))) = ([(4, (tkS Sx jx).1, 0, (tkS Sx jx).2.2.2.2)] ++ es267).foldl uC cx := (by simp only [List.foldl_append, List.foldl_cons, List.foldl_nil])
          have hz318 : CN nm mx.rt (([(4, (tkS Sx jx).1, 0, (tkS Sx jx).2.2.2.2)] ++ es267).foldl uC cx) (GW Sx nm rnQ tb1 [51, 23] jx 0 (bx) u0 (mx.push (1, 0, 0, [])) [] i266 (0) (bx) u0 (0 + 1 + 0 + 0 + m268) ((((mw269).bd (v30))).on mx)) := by
            have q9 := CN.up (c2 := es267.foldl uC (uC (cx) (4, (tkS Sx jx).1, 0, (tkS Sx jx).2.2.2.2))) rm279 (fun q9 => q9)
            rw [hz318e, hz318c] at q9
            exact q9
          have fe319 := RDX.nq (M := Nx + (0 + 1 + 0 + 0 + m268)) (RDX.cq (c2 := ([(4, (tkS Sx jx).1, 0, (tkS Sx jx).2.2.2.2)] ++ es267).foldl uC cx) fx312 hz318c) (by omega)
          have fe319m : (([(4, (tkS Sx jx).1, 0, (tkS Sx jx).2.2.2.2)] ++ es267).foldl uC cx).m = σ.2.1 45 a := (fe319.e45).symm.trans (rc_F F310 (Or.inl (by decide)) (by decide) (rc_F F289 (Or.inl (by decide)) (by decide) (rc_F F216 (Or.inl (by decide)) (by decide) (rc_F F72 (Or.inl (by decide)) (by decide) (rc_F F50 (Or.inl (by decide)) (by decide) (rc_F F32 (Or.inl (by decide)) (by decide) (rc_F F15 (Or.inl (by decide)) (by decide) (rfl))))))))
          have ra316 : YSM σ303 a Sx nx bx [51, 23] jx cx (Nx) bx [] ((jx : Int) + 1) nm Tg gs T282 mx (mx.push (1, 0, 0, [])) (fun m9 => m9) := ⟨i266, [(4, (tkS Sx jx).1, 0, (tkS Sx jx).2.2.2.2)] ++ es267, 0 + 1 + 0 + 0 + m268, ((mw269).bd (v30)), (by omega), rd278, fe319, by rw [fe319m]; omega, (NI2.app (NI2.one (show (4 : Int) ≠ 2 by decide)) ni273), mg311, (MBD.put mb275), hz318⟩
          exact tn_zret (v := v214) rfl (by omega) dX5_assignment_106 ⟨_, rfl, w309, (((((((FrC.rfl.trans (FrC.sub F15 (by decide))).trans (FrC.sub (FrC.old F32 gt9) (by decide))).trans (FrC.sub (FrC.old F50 gt9) (by decide))).trans (FrC.sub (FrC.old F72 gt9) (by decide))).trans (FrC.sub (FrC.old F216 gt9) (by decide))).trans (FrC.sub (FrC.old F289 (GT.trans gt9 gt210)) (by decide))).trans (FrC.sub (FrC.old F310 (GT.trans (GT.trans gt9 gt210) gt283)) (by decide))), by omega, ⟨fun _ => ra316, fun q => absurd q (by omega)⟩, (RP.up rp313 (by omega))⟩
      · refine tn_aload_n dX5_assignment_62 rfl 1 rfl ?_
        refine tn_iload_n dX5_assignment_63 rfl 0 rfl ?_
        have sy320 : (((mx).li)).w = (((mx.push (1, 0, 0, [])).one tb1)).w := rfl
        have q42321 : (uC (cx) (4, (tkS Sx jx).1, 0, (tkS Sx jx).2.2.2.2)).cn = σ.2.1 42 a := (fx77.1.2.1.1.2.2.2.1).symm.trans (rc_F F72 (Or.inl (by decide)) (by decide) (rc_F F50 (Or.inl (by decide)) (by decide) (rc_F F32 (Or.inl (by decide)) (by decide) (rc_F F15 (Or.inl (by decide)) (by decide) (rfl)))))
        refine tn_callV (M := m_X5_assignment) (pc := 64) (ix := 204) (ci := 5) (M' := m_X5_call) (As := [.int (iI v30)]) (rest := []) dX5_assignment_64 ok_X5_call im_X5_call se_X5_call ml5_204 np_X5_call rfl rfl ha rfl (Nat.le_of_ble_eq_true rfl) (Nat.le_of_ble_eq_true rfl) rfl (k_X5_call_m (d) (T := T8) (σ := σ63) (a := a) (r := v30) (kp := kp - 4 * v70 + 1) (bx := bx) (nm := nm) (Tg := Tg) (gs := gs) (mx := ((mx.push (1, 0, 0, [])).one tb1)) ha (by omega) w71 fx77 (MG.cg f68 sy320) (MBD.same (MBD.put hmb) sy320) hgf (by omega) (f203.1 (by omega)) (by rw [q42321]; omega) (by omega) rp74) (fun r322 T324 σ323 gt325 hp => ?_)
        obtain ⟨v329, rfl, w330, F331, f326, f327, f328⟩ := hp
        replace ha : OB T324 a 5 := gt325.ob ha
        have rp333 : RP σ323 a (kp - 4 * v70 - 7 * v329 + 1) := RP.up f328 (by omega)
        show Tn _ _ 67 T324 σ323 [(1, .int (iI v30)), (0, .ref a)] [.int (iI v329)] _
        rcases f326 with f326 | f326
        · refine tn_goto (tgt := 75) dX5_assignment_67 (by decide) ?_
          refine tn_istore_n (L' := [(2, .int (iI v329)), (1, .int (iI v30)), (0, .ref a)]) dX5_assignment_75 rfl (by decide) rfl ?_
          refine tn_aload_n dX5_assignment_76 rfl 2 rfl ?_
          obtain ⟨xq334, hx335, hk336⟩ : ∃ x : Nat, σ323.2.1 35 a = (x : Int) ∧ (T324 x).1 = 31 := wf_35 w330 ha
          have hk336o : OB T324 xq334 1 := ⟨by omega, by rw [hk336]; rfl, by omega⟩
          refine tn_getR (ci := 5) (i := 2) (n := 35) (x := xq334) dX5_assignment_77 rfl lay_5 (by decide) fl5_47 ha rfl rfl (hx335) ?_
          refine tn_bipush dX5_assignment_80 (by decide) ?_
          refine tn_iload_n dX5_assignment_82 rfl 1 rfl ?_
          refine tn_iconst dX5_assignment_83 ?_
          obtain ⟨⟨pl338, g339, fx340⟩, nf341⟩ := f327.2 (by omega)
          have rf342 : GRF Sx [51, 23] jx 0 (bx) u0 (pl338) := GR.fl (l := [25]) [] rd81 g339
          have a35343 : σ323.2.1 35 a = (xq334 : Int) := hx335
          have a353436 : 0 ≤ σ323.2.1 6 xq334 := (wf_6 w330 (code_ob w330 ha a35343)).1.1
          refine tn_callV (M := m_X5_assignment) (pc := 84) (ix := 139) (ci := 1) (M' := m_X1_append) (As := [.int (iI 12), .int (iI v30), .int (iI 0)]) (rest := []) dX5_assignment_84 ok_X1_append im_X1_append se_X1_append ml5_139 np_X1_append rfl rfl hk336o rfl (Nat.le_of_ble_eq_true rfl) (Nat.le_of_ble_eq_true rfl) rfl (k_append_c (d + 48) (T := T324) (σ := σ323) (a := xq334) (k := 12) (p := v30) (q := 0) hk336o hk336 (by decide) (by omega) (by decide) w330 (RP.cnt rp333 w330 ha (hx335) (by omega)) (by omega)) (fun r344 T346 σ345 gt347 hp => ?_)
          obtain ⟨rfl, w352, F353, f348, f349, f350⟩ := hp
          have fx354 : FLC σ345 a (pl338) := FLC.fc fx340 F353 (by decide) (by decide)
          replace ha : OB T346 a 5 := gt347.ob ha
          have rp355 : RP σ345 a (kp - 4 * v70 - 7 * v329 + 1 + 1) := RP.app rp333 (hx335) F353 (by decide) (by decide) (by decide) (by decide) f348
          have rp356 : RP σ345 a (kp - 4 * v70 - 7 * v329 + 2) := RP.up rp355 (by omega)
          have fg357 : FG Tg gs T346 σ345 a := FG.app nf341 (FG.ad nf341 a35343) gt347 f349 f350
          have fg3576 : ∀ c9 : Nat, σ345.2.1 35 a = (c9 : Int) → 1 ≤ σ345.2.1 6 c9 := fun c9 h9 => by
            have e9 := FG.ad fg357 h9
            have e8 := FG.ad nf341 a35343
            have e7 : c9 = xq334 := by omega
            rw [e7]
            have z9 := f348
            have z8 := a353436
            omega
          show Tn _ _ 87 T346 σ345 [(2, .int (iI v329)), (1, .int (iI v30)), (0, .ref a)] [] _
          refine tn_aload_n dX5_assignment_87 rfl 2 rfl ?_
          obtain ⟨xq358, hx359, hk360⟩ : ∃ x : Nat, σ345.2.1 35 a = (x : Int) ∧ (T346 x).1 = 31 := wf_35 w352 ha
          have hk360o : OB T346 xq358 1 := ⟨by omega, by rw [hk360]; rfl, by omega⟩
          refine tn_getR (ci := 5) (i := 2) (n := 35) (x := xq358) dX5_assignment_88 rfl lay_5 (by decide) fl5_47 ha rfl rfl (hx359) ?_
          refine tn_aload_n dX5_assignment_91 rfl 2 rfl ?_
          refine tn_getR (ci := 5) (i := 2) (n := 35) (x := xq358) dX5_assignment_92 rfl lay_5 (by decide) fl5_47 ha rfl rfl (hx359) ?_
          refine tn_getI (ci := 1) (i := 1) (n := 6) (t := σ345.2.1 6 xq358) dX5_assignment_95 rfl lay_1 (by decide) fl5_146 hk360o rfl rfl (rfl) ?_
          have g362 : ((0 : Int) ≤ σ345.2.1 6 xq358 ∧ σ345.2.1 6 xq358 ≤ 5000) ∧ ((T346 xq358).1 = 50 → σ345.2.1 6 xq358 ≤ 200) := wf_6 w352 hk360o
          have g362x := g362.2
          replace g362 := g362.1
          clear g362x
          refine tn_iconst dX5_assignment_98 ?_
          refine tn_isub dX5_assignment_99 ?_
          refine tn_iconst dX5_assignment_100 ?_
          refine tn_iload_n dX5_assignment_101 rfl 1 rfl ?_
          have a35363 : σ345.2.1 35 a = (xq358 : Int) := hx359
          refine tn_callV (M := m_X5_assignment) (pc := 102) (ix := 210) (ci := 1) (M' := m_X1_setWhere) (As := [.int (iI ((σ345.2.1 6 xq358) - 1)), .int (iI 2), .int (iI v30)]) (rest := []) dX5_assignment_102 ok_X1_setWhere im_X1_setWhere se_X1_setWhere ml5_210 np_X1_setWhere rfl rfl hk360o rfl (Nat.le_of_ble_eq_true rfl) (Nat.le_of_ble_eq_true rfl) rfl (k_setWhere_hc (d + 49) (T := T346) (σ := σ345) (a := xq358) (i := (σ345.2.1 6 xq358) - 1) (k := 2) (p := v30) hk360o hk360 (by omega) (by decide) (by omega) w352 (by have z2 : σ345.2.1 6 xq358 = σ345.2.1 6 xq358 := rfl; have z3 := fg3576 xq358 (hx359); have z4 := wf_6 w352 (code_ob w352 ha (hx359)); omega)) (fun r364 T366 σ365 gt367 hp => ?_)
          obtain ⟨rfl, rfl, w370, F371, f368⟩ := hp
          clear gt367
          have fx372 : FLC σ365 a (pl338) := FLC.fc fx354 F371 (by decide) (by decide)
          have rp373 : RP σ365 a (kp - 4 * v70 - 7 * v329 + 2) := RP.frc rp356 F371 (by decide) (by decide) (by decide) (by decide) (by decide)
          have fg374 : FG Tg gs T346 σ365 a := FG.c1 fg357 (FG.ad fg357 a35363) f368
          show Tn _ _ 105 T346 σ365 [(2, .int (iI v329)), (1, .int (iI v30)), (0, .ref a)] [] _
          refine tn_iload_n dX5_assignment_105 rfl 0 rfl ?_
          have rb376 : YF σ365 a Sx bx [51, 23] jx ∧ FG Tg gs T346 σ365 a := ⟨⟨_, rf342, fx372⟩, fg374⟩
          exact tn_zret (v := v329) rfl (by omega) dX5_assignment_106 ⟨_, rfl, w370, (((((((FrC.rfl.trans (FrC.sub F15 (by decide))).trans (FrC.sub (FrC.old F32 gt9) (by decide))).trans (FrC.sub (FrC.old F50 gt9) (by decide))).trans (FrC.sub (FrC.old F72 gt9) (by decide))).trans (FrC.sub (FrC.old F331 gt9) (by decide))).trans (FrC.sub (FrC.old F353 (GT.trans gt9 gt325)) (by decide))).trans (FrC.sub (FrC.old F371 (GT.trans (GT.trans gt9 gt325) gt347)) (by decide))), by omega, ⟨fun q => absurd q (by omega), fun _ => rb376⟩, (RP.up rp373 (by omega))⟩
        · refine tn_goto (tgt := 75) dX5_assignment_67 (by decide) ?_
          refine tn_istore_n (L' := [(2, .int (iI v329)), (1, .int (iI v30)), (0, .ref a)]) dX5_assignment_75 rfl (by decide) rfl ?_
          refine tn_aload_n dX5_assignment_76 rfl 2 rfl ?_
          obtain ⟨xq377, hx378, hk379⟩ : ∃ x : Nat, σ323.2.1 35 a = (x : Int) ∧ (T324 x).1 = 31 := wf_35 w330 ha
          have hk379o : OB T324 xq377 1 := ⟨by omega, by rw [hk379]; rfl, by omega⟩
          refine tn_getR (ci := 5) (i := 2) (n := 35) (x := xq377) dX5_assignment_77 rfl lay_5 (by decide) fl5_47 ha rfl rfl (hx378) ?_
          refine tn_bipush dX5_assignment_80 (by decide) ?_
          refine tn_iload_n dX5_assignment_82 rfl 1 rfl ?_
          refine tn_iconst dX5_assignment_83 ?_
          obtain ⟨i381, es382, m383, mw384, lo385, rr386, fx387, fx387m, ni388, mgq389, mb390, cn391⟩ := f327.1 (by omega)
          have fx387s : σ323.2.1 45 a ≤ (i381 : Int) := by rw [fx387.e45]; exact fx387m
          have pm392 : CN nm mx.rt (es382.foldl uC (uC (cx) (4, (tkS Sx jx).1, 0, (tkS Sx jx).2.2.2.2))) (GW Sx nm rnQ tb1 [25] ((jx + 1) + 1) (0) (bx) u0 (((mx.push (1, 0, 0, [])).one tb1).push (8, v30, 0, [])) [] i381 (0) (bx) u0 m383 (((mw384).bd (v30)).on ((mx.push (1, 0, 0, [])).one tb1))) := cn391
          have rd393 : GR Sx [51, 23] jx 0 (bx) u0 [] i381 (0) (bx) u0 (0 + 1 + 0 + 0 + m383) ([(4, (tkS Sx jx).1, 0, (tkS Sx jx).2.2.2.2)] ++ es382) := GR.gg (l := [25]) (ms := []) [] rd81 rr386
          have rm394 : CN nm mx.rt (es382.foldl uC (uC (cx) (4, (tkS Sx jx).1, 0, (tkS Sx jx).2.2.2.2))) (GW Sx nm rnQ tb1 [51, 23] jx 0 (bx) u0 (mx.push (1, 0, 0, [])) [] i381 (0) (bx) u0 (0 + 1 + 0 + 0 + m383) (((mw384).bd (v30)).on ((mx.push (1, 0, 0, [])).one tb1))) := CN.gg (l := [25]) (ms := []) [] rm82 (fun q9 => (fun q9 => q9) (NMA.fo ni388 q9)) pm392
          refine tn_callV (M := m_X5_assignment) (pc := 84) (ix := 139) (ci := 1) (M' := m_X1_append) (As := [.int (iI 12), .int (iI v30), .int (iI 0)]) (rest := []) dX5_assignment_84 ok_X1_append im_X1_append se_X1_append ml5_139 np_X1_append rfl rfl hk379o rfl (Nat.le_of_ble_eq_true rfl) (Nat.le_of_ble_eq_true rfl) rfl (k_append_c (d + 48) (T := T324) (σ := σ323) (a := xq377) (k := 12) (p := v30) (q := 0) hk379o hk379 (by decide) (by omega) (by decide) w330 (RP.cnt rp333 w330 ha (hx378) (by omega)) (by omega)) (fun r395 T397 σ396 gt398 hp => ?_)
          obtain ⟨rfl, w403, F404, f399, f400, f401⟩ := hp
          have nn405 : 0 ≤ (mw384).n := by have z7 : WT T324 σ323 := w330; have z6 : σ323.2.1 35 a = (xq377 : Int) := hx378; have z9 := wf_6 z7 (code_ob z7 ha z6); have z8 := MG.e6 mgq389 (MG.cd mgq389 z6); omega
          have a35406 : σ323.2.1 35 a = (xq377 : Int) := hx378
          have fx407 : RDX σ396 a Sx nx i381 (es382.foldl uC (uC (cx) (4, (tkS Sx jx).1, 0, (tkS Sx jx).2.2.2.2))) (Nx + 1 - 1 + m383 + 1) := RDX.ap fx387 w330 ha (hx378) F404 f399
          replace ha : OB T397 a 5 := gt398.ob ha
          have rp408 : RP σ396 a (kp - 4 * v70 - 7 * v329 + 1 + 1) := RP.app rp333 (hx378) F404 (by decide) (by decide) (by decide) (by decide) f399
          have rp409 : RP σ396 a (kp - 4 * v70 - 7 * v329 + 2) := RP.up rp408 (by omega)
          have mg410 : MG Tg gs T397 σ396 a ((mw384).put (rwI (12) (v30) (0))) := MG.app mgq389 (MG.cd mgq389 a35406) gt398 f399 f400 f401 (by omega)
          show Tn _ _ 87 T397 σ396 [(2, .int (iI v329)), (1, .int (iI v30)), (0, .ref a)] [] _
          refine tn_aload_n dX5_assignment_87 rfl 2 rfl ?_
          obtain ⟨xq411, hx412, hk413⟩ : ∃ x : Nat, σ396.2.1 35 a = (x : Int) ∧ (T397 x).1 = 31 := wf_35 w403 ha
          have hk413o : OB T397 xq411 1 := ⟨by omega, by rw [hk413]; rfl, by omega⟩
          refine tn_getR (ci := 5) (i := 2) (n := 35) (x := xq411) dX5_assignment_88 rfl lay_5 (by decide) fl5_47 ha rfl rfl (hx412) ?_
          refine tn_aload_n dX5_assignment_91 rfl 2 rfl ?_
          refine tn_getR (ci := 5) (i := 2) (n := 35) (x := xq411) dX5_assignment_92 rfl lay_5 (by decide) fl5_47 ha rfl rfl (hx412) ?_
          refine tn_getI (ci := 1) (i := 1) (n := 6) (t := σ396.2.1 6 xq411) dX5_assignment_95 rfl lay_1 (by decide) fl5_146 hk413o rfl rfl (rfl) ?_
          have g415 : ((0 : Int) ≤ σ396.2.1 6 xq411 ∧ σ396.2.1 6 xq411 ≤ 5000) ∧ ((T397 xq411).1 = 50 → σ396.2.1 6 xq411 ≤ 200) := wf_6 w403 hk413o
          have g415x := g415.2
          replace g415 := g415.1
          clear g415x
          refine tn_iconst dX5_assignment_98 ?_
          refine tn_isub dX5_assignment_99 ?_
          refine tn_iconst dX5_assignment_100 ?_
          refine tn_iload_n dX5_assignment_101 rfl 1 rfl ?_
          have c6416 : 1 ≤ σ396.2.1 6 xq411 := MG.c1 (m := mw384) mg410 (MG.cd mg410 (hx412)) nn405
          refine tn_callV (M := m_X5_assignment) (pc := 102) (ix := 210) (ci := 1) (M' := m_X1_setWhere) (As := [.int (iI ((σ396.2.1 6 xq411) - 1)), .int (iI 2), .int (iI v30)]) (rest := []) dX5_assignment_102 ok_X1_setWhere im_X1_setWhere se_X1_setWhere ml5_210 np_X1_setWhere rfl rfl hk413o rfl (Nat.le_of_ble_eq_true rfl) (Nat.le_of_ble_eq_true rfl) rfl (k_setWhere_c (d + 49) (T := T397) (σ := σ396) (a := xq411) (i := (σ396.2.1 6 xq411) - 1) (k := 2) (p := v30) hk413o hk413 (by omega) (by decide) (by omega) w403 (by have z2 : σ396.2.1 6 xq411 = σ396.2.1 6 xq411 := rfl; omega)) (fun r417 T419 σ418 gt420 hp => ?_)
          obtain ⟨rfl, rfl, w424, F425, f421, f422⟩ := hp
          clear gt420
          have mg426 : MG Tg gs T397 σ418 a ((mw384).bd (v30)) := MG.sw (m := mw384) mg410 (MG.cd mg410 (show σ396.2.1 35 a = (xq411 : Int) from hx412)) f421 f422 (by have z2 : σ396.2.1 6 xq411 = σ396.2.1 6 xq411 := rfl; omega) nn405
          have fx427 : RDX σ418 a Sx nx i381 (es382.foldl uC (uC (cx) (4, (tkS Sx jx).1, 0, (tkS Sx jx).2.2.2.2))) (Nx + 1 - 1 + m383 + 1) := RDX.fc fx407 w403 ha F425 (by decide) (by decide)
          have rp428 : RP σ418 a (kp - 4 * v70 - 7 * v329 + 2) := RP.frc rp409 F425 (by decide) (by decide) (by decide) (by decide) (by decide)
          show Tn _ _ 105 T397 σ418 [(2, .int (iI v329)), (1, .int (iI v30)), (0, .ref a)] [] _
          refine tn_iload_n dX5_assignment_105 rfl 0 rfl ?_
          have hz433e : (((mw384).bd (v30)).on ((mx.push (1, 0, 0, [])).one tb1)) = (((mw384).bd (v30))).on mx := rfl
          have hz433c : (es382.foldl uC (uC (cx) (4, (tkS Sx jx).1, 0, (tkS Sx jx).2.2.2.2))) = ([(4, (tkS Sx jx).1, 0, (tkS Sx jx).2.2.2.2)] ++ es382).foldl uC cx := (by simp only [List.foldl_append, List.foldl_cons, List.foldl_nil])
          have hz433 : CN nm mx.rt (([(4, (tkS Sx jx).1, 0, (tkS Sx jx).2.2.2.2)] ++ es382).foldl uC cx) (GW Sx nm rnQ tb1 [51, 23] jx 0 (bx) u0 (mx.push (1, 0, 0, [])) [] i381 (0) (bx) u0 (0 + 1 + 0 + 0 + m383) ((((mw384).bd (v30))).on mx)) := by
            have q9 := CN.up (c2 := es382.foldl uC (uC (cx) (4, (tkS Sx jx).1, 0, (tkS Sx jx).2.2.2.2))) rm394 (fun q9 => q9)
            rw [hz433e, hz433c] at q9
            exact q9
          have fe434 := RDX.nq (M := Nx + (0 + 1 + 0 + 0 + m383)) (RDX.cq (c2 := ([(4, (tkS Sx jx).1, 0, (tkS Sx jx).2.2.2.2)] ++ es382).foldl uC cx) fx427 hz433c) (by omega)
          have fe434m : (([(4, (tkS Sx jx).1, 0, (tkS Sx jx).2.2.2.2)] ++ es382).foldl uC cx).m = σ.2.1 45 a := (fe434.e45).symm.trans (rc_F F425 (Or.inl (by decide)) (by decide) (rc_F F404 (Or.inl (by decide)) (by decide) (rc_F F331 (Or.inl (by decide)) (by decide) (rc_F F72 (Or.inl (by decide)) (by decide) (rc_F F50 (Or.inl (by decide)) (by decide) (rc_F F32 (Or.inl (by decide)) (by decide) (rc_F F15 (Or.inl (by decide)) (by decide) (rfl))))))))
          have ra431 : YSM σ418 a Sx nx bx [51, 23] jx cx (Nx) bx [] ((jx : Int) + 1) nm Tg gs T397 mx (mx.push (1, 0, 0, [])) (fun m9 => m9) := ⟨i381, [(4, (tkS Sx jx).1, 0, (tkS Sx jx).2.2.2.2)] ++ es382, 0 + 1 + 0 + 0 + m383, ((mw384).bd (v30)), (by omega), rd393, fe434, by rw [fe434m]; omega, (NI2.app (NI2.one (show (4 : Int) ≠ 2 by decide)) ni388), mg426, (MBD.put mb390), hz433⟩
          exact tn_zret (v := v329) rfl (by omega) dX5_assignment_106 ⟨_, rfl, w424, (((((((FrC.rfl.trans (FrC.sub F15 (by decide))).trans (FrC.sub (FrC.old F32 gt9) (by decide))).trans (FrC.sub (FrC.old F50 gt9) (by decide))).trans (FrC.sub (FrC.old F72 gt9) (by decide))).trans (FrC.sub (FrC.old F331 gt9) (by decide))).trans (FrC.sub (FrC.old F404 (GT.trans gt9 gt325)) (by decide))).trans (FrC.sub (FrC.old F425 (GT.trans (GT.trans gt9 gt325) gt398)) (by decide))), by omega, ⟨fun _ => ra431, fun q => absurd q (by omega)⟩, (RP.up rp428 (by omega))⟩
  · refine tn_iconst dX5_assignment_35 ?_
    obtain ⟨kd437, fx438, tk439⟩ := f67.2 (by omega)
    have pc440 : GRF Sx [161] (jx + 1) (0) (bx) u0 (tkS Sx (jx + 1)).1 := z61 hSb kd437
    have rf441 : GRF Sx [51, 23] jx 0 (bx) u0 ((tkS Sx (jx + 1)).1) := GR.fl (l := [161]) [25] rd58 pc440
    have rb436 : YF σ63 a Sx bx [51, 23] jx ∧ FG Tg gs T8 σ63 a := ⟨⟨_, rf441, fx438⟩, (f68).1⟩
    exact tn_zret (v := 0) rfl (by decide) dX5_assignment_36 ⟨_, rfl, w71, ((((FrC.rfl.trans (FrC.sub F15 (by decide))).trans (FrC.sub (FrC.old F32 gt9) (by decide))).trans (FrC.sub (FrC.old F50 gt9) (by decide))).trans (FrC.sub (FrC.old F72 gt9) (by decide))), by omega, ⟨fun q => absurd q (by decide), fun _ => rb436⟩, (RP.up rp74 (by omega))⟩
end
section
set_option maxHeartbeats 1000000 in
set_option maxRecDepth 20000 in
theorem k_X5_choice_m (d : Nat) {T : CT} {σ : MS} {a : Nat} {dp : Int} {kp : Int} {lv : Nat} {Sx : Int → Int} {nx jx : Nat} {cx : CS} {Nx : Int} {Tg : CT} {gs : MS} {mx : MK} {nm : Int → Int64 → Int} {bx : Int} (ha : OB T a 5) (h_dp : -2147483648 ≤ dp ∧ dp ≤ 2147483647) (hw : WT T σ) (hex : ∀ (d : Nat) {T : CT} {σ : MS} {a : Nat} {dp : Int} {kp : Int} {Sx : Int → Int} {nx jx : Nat} {cx : CS} {Nx : Int} {Tg : CT} {gs : MS} {mx : MK} {nm : Int → Int64 → Int} {bx : Int} (ha : OB T a 5) (h_dp : -2147483648 ≤ dp ∧ dp ≤ 2147483647) (hw : WT T σ) (hdp : 1 ≤ dp ∧ dp ≤ 7) (hlv : 7 ≤ dp + (lv : Int)) (hfx : RDX σ a Sx nx jx cx Nx) (hmg : MG Tg gs T σ a mx) (hmb : MBD mx) (hgf : gs.1 5 = 0) (hb : bx = dp - 1) (hm : cx.m ≤ (jx : Int)) (hkp : kp ≤ 140) (hrp : RP σ a kp), Tn (d + 3 * lv + 60) m_X5_block 0 T σ [(0, .ref a), (1, .int (iI dp))] [] (fun ro T2 σ2 => ∃ v : Int, ro = some (.int (iI v)) ∧ WT T2 σ2 ∧ FrC T [5, 6, 7, 9, 42, 43, 44, 45, 46, 47, 50, 51, 84, 85, 86, 87, 518, 519, 520, 521] σ σ2 ∧ (v = 0 ∨ v = 1) ∧ (YQM σ2 a Sx nx bx [28] jx cx (Nx) 2 v nm Tg gs T2 mx (mx) (fun m9 => m9)) ∧ (RP σ2 a (kp + 2 - 10 * v)))) (hdp : 1 ≤ dp ∧ dp ≤ 6) (hlv : 6 ≤ dp + (lv : Int)) (hfx : RDX σ a Sx nx jx cx Nx) (hmg : MG Tg gs T σ a mx) (hmb : MBD mx) (hgf : gs.1 5 = 0) (hb : bx = dp) (hkd : ckd (tkS Sx jx) = 260) (hkp : kp ≤ 140) (hrp : RP σ a kp) : Tn (d + 3 * lv + 61) m_X5_choice 0 T σ [(0, .ref a), (1, .int (iI dp))] [] (fun ro T2 σ2 => ∃ v : Int, ro = some (.int (iI v)) ∧ WT T2 σ2 ∧ FrC T [5, 6, 7, 9, 42, 43, 44, 45, 46, 47, 50, 51, 84, 85, 86, 87, 518, 519, 520, 521] σ σ2 ∧ (v = 0 ∨ v = 1) ∧ (YQM σ2 a Sx nx bx [51, 21] jx cx (Nx) 1 v nm Tg gs T2 mx (mx.push (1, 0, 0, [])) (fun m9 => m9)) ∧ (RP σ2 a (kp + 1 - 10 * v))) := by
  have hSb := hfx.1.sb
  have e45 := hfx.e45
  have hpo9 := hfx.po
  unfold PO at hpo9
  refine tn_aload_n dX5_choice_0 rfl 0 rfl ?_
  obtain ⟨xq1, hx2, hk3⟩ : ∃ x : Nat, σ.2.1 35 a = (x : Int) ∧ (T x).1 = 31 := wf_35 hw ha
  have hk3o : OB T xq1 1 := ⟨by omega, by rw [hk3]; rfl, by omega⟩
  refine tn_getR (ci := 5) (i := 2) (n := 35) (x := xq1) dX5_choice_1 rfl lay_5 (by decide) fl5_47 ha rfl rfl (hx2) ?_
  refine tn_bipush dX5_choice_4 (by decide) ?_
  refine tn_aload_n dX5_choice_6 rfl 0 rfl ?_
  refine tn_getI (ci := 5) (i := 12) (n := 45) (t := σ.2.1 45 a) dX5_choice_7 rfl lay_5 (by decide) fl5_64 ha rfl rfl (rfl) ?_
  have g5 : ((-2147483648 : Int) ≤ σ.2.1 45 a ∧ σ.2.1 45 a ≤ 2147483647) := wf_45 hw ha
  refine tn_iconst dX5_choice_10 ?_
  refine tn_callV (M := m_X5_choice) (pc := 11) (ix := 139) (ci := 1) (M' := m_X1_append) (As := [.int (iI 11), .int (iI (σ.2.1 45 a)), .int (iI 0)]) (rest := []) dX5_choice_11 ok_X1_append im_X1_append se_X1_append ml5_139 np_X1_append rfl rfl hk3o rfl (Nat.le_of_ble_eq_true rfl) (Nat.le_of_ble_eq_true rfl) rfl (k_append_c (d + 3 * lv + 57) (T := T) (σ := σ) (a := xq1) (k := 11) (p := σ.2.1 45 a) (q := 0) hk3o hk3 (by decide) (by omega) (by decide) hw (RP.cnt hrp hw ha (hx2) (by omega)) (by omega)) (fun r6 T8 σ7 gt9 hp => ?_)
  obtain ⟨rfl, w14, F15, f10, f11, f12⟩ := hp
  have nn16 : 0 ≤ (mx).n := by have z7 : WT T σ := hw; have z6 : σ.2.1 35 a = (xq1 : Int) := hx2; have z9 := wf_6 z7 (code_ob z7 ha z6); have z8 := MG.e6 hmg (MG.cd hmg z6); omega
  have z17 : σ.2.1 45 a = (mx).ln := by have z0 := MG.e45 hmg; have z1 : σ.2.1 45 a = (mx).ln := z0; have z2 : σ.2.1 45 a = σ.2.1 45 a := rfl; have z3 : σ.2.1 45 a = σ.2.1 45 a := rfl; omega
  have a3518 : σ.2.1 35 a = (xq1 : Int) := hx2
  have fx19 : RDX σ7 a Sx nx jx (cx) (Nx + 1) := RDX.ap hfx hw ha (hx2) F15 f10
  replace ha : OB T8 a 5 := gt9.ob ha
  have rp20 : RP σ7 a (kp + 1) := RP.app hrp (hx2) F15 (by decide) (by decide) (by decide) (by decide) f10
  have mg21 : MG Tg gs T8 σ7 a ((mx).put (rwI (11) (σ.2.1 45 a) (0))) := MG.app hmg (MG.cd hmg a3518) gt9 f10 f11 f12 (by omega)
  have mg21l : MG Tg gs T8 σ7 a ((mx).li) := MG.li (m := mx) mg21 z17
  show Tn _ _ 14 T8 σ7 [(0, .ref a), (1, .int (iI dp))] [] _
  refine tn_aload_n dX5_choice_14 rfl 0 rfl ?_
  obtain ⟨xq22, hx23, hk24⟩ : ∃ x : Nat, σ7.2.1 33 a = (x : Int) ∧ (T8 x).1 = 39 := wf_33 w14 ha
  have hk24o : OB T8 xq22 9 := ⟨by omega, by rw [hk24]; rfl, by omega⟩
  refine tn_getR (ci := 5) (i := 0) (n := 33) (x := xq22) dX5_choice_15 rfl lay_5 (by decide) fl5_12 ha rfl rfl (hx23) ?_
  refine tn_callV (M := m_X5_choice) (pc := 18) (ix := 93) (ci := 9) (M' := m_X9_next) (As := []) (rest := []) dX5_choice_18 ok_X9_next im_X9_next se_X9_next ml5_93 np_X9_next rfl rfl hk24o rfl (Nat.le_of_ble_eq_true rfl) (Nat.le_of_ble_eq_true rfl) rfl (k_X9_next_m (d + 3 * lv + 59) (T := T8) (σ := σ7) (a := xq22) hk24o w14 (RP.tk rp20 w14 ha (hx23)) ((fx19).1.tk (hx23)) (by rw [(fx19).1.kd (hx23)]; omega)) (fun r26 T28 σ27 gt29 hp => ?_)
  obtain ⟨rfl, rfl, w36, F37, f30, f31, f32, f33, f34⟩ := hp
  clear gt29
  have pc39 : GR Sx [51] jx (0) (bx) u0 [] jx (0) (bx) u0 1 [] := x51 hSb 
  have pm40 : CN nm mx.rt (cx) (GW Sx nm rnQ tb1 [51] jx (0) (bx) u0 (mx.push (1, 0, 0, [])) [] jx (0) (bx) u0 1 ((mx.push (1, 0, 0, [])).one tb1)) := fun hn9 => GW.of (gm51 hSb ) rfl
  have rd410 : GR Sx [51, 21] jx 0 (bx) u0 [51, 21] jx (0) (bx) u0 (0) ([]) := GR.nl
  have rd41 : GR Sx [51, 21] jx 0 (bx) u0 [21] jx (0) (bx) u0 (0 + 1) ([]) := GR.g0 (l := [51]) (ms := []) [21] rd410 pc39
  have rm420 : CN nm mx.rt (cx) (GW Sx nm rnQ tb1 [51, 21] jx 0 (bx) u0 (mx.push (1, 0, 0, [])) [51, 21] jx (0) (bx) u0 (0) (mx.push (1, 0, 0, []))) := fun _ => GW.nl
  have rm42 : CN nm mx.rt (cx) (GW Sx nm rnQ tb1 [51, 21] jx 0 (bx) u0 (mx.push (1, 0, 0, [])) [21] jx (0) (bx) u0 (0 + 1) ((mx.push (1, 0, 0, [])).one tb1)) := CN.gg (l := [51]) (ms := []) [21] rm420 (fun q9 => q9) pm40
  have pc43 : GR Sx [21] jx (0) (bx) u0 [2, 51, 28, 24] (jx + 1) (0) (bx) u0 0 [] := x21 hSb 
  have pm44 : CN nm mx.rt (cx) (GW Sx nm rnQ tb1 [21] jx (0) (bx) u0 ((mx.push (1, 0, 0, [])).one tb1) [2, 51, 28, 24] (jx + 1) (0) (bx) u0 0 (((mx.push (1, 0, 0, [])).one tb1).push (2, 0, 0, []))) := fun hn9 => GW.of (gm21 hSb ) rfl
  have rd45 : GR Sx [51, 21] jx 0 (bx) u0 [2, 51, 28, 24] (jx + 1) (0) (bx) u0 (0 + 1 + 0) ([]) := GR.g0 (l := [21]) (ms := [2, 51, 28, 24]) [] rd41 pc43
  have rm46 : CN nm mx.rt (cx) (GW Sx nm rnQ tb1 [51, 21] jx 0 (bx) u0 (mx.push (1, 0, 0, [])) [2, 51, 28, 24] (jx + 1) (0) (bx) u0 (0 + 1 + 0) (((mx.push (1, 0, 0, [])).one tb1).push (2, 0, 0, []))) := CN.gg (l := [21]) (ms := [2, 51, 28, 24]) [] rm42 (fun q9 => q9) pm44
  have fx38 : RDX σ27 a Sx nx (jx + 1) (cx) (Nx + 1) := RDX.nx fx19 w14 ha (hx23) F37 f33
  have rp47 : RP σ27 a (kp + 1) := RP.next rp20 (hx23) F37 (by decide) (by decide) (by decide) f30 f31
  show Tn _ _ 21 T8 σ27 [(0, .ref a), (1, .int (iI dp))] [] _
  refine tn_aload_n dX5_choice_21 rfl 0 rfl ?_
  refine tn_iconst dX5_choice_22 ?_
  have mg48 : MG Tg gs T8 σ27 a ((mx).li) := (MG.tk mg21l (hx23) f34)
  have sy49 : (((mx).li)).w = ((((mx.push (1, 0, 0, [])).one tb1).push (2, 0, 0, []))).w := rfl
  refine tn_callV (M := m_X5_choice) (pc := 23) (ix := 213) (ci := 5) (M' := m_X5_expression) (As := [.int (iI 1)]) (rest := []) dX5_choice_23 ok_X5_expression im_X5_expression se_X5_expression ml5_213 np_X5_expression rfl rfl ha rfl (Nat.le_of_ble_eq_true rfl) (Nat.le_of_ble_eq_true rfl) rfl (k_X5_expression_m (d + 3 * lv + 10) (T := T8) (σ := σ27) (a := a) (dp := 1) (kp := kp + 1) (eo := 0) (nm := nm) (Tg := Tg) (gs := gs) (mx := (((mx.push (1, 0, 0, [])).one tb1).push (2, 0, 0, []))) ha (by decide) w36 (by omega) fx38 (MG.cg mg48 sy49) (MBD.same (MBD.put hmb) sy49) (by omega) (by omega) rp47) (fun r50 T52 σ51 gt53 hp => ?_)
  obtain ⟨v57, rfl, w58, F59, f54, f55, f56⟩ := hp
  replace ha : OB T52 a 5 := gt53.ob ha
  have rp61 : RP σ51 a (kp - 4 * v57 + 1) := RP.up f56 (by omega)
  show Tn _ _ 26 T52 σ51 [(0, .ref a), (1, .int (iI dp))] [.int (iI v57)] _
  refine tn_if_ne (tgt := 31) dX5_choice_26 (by decide) ⟨by omega, by omega⟩ (fun h62 => ?_) (fun h62 => ?_)
  · refine tn_aload_n dX5_choice_31 rfl 0 rfl ?_
    obtain ⟨i63, es64, m65, mw66, lo67, rr68, fx69, ni70, mgq71, mb72, cn73⟩ := f55.1 (by omega)
    have rr68g := rr68 (bx) u0
    have pm74 : CN nm mx.rt (es64.foldl uC (cx)) (GW Sx nm rnQ tb1 [2] (jx + 1) (0) (bx) u0 (((mx.push (1, 0, 0, [])).one tb1).push (2, 0, 0, [])) [] i63 (0) (bx) u0 m65 (mw66.on (((mx.push (1, 0, 0, [])).one tb1).push (2, 0, 0, [])))) := fun hn9 => cn73 hn9 (bx) u0
    have rd75a : GR Sx [51, 21] jx 0 (bx) u0 [51, 28, 24] i63 (0) (bx) u0 (0 + 1 + 0 + m65) ([] ++ es64) := GR.gg (l := [2]) (ms := []) [51, 28, 24] rd45 rr68g
    have rd75 : GR Sx [51, 21] jx 0 (bx) u0 [51, 28, 24] i63 (0) (bx) u0 (0 + 1 + 0 + m65) (es64) := rd75a
    have rm76 : CN nm mx.rt (es64.foldl uC (cx)) (GW Sx nm rnQ tb1 [51, 21] jx 0 (bx) u0 (mx.push (1, 0, 0, [])) [51, 28, 24] i63 (0) (bx) u0 (0 + 1 + 0 + m65) (mw66.on (((mx.push (1, 0, 0, [])).one tb1).push (2, 0, 0, [])))) := CN.gg (l := [2]) (ms := []) [51, 28, 24] rm46 (fun q9 => (fun q9 => q9) (NMA.fo ni70 q9)) pm74
    refine tn_callV (M := m_X5_choice) (pc := 32) (ix := 235) (ci := 5) (M' := m_X5_zeroToNew) (As := []) (rest := []) dX5_choice_32 ok_X5_zeroToNew im_X5_zeroToNew se_X5_zeroToNew ml5_235 np_X5_zeroToNew rfl rfl ha rfl (Nat.le_of_ble_eq_true rfl) (Nat.le_of_ble_eq_true rfl) rfl (k_X5_zeroToNew_n (d + 3 * lv + 56) (T := T52) (σ := σ51) (a := a) (kp := kp - 4 * v57 + 1) (Tg := Tg) (gs := gs) (mx := mw66) ha w58 fx69 mgq71 mb72 (by omega) rp61) (fun r77 T79 σ78 gt80 hp => ?_)
    obtain ⟨v86, rfl, w87, F88, f81, f82, f83, f84, f85⟩ := hp
    replace ha : OB T79 a 5 := gt80.ob ha
    have rp90 : RP σ78 a (kp - 4 * v57 + 2) := RP.up f85 (by omega)
    show Tn _ _ 35 T79 σ78 [(0, .ref a), (1, .int (iI dp))] [.int (iI v86)] _
    refine tn_istore_n (L' := [(2, .int (iI v86)), (0, .ref a), (1, .int (iI dp))]) dX5_choice_35 rfl (by decide) rfl ?_
    refine tn_aload_n dX5_choice_36 rfl 1 rfl ?_
    refine tn_iload_n dX5_choice_37 rfl 2 rfl ?_
    refine tn_iconst dX5_choice_38 ?_
    refine tn_iadd dX5_choice_39 ?_
    have pc91 : GR Sx [51] i63 (0) (bx) u0 [] i63 (0) (bx) u0 1 [] := x51 hSb 
    have pm92 : CN nm mx.rt (es64.foldl uC (cx)) (GW Sx nm rnQ tb1 [51] i63 (0) (bx) u0 (mw66.on (((mx.push (1, 0, 0, [])).one tb1).push (2, 0, 0, []))) [] i63 (0) (bx) u0 1 ((mw66.on (((mx.push (1, 0, 0, [])).one tb1).push (2, 0, 0, []))).one tb1)) := fun hn9 => GW.of (gm51 hSb ) rfl
    have rd93 : GR Sx [51, 21] jx 0 (bx) u0 [28, 24] i63 (0) (bx) u0 (0 + 1 + 0 + m65 + 1) (es64) := GR.g0 (l := [51]) (ms := []) [28, 24] rd75 pc91
    have rm94 : CN nm mx.rt (es64.foldl uC (cx)) (GW Sx nm rnQ tb1 [51, 21] jx 0 (bx) u0 (mx.push (1, 0, 0, [])) [28, 24] i63 (0) (bx) u0 (0 + 1 + 0 + m65 + 1) ((mw66.on (((mx.push (1, 0, 0, [])).one tb1).push (2, 0, 0, []))).one tb1)) := CN.gg (l := [51]) (ms := []) [28, 24] rm76 (fun q9 => q9) pm92
    have sy95 : (((mw66).zn)).w = (((mw66.on (((mx.push (1, 0, 0, [])).one tb1).push (2, 0, 0, []))).one tb1)).w := rfl
    have q4596 : (es64.foldl uC (cx)).m = σ.2.1 45 a := (f82.e45).symm.trans (rc_F F88 (Or.inl (by decide)) (by decide) (rc_F F59 (Or.inl (by decide)) (by decide) (rc_F F37 (Or.inl (by decide)) (by decide) (rc_F F15 (Or.inl (by decide)) (by decide) (rfl)))))
    refine tn_callV (M := m_X5_choice) (pc := 40) (ix := 79) (ci := 5) (M' := m_X5_block) (As := [.int (iI (dp + 1))]) (rest := []) dX5_choice_40 ok_X5_block im_X5_block se_X5_block ml5_79 np_X5_block rfl rfl ha rfl (Nat.le_of_ble_eq_true rfl) (Nat.le_of_ble_eq_true rfl) rfl (hex (d) (T := T79) (σ := σ78) (a := a) (dp := dp + 1) (kp := kp - 4 * v57 + 2) (bx := bx) (nm := nm) (Tg := Tg) (gs := gs) (mx := ((mw66.on (((mx.push (1, 0, 0, [])).one tb1).push (2, 0, 0, []))).one tb1)) ha (by omega) w87 (by omega) (by omega) f82 (MG.cg f84 sy95) (MBD.same (MBD.zn mb72) sy95) hgf (by omega) (by rw [q4596]; omega) (by omega) rp90) (fun r97 T99 σ98 gt100 hp => ?_)
    obtain ⟨v104, rfl, w105, F106, f101, f102, f103⟩ := hp
    replace ha : OB T99 a 5 := gt100.ob ha
    have rp108 : RP σ98 a (kp - 4 * v57 - 10 * v104 + 4) := RP.up f103 (by omega)
    show Tn _ _ 43 T99 σ98 [(2, .int (iI v86)), (0, .ref a), (1, .int (iI dp))] [.int (iI v104)] _
    refine tn_if_ne (tgt := 48) dX5_choice_43 (by decide) ⟨by omega, by omega⟩ (fun h109 => ?_) (fun h109 => ?_)
    · refine tn_aload_n dX5_choice_48 rfl 1 rfl ?_
      obtain ⟨xq110, hx111, hk112⟩ : ∃ x : Nat, σ98.2.1 33 a = (x : Int) ∧ (T99 x).1 = 39 := wf_33 w105 ha
      have hk112o : OB T99 xq110 9 := ⟨by omega, by rw [hk112]; rfl, by omega⟩
      refine tn_getR (ci := 5) (i := 0) (n := 33) (x := xq110) dX5_choice_49 rfl lay_5 (by decide) fl5_12 ha rfl rfl (hx111) ?_
      refine tn_getI (ci := 9) (i := 4) (n := 85) (t := σ98.2.1 85 xq110) dX5_choice_52 rfl lay_9 (by decide) fl5_71 hk112o rfl rfl (rfl) ?_
      have g114 : ((-2147483648 : Int) ≤ σ98.2.1 85 xq110 ∧ σ98.2.1 85 xq110 ≤ 2147483647) := wf_85 w105 hk112o
      obtain ⟨i115, es116, m117, mw118, lo119, rr120, fx121, fx121m, ni122, mgq123, mb124, cn125⟩ := f102.1 (by omega)
      have fx121s : σ98.2.1 45 a ≤ (i115 : Int) := by rw [fx121.e45]; exact fx121m
      have pm126 : CN nm mx.rt (es116.foldl uC (es64.foldl uC (cx))) (GW Sx nm rnQ tb1 [28] i63 (0) (bx) u0 ((mw66.on (((mx.push (1, 0, 0, [])).one tb1).push (2, 0, 0, []))).one tb1) [] i115 (0) (bx) u0 m117 (mw118.on ((mw66.on (((mx.push (1, 0, 0, [])).one tb1).push (2, 0, 0, []))).one tb1))) := cn125
      have rd127 : GR Sx [51, 21] jx 0 (bx) u0 [24] i115 (0) (bx) u0 (0 + 1 + 0 + m65 + 1 + m117) (es64 ++ es116) := GR.gg (l := [28]) (ms := []) [24] rd93 rr120
      have rm128 : CN nm mx.rt (es116.foldl uC (es64.foldl uC (cx))) (GW Sx nm rnQ tb1 [51, 21] jx 0 (bx) u0 (mx.push (1, 0, 0, [])) [24] i115 (0) (bx) u0 (0 + 1 + 0 + m65 + 1 + m117) (mw118.on ((mw66.on (((mx.push (1, 0, 0, [])).one tb1).push (2, 0, 0, []))).one tb1))) := CN.gg (l := [28]) (ms := []) [24] rm94 (fun q9 => (fun q9 => q9) (NMA.fo ni122 q9)) pm126
      have g114kd : σ98.2.1 85 xq110 = ckd (tkS Sx i115) := (rfl).symm.trans ((fx121).1.kd (hx111))
      refine tn_sipush dX5_choice_55 (by decide) ?_
      refine tn_icmp_eq (tgt := 74) dX5_choice_58 (by decide) ⟨by omega, by omega⟩ ⟨by decide, by decide⟩ (fun h129 => ?_) (fun h129 => ?_)
      · refine tn_aload_n dX5_choice_74 rfl 1 rfl ?_
        have lb130 := (MG.bd2 mgq123 mb124 rp108 w105 ha (by omega)).1
        refine tn_callV (M := m_X5_choice) (pc := 75) (ix := 238) (ci := 5) (M' := m_X5_newLabel) (As := []) (rest := []) dX5_choice_75 ok_X5_newLabel im_X5_newLabel se_X5_newLabel ml5_238 np_X5_newLabel rfl rfl ha rfl (Nat.le_of_ble_eq_true rfl) (Nat.le_of_ble_eq_true rfl) rfl (k_X5_newLabel_n (d + 3 * lv + 59) (T := T99) (σ := σ98) (a := a) (Tg := Tg) (gs := gs) (mx := mw118) ha w105 fx121 mgq123 lb130) (fun r131 T133 σ132 gt134 hp => ?_)
        obtain ⟨v138, rfl, rfl, w139, F140, f135, f136, f137⟩ := hp
        clear gt134
        have fx141 : RDX σ132 a Sx nx i115 (es116.foldl uC (es64.foldl uC (cx))) (Nx + 1 + m65 + 1 + m117) := RDX.fc fx121 w105 ha F140 (by decide) (by decide)
        have rp142 : RP σ132 a (kp - 4 * v57 - 10 * v104 + 4) := RP.frc rp108 F140 (by decide) (by decide) (by decide) (by decide) (by decide)
        show Tn _ _ 78 T99 σ132 [(2, .int (iI v86)), (0, .ref a), (1, .int (iI dp))] [.int (iI v138)] _
        refine tn_istore_n (L' := [(3, .int (iI v138)), (2, .int (iI v86)), (0, .ref a), (1, .int (iI dp))]) dX5_choice_78 rfl (by decide) rfl ?_
        refine tn_aload_n dX5_choice_79 rfl 2 rfl ?_
        obtain ⟨xq143, hx144, hk145⟩ : ∃ x : Nat, σ98.2.1 35 a = (x : Int) ∧ (T99 x).1 = 31 := wf_35 w105 ha
        have hk145o : OB T99 xq143 1 := ⟨by omega, by rw [hk145]; rfl, by omega⟩
        refine tn_getR (ci := 5) (i := 2) (n := 35) (x := xq143) dX5_choice_80 rfl lay_5 (by decide) fl5_47 ha rfl rfl (rc_F F140 (Or.inl (by decide)) (by decide) (hx144)) ?_
        refine tn_bipush dX5_choice_83 (by decide) ?_
        refine tn_iload_n dX5_choice_85 rfl 0 rfl ?_
        refine tn_iconst dX5_choice_86 ?_
        refine tn_callV (M := m_X5_choice) (pc := 87) (ix := 139) (ci := 1) (M' := m_X1_append) (As := [.int (iI 8), .int (iI v138), .int (iI 0)]) (rest := []) dX5_choice_87 ok_X1_append im_X1_append se_X1_append ml5_139 np_X1_append rfl rfl hk145o rfl (Nat.le_of_ble_eq_true rfl) (Nat.le_of_ble_eq_true rfl) rfl (k_append_c (d + 3 * lv + 57) (T := T99) (σ := σ132) (a := xq143) (k := 8) (p := v138) (q := 0) hk145o hk145 (by decide) (by omega) (by decide) w139 (RP.cnt rp142 w139 ha (rc_F F140 (Or.inl (by decide)) (by decide) (hx144)) (by omega)) (by omega)) (fun r147 T149 σ148 gt150 hp => ?_)
        obtain ⟨rfl, w155, F156, f151, f152, f153⟩ := hp
        have nn157 : 0 ≤ (((mw118).nl)).n := by have z7 : WT T99 σ132 := w139; have z6 : σ132.2.1 35 a = (xq143 : Int) := rc_F F140 (Or.inl (by decide)) (by decide) (hx144); have z9 := wf_6 z7 (code_ob z7 ha z6); have z8 := MG.e6 f137 (MG.cd f137 z6); omega
        have a35158 : σ132.2.1 35 a = (xq143 : Int) := rc_F F140 (Or.inl (by decide)) (by decide) (hx144)
        have fx159 : RDX σ148 a Sx nx i115 (es116.foldl uC (es64.foldl uC (cx))) (Nx + 1 + m65 + 1 + m117 + 1) := RDX.ap fx141 w139 ha (rc_F F140 (Or.inl (by decide)) (by decide) (hx144)) F156 f151
        replace ha : OB T149 a 5 := gt150.ob ha
        have rp160 : RP σ148 a (kp - 4 * v57 - 10 * v104 + 4 + 1) := RP.app rp142 (rc_F F140 (Or.inl (by decide)) (by decide) (hx144)) F156 (by decide) (by decide) (by decide) (by decide) f151
        have rp161 : RP σ148 a (kp - 4 * v57 - 10 * v104 + 5) := RP.up rp160 (by omega)
        have mg162 : MG Tg gs T149 σ148 a ((((mw118).nl)).put (rwI (8) (v138) (0))) := MG.app f137 (MG.cd f137 a35158) gt150 f151 f152 f153 (by omega)
        have mg162l : MG Tg gs T149 σ148 a ((((mw118).nl)).jp ((mw118).lab)) := by have q9 := MG.jp (m := ((mw118).nl)) mg162; rw [show v138 = (mw118).lab from f136] at q9; exact q9
        show Tn _ _ 90 T149 σ148 [(3, .int (iI v138)), (2, .int (iI v86)), (0, .ref a), (1, .int (iI dp))] [] _
        refine tn_aload_n dX5_choice_90 rfl 2 rfl ?_
        obtain ⟨xq163, hx164, hk165⟩ : ∃ x : Nat, σ148.2.1 35 a = (x : Int) ∧ (T149 x).1 = 31 := wf_35 w155 ha
        have hk165o : OB T149 xq163 1 := ⟨by omega, by rw [hk165]; rfl, by omega⟩
        refine tn_getR (ci := 5) (i := 2) (n := 35) (x := xq163) dX5_choice_91 rfl lay_5 (by decide) fl5_47 ha rfl rfl (hx164) ?_
        refine tn_bipush dX5_choice_94 (by decide) ?_
        refine tn_iload_n dX5_choice_96 rfl 1 rfl ?_
        refine tn_iconst dX5_choice_97 ?_
        refine tn_callV (M := m_X5_choice) (pc := 98) (ix := 139) (ci := 1) (M' := m_X1_append) (As := [.int (iI 13), .int (iI v86), .int (iI 0)]) (rest := []) dX5_choice_98 ok_X1_append im_X1_append se_X1_append ml5_139 np_X1_append rfl rfl hk165o rfl (Nat.le_of_ble_eq_true rfl) (Nat.le_of_ble_eq_true rfl) rfl (k_append_c (d + 3 * lv + 57) (T := T149) (σ := σ148) (a := xq163) (k := 13) (p := v86) (q := 0) hk165o hk165 (by decide) (by omega) (by decide) w155 (RP.cnt rp161 w155 ha (hx164) (by omega)) (by omega)) (fun r167 T169 σ168 gt170 hp => ?_)
        obtain ⟨rfl, w175, F176, f171, f172, f173⟩ := hp
        have nn177 : 0 ≤ (((((mw118).nl)).jp ((mw118).lab))).n := by have z7 : WT T149 σ148 := w155; have z6 : σ148.2.1 35 a = (xq163 : Int) := hx164; have z9 := wf_6 z7 (code_ob z7 ha z6); have z8 := MG.e6 mg162l (MG.cd mg162l z6); omega
        have a35178 : σ148.2.1 35 a = (xq163 : Int) := hx164
        have fx179 : RDX σ168 a Sx nx i115 (es116.foldl uC (es64.foldl uC (cx))) (Nx + 1 + m65 + 1 + m117 + 1 + 1) := RDX.ap fx159 w155 ha (hx164) F176 f171
        replace ha : OB T169 a 5 := gt170.ob ha
        have rp180 : RP σ168 a (kp - 4 * v57 - 10 * v104 + 5 + 1) := RP.app rp161 (hx164) F176 (by decide) (by decide) (by decide) (by decide) f171
        have rp181 : RP σ168 a (kp - 4 * v57 - 10 * v104 + 6) := RP.up rp180 (by omega)
        have mg182 : MG Tg gs T169 σ168 a ((((((mw118).nl)).jp ((mw118).lab))).put (rwI (13) (v86) (0))) := MG.app mg162l (MG.cd mg162l a35178) gt170 f171 f172 f173 (by omega)
        have mg182l : MG Tg gs T169 σ168 a ((((((mw118).nl)).jp ((mw118).lab))).lb ((mw66).lab)) := by have q9 := MG.lb (m := ((((mw118).nl)).jp ((mw118).lab))) mg182; rw [show v86 = (mw66).lab from f83] at q9; exact q9
        show Tn _ _ 101 T169 σ168 [(3, .int (iI v138)), (2, .int (iI v86)), (0, .ref a), (1, .int (iI dp))] [] _
        refine tn_aload_n dX5_choice_101 rfl 2 rfl ?_
        obtain ⟨xq183, hx184, hk185⟩ : ∃ x : Nat, σ168.2.1 33 a = (x : Int) ∧ (T169 x).1 = 39 := wf_33 w175 ha
        have hk185o : OB T169 xq183 9 := ⟨by omega, by rw [hk185]; rfl, by omega⟩
        refine tn_getR (ci := 5) (i := 0) (n := 33) (x := xq183) dX5_choice_102 rfl lay_5 (by decide) fl5_12 ha rfl rfl (hx184) ?_
        refine tn_callV (M := m_X5_choice) (pc := 105) (ix := 93) (ci := 9) (M' := m_X9_next) (As := []) (rest := []) dX5_choice_105 ok_X9_next im_X9_next se_X9_next ml5_93 np_X9_next rfl rfl hk185o rfl (Nat.le_of_ble_eq_true rfl) (Nat.le_of_ble_eq_true rfl) rfl (k_X9_next_m (d + 3 * lv + 59) (T := T169) (σ := σ168) (a := xq183) hk185o w175 (RP.tk rp181 w175 ha (hx184)) ((fx179).1.tk (hx184)) (by rw [(fx179).1.kd (hx184)]; omega)) (fun r187 T189 σ188 gt190 hp => ?_)
        obtain ⟨rfl, rfl, w197, F198, f191, f192, f193, f194, f195⟩ := hp
        clear gt190
        have pc200 : GR Sx [24] i115 (0) (bx) u0 [52, 28, 51] (i115 + 1) (0) (bx) u0 0 [] := x24y hSb (by omega)
        have pm201 : CN nm mx.rt (es116.foldl uC (es64.foldl uC (cx))) (GW Sx nm rnQ tb1 [24] i115 (0) (bx) u0 (mw118.on ((mw66.on (((mx.push (1, 0, 0, [])).one tb1).push (2, 0, 0, []))).one tb1)) [52, 28, 51] (i115 + 1) (0) (bx) u0 0 ((mw118.on ((mw66.on (((mx.push (1, 0, 0, [])).one tb1).push (2, 0, 0, []))).one tb1)).el)) := fun hn9 => GW.of (gm24y hSb (by omega)) rfl
        have rd202 : GR Sx [51, 21] jx 0 (bx) u0 [52, 28, 51] (i115 + 1) (0) (bx) u0 (0 + 1 + 0 + m65 + 1 + m117 + 0) (es64 ++ es116) := GR.g0 (l := [24]) (ms := [52, 28, 51]) [] rd127 pc200
        have rm203 : CN nm mx.rt (es116.foldl uC (es64.foldl uC (cx))) (GW Sx nm rnQ tb1 [51, 21] jx 0 (bx) u0 (mx.push (1, 0, 0, [])) [52, 28, 51] (i115 + 1) (0) (bx) u0 (0 + 1 + 0 + m65 + 1 + m117 + 0) ((mw118.on ((mw66.on (((mx.push (1, 0, 0, [])).one tb1).push (2, 0, 0, []))).one tb1)).el)) := CN.gg (l := [24]) (ms := [52, 28, 51]) [] rm128 (fun q9 => q9) pm201
        have fx199 : RDX σ188 a Sx nx (i115 + 1) (es116.foldl uC (es64.foldl uC (cx))) (Nx + 1 + m65 + 1 + m117 + 1 + 1) := RDX.nx fx179 w175 ha (hx184) F198 f194
        have rp204 : RP σ188 a (kp - 4 * v57 - 10 * v104 + 6) := RP.next rp181 (hx184) F198 (by decide) (by decide) (by decide) f191 f192
        show Tn _ _ 108 T169 σ188 [(3, .int (iI v138)), (2, .int (iI v86)), (0, .ref a), (1, .int (iI dp))] [] _
        refine tn_aload_n dX5_choice_108 rfl 2 rfl ?_
        refine tn_iload_n dX5_choice_109 rfl 3 rfl ?_
        refine tn_iconst dX5_choice_110 ?_
        refine tn_iadd dX5_choice_111 ?_
        have pc205 : GR Sx [52] (i115 + 1) (0) (bx) u0 [] (i115 + 1) (0) (bx) u0 2 [] := x52 hSb 
        have pm206 : CN nm mx.rt (es116.foldl uC (es64.foldl uC (cx))) (GW Sx nm rnQ tb1 [52] (i115 + 1) (0) (bx) u0 ((mw118.on ((mw66.on (((mx.push (1, 0, 0, [])).one tb1).push (2, 0, 0, []))).one tb1)).el) [] (i115 + 1) (0) (bx) u0 2 (((mw118.on ((mw66.on (((mx.push (1, 0, 0, [])).one tb1).push (2, 0, 0, []))).one tb1)).el).two)) := fun hn9 => GW.of (gm52 hSb ) rfl
        have rd207 : GR Sx [51, 21] jx 0 (bx) u0 [28, 51] (i115 + 1) (0) (bx) u0 (0 + 1 + 0 + m65 + 1 + m117 + 0 + 2) (es64 ++ es116) := GR.g0 (l := [52]) (ms := []) [28, 51] rd202 pc205
        have rm208 : CN nm mx.rt (es116.foldl uC (es64.foldl uC (cx))) (GW Sx nm rnQ tb1 [51, 21] jx 0 (bx) u0 (mx.push (1, 0, 0, [])) [28, 51] (i115 + 1) (0) (bx) u0 (0 + 1 + 0 + m65 + 1 + m117 + 0 + 2) (((mw118.on ((mw66.on (((mx.push (1, 0, 0, [])).one tb1).push (2, 0, 0, []))).one tb1)).el).two)) := CN.gg (l := [52]) (ms := []) [28, 51] rm203 (fun q9 => q9) pm206
        have mg209 : MG Tg gs T169 σ188 a ((((((mw118).nl)).jp ((mw118).lab))).lb ((mw66).lab)) := (MG.tk mg182l (hx184) f195)
        have sy210 : (((((((mw118).nl)).jp ((mw118).lab))).lb ((mw66).lab))).w = ((((mw118.on ((mw66.on (((mx.push (1, 0, 0, [])).one tb1).push (2, 0, 0, []))).one tb1)).el).two)).w := rfl
        have q45211 : (es116.foldl uC (es64.foldl uC (cx))).m = σ98.2.1 45 a := (fx199.e45).symm.trans (rc_F F198 (Or.inl (by decide)) (by decide) (rc_F F176 (Or.inl (by decide)) (by decide) (rc_F F156 (Or.inl (by decide)) (by decide) (rc_F F140 (Or.inl (by decide)) (by decide) (rfl)))))
        refine tn_callV (M := m_X5_choice) (pc := 112) (ix := 79) (ci := 5) (M' := m_X5_block) (As := [.int (iI (dp + 1))]) (rest := []) dX5_choice_112 ok_X5_block im_X5_block se_X5_block ml5_79 np_X5_block rfl rfl ha rfl (Nat.le_of_ble_eq_true rfl) (Nat.le_of_ble_eq_true rfl) rfl (hex (d) (T := T169) (σ := σ188) (a := a) (dp := dp + 1) (kp := kp - 4 * v57 - 10 * v104 + 6) (bx := bx) (nm := nm) (Tg := Tg) (gs := gs) (mx := (((mw118.on ((mw66.on (((mx.push (1, 0, 0, [])).one tb1).push (2, 0, 0, []))).one tb1)).el).two)) ha (by omega) w197 (by omega) (by omega) fx199 (MG.cg mg209 sy210) (MBD.same (MBD.put (MBD.np mb124)) sy210) hgf (by omega) (by rw [q45211]; omega) (by omega) rp204) (fun r212 T214 σ213 gt215 hp => ?_)
        obtain ⟨v219, rfl, w220, F221, f216, f217, f218⟩ := hp
        replace ha : OB T214 a 5 := gt215.ob ha
        have rp223 : RP σ213 a (kp - 4 * v57 - 10 * v104 - 10 * v219 + 8) := RP.up f218 (by omega)
        show Tn _ _ 115 T214 σ213 [(3, .int (iI v138)), (2, .int (iI v86)), (0, .ref a), (1, .int (iI dp))] [.int (iI v219)] _
        refine tn_if_ne (tgt := 120) dX5_choice_115 (by decide) ⟨by omega, by omega⟩ (fun h224 => ?_) (fun h224 => ?_)
        · refine tn_aload_n dX5_choice_120 rfl 2 rfl ?_
          obtain ⟨xq225, hx226, hk227⟩ : ∃ x : Nat, σ213.2.1 35 a = (x : Int) ∧ (T214 x).1 = 31 := wf_35 w220 ha
          have hk227o : OB T214 xq225 1 := ⟨by omega, by rw [hk227]; rfl, by omega⟩
          refine tn_getR (ci := 5) (i := 2) (n := 35) (x := xq225) dX5_choice_121 rfl lay_5 (by decide) fl5_47 ha rfl rfl (hx226) ?_
          refine tn_bipush dX5_choice_124 (by decide) ?_
          refine tn_iload_n dX5_choice_126 rfl 0 rfl ?_
          refine tn_iconst dX5_choice_127 ?_
          obtain ⟨i229, es230, m231, mw232, lo233, rr234, fx235, fx235m, ni236, mgq237, mb238, cn239⟩ := f217.1 (by omega)
          have fx235s : σ213.2.1 45 a ≤ (i229 : Int) := by rw [fx235.e45]; exact fx235m
          have pm240 : CN nm mx.rt (es230.foldl uC (es116.foldl uC (es64.foldl uC (cx)))) (GW Sx nm rnQ tb1 [28] (i115 + 1) (0) (bx) u0 (((mw118.on ((mw66.on (((mx.push (1, 0, 0, [])).one tb1).push (2, 0, 0, []))).one tb1)).el).two) [] i229 (0) (bx) u0 m231 (mw232.on (((mw118.on ((mw66.on (((mx.push (1, 0, 0, [])).one tb1).push (2, 0, 0, []))).one tb1)).el).two))) := cn239
          have rd241 : GR Sx [51, 21] jx 0 (bx) u0 [51] i229 (0) (bx) u0 (0 + 1 + 0 + m65 + 1 + m117 + 0 + 2 + m231) (es64 ++ es116 ++ es230) := GR.gg (l := [28]) (ms := []) [51] rd207 rr234
          have rm242 : CN nm mx.rt (es230.foldl uC (es116.foldl uC (es64.foldl uC (cx)))) (GW Sx nm rnQ tb1 [51, 21] jx 0 (bx) u0 (mx.push (1, 0, 0, [])) [51] i229 (0) (bx) u0 (0 + 1 + 0 + m65 + 1 + m117 + 0 + 2 + m231) (mw232.on (((mw118.on ((mw66.on (((mx.push (1, 0, 0, [])).one tb1).push (2, 0, 0, []))).one tb1)).el).two))) := CN.gg (l := [28]) (ms := []) [51] rm208 (fun q9 => (fun q9 => q9) (NMA.fo ni236 q9)) pm240
          refine tn_callV (M := m_X5_choice) (pc := 128) (ix := 139) (ci := 1) (M' := m_X1_append) (As := [.int (iI 13), .int (iI v138), .int (iI 0)]) (rest := []) dX5_choice_128 ok_X1_append im_X1_append se_X1_append ml5_139 np_X1_append rfl rfl hk227o rfl (Nat.le_of_ble_eq_true rfl) (Nat.le_of_ble_eq_true rfl) rfl (k_append_c (d + 3 * lv + 57) (T := T214) (σ := σ213) (a := xq225) (k := 13) (p := v138) (q := 0) hk227o hk227 (by decide) (by omega) (by decide) w220 (RP.cnt rp223 w220 ha (hx226) (by omega)) (by omega)) (fun r243 T245 σ244 gt246 hp => ?_)
          obtain ⟨rfl, w251, F252, f247, f248, f249⟩ := hp
          have nn253 : 0 ≤ (mw232).n := by have z7 : WT T214 σ213 := w220; have z6 : σ213.2.1 35 a = (xq225 : Int) := hx226; have z9 := wf_6 z7 (code_ob z7 ha z6); have z8 := MG.e6 mgq237 (MG.cd mgq237 z6); omega
          have a35254 : σ213.2.1 35 a = (xq225 : Int) := hx226
          have fx255 : RDX σ244 a Sx nx i229 (es230.foldl uC (es116.foldl uC (es64.foldl uC (cx)))) (Nx + 1 + m65 + 1 + m117 + 1 + 1 + m231 + 1) := RDX.ap fx235 w220 ha (hx226) F252 f247
          replace ha : OB T245 a 5 := gt246.ob ha
          have rp256 : RP σ244 a (kp - 4 * v57 - 10 * v104 - 10 * v219 + 8 + 1) := RP.app rp223 (hx226) F252 (by decide) (by decide) (by decide) (by decide) f247
          have rp257 : RP σ244 a (kp - 4 * v57 - 10 * v104 - 10 * v219 + 9) := RP.up rp256 (by omega)
          have mg258 : MG Tg gs T245 σ244 a ((mw232).put (rwI (13) (v138) (0))) := MG.app mgq237 (MG.cd mgq237 a35254) gt246 f247 f248 f249 (by omega)
          have mg258l : MG Tg gs T245 σ244 a ((mw232).lb ((mw118).lab)) := by have q9 := MG.lb (m := mw232) mg258; rw [show v138 = (mw118).lab from f136] at q9; exact q9
          show Tn _ _ 131 T245 σ244 [(3, .int (iI v138)), (2, .int (iI v86)), (0, .ref a), (1, .int (iI dp))] [] _
          refine tn_iconst dX5_choice_131 ?_
          have pc263 : GR Sx [51] i229 (0) (bx) u0 [] i229 (0) (bx) u0 1 [] := x51 hSb 
          have pm264 : CN nm mx.rt (es230.foldl uC (es116.foldl uC (es64.foldl uC (cx)))) (GW Sx nm rnQ tb1 [51] i229 (0) (bx) u0 (mw232.on (((mw118.on ((mw66.on (((mx.push (1, 0, 0, [])).one tb1).push (2, 0, 0, []))).one tb1)).el).two)) [] i229 (0) (bx) u0 1 ((mw232.on (((mw118.on ((mw66.on (((mx.push (1, 0, 0, [])).one tb1).push (2, 0, 0, []))).one tb1)).el).two)).one tb1)) := fun hn9 => GW.of (gm51 hSb ) rfl
          have rd265 : GR Sx [51, 21] jx 0 (bx) u0 [] i229 (0) (bx) u0 (0 + 1 + 0 + m65 + 1 + m117 + 0 + 2 + m231 + 1) (es64 ++ es116 ++ es230) := GR.g0 (l := [51]) (ms := []) [] rd241 pc263
          have rm266 : CN nm mx.rt (es230.foldl uC (es116.foldl uC (es64.foldl uC (cx)))) (GW Sx nm rnQ tb1 [51, 21] jx 0 (bx) u0 (mx.push (1, 0, 0, [])) [] i229 (0) (bx) u0 (0 + 1 + 0 + m65 + 1 + m117 + 0 + 2 + m231 + 1) ((mw232.on (((mw118.on ((mw66.on (((mx.push (1, 0, 0, [])).one tb1).push (2, 0, 0, []))).one tb1)).el).two)).one tb1)) := CN.gg (l := [51]) (ms := []) [] rm242 (fun q9 => q9) pm264
          have hz267e : ((mw232.on (((mw118.on ((mw66.on (((mx.push (1, 0, 0, [])).one tb1).push (2, 0, 0, []))).one tb1)).el).two)).one tb1) = (((mw232).lb ((mw118).lab))).on mx := rfl
          have hz267c : (es230.foldl uC (es116.foldl uC (es64.foldl uC (cx)))) = (es64 ++ es116 ++ es230).foldl uC cx := (by simp only [List.foldl_append, List.foldl_cons, List.foldl_nil])
          have hz267 : CN nm mx.rt ((es64 ++ es116 ++ es230).foldl uC cx) (GW Sx nm rnQ tb1 [51, 21] jx 0 (bx) u0 (mx.push (1, 0, 0, [])) [] i229 (0) (bx) u0 (0 + 1 + 0 + m65 + 1 + m117 + 0 + 2 + m231 + 1) ((((mw232).lb ((mw118).lab))).on mx)) := by
            have q9 := CN.up (c2 := es230.foldl uC (es116.foldl uC (es64.foldl uC (cx)))) rm266 (fun q9 => q9)
            rw [hz267e, hz267c] at q9
            exact q9
          have fe268 := RDX.nq (M := Nx + (0 + 1 + 0 + m65 + 1 + m117 + 0 + 2 + m231 + 1)) (RDX.cq (c2 := (es64 ++ es116 ++ es230).foldl uC cx) fx255 hz267c) (by omega)
          have fe268m : ((es64 ++ es116 ++ es230).foldl uC cx).m = σ213.2.1 45 a := (fe268.e45).symm.trans (rc_F F252 (Or.inl (by decide)) (by decide) (rfl))
          have ra261 : YSM σ244 a Sx nx bx [51, 21] jx cx (Nx) bx [] ((jx : Int) + 1) nm Tg gs T245 mx (mx.push (1, 0, 0, [])) (fun m9 => m9) := ⟨i229, es64 ++ es116 ++ es230, 0 + 1 + 0 + m65 + 1 + m117 + 0 + 2 + m231 + 1, ((mw232).lb ((mw118).lab)), (by omega), rd265, fe268, by rw [fe268m]; omega, (NI2.app (NI2.app ni70 ni122) ni236), mg258l, (MBD.put mb238), hz267⟩
          exact tn_zret (v := 1) rfl (by decide) dX5_choice_132 ⟨_, rfl, w251, (((((((((((FrC.rfl.trans (FrC.sub F15 (by decide))).trans (FrC.sub (FrC.old F37 gt9) (by decide))).trans (FrC.sub (FrC.old F59 gt9) (by decide))).trans (FrC.sub (FrC.old F88 (GT.trans gt9 gt53)) (by decide))).trans (FrC.sub (FrC.old F106 (GT.trans (GT.trans gt9 gt53) gt80)) (by decide))).trans (FrC.sub (FrC.old F140 (GT.trans (GT.trans (GT.trans gt9 gt53) gt80) gt100)) (by decide))).trans (FrC.sub (FrC.old F156 (GT.trans (GT.trans (GT.trans gt9 gt53) gt80) gt100)) (by decide))).trans (FrC.sub (FrC.old F176 (GT.trans (GT.trans (GT.trans (GT.trans gt9 gt53) gt80) gt100) gt150)) (by decide))).trans (FrC.sub (FrC.old F198 (GT.trans (GT.trans (GT.trans (GT.trans (GT.trans gt9 gt53) gt80) gt100) gt150) gt170)) (by decide))).trans (FrC.sub (FrC.old F221 (GT.trans (GT.trans (GT.trans (GT.trans (GT.trans gt9 gt53) gt80) gt100) gt150) gt170)) (by decide))).trans (FrC.sub (FrC.old F252 (GT.trans (GT.trans (GT.trans (GT.trans (GT.trans (GT.trans gt9 gt53) gt80) gt100) gt150) gt170) gt215)) (by decide))), by omega, ⟨fun _ => ra261, fun q => absurd q (by decide)⟩, (RP.up rp257 (by omega))⟩
        · refine tn_iconst dX5_choice_118 ?_
          obtain ⟨⟨pl271, g272, fx273⟩, nf274⟩ := f217.2 (by omega)
          have rf275 : GRF Sx [51, 21] jx 0 (bx) u0 (pl271) := GR.fl (l := [28]) [51] rd207 g272
          have rb270 : YF σ213 a Sx bx [51, 21] jx ∧ FG Tg gs T214 σ213 a := ⟨⟨_, rf275, fx273⟩, nf274⟩
          exact tn_zret (v := 0) rfl (by decide) dX5_choice_119 ⟨_, rfl, w220, ((((((((((FrC.rfl.trans (FrC.sub F15 (by decide))).trans (FrC.sub (FrC.old F37 gt9) (by decide))).trans (FrC.sub (FrC.old F59 gt9) (by decide))).trans (FrC.sub (FrC.old F88 (GT.trans gt9 gt53)) (by decide))).trans (FrC.sub (FrC.old F106 (GT.trans (GT.trans gt9 gt53) gt80)) (by decide))).trans (FrC.sub (FrC.old F140 (GT.trans (GT.trans (GT.trans gt9 gt53) gt80) gt100)) (by decide))).trans (FrC.sub (FrC.old F156 (GT.trans (GT.trans (GT.trans gt9 gt53) gt80) gt100)) (by decide))).trans (FrC.sub (FrC.old F176 (GT.trans (GT.trans (GT.trans (GT.trans gt9 gt53) gt80) gt100) gt150)) (by decide))).trans (FrC.sub (FrC.old F198 (GT.trans (GT.trans (GT.trans (GT.trans (GT.trans gt9 gt53) gt80) gt100) gt150) gt170)) (by decide))).trans (FrC.sub (FrC.old F221 (GT.trans (GT.trans (GT.trans (GT.trans (GT.trans gt9 gt53) gt80) gt100) gt150) gt170)) (by decide))), by omega, ⟨fun q => absurd q (by decide), fun _ => rb270⟩, (RP.up rp223 (by omega))⟩
      · refine tn_aload_n dX5_choice_61 rfl 1 rfl ?_
        obtain ⟨xq276, hx277, hk278⟩ : ∃ x : Nat, σ98.2.1 35 a = (x : Int) ∧ (T99 x).1 = 31 := wf_35 w105 ha
        have hk278o : OB T99 xq276 1 := ⟨by omega, by rw [hk278]; rfl, by omega⟩
        refine tn_getR (ci := 5) (i := 2) (n := 35) (x := xq276) dX5_choice_62 rfl lay_5 (by decide) fl5_47 ha rfl rfl (hx277) ?_
        refine tn_bipush dX5_choice_65 (by decide) ?_
        refine tn_iload_n dX5_choice_67 rfl 0 rfl ?_
        refine tn_iconst dX5_choice_68 ?_
        refine tn_callV (M := m_X5_choice) (pc := 69) (ix := 139) (ci := 1) (M' := m_X1_append) (As := [.int (iI 13), .int (iI v86), .int (iI 0)]) (rest := []) dX5_choice_69 ok_X1_append im_X1_append se_X1_append ml5_139 np_X1_append rfl rfl hk278o rfl (Nat.le_of_ble_eq_true rfl) (Nat.le_of_ble_eq_true rfl) rfl (k_append_c (d + 3 * lv + 57) (T := T99) (σ := σ98) (a := xq276) (k := 13) (p := v86) (q := 0) hk278o hk278 (by decide) (by omega) (by decide) w105 (RP.cnt rp108 w105 ha (hx277) (by omega)) (by omega)) (fun r280 T282 σ281 gt283 hp => ?_)
        obtain ⟨rfl, w288, F289, f284, f285, f286⟩ := hp
        have nn290 : 0 ≤ (mw118).n := by have z7 : WT T99 σ98 := w105; have z6 : σ98.2.1 35 a = (xq276 : Int) := hx277; have z9 := wf_6 z7 (code_ob z7 ha z6); have z8 := MG.e6 mgq123 (MG.cd mgq123 z6); omega
        have a35291 : σ98.2.1 35 a = (xq276 : Int) := hx277
        have fx292 : RDX σ281 a Sx nx i115 (es116.foldl uC (es64.foldl uC (cx))) (Nx + 1 + m65 + 1 + m117 + 1) := RDX.ap fx121 w105 ha (hx277) F289 f284
        replace ha : OB T282 a 5 := gt283.ob ha
        have rp293 : RP σ281 a (kp - 4 * v57 - 10 * v104 + 4 + 1) := RP.app rp108 (hx277) F289 (by decide) (by decide) (by decide) (by decide) f284
        have rp294 : RP σ281 a (kp - 4 * v57 - 10 * v104 + 5) := RP.up rp293 (by omega)
        have mg295 : MG Tg gs T282 σ281 a ((mw118).put (rwI (13) (v86) (0))) := MG.app mgq123 (MG.cd mgq123 a35291) gt283 f284 f285 f286 (by omega)
        have mg295l : MG Tg gs T282 σ281 a ((mw118).lb ((mw66).lab)) := by have q9 := MG.lb (m := mw118) mg295; rw [show v86 = (mw66).lab from f83] at q9; exact q9
        show Tn _ _ 72 T282 σ281 [(2, .int (iI v86)), (0, .ref a), (1, .int (iI dp))] [] _
        refine tn_iconst dX5_choice_72 ?_
        have pc300 : GR Sx [24] i115 (0) (bx) u0 [51] i115 (0) (bx) u0 0 [] := x24n hSb (by omega)
        have pm301 : CN nm mx.rt (es116.foldl uC (es64.foldl uC (cx))) (GW Sx nm rnQ tb1 [24] i115 (0) (bx) u0 (mw118.on ((mw66.on (((mx.push (1, 0, 0, [])).one tb1).push (2, 0, 0, []))).one tb1)) [51] i115 (0) (bx) u0 0 (mw118.on ((mw66.on (((mx.push (1, 0, 0, [])).one tb1).push (2, 0, 0, []))).one tb1))) := fun hn9 => GW.of (gm24n hSb (by omega)) rfl
        have rd302 : GR Sx [51, 21] jx 0 (bx) u0 [51] i115 (0) (bx) u0 (0 + 1 + 0 + m65 + 1 + m117 + 0) (es64 ++ es116) := GR.g0 (l := [24]) (ms := [51]) [] rd127 pc300
        have rm303 : CN nm mx.rt (es116.foldl uC (es64.foldl uC (cx))) (GW Sx nm rnQ tb1 [51, 21] jx 0 (bx) u0 (mx.push (1, 0, 0, [])) [51] i115 (0) (bx) u0 (0 + 1 + 0 + m65 + 1 + m117 + 0) (mw118.on ((mw66.on (((mx.push (1, 0, 0, [])).one tb1).push (2, 0, 0, []))).one tb1))) := CN.gg (l := [24]) (ms := [51]) [] rm128 (fun q9 => q9) pm301
        have pc304 : GR Sx [51] i115 (0) (bx) u0 [] i115 (0) (bx) u0 1 [] := x51 hSb 
        have pm305 : CN nm mx.rt (es116.foldl uC (es64.foldl uC (cx))) (GW Sx nm rnQ tb1 [51] i115 (0) (bx) u0 (mw118.on ((mw66.on (((mx.push (1, 0, 0, [])).one tb1).push (2, 0, 0, []))).one tb1)) [] i115 (0) (bx) u0 1 ((mw118.on ((mw66.on (((mx.push (1, 0, 0, [])).one tb1).push (2, 0, 0, []))).one tb1)).one tb1)) := fun hn9 => GW.of (gm51 hSb ) rfl
        have rd306 : GR Sx [51, 21] jx 0 (bx) u0 [] i115 (0) (bx) u0 (0 + 1 + 0 + m65 + 1 + m117 + 0 + 1) (es64 ++ es116) := GR.g0 (l := [51]) (ms := []) [] rd302 pc304
        have rm307 : CN nm mx.rt (es116.foldl uC (es64.foldl uC (cx))) (GW Sx nm rnQ tb1 [51, 21] jx 0 (bx) u0 (mx.push (1, 0, 0, [])) [] i115 (0) (bx) u0 (0 + 1 + 0 + m65 + 1 + m117 + 0 + 1) ((mw118.on ((mw66.on (((mx.push (1, 0, 0, [])).one tb1).push (2, 0, 0, []))).one tb1)).one tb1)) := CN.gg (l := [51]) (ms := []) [] rm303 (fun q9 => q9) pm305
        have hz308e : ((mw118.on ((mw66.on (((mx.push (1, 0, 0, [])).one tb1).push (2, 0, 0, []))).one tb1)).one tb1) = (((mw118).lb ((mw66).lab))).on mx := rfl
        have hz308c : (es116.foldl uC (es64.foldl uC (cx))) = (es64 ++ es116).foldl uC cx := (by simp only [List.foldl_append, List.foldl_cons, List.foldl_nil])
        have hz308 : CN nm mx.rt ((es64 ++ es116).foldl uC cx) (GW Sx nm rnQ tb1 [51, 21] jx 0 (bx) u0 (mx.push (1, 0, 0, [])) [] i115 (0) (bx) u0 (0 + 1 + 0 + m65 + 1 + m117 + 0 + 1) ((((mw118).lb ((mw66).lab))).on mx)) := by
          have q9 := CN.up (c2 := es116.foldl uC (es64.foldl uC (cx))) rm307 (fun q9 => q9)
          rw [hz308e, hz308c] at q9
          exact q9
        have fe309 := RDX.nq (M := Nx + (0 + 1 + 0 + m65 + 1 + m117 + 0 + 1)) (RDX.cq (c2 := (es64 ++ es116).foldl uC cx) fx292 hz308c) (by omega)
        have fe309m : ((es64 ++ es116).foldl uC cx).m = σ98.2.1 45 a := (fe309.e45).symm.trans (rc_F F289 (Or.inl (by decide)) (by decide) (rfl))
        have ra298 : YSM σ281 a Sx nx bx [51, 21] jx cx (Nx) bx [] ((jx : Int) + 1) nm Tg gs T282 mx (mx.push (1, 0, 0, [])) (fun m9 => m9) := ⟨i115, es64 ++ es116, 0 + 1 + 0 + m65 + 1 + m117 + 0 + 1, ((mw118).lb ((mw66).lab)), (by omega), rd306, fe309, by rw [fe309m]; omega, (NI2.app ni70 ni122), mg295l, (MBD.put mb124), hz308⟩
        exact tn_zret (v := 1) rfl (by decide) dX5_choice_73 ⟨_, rfl, w288, ((((((FrC.rfl.trans (FrC.sub F15 (by decide))).trans (FrC.sub (FrC.old F37 gt9) (by decide))).trans (FrC.sub (FrC.old F59 gt9) (by decide))).trans (FrC.sub (FrC.old F88 (GT.trans gt9 gt53)) (by decide))).trans (FrC.sub (FrC.old F106 (GT.trans (GT.trans gt9 gt53) gt80)) (by decide))).trans (FrC.sub (FrC.old F289 (GT.trans (GT.trans (GT.trans gt9 gt53) gt80) gt100)) (by decide))), by omega, ⟨fun _ => ra298, fun q => absurd q (by decide)⟩, (RP.up rp294 (by omega))⟩
    · refine tn_iconst dX5_choice_46 ?_
      obtain ⟨⟨pl312, g313, fx314⟩, nf315⟩ := f102.2 (by omega)
      have rf316 : GRF Sx [51, 21] jx 0 (bx) u0 (pl312) := GR.fl (l := [28]) [24] rd93 g313
      have rb311 : YF σ98 a Sx bx [51, 21] jx ∧ FG Tg gs T99 σ98 a := ⟨⟨_, rf316, fx314⟩, nf315⟩
      exact tn_zret (v := 0) rfl (by decide) dX5_choice_47 ⟨_, rfl, w105, (((((FrC.rfl.trans (FrC.sub F15 (by decide))).trans (FrC.sub (FrC.old F37 gt9) (by decide))).trans (FrC.sub (FrC.old F59 gt9) (by decide))).trans (FrC.sub (FrC.old F88 (GT.trans gt9 gt53)) (by decide))).trans (FrC.sub (FrC.old F106 (GT.trans (GT.trans gt9 gt53) gt80)) (by decide))), by omega, ⟨fun q => absurd q (by decide), fun _ => rb311⟩, (RP.up rp108 (by omega))⟩
  · refine tn_iconst dX5_choice_29 ?_
    obtain ⟨⟨pl319, g320, fx321⟩, nf322⟩ := f55.2 (by omega)
    have g320g := g320 (bx) u0
    have rf323 : GRF Sx [51, 21] jx 0 (bx) u0 (pl319) := GR.fl (l := [2]) [51, 28, 24] rd45 g320g
    have rb318 : YF σ51 a Sx bx [51, 21] jx ∧ FG Tg gs T52 σ51 a := ⟨⟨_, rf323, fx321⟩, nf322⟩
    exact tn_zret (v := 0) rfl (by decide) dX5_choice_30 ⟨_, rfl, w58, (((FrC.rfl.trans (FrC.sub F15 (by decide))).trans (FrC.sub (FrC.old F37 gt9) (by decide))).trans (FrC.sub (FrC.old F59 gt9) (by decide))), by omega, ⟨fun q => absurd q (by decide), fun _ => rb318⟩, (RP.up rp61 (by omega))⟩
end
