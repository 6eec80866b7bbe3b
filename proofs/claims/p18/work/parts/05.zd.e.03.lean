section
set_option maxHeartbeats 4000000 in
set_option maxRecDepth 20000 in
theorem l_X5_call_f_44 (d : Nat) {T0 : CT} {σ0 : MS} {a : Nat} {c1 : Int} {c2 : Int} {c3 : Int} {Sx : Int → Int} {nx : Nat} {jx : Nat} {cx : CS} {Nx : Int} {bx : Int} {kp : Int} {post : Option Value → CT → MS → Prop} (r_c1 : -2147483648 ≤ c1 ∧ c1 ≤ 2147483647) (r_c2 : -2147483648 ≤ c2 ∧ c2 ≤ 2147483647) (r_c3 : -2147483648 ≤ c3 ∧ c3 ≤ 2147483647) (hw0 : WT T0 σ0) (hkp : kp ≤ 150) (hx_77 : ∀ (T : CT) (i4 : Int) (i5 : Int) (σ : MS) , (GT T0 T) → (WT T σ) → (FrC T0 [5, 6, 7, 43, 44, 47, 50, 51, 84, 85, 86, 87, 521] σ0 σ) → (OB T a 5) → (0 ≤ i4 ∧ i4 ≤ 1200) → (0 ≤ i5 ∧ i5 ≤ 2147483647) → (True) → (True) → (RP σ a kp) → (YF σ a Sx bx [25] jx) → Tn (d + 51) m_X5_call 77 T σ [(0, .ref a), (1, .int (iI c1)), (2, .int (iI c2)), (3, .int (iI c3)), (4, .int (iI i4)), (5, .int (iI i5))] [] post) (hx_126 : ∀ (T : CT) (i4 : Int) (i5 : Int) (σ : MS) , (GT T0 T) → (WT T σ) → (FrC T0 [5, 6, 7, 43, 44, 47, 50, 51, 84, 85, 86, 87, 521] σ0 σ) → (OB T a 5) → (0 ≤ i4 ∧ i4 ≤ 1200) → (0 ≤ i5 ∧ i5 ≤ 2147483647) → (True) → (True) → (RP σ a kp) → (CLX σ a Sx nx bx jx cx Nx (tkS Sx jx).2.2.2.2 (tkS Sx jx).1 (i4) ((jx : Int) + 2)) → Tn (d + 51) m_X5_call 126 T σ [(0, .ref a), (1, .int (iI c1)), (2, .int (iI c2)), (3, .int (iI c3)), (4, .int (iI i4)), (5, .int (iI i5))] [] post) (hx_142 : ∀ (T : CT) (i4 : Int) (i5 : Int) (σ : MS) , (GT T0 T) → (WT T σ) → (FrC T0 [5, 6, 7, 43, 44, 47, 50, 51, 84, 85, 86, 87, 521] σ0 σ) → (OB T a 5) → (0 ≤ i4 ∧ i4 ≤ 1200) → (0 ≤ i5 ∧ i5 ≤ 2147483647) → (True) → (True) → (RP σ a kp) → (CLX σ a Sx nx bx jx cx Nx (tkS Sx jx).2.2.2.2 (tkS Sx jx).1 (i4) ((jx : Int) + 2)) → Tn (d + 51) m_X5_call 142 T σ [(0, .ref a), (1, .int (iI c1)), (2, .int (iI c2)), (3, .int (iI c3)), (4, .int (iI i4)), (5, .int (iI i5))] [] post) : ∀ (n : Nat) (T : CT) (i4 : Int) (i5 : Int) (σ : MS) , (GT T0 T) → (WT T σ) → (FrC T0 [5, 6, 7, 43, 44, 47, 50, 51, 84, 85, 86, 87, 521] σ0 σ) → (OB T a 5) → (0 ≤ i4 ∧ i4 ≤ 1200) → (0 ≤ i5 ∧ i5 ≤ 2147483647) → (i4 = i5) → (CLV σ a Sx nx bx jx cx Nx (tkS Sx jx).2.2.2.2 (tkS Sx jx).1 (i4) ((jx : Int) + 2 + i5)) → (RP σ a kp) → (2147483700 - i5).toNat = n → Tn (d + 51) m_X5_call 44 T σ [(0, .ref a), (1, .int (iI c1)), (2, .int (iI c2)), (3, .int (iI c3)), (4, .int (iI i4)), (5, .int (iI i5))] [] post := by
  intro n
  induction n using Nat.strongRecOn with
  | _ n ih =>
    intro T i4 i5 σ hG hw hF h_a r_i4 r_i5 h45 hx hrp hm
    obtain ⟨jy, ey, my, loy, hfy, rda, rdb⟩ := hx
    have hSb := hfy.1.sb
    have hjn := RDX.jn hfy hw h_a
    refine tn_iload dX5_call_44 5 rfl ?_
    refine tn_sipush dX5_call_46 (by decide) ?_
    refine tn_icmp_ge (tgt := 142) dX5_call_49 (by decide) ⟨by omega, by omega⟩ ⟨by decide, by decide⟩ (fun h1 => ?_) (fun h1 => ?_)
    · exact tn_sub [0, 1, 2, 3, 4, 5] rfl (hx_142 T (i4) (i5) σ hG hw (FrC.rfl.trans (FrC.sub hF (by decide))) h_a (by omega) (by omega) True.intro True.intro (RP.up hrp (by omega)) (False.elim (by omega)))
    · refine tn_aload_n dX5_call_52 rfl 0 rfl ?_
      obtain ⟨x2, hx3, hk4⟩ : ∃ x : Nat, σ.2.1 33 a = (x : Int) ∧ (T x).1 = 39 := wf_33 hw h_a
      have hk4o : OB T x2 9 := ⟨by omega, by rw [hk4]; rfl, by omega⟩
      refine tn_getR (ci := 5) (i := 0) (n := 33) (x := x2) dX5_call_53 rfl lay_5 (by decide) fl5_12 h_a rfl rfl (hx3) ?_
      refine tn_getI (ci := 9) (i := 4) (n := 85) (t := σ.2.1 85 x2) dX5_call_56 rfl lay_9 (by decide) fl5_71 hk4o rfl rfl (rfl) ?_
      have g6 : ((-2147483648 : Int) ≤ σ.2.1 85 x2 ∧ σ.2.1 85 x2 ≤ 2147483647) := wf_85 hw hk4o
      have g6kd : σ.2.1 85 x2 = ckd (tkS Sx jy) := (rfl).symm.trans ((hfy).1.kd (hx3))
      refine tn_bipush dX5_call_59 (by decide) ?_
      refine tn_icmp_ne (tgt := 69) dX5_call_61 (by decide) ⟨by omega, by omega⟩ ⟨by decide, by decide⟩ (fun h7 => ?_) (fun h7 => ?_)
      · have rdy := rdb (by omega)
        refine tn_aload_n dX5_call_69 rfl 0 rfl ?_
        refine tn_iconst dX5_call_70 ?_
        refine tn_callV (M := m_X5_call) (pc := 71) (ix := 213) (ci := 5) (M' := m_X5_expression) (As := [.int (iI 1)]) (rest := []) dX5_call_71 ok_X5_expression im_X5_expression se_X5_expression ml5_213 np_X5_expression rfl rfl h_a rfl (Nat.le_of_ble_eq_true rfl) (Nat.le_of_ble_eq_true rfl) rfl (k_X5_expression_f (d) (T := T) (σ := σ) (a := a) (dp := 1) (kp := kp) (eo := 0) h_a (by decide) hw (by omega) hfy (by omega) (by omega) hrp) (fun r8 T10 σ9 gt11 hp => ?_)
        obtain ⟨v15, rfl, w16, F17, f12, f13, f14⟩ := hp
        replace h_a : OB T10 a 5 := gt11.ob h_a
        show Tn _ _ 74 T10 σ9 [(0, .ref a), (1, .int (iI c1)), (2, .int (iI c2)), (3, .int (iI c3)), (4, .int (iI i4)), (5, .int (iI i5))] [.int (iI v15)] _
        refine tn_if_ne (tgt := 79) dX5_call_74 (by decide) ⟨by omega, by omega⟩ (fun h19 => ?_) (fun h19 => ?_)
        · refine tn_aload_n dX5_call_79 rfl 0 rfl ?_
          obtain ⟨x20, hx21, hk22, hl23⟩ : ∃ x : Nat, σ9.2.1 49 a = (x : Int) ∧ AR T10 x 1 8 8 := wf_49 w16 h_a
          have hk22i : IA T10 x20 := by unfold IA; omega
          refine tn_getR (ci := 5) (i := 16) (n := 49) (x := x20) dX5_call_80 rfl lay_5 (by decide) fl5_43 h_a rfl rfl (hx21) ?_
          refine tn_iconst dX5_call_83 ?_
          refine tn_iload dX5_call_84 4 rfl ?_
          refine tn_imul dX5_call_86 ?_
          refine tn_aload_n dX5_call_87 rfl 0 rfl ?_
          refine tn_getI (ci := 5) (i := 17) (n := 50) (t := σ9.2.1 50 a) dX5_call_88 rfl lay_5 (by decide) fl5_216 h_a rfl rfl (rfl) ?_
          have g24 : ((-2147483648 : Int) ≤ σ9.2.1 50 a ∧ σ9.2.1 50 a ≤ 2147483647) := wf_50 w16 h_a
          refine tn_callSN (M := m_X5_call) (pc := 91) (ix := 129) (M' := m_X11_put) (As := [.ref x20, .int (iI (2 * i4)), .int (iI (σ9.2.1 50 a))]) (rest := []) dX5_call_91 ok_X11_put stt_X11_put nl5_129 np_X11_put rfl (Nat.le_of_ble_eq_true rfl) (Nat.le_of_ble_eq_true rfl) rfl (k_X11_put (d + 49) (T := T10) (σ := σ9) (x := x20) (i := 2 * i4) (y := σ9.2.1 50 a) hk22i (by omega) (by omega) (by omega) w16 (nh_k hk22 (by unfold HT; omega)) (vok_1 (by have q9 := hk22; omega) (by omega))) (fun r25 T27 σ26 gt28 hp => ?_)
          obtain ⟨rfl, rfl, w30, F31⟩ := hp
          clear gt28
          obtain ⟨i32, es33, m34, lo35, rr36, fx37⟩ := f13.1 (by omega)
          have rr36g := rr36 (bx) ((tkS Sx jx).2.2.2.2, i4, (tkS Sx jx).1)
          have rd38 : GR Sx [25] jx 0 (bx) u0 [27, 159] i32 (0) (bx) ((tkS Sx jx).2.2.2.2, i4, (tkS Sx jx).1) (my + m34) (ey ++ es33) := GR.gg (l := [2]) (ms := []) [27, 159] rdy rr36g
          have fx39 : RDX σ26 a Sx nx i32 (es33.foldl uC (ey.foldl uC cx)) (Nx + my + m34) := RDX.fc fx37 w16 h_a F31 (by decide) (by decide)
          have rp40 : RP σ26 a (kp - 4 * v15) := RP.frc f14 F31 (by decide) (by decide) (by decide) (by decide) (by decide)
          show Tn _ _ 94 T10 σ26 [(0, .ref a), (1, .int (iI c1)), (2, .int (iI c2)), (3, .int (iI c3)), (4, .int (iI i4)), (5, .int (iI i5))] [] _
          refine tn_aload_n dX5_call_94 rfl 0 rfl ?_
          refine tn_getR (ci := 5) (i := 16) (n := 49) (x := x20) dX5_call_95 rfl lay_5 (by decide) fl5_43 h_a rfl rfl (rc_F F31 (Or.inl (by decide)) (by decide) (hx21)) ?_
          refine tn_iconst dX5_call_98 ?_
          refine tn_iload dX5_call_99 4 rfl ?_
          refine tn_imul dX5_call_101 ?_
          refine tn_iconst dX5_call_102 ?_
          refine tn_iadd dX5_call_103 ?_
          refine tn_aload_n dX5_call_104 rfl 0 rfl ?_
          refine tn_getI (ci := 5) (i := 18) (n := 51) (t := σ9.2.1 51 a) dX5_call_105 rfl lay_5 (by decide) fl5_219 h_a rfl rfl (rc_F F31 (Or.inl (by decide)) (by decide) (rfl)) ?_
          have g41 : ((-2147483648 : Int) ≤ σ9.2.1 51 a ∧ σ9.2.1 51 a ≤ 2147483647) := wf_51 w16 h_a
          refine tn_callSN (M := m_X5_call) (pc := 108) (ix := 129) (M' := m_X11_put) (As := [.ref x20, .int (iI ((2 * i4) + 1)), .int (iI (σ9.2.1 51 a))]) (rest := []) dX5_call_108 ok_X11_put stt_X11_put nl5_129 np_X11_put rfl (Nat.le_of_ble_eq_true rfl) (Nat.le_of_ble_eq_true rfl) rfl (k_X11_put (d + 49) (T := T10) (σ := σ26) (x := x20) (i := (2 * i4) + 1) (y := σ9.2.1 51 a) hk22i (by omega) (by omega) (by omega) w30 (nh_k hk22 (by unfold HT; omega)) (vok_1 (by have q9 := hk22; omega) (by omega))) (fun r42 T44 σ43 gt45 hp => ?_)
          obtain ⟨rfl, rfl, w47, F48⟩ := hp
          clear gt45
          have fx49 : RDX σ43 a Sx nx i32 (es33.foldl uC (ey.foldl uC cx)) (Nx + my + m34) := RDX.fc fx39 w30 h_a F48 (by decide) (by decide)
          have rp50 : RP σ43 a (kp - 4 * v15) := RP.frc rp40 F48 (by decide) (by decide) (by decide) (by decide) (by decide)
          show Tn _ _ 111 T10 σ43 [(0, .ref a), (1, .int (iI c1)), (2, .int (iI c2)), (3, .int (iI c3)), (4, .int (iI i4)), (5, .int (iI i5))] [] _
          refine tn_iinc (q0 := 4) (L' := [(4, .int (iI (i4 + 1))), (0, .ref a), (1, .int (iI c1)), (2, .int (iI c2)), (3, .int (iI c3)), (5, .int (iI i5))]) dX5_call_111 rfl (by decide) rfl ?_
          refine tn_aload_n dX5_call_114 rfl 1 rfl ?_
          obtain ⟨x51, hx52, hk53⟩ : ∃ x : Nat, σ9.2.1 33 a = (x : Int) ∧ (T10 x).1 = 39 := wf_33 w16 h_a
          have hk53o : OB T10 x51 9 := ⟨by omega, by rw [hk53]; rfl, by omega⟩
          refine tn_getR (ci := 5) (i := 0) (n := 33) (x := x51) dX5_call_115 rfl lay_5 (by decide) fl5_12 h_a rfl rfl (rc_F F48 (Or.inl (by decide)) (by decide) (rc_F F31 (Or.inl (by decide)) (by decide) (hx52))) ?_
          refine tn_getI (ci := 9) (i := 4) (n := 85) (t := σ9.2.1 85 x51) dX5_call_118 rfl lay_9 (by decide) fl5_71 hk53o rfl rfl (rc_F F48 (Or.inl (by decide)) (by decide) (rc_F F31 (Or.inl (by decide)) (by decide) (rfl))) ?_
          have g55 : ((-2147483648 : Int) ≤ σ9.2.1 85 x51 ∧ σ9.2.1 85 x51 ≤ 2147483647) := wf_85 w16 hk53o
          have g55kd : σ9.2.1 85 x51 = ckd (tkS Sx i32) := (rc_F F48 (Or.inl (by decide)) (by decide) (rc_F F31 (Or.inl (by decide)) (by decide) (rfl))).symm.trans ((fx49).1.kd (rc_F F48 (Or.inl (by decide)) (by decide) (rc_F F31 (Or.inl (by decide)) (by decide) (hx52))))
          refine tn_bipush dX5_call_121 (by decide) ?_
          refine tn_icmp_eq (tgt := 129) dX5_call_123 (by decide) ⟨by omega, by omega⟩ ⟨by decide, by decide⟩ (fun h56 => ?_) (fun h56 => ?_)
          · refine tn_aload_n dX5_call_129 rfl 1 rfl ?_
            refine tn_getR (ci := 5) (i := 0) (n := 33) (x := x51) dX5_call_130 rfl lay_5 (by decide) fl5_12 h_a rfl rfl (rc_F F48 (Or.inl (by decide)) (by decide) (rc_F F31 (Or.inl (by decide)) (by decide) (hx52))) ?_
            have q61 : σ43.2.1 84 x51 = σ9.2.1 84 x51 := rc_F F48 (Or.inl (by decide)) (by decide) (rc_F F31 (Or.inl (by decide)) (by decide) (rfl))
            refine tn_callV (M := m_X5_call) (pc := 133) (ix := 93) (ci := 9) (M' := m_X9_next) (As := []) (rest := []) dX5_call_133 ok_X9_next im_X9_next se_X9_next ml5_93 np_X9_next rfl rfl hk53o rfl (Nat.le_of_ble_eq_true rfl) (Nat.le_of_ble_eq_true rfl) rfl (k_X9_next_f (d + 49) (T := T10) (σ := σ43) (a := x51) hk53o w47 (RP.tk rp50 w47 h_a (rc_F F48 (Or.inl (by decide)) (by decide) (rc_F F31 (Or.inl (by decide)) (by decide) (hx52)))) ((fx49).1.tk (rc_F F48 (Or.inl (by decide)) (by decide) (rc_F F31 (Or.inl (by decide)) (by decide) (hx52)))) (by rw [(fx49).1.kd (rc_F F48 (Or.inl (by decide)) (by decide) (rc_F F31 (Or.inl (by decide)) (by decide) (hx52)))]; omega)) (fun r57 T59 σ58 gt60 hp => ?_)
            obtain ⟨rfl, rfl, w67, F68, f62, f63, f64, f65⟩ := hp
            clear gt60
            have pc70 : GR Sx [27] i32 (0) (bx) ((tkS Sx jx).2.2.2.2, i4, (tkS Sx jx).1) [2, 27] (i32 + 1) (0) (bx) (((tkS Sx jx).2.2.2.2, i4, (tkS Sx jx).1).1, ((tkS Sx jx).2.2.2.2, i4, (tkS Sx jx).1).2.1 + 1, ((tkS Sx jx).2.2.2.2, i4, (tkS Sx jx).1).2.2) 0 [] := x27y hSb (by omega)
            have rd71 : GR Sx [25] jx 0 (bx) u0 [2, 27, 159] (i32 + 1) (0) (bx) (((tkS Sx jx).2.2.2.2, i4, (tkS Sx jx).1).1, ((tkS Sx jx).2.2.2.2, i4, (tkS Sx jx).1).2.1 + 1, ((tkS Sx jx).2.2.2.2, i4, (tkS Sx jx).1).2.2) (my + m34 + 0) (ey ++ es33) := GR.g0 (l := [27]) (ms := [2, 27]) [159] rd38 pc70
            have fx69 : RDX σ58 a Sx nx (i32 + 1) (es33.foldl uC (ey.foldl uC cx)) (Nx + my + m34) := RDX.nx fx49 w47 h_a (rc_F F48 (Or.inl (by decide)) (by decide) (rc_F F31 (Or.inl (by decide)) (by decide) (hx52))) F68 f65
            have rp72 : RP σ58 a (kp - 4 * v15 - 4) := RP.next4 rp50 (rc_F F48 (Or.inl (by decide)) (by decide) (rc_F F31 (Or.inl (by decide)) (by decide) (hx52))) F68 (by decide) (by decide) (by decide) f62 f64 (by rw [show σ43.2.1 85 x51 = σ9.2.1 85 x51 from rc_F F48 (Or.inl (by decide)) (by decide) (rc_F F31 (Or.inl (by decide)) (by decide) (rfl))]; omega)
            show Tn _ _ 136 T10 σ58 [(4, .int (iI (i4 + 1))), (0, .ref a), (1, .int (iI c1)), (2, .int (iI c2)), (3, .int (iI c3)), (5, .int (iI i5))] [] _
            refine tn_iinc (q0 := 5) (L' := [(5, .int (iI (i5 + 1))), (4, .int (iI (i4 + 1))), (0, .ref a), (1, .int (iI c1)), (2, .int (iI c2)), (3, .int (iI c3))]) dX5_call_136 rfl (by decide) rfl ?_
            refine tn_goto (tgt := 44) dX5_call_139 (by decide) ?_
            have hx73a : ((i4 + 1 : Int) = 0 ∧ ckd (tkS Sx (i32 + 1)) = 41) → GR Sx [25] jx 0 bx u0 [38, 141, 159] (i32 + 1) 0 bx ((tkS Sx jx).2.2.2.2, i4 + 1, (tkS Sx jx).1) (my + m34 + 0) (ey ++ es33) := fun q => absurd q.1 (by omega)
            have hx73 : CLV σ58 a Sx nx bx jx cx Nx (tkS Sx jx).2.2.2.2 (tkS Sx jx).1 (i4 + 1) ((jx : Int) + 2 + (i5 + 1)) := ⟨(i32 + 1), ey ++ es33, my + m34 + 0, by omega, RDX.nq (RDX.cq fx69 (by simp only [List.foldl_append, List.foldl_cons, List.foldl_nil])) (by omega), hx73a, fun _ => rd71⟩
            exact tn_sub [2, 3, 4, 5, 1, 0] rfl (ih _ (by omega) T10 (i4 + 1) (i5 + 1) σ58 (GT.trans hG gt11) w67 (((((FrC.rfl.trans (FrC.sub hF (by decide))).trans (FrC.sub (FrC.old F17 hG) (by decide))).trans (FrC.sub (FrC.old F31 (GT.trans hG gt11)) (by decide))).trans (FrC.sub (FrC.old F48 (GT.trans hG gt11)) (by decide))).trans (FrC.sub (FrC.old F68 (GT.trans hG gt11)) (by decide))) h_a (by omega) (by omega) (by omega) hx73 (RP.up rp72 (by omega)) rfl)
          · have pc75 : GR Sx [27] i32 (0) (bx) ((tkS Sx jx).2.2.2.2, i4, (tkS Sx jx).1) [38, 141] i32 (0) (bx) (((tkS Sx jx).2.2.2.2, i4, (tkS Sx jx).1).1, ((tkS Sx jx).2.2.2.2, i4, (tkS Sx jx).1).2.1 + 1, ((tkS Sx jx).2.2.2.2, i4, (tkS Sx jx).1).2.2) 0 [] := x27n hSb (by omega)
            have rd76 : GR Sx [25] jx 0 (bx) u0 [38, 141, 159] i32 (0) (bx) (((tkS Sx jx).2.2.2.2, i4, (tkS Sx jx).1).1, ((tkS Sx jx).2.2.2.2, i4, (tkS Sx jx).1).2.1 + 1, ((tkS Sx jx).2.2.2.2, i4, (tkS Sx jx).1).2.2) (my + m34 + 0) (ey ++ es33) := GR.g0 (l := [27]) (ms := [38, 141]) [159] rd38 pc75
            have hx74 : CLX σ43 a Sx nx bx jx cx Nx (tkS Sx jx).2.2.2.2 (tkS Sx jx).1 (i4 + 1) ((jx : Int) + 2) := ⟨i32, ey ++ es33, my + m34 + 0, by omega, RDX.nq (RDX.cq fx49 (by simp only [List.foldl_append, List.foldl_cons, List.foldl_nil])) (by omega), rd76⟩
            exact tn_sub [1, 2, 3, 4, 0, 5] rfl (hx_126 T10 (i4 + 1) (i5) σ43 (GT.trans hG gt11) w47 ((((FrC.rfl.trans (FrC.sub hF (by decide))).trans (FrC.sub (FrC.old F17 hG) (by decide))).trans (FrC.sub (FrC.old F31 (GT.trans hG gt11)) (by decide))).trans (FrC.sub (FrC.old F48 (GT.trans hG gt11)) (by decide))) h_a (by omega) (by omega) True.intro True.intro (RP.up rp50 (by omega)) hx74)
        · obtain ⟨pl77, g78, fx79⟩ := f13.2 (by omega)
          have g78g := g78 (bx) ((tkS Sx jx).2.2.2.2, i4, (tkS Sx jx).1)
          have rf80 : GRF Sx [25] jx 0 (bx) u0 (pl77) := GR.fl (l := [2]) [27, 159] rdy g78g
          exact tn_sub [0, 1, 2, 3, 4, 5] rfl (hx_77 T10 (i4) (i5) σ9 (GT.trans hG gt11) w16 ((FrC.rfl.trans (FrC.sub hF (by decide))).trans (FrC.sub (FrC.old F17 hG) (by decide))) h_a (by omega) (by omega) True.intro True.intro (RP.up f14 (by omega)) ⟨_, rf80, fx79⟩)
      · refine tn_iload dX5_call_64 4 rfl ?_
        refine tn_if_le (tgt := 142) dX5_call_66 (by decide) ⟨by omega, by omega⟩ (fun h81 => ?_) (fun h81 => ?_)
        · have hx82 : CLX σ a Sx nx bx jx cx Nx (tkS Sx jx).2.2.2.2 (tkS Sx jx).1 (i4) ((jx : Int) + 2) := ⟨jy, ey, my, by omega, hfy, rda (by omega)⟩
          exact tn_sub [0, 1, 2, 3, 4, 5] rfl (hx_142 T (i4) (i5) σ hG hw (FrC.rfl.trans (FrC.sub hF (by decide))) h_a (by omega) (by omega) True.intro True.intro (RP.up hrp (by omega)) hx82)
        · have rdy := rdb (by omega)
          refine tn_aload_n dX5_call_69 rfl 0 rfl ?_
          refine tn_iconst dX5_call_70 ?_
          refine tn_callV (M := m_X5_call) (pc := 71) (ix := 213) (ci := 5) (M' := m_X5_expression) (As := [.int (iI 1)]) (rest := []) dX5_call_71 ok_X5_expression im_X5_expression se_X5_expression ml5_213 np_X5_expression rfl rfl h_a rfl (Nat.le_of_ble_eq_true rfl) (Nat.le_of_ble_eq_true rfl) rfl (k_X5_expression_f (d) (T := T) (σ := σ) (a := a) (dp := 1) (kp := kp) (eo := 0) h_a (by decide) hw (by omega) hfy (by omega) (by omega) hrp) (fun r83 T85 σ84 gt86 hp => ?_)
          obtain ⟨v90, rfl, w91, F92, f87, f88, f89⟩ := hp
          replace h_a : OB T85 a 5 := gt86.ob h_a
          show Tn _ _ 74 T85 σ84 [(0, .ref a), (1, .int (iI c1)), (2, .int (iI c2)), (3, .int (iI c3)), (4, .int (iI i4)), (5, .int (iI i5))] [.int (iI v90)] _
          refine tn_if_ne (tgt := 79) dX5_call_74 (by decide) ⟨by omega, by omega⟩ (fun h94 => ?_) (fun h94 => ?_)
          · refine tn_aload_n dX5_call_79 rfl 0 rfl ?_
            obtain ⟨x95, hx96, hk97, hl98⟩ : ∃ x : Nat, σ84.2.1 49 a = (x : Int) ∧ AR T85 x 1 8 8 := wf_49 w91 h_a
            have hk97i : IA T85 x95 := by unfold IA; omega
            refine tn_getR (ci := 5) (i := 16) (n := 49) (x := x95) dX5_call_80 rfl lay_5 (by decide) fl5_43 h_a rfl rfl (hx96) ?_
            refine tn_iconst dX5_call_83 ?_
            refine tn_iload dX5_call_84 4 rfl ?_
            refine tn_imul dX5_call_86 ?_
            refine tn_aload_n dX5_call_87 rfl 0 rfl ?_
            refine tn_getI (ci := 5) (i := 17) (n := 50) (t := σ84.2.1 50 a) dX5_call_88 rfl lay_5 (by decide) fl5_216 h_a rfl rfl (rfl) ?_
            have g99 : ((-2147483648 : Int) ≤ σ84.2.1 50 a ∧ σ84.2.1 50 a ≤ 2147483647) := wf_50 w91 h_a
            refine tn_callSN (M := m_X5_call) (pc := 91) (ix := 129) (M' := m_X11_put) (As := [.ref x95, .int (iI (2 * i4)), .int (iI (σ84.2.1 50 a))]) (rest := []) dX5_call_91 ok_X11_put stt_X11_put nl5_129 np_X11_put rfl (Nat.le_of_ble_eq_true rfl) (Nat.le_of_ble_eq_true rfl) rfl (k_X11_put (d + 49) (T := T85) (σ := σ84) (x := x95) (i := 2 * i4) (y := σ84.2.1 50 a) hk97i (by omega) (by omega) (by omega) w91 (nh_k hk97 (by unfold HT; omega)) (vok_1 (by have q9 := hk97; omega) (by omega))) (fun r100 T102 σ101 gt103 hp => ?_)
            obtain ⟨rfl, rfl, w105, F106⟩ := hp
            clear gt103
            obtain ⟨i107, es108, m109, lo110, rr111, fx112⟩ := f88.1 (by omega)
            have rr111g := rr111 (bx) ((tkS Sx jx).2.2.2.2, i4, (tkS Sx jx).1)
            have rd113 : GR Sx [25] jx 0 (bx) u0 [27, 159] i107 (0) (bx) ((tkS Sx jx).2.2.2.2, i4, (tkS Sx jx).1) (my + m109) (ey ++ es108) := GR.gg (l := [2]) (ms := []) [27, 159] rdy rr111g
            have fx114 : RDX σ101 a Sx nx i107 (es108.foldl uC (ey.foldl uC cx)) (Nx + my + m109) := RDX.fc fx112 w91 h_a F106 (by decide) (by decide)
            have rp115 : RP σ101 a (kp - 4 * v90) := RP.frc f89 F106 (by decide) (by decide) (by decide) (by decide) (by decide)
            show Tn _ _ 94 T85 σ101 [(0, .ref a), (1, .int (iI c1)), (2, .int (iI c2)), (3, .int (iI c3)), (4, .int (iI i4)), (5, .int (iI i5))] [] _
            refine tn_aload_n dX5_call_94 rfl 0 rfl ?_
            refine tn_getR (ci := 5) (i := 16) (n := 49) (x := x95) dX5_call_95 rfl lay_5 (by decide) fl5_43 h_a rfl rfl (rc_F F106 (Or.inl (by decide)) (by decide) (hx96)) ?_
            refine tn_iconst dX5_call_98 ?_
            refine tn_iload dX5_call_99 4 rfl ?_
            refine tn_imul dX5_call_101 ?_
            refine tn_iconst dX5_call_102 ?_
            refine tn_iadd dX5_call_103 ?_
            refine tn_aload_n dX5_call_104 rfl 0 rfl ?_
            refine tn_getI (ci := 5) (i := 18) (n := 51) (t := σ84.2.1 51 a) dX5_call_105 rfl lay_5 (by decide) fl5_219 h_a rfl rfl (rc_F F106 (Or.inl (by decide)) (by decide) (rfl)) ?_
            have g116 : ((-2147483648 : Int) ≤ σ84.2.1 51 a ∧ σ84.2.1 51 a ≤ 2147483647) := wf_51 w91 h_a
            refine tn_callSN (M := m_X5_call) (pc := 108) (ix := 129) (M' := m_X11_put) (As := [.ref x95, .int (iI ((2 * i4) + 1)), .int (iI (σ84.2.1 51 a))]) (rest := []) dX5_call_108 ok_X11_put stt_X11_put nl5_129 np_X11_put rfl (Nat.le_of_ble_eq_true rfl) (Nat.le_of_ble_eq_true rfl) rfl (k_X11_put (d + 49) (T := T85) (σ := σ101) (x := x95) (i := (2 * i4) + 1) (y := σ84.2.1 51 a) hk97i (by omega) (by omega) (by omega) w105 (nh_k hk97 (by unfold HT; omega)) (vok_1 (by have q9 := hk97; omega) (by omega))) (fun r117 T119 σ118 gt120 hp => ?_)
            obtain ⟨rfl, rfl, w122, F123⟩ := hp
            clear gt120
            have fx124 : RDX σ118 a Sx nx i107 (es108.foldl uC (ey.foldl uC cx)) (Nx + my + m109) := RDX.fc fx114 w105 h_a F123 (by decide) (by decide)
            have rp125 : RP σ118 a (kp - 4 * v90) := RP.frc rp115 F123 (by decide) (by decide) (by decide) (by decide) (by decide)
            show Tn _ _ 111 T85 σ118 [(0, .ref a), (1, .int (iI c1)), (2, .int (iI c2)), (3, .int (iI c3)), (4, .int (iI i4)), (5, .int (iI i5))] [] _
            refine tn_iinc (q0 := 4) (L' := [(4, .int (iI (i4 + 1))), (0, .ref a), (1, .int (iI c1)), (2, .int (iI c2)), (3, .int (iI c3)), (5, .int (iI i5))]) dX5_call_111 rfl (by decide) rfl ?_
            refine tn_aload_n dX5_call_114 rfl 1 rfl ?_
            obtain ⟨x126, hx127, hk128⟩ : ∃ x : Nat, σ84.2.1 33 a = (x : Int) ∧ (T85 x).1 = 39 := wf_33 w91 h_a
            have hk128o : OB T85 x126 9 := ⟨by omega, by rw [hk128]; rfl, by omega⟩
            refine tn_getR (ci := 5) (i := 0) (n := 33) (x := x126) dX5_call_115 rfl lay_5 (by decide) fl5_12 h_a rfl rfl (rc_F F123 (Or.inl (by decide)) (by decide) (rc_F F106 (Or.inl (by decide)) (by decide) (hx127))) ?_
            refine tn_getI (ci := 9) (i := 4) (n := 85) (t := σ84.2.1 85 x126) dX5_call_118 rfl lay_9 (by decide) fl5_71 hk128o rfl rfl (rc_F F123 (Or.inl (by decide)) (by decide) (rc_F F106 (Or.inl (by decide)) (by decide) (rfl))) ?_
            have g130 : ((-2147483648 : Int) ≤ σ84.2.1 85 x126 ∧ σ84.2.1 85 x126 ≤ 2147483647) := wf_85 w91 hk128o
            have g130kd : σ84.2.1 85 x126 = ckd (tkS Sx i107) := (rc_F F123 (Or.inl (by decide)) (by decide) (rc_F F106 (Or.inl (by decide)) (by decide) (rfl))).symm.trans ((fx124).1.kd (rc_F F123 (Or.inl (by decide)) (by decide) (rc_F F106 (Or.inl (by decide)) (by decide) (hx127))))
            refine tn_bipush dX5_call_121 (by decide) ?_
            refine tn_icmp_eq (tgt := 129) dX5_call_123 (by decide) ⟨by omega, by omega⟩ ⟨by decide, by decide⟩ (fun h131 => ?_) (fun h131 => ?_)
            · refine tn_aload_n dX5_call_129 rfl 1 rfl ?_
              refine tn_getR (ci := 5) (i := 0) (n := 33) (x := x126) dX5_call_130 rfl lay_5 (by decide) fl5_12 h_a rfl rfl (rc_F F123 (Or.inl (by decide)) (by decide) (rc_F F106 (Or.inl (by decide)) (by decide) (hx127))) ?_
              have q136 : σ118.2.1 84 x126 = σ84.2.1 84 x126 := rc_F F123 (Or.inl (by decide)) (by decide) (rc_F F106 (Or.inl (by decide)) (by decide) (rfl))
              refine tn_callV (M := m_X5_call) (pc := 133) (ix := 93) (ci := 9) (M' := m_X9_next) (As := []) (rest := []) dX5_call_133 ok_X9_next im_X9_next se_X9_next ml5_93 np_X9_next rfl rfl hk128o rfl (Nat.le_of_ble_eq_true rfl) (Nat.le_of_ble_eq_true rfl) rfl (k_X9_next_f (d + 49) (T := T85) (σ := σ118) (a := x126) hk128o w122 (RP.tk rp125 w122 h_a (rc_F F123 (Or.inl (by decide)) (by decide) (rc_F F106 (Or.inl (by decide)) (by decide) (hx127)))) ((fx124).1.tk (rc_F F123 (Or.inl (by decide)) (by decide) (rc_F F106 (Or.inl (by decide)) (by decide) (hx127)))) (by rw [(fx124).1.kd (rc_F F123 (Or.inl (by decide)) (by decide) (rc_F F106 (Or.inl (by decide)) (by decide) (hx127)))]; omega)) (fun r132 T134 σ133 gt135 hp => ?_)
              obtain ⟨rfl, rfl, w142, F143, f137, f138, f139, f140⟩ := hp
              clear gt135
              have pc145 : GR Sx [27] i107 (0) (bx) ((tkS Sx jx).2.2.2.2, i4, (tkS Sx jx).1) [2, 27] (i107 + 1) (0) (bx) (((tkS Sx jx).2.2.2.2, i4, (tkS Sx jx).1).1, ((tkS Sx jx).2.2.2.2, i4, (tkS Sx jx).1).2.1 + 1, ((tkS Sx jx).2.2.2.2, i4, (tkS Sx jx).1).2.2) 0 [] := x27y hSb (by omega)
              have rd146 : GR Sx [25] jx 0 (bx) u0 [2, 27, 159] (i107 + 1) (0) (bx) (((tkS Sx jx).2.2.2.2, i4, (tkS Sx jx).1).1, ((tkS Sx jx).2.2.2.2, i4, (tkS Sx jx).1).2.1 + 1, ((tkS Sx jx).2.2.2.2, i4, (tkS Sx jx).1).2.2) (my + m109 + 0) (ey ++ es108) := GR.g0 (l := [27]) (ms := [2, 27]) [159] rd113 pc145
              have fx144 : RDX σ133 a Sx nx (i107 + 1) (es108.foldl uC (ey.foldl uC cx)) (Nx + my + m109) := RDX.nx fx124 w122 h_a (rc_F F123 (Or.inl (by decide)) (by decide) (rc_F F106 (Or.inl (by decide)) (by decide) (hx127))) F143 f140
              have rp147 : RP σ133 a (kp - 4 * v90 - 4) := RP.next4 rp125 (rc_F F123 (Or.inl (by decide)) (by decide) (rc_F F106 (Or.inl (by decide)) (by decide) (hx127))) F143 (by decide) (by decide) (by decide) f137 f139 (by rw [show σ118.2.1 85 x126 = σ84.2.1 85 x126 from rc_F F123 (Or.inl (by decide)) (by decide) (rc_F F106 (Or.inl (by decide)) (by decide) (rfl))]; omega)
              show Tn _ _ 136 T85 σ133 [(4, .int (iI (i4 + 1))), (0, .ref a), (1, .int (iI c1)), (2, .int (iI c2)), (3, .int (iI c3)), (5, .int (iI i5))] [] _
              refine tn_iinc (q0 := 5) (L' := [(5, .int (iI (i5 + 1))), (4, .int (iI (i4 + 1))), (0, .ref a), (1, .int (iI c1)), (2, .int (iI c2)), (3, .int (iI c3))]) dX5_call_136 rfl (by decide) rfl ?_
              refine tn_goto (tgt := 44) dX5_call_139 (by decide) ?_
              have hx148a : ((i4 + 1 : Int) = 0 ∧ ckd (tkS Sx (i107 + 1)) = 41) → GR Sx [25] jx 0 bx u0 [38, 141, 159] (i107 + 1) 0 bx ((tkS Sx jx).2.2.2.2, i4 + 1, (tkS Sx jx).1) (my + m109 + 0) (ey ++ es108) := fun q => absurd q.1 (by omega)
              have hx148 : CLV σ133 a Sx nx bx jx cx Nx (tkS Sx jx).2.2.2.2 (tkS Sx jx).1 (i4 + 1) ((jx : Int) + 2 + (i5 + 1)) := ⟨(i107 + 1), ey ++ es108, my + m109 + 0, by omega, RDX.nq (RDX.cq fx144 (by simp only [List.foldl_append, List.foldl_cons, List.foldl_nil])) (by omega), hx148a, fun _ => rd146⟩
              exact tn_sub [2, 3, 4, 5, 1, 0] rfl (ih _ (by omega) T85 (i4 + 1) (i5 + 1) σ133 (GT.trans hG gt86) w142 (((((FrC.rfl.trans (FrC.sub hF (by decide))).trans (FrC.sub (FrC.old F92 hG) (by decide))).trans (FrC.sub (FrC.old F106 (GT.trans hG gt86)) (by decide))).trans (FrC.sub (FrC.old F123 (GT.trans hG gt86)) (by decide))).trans (FrC.sub (FrC.old F143 (GT.trans hG gt86)) (by decide))) h_a (by omega) (by omega) (by omega) hx148 (RP.up rp147 (by omega)) rfl)
            · have pc150 : GR Sx [27] i107 (0) (bx) ((tkS Sx jx).2.2.2.2, i4, (tkS Sx jx).1) [38, 141] i107 (0) (bx) (((tkS Sx jx).2.2.2.2, i4, (tkS Sx jx).1).1, ((tkS Sx jx).2.2.2.2, i4, (tkS Sx jx).1).2.1 + 1, ((tkS Sx jx).2.2.2.2, i4, (tkS Sx jx).1).2.2) 0 [] := x27n hSb (by omega)
              have rd151 : GR Sx [25] jx 0 (bx) u0 [38, 141, 159] i107 (0) (bx) (((tkS Sx jx).2.2.2.2, i4, (tkS Sx jx).1).1, ((tkS Sx jx).2.2.2.2, i4, (tkS Sx jx).1).2.1 + 1, ((tkS Sx jx).2.2.2.2, i4, (tkS Sx jx).1).2.2) (my + m109 + 0) (ey ++ es108) := GR.g0 (l := [27]) (ms := [38, 141]) [159] rd113 pc150
              have hx149 : CLX σ118 a Sx nx bx jx cx Nx (tkS Sx jx).2.2.2.2 (tkS Sx jx).1 (i4 + 1) ((jx : Int) + 2) := ⟨i107, ey ++ es108, my + m109 + 0, by omega, RDX.nq (RDX.cq fx124 (by simp only [List.foldl_append, List.foldl_cons, List.foldl_nil])) (by omega), rd151⟩
              exact tn_sub [1, 2, 3, 4, 0, 5] rfl (hx_126 T85 (i4 + 1) (i5) σ118 (GT.trans hG gt86) w122 ((((FrC.rfl.trans (FrC.sub hF (by decide))).trans (FrC.sub (FrC.old F92 hG) (by decide))).trans (FrC.sub (FrC.old F106 (GT.trans hG gt86)) (by decide))).trans (FrC.sub (FrC.old F123 (GT.trans hG gt86)) (by decide))) h_a (by omega) (by omega) True.intro True.intro (RP.up rp125 (by omega)) hx149)
          · obtain ⟨pl152, g153, fx154⟩ := f88.2 (by omega)
            have g153g := g153 (bx) ((tkS Sx jx).2.2.2.2, i4, (tkS Sx jx).1)
            have rf155 : GRF Sx [25] jx 0 (bx) u0 (pl152) := GR.fl (l := [2]) [27, 159] rdy g153g
            exact tn_sub [0, 1, 2, 3, 4, 5] rfl (hx_77 T85 (i4) (i5) σ84 (GT.trans hG gt86) w91 ((FrC.rfl.trans (FrC.sub hF (by decide))).trans (FrC.sub (FrC.old F92 hG) (by decide))) h_a (by omega) (by omega) True.intro True.intro (RP.up f89 (by omega)) ⟨_, rf155, fx154⟩)
set_option maxHeartbeats 4000000 in
set_option maxRecDepth 20000 in
theorem l_X5_call_f_184 (d : Nat) {T : CT} {σ0 : MS} {a : Nat} {Sx : Int → Int} {nx : Nat} {jx : Nat} {cy : CS} {Ny : Int} {kp : Int} {post : Option Value → CT → MS → Prop} (h_a : OB T a 5) (hw0 : WT T σ0) (hkp : kp ≤ 150) (hx_229 : ∀ (i5 : Int) (σ : MS) , (WT T σ) → (FrC T [] σ0 σ) → (0 ≤ i5 ∧ i5 ≤ 2147483647) → (RDX σ a Sx nx jx cy Ny) → (RP σ a kp) → Tn (d + 51) m_X5_call 229 T σ [(0, .ref a), (5, .int (iI i5))] [] post) : ∀ (n : Nat) (i5 : Int) (σ : MS) , (WT T σ) → (FrC T [] σ0 σ) → (0 ≤ i5 ∧ i5 ≤ 2147483647) → (RDX σ a Sx nx jx cy Ny) → (RP σ a kp) → (2147483700 - i5).toNat = n → Tn (d + 51) m_X5_call 184 T σ [(0, .ref a), (5, .int (iI i5))] [] post := by
  intro n
  induction n using Nat.strongRecOn with
  | _ n ih =>
    intro i5 σ hw hF r_i5 hcy hrp hm
    refine tn_iload dX5_call_184 1 rfl ?_
    refine tn_iconst dX5_call_186 ?_
    refine tn_icmp_ge (tgt := 229) dX5_call_187 (by decide) ⟨by omega, by omega⟩ ⟨by decide, by decide⟩ (fun h1 => ?_) (fun h1 => ?_)
    · exact tn_sub [0, 1] rfl (hx_229 (i5) σ hw (FrC.rfl.trans (FrC.sub hF (by decide))) (by omega) hcy (RP.up hrp (by omega)))
    · refine tn_aload_n dX5_call_190 rfl 0 rfl ?_
      obtain ⟨x2, hx3, hk4⟩ : ∃ x : Nat, σ0.2.1 35 a = (x : Int) ∧ (T x).1 = 31 := wf_35 hw0 h_a
      have hk4o : OB T x2 1 := ⟨by omega, by rw [hk4]; rfl, by omega⟩
      refine tn_getR (ci := 5) (i := 2) (n := 35) (x := x2) dX5_call_191 rfl lay_5 (by decide) fl5_47 h_a rfl rfl (rc_F hF (Or.inl (by decide)) (by decide) (hx3)) ?_
      refine tn_iload dX5_call_194 1 rfl ?_
      refine tn_aload_n dX5_call_196 rfl 0 rfl ?_
      obtain ⟨x6, hx7, hk8, hl9⟩ : ∃ x : Nat, σ0.2.1 49 a = (x : Int) ∧ AR T x 1 8 8 := wf_49 hw0 h_a
      have hk8i : IA T x6 := by unfold IA; omega
      refine tn_getR (ci := 5) (i := 16) (n := 49) (x := x6) dX5_call_197 rfl lay_5 (by decide) fl5_43 h_a rfl rfl (rc_F hF (Or.inl (by decide)) (by decide) (hx7)) ?_
      refine tn_iconst dX5_call_200 ?_
      refine tn_iload dX5_call_201 1 rfl ?_
      refine tn_imul dX5_call_203 ?_
      refine tn_callSN (M := m_X5_call) (pc := 204) (ix := 231) (M' := m_X11_at) (As := [.ref x6, .int (iI (2 * i5))]) (rest := [.int (iI i5), .ref x2]) dX5_call_204 ok_X11_at stt_X11_at nl5_231 np_X11_at rfl (Nat.le_of_ble_eq_true rfl) (Nat.le_of_ble_eq_true rfl) rfl (k_X11_at (d + 49) (T := T) (σ := σ) (x := x6) (i := 2 * i5) hk8i (by omega) (by omega) hw ) (fun r10 T12 σ11 gt13 hp => ?_)
      obtain ⟨v17, rfl, rfl, rfl, f14, f15, f16⟩ := hp
      clear gt13
      clear f15 f16
      show Tn _ _ 207 T σ [(0, .ref a), (5, .int (iI i5))] [.int (iI v17), .int (iI i5), .ref x2] _
      refine tn_aload_n dX5_call_207 rfl 0 rfl ?_
      refine tn_getR (ci := 5) (i := 16) (n := 49) (x := x6) dX5_call_208 rfl lay_5 (by decide) fl5_43 h_a rfl rfl (rc_F hF (Or.inl (by decide)) (by decide) (hx7)) ?_
      refine tn_iconst dX5_call_211 ?_
      refine tn_iload dX5_call_212 1 rfl ?_
      refine tn_imul dX5_call_214 ?_
      refine tn_iconst dX5_call_215 ?_
      refine tn_iadd dX5_call_216 ?_
      refine tn_callSN (M := m_X5_call) (pc := 217) (ix := 231) (M' := m_X11_at) (As := [.ref x6, .int (iI ((2 * i5) + 1))]) (rest := [.int (iI v17), .int (iI i5), .ref x2]) dX5_call_217 ok_X11_at stt_X11_at nl5_231 np_X11_at rfl (Nat.le_of_ble_eq_true rfl) (Nat.le_of_ble_eq_true rfl) rfl (k_X11_at (d + 49) (T := T) (σ := σ) (x := x6) (i := (2 * i5) + 1) hk8i (by omega) (by omega) hw ) (fun r18 T20 σ19 gt21 hp => ?_)
      obtain ⟨v25, rfl, rfl, rfl, f22, f23, f24⟩ := hp
      clear gt21
      clear f23 f24
      show Tn _ _ 220 T σ [(0, .ref a), (5, .int (iI i5))] [.int (iI v25), .int (iI v17), .int (iI i5), .ref x2] _
      refine tn_callV (M := m_X5_call) (pc := 220) (ix := 143) (ci := 1) (M' := m_X1_lastOperand) (As := [.int (iI i5), .int (iI v17), .int (iI v25)]) (rest := []) dX5_call_220 ok_X1_lastOperand im_X1_lastOperand se_X1_lastOperand ml5_143 np_X1_lastOperand rfl rfl hk4o rfl (Nat.le_of_ble_eq_true rfl) (Nat.le_of_ble_eq_true rfl) rfl (k_X1_lastOperand (d + 49) (T := T) (σ := σ) (a := x2) (i := i5) (k := v17) (y := v25) hk4o (by omega) (by omega) (by omega) hw ) (fun r26 T28 σ27 gt29 hp => ?_)
      obtain ⟨rfl, rfl, w31, F32⟩ := hp
      clear gt29
      have fx33 : RDX σ27 a Sx nx jx (cy) (Ny) := RDX.fc hcy hw h_a F32 (by decide) (by decide)
      have rp34 : RP σ27 a (kp) := RP.frc hrp F32 (by decide) (by decide) (by decide) (by decide) (by decide)
      show Tn _ _ 223 T σ27 [(0, .ref a), (5, .int (iI i5))] [] _
      refine tn_iinc (q0 := 1) (L' := [(5, .int (iI (i5 + 1))), (0, .ref a)]) dX5_call_223 rfl (by decide) rfl ?_
      refine tn_goto (tgt := 184) dX5_call_226 (by decide) ?_
      exact tn_sub [1, 0] rfl (ih _ (by omega) (i5 + 1) σ27 w31 ((FrC.rfl.trans (FrC.sub hF (by decide))).trans (FrC.sub F32 (by decide))) (by omega) fx33 (RP.up rp34 (by omega)) rfl)
set_option maxHeartbeats 4000000 in
set_option maxRecDepth 20000 in
theorem k_X5_call_f (d : Nat) {T : CT} {σ : MS} {a : Nat} {r : Int} {kp : Int} {Sx : Int → Int} {nx jx : Nat} {cx : CS} {Nx : Int} {bx : Int} (ha : OB T a 5) (h_r : -2147483648 ≤ r ∧ r ≤ 2147483647) (hw : WT T σ) (hfx : RDX σ a Sx nx jx cx Nx) (hk1 : ckd (tkS Sx jx) = 256) (hk2 : ckd (tkS Sx (jx + 1)) = 40) (hpo : 6 * cx.cn + 2 ≤ (jx : Int)) (hkp : kp ≤ 150) (hrp : RP σ a kp) : Tn (d + 51) m_X5_call 0 T σ [(0, .ref a), (1, .int (iI r))] [] (fun ro T2 σ2 => ∃ v : Int, ro = some (.int (iI v)) ∧ WT T2 σ2 ∧ FrC T [5, 6, 7, 42, 43, 44, 47, 50, 51, 84, 85, 86, 87, 518, 519, 520, 521] σ σ2 ∧ (v = 0 ∨ v = 1) ∧ (YQ σ2 a Sx nx bx [25] jx cx (Nx - 1) 2 v) ∧ (RP σ2 a (kp - 7 * v))) := by
  have hSb := hfx.1.sb
  have e45 := hfx.e45
  have hpo9 := hfx.po
  unfold PO at hpo9
  have e42 : σ.2.1 42 a = cx.cn := hfx.1.2.1.1.2.2.2.1
  refine tn_aload_n dX5_call_0 rfl 0 rfl ?_
  obtain ⟨x1, hx2, hk3⟩ : ∃ x : Nat, σ.2.1 33 a = (x : Int) ∧ (T x).1 = 39 := wf_33 hw ha
  have hk3o : OB T x1 9 := ⟨by omega, by rw [hk3]; rfl, by omega⟩
  refine tn_getR (ci := 5) (i := 0) (n := 33) (x := x1) dX5_call_1 rfl lay_5 (by decide) fl5_12 ha rfl rfl (hx2) ?_
  refine tn_getI (ci := 9) (i := 5) (n := 86) (t := σ.2.1 86 x1) dX5_call_4 rfl lay_9 (by decide) fl5_96 hk3o rfl rfl (rfl) ?_
  have g5 : ((-2147483648 : Int) ≤ σ.2.1 86 x1 ∧ σ.2.1 86 x1 ≤ 2147483647) := wf_86 hw hk3o
  have g5ky : NKY (tkS Sx jx) (σ.2.1 86 x1) := by rw [← show σ.2.1 86 x1 = σ.2.1 86 x1 from rfl]; exact (hfx).1.ky (hx2)
  have hkw9 : KW (σ.2.1 86 x1) (tkS Sx jx).2.2.2.2 := (hfx.1.ky hx2).kw ((ck_nam (tkS_v hSb jx)).mp hk1).1
  have hpl9 : σ.2.1 87 x1 = (tkS Sx jx).1 := hfx.1.pl hx2
  refine tn_istore_n (L' := [(2, .int (iI (σ.2.1 86 x1))), (0, .ref a), (1, .int (iI r))]) dX5_call_7 rfl (by decide) rfl ?_
  refine tn_aload_n dX5_call_8 rfl 1 rfl ?_
  refine tn_getR (ci := 5) (i := 0) (n := 33) (x := x1) dX5_call_9 rfl lay_5 (by decide) fl5_12 ha rfl rfl (hx2) ?_
  refine tn_getI (ci := 9) (i := 6) (n := 87) (t := σ.2.1 87 x1) dX5_call_12 rfl lay_9 (by decide) fl5_74 hk3o rfl rfl (rfl) ?_
  have g6 : ((-2147483648 : Int) ≤ σ.2.1 87 x1 ∧ σ.2.1 87 x1 ≤ 2147483647) := wf_87 hw hk3o
  have g6pl : σ.2.1 87 x1 = (tkS Sx jx).1 := (rfl).symm.trans ((hfx).1.pl (hx2))
  refine tn_istore_n (L' := [(3, .int (iI (σ.2.1 87 x1))), (2, .int (iI (σ.2.1 86 x1))), (0, .ref a), (1, .int (iI r))]) dX5_call_15 rfl (by decide) rfl ?_
  refine tn_aload_n dX5_call_16 rfl 2 rfl ?_
  refine tn_getR (ci := 5) (i := 0) (n := 33) (x := x1) dX5_call_17 rfl lay_5 (by decide) fl5_12 ha rfl rfl (hx2) ?_
  refine tn_callV (M := m_X5_call) (pc := 20) (ix := 93) (ci := 9) (M' := m_X9_next) (As := []) (rest := []) dX5_call_20 ok_X9_next im_X9_next se_X9_next ml5_93 np_X9_next rfl rfl hk3o rfl (Nat.le_of_ble_eq_true rfl) (Nat.le_of_ble_eq_true rfl) rfl (k_X9_next_f (d + 49) (T := T) (σ := σ) (a := x1) hk3o hw (RP.tk hrp hw ha (hx2)) ((hfx).1.tk (hx2)) (by rw [(hfx).1.kd (hx2)]; omega)) (fun r7 T9 σ8 gt10 hp => ?_)
  obtain ⟨rfl, rfl, w16, F17, f11, f12, f13, f14⟩ := hp
  clear gt10
  have pc19 : GR Sx [25] jx (0) (bx) u0 [26, 159] (jx + 1) (0) (bx) ((tkS Sx jx).2.2.2.2, 0, (tkS Sx jx).1) 0 [] := x25c hSb hk1 hk2
  have rd200 : GR Sx [25] jx 0 (bx) u0 [25] jx (0) (bx) u0 (0) ([]) := GR.nl
  have rd20 : GR Sx [25] jx 0 (bx) u0 [26, 159] (jx + 1) (0) (bx) ((tkS Sx jx).2.2.2.2, 0, (tkS Sx jx).1) (0 + 0) ([]) := GR.g0 (l := [25]) (ms := [26, 159]) [] rd200 pc19
  have fx18 : RDX σ8 a Sx nx (jx + 1) (cx) (Nx) := RDX.nx hfx hw ha (hx2) F17 f14
  have rp21 : RP σ8 a (kp) := RP.next hrp (hx2) F17 (by decide) (by decide) (by decide) f11 f12
  show Tn _ _ 23 T σ8 [(3, .int (iI (σ.2.1 87 x1))), (2, .int (iI (σ.2.1 86 x1))), (0, .ref a), (1, .int (iI r))] [] _
  refine tn_aload_n dX5_call_23 rfl 2 rfl ?_
  refine tn_getR (ci := 5) (i := 0) (n := 33) (x := x1) dX5_call_24 rfl lay_5 (by decide) fl5_12 ha rfl rfl (rc_F F17 (Or.inl (by decide)) (by decide) (hx2)) ?_
  refine tn_callV (M := m_X5_call) (pc := 27) (ix := 93) (ci := 9) (M' := m_X9_next) (As := []) (rest := []) dX5_call_27 ok_X9_next im_X9_next se_X9_next ml5_93 np_X9_next rfl rfl hk3o rfl (Nat.le_of_ble_eq_true rfl) (Nat.le_of_ble_eq_true rfl) rfl (k_X9_next_f (d + 49) (T := T) (σ := σ8) (a := x1) hk3o w16 (RP.tk rp21 w16 ha (rc_F F17 (Or.inl (by decide)) (by decide) (hx2))) ((fx18).1.tk (rc_F F17 (Or.inl (by decide)) (by decide) (hx2))) (by rw [(fx18).1.kd (rc_F F17 (Or.inl (by decide)) (by decide) (hx2))]; omega)) (fun r22 T24 σ23 gt25 hp => ?_)
  obtain ⟨rfl, rfl, w31, F32, f26, f27, f28, f29⟩ := hp
  clear gt25
  have fx33 : RDX σ23 a Sx nx ((jx + 1) + 1) (cx) (Nx) := RDX.nx fx18 w16 ha (rc_F F17 (Or.inl (by decide)) (by decide) (hx2)) F32 f29
  have rp34 : RP σ23 a (kp) := RP.next rp21 (rc_F F17 (Or.inl (by decide)) (by decide) (hx2)) F32 (by decide) (by decide) (by decide) f26 f27
  show Tn _ _ 30 T σ23 [(3, .int (iI (σ.2.1 87 x1))), (2, .int (iI (σ.2.1 86 x1))), (0, .ref a), (1, .int (iI r))] [] _
  refine tn_iconst dX5_call_30 ?_
  refine tn_istore (L' := [(4, .int (iI 0)), (3, .int (iI (σ.2.1 87 x1))), (2, .int (iI (σ.2.1 86 x1))), (0, .ref a), (1, .int (iI r))]) dX5_call_31 (by decide) rfl ?_
  refine tn_aload_n dX5_call_33 rfl 3 rfl ?_
  obtain ⟨x35, hx36, hk37, hl38⟩ : ∃ x : Nat, σ.2.1 49 a = (x : Int) ∧ AR T x 1 8 8 := wf_49 hw ha
  have hk37i : IA T x35 := by unfold IA; omega
  refine tn_getR (ci := 5) (i := 16) (n := 49) (x := x35) dX5_call_34 rfl lay_5 (by decide) fl5_43 ha rfl rfl (rc_F F32 (Or.inl (by decide)) (by decide) (rc_F F17 (Or.inl (by decide)) (by decide) (hx36))) ?_
  refine tn_iconst dX5_call_37 ?_
  refine tn_callS (M := m_X5_call) (pc := 38) (ix := 222) (M' := m_J7_fill_53178) (As := [.ref x35, .int (iI 0)]) (rest := []) dX5_call_38 ok_J7_fill_53178 stt_J7_fill_53178 ml5_222 np_J7_fill_53178 rfl (Nat.le_of_ble_eq_true rfl) (Nat.le_of_ble_eq_true rfl) rfl (k_J7_fill_53178 (d + 49) (T := T) (σ := σ23) (x := x35) (y := 0) hk37i (by omega) (by decide) w31 (nh_k hk37 (by unfold HT; omega)) (by omega)) (fun r39 T41 σ40 gt42 hp => ?_)
  obtain ⟨rfl, rfl, w44, F45⟩ := hp
  clear gt42
  have fx46 : RDX σ40 a Sx nx ((jx + 1) + 1) (cx) (Nx) := RDX.fc fx33 w31 ha F45 (by decide) (by decide)
  have rp47 : RP σ40 a (kp) := RP.frc rp34 F45 (by decide) (by decide) (by decide) (by decide) (by decide)
  show Tn _ _ 41 T σ40 [(4, .int (iI 0)), (3, .int (iI (σ.2.1 87 x1))), (2, .int (iI (σ.2.1 86 x1))), (0, .ref a), (1, .int (iI r))] [] _
  refine tn_iconst dX5_call_41 ?_
  refine tn_istore (L' := [(5, .int (iI 0)), (4, .int (iI 0)), (3, .int (iI (σ.2.1 87 x1))), (2, .int (iI (σ.2.1 86 x1))), (0, .ref a), (1, .int (iI r))]) dX5_call_42 (by decide) rfl ?_
  have hx48c : (cx) = ([] : List EW).foldl uC cx := rfl
  have hx48a : (0 : Int) = 0 ∧ ckd (tkS Sx ((jx + 1) + 1)) = 41 → GR Sx [25] jx 0 bx u0 [38, 141, 159] ((jx + 1) + 1) 0 bx ((tkS Sx jx).2.2.2.2, 0, (tkS Sx jx).1) (0 + 0 + 0) [] := fun q => GR.g0 (l := [26]) (ms := [38, 141]) [159] rd20 (x26y hSb q.2)
  have hx48b : ¬ ((0 : Int) = 0 ∧ ckd (tkS Sx ((jx + 1) + 1)) = 41) → GR Sx [25] jx 0 bx u0 [2, 27, 159] ((jx + 1) + 1) 0 bx ((tkS Sx jx).2.2.2.2, 0, (tkS Sx jx).1) (0 + 0 + 0) [] := fun q => GR.g0 (l := [26]) (ms := [2, 27]) [159] rd20 (x26n hSb (fun w => q ⟨rfl, w⟩))
  have hx48 : CLV σ40 a Sx nx bx jx cx Nx (tkS Sx jx).2.2.2.2 (tkS Sx jx).1 (0) ((jx : Int) + 2 + (0)) := ⟨((jx + 1) + 1), [], 0 + 0 + 0, by omega, RDX.nq fx46 (by omega), hx48a, hx48b⟩
  refine tn_sub [4, 5, 3, 2, 1, 0] rfl (l_X5_call_f_44 (d) (σ0 := σ40) (T0 := T) (a := a) (c1 := r) (c2 := σ.2.1 86 x1) (c3 := σ.2.1 87 x1) (kp := kp) (Sx := Sx) (nx := nx) (jx := jx) (cx := cx) (Nx := Nx) (bx := bx) (by omega) (by omega) (by omega) w44 (by omega) (fun T52 i449 i550 σ51 gt53 w54 F55 q56 r57 r58 f59 f60 f61 f62 => ?_) (fun T66 i463 i564 σ65 gt67 w68 F69 q70 r71 r72 f73 f74 f75 f76 => ?_) (fun T80 i477 i578 σ79 gt81 w82 F83 q84 r85 r86 f87 f88 f89 f90 => ?_) _ T (0) (0) σ40 GT.rfl w44 FrC.rfl ha (by omega) (by omega) (by omega) hx48 rp47 rfl)
  · show Tn _ _ 77 T52 σ51 [(0, .ref a), (1, .int (iI r)), (2, .int (iI (σ.2.1 86 x1))), (3, .int (iI (σ.2.1 87 x1))), (4, .int (iI i449)), (5, .int (iI i550))] [] _
    refine tn_iconst dX5_call_77 ?_
    exact tn_zret (v := 0) rfl (by decide) dX5_call_78 ⟨_, rfl, w54, ((((FrC.rfl.trans (FrC.sub F17 (by decide))).trans (FrC.sub F32 (by decide))).trans (FrC.sub F45 (by decide))).trans (FrC.sub F55 (by decide))), by omega, ⟨fun q => absurd q (by decide), fun _ => f62⟩, (RP.up f61 (by omega))⟩
  · obtain ⟨i91, es92, m93, lo94, fx95, rr96⟩ := f76
    show Tn _ _ 126 T66 σ65 [(0, .ref a), (1, .int (iI r)), (2, .int (iI (σ.2.1 86 x1))), (3, .int (iI (σ.2.1 87 x1))), (4, .int (iI i463)), (5, .int (iI i564))] [] _
    refine tn_goto (tgt := 142) dX5_call_126 (by decide) ?_
    refine tn_aload_n dX5_call_142 rfl 0 rfl ?_
    refine tn_bipush dX5_call_143 (by decide) ?_
    refine tn_callV (M := m_X5_call) (pc := 145) (ix := 102) (ci := 5) (M' := m_X5_taken) (As := [.int (iI 41)]) (rest := []) dX5_call_145 ok_X5_taken im_X5_taken se_X5_taken ml5_102 np_X5_taken rfl rfl q70 rfl (Nat.le_of_ble_eq_true rfl) (Nat.le_of_ble_eq_true rfl) rfl (k_X5_taken_f (d + 48) (T := T66) (σ := σ65) (a := a) (s := 41) (kp := kp) q70 (by decide) w68 (by omega) fx95 (by omega) f75) (fun r97 T99 σ98 gt100 hp => ?_)
    obtain ⟨v104, rfl, rfl, w105, F106, f101, f102, f103⟩ := hp
    clear gt100
    have pc107 : GR Sx [38] i91 (0) (bx) ((tkS Sx jx).2.2.2.2, i463, (tkS Sx jx).1) [] i91 (0) (bx) u0 2 [(1, ((tkS Sx jx).2.2.2.2, i463, (tkS Sx jx).1).2.2, ((tkS Sx jx).2.2.2.2, i463, (tkS Sx jx).1).2.1, ((tkS Sx jx).2.2.2.2, i463, (tkS Sx jx).1).1)] := x38 hSb 
    have rd108 : GR Sx [25] jx 0 (bx) u0 [141, 159] i91 (0) (bx) u0 (m93 + 2) (es92 ++ [(1, ((tkS Sx jx).2.2.2.2, i463, (tkS Sx jx).1).2.2, ((tkS Sx jx).2.2.2.2, i463, (tkS Sx jx).1).2.1, ((tkS Sx jx).2.2.2.2, i463, (tkS Sx jx).1).1)]) := GR.gg (l := [38]) (ms := []) [141, 159] rr96 pc107
    show Tn _ _ 148 T66 σ98 [(0, .ref a), (1, .int (iI r)), (2, .int (iI (σ.2.1 86 x1))), (3, .int (iI (σ.2.1 87 x1))), (4, .int (iI i463)), (5, .int (iI i564))] [.int (iI v104)] _
    refine tn_if_eq (tgt := 160) dX5_call_148 (by decide) ⟨by omega, by omega⟩ (fun h110 => ?_) (fun h110 => ?_)
    · refine tn_iconst dX5_call_160 ?_
      obtain ⟨kd113, fx114, tk115⟩ := f102.2 (by omega)
      have pc116 : GRF Sx [141] i91 (0) (bx) u0 (tkS Sx i91).1 := z41 hSb kd113
      have rf117 : GRF Sx [25] jx 0 (bx) u0 ((tkS Sx i91).1) := GR.fl (l := [141]) [159] rd108 pc116
      have rb112 : YF σ98 a Sx bx [25] jx := ⟨_, rf117, fx114⟩
      exact tn_zret (v := 0) rfl (by decide) dX5_call_161 ⟨_, rfl, w105, (((((FrC.rfl.trans (FrC.sub F17 (by decide))).trans (FrC.sub F32 (by decide))).trans (FrC.sub F45 (by decide))).trans (FrC.sub F69 (by decide))).trans (FrC.sub (FrC.old F106 gt67) (by decide))), by omega, ⟨fun q => absurd q (by decide), fun _ => rb112⟩, (RP.up f103 (by omega))⟩
    · refine tn_aload_n dX5_call_151 rfl 0 rfl ?_
      refine tn_bipush dX5_call_152 (by decide) ?_
      obtain ⟨kd119, fx118⟩ := f102.1 (by omega)
      have pc120 : GR Sx [141] i91 (0) (bx) u0 [] (i91 + 1) (0) (bx) u0 0 [] := y41 hSb kd119
      have rd121 : GR Sx [25] jx 0 (bx) u0 [159] (i91 + 1) (0) (bx) u0 (m93 + 2 + 0) (es92 ++ [(1, ((tkS Sx jx).2.2.2.2, i463, (tkS Sx jx).1).2.2, ((tkS Sx jx).2.2.2.2, i463, (tkS Sx jx).1).2.1, ((tkS Sx jx).2.2.2.2, i463, (tkS Sx jx).1).1)]) := GR.g0 (l := [141]) (ms := []) [159] rd108 pc120
      refine tn_callV (M := m_X5_call) (pc := 154) (ix := 102) (ci := 5) (M' := m_X5_taken) (As := [.int (iI 59)]) (rest := []) dX5_call_154 ok_X5_taken im_X5_taken se_X5_taken ml5_102 np_X5_taken rfl rfl q70 rfl (Nat.le_of_ble_eq_true rfl) (Nat.le_of_ble_eq_true rfl) rfl (k_X5_taken_f (d + 48) (T := T66) (σ := σ98) (a := a) (s := 59) (kp := kp - 4 * v104) q70 (by decide) w105 (by omega) fx118 (by omega) f103) (fun r122 T124 σ123 gt125 hp => ?_)
      obtain ⟨v129, rfl, rfl, w130, F131, f126, f127, f128⟩ := hp
      clear gt125
      show Tn _ _ 157 T66 σ123 [(0, .ref a), (1, .int (iI r)), (2, .int (iI (σ.2.1 86 x1))), (3, .int (iI (σ.2.1 87 x1))), (4, .int (iI i463)), (5, .int (iI i564))] [.int (iI v129)] _
      refine tn_if_ne (tgt := 162) dX5_call_157 (by decide) ⟨by omega, by omega⟩ (fun h133 => ?_) (fun h133 => ?_)
      · refine tn_aload_n dX5_call_162 rfl 0 rfl ?_
        refine tn_iload_n dX5_call_163 rfl 2 rfl ?_
        refine tn_iload_n dX5_call_164 rfl 3 rfl ?_
        refine tn_iload dX5_call_165 4 rfl ?_
        obtain ⟨kd135, fx134⟩ := f127.1 (by omega)
        have pc136 : GR Sx [159] (i91 + 1) (0) (bx) u0 [] ((i91 + 1) + 1) (0) (bx) u0 0 [] := y59 hSb kd135
        have rd137 : GR Sx [25] jx 0 (bx) u0 [] ((i91 + 1) + 1) (0) (bx) u0 (m93 + 2 + 0 + 0) (es92 ++ [(1, ((tkS Sx jx).2.2.2.2, i463, (tkS Sx jx).1).2.2, ((tkS Sx jx).2.2.2.2, i463, (tkS Sx jx).1).2.1, ((tkS Sx jx).2.2.2.2, i463, (tkS Sx jx).1).1)]) := GR.g0 (l := [159]) (ms := []) [] rd121 pc136
        have q42138 : (es92.foldl uC cx).cn = σ.2.1 42 a := (fx134.1.2.1.1.2.2.2.1).symm.trans (rc_F F131 (Or.inl (by decide)) (by decide) (rc_F F106 (Or.inl (by decide)) (by decide) (rc_F F69 (Or.inl (by decide)) (by decide) (rc_F F45 (Or.inl (by decide)) (by decide) (rc_F F32 (Or.inl (by decide)) (by decide) (rc_F F17 (Or.inl (by decide)) (by decide) (rfl)))))))
        refine tn_callV (M := m_X5_call) (pc := 167) (ix := 228) (ci := 5) (M' := m_X5_listCall) (As := [.int (iI (σ.2.1 86 x1)), .int (iI (σ.2.1 87 x1)), .int (iI i463)]) (rest := []) dX5_call_167 ok_X5_listCall im_X5_listCall se_X5_listCall ml5_228 np_X5_listCall rfl rfl q70 rfl (Nat.le_of_ble_eq_true rfl) (Nat.le_of_ble_eq_true rfl) rfl (k_X5_listCall_f (d + 48) (T := T66) (σ := σ123) (a := a) (k := σ.2.1 86 x1) (p := σ.2.1 87 x1) (m := i463) q70 (by omega) (by omega) (by omega) w130 fx134 hkw9 (by rw [q42138]; omega)) (fun r139 T141 σ140 gt142 hp => ?_)
        obtain ⟨rfl, rfl, w145, F146, f143⟩ := hp
        clear gt142
        have rp147 : RP σ140 a (kp - 4 * v104 - 4 * v129) := RP.frc f128 F146 (by decide) (by decide) (by decide) (by decide) (by decide)
        have fx148 : RDX σ140 a Sx nx ((i91 + 1) + 1) (uC (es92.foldl uC cx) (1, (tkS Sx jx).1, i463, (tkS Sx jx).2.2.2.2)) (Nx + m93) := by have q9 := f143; rw [hpl9] at q9; exact q9
        show Tn _ _ 170 T66 σ140 [(0, .ref a), (1, .int (iI r)), (2, .int (iI (σ.2.1 86 x1))), (3, .int (iI (σ.2.1 87 x1))), (4, .int (iI i463)), (5, .int (iI i564))] [] _
        refine tn_aload_n dX5_call_170 rfl 0 rfl ?_
        obtain ⟨x149, hx150, hk151⟩ : ∃ x : Nat, σ65.2.1 35 a = (x : Int) ∧ (T66 x).1 = 31 := wf_35 w68 q70
        have hk151o : OB T66 x149 1 := ⟨by omega, by rw [hk151]; rfl, by omega⟩
        refine tn_getR (ci := 5) (i := 2) (n := 35) (x := x149) dX5_call_171 rfl lay_5 (by decide) fl5_47 q70 rfl rfl (rc_F F146 (Or.inl (by decide)) (by decide) (rc_F F131 (Or.inl (by decide)) (by decide) (rc_F F106 (Or.inl (by decide)) (by decide) (hx150)))) ?_
        refine tn_bipush dX5_call_174 (by decide) ?_
        refine tn_iload_n dX5_call_176 rfl 1 rfl ?_
        refine tn_iload_n dX5_call_177 rfl 2 rfl ?_
        have q157 : σ140.2.1 6 x149 = σ65.2.1 6 x149 := rc_F F146 (Or.inl (by decide)) (by decide) (rc_F F131 (Or.inl (by decide)) (by decide) (rc_F F106 (Or.inl (by decide)) (by decide) (rfl)))
        refine tn_callV (M := m_X5_call) (pc := 178) (ix := 139) (ci := 1) (M' := m_X1_append) (As := [.int (iI 10), .int (iI r), .int (iI (σ.2.1 86 x1))]) (rest := []) dX5_call_178 ok_X1_append im_X1_append se_X1_append ml5_139 np_X1_append rfl rfl hk151o rfl (Nat.le_of_ble_eq_true rfl) (Nat.le_of_ble_eq_true rfl) rfl (k_X1_append (d + 47) (T := T66) (σ := σ140) (a := x149) (k := 10) (x := r) (y := σ.2.1 86 x1) hk151o hk151 (by decide) (by omega) (by omega) w145 (RP.cnt rp147 w145 q70 (rc_F F146 (Or.inl (by decide)) (by decide) (rc_F F131 (Or.inl (by decide)) (by decide) (rc_F F106 (Or.inl (by decide)) (by decide) (hx150)))) (by omega)) (by omega)) (fun r153 T155 σ154 gt156 hp => ?_)
        obtain ⟨rfl, w160, F161, f158⟩ := hp
        have fx162 : RDX σ154 a Sx nx ((i91 + 1) + 1) (uC (es92.foldl uC cx) (1, (tkS Sx jx).1, i463, (tkS Sx jx).2.2.2.2)) (Nx + m93 + 1) := RDX.ap fx148 w145 q70 (rc_F F146 (Or.inl (by decide)) (by decide) (rc_F F131 (Or.inl (by decide)) (by decide) (rc_F F106 (Or.inl (by decide)) (by decide) (hx150)))) F161 f158
        replace q70 : OB T155 a 5 := gt156.ob q70
        have rp163 : RP σ154 a (kp - 4 * v104 - 4 * v129 + 1) := RP.app rp147 (rc_F F146 (Or.inl (by decide)) (by decide) (rc_F F131 (Or.inl (by decide)) (by decide) (rc_F F106 (Or.inl (by decide)) (by decide) (hx150)))) F161 (by decide) (by decide) (by decide) (by decide) f158
        show Tn _ _ 181 T155 σ154 [(0, .ref a), (1, .int (iI r)), (2, .int (iI (σ.2.1 86 x1))), (3, .int (iI (σ.2.1 87 x1))), (4, .int (iI i463)), (5, .int (iI i564))] [] _
        refine tn_iconst dX5_call_181 ?_
        refine tn_istore (L' := [(5, .int (iI 0)), (0, .ref a), (1, .int (iI r)), (2, .int (iI (σ.2.1 86 x1))), (3, .int (iI (σ.2.1 87 x1))), (4, .int (iI i463))]) dX5_call_182 (by decide) rfl ?_
        refine tn_sub [1, 0] rfl (l_X5_call_f_184 (d) (T := T155) (σ0 := σ154) (a := a) (kp := kp - 4 * v104 - 4 * v129 + 1) (Sx := Sx) (nx := nx) (jx := ((i91 + 1) + 1)) (cy := uC (es92.foldl uC cx) (1, (tkS Sx jx).1, i463, (tkS Sx jx).2.2.2.2)) (Ny := Nx + m93 + 1) q70 w160 (by omega) (fun i5164 σ165 w168 F169 r170 f171 f172 => ?_) _ (0) σ154 w160 FrC.rfl (by omega) fx162 rp163 rfl)
        show Tn _ _ 229 T155 σ165 [(0, .ref a), (5, .int (iI i5164))] [] _
        refine tn_iconst dX5_call_229 ?_
        have fe175 := RDX.nq (M := (Nx - 1) + (m93 + 2 + 0 + 0)) (RDX.cq (c2 := (es92 ++ [(1, ((tkS Sx jx).2.2.2.2, i463, (tkS Sx jx).1).2.2, ((tkS Sx jx).2.2.2.2, i463, (tkS Sx jx).1).2.1, ((tkS Sx jx).2.2.2.2, i463, (tkS Sx jx).1).1)]).foldl uC cx) f171 (by simp only [List.foldl_append, List.foldl_cons, List.foldl_nil])) (by omega)
        have fe175m : ((es92 ++ [(1, ((tkS Sx jx).2.2.2.2, i463, (tkS Sx jx).1).2.2, ((tkS Sx jx).2.2.2.2, i463, (tkS Sx jx).1).2.1, ((tkS Sx jx).2.2.2.2, i463, (tkS Sx jx).1).1)]).foldl uC cx).m = σ.2.1 45 a := (fe175.e45).symm.trans (rc_F F169 (Or.inl (by decide)) (by decide) (rc_F F161 (Or.inl (by decide)) (by decide) (rc_F F146 (Or.inl (by decide)) (by decide) (rc_F F131 (Or.inl (by decide)) (by decide) (rc_F F106 (Or.inl (by decide)) (by decide) (rc_F F69 (Or.inl (by decide)) (by decide) (rc_F F45 (Or.inl (by decide)) (by decide) (rc_F F32 (Or.inl (by decide)) (by decide) (rc_F F17 (Or.inl (by decide)) (by decide) (rfl))))))))))
        have ra173 : YS σ165 a Sx nx bx [25] jx cx (Nx - 1) bx [] ((jx : Int) + 2) := ⟨((i91 + 1) + 1), es92 ++ [(1, ((tkS Sx jx).2.2.2.2, i463, (tkS Sx jx).1).2.2, ((tkS Sx jx).2.2.2.2, i463, (tkS Sx jx).1).2.1, ((tkS Sx jx).2.2.2.2, i463, (tkS Sx jx).1).1)], m93 + 2 + 0 + 0, (by omega), rd137, fe175, by rw [fe175m]; omega⟩
        exact tn_zret (v := 1) rfl (by decide) dX5_call_230 ⟨_, rfl, w168, (((((((((FrC.rfl.trans (FrC.sub F17 (by decide))).trans (FrC.sub F32 (by decide))).trans (FrC.sub F45 (by decide))).trans (FrC.sub F69 (by decide))).trans (FrC.sub (FrC.old F106 gt67) (by decide))).trans (FrC.sub (FrC.old F131 gt67) (by decide))).trans (FrC.sub (FrC.old F146 gt67) (by decide))).trans (FrC.sub (FrC.old F161 gt67) (by decide))).trans (FrC.sub (FrC.old F169 (GT.trans gt67 gt156)) (by decide))), by omega, ⟨fun _ => ra173, fun q => absurd q (by decide)⟩, (RP.up f172 (by omega))⟩
      · refine tn_iconst dX5_call_160 ?_
        obtain ⟨kd178, fx179, tk180⟩ := f127.2 (by omega)
        have pc181 : GRF Sx [159] (i91 + 1) (0) (bx) u0 (tkS Sx (i91 + 1)).1 := z59 hSb kd178
        have rf182 : GRF Sx [25] jx 0 (bx) u0 ((tkS Sx (i91 + 1)).1) := GR.fl (l := [159]) [] rd121 pc181
        have rb177 : YF σ123 a Sx bx [25] jx := ⟨_, rf182, fx179⟩
        exact tn_zret (v := 0) rfl (by decide) dX5_call_161 ⟨_, rfl, w130, ((((((FrC.rfl.trans (FrC.sub F17 (by decide))).trans (FrC.sub F32 (by decide))).trans (FrC.sub F45 (by decide))).trans (FrC.sub F69 (by decide))).trans (FrC.sub (FrC.old F106 gt67) (by decide))).trans (FrC.sub (FrC.old F131 gt67) (by decide))), by omega, ⟨fun q => absurd q (by decide), fun _ => rb177⟩, (RP.up f128 (by omega))⟩
  · obtain ⟨i183, es184, m185, lo186, fx187, rr188⟩ := f90
    show Tn _ _ 142 T80 σ79 [(0, .ref a), (1, .int (iI r)), (2, .int (iI (σ.2.1 86 x1))), (3, .int (iI (σ.2.1 87 x1))), (4, .int (iI i477)), (5, .int (iI i578))] [] _
    refine tn_aload_n dX5_call_142 rfl 0 rfl ?_
    refine tn_bipush dX5_call_143 (by decide) ?_
    refine tn_callV (M := m_X5_call) (pc := 145) (ix := 102) (ci := 5) (M' := m_X5_taken) (As := [.int (iI 41)]) (rest := []) dX5_call_145 ok_X5_taken im_X5_taken se_X5_taken ml5_102 np_X5_taken rfl rfl q84 rfl (Nat.le_of_ble_eq_true rfl) (Nat.le_of_ble_eq_true rfl) rfl (k_X5_taken_f (d + 48) (T := T80) (σ := σ79) (a := a) (s := 41) (kp := kp) q84 (by decide) w82 (by omega) fx187 (by omega) f89) (fun r189 T191 σ190 gt192 hp => ?_)
    obtain ⟨v196, rfl, rfl, w197, F198, f193, f194, f195⟩ := hp
    clear gt192
    have pc199 : GR Sx [38] i183 (0) (bx) ((tkS Sx jx).2.2.2.2, i477, (tkS Sx jx).1) [] i183 (0) (bx) u0 2 [(1, ((tkS Sx jx).2.2.2.2, i477, (tkS Sx jx).1).2.2, ((tkS Sx jx).2.2.2.2, i477, (tkS Sx jx).1).2.1, ((tkS Sx jx).2.2.2.2, i477, (tkS Sx jx).1).1)] := x38 hSb 
    have rd200 : GR Sx [25] jx 0 (bx) u0 [141, 159] i183 (0) (bx) u0 (m185 + 2) (es184 ++ [(1, ((tkS Sx jx).2.2.2.2, i477, (tkS Sx jx).1).2.2, ((tkS Sx jx).2.2.2.2, i477, (tkS Sx jx).1).2.1, ((tkS Sx jx).2.2.2.2, i477, (tkS Sx jx).1).1)]) := GR.gg (l := [38]) (ms := []) [141, 159] rr188 pc199
    show Tn _ _ 148 T80 σ190 [(0, .ref a), (1, .int (iI r)), (2, .int (iI (σ.2.1 86 x1))), (3, .int (iI (σ.2.1 87 x1))), (4, .int (iI i477)), (5, .int (iI i578))] [.int (iI v196)] _
    refine tn_if_eq (tgt := 160) dX5_call_148 (by decide) ⟨by omega, by omega⟩ (fun h202 => ?_) (fun h202 => ?_)
    · refine tn_iconst dX5_call_160 ?_
      obtain ⟨kd205, fx206, tk207⟩ := f194.2 (by omega)
      have pc208 : GRF Sx [141] i183 (0) (bx) u0 (tkS Sx i183).1 := z41 hSb kd205
      have rf209 : GRF Sx [25] jx 0 (bx) u0 ((tkS Sx i183).1) := GR.fl (l := [141]) [159] rd200 pc208
      have rb204 : YF σ190 a Sx bx [25] jx := ⟨_, rf209, fx206⟩
      exact tn_zret (v := 0) rfl (by decide) dX5_call_161 ⟨_, rfl, w197, (((((FrC.rfl.trans (FrC.sub F17 (by decide))).trans (FrC.sub F32 (by decide))).trans (FrC.sub F45 (by decide))).trans (FrC.sub F83 (by decide))).trans (FrC.sub (FrC.old F198 gt81) (by decide))), by omega, ⟨fun q => absurd q (by decide), fun _ => rb204⟩, (RP.up f195 (by omega))⟩
    · refine tn_aload_n dX5_call_151 rfl 0 rfl ?_
      refine tn_bipush dX5_call_152 (by decide) ?_
      obtain ⟨kd211, fx210⟩ := f194.1 (by omega)
      have pc212 : GR Sx [141] i183 (0) (bx) u0 [] (i183 + 1) (0) (bx) u0 0 [] := y41 hSb kd211
      have rd213 : GR Sx [25] jx 0 (bx) u0 [159] (i183 + 1) (0) (bx) u0 (m185 + 2 + 0) (es184 ++ [(1, ((tkS Sx jx).2.2.2.2, i477, (tkS Sx jx).1).2.2, ((tkS Sx jx).2.2.2.2, i477, (tkS Sx jx).1).2.1, ((tkS Sx jx).2.2.2.2, i477, (tkS Sx jx).1).1)]) := GR.g0 (l := [141]) (ms := []) [159] rd200 pc212
      refine tn_callV (M := m_X5_call) (pc := 154) (ix := 102) (ci := 5) (M' := m_X5_taken) (As := [.int (iI 59)]) (rest := []) dX5_call_154 ok_X5_taken im_X5_taken se_X5_taken ml5_102 np_X5_taken rfl rfl q84 rfl (Nat.le_of_ble_eq_true rfl) (Nat.le_of_ble_eq_true rfl) rfl (k_X5_taken_f (d + 48) (T := T80) (σ := σ190) (a := a) (s := 59) (kp := kp - 4 * v196) q84 (by decide) w197 (by omega) fx210 (by omega) f195) (fun r214 T216 σ215 gt217 hp => ?_)
      obtain ⟨v221, rfl, rfl, w222, F223, f218, f219, f220⟩ := hp
      clear gt217
      show Tn _ _ 157 T80 σ215 [(0, .ref a), (1, .int (iI r)), (2, .int (iI (σ.2.1 86 x1))), (3, .int (iI (σ.2.1 87 x1))), (4, .int (iI i477)), (5, .int (iI i578))] [.int (iI v221)] _
      refine tn_if_ne (tgt := 162) dX5_call_157 (by decide) ⟨by omega, by omega⟩ (fun h225 => ?_) (fun h225 => ?_)
      · refine tn_aload_n dX5_call_162 rfl 0 rfl ?_
        refine tn_iload_n dX5_call_163 rfl 2 rfl ?_
        refine tn_iload_n dX5_call_164 rfl 3 rfl ?_
        refine tn_iload dX5_call_165 4 rfl ?_
        obtain ⟨kd227, fx226⟩ := f219.1 (by omega)
        have pc228 : GR Sx [159] (i183 + 1) (0) (bx) u0 [] ((i183 + 1) + 1) (0) (bx) u0 0 [] := y59 hSb kd227
        have rd229 : GR Sx [25] jx 0 (bx) u0 [] ((i183 + 1) + 1) (0) (bx) u0 (m185 + 2 + 0 + 0) (es184 ++ [(1, ((tkS Sx jx).2.2.2.2, i477, (tkS Sx jx).1).2.2, ((tkS Sx jx).2.2.2.2, i477, (tkS Sx jx).1).2.1, ((tkS Sx jx).2.2.2.2, i477, (tkS Sx jx).1).1)]) := GR.g0 (l := [159]) (ms := []) [] rd213 pc228
        have q42230 : (es184.foldl uC cx).cn = σ.2.1 42 a := (fx226.1.2.1.1.2.2.2.1).symm.trans (rc_F F223 (Or.inl (by decide)) (by decide) (rc_F F198 (Or.inl (by decide)) (by decide) (rc_F F83 (Or.inl (by decide)) (by decide) (rc_F F45 (Or.inl (by decide)) (by decide) (rc_F F32 (Or.inl (by decide)) (by decide) (rc_F F17 (Or.inl (by decide)) (by decide) (rfl)))))))
        refine tn_callV (M := m_X5_call) (pc := 167) (ix := 228) (ci := 5) (M' := m_X5_listCall) (As := [.int (iI (σ.2.1 86 x1)), .int (iI (σ.2.1 87 x1)), .int (iI i477)]) (rest := []) dX5_call_167 ok_X5_listCall im_X5_listCall se_X5_listCall ml5_228 np_X5_listCall rfl rfl q84 rfl (Nat.le_of_ble_eq_true rfl) (Nat.le_of_ble_eq_true rfl) rfl (k_X5_listCall_f (d + 48) (T := T80) (σ := σ215) (a := a) (k := σ.2.1 86 x1) (p := σ.2.1 87 x1) (m := i477) q84 (by omega) (by omega) (by omega) w222 fx226 hkw9 (by rw [q42230]; omega)) (fun r231 T233 σ232 gt234 hp => ?_)
        obtain ⟨rfl, rfl, w237, F238, f235⟩ := hp
        clear gt234
        have rp239 : RP σ232 a (kp - 4 * v196 - 4 * v221) := RP.frc f220 F238 (by decide) (by decide) (by decide) (by decide) (by decide)
        have fx240 : RDX σ232 a Sx nx ((i183 + 1) + 1) (uC (es184.foldl uC cx) (1, (tkS Sx jx).1, i477, (tkS Sx jx).2.2.2.2)) (Nx + m185) := by have q9 := f235; rw [hpl9] at q9; exact q9
        show Tn _ _ 170 T80 σ232 [(0, .ref a), (1, .int (iI r)), (2, .int (iI (σ.2.1 86 x1))), (3, .int (iI (σ.2.1 87 x1))), (4, .int (iI i477)), (5, .int (iI i578))] [] _
        refine tn_aload_n dX5_call_170 rfl 0 rfl ?_
        obtain ⟨x241, hx242, hk243⟩ : ∃ x : Nat, σ79.2.1 35 a = (x : Int) ∧ (T80 x).1 = 31 := wf_35 w82 q84
        have hk243o : OB T80 x241 1 := ⟨by omega, by rw [hk243]; rfl, by omega⟩
        refine tn_getR (ci := 5) (i := 2) (n := 35) (x := x241) dX5_call_171 rfl lay_5 (by decide) fl5_47 q84 rfl rfl (rc_F F238 (Or.inl (by decide)) (by decide) (rc_F F223 (Or.inl (by decide)) (by decide) (rc_F F198 (Or.inl (by decide)) (by decide) (hx242)))) ?_
        refine tn_bipush dX5_call_174 (by decide) ?_
        refine tn_iload_n dX5_call_176 rfl 1 rfl ?_
        refine tn_iload_n dX5_call_177 rfl 2 rfl ?_
        have q249 : σ232.2.1 6 x241 = σ79.2.1 6 x241 := rc_F F238 (Or.inl (by decide)) (by decide) (rc_F F223 (Or.inl (by decide)) (by decide) (rc_F F198 (Or.inl (by decide)) (by decide) (rfl)))
        refine tn_callV (M := m_X5_call) (pc := 178) (ix := 139) (ci := 1) (M' := m_X1_append) (As := [.int (iI 10), .int (iI r), .int (iI (σ.2.1 86 x1))]) (rest := []) dX5_call_178 ok_X1_append im_X1_append se_X1_append ml5_139 np_X1_append rfl rfl hk243o rfl (Nat.le_of_ble_eq_true rfl) (Nat.le_of_ble_eq_true rfl) rfl (k_X1_append (d + 47) (T := T80) (σ := σ232) (a := x241) (k := 10) (x := r) (y := σ.2.1 86 x1) hk243o hk243 (by decide) (by omega) (by omega) w237 (RP.cnt rp239 w237 q84 (rc_F F238 (Or.inl (by decide)) (by decide) (rc_F F223 (Or.inl (by decide)) (by decide) (rc_F F198 (Or.inl (by decide)) (by decide) (hx242)))) (by omega)) (by omega)) (fun r245 T247 σ246 gt248 hp => ?_)
        obtain ⟨rfl, w252, F253, f250⟩ := hp
        have fx254 : RDX σ246 a Sx nx ((i183 + 1) + 1) (uC (es184.foldl uC cx) (1, (tkS Sx jx).1, i477, (tkS Sx jx).2.2.2.2)) (Nx + m185 + 1) := RDX.ap fx240 w237 q84 (rc_F F238 (Or.inl (by decide)) (by decide) (rc_F F223 (Or.inl (by decide)) (by decide) (rc_F F198 (Or.inl (by decide)) (by decide) (hx242)))) F253 f250
        replace q84 : OB T247 a 5 := gt248.ob q84
        have rp255 : RP σ246 a (kp - 4 * v196 - 4 * v221 + 1) := RP.app rp239 (rc_F F238 (Or.inl (by decide)) (by decide) (rc_F F223 (Or.inl (by decide)) (by decide) (rc_F F198 (Or.inl (by decide)) (by decide) (hx242)))) F253 (by decide) (by decide) (by decide) (by decide) f250
        show Tn _ _ 181 T247 σ246 [(0, .ref a), (1, .int (iI r)), (2, .int (iI (σ.2.1 86 x1))), (3, .int (iI (σ.2.1 87 x1))), (4, .int (iI i477)), (5, .int (iI i578))] [] _
        refine tn_iconst dX5_call_181 ?_
        refine tn_istore (L' := [(5, .int (iI 0)), (0, .ref a), (1, .int (iI r)), (2, .int (iI (σ.2.1 86 x1))), (3, .int (iI (σ.2.1 87 x1))), (4, .int (iI i477))]) dX5_call_182 (by decide) rfl ?_
        refine tn_sub [1, 0] rfl (l_X5_call_f_184 (d) (T := T247) (σ0 := σ246) (a := a) (kp := kp - 4 * v196 - 4 * v221 + 1) (Sx := Sx) (nx := nx) (jx := ((i183 + 1) + 1)) (cy := uC (es184.foldl uC cx) (1, (tkS Sx jx).1, i477, (tkS Sx jx).2.2.2.2)) (Ny := Nx + m185 + 1) q84 w252 (by omega) (fun i5256 σ257 w260 F261 r262 f263 f264 => ?_) _ (0) σ246 w252 FrC.rfl (by omega) fx254 rp255 rfl)
        show Tn _ _ 229 T247 σ257 [(0, .ref a), (5, .int (iI i5256))] [] _
        refine tn_iconst dX5_call_229 ?_
        have fe267 := RDX.nq (M := (Nx - 1) + (m185 + 2 + 0 + 0)) (RDX.cq (c2 := (es184 ++ [(1, ((tkS Sx jx).2.2.2.2, i477, (tkS Sx jx).1).2.2, ((tkS Sx jx).2.2.2.2, i477, (tkS Sx jx).1).2.1, ((tkS Sx jx).2.2.2.2, i477, (tkS Sx jx).1).1)]).foldl uC cx) f263 (by simp only [List.foldl_append, List.foldl_cons, List.foldl_nil])) (by omega)
        have fe267m : ((es184 ++ [(1, ((tkS Sx jx).2.2.2.2, i477, (tkS Sx jx).1).2.2, ((tkS Sx jx).2.2.2.2, i477, (tkS Sx jx).1).2.1, ((tkS Sx jx).2.2.2.2, i477, (tkS Sx jx).1).1)]).foldl uC cx).m = σ.2.1 45 a := (fe267.e45).symm.trans (rc_F F261 (Or.inl (by decide)) (by decide) (rc_F F253 (Or.inl (by decide)) (by decide) (rc_F F238 (Or.inl (by decide)) (by decide) (rc_F F223 (Or.inl (by decide)) (by decide) (rc_F F198 (Or.inl (by decide)) (by decide) (rc_F F83 (Or.inl (by decide)) (by decide) (rc_F F45 (Or.inl (by decide)) (by decide) (rc_F F32 (Or.inl (by decide)) (by decide) (rc_F F17 (Or.inl (by decide)) (by decide) (rfl))))))))))
        have ra265 : YS σ257 a Sx nx bx [25] jx cx (Nx - 1) bx [] ((jx : Int) + 2) := ⟨((i183 + 1) + 1), es184 ++ [(1, ((tkS Sx jx).2.2.2.2, i477, (tkS Sx jx).1).2.2, ((tkS Sx jx).2.2.2.2, i477, (tkS Sx jx).1).2.1, ((tkS Sx jx).2.2.2.2, i477, (tkS Sx jx).1).1)], m185 + 2 + 0 + 0, (by omega), rd229, fe267, by rw [fe267m]; omega⟩
        exact tn_zret (v := 1) rfl (by decide) dX5_call_230 ⟨_, rfl, w260, (((((((((FrC.rfl.trans (FrC.sub F17 (by decide))).trans (FrC.sub F32 (by decide))).trans (FrC.sub F45 (by decide))).trans (FrC.sub F83 (by decide))).trans (FrC.sub (FrC.old F198 gt81) (by decide))).trans (FrC.sub (FrC.old F223 gt81) (by decide))).trans (FrC.sub (FrC.old F238 gt81) (by decide))).trans (FrC.sub (FrC.old F253 gt81) (by decide))).trans (FrC.sub (FrC.old F261 (GT.trans gt81 gt248)) (by decide))), by omega, ⟨fun _ => ra265, fun q => absurd q (by decide)⟩, (RP.up f264 (by omega))⟩
      · refine tn_iconst dX5_call_160 ?_
        obtain ⟨kd270, fx271, tk272⟩ := f219.2 (by omega)
        have pc273 : GRF Sx [159] (i183 + 1) (0) (bx) u0 (tkS Sx (i183 + 1)).1 := z59 hSb kd270
        have rf274 : GRF Sx [25] jx 0 (bx) u0 ((tkS Sx (i183 + 1)).1) := GR.fl (l := [159]) [] rd213 pc273
        have rb269 : YF σ215 a Sx bx [25] jx := ⟨_, rf274, fx271⟩
        exact tn_zret (v := 0) rfl (by decide) dX5_call_161 ⟨_, rfl, w222, ((((((FrC.rfl.trans (FrC.sub F17 (by decide))).trans (FrC.sub F32 (by decide))).trans (FrC.sub F45 (by decide))).trans (FrC.sub F83 (by decide))).trans (FrC.sub (FrC.old F198 gt81) (by decide))).trans (FrC.sub (FrC.old F223 gt81) (by decide))), by omega, ⟨fun q => absurd q (by decide), fun _ => rb269⟩, (RP.up f220 (by omega))⟩
end
section
set_option maxHeartbeats 4000000 in
set_option maxRecDepth 20000 in
theorem k_X5_assignment_f (d : Nat) {T : CT} {σ : MS} {a : Nat} {kp : Int} {Sx : Int → Int} {nx jx : Nat} {cx : CS} {Nx : Int} {bx : Int} (ha : OB T a 5) (hw : WT T σ) (hfx : RDX σ a Sx nx jx cx Nx) (hkd : ckd (tkS Sx jx) = 256) (hkp : kp ≤ 140) (hrp : RP σ a kp) : Tn (d + 52) m_X5_assignment 0 T σ [(0, .ref a)] [] (fun ro T2 σ2 => ∃ v : Int, ro = some (.int (iI v)) ∧ WT T2 σ2 ∧ FrC T [5, 6, 7, 42, 43, 44, 47, 50, 51, 84, 85, 86, 87, 518, 519, 520, 521] σ σ2 ∧ (v = 0 ∨ v = 1) ∧ (YQ σ2 a Sx nx bx [51, 23] jx cx (Nx) 1 v) ∧ (RP σ2 a (kp + 1 - 10 * v))) := by
  have hSb := hfx.1.sb
  have e45 := hfx.e45
  have hpo9 := hfx.po
  unfold PO at hpo9
  have e42 : σ.2.1 42 a = cx.cn := hfx.1.2.1.1.2.2.2.1
  refine tn_aload_n dX5_assignment_0 rfl 0 rfl ?_
  obtain ⟨x1, hx2, hk3⟩ : ∃ x : Nat, σ.2.1 35 a = (x : Int) ∧ (T x).1 = 31 := wf_35 hw ha
  have hk3o : OB T x1 1 := ⟨by omega, by rw [hk3]; rfl, by omega⟩
  refine tn_getR (ci := 5) (i := 2) (n := 35) (x := x1) dX5_assignment_1 rfl lay_5 (by decide) fl5_47 ha rfl rfl (hx2) ?_
  refine tn_bipush dX5_assignment_4 (by decide) ?_
  refine tn_aload_n dX5_assignment_6 rfl 0 rfl ?_
  refine tn_getI (ci := 5) (i := 12) (n := 45) (t := σ.2.1 45 a) dX5_assignment_7 rfl lay_5 (by decide) fl5_64 ha rfl rfl (rfl) ?_
  have g5 : ((-2147483648 : Int) ≤ σ.2.1 45 a ∧ σ.2.1 45 a ≤ 2147483647) := wf_45 hw ha
  refine tn_iconst dX5_assignment_10 ?_
  refine tn_callV (M := m_X5_assignment) (pc := 11) (ix := 139) (ci := 1) (M' := m_X1_append) (As := [.int (iI 11), .int (iI (σ.2.1 45 a)), .int (iI 0)]) (rest := []) dX5_assignment_11 ok_X1_append im_X1_append se_X1_append ml5_139 np_X1_append rfl rfl hk3o rfl (Nat.le_of_ble_eq_true rfl) (Nat.le_of_ble_eq_true rfl) rfl (k_X1_append (d + 48) (T := T) (σ := σ) (a := x1) (k := 11) (x := σ.2.1 45 a) (y := 0) hk3o hk3 (by decide) (by omega) (by decide) hw (RP.cnt hrp hw ha (hx2) (by omega)) (by omega)) (fun r6 T8 σ7 gt9 hp => ?_)
  obtain ⟨rfl, w12, F13, f10⟩ := hp
  have fx14 : RDX σ7 a Sx nx jx (cx) (Nx + 1) := RDX.ap hfx hw ha (hx2) F13 f10
  replace ha : OB T8 a 5 := gt9.ob ha
  have rp15 : RP σ7 a (kp + 1) := RP.app hrp (hx2) F13 (by decide) (by decide) (by decide) (by decide) f10
  show Tn _ _ 14 T8 σ7 [(0, .ref a)] [] _
  refine tn_aload_n dX5_assignment_14 rfl 0 rfl ?_
  refine tn_callV (M := m_X5_assignment) (pc := 15) (ix := 176) (ci := 5) (M' := m_X5_register) (As := []) (rest := []) dX5_assignment_15 ok_X5_register im_X5_register se_X5_register ml5_176 np_X5_register rfl rfl ha rfl (Nat.le_of_ble_eq_true rfl) (Nat.le_of_ble_eq_true rfl) rfl (k_X5_register_f (d + 49) (T := T8) (σ := σ7) (a := a) ha w12 fx14 hkd) (fun r16 T18 σ17 gt19 hp => ?_)
  obtain ⟨v22, rfl, rfl, w23, F24, f20, f21⟩ := hp
  clear gt19
  have rp25 : RP σ17 a (kp + 1) := RP.frc rp15 F24 (by decide) (by decide) (by decide) (by decide) (by decide)
  show Tn _ _ 18 T8 σ17 [(0, .ref a)] [.int (iI v22)] _
  refine tn_istore_n (L' := [(1, .int (iI v22)), (0, .ref a)]) dX5_assignment_18 rfl (by decide) rfl ?_
  refine tn_aload_n dX5_assignment_19 rfl 1 rfl ?_
  obtain ⟨x26, hx27, hk28⟩ : ∃ x : Nat, σ7.2.1 33 a = (x : Int) ∧ (T8 x).1 = 39 := wf_33 w12 ha
  have hk28o : OB T8 x26 9 := ⟨by omega, by rw [hk28]; rfl, by omega⟩
  refine tn_getR (ci := 5) (i := 0) (n := 33) (x := x26) dX5_assignment_20 rfl lay_5 (by decide) fl5_12 ha rfl rfl (rc_F F24 (Or.inl (by decide)) (by decide) (hx27)) ?_
  have q34 : σ17.2.1 84 x26 = σ7.2.1 84 x26 := rc_F F24 (Or.inl (by decide)) (by decide) (rfl)
  refine tn_callV (M := m_X5_assignment) (pc := 23) (ix := 93) (ci := 9) (M' := m_X9_next) (As := []) (rest := []) dX5_assignment_23 ok_X9_next im_X9_next se_X9_next ml5_93 np_X9_next rfl rfl hk28o rfl (Nat.le_of_ble_eq_true rfl) (Nat.le_of_ble_eq_true rfl) rfl (k_X9_next_f (d + 50) (T := T8) (σ := σ17) (a := x26) hk28o w23 (RP.tk rp25 w23 ha (rc_F F24 (Or.inl (by decide)) (by decide) (hx27))) ((f21).1.tk (rc_F F24 (Or.inl (by decide)) (by decide) (hx27))) (by rw [(f21).1.kd (rc_F F24 (Or.inl (by decide)) (by decide) (hx27))]; omega)) (fun r30 T32 σ31 gt33 hp => ?_)
  obtain ⟨rfl, rfl, w40, F41, f35, f36, f37, f38⟩ := hp
  clear gt33
  have pc43 : GR Sx [51] jx (0) (bx) u0 [] jx (0) (bx) u0 1 [] := x51 hSb 
  have rd440 : GR Sx [51, 23] jx 0 (bx) u0 [51, 23] jx (0) (bx) u0 (0) ([]) := GR.nl
  have rd44 : GR Sx [51, 23] jx 0 (bx) u0 [23] jx (0) (bx) u0 (0 + 1) ([]) := GR.g0 (l := [51]) (ms := []) [23] rd440 pc43
  have pc45 : GR Sx [23] jx (0) (bx) u0 [161, 25] (jx + 1) (0) (bx) u0 0 [(4, (tkS Sx jx).1, 0, (tkS Sx jx).2.2.2.2)] := x23 hSb 
  have rd46a : GR Sx [51, 23] jx 0 (bx) u0 [161, 25] (jx + 1) (0) (bx) u0 (0 + 1 + 0) ([] ++ [(4, (tkS Sx jx).1, 0, (tkS Sx jx).2.2.2.2)]) := GR.gg (l := [23]) (ms := [161, 25]) [] rd44 pc45
  have rd46 : GR Sx [51, 23] jx 0 (bx) u0 [161, 25] (jx + 1) (0) (bx) u0 (0 + 1 + 0) ([(4, (tkS Sx jx).1, 0, (tkS Sx jx).2.2.2.2)]) := rd46a
  have fx42 : RDX σ31 a Sx nx (jx + 1) (uC (cx) (4, (tkS Sx jx).1, 0, (tkS Sx jx).2.2.2.2)) (Nx + 1) := RDX.nx f21 w23 ha (rc_F F24 (Or.inl (by decide)) (by decide) (hx27)) F41 f38
  have rp47 : RP σ31 a (kp + 1) := RP.next rp25 (rc_F F24 (Or.inl (by decide)) (by decide) (hx27)) F41 (by decide) (by decide) (by decide) f35 f36
  show Tn _ _ 26 T8 σ31 [(1, .int (iI v22)), (0, .ref a)] [] _
  refine tn_aload_n dX5_assignment_26 rfl 1 rfl ?_
  refine tn_bipush dX5_assignment_27 (by decide) ?_
  refine tn_callV (M := m_X5_assignment) (pc := 29) (ix := 102) (ci := 5) (M' := m_X5_taken) (As := [.int (iI 61)]) (rest := []) dX5_assignment_29 ok_X5_taken im_X5_taken se_X5_taken ml5_102 np_X5_taken rfl rfl ha rfl (Nat.le_of_ble_eq_true rfl) (Nat.le_of_ble_eq_true rfl) rfl (k_X5_taken_f (d + 49) (T := T8) (σ := σ31) (a := a) (s := 61) (kp := kp + 1) ha (by decide) w40 (by omega) fx42 (by omega) rp47) (fun r48 T50 σ49 gt51 hp => ?_)
  obtain ⟨v55, rfl, rfl, w56, F57, f52, f53, f54⟩ := hp
  clear gt51
  have rp59 : RP σ49 a (kp - 4 * v55 + 1) := RP.up f54 (by omega)
  show Tn _ _ 32 T8 σ49 [(1, .int (iI v22)), (0, .ref a)] [.int (iI v55)] _
  refine tn_if_ne (tgt := 37) dX5_assignment_32 (by decide) ⟨by omega, by omega⟩ (fun h60 => ?_) (fun h60 => ?_)
  · refine tn_aload_n dX5_assignment_37 rfl 1 rfl ?_
    refine tn_getR (ci := 5) (i := 0) (n := 33) (x := x26) dX5_assignment_38 rfl lay_5 (by decide) fl5_12 ha rfl rfl (rc_F F57 (Or.inl (by decide)) (by decide) (rc_F F41 (Or.inl (by decide)) (by decide) (rc_F F24 (Or.inl (by decide)) (by decide) (hx27)))) ?_
    refine tn_getI (ci := 9) (i := 4) (n := 85) (t := σ49.2.1 85 x26) dX5_assignment_41 rfl lay_9 (by decide) fl5_71 hk28o rfl rfl (rfl) ?_
    have g61 : ((-2147483648 : Int) ≤ σ49.2.1 85 x26 ∧ σ49.2.1 85 x26 ≤ 2147483647) := wf_85 w56 hk28o
    obtain ⟨kd63, fx62⟩ := f53.1 (by omega)
    have pc64 : GR Sx [161] (jx + 1) (0) (bx) u0 [] ((jx + 1) + 1) (0) (bx) u0 0 [] := y61 hSb kd63
    have rd65 : GR Sx [51, 23] jx 0 (bx) u0 [25] ((jx + 1) + 1) (0) (bx) u0 (0 + 1 + 0 + 0) ([(4, (tkS Sx jx).1, 0, (tkS Sx jx).2.2.2.2)]) := GR.g0 (l := [161]) (ms := []) [25] rd46 pc64
    have g61kd : σ49.2.1 85 x26 = ckd (tkS Sx ((jx + 1) + 1)) := (rfl).symm.trans ((fx62).1.kd (rc_F F57 (Or.inl (by decide)) (by decide) (rc_F F41 (Or.inl (by decide)) (by decide) (rc_F F24 (Or.inl (by decide)) (by decide) (hx27)))))
    refine tn_sipush dX5_assignment_44 (by decide) ?_
    refine tn_icmp_ne (tgt := 70) dX5_assignment_47 (by decide) ⟨by omega, by omega⟩ ⟨by decide, by decide⟩ (fun h66 => ?_) (fun h66 => ?_)
    · refine tn_aload_n dX5_assignment_70 rfl 1 rfl ?_
      refine tn_iload_n dX5_assignment_71 rfl 0 rfl ?_
      refine tn_callV (M := m_X5_assignment) (pc := 72) (ix := 207) (ci := 5) (M' := m_X5_setting) (As := [.int (iI v22)]) (rest := []) dX5_assignment_72 ok_X5_setting im_X5_setting se_X5_setting ml5_207 np_X5_setting rfl rfl ha rfl (Nat.le_of_ble_eq_true rfl) (Nat.le_of_ble_eq_true rfl) rfl (k_X5_setting_f (d) (T := T8) (σ := σ49) (a := a) (r := v22) (kp := kp - 4 * v55 + 1) (bx := bx) ha (by omega) w56 fx62 (fun q => absurd q.1 (by omega)) (by omega) rp59) (fun r67 T69 σ68 gt70 hp => ?_)
      obtain ⟨v74, rfl, w75, F76, f71, f72, f73⟩ := hp
      replace ha : OB T69 a 5 := gt70.ob ha
      have rp78 : RP σ68 a (kp - 4 * v55 - 7 * v74 + 1) := RP.up f73 (by omega)
      show Tn _ _ 75 T69 σ68 [(1, .int (iI v22)), (0, .ref a)] [.int (iI v74)] _
      rcases f71 with f71 | f71
      · refine tn_istore_n (L' := [(2, .int (iI v74)), (1, .int (iI v22)), (0, .ref a)]) dX5_assignment_75 rfl (by decide) rfl ?_
        refine tn_aload_n dX5_assignment_76 rfl 2 rfl ?_
        obtain ⟨x79, hx80, hk81⟩ : ∃ x : Nat, σ68.2.1 35 a = (x : Int) ∧ (T69 x).1 = 31 := wf_35 w75 ha
        have hk81o : OB T69 x79 1 := ⟨by omega, by rw [hk81]; rfl, by omega⟩
        refine tn_getR (ci := 5) (i := 2) (n := 35) (x := x79) dX5_assignment_77 rfl lay_5 (by decide) fl5_47 ha rfl rfl (hx80) ?_
        refine tn_bipush dX5_assignment_80 (by decide) ?_
        refine tn_iload_n dX5_assignment_82 rfl 1 rfl ?_
        refine tn_iconst dX5_assignment_83 ?_
        refine tn_callV (M := m_X5_assignment) (pc := 84) (ix := 139) (ci := 1) (M' := m_X1_append) (As := [.int (iI 12), .int (iI v22), .int (iI 0)]) (rest := []) dX5_assignment_84 ok_X1_append im_X1_append se_X1_append ml5_139 np_X1_append rfl rfl hk81o rfl (Nat.le_of_ble_eq_true rfl) (Nat.le_of_ble_eq_true rfl) rfl (k_X1_append (d + 48) (T := T69) (σ := σ68) (a := x79) (k := 12) (x := v22) (y := 0) hk81o hk81 (by decide) (by omega) (by decide) w75 (RP.cnt rp78 w75 ha (hx80) (by omega)) (by omega)) (fun r83 T85 σ84 gt86 hp => ?_)
        obtain ⟨rfl, w89, F90, f87⟩ := hp
        obtain ⟨pl91, g92, fx93⟩ := f72.2 (by omega)
        have rf94 : GRF Sx [51, 23] jx 0 (bx) u0 (pl91) := GR.fl (l := [25]) [] rd65 g92
        have fx95 : FLC σ84 a (pl91) := FLC.fc fx93 F90 (by decide) (by decide)
        replace ha : OB T85 a 5 := gt86.ob ha
        have rp96 : RP σ84 a (kp - 4 * v55 - 7 * v74 + 1 + 1) := RP.app rp78 (hx80) F90 (by decide) (by decide) (by decide) (by decide) f87
        have rp97 : RP σ84 a (kp - 4 * v55 - 7 * v74 + 2) := RP.up rp96 (by omega)
        show Tn _ _ 87 T85 σ84 [(2, .int (iI v74)), (1, .int (iI v22)), (0, .ref a)] [] _
        refine tn_aload_n dX5_assignment_87 rfl 2 rfl ?_
        obtain ⟨x98, hx99, hk100⟩ : ∃ x : Nat, σ84.2.1 35 a = (x : Int) ∧ (T85 x).1 = 31 := wf_35 w89 ha
        have hk100o : OB T85 x98 1 := ⟨by omega, by rw [hk100]; rfl, by omega⟩
        refine tn_getR (ci := 5) (i := 2) (n := 35) (x := x98) dX5_assignment_88 rfl lay_5 (by decide) fl5_47 ha rfl rfl (hx99) ?_
        refine tn_aload_n dX5_assignment_91 rfl 2 rfl ?_
        refine tn_getR (ci := 5) (i := 2) (n := 35) (x := x98) dX5_assignment_92 rfl lay_5 (by decide) fl5_47 ha rfl rfl (hx99) ?_
        refine tn_getI (ci := 1) (i := 1) (n := 6) (t := σ84.2.1 6 x98) dX5_assignment_95 rfl lay_1 (by decide) fl5_146 hk100o rfl rfl (rfl) ?_
        have g102 : ((0 : Int) ≤ σ84.2.1 6 x98 ∧ σ84.2.1 6 x98 ≤ 5000) ∧ ((T85 x98).1 = 50 → σ84.2.1 6 x98 ≤ 200) := wf_6 w89 hk100o
        have g102x := g102.2
        replace g102 := g102.1
        clear g102x
        refine tn_iconst dX5_assignment_98 ?_
        refine tn_isub dX5_assignment_99 ?_
        refine tn_iconst dX5_assignment_100 ?_
        refine tn_iload_n dX5_assignment_101 rfl 1 rfl ?_
        refine tn_callV (M := m_X5_assignment) (pc := 102) (ix := 210) (ci := 1) (M' := m_X1_setWhere) (As := [.int (iI ((σ84.2.1 6 x98) - 1)), .int (iI 2), .int (iI v22)]) (rest := []) dX5_assignment_102 ok_X1_setWhere im_X1_setWhere se_X1_setWhere ml5_210 np_X1_setWhere rfl rfl hk100o rfl (Nat.le_of_ble_eq_true rfl) (Nat.le_of_ble_eq_true rfl) rfl (k_X1_setWhere (d + 49) (T := T85) (σ := σ84) (a := x98) (k := (σ84.2.1 6 x98) - 1) (y := 2) (z := v22) hk100o (by omega) (by decide) (by omega) w89 ) (fun r103 T105 σ104 gt106 hp => ?_)
        obtain ⟨rfl, rfl, w108, F109⟩ := hp
        clear gt106
        have fx110 : FLC σ104 a (pl91) := FLC.fc fx95 F109 (by decide) (by decide)
        have rp111 : RP σ104 a (kp - 4 * v55 - 7 * v74 + 2) := RP.frc rp97 F109 (by decide) (by decide) (by decide) (by decide) (by decide)
        show Tn _ _ 105 T85 σ104 [(2, .int (iI v74)), (1, .int (iI v22)), (0, .ref a)] [] _
        refine tn_iload_n dX5_assignment_105 rfl 0 rfl ?_
        have rb113 : YF σ104 a Sx bx [51, 23] jx := ⟨_, rf94, fx110⟩
        exact tn_zret (v := v74) rfl (by omega) dX5_assignment_106 ⟨_, rfl, w108, (((((((FrC.rfl.trans (FrC.sub F13 (by decide))).trans (FrC.sub (FrC.old F24 gt9) (by decide))).trans (FrC.sub (FrC.old F41 gt9) (by decide))).trans (FrC.sub (FrC.old F57 gt9) (by decide))).trans (FrC.sub (FrC.old F76 gt9) (by decide))).trans (FrC.sub (FrC.old F90 (GT.trans gt9 gt70)) (by decide))).trans (FrC.sub (FrC.old F109 (GT.trans (GT.trans gt9 gt70) gt86)) (by decide))), by omega, ⟨fun q => absurd q (by omega), fun _ => rb113⟩, (RP.up rp111 (by omega))⟩
      · refine tn_istore_n (L' := [(2, .int (iI v74)), (1, .int (iI v22)), (0, .ref a)]) dX5_assignment_75 rfl (by decide) rfl ?_
        refine tn_aload_n dX5_assignment_76 rfl 2 rfl ?_
        obtain ⟨x114, hx115, hk116⟩ : ∃ x : Nat, σ68.2.1 35 a = (x : Int) ∧ (T69 x).1 = 31 := wf_35 w75 ha
        have hk116o : OB T69 x114 1 := ⟨by omega, by rw [hk116]; rfl, by omega⟩
        refine tn_getR (ci := 5) (i := 2) (n := 35) (x := x114) dX5_assignment_77 rfl lay_5 (by decide) fl5_47 ha rfl rfl (hx115) ?_
        refine tn_bipush dX5_assignment_80 (by decide) ?_
        refine tn_iload_n dX5_assignment_82 rfl 1 rfl ?_
        refine tn_iconst dX5_assignment_83 ?_
        refine tn_callV (M := m_X5_assignment) (pc := 84) (ix := 139) (ci := 1) (M' := m_X1_append) (As := [.int (iI 12), .int (iI v22), .int (iI 0)]) (rest := []) dX5_assignment_84 ok_X1_append im_X1_append se_X1_append ml5_139 np_X1_append rfl rfl hk116o rfl (Nat.le_of_ble_eq_true rfl) (Nat.le_of_ble_eq_true rfl) rfl (k_X1_append (d + 48) (T := T69) (σ := σ68) (a := x114) (k := 12) (x := v22) (y := 0) hk116o hk116 (by decide) (by omega) (by decide) w75 (RP.cnt rp78 w75 ha (hx115) (by omega)) (by omega)) (fun r118 T120 σ119 gt121 hp => ?_)
        obtain ⟨rfl, w124, F125, f122⟩ := hp
        obtain ⟨i126, es127, m128, lo129, rr130, fx131, fx131m⟩ := f72.1 (by omega)
        have fx131s : σ68.2.1 45 a ≤ (i126 : Int) := by rw [fx131.e45]; exact fx131m
        have rd132 : GR Sx [51, 23] jx 0 (bx) u0 [] i126 (0) (bx) u0 (0 + 1 + 0 + 0 + m128) ([(4, (tkS Sx jx).1, 0, (tkS Sx jx).2.2.2.2)] ++ es127) := GR.gg (l := [25]) (ms := []) [] rd65 rr130
        have fx133 : RDX σ119 a Sx nx i126 (es127.foldl uC (uC (cx) (4, (tkS Sx jx).1, 0, (tkS Sx jx).2.2.2.2))) (Nx + 1 - 1 + m128 + 1) := RDX.ap fx131 w75 ha (hx115) F125 f122
        replace ha : OB T120 a 5 := gt121.ob ha
        have rp134 : RP σ119 a (kp - 4 * v55 - 7 * v74 + 1 + 1) := RP.app rp78 (hx115) F125 (by decide) (by decide) (by decide) (by decide) f122
        have rp135 : RP σ119 a (kp - 4 * v55 - 7 * v74 + 2) := RP.up rp134 (by omega)
        show Tn _ _ 87 T120 σ119 [(2, .int (iI v74)), (1, .int (iI v22)), (0, .ref a)] [] _
        refine tn_aload_n dX5_assignment_87 rfl 2 rfl ?_
        obtain ⟨x136, hx137, hk138⟩ : ∃ x : Nat, σ119.2.1 35 a = (x : Int) ∧ (T120 x).1 = 31 := wf_35 w124 ha
        have hk138o : OB T120 x136 1 := ⟨by omega, by rw [hk138]; rfl, by omega⟩
        refine tn_getR (ci := 5) (i := 2) (n := 35) (x := x136) dX5_assignment_88 rfl lay_5 (by decide) fl5_47 ha rfl rfl (hx137) ?_
        refine tn_aload_n dX5_assignment_91 rfl 2 rfl ?_
        refine tn_getR (ci := 5) (i := 2) (n := 35) (x := x136) dX5_assignment_92 rfl lay_5 (by decide) fl5_47 ha rfl rfl (hx137) ?_
        refine tn_getI (ci := 1) (i := 1) (n := 6) (t := σ119.2.1 6 x136) dX5_assignment_95 rfl lay_1 (by decide) fl5_146 hk138o rfl rfl (rfl) ?_
        have g140 : ((0 : Int) ≤ σ119.2.1 6 x136 ∧ σ119.2.1 6 x136 ≤ 5000) ∧ ((T120 x136).1 = 50 → σ119.2.1 6 x136 ≤ 200) := wf_6 w124 hk138o
        have g140x := g140.2
        replace g140 := g140.1
        clear g140x
        refine tn_iconst dX5_assignment_98 ?_
        refine tn_isub dX5_assignment_99 ?_
        refine tn_iconst dX5_assignment_100 ?_
        refine tn_iload_n dX5_assignment_101 rfl 1 rfl ?_
        refine tn_callV (M := m_X5_assignment) (pc := 102) (ix := 210) (ci := 1) (M' := m_X1_setWhere) (As := [.int (iI ((σ119.2.1 6 x136) - 1)), .int (iI 2), .int (iI v22)]) (rest := []) dX5_assignment_102 ok_X1_setWhere im_X1_setWhere se_X1_setWhere ml5_210 np_X1_setWhere rfl rfl hk138o rfl (Nat.le_of_ble_eq_true rfl) (Nat.le_of_ble_eq_true rfl) rfl (k_X1_setWhere (d + 49) (T := T120) (σ := σ119) (a := x136) (k := (σ119.2.1 6 x136) - 1) (y := 2) (z := v22) hk138o (by omega) (by decide) (by omega) w124 ) (fun r141 T143 σ142 gt144 hp => ?_)
        obtain ⟨rfl, rfl, w146, F147⟩ := hp
        clear gt144
        have fx148 : RDX σ142 a Sx nx i126 (es127.foldl uC (uC (cx) (4, (tkS Sx jx).1, 0, (tkS Sx jx).2.2.2.2))) (Nx + 1 - 1 + m128 + 1) := RDX.fc fx133 w124 ha F147 (by decide) (by decide)
        have rp149 : RP σ142 a (kp - 4 * v55 - 7 * v74 + 2) := RP.frc rp135 F147 (by decide) (by decide) (by decide) (by decide) (by decide)
        show Tn _ _ 105 T120 σ142 [(2, .int (iI v74)), (1, .int (iI v22)), (0, .ref a)] [] _
        refine tn_iload_n dX5_assignment_105 rfl 0 rfl ?_
        have fe152 := RDX.nq (M := Nx + (0 + 1 + 0 + 0 + m128)) (RDX.cq (c2 := ([(4, (tkS Sx jx).1, 0, (tkS Sx jx).2.2.2.2)] ++ es127).foldl uC cx) fx148 (by simp only [List.foldl_append, List.foldl_cons, List.foldl_nil])) (by omega)
        have fe152m : (([(4, (tkS Sx jx).1, 0, (tkS Sx jx).2.2.2.2)] ++ es127).foldl uC cx).m = σ.2.1 45 a := (fe152.e45).symm.trans (rc_F F147 (Or.inl (by decide)) (by decide) (rc_F F125 (Or.inl (by decide)) (by decide) (rc_F F76 (Or.inl (by decide)) (by decide) (rc_F F57 (Or.inl (by decide)) (by decide) (rc_F F41 (Or.inl (by decide)) (by decide) (rc_F F24 (Or.inl (by decide)) (by decide) (rc_F F13 (Or.inl (by decide)) (by decide) (rfl))))))))
        have ra150 : YS σ142 a Sx nx bx [51, 23] jx cx (Nx) bx [] ((jx : Int) + 1) := ⟨i126, [(4, (tkS Sx jx).1, 0, (tkS Sx jx).2.2.2.2)] ++ es127, 0 + 1 + 0 + 0 + m128, (by omega), rd132, fe152, by rw [fe152m]; omega⟩
        exact tn_zret (v := v74) rfl (by omega) dX5_assignment_106 ⟨_, rfl, w146, (((((((FrC.rfl.trans (FrC.sub F13 (by decide))).trans (FrC.sub (FrC.old F24 gt9) (by decide))).trans (FrC.sub (FrC.old F41 gt9) (by decide))).trans (FrC.sub (FrC.old F57 gt9) (by decide))).trans (FrC.sub (FrC.old F76 gt9) (by decide))).trans (FrC.sub (FrC.old F125 (GT.trans gt9 gt70)) (by decide))).trans (FrC.sub (FrC.old F147 (GT.trans (GT.trans gt9 gt70) gt121)) (by decide))), by omega, ⟨fun _ => ra150, fun q => absurd q (by omega)⟩, (RP.up rp149 (by omega))⟩
    · refine tn_aload_n dX5_assignment_50 rfl 1 rfl ?_
      refine tn_getR (ci := 5) (i := 0) (n := 33) (x := x26) dX5_assignment_51 rfl lay_5 (by decide) fl5_12 ha rfl rfl (rc_F F57 (Or.inl (by decide)) (by decide) (rc_F F41 (Or.inl (by decide)) (by decide) (rc_F F24 (Or.inl (by decide)) (by decide) (hx27)))) ?_
      refine tn_bipush dX5_assignment_54 (by decide) ?_
      refine tn_callV (M := m_X5_assignment) (pc := 56) (ix := 201) (ci := 9) (M' := m_X9_nextIs) (As := [.int (iI 40)]) (rest := []) dX5_assignment_56 ok_X9_nextIs im_X9_nextIs se_X9_nextIs ml5_201 np_X9_nextIs rfl rfl hk28o rfl (Nat.le_of_ble_eq_true rfl) (Nat.le_of_ble_eq_true rfl) rfl (k_X9_nextIs_f (d + 49) (T := T8) (σ := σ49) (a := x26) (s := 40) hk28o (by decide) w56 ((fx62).1.tk (rc_F F57 (Or.inl (by decide)) (by decide) (rc_F F41 (Or.inl (by decide)) (by decide) (rc_F F24 (Or.inl (by decide)) (by decide) (hx27))))) (by rw [(fx62).1.kd (rc_F F57 (Or.inl (by decide)) (by decide) (rc_F F41 (Or.inl (by decide)) (by decide) (rc_F F24 (Or.inl (by decide)) (by decide) (hx27))))]; omega)) (fun r153 T155 σ154 gt156 hp => ?_)
      obtain ⟨v159, rfl, rfl, rfl, f157, f158⟩ := hp
      clear gt156
      show Tn _ _ 59 T8 σ49 [(1, .int (iI v22)), (0, .ref a)] [.int (iI v159)] _
      refine tn_if_eq (tgt := 70) dX5_assignment_59 (by decide) ⟨by omega, by omega⟩ (fun h160 => ?_) (fun h160 => ?_)
      · refine tn_aload_n dX5_assignment_70 rfl 1 rfl ?_
        refine tn_iload_n dX5_assignment_71 rfl 0 rfl ?_
        refine tn_callV (M := m_X5_assignment) (pc := 72) (ix := 207) (ci := 5) (M' := m_X5_setting) (As := [.int (iI v22)]) (rest := []) dX5_assignment_72 ok_X5_setting im_X5_setting se_X5_setting ml5_207 np_X5_setting rfl rfl ha rfl (Nat.le_of_ble_eq_true rfl) (Nat.le_of_ble_eq_true rfl) rfl (k_X5_setting_f (d) (T := T8) (σ := σ49) (a := a) (r := v22) (kp := kp - 4 * v55 + 1) (bx := bx) ha (by omega) w56 fx62 (fun q => f158.2 (by omega) q.2) (by omega) rp59) (fun r161 T163 σ162 gt164 hp => ?_)
        obtain ⟨v168, rfl, w169, F170, f165, f166, f167⟩ := hp
        replace ha : OB T163 a 5 := gt164.ob ha
        have rp172 : RP σ162 a (kp - 4 * v55 - 7 * v168 + 1) := RP.up f167 (by omega)
        show Tn _ _ 75 T163 σ162 [(1, .int (iI v22)), (0, .ref a)] [.int (iI v168)] _
        rcases f165 with f165 | f165
        · refine tn_istore_n (L' := [(2, .int (iI v168)), (1, .int (iI v22)), (0, .ref a)]) dX5_assignment_75 rfl (by decide) rfl ?_
          refine tn_aload_n dX5_assignment_76 rfl 2 rfl ?_
          obtain ⟨x173, hx174, hk175⟩ : ∃ x : Nat, σ162.2.1 35 a = (x : Int) ∧ (T163 x).1 = 31 := wf_35 w169 ha
          have hk175o : OB T163 x173 1 := ⟨by omega, by rw [hk175]; rfl, by omega⟩
          refine tn_getR (ci := 5) (i := 2) (n := 35) (x := x173) dX5_assignment_77 rfl lay_5 (by decide) fl5_47 ha rfl rfl (hx174) ?_
          refine tn_bipush dX5_assignment_80 (by decide) ?_
          refine tn_iload_n dX5_assignment_82 rfl 1 rfl ?_
          refine tn_iconst dX5_assignment_83 ?_
          refine tn_callV (M := m_X5_assignment) (pc := 84) (ix := 139) (ci := 1) (M' := m_X1_append) (As := [.int (iI 12), .int (iI v22), .int (iI 0)]) (rest := []) dX5_assignment_84 ok_X1_append im_X1_append se_X1_append ml5_139 np_X1_append rfl rfl hk175o rfl (Nat.le_of_ble_eq_true rfl) (Nat.le_of_ble_eq_true rfl) rfl (k_X1_append (d + 48) (T := T163) (σ := σ162) (a := x173) (k := 12) (x := v22) (y := 0) hk175o hk175 (by decide) (by omega) (by decide) w169 (RP.cnt rp172 w169 ha (hx174) (by omega)) (by omega)) (fun r177 T179 σ178 gt180 hp => ?_)
          obtain ⟨rfl, w183, F184, f181⟩ := hp
          obtain ⟨pl185, g186, fx187⟩ := f166.2 (by omega)
          have rf188 : GRF Sx [51, 23] jx 0 (bx) u0 (pl185) := GR.fl (l := [25]) [] rd65 g186
          have fx189 : FLC σ178 a (pl185) := FLC.fc fx187 F184 (by decide) (by decide)
          replace ha : OB T179 a 5 := gt180.ob ha
          have rp190 : RP σ178 a (kp - 4 * v55 - 7 * v168 + 1 + 1) := RP.app rp172 (hx174) F184 (by decide) (by decide) (by decide) (by decide) f181
          have rp191 : RP σ178 a (kp - 4 * v55 - 7 * v168 + 2) := RP.up rp190 (by omega)
          show Tn _ _ 87 T179 σ178 [(2, .int (iI v168)), (1, .int (iI v22)), (0, .ref a)] [] _
          refine tn_aload_n dX5_assignment_87 rfl 2 rfl ?_
          obtain ⟨x192, hx193, hk194⟩ : ∃ x : Nat, σ178.2.1 35 a = (x : Int) ∧ (T179 x).1 = 31 := wf_35 w183 ha
          have hk194o : OB T179 x192 1 := ⟨by omega, by rw [hk194]; rfl, by omega⟩
          refine tn_getR (ci := 5) (i := 2) (n := 35) (x := x192) dX5_assignment_88 rfl lay_5 (by decide) fl5_47 ha rfl rfl (hx193) ?_
          refine tn_aload_n dX5_assignment_91 rfl 2 rfl ?_
          refine tn_getR (ci := 5) (i := 2) (n := 35) (x := x192) dX5_assignment_92 rfl lay_5 (by decide) fl5_47 ha rfl rfl (hx193) ?_
          refine tn_getI (ci := 1) (i := 1) (n := 6) (t := σ178.2.1 6 x192) dX5_assignment_95 rfl lay_1 (by decide) fl5_146 hk194o rfl rfl (rfl) ?_
          have g196 : ((0 : Int) ≤ σ178.2.1 6 x192 ∧ σ178.2.1 6 x192 ≤ 5000) ∧ ((T179 x192).1 = 50 → σ178.2.1 6 x192 ≤ 200) := wf_6 w183 hk194o
          have g196x := g196.2
          replace g196 := g196.1
          clear g196x
          refine tn_iconst dX5_assignment_98 ?_
          refine tn_isub dX5_assignment_99 ?_
          refine tn_iconst dX5_assignment_100 ?_
          refine tn_iload_n dX5_assignment_101 rfl 1 rfl ?_
          refine tn_callV (M := m_X5_assignment) (pc := 102) (ix := 210) (ci := 1) (M' := m_X1_setWhere) (As := [.int (iI ((σ178.2.1 6 x192) - 1)), .int (iI 2), .int (iI v22)]) (rest := []) dX5_assignment_102 ok_X1_setWhere im_X1_setWhere se_X1_setWhere ml5_210 np_X1_setWhere rfl rfl hk194o rfl (Nat.le_of_ble_eq_true rfl) (Nat.le_of_ble_eq_true rfl) rfl (k_X1_setWhere (d + 49) (T := T179) (σ := σ178) (a := x192) (k := (σ178.2.1 6 x192) - 1) (y := 2) (z := v22) hk194o (by omega) (by decide) (by omega) w183 ) (fun r197 T199 σ198 gt200 hp => ?_)
          obtain ⟨rfl, rfl, w202, F203⟩ := hp
          clear gt200
          have fx204 : FLC σ198 a (pl185) := FLC.fc fx189 F203 (by decide) (by decide)
          have rp205 : RP σ198 a (kp - 4 * v55 - 7 * v168 + 2) := RP.frc rp191 F203 (by decide) (by decide) (by decide) (by decide) (by decide)
          show Tn _ _ 105 T179 σ198 [(2, .int (iI v168)), (1, .int (iI v22)), (0, .ref a)] [] _
          refine tn_iload_n dX5_assignment_105 rfl 0 rfl ?_
          have rb207 : YF σ198 a Sx bx [51, 23] jx := ⟨_, rf188, fx204⟩
          exact tn_zret (v := v168) rfl (by omega) dX5_assignment_106 ⟨_, rfl, w202, (((((((FrC.rfl.trans (FrC.sub F13 (by decide))).trans (FrC.sub (FrC.old F24 gt9) (by decide))).trans (FrC.sub (FrC.old F41 gt9) (by decide))).trans (FrC.sub (FrC.old F57 gt9) (by decide))).trans (FrC.sub (FrC.old F170 gt9) (by decide))).trans (FrC.sub (FrC.old F184 (GT.trans gt9 gt164)) (by decide))).trans (FrC.sub (FrC.old F203 (GT.trans (GT.trans gt9 gt164) gt180)) (by decide))), by omega, ⟨fun q => absurd q (by omega), fun _ => rb207⟩, (RP.up rp205 (by omega))⟩
        · refine tn_istore_n (L' := [(2, .int (iI v168)), (1, .int (iI v22)), (0, .ref a)]) dX5_assignment_75 rfl (by decide) rfl ?_
          refine tn_aload_n dX5_assignment_76 rfl 2 rfl ?_
          obtain ⟨x208, hx209, hk210⟩ : ∃ x : Nat, σ162.2.1 35 a = (x : Int) ∧ (T163 x).1 = 31 := wf_35 w169 ha
          have hk210o : OB T163 x208 1 := ⟨by omega, by rw [hk210]; rfl, by omega⟩
          refine tn_getR (ci := 5) (i := 2) (n := 35) (x := x208) dX5_assignment_77 rfl lay_5 (by decide) fl5_47 ha rfl rfl (hx209) ?_
          refine tn_bipush dX5_assignment_80 (by decide) ?_
          refine tn_iload_n dX5_assignment_82 rfl 1 rfl ?_
          refine tn_iconst dX5_assignment_83 ?_
          refine tn_callV (M := m_X5_assignment) (pc := 84) (ix := 139) (ci := 1) (M' := m_X1_append) (As := [.int (iI 12), .int (iI v22), .int (iI 0)]) (rest := []) dX5_assignment_84 ok_X1_append im_X1_append se_X1_append ml5_139 np_X1_append rfl rfl hk210o rfl (Nat.le_of_ble_eq_true rfl) (Nat.le_of_ble_eq_true rfl) rfl (k_X1_append (d + 48) (T := T163) (σ := σ162) (a := x208) (k := 12) (x := v22) (y := 0) hk210o hk210 (by decide) (by omega) (by decide) w169 (RP.cnt rp172 w169 ha (hx209) (by omega)) (by omega)) (fun r212 T214 σ213 gt215 hp => ?_)
          obtain ⟨rfl, w218, F219, f216⟩ := hp
          obtain ⟨i220, es221, m222, lo223, rr224, fx225, fx225m⟩ := f166.1 (by omega)
          have fx225s : σ162.2.1 45 a ≤ (i220 : Int) := by rw [fx225.e45]; exact fx225m
          have rd226 : GR Sx [51, 23] jx 0 (bx) u0 [] i220 (0) (bx) u0 (0 + 1 + 0 + 0 + m222) ([(4, (tkS Sx jx).1, 0, (tkS Sx jx).2.2.2.2)] ++ es221) := GR.gg (l := [25]) (ms := []) [] rd65 rr224
          have fx227 : RDX σ213 a Sx nx i220 (es221.foldl uC (uC (cx) (4, (tkS Sx jx).1, 0, (tkS Sx jx).2.2.2.2))) (Nx + 1 - 1 + m222 + 1) := RDX.ap fx225 w169 ha (hx209) F219 f216
          replace ha : OB T214 a 5 := gt215.ob ha
          have rp228 : RP σ213 a (kp - 4 * v55 - 7 * v168 + 1 + 1) := RP.app rp172 (hx209) F219 (by decide) (by decide) (by decide) (by decide) f216
          have rp229 : RP σ213 a (kp - 4 * v55 - 7 * v168 + 2) := RP.up rp228 (by omega)
          show Tn _ _ 87 T214 σ213 [(2, .int (iI v168)), (1, .int (iI v22)), (0, .ref a)] [] _
          refine tn_aload_n dX5_assignment_87 rfl 2 rfl ?_
          obtain ⟨x230, hx231, hk232⟩ : ∃ x : Nat, σ213.2.1 35 a = (x : Int) ∧ (T214 x).1 = 31 := wf_35 w218 ha
          have hk232o : OB T214 x230 1 := ⟨by omega, by rw [hk232]; rfl, by omega⟩
          refine tn_getR (ci := 5) (i := 2) (n := 35) (x := x230) dX5_assignment_88 rfl lay_5 (by decide) fl5_47 ha rfl rfl (hx231) ?_
          refine tn_aload_n dX5_assignment_91 rfl 2 rfl ?_
          refine tn_getR (ci := 5) (i := 2) (n := 35) (x := x230) dX5_assignment_92 rfl lay_5 (by decide) fl5_47 ha rfl rfl (hx231) ?_
          refine tn_getI (ci := 1) (i := 1) (n := 6) (t := σ213.2.1 6 x230) dX5_assignment_95 rfl lay_1 (by decide) fl5_146 hk232o rfl rfl (rfl) ?_
          have g234 : ((0 : Int) ≤ σ213.2.1 6 x230 ∧ σ213.2.1 6 x230 ≤ 5000) ∧ ((T214 x230).1 = 50 → σ213.2.1 6 x230 ≤ 200) := wf_6 w218 hk232o
          have g234x := g234.2
          replace g234 := g234.1
          clear g234x
          refine tn_iconst dX5_assignment_98 ?_
          refine tn_isub dX5_assignment_99 ?_
          refine tn_iconst dX5_assignment_100 ?_
          refine tn_iload_n dX5_assignment_101 rfl 1 rfl ?_
          refine tn_callV (M := m_X5_assignment) (pc := 102) (ix := 210) (ci := 1) (M' := m_X1_setWhere) (As := [.int (iI ((σ213.2.1 6 x230) - 1)), .int (iI 2), .int (iI v22)]) (rest := []) dX5_assignment_102 ok_X1_setWhere im_X1_setWhere se_X1_setWhere ml5_210 np_X1_setWhere rfl rfl hk232o rfl (Nat.le_of_ble_eq_true rfl) (Nat.le_of_ble_eq_true rfl) rfl (k_X1_setWhere (d + 49) (T := T214) (σ := σ213) (a := x230) (k := (σ213.2.1 6 x230) - 1) (y := 2) (z := v22) hk232o (by omega) (by decide) (by omega) w218 ) (fun r235 T237 σ236 gt238 hp => ?_)
          obtain ⟨rfl, rfl, w240, F241⟩ := hp
          clear gt238
          have fx242 : RDX σ236 a Sx nx i220 (es221.foldl uC (uC (cx) (4, (tkS Sx jx).1, 0, (tkS Sx jx).2.2.2.2))) (Nx + 1 - 1 + m222 + 1) := RDX.fc fx227 w218 ha F241 (by decide) (by decide)
          have rp243 : RP σ236 a (kp - 4 * v55 - 7 * v168 + 2) := RP.frc rp229 F241 (by decide) (by decide) (by decide) (by decide) (by decide)
          show Tn _ _ 105 T214 σ236 [(2, .int (iI v168)), (1, .int (iI v22)), (0, .ref a)] [] _
          refine tn_iload_n dX5_assignment_105 rfl 0 rfl ?_
          have fe246 := RDX.nq (M := Nx + (0 + 1 + 0 + 0 + m222)) (RDX.cq (c2 := ([(4, (tkS Sx jx).1, 0, (tkS Sx jx).2.2.2.2)] ++ es221).foldl uC cx) fx242 (by simp only [List.foldl_append, List.foldl_cons, List.foldl_nil])) (by omega)
          have fe246m : (([(4, (tkS Sx jx).1, 0, (tkS Sx jx).2.2.2.2)] ++ es221).foldl uC cx).m = σ.2.1 45 a := (fe246.e45).symm.trans (rc_F F241 (Or.inl (by decide)) (by decide) (rc_F F219 (Or.inl (by decide)) (by decide) (rc_F F170 (Or.inl (by decide)) (by decide) (rc_F F57 (Or.inl (by decide)) (by decide) (rc_F F41 (Or.inl (by decide)) (by decide) (rc_F F24 (Or.inl (by decide)) (by decide) (rc_F F13 (Or.inl (by decide)) (by decide) (rfl))))))))
          have ra244 : YS σ236 a Sx nx bx [51, 23] jx cx (Nx) bx [] ((jx : Int) + 1) := ⟨i220, [(4, (tkS Sx jx).1, 0, (tkS Sx jx).2.2.2.2)] ++ es221, 0 + 1 + 0 + 0 + m222, (by omega), rd226, fe246, by rw [fe246m]; omega⟩
          exact tn_zret (v := v168) rfl (by omega) dX5_assignment_106 ⟨_, rfl, w240, (((((((FrC.rfl.trans (FrC.sub F13 (by decide))).trans (FrC.sub (FrC.old F24 gt9) (by decide))).trans (FrC.sub (FrC.old F41 gt9) (by decide))).trans (FrC.sub (FrC.old F57 gt9) (by decide))).trans (FrC.sub (FrC.old F170 gt9) (by decide))).trans (FrC.sub (FrC.old F219 (GT.trans gt9 gt164)) (by decide))).trans (FrC.sub (FrC.old F241 (GT.trans (GT.trans gt9 gt164) gt215)) (by decide))), by omega, ⟨fun _ => ra244, fun q => absurd q (by omega)⟩, (RP.up rp243 (by omega))⟩
      · refine tn_aload_n dX5_assignment_62 rfl 1 rfl ?_
        refine tn_iload_n dX5_assignment_63 rfl 0 rfl ?_
        have q42247 : (uC (cx) (4, (tkS Sx jx).1, 0, (tkS Sx jx).2.2.2.2)).cn = σ.2.1 42 a := (fx62.1.2.1.1.2.2.2.1).symm.trans (rc_F F57 (Or.inl (by decide)) (by decide) (rc_F F41 (Or.inl (by decide)) (by decide) (rc_F F24 (Or.inl (by decide)) (by decide) (rc_F F13 (Or.inl (by decide)) (by decide) (rfl)))))
        refine tn_callV (M := m_X5_assignment) (pc := 64) (ix := 204) (ci := 5) (M' := m_X5_call) (As := [.int (iI v22)]) (rest := []) dX5_assignment_64 ok_X5_call im_X5_call se_X5_call ml5_204 np_X5_call rfl rfl ha rfl (Nat.le_of_ble_eq_true rfl) (Nat.le_of_ble_eq_true rfl) rfl (k_X5_call_f (d) (T := T8) (σ := σ49) (a := a) (r := v22) (kp := kp - 4 * v55 + 1) (bx := bx) ha (by omega) w56 fx62 (by omega) (f158.1 (by omega)) (by rw [q42247]; omega) (by omega) rp59) (fun r248 T250 σ249 gt251 hp => ?_)
        obtain ⟨v255, rfl, w256, F257, f252, f253, f254⟩ := hp
        replace ha : OB T250 a 5 := gt251.ob ha
        have rp259 : RP σ249 a (kp - 4 * v55 - 7 * v255 + 1) := RP.up f254 (by omega)
        show Tn _ _ 67 T250 σ249 [(1, .int (iI v22)), (0, .ref a)] [.int (iI v255)] _
        rcases f252 with f252 | f252
        · refine tn_goto (tgt := 75) dX5_assignment_67 (by decide) ?_
          refine tn_istore_n (L' := [(2, .int (iI v255)), (1, .int (iI v22)), (0, .ref a)]) dX5_assignment_75 rfl (by decide) rfl ?_
          refine tn_aload_n dX5_assignment_76 rfl 2 rfl ?_
          obtain ⟨x260, hx261, hk262⟩ : ∃ x : Nat, σ249.2.1 35 a = (x : Int) ∧ (T250 x).1 = 31 := wf_35 w256 ha
          have hk262o : OB T250 x260 1 := ⟨by omega, by rw [hk262]; rfl, by omega⟩
          refine tn_getR (ci := 5) (i := 2) (n := 35) (x := x260) dX5_assignment_77 rfl lay_5 (by decide) fl5_47 ha rfl rfl (hx261) ?_
          refine tn_bipush dX5_assignment_80 (by decide) ?_
          refine tn_iload_n dX5_assignment_82 rfl 1 rfl ?_
          refine tn_iconst dX5_assignment_83 ?_
          refine tn_callV (M := m_X5_assignment) (pc := 84) (ix := 139) (ci := 1) (M' := m_X1_append) (As := [.int (iI 12), .int (iI v22), .int (iI 0)]) (rest := []) dX5_assignment_84 ok_X1_append im_X1_append se_X1_append ml5_139 np_X1_append rfl rfl hk262o rfl (Nat.le_of_ble_eq_true rfl) (Nat.le_of_ble_eq_true rfl) rfl (k_X1_append (d + 48) (T := T250) (σ := σ249) (a := x260) (k := 12) (x := v22) (y := 0) hk262o hk262 (by decide) (by omega) (by decide) w256 (RP.cnt rp259 w256 ha (hx261) (by omega)) (by omega)) (fun r264 T266 σ265 gt267 hp => ?_)
          obtain ⟨rfl, w270, F271, f268⟩ := hp
          obtain ⟨pl272, g273, fx274⟩ := f253.2 (by omega)
          have rf275 : GRF Sx [51, 23] jx 0 (bx) u0 (pl272) := GR.fl (l := [25]) [] rd65 g273
          have fx276 : FLC σ265 a (pl272) := FLC.fc fx274 F271 (by decide) (by decide)
          replace ha : OB T266 a 5 := gt267.ob ha
          have rp277 : RP σ265 a (kp - 4 * v55 - 7 * v255 + 1 + 1) := RP.app rp259 (hx261) F271 (by decide) (by decide) (by decide) (by decide) f268
          have rp278 : RP σ265 a (kp - 4 * v55 - 7 * v255 + 2) := RP.up rp277 (by omega)
          show Tn _ _ 87 T266 σ265 [(2, .int (iI v255)), (1, .int (iI v22)), (0, .ref a)] [] _
          refine tn_aload_n dX5_assignment_87 rfl 2 rfl ?_
          obtain ⟨x279, hx280, hk281⟩ : ∃ x : Nat, σ265.2.1 35 a = (x : Int) ∧ (T266 x).1 = 31 := wf_35 w270 ha
          have hk281o : OB T266 x279 1 := ⟨by omega, by rw [hk281]; rfl, by omega⟩
          refine tn_getR (ci := 5) (i := 2) (n := 35) (x := x279) dX5_assignment_88 rfl lay_5 (by decide) fl5_47 ha rfl rfl (hx280) ?_
          refine tn_aload_n dX5_assignment_91 rfl 2 rfl ?_
          refine tn_getR (ci := 5) (i := 2) (n := 35) (x := x279) dX5_assignment_92 rfl lay_5 (by decide) fl5_47 ha rfl rfl (hx280) ?_
          refine tn_getI (ci := 1) (i := 1) (n := 6) (t := σ265.2.1 6 x279) dX5_assignment_95 rfl lay_1 (by decide) fl5_146 hk281o rfl rfl (rfl) ?_
          have g283 : ((0 : Int) ≤ σ265.2.1 6 x279 ∧ σ265.2.1 6 x279 ≤ 5000) ∧ ((T266 x279).1 = 50 → σ265.2.1 6 x279 ≤ 200) := wf_6 w270 hk281o
          have g283x := g283.2
          replace g283 := g283.1
          clear g283x
          refine tn_iconst dX5_assignment_98 ?_
          refine tn_isub dX5_assignment_99 ?_
          refine tn_iconst dX5_assignment_100 ?_
          refine tn_iload_n dX5_assignment_101 rfl 1 rfl ?_
          refine tn_callV (M := m_X5_assignment) (pc := 102) (ix := 210) (ci := 1) (M' := m_X1_setWhere) (As := [.int (iI ((σ265.2.1 6 x279) - 1)), .int (iI 2), .int (iI v22)]) (rest := []) dX5_assignment_102 ok_X1_setWhere im_X1_setWhere se_X1_setWhere ml5_210 np_X1_setWhere rfl rfl hk281o rfl (Nat.le_of_ble_eq_true rfl) (Nat.le_of_ble_eq_true rfl) rfl (k_X1_setWhere (d + 49) (T := T266) (σ := σ265) (a := x279) (k := (σ265.2.1 6 x279) - 1) (y := 2) (z := v22) hk281o (by omega) (by decide) (by omega) w270 ) (fun r284 T286 σ285 gt287 hp => ?_)
          obtain ⟨rfl, rfl, w289, F290⟩ := hp
          clear gt287
          have fx291 : FLC σ285 a (pl272) := FLC.fc fx276 F290 (by decide) (by decide)
          have rp292 : RP σ285 a (kp - 4 * v55 - 7 * v255 + 2) := RP.frc rp278 F290 (by decide) (by decide) (by decide) (by decide) (by decide)
          show Tn _ _ 105 T266 σ285 [(2, .int (iI v255)), (1, .int (iI v22)), (0, .ref a)] [] _
          refine tn_iload_n dX5_assignment_105 rfl 0 rfl ?_
          have rb294 : YF σ285 a Sx bx [51, 23] jx := ⟨_, rf275, fx291⟩
          exact tn_zret (v := v255) rfl (by omega) dX5_assignment_106 ⟨_, rfl, w289, (((((((FrC.rfl.trans (FrC.sub F13 (by decide))).trans (FrC.sub (FrC.old F24 gt9) (by decide))).trans (FrC.sub (FrC.old F41 gt9) (by decide))).trans (FrC.sub (FrC.old F57 gt9) (by decide))).trans (FrC.sub (FrC.old F257 gt9) (by decide))).trans (FrC.sub (FrC.old F271 (GT.trans gt9 gt251)) (by decide))).trans (FrC.sub (FrC.old F290 (GT.trans (GT.trans gt9 gt251) gt267)) (by decide))), by omega, ⟨fun q => absurd q (by omega), fun _ => rb294⟩, (RP.up rp292 (by omega))⟩
        · refine tn_goto (tgt := 75) dX5_assignment_67 (by decide) ?_
          refine tn_istore_n (L' := [(2, .int (iI v255)), (1, .int (iI v22)), (0, .ref a)]) dX5_assignment_75 rfl (by decide) rfl ?_
          refine tn_aload_n dX5_assignment_76 rfl 2 rfl ?_
          obtain ⟨x295, hx296, hk297⟩ : ∃ x : Nat, σ249.2.1 35 a = (x : Int) ∧ (T250 x).1 = 31 := wf_35 w256 ha
          have hk297o : OB T250 x295 1 := ⟨by omega, by rw [hk297]; rfl, by omega⟩
          refine tn_getR (ci := 5) (i := 2) (n := 35) (x := x295) dX5_assignment_77 rfl lay_5 (by decide) fl5_47 ha rfl rfl (hx296) ?_
          refine tn_bipush dX5_assignment_80 (by decide) ?_
          refine tn_iload_n dX5_assignment_82 rfl 1 rfl ?_
          refine tn_iconst dX5_assignment_83 ?_
          refine tn_callV (M := m_X5_assignment) (pc := 84) (ix := 139) (ci := 1) (M' := m_X1_append) (As := [.int (iI 12), .int (iI v22), .int (iI 0)]) (rest := []) dX5_assignment_84 ok_X1_append im_X1_append se_X1_append ml5_139 np_X1_append rfl rfl hk297o rfl (Nat.le_of_ble_eq_true rfl) (Nat.le_of_ble_eq_true rfl) rfl (k_X1_append (d + 48) (T := T250) (σ := σ249) (a := x295) (k := 12) (x := v22) (y := 0) hk297o hk297 (by decide) (by omega) (by decide) w256 (RP.cnt rp259 w256 ha (hx296) (by omega)) (by omega)) (fun r299 T301 σ300 gt302 hp => ?_)
          obtain ⟨rfl, w305, F306, f303⟩ := hp
          obtain ⟨i307, es308, m309, lo310, rr311, fx312, fx312m⟩ := f253.1 (by omega)
          have fx312s : σ249.2.1 45 a ≤ (i307 : Int) := by rw [fx312.e45]; exact fx312m
          have rd313 : GR Sx [51, 23] jx 0 (bx) u0 [] i307 (0) (bx) u0 (0 + 1 + 0 + 0 + m309) ([(4, (tkS Sx jx).1, 0, (tkS Sx jx).2.2.2.2)] ++ es308) := GR.gg (l := [25]) (ms := []) [] rd65 rr311
          have fx314 : RDX σ300 a Sx nx i307 (es308.foldl uC (uC (cx) (4, (tkS Sx jx).1, 0, (tkS Sx jx).2.2.2.2))) (Nx + 1 - 1 + m309 + 1) := RDX.ap fx312 w256 ha (hx296) F306 f303
          replace ha : OB T301 a 5 := gt302.ob ha
          have rp315 : RP σ300 a (kp - 4 * v55 - 7 * v255 + 1 + 1) := RP.app rp259 (hx296) F306 (by decide) (by decide) (by decide) (by decide) f303
          have rp316 : RP σ300 a (kp - 4 * v55 - 7 * v255 + 2) := RP.up rp315 (by omega)
          show Tn _ _ 87 T301 σ300 [(2, .int (iI v255)), (1, .int (iI v22)), (0, .ref a)] [] _
          refine tn_aload_n dX5_assignment_87 rfl 2 rfl ?_
          obtain ⟨x317, hx318, hk319⟩ : ∃ x : Nat, σ300.2.1 35 a = (x : Int) ∧ (T301 x).1 = 31 := wf_35 w305 ha
          have hk319o : OB T301 x317 1 := ⟨by omega, by rw [hk319]; rfl, by omega⟩
          refine tn_getR (ci := 5) (i := 2) (n := 35) (x := x317) dX5_assignment_88 rfl lay_5 (by decide) fl5_47 ha rfl rfl (hx318) ?_
          refine tn_aload_n dX5_assignment_91 rfl 2 rfl ?_
          refine tn_getR (ci := 5) (i := 2) (n := 35) (x := x317) dX5_assignment_92 rfl lay_5 (by decide) fl5_47 ha rfl rfl (hx318) ?_
          refine tn_getI (ci := 1) (i := 1) (n := 6) (t := σ300.2.1 6 x317) dX5_assignment_95 rfl lay_1 (by decide) fl5_146 hk319o rfl rfl (rfl) ?_
          have g321 : ((0 : Int) ≤ σ300.2.1 6 x317 ∧ σ300.2.1 6 x317 ≤ 5000) ∧ ((T301 x317).1 = 50 → σ300.2.1 6 x317 ≤ 200) := wf_6 w305 hk319o
          have g321x := g321.2
          replace g321 := g321.1
          clear g321x
          refine tn_iconst dX5_assignment_98 ?_
          refine tn_isub dX5_assignment_99 ?_
          refine tn_iconst dX5_assignment_100 ?_
          refine tn_iload_n dX5_assignment_101 rfl 1 rfl ?_
          refine tn_callV (M := m_X5_assignment) (pc := 102) (ix := 210) (ci := 1) (M' := m_X1_setWhere) (As := [.int (iI ((σ300.2.1 6 x317) - 1)), .int (iI 2), .int (iI v22)]) (rest := []) dX5_assignment_102 ok_X1_setWhere im_X1_setWhere se_X1_setWhere ml5_210 np_X1_setWhere rfl rfl hk319o rfl (Nat.le_of_ble_eq_true rfl) (Nat.le_of_ble_eq_true rfl) rfl (k_X1_setWhere (d + 49) (T := T301) (σ := σ300) (a := x317) (k := (σ300.2.1 6 x317) - 1) (y := 2) (z := v22) hk319o (by omega) (by decide) (by omega) w305 ) (fun r322 T324 σ323 gt325 hp => ?_)
          obtain ⟨rfl, rfl, w327, F328⟩ := hp
          clear gt325
          have fx329 : RDX σ323 a Sx nx i307 (es308.foldl uC (uC (cx) (4, (tkS Sx jx).1, 0, (tkS Sx jx).2.2.2.2))) (Nx + 1 - 1 + m309 + 1) := RDX.fc fx314 w305 ha F328 (by decide) (by decide)
          have rp330 : RP σ323 a (kp - 4 * v55 - 7 * v255 + 2) := RP.frc rp316 F328 (by decide) (by decide) (by decide) (by decide) (by decide)
          show Tn _ _ 105 T301 σ323 [(2, .int (iI v255)), (1, .int (iI v22)), (0, .ref a)] [] _
          refine tn_iload_n dX5_assignment_105 rfl 0 rfl ?_
          have fe333 := RDX.nq (M := Nx + (0 + 1 + 0 + 0 + m309)) (RDX.cq (c2 := ([(4, (tkS Sx jx).1, 0, (tkS Sx jx).2.2.2.2)] ++ es308).foldl uC cx) fx329 (by simp only [List.foldl_append, List.foldl_cons, List.foldl_nil])) (by omega)
          have fe333m : (([(4, (tkS Sx jx).1, 0, (tkS Sx jx).2.2.2.2)] ++ es308).foldl uC cx).m = σ.2.1 45 a := (fe333.e45).symm.trans (rc_F F328 (Or.inl (by decide)) (by decide) (rc_F F306 (Or.inl (by decide)) (by decide) (rc_F F257 (Or.inl (by decide)) (by decide) (rc_F F57 (Or.inl (by decide)) (by decide) (rc_F F41 (Or.inl (by decide)) (by decide) (rc_F F24 (Or.inl (by decide)) (by decide) (rc_F F13 (Or.inl (by decide)) (by decide) (rfl))))))))
          have ra331 : YS σ323 a Sx nx bx [51, 23] jx cx (Nx) bx [] ((jx : Int) + 1) := ⟨i307, [(4, (tkS Sx jx).1, 0, (tkS Sx jx).2.2.2.2)] ++ es308, 0 + 1 + 0 + 0 + m309, (by omega), rd313, fe333, by rw [fe333m]; omega⟩
          exact tn_zret (v := v255) rfl (by omega) dX5_assignment_106 ⟨_, rfl, w327, (((((((FrC.rfl.trans (FrC.sub F13 (by decide))).trans (FrC.sub (FrC.old F24 gt9) (by decide))).trans (FrC.sub (FrC.old F41 gt9) (by decide))).trans (FrC.sub (FrC.old F57 gt9) (by decide))).trans (FrC.sub (FrC.old F257 gt9) (by decide))).trans (FrC.sub (FrC.old F306 (GT.trans gt9 gt251)) (by decide))).trans (FrC.sub (FrC.old F328 (GT.trans (GT.trans gt9 gt251) gt302)) (by decide))), by omega, ⟨fun _ => ra331, fun q => absurd q (by omega)⟩, (RP.up rp330 (by omega))⟩
  · refine tn_iconst dX5_assignment_35 ?_
    obtain ⟨kd336, fx337, tk338⟩ := f53.2 (by omega)
    have pc339 : GRF Sx [161] (jx + 1) (0) (bx) u0 (tkS Sx (jx + 1)).1 := z61 hSb kd336
    have rf340 : GRF Sx [51, 23] jx 0 (bx) u0 ((tkS Sx (jx + 1)).1) := GR.fl (l := [161]) [25] rd46 pc339
    have rb335 : YF σ49 a Sx bx [51, 23] jx := ⟨_, rf340, fx337⟩
    exact tn_zret (v := 0) rfl (by decide) dX5_assignment_36 ⟨_, rfl, w56, ((((FrC.rfl.trans (FrC.sub F13 (by decide))).trans (FrC.sub (FrC.old F24 gt9) (by decide))).trans (FrC.sub (FrC.old F41 gt9) (by decide))).trans (FrC.sub (FrC.old F57 gt9) (by decide))), by omega, ⟨fun q => absurd q (by decide), fun _ => rb335⟩, (RP.up rp59 (by omega))⟩
end
section
set_option maxHeartbeats 4000000 in
set_option maxRecDepth 20000 in
theorem k_X5_single_f (d : Nat) {T : CT} {σ : MS} {a : Nat} {k : Int} {kp : Int} {Sx : Int → Int} {nx jx : Nat} {cx : CS} {Nx : Int} {bx : Int} (ha : OB T a 5) (h_k : -2147483648 ≤ k ∧ k ≤ 2147483647) (hw : WT T σ) (hk : k ≠ 14 ∧ k ≠ 15) (hfx : RDX σ a Sx nx jx cx Nx) (hkd : ckd (tkS Sx jx) = 258 ∨ ckd (tkS Sx jx) = 259) (hkp : kp ≤ 140) (hrp : RP σ a kp) : Tn (d + 51) m_X5_single 0 T σ [(0, .ref a), (1, .int (iI k))] [] (fun ro T2 σ2 => ∃ v : Int, ro = some (.int (iI v)) ∧ WT T2 σ2 ∧ FrC T [5, 6, 7, 43, 44, 47, 50, 51, 84, 85, 86, 87, 521] σ σ2 ∧ (v = 0 ∨ v = 1) ∧ (YQ σ2 a Sx nx bx [51, 39] jx cx (Nx) 1 v) ∧ (RP σ2 a (kp + 1 - 7 * v))) := by
  have hSb := hfx.1.sb
  have e45 := hfx.e45
  have hpo9 := hfx.po
  unfold PO at hpo9
  refine tn_aload_n dX5_single_0 rfl 0 rfl ?_
  obtain ⟨x1, hx2, hk3⟩ : ∃ x : Nat, σ.2.1 35 a = (x : Int) ∧ (T x).1 = 31 := wf_35 hw ha
  have hk3o : OB T x1 1 := ⟨by omega, by rw [hk3]; rfl, by omega⟩
  refine tn_getR (ci := 5) (i := 2) (n := 35) (x := x1) dX5_single_1 rfl lay_5 (by decide) fl5_47 ha rfl rfl (hx2) ?_
  refine tn_bipush dX5_single_4 (by decide) ?_
  refine tn_aload_n dX5_single_6 rfl 0 rfl ?_
  refine tn_getI (ci := 5) (i := 12) (n := 45) (t := σ.2.1 45 a) dX5_single_7 rfl lay_5 (by decide) fl5_64 ha rfl rfl (rfl) ?_
  have g5 : ((-2147483648 : Int) ≤ σ.2.1 45 a ∧ σ.2.1 45 a ≤ 2147483647) := wf_45 hw ha
  refine tn_iconst dX5_single_10 ?_
  refine tn_callV (M := m_X5_single) (pc := 11) (ix := 139) (ci := 1) (M' := m_X1_append) (As := [.int (iI 11), .int (iI (σ.2.1 45 a)), .int (iI 0)]) (rest := []) dX5_single_11 ok_X1_append im_X1_append se_X1_append ml5_139 np_X1_append rfl rfl hk3o rfl (Nat.le_of_ble_eq_true rfl) (Nat.le_of_ble_eq_true rfl) rfl (k_X1_append (d + 47) (T := T) (σ := σ) (a := x1) (k := 11) (x := σ.2.1 45 a) (y := 0) hk3o hk3 (by decide) (by omega) (by decide) hw (RP.cnt hrp hw ha (hx2) (by omega)) (by omega)) (fun r6 T8 σ7 gt9 hp => ?_)
  obtain ⟨rfl, w12, F13, f10⟩ := hp
  have fx14 : RDX σ7 a Sx nx jx (cx) (Nx + 1) := RDX.ap hfx hw ha (hx2) F13 f10
  replace ha : OB T8 a 5 := gt9.ob ha
  have rp15 : RP σ7 a (kp + 1) := RP.app hrp (hx2) F13 (by decide) (by decide) (by decide) (by decide) f10
  show Tn _ _ 14 T8 σ7 [(0, .ref a), (1, .int (iI k))] [] _
  refine tn_aload_n dX5_single_14 rfl 0 rfl ?_
  obtain ⟨x16, hx17, hk18⟩ : ∃ x : Nat, σ7.2.1 33 a = (x : Int) ∧ (T8 x).1 = 39 := wf_33 w12 ha
  have hk18o : OB T8 x16 9 := ⟨by omega, by rw [hk18]; rfl, by omega⟩
  refine tn_getR (ci := 5) (i := 0) (n := 33) (x := x16) dX5_single_15 rfl lay_5 (by decide) fl5_12 ha rfl rfl (hx17) ?_
  refine tn_callV (M := m_X5_single) (pc := 18) (ix := 93) (ci := 9) (M' := m_X9_next) (As := []) (rest := []) dX5_single_18 ok_X9_next im_X9_next se_X9_next ml5_93 np_X9_next rfl rfl hk18o rfl (Nat.le_of_ble_eq_true rfl) (Nat.le_of_ble_eq_true rfl) rfl (k_X9_next_f (d + 49) (T := T8) (σ := σ7) (a := x16) hk18o w12 (RP.tk rp15 w12 ha (hx17)) ((fx14).1.tk (hx17)) (by rw [(fx14).1.kd (hx17)]; omega)) (fun r20 T22 σ21 gt23 hp => ?_)
  obtain ⟨rfl, rfl, w29, F30, f24, f25, f26, f27⟩ := hp
  clear gt23
  have pc32 : GR Sx [51] jx (0) (bx) u0 [] jx (0) (bx) u0 1 [] := x51 hSb 
  have rd330 : GR Sx [51, 39] jx 0 (bx) u0 [51, 39] jx (0) (bx) u0 (0) ([]) := GR.nl
  have rd33 : GR Sx [51, 39] jx 0 (bx) u0 [39] jx (0) (bx) u0 (0 + 1) ([]) := GR.g0 (l := [51]) (ms := []) [39] rd330 pc32
  have pc34 : GR Sx [39] jx (0) (bx) u0 [2, 51, 159] (jx + 1) (0) (bx) u0 0 [] := x39 hSb 
  have rd35 : GR Sx [51, 39] jx 0 (bx) u0 [2, 51, 159] (jx + 1) (0) (bx) u0 (0 + 1 + 0) ([]) := GR.g0 (l := [39]) (ms := [2, 51, 159]) [] rd33 pc34
  have fx31 : RDX σ21 a Sx nx (jx + 1) (cx) (Nx + 1) := RDX.nx fx14 w12 ha (hx17) F30 f27
  have rp36 : RP σ21 a (kp + 1) := RP.next rp15 (hx17) F30 (by decide) (by decide) (by decide) f24 f25
  show Tn _ _ 21 T8 σ21 [(0, .ref a), (1, .int (iI k))] [] _
  refine tn_aload_n dX5_single_21 rfl 0 rfl ?_
  refine tn_iconst dX5_single_22 ?_
  refine tn_callV (M := m_X5_single) (pc := 23) (ix := 213) (ci := 5) (M' := m_X5_expression) (As := [.int (iI 1)]) (rest := []) dX5_single_23 ok_X5_expression im_X5_expression se_X5_expression ml5_213 np_X5_expression rfl rfl ha rfl (Nat.le_of_ble_eq_true rfl) (Nat.le_of_ble_eq_true rfl) rfl (k_X5_expression_f (d) (T := T8) (σ := σ21) (a := a) (dp := 1) (kp := kp + 1) (eo := 0) ha (by decide) w29 (by omega) fx31 (by omega) (by omega) rp36) (fun r37 T39 σ38 gt40 hp => ?_)
  obtain ⟨v44, rfl, w45, F46, f41, f42, f43⟩ := hp
  replace ha : OB T39 a 5 := gt40.ob ha
  have rp48 : RP σ38 a (kp - 4 * v44 + 1) := RP.up f43 (by omega)
  show Tn _ _ 26 T39 σ38 [(0, .ref a), (1, .int (iI k))] [.int (iI v44)] _
  refine tn_if_eq (tgt := 38) dX5_single_26 (by decide) ⟨by omega, by omega⟩ (fun h49 => ?_) (fun h49 => ?_)
  · refine tn_iconst dX5_single_38 ?_
    obtain ⟨pl52, g53, fx54⟩ := f42.2 (by omega)
    have g53g := g53 (bx) u0
    have rf55 : GRF Sx [51, 39] jx 0 (bx) u0 (pl52) := GR.fl (l := [2]) [51, 159] rd35 g53g
    have rb51 : YF σ38 a Sx bx [51, 39] jx := ⟨_, rf55, fx54⟩
    exact tn_zret (v := 0) rfl (by decide) dX5_single_39 ⟨_, rfl, w45, (((FrC.rfl.trans (FrC.sub F13 (by decide))).trans (FrC.sub (FrC.old F30 gt9) (by decide))).trans (FrC.sub (FrC.old F46 gt9) (by decide))), by omega, ⟨fun q => absurd q (by decide), fun _ => rb51⟩, (RP.up rp48 (by omega))⟩
  · refine tn_aload_n dX5_single_29 rfl 0 rfl ?_
    refine tn_bipush dX5_single_30 (by decide) ?_
    obtain ⟨i56, es57, m58, lo59, rr60, fx61⟩ := f42.1 (by omega)
    have rr60g := rr60 (bx) u0
    have rd62a : GR Sx [51, 39] jx 0 (bx) u0 [51, 159] i56 (0) (bx) u0 (0 + 1 + 0 + m58) ([] ++ es57) := GR.gg (l := [2]) (ms := []) [51, 159] rd35 rr60g
    have rd62 : GR Sx [51, 39] jx 0 (bx) u0 [51, 159] i56 (0) (bx) u0 (0 + 1 + 0 + m58) (es57) := rd62a
    refine tn_callV (M := m_X5_single) (pc := 32) (ix := 102) (ci := 5) (M' := m_X5_taken) (As := [.int (iI 59)]) (rest := []) dX5_single_32 ok_X5_taken im_X5_taken se_X5_taken ml5_102 np_X5_taken rfl rfl ha rfl (Nat.le_of_ble_eq_true rfl) (Nat.le_of_ble_eq_true rfl) rfl (k_X5_taken_f (d + 48) (T := T39) (σ := σ38) (a := a) (s := 59) (kp := kp - 4 * v44 + 1) ha (by decide) w45 (by omega) fx61 (by omega) rp48) (fun r63 T65 σ64 gt66 hp => ?_)
    obtain ⟨v70, rfl, rfl, w71, F72, f67, f68, f69⟩ := hp
    clear gt66
    have pc73 : GR Sx [51] i56 (0) (bx) u0 [] i56 (0) (bx) u0 1 [] := x51 hSb 
    have rd74 : GR Sx [51, 39] jx 0 (bx) u0 [159] i56 (0) (bx) u0 (0 + 1 + 0 + m58 + 1) (es57) := GR.g0 (l := [51]) (ms := []) [159] rd62 pc73
    have rp76 : RP σ64 a (kp - 4 * v44 - 4 * v70 + 1) := RP.up f69 (by omega)
    show Tn _ _ 35 T39 σ64 [(0, .ref a), (1, .int (iI k))] [.int (iI v70)] _
    refine tn_if_ne (tgt := 40) dX5_single_35 (by decide) ⟨by omega, by omega⟩ (fun h77 => ?_) (fun h77 => ?_)
    · refine tn_aload_n dX5_single_40 rfl 0 rfl ?_
      obtain ⟨x78, hx79, hk80⟩ : ∃ x : Nat, σ38.2.1 35 a = (x : Int) ∧ (T39 x).1 = 31 := wf_35 w45 ha
      have hk80o : OB T39 x78 1 := ⟨by omega, by rw [hk80]; rfl, by omega⟩
      refine tn_getR (ci := 5) (i := 2) (n := 35) (x := x78) dX5_single_41 rfl lay_5 (by decide) fl5_47 ha rfl rfl (rc_F F72 (Or.inl (by decide)) (by decide) (hx79)) ?_
      refine tn_iload_n dX5_single_44 rfl 1 rfl ?_
      refine tn_iconst dX5_single_45 ?_
      refine tn_iconst dX5_single_46 ?_
      have q86 : σ64.2.1 6 x78 = σ38.2.1 6 x78 := rc_F F72 (Or.inl (by decide)) (by decide) (rfl)
      refine tn_callV (M := m_X5_single) (pc := 47) (ix := 139) (ci := 1) (M' := m_X1_append) (As := [.int (iI k), .int (iI 0), .int (iI 0)]) (rest := []) dX5_single_47 ok_X1_append im_X1_append se_X1_append ml5_139 np_X1_append rfl rfl hk80o rfl (Nat.le_of_ble_eq_true rfl) (Nat.le_of_ble_eq_true rfl) rfl (k_X1_append (d + 47) (T := T39) (σ := σ64) (a := x78) (k := k) (x := 0) (y := 0) hk80o hk80 (by omega) (by decide) (by decide) w71 (RP.cnt rp76 w71 ha (rc_F F72 (Or.inl (by decide)) (by decide) (hx79)) (by omega)) (by omega)) (fun r82 T84 σ83 gt85 hp => ?_)
      obtain ⟨rfl, w89, F90, f87⟩ := hp
      obtain ⟨kd92, fx91⟩ := f68.1 (by omega)
      have pc93 : GR Sx [159] i56 (0) (bx) u0 [] (i56 + 1) (0) (bx) u0 0 [] := y59 hSb kd92
      have rd94 : GR Sx [51, 39] jx 0 (bx) u0 [] (i56 + 1) (0) (bx) u0 (0 + 1 + 0 + m58 + 1 + 0) (es57) := GR.g0 (l := [159]) (ms := []) [] rd74 pc93
      have fx95 : RDX σ83 a Sx nx (i56 + 1) (es57.foldl uC (cx)) (Nx + 1 + m58 + 1) := RDX.ap fx91 w71 ha (rc_F F72 (Or.inl (by decide)) (by decide) (hx79)) F90 f87
      replace ha : OB T84 a 5 := gt85.ob ha
      have rp96 : RP σ83 a (kp - 4 * v44 - 4 * v70 + 1 + 1) := RP.app rp76 (rc_F F72 (Or.inl (by decide)) (by decide) (hx79)) F90 (by decide) (by decide) (by decide) (by decide) f87
      have rp97 : RP σ83 a (kp - 4 * v44 - 4 * v70 + 2) := RP.up rp96 (by omega)
      show Tn _ _ 50 T84 σ83 [(0, .ref a), (1, .int (iI k))] [] _
      refine tn_aload_n dX5_single_50 rfl 0 rfl ?_
      obtain ⟨x98, hx99, hk100⟩ : ∃ x : Nat, σ83.2.1 35 a = (x : Int) ∧ (T84 x).1 = 31 := wf_35 w89 ha
      have hk100o : OB T84 x98 1 := ⟨by omega, by rw [hk100]; rfl, by omega⟩
      refine tn_getR (ci := 5) (i := 2) (n := 35) (x := x98) dX5_single_51 rfl lay_5 (by decide) fl5_47 ha rfl rfl (hx99) ?_
      refine tn_iconst dX5_single_54 ?_
      refine tn_aload_n dX5_single_55 rfl 0 rfl ?_
      refine tn_getI (ci := 5) (i := 17) (n := 50) (t := σ83.2.1 50 a) dX5_single_56 rfl lay_5 (by decide) fl5_216 ha rfl rfl (rfl) ?_
      have g102 : ((-2147483648 : Int) ≤ σ83.2.1 50 a ∧ σ83.2.1 50 a ≤ 2147483647) := wf_50 w89 ha
      refine tn_aload_n dX5_single_59 rfl 0 rfl ?_
      refine tn_getI (ci := 5) (i := 18) (n := 51) (t := σ83.2.1 51 a) dX5_single_60 rfl lay_5 (by decide) fl5_219 ha rfl rfl (rfl) ?_
      have g103 : ((-2147483648 : Int) ≤ σ83.2.1 51 a ∧ σ83.2.1 51 a ≤ 2147483647) := wf_51 w89 ha
      refine tn_callV (M := m_X5_single) (pc := 63) (ix := 143) (ci := 1) (M' := m_X1_lastOperand) (As := [.int (iI 0), .int (iI (σ83.2.1 50 a)), .int (iI (σ83.2.1 51 a))]) (rest := []) dX5_single_63 ok_X1_lastOperand im_X1_lastOperand se_X1_lastOperand ml5_143 np_X1_lastOperand rfl rfl hk100o rfl (Nat.le_of_ble_eq_true rfl) (Nat.le_of_ble_eq_true rfl) rfl (k_X1_lastOperand (d + 49) (T := T84) (σ := σ83) (a := x98) (i := 0) (k := σ83.2.1 50 a) (y := σ83.2.1 51 a) hk100o (by decide) (by omega) (by omega) w89 ) (fun r104 T106 σ105 gt107 hp => ?_)
      obtain ⟨rfl, rfl, w109, F110⟩ := hp
      clear gt107
      have fx111 : RDX σ105 a Sx nx (i56 + 1) (es57.foldl uC (cx)) (Nx + 1 + m58 + 1) := RDX.fc fx95 w89 ha F110 (by decide) (by decide)
      have rp112 : RP σ105 a (kp - 4 * v44 - 4 * v70 + 2) := RP.frc rp97 F110 (by decide) (by decide) (by decide) (by decide) (by decide)
      show Tn _ _ 66 T84 σ105 [(0, .ref a), (1, .int (iI k))] [] _
      refine tn_iconst dX5_single_66 ?_
      have fe115 := RDX.nq (M := Nx + (0 + 1 + 0 + m58 + 1 + 0)) (RDX.cq (c2 := (es57).foldl uC cx) fx111 rfl) (by omega)
      have fe115m : ((es57).foldl uC cx).m = σ.2.1 45 a := (fe115.e45).symm.trans (rc_F F110 (Or.inl (by decide)) (by decide) (rc_F F90 (Or.inl (by decide)) (by decide) (rc_F F72 (Or.inl (by decide)) (by decide) (rc_F F46 (Or.inl (by decide)) (by decide) (rc_F F30 (Or.inl (by decide)) (by decide) (rc_F F13 (Or.inl (by decide)) (by decide) (rfl)))))))
      have ra113 : YS σ105 a Sx nx bx [51, 39] jx cx (Nx) bx [] ((jx : Int) + 1) := ⟨(i56 + 1), es57, 0 + 1 + 0 + m58 + 1 + 0, (by omega), rd94, fe115, by rw [fe115m]; omega⟩
      exact tn_zret (v := 1) rfl (by decide) dX5_single_67 ⟨_, rfl, w109, ((((((FrC.rfl.trans (FrC.sub F13 (by decide))).trans (FrC.sub (FrC.old F30 gt9) (by decide))).trans (FrC.sub (FrC.old F46 gt9) (by decide))).trans (FrC.sub (FrC.old F72 (GT.trans gt9 gt40)) (by decide))).trans (FrC.sub (FrC.old F90 (GT.trans gt9 gt40)) (by decide))).trans (FrC.sub (FrC.old F110 (GT.trans (GT.trans gt9 gt40) gt85)) (by decide))), by omega, ⟨fun _ => ra113, fun q => absurd q (by decide)⟩, (RP.up rp112 (by omega))⟩
    · refine tn_iconst dX5_single_38 ?_
      obtain ⟨kd118, fx119, tk120⟩ := f68.2 (by omega)
      have pc121 : GRF Sx [159] i56 (0) (bx) u0 (tkS Sx i56).1 := z59 hSb kd118
      have rf122 : GRF Sx [51, 39] jx 0 (bx) u0 ((tkS Sx i56).1) := GR.fl (l := [159]) [] rd74 pc121
      have rb117 : YF σ64 a Sx bx [51, 39] jx := ⟨_, rf122, fx119⟩
      exact tn_zret (v := 0) rfl (by decide) dX5_single_39 ⟨_, rfl, w71, ((((FrC.rfl.trans (FrC.sub F13 (by decide))).trans (FrC.sub (FrC.old F30 gt9) (by decide))).trans (FrC.sub (FrC.old F46 gt9) (by decide))).trans (FrC.sub (FrC.old F72 (GT.trans gt9 gt40)) (by decide))), by omega, ⟨fun q => absurd q (by decide), fun _ => rb117⟩, (RP.up rp76 (by omega))⟩
end
section
set_option maxHeartbeats 4000000 in
set_option maxRecDepth 20000 in
theorem k_X5_choice_f (d : Nat) {T : CT} {σ : MS} {a : Nat} {dp : Int} {kp : Int} {lv : Nat} {Sx : Int → Int} {nx jx : Nat} {cx : CS} {Nx : Int} {bx : Int} (ha : OB T a 5) (h_dp : -2147483648 ≤ dp ∧ dp ≤ 2147483647) (hw : WT T σ) (hex : ∀ (d : Nat) {T : CT} {σ : MS} {a : Nat} {dp : Int} {kp : Int} {Sx : Int → Int} {nx jx : Nat} {cx : CS} {Nx : Int} {bx : Int} (ha : OB T a 5) (h_dp : -2147483648 ≤ dp ∧ dp ≤ 2147483647) (hw : WT T σ) (hdp : 1 ≤ dp ∧ dp ≤ 7) (hlv : 7 ≤ dp + (lv : Int)) (hfx : RDX σ a Sx nx jx cx Nx) (hb : bx = dp - 1) (hm : cx.m ≤ (jx : Int)) (hkp : kp ≤ 140) (hrp : RP σ a kp), Tn (d + 3 * lv + 60) m_X5_block 0 T σ [(0, .ref a), (1, .int (iI dp))] [] (fun ro T2 σ2 => ∃ v : Int, ro = some (.int (iI v)) ∧ WT T2 σ2 ∧ FrC T [5, 6, 7, 9, 42, 43, 44, 45, 46, 47, 50, 51, 84, 85, 86, 87, 518, 519, 520, 521] σ σ2 ∧ (v = 0 ∨ v = 1) ∧ (YQ σ2 a Sx nx bx [28] jx cx (Nx) 2 v) ∧ (RP σ2 a (kp + 2 - 10 * v)))) (hdp : 1 ≤ dp ∧ dp ≤ 6) (hlv : 6 ≤ dp + (lv : Int)) (hfx : RDX σ a Sx nx jx cx Nx) (hb : bx = dp) (hkd : ckd (tkS Sx jx) = 260) (hkp : kp ≤ 140) (hrp : RP σ a kp) : Tn (d + 3 * lv + 61) m_X5_choice 0 T σ [(0, .ref a), (1, .int (iI dp))] [] (fun ro T2 σ2 => ∃ v : Int, ro = some (.int (iI v)) ∧ WT T2 σ2 ∧ FrC T [5, 6, 7, 9, 42, 43, 44, 45, 46, 47, 50, 51, 84, 85, 86, 87, 518, 519, 520, 521] σ σ2 ∧ (v = 0 ∨ v = 1) ∧ (YQ σ2 a Sx nx bx [51, 21] jx cx (Nx) 1 v) ∧ (RP σ2 a (kp + 1 - 10 * v))) := by
  have hSb := hfx.1.sb
  have e45 := hfx.e45
  have hpo9 := hfx.po
  unfold PO at hpo9
  refine tn_aload_n dX5_choice_0 rfl 0 rfl ?_
  obtain ⟨x1, hx2, hk3⟩ : ∃ x : Nat, σ.2.1 35 a = (x : Int) ∧ (T x).1 = 31 := wf_35 hw ha
  have hk3o : OB T x1 1 := ⟨by omega, by rw [hk3]; rfl, by omega⟩
  refine tn_getR (ci := 5) (i := 2) (n := 35) (x := x1) dX5_choice_1 rfl lay_5 (by decide) fl5_47 ha rfl rfl (hx2) ?_
  refine tn_bipush dX5_choice_4 (by decide) ?_
  refine tn_aload_n dX5_choice_6 rfl 0 rfl ?_
  refine tn_getI (ci := 5) (i := 12) (n := 45) (t := σ.2.1 45 a) dX5_choice_7 rfl lay_5 (by decide) fl5_64 ha rfl rfl (rfl) ?_
  have g5 : ((-2147483648 : Int) ≤ σ.2.1 45 a ∧ σ.2.1 45 a ≤ 2147483647) := wf_45 hw ha
  refine tn_iconst dX5_choice_10 ?_
  refine tn_callV (M := m_X5_choice) (pc := 11) (ix := 139) (ci := 1) (M' := m_X1_append) (As := [.int (iI 11), .int (iI (σ.2.1 45 a)), .int (iI 0)]) (rest := []) dX5_choice_11 ok_X1_append im_X1_append se_X1_append ml5_139 np_X1_append rfl rfl hk3o rfl (Nat.le_of_ble_eq_true rfl) (Nat.le_of_ble_eq_true rfl) rfl (k_X1_append (d + 3 * lv + 57) (T := T) (σ := σ) (a := x1) (k := 11) (x := σ.2.1 45 a) (y := 0) hk3o hk3 (by decide) (by omega) (by decide) hw (RP.cnt hrp hw ha (hx2) (by omega)) (by omega)) (fun r6 T8 σ7 gt9 hp => ?_)
  obtain ⟨rfl, w12, F13, f10⟩ := hp
  have fx14 : RDX σ7 a Sx nx jx (cx) (Nx + 1) := RDX.ap hfx hw ha (hx2) F13 f10
  replace ha : OB T8 a 5 := gt9.ob ha
  have rp15 : RP σ7 a (kp + 1) := RP.app hrp (hx2) F13 (by decide) (by decide) (by decide) (by decide) f10
  show Tn _ _ 14 T8 σ7 [(0, .ref a), (1, .int (iI dp))] [] _
  refine tn_aload_n dX5_choice_14 rfl 0 rfl ?_
  obtain ⟨x16, hx17, hk18⟩ : ∃ x : Nat, σ7.2.1 33 a = (x : Int) ∧ (T8 x).1 = 39 := wf_33 w12 ha
  have hk18o : OB T8 x16 9 := ⟨by omega, by rw [hk18]; rfl, by omega⟩
  refine tn_getR (ci := 5) (i := 0) (n := 33) (x := x16) dX5_choice_15 rfl lay_5 (by decide) fl5_12 ha rfl rfl (hx17) ?_
  refine tn_callV (M := m_X5_choice) (pc := 18) (ix := 93) (ci := 9) (M' := m_X9_next) (As := []) (rest := []) dX5_choice_18 ok_X9_next im_X9_next se_X9_next ml5_93 np_X9_next rfl rfl hk18o rfl (Nat.le_of_ble_eq_true rfl) (Nat.le_of_ble_eq_true rfl) rfl (k_X9_next_f (d + 3 * lv + 59) (T := T8) (σ := σ7) (a := x16) hk18o w12 (RP.tk rp15 w12 ha (hx17)) ((fx14).1.tk (hx17)) (by rw [(fx14).1.kd (hx17)]; omega)) (fun r20 T22 σ21 gt23 hp => ?_)
  obtain ⟨rfl, rfl, w29, F30, f24, f25, f26, f27⟩ := hp
  clear gt23
  have pc32 : GR Sx [51] jx (0) (bx) u0 [] jx (0) (bx) u0 1 [] := x51 hSb 
  have rd330 : GR Sx [51, 21] jx 0 (bx) u0 [51, 21] jx (0) (bx) u0 (0) ([]) := GR.nl
  have rd33 : GR Sx [51, 21] jx 0 (bx) u0 [21] jx (0) (bx) u0 (0 + 1) ([]) := GR.g0 (l := [51]) (ms := []) [21] rd330 pc32
  have pc34 : GR Sx [21] jx (0) (bx) u0 [2, 51, 28, 24] (jx + 1) (0) (bx) u0 0 [] := x21 hSb 
  have rd35 : GR Sx [51, 21] jx 0 (bx) u0 [2, 51, 28, 24] (jx + 1) (0) (bx) u0 (0 + 1 + 0) ([]) := GR.g0 (l := [21]) (ms := [2, 51, 28, 24]) [] rd33 pc34
  have fx31 : RDX σ21 a Sx nx (jx + 1) (cx) (Nx + 1) := RDX.nx fx14 w12 ha (hx17) F30 f27
  have rp36 : RP σ21 a (kp + 1) := RP.next rp15 (hx17) F30 (by decide) (by decide) (by decide) f24 f25
  show Tn _ _ 21 T8 σ21 [(0, .ref a), (1, .int (iI dp))] [] _
  refine tn_aload_n dX5_choice_21 rfl 0 rfl ?_
  refine tn_iconst dX5_choice_22 ?_
  refine tn_callV (M := m_X5_choice) (pc := 23) (ix := 213) (ci := 5) (M' := m_X5_expression) (As := [.int (iI 1)]) (rest := []) dX5_choice_23 ok_X5_expression im_X5_expression se_X5_expression ml5_213 np_X5_expression rfl rfl ha rfl (Nat.le_of_ble_eq_true rfl) (Nat.le_of_ble_eq_true rfl) rfl (k_X5_expression_f (d + 3 * lv + 10) (T := T8) (σ := σ21) (a := a) (dp := 1) (kp := kp + 1) (eo := 0) ha (by decide) w29 (by omega) fx31 (by omega) (by omega) rp36) (fun r37 T39 σ38 gt40 hp => ?_)
  obtain ⟨v44, rfl, w45, F46, f41, f42, f43⟩ := hp
  replace ha : OB T39 a 5 := gt40.ob ha
  have rp48 : RP σ38 a (kp - 4 * v44 + 1) := RP.up f43 (by omega)
  show Tn _ _ 26 T39 σ38 [(0, .ref a), (1, .int (iI dp))] [.int (iI v44)] _
  refine tn_if_ne (tgt := 31) dX5_choice_26 (by decide) ⟨by omega, by omega⟩ (fun h49 => ?_) (fun h49 => ?_)
  · refine tn_aload_n dX5_choice_31 rfl 0 rfl ?_
    obtain ⟨i50, es51, m52, lo53, rr54, fx55⟩ := f42.1 (by omega)
    have rr54g := rr54 (bx) u0
    have rd56a : GR Sx [51, 21] jx 0 (bx) u0 [51, 28, 24] i50 (0) (bx) u0 (0 + 1 + 0 + m52) ([] ++ es51) := GR.gg (l := [2]) (ms := []) [51, 28, 24] rd35 rr54g
    have rd56 : GR Sx [51, 21] jx 0 (bx) u0 [51, 28, 24] i50 (0) (bx) u0 (0 + 1 + 0 + m52) (es51) := rd56a
    refine tn_callV (M := m_X5_choice) (pc := 32) (ix := 235) (ci := 5) (M' := m_X5_zeroToNew) (As := []) (rest := []) dX5_choice_32 ok_X5_zeroToNew im_X5_zeroToNew se_X5_zeroToNew ml5_235 np_X5_zeroToNew rfl rfl ha rfl (Nat.le_of_ble_eq_true rfl) (Nat.le_of_ble_eq_true rfl) rfl (k_X5_zeroToNew_f (d + 3 * lv + 56) (T := T39) (σ := σ38) (a := a) (kp := kp - 4 * v44 + 1) ha w45 fx55 (by omega) rp48) (fun r57 T59 σ58 gt60 hp => ?_)
    obtain ⟨v64, rfl, w65, F66, f61, f62, f63⟩ := hp
    replace ha : OB T59 a 5 := gt60.ob ha
    have rp68 : RP σ58 a (kp - 4 * v44 + 2) := RP.up f63 (by omega)
    show Tn _ _ 35 T59 σ58 [(0, .ref a), (1, .int (iI dp))] [.int (iI v64)] _
    refine tn_istore_n (L' := [(2, .int (iI v64)), (0, .ref a), (1, .int (iI dp))]) dX5_choice_35 rfl (by decide) rfl ?_
    refine tn_aload_n dX5_choice_36 rfl 1 rfl ?_
    refine tn_iload_n dX5_choice_37 rfl 2 rfl ?_
    refine tn_iconst dX5_choice_38 ?_
    refine tn_iadd dX5_choice_39 ?_
    have q4569 : (es51.foldl uC (cx)).m = σ.2.1 45 a := (f62.e45).symm.trans (rc_F F66 (Or.inl (by decide)) (by decide) (rc_F F46 (Or.inl (by decide)) (by decide) (rc_F F30 (Or.inl (by decide)) (by decide) (rc_F F13 (Or.inl (by decide)) (by decide) (rfl)))))
    have pc70 : GR Sx [51] i50 (0) (bx) u0 [] i50 (0) (bx) u0 1 [] := x51 hSb 
    have rd71 : GR Sx [51, 21] jx 0 (bx) u0 [28, 24] i50 (0) (bx) u0 (0 + 1 + 0 + m52 + 1) (es51) := GR.g0 (l := [51]) (ms := []) [28, 24] rd56 pc70
    refine tn_callV (M := m_X5_choice) (pc := 40) (ix := 79) (ci := 5) (M' := m_X5_block) (As := [.int (iI (dp + 1))]) (rest := []) dX5_choice_40 ok_X5_block im_X5_block se_X5_block ml5_79 np_X5_block rfl rfl ha rfl (Nat.le_of_ble_eq_true rfl) (Nat.le_of_ble_eq_true rfl) rfl (hex (d) (T := T59) (σ := σ58) (a := a) (dp := dp + 1) (kp := kp - 4 * v44 + 2) (bx := bx) ha (by omega) w65 (by omega) (by omega) f62 (by omega) (by rw [q4569]; omega) (by omega) rp68) (fun r72 T74 σ73 gt75 hp => ?_)
    obtain ⟨v79, rfl, w80, F81, f76, f77, f78⟩ := hp
    replace ha : OB T74 a 5 := gt75.ob ha
    have rp83 : RP σ73 a (kp - 4 * v44 - 10 * v79 + 4) := RP.up f78 (by omega)
    show Tn _ _ 43 T74 σ73 [(2, .int (iI v64)), (0, .ref a), (1, .int (iI dp))] [.int (iI v79)] _
    refine tn_if_ne (tgt := 48) dX5_choice_43 (by decide) ⟨by omega, by omega⟩ (fun h84 => ?_) (fun h84 => ?_)
    · refine tn_aload_n dX5_choice_48 rfl 1 rfl ?_
      obtain ⟨x85, hx86, hk87⟩ : ∃ x : Nat, σ73.2.1 33 a = (x : Int) ∧ (T74 x).1 = 39 := wf_33 w80 ha
      have hk87o : OB T74 x85 9 := ⟨by omega, by rw [hk87]; rfl, by omega⟩
      refine tn_getR (ci := 5) (i := 0) (n := 33) (x := x85) dX5_choice_49 rfl lay_5 (by decide) fl5_12 ha rfl rfl (hx86) ?_
      refine tn_getI (ci := 9) (i := 4) (n := 85) (t := σ73.2.1 85 x85) dX5_choice_52 rfl lay_9 (by decide) fl5_71 hk87o rfl rfl (rfl) ?_
      have g89 : ((-2147483648 : Int) ≤ σ73.2.1 85 x85 ∧ σ73.2.1 85 x85 ≤ 2147483647) := wf_85 w80 hk87o
      obtain ⟨i90, es91, m92, lo93, rr94, fx95, fx95m⟩ := f77.1 (by omega)
      have fx95s : σ73.2.1 45 a ≤ (i90 : Int) := by rw [fx95.e45]; exact fx95m
      have rd96 : GR Sx [51, 21] jx 0 (bx) u0 [24] i90 (0) (bx) u0 (0 + 1 + 0 + m52 + 1 + m92) (es51 ++ es91) := GR.gg (l := [28]) (ms := []) [24] rd71 rr94
      have g89kd : σ73.2.1 85 x85 = ckd (tkS Sx i90) := (rfl).symm.trans ((fx95).1.kd (hx86))
      refine tn_sipush dX5_choice_55 (by decide) ?_
      refine tn_icmp_eq (tgt := 74) dX5_choice_58 (by decide) ⟨by omega, by omega⟩ ⟨by decide, by decide⟩ (fun h97 => ?_) (fun h97 => ?_)
      · refine tn_aload_n dX5_choice_74 rfl 1 rfl ?_
        refine tn_callV (M := m_X5_choice) (pc := 75) (ix := 238) (ci := 5) (M' := m_X5_newLabel) (As := []) (rest := []) dX5_choice_75 ok_X5_newLabel im_X5_newLabel se_X5_newLabel ml5_238 np_X5_newLabel rfl rfl ha rfl (Nat.le_of_ble_eq_true rfl) (Nat.le_of_ble_eq_true rfl) rfl (k_X5_newLabel (d + 3 * lv + 59) (T := T74) (σ := σ73) (a := a) ha w80 ) (fun r98 T100 σ99 gt101 hp => ?_)
        obtain ⟨v103, rfl, rfl, w104, F105, f102⟩ := hp
        clear gt101
        have fx106 : RDX σ99 a Sx nx i90 (es91.foldl uC (es51.foldl uC (cx))) (Nx + 1 + m52 + 1 + m92) := RDX.fc fx95 w80 ha F105 (by decide) (by decide)
        have rp107 : RP σ99 a (kp - 4 * v44 - 10 * v79 + 4) := RP.frc rp83 F105 (by decide) (by decide) (by decide) (by decide) (by decide)
        show Tn _ _ 78 T74 σ99 [(2, .int (iI v64)), (0, .ref a), (1, .int (iI dp))] [.int (iI v103)] _
        refine tn_istore_n (L' := [(3, .int (iI v103)), (2, .int (iI v64)), (0, .ref a), (1, .int (iI dp))]) dX5_choice_78 rfl (by decide) rfl ?_
        refine tn_aload_n dX5_choice_79 rfl 2 rfl ?_
        obtain ⟨x108, hx109, hk110⟩ : ∃ x : Nat, σ73.2.1 35 a = (x : Int) ∧ (T74 x).1 = 31 := wf_35 w80 ha
        have hk110o : OB T74 x108 1 := ⟨by omega, by rw [hk110]; rfl, by omega⟩
        refine tn_getR (ci := 5) (i := 2) (n := 35) (x := x108) dX5_choice_80 rfl lay_5 (by decide) fl5_47 ha rfl rfl (rc_F F105 (Or.inl (by decide)) (by decide) (hx109)) ?_
        refine tn_bipush dX5_choice_83 (by decide) ?_
        refine tn_iload_n dX5_choice_85 rfl 0 rfl ?_
        refine tn_iconst dX5_choice_86 ?_
        have q116 : σ99.2.1 6 x108 = σ73.2.1 6 x108 := rc_F F105 (Or.inl (by decide)) (by decide) (rfl)
        refine tn_callV (M := m_X5_choice) (pc := 87) (ix := 139) (ci := 1) (M' := m_X1_append) (As := [.int (iI 8), .int (iI v103), .int (iI 0)]) (rest := []) dX5_choice_87 ok_X1_append im_X1_append se_X1_append ml5_139 np_X1_append rfl rfl hk110o rfl (Nat.le_of_ble_eq_true rfl) (Nat.le_of_ble_eq_true rfl) rfl (k_X1_append (d + 3 * lv + 57) (T := T74) (σ := σ99) (a := x108) (k := 8) (x := v103) (y := 0) hk110o hk110 (by decide) (by omega) (by decide) w104 (RP.cnt rp107 w104 ha (rc_F F105 (Or.inl (by decide)) (by decide) (hx109)) (by omega)) (by omega)) (fun r112 T114 σ113 gt115 hp => ?_)
        obtain ⟨rfl, w119, F120, f117⟩ := hp
        have fx121 : RDX σ113 a Sx nx i90 (es91.foldl uC (es51.foldl uC (cx))) (Nx + 1 + m52 + 1 + m92 + 1) := RDX.ap fx106 w104 ha (rc_F F105 (Or.inl (by decide)) (by decide) (hx109)) F120 f117
        replace ha : OB T114 a 5 := gt115.ob ha
        have rp122 : RP σ113 a (kp - 4 * v44 - 10 * v79 + 4 + 1) := RP.app rp107 (rc_F F105 (Or.inl (by decide)) (by decide) (hx109)) F120 (by decide) (by decide) (by decide) (by decide) f117
        have rp123 : RP σ113 a (kp - 4 * v44 - 10 * v79 + 5) := RP.up rp122 (by omega)
        show Tn _ _ 90 T114 σ113 [(3, .int (iI v103)), (2, .int (iI v64)), (0, .ref a), (1, .int (iI dp))] [] _
        refine tn_aload_n dX5_choice_90 rfl 2 rfl ?_
        obtain ⟨x124, hx125, hk126⟩ : ∃ x : Nat, σ113.2.1 35 a = (x : Int) ∧ (T114 x).1 = 31 := wf_35 w119 ha
        have hk126o : OB T114 x124 1 := ⟨by omega, by rw [hk126]; rfl, by omega⟩
        refine tn_getR (ci := 5) (i := 2) (n := 35) (x := x124) dX5_choice_91 rfl lay_5 (by decide) fl5_47 ha rfl rfl (hx125) ?_
        refine tn_bipush dX5_choice_94 (by decide) ?_
        refine tn_iload_n dX5_choice_96 rfl 1 rfl ?_
        refine tn_iconst dX5_choice_97 ?_
        refine tn_callV (M := m_X5_choice) (pc := 98) (ix := 139) (ci := 1) (M' := m_X1_append) (As := [.int (iI 13), .int (iI v64), .int (iI 0)]) (rest := []) dX5_choice_98 ok_X1_append im_X1_append se_X1_append ml5_139 np_X1_append rfl rfl hk126o rfl (Nat.le_of_ble_eq_true rfl) (Nat.le_of_ble_eq_true rfl) rfl (k_X1_append (d + 3 * lv + 57) (T := T114) (σ := σ113) (a := x124) (k := 13) (x := v64) (y := 0) hk126o hk126 (by decide) (by omega) (by decide) w119 (RP.cnt rp123 w119 ha (hx125) (by omega)) (by omega)) (fun r128 T130 σ129 gt131 hp => ?_)
        obtain ⟨rfl, w134, F135, f132⟩ := hp
        have fx136 : RDX σ129 a Sx nx i90 (es91.foldl uC (es51.foldl uC (cx))) (Nx + 1 + m52 + 1 + m92 + 1 + 1) := RDX.ap fx121 w119 ha (hx125) F135 f132
        replace ha : OB T130 a 5 := gt131.ob ha
        have rp137 : RP σ129 a (kp - 4 * v44 - 10 * v79 + 5 + 1) := RP.app rp123 (hx125) F135 (by decide) (by decide) (by decide) (by decide) f132
        have rp138 : RP σ129 a (kp - 4 * v44 - 10 * v79 + 6) := RP.up rp137 (by omega)
        show Tn _ _ 101 T130 σ129 [(3, .int (iI v103)), (2, .int (iI v64)), (0, .ref a), (1, .int (iI dp))] [] _
        refine tn_aload_n dX5_choice_101 rfl 2 rfl ?_
        obtain ⟨x139, hx140, hk141⟩ : ∃ x : Nat, σ129.2.1 33 a = (x : Int) ∧ (T130 x).1 = 39 := wf_33 w134 ha
        have hk141o : OB T130 x139 9 := ⟨by omega, by rw [hk141]; rfl, by omega⟩
        refine tn_getR (ci := 5) (i := 0) (n := 33) (x := x139) dX5_choice_102 rfl lay_5 (by decide) fl5_12 ha rfl rfl (hx140) ?_
        refine tn_callV (M := m_X5_choice) (pc := 105) (ix := 93) (ci := 9) (M' := m_X9_next) (As := []) (rest := []) dX5_choice_105 ok_X9_next im_X9_next se_X9_next ml5_93 np_X9_next rfl rfl hk141o rfl (Nat.le_of_ble_eq_true rfl) (Nat.le_of_ble_eq_true rfl) rfl (k_X9_next_f (d + 3 * lv + 59) (T := T130) (σ := σ129) (a := x139) hk141o w134 (RP.tk rp138 w134 ha (hx140)) ((fx136).1.tk (hx140)) (by rw [(fx136).1.kd (hx140)]; omega)) (fun r143 T145 σ144 gt146 hp => ?_)
        obtain ⟨rfl, rfl, w152, F153, f147, f148, f149, f150⟩ := hp
        clear gt146
        have pc155 : GR Sx [24] i90 (0) (bx) u0 [52, 28, 51] (i90 + 1) (0) (bx) u0 0 [] := x24y hSb (by omega)
        have rd156 : GR Sx [51, 21] jx 0 (bx) u0 [52, 28, 51] (i90 + 1) (0) (bx) u0 (0 + 1 + 0 + m52 + 1 + m92 + 0) (es51 ++ es91) := GR.g0 (l := [24]) (ms := [52, 28, 51]) [] rd96 pc155
        have fx154 : RDX σ144 a Sx nx (i90 + 1) (es91.foldl uC (es51.foldl uC (cx))) (Nx + 1 + m52 + 1 + m92 + 1 + 1) := RDX.nx fx136 w134 ha (hx140) F153 f150
        have rp157 : RP σ144 a (kp - 4 * v44 - 10 * v79 + 6) := RP.next rp138 (hx140) F153 (by decide) (by decide) (by decide) f147 f148
        show Tn _ _ 108 T130 σ144 [(3, .int (iI v103)), (2, .int (iI v64)), (0, .ref a), (1, .int (iI dp))] [] _
        refine tn_aload_n dX5_choice_108 rfl 2 rfl ?_
        refine tn_iload_n dX5_choice_109 rfl 3 rfl ?_
        refine tn_iconst dX5_choice_110 ?_
        refine tn_iadd dX5_choice_111 ?_
        have q45158 : (es91.foldl uC (es51.foldl uC (cx))).m = σ73.2.1 45 a := (fx154.e45).symm.trans (rc_F F153 (Or.inl (by decide)) (by decide) (rc_F F135 (Or.inl (by decide)) (by decide) (rc_F F120 (Or.inl (by decide)) (by decide) (rc_F F105 (Or.inl (by decide)) (by decide) (rfl)))))
        have pc159 : GR Sx [52] (i90 + 1) (0) (bx) u0 [] (i90 + 1) (0) (bx) u0 2 [] := x52 hSb 
        have rd160 : GR Sx [51, 21] jx 0 (bx) u0 [28, 51] (i90 + 1) (0) (bx) u0 (0 + 1 + 0 + m52 + 1 + m92 + 0 + 2) (es51 ++ es91) := GR.g0 (l := [52]) (ms := []) [28, 51] rd156 pc159
        refine tn_callV (M := m_X5_choice) (pc := 112) (ix := 79) (ci := 5) (M' := m_X5_block) (As := [.int (iI (dp + 1))]) (rest := []) dX5_choice_112 ok_X5_block im_X5_block se_X5_block ml5_79 np_X5_block rfl rfl ha rfl (Nat.le_of_ble_eq_true rfl) (Nat.le_of_ble_eq_true rfl) rfl (hex (d) (T := T130) (σ := σ144) (a := a) (dp := dp + 1) (kp := kp - 4 * v44 - 10 * v79 + 6) (bx := bx) ha (by omega) w152 (by omega) (by omega) fx154 (by omega) (by rw [q45158]; omega) (by omega) rp157) (fun r161 T163 σ162 gt164 hp => ?_)
        obtain ⟨v168, rfl, w169, F170, f165, f166, f167⟩ := hp
        replace ha : OB T163 a 5 := gt164.ob ha
        have rp172 : RP σ162 a (kp - 4 * v44 - 10 * v79 - 10 * v168 + 8) := RP.up f167 (by omega)
        show Tn _ _ 115 T163 σ162 [(3, .int (iI v103)), (2, .int (iI v64)), (0, .ref a), (1, .int (iI dp))] [.int (iI v168)] _
        refine tn_if_ne (tgt := 120) dX5_choice_115 (by decide) ⟨by omega, by omega⟩ (fun h173 => ?_) (fun h173 => ?_)
        · refine tn_aload_n dX5_choice_120 rfl 2 rfl ?_
          obtain ⟨x174, hx175, hk176⟩ : ∃ x : Nat, σ162.2.1 35 a = (x : Int) ∧ (T163 x).1 = 31 := wf_35 w169 ha
          have hk176o : OB T163 x174 1 := ⟨by omega, by rw [hk176]; rfl, by omega⟩
          refine tn_getR (ci := 5) (i := 2) (n := 35) (x := x174) dX5_choice_121 rfl lay_5 (by decide) fl5_47 ha rfl rfl (hx175) ?_
          refine tn_bipush dX5_choice_124 (by decide) ?_
          refine tn_iload_n dX5_choice_126 rfl 0 rfl ?_
          refine tn_iconst dX5_choice_127 ?_
          refine tn_callV (M := m_X5_choice) (pc := 128) (ix := 139) (ci := 1) (M' := m_X1_append) (As := [.int (iI 13), .int (iI v103), .int (iI 0)]) (rest := []) dX5_choice_128 ok_X1_append im_X1_append se_X1_append ml5_139 np_X1_append rfl rfl hk176o rfl (Nat.le_of_ble_eq_true rfl) (Nat.le_of_ble_eq_true rfl) rfl (k_X1_append (d + 3 * lv + 57) (T := T163) (σ := σ162) (a := x174) (k := 13) (x := v103) (y := 0) hk176o hk176 (by decide) (by omega) (by decide) w169 (RP.cnt rp172 w169 ha (hx175) (by omega)) (by omega)) (fun r178 T180 σ179 gt181 hp => ?_)
          obtain ⟨rfl, w184, F185, f182⟩ := hp
          obtain ⟨i186, es187, m188, lo189, rr190, fx191, fx191m⟩ := f166.1 (by omega)
          have fx191s : σ162.2.1 45 a ≤ (i186 : Int) := by rw [fx191.e45]; exact fx191m
          have rd192 : GR Sx [51, 21] jx 0 (bx) u0 [51] i186 (0) (bx) u0 (0 + 1 + 0 + m52 + 1 + m92 + 0 + 2 + m188) (es51 ++ es91 ++ es187) := GR.gg (l := [28]) (ms := []) [51] rd160 rr190
          have fx193 : RDX σ179 a Sx nx i186 (es187.foldl uC (es91.foldl uC (es51.foldl uC (cx)))) (Nx + 1 + m52 + 1 + m92 + 1 + 1 + m188 + 1) := RDX.ap fx191 w169 ha (hx175) F185 f182
          replace ha : OB T180 a 5 := gt181.ob ha
          have rp194 : RP σ179 a (kp - 4 * v44 - 10 * v79 - 10 * v168 + 8 + 1) := RP.app rp172 (hx175) F185 (by decide) (by decide) (by decide) (by decide) f182
          have rp195 : RP σ179 a (kp - 4 * v44 - 10 * v79 - 10 * v168 + 9) := RP.up rp194 (by omega)
          show Tn _ _ 131 T180 σ179 [(3, .int (iI v103)), (2, .int (iI v64)), (0, .ref a), (1, .int (iI dp))] [] _
          refine tn_iconst dX5_choice_131 ?_
          have pc198 : GR Sx [51] i186 (0) (bx) u0 [] i186 (0) (bx) u0 1 [] := x51 hSb 
          have rd199 : GR Sx [51, 21] jx 0 (bx) u0 [] i186 (0) (bx) u0 (0 + 1 + 0 + m52 + 1 + m92 + 0 + 2 + m188 + 1) (es51 ++ es91 ++ es187) := GR.g0 (l := [51]) (ms := []) [] rd192 pc198
          have fe200 := RDX.nq (M := Nx + (0 + 1 + 0 + m52 + 1 + m92 + 0 + 2 + m188 + 1)) (RDX.cq (c2 := (es51 ++ es91 ++ es187).foldl uC cx) fx193 (by simp only [List.foldl_append, List.foldl_cons, List.foldl_nil])) (by omega)
          have fe200m : ((es51 ++ es91 ++ es187).foldl uC cx).m = σ162.2.1 45 a := (fe200.e45).symm.trans (rc_F F185 (Or.inl (by decide)) (by decide) (rfl))
          have ra196 : YS σ179 a Sx nx bx [51, 21] jx cx (Nx) bx [] ((jx : Int) + 1) := ⟨i186, es51 ++ es91 ++ es187, 0 + 1 + 0 + m52 + 1 + m92 + 0 + 2 + m188 + 1, (by omega), rd199, fe200, by rw [fe200m]; omega⟩
          exact tn_zret (v := 1) rfl (by decide) dX5_choice_132 ⟨_, rfl, w184, (((((((((((FrC.rfl.trans (FrC.sub F13 (by decide))).trans (FrC.sub (FrC.old F30 gt9) (by decide))).trans (FrC.sub (FrC.old F46 gt9) (by decide))).trans (FrC.sub (FrC.old F66 (GT.trans gt9 gt40)) (by decide))).trans (FrC.sub (FrC.old F81 (GT.trans (GT.trans gt9 gt40) gt60)) (by decide))).trans (FrC.sub (FrC.old F105 (GT.trans (GT.trans (GT.trans gt9 gt40) gt60) gt75)) (by decide))).trans (FrC.sub (FrC.old F120 (GT.trans (GT.trans (GT.trans gt9 gt40) gt60) gt75)) (by decide))).trans (FrC.sub (FrC.old F135 (GT.trans (GT.trans (GT.trans (GT.trans gt9 gt40) gt60) gt75) gt115)) (by decide))).trans (FrC.sub (FrC.old F153 (GT.trans (GT.trans (GT.trans (GT.trans (GT.trans gt9 gt40) gt60) gt75) gt115) gt131)) (by decide))).trans (FrC.sub (FrC.old F170 (GT.trans (GT.trans (GT.trans (GT.trans (GT.trans gt9 gt40) gt60) gt75) gt115) gt131)) (by decide))).trans (FrC.sub (FrC.old F185 (GT.trans (GT.trans (GT.trans (GT.trans (GT.trans (GT.trans gt9 gt40) gt60) gt75) gt115) gt131) gt164)) (by decide))), by omega, ⟨fun _ => ra196, fun q => absurd q (by decide)⟩, (RP.up rp195 (by omega))⟩
        · refine tn_iconst dX5_choice_118 ?_
          obtain ⟨pl203, g204, fx205⟩ := f166.2 (by omega)
          have rf206 : GRF Sx [51, 21] jx 0 (bx) u0 (pl203) := GR.fl (l := [28]) [51] rd160 g204
          have rb202 : YF σ162 a Sx bx [51, 21] jx := ⟨_, rf206, fx205⟩
          exact tn_zret (v := 0) rfl (by decide) dX5_choice_119 ⟨_, rfl, w169, ((((((((((FrC.rfl.trans (FrC.sub F13 (by decide))).trans (FrC.sub (FrC.old F30 gt9) (by decide))).trans (FrC.sub (FrC.old F46 gt9) (by decide))).trans (FrC.sub (FrC.old F66 (GT.trans gt9 gt40)) (by decide))).trans (FrC.sub (FrC.old F81 (GT.trans (GT.trans gt9 gt40) gt60)) (by decide))).trans (FrC.sub (FrC.old F105 (GT.trans (GT.trans (GT.trans gt9 gt40) gt60) gt75)) (by decide))).trans (FrC.sub (FrC.old F120 (GT.trans (GT.trans (GT.trans gt9 gt40) gt60) gt75)) (by decide))).trans (FrC.sub (FrC.old F135 (GT.trans (GT.trans (GT.trans (GT.trans gt9 gt40) gt60) gt75) gt115)) (by decide))).trans (FrC.sub (FrC.old F153 (GT.trans (GT.trans (GT.trans (GT.trans (GT.trans gt9 gt40) gt60) gt75) gt115) gt131)) (by decide))).trans (FrC.sub (FrC.old F170 (GT.trans (GT.trans (GT.trans (GT.trans (GT.trans gt9 gt40) gt60) gt75) gt115) gt131)) (by decide))), by omega, ⟨fun q => absurd q (by decide), fun _ => rb202⟩, (RP.up rp172 (by omega))⟩
      · refine tn_aload_n dX5_choice_61 rfl 1 rfl ?_
        obtain ⟨x207, hx208, hk209⟩ : ∃ x : Nat, σ73.2.1 35 a = (x : Int) ∧ (T74 x).1 = 31 := wf_35 w80 ha
        have hk209o : OB T74 x207 1 := ⟨by omega, by rw [hk209]; rfl, by omega⟩
        refine tn_getR (ci := 5) (i := 2) (n := 35) (x := x207) dX5_choice_62 rfl lay_5 (by decide) fl5_47 ha rfl rfl (hx208) ?_
        refine tn_bipush dX5_choice_65 (by decide) ?_
        refine tn_iload_n dX5_choice_67 rfl 0 rfl ?_
        refine tn_iconst dX5_choice_68 ?_
        refine tn_callV (M := m_X5_choice) (pc := 69) (ix := 139) (ci := 1) (M' := m_X1_append) (As := [.int (iI 13), .int (iI v64), .int (iI 0)]) (rest := []) dX5_choice_69 ok_X1_append im_X1_append se_X1_append ml5_139 np_X1_append rfl rfl hk209o rfl (Nat.le_of_ble_eq_true rfl) (Nat.le_of_ble_eq_true rfl) rfl (k_X1_append (d + 3 * lv + 57) (T := T74) (σ := σ73) (a := x207) (k := 13) (x := v64) (y := 0) hk209o hk209 (by decide) (by omega) (by decide) w80 (RP.cnt rp83 w80 ha (hx208) (by omega)) (by omega)) (fun r211 T213 σ212 gt214 hp => ?_)
        obtain ⟨rfl, w217, F218, f215⟩ := hp
        have fx219 : RDX σ212 a Sx nx i90 (es91.foldl uC (es51.foldl uC (cx))) (Nx + 1 + m52 + 1 + m92 + 1) := RDX.ap fx95 w80 ha (hx208) F218 f215
        replace ha : OB T213 a 5 := gt214.ob ha
        have rp220 : RP σ212 a (kp - 4 * v44 - 10 * v79 + 4 + 1) := RP.app rp83 (hx208) F218 (by decide) (by decide) (by decide) (by decide) f215
        have rp221 : RP σ212 a (kp - 4 * v44 - 10 * v79 + 5) := RP.up rp220 (by omega)
        show Tn _ _ 72 T213 σ212 [(2, .int (iI v64)), (0, .ref a), (1, .int (iI dp))] [] _
        refine tn_iconst dX5_choice_72 ?_
        have pc224 : GR Sx [24] i90 (0) (bx) u0 [51] i90 (0) (bx) u0 0 [] := x24n hSb (by omega)
        have rd225 : GR Sx [51, 21] jx 0 (bx) u0 [51] i90 (0) (bx) u0 (0 + 1 + 0 + m52 + 1 + m92 + 0) (es51 ++ es91) := GR.g0 (l := [24]) (ms := [51]) [] rd96 pc224
        have pc226 : GR Sx [51] i90 (0) (bx) u0 [] i90 (0) (bx) u0 1 [] := x51 hSb 
        have rd227 : GR Sx [51, 21] jx 0 (bx) u0 [] i90 (0) (bx) u0 (0 + 1 + 0 + m52 + 1 + m92 + 0 + 1) (es51 ++ es91) := GR.g0 (l := [51]) (ms := []) [] rd225 pc226
        have fe228 := RDX.nq (M := Nx + (0 + 1 + 0 + m52 + 1 + m92 + 0 + 1)) (RDX.cq (c2 := (es51 ++ es91).foldl uC cx) fx219 (by simp only [List.foldl_append, List.foldl_cons, List.foldl_nil])) (by omega)
        have fe228m : ((es51 ++ es91).foldl uC cx).m = σ73.2.1 45 a := (fe228.e45).symm.trans (rc_F F218 (Or.inl (by decide)) (by decide) (rfl))
        have ra222 : YS σ212 a Sx nx bx [51, 21] jx cx (Nx) bx [] ((jx : Int) + 1) := ⟨i90, es51 ++ es91, 0 + 1 + 0 + m52 + 1 + m92 + 0 + 1, (by omega), rd227, fe228, by rw [fe228m]; omega⟩
        exact tn_zret (v := 1) rfl (by decide) dX5_choice_73 ⟨_, rfl, w217, ((((((FrC.rfl.trans (FrC.sub F13 (by decide))).trans (FrC.sub (FrC.old F30 gt9) (by decide))).trans (FrC.sub (FrC.old F46 gt9) (by decide))).trans (FrC.sub (FrC.old F66 (GT.trans gt9 gt40)) (by decide))).trans (FrC.sub (FrC.old F81 (GT.trans (GT.trans gt9 gt40) gt60)) (by decide))).trans (FrC.sub (FrC.old F218 (GT.trans (GT.trans (GT.trans gt9 gt40) gt60) gt75)) (by decide))), by omega, ⟨fun _ => ra222, fun q => absurd q (by decide)⟩, (RP.up rp221 (by omega))⟩
    · refine tn_iconst dX5_choice_46 ?_
      obtain ⟨pl231, g232, fx233⟩ := f77.2 (by omega)
      have rf234 : GRF Sx [51, 21] jx 0 (bx) u0 (pl231) := GR.fl (l := [28]) [24] rd71 g232
      have rb230 : YF σ73 a Sx bx [51, 21] jx := ⟨_, rf234, fx233⟩
      exact tn_zret (v := 0) rfl (by decide) dX5_choice_47 ⟨_, rfl, w80, (((((FrC.rfl.trans (FrC.sub F13 (by decide))).trans (FrC.sub (FrC.old F30 gt9) (by decide))).trans (FrC.sub (FrC.old F46 gt9) (by decide))).trans (FrC.sub (FrC.old F66 (GT.trans gt9 gt40)) (by decide))).trans (FrC.sub (FrC.old F81 (GT.trans (GT.trans gt9 gt40) gt60)) (by decide))), by omega, ⟨fun q => absurd q (by decide), fun _ => rb230⟩, (RP.up rp83 (by omega))⟩
  · refine tn_iconst dX5_choice_29 ?_
    obtain ⟨pl237, g238, fx239⟩ := f42.2 (by omega)
    have g238g := g238 (bx) u0
    have rf240 : GRF Sx [51, 21] jx 0 (bx) u0 (pl237) := GR.fl (l := [2]) [51, 28, 24] rd35 g238g
    have rb236 : YF σ38 a Sx bx [51, 21] jx := ⟨_, rf240, fx239⟩
    exact tn_zret (v := 0) rfl (by decide) dX5_choice_30 ⟨_, rfl, w45, (((FrC.rfl.trans (FrC.sub F13 (by decide))).trans (FrC.sub (FrC.old F30 gt9) (by decide))).trans (FrC.sub (FrC.old F46 gt9) (by decide))), by omega, ⟨fun q => absurd q (by decide), fun _ => rb236⟩, (RP.up rp48 (by omega))⟩
end
section
set_option maxHeartbeats 4000000 in
set_option maxRecDepth 20000 in
theorem k_X5_ring_f (d : Nat) {T : CT} {σ : MS} {a : Nat} {dp : Int} {kp : Int} {lv : Nat} {Sx : Int → Int} {nx jx : Nat} {cx : CS} {Nx : Int} {bx : Int} (ha : OB T a 5) (h_dp : -2147483648 ≤ dp ∧ dp ≤ 2147483647) (hw : WT T σ) (hex : ∀ (d : Nat) {T : CT} {σ : MS} {a : Nat} {dp : Int} {kp : Int} {Sx : Int → Int} {nx jx : Nat} {cx : CS} {Nx : Int} {bx : Int} (ha : OB T a 5) (h_dp : -2147483648 ≤ dp ∧ dp ≤ 2147483647) (hw : WT T σ) (hdp : 1 ≤ dp ∧ dp ≤ 7) (hlv : 7 ≤ dp + (lv : Int)) (hfx : RDX σ a Sx nx jx cx Nx) (hb : bx = dp - 1) (hm : cx.m ≤ (jx : Int)) (hkp : kp ≤ 140) (hrp : RP σ a kp), Tn (d + 3 * lv + 60) m_X5_block 0 T σ [(0, .ref a), (1, .int (iI dp))] [] (fun ro T2 σ2 => ∃ v : Int, ro = some (.int (iI v)) ∧ WT T2 σ2 ∧ FrC T [5, 6, 7, 9, 42, 43, 44, 45, 46, 47, 50, 51, 84, 85, 86, 87, 518, 519, 520, 521] σ σ2 ∧ (v = 0 ∨ v = 1) ∧ (YQ σ2 a Sx nx bx [28] jx cx (Nx) 2 v) ∧ (RP σ2 a (kp + 2 - 10 * v)))) (hdp : 1 ≤ dp ∧ dp ≤ 6) (hlv : 6 ≤ dp + (lv : Int)) (hfx : RDX σ a Sx nx jx cx Nx) (hb : bx = dp) (hkd : ckd (tkS Sx jx) = 262) (hkp : kp ≤ 140) (hrp : RP σ a kp) : Tn (d + 3 * lv + 61) m_X5_ring 0 T σ [(0, .ref a), (1, .int (iI dp))] [] (fun ro T2 σ2 => ∃ v : Int, ro = some (.int (iI v)) ∧ WT T2 σ2 ∧ FrC T [5, 6, 7, 9, 42, 43, 44, 45, 46, 47, 50, 51, 84, 85, 86, 87, 518, 519, 520, 521] σ σ2 ∧ (v = 0 ∨ v = 1) ∧ (YQ σ2 a Sx nx bx [22] jx cx (Nx) 1 v) ∧ (RP σ2 a (kp + 2 - 9 * v))) := by
  have hSb := hfx.1.sb
  have e45 := hfx.e45
  have hpo9 := hfx.po
  unfold PO at hpo9
  refine tn_aload_n dX5_ring_0 rfl 0 rfl ?_
  refine tn_callV (M := m_X5_ring) (pc := 1) (ix := 238) (ci := 5) (M' := m_X5_newLabel) (As := []) (rest := []) dX5_ring_1 ok_X5_newLabel im_X5_newLabel se_X5_newLabel ml5_238 np_X5_newLabel rfl rfl ha rfl (Nat.le_of_ble_eq_true rfl) (Nat.le_of_ble_eq_true rfl) rfl (k_X5_newLabel (d + 3 * lv + 59) (T := T) (σ := σ) (a := a) ha hw ) (fun r1 T3 σ2 gt4 hp => ?_)
  obtain ⟨v6, rfl, rfl, w7, F8, f5⟩ := hp
  clear gt4
  have fx9 : RDX σ2 a Sx nx jx (cx) (Nx) := RDX.fc hfx hw ha F8 (by decide) (by decide)
  have rp10 : RP σ2 a (kp) := RP.frc hrp F8 (by decide) (by decide) (by decide) (by decide) (by decide)
  show Tn _ _ 4 T σ2 [(0, .ref a), (1, .int (iI dp))] [.int (iI v6)] _
  refine tn_istore_n (L' := [(2, .int (iI v6)), (0, .ref a), (1, .int (iI dp))]) dX5_ring_4 rfl (by decide) rfl ?_
  refine tn_aload_n dX5_ring_5 rfl 1 rfl ?_
  obtain ⟨x11, hx12, hk13⟩ : ∃ x : Nat, σ.2.1 35 a = (x : Int) ∧ (T x).1 = 31 := wf_35 hw ha
  have hk13o : OB T x11 1 := ⟨by omega, by rw [hk13]; rfl, by omega⟩
  refine tn_getR (ci := 5) (i := 2) (n := 35) (x := x11) dX5_ring_6 rfl lay_5 (by decide) fl5_47 ha rfl rfl (rc_F F8 (Or.inl (by decide)) (by decide) (hx12)) ?_
  refine tn_bipush dX5_ring_9 (by decide) ?_
  refine tn_iload_n dX5_ring_11 rfl 0 rfl ?_
  refine tn_iconst dX5_ring_12 ?_
  have q19 : σ2.2.1 6 x11 = σ.2.1 6 x11 := rc_F F8 (Or.inl (by decide)) (by decide) (rfl)
  refine tn_callV (M := m_X5_ring) (pc := 13) (ix := 139) (ci := 1) (M' := m_X1_append) (As := [.int (iI 13), .int (iI v6), .int (iI 0)]) (rest := []) dX5_ring_13 ok_X1_append im_X1_append se_X1_append ml5_139 np_X1_append rfl rfl hk13o rfl (Nat.le_of_ble_eq_true rfl) (Nat.le_of_ble_eq_true rfl) rfl (k_X1_append (d + 3 * lv + 57) (T := T) (σ := σ2) (a := x11) (k := 13) (x := v6) (y := 0) hk13o hk13 (by decide) (by omega) (by decide) w7 (RP.cnt rp10 w7 ha (rc_F F8 (Or.inl (by decide)) (by decide) (hx12)) (by omega)) (by omega)) (fun r15 T17 σ16 gt18 hp => ?_)
  obtain ⟨rfl, w22, F23, f20⟩ := hp
  have fx24 : RDX σ16 a Sx nx jx (cx) (Nx + 1) := RDX.ap fx9 w7 ha (rc_F F8 (Or.inl (by decide)) (by decide) (hx12)) F23 f20
  replace ha : OB T17 a 5 := gt18.ob ha
  have rp25 : RP σ16 a (kp + 1) := RP.app rp10 (rc_F F8 (Or.inl (by decide)) (by decide) (hx12)) F23 (by decide) (by decide) (by decide) (by decide) f20
  show Tn _ _ 16 T17 σ16 [(2, .int (iI v6)), (0, .ref a), (1, .int (iI dp))] [] _
  refine tn_aload_n dX5_ring_16 rfl 1 rfl ?_
  obtain ⟨x26, hx27, hk28⟩ : ∃ x : Nat, σ16.2.1 35 a = (x : Int) ∧ (T17 x).1 = 31 := wf_35 w22 ha
  have hk28o : OB T17 x26 1 := ⟨by omega, by rw [hk28]; rfl, by omega⟩
  refine tn_getR (ci := 5) (i := 2) (n := 35) (x := x26) dX5_ring_17 rfl lay_5 (by decide) fl5_47 ha rfl rfl (hx27) ?_
  refine tn_bipush dX5_ring_20 (by decide) ?_
  refine tn_aload_n dX5_ring_22 rfl 1 rfl ?_
  refine tn_getI (ci := 5) (i := 12) (n := 45) (t := σ16.2.1 45 a) dX5_ring_23 rfl lay_5 (by decide) fl5_64 ha rfl rfl (rfl) ?_
  have g30 : ((-2147483648 : Int) ≤ σ16.2.1 45 a ∧ σ16.2.1 45 a ≤ 2147483647) := wf_45 w22 ha
  refine tn_iconst dX5_ring_26 ?_
  refine tn_callV (M := m_X5_ring) (pc := 27) (ix := 139) (ci := 1) (M' := m_X1_append) (As := [.int (iI 11), .int (iI (σ16.2.1 45 a)), .int (iI 0)]) (rest := []) dX5_ring_27 ok_X1_append im_X1_append se_X1_append ml5_139 np_X1_append rfl rfl hk28o rfl (Nat.le_of_ble_eq_true rfl) (Nat.le_of_ble_eq_true rfl) rfl (k_X1_append (d + 3 * lv + 57) (T := T17) (σ := σ16) (a := x26) (k := 11) (x := σ16.2.1 45 a) (y := 0) hk28o hk28 (by decide) (by omega) (by decide) w22 (RP.cnt rp25 w22 ha (hx27) (by omega)) (by omega)) (fun r31 T33 σ32 gt34 hp => ?_)
  obtain ⟨rfl, w37, F38, f35⟩ := hp
  have fx39 : RDX σ32 a Sx nx jx (cx) (Nx + 1 + 1) := RDX.ap fx24 w22 ha (hx27) F38 f35
  replace ha : OB T33 a 5 := gt34.ob ha
  have rp40 : RP σ32 a (kp + 1 + 1) := RP.app rp25 (hx27) F38 (by decide) (by decide) (by decide) (by decide) f35
  have rp41 : RP σ32 a (kp + 2) := RP.up rp40 (by omega)
  show Tn _ _ 30 T33 σ32 [(2, .int (iI v6)), (0, .ref a), (1, .int (iI dp))] [] _
  refine tn_aload_n dX5_ring_30 rfl 1 rfl ?_
  obtain ⟨x42, hx43, hk44⟩ : ∃ x : Nat, σ32.2.1 33 a = (x : Int) ∧ (T33 x).1 = 39 := wf_33 w37 ha
  have hk44o : OB T33 x42 9 := ⟨by omega, by rw [hk44]; rfl, by omega⟩
  refine tn_getR (ci := 5) (i := 0) (n := 33) (x := x42) dX5_ring_31 rfl lay_5 (by decide) fl5_12 ha rfl rfl (hx43) ?_
  refine tn_callV (M := m_X5_ring) (pc := 34) (ix := 93) (ci := 9) (M' := m_X9_next) (As := []) (rest := []) dX5_ring_34 ok_X9_next im_X9_next se_X9_next ml5_93 np_X9_next rfl rfl hk44o rfl (Nat.le_of_ble_eq_true rfl) (Nat.le_of_ble_eq_true rfl) rfl (k_X9_next_f (d + 3 * lv + 59) (T := T33) (σ := σ32) (a := x42) hk44o w37 (RP.tk rp41 w37 ha (hx43)) ((fx39).1.tk (hx43)) (by rw [(fx39).1.kd (hx43)]; omega)) (fun r46 T48 σ47 gt49 hp => ?_)
  obtain ⟨rfl, rfl, w55, F56, f50, f51, f52, f53⟩ := hp
  clear gt49
  have pc58 : GR Sx [22] jx (0) (bx) u0 [52, 2, 51, 28, 52] (jx + 1) (0) (bx) u0 0 [] := x22 hSb 
  have rd590 : GR Sx [22] jx 0 (bx) u0 [22] jx (0) (bx) u0 (0) ([]) := GR.nl
  have rd59 : GR Sx [22] jx 0 (bx) u0 [52, 2, 51, 28, 52] (jx + 1) (0) (bx) u0 (0 + 0) ([]) := GR.g0 (l := [22]) (ms := [52, 2, 51, 28, 52]) [] rd590 pc58
  have fx57 : RDX σ47 a Sx nx (jx + 1) (cx) (Nx + 1 + 1) := RDX.nx fx39 w37 ha (hx43) F56 f53
  have rp60 : RP σ47 a (kp + 2) := RP.next rp41 (hx43) F56 (by decide) (by decide) (by decide) f50 f51
  show Tn _ _ 37 T33 σ47 [(2, .int (iI v6)), (0, .ref a), (1, .int (iI dp))] [] _
  refine tn_aload_n dX5_ring_37 rfl 1 rfl ?_
  refine tn_iconst dX5_ring_38 ?_
  have pc61 : GR Sx [52] (jx + 1) (0) (bx) u0 [] (jx + 1) (0) (bx) u0 2 [] := x52 hSb 
  have rd62 : GR Sx [22] jx 0 (bx) u0 [2, 51, 28, 52] (jx + 1) (0) (bx) u0 (0 + 0 + 2) ([]) := GR.g0 (l := [52]) (ms := []) [2, 51, 28, 52] rd59 pc61
  refine tn_callV (M := m_X5_ring) (pc := 39) (ix := 213) (ci := 5) (M' := m_X5_expression) (As := [.int (iI 1)]) (rest := []) dX5_ring_39 ok_X5_expression im_X5_expression se_X5_expression ml5_213 np_X5_expression rfl rfl ha rfl (Nat.le_of_ble_eq_true rfl) (Nat.le_of_ble_eq_true rfl) rfl (k_X5_expression_f (d + 3 * lv + 10) (T := T33) (σ := σ47) (a := a) (dp := 1) (kp := kp + 2) (eo := 0) ha (by decide) w55 (by omega) fx57 (by omega) (by omega) rp60) (fun r63 T65 σ64 gt66 hp => ?_)
  obtain ⟨v70, rfl, w71, F72, f67, f68, f69⟩ := hp
  replace ha : OB T65 a 5 := gt66.ob ha
  have rp74 : RP σ64 a (kp - 4 * v70 + 2) := RP.up f69 (by omega)
  show Tn _ _ 42 T65 σ64 [(2, .int (iI v6)), (0, .ref a), (1, .int (iI dp))] [.int (iI v70)] _
  refine tn_if_ne (tgt := 47) dX5_ring_42 (by decide) ⟨by omega, by omega⟩ (fun h75 => ?_) (fun h75 => ?_)
  · refine tn_aload_n dX5_ring_47 rfl 1 rfl ?_
    obtain ⟨i76, es77, m78, lo79, rr80, fx81⟩ := f68.1 (by omega)
    have rr80g := rr80 (bx) u0
    have rd82a : GR Sx [22] jx 0 (bx) u0 [51, 28, 52] i76 (0) (bx) u0 (0 + 0 + 2 + m78) ([] ++ es77) := GR.gg (l := [2]) (ms := []) [51, 28, 52] rd62 rr80g
    have rd82 : GR Sx [22] jx 0 (bx) u0 [51, 28, 52] i76 (0) (bx) u0 (0 + 0 + 2 + m78) (es77) := rd82a
    refine tn_callV (M := m_X5_ring) (pc := 48) (ix := 235) (ci := 5) (M' := m_X5_zeroToNew) (As := []) (rest := []) dX5_ring_48 ok_X5_zeroToNew im_X5_zeroToNew se_X5_zeroToNew ml5_235 np_X5_zeroToNew rfl rfl ha rfl (Nat.le_of_ble_eq_true rfl) (Nat.le_of_ble_eq_true rfl) rfl (k_X5_zeroToNew_f (d + 3 * lv + 56) (T := T65) (σ := σ64) (a := a) (kp := kp - 4 * v70 + 2) ha w71 fx81 (by omega) rp74) (fun r83 T85 σ84 gt86 hp => ?_)
    obtain ⟨v90, rfl, w91, F92, f87, f88, f89⟩ := hp
    replace ha : OB T85 a 5 := gt86.ob ha
    have rp94 : RP σ84 a (kp - 4 * v70 + 3) := RP.up f89 (by omega)
    show Tn _ _ 51 T85 σ84 [(2, .int (iI v6)), (0, .ref a), (1, .int (iI dp))] [.int (iI v90)] _
    refine tn_istore_n (L' := [(3, .int (iI v90)), (2, .int (iI v6)), (0, .ref a), (1, .int (iI dp))]) dX5_ring_51 rfl (by decide) rfl ?_
    refine tn_aload_n dX5_ring_52 rfl 2 rfl ?_
    refine tn_iload_n dX5_ring_53 rfl 3 rfl ?_
    refine tn_iconst dX5_ring_54 ?_
    refine tn_iadd dX5_ring_55 ?_
    have q4595 : (es77.foldl uC (cx)).m = σ.2.1 45 a := (f88.e45).symm.trans (rc_F F92 (Or.inl (by decide)) (by decide) (rc_F F72 (Or.inl (by decide)) (by decide) (rc_F F56 (Or.inl (by decide)) (by decide) (rc_F F38 (Or.inl (by decide)) (by decide) (rc_F F23 (Or.inl (by decide)) (by decide) (rc_F F8 (Or.inl (by decide)) (by decide) (rfl)))))))
    have pc96 : GR Sx [51] i76 (0) (bx) u0 [] i76 (0) (bx) u0 1 [] := x51 hSb 
    have rd97 : GR Sx [22] jx 0 (bx) u0 [28, 52] i76 (0) (bx) u0 (0 + 0 + 2 + m78 + 1) (es77) := GR.g0 (l := [51]) (ms := []) [28, 52] rd82 pc96
    refine tn_callV (M := m_X5_ring) (pc := 56) (ix := 79) (ci := 5) (M' := m_X5_block) (As := [.int (iI (dp + 1))]) (rest := []) dX5_ring_56 ok_X5_block im_X5_block se_X5_block ml5_79 np_X5_block rfl rfl ha rfl (Nat.le_of_ble_eq_true rfl) (Nat.le_of_ble_eq_true rfl) rfl (hex (d) (T := T85) (σ := σ84) (a := a) (dp := dp + 1) (kp := kp - 4 * v70 + 3) (bx := bx) ha (by omega) w91 (by omega) (by omega) f88 (by omega) (by rw [q4595]; omega) (by omega) rp94) (fun r98 T100 σ99 gt101 hp => ?_)
    obtain ⟨v105, rfl, w106, F107, f102, f103, f104⟩ := hp
    replace ha : OB T100 a 5 := gt101.ob ha
    have rp109 : RP σ99 a (kp - 4 * v70 - 10 * v105 + 5) := RP.up f104 (by omega)
    show Tn _ _ 59 T100 σ99 [(3, .int (iI v90)), (2, .int (iI v6)), (0, .ref a), (1, .int (iI dp))] [.int (iI v105)] _
    refine tn_if_ne (tgt := 64) dX5_ring_59 (by decide) ⟨by omega, by omega⟩ (fun h110 => ?_) (fun h110 => ?_)
    · refine tn_aload_n dX5_ring_64 rfl 2 rfl ?_
      obtain ⟨x111, hx112, hk113⟩ : ∃ x : Nat, σ99.2.1 35 a = (x : Int) ∧ (T100 x).1 = 31 := wf_35 w106 ha
      have hk113o : OB T100 x111 1 := ⟨by omega, by rw [hk113]; rfl, by omega⟩
      refine tn_getR (ci := 5) (i := 2) (n := 35) (x := x111) dX5_ring_65 rfl lay_5 (by decide) fl5_47 ha rfl rfl (hx112) ?_
      refine tn_bipush dX5_ring_68 (by decide) ?_
      refine tn_iload_n dX5_ring_70 rfl 1 rfl ?_
      refine tn_iconst dX5_ring_71 ?_
      refine tn_callV (M := m_X5_ring) (pc := 72) (ix := 139) (ci := 1) (M' := m_X1_append) (As := [.int (iI 8), .int (iI v6), .int (iI 0)]) (rest := []) dX5_ring_72 ok_X1_append im_X1_append se_X1_append ml5_139 np_X1_append rfl rfl hk113o rfl (Nat.le_of_ble_eq_true rfl) (Nat.le_of_ble_eq_true rfl) rfl (k_X1_append (d + 3 * lv + 57) (T := T100) (σ := σ99) (a := x111) (k := 8) (x := v6) (y := 0) hk113o hk113 (by decide) (by omega) (by decide) w106 (RP.cnt rp109 w106 ha (hx112) (by omega)) (by omega)) (fun r115 T117 σ116 gt118 hp => ?_)
      obtain ⟨rfl, w121, F122, f119⟩ := hp
      obtain ⟨i123, es124, m125, lo126, rr127, fx128, fx128m⟩ := f103.1 (by omega)
      have fx128s : σ99.2.1 45 a ≤ (i123 : Int) := by rw [fx128.e45]; exact fx128m
      have rd129 : GR Sx [22] jx 0 (bx) u0 [52] i123 (0) (bx) u0 (0 + 0 + 2 + m78 + 1 + m125) (es77 ++ es124) := GR.gg (l := [28]) (ms := []) [52] rd97 rr127
      have fx130 : RDX σ116 a Sx nx i123 (es124.foldl uC (es77.foldl uC (cx))) (Nx + 1 + 1 + m78 + 1 + m125 + 1) := RDX.ap fx128 w106 ha (hx112) F122 f119
      replace ha : OB T117 a 5 := gt118.ob ha
      have rp131 : RP σ116 a (kp - 4 * v70 - 10 * v105 + 5 + 1) := RP.app rp109 (hx112) F122 (by decide) (by decide) (by decide) (by decide) f119
      have rp132 : RP σ116 a (kp - 4 * v70 - 10 * v105 + 6) := RP.up rp131 (by omega)
      show Tn _ _ 75 T117 σ116 [(3, .int (iI v90)), (2, .int (iI v6)), (0, .ref a), (1, .int (iI dp))] [] _
      refine tn_aload_n dX5_ring_75 rfl 2 rfl ?_
      obtain ⟨x133, hx134, hk135⟩ : ∃ x : Nat, σ116.2.1 35 a = (x : Int) ∧ (T117 x).1 = 31 := wf_35 w121 ha
      have hk135o : OB T117 x133 1 := ⟨by omega, by rw [hk135]; rfl, by omega⟩
      refine tn_getR (ci := 5) (i := 2) (n := 35) (x := x133) dX5_ring_76 rfl lay_5 (by decide) fl5_47 ha rfl rfl (hx134) ?_
      refine tn_bipush dX5_ring_79 (by decide) ?_
      refine tn_iload_n dX5_ring_81 rfl 0 rfl ?_
      refine tn_iconst dX5_ring_82 ?_
      refine tn_callV (M := m_X5_ring) (pc := 83) (ix := 139) (ci := 1) (M' := m_X1_append) (As := [.int (iI 13), .int (iI v90), .int (iI 0)]) (rest := []) dX5_ring_83 ok_X1_append im_X1_append se_X1_append ml5_139 np_X1_append rfl rfl hk135o rfl (Nat.le_of_ble_eq_true rfl) (Nat.le_of_ble_eq_true rfl) rfl (k_X1_append (d + 3 * lv + 57) (T := T117) (σ := σ116) (a := x133) (k := 13) (x := v90) (y := 0) hk135o hk135 (by decide) (by omega) (by decide) w121 (RP.cnt rp132 w121 ha (hx134) (by omega)) (by omega)) (fun r137 T139 σ138 gt140 hp => ?_)
      obtain ⟨rfl, w143, F144, f141⟩ := hp
      have fx145 : RDX σ138 a Sx nx i123 (es124.foldl uC (es77.foldl uC (cx))) (Nx + 1 + 1 + m78 + 1 + m125 + 1 + 1) := RDX.ap fx130 w121 ha (hx134) F144 f141
      replace ha : OB T139 a 5 := gt140.ob ha
      have rp146 : RP σ138 a (kp - 4 * v70 - 10 * v105 + 6 + 1) := RP.app rp132 (hx134) F144 (by decide) (by decide) (by decide) (by decide) f141
      have rp147 : RP σ138 a (kp - 4 * v70 - 10 * v105 + 7) := RP.up rp146 (by omega)
      show Tn _ _ 86 T139 σ138 [(3, .int (iI v90)), (2, .int (iI v6)), (0, .ref a), (1, .int (iI dp))] [] _
      refine tn_iconst dX5_ring_86 ?_
      have pc150 : GR Sx [52] i123 (0) (bx) u0 [] i123 (0) (bx) u0 2 [] := x52 hSb 
      have rd151 : GR Sx [22] jx 0 (bx) u0 [] i123 (0) (bx) u0 (0 + 0 + 2 + m78 + 1 + m125 + 2) (es77 ++ es124) := GR.g0 (l := [52]) (ms := []) [] rd129 pc150
      have fe152 := RDX.nq (M := Nx + (0 + 0 + 2 + m78 + 1 + m125 + 2)) (RDX.cq (c2 := (es77 ++ es124).foldl uC cx) fx145 (by simp only [List.foldl_append, List.foldl_cons, List.foldl_nil])) (by omega)
      have fe152m : ((es77 ++ es124).foldl uC cx).m = σ99.2.1 45 a := (fe152.e45).symm.trans (rc_F F144 (Or.inl (by decide)) (by decide) (rc_F F122 (Or.inl (by decide)) (by decide) (rfl)))
      have ra148 : YS σ138 a Sx nx bx [22] jx cx (Nx) bx [] ((jx : Int) + 1) := ⟨i123, es77 ++ es124, 0 + 0 + 2 + m78 + 1 + m125 + 2, (by omega), rd151, fe152, by rw [fe152m]; omega⟩
      exact tn_zret (v := 1) rfl (by decide) dX5_ring_87 ⟨_, rfl, w143, (((((((((FrC.rfl.trans (FrC.sub F8 (by decide))).trans (FrC.sub F23 (by decide))).trans (FrC.sub (FrC.old F38 gt18) (by decide))).trans (FrC.sub (FrC.old F56 (GT.trans gt18 gt34)) (by decide))).trans (FrC.sub (FrC.old F72 (GT.trans gt18 gt34)) (by decide))).trans (FrC.sub (FrC.old F92 (GT.trans (GT.trans gt18 gt34) gt66)) (by decide))).trans (FrC.sub (FrC.old F107 (GT.trans (GT.trans (GT.trans gt18 gt34) gt66) gt86)) (by decide))).trans (FrC.sub (FrC.old F122 (GT.trans (GT.trans (GT.trans (GT.trans gt18 gt34) gt66) gt86) gt101)) (by decide))).trans (FrC.sub (FrC.old F144 (GT.trans (GT.trans (GT.trans (GT.trans (GT.trans gt18 gt34) gt66) gt86) gt101) gt118)) (by decide))), by omega, ⟨fun _ => ra148, fun q => absurd q (by decide)⟩, (RP.up rp147 (by omega))⟩
    · refine tn_iconst dX5_ring_62 ?_
      obtain ⟨pl155, g156, fx157⟩ := f103.2 (by omega)
      have rf158 : GRF Sx [22] jx 0 (bx) u0 (pl155) := GR.fl (l := [28]) [52] rd97 g156
      have rb154 : YF σ99 a Sx bx [22] jx := ⟨_, rf158, fx157⟩
      exact tn_zret (v := 0) rfl (by decide) dX5_ring_63 ⟨_, rfl, w106, (((((((FrC.rfl.trans (FrC.sub F8 (by decide))).trans (FrC.sub F23 (by decide))).trans (FrC.sub (FrC.old F38 gt18) (by decide))).trans (FrC.sub (FrC.old F56 (GT.trans gt18 gt34)) (by decide))).trans (FrC.sub (FrC.old F72 (GT.trans gt18 gt34)) (by decide))).trans (FrC.sub (FrC.old F92 (GT.trans (GT.trans gt18 gt34) gt66)) (by decide))).trans (FrC.sub (FrC.old F107 (GT.trans (GT.trans (GT.trans gt18 gt34) gt66) gt86)) (by decide))), by omega, ⟨fun q => absurd q (by decide), fun _ => rb154⟩, (RP.up rp109 (by omega))⟩
  · refine tn_iconst dX5_ring_45 ?_
    obtain ⟨pl161, g162, fx163⟩ := f68.2 (by omega)
    have g162g := g162 (bx) u0
    have rf164 : GRF Sx [22] jx 0 (bx) u0 (pl161) := GR.fl (l := [2]) [51, 28, 52] rd62 g162g
    have rb160 : YF σ64 a Sx bx [22] jx := ⟨_, rf164, fx163⟩
    exact tn_zret (v := 0) rfl (by decide) dX5_ring_46 ⟨_, rfl, w71, (((((FrC.rfl.trans (FrC.sub F8 (by decide))).trans (FrC.sub F23 (by decide))).trans (FrC.sub (FrC.old F38 gt18) (by decide))).trans (FrC.sub (FrC.old F56 (GT.trans gt18 gt34)) (by decide))).trans (FrC.sub (FrC.old F72 (GT.trans gt18 gt34)) (by decide))), by omega, ⟨fun q => absurd q (by decide), fun _ => rb160⟩, (RP.up rp74 (by omega))⟩
end
