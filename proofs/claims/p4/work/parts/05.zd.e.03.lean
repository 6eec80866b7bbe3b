set_option maxHeartbeats 4000000 in
set_option maxRecDepth 20000 in
theorem l_X5_call_f_44 (d : Nat) {T0 : CT} {σ0 : MS} {a : Nat} {c1 : Int} {c2 : Int} {c3 : Int} {Sx : Int → Int} {nx : Nat} {jx : Nat} {cx : CS} {Nx : Int} {bx : Int} {kp : Int} {post : Option Value → CT → MS → Prop} (r_c1 : -2147483648 ≤ c1 ∧ c1 ≤ 2147483647) (r_c2 : -2147483648 ≤ c2 ∧ c2 ≤ 2147483647) (r_c3 : -2147483648 ≤ c3 ∧ c3 ≤ 2147483647) (hw0 : WT T0 σ0) (hkp : kp ≤ 150) (hx_77 : ∀ (T : CT) (i4 : Int) (i5 : Int) (σ : MS) , (GT T0 T) → (WT T σ) → (FrC T0 [5, 6, 7, 43, 44, 47, 50, 51, 84, 85, 86, 87, 521] σ0 σ) → (OB T a 5) → (0 ≤ i4 ∧ i4 ≤ 1200) → (0 ≤ i5 ∧ i5 ≤ 2147483647) → (True) → (True) → (RP σ a kp) → (YF σ a Sx bx [25] jx) → Tn (d + 51) m_X5_call 77 T σ [(0, .ref a), (1, .int (iI c1)), (2, .int (iI c2)), (3, .int (iI c3)), (4, .int (iI i4)), (5, .int (iI i5))] [] post) (hx_126 : ∀ (T : CT) (i4 : Int) (i5 : Int) (σ : MS) , (GT T0 T) → (WT T σ) → (FrC T0 [5, 6, 7, 43, 44, 47, 50, 51, 84, 85, 86, 87, 521] σ0 σ) → (OB T a 5) → (0 ≤ i4 ∧ i4 ≤ 1200) → (0 ≤ i5 ∧ i5 ≤ 2147483647) → (True) → (True) → (RP σ a kp) → (CLX σ a Sx nx bx jx cx Nx (tkS Sx jx).2.2.2.2 (tkS Sx jx).1 (i4) ((jx : Int) + 2)) → Tn (d + 51) m_X5_call 126 T σ [(0, .ref a), (1, .int (iI c1)), (2, .int (iI c2)), (3, .int (iI c3)), (4, .int (iI i4)), (5, .int (iI i5))] [] post) (hx_142 : ∀ (T : CT) (i4 : Int) (i5 : Int) (σ : MS) , (GT T0 T) → (WT T σ) → (FrC T0 [5, 6, 7, 43, 44, 47, 50, 51, 84, 85, 86, 87, 521] σ0 σ) → (OB T a 5) → (0 ≤ i4 ∧ i4 ≤ 1200) → (0 ≤ i5 ∧ i5 ≤ 2147483647) → (True) → (True) → (RP σ a kp) → (CLX σ a Sx nx bx jx cx Nx (tkS Sx jx).2.2.2.2 (tkS Sx jx).1 (i4) ((jx : Int) + 2)) → Tn (d + 51) m_X5_call 142 T σ [(0, .ref a), (1, .int (iI c1)), (2, .int (iI c2)), (3, .int (iI c3)), (4, .int (iI i4)), (5, .int (iI i5))] [] post) : ∀ (n : Nat) (T : CT) (i4 : Int) (i5 : Int) (σ : MS) , (GT T0 T) → (WT T σ) → (FrC T0 [5, 6, 7, 43, 44, 47, 50, 51, 84, 85, 86, 87, 521] σ0 σ) → (OB T a 5) → (0 ≤ i4 ∧ i4 ≤ 1200) → (0 ≤ i5 ∧ i5 ≤ 2147483647) → (i4 = i5) → (CLV σ a Sx nx bx jx cx Nx (tkS Sx jx).2.2.2.2 (tkS Sx jx).1 (i4) ((jx : Int) + 2 + i5)) → (RP σ a kp) → (2147483700 - i5).toNat = n → Tn (d + 51) m_X5_call 44 T σ [(0, .ref a), (1, .int (iI c1)), (2, .int (iI c2)), (3, .int (iI c3)), (4, .int (iI i4)), (5, .int (iI i5))] [] post := by
  intro n
  induction n using Nat.strongRecOn with
  | _ n ih =>
    intro T i4 i5 σ hG hw hF h_a r_i4 r_i5 h45 hx hrp hm
    obtain ⟨jy, ey, my, loy, hfy, rda, rdb⟩ := hx
    have hSb := hfy.1.sb
    have hjn := RDX.jn hfy hw h_a
    refine tn_iload dX5_call_44 5 rfl ?_
    refine tn_sipush dX5_call_46 (by decide) ?_
    refine tn_icmp_ge (tgt := 142) dX5_call_49 (by decide) ⟨by omega, by omega⟩ ⟨by decide, by decide⟩ (fun h1 => ?_) (fun h1 => ?_)
    · exact tn_sub [0, 1, 2, 3, 4, 5] rfl (hx_142 T (i4) (i5) σ hG hw (FrC.rfl.trans (FrC.sub hF (by decide))) h_a (by omega) (by omega) True.intro True.intro (RP.up hrp (by omega)) (False.elim (by omega)))
    · refine tn_aload_n dX5_call_52 rfl 0 rfl ?_
      obtain ⟨x2, hx3, hk4⟩ : ∃ x : Nat, σ.2.1 33 a = (x : Int) ∧ (T x).1 = 39 := wf_33 hw h_a
      have hk4o : OB T x2 9 := ⟨by omega, by rw [hk4]; rfl, by omega⟩
      refine tn_getR (ci := 5) (i := 0) (n := 33) (x := x2) dX5_call_53 rfl lay_5 (by decide) fl5_12 h_a rfl rfl (hx3) ?_
      refine tn_getI (ci := 9) (i := 4) (n := 85) (t := σ.2.1 85 x2) dX5_call_56 rfl lay_9 (by decide) fl5_71 hk4o rfl rfl (rfl) ?_
      have g6 : ((-2147483648 : Int) ≤ σ.2.1 85 x2 ∧ σ.2.1 85 x2 ≤ 2147483647) := wf_85 hw hk4o
      have g6kd : σ.2.1 85 x2 = ckd (tkS Sx jy) := (rfl).symm.trans ((hfy).1.kd (hx3))
      refine tn_bipush dX5_call_59 (by decide) ?_
      refine tn_icmp_ne (tgt := 69) dX5_call_61 (by decide) ⟨by omega, by omega⟩ ⟨by decide, by decide⟩ (fun h7 => ?_) (fun h7 => ?_)
      · have rdy := rdb (by omega)
        refine tn_aload_n dX5_call_69 rfl 0 rfl ?_
        refine tn_iconst dX5_call_70 ?_
        refine tn_callV (M := m_X5_call) (pc := 71) (ix := 213) (ci := 5) (M' := m_X5_expression) (As := [.int (iI 1)]) (rest := []) dX5_call_71 ok_X5_expression im_X5_expression se_X5_expression ml5_213 np_X5_expression rfl rfl h_a rfl (Nat.le_of_ble_eq_true rfl) (Nat.le_of_ble_eq_true rfl) rfl (k_X5_expression_f (d) (T := T) (σ := σ) (a := a) (dp := 1) (kp := kp) (eo := 0) h_a (by decide) hw (by omega) hfy (by omega) (by omega) hrp) (fun r8 T10 σ9 gt11 hp => ?_)
        obtain ⟨v15, rfl, w16, F17, f12, f13, f14⟩ := hp
        replace h_a : OB T10 a 5 := gt11.ob h_a
        show Tn _ _ 74 T10 σ9 [(0, .ref a), (1, .int (iI c1)), (2, .int (iI c2)), (3, .int (iI c3)), (4, .int (iI i4)), (5, .int (iI i5))] [.int (iI v15)] _
        refine tn_if_ne (tgt := 79) dX5_call_74 (by decide) ⟨by omega, by omega⟩ (fun h19 => ?_) (fun h19 => ?_)
        · refine tn_aload_n dX5_call_79 rfl 0 rfl ?_
          obtain ⟨x20, hx21, hk22, hl23⟩ : ∃ x : Nat, σ9.2.1 49 a = (x : Int) ∧ AR T10 x 1 8 8 := wf_49 w16 h_a
          have hk22i : IA T10 x20 := by unfold IA; omega
          refine tn_getR (ci := 5) (i := 16) (n := 49) (x := x20) dX5_call_80 rfl lay_5 (by decide) fl5_43 h_a rfl rfl (hx21) ?_
          refine tn_iconst dX5_call_83 ?_
          refine tn_iload dX5_call_84 4 rfl ?_
          refine tn_imul dX5_call_86 ?_
          refine tn_aload_n dX5_call_87 rfl 0 rfl ?_
          refine tn_getI (ci := 5) (i := 17) (n := 50) (t := σ9.2.1 50 a) dX5_call_88 rfl lay_5 (by decide) fl5_216 h_a rfl rfl (rfl) ?_
          have g24 : ((-2147483648 : Int) ≤ σ9.2.1 50 a ∧ σ9.2.1 50 a ≤ 2147483647) := wf_50 w16 h_a
          refine tn_callSN (M := m_X5_call) (pc := 91) (ix := 129) (M' := m_X11_put) (As := [.ref x20, .int (iI (2 * i4)), .int (iI (σ9.2.1 50 a))]) (rest := []) dX5_call_91 ok_X11_put stt_X11_put nl5_129 np_X11_put rfl (Nat.le_of_ble_eq_true rfl) (Nat.le_of_ble_eq_true rfl) rfl (k_X11_put (d + 49) (T := T10) (σ := σ9) (x := x20) (i := 2 * i4) (y := σ9.2.1 50 a) hk22i (by omega) (by omega) (by omega) w16 (nh_k hk22 (by unfold HT; omega)) (vok_1 (by have q9 := hk22; omega) (by omega))) (fun r25 T27 σ26 gt28 hp => ?_)
          obtain ⟨rfl, rfl, w30, F31⟩ := hp
          clear gt28
          obtain ⟨i32, es33, m34, lo35, rr36, fx37⟩ := f13.1 (by omega)
          have rr36g := rr36 (bx) ((tkS Sx jx).2.2.2.2, i4, (tkS Sx jx).1)
          have rd38 : GR Sx [25] jx 0 (bx) u0 [27, 159] i32 (0) (bx) ((tkS Sx jx).2.2.2.2, i4, (tkS Sx jx).1) (my + m34) (ey ++ es33) := GR.gg (l := [2]) (ms := []) [27, 159] rdy rr36g
          have fx39 : RDX σ26 a Sx nx i32 (es33.foldl uC (ey.foldl uC cx)) (Nx + my + m34) := RDX.fc fx37 w16 h_a F31 (by decide) (by decide)
          have rp40 : RP σ26 a (kp - 4 * v15) := RP.frc f14 F31 (by decide) (by decide) (by decide) (by decide) (by decide)
          show Tn _ _ 94 T10 σ26 [(0, .ref a), (1, .int (iI c1)), (2, .int (iI c2)), (3, .int (iI c3)), (4, .int (iI i4)), (5, .int (iI i5))] [] _
          refine tn_aload_n dX5_call_94 rfl 0 rfl ?_
          refine tn_getR (ci := 5) (i := 16) (n := 49) (x := x20) dX5_call_95 rfl lay_5 (by decide) fl5_43 h_a rfl rfl (rc_F F31 (Or.inl (by decide)) (by decide) (hx21)) ?_
          refine tn_iconst dX5_call_98 ?_
          refine tn_iload dX5_call_99 4 rfl ?_
          refine tn_imul dX5_call_101 ?_
          refine tn_iconst dX5_call_102 ?_
          refine tn_iadd dX5_call_103 ?_
          refine tn_aload_n dX5_call_104 rfl 0 rfl ?_
          refine tn_getI (ci := 5) (i := 18) (n := 51) (t := σ9.2.1 51 a) dX5_call_105 rfl lay_5 (by decide) fl5_219 h_a rfl rfl (rc_F F31 (Or.inl (by decide)) (by decide) (rfl)) ?_
          have g41 : ((-2147483648 : Int) ≤ σ9.2.1 51 a ∧ σ9.2.1 51 a ≤ 2147483647) := wf_51 w16 h_a
          refine tn_callSN (M := m_X5_call) (pc := 108) (ix := 129) (M' := m_X11_put) (As := [.ref x20, .int (iI ((2 * i4) + 1)), .int (iI (σ9.2.1 51 a))]) (rest := []) dX5_call_108 ok_X11_put stt_X11_put nl5_129 np_X11_put rfl (Nat.le_of_ble_eq_true rfl) (Nat.le_of_ble_eq_true rfl) rfl (k_X11_put (d + 49) (T := T10) (σ := σ26) (x := x20) (i := (2 * i4) + 1) (y := σ9.2.1 51 a) hk22i (by omega) (by omega) (by omega) w30 (nh_k hk22 (by unfold HT; omega)) (vok_1 (by have q9 := hk22; omega) (by omega))) (fun r42 T44 σ43 gt45 hp => ?_)
          obtain ⟨rfl, rfl, w47, F48⟩ := hp
          clear gt45
          have fx49 : RDX σ43 a Sx nx i32 (es33.foldl uC (ey.foldl uC cx)) (Nx + my + m34) := RDX.fc fx39 w30 h_a F48 (by decide) (by decide)
          have rp50 : RP σ43 a (kp - 4 * v15) := RP.frc rp40 F48 (by decide) (by decide) (by decide) (by decide) (by decide)
          show Tn _ _ 111 T10 σ43 [(0, .ref a), (1, .int (iI c1)), (2, .int (iI c2)), (3, .int (iI c3)), (4, .int (iI i4)), (5, .int (iI i5))] [] _
          refine tn_iinc (q0 := 4) (L' := [(4, .int (iI (i4 + 1))), (0, .ref a), (1, .int (iI c1)), (2, .int (iI c2)), (3, .int (iI c3)), (5, .int (iI i5))]) dX5_call_111 rfl (by decide) rfl ?_
          refine tn_aload_n dX5_call_114 rfl 1 rfl ?_
          obtain ⟨x51, hx52, hk53⟩ : ∃ x : Nat, σ9.2.1 33 a = (x : Int) ∧ (T10 x).1 = 39 := wf_33 w16 h_a
          have hk53o : OB T10 x51 9 := ⟨by omega, by rw [hk53]; rfl, by omega⟩
          refine tn_getR (ci := 5) (i := 0) (n := 33) (x := x51) dX5_call_115 rfl lay_5 (by decide) fl5_12 h_a rfl rfl (rc_F F48 (Or.inl (by decide)) (by decide) (rc_F F31 (Or.inl (by decide)) (by decide) (hx52))) ?_
          refine tn_getI (ci := 9) (i := 4) (n := 85) (t := σ9.2.1 85 x51) dX5_call_118 rfl lay_9 (by decide) fl5_71 hk53o rfl rfl (rc_F F48 (Or.inl (by decide)) (by decide) (rc_F F31 (Or.inl (by decide)) (by decide) (rfl))) ?_
          have g55 : ((-2147483648 : Int) ≤ σ9.2.1 85 x51 ∧ σ9.2.1 85 x51 ≤ 2147483647) := wf_85 w16 hk53o
          have g55kd : σ9.2.1 85 x51 = ckd (tkS Sx i32) := (rc_F F48 (Or.inl (by decide)) (by decide) (rc_F F31 (Or.inl (by decide)) (by decide) (rfl))).symm.trans ((fx49).1.kd (rc_F F48 (Or.inl (by decide)) (by decide) (rc_F F31 (Or.inl (by decide)) (by decide) (hx52))))
          refine tn_bipush dX5_call_121 (by decide) ?_
          refine tn_icmp_eq (tgt := 129) dX5_call_123 (by decide) ⟨by omega, by omega⟩ ⟨by decide, by decide⟩ (fun h56 => ?_) (fun h56 => ?_)
          · refine tn_aload_n dX5_call_129 rfl 1 rfl ?_
            refine tn_getR (ci := 5) (i := 0) (n := 33) (x := x51) dX5_call_130 rfl lay_5 (by decide) fl5_12 h_a rfl rfl (rc_F F48 (Or.inl (by decide)) (by decide) (rc_F F31 (Or.inl (by decide)) (by decide) (hx52))) ?_
            have q61 : σ43.2.1 84 x51 = σ9.2.1 84 x51 := rc_F F48 (Or.inl (by decide)) (by decide) (rc_F F31 (Or.inl (by decide)) (by decide) (rfl))
            refine tn_callV (M := m_X5_call) (pc := 133) (ix := 93) (ci := 9) (M' := m_X9_next) (As := []) (rest := []) dX5_call_133 ok_X9_next im_X9_next se_X9_next ml5_93 np_X9_next rfl rfl hk53o rfl (Nat.le_of_ble_eq_true rfl) (Nat.le_of_ble_eq_true rfl) rfl (k_X9_next_f (d + 49) (T := T10) (σ := σ43) (a := x51) hk53o w47 (RP.tk rp50 w47 h_a (rc_F F48 (Or.inl (by decide)) (by decide) (rc_F F31 (Or.inl (by decide)) (by decide) (hx52)))) ((fx49).1.tk (rc_F F48 (Or.inl (by decide)) (by decide) (rc_F F31 (Or.inl (by decide)) (by decide) (hx52)))) (by rw [(fx49).1.kd (rc_F F48 (Or.inl (by decide)) (by decide) (rc_F F31 (Or.inl (by decide)) (by decide) (hx52)))]; omega)) (fun r57 T59 σ58 gt60 hp => ?_)
            obtain ⟨rfl, rfl, w67, F68, f62, f63, f64, f65⟩ := hp
            clear gt60
            have pc70 : GR Sx [27] i32 (0) (bx) ((tkS Sx jx).2.2.2.2, i4, (tkS Sx jx).1) [2, 27] (i32 + 1) (0) (bx) (((tkS Sx jx).2.2.2.2, i4, (tkS Sx jx).1).1, ((tkS Sx jx).2.2.2.2, i4, (tkS Sx jx).1).2.1 + 1, ((tkS Sx jx).2.2.2.2, i4, (tkS Sx jx).1).2.2) 0 [] := x27y hSb (by omega)
            have rd71 : GR Sx [25] jx 0 (bx) u0 [2, 27, 159] (i32 + 1) (0) (bx) (((tkS Sx jx).2.2.2.2, i4, (tkS Sx jx).1).1, ((tkS Sx jx).2.2.2.2, i4, (tkS Sx jx).1).2.1 + 1, ((tkS Sx jx).2.2.2.2, i4, (tkS Sx jx).1).2.2) (my + m34 + 0) (ey ++ es33) := GR.g0 (l := [27]) (ms := [2, 27]) [159] rd38 pc70
            have fx69 : RDX σ58 a Sx nx (i32 + 1) (es33.foldl uC (ey.foldl uC cx)) (Nx + my + m34) := RDX.nx fx49 w47 h_a (rc_F F48 (Or.inl (by decide)) (by decide) (rc_F F31 (Or.inl (by decide)) (by decide) (hx52))) F68 f65
            have rp72 : RP σ58 a (kp - 4 * v15 - 4) := RP.next4 rp50 (rc_F F48 (Or.inl (by decide)) (by decide) (rc_F F31 (Or.inl (by decide)) (by decide) (hx52))) F68 (by decide) (by decide) (by decide) f62 f64 (by rw [show σ43.2.1 85 x51 = σ9.2.1 85 x51 from rc_F F48 (Or.inl (by decide)) (by decide) (rc_F F31 (Or.inl (by decide)) (by decide) (rfl))]; omega)
            show Tn _ _ 136 T10 σ58 [(4, .int (iI (i4 + 1))), (0, .ref a), (1, .int (iI c1)), (2, .int (iI c2)), (3, .int (iI c3)), (5, .int (iI i5))] [] _
            refine tn_iinc (q0 := 5) (L' := [(5, .int (iI (i5 + 1))), (4, .int (iI (i4 + 1))), (0, .ref a), (1, .int (iI c1)), (2, .int (iI c2)), (3, .int (iI c3))]) dX5_call_136 rfl (by decide) rfl ?_
            refine tn_goto (tgt := 44) dX5_call_139 (by decide) ?_
            have hx73a : ((i4 + 1 : Int) = 0 ∧ ckd (tkS Sx (i32 + 1)) = 41) → GR Sx [25] jx 0 bx u0 [38, 141, 159] (i32 + 1) 0 bx ((tkS Sx jx).2.2.2.2, i4 + 1, (tkS Sx jx).1) (my + m34 + 0) (ey ++ es33) := fun q => absurd q.1 (by omega)
            have hx73 : CLV σ58 a Sx nx bx jx cx Nx (tkS Sx jx).2.2.2.2 (tkS Sx jx).1 (i4 + 1) ((jx : Int) + 2 + (i5 + 1)) := ⟨(i32 + 1), ey ++ es33, my + m34 + 0, by omega, RDX.nq (RDX.cq fx69 (by simp only [List.foldl_append, List.foldl_cons, List.foldl_nil])) (by omega), hx73a, fun _ => rd71⟩
            exact tn_sub [2, 3, 4, 5, 1, 0] rfl (ih _ (by omega) T10 (i4 + 1) (i5 + 1) σ58 (GT.trans hG gt11) w67 (((((FrC.rfl.trans (FrC.sub hF (by decide))).trans (FrC.sub (FrC.old F17 hG) (by decide))).trans (FrC.sub (FrC.old F31 (GT.trans hG gt11)) (by decide))).trans (FrC.sub (FrC.old F48 (GT.trans hG gt11)) (by decide))).trans (FrC.sub (FrC.old F68 (GT.trans hG gt11)) (by decide))) h_a (by omega) (by omega) (by omega) hx73 (RP.up rp72 (by omega)) rfl)
          · have pc75 : GR Sx [27] i32 (0) (bx) ((tkS Sx jx).2.2.2.2, i4, (tkS Sx jx).1) [38, 141] i32 (0) (bx) (((tkS Sx jx).2.2.2.2, i4, (tkS Sx jx).1).1, ((tkS Sx jx).2.2.2.2, i4, (tkS Sx jx).1).2.1 + 1, ((tkS Sx jx).2.2.2.2, i4, (tkS Sx jx).1).2.2) 0 [] := x27n hSb (by omega)
            have rd76 : GR Sx [25] jx 0 (bx) u0 [38, 141, 159] i32 (0) (bx) (((tkS Sx jx).2.2.2.2, i4, (tkS Sx jx).1).1, ((tkS Sx jx).2.2.2.2, i4, (tkS Sx jx).1).2.1 + 1, ((tkS Sx jx).2.2.2.2, i4, (tkS Sx jx).1).2.2) (my + m34 + 0) (ey ++ es33) := GR.g0 (l := [27]) (ms := [38, 141]) [159] rd38 pc75
            have hx74 : CLX σ43 a Sx nx bx jx cx Nx (tkS Sx jx).2.2.2.2 (tkS Sx jx).1 (i4 + 1) ((jx : Int) + 2) := ⟨i32, ey ++ es33, my + m34 + 0, by omega, RDX.nq (RDX.cq fx49 (by simp only [List.foldl_append, List.foldl_cons, List.foldl_nil])) (by omega), rd76⟩
            exact tn_sub [1, 2, 3, 4, 0, 5] rfl (hx_126 T10 (i4 + 1) (i5) σ43 (GT.trans hG gt11) w47 ((((FrC.rfl.trans (FrC.sub hF (by decide))).trans (FrC.sub (FrC.old F17 hG) (by decide))).trans (FrC.sub (FrC.old F31 (GT.trans hG gt11)) (by decide))).trans (FrC.sub (FrC.old F48 (GT.trans hG gt11)) (by decide))) h_a (by omega) (by omega) True.intro True.intro (RP.up rp50 (by omega)) hx74)
        · obtain ⟨pl77, g78, fx79⟩ := f13.2 (by omega)
          have g78g := g78 (bx) ((tkS Sx jx).2.2.2.2, i4, (tkS Sx jx).1)
          have rf80 : GRF Sx [25] jx 0 (bx) u0 (pl77) := GR.fl (l := [2]) [27, 159] rdy g78g
          exact tn_sub [0, 1, 2, 3, 4, 5] rfl (hx_77 T10 (i4) (i5) σ9 (GT.trans hG gt11) w16 ((FrC.rfl.trans (FrC.sub hF (by decide))).trans (FrC.sub (FrC.old F17 hG) (by decide))) h_a (by omega) (by omega) True.intro True.intro (RP.up f14 (by omega)) ⟨_, rf80, fx79⟩)
      · refine tn_iload dX5_call_64 4 rfl ?_
        refine tn_if_le (tgt := 142) dX5_call_66 (by decide) ⟨by omega, by omega⟩ (fun h81 => ?_) (fun h81 => ?_)
        · have hx82 : CLX σ a Sx nx bx jx cx Nx (tkS Sx jx).2.2.2.2 (tkS Sx jx).1 (i4) ((jx : Int) + 2) := ⟨jy, ey, my, by omega, hfy, rda (by omega)⟩
          exact tn_sub [0, 1, 2, 3, 4, 5] rfl (hx_142 T (i4) (i5) σ hG hw (FrC.rfl.trans (FrC.sub hF (by decide))) h_a (by omega) (by omega) True.intro True.intro (RP.up hrp (by omega)) hx82)
        · have rdy := rdb (by omega)
          refine tn_aload_n dX5_call_69 rfl 0 rfl ?_
          refine tn_iconst dX5_call_70 ?_
          refine tn_callV (M := m_X5_call) (pc := 71) (ix := 213) (ci := 5) (M' := m_X5_expression) (As := [.int (iI 1)]) (rest := []) dX5_call_71 ok_X5_expression im_X5_expression se_X5_expression ml5_213 np_X5_expression rfl rfl h_a rfl (Nat.le_of_ble_eq_true rfl) (Nat.le_of_ble_eq_true rfl) rfl (k_X5_expression_f (d) (T := T) (σ := σ) (a := a) (dp := 1) (kp := kp) (eo := 0) h_a (by decide) hw (by omega) hfy (by omega) (by omega) hrp) (fun r83 T85 σ84 gt86 hp => ?_)
          obtain ⟨v90, rfl, w91, F92, f87, f88, f89⟩ := hp
          replace h_a : OB T85 a 5 := gt86.ob h_a
          show Tn _ _ 74 T85 σ84 [(0, .ref a), (1, .int (iI c1)), (2, .int (iI c2)), (3, .int (iI c3)), (4, .int (iI i4)), (5, .int (iI i5))] [.int (iI v90)] _
          refine tn_if_ne (tgt := 79) dX5_call_74 (by decide) ⟨by omega, by omega⟩ (fun h94 => ?_) (fun h94 => ?_)
          · refine tn_aload_n dX5_call_79 rfl 0 rfl ?_
            obtain ⟨x95, hx96, hk97, hl98⟩ : ∃ x : Nat, σ84.2.1 49 a = (x : Int) ∧ AR T85 x 1 8 8 := wf_49 w91 h_a
            have hk97i : IA T85 x95 := by unfold IA; omega
            refine tn_getR (ci := 5) (i := 16) (n := 49) (x := x95) dX5_call_80 rfl lay_5 (by decide) fl5_43 h_a rfl rfl (hx96) ?_
            refine tn_iconst dX5_call_83 ?_
            refine tn_iload dX5_call_84 4 rfl ?_
            refine tn_imul dX5_call_86 ?_
            refine tn_aload_n dX5_call_87 rfl 0 rfl ?_
            refine tn_getI (ci := 5) (i := 17) (n := 50) (t := σ84.2.1 50 a) dX5_call_88 rfl lay_5 (by decide) fl5_216 h_a rfl rfl (rfl) ?_
            have g99 : ((-2147483648 : Int) ≤ σ84.2.1 50 a ∧ σ84.2.1 50 a ≤ 2147483647) := wf_50 w91 h_a
            refine tn_callSN (M := m_X5_call) (pc := 91) (ix := 129) (M' := m_X11_put) (As := [.ref x95, .int (iI (2 * i4)), .int (iI (σ84.2.1 50 a))]) (rest := []) dX5_call_91 ok_X11_put stt_X11_put nl5_129 np_X11_put rfl (Nat.le_of_ble_eq_true rfl) (Nat.le_of_ble_eq_true rfl) rfl (k_X11_put (d + 49) (T := T85) (σ := σ84) (x := x95) (i := 2 * i4) (y := σ84.2.1 50 a) hk97i (by omega) (by omega) (by omega) w91 (nh_k hk97 (by unfold HT; omega)) (vok_1 (by have q9 := hk97; omega) (by omega))) (fun r100 T102 σ101 gt103 hp => ?_)
            obtain ⟨rfl, rfl, w105, F106⟩ := hp
            clear gt103
            obtain ⟨i107, es108, m109, lo110, rr111, fx112⟩ := f88.1 (by omega)
            have rr111g := rr111 (bx) ((tkS Sx jx).2.2.2.2, i4, (tkS Sx jx).1)
            have rd113 : GR Sx [25] jx 0 (bx) u0 [27, 159] i107 (0) (bx) ((tkS Sx jx).2.2.2.2, i4, (tkS Sx jx).1) (my + m109) (ey ++ es108) := GR.gg (l := [2]) (ms := []) [27, 159] rdy rr111g
            have fx114 : RDX σ101 a Sx nx i107 (es108.foldl uC (ey.foldl uC cx)) (Nx + my + m109) := RDX.fc fx112 w91 h_a F106 (by decide) (by decide)
            have rp115 : RP σ101 a (kp - 4 * v90) := RP.frc f89 F106 (by decide) (by decide) (by decide) (by decide) (by decide)
            show Tn _ _ 94 T85 σ101 [(0, .ref a), (1, .int (iI c1)), (2, .int (iI c2)), (3, .int (iI c3)), (4, .int (iI i4)), (5, .int (iI i5))] [] _
            refine tn_aload_n dX5_call_94 rfl 0 rfl ?_
            refine tn_getR (ci := 5) (i := 16) (n := 49) (x := x95) dX5_call_95 rfl lay_5 (by decide) fl5_43 h_a rfl rfl (rc_F F106 (Or.inl (by decide)) (by decide) (hx96)) ?_
            refine tn_iconst dX5_call_98 ?_
            refine tn_iload dX5_call_99 4 rfl ?_
            refine tn_imul dX5_call_101 ?_
            refine tn_iconst dX5_call_102 ?_
            refine tn_iadd dX5_call_103 ?_
            refine tn_aload_n dX5_call_104 rfl 0 rfl ?_
            refine tn_getI (ci := 5) (i := 18) (n := 51) (t := σ84.2.1 51 a) dX5_call_105 rfl lay_5 (by decide) fl5_219 h_a rfl rfl (rc_F F106 (Or.inl (by decide)) (by decide) (rfl)) ?_
            have g116 : ((-2147483648 : Int) ≤ σ84.2.1 51 a ∧ σ84.2.1 51 a ≤ 2147483647) := wf_51 w91 h_a
            refine tn_callSN (M := m_X5_call) (pc := 108) (ix := 129) (M' := m_X11_put) (As := [.ref x95, .int (iI ((2 * i4) + 1)), .int (iI (σ84.2.1 51 a))]) (rest := []) dX5_call_108 ok_X11_put stt_X11_put nl5_129 np_X11_put rfl (Nat.le_of_ble_eq_true rfl) (Nat.le_of_ble_eq_true rfl) rfl (k_X11_put (d + 49) (T := T85) (σ := σ101) (x := x95) (i := (2 * i4) + 1) (y := σ84.2.1 51 a) hk97i (by omega) (by omega) (by omega) w105 (nh_k hk97 (by unfold HT; omega)) (vok_1 (by have q9 := hk97; omega) (by omega))) (fun r117 T119 σ118 gt120 hp => ?_)
            obtain ⟨rfl, rfl, w122, F123⟩ := hp
            clear gt120
            have fx124 : RDX σ118 a Sx nx i107 (es108.foldl uC (ey.foldl uC cx)) (Nx + my + m109) := RDX.fc fx114 w105 h_a F123 (by decide) (by decide)
            have rp125 : RP σ118 a (kp - 4 * v90) := RP.frc rp115 F123 (by decide) (by decide) (by decide) (by decide) (by decide)
            show Tn _ _ 111 T85 σ118 [(0, .ref a), (1, .int (iI c1)), (2, .int (iI c2)), (3, .int (iI c3)), (4, .int (iI i4)), (5, .int (iI i5))] [] _
            refine tn_iinc (q0 := 4) (L' := [(4, .int (iI (i4 + 1))), (0, .ref a), (1, .int (iI c1)), (2, .int (iI c2)), (3, .int (iI c3)), (5, .int (iI i5))]) dX5_call_111 rfl (by decide) rfl ?_
            refine tn_aload_n dX5_call_114 rfl 1 rfl ?_
            obtain ⟨x126, hx127, hk128⟩ : ∃ x : Nat, σ84.2.1 33 a = (x : Int) ∧ (T85 x).1 = 39 := wf_33 w91 h_a
            have hk128o : OB T85 x126 9 := ⟨by omega, by rw [hk128]; rfl, by omega⟩
            refine tn_getR (ci := 5) (i := 0) (n := 33) (x := x126) dX5_call_115 rfl lay_5 (by decide) fl5_12 h_a rfl rfl (rc_F F123 (Or.inl (by decide)) (by decide) (rc_F F106 (Or.inl (by decide)) (by decide) (hx127))) ?_
            refine tn_getI (ci := 9) (i := 4) (n := 85) (t := σ84.2.1 85 x126) dX5_call_118 rfl lay_9 (by decide) fl5_71 hk128o rfl rfl (rc_F F123 (Or.inl (by decide)) (by decide) (rc_F F106 (Or.inl (by decide)) (by decide) (rfl))) ?_
            have g130 : ((-2147483648 : Int) ≤ σ84.2.1 85 x126 ∧ σ84.2.1 85 x126 ≤ 2147483647) := wf_85 w91 hk128o
            have g130kd : σ84.2.1 85 x126 = ckd (tkS Sx i107) := (rc_F F123 (Or.inl (by decide)) (by decide) (rc_F F106 (Or.inl (by decide)) (by decide) (rfl))).symm.trans ((fx124).1.kd (rc_F F123 (Or.inl (by decide)) (by decide) (rc_F F106 (Or.inl (by decide)) (by decide) (hx127))))
            refine tn_bipush dX5_call_121 (by decide) ?_
            refine tn_icmp_eq (tgt := 129) dX5_call_123 (by decide) ⟨by omega, by omega⟩ ⟨by decide, by decide⟩ (fun h131 => ?_) (fun h131 => ?_)
            · refine tn_aload_n dX5_call_129 rfl 1 rfl ?_
              refine tn_getR (ci := 5) (i := 0) (n := 33) (x := x126) dX5_call_130 rfl lay_5 (by decide) fl5_12 h_a rfl rfl (rc_F F123 (Or.inl (by decide)) (by decide) (rc_F F106 (Or.inl (by decide)) (by decide) (hx127))) ?_
              have q136 : σ118.2.1 84 x126 = σ84.2.1 84 x126 := rc_F F123 (Or.inl (by decide)) (by decide) (rc_F F106 (Or.inl (by decide)) (by decide) (rfl))
              refine tn_callV (M := m_X5_call) (pc := 133) (ix := 93) (ci := 9) (M' := m_X9_next) (As := []) (rest := []) dX5_call_133 ok_X9_next im_X9_next se_X9_next ml5_93 np_X9_next rfl rfl hk128o rfl (Nat.le_of_ble_eq_true rfl) (Nat.le_of_ble_eq_true rfl) rfl (k_X9_next_f (d + 49) (T := T85) (σ := σ118) (a := x126) hk128o w122 (RP.tk rp125 w122 h_a (rc_F F123 (Or.inl (by decide)) (by decide) (rc_F F106 (Or.inl (by decide)) (by decide) (hx127)))) ((fx124).1.tk (rc_F F123 (Or.inl (by decide)) (by decide) (rc_F F106 (Or.inl (by decide)) (by decide) (hx127)))) (by rw [(fx124).1.kd (rc_F F123 (Or.inl (by decide)) (by decide) (rc_F F106 (Or.inl (by decide)) (by decide) (hx127)))]; omega)) (fun r132 T134 σ133 gt135 hp => ?_)
              obtain ⟨rfl, rfl, w142, F143, f137, f138, f139, f140⟩ := hp
              clear gt135
              have pc145 : GR Sx [27] i107 (0) (bx) ((tkS Sx jx).2.2.2.2, i4, (tkS Sx jx).1) [2, 27] (i107 + 1) (0) (bx) (((tkS Sx jx).2.2.2.2, i4, (tkS Sx jx).1).1, ((tkS Sx jx).2.2.2.2, i4, (tkS Sx jx).1).2.1 + 1, ((tkS Sx jx).2.2.2.2, i4, (tkS Sx jx).1).2.2) 0 [] := x27y hSb (by omega)
              have rd146 : GR Sx [25] jx 0 (bx) u0 [2, 27, 159] (i107 + 1) (0) (bx) (((tkS Sx jx).2.2.2.2, i4, (tkS Sx jx).1).1, ((tkS Sx jx).2.2.2.2, i4, (tkS Sx jx).1).2.1 + 1, ((tkS Sx jx).2.2.2.2, i4, (tkS Sx jx).1).2.2) (my + m109 + 0) (ey ++ es108) := GR.g0 (l := [27]) (ms := [2, 27]) [159] rd113 pc145
              have fx144 : RDX σ133 a Sx nx (i107 + 1) (es108.foldl uC (ey.foldl uC cx)) (Nx + my + m109) := RDX.nx fx124 w122 h_a (rc_F F123 (Or.inl (by decide)) (by decide) (rc_F F106 (Or.inl (by decide)) (by decide) (hx127))) F143 f140
              have rp147 : RP σ133 a (kp - 4 * v90 - 4) := RP.next4 rp125 (rc_F F123 (Or.inl (by decide)) (by decide) (rc_F F106 (Or.inl (by decide)) (by decide) (hx127))) F143 (by decide) (by decide) (by decide) f137 f139 (by rw [show σ118.2.1 85 x126 = σ84.2.1 85 x126 from rc_F F123 (Or.inl (by decide)) (by decide) (rc_F F106 (Or.inl (by decide)) (by decide) (rfl))]; omega)
              show Tn _ _ 136 T85 σ133 [(4, .int (iI (i4 + 1))), (0, .ref a), (1, .int (iI c1)), (2, .int (iI c2)), (3, .int (iI c3)), (5, .int (iI i5))] [] _
              refine tn_iinc (q0 := 5) (L' := [(5, .int (iI (i5 + 1))), (4, .int (iI (i4 + 1))), (0, .ref a), (1, .int (iI c1)), (2, .int (iI c2)), (3, .int (iI c3))]) dX5_call_136 rfl (by decide) rfl ?_
              refine tn_goto (tgt := 44) dX5_call_139 (by decide) ?_
              have hx148a : ((i4 + 1 : Int) = 0 ∧ ckd (tkS Sx (i107 + 1)) = 41) → GR Sx [25] jx 0 bx u0 [38, 141, 159] (i107 + 1) 0 bx ((tkS Sx jx).2.2.2.2, i4 + 1, (tkS Sx jx).1) (my + m109 + 0) (ey ++ es108) := fun q => absurd q.1 (by omega)
              have hx148 : CLV σ133 a Sx nx bx jx cx Nx (tkS Sx jx).2.2.2.2 (tkS Sx jx).1 (i4 + 1) ((jx : Int) + 2 + (i5 + 1)) := ⟨(i107 + 1), ey ++ es108, my + m109 + 0, by omega, RDX.nq (RDX.cq fx144 (by simp only [List.foldl_append, List.foldl_cons, List.foldl_nil])) (by omega), hx148a, fun _ => rd146⟩
              exact tn_sub [2, 3, 4, 5, 1, 0] rfl (ih _ (by omega) T85 (i4 + 1) (i5 + 1) σ133 (GT.trans hG gt86) w142 (((((FrC.rfl.trans (FrC.sub hF (by decide))).trans (FrC.sub (FrC.old F92 hG) (by decide))).trans (FrC.sub (FrC.old F106 (GT.trans hG gt86)) (by decide))).trans (FrC.sub (FrC.old F123 (GT.trans hG gt86)) (by decide))).trans (FrC.sub (FrC.old F143 (GT.trans hG gt86)) (by decide))) h_a (by omega) (by omega) (by omega) hx148 (RP.up rp147 (by omega)) rfl)
            · have pc150 : GR Sx [27] i107 (0) (bx) ((tkS Sx jx).2.2.2.2, i4, (tkS Sx jx).1) [38, 141] i107 (0) (bx) (((tkS Sx jx).2.2.2.2, i4, (tkS Sx jx).1).1, ((tkS Sx jx).2.2.2.2, i4, (tkS Sx jx).1).2.1 + 1, ((tkS Sx jx).2.2.2.2, i4, (tkS Sx jx).1).2.2) 0 [] := x27n hSb (by omega)
              have rd151 : GR Sx [25] jx 0 (bx) u0 [38, 141, 159] i107 (0) (bx) (((tkS Sx jx).2.2.2.2, i4, (tkS Sx jx).1).1, ((tkS Sx jx).2.2.2.2, i4, (tkS Sx jx).1).2.1 + 1, ((tkS Sx jx).2.2.2.2, i4, (tkS Sx jx).1).2.2) (my + m109 + 0) (ey ++ es108) := GR.g0 (l := [27]) (ms := [38, 141]) [159] rd113 pc150
              have hx149 : CLX σ118 a Sx nx bx jx cx Nx (tkS Sx jx).2.2.2.2 (tkS Sx jx).1 (i4 + 1) ((jx : Int) + 2) := ⟨i107, ey ++ es108, my + m109 + 0, by omega, RDX.nq (RDX.cq fx124 (by simp only [List.foldl_append, List.foldl_cons, List.foldl_nil])) (by omega), rd151⟩
              exact tn_sub [1, 2, 3, 4, 0, 5] rfl (hx_126 T85 (i4 + 1) (i5) σ118 (GT.trans hG gt86) w122 ((((FrC.rfl.trans (FrC.sub hF (by decide))).trans (FrC.sub (FrC.old F92 hG) (by decide))).trans (FrC.sub (FrC.old F106 (GT.trans hG gt86)) (by decide))).trans (FrC.sub (FrC.old F123 (GT.trans hG gt86)) (by decide))) h_a (by omega) (by omega) True.intro True.intro (RP.up rp125 (by omega)) hx149)
          · obtain ⟨pl152, g153, fx154⟩ := f88.2 (by omega)
            have g153g := g153 (bx) ((tkS Sx jx).2.2.2.2, i4, (tkS Sx jx).1)
            have rf155 : GRF Sx [25] jx 0 (bx) u0 (pl152) := GR.fl (l := [2]) [27, 159] rdy g153g
            exact tn_sub [0, 1, 2, 3, 4, 5] rfl (hx_77 T85 (i4) (i5) σ84 (GT.trans hG gt86) w91 ((FrC.rfl.trans (FrC.sub hF (by decide))).trans (FrC.sub (FrC.old F92 hG) (by decide))) h_a (by omega) (by omega) True.intro True.intro (RP.up f89 (by omega)) ⟨_, rf155, fx154⟩)
set_option maxHeartbeats 4000000 in
set_option maxRecDepth 20000 in
theorem l_X5_call_f_184 (d : Nat) {T : CT} {σ0 : MS} {a : Nat} {Sx : Int → Int} {nx : Nat} {jx : Nat} {cy : CS} {Ny : Int} {kp : Int} {post : Option Value → CT → MS → Prop} (h_a : OB T a 5) (hw0 : WT T σ0) (hkp : kp ≤ 150) (hx_229 : ∀ (i5 : Int) (σ : MS) , (WT T σ) → (FrC T [] σ0 σ) → (0 ≤ i5 ∧ i5 ≤ 2147483647) → (RDX σ a Sx nx jx cy Ny) → (RP σ a kp) → Tn (d + 51) m_X5_call 229 T σ [(0, .ref a), (5, .int (iI i5))] [] post) : ∀ (n : Nat) (i5 : Int) (σ : MS) , (WT T σ) → (FrC T [] σ0 σ) → (0 ≤ i5 ∧ i5 ≤ 2147483647) → (RDX σ a Sx nx jx cy Ny) → (RP σ a kp) → (2147483700 - i5).toNat = n → Tn (d + 51) m_X5_call 184 T σ [(0, .ref a), (5, .int (iI i5))] [] post := by
  intro n
  induction n using Nat.strongRecOn with
  | _ n ih =>
    intro i5 σ hw hF r_i5 hcy hrp hm
    refine tn_iload dX5_call_184 1 rfl ?_
    refine tn_iconst dX5_call_186 ?_
    refine tn_icmp_ge (tgt := 229) dX5_call_187 (by decide) ⟨by omega, by omega⟩ ⟨by decide, by decide⟩ (fun h1 => ?_) (fun h1 => ?_)
    · exact tn_sub [0, 1] rfl (hx_229 (i5) σ hw (FrC.rfl.trans (FrC.sub hF (by decide))) (by omega) hcy (RP.up hrp (by omega)))
    · refine tn_aload_n dX5_call_190 rfl 0 rfl ?_
      obtain ⟨x2, hx3, hk4⟩ : ∃ x : Nat, σ0.2.1 35 a = (x : Int) ∧ (T x).1 = 31 := wf_35 hw0 h_a
      have hk4o : OB T x2 1 := ⟨by omega, by rw [hk4]; rfl, by omega⟩
      refine tn_getR (ci := 5) (i := 2) (n := 35) (x := x2) dX5_call_191 rfl lay_5 (by decide) fl5_47 h_a rfl rfl (rc_F hF (Or.inl (by decide)) (by decide) (hx3)) ?_
      refine tn_iload dX5_call_194 1 rfl ?_
      refine tn_aload_n dX5_call_196 rfl 0 rfl ?_
      obtain ⟨x6, hx7, hk8, hl9⟩ : ∃ x : Nat, σ0.2.1 49 a = (x : Int) ∧ AR T x 1 8 8 := wf_49 hw0 h_a
      have hk8i : IA T x6 := by unfold IA; omega
      refine tn_getR (ci := 5) (i := 16) (n := 49) (x := x6) dX5_call_197 rfl lay_5 (by decide) fl5_43 h_a rfl rfl (rc_F hF (Or.inl (by decide)) (by decide) (hx7)) ?_
      refine tn_iconst dX5_call_200 ?_
      refine tn_iload dX5_call_201 1 rfl ?_
      refine tn_imul dX5_call_203 ?_
      refine tn_callSN (M := m_X5_call) (pc := 204) (ix := 231) (M' := m_X11_at) (As := [.ref x6, .int (iI (2 * i5))]) (rest := [.int (iI i5), .ref x2]) dX5_call_204 ok_X11_at stt_X11_at nl5_231 np_X11_at rfl (Nat.le_of_ble_eq_true rfl) (Nat.le_of_ble_eq_true rfl) rfl (k_X11_at (d + 49) (T := T) (σ := σ) (x := x6) (i := 2 * i5) hk8i (by omega) (by omega) hw ) (fun r10 T12 σ11 gt13 hp => ?_)
      obtain ⟨v17, rfl, rfl, rfl, f14, f15, f16⟩ := hp
      clear gt13
      clear f15 f16
      show Tn _ _ 207 T σ [(0, .ref a), (5, .int (iI i5))] [.int (iI v17), .int (iI i5), .ref x2] _
      refine tn_aload_n dX5_call_207 rfl 0 rfl ?_
      refine tn_getR (ci := 5) (i := 16) (n := 49) (x := x6) dX5_call_208 rfl lay_5 (by decide) fl5_43 h_a rfl rfl (rc_F hF (Or.inl (by decide)) (by decide) (hx7)) ?_
      refine tn_iconst dX5_call_211 ?_
      refine tn_iload dX5_call_212 1 rfl ?_
      refine tn_imul dX5_call_214 ?_
      refine tn_iconst dX5_call_215 ?_
      refine tn_iadd dX5_call_216 ?_
      refine tn_callSN (M := m_X5_call) (pc := 217) (ix := 231) (M' := m_X11_at) (As := [.ref x6, .int (iI ((2 * i5) + 1))]) (rest := [.int (iI v17), .int (iI i5), .ref x2]) dX5_call_217 ok_X11_at stt_X11_at nl5_231 np_X11_at rfl (Nat.le_of_ble_eq_true rfl) (Nat.le_of_ble_eq_true rfl) rfl (k_X11_at (d + 49) (T := T) (σ := σ) (x := x6) (i := (2 * i5) + 1) hk8i (by omega) (by omega) hw ) (fun r18 T20 σ19 gt21 hp => ?_)
      obtain ⟨v25, rfl, rfl, rfl, f22, f23, f24⟩ := hp
      clear gt21
      clear f23 f24
      show Tn _ _ 220 T σ [(0, .ref a), (5, .int (iI i5))] [.int (iI v25), .int (iI v17), .int (iI i5), .ref x2] _
      refine tn_callV (M := m_X5_call) (pc := 220) (ix := 143) (ci := 1) (M' := m_X1_lastOperand) (As := [.int (iI i5), .int (iI v17), .int (iI v25)]) (rest := []) dX5_call_220 ok_X1_lastOperand im_X1_lastOperand se_X1_lastOperand ml5_143 np_X1_lastOperand rfl rfl hk4o rfl (Nat.le_of_ble_eq_true rfl) (Nat.le_of_ble_eq_true rfl) rfl (k_X1_lastOperand (d + 49) (T := T) (σ := σ) (a := x2) (i := i5) (k := v17) (y := v25) hk4o (by omega) (by omega) (by omega) hw ) (fun r26 T28 σ27 gt29 hp => ?_)
      obtain ⟨rfl, rfl, w31, F32⟩ := hp
      clear gt29
      have fx33 : RDX σ27 a Sx nx jx (cy) (Ny) := RDX.fc hcy hw h_a F32 (by decide) (by decide)
      have rp34 : RP σ27 a (kp) := RP.frc hrp F32 (by decide) (by decide) (by decide) (by decide) (by decide)
      show Tn _ _ 223 T σ27 [(0, .ref a), (5, .int (iI i5))] [] _
      refine tn_iinc (q0 := 1) (L' := [(5, .int (iI (i5 + 1))), (0, .ref a)]) dX5_call_223 rfl (by decide) rfl ?_
      refine tn_goto (tgt := 184) dX5_call_226 (by decide) ?_
      exact tn_sub [1, 0] rfl (ih _ (by omega) (i5 + 1) σ27 w31 ((FrC.rfl.trans (FrC.sub hF (by decide))).trans (FrC.sub F32 (by decide))) (by omega) fx33 (RP.up rp34 (by omega)) rfl)
set_option maxHeartbeats 4000000 in
set_option maxRecDepth 20000 in
theorem k_X5_call_f (d : Nat) {T : CT} {σ : MS} {a : Nat} {r : Int} {kp : Int} {Sx : Int → Int} {nx jx : Nat} {cx : CS} {Nx : Int} {bx : Int} (ha : OB T a 5) (h_r : -2147483648 ≤ r ∧ r ≤ 2147483647) (hw : WT T σ) (hfx : RDX σ a Sx nx jx cx Nx) (hk1 : ckd (tkS Sx jx) = 256) (hk2 : ckd (tkS Sx (jx + 1)) = 40) (hpo : 6 * cx.cn + 2 ≤ (jx : Int)) (hkp : kp ≤ 150) (hrp : RP σ a kp) : Tn (d + 51) m_X5_call 0 T σ [(0, .ref a), (1, .int (iI r))] [] (fun ro T2 σ2 => ∃ v : Int, ro = some (.int (iI v)) ∧ WT T2 σ2 ∧ FrC T [5, 6, 7, 42, 43, 44, 47, 50, 51, 84, 85, 86, 87, 518, 519, 520, 521] σ σ2 ∧ (v = 0 ∨ v = 1) ∧ (YQ σ2 a Sx nx bx [25] jx cx (Nx - 1) 2 v) ∧ (RP σ2 a (kp - 7 * v))) := by
  have hSb := hfx.1.sb
  have e45 := hfx.e45
  have hpo9 := hfx.po
  unfold PO at hpo9
  have e42 : σ.2.1 42 a = cx.cn := hfx.1.2.1.1.2.2.2.1
  refine tn_aload_n dX5_call_0 rfl 0 rfl ?_
  obtain ⟨x1, hx2, hk3⟩ : ∃ x : Nat, σ.2.1 33 a = (x : Int) ∧ (T x).1 = 39 := wf_33 hw ha
  have hk3o : OB T x1 9 := ⟨by omega, by rw [hk3]; rfl, by omega⟩
  refine tn_getR (ci := 5) (i := 0) (n := 33) (x := x1) dX5_call_1 rfl lay_5 (by decide) fl5_12 ha rfl rfl (hx2) ?_
  refine tn_getI (ci := 9) (i := 5) (n := 86) (t := σ.2.1 86 x1) dX5_call_4 rfl lay_9 (by decide) fl5_96 hk3o rfl rfl (rfl) ?_
  have g5 : ((-2147483648 : Int) ≤ σ.2.1 86 x1 ∧ σ.2.1 86 x1 ≤ 2147483647) := wf_86 hw hk3o
  have g5ky : NKY (tkS Sx jx) (σ.2.1 86 x1) := by rw [← show σ.2.1 86 x1 = σ.2.1 86 x1 from rfl]; exact (hfx).1.ky (hx2)
  have hkw9 : KW (σ.2.1 86 x1) (tkS Sx jx).2.2.2.2 := (hfx.1.ky hx2).kw ((ck_nam (tkS_v hSb jx)).mp hk1).1
  have hpl9 : σ.2.1 87 x1 = (tkS Sx jx).1 := hfx.1.pl hx2
  refine tn_istore_n (L' := [(2, .int (iI (σ.2.1 86 x1))), (0, .ref a), (1, .int (iI r))]) dX5_call_7 rfl (by decide) rfl ?_
  refine tn_aload_n dX5_call_8 rfl 1 rfl ?_
  refine tn_getR (ci := 5) (i := 0) (n := 33) (x := x1) dX5_call_9 rfl lay_5 (by decide) fl5_12 ha rfl rfl (hx2) ?_
  refine tn_getI (ci := 9) (i := 6) (n := 87) (t := σ.2.1 87 x1) dX5_call_12 rfl lay_9 (by decide) fl5_74 hk3o rfl rfl (rfl) ?_
  have g6 : ((-2147483648 : Int) ≤ σ.2.1 87 x1 ∧ σ.2.1 87 x1 ≤ 2147483647) := wf_87 hw hk3o
  have g6pl : σ.2.1 87 x1 = (tkS Sx jx).1 := (rfl).symm.trans ((hfx).1.pl (hx2))
  refine tn_istore_n (L' := [(3, .int (iI (σ.2.1 87 x1))), (2, .int (iI (σ.2.1 86 x1))), (0, .ref a), (1, .int (iI r))]) dX5_call_15 rfl (by decide) rfl ?_
  refine tn_aload_n dX5_call_16 rfl 2 rfl ?_
  refine tn_getR (ci := 5) (i := 0) (n := 33) (x := x1) dX5_call_17 rfl lay_5 (by decide) fl5_12 ha rfl rfl (hx2) ?_
  refine tn_callV (M := m_X5_call) (pc := 20) (ix := 93) (ci := 9) (M' := m_X9_next) (As := []) (rest := []) dX5_call_20 ok_X9_next im_X9_next se_X9_next ml5_93 np_X9_next rfl rfl hk3o rfl (Nat.le_of_ble_eq_true rfl) (Nat.le_of_ble_eq_true rfl) rfl (k_X9_next_f (d + 49) (T := T) (σ := σ) (a := x1) hk3o hw (RP.tk hrp hw ha (hx2)) ((hfx).1.tk (hx2)) (by rw [(hfx).1.kd (hx2)]; omega)) (fun r7 T9 σ8 gt10 hp => ?_)
  obtain ⟨rfl, rfl, w16, F17, f11, f12, f13, f14⟩ := hp
  clear gt10
  have pc19 : GR Sx [25] jx (0) (bx) u0 [26, 159] (jx + 1) (0) (bx) ((tkS Sx jx).2.2.2.2, 0, (tkS Sx jx).1) 0 [] := x25c hSb hk1 hk2
  have rd200 : GR Sx [25] jx 0 (bx) u0 [25] jx (0) (bx) u0 (0) ([]) := GR.nl
  have rd20 : GR Sx [25] jx 0 (bx) u0 [26, 159] (jx + 1) (0) (bx) ((tkS Sx jx).2.2.2.2, 0, (tkS Sx jx).1) (0 + 0) ([]) := GR.g0 (l := [25]) (ms := [26, 159]) [] rd200 pc19
  have fx18 : RDX σ8 a Sx nx (jx + 1) (cx) (Nx) := RDX.nx hfx hw ha (hx2) F17 f14
  have rp21 : RP σ8 a (kp) := RP.next hrp (hx2) F17 (by decide) (by decide) (by decide) f11 f12
  show Tn _ _ 23 T σ8 [(3, .int (iI (σ.2.1 87 x1))), (2, .int (iI (σ.2.1 86 x1))), (0, .ref a), (1, .int (iI r))] [] _
  refine tn_aload_n dX5_call_23 rfl 2 rfl ?_
  refine tn_getR (ci := 5) (i := 0) (n := 33) (x := x1) dX5_call_24 rfl lay_5 (by decide) fl5_12 ha rfl rfl (rc_F F17 (Or.inl (by decide)) (by decide) (hx2)) ?_
  refine tn_callV (M := m_X5_call) (pc := 27) (ix := 93) (ci := 9) (M' := m_X9_next) (As := []) (rest := []) dX5_call_27 ok_X9_next im_X9_next se_X9_next ml5_93 np_X9_next rfl rfl hk3o rfl (Nat.le_of_ble_eq_true rfl) (Nat.le_of_ble_eq_true rfl) rfl (k_X9_next_f (d + 49) (T := T) (σ := σ8) (a := x1) hk3o w16 (RP.tk rp21 w16 ha (rc_F F17 (Or.inl (by decide)) (by decide) (hx2))) ((fx18).1.tk (rc_F F17 (Or.inl (by decide)) (by decide) (hx2))) (by rw [(fx18).1.kd (rc_F F17 (Or.inl (by decide)) (by decide) (hx2))]; omega)) (fun r22 T24 σ23 gt25 hp => ?_)
  obtain ⟨rfl, rfl, w31, F32, f26, f27, f28, f29⟩ := hp
  clear gt25
  have fx33 : RDX σ23 a Sx nx ((jx + 1) + 1) (cx) (Nx) := RDX.nx fx18 w16 ha (rc_F F17 (Or.inl (by decide)) (by decide) (hx2)) F32 f29
  have rp34 : RP σ23 a (kp) := RP.next rp21 (rc_F F17 (Or.inl (by decide)) (by decide) (hx2)) F32 (by decide) (by decide) (by decide) f26 f27
  show Tn _ _ 30 T σ23 [(3, .int (iI (σ.2.1 87 x1))), (2, .int (iI (σ.2.1 86 x1))), (0, .ref a), (1, .int (iI r))] [] _
  refine tn_iconst dX5_call_30 ?_
  refine tn_istore (L' := [(4, .int (iI 0)), (3, .int (iI (σ.2.1 87 x1))), (2, .int (iI (σ.2.1 86 x1))), (0, .ref a), (1, .int (iI r))]) dX5_call_31 (by decide) rfl ?_
  refine tn_aload_n dX5_call_33 rfl 3 rfl ?_
  obtain ⟨x35, hx36, hk37, hl38⟩ : ∃ x : Nat, σ.2.1 49 a = (x : Int) ∧ AR T x 1 8 8 := wf_49 hw ha
  have hk37i : IA T x35 := by unfold IA; omega
  refine tn_getR (ci := 5) (i := 16) (n := 49) (x := x35) dX5_call_34 rfl lay_5 (by decide) fl5_43 ha rfl rfl (rc_F F32 (Or.inl (by decide)) (by decide) (rc_F F17 (Or.inl (by decide)) (by decide) (hx36))) ?_
  refine tn_iconst dX5_call_37 ?_
  refine tn_callS (M := m_X5_call) (pc := 38) (ix := 222) (M' := m_J7_fill_53178) (As := [.ref x35, .int (iI 0)]) (rest := []) dX5_call_38 ok_J7_fill_53178 stt_J7_fill_53178 ml5_222 np_J7_fill_53178 rfl (Nat.le_of_ble_eq_true rfl) (Nat.le_of_ble_eq_true rfl) rfl (k_J7_fill_53178 (d + 49) (T := T) (σ := σ23) (x := x35) (y := 0) hk37i (by omega) (by decide) w31 (nh_k hk37 (by unfold HT; omega)) (by omega)) (fun r39 T41 σ40 gt42 hp => ?_)
  obtain ⟨rfl, rfl, w44, F45⟩ := hp
  clear gt42
  have fx46 : RDX σ40 a Sx nx ((jx + 1) + 1) (cx) (Nx) := RDX.fc fx33 w31 ha F45 (by decide) (by decide)
  have rp47 : RP σ40 a (kp) := RP.frc rp34 F45 (by decide) (by decide) (by decide) (by decide) (by decide)
  show Tn _ _ 41 T σ40 [(4, .int (iI 0)), (3, .int (iI (σ.2.1 87 x1))), (2, .int (iI (σ.2.1 86 x1))), (0, .ref a), (1, .int (iI r))] [] _
  refine tn_iconst dX5_call_41 ?_
  refine tn_istore (L' := [(5, .int (iI 0)), (4, .int (iI 0)), (3, .int (iI (σ.2.1 87 x1))), (2, .int (iI (σ.2.1 86 x1))), (0, .ref a), (1, .int (iI r))]) dX5_call_42 (by decide) rfl ?_
  have hx48c : (cx) = ([] : List EW).foldl uC cx := rfl
  have hx48a : (0 : Int) = 0 ∧ ckd (tkS Sx ((jx + 1) + 1)) = 41 → GR Sx [25] jx 0 bx u0 [38, 141, 159] ((jx + 1) + 1) 0 bx ((tkS Sx jx).2.2.2.2, 0, (tkS Sx jx).1) (0 + 0 + 0) [] := fun q => GR.g0 (l := [26]) (ms := [38, 141]) [159] rd20 (x26y hSb q.2)
  have hx48b : ¬ ((0 : Int) = 0 ∧ ckd (tkS Sx ((jx + 1) + 1)) = 41) → GR Sx [25] jx 0 bx u0 [2, 27, 159] ((jx + 1) + 1) 0 bx ((tkS Sx jx).2.2.2.2, 0, (tkS Sx jx).1) (0 + 0 + 0) [] := fun q => GR.g0 (l := [26]) (ms := [2, 27]) [159] rd20 (x26n hSb (fun w => q ⟨rfl, w⟩))
  have hx48 : CLV σ40 a Sx nx bx jx cx Nx (tkS Sx jx).2.2.2.2 (tkS Sx jx).1 (0) ((jx : Int) + 2 + (0)) := ⟨((jx + 1) + 1), [], 0 + 0 + 0, by omega, RDX.nq fx46 (by omega), hx48a, hx48b⟩
  refine tn_sub [4, 5, 3, 2, 1, 0] rfl (l_X5_call_f_44 (d) (σ0 := σ40) (T0 := T) (a := a) (c1 := r) (c2 := σ.2.1 86 x1) (c3 := σ.2.1 87 x1) (kp := kp) (Sx := Sx) (nx := nx) (jx := jx) (cx := cx) (Nx := Nx) (bx := bx) (by omega) (by omega) (by omega) w44 (by omega) (fun T52 i449 i550 σ51 gt53 w54 F55 q56 r57 r58 f59 f60 f61 f62 => ?_) (fun T66 i463 i564 σ65 gt67 w68 F69 q70 r71 r72 f73 f74 f75 f76 => ?_) (fun T80 i477 i578 σ79 gt81 w82 F83 q84 r85 r86 f87 f88 f89 f90 => ?_) _ T (0) (0) σ40 GT.rfl w44 FrC.rfl ha (by omega) (by omega) (by omega) hx48 rp47 rfl)
  · show Tn _ _ 77 T52 σ51 [(0, .ref a), (1, .int (iI r)), (2, .int (iI (σ.2.1 86 x1))), (3, .int (iI (σ.2.1 87 x1))), (4, .int (iI i449)), (5, .int (iI i550))] [] _
    refine tn_iconst dX5_call_77 ?_
    exact tn_zret (v := 0) rfl (by decide) dX5_call_78 ⟨_, rfl, w54, ((((FrC.rfl.trans (FrC.sub F17 (by decide))).trans (FrC.sub F32 (by decide))).trans (FrC.sub F45 (by decide))).trans (FrC.sub F55 (by decide))), by omega, ⟨fun q => absurd q (by decide), fun _ => f62⟩, (RP.up f61 (by omega))⟩
  · obtain ⟨i91, es92, m93, lo94, fx95, rr96⟩ := f76
    show Tn _ _ 126 T66 σ65 [(0, .ref a), (1, .int (iI r)), (2, .int (iI (σ.2.1 86 x1))), (3, .int (iI (σ.2.1 87 x1))), (4, .int (iI i463)), (5, .int (iI i564))] [] _
    refine tn_goto (tgt := 142) dX5_call_126 (by decide) ?_
    refine tn_aload_n dX5_call_142 rfl 0 rfl ?_
    refine tn_bipush dX5_call_143 (by decide) ?_
    refine tn_callV (M := m_X5_call) (pc := 145) (ix := 102) (ci := 5) (M' := m_X5_taken) (As := [.int (iI 41)]) (rest := []) dX5_call_145 ok_X5_taken im_X5_taken se_X5_taken ml5_102 np_X5_taken rfl rfl q70 rfl (Nat.le_of_ble_eq_true rfl) (Nat.le_of_ble_eq_true rfl) rfl (k_X5_taken_f (d + 48) (T := T66) (σ := σ65) (a := a) (s := 41) (kp := kp) q70 (by decide) w68 (by omega) fx95 (by omega) f75) (fun r97 T99 σ98 gt100 hp => ?_)
    obtain ⟨v104, rfl, rfl, w105, F106, f101, f102, f103⟩ := hp
    clear gt100
    have pc107 : GR Sx [38] i91 (0) (bx) ((tkS Sx jx).2.2.2.2, i463, (tkS Sx jx).1) [] i91 (0) (bx) u0 2 [(1, ((tkS Sx jx).2.2.2.2, i463, (tkS Sx jx).1).2.2, ((tkS Sx jx).2.2.2.2, i463, (tkS Sx jx).1).2.1, ((tkS Sx jx).2.2.2.2, i463, (tkS Sx jx).1).1)] := x38 hSb 
    have rd108 : GR Sx [25] jx 0 (bx) u0 [141, 159] i91 (0) (bx) u0 (m93 + 2) (es92 ++ [(1, ((tkS Sx jx).2.2.2.2, i463, (tkS Sx jx).1).2.2, ((tkS Sx jx).2.2.2.2, i463, (tkS Sx jx).1).2.1, ((tkS Sx jx).2.2.2.2, i463, (tkS Sx jx).1).1)]) := GR.gg (l := [38]) (ms := []) [141, 159] rr96 pc107
    show Tn _ _ 148 T66 σ98 [(0, .ref a), (1, .int (iI r)), (2, .int (iI (σ.2.1 86 x1))), (3, .int (iI (σ.2.1 87 x1))), (4, .int (iI i463)), (5, .int (iI i564))] [.int (iI v104)] _
    refine tn_if_eq (tgt := 160) dX5_call_148 (by decide) ⟨by omega, by omega⟩ (fun h110 => ?_) (fun h110 => ?_)
    · refine tn_iconst dX5_call_160 ?_
      obtain ⟨kd113, fx114, tk115⟩ := f102.2 (by omega)
      have pc116 : GRF Sx [141] i91 (0) (bx) u0 (tkS Sx i91).1 := z41 hSb kd113
      have rf117 : GRF Sx [25] jx 0 (bx) u0 ((tkS Sx i91).1) := GR.fl (l := [141]) [159] rd108 pc116
      have rb112 : YF σ98 a Sx bx [25] jx := ⟨_, rf117, fx114⟩
      exact tn_zret (v := 0) rfl (by decide) dX5_call_161 ⟨_, rfl, w105, (((((FrC.rfl.trans (FrC.sub F17 (by decide))).trans (FrC.sub F32 (by decide))).trans (FrC.sub F45 (by decide))).trans (FrC.sub F69 (by decide))).trans (FrC.sub (FrC.old F106 gt67) (by decide))), by omega, ⟨fun q => absurd q (by decide), fun _ => rb112⟩, (RP.up f103 (by omega))⟩
    · refine tn_aload_n dX5_call_151 rfl 0 rfl ?_
      refine tn_bipush dX5_call_152 (by decide) ?_
      obtain ⟨kd119, fx118⟩ := f102.1 (by omega)
      have pc120 : GR Sx [141] i91 (0) (bx) u0 [] (i91 + 1) (0) (bx) u0 0 [] := y41 hSb kd119
      have rd121 : GR Sx [25] jx 0 (bx) u0 [159] (i91 + 1) (0) (bx) u0 (m93 + 2 + 0) (es92 ++ [(1, ((tkS Sx jx).2.2.2.2, i463, (tkS Sx jx).1).2.2, ((tkS Sx jx).2.2.2.2, i463, (tkS Sx jx).1).2.1, ((tkS Sx jx).2.2.2.2, i463, (tkS Sx jx).1).1)]) := GR.g0 (l := [141]) (ms := []) [159] rd108 pc120
      refine tn_callV (M := m_X5_call) (pc := 154) (ix := 102) (ci := 5) (M' := m_X5_taken) (As := [.int (iI 59)]) (rest := []) dX5_call_154 ok_X5_taken im_X5_taken se_X5_taken ml5_102 np_X5_taken rfl rfl q70 rfl (Nat.le_of_ble_eq_true rfl) (Nat.le_of_ble_eq_true rfl) rfl (k_X5_taken_f (d + 48) (T := T66) (σ := σ98) (a := a) (s := 59) (kp := kp - 4 * v104) q70 (by decide) w105 (by omega) fx118 (by omega) f103) (fun r122 T124 σ123 gt125 hp => ?_)
      obtain ⟨v129, rfl, rfl, w130, F131, f126, f127, f128⟩ := hp
      clear gt125
      show Tn _ _ 157 T66 σ123 [(0, .ref a), (1, .int (iI r)), (2, .int (iI (σ.2.1 86 x1))), (3, .int (iI (σ.2.1 87 x1))), (4, .int (iI i463)), (5, .int (iI i564))] [.int (iI v129)] _
      refine tn_if_ne (tgt := 162) dX5_call_157 (by decide) ⟨by omega, by omega⟩ (fun h133 => ?_) (fun h133 => ?_)
      · refine tn_aload_n dX5_call_162 rfl 0 rfl ?_
        refine tn_iload_n dX5_call_163 rfl 2 rfl ?_
        refine tn_iload_n dX5_call_164 rfl 3 rfl ?_
        refine tn_iload dX5_call_165 4 rfl ?_
        obtain ⟨kd135, fx134⟩ := f127.1 (by omega)
        have pc136 : GR Sx [159] (i91 + 1) (0) (bx) u0 [] ((i91 + 1) + 1) (0) (bx) u0 0 [] := y59 hSb kd135
        have rd137 : GR Sx [25] jx 0 (bx) u0 [] ((i91 + 1) + 1) (0) (bx) u0 (m93 + 2 + 0 + 0) (es92 ++ [(1, ((tkS Sx jx).2.2.2.2, i463, (tkS Sx jx).1).2.2, ((tkS Sx jx).2.2.2.2, i463, (tkS Sx jx).1).2.1, ((tkS Sx jx).2.2.2.2, i463, (tkS Sx jx).1).1)]) := GR.g0 (l := [159]) (ms := []) [] rd121 pc136
        have q42138 : (es92.foldl uC cx).cn = σ.2.1 42 a := (fx134.1.2.1.1.2.2.2.1).symm.trans (rc_F F131 (Or.inl (by decide)) (by decide) (rc_F F106 (Or.inl (by decide)) (by decide) (rc_F F69 (Or.inl (by decide)) (by decide) (rc_F F45 (Or.inl (by decide)) (by decide) (rc_F F32 (Or.inl (by decide)) (by decide) (rc_F F17 (Or.inl (by decide)) (by decide) (rfl)))))))
        refine tn_callV (M := m_X5_call) (pc := 167) (ix := 228) (ci := 5) (M' := m_X5_listCall) (As := [.int (iI (σ.2.1 86 x1)), .int (iI (σ.2.1 87 x1)), .int (iI i463)]) (rest := []) dX5_call_167 ok_X5_listCall im_X5_listCall se_X5_listCall ml5_228 np_X5_listCall rfl rfl q70 rfl (Nat.le_of_ble_eq_true rfl) (Nat.le_of_ble_eq_true rfl) rfl (k_X5_listCall_f (d + 48) (T := T66) (σ := σ123) (a := a) (k := σ.2.1 86 x1) (p := σ.2.1 87 x1) (m := i463) q70 (by omega) (by omega) (by omega) w130 fx134 hkw9 (by rw [q42138]; omega)) (fun r139 T141 σ140 gt142 hp => ?_)
        obtain ⟨rfl, rfl, w145, F146, f143⟩ := hp
        clear gt142
        have rp147 : RP σ140 a (kp - 4 * v104 - 4 * v129) := RP.frc f128 F146 (by decide) (by decide) (by decide) (by decide) (by decide)
        have fx148 : RDX σ140 a Sx nx ((i91 + 1) + 1) (uC (es92.foldl uC cx) (1, (tkS Sx jx).1, i463, (tkS Sx jx).2.2.2.2)) (Nx + m93) := by have q9 := f143; rw [hpl9] at q9; exact q9
        show Tn _ _ 170 T66 σ140 [(0, .ref a), (1, .int (iI r)), (2, .int (iI (σ.2.1 86 x1))), (3, .int (iI (σ.2.1 87 x1))), (4, .int (iI i463)), (5, .int (iI i564))] [] _
        refine tn_aload_n dX5_call_170 rfl 0 rfl ?_
        obtain ⟨x149, hx150, hk151⟩ : ∃ x : Nat, σ65.2.1 35 a = (x : Int) ∧ (T66 x).1 = 31 := wf_35 w68 q70
        have hk151o : OB T66 x149 1 := ⟨by omega, by rw [hk151]; rfl, by omega⟩
        refine tn_getR (ci := 5) (i := 2) (n := 35) (x := x149) dX5_call_171 rfl lay_5 (by decide) fl5_47 q70 rfl rfl (rc_F F146 (Or.inl (by decide)) (by decide) (rc_F F131 (Or.inl (by decide)) (by decide) (rc_F F106 (Or.inl (by decide)) (by decide) (hx150)))) ?_
        refine tn_bipush dX5_call_174 (by decide) ?_
        refine tn_iload_n dX5_call_176 rfl 1 rfl ?_
        refine tn_iload_n dX5_call_177 rfl 2 rfl ?_
        have q157 : σ140.2.1 6 x149 = σ65.2.1 6 x149 := rc_F F146 (Or.inl (by decide)) (by decide) (rc_F F131 (Or.inl (by decide)) (by decide) (rc_F F106 (Or.inl (by decide)) (by decide) (rfl)))
        refine tn_callV (M := m_X5_call) (pc := 178) (ix := 139) (ci := 1) (M' := m_X1_append) (As := [.int (iI 10), .int (iI r), .int (iI (σ.2.1 86 x1))]) (rest := []) dX5_call_178 ok_X1_append im_X1_append se_X1_append ml5_139 np_X1_append rfl rfl hk151o rfl (Nat.le_of_ble_eq_true rfl) (Nat.le_of_ble_eq_true rfl) rfl (k_X1_append (d + 47) (T := T66) (σ := σ140) (a := x149) (k := 10) (x := r) (y := σ.2.1 86 x1) hk151o hk151 (by decide) (by omega) (by omega) w145 (RP.cnt rp147 w145 q70 (rc_F F146 (Or.inl (by decide)) (by decide) (rc_F F131 (Or.inl (by decide)) (by decide) (rc_F F106 (Or.inl (by decide)) (by decide) (hx150)))) (by omega)) (by omega)) (fun r153 T155 σ154 gt156 hp => ?_)
        obtain ⟨rfl, w160, F161, f158⟩ := hp
        have fx162 : RDX σ154 a Sx nx ((i91 + 1) + 1) (uC (es92.foldl uC cx) (1, (tkS Sx jx).1, i463, (tkS Sx jx).2.2.2.2)) (Nx + m93 + 1) := RDX.ap fx148 w145 q70 (rc_F F146 (Or.inl (by decide)) (by decide) (rc_F F131 (Or.inl (by decide)) (by decide) (rc_F F106 (Or.inl (by decide)) (by decide) (hx150)))) F161 f158
        replace q70 : OB T155 a 5 := gt156.ob q70
        have rp163 : RP σ154 a (kp - 4 * v104 - 4 * v129 + 1) := RP.app rp147 (rc_F F146 (Or.inl (by decide)) (by decide) (rc_F F131 (Or.inl (by decide)) (by decide) (rc_F F106 (Or.inl (by decide)) (by decide) (hx150)))) F161 (by decide) (by decide) (by decide) (by decide) f158
        show Tn _ _ 181 T155 σ154 [(0, .ref a), (1, .int (iI r)), (2, .int (iI (σ.2.1 86 x1))), (3, .int (iI (σ.2.1 87 x1))), (4, .int (iI i463)), (5, .int (iI i564))] [] _
        refine tn_iconst dX5_call_181 ?_
        refine tn_istore (L' := [(5, .int (iI 0)), (0, .ref a), (1, .int (iI r)), (2, .int (iI (σ.2.1 86 x1))), (3, .int (iI (σ.2.1 87 x1))), (4, .int (iI i463))]) dX5_call_182 (by decide) rfl ?_
        refine tn_sub [1, 0] rfl (l_X5_call_f_184 (d) (T := T155) (σ0 := σ154) (a := a) (kp := kp - 4 * v104 - 4 * v129 + 1) (Sx := Sx) (nx := nx) (jx := ((i91 + 1) + 1)) (cy := uC (es92.foldl uC cx) (1, (tkS Sx jx).1, i463, (tkS Sx jx).2.2.2.2)) (Ny := Nx + m93 + 1) q70 w160 (by omega) (fun i5164 σ165 w168 F169 r170 f171 f172 => ?_) _ (0) σ154 w160 FrC.rfl (by omega) fx162 rp163 rfl)
        show Tn _ _ 229 T155 σ165 [(0, .ref a), (5, .int (iI i5164))] [] _
        refine tn_iconst dX5_call_229 ?_
        have fe175 := RDX.nq (M := (Nx - 1) + (m93 + 2 + 0 + 0)) (RDX.cq (c2 := (es92 ++ [(1, ((tkS Sx jx).2.2.2.2, i463, (tkS Sx jx).1).2.2, ((tkS Sx jx).2.2.2.2, i463, (tkS Sx jx).1).2.1, ((tkS Sx jx).2.2.2.2, i463, (tkS Sx jx).1).1)]).foldl uC cx) f171 (by simp only [List.foldl_append, List.foldl_cons, List.foldl_nil])) (by omega)
        have fe175m : ((es92 ++ [(1, ((tkS Sx jx).2.2.2.2, i463, (tkS Sx jx).1).2.2, ((tkS Sx jx).2.2.2.2, i463, (tkS Sx jx).1).2.1, ((tkS Sx jx).2.2.2.2, i463, (tkS Sx jx).1).1)]).foldl uC cx).m = σ.2.1 45 a := (fe175.e45).symm.trans (rc_F F169 (Or.inl (by decide)) (by decide) (rc_F F161 (Or.inl (by decide)) (by decide) (rc_F F146 (Or.inl (by decide)) (by decide) (rc_F F131 (Or.inl (by decide)) (by decide) (rc_F F106 (Or.inl (by decide)) (by decide) (rc_F F69 (Or.inl (by decide)) (by decide) (rc_F F45 (Or.inl (by decide)) (by decide) (rc_F F32 (Or.inl (by decide)) (by decide) (rc_F F17 (Or.inl (by decide)) (by decide) (rfl))))))))))
        have ra173 : YS σ165 a Sx nx bx [25] jx cx (Nx - 1) bx [] ((jx : Int) + 2) := ⟨((i91 + 1) + 1), es92 ++ [(1, ((tkS Sx jx).2.2.2.2, i463, (tkS Sx jx).1).2.2, ((tkS Sx jx).2.2.2.2, i463, (tkS Sx jx).1).2.1, ((tkS Sx jx).2.2.2.2, i463, (tkS Sx jx).1).1)], m93 + 2 + 0 + 0, (by omega), rd137, fe175, by rw [fe175m]; omega⟩
        exact tn_zret (v := 1) rfl (by decide) dX5_call_230 ⟨_, rfl, w168, (((((((((FrC.rfl.trans (FrC.sub F17 (by decide))).trans (FrC.sub F32 (by decide))).trans (FrC.sub F45 (by decide))).trans (FrC.sub F69 (by decide))).trans (FrC.sub (FrC.old F106 gt67) (by decide))).trans (FrC.sub (FrC.old F131 gt67) (by decide))).trans (FrC.sub (FrC.old F146 gt67) (by decide))).trans (FrC.sub (FrC.old F161 gt67) (by decide))).trans (FrC.sub (FrC.old F169 (GT.trans gt67 gt156)) (by decide))), by omega, ⟨fun _ => ra173, fun q => absurd q (by decide)⟩, (RP.up f172 (by omega))⟩
      · refine tn_iconst dX5_call_160 ?_
        obtain ⟨kd178, fx179, tk180⟩ := f127.2 (by omega)
        have pc181 : GRF Sx [159] (i91 + 1) (0) (bx) u0 (tkS Sx (i91 + 1)).1 := z59 hSb kd178
        have rf182 : GRF Sx [25] jx 0 (bx) u0 ((tkS Sx (i91 + 1)).1) := GR.fl (l := [159]) [] rd121 pc181
        have rb177 : YF σ123 a Sx bx [25] jx := ⟨_, rf182, fx179⟩
        exact tn_zret (v := 0) rfl (by decide) dX5_call_161 ⟨_, rfl, w130, ((((((FrC.rfl.trans (FrC.sub F17 (by decide))).trans (FrC.sub F32 (by decide))).trans (FrC.sub F45 (by decide))).trans (FrC.sub F69 (by decide))).trans (FrC.sub (FrC.old F106 gt67) (by decide))).trans (FrC.sub (FrC.old F131 gt67) (by decide))), by omega, ⟨fun q => absurd q (by decide), fun _ => rb177⟩, (RP.up f128 (by omega))⟩
  · obtain ⟨i183, es184, m185, lo186, fx187, rr188⟩ := f90
    show Tn _ _ 142 T80 σ79 [(0, .ref a), (1, .int (iI r)), (2, .int (iI (σ.2.1 86 x1))), (3, .int (iI (σ.2.1 87 x1))), (4, .int (iI i477)), (5, .int (iI i578))] [] _
    refine tn_aload_n dX5_call_142 rfl 0 rfl ?_
    refine tn_bipush dX5_call_143 (by decide) ?_
    refine tn_callV (M := m_X5_call) (pc := 145) (ix := 102) (ci := 5) (M' := m_X5_taken) (As := [.int (iI 41)]) (rest := []) dX5_call_145 ok_X5_taken im_X5_taken se_X5_taken ml5_102 np_X5_taken rfl rfl q84 rfl (Nat.le_of_ble_eq_true rfl) (Nat.le_of_ble_eq_true rfl) rfl (k_X5_taken_f (d + 48) (T := T80) (σ := σ79) (a := a) (s := 41) (kp := kp) q84 (by decide) w82 (by omega) fx187 (by omega) f89) (fun r189 T191 σ190 gt192 hp => ?_)
    obtain ⟨v196, rfl, rfl, w197, F198, f193, f194, f195⟩ := hp
    clear gt192
    have pc199 : GR Sx [38] i183 (0) (bx) ((tkS Sx jx).2.2.2.2, i477, (tkS Sx jx).1) [] i183 (0) (bx) u0 2 [(1, ((tkS Sx jx).2.2.2.2, i477, (tkS Sx jx).1).2.2, ((tkS Sx jx).2.2.2.2, i477, (tkS Sx jx).1).2.1, ((tkS Sx jx).2.2.2.2, i477, (tkS Sx jx).1).1)] := x38 hSb 
    have rd200 : GR Sx [25] jx 0 (bx) u0 [141, 159] i183 (0) (bx) u0 (m185 + 2) (es184 ++ [(1, ((tkS Sx jx).2.2.2.2, i477, (tkS Sx jx).1).2.2, ((tkS Sx jx).2.2.2.2, i477, (tkS Sx jx).1).2.1, ((tkS Sx jx).2.2.2.2, i477, (tkS Sx jx).1).1)]) := GR.gg (l := [38]) (ms := []) [141, 159] rr188 pc199
    show Tn _ _ 148 T80 σ190 [(0, .ref a), (1, .int (iI r)), (2, .int (iI (σ.2.1 86 x1))), (3, .int (iI (σ.2.1 87 x1))), (4, .int (iI i477)), (5, .int (iI i578))] [.int (iI v196)] _
    refine tn_if_eq (tgt := 160) dX5_call_148 (by decide) ⟨by omega, by omega⟩ (fun h202 => ?_) (fun h202 => ?_)
    · refine tn_iconst dX5_call_160 ?_
      obtain ⟨kd205, fx206, tk207⟩ := f194.2 (by omega)
      have pc208 : GRF Sx [141] i183 (0) (bx) u0 (tkS Sx i183).1 := z41 hSb kd205
      have rf209 : GRF Sx [25] jx 0 (bx) u0 ((tkS Sx i183).1) := GR.fl (l := [141]) [159] rd200 pc208
      have rb204 : YF σ190 a Sx bx [25] jx := ⟨_, rf209, fx206⟩
      exact tn_zret (v := 0) rfl (by decide) dX5_call_161 ⟨_, rfl, w197, (((((FrC.rfl.trans (FrC.sub F17 (by decide))).trans (FrC.sub F32 (by decide))).trans (FrC.sub F45 (by decide))).trans (FrC.sub F83 (by decide))).trans (FrC.sub (FrC.old F198 gt81) (by decide))), by omega, ⟨fun q => absurd q (by decide), fun _ => rb204⟩, (RP.up f195 (by omega))⟩
    · refine tn_aload_n dX5_call_151 rfl 0 rfl ?_
      refine tn_bipush dX5_call_152 (by decide) ?_
      obtain ⟨kd211, fx210⟩ := f194.1 (by omega)
      have pc212 : GR Sx [141] i183 (0) (bx) u0 [] (i183 + 1) (0) (bx) u0 0 [] := y41 hSb kd211
      have rd213 : GR Sx [25] jx 0 (bx) u0 [159] (i183 + 1) (0) (bx) u0 (m185 + 2 + 0) (es184 ++ [(1, ((tkS Sx jx).2.2.2.2, i477, (tkS Sx jx).1).2.2, ((tkS Sx jx).2.2.2.2, i477, (tkS Sx jx).1).2.1, ((tkS Sx jx).2.2.2.2, i477, (tkS Sx jx).1).1)]) := GR.g0 (l := [141]) (ms := []) [159] rd200 pc212
      refine tn_callV (M := m_X5_call) (pc := 154) (ix := 102) (ci := 5) (M' := m_X5_taken) (As := [.int (iI 59)]) (rest := []) dX5_call_154 ok_X5_taken im_X5_taken se_X5_taken ml5_102 np_X5_taken rfl rfl q84 rfl (Nat.le_of_ble_eq_true rfl) (Nat.le_of_ble_eq_true rfl) rfl (k_X5_taken_f (d + 48) (T := T80) (σ := σ190) (a := a) (s := 59) (kp := kp - 4 * v196) q84 (by decide) w197 (by omega) fx210 (by omega) f195) (fun r214 T216 σ215 gt217 hp => ?_)
      obtain ⟨v221, rfl, rfl, w222, F223, f218, f219, f220⟩ := hp
      clear gt217
      show Tn _ _ 157 T80 σ215 [(0, .ref a), (1, .int (iI r)), (2, .int (iI (σ.2.1 86 x1))), (3, .int (iI (σ.2.1 87 x1))), (4, .int (iI i477)), (5, .int (iI i578))] [.int (iI v221)] _
      refine tn_if_ne (tgt := 162) dX5_call_157 (by decide) ⟨by omega, by omega⟩ (fun h225 => ?_) (fun h225 => ?_)
      · refine tn_aload_n dX5_call_162 rfl 0 rfl ?_
        refine tn_iload_n dX5_call_163 rfl 2 rfl ?_
        refine tn_iload_n dX5_call_164 rfl 3 rfl ?_
        refine tn_iload dX5_call_165 4 rfl ?_
        obtain ⟨kd227, fx226⟩ := f219.1 (by omega)
        have pc228 : GR Sx [159] (i183 + 1) (0) (bx) u0 [] ((i183 + 1) + 1) (0) (bx) u0 0 [] := y59 hSb kd227
        have rd229 : GR Sx [25] jx 0 (bx) u0 [] ((i183 + 1) + 1) (0) (bx) u0 (m185 + 2 + 0 + 0) (es184 ++ [(1, ((tkS Sx jx).2.2.2.2, i477, (tkS Sx jx).1).2.2, ((tkS Sx jx).2.2.2.2, i477, (tkS Sx jx).1).2.1, ((tkS Sx jx).2.2.2.2, i477, (tkS Sx jx).1).1)]) := GR.g0 (l := [159]) (ms := []) [] rd213 pc228
        have q42230 : (es184.foldl uC cx).cn = σ.2.1 42 a := (fx226.1.2.1.1.2.2.2.1).symm.trans (rc_F F223 (Or.inl (by decide)) (by decide) (rc_F F198 (Or.inl (by decide)) (by decide) (rc_F F83 (Or.inl (by decide)) (by decide) (rc_F F45 (Or.inl (by decide)) (by decide) (rc_F F32 (Or.inl (by decide)) (by decide) (rc_F F17 (Or.inl (by decide)) (by decide) (rfl)))))))
        refine tn_callV (M := m_X5_call) (pc := 167) (ix := 228) (ci := 5) (M' := m_X5_listCall) (As := [.int (iI (σ.2.1 86 x1)), .int (iI (σ.2.1 87 x1)), .int (iI i477)]) (rest := []) dX5_call_167 ok_X5_listCall im_X5_listCall se_X5_listCall ml5_228 np_X5_listCall rfl rfl q84 rfl (Nat.le_of_ble_eq_true rfl) (Nat.le_of_ble_eq_true rfl) rfl (k_X5_listCall_f (d + 48) (T := T80) (σ := σ215) (a := a) (k := σ.2.1 86 x1) (p := σ.2.1 87 x1) (m := i477) q84 (by omega) (by omega) (by omega) w222 fx226 hkw9 (by rw [q42230]; omega)) (fun r231 T233 σ232 gt234 hp => ?_)
        obtain ⟨rfl, rfl, w237, F238, f235⟩ := hp
        clear gt234
        have rp239 : RP σ232 a (kp - 4 * v196 - 4 * v221) := RP.frc f220 F238 (by decide) (by decide) (by decide) (by decide) (by decide)
        have fx240 : RDX σ232 a Sx nx ((i183 + 1) + 1) (uC (es184.foldl uC cx) (1, (tkS Sx jx).1, i477, (tkS Sx jx).2.2.2.2)) (Nx + m185) := by have q9 := f235; rw [hpl9] at q9; exact q9
        show Tn _ _ 170 T80 σ232 [(0, .ref a), (1, .int (iI r)), (2, .int (iI (σ.2.1 86 x1))), (3, .int (iI (σ.2.1 87 x1))), (4, .int (iI i477)), (5, .int (iI i578))] [] _
        refine tn_aload_n dX5_call_170 rfl 0 rfl ?_
        obtain ⟨x241, hx242, hk243⟩ : ∃ x : Nat, σ79.2.1 35 a = (x : Int) ∧ (T80 x).1 = 31 := wf_35 w82 q84
        have hk243o : OB T80 x241 1 := ⟨by omega, by rw [hk243]; rfl, by omega⟩
        refine tn_getR (ci := 5) (i := 2) (n := 35) (x := x241) dX5_call_171 rfl lay_5 (by decide) fl5_47 q84 rfl rfl (rc_F F238 (Or.inl (by decide)) (by decide) (rc_F F223 (Or.inl (by decide)) (by decide) (rc_F F198 (Or.inl (by decide)) (by decide) (hx242)))) ?_
        refine tn_bipush dX5_call_174 (by decide) ?_
        refine tn_iload_n dX5_call_176 rfl 1 rfl ?_
        refine tn_iload_n dX5_call_177 rfl 2 rfl ?_
        have q249 : σ232.2.1 6 x241 = σ79.2.1 6 x241 := rc_F F238 (Or.inl (by decide)) (by decide) (rc_F F223 (Or.inl (by decide)) (by decide) (rc_F F198 (Or.inl (by decide)) (by decide) (rfl)))
        refine tn_callV (M := m_X5_call) (pc := 178) (ix := 139) (ci := 1) (M' := m_X1_append) (As := [.int (iI 10), .int (iI r), .int (iI (σ.2.1 86 x1))]) (rest := []) dX5_call_178 ok_X1_append im_X1_append se_X1_append ml5_139 np_X1_append rfl rfl hk243o rfl (Nat.le_of_ble_eq_true rfl) (Nat.le_of_ble_eq_true rfl) rfl (k_X1_append (d + 47) (T := T80) (σ := σ232) (a := x241) (k := 10) (x := r) (y := σ.2.1 86 x1) hk243o hk243 (by decide) (by omega) (by omega) w237 (RP.cnt rp239 w237 q84 (rc_F F238 (Or.inl (by decide)) (by decide) (rc_F F223 (Or.inl (by decide)) (by decide) (rc_F F198 (Or.inl (by decide)) (by decide) (hx242)))) (by omega)) (by omega)) (fun r245 T247 σ246 gt248 hp => ?_)
        obtain ⟨rfl, w252, F253, f250⟩ := hp
        have fx254 : RDX σ246 a Sx nx ((i183 + 1) + 1) (uC (es184.foldl uC cx) (1, (tkS Sx jx).1, i477, (tkS Sx jx).2.2.2.2)) (Nx + m185 + 1) := RDX.ap fx240 w237 q84 (rc_F F238 (Or.inl (by decide)) (by decide) (rc_F F223 (Or.inl (by decide)) (by decide) (rc_F F198 (Or.inl (by decide)) (by decide) (hx242)))) F253 f250
        replace q84 : OB T247 a 5 := gt248.ob q84
        have rp255 : RP σ246 a (kp - 4 * v196 - 4 * v221 + 1) := RP.app rp239 (rc_F F238 (Or.inl (by decide)) (by decide) (rc_F F223 (Or.inl (by decide)) (by decide) (rc_F F198 (Or.inl (by decide)) (by decide) (hx242)))) F253 (by decide) (by decide) (by decide) (by decide) f250
        show Tn _ _ 181 T247 σ246 [(0, .ref a), (1, .int (iI r)), (2, .int (iI (σ.2.1 86 x1))), (3, .int (iI (σ.2.1 87 x1))), (4, .int (iI i477)), (5, .int (iI i578))] [] _
        refine tn_iconst dX5_call_181 ?_
        refine tn_istore (L' := [(5, .int (iI 0)), (0, .ref a), (1, .int (iI r)), (2, .int (iI (σ.2.1 86 x1))), (3, .int (iI (σ.2.1 87 x1))), (4, .int (iI i477))]) dX5_call_182 (by decide) rfl ?_
        refine tn_sub [1, 0] rfl (l_X5_call_f_184 (d) (T := T247) (σ0 := σ246) (a := a) (kp := kp - 4 * v196 - 4 * v221 + 1) (Sx := Sx) (nx := nx) (jx := ((i183 + 1) + 1)) (cy := uC (es184.foldl uC cx) (1, (tkS Sx jx).1, i477, (tkS Sx jx).2.2.2.2)) (Ny := Nx + m185 + 1) q84 w252 (by omega) (fun i5256 σ257 w260 F261 r262 f263 f264 => ?_) _ (0) σ246 w252 FrC.rfl (by omega) fx254 rp255 rfl)
        show Tn _ _ 229 T247 σ257 [(0, .ref a), (5, .int (iI i5256))] [] _
        refine tn_iconst dX5_call_229 ?_
        have fe267 := RDX.nq (M := (Nx - 1) + (m185 + 2 + 0 + 0)) (RDX.cq (c2 := (es184 ++ [(1, ((tkS Sx jx).2.2.2.2, i477, (tkS Sx jx).1).2.2, ((tkS Sx jx).2.2.2.2, i477, (tkS Sx jx).1).2.1, ((tkS Sx jx).2.2.2.2, i477, (tkS Sx jx).1).1)]).foldl uC cx) f263 (by simp only [List.foldl_append, List.foldl_cons, List.foldl_nil])) (by omega)
        have fe267m : ((es184 ++ [(1, ((tkS Sx jx).2.2.2.2, i477, (tkS Sx jx).1).2.2, ((tkS Sx jx).2.2.2.2, i477, (tkS Sx jx).1).2.1, ((tkS Sx jx).2.2.2.2, i477, (tkS Sx jx).1).1)]).foldl uC cx).m = σ.2.1 45 a := (fe267.e45).symm.trans (rc_F F261 (Or.inl (by decide)) (by decide) (rc_F F253 (Or.inl (by decide)) (by decide) (rc_F F238 (Or.inl (by decide)) (by decide) (rc_F F223 (Or.inl (by decide)) (by decide) (rc_F F198 (Or.inl (by decide)) (by decide) (rc_F F83 (Or.inl (by decide)) (by decide) (rc_F F45 (Or.inl (by decide)) (by decide) (rc_F F32 (Or.inl (by decide)) (by decide) (rc_F F17 (Or.inl (by decide)) (by decide) (rfl))))))))))
        have ra265 : YS σ257 a Sx nx bx [25] jx cx (Nx - 1) bx [] ((jx : Int) + 2) := ⟨((i183 + 1) + 1), es184 ++ [(1, ((tkS Sx jx).2.2.2.2, i477, (tkS Sx jx).1).2.2, ((tkS Sx jx).2.2.2.2, i477, (tkS Sx jx).1).2.1, ((tkS Sx jx).2.2.2.2, i477, (tkS Sx jx).1).1)], m185 + 2 + 0 + 0, (by omega), rd229, fe267, by rw [fe267m]; omega⟩
        exact tn_zret (v := 1) rfl (by decide) dX5_call_230 ⟨_, rfl, w260, (((((((((FrC.rfl.trans (FrC.sub F17 (by decide))).trans (FrC.sub F32 (by decide))).trans (FrC.sub F45 (by decide))).trans (FrC.sub F83 (by decide))).trans (FrC.sub (FrC.old F198 gt81) (by decide))).trans (FrC.sub (FrC.old F223 gt81) (by decide))).trans (FrC.sub (FrC.old F238 gt81) (by decide))).trans (FrC.sub (FrC.old F253 gt81) (by decide))).trans (FrC.sub (FrC.old F261 (GT.trans gt81 gt248)) (by decide))), by omega, ⟨fun _ => ra265, fun q => absurd q (by decide)⟩, (RP.up f264 (by omega))⟩
      · refine tn_iconst dX5_call_160 ?_
        obtain ⟨kd270, fx271, tk272⟩ := f219.2 (by omega)
        have pc273 : GRF Sx [159] (i183 + 1) (0) (bx) u0 (tkS Sx (i183 + 1)).1 := z59 hSb kd270
        have rf274 : GRF Sx [25] jx 0 (bx) u0 ((tkS Sx (i183 + 1)).1) := GR.fl (l := [159]) [] rd213 pc273
        have rb269 : YF σ215 a Sx bx [25] jx := ⟨_, rf274, fx271⟩
        exact tn_zret (v := 0) rfl (by decide) dX5_call_161 ⟨_, rfl, w222, ((((((FrC.rfl.trans (FrC.sub F17 (by decide))).trans (FrC.sub F32 (by decide))).trans (FrC.sub F45 (by decide))).trans (FrC.sub F83 (by decide))).trans (FrC.sub (FrC.old F198 gt81) (by decide))).trans (FrC.sub (FrC.old F223 gt81) (by decide))), by omega, ⟨fun q => absurd q (by decide), fun _ => rb269⟩, (RP.up f220 (by omega))⟩
