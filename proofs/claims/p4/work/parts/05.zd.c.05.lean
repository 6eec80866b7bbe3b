set_option maxHeartbeats 4000000 in
set_option maxRecDepth 20000 in
theorem l_X5_closeRoutine_f_59 (d : Nat) {T : CT} {σ0 : MS} {a : Nat} {Sx : Int → Int} {nx : Nat} {jx : Nat} {cy : CS} {Ny : Int} {kp : Int} {post : Option Value → CT → MS → Prop} (h_a : OB T a 5) (hw0 : WT T σ0) (hkp : kp ≤ 150) (hx_88 : ∀ (i2 : Int) (σ : MS) , (WT T σ) → (FrC T [] σ0 σ) → (0 ≤ i2 ∧ i2 ≤ 2147483647) → (RDX σ a Sx nx jx cy Ny) → (RP σ a kp) → Tn (d + 4) m_X5_closeRoutine 88 T σ [(0, .ref a), (2, .int (iI i2))] [] post) : ∀ (n : Nat) (i2 : Int) (σ : MS) , (WT T σ) → (FrC T [] σ0 σ) → (0 ≤ i2 ∧ i2 ≤ 2147483647) → (RDX σ a Sx nx jx cy Ny) → (RP σ a kp) → (2147483700 - i2).toNat = n → Tn (d + 4) m_X5_closeRoutine 59 T σ [(0, .ref a), (2, .int (iI i2))] [] post := by
  intro n
  induction n using Nat.strongRecOn with
  | _ n ih =>
    intro i2 σ hw hF r_i2 hcy hrp hm
    refine tn_iload_n dX5_closeRoutine_59 rfl 1 rfl ?_
    refine tn_aload_n dX5_closeRoutine_60 rfl 0 rfl ?_
    obtain ⟨x1, hx2, hk3⟩ : ∃ x : Nat, σ0.2.1 35 a = (x : Int) ∧ (T x).1 = 31 := wf_35 hw0 h_a
    have hk3o : OB T x1 1 := ⟨by omega, by rw [hk3]; rfl, by omega⟩
    refine tn_getR (ci := 5) (i := 2) (n := 35) (x := x1) dX5_closeRoutine_61 rfl lay_5 (by decide) fl5_47 h_a rfl rfl (rc_F hF (Or.inl (by decide)) (by decide) (hx2)) ?_
    refine tn_getI (ci := 1) (i := 2) (n := 7) (t := σ0.2.1 7 x1) dX5_closeRoutine_64 rfl lay_1 (by decide) fl5_152 hk3o rfl rfl (rc_F hF (Or.inl (by decide)) (by decide) (rfl)) ?_
    have g5 : ((0 : Int) ≤ σ0.2.1 7 x1 ∧ σ0.2.1 7 x1 ≤ 12) := wf_7 hw0 hk3o
    refine tn_icmp_ge (tgt := 88) dX5_closeRoutine_67 (by decide) ⟨by omega, by omega⟩ ⟨by omega, by omega⟩ (fun h6 => ?_) (fun h6 => ?_)
    · exact tn_sub [0, 1] rfl (hx_88 (i2) σ hw (FrC.rfl.trans (FrC.sub hF (by decide))) (by omega) hcy (RP.up hrp (by omega)))
    · refine tn_aload_n dX5_closeRoutine_70 rfl 0 rfl ?_
      refine tn_getR (ci := 5) (i := 2) (n := 35) (x := x1) dX5_closeRoutine_71 rfl lay_5 (by decide) fl5_47 h_a rfl rfl (rc_F hF (Or.inl (by decide)) (by decide) (hx2)) ?_
      obtain ⟨x7, hx8, hk9, hl10⟩ : ∃ x : Nat, σ0.2.1 15 x1 = (x : Int) ∧ AR T x 1 144 144 := wf_15 hw0 hk3o
      have hk9i : IA T x7 := by unfold IA; omega
      refine tn_getR (ci := 1) (i := 10) (n := 15) (x := x7) dX5_closeRoutine_74 rfl lay_1 (by decide) fl5_155 hk3o rfl rfl (rc_F hF (Or.inl (by decide)) (by decide) (hx8)) ?_
      refine tn_iload_n dX5_closeRoutine_77 rfl 1 rfl ?_
      refine tn_iload_n dX5_closeRoutine_78 rfl 1 rfl ?_
      refine tn_callSN (M := m_X5_closeRoutine) (pc := 79) (ix := 129) (M' := m_X11_put) (As := [.ref x7, .int (iI i2), .int (iI i2)]) (rest := []) dX5_closeRoutine_79 ok_X11_put stt_X11_put nl5_129 np_X11_put rfl (Nat.le_of_ble_eq_true rfl) (Nat.le_of_ble_eq_true rfl) rfl (k_X11_put (d + 2) (T := T) (σ := σ) (x := x7) (i := i2) (y := i2) hk9i (by omega) (by omega) (by omega) hw (nh_k hk9 (by unfold HT; omega)) (vok_1 (by have q9 := hk9; omega) (by omega))) (fun r11 T13 σ12 gt14 hp => ?_)
      obtain ⟨rfl, rfl, w16, F17⟩ := hp
      clear gt14
      have fx18 : RDX σ12 a Sx nx jx (cy) (Ny) := RDX.fc hcy hw h_a F17 (by decide) (by decide)
      have rp19 : RP σ12 a (kp) := RP.frc hrp F17 (by decide) (by decide) (by decide) (by decide) (by decide)
      show Tn _ _ 82 T σ12 [(0, .ref a), (2, .int (iI i2))] [] _
      refine tn_iinc (q0 := 1) (L' := [(2, .int (iI (i2 + 1))), (0, .ref a)]) dX5_closeRoutine_82 rfl (by decide) rfl ?_
      refine tn_goto (tgt := 59) dX5_closeRoutine_85 (by decide) ?_
      exact tn_sub [1, 0] rfl (ih _ (by omega) (i2 + 1) σ12 w16 ((FrC.rfl.trans (FrC.sub hF (by decide))).trans (FrC.sub F17 (by decide))) (by omega) fx18 (RP.up rp19 (by omega)) rfl)
set_option maxHeartbeats 4000000 in
set_option maxRecDepth 20000 in
theorem l_X5_closeRoutine_f_90 (d : Nat) {T : CT} {σ0 : MS} {a : Nat} {Sx : Int → Int} {nx : Nat} {jx : Nat} {cy : CS} {Ny : Int} {kp : Int} {post : Option Value → CT → MS → Prop} (h_a : OB T a 5) (hw0 : WT T σ0) (hkp : kp ≤ 150) (hx_118 : ∀ (i2 : Int) (σ : MS) , (WT T σ) → (FrC T [] σ0 σ) → (0 ≤ i2 ∧ i2 ≤ 2147483647) → (RDX σ a Sx nx jx cy Ny) → (RP σ a kp) → Tn (d + 4) m_X5_closeRoutine 118 T σ [(0, .ref a), (2, .int (iI i2))] [] post) : ∀ (n : Nat) (i2 : Int) (σ : MS) , (WT T σ) → (FrC T [] σ0 σ) → (0 ≤ i2 ∧ i2 ≤ 2147483647) → (RDX σ a Sx nx jx cy Ny) → (RP σ a kp) → (2147483700 - i2).toNat = n → Tn (d + 4) m_X5_closeRoutine 90 T σ [(0, .ref a), (2, .int (iI i2))] [] post := by
  intro n
  induction n using Nat.strongRecOn with
  | _ n ih =>
    intro i2 σ hw hF r_i2 hcy hrp hm
    refine tn_iload_n dX5_closeRoutine_90 rfl 1 rfl ?_
    refine tn_aload_n dX5_closeRoutine_91 rfl 0 rfl ?_
    obtain ⟨x1, hx2, hk3⟩ : ∃ x : Nat, σ0.2.1 35 a = (x : Int) ∧ (T x).1 = 31 := wf_35 hw0 h_a
    have hk3o : OB T x1 1 := ⟨by omega, by rw [hk3]; rfl, by omega⟩
    refine tn_getR (ci := 5) (i := 2) (n := 35) (x := x1) dX5_closeRoutine_92 rfl lay_5 (by decide) fl5_47 h_a rfl rfl (rc_F hF (Or.inl (by decide)) (by decide) (hx2)) ?_
    refine tn_getI (ci := 1) (i := 1) (n := 6) (t := σ0.2.1 6 x1) dX5_closeRoutine_95 rfl lay_1 (by decide) fl5_146 hk3o rfl rfl (rc_F hF (Or.inl (by decide)) (by decide) (rfl)) ?_
    have g5 : ((0 : Int) ≤ σ0.2.1 6 x1 ∧ σ0.2.1 6 x1 ≤ 5000) ∧ ((T x1).1 = 50 → σ0.2.1 6 x1 ≤ 200) := wf_6 hw0 hk3o
    have g5x := g5.2
    replace g5 := g5.1
    clear g5x
    refine tn_icmp_ge (tgt := 118) dX5_closeRoutine_98 (by decide) ⟨by omega, by omega⟩ ⟨by omega, by omega⟩ (fun h6 => ?_) (fun h6 => ?_)
    · exact tn_sub [0, 1] rfl (hx_118 (i2) σ hw (FrC.rfl.trans (FrC.sub hF (by decide))) (by omega) hcy (RP.up hrp (by omega)))
    · refine tn_iload_n dX5_closeRoutine_101 rfl 1 rfl ?_
      refine tn_bipush dX5_closeRoutine_102 (by decide) ?_
      refine tn_icmp_ge (tgt := 118) dX5_closeRoutine_104 (by decide) ⟨by omega, by omega⟩ ⟨by decide, by decide⟩ (fun h7 => ?_) (fun h7 => ?_)
      · exact tn_sub [0, 1] rfl (hx_118 (i2) σ hw (FrC.rfl.trans (FrC.sub hF (by decide))) (by omega) hcy (RP.up hrp (by omega)))
      · refine tn_aload_n dX5_closeRoutine_107 rfl 0 rfl ?_
        refine tn_iload_n dX5_closeRoutine_108 rfl 1 rfl ?_
        refine tn_callV (M := m_X5_closeRoutine) (pc := 109) (ix := 158) (ci := 5) (M' := m_X5_numberNew) (As := [.int (iI i2)]) (rest := []) dX5_closeRoutine_109 ok_X5_numberNew im_X5_numberNew se_X5_numberNew ml5_158 np_X5_numberNew rfl rfl h_a rfl (Nat.le_of_ble_eq_true rfl) (Nat.le_of_ble_eq_true rfl) rfl (k_X5_numberNew (d) (T := T) (σ := σ) (a := a) (k := i2) h_a (by omega) hw ) (fun r8 T10 σ9 gt11 hp => ?_)
        obtain ⟨rfl, rfl, w13, F14⟩ := hp
        clear gt11
        have fx15 : RDX σ9 a Sx nx jx (cy) (Ny) := RDX.fc hcy hw h_a F14 (by decide) (by decide)
        have rp16 : RP σ9 a (kp) := RP.frc hrp F14 (by decide) (by decide) (by decide) (by decide) (by decide)
        show Tn _ _ 112 T σ9 [(0, .ref a), (2, .int (iI i2))] [] _
        refine tn_iinc (q0 := 1) (L' := [(2, .int (iI (i2 + 1))), (0, .ref a)]) dX5_closeRoutine_112 rfl (by decide) rfl ?_
        refine tn_goto (tgt := 90) dX5_closeRoutine_115 (by decide) ?_
        exact tn_sub [1, 0] rfl (ih _ (by omega) (i2 + 1) σ9 w13 ((FrC.rfl.trans (FrC.sub hF (by decide))).trans (FrC.sub F14 (by decide))) (by omega) fx15 (RP.up rp16 (by omega)) rfl)
set_option maxHeartbeats 4000000 in
set_option maxRecDepth 20000 in
theorem k_X5_closeRoutine_f (d : Nat) {T : CT} {σ : MS} {a : Nat} {w : Int} {kp : Int} {Sx : Int → Int} {nx jx : Nat} {cx : CS} {Nx : Int} (ha : OB T a 5) (h_w : -2147483648 ≤ w ∧ w ≤ 2147483647) (hw : WT T σ) (hfx : RDX σ a Sx nx jx cx Nx) (hkp : kp ≤ 140) (hrp : RP σ a kp) : Tn (d + 4) m_X5_closeRoutine 0 T σ [(0, .ref a), (1, .int (iI w))] [] (fun ro T2 σ2 => ro = none ∧ WT T2 σ2 ∧ FrC T [5, 6, 43, 44] σ σ2 ∧ (RDX σ2 a Sx nx jx (uC cx (0, w, Nx + 1, 0)) (Nx + 1)) ∧ (RP σ2 a (kp + 1))) := by
  have hSb := hfx.1.sb
  refine tn_aload_n dX5_closeRoutine_0 rfl 0 rfl ?_
  obtain ⟨x1, hx2, hk3⟩ : ∃ x : Nat, σ.2.1 35 a = (x : Int) ∧ (T x).1 = 31 := wf_35 hw ha
  have hk3o : OB T x1 1 := ⟨by omega, by rw [hk3]; rfl, by omega⟩
  refine tn_getR (ci := 5) (i := 2) (n := 35) (x := x1) dX5_closeRoutine_1 rfl lay_5 (by decide) fl5_47 ha rfl rfl (hx2) ?_
  refine tn_bipush dX5_closeRoutine_4 (by decide) ?_
  refine tn_iconst dX5_closeRoutine_6 ?_
  refine tn_iconst dX5_closeRoutine_7 ?_
  refine tn_callV (M := m_X5_closeRoutine) (pc := 8) (ix := 139) (ci := 1) (M' := m_X1_append) (As := [.int (iI 7), .int (iI 0), .int (iI 0)]) (rest := []) dX5_closeRoutine_8 ok_X1_append im_X1_append se_X1_append ml5_139 np_X1_append rfl rfl hk3o rfl (Nat.le_of_ble_eq_true rfl) (Nat.le_of_ble_eq_true rfl) rfl (k_X1_append (d) (T := T) (σ := σ) (a := x1) (k := 7) (x := 0) (y := 0) hk3o hk3 (by decide) (by decide) (by decide) hw (RP.cnt hrp hw ha (hx2) (by omega)) (by omega)) (fun r5 T7 σ6 gt8 hp => ?_)
  obtain ⟨rfl, w11, F12, f9⟩ := hp
  have fx13 : RDX σ6 a Sx nx jx (cx) (Nx + 1) := RDX.ap hfx hw ha (hx2) F12 f9
  replace ha : OB T7 a 5 := gt8.ob ha
  have rp14 : RP σ6 a (kp + 1) := RP.app hrp (hx2) F12 (by decide) (by decide) (by decide) (by decide) f9
  show Tn _ _ 11 T7 σ6 [(0, .ref a), (1, .int (iI w))] [] _
  refine tn_aload_n dX5_closeRoutine_11 rfl 0 rfl ?_
  obtain ⟨x15, hx16, hk17⟩ : ∃ x : Nat, σ6.2.1 35 a = (x : Int) ∧ (T7 x).1 = 31 := wf_35 w11 ha
  have hk17o : OB T7 x15 1 := ⟨by omega, by rw [hk17]; rfl, by omega⟩
  refine tn_getR (ci := 5) (i := 2) (n := 35) (x := x15) dX5_closeRoutine_12 rfl lay_5 (by decide) fl5_47 ha rfl rfl (hx16) ?_
  refine tn_iconst dX5_closeRoutine_15 ?_
  refine tn_iconst dX5_closeRoutine_16 ?_
  refine tn_iconst dX5_closeRoutine_17 ?_
  refine tn_callV (M := m_X5_closeRoutine) (pc := 18) (ix := 143) (ci := 1) (M' := m_X1_lastOperand) (As := [.int (iI 0), .int (iI 1), .int (iI 0)]) (rest := []) dX5_closeRoutine_18 ok_X1_lastOperand im_X1_lastOperand se_X1_lastOperand ml5_143 np_X1_lastOperand rfl rfl hk17o rfl (Nat.le_of_ble_eq_true rfl) (Nat.le_of_ble_eq_true rfl) rfl (k_X1_lastOperand (d + 2) (T := T7) (σ := σ6) (a := x15) (i := 0) (k := 1) (y := 0) hk17o (by decide) (by decide) (by decide) w11 ) (fun r19 T21 σ20 gt22 hp => ?_)
  obtain ⟨rfl, rfl, w24, F25⟩ := hp
  clear gt22
  have fx26 : RDX σ20 a Sx nx jx (cx) (Nx + 1) := RDX.fc fx13 w11 ha F25 (by decide) (by decide)
  have rp27 : RP σ20 a (kp + 1) := RP.frc rp14 F25 (by decide) (by decide) (by decide) (by decide) (by decide)
  show Tn _ _ 21 T7 σ20 [(0, .ref a), (1, .int (iI w))] [] _
  refine tn_aload_n dX5_closeRoutine_21 rfl 0 rfl ?_
  refine tn_getR (ci := 5) (i := 2) (n := 35) (x := x15) dX5_closeRoutine_22 rfl lay_5 (by decide) fl5_47 ha rfl rfl (rc_F F25 (Or.inl (by decide)) (by decide) (hx16)) ?_
  refine tn_getI (ci := 1) (i := 1) (n := 6) (t := σ6.2.1 6 x15) dX5_closeRoutine_25 rfl lay_1 (by decide) fl5_146 hk17o rfl rfl (rc_F F25 (Or.inl (by decide)) (by decide) (rfl)) ?_
  have g28 : ((0 : Int) ≤ σ6.2.1 6 x15 ∧ σ6.2.1 6 x15 ≤ 5000) ∧ ((T7 x15).1 = 50 → σ6.2.1 6 x15 ≤ 200) := wf_6 w11 hk17o
  have g28x := g28.2
  replace g28 := g28.1
  clear g28x
  have n629 : σ6.2.1 6 x15 = Nx + 1 := (rc_F F25 (Or.inl (by decide)) (by decide) (rfl)).symm.trans ((fx26).2.2 x15 (rc_F F25 (Or.inl (by decide)) (by decide) (hx16)))
  refine tn_bipush dX5_closeRoutine_28 (by decide) ?_
  refine tn_icmp_le (tgt := 39) dX5_closeRoutine_30 (by decide) ⟨by omega, by omega⟩ ⟨by decide, by decide⟩ (fun h30 => ?_) (fun h30 => ?_)
  · refine tn_aload_n dX5_closeRoutine_39 rfl 0 rfl ?_
    refine tn_getR (ci := 5) (i := 2) (n := 35) (x := x15) dX5_closeRoutine_40 rfl lay_5 (by decide) fl5_47 ha rfl rfl (rc_F F25 (Or.inl (by decide)) (by decide) (hx16)) ?_
    obtain ⟨x31, hx32, hk33, hl34⟩ : ∃ x : Nat, σ6.2.1 14 x15 = (x : Int) ∧ AR T7 x 11 12 12 := wf_14 w11 hk17o
    have hk33i : IA T7 x31 := by unfold IA; omega
    refine tn_getR (ci := 1) (i := 9) (n := 14) (x := x31) dX5_closeRoutine_43 rfl lay_1 (by decide) fl5_149 hk17o rfl rfl (rc_F F25 (Or.inl (by decide)) (by decide) (hx32)) ?_
    refine tn_iconst dX5_closeRoutine_46 ?_
    refine tn_aload_n dX5_closeRoutine_47 rfl 0 rfl ?_
    refine tn_getR (ci := 5) (i := 2) (n := 35) (x := x15) dX5_closeRoutine_48 rfl lay_5 (by decide) fl5_47 ha rfl rfl (rc_F F25 (Or.inl (by decide)) (by decide) (hx16)) ?_
    refine tn_getI (ci := 1) (i := 2) (n := 7) (t := σ6.2.1 7 x15) dX5_closeRoutine_51 rfl lay_1 (by decide) fl5_152 hk17o rfl rfl (rc_F F25 (Or.inl (by decide)) (by decide) (rfl)) ?_
    have g35 : ((0 : Int) ≤ σ6.2.1 7 x15 ∧ σ6.2.1 7 x15 ≤ 12) := wf_7 w11 hk17o
    refine tn_callSN (M := m_X5_closeRoutine) (pc := 54) (ix := 129) (M' := m_X11_put) (As := [.ref x31, .int (iI 0), .int (iI (σ6.2.1 7 x15))]) (rest := []) dX5_closeRoutine_54 ok_X11_put stt_X11_put nl5_129 np_X11_put rfl (Nat.le_of_ble_eq_true rfl) (Nat.le_of_ble_eq_true rfl) rfl (k_X11_put (d + 2) (T := T7) (σ := σ20) (x := x31) (i := 0) (y := σ6.2.1 7 x15) hk33i (by omega) (by decide) (by omega) w24 (nh_k hk33 (by unfold HT; omega)) (by rw [hk33]; exact vok_11 (by omega))) (fun r36 T38 σ37 gt39 hp => ?_)
    obtain ⟨rfl, rfl, w41, F42⟩ := hp
    clear gt39
    have fx43 : RDX σ37 a Sx nx jx (cx) (Nx + 1) := RDX.fc fx26 w24 ha F42 (by decide) (by decide)
    have rp44 : RP σ37 a (kp + 1) := RP.frc rp27 F42 (by decide) (by decide) (by decide) (by decide) (by decide)
    show Tn _ _ 57 T7 σ37 [(0, .ref a), (1, .int (iI w))] [] _
    refine tn_iconst dX5_closeRoutine_57 ?_
    refine tn_istore_n (L' := [(2, .int (iI 0)), (0, .ref a), (1, .int (iI w))]) dX5_closeRoutine_58 rfl (by decide) rfl ?_
    refine tn_sub [1, 0] rfl (l_X5_closeRoutine_f_59 (d) (T := T7) (σ0 := σ37) (a := a) (kp := kp + 1) (Sx := Sx) (nx := nx) (jx := jx) (cy := cx) (Ny := Nx + 1) ha w41 (by omega) (fun i245 σ46 w49 F50 r51 f52 f53 => ?_) _ (0) σ37 w41 FrC.rfl (by omega) fx43 rp44 rfl)
    show Tn _ _ 88 T7 σ46 [(0, .ref a), (2, .int (iI i245))] [] _
    refine tn_iconst dX5_closeRoutine_88 ?_
    refine tn_istore_n (L' := [(2, .int (iI 0)), (0, .ref a)]) dX5_closeRoutine_89 rfl (by decide) rfl ?_
    refine tn_sub [1, 0] rfl (l_X5_closeRoutine_f_90 (d) (T := T7) (σ0 := σ46) (a := a) (kp := kp + 1) (Sx := Sx) (nx := nx) (jx := jx) (cy := cx) (Ny := Nx + 1) ha w49 (by omega) (fun i254 σ55 w58 F59 r60 f61 f62 => ?_) _ (0) σ46 w49 FrC.rfl (by omega) f52 f53 rfl)
    show Tn _ _ 118 T7 σ55 [(0, .ref a), (2, .int (iI i254))] [] _
    exact tn_vret rfl dX5_closeRoutine_118 ⟨rfl, w58, (((((FrC.rfl.trans (FrC.sub F12 (by decide))).trans (FrC.sub (FrC.old F25 gt8) (by decide))).trans (FrC.sub (FrC.old F42 gt8) (by decide))).trans (FrC.sub (FrC.old F50 gt8) (by decide))).trans (FrC.sub (FrC.old F59 gt8) (by decide))), RDX.cq (RDX.nq f61 (by omega)) (uC0n (by omega)).symm, (RP.up f62 (by omega))⟩
  · refine tn_aload_n dX5_closeRoutine_33 rfl 0 rfl ?_
    refine tn_iconst dX5_closeRoutine_34 ?_
    refine tn_iload_n dX5_closeRoutine_35 rfl 1 rfl ?_
    refine tn_callV (M := m_X5_closeRoutine) (pc := 36) (ix := 113) (ci := 5) (M' := m_X5_note) (As := [.int (iI 5), .int (iI w)]) (rest := []) dX5_closeRoutine_36 ok_X5_note im_X5_note se_X5_note ml5_113 np_X5_note rfl rfl ha rfl (Nat.le_of_ble_eq_true rfl) (Nat.le_of_ble_eq_true rfl) rfl (k_X5_note_f (d + 2) (T := T7) (σ := σ20) (a := a) (f := 5) (p := w) ha (by decide) (by omega) w24 ) (fun r63 T65 σ64 gt66 hp => ?_)
    obtain ⟨rfl, rfl, w69, F70, f67⟩ := hp
    clear gt66
    have fx71 : RDX σ64 a Sx nx jx (fpC (cntN 5 (w) (cx).fp) (cx)) (Nx + 1) := RDX.nt fx26 w24 ha F70 f67
    have rp72 : RP σ64 a (kp + 1) := RP.frc rp27 F70 (by decide) (by decide) (by decide) (by decide) (by decide)
    show Tn _ _ 39 T7 σ64 [(0, .ref a), (1, .int (iI w))] [] _
    refine tn_aload_n dX5_closeRoutine_39 rfl 0 rfl ?_
    refine tn_getR (ci := 5) (i := 2) (n := 35) (x := x15) dX5_closeRoutine_40 rfl lay_5 (by decide) fl5_47 ha rfl rfl (rc_F F70 (Or.inl (by decide)) (by decide) (rc_F F25 (Or.inl (by decide)) (by decide) (hx16))) ?_
    obtain ⟨x73, hx74, hk75, hl76⟩ : ∃ x : Nat, σ6.2.1 14 x15 = (x : Int) ∧ AR T7 x 11 12 12 := wf_14 w11 hk17o
    have hk75i : IA T7 x73 := by unfold IA; omega
    refine tn_getR (ci := 1) (i := 9) (n := 14) (x := x73) dX5_closeRoutine_43 rfl lay_1 (by decide) fl5_149 hk17o rfl rfl (rc_F F70 (Or.inl (by decide)) (by decide) (rc_F F25 (Or.inl (by decide)) (by decide) (hx74))) ?_
    refine tn_iconst dX5_closeRoutine_46 ?_
    refine tn_aload_n dX5_closeRoutine_47 rfl 0 rfl ?_
    refine tn_getR (ci := 5) (i := 2) (n := 35) (x := x15) dX5_closeRoutine_48 rfl lay_5 (by decide) fl5_47 ha rfl rfl (rc_F F70 (Or.inl (by decide)) (by decide) (rc_F F25 (Or.inl (by decide)) (by decide) (hx16))) ?_
    refine tn_getI (ci := 1) (i := 2) (n := 7) (t := σ6.2.1 7 x15) dX5_closeRoutine_51 rfl lay_1 (by decide) fl5_152 hk17o rfl rfl (rc_F F70 (Or.inl (by decide)) (by decide) (rc_F F25 (Or.inl (by decide)) (by decide) (rfl))) ?_
    have g77 : ((0 : Int) ≤ σ6.2.1 7 x15 ∧ σ6.2.1 7 x15 ≤ 12) := wf_7 w11 hk17o
    refine tn_callSN (M := m_X5_closeRoutine) (pc := 54) (ix := 129) (M' := m_X11_put) (As := [.ref x73, .int (iI 0), .int (iI (σ6.2.1 7 x15))]) (rest := []) dX5_closeRoutine_54 ok_X11_put stt_X11_put nl5_129 np_X11_put rfl (Nat.le_of_ble_eq_true rfl) (Nat.le_of_ble_eq_true rfl) rfl (k_X11_put (d + 2) (T := T7) (σ := σ64) (x := x73) (i := 0) (y := σ6.2.1 7 x15) hk75i (by omega) (by decide) (by omega) w69 (nh_k hk75 (by unfold HT; omega)) (by rw [hk75]; exact vok_11 (by omega))) (fun r78 T80 σ79 gt81 hp => ?_)
    obtain ⟨rfl, rfl, w83, F84⟩ := hp
    clear gt81
    have fx85 : RDX σ79 a Sx nx jx (fpC (cntN 5 (w) (cx).fp) (cx)) (Nx + 1) := RDX.fc fx71 w69 ha F84 (by decide) (by decide)
    have rp86 : RP σ79 a (kp + 1) := RP.frc rp72 F84 (by decide) (by decide) (by decide) (by decide) (by decide)
    show Tn _ _ 57 T7 σ79 [(0, .ref a), (1, .int (iI w))] [] _
    refine tn_iconst dX5_closeRoutine_57 ?_
    refine tn_istore_n (L' := [(2, .int (iI 0)), (0, .ref a), (1, .int (iI w))]) dX5_closeRoutine_58 rfl (by decide) rfl ?_
    refine tn_sub [1, 0] rfl (l_X5_closeRoutine_f_59 (d) (T := T7) (σ0 := σ79) (a := a) (kp := kp + 1) (Sx := Sx) (nx := nx) (jx := jx) (cy := fpC (cntN 5 (w) (cx).fp) (cx)) (Ny := Nx + 1) ha w83 (by omega) (fun i287 σ88 w91 F92 r93 f94 f95 => ?_) _ (0) σ79 w83 FrC.rfl (by omega) fx85 rp86 rfl)
    show Tn _ _ 88 T7 σ88 [(0, .ref a), (2, .int (iI i287))] [] _
    refine tn_iconst dX5_closeRoutine_88 ?_
    refine tn_istore_n (L' := [(2, .int (iI 0)), (0, .ref a)]) dX5_closeRoutine_89 rfl (by decide) rfl ?_
    refine tn_sub [1, 0] rfl (l_X5_closeRoutine_f_90 (d) (T := T7) (σ0 := σ88) (a := a) (kp := kp + 1) (Sx := Sx) (nx := nx) (jx := jx) (cy := fpC (cntN 5 (w) (cx).fp) (cx)) (Ny := Nx + 1) ha w91 (by omega) (fun i296 σ97 w100 F101 r102 f103 f104 => ?_) _ (0) σ88 w91 FrC.rfl (by omega) f94 f95 rfl)
    show Tn _ _ 118 T7 σ97 [(0, .ref a), (2, .int (iI i296))] [] _
    exact tn_vret rfl dX5_closeRoutine_118 ⟨rfl, w100, ((((((FrC.rfl.trans (FrC.sub F12 (by decide))).trans (FrC.sub (FrC.old F25 gt8) (by decide))).trans (FrC.sub (FrC.old F70 gt8) (by decide))).trans (FrC.sub (FrC.old F84 gt8) (by decide))).trans (FrC.sub (FrC.old F92 gt8) (by decide))).trans (FrC.sub (FrC.old F101 gt8) (by decide))), RDX.cq (RDX.nq f103 (by omega)) (uC0o (by omega)).symm, (RP.up f104 (by omega))⟩
