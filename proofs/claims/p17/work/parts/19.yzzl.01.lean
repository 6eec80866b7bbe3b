section
set_option maxHeartbeats 1000000 in
set_option maxRecDepth 20000 in
theorem l_X5_closeRoutine_m_59 (d : Nat) {T : CT} {σ0 : MS} {a : Nat} {Sx : Int → Int} {nx : Nat} {jx : Nat} {cy : CS} {Ny : Int} {sq : MS} {cq : Nat} {Nq : Int} {kp : Int} {post : Option Value → CT → MS → Prop} (h_a : OB T a 5) (hw0 : WT T σ0) (hds : DS [adN sq 14 cq, adN sq 15 cq, adN sq 5 cq]) (h35 : σ0.2.1 35 a = (cq : Int)) (hoc : OB T cq 1) (hNq : sq.2.1 7 cq = Nq) (h7q : 0 ≤ sq.2.1 7 cq ∧ sq.2.1 7 cq ≤ 12) (hkp : kp ≤ 150) (hx_88 : ∀ (i2 : Int) (σ : MS) , (WT T σ) → (FrC T [] σ0 σ) → (0 ≤ i2 ∧ i2 ≤ 12) → (RDX σ a Sx nx jx cy Ny) → (CLT sq σ cq i2 0) → (i2 ≤ sq.2.1 7 cq) → (RP σ a kp) → (sq.2.1 7 cq ≤ i2) → Tn (d + 4) m_X5_closeRoutine 88 T σ [(0, .ref a), (2, .int (iI i2))] [] post) : ∀ (n : Nat) (i2 : Int) (σ : MS) , (WT T σ) → (FrC T [] σ0 σ) → (0 ≤ i2 ∧ i2 ≤ 12) → (RDX σ a Sx nx jx cy Ny) → (CLT sq σ cq i2 0) → (i2 ≤ sq.2.1 7 cq) → (RP σ a kp) → (2147483700 - i2).toNat = n → Tn (d + 4) m_X5_closeRoutine 59 T σ [(0, .ref a), (2, .int (iI i2))] [] post := by
  intro n
  induction n using Nat.strongRecOn with
  | _ n ih =>
    intro i2 σ hw hF r_i2 hcy hct hle hrp hm
    have h35q : sq.2.1 35 a = (cq : Int) := by have z9 := CLT.f hct 35 a (by decide); have z8 : σ.2.1 35 a = σ0.2.1 35 a := congrFun (hF.1 35 (Or.inl (by decide)) (by decide)) (a : Int); omega
    refine tn_iload_n dX5_closeRoutine_59 rfl 1 rfl ?_
    refine tn_aload_n dX5_closeRoutine_60 rfl 0 rfl ?_
    obtain ⟨xq1, hx2, hk3⟩ : ∃ x : Nat, σ0.2.1 35 a = (x : Int) ∧ (T x).1 = 31 := wf_35 hw0 h_a
    have hk3o : OB T xq1 1 := ⟨by omega, by rw [hk3]; rfl, by omega⟩
    refine tn_getR (ci := 5) (i := 2) (n := 35) (x := xq1) dX5_closeRoutine_61 rfl lay_5 (by decide) fl5_47 h_a rfl rfl (rc_F hF (Or.inl (by decide)) (by decide) (hx2)) ?_
    refine tn_getI (ci := 1) (i := 2) (n := 7) (t := σ0.2.1 7 xq1) dX5_closeRoutine_64 rfl lay_1 (by decide) fl5_152 hk3o rfl rfl (rc_F hF (Or.inl (by decide)) (by decide) (rfl)) ?_
    have g5 : ((0 : Int) ≤ σ0.2.1 7 xq1 ∧ σ0.2.1 7 xq1 ≤ 12) := wf_7 hw0 hk3o
    refine tn_icmp_ge (tgt := 88) dX5_closeRoutine_67 (by decide) ⟨by omega, by omega⟩ ⟨by omega, by omega⟩ (fun h6 => ?_) (fun h6 => ?_)
    · have ex75 : σ.2.1 35 a = (cq : Int) := (CLT.f hct 35 a (by decide)).trans h35q
      have ex7 : xq1 = cq := by have z8 : σ.2.1 35 a = (xq1 : Int) := rc_F hF (Or.inl (by decide)) (by decide) (hx2); omega
      have ex7v : σ.2.1 7 cq = σ0.2.1 7 xq1 := by rw [← ex7]; exact rc_F hF (Or.inl (by decide)) (by decide) (rfl)
      have ex7z := CLT.f hct 7 cq (by decide)
      exact tn_sub [0, 1] rfl (hx_88 (i2) σ hw (FrC.rfl.trans (FrC.sub hF (by decide))) (by omega) hcy hct hle (RP.up hrp (by omega)) (by omega))
    · refine tn_aload_n dX5_closeRoutine_70 rfl 0 rfl ?_
      refine tn_getR (ci := 5) (i := 2) (n := 35) (x := xq1) dX5_closeRoutine_71 rfl lay_5 (by decide) fl5_47 h_a rfl rfl (rc_F hF (Or.inl (by decide)) (by decide) (hx2)) ?_
      obtain ⟨xq8, hx9, hk10, hl11⟩ : ∃ x : Nat, σ0.2.1 15 xq1 = (x : Int) ∧ AR T x 1 144 144 := wf_15 hw0 hk3o
      have hk10i : IA T xq8 := by unfold IA; omega
      refine tn_getR (ci := 1) (i := 10) (n := 15) (x := xq8) dX5_closeRoutine_74 rfl lay_1 (by decide) fl5_155 hk3o rfl rfl (rc_F hF (Or.inl (by decide)) (by decide) (hx9)) ?_
      refine tn_iload_n dX5_closeRoutine_77 rfl 1 rfl ?_
      refine tn_iload_n dX5_closeRoutine_78 rfl 1 rfl ?_
      have ce12 : xq1 = cq := by have z9 : σ.2.1 35 a = (cq : Int) := (CLT.f hct 35 a (by decide)).trans h35q; have z8 : σ.2.1 35 a = (xq1 : Int) := rc_F hF (Or.inl (by decide)) (by decide) (hx2); omega
      have ce12x : adN sq 15 cq = xq8 := by rw [← CLT.ad hct 15 cq (by decide), ← ce12]; exact adN_of (rc_F hF (Or.inl (by decide)) (by decide) (hx9))
      have ce12l := (ar_of (wf_15 hw (code_ob hw h_a (rc_F hF (Or.inl (by decide)) (by decide) (hx2)))) (rc_F hF (Or.inl (by decide)) (by decide) (hx9))).2
      refine tn_callSN (M := m_X5_closeRoutine) (pc := 79) (ix := 129) (M' := m_X11_put) (As := [.ref xq8, .int (iI i2), .int (iI i2)]) (rest := []) dX5_closeRoutine_79 ok_X11_put stt_X11_put nl5_129 np_X11_put rfl (Nat.le_of_ble_eq_true rfl) (Nat.le_of_ble_eq_true rfl) rfl (k_X11_put_x (d + 2) (T := T) (σ := σ) (x := xq8) (i := i2) (y := i2) hk10i (by omega) (by omega) (by omega) hw (nh_k hk10 (by unfold HT; omega)) (vok_1 (by have q9 := hk10; omega) (by omega))) (fun r13 T15 σ14 gt16 hp => ?_)
      obtain ⟨rfl, rfl, w20, F21, f17, f18⟩ := hp
      clear gt16
      have fx22 : RDX σ14 a Sx nx jx (cy) (Ny) := RDX.fc hcy hw h_a F21 (by decide) (by decide)
      have rp23 : RP σ14 a (kp) := RP.frc hrp F21 (by decide) (by decide) (by decide) (by decide) (by decide)
      show Tn _ _ 82 T σ14 [(0, .ref a), (2, .int (iI i2))] [] _
      refine tn_iinc (q0 := 1) (L' := [(2, .int (iI (i2 + 1))), (0, .ref a)]) dX5_closeRoutine_82 rfl (by decide) rfl ?_
      refine tn_goto (tgt := 59) dX5_closeRoutine_85 (by decide) ?_
      have ct24 : CLT sq σ14 cq (i2 + 1) 0 := CLT.hm (P := 0 ≤ i2 ∧ i2 < ((T xq8).2 : Int)) hct hds (by rw [ce12x]; exact f18) ⟨by omega, by omega⟩
      have ce127 : σ.2.1 7 cq = σ0.2.1 7 xq1 := by rw [← ce12]; exact rc_F hF (Or.inl (by decide)) (by decide) (rfl)
      have ce128 := CLT.f hct 7 cq (by decide)
      exact tn_sub [1, 0] rfl (ih _ (by omega) (i2 + 1) σ14 w20 ((FrC.rfl.trans (FrC.sub hF (by decide))).trans (FrC.sub F21 (by decide))) (by omega) fx22 ct24 (by omega) (RP.up rp23 (by omega)) rfl)
set_option maxHeartbeats 1000000 in
set_option maxRecDepth 20000 in
theorem l_X5_closeRoutine_m_90 (d : Nat) {T : CT} {σ0 : MS} {a : Nat} {Sx : Int → Int} {nx : Nat} {jx : Nat} {cy : CS} {Ny : Int} {sq : MS} {cq : Nat} {Nq : Int} {kp : Int} {post : Option Value → CT → MS → Prop} (h_a : OB T a 5) (hw0 : WT T σ0) (hds : DS [adN sq 14 cq, adN sq 15 cq, adN sq 5 cq]) (h35 : σ0.2.1 35 a = (cq : Int)) (hoc : OB T cq 1) (hkk : sq.2.1 6 cq ≤ 200 → ∀ k, 0 ≤ k → k < sq.2.1 6 cq → 0 ≤ cdW sq cq k 0) (hkp : kp ≤ 150) (hx_118 : ∀ (i2 : Int) (σ : MS) , (WT T σ) → (FrC T [] σ0 σ) → (0 ≤ i2 ∧ i2 ≤ 120) → (RDX σ a Sx nx jx cy Ny) → (CLT sq σ cq Nq i2) → (i2 = 0 ∨ i2 ≤ sq.2.1 6 cq) → (RP σ a kp) → ((sq.2.1 6 cq ≤ i2 ∨ 120 ≤ i2) ∧ i2 ≤ 120) → Tn (d + 4) m_X5_closeRoutine 118 T σ [(0, .ref a), (2, .int (iI i2))] [] post) : ∀ (n : Nat) (i2 : Int) (σ : MS) , (WT T σ) → (FrC T [] σ0 σ) → (0 ≤ i2 ∧ i2 ≤ 120) → (RDX σ a Sx nx jx cy Ny) → (CLT sq σ cq Nq i2) → (i2 = 0 ∨ i2 ≤ sq.2.1 6 cq) → (RP σ a kp) → (2147483700 - i2).toNat = n → Tn (d + 4) m_X5_closeRoutine 90 T σ [(0, .ref a), (2, .int (iI i2))] [] post := by
  intro n
  induction n using Nat.strongRecOn with
  | _ n ih =>
    intro i2 σ hw hF r_i2 hcy hct hle hrp hm
    have h35q : sq.2.1 35 a = (cq : Int) := by have z9 := CLT.f hct 35 a (by decide); have z8 : σ.2.1 35 a = σ0.2.1 35 a := congrFun (hF.1 35 (Or.inl (by decide)) (by decide)) (a : Int); omega
    refine tn_iload_n dX5_closeRoutine_90 rfl 1 rfl ?_
    refine tn_aload_n dX5_closeRoutine_91 rfl 0 rfl ?_
    obtain ⟨xq1, hx2, hk3⟩ : ∃ x : Nat, σ0.2.1 35 a = (x : Int) ∧ (T x).1 = 31 := wf_35 hw0 h_a
    have hk3o : OB T xq1 1 := ⟨by omega, by rw [hk3]; rfl, by omega⟩
    refine tn_getR (ci := 5) (i := 2) (n := 35) (x := xq1) dX5_closeRoutine_92 rfl lay_5 (by decide) fl5_47 h_a rfl rfl (rc_F hF (Or.inl (by decide)) (by decide) (hx2)) ?_
    refine tn_getI (ci := 1) (i := 1) (n := 6) (t := σ0.2.1 6 xq1) dX5_closeRoutine_95 rfl lay_1 (by decide) fl5_146 hk3o rfl rfl (rc_F hF (Or.inl (by decide)) (by decide) (rfl)) ?_
    have g5 : ((0 : Int) ≤ σ0.2.1 6 xq1 ∧ σ0.2.1 6 xq1 ≤ 5000) ∧ ((T xq1).1 = 50 → σ0.2.1 6 xq1 ≤ 200) := wf_6 hw0 hk3o
    have g5x := g5.2
    replace g5 := g5.1
    clear g5x
    refine tn_icmp_ge (tgt := 118) dX5_closeRoutine_98 (by decide) ⟨by omega, by omega⟩ ⟨by omega, by omega⟩ (fun h6 => ?_) (fun h6 => ?_)
    · have ex75 : σ.2.1 35 a = (cq : Int) := (CLT.f hct 35 a (by decide)).trans h35q
      have ex7 : xq1 = cq := by have z8 : σ.2.1 35 a = (xq1 : Int) := rc_F hF (Or.inl (by decide)) (by decide) (hx2); omega
      have ex7v : σ.2.1 6 cq = σ0.2.1 6 xq1 := by rw [← ex7]; exact rc_F hF (Or.inl (by decide)) (by decide) (rfl)
      have ex7z := CLT.f hct 6 cq (by decide)
      exact tn_sub [0, 1] rfl (hx_118 (i2) σ hw (FrC.rfl.trans (FrC.sub hF (by decide))) (by omega) hcy hct hle (RP.up hrp (by omega)) (by omega))
    · refine tn_iload_n dX5_closeRoutine_101 rfl 1 rfl ?_
      refine tn_bipush dX5_closeRoutine_102 (by decide) ?_
      refine tn_icmp_ge (tgt := 118) dX5_closeRoutine_104 (by decide) ⟨by omega, by omega⟩ ⟨by decide, by decide⟩ (fun h8 => ?_) (fun h8 => ?_)
      · have ex95 : σ.2.1 35 a = (cq : Int) := (CLT.f hct 35 a (by decide)).trans h35q
        have ex9 : xq1 = cq := by have z8 : σ.2.1 35 a = (xq1 : Int) := rc_F hF (Or.inl (by decide)) (by decide) (hx2); omega
        have ex9v : σ.2.1 6 cq = σ0.2.1 6 xq1 := by rw [← ex9]; exact rc_F hF (Or.inl (by decide)) (by decide) (rfl)
        have ex9z := CLT.f hct 6 cq (by decide)
        exact tn_sub [0, 1] rfl (hx_118 (i2) σ hw (FrC.rfl.trans (FrC.sub hF (by decide))) (by omega) hcy hct hle (RP.up hrp (by omega)) (by omega))
      · refine tn_aload_n dX5_closeRoutine_107 rfl 0 rfl ?_
        refine tn_iload_n dX5_closeRoutine_108 rfl 1 rfl ?_
        have ce105 : σ.2.1 35 a = (cq : Int) := (CLT.f hct 35 a (by decide)).trans h35q
        have ce10 : xq1 = cq := by have z8 : σ.2.1 35 a = (xq1 : Int) := rc_F hF (Or.inl (by decide)) (by decide) (hx2); omega
        have ce106 : σ.2.1 6 cq = σ0.2.1 6 xq1 := by rw [← ce10]; exact rc_F hF (Or.inl (by decide)) (by decide) (rfl)
        have ce10k : 0 ≤ i2 ∧ i2 < σ.2.1 6 cq := by omega
        refine tn_callV (M := m_X5_closeRoutine) (pc := 109) (ix := 158) (ci := 5) (M' := m_X5_numberNew) (As := [.int (iI i2)]) (rest := []) dX5_closeRoutine_109 ok_X5_numberNew im_X5_numberNew se_X5_numberNew ml5_158 np_X5_numberNew rfl rfl h_a rfl (Nat.le_of_ble_eq_true rfl) (Nat.le_of_ble_eq_true rfl) rfl (k_numberNew_c (d) (T := T) (σ := σ) (a := a) (k := i2) (c := cq) h_a (by omega) hw ce105 ce10k (CLT.kd hct ce10k hkk)) (fun r11 T13 σ12 gt14 hp => ?_)
        obtain ⟨rfl, rfl, w18, F19, f15, f16⟩ := hp
        clear gt14
        have fx20 : RDX σ12 a Sx nx jx (cy) (Ny) := RDX.fc hcy hw h_a F19 (by decide) (by decide)
        have rp21 : RP σ12 a (kp) := RP.frc hrp F19 (by decide) (by decide) (by decide) (by decide) (by decide)
        show Tn _ _ 112 T σ12 [(0, .ref a), (2, .int (iI i2))] [] _
        refine tn_iinc (q0 := 1) (L' := [(2, .int (iI (i2 + 1))), (0, .ref a)]) dX5_closeRoutine_112 rfl (by decide) rfl ?_
        refine tn_goto (tgt := 90) dX5_closeRoutine_115 (by decide) ?_
        have ct22 : CLT sq σ12 cq Nq (i2 + 1) := CLT.nn hct hds f15 f16 (by omega)
        have ce108 := CLT.f hct 6 cq (by decide)
        exact tn_sub [1, 0] rfl (ih _ (by omega) (i2 + 1) σ12 w18 ((FrC.rfl.trans (FrC.sub hF (by decide))).trans (FrC.sub F19 (by decide))) (by omega) fx20 ct22 (Or.inr (by omega)) (RP.up rp21 (by omega)) rfl)
set_option maxHeartbeats 1000000 in
set_option maxRecDepth 20000 in
theorem k_X5_closeRoutine_m (d : Nat) {T : CT} {σ : MS} {a : Nat} {w : Int} {kp : Int} {Sx : Int → Int} {nx jx : Nat} {cx : CS} {Nx : Int} {Tg : CT} {gs : MS} {mx : MK} {Sj : Nat → Prop} (ha : OB T a 5) (h_w : -2147483648 ≤ w ∧ w ≤ 2147483647) (hw : WT T σ) (hfx : RDX σ a Sx nx jx cx Nx) (hmg : MG Tg gs T σ a mx) (hmb : MBD mx) (hI : INJ Sj Tg gs) (hwg : WT Tg gs) (hSc : Sj (adN gs 35 a)) (hkp : kp ≤ 140) (hrp : RP σ a kp) : Tn (d + 4) m_X5_closeRoutine 0 T σ [(0, .ref a), (1, .int (iI w))] [] (fun ro T2 σ2 => ro = none ∧ WT T2 σ2 ∧ FrC T [5, 6, 43, 44] σ σ2 ∧ (RDX σ2 a Sx nx jx (uC cx (0, w, Nx + 1, 0)) (Nx + 1)) ∧ (∃ s1 : MS, WT T2 s1 ∧ MG Tg gs T2 s1 a (mx.put (mkI 7 0 0 1 0 0)) ∧ CLT s1 σ2 (adN gs 35 a) (s1.2.1 7 (adN gs 35 a)) (if s1.2.1 6 (adN gs 35 a) < 120 then s1.2.1 6 (adN gs 35 a) else 120)) ∧ (RP σ2 a (kp + 1))) := by
  have hSb := hfx.1.sb
  refine tn_aload_n dX5_closeRoutine_0 rfl 0 rfl ?_
  obtain ⟨xq1, hx2, hk3⟩ : ∃ x : Nat, σ.2.1 35 a = (x : Int) ∧ (T x).1 = 31 := wf_35 hw ha
  have hk3o : OB T xq1 1 := ⟨by omega, by rw [hk3]; rfl, by omega⟩
  refine tn_getR (ci := 5) (i := 2) (n := 35) (x := xq1) dX5_closeRoutine_1 rfl lay_5 (by decide) fl5_47 ha rfl rfl (hx2) ?_
  refine tn_bipush dX5_closeRoutine_4 (by decide) ?_
  refine tn_iconst dX5_closeRoutine_6 ?_
  refine tn_iconst dX5_closeRoutine_7 ?_
  refine tn_callV (M := m_X5_closeRoutine) (pc := 8) (ix := 139) (ci := 1) (M' := m_X1_append) (As := [.int (iI 7), .int (iI 0), .int (iI 0)]) (rest := []) dX5_closeRoutine_8 ok_X1_append im_X1_append se_X1_append ml5_139 np_X1_append rfl rfl hk3o rfl (Nat.le_of_ble_eq_true rfl) (Nat.le_of_ble_eq_true rfl) rfl (k_append_c (d) (T := T) (σ := σ) (a := xq1) (k := 7) (p := 0) (q := 0) hk3o hk3 (by decide) (by decide) (by decide) hw (RP.cnt hrp hw ha (hx2) (by omega)) (by omega)) (fun r5 T7 σ6 gt8 hp => ?_)
  obtain ⟨rfl, w13, F14, f9, f10, f11⟩ := hp
  have nn15 : 0 ≤ (mx).n := by have z7 : WT T σ := hw; have z6 : σ.2.1 35 a = (xq1 : Int) := hx2; have z9 := wf_6 z7 (code_ob z7 ha z6); have z8 := MG.e6 hmg (MG.cd hmg z6); omega
  have a3516 : σ.2.1 35 a = (xq1 : Int) := hx2
  have fx17 : RDX σ6 a Sx nx jx (cx) (Nx + 1) := RDX.ap hfx hw ha (hx2) F14 f9
  replace ha : OB T7 a 5 := gt8.ob ha
  have rp18 : RP σ6 a (kp + 1) := RP.app hrp (hx2) F14 (by decide) (by decide) (by decide) (by decide) f9
  have mg19 : MG Tg gs T7 σ6 a ((mx).put (rwI (7) (0) (0))) := MG.app hmg (MG.cd hmg a3516) gt8 f9 f10 f11 (by omega)
  show Tn _ _ 11 T7 σ6 [(0, .ref a), (1, .int (iI w))] [] _
  refine tn_aload_n dX5_closeRoutine_11 rfl 0 rfl ?_
  obtain ⟨xq20, hx21, hk22⟩ : ∃ x : Nat, σ6.2.1 35 a = (x : Int) ∧ (T7 x).1 = 31 := wf_35 w13 ha
  have hk22o : OB T7 xq20 1 := ⟨by omega, by rw [hk22]; rfl, by omega⟩
  refine tn_getR (ci := 5) (i := 2) (n := 35) (x := xq20) dX5_closeRoutine_12 rfl lay_5 (by decide) fl5_47 ha rfl rfl (hx21) ?_
  refine tn_iconst dX5_closeRoutine_15 ?_
  refine tn_iconst dX5_closeRoutine_16 ?_
  refine tn_iconst dX5_closeRoutine_17 ?_
  have c624 : 1 ≤ σ6.2.1 6 xq20 := MG.c1 (m := mx) mg19 (MG.cd mg19 (hx21)) nn15
  refine tn_callV (M := m_X5_closeRoutine) (pc := 18) (ix := 143) (ci := 1) (M' := m_X1_lastOperand) (As := [.int (iI 0), .int (iI 1), .int (iI 0)]) (rest := []) dX5_closeRoutine_18 ok_X1_lastOperand im_X1_lastOperand se_X1_lastOperand ml5_143 np_X1_lastOperand rfl rfl hk22o rfl (Nat.le_of_ble_eq_true rfl) (Nat.le_of_ble_eq_true rfl) rfl (k_lastOperand_c (d + 2) (T := T7) (σ := σ6) (a := xq20) (i := 0) (k := 1) (p := 0) hk22o hk22 (by decide) (by decide) (by decide) w13 (by omega) (by omega)) (fun r25 T27 σ26 gt28 hp => ?_)
  obtain ⟨rfl, rfl, w32, F33, f29, f30⟩ := hp
  clear gt28
  have mg34 : MG Tg gs T7 σ26 a ((mx).put (uZ (uZ (rwI (7) (0) (0)) (3 + 2 * 0) (1)) (4 + 2 * 0) (0))) := MG.lo (m := mx) mg19 (MG.cd mg19 (show σ6.2.1 35 a = (xq20 : Int) from hx21)) f29 f30 (by decide) (by show (7 : Int) ≠ 12; omega) nn15
  have mg34l : MG Tg gs T7 σ26 a ((mx).put (mkI 7 0 0 1 0 0)) := by have q9 := mg34; rw [mk_lo] at q9; exact q9
  have fx35 : RDX σ26 a Sx nx jx (cx) (Nx + 1) := RDX.fc fx17 w13 ha F33 (by decide) (by decide)
  have rp36 : RP σ26 a (kp + 1) := RP.frc rp18 F33 (by decide) (by decide) (by decide) (by decide) (by decide)
  show Tn _ _ 21 T7 σ26 [(0, .ref a), (1, .int (iI w))] [] _
  refine tn_aload_n dX5_closeRoutine_21 rfl 0 rfl ?_
  refine tn_getR (ci := 5) (i := 2) (n := 35) (x := xq20) dX5_closeRoutine_22 rfl lay_5 (by decide) fl5_47 ha rfl rfl (rc_F F33 (Or.inl (by decide)) (by decide) (hx21)) ?_
  refine tn_getI (ci := 1) (i := 1) (n := 6) (t := σ6.2.1 6 xq20) dX5_closeRoutine_25 rfl lay_1 (by decide) fl5_146 hk22o rfl rfl (rc_F F33 (Or.inl (by decide)) (by decide) (rfl)) ?_
  have g37 : ((0 : Int) ≤ σ6.2.1 6 xq20 ∧ σ6.2.1 6 xq20 ≤ 5000) ∧ ((T7 xq20).1 = 50 → σ6.2.1 6 xq20 ≤ 200) := wf_6 w13 hk22o
  have g37x := g37.2
  replace g37 := g37.1
  clear g37x
  have n638 : σ6.2.1 6 xq20 = Nx + 1 := (rc_F F33 (Or.inl (by decide)) (by decide) (rfl)).symm.trans ((fx35).2.2 xq20 (rc_F F33 (Or.inl (by decide)) (by decide) (hx21)))
  refine tn_bipush dX5_closeRoutine_28 (by decide) ?_
  refine tn_icmp_le (tgt := 39) dX5_closeRoutine_30 (by decide) ⟨by omega, by omega⟩ ⟨by decide, by decide⟩ (fun h39 => ?_) (fun h39 => ?_)
  · obtain ⟨cl40, cl40e⟩ : ∃ z : MS, z = σ26 := ⟨_, rfl⟩
    have cl40m : MG Tg gs T7 cl40 a ((mx).put (mkI 7 0 0 1 0 0)) := by rw [cl40e]; exact mg34l
    have cl40w : WT T7 cl40 := by rw [cl40e]; exact w32
    have cl405 : cl40.2.1 35 a = (xq20 : Int) := by rw [cl40e]; exact rc_F F33 (Or.inl (by decide)) (by decide) (hx21)
    have cl40d : adN gs 35 a = xq20 := MG.cd cl40m cl405
    have cl40o : OB T7 xq20 1 := code_ob cl40w ha cl405
    have cl40s : DS [adN cl40 14 xq20, adN cl40 15 xq20, adN cl40 5 xq20] := (FG.inj cl40m.1 hI hwg hSc).d3 (by rw [← cl40d]; exact hSc) cl40o
    have cl40k := MG.kd cl40m cl40d
    refine tn_aload_n dX5_closeRoutine_39 rfl 0 rfl ?_
    refine tn_getR (ci := 5) (i := 2) (n := 35) (x := xq20) dX5_closeRoutine_40 rfl lay_5 (by decide) fl5_47 ha rfl rfl (rc_F F33 (Or.inl (by decide)) (by decide) (hx21)) ?_
    obtain ⟨xq41, hx42, hk43, hl44⟩ : ∃ x : Nat, σ6.2.1 14 xq20 = (x : Int) ∧ AR T7 x 11 12 12 := wf_14 w13 hk22o
    have hk43i : IA T7 xq41 := by unfold IA; omega
    refine tn_getR (ci := 1) (i := 9) (n := 14) (x := xq41) dX5_closeRoutine_43 rfl lay_1 (by decide) fl5_149 hk22o rfl rfl (rc_F F33 (Or.inl (by decide)) (by decide) (hx42)) ?_
    refine tn_iconst dX5_closeRoutine_46 ?_
    refine tn_aload_n dX5_closeRoutine_47 rfl 0 rfl ?_
    refine tn_getR (ci := 5) (i := 2) (n := 35) (x := xq20) dX5_closeRoutine_48 rfl lay_5 (by decide) fl5_47 ha rfl rfl (rc_F F33 (Or.inl (by decide)) (by decide) (hx21)) ?_
    refine tn_getI (ci := 1) (i := 2) (n := 7) (t := σ6.2.1 7 xq20) dX5_closeRoutine_51 rfl lay_1 (by decide) fl5_152 hk22o rfl rfl (rc_F F33 (Or.inl (by decide)) (by decide) (rfl)) ?_
    have g45 : ((0 : Int) ≤ σ6.2.1 7 xq20 ∧ σ6.2.1 7 xq20 ≤ 12) := wf_7 w13 hk22o
    refine tn_callSN (M := m_X5_closeRoutine) (pc := 54) (ix := 129) (M' := m_X11_put) (As := [.ref xq41, .int (iI 0), .int (iI (σ6.2.1 7 xq20))]) (rest := []) dX5_closeRoutine_54 ok_X11_put stt_X11_put nl5_129 np_X11_put rfl (Nat.le_of_ble_eq_true rfl) (Nat.le_of_ble_eq_true rfl) rfl (k_X11_put_x (d + 2) (T := T7) (σ := σ26) (x := xq41) (i := 0) (y := σ6.2.1 7 xq20) hk43i (by omega) (by decide) (by omega) w32 (nh_k hk43 (by unfold HT; omega)) (by rw [hk43]; exact vok_11 (by omega))) (fun r46 T48 σ47 gt49 hp => ?_)
    obtain ⟨rfl, rfl, w53, F54, f50, f51⟩ := hp
    clear gt49
    have fx55 : RDX σ47 a Sx nx jx (cx) (Nx + 1) := RDX.fc fx35 w32 ha F54 (by decide) (by decide)
    have rp56 : RP σ47 a (kp + 1) := RP.frc rp36 F54 (by decide) (by decide) (by decide) (by decide) (by decide)
    have ct57a : adN cl40 14 xq20 = xq41 := adN_of (by rw [cl40e]; exact (rc_F F33 (Or.inl (by decide)) (by decide) (hx42)))
    have ct577 : cl40.2.1 7 xq20 = σ6.2.1 7 xq20 := by rw [cl40e]; exact (rc_F F33 (Or.inl (by decide)) (by decide) (rfl))
    have ct57 : CLT cl40 σ47 xq20 0 0 := CLT.in (P := (0 : Int) ≤ 0 ∧ (0 : Int) < ((T7 xq41).2 : Int)) cl40s (by rw [ct57a, ct577, cl40e]; exact f51) ⟨by omega, by have z9 := ar_of (wf_14 cl40w cl40o) (show cl40.2.1 14 xq20 = (xq41 : Int) by rw [cl40e]; exact (rc_F F33 (Or.inl (by decide)) (by decide) (hx42))); have z8 := z9.2; omega⟩
    show Tn _ _ 57 T7 σ47 [(0, .ref a), (1, .int (iI w))] [] _
    refine tn_iconst dX5_closeRoutine_57 ?_
    refine tn_istore_n (L' := [(2, .int (iI 0)), (0, .ref a), (1, .int (iI w))]) dX5_closeRoutine_58 rfl (by decide) rfl ?_
    refine tn_sub [1, 0] rfl (l_X5_closeRoutine_m_59 (d) (T := T7) (σ0 := σ47) (a := a) (kp := kp + 1) (Sx := Sx) (nx := nx) (jx := jx) (cy := cx) (Ny := Nx + 1) (sq := cl40) (cq := xq20) (Nq := (cl40.2.1 7 xq20)) ha w53 cl40s (show σ47.2.1 35 a = (xq20 : Int) from ((CLT.f ct57 35 a (by decide)).trans cl405)) cl40o rfl (wf_7 cl40w cl40o) (by omega) (fun i258 σ59 w62 F63 r64 f65 f66 f67 f68 f69 => ?_) _ (0) σ47 w53 FrC.rfl (by omega) fx55 ct57 (by have z9 := wf_7 cl40w cl40o; omega) rp56 rfl)
    show Tn _ _ 88 T7 σ59 [(0, .ref a), (2, .int (iI i258))] [] _
    refine tn_iconst dX5_closeRoutine_88 ?_
    refine tn_istore_n (L' := [(2, .int (iI 0)), (0, .ref a)]) dX5_closeRoutine_89 rfl (by decide) rfl ?_
    have ct706 : i258 = cl40.2.1 7 xq20 := by have z8 := f69; have z6 := f67; have z7 := wf_7 cl40w cl40o; omega
    have ct70 : CLT cl40 σ59 xq20 (cl40.2.1 7 xq20) 0 := by have z9 := f66; rw [ct706] at z9; exact z9
    refine tn_sub [1, 0] rfl (l_X5_closeRoutine_m_90 (d) (T := T7) (σ0 := σ59) (a := a) (kp := kp + 1) (Sx := Sx) (nx := nx) (jx := jx) (cy := cx) (Ny := Nx + 1) (sq := cl40) (cq := xq20) (Nq := (cl40.2.1 7 xq20)) ha w62 cl40s (show σ59.2.1 35 a = (xq20 : Int) from ((CLT.f ct70 35 a (by decide)).trans cl405)) cl40o cl40k (by omega) (fun i271 σ72 w75 F76 r77 f78 f79 f80 f81 f82 => ?_) _ (0) σ59 w62 FrC.rfl (by omega) f65 ct70 (Or.inl rfl) f68 rfl)
    show Tn _ _ 118 T7 σ72 [(0, .ref a), (2, .int (iI i271))] [] _
    have cz83j : i271 = (if cl40.2.1 6 xq20 < 120 then cl40.2.1 6 xq20 else 120) := by have z8 := f82; have z6 := f80; have z7 := wf_6 cl40w cl40o; split <;> omega
    have cz83 : CLT cl40 σ72 xq20 (cl40.2.1 7 xq20) (if cl40.2.1 6 xq20 < 120 then cl40.2.1 6 xq20 else 120) := by have z9 := f79; rw [cz83j] at z9; exact z9
    exact tn_vret rfl dX5_closeRoutine_118 ⟨rfl, w75, (((((FrC.rfl.trans (FrC.sub F14 (by decide))).trans (FrC.sub (FrC.old F33 gt8) (by decide))).trans (FrC.sub (FrC.old F54 gt8) (by decide))).trans (FrC.sub (FrC.old F63 gt8) (by decide))).trans (FrC.sub (FrC.old F76 gt8) (by decide))), RDX.cq (RDX.nq f78 (by omega)) (uC0n (by omega)).symm, ⟨cl40, cl40w, cl40m, by rw [cl40d]; exact cz83⟩, (RP.up f81 (by omega))⟩
  · refine tn_aload_n dX5_closeRoutine_33 rfl 0 rfl ?_
    refine tn_iconst dX5_closeRoutine_34 ?_
    refine tn_iload_n dX5_closeRoutine_35 rfl 1 rfl ?_
    refine tn_callV (M := m_X5_closeRoutine) (pc := 36) (ix := 113) (ci := 5) (M' := m_X5_note) (As := [.int (iI 5), .int (iI w)]) (rest := []) dX5_closeRoutine_36 ok_X5_note im_X5_note se_X5_note ml5_113 np_X5_note rfl rfl ha rfl (Nat.le_of_ble_eq_true rfl) (Nat.le_of_ble_eq_true rfl) rfl (k_X5_note_m (d + 2) (T := T7) (σ := σ26) (a := a) (f := 5) (p := w) ha (by decide) (by omega) w32 ) (fun r84 T86 σ85 gt87 hp => ?_)
    obtain ⟨rfl, rfl, w91, F92, f88, f89⟩ := hp
    clear gt87
    have fx93 : RDX σ85 a Sx nx jx (fpC (cntN 5 (w) (cx).fp) (cx)) (Nx + 1) := RDX.nt fx35 w32 ha F92 f88
    have rp94 : RP σ85 a (kp + 1) := RP.frc rp36 F92 (by decide) (by decide) (by decide) (by decide) (by decide)
    show Tn _ _ 39 T7 σ85 [(0, .ref a), (1, .int (iI w))] [] _
    have mg95 : MG Tg gs T7 σ85 a ((mx).put (mkI 7 0 0 1 0 0)) := (MG.nt mg34l f89)
    obtain ⟨cl96, cl96e⟩ : ∃ z : MS, z = σ85 := ⟨_, rfl⟩
    have cl96m : MG Tg gs T7 cl96 a ((mx).put (mkI 7 0 0 1 0 0)) := by rw [cl96e]; exact mg95
    have cl96w : WT T7 cl96 := by rw [cl96e]; exact w91
    have cl965 : cl96.2.1 35 a = (xq20 : Int) := by rw [cl96e]; exact rc_F F92 (Or.inl (by decide)) (by decide) (rc_F F33 (Or.inl (by decide)) (by decide) (hx21))
    have cl96d : adN gs 35 a = xq20 := MG.cd cl96m cl965
    have cl96o : OB T7 xq20 1 := code_ob cl96w ha cl965
    have cl96s : DS [adN cl96 14 xq20, adN cl96 15 xq20, adN cl96 5 xq20] := (FG.inj cl96m.1 hI hwg hSc).d3 (by rw [← cl96d]; exact hSc) cl96o
    have cl96k := MG.kd cl96m cl96d
    refine tn_aload_n dX5_closeRoutine_39 rfl 0 rfl ?_
    refine tn_getR (ci := 5) (i := 2) (n := 35) (x := xq20) dX5_closeRoutine_40 rfl lay_5 (by decide) fl5_47 ha rfl rfl (rc_F F92 (Or.inl (by decide)) (by decide) (rc_F F33 (Or.inl (by decide)) (by decide) (hx21))) ?_
    obtain ⟨xq97, hx98, hk99, hl100⟩ : ∃ x : Nat, σ6.2.1 14 xq20 = (x : Int) ∧ AR T7 x 11 12 12 := wf_14 w13 hk22o
    have hk99i : IA T7 xq97 := by unfold IA; omega
    refine tn_getR (ci := 1) (i := 9) (n := 14) (x := xq97) dX5_closeRoutine_43 rfl lay_1 (by decide) fl5_149 hk22o rfl rfl (rc_F F92 (Or.inl (by decide)) (by decide) (rc_F F33 (Or.inl (by decide)) (by decide) (hx98))) ?_
    refine tn_iconst dX5_closeRoutine_46 ?_
    refine tn_aload_n dX5_closeRoutine_47 rfl 0 rfl ?_
    refine tn_getR (ci := 5) (i := 2) (n := 35) (x := xq20) dX5_closeRoutine_48 rfl lay_5 (by decide) fl5_47 ha rfl rfl (rc_F F92 (Or.inl (by decide)) (by decide) (rc_F F33 (Or.inl (by decide)) (by decide) (hx21))) ?_
    refine tn_getI (ci := 1) (i := 2) (n := 7) (t := σ6.2.1 7 xq20) dX5_closeRoutine_51 rfl lay_1 (by decide) fl5_152 hk22o rfl rfl (rc_F F92 (Or.inl (by decide)) (by decide) (rc_F F33 (Or.inl (by decide)) (by decide) (rfl))) ?_
    have g101 : ((0 : Int) ≤ σ6.2.1 7 xq20 ∧ σ6.2.1 7 xq20 ≤ 12) := wf_7 w13 hk22o
    refine tn_callSN (M := m_X5_closeRoutine) (pc := 54) (ix := 129) (M' := m_X11_put) (As := [.ref xq97, .int (iI 0), .int (iI (σ6.2.1 7 xq20))]) (rest := []) dX5_closeRoutine_54 ok_X11_put stt_X11_put nl5_129 np_X11_put rfl (Nat.le_of_ble_eq_true rfl) (Nat.le_of_ble_eq_true rfl) rfl (k_X11_put_x (d + 2) (T := T7) (σ := σ85) (x := xq97) (i := 0) (y := σ6.2.1 7 xq20) hk99i (by omega) (by decide) (by omega) w91 (nh_k hk99 (by unfold HT; omega)) (by rw [hk99]; exact vok_11 (by omega))) (fun r102 T104 σ103 gt105 hp => ?_)
    obtain ⟨rfl, rfl, w109, F110, f106, f107⟩ := hp
    clear gt105
    have fx111 : RDX σ103 a Sx nx jx (fpC (cntN 5 (w) (cx).fp) (cx)) (Nx + 1) := RDX.fc fx93 w91 ha F110 (by decide) (by decide)
    have rp112 : RP σ103 a (kp + 1) := RP.frc rp94 F110 (by decide) (by decide) (by decide) (by decide) (by decide)
    have ct113a : adN cl96 14 xq20 = xq97 := adN_of (by rw [cl96e]; exact (rc_F F92 (Or.inl (by decide)) (by decide) (rc_F F33 (Or.inl (by decide)) (by decide) (hx98))))
    have ct1137 : cl96.2.1 7 xq20 = σ6.2.1 7 xq20 := by rw [cl96e]; exact (rc_F F92 (Or.inl (by decide)) (by decide) (rc_F F33 (Or.inl (by decide)) (by decide) (rfl)))
    have ct113 : CLT cl96 σ103 xq20 0 0 := CLT.in (P := (0 : Int) ≤ 0 ∧ (0 : Int) < ((T7 xq97).2 : Int)) cl96s (by rw [ct113a, ct1137, cl96e]; exact f107) ⟨by omega, by have z9 := ar_of (wf_14 cl96w cl96o) (show cl96.2.1 14 xq20 = (xq97 : Int) by rw [cl96e]; exact (rc_F F92 (Or.inl (by decide)) (by decide) (rc_F F33 (Or.inl (by decide)) (by decide) (hx98)))); have z8 := z9.2; omega⟩
    show Tn _ _ 57 T7 σ103 [(0, .ref a), (1, .int (iI w))] [] _
    refine tn_iconst dX5_closeRoutine_57 ?_
    refine tn_istore_n (L' := [(2, .int (iI 0)), (0, .ref a), (1, .int (iI w))]) dX5_closeRoutine_58 rfl (by decide) rfl ?_
    refine tn_sub [1, 0] rfl (l_X5_closeRoutine_m_59 (d) (T := T7) (σ0 := σ103) (a := a) (kp := kp + 1) (Sx := Sx) (nx := nx) (jx := jx) (cy := fpC (cntN 5 (w) (cx).fp) (cx)) (Ny := Nx + 1) (sq := cl96) (cq := xq20) (Nq := (cl96.2.1 7 xq20)) ha w109 cl96s (show σ103.2.1 35 a = (xq20 : Int) from ((CLT.f ct113 35 a (by decide)).trans cl965)) cl96o rfl (wf_7 cl96w cl96o) (by omega) (fun i2114 σ115 w118 F119 r120 f121 f122 f123 f124 f125 => ?_) _ (0) σ103 w109 FrC.rfl (by omega) fx111 ct113 (by have z9 := wf_7 cl96w cl96o; omega) rp112 rfl)
    show Tn _ _ 88 T7 σ115 [(0, .ref a), (2, .int (iI i2114))] [] _
    refine tn_iconst dX5_closeRoutine_88 ?_
    refine tn_istore_n (L' := [(2, .int (iI 0)), (0, .ref a)]) dX5_closeRoutine_89 rfl (by decide) rfl ?_
    have ct1266 : i2114 = cl96.2.1 7 xq20 := by have z8 := f125; have z6 := f123; have z7 := wf_7 cl96w cl96o; omega
    have ct126 : CLT cl96 σ115 xq20 (cl96.2.1 7 xq20) 0 := by have z9 := f122; rw [ct1266] at z9; exact z9
    refine tn_sub [1, 0] rfl (l_X5_closeRoutine_m_90 (d) (T := T7) (σ0 := σ115) (a := a) (kp := kp + 1) (Sx := Sx) (nx := nx) (jx := jx) (cy := fpC (cntN 5 (w) (cx).fp) (cx)) (Ny := Nx + 1) (sq := cl96) (cq := xq20) (Nq := (cl96.2.1 7 xq20)) ha w118 cl96s (show σ115.2.1 35 a = (xq20 : Int) from ((CLT.f ct126 35 a (by decide)).trans cl965)) cl96o cl96k (by omega) (fun i2127 σ128 w131 F132 r133 f134 f135 f136 f137 f138 => ?_) _ (0) σ115 w118 FrC.rfl (by omega) f121 ct126 (Or.inl rfl) f124 rfl)
    show Tn _ _ 118 T7 σ128 [(0, .ref a), (2, .int (iI i2127))] [] _
    have cz139j : i2127 = (if cl96.2.1 6 xq20 < 120 then cl96.2.1 6 xq20 else 120) := by have z8 := f138; have z6 := f136; have z7 := wf_6 cl96w cl96o; split <;> omega
    have cz139 : CLT cl96 σ128 xq20 (cl96.2.1 7 xq20) (if cl96.2.1 6 xq20 < 120 then cl96.2.1 6 xq20 else 120) := by have z9 := f135; rw [cz139j] at z9; exact z9
    exact tn_vret rfl dX5_closeRoutine_118 ⟨rfl, w131, ((((((FrC.rfl.trans (FrC.sub F14 (by decide))).trans (FrC.sub (FrC.old F33 gt8) (by decide))).trans (FrC.sub (FrC.old F92 gt8) (by decide))).trans (FrC.sub (FrC.old F110 gt8) (by decide))).trans (FrC.sub (FrC.old F119 gt8) (by decide))).trans (FrC.sub (FrC.old F132 gt8) (by decide))), RDX.cq (RDX.nq f134 (by omega)) (uC0o (by omega)).symm, ⟨cl96, cl96w, cl96m, by rw [cl96d]; exact cz139⟩, (RP.up f137 (by omega))⟩
end
section
theorem k_get_c (d : Nat) {T : CT} {σ : MS} {a : Nat} {k c : Int} (ha : OB T a 1) (_hta : (T a).1 = 31) (h_k : -2147483648 ≤ k ∧ k ≤ 2147483647) (h_c : -2147483648 ≤ c ∧ c ≤ 2147483647) (hw : WT T σ) (hN : σ.2.1 6 a ≤ 200) (hc : 0 ≤ c ∧ c ≤ 12) : Tn (d + 1) m_X1_get 0 T σ [(0, .ref a), (1, .int (iI k)), (2, .int (iI c))] [] (fun ro T2 σ2 => ∃ v : Int, ro = some (.int (iI v)) ∧ T = T2 ∧ σ = σ2 ∧ (-2147483648 ≤ v ∧ v ≤ 2147483647) ∧ (v = cdW σ a k c)) := k_X1_get_x d ha h_k h_c hw (ad_1 hw ha 5 (by decide)) rfl rfl hN hc
theorem k_set_c (d : Nat) {T : CT} {σ : MS} {a : Nat} {k c y : Int} (ha : OB T a 1) (hta : (T a).1 = 31) (h_k : -2147483648 ≤ k ∧ k ≤ 2147483647) (h_c : -2147483648 ≤ c ∧ c ≤ 2147483647) (h_y : -2147483648 ≤ y ∧ y ≤ 2147483647) (hw : WT T σ) (hN : σ.2.1 6 a ≤ 200) (hc : 1 ≤ c ∧ c ≤ 12) (hk : 0 ≤ k ∧ k < σ.2.1 6 a) : Tn (d + 1) m_X1_set 0 T σ [(0, .ref a), (1, .int (iI k)), (2, .int (iI c)), (3, .int (iI y))] [] (fun ro T2 σ2 => ro = none ∧ T = T2 ∧ WT T2 σ2 ∧ FrC T [] σ σ2 ∧ (CHX [] [adN σ 5 a] [] σ σ2) ∧ (cdW σ2 a = uZ (cdW σ a) k (uZ (cdW σ a k) c y))) := by
  refine (k_X1_set_x d ha h_k h_c h_y hw (ad_1 hw ha 5 (by decide)) rfl rfl hN (by omega) (fun _ => hc.1) hk).mono (fun ro T2 σ2 hp => ?_)
  obtain ⟨p1, p2, p3, p4, ch, q⟩ := hp
  refine ⟨p1, p2, p3, p4, ch, ?_⟩
  have ax : adN σ2 5 a = adN σ 5 a := by unfold adN; rw [ch.f (by decide) (by simp)]
  have e6 : σ2.2.1 6 a = σ.2.1 6 a := ch.f (by decide) (by simp)
  unfold cdW
  rw [ax, e6]
  exact q
noncomputable def rofF (σ : MS) (a : Nat) (k : Int) : Int := @dite Int (∃ v, ROQ σ a k v) (Classical.propDecidable _) (fun h => Classical.choose h) (fun _ => 0)
section ROFS
variable {T : CT} {σ τ : MS} {a x : Nat} {k v w : Int} {c : CS}
theorem roq_uq (hx : σ.2.1 36 a = (x : Int)) (hb : σ.2.1 38 a ≤ 256) (h : ROQ σ a k v) (g : ROQ σ a k w) : v = w := by
  rcases h with ⟨h1, h2⟩ | ⟨⟨h1, h2⟩, h3⟩
  · rcases g with ⟨g1, g2⟩ | ⟨⟨g1, g2⟩, g3⟩
    · omega
    · exact absurd (g2 x hx) (h2 x hx w g1.1 g1.2 (by omega))
  · rcases g with ⟨g1, g2⟩ | ⟨⟨g1, g2⟩, g3⟩
    · exact absurd (h2 x hx) (g2 x hx v h1.1 h1.2 (by omega))
    · by_cases e : v < w
      · exact absurd (h2 x hx) (g3 x hx v h1.1 e (by omega))
      · by_cases e2 : w < v
        · exact absurd (g2 x hx) (h3 x hx w g1.1 e2 (by omega))
        · omega
theorem rofF_of (hx : σ.2.1 36 a = (x : Int)) (hb : σ.2.1 38 a ≤ 256) (h : ROQ σ a k v) : rofF σ a k = v := by
  have z : ∃ v, ROQ σ a k v := ⟨v, h⟩
  unfold rofF
  rw [dif_pos z]
  exact roq_uq hx hb (Classical.choose_spec z) h
theorem roq_cg (h1 : τ.2.1 36 a = σ.2.1 36 a) (h2 : τ.2.1 38 a = σ.2.1 38 a) (h3 : ∀ x : Nat, σ.2.1 36 a = (x : Int) → τ.2.1 (1000 + x) = σ.2.1 (1000 + x)) (q : ROQ τ a k v) : ROQ σ a k v := by
  unfold ROQ ROY ROV at *
  rw [h1, h2] at q
  rcases q with ⟨q1, q2⟩ | ⟨⟨q1, q2⟩, q3⟩
  · exact Or.inl ⟨q1, fun x hx i i0 i1 i2 => by have z := q2 x hx i i0 i1 i2; rw [h3 x hx] at z; exact z⟩
  · exact Or.inr ⟨⟨q1, fun x hx => by have z := q2 x hx; rw [h3 x hx] at z; exact z⟩, fun x hx i i0 i1 i2 => by have z := q3 x hx i i0 i1 i2; rw [h3 x hx] at z; exact z⟩
def RFC (c : CS) (f : Int → Int) : Prop := ∀ k w, KW k w → (fndQ c w → (0 ≤ f k ∧ f k < c.rn) ∧ c.rk (f k) = w ∧ ∀ j, 0 ≤ j → j < f k → c.rk j ≠ w) ∧ (¬ fndQ c w → f k = -1)
theorem roq_ex (hb : σ.2.1 38 a ≤ 256) (h0 : 0 ≤ σ.2.1 38 a) (hx : σ.2.1 36 a = (x : Int)) (k : Int) : ∃ v, ROQ σ a k v := by
  have key : ∀ n : Nat, (n : Int) ≤ σ.2.1 38 a → (∃ v, 0 ≤ v ∧ v < (n : Int) ∧ ROQ σ a k v) ∨ ROV σ a k n := by
    intro n
    induction n with
    | zero => exact fun _ => Or.inr (fun _ _ i i0 i1 _ => absurd i1 (by omega))
    | succ n ih =>
      intro hn
      rcases ih (by omega) with ⟨v, v0, v1, v2⟩ | r
      · exact Or.inl ⟨v, v0, by omega, v2⟩
      · by_cases e : σ.2.1 (1000 + x) n = k
        · exact Or.inl ⟨n, by omega, by omega, Or.inr ⟨⟨⟨by omega, by omega⟩, fun y hy => by rw [show y = x by omega]; exact e⟩, r⟩⟩
        · refine Or.inr (fun y hy i i0 i1 i2 => ?_)
          by_cases e2 : i = n
          · rw [e2, show y = x by omega]; exact e
          · exact r y hy i i0 (by omega) i2
  rcases key (σ.2.1 38 a).toNat (by omega) with ⟨v, -, -, v2⟩ | r
  · exact ⟨v, v2⟩
  · exact ⟨-1, Or.inl ⟨rfl, by rw [show ((σ.2.1 38 a).toNat : Int) = σ.2.1 38 a by omega] at r; exact r⟩⟩
theorem rfc_of (h : CS0 σ a c) (hw : WT T σ) (ha : OB T a 5) : RFC c (rofF σ a) := fun k w hk => by
  obtain ⟨x, hx, -⟩ := wf_36 hw ha
  have b := wf_38 hw ha
  obtain ⟨v, hv⟩ := roq_ex b.2 b.1 hx k
  have e := rofF_of hx b.2 hv
  have f := ROQ.fd hv h hw ha hk
  have e38 := h.1.2.2.1
  rw [e]
  refine ⟨fun q => ?_, fun q => ?_⟩
  · have n1 := f.mpr q
    rcases hv with ⟨q1, q2⟩ | ⟨⟨r1, r3⟩, q2⟩
    · exact absurd q1 n1
    · rw [e38] at r1
      have g := h.2.1 x hx v r1.1 r1.2
      rw [r3 x hx] at g
      refine ⟨r1, (KW.eq g hk).mp rfl, fun j j0 j1 z => ?_⟩
      exact q2 x hx j j0 j1 (by omega) ((KW.eq (h.2.1 x hx j j0 (by omega)) hk).mpr z)
  · by_cases z : v = -1
    · exact z
    · exact absurd (f.mp z) q
end ROFS
def stI (f : Int → Int) (i : It) : It := if i 0 = 10 then uZ i 2 (f (i 2)) else i
def SPE (T : CT) (σ : MS) (a : Nat) (E : Int → Nat) : Prop := ∀ q, 0 ≤ q → q < 7 → σ.2.1 (1000 + adN σ 34 a) q = (E q : Int) ∧ (T (E q)).1 = 31
def EAP (σ : MS) (E : Int → Nat) : Prop := ∀ p q, 0 ≤ p → p < 7 → 0 ≤ q → q < 7 → adN σ 5 (E p) = adN σ 5 (E q) → p = q
abbrev ECL (σ : MS) (E : Int → Nat) : List Nat := [adN σ 5 (E 0), adN σ 5 (E 1), adN σ 5 (E 2), adN σ 5 (E 3), adN σ 5 (E 4), adN σ 5 (E 5), adN σ 5 (E 6)]
def STL (E : Int → Nat) (f : Int → Int) (s0 σ : MS) (i k : Int) : Prop := CHX [] (ECL s0 E) [] s0 σ ∧ ∀ q, 0 ≤ q → q < 7 → ∀ y, cdW σ (E q) y = if q < i ∨ (q = i ∧ y < k) then stI f (cdW s0 (E q) y) else cdW s0 (E q) y
section STLS
variable {T : CT} {E : Int → Nat} {f : Int → Int} {s0 σ τ : MS} {i k v y : Int} {a b x : Nat}
theorem ecl_mem {q : Int} (q0 : 0 ≤ q) (q1 : q < 7) : adN s0 5 (E q) ∈ ECL s0 E := by
  rcases (show q = 0 ∨ q = 1 ∨ q = 2 ∨ q = 3 ∨ q = 4 ∨ q = 5 ∨ q = 6 by omega) with rfl | rfl | rfl | rfl | rfl | rfl | rfl <;> simp
theorem stI_z : stI f (fun _ => 0) = fun _ => 0 := by unfold stI; rw [if_neg (by decide)]
theorem cdw_out (h : y < 0 ∨ σ.2.1 6 b ≤ y) : cdW σ b y = fun _ => 0 := by
  funext c
  unfold cdW cW
  rw [if_neg (by omega)]
theorem STL.fd (h : STL E f s0 σ i k) (n : Nat) (b : Nat) (hn : n < 1000) : σ.2.1 n b = s0.2.1 n b := h.1.f hn (by simp)
theorem STL.ad (h : STL E f s0 σ i k) (n : Nat) (b : Nat) (hn : n < 1000) : adN σ n b = adN s0 n b := by unfold adN; rw [h.fd n b hn]
theorem STL.in : STL E f s0 s0 0 0 := ⟨CHX.rfl, fun q q0 q1 y => by
  by_cases z : q < 0 ∨ (q = 0 ∧ y < 0)
  · rw [if_pos z, cdw_out (Or.inl (by omega)), stI_z]
  · rw [if_neg z]⟩
theorem STL.no (h : STL E f s0 σ i k) (hi : 0 ≤ i ∧ i < 7) (hk : cdW σ (E i) k 0 ≠ 10) : STL E f s0 σ i (k + 1) := by
  refine ⟨h.1, fun q q0 q1 y => ?_⟩
  rw [h.2 q q0 q1 y]
  by_cases z : q < i ∨ (q = i ∧ y < k)
  · rw [if_pos z, if_pos (by omega)]
  · rw [if_neg z]
    by_cases w : q = i ∧ y = k
    · rw [if_pos (by omega), w.1, w.2]
      have e := h.2 i hi.1 hi.2 k
      rw [if_neg (by omega)] at e
      rw [e] at hk
      unfold stI
      rw [if_neg hk]
    · rw [if_neg (by omega)]
theorem STL.set (h : STL E f s0 σ i k) (hi : 0 ≤ i ∧ i < 7) (hp : EAP s0 E) (ch : CHX [] [adN σ 5 (E i)] [] σ τ) (hk : cdW σ (E i) k 0 = 10) (hv : f (cdW σ (E i) k 2) = v) (e : cdW τ (E i) = uZ (cdW σ (E i)) k (uZ (cdW σ (E i) k) 2 v)) : STL E f s0 τ i (k + 1) := by
  have ea := h.ad 5 (E i) (by decide)
  rw [ea] at ch
  refine ⟨h.1.trans (CHX.sub ch (by simp) (fun x hx => by rw [List.mem_singleton.mp hx]; exact ecl_mem hi.1 hi.2) (by simp)), fun q q0 q1 y => ?_⟩
  by_cases w : q = i
  · subst w
    rw [e]
    have e2 := h.2 q q0 q1 k
    rw [if_neg (by omega)] at e2
    by_cases z : y = k
    · subst z
      rw [uZ_eq, if_pos (by omega), ← e2]
      unfold stI
      rw [if_pos hk, hv]
    · rw [uZ_ne z, h.2 q q0 q1 y]
      by_cases z2 : y < k
      · rw [if_pos (by omega), if_pos (by omega)]
      · rw [if_neg (by omega), if_neg (by omega)]
  · have ew : cdW τ (E q) = cdW σ (E q) := by
      have e6 : τ.2.1 6 (E q) = σ.2.1 6 (E q) := ch.f (by decide) (by simp)
      have e5 : adN τ 5 (E q) = adN σ 5 (E q) := by unfold adN; rw [ch.f (by decide) (by simp)]
      unfold cdW
      rw [e6, e5]
      refine cW_row (ch.r ?_)
      rw [h.ad 5 (E q) (by decide)]
      simp only [List.mem_singleton]
      exact fun z => w (hp q i q0 q1 hi.1 hi.2 z)
    rw [ew, h.2 q q0 q1 y]
    by_cases z : q < i
    · rw [if_pos (Or.inl z), if_pos (Or.inl z)]
    · rw [if_neg (by omega), if_neg (by omega)]
theorem STL.nx (h : STL E f s0 σ i k) (hn : s0.2.1 6 (E i) ≤ k) : STL E f s0 σ (i + 1) 0 := by
  refine ⟨h.1, fun q q0 q1 y => ?_⟩
  rw [h.2 q q0 q1 y]
  by_cases z : q < i
  · rw [if_pos (Or.inl z), if_pos (by omega)]
  · by_cases w : q = i
    · subst w
      by_cases z2 : y < k
      · rw [if_pos (by omega), if_pos (by omega)]
      · rw [if_neg (by omega), if_pos (by omega), cdw_out (Or.inr (by omega)), stI_z]
    · rw [if_neg (by omega)]
      by_cases z3 : q = i + 1 ∧ y < 0
      · rw [if_pos (by omega), cdw_out (Or.inl (by omega)), stI_z]
      · rw [if_neg (by omega)]
theorem STL.rof (h : STL E (rofF s0 a) s0 σ i k) (hw : WT T s0) (ha : OB T a 5) (hE : SPE T s0 a E) (q : ROQ σ a y v) : rofF s0 a y = v := by
  obtain ⟨x, hx, ar⟩ := wf_36 hw ha
  have b := wf_38 hw ha
  refine rofF_of hx b.2 (roq_cg (h.fd 36 a (by decide)) (h.fd 38 a (by decide)) (fun z hz => h.1.r (fun w => ?_)) q)
  have ez : z = x := by omega
  subst ez
  have key : ∀ p, 0 ≤ p → p < 7 → z ≠ adN s0 5 (E p) := fun p p0 p1 => by
    have t := (hE p p0 p1).2
    exact cel_ne hw ⟨by omega, by rw [t]; rfl, by omega⟩ t ar (by decide)
  simp only [List.mem_cons, List.not_mem_nil, or_false] at w
  rcases w with w | w | w | w | w | w | w
  · exact key 0 (by decide) (by decide) w
  · exact key 1 (by decide) (by decide) w
  · exact key 2 (by decide) (by decide) w
  · exact key 3 (by decide) (by decide) w
  · exact key 4 (by decide) (by decide) w
  · exact key 5 (by decide) (by decide) w
  · exact key 6 (by decide) (by decide) w
end STLS
theorem cSs_p {c : CS} {n : Nat} : ∀ x, x ∈ cSs c n → x.2 ≠ 0 := by
  induction n with
  | zero => exact fun x h => absurd h (by show ¬ x ∈ ([] : List NT); simp)
  | succ n ih =>
    intro x h
    have h2 : x ∈ cSs c n ++ cS c (n : Int) := h
    rcases List.mem_append.mp h2 with q | q
    · exact ih x q
    · unfold cS at q
      by_cases z : ∃ q, 0 ≤ q ∧ q < c.rn ∧ c.rk q = c.ck (n : Int) ∧ ∀ j, 0 ≤ j → j < q → c.rk j ≠ c.ck (n : Int)
      · rw [ifP_t z] at q
        by_cases z2 : ∃ q, (0 ≤ q ∧ q < c.rn ∧ c.rk q = c.ck (n : Int) ∧ ∀ j, 0 ≤ j → j < q → c.rk j ≠ c.ck (n : Int)) ∧ c.rp q ≠ c.cc (n : Int)
        · rw [ifP_t z2] at q
          rw [List.mem_singleton.mp q]; show (4 : Int) ≠ 0; decide
        · rw [ifP_f z2] at q; exact absurd q (by simp)
      · rw [ifP_f z] at q
        rw [List.mem_singleton.mp q]; show (3 : Int) ≠ 0; decide
def SQM (σ σ2 : MS) (a : Nat) (c : CS) (E : Int → Nat) (v : Int) : Prop := CHX [(43, a), (44, a)] (ECL σ E) [] σ σ2 ∧ (v = 1 → c.fp.1 = 0 ∧ ∃ f, RFC c f ∧ ∀ q, 0 ≤ q → q < c.rn → q < 7 → ∀ y, cdW σ2 (E q) y = stI f (cdW σ (E q) y))
section SQMS
variable {σ s0 s1 : MS} {a : Nat} {c : CS} {E : Int → Nat} {f : Int → Int} {i v : Int}
theorem sqm_e5 (c0 : CHX [(43, a), (44, a)] [] [] σ s0) : ∀ q, adN s0 5 (E q) = adN σ 5 (E q) := fun q => by unfold adN; rw [c0.f (by decide) (by simp)]
theorem sqm_ch (c0 : CHX [(43, a), (44, a)] [] [] σ s0) (h : STL E f s0 s1 i 0) : CHX [(43, a), (44, a)] (ECL σ E) [] σ s1 := by
  have e5 := sqm_e5 (E := E) c0
  have ee : ECL s0 E = ECL σ E := by unfold ECL; rw [e5, e5, e5, e5, e5, e5, e5]
  have c1 := h.1
  rw [ee] at c1
  exact (CHX.sub c0 (by simp) (by simp) (by simp)).trans (CHX.sub c1 (by simp) (fun x hx => hx) (by simp))
theorem SQM.no (c0 : CHX [(43, a), (44, a)] [] [] σ s0) (h : STL E f s0 s1 i 0) (hv : v ≠ 1) : SQM σ s1 a c E v := ⟨sqm_ch c0 h, fun q => absurd q hv⟩
theorem SQM.of (h0 : c.fp.1 = 0) (hf : RFC c f) (c0 : CHX [(43, a), (44, a)] [] [] σ s0) (h : STL E f s0 s1 i 0) (hi : c.rn ≤ i ∨ 7 ≤ i) : SQM σ s1 a c E v := ⟨sqm_ch c0 h, fun _ => ⟨h0, f, hf, fun q q0 q1 q2 y => by
  rw [h.2 q q0 q2 y, if_pos (by omega)]
  have ew : cdW s0 (E q) = cdW σ (E q) := by
    unfold cdW
    rw [c0.f (n := 6) (a := E q) (by decide) (by simp), sqm_e5 c0]
    exact cW_row (c0.r (by simp))
  rw [ew]⟩⟩
end SQMS
theorem spe_ne {T : CT} {s0 : MS} {a x : Nat} {E : Int → Nat} (hw : WT T s0) (ha : OB T a 5) (hE : SPE T s0 a E) (e : adN s0 34 a = x) (h : x ∈ ECL s0 E) : False := by
  obtain ⟨y, y1, y2⟩ := wf_34 hw ha
  have ey : x = y := by rw [← e]; exact adN_of y1
  have key : ∀ p, 0 ≤ p → p < 7 → x ≠ adN s0 5 (E p) := fun p p0 p1 z => by
    have t := (hE p p0 p1).2
    have oc : OB T (E p) 1 := ⟨by omega, by rw [t]; rfl, by omega⟩
    have w := cel_of (wf_5 hw oc) (ad_1 hw oc 5 (by decide))
    have w2 := w.2.2 (by omega)
    rw [← z, ey] at w2
    have w3 := y2.1
    omega
  simp only [List.mem_cons, List.not_mem_nil, or_false] at h
  rcases h with w | w | w | w | w | w | w
  · exact key 0 (by decide) (by decide) w
  · exact key 1 (by decide) (by decide) w
  · exact key 2 (by decide) (by decide) w
  · exact key 3 (by decide) (by decide) w
  · exact key 4 (by decide) (by decide) w
  · exact key 5 (by decide) (by decide) w
  · exact key 6 (by decide) (by decide) w
end
section
set_option maxHeartbeats 1000000 in
set_option maxRecDepth 20000 in
theorem l_X5_settleCalls_m_2 (d : Nat) {T : CT} {σ0 : MS} {a : Nat} {Sx : Int → Int} {nx : Nat} {jx : Nat} {cx : CS} {post : Option Value → CT → MS → Prop} (h_a : OB T a 5) (hw0 : WT T σ0) (e42 : σ0.2.1 42 a = cx.cn) (e38 : σ0.2.1 38 a = cx.rn) (b42 : 0 ≤ cx.cn ∧ cx.cn ≤ 256) (b38 : 0 ≤ cx.rn ∧ cx.rn ≤ 256) (hx_82 : ∀ (i1 : Int) (σ : MS) , (WT T σ) → (FrC T [43, 44] σ0 σ) → (0 ≤ i1 ∧ i1 ≤ 256) → (0 ≤ i1 ∧ i1 ≤ cx.cn) → (RD0 σ a Sx nx jx (fpC (cnts (cSs cx (i1).toNat) cx.fp) cx)) → (CHX [(43, a), (44, a)] [] [] σ0 σ) → (cx.cn ≤ i1) → Tn (d + 3) m_X5_settleCalls 82 T σ [(0, .ref a), (1, .int (iI i1))] [] post) : ∀ (n : Nat) (i1 : Int) (σ : MS) , (WT T σ) → (FrC T [43, 44] σ0 σ) → (0 ≤ i1 ∧ i1 ≤ 256) → (0 ≤ i1 ∧ i1 ≤ cx.cn) → (RD0 σ a Sx nx jx (fpC (cnts (cSs cx (i1).toNat) cx.fp) cx)) → (CHX [(43, a), (44, a)] [] [] σ0 σ) → (2147483700 - i1).toNat = n → Tn (d + 3) m_X5_settleCalls 2 T σ [(0, .ref a), (1, .int (iI i1))] [] post := by
  intro n
  induction n using Nat.strongRecOn with
  | _ n ih =>
    intro i1 σ hw hF r_i1 h0 hst hch hm
    refine tn_iload_n dX5_settleCalls_2 rfl 1 rfl ?_
    refine tn_aload_n dX5_settleCalls_3 rfl 0 rfl ?_
    refine tn_getI (ci := 5) (i := 9) (n := 42) (t := σ0.2.1 42 a) dX5_settleCalls_4 rfl lay_5 (by decide) fl5_61 h_a rfl rfl (rc_F hF (Or.inl (by decide)) (by decide) (rfl)) ?_
    have g1 : ((0 : Int) ≤ σ0.2.1 42 a ∧ σ0.2.1 42 a ≤ 256) := wf_42 hw0 h_a
    refine tn_icmp_ge (tgt := 82) dX5_settleCalls_7 (by decide) ⟨by omega, by omega⟩ ⟨by omega, by omega⟩ (fun h2 => ?_) (fun h2 => ?_)
    · exact tn_sub [0, 1] rfl (hx_82 (i1) σ hw (FrC.rfl.trans (FrC.sub hF (by decide))) (by omega) (by omega) hst hch (by omega))
    · refine tn_aload_n dX5_settleCalls_10 rfl 0 rfl ?_
      refine tn_aload_n dX5_settleCalls_11 rfl 0 rfl ?_
      obtain ⟨xq3, hx4, hk5, hl6⟩ : ∃ x : Nat, σ0.2.1 39 a = (x : Int) ∧ AR T x 18 256 256 := wf_39 hw0 h_a
      have hk5i : IA T xq3 := by unfold IA; omega
      refine tn_getR (ci := 5) (i := 6) (n := 39) (x := xq3) dX5_settleCalls_12 rfl lay_5 (by decide) fl5_31 h_a rfl rfl (rc_F hF (Or.inl (by decide)) (by decide) (hx4)) ?_
      refine tn_iload_n dX5_settleCalls_15 rfl 1 rfl ?_
      refine tn_callSN (M := m_X5_settleCalls) (pc := 16) (ix := 231) (M' := m_X11_at) (As := [.ref xq3, .int (iI i1)]) (rest := [.ref a]) dX5_settleCalls_16 ok_X11_at stt_X11_at nl5_231 np_X11_at rfl (Nat.le_of_ble_eq_true rfl) (Nat.le_of_ble_eq_true rfl) rfl (k_X11_at (d + 1) (T := T) (σ := σ) (x := xq3) (i := i1) hk5i (by omega) (by omega) hw ) (fun r7 T9 σ8 gt10 hp => ?_)
      obtain ⟨v14, rfl, rfl, rfl, f11, f12, f13⟩ := hp
      clear gt10
      show Tn _ _ 19 T σ [(0, .ref a), (1, .int (iI i1))] [.int (iI v14), .ref a] _
      refine tn_callV (M := m_X5_settleCalls) (pc := 19) (ix := 109) (ci := 5) (M' := m_X5_routineOf) (As := [.int (iI v14)]) (rest := []) dX5_settleCalls_19 ok_X5_routineOf im_X5_routineOf se_X5_routineOf ml5_109 np_X5_routineOf rfl rfl h_a rfl (Nat.le_of_ble_eq_true rfl) (Nat.le_of_ble_eq_true rfl) rfl (k_X5_routineOf_f (d) (T := T) (σ := σ) (a := a) (k := v14) h_a (by omega) hw ) (fun r15 T17 σ16 gt18 hp => ?_)
      obtain ⟨v21, rfl, rfl, rfl, f19, f20⟩ := hp
      clear gt18
      show Tn _ _ 22 T σ [(0, .ref a), (1, .int (iI i1))] [.int (iI v21)] _
      refine tn_istore_n (L' := [(2, .int (iI v21)), (0, .ref a), (1, .int (iI i1))]) dX5_settleCalls_22 rfl (by decide) rfl ?_
      refine tn_iload_n dX5_settleCalls_23 rfl 0 rfl ?_
      refine tn_iconst dX5_settleCalls_24 ?_
      refine tn_icmp_ne (tgt := 44) dX5_settleCalls_25 (by decide) ⟨by omega, by omega⟩ ⟨by decide, by decide⟩ (fun h22 => ?_) (fun h22 => ?_)
      · refine tn_aload_n dX5_settleCalls_44 rfl 1 rfl ?_
        obtain ⟨xq23, hx24, hk25, hl26⟩ : ∃ x : Nat, σ0.2.1 37 a = (x : Int) ∧ AR T x 17 256 256 := wf_37 hw0 h_a
        have hk25i : IA T xq23 := by unfold IA; omega
        refine tn_getR (ci := 5) (i := 4) (n := 37) (x := xq23) dX5_settleCalls_45 rfl lay_5 (by decide) fl5_28 h_a rfl rfl (rc_F hF (Or.inl (by decide)) (by decide) (hx24)) ?_
        refine tn_iload_n dX5_settleCalls_48 rfl 0 rfl ?_
        refine tn_callSN (M := m_X5_settleCalls) (pc := 49) (ix := 231) (M' := m_X11_at) (As := [.ref xq23, .int (iI v21)]) (rest := []) dX5_settleCalls_49 ok_X11_at stt_X11_at nl5_231 np_X11_at rfl (Nat.le_of_ble_eq_true rfl) (Nat.le_of_ble_eq_true rfl) rfl (k_X11_at (d + 1) (T := T) (σ := σ) (x := xq23) (i := v21) hk25i (by omega) (by omega) hw ) (fun r27 T29 σ28 gt30 hp => ?_)
        obtain ⟨v34, rfl, rfl, rfl, f31, f32, f33⟩ := hp
        clear gt30
        show Tn _ _ 52 T σ [(2, .int (iI v21)), (0, .ref a), (1, .int (iI i1))] [.int (iI v34)] _
        refine tn_aload_n dX5_settleCalls_52 rfl 1 rfl ?_
        obtain ⟨xq35, hx36, hk37, hl38⟩ : ∃ x : Nat, σ0.2.1 41 a = (x : Int) ∧ AR T x 20 256 256 := wf_41 hw0 h_a
        have hk37i : IA T xq35 := by unfold IA; omega
        refine tn_getR (ci := 5) (i := 8) (n := 41) (x := xq35) dX5_settleCalls_53 rfl lay_5 (by decide) fl5_37 h_a rfl rfl (rc_F hF (Or.inl (by decide)) (by decide) (hx36)) ?_
        refine tn_iload_n dX5_settleCalls_56 rfl 2 rfl ?_
        refine tn_callSN (M := m_X5_settleCalls) (pc := 57) (ix := 231) (M' := m_X11_at) (As := [.ref xq35, .int (iI i1)]) (rest := [.int (iI v34)]) dX5_settleCalls_57 ok_X11_at stt_X11_at nl5_231 np_X11_at rfl (Nat.le_of_ble_eq_true rfl) (Nat.le_of_ble_eq_true rfl) rfl (k_X11_at (d + 1) (T := T) (σ := σ) (x := xq35) (i := i1) hk37i (by omega) (by omega) hw ) (fun r39 T41 σ40 gt42 hp => ?_)
        obtain ⟨v46, rfl, rfl, rfl, f43, f44, f45⟩ := hp
        clear gt42
        show Tn _ _ 60 T σ [(2, .int (iI v21)), (0, .ref a), (1, .int (iI i1))] [.int (iI v46), .int (iI v34)] _
        refine tn_icmp_eq (tgt := 76) dX5_settleCalls_60 (by decide) ⟨by omega, by omega⟩ ⟨by omega, by omega⟩ (fun h47 => ?_) (fun h47 => ?_)
        · refine tn_iinc (q0 := 2) (L' := [(1, .int (iI (i1 + 1))), (2, .int (iI v21)), (0, .ref a)]) dX5_settleCalls_76 rfl (by decide) rfl ?_
          refine tn_goto (tgt := 2) dX5_settleCalls_79 (by decide) ?_
          have w49 := f13; unfold ATV at w49; rw [if_pos ⟨by omega, by omega⟩] at w49
          have z48h := hst
          have z48k : KW (v14) (cx.ck i1) := by rw [w49]; exact z48h.2.1.2.2.2.1 xq3 (rc_F hF (Or.inl (by decide)) (by decide) (hx4)) i1 (by omega) (by show i1 < cx.cn; omega)
          have z48v := st_at (c := fpC (cnts (cSs cx i1.toNat) cx.fp) cx) f20 z48h.2.1 hw h_a z48k (by omega)
          have z48v2 : v21 < cx.rn := z48v.2.1
          have w50 := f33; unfold ATV at w50; rw [if_pos ⟨by omega, by omega⟩] at w50
          have w51 := f45; unfold ATV at w51; rw [if_pos ⟨by omega, by omega⟩] at w51
          have z48r : v34 = cx.rp v21 := by rw [w50]; exact z48h.2.1.2.2.1 xq23 (rc_F hF (Or.inl (by decide)) (by decide) (hx24)) v21 (by omega) z48v2
          have z48q : v46 = cx.cc i1 := by rw [w51]; exact z48h.2.1.2.2.2.2.2 xq35 (rc_F hF (Or.inl (by decide)) (by decide) (hx36)) i1 (by omega) (by show i1 < cx.cn; omega)
          have z48c : cS cx i1 = [] := st_eq (c := fpC (cnts (cSs cx i1.toNat) cx.fp) cx) f20 z48h.2.1 hw h_a z48k (by omega) (by show cx.rp v21 = cx.cc i1; omega)
          exact tn_sub [2, 0] rfl (ih _ (by omega) (i1 + 1) σ hw (FrC.rfl.trans (FrC.sub hF (by decide))) (by omega) (by omega) (RD0.qc hst (by rw [cSs_s cx (by omega), z48c]; rfl)) hch rfl)
        · refine tn_aload_n dX5_settleCalls_63 rfl 1 rfl ?_
          refine tn_iconst dX5_settleCalls_64 ?_
          refine tn_aload_n dX5_settleCalls_65 rfl 1 rfl ?_
          obtain ⟨xq52, hx53, hk54, hl55⟩ : ∃ x : Nat, σ0.2.1 40 a = (x : Int) ∧ AR T x 19 256 256 := wf_40 hw0 h_a
          have hk54i : IA T xq52 := by unfold IA; omega
          refine tn_getR (ci := 5) (i := 7) (n := 40) (x := xq52) dX5_settleCalls_66 rfl lay_5 (by decide) fl5_34 h_a rfl rfl (rc_F hF (Or.inl (by decide)) (by decide) (hx53)) ?_
          refine tn_iload_n dX5_settleCalls_69 rfl 2 rfl ?_
          refine tn_callSN (M := m_X5_settleCalls) (pc := 70) (ix := 231) (M' := m_X11_at) (As := [.ref xq52, .int (iI i1)]) (rest := [.int (iI 4), .ref a]) dX5_settleCalls_70 ok_X11_at stt_X11_at nl5_231 np_X11_at rfl (Nat.le_of_ble_eq_true rfl) (Nat.le_of_ble_eq_true rfl) rfl (k_X11_at (d + 1) (T := T) (σ := σ) (x := xq52) (i := i1) hk54i (by omega) (by omega) hw ) (fun r56 T58 σ57 gt59 hp => ?_)
          obtain ⟨v63, rfl, rfl, rfl, f60, f61, f62⟩ := hp
          clear gt59
          show Tn _ _ 73 T σ [(2, .int (iI v21)), (0, .ref a), (1, .int (iI i1))] [.int (iI v63), .int (iI 4), .ref a] _
          refine tn_callV (M := m_X5_settleCalls) (pc := 73) (ix := 113) (ci := 5) (M' := m_X5_note) (As := [.int (iI 4), .int (iI v63)]) (rest := []) dX5_settleCalls_73 ok_X5_note im_X5_note se_X5_note ml5_113 np_X5_note rfl rfl h_a rfl (Nat.le_of_ble_eq_true rfl) (Nat.le_of_ble_eq_true rfl) rfl (k_X5_note_m (d + 1) (T := T) (σ := σ) (a := a) (f := 4) (p := v63) h_a (by decide) (by omega) hw ) (fun r64 T66 σ65 gt67 hp => ?_)
          obtain ⟨rfl, rfl, w71, F72, f68, f69⟩ := hp
          clear gt67
          have fx73 : RD0 σ65 a Sx nx jx (fpC (cntN 4 (v63) (fpC (cnts (cSs cx i1.toNat) cx.fp) cx).fp) (fpC (cnts (cSs cx i1.toNat) cx.fp) cx)) := RD0.nt hst hw h_a F72 f68
          show Tn _ _ 76 T σ65 [(2, .int (iI v21)), (0, .ref a), (1, .int (iI i1))] [] _
          refine tn_iinc (q0 := 2) (L' := [(1, .int (iI (i1 + 1))), (2, .int (iI v21)), (0, .ref a)]) dX5_settleCalls_76 rfl (by decide) rfl ?_
          refine tn_goto (tgt := 2) dX5_settleCalls_79 (by decide) ?_
          have w75 := f13; unfold ATV at w75; rw [if_pos ⟨by omega, by omega⟩] at w75
          have z74h := hst
          have z74k : KW (v14) (cx.ck i1) := by rw [w75]; exact z74h.2.1.2.2.2.1 xq3 (rc_F hF (Or.inl (by decide)) (by decide) (hx4)) i1 (by omega) (by show i1 < cx.cn; omega)
          have z74v := st_at (c := fpC (cnts (cSs cx i1.toNat) cx.fp) cx) f20 z74h.2.1 hw h_a z74k (by omega)
          have z74v2 : v21 < cx.rn := z74v.2.1
          have w76 := f33; unfold ATV at w76; rw [if_pos ⟨by omega, by omega⟩] at w76
          have w77 := f45; unfold ATV at w77; rw [if_pos ⟨by omega, by omega⟩] at w77
          have z74r : v34 = cx.rp v21 := by rw [w76]; exact z74h.2.1.2.2.1 xq23 (rc_F hF (Or.inl (by decide)) (by decide) (hx24)) v21 (by omega) z74v2
          have z74q : v46 = cx.cc i1 := by rw [w77]; exact z74h.2.1.2.2.2.2.2 xq35 (rc_F hF (Or.inl (by decide)) (by decide) (hx36)) i1 (by omega) (by show i1 < cx.cn; omega)
          have z74c : cS cx i1 = [(cx.cp i1, 4)] := st_ne (c := fpC (cnts (cSs cx i1.toNat) cx.fp) cx) f20 z74h.2.1 hw h_a z74k (by omega) (by show cx.rp v21 ≠ cx.cc i1; omega)
          have w78 := f62; unfold ATV at w78; rw [if_pos ⟨by omega, by omega⟩] at w78
          have z74p : v63 = cx.cp i1 := by rw [w78]; exact z74h.2.1.2.2.2.2.1 xq52 (rc_F hF (Or.inl (by decide)) (by decide) (hx53)) i1 (by omega) (by show i1 < cx.cn; omega)
          exact tn_sub [2, 0] rfl (ih _ (by omega) (i1 + 1) σ65 w71 ((FrC.rfl.trans (FrC.sub hF (by decide))).trans (FrC.sub F72 (by decide))) (by omega) (by omega) (RD0.qc fx73 (by rw [cSs_s cx (by omega), z74c, z74p]; rfl)) (CHX.trans hch f69) rfl)
      · refine tn_aload_n dX5_settleCalls_28 rfl 1 rfl ?_
        refine tn_iconst dX5_settleCalls_29 ?_
        refine tn_aload_n dX5_settleCalls_30 rfl 1 rfl ?_
        obtain ⟨xq79, hx80, hk81, hl82⟩ : ∃ x : Nat, σ0.2.1 40 a = (x : Int) ∧ AR T x 19 256 256 := wf_40 hw0 h_a
        have hk81i : IA T xq79 := by unfold IA; omega
        refine tn_getR (ci := 5) (i := 7) (n := 40) (x := xq79) dX5_settleCalls_31 rfl lay_5 (by decide) fl5_34 h_a rfl rfl (rc_F hF (Or.inl (by decide)) (by decide) (hx80)) ?_
        refine tn_iload_n dX5_settleCalls_34 rfl 2 rfl ?_
        refine tn_callSN (M := m_X5_settleCalls) (pc := 35) (ix := 231) (M' := m_X11_at) (As := [.ref xq79, .int (iI i1)]) (rest := [.int (iI 3), .ref a]) dX5_settleCalls_35 ok_X11_at stt_X11_at nl5_231 np_X11_at rfl (Nat.le_of_ble_eq_true rfl) (Nat.le_of_ble_eq_true rfl) rfl (k_X11_at (d + 1) (T := T) (σ := σ) (x := xq79) (i := i1) hk81i (by omega) (by omega) hw ) (fun r83 T85 σ84 gt86 hp => ?_)
        obtain ⟨v90, rfl, rfl, rfl, f87, f88, f89⟩ := hp
        clear gt86
        show Tn _ _ 38 T σ [(2, .int (iI v21)), (0, .ref a), (1, .int (iI i1))] [.int (iI v90), .int (iI 3), .ref a] _
        refine tn_callV (M := m_X5_settleCalls) (pc := 38) (ix := 113) (ci := 5) (M' := m_X5_note) (As := [.int (iI 3), .int (iI v90)]) (rest := []) dX5_settleCalls_38 ok_X5_note im_X5_note se_X5_note ml5_113 np_X5_note rfl rfl h_a rfl (Nat.le_of_ble_eq_true rfl) (Nat.le_of_ble_eq_true rfl) rfl (k_X5_note_m (d + 1) (T := T) (σ := σ) (a := a) (f := 3) (p := v90) h_a (by decide) (by omega) hw ) (fun r91 T93 σ92 gt94 hp => ?_)
        obtain ⟨rfl, rfl, w98, F99, f95, f96⟩ := hp
        clear gt94
        have fx100 : RD0 σ92 a Sx nx jx (fpC (cntN 3 (v90) (fpC (cnts (cSs cx i1.toNat) cx.fp) cx).fp) (fpC (cnts (cSs cx i1.toNat) cx.fp) cx)) := RD0.nt hst hw h_a F99 f95
        show Tn _ _ 41 T σ92 [(2, .int (iI v21)), (0, .ref a), (1, .int (iI i1))] [] _
        refine tn_goto (tgt := 76) dX5_settleCalls_41 (by decide) ?_
        refine tn_iinc (q0 := 2) (L' := [(1, .int (iI (i1 + 1))), (2, .int (iI v21)), (0, .ref a)]) dX5_settleCalls_76 rfl (by decide) rfl ?_
        refine tn_goto (tgt := 2) dX5_settleCalls_79 (by decide) ?_
        have w102 := f13; unfold ATV at w102; rw [if_pos ⟨by omega, by omega⟩] at w102
        have z101h := hst
        have z101k : KW (v14) (cx.ck i1) := by rw [w102]; exact z101h.2.1.2.2.2.1 xq3 (rc_F hF (Or.inl (by decide)) (by decide) (hx4)) i1 (by omega) (by show i1 < cx.cn; omega)
        have z101c : cS cx i1 = [(cx.cp i1, 3)] := st_no (c := fpC (cnts (cSs cx i1.toNat) cx.fp) cx) f20 z101h.2.1 hw h_a z101k (by omega)
        have w103 := f89; unfold ATV at w103; rw [if_pos ⟨by omega, by omega⟩] at w103
        have z101p : v90 = cx.cp i1 := by rw [w103]; exact z101h.2.1.2.2.2.2.1 xq79 (rc_F hF (Or.inl (by decide)) (by decide) (hx80)) i1 (by omega) (by show i1 < cx.cn; omega)
        exact tn_sub [2, 0] rfl (ih _ (by omega) (i1 + 1) σ92 w98 ((FrC.rfl.trans (FrC.sub hF (by decide))).trans (FrC.sub F99 (by decide))) (by omega) (by omega) (RD0.qc fx100 (by rw [cSs_s cx (by omega), z101c, z101p]; rfl)) (CHX.trans hch f96) rfl)
set_option maxHeartbeats 1000000 in
set_option maxRecDepth 20000 in
theorem l_X5_settleCalls_m_117 (d : Nat) {T : CT} {σ0 : MS} {a : Nat} {c1 : Int} {rx2 : Nat} {E : Int → Nat} {cx : CS} {sq : MS} {post : Option Value → CT → MS → Prop} (h_a : OB T a 5) (r_c1 : 0 ≤ c1 ∧ c1 ≤ 6) (h_rx2 : OB T rx2 1) (t_rx2 : (T rx2).1 = 31) (hw0 : WT T σ0) (hsw : WT T sq) (hsE : SPE T sq a E) (hsA : EAP sq E) (hEx : E c1 = rx2) (hn2 : sq.2.1 6 rx2 ≤ 200) (h17 : 0 ≤ c1 ∧ c1 < 7) (hx_162 : ∀ (i3 : Int) (σ : MS) , (WT T σ) → (FrC T [] σ0 σ) → (0 ≤ i3 ∧ i3 ≤ 200) → (STL E (rofF sq a) sq σ c1 i3) → (sq.2.1 6 rx2 ≤ i3) → Tn (d + 3) m_X5_settleCalls 162 T σ [(0, .ref a), (1, .int (iI c1)), (2, .ref rx2), (3, .int (iI i3))] [] post) : ∀ (n : Nat) (i3 : Int) (σ : MS) , (WT T σ) → (FrC T [] σ0 σ) → (0 ≤ i3 ∧ i3 ≤ 200) → (STL E (rofF sq a) sq σ c1 i3) → (2147483700 - i3).toNat = n → Tn (d + 3) m_X5_settleCalls 117 T σ [(0, .ref a), (1, .int (iI c1)), (2, .ref rx2), (3, .int (iI i3))] [] post := by
  intro n
  induction n using Nat.strongRecOn with
  | _ n ih =>
    intro i3 σ hw hF r_i3 hq hm
    refine tn_aload_n dX5_settleCalls_117 rfl 2 rfl ?_
    refine tn_ifnull dX5_settleCalls_118 ?_
    refine tn_iload_n dX5_settleCalls_121 rfl 3 rfl ?_
    refine tn_aload_n dX5_settleCalls_122 rfl 2 rfl ?_
    refine tn_getI (ci := 1) (i := 1) (n := 6) (t := σ0.2.1 6 rx2) dX5_settleCalls_123 rfl lay_1 (by decide) fl5_146 h_rx2 rfl rfl (rc_F hF (Or.inl (by decide)) (by decide) (rfl)) ?_
    have g1 : ((0 : Int) ≤ σ0.2.1 6 rx2 ∧ σ0.2.1 6 rx2 ≤ 5000) ∧ ((T rx2).1 = 50 → σ0.2.1 6 rx2 ≤ 200) := wf_6 hw0 h_rx2
    have g1x := g1.2
    replace g1 := g1.1
    clear g1x
    refine tn_icmp_ge (tgt := 162) dX5_settleCalls_126 (by decide) ⟨by omega, by omega⟩ ⟨by omega, by omega⟩ (fun h2 => ?_) (fun h2 => ?_)
    · have rq3 : σ.2.1 6 rx2 = σ0.2.1 6 rx2 := rc_F hF (Or.inl (by decide)) (by decide) (rfl)
      have g64 : σ.2.1 6 rx2 = sq.2.1 6 rx2 := STL.fd hq 6 rx2 (by decide)
      exact tn_sub [0, 1, 2, 3] rfl (hx_162 (i3) σ hw (FrC.rfl.trans (FrC.sub hF (by decide))) (by omega) hq (by omega))
    · refine tn_aload_n dX5_settleCalls_129 rfl 2 rfl ?_
      refine tn_iload_n dX5_settleCalls_130 rfl 3 rfl ?_
      refine tn_iconst dX5_settleCalls_131 ?_
      have rq5 : σ.2.1 6 rx2 = σ0.2.1 6 rx2 := rc_F hF (Or.inl (by decide)) (by decide) (rfl)
      have g66 : σ.2.1 6 rx2 = sq.2.1 6 rx2 := STL.fd hq 6 rx2 (by decide)
      refine tn_callV (M := m_X5_settleCalls) (pc := 132) (ix := 164) (ci := 1) (M' := m_X1_get) (As := [.int (iI i3), .int (iI 0)]) (rest := []) dX5_settleCalls_132 ok_X1_get im_X1_get se_X1_get ml5_164 np_X1_get rfl rfl h_rx2 rfl (Nat.le_of_ble_eq_true rfl) (Nat.le_of_ble_eq_true rfl) rfl (k_get_c (d + 1) (T := T) (σ := σ) (a := rx2) (k := i3) (c := 0) h_rx2 t_rx2 (by omega) (by decide) hw (by omega) (by omega)) (fun r7 T9 σ8 gt10 hp => ?_)
      obtain ⟨v13, rfl, rfl, rfl, f11, f12⟩ := hp
      clear gt10
      show Tn _ _ 135 T σ [(0, .ref a), (1, .int (iI c1)), (2, .ref rx2), (3, .int (iI i3))] [.int (iI v13)] _
      refine tn_bipush dX5_settleCalls_135 (by decide) ?_
      refine tn_icmp_ne (tgt := 156) dX5_settleCalls_137 (by decide) ⟨by omega, by omega⟩ ⟨by decide, by decide⟩ (fun h14 => ?_) (fun h14 => ?_)
      · refine tn_iinc (q0 := 3) (L' := [(3, .int (iI (i3 + 1))), (0, .ref a), (1, .int (iI c1)), (2, .ref rx2)]) dX5_settleCalls_156 rfl (by decide) rfl ?_
        refine tn_goto (tgt := 117) dX5_settleCalls_159 (by decide) ?_
        have hq15 : STL E (rofF sq a) sq σ c1 (i3 + 1) := STL.no hq (by omega) (by rw [hEx, ← f12]; omega)
        exact tn_sub [1, 2, 3, 0] rfl (ih _ (by omega) (i3 + 1) σ hw (FrC.rfl.trans (FrC.sub hF (by decide))) (by omega) hq15 rfl)
      · refine tn_aload_n dX5_settleCalls_140 rfl 2 rfl ?_
        refine tn_iload_n dX5_settleCalls_141 rfl 3 rfl ?_
        refine tn_iconst dX5_settleCalls_142 ?_
        refine tn_aload_n dX5_settleCalls_143 rfl 0 rfl ?_
        refine tn_aload_n dX5_settleCalls_144 rfl 2 rfl ?_
        refine tn_iload_n dX5_settleCalls_145 rfl 3 rfl ?_
        refine tn_iconst dX5_settleCalls_146 ?_
        have rq16 : σ.2.1 6 rx2 = σ0.2.1 6 rx2 := rc_F hF (Or.inl (by decide)) (by decide) (rfl)
        have g617 : σ.2.1 6 rx2 = sq.2.1 6 rx2 := STL.fd hq 6 rx2 (by decide)
        refine tn_callV (M := m_X5_settleCalls) (pc := 147) (ix := 164) (ci := 1) (M' := m_X1_get) (As := [.int (iI i3), .int (iI 2)]) (rest := [.ref a, .int (iI 2), .int (iI i3), .ref rx2]) dX5_settleCalls_147 ok_X1_get im_X1_get se_X1_get ml5_164 np_X1_get rfl rfl h_rx2 rfl (Nat.le_of_ble_eq_true rfl) (Nat.le_of_ble_eq_true rfl) rfl (k_get_c (d + 1) (T := T) (σ := σ) (a := rx2) (k := i3) (c := 2) h_rx2 t_rx2 (by omega) (by decide) hw (by omega) (by omega)) (fun r18 T20 σ19 gt21 hp => ?_)
        obtain ⟨v24, rfl, rfl, rfl, f22, f23⟩ := hp
        clear gt21
        show Tn _ _ 150 T σ [(0, .ref a), (1, .int (iI c1)), (2, .ref rx2), (3, .int (iI i3))] [.int (iI v24), .ref a, .int (iI 2), .int (iI i3), .ref rx2] _
        refine tn_callV (M := m_X5_settleCalls) (pc := 150) (ix := 109) (ci := 5) (M' := m_X5_routineOf) (As := [.int (iI v24)]) (rest := [.int (iI 2), .int (iI i3), .ref rx2]) dX5_settleCalls_150 ok_X5_routineOf im_X5_routineOf se_X5_routineOf ml5_109 np_X5_routineOf rfl rfl h_a rfl (Nat.le_of_ble_eq_true rfl) (Nat.le_of_ble_eq_true rfl) rfl (k_X5_routineOf_f (d) (T := T) (σ := σ) (a := a) (k := v24) h_a (by omega) hw ) (fun r25 T27 σ26 gt28 hp => ?_)
        obtain ⟨v31, rfl, rfl, rfl, f29, f30⟩ := hp
        clear gt28
        show Tn _ _ 153 T σ [(0, .ref a), (1, .int (iI c1)), (2, .ref rx2), (3, .int (iI i3))] [.int (iI v31), .int (iI 2), .int (iI i3), .ref rx2] _
        have rq32 : σ.2.1 6 rx2 = σ0.2.1 6 rx2 := rc_F hF (Or.inl (by decide)) (by decide) (rfl)
        have g633 : σ.2.1 6 rx2 = sq.2.1 6 rx2 := STL.fd hq 6 rx2 (by decide)
        refine tn_callV (M := m_X5_settleCalls) (pc := 153) (ix := 167) (ci := 1) (M' := m_X1_set) (As := [.int (iI i3), .int (iI 2), .int (iI v31)]) (rest := []) dX5_settleCalls_153 ok_X1_set im_X1_set se_X1_set ml5_167 np_X1_set rfl rfl h_rx2 rfl (Nat.le_of_ble_eq_true rfl) (Nat.le_of_ble_eq_true rfl) rfl (k_set_c (d + 1) (T := T) (σ := σ) (a := rx2) (k := i3) (c := 2) (y := v31) h_rx2 t_rx2 (by omega) (by decide) (by omega) hw (by omega) (by omega) (by omega)) (fun r34 T36 σ35 gt37 hp => ?_)
        obtain ⟨rfl, rfl, w41, F42, f38, f39⟩ := hp
        clear gt37
        show Tn _ _ 156 T σ35 [(0, .ref a), (1, .int (iI c1)), (2, .ref rx2), (3, .int (iI i3))] [] _
        refine tn_iinc (q0 := 3) (L' := [(3, .int (iI (i3 + 1))), (0, .ref a), (1, .int (iI c1)), (2, .ref rx2)]) dX5_settleCalls_156 rfl (by decide) rfl ?_
        refine tn_goto (tgt := 117) dX5_settleCalls_159 (by decide) ?_
        have hq43 : STL E (rofF sq a) sq σ35 c1 (i3 + 1) := STL.set (v := v31) hq (by omega) hsA (by rw [hEx]; exact f38) (by rw [hEx, ← f12]; omega) (by rw [hEx, ← f23]; exact STL.rof hq hsw h_a hsE f30) (by rw [hEx]; exact f39)
        exact tn_sub [1, 2, 3, 0] rfl (ih _ (by omega) (i3 + 1) σ35 w41 ((FrC.rfl.trans (FrC.sub hF (by decide))).trans (FrC.sub F42 (by decide))) (by omega) hq43 rfl)
set_option maxHeartbeats 1000000 in
set_option maxRecDepth 20000 in
theorem l_X5_settleCalls_m_84 (d : Nat) {T : CT} {σ0 : MS} {a : Nat} {E : Int → Nat} {cx : CS} {sq : MS} {post : Option Value → CT → MS → Prop} (h_a : OB T a 5) (hw0 : WT T σ0) (hsw : WT T sq) (hsE : SPE T sq a E) (hsA : EAP sq E) (hsN : sq.2.1 43 a = 0 → ∀ q, 0 ≤ q → q < cx.rn → q < 7 → sq.2.1 6 (E q) ≤ 200) (hs8 : sq.2.1 38 a = cx.rn) (hx_168 : ∀ (i1 : Int) (σ : MS) , (WT T σ) → (FrC T [] σ0 σ) → (0 ≤ i1 ∧ i1 ≤ 7) → (STL E (rofF sq a) sq σ i1 0) → (sq.2.1 43 a ≠ 0 ∨ cx.rn ≤ i1 ∨ 7 ≤ i1) → Tn (d + 3) m_X5_settleCalls 168 T σ [(0, .ref a), (1, .int (iI i1))] [] post) : ∀ (n : Nat) (i1 : Int) (σ : MS) , (WT T σ) → (FrC T [] σ0 σ) → (0 ≤ i1 ∧ i1 ≤ 7) → (STL E (rofF sq a) sq σ i1 0) → (2147483700 - i1).toNat = n → Tn (d + 3) m_X5_settleCalls 84 T σ [(0, .ref a), (1, .int (iI i1))] [] post := by
  intro n
  induction n using Nat.strongRecOn with
  | _ n ih =>
    intro i1 σ hw hF r_i1 hq hm
    refine tn_aload_n dX5_settleCalls_84 rfl 0 rfl ?_
    refine tn_getI (ci := 5) (i := 10) (n := 43) (t := σ0.2.1 43 a) dX5_settleCalls_85 rfl lay_5 (by decide) fl5_51 h_a rfl rfl (rc_F hF (Or.inl (by decide)) (by decide) (rfl)) ?_
    have g1 : ((-2147483648 : Int) ≤ σ0.2.1 43 a ∧ σ0.2.1 43 a ≤ 2147483647) := wf_43 hw0 h_a
    refine tn_if_ne (tgt := 168) dX5_settleCalls_88 (by decide) ⟨by omega, by omega⟩ (fun h2 => ?_) (fun h2 => ?_)
    · have rq3 : σ.2.1 43 a = σ0.2.1 43 a := rc_F hF (Or.inl (by decide)) (by decide) (rfl)
      have rq4 : σ.2.1 38 a = σ0.2.1 38 a := rc_F hF (Or.inl (by decide)) (by decide) (rfl)
      have e35 : σ.2.1 43 a = sq.2.1 43 a := STL.fd hq 43 a (by decide)
      have e86 : σ.2.1 38 a = sq.2.1 38 a := STL.fd hq 38 a (by decide)
      exact tn_sub [0, 1] rfl (hx_168 (i1) σ hw (FrC.rfl.trans (FrC.sub hF (by decide))) (by omega) hq (by omega))
    · refine tn_iload_n dX5_settleCalls_91 rfl 1 rfl ?_
      refine tn_aload_n dX5_settleCalls_92 rfl 0 rfl ?_
      refine tn_getI (ci := 5) (i := 5) (n := 38) (t := σ0.2.1 38 a) dX5_settleCalls_93 rfl lay_5 (by decide) fl5_58 h_a rfl rfl (rc_F hF (Or.inl (by decide)) (by decide) (rfl)) ?_
      have g7 : ((0 : Int) ≤ σ0.2.1 38 a ∧ σ0.2.1 38 a ≤ 256) := wf_38 hw0 h_a
      refine tn_icmp_ge (tgt := 168) dX5_settleCalls_96 (by decide) ⟨by omega, by omega⟩ ⟨by omega, by omega⟩ (fun h8 => ?_) (fun h8 => ?_)
      · have rq9 : σ.2.1 43 a = σ0.2.1 43 a := rc_F hF (Or.inl (by decide)) (by decide) (rfl)
        have rq10 : σ.2.1 38 a = σ0.2.1 38 a := rc_F hF (Or.inl (by decide)) (by decide) (rfl)
        have e311 : σ.2.1 43 a = sq.2.1 43 a := STL.fd hq 43 a (by decide)
        have e812 : σ.2.1 38 a = sq.2.1 38 a := STL.fd hq 38 a (by decide)
        exact tn_sub [0, 1] rfl (hx_168 (i1) σ hw (FrC.rfl.trans (FrC.sub hF (by decide))) (by omega) hq (by omega))
      · refine tn_iload_n dX5_settleCalls_99 rfl 1 rfl ?_
        refine tn_aload_n dX5_settleCalls_100 rfl 0 rfl ?_
        obtain ⟨xq13, hx14, hk15, hl16⟩ : ∃ x : Nat, σ0.2.1 34 a = (x : Int) ∧ AR T x 4 7 7 := wf_34 hw0 h_a
        have hk15i : (T xq13).1 = 4 ∨ (T xq13).1 = 5 := by omega
        refine tn_getR (ci := 5) (i := 1) (n := 34) (x := xq13) dX5_settleCalls_101 rfl lay_5 (by decide) fl5_20 h_a rfl rfl (rc_F hF (Or.inl (by decide)) (by decide) (hx14)) ?_
        refine tn_alenX dX5_settleCalls_104 (by have q9 := hk15i; omega) ?_
        refine tn_icmp_ge (tgt := 168) dX5_settleCalls_105 (by decide) ⟨by omega, by omega⟩ ⟨by omega, by omega⟩ (fun h17 => ?_) (fun h17 => ?_)
        · have rq18 : σ.2.1 43 a = σ0.2.1 43 a := rc_F hF (Or.inl (by decide)) (by decide) (rfl)
          have rq19 : σ.2.1 38 a = σ0.2.1 38 a := rc_F hF (Or.inl (by decide)) (by decide) (rfl)
          have e320 : σ.2.1 43 a = sq.2.1 43 a := STL.fd hq 43 a (by decide)
          have e821 : σ.2.1 38 a = sq.2.1 38 a := STL.fd hq 38 a (by decide)
          exact tn_sub [0, 1] rfl (hx_168 (i1) σ hw (FrC.rfl.trans (FrC.sub hF (by decide))) (by omega) hq (by omega))
        · refine tn_aload_n dX5_settleCalls_108 rfl 0 rfl ?_
          refine tn_getR (ci := 5) (i := 1) (n := 34) (x := xq13) dX5_settleCalls_109 rfl lay_5 (by decide) fl5_20 h_a rfl rfl (rc_F hF (Or.inl (by decide)) (by decide) (hx14)) ?_
          refine tn_iload_n dX5_settleCalls_112 rfl 1 rfl ?_
          obtain ⟨xq22, hx23, hk24⟩ := (hw).2.2.2.1.1 xq13 hk15 (i1) (by omega) (by omega)
          refine tn_aald (z := i1) (x := xq22) dX5_settleCalls_113 hk15i (by omega) (by omega) (by omega) hx23 ?_
          have hk24o : OB T xq22 1 := ⟨by omega, by rw [hk24]; rfl, by omega⟩
          refine tn_astore_n (L' := [(2, .ref xq22), (0, .ref a), (1, .int (iI i1))]) dX5_settleCalls_114 rfl (by decide) rfl ?_
          refine tn_iconst dX5_settleCalls_115 ?_
          refine tn_istore_n (L' := [(3, .int (iI 0)), (2, .ref xq22), (0, .ref a), (1, .int (iI i1))]) dX5_settleCalls_116 rfl (by decide) rfl ?_
          have ex2534 : adN sq 34 a = xq13 := by rw [← STL.ad hq 34 a (by decide)]; exact adN_of (rc_F hF (Or.inl (by decide)) (by decide) (hx14))
          have ex25r : sq.2.1 (1000 + xq13) i1 = (xq22 : Int) := by
            have z9 : σ.2.1 (1000 + xq13) i1 = (xq22 : Int) := hx23
            rw [hq.1.r (fun w9 => spe_ne hsw h_a hsE ex2534 w9)] at z9; exact z9
          have ex25 : E i1 = xq22 := by have z9 := (hsE i1 (by omega) (by omega)).1; rw [ex2534, ex25r] at z9; omega
          have rq26 : σ.2.1 43 a = σ0.2.1 43 a := rc_F hF (Or.inl (by decide)) (by decide) (rfl)
          have rq27 : σ.2.1 38 a = σ0.2.1 38 a := rc_F hF (Or.inl (by decide)) (by decide) (rfl)
          have ex253 : σ.2.1 43 a = sq.2.1 43 a := STL.fd hq 43 a (by decide)
          have ex258 : σ.2.1 38 a = sq.2.1 38 a := STL.fd hq 38 a (by decide)
          have ex25n : sq.2.1 6 xq22 ≤ 200 := by rw [← ex25]; exact hsN (by omega) i1 (by omega) (by omega) (by omega)
          refine tn_sub [2, 3, 1, 0] rfl (l_X5_settleCalls_m_117 (d) (T := T) (σ0 := σ) (a := a) (c1 := i1) (rx2 := xq22) (E := E) (cx := cx) (sq := sq) h_a (by omega) hk24o hk24 hw hsw hsE hsA ex25 ex25n (by omega) (fun i328 σ29 w32 F33 r34 f35 f36 => ?_) _ (0) σ hw FrC.rfl (by omega) hq rfl)
          show Tn _ _ 162 T σ29 [(0, .ref a), (1, .int (iI i1)), (2, .ref xq22), (3, .int (iI i328))] [] _
          refine tn_iinc (q0 := 1) (L' := [(1, .int (iI (i1 + 1))), (0, .ref a), (2, .ref xq22), (3, .int (iI i328))]) dX5_settleCalls_162 rfl (by decide) rfl ?_
          refine tn_goto (tgt := 84) dX5_settleCalls_165 (by decide) ?_
          exact tn_sub [1, 0] rfl (ih _ (by omega) (i1 + 1) σ29 w32 ((FrC.rfl.trans (FrC.sub hF (by decide))).trans (FrC.sub F33 (by decide))) (by omega) (STL.nx f35 (by rw [ex25]; exact f36)) rfl)
set_option maxHeartbeats 1000000 in
set_option maxRecDepth 20000 in
theorem k_X5_settleCalls_m (d : Nat) {T : CT} {σ : MS} {a : Nat} {Sx : Int → Int} {nx jx : Nat} {cx : CS} {E : Int → Nat} (ha : OB T a 5) (hw : WT T σ) (hf0 : RD0 σ a Sx nx jx cx) (hE : SPE T σ a E) (hEA : EAP σ E) (hN2 : cx.fp.1 = 0 → ∀ q, 0 ≤ q → q < cx.rn → q < 7 → σ.2.1 6 (E q) ≤ 200) : Tn (d + 3) m_X5_settleCalls 0 T σ [(0, .ref a)] [] (fun ro T2 σ2 => ∃ v : Int, ro = some (.int (iI v)) ∧ T = T2 ∧ WT T2 σ2 ∧ FrC T [43, 44] σ σ2 ∧ (v = 0 ∨ v = 1) ∧ (SQ9 σ2 a cx v) ∧ (SQM σ σ2 a cx E v)) := by
  have hSb := hf0.sb
  have e42 : σ.2.1 42 a = cx.cn := hf0.2.1.1.2.2.2.1
  have e38 : σ.2.1 38 a = cx.rn := hf0.2.1.1.2.2.1
  have b38 := wf_38 hw ha
  have b42 := wf_42 hw ha
  refine tn_iconst dX5_settleCalls_0 ?_
  refine tn_istore_n (L' := [(1, .int (iI 0)), (0, .ref a)]) dX5_settleCalls_1 rfl (by decide) rfl ?_
  refine tn_sub [1, 0] rfl (l_X5_settleCalls_m_2 (d) (T := T) (σ0 := σ) (a := a) (Sx := Sx) (nx := nx) (jx := jx) (cx := cx) ha hw e42 e38 (by omega) (by omega) (fun i11 σ2 w5 F6 r7 f8 f9 f10 f11 => ?_) _ (0) σ hw FrC.rfl (by omega) (by omega) hf0 CHX.rfl rfl)
  obtain ⟨sq12, sq12e⟩ : ∃ z : MS, z = σ2 := ⟨_, rfl⟩
  have sq12w : WT T sq12 := by rw [sq12e]; exact w5
  have sq12c : CHX [(43, a), (44, a)] [] [] σ sq12 := by rw [sq12e]; exact f10
  have sq120 : RD0 sq12 a Sx nx jx (fpC (cnts (cSs cx cx.cn.toNat) cx.fp) cx) := by rw [sq12e]; exact RD0.qc f9 (by rw [show i11 = cx.cn by omega])
  have sq12E : SPE T sq12 a E := fun q q0 q1 => ⟨by rw [show adN sq12 34 a = adN σ 34 a by unfold adN; rw [sq12c.f (by decide) (by simp)], sq12c.r (by simp)]; exact (hE q q0 q1).1, (hE q q0 q1).2⟩
  have sq12A : EAP sq12 E := fun p q p0 p1 q0 q1 z => hEA p q p0 p1 q0 q1 (by unfold adN at z ⊢; rw [sq12c.f (by decide) (by simp), sq12c.f (by decide) (by simp)] at z; exact z)
  have sq12p : sq12.2.1 43 a = (cnts (cSs cx cx.cn.toNat) cx.fp).1 := sq120.2.1.1.1
  have sq12N : sq12.2.1 43 a = 0 → ∀ q, 0 ≤ q → q < cx.rn → q < 7 → sq12.2.1 6 (E q) ≤ 200 := fun z q q0 q1 q2 => by rw [sq12c.f (by decide) (by simp)]; exact hN2 (cnts_0 (by rw [← sq12p]; exact z) cSs_p) q q0 q1 q2
  have sq128 : sq12.2.1 38 a = cx.rn := sq120.2.1.1.2.2.1
  show Tn _ _ 82 T σ2 [(0, .ref a), (1, .int (iI i11))] [] _
  refine tn_iconst dX5_settleCalls_82 ?_
  refine tn_istore_n (L' := [(1, .int (iI 0)), (0, .ref a)]) dX5_settleCalls_83 rfl (by decide) rfl ?_
  refine tn_sub [1, 0] rfl (l_X5_settleCalls_m_84 (d) (T := T) (σ0 := σ2) (a := a) (E := E) (cx := cx) (sq := sq12) ha w5 sq12w sq12E sq12A sq12N sq128 (fun i113 σ14 w17 F18 r19 f20 f21 => ?_) _ (0) σ2 w5 FrC.rfl (by omega) (by rw [← sq12e]; exact STL.in) rfl)
  show Tn _ _ 168 T σ14 [(0, .ref a), (1, .int (iI i113))] [] _
  refine tn_aload_n dX5_settleCalls_168 rfl 0 rfl ?_
  refine tn_getI (ci := 5) (i := 10) (n := 43) (t := σ2.2.1 43 a) dX5_settleCalls_169 rfl lay_5 (by decide) fl5_51 ha rfl rfl (rc_F F18 (Or.inl (by decide)) (by decide) (rfl)) ?_
  have g22 : ((-2147483648 : Int) ≤ σ2.2.1 43 a ∧ σ2.2.1 43 a ≤ 2147483647) := wf_43 w5 ha
  refine tn_if_ne (tgt := 179) dX5_settleCalls_172 (by decide) ⟨by omega, by omega⟩ (fun h23 => ?_) (fun h23 => ?_)
  · refine tn_iconst dX5_settleCalls_179 ?_
    have rq24 : σ14.2.1 43 a = σ2.2.1 43 a := rc_F F18 (Or.inl (by decide)) (by decide) (rfl)
    have sq12F3 : σ14.2.1 43 a = sq12.2.1 43 a := STL.fd f20 43 a (by decide)
    have sq12F4 : σ14.2.1 44 a = sq12.2.1 44 a := STL.fd f20 44 a (by decide)
    have sq12F8 : σ14.2.1 38 a = sq12.2.1 38 a := STL.fd f20 38 a (by decide)
    have sq12P : (σ14.2.1 43 a, σ14.2.1 44 a) = cnts (cSs cx cx.cn.toNat) cx.fp := by rw [sq12F3, sq12F4]; exact sq120.2.1.fp2
    exact tn_zret (v := 0) rfl (by decide) dX5_settleCalls_180 ⟨_, rfl, rfl, w17, ((FrC.rfl.trans (FrC.sub F6 (by decide))).trans (FrC.sub F18 (by decide))), by omega, ⟨sq12P, by rw [sq12F8]; exact sq128, fun q => absurd q (by decide), fun _ => by omega⟩, SQM.no sq12c f20 (by decide)⟩
  · refine tn_iconst dX5_settleCalls_175 ?_
    refine tn_goto (tgt := 180) dX5_settleCalls_176 (by decide) ?_
    have rq25 : σ14.2.1 43 a = σ2.2.1 43 a := rc_F F18 (Or.inl (by decide)) (by decide) (rfl)
    have sq12F3 : σ14.2.1 43 a = sq12.2.1 43 a := STL.fd f20 43 a (by decide)
    have sq12F4 : σ14.2.1 44 a = sq12.2.1 44 a := STL.fd f20 44 a (by decide)
    have sq12F8 : σ14.2.1 38 a = sq12.2.1 38 a := STL.fd f20 38 a (by decide)
    have sq12P : (σ14.2.1 43 a, σ14.2.1 44 a) = cnts (cSs cx cx.cn.toNat) cx.fp := by rw [sq12F3, sq12F4]; exact sq120.2.1.fp2
    exact tn_zret (v := 1) rfl (by decide) dX5_settleCalls_180 ⟨_, rfl, rfl, w17, ((FrC.rfl.trans (FrC.sub F6 (by decide))).trans (FrC.sub F18 (by decide))), by omega, ⟨sq12P, by rw [sq12F8]; exact sq128, fun _ => by omega, fun q => absurd q (by decide)⟩, SQM.of (f := rofF sq12 a) (cnts_0 (M := cSs cx cx.cn.toNat) (by rw [← sq12p]; omega) cSs_p) (by have z9 := rfc_of (c := fpC (cnts (cSs cx cx.cn.toNat) cx.fp) cx) sq120.2.1 sq12w ha; exact z9) sq12c f20 (by have z9 := f21; omega)⟩
end
section
theorem ntg_stk {s : Int → Int} {k : Nat} {t : TK} {x : Int × Int × Int} {q : QR} {r : List Nat × TK × (Int × Int × Int) × QR × List EV} (hk : NTg k) (h : stk s k t x q = some r) : ∀ y ∈ r.1, NTg y := by
  unfold stk at h
  split at h
  all_goals (try (exact absurd hk (by decide)))
  all_goals (repeat' split at h)
  all_goals (cases h)
  all_goals exact ntg rfl
abbrev EBD (e : EW) : Prop := e.1 = 4 ∨ e.1 = 5 ∨ e.1 = 1 ∨ e.1 = 9
theorem ev_body {s : Int → Int} : ∀ (n : Nat) {K : List Nat} {t : TK} {x : Int × Int × Int} {q : QR} {ρ : List EV}, (∀ y ∈ K, NTg y) → ∀ e ∈ evs s n (K, t, x, q, ρ), EBD e
  | 0, _, _, _, _, _, _ => fun e h => absurd h (by show ¬ e ∈ ([] : List EW); simp)
  | n + 1, [], t, x, q, ρ, _ => by
    intro e h
    have z : evs s (n + 1) ([], t, x, q, ρ) = [] := evs_fix (stp_nil s t x q ρ) rfl (n + 1)
    rw [z] at h; exact absurd h (by simp)
  | n + 1, k :: K, t, x, q, ρ, hK => by
    intro e h
    have hk : NTg k := hK k (by simp)
    have h9 : k ≠ 999 := by rcases hk with z | z <;> omega
    have h2 : e ∈ evt s (k :: K, t, x, q, ρ) ++ evs s n (stp s (k :: K, t, x, q, ρ)) := h
    cases r : stk s k t x q with
    | none =>
      rw [stp_none r, evs_fix (stp_pF s) rfl n, List.append_nil, evt_n h9 r] at h2
      rw [List.mem_singleton.mp h2]; exact Or.inr (Or.inr (Or.inr rfl))
    | some r9 =>
      rw [stp_some r, evt_s h9 r] at h2
      rcases List.mem_append.mp h2 with w | w
      · rcases evk_body (t := t) (x := x) (q := q) hk with z | ⟨e9, z, z2⟩
        · rw [z] at w; exact absurd w (by simp)
        · rw [z] at w
          rw [List.mem_singleton.mp w]
          rcases z2 with ⟨z3 | z3, -⟩ | z3
          · exact Or.inl z3
          · exact Or.inr (Or.inl z3)
          · exact Or.inr (Or.inr (Or.inl z3))
      · exact ev_body n (fun y hy => (List.mem_append.mp hy).elim (ntg_stk hk r y) (fun w => hK y (List.mem_cons_of_mem _ w))) e w
theorem GR.bd {S : Int → Int} {i i3 : Nat} {m : Int} {es : List EW} (h : GR S [28] i 0 0 u0 [] i3 0 0 u0 m es) : ∀ e ∈ es, EBD e := by
  obtain ⟨t', l, -, w⟩ := h 0 0 0 (tkS S i) TEQ.rf
  obtain ⟨n, -, e⟩ := w [] []
  rw [← e]
  exact ev_body n (by intro y hy; rw [List.mem_singleton.mp hy]; exact Or.inl (by decide))
section FOB
variable {c : CS} {e : EW} {es : List EW} {q : Int}
theorem uC_bd (h : EBD e) : (uC c e).rn = c.rn ∧ (uC c e).rp = c.rp := by
  show (sC c e).rn = c.rn ∧ (sC c e).rp = c.rp
  unfold sC
  rw [if_neg (by omega), if_neg (by omega), if_neg (by omega)]
  by_cases h4 : e.1 = 4
  · rw [if_pos h4]; exact ⟨(sCn_q c e.2.2.2).1, (sCn_q c e.2.2.2).2.2.1⟩
  · rw [if_neg h4]
    by_cases h5 : e.1 = 5
    · rw [if_pos h5]; exact ⟨rfl, rfl⟩
    · rw [if_neg h5]
      by_cases h1 : e.1 = 1
      · rw [if_pos h1]; exact ⟨rfl, rfl⟩
      · rw [if_neg h1]; exact ⟨rfl, rfl⟩
theorem fo_bd (h : ∀ e ∈ es, EBD e) : (es.foldl uC c).rn = c.rn ∧ (es.foldl uC c).rp = c.rp := by
  induction es generalizing c with
  | nil => exact ⟨rfl, rfl⟩
  | cons e es ih =>
    have z := uC_bd (c := c) (h e (by simp))
    have w := ih (c := uC c e) (fun x hx => h x (List.mem_cons_of_mem _ hx))
    exact ⟨w.1.trans z.1, w.2.trans z.2⟩
theorem uC0_q {p m : Int} {w : Int64} : (uC c (0, p, m, w)).rn = c.rn ∧ (uC c (0, p, m, w)).rp = c.rp ∧ (uC c (0, p, m, w)).nn = c.nn ∧ (uC c (0, p, m, w)).nk = c.nk := by rw [uC0]; exact ⟨rfl, rfl, rfl, rfl⟩
theorem uC0_m {p m : Int} {w : Int64} (h : (uC c (0, p, m, w)).fp.1 = 0) : m ≤ 120 := by
  by_cases z : 120 < m
  · rw [uC0o z] at h
    have h2 : (cntN 5 p c.fp).1 = 0 := h
    exact absurd h2 (fun q => cntN_z (by decide) q)
  · omega
end FOB
def PFX (es : List EW) (Pf : Int → List EW) : Prop := ∀ q, 0 ≤ q → q < (es.foldl uC c00).rn → ((Pf q).foldl uC c00).rn = q + 1 ∧ ∃ p m w e2, es = Pf q ++ (0, p, m, w) :: e2
def CDM (σ : MS) (e : Nat) (q n : Int) (V : Int → It) (fs N P : Int) : Prop := ((σ.2.1 6 e = n ∧ σ.2.1 7 e = N ∧ σ.2.1 9 e = fs ∧ σ.2.1 10 e = 1) ∧ (P ≤ 4 → σ.2.1 8 e = P)) ∧ (rwF σ 11 e 0 = q ∧ rwF σ 12 e 0 = -1 ∧ rwF σ 13 e 0 = 0 ∧ rwF σ 14 e 0 = N ∧ ∀ m, 0 ≤ m → m < N → rwF σ 15 e m = m) ∧ (n ≤ 120 → ∃ W, vW W = V ∧ BRW W n ∧ ∀ k, 0 ≤ k → k < n → cdW σ e k = nnI N (W k))
theorem CDM.csm {σ τ : MS} {e : Nat} {q n fs N P : Int} {V : Int → It} (h : CDM σ e q n V fs N P) (c : CSM σ τ e) : CDM τ e q n V fs N P := by
  unfold CDM at h ⊢
  rw [c.1 6 (by decide) (by decide), c.1 7 (by decide) (by decide), c.1 8 (by decide) (by decide), c.1 9 (by decide) (by decide), c.1 10 (by decide) (by decide), c.rw (f := 11) (by decide) (by decide) (by decide), c.rw (f := 12) (by decide) (by decide) (by decide), c.rw (f := 13) (by decide) (by decide) (by decide), c.rw (f := 14) (by decide) (by decide) (by decide), c.rw (f := 15) (by decide) (by decide) (by decide), c.w]
  exact h
def MK.dn (m : MK) : Int → Int × (Int → It) := m.2.2.2.2.1
def MK.fr (m : MK) : Int → Int := m.2.2.2.2.2
def SPX (Sj : Nat → Prop) (E : Int → Nat) (T : CT) (σ : MS) (a : Nat) : Prop := Sj a ∧ (∀ q, 0 ≤ q → q < 7 → σ.2.1 (1000 + adN σ 34 a) q = (E q : Int) ∧ Sj (E q) ∧ (T (E q)).1 = 31) ∧ ∀ p q, 0 ≤ p → p < 7 → 0 ≤ q → q < 7 → E p = E q → p = q
abbrev RN59 : List Nat := [59, 60, 61, 62, 63, 64]
def RNR (Sj : Nat → Prop) (T : CT) (σ τ : MS) : Prop := ∀ f (b : Nat), f ∈ RN59 → Sj b → (T b).1 = 37 → τ.2.1 f b = σ.2.1 f b ∧ τ.2.1 (1000 + adN σ f b) = σ.2.1 (1000 + adN σ f b)
theorem RNR.rfl {Sj : Nat → Prop} {T : CT} {σ : MS} : RNR Sj T σ σ := fun _ _ _ _ _ => ⟨Eq.refl _, Eq.refl _⟩
theorem RNR.trans {Sj : Nat → Prop} {T T2 : CT} {σ τ υ : MS} (h : RNR Sj T σ τ) (gt : GT T T2) (g : RNR Sj T2 τ υ) : RNR Sj T σ υ := fun f b hf sb tb => by
  have q := h f b hf sb tb
  have w := g f b hf sb (by rw [gt b (by omega) (by omega)]; exact tb)
  have e : adN τ f b = adN σ f b := by unfold adN; rw [q.1]
  rw [e] at w
  exact ⟨w.1.trans q.1, w.2.trans q.2⟩
theorem rn_af {T : CT} {f b : Nat} (hf : f ∈ RN59) (tb : (T b).1 = 37) : (59 ≤ f ∧ f ≤ 64) ∧ f ∈ AFL ∧ OB T b (cls f) := by
  have c : cls f = 7 := by
    simp only [List.mem_cons, List.not_mem_nil, or_false] at hf
    rcases hf with e | e | e | e | e | e <;> rw [e] <;> exact Eq.refl _
  refine ⟨by simp only [List.mem_cons, List.not_mem_nil, or_false] at hf; omega, ?_, ?_⟩
  · simp only [List.mem_cons, List.not_mem_nil, or_false] at hf
    rcases hf with e | e | e | e | e | e <;> rw [e] <;> decide
  · rw [c]; exact ⟨by omega, by rw [tb]; exact Eq.refl _, by omega⟩
theorem RNR.fld {Sj : Nat → Prop} {T : CT} {σ τ : MS} {n : Nat} {i v : Int} (h : RNR Sj T σ τ) (hn : (n < 59 ∨ 64 < n) ∧ n < 1000) : RNR Sj T σ (sA n i v τ) := fun f b hf sb tb => by
  have q := h f b hf sb tb
  have f5 := (rn_af hf tb).1
  rw [sA_k (by omega), sA_k (by omega)]
  exact q
theorem RNR.chx {Sj : Nat → Prop} {T : CT} {σ τ : MS} {ks : List (Nat × Nat)} {rs ls : List Nat} (hI : INJ Sj T σ) (ch : CHX ks rs ls σ τ) (hk : ∀ p, p ∈ ks → p.1 < 59 ∨ 64 < p.1) (hr : ∀ x, x ∈ rs → ∃ g c, g ∈ AFL ∧ (g < 59 ∨ 64 < g) ∧ Sj c ∧ OB T c (cls g) ∧ x = adN σ g c) : RNR Sj T σ τ := fun f b hf sb tb => by
  obtain ⟨f5, fa, ob⟩ := rn_af hf tb
  exact ⟨ch.1 f b (by omega) (fun p hp e => by have := hk p hp; omega), ch.r (fun q => by
    obtain ⟨g, c, hg, ng, sc, oc, e⟩ := hr _ q
    exact hI.ne sb sc ob oc fa hg (Or.inl (by omega)) e)⟩
theorem RNR.chn {Sj : Nat → Prop} {T : CT} {σ τ : MS} {ks : List (Nat × Nat)} {rs ls : List Nat} (hI : INJ Sj T σ) (hw : WT T σ) (ch : CHN T ks rs ls σ τ) (hk : ∀ p, p ∈ ks → p.1 < 59 ∨ 64 < p.1) (hr : ∀ x, x ∈ rs → ∃ g c, g ∈ AFL ∧ (g < 59 ∨ 64 < g) ∧ Sj c ∧ OB T c (cls g) ∧ x = adN σ g c) : RNR Sj T σ τ := fun f b hf sb tb => by
  obtain ⟨f5, fa, ob⟩ := rn_af hf tb
  have z := (af_k hw fa ob).2
  unfold AFK at z
  exact ⟨ch.1 f b (by omega) (fun p hp e => by have := hk p hp; omega), ch.2.1 _ (fun q => by
    obtain ⟨g, c, hg, ng, sc, oc, e⟩ := hr _ q
    exact hI.ne sb sc ob oc fa hg (Or.inl (by omega)) e) (by omega)⟩
def FRT (Sj : Nat → Prop) (T0 : CT) (σ0 : MS) (T : CT) (σ : MS) : Prop := GT T0 T ∧ (∀ e, Sj e → (T0 e).1 = 50 → CSM σ0 σ e) ∧ (∀ x, (T0 x).1 = 4 ∨ (T0 x).1 = 5 → σ.2.1 (1000 + x) = σ0.2.1 (1000 + x)) ∧ RNR Sj T0 σ0 σ
def TLC (Sj : Nat → Prop) (E : Int → Nat) (nm : Int → Int64 → Int) (z0 : MK) (T : CT) (σ : MS) (a : Nat) (S : Int → Int) (i : Nat) (es : List EW) (N : Int) (mz : MK) (Pf : Int → List EW) : Prop := (σ.2.1 45 a = mz.ln ∧ σ.2.1 50 a = mz.pk ∧ σ.2.1 51 a = mz.pv) ∧ mz.rt = (es.foldl uC c00).rn ∧ PFX es Pf ∧ ((∀ q, 0 ≤ q → q < (es.foldl uC c00).rn → NMA nm q ((Pf q).foldl uC c00)) → TXW S nm rnQ tb1 z0 i N mz) ∧ ((es.foldl uC c00).fp.1 = 0 → (es.foldl uC c00).rn ≤ 6 ∧ ∀ q, 0 ≤ q → q < (es.foldl uC c00).rn → (mz.dn q).1 ≤ 120) ∧ ∀ q, 0 ≤ q → q < (es.foldl uC c00).rn → q < 6 → CDM σ (E q) q (mz.dn q).1 (mz.dn q).2 (mz.fr q) ((Pf q).foldl uC c00).nn ((es.foldl uC c00).rp q)
def TLM (Sj : Nat → Prop) (E : Int → Nat) (nm : Int → Int64 → Int) (z0 : MK) (T0 : CT) (σ0 : MS) (T : CT) (σ : MS) (a : Nat) (S : Int → Int) (n : Nat) (k : Int) : Prop := INJ Sj T σ ∧ SPX Sj E T σ a ∧ FRT Sj T0 σ0 T σ ∧ ∃ (i : Nat) (es : List EW) (N : Int) (mz : MK) (Pf : Int → List EW), k ≤ (i : Int) ∧ TR9 S i N es ∧ RD0 σ a S n i (es.foldl uC c00) ∧ 5 * (es.foldl uC c00).rn ≤ (i : Int) ∧ (es.foldl uC c00).m ≤ (i : Int) ∧ TLC Sj E nm z0 T σ a S i es N mz Pf
section FRTS
variable {Sj : Nat → Prop} {E : Int → Nat} {T T0 T2 : CT} {σ σ0 τ s0 s1 : MS} {a c e x : Nat} {i j : Int} {m : MK}
theorem WT.fz (h : WT T σ) : WT T (fzg σ) := by
  obtain ⟨h1, h2, h3, h4, h5, b, K, h6, h7, h8, h9, h10⟩ := h
  refine ⟨h1, h2, h3, h4, h5, b, K, h6, h7, h8, ?_, ?_⟩
  · show (0 : Int) ≤ _; exact Int.natCast_nonneg _
  · show (0 : Int) ≤ _; exact Int.natCast_nonneg _
theorem r45 (hw : WT T σ) (hx : (T x).1 = 4 ∨ (T x).1 = 5) {f b : Nat} (hf : f ∈ AFL) (ob : OB T b (cls f)) : x ≠ adN σ f b := fun q => by
  have z := (af_k hw hf ob).2
  rw [← q] at z
  unfold AFK at z
  omega
theorem OPM.csm (h : OPM σ s0 a c i) (hI : INJ Sj T σ) (ha : OB T a 5) (sa : Sj a) (sc : Sj c) (oc : OB T c 1) (se : Sj e) (oe : OB T e 1) (ne : e ≠ c) : CSM σ s0 e := by
  have ch := h.2.2.2.2
  refine ⟨fun f f0 f1 => ch.f (by omega) (by simp only [List.mem_cons, List.not_mem_nil, or_false, Prod.mk.injEq]; omega), fun f hf => ch.r (fun q => ?_)⟩
  have fa : f ∈ AFL ∧ cls f = 1 := by
    simp only [List.mem_cons, List.not_mem_nil, or_false] at hf
    rcases hf with rfl | rfl | rfl | rfl | rfl | rfl <;> exact ⟨by decide, rfl⟩
  have fb : f ≠ 36 ∧ f ≠ 37 := by
    simp only [List.mem_cons, List.not_mem_nil, or_false] at hf
    omega
  have oe' : OB T e (cls f) := by rw [fa.2]; exact oe
  simp only [List.mem_cons, List.not_mem_nil, or_false] at q
  rcases q with q | q | q | q | q | q
  · exact hI.ne (g := 36) se sa oe' ha fa.1 (by decide) (Or.inl fb.1) q
  · exact hI.ne (g := 37) se sa oe' ha fa.1 (by decide) (Or.inl fb.2) q
  · exact hI.ne (g := 11) se sc oe' oc fa.1 (by decide) (Or.inr ne) q
  · exact hI.ne (g := 12) se sc oe' oc fa.1 (by decide) (Or.inr ne) q
  · exact hI.ne (g := 13) se sc oe' oc fa.1 (by decide) (Or.inr ne) q
  · exact hI.ne (g := 14) se sc oe' oc fa.1 (by decide) (Or.inr ne) q
theorem OPM.r (h : OPM σ s0 a c i) (hw : WT T σ) (ha : OB T a 5) (oc : OB T c 1) (hx : (T x).1 = 4 ∨ (T x).1 = 5) : s0.2.1 (1000 + x) = σ.2.1 (1000 + x) := h.2.2.2.2.r (fun q => by
  simp only [List.mem_cons, List.not_mem_nil, or_false] at q
  rcases q with q | q | q | q | q | q
  · exact r45 hw hx (f := 36) (by decide) ha q
  · exact r45 hw hx (f := 37) (by decide) ha q
  · exact r45 hw hx (f := 11) (by decide) oc q
  · exact r45 hw hx (f := 12) (by decide) oc q
  · exact r45 hw hx (f := 13) (by decide) oc q
  · exact r45 hw hx (f := 14) (by decide) oc q)
theorem OPM.inj (h : OPM σ s0 a c i) (hI : INJ Sj T σ) : INJ Sj T s0 := hI.keep (fun f b hf => h.2.2.2.2.f (by simp only [List.mem_cons, List.not_mem_nil, or_false] at hf; omega) (by
  simp only [List.mem_cons, List.not_mem_nil, or_false] at hf
  simp only [List.mem_cons, List.not_mem_nil, or_false, Prod.mk.injEq]
  omega))
theorem FG.r {Tg : CT} {g : MS} (h : FG Tg g T σ a) (hw : WT Tg g) (ha : OB Tg a 5) (oc : OB Tg (adN g 35 a) 1) (hx : (Tg x).1 = 4 ∨ (Tg x).1 = 5) : σ.2.1 (1000 + x) = g.2.1 (1000 + x) := h.2.1.2.1 x (fun q => by
  rcases List.mem_append.mp q with q | q
  · simp only [List.mem_cons, List.not_mem_nil, or_false] at q
    rcases q with q | q
    · exact r45 hw hx (f := 5) (by decide) oc q
    · exact r45 hw hx (f := 48) (by decide) ha q
  · unfold RRX at q
    by_cases z : g.1 5 = 1
    · rw [if_pos z] at q; exact absurd q (by simp)
    · rw [if_neg z] at q
      simp only [List.mem_cons, List.not_mem_nil, or_false] at q
      rcases q with q | q | q | q | q
      · exact r45 hw hx (f := 37) (by decide) ha q
      · exact r45 hw hx (f := 39) (by decide) ha q
      · exact r45 hw hx (f := 40) (by decide) ha q
      · exact r45 hw hx (f := 41) (by decide) ha q
      · exact r45 hw hx (f := 49) (by decide) ha q) (by omega)
theorem CLT.csm (h : CLT s1 τ c i j) (hI : INJ Sj T s1) (sc : Sj c) (oc : OB T c 1) (se : Sj e) (oe : OB T e 1) (ne : e ≠ c) : CSM s1 τ e := by
  have ch := h.1
  refine ⟨fun f f0 f1 => ch.f (by omega) (by simp), fun f hf => ch.r (fun q => ?_)⟩
  have fa : f ∈ AFL ∧ cls f = 1 := by
    simp only [List.mem_cons, List.not_mem_nil, or_false] at hf
    rcases hf with rfl | rfl | rfl | rfl | rfl | rfl <;> exact ⟨by decide, rfl⟩
  have oe' : OB T e (cls f) := by rw [fa.2]; exact oe
  simp only [List.mem_cons, List.not_mem_nil, or_false] at q
  rcases q with q | q | q
  · exact hI.ne (g := 14) se sc oe' oc fa.1 (by decide) (Or.inr ne) q
  · exact hI.ne (g := 15) se sc oe' oc fa.1 (by decide) (Or.inr ne) q
  · exact hI.ne (g := 5) se sc oe' oc fa.1 (by decide) (Or.inr ne) q
theorem CLT.r (h : CLT s1 τ c i j) (hw : WT T s1) (oc : OB T c 1) (hx : (T x).1 = 4 ∨ (T x).1 = 5) : τ.2.1 (1000 + x) = s1.2.1 (1000 + x) := h.1.r (fun q => by
  simp only [List.mem_cons, List.not_mem_nil, or_false] at q
  rcases q with q | q | q
  · exact r45 hw hx (f := 14) (by decide) oc q
  · exact r45 hw hx (f := 15) (by decide) oc q
  · exact r45 hw hx (f := 5) (by decide) oc q)
theorem CLT.inj (h : CLT s1 τ c i j) (hI : INJ Sj T s1) : INJ Sj T τ := hI.keep (fun f b hf => h.1.f (by simp only [List.mem_cons, List.not_mem_nil, or_false] at hf; omega) (by simp))
theorem OPM.rnr (h : OPM σ s0 a c i) (hI : INJ Sj T σ) (ha : OB T a 5) (sa : Sj a) (sc : Sj c) (oc : OB T c 1) : RNR Sj T σ s0 := RNR.chx hI h.2.2.2.2 (fun p hp => by
  simp only [List.mem_cons, List.not_mem_nil, or_false] at hp
  rcases hp with rfl | rfl | rfl | rfl | rfl | rfl | rfl | rfl | rfl | rfl | rfl <;> simp) (fun x q => by
  simp only [List.mem_cons, List.not_mem_nil, or_false] at q
  rcases q with q | q | q | q | q | q
  · exact ⟨36, a, by decide, Or.inl (by decide), sa, ha, q⟩
  · exact ⟨37, a, by decide, Or.inl (by decide), sa, ha, q⟩
  · exact ⟨11, c, by decide, Or.inl (by decide), sc, oc, q⟩
  · exact ⟨12, c, by decide, Or.inl (by decide), sc, oc, q⟩
  · exact ⟨13, c, by decide, Or.inl (by decide), sc, oc, q⟩
  · exact ⟨14, c, by decide, Or.inl (by decide), sc, oc, q⟩)
theorem CLT.rnr (h : CLT s1 τ c i j) (hI : INJ Sj T s1) (sc : Sj c) (oc : OB T c 1) : RNR Sj T s1 τ := RNR.chx hI h.1 (fun p hp => absurd hp (by simp)) (fun x q => by
  simp only [List.mem_cons, List.not_mem_nil, or_false] at q
  rcases q with q | q | q
  · exact ⟨14, c, by decide, Or.inl (by decide), sc, oc, q⟩
  · exact ⟨15, c, by decide, Or.inl (by decide), sc, oc, q⟩
  · exact ⟨5, c, by decide, Or.inl (by decide), sc, oc, q⟩)
theorem FG.rnr {Tg : CT} {g : MS} (h : FG Tg g T σ a) (hI : INJ Sj Tg g) (hw : WT Tg g) (ha : OB Tg a 5) (sa : Sj a) (sc : Sj (adN g 35 a)) (oc : OB Tg (adN g 35 a) 1) : RNR Sj Tg g σ := RNR.chn hI hw h.2.1 (fun p hp => by
  simp only [List.mem_cons, List.not_mem_nil, or_false] at hp
  rcases hp with rfl | rfl | rfl | rfl | rfl | rfl | rfl | rfl | rfl | rfl | rfl | rfl | rfl | rfl | rfl | rfl | rfl <;> simp) (fun x q => by
  rcases List.mem_append.mp q with q | q
  · simp only [List.mem_cons, List.not_mem_nil, or_false] at q
    rcases q with q | q
    · exact ⟨5, adN g 35 a, by decide, Or.inl (by decide), sc, oc, q⟩
    · exact ⟨48, a, by decide, Or.inl (by decide), sa, ha, q⟩
  · unfold RRX at q
    by_cases z : g.1 5 = 1
    · rw [if_pos z] at q; exact absurd q (by simp)
    · rw [if_neg z] at q
      simp only [List.mem_cons, List.not_mem_nil, or_false] at q
      rcases q with q | q | q | q | q
      · exact ⟨37, a, by decide, Or.inl (by decide), sa, ha, q⟩
      · exact ⟨39, a, by decide, Or.inl (by decide), sa, ha, q⟩
      · exact ⟨40, a, by decide, Or.inl (by decide), sa, ha, q⟩
      · exact ⟨41, a, by decide, Or.inl (by decide), sa, ha, q⟩
      · exact ⟨49, a, by decide, Or.inl (by decide), sa, ha, q⟩)
theorem SPX.spk (h : SPX Sj E T σ a) : SPK Sj T σ a := ⟨h.1, fun q q0 q1 => ⟨E q, h.2.1 q q0 q1⟩⟩
theorem SPX.ob (h : SPX Sj E T σ a) {q : Int} (q0 : 0 ≤ q) (q1 : q < 7) : OB T (E q) 1 := by
  have t := (h.2.1 q q0 q1).2.2
  exact ⟨by omega, by rw [t]; rfl, by omega⟩
theorem SPX.mv (h : SPX Sj E T σ a) (hw : WT T σ) (ha : OB T a 5) (gt : GT T T2) (k34 : τ.2.1 34 a = σ.2.1 34 a) (kr : ∀ x, (T x).1 = 4 ∨ (T x).1 = 5 → τ.2.1 (1000 + x) = σ.2.1 (1000 + x)) : SPX Sj E T2 τ a := by
  obtain ⟨y, y1, y2⟩ := wf_34 hw ha
  have ey : adN σ 34 a = y := adN_of y1
  have e2 : adN τ 34 a = adN σ 34 a := by unfold adN; rw [k34]
  refine ⟨h.1, fun q q0 q1 => ?_, h.2.2⟩
  have z := h.2.1 q q0 q1
  refine ⟨?_, z.2.1, ?_⟩
  · rw [e2, kr _ (Or.inl (by rw [ey]; exact y2.1))]; exact z.1
  · rw [gt (E q) (by omega) (by omega)]; exact z.2.2
theorem FRT.rfl : FRT Sj T0 σ0 T0 σ0 := ⟨GT.rfl, fun _ _ _ => ⟨fun _ _ _ => Eq.refl _, fun _ _ => Eq.refl _⟩, fun _ _ => Eq.refl _, RNR.rfl⟩
theorem FRT.on (h : FRT Sj T0 σ0 T σ) (gt : GT T T2) (kc : ∀ e, Sj e → (T e).1 = 50 → CSM σ τ e) (kr : ∀ x, (T x).1 = 4 ∨ (T x).1 = 5 → τ.2.1 (1000 + x) = σ.2.1 (1000 + x)) (k7 : RNR Sj T σ τ) : FRT Sj T0 σ0 T2 τ := ⟨h.1.trans gt, fun e se te => (h.2.1 e se te).trans (kc e se (by rw [h.1 e (by omega) (by omega)]; exact te)), fun x hx => (kr x (by rw [h.1 x (by omega) (by omega)]; exact hx)).trans (h.2.2.1 x hx), h.2.2.2.trans h.1 k7⟩
theorem FRT.og (h : FRT Sj T0 σ0 T σ) (hI : INJ Sj T σ) (hp : SPX Sj E T σ a) (hw : WT T σ) (ha : OB T a 5) (op : OPM σ s0 a c i) (hi : 0 ≤ i ∧ i < 7) (hw0 : WT T s0) (fg : FG T (fzg s0) T2 τ a) : INJ Sj T2 τ ∧ SPX Sj E T2 τ a ∧ FRT Sj T0 σ0 T2 τ ∧ c = E i ∧ ∀ e, Sj e → OB T e 1 → e ≠ c → CSM σ τ e := by
  have ei : c = E i := by have z := (hp.2.1 i hi.1 hi.2).1; rw [op.1] at z; omega
  have sc : Sj c := by rw [ei]; exact (hp.2.1 i hi.1 hi.2).2.1
  have oc : OB T c 1 := by rw [ei]; exact hp.ob hi.1 hi.2
  have sa := hp.1
  have e35 : adN (fzg s0) 35 a = c := adN_of op.2.1
  have wz := hw0.fz
  have iz : INJ Sj T (fzg s0) := op.inj hI
  have key : ∀ e, Sj e → OB T e 1 → e ≠ c → CSM σ τ e := fun e se oe ne => (op.csm hI ha sa sc oc se oe ne).trans (fg.csm iz wz ha sa (by rw [e35]; exact sc) se oe (by rw [e35]; exact ne))
  have kr : ∀ x, (T x).1 = 4 ∨ (T x).1 = 5 → τ.2.1 (1000 + x) = σ.2.1 (1000 + x) := fun x hx => (fg.r wz ha (by rw [e35]; exact oc) hx).trans (op.r hw ha oc hx)
  have k34 : τ.2.1 34 a = σ.2.1 34 a := (fg.2.1.f (n := 34) (a := a) (by decide) (by simp)).trans (op.2.2.2.2.f (by decide) (by simp))
  refine ⟨fg.inj iz wz (by rw [e35]; exact sc), hp.mv hw ha fg.1 k34 kr, h.on fg.1 (fun e se te => key e se ⟨by omega, by rw [te]; rfl, by omega⟩ (fun q => ?_)) kr ((op.rnr hI ha sa sc oc).trans GT.rfl (show RNR Sj T s0 τ from fg.rnr iz wz ha sa (by rw [e35]; exact sc) (by rw [e35]; exact oc))), ei, key⟩
  have t := (hp.2.1 i hi.1 hi.2).2.2
  rw [← ei, ← q] at t
  omega
theorem FRT.nt (h : FRT Sj T0 σ0 T σ) (hI : INJ Sj T σ) (hp : SPX Sj E T σ a) (hw : WT T σ) (ha : OB T a 5) (ch : CHX [(43, a), (44, a)] [] [] σ τ) : INJ Sj T τ ∧ SPX Sj E T τ a ∧ FRT Sj T0 σ0 T τ := ⟨hI.keep (fun f b hf => ch.f (by simp only [List.mem_cons, List.not_mem_nil, or_false] at hf; omega) (by
    simp only [List.mem_cons, List.not_mem_nil, or_false] at hf
    simp only [List.mem_cons, List.not_mem_nil, or_false, Prod.mk.injEq]
    omega)), hp.mv hw ha GT.rfl (ch.f (by decide) (by simp)) (fun x _ => ch.r (by simp)), h.on GT.rfl (fun e _ _ => csm_chx ch (fun p hp => by
      simp only [List.mem_cons, List.not_mem_nil, or_false] at hp
      rcases hp with rfl | rfl <;> (show 16 < _; omega)) (fun f _ => by simp)) (fun x _ => ch.r (by simp)) (RNR.chx hI ch (fun p hp => by
      simp only [List.mem_cons, List.not_mem_nil, or_false] at hp
      rcases hp with rfl | rfl <;> simp) (fun x hx => absurd hx (by simp)))⟩
end FRTS
section TLCS
variable {Sj : Nat → Prop} {E : Int → Nat} {nm : Int → Int64 → Int} {z0 mz mw : MK} {T T0 T3 : CT} {σ σ0 τ s0 s1 : MS} {a d n : Nat} {S : Int → Int} {i i2 i3 : Nat} {es e2 e3 : List EW} {N k m p ix : Int} {Pf : Int → List EW}
theorem FG.own {Tg : CT} {g : MS} {f : Nat} (h : FG Tg g T σ a) (hI : INJ Sj Tg g) (hw : WT Tg g) (ha : OB Tg a 5) (sa : Sj a) (sc : Sj (adN g 35 a)) (hf : f ∈ [11, 12, 13]) : rwF σ f (adN g 35 a) = rwF g f (adN g 35 a) := by
  have oc : OB Tg (adN g 35 a) 1 := by
    obtain ⟨y, h1, h2⟩ := wf_35 hw ha
    rw [adN_of h1]
    exact ⟨by omega, by rw [h2]; rfl, by omega⟩
  have f6 : f ∈ AF6 ∧ f ∈ AFL ∧ cls f = 1 ∧ f ≠ 5 ∧ f ≠ 48 ∧ f ≠ 37 ∧ f ≠ 39 ∧ f ≠ 40 ∧ f ≠ 41 ∧ f ≠ 49 := by
    simp only [List.mem_cons, List.not_mem_nil, or_false] at hf
    rcases hf with rfl | rfl | rfl <;> exact ⟨by decide, by decide, rfl, by decide, by decide, by decide, by decide, by decide, by decide, by decide⟩
  have oc' : OB Tg (adN g 35 a) (cls f) := by rw [f6.2.2.1]; exact oc
  have ea : adN σ f (adN g 35 a) = adN g f (adN g 35 a) := by
    unfold adN
    rw [h.2.1.f (by simp only [List.mem_cons, List.not_mem_nil, or_false] at hf; omega) (by
      simp only [List.mem_cons, List.not_mem_nil, or_false] at hf
      simp only [List.mem_cons, List.not_mem_nil, or_false, Prod.mk.injEq]
      omega)]
  unfold rwF
  rw [ea]
  refine h.2.1.2.1 _ (fun q => ?_) (by have z := af6_k hw oc f f6.1; omega)
  rcases List.mem_append.mp q with q | q
  · simp only [List.mem_cons, List.not_mem_nil, or_false] at q
    rcases q with q | q
    · exact hI.ne (g := 5) sc sc oc' oc f6.2.1 (by decide) (Or.inl f6.2.2.2.1) q
    · exact hI.ne (g := 48) sc sa oc' ha f6.2.1 (by decide) (Or.inl f6.2.2.2.2.1) q
  · unfold RRX at q
    by_cases z : g.1 5 = 1
    · rw [if_pos z] at q; exact absurd q (by simp)
    · rw [if_neg z] at q
      simp only [List.mem_cons, List.not_mem_nil, or_false] at q
      rcases q with q | q | q | q | q
      · exact hI.ne (g := 37) sc sa oc' ha f6.2.1 (by decide) (Or.inl f6.2.2.2.2.2.1) q
      · exact hI.ne (g := 39) sc sa oc' ha f6.2.1 (by decide) (Or.inl f6.2.2.2.2.2.2.1) q
      · exact hI.ne (g := 40) sc sa oc' ha f6.2.1 (by decide) (Or.inl f6.2.2.2.2.2.2.2.1) q
      · exact hI.ne (g := 41) sc sa oc' ha f6.2.1 (by decide) (Or.inl f6.2.2.2.2.2.2.2.2.1) q
      · exact hI.ne (g := 49) sc sa oc' ha f6.2.1 (by decide) (Or.inl f6.2.2.2.2.2.2.2.2.2) q
theorem CLT.own {f : Nat} {u v : Int} (h : CLT s1 τ d u v) (hI : INJ Sj T s1) (sc : Sj d) (oc : OB T d 1) (hf : f ∈ [11, 12, 13]) : rwF τ f d = rwF s1 f d := by
  have f6 : f ∈ AFL ∧ cls f = 1 ∧ f ≠ 5 ∧ f ≠ 14 ∧ f ≠ 15 := by
    simp only [List.mem_cons, List.not_mem_nil, or_false] at hf
    rcases hf with rfl | rfl | rfl <;> exact ⟨by decide, rfl, by decide, by decide, by decide⟩
  have oc' : OB T d (cls f) := by rw [f6.2.1]; exact oc
  unfold rwF
  rw [h.ad f d (by simp only [List.mem_cons, List.not_mem_nil, or_false] at hf; omega)]
  refine h.1.r (fun q => ?_)
  simp only [List.mem_cons, List.not_mem_nil, or_false] at q
  rcases q with q | q | q
  · exact hI.ne (g := 14) sc sc oc' oc f6.1 (by decide) (Or.inl f6.2.2.2.1) q
  · exact hI.ne (g := 15) sc sc oc' oc f6.1 (by decide) (Or.inl f6.2.2.2.2) q
  · exact hI.ne (g := 5) sc sc oc' oc f6.1 (by decide) (Or.inl f6.2.2.1) q
theorem CDM.of {q c3n kp : Int} (g1 : MG T (fzg s0) T3 s1 a (mw.put (mkI 7 0 0 1 0 0))) (e35 : adN (fzg s0) 35 a = d) (ct : CLT s1 τ d (s1.2.1 7 d) (if s1.2.1 6 d < 120 then s1.2.1 6 d else 120)) (em : EMC s0 d q) (h7 : τ.2.1 7 d = c3n) (k8 : kp ≤ 4 → τ.2.1 8 d = kp) (hI : INJ Sj T s0) (hw0 : WT T s0) (ha : OB T a 5) (sa : Sj a) (sd : Sj d) (od : OB T d 1) : CDM τ d q (mw.n + 1) (uZ mw.V mw.n (mkI 7 0 0 1 0 0)) mw.fs c3n kp := by
  have n1 : s1.2.1 6 d = mw.n + 1 := g1.e6 e35
  have iz : INJ Sj T (fzg s0) := hI
  have i1 : INJ Sj T3 s1 := g1.1.inj iz hw0.fz (by rw [e35]; exact sd)
  have o3 : OB T3 d 1 := by
    have z := g1.1.1 d (by have := hI.1 d sd; omega) (by have := hI.1 d sd; omega)
    unfold OB at od ⊢; rw [z]; exact od
  have s7 : s1.2.1 7 d = c3n := (ct.f 7 d (by decide)).symm.trans h7
  have r : ∀ f, f ∈ [11, 12, 13] → rwF τ f d = rwF s0 f d := fun f hf => by
    rw [ct.own i1 sd o3 hf]
    have z := g1.1.own iz hw0.fz ha sa (by rw [e35]; exact sd) hf
    rw [e35] at z
    exact z
  refine ⟨⟨⟨(ct.f 6 d (by decide)).trans n1, h7, (ct.f 9 d (by decide)).trans (g1.e9 e35), ?_⟩, k8⟩, ⟨?_, ?_, ?_, ?_, fun m m0 m1 => ct.2.2.1 m m0 (by rw [s7]; exact m1)⟩, fun hn => ?_⟩
  · rw [ct.f 10 d (by decide)]
    have z : s1.2.1 10 d = (fzg s0).2.1 10 d := g1.1.2.1.f (by decide) (by simp)
    exact z.trans em.1.2.2
  · rw [r 11 (by decide)]; exact em.2.1
  · rw [r 12 (by decide)]; exact em.2.2.1
  · rw [r 13 (by decide)]; exact em.2.2.2.1
  · rw [ct.2.1]; exact s7
  · have w := g1.2.2.1 (show mw.n + 1 ≤ 200 by omega)
    rw [e35] at w
    refine ⟨cdW s1 d, w.1, w.2.2, fun k k0 k1 => ?_⟩
    rw [ct.2.2.2 (by omega) k, if_pos ⟨k0, by split <;> omega⟩, s7]
theorem TLC.on (hS : SB S) (hk : ckd (tkS S i) ≠ 264) (h : TLC Sj E nm z0 T σ a S i es N mz Pf) (h0 : 0 ≤ (es.foldl uC c00).rn)
    (hd : HRM S i i2 k) (er : (e2.foldl uC (es.foldl uC c00)).rn = (es.foldl uC c00).rn + 1) (ep : (e2.foldl uC (es.foldl uC c00)).rp (es.foldl uC c00).rn = k) (eq : ∀ q, q < (es.foldl uC c00).rn → (e2.foldl uC (es.foldl uC c00)).rp q = (es.foldl uC c00).rp q) (ef : (e2.foldl uC (es.foldl uC c00)).fp.1 = 0 → (es.foldl uC c00).rn < 6)
    (gb : ∀ e ∈ e3, EBD e) (cn : CN nm mz.e35.rt (e3.foldl uC (e2.foldl uC (es.foldl uC c00))) (GW S nm rnQ tb1 [28] i2 0 0 u0 mz.e35 [] i3 0 0 u0 m (mw.on mz.e35)))
    (g1 : MG T (fzg s0) T3 s1 a (mw.put (mkI 7 0 0 1 0 0))) (op : OPM σ s0 a d (if (es.foldl uC c00).rn < 6 then (es.foldl uC c00).rn else 6)) (ct : CLT s1 τ d (s1.2.1 7 d) (if s1.2.1 6 d < 120 then s1.2.1 6 d else 120)) (rx : RDX τ a S n i3 ((es ++ e2 ++ e3 ++ [(0, p, 0 + m + 1, 0)]).foldl uC c00) (0 + m + 1)) (k8 : k ≤ 4 → τ.2.1 8 d = k)
    (kc : ∀ q, 0 ≤ q → q < 7 → E q ≠ d → CSM σ τ (E q)) (hp : SPX Sj E T σ a) (ed : d = E (if (es.foldl uC c00).rn < 6 then (es.foldl uC c00).rn else 6)) (hI : INJ Sj T s0) (hw0 : WT T s0) (ha : OB T a 5) :
    TLC Sj E nm z0 T3 τ a S i3 (es ++ e2 ++ e3 ++ [(0, p, 0 + m + 1, 0)]) (0 + m + 1) ((mw.on mz.e35).one tb1).e34 (uZ Pf (es.foldl uC c00).rn (es ++ e2 ++ e3)) := by
  obtain ⟨-, h2, h3, h4, h5, h6⟩ := h
  have f3 : (es ++ e2 ++ e3).foldl uC c00 = e3.foldl uC (e2.foldl uC (es.foldl uC c00)) := by rw [List.foldl_append, List.foldl_append]
  have fz : (es ++ e2 ++ e3 ++ [(0, p, 0 + m + 1, 0)]).foldl uC c00 = uC (e3.foldl uC (e2.foldl uC (es.foldl uC c00))) (0, p, 0 + m + 1, 0) := by rw [List.foldl_append, f3]; rfl
  have b3 := fo_bd (c := e2.foldl uC (es.foldl uC c00)) gb
  have q0 := uC0_q (c := e3.foldl uC (e2.foldl uC (es.foldl uC c00))) (p := p) (m := 0 + m + 1) (w := 0)
  have rz : ((es ++ e2 ++ e3 ++ [(0, p, 0 + m + 1, 0)]).foldl uC c00).rn = (es.foldl uC c00).rn + 1 := by rw [fz, q0.1, b3.1, er]
  have e35 : adN (fzg s0) 35 a = d := adN_of op.2.1
  have cf : ∀ n (b : Nat), n < 1000 → τ.2.1 n b = s1.2.1 n b := fun n b hn => ct.f n b hn
  have t35 : τ.2.1 35 a = (d : Int) := by
    rw [cf 35 a (by decide), g1.1.f35]
    exact op.2.1
  have nz : mw.n + 1 = 0 + m + 1 := by
    have z1 : s1.2.1 6 d = mw.n + 1 := g1.e6 e35
    have z2 := rx.2.2 d t35
    rw [cf 6 d (by decide)] at z2
    omega
  have dz : ((mw.on mz.e35).one tb1).e34.dn = uZ mz.dn mz.rt (mw.n + 1, uZ mw.V mw.n (mkI 7 0 0 1 0 0)) := rfl
  have rz2 : ((mw.on mz.e35).one tb1).e34.fr = uZ mz.fr mz.rt mw.fs := rfl
  refine ⟨⟨(cf 45 a (by decide)).trans g1.e45, (cf 50 a (by decide)).trans g1.e50, (cf 51 a (by decide)).trans g1.e51⟩, ?_, fun q q1 q2 => ?_, fun hn => ?_, fun hf => ?_, fun q q1 q2 q6 => ?_⟩
  · rw [rz]
    show mz.rt + 1 = _
    rw [h2]
  · rw [rz] at q2
    by_cases z : q = (es.foldl uC c00).rn
    · subst z
      rw [uZ_eq, f3, b3.1, er]
      exact ⟨rfl, p, 0 + m + 1, 0, [], rfl⟩
    · rw [uZ_ne z]
      obtain ⟨w1, p1, m1, w2, e4, w3⟩ := h3 q q1 (by omega)
      refine ⟨w1, p1, m1, w2, e4 ++ (e2 ++ (e3 ++ [(0, p, 0 + m + 1, 0)])), ?_⟩
      rw [w3]
      simp only [List.append_assoc, List.cons_append]
  · rw [rz] at hn
    have g := h4 (fun q q1 q2 => by
      have z := hn q q1 (by omega)
      rw [uZ_ne (by omega)] at z
      exact z)
    have g2 := hn (es.foldl uC c00).rn h0 (by omega)
    rw [uZ_eq, f3] at g2
    exact g.on hS hk hd (cn (by rw [show mz.e35.rt = (es.foldl uC c00).rn from h2]; exact g2))
  · rw [fz] at hf
    have c3 : (e3.foldl uC (e2.foldl uC (es.foldl uC c00))).fp.1 = 0 := fo_fp0 (es := [(0, p, 0 + m + 1, 0)]) hf
    have c2 := fo_fp0 c3
    have c1 := fo_fp0 c2
    have m0 := uC0_m hf
    have o := h5 c1
    rw [rz]
    refine ⟨by have := ef c2; omega, fun q q1 q2 => ?_⟩
    rw [dz]
    by_cases z : q = mz.rt
    · rw [z, uZ_eq]; show mw.n + 1 ≤ 120; omega
    · rw [uZ_ne z]; exact o.2 q q1 (by omega)
  · rw [rz] at q2
    rw [dz, rz2]
    have rp : ((es ++ e2 ++ e3 ++ [(0, p, 0 + m + 1, 0)]).foldl uC c00).rp = (e2.foldl uC (es.foldl uC c00)).rp := by rw [fz, q0.2.1, b3.2]
    rw [rp]
    by_cases z : q = (es.foldl uC c00).rn
    · subst z
      rw [if_pos q6] at ed op
      rw [← h2, uZ_eq, uZ_eq, h2, uZ_eq, f3, ep, ← ed]
      have h7 := rx.2.1.1 d t35
      rw [fz, q0.2.2.1] at h7
      exact CDM.of g1 e35 ct op.2.2.2.1 h7 k8 hI hw0 ha hp.1 (by rw [ed]; exact (hp.2.1 _ q1 (by omega)).2.1) (by rw [ed]; exact hp.ob q1 (by omega))
    · rw [← h2] at z
      rw [uZ_ne z, uZ_ne z, uZ_ne (by rw [← h2]; exact z), eq q (by rw [← h2] at q2 ⊢; omega)]
      refine (h6 q q1 (by rw [← h2] at q2 ⊢; omega) q6).csm (kc q q1 (by omega) (fun w => ?_))
      rw [ed] at w
      have w2 := hp.2.2 q _ q1 (by omega) (by split <;> omega) (by split <;> omega) w
      rw [← h2] at w2 q2
      split at w2 <;> omega
end TLCS
def CDS (σ : MS) (e : Nat) (q n : Int) (V : Int → It) (fs N P : Int) (f : Int → Int) : Prop := ((σ.2.1 6 e = n ∧ σ.2.1 7 e = N ∧ σ.2.1 9 e = fs ∧ σ.2.1 10 e = 1) ∧ (P ≤ 4 → σ.2.1 8 e = P)) ∧ (rwF σ 11 e 0 = q ∧ rwF σ 12 e 0 = -1 ∧ rwF σ 13 e 0 = 0 ∧ rwF σ 14 e 0 = N ∧ ∀ m, 0 ≤ m → m < N → rwF σ 15 e m = m) ∧ (∃ W, vW W = V ∧ BRW W n ∧ ∀ k, 0 ≤ k → k < n → cdW σ e k = stI f (nnI N (W k)))
section FRTU
variable {Sj : Nat → Prop} {E : Int → Nat} {T T0 T2 : CT} {σ σ0 τ s0 s1 : MS} {a c e x : Nat} {i u v : Int} {m : MK} {q n fs N P : Int} {V : Int → It} {f : Int → Int}
theorem FRT.cl (h : FRT Sj T0 σ0 T σ) (hI : INJ Sj T σ) (hp : SPX Sj E T σ a) (hw : WT T σ) (ha : OB T a 5) (op : OPM σ s0 a c i) (hi : 0 ≤ i ∧ i < 7) (hw0 : WT T s0) (fg : FG T (fzg s0) T2 s1 a) (hw1 : WT T2 s1) (ct : CLT s1 τ c u v) : INJ Sj T2 τ ∧ SPX Sj E T2 τ a ∧ FRT Sj T0 σ0 T2 τ ∧ c = E i ∧ ∀ e, Sj e → OB T e 1 → e ≠ c → CSM σ τ e := by
  obtain ⟨o1, o2, o3, o4, o5⟩ := h.og hI hp hw ha op hi hw0 fg
  have sc : Sj c := by rw [o4]; exact (o2.2.1 i hi.1 hi.2).2.1
  have oc : OB T2 c 1 := by rw [o4]; exact o2.ob hi.1 hi.2
  have ha2 : OB T2 a 5 := fg.1.ob ha
  have ob2 : ∀ e, OB T e 1 → OB T2 e 1 := fun e oe => fg.1.ob oe
  have tc : (T2 c).1 = 31 := by rw [o4]; exact (o2.2.1 i hi.1 hi.2).2.2
  refine ⟨ct.inj o1, o2.mv hw1 ha2 GT.rfl (ct.f 34 a (by decide)) (fun x hx => ct.r hw1 oc hx), o3.on GT.rfl (fun e se te => ct.csm o1 sc oc se ⟨by omega, by rw [te]; rfl, by omega⟩ (fun q => by rw [q] at te; omega)) (fun x hx => ct.r hw1 oc hx) (ct.rnr o1 sc oc), o4, fun e se oe ne => (o5 e se oe ne).trans (ct.csm o1 sc oc se (ob2 e oe) ne)⟩
def TRT (T : CT) (σ τ : MS) : Prop := ∀ x, ((T x).1 = 1 ∨ (T x).1 = 11 ∨ (T x).1 = 13 ∨ (T x).1 = 4 ∨ (T x).1 = 5) → τ.2.1 (1000 + x) = σ.2.1 (1000 + x)
theorem TRT.rfl : TRT T σ σ := fun _ _ => Eq.refl _
theorem TRT.trans (h : TRT T σ τ) (g : TRT T τ s1) : TRT T σ s1 := fun x hx => (g x hx).trans (h x hx)
theorem TRT.pt {k : Nat} {z w : Int} (h : TRT T σ τ) (hk : k < 1000) : TRT T σ (sA k z w τ) := fun x hx => by rw [sA_k (by omega)]; exact h x hx
theorem TRT.pq {p : Prop} [Decidable p] {z w : Int} {t : Nat} (h : TRT T σ τ) (e : s1 = if p then sA (1000 + x) z w τ else τ) (hx : (T x).1 = t) (ht : t ≠ 1 ∧ t ≠ 11 ∧ t ≠ 13 ∧ t ≠ 4 ∧ t ≠ 5) : TRT T σ s1 := fun y hy => by
  rw [e]
  by_cases c : p
  · rw [if_pos c, sA_k (fun q => by have e2 : y = x := by omega
                                    rw [e2] at hy; omega)]
    exact h y hy
  · rw [if_neg c]; exact h y hy
theorem rn_in (hw : WT T σ) (tr : TRT T σ τ) (k15 : ∀ x : Nat, (T x).1 = 15 → τ.2.1 (1000 + x) = σ.2.1 (1000 + x)) {f b : Nat} (hf : f ∈ RN59) (tb : (T b).1 = 37) : τ.2.1 (1000 + adN σ f b) = σ.2.1 (1000 + adN σ f b) := by
  have ob : OB T b 7 := ⟨by omega, by rw [tb]; exact Eq.refl _, by omega⟩
  simp only [List.mem_cons, List.not_mem_nil, or_false] at hf
  rcases hf with e | e | e | e | e | e <;> subst e
  · exact k15 _ ((ad_ex (Q := fun x => AR T x 15 9 9) (wf_59 hw ob)).2).1
  · exact tr _ (Or.inl ((ad_ex (Q := fun x => AR T x 1 9 9) (wf_60 hw ob)).2).1)
  · have z := (ad_ex (Q := fun x => (T x).2 = 9 ∧ ((T b).1 = 57 → (T x).1 = 14) ∧ ((T b).1 ≠ 57 → (T x).1 = 1)) (wf_61 hw ob)).2
    exact tr _ (Or.inl (z.2.2 (by omega)))
  · exact tr _ (Or.inl ((ad_ex (Q := fun x => AR T x 1 108 108) (wf_62 hw ob)).2).1)
  · exact tr _ (Or.inl ((ad_ex (Q := fun x => AR T x 1 1728 1728) (wf_63 hw ob)).2).1)
  · exact tr _ (Or.inl ((ad_ex (Q := fun x => AR T x 1 200 200) (wf_64 hw ob)).2).1)
theorem FRT.in (hI : INJ Sj T σ) (hp : SPX Sj E T σ a) (hw : WT T σ) (ha : OB T a 5) (kf : ∀ n (b : Nat), n < 200 → n ∉ [38, 42, 43, 44, 45, 84, 85, 86, 87] → τ.2.1 n b = σ.2.1 n b) (tr : TRT T σ τ) (k15 : ∀ x : Nat, (T x).1 = 15 → τ.2.1 (1000 + x) = σ.2.1 (1000 + x)) : INJ Sj T τ ∧ SPX Sj E T τ a ∧ FRT Sj T σ T τ := by
  have kr : ∀ x, (T x).1 = 4 ∨ (T x).1 = 5 → τ.2.1 (1000 + x) = σ.2.1 (1000 + x) := fun x hx => tr x (by omega)
  refine ⟨hI.keep (fun f b hf => kf f b (by simp only [List.mem_cons, List.not_mem_nil, or_false] at hf; omega) (by
    simp only [List.mem_cons, List.not_mem_nil, or_false] at hf
    simp only [List.mem_cons, List.not_mem_nil, or_false]
    omega)), hp.mv hw ha GT.rfl (kf 34 a (by decide) (by decide)) kr, FRT.rfl.on GT.rfl (fun e se te => ⟨fun f f0 f1 => kf f e (by omega) (by simp only [List.mem_cons, List.not_mem_nil, or_false]; omega), fun f hf => tr _ ?_⟩) kr (fun f b hf sb tb => ⟨kf f b (by have := (rn_af hf tb).1; omega) (by have := (rn_af hf tb).1; simp only [List.mem_cons, List.not_mem_nil, or_false]; omega), rn_in hw tr k15 hf tb⟩)⟩
  have z := af6_k hw (show OB T e 1 from ⟨by omega, by rw [te]; rfl, by omega⟩) f hf
  omega
theorem ecl_ob (hp : SPX Sj E T σ a) (h : x ∈ ECL σ E) : ∃ q, 0 ≤ q ∧ q < 7 ∧ x = adN σ 5 (E q) := by
  simp only [List.mem_cons, List.not_mem_nil, or_false] at h
  rcases h with w | w | w | w | w | w | w
  · exact ⟨0, by decide, by decide, w⟩
  · exact ⟨1, by decide, by decide, w⟩
  · exact ⟨2, by decide, by decide, w⟩
  · exact ⟨3, by decide, by decide, w⟩
  · exact ⟨4, by decide, by decide, w⟩
  · exact ⟨5, by decide, by decide, w⟩
  · exact ⟨6, by decide, by decide, w⟩
theorem FRT.st (h : FRT Sj T0 σ0 T σ) (hI : INJ Sj T σ) (hp : SPX Sj E T σ a) (hw : WT T σ) (ha : OB T a 5) (ch : CHX [(43, a), (44, a)] (ECL σ E) [] σ τ) : INJ Sj T τ ∧ SPX Sj E T τ a ∧ FRT Sj T0 σ0 T τ := by
  have kr : ∀ x, (T x).1 = 4 ∨ (T x).1 = 5 → τ.2.1 (1000 + x) = σ.2.1 (1000 + x) := fun x hx => ch.r (fun w => by
    obtain ⟨q, q0, q1, q2⟩ := ecl_ob hp w
    exact r45 hw hx (f := 5) (by decide) (hp.ob q0 q1) q2)
  have kf : ∀ n (b : Nat), n < 1000 → n ≠ 43 → n ≠ 44 → τ.2.1 n b = σ.2.1 n b := fun n b hn h3 h4 => ch.f hn (by simp only [List.mem_cons, List.not_mem_nil, or_false, Prod.mk.injEq]; omega)
  refine ⟨hI.keep (fun f b hf => kf f b (by simp only [List.mem_cons, List.not_mem_nil, or_false] at hf; omega) (by
    simp only [List.mem_cons, List.not_mem_nil, or_false] at hf; omega) (by
    simp only [List.mem_cons, List.not_mem_nil, or_false] at hf; omega)), hp.mv hw ha GT.rfl (kf 34 a (by decide) (by decide) (by decide)) kr, h.on GT.rfl (fun e se te => ⟨fun f f0 f1 => kf f e (by omega) (by omega) (by omega), fun f hf => ch.r (fun w => ?_)⟩) kr (RNR.chx hI ch (fun p hp => by
    simp only [List.mem_cons, List.not_mem_nil, or_false] at hp
    rcases hp with rfl | rfl <;> simp) (fun x hx => by
    obtain ⟨q, q0, q1, q2⟩ := ecl_ob hp hx
    exact ⟨5, E q, by decide, Or.inl (by decide), (hp.2.1 q q0 q1).2.1, hp.ob q0 q1, q2⟩))⟩
  obtain ⟨q, q0, q1, q2⟩ := ecl_ob hp w
  have fa : f ∈ AFL ∧ cls f = 1 := by
    simp only [List.mem_cons, List.not_mem_nil, or_false] at hf
    rcases hf with rfl | rfl | rfl | rfl | rfl | rfl <;> exact ⟨by decide, Eq.refl _⟩
  have z := hp.2.1 q q0 q1
  exact hI.ne (g := 5) se z.2.1 (show OB T e (cls f) by rw [fa.2]; exact ⟨by omega, by rw [te]; rfl, by omega⟩) (hp.ob q0 q1) fa.1 (by decide) (Or.inr (fun w => by rw [w] at te; omega)) q2
theorem CDS.of (h : CDM σ (E q) q n V fs N P) (hn : n ≤ 120) (hI : INJ Sj T σ) (hp : SPX Sj E T σ a) (q0 : 0 ≤ q) (q1 : q < 7) (ch : CHX [(43, a), (44, a)] (ECL σ E) [] σ τ) (cw : ∀ y, cdW τ (E q) y = stI f (cdW σ (E q) y)) : CDS τ (E q) q n V fs N P f := by
  have kf : ∀ n (b : Nat), n < 1000 → n ≠ 43 → n ≠ 44 → τ.2.1 n b = σ.2.1 n b := fun n b hn h3 h4 => ch.f hn (by simp only [List.mem_cons, List.not_mem_nil, or_false, Prod.mk.injEq]; omega)
  have kw : ∀ g, g ∈ [11, 12, 13, 14, 15] → rwF τ g (E q) = rwF σ g (E q) := fun g hg => by
    have ga : g ∈ AFL ∧ cls g = 1 ∧ g ≠ 5 ∧ g < 1000 ∧ g ≠ 43 ∧ g ≠ 44 := by
      simp only [List.mem_cons, List.not_mem_nil, or_false] at hg
      rcases hg with rfl | rfl | rfl | rfl | rfl <;> exact ⟨by decide, rfl, by decide, by decide, by decide, by decide⟩
    unfold rwF
    rw [show adN τ g (E q) = adN σ g (E q) by unfold adN; rw [kf g (E q) ga.2.2.2.1 ga.2.2.2.2.1 ga.2.2.2.2.2]]
    refine ch.r (fun w => ?_)
    obtain ⟨p, p0, p1, p2⟩ := ecl_ob hp w
    exact hI.ne (g := 5) (hp.2.1 q q0 q1).2.1 (hp.2.1 p p0 p1).2.1 (show OB T (E q) (cls g) by rw [ga.2.1]; exact hp.ob q0 q1) (hp.ob p0 p1) ga.1 (by decide) (Or.inl ga.2.2.1) p2
  obtain ⟨h1, h2, h3⟩ := h
  obtain ⟨W, w1, w3, w2⟩ := h3 hn
  unfold CDS
  rw [kf 6 _ (by decide) (by decide) (by decide), kf 7 _ (by decide) (by decide) (by decide), kf 8 _ (by decide) (by decide) (by decide), kf 9 _ (by decide) (by decide) (by decide), kf 10 _ (by decide) (by decide) (by decide), kw 11 (by decide), kw 12 (by decide), kw 13 (by decide), kw 14 (by decide), kw 15 (by decide)]
  exact ⟨h1, h2, W, w1, w3, fun k k0 k1 => by rw [cw k, w2 k k0 k1]⟩
theorem SPX.spe (h : SPX Sj E T σ a) : SPE T σ a E := fun q q0 q1 => ⟨(h.2.1 q q0 q1).1, (h.2.1 q q0 q1).2.2⟩
theorem SPX.eap (h : SPX Sj E T σ a) (hI : INJ Sj T σ) : EAP σ E := fun p q p0 p1 q0 q1 e => h.2.2 p q p0 p1 q0 q1 (hI.2 5 5 (E p) (E q) (by decide) (by decide) (h.2.1 p p0 p1).2.1 (h.2.1 q q0 q1).2.1 (h.ob p0 p1) (h.ob q0 q1) e).2
end FRTU
def TOM (Sj : Nat → Prop) (E : Int → Nat) (nm : Int → Int64 → Int) (z0 : MK) (T0 : CT) (σ0 : MS) (T : CT) (σ : MS) (a : Nat) (S : Int → Int) (v : Int) : Prop := INJ Sj T σ ∧ SPX Sj E T σ a ∧ FRT Sj T0 σ0 T σ ∧ (v = 1 → ∃ (i : Nat) (es : List EW) (N : Int) (mz : MK) (Pf : Int → List EW) (f : Int → Int), (TR9 S i N es ∧ ckd (tkS S i) = 264 ∧ SB S) ∧ ((es.foldl uC c00).fp.1 = 0 ∧ 0 ≤ (es.foldl uC c00).rn ∧ (es.foldl uC c00).rn ≤ 6 ∧ σ.2.1 38 a = (es.foldl uC c00).rn) ∧ PFX es Pf ∧ ((∀ q, 0 ≤ q → q < (es.foldl uC c00).rn → NMA nm q ((Pf q).foldl uC c00)) → TXW S nm rnQ tb1 z0 i N mz) ∧ RFC (es.foldl uC c00) f ∧ ∀ q, 0 ≤ q → q < (es.foldl uC c00).rn → (mz.dn q).1 ≤ 120 ∧ CDS σ (E q) q (mz.dn q).1 (mz.dn q).2 (mz.fr q) ((Pf q).foldl uC c00).nn ((es.foldl uC c00).rp q) f)
def TLZ (Sj : Nat → Prop) (E : Int → Nat) (nm : Int → Int64 → Int) (z0 : MK) (T0 : CT) (σ0 : MS) (T : CT) (σ : MS) (a : Nat) (S : Int → Int) (n : Nat) : Prop := (INJ Sj T σ ∧ SPX Sj E T σ a ∧ FRT Sj T0 σ0 T σ) ∧ ∃ (i : Nat) (es : List EW) (N : Int) (mz : MK) (Pf : Int → List EW), TR9 S i N es ∧ RD0 σ a S n i (es.foldl uC c00) ∧ ckd (tkS S i) = 264 ∧ TLC Sj E nm z0 T σ a S i es N mz Pf
end
section
set_option maxHeartbeats 1000000 in
set_option maxRecDepth 20000 in
theorem k_X9_keep_fw (d : Nat) {T : CT} {σ : MS} {a : Nat} {n : Int} (ha : OB T a 9) (h_n : -2147483648 ≤ n ∧ n ≤ 2147483647) (hw : WT T σ) (hk : n = 1200 → σ.2.1 85 a = 0 ∨ σ.2.1 85 a = 263 ∨ σ.2.1 85 a = 264) (hn : 0 ≤ n ∧ n ≤ 1200) : Tn (d + 2) m_X9_keep 0 T σ [(0, .ref a), (1, .int (iI n))] [] (fun ro T2 σ2 => ro = none ∧ T = T2 ∧ WT T2 σ2 ∧ FrC T [512, 522, 523] σ σ2 ∧ (KPQ σ σ2 a n (σ.2.1 85 a) (σ.2.1 86 a) (σ.2.1 87 a)) ∧ (TRT T σ σ2)) := by
  refine tn_aload_n dX9_keep_0 rfl 0 rfl ?_
  obtain ⟨xq1, hx2, hk3, hl4⟩ : ∃ x : Nat, σ.2.1 81 a = (x : Int) ∧ AR T x 12 1201 1201 := wf_81 hw ha
  have hk3i : IA T xq1 := by unfold IA; omega
  refine tn_getR (ci := 9) (i := 0) (n := 81) (x := xq1) dX9_keep_1 rfl lay_9 (by decide) fl9_9 ha rfl rfl (hx2) ?_
  refine tn_iload_n dX9_keep_4 rfl 1 rfl ?_
  refine tn_aload_n dX9_keep_5 rfl 0 rfl ?_
  refine tn_getI (ci := 9) (i := 4) (n := 85) (t := σ.2.1 85 a) dX9_keep_6 rfl lay_9 (by decide) fl9_30 ha rfl rfl (rfl) ?_
  have g5 : ((-2147483648 : Int) ≤ σ.2.1 85 a ∧ σ.2.1 85 a ≤ 2147483647) := wf_85 hw ha
  refine tn_callSN (M := m_X9_keep) (pc := 9) (ix := 51) (M' := m_X11_put) (As := [.ref xq1, .int (iI n), .int (iI (σ.2.1 85 a))]) (rest := []) dX9_keep_9 ok_X11_put stt_X11_put nl9_51 np_X11_put rfl (Nat.le_of_ble_eq_true rfl) (Nat.le_of_ble_eq_true rfl) rfl (k_X11_put_12 (d) (T := T) (σ := σ) (x := xq1) (i := n) (y := σ.2.1 85 a) hk3i (by omega) hk3 (by omega) (by omega) hw (by rw [hk3]; exact vok_12 (by omega) hk)) (fun r6 T8 σ7 gt9 hp => ?_)
  obtain ⟨rfl, rfl, w12, F13, f10⟩ := hp
  clear gt9
  show Tn _ _ 12 T σ7 [(0, .ref a), (1, .int (iI n))] [] _
  refine tn_aload_n dX9_keep_12 rfl 0 rfl ?_
  obtain ⟨xq14, hx15, hk16, hl17⟩ : ∃ x : Nat, σ.2.1 82 a = (x : Int) ∧ AR T x 22 1201 1201 := wf_82 hw ha
  have hk16i : IA T xq14 := by unfold IA; omega
  refine tn_getR (ci := 9) (i := 1) (n := 82) (x := xq14) dX9_keep_13 rfl lay_9 (by decide) fl9_15 ha rfl rfl (rc_F F13 (Or.inl (by decide)) (by decide) (hx15)) ?_
  refine tn_iload_n dX9_keep_16 rfl 1 rfl ?_
  refine tn_aload_n dX9_keep_17 rfl 0 rfl ?_
  refine tn_getI (ci := 9) (i := 5) (n := 86) (t := σ.2.1 86 a) dX9_keep_18 rfl lay_9 (by decide) fl9_55 ha rfl rfl (rc_F F13 (Or.inl (by decide)) (by decide) (rfl)) ?_
  have g18 : ((-2147483648 : Int) ≤ σ.2.1 86 a ∧ σ.2.1 86 a ≤ 2147483647) := wf_86 hw ha
  refine tn_callSN (M := m_X9_keep) (pc := 21) (ix := 51) (M' := m_X11_put) (As := [.ref xq14, .int (iI n), .int (iI (σ.2.1 86 a))]) (rest := []) dX9_keep_21 ok_X11_put stt_X11_put nl9_51 np_X11_put rfl (Nat.le_of_ble_eq_true rfl) (Nat.le_of_ble_eq_true rfl) rfl (k_X11_put_22 (d) (T := T) (σ := σ7) (x := xq14) (i := n) (y := σ.2.1 86 a) hk16i (by omega) hk16 (by omega) (by omega) w12 ) (fun r19 T21 σ20 gt22 hp => ?_)
  obtain ⟨rfl, rfl, w25, F26, f23⟩ := hp
  clear gt22
  show Tn _ _ 24 T σ20 [(0, .ref a), (1, .int (iI n))] [] _
  refine tn_aload_n dX9_keep_24 rfl 0 rfl ?_
  obtain ⟨xq27, hx28, hk29, hl30⟩ : ∃ x : Nat, σ.2.1 83 a = (x : Int) ∧ AR T x 23 1201 1201 := wf_83 hw ha
  have hk29i : IA T xq27 := by unfold IA; omega
  refine tn_getR (ci := 9) (i := 2) (n := 83) (x := xq27) dX9_keep_25 rfl lay_9 (by decide) fl9_18 ha rfl rfl (rc_F F26 (Or.inl (by decide)) (by decide) (rc_F F13 (Or.inl (by decide)) (by decide) (hx28))) ?_
  refine tn_iload_n dX9_keep_28 rfl 1 rfl ?_
  refine tn_aload_n dX9_keep_29 rfl 0 rfl ?_
  refine tn_getI (ci := 9) (i := 6) (n := 87) (t := σ.2.1 87 a) dX9_keep_30 rfl lay_9 (by decide) fl9_34 ha rfl rfl (rc_F F26 (Or.inl (by decide)) (by decide) (rc_F F13 (Or.inl (by decide)) (by decide) (rfl))) ?_
  have g31 : ((-2147483648 : Int) ≤ σ.2.1 87 a ∧ σ.2.1 87 a ≤ 2147483647) := wf_87 hw ha
  refine tn_callSN (M := m_X9_keep) (pc := 33) (ix := 51) (M' := m_X11_put) (As := [.ref xq27, .int (iI n), .int (iI (σ.2.1 87 a))]) (rest := []) dX9_keep_33 ok_X11_put stt_X11_put nl9_51 np_X11_put rfl (Nat.le_of_ble_eq_true rfl) (Nat.le_of_ble_eq_true rfl) rfl (k_X11_put_23 (d) (T := T) (σ := σ20) (x := xq27) (i := n) (y := σ.2.1 87 a) hk29i (by omega) hk29 (by omega) (by omega) w25 ) (fun r32 T34 σ33 gt35 hp => ?_)
  obtain ⟨rfl, rfl, w38, F39, f36⟩ := hp
  clear gt35
  show Tn _ _ 36 T σ33 [(0, .ref a), (1, .int (iI n))] [] _
  have w40n8182 : xq1 ≠ xq14 := fun e => by have q9 := hk3; rw [e] at q9; have w9 := hk16; omega
  have w40n8183 : xq1 ≠ xq27 := fun e => by have q9 := hk3; rw [e] at q9; have w9 := hk29; omega
  have w40n8283 : xq14 ≠ xq27 := fun e => by have q9 := hk16; rw [e] at q9; have w9 := hk29; omega
  have w4081 : ∀ k : Nat, σ.2.1 81 a = (k : Int) → ∀ i, σ33.2.1 (1000 + k) i = if i = n then σ.2.1 85 a else σ.2.1 (1000 + k) i := fun y hy i => by
      have e : y = xq1 := by omega
      rw [e, f36, if_pos ⟨by omega, by omega⟩, sA_k (by omega), f23, if_pos ⟨by omega, by omega⟩, sA_k (by omega), f10, if_pos ⟨by omega, by omega⟩, sA_at]
  have w4082 : ∀ k : Nat, σ.2.1 82 a = (k : Int) → ∀ i, σ33.2.1 (1000 + k) i = if i = n then σ.2.1 86 a else σ.2.1 (1000 + k) i := fun y hy i => by
      have e : y = xq14 := by omega
      rw [e, f36, if_pos ⟨by omega, by omega⟩, sA_k (by omega), f23, if_pos ⟨by omega, by omega⟩, sA_at, show σ7.2.1 (1000 + xq14) = σ.2.1 (1000 + xq14) by rw [f10, if_pos ⟨by omega, by omega⟩, sA_k (by omega)]]
  have w4083 : ∀ k : Nat, σ.2.1 83 a = (k : Int) → ∀ i, σ33.2.1 (1000 + k) i = if i = n then σ.2.1 87 a else σ.2.1 (1000 + k) i := fun y hy i => by
      have e : y = xq27 := by omega
      rw [e, f36, if_pos ⟨by omega, by omega⟩, sA_at, show σ20.2.1 (1000 + xq27) = σ.2.1 (1000 + xq27) by rw [f23, if_pos ⟨by omega, by omega⟩, sA_k (by omega), f10, if_pos ⟨by omega, by omega⟩, sA_k (by omega)]]
  exact tn_vret rfl dX9_keep_36 ⟨rfl, rfl, w38, (((FrC.rfl.trans (FrC.sub F13 (by decide))).trans (FrC.sub F26 (by decide))).trans (FrC.sub F39 (by decide))), ⟨w4081, w4082, w4083⟩, (TRT.pq (TRT.pq (TRT.pq TRT.rfl f10 hk3 (by decide)) f23 hk16 (by decide)) f36 hk29 (by decide))⟩
end
section
set_option maxHeartbeats 1000000 in
set_option maxRecDepth 20000 in
theorem l_X9_scanOne_fw_8 (d : Nat) {T : CT} {σ0 : MS} {a : Nat} {rx1 : Nat} {c2 : Int} {c3 : Int} {fT : Int → Int} {Sx : Int → Int} {post : Option Value → CT → MS → Prop} (h_a : OB T a 9) (h_rx1 : (T rx1).1 = 2) (l_rx1 : (T rx1).2 ≤ 1000000) (r_c2 : 0 ≤ c2 ∧ c2 ≤ 1200) (r_c3 : 0 ≤ c3 ∧ c3 ≤ 1200) (hw0 : WT T σ0) (ht : (T rx1).2 = 1200) (hB : BYT fT) (hSx : Sx = svC fT c2) (hx_56 : ∀ (i4 : Int) (σ : MS) , (WT T σ) → (FrC T [86] σ0 σ) → (0 ≤ i4 ∧ i4 ≤ 1200) → (c3 ≤ i4 ∧ i4 ≤ c2) → (LTN Sx c3 i4) → (NUM9 Sx c3 i4 (σ.2.1 86 a)) → (RWE σ rx1 fT c2) → (TRT T σ0 σ) → (¬ (97 ≤ Sx i4 ∧ Sx i4 ≤ 122)) → Tn (d + 2) m_X9_scanOne 56 T σ [(0, .ref a), (1, .ref rx1), (2, .int (iI c2)), (3, .int (iI c3)), (4, .int (iI i4))] [] post) : ∀ (n : Nat) (i4 : Int) (σ : MS) , (WT T σ) → (FrC T [86] σ0 σ) → (0 ≤ i4 ∧ i4 ≤ 1200) → (c3 ≤ i4 ∧ i4 ≤ c2) → (LTN Sx c3 i4) → (NUM9 Sx c3 i4 (σ.2.1 86 a)) → (RWE σ rx1 fT c2) → (TRT T σ0 σ) → (2147483700 - i4).toNat = n → Tn (d + 2) m_X9_scanOne 8 T σ [(0, .ref a), (1, .ref rx1), (2, .int (iI c2)), (3, .int (iI c3)), (4, .int (iI i4))] [] post := by
  intro n
  induction n using Nat.strongRecOn with
  | _ n ih =>
    intro i4 σ hw hF r_i4 h0 hlt hnu hrow htr hm
    refine tn_iload dX9_scanOne_8 4 rfl ?_
    refine tn_iload_n dX9_scanOne_10 rfl 2 rfl ?_
    refine tn_icmp_ge (tgt := 56) dX9_scanOne_11 (by decide) ⟨by omega, by omega⟩ ⟨by omega, by omega⟩ (fun h1 => ?_) (fun h1 => ?_)
    · exact tn_sub [0, 1, 2, 3, 4] rfl (hx_56 (i4) σ hw (FrC.rfl.trans (FrC.sub hF (by decide))) (by omega) (by omega) hlt hnu hrow htr (not_let hSx hB (by omega)))
    · refine tn_aload_n dX9_scanOne_14 rfl 1 rfl ?_
      refine tn_iload dX9_scanOne_15 4 rfl ?_
      have g2 := hB (i4)
      refine tn_bald (z := i4) (v := fT (i4)) dX9_scanOne_17 h_rx1 (by omega) (by omega) (by omega) (hrow (i4) (by omega) (by omega)) ?_
      refine tn_bipush dX9_scanOne_18 (by decide) ?_
      refine tn_icmp_lt (tgt := 56) dX9_scanOne_20 (by decide) ⟨by omega, by omega⟩ ⟨by decide, by decide⟩ (fun h3 => ?_) (fun h3 => ?_)
      · exact tn_sub [0, 1, 2, 3, 4] rfl (hx_56 (i4) σ hw (FrC.rfl.trans (FrC.sub hF (by decide))) (by omega) (by omega) hlt hnu hrow htr (not_let hSx hB (by omega)))
      · refine tn_aload_n dX9_scanOne_23 rfl 1 rfl ?_
        refine tn_iload dX9_scanOne_24 4 rfl ?_
        have g4 := hB (i4)
        refine tn_bald (z := i4) (v := fT (i4)) dX9_scanOne_26 h_rx1 (by omega) (by omega) (by omega) (hrow (i4) (by omega) (by omega)) ?_
        refine tn_bipush dX9_scanOne_27 (by decide) ?_
        refine tn_icmp_gt (tgt := 56) dX9_scanOne_29 (by decide) ⟨by omega, by omega⟩ ⟨by decide, by decide⟩ (fun h5 => ?_) (fun h5 => ?_)
        · exact tn_sub [0, 1, 2, 3, 4] rfl (hx_56 (i4) σ hw (FrC.rfl.trans (FrC.sub hF (by decide))) (by omega) (by omega) hlt hnu hrow htr (not_let hSx hB (by omega)))
        · refine tn_aload_n dX9_scanOne_32 rfl 0 rfl ?_
          refine tn_aload_n dX9_scanOne_33 rfl 0 rfl ?_
          refine tn_getI (ci := 9) (i := 5) (n := 86) (t := σ.2.1 86 a) dX9_scanOne_34 rfl lay_9 (by decide) fl9_55 h_a rfl rfl (rfl) ?_
          have g6 : ((-2147483648 : Int) ≤ σ.2.1 86 a ∧ σ.2.1 86 a ≤ 2147483647) := wf_86 hw h_a
          refine tn_iconst dX9_scanOne_37 ?_
          refine tn_ishl dX9_scanOne_38 ?_
          refine tn_aload_n dX9_scanOne_39 rfl 1 rfl ?_
          refine tn_iload dX9_scanOne_40 4 rfl ?_
          have g7 := hB (i4)
          refine tn_bald (z := i4) (v := fT (i4)) dX9_scanOne_42 h_rx1 (by omega) (by omega) (by omega) (hrow (i4) (by omega) (by omega)) ?_
          refine tn_bipush dX9_scanOne_43 (by decide) ?_
          refine tn_isub dX9_scanOne_45 ?_
          refine tn_ior dX9_scanOne_46 ?_
          rw [← sh5_i]
          have g8 := sh5_r (σ.2.1 86 a) ((fT (i4)) - 96)
          refine tn_putV (ci := 9) (i := 5) (n := 86) (r := false) (v := sh5 (σ.2.1 86 a) ((fT (i4)) - 96)) tyX9 tyX9_ok nmX9 dX9_scanOne_47 rfl lay_9 (by decide) fl9_55 rfl (tyX9_ok 5 (by decide)) rfl rfl rfl h_a rfl rfl ?_
          refine tn_iinc (q0 := 4) (L' := [(4, .int (iI (i4 + 1))), (0, .ref a), (1, .ref rx1), (2, .int (iI c2)), (3, .int (iI c3))]) dX9_scanOne_50 rfl (by decide) rfl ?_
          refine tn_goto (tgt := 8) dX9_scanOne_53 (by decide) ?_
          have q9 : 97 ≤ Sx i4 ∧ Sx i4 ≤ 122 := by rw [hSx]; exact (svC_eq hB (by omega) (by decide) (by decide)).mpr ⟨by omega, by omega⟩
          have q9e : Sx i4 = fT (i4) := is_byte hSx (by omega) (by omega)
          have q10 : (sA 86 a (sh5 (σ.2.1 86 a) ((fT (i4)) - 96)) σ).2.1 86 a = sh5 (σ.2.1 86 a) ((fT (i4)) - 96) := ra_eq
          exact tn_sub [1, 2, 3, 4, 0] rfl (ih _ (by omega) (i4 + 1) (sA 86 a (sh5 (σ.2.1 86 a) ((fT (i4)) - 96)) σ) (hw.put (by decide) (by decide) (fo_86 (by omega))) ((FrC.rfl.trans (FrC.sub hF (by decide))).put (by decide) (by decide)) (by omega) (by omega) (hlt.up (by omega) q9) (by rw [q10]; have w9 := NUM9.up hnu hlt (by omega) q9; rw [q9e] at w9; exact w9) (RWE.cg hrow (sA_k (by omega))) (TRT.pt htr (by decide)) rfl)
set_option maxHeartbeats 1000000 in
set_option maxRecDepth 20000 in
theorem l_X9_scanOne_fw_88 (d : Nat) {T : CT} {σ0 : MS} {a : Nat} {rx1 : Nat} {c2 : Int} {c3 : Int} {fT : Int → Int} {Sx : Int → Int} {post : Option Value → CT → MS → Prop} (h_a : OB T a 9) (h_rx1 : (T rx1).1 = 2) (l_rx1 : (T rx1).2 ≤ 1000000) (r_c2 : 0 ≤ c2 ∧ c2 ≤ 1200) (r_c3 : 0 ≤ c3 ∧ c3 ≤ 1200) (hw0 : WT T σ0) (ht : (T rx1).2 = 1200) (hB : BYT fT) (hSx : Sx = svC fT c2) (hx_137 : ∀ (i4 : Int) (σ : MS) , (WT T σ) → (FrC T [86] σ0 σ) → (0 ≤ i4 ∧ i4 ≤ 1200) → (c3 ≤ i4 ∧ i4 ≤ c2) → (DGN Sx c3 i4) → (DVQ Sx c3 i4 (σ.2.1 86 a)) → (RWE σ rx1 fT c2) → (TRT T σ0 σ) → (¬ (48 ≤ Sx i4 ∧ Sx i4 ≤ 57)) → Tn (d + 2) m_X9_scanOne 137 T σ [(0, .ref a), (1, .ref rx1), (2, .int (iI c2)), (3, .int (iI c3)), (4, .int (iI i4))] [] post) : ∀ (n : Nat) (i4 : Int) (σ : MS) , (WT T σ) → (FrC T [86] σ0 σ) → (0 ≤ i4 ∧ i4 ≤ 1200) → (c3 ≤ i4 ∧ i4 ≤ c2) → (DGN Sx c3 i4) → (DVQ Sx c3 i4 (σ.2.1 86 a)) → (RWE σ rx1 fT c2) → (TRT T σ0 σ) → (2147483700 - i4).toNat = n → Tn (d + 2) m_X9_scanOne 88 T σ [(0, .ref a), (1, .ref rx1), (2, .int (iI c2)), (3, .int (iI c3)), (4, .int (iI i4))] [] post := by
  intro n
  induction n using Nat.strongRecOn with
  | _ n ih =>
    intro i4 σ hw hF r_i4 h0 hdg hdv hrow htr hm
    refine tn_iload dX9_scanOne_88 4 rfl ?_
    refine tn_iload_n dX9_scanOne_90 rfl 2 rfl ?_
    refine tn_icmp_ge (tgt := 137) dX9_scanOne_91 (by decide) ⟨by omega, by omega⟩ ⟨by omega, by omega⟩ (fun h1 => ?_) (fun h1 => ?_)
    · exact tn_sub [0, 1, 2, 3, 4] rfl (hx_137 (i4) σ hw (FrC.rfl.trans (FrC.sub hF (by decide))) (by omega) (by omega) hdg hdv hrow htr (not_dig hSx hB (by omega)))
    · refine tn_aload_n dX9_scanOne_94 rfl 1 rfl ?_
      refine tn_iload dX9_scanOne_95 4 rfl ?_
      have g2 := hB (i4)
      refine tn_bald (z := i4) (v := fT (i4)) dX9_scanOne_97 h_rx1 (by omega) (by omega) (by omega) (hrow (i4) (by omega) (by omega)) ?_
      refine tn_bipush dX9_scanOne_98 (by decide) ?_
      refine tn_icmp_lt (tgt := 137) dX9_scanOne_100 (by decide) ⟨by omega, by omega⟩ ⟨by decide, by decide⟩ (fun h3 => ?_) (fun h3 => ?_)
      · exact tn_sub [0, 1, 2, 3, 4] rfl (hx_137 (i4) σ hw (FrC.rfl.trans (FrC.sub hF (by decide))) (by omega) (by omega) hdg hdv hrow htr (not_dig hSx hB (by omega)))
      · refine tn_aload_n dX9_scanOne_103 rfl 1 rfl ?_
        refine tn_iload dX9_scanOne_104 4 rfl ?_
        have g4 := hB (i4)
        refine tn_bald (z := i4) (v := fT (i4)) dX9_scanOne_106 h_rx1 (by omega) (by omega) (by omega) (hrow (i4) (by omega) (by omega)) ?_
        refine tn_bipush dX9_scanOne_107 (by decide) ?_
        refine tn_icmp_gt (tgt := 137) dX9_scanOne_109 (by decide) ⟨by omega, by omega⟩ ⟨by decide, by decide⟩ (fun h5 => ?_) (fun h5 => ?_)
        · exact tn_sub [0, 1, 2, 3, 4] rfl (hx_137 (i4) σ hw (FrC.rfl.trans (FrC.sub hF (by decide))) (by omega) (by omega) hdg hdv hrow htr (not_dig hSx hB (by omega)))
        · refine tn_aload_n dX9_scanOne_112 rfl 0 rfl ?_
          refine tn_aload_n dX9_scanOne_113 rfl 0 rfl ?_
          refine tn_getI (ci := 9) (i := 5) (n := 86) (t := σ.2.1 86 a) dX9_scanOne_114 rfl lay_9 (by decide) fl9_55 h_a rfl rfl (rfl) ?_
          have g6 : ((-2147483648 : Int) ≤ σ.2.1 86 a ∧ σ.2.1 86 a ≤ 2147483647) := wf_86 hw h_a
          refine tn_bipush dX9_scanOne_117 (by decide) ?_
          refine tn_imul dX9_scanOne_119 ?_
          rw [show iI ((σ.2.1 86 a) * 10) = iI (iw ((σ.2.1 86 a) * 10)) from (iI_self _).symm]
          have g7r : -2147483648 ≤ iw ((σ.2.1 86 a) * 10) ∧ iw ((σ.2.1 86 a) * 10) ≤ 2147483647 := inR_toInt _
          refine tn_aload_n dX9_scanOne_120 rfl 1 rfl ?_
          refine tn_iload dX9_scanOne_121 4 rfl ?_
          have g8 := hB (i4)
          refine tn_bald (z := i4) (v := fT (i4)) dX9_scanOne_123 h_rx1 (by omega) (by omega) (by omega) (hrow (i4) (by omega) (by omega)) ?_
          refine tn_bipush dX9_scanOne_124 (by decide) ?_
          refine tn_isub dX9_scanOne_126 ?_
          refine tn_iadd dX9_scanOne_127 ?_
          rw [show iI ((iw ((σ.2.1 86 a) * 10)) + ((fT (i4)) - 48)) = iI (iw ((iw ((σ.2.1 86 a) * 10)) + ((fT (i4)) - 48))) from (iI_self _).symm]
          have g9r : -2147483648 ≤ iw ((iw ((σ.2.1 86 a) * 10)) + ((fT (i4)) - 48)) ∧ iw ((iw ((σ.2.1 86 a) * 10)) + ((fT (i4)) - 48)) ≤ 2147483647 := inR_toInt _
          refine tn_putV (ci := 9) (i := 5) (n := 86) (r := false) (v := iw ((iw ((σ.2.1 86 a) * 10)) + ((fT (i4)) - 48))) tyX9 tyX9_ok nmX9 dX9_scanOne_128 rfl lay_9 (by decide) fl9_55 rfl (tyX9_ok 5 (by decide)) rfl rfl rfl h_a rfl rfl ?_
          refine tn_iinc (q0 := 4) (L' := [(4, .int (iI (i4 + 1))), (0, .ref a), (1, .ref rx1), (2, .int (iI c2)), (3, .int (iI c3))]) dX9_scanOne_131 rfl (by decide) rfl ?_
          refine tn_goto (tgt := 88) dX9_scanOne_134 (by decide) ?_
          have q10 : 48 ≤ Sx i4 ∧ Sx i4 ≤ 57 := by rw [hSx]; exact (svC_eq hB (by omega) (by decide) (by decide)).mpr ⟨by omega, by omega⟩
          have q10e : Sx i4 = fT (i4) := is_byte hSx (by omega) (by omega)
          have q11 : (sA 86 a (iw ((iw ((σ.2.1 86 a) * 10)) + ((fT (i4)) - 48))) σ).2.1 86 a = iw ((iw ((σ.2.1 86 a) * 10)) + ((fT (i4)) - 48)) := ra_eq
          exact tn_sub [1, 2, 3, 4, 0] rfl (ih _ (by omega) (i4 + 1) (sA 86 a (iw ((iw ((σ.2.1 86 a) * 10)) + ((fT (i4)) - 48))) σ) (hw.put (by decide) (by decide) (fo_86 (by omega))) ((FrC.rfl.trans (FrC.sub hF (by decide))).put (by decide) (by decide)) (by omega) (by omega) (hdg.up (by omega) q10) (by rw [q11]; have w9 := DVQ.up hdv (by omega) (by omega) q10; rw [q10e] at w9; exact w9) (RWE.cg hrow (sA_k (by omega))) (TRT.pt htr (by decide)) rfl)
set_option maxHeartbeats 1000000 in
set_option maxRecDepth 20000 in
theorem k_X9_scanOne_fw (d : Nat) {T : CT} {σ : MS} {a : Nat} {t : Nat} {l : Int} {i : Int} {fT Sx : Int → Int} (ha : OB T a 9) (h_t : (T t).1 = 2) (l_t : (T t).2 ≤ 1000000) (h_l : -2147483648 ≤ l ∧ l ≤ 2147483647) (h_i : -2147483648 ≤ i ∧ i ≤ 2147483647) (hw : WT T σ) (hi : 0 ≤ i ∧ i < l ∧ l ≤ 1200) (ht : (T t).2 = 1200) (hfT : RWE σ t fT l) (hB : BYT fT) (hSx : Sx = svC fT l) : Tn (d + 2) m_X9_scanOne 0 T σ [(0, .ref a), (1, .ref t), (2, .int (iI l)), (3, .int (iI i))] [] (fun ro T2 σ2 => ∃ v : Int, ro = some (.int (iI v)) ∧ T = T2 ∧ WT T2 σ2 ∧ FrC T [85, 86] σ σ2 ∧ (-2147483648 ≤ v ∧ v ≤ 2147483647) ∧ (i < v ∧ v ≤ l) ∧ (SOQ Sx i v (σ2.2.1 85 a) (σ2.2.1 86 a)) ∧ (TRT T σ σ2)) := by
  have hrow := hfT
  refine tn_iload_n dX9_scanOne_0 rfl 3 rfl ?_
  refine tn_istore (L' := [(4, .int (iI i)), (0, .ref a), (1, .ref t), (2, .int (iI l)), (3, .int (iI i))]) dX9_scanOne_1 (by decide) rfl ?_
  refine tn_aload_n dX9_scanOne_3 rfl 1 rfl ?_
  refine tn_iconst dX9_scanOne_4 ?_
  refine tn_putV (ci := 9) (i := 5) (n := 86) (r := false) (v := 0) tyX9 tyX9_ok nmX9 dX9_scanOne_5 rfl lay_9 (by decide) fl9_55 rfl (tyX9_ok 5 (by decide)) rfl rfl rfl ha rfl rfl ?_
  have q1 : (sA 86 a (0) σ).2.1 86 a = 0 := ra_eq
  refine tn_sub [1, 2, 3, 4, 0] rfl (l_X9_scanOne_fw_8 (d) (T := T) (σ0 := (sA 86 a (0) σ)) (a := a) (rx1 := t) (c2 := l) (c3 := i) (fT := fT) (Sx := Sx) ha h_t (by omega) (by omega) (by omega) (hw.put (by decide) (by decide) (fo_86 (by omega))) ht hB hSx (fun i42 σ3 w6 F7 r8 f9 f10 f11 f12 f13 f14 => ?_) _ (i) (sA 86 a (0) σ) (hw.put (by decide) (by decide) (fo_86 (by omega))) FrC.rfl (by omega) (by omega) (fun j hj => absurd hj (by omega)) (fun _ => by rw [q1, show (i - i).toNat = 0 by omega]; rfl) (RWE.cg hrow (sA_k (by omega))) TRT.rfl rfl)
  show Tn _ _ 56 T σ3 [(0, .ref a), (1, .ref t), (2, .int (iI l)), (3, .int (iI i)), (4, .int (iI i42))] [] _
  refine tn_iload dX9_scanOne_56 4 rfl ?_
  refine tn_iload_n dX9_scanOne_58 rfl 3 rfl ?_
  refine tn_icmp_le (tgt := 88) dX9_scanOne_59 (by decide) ⟨by omega, by omega⟩ ⟨by omega, by omega⟩ (fun h15 => ?_) (fun h15 => ?_)
  · have w160 : i42 = i := by omega
    have w16 : σ3.2.1 86 a = 0 := by have w9 := f11 (by omega); rw [show (i42 - i).toNat = 0 by omega] at w9; exact w9
    refine tn_sub [0, 1, 2, 3, 4] rfl (l_X9_scanOne_fw_88 (d) (T := T) (σ0 := σ3) (a := a) (rx1 := t) (c2 := l) (c3 := i) (fT := fT) (Sx := Sx) ha h_t (by omega) (by omega) (by omega) w6 ht hB hSx (fun i417 σ18 w21 F22 r23 f24 f25 f26 f27 f28 f29 => ?_) _ (i42) σ3 w6 FrC.rfl (by omega) (by omega) (fun j hj => absurd hj (by omega)) (by rw [w160]; exact DVQ.nl w16) (RWE.cg (RWE.cg hrow (sA_k (by omega))) (F7.2 t (by rw [h_t]; unfold HT; omega) (by rw [h_t]; decide))) TRT.rfl rfl)
    show Tn _ _ 137 T σ18 [(0, .ref a), (1, .ref t), (2, .int (iI l)), (3, .int (iI i)), (4, .int (iI i417))] [] _
    refine tn_iload dX9_scanOne_137 4 rfl ?_
    refine tn_iload_n dX9_scanOne_139 rfl 3 rfl ?_
    refine tn_icmp_le (tgt := 168) dX9_scanOne_140 (by decide) ⟨by omega, by omega⟩ ⟨by omega, by omega⟩ (fun h30 => ?_) (fun h30 => ?_)
    · refine tn_aload_n dX9_scanOne_168 rfl 0 rfl ?_
      refine tn_aload_n dX9_scanOne_169 rfl 1 rfl ?_
      refine tn_iload_n dX9_scanOne_170 rfl 3 rfl ?_
      have g31 := hB (i)
      refine tn_bald (z := i) (v := fT (i)) dX9_scanOne_171 h_t (by omega) (by omega) (by omega) ((RWE.cg (RWE.cg (RWE.cg hrow (sA_k (by omega))) (F7.2 t (by rw [h_t]; unfold HT; omega) (by rw [h_t]; decide))) (F22.2 t (by rw [h_t]; unfold HT; omega) (by rw [h_t]; decide))) (i) (by omega) (by omega)) ?_
      refine tn_callS (M := m_X9_scanOne) (pc := 172) (ix := 62) (M' := m_X9_isSign) (As := [.int (iI (fT (i)))]) (rest := [.ref a]) dX9_scanOne_172 ok_X9_isSign stt_X9_isSign ml9_62 np_X9_isSign rfl (Nat.le_of_ble_eq_true rfl) (Nat.le_of_ble_eq_true rfl) rfl (k_X9_isSign_f (d) (T := T) (σ := σ18) (o := fT (i)) (by omega) w21 ) (fun r32 T34 σ33 gt35 hp => ?_)
      obtain ⟨v38, rfl, rfl, rfl, f36, f37⟩ := hp
      clear gt35
      show Tn _ _ 175 T σ18 [(0, .ref a), (1, .ref t), (2, .int (iI l)), (3, .int (iI i)), (4, .int (iI i417))] [.int (iI v38), .ref a] _
      refine tn_if_eq (tgt := 184) dX9_scanOne_175 (by decide) ⟨by omega, by omega⟩ (fun h39 => ?_) (fun h39 => ?_)
      · refine tn_sipush dX9_scanOne_184 (by decide) ?_
        refine tn_putV (ci := 9) (i := 4) (n := 85) (r := false) (v := 263) tyX9 tyX9_ok nmX9 dX9_scanOne_187 rfl lay_9 (by decide) fl9_30 rfl (tyX9_ok 4 (by decide)) rfl rfl rfl ha rfl rfl ?_
        refine tn_iload_n dX9_scanOne_190 rfl 3 rfl ?_
        refine tn_iconst dX9_scanOne_191 ?_
        refine tn_iadd dX9_scanOne_192 ?_
        have q40 : (sA 85 a (263) σ18).2.1 85 a = 263 := ra_eq
        have q41 : (sA 85 a (263) σ18).2.1 86 a = σ18.2.1 86 a := rc_o (by decide) (rfl)
        have w42a : ¬ (97 ≤ svC fT l i ∧ svC fT l i ≤ 122) := by rw [← hSx, show i = i42 by omega]; exact f14
        have w42b : ¬ (48 ≤ svC fT l i ∧ svC fT l i ≤ 57) := by rw [← hSx, show i = i417 by omega]; exact f29
        have w42 := (so_sg2 (x := σ18.2.1 86 a) hB (by omega) w42a w42b f37).2 (by omega)
        exact tn_iret rfl dX9_scanOne_193 ⟨_, rfl, rfl, (w21.put (by decide) (by decide) (fo_85 (by omega))), ((((FrC.rfl.put (by decide) (by decide)).trans (FrC.sub F7 (by decide))).trans (FrC.sub F22 (by decide))).put (by decide) (by decide)), by omega, by omega, by rw [q40, q41, hSx]; exact w42, (TRT.pt (TRT.trans (TRT.trans (TRT.pt TRT.rfl (by decide)) f13) f28) (by decide))⟩
      · refine tn_aload_n dX9_scanOne_178 rfl 1 rfl ?_
        refine tn_iload_n dX9_scanOne_179 rfl 3 rfl ?_
        have g43 := hB (i)
        refine tn_bald (z := i) (v := fT (i)) dX9_scanOne_180 h_t (by omega) (by omega) (by omega) ((RWE.cg (RWE.cg (RWE.cg hrow (sA_k (by omega))) (F7.2 t (by rw [h_t]; unfold HT; omega) (by rw [h_t]; decide))) (F22.2 t (by rw [h_t]; unfold HT; omega) (by rw [h_t]; decide))) (i) (by omega) (by omega)) ?_
        refine tn_goto (tgt := 187) dX9_scanOne_181 (by decide) ?_
        refine tn_putV (ci := 9) (i := 4) (n := 85) (r := false) (v := fT (i)) tyX9 tyX9_ok nmX9 dX9_scanOne_187 rfl lay_9 (by decide) fl9_30 rfl (tyX9_ok 4 (by decide)) rfl rfl rfl ha rfl rfl ?_
        refine tn_iload_n dX9_scanOne_190 rfl 3 rfl ?_
        refine tn_iconst dX9_scanOne_191 ?_
        refine tn_iadd dX9_scanOne_192 ?_
        have q44 : (sA 85 a (fT (i)) σ18).2.1 85 a = fT (i) := ra_eq
        have q45 : (sA 85 a (fT (i)) σ18).2.1 86 a = σ18.2.1 86 a := rc_o (by decide) (rfl)
        have w46a : ¬ (97 ≤ svC fT l i ∧ svC fT l i ≤ 122) := by rw [← hSx, show i = i42 by omega]; exact f14
        have w46b : ¬ (48 ≤ svC fT l i ∧ svC fT l i ≤ 57) := by rw [← hSx, show i = i417 by omega]; exact f29
        have w46 := (so_sg2 (x := σ18.2.1 86 a) hB (by omega) w46a w46b f37).1 (by omega)
        exact tn_iret rfl dX9_scanOne_193 ⟨_, rfl, rfl, (w21.put (by decide) (by decide) (fo_85 (by omega))), ((((FrC.rfl.put (by decide) (by decide)).trans (FrC.sub F7 (by decide))).trans (FrC.sub F22 (by decide))).put (by decide) (by decide)), by omega, by omega, by rw [q44, q45, hSx]; exact w46, (TRT.pt (TRT.trans (TRT.trans (TRT.pt TRT.rfl (by decide)) f13) f28) (by decide))⟩
    · refine tn_aload_n dX9_scanOne_143 rfl 0 rfl ?_
      refine tn_iload dX9_scanOne_144 4 rfl ?_
      refine tn_iload_n dX9_scanOne_146 rfl 3 rfl ?_
      refine tn_isub dX9_scanOne_147 ?_
      refine tn_bipush dX9_scanOne_148 (by decide) ?_
      refine tn_icmp_le (tgt := 159) dX9_scanOne_150 (by decide) ⟨by omega, by omega⟩ ⟨by decide, by decide⟩ (fun h47 => ?_) (fun h47 => ?_)
      · refine tn_sipush dX9_scanOne_159 (by decide) ?_
        refine tn_putV (ci := 9) (i := 4) (n := 85) (r := false) (v := 257) tyX9 tyX9_ok nmX9 dX9_scanOne_162 rfl lay_9 (by decide) fl9_30 rfl (tyX9_ok 4 (by decide)) rfl rfl rfl ha rfl rfl ?_
        refine tn_iload dX9_scanOne_165 4 rfl ?_
        have q48 : (sA 85 a (257) σ18).2.1 85 a = 257 := ra_eq
        have q49 : (sA 85 a (257) σ18).2.1 86 a = σ18.2.1 86 a := rc_o (by decide) (rfl)
        have w50 := (so_dig (x := σ18.2.1 86 a) (by omega) (by omega) f25 f26 f29).1 (by omega)
        exact tn_iret rfl dX9_scanOne_167 ⟨_, rfl, rfl, (w21.put (by decide) (by decide) (fo_85 (by omega))), ((((FrC.rfl.put (by decide) (by decide)).trans (FrC.sub F7 (by decide))).trans (FrC.sub F22 (by decide))).put (by decide) (by decide)), by omega, by omega, by rw [q48, q49]; exact w50, (TRT.pt (TRT.trans (TRT.trans (TRT.pt TRT.rfl (by decide)) f13) f28) (by decide))⟩
      · refine tn_sipush dX9_scanOne_153 (by decide) ?_
        refine tn_goto (tgt := 162) dX9_scanOne_156 (by decide) ?_
        refine tn_putV (ci := 9) (i := 4) (n := 85) (r := false) (v := 263) tyX9 tyX9_ok nmX9 dX9_scanOne_162 rfl lay_9 (by decide) fl9_30 rfl (tyX9_ok 4 (by decide)) rfl rfl rfl ha rfl rfl ?_
        refine tn_iload dX9_scanOne_165 4 rfl ?_
        have q51 : (sA 85 a (263) σ18).2.1 85 a = 263 := ra_eq
        have q52 : (sA 85 a (263) σ18).2.1 86 a = σ18.2.1 86 a := rc_o (by decide) (rfl)
        have w53 := (so_dig (x := σ18.2.1 86 a) (by omega) (by omega) f25 f26 f29).2 (by omega)
        exact tn_iret rfl dX9_scanOne_167 ⟨_, rfl, rfl, (w21.put (by decide) (by decide) (fo_85 (by omega))), ((((FrC.rfl.put (by decide) (by decide)).trans (FrC.sub F7 (by decide))).trans (FrC.sub F22 (by decide))).put (by decide) (by decide)), by omega, by omega, by rw [q51, q52]; exact w53, (TRT.pt (TRT.trans (TRT.trans (TRT.pt TRT.rfl (by decide)) f13) f28) (by decide))⟩
  · refine tn_aload_n dX9_scanOne_62 rfl 0 rfl ?_
    refine tn_iload dX9_scanOne_63 4 rfl ?_
    refine tn_iload_n dX9_scanOne_65 rfl 3 rfl ?_
    refine tn_isub dX9_scanOne_66 ?_
    refine tn_bipush dX9_scanOne_67 (by decide) ?_
    refine tn_icmp_le (tgt := 78) dX9_scanOne_69 (by decide) ⟨by omega, by omega⟩ ⟨by decide, by decide⟩ (fun h54 => ?_) (fun h54 => ?_)
    · refine tn_aload_n dX9_scanOne_78 rfl 0 rfl ?_
      refine tn_callV (M := m_X9_scanOne) (pc := 79) (ix := 58) (ci := 9) (M' := m_X9_wordKind) (As := []) (rest := [.ref a]) dX9_scanOne_79 ok_X9_wordKind im_X9_wordKind se_X9_wordKind ml9_58 np_X9_wordKind rfl rfl ha rfl (Nat.le_of_ble_eq_true rfl) (Nat.le_of_ble_eq_true rfl) rfl (k_X9_wordKind_f (d) (T := T) (σ := σ3) (a := a) ha w6 ) (fun r55 T57 σ56 gt58 hp => ?_)
      obtain ⟨v61, rfl, rfl, rfl, f59, f60⟩ := hp
      clear gt58
      show Tn _ _ 82 T σ3 [(0, .ref a), (1, .ref t), (2, .int (iI l)), (3, .int (iI i)), (4, .int (iI i42))] [.int (iI v61), .ref a] _
      refine tn_putV (ci := 9) (i := 4) (n := 85) (r := false) (v := v61) tyX9 tyX9_ok nmX9 dX9_scanOne_82 rfl lay_9 (by decide) fl9_30 rfl (tyX9_ok 4 (by decide)) rfl rfl rfl ha rfl rfl ?_
      refine tn_iload dX9_scanOne_85 4 rfl ?_
      have q62 : (sA 85 a (v61) σ3).2.1 85 a = v61 := ra_eq
      have q63 : (sA 85 a (v61) σ3).2.1 86 a = σ3.2.1 86 a := rc_o (by decide) (rfl)
      have w64 := (so_let (by omega) (by omega) f10 f11 f14).1 (by omega)
      exact tn_iret rfl dX9_scanOne_87 ⟨_, rfl, rfl, (w6.put (by decide) (by decide) (fo_85 (by omega))), (((FrC.rfl.put (by decide) (by decide)).trans (FrC.sub F7 (by decide))).put (by decide) (by decide)), by omega, by omega, by rw [q62, q63, f60]; exact w64, (TRT.pt (TRT.trans (TRT.pt TRT.rfl (by decide)) f13) (by decide))⟩
    · refine tn_sipush dX9_scanOne_72 (by decide) ?_
      refine tn_goto (tgt := 82) dX9_scanOne_75 (by decide) ?_
      refine tn_putV (ci := 9) (i := 4) (n := 85) (r := false) (v := 263) tyX9 tyX9_ok nmX9 dX9_scanOne_82 rfl lay_9 (by decide) fl9_30 rfl (tyX9_ok 4 (by decide)) rfl rfl rfl ha rfl rfl ?_
      refine tn_iload dX9_scanOne_85 4 rfl ?_
      have q65 : (sA 85 a (263) σ3).2.1 85 a = 263 := ra_eq
      have q66 : (sA 85 a (263) σ3).2.1 86 a = σ3.2.1 86 a := rc_o (by decide) (rfl)
      have w67 := (so_let (by omega) (by omega) f10 f11 f14).2 (by omega)
      exact tn_iret rfl dX9_scanOne_87 ⟨_, rfl, rfl, (w6.put (by decide) (by decide) (fo_85 (by omega))), (((FrC.rfl.put (by decide) (by decide)).trans (FrC.sub F7 (by decide))).put (by decide) (by decide)), by omega, by omega, by rw [q65, q66]; exact w67, (TRT.pt (TRT.trans (TRT.pt TRT.rfl (by decide)) f13) (by decide))⟩
end
section
set_option maxHeartbeats 1000000 in
set_option maxRecDepth 20000 in
theorem k_X9_next_f0w (d : Nat) {T : CT} {σ : MS} {a : Nat} {Sx : Int → Int} {nx : Nat} (ha : OB T a 9) (hw : WT T σ) (hT : TKI σ a) (h1 : σ.2.1 84 a = -1) (hr : TRW σ a Sx nx) (he : TEN Sx nx) (hn : nx ≤ 1200) : Tn (d + 1) m_X9_next 0 T σ [(0, .ref a)] [] (fun ro T2 σ2 => ro = none ∧ T = T2 ∧ WT T2 σ2 ∧ FrC T [84, 85, 86, 87] σ σ2 ∧ (TKI σ2 a) ∧ (σ.2.1 84 a ≤ σ2.2.1 84 a) ∧ (ADV σ σ2 a) ∧ (TKT σ2 a Sx nx 0) ∧ (TRT T σ σ2)) := by
  refine tn_aload_n dX9_next_0 rfl 0 rfl ?_
  refine tn_getI (ci := 9) (i := 3) (n := 84) (t := σ.2.1 84 a) dX9_next_1 rfl lay_9 (by decide) fl9_45 ha rfl rfl (rfl) ?_
  have g1 : ((-1 : Int) ≤ σ.2.1 84 a ∧ σ.2.1 84 a ≤ 1200) := wf_84 hw ha
  refine tn_iconst dX9_next_4 ?_
  refine tn_iadd dX9_next_5 ?_
  refine tn_aload_n dX9_next_6 rfl 0 rfl ?_
  obtain ⟨xq2, hx3, hk4, hl5⟩ : ∃ x : Nat, σ.2.1 81 a = (x : Int) ∧ AR T x 12 1201 1201 := wf_81 hw ha
  have hk4i : IA T xq2 := by unfold IA; omega
  refine tn_getR (ci := 9) (i := 0) (n := 81) (x := xq2) dX9_next_7 rfl lay_9 (by decide) fl9_9 ha rfl rfl (hx3) ?_
  refine tn_alenX dX9_next_10 (Or.inl hk4i) ?_
  refine tn_icmp_ge (tgt := 118) dX9_next_11 (by decide) ⟨by omega, by omega⟩ ⟨by omega, by omega⟩ (fun h6 => ?_) (fun h6 => ?_)
  · have q7 : σ.2.1 84 a = σ.2.1 84 a := rfl
    have q8 : σ.2.1 85 a = σ.2.1 85 a := rfl
    exact tn_vret rfl dX9_next_118 ⟨rfl, rfl, hw, FrC.rfl, False.elim (by omega), False.elim (by omega), False.elim (by omega), False.elim (by omega), False.elim (by omega)⟩
  · refine tn_aload_n dX9_next_14 rfl 0 rfl ?_
    refine tn_getI (ci := 9) (i := 3) (n := 84) (t := σ.2.1 84 a) dX9_next_15 rfl lay_9 (by decide) fl9_45 ha rfl rfl (rfl) ?_
    refine tn_iconst dX9_next_18 ?_
    refine tn_iadd dX9_next_19 ?_
    refine tn_aload_n dX9_next_20 rfl 0 rfl ?_
    obtain ⟨xq9, hx10, hk11, hl12⟩ : ∃ x : Nat, σ.2.1 82 a = (x : Int) ∧ AR T x 22 1201 1201 := wf_82 hw ha
    have hk11i : IA T xq9 := by unfold IA; omega
    refine tn_getR (ci := 9) (i := 1) (n := 82) (x := xq9) dX9_next_21 rfl lay_9 (by decide) fl9_15 ha rfl rfl (hx10) ?_
    refine tn_alenX dX9_next_24 (Or.inl hk11i) ?_
    refine tn_icmp_ge (tgt := 118) dX9_next_25 (by decide) ⟨by omega, by omega⟩ ⟨by omega, by omega⟩ (fun h13 => ?_) (fun h13 => ?_)
    · have q14 : σ.2.1 84 a = σ.2.1 84 a := rfl
      have q15 : σ.2.1 85 a = σ.2.1 85 a := rfl
      exact tn_vret rfl dX9_next_118 ⟨rfl, rfl, hw, FrC.rfl, False.elim (by omega), False.elim (by omega), False.elim (by omega), False.elim (by omega), False.elim (by omega)⟩
    · refine tn_aload_n dX9_next_28 rfl 0 rfl ?_
      refine tn_getI (ci := 9) (i := 3) (n := 84) (t := σ.2.1 84 a) dX9_next_29 rfl lay_9 (by decide) fl9_45 ha rfl rfl (rfl) ?_
      refine tn_iconst dX9_next_32 ?_
      refine tn_iadd dX9_next_33 ?_
      refine tn_aload_n dX9_next_34 rfl 0 rfl ?_
      obtain ⟨xq16, hx17, hk18, hl19⟩ : ∃ x : Nat, σ.2.1 83 a = (x : Int) ∧ AR T x 23 1201 1201 := wf_83 hw ha
      have hk18i : IA T xq16 := by unfold IA; omega
      refine tn_getR (ci := 9) (i := 2) (n := 83) (x := xq16) dX9_next_35 rfl lay_9 (by decide) fl9_18 ha rfl rfl (hx17) ?_
      refine tn_alenX dX9_next_38 (Or.inl hk18i) ?_
      refine tn_icmp_ge (tgt := 118) dX9_next_39 (by decide) ⟨by omega, by omega⟩ ⟨by omega, by omega⟩ (fun h20 => ?_) (fun h20 => ?_)
      · have q21 : σ.2.1 84 a = σ.2.1 84 a := rfl
        have q22 : σ.2.1 85 a = σ.2.1 85 a := rfl
        exact tn_vret rfl dX9_next_118 ⟨rfl, rfl, hw, FrC.rfl, False.elim (by omega), False.elim (by omega), False.elim (by omega), False.elim (by omega), False.elim (by omega)⟩
      · refine tn_aload_n dX9_next_42 rfl 0 rfl ?_
        refine tn_getI (ci := 9) (i := 3) (n := 84) (t := σ.2.1 84 a) dX9_next_43 rfl lay_9 (by decide) fl9_45 ha rfl rfl (rfl) ?_
        refine tn_if_lt (tgt := 69) dX9_next_46 (by decide) ⟨by omega, by omega⟩ (fun h23 => ?_) (fun h23 => ?_)
        · refine tn_aload_n dX9_next_69 rfl 0 rfl ?_
          refine tn_dup dX9_next_70 rfl ?_
          refine tn_getI (ci := 9) (i := 3) (n := 84) (t := σ.2.1 84 a) dX9_next_71 rfl lay_9 (by decide) fl9_45 ha rfl rfl (rfl) ?_
          refine tn_iconst dX9_next_74 ?_
          refine tn_iadd dX9_next_75 ?_
          refine tn_putV (ci := 9) (i := 3) (n := 84) (r := false) (v := (σ.2.1 84 a) + 1) tyX9 tyX9_ok nmX9 dX9_next_76 rfl lay_9 (by decide) fl9_45 rfl (tyX9_ok 3 (by decide)) rfl rfl rfl ha rfl rfl ?_
          refine tn_aload_n dX9_next_79 rfl 0 rfl ?_
          refine tn_aload_n dX9_next_80 rfl 0 rfl ?_
          refine tn_getR (ci := 9) (i := 0) (n := 81) (x := xq2) dX9_next_81 rfl lay_9 (by decide) fl9_9 ha rfl rfl (rc_o (by decide) (hx3)) ?_
          refine tn_aload_n dX9_next_84 rfl 0 rfl ?_
          refine tn_getI (ci := 9) (i := 3) (n := 84) (t := (σ.2.1 84 a) + 1) dX9_next_85 rfl lay_9 (by decide) fl9_45 ha rfl rfl (ra_eq) ?_
          refine tn_ialdX (z := (σ.2.1 84 a) + 1) (hw.put (by decide) (by decide) (fo_84 (by omega))) dX9_next_88 hk4i (by omega) (by omega) (by omega) (fun v24 g25q g25 g25k => ?_)
          have g25u := g25k.2.2.1 hk4
          have g25Q : v24 = σ.2.1 (1000 + xq2) ((σ.2.1 84 a) + 1) := by rw [g25q, sA_k (by omega)]
          clear g25k g25q
          refine tn_putV (ci := 9) (i := 4) (n := 85) (r := false) (v := v24) tyX9 tyX9_ok nmX9 dX9_next_89 rfl lay_9 (by decide) fl9_30 rfl (tyX9_ok 4 (by decide)) rfl rfl rfl ha rfl rfl ?_
          refine tn_aload_n dX9_next_92 rfl 0 rfl ?_
          refine tn_aload_n dX9_next_93 rfl 0 rfl ?_
          refine tn_getR (ci := 9) (i := 1) (n := 82) (x := xq9) dX9_next_94 rfl lay_9 (by decide) fl9_15 ha rfl rfl (rc_o (by decide) (rc_o (by decide) (hx10))) ?_
          refine tn_aload_n dX9_next_97 rfl 0 rfl ?_
          refine tn_getI (ci := 9) (i := 3) (n := 84) (t := (σ.2.1 84 a) + 1) dX9_next_98 rfl lay_9 (by decide) fl9_45 ha rfl rfl (rc_o (by decide) (ra_eq)) ?_
          refine tn_ialdX (z := (σ.2.1 84 a) + 1) ((hw.put (by decide) (by decide) (fo_84 (by omega))).put (by decide) (by decide) (fo_85 (by omega))) dX9_next_101 hk11i (by omega) (by omega) (by omega) (fun v26 g27q g27 g27k => ?_)
          have g27Q : v26 = σ.2.1 (1000 + xq9) ((σ.2.1 84 a) + 1) := by rw [g27q, sA_k (by omega), sA_k (by omega)]
          clear g27k g27q
          refine tn_putV (ci := 9) (i := 5) (n := 86) (r := false) (v := v26) tyX9 tyX9_ok nmX9 dX9_next_102 rfl lay_9 (by decide) fl9_55 rfl (tyX9_ok 5 (by decide)) rfl rfl rfl ha rfl rfl ?_
          refine tn_aload_n dX9_next_105 rfl 0 rfl ?_
          refine tn_aload_n dX9_next_106 rfl 0 rfl ?_
          refine tn_getR (ci := 9) (i := 2) (n := 83) (x := xq16) dX9_next_107 rfl lay_9 (by decide) fl9_18 ha rfl rfl (rc_o (by decide) (rc_o (by decide) (rc_o (by decide) (hx17)))) ?_
          refine tn_aload_n dX9_next_110 rfl 0 rfl ?_
          refine tn_getI (ci := 9) (i := 3) (n := 84) (t := (σ.2.1 84 a) + 1) dX9_next_111 rfl lay_9 (by decide) fl9_45 ha rfl rfl (rc_o (by decide) (rc_o (by decide) (ra_eq))) ?_
          refine tn_ialdX (z := (σ.2.1 84 a) + 1) (((hw.put (by decide) (by decide) (fo_84 (by omega))).put (by decide) (by decide) (fo_85 (by omega))).put (by decide) (by decide) (fo_86 (by omega))) dX9_next_114 hk18i (by omega) (by omega) (by omega) (fun v28 g29q g29 g29k => ?_)
          have g29Q : v28 = σ.2.1 (1000 + xq16) ((σ.2.1 84 a) + 1) := by rw [g29q, sA_k (by omega), sA_k (by omega), sA_k (by omega)]
          clear g29k g29q
          refine tn_putV (ci := 9) (i := 6) (n := 87) (r := false) (v := v28) tyX9 tyX9_ok nmX9 dX9_next_115 rfl lay_9 (by decide) fl9_34 rfl (tyX9_ok 6 (by decide)) rfl rfl rfl ha rfl rfl ?_
          have q30 : (sA 87 a (v28) (sA 86 a (v26) (sA 85 a (v24) (sA 84 a ((σ.2.1 84 a) + 1) σ)))).2.1 84 a = (σ.2.1 84 a) + 1 := rc_o (by decide) (rc_o (by decide) (rc_o (by decide) (ra_eq)))
          have q31 : (sA 87 a (v28) (sA 86 a (v26) (sA 85 a (v24) (sA 84 a ((σ.2.1 84 a) + 1) σ)))).2.1 85 a = v24 := rc_o (by decide) (rc_o (by decide) (ra_eq))
          have q32 : (sA 87 a (v28) (sA 86 a (v26) (sA 85 a (v24) (sA 84 a ((σ.2.1 84 a) + 1) σ)))).2.1 84 a = (σ.2.1 84 a) + 1 := rc_o (by decide) (rc_o (by decide) (rc_o (by decide) (ra_eq)))
          have q33 : (sA 87 a (v28) (sA 86 a (v26) (sA 85 a (v24) (sA 84 a ((σ.2.1 84 a) + 1) σ)))).2.1 85 a = v24 := rc_o (by decide) (rc_o (by decide) (ra_eq))
          have q34 : (sA 87 a (v28) (sA 86 a (v26) (sA 85 a (v24) (sA 84 a ((σ.2.1 84 a) + 1) σ)))).2.1 86 a = v26 := rc_o (by decide) (ra_eq)
          have q35 : (sA 87 a (v28) (sA 86 a (v26) (sA 85 a (v24) (sA 84 a ((σ.2.1 84 a) + 1) σ)))).2.1 87 a = v28 := ra_eq
          have w36 := hr xq2 xq9 xq16 hx3 hx10 hx17 0 (Nat.zero_le _)
          have w36i : σ.2.1 84 a + 1 = ((0 : Nat) : Int) := by omega
          rw [w36i] at g25Q
          rw [w36i] at g27Q
          rw [w36i] at g29Q
          exact tn_vret rfl dX9_next_118 ⟨rfl, rfl, ((((hw.put (by decide) (by decide) (fo_84 (by omega))).put (by decide) (by decide) (fo_85 (by omega))).put (by decide) (by decide) (fo_86 (by omega))).put (by decide) (by decide) (fo_87 (by omega))), ((((FrC.rfl.put (by decide) (by decide)).put (by decide) (by decide)).put (by decide) (by decide)).put (by decide) (by decide)), by unfold TKI at *; rw [q30, q31]; omega, by rw [q30]; omega, by unfold ADV TKI at *; rw [q30]; omega, ⟨⟨Nat.zero_le _, hn, by rw [q32]; omega⟩, ⟨by rw [q33, g25Q]; exact w36.1, by rw [q34, g27Q]; exact w36.2.1, by rw [q35, g29Q]; exact w36.2.2⟩, ((((hr).pt (by decide)).pt (by decide)).pt (by decide)).pt (by decide), he⟩, (TRT.pt (TRT.pt (TRT.pt (TRT.pt TRT.rfl (by decide)) (by decide)) (by decide)) (by decide))⟩
        · refine tn_aload_n dX9_next_49 rfl 0 rfl ?_
          refine tn_getI (ci := 9) (i := 4) (n := 85) (t := σ.2.1 85 a) dX9_next_50 rfl lay_9 (by decide) fl9_30 ha rfl rfl (rfl) ?_
          have g37 : ((-2147483648 : Int) ≤ σ.2.1 85 a ∧ σ.2.1 85 a ≤ 2147483647) := wf_85 hw ha
          refine tn_sipush dX9_next_53 (by decide) ?_
          refine tn_icmp_eq (tgt := 118) dX9_next_56 (by decide) ⟨by omega, by omega⟩ ⟨by decide, by decide⟩ (fun h38 => ?_) (fun h38 => ?_)
          · have q39 : σ.2.1 84 a = σ.2.1 84 a := rfl
            have q40 : σ.2.1 85 a = σ.2.1 85 a := rfl
            exact tn_vret rfl dX9_next_118 ⟨rfl, rfl, hw, FrC.rfl, False.elim (by omega), False.elim (by omega), False.elim (by omega), False.elim (by omega), False.elim (by omega)⟩
          · refine tn_aload_n dX9_next_59 rfl 0 rfl ?_
            refine tn_getI (ci := 9) (i := 4) (n := 85) (t := σ.2.1 85 a) dX9_next_60 rfl lay_9 (by decide) fl9_30 ha rfl rfl (rfl) ?_
            refine tn_sipush dX9_next_63 (by decide) ?_
            refine tn_icmp_eq (tgt := 118) dX9_next_66 (by decide) ⟨by omega, by omega⟩ ⟨by decide, by decide⟩ (fun h41 => ?_) (fun h41 => ?_)
            · have q42 : σ.2.1 84 a = σ.2.1 84 a := rfl
              have q43 : σ.2.1 85 a = σ.2.1 85 a := rfl
              exact tn_vret rfl dX9_next_118 ⟨rfl, rfl, hw, FrC.rfl, False.elim (by omega), False.elim (by omega), False.elim (by omega), False.elim (by omega), False.elim (by omega)⟩
            · refine tn_aload_n dX9_next_69 rfl 0 rfl ?_
              refine tn_dup dX9_next_70 rfl ?_
              refine tn_getI (ci := 9) (i := 3) (n := 84) (t := σ.2.1 84 a) dX9_next_71 rfl lay_9 (by decide) fl9_45 ha rfl rfl (rfl) ?_
              refine tn_iconst dX9_next_74 ?_
              refine tn_iadd dX9_next_75 ?_
              refine tn_putV (ci := 9) (i := 3) (n := 84) (r := false) (v := (σ.2.1 84 a) + 1) tyX9 tyX9_ok nmX9 dX9_next_76 rfl lay_9 (by decide) fl9_45 rfl (tyX9_ok 3 (by decide)) rfl rfl rfl ha rfl rfl ?_
              refine tn_aload_n dX9_next_79 rfl 0 rfl ?_
              refine tn_aload_n dX9_next_80 rfl 0 rfl ?_
              refine tn_getR (ci := 9) (i := 0) (n := 81) (x := xq2) dX9_next_81 rfl lay_9 (by decide) fl9_9 ha rfl rfl (rc_o (by decide) (hx3)) ?_
              refine tn_aload_n dX9_next_84 rfl 0 rfl ?_
              refine tn_getI (ci := 9) (i := 3) (n := 84) (t := (σ.2.1 84 a) + 1) dX9_next_85 rfl lay_9 (by decide) fl9_45 ha rfl rfl (ra_eq) ?_
              refine tn_ialdX (z := (σ.2.1 84 a) + 1) (hw.put (by decide) (by decide) (fo_84 (by omega))) dX9_next_88 hk4i (by omega) (by omega) (by omega) (fun v44 g45q g45 g45k => ?_)
              have g45u := g45k.2.2.1 hk4
              have g45Q : v44 = σ.2.1 (1000 + xq2) ((σ.2.1 84 a) + 1) := by rw [g45q, sA_k (by omega)]
              clear g45k g45q
              refine tn_putV (ci := 9) (i := 4) (n := 85) (r := false) (v := v44) tyX9 tyX9_ok nmX9 dX9_next_89 rfl lay_9 (by decide) fl9_30 rfl (tyX9_ok 4 (by decide)) rfl rfl rfl ha rfl rfl ?_
              refine tn_aload_n dX9_next_92 rfl 0 rfl ?_
              refine tn_aload_n dX9_next_93 rfl 0 rfl ?_
              refine tn_getR (ci := 9) (i := 1) (n := 82) (x := xq9) dX9_next_94 rfl lay_9 (by decide) fl9_15 ha rfl rfl (rc_o (by decide) (rc_o (by decide) (hx10))) ?_
              refine tn_aload_n dX9_next_97 rfl 0 rfl ?_
              refine tn_getI (ci := 9) (i := 3) (n := 84) (t := (σ.2.1 84 a) + 1) dX9_next_98 rfl lay_9 (by decide) fl9_45 ha rfl rfl (rc_o (by decide) (ra_eq)) ?_
              refine tn_ialdX (z := (σ.2.1 84 a) + 1) ((hw.put (by decide) (by decide) (fo_84 (by omega))).put (by decide) (by decide) (fo_85 (by omega))) dX9_next_101 hk11i (by omega) (by omega) (by omega) (fun v46 g47q g47 g47k => ?_)
              have g47Q : v46 = σ.2.1 (1000 + xq9) ((σ.2.1 84 a) + 1) := by rw [g47q, sA_k (by omega), sA_k (by omega)]
              clear g47k g47q
              refine tn_putV (ci := 9) (i := 5) (n := 86) (r := false) (v := v46) tyX9 tyX9_ok nmX9 dX9_next_102 rfl lay_9 (by decide) fl9_55 rfl (tyX9_ok 5 (by decide)) rfl rfl rfl ha rfl rfl ?_
              refine tn_aload_n dX9_next_105 rfl 0 rfl ?_
              refine tn_aload_n dX9_next_106 rfl 0 rfl ?_
              refine tn_getR (ci := 9) (i := 2) (n := 83) (x := xq16) dX9_next_107 rfl lay_9 (by decide) fl9_18 ha rfl rfl (rc_o (by decide) (rc_o (by decide) (rc_o (by decide) (hx17)))) ?_
              refine tn_aload_n dX9_next_110 rfl 0 rfl ?_
              refine tn_getI (ci := 9) (i := 3) (n := 84) (t := (σ.2.1 84 a) + 1) dX9_next_111 rfl lay_9 (by decide) fl9_45 ha rfl rfl (rc_o (by decide) (rc_o (by decide) (ra_eq))) ?_
              refine tn_ialdX (z := (σ.2.1 84 a) + 1) (((hw.put (by decide) (by decide) (fo_84 (by omega))).put (by decide) (by decide) (fo_85 (by omega))).put (by decide) (by decide) (fo_86 (by omega))) dX9_next_114 hk18i (by omega) (by omega) (by omega) (fun v48 g49q g49 g49k => ?_)
              have g49Q : v48 = σ.2.1 (1000 + xq16) ((σ.2.1 84 a) + 1) := by rw [g49q, sA_k (by omega), sA_k (by omega), sA_k (by omega)]
              clear g49k g49q
              refine tn_putV (ci := 9) (i := 6) (n := 87) (r := false) (v := v48) tyX9 tyX9_ok nmX9 dX9_next_115 rfl lay_9 (by decide) fl9_34 rfl (tyX9_ok 6 (by decide)) rfl rfl rfl ha rfl rfl ?_
              have q50 : (sA 87 a (v48) (sA 86 a (v46) (sA 85 a (v44) (sA 84 a ((σ.2.1 84 a) + 1) σ)))).2.1 84 a = (σ.2.1 84 a) + 1 := rc_o (by decide) (rc_o (by decide) (rc_o (by decide) (ra_eq)))
              have q51 : (sA 87 a (v48) (sA 86 a (v46) (sA 85 a (v44) (sA 84 a ((σ.2.1 84 a) + 1) σ)))).2.1 85 a = v44 := rc_o (by decide) (rc_o (by decide) (ra_eq))
              have q52 : (sA 87 a (v48) (sA 86 a (v46) (sA 85 a (v44) (sA 84 a ((σ.2.1 84 a) + 1) σ)))).2.1 84 a = (σ.2.1 84 a) + 1 := rc_o (by decide) (rc_o (by decide) (rc_o (by decide) (ra_eq)))
              have q53 : (sA 87 a (v48) (sA 86 a (v46) (sA 85 a (v44) (sA 84 a ((σ.2.1 84 a) + 1) σ)))).2.1 85 a = v44 := rc_o (by decide) (rc_o (by decide) (ra_eq))
              have q54 : (sA 87 a (v48) (sA 86 a (v46) (sA 85 a (v44) (sA 84 a ((σ.2.1 84 a) + 1) σ)))).2.1 86 a = v46 := rc_o (by decide) (ra_eq)
              have q55 : (sA 87 a (v48) (sA 86 a (v46) (sA 85 a (v44) (sA 84 a ((σ.2.1 84 a) + 1) σ)))).2.1 87 a = v48 := ra_eq
              have w56 := hr xq2 xq9 xq16 hx3 hx10 hx17 0 (Nat.zero_le _)
              have w56i : σ.2.1 84 a + 1 = ((0 : Nat) : Int) := by omega
              rw [w56i] at g45Q
              rw [w56i] at g47Q
              rw [w56i] at g49Q
              exact tn_vret rfl dX9_next_118 ⟨rfl, rfl, ((((hw.put (by decide) (by decide) (fo_84 (by omega))).put (by decide) (by decide) (fo_85 (by omega))).put (by decide) (by decide) (fo_86 (by omega))).put (by decide) (by decide) (fo_87 (by omega))), ((((FrC.rfl.put (by decide) (by decide)).put (by decide) (by decide)).put (by decide) (by decide)).put (by decide) (by decide)), by unfold TKI at *; rw [q50, q51]; omega, by rw [q50]; omega, by unfold ADV TKI at *; rw [q50]; omega, ⟨⟨Nat.zero_le _, hn, by rw [q52]; omega⟩, ⟨by rw [q53, g45Q]; exact w56.1, by rw [q54, g47Q]; exact w56.2.1, by rw [q55, g49Q]; exact w56.2.2⟩, ((((hr).pt (by decide)).pt (by decide)).pt (by decide)).pt (by decide), he⟩, (TRT.pt (TRT.pt (TRT.pt (TRT.pt TRT.rfl (by decide)) (by decide)) (by decide)) (by decide))⟩
end
section
set_option maxHeartbeats 1000000 in
set_option maxRecDepth 20000 in
theorem l_X9_scan_fw_24 (d : Nat) {T : CT} {σ0 : MS} {a : Nat} {rx1 : Nat} {c3 : Int} {fT : Int → Int} {Sx : Int → Int} {post : Option Value → CT → MS → Prop} (h_a : OB T a 9) (h_rx1 : (T rx1).1 = 2) (l_rx1 : (T rx1).2 ≤ 1000000) (r_c3 : 0 ≤ c3 ∧ c3 ≤ 1200) (hw0 : WT T σ0) (ht : (T rx1).2 = 1200) (hB : BYT fT) (hSx : Sx = svC fT c3) (hx_92 : ∀ (i4 : Int) (i5 : Int) (σ : MS) , (WT T σ) → (FrC T [85, 86, 87, 512, 522, 523] σ0 σ) → (0 ≤ i4 ∧ i4 ≤ 1200) → (0 ≤ i5 ∧ i5 ≤ 1200) → (i4 ≤ i5 ∧ i5 ≤ c3) → (SCI σ a Sx (i4) (i5)) → (RWE σ rx1 fT c3) → (TRT T σ0 σ) → (σ.2.1 85 a ≠ 263 → i5 = c3) → Tn (d + 3) m_X9_scan 92 T σ [(0, .ref a), (1, .ref rx1), (3, .int (iI c3)), (4, .int (iI i4)), (5, .int (iI i5))] [] post) : ∀ (n : Nat) (i4 : Int) (i5 : Int) (σ : MS) , (WT T σ) → (FrC T [85, 86, 87, 512, 522, 523] σ0 σ) → (0 ≤ i4 ∧ i4 ≤ 1200) → (0 ≤ i5 ∧ i5 ≤ 1200) → (i4 ≤ i5 ∧ i5 ≤ c3) → (SCI σ a Sx (i4) (i5)) → (RWE σ rx1 fT c3) → (TRT T σ0 σ) → (2000 - i5).toNat = n → Tn (d + 3) m_X9_scan 24 T σ [(0, .ref a), (1, .ref rx1), (3, .int (iI c3)), (4, .int (iI i4)), (5, .int (iI i5))] [] post := by
  intro n
  induction n using Nat.strongRecOn with
  | _ n ih =>
    intro i4 i5 σ hw hF r_i4 r_i5 h0 hsc hrow htr hm
    refine tn_iload dX9_scan_24 4 rfl ?_
    refine tn_iload_n dX9_scan_26 rfl 2 rfl ?_
    refine tn_icmp_ge (tgt := 92) dX9_scan_27 (by decide) ⟨by omega, by omega⟩ ⟨by omega, by omega⟩ (fun h1 => ?_) (fun h1 => ?_)
    · exact tn_sub [0, 1, 2, 3, 4] rfl (hx_92 (i4) (i5) σ hw (FrC.rfl.trans (FrC.sub hF (by decide))) (by omega) (by omega) (by omega) hsc hrow htr (fun q => by omega))
    · refine tn_aload_n dX9_scan_30 rfl 0 rfl ?_
      refine tn_getI (ci := 9) (i := 4) (n := 85) (t := σ.2.1 85 a) dX9_scan_31 rfl lay_9 (by decide) fl9_30 h_a rfl rfl (rfl) ?_
      have g2 : ((-2147483648 : Int) ≤ σ.2.1 85 a ∧ σ.2.1 85 a ≤ 2147483647) := wf_85 hw h_a
      refine tn_sipush dX9_scan_34 (by decide) ?_
      refine tn_icmp_eq (tgt := 92) dX9_scan_37 (by decide) ⟨by omega, by omega⟩ ⟨by decide, by decide⟩ (fun h3 => ?_) (fun h3 => ?_)
      · exact tn_sub [0, 1, 2, 3, 4] rfl (hx_92 (i4) (i5) σ hw (FrC.rfl.trans (FrC.sub hF (by decide))) (by omega) (by omega) (by omega) hsc hrow htr (fun q => by omega))
      · refine tn_aload_n dX9_scan_40 rfl 1 rfl ?_
        refine tn_iload dX9_scan_41 4 rfl ?_
        have g4 := hB (i5)
        refine tn_bald (z := i5) (v := fT (i5)) dX9_scan_43 h_rx1 (by omega) (by omega) (by omega) (hrow (i5) (by omega) (by omega)) ?_
        refine tn_bipush dX9_scan_44 (by decide) ?_
        refine tn_icmp_eq (tgt := 58) dX9_scan_46 (by decide) ⟨by omega, by omega⟩ ⟨by decide, by decide⟩ (fun h5 => ?_) (fun h5 => ?_)
        · refine tn_iinc (q0 := 4) (L' := [(5, .int (iI (i5 + 1))), (0, .ref a), (1, .ref rx1), (3, .int (iI c3)), (4, .int (iI i4))]) dX9_scan_58 rfl (by decide) rfl ?_
          refine tn_goto (tgt := 24) dX9_scan_61 (by decide) ?_
          exact tn_sub [1, 2, 3, 4, 0] rfl (ih _ (by omega) (i4) (i5 + 1) σ hw (FrC.rfl.trans (FrC.sub hF (by decide))) (by omega) (by omega) (by omega) (SCI.bl hsc (by omega) (by have e9 := is_byte hSx (k := i5) (by omega) (by omega); omega) (by omega)) hrow htr rfl)
        · refine tn_aload_n dX9_scan_49 rfl 1 rfl ?_
          refine tn_iload dX9_scan_50 4 rfl ?_
          have g6 := hB (i5)
          refine tn_bald (z := i5) (v := fT (i5)) dX9_scan_52 h_rx1 (by omega) (by omega) (by omega) (hrow (i5) (by omega) (by omega)) ?_
          refine tn_bipush dX9_scan_53 (by decide) ?_
          refine tn_icmp_ne (tgt := 64) dX9_scan_55 (by decide) ⟨by omega, by omega⟩ ⟨by decide, by decide⟩ (fun h7 => ?_) (fun h7 => ?_)
          · refine tn_aload_n dX9_scan_64 rfl 0 rfl ?_
            refine tn_iload dX9_scan_65 4 rfl ?_
            refine tn_putV (ci := 9) (i := 6) (n := 87) (r := false) (v := i5) tyX9 tyX9_ok nmX9 dX9_scan_67 rfl lay_9 (by decide) fl9_34 rfl (tyX9_ok 6 (by decide)) rfl rfl rfl h_a rfl rfl ?_
            refine tn_aload_n dX9_scan_70 rfl 0 rfl ?_
            refine tn_aload_n dX9_scan_71 rfl 1 rfl ?_
            refine tn_iload_n dX9_scan_72 rfl 2 rfl ?_
            refine tn_iload dX9_scan_73 4 rfl ?_
            refine tn_callV (M := m_X9_scan) (pc := 75) (ix := 37) (ci := 9) (M' := m_X9_scanOne) (As := [.ref rx1, .int (iI c3), .int (iI i5)]) (rest := []) dX9_scan_75 ok_X9_scanOne im_X9_scanOne se_X9_scanOne ml9_37 np_X9_scanOne rfl rfl h_a rfl (Nat.le_of_ble_eq_true rfl) (Nat.le_of_ble_eq_true rfl) rfl (k_X9_scanOne_fw (d) (T := T) (σ := (sA 87 a (i5) σ)) (a := a) (t := rx1) (l := c3) (i := i5) h_a h_rx1 (by omega) (by omega) (by omega) (hw.put (by decide) (by decide) (fo_87 (by omega))) (by omega) ht (RWE.cg hrow (sA_k (by omega))) hB hSx) (fun r8 T10 σ9 gt11 hp => ?_)
            obtain ⟨v16, rfl, rfl, w17, F18, f12, f13, f14, f15⟩ := hp
            clear gt11
            show Tn _ _ 78 T σ9 [(0, .ref a), (1, .ref rx1), (3, .int (iI c3)), (4, .int (iI i4)), (5, .int (iI i5))] [.int (iI v16)] _
            refine tn_istore (L' := [(5, .int (iI v16)), (0, .ref a), (1, .ref rx1), (3, .int (iI c3)), (4, .int (iI i4))]) dX9_scan_78 (by decide) rfl ?_
            refine tn_aload_n dX9_scan_80 rfl 1 rfl ?_
            refine tn_iload dX9_scan_81 4 rfl ?_
            have q23 : σ9.2.1 87 a = i5 := rc_F F18 (Or.inl (by decide)) (by decide) (ra_eq)
            refine tn_callV (M := m_X9_scan) (pc := 83) (ix := 41) (ci := 9) (M' := m_X9_keep) (As := [.int (iI i4)]) (rest := []) dX9_scan_83 ok_X9_keep im_X9_keep se_X9_keep ml9_41 np_X9_keep rfl rfl h_a rfl (Nat.le_of_ble_eq_true rfl) (Nat.le_of_ble_eq_true rfl) rfl (k_X9_keep_fw (d) (T := T) (σ := σ9) (a := a) (n := i4) h_a (by omega) w17 (by omega) (by omega)) (fun r19 T21 σ20 gt22 hp => ?_)
            obtain ⟨rfl, rfl, w27, F28, f24, f25⟩ := hp
            clear gt22
            show Tn _ _ 86 T σ20 [(5, .int (iI v16)), (0, .ref a), (1, .ref rx1), (3, .int (iI c3)), (4, .int (iI i4))] [] _
            refine tn_iinc (q0 := 4) (L' := [(4, .int (iI (i4 + 1))), (5, .int (iI v16)), (0, .ref a), (1, .ref rx1), (3, .int (iI c3))]) dX9_scan_86 rfl (by decide) rfl ?_
            refine tn_goto (tgt := 24) dX9_scan_89 (by decide) ?_
            have w29F : FrC T [85, 86, 87] σ σ9 := ((FrC.rfl.put (by decide) (by decide)).trans (FrC.sub F18 (by decide)))
            have w29r := rowsT hw h_a w29F (by decide) (by decide) (by decide)
            have w2981 : σ9.2.1 81 = σ.2.1 81 := w29F.1 81 (Or.inl (by decide)) (by decide)
            have w2982 : σ9.2.1 82 = σ.2.1 82 := w29F.1 82 (Or.inl (by decide)) (by decide)
            have w2983 : σ9.2.1 83 = σ.2.1 83 := w29F.1 83 (Or.inl (by decide)) (by decide)
            have w29k : KPQ σ σ20 a (i4) (σ9.2.1 85 a) (σ9.2.1 86 a) (i5) := ⟨fun k hk i => by rw [f24.1 k (by rw [w2981]; exact hk) i, w29r k (Or.inl hk)], fun k hk i => by rw [f24.2.1 k (by rw [w2982]; exact hk) i, w29r k (Or.inr (Or.inl hk))], fun k hk i => by rw [f24.2.2 k (by rw [w2983]; exact hk) i, w29r k (Or.inr (Or.inr hk)), show σ9.2.1 87 a = i5 from rc_F F18 (Or.inl (by decide)) (by decide) (ra_eq)]⟩
            have w29f : ∀ k ∈ [81, 82, 83], σ20.2.1 k = σ.2.1 k := fun k hk => (F28.1 k (Or.inl ((by decide : ∀ k ∈ [81, 82, 83], k < 200) k hk)) ((by decide : ∀ k ∈ [81, 82, 83], k ∉ [512, 522, 523]) k hk)).trans (w29F.1 k (Or.inl ((by decide : ∀ k ∈ [81, 82, 83], k < 200) k hk)) ((by decide : ∀ k ∈ [81, 82, 83], k ∉ [85, 86, 87]) k hk))
            exact tn_sub [2, 3, 4, 0, 1] rfl (ih _ (by omega) (i4 + 1) (v16) σ20 w27 ((((FrC.rfl.trans (FrC.sub hF (by decide))).put (by decide) (by decide)).trans (FrC.sub F18 (by decide))).trans (FrC.sub F28 (by decide))) (by omega) (by omega) (by omega) (SCI.tk hsc (by rw [hSx]; exact svC_sb hB) (by rw [hSx]; exact svC_sen (by omega)) (by omega) (by omega) (not_blk hSx hB (by omega) (by omega) (by omega)) (in_byte hSx hB (by omega)) f14 w29f w29k (F28.1 85 (Or.inl (by decide)) (by decide) ▸ rfl)) (RWE.cg (RWE.cg (RWE.cg hrow (sA_k (by omega))) (F18.2 rx1 (by rw [h_rx1]; unfold HT; omega) (by rw [h_rx1]; decide))) (F28.2 rx1 (by rw [h_rx1]; unfold HT; omega) (by rw [h_rx1]; decide))) (TRT.trans (TRT.trans (TRT.pt htr (by decide)) f15) f25) rfl)
          · refine tn_iinc (q0 := 4) (L' := [(5, .int (iI (i5 + 1))), (0, .ref a), (1, .ref rx1), (3, .int (iI c3)), (4, .int (iI i4))]) dX9_scan_58 rfl (by decide) rfl ?_
            refine tn_goto (tgt := 24) dX9_scan_61 (by decide) ?_
            exact tn_sub [1, 2, 3, 4, 0] rfl (ih _ (by omega) (i4) (i5 + 1) σ hw (FrC.rfl.trans (FrC.sub hF (by decide))) (by omega) (by omega) (by omega) (SCI.bl hsc (by omega) (by have e9 := is_byte hSx (k := i5) (by omega) (by omega); omega) (by omega)) hrow htr rfl)
set_option maxHeartbeats 1000000 in
set_option maxRecDepth 20000 in
theorem k_X9_scan_fw (d : Nat) {T : CT} {σ : MS} {a : Nat} {t : Nat} {n : Int} {fT Sx : Int → Int} (ha : OB T a 9) (h_t : (T t).1 = 2) (l_t : (T t).2 ≤ 1000000) (h_n : -2147483648 ≤ n ∧ n ≤ 2147483647) (hw : WT T σ) (ht : (T t).2 = 1200) (hn : 0 ≤ n ∧ n ≤ 1200) (hfT : RWE σ t fT n) (hB : BYT fT) (hSx : Sx = svC fT n) : Tn (d + 3) m_X9_scan 0 T σ [(0, .ref a), (1, .ref t), (2, .int (iI n))] [] (fun ro T2 σ2 => ro = none ∧ T = T2 ∧ WT T2 σ2 ∧ FrC T [84, 85, 86, 87, 512, 522, 523] σ σ2 ∧ (TKI σ2 a) ∧ (∃ m : Nat, TKT σ2 a Sx m 0) ∧ (TRT T σ σ2)) := by
  have hrow := hfT
  refine tn_iconst dX9_scan_0 ?_
  refine tn_iload_n dX9_scan_1 rfl 2 rfl ?_
  refine tn_aload_n dX9_scan_2 rfl 1 rfl ?_
  refine tn_alenX dX9_scan_3 (Or.inr (Or.inl h_t)) ?_
  refine tn_mmin (x := n) (y := ((T t).2 : Int)) dX9_scan_4 mlm9_21 stM_min iniM cdM_min (by omega) (Nat.le_of_ble_eq_true rfl) ⟨by omega, by omega⟩ ⟨by omega, by omega⟩ (fun z1 g2 => ?_)
  refine tn_mmax (x := 0) (y := z1) dX9_scan_7 mlm9_27 stM_max iniM cdM_max (by omega) (Nat.le_of_ble_eq_true rfl) ⟨by omega, by omega⟩ ⟨by omega, by omega⟩ (fun z3 g4 => ?_)
  refine tn_istore_n (L' := [(3, .int (iI z3)), (0, .ref a), (1, .ref t), (2, .int (iI n))]) dX9_scan_10 rfl (by decide) rfl ?_
  refine tn_iconst dX9_scan_11 ?_
  refine tn_istore (L' := [(4, .int (iI 0)), (3, .int (iI z3)), (0, .ref a), (1, .ref t), (2, .int (iI n))]) dX9_scan_12 (by decide) rfl ?_
  refine tn_iconst dX9_scan_14 ?_
  refine tn_istore (L' := [(5, .int (iI 0)), (4, .int (iI 0)), (3, .int (iI z3)), (0, .ref a), (1, .ref t), (2, .int (iI n))]) dX9_scan_15 (by decide) rfl ?_
  refine tn_aload_n dX9_scan_17 rfl 3 rfl ?_
  refine tn_sipush dX9_scan_18 (by decide) ?_
  refine tn_putV (ci := 9) (i := 4) (n := 85) (r := false) (v := 264) tyX9 tyX9_ok nmX9 dX9_scan_21 rfl lay_9 (by decide) fl9_30 rfl (tyX9_ok 4 (by decide)) rfl rfl rfl ha rfl rfl ?_
  have q5 : (sA 85 a (264) σ).2.1 85 a = 264 := ra_eq
  refine tn_sub [3, 4, 2, 1, 0] rfl (l_X9_scan_fw_24 (d) (T := T) (σ0 := (sA 85 a (264) σ)) (a := a) (rx1 := t) (c3 := z3) (fT := fT) (Sx := Sx) ha h_t (by omega) (by omega) (hw.put (by decide) (by decide) (fo_85 (by omega))) ht hB (by rw [show z3 = n by omega]; exact hSx) (fun i46 i57 σ8 w11 F12 r13 r14 f15 f16 f17 f18 f19 => ?_) _ (0) (0) (sA 85 a (264) σ) (hw.put (by decide) (by decide) (fo_85 (by omega))) FrC.rfl (by omega) (by omega) (by omega) ⟨fun _ _ _ _ _ _ i hi => absurd hi (by omega), Or.inl ⟨by rw [q5]; omega, rfl, fun j hj => absurd hj (by omega)⟩⟩ (by rw [show z3 = n by omega]; exact (RWE.cg hrow (sA_k (by omega)))) TRT.rfl rfl)
  show Tn _ _ 92 T σ8 [(0, .ref a), (1, .ref t), (3, .int (iI z3)), (4, .int (iI i46)), (5, .int (iI i57))] [] _
  refine tn_aload_n dX9_scan_92 rfl 0 rfl ?_
  refine tn_getI (ci := 9) (i := 4) (n := 85) (t := σ8.2.1 85 a) dX9_scan_93 rfl lay_9 (by decide) fl9_30 ha rfl rfl (rfl) ?_
  have g20 : ((-2147483648 : Int) ≤ σ8.2.1 85 a ∧ σ8.2.1 85 a ≤ 2147483647) := wf_85 w11 ha
  refine tn_sipush dX9_scan_96 (by decide) ?_
  refine tn_icmp_eq (tgt := 120) dX9_scan_99 (by decide) ⟨by omega, by omega⟩ ⟨by decide, by decide⟩ (fun h21 => ?_) (fun h21 => ?_)
  · refine tn_aload_n dX9_scan_120 rfl 0 rfl ?_
    refine tn_iconst dX9_scan_121 ?_
    refine tn_putV (ci := 9) (i := 3) (n := 84) (r := false) (v := -1) tyX9 tyX9_ok nmX9 dX9_scan_122 rfl lay_9 (by decide) fl9_45 rfl (tyX9_ok 3 (by decide)) rfl rfl rfl ha rfl rfl ?_
    refine tn_aload_n dX9_scan_125 rfl 0 rfl ?_
    have w22 := SCI.bd f16 (by omega)
    have w22t : TRW (sA 84 a (-1) σ8) a Sx (i46 - 1).toNat := w22.2.1.pt (by decide)
    have q23 : (sA 84 a (-1) σ8).2.1 84 a = -1 := ra_eq
    have q28 : (sA 84 a (-1) σ8).2.1 84 a = -1 := ra_eq
    refine tn_callV (M := m_X9_scan) (pc := 126) (ix := 48) (ci := 9) (M' := m_X9_next) (As := []) (rest := []) dX9_scan_126 ok_X9_next im_X9_next se_X9_next ml9_48 np_X9_next rfl rfl ha rfl (Nat.le_of_ble_eq_true rfl) (Nat.le_of_ble_eq_true rfl) rfl (k_X9_next_f0w (d + 1) (T := T) (σ := (sA 84 a (-1) σ8)) (a := a) ha (w11.put (by decide) (by decide) (fo_84 (by omega))) (fun q => absurd (q.symm.trans (ra_eq)) (by decide)) q23 w22t w22.2.2 (by omega)) (fun r24 T26 σ25 gt27 hp => ?_)
    obtain ⟨rfl, rfl, w35, F36, f29, f30, f31, f32, f33⟩ := hp
    clear gt27
    show Tn _ _ 129 T σ25 [(0, .ref a), (1, .ref t), (3, .int (iI z3)), (4, .int (iI i46)), (5, .int (iI i57))] [] _
    exact tn_vret rfl dX9_scan_129 ⟨rfl, rfl, w35, ((((FrC.rfl.put (by decide) (by decide)).trans (FrC.sub F12 (by decide))).put (by decide) (by decide)).trans (FrC.sub F36 (by decide))), f29, ⟨_, f32⟩, (TRT.trans (TRT.pt (TRT.trans (TRT.pt TRT.rfl (by decide)) f18) (by decide)) f33)⟩
  · refine tn_aload_n dX9_scan_102 rfl 0 rfl ?_
    refine tn_sipush dX9_scan_103 (by decide) ?_
    refine tn_putV (ci := 9) (i := 4) (n := 85) (r := false) (v := 264) tyX9 tyX9_ok nmX9 dX9_scan_106 rfl lay_9 (by decide) fl9_30 rfl (tyX9_ok 4 (by decide)) rfl rfl rfl ha rfl rfl ?_
    refine tn_aload_n dX9_scan_109 rfl 0 rfl ?_
    refine tn_iload_n dX9_scan_110 rfl 2 rfl ?_
    refine tn_putV (ci := 9) (i := 6) (n := 87) (r := false) (v := z3) tyX9 tyX9_ok nmX9 dX9_scan_111 rfl lay_9 (by decide) fl9_34 rfl (tyX9_ok 6 (by decide)) rfl rfl rfl ha rfl rfl ?_
    refine tn_aload_n dX9_scan_114 rfl 0 rfl ?_
    refine tn_iload dX9_scan_115 3 rfl ?_
    have q41 : (sA 87 a (z3) (sA 85 a (264) σ8)).2.1 85 a = 264 := rc_o (by decide) (ra_eq)
    have q42 : (sA 87 a (z3) (sA 85 a (264) σ8)).2.1 86 a = σ8.2.1 86 a := rc_o (by decide) (rc_o (by decide) (rfl))
    have q43 : (sA 87 a (z3) (sA 85 a (264) σ8)).2.1 87 a = z3 := ra_eq
    refine tn_callV (M := m_X9_scan) (pc := 117) (ix := 41) (ci := 9) (M' := m_X9_keep) (As := [.int (iI i46)]) (rest := []) dX9_scan_117 ok_X9_keep im_X9_keep se_X9_keep ml9_41 np_X9_keep rfl rfl ha rfl (Nat.le_of_ble_eq_true rfl) (Nat.le_of_ble_eq_true rfl) rfl (k_X9_keep_fw (d) (T := T) (σ := (sA 87 a (z3) (sA 85 a (264) σ8))) (a := a) (n := i46) ha (by omega) ((w11.put (by decide) (by decide) (fo_85 (by omega))).put (by decide) (by decide) (fo_87 (by omega))) (fun _ => Or.inr (Or.inr (rc_o (by decide) (ra_eq)))) (by omega)) (fun r37 T39 σ38 gt40 hp => ?_)
    obtain ⟨rfl, rfl, w47, F48, f44, f45⟩ := hp
    clear gt40
    show Tn _ _ 120 T σ38 [(0, .ref a), (1, .ref t), (3, .int (iI z3)), (4, .int (iI i46)), (5, .int (iI i57))] [] _
    refine tn_aload_n dX9_scan_120 rfl 0 rfl ?_
    refine tn_iconst dX9_scan_121 ?_
    refine tn_putV (ci := 9) (i := 3) (n := 84) (r := false) (v := -1) tyX9 tyX9_ok nmX9 dX9_scan_122 rfl lay_9 (by decide) fl9_45 rfl (tyX9_ok 3 (by decide)) rfl rfl rfl ha rfl rfl ?_
    refine tn_aload_n dX9_scan_125 rfl 0 rfl ?_
    have w49F : FrC T [85, 87] σ8 (sA 87 a (z3) (sA 85 a (264) σ8)) := ((FrC.rfl.put (by decide) (by decide)).put (by decide) (by decide))
    have w49r := rowsT w11 ha w49F (by decide) (by decide) (by decide)
    have w49k : KPQ σ8 σ38 a (i46) 264 (σ8.2.1 86 a) (z3) := ⟨fun k hk i => by rw [f44.1 k (by rw [w49F.1 81 (Or.inl (by decide)) (by decide)]; exact hk) i, w49r k (Or.inl hk), show (sA 87 a (z3) (sA 85 a (264) σ8)).2.1 85 a = 264 from rc_o (by decide) ra_eq], fun k hk i => by rw [f44.2.1 k (by rw [w49F.1 82 (Or.inl (by decide)) (by decide)]; exact hk) i, w49r k (Or.inr (Or.inl hk))]; rfl, fun k hk i => by rw [f44.2.2 k (by rw [w49F.1 83 (Or.inl (by decide)) (by decide)]; exact hk) i, w49r k (Or.inr (Or.inr hk)), show (sA 87 a (z3) (sA 85 a (264) σ8)).2.1 87 a = z3 from ra_eq]⟩
    have w49f : ∀ k ∈ [81, 82, 83], σ38.2.1 k = σ8.2.1 k := fun k hk => (F48.1 k (Or.inl ((by decide : ∀ k ∈ [81, 82, 83], k < 200) k hk)) ((by decide : ∀ k ∈ [81, 82, 83], k ∉ [512, 522, 523]) k hk)).trans (w49F.1 k (Or.inl ((by decide : ∀ k ∈ [81, 82, 83], k < 200) k hk)) ((by decide : ∀ k ∈ [81, 82, 83], k ∉ [85, 87]) k hk))
    have w49e : i57 = z3 := by omega
    have w49 := SCI.en (by rw [w49e] at f16; exact f16) (by omega) (by omega) (by rw [hSx, svC_out (by omega)]; decide) w49f w49k
    have w49t : TRW (sA 84 a (-1) σ38) a Sx (i46).toNat := w49.1.pt (by decide)
    have q50 : (sA 84 a (-1) σ38).2.1 84 a = -1 := ra_eq
    have q55 : (sA 84 a (-1) σ38).2.1 84 a = -1 := ra_eq
    refine tn_callV (M := m_X9_scan) (pc := 126) (ix := 48) (ci := 9) (M' := m_X9_next) (As := []) (rest := []) dX9_scan_126 ok_X9_next im_X9_next se_X9_next ml9_48 np_X9_next rfl rfl ha rfl (Nat.le_of_ble_eq_true rfl) (Nat.le_of_ble_eq_true rfl) rfl (k_X9_next_f0w (d + 1) (T := T) (σ := (sA 84 a (-1) σ38)) (a := a) ha (w47.put (by decide) (by decide) (fo_84 (by omega))) (fun q => absurd (q.symm.trans (ra_eq)) (by decide)) q50 w49t w49.2 (by omega)) (fun r51 T53 σ52 gt54 hp => ?_)
    obtain ⟨rfl, rfl, w62, F63, f56, f57, f58, f59, f60⟩ := hp
    clear gt54
    show Tn _ _ 129 T σ52 [(0, .ref a), (1, .ref t), (3, .int (iI z3)), (4, .int (iI i46)), (5, .int (iI i57))] [] _
    exact tn_vret rfl dX9_scan_129 ⟨rfl, rfl, w62, (((((((FrC.rfl.put (by decide) (by decide)).trans (FrC.sub F12 (by decide))).put (by decide) (by decide)).put (by decide) (by decide)).trans (FrC.sub F48 (by decide))).put (by decide) (by decide)).trans (FrC.sub F63 (by decide))), f56, ⟨_, f59⟩, (TRT.trans (TRT.pt (TRT.trans (TRT.pt (TRT.pt (TRT.trans (TRT.pt TRT.rfl (by decide)) f18) (by decide)) (by decide)) f45) (by decide)) f60)⟩
end
