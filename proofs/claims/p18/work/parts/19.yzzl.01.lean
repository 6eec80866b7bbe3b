section
set_option maxHeartbeats 1000000 in
set_option maxRecDepth 20000 in
theorem l_X5_closeRoutine_m_59 (d : Nat) {T : CT} {σ0 : MS} {a : Nat} {Sx : Int → Int} {nx : Nat} {jx : Nat} {cy : CS} {Ny : Int} {sq : MS} {cq : Nat} {Nq : Int} {kp : Int} {post : Option Value → CT → MS → Prop} (h_a : OB T a 5) (hw0 : WT T σ0) (hds : DS [adN sq 14 cq, adN sq 15 cq, adN sq 5 cq]) (h35 : σ0.2.1 35 a = (cq : Int)) (hoc : OB T cq 1) (hNq : sq.2.1 7 cq = Nq) (h7q : 0 ≤ sq.2.1 7 cq ∧ sq.2.1 7 cq ≤ 12) (hkp : kp ≤ 150) (hx_88 : ∀ (i2 : Int) (σ : MS) , (WT T σ) → (FrC T [] σ0 σ) → (0 ≤ i2 ∧ i2 ≤ 12) → (RDX σ a Sx nx jx cy Ny) → (CLT sq σ cq i2 0) → (i2 ≤ sq.2.1 7 cq) → (RP σ a kp) → (sq.2.1 7 cq ≤ i2) → Tn (d + 4) m_X5_closeRoutine 88 T σ [(0, .ref a), (2, .int (iI i2))] [] post) : ∀ (n : Nat) (i2 : Int) (σ : MS) , (WT T σ) → (FrC T [] σ0 σ) → (0 ≤ i2 ∧ i2 ≤ 12) → (RDX σ a Sx nx jx cy Ny) → (CLT sq σ cq i2 0) → (i2 ≤ sq.2.1 7 cq) → (RP σ a kp) → (2147483700 - i2).toNat = n → Tn (d + 4) m_X5_closeRoutine 59 T σ [(0, .ref a), (2, .int (iI i2))] [] post := by
  intro n
  induction n using Nat.strongRecOn with
  | _ n ih =>
    intro i2 σ hw hF r_i2 hcy hct hle hrp hm
    have h35q : sq.2.1 35 a = (cq : Int) := by have z9 := CLT.f hct 35 a (by decide); have z8 : σ.2.1 35 a = σ0.2.1 35 a := congrFun (hF.1 35 (Or.inl (by decide)) (by decide)) (a : Int); omega
    refine tn_iload_n dX5_closeRoutine_59 rfl 1 rfl ?_
    refine tn_aload_n dX5_closeRoutine_60 rfl 0 rfl ?_
    obtain ⟨xq1, hx2, hk3⟩ : ∃ x : Nat, σ0.2.1 35 a = (x : Int) ∧ (T x).1 = 31 := wf_35 hw0 h_a
    have hk3o : OB T xq1 1 := ⟨by omega, by rw [hk3]; rfl, by omega⟩
    refine tn_getR (ci := 5) (i := 2) (n := 35) (x := xq1) dX5_closeRoutine_61 rfl lay_5 (by decide) fl5_47 h_a rfl rfl (rc_F hF (Or.inl (by decide)) (by decide) (hx2)) ?_
    refine tn_getI (ci := 1) (i := 2) (n := 7) (t := σ0.2.1 7 xq1) dX5_closeRoutine_64 rfl lay_1 (by decide) fl5_152 hk3o rfl rfl (rc_F hF (Or.inl (by decide)) (by decide) (rfl)) ?_
    have g5 : ((0 : Int) ≤ σ0.2.1 7 xq1 ∧ σ0.2.1 7 xq1 ≤ 12) := wf_7 hw0 hk3o
    refine tn_icmp_ge (tgt := 88) dX5_closeRoutine_67 (by decide) ⟨by omega, by omega⟩ ⟨by omega, by omega⟩ (fun h6 => ?_) (fun h6 => ?_)
    · have ex75 : σ.2.1 35 a = (cq : Int) := (CLT.f hct 35 a (by decide)).trans h35q
      have ex7 : xq1 = cq := by have z8 : σ.2.1 35 a = (xq1 : Int) := rc_F hF (Or.inl (by decide)) (by decide) (hx2); omega
      have ex7v : σ.2.1 7 cq = σ0.2.1 7 xq1 := by rw [← ex7]; exact rc_F hF (Or.inl (by decide)) (by decide) (rfl)
      have ex7z := CLT.f hct 7 cq (by decide)
      exact tn_sub [0, 1] rfl (hx_88 (i2) σ hw (FrC.rfl.trans (FrC.sub hF (by decide))) (by omega) hcy hct hle (RP.up hrp (by omega)) (by omega))
    · refine tn_aload_n dX5_closeRoutine_70 rfl 0 rfl ?_
      refine tn_getR (ci := 5) (i := 2) (n := 35) (x := xq1) dX5_closeRoutine_71 rfl lay_5 (by decide) fl5_47 h_a rfl rfl (rc_F hF (Or.inl (by decide)) (by decide) (hx2)) ?_
      obtain ⟨xq8, hx9, hk10, hl11⟩ : ∃ x : Nat, σ0.2.1 15 xq1 = (x : Int) ∧ AR T x 1 144 144 := wf_15 hw0 hk3o
      have hk10i : IA T xq8 := by unfold IA; omega
      refine tn_getR (ci := 1) (i := 10) (n := 15) (x := xq8) dX5_closeRoutine_74 rfl lay_1 (by decide) fl5_155 hk3o rfl rfl (rc_F hF (Or.inl (by decide)) (by decide) (hx9)) ?_
      refine tn_iload_n dX5_closeRoutine_77 rfl 1 rfl ?_
      refine tn_iload_n dX5_closeRoutine_78 rfl 1 rfl ?_
      have ce12 : xq1 = cq := by have z9 : σ.2.1 35 a = (cq : Int) := (CLT.f hct 35 a (by decide)).trans h35q; have z8 : σ.2.1 35 a = (xq1 : Int) := rc_F hF (Or.inl (by decide)) (by decide) (hx2); omega
      have ce12x : adN sq 15 cq = xq8 := by rw [← CLT.ad hct 15 cq (by decide), ← ce12]; exact adN_of (rc_F hF (Or.inl (by decide)) (by decide) (hx9))
      have ce12l := (ar_of (wf_15 hw (code_ob hw h_a (rc_F hF (Or.inl (by decide)) (by decide) (hx2)))) (rc_F hF (Or.inl (by decide)) (by decide) (hx9))).2
      refine tn_callSN (M := m_X5_closeRoutine) (pc := 79) (ix := 129) (M' := m_X11_put) (As := [.ref xq8, .int (iI i2), .int (iI i2)]) (rest := []) dX5_closeRoutine_79 ok_X11_put stt_X11_put nl5_129 np_X11_put rfl (Nat.le_of_ble_eq_true rfl) (Nat.le_of_ble_eq_true rfl) rfl (k_X11_put_x (d + 2) (T := T) (σ := σ) (x := xq8) (i := i2) (y := i2) hk10i (by omega) (by omega) (by omega) hw (nh_k hk10 (by unfold HT; omega)) (vok_1 (by have q9 := hk10; omega) (by omega))) (fun r13 T15 σ14 gt16 hp => ?_)
      obtain ⟨rfl, rfl, w20, F21, f17, f18⟩ := hp
      clear gt16
      have fx22 : RDX σ14 a Sx nx jx (cy) (Ny) := RDX.fc hcy hw h_a F21 (by decide) (by decide)
      have rp23 : RP σ14 a (kp) := RP.frc hrp F21 (by decide) (by decide) (by decide) (by decide) (by decide)
      show Tn _ _ 82 T σ14 [(0, .ref a), (2, .int (iI i2))] [] _
      refine tn_iinc (q0 := 1) (L' := [(2, .int (iI (i2 + 1))), (0, .ref a)]) dX5_closeRoutine_82 rfl (by decide) rfl ?_
      refine tn_goto (tgt := 59) dX5_closeRoutine_85 (by decide) ?_
      have ct24 : CLT sq σ14 cq (i2 + 1) 0 := CLT.hm (P := 0 ≤ i2 ∧ i2 < ((T xq8).2 : Int)) hct hds (by rw [ce12x]; exact f18) ⟨by omega, by omega⟩
      have ce127 : σ.2.1 7 cq = σ0.2.1 7 xq1 := by rw [← ce12]; exact rc_F hF (Or.inl (by decide)) (by decide) (rfl)
      have ce128 := CLT.f hct 7 cq (by decide)
      exact tn_sub [1, 0] rfl (ih _ (by omega) (i2 + 1) σ14 w20 ((FrC.rfl.trans (FrC.sub hF (by decide))).trans (FrC.sub F21 (by decide))) (by omega) fx22 ct24 (by omega) (RP.up rp23 (by omega)) rfl)
set_option maxHeartbeats 1000000 in
set_option maxRecDepth 20000 in
theorem l_X5_closeRoutine_m_90 (d : Nat) {T : CT} {σ0 : MS} {a : Nat} {Sx : Int → Int} {nx : Nat} {jx : Nat} {cy : CS} {Ny : Int} {sq : MS} {cq : Nat} {Nq : Int} {kp : Int} {post : Option Value → CT → MS → Prop} (h_a : OB T a 5) (hw0 : WT T σ0) (hds : DS [adN sq 14 cq, adN sq 15 cq, adN sq 5 cq]) (h35 : σ0.2.1 35 a = (cq : Int)) (hoc : OB T cq 1) (hkk : sq.2.1 6 cq ≤ 200 → ∀ k, 0 ≤ k → k < sq.2.1 6 cq → 0 ≤ cdW sq cq k 0) (hkp : kp ≤ 150) (hx_118 : ∀ (i2 : Int) (σ : MS) , (WT T σ) → (FrC T [] σ0 σ) → (0 ≤ i2 ∧ i2 ≤ 120) → (RDX σ a Sx nx jx cy Ny) → (CLT sq σ cq Nq i2) → (i2 = 0 ∨ i2 ≤ sq.2.1 6 cq) → (RP σ a kp) → ((sq.2.1 6 cq ≤ i2 ∨ 120 ≤ i2) ∧ i2 ≤ 120) → Tn (d + 4) m_X5_closeRoutine 118 T σ [(0, .ref a), (2, .int (iI i2))] [] post) : ∀ (n : Nat) (i2 : Int) (σ : MS) , (WT T σ) → (FrC T [] σ0 σ) → (0 ≤ i2 ∧ i2 ≤ 120) → (RDX σ a Sx nx jx cy Ny) → (CLT sq σ cq Nq i2) → (i2 = 0 ∨ i2 ≤ sq.2.1 6 cq) → (RP σ a kp) → (2147483700 - i2).toNat = n → Tn (d + 4) m_X5_closeRoutine 90 T σ [(0, .ref a), (2, .int (iI i2))] [] post := by
  intro n
  induction n using Nat.strongRecOn with
  | _ n ih =>
    intro i2 σ hw hF r_i2 hcy hct hle hrp hm
    have h35q : sq.2.1 35 a = (cq : Int) := by have z9 := CLT.f hct 35 a (by decide); have z8 : σ.2.1 35 a = σ0.2.1 35 a := congrFun (hF.1 35 (Or.inl (by decide)) (by decide)) (a : Int); omega
    refine tn_iload_n dX5_closeRoutine_90 rfl 1 rfl ?_
    refine tn_aload_n dX5_closeRoutine_91 rfl 0 rfl ?_
    obtain ⟨xq1, hx2, hk3⟩ : ∃ x : Nat, σ0.2.1 35 a = (x : Int) ∧ (T x).1 = 31 := wf_35 hw0 h_a
    have hk3o : OB T xq1 1 := ⟨by omega, by rw [hk3]; rfl, by omega⟩
    refine tn_getR (ci := 5) (i := 2) (n := 35) (x := xq1) dX5_closeRoutine_92 rfl lay_5 (by decide) fl5_47 h_a rfl rfl (rc_F hF (Or.inl (by decide)) (by decide) (hx2)) ?_
    refine tn_getI (ci := 1) (i := 1) (n := 6) (t := σ0.2.1 6 xq1) dX5_closeRoutine_95 rfl lay_1 (by decide) fl5_146 hk3o rfl rfl (rc_F hF (Or.inl (by decide)) (by decide) (rfl)) ?_
    have g5 : ((0 : Int) ≤ σ0.2.1 6 xq1 ∧ σ0.2.1 6 xq1 ≤ 5000) ∧ ((T xq1).1 = 50 → σ0.2.1 6 xq1 ≤ 200) := wf_6 hw0 hk3o
    have g5x := g5.2
    replace g5 := g5.1
    clear g5x
    refine tn_icmp_ge (tgt := 118) dX5_closeRoutine_98 (by decide) ⟨by omega, by omega⟩ ⟨by omega, by omega⟩ (fun h6 => ?_) (fun h6 => ?_)
    · have ex75 : σ.2.1 35 a = (cq : Int) := (CLT.f hct 35 a (by decide)).trans h35q
      have ex7 : xq1 = cq := by have z8 : σ.2.1 35 a = (xq1 : Int) := rc_F hF (Or.inl (by decide)) (by decide) (hx2); omega
      have ex7v : σ.2.1 6 cq = σ0.2.1 6 xq1 := by rw [← ex7]; exact rc_F hF (Or.inl (by decide)) (by decide) (rfl)
      have ex7z := CLT.f hct 6 cq (by decide)
      exact tn_sub [0, 1] rfl (hx_118 (i2) σ hw (FrC.rfl.trans (FrC.sub hF (by decide))) (by omega) hcy hct hle (RP.up hrp (by omega)) (by omega))
    · refine tn_iload_n dX5_closeRoutine_101 rfl 1 rfl ?_
      refine tn_bipush dX5_closeRoutine_102 (by decide) ?_
      refine tn_icmp_ge (tgt := 118) dX5_closeRoutine_104 (by decide) ⟨by omega, by omega⟩ ⟨by decide, by decide⟩ (fun h8 => ?_) (fun h8 => ?_)
      · have ex95 : σ.2.1 35 a = (cq : Int) := (CLT.f hct 35 a (by decide)).trans h35q
        have ex9 : xq1 = cq := by have z8 : σ.2.1 35 a = (xq1 : Int) := rc_F hF (Or.inl (by decide)) (by decide) (hx2); omega
        have ex9v : σ.2.1 6 cq = σ0.2.1 6 xq1 := by rw [← ex9]; exact rc_F hF (Or.inl (by decide)) (by decide) (rfl)
        have ex9z := CLT.f hct 6 cq (by decide)
        exact tn_sub [0, 1] rfl (hx_118 (i2) σ hw (FrC.rfl.trans (FrC.sub hF (by decide))) (by omega) hcy hct hle (RP.up hrp (by omega)) (by omega))
      · refine tn_aload_n dX5_closeRoutine_107 rfl 0 rfl ?_
        refine tn_iload_n dX5_closeRoutine_108 rfl 1 rfl ?_
        have ce105 : σ.2.1 35 a = (cq : Int) := (CLT.f hct 35 a (by decide)).trans h35q
        have ce10 : xq1 = cq := by have z8 : σ.2.1 35 a = (xq1 : Int) := rc_F hF (Or.inl (by decide)) (by decide) (hx2); omega
        have ce106 : σ.2.1 6 cq = σ0.2.1 6 xq1 := by rw [← ce10]; exact rc_F hF (Or.inl (by decide)) (by decide) (rfl)
        have ce10k : 0 ≤ i2 ∧ i2 < σ.2.1 6 cq := by omega
        refine tn_callV (M := m_X5_closeRoutine) (pc := 109) (ix := 158) (ci := 5) (M' := m_X5_numberNew) (As := [.int (iI i2)]) (rest := []) dX5_closeRoutine_109 ok_X5_numberNew im_X5_numberNew se_X5_numberNew ml5_158 np_X5_numberNew rfl rfl h_a rfl (Nat.le_of_ble_eq_true rfl) (Nat.le_of_ble_eq_true rfl) rfl (k_numberNew_c (d) (T := T) (σ := σ) (a := a) (k := i2) (c := cq) h_a (by omega) hw ce105 ce10k (CLT.kd hct ce10k hkk)) (fun r11 T13 σ12 gt14 hp => ?_)
        obtain ⟨rfl, rfl, w18, F19, f15, f16⟩ := hp
        clear gt14
        have fx20 : RDX σ12 a Sx nx jx (cy) (Ny) := RDX.fc hcy hw h_a F19 (by decide) (by decide)
        have rp21 : RP σ12 a (kp) := RP.frc hrp F19 (by decide) (by decide) (by decide) (by decide) (by decide)
        show Tn _ _ 112 T σ12 [(0, .ref a), (2, .int (iI i2))] [] _
        refine tn_iinc (q0 := 1) (L' := [(2, .int (iI (i2 + 1))), (0, .ref a)]) dX5_closeRoutine_112 rfl (by decide) rfl ?_
        refine tn_goto (tgt := 90) dX5_closeRoutine_115 (by decide) ?_
        have ct22 : CLT sq σ12 cq Nq (i2 + 1) := CLT.nn hct hds f15 f16 (by omega)
        have ce108 := CLT.f hct 6 cq (by decide)
        exact tn_sub [1, 0] rfl (ih _ (by omega) (i2 + 1) σ12 w18 ((FrC.rfl.trans (FrC.sub hF (by decide))).trans (FrC.sub F19 (by decide))) (by omega) fx20 ct22 (Or.inr (by omega)) (RP.up rp21 (by omega)) rfl)
set_option maxHeartbeats 1000000 in
set_option maxRecDepth 20000 in
theorem k_X5_closeRoutine_m (d : Nat) {T : CT} {σ : MS} {a : Nat} {w : Int} {kp : Int} {Sx : Int → Int} {nx jx : Nat} {cx : CS} {Nx : Int} {Tg : CT} {gs : MS} {mx : MK} {Sj : Nat → Prop} (ha : OB T a 5) (h_w : -2147483648 ≤ w ∧ w ≤ 2147483647) (hw : WT T σ) (hfx : RDX σ a Sx nx jx cx Nx) (hmg : MG Tg gs T σ a mx) (hmb : MBD mx) (hI : INJ Sj Tg gs) (hwg : WT Tg gs) (hSc : Sj (adN gs 35 a)) (hkp : kp ≤ 140) (hrp : RP σ a kp) : Tn (d + 4) m_X5_closeRoutine 0 T σ [(0, .ref a), (1, .int (iI w))] [] (fun ro T2 σ2 => ro = none ∧ WT T2 σ2 ∧ FrC T [5, 6, 43, 44] σ σ2 ∧ (RDX σ2 a Sx nx jx (uC cx (0, w, Nx + 1, 0)) (Nx + 1)) ∧ (∃ s1 : MS, WT T2 s1 ∧ MG Tg gs T2 s1 a (mx.put (mkI 7 0 0 1 0 0)) ∧ CLT s1 σ2 (adN gs 35 a) (s1.2.1 7 (adN gs 35 a)) (if s1.2.1 6 (adN gs 35 a) < 120 then s1.2.1 6 (adN gs 35 a) else 120)) ∧ (RP σ2 a (kp + 1))) := by
  have hSb := hfx.1.sb
  refine tn_aload_n dX5_closeRoutine_0 rfl 0 rfl ?_
  obtain ⟨xq1, hx2, hk3⟩ : ∃ x : Nat, σ.2.1 35 a = (x : Int) ∧ (T x).1 = 31 := wf_35 hw ha
  have hk3o : OB T xq1 1 := ⟨by omega, by rw [hk3]; rfl, by omega⟩
  refine tn_getR (ci := 5) (i := 2) (n := 35) (x := xq1) dX5_closeRoutine_1 rfl lay_5 (by decide) fl5_47 ha rfl rfl (hx2) ?_
  refine tn_bipush dX5_closeRoutine_4 (by decide) ?_
  refine tn_iconst dX5_closeRoutine_6 ?_
  refine tn_iconst dX5_closeRoutine_7 ?_
  refine tn_callV (M := m_X5_closeRoutine) (pc := 8) (ix := 139) (ci := 1) (M' := m_X1_append) (As := [.int (iI 7), .int (iI 0), .int (iI 0)]) (rest := []) dX5_closeRoutine_8 ok_X1_append im_X1_append se_X1_append ml5_139 np_X1_append rfl rfl hk3o rfl (Nat.le_of_ble_eq_true rfl) (Nat.le_of_ble_eq_true rfl) rfl (k_append_c (d) (T := T) (σ := σ) (a := xq1) (k := 7) (p := 0) (q := 0) hk3o hk3 (by decide) (by decide) (by decide) hw (RP.cnt hrp hw ha (hx2) (by omega)) (by omega)) (fun r5 T7 σ6 gt8 hp => ?_)
  obtain ⟨rfl, w13, F14, f9, f10, f11⟩ := hp
  have nn15 : 0 ≤ (mx).n := by have z7 : WT T σ := hw; have z6 : σ.2.1 35 a = (xq1 : Int) := hx2; have z9 := wf_6 z7 (code_ob z7 ha z6); have z8 := MG.e6 hmg (MG.cd hmg z6); omega
  have a3516 : σ.2.1 35 a = (xq1 : Int) := hx2
  have fx17 : RDX σ6 a Sx nx jx (cx) (Nx + 1) := RDX.ap hfx hw ha (hx2) F14 f9
  replace ha : OB T7 a 5 := gt8.ob ha
  have rp18 : RP σ6 a (kp + 1) := RP.app hrp (hx2) F14 (by decide) (by decide) (by decide) (by decide) f9
  have mg19 : MG Tg gs T7 σ6 a ((mx).put (rwI (7) (0) (0))) := MG.app hmg (MG.cd hmg a3516) gt8 f9 f10 f11 (by omega)
  show Tn _ _ 11 T7 σ6 [(0, .ref a), (1, .int (iI w))] [] _
  refine tn_aload_n dX5_closeRoutine_11 rfl 0 rfl ?_
  obtain ⟨xq20, hx21, hk22⟩ : ∃ x : Nat, σ6.2.1 35 a = (x : Int) ∧ (T7 x).1 = 31 := wf_35 w13 ha
  have hk22o : OB T7 xq20 1 := ⟨by omega, by rw [hk22]; rfl, by omega⟩
  refine tn_getR (ci := 5) (i := 2) (n := 35) (x := xq20) dX5_closeRoutine_12 rfl lay_5 (by decide) fl5_47 ha rfl rfl (hx21) ?_
  refine tn_iconst dX5_closeRoutine_15 ?_
  refine tn_iconst dX5_closeRoutine_16 ?_
  refine tn_iconst dX5_closeRoutine_17 ?_
  have c624 : 1 ≤ σ6.2.1 6 xq20 := MG.c1 (m := mx) mg19 (MG.cd mg19 (hx21)) nn15
  refine tn_callV (M := m_X5_closeRoutine) (pc := 18) (ix := 143) (ci := 1) (M' := m_X1_lastOperand) (As := [.int (iI 0), .int (iI 1), .int (iI 0)]) (rest := []) dX5_closeRoutine_18 ok_X1_lastOperand im_X1_lastOperand se_X1_lastOperand ml5_143 np_X1_lastOperand rfl rfl hk22o rfl (Nat.le_of_ble_eq_true rfl) (Nat.le_of_ble_eq_true rfl) rfl (k_lastOperand_c (d + 2) (T := T7) (σ := σ6) (a := xq20) (i := 0) (k := 1) (p := 0) hk22o hk22 (by decide) (by decide) (by decide) w13 (by omega) (by omega)) (fun r25 T27 σ26 gt28 hp => ?_)
  obtain ⟨rfl, rfl, w32, F33, f29, f30⟩ := hp
  clear gt28
  have mg34 : MG Tg gs T7 σ26 a ((mx).put (uZ (uZ (rwI (7) (0) (0)) (3 + 2 * 0) (1)) (4 + 2 * 0) (0))) := MG.lo (m := mx) mg19 (MG.cd mg19 (show σ6.2.1 35 a = (xq20 : Int) from hx21)) f29 f30 (by decide) (by show (7 : Int) ≠ 12; omega) nn15
  have mg34l : MG Tg gs T7 σ26 a ((mx).put (mkI 7 0 0 1 0 0)) := by have q9 := mg34; rw [mk_lo] at q9; exact q9
  have fx35 : RDX σ26 a Sx nx jx (cx) (Nx + 1) := RDX.fc fx17 w13 ha F33 (by decide) (by decide)
  have rp36 : RP σ26 a (kp + 1) := RP.frc rp18 F33 (by decide) (by decide) (by decide) (by decide) (by decide)
  show Tn _ _ 21 T7 σ26 [(0, .ref a), (1, .int (iI w))] [] _
  refine tn_aload_n dX5_closeRoutine_21 rfl 0 rfl ?_
  refine tn_getR (ci := 5) (i := 2) (n := 35) (x := xq20) dX5_closeRoutine_22 rfl lay_5 (by decide) fl5_47 ha rfl rfl (rc_F F33 (Or.inl (by decide)) (by decide) (hx21)) ?_
  refine tn_getI (ci := 1) (i := 1) (n := 6) (t := σ6.2.1 6 xq20) dX5_closeRoutine_25 rfl lay_1 (by decide) fl5_146 hk22o rfl rfl (rc_F F33 (Or.inl (by decide)) (by decide) (rfl)) ?_
  have g37 : ((0 : Int) ≤ σ6.2.1 6 xq20 ∧ σ6.2.1 6 xq20 ≤ 5000) ∧ ((T7 xq20).1 = 50 → σ6.2.1 6 xq20 ≤ 200) := wf_6 w13 hk22o
  have g37x := g37.2
  replace g37 := g37.1
  clear g37x
  have n638 : σ6.2.1 6 xq20 = Nx + 1 := (rc_F F33 (Or.inl (by decide)) (by decide) (rfl)).symm.trans ((fx35).2.2 xq20 (rc_F F33 (Or.inl (by decide)) (by decide) (hx21)))
  refine tn_bipush dX5_closeRoutine_28 (by decide) ?_
  refine tn_icmp_le (tgt := 39) dX5_closeRoutine_30 (by decide) ⟨by omega, by omega⟩ ⟨by decide, by decide⟩ (fun h39 => ?_) (fun h39 => ?_)
  · obtain ⟨cl40, cl40e⟩ : ∃ z : MS, z = σ26 := ⟨_, rfl⟩
    have cl40m : MG Tg gs T7 cl40 a ((mx).put (mkI 7 0 0 1 0 0)) := by rw [cl40e]; exact mg34l
    have cl40w : WT T7 cl40 := by rw [cl40e]; exact w32
    have cl405 : cl40.2.1 35 a = (xq20 : Int) := by rw [cl40e]; exact rc_F F33 (Or.inl (by decide)) (by decide) (hx21)
    have cl40d : adN gs 35 a = xq20 := MG.cd cl40m cl405
    have cl40o : OB T7 xq20 1 := code_ob cl40w ha cl405
    have cl40s : DS [adN cl40 14 xq20, adN cl40 15 xq20, adN cl40 5 xq20] := (FG.inj cl40m.1 hI hwg hSc).d3 (by rw [← cl40d]; exact hSc) cl40o
    have cl40k := MG.kd cl40m cl40d
    refine tn_aload_n dX5_closeRoutine_39 rfl 0 rfl ?_
    refine tn_getR (ci := 5) (i := 2) (n := 35) (x := xq20) dX5_closeRoutine_40 rfl lay_5 (by decide) fl5_47 ha rfl rfl (rc_F F33 (Or.inl (by decide)) (by decide) (hx21)) ?_
    obtain ⟨xq41, hx42, hk43, hl44⟩ : ∃ x : Nat, σ6.2.1 14 xq20 = (x : Int) ∧ AR T7 x 11 12 12 := wf_14 w13 hk22o
    have hk43i : IA T7 xq41 := by unfold IA; omega
    refine tn_getR (ci := 1) (i := 9) (n := 14) (x := xq41) dX5_closeRoutine_43 rfl lay_1 (by decide) fl5_149 hk22o rfl rfl (rc_F F33 (Or.inl (by decide)) (by decide) (hx42)) ?_
    refine tn_iconst dX5_closeRoutine_46 ?_
    refine tn_aload_n dX5_closeRoutine_47 rfl 0 rfl ?_
    refine tn_getR (ci := 5) (i := 2) (n := 35) (x := xq20) dX5_closeRoutine_48 rfl lay_5 (by decide) fl5_47 ha rfl rfl (rc_F F33 (Or.inl (by decide)) (by decide) (hx21)) ?_
    refine tn_getI (ci := 1) (i := 2) (n := 7) (t := σ6.2.1 7 xq20) dX5_closeRoutine_51 rfl lay_1 (by decide) fl5_152 hk22o rfl rfl (rc_F F33 (Or.inl (by decide)) (by decide) (rfl)) ?_
    have g45 : ((0 : Int) ≤ σ6.2.1 7 xq20 ∧ σ6.2.1 7 xq20 ≤ 12) := wf_7 w13 hk22o
    refine tn_callSN (M := m_X5_closeRoutine) (pc := 54) (ix := 129) (M' := m_X11_put) (As := [.ref xq41, .int (iI 0), .int (iI (σ6.2.1 7 xq20))]) (rest := []) dX5_closeRoutine_54 ok_X11_put stt_X11_put nl5_129 np_X11_put rfl (Nat.le_of_ble_eq_true rfl) (Nat.le_of_ble_eq_true rfl) rfl (k_X11_put_x (d + 2) (T := T7) (σ := σ26) (x := xq41) (i := 0) (y := σ6.2.1 7 xq20) hk43i (by omega) (by decide) (by omega) w32 (nh_k hk43 (by unfold HT; omega)) (by rw [hk43]; exact vok_11 (by omega))) (fun r46 T48 σ47 gt49 hp => ?_)
    obtain ⟨rfl, rfl, w53, F54, f50, f51⟩ := hp
    clear gt49
    have fx55 : RDX σ47 a Sx nx jx (cx) (Nx + 1) := RDX.fc fx35 w32 ha F54 (by decide) (by decide)
    have rp56 : RP σ47 a (kp + 1) := RP.frc rp36 F54 (by decide) (by decide) (by decide) (by decide) (by decide)
    have ct57a : adN cl40 14 xq20 = xq41 := adN_of (by rw [cl40e]; exact (rc_F F33 (Or.inl (by decide)) (by decide) (hx42)))
    have ct577 : cl40.2.1 7 xq20 = σ6.2.1 7 xq20 := by rw [cl40e]; exact (rc_F F33 (Or.inl (by decide)) (by decide) (rfl))
    have ct57 : CLT cl40 σ47 xq20 0 0 := CLT.in (P := (0 : Int) ≤ 0 ∧ (0 : Int) < ((T7 xq41).2 : Int)) cl40s (by rw [ct57a, ct577, cl40e]; exact f51) ⟨by omega, by have z9 := ar_of (wf_14 cl40w cl40o) (show cl40.2.1 14 xq20 = (xq41 : Int) by rw [cl40e]; exact (rc_F F33 (Or.inl (by decide)) (by decide) (hx42))); have z8 := z9.2; omega⟩
    show Tn _ _ 57 T7 σ47 [(0, .ref a), (1, .int (iI w))] [] _
    refine tn_iconst dX5_closeRoutine_57 ?_
    refine tn_istore_n (L' := [(2, .int (iI 0)), (0, .ref a), (1, .int (iI w))]) dX5_closeRoutine_58 rfl (by decide) rfl ?_
    refine tn_sub [1, 0] rfl (l_X5_closeRoutine_m_59 (d) (T := T7) (σ0 := σ47) (a := a) (kp := kp + 1) (Sx := Sx) (nx := nx) (jx := jx) (cy := cx) (Ny := Nx + 1) (sq := cl40) (cq := xq20) (Nq := (cl40.2.1 7 xq20)) ha w53 cl40s (show σ47.2.1 35 a = (xq20 : Int) from ((CLT.f ct57 35 a (by decide)).trans cl405)) cl40o rfl (wf_7 cl40w cl40o) (by omega) (fun i258 σ59 w62 F63 r64 f65 f66 f67 f68 f69 => ?_) _ (0) σ47 w53 FrC.rfl (by omega) fx55 ct57 (by have z9 := wf_7 cl40w cl40o; omega) rp56 rfl)
    show Tn _ _ 88 T7 σ59 [(0, .ref a), (2, .int (iI i258))] [] _
    refine tn_iconst dX5_closeRoutine_88 ?_
    refine tn_istore_n (L' := [(2, .int (iI 0)), (0, .ref a)]) dX5_closeRoutine_89 rfl (by decide) rfl ?_
    have ct706 : i258 = cl40.2.1 7 xq20 := by have z8 := f69; have z6 := f67; have z7 := wf_7 cl40w cl40o; omega
    have ct70 : CLT cl40 σ59 xq20 (cl40.2.1 7 xq20) 0 := by have z9 := f66; rw [ct706] at z9; exact z9
    refine tn_sub [1, 0] rfl (l_X5_closeRoutine_m_90 (d) (T := T7) (σ0 := σ59) (a := a) (kp := kp + 1) (Sx := Sx) (nx := nx) (jx := jx) (cy := cx) (Ny := Nx + 1) (sq := cl40) (cq := xq20) (Nq := (cl40.2.1 7 xq20)) ha w62 cl40s (show σ59.2.1 35 a = (xq20 : Int) from ((CLT.f ct70 35 a (by decide)).trans cl405)) cl40o cl40k (by omega) (fun i271 σ72 w75 F76 r77 f78 f79 f80 f81 f82 => ?_) _ (0) σ59 w62 FrC.rfl (by omega) f65 ct70 (Or.inl rfl) f68 rfl)
    show Tn _ _ 118 T7 σ72 [(0, .ref a), (2, .int (iI i271))] [] _
    have cz83j : i271 = (if cl40.2.1 6 xq20 < 120 then cl40.2.1 6 xq20 else 120) := by have z8 := f82; have z6 := f80; have z7 := wf_6 cl40w cl40o; split <;> omega
    have cz83 : CLT cl40 σ72 xq20 (cl40.2.1 7 xq20) (if cl40.2.1 6 xq20 < 120 then cl40.2.1 6 xq20 else 120) := by have z9 := f79; rw [cz83j] at z9; exact z9
    exact tn_vret rfl dX5_closeRoutine_118 ⟨rfl, w75, (((((FrC.rfl.trans (FrC.sub F14 (by decide))).trans (FrC.sub (FrC.old F33 gt8) (by decide))).trans (FrC.sub (FrC.old F54 gt8) (by decide))).trans (FrC.sub (FrC.old F63 gt8) (by decide))).trans (FrC.sub (FrC.old F76 gt8) (by decide))), RDX.cq (RDX.nq f78 (by omega)) (uC0n (by omega)).symm, ⟨cl40, cl40w, cl40m, by rw [cl40d]; exact cz83⟩, (RP.up f81 (by omega))⟩
  · refine tn_aload_n dX5_closeRoutine_33 rfl 0 rfl ?_
    refine tn_iconst dX5_closeRoutine_34 ?_
    refine tn_iload_n dX5_closeRoutine_35 rfl 1 rfl ?_
    refine tn_callV (M := m_X5_closeRoutine) (pc := 36) (ix := 113) (ci := 5) (M' := m_X5_note) (As := [.int (iI 5), .int (iI w)]) (rest := []) dX5_closeRoutine_36 ok_X5_note im_X5_note se_X5_note ml5_113 np_X5_note rfl rfl ha rfl (Nat.le_of_ble_eq_true rfl) (Nat.le_of_ble_eq_true rfl) rfl (k_X5_note_m (d + 2) (T := T7) (σ := σ26) (a := a) (f := 5) (p := w) ha (by decide) (by omega) w32 ) (fun r84 T86 σ85 gt87 hp => ?_)
    obtain ⟨rfl, rfl, w91, F92, f88, f89⟩ := hp
    clear gt87
    have fx93 : RDX σ85 a Sx nx jx (fpC (cntN 5 (w) (cx).fp) (cx)) (Nx + 1) := RDX.nt fx35 w32 ha F92 f88
    have rp94 : RP σ85 a (kp + 1) := RP.frc rp36 F92 (by decide) (by decide) (by decide) (by decide) (by decide)
    show Tn _ _ 39 T7 σ85 [(0, .ref a), (1, .int (iI w))] [] _
    have mg95 : MG Tg gs T7 σ85 a ((mx).put (mkI 7 0 0 1 0 0)) := (MG.nt mg34l f89)
    obtain ⟨cl96, cl96e⟩ : ∃ z : MS, z = σ85 := ⟨_, rfl⟩
    have cl96m : MG Tg gs T7 cl96 a ((mx).put (mkI 7 0 0 1 0 0)) := by rw [cl96e]; exact mg95
    have cl96w : WT T7 cl96 := by rw [cl96e]; exact w91
    have cl965 : cl96.2.1 35 a = (xq20 : Int) := by rw [cl96e]; exact rc_F F92 (Or.inl (by decide)) (by decide) (rc_F F33 (Or.inl (by decide)) (by decide) (hx21))
    have cl96d : adN gs 35 a = xq20 := MG.cd cl96m cl965
    have cl96o : OB T7 xq20 1 := code_ob cl96w ha cl965
    have cl96s : DS [adN cl96 14 xq20, adN cl96 15 xq20, adN cl96 5 xq20] := (FG.inj cl96m.1 hI hwg hSc).d3 (by rw [← cl96d]; exact hSc) cl96o
    have cl96k := MG.kd cl96m cl96d
    refine tn_aload_n dX5_closeRoutine_39 rfl 0 rfl ?_
    refine tn_getR (ci := 5) (i := 2) (n := 35) (x := xq20) dX5_closeRoutine_40 rfl lay_5 (by decide) fl5_47 ha rfl rfl (rc_F F92 (Or.inl (by decide)) (by decide) (rc_F F33 (Or.inl (by decide)) (by decide) (hx21))) ?_
    obtain ⟨xq97, hx98, hk99, hl100⟩ : ∃ x : Nat, σ6.2.1 14 xq20 = (x : Int) ∧ AR T7 x 11 12 12 := wf_14 w13 hk22o
    have hk99i : IA T7 xq97 := by unfold IA; omega
    refine tn_getR (ci := 1) (i := 9) (n := 14) (x := xq97) dX5_closeRoutine_43 rfl lay_1 (by decide) fl5_149 hk22o rfl rfl (rc_F F92 (Or.inl (by decide)) (by decide) (rc_F F33 (Or.inl (by decide)) (by decide) (hx98))) ?_
    refine tn_iconst dX5_closeRoutine_46 ?_
    refine tn_aload_n dX5_closeRoutine_47 rfl 0 rfl ?_
    refine tn_getR (ci := 5) (i := 2) (n := 35) (x := xq20) dX5_closeRoutine_48 rfl lay_5 (by decide) fl5_47 ha rfl rfl (rc_F F92 (Or.inl (by decide)) (by decide) (rc_F F33 (Or.inl (by decide)) (by decide) (hx21))) ?_
    refine tn_getI (ci := 1) (i := 2) (n := 7) (t := σ6.2.1 7 xq20) dX5_closeRoutine_51 rfl lay_1 (by decide) fl5_152 hk22o rfl rfl (rc_F F92 (Or.inl (by decide)) (by decide) (rc_F F33 (Or.inl (by decide)) (by decide) (rfl))) ?_
    have g101 : ((0 : Int) ≤ σ6.2.1 7 xq20 ∧ σ6.2.1 7 xq20 ≤ 12) := wf_7 w13 hk22o
    refine tn_callSN (M := m_X5_closeRoutine) (pc := 54) (ix := 129) (M' := m_X11_put) (As := [.ref xq97, .int (iI 0), .int (iI (σ6.2.1 7 xq20))]) (rest := []) dX5_closeRoutine_54 ok_X11_put stt_X11_put nl5_129 np_X11_put rfl (Nat.le_of_ble_eq_true rfl) (Nat.le_of_ble_eq_true rfl) rfl (k_X11_put_x (d + 2) (T := T7) (σ := σ85) (x := xq97) (i := 0) (y := σ6.2.1 7 xq20) hk99i (by omega) (by decide) (by omega) w91 (nh_k hk99 (by unfold HT; omega)) (by rw [hk99]; exact vok_11 (by omega))) (fun r102 T104 σ103 gt105 hp => ?_)
    obtain ⟨rfl, rfl, w109, F110, f106, f107⟩ := hp
    clear gt105
    have fx111 : RDX σ103 a Sx nx jx (fpC (cntN 5 (w) (cx).fp) (cx)) (Nx + 1) := RDX.fc fx93 w91 ha F110 (by decide) (by decide)
    have rp112 : RP σ103 a (kp + 1) := RP.frc rp94 F110 (by decide) (by decide) (by decide) (by decide) (by decide)
    have ct113a : adN cl96 14 xq20 = xq97 := adN_of (by rw [cl96e]; exact (rc_F F92 (Or.inl (by decide)) (by decide) (rc_F F33 (Or.inl (by decide)) (by decide) (hx98))))
    have ct1137 : cl96.2.1 7 xq20 = σ6.2.1 7 xq20 := by rw [cl96e]; exact (rc_F F92 (Or.inl (by decide)) (by decide) (rc_F F33 (Or.inl (by decide)) (by decide) (rfl)))
    have ct113 : CLT cl96 σ103 xq20 0 0 := CLT.in (P := (0 : Int) ≤ 0 ∧ (0 : Int) < ((T7 xq97).2 : Int)) cl96s (by rw [ct113a, ct1137, cl96e]; exact f107) ⟨by omega, by have z9 := ar_of (wf_14 cl96w cl96o) (show cl96.2.1 14 xq20 = (xq97 : Int) by rw [cl96e]; exact (rc_F F92 (Or.inl (by decide)) (by decide) (rc_F F33 (Or.inl (by decide)) (by decide) (hx98)))); have z8 := z9.2; omega⟩
    show Tn _ _ 57 T7 σ103 [(0, .ref a), (1, .int (iI w))] [] _
    refine tn_iconst dX5_closeRoutine_57 ?_
    refine tn_istore_n (L' := [(2, .int (iI 0)), (0, .ref a), (1, .int (iI w))]) dX5_closeRoutine_58 rfl (by decide) rfl ?_
    refine tn_sub [1, 0] rfl (l_X5_closeRoutine_m_59 (d) (T := T7) (σ0 := σ103) (a := a) (kp := kp + 1) (Sx := Sx) (nx := nx) (jx := jx) (cy := fpC (cntN 5 (w) (cx).fp) (cx)) (Ny := Nx + 1) (sq := cl96) (cq := xq20) (Nq := (cl96.2.1 7 xq20)) ha w109 cl96s (show σ103.2.1 35 a = (xq20 : Int) from ((CLT.f ct113 35 a (by decide)).trans cl965)) cl96o rfl (wf_7 cl96w cl96o) (by omega) (fun i2114 σ115 w118 F119 r120 f121 f122 f123 f124 f125 => ?_) _ (0) σ103 w109 FrC.rfl (by omega) fx111 ct113 (by have z9 := wf_7 cl96w cl96o; omega) rp112 rfl)
    show Tn _ _ 88 T7 σ115 [(0, .ref a), (2, .int (iI i2114))] [] _
    refine tn_iconst dX5_closeRoutine_88 ?_
    refine tn_istore_n (L' := [(2, .int (iI 0)), (0, .ref a)]) dX5_closeRoutine_89 rfl (by decide) rfl ?_
    have ct1266 : i2114 = cl96.2.1 7 xq20 := by have z8 := f125; have z6 := f123; have z7 := wf_7 cl96w cl96o; omega
    have ct126 : CLT cl96 σ115 xq20 (cl96.2.1 7 xq20) 0 := by have z9 := f122; rw [ct1266] at z9; exact z9
    refine tn_sub [1, 0] rfl (l_X5_closeRoutine_m_90 (d) (T := T7) (σ0 := σ115) (a := a) (kp := kp + 1) (Sx := Sx) (nx := nx) (jx := jx) (cy := fpC (cntN 5 (w) (cx).fp) (cx)) (Ny := Nx + 1) (sq := cl96) (cq := xq20) (Nq := (cl96.2.1 7 xq20)) ha w118 cl96s (show σ115.2.1 35 a = (xq20 : Int) from ((CLT.f ct126 35 a (by decide)).trans cl965)) cl96o cl96k (by omega) (fun i2127 σ128 w131 F132 r133 f134 f135 f136 f137 f138 => ?_) _ (0) σ115 w118 FrC.rfl (by omega) f121 ct126 (Or.inl rfl) f124 rfl)
    show Tn _ _ 118 T7 σ128 [(0, .ref a), (2, .int (iI i2127))] [] _
    have cz139j : i2127 = (if cl96.2.1 6 xq20 < 120 then cl96.2.1 6 xq20 else 120) := by have z8 := f138; have z6 := f136; have z7 := wf_6 cl96w cl96o; split <;> omega
    have cz139 : CLT cl96 σ128 xq20 (cl96.2.1 7 xq20) (if cl96.2.1 6 xq20 < 120 then cl96.2.1 6 xq20 else 120) := by have z9 := f135; rw [cz139j] at z9; exact z9
    exact tn_vret rfl dX5_closeRoutine_118 ⟨rfl, w131, ((((((FrC.rfl.trans (FrC.sub F14 (by decide))).trans (FrC.sub (FrC.old F33 gt8) (by decide))).trans (FrC.sub (FrC.old F92 gt8) (by decide))).trans (FrC.sub (FrC.old F110 gt8) (by decide))).trans (FrC.sub (FrC.old F119 gt8) (by decide))).trans (FrC.sub (FrC.old F132 gt8) (by decide))), RDX.cq (RDX.nq f134 (by omega)) (uC0o (by omega)).symm, ⟨cl96, cl96w, cl96m, by rw [cl96d]; exact cz139⟩, (RP.up f137 (by omega))⟩
end
section
theorem k_get_c (d : Nat) {T : CT} {σ : MS} {a : Nat} {k c : Int} (ha : OB T a 1) (_hta : (T a).1 = 31) (h_k : -2147483648 ≤ k ∧ k ≤ 2147483647) (h_c : -2147483648 ≤ c ∧ c ≤ 2147483647) (hw : WT T σ) (hN : σ.2.1 6 a ≤ 200) (hc : 0 ≤ c ∧ c ≤ 12) : Tn (d + 1) m_X1_get 0 T σ [(0, .ref a), (1, .int (iI k)), (2, .int (iI c))] [] (fun ro T2 σ2 => ∃ v : Int, ro = some (.int (iI v)) ∧ T = T2 ∧ σ = σ2 ∧ (-2147483648 ≤ v ∧ v ≤ 2147483647) ∧ (v = cdW σ a k c)) := k_X1_get_x d ha h_k h_c hw (ad_1 hw ha 5 (by decide)) rfl rfl hN hc
theorem k_set_c (d : Nat) {T : CT} {σ : MS} {a : Nat} {k c y : Int} (ha : OB T a 1) (hta : (T a).1 = 31) (h_k : -2147483648 ≤ k ∧ k ≤ 2147483647) (h_c : -2147483648 ≤ c ∧ c ≤ 2147483647) (h_y : -2147483648 ≤ y ∧ y ≤ 2147483647) (hw : WT T σ) (hN : σ.2.1 6 a ≤ 200) (hc : 1 ≤ c ∧ c ≤ 12) (hk : 0 ≤ k ∧ k < σ.2.1 6 a) : Tn (d + 1) m_X1_set 0 T σ [(0, .ref a), (1, .int (iI k)), (2, .int (iI c)), (3, .int (iI y))] [] (fun ro T2 σ2 => ro = none ∧ T = T2 ∧ WT T2 σ2 ∧ FrC T [] σ σ2 ∧ (CHX [] [adN σ 5 a] [] σ σ2) ∧ (cdW σ2 a = uZ (cdW σ a) k (uZ (cdW σ a k) c y))) := by
  refine (k_X1_set_x d ha h_k h_c h_y hw (ad_1 hw ha 5 (by decide)) rfl rfl hN (by omega) (fun _ => hc.1) hk).mono (fun ro T2 σ2 hp => ?_)
  obtain ⟨p1, p2, p3, p4, ch, q⟩ := hp
  refine ⟨p1, p2, p3, p4, ch, ?_⟩
  have ax : adN σ2 5 a = adN σ 5 a := by unfold adN; rw [ch.f (by decide) (by simp)]
  have e6 : σ2.2.1 6 a = σ.2.1 6 a := ch.f (by decide) (by simp)
  unfold cdW
  rw [ax, e6]
  exact q
noncomputable def rofF (σ : MS) (a : Nat) (k : Int) : Int := @dite Int (∃ v, ROQ σ a k v) (Classical.propDecidable _) (fun h => Classical.choose h) (fun _ => 0)
section ROFS
variable {T : CT} {σ τ : MS} {a x : Nat} {k v w : Int} {c : CS}
theorem roq_uq (hx : σ.2.1 36 a = (x : Int)) (hb : σ.2.1 38 a ≤ 256) (h : ROQ σ a k v) (g : ROQ σ a k w) : v = w := by
  rcases h with ⟨h1, h2⟩ | ⟨⟨h1, h2⟩, h3⟩
  · rcases g with ⟨g1, g2⟩ | ⟨⟨g1, g2⟩, g3⟩
    · omega
    · exact absurd (g2 x hx) (h2 x hx w g1.1 g1.2 (by omega))
  · rcases g with ⟨g1, g2⟩ | ⟨⟨g1, g2⟩, g3⟩
    · exact absurd (h2 x hx) (g2 x hx v h1.1 h1.2 (by omega))
    · by_cases e : v < w
      · exact absurd (h2 x hx) (g3 x hx v h1.1 e (by omega))
      · by_cases e2 : w < v
        · exact absurd (g2 x hx) (h3 x hx w g1.1 e2 (by omega))
        · omega
theorem rofF_of (hx : σ.2.1 36 a = (x : Int)) (hb : σ.2.1 38 a ≤ 256) (h : ROQ σ a k v) : rofF σ a k = v := by
  have z : ∃ v, ROQ σ a k v := ⟨v, h⟩
  unfold rofF
  rw [dif_pos z]
  exact roq_uq hx hb (Classical.choose_spec z) h
theorem roq_cg (h1 : τ.2.1 36 a = σ.2.1 36 a) (h2 : τ.2.1 38 a = σ.2.1 38 a) (h3 : ∀ x : Nat, σ.2.1 36 a = (x : Int) → τ.2.1 (1000 + x) = σ.2.1 (1000 + x)) (q : ROQ τ a k v) : ROQ σ a k v := by
  unfold ROQ ROY ROV at *
  rw [h1, h2] at q
  rcases q with ⟨q1, q2⟩ | ⟨⟨q1, q2⟩, q3⟩
  · exact Or.inl ⟨q1, fun x hx i i0 i1 i2 => by have z := q2 x hx i i0 i1 i2; rw [h3 x hx] at z; exact z⟩
  · exact Or.inr ⟨⟨q1, fun x hx => by have z := q2 x hx; rw [h3 x hx] at z; exact z⟩, fun x hx i i0 i1 i2 => by have z := q3 x hx i i0 i1 i2; rw [h3 x hx] at z; exact z⟩
def RFC (c : CS) (f : Int → Int) : Prop := ∀ k w, KW k w → (fndQ c w → (0 ≤ f k ∧ f k < c.rn) ∧ c.rk (f k) = w ∧ ∀ j, 0 ≤ j → j < f k → c.rk j ≠ w) ∧ (¬ fndQ c w → f k = -1)
theorem roq_ex (hb : σ.2.1 38 a ≤ 256) (h0 : 0 ≤ σ.2.1 38 a) (hx : σ.2.1 36 a = (x : Int)) (k : Int) : ∃ v, ROQ σ a k v := by
  have key : ∀ n : Nat, (n : Int) ≤ σ.2.1 38 a → (∃ v, 0 ≤ v ∧ v < (n : Int) ∧ ROQ σ a k v) ∨ ROV σ a k n := by
    intro n
    induction n with
    | zero => exact fun _ => Or.inr (fun _ _ i i0 i1 _ => absurd i1 (by omega))
    | succ n ih =>
      intro hn
      rcases ih (by omega) with ⟨v, v0, v1, v2⟩ | r
      · exact Or.inl ⟨v, v0, by omega, v2⟩
      · by_cases e : σ.2.1 (1000 + x) n = k
        · exact Or.inl ⟨n, by omega, by omega, Or.inr ⟨⟨⟨by omega, by omega⟩, fun y hy => by rw [show y = x by omega]; exact e⟩, r⟩⟩
        · refine Or.inr (fun y hy i i0 i1 i2 => ?_)
          by_cases e2 : i = n
          · rw [e2, show y = x by omega]; exact e
          · exact r y hy i i0 (by omega) i2
  rcases key (σ.2.1 38 a).toNat (by omega) with ⟨v, -, -, v2⟩ | r
  · exact ⟨v, v2⟩
  · exact ⟨-1, Or.inl ⟨rfl, by rw [show ((σ.2.1 38 a).toNat : Int) = σ.2.1 38 a by omega] at r; exact r⟩⟩
theorem rfc_of (h : CS0 σ a c) (hw : WT T σ) (ha : OB T a 5) : RFC c (rofF σ a) := fun k w hk => by
  obtain ⟨x, hx, -⟩ := wf_36 hw ha
  have b := wf_38 hw ha
  obtain ⟨v, hv⟩ := roq_ex b.2 b.1 hx k
  have e := rofF_of hx b.2 hv
  have f := ROQ.fd hv h hw ha hk
  have e38 := h.1.2.2.1
  rw [e]
  refine ⟨fun q => ?_, fun q => ?_⟩
  · have n1 := f.mpr q
    rcases hv with ⟨q1, q2⟩ | ⟨⟨r1, r3⟩, q2⟩
    · exact absurd q1 n1
    · rw [e38] at r1
      have g := h.2.1 x hx v r1.1 r1.2
      rw [r3 x hx] at g
      refine ⟨r1, (KW.eq g hk).mp rfl, fun j j0 j1 z => ?_⟩
      exact q2 x hx j j0 j1 (by omega) ((KW.eq (h.2.1 x hx j j0 (by omega)) hk).mpr z)
  · by_cases z : v = -1
    · exact z
    · exact absurd (f.mp z) q
end ROFS
def stI (f : Int → Int) (i : It) : It := if i 0 = 10 then uZ i 2 (f (i 2)) else i
def SPE (T : CT) (σ : MS) (a : Nat) (E : Int → Nat) : Prop := ∀ q, 0 ≤ q → q < 7 → σ.2.1 (1000 + adN σ 34 a) q = (E q : Int) ∧ (T (E q)).1 = 31
def EAP (σ : MS) (E : Int → Nat) : Prop := ∀ p q, 0 ≤ p → p < 7 → 0 ≤ q → q < 7 → adN σ 5 (E p) = adN σ 5 (E q) → p = q
abbrev ECL (σ : MS) (E : Int → Nat) : List Nat := [adN σ 5 (E 0), adN σ 5 (E 1), adN σ 5 (E 2), adN σ 5 (E 3), adN σ 5 (E 4), adN σ 5 (E 5), adN σ 5 (E 6)]
def STL (E : Int → Nat) (f : Int → Int) (s0 σ : MS) (i k : Int) : Prop := CHX [] (ECL s0 E) [] s0 σ ∧ ∀ q, 0 ≤ q → q < 7 → ∀ y, cdW σ (E q) y = if q < i ∨ (q = i ∧ y < k) then stI f (cdW s0 (E q) y) else cdW s0 (E q) y
section STLS
variable {T : CT} {E : Int → Nat} {f : Int → Int} {s0 σ τ : MS} {i k v y : Int} {a b x : Nat}
theorem ecl_mem {q : Int} (q0 : 0 ≤ q) (q1 : q < 7) : adN s0 5 (E q) ∈ ECL s0 E := by
  rcases (show q = 0 ∨ q = 1 ∨ q = 2 ∨ q = 3 ∨ q = 4 ∨ q = 5 ∨ q = 6 by omega) with rfl | rfl | rfl | rfl | rfl | rfl | rfl <;> simp
theorem stI_z : stI f (fun _ => 0) = fun _ => 0 := by unfold stI; rw [if_neg (by decide)]
theorem cdw_out (h : y < 0 ∨ σ.2.1 6 b ≤ y) : cdW σ b y = fun _ => 0 := by
  funext c
  unfold cdW cW
  rw [if_neg (by omega)]
theorem STL.fd (h : STL E f s0 σ i k) (n : Nat) (b : Nat) (hn : n < 1000) : σ.2.1 n b = s0.2.1 n b := h.1.f hn (by simp)
theorem STL.ad (h : STL E f s0 σ i k) (n : Nat) (b : Nat) (hn : n < 1000) : adN σ n b = adN s0 n b := by unfold adN; rw [h.fd n b hn]
theorem STL.in : STL E f s0 s0 0 0 := ⟨CHX.rfl, fun q q0 q1 y => by
  by_cases z : q < 0 ∨ (q = 0 ∧ y < 0)
  · rw [if_pos z, cdw_out (Or.inl (by omega)), stI_z]
  · rw [if_neg z]⟩
theorem STL.no (h : STL E f s0 σ i k) (hi : 0 ≤ i ∧ i < 7) (hk : cdW σ (E i) k 0 ≠ 10) : STL E f s0 σ i (k + 1) := by
  refine ⟨h.1, fun q q0 q1 y => ?_⟩
  rw [h.2 q q0 q1 y]
  by_cases z : q < i ∨ (q = i ∧ y < k)
  · rw [if_pos z, if_pos (by omega)]
  · rw [if_neg z]
    by_cases w : q = i ∧ y = k
    · rw [if_pos (by omega), w.1, w.2]
      have e := h.2 i hi.1 hi.2 k
      rw [if_neg (by omega)] at e
      rw [e] at hk
      unfold stI
      rw [if_neg hk]
    · rw [if_neg (by omega)]
theorem STL.set (h : STL E f s0 σ i k) (hi : 0 ≤ i ∧ i < 7) (hp : EAP s0 E) (ch : CHX [] [adN σ 5 (E i)] [] σ τ) (hk : cdW σ (E i) k 0 = 10) (hv : f (cdW σ (E i) k 2) = v) (e : cdW τ (E i) = uZ (cdW σ (E i)) k (uZ (cdW σ (E i) k) 2 v)) : STL E f s0 τ i (k + 1) := by
  have ea := h.ad 5 (E i) (by decide)
  rw [ea] at ch
  refine ⟨h.1.trans (CHX.sub ch (by simp) (fun x hx => by rw [List.mem_singleton.mp hx]; exact ecl_mem hi.1 hi.2) (by simp)), fun q q0 q1 y => ?_⟩
  by_cases w : q = i
  · subst w
    rw [e]
    have e2 := h.2 q q0 q1 k
    rw [if_neg (by omega)] at e2
    by_cases z : y = k
    · subst z
      rw [uZ_eq, if_pos (by omega), ← e2]
      unfold stI
      rw [if_pos hk, hv]
    · rw [uZ_ne z, h.2 q q0 q1 y]
      by_cases z2 : y < k
      · rw [if_pos (by omega), if_pos (by omega)]
      · rw [if_neg (by omega), if_neg (by omega)]
  · have ew : cdW τ (E q) = cdW σ (E q) := by
      have e6 : τ.2.1 6 (E q) = σ.2.1 6 (E q) := ch.f (by decide) (by simp)
      have e5 : adN τ 5 (E q) = adN σ 5 (E q) := by unfold adN; rw [ch.f (by decide) (by simp)]
      unfold cdW
      rw [e6, e5]
      refine cW_row (ch.r ?_)
      rw [h.ad 5 (E q) (by decide)]
      simp only [List.mem_singleton]
      exact fun z => w (hp q i q0 q1 hi.1 hi.2 z)
    rw [ew, h.2 q q0 q1 y]
    by_cases z : q < i
    · rw [if_pos (Or.inl z), if_pos (Or.inl z)]
    · rw [if_neg (by omega), if_neg (by omega)]
theorem STL.nx (h : STL E f s0 σ i k) (hn : s0.2.1 6 (E i) ≤ k) : STL E f s0 σ (i + 1) 0 := by
  refine ⟨h.1, fun q q0 q1 y => ?_⟩
  rw [h.2 q q0 q1 y]
  by_cases z : q < i
  · rw [if_pos (Or.inl z), if_pos (by omega)]
  · by_cases w : q = i
    · subst w
      by_cases z2 : y < k
      · rw [if_pos (by omega), if_pos (by omega)]
      · rw [if_neg (by omega), if_pos (by omega), cdw_out (Or.inr (by omega)), stI_z]
    · rw [if_neg (by omega)]
      by_cases z3 : q = i + 1 ∧ y < 0
      · rw [if_pos (by omega), cdw_out (Or.inl (by omega)), stI_z]
      · rw [if_neg (by omega)]
theorem STL.rof (h : STL E (rofF s0 a) s0 σ i k) (hw : WT T s0) (ha : OB T a 5) (hE : SPE T s0 a E) (q : ROQ σ a y v) : rofF s0 a y = v := by
  obtain ⟨x, hx, ar⟩ := wf_36 hw ha
  have b := wf_38 hw ha
  refine rofF_of hx b.2 (roq_cg (h.fd 36 a (by decide)) (h.fd 38 a (by decide)) (fun z hz => h.1.r (fun w => ?_)) q)
  have ez : z = x := by omega
  subst ez
  have key : ∀ p, 0 ≤ p → p < 7 → z ≠ adN s0 5 (E p) := fun p p0 p1 => by
    have t := (hE p p0 p1).2
    exact cel_ne hw ⟨by omega, by rw [t]; rfl, by omega⟩ t ar (by decide)
  simp only [List.mem_cons, List.not_mem_nil, or_false] at w
  rcases w with w | w | w | w | w | w | w
  · exact key 0 (by decide) (by decide) w
  · exact key 1 (by decide) (by decide) w
  · exact key 2 (by decide) (by decide) w
  · exact key 3 (by decide) (by decide) w
  · exact key 4 (by decide) (by decide) w
  · exact key 5 (by decide) (by decide) w
  · exact key 6 (by decide) (by decide) w
end STLS
theorem cSs_p {c : CS} {n : Nat} : ∀ x, x ∈ cSs c n → x.2 ≠ 0 := by
  induction n with
  | zero => exact fun x h => absurd h (by show ¬ x ∈ ([] : List NT); simp)
  | succ n ih =>
    intro x h
    have h2 : x ∈ cSs c n ++ cS c (n : Int) := h
    rcases List.mem_append.mp h2 with q | q
    · exact ih x q
    · unfold cS at q
      by_cases z : ∃ q, 0 ≤ q ∧ q < c.rn ∧ c.rk q = c.ck (n : Int) ∧ ∀ j, 0 ≤ j → j < q → c.rk j ≠ c.ck (n : Int)
      · rw [ifP_t z] at q
        by_cases z2 : ∃ q, (0 ≤ q ∧ q < c.rn ∧ c.rk q = c.ck (n : Int) ∧ ∀ j, 0 ≤ j → j < q → c.rk j ≠ c.ck (n : Int)) ∧ c.rp q ≠ c.cc (n : Int)
        · rw [ifP_t z2] at q
          rw [List.mem_singleton.mp q]; show (4 : Int) ≠ 0; decide
        · rw [ifP_f z2] at q; exact absurd q (by simp)
      · rw [ifP_f z] at q
        rw [List.mem_singleton.mp q]; show (3 : Int) ≠ 0; decide
def SQM (σ σ2 : MS) (a : Nat) (c : CS) (E : Int → Nat) (v : Int) : Prop := CHX [(43, a), (44, a)] (ECL σ E) [] σ σ2 ∧ (v = 1 → c.fp.1 = 0 ∧ ∃ f, RFC c f ∧ ∀ q, 0 ≤ q → q < c.rn → q < 7 → ∀ y, cdW σ2 (E q) y = stI f (cdW σ (E q) y))
section SQMS
variable {σ s0 s1 : MS} {a : Nat} {c : CS} {E : Int → Nat} {f : Int → Int} {i v : Int}
theorem sqm_e5 (c0 : CHX [(43, a), (44, a)] [] [] σ s0) : ∀ q, adN s0 5 (E q) = adN σ 5 (E q) := fun q => by unfold adN; rw [c0.f (by decide) (by simp)]
theorem sqm_ch (c0 : CHX [(43, a), (44, a)] [] [] σ s0) (h : STL E f s0 s1 i 0) : CHX [(43, a), (44, a)] (ECL σ E) [] σ s1 := by
  have e5 := sqm_e5 (E := E) c0
  have ee : ECL s0 E = ECL σ E := by unfold ECL; rw [e5, e5, e5, e5, e5, e5, e5]
  have c1 := h.1
  rw [ee] at c1
  exact (CHX.sub c0 (by simp) (by simp) (by simp)).trans (CHX.sub c1 (by simp) (fun x hx => hx) (by simp))
theorem SQM.no (c0 : CHX [(43, a), (44, a)] [] [] σ s0) (h : STL E f s0 s1 i 0) (hv : v ≠ 1) : SQM σ s1 a c E v := ⟨sqm_ch c0 h, fun q => absurd q hv⟩
theorem SQM.of (h0 : c.fp.1 = 0) (hf : RFC c f) (c0 : CHX [(43, a), (44, a)] [] [] σ s0) (h : STL E f s0 s1 i 0) (hi : c.rn ≤ i ∨ 7 ≤ i) : SQM σ s1 a c E v := ⟨sqm_ch c0 h, fun _ => ⟨h0, f, hf, fun q q0 q1 q2 y => by
  rw [h.2 q q0 q2 y, if_pos (by omega)]
  have ew : cdW s0 (E q) = cdW σ (E q) := by
    unfold cdW
    rw [c0.f (n := 6) (a := E q) (by decide) (by simp), sqm_e5 c0]
    exact cW_row (c0.r (by simp))
  rw [ew]⟩⟩
end SQMS
theorem spe_ne {T : CT} {s0 : MS} {a x : Nat} {E : Int → Nat} (hw : WT T s0) (ha : OB T a 5) (hE : SPE T s0 a E) (e : adN s0 34 a = x) (h : x ∈ ECL s0 E) : False := by
  obtain ⟨y, y1, y2⟩ := wf_34 hw ha
  have ey : x = y := by rw [← e]; exact adN_of y1
  have key : ∀ p, 0 ≤ p → p < 7 → x ≠ adN s0 5 (E p) := fun p p0 p1 z => by
    have t := (hE p p0 p1).2
    have oc : OB T (E p) 1 := ⟨by omega, by rw [t]; rfl, by omega⟩
    have w := cel_of (wf_5 hw oc) (ad_1 hw oc 5 (by decide))
    have w2 := w.2.2 (by omega)
    rw [← z, ey] at w2
    have w3 := y2.1
    omega
  simp only [List.mem_cons, List.not_mem_nil, or_false] at h
  rcases h with w | w | w | w | w | w | w
  · exact key 0 (by decide) (by decide) w
  · exact key 1 (by decide) (by decide) w
  · exact key 2 (by decide) (by decide) w
  · exact key 3 (by decide) (by decide) w
  · exact key 4 (by decide) (by decide) w
  · exact key 5 (by decide) (by decide) w
  · exact key 6 (by decide) (by decide) w
end
section
set_option maxHeartbeats 1000000 in
set_option maxRecDepth 20000 in
theorem l_X5_settleCalls_m_2 (d : Nat) {T : CT} {σ0 : MS} {a : Nat} {Sx : Int → Int} {nx : Nat} {jx : Nat} {cx : CS} {post : Option Value → CT → MS → Prop} (h_a : OB T a 5) (hw0 : WT T σ0) (e42 : σ0.2.1 42 a = cx.cn) (e38 : σ0.2.1 38 a = cx.rn) (b42 : 0 ≤ cx.cn ∧ cx.cn ≤ 256) (b38 : 0 ≤ cx.rn ∧ cx.rn ≤ 256) (hx_82 : ∀ (i1 : Int) (σ : MS) , (WT T σ) → (FrC T [43, 44] σ0 σ) → (0 ≤ i1 ∧ i1 ≤ 256) → (0 ≤ i1 ∧ i1 ≤ cx.cn) → (RD0 σ a Sx nx jx (fpC (cnts (cSs cx (i1).toNat) cx.fp) cx)) → (CHX [(43, a), (44, a)] [] [] σ0 σ) → (cx.cn ≤ i1) → Tn (d + 3) m_X5_settleCalls 82 T σ [(0, .ref a), (1, .int (iI i1))] [] post) : ∀ (n : Nat) (i1 : Int) (σ : MS) , (WT T σ) → (FrC T [43, 44] σ0 σ) → (0 ≤ i1 ∧ i1 ≤ 256) → (0 ≤ i1 ∧ i1 ≤ cx.cn) → (RD0 σ a Sx nx jx (fpC (cnts (cSs cx (i1).toNat) cx.fp) cx)) → (CHX [(43, a), (44, a)] [] [] σ0 σ) → (2147483700 - i1).toNat = n → Tn (d + 3) m_X5_settleCalls 2 T σ [(0, .ref a), (1, .int (iI i1))] [] post := by
  intro n
  induction n using Nat.strongRecOn with
  | _ n ih =>
    intro i1 σ hw hF r_i1 h0 hst hch hm
    refine tn_iload_n dX5_settleCalls_2 rfl 1 rfl ?_
    refine tn_aload_n dX5_settleCalls_3 rfl 0 rfl ?_
    refine tn_getI (ci := 5) (i := 9) (n := 42) (t := σ0.2.1 42 a) dX5_settleCalls_4 rfl lay_5 (by decide) fl5_61 h_a rfl rfl (rc_F hF (Or.inl (by decide)) (by decide) (rfl)) ?_
    have g1 : ((0 : Int) ≤ σ0.2.1 42 a ∧ σ0.2.1 42 a ≤ 256) := wf_42 hw0 h_a
    refine tn_icmp_ge (tgt := 82) dX5_settleCalls_7 (by decide) ⟨by omega, by omega⟩ ⟨by omega, by omega⟩ (fun h2 => ?_) (fun h2 => ?_)
    · exact tn_sub [0, 1] rfl (hx_82 (i1) σ hw (FrC.rfl.trans (FrC.sub hF (by decide))) (by omega) (by omega) hst hch (by omega))
    · refine tn_aload_n dX5_settleCalls_10 rfl 0 rfl ?_
      refine tn_aload_n dX5_settleCalls_11 rfl 0 rfl ?_
      obtain ⟨xq3, hx4, hk5, hl6⟩ : ∃ x : Nat, σ0.2.1 39 a = (x : Int) ∧ AR T x 18 256 256 := wf_39 hw0 h_a
      have hk5i : IA T xq3 := by unfold IA; omega
      refine tn_getR (ci := 5) (i := 6) (n := 39) (x := xq3) dX5_settleCalls_12 rfl lay_5 (by decide) fl5_31 h_a rfl rfl (rc_F hF (Or.inl (by decide)) (by decide) (hx4)) ?_
      refine tn_iload_n dX5_settleCalls_15 rfl 1 rfl ?_
      refine tn_callSN (M := m_X5_settleCalls) (pc := 16) (ix := 231) (M' := m_X11_at) (As := [.ref xq3, .int (iI i1)]) (rest := [.ref a]) dX5_settleCalls_16 ok_X11_at stt_X11_at nl5_231 np_X11_at rfl (Nat.le_of_ble_eq_true rfl) (Nat.le_of_ble_eq_true rfl) rfl (k_X11_at (d + 1) (T := T) (σ := σ) (x := xq3) (i := i1) hk5i (by omega) (by omega) hw ) (fun r7 T9 σ8 gt10 hp => ?_)
      obtain ⟨v14, rfl, rfl, rfl, f11, f12, f13⟩ := hp
      clear gt10
      show Tn _ _ 19 T σ [(0, .ref a), (1, .int (iI i1))] [.int (iI v14), .ref a] _
      refine tn_callV (M := m_X5_settleCalls) (pc := 19) (ix := 109) (ci := 5) (M' := m_X5_routineOf) (As := [.int (iI v14)]) (rest := []) dX5_settleCalls_19 ok_X5_routineOf im_X5_routineOf se_X5_routineOf ml5_109 np_X5_routineOf rfl rfl h_a rfl (Nat.le_of_ble_eq_true rfl) (Nat.le_of_ble_eq_true rfl) rfl (k_X5_routineOf_f (d) (T := T) (σ := σ) (a := a) (k := v14) h_a (by omega) hw ) (fun r15 T17 σ16 gt18 hp => ?_)
      obtain ⟨v21, rfl, rfl, rfl, f19, f20⟩ := hp
      clear gt18
      show Tn _ _ 22 T σ [(0, .ref a), (1, .int (iI i1))] [.int (iI v21)] _
      refine tn_istore_n (L' := [(2, .int (iI v21)), (0, .ref a), (1, .int (iI i1))]) dX5_settleCalls_22 rfl (by decide) rfl ?_
      refine tn_iload_n dX5_settleCalls_23 rfl 0 rfl ?_
      refine tn_iconst dX5_settleCalls_24 ?_
      refine tn_icmp_ne (tgt := 44) dX5_settleCalls_25 (by decide) ⟨by omega, by omega⟩ ⟨by decide, by decide⟩ (fun h22 => ?_) (fun h22 => ?_)
      · refine tn_aload_n dX5_settleCalls_44 rfl 1 rfl ?_
        obtain ⟨xq23, hx24, hk25, hl26⟩ : ∃ x : Nat, σ0.2.1 37 a = (x : Int) ∧ AR T x 17 256 256 := wf_37 hw0 h_a
        have hk25i : IA T xq23 := by unfold IA; omega
        refine tn_getR (ci := 5) (i := 4) (n := 37) (x := xq23) dX5_settleCalls_45 rfl lay_5 (by decide) fl5_28 h_a rfl rfl (rc_F hF (Or.inl (by decide)) (by decide) (hx24)) ?_
        refine tn_iload_n dX5_settleCalls_48 rfl 0 rfl ?_
        refine tn_callSN (M := m_X5_settleCalls) (pc := 49) (ix := 231) (M' := m_X11_at) (As := [.ref xq23, .int (iI v21)]) (rest := []) dX5_settleCalls_49 ok_X11_at stt_X11_at nl5_231 np_X11_at rfl (Nat.le_of_ble_eq_true rfl) (Nat.le_of_ble_eq_true rfl) rfl (k_X11_at (d + 1) (T := T) (σ := σ) (x := xq23) (i := v21) hk25i (by omega) (by omega) hw ) (fun r27 T29 σ28 gt30 hp => ?_)
        obtain ⟨v34, rfl, rfl, rfl, f31, f32, f33⟩ := hp
        clear gt30
        show Tn _ _ 52 T σ [(2, .int (iI v21)), (0, .ref a), (1, .int (iI i1))] [.int (iI v34)] _
        refine tn_aload_n dX5_settleCalls_52 rfl 1 rfl ?_
        obtain ⟨xq35, hx36, hk37, hl38⟩ : ∃ x : Nat, σ0.2.1 41 a = (x : Int) ∧ AR T x 20 256 256 := wf_41 hw0 h_a
        have hk37i : IA T xq35 := by unfold IA; omega
        refine tn_getR (ci := 5) (i := 8) (n := 41) (x := xq35) dX5_settleCalls_53 rfl lay_5 (by decide) fl5_37 h_a rfl rfl (rc_F hF (Or.inl (by decide)) (by decide) (hx36)) ?_
        refine tn_iload_n dX5_settleCalls_56 rfl 2 rfl ?_
        refine tn_callSN (M := m_X5_settleCalls) (pc := 57) (ix := 231) (M' := m_X11_at) (As := [.ref xq35, .int (iI i1)]) (rest := [.int (iI v34)]) dX5_settleCalls_57 ok_X11_at stt_X11_at nl5_231 np_X11_at rfl (Nat.le_of_ble_eq_true rfl) (Nat.le_of_ble_eq_true rfl) rfl (k_X11_at (d + 1) (T := T) (σ := σ) (x := xq35) (i := i1) hk37i (by omega) (by omega) hw ) (fun r39 T41 σ40 gt42 hp => ?_)
        obtain ⟨v46, rfl, rfl, rfl, f43, f44, f45⟩ := hp
        clear gt42
        show Tn _ _ 60 T σ [(2, .int (iI v21)), (0, .ref a), (1, .int (iI i1))] [.int (iI v46), .int (iI v34)] _
        refine tn_icmp_eq (tgt := 76) dX5_settleCalls_60 (by decide) ⟨by omega, by omega⟩ ⟨by omega, by omega⟩ (fun h47 => ?_) (fun h47 => ?_)
        · refine tn_iinc (q0 := 2) (L' := [(1, .int (iI (i1 + 1))), (2, .int (iI v21)), (0, .ref a)]) dX5_settleCalls_76 rfl (by decide) rfl ?_
          refine tn_goto (tgt := 2) dX5_settleCalls_79 (by decide) ?_
          have w49 := f13; unfold ATV at w49; rw [if_pos ⟨by omega, by omega⟩] at w49
          have z48h := hst
          have z48k : KW (v14) (cx.ck i1) := by rw [w49]; exact z48h.2.1.2.2.2.1 xq3 (rc_F hF (Or.inl (by decide)) (by decide) (hx4)) i1 (by omega) (by show i1 < cx.cn; omega)
          have z48v := st_at (c := fpC (cnts (cSs cx i1.toNat) cx.fp) cx) f20 z48h.2.1 hw h_a z48k (by omega)
          have z48v2 : v21 < cx.rn := z48v.2.1
          have w50 := f33; unfold ATV at w50; rw [if_pos ⟨by omega, by omega⟩] at w50
          have w51 := f45; unfold ATV at w51; rw [if_pos ⟨by omega, by omega⟩] at w51
          have z48r : v34 = cx.rp v21 := by rw [w50]; exact z48h.2.1.2.2.1 xq23 (rc_F hF (Or.inl (by decide)) (by decide) (hx24)) v21 (by omega) z48v2
          have z48q : v46 = cx.cc i1 := by rw [w51]; exact z48h.2.1.2.2.2.2.2 xq35 (rc_F hF (Or.inl (by decide)) (by decide) (hx36)) i1 (by omega) (by show i1 < cx.cn; omega)
          have z48c : cS cx i1 = [] := st_eq (c := fpC (cnts (cSs cx i1.toNat) cx.fp) cx) f20 z48h.2.1 hw h_a z48k (by omega) (by show cx.rp v21 = cx.cc i1; omega)
          exact tn_sub [2, 0] rfl (ih _ (by omega) (i1 + 1) σ hw (FrC.rfl.trans (FrC.sub hF (by decide))) (by omega) (by omega) (RD0.qc hst (by rw [cSs_s cx (by omega), z48c]; rfl)) hch rfl)
        · refine tn_aload_n dX5_settleCalls_63 rfl 1 rfl ?_
          refine tn_iconst dX5_settleCalls_64 ?_
          refine tn_aload_n dX5_settleCalls_65 rfl 1 rfl ?_
          obtain ⟨xq52, hx53, hk54, hl55⟩ : ∃ x : Nat, σ0.2.1 40 a = (x : Int) ∧ AR T x 19 256 256 := wf_40 hw0 h_a
          have hk54i : IA T xq52 := by unfold IA; omega
          refine tn_getR (ci := 5) (i := 7) (n := 40) (x := xq52) dX5_settleCalls_66 rfl lay_5 (by decide) fl5_34 h_a rfl rfl (rc_F hF (Or.inl (by decide)) (by decide) (hx53)) ?_
          refine tn_iload_n dX5_settleCalls_69 rfl 2 rfl ?_
          refine tn_callSN (M := m_X5_settleCalls) (pc := 70) (ix := 231) (M' := m_X11_at) (As := [.ref xq52, .int (iI i1)]) (rest := [.int (iI 4), .ref a]) dX5_settleCalls_70 ok_X11_at stt_X11_at nl5_231 np_X11_at rfl (Nat.le_of_ble_eq_true rfl) (Nat.le_of_ble_eq_true rfl) rfl (k_X11_at (d + 1) (T := T) (σ := σ) (x := xq52) (i := i1) hk54i (by omega) (by omega) hw ) (fun r56 T58 σ57 gt59 hp => ?_)
          obtain ⟨v63, rfl, rfl, rfl, f60, f61, f62⟩ := hp
          clear gt59
          show Tn _ _ 73 T σ [(2, .int (iI v21)), (0, .ref a), (1, .int (iI i1))] [.int (iI v63), .int (iI 4), .ref a] _
          refine tn_callV (M := m_X5_settleCalls) (pc := 73) (ix := 113) (ci := 5) (M' := m_X5_note) (As := [.int (iI 4), .int (iI v63)]) (rest := []) dX5_settleCalls_73 ok_X5_note im_X5_note se_X5_note ml5_113 np_X5_note rfl rfl h_a rfl (Nat.le_of_ble_eq_true rfl) (Nat.le_of_ble_eq_true rfl) rfl (k_X5_note_m (d + 1) (T := T) (σ := σ) (a := a) (f := 4) (p := v63) h_a (by decide) (by omega) hw ) (fun r64 T66 σ65 gt67 hp => ?_)
          obtain ⟨rfl, rfl, w71, F72, f68, f69⟩ := hp
          clear gt67
          have fx73 : RD0 σ65 a Sx nx jx (fpC (cntN 4 (v63) (fpC (cnts (cSs cx i1.toNat) cx.fp) cx).fp) (fpC (cnts (cSs cx i1.toNat) cx.fp) cx)) := RD0.nt hst hw h_a F72 f68
          show Tn _ _ 76 T σ65 [(2, .int (iI v21)), (0, .ref a), (1, .int (iI i1))] [] _
          refine tn_iinc (q0 := 2) (L' := [(1, .int (iI (i1 + 1))), (2, .int (iI v21)), (0, .ref a)]) dX5_settleCalls_76 rfl (by decide) rfl ?_
          refine tn_goto (tgt := 2) dX5_settleCalls_79 (by decide) ?_
          have w75 := f13; unfold ATV at w75; rw [if_pos ⟨by omega, by omega⟩] at w75
          have z74h := hst
          have z74k : KW (v14) (cx.ck i1) := by rw [w75]; exact z74h.2.1.2.2.2.1 xq3 (rc_F hF (Or.inl (by decide)) (by decide) (hx4)) i1 (by omega) (by show i1 < cx.cn; omega)
          have z74v := st_at (c := fpC (cnts (cSs cx i1.toNat) cx.fp) cx) f20 z74h.2.1 hw h_a z74k (by omega)
          have z74v2 : v21 < cx.rn := z74v.2.1
          have w76 := f33; unfold ATV at w76; rw [if_pos ⟨by omega, by omega⟩] at w76
          have w77 := f45; unfold ATV at w77; rw [if_pos ⟨by omega, by omega⟩] at w77
          have z74r : v34 = cx.rp v21 := by rw [w76]; exact z74h.2.1.2.2.1 xq23 (rc_F hF (Or.inl (by decide)) (by decide) (hx24)) v21 (by omega) z74v2
          have z74q : v46 = cx.cc i1 := by rw [w77]; exact z74h.2.1.2.2.2.2.2 xq35 (rc_F hF (Or.inl (by decide)) (by decide) (hx36)) i1 (by omega) (by show i1 < cx.cn; omega)
          have z74c : cS cx i1 = [(cx.cp i1, 4)] := st_ne (c := fpC (cnts (cSs cx i1.toNat) cx.fp) cx) f20 z74h.2.1 hw h_a z74k (by omega) (by show cx.rp v21 ≠ cx.cc i1; omega)
          have w78 := f62; unfold ATV at w78; rw [if_pos ⟨by omega, by omega⟩] at w78
          have z74p : v63 = cx.cp i1 := by rw [w78]; exact z74h.2.1.2.2.2.2.1 xq52 (rc_F hF (Or.inl (by decide)) (by decide) (hx53)) i1 (by omega) (by show i1 < cx.cn; omega)
          exact tn_sub [2, 0] rfl (ih _ (by omega) (i1 + 1) σ65 w71 ((FrC.rfl.trans (FrC.sub hF (by decide))).trans (FrC.sub F72 (by decide))) (by omega) (by omega) (RD0.qc fx73 (by rw [cSs_s cx (by omega), z74c, z74p]; rfl)) (CHX.trans hch f69) rfl)
      · refine tn_aload_n dX5_settleCalls_28 rfl 1 rfl ?_
        refine tn_iconst dX5_settleCalls_29 ?_
        refine tn_aload_n dX5_settleCalls_30 rfl 1 rfl ?_
        obtain ⟨xq79, hx80, hk81, hl82⟩ : ∃ x : Nat, σ0.2.1 40 a = (x : Int) ∧ AR T x 19 256 256 := wf_40 hw0 h_a
        have hk81i : IA T xq79 := by unfold IA; omega
        refine tn_getR (ci := 5) (i := 7) (n := 40) (x := xq79) dX5_settleCalls_31 rfl lay_5 (by decide) fl5_34 h_a rfl rfl (rc_F hF (Or.inl (by decide)) (by decide) (hx80)) ?_
        refine tn_iload_n dX5_settleCalls_34 rfl 2 rfl ?_
        refine tn_callSN (M := m_X5_settleCalls) (pc := 35) (ix := 231) (M' := m_X11_at) (As := [.ref xq79, .int (iI i1)]) (rest := [.int (iI 3), .ref a]) dX5_settleCalls_35 ok_X11_at stt_X11_at nl5_231 np_X11_at rfl (Nat.le_of_ble_eq_true rfl) (Nat.le_of_ble_eq_true rfl) rfl (k_X11_at (d + 1) (T := T) (σ := σ) (x := xq79) (i := i1) hk81i (by omega) (by omega) hw ) (fun r83 T85 σ84 gt86 hp => ?_)
        obtain ⟨v90, rfl, rfl, rfl, f87, f88, f89⟩ := hp
        clear gt86
        show Tn _ _ 38 T σ [(2, .int (iI v21)), (0, .ref a), (1, .int (iI i1))] [.int (iI v90), .int (iI 3), .ref a] _
        refine tn_callV (M := m_X5_settleCalls) (pc := 38) (ix := 113) (ci := 5) (M' := m_X5_note) (As := [.int (iI 3), .int (iI v90)]) (rest := []) dX5_settleCalls_38 ok_X5_note im_X5_note se_X5_note ml5_113 np_X5_note rfl rfl h_a rfl (Nat.le_of_ble_eq_true rfl) (Nat.le_of_ble_eq_true rfl) rfl (k_X5_note_m (d + 1) (T := T) (σ := σ) (a := a) (f := 3) (p := v90) h_a (by decide) (by omega) hw ) (fun r91 T93 σ92 gt94 hp => ?_)
        obtain ⟨rfl, rfl, w98, F99, f95, f96⟩ := hp
        clear gt94
        have fx100 : RD0 σ92 a Sx nx jx (fpC (cntN 3 (v90) (fpC (cnts (cSs cx i1.toNat) cx.fp) cx).fp) (fpC (cnts (cSs cx i1.toNat) cx.fp) cx)) := RD0.nt hst hw h_a F99 f95
        show Tn _ _ 41 T σ92 [(2, .int (iI v21)), (0, .ref a), (1, .int (iI i1))] [] _
        refine tn_goto (tgt := 76) dX5_settleCalls_41 (by decide) ?_
        refine tn_iinc (q0 := 2) (L' := [(1, .int (iI (i1 + 1))), (2, .int (iI v21)), (0, .ref a)]) dX5_settleCalls_76 rfl (by decide) rfl ?_
        refine tn_goto (tgt := 2) dX5_settleCalls_79 (by decide) ?_
        have w102 := f13; unfold ATV at w102; rw [if_pos ⟨by omega, by omega⟩] at w102
        have z101h := hst
        have z101k : KW (v14) (cx.ck i1) := by rw [w102]; exact z101h.2.1.2.2.2.1 xq3 (rc_F hF (Or.inl (by decide)) (by decide) (hx4)) i1 (by omega) (by show i1 < cx.cn; omega)
        have z101c : cS cx i1 = [(cx.cp i1, 3)] := st_no (c := fpC (cnts (cSs cx i1.toNat) cx.fp) cx) f20 z101h.2.1 hw h_a z101k (by omega)
        have w103 := f89; unfold ATV at w103; rw [if_pos ⟨by omega, by omega⟩] at w103
        have z101p : v90 = cx.cp i1 := by rw [w103]; exact z101h.2.1.2.2.2.2.1 xq79 (rc_F hF (Or.inl (by decide)) (by decide) (hx80)) i1 (by omega) (by show i1 < cx.cn; omega)
        exact tn_sub [2, 0] rfl (ih _ (by omega) (i1 + 1) σ92 w98 ((FrC.rfl.trans (FrC.sub hF (by decide))).trans (FrC.sub F99 (by decide))) (by omega) (by omega) (RD0.qc fx100 (by rw [cSs_s cx (by omega), z101c, z101p]; rfl)) (CHX.trans hch f96) rfl)
set_option maxHeartbeats 1000000 in
set_option maxRecDepth 20000 in
theorem l_X5_settleCalls_m_117 (d : Nat) {T : CT} {σ0 : MS} {a : Nat} {c1 : Int} {rx2 : Nat} {E : Int → Nat} {cx : CS} {sq : MS} {post : Option Value → CT → MS → Prop} (h_a : OB T a 5) (r_c1 : 0 ≤ c1 ∧ c1 ≤ 6) (h_rx2 : OB T rx2 1) (t_rx2 : (T rx2).1 = 31) (hw0 : WT T σ0) (hsw : WT T sq) (hsE : SPE T sq a E) (hsA : EAP sq E) (hEx : E c1 = rx2) (hn2 : sq.2.1 6 rx2 ≤ 200) (h17 : 0 ≤ c1 ∧ c1 < 7) (hx_162 : ∀ (i3 : Int) (σ : MS) , (WT T σ) → (FrC T [] σ0 σ) → (0 ≤ i3 ∧ i3 ≤ 200) → (STL E (rofF sq a) sq σ c1 i3) → (sq.2.1 6 rx2 ≤ i3) → Tn (d + 3) m_X5_settleCalls 162 T σ [(0, .ref a), (1, .int (iI c1)), (2, .ref rx2), (3, .int (iI i3))] [] post) : ∀ (n : Nat) (i3 : Int) (σ : MS) , (WT T σ) → (FrC T [] σ0 σ) → (0 ≤ i3 ∧ i3 ≤ 200) → (STL E (rofF sq a) sq σ c1 i3) → (2147483700 - i3).toNat = n → Tn (d + 3) m_X5_settleCalls 117 T σ [(0, .ref a), (1, .int (iI c1)), (2, .ref rx2), (3, .int (iI i3))] [] post := by
  intro n
  induction n using Nat.strongRecOn with
  | _ n ih =>
    intro i3 σ hw hF r_i3 hq hm
    refine tn_aload_n dX5_settleCalls_117 rfl 2 rfl ?_
    refine tn_ifnull dX5_settleCalls_118 ?_
    refine tn_iload_n dX5_settleCalls_121 rfl 3 rfl ?_
    refine tn_aload_n dX5_settleCalls_122 rfl 2 rfl ?_
    refine tn_getI (ci := 1) (i := 1) (n := 6) (t := σ0.2.1 6 rx2) dX5_settleCalls_123 rfl lay_1 (by decide) fl5_146 h_rx2 rfl rfl (rc_F hF (Or.inl (by decide)) (by decide) (rfl)) ?_
    have g1 : ((0 : Int) ≤ σ0.2.1 6 rx2 ∧ σ0.2.1 6 rx2 ≤ 5000) ∧ ((T rx2).1 = 50 → σ0.2.1 6 rx2 ≤ 200) := wf_6 hw0 h_rx2
    have g1x := g1.2
    replace g1 := g1.1
    clear g1x
    refine tn_icmp_ge (tgt := 162) dX5_settleCalls_126 (by decide) ⟨by omega, by omega⟩ ⟨by omega, by omega⟩ (fun h2 => ?_) (fun h2 => ?_)
    · have rq3 : σ.2.1 6 rx2 = σ0.2.1 6 rx2 := rc_F hF (Or.inl (by decide)) (by decide) (rfl)
      have g64 : σ.2.1 6 rx2 = sq.2.1 6 rx2 := STL.fd hq 6 rx2 (by decide)
      exact tn_sub [0, 1, 2, 3] rfl (hx_162 (i3) σ hw (FrC.rfl.trans (FrC.sub hF (by decide))) (by omega) hq (by omega))
    · refine tn_aload_n dX5_settleCalls_129 rfl 2 rfl ?_
      refine tn_iload_n dX5_settleCalls_130 rfl 3 rfl ?_
      refine tn_iconst dX5_settleCalls_131 ?_
      have rq5 : σ.2.1 6 rx2 = σ0.2.1 6 rx2 := rc_F hF (Or.inl (by decide)) (by decide) (rfl)
      have g66 : σ.2.1 6 rx2 = sq.2.1 6 rx2 := STL.fd hq 6 rx2 (by decide)
      refine tn_callV (M := m_X5_settleCalls) (pc := 132) (ix := 164) (ci := 1) (M' := m_X1_get) (As := [.int (iI i3), .int (iI 0)]) (rest := []) dX5_settleCalls_132 ok_X1_get im_X1_get se_X1_get ml5_164 np_X1_get rfl rfl h_rx2 rfl (Nat.le_of_ble_eq_true rfl) (Nat.le_of_ble_eq_true rfl) rfl (k_get_c (d + 1) (T := T) (σ := σ) (a := rx2) (k := i3) (c := 0) h_rx2 t_rx2 (by omega) (by decide) hw (by omega) (by omega)) (fun r7 T9 σ8 gt10 hp => ?_)
      obtain ⟨v13, rfl, rfl, rfl, f11, f12⟩ := hp
      clear gt10
      show Tn _ _ 135 T σ [(0, .ref a), (1, .int (iI c1)), (2, .ref rx2), (3, .int (iI i3))] [.int (iI v13)] _
      refine tn_bipush dX5_settleCalls_135 (by decide) ?_
      refine tn_icmp_ne (tgt := 156) dX5_settleCalls_137 (by decide) ⟨by omega, by omega⟩ ⟨by decide, by decide⟩ (fun h14 => ?_) (fun h14 => ?_)
      · refine tn_iinc (q0 := 3) (L' := [(3, .int (iI (i3 + 1))), (0, .ref a), (1, .int (iI c1)), (2, .ref rx2)]) dX5_settleCalls_156 rfl (by decide) rfl ?_
        refine tn_goto (tgt := 117) dX5_settleCalls_159 (by decide) ?_
        have hq15 : STL E (rofF sq a) sq σ c1 (i3 + 1) := STL.no hq (by omega) (by rw [hEx, ← f12]; omega)
        exact tn_sub [1, 2, 3, 0] rfl (ih _ (by omega) (i3 + 1) σ hw (FrC.rfl.trans (FrC.sub hF (by decide))) (by omega) hq15 rfl)
      · refine tn_aload_n dX5_settleCalls_140 rfl 2 rfl ?_
        refine tn_iload_n dX5_settleCalls_141 rfl 3 rfl ?_
        refine tn_iconst dX5_settleCalls_142 ?_
        refine tn_aload_n dX5_settleCalls_143 rfl 0 rfl ?_
        refine tn_aload_n dX5_settleCalls_144 rfl 2 rfl ?_
        refine tn_iload_n dX5_settleCalls_145 rfl 3 rfl ?_
        refine tn_iconst dX5_settleCalls_146 ?_
        have rq16 : σ.2.1 6 rx2 = σ0.2.1 6 rx2 := rc_F hF (Or.inl (by decide)) (by decide) (rfl)
        have g617 : σ.2.1 6 rx2 = sq.2.1 6 rx2 := STL.fd hq 6 rx2 (by decide)
        refine tn_callV (M := m_X5_settleCalls) (pc := 147) (ix := 164) (ci := 1) (M' := m_X1_get) (As := [.int (iI i3), .int (iI 2)]) (rest := [.ref a, .int (iI 2), .int (iI i3), .ref rx2]) dX5_settleCalls_147 ok_X1_get im_X1_get se_X1_get ml5_164 np_X1_get rfl rfl h_rx2 rfl (Nat.le_of_ble_eq_true rfl) (Nat.le_of_ble_eq_true rfl) rfl (k_get_c (d + 1) (T := T) (σ := σ) (a := rx2) (k := i3) (c := 2) h_rx2 t_rx2 (by omega) (by decide) hw (by omega) (by omega)) (fun r18 T20 σ19 gt21 hp => ?_)
        obtain ⟨v24, rfl, rfl, rfl, f22, f23⟩ := hp
        clear gt21
        show Tn _ _ 150 T σ [(0, .ref a), (1, .int (iI c1)), (2, .ref rx2), (3, .int (iI i3))] [.int (iI v24), .ref a, .int (iI 2), .int (iI i3), .ref rx2] _
        refine tn_callV (M := m_X5_settleCalls) (pc := 150) (ix := 109) (ci := 5) (M' := m_X5_routineOf) (As := [.int (iI v24)]) (rest := [.int (iI 2), .int (iI i3), .ref rx2]) dX5_settleCalls_150 ok_X5_routineOf im_X5_routineOf se_X5_routineOf ml5_109 np_X5_routineOf rfl rfl h_a rfl (Nat.le_of_ble_eq_true rfl) (Nat.le_of_ble_eq_true rfl) rfl (k_X5_routineOf_f (d) (T := T) (σ := σ) (a := a) (k := v24) h_a (by omega) hw ) (fun r25 T27 σ26 gt28 hp => ?_)
        obtain ⟨v31, rfl, rfl, rfl, f29, f30⟩ := hp
        clear gt28
        show Tn _ _ 153 T σ [(0, .ref a), (1, .int (iI c1)), (2, .ref rx2), (3, .int (iI i3))] [.int (iI v31), .int (iI 2), .int (iI i3), .ref rx2] _
        have rq32 : σ.2.1 6 rx2 = σ0.2.1 6 rx2 := rc_F hF (Or.inl (by decide)) (by decide) (rfl)
        have g633 : σ.2.1 6 rx2 = sq.2.1 6 rx2 := STL.fd hq 6 rx2 (by decide)
        refine tn_callV (M := m_X5_settleCalls) (pc := 153) (ix := 167) (ci := 1) (M' := m_X1_set) (As := [.int (iI i3), .int (iI 2), .int (iI v31)]) (rest := []) dX5_settleCalls_153 ok_X1_set im_X1_set se_X1_set ml5_167 np_X1_set rfl rfl h_rx2 rfl (Nat.le_of_ble_eq_true rfl) (Nat.le_of_ble_eq_true rfl) rfl (k_set_c (d + 1) (T := T) (σ := σ) (a := rx2) (k := i3) (c := 2) (y := v31) h_rx2 t_rx2 (by omega) (by decide) (by omega) hw (by omega) (by omega) (by omega)) (fun r34 T36 σ35 gt37 hp => ?_)
        obtain ⟨rfl, rfl, w41, F42, f38, f39⟩ := hp
        clear gt37
        show Tn _ _ 156 T σ35 [(0, .ref a), (1, .int (iI c1)), (2, .ref rx2), (3, .int (iI i3))] [] _
        refine tn_iinc (q0 := 3) (L' := [(3, .int (iI (i3 + 1))), (0, .ref a), (1, .int (iI c1)), (2, .ref rx2)]) dX5_settleCalls_156 rfl (by decide) rfl ?_
        refine tn_goto (tgt := 117) dX5_settleCalls_159 (by decide) ?_
        have hq43 : STL E (rofF sq a) sq σ35 c1 (i3 + 1) := STL.set (v := v31) hq (by omega) hsA (by rw [hEx]; exact f38) (by rw [hEx, ← f12]; omega) (by rw [hEx, ← f23]; exact STL.rof hq hsw h_a hsE f30) (by rw [hEx]; exact f39)
        exact tn_sub [1, 2, 3, 0] rfl (ih _ (by omega) (i3 + 1) σ35 w41 ((FrC.rfl.trans (FrC.sub hF (by decide))).trans (FrC.sub F42 (by decide))) (by omega) hq43 rfl)
set_option maxHeartbeats 1000000 in
set_option maxRecDepth 20000 in
theorem l_X5_settleCalls_m_84 (d : Nat) {T : CT} {σ0 : MS} {a : Nat} {E : Int → Nat} {cx : CS} {sq : MS} {post : Option Value → CT → MS → Prop} (h_a : OB T a 5) (hw0 : WT T σ0) (hsw : WT T sq) (hsE : SPE T sq a E) (hsA : EAP sq E) (hsN : sq.2.1 43 a = 0 → ∀ q, 0 ≤ q → q < cx.rn → q < 7 → sq.2.1 6 (E q) ≤ 200) (hs8 : sq.2.1 38 a = cx.rn) (hx_168 : ∀ (i1 : Int) (σ : MS) , (WT T σ) → (FrC T [] σ0 σ) → (0 ≤ i1 ∧ i1 ≤ 7) → (STL E (rofF sq a) sq σ i1 0) → (sq.2.1 43 a ≠ 0 ∨ cx.rn ≤ i1 ∨ 7 ≤ i1) → Tn (d + 3) m_X5_settleCalls 168 T σ [(0, .ref a), (1, .int (iI i1))] [] post) : ∀ (n : Nat) (i1 : Int) (σ : MS) , (WT T σ) → (FrC T [] σ0 σ) → (0 ≤ i1 ∧ i1 ≤ 7) → (STL E (rofF sq a) sq σ i1 0) → (2147483700 - i1).toNat = n → Tn (d + 3) m_X5_settleCalls 84 T σ [(0, .ref a), (1, .int (iI i1))] [] post := by
  intro n
  induction n using Nat.strongRecOn with
  | _ n ih =>
    intro i1 σ hw hF r_i1 hq hm
    refine tn_aload_n dX5_settleCalls_84 rfl 0 rfl ?_
    refine tn_getI (ci := 5) (i := 10) (n := 43) (t := σ0.2.1 43 a) dX5_settleCalls_85 rfl lay_5 (by decide) fl5_51 h_a rfl rfl (rc_F hF (Or.inl (by decide)) (by decide) (rfl)) ?_
    have g1 : ((-2147483648 : Int) ≤ σ0.2.1 43 a ∧ σ0.2.1 43 a ≤ 2147483647) := wf_43 hw0 h_a
    refine tn_if_ne (tgt := 168) dX5_settleCalls_88 (by decide) ⟨by omega, by omega⟩ (fun h2 => ?_) (fun h2 => ?_)
    · have rq3 : σ.2.1 43 a = σ0.2.1 43 a := rc_F hF (Or.inl (by decide)) (by decide) (rfl)
      have rq4 : σ.2.1 38 a = σ0.2.1 38 a := rc_F hF (Or.inl (by decide)) (by decide) (rfl)
      have e35 : σ.2.1 43 a = sq.2.1 43 a := STL.fd hq 43 a (by decide)
      have e86 : σ.2.1 38 a = sq.2.1 38 a := STL.fd hq 38 a (by decide)
      exact tn_sub [0, 1] rfl (hx_168 (i1) σ hw (FrC.rfl.trans (FrC.sub hF (by decide))) (by omega) hq (by omega))
    · refine tn_iload_n dX5_settleCalls_91 rfl 1 rfl ?_
      refine tn_aload_n dX5_settleCalls_92 rfl 0 rfl ?_
      refine tn_getI (ci := 5) (i := 5) (n := 38) (t := σ0.2.1 38 a) dX5_settleCalls_93 rfl lay_5 (by decide) fl5_58 h_a rfl rfl (rc_F hF (Or.inl (by decide)) (by decide) (rfl)) ?_
      have g7 : ((0 : Int) ≤ σ0.2.1 38 a ∧ σ0.2.1 38 a ≤ 256) := wf_38 hw0 h_a
      refine tn_icmp_ge (tgt := 168) dX5_settleCalls_96 (by decide) ⟨by omega, by omega⟩ ⟨by omega, by omega⟩ (fun h8 => ?_) (fun h8 => ?_)
      · have rq9 : σ.2.1 43 a = σ0.2.1 43 a := rc_F hF (Or.inl (by decide)) (by decide) (rfl)
        have rq10 : σ.2.1 38 a = σ0.2.1 38 a := rc_F hF (Or.inl (by decide)) (by decide) (rfl)
        have e311 : σ.2.1 43 a = sq.2.1 43 a := STL.fd hq 43 a (by decide)
        have e812 : σ.2.1 38 a = sq.2.1 38 a := STL.fd hq 38 a (by decide)
        exact tn_sub [0, 1] rfl (hx_168 (i1) σ hw (FrC.rfl.trans (FrC.sub hF (by decide))) (by omega) hq (by omega))
      · refine tn_iload_n dX5_settleCalls_99 rfl 1 rfl ?_
        refine tn_aload_n dX5_settleCalls_100 rfl 0 rfl ?_
        obtain ⟨xq13, hx14, hk15, hl16⟩ : ∃ x : Nat, σ0.2.1 34 a = (x : Int) ∧ AR T x 4 7 7 := wf_34 hw0 h_a
        have hk15i : (T xq13).1 = 4 ∨ (T xq13).1 = 5 := by omega
        refine tn_getR (ci := 5) (i := 1) (n := 34) (x := xq13) dX5_settleCalls_101 rfl lay_5 (by decide) fl5_20 h_a rfl rfl (rc_F hF (Or.inl (by decide)) (by decide) (hx14)) ?_
        refine tn_alenX dX5_settleCalls_104 (by have q9 := hk15i; omega) ?_
        refine tn_icmp_ge (tgt := 168) dX5_settleCalls_105 (by decide) ⟨by omega, by omega⟩ ⟨by omega, by omega⟩ (fun h17 => ?_) (fun h17 => ?_)
        · have rq18 : σ.2.1 43 a = σ0.2.1 43 a := rc_F hF (Or.inl (by decide)) (by decide) (rfl)
          have rq19 : σ.2.1 38 a = σ0.2.1 38 a := rc_F hF (Or.inl (by decide)) (by decide) (rfl)
          have e320 : σ.2.1 43 a = sq.2.1 43 a := STL.fd hq 43 a (by decide)
          have e821 : σ.2.1 38 a = sq.2.1 38 a := STL.fd hq 38 a (by decide)
          exact tn_sub [0, 1] rfl (hx_168 (i1) σ hw (FrC.rfl.trans (FrC.sub hF (by decide))) (by omega) hq (by omega))
        · refine tn_aload_n dX5_settleCalls_108 rfl 0 rfl ?_
          refine tn_getR (ci := 5) (i := 1) (n := 34) (x := xq13) dX5_settleCalls_109 rfl lay_5 (by decide) fl5_20 h_a rfl rfl (rc_F hF (Or.inl (by decide)) (by decide) (hx14)) ?_
          refine tn_iload_n dX5_settleCalls_112 rfl 1 rfl ?_
          obtain ⟨xq22, hx23, hk24⟩ := (hw).2.2.2.1.1 xq13 hk15 (i1) (by omega) (by omega)
          refine tn_aald (z := i1) (x := xq22) dX5_settleCalls_113 hk15i (by omega) (by omega) (by omega) hx23 ?_
          have hk24o : OB T xq22 1 := ⟨by omega, by rw [hk24]; rfl, by omega⟩
          refine tn_astore_n (L' := [(2, .ref xq22), (0, .ref a), (1, .int (iI i1))]) dX5_settleCalls_114 rfl (by decide) rfl ?_
          refine tn_iconst dX5_settleCalls_115 ?_
          refine tn_istore_n (L' := [(3, .int (iI 0)), (2, .ref xq22), (0, .ref a), (1, .int (iI i1))]) dX5_settleCalls_116 rfl (by decide) rfl ?_
          have ex2534 : adN sq 34 a = xq13 := by rw [← STL.ad hq 34 a (by decide)]; exact adN_of (rc_F hF (Or.inl (by decide)) (by decide) (hx14))
          have ex25r : sq.2.1 (1000 + xq13) i1 = (xq22 : Int) := by
            have z9 : σ.2.1 (1000 + xq13) i1 = (xq22 : Int) := hx23
            rw [hq.1.r (fun w9 => spe_ne hsw h_a hsE ex2534 w9)] at z9; exact z9
          have ex25 : E i1 = xq22 := by have z9 := (hsE i1 (by omega) (by omega)).1; rw [ex2534, ex25r] at z9; omega
          have rq26 : σ.2.1 43 a = σ0.2.1 43 a := rc_F hF (Or.inl (by decide)) (by decide) (rfl)
          have rq27 : σ.2.1 38 a = σ0.2.1 38 a := rc_F hF (Or.inl (by decide)) (by decide) (rfl)
          have ex253 : σ.2.1 43 a = sq.2.1 43 a := STL.fd hq 43 a (by decide)
          have ex258 : σ.2.1 38 a = sq.2.1 38 a := STL.fd hq 38 a (by decide)
          have ex25n : sq.2.1 6 xq22 ≤ 200 := by rw [← ex25]; exact hsN (by omega) i1 (by omega) (by omega) (by omega)
          refine tn_sub [2, 3, 1, 0] rfl (l_X5_settleCalls_m_117 (d) (T := T) (σ0 := σ) (a := a) (c1 := i1) (rx2 := xq22) (E := E) (cx := cx) (sq := sq) h_a (by omega) hk24o hk24 hw hsw hsE hsA ex25 ex25n (by omega) (fun i328 σ29 w32 F33 r34 f35 f36 => ?_) _ (0) σ hw FrC.rfl (by omega) hq rfl)
          show Tn _ _ 162 T σ29 [(0, .ref a), (1, .int (iI i1)), (2, .ref xq22), (3, .int (iI i328))] [] _
          refine tn_iinc (q0 := 1) (L' := [(1, .int (iI (i1 + 1))), (0, .ref a), (2, .ref xq22), (3, .int (iI i328))]) dX5_settleCalls_162 rfl (by decide) rfl ?_
          refine tn_goto (tgt := 84) dX5_settleCalls_165 (by decide) ?_
          exact tn_sub [1, 0] rfl (ih _ (by omega) (i1 + 1) σ29 w32 ((FrC.rfl.trans (FrC.sub hF (by decide))).trans (FrC.sub F33 (by decide))) (by omega) (STL.nx f35 (by rw [ex25]; exact f36)) rfl)
set_option maxHeartbeats 1000000 in
set_option maxRecDepth 20000 in
theorem k_X5_settleCalls_m (d : Nat) {T : CT} {σ : MS} {a : Nat} {Sx : Int → Int} {nx jx : Nat} {cx : CS} {E : Int → Nat} (ha : OB T a 5) (hw : WT T σ) (hf0 : RD0 σ a Sx nx jx cx) (hE : SPE T σ a E) (hEA : EAP σ E) (hN2 : cx.fp.1 = 0 → ∀ q, 0 ≤ q → q < cx.rn → q < 7 → σ.2.1 6 (E q) ≤ 200) : Tn (d + 3) m_X5_settleCalls 0 T σ [(0, .ref a)] [] (fun ro T2 σ2 => ∃ v : Int, ro = some (.int (iI v)) ∧ T = T2 ∧ WT T2 σ2 ∧ FrC T [43, 44] σ σ2 ∧ (v = 0 ∨ v = 1) ∧ (SQ9 σ2 a cx v) ∧ (SQM σ σ2 a cx E v)) := by
  have hSb := hf0.sb
  have e42 : σ.2.1 42 a = cx.cn := hf0.2.1.1.2.2.2.1
  have e38 : σ.2.1 38 a = cx.rn := hf0.2.1.1.2.2.1
  have b38 := wf_38 hw ha
  have b42 := wf_42 hw ha
  refine tn_iconst dX5_settleCalls_0 ?_
  refine tn_istore_n (L' := [(1, .int (iI 0)), (0, .ref a)]) dX5_settleCalls_1 rfl (by decide) rfl ?_
  refine tn_sub [1, 0] rfl (l_X5_settleCalls_m_2 (d) (T := T) (σ0 := σ) (a := a) (Sx := Sx) (nx := nx) (jx := jx) (cx := cx) ha hw e42 e38 (by omega) (by omega) (fun i11 σ2 w5 F6 r7 f8 f9 f10 f11 => ?_) _ (0) σ hw FrC.rfl (by omega) (by omega) hf0 CHX.rfl rfl)
  obtain ⟨sq12, sq12e⟩ : ∃ z : MS, z = σ2 := ⟨_, rfl⟩
  have sq12w : WT T sq12 := by rw [sq12e]; exact w5
  have sq12c : CHX [(43, a), (44, a)] [] [] σ sq12 := by rw [sq12e]; exact f10
  have sq120 : RD0 sq12 a Sx nx jx (fpC (cnts (cSs cx cx.cn.toNat) cx.fp) cx) := by rw [sq12e]; exact RD0.qc f9 (by rw [show i11 = cx.cn by omega])
  have sq12E : SPE T sq12 a E := fun q q0 q1 => ⟨by rw [show adN sq12 34 a = adN σ 34 a by unfold adN; rw [sq12c.f (by decide) (by simp)], sq12c.r (by simp)]; exact (hE q q0 q1).1, (hE q q0 q1).2⟩
  have sq12A : EAP sq12 E := fun p q p0 p1 q0 q1 z => hEA p q p0 p1 q0 q1 (by unfold adN at z ⊢; rw [sq12c.f (by decide) (by simp), sq12c.f (by decide) (by simp)] at z; exact z)
  have sq12p : sq12.2.1 43 a = (cnts (cSs cx cx.cn.toNat) cx.fp).1 := sq120.2.1.1.1
  have sq12N : sq12.2.1 43 a = 0 → ∀ q, 0 ≤ q → q < cx.rn → q < 7 → sq12.2.1 6 (E q) ≤ 200 := fun z q q0 q1 q2 => by rw [sq12c.f (by decide) (by simp)]; exact hN2 (cnts_0 (by rw [← sq12p]; exact z) cSs_p) q q0 q1 q2
  have sq128 : sq12.2.1 38 a = cx.rn := sq120.2.1.1.2.2.1
  show Tn _ _ 82 T σ2 [(0, .ref a), (1, .int (iI i11))] [] _
  refine tn_iconst dX5_settleCalls_82 ?_
  refine tn_istore_n (L' := [(1, .int (iI 0)), (0, .ref a)]) dX5_settleCalls_83 rfl (by decide) rfl ?_
  refine tn_sub [1, 0] rfl (l_X5_settleCalls_m_84 (d) (T := T) (σ0 := σ2) (a := a) (E := E) (cx := cx) (sq := sq12) ha w5 sq12w sq12E sq12A sq12N sq128 (fun i113 σ14 w17 F18 r19 f20 f21 => ?_) _ (0) σ2 w5 FrC.rfl (by omega) (by rw [← sq12e]; exact STL.in) rfl)
  show Tn _ _ 168 T σ14 [(0, .ref a), (1, .int (iI i113))] [] _
  refine tn_aload_n dX5_settleCalls_168 rfl 0 rfl ?_
  refine tn_getI (ci := 5) (i := 10) (n := 43) (t := σ2.2.1 43 a) dX5_settleCalls_169 rfl lay_5 (by decide) fl5_51 ha rfl rfl (rc_F F18 (Or.inl (by decide)) (by decide) (rfl)) ?_
  have g22 : ((-2147483648 : Int) ≤ σ2.2.1 43 a ∧ σ2.2.1 43 a ≤ 2147483647) := wf_43 w5 ha
  refine tn_if_ne (tgt := 179) dX5_settleCalls_172 (by decide) ⟨by omega, by omega⟩ (fun h23 => ?_) (fun h23 => ?_)
  · refine tn_iconst dX5_settleCalls_179 ?_
    have rq24 : σ14.2.1 43 a = σ2.2.1 43 a := rc_F F18 (Or.inl (by decide)) (by decide) (rfl)
    have sq12F3 : σ14.2.1 43 a = sq12.2.1 43 a := STL.fd f20 43 a (by decide)
    have sq12F4 : σ14.2.1 44 a = sq12.2.1 44 a := STL.fd f20 44 a (by decide)
    have sq12F8 : σ14.2.1 38 a = sq12.2.1 38 a := STL.fd f20 38 a (by decide)
    have sq12P : (σ14.2.1 43 a, σ14.2.1 44 a) = cnts (cSs cx cx.cn.toNat) cx.fp := by rw [sq12F3, sq12F4]; exact sq120.2.1.fp2
    exact tn_zret (v := 0) rfl (by decide) dX5_settleCalls_180 ⟨_, rfl, rfl, w17, ((FrC.rfl.trans (FrC.sub F6 (by decide))).trans (FrC.sub F18 (by decide))), by omega, ⟨sq12P, by rw [sq12F8]; exact sq128, fun q => absurd q (by decide), fun _ => by omega⟩, SQM.no sq12c f20 (by decide)⟩
  · refine tn_iconst dX5_settleCalls_175 ?_
    refine tn_goto (tgt := 180) dX5_settleCalls_176 (by decide) ?_
    have rq25 : σ14.2.1 43 a = σ2.2.1 43 a := rc_F F18 (Or.inl (by decide)) (by decide) (rfl)
    have sq12F3 : σ14.2.1 43 a = sq12.2.1 43 a := STL.fd f20 43 a (by decide)
    have sq12F4 : σ14.2.1 44 a = sq12.2.1 44 a := STL.fd f20 44 a (by decide)
    have sq12F8 : σ14.2.1 38 a = sq12.2.1 38 a := STL.fd f20 38 a (by decide)
    have sq12P : (σ14.2.1 43 a, σ14.2.1 44 a) = cnts (cSs cx cx.cn.toNat) cx.fp := by rw [sq12F3, sq12F4]; exact sq120.2.1.fp2
    exact tn_zret (v := 1) rfl (by decide) dX5_settleCalls_180 ⟨_, rfl, rfl, w17, ((FrC.rfl.trans (FrC.sub F6 (by decide))).trans (FrC.sub F18 (by decide))), by omega, ⟨sq12P, by rw [sq12F8]; exact sq128, fun _ => by omega, fun q => absurd q (by decide)⟩, SQM.of (f := rofF sq12 a) (cnts_0 (M := cSs cx cx.cn.toNat) (by rw [← sq12p]; omega) cSs_p) (by have z9 := rfc_of (c := fpC (cnts (cSs cx cx.cn.toNat) cx.fp) cx) sq120.2.1 sq12w ha; exact z9) sq12c f20 (by have z9 := f21; omega)⟩
end
