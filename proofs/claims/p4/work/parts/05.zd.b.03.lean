set_option maxHeartbeats 4000000 in
set_option maxRecDepth 20000 in
theorem k_X5_taken_f (d : Nat) {T : CT} {σ : MS} {a : Nat} {s : Int} {kp : Int} {Sx : Int → Int} {nx jx : Nat} {cx : CS} {Nx : Int} (ha : OB T a 5) (h_s : -2147483648 ≤ s ∧ s ≤ 2147483647) (hw : WT T σ) (hs : 40 ≤ s ∧ s ≤ 125) (hfx : RDX σ a Sx nx jx cx Nx) (hkp : kp ≤ 150) (hrp : RP σ a kp) : Tn (d + 2) m_X5_taken 0 T σ [(0, .ref a), (1, .int (iI s))] [] (fun ro T2 σ2 => ∃ v : Int, ro = some (.int (iI v)) ∧ T = T2 ∧ WT T2 σ2 ∧ FrC T [43, 44, 84, 85, 86, 87] σ σ2 ∧ (v = 0 ∨ v = 1) ∧ (TQ σ2 a Sx nx jx cx Nx s v) ∧ (RP σ2 a (kp - 4 * v))) := by
  have hSb := hfx.1.sb
  refine tn_aload_n dX5_taken_0 rfl 0 rfl ?_
  obtain ⟨x1, hx2, hk3⟩ : ∃ x : Nat, σ.2.1 33 a = (x : Int) ∧ (T x).1 = 39 := wf_33 hw ha
  have hk3o : OB T x1 9 := ⟨by omega, by rw [hk3]; rfl, by omega⟩
  refine tn_getR (ci := 5) (i := 0) (n := 33) (x := x1) dX5_taken_1 rfl lay_5 (by decide) fl5_12 ha rfl rfl (hx2) ?_
  refine tn_getI (ci := 9) (i := 4) (n := 85) (t := σ.2.1 85 x1) dX5_taken_4 rfl lay_9 (by decide) fl5_71 hk3o rfl rfl (rfl) ?_
  have g5 : ((-2147483648 : Int) ≤ σ.2.1 85 x1 ∧ σ.2.1 85 x1 ≤ 2147483647) := wf_85 hw hk3o
  have g5kd : σ.2.1 85 x1 = ckd (tkS Sx jx) := (rfl).symm.trans ((hfx).1.kd (hx2))
  refine tn_iload_n dX5_taken_7 rfl 1 rfl ?_
  refine tn_icmp_eq (tgt := 16) dX5_taken_8 (by decide) ⟨by omega, by omega⟩ ⟨by omega, by omega⟩ (fun h6 => ?_) (fun h6 => ?_)
  · refine tn_aload_n dX5_taken_16 rfl 0 rfl ?_
    refine tn_getR (ci := 5) (i := 0) (n := 33) (x := x1) dX5_taken_17 rfl lay_5 (by decide) fl5_12 ha rfl rfl (hx2) ?_
    refine tn_callV (M := m_X5_taken) (pc := 20) (ix := 93) (ci := 9) (M' := m_X9_next) (As := []) (rest := []) dX5_taken_20 ok_X9_next im_X9_next se_X9_next ml5_93 np_X9_next rfl rfl hk3o rfl (Nat.le_of_ble_eq_true rfl) (Nat.le_of_ble_eq_true rfl) rfl (k_X9_next_f (d) (T := T) (σ := σ) (a := x1) hk3o hw (RP.tk hrp hw ha (hx2)) ((hfx).1.tk (hx2)) (by rw [(hfx).1.kd (hx2)]; omega)) (fun r7 T9 σ8 gt10 hp => ?_)
    obtain ⟨rfl, rfl, w16, F17, f11, f12, f13, f14⟩ := hp
    clear gt10
    have fx18 : RDX σ8 a Sx nx (jx + 1) (cx) (Nx) := RDX.nx hfx hw ha (hx2) F17 f14
    have rp19 : RP σ8 a (kp - 4) := RP.next4 hrp (hx2) F17 (by decide) (by decide) (by decide) f11 f13 (by rw [show σ.2.1 85 x1 = σ.2.1 85 x1 from rfl]; omega)
    show Tn _ _ 23 T σ8 [(0, .ref a), (1, .int (iI s))] [] _
    refine tn_iconst dX5_taken_23 ?_
    exact tn_zret (v := 1) rfl (by decide) dX5_taken_24 ⟨_, rfl, rfl, w16, (FrC.rfl.trans (FrC.sub F17 (by decide))), by omega, ⟨fun _ => ⟨by omega, fx18⟩, fun q => absurd q (by decide)⟩, (RP.up rp19 (by omega))⟩
  · refine tn_aload_n dX5_taken_11 rfl 0 rfl ?_
    refine tn_callV (M := m_X5_taken) (pc := 12) (ix := 90) (ci := 5) (M' := m_X5_refuse) (As := []) (rest := []) dX5_taken_12 ok_X5_refuse im_X5_refuse se_X5_refuse ml5_90 np_X5_refuse rfl rfl ha rfl (Nat.le_of_ble_eq_true rfl) (Nat.le_of_ble_eq_true rfl) rfl (k_X5_refuse_f (d) (T := T) (σ := σ) (a := a) ha hw (hfx).1.1) (fun r20 T22 σ21 gt23 hp => ?_)
    obtain ⟨v28, rfl, rfl, w29, F30, f24, f25, f26, f27⟩ := hp
    clear gt23
    have rp31 : RP σ21 a (kp) := RP.frc hrp F30 (by decide) (by decide) (by decide) (by decide) (by decide)
    show Tn _ _ 15 T σ21 [(0, .ref a), (1, .int (iI s))] [.int (iI v28)] _
    exact tn_zret (v := v28) rfl (by omega) dX5_taken_15 ⟨_, rfl, rfl, w29, (FrC.rfl.trans (FrC.sub F30 (by decide))), by omega, ⟨fun q => absurd q (by omega), fun _ => ⟨by omega, f26, f27⟩⟩, (RP.up rp31 (by omega))⟩
