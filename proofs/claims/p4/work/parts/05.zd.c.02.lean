set_option maxHeartbeats 4000000 in
set_option maxRecDepth 20000 in
theorem k_X5_listCall_f (d : Nat) {T : CT} {σ : MS} {a : Nat} {k : Int} {p : Int} {m : Int} {Sx : Int → Int} {nx jx : Nat} {cx : CS} {Nx : Int} {wx : Int64} (ha : OB T a 5) (h_k : -2147483648 ≤ k ∧ k ≤ 2147483647) (h_p : -2147483648 ≤ p ∧ p ≤ 2147483647) (h_m : -2147483648 ≤ m ∧ m ≤ 2147483647) (hw : WT T σ) (hfx : RDX σ a Sx nx jx cx Nx) (hkw : KW k wx) (hpo : 6 * cx.cn + 6 ≤ (jx : Int)) : Tn (d + 2) m_X5_listCall 0 T σ [(0, .ref a), (1, .int (iI k)), (2, .int (iI p)), (3, .int (iI m))] [] (fun ro T2 σ2 => ro = none ∧ T = T2 ∧ WT T2 σ2 ∧ FrC T [42, 518, 519, 520] σ σ2 ∧ (RDX σ2 a Sx nx jx (uC cx (1, p, m, wx)) Nx)) := by
  have hSb := hfx.1.sb
  have e42 : σ.2.1 42 a = cx.cn := hfx.1.2.1.1.2.2.2.1
  have hjn := RDX.jn hfx hw ha
  refine tn_aload_n dX5_listCall_0 rfl 0 rfl ?_
  obtain ⟨x1, hx2, hk3, hl4⟩ : ∃ x : Nat, σ.2.1 39 a = (x : Int) ∧ AR T x 18 256 256 := wf_39 hw ha
  have hk3i : IA T x1 := by unfold IA; omega
  refine tn_getR (ci := 5) (i := 6) (n := 39) (x := x1) dX5_listCall_1 rfl lay_5 (by decide) fl5_31 ha rfl rfl (hx2) ?_
  refine tn_aload_n dX5_listCall_4 rfl 0 rfl ?_
  refine tn_getI (ci := 5) (i := 9) (n := 42) (t := σ.2.1 42 a) dX5_listCall_5 rfl lay_5 (by decide) fl5_61 ha rfl rfl (rfl) ?_
  have g5 : ((0 : Int) ≤ σ.2.1 42 a ∧ σ.2.1 42 a ≤ 256) := wf_42 hw ha
  refine tn_iload_n dX5_listCall_8 rfl 1 rfl ?_
  refine tn_callSN (M := m_X5_listCall) (pc := 9) (ix := 129) (M' := m_X11_put) (As := [.ref x1, .int (iI (σ.2.1 42 a)), .int (iI k)]) (rest := []) dX5_listCall_9 ok_X11_put stt_X11_put nl5_129 np_X11_put rfl (Nat.le_of_ble_eq_true rfl) (Nat.le_of_ble_eq_true rfl) rfl (k_X11_put_18 (d) (T := T) (σ := σ) (x := x1) (i := σ.2.1 42 a) (y := k) hk3i (by omega) hk3 (by omega) (by omega) hw ) (fun r6 T8 σ7 gt9 hp => ?_)
  obtain ⟨rfl, rfl, w12, F13, f10⟩ := hp
  clear gt9
  show Tn _ _ 12 T σ7 [(0, .ref a), (1, .int (iI k)), (2, .int (iI p)), (3, .int (iI m))] [] _
  refine tn_aload_n dX5_listCall_12 rfl 0 rfl ?_
  obtain ⟨x14, hx15, hk16, hl17⟩ : ∃ x : Nat, σ.2.1 40 a = (x : Int) ∧ AR T x 19 256 256 := wf_40 hw ha
  have hk16i : IA T x14 := by unfold IA; omega
  refine tn_getR (ci := 5) (i := 7) (n := 40) (x := x14) dX5_listCall_13 rfl lay_5 (by decide) fl5_34 ha rfl rfl (rc_F F13 (Or.inl (by decide)) (by decide) (hx15)) ?_
  refine tn_aload_n dX5_listCall_16 rfl 0 rfl ?_
  refine tn_getI (ci := 5) (i := 9) (n := 42) (t := σ.2.1 42 a) dX5_listCall_17 rfl lay_5 (by decide) fl5_61 ha rfl rfl (rc_F F13 (Or.inl (by decide)) (by decide) (rfl)) ?_
  refine tn_iload_n dX5_listCall_20 rfl 2 rfl ?_
  refine tn_callSN (M := m_X5_listCall) (pc := 21) (ix := 129) (M' := m_X11_put) (As := [.ref x14, .int (iI (σ.2.1 42 a)), .int (iI p)]) (rest := []) dX5_listCall_21 ok_X11_put stt_X11_put nl5_129 np_X11_put rfl (Nat.le_of_ble_eq_true rfl) (Nat.le_of_ble_eq_true rfl) rfl (k_X11_put_19 (d) (T := T) (σ := σ7) (x := x14) (i := σ.2.1 42 a) (y := p) hk16i (by omega) hk16 (by omega) (by omega) w12 ) (fun r18 T20 σ19 gt21 hp => ?_)
  obtain ⟨rfl, rfl, w24, F25, f22⟩ := hp
  clear gt21
  show Tn _ _ 24 T σ19 [(0, .ref a), (1, .int (iI k)), (2, .int (iI p)), (3, .int (iI m))] [] _
  refine tn_aload_n dX5_listCall_24 rfl 0 rfl ?_
  obtain ⟨x26, hx27, hk28, hl29⟩ : ∃ x : Nat, σ.2.1 41 a = (x : Int) ∧ AR T x 20 256 256 := wf_41 hw ha
  have hk28i : IA T x26 := by unfold IA; omega
  refine tn_getR (ci := 5) (i := 8) (n := 41) (x := x26) dX5_listCall_25 rfl lay_5 (by decide) fl5_37 ha rfl rfl (rc_F F25 (Or.inl (by decide)) (by decide) (rc_F F13 (Or.inl (by decide)) (by decide) (hx27))) ?_
  refine tn_aload_n dX5_listCall_28 rfl 0 rfl ?_
  refine tn_getI (ci := 5) (i := 9) (n := 42) (t := σ.2.1 42 a) dX5_listCall_29 rfl lay_5 (by decide) fl5_61 ha rfl rfl (rc_F F25 (Or.inl (by decide)) (by decide) (rc_F F13 (Or.inl (by decide)) (by decide) (rfl))) ?_
  refine tn_iload_n dX5_listCall_32 rfl 3 rfl ?_
  refine tn_callSN (M := m_X5_listCall) (pc := 33) (ix := 129) (M' := m_X11_put) (As := [.ref x26, .int (iI (σ.2.1 42 a)), .int (iI m)]) (rest := []) dX5_listCall_33 ok_X11_put stt_X11_put nl5_129 np_X11_put rfl (Nat.le_of_ble_eq_true rfl) (Nat.le_of_ble_eq_true rfl) rfl (k_X11_put_20 (d) (T := T) (σ := σ19) (x := x26) (i := σ.2.1 42 a) (y := m) hk28i (by omega) hk28 (by omega) (by omega) w24 ) (fun r30 T32 σ31 gt33 hp => ?_)
  obtain ⟨rfl, rfl, w36, F37, f34⟩ := hp
  clear gt33
  show Tn _ _ 36 T σ31 [(0, .ref a), (1, .int (iI k)), (2, .int (iI p)), (3, .int (iI m))] [] _
  refine tn_aload_n dX5_listCall_36 rfl 0 rfl ?_
  refine tn_aload_n dX5_listCall_37 rfl 0 rfl ?_
  refine tn_getI (ci := 5) (i := 9) (n := 42) (t := σ.2.1 42 a) dX5_listCall_38 rfl lay_5 (by decide) fl5_61 ha rfl rfl (rc_F F37 (Or.inl (by decide)) (by decide) (rc_F F25 (Or.inl (by decide)) (by decide) (rc_F F13 (Or.inl (by decide)) (by decide) (rfl)))) ?_
  refine tn_iconst dX5_listCall_41 ?_
  refine tn_iadd dX5_listCall_42 ?_
  refine tn_sipush dX5_listCall_43 (by decide) ?_
  refine tn_mmin (x := (σ.2.1 42 a) + 1) (y := 256) dX5_listCall_46 mlm5_117 stM_min iniM cdM_min (by omega) (Nat.le_of_ble_eq_true rfl) ⟨by omega, by omega⟩ ⟨by omega, by omega⟩ (fun z38 g39 => ?_)
  refine tn_putV (ci := 5) (i := 9) (n := 42) (r := false) (v := z38) tyX5 tyX5_ok nmX5 dX5_listCall_49 rfl lay_5 (by decide) fl5_61 rfl (tyX5_ok 9 (by decide)) rfl rfl rfl ha rfl rfl ?_
  have w40n3940 : x1 ≠ x14 := fun e => by have q9 := hk3; rw [e] at q9; have w9 := hk16; omega
  have w40n3941 : x1 ≠ x26 := fun e => by have q9 := hk3; rw [e] at q9; have w9 := hk28; omega
  have w40n4041 : x14 ≠ x26 := fun e => by have q9 := hk16; rw [e] at q9; have w9 := hk28; omega
  have q41 : (sA 42 a (z38) σ31).2.1 42 a = z38 := ra_eq
  have w40a : ∀ x : Nat, σ.2.1 39 a = (x : Int) → ∀ i, (sA 42 a (z38) σ31).2.1 (1000 + x) i = if i = cx.cn then k else σ.2.1 (1000 + x) i := (fun y hy i => by
      have e : y = x1 := by omega
      rw [e, sA_k (by omega), f34, if_pos ⟨by omega, by omega⟩, sA_k (by omega), f22, if_pos ⟨by omega, by omega⟩, sA_k (by omega), f10, if_pos ⟨by omega, by omega⟩, sA_at, e42])
  have w40b : ∀ x : Nat, σ.2.1 40 a = (x : Int) → ∀ i, (sA 42 a (z38) σ31).2.1 (1000 + x) i = if i = cx.cn then p else σ.2.1 (1000 + x) i := (fun y hy i => by
      have e : y = x14 := by omega
      rw [e, sA_k (by omega), f34, if_pos ⟨by omega, by omega⟩, sA_k (by omega), f22, if_pos ⟨by omega, by omega⟩, sA_at, e42, show σ7.2.1 (1000 + x14) = σ.2.1 (1000 + x14) by rw [f10, if_pos ⟨by omega, by omega⟩, sA_k (by omega)]])
  have w40c : ∀ x : Nat, σ.2.1 41 a = (x : Int) → ∀ i, (sA 42 a (z38) σ31).2.1 (1000 + x) i = if i = cx.cn then m else σ.2.1 (1000 + x) i := (fun y hy i => by
      have e : y = x26 := by omega
      rw [e, sA_k (by omega), f34, if_pos ⟨by omega, by omega⟩, sA_at, e42, show σ19.2.1 (1000 + x26) = σ.2.1 (1000 + x26) by rw [f22, if_pos ⟨by omega, by omega⟩, sA_k (by omega), f10, if_pos ⟨by omega, by omega⟩, sA_k (by omega)]])
  have w40r : RDX (sA 42 a (z38) σ31) a Sx nx jx (clC wx p m cx) Nx := RDX.cl hfx hw ha (show FrC T [42, 518, 519, 520] σ (sA 42 a (z38) σ31) from ((((FrC.rfl.trans (FrC.sub F13 (by decide))).trans (FrC.sub F25 (by decide))).trans (FrC.sub F37 (by decide))).put (by decide) (by decide))) (by rw [q41]; omega) hkw w40a w40b w40c hpo
  exact tn_vret rfl dX5_listCall_52 ⟨rfl, rfl, (w36.put (by decide) (by decide) (fo_42 (by omega))), ((((FrC.rfl.trans (FrC.sub F13 (by decide))).trans (FrC.sub F25 (by decide))).trans (FrC.sub F37 (by decide))).put (by decide) (by decide)), RDX.cq w40r uC1.symm⟩
