set_option maxHeartbeats 1000000 in
set_option maxRecDepth 20000 in
theorem k_X7_emit_j (d : Nat) {T : CT} {σ : MS} {a : Nat} {p1 : Int} {xf : Nat} (ha : OB T a 7) (h_p1 : -2147483648 ≤ p1 ∧ p1 ≤ 2147483647) (hw : WT T σ) (hxf : σ.2.1 64 a = (xf : Int)) : Tn (d + 2) m_X7_emit 0 T σ [(0, .ref a), (1, .int (iI p1))] [] (fun ro T2 σ2 => ro = none ∧ T = T2 ∧ WT T2 σ2 ∧ FrC T [65, 66] σ σ2 ∧ (CHX [(65, a), (66, a)] [xf] [] σ σ2) ∧ (JEM T σ a xf p1 σ2) ∧ (FA a σ σ2)) := by
  refine tn_aload_n dX7_emit_0 rfl 0 rfl ?_
  obtain ⟨hk3, hl4⟩ : AR T xf 1 200 200 := ar_of (wf_64 hw ha) hxf
  have hk3i : IA T xf := by unfold IA; omega
  refine tn_getR (ci := 7) (i := 9) (n := 64) (x := xf) dX7_emit_1 rfl lay_7 (by decide) fl7_27 ha rfl rfl (hxf) ?_
  refine tn_aload_n dX7_emit_4 rfl 0 rfl ?_
  refine tn_getI (ci := 7) (i := 10) (n := 65) (t := σ.2.1 65 a) dX7_emit_5 rfl lay_7 (by decide) fl7_41 ha rfl rfl (rfl) ?_
  have g5 : ((-2147483648 : Int) ≤ σ.2.1 65 a ∧ σ.2.1 65 a ≤ 2147483647) := wf_65 hw ha
  refine tn_iload_n dX7_emit_8 rfl 1 rfl ?_
  refine tn_callSN (M := m_X7_emit) (pc := 9) (ix := 61) (M' := m_X11_put) (As := [.ref xf, .int (iI (σ.2.1 65 a)), .int (iI p1)]) (rest := []) dX7_emit_9 ok_X11_put stt_X11_put nl7_61 np_X11_put rfl (Nat.le_of_ble_eq_true rfl) (Nat.le_of_ble_eq_true rfl) rfl (k_X11_put_x (d) (T := T) (σ := σ) (x := xf) (i := σ.2.1 65 a) (y := p1) hk3i (by omega) (by omega) (by omega) hw (nh_k hk3 (by unfold HT; omega)) (vok_1 (by have q9 := hk3; omega) (by omega))) (fun r6 T8 σ7 gt9 hp => ?_)
  obtain ⟨rfl, rfl, w13, F14, f10, f11⟩ := hp
  clear gt9
  have je15 : σ7 = jP T xf (σ.2.1 65 a) (p1) _ := f11
  show Tn _ _ 12 T σ7 [(0, .ref a), (1, .int (iI p1))] [] _
  refine tn_aload_n dX7_emit_12 rfl 0 rfl ?_
  refine tn_iload_n dX7_emit_13 rfl 1 rfl ?_
  refine tn_putV (ci := 7) (i := 11) (n := 66) (r := false) (v := p1) tyX7 tyX7_ok nmX7 dX7_emit_14 rfl lay_7 (by decide) fl7_44 rfl (tyX7_ok 11 (by decide)) rfl rfl rfl ha rfl rfl ?_
  refine tn_aload_n dX7_emit_17 rfl 0 rfl ?_
  refine tn_dup dX7_emit_18 rfl ?_
  refine tn_getI (ci := 7) (i := 10) (n := 65) (t := σ.2.1 65 a) dX7_emit_19 rfl lay_7 (by decide) fl7_41 ha rfl rfl (rc_o (by decide) (rc_F F14 (Or.inl (by decide)) (by decide) (rfl))) ?_
  refine tn_iconst dX7_emit_22 ?_
  refine tn_iadd dX7_emit_23 ?_
  rw [show iI ((σ.2.1 65 a) + 1) = iI (w32 ((σ.2.1 65 a) + 1)) from (iI_self _).symm]
  have g16r : -2147483648 ≤ w32 ((σ.2.1 65 a) + 1) ∧ w32 ((σ.2.1 65 a) + 1) ≤ 2147483647 := inR_toInt _
  refine tn_putV (ci := 7) (i := 10) (n := 65) (r := false) (v := w32 ((σ.2.1 65 a) + 1)) tyX7 tyX7_ok nmX7 dX7_emit_24 rfl lay_7 (by decide) fl7_41 rfl (tyX7_ok 10 (by decide)) rfl rfl rfl ha rfl rfl ?_
  exact tn_vret rfl dX7_emit_27 ⟨rfl, rfl, ((w13.put (by decide) (by decide) (fo_66 (by omega))).put (by decide) (by decide) (fo_65 (by omega))), (((FrC.rfl.trans (FrC.sub F14 (by decide))).put (by decide) (by decide)).put (by decide) (by decide)), (((CHX.rfl.trans (CHX.sub f10 (by simp) (by simp) (by simp))).fld (by simp) (by decide)).fld (by simp) (by decide)), (by unfold JEM; rw [je15]), (((FA.rfl.trans (FA.of F14 (by decide))).put).put)⟩
