section
set_option maxHeartbeats 1000000 in
set_option maxRecDepth 20000 in
theorem k_X10_spoil_x (d : Nat) {T : CT} {σ : MS} {a : Nat} {r : Int} {xf : Nat} (ha : OB T a 10) (h_r : -2147483648 ≤ r ∧ r ≤ 2147483647) (hw : WT T σ) (hxf : σ.2.1 89 a = (xf : Int)) (hr : 0 ≤ r ∧ r < 6) : Tn (d + 2) m_X10_spoil 0 T σ [(0, .ref a), (1, .int (iI r))] [] (fun ro T2 σ2 => ro = none ∧ T = T2 ∧ WT T2 σ2 ∧ FrC T [] σ σ2 ∧ (CHX [] [xf] [] σ σ2) ∧ (σ2.2.1 (1000 + xf) = uZ (σ.2.1 (1000 + xf)) r 0)) := by
  refine tn_aload_n dX10_spoil_0 rfl 0 rfl ?_
  obtain ⟨hk3, hl4⟩ : AR T xf 1 6 6 := ar_of (wf_89 hw ha) hxf
  have hk3i : IA T xf := by unfold IA; omega
  refine tn_getR (ci := 10) (i := 1) (n := 89) (x := xf) dX10_spoil_1 rfl lay_10 (by decide) fl10_17 ha rfl rfl (hxf) ?_
  refine tn_iload_n dX10_spoil_4 rfl 1 rfl ?_
  refine tn_iconst dX10_spoil_5 ?_
  refine tn_callSN (M := m_X10_spoil) (pc := 6) (ix := 26) (M' := m_X11_put) (As := [.ref xf, .int (iI r), .int (iI 0)]) (rest := []) dX10_spoil_6 ok_X11_put stt_X11_put nl10_26 np_X11_put rfl (Nat.le_of_ble_eq_true rfl) (Nat.le_of_ble_eq_true rfl) rfl (k_X11_put_x (d) (T := T) (σ := σ) (x := xf) (i := r) (y := 0) hk3i (by omega) (by omega) (by decide) hw (nh_k hk3 (by unfold HT; omega)) vok_0) (fun r5 T7 σ6 gt8 hp => ?_)
  obtain ⟨rfl, rfl, w12, F13, f9, f10⟩ := hp
  clear gt8
  show Tn _ _ 9 T σ6 [(0, .ref a), (1, .int (iI r))] [] _
  exact tn_vret rfl dX10_spoil_9 ⟨rfl, rfl, w12, (FrC.rfl.trans (FrC.sub F13 (by decide))), (CHX.rfl.trans (CHX.sub f9 (by simp) (by simp) (by simp))), ptf_row f10 (by omega)⟩
end
