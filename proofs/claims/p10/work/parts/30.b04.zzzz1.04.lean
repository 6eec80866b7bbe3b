set_option maxHeartbeats 1000000 in
set_option maxRecDepth 20000 in
theorem k_X1_homeOf_j (d : Nat) {T : CT} {σ : MS} {a : Nat} {f : Int} {m : Int} {xh : Nat} (ha : OB T a 1) (h_f : -2147483648 ≤ f ∧ f ≤ 2147483647) (h_m : -2147483648 ≤ m ∧ m ≤ 2147483647) (hw : WT T σ) (hxh : σ.2.1 15 a = (xh : Int)) (hfm : (-10000 ≤ f ∧ f ≤ 10000) ∧ -10000 ≤ m ∧ m ≤ 10000) : Tn (d + 2) m_X1_homeOf 0 T σ [(0, .ref a), (1, .int (iI f)), (2, .int (iI m))] [] (fun ro T2 σ2 => ∃ v : Int, ro = some (.int (iI v)) ∧ T = T2 ∧ σ = σ2 ∧ (-2147483648 ≤ v ∧ v ≤ 2147483647) ∧ (v = jA T xh (f * 12 + m) σ)) := by
  refine tn_aload_n dX1_homeOf_0 rfl 0 rfl ?_
  obtain ⟨hk3, hl4⟩ : AR T xh 1 144 144 := ar_of (wf_15 hw ha) hxh
  have hk3i : IA T xh := by unfold IA; omega
  refine tn_getR (ci := 1) (i := 10) (n := 15) (x := xh) dX1_homeOf_1 rfl lay_1 (by decide) fl1_27 ha rfl rfl (hxh) ?_
  refine tn_iload_n dX1_homeOf_4 rfl 1 rfl ?_
  refine tn_bipush dX1_homeOf_5 (by decide) ?_
  refine tn_imul dX1_homeOf_7 ?_
  refine tn_iload_n dX1_homeOf_8 rfl 2 rfl ?_
  refine tn_iadd dX1_homeOf_9 ?_
  refine tn_callSN (M := m_X1_homeOf) (pc := 10) (ix := 53) (M' := m_X11_at) (As := [.ref xh, .int (iI ((f * 12) + m))]) (rest := []) dX1_homeOf_10 ok_X11_at stt_X11_at nl1_53 np_X11_at rfl (Nat.le_of_ble_eq_true rfl) (Nat.le_of_ble_eq_true rfl) rfl (k_X11_at_j (d) (T := T) (σ := σ) (x := xh) (i := (f * 12) + m) hk3i (by omega) (by omega) hw ) (fun r5 T7 σ6 gt8 hp => ?_)
  obtain ⟨v12, rfl, rfl, rfl, f9, f10, f11⟩ := hp
  clear gt8
  clear f10
  show Tn _ _ 13 T σ [(0, .ref a), (1, .int (iI f)), (2, .int (iI m))] [.int (iI v12)] _
  exact tn_iret rfl dX1_homeOf_13 ⟨_, rfl, rfl, rfl, by omega, f11⟩
