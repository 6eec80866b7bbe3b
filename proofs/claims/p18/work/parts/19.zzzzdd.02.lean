section
set_option maxHeartbeats 1000000 in
set_option maxRecDepth 20000 in
theorem k_X7_foundSource_t (d : Nat) {T : CT} {σ : MS} {a : Nat} {xa : Nat} (ha : OB T a 7) (hw : WT T σ) (hxa : σ.2.1 59 a = (xa : Int)) : Tn (d + 2) m_X7_foundSource 0 T σ [(0, .ref a)] [] (fun ro T2 σ2 => ∃ v : Int, ro = some (.int (iI v)) ∧ T = T2 ∧ σ = σ2 ∧ (-2147483648 ≤ v ∧ v ≤ 2147483647) ∧ (v = jA T xa (σ.2.1 70 a) σ)) := by
  refine tn_aload_n dX7_foundSource_0 rfl 0 rfl ?_
  obtain ⟨hk3, hl4⟩ : AR T xa 15 9 9 := ar_of (wf_59 hw ha) hxa
  have hk3i : IA T xa := by unfold IA; omega
  refine tn_getR (ci := 7) (i := 4) (n := 59) (x := xa) dX7_foundSource_1 rfl lay_7 (by decide) fl7_9 ha rfl rfl (hxa) ?_
  refine tn_aload_n dX7_foundSource_4 rfl 0 rfl ?_
  refine tn_getI (ci := 7) (i := 15) (n := 70) (t := σ.2.1 70 a) dX7_foundSource_5 rfl lay_7 (by decide) fl7_143 ha rfl rfl (rfl) ?_
  have g5 : ((-2147483648 : Int) ≤ σ.2.1 70 a ∧ σ.2.1 70 a ≤ 2147483647) := wf_70 hw ha
  refine tn_callSN (M := m_X7_foundSource) (pc := 8) (ix := 91) (M' := m_X11_at) (As := [.ref xa, .int (iI (σ.2.1 70 a))]) (rest := []) dX7_foundSource_8 ok_X11_at stt_X11_at nl7_91 np_X11_at rfl (Nat.le_of_ble_eq_true rfl) (Nat.le_of_ble_eq_true rfl) rfl (k_X11_at_j (d) (T := T) (σ := σ) (x := xa) (i := σ.2.1 70 a) hk3i (by omega) (by omega) hw ) (fun r6 T8 σ7 gt9 hp => ?_)
  obtain ⟨v13, rfl, rfl, rfl, f10, f11, f12⟩ := hp
  clear gt9
  clear f11
  show Tn _ _ 11 T σ [(0, .ref a)] [.int (iI v13)] _
  exact tn_iret rfl dX7_foundSource_11 ⟨_, rfl, rfl, rfl, by omega, f12⟩
end
