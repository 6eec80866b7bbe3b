set_option maxHeartbeats 1000000 in
set_option maxRecDepth 20000 in
theorem k_X7_place_j (d : Nat) {T : CT} {σ : MS} {a : Nat} {xb : Nat} (ha : OB T a 7) (hw : WT T σ) (hxb : σ.2.1 60 a = (xb : Int)) : Tn (d + 2) m_X7_place 0 T σ [(0, .ref a)] [] (fun ro T2 σ2 => ∃ v : Int, ro = some (.int (iI v)) ∧ T = T2 ∧ σ = σ2 ∧ (-2147483648 ≤ v ∧ v ≤ 2147483647) ∧ (v = jA T xb (σ.2.1 57 a) σ)) := by
  refine tn_aload_n dX7_place_0 rfl 0 rfl ?_
  obtain ⟨hk3, hl4⟩ : AR T xb 1 9 9 := ar_of (wf_60 hw ha) hxb
  have hk3i : IA T xb := by unfold IA; omega
  refine tn_getR (ci := 7) (i := 5) (n := 60) (x := xb) dX7_place_1 rfl lay_7 (by decide) fl7_15 ha rfl rfl (hxb) ?_
  refine tn_aload_n dX7_place_4 rfl 0 rfl ?_
  refine tn_getI (ci := 7) (i := 2) (n := 57) (t := σ.2.1 57 a) dX7_place_5 rfl lay_7 (by decide) fl7_65 ha rfl rfl (rfl) ?_
  have g5 : ((0 : Int) ≤ σ.2.1 57 a ∧ σ.2.1 57 a ≤ 11184800) ∧ ((T a).1 = 57 → σ.2.1 57 a ≤ 8) := wf_57 hw ha
  have g5x := g5.2
  replace g5 := g5.1
  clear g5x
  refine tn_callSN (M := m_X7_place) (pc := 8) (ix := 91) (M' := m_X11_at) (As := [.ref xb, .int (iI (σ.2.1 57 a))]) (rest := []) dX7_place_8 ok_X11_at stt_X11_at nl7_91 np_X11_at rfl (Nat.le_of_ble_eq_true rfl) (Nat.le_of_ble_eq_true rfl) rfl (k_X11_at_j (d) (T := T) (σ := σ) (x := xb) (i := σ.2.1 57 a) hk3i (by omega) (by omega) hw ) (fun r6 T8 σ7 gt9 hp => ?_)
  obtain ⟨v13, rfl, rfl, rfl, f10, f11, f12⟩ := hp
  clear gt9
  clear f11
  show Tn _ _ 11 T σ [(0, .ref a)] [.int (iI v13)] _
  exact tn_iret rfl dX7_place_11 ⟨_, rfl, rfl, rfl, by omega, f12⟩
