set_option maxHeartbeats 1000000 in
set_option maxRecDepth 20000 in
theorem k_X7_foundLine_j (d : Nat) {T : CT} {σ : MS} {a : Nat} {xd : Nat} (ha : OB T a 7) (hw : WT T σ) (hxd : σ.2.1 62 a = (xd : Int)) : Tn (d + 2) m_X7_foundLine 0 T σ [(0, .ref a)] [] (fun ro T2 σ2 => ∃ v : Int, ro = some (.int (iI v)) ∧ T = T2 ∧ σ = σ2 ∧ (-2147483648 ≤ v ∧ v ≤ 2147483647) ∧ (v = jA T xd (w32 (w32 (σ.2.1 70 a * 12) + σ.2.1 71 a)) σ)) := by
  refine tn_aload_n dX7_foundLine_0 rfl 0 rfl ?_
  obtain ⟨hk3, hl4⟩ : AR T xd 1 108 108 := ar_of (wf_62 hw ha) hxd
  have hk3i : IA T xd := by unfold IA; omega
  refine tn_getR (ci := 7) (i := 7) (n := 62) (x := xd) dX7_foundLine_1 rfl lay_7 (by decide) fl7_21 ha rfl rfl (hxd) ?_
  refine tn_aload_n dX7_foundLine_4 rfl 0 rfl ?_
  refine tn_getI (ci := 7) (i := 15) (n := 70) (t := σ.2.1 70 a) dX7_foundLine_5 rfl lay_7 (by decide) fl7_143 ha rfl rfl (rfl) ?_
  have g5 : ((-2147483648 : Int) ≤ σ.2.1 70 a ∧ σ.2.1 70 a ≤ 2147483647) := wf_70 hw ha
  refine tn_bipush dX7_foundLine_8 (by decide) ?_
  refine tn_imul dX7_foundLine_10 ?_
  rw [show iI ((σ.2.1 70 a) * 12) = iI (w32 ((σ.2.1 70 a) * 12)) from (iI_self _).symm]
  have g6r : -2147483648 ≤ w32 ((σ.2.1 70 a) * 12) ∧ w32 ((σ.2.1 70 a) * 12) ≤ 2147483647 := inR_toInt _
  refine tn_aload_n dX7_foundLine_11 rfl 0 rfl ?_
  refine tn_getI (ci := 7) (i := 16) (n := 71) (t := σ.2.1 71 a) dX7_foundLine_12 rfl lay_7 (by decide) fl7_146 ha rfl rfl (rfl) ?_
  have g7 : ((-2147483648 : Int) ≤ σ.2.1 71 a ∧ σ.2.1 71 a ≤ 2147483647) := wf_71 hw ha
  refine tn_iadd dX7_foundLine_15 ?_
  rw [show iI ((w32 ((σ.2.1 70 a) * 12)) + (σ.2.1 71 a)) = iI (w32 ((w32 ((σ.2.1 70 a) * 12)) + (σ.2.1 71 a))) from (iI_self _).symm]
  have g8r : -2147483648 ≤ w32 ((w32 ((σ.2.1 70 a) * 12)) + (σ.2.1 71 a)) ∧ w32 ((w32 ((σ.2.1 70 a) * 12)) + (σ.2.1 71 a)) ≤ 2147483647 := inR_toInt _
  refine tn_callSN (M := m_X7_foundLine) (pc := 16) (ix := 91) (M' := m_X11_at) (As := [.ref xd, .int (iI (w32 ((w32 ((σ.2.1 70 a) * 12)) + (σ.2.1 71 a))))]) (rest := []) dX7_foundLine_16 ok_X11_at stt_X11_at nl7_91 np_X11_at rfl (Nat.le_of_ble_eq_true rfl) (Nat.le_of_ble_eq_true rfl) rfl (k_X11_at_j (d) (T := T) (σ := σ) (x := xd) (i := w32 ((w32 ((σ.2.1 70 a) * 12)) + (σ.2.1 71 a))) hk3i (by omega) (by omega) hw ) (fun r9 T11 σ10 gt12 hp => ?_)
  obtain ⟨v16, rfl, rfl, rfl, f13, f14, f15⟩ := hp
  clear gt12
  clear f14
  show Tn _ _ 19 T σ [(0, .ref a)] [.int (iI v16)] _
  exact tn_iret rfl dX7_foundLine_19 ⟨_, rfl, rfl, rfl, by omega, f15⟩
