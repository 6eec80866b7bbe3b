section
set_option maxHeartbeats 1000000 in
set_option maxRecDepth 20000 in
theorem k_X7_foundRegister_t (d : Nat) {T : CT} {σ : MS} {a : Nat} {p1 : Int} {xe : Nat} (ha : OB T a 7) (h_p1 : -2147483648 ≤ p1 ∧ p1 ≤ 2147483647) (hw : WT T σ) (hxe : σ.2.1 63 a = (xe : Int)) : Tn (d + 2) m_X7_foundRegister 0 T σ [(0, .ref a), (1, .int (iI p1))] [] (fun ro T2 σ2 => ∃ v : Int, ro = some (.int (iI v)) ∧ T = T2 ∧ σ = σ2 ∧ (-2147483648 ≤ v ∧ v ≤ 2147483647) ∧ (v = jRG T σ a xe p1)) := by
  refine tn_aload_n dX7_foundRegister_0 rfl 0 rfl ?_
  obtain ⟨hk3, hl4⟩ : AR T xe 1 1728 1728 := ar_of (wf_63 hw ha) hxe
  have hk3i : IA T xe := by unfold IA; omega
  refine tn_getR (ci := 7) (i := 8) (n := 63) (x := xe) dX7_foundRegister_1 rfl lay_7 (by decide) fl7_24 ha rfl rfl (hxe) ?_
  refine tn_aload_n dX7_foundRegister_4 rfl 0 rfl ?_
  refine tn_getI (ci := 7) (i := 15) (n := 70) (t := σ.2.1 70 a) dX7_foundRegister_5 rfl lay_7 (by decide) fl7_143 ha rfl rfl (rfl) ?_
  have g5 : ((-2147483648 : Int) ≤ σ.2.1 70 a ∧ σ.2.1 70 a ≤ 2147483647) := wf_70 hw ha
  refine tn_sipush dX7_foundRegister_8 (by decide) ?_
  refine tn_imul dX7_foundRegister_11 ?_
  rw [show iI ((σ.2.1 70 a) * 192) = iI (w32 ((σ.2.1 70 a) * 192)) from (iI_self _).symm]
  have g6r : -2147483648 ≤ w32 ((σ.2.1 70 a) * 192) ∧ w32 ((σ.2.1 70 a) * 192) ≤ 2147483647 := inR_toInt _
  refine tn_iload_n dX7_foundRegister_12 rfl 1 rfl ?_
  refine tn_iadd dX7_foundRegister_13 ?_
  rw [show iI ((w32 ((σ.2.1 70 a) * 192)) + p1) = iI (w32 ((w32 ((σ.2.1 70 a) * 192)) + p1)) from (iI_self _).symm]
  have g7r : -2147483648 ≤ w32 ((w32 ((σ.2.1 70 a) * 192)) + p1) ∧ w32 ((w32 ((σ.2.1 70 a) * 192)) + p1) ≤ 2147483647 := inR_toInt _
  refine tn_callSN (M := m_X7_foundRegister) (pc := 14) (ix := 91) (M' := m_X11_at) (As := [.ref xe, .int (iI (w32 ((w32 ((σ.2.1 70 a) * 192)) + p1)))]) (rest := []) dX7_foundRegister_14 ok_X11_at stt_X11_at nl7_91 np_X11_at rfl (Nat.le_of_ble_eq_true rfl) (Nat.le_of_ble_eq_true rfl) rfl (k_X11_at_j (d) (T := T) (σ := σ) (x := xe) (i := w32 ((w32 ((σ.2.1 70 a) * 192)) + p1)) hk3i (by omega) (by omega) hw ) (fun r8 T10 σ9 gt11 hp => ?_)
  obtain ⟨v15, rfl, rfl, rfl, f12, f13, f14⟩ := hp
  clear gt11
  clear f13
  show Tn _ _ 17 T σ [(0, .ref a), (1, .int (iI p1))] [.int (iI v15)] _
  exact tn_iret rfl dX7_foundRegister_17 ⟨_, rfl, rfl, rfl, by omega, by unfold jRG; exact f14⟩
end
