theorem cd_X7_foundRegister : Cond.code yX7_foundRegister cX7_foundRegister 2 (some .int) ∈ pWW := pw6 (List.mem_of_getElem? (i := 158) rfl) rfl
abbrev m_X7_foundRegister : MT := (yX7_foundRegister, cX7_foundRegister, 2, (some .int))
theorem ok_X7_foundRegister : pOk m_X7_foundRegister := ⟨⟨cd_X7_foundRegister, ini_7⟩, by decide +kernel, ⟨by decide +kernel, by decide +kernel⟩, Nat.le_of_ble_eq_true rfl⟩
theorem np_X7_foundRegister : (parseMethodDescriptor yX7_foundRegister.desc).map (fun d => d.parameters.length) = some 1 := by decide +kernel
theorem im_X7_foundRegister : Cond.instanceMethod yX7_foundRegister ∈ pWW := pw6 (List.mem_of_getElem? (i := 156) rfl) rfl
theorem se_X7_foundRegister : Cond.selects RX7 yX7_foundRegister yX7_foundRegister ∈ pWW := pw6 (List.mem_of_getElem? (i := 157) rfl) rfl
theorem dX7_foundRegister_0 : decode cX7_foundRegister 0 = .ok (.aload_n 0, 1) := by decide +kernel
theorem dX7_foundRegister_1 : decode cX7_foundRegister 1 = .ok (.getfield 24, 3) := by decide +kernel
theorem dX7_foundRegister_4 : decode cX7_foundRegister 4 = .ok (.aload_n 0, 1) := by decide +kernel
theorem dX7_foundRegister_5 : decode cX7_foundRegister 5 = .ok (.getfield 143, 3) := by decide +kernel
theorem dX7_foundRegister_8 : decode cX7_foundRegister 8 = .ok (.sipush 192, 3) := by decide +kernel
theorem dX7_foundRegister_11 : decode cX7_foundRegister 11 = .ok (.imul, 1) := by decide +kernel
theorem dX7_foundRegister_12 : decode cX7_foundRegister 12 = .ok (.iload_n 1, 1) := by decide +kernel
theorem dX7_foundRegister_13 : decode cX7_foundRegister 13 = .ok (.iadd, 1) := by decide +kernel
theorem dX7_foundRegister_14 : decode cX7_foundRegister 14 = .ok (.invokestatic 91, 3) := by decide +kernel
theorem dX7_foundRegister_17 : decode cX7_foundRegister 17 = .ok (.ireturn, 1) := by decide +kernel
set_option maxRecDepth 20000 in
theorem k_X7_foundRegister (d : Nat) {T : CT} {σ : MS} {a : Nat} {p1 : Int} (ha : OB T a 7) (h_p1 : -2147483648 ≤ p1 ∧ p1 ≤ 2147483647) (hw : WT T σ) : Tn (d + 2) m_X7_foundRegister 0 T σ [(0, .ref a), (1, .int (iI p1))] [] (fun ro T2 σ2 => ∃ v : Int, ro = some (.int (iI v)) ∧ T = T2 ∧ σ = σ2 ∧ (-2147483648 ≤ v ∧ v ≤ 2147483647)) := by
  refine tn_aload_n dX7_foundRegister_0 rfl 0 rfl ?_
  obtain ⟨x1, hx2, hk3, hl4⟩ : ∃ x : Nat, σ.2.1 63 a = (x : Int) ∧ AR T x 1 1728 1728 := wf_63 hw ha
  have hk3i : IA T x1 := by unfold IA; omega
  refine tn_getR (ci := 7) (i := 8) (n := 63) (x := x1) dX7_foundRegister_1 rfl lay_7 (by decide) fl7_24 ha rfl rfl (hx2) ?_
  refine tn_aload_n dX7_foundRegister_4 rfl 0 rfl ?_
  refine tn_getI (ci := 7) (i := 15) (n := 70) (t := σ.2.1 70 a) dX7_foundRegister_5 rfl lay_7 (by decide) fl7_143 ha rfl rfl (rfl) ?_
  have g5 : ((-2147483648 : Int) ≤ σ.2.1 70 a ∧ σ.2.1 70 a ≤ 2147483647) := wf_70 hw ha
  refine tn_sipush dX7_foundRegister_8 (by decide) ?_
  refine tn_imul dX7_foundRegister_11 ?_
  refine tn_any (fun z6 g7 => ?_)
  have g7r : -2147483648 ≤ z6 ∧ z6 ≤ 2147483647 := g7
  refine tn_iload_n dX7_foundRegister_12 rfl 1 rfl ?_
  refine tn_iadd dX7_foundRegister_13 ?_
  refine tn_any (fun z8 g9 => ?_)
  have g9r : -2147483648 ≤ z8 ∧ z8 ≤ 2147483647 := g9
  refine tn_callSN (M := m_X7_foundRegister) (pc := 14) (ix := 91) (M' := m_X11_at) (As := [.ref x1, .int (iI z8)]) (rest := []) dX7_foundRegister_14 ok_X11_at stt_X11_at nl7_91 np_X11_at rfl (Nat.le_of_ble_eq_true rfl) (Nat.le_of_ble_eq_true rfl) rfl (k_X11_at (d) (T := T) (σ := σ) (x := x1) (i := z8) hk3i (by omega) (by omega) hw ) (fun r10 T12 σ11 gt13 hp => ?_)
  obtain ⟨v17, rfl, rfl, rfl, f14, f15, f16⟩ := hp
  clear gt13
  clear f15 f16
  show Tn _ _ 17 T σ [(0, .ref a), (1, .int (iI p1))] [.int (iI v17)] _
  exact tn_iret rfl dX7_foundRegister_17 ⟨_, rfl, rfl, rfl, by omega⟩
