theorem cd_X7_foundSource : Cond.code yX7_foundSource cX7_foundSource 1 (some .int) ∈ pWW := pw6 (List.mem_of_getElem? (i := 132) rfl) rfl
abbrev m_X7_foundSource : MT := (yX7_foundSource, cX7_foundSource, 1, (some .int))
theorem ok_X7_foundSource : pOk m_X7_foundSource := ⟨⟨cd_X7_foundSource, ini_7⟩, by decide +kernel, ⟨by decide +kernel, by decide +kernel⟩, Nat.le_of_ble_eq_true rfl⟩
theorem np_X7_foundSource : (parseMethodDescriptor yX7_foundSource.desc).map (fun d => d.parameters.length) = some 0 := by decide +kernel
theorem im_X7_foundSource : Cond.instanceMethod yX7_foundSource ∈ pWW := pw6 (List.mem_of_getElem? (i := 130) rfl) rfl
theorem se_X7_foundSource : Cond.selects RX7 yX7_foundSource yX7_foundSource ∈ pWW := pw6 (List.mem_of_getElem? (i := 131) rfl) rfl
theorem fl7_143 : Cond.fieldLink RX7 143 (TX7 15).1 (TX7 15).2.1 (TX7 15).2.2.1 ∈ pWW := pw2 (List.mem_of_getElem? (i := 159) rfl) rfl
theorem dX7_foundSource_0 : decode cX7_foundSource 0 = .ok (.aload_n 0, 1) := by decide +kernel
theorem dX7_foundSource_1 : decode cX7_foundSource 1 = .ok (.getfield 9, 3) := by decide +kernel
theorem dX7_foundSource_4 : decode cX7_foundSource 4 = .ok (.aload_n 0, 1) := by decide +kernel
theorem dX7_foundSource_5 : decode cX7_foundSource 5 = .ok (.getfield 143, 3) := by decide +kernel
theorem dX7_foundSource_8 : decode cX7_foundSource 8 = .ok (.invokestatic 91, 3) := by decide +kernel
theorem dX7_foundSource_11 : decode cX7_foundSource 11 = .ok (.ireturn, 1) := by decide +kernel
set_option maxRecDepth 20000 in
theorem k_X7_foundSource (d : Nat) {T : CT} {σ : MS} {a : Nat} (ha : OB T a 7) (hw : WT T σ) : Tn (d + 2) m_X7_foundSource 0 T σ [(0, .ref a)] [] (fun ro T2 σ2 => ∃ v : Int, ro = some (.int (iI v)) ∧ T = T2 ∧ σ = σ2 ∧ (-2147483648 ≤ v ∧ v ≤ 2147483647)) := by
  refine tn_aload_n dX7_foundSource_0 rfl 0 rfl ?_
  obtain ⟨x1, hx2, hk3, hl4⟩ : ∃ x : Nat, σ.2.1 59 a = (x : Int) ∧ AR T x 15 9 9 := wf_59 hw ha
  have hk3i : IA T x1 := by unfold IA; omega
  refine tn_getR (ci := 7) (i := 4) (n := 59) (x := x1) dX7_foundSource_1 rfl lay_7 (by decide) fl7_9 ha rfl rfl (hx2) ?_
  refine tn_aload_n dX7_foundSource_4 rfl 0 rfl ?_
  refine tn_getI (ci := 7) (i := 15) (n := 70) (t := σ.2.1 70 a) dX7_foundSource_5 rfl lay_7 (by decide) fl7_143 ha rfl rfl (rfl) ?_
  have g5 : ((-2147483648 : Int) ≤ σ.2.1 70 a ∧ σ.2.1 70 a ≤ 2147483647) := wf_70 hw ha
  refine tn_callSN (M := m_X7_foundSource) (pc := 8) (ix := 91) (M' := m_X11_at) (As := [.ref x1, .int (iI (σ.2.1 70 a))]) (rest := []) dX7_foundSource_8 ok_X11_at stt_X11_at nl7_91 np_X11_at rfl (Nat.le_of_ble_eq_true rfl) (Nat.le_of_ble_eq_true rfl) rfl (k_X11_at (d) (T := T) (σ := σ) (x := x1) (i := σ.2.1 70 a) hk3i (by omega) (by omega) hw ) (fun r6 T8 σ7 gt9 hp => ?_)
  obtain ⟨v13, rfl, rfl, rfl, f10, f11, f12⟩ := hp
  clear gt9
  clear f11 f12
  show Tn _ _ 11 T σ [(0, .ref a)] [.int (iI v13)] _
  exact tn_iret rfl dX7_foundSource_11 ⟨_, rfl, rfl, rfl, by omega⟩
