theorem cd_X7_foundLine : Cond.code yX7_foundLine cX7_foundLine 1 (some .int) ∈ pWW := pw6 (List.mem_of_getElem? (i := 116) rfl) rfl
abbrev m_X7_foundLine : MT := (yX7_foundLine, cX7_foundLine, 1, (some .int))
theorem ok_X7_foundLine : pOk m_X7_foundLine := ⟨⟨cd_X7_foundLine, ini_7⟩, by decide +kernel, ⟨by decide +kernel, by decide +kernel⟩, Nat.le_of_ble_eq_true rfl⟩
theorem np_X7_foundLine : (parseMethodDescriptor yX7_foundLine.desc).map (fun d => d.parameters.length) = some 0 := by decide +kernel
theorem im_X7_foundLine : Cond.instanceMethod yX7_foundLine ∈ pWW := pw6 (List.mem_of_getElem? (i := 114) rfl) rfl
theorem se_X7_foundLine : Cond.selects RX7 yX7_foundLine yX7_foundLine ∈ pWW := pw6 (List.mem_of_getElem? (i := 115) rfl) rfl
theorem dX7_foundLine_0 : decode cX7_foundLine 0 = .ok (.aload_n 0, 1) := by decide +kernel
theorem dX7_foundLine_1 : decode cX7_foundLine 1 = .ok (.getfield 21, 3) := by decide +kernel
theorem dX7_foundLine_4 : decode cX7_foundLine 4 = .ok (.aload_n 0, 1) := by decide +kernel
theorem dX7_foundLine_5 : decode cX7_foundLine 5 = .ok (.getfield 143, 3) := by decide +kernel
theorem dX7_foundLine_8 : decode cX7_foundLine 8 = .ok (.bipush 12, 2) := by decide +kernel
theorem dX7_foundLine_10 : decode cX7_foundLine 10 = .ok (.imul, 1) := by decide +kernel
theorem dX7_foundLine_11 : decode cX7_foundLine 11 = .ok (.aload_n 0, 1) := by decide +kernel
theorem dX7_foundLine_12 : decode cX7_foundLine 12 = .ok (.getfield 146, 3) := by decide +kernel
theorem dX7_foundLine_15 : decode cX7_foundLine 15 = .ok (.iadd, 1) := by decide +kernel
theorem dX7_foundLine_16 : decode cX7_foundLine 16 = .ok (.invokestatic 91, 3) := by decide +kernel
theorem dX7_foundLine_19 : decode cX7_foundLine 19 = .ok (.ireturn, 1) := by decide +kernel
set_option maxRecDepth 20000 in
theorem k_X7_foundLine (d : Nat) {T : CT} {σ : MS} {a : Nat} (ha : OB T a 7) (hw : WT T σ) : Tn (d + 2) m_X7_foundLine 0 T σ [(0, .ref a)] [] (fun ro T2 σ2 => ∃ v : Int, ro = some (.int (iI v)) ∧ T = T2 ∧ σ = σ2 ∧ (-2147483648 ≤ v ∧ v ≤ 2147483647)) := by
  refine tn_aload_n dX7_foundLine_0 rfl 0 rfl ?_
  obtain ⟨x1, hx2, hk3, hl4⟩ : ∃ x : Nat, σ.2.1 62 a = (x : Int) ∧ AR T x 1 108 108 := wf_62 hw ha
  have hk3i : IA T x1 := by unfold IA; omega
  refine tn_getR (ci := 7) (i := 7) (n := 62) (x := x1) dX7_foundLine_1 rfl lay_7 (by decide) fl7_21 ha rfl rfl (hx2) ?_
  refine tn_aload_n dX7_foundLine_4 rfl 0 rfl ?_
  refine tn_getI (ci := 7) (i := 15) (n := 70) (t := σ.2.1 70 a) dX7_foundLine_5 rfl lay_7 (by decide) fl7_143 ha rfl rfl (rfl) ?_
  have g5 : ((-2147483648 : Int) ≤ σ.2.1 70 a ∧ σ.2.1 70 a ≤ 2147483647) := wf_70 hw ha
  refine tn_bipush dX7_foundLine_8 (by decide) ?_
  refine tn_imul dX7_foundLine_10 ?_
  refine tn_any (fun z6 g7 => ?_)
  have g7r : -2147483648 ≤ z6 ∧ z6 ≤ 2147483647 := g7
  refine tn_aload_n dX7_foundLine_11 rfl 0 rfl ?_
  refine tn_getI (ci := 7) (i := 16) (n := 71) (t := σ.2.1 71 a) dX7_foundLine_12 rfl lay_7 (by decide) fl7_146 ha rfl rfl (rfl) ?_
  have g8 : ((-2147483648 : Int) ≤ σ.2.1 71 a ∧ σ.2.1 71 a ≤ 2147483647) := wf_71 hw ha
  refine tn_iadd dX7_foundLine_15 ?_
  refine tn_any (fun z9 g10 => ?_)
  have g10r : -2147483648 ≤ z9 ∧ z9 ≤ 2147483647 := g10
  refine tn_callSN (M := m_X7_foundLine) (pc := 16) (ix := 91) (M' := m_X11_at) (As := [.ref x1, .int (iI z9)]) (rest := []) dX7_foundLine_16 ok_X11_at stt_X11_at nl7_91 np_X11_at rfl (Nat.le_of_ble_eq_true rfl) (Nat.le_of_ble_eq_true rfl) rfl (k_X11_at (d) (T := T) (σ := σ) (x := x1) (i := z9) hk3i (by omega) (by omega) hw ) (fun r11 T13 σ12 gt14 hp => ?_)
  obtain ⟨v18, rfl, rfl, rfl, f15, f16, f17⟩ := hp
  clear gt14
  clear f16 f17
  show Tn _ _ 19 T σ [(0, .ref a)] [.int (iI v18)] _
  exact tn_iret rfl dX7_foundLine_19 ⟨_, rfl, rfl, rfl, by omega⟩
