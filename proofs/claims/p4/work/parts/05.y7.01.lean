theorem cd_X3_lives : Cond.code yX3_lives cX3_lives 3 (some .boolean) ∈ pWW := pw5 (List.mem_of_getElem? (i := 67) rfl) rfl
theorem ini_3 : Cond.initialized RX3 ∈ pWW := pw1 (List.mem_of_getElem? (i := 5) rfl) rfl
abbrev m_X3_lives : MT := (yX3_lives, cX3_lives, 3, (some .boolean))
theorem ok_X3_lives : pOk m_X3_lives := ⟨⟨cd_X3_lives, ini_3⟩, by decide +kernel, ⟨by decide +kernel, by decide +kernel⟩, Nat.le_of_ble_eq_true rfl⟩
theorem np_X3_lives : (parseMethodDescriptor yX3_lives.desc).map (fun d => d.parameters.length) = some 2 := by decide +kernel
theorem im_X3_lives : Cond.instanceMethod yX3_lives ∈ pWW := pw5 (List.mem_of_getElem? (i := 65) rfl) rfl
theorem se_X3_lives : Cond.selects RX3 yX3_lives yX3_lives ∈ pWW := pw5 (List.mem_of_getElem? (i := 66) rfl) rfl
theorem fl3_9 : Cond.fieldLink RX3 9 (TX3 0).1 (TX3 0).2.1 (TX3 0).2.2.1 ∈ pWW := pw1 (List.mem_of_getElem? (i := 220) rfl) rfl
theorem nl3_25 : (RX3, 25, yX11_has, "LineKeeper") ∈ nst_M := List.mem_of_getElem? (i := 31) rfl
theorem dX3_lives_0 : decode cX3_lives 0 = .ok (.aload_n 0, 1) := by decide +kernel
theorem dX3_lives_1 : decode cX3_lives 1 = .ok (.getfield 9, 3) := by decide +kernel
theorem dX3_lives_4 : decode cX3_lives 4 = .ok (.iload_n 1, 1) := by decide +kernel
theorem dX3_lives_5 : decode cX3_lives 5 = .ok (.iload_n 2, 1) := by decide +kernel
theorem dX3_lives_6 : decode cX3_lives 6 = .ok (.invokestatic 25, 3) := by decide +kernel
theorem dX3_lives_9 : decode cX3_lives 9 = .ok (.ireturn, 1) := by decide +kernel
set_option maxRecDepth 20000 in
theorem k_X3_lives (d : Nat) {T : CT} {σ : MS} {a : Nat} {p1 : Int} {p2 : Int} (ha : OB T a 3) (h_p1 : -2147483648 ≤ p1 ∧ p1 ≤ 2147483647) (h_p2 : -2147483648 ≤ p2 ∧ p2 ≤ 2147483647) (hw : WT T σ) : Tn (d + 3) m_X3_lives 0 T σ [(0, .ref a), (1, .int (iI p1)), (2, .int (iI p2))] [] (fun ro T2 σ2 => ∃ v : Int, ro = some (.int (iI v)) ∧ T = T2 ∧ σ = σ2 ∧ (v = 0 ∨ v = 1)) := by
  refine tn_aload_n dX3_lives_0 rfl 0 rfl ?_
  obtain ⟨x1, hx2, hk3, hl4⟩ : ∃ x : Nat, σ.2.1 18 a = (x : Int) ∧ AR T x 3 603 603 := wf_18 hw ha
  refine tn_getR (ci := 3) (i := 0) (n := 18) (x := x1) dX3_lives_1 rfl lay_3 (by decide) fl3_9 ha rfl rfl (hx2) ?_
  refine tn_iload_n dX3_lives_4 rfl 1 rfl ?_
  refine tn_iload_n dX3_lives_5 rfl 2 rfl ?_
  refine tn_callSN (M := m_X3_lives) (pc := 6) (ix := 25) (M' := m_X11_has) (As := [.ref x1, .int (iI p1), .int (iI p2)]) (rest := []) dX3_lives_6 ok_X11_has stt_X11_has nl3_25 np_X11_has rfl (Nat.le_of_ble_eq_true rfl) (Nat.le_of_ble_eq_true rfl) rfl (k_X11_has (d) (T := T) (σ := σ) (x := x1) (k := p1) (r := p2) hk3 (by omega) (by omega) (by omega) hw ) (fun r5 T7 σ6 gt8 hp => ?_)
  obtain ⟨v10, rfl, rfl, rfl, f9⟩ := hp
  clear gt8
  show Tn _ _ 9 T σ [(0, .ref a), (1, .int (iI p1)), (2, .int (iI p2))] [.int (iI v10)] _
  exact tn_zret (v := v10) rfl (by omega) dX3_lives_9 ⟨_, rfl, rfl, rfl, by omega⟩
