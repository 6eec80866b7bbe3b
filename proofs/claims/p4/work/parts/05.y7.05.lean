theorem cd_X3_isSeen : Cond.code yX3_isSeen cX3_isSeen 2 (some .boolean) ∈ pWW := pw5 (List.mem_of_getElem? (i := 10) rfl) rfl
abbrev m_X3_isSeen : MT := (yX3_isSeen, cX3_isSeen, 2, (some .boolean))
theorem ok_X3_isSeen : pOk m_X3_isSeen := ⟨⟨cd_X3_isSeen, ini_3⟩, by decide +kernel, ⟨by decide +kernel, by decide +kernel⟩, Nat.le_of_ble_eq_true rfl⟩
theorem np_X3_isSeen : (parseMethodDescriptor yX3_isSeen.desc).map (fun d => d.parameters.length) = some 1 := by decide +kernel
theorem im_X3_isSeen : Cond.instanceMethod yX3_isSeen ∈ pWW := pw5 (List.mem_of_getElem? (i := 8) rfl) rfl
theorem se_X3_isSeen : Cond.selects RX3 yX3_isSeen yX3_isSeen ∈ pWW := pw5 (List.mem_of_getElem? (i := 9) rfl) rfl
theorem fl3_18 : Cond.fieldLink RX3 18 (TX3 2).1 (TX3 2).2.1 (TX3 2).2.2.1 ∈ pWW := pw1 (List.mem_of_getElem? (i := 224) rfl) rfl
theorem nl3_84 : (RX3, 84, yX11_at, "LineKeeper") ∈ nst_M := List.mem_of_getElem? (i := 21) rfl
theorem dX3_isSeen_0 : decode cX3_isSeen 0 = .ok (.aload_n 0, 1) := by decide +kernel
theorem dX3_isSeen_1 : decode cX3_isSeen 1 = .ok (.getfield 18, 3) := by decide +kernel
theorem dX3_isSeen_4 : decode cX3_isSeen 4 = .ok (.iload_n 1, 1) := by decide +kernel
theorem dX3_isSeen_5 : decode cX3_isSeen 5 = .ok (.invokestatic 84, 3) := by decide +kernel
theorem dX3_isSeen_8 : decode cX3_isSeen 8 = .ok (.ifCond .eq 7, 3) := by decide +kernel
theorem dX3_isSeen_15 : decode cX3_isSeen 15 = .ok (.iconst 0, 1) := by decide +kernel
theorem dX3_isSeen_16 : decode cX3_isSeen 16 = .ok (.ireturn, 1) := by decide +kernel
theorem dX3_isSeen_11 : decode cX3_isSeen 11 = .ok (.iconst 1, 1) := by decide +kernel
theorem dX3_isSeen_12 : decode cX3_isSeen 12 = .ok (.goto 4, 3) := by decide +kernel
set_option maxRecDepth 20000 in
theorem k_X3_isSeen (d : Nat) {T : CT} {σ : MS} {a : Nat} {p1 : Int} (ha : OB T a 3) (h_p1 : -2147483648 ≤ p1 ∧ p1 ≤ 2147483647) (hw : WT T σ) : Tn (d + 2) m_X3_isSeen 0 T σ [(0, .ref a), (1, .int (iI p1))] [] (fun ro T2 σ2 => ∃ v : Int, ro = some (.int (iI v)) ∧ T = T2 ∧ σ = σ2 ∧ (v = 0 ∨ v = 1)) := by
  refine tn_aload_n dX3_isSeen_0 rfl 0 rfl ?_
  obtain ⟨x1, hx2, hk3, hl4⟩ : ∃ x : Nat, σ.2.1 20 a = (x : Int) ∧ AR T x 1 201 201 := wf_20 hw ha
  have hk3i : IA T x1 := by unfold IA; omega
  refine tn_getR (ci := 3) (i := 2) (n := 20) (x := x1) dX3_isSeen_1 rfl lay_3 (by decide) fl3_18 ha rfl rfl (hx2) ?_
  refine tn_iload_n dX3_isSeen_4 rfl 1 rfl ?_
  refine tn_callSN (M := m_X3_isSeen) (pc := 5) (ix := 84) (M' := m_X11_at) (As := [.ref x1, .int (iI p1)]) (rest := []) dX3_isSeen_5 ok_X11_at stt_X11_at nl3_84 np_X11_at rfl (Nat.le_of_ble_eq_true rfl) (Nat.le_of_ble_eq_true rfl) rfl (k_X11_at (d) (T := T) (σ := σ) (x := x1) (i := p1) hk3i (by omega) (by omega) hw ) (fun r5 T7 σ6 gt8 hp => ?_)
  obtain ⟨v12, rfl, rfl, rfl, f9, f10, f11⟩ := hp
  clear gt8
  clear f10 f11
  show Tn _ _ 8 T σ [(0, .ref a), (1, .int (iI p1))] [.int (iI v12)] _
  refine tn_if_eq (tgt := 15) dX3_isSeen_8 (by decide) ⟨by omega, by omega⟩ (fun h13 => ?_) (fun h13 => ?_)
  · refine tn_iconst dX3_isSeen_15 ?_
    exact tn_zret (v := 0) rfl (by decide) dX3_isSeen_16 ⟨_, rfl, rfl, rfl, by omega⟩
  · refine tn_iconst dX3_isSeen_11 ?_
    refine tn_goto (tgt := 16) dX3_isSeen_12 (by decide) ?_
    exact tn_zret (v := 1) rfl (by decide) dX3_isSeen_16 ⟨_, rfl, rfl, rfl, by omega⟩
