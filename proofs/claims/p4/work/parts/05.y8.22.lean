theorem cd_X7_place : Cond.code yX7_place cX7_place 1 (some .int) ∈ pWW := pw6 (List.mem_of_getElem? (i := 63) rfl) rfl
abbrev m_X7_place : MT := (yX7_place, cX7_place, 1, (some .int))
theorem ok_X7_place : pOk m_X7_place := ⟨⟨cd_X7_place, ini_7⟩, by decide +kernel, ⟨by decide +kernel, by decide +kernel⟩, Nat.le_of_ble_eq_true rfl⟩
theorem np_X7_place : (parseMethodDescriptor yX7_place.desc).map (fun d => d.parameters.length) = some 0 := by decide +kernel
theorem im_X7_place : Cond.instanceMethod yX7_place ∈ pWW := pw6 (List.mem_of_getElem? (i := 61) rfl) rfl
theorem se_X7_place : Cond.selects RX7 yX7_place yX7_place ∈ pWW := pw6 (List.mem_of_getElem? (i := 62) rfl) rfl
theorem fl7_15 : Cond.fieldLink RX7 15 (TX7 5).1 (TX7 5).2.1 (TX7 5).2.2.1 ∈ pWW := pw2 (List.mem_of_getElem? (i := 142) rfl) rfl
theorem fl7_65 : Cond.fieldLink RX7 65 (TX7 2).1 (TX7 2).2.1 (TX7 2).2.2.1 ∈ pWW := pw2 (List.mem_of_getElem? (i := 137) rfl) rfl
theorem nl7_91 : (RX7, 91, yX11_at, "LineKeeper") ∈ nst_M := List.mem_of_getElem? (i := 48) rfl
theorem dX7_place_0 : decode cX7_place 0 = .ok (.aload_n 0, 1) := by decide +kernel
theorem dX7_place_1 : decode cX7_place 1 = .ok (.getfield 15, 3) := by decide +kernel
theorem dX7_place_4 : decode cX7_place 4 = .ok (.aload_n 0, 1) := by decide +kernel
theorem dX7_place_5 : decode cX7_place 5 = .ok (.getfield 65, 3) := by decide +kernel
theorem dX7_place_8 : decode cX7_place 8 = .ok (.invokestatic 91, 3) := by decide +kernel
theorem dX7_place_11 : decode cX7_place 11 = .ok (.ireturn, 1) := by decide +kernel
set_option maxRecDepth 20000 in
theorem k_X7_place (d : Nat) {T : CT} {σ : MS} {a : Nat} (ha : OB T a 7) (hw : WT T σ) : Tn (d + 2) m_X7_place 0 T σ [(0, .ref a)] [] (fun ro T2 σ2 => ∃ v : Int, ro = some (.int (iI v)) ∧ T = T2 ∧ σ = σ2 ∧ (-2147483648 ≤ v ∧ v ≤ 2147483647)) := by
  refine tn_aload_n dX7_place_0 rfl 0 rfl ?_
  obtain ⟨x1, hx2, hk3, hl4⟩ : ∃ x : Nat, σ.2.1 60 a = (x : Int) ∧ AR T x 1 9 9 := wf_60 hw ha
  have hk3i : IA T x1 := by unfold IA; omega
  refine tn_getR (ci := 7) (i := 5) (n := 60) (x := x1) dX7_place_1 rfl lay_7 (by decide) fl7_15 ha rfl rfl (hx2) ?_
  refine tn_aload_n dX7_place_4 rfl 0 rfl ?_
  refine tn_getI (ci := 7) (i := 2) (n := 57) (t := σ.2.1 57 a) dX7_place_5 rfl lay_7 (by decide) fl7_65 ha rfl rfl (rfl) ?_
  have g5 : ((0 : Int) ≤ σ.2.1 57 a ∧ σ.2.1 57 a ≤ 11184800) ∧ ((T a).1 = 57 → σ.2.1 57 a ≤ 8) := wf_57 hw ha
  have g5x := g5.2
  replace g5 := g5.1
  clear g5x
  refine tn_callSN (M := m_X7_place) (pc := 8) (ix := 91) (M' := m_X11_at) (As := [.ref x1, .int (iI (σ.2.1 57 a))]) (rest := []) dX7_place_8 ok_X11_at stt_X11_at nl7_91 np_X11_at rfl (Nat.le_of_ble_eq_true rfl) (Nat.le_of_ble_eq_true rfl) rfl (k_X11_at (d) (T := T) (σ := σ) (x := x1) (i := σ.2.1 57 a) hk3i (by omega) (by omega) hw ) (fun r6 T8 σ7 gt9 hp => ?_)
  obtain ⟨v13, rfl, rfl, rfl, f10, f11, f12⟩ := hp
  clear gt9
  clear f11 f12
  show Tn _ _ 11 T σ [(0, .ref a)] [.int (iI v13)] _
  exact tn_iret rfl dX7_place_11 ⟨_, rfl, rfl, rfl, by omega⟩
