theorem cd_X1_homeOf : Cond.code yX1_homeOf cX1_homeOf 3 (some .int) ∈ pWW := pw4 (List.mem_of_getElem? (i := 78) rfl) rfl
abbrev m_X1_homeOf : MT := (yX1_homeOf, cX1_homeOf, 3, (some .int))
theorem ok_X1_homeOf : pOk m_X1_homeOf := ⟨⟨cd_X1_homeOf, ini_1⟩, by decide +kernel, ⟨by decide +kernel, by decide +kernel⟩, Nat.le_of_ble_eq_true rfl⟩
theorem np_X1_homeOf : (parseMethodDescriptor yX1_homeOf.desc).map (fun d => d.parameters.length) = some 2 := by decide +kernel
theorem im_X1_homeOf : Cond.instanceMethod yX1_homeOf ∈ pWW := pw4 (List.mem_of_getElem? (i := 76) rfl) rfl
theorem se_X1_homeOf : Cond.selects RX1 yX1_homeOf yX1_homeOf ∈ pWW := pw4 (List.mem_of_getElem? (i := 77) rfl) rfl
theorem fl1_27 : Cond.fieldLink RX1 27 (TX1 10).1 (TX1 10).2.1 (TX1 10).2.2.1 ∈ pWW := pw1 (List.mem_of_getElem? (i := 123) rfl) rfl
theorem nl1_53 : (RX1, 53, yX11_at, "LineKeeper") ∈ nst_M := List.mem_of_getElem? (i := 14) rfl
theorem dX1_homeOf_0 : decode cX1_homeOf 0 = .ok (.aload_n 0, 1) := by decide +kernel
theorem dX1_homeOf_1 : decode cX1_homeOf 1 = .ok (.getfield 27, 3) := by decide +kernel
theorem dX1_homeOf_4 : decode cX1_homeOf 4 = .ok (.iload_n 1, 1) := by decide +kernel
theorem dX1_homeOf_5 : decode cX1_homeOf 5 = .ok (.bipush 12, 2) := by decide +kernel
theorem dX1_homeOf_7 : decode cX1_homeOf 7 = .ok (.imul, 1) := by decide +kernel
theorem dX1_homeOf_8 : decode cX1_homeOf 8 = .ok (.iload_n 2, 1) := by decide +kernel
theorem dX1_homeOf_9 : decode cX1_homeOf 9 = .ok (.iadd, 1) := by decide +kernel
theorem dX1_homeOf_10 : decode cX1_homeOf 10 = .ok (.invokestatic 53, 3) := by decide +kernel
theorem dX1_homeOf_13 : decode cX1_homeOf 13 = .ok (.ireturn, 1) := by decide +kernel
set_option maxRecDepth 20000 in
theorem k_X1_homeOf (d : Nat) {T : CT} {σ : MS} {a : Nat} {f : Int} {m : Int} (ha : OB T a 1) (h_f : -2147483648 ≤ f ∧ f ≤ 2147483647) (h_m : -2147483648 ≤ m ∧ m ≤ 2147483647) (hw : WT T σ) : Tn (d + 2) m_X1_homeOf 0 T σ [(0, .ref a), (1, .int (iI f)), (2, .int (iI m))] [] (fun ro T2 σ2 => ∃ v : Int, ro = some (.int (iI v)) ∧ T = T2 ∧ σ = σ2 ∧ (-2147483648 ≤ v ∧ v ≤ 2147483647)) := by
  refine tn_aload_n dX1_homeOf_0 rfl 0 rfl ?_
  obtain ⟨x1, hx2, hk3, hl4⟩ : ∃ x : Nat, σ.2.1 15 a = (x : Int) ∧ AR T x 1 144 144 := wf_15 hw ha
  have hk3i : IA T x1 := by unfold IA; omega
  refine tn_getR (ci := 1) (i := 10) (n := 15) (x := x1) dX1_homeOf_1 rfl lay_1 (by decide) fl1_27 ha rfl rfl (hx2) ?_
  refine tn_iload_n dX1_homeOf_4 rfl 1 rfl ?_
  refine tn_bipush dX1_homeOf_5 (by decide) ?_
  refine tn_imul dX1_homeOf_7 ?_
  refine tn_any (fun z5 g6 => ?_)
  have g6r : -2147483648 ≤ z5 ∧ z5 ≤ 2147483647 := g6
  refine tn_iload_n dX1_homeOf_8 rfl 2 rfl ?_
  refine tn_iadd dX1_homeOf_9 ?_
  refine tn_any (fun z7 g8 => ?_)
  have g8r : -2147483648 ≤ z7 ∧ z7 ≤ 2147483647 := g8
  refine tn_callSN (M := m_X1_homeOf) (pc := 10) (ix := 53) (M' := m_X11_at) (As := [.ref x1, .int (iI z7)]) (rest := []) dX1_homeOf_10 ok_X11_at stt_X11_at nl1_53 np_X11_at rfl (Nat.le_of_ble_eq_true rfl) (Nat.le_of_ble_eq_true rfl) rfl (k_X11_at (d) (T := T) (σ := σ) (x := x1) (i := z7) hk3i (by omega) (by omega) hw ) (fun r9 T11 σ10 gt12 hp => ?_)
  obtain ⟨v16, rfl, rfl, rfl, f13, f14, f15⟩ := hp
  clear gt12
  clear f14 f15
  show Tn _ _ 13 T σ [(0, .ref a), (1, .int (iI f)), (2, .int (iI m))] [.int (iI v16)] _
  exact tn_iret rfl dX1_homeOf_13 ⟨_, rfl, rfl, rfl, by omega⟩
