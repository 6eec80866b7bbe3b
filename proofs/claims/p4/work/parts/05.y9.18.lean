theorem cd_X7_foundId : Cond.code yX7_foundId cX7_foundId 3 (some .int) ∈ pWW := pw6 (List.mem_of_getElem? (i := 137) rfl) rfl
abbrev m_X7_foundId : MT := (yX7_foundId, cX7_foundId, 3, (some .int))
theorem ok_X7_foundId : pOk m_X7_foundId := ⟨⟨cd_X7_foundId, ini_7⟩, by decide +kernel, ⟨by decide +kernel, by decide +kernel⟩, Nat.le_of_ble_eq_true rfl⟩
theorem np_X7_foundId : (parseMethodDescriptor yX7_foundId.desc).map (fun d => d.parameters.length) = some 2 := by decide +kernel
theorem im_X7_foundId : Cond.instanceMethod yX7_foundId ∈ pWW := pw6 (List.mem_of_getElem? (i := 135) rfl) rfl
theorem se_X7_foundId : Cond.selects RX7 yX7_foundId yX7_foundId ∈ pWW := pw6 (List.mem_of_getElem? (i := 136) rfl) rfl
theorem ml7_168 : Cond.methodLink RX7 168 yX7_foundSource ∈ pWW := pw6 (List.mem_of_getElem? (i := 138) rfl) rfl
theorem ml7_171 : Cond.methodLink RX7 171 yX7_foundSlot ∈ pWW := pw6 (List.mem_of_getElem? (i := 139) rfl) rfl
theorem ml7_175 : Cond.methodLink RX7 175 yX10_idIn ∈ pWW := pw6 (List.mem_of_getElem? (i := 144) rfl) rfl
theorem dX7_foundId_0 : decode cX7_foundId 0 = .ok (.aload_n 1, 1) := by decide +kernel
theorem dX7_foundId_1 : decode cX7_foundId 1 = .ok (.aload_n 0, 1) := by decide +kernel
theorem dX7_foundId_2 : decode cX7_foundId 2 = .ok (.invokevirtual 168, 3) := by decide +kernel
theorem dX7_foundId_5 : decode cX7_foundId 5 = .ok (.aload_n 0, 1) := by decide +kernel
theorem dX7_foundId_6 : decode cX7_foundId 6 = .ok (.aload_n 1, 1) := by decide +kernel
theorem dX7_foundId_7 : decode cX7_foundId 7 = .ok (.invokevirtual 171, 3) := by decide +kernel
theorem dX7_foundId_10 : decode cX7_foundId 10 = .ok (.iload_n 2, 1) := by decide +kernel
theorem dX7_foundId_11 : decode cX7_foundId 11 = .ok (.iadd, 1) := by decide +kernel
theorem dX7_foundId_12 : decode cX7_foundId 12 = .ok (.invokevirtual 175, 3) := by decide +kernel
theorem dX7_foundId_15 : decode cX7_foundId 15 = .ok (.ireturn, 1) := by decide +kernel
set_option maxRecDepth 20000 in
theorem k_X7_foundId (d : Nat) {T : CT} {σ : MS} {a : Nat} {p1 : Nat} {p2 : Int} (ha : OB T a 7) (h_p1 : OB T p1 10) (h_p2 : -2147483648 ≤ p2 ∧ p2 ≤ 2147483647) (hw : WT T σ) : Tn (d + 4) m_X7_foundId 0 T σ [(0, .ref a), (1, .ref p1), (2, .int (iI p2))] [] (fun ro T2 σ2 => ∃ v : Int, ro = some (.int (iI v)) ∧ T = T2 ∧ σ = σ2 ∧ (-2147483648 ≤ v ∧ v ≤ 2147483647)) := by
  refine tn_aload_n dX7_foundId_0 rfl 1 rfl ?_
  refine tn_aload_n dX7_foundId_1 rfl 0 rfl ?_
  refine tn_callV (M := m_X7_foundId) (pc := 2) (ix := 168) (ci := 7) (M' := m_X7_foundSource) (As := []) (rest := [.ref p1]) dX7_foundId_2 ok_X7_foundSource im_X7_foundSource se_X7_foundSource ml7_168 np_X7_foundSource rfl rfl ha rfl (Nat.le_of_ble_eq_true rfl) (Nat.le_of_ble_eq_true rfl) rfl (k_X7_foundSource (d + 1) (T := T) (σ := σ) (a := a) ha hw ) (fun r1 T3 σ2 gt4 hp => ?_)
  obtain ⟨v6, rfl, rfl, rfl, f5⟩ := hp
  clear gt4
  show Tn _ _ 5 T σ [(0, .ref a), (1, .ref p1), (2, .int (iI p2))] [.int (iI v6), .ref p1] _
  refine tn_aload_n dX7_foundId_5 rfl 0 rfl ?_
  refine tn_aload_n dX7_foundId_6 rfl 1 rfl ?_
  refine tn_callV (M := m_X7_foundId) (pc := 7) (ix := 171) (ci := 7) (M' := m_X7_foundSlot) (As := [.ref p1]) (rest := [.int (iI v6), .ref p1]) dX7_foundId_7 ok_X7_foundSlot im_X7_foundSlot se_X7_foundSlot ml7_171 np_X7_foundSlot rfl rfl ha rfl (Nat.le_of_ble_eq_true rfl) (Nat.le_of_ble_eq_true rfl) rfl (k_X7_foundSlot (d) (T := T) (σ := σ) (a := a) (p1 := p1) ha h_p1 hw ) (fun r7 T9 σ8 gt10 hp => ?_)
  obtain ⟨v12, rfl, rfl, rfl, f11⟩ := hp
  clear gt10
  show Tn _ _ 10 T σ [(0, .ref a), (1, .ref p1), (2, .int (iI p2))] [.int (iI v12), .int (iI v6), .ref p1] _
  refine tn_iload_n dX7_foundId_10 rfl 2 rfl ?_
  refine tn_iadd dX7_foundId_11 ?_
  refine tn_any (fun z13 g14 => ?_)
  have g14r : -2147483648 ≤ z13 ∧ z13 ≤ 2147483647 := g14
  refine tn_callV (M := m_X7_foundId) (pc := 12) (ix := 175) (ci := 10) (M' := m_X10_idIn) (As := [.int (iI v6), .int (iI z13)]) (rest := []) dX7_foundId_12 ok_X10_idIn im_X10_idIn se_X10_idIn ml7_175 np_X10_idIn rfl rfl h_p1 rfl (Nat.le_of_ble_eq_true rfl) (Nat.le_of_ble_eq_true rfl) rfl (k_X10_idIn (d + 1) (T := T) (σ := σ) (a := p1) (p1 := v6) (p2 := z13) h_p1 (by omega) (by omega) hw ) (fun r15 T17 σ16 gt18 hp => ?_)
  obtain ⟨v20, rfl, rfl, rfl, f19⟩ := hp
  clear gt18
  show Tn _ _ 15 T σ [(0, .ref a), (1, .ref p1), (2, .int (iI p2))] [.int (iI v20)] _
  exact tn_iret rfl dX7_foundId_15 ⟨_, rfl, rfl, rfl, by omega⟩
