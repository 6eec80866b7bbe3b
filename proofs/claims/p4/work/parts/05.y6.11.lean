theorem cd_X1_writtenBy : Cond.code yX1_writtenBy cX1_writtenBy 3 (some .int) ∈ pWW := pw3 (List.mem_of_getElem? (i := 237) rfl) rfl
abbrev m_X1_writtenBy : MT := (yX1_writtenBy, cX1_writtenBy, 3, (some .int))
theorem ok_X1_writtenBy : pOk m_X1_writtenBy := ⟨⟨cd_X1_writtenBy, ini_1⟩, by decide +kernel, ⟨by decide +kernel, by decide +kernel⟩, Nat.le_of_ble_eq_true rfl⟩
theorem np_X1_writtenBy : (parseMethodDescriptor yX1_writtenBy.desc).map (fun d => d.parameters.length) = some 1 := by decide +kernel
theorem im_X1_writtenBy : Cond.instanceMethod yX1_writtenBy ∈ pWW := pw3 (List.mem_of_getElem? (i := 235) rfl) rfl
theorem se_X1_writtenBy : Cond.selects RX1 yX1_writtenBy yX1_writtenBy ∈ pWW := pw3 (List.mem_of_getElem? (i := 236) rfl) rfl
theorem ml1_97 : Cond.methodLink RX1 97 yX1_kindAt ∈ pWW := pw3 (List.mem_of_getElem? (i := 238) rfl) rfl
theorem nl1_100 : (RX1, 100, yX11_isPure, "LineKeeper") ∈ nst_M := List.mem_of_getElem? (i := 11) rfl
theorem dX1_writtenBy_0 : decode cX1_writtenBy 0 = .ok (.aload_n 0, 1) := by decide +kernel
theorem dX1_writtenBy_1 : decode cX1_writtenBy 1 = .ok (.iload_n 1, 1) := by decide +kernel
theorem dX1_writtenBy_2 : decode cX1_writtenBy 2 = .ok (.invokevirtual 97, 3) := by decide +kernel
theorem dX1_writtenBy_5 : decode cX1_writtenBy 5 = .ok (.istore_n 2, 1) := by decide +kernel
theorem dX1_writtenBy_6 : decode cX1_writtenBy 6 = .ok (.iload_n 2, 1) := by decide +kernel
theorem dX1_writtenBy_7 : decode cX1_writtenBy 7 = .ok (.invokestatic 100, 3) := by decide +kernel
theorem dX1_writtenBy_10 : decode cX1_writtenBy 10 = .ok (.ifCond .ne 9, 3) := by decide +kernel
theorem dX1_writtenBy_19 : decode cX1_writtenBy 19 = .ok (.aload_n 0, 1) := by decide +kernel
theorem dX1_writtenBy_20 : decode cX1_writtenBy 20 = .ok (.iload_n 1, 1) := by decide +kernel
theorem dX1_writtenBy_21 : decode cX1_writtenBy 21 = .ok (.iconst 1, 1) := by decide +kernel
theorem dX1_writtenBy_22 : decode cX1_writtenBy 22 = .ok (.invokevirtual 86, 3) := by decide +kernel
theorem dX1_writtenBy_25 : decode cX1_writtenBy 25 = .ok (.goto 4, 3) := by decide +kernel
theorem dX1_writtenBy_29 : decode cX1_writtenBy 29 = .ok (.ireturn, 1) := by decide +kernel
theorem dX1_writtenBy_13 : decode cX1_writtenBy 13 = .ok (.iload_n 2, 1) := by decide +kernel
theorem dX1_writtenBy_14 : decode cX1_writtenBy 14 = .ok (.bipush 10, 2) := by decide +kernel
theorem dX1_writtenBy_16 : decode cX1_writtenBy 16 = .ok (.if_icmp .ne 12, 3) := by decide +kernel
theorem dX1_writtenBy_28 : decode cX1_writtenBy 28 = .ok (.iconst (-1), 1) := by decide +kernel
set_option maxRecDepth 20000 in
theorem k_X1_writtenBy (d : Nat) {T : CT} {σ : MS} {a : Nat} {k : Int} (ha : OB T a 1) (h_k : -2147483648 ≤ k ∧ k ≤ 2147483647) (hw : WT T σ) : Tn (d + 2) m_X1_writtenBy 0 T σ [(0, .ref a), (1, .int (iI k))] [] (fun ro T2 σ2 => ∃ v : Int, ro = some (.int (iI v)) ∧ T = T2 ∧ σ = σ2 ∧ (-2147483648 ≤ v ∧ v ≤ 2147483647)) := by
  refine tn_aload_n dX1_writtenBy_0 rfl 0 rfl ?_
  refine tn_iload_n dX1_writtenBy_1 rfl 1 rfl ?_
  refine tn_callV (M := m_X1_writtenBy) (pc := 2) (ix := 97) (ci := 1) (M' := m_X1_kindAt) (As := [.int (iI k)]) (rest := []) dX1_writtenBy_2 ok_X1_kindAt im_X1_kindAt se_X1_kindAt ml1_97 np_X1_kindAt rfl rfl ha rfl (Nat.le_of_ble_eq_true rfl) (Nat.le_of_ble_eq_true rfl) rfl (k_X1_kindAt (d) (T := T) (σ := σ) (a := a) (k := k) ha (by omega) hw ) (fun r1 T3 σ2 gt4 hp => ?_)
  obtain ⟨v7, rfl, rfl, rfl, f5, f6⟩ := hp
  clear gt4
  clear f6
  show Tn _ _ 5 T σ [(0, .ref a), (1, .int (iI k))] [.int (iI v7)] _
  refine tn_istore_n (L' := [(2, .int (iI v7)), (0, .ref a), (1, .int (iI k))]) dX1_writtenBy_5 rfl (by decide) rfl ?_
  refine tn_iload_n dX1_writtenBy_6 rfl 0 rfl ?_
  refine tn_callSN (M := m_X1_writtenBy) (pc := 7) (ix := 100) (M' := m_X11_isPure) (As := [.int (iI v7)]) (rest := []) dX1_writtenBy_7 ok_X11_isPure stt_X11_isPure nl1_100 np_X11_isPure rfl (Nat.le_of_ble_eq_true rfl) (Nat.le_of_ble_eq_true rfl) rfl (k_X11_isPure (d) (T := T) (σ := σ) (k := v7) (by omega) hw ) (fun r8 T10 σ9 gt11 hp => ?_)
  obtain ⟨v13, rfl, rfl, rfl, f12⟩ := hp
  clear gt11
  show Tn _ _ 10 T σ [(2, .int (iI v7)), (0, .ref a), (1, .int (iI k))] [.int (iI v13)] _
  refine tn_if_ne (tgt := 19) dX1_writtenBy_10 (by decide) ⟨by omega, by omega⟩ (fun h14 => ?_) (fun h14 => ?_)
  · refine tn_aload_n dX1_writtenBy_19 rfl 1 rfl ?_
    refine tn_iload_n dX1_writtenBy_20 rfl 2 rfl ?_
    refine tn_iconst dX1_writtenBy_21 ?_
    refine tn_callV (M := m_X1_writtenBy) (pc := 22) (ix := 86) (ci := 1) (M' := m_X1_get) (As := [.int (iI k), .int (iI 1)]) (rest := []) dX1_writtenBy_22 ok_X1_get im_X1_get se_X1_get ml1_86 np_X1_get rfl rfl ha rfl (Nat.le_of_ble_eq_true rfl) (Nat.le_of_ble_eq_true rfl) rfl (k_X1_get (d) (T := T) (σ := σ) (a := a) (k := k) (c := 1) ha (by omega) (by decide) hw (by omega)) (fun r15 T17 σ16 gt18 hp => ?_)
    obtain ⟨v20, rfl, rfl, rfl, f19⟩ := hp
    clear gt18
    show Tn _ _ 25 T σ [(2, .int (iI v7)), (0, .ref a), (1, .int (iI k))] [.int (iI v20)] _
    refine tn_goto (tgt := 29) dX1_writtenBy_25 (by decide) ?_
    exact tn_iret rfl dX1_writtenBy_29 ⟨_, rfl, rfl, rfl, by omega⟩
  · refine tn_iload_n dX1_writtenBy_13 rfl 0 rfl ?_
    refine tn_bipush dX1_writtenBy_14 (by decide) ?_
    refine tn_icmp_ne (tgt := 28) dX1_writtenBy_16 (by decide) ⟨by omega, by omega⟩ ⟨by decide, by decide⟩ (fun h21 => ?_) (fun h21 => ?_)
    · refine tn_iconst dX1_writtenBy_28 ?_
      exact tn_iret rfl dX1_writtenBy_29 ⟨_, rfl, rfl, rfl, by omega⟩
    · refine tn_aload_n dX1_writtenBy_19 rfl 1 rfl ?_
      refine tn_iload_n dX1_writtenBy_20 rfl 2 rfl ?_
      refine tn_iconst dX1_writtenBy_21 ?_
      refine tn_callV (M := m_X1_writtenBy) (pc := 22) (ix := 86) (ci := 1) (M' := m_X1_get) (As := [.int (iI k), .int (iI 1)]) (rest := []) dX1_writtenBy_22 ok_X1_get im_X1_get se_X1_get ml1_86 np_X1_get rfl rfl ha rfl (Nat.le_of_ble_eq_true rfl) (Nat.le_of_ble_eq_true rfl) rfl (k_X1_get (d) (T := T) (σ := σ) (a := a) (k := k) (c := 1) ha (by omega) (by decide) hw (by omega)) (fun r22 T24 σ23 gt25 hp => ?_)
      obtain ⟨v27, rfl, rfl, rfl, f26⟩ := hp
      clear gt25
      show Tn _ _ 25 T σ [(2, .int (iI v7)), (0, .ref a), (1, .int (iI k))] [.int (iI v27)] _
      refine tn_goto (tgt := 29) dX1_writtenBy_25 (by decide) ?_
      exact tn_iret rfl dX1_writtenBy_29 ⟨_, rfl, rfl, rfl, by omega⟩
