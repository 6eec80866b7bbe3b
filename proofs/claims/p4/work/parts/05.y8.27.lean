theorem cd_X7_operand : Cond.code yX7_operand cX7_operand 4 (some .int) ∈ pWW := pw6 (List.mem_of_getElem? (i := 69) rfl) rfl
abbrev m_X7_operand : MT := (yX7_operand, cX7_operand, 4, (some .int))
theorem ok_X7_operand : pOk m_X7_operand := ⟨⟨cd_X7_operand, ini_7⟩, by decide +kernel, ⟨by decide +kernel, by decide +kernel⟩, Nat.le_of_ble_eq_true rfl⟩
theorem np_X7_operand : (parseMethodDescriptor yX7_operand.desc).map (fun d => d.parameters.length) = some 2 := by decide +kernel
theorem im_X7_operand : Cond.instanceMethod yX7_operand ∈ pWW := pw6 (List.mem_of_getElem? (i := 68) rfl) rfl
theorem se_X7_operand : Cond.selects RX7 yX7_operand yX7_operand ∈ pWW := pws (List.mem_map.mpr ⟨_, lw_pin 88 rfl, rfl⟩) rfl
theorem ml7_117 : Cond.methodLink RX7 117 yX1_get ∈ pWW := pw6 (List.mem_of_getElem? (i := 70) rfl) rfl
theorem fl7_24 : Cond.fieldLink RX7 24 (TX7 8).1 (TX7 8).2.1 (TX7 8).2.2.1 ∈ pWW := pw2 (List.mem_of_getElem? (i := 145) rfl) rfl
theorem dX7_operand_0 : decode cX7_operand 0 = .ok (.aload_n 0, 1) := by decide +kernel
theorem dX7_operand_1 : decode cX7_operand 1 = .ok (.getfield 72, 3) := by decide +kernel
theorem dX7_operand_4 : decode cX7_operand 4 = .ok (.iload_n 1, 1) := by decide +kernel
theorem dX7_operand_5 : decode cX7_operand 5 = .ok (.iload_n 2, 1) := by decide +kernel
theorem dX7_operand_6 : decode cX7_operand 6 = .ok (.iconst 1, 1) := by decide +kernel
theorem dX7_operand_7 : decode cX7_operand 7 = .ok (.iadd, 1) := by decide +kernel
theorem dX7_operand_8 : decode cX7_operand 8 = .ok (.invokevirtual 117, 3) := by decide +kernel
theorem dX7_operand_11 : decode cX7_operand 11 = .ok (.istore_n 3, 1) := by decide +kernel
theorem dX7_operand_12 : decode cX7_operand 12 = .ok (.aload_n 0, 1) := by decide +kernel
theorem dX7_operand_13 : decode cX7_operand 13 = .ok (.getfield 72, 3) := by decide +kernel
theorem dX7_operand_16 : decode cX7_operand 16 = .ok (.iload_n 1, 1) := by decide +kernel
theorem dX7_operand_17 : decode cX7_operand 17 = .ok (.iload_n 2, 1) := by decide +kernel
theorem dX7_operand_18 : decode cX7_operand 18 = .ok (.invokevirtual 117, 3) := by decide +kernel
theorem dX7_operand_21 : decode cX7_operand 21 = .ok (.iconst 2, 1) := by decide +kernel
theorem dX7_operand_22 : decode cX7_operand 22 = .ok (.if_icmp .ne 23, 3) := by decide +kernel
theorem dX7_operand_45 : decode cX7_operand 45 = .ok (.iload_n 3, 1) := by decide +kernel
theorem dX7_operand_46 : decode cX7_operand 46 = .ok (.ireturn, 1) := by decide +kernel
theorem dX7_operand_25 : decode cX7_operand 25 = .ok (.aload_n 0, 1) := by decide +kernel
theorem dX7_operand_26 : decode cX7_operand 26 = .ok (.getfield 24, 3) := by decide +kernel
theorem dX7_operand_29 : decode cX7_operand 29 = .ok (.aload_n 0, 1) := by decide +kernel
theorem dX7_operand_30 : decode cX7_operand 30 = .ok (.getfield 65, 3) := by decide +kernel
theorem dX7_operand_33 : decode cX7_operand 33 = .ok (.sipush 192, 3) := by decide +kernel
theorem dX7_operand_36 : decode cX7_operand 36 = .ok (.imul, 1) := by decide +kernel
theorem dX7_operand_37 : decode cX7_operand 37 = .ok (.iload_n 3, 1) := by decide +kernel
theorem dX7_operand_38 : decode cX7_operand 38 = .ok (.iadd, 1) := by decide +kernel
theorem dX7_operand_39 : decode cX7_operand 39 = .ok (.invokestatic 91, 3) := by decide +kernel
theorem dX7_operand_42 : decode cX7_operand 42 = .ok (.goto 4, 3) := by decide +kernel
set_option maxRecDepth 20000 in
theorem k_X7_operand (d : Nat) {T : CT} {σ : MS} {a : Nat} {k : Int} {c : Int} (ha : OB T a 7) (h_k : -2147483648 ≤ k ∧ k ≤ 2147483647) (h_c : -2147483648 ≤ c ∧ c ≤ 2147483647) (hw : WT T σ) (hn : 0 ≤ σ.2.1 69 a) (hc : 0 ≤ c ∧ c ≤ 11) : Tn (d + 2) m_X7_operand 0 T σ [(0, .ref a), (1, .int (iI k)), (2, .int (iI c))] [] (fun ro T2 σ2 => ∃ v : Int, ro = some (.int (iI v)) ∧ T = T2 ∧ σ = σ2 ∧ (-2147483648 ≤ v ∧ v ≤ 2147483647)) := by
  refine tn_aload_n dX7_operand_0 rfl 0 rfl ?_
  obtain ⟨x5, hx6, hk7a, hk7b⟩ := (wf_69 hw ha).resolve_left (by have q9 := hn; omega)
  have hk7o : OB T x5 1 := (show RC T a x5 from ⟨hk7a, hk7b⟩).ob
  clear hk7a hk7b
  refine tn_getR (ci := 7) (i := 14) (n := 69) (x := x5) dX7_operand_1 rfl lay_7 (by decide) fl7_72 ha rfl rfl (hx6) ?_
  refine tn_iload_n dX7_operand_4 rfl 1 rfl ?_
  refine tn_iload_n dX7_operand_5 rfl 2 rfl ?_
  refine tn_iconst dX7_operand_6 ?_
  refine tn_iadd dX7_operand_7 ?_
  refine tn_callV (M := m_X7_operand) (pc := 8) (ix := 117) (ci := 1) (M' := m_X1_get) (As := [.int (iI k), .int (iI (c + 1))]) (rest := []) dX7_operand_8 ok_X1_get im_X1_get se_X1_get ml7_117 np_X1_get rfl rfl hk7o rfl (Nat.le_of_ble_eq_true rfl) (Nat.le_of_ble_eq_true rfl) rfl (k_X1_get (d) (T := T) (σ := σ) (a := x5) (k := k) (c := c + 1) hk7o (by omega) (by omega) hw (by omega)) (fun r8 T10 σ9 gt11 hp => ?_)
  obtain ⟨v13, rfl, rfl, rfl, f12⟩ := hp
  clear gt11
  show Tn _ _ 11 T σ [(0, .ref a), (1, .int (iI k)), (2, .int (iI c))] [.int (iI v13)] _
  refine tn_istore_n (L' := [(3, .int (iI v13)), (0, .ref a), (1, .int (iI k)), (2, .int (iI c))]) dX7_operand_11 rfl (by decide) rfl ?_
  refine tn_aload_n dX7_operand_12 rfl 1 rfl ?_
  refine tn_getR (ci := 7) (i := 14) (n := 69) (x := x5) dX7_operand_13 rfl lay_7 (by decide) fl7_72 ha rfl rfl (hx6) ?_
  refine tn_iload_n dX7_operand_16 rfl 2 rfl ?_
  refine tn_iload_n dX7_operand_17 rfl 3 rfl ?_
  refine tn_callV (M := m_X7_operand) (pc := 18) (ix := 117) (ci := 1) (M' := m_X1_get) (As := [.int (iI k), .int (iI c)]) (rest := []) dX7_operand_18 ok_X1_get im_X1_get se_X1_get ml7_117 np_X1_get rfl rfl hk7o rfl (Nat.le_of_ble_eq_true rfl) (Nat.le_of_ble_eq_true rfl) rfl (k_X1_get (d) (T := T) (σ := σ) (a := x5) (k := k) (c := c) hk7o (by omega) (by omega) hw (by omega)) (fun r14 T16 σ15 gt17 hp => ?_)
  obtain ⟨v19, rfl, rfl, rfl, f18⟩ := hp
  clear gt17
  show Tn _ _ 21 T σ [(3, .int (iI v13)), (0, .ref a), (1, .int (iI k)), (2, .int (iI c))] [.int (iI v19)] _
  refine tn_iconst dX7_operand_21 ?_
  refine tn_icmp_ne (tgt := 45) dX7_operand_22 (by decide) ⟨by omega, by omega⟩ ⟨by decide, by decide⟩ (fun h20 => ?_) (fun h20 => ?_)
  · refine tn_iload_n dX7_operand_45 rfl 0 rfl ?_
    exact tn_iret rfl dX7_operand_46 ⟨_, rfl, rfl, rfl, by omega⟩
  · refine tn_aload_n dX7_operand_25 rfl 1 rfl ?_
    obtain ⟨x21, hx22, hk23, hl24⟩ : ∃ x : Nat, σ.2.1 63 a = (x : Int) ∧ AR T x 1 1728 1728 := wf_63 hw ha
    have hk23i : IA T x21 := by unfold IA; omega
    refine tn_getR (ci := 7) (i := 8) (n := 63) (x := x21) dX7_operand_26 rfl lay_7 (by decide) fl7_24 ha rfl rfl (hx22) ?_
    refine tn_aload_n dX7_operand_29 rfl 1 rfl ?_
    refine tn_getI (ci := 7) (i := 2) (n := 57) (t := σ.2.1 57 a) dX7_operand_30 rfl lay_7 (by decide) fl7_65 ha rfl rfl (rfl) ?_
    have g25 : ((0 : Int) ≤ σ.2.1 57 a ∧ σ.2.1 57 a ≤ 11184800) ∧ ((T a).1 = 57 → σ.2.1 57 a ≤ 8) := wf_57 hw ha
    have g25x := g25.2
    replace g25 := g25.1
    clear g25x
    refine tn_sipush dX7_operand_33 (by decide) ?_
    refine tn_imul dX7_operand_36 ?_
    refine tn_iload_n dX7_operand_37 rfl 0 rfl ?_
    refine tn_iadd dX7_operand_38 ?_
    refine tn_any (fun z26 g27 => ?_)
    have g27r : -2147483648 ≤ z26 ∧ z26 ≤ 2147483647 := g27
    refine tn_callSN (M := m_X7_operand) (pc := 39) (ix := 91) (M' := m_X11_at) (As := [.ref x21, .int (iI z26)]) (rest := []) dX7_operand_39 ok_X11_at stt_X11_at nl7_91 np_X11_at rfl (Nat.le_of_ble_eq_true rfl) (Nat.le_of_ble_eq_true rfl) rfl (k_X11_at (d) (T := T) (σ := σ) (x := x21) (i := z26) hk23i (by omega) (by omega) hw ) (fun r28 T30 σ29 gt31 hp => ?_)
    obtain ⟨v35, rfl, rfl, rfl, f32, f33, f34⟩ := hp
    clear gt31
    clear f33 f34
    show Tn _ _ 42 T σ [(3, .int (iI v13)), (0, .ref a), (1, .int (iI k)), (2, .int (iI c))] [.int (iI v35)] _
    refine tn_goto (tgt := 46) dX7_operand_42 (by decide) ?_
    exact tn_iret rfl dX7_operand_46 ⟨_, rfl, rfl, rfl, by omega⟩
