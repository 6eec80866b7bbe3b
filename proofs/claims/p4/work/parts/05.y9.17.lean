theorem cd_X7_foundSlot : Cond.code yX7_foundSlot cX7_foundSlot 2 (some .int) ∈ pWW := pw6 (List.mem_of_getElem? (i := 142) rfl) rfl
abbrev m_X7_foundSlot : MT := (yX7_foundSlot, cX7_foundSlot, 2, (some .int))
theorem ok_X7_foundSlot : pOk m_X7_foundSlot := ⟨⟨cd_X7_foundSlot, ini_7⟩, by decide +kernel, ⟨by decide +kernel, by decide +kernel⟩, Nat.le_of_ble_eq_true rfl⟩
theorem np_X7_foundSlot : (parseMethodDescriptor yX7_foundSlot.desc).map (fun d => d.parameters.length) = some 1 := by decide +kernel
theorem im_X7_foundSlot : Cond.instanceMethod yX7_foundSlot ∈ pWW := pw6 (List.mem_of_getElem? (i := 140) rfl) rfl
theorem se_X7_foundSlot : Cond.selects RX7 yX7_foundSlot yX7_foundSlot ∈ pWW := pw6 (List.mem_of_getElem? (i := 141) rfl) rfl
theorem ml7_162 : Cond.methodLink RX7 162 yX10_slotAt ∈ pWW := pw6 (List.mem_of_getElem? (i := 143) rfl) rfl
theorem dX7_foundSlot_0 : decode cX7_foundSlot 0 = .ok (.aload_n 1, 1) := by decide +kernel
theorem dX7_foundSlot_1 : decode cX7_foundSlot 1 = .ok (.aload_n 0, 1) := by decide +kernel
theorem dX7_foundSlot_2 : decode cX7_foundSlot 2 = .ok (.invokevirtual 152, 3) := by decide +kernel
theorem dX7_foundSlot_5 : decode cX7_foundSlot 5 = .ok (.aload_n 0, 1) := by decide +kernel
theorem dX7_foundSlot_6 : decode cX7_foundSlot 6 = .ok (.getfield 15, 3) := by decide +kernel
theorem dX7_foundSlot_9 : decode cX7_foundSlot 9 = .ok (.aload_n 0, 1) := by decide +kernel
theorem dX7_foundSlot_10 : decode cX7_foundSlot 10 = .ok (.getfield 143, 3) := by decide +kernel
theorem dX7_foundSlot_13 : decode cX7_foundSlot 13 = .ok (.invokestatic 91, 3) := by decide +kernel
theorem dX7_foundSlot_16 : decode cX7_foundSlot 16 = .ok (.aload_n 0, 1) := by decide +kernel
theorem dX7_foundSlot_17 : decode cX7_foundSlot 17 = .ok (.getfield 146, 3) := by decide +kernel
theorem dX7_foundSlot_20 : decode cX7_foundSlot 20 = .ok (.invokevirtual 162, 3) := by decide +kernel
theorem dX7_foundSlot_23 : decode cX7_foundSlot 23 = .ok (.ireturn, 1) := by decide +kernel
set_option maxRecDepth 20000 in
theorem k_X7_foundSlot (d : Nat) {T : CT} {σ : MS} {a : Nat} {p1 : Nat} (ha : OB T a 7) (h_p1 : OB T p1 10) (hw : WT T σ) : Tn (d + 3) m_X7_foundSlot 0 T σ [(0, .ref a), (1, .ref p1)] [] (fun ro T2 σ2 => ∃ v : Int, ro = some (.int (iI v)) ∧ T = T2 ∧ σ = σ2 ∧ (-2147483648 ≤ v ∧ v ≤ 2147483647)) := by
  refine tn_aload_n dX7_foundSlot_0 rfl 1 rfl ?_
  refine tn_aload_n dX7_foundSlot_1 rfl 0 rfl ?_
  refine tn_callV (M := m_X7_foundSlot) (pc := 2) (ix := 152) (ci := 7) (M' := m_X7_foundCode) (As := []) (rest := [.ref p1]) dX7_foundSlot_2 ok_X7_foundCode im_X7_foundCode se_X7_foundCode ml7_152 np_X7_foundCode rfl rfl ha rfl (Nat.le_of_ble_eq_true rfl) (Nat.le_of_ble_eq_true rfl) rfl (k_X7_foundCode (d) (T := T) (σ := σ) (a := a) ha hw ) (fun r1 T3 σ2 gt4 hp => ?_)
  obtain ⟨v6, rfl, rfl, rfl, rv7, f5⟩ := hp
  clear gt4
  clear f5
  rcases rv7 with rv7 | ⟨x8, rfl, hk9⟩
  · show Tn _ _ 5 T σ [(0, .ref a), (1, .ref p1)] (vl true v6 :: [.ref p1]) _
    rw [vl_null rv7]
    refine tn_aload_n dX7_foundSlot_5 rfl 0 rfl ?_
    obtain ⟨x10, hx11, hk12, hl13⟩ : ∃ x : Nat, σ.2.1 60 a = (x : Int) ∧ AR T x 1 9 9 := wf_60 hw ha
    have hk12i : IA T x10 := by unfold IA; omega
    refine tn_getR (ci := 7) (i := 5) (n := 60) (x := x10) dX7_foundSlot_6 rfl lay_7 (by decide) fl7_15 ha rfl rfl (hx11) ?_
    refine tn_aload_n dX7_foundSlot_9 rfl 0 rfl ?_
    refine tn_getI (ci := 7) (i := 15) (n := 70) (t := σ.2.1 70 a) dX7_foundSlot_10 rfl lay_7 (by decide) fl7_143 ha rfl rfl (rfl) ?_
    have g14 : ((-2147483648 : Int) ≤ σ.2.1 70 a ∧ σ.2.1 70 a ≤ 2147483647) := wf_70 hw ha
    refine tn_callSN (M := m_X7_foundSlot) (pc := 13) (ix := 91) (M' := m_X11_at) (As := [.ref x10, .int (iI (σ.2.1 70 a))]) (rest := [.null, .ref p1]) dX7_foundSlot_13 ok_X11_at stt_X11_at nl7_91 np_X11_at rfl (Nat.le_of_ble_eq_true rfl) (Nat.le_of_ble_eq_true rfl) rfl (k_X11_at (d + 1) (T := T) (σ := σ) (x := x10) (i := σ.2.1 70 a) hk12i (by omega) (by omega) hw ) (fun r15 T17 σ16 gt18 hp => ?_)
    obtain ⟨v22, rfl, rfl, rfl, f19, f20, f21⟩ := hp
    clear gt18
    clear f20 f21
    show Tn _ _ 16 T σ [(0, .ref a), (1, .ref p1)] [.int (iI v22), .null, .ref p1] _
    refine tn_aload_n dX7_foundSlot_16 rfl 0 rfl ?_
    refine tn_getI (ci := 7) (i := 16) (n := 71) (t := σ.2.1 71 a) dX7_foundSlot_17 rfl lay_7 (by decide) fl7_146 ha rfl rfl (rfl) ?_
    have g23 : ((-2147483648 : Int) ≤ σ.2.1 71 a ∧ σ.2.1 71 a ≤ 2147483647) := wf_71 hw ha
    refine tn_callV (M := m_X7_foundSlot) (pc := 20) (ix := 162) (ci := 10) (M' := m_X10_slotAt) (As := [.null, .int (iI v22), .int (iI (σ.2.1 71 a))]) (rest := []) dX7_foundSlot_20 ok_X10_slotAt im_X10_slotAt se_X10_slotAt ml7_162 np_X10_slotAt rfl rfl h_p1 rfl (Nat.le_of_ble_eq_true rfl) (Nat.le_of_ble_eq_true rfl) rfl (k_X10_slotAt_0 (d) (T := T) (σ := σ) (a := p1) (k := v22) (f := σ.2.1 71 a) h_p1 (by omega) (by omega) hw ) (fun r24 T26 σ25 gt27 hp => ?_)
    obtain ⟨v29, rfl, rfl, rfl, f28⟩ := hp
    clear gt27
    show Tn _ _ 23 T σ [(0, .ref a), (1, .ref p1)] [.int (iI v29)] _
    exact tn_iret rfl dX7_foundSlot_23 ⟨_, rfl, rfl, rfl, by omega⟩
  · show Tn _ _ 5 T σ [(0, .ref a), (1, .ref p1)] (vl true (x8 : Int) :: [.ref p1]) _
    rw [vl_ref rfl]
    have hk9o : OB T x8 1 := hk9.1
    refine tn_aload_n dX7_foundSlot_5 rfl 0 rfl ?_
    obtain ⟨x30, hx31, hk32, hl33⟩ : ∃ x : Nat, σ.2.1 60 a = (x : Int) ∧ AR T x 1 9 9 := wf_60 hw ha
    have hk32i : IA T x30 := by unfold IA; omega
    refine tn_getR (ci := 7) (i := 5) (n := 60) (x := x30) dX7_foundSlot_6 rfl lay_7 (by decide) fl7_15 ha rfl rfl (hx31) ?_
    refine tn_aload_n dX7_foundSlot_9 rfl 0 rfl ?_
    refine tn_getI (ci := 7) (i := 15) (n := 70) (t := σ.2.1 70 a) dX7_foundSlot_10 rfl lay_7 (by decide) fl7_143 ha rfl rfl (rfl) ?_
    have g34 : ((-2147483648 : Int) ≤ σ.2.1 70 a ∧ σ.2.1 70 a ≤ 2147483647) := wf_70 hw ha
    refine tn_callSN (M := m_X7_foundSlot) (pc := 13) (ix := 91) (M' := m_X11_at) (As := [.ref x30, .int (iI (σ.2.1 70 a))]) (rest := [.ref x8, .ref p1]) dX7_foundSlot_13 ok_X11_at stt_X11_at nl7_91 np_X11_at rfl (Nat.le_of_ble_eq_true rfl) (Nat.le_of_ble_eq_true rfl) rfl (k_X11_at (d + 1) (T := T) (σ := σ) (x := x30) (i := σ.2.1 70 a) hk32i (by omega) (by omega) hw ) (fun r35 T37 σ36 gt38 hp => ?_)
    obtain ⟨v42, rfl, rfl, rfl, f39, f40, f41⟩ := hp
    clear gt38
    clear f40 f41
    show Tn _ _ 16 T σ [(0, .ref a), (1, .ref p1)] [.int (iI v42), .ref x8, .ref p1] _
    refine tn_aload_n dX7_foundSlot_16 rfl 0 rfl ?_
    refine tn_getI (ci := 7) (i := 16) (n := 71) (t := σ.2.1 71 a) dX7_foundSlot_17 rfl lay_7 (by decide) fl7_146 ha rfl rfl (rfl) ?_
    have g43 : ((-2147483648 : Int) ≤ σ.2.1 71 a ∧ σ.2.1 71 a ≤ 2147483647) := wf_71 hw ha
    refine tn_callV (M := m_X7_foundSlot) (pc := 20) (ix := 162) (ci := 10) (M' := m_X10_slotAt) (As := [.ref x8, .int (iI v42), .int (iI (σ.2.1 71 a))]) (rest := []) dX7_foundSlot_20 ok_X10_slotAt im_X10_slotAt se_X10_slotAt ml7_162 np_X10_slotAt rfl rfl h_p1 rfl (Nat.le_of_ble_eq_true rfl) (Nat.le_of_ble_eq_true rfl) rfl (k_X10_slotAt (d) (T := T) (σ := σ) (a := p1) (c := x8) (k := v42) (f := σ.2.1 71 a) h_p1 hk9o (by omega) (by omega) hw ) (fun r44 T46 σ45 gt47 hp => ?_)
    obtain ⟨v49, rfl, rfl, rfl, f48⟩ := hp
    clear gt47
    show Tn _ _ 23 T σ [(0, .ref a), (1, .ref p1)] [.int (iI v49)] _
    exact tn_iret rfl dX7_foundSlot_23 ⟨_, rfl, rfl, rfl, by omega⟩
