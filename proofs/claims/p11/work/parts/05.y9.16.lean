section
theorem cd_X7_foundNames : Cond.code yX7_foundNames cX7_foundNames 2 (some .int) ∈ pWW := pw6 (List.mem_of_getElem? (i := 124) rfl) rfl
abbrev m_X7_foundNames : MT := (yX7_foundNames, cX7_foundNames, 2, (some .int))
theorem ok_X7_foundNames : pOk m_X7_foundNames := ⟨⟨cd_X7_foundNames, ini_7⟩, by decide +kernel, ⟨by decide +kernel, by decide +kernel⟩, Nat.le_of_ble_eq_true rfl⟩
theorem np_X7_foundNames : (parseMethodDescriptor yX7_foundNames.desc).map (fun d => d.parameters.length) = some 0 := by decide +kernel
theorem im_X7_foundNames : Cond.instanceMethod yX7_foundNames ∈ pWW := pw6 (List.mem_of_getElem? (i := 122) rfl) rfl
theorem se_X7_foundNames : Cond.selects RX7 yX7_foundNames yX7_foundNames ∈ pWW := pw6 (List.mem_of_getElem? (i := 123) rfl) rfl
theorem fl7_159 : Cond.fieldLink RX7 159 (TX1 9).1 (TX1 9).2.1 (TX1 9).2.2.1 ∈ pWW := pw1 (List.mem_of_getElem? (i := 122) rfl) rfl
theorem dX7_foundNames_0 : decode cX7_foundNames 0 = .ok (.aload_n 0, 1) := by decide +kernel
theorem dX7_foundNames_1 : decode cX7_foundNames 1 = .ok (.invokevirtual 152, 3) := by decide +kernel
theorem dX7_foundNames_4 : decode cX7_foundNames 4 = .ok (.astore_n 1, 1) := by decide +kernel
theorem dX7_foundNames_5 : decode cX7_foundNames 5 = .ok (.aload_n 1, 1) := by decide +kernel
theorem dX7_foundNames_6 : decode cX7_foundNames 6 = .ok (.ifnonnull 7, 3) := by decide +kernel
theorem dX7_foundNames_9 : decode cX7_foundNames 9 = .ok (.iconst 0, 1) := by decide +kernel
theorem dX7_foundNames_10 : decode cX7_foundNames 10 = .ok (.goto 14, 3) := by decide +kernel
theorem dX7_foundNames_24 : decode cX7_foundNames 24 = .ok (.ireturn, 1) := by decide +kernel
theorem dX7_foundNames_13 : decode cX7_foundNames 13 = .ok (.aload_n 1, 1) := by decide +kernel
theorem dX7_foundNames_14 : decode cX7_foundNames 14 = .ok (.getfield 159, 3) := by decide +kernel
theorem dX7_foundNames_17 : decode cX7_foundNames 17 = .ok (.aload_n 0, 1) := by decide +kernel
theorem dX7_foundNames_18 : decode cX7_foundNames 18 = .ok (.getfield 146, 3) := by decide +kernel
theorem dX7_foundNames_21 : decode cX7_foundNames 21 = .ok (.invokestatic 91, 3) := by decide +kernel
set_option maxRecDepth 20000 in
theorem k_X7_foundNames (d : Nat) {T : CT} {σ : MS} {a : Nat} (ha : OB T a 7) (hw : WT T σ) : Tn (d + 3) m_X7_foundNames 0 T σ [(0, .ref a)] [] (fun ro T2 σ2 => ∃ v : Int, ro = some (.int (iI v)) ∧ T = T2 ∧ σ = σ2 ∧ (0 ≤ v ∧ v ≤ 12)) := by
  refine tn_aload_n dX7_foundNames_0 rfl 0 rfl ?_
  refine tn_callV (M := m_X7_foundNames) (pc := 1) (ix := 152) (ci := 7) (M' := m_X7_foundCode) (As := []) (rest := []) dX7_foundNames_1 ok_X7_foundCode im_X7_foundCode se_X7_foundCode ml7_152 np_X7_foundCode rfl rfl ha rfl (Nat.le_of_ble_eq_true rfl) (Nat.le_of_ble_eq_true rfl) rfl (k_X7_foundCode (d) (T := T) (σ := σ) (a := a) ha hw ) (fun r1 T3 σ2 gt4 hp => ?_)
  obtain ⟨v6, rfl, rfl, rfl, rv7, f5⟩ := hp
  clear gt4
  clear f5
  rcases rv7 with rv7 | ⟨x8, rfl, hk9⟩
  · show Tn _ _ 4 T σ [(0, .ref a)] (vl true v6 :: []) _
    rw [vl_null rv7]
    refine tn_astore_nN (L' := [(1, .null), (0, .ref a)]) dX7_foundNames_4 rfl (by decide) rfl ?_
    refine tn_aload_nN dX7_foundNames_5 rfl 0 rfl ?_
    refine tn_ifnonnullN dX7_foundNames_6 ?_
    refine tn_iconst dX7_foundNames_9 ?_
    refine tn_goto (tgt := 24) dX7_foundNames_10 (by decide) ?_
    exact tn_iret rfl dX7_foundNames_24 ⟨_, rfl, rfl, rfl, by omega⟩
  · show Tn _ _ 4 T σ [(0, .ref a)] (vl true (x8 : Int) :: []) _
    rw [vl_ref rfl]
    have hk9o : OB T x8 1 := hk9.1
    refine tn_astore_n (L' := [(1, .ref x8), (0, .ref a)]) dX7_foundNames_4 rfl (by decide) rfl ?_
    refine tn_aload_n dX7_foundNames_5 rfl 0 rfl ?_
    refine tn_ifnonnull (tgt := 13) dX7_foundNames_6 (by decide) ?_
    refine tn_aload_n dX7_foundNames_13 rfl 0 rfl ?_
    obtain ⟨x10, hx11, hk12, hl13⟩ : ∃ x : Nat, σ.2.1 14 x8 = (x : Int) ∧ AR T x 11 12 12 := wf_14 hw hk9o
    have hk12i : IA T x10 := by unfold IA; omega
    refine tn_getR (ci := 1) (i := 9) (n := 14) (x := x10) dX7_foundNames_14 rfl lay_1 (by decide) fl7_159 hk9o rfl rfl (hx11) ?_
    refine tn_aload_n dX7_foundNames_17 rfl 1 rfl ?_
    refine tn_getI (ci := 7) (i := 16) (n := 71) (t := σ.2.1 71 a) dX7_foundNames_18 rfl lay_7 (by decide) fl7_146 ha rfl rfl (rfl) ?_
    have g14 : ((-2147483648 : Int) ≤ σ.2.1 71 a ∧ σ.2.1 71 a ≤ 2147483647) := wf_71 hw ha
    refine tn_callSN (M := m_X7_foundNames) (pc := 21) (ix := 91) (M' := m_X11_at) (As := [.ref x10, .int (iI (σ.2.1 71 a))]) (rest := []) dX7_foundNames_21 ok_X11_at stt_X11_at nl7_91 np_X11_at rfl (Nat.le_of_ble_eq_true rfl) (Nat.le_of_ble_eq_true rfl) rfl (k_X11_at (d + 1) (T := T) (σ := σ) (x := x10) (i := σ.2.1 71 a) hk12i (by omega) (by omega) hw ) (fun r15 T17 σ16 gt18 hp => ?_)
    obtain ⟨v22, rfl, rfl, rfl, f19, f20, f21⟩ := hp
    clear gt18
    have f20n := f20.2.1 hk12
    clear f20 f21
    show Tn _ _ 24 T σ [(1, .ref x8), (0, .ref a)] [.int (iI v22)] _
    exact tn_iret rfl dX7_foundNames_24 ⟨_, rfl, rfl, rfl, by omega⟩
end
section
theorem cd_X7_foundSlot : Cond.code yX7_foundSlot cX7_foundSlot 2 (some .int) ∈ pWW := pw6 (List.mem_of_getElem? (i := 142) rfl) rfl
abbrev m_X7_foundSlot : MT := (yX7_foundSlot, cX7_foundSlot, 2, (some .int))
theorem ok_X7_foundSlot : pOk m_X7_foundSlot := ⟨⟨cd_X7_foundSlot, ini_7⟩, by decide +kernel, ⟨by decide +kernel, by decide +kernel⟩, Nat.le_of_ble_eq_true rfl⟩
theorem np_X7_foundSlot : (parseMethodDescriptor yX7_foundSlot.desc).map (fun d => d.parameters.length) = some 1 := by decide +kernel
theorem im_X7_foundSlot : Cond.instanceMethod yX7_foundSlot ∈ pWW := pw6 (List.mem_of_getElem? (i := 140) rfl) rfl
theorem se_X7_foundSlot : Cond.selects RX7 yX7_foundSlot yX7_foundSlot ∈ pWW := pw6 (List.mem_of_getElem? (i := 141) rfl) rfl
theorem ml7_162 : Cond.methodLink RX7 162 yX10_slotAt ∈ pWW := pw6 (List.mem_of_getElem? (i := 143) rfl) rfl
theorem dX7_foundSlot_0 : decode cX7_foundSlot 0 = .ok (.aload_n 1, 1) := by decide +kernel
theorem dX7_foundSlot_1 : decode cX7_foundSlot 1 = .ok (.aload_n 0, 1) := by decide +kernel
theorem dX7_foundSlot_2 : decode cX7_foundSlot 2 = .ok (.invokevirtual 152, 3) := by decide +kernel
theorem dX7_foundSlot_5 : decode cX7_foundSlot 5 = .ok (.aload_n 0, 1) := by decide +kernel
theorem dX7_foundSlot_6 : decode cX7_foundSlot 6 = .ok (.getfield 15, 3) := by decide +kernel
theorem dX7_foundSlot_9 : decode cX7_foundSlot 9 = .ok (.aload_n 0, 1) := by decide +kernel
theorem dX7_foundSlot_10 : decode cX7_foundSlot 10 = .ok (.getfield 143, 3) := by decide +kernel
theorem dX7_foundSlot_13 : decode cX7_foundSlot 13 = .ok (.invokestatic 91, 3) := by decide +kernel
theorem dX7_foundSlot_16 : decode cX7_foundSlot 16 = .ok (.aload_n 0, 1) := by decide +kernel
theorem dX7_foundSlot_17 : decode cX7_foundSlot 17 = .ok (.getfield 146, 3) := by decide +kernel
theorem dX7_foundSlot_20 : decode cX7_foundSlot 20 = .ok (.invokevirtual 162, 3) := by decide +kernel
theorem dX7_foundSlot_23 : decode cX7_foundSlot 23 = .ok (.ireturn, 1) := by decide +kernel
set_option maxRecDepth 20000 in
theorem k_X7_foundSlot (d : Nat) {T : CT} {σ : MS} {a : Nat} {p1 : Nat} (ha : OB T a 7) (h_p1 : OB T p1 10) (hw : WT T σ) : Tn (d + 3) m_X7_foundSlot 0 T σ [(0, .ref a), (1, .ref p1)] [] (fun ro T2 σ2 => ∃ v : Int, ro = some (.int (iI v)) ∧ T = T2 ∧ σ = σ2 ∧ (-2147483648 ≤ v ∧ v ≤ 2147483647)) := by
  refine tn_aload_n dX7_foundSlot_0 rfl 1 rfl ?_
  refine tn_aload_n dX7_foundSlot_1 rfl 0 rfl ?_
  refine tn_callV (M := m_X7_foundSlot) (pc := 2) (ix := 152) (ci := 7) (M' := m_X7_foundCode) (As := []) (rest := [.ref p1]) dX7_foundSlot_2 ok_X7_foundCode im_X7_foundCode se_X7_foundCode ml7_152 np_X7_foundCode rfl rfl ha rfl (Nat.le_of_ble_eq_true rfl) (Nat.le_of_ble_eq_true rfl) rfl (k_X7_foundCode (d) (T := T) (σ := σ) (a := a) ha hw ) (fun r1 T3 σ2 gt4 hp => ?_)
  obtain ⟨v6, rfl, rfl, rfl, rv7, f5⟩ := hp
  clear gt4
  clear f5
  rcases rv7 with rv7 | ⟨x8, rfl, hk9⟩
  · show Tn _ _ 5 T σ [(0, .ref a), (1, .ref p1)] (vl true v6 :: [.ref p1]) _
    rw [vl_null rv7]
    refine tn_aload_n dX7_foundSlot_5 rfl 0 rfl ?_
    obtain ⟨x10, hx11, hk12, hl13⟩ : ∃ x : Nat, σ.2.1 60 a = (x : Int) ∧ AR T x 1 9 9 := wf_60 hw ha
    have hk12i : IA T x10 := by unfold IA; omega
    refine tn_getR (ci := 7) (i := 5) (n := 60) (x := x10) dX7_foundSlot_6 rfl lay_7 (by decide) fl7_15 ha rfl rfl (hx11) ?_
    refine tn_aload_n dX7_foundSlot_9 rfl 0 rfl ?_
    refine tn_getI (ci := 7) (i := 15) (n := 70) (t := σ.2.1 70 a) dX7_foundSlot_10 rfl lay_7 (by decide) fl7_143 ha rfl rfl (rfl) ?_
    have g14 : ((-2147483648 : Int) ≤ σ.2.1 70 a ∧ σ.2.1 70 a ≤ 2147483647) := wf_70 hw ha
    refine tn_callSN (M := m_X7_foundSlot) (pc := 13) (ix := 91) (M' := m_X11_at) (As := [.ref x10, .int (iI (σ.2.1 70 a))]) (rest := [.null, .ref p1]) dX7_foundSlot_13 ok_X11_at stt_X11_at nl7_91 np_X11_at rfl (Nat.le_of_ble_eq_true rfl) (Nat.le_of_ble_eq_true rfl) rfl (k_X11_at (d + 1) (T := T) (σ := σ) (x := x10) (i := σ.2.1 70 a) hk12i (by omega) (by omega) hw ) (fun r15 T17 σ16 gt18 hp => ?_)
    obtain ⟨v22, rfl, rfl, rfl, f19, f20, f21⟩ := hp
    clear gt18
    clear f20 f21
    show Tn _ _ 16 T σ [(0, .ref a), (1, .ref p1)] [.int (iI v22), .null, .ref p1] _
    refine tn_aload_n dX7_foundSlot_16 rfl 0 rfl ?_
    refine tn_getI (ci := 7) (i := 16) (n := 71) (t := σ.2.1 71 a) dX7_foundSlot_17 rfl lay_7 (by decide) fl7_146 ha rfl rfl (rfl) ?_
    have g23 : ((-2147483648 : Int) ≤ σ.2.1 71 a ∧ σ.2.1 71 a ≤ 2147483647) := wf_71 hw ha
    refine tn_callV (M := m_X7_foundSlot) (pc := 20) (ix := 162) (ci := 10) (M' := m_X10_slotAt) (As := [.null, .int (iI v22), .int (iI (σ.2.1 71 a))]) (rest := []) dX7_foundSlot_20 ok_X10_slotAt im_X10_slotAt se_X10_slotAt ml7_162 np_X10_slotAt rfl rfl h_p1 rfl (Nat.le_of_ble_eq_true rfl) (Nat.le_of_ble_eq_true rfl) rfl (k_X10_slotAt_0 (d) (T := T) (σ := σ) (a := p1) (k := v22) (f := σ.2.1 71 a) h_p1 (by omega) (by omega) hw ) (fun r24 T26 σ25 gt27 hp => ?_)
    obtain ⟨v29, rfl, rfl, rfl, f28⟩ := hp
    clear gt27
    show Tn _ _ 23 T σ [(0, .ref a), (1, .ref p1)] [.int (iI v29)] _
    exact tn_iret rfl dX7_foundSlot_23 ⟨_, rfl, rfl, rfl, by omega⟩
  · show Tn _ _ 5 T σ [(0, .ref a), (1, .ref p1)] (vl true (x8 : Int) :: [.ref p1]) _
    rw [vl_ref rfl]
    have hk9o : OB T x8 1 := hk9.1
    refine tn_aload_n dX7_foundSlot_5 rfl 0 rfl ?_
    obtain ⟨x30, hx31, hk32, hl33⟩ : ∃ x : Nat, σ.2.1 60 a = (x : Int) ∧ AR T x 1 9 9 := wf_60 hw ha
    have hk32i : IA T x30 := by unfold IA; omega
    refine tn_getR (ci := 7) (i := 5) (n := 60) (x := x30) dX7_foundSlot_6 rfl lay_7 (by decide) fl7_15 ha rfl rfl (hx31) ?_
    refine tn_aload_n dX7_foundSlot_9 rfl 0 rfl ?_
    refine tn_getI (ci := 7) (i := 15) (n := 70) (t := σ.2.1 70 a) dX7_foundSlot_10 rfl lay_7 (by decide) fl7_143 ha rfl rfl (rfl) ?_
    have g34 : ((-2147483648 : Int) ≤ σ.2.1 70 a ∧ σ.2.1 70 a ≤ 2147483647) := wf_70 hw ha
    refine tn_callSN (M := m_X7_foundSlot) (pc := 13) (ix := 91) (M' := m_X11_at) (As := [.ref x30, .int (iI (σ.2.1 70 a))]) (rest := [.ref x8, .ref p1]) dX7_foundSlot_13 ok_X11_at stt_X11_at nl7_91 np_X11_at rfl (Nat.le_of_ble_eq_true rfl) (Nat.le_of_ble_eq_true rfl) rfl (k_X11_at (d + 1) (T := T) (σ := σ) (x := x30) (i := σ.2.1 70 a) hk32i (by omega) (by omega) hw ) (fun r35 T37 σ36 gt38 hp => ?_)
    obtain ⟨v42, rfl, rfl, rfl, f39, f40, f41⟩ := hp
    clear gt38
    clear f40 f41
    show Tn _ _ 16 T σ [(0, .ref a), (1, .ref p1)] [.int (iI v42), .ref x8, .ref p1] _
    refine tn_aload_n dX7_foundSlot_16 rfl 0 rfl ?_
    refine tn_getI (ci := 7) (i := 16) (n := 71) (t := σ.2.1 71 a) dX7_foundSlot_17 rfl lay_7 (by decide) fl7_146 ha rfl rfl (rfl) ?_
    have g43 : ((-2147483648 : Int) ≤ σ.2.1 71 a ∧ σ.2.1 71 a ≤ 2147483647) := wf_71 hw ha
    refine tn_callV (M := m_X7_foundSlot) (pc := 20) (ix := 162) (ci := 10) (M' := m_X10_slotAt) (As := [.ref x8, .int (iI v42), .int (iI (σ.2.1 71 a))]) (rest := []) dX7_foundSlot_20 ok_X10_slotAt im_X10_slotAt se_X10_slotAt ml7_162 np_X10_slotAt rfl rfl h_p1 rfl (Nat.le_of_ble_eq_true rfl) (Nat.le_of_ble_eq_true rfl) rfl (k_X10_slotAt (d) (T := T) (σ := σ) (a := p1) (c := x8) (k := v42) (f := σ.2.1 71 a) h_p1 hk9o (by omega) (by omega) hw ) (fun r44 T46 σ45 gt47 hp => ?_)
    obtain ⟨v49, rfl, rfl, rfl, f48⟩ := hp
    clear gt47
    show Tn _ _ 23 T σ [(0, .ref a), (1, .ref p1)] [.int (iI v49)] _
    exact tn_iret rfl dX7_foundSlot_23 ⟨_, rfl, rfl, rfl, by omega⟩
end
section
theorem cd_X7_foundId : Cond.code yX7_foundId cX7_foundId 3 (some .int) ∈ pWW := pw6 (List.mem_of_getElem? (i := 137) rfl) rfl
abbrev m_X7_foundId : MT := (yX7_foundId, cX7_foundId, 3, (some .int))
theorem ok_X7_foundId : pOk m_X7_foundId := ⟨⟨cd_X7_foundId, ini_7⟩, by decide +kernel, ⟨by decide +kernel, by decide +kernel⟩, Nat.le_of_ble_eq_true rfl⟩
theorem np_X7_foundId : (parseMethodDescriptor yX7_foundId.desc).map (fun d => d.parameters.length) = some 2 := by decide +kernel
theorem im_X7_foundId : Cond.instanceMethod yX7_foundId ∈ pWW := pw6 (List.mem_of_getElem? (i := 135) rfl) rfl
theorem se_X7_foundId : Cond.selects RX7 yX7_foundId yX7_foundId ∈ pWW := pw6 (List.mem_of_getElem? (i := 136) rfl) rfl
theorem ml7_168 : Cond.methodLink RX7 168 yX7_foundSource ∈ pWW := pw6 (List.mem_of_getElem? (i := 138) rfl) rfl
theorem ml7_171 : Cond.methodLink RX7 171 yX7_foundSlot ∈ pWW := pw6 (List.mem_of_getElem? (i := 139) rfl) rfl
theorem ml7_175 : Cond.methodLink RX7 175 yX10_idIn ∈ pWW := pw6 (List.mem_of_getElem? (i := 144) rfl) rfl
theorem dX7_foundId_0 : decode cX7_foundId 0 = .ok (.aload_n 1, 1) := by decide +kernel
theorem dX7_foundId_1 : decode cX7_foundId 1 = .ok (.aload_n 0, 1) := by decide +kernel
theorem dX7_foundId_2 : decode cX7_foundId 2 = .ok (.invokevirtual 168, 3) := by decide +kernel
theorem dX7_foundId_5 : decode cX7_foundId 5 = .ok (.aload_n 0, 1) := by decide +kernel
theorem dX7_foundId_6 : decode cX7_foundId 6 = .ok (.aload_n 1, 1) := by decide +kernel
theorem dX7_foundId_7 : decode cX7_foundId 7 = .ok (.invokevirtual 171, 3) := by decide +kernel
theorem dX7_foundId_10 : decode cX7_foundId 10 = .ok (.iload_n 2, 1) := by decide +kernel
theorem dX7_foundId_11 : decode cX7_foundId 11 = .ok (.iadd, 1) := by decide +kernel
theorem dX7_foundId_12 : decode cX7_foundId 12 = .ok (.invokevirtual 175, 3) := by decide +kernel
theorem dX7_foundId_15 : decode cX7_foundId 15 = .ok (.ireturn, 1) := by decide +kernel
set_option maxRecDepth 20000 in
theorem k_X7_foundId (d : Nat) {T : CT} {σ : MS} {a : Nat} {p1 : Nat} {p2 : Int} (ha : OB T a 7) (h_p1 : OB T p1 10) (h_p2 : -2147483648 ≤ p2 ∧ p2 ≤ 2147483647) (hw : WT T σ) : Tn (d + 4) m_X7_foundId 0 T σ [(0, .ref a), (1, .ref p1), (2, .int (iI p2))] [] (fun ro T2 σ2 => ∃ v : Int, ro = some (.int (iI v)) ∧ T = T2 ∧ σ = σ2 ∧ (-2147483648 ≤ v ∧ v ≤ 2147483647)) := by
  refine tn_aload_n dX7_foundId_0 rfl 1 rfl ?_
  refine tn_aload_n dX7_foundId_1 rfl 0 rfl ?_
  refine tn_callV (M := m_X7_foundId) (pc := 2) (ix := 168) (ci := 7) (M' := m_X7_foundSource) (As := []) (rest := [.ref p1]) dX7_foundId_2 ok_X7_foundSource im_X7_foundSource se_X7_foundSource ml7_168 np_X7_foundSource rfl rfl ha rfl (Nat.le_of_ble_eq_true rfl) (Nat.le_of_ble_eq_true rfl) rfl (k_X7_foundSource (d + 1) (T := T) (σ := σ) (a := a) ha hw ) (fun r1 T3 σ2 gt4 hp => ?_)
  obtain ⟨v6, rfl, rfl, rfl, f5⟩ := hp
  clear gt4
  show Tn _ _ 5 T σ [(0, .ref a), (1, .ref p1), (2, .int (iI p2))] [.int (iI v6), .ref p1] _
  refine tn_aload_n dX7_foundId_5 rfl 0 rfl ?_
  refine tn_aload_n dX7_foundId_6 rfl 1 rfl ?_
  refine tn_callV (M := m_X7_foundId) (pc := 7) (ix := 171) (ci := 7) (M' := m_X7_foundSlot) (As := [.ref p1]) (rest := [.int (iI v6), .ref p1]) dX7_foundId_7 ok_X7_foundSlot im_X7_foundSlot se_X7_foundSlot ml7_171 np_X7_foundSlot rfl rfl ha rfl (Nat.le_of_ble_eq_true rfl) (Nat.le_of_ble_eq_true rfl) rfl (k_X7_foundSlot (d) (T := T) (σ := σ) (a := a) (p1 := p1) ha h_p1 hw ) (fun r7 T9 σ8 gt10 hp => ?_)
  obtain ⟨v12, rfl, rfl, rfl, f11⟩ := hp
  clear gt10
  show Tn _ _ 10 T σ [(0, .ref a), (1, .ref p1), (2, .int (iI p2))] [.int (iI v12), .int (iI v6), .ref p1] _
  refine tn_iload_n dX7_foundId_10 rfl 2 rfl ?_
  refine tn_iadd dX7_foundId_11 ?_
  refine tn_any (fun z13 g14 => ?_)
  have g14r : -2147483648 ≤ z13 ∧ z13 ≤ 2147483647 := g14
  refine tn_callV (M := m_X7_foundId) (pc := 12) (ix := 175) (ci := 10) (M' := m_X10_idIn) (As := [.int (iI v6), .int (iI z13)]) (rest := []) dX7_foundId_12 ok_X10_idIn im_X10_idIn se_X10_idIn ml7_175 np_X10_idIn rfl rfl h_p1 rfl (Nat.le_of_ble_eq_true rfl) (Nat.le_of_ble_eq_true rfl) rfl (k_X10_idIn (d + 1) (T := T) (σ := σ) (a := p1) (p1 := v6) (p2 := z13) h_p1 (by omega) (by omega) hw ) (fun r15 T17 σ16 gt18 hp => ?_)
  obtain ⟨v20, rfl, rfl, rfl, f19⟩ := hp
  clear gt18
  show Tn _ _ 15 T σ [(0, .ref a), (1, .ref p1), (2, .int (iI p2))] [.int (iI v20)] _
  exact tn_iret rfl dX7_foundId_15 ⟨_, rfl, rfl, rfl, by omega⟩
end
section
theorem cd_X7_foundRegister : Cond.code yX7_foundRegister cX7_foundRegister 2 (some .int) ∈ pWW := pw6 (List.mem_of_getElem? (i := 158) rfl) rfl
abbrev m_X7_foundRegister : MT := (yX7_foundRegister, cX7_foundRegister, 2, (some .int))
theorem ok_X7_foundRegister : pOk m_X7_foundRegister := ⟨⟨cd_X7_foundRegister, ini_7⟩, by decide +kernel, ⟨by decide +kernel, by decide +kernel⟩, Nat.le_of_ble_eq_true rfl⟩
theorem np_X7_foundRegister : (parseMethodDescriptor yX7_foundRegister.desc).map (fun d => d.parameters.length) = some 1 := by decide +kernel
theorem im_X7_foundRegister : Cond.instanceMethod yX7_foundRegister ∈ pWW := pw6 (List.mem_of_getElem? (i := 156) rfl) rfl
theorem se_X7_foundRegister : Cond.selects RX7 yX7_foundRegister yX7_foundRegister ∈ pWW := pw6 (List.mem_of_getElem? (i := 157) rfl) rfl
theorem dX7_foundRegister_0 : decode cX7_foundRegister 0 = .ok (.aload_n 0, 1) := by decide +kernel
theorem dX7_foundRegister_1 : decode cX7_foundRegister 1 = .ok (.getfield 24, 3) := by decide +kernel
theorem dX7_foundRegister_4 : decode cX7_foundRegister 4 = .ok (.aload_n 0, 1) := by decide +kernel
theorem dX7_foundRegister_5 : decode cX7_foundRegister 5 = .ok (.getfield 143, 3) := by decide +kernel
theorem dX7_foundRegister_8 : decode cX7_foundRegister 8 = .ok (.sipush 192, 3) := by decide +kernel
theorem dX7_foundRegister_11 : decode cX7_foundRegister 11 = .ok (.imul, 1) := by decide +kernel
theorem dX7_foundRegister_12 : decode cX7_foundRegister 12 = .ok (.iload_n 1, 1) := by decide +kernel
theorem dX7_foundRegister_13 : decode cX7_foundRegister 13 = .ok (.iadd, 1) := by decide +kernel
theorem dX7_foundRegister_14 : decode cX7_foundRegister 14 = .ok (.invokestatic 91, 3) := by decide +kernel
theorem dX7_foundRegister_17 : decode cX7_foundRegister 17 = .ok (.ireturn, 1) := by decide +kernel
set_option maxRecDepth 20000 in
theorem k_X7_foundRegister (d : Nat) {T : CT} {σ : MS} {a : Nat} {p1 : Int} (ha : OB T a 7) (h_p1 : -2147483648 ≤ p1 ∧ p1 ≤ 2147483647) (hw : WT T σ) : Tn (d + 2) m_X7_foundRegister 0 T σ [(0, .ref a), (1, .int (iI p1))] [] (fun ro T2 σ2 => ∃ v : Int, ro = some (.int (iI v)) ∧ T = T2 ∧ σ = σ2 ∧ (-2147483648 ≤ v ∧ v ≤ 2147483647)) := by
  refine tn_aload_n dX7_foundRegister_0 rfl 0 rfl ?_
  obtain ⟨x1, hx2, hk3, hl4⟩ : ∃ x : Nat, σ.2.1 63 a = (x : Int) ∧ AR T x 1 1728 1728 := wf_63 hw ha
  have hk3i : IA T x1 := by unfold IA; omega
  refine tn_getR (ci := 7) (i := 8) (n := 63) (x := x1) dX7_foundRegister_1 rfl lay_7 (by decide) fl7_24 ha rfl rfl (hx2) ?_
  refine tn_aload_n dX7_foundRegister_4 rfl 0 rfl ?_
  refine tn_getI (ci := 7) (i := 15) (n := 70) (t := σ.2.1 70 a) dX7_foundRegister_5 rfl lay_7 (by decide) fl7_143 ha rfl rfl (rfl) ?_
  have g5 : ((-2147483648 : Int) ≤ σ.2.1 70 a ∧ σ.2.1 70 a ≤ 2147483647) := wf_70 hw ha
  refine tn_sipush dX7_foundRegister_8 (by decide) ?_
  refine tn_imul dX7_foundRegister_11 ?_
  refine tn_any (fun z6 g7 => ?_)
  have g7r : -2147483648 ≤ z6 ∧ z6 ≤ 2147483647 := g7
  refine tn_iload_n dX7_foundRegister_12 rfl 1 rfl ?_
  refine tn_iadd dX7_foundRegister_13 ?_
  refine tn_any (fun z8 g9 => ?_)
  have g9r : -2147483648 ≤ z8 ∧ z8 ≤ 2147483647 := g9
  refine tn_callSN (M := m_X7_foundRegister) (pc := 14) (ix := 91) (M' := m_X11_at) (As := [.ref x1, .int (iI z8)]) (rest := []) dX7_foundRegister_14 ok_X11_at stt_X11_at nl7_91 np_X11_at rfl (Nat.le_of_ble_eq_true rfl) (Nat.le_of_ble_eq_true rfl) rfl (k_X11_at (d) (T := T) (σ := σ) (x := x1) (i := z8) hk3i (by omega) (by omega) hw ) (fun r10 T12 σ11 gt13 hp => ?_)
  obtain ⟨v17, rfl, rfl, rfl, f14, f15, f16⟩ := hp
  clear gt13
  clear f15 f16
  show Tn _ _ 17 T σ [(0, .ref a), (1, .int (iI p1))] [.int (iI v17)] _
  exact tn_iret rfl dX7_foundRegister_17 ⟨_, rfl, rfl, rfl, by omega⟩
end
section
theorem cd_X7_foundValue : Cond.code yX7_foundValue cX7_foundValue 7 (some .int) ∈ pWW := pw6 (List.mem_of_getElem? (i := 152) rfl) rfl
abbrev m_X7_foundValue : MT := (yX7_foundValue, cX7_foundValue, 7, (some .int))
theorem ok_X7_foundValue : pOk m_X7_foundValue := ⟨⟨cd_X7_foundValue, ini_7⟩, by decide +kernel, ⟨by decide +kernel, by decide +kernel⟩, Nat.le_of_ble_eq_true rfl⟩
theorem np_X7_foundValue : (parseMethodDescriptor yX7_foundValue.desc).map (fun d => d.parameters.length) = some 2 := by decide +kernel
theorem im_X7_foundValue : Cond.instanceMethod yX7_foundValue ∈ pWW := pw6 (List.mem_of_getElem? (i := 150) rfl) rfl
theorem se_X7_foundValue : Cond.selects RX7 yX7_foundValue yX7_foundValue ∈ pWW := pw6 (List.mem_of_getElem? (i := 151) rfl) rfl
theorem ml7_178 : Cond.methodLink RX7 178 yX10_whereOf ∈ pWW := pw6 (List.mem_of_getElem? (i := 153) rfl) rfl
theorem ml7_182 : Cond.methodLink RX7 182 yX10_part ∈ pWW := pw6 (List.mem_of_getElem? (i := 154) rfl) rfl
theorem ml7_185 : Cond.methodLink RX7 185 yX7_foundRegister ∈ pWW := pw6 (List.mem_of_getElem? (i := 155) rfl) rfl
theorem dX7_foundValue_0 : decode cX7_foundValue 0 = .ok (.aload_n 0, 1) := by decide +kernel
theorem dX7_foundValue_1 : decode cX7_foundValue 1 = .ok (.invokevirtual 152, 3) := by decide +kernel
theorem dX7_foundValue_4 : decode cX7_foundValue 4 = .ok (.astore_n 3, 1) := by decide +kernel
theorem dX7_foundValue_5 : decode cX7_foundValue 5 = .ok (.aload_n 3, 1) := by decide +kernel
theorem dX7_foundValue_6 : decode cX7_foundValue 6 = .ok (.ifnonnull 8, 3) := by decide +kernel
theorem dX7_foundValue_9 : decode cX7_foundValue 9 = .ok (.bipush 10, 2) := by decide +kernel
theorem dX7_foundValue_11 : decode cX7_foundValue 11 = .ok (.goto 9, 3) := by decide +kernel
theorem dX7_foundValue_20 : decode cX7_foundValue 20 = .ok (.istore 4, 2) := by decide +kernel
theorem dX7_foundValue_22 : decode cX7_foundValue 22 = .ok (.iload 4, 2) := by decide +kernel
theorem dX7_foundValue_24 : decode cX7_foundValue 24 = .ok (.bipush 10, 2) := by decide +kernel
theorem dX7_foundValue_26 : decode cX7_foundValue 26 = .ok (.if_icmp .lt 5, 3) := by decide +kernel
theorem dX7_foundValue_29 : decode cX7_foundValue 29 = .ok (.iconst 0, 1) := by decide +kernel
theorem dX7_foundValue_30 : decode cX7_foundValue 30 = .ok (.ireturn, 1) := by decide +kernel
theorem dX7_foundValue_14 : decode cX7_foundValue 14 = .ok (.aload_n 1, 1) := by decide +kernel
theorem dX7_foundValue_15 : decode cX7_foundValue 15 = .ok (.aload_n 3, 1) := by decide +kernel
theorem dX7_foundValue_16 : decode cX7_foundValue 16 = .ok (.iload_n 2, 1) := by decide +kernel
theorem dX7_foundValue_17 : decode cX7_foundValue 17 = .ok (.invokevirtual 178, 3) := by decide +kernel
theorem dX7_foundValue_31 : decode cX7_foundValue 31 = .ok (.aload_n 1, 1) := by decide +kernel
theorem dX7_foundValue_32 : decode cX7_foundValue 32 = .ok (.aload_n 3, 1) := by decide +kernel
theorem dX7_foundValue_33 : decode cX7_foundValue 33 = .ok (.iload_n 2, 1) := by decide +kernel
theorem dX7_foundValue_34 : decode cX7_foundValue 34 = .ok (.iconst 4, 1) := by decide +kernel
theorem dX7_foundValue_35 : decode cX7_foundValue 35 = .ok (.invokevirtual 182, 3) := by decide +kernel
theorem dX7_foundValue_38 : decode cX7_foundValue 38 = .ok (.istore 5, 2) := by decide +kernel
theorem dX7_foundValue_40 : decode cX7_foundValue 40 = .ok (.iload 4, 2) := by decide +kernel
theorem dX7_foundValue_42 : decode cX7_foundValue 42 = .ok (.iconst 1, 1) := by decide +kernel
theorem dX7_foundValue_43 : decode cX7_foundValue 43 = .ok (.if_icmp .ne 6, 3) := by decide +kernel
theorem dX7_foundValue_49 : decode cX7_foundValue 49 = .ok (.iload 4, 2) := by decide +kernel
theorem dX7_foundValue_51 : decode cX7_foundValue 51 = .ok (.iconst 2, 1) := by decide +kernel
theorem dX7_foundValue_52 : decode cX7_foundValue 52 = .ok (.if_icmp .ne 10, 3) := by decide +kernel
theorem dX7_foundValue_62 : decode cX7_foundValue 62 = .ok (.aload_n 1, 1) := by decide +kernel
theorem dX7_foundValue_63 : decode cX7_foundValue 63 = .ok (.aload_n 3, 1) := by decide +kernel
theorem dX7_foundValue_64 : decode cX7_foundValue 64 = .ok (.iload_n 2, 1) := by decide +kernel
theorem dX7_foundValue_65 : decode cX7_foundValue 65 = .ok (.bipush 6, 2) := by decide +kernel
theorem dX7_foundValue_67 : decode cX7_foundValue 67 = .ok (.invokevirtual 182, 3) := by decide +kernel
theorem dX7_foundValue_70 : decode cX7_foundValue 70 = .ok (.istore 6, 2) := by decide +kernel
theorem dX7_foundValue_72 : decode cX7_foundValue 72 = .ok (.aload_n 1, 1) := by decide +kernel
theorem dX7_foundValue_73 : decode cX7_foundValue 73 = .ok (.aload_n 3, 1) := by decide +kernel
theorem dX7_foundValue_74 : decode cX7_foundValue 74 = .ok (.iload_n 2, 1) := by decide +kernel
theorem dX7_foundValue_75 : decode cX7_foundValue 75 = .ok (.iconst 3, 1) := by decide +kernel
theorem dX7_foundValue_76 : decode cX7_foundValue 76 = .ok (.invokevirtual 182, 3) := by decide +kernel
theorem dX7_foundValue_79 : decode cX7_foundValue 79 = .ok (.iconst 2, 1) := by decide +kernel
theorem dX7_foundValue_80 : decode cX7_foundValue 80 = .ok (.if_icmp .ne 12, 3) := by decide +kernel
theorem dX7_foundValue_92 : decode cX7_foundValue 92 = .ok (.iload 5, 2) := by decide +kernel
theorem dX7_foundValue_94 : decode cX7_foundValue 94 = .ok (.istore 5, 2) := by decide +kernel
theorem dX7_foundValue_96 : decode cX7_foundValue 96 = .ok (.aload_n 1, 1) := by decide +kernel
theorem dX7_foundValue_97 : decode cX7_foundValue 97 = .ok (.aload_n 3, 1) := by decide +kernel
theorem dX7_foundValue_98 : decode cX7_foundValue 98 = .ok (.iload_n 2, 1) := by decide +kernel
theorem dX7_foundValue_99 : decode cX7_foundValue 99 = .ok (.iconst 5, 1) := by decide +kernel
theorem dX7_foundValue_100 : decode cX7_foundValue 100 = .ok (.invokevirtual 182, 3) := by decide +kernel
theorem dX7_foundValue_103 : decode cX7_foundValue 103 = .ok (.iconst 2, 1) := by decide +kernel
theorem dX7_foundValue_104 : decode cX7_foundValue 104 = .ok (.if_icmp .ne 12, 3) := by decide +kernel
theorem dX7_foundValue_116 : decode cX7_foundValue 116 = .ok (.iload 6, 2) := by decide +kernel
theorem dX7_foundValue_118 : decode cX7_foundValue 118 = .ok (.istore 6, 2) := by decide +kernel
theorem dX7_foundValue_120 : decode cX7_foundValue 120 = .ok (.iload 4, 2) := by decide +kernel
theorem dX7_foundValue_122 : decode cX7_foundValue 122 = .ok (.iconst 2, 1) := by decide +kernel
theorem dX7_foundValue_123 : decode cX7_foundValue 123 = .ok (.isub, 1) := by decide +kernel
theorem dX7_foundValue_124 : decode cX7_foundValue 124 = .ok (.iload 5, 2) := by decide +kernel
theorem dX7_foundValue_126 : decode cX7_foundValue 126 = .ok (.iload 6, 2) := by decide +kernel
theorem dX7_foundValue_128 : decode cX7_foundValue 128 = .ok (.invokestatic 136, 3) := by decide +kernel
theorem dX7_foundValue_131 : decode cX7_foundValue 131 = .ok (.ireturn, 1) := by decide +kernel
theorem dX7_foundValue_107 : decode cX7_foundValue 107 = .ok (.aload_n 0, 1) := by decide +kernel
theorem dX7_foundValue_108 : decode cX7_foundValue 108 = .ok (.iload 6, 2) := by decide +kernel
theorem dX7_foundValue_110 : decode cX7_foundValue 110 = .ok (.invokevirtual 185, 3) := by decide +kernel
theorem dX7_foundValue_113 : decode cX7_foundValue 113 = .ok (.goto 5, 3) := by decide +kernel
theorem dX7_foundValue_83 : decode cX7_foundValue 83 = .ok (.aload_n 0, 1) := by decide +kernel
theorem dX7_foundValue_84 : decode cX7_foundValue 84 = .ok (.iload 5, 2) := by decide +kernel
theorem dX7_foundValue_86 : decode cX7_foundValue 86 = .ok (.invokevirtual 185, 3) := by decide +kernel
theorem dX7_foundValue_89 : decode cX7_foundValue 89 = .ok (.goto 5, 3) := by decide +kernel
theorem dX7_foundValue_55 : decode cX7_foundValue 55 = .ok (.aload_n 0, 1) := by decide +kernel
theorem dX7_foundValue_56 : decode cX7_foundValue 56 = .ok (.iload 5, 2) := by decide +kernel
theorem dX7_foundValue_58 : decode cX7_foundValue 58 = .ok (.invokevirtual 185, 3) := by decide +kernel
theorem dX7_foundValue_61 : decode cX7_foundValue 61 = .ok (.ireturn, 1) := by decide +kernel
theorem dX7_foundValue_46 : decode cX7_foundValue 46 = .ok (.iload 5, 2) := by decide +kernel
theorem dX7_foundValue_48 : decode cX7_foundValue 48 = .ok (.ireturn, 1) := by decide +kernel
set_option maxRecDepth 20000 in
theorem k_X7_foundValue (d : Nat) {T : CT} {σ : MS} {a : Nat} {p1 : Nat} {p2 : Int} (ha : OB T a 7) (h_p1 : OB T p1 10) (h_p2 : -2147483648 ≤ p2 ∧ p2 ≤ 2147483647) (hw : WT T σ) : Tn (d + 4) m_X7_foundValue 0 T σ [(0, .ref a), (1, .ref p1), (2, .int (iI p2))] [] (fun ro T2 σ2 => ∃ v : Int, ro = some (.int (iI v)) ∧ T = T2 ∧ σ = σ2 ∧ (-2147483648 ≤ v ∧ v ≤ 2147483647)) := by
  refine tn_aload_n dX7_foundValue_0 rfl 0 rfl ?_
  refine tn_callV (M := m_X7_foundValue) (pc := 1) (ix := 152) (ci := 7) (M' := m_X7_foundCode) (As := []) (rest := []) dX7_foundValue_1 ok_X7_foundCode im_X7_foundCode se_X7_foundCode ml7_152 np_X7_foundCode rfl rfl ha rfl (Nat.le_of_ble_eq_true rfl) (Nat.le_of_ble_eq_true rfl) rfl (k_X7_foundCode (d + 1) (T := T) (σ := σ) (a := a) ha hw ) (fun r1 T3 σ2 gt4 hp => ?_)
  obtain ⟨v6, rfl, rfl, rfl, rv7, f5⟩ := hp
  clear gt4
  clear f5
  rcases rv7 with rv7 | ⟨x8, rfl, hk9⟩
  · show Tn _ _ 4 T σ [(0, .ref a), (1, .ref p1), (2, .int (iI p2))] (vl true v6 :: []) _
    rw [vl_null rv7]
    refine tn_astore_nN (L' := [(3, .null), (0, .ref a), (1, .ref p1), (2, .int (iI p2))]) dX7_foundValue_4 rfl (by decide) rfl ?_
    refine tn_aload_nN dX7_foundValue_5 rfl 0 rfl ?_
    refine tn_ifnonnullN dX7_foundValue_6 ?_
    refine tn_bipush dX7_foundValue_9 (by decide) ?_
    refine tn_goto (tgt := 20) dX7_foundValue_11 (by decide) ?_
    refine tn_istore (L' := [(4, .int (iI 10)), (3, .null), (0, .ref a), (1, .ref p1), (2, .int (iI p2))]) dX7_foundValue_20 (by decide) rfl ?_
    refine tn_iload dX7_foundValue_22 0 rfl ?_
    refine tn_bipush dX7_foundValue_24 (by decide) ?_
    refine tn_icmp_lt (tgt := 31) dX7_foundValue_26 (by decide) ⟨by decide, by decide⟩ ⟨by decide, by decide⟩ (fun h => absurd h (by decide)) (fun _ => ?_)
    refine tn_iconst dX7_foundValue_29 ?_
    exact tn_iret rfl dX7_foundValue_30 ⟨_, rfl, rfl, rfl, by omega⟩
  · show Tn _ _ 4 T σ [(0, .ref a), (1, .ref p1), (2, .int (iI p2))] (vl true (x8 : Int) :: []) _
    rw [vl_ref rfl]
    have hk9o : OB T x8 1 := hk9.1
    refine tn_astore_n (L' := [(3, .ref x8), (0, .ref a), (1, .ref p1), (2, .int (iI p2))]) dX7_foundValue_4 rfl (by decide) rfl ?_
    refine tn_aload_n dX7_foundValue_5 rfl 0 rfl ?_
    refine tn_ifnonnull (tgt := 14) dX7_foundValue_6 (by decide) ?_
    refine tn_aload_n dX7_foundValue_14 rfl 2 rfl ?_
    refine tn_aload_n dX7_foundValue_15 rfl 0 rfl ?_
    refine tn_iload_n dX7_foundValue_16 rfl 3 rfl ?_
    refine tn_callV (M := m_X7_foundValue) (pc := 17) (ix := 178) (ci := 10) (M' := m_X10_whereOf) (As := [.ref x8, .int (iI p2)]) (rest := []) dX7_foundValue_17 ok_X10_whereOf im_X10_whereOf se_X10_whereOf ml7_178 np_X10_whereOf rfl rfl h_p1 rfl (Nat.le_of_ble_eq_true rfl) (Nat.le_of_ble_eq_true rfl) rfl (k_X10_whereOf (d + 1) (T := T) (σ := σ) (a := p1) (c := x8) (i := p2) h_p1 hk9o (by omega) hw ) (fun r11 T13 σ12 gt14 hp => ?_)
    obtain ⟨v16, rfl, rfl, rfl, f15⟩ := hp
    clear gt14
    show Tn _ _ 20 T σ [(3, .ref x8), (0, .ref a), (1, .ref p1), (2, .int (iI p2))] [.int (iI v16)] _
    refine tn_istore (L' := [(4, .int (iI v16)), (3, .ref x8), (0, .ref a), (1, .ref p1), (2, .int (iI p2))]) dX7_foundValue_20 (by decide) rfl ?_
    refine tn_iload dX7_foundValue_22 0 rfl ?_
    refine tn_bipush dX7_foundValue_24 (by decide) ?_
    refine tn_icmp_lt (tgt := 31) dX7_foundValue_26 (by decide) ⟨by omega, by omega⟩ ⟨by decide, by decide⟩ (fun h17 => ?_) (fun h17 => ?_)
    · refine tn_aload_n dX7_foundValue_31 rfl 3 rfl ?_
      refine tn_aload_n dX7_foundValue_32 rfl 1 rfl ?_
      refine tn_iload_n dX7_foundValue_33 rfl 4 rfl ?_
      refine tn_iconst dX7_foundValue_34 ?_
      refine tn_callV (M := m_X7_foundValue) (pc := 35) (ix := 182) (ci := 10) (M' := m_X10_part) (As := [.ref x8, .int (iI p2), .int (iI 4)]) (rest := []) dX7_foundValue_35 ok_X10_part im_X10_part se_X10_part ml7_182 np_X10_part rfl rfl h_p1 rfl (Nat.le_of_ble_eq_true rfl) (Nat.le_of_ble_eq_true rfl) rfl (k_X10_part (d) (T := T) (σ := σ) (a := p1) (c := x8) (i := p2) (e := 4) h_p1 hk9o (by omega) (by decide) hw (by omega)) (fun r18 T20 σ19 gt21 hp => ?_)
      obtain ⟨v23, rfl, rfl, rfl, f22⟩ := hp
      clear gt21
      show Tn _ _ 38 T σ [(4, .int (iI v16)), (3, .ref x8), (0, .ref a), (1, .ref p1), (2, .int (iI p2))] [.int (iI v23)] _
      refine tn_istore (L' := [(5, .int (iI v23)), (4, .int (iI v16)), (3, .ref x8), (0, .ref a), (1, .ref p1), (2, .int (iI p2))]) dX7_foundValue_38 (by decide) rfl ?_
      refine tn_iload dX7_foundValue_40 1 rfl ?_
      refine tn_iconst dX7_foundValue_42 ?_
      refine tn_icmp_ne (tgt := 49) dX7_foundValue_43 (by decide) ⟨by omega, by omega⟩ ⟨by decide, by decide⟩ (fun h24 => ?_) (fun h24 => ?_)
      · refine tn_iload dX7_foundValue_49 1 rfl ?_
        refine tn_iconst dX7_foundValue_51 ?_
        refine tn_icmp_ne (tgt := 62) dX7_foundValue_52 (by decide) ⟨by omega, by omega⟩ ⟨by decide, by decide⟩ (fun h25 => ?_) (fun h25 => ?_)
        · refine tn_aload_n dX7_foundValue_62 rfl 4 rfl ?_
          refine tn_aload_n dX7_foundValue_63 rfl 2 rfl ?_
          refine tn_iload_n dX7_foundValue_64 rfl 5 rfl ?_
          refine tn_bipush dX7_foundValue_65 (by decide) ?_
          refine tn_callV (M := m_X7_foundValue) (pc := 67) (ix := 182) (ci := 10) (M' := m_X10_part) (As := [.ref x8, .int (iI p2), .int (iI 6)]) (rest := []) dX7_foundValue_67 ok_X10_part im_X10_part se_X10_part ml7_182 np_X10_part rfl rfl h_p1 rfl (Nat.le_of_ble_eq_true rfl) (Nat.le_of_ble_eq_true rfl) rfl (k_X10_part (d) (T := T) (σ := σ) (a := p1) (c := x8) (i := p2) (e := 6) h_p1 hk9o (by omega) (by decide) hw (by omega)) (fun r26 T28 σ27 gt29 hp => ?_)
          obtain ⟨v31, rfl, rfl, rfl, f30⟩ := hp
          clear gt29
          show Tn _ _ 70 T σ [(5, .int (iI v23)), (4, .int (iI v16)), (3, .ref x8), (0, .ref a), (1, .ref p1), (2, .int (iI p2))] [.int (iI v31)] _
          refine tn_istore (L' := [(6, .int (iI v31)), (5, .int (iI v23)), (4, .int (iI v16)), (3, .ref x8), (0, .ref a), (1, .ref p1), (2, .int (iI p2))]) dX7_foundValue_70 (by decide) rfl ?_
          refine tn_aload_n dX7_foundValue_72 rfl 5 rfl ?_
          refine tn_aload_n dX7_foundValue_73 rfl 3 rfl ?_
          refine tn_iload_n dX7_foundValue_74 rfl 6 rfl ?_
          refine tn_iconst dX7_foundValue_75 ?_
          refine tn_callV (M := m_X7_foundValue) (pc := 76) (ix := 182) (ci := 10) (M' := m_X10_part) (As := [.ref x8, .int (iI p2), .int (iI 3)]) (rest := []) dX7_foundValue_76 ok_X10_part im_X10_part se_X10_part ml7_182 np_X10_part rfl rfl h_p1 rfl (Nat.le_of_ble_eq_true rfl) (Nat.le_of_ble_eq_true rfl) rfl (k_X10_part (d) (T := T) (σ := σ) (a := p1) (c := x8) (i := p2) (e := 3) h_p1 hk9o (by omega) (by decide) hw (by omega)) (fun r32 T34 σ33 gt35 hp => ?_)
          obtain ⟨v37, rfl, rfl, rfl, f36⟩ := hp
          clear gt35
          show Tn _ _ 79 T σ [(6, .int (iI v31)), (5, .int (iI v23)), (4, .int (iI v16)), (3, .ref x8), (0, .ref a), (1, .ref p1), (2, .int (iI p2))] [.int (iI v37)] _
          refine tn_iconst dX7_foundValue_79 ?_
          refine tn_icmp_ne (tgt := 92) dX7_foundValue_80 (by decide) ⟨by omega, by omega⟩ ⟨by decide, by decide⟩ (fun h38 => ?_) (fun h38 => ?_)
          · refine tn_iload dX7_foundValue_92 1 rfl ?_
            refine tn_istore (L' := [(5, .int (iI v23)), (6, .int (iI v31)), (4, .int (iI v16)), (3, .ref x8), (0, .ref a), (1, .ref p1), (2, .int (iI p2))]) dX7_foundValue_94 (by decide) rfl ?_
            refine tn_aload_n dX7_foundValue_96 rfl 5 rfl ?_
            refine tn_aload_n dX7_foundValue_97 rfl 3 rfl ?_
            refine tn_iload_n dX7_foundValue_98 rfl 6 rfl ?_
            refine tn_iconst dX7_foundValue_99 ?_
            refine tn_callV (M := m_X7_foundValue) (pc := 100) (ix := 182) (ci := 10) (M' := m_X10_part) (As := [.ref x8, .int (iI p2), .int (iI 5)]) (rest := []) dX7_foundValue_100 ok_X10_part im_X10_part se_X10_part ml7_182 np_X10_part rfl rfl h_p1 rfl (Nat.le_of_ble_eq_true rfl) (Nat.le_of_ble_eq_true rfl) rfl (k_X10_part (d) (T := T) (σ := σ) (a := p1) (c := x8) (i := p2) (e := 5) h_p1 hk9o (by omega) (by decide) hw (by omega)) (fun r39 T41 σ40 gt42 hp => ?_)
            obtain ⟨v44, rfl, rfl, rfl, f43⟩ := hp
            clear gt42
            show Tn _ _ 103 T σ [(5, .int (iI v23)), (6, .int (iI v31)), (4, .int (iI v16)), (3, .ref x8), (0, .ref a), (1, .ref p1), (2, .int (iI p2))] [.int (iI v44)] _
            refine tn_iconst dX7_foundValue_103 ?_
            refine tn_icmp_ne (tgt := 116) dX7_foundValue_104 (by decide) ⟨by omega, by omega⟩ ⟨by decide, by decide⟩ (fun h45 => ?_) (fun h45 => ?_)
            · refine tn_iload dX7_foundValue_116 1 rfl ?_
              refine tn_istore (L' := [(6, .int (iI v31)), (5, .int (iI v23)), (4, .int (iI v16)), (3, .ref x8), (0, .ref a), (1, .ref p1), (2, .int (iI p2))]) dX7_foundValue_118 (by decide) rfl ?_
              refine tn_iload dX7_foundValue_120 2 rfl ?_
              refine tn_iconst dX7_foundValue_122 ?_
              refine tn_isub dX7_foundValue_123 ?_
              refine tn_any (fun z46 g47 => ?_)
              have g47r : -2147483648 ≤ z46 ∧ z46 ≤ 2147483647 := g47
              refine tn_iload dX7_foundValue_124 1 rfl ?_
              refine tn_iload dX7_foundValue_126 0 rfl ?_
              refine tn_callSN (M := m_X7_foundValue) (pc := 128) (ix := 136) (M' := m_X11_reckon) (As := [.int (iI z46), .int (iI v23), .int (iI v31)]) (rest := []) dX7_foundValue_128 ok_X11_reckon stt_X11_reckon nl7_136 np_X11_reckon rfl (Nat.le_of_ble_eq_true rfl) (Nat.le_of_ble_eq_true rfl) rfl (k_X11_reckon (d + 2) (T := T) (σ := σ) (k := z46) (x := v23) (y := v31) (by omega) (by omega) (by omega) hw ) (fun r48 T50 σ49 gt51 hp => ?_)
              obtain ⟨v53, rfl, rfl, rfl, f52⟩ := hp
              clear gt51
              show Tn _ _ 131 T σ [(6, .int (iI v31)), (5, .int (iI v23)), (4, .int (iI v16)), (3, .ref x8), (0, .ref a), (1, .ref p1), (2, .int (iI p2))] [.int (iI v53)] _
              exact tn_iret rfl dX7_foundValue_131 ⟨_, rfl, rfl, rfl, by omega⟩
            · refine tn_aload_n dX7_foundValue_107 rfl 4 rfl ?_
              refine tn_iload dX7_foundValue_108 1 rfl ?_
              refine tn_callV (M := m_X7_foundValue) (pc := 110) (ix := 185) (ci := 7) (M' := m_X7_foundRegister) (As := [.int (iI v31)]) (rest := []) dX7_foundValue_110 ok_X7_foundRegister im_X7_foundRegister se_X7_foundRegister ml7_185 np_X7_foundRegister rfl rfl ha rfl (Nat.le_of_ble_eq_true rfl) (Nat.le_of_ble_eq_true rfl) rfl (k_X7_foundRegister (d + 1) (T := T) (σ := σ) (a := a) (p1 := v31) ha (by omega) hw ) (fun r54 T56 σ55 gt57 hp => ?_)
              obtain ⟨v59, rfl, rfl, rfl, f58⟩ := hp
              clear gt57
              show Tn _ _ 113 T σ [(5, .int (iI v23)), (6, .int (iI v31)), (4, .int (iI v16)), (3, .ref x8), (0, .ref a), (1, .ref p1), (2, .int (iI p2))] [.int (iI v59)] _
              refine tn_goto (tgt := 118) dX7_foundValue_113 (by decide) ?_
              refine tn_istore (L' := [(6, .int (iI v59)), (5, .int (iI v23)), (4, .int (iI v16)), (3, .ref x8), (0, .ref a), (1, .ref p1), (2, .int (iI p2))]) dX7_foundValue_118 (by decide) rfl ?_
              refine tn_iload dX7_foundValue_120 2 rfl ?_
              refine tn_iconst dX7_foundValue_122 ?_
              refine tn_isub dX7_foundValue_123 ?_
              refine tn_any (fun z60 g61 => ?_)
              have g61r : -2147483648 ≤ z60 ∧ z60 ≤ 2147483647 := g61
              refine tn_iload dX7_foundValue_124 1 rfl ?_
              refine tn_iload dX7_foundValue_126 0 rfl ?_
              refine tn_callSN (M := m_X7_foundValue) (pc := 128) (ix := 136) (M' := m_X11_reckon) (As := [.int (iI z60), .int (iI v23), .int (iI v59)]) (rest := []) dX7_foundValue_128 ok_X11_reckon stt_X11_reckon nl7_136 np_X11_reckon rfl (Nat.le_of_ble_eq_true rfl) (Nat.le_of_ble_eq_true rfl) rfl (k_X11_reckon (d + 2) (T := T) (σ := σ) (k := z60) (x := v23) (y := v59) (by omega) (by omega) (by omega) hw ) (fun r62 T64 σ63 gt65 hp => ?_)
              obtain ⟨v67, rfl, rfl, rfl, f66⟩ := hp
              clear gt65
              show Tn _ _ 131 T σ [(6, .int (iI v59)), (5, .int (iI v23)), (4, .int (iI v16)), (3, .ref x8), (0, .ref a), (1, .ref p1), (2, .int (iI p2))] [.int (iI v67)] _
              exact tn_iret rfl dX7_foundValue_131 ⟨_, rfl, rfl, rfl, by omega⟩
          · refine tn_aload_n dX7_foundValue_83 rfl 4 rfl ?_
            refine tn_iload dX7_foundValue_84 1 rfl ?_
            refine tn_callV (M := m_X7_foundValue) (pc := 86) (ix := 185) (ci := 7) (M' := m_X7_foundRegister) (As := [.int (iI v23)]) (rest := []) dX7_foundValue_86 ok_X7_foundRegister im_X7_foundRegister se_X7_foundRegister ml7_185 np_X7_foundRegister rfl rfl ha rfl (Nat.le_of_ble_eq_true rfl) (Nat.le_of_ble_eq_true rfl) rfl (k_X7_foundRegister (d + 1) (T := T) (σ := σ) (a := a) (p1 := v23) ha (by omega) hw ) (fun r68 T70 σ69 gt71 hp => ?_)
            obtain ⟨v73, rfl, rfl, rfl, f72⟩ := hp
            clear gt71
            show Tn _ _ 89 T σ [(6, .int (iI v31)), (5, .int (iI v23)), (4, .int (iI v16)), (3, .ref x8), (0, .ref a), (1, .ref p1), (2, .int (iI p2))] [.int (iI v73)] _
            refine tn_goto (tgt := 94) dX7_foundValue_89 (by decide) ?_
            refine tn_istore (L' := [(5, .int (iI v73)), (6, .int (iI v31)), (4, .int (iI v16)), (3, .ref x8), (0, .ref a), (1, .ref p1), (2, .int (iI p2))]) dX7_foundValue_94 (by decide) rfl ?_
            refine tn_aload_n dX7_foundValue_96 rfl 5 rfl ?_
            refine tn_aload_n dX7_foundValue_97 rfl 3 rfl ?_
            refine tn_iload_n dX7_foundValue_98 rfl 6 rfl ?_
            refine tn_iconst dX7_foundValue_99 ?_
            refine tn_callV (M := m_X7_foundValue) (pc := 100) (ix := 182) (ci := 10) (M' := m_X10_part) (As := [.ref x8, .int (iI p2), .int (iI 5)]) (rest := []) dX7_foundValue_100 ok_X10_part im_X10_part se_X10_part ml7_182 np_X10_part rfl rfl h_p1 rfl (Nat.le_of_ble_eq_true rfl) (Nat.le_of_ble_eq_true rfl) rfl (k_X10_part (d) (T := T) (σ := σ) (a := p1) (c := x8) (i := p2) (e := 5) h_p1 hk9o (by omega) (by decide) hw (by omega)) (fun r74 T76 σ75 gt77 hp => ?_)
            obtain ⟨v79, rfl, rfl, rfl, f78⟩ := hp
            clear gt77
            show Tn _ _ 103 T σ [(5, .int (iI v73)), (6, .int (iI v31)), (4, .int (iI v16)), (3, .ref x8), (0, .ref a), (1, .ref p1), (2, .int (iI p2))] [.int (iI v79)] _
            refine tn_iconst dX7_foundValue_103 ?_
            refine tn_icmp_ne (tgt := 116) dX7_foundValue_104 (by decide) ⟨by omega, by omega⟩ ⟨by decide, by decide⟩ (fun h80 => ?_) (fun h80 => ?_)
            · refine tn_iload dX7_foundValue_116 1 rfl ?_
              refine tn_istore (L' := [(6, .int (iI v31)), (5, .int (iI v73)), (4, .int (iI v16)), (3, .ref x8), (0, .ref a), (1, .ref p1), (2, .int (iI p2))]) dX7_foundValue_118 (by decide) rfl ?_
              refine tn_iload dX7_foundValue_120 2 rfl ?_
              refine tn_iconst dX7_foundValue_122 ?_
              refine tn_isub dX7_foundValue_123 ?_
              refine tn_any (fun z81 g82 => ?_)
              have g82r : -2147483648 ≤ z81 ∧ z81 ≤ 2147483647 := g82
              refine tn_iload dX7_foundValue_124 1 rfl ?_
              refine tn_iload dX7_foundValue_126 0 rfl ?_
              refine tn_callSN (M := m_X7_foundValue) (pc := 128) (ix := 136) (M' := m_X11_reckon) (As := [.int (iI z81), .int (iI v73), .int (iI v31)]) (rest := []) dX7_foundValue_128 ok_X11_reckon stt_X11_reckon nl7_136 np_X11_reckon rfl (Nat.le_of_ble_eq_true rfl) (Nat.le_of_ble_eq_true rfl) rfl (k_X11_reckon (d + 2) (T := T) (σ := σ) (k := z81) (x := v73) (y := v31) (by omega) (by omega) (by omega) hw ) (fun r83 T85 σ84 gt86 hp => ?_)
              obtain ⟨v88, rfl, rfl, rfl, f87⟩ := hp
              clear gt86
              show Tn _ _ 131 T σ [(6, .int (iI v31)), (5, .int (iI v73)), (4, .int (iI v16)), (3, .ref x8), (0, .ref a), (1, .ref p1), (2, .int (iI p2))] [.int (iI v88)] _
              exact tn_iret rfl dX7_foundValue_131 ⟨_, rfl, rfl, rfl, by omega⟩
            · refine tn_aload_n dX7_foundValue_107 rfl 4 rfl ?_
              refine tn_iload dX7_foundValue_108 1 rfl ?_
              refine tn_callV (M := m_X7_foundValue) (pc := 110) (ix := 185) (ci := 7) (M' := m_X7_foundRegister) (As := [.int (iI v31)]) (rest := []) dX7_foundValue_110 ok_X7_foundRegister im_X7_foundRegister se_X7_foundRegister ml7_185 np_X7_foundRegister rfl rfl ha rfl (Nat.le_of_ble_eq_true rfl) (Nat.le_of_ble_eq_true rfl) rfl (k_X7_foundRegister (d + 1) (T := T) (σ := σ) (a := a) (p1 := v31) ha (by omega) hw ) (fun r89 T91 σ90 gt92 hp => ?_)
              obtain ⟨v94, rfl, rfl, rfl, f93⟩ := hp
              clear gt92
              show Tn _ _ 113 T σ [(5, .int (iI v73)), (6, .int (iI v31)), (4, .int (iI v16)), (3, .ref x8), (0, .ref a), (1, .ref p1), (2, .int (iI p2))] [.int (iI v94)] _
              refine tn_goto (tgt := 118) dX7_foundValue_113 (by decide) ?_
              refine tn_istore (L' := [(6, .int (iI v94)), (5, .int (iI v73)), (4, .int (iI v16)), (3, .ref x8), (0, .ref a), (1, .ref p1), (2, .int (iI p2))]) dX7_foundValue_118 (by decide) rfl ?_
              refine tn_iload dX7_foundValue_120 2 rfl ?_
              refine tn_iconst dX7_foundValue_122 ?_
              refine tn_isub dX7_foundValue_123 ?_
              refine tn_any (fun z95 g96 => ?_)
              have g96r : -2147483648 ≤ z95 ∧ z95 ≤ 2147483647 := g96
              refine tn_iload dX7_foundValue_124 1 rfl ?_
              refine tn_iload dX7_foundValue_126 0 rfl ?_
              refine tn_callSN (M := m_X7_foundValue) (pc := 128) (ix := 136) (M' := m_X11_reckon) (As := [.int (iI z95), .int (iI v73), .int (iI v94)]) (rest := []) dX7_foundValue_128 ok_X11_reckon stt_X11_reckon nl7_136 np_X11_reckon rfl (Nat.le_of_ble_eq_true rfl) (Nat.le_of_ble_eq_true rfl) rfl (k_X11_reckon (d + 2) (T := T) (σ := σ) (k := z95) (x := v73) (y := v94) (by omega) (by omega) (by omega) hw ) (fun r97 T99 σ98 gt100 hp => ?_)
              obtain ⟨v102, rfl, rfl, rfl, f101⟩ := hp
              clear gt100
              show Tn _ _ 131 T σ [(6, .int (iI v94)), (5, .int (iI v73)), (4, .int (iI v16)), (3, .ref x8), (0, .ref a), (1, .ref p1), (2, .int (iI p2))] [.int (iI v102)] _
              exact tn_iret rfl dX7_foundValue_131 ⟨_, rfl, rfl, rfl, by omega⟩
        · refine tn_aload_n dX7_foundValue_55 rfl 3 rfl ?_
          refine tn_iload dX7_foundValue_56 0 rfl ?_
          refine tn_callV (M := m_X7_foundValue) (pc := 58) (ix := 185) (ci := 7) (M' := m_X7_foundRegister) (As := [.int (iI v23)]) (rest := []) dX7_foundValue_58 ok_X7_foundRegister im_X7_foundRegister se_X7_foundRegister ml7_185 np_X7_foundRegister rfl rfl ha rfl (Nat.le_of_ble_eq_true rfl) (Nat.le_of_ble_eq_true rfl) rfl (k_X7_foundRegister (d + 1) (T := T) (σ := σ) (a := a) (p1 := v23) ha (by omega) hw ) (fun r103 T105 σ104 gt106 hp => ?_)
          obtain ⟨v108, rfl, rfl, rfl, f107⟩ := hp
          clear gt106
          show Tn _ _ 61 T σ [(5, .int (iI v23)), (4, .int (iI v16)), (3, .ref x8), (0, .ref a), (1, .ref p1), (2, .int (iI p2))] [.int (iI v108)] _
          exact tn_iret rfl dX7_foundValue_61 ⟨_, rfl, rfl, rfl, by omega⟩
      · refine tn_iload dX7_foundValue_46 0 rfl ?_
        exact tn_iret rfl dX7_foundValue_48 ⟨_, rfl, rfl, rfl, by omega⟩
    · refine tn_iconst dX7_foundValue_29 ?_
      exact tn_iret rfl dX7_foundValue_30 ⟨_, rfl, rfl, rfl, by omega⟩
end
section
theorem cd_X7_climb : Cond.code yX7_climb cX7_climb 4 none ∈ pWW := pw6 (List.mem_of_getElem? (i := 108) rfl) rfl
abbrev m_X7_climb : MT := (yX7_climb, cX7_climb, 4, none)
theorem ok_X7_climb : pOk m_X7_climb := ⟨⟨cd_X7_climb, ini_7⟩, by decide +kernel, ⟨by decide +kernel, by decide +kernel⟩, Nat.le_of_ble_eq_true rfl⟩
theorem np_X7_climb : (parseMethodDescriptor yX7_climb.desc).map (fun d => d.parameters.length) = some 1 := by decide +kernel
theorem im_X7_climb : Cond.instanceMethod yX7_climb ∈ pWW := pw6 (List.mem_of_getElem? (i := 107) rfl) rfl
theorem se_X7_climb : Cond.selects RX7 yX7_climb yX7_climb ∈ pWW := pws (List.mem_map.mpr ⟨_, lw_pin 95 rfl, rfl⟩) rfl
theorem dX7_climb_0 : decode cX7_climb 0 = .ok (.aload_n 0, 1) := by decide +kernel
theorem dX7_climb_1 : decode cX7_climb 1 = .ok (.invokevirtual 152, 3) := by decide +kernel
theorem dX7_climb_4 : decode cX7_climb 4 = .ok (.astore_n 2, 1) := by decide +kernel
theorem dX7_climb_5 : decode cX7_climb 5 = .ok (.iconst 0, 1) := by decide +kernel
theorem dX7_climb_6 : decode cX7_climb 6 = .ok (.istore_n 3, 1) := by decide +kernel
theorem dX7_climb_7 : decode cX7_climb 7 = .ok (.iload_n 3, 1) := by decide +kernel
theorem dX7_climb_8 : decode cX7_climb 8 = .ok (.iload_n 1, 1) := by decide +kernel
theorem dX7_climb_9 : decode cX7_climb 9 = .ok (.if_icmp .ge 28, 3) := by decide +kernel
theorem dX7_climb_12 : decode cX7_climb 12 = .ok (.aload_n 2, 1) := by decide +kernel
theorem dX7_climb_13 : decode cX7_climb 13 = .ok (.ifnull 24, 3) := by decide +kernel
set_option maxRecDepth 20000 in
theorem l_X7_climb_7 (d : Nat) {T : CT} {σ0 : MS} {a : Nat} {c1 : Int} {post : Option Value → CT → MS → Prop} (h_a : OB T a 7) (r_c1 : -2147483648 ≤ c1 ∧ c1 ≤ 2147483647) (hw0 : WT T σ0) (hx_37 : ∀ (i3 : Int) (σ : MS) , (WT T σ) → (FrC T [71] σ0 σ) → (0 ≤ i3 ∧ i3 ≤ 2147483647) → Tn (d + 3) m_X7_climb 37 T σ [(0, .ref a), (1, .int (iI c1)), (2, .null), (3, .int (iI i3))] [] post) : ∀ (n : Nat) (i3 : Int) (σ : MS) , (WT T σ) → (FrC T [71] σ0 σ) → (0 ≤ i3 ∧ i3 ≤ 2147483647) → (2147483700 - i3).toNat = n → Tn (d + 3) m_X7_climb 7 T σ [(0, .ref a), (1, .int (iI c1)), (2, .null), (3, .int (iI i3))] [] post := by
  intro n
  induction n using Nat.strongRecOn with
  | _ n ih =>
    intro i3 σ hw hF r_i3 hm
    refine tn_iload_n dX7_climb_7 rfl 3 rfl ?_
    refine tn_iload_n dX7_climb_8 rfl 1 rfl ?_
    refine tn_icmp_ge (tgt := 37) dX7_climb_9 (by decide) ⟨by omega, by omega⟩ ⟨by omega, by omega⟩ (fun h1 => ?_) (fun h1 => ?_)
    · exact tn_sub [0, 1, 2, 3] rfl (hx_37 (i3) σ hw (FrC.rfl.trans (FrC.sub hF (by decide))) (by omega))
    · refine tn_aload_nN dX7_climb_12 rfl 2 rfl ?_
      refine tn_ifnullN (tgt := 37) dX7_climb_13 (by decide) ?_
      exact tn_sub [0, 1, 2, 3] rfl (hx_37 (i3) σ hw (FrC.rfl.trans (FrC.sub hF (by decide))) (by omega))
theorem dX7_climb_37 : decode cX7_climb 37 = .ok (.return_, 1) := by decide +kernel
theorem dX7_climb_16 : decode cX7_climb 16 = .ok (.aload_n 0, 1) := by decide +kernel
theorem dX7_climb_17 : decode cX7_climb 17 = .ok (.aload_n 2, 1) := by decide +kernel
theorem dX7_climb_18 : decode cX7_climb 18 = .ok (.getfield 126, 3) := by decide +kernel
theorem dX7_climb_21 : decode cX7_climb 21 = .ok (.aload_n 0, 1) := by decide +kernel
theorem dX7_climb_22 : decode cX7_climb 22 = .ok (.getfield 146, 3) := by decide +kernel
theorem dX7_climb_25 : decode cX7_climb 25 = .ok (.invokestatic 91, 3) := by decide +kernel
theorem dX7_climb_28 : decode cX7_climb 28 = .ok (.putfield 146, 3) := by decide +kernel
theorem dX7_climb_31 : decode cX7_climb 31 = .ok (.iinc 3 1, 3) := by decide +kernel
theorem dX7_climb_34 : decode cX7_climb 34 = .ok (.goto (-27), 3) := by decide +kernel
set_option maxRecDepth 20000 in
theorem l_X7_climb_7_1 (d : Nat) {T : CT} {σ0 : MS} {a : Nat} {c1 : Int} {rx2 : Nat} {post : Option Value → CT → MS → Prop} (h_a : OB T a 7) (r_c1 : -2147483648 ≤ c1 ∧ c1 ≤ 2147483647) (h_rx2 : OB T rx2 1) (hw0 : WT T σ0) (hx_37 : ∀ (i3 : Int) (σ : MS) , (WT T σ) → (FrC T [71] σ0 σ) → (0 ≤ i3 ∧ i3 ≤ 2147483647) → Tn (d + 3) m_X7_climb 37 T σ [(0, .ref a), (1, .int (iI c1)), (2, .ref rx2), (3, .int (iI i3))] [] post) : ∀ (n : Nat) (i3 : Int) (σ : MS) , (WT T σ) → (FrC T [71] σ0 σ) → (0 ≤ i3 ∧ i3 ≤ 2147483647) → (2147483700 - i3).toNat = n → Tn (d + 3) m_X7_climb 7 T σ [(0, .ref a), (1, .int (iI c1)), (2, .ref rx2), (3, .int (iI i3))] [] post := by
  intro n
  induction n using Nat.strongRecOn with
  | _ n ih =>
    intro i3 σ hw hF r_i3 hm
    refine tn_iload_n dX7_climb_7 rfl 3 rfl ?_
    refine tn_iload_n dX7_climb_8 rfl 1 rfl ?_
    refine tn_icmp_ge (tgt := 37) dX7_climb_9 (by decide) ⟨by omega, by omega⟩ ⟨by omega, by omega⟩ (fun h1 => ?_) (fun h1 => ?_)
    · exact tn_sub [0, 1, 2, 3] rfl (hx_37 (i3) σ hw (FrC.rfl.trans (FrC.sub hF (by decide))) (by omega))
    · refine tn_aload_n dX7_climb_12 rfl 2 rfl ?_
      refine tn_ifnull dX7_climb_13 ?_
      refine tn_aload_n dX7_climb_16 rfl 0 rfl ?_
      refine tn_aload_n dX7_climb_17 rfl 2 rfl ?_
      obtain ⟨x2, hx3, hk4, hl5⟩ : ∃ x : Nat, σ0.2.1 12 rx2 = (x : Int) ∧ AR T x 1 12 12 := wf_12 hw0 h_rx2
      have hk4i : IA T x2 := by unfold IA; omega
      refine tn_getR (ci := 1) (i := 7) (n := 12) (x := x2) dX7_climb_18 rfl lay_1 (by decide) fl7_126 h_rx2 rfl rfl (rc_F hF (Or.inl (by decide)) (by decide) (hx3)) ?_
      refine tn_aload_n dX7_climb_21 rfl 0 rfl ?_
      refine tn_getI (ci := 7) (i := 16) (n := 71) (t := σ.2.1 71 a) dX7_climb_22 rfl lay_7 (by decide) fl7_146 h_a rfl rfl (rfl) ?_
      have g6 : ((-2147483648 : Int) ≤ σ.2.1 71 a ∧ σ.2.1 71 a ≤ 2147483647) := wf_71 hw h_a
      refine tn_callSN (M := m_X7_climb) (pc := 25) (ix := 91) (M' := m_X11_at) (As := [.ref x2, .int (iI (σ.2.1 71 a))]) (rest := [.ref a]) dX7_climb_25 ok_X11_at stt_X11_at nl7_91 np_X11_at rfl (Nat.le_of_ble_eq_true rfl) (Nat.le_of_ble_eq_true rfl) rfl (k_X11_at (d + 1) (T := T) (σ := σ) (x := x2) (i := σ.2.1 71 a) hk4i (by omega) (by omega) hw ) (fun r7 T9 σ8 gt10 hp => ?_)
      obtain ⟨v14, rfl, rfl, rfl, f11, f12, f13⟩ := hp
      clear gt10
      clear f12 f13
      show Tn _ _ 28 T σ [(0, .ref a), (1, .int (iI c1)), (2, .ref rx2), (3, .int (iI i3))] [.int (iI v14), .ref a] _
      refine tn_putV (ci := 7) (i := 16) (n := 71) (r := false) (v := v14) tyX7 tyX7_ok nmX7 dX7_climb_28 rfl lay_7 (by decide) fl7_146 rfl (tyX7_ok 16 (by decide)) rfl rfl rfl h_a rfl rfl ?_
      refine tn_iinc (q0 := 3) (L' := [(3, .int (iI (i3 + 1))), (0, .ref a), (1, .int (iI c1)), (2, .ref rx2)]) dX7_climb_31 rfl (by decide) rfl ?_
      refine tn_goto (tgt := 7) dX7_climb_34 (by decide) ?_
      exact tn_sub [1, 2, 3, 0] rfl (ih _ (by omega) (i3 + 1) (sA 71 a (v14) σ) (hw.put (by decide) (by decide) (fo_71 (by omega))) ((FrC.rfl.trans (FrC.sub hF (by decide))).put (by decide) (by decide)) (by omega) rfl)
set_option maxRecDepth 20000 in
theorem k_X7_climb (d : Nat) {T : CT} {σ : MS} {a : Nat} {p1 : Int} (ha : OB T a 7) (h_p1 : -2147483648 ≤ p1 ∧ p1 ≤ 2147483647) (hw : WT T σ) : Tn (d + 3) m_X7_climb 0 T σ [(0, .ref a), (1, .int (iI p1))] [] (fun ro T2 σ2 => ro = none ∧ T = T2 ∧ WT T2 σ2 ∧ FrC T [71] σ σ2) := by
  refine tn_aload_n dX7_climb_0 rfl 0 rfl ?_
  refine tn_callV (M := m_X7_climb) (pc := 1) (ix := 152) (ci := 7) (M' := m_X7_foundCode) (As := []) (rest := []) dX7_climb_1 ok_X7_foundCode im_X7_foundCode se_X7_foundCode ml7_152 np_X7_foundCode rfl rfl ha rfl (Nat.le_of_ble_eq_true rfl) (Nat.le_of_ble_eq_true rfl) rfl (k_X7_foundCode (d) (T := T) (σ := σ) (a := a) ha hw ) (fun r1 T3 σ2 gt4 hp => ?_)
  obtain ⟨v6, rfl, rfl, rfl, rv7, f5⟩ := hp
  clear gt4
  clear f5
  rcases rv7 with rv7 | ⟨x8, rfl, hk9⟩
  · show Tn _ _ 4 T σ [(0, .ref a), (1, .int (iI p1))] (vl true v6 :: []) _
    rw [vl_null rv7]
    refine tn_astore_nN (L' := [(2, .null), (0, .ref a), (1, .int (iI p1))]) dX7_climb_4 rfl (by decide) rfl ?_
    refine tn_iconst dX7_climb_5 ?_
    refine tn_istore_n (L' := [(3, .int (iI 0)), (2, .null), (0, .ref a), (1, .int (iI p1))]) dX7_climb_6 rfl (by decide) rfl ?_
    refine tn_sub [2, 3, 1, 0] rfl (l_X7_climb_7 (d) (T := T) (σ0 := σ) (a := a) (c1 := p1) ha (by omega) hw (fun i310 σ11 w14 F15 r16 => ?_) _ (0) σ hw FrC.rfl (by omega) rfl)
    show Tn _ _ 37 T σ11 [(0, .ref a), (1, .int (iI p1)), (2, .null), (3, .int (iI i310))] [] _
    exact tn_vret rfl dX7_climb_37 ⟨rfl, rfl, w14, (FrC.rfl.trans (FrC.sub F15 (by decide)))⟩
  · show Tn _ _ 4 T σ [(0, .ref a), (1, .int (iI p1))] (vl true (x8 : Int) :: []) _
    rw [vl_ref rfl]
    have hk9o : OB T x8 1 := hk9.1
    refine tn_astore_n (L' := [(2, .ref x8), (0, .ref a), (1, .int (iI p1))]) dX7_climb_4 rfl (by decide) rfl ?_
    refine tn_iconst dX7_climb_5 ?_
    refine tn_istore_n (L' := [(3, .int (iI 0)), (2, .ref x8), (0, .ref a), (1, .int (iI p1))]) dX7_climb_6 rfl (by decide) rfl ?_
    refine tn_sub [2, 3, 1, 0] rfl (l_X7_climb_7_1 (d) (T := T) (σ0 := σ) (a := a) (c1 := p1) (rx2 := x8) ha (by omega) hk9o hw (fun i317 σ18 w21 F22 r23 => ?_) _ (0) σ hw FrC.rfl (by omega) rfl)
    show Tn _ _ 37 T σ18 [(0, .ref a), (1, .int (iI p1)), (2, .ref x8), (3, .int (iI i317))] [] _
    exact tn_vret rfl dX7_climb_37 ⟨rfl, rfl, w21, (FrC.rfl.trans (FrC.sub F22 (by decide)))⟩
end
section
theorem cd_X7_find : Cond.code yX7_find cX7_find 5 (some .boolean) ∈ pWW := pw6 (List.mem_of_getElem? (i := 104) rfl) rfl
abbrev m_X7_find : MT := (yX7_find, cX7_find, 5, (some .boolean))
theorem ok_X7_find : pOk m_X7_find := ⟨⟨cd_X7_find, ini_7⟩, by decide +kernel, ⟨by decide +kernel, by decide +kernel⟩, Nat.le_of_ble_eq_true rfl⟩
theorem np_X7_find : (parseMethodDescriptor yX7_find.desc).map (fun d => d.parameters.length) = some 1 := by decide +kernel
theorem im_X7_find : Cond.instanceMethod yX7_find ∈ pWW := pw6 (List.mem_of_getElem? (i := 102) rfl) rfl
theorem se_X7_find : Cond.selects RX7 yX7_find yX7_find ∈ pWW := pw6 (List.mem_of_getElem? (i := 103) rfl) rfl
theorem dX7_find_0 : decode cX7_find 0 = .ok (.iload_n 1, 1) := by decide +kernel
theorem dX7_find_1 : decode cX7_find 1 = .ok (.ifCond .lt 27, 3) := by decide +kernel
theorem dX7_find_28 : decode cX7_find 28 = .ok (.iconst 0, 1) := by decide +kernel
theorem dX7_find_29 : decode cX7_find 29 = .ok (.ireturn, 1) := by decide +kernel
theorem dX7_find_4 : decode cX7_find 4 = .ok (.iload_n 1, 1) := by decide +kernel
theorem dX7_find_5 : decode cX7_find 5 = .ok (.aload_n 0, 1) := by decide +kernel
theorem dX7_find_6 : decode cX7_find 6 = .ok (.getfield 38, 3) := by decide +kernel
theorem dX7_find_9 : decode cX7_find 9 = .ok (.if_icmp .ge 19, 3) := by decide +kernel
theorem dX7_find_12 : decode cX7_find 12 = .ok (.aload_n 0, 1) := by decide +kernel
theorem dX7_find_13 : decode cX7_find 13 = .ok (.getfield 34, 3) := by decide +kernel
theorem dX7_find_16 : decode cX7_find 16 = .ok (.iconst 1, 1) := by decide +kernel
theorem dX7_find_17 : decode cX7_find 17 = .ok (.if_icmp .eq 13, 3) := by decide +kernel
theorem dX7_find_30 : decode cX7_find 30 = .ok (.iload_n 1, 1) := by decide +kernel
theorem dX7_find_31 : decode cX7_find 31 = .ok (.istore_n 2, 1) := by decide +kernel
theorem dX7_find_32 : decode cX7_find 32 = .ok (.aload_n 0, 1) := by decide +kernel
theorem dX7_find_33 : decode cX7_find 33 = .ok (.getfield 65, 3) := by decide +kernel
theorem dX7_find_36 : decode cX7_find 36 = .ok (.istore_n 3, 1) := by decide +kernel
theorem dX7_find_37 : decode cX7_find 37 = .ok (.iload_n 3, 1) := by decide +kernel
theorem dX7_find_38 : decode cX7_find 38 = .ok (.ifCond .lt 62, 3) := by decide +kernel
theorem dX7_find_41 : decode cX7_find 41 = .ok (.aload_n 0, 1) := by decide +kernel
theorem dX7_find_42 : decode cX7_find 42 = .ok (.iload_n 3, 1) := by decide +kernel
theorem dX7_find_43 : decode cX7_find 43 = .ok (.invokevirtual 140, 3) := by decide +kernel
theorem dX7_find_46 : decode cX7_find 46 = .ok (.istore 4, 2) := by decide +kernel
theorem dX7_find_48 : decode cX7_find 48 = .ok (.iload_n 2, 1) := by decide +kernel
theorem dX7_find_49 : decode cX7_find 49 = .ok (.iload 4, 2) := by decide +kernel
theorem dX7_find_51 : decode cX7_find 51 = .ok (.if_icmp .ge 38, 3) := by decide +kernel
theorem dX7_find_89 : decode cX7_find 89 = .ok (.iload_n 2, 1) := by decide +kernel
theorem dX7_find_90 : decode cX7_find 90 = .ok (.iload 4, 2) := by decide +kernel
theorem dX7_find_92 : decode cX7_find 92 = .ok (.isub, 1) := by decide +kernel
theorem dX7_find_93 : decode cX7_find 93 = .ok (.istore_n 2, 1) := by decide +kernel
theorem dX7_find_94 : decode cX7_find 94 = .ok (.iinc 3 (-1), 3) := by decide +kernel
theorem dX7_find_97 : decode cX7_find 97 = .ok (.goto (-60), 3) := by decide +kernel
set_option maxRecDepth 20000 in
theorem l_X7_find_37 (d : Nat) {T : CT} {σ : MS} {a : Nat} {post : Option Value → CT → MS → Prop} (h_a : OB T a 7) (hw : WT T σ) (hx_54 : ∀ (i2 : Int) (i3 : Int) , (-2147483648 ≤ i2 ∧ i2 ≤ 2147483647) → (-1 ≤ i3 ∧ i3 ≤ 11184800) → Tn (d + 4) m_X7_find 54 T σ [(0, .ref a), (2, .int (iI i2)), (3, .int (iI i3))] [] post) (hx_100 : ∀ (i2 : Int) (i3 : Int) , (-2147483648 ≤ i2 ∧ i2 ≤ 2147483647) → (-1 ≤ i3 ∧ i3 ≤ 11184800) → Tn (d + 4) m_X7_find 100 T σ [(0, .ref a), (2, .int (iI i2)), (3, .int (iI i3))] [] post) : ∀ (n : Nat) (i2 : Int) (i3 : Int) , (-2147483648 ≤ i2 ∧ i2 ≤ 2147483647) → (-1 ≤ i3 ∧ i3 ≤ 11184800) → (i3 + 20).toNat = n → Tn (d + 4) m_X7_find 37 T σ [(0, .ref a), (2, .int (iI i2)), (3, .int (iI i3))] [] post := by
  intro n
  induction n using Nat.strongRecOn with
  | _ n ih =>
    intro i2 i3 r_i2 r_i3 hm
    refine tn_iload_n dX7_find_37 rfl 2 rfl ?_
    refine tn_if_lt (tgt := 100) dX7_find_38 (by decide) ⟨by omega, by omega⟩ (fun h1 => ?_) (fun h1 => ?_)
    · exact tn_sub [0, 1, 2] rfl (hx_100 (i2) (i3) (by omega) (by omega))
    · refine tn_aload_n dX7_find_41 rfl 0 rfl ?_
      refine tn_iload_n dX7_find_42 rfl 2 rfl ?_
      refine tn_callV (M := m_X7_find) (pc := 43) (ix := 140) (ci := 7) (M' := m_X7_chainOf) (As := [.int (iI i3)]) (rest := []) dX7_find_43 ok_X7_chainOf im_X7_chainOf se_X7_chainOf ml7_140 np_X7_chainOf rfl rfl h_a rfl (Nat.le_of_ble_eq_true rfl) (Nat.le_of_ble_eq_true rfl) rfl (k_X7_chainOf (d + 1) (T := T) (σ := σ) (a := a) (p1 := i3) h_a (by omega) hw ) (fun r2 T4 σ3 gt5 hp => ?_)
      obtain ⟨v7, rfl, rfl, rfl, f6⟩ := hp
      clear gt5
      show Tn _ _ 46 T σ [(0, .ref a), (2, .int (iI i2)), (3, .int (iI i3))] [.int (iI v7)] _
      refine tn_istore (L' := [(4, .int (iI v7)), (0, .ref a), (2, .int (iI i2)), (3, .int (iI i3))]) dX7_find_46 (by decide) rfl ?_
      refine tn_iload_n dX7_find_48 rfl 2 rfl ?_
      refine tn_iload dX7_find_49 0 rfl ?_
      refine tn_icmp_ge (tgt := 89) dX7_find_51 (by decide) ⟨by omega, by omega⟩ ⟨by omega, by omega⟩ (fun h8 => ?_) (fun h8 => ?_)
      · refine tn_iload_n dX7_find_89 rfl 2 rfl ?_
        refine tn_iload dX7_find_90 0 rfl ?_
        refine tn_isub dX7_find_92 ?_
        refine tn_any (fun z9 g10 => ?_)
        have g10r : -2147483648 ≤ z9 ∧ z9 ≤ 2147483647 := g10
        refine tn_istore_n (L' := [(2, .int (iI z9)), (4, .int (iI v7)), (0, .ref a), (3, .int (iI i3))]) dX7_find_93 rfl (by decide) rfl ?_
        refine tn_iinc (q0 := 3) (L' := [(3, .int (iI (i3 + (-1)))), (2, .int (iI z9)), (4, .int (iI v7)), (0, .ref a)]) dX7_find_94 rfl (by decide) rfl ?_
        refine tn_goto (tgt := 37) dX7_find_97 (by decide) ?_
        exact tn_sub [3, 1, 0] rfl (ih _ (by omega) (z9) (i3 + (-1)) (by omega) (by omega) rfl)
      · exact tn_sub [1, 2, 3] rfl (hx_54 (i2) (i3) (by omega) (by omega))
theorem ml7_149 : Cond.methodLink RX7 149 yX7_climb ∈ pWW := pw6 (List.mem_of_getElem? (i := 105) rfl) rfl
theorem dX7_find_54 : decode cX7_find 54 = .ok (.aload_n 0, 1) := by decide +kernel
theorem dX7_find_55 : decode cX7_find 55 = .ok (.iload_n 3, 1) := by decide +kernel
theorem dX7_find_56 : decode cX7_find 56 = .ok (.putfield 143, 3) := by decide +kernel
theorem dX7_find_59 : decode cX7_find 59 = .ok (.aload_n 0, 1) := by decide +kernel
theorem dX7_find_60 : decode cX7_find 60 = .ok (.aload_n 0, 1) := by decide +kernel
theorem dX7_find_61 : decode cX7_find 61 = .ok (.getfield 18, 3) := by decide +kernel
theorem dX7_find_64 : decode cX7_find 64 = .ok (.iload_n 3, 1) := by decide +kernel
theorem dX7_find_65 : decode cX7_find 65 = .ok (.invokestatic 91, 3) := by decide +kernel
theorem dX7_find_68 : decode cX7_find 68 = .ok (.putfield 146, 3) := by decide +kernel
theorem dX7_find_71 : decode cX7_find 71 = .ok (.aload_n 0, 1) := by decide +kernel
theorem dX7_find_72 : decode cX7_find 72 = .ok (.iload_n 2, 1) := by decide +kernel
theorem dX7_find_73 : decode cX7_find 73 = .ok (.invokevirtual 149, 3) := by decide +kernel
theorem dX7_find_76 : decode cX7_find 76 = .ok (.aload_n 0, 1) := by decide +kernel
theorem dX7_find_77 : decode cX7_find 77 = .ok (.invokevirtual 152, 3) := by decide +kernel
theorem dX7_find_80 : decode cX7_find 80 = .ok (.ifnull 7, 3) := by decide +kernel
theorem dX7_find_87 : decode cX7_find 87 = .ok (.iconst 0, 1) := by decide +kernel
theorem dX7_find_88 : decode cX7_find 88 = .ok (.ireturn, 1) := by decide +kernel
theorem dX7_find_83 : decode cX7_find 83 = .ok (.iconst 1, 1) := by decide +kernel
theorem dX7_find_84 : decode cX7_find 84 = .ok (.goto 4, 3) := by decide +kernel
theorem dX7_find_100 : decode cX7_find 100 = .ok (.iconst 0, 1) := by decide +kernel
theorem dX7_find_101 : decode cX7_find 101 = .ok (.ireturn, 1) := by decide +kernel
theorem dX7_find_20 : decode cX7_find 20 = .ok (.aload_n 0, 1) := by decide +kernel
theorem dX7_find_21 : decode cX7_find 21 = .ok (.getfield 34, 3) := by decide +kernel
theorem dX7_find_24 : decode cX7_find 24 = .ok (.iconst 3, 1) := by decide +kernel
theorem dX7_find_25 : decode cX7_find 25 = .ok (.if_icmp .eq 5, 3) := by decide +kernel
set_option maxRecDepth 20000 in
theorem k_X7_find (d : Nat) {T : CT} {σ : MS} {a : Nat} {k : Int} (ha : OB T a 7) (h_k : -2147483648 ≤ k ∧ k ≤ 2147483647) (hw : WT T σ) : Tn (d + 4) m_X7_find 0 T σ [(0, .ref a), (1, .int (iI k))] [] (fun ro T2 σ2 => ∃ v : Int, ro = some (.int (iI v)) ∧ T = T2 ∧ WT T2 σ2 ∧ FrC T [70, 71] σ σ2 ∧ (v = 0 ∨ v = 1) ∧ (v = 1 → 0 ≤ FRV T σ2 a ∧ FRV T σ2 a ≤ 5)) := by
  refine tn_iload_n dX7_find_0 rfl 1 rfl ?_
  refine tn_if_lt (tgt := 28) dX7_find_1 (by decide) ⟨by omega, by omega⟩ (fun h1 => ?_) (fun h1 => ?_)
  · refine tn_iconst dX7_find_28 ?_
    exact tn_zret (v := 0) rfl (by decide) dX7_find_29 ⟨_, rfl, rfl, hw, FrC.rfl, by omega, fun q => absurd q (by decide)⟩
  · refine tn_iload_n dX7_find_4 rfl 1 rfl ?_
    refine tn_aload_n dX7_find_5 rfl 0 rfl ?_
    refine tn_getI (ci := 7) (i := 3) (n := 58) (t := σ.2.1 58 a) dX7_find_6 rfl lay_7 (by decide) fl7_38 ha rfl rfl (rfl) ?_
    have g2 : ((-2147483648 : Int) ≤ σ.2.1 58 a ∧ σ.2.1 58 a ≤ 2147483647) := wf_58 hw ha
    refine tn_icmp_ge (tgt := 28) dX7_find_9 (by decide) ⟨by omega, by omega⟩ ⟨by omega, by omega⟩ (fun h3 => ?_) (fun h3 => ?_)
    · refine tn_iconst dX7_find_28 ?_
      exact tn_zret (v := 0) rfl (by decide) dX7_find_29 ⟨_, rfl, rfl, hw, FrC.rfl, by omega, fun q => absurd q (by decide)⟩
    · refine tn_aload_n dX7_find_12 rfl 0 rfl ?_
      refine tn_getI (ci := 7) (i := 1) (n := 56) (t := σ.2.1 56 a) dX7_find_13 rfl lay_7 (by decide) fl7_34 ha rfl rfl (rfl) ?_
      have g4 : ((-2147483648 : Int) ≤ σ.2.1 56 a ∧ σ.2.1 56 a ≤ 2147483647) := wf_56 hw ha
      refine tn_iconst dX7_find_16 ?_
      refine tn_icmp_eq (tgt := 30) dX7_find_17 (by decide) ⟨by omega, by omega⟩ ⟨by decide, by decide⟩ (fun h5 => ?_) (fun h5 => ?_)
      · refine tn_iload_n dX7_find_30 rfl 1 rfl ?_
        refine tn_istore_n (L' := [(2, .int (iI k)), (0, .ref a), (1, .int (iI k))]) dX7_find_31 rfl (by decide) rfl ?_
        refine tn_aload_n dX7_find_32 rfl 1 rfl ?_
        refine tn_getI (ci := 7) (i := 2) (n := 57) (t := σ.2.1 57 a) dX7_find_33 rfl lay_7 (by decide) fl7_65 ha rfl rfl (rfl) ?_
        have g6 : ((0 : Int) ≤ σ.2.1 57 a ∧ σ.2.1 57 a ≤ 11184800) ∧ ((T a).1 = 57 → σ.2.1 57 a ≤ 8) := wf_57 hw ha
        have g6x := g6.2
        replace g6 := g6.1
        clear g6x
        refine tn_istore_n (L' := [(3, .int (iI (σ.2.1 57 a))), (2, .int (iI k)), (0, .ref a), (1, .int (iI k))]) dX7_find_36 rfl (by decide) rfl ?_
        refine tn_sub [2, 1, 0] rfl (l_X7_find_37 (d) (T := T) (σ := σ) (a := a) ha hw (fun i27 i38 r14 r15 => ?_) (fun i216 i317 r23 r24 => ?_) _ (k) (σ.2.1 57 a) (by omega) (by omega) rfl)
        · show Tn _ _ 54 T σ [(0, .ref a), (2, .int (iI i27)), (3, .int (iI i38))] [] _
          refine tn_aload_n dX7_find_54 rfl 0 rfl ?_
          refine tn_iload_n dX7_find_55 rfl 2 rfl ?_
          refine tn_putV (ci := 7) (i := 15) (n := 70) (r := false) (v := i38) tyX7 tyX7_ok nmX7 dX7_find_56 rfl lay_7 (by decide) fl7_143 rfl (tyX7_ok 15 (by decide)) rfl rfl rfl ha rfl rfl ?_
          refine tn_aload_n dX7_find_59 rfl 0 rfl ?_
          refine tn_aload_n dX7_find_60 rfl 0 rfl ?_
          obtain ⟨x25, hx26, hl28, hk27a, hk27b⟩ := wf_61 hw ha
          have hk27i : IA T x25 := by unfold IA; omega
          have hk27n : NH T x25 := by unfold NH HT; omega
          clear hk27a hk27b
          refine tn_getR (ci := 7) (i := 6) (n := 61) (x := x25) dX7_find_61 rfl lay_7 (by decide) fl7_18 ha rfl rfl (rc_o (by decide) (hx26)) ?_
          refine tn_iload_n dX7_find_64 rfl 2 rfl ?_
          refine tn_callSN (M := m_X7_find) (pc := 65) (ix := 91) (M' := m_X11_at) (As := [.ref x25, .int (iI i38)]) (rest := [.ref a]) dX7_find_65 ok_X11_at stt_X11_at nl7_91 np_X11_at rfl (Nat.le_of_ble_eq_true rfl) (Nat.le_of_ble_eq_true rfl) rfl (k_X11_at (d + 2) (T := T) (σ := (sA 70 a (i38) σ)) (x := x25) (i := i38) hk27i (by omega) (by omega) (hw.put (by decide) (by decide) (fo_70 (by omega))) ) (fun r29 T31 σ30 gt32 hp => ?_)
          obtain ⟨v36, rfl, rfl, rfl, f33, f34, f35⟩ := hp
          clear gt32
          clear f34 f35
          show Tn _ _ 68 T (sA 70 a (i38) σ) [(0, .ref a), (2, .int (iI i27)), (3, .int (iI i38))] [.int (iI v36), .ref a] _
          refine tn_putV (ci := 7) (i := 16) (n := 71) (r := false) (v := v36) tyX7 tyX7_ok nmX7 dX7_find_68 rfl lay_7 (by decide) fl7_146 rfl (tyX7_ok 16 (by decide)) rfl rfl rfl ha rfl rfl ?_
          refine tn_aload_n dX7_find_71 rfl 0 rfl ?_
          refine tn_iload_n dX7_find_72 rfl 1 rfl ?_
          refine tn_callV (M := m_X7_find) (pc := 73) (ix := 149) (ci := 7) (M' := m_X7_climb) (As := [.int (iI i27)]) (rest := []) dX7_find_73 ok_X7_climb im_X7_climb se_X7_climb ml7_149 np_X7_climb rfl rfl ha rfl (Nat.le_of_ble_eq_true rfl) (Nat.le_of_ble_eq_true rfl) rfl (k_X7_climb (d) (T := T) (σ := (sA 71 a (v36) (sA 70 a (i38) σ))) (a := a) (p1 := i27) ha (by omega) ((hw.put (by decide) (by decide) (fo_70 (by omega))).put (by decide) (by decide) (fo_71 (by omega))) ) (fun r37 T39 σ38 gt40 hp => ?_)
          obtain ⟨rfl, rfl, w42, F43⟩ := hp
          clear gt40
          show Tn _ _ 76 T σ38 [(0, .ref a), (2, .int (iI i27)), (3, .int (iI i38))] [] _
          refine tn_aload_n dX7_find_76 rfl 0 rfl ?_
          refine tn_callV (M := m_X7_find) (pc := 77) (ix := 152) (ci := 7) (M' := m_X7_foundCode) (As := []) (rest := []) dX7_find_77 ok_X7_foundCode im_X7_foundCode se_X7_foundCode ml7_152 np_X7_foundCode rfl rfl ha rfl (Nat.le_of_ble_eq_true rfl) (Nat.le_of_ble_eq_true rfl) rfl (k_X7_foundCode (d + 1) (T := T) (σ := σ38) (a := a) ha w42 ) (fun r44 T46 σ45 gt47 hp => ?_)
          obtain ⟨v49, rfl, rfl, rfl, rv50, f48⟩ := hp
          clear gt47
          rcases rv50 with rv50 | ⟨x51, rfl, hk52⟩
          · show Tn _ _ 80 T σ38 [(0, .ref a), (2, .int (iI i27)), (3, .int (iI i38))] (vl true v49 :: []) _
            rw [vl_null rv50]
            refine tn_ifnullN (tgt := 87) dX7_find_80 (by decide) ?_
            refine tn_iconst dX7_find_87 ?_
            exact tn_zret (v := 0) rfl (by decide) dX7_find_88 ⟨_, rfl, rfl, w42, (((FrC.rfl.put (by decide) (by decide)).put (by decide) (by decide)).trans (FrC.sub F43 (by decide))), by omega, fun q => absurd q (by decide)⟩
          · show Tn _ _ 80 T σ38 [(0, .ref a), (2, .int (iI i27)), (3, .int (iI i38))] (vl true (x51 : Int) :: []) _
            rw [vl_ref rfl]
            have hk52o : OB T x51 1 := hk52.1
            refine tn_ifnull dX7_find_80 ?_
            refine tn_iconst dX7_find_83 ?_
            refine tn_goto (tgt := 88) dX7_find_84 (by decide) ?_
            exact tn_zret (v := 1) rfl (by decide) dX7_find_88 ⟨_, rfl, rfl, w42, (((FrC.rfl.put (by decide) (by decide)).put (by decide) (by decide)).trans (FrC.sub F43 (by decide))), by omega, fun _ => by have q9 := f48; unfold CAT at q9; omega⟩
        · show Tn _ _ 100 T σ [(0, .ref a), (2, .int (iI i216)), (3, .int (iI i317))] [] _
          refine tn_iconst dX7_find_100 ?_
          exact tn_zret (v := 0) rfl (by decide) dX7_find_101 ⟨_, rfl, rfl, hw, FrC.rfl, by omega, fun q => absurd q (by decide)⟩
      · refine tn_aload_n dX7_find_20 rfl 0 rfl ?_
        refine tn_getI (ci := 7) (i := 1) (n := 56) (t := σ.2.1 56 a) dX7_find_21 rfl lay_7 (by decide) fl7_34 ha rfl rfl (rfl) ?_
        refine tn_iconst dX7_find_24 ?_
        refine tn_icmp_eq (tgt := 30) dX7_find_25 (by decide) ⟨by omega, by omega⟩ ⟨by decide, by decide⟩ (fun h53 => ?_) (fun h53 => ?_)
        · refine tn_iload_n dX7_find_30 rfl 1 rfl ?_
          refine tn_istore_n (L' := [(2, .int (iI k)), (0, .ref a), (1, .int (iI k))]) dX7_find_31 rfl (by decide) rfl ?_
          refine tn_aload_n dX7_find_32 rfl 1 rfl ?_
          refine tn_getI (ci := 7) (i := 2) (n := 57) (t := σ.2.1 57 a) dX7_find_33 rfl lay_7 (by decide) fl7_65 ha rfl rfl (rfl) ?_
          have g54 : ((0 : Int) ≤ σ.2.1 57 a ∧ σ.2.1 57 a ≤ 11184800) ∧ ((T a).1 = 57 → σ.2.1 57 a ≤ 8) := wf_57 hw ha
          have g54x := g54.2
          replace g54 := g54.1
          clear g54x
          refine tn_istore_n (L' := [(3, .int (iI (σ.2.1 57 a))), (2, .int (iI k)), (0, .ref a), (1, .int (iI k))]) dX7_find_36 rfl (by decide) rfl ?_
          refine tn_sub [2, 1, 0] rfl (l_X7_find_37 (d) (T := T) (σ := σ) (a := a) ha hw (fun i255 i356 r62 r63 => ?_) (fun i264 i365 r71 r72 => ?_) _ (k) (σ.2.1 57 a) (by omega) (by omega) rfl)
          · show Tn _ _ 54 T σ [(0, .ref a), (2, .int (iI i255)), (3, .int (iI i356))] [] _
            refine tn_aload_n dX7_find_54 rfl 0 rfl ?_
            refine tn_iload_n dX7_find_55 rfl 2 rfl ?_
            refine tn_putV (ci := 7) (i := 15) (n := 70) (r := false) (v := i356) tyX7 tyX7_ok nmX7 dX7_find_56 rfl lay_7 (by decide) fl7_143 rfl (tyX7_ok 15 (by decide)) rfl rfl rfl ha rfl rfl ?_
            refine tn_aload_n dX7_find_59 rfl 0 rfl ?_
            refine tn_aload_n dX7_find_60 rfl 0 rfl ?_
            obtain ⟨x73, hx74, hl76, hk75a, hk75b⟩ := wf_61 hw ha
            have hk75i : IA T x73 := by unfold IA; omega
            have hk75n : NH T x73 := by unfold NH HT; omega
            clear hk75a hk75b
            refine tn_getR (ci := 7) (i := 6) (n := 61) (x := x73) dX7_find_61 rfl lay_7 (by decide) fl7_18 ha rfl rfl (rc_o (by decide) (hx74)) ?_
            refine tn_iload_n dX7_find_64 rfl 2 rfl ?_
            refine tn_callSN (M := m_X7_find) (pc := 65) (ix := 91) (M' := m_X11_at) (As := [.ref x73, .int (iI i356)]) (rest := [.ref a]) dX7_find_65 ok_X11_at stt_X11_at nl7_91 np_X11_at rfl (Nat.le_of_ble_eq_true rfl) (Nat.le_of_ble_eq_true rfl) rfl (k_X11_at (d + 2) (T := T) (σ := (sA 70 a (i356) σ)) (x := x73) (i := i356) hk75i (by omega) (by omega) (hw.put (by decide) (by decide) (fo_70 (by omega))) ) (fun r77 T79 σ78 gt80 hp => ?_)
            obtain ⟨v84, rfl, rfl, rfl, f81, f82, f83⟩ := hp
            clear gt80
            clear f82 f83
            show Tn _ _ 68 T (sA 70 a (i356) σ) [(0, .ref a), (2, .int (iI i255)), (3, .int (iI i356))] [.int (iI v84), .ref a] _
            refine tn_putV (ci := 7) (i := 16) (n := 71) (r := false) (v := v84) tyX7 tyX7_ok nmX7 dX7_find_68 rfl lay_7 (by decide) fl7_146 rfl (tyX7_ok 16 (by decide)) rfl rfl rfl ha rfl rfl ?_
            refine tn_aload_n dX7_find_71 rfl 0 rfl ?_
            refine tn_iload_n dX7_find_72 rfl 1 rfl ?_
            refine tn_callV (M := m_X7_find) (pc := 73) (ix := 149) (ci := 7) (M' := m_X7_climb) (As := [.int (iI i255)]) (rest := []) dX7_find_73 ok_X7_climb im_X7_climb se_X7_climb ml7_149 np_X7_climb rfl rfl ha rfl (Nat.le_of_ble_eq_true rfl) (Nat.le_of_ble_eq_true rfl) rfl (k_X7_climb (d) (T := T) (σ := (sA 71 a (v84) (sA 70 a (i356) σ))) (a := a) (p1 := i255) ha (by omega) ((hw.put (by decide) (by decide) (fo_70 (by omega))).put (by decide) (by decide) (fo_71 (by omega))) ) (fun r85 T87 σ86 gt88 hp => ?_)
            obtain ⟨rfl, rfl, w90, F91⟩ := hp
            clear gt88
            show Tn _ _ 76 T σ86 [(0, .ref a), (2, .int (iI i255)), (3, .int (iI i356))] [] _
            refine tn_aload_n dX7_find_76 rfl 0 rfl ?_
            refine tn_callV (M := m_X7_find) (pc := 77) (ix := 152) (ci := 7) (M' := m_X7_foundCode) (As := []) (rest := []) dX7_find_77 ok_X7_foundCode im_X7_foundCode se_X7_foundCode ml7_152 np_X7_foundCode rfl rfl ha rfl (Nat.le_of_ble_eq_true rfl) (Nat.le_of_ble_eq_true rfl) rfl (k_X7_foundCode (d + 1) (T := T) (σ := σ86) (a := a) ha w90 ) (fun r92 T94 σ93 gt95 hp => ?_)
            obtain ⟨v97, rfl, rfl, rfl, rv98, f96⟩ := hp
            clear gt95
            rcases rv98 with rv98 | ⟨x99, rfl, hk100⟩
            · show Tn _ _ 80 T σ86 [(0, .ref a), (2, .int (iI i255)), (3, .int (iI i356))] (vl true v97 :: []) _
              rw [vl_null rv98]
              refine tn_ifnullN (tgt := 87) dX7_find_80 (by decide) ?_
              refine tn_iconst dX7_find_87 ?_
              exact tn_zret (v := 0) rfl (by decide) dX7_find_88 ⟨_, rfl, rfl, w90, (((FrC.rfl.put (by decide) (by decide)).put (by decide) (by decide)).trans (FrC.sub F91 (by decide))), by omega, fun q => absurd q (by decide)⟩
            · show Tn _ _ 80 T σ86 [(0, .ref a), (2, .int (iI i255)), (3, .int (iI i356))] (vl true (x99 : Int) :: []) _
              rw [vl_ref rfl]
              have hk100o : OB T x99 1 := hk100.1
              refine tn_ifnull dX7_find_80 ?_
              refine tn_iconst dX7_find_83 ?_
              refine tn_goto (tgt := 88) dX7_find_84 (by decide) ?_
              exact tn_zret (v := 1) rfl (by decide) dX7_find_88 ⟨_, rfl, rfl, w90, (((FrC.rfl.put (by decide) (by decide)).put (by decide) (by decide)).trans (FrC.sub F91 (by decide))), by omega, fun _ => by have q9 := f96; unfold CAT at q9; omega⟩
          · show Tn _ _ 100 T σ [(0, .ref a), (2, .int (iI i264)), (3, .int (iI i365))] [] _
            refine tn_iconst dX7_find_100 ?_
            exact tn_zret (v := 0) rfl (by decide) dX7_find_101 ⟨_, rfl, rfl, hw, FrC.rfl, by omega, fun q => absurd q (by decide)⟩
        · refine tn_iconst dX7_find_28 ?_
          exact tn_zret (v := 0) rfl (by decide) dX7_find_29 ⟨_, rfl, rfl, hw, FrC.rfl, by omega, fun q => absurd q (by decide)⟩
end
section
theorem FA.at {x : Nat} {z : Int} {σ τ : MS} (h : z = (x : Int)) (f : FA x σ τ) : FA z.toNat σ τ := by
  rw [h]; exact f
/-- of a pair: the torn run's calls -/
def TB (σ : MS) (a : Nat) (i : Int) : Prop := ∀ t : Nat, σ.2.1 0 a = (t : Int) → σ.2.1 57 t ≤ i
theorem TB.of {σ : MS} {a x : Nat} {i : Int} (hx : σ.2.1 0 a = (x : Int)) (h : σ.2.1 57 x ≤ i) : TB σ a i := fun p q => by
  have e : p = x := by omega
  rw [e]; exact h
theorem TB.frc {T : CT} {ks : List Nat} {σ τ : MS} {a : Nat} {i : Int} (h : TB σ a i) (f : FrC T ks σ τ) (h0 : 0 ∉ ks) (h1 : 57 ∉ ks) : TB τ a i := fun p q => by
  rw [f.1 57 (by omega) h1]; exact h p (by rw [← f.1 0 (by omega) h0]; exact q)
theorem TB.up {σ : MS} {a : Nat} {i j : Int} (h : TB σ a i) (hj : i ≤ j) : TB σ a j := fun p q => Int.le_trans (h p q) hj
/-- the plain run went on: the torn one stands -/
theorem TB.plain {T : CT} {ks : List Nat} {σ τ : MS} {a t p : Nat} {i : Int} (h : TB σ a i) (ht : σ.2.1 0 a = (t : Int)) (hp : σ.2.1 1 a = (p : Int)) (hne : t ≠ p) (f : FA (σ.2.1 1 a).toNat σ τ) (g : FrC T ks σ τ) (h0 : 0 ∉ ks) : TB τ a i := by
  refine TB.of (x := t) ((congrFun (g.1 0 (by omega) h0) _).trans ht) ?_
  rw [hp] at f
  rw [f 57 t (by decide) hne]
  exact h t ht
/-- the torn run went on: the plain one stands -/
theorem PB.torn {T : CT} {ks : List Nat} {σ τ : MS} {a t p : Nat} (h : PB σ a) (hp : σ.2.1 1 a = (p : Int)) (hne : t ≠ p) (f : FA t σ τ) (g : FrC T ks σ τ) (h0 : 1 ∉ ks) : PB τ a :=
  PB.of ((congrFun (g.1 1 (by omega) h0) _).trans hp) ((h p hp).keep f (Ne.symm hne))
end
section
theorem cd_X0_samePrints : Cond.code yX0_samePrints cX0_samePrints 1 (some .boolean) ∈ pWW := pw6 (List.mem_of_getElem? (i := 214) rfl) rfl
theorem ini_0 : Cond.initialized RX0 ∈ pWW := pw1 (List.mem_of_getElem? (i := 21) rfl) rfl
abbrev m_X0_samePrints : MT := (yX0_samePrints, cX0_samePrints, 1, (some .boolean))
theorem ok_X0_samePrints : pOk m_X0_samePrints := ⟨⟨cd_X0_samePrints, ini_0⟩, by decide +kernel, ⟨by decide +kernel, by decide +kernel⟩, Nat.le_of_ble_eq_true rfl⟩
theorem np_X0_samePrints : (parseMethodDescriptor yX0_samePrints.desc).map (fun d => d.parameters.length) = some 0 := by decide +kernel
theorem im_X0_samePrints : Cond.instanceMethod yX0_samePrints ∈ pWW := pw6 (List.mem_of_getElem? (i := 213) rfl) rfl
theorem se_X0_samePrints : Cond.selects RX0 yX0_samePrints yX0_samePrints ∈ pWW := pws (List.mem_map.mpr ⟨_, lw_pin 97 rfl, rfl⟩) rfl
theorem fl0_14 : Cond.fieldLink RX0 14 (TX0 0).1 (TX0 0).2.1 (TX0 0).2.2.1 ∈ pWW := pw6 (List.mem_of_getElem? (i := 180) rfl) rfl
theorem fl0_54 : Cond.fieldLink RX0 54 (TX7 10).1 (TX7 10).2.1 (TX7 10).2.2.1 ∈ pWW := pw2 (List.mem_of_getElem? (i := 149) rfl) rfl
theorem fl0_20 : Cond.fieldLink RX0 20 (TX0 1).1 (TX0 1).2.1 (TX0 1).2.2.1 ∈ pWW := pw6 (List.mem_of_getElem? (i := 182) rfl) rfl
theorem fl0_57 : Cond.fieldLink RX0 57 (TX7 11).1 (TX7 11).2.1 (TX7 11).2.2.1 ∈ pWW := pw2 (List.mem_of_getElem? (i := 152) rfl) rfl
theorem dX0_samePrints_0 : decode cX0_samePrints 0 = .ok (.aload_n 0, 1) := by decide +kernel
theorem dX0_samePrints_1 : decode cX0_samePrints 1 = .ok (.getfield 14, 3) := by decide +kernel
theorem dX0_samePrints_4 : decode cX0_samePrints 4 = .ok (.getfield 54, 3) := by decide +kernel
theorem dX0_samePrints_7 : decode cX0_samePrints 7 = .ok (.aload_n 0, 1) := by decide +kernel
theorem dX0_samePrints_8 : decode cX0_samePrints 8 = .ok (.getfield 20, 3) := by decide +kernel
theorem dX0_samePrints_11 : decode cX0_samePrints 11 = .ok (.getfield 54, 3) := by decide +kernel
theorem dX0_samePrints_14 : decode cX0_samePrints 14 = .ok (.if_icmp .ne 24, 3) := by decide +kernel
theorem dX0_samePrints_38 : decode cX0_samePrints 38 = .ok (.iconst 0, 1) := by decide +kernel
theorem dX0_samePrints_39 : decode cX0_samePrints 39 = .ok (.ireturn, 1) := by decide +kernel
theorem dX0_samePrints_17 : decode cX0_samePrints 17 = .ok (.aload_n 0, 1) := by decide +kernel
theorem dX0_samePrints_18 : decode cX0_samePrints 18 = .ok (.getfield 14, 3) := by decide +kernel
theorem dX0_samePrints_21 : decode cX0_samePrints 21 = .ok (.getfield 57, 3) := by decide +kernel
theorem dX0_samePrints_24 : decode cX0_samePrints 24 = .ok (.aload_n 0, 1) := by decide +kernel
theorem dX0_samePrints_25 : decode cX0_samePrints 25 = .ok (.getfield 20, 3) := by decide +kernel
theorem dX0_samePrints_28 : decode cX0_samePrints 28 = .ok (.getfield 57, 3) := by decide +kernel
theorem dX0_samePrints_31 : decode cX0_samePrints 31 = .ok (.if_icmp .ne 7, 3) := by decide +kernel
theorem dX0_samePrints_34 : decode cX0_samePrints 34 = .ok (.iconst 1, 1) := by decide +kernel
theorem dX0_samePrints_35 : decode cX0_samePrints 35 = .ok (.goto 4, 3) := by decide +kernel
set_option maxRecDepth 20000 in
theorem k_X0_samePrints (d : Nat) {T : CT} {σ : MS} {a : Nat} (ha : OB T a 0) (hw : WT T σ) : Tn (d + 1) m_X0_samePrints 0 T σ [(0, .ref a)] [] (fun ro T2 σ2 => ∃ v : Int, ro = some (.int (iI v)) ∧ T = T2 ∧ σ = σ2 ∧ (v = 0 ∨ v = 1)) := by
  refine tn_aload_n dX0_samePrints_0 rfl 0 rfl ?_
  obtain ⟨x1, hx2, hk3⟩ : ∃ x : Nat, σ.2.1 0 a = (x : Int) ∧ (T x).1 = 37 := wf_0 hw ha
  have hk3o : OB T x1 7 := ⟨by omega, by rw [hk3]; rfl, by omega⟩
  refine tn_getR (ci := 0) (i := 0) (n := 0) (x := x1) dX0_samePrints_1 rfl lay_0 (by decide) fl0_14 ha rfl rfl (hx2) ?_
  refine tn_getI (ci := 7) (i := 10) (n := 65) (t := σ.2.1 65 x1) dX0_samePrints_4 rfl lay_7 (by decide) fl0_54 hk3o rfl rfl (rfl) ?_
  have g5 : ((-2147483648 : Int) ≤ σ.2.1 65 x1 ∧ σ.2.1 65 x1 ≤ 2147483647) := wf_65 hw hk3o
  refine tn_aload_n dX0_samePrints_7 rfl 0 rfl ?_
  obtain ⟨x6, hx7, hk8⟩ : ∃ x : Nat, σ.2.1 1 a = (x : Int) ∧ (T x).1 = 57 := wf_1 hw ha
  have hk8o : OB T x6 7 := ⟨by omega, by rw [hk8]; rfl, by omega⟩
  refine tn_getR (ci := 0) (i := 1) (n := 1) (x := x6) dX0_samePrints_8 rfl lay_0 (by decide) fl0_20 ha rfl rfl (hx7) ?_
  refine tn_getI (ci := 7) (i := 10) (n := 65) (t := σ.2.1 65 x6) dX0_samePrints_11 rfl lay_7 (by decide) fl0_54 hk8o rfl rfl (rfl) ?_
  have g10 : ((-2147483648 : Int) ≤ σ.2.1 65 x6 ∧ σ.2.1 65 x6 ≤ 2147483647) := wf_65 hw hk8o
  refine tn_icmp_ne (tgt := 38) dX0_samePrints_14 (by decide) ⟨by omega, by omega⟩ ⟨by omega, by omega⟩ (fun h11 => ?_) (fun h11 => ?_)
  · refine tn_iconst dX0_samePrints_38 ?_
    exact tn_zret (v := 0) rfl (by decide) dX0_samePrints_39 ⟨_, rfl, rfl, rfl, by omega⟩
  · refine tn_aload_n dX0_samePrints_17 rfl 0 rfl ?_
    refine tn_getR (ci := 0) (i := 0) (n := 0) (x := x1) dX0_samePrints_18 rfl lay_0 (by decide) fl0_14 ha rfl rfl (hx2) ?_
    refine tn_getI (ci := 7) (i := 11) (n := 66) (t := σ.2.1 66 x1) dX0_samePrints_21 rfl lay_7 (by decide) fl0_57 hk3o rfl rfl (rfl) ?_
    have g12 : ((-2147483648 : Int) ≤ σ.2.1 66 x1 ∧ σ.2.1 66 x1 ≤ 2147483647) := wf_66 hw hk3o
    refine tn_aload_n dX0_samePrints_24 rfl 0 rfl ?_
    refine tn_getR (ci := 0) (i := 1) (n := 1) (x := x6) dX0_samePrints_25 rfl lay_0 (by decide) fl0_20 ha rfl rfl (hx7) ?_
    refine tn_getI (ci := 7) (i := 11) (n := 66) (t := σ.2.1 66 x6) dX0_samePrints_28 rfl lay_7 (by decide) fl0_57 hk8o rfl rfl (rfl) ?_
    have g13 : ((-2147483648 : Int) ≤ σ.2.1 66 x6 ∧ σ.2.1 66 x6 ≤ 2147483647) := wf_66 hw hk8o
    refine tn_icmp_ne (tgt := 38) dX0_samePrints_31 (by decide) ⟨by omega, by omega⟩ ⟨by omega, by omega⟩ (fun h14 => ?_) (fun h14 => ?_)
    · refine tn_iconst dX0_samePrints_38 ?_
      exact tn_zret (v := 0) rfl (by decide) dX0_samePrints_39 ⟨_, rfl, rfl, rfl, by omega⟩
    · refine tn_iconst dX0_samePrints_34 ?_
      refine tn_goto (tgt := 39) dX0_samePrints_35 (by decide) ?_
      exact tn_zret (v := 1) rfl (by decide) dX0_samePrints_39 ⟨_, rfl, rfl, rfl, by omega⟩
end
section
theorem cd_X0_plainLine : Cond.code yX0_plainLine cX0_plainLine 2 (some .boolean) ∈ pWW := pw6 (List.mem_of_getElem? (i := 209) rfl) rfl
abbrev m_X0_plainLine : MT := (yX0_plainLine, cX0_plainLine, 2, (some .boolean))
theorem ok_X0_plainLine : pOk m_X0_plainLine := ⟨⟨cd_X0_plainLine, ini_0⟩, by decide +kernel, ⟨by decide +kernel, by decide +kernel⟩, Nat.le_of_ble_eq_true rfl⟩
theorem np_X0_plainLine : (parseMethodDescriptor yX0_plainLine.desc).map (fun d => d.parameters.length) = some 0 := by decide +kernel
theorem im_X0_plainLine : Cond.instanceMethod yX0_plainLine ∈ pWW := pw6 (List.mem_of_getElem? (i := 208) rfl) rfl
theorem se_X0_plainLine : Cond.selects RX0 yX0_plainLine yX0_plainLine ∈ pWW := pws (List.mem_map.mpr ⟨_, lw_pin 96 rfl, rfl⟩) rfl
theorem cst0_53 : Cond.constant RX0 53 (1000000) ∈ pWW := pw6 (List.mem_of_getElem? (i := 210) rfl) rfl
theorem fl0_33 : Cond.fieldLink RX0 33 (TX7 1).1 (TX7 1).2.1 (TX7 1).2.2.1 ∈ pWW := pw2 (List.mem_of_getElem? (i := 135) rfl) rfl
theorem ml0_36 : Cond.methodLink RX0 36 yX7_step ∈ pWW := pw6 (List.mem_of_getElem? (i := 205) rfl) rfl
theorem dX0_plainLine_0 : decode cX0_plainLine 0 = .ok (.iconst 0, 1) := by decide +kernel
theorem dX0_plainLine_1 : decode cX0_plainLine 1 = .ok (.istore_n 1, 1) := by decide +kernel
theorem dX0_plainLine_2 : decode cX0_plainLine 2 = .ok (.iload_n 1, 1) := by decide +kernel
theorem dX0_plainLine_3 : decode cX0_plainLine 3 = .ok (.ldc 53, 2) := by decide +kernel
theorem dX0_plainLine_5 : decode cX0_plainLine 5 = .ok (.if_icmp .ge 32, 3) := by decide +kernel
theorem dX0_plainLine_8 : decode cX0_plainLine 8 = .ok (.aload_n 0, 1) := by decide +kernel
theorem dX0_plainLine_9 : decode cX0_plainLine 9 = .ok (.getfield 20, 3) := by decide +kernel
theorem dX0_plainLine_12 : decode cX0_plainLine 12 = .ok (.getfield 33, 3) := by decide +kernel
theorem dX0_plainLine_15 : decode cX0_plainLine 15 = .ok (.iconst 1, 1) := by decide +kernel
theorem dX0_plainLine_16 : decode cX0_plainLine 16 = .ok (.if_icmp .ne 21, 3) := by decide +kernel
theorem dX0_plainLine_19 : decode cX0_plainLine 19 = .ok (.aload_n 0, 1) := by decide +kernel
theorem dX0_plainLine_20 : decode cX0_plainLine 20 = .ok (.getfield 20, 3) := by decide +kernel
theorem dX0_plainLine_23 : decode cX0_plainLine 23 = .ok (.invokevirtual 36, 3) := by decide +kernel
theorem dX0_plainLine_26 : decode cX0_plainLine 26 = .ok (.ifCond .eq 5, 3) := by decide +kernel
theorem dX0_plainLine_31 : decode cX0_plainLine 31 = .ok (.iinc 1 1, 3) := by decide +kernel
theorem dX0_plainLine_34 : decode cX0_plainLine 34 = .ok (.goto (-32), 3) := by decide +kernel
set_option maxRecDepth 20000 in
theorem l_X0_plainLine_2 (d : Nat) {T : CT} {σ0 : MS} {a : Nat} {post : Option Value → CT → MS → Prop} (h_a : OB T a 0) (hw0 : WT T σ0) (hx_29 : ∀ (i1 : Int) (σ : MS) , (WT T σ) → (FrC T [56, 57, 58, 65, 66, 67, 68, 69, 515] σ0 σ) → (0 ≤ i1 ∧ i1 ≤ 2147483647) → (PB σ a) → (FA (σ0.2.1 1 a).toNat σ0 σ) → Tn (d + 6) m_X0_plainLine 29 T σ [(0, .ref a), (1, .int (iI i1))] [] post) (hx_37 : ∀ (i1 : Int) (σ : MS) , (WT T σ) → (FrC T [56, 57, 58, 65, 66, 67, 68, 69, 515] σ0 σ) → (0 ≤ i1 ∧ i1 ≤ 2147483647) → (PB σ a) → (FA (σ0.2.1 1 a).toNat σ0 σ) → Tn (d + 6) m_X0_plainLine 37 T σ [(0, .ref a), (1, .int (iI i1))] [] post) : ∀ (n : Nat) (i1 : Int) (σ : MS) , (WT T σ) → (FrC T [56, 57, 58, 65, 66, 67, 68, 69, 515] σ0 σ) → (0 ≤ i1 ∧ i1 ≤ 2147483647) → (PB σ a) → (FA (σ0.2.1 1 a).toNat σ0 σ) → (2147483700 - i1).toNat = n → Tn (d + 6) m_X0_plainLine 2 T σ [(0, .ref a), (1, .int (iI i1))] [] post := by
  intro n
  induction n using Nat.strongRecOn with
  | _ n ih =>
    intro i1 σ hw hF r_i1 hb hfa hm
    refine tn_iload_n dX0_plainLine_2 rfl 1 rfl ?_
    refine tn_ldc (n := 1000000) dX0_plainLine_3 cst0_53 rfl ?_
    refine tn_icmp_ge (tgt := 37) dX0_plainLine_5 (by decide) ⟨by omega, by omega⟩ ⟨by decide, by decide⟩ (fun h1 => ?_) (fun h1 => ?_)
    · exact tn_sub [0, 1] rfl (hx_37 (i1) σ hw (FrC.rfl.trans (FrC.sub hF (by decide))) (by omega) hb hfa)
    · refine tn_aload_n dX0_plainLine_8 rfl 0 rfl ?_
      obtain ⟨x2, hx3, hk4⟩ : ∃ x : Nat, σ0.2.1 1 a = (x : Int) ∧ (T x).1 = 57 := wf_1 hw0 h_a
      have hk4o : OB T x2 7 := ⟨by omega, by rw [hk4]; rfl, by omega⟩
      refine tn_getR (ci := 0) (i := 1) (n := 1) (x := x2) dX0_plainLine_9 rfl lay_0 (by decide) fl0_20 h_a rfl rfl (rc_F hF (Or.inl (by decide)) (by decide) (hx3)) ?_
      refine tn_getI (ci := 7) (i := 1) (n := 56) (t := σ.2.1 56 x2) dX0_plainLine_12 rfl lay_7 (by decide) fl0_33 hk4o rfl rfl (rfl) ?_
      have g6 : ((-2147483648 : Int) ≤ σ.2.1 56 x2 ∧ σ.2.1 56 x2 ≤ 2147483647) := wf_56 hw hk4o
      refine tn_iconst dX0_plainLine_15 ?_
      refine tn_icmp_ne (tgt := 37) dX0_plainLine_16 (by decide) ⟨by omega, by omega⟩ ⟨by decide, by decide⟩ (fun h7 => ?_) (fun h7 => ?_)
      · exact tn_sub [0, 1] rfl (hx_37 (i1) σ hw (FrC.rfl.trans (FrC.sub hF (by decide))) (by omega) hb hfa)
      · refine tn_aload_n dX0_plainLine_19 rfl 0 rfl ?_
        refine tn_getR (ci := 0) (i := 1) (n := 1) (x := x2) dX0_plainLine_20 rfl lay_0 (by decide) fl0_20 h_a rfl rfl (rc_F hF (Or.inl (by decide)) (by decide) (hx3)) ?_
        refine tn_callV (M := m_X0_plainLine) (pc := 23) (ix := 36) (ci := 7) (M' := m_X7_step) (As := []) (rest := []) dX0_plainLine_23 ok_X7_step im_X7_step se_X7_step ml0_36 np_X7_step rfl rfl hk4o rfl (Nat.le_of_ble_eq_true rfl) (Nat.le_of_ble_eq_true rfl) rfl (k_X7_step_57 (d) (T := T) (σ := σ) (a := x2) hk4o hk4 hw (by have q9 := hb x2 (rc_F hF (Or.inl (by decide)) (by decide) (hx3)); unfold PIv at q9; omega)) (fun r8 T10 σ9 gt11 hp => ?_)
        obtain ⟨v15, rfl, rfl, w16, F17, f12, f13, f14⟩ := hp
        clear gt11
        show Tn _ _ 26 T σ9 [(0, .ref a), (1, .int (iI i1))] [.int (iI v15)] _
        refine tn_if_eq (tgt := 31) dX0_plainLine_26 (by decide) ⟨by omega, by omega⟩ (fun h18 => ?_) (fun h18 => ?_)
        · refine tn_iinc (q0 := 1) (L' := [(1, .int (iI (i1 + 1))), (0, .ref a)]) dX0_plainLine_31 rfl (by decide) rfl ?_
          refine tn_goto (tgt := 2) dX0_plainLine_34 (by decide) ?_
          exact tn_sub [1, 0] rfl (ih _ (by omega) (i1 + 1) σ9 w16 ((FrC.rfl.trans (FrC.sub hF (by decide))).trans (FrC.sub F17 (by decide))) (by omega) (PB.of (rc_F F17 (Or.inl (by decide)) (by decide) (rc_F hF (Or.inl (by decide)) (by decide) (hx3))) f13) (hfa.trans (FA.at hx3 f14)) rfl)
        · exact tn_sub [0, 1] rfl (hx_29 (i1) σ9 w16 ((FrC.rfl.trans (FrC.sub hF (by decide))).trans (FrC.sub F17 (by decide))) (by omega) (PB.of (rc_F F17 (Or.inl (by decide)) (by decide) (rc_F hF (Or.inl (by decide)) (by decide) (hx3))) f13) (hfa.trans (FA.at hx3 f14)))
theorem dX0_plainLine_29 : decode cX0_plainLine 29 = .ok (.iconst 1, 1) := by decide +kernel
theorem dX0_plainLine_30 : decode cX0_plainLine 30 = .ok (.ireturn, 1) := by decide +kernel
theorem dX0_plainLine_37 : decode cX0_plainLine 37 = .ok (.iconst 0, 1) := by decide +kernel
theorem dX0_plainLine_38 : decode cX0_plainLine 38 = .ok (.ireturn, 1) := by decide +kernel
set_option maxRecDepth 20000 in
theorem k_X0_plainLine (d : Nat) {T : CT} {σ : MS} {a : Nat} (ha : OB T a 0) (hw : WT T σ) (hb : PB σ a) : Tn (d + 6) m_X0_plainLine 0 T σ [(0, .ref a)] [] (fun ro T2 σ2 => ∃ v : Int, ro = some (.int (iI v)) ∧ T = T2 ∧ WT T2 σ2 ∧ FrC T [56, 57, 58, 65, 66, 67, 68, 69, 515] σ σ2 ∧ (v = 0 ∨ v = 1) ∧ (PB σ2 a) ∧ (FA (σ.2.1 1 a).toNat σ σ2)) := by
  refine tn_iconst dX0_plainLine_0 ?_
  refine tn_istore_n (L' := [(1, .int (iI 0)), (0, .ref a)]) dX0_plainLine_1 rfl (by decide) rfl ?_
  refine tn_sub [1, 0] rfl (l_X0_plainLine_2 (d) (T := T) (σ0 := σ) (a := a) ha hw (fun i11 σ2 w5 F6 r7 f8 f9 => ?_) (fun i110 σ11 w14 F15 r16 f17 f18 => ?_) _ (0) σ hw FrC.rfl (by omega) hb FA.rfl rfl)
  · show Tn _ _ 29 T σ2 [(0, .ref a), (1, .int (iI i11))] [] _
    refine tn_iconst dX0_plainLine_29 ?_
    exact tn_zret (v := 1) rfl (by decide) dX0_plainLine_30 ⟨_, rfl, rfl, w5, (FrC.rfl.trans (FrC.sub F6 (by decide))), by omega, f8, f9⟩
  · show Tn _ _ 37 T σ11 [(0, .ref a), (1, .int (iI i110))] [] _
    refine tn_iconst dX0_plainLine_37 ?_
    exact tn_zret (v := 0) rfl (by decide) dX0_plainLine_38 ⟨_, rfl, rfl, w14, (FrC.rfl.trans (FrC.sub F15 (by decide))), by omega, f17, f18⟩
end
section
theorem cd_X0_sameNames : Cond.code yX0_sameNames cX0_sameNames 9 (some .boolean) ∈ pWW := pw6 (List.mem_of_getElem? (i := 225) rfl) rfl
abbrev m_X0_sameNames : MT := (yX0_sameNames, cX0_sameNames, 9, (some .boolean))
theorem ok_X0_sameNames : pOk m_X0_sameNames := ⟨⟨cd_X0_sameNames, ini_0⟩, by decide +kernel, ⟨by decide +kernel, by decide +kernel⟩, Nat.le_of_ble_eq_true rfl⟩
theorem np_X0_sameNames : (parseMethodDescriptor yX0_sameNames.desc).map (fun d => d.parameters.length) = some 1 := by decide +kernel
theorem im_X0_sameNames : Cond.instanceMethod yX0_sameNames ∈ pWW := pw6 (List.mem_of_getElem? (i := 224) rfl) rfl
theorem se_X0_sameNames : Cond.selects RX0 yX0_sameNames yX0_sameNames ∈ pWW := pws (List.mem_map.mpr ⟨_, lw_pin 99 rfl, rfl⟩) rfl
theorem ml0_77 : Cond.methodLink RX0 77 yX7_foundCode ∈ pWW := pw6 (List.mem_of_getElem? (i := 226) rfl) rfl
theorem ml0_81 : Cond.methodLink RX0 81 yX7_foundSource ∈ pWW := pw6 (List.mem_of_getElem? (i := 227) rfl) rfl
theorem ml0_84 : Cond.methodLink RX0 84 yX7_foundSlot ∈ pWW := pw6 (List.mem_of_getElem? (i := 228) rfl) rfl
theorem ml0_88 : Cond.methodLink RX0 88 yX7_foundNames ∈ pWW := pw6 (List.mem_of_getElem? (i := 229) rfl) rfl
theorem ml0_91 : Cond.methodLink RX0 91 yX10_idIn ∈ pWW := pw6 (List.mem_of_getElem? (i := 230) rfl) rfl
theorem fl0_27 : Cond.fieldLink RX0 27 (TX0 3).1 (TX0 3).2.1 (TX0 3).2.2.1 ∈ pWW := pw6 (List.mem_of_getElem? (i := 186) rfl) rfl
theorem dX0_sameNames_0 : decode cX0_sameNames 0 = .ok (.iconst 1, 1) := by decide +kernel
theorem dX0_sameNames_1 : decode cX0_sameNames 1 = .ok (.istore_n 2, 1) := by decide +kernel
theorem dX0_sameNames_2 : decode cX0_sameNames 2 = .ok (.aload_n 0, 1) := by decide +kernel
theorem dX0_sameNames_3 : decode cX0_sameNames 3 = .ok (.getfield 14, 3) := by decide +kernel
theorem dX0_sameNames_6 : decode cX0_sameNames 6 = .ok (.invokevirtual 77, 3) := by decide +kernel
theorem dX0_sameNames_9 : decode cX0_sameNames 9 = .ok (.astore_n 3, 1) := by decide +kernel
theorem dX0_sameNames_10 : decode cX0_sameNames 10 = .ok (.aload_n 0, 1) := by decide +kernel
theorem dX0_sameNames_11 : decode cX0_sameNames 11 = .ok (.getfield 14, 3) := by decide +kernel
theorem dX0_sameNames_14 : decode cX0_sameNames 14 = .ok (.invokevirtual 81, 3) := by decide +kernel
theorem dX0_sameNames_17 : decode cX0_sameNames 17 = .ok (.istore 4, 2) := by decide +kernel
theorem dX0_sameNames_19 : decode cX0_sameNames 19 = .ok (.aload_n 0, 1) := by decide +kernel
theorem dX0_sameNames_20 : decode cX0_sameNames 20 = .ok (.getfield 14, 3) := by decide +kernel
theorem dX0_sameNames_23 : decode cX0_sameNames 23 = .ok (.aload_n 1, 1) := by decide +kernel
theorem dX0_sameNames_24 : decode cX0_sameNames 24 = .ok (.invokevirtual 84, 3) := by decide +kernel
theorem dX0_sameNames_27 : decode cX0_sameNames 27 = .ok (.istore 5, 2) := by decide +kernel
theorem dX0_sameNames_29 : decode cX0_sameNames 29 = .ok (.aload_n 0, 1) := by decide +kernel
theorem dX0_sameNames_30 : decode cX0_sameNames 30 = .ok (.getfield 14, 3) := by decide +kernel
theorem dX0_sameNames_33 : decode cX0_sameNames 33 = .ok (.invokevirtual 88, 3) := by decide +kernel
theorem dX0_sameNames_36 : decode cX0_sameNames 36 = .ok (.istore 6, 2) := by decide +kernel
theorem dX0_sameNames_38 : decode cX0_sameNames 38 = .ok (.iconst 0, 1) := by decide +kernel
theorem dX0_sameNames_39 : decode cX0_sameNames 39 = .ok (.istore 7, 2) := by decide +kernel
theorem dX0_sameNames_41 : decode cX0_sameNames 41 = .ok (.iload 7, 2) := by decide +kernel
theorem dX0_sameNames_43 : decode cX0_sameNames 43 = .ok (.iload 6, 2) := by decide +kernel
theorem dX0_sameNames_45 : decode cX0_sameNames 45 = .ok (.if_icmp .ge 91, 3) := by decide +kernel
theorem dX0_sameNames_48 : decode cX0_sameNames 48 = .ok (.aload_n 1, 1) := by decide +kernel
theorem dX0_sameNames_49 : decode cX0_sameNames 49 = .ok (.iload 4, 2) := by decide +kernel
theorem dX0_sameNames_51 : decode cX0_sameNames 51 = .ok (.iload 5, 2) := by decide +kernel
theorem dX0_sameNames_53 : decode cX0_sameNames 53 = .ok (.iload 7, 2) := by decide +kernel
theorem dX0_sameNames_55 : decode cX0_sameNames 55 = .ok (.iadd, 1) := by decide +kernel
theorem dX0_sameNames_56 : decode cX0_sameNames 56 = .ok (.invokevirtual 91, 3) := by decide +kernel
theorem dX0_sameNames_59 : decode cX0_sameNames 59 = .ok (.istore 8, 2) := by decide +kernel
theorem dX0_sameNames_61 : decode cX0_sameNames 61 = .ok (.aload_n 3, 1) := by decide +kernel
theorem dX0_sameNames_62 : decode cX0_sameNames 62 = .ok (.ifnull 15, 3) := by decide +kernel
theorem dX0_sameNames_77 : decode cX0_sameNames 77 = .ok (.aload_n 0, 1) := by decide +kernel
theorem dX0_sameNames_78 : decode cX0_sameNames 78 = .ok (.dup, 1) := by decide +kernel
theorem dX0_sameNames_79 : decode cX0_sameNames 79 = .ok (.getfield 27, 3) := by decide +kernel
theorem dX0_sameNames_82 : decode cX0_sameNames 82 = .ok (.iconst 1, 1) := by decide +kernel
theorem dX0_sameNames_83 : decode cX0_sameNames 83 = .ok (.iadd, 1) := by decide +kernel
theorem dX0_sameNames_84 : decode cX0_sameNames 84 = .ok (.putfield 27, 3) := by decide +kernel
theorem dX0_sameNames_87 : decode cX0_sameNames 87 = .ok (.goto 43, 3) := by decide +kernel
theorem dX0_sameNames_130 : decode cX0_sameNames 130 = .ok (.iinc 7 1, 3) := by decide +kernel
theorem dX0_sameNames_133 : decode cX0_sameNames 133 = .ok (.goto (-92), 3) := by decide +kernel
set_option maxRecDepth 20000 in
theorem l_X0_sameNames_41 (d : Nat) {T : CT} {σ0 : MS} {a : Nat} {rx1 : Nat} {c4 : Int} {c5 : Int} {c6 : Int} {post : Option Value → CT → MS → Prop} (h_a : OB T a 0) (h_rx1 : OB T rx1 10) (r_c4 : -2147483648 ≤ c4 ∧ c4 ≤ 2147483647) (r_c5 : -2147483648 ≤ c5 ∧ c5 ≤ 2147483647) (r_c6 : 0 ≤ c6 ∧ c6 ≤ 12) (hw0 : WT T σ0) (hx_136 : ∀ (i2 : Int) (i7 : Int) (σ : MS) , (WT T σ) → (FrC T [2, 3] σ0 σ) → (0 ≤ i2 ∧ i2 ≤ 1) → (0 ≤ i7 ∧ i7 ≤ 2147483647) → Tn (d + 5) m_X0_sameNames 136 T σ [(0, .ref a), (1, .ref rx1), (2, .int (iI i2)), (3, .null), (4, .int (iI c4)), (5, .int (iI c5)), (6, .int (iI c6)), (7, .int (iI i7))] [] post) : ∀ (n : Nat) (i2 : Int) (i7 : Int) (σ : MS) , (WT T σ) → (FrC T [2, 3] σ0 σ) → (0 ≤ i2 ∧ i2 ≤ 1) → (0 ≤ i7 ∧ i7 ≤ 2147483647) → (2147483700 - i7).toNat = n → Tn (d + 5) m_X0_sameNames 41 T σ [(0, .ref a), (1, .ref rx1), (2, .int (iI i2)), (3, .null), (4, .int (iI c4)), (5, .int (iI c5)), (6, .int (iI c6)), (7, .int (iI i7))] [] post := by
  intro n
  induction n using Nat.strongRecOn with
  | _ n ih =>
    intro i2 i7 σ hw hF r_i2 r_i7 hm
    refine tn_iload dX0_sameNames_41 7 rfl ?_
    refine tn_iload dX0_sameNames_43 6 rfl ?_
    refine tn_icmp_ge (tgt := 136) dX0_sameNames_45 (by decide) ⟨by omega, by omega⟩ ⟨by omega, by omega⟩ (fun h1 => ?_) (fun h1 => ?_)
    · exact tn_sub [0, 1, 2, 3, 4, 5, 6, 7] rfl (hx_136 (i2) (i7) σ hw (FrC.rfl.trans (FrC.sub hF (by decide))) (by omega) (by omega))
    · refine tn_aload_n dX0_sameNames_48 rfl 1 rfl ?_
      refine tn_iload dX0_sameNames_49 4 rfl ?_
      refine tn_iload dX0_sameNames_51 5 rfl ?_
      refine tn_iload dX0_sameNames_53 7 rfl ?_
      refine tn_iadd dX0_sameNames_55 ?_
      refine tn_any (fun z2 g3 => ?_)
      have g3r : -2147483648 ≤ z2 ∧ z2 ≤ 2147483647 := g3
      refine tn_callV (M := m_X0_sameNames) (pc := 56) (ix := 91) (ci := 10) (M' := m_X10_idIn) (As := [.int (iI c4), .int (iI z2)]) (rest := []) dX0_sameNames_56 ok_X10_idIn im_X10_idIn se_X10_idIn ml0_91 np_X10_idIn rfl rfl h_rx1 rfl (Nat.le_of_ble_eq_true rfl) (Nat.le_of_ble_eq_true rfl) rfl (k_X10_idIn (d + 2) (T := T) (σ := σ) (a := rx1) (p1 := c4) (p2 := z2) h_rx1 (by omega) (by omega) hw ) (fun r4 T6 σ5 gt7 hp => ?_)
      obtain ⟨v9, rfl, rfl, rfl, f8⟩ := hp
      clear gt7
      show Tn _ _ 59 T σ [(0, .ref a), (1, .ref rx1), (2, .int (iI i2)), (3, .null), (4, .int (iI c4)), (5, .int (iI c5)), (6, .int (iI c6)), (7, .int (iI i7))] [.int (iI v9)] _
      refine tn_istore (L' := [(8, .int (iI v9)), (0, .ref a), (1, .ref rx1), (2, .int (iI i2)), (3, .null), (4, .int (iI c4)), (5, .int (iI c5)), (6, .int (iI c6)), (7, .int (iI i7))]) dX0_sameNames_59 (by decide) rfl ?_
      refine tn_aload_nN dX0_sameNames_61 rfl 4 rfl ?_
      refine tn_ifnullN (tgt := 77) dX0_sameNames_62 (by decide) ?_
      refine tn_aload_n dX0_sameNames_77 rfl 1 rfl ?_
      refine tn_dup dX0_sameNames_78 rfl ?_
      refine tn_getI (ci := 0) (i := 3) (n := 3) (t := σ.2.1 3 a) dX0_sameNames_79 rfl lay_0 (by decide) fl0_27 h_a rfl rfl (rfl) ?_
      have g10 : ((-2147483648 : Int) ≤ σ.2.1 3 a ∧ σ.2.1 3 a ≤ 2147483647) := wf_3 hw h_a
      refine tn_iconst dX0_sameNames_82 ?_
      refine tn_iadd dX0_sameNames_83 ?_
      refine tn_any (fun z11 g12 => ?_)
      have g12r : -2147483648 ≤ z11 ∧ z11 ≤ 2147483647 := g12
      refine tn_putV (ci := 0) (i := 3) (n := 3) (r := false) (v := z11) tyX0 tyX0_ok nmX0 dX0_sameNames_84 rfl lay_0 (by decide) fl0_27 rfl (tyX0_ok 3 (by decide)) rfl rfl rfl h_a rfl rfl ?_
      refine tn_goto (tgt := 130) dX0_sameNames_87 (by decide) ?_
      refine tn_iinc (q0 := 8) (L' := [(7, .int (iI (i7 + 1))), (8, .int (iI v9)), (0, .ref a), (1, .ref rx1), (2, .int (iI i2)), (3, .null), (4, .int (iI c4)), (5, .int (iI c5)), (6, .int (iI c6))]) dX0_sameNames_130 rfl (by decide) rfl ?_
      refine tn_goto (tgt := 41) dX0_sameNames_133 (by decide) ?_
      exact tn_sub [2, 3, 4, 5, 6, 7, 8, 0] rfl (ih _ (by omega) (i2) (i7 + 1) (sA 3 a (z11) σ) (hw.put (by decide) (by decide) (fo_3 (by omega))) ((FrC.rfl.trans (FrC.sub hF (by decide))).put (by decide) (by decide)) (by omega) (by omega) rfl)
theorem ml0_97 : Cond.methodLink RX0 97 yX10_whereOf ∈ pWW := pw6 (List.mem_of_getElem? (i := 231) rfl) rfl
theorem fl0_23 : Cond.fieldLink RX0 23 (TX0 2).1 (TX0 2).2.1 (TX0 2).2.2.1 ∈ pWW := pw6 (List.mem_of_getElem? (i := 184) rfl) rfl
theorem ml0_101 : Cond.methodLink RX0 101 yX7_foundValue ∈ pWW := pw6 (List.mem_of_getElem? (i := 232) rfl) rfl
theorem ml0_105 : Cond.methodLink RX0 105 yX7_foundRegister ∈ pWW := pw6 (List.mem_of_getElem? (i := 233) rfl) rfl
theorem dX0_sameNames_136 : decode cX0_sameNames 136 = .ok (.iload_n 2, 1) := by decide +kernel
theorem dX0_sameNames_137 : decode cX0_sameNames 137 = .ok (.ireturn, 1) := by decide +kernel
theorem dX0_sameNames_65 : decode cX0_sameNames 65 = .ok (.aload_n 1, 1) := by decide +kernel
theorem dX0_sameNames_66 : decode cX0_sameNames 66 = .ok (.aload_n 3, 1) := by decide +kernel
theorem dX0_sameNames_67 : decode cX0_sameNames 67 = .ok (.iload 8, 2) := by decide +kernel
theorem dX0_sameNames_69 : decode cX0_sameNames 69 = .ok (.invokevirtual 97, 3) := by decide +kernel
theorem dX0_sameNames_72 : decode cX0_sameNames 72 = .ok (.bipush 10, 2) := by decide +kernel
theorem dX0_sameNames_74 : decode cX0_sameNames 74 = .ok (.if_icmp .lt 16, 3) := by decide +kernel
theorem dX0_sameNames_90 : decode cX0_sameNames 90 = .ok (.aload_n 0, 1) := by decide +kernel
theorem dX0_sameNames_91 : decode cX0_sameNames 91 = .ok (.dup, 1) := by decide +kernel
theorem dX0_sameNames_92 : decode cX0_sameNames 92 = .ok (.getfield 23, 3) := by decide +kernel
theorem dX0_sameNames_95 : decode cX0_sameNames 95 = .ok (.iconst 1, 1) := by decide +kernel
theorem dX0_sameNames_96 : decode cX0_sameNames 96 = .ok (.iadd, 1) := by decide +kernel
theorem dX0_sameNames_97 : decode cX0_sameNames 97 = .ok (.putfield 23, 3) := by decide +kernel
theorem dX0_sameNames_100 : decode cX0_sameNames 100 = .ok (.iload_n 2, 1) := by decide +kernel
theorem dX0_sameNames_101 : decode cX0_sameNames 101 = .ok (.aload_n 0, 1) := by decide +kernel
theorem dX0_sameNames_102 : decode cX0_sameNames 102 = .ok (.getfield 14, 3) := by decide +kernel
theorem dX0_sameNames_105 : decode cX0_sameNames 105 = .ok (.aload_n 1, 1) := by decide +kernel
theorem dX0_sameNames_106 : decode cX0_sameNames 106 = .ok (.iload 8, 2) := by decide +kernel
theorem dX0_sameNames_108 : decode cX0_sameNames 108 = .ok (.invokevirtual 101, 3) := by decide +kernel
theorem dX0_sameNames_111 : decode cX0_sameNames 111 = .ok (.aload_n 0, 1) := by decide +kernel
theorem dX0_sameNames_112 : decode cX0_sameNames 112 = .ok (.getfield 20, 3) := by decide +kernel
theorem dX0_sameNames_115 : decode cX0_sameNames 115 = .ok (.iload 7, 2) := by decide +kernel
theorem dX0_sameNames_117 : decode cX0_sameNames 117 = .ok (.invokevirtual 105, 3) := by decide +kernel
theorem dX0_sameNames_120 : decode cX0_sameNames 120 = .ok (.if_icmp .ne 7, 3) := by decide +kernel
theorem dX0_sameNames_127 : decode cX0_sameNames 127 = .ok (.iconst 0, 1) := by decide +kernel
theorem dX0_sameNames_128 : decode cX0_sameNames 128 = .ok (.iand, 1) := by decide +kernel
theorem dX0_sameNames_129 : decode cX0_sameNames 129 = .ok (.istore_n 2, 1) := by decide +kernel
theorem dX0_sameNames_123 : decode cX0_sameNames 123 = .ok (.iconst 1, 1) := by decide +kernel
theorem dX0_sameNames_124 : decode cX0_sameNames 124 = .ok (.goto 4, 3) := by decide +kernel
set_option maxRecDepth 20000 in
theorem l_X0_sameNames_41_1 (d : Nat) {T : CT} {σ0 : MS} {a : Nat} {rx1 : Nat} {rx3 : Nat} {c4 : Int} {c5 : Int} {c6 : Int} {post : Option Value → CT → MS → Prop} (h_a : OB T a 0) (h_rx1 : OB T rx1 10) (h_rx3 : OB T rx3 1) (r_c4 : -2147483648 ≤ c4 ∧ c4 ≤ 2147483647) (r_c5 : -2147483648 ≤ c5 ∧ c5 ≤ 2147483647) (r_c6 : 0 ≤ c6 ∧ c6 ≤ 12) (hw0 : WT T σ0) (hx_136 : ∀ (i2 : Int) (i7 : Int) (σ : MS) , (WT T σ) → (FrC T [2, 3] σ0 σ) → (0 ≤ i2 ∧ i2 ≤ 1) → (0 ≤ i7 ∧ i7 ≤ 2147483647) → Tn (d + 5) m_X0_sameNames 136 T σ [(0, .ref a), (1, .ref rx1), (2, .int (iI i2)), (3, .ref rx3), (4, .int (iI c4)), (5, .int (iI c5)), (6, .int (iI c6)), (7, .int (iI i7))] [] post) : ∀ (n : Nat) (i2 : Int) (i7 : Int) (σ : MS) , (WT T σ) → (FrC T [2, 3] σ0 σ) → (0 ≤ i2 ∧ i2 ≤ 1) → (0 ≤ i7 ∧ i7 ≤ 2147483647) → (2147483700 - i7).toNat = n → Tn (d + 5) m_X0_sameNames 41 T σ [(0, .ref a), (1, .ref rx1), (2, .int (iI i2)), (3, .ref rx3), (4, .int (iI c4)), (5, .int (iI c5)), (6, .int (iI c6)), (7, .int (iI i7))] [] post := by
  intro n
  induction n using Nat.strongRecOn with
  | _ n ih =>
    intro i2 i7 σ hw hF r_i2 r_i7 hm
    refine tn_iload dX0_sameNames_41 7 rfl ?_
    refine tn_iload dX0_sameNames_43 6 rfl ?_
    refine tn_icmp_ge (tgt := 136) dX0_sameNames_45 (by decide) ⟨by omega, by omega⟩ ⟨by omega, by omega⟩ (fun h1 => ?_) (fun h1 => ?_)
    · exact tn_sub [0, 1, 2, 3, 4, 5, 6, 7] rfl (hx_136 (i2) (i7) σ hw (FrC.rfl.trans (FrC.sub hF (by decide))) (by omega) (by omega))
    · refine tn_aload_n dX0_sameNames_48 rfl 1 rfl ?_
      refine tn_iload dX0_sameNames_49 4 rfl ?_
      refine tn_iload dX0_sameNames_51 5 rfl ?_
      refine tn_iload dX0_sameNames_53 7 rfl ?_
      refine tn_iadd dX0_sameNames_55 ?_
      refine tn_any (fun z2 g3 => ?_)
      have g3r : -2147483648 ≤ z2 ∧ z2 ≤ 2147483647 := g3
      refine tn_callV (M := m_X0_sameNames) (pc := 56) (ix := 91) (ci := 10) (M' := m_X10_idIn) (As := [.int (iI c4), .int (iI z2)]) (rest := []) dX0_sameNames_56 ok_X10_idIn im_X10_idIn se_X10_idIn ml0_91 np_X10_idIn rfl rfl h_rx1 rfl (Nat.le_of_ble_eq_true rfl) (Nat.le_of_ble_eq_true rfl) rfl (k_X10_idIn (d + 2) (T := T) (σ := σ) (a := rx1) (p1 := c4) (p2 := z2) h_rx1 (by omega) (by omega) hw ) (fun r4 T6 σ5 gt7 hp => ?_)
      obtain ⟨v9, rfl, rfl, rfl, f8⟩ := hp
      clear gt7
      show Tn _ _ 59 T σ [(0, .ref a), (1, .ref rx1), (2, .int (iI i2)), (3, .ref rx3), (4, .int (iI c4)), (5, .int (iI c5)), (6, .int (iI c6)), (7, .int (iI i7))] [.int (iI v9)] _
      refine tn_istore (L' := [(8, .int (iI v9)), (0, .ref a), (1, .ref rx1), (2, .int (iI i2)), (3, .ref rx3), (4, .int (iI c4)), (5, .int (iI c5)), (6, .int (iI c6)), (7, .int (iI i7))]) dX0_sameNames_59 (by decide) rfl ?_
      refine tn_aload_n dX0_sameNames_61 rfl 4 rfl ?_
      refine tn_ifnull dX0_sameNames_62 ?_
      refine tn_aload_n dX0_sameNames_65 rfl 2 rfl ?_
      refine tn_aload_n dX0_sameNames_66 rfl 4 rfl ?_
      refine tn_iload dX0_sameNames_67 0 rfl ?_
      refine tn_callV (M := m_X0_sameNames) (pc := 69) (ix := 97) (ci := 10) (M' := m_X10_whereOf) (As := [.ref rx3, .int (iI v9)]) (rest := []) dX0_sameNames_69 ok_X10_whereOf im_X10_whereOf se_X10_whereOf ml0_97 np_X10_whereOf rfl rfl h_rx1 rfl (Nat.le_of_ble_eq_true rfl) (Nat.le_of_ble_eq_true rfl) rfl (k_X10_whereOf (d + 2) (T := T) (σ := σ) (a := rx1) (c := rx3) (i := v9) h_rx1 h_rx3 (by omega) hw ) (fun r10 T12 σ11 gt13 hp => ?_)
      obtain ⟨v15, rfl, rfl, rfl, f14⟩ := hp
      clear gt13
      show Tn _ _ 72 T σ [(8, .int (iI v9)), (0, .ref a), (1, .ref rx1), (2, .int (iI i2)), (3, .ref rx3), (4, .int (iI c4)), (5, .int (iI c5)), (6, .int (iI c6)), (7, .int (iI i7))] [.int (iI v15)] _
      refine tn_bipush dX0_sameNames_72 (by decide) ?_
      refine tn_icmp_lt (tgt := 90) dX0_sameNames_74 (by decide) ⟨by omega, by omega⟩ ⟨by decide, by decide⟩ (fun h16 => ?_) (fun h16 => ?_)
      · refine tn_aload_n dX0_sameNames_90 rfl 1 rfl ?_
        refine tn_dup dX0_sameNames_91 rfl ?_
        refine tn_getI (ci := 0) (i := 2) (n := 2) (t := σ.2.1 2 a) dX0_sameNames_92 rfl lay_0 (by decide) fl0_23 h_a rfl rfl (rfl) ?_
        have g17 : ((-2147483648 : Int) ≤ σ.2.1 2 a ∧ σ.2.1 2 a ≤ 2147483647) := wf_2 hw h_a
        refine tn_iconst dX0_sameNames_95 ?_
        refine tn_iadd dX0_sameNames_96 ?_
        refine tn_any (fun z18 g19 => ?_)
        have g19r : -2147483648 ≤ z18 ∧ z18 ≤ 2147483647 := g19
        refine tn_putV (ci := 0) (i := 2) (n := 2) (r := false) (v := z18) tyX0 tyX0_ok nmX0 dX0_sameNames_97 rfl lay_0 (by decide) fl0_23 rfl (tyX0_ok 2 (by decide)) rfl rfl rfl h_a rfl rfl ?_
        refine tn_iload_n dX0_sameNames_100 rfl 3 rfl ?_
        refine tn_aload_n dX0_sameNames_101 rfl 1 rfl ?_
        obtain ⟨x20, hx21, hk22⟩ : ∃ x : Nat, σ0.2.1 0 a = (x : Int) ∧ (T x).1 = 37 := wf_0 hw0 h_a
        have hk22o : OB T x20 7 := ⟨by omega, by rw [hk22]; rfl, by omega⟩
        refine tn_getR (ci := 0) (i := 0) (n := 0) (x := x20) dX0_sameNames_102 rfl lay_0 (by decide) fl0_14 h_a rfl rfl (rc_o (by decide) (rc_F hF (Or.inl (by decide)) (by decide) (hx21))) ?_
        refine tn_aload_n dX0_sameNames_105 rfl 2 rfl ?_
        refine tn_iload dX0_sameNames_106 0 rfl ?_
        refine tn_callV (M := m_X0_sameNames) (pc := 108) (ix := 101) (ci := 7) (M' := m_X7_foundValue) (As := [.ref rx1, .int (iI v9)]) (rest := [.int (iI i2)]) dX0_sameNames_108 ok_X7_foundValue im_X7_foundValue se_X7_foundValue ml0_101 np_X7_foundValue rfl rfl hk22o rfl (Nat.le_of_ble_eq_true rfl) (Nat.le_of_ble_eq_true rfl) rfl (k_X7_foundValue (d) (T := T) (σ := (sA 2 a (z18) σ)) (a := x20) (p1 := rx1) (p2 := v9) hk22o h_rx1 (by omega) (hw.put (by decide) (by decide) (fo_2 (by omega))) ) (fun r24 T26 σ25 gt27 hp => ?_)
        obtain ⟨v29, rfl, rfl, rfl, f28⟩ := hp
        clear gt27
        show Tn _ _ 111 T (sA 2 a (z18) σ) [(8, .int (iI v9)), (0, .ref a), (1, .ref rx1), (2, .int (iI i2)), (3, .ref rx3), (4, .int (iI c4)), (5, .int (iI c5)), (6, .int (iI c6)), (7, .int (iI i7))] [.int (iI v29), .int (iI i2)] _
        refine tn_aload_n dX0_sameNames_111 rfl 1 rfl ?_
        obtain ⟨x30, hx31, hk32⟩ : ∃ x : Nat, σ0.2.1 1 a = (x : Int) ∧ (T x).1 = 57 := wf_1 hw0 h_a
        have hk32o : OB T x30 7 := ⟨by omega, by rw [hk32]; rfl, by omega⟩
        refine tn_getR (ci := 0) (i := 1) (n := 1) (x := x30) dX0_sameNames_112 rfl lay_0 (by decide) fl0_20 h_a rfl rfl (rc_o (by decide) (rc_F hF (Or.inl (by decide)) (by decide) (hx31))) ?_
        refine tn_iload dX0_sameNames_115 8 rfl ?_
        refine tn_callV (M := m_X0_sameNames) (pc := 117) (ix := 105) (ci := 7) (M' := m_X7_foundRegister) (As := [.int (iI i7)]) (rest := [.int (iI v29), .int (iI i2)]) dX0_sameNames_117 ok_X7_foundRegister im_X7_foundRegister se_X7_foundRegister ml0_105 np_X7_foundRegister rfl rfl hk32o rfl (Nat.le_of_ble_eq_true rfl) (Nat.le_of_ble_eq_true rfl) rfl (k_X7_foundRegister (d + 2) (T := T) (σ := (sA 2 a (z18) σ)) (a := x30) (p1 := i7) hk32o (by omega) (hw.put (by decide) (by decide) (fo_2 (by omega))) ) (fun r34 T36 σ35 gt37 hp => ?_)
        obtain ⟨v39, rfl, rfl, rfl, f38⟩ := hp
        clear gt37
        show Tn _ _ 120 T (sA 2 a (z18) σ) [(8, .int (iI v9)), (0, .ref a), (1, .ref rx1), (2, .int (iI i2)), (3, .ref rx3), (4, .int (iI c4)), (5, .int (iI c5)), (6, .int (iI c6)), (7, .int (iI i7))] [.int (iI v39), .int (iI v29), .int (iI i2)] _
        refine tn_icmp_ne (tgt := 127) dX0_sameNames_120 (by decide) ⟨by omega, by omega⟩ ⟨by omega, by omega⟩ (fun h40 => ?_) (fun h40 => ?_)
        · refine tn_iconst dX0_sameNames_127 ?_
          refine tn_iand dX0_sameNames_128 ?_
          refine tn_band (x := i2) (y := 0) (by omega) (by omega) (fun z43 g44 => ?_)
          refine tn_istore_n (L' := [(2, .int (iI z43)), (8, .int (iI v9)), (0, .ref a), (1, .ref rx1), (3, .ref rx3), (4, .int (iI c4)), (5, .int (iI c5)), (6, .int (iI c6)), (7, .int (iI i7))]) dX0_sameNames_129 rfl (by decide) rfl ?_
          refine tn_iinc (q0 := 8) (L' := [(7, .int (iI (i7 + 1))), (2, .int (iI z43)), (8, .int (iI v9)), (0, .ref a), (1, .ref rx1), (3, .ref rx3), (4, .int (iI c4)), (5, .int (iI c5)), (6, .int (iI c6))]) dX0_sameNames_130 rfl (by decide) rfl ?_
          refine tn_goto (tgt := 41) dX0_sameNames_133 (by decide) ?_
          exact tn_sub [3, 4, 1, 5, 6, 7, 8, 0] rfl (ih _ (by omega) (z43) (i7 + 1) (sA 2 a (z18) σ) (hw.put (by decide) (by decide) (fo_2 (by omega))) ((FrC.rfl.trans (FrC.sub hF (by decide))).put (by decide) (by decide)) (by omega) (by omega) rfl)
        · refine tn_iconst dX0_sameNames_123 ?_
          refine tn_goto (tgt := 128) dX0_sameNames_124 (by decide) ?_
          refine tn_iand dX0_sameNames_128 ?_
          refine tn_band (x := i2) (y := 1) (by omega) (by omega) (fun z47 g48 => ?_)
          refine tn_istore_n (L' := [(2, .int (iI z47)), (8, .int (iI v9)), (0, .ref a), (1, .ref rx1), (3, .ref rx3), (4, .int (iI c4)), (5, .int (iI c5)), (6, .int (iI c6)), (7, .int (iI i7))]) dX0_sameNames_129 rfl (by decide) rfl ?_
          refine tn_iinc (q0 := 8) (L' := [(7, .int (iI (i7 + 1))), (2, .int (iI z47)), (8, .int (iI v9)), (0, .ref a), (1, .ref rx1), (3, .ref rx3), (4, .int (iI c4)), (5, .int (iI c5)), (6, .int (iI c6))]) dX0_sameNames_130 rfl (by decide) rfl ?_
          refine tn_goto (tgt := 41) dX0_sameNames_133 (by decide) ?_
          exact tn_sub [3, 4, 1, 5, 6, 7, 8, 0] rfl (ih _ (by omega) (z47) (i7 + 1) (sA 2 a (z18) σ) (hw.put (by decide) (by decide) (fo_2 (by omega))) ((FrC.rfl.trans (FrC.sub hF (by decide))).put (by decide) (by decide)) (by omega) (by omega) rfl)
      · refine tn_aload_n dX0_sameNames_77 rfl 1 rfl ?_
        refine tn_dup dX0_sameNames_78 rfl ?_
        refine tn_getI (ci := 0) (i := 3) (n := 3) (t := σ.2.1 3 a) dX0_sameNames_79 rfl lay_0 (by decide) fl0_27 h_a rfl rfl (rfl) ?_
        have g49 : ((-2147483648 : Int) ≤ σ.2.1 3 a ∧ σ.2.1 3 a ≤ 2147483647) := wf_3 hw h_a
        refine tn_iconst dX0_sameNames_82 ?_
        refine tn_iadd dX0_sameNames_83 ?_
        refine tn_any (fun z50 g51 => ?_)
        have g51r : -2147483648 ≤ z50 ∧ z50 ≤ 2147483647 := g51
        refine tn_putV (ci := 0) (i := 3) (n := 3) (r := false) (v := z50) tyX0 tyX0_ok nmX0 dX0_sameNames_84 rfl lay_0 (by decide) fl0_27 rfl (tyX0_ok 3 (by decide)) rfl rfl rfl h_a rfl rfl ?_
        refine tn_goto (tgt := 130) dX0_sameNames_87 (by decide) ?_
        refine tn_iinc (q0 := 8) (L' := [(7, .int (iI (i7 + 1))), (8, .int (iI v9)), (0, .ref a), (1, .ref rx1), (2, .int (iI i2)), (3, .ref rx3), (4, .int (iI c4)), (5, .int (iI c5)), (6, .int (iI c6))]) dX0_sameNames_130 rfl (by decide) rfl ?_
        refine tn_goto (tgt := 41) dX0_sameNames_133 (by decide) ?_
        exact tn_sub [2, 3, 4, 5, 6, 7, 8, 0] rfl (ih _ (by omega) (i2) (i7 + 1) (sA 3 a (z50) σ) (hw.put (by decide) (by decide) (fo_3 (by omega))) ((FrC.rfl.trans (FrC.sub hF (by decide))).put (by decide) (by decide)) (by omega) (by omega) rfl)
set_option maxRecDepth 20000 in
theorem k_X0_sameNames (d : Nat) {T : CT} {σ : MS} {a : Nat} {p1 : Nat} (ha : OB T a 0) (h_p1 : OB T p1 10) (hw : WT T σ) : Tn (d + 5) m_X0_sameNames 0 T σ [(0, .ref a), (1, .ref p1)] [] (fun ro T2 σ2 => ∃ v : Int, ro = some (.int (iI v)) ∧ T = T2 ∧ WT T2 σ2 ∧ FrC T [2, 3] σ σ2 ∧ (v = 0 ∨ v = 1)) := by
  refine tn_iconst dX0_sameNames_0 ?_
  refine tn_istore_n (L' := [(2, .int (iI 1)), (0, .ref a), (1, .ref p1)]) dX0_sameNames_1 rfl (by decide) rfl ?_
  refine tn_aload_n dX0_sameNames_2 rfl 1 rfl ?_
  obtain ⟨x1, hx2, hk3⟩ : ∃ x : Nat, σ.2.1 0 a = (x : Int) ∧ (T x).1 = 37 := wf_0 hw ha
  have hk3o : OB T x1 7 := ⟨by omega, by rw [hk3]; rfl, by omega⟩
  refine tn_getR (ci := 0) (i := 0) (n := 0) (x := x1) dX0_sameNames_3 rfl lay_0 (by decide) fl0_14 ha rfl rfl (hx2) ?_
  refine tn_callV (M := m_X0_sameNames) (pc := 6) (ix := 77) (ci := 7) (M' := m_X7_foundCode) (As := []) (rest := []) dX0_sameNames_6 ok_X7_foundCode im_X7_foundCode se_X7_foundCode ml0_77 np_X7_foundCode rfl rfl hk3o rfl (Nat.le_of_ble_eq_true rfl) (Nat.le_of_ble_eq_true rfl) rfl (k_X7_foundCode (d + 2) (T := T) (σ := σ) (a := x1) hk3o hw ) (fun r5 T7 σ6 gt8 hp => ?_)
  obtain ⟨v10, rfl, rfl, rfl, rv11, f9⟩ := hp
  clear gt8
  clear f9
  rcases rv11 with rv11 | ⟨x12, rfl, hk13⟩
  · show Tn _ _ 9 T σ [(2, .int (iI 1)), (0, .ref a), (1, .ref p1)] (vl true v10 :: []) _
    rw [vl_null rv11]
    refine tn_astore_nN (L' := [(3, .null), (2, .int (iI 1)), (0, .ref a), (1, .ref p1)]) dX0_sameNames_9 rfl (by decide) rfl ?_
    refine tn_aload_n dX0_sameNames_10 rfl 2 rfl ?_
    refine tn_getR (ci := 0) (i := 0) (n := 0) (x := x1) dX0_sameNames_11 rfl lay_0 (by decide) fl0_14 ha rfl rfl (hx2) ?_
    refine tn_callV (M := m_X0_sameNames) (pc := 14) (ix := 81) (ci := 7) (M' := m_X7_foundSource) (As := []) (rest := []) dX0_sameNames_14 ok_X7_foundSource im_X7_foundSource se_X7_foundSource ml0_81 np_X7_foundSource rfl rfl hk3o rfl (Nat.le_of_ble_eq_true rfl) (Nat.le_of_ble_eq_true rfl) rfl (k_X7_foundSource (d + 2) (T := T) (σ := σ) (a := x1) hk3o hw ) (fun r14 T16 σ15 gt17 hp => ?_)
    obtain ⟨v19, rfl, rfl, rfl, f18⟩ := hp
    clear gt17
    show Tn _ _ 17 T σ [(3, .null), (2, .int (iI 1)), (0, .ref a), (1, .ref p1)] [.int (iI v19)] _
    refine tn_istore (L' := [(4, .int (iI v19)), (3, .null), (2, .int (iI 1)), (0, .ref a), (1, .ref p1)]) dX0_sameNames_17 (by decide) rfl ?_
    refine tn_aload_n dX0_sameNames_19 rfl 3 rfl ?_
    refine tn_getR (ci := 0) (i := 0) (n := 0) (x := x1) dX0_sameNames_20 rfl lay_0 (by decide) fl0_14 ha rfl rfl (hx2) ?_
    refine tn_aload_n dX0_sameNames_23 rfl 4 rfl ?_
    refine tn_callV (M := m_X0_sameNames) (pc := 24) (ix := 84) (ci := 7) (M' := m_X7_foundSlot) (As := [.ref p1]) (rest := []) dX0_sameNames_24 ok_X7_foundSlot im_X7_foundSlot se_X7_foundSlot ml0_84 np_X7_foundSlot rfl rfl hk3o rfl (Nat.le_of_ble_eq_true rfl) (Nat.le_of_ble_eq_true rfl) rfl (k_X7_foundSlot (d + 1) (T := T) (σ := σ) (a := x1) (p1 := p1) hk3o h_p1 hw ) (fun r20 T22 σ21 gt23 hp => ?_)
    obtain ⟨v25, rfl, rfl, rfl, f24⟩ := hp
    clear gt23
    show Tn _ _ 27 T σ [(4, .int (iI v19)), (3, .null), (2, .int (iI 1)), (0, .ref a), (1, .ref p1)] [.int (iI v25)] _
    refine tn_istore (L' := [(5, .int (iI v25)), (4, .int (iI v19)), (3, .null), (2, .int (iI 1)), (0, .ref a), (1, .ref p1)]) dX0_sameNames_27 (by decide) rfl ?_
    refine tn_aload_n dX0_sameNames_29 rfl 4 rfl ?_
    refine tn_getR (ci := 0) (i := 0) (n := 0) (x := x1) dX0_sameNames_30 rfl lay_0 (by decide) fl0_14 ha rfl rfl (hx2) ?_
    refine tn_callV (M := m_X0_sameNames) (pc := 33) (ix := 88) (ci := 7) (M' := m_X7_foundNames) (As := []) (rest := []) dX0_sameNames_33 ok_X7_foundNames im_X7_foundNames se_X7_foundNames ml0_88 np_X7_foundNames rfl rfl hk3o rfl (Nat.le_of_ble_eq_true rfl) (Nat.le_of_ble_eq_true rfl) rfl (k_X7_foundNames (d + 1) (T := T) (σ := σ) (a := x1) hk3o hw ) (fun r26 T28 σ27 gt29 hp => ?_)
    obtain ⟨v31, rfl, rfl, rfl, f30⟩ := hp
    clear gt29
    show Tn _ _ 36 T σ [(5, .int (iI v25)), (4, .int (iI v19)), (3, .null), (2, .int (iI 1)), (0, .ref a), (1, .ref p1)] [.int (iI v31)] _
    refine tn_istore (L' := [(6, .int (iI v31)), (5, .int (iI v25)), (4, .int (iI v19)), (3, .null), (2, .int (iI 1)), (0, .ref a), (1, .ref p1)]) dX0_sameNames_36 (by decide) rfl ?_
    refine tn_iconst dX0_sameNames_38 ?_
    refine tn_istore (L' := [(7, .int (iI 0)), (6, .int (iI v31)), (5, .int (iI v25)), (4, .int (iI v19)), (3, .null), (2, .int (iI 1)), (0, .ref a), (1, .ref p1)]) dX0_sameNames_39 (by decide) rfl ?_
    refine tn_sub [6, 7, 5, 4, 3, 2, 1, 0] rfl (l_X0_sameNames_41 (d) (T := T) (σ0 := σ) (a := a) (rx1 := p1) (c4 := v19) (c5 := v25) (c6 := v31) ha h_p1 (by omega) (by omega) (by omega) hw (fun i232 i733 σ34 w37 F38 r39 r40 => ?_) _ (1) (0) σ hw FrC.rfl (by omega) (by omega) rfl)
    show Tn _ _ 136 T σ34 [(0, .ref a), (1, .ref p1), (2, .int (iI i232)), (3, .null), (4, .int (iI v19)), (5, .int (iI v25)), (6, .int (iI v31)), (7, .int (iI i733))] [] _
    refine tn_iload_n dX0_sameNames_136 rfl 2 rfl ?_
    exact tn_zret (v := i232) rfl (by omega) dX0_sameNames_137 ⟨_, rfl, rfl, w37, (FrC.rfl.trans (FrC.sub F38 (by decide))), by omega⟩
  · show Tn _ _ 9 T σ [(2, .int (iI 1)), (0, .ref a), (1, .ref p1)] (vl true (x12 : Int) :: []) _
    rw [vl_ref rfl]
    have hk13o : OB T x12 1 := hk13.1
    refine tn_astore_n (L' := [(3, .ref x12), (2, .int (iI 1)), (0, .ref a), (1, .ref p1)]) dX0_sameNames_9 rfl (by decide) rfl ?_
    refine tn_aload_n dX0_sameNames_10 rfl 2 rfl ?_
    refine tn_getR (ci := 0) (i := 0) (n := 0) (x := x1) dX0_sameNames_11 rfl lay_0 (by decide) fl0_14 ha rfl rfl (hx2) ?_
    refine tn_callV (M := m_X0_sameNames) (pc := 14) (ix := 81) (ci := 7) (M' := m_X7_foundSource) (As := []) (rest := []) dX0_sameNames_14 ok_X7_foundSource im_X7_foundSource se_X7_foundSource ml0_81 np_X7_foundSource rfl rfl hk3o rfl (Nat.le_of_ble_eq_true rfl) (Nat.le_of_ble_eq_true rfl) rfl (k_X7_foundSource (d + 2) (T := T) (σ := σ) (a := x1) hk3o hw ) (fun r41 T43 σ42 gt44 hp => ?_)
    obtain ⟨v46, rfl, rfl, rfl, f45⟩ := hp
    clear gt44
    show Tn _ _ 17 T σ [(3, .ref x12), (2, .int (iI 1)), (0, .ref a), (1, .ref p1)] [.int (iI v46)] _
    refine tn_istore (L' := [(4, .int (iI v46)), (3, .ref x12), (2, .int (iI 1)), (0, .ref a), (1, .ref p1)]) dX0_sameNames_17 (by decide) rfl ?_
    refine tn_aload_n dX0_sameNames_19 rfl 3 rfl ?_
    refine tn_getR (ci := 0) (i := 0) (n := 0) (x := x1) dX0_sameNames_20 rfl lay_0 (by decide) fl0_14 ha rfl rfl (hx2) ?_
    refine tn_aload_n dX0_sameNames_23 rfl 4 rfl ?_
    refine tn_callV (M := m_X0_sameNames) (pc := 24) (ix := 84) (ci := 7) (M' := m_X7_foundSlot) (As := [.ref p1]) (rest := []) dX0_sameNames_24 ok_X7_foundSlot im_X7_foundSlot se_X7_foundSlot ml0_84 np_X7_foundSlot rfl rfl hk3o rfl (Nat.le_of_ble_eq_true rfl) (Nat.le_of_ble_eq_true rfl) rfl (k_X7_foundSlot (d + 1) (T := T) (σ := σ) (a := x1) (p1 := p1) hk3o h_p1 hw ) (fun r47 T49 σ48 gt50 hp => ?_)
    obtain ⟨v52, rfl, rfl, rfl, f51⟩ := hp
    clear gt50
    show Tn _ _ 27 T σ [(4, .int (iI v46)), (3, .ref x12), (2, .int (iI 1)), (0, .ref a), (1, .ref p1)] [.int (iI v52)] _
    refine tn_istore (L' := [(5, .int (iI v52)), (4, .int (iI v46)), (3, .ref x12), (2, .int (iI 1)), (0, .ref a), (1, .ref p1)]) dX0_sameNames_27 (by decide) rfl ?_
    refine tn_aload_n dX0_sameNames_29 rfl 4 rfl ?_
    refine tn_getR (ci := 0) (i := 0) (n := 0) (x := x1) dX0_sameNames_30 rfl lay_0 (by decide) fl0_14 ha rfl rfl (hx2) ?_
    refine tn_callV (M := m_X0_sameNames) (pc := 33) (ix := 88) (ci := 7) (M' := m_X7_foundNames) (As := []) (rest := []) dX0_sameNames_33 ok_X7_foundNames im_X7_foundNames se_X7_foundNames ml0_88 np_X7_foundNames rfl rfl hk3o rfl (Nat.le_of_ble_eq_true rfl) (Nat.le_of_ble_eq_true rfl) rfl (k_X7_foundNames (d + 1) (T := T) (σ := σ) (a := x1) hk3o hw ) (fun r53 T55 σ54 gt56 hp => ?_)
    obtain ⟨v58, rfl, rfl, rfl, f57⟩ := hp
    clear gt56
    show Tn _ _ 36 T σ [(5, .int (iI v52)), (4, .int (iI v46)), (3, .ref x12), (2, .int (iI 1)), (0, .ref a), (1, .ref p1)] [.int (iI v58)] _
    refine tn_istore (L' := [(6, .int (iI v58)), (5, .int (iI v52)), (4, .int (iI v46)), (3, .ref x12), (2, .int (iI 1)), (0, .ref a), (1, .ref p1)]) dX0_sameNames_36 (by decide) rfl ?_
    refine tn_iconst dX0_sameNames_38 ?_
    refine tn_istore (L' := [(7, .int (iI 0)), (6, .int (iI v58)), (5, .int (iI v52)), (4, .int (iI v46)), (3, .ref x12), (2, .int (iI 1)), (0, .ref a), (1, .ref p1)]) dX0_sameNames_39 (by decide) rfl ?_
    refine tn_sub [6, 7, 5, 4, 3, 2, 1, 0] rfl (l_X0_sameNames_41_1 (d) (T := T) (σ0 := σ) (a := a) (rx1 := p1) (rx3 := x12) (c4 := v46) (c5 := v52) (c6 := v58) ha h_p1 hk13o (by omega) (by omega) (by omega) hw (fun i259 i760 σ61 w64 F65 r66 r67 => ?_) _ (1) (0) σ hw FrC.rfl (by omega) (by omega) rfl)
    show Tn _ _ 136 T σ61 [(0, .ref a), (1, .ref p1), (2, .int (iI i259)), (3, .ref x12), (4, .int (iI v46)), (5, .int (iI v52)), (6, .int (iI v58)), (7, .int (iI i760))] [] _
    refine tn_iload_n dX0_sameNames_136 rfl 2 rfl ?_
    exact tn_zret (v := i259) rfl (by omega) dX0_sameNames_137 ⟨_, rfl, rfl, w64, (FrC.rfl.trans (FrC.sub F65 (by decide))), by omega⟩
end
section
theorem cd_X0_sameStack : Cond.code yX0_sameStack cX0_sameStack 4 (some .boolean) ∈ pWW := pw6 (List.mem_of_getElem? (i := 218) rfl) rfl
abbrev m_X0_sameStack : MT := (yX0_sameStack, cX0_sameStack, 4, (some .boolean))
theorem ok_X0_sameStack : pOk m_X0_sameStack := ⟨⟨cd_X0_sameStack, ini_0⟩, by decide +kernel, ⟨by decide +kernel, by decide +kernel⟩, Nat.le_of_ble_eq_true rfl⟩
theorem np_X0_sameStack : (parseMethodDescriptor yX0_sameStack.desc).map (fun d => d.parameters.length) = some 1 := by decide +kernel
theorem im_X0_sameStack : Cond.instanceMethod yX0_sameStack ∈ pWW := pw6 (List.mem_of_getElem? (i := 217) rfl) rfl
theorem se_X0_sameStack : Cond.selects RX0 yX0_sameStack yX0_sameStack ∈ pWW := pws (List.mem_map.mpr ⟨_, lw_pin 98 rfl, rfl⟩) rfl
theorem fl0_60 : Cond.fieldLink RX0 60 (TX7 3).1 (TX7 3).2.1 (TX7 3).2.2.1 ∈ pWW := pw2 (List.mem_of_getElem? (i := 139) rfl) rfl
theorem ml0_63 : Cond.methodLink RX0 63 yX7_find ∈ pWW := pw6 (List.mem_of_getElem? (i := 219) rfl) rfl
theorem ml0_74 : Cond.methodLink RX0 74 yX0_sameNames ∈ pWW := pw6 (List.mem_of_getElem? (i := 222) rfl) rfl
theorem ml0_67 : Cond.methodLink RX0 67 yX7_foundRoutine ∈ pWW := pw6 (List.mem_of_getElem? (i := 220) rfl) rfl
theorem ml0_71 : Cond.methodLink RX0 71 yX7_foundLine ∈ pWW := pw6 (List.mem_of_getElem? (i := 221) rfl) rfl
theorem dX0_sameStack_0 : decode cX0_sameStack 0 = .ok (.aload_n 0, 1) := by decide +kernel
theorem dX0_sameStack_1 : decode cX0_sameStack 1 = .ok (.getfield 14, 3) := by decide +kernel
theorem dX0_sameStack_4 : decode cX0_sameStack 4 = .ok (.getfield 60, 3) := by decide +kernel
theorem dX0_sameStack_7 : decode cX0_sameStack 7 = .ok (.aload_n 0, 1) := by decide +kernel
theorem dX0_sameStack_8 : decode cX0_sameStack 8 = .ok (.getfield 20, 3) := by decide +kernel
theorem dX0_sameStack_11 : decode cX0_sameStack 11 = .ok (.getfield 60, 3) := by decide +kernel
theorem dX0_sameStack_14 : decode cX0_sameStack 14 = .ok (.if_icmp .ne 7, 3) := by decide +kernel
theorem dX0_sameStack_21 : decode cX0_sameStack 21 = .ok (.iconst 0, 1) := by decide +kernel
theorem dX0_sameStack_22 : decode cX0_sameStack 22 = .ok (.istore_n 2, 1) := by decide +kernel
theorem dX0_sameStack_23 : decode cX0_sameStack 23 = .ok (.iconst 0, 1) := by decide +kernel
theorem dX0_sameStack_24 : decode cX0_sameStack 24 = .ok (.istore_n 3, 1) := by decide +kernel
theorem dX0_sameStack_25 : decode cX0_sameStack 25 = .ok (.iload_n 3, 1) := by decide +kernel
theorem dX0_sameStack_26 : decode cX0_sameStack 26 = .ok (.aload_n 0, 1) := by decide +kernel
theorem dX0_sameStack_27 : decode cX0_sameStack 27 = .ok (.getfield 14, 3) := by decide +kernel
theorem dX0_sameStack_30 : decode cX0_sameStack 30 = .ok (.getfield 60, 3) := by decide +kernel
theorem dX0_sameStack_33 : decode cX0_sameStack 33 = .ok (.if_icmp .ge 81, 3) := by decide +kernel
theorem dX0_sameStack_36 : decode cX0_sameStack 36 = .ok (.iload_n 2, 1) := by decide +kernel
theorem dX0_sameStack_37 : decode cX0_sameStack 37 = .ok (.aload_n 0, 1) := by decide +kernel
theorem dX0_sameStack_38 : decode cX0_sameStack 38 = .ok (.getfield 14, 3) := by decide +kernel
theorem dX0_sameStack_41 : decode cX0_sameStack 41 = .ok (.iload_n 3, 1) := by decide +kernel
theorem dX0_sameStack_42 : decode cX0_sameStack 42 = .ok (.invokevirtual 63, 3) := by decide +kernel
theorem dX0_sameStack_45 : decode cX0_sameStack 45 = .ok (.ifCond .eq 52, 3) := by decide +kernel
theorem dX0_sameStack_97 : decode cX0_sameStack 97 = .ok (.iconst 0, 1) := by decide +kernel
theorem dX0_sameStack_98 : decode cX0_sameStack 98 = .ok (.iand, 1) := by decide +kernel
theorem dX0_sameStack_99 : decode cX0_sameStack 99 = .ok (.istore_n 2, 1) := by decide +kernel
theorem dX0_sameStack_100 : decode cX0_sameStack 100 = .ok (.iload_n 2, 1) := by decide +kernel
theorem dX0_sameStack_101 : decode cX0_sameStack 101 = .ok (.aload_n 0, 1) := by decide +kernel
theorem dX0_sameStack_102 : decode cX0_sameStack 102 = .ok (.aload_n 1, 1) := by decide +kernel
theorem dX0_sameStack_103 : decode cX0_sameStack 103 = .ok (.invokevirtual 74, 3) := by decide +kernel
theorem dX0_sameStack_106 : decode cX0_sameStack 106 = .ok (.iand, 1) := by decide +kernel
theorem dX0_sameStack_107 : decode cX0_sameStack 107 = .ok (.istore_n 2, 1) := by decide +kernel
theorem dX0_sameStack_108 : decode cX0_sameStack 108 = .ok (.iinc 3 1, 3) := by decide +kernel
theorem dX0_sameStack_111 : decode cX0_sameStack 111 = .ok (.goto (-86), 3) := by decide +kernel
theorem dX0_sameStack_48 : decode cX0_sameStack 48 = .ok (.aload_n 0, 1) := by decide +kernel
theorem dX0_sameStack_49 : decode cX0_sameStack 49 = .ok (.getfield 20, 3) := by decide +kernel
theorem dX0_sameStack_52 : decode cX0_sameStack 52 = .ok (.iload_n 3, 1) := by decide +kernel
theorem dX0_sameStack_53 : decode cX0_sameStack 53 = .ok (.invokevirtual 63, 3) := by decide +kernel
theorem dX0_sameStack_56 : decode cX0_sameStack 56 = .ok (.ifCond .eq 41, 3) := by decide +kernel
theorem dX0_sameStack_59 : decode cX0_sameStack 59 = .ok (.aload_n 0, 1) := by decide +kernel
theorem dX0_sameStack_60 : decode cX0_sameStack 60 = .ok (.getfield 14, 3) := by decide +kernel
theorem dX0_sameStack_63 : decode cX0_sameStack 63 = .ok (.invokevirtual 67, 3) := by decide +kernel
theorem dX0_sameStack_66 : decode cX0_sameStack 66 = .ok (.aload_n 0, 1) := by decide +kernel
theorem dX0_sameStack_67 : decode cX0_sameStack 67 = .ok (.getfield 20, 3) := by decide +kernel
theorem dX0_sameStack_70 : decode cX0_sameStack 70 = .ok (.invokevirtual 67, 3) := by decide +kernel
theorem dX0_sameStack_73 : decode cX0_sameStack 73 = .ok (.if_icmp .ne 24, 3) := by decide +kernel
theorem dX0_sameStack_76 : decode cX0_sameStack 76 = .ok (.aload_n 0, 1) := by decide +kernel
theorem dX0_sameStack_77 : decode cX0_sameStack 77 = .ok (.getfield 14, 3) := by decide +kernel
theorem dX0_sameStack_80 : decode cX0_sameStack 80 = .ok (.invokevirtual 71, 3) := by decide +kernel
theorem dX0_sameStack_83 : decode cX0_sameStack 83 = .ok (.aload_n 0, 1) := by decide +kernel
theorem dX0_sameStack_84 : decode cX0_sameStack 84 = .ok (.getfield 20, 3) := by decide +kernel
theorem dX0_sameStack_87 : decode cX0_sameStack 87 = .ok (.invokevirtual 71, 3) := by decide +kernel
theorem dX0_sameStack_90 : decode cX0_sameStack 90 = .ok (.if_icmp .ne 7, 3) := by decide +kernel
theorem dX0_sameStack_93 : decode cX0_sameStack 93 = .ok (.iconst 1, 1) := by decide +kernel
theorem dX0_sameStack_94 : decode cX0_sameStack 94 = .ok (.goto 4, 3) := by decide +kernel
set_option maxRecDepth 20000 in
theorem l_X0_sameStack_25 (d : Nat) {T : CT} {σ0 : MS} {a : Nat} {rx1 : Nat} {post : Option Value → CT → MS → Prop} (h_a : OB T a 0) (h_rx1 : OB T rx1 10) (hw0 : WT T σ0) (hx_114 : ∀ (i2 : Int) (i3 : Int) (σ : MS) , (WT T σ) → (FrC T [2, 3, 70, 71] σ0 σ) → (0 ≤ i2 ∧ i2 ≤ 1) → (0 ≤ i3 ∧ i3 ≤ 2147483647) → Tn (d + 6) m_X0_sameStack 114 T σ [(0, .ref a), (1, .ref rx1), (2, .int (iI i2)), (3, .int (iI i3))] [] post) : ∀ (n : Nat) (i2 : Int) (i3 : Int) (σ : MS) , (WT T σ) → (FrC T [2, 3, 70, 71] σ0 σ) → (0 ≤ i2 ∧ i2 ≤ 1) → (0 ≤ i3 ∧ i3 ≤ 2147483647) → (2147483700 - i3).toNat = n → Tn (d + 6) m_X0_sameStack 25 T σ [(0, .ref a), (1, .ref rx1), (2, .int (iI i2)), (3, .int (iI i3))] [] post := by
  intro n
  induction n using Nat.strongRecOn with
  | _ n ih =>
    intro i2 i3 σ hw hF r_i2 r_i3 hm
    refine tn_iload_n dX0_sameStack_25 rfl 3 rfl ?_
    refine tn_aload_n dX0_sameStack_26 rfl 0 rfl ?_
    obtain ⟨x1, hx2, hk3⟩ : ∃ x : Nat, σ0.2.1 0 a = (x : Int) ∧ (T x).1 = 37 := wf_0 hw0 h_a
    have hk3o : OB T x1 7 := ⟨by omega, by rw [hk3]; rfl, by omega⟩
    refine tn_getR (ci := 0) (i := 0) (n := 0) (x := x1) dX0_sameStack_27 rfl lay_0 (by decide) fl0_14 h_a rfl rfl (rc_F hF (Or.inl (by decide)) (by decide) (hx2)) ?_
    refine tn_getI (ci := 7) (i := 3) (n := 58) (t := σ0.2.1 58 x1) dX0_sameStack_30 rfl lay_7 (by decide) fl0_60 hk3o rfl rfl (rc_F hF (Or.inl (by decide)) (by decide) (rfl)) ?_
    have g5 : ((-2147483648 : Int) ≤ σ0.2.1 58 x1 ∧ σ0.2.1 58 x1 ≤ 2147483647) := wf_58 hw0 hk3o
    refine tn_icmp_ge (tgt := 114) dX0_sameStack_33 (by decide) ⟨by omega, by omega⟩ ⟨by omega, by omega⟩ (fun h6 => ?_) (fun h6 => ?_)
    · exact tn_sub [0, 1, 2, 3] rfl (hx_114 (i2) (i3) σ hw (FrC.rfl.trans (FrC.sub hF (by decide))) (by omega) (by omega))
    · refine tn_iload_n dX0_sameStack_36 rfl 2 rfl ?_
      refine tn_aload_n dX0_sameStack_37 rfl 0 rfl ?_
      refine tn_getR (ci := 0) (i := 0) (n := 0) (x := x1) dX0_sameStack_38 rfl lay_0 (by decide) fl0_14 h_a rfl rfl (rc_F hF (Or.inl (by decide)) (by decide) (hx2)) ?_
      refine tn_iload_n dX0_sameStack_41 rfl 3 rfl ?_
      refine tn_callV (M := m_X0_sameStack) (pc := 42) (ix := 63) (ci := 7) (M' := m_X7_find) (As := [.int (iI i3)]) (rest := [.int (iI i2)]) dX0_sameStack_42 ok_X7_find im_X7_find se_X7_find ml0_63 np_X7_find rfl rfl hk3o rfl (Nat.le_of_ble_eq_true rfl) (Nat.le_of_ble_eq_true rfl) rfl (k_X7_find (d + 1) (T := T) (σ := σ) (a := x1) (k := i3) hk3o (by omega) hw ) (fun r7 T9 σ8 gt10 hp => ?_)
      obtain ⟨v13, rfl, rfl, w14, F15, f11, f12⟩ := hp
      clear gt10
      clear f12
      show Tn _ _ 45 T σ8 [(0, .ref a), (1, .ref rx1), (2, .int (iI i2)), (3, .int (iI i3))] [.int (iI v13), .int (iI i2)] _
      refine tn_if_eq (tgt := 97) dX0_sameStack_45 (by decide) ⟨by omega, by omega⟩ (fun h16 => ?_) (fun h16 => ?_)
      · refine tn_iconst dX0_sameStack_97 ?_
        refine tn_iand dX0_sameStack_98 ?_
        refine tn_band (x := i2) (y := 0) (by omega) (by omega) (fun z19 g20 => ?_)
        refine tn_istore_n (L' := [(2, .int (iI z19)), (0, .ref a), (1, .ref rx1), (3, .int (iI i3))]) dX0_sameStack_99 rfl (by decide) rfl ?_
        refine tn_iload_n dX0_sameStack_100 rfl 0 rfl ?_
        refine tn_aload_n dX0_sameStack_101 rfl 1 rfl ?_
        refine tn_aload_n dX0_sameStack_102 rfl 2 rfl ?_
        refine tn_callV (M := m_X0_sameStack) (pc := 103) (ix := 74) (ci := 0) (M' := m_X0_sameNames) (As := [.ref rx1]) (rest := [.int (iI z19)]) dX0_sameStack_103 ok_X0_sameNames im_X0_sameNames se_X0_sameNames ml0_74 np_X0_sameNames rfl rfl h_a rfl (Nat.le_of_ble_eq_true rfl) (Nat.le_of_ble_eq_true rfl) rfl (k_X0_sameNames (d) (T := T) (σ := σ8) (a := a) (p1 := rx1) h_a h_rx1 w14 ) (fun r21 T23 σ22 gt24 hp => ?_)
        obtain ⟨v26, rfl, rfl, w27, F28, f25⟩ := hp
        clear gt24
        show Tn _ _ 106 T σ22 [(2, .int (iI z19)), (0, .ref a), (1, .ref rx1), (3, .int (iI i3))] [.int (iI v26), .int (iI z19)] _
        refine tn_iand dX0_sameStack_106 ?_
        refine tn_band (x := z19) (y := v26) (by omega) (by omega) (fun z31 g32 => ?_)
        refine tn_istore_n (L' := [(2, .int (iI z31)), (0, .ref a), (1, .ref rx1), (3, .int (iI i3))]) dX0_sameStack_107 rfl (by decide) rfl ?_
        refine tn_iinc (q0 := 3) (L' := [(3, .int (iI (i3 + 1))), (2, .int (iI z31)), (0, .ref a), (1, .ref rx1)]) dX0_sameStack_108 rfl (by decide) rfl ?_
        refine tn_goto (tgt := 25) dX0_sameStack_111 (by decide) ?_
        exact tn_sub [2, 3, 1, 0] rfl (ih _ (by omega) (z31) (i3 + 1) σ22 w27 (((FrC.rfl.trans (FrC.sub hF (by decide))).trans (FrC.sub F15 (by decide))).trans (FrC.sub F28 (by decide))) (by omega) (by omega) rfl)
      · refine tn_aload_n dX0_sameStack_48 rfl 0 rfl ?_
        obtain ⟨x33, hx34, hk35⟩ : ∃ x : Nat, σ0.2.1 1 a = (x : Int) ∧ (T x).1 = 57 := wf_1 hw0 h_a
        have hk35o : OB T x33 7 := ⟨by omega, by rw [hk35]; rfl, by omega⟩
        refine tn_getR (ci := 0) (i := 1) (n := 1) (x := x33) dX0_sameStack_49 rfl lay_0 (by decide) fl0_20 h_a rfl rfl (rc_F F15 (Or.inl (by decide)) (by decide) (rc_F hF (Or.inl (by decide)) (by decide) (hx34))) ?_
        refine tn_iload_n dX0_sameStack_52 rfl 3 rfl ?_
        refine tn_callV (M := m_X0_sameStack) (pc := 53) (ix := 63) (ci := 7) (M' := m_X7_find) (As := [.int (iI i3)]) (rest := [.int (iI i2)]) dX0_sameStack_53 ok_X7_find im_X7_find se_X7_find ml0_63 np_X7_find rfl rfl hk35o rfl (Nat.le_of_ble_eq_true rfl) (Nat.le_of_ble_eq_true rfl) rfl (k_X7_find (d + 1) (T := T) (σ := σ8) (a := x33) (k := i3) hk35o (by omega) w14 ) (fun r37 T39 σ38 gt40 hp => ?_)
        obtain ⟨v43, rfl, rfl, w44, F45, f41, f42⟩ := hp
        clear gt40
        clear f42
        show Tn _ _ 56 T σ38 [(0, .ref a), (1, .ref rx1), (2, .int (iI i2)), (3, .int (iI i3))] [.int (iI v43), .int (iI i2)] _
        refine tn_if_eq (tgt := 97) dX0_sameStack_56 (by decide) ⟨by omega, by omega⟩ (fun h46 => ?_) (fun h46 => ?_)
        · refine tn_iconst dX0_sameStack_97 ?_
          refine tn_iand dX0_sameStack_98 ?_
          refine tn_band (x := i2) (y := 0) (by omega) (by omega) (fun z49 g50 => ?_)
          refine tn_istore_n (L' := [(2, .int (iI z49)), (0, .ref a), (1, .ref rx1), (3, .int (iI i3))]) dX0_sameStack_99 rfl (by decide) rfl ?_
          refine tn_iload_n dX0_sameStack_100 rfl 0 rfl ?_
          refine tn_aload_n dX0_sameStack_101 rfl 1 rfl ?_
          refine tn_aload_n dX0_sameStack_102 rfl 2 rfl ?_
          refine tn_callV (M := m_X0_sameStack) (pc := 103) (ix := 74) (ci := 0) (M' := m_X0_sameNames) (As := [.ref rx1]) (rest := [.int (iI z49)]) dX0_sameStack_103 ok_X0_sameNames im_X0_sameNames se_X0_sameNames ml0_74 np_X0_sameNames rfl rfl h_a rfl (Nat.le_of_ble_eq_true rfl) (Nat.le_of_ble_eq_true rfl) rfl (k_X0_sameNames (d) (T := T) (σ := σ38) (a := a) (p1 := rx1) h_a h_rx1 w44 ) (fun r51 T53 σ52 gt54 hp => ?_)
          obtain ⟨v56, rfl, rfl, w57, F58, f55⟩ := hp
          clear gt54
          show Tn _ _ 106 T σ52 [(2, .int (iI z49)), (0, .ref a), (1, .ref rx1), (3, .int (iI i3))] [.int (iI v56), .int (iI z49)] _
          refine tn_iand dX0_sameStack_106 ?_
          refine tn_band (x := z49) (y := v56) (by omega) (by omega) (fun z61 g62 => ?_)
          refine tn_istore_n (L' := [(2, .int (iI z61)), (0, .ref a), (1, .ref rx1), (3, .int (iI i3))]) dX0_sameStack_107 rfl (by decide) rfl ?_
          refine tn_iinc (q0 := 3) (L' := [(3, .int (iI (i3 + 1))), (2, .int (iI z61)), (0, .ref a), (1, .ref rx1)]) dX0_sameStack_108 rfl (by decide) rfl ?_
          refine tn_goto (tgt := 25) dX0_sameStack_111 (by decide) ?_
          exact tn_sub [2, 3, 1, 0] rfl (ih _ (by omega) (z61) (i3 + 1) σ52 w57 ((((FrC.rfl.trans (FrC.sub hF (by decide))).trans (FrC.sub F15 (by decide))).trans (FrC.sub F45 (by decide))).trans (FrC.sub F58 (by decide))) (by omega) (by omega) rfl)
        · refine tn_aload_n dX0_sameStack_59 rfl 0 rfl ?_
          refine tn_getR (ci := 0) (i := 0) (n := 0) (x := x1) dX0_sameStack_60 rfl lay_0 (by decide) fl0_14 h_a rfl rfl (rc_F F45 (Or.inl (by decide)) (by decide) (rc_F F15 (Or.inl (by decide)) (by decide) (rc_F hF (Or.inl (by decide)) (by decide) (hx2)))) ?_
          refine tn_callV (M := m_X0_sameStack) (pc := 63) (ix := 67) (ci := 7) (M' := m_X7_foundRoutine) (As := []) (rest := [.int (iI i2)]) dX0_sameStack_63 ok_X7_foundRoutine im_X7_foundRoutine se_X7_foundRoutine ml0_67 np_X7_foundRoutine rfl rfl hk3o rfl (Nat.le_of_ble_eq_true rfl) (Nat.le_of_ble_eq_true rfl) rfl (k_X7_foundRoutine (d + 2) (T := T) (σ := σ38) (a := x1) hk3o w44 ) (fun r63 T65 σ64 gt66 hp => ?_)
          obtain ⟨v68, rfl, rfl, rfl, f67⟩ := hp
          clear gt66
          show Tn _ _ 66 T σ38 [(0, .ref a), (1, .ref rx1), (2, .int (iI i2)), (3, .int (iI i3))] [.int (iI v68), .int (iI i2)] _
          refine tn_aload_n dX0_sameStack_66 rfl 0 rfl ?_
          refine tn_getR (ci := 0) (i := 1) (n := 1) (x := x33) dX0_sameStack_67 rfl lay_0 (by decide) fl0_20 h_a rfl rfl (rc_F F45 (Or.inl (by decide)) (by decide) (rc_F F15 (Or.inl (by decide)) (by decide) (rc_F hF (Or.inl (by decide)) (by decide) (hx34)))) ?_
          refine tn_callV (M := m_X0_sameStack) (pc := 70) (ix := 67) (ci := 7) (M' := m_X7_foundRoutine) (As := []) (rest := [.int (iI v68), .int (iI i2)]) dX0_sameStack_70 ok_X7_foundRoutine im_X7_foundRoutine se_X7_foundRoutine ml0_67 np_X7_foundRoutine rfl rfl hk35o rfl (Nat.le_of_ble_eq_true rfl) (Nat.le_of_ble_eq_true rfl) rfl (k_X7_foundRoutine (d + 2) (T := T) (σ := σ38) (a := x33) hk35o w44 ) (fun r69 T71 σ70 gt72 hp => ?_)
          obtain ⟨v74, rfl, rfl, rfl, f73⟩ := hp
          clear gt72
          show Tn _ _ 73 T σ38 [(0, .ref a), (1, .ref rx1), (2, .int (iI i2)), (3, .int (iI i3))] [.int (iI v74), .int (iI v68), .int (iI i2)] _
          refine tn_icmp_ne (tgt := 97) dX0_sameStack_73 (by decide) ⟨by omega, by omega⟩ ⟨by omega, by omega⟩ (fun h75 => ?_) (fun h75 => ?_)
          · refine tn_iconst dX0_sameStack_97 ?_
            refine tn_iand dX0_sameStack_98 ?_
            refine tn_band (x := i2) (y := 0) (by omega) (by omega) (fun z78 g79 => ?_)
            refine tn_istore_n (L' := [(2, .int (iI z78)), (0, .ref a), (1, .ref rx1), (3, .int (iI i3))]) dX0_sameStack_99 rfl (by decide) rfl ?_
            refine tn_iload_n dX0_sameStack_100 rfl 0 rfl ?_
            refine tn_aload_n dX0_sameStack_101 rfl 1 rfl ?_
            refine tn_aload_n dX0_sameStack_102 rfl 2 rfl ?_
            refine tn_callV (M := m_X0_sameStack) (pc := 103) (ix := 74) (ci := 0) (M' := m_X0_sameNames) (As := [.ref rx1]) (rest := [.int (iI z78)]) dX0_sameStack_103 ok_X0_sameNames im_X0_sameNames se_X0_sameNames ml0_74 np_X0_sameNames rfl rfl h_a rfl (Nat.le_of_ble_eq_true rfl) (Nat.le_of_ble_eq_true rfl) rfl (k_X0_sameNames (d) (T := T) (σ := σ38) (a := a) (p1 := rx1) h_a h_rx1 w44 ) (fun r80 T82 σ81 gt83 hp => ?_)
            obtain ⟨v85, rfl, rfl, w86, F87, f84⟩ := hp
            clear gt83
            show Tn _ _ 106 T σ81 [(2, .int (iI z78)), (0, .ref a), (1, .ref rx1), (3, .int (iI i3))] [.int (iI v85), .int (iI z78)] _
            refine tn_iand dX0_sameStack_106 ?_
            refine tn_band (x := z78) (y := v85) (by omega) (by omega) (fun z90 g91 => ?_)
            refine tn_istore_n (L' := [(2, .int (iI z90)), (0, .ref a), (1, .ref rx1), (3, .int (iI i3))]) dX0_sameStack_107 rfl (by decide) rfl ?_
            refine tn_iinc (q0 := 3) (L' := [(3, .int (iI (i3 + 1))), (2, .int (iI z90)), (0, .ref a), (1, .ref rx1)]) dX0_sameStack_108 rfl (by decide) rfl ?_
            refine tn_goto (tgt := 25) dX0_sameStack_111 (by decide) ?_
            exact tn_sub [2, 3, 1, 0] rfl (ih _ (by omega) (z90) (i3 + 1) σ81 w86 ((((FrC.rfl.trans (FrC.sub hF (by decide))).trans (FrC.sub F15 (by decide))).trans (FrC.sub F45 (by decide))).trans (FrC.sub F87 (by decide))) (by omega) (by omega) rfl)
          · refine tn_aload_n dX0_sameStack_76 rfl 0 rfl ?_
            refine tn_getR (ci := 0) (i := 0) (n := 0) (x := x1) dX0_sameStack_77 rfl lay_0 (by decide) fl0_14 h_a rfl rfl (rc_F F45 (Or.inl (by decide)) (by decide) (rc_F F15 (Or.inl (by decide)) (by decide) (rc_F hF (Or.inl (by decide)) (by decide) (hx2)))) ?_
            refine tn_callV (M := m_X0_sameStack) (pc := 80) (ix := 71) (ci := 7) (M' := m_X7_foundLine) (As := []) (rest := [.int (iI i2)]) dX0_sameStack_80 ok_X7_foundLine im_X7_foundLine se_X7_foundLine ml0_71 np_X7_foundLine rfl rfl hk3o rfl (Nat.le_of_ble_eq_true rfl) (Nat.le_of_ble_eq_true rfl) rfl (k_X7_foundLine (d + 3) (T := T) (σ := σ38) (a := x1) hk3o w44 ) (fun r92 T94 σ93 gt95 hp => ?_)
            obtain ⟨v97, rfl, rfl, rfl, f96⟩ := hp
            clear gt95
            show Tn _ _ 83 T σ38 [(0, .ref a), (1, .ref rx1), (2, .int (iI i2)), (3, .int (iI i3))] [.int (iI v97), .int (iI i2)] _
            refine tn_aload_n dX0_sameStack_83 rfl 0 rfl ?_
            refine tn_getR (ci := 0) (i := 1) (n := 1) (x := x33) dX0_sameStack_84 rfl lay_0 (by decide) fl0_20 h_a rfl rfl (rc_F F45 (Or.inl (by decide)) (by decide) (rc_F F15 (Or.inl (by decide)) (by decide) (rc_F hF (Or.inl (by decide)) (by decide) (hx34)))) ?_
            refine tn_callV (M := m_X0_sameStack) (pc := 87) (ix := 71) (ci := 7) (M' := m_X7_foundLine) (As := []) (rest := [.int (iI v97), .int (iI i2)]) dX0_sameStack_87 ok_X7_foundLine im_X7_foundLine se_X7_foundLine ml0_71 np_X7_foundLine rfl rfl hk35o rfl (Nat.le_of_ble_eq_true rfl) (Nat.le_of_ble_eq_true rfl) rfl (k_X7_foundLine (d + 3) (T := T) (σ := σ38) (a := x33) hk35o w44 ) (fun r98 T100 σ99 gt101 hp => ?_)
            obtain ⟨v103, rfl, rfl, rfl, f102⟩ := hp
            clear gt101
            show Tn _ _ 90 T σ38 [(0, .ref a), (1, .ref rx1), (2, .int (iI i2)), (3, .int (iI i3))] [.int (iI v103), .int (iI v97), .int (iI i2)] _
            refine tn_icmp_ne (tgt := 97) dX0_sameStack_90 (by decide) ⟨by omega, by omega⟩ ⟨by omega, by omega⟩ (fun h104 => ?_) (fun h104 => ?_)
            · refine tn_iconst dX0_sameStack_97 ?_
              refine tn_iand dX0_sameStack_98 ?_
              refine tn_band (x := i2) (y := 0) (by omega) (by omega) (fun z107 g108 => ?_)
              refine tn_istore_n (L' := [(2, .int (iI z107)), (0, .ref a), (1, .ref rx1), (3, .int (iI i3))]) dX0_sameStack_99 rfl (by decide) rfl ?_
              refine tn_iload_n dX0_sameStack_100 rfl 0 rfl ?_
              refine tn_aload_n dX0_sameStack_101 rfl 1 rfl ?_
              refine tn_aload_n dX0_sameStack_102 rfl 2 rfl ?_
              refine tn_callV (M := m_X0_sameStack) (pc := 103) (ix := 74) (ci := 0) (M' := m_X0_sameNames) (As := [.ref rx1]) (rest := [.int (iI z107)]) dX0_sameStack_103 ok_X0_sameNames im_X0_sameNames se_X0_sameNames ml0_74 np_X0_sameNames rfl rfl h_a rfl (Nat.le_of_ble_eq_true rfl) (Nat.le_of_ble_eq_true rfl) rfl (k_X0_sameNames (d) (T := T) (σ := σ38) (a := a) (p1 := rx1) h_a h_rx1 w44 ) (fun r109 T111 σ110 gt112 hp => ?_)
              obtain ⟨v114, rfl, rfl, w115, F116, f113⟩ := hp
              clear gt112
              show Tn _ _ 106 T σ110 [(2, .int (iI z107)), (0, .ref a), (1, .ref rx1), (3, .int (iI i3))] [.int (iI v114), .int (iI z107)] _
              refine tn_iand dX0_sameStack_106 ?_
              refine tn_band (x := z107) (y := v114) (by omega) (by omega) (fun z119 g120 => ?_)
              refine tn_istore_n (L' := [(2, .int (iI z119)), (0, .ref a), (1, .ref rx1), (3, .int (iI i3))]) dX0_sameStack_107 rfl (by decide) rfl ?_
              refine tn_iinc (q0 := 3) (L' := [(3, .int (iI (i3 + 1))), (2, .int (iI z119)), (0, .ref a), (1, .ref rx1)]) dX0_sameStack_108 rfl (by decide) rfl ?_
              refine tn_goto (tgt := 25) dX0_sameStack_111 (by decide) ?_
              exact tn_sub [2, 3, 1, 0] rfl (ih _ (by omega) (z119) (i3 + 1) σ110 w115 ((((FrC.rfl.trans (FrC.sub hF (by decide))).trans (FrC.sub F15 (by decide))).trans (FrC.sub F45 (by decide))).trans (FrC.sub F116 (by decide))) (by omega) (by omega) rfl)
            · refine tn_iconst dX0_sameStack_93 ?_
              refine tn_goto (tgt := 98) dX0_sameStack_94 (by decide) ?_
              refine tn_iand dX0_sameStack_98 ?_
              refine tn_band (x := i2) (y := 1) (by omega) (by omega) (fun z123 g124 => ?_)
              refine tn_istore_n (L' := [(2, .int (iI z123)), (0, .ref a), (1, .ref rx1), (3, .int (iI i3))]) dX0_sameStack_99 rfl (by decide) rfl ?_
              refine tn_iload_n dX0_sameStack_100 rfl 0 rfl ?_
              refine tn_aload_n dX0_sameStack_101 rfl 1 rfl ?_
              refine tn_aload_n dX0_sameStack_102 rfl 2 rfl ?_
              refine tn_callV (M := m_X0_sameStack) (pc := 103) (ix := 74) (ci := 0) (M' := m_X0_sameNames) (As := [.ref rx1]) (rest := [.int (iI z123)]) dX0_sameStack_103 ok_X0_sameNames im_X0_sameNames se_X0_sameNames ml0_74 np_X0_sameNames rfl rfl h_a rfl (Nat.le_of_ble_eq_true rfl) (Nat.le_of_ble_eq_true rfl) rfl (k_X0_sameNames (d) (T := T) (σ := σ38) (a := a) (p1 := rx1) h_a h_rx1 w44 ) (fun r125 T127 σ126 gt128 hp => ?_)
              obtain ⟨v130, rfl, rfl, w131, F132, f129⟩ := hp
              clear gt128
              show Tn _ _ 106 T σ126 [(2, .int (iI z123)), (0, .ref a), (1, .ref rx1), (3, .int (iI i3))] [.int (iI v130), .int (iI z123)] _
              refine tn_iand dX0_sameStack_106 ?_
              refine tn_band (x := z123) (y := v130) (by omega) (by omega) (fun z135 g136 => ?_)
              refine tn_istore_n (L' := [(2, .int (iI z135)), (0, .ref a), (1, .ref rx1), (3, .int (iI i3))]) dX0_sameStack_107 rfl (by decide) rfl ?_
              refine tn_iinc (q0 := 3) (L' := [(3, .int (iI (i3 + 1))), (2, .int (iI z135)), (0, .ref a), (1, .ref rx1)]) dX0_sameStack_108 rfl (by decide) rfl ?_
              refine tn_goto (tgt := 25) dX0_sameStack_111 (by decide) ?_
              exact tn_sub [2, 3, 1, 0] rfl (ih _ (by omega) (z135) (i3 + 1) σ126 w131 ((((FrC.rfl.trans (FrC.sub hF (by decide))).trans (FrC.sub F15 (by decide))).trans (FrC.sub F45 (by decide))).trans (FrC.sub F132 (by decide))) (by omega) (by omega) rfl)
theorem dX0_sameStack_114 : decode cX0_sameStack 114 = .ok (.iload_n 2, 1) := by decide +kernel
theorem dX0_sameStack_115 : decode cX0_sameStack 115 = .ok (.ireturn, 1) := by decide +kernel
theorem dX0_sameStack_17 : decode cX0_sameStack 17 = .ok (.iconst 1, 1) := by decide +kernel
theorem dX0_sameStack_18 : decode cX0_sameStack 18 = .ok (.goto 4, 3) := by decide +kernel
set_option maxRecDepth 20000 in
theorem k_X0_sameStack (d : Nat) {T : CT} {σ : MS} {a : Nat} {p1 : Nat} (ha : OB T a 0) (h_p1 : OB T p1 10) (hw : WT T σ) : Tn (d + 6) m_X0_sameStack 0 T σ [(0, .ref a), (1, .ref p1)] [] (fun ro T2 σ2 => ∃ v : Int, ro = some (.int (iI v)) ∧ T = T2 ∧ WT T2 σ2 ∧ FrC T [2, 3, 70, 71] σ σ2 ∧ (v = 0 ∨ v = 1)) := by
  refine tn_aload_n dX0_sameStack_0 rfl 0 rfl ?_
  obtain ⟨x1, hx2, hk3⟩ : ∃ x : Nat, σ.2.1 0 a = (x : Int) ∧ (T x).1 = 37 := wf_0 hw ha
  have hk3o : OB T x1 7 := ⟨by omega, by rw [hk3]; rfl, by omega⟩
  refine tn_getR (ci := 0) (i := 0) (n := 0) (x := x1) dX0_sameStack_1 rfl lay_0 (by decide) fl0_14 ha rfl rfl (hx2) ?_
  refine tn_getI (ci := 7) (i := 3) (n := 58) (t := σ.2.1 58 x1) dX0_sameStack_4 rfl lay_7 (by decide) fl0_60 hk3o rfl rfl (rfl) ?_
  have g5 : ((-2147483648 : Int) ≤ σ.2.1 58 x1 ∧ σ.2.1 58 x1 ≤ 2147483647) := wf_58 hw hk3o
  refine tn_aload_n dX0_sameStack_7 rfl 0 rfl ?_
  obtain ⟨x6, hx7, hk8⟩ : ∃ x : Nat, σ.2.1 1 a = (x : Int) ∧ (T x).1 = 57 := wf_1 hw ha
  have hk8o : OB T x6 7 := ⟨by omega, by rw [hk8]; rfl, by omega⟩
  refine tn_getR (ci := 0) (i := 1) (n := 1) (x := x6) dX0_sameStack_8 rfl lay_0 (by decide) fl0_20 ha rfl rfl (hx7) ?_
  refine tn_getI (ci := 7) (i := 3) (n := 58) (t := σ.2.1 58 x6) dX0_sameStack_11 rfl lay_7 (by decide) fl0_60 hk8o rfl rfl (rfl) ?_
  have g10 : ((-2147483648 : Int) ≤ σ.2.1 58 x6 ∧ σ.2.1 58 x6 ≤ 2147483647) := wf_58 hw hk8o
  refine tn_icmp_ne (tgt := 21) dX0_sameStack_14 (by decide) ⟨by omega, by omega⟩ ⟨by omega, by omega⟩ (fun h11 => ?_) (fun h11 => ?_)
  · refine tn_iconst dX0_sameStack_21 ?_
    refine tn_istore_n (L' := [(2, .int (iI 0)), (0, .ref a), (1, .ref p1)]) dX0_sameStack_22 rfl (by decide) rfl ?_
    refine tn_iconst dX0_sameStack_23 ?_
    refine tn_istore_n (L' := [(3, .int (iI 0)), (2, .int (iI 0)), (0, .ref a), (1, .ref p1)]) dX0_sameStack_24 rfl (by decide) rfl ?_
    refine tn_sub [2, 3, 1, 0] rfl (l_X0_sameStack_25 (d) (T := T) (σ0 := σ) (a := a) (rx1 := p1) ha h_p1 hw (fun i212 i313 σ14 w17 F18 r19 r20 => ?_) _ (0) (0) σ hw FrC.rfl (by omega) (by omega) rfl)
    show Tn _ _ 114 T σ14 [(0, .ref a), (1, .ref p1), (2, .int (iI i212)), (3, .int (iI i313))] [] _
    refine tn_iload_n dX0_sameStack_114 rfl 2 rfl ?_
    exact tn_zret (v := i212) rfl (by omega) dX0_sameStack_115 ⟨_, rfl, rfl, w17, (FrC.rfl.trans (FrC.sub F18 (by decide))), by omega⟩
  · refine tn_iconst dX0_sameStack_17 ?_
    refine tn_goto (tgt := 22) dX0_sameStack_18 (by decide) ?_
    refine tn_istore_n (L' := [(2, .int (iI 1)), (0, .ref a), (1, .ref p1)]) dX0_sameStack_22 rfl (by decide) rfl ?_
    refine tn_iconst dX0_sameStack_23 ?_
    refine tn_istore_n (L' := [(3, .int (iI 0)), (2, .int (iI 1)), (0, .ref a), (1, .ref p1)]) dX0_sameStack_24 rfl (by decide) rfl ?_
    refine tn_sub [2, 3, 1, 0] rfl (l_X0_sameStack_25 (d) (T := T) (σ0 := σ) (a := a) (rx1 := p1) ha h_p1 hw (fun i221 i322 σ23 w26 F27 r28 r29 => ?_) _ (1) (0) σ hw FrC.rfl (by omega) (by omega) rfl)
    show Tn _ _ 114 T σ23 [(0, .ref a), (1, .ref p1), (2, .int (iI i221)), (3, .int (iI i322))] [] _
    refine tn_iload_n dX0_sameStack_114 rfl 2 rfl ?_
    exact tn_zret (v := i221) rfl (by omega) dX0_sameStack_115 ⟨_, rfl, rfl, w26, (FrC.rfl.trans (FrC.sub F27 (by decide))), by omega⟩
end
section
theorem cd_X0_together : Cond.code yX0_together cX0_together 5 (some .int) ∈ pWW := pw6 (List.mem_of_getElem? (i := 204) rfl) rfl
abbrev m_X0_together : MT := (yX0_together, cX0_together, 5, (some .int))
theorem ok_X0_together : pOk m_X0_together := ⟨⟨cd_X0_together, ini_0⟩, by decide +kernel, ⟨by decide +kernel, by decide +kernel⟩, Nat.le_of_ble_eq_true rfl⟩
theorem np_X0_together : (parseMethodDescriptor yX0_together.desc).map (fun d => d.parameters.length) = some 2 := by decide +kernel
theorem im_X0_together : Cond.instanceMethod yX0_together ∈ pWW := pw6 (List.mem_of_getElem? (i := 202) rfl) rfl
theorem se_X0_together : Cond.selects RX0 yX0_together yX0_together ∈ pWW := pw6 (List.mem_of_getElem? (i := 203) rfl) rfl
theorem fl0_30 : Cond.fieldLink RX0 30 (TX0 4).1 (TX0 4).2.1 (TX0 4).2.2.1 ∈ pWW := pw6 (List.mem_of_getElem? (i := 188) rfl) rfl
theorem ml0_40 : Cond.methodLink RX0 40 yX0_plainLine ∈ pWW := pw6 (List.mem_of_getElem? (i := 206) rfl) rfl
theorem ml0_43 : Cond.methodLink RX0 43 yX0_samePrints ∈ pWW := pw6 (List.mem_of_getElem? (i := 211) rfl) rfl
theorem ml0_46 : Cond.methodLink RX0 46 yX0_sameStack ∈ pWW := pw6 (List.mem_of_getElem? (i := 215) rfl) rfl
theorem dX0_together_0 : decode cX0_together 0 = .ok (.iconst 0, 1) := by decide +kernel
theorem dX0_together_1 : decode cX0_together 1 = .ok (.istore_n 3, 1) := by decide +kernel
theorem dX0_together_2 : decode cX0_together 2 = .ok (.aload_n 0, 1) := by decide +kernel
theorem dX0_together_3 : decode cX0_together 3 = .ok (.iconst 0, 1) := by decide +kernel
theorem dX0_together_4 : decode cX0_together 4 = .ok (.putfield 23, 3) := by decide +kernel
theorem dX0_together_7 : decode cX0_together 7 = .ok (.aload_n 0, 1) := by decide +kernel
theorem dX0_together_8 : decode cX0_together 8 = .ok (.iconst 0, 1) := by decide +kernel
theorem dX0_together_9 : decode cX0_together 9 = .ok (.putfield 27, 3) := by decide +kernel
theorem dX0_together_12 : decode cX0_together 12 = .ok (.aload_n 0, 1) := by decide +kernel
theorem dX0_together_13 : decode cX0_together 13 = .ok (.iconst 0, 1) := by decide +kernel
theorem dX0_together_14 : decode cX0_together 14 = .ok (.putfield 30, 3) := by decide +kernel
theorem dX0_together_17 : decode cX0_together 17 = .ok (.iconst 0, 1) := by decide +kernel
theorem dX0_together_18 : decode cX0_together 18 = .ok (.istore 4, 2) := by decide +kernel
theorem dX0_together_20 : decode cX0_together 20 = .ok (.iload 4, 2) := by decide +kernel
theorem dX0_together_22 : decode cX0_together 22 = .ok (.iload_n 2, 1) := by decide +kernel
theorem dX0_together_23 : decode cX0_together 23 = .ok (.if_icmp .ge 60, 3) := by decide +kernel
theorem dX0_together_26 : decode cX0_together 26 = .ok (.aload_n 0, 1) := by decide +kernel
theorem dX0_together_27 : decode cX0_together 27 = .ok (.getfield 14, 3) := by decide +kernel
theorem dX0_together_30 : decode cX0_together 30 = .ok (.getfield 33, 3) := by decide +kernel
theorem dX0_together_33 : decode cX0_together 33 = .ok (.iconst 1, 1) := by decide +kernel
theorem dX0_together_34 : decode cX0_together 34 = .ok (.if_icmp .ne 49, 3) := by decide +kernel
theorem dX0_together_37 : decode cX0_together 37 = .ok (.aload_n 0, 1) := by decide +kernel
theorem dX0_together_38 : decode cX0_together 38 = .ok (.getfield 14, 3) := by decide +kernel
theorem dX0_together_41 : decode cX0_together 41 = .ok (.invokevirtual 36, 3) := by decide +kernel
theorem dX0_together_44 : decode cX0_together 44 = .ok (.ifCond .eq 33, 3) := by decide +kernel
theorem dX0_together_77 : decode cX0_together 77 = .ok (.iinc 4 1, 3) := by decide +kernel
theorem dX0_together_80 : decode cX0_together 80 = .ok (.goto (-60), 3) := by decide +kernel
theorem dX0_together_47 : decode cX0_together 47 = .ok (.aload_n 0, 1) := by decide +kernel
theorem dX0_together_48 : decode cX0_together 48 = .ok (.invokevirtual 40, 3) := by decide +kernel
theorem dX0_together_51 : decode cX0_together 51 = .ok (.ifCond .eq 18, 3) := by decide +kernel
theorem dX0_together_54 : decode cX0_together 54 = .ok (.aload_n 0, 1) := by decide +kernel
theorem dX0_together_55 : decode cX0_together 55 = .ok (.invokevirtual 43, 3) := by decide +kernel
theorem dX0_together_58 : decode cX0_together 58 = .ok (.ifCond .eq 11, 3) := by decide +kernel
theorem dX0_together_61 : decode cX0_together 61 = .ok (.aload_n 0, 1) := by decide +kernel
theorem dX0_together_62 : decode cX0_together 62 = .ok (.aload_n 1, 1) := by decide +kernel
theorem dX0_together_63 : decode cX0_together 63 = .ok (.invokevirtual 46, 3) := by decide +kernel
theorem dX0_together_66 : decode cX0_together 66 = .ok (.ifCond .ne 8, 3) := by decide +kernel
theorem dX0_together_74 : decode cX0_together 74 = .ok (.iinc 3 1, 3) := by decide +kernel
set_option maxRecDepth 20000 in
theorem l_X0_together_20 (d : Nat) {T : CT} {σ0 : MS} {a : Nat} {rx1 : Nat} {c2 : Int} {post : Option Value → CT → MS → Prop} (h_a : OB T a 0) (h_rx1 : OB T rx1 10) (r_c2 : -2147483648 ≤ c2 ∧ c2 ≤ 20000) (hw0 : WT T σ0) (hx_69 : ∀ (i3 : Int) (i4 : Int) (σ : MS) , (WT T σ) → (FrC T [2, 3, 56, 57, 58, 65, 66, 67, 68, 69, 70, 71, 515] σ0 σ) → (-2147483648 ≤ i3 ∧ i3 ≤ 2147483647) → (0 ≤ i4 ∧ i4 ≤ 20000) → (TB σ a (i4 + 1)) → (PB σ a) → Tn (d + 7) m_X0_together 69 T σ [(0, .ref a), (1, .ref rx1), (2, .int (iI c2)), (3, .int (iI i3)), (4, .int (iI i4))] [] post) (hx_83 : ∀ (i3 : Int) (i4 : Int) (σ : MS) , (WT T σ) → (FrC T [2, 3, 56, 57, 58, 65, 66, 67, 68, 69, 70, 71, 515] σ0 σ) → (-2147483648 ≤ i3 ∧ i3 ≤ 2147483647) → (0 ≤ i4 ∧ i4 ≤ 20000) → (TB σ a (i4 + 1)) → (PB σ a) → Tn (d + 7) m_X0_together 83 T σ [(0, .ref a), (1, .ref rx1), (2, .int (iI c2)), (3, .int (iI i3)), (4, .int (iI i4))] [] post) : ∀ (n : Nat) (i3 : Int) (i4 : Int) (σ : MS) , (WT T σ) → (FrC T [2, 3, 56, 57, 58, 65, 66, 67, 68, 69, 70, 71, 515] σ0 σ) → (-2147483648 ≤ i3 ∧ i3 ≤ 2147483647) → (0 ≤ i4 ∧ i4 ≤ 20000) → (TB σ a i4) → (PB σ a) → (2147483700 - i4).toNat = n → Tn (d + 7) m_X0_together 20 T σ [(0, .ref a), (1, .ref rx1), (2, .int (iI c2)), (3, .int (iI i3)), (4, .int (iI i4))] [] post := by
  intro n
  induction n using Nat.strongRecOn with
  | _ n ih =>
    intro i3 i4 σ hw hF r_i3 r_i4 ht hb hm
    refine tn_iload dX0_together_20 4 rfl ?_
    refine tn_iload_n dX0_together_22 rfl 2 rfl ?_
    refine tn_icmp_ge (tgt := 83) dX0_together_23 (by decide) ⟨by omega, by omega⟩ ⟨by omega, by omega⟩ (fun h1 => ?_) (fun h1 => ?_)
    · exact tn_sub [0, 1, 2, 3, 4] rfl (hx_83 (i3) (i4) σ hw (FrC.rfl.trans (FrC.sub hF (by decide))) (by omega) (by omega) (ht.up (by omega)) hb)
    · refine tn_aload_n dX0_together_26 rfl 0 rfl ?_
      obtain ⟨x2, hx3, hk4⟩ : ∃ x : Nat, σ0.2.1 0 a = (x : Int) ∧ (T x).1 = 37 := wf_0 hw0 h_a
      have hk4o : OB T x2 7 := ⟨by omega, by rw [hk4]; rfl, by omega⟩
      refine tn_getR (ci := 0) (i := 0) (n := 0) (x := x2) dX0_together_27 rfl lay_0 (by decide) fl0_14 h_a rfl rfl (rc_F hF (Or.inl (by decide)) (by decide) (hx3)) ?_
      refine tn_getI (ci := 7) (i := 1) (n := 56) (t := σ.2.1 56 x2) dX0_together_30 rfl lay_7 (by decide) fl0_33 hk4o rfl rfl (rfl) ?_
      have g6 : ((-2147483648 : Int) ≤ σ.2.1 56 x2 ∧ σ.2.1 56 x2 ≤ 2147483647) := wf_56 hw hk4o
      refine tn_iconst dX0_together_33 ?_
      refine tn_icmp_ne (tgt := 83) dX0_together_34 (by decide) ⟨by omega, by omega⟩ ⟨by decide, by decide⟩ (fun h7 => ?_) (fun h7 => ?_)
      · exact tn_sub [0, 1, 2, 3, 4] rfl (hx_83 (i3) (i4) σ hw (FrC.rfl.trans (FrC.sub hF (by decide))) (by omega) (by omega) (ht.up (by omega)) hb)
      · refine tn_aload_n dX0_together_37 rfl 0 rfl ?_
        refine tn_getR (ci := 0) (i := 0) (n := 0) (x := x2) dX0_together_38 rfl lay_0 (by decide) fl0_14 h_a rfl rfl (rc_F hF (Or.inl (by decide)) (by decide) (hx3)) ?_
        refine tn_callV (M := m_X0_together) (pc := 41) (ix := 36) (ci := 7) (M' := m_X7_step) (As := []) (rest := []) dX0_together_41 ok_X7_step im_X7_step se_X7_step ml0_36 np_X7_step rfl rfl hk4o rfl (Nat.le_of_ble_eq_true rfl) (Nat.le_of_ble_eq_true rfl) rfl (k_X7_step (d + 1) (T := T) (σ := σ) (a := x2) hk4o hk4 hw (by have q9 := ht x2 (rc_F hF (Or.inl (by decide)) (by decide) (hx3)); omega)) (fun r8 T10 σ9 gt11 hp => ?_)
        obtain ⟨v15, rfl, rfl, w16, F17, f12, f13, f14⟩ := hp
        clear gt11
        obtain ⟨x18, hx19, hk20⟩ : ∃ x : Nat, σ0.2.1 1 a = (x : Int) ∧ (T x).1 = 57 := wf_1 hw0 h_a
        have hk20o : OB T x18 7 := ⟨by omega, by rw [hk20]; rfl, by omega⟩
        have ne22 : x2 ≠ x18 := fun e => by rw [e] at hk4; omega
        have hb23 : PB σ9 a := PB.torn hb (rc_F hF (Or.inl (by decide)) (by decide) (hx19)) ne22 f14 F17 (by decide)
        have ht24 : TB σ9 a (i4 + 1) := TB.of (rc_F F17 (Or.inl (by decide)) (by decide) (rc_F hF (Or.inl (by decide)) (by decide) (hx3))) (by have q9 := ht x2 (rc_F hF (Or.inl (by decide)) (by decide) (hx3)); omega)
        show Tn _ _ 44 T σ9 [(0, .ref a), (1, .ref rx1), (2, .int (iI c2)), (3, .int (iI i3)), (4, .int (iI i4))] [.int (iI v15)] _
        refine tn_if_eq (tgt := 77) dX0_together_44 (by decide) ⟨by omega, by omega⟩ (fun h25 => ?_) (fun h25 => ?_)
        · refine tn_iinc (q0 := 4) (L' := [(4, .int (iI (i4 + 1))), (0, .ref a), (1, .ref rx1), (2, .int (iI c2)), (3, .int (iI i3))]) dX0_together_77 rfl (by decide) rfl ?_
          refine tn_goto (tgt := 20) dX0_together_80 (by decide) ?_
          exact tn_sub [1, 2, 3, 4, 0] rfl (ih _ (by omega) (i3) (i4 + 1) σ9 w16 ((FrC.rfl.trans (FrC.sub hF (by decide))).trans (FrC.sub F17 (by decide))) (by omega) (by omega) ht24 hb23 rfl)
        · refine tn_aload_n dX0_together_47 rfl 0 rfl ?_
          refine tn_callV (M := m_X0_together) (pc := 48) (ix := 40) (ci := 0) (M' := m_X0_plainLine) (As := []) (rest := []) dX0_together_48 ok_X0_plainLine im_X0_plainLine se_X0_plainLine ml0_40 np_X0_plainLine rfl rfl h_a rfl (Nat.le_of_ble_eq_true rfl) (Nat.le_of_ble_eq_true rfl) rfl (k_X0_plainLine (d) (T := T) (σ := σ9) (a := a) h_a w16 hb23) (fun r26 T28 σ27 gt29 hp => ?_)
          obtain ⟨v33, rfl, rfl, w34, F35, f30, f31, f32⟩ := hp
          clear gt29
          have ht36 : TB σ27 a (i4 + 1) := TB.plain ht24 (rc_F F17 (Or.inl (by decide)) (by decide) (rc_F hF (Or.inl (by decide)) (by decide) (hx3))) (rc_F F17 (Or.inl (by decide)) (by decide) (rc_F hF (Or.inl (by decide)) (by decide) (hx19))) ne22 f32 F35 (by decide)
          show Tn _ _ 51 T σ27 [(0, .ref a), (1, .ref rx1), (2, .int (iI c2)), (3, .int (iI i3)), (4, .int (iI i4))] [.int (iI v33)] _
          refine tn_if_eq (tgt := 69) dX0_together_51 (by decide) ⟨by omega, by omega⟩ (fun h37 => ?_) (fun h37 => ?_)
          · exact tn_sub [0, 1, 2, 3, 4] rfl (hx_69 (i3) (i4) σ27 w34 (((FrC.rfl.trans (FrC.sub hF (by decide))).trans (FrC.sub F17 (by decide))).trans (FrC.sub F35 (by decide))) (by omega) (by omega) ht36 f31)
          · refine tn_aload_n dX0_together_54 rfl 0 rfl ?_
            refine tn_callV (M := m_X0_together) (pc := 55) (ix := 43) (ci := 0) (M' := m_X0_samePrints) (As := []) (rest := []) dX0_together_55 ok_X0_samePrints im_X0_samePrints se_X0_samePrints ml0_43 np_X0_samePrints rfl rfl h_a rfl (Nat.le_of_ble_eq_true rfl) (Nat.le_of_ble_eq_true rfl) rfl (k_X0_samePrints (d + 5) (T := T) (σ := σ27) (a := a) h_a w34 ) (fun r38 T40 σ39 gt41 hp => ?_)
            obtain ⟨v43, rfl, rfl, rfl, f42⟩ := hp
            clear gt41
            show Tn _ _ 58 T σ27 [(0, .ref a), (1, .ref rx1), (2, .int (iI c2)), (3, .int (iI i3)), (4, .int (iI i4))] [.int (iI v43)] _
            refine tn_if_eq (tgt := 69) dX0_together_58 (by decide) ⟨by omega, by omega⟩ (fun h44 => ?_) (fun h44 => ?_)
            · exact tn_sub [0, 1, 2, 3, 4] rfl (hx_69 (i3) (i4) σ27 w34 (((FrC.rfl.trans (FrC.sub hF (by decide))).trans (FrC.sub F17 (by decide))).trans (FrC.sub F35 (by decide))) (by omega) (by omega) ht36 f31)
            · refine tn_aload_n dX0_together_61 rfl 0 rfl ?_
              refine tn_aload_n dX0_together_62 rfl 1 rfl ?_
              refine tn_callV (M := m_X0_together) (pc := 63) (ix := 46) (ci := 0) (M' := m_X0_sameStack) (As := [.ref rx1]) (rest := []) dX0_together_63 ok_X0_sameStack im_X0_sameStack se_X0_sameStack ml0_46 np_X0_sameStack rfl rfl h_a rfl (Nat.le_of_ble_eq_true rfl) (Nat.le_of_ble_eq_true rfl) rfl (k_X0_sameStack (d) (T := T) (σ := σ27) (a := a) (p1 := rx1) h_a h_rx1 w34 ) (fun r45 T47 σ46 gt48 hp => ?_)
              obtain ⟨v50, rfl, rfl, w51, F52, f49⟩ := hp
              clear gt48
              have hb53 : PB σ46 a := PB.frc f31 F52 (by decide) (by decide) (by decide) (by decide)
              have ht54 : TB σ46 a (i4 + 1) := TB.frc ht36 F52 (by decide) (by decide)
              show Tn _ _ 66 T σ46 [(0, .ref a), (1, .ref rx1), (2, .int (iI c2)), (3, .int (iI i3)), (4, .int (iI i4))] [.int (iI v50)] _
              refine tn_if_ne (tgt := 74) dX0_together_66 (by decide) ⟨by omega, by omega⟩ (fun h55 => ?_) (fun h55 => ?_)
              · refine tn_iinc (q0 := 3) (L' := [(3, .int (iI (i3 + 1))), (0, .ref a), (1, .ref rx1), (2, .int (iI c2)), (4, .int (iI i4))]) dX0_together_74 rfl (by decide) rfl ?_
                obtain ⟨z56, g57, g57e⟩ := wr_ex (i3 + 1)
                rw [g57e]
                have g57r : -2147483648 ≤ z56 ∧ z56 ≤ 2147483647 := g57
                refine tn_iinc (q0 := 4) (L' := [(4, .int (iI (i4 + 1))), (3, .int (iI z56)), (0, .ref a), (1, .ref rx1), (2, .int (iI c2))]) dX0_together_77 rfl (by decide) rfl ?_
                refine tn_goto (tgt := 20) dX0_together_80 (by decide) ?_
                exact tn_sub [2, 3, 4, 1, 0] rfl (ih _ (by omega) (z56) (i4 + 1) σ46 w51 ((((FrC.rfl.trans (FrC.sub hF (by decide))).trans (FrC.sub F17 (by decide))).trans (FrC.sub F35 (by decide))).trans (FrC.sub F52 (by decide))) (by omega) (by omega) ht54 hb53 rfl)
              · exact tn_sub [0, 1, 2, 3, 4] rfl (hx_69 (i3) (i4) σ46 w51 ((((FrC.rfl.trans (FrC.sub hF (by decide))).trans (FrC.sub F17 (by decide))).trans (FrC.sub F35 (by decide))).trans (FrC.sub F52 (by decide))) (by omega) (by omega) ht54 hb53)
theorem fl0_50 : Cond.fieldLink RX0 50 (TX7 13).1 (TX7 13).2.1 (TX7 13).2.2.1 ∈ pWW := pw2 (List.mem_of_getElem? (i := 155) rfl) rfl
theorem dX0_together_69 : decode cX0_together 69 = .ok (.bipush (-2), 2) := by decide +kernel
theorem dX0_together_71 : decode cX0_together 71 = .ok (.iload_n 3, 1) := by decide +kernel
theorem dX0_together_72 : decode cX0_together 72 = .ok (.isub, 1) := by decide +kernel
theorem dX0_together_73 : decode cX0_together 73 = .ok (.ireturn, 1) := by decide +kernel
theorem dX0_together_83 : decode cX0_together 83 = .ok (.aload_n 0, 1) := by decide +kernel
theorem dX0_together_84 : decode cX0_together 84 = .ok (.getfield 14, 3) := by decide +kernel
theorem dX0_together_87 : decode cX0_together 87 = .ok (.getfield 33, 3) := by decide +kernel
theorem dX0_together_90 : decode cX0_together 90 = .ok (.iconst 1, 1) := by decide +kernel
theorem dX0_together_91 : decode cX0_together 91 = .ok (.if_icmp .ne 5, 3) := by decide +kernel
theorem dX0_together_96 : decode cX0_together 96 = .ok (.aload_n 0, 1) := by decide +kernel
theorem dX0_together_97 : decode cX0_together 97 = .ok (.invokevirtual 40, 3) := by decide +kernel
theorem dX0_together_100 : decode cX0_together 100 = .ok (.ifCond .ne 44, 3) := by decide +kernel
theorem dX0_together_144 : decode cX0_together 144 = .ok (.bipush (-2), 2) := by decide +kernel
theorem dX0_together_146 : decode cX0_together 146 = .ok (.iload_n 3, 1) := by decide +kernel
theorem dX0_together_147 : decode cX0_together 147 = .ok (.isub, 1) := by decide +kernel
theorem dX0_together_148 : decode cX0_together 148 = .ok (.ireturn, 1) := by decide +kernel
theorem dX0_together_103 : decode cX0_together 103 = .ok (.aload_n 0, 1) := by decide +kernel
theorem dX0_together_104 : decode cX0_together 104 = .ok (.getfield 20, 3) := by decide +kernel
theorem dX0_together_107 : decode cX0_together 107 = .ok (.getfield 33, 3) := by decide +kernel
theorem dX0_together_110 : decode cX0_together 110 = .ok (.aload_n 0, 1) := by decide +kernel
theorem dX0_together_111 : decode cX0_together 111 = .ok (.getfield 14, 3) := by decide +kernel
theorem dX0_together_114 : decode cX0_together 114 = .ok (.getfield 33, 3) := by decide +kernel
theorem dX0_together_117 : decode cX0_together 117 = .ok (.if_icmp .ne 27, 3) := by decide +kernel
theorem dX0_together_120 : decode cX0_together 120 = .ok (.aload_n 0, 1) := by decide +kernel
theorem dX0_together_121 : decode cX0_together 121 = .ok (.invokevirtual 43, 3) := by decide +kernel
theorem dX0_together_124 : decode cX0_together 124 = .ok (.ifCond .eq 20, 3) := by decide +kernel
theorem dX0_together_127 : decode cX0_together 127 = .ok (.aload_n 0, 1) := by decide +kernel
theorem dX0_together_128 : decode cX0_together 128 = .ok (.getfield 20, 3) := by decide +kernel
theorem dX0_together_131 : decode cX0_together 131 = .ok (.getfield 50, 3) := by decide +kernel
theorem dX0_together_134 : decode cX0_together 134 = .ok (.aload_n 0, 1) := by decide +kernel
theorem dX0_together_135 : decode cX0_together 135 = .ok (.getfield 14, 3) := by decide +kernel
theorem dX0_together_138 : decode cX0_together 138 = .ok (.getfield 50, 3) := by decide +kernel
theorem dX0_together_141 : decode cX0_together 141 = .ok (.if_icmp .eq 8, 3) := by decide +kernel
theorem dX0_together_149 : decode cX0_together 149 = .ok (.aload_n 0, 1) := by decide +kernel
theorem dX0_together_150 : decode cX0_together 150 = .ok (.aload_n 0, 1) := by decide +kernel
theorem dX0_together_151 : decode cX0_together 151 = .ok (.getfield 14, 3) := by decide +kernel
theorem dX0_together_154 : decode cX0_together 154 = .ok (.getfield 33, 3) := by decide +kernel
theorem dX0_together_157 : decode cX0_together 157 = .ok (.iconst 2, 1) := by decide +kernel
theorem dX0_together_158 : decode cX0_together 158 = .ok (.if_icmp .ne 7, 3) := by decide +kernel
theorem dX0_together_165 : decode cX0_together 165 = .ok (.iconst 2, 1) := by decide +kernel
theorem dX0_together_166 : decode cX0_together 166 = .ok (.putfield 30, 3) := by decide +kernel
theorem dX0_together_169 : decode cX0_together 169 = .ok (.iload_n 3, 1) := by decide +kernel
theorem dX0_together_170 : decode cX0_together 170 = .ok (.ireturn, 1) := by decide +kernel
theorem dX0_together_161 : decode cX0_together 161 = .ok (.iconst 1, 1) := by decide +kernel
theorem dX0_together_162 : decode cX0_together 162 = .ok (.goto 4, 3) := by decide +kernel
theorem dX0_together_94 : decode cX0_together 94 = .ok (.iload_n 3, 1) := by decide +kernel
theorem dX0_together_95 : decode cX0_together 95 = .ok (.ireturn, 1) := by decide +kernel
set_option maxRecDepth 20000 in
theorem k_X0_together (d : Nat) {T : CT} {σ : MS} {a : Nat} {t : Nat} {n : Int} (ha : OB T a 0) (h_t : OB T t 10) (h_n : -2147483648 ≤ n ∧ n ≤ 2147483647) (hw : WT T σ) (hn : n ≤ 20000) (ht : TB σ a 0) (hb : PB σ a) : Tn (d + 7) m_X0_together 0 T σ [(0, .ref a), (1, .ref t), (2, .int (iI n))] [] (fun ro T2 σ2 => ∃ v : Int, ro = some (.int (iI v)) ∧ T = T2 ∧ WT T2 σ2 ∧ FrC T [2, 3, 4, 56, 57, 58, 65, 66, 67, 68, 69, 70, 71, 515] σ σ2 ∧ (-2147483648 ≤ v ∧ v ≤ 2147483647)) := by
  refine tn_iconst dX0_together_0 ?_
  refine tn_istore_n (L' := [(3, .int (iI 0)), (0, .ref a), (1, .ref t), (2, .int (iI n))]) dX0_together_1 rfl (by decide) rfl ?_
  refine tn_aload_n dX0_together_2 rfl 1 rfl ?_
  refine tn_iconst dX0_together_3 ?_
  refine tn_putV (ci := 0) (i := 2) (n := 2) (r := false) (v := 0) tyX0 tyX0_ok nmX0 dX0_together_4 rfl lay_0 (by decide) fl0_23 rfl (tyX0_ok 2 (by decide)) rfl rfl rfl ha rfl rfl ?_
  refine tn_aload_n dX0_together_7 rfl 1 rfl ?_
  refine tn_iconst dX0_together_8 ?_
  refine tn_putV (ci := 0) (i := 3) (n := 3) (r := false) (v := 0) tyX0 tyX0_ok nmX0 dX0_together_9 rfl lay_0 (by decide) fl0_27 rfl (tyX0_ok 3 (by decide)) rfl rfl rfl ha rfl rfl ?_
  refine tn_aload_n dX0_together_12 rfl 1 rfl ?_
  refine tn_iconst dX0_together_13 ?_
  refine tn_putV (ci := 0) (i := 4) (n := 4) (r := false) (v := 0) tyX0 tyX0_ok nmX0 dX0_together_14 rfl lay_0 (by decide) fl0_30 rfl (tyX0_ok 4 (by decide)) rfl rfl rfl ha rfl rfl ?_
  refine tn_iconst dX0_together_17 ?_
  refine tn_istore (L' := [(4, .int (iI 0)), (3, .int (iI 0)), (0, .ref a), (1, .ref t), (2, .int (iI n))]) dX0_together_18 (by decide) rfl ?_
  refine tn_sub [2, 3, 4, 1, 0] rfl (l_X0_together_20 (d) (T := T) (σ0 := (sA 4 a (0) (sA 3 a (0) (sA 2 a (0) σ)))) (a := a) (rx1 := t) (c2 := n) ha h_t (by omega) (((hw.put (by decide) (by decide) (fo_2 (by omega))).put (by decide) (by decide) (fo_3 (by omega))).put (by decide) (by decide) (fo_4 (by omega))) (fun i31 i42 σ3 w6 F7 r8 r9 f10 f11 => ?_) (fun i312 i413 σ14 w17 F18 r19 r20 f21 f22 => ?_) _ (0) (0) (sA 4 a (0) (sA 3 a (0) (sA 2 a (0) σ))) (((hw.put (by decide) (by decide) (fo_2 (by omega))).put (by decide) (by decide) (fo_3 (by omega))).put (by decide) (by decide) (fo_4 (by omega))) FrC.rfl (by omega) (by omega) (TB.frc ht (show FrC T [2, 3, 4] σ (sA 4 a (0) (sA 3 a (0) (sA 2 a (0) σ))) from (((FrC.rfl.put (by decide) (by decide)).put (by decide) (by decide)).put (by decide) (by decide))) (by decide) (by decide) ) (PB.frc hb (show FrC T [2, 3, 4] σ (sA 4 a (0) (sA 3 a (0) (sA 2 a (0) σ))) from (((FrC.rfl.put (by decide) (by decide)).put (by decide) (by decide)).put (by decide) (by decide))) (by decide) (by decide) (by decide) (by decide) ) rfl)
  · show Tn _ _ 69 T σ3 [(0, .ref a), (1, .ref t), (2, .int (iI n)), (3, .int (iI i31)), (4, .int (iI i42))] [] _
    refine tn_bipush dX0_together_69 (by decide) ?_
    refine tn_iload_n dX0_together_71 rfl 3 rfl ?_
    refine tn_isub dX0_together_72 ?_
    refine tn_any (fun z23 g24 => ?_)
    have g24r : -2147483648 ≤ z23 ∧ z23 ≤ 2147483647 := g24
    exact tn_iret rfl dX0_together_73 ⟨_, rfl, rfl, w6, ((((FrC.rfl.put (by decide) (by decide)).put (by decide) (by decide)).put (by decide) (by decide)).trans (FrC.sub F7 (by decide))), by omega⟩
  · show Tn _ _ 83 T σ14 [(0, .ref a), (1, .ref t), (2, .int (iI n)), (3, .int (iI i312)), (4, .int (iI i413))] [] _
    refine tn_aload_n dX0_together_83 rfl 0 rfl ?_
    obtain ⟨x25, hx26, hk27⟩ : ∃ x : Nat, σ.2.1 0 a = (x : Int) ∧ (T x).1 = 37 := wf_0 hw ha
    have hk27o : OB T x25 7 := ⟨by omega, by rw [hk27]; rfl, by omega⟩
    refine tn_getR (ci := 0) (i := 0) (n := 0) (x := x25) dX0_together_84 rfl lay_0 (by decide) fl0_14 ha rfl rfl (rc_F F18 (Or.inl (by decide)) (by decide) (rc_o (by decide) (rc_o (by decide) (rc_o (by decide) (hx26))))) ?_
    refine tn_getI (ci := 7) (i := 1) (n := 56) (t := σ14.2.1 56 x25) dX0_together_87 rfl lay_7 (by decide) fl0_33 hk27o rfl rfl (rfl) ?_
    have g29 : ((-2147483648 : Int) ≤ σ14.2.1 56 x25 ∧ σ14.2.1 56 x25 ≤ 2147483647) := wf_56 w17 hk27o
    refine tn_iconst dX0_together_90 ?_
    refine tn_icmp_ne (tgt := 96) dX0_together_91 (by decide) ⟨by omega, by omega⟩ ⟨by decide, by decide⟩ (fun h30 => ?_) (fun h30 => ?_)
    · refine tn_aload_n dX0_together_96 rfl 0 rfl ?_
      refine tn_callV (M := m_X0_together) (pc := 97) (ix := 40) (ci := 0) (M' := m_X0_plainLine) (As := []) (rest := []) dX0_together_97 ok_X0_plainLine im_X0_plainLine se_X0_plainLine ml0_40 np_X0_plainLine rfl rfl ha rfl (Nat.le_of_ble_eq_true rfl) (Nat.le_of_ble_eq_true rfl) rfl (k_X0_plainLine (d) (T := T) (σ := σ14) (a := a) ha w17 f22) (fun r31 T33 σ32 gt34 hp => ?_)
      obtain ⟨v38, rfl, rfl, w39, F40, f35, f36, f37⟩ := hp
      clear gt34
      show Tn _ _ 100 T σ32 [(0, .ref a), (1, .ref t), (2, .int (iI n)), (3, .int (iI i312)), (4, .int (iI i413))] [.int (iI v38)] _
      refine tn_if_ne (tgt := 144) dX0_together_100 (by decide) ⟨by omega, by omega⟩ (fun h41 => ?_) (fun h41 => ?_)
      · refine tn_bipush dX0_together_144 (by decide) ?_
        refine tn_iload_n dX0_together_146 rfl 3 rfl ?_
        refine tn_isub dX0_together_147 ?_
        refine tn_any (fun z42 g43 => ?_)
        have g43r : -2147483648 ≤ z42 ∧ z42 ≤ 2147483647 := g43
        exact tn_iret rfl dX0_together_148 ⟨_, rfl, rfl, w39, (((((FrC.rfl.put (by decide) (by decide)).put (by decide) (by decide)).put (by decide) (by decide)).trans (FrC.sub F18 (by decide))).trans (FrC.sub F40 (by decide))), by omega⟩
      · refine tn_aload_n dX0_together_103 rfl 0 rfl ?_
        obtain ⟨x44, hx45, hk46⟩ : ∃ x : Nat, σ.2.1 1 a = (x : Int) ∧ (T x).1 = 57 := wf_1 hw ha
        have hk46o : OB T x44 7 := ⟨by omega, by rw [hk46]; rfl, by omega⟩
        refine tn_getR (ci := 0) (i := 1) (n := 1) (x := x44) dX0_together_104 rfl lay_0 (by decide) fl0_20 ha rfl rfl (rc_F F40 (Or.inl (by decide)) (by decide) (rc_F F18 (Or.inl (by decide)) (by decide) (rc_o (by decide) (rc_o (by decide) (rc_o (by decide) (hx45)))))) ?_
        refine tn_getI (ci := 7) (i := 1) (n := 56) (t := σ32.2.1 56 x44) dX0_together_107 rfl lay_7 (by decide) fl0_33 hk46o rfl rfl (rfl) ?_
        have g48 : ((-2147483648 : Int) ≤ σ32.2.1 56 x44 ∧ σ32.2.1 56 x44 ≤ 2147483647) := wf_56 w39 hk46o
        refine tn_aload_n dX0_together_110 rfl 0 rfl ?_
        refine tn_getR (ci := 0) (i := 0) (n := 0) (x := x25) dX0_together_111 rfl lay_0 (by decide) fl0_14 ha rfl rfl (rc_F F40 (Or.inl (by decide)) (by decide) (rc_F F18 (Or.inl (by decide)) (by decide) (rc_o (by decide) (rc_o (by decide) (rc_o (by decide) (hx26)))))) ?_
        refine tn_getI (ci := 7) (i := 1) (n := 56) (t := σ32.2.1 56 x25) dX0_together_114 rfl lay_7 (by decide) fl0_33 hk27o rfl rfl (rfl) ?_
        have g49 : ((-2147483648 : Int) ≤ σ32.2.1 56 x25 ∧ σ32.2.1 56 x25 ≤ 2147483647) := wf_56 w39 hk27o
        refine tn_icmp_ne (tgt := 144) dX0_together_117 (by decide) ⟨by omega, by omega⟩ ⟨by omega, by omega⟩ (fun h50 => ?_) (fun h50 => ?_)
        · refine tn_bipush dX0_together_144 (by decide) ?_
          refine tn_iload_n dX0_together_146 rfl 3 rfl ?_
          refine tn_isub dX0_together_147 ?_
          refine tn_any (fun z51 g52 => ?_)
          have g52r : -2147483648 ≤ z51 ∧ z51 ≤ 2147483647 := g52
          exact tn_iret rfl dX0_together_148 ⟨_, rfl, rfl, w39, (((((FrC.rfl.put (by decide) (by decide)).put (by decide) (by decide)).put (by decide) (by decide)).trans (FrC.sub F18 (by decide))).trans (FrC.sub F40 (by decide))), by omega⟩
        · refine tn_aload_n dX0_together_120 rfl 0 rfl ?_
          refine tn_callV (M := m_X0_together) (pc := 121) (ix := 43) (ci := 0) (M' := m_X0_samePrints) (As := []) (rest := []) dX0_together_121 ok_X0_samePrints im_X0_samePrints se_X0_samePrints ml0_43 np_X0_samePrints rfl rfl ha rfl (Nat.le_of_ble_eq_true rfl) (Nat.le_of_ble_eq_true rfl) rfl (k_X0_samePrints (d + 5) (T := T) (σ := σ32) (a := a) ha w39 ) (fun r53 T55 σ54 gt56 hp => ?_)
          obtain ⟨v58, rfl, rfl, rfl, f57⟩ := hp
          clear gt56
          show Tn _ _ 124 T σ32 [(0, .ref a), (1, .ref t), (2, .int (iI n)), (3, .int (iI i312)), (4, .int (iI i413))] [.int (iI v58)] _
          refine tn_if_eq (tgt := 144) dX0_together_124 (by decide) ⟨by omega, by omega⟩ (fun h59 => ?_) (fun h59 => ?_)
          · refine tn_bipush dX0_together_144 (by decide) ?_
            refine tn_iload_n dX0_together_146 rfl 3 rfl ?_
            refine tn_isub dX0_together_147 ?_
            refine tn_any (fun z60 g61 => ?_)
            have g61r : -2147483648 ≤ z60 ∧ z60 ≤ 2147483647 := g61
            exact tn_iret rfl dX0_together_148 ⟨_, rfl, rfl, w39, (((((FrC.rfl.put (by decide) (by decide)).put (by decide) (by decide)).put (by decide) (by decide)).trans (FrC.sub F18 (by decide))).trans (FrC.sub F40 (by decide))), by omega⟩
          · refine tn_aload_n dX0_together_127 rfl 0 rfl ?_
            refine tn_getR (ci := 0) (i := 1) (n := 1) (x := x44) dX0_together_128 rfl lay_0 (by decide) fl0_20 ha rfl rfl (rc_F F40 (Or.inl (by decide)) (by decide) (rc_F F18 (Or.inl (by decide)) (by decide) (rc_o (by decide) (rc_o (by decide) (rc_o (by decide) (hx45)))))) ?_
            refine tn_getI (ci := 7) (i := 13) (n := 68) (t := σ32.2.1 68 x44) dX0_together_131 rfl lay_7 (by decide) fl0_50 hk46o rfl rfl (rfl) ?_
            have g62 : ((-2147483648 : Int) ≤ σ32.2.1 68 x44 ∧ σ32.2.1 68 x44 ≤ 2147483647) := wf_68 w39 hk46o
            refine tn_aload_n dX0_together_134 rfl 0 rfl ?_
            refine tn_getR (ci := 0) (i := 0) (n := 0) (x := x25) dX0_together_135 rfl lay_0 (by decide) fl0_14 ha rfl rfl (rc_F F40 (Or.inl (by decide)) (by decide) (rc_F F18 (Or.inl (by decide)) (by decide) (rc_o (by decide) (rc_o (by decide) (rc_o (by decide) (hx26)))))) ?_
            refine tn_getI (ci := 7) (i := 13) (n := 68) (t := σ32.2.1 68 x25) dX0_together_138 rfl lay_7 (by decide) fl0_50 hk27o rfl rfl (rfl) ?_
            have g63 : ((-2147483648 : Int) ≤ σ32.2.1 68 x25 ∧ σ32.2.1 68 x25 ≤ 2147483647) := wf_68 w39 hk27o
            refine tn_icmp_eq (tgt := 149) dX0_together_141 (by decide) ⟨by omega, by omega⟩ ⟨by omega, by omega⟩ (fun h64 => ?_) (fun h64 => ?_)
            · refine tn_aload_n dX0_together_149 rfl 0 rfl ?_
              refine tn_aload_n dX0_together_150 rfl 0 rfl ?_
              refine tn_getR (ci := 0) (i := 0) (n := 0) (x := x25) dX0_together_151 rfl lay_0 (by decide) fl0_14 ha rfl rfl (rc_F F40 (Or.inl (by decide)) (by decide) (rc_F F18 (Or.inl (by decide)) (by decide) (rc_o (by decide) (rc_o (by decide) (rc_o (by decide) (hx26)))))) ?_
              refine tn_getI (ci := 7) (i := 1) (n := 56) (t := σ32.2.1 56 x25) dX0_together_154 rfl lay_7 (by decide) fl0_33 hk27o rfl rfl (rfl) ?_
              refine tn_iconst dX0_together_157 ?_
              refine tn_icmp_ne (tgt := 165) dX0_together_158 (by decide) ⟨by omega, by omega⟩ ⟨by decide, by decide⟩ (fun h65 => ?_) (fun h65 => ?_)
              · refine tn_iconst dX0_together_165 ?_
                refine tn_putV (ci := 0) (i := 4) (n := 4) (r := false) (v := 2) tyX0 tyX0_ok nmX0 dX0_together_166 rfl lay_0 (by decide) fl0_30 rfl (tyX0_ok 4 (by decide)) rfl rfl rfl ha rfl rfl ?_
                refine tn_iload_n dX0_together_169 rfl 3 rfl ?_
                exact tn_iret rfl dX0_together_170 ⟨_, rfl, rfl, (w39.put (by decide) (by decide) (fo_4 (by omega))), ((((((FrC.rfl.put (by decide) (by decide)).put (by decide) (by decide)).put (by decide) (by decide)).trans (FrC.sub F18 (by decide))).trans (FrC.sub F40 (by decide))).put (by decide) (by decide)), by omega⟩
              · refine tn_iconst dX0_together_161 ?_
                refine tn_goto (tgt := 166) dX0_together_162 (by decide) ?_
                refine tn_putV (ci := 0) (i := 4) (n := 4) (r := false) (v := 1) tyX0 tyX0_ok nmX0 dX0_together_166 rfl lay_0 (by decide) fl0_30 rfl (tyX0_ok 4 (by decide)) rfl rfl rfl ha rfl rfl ?_
                refine tn_iload_n dX0_together_169 rfl 3 rfl ?_
                exact tn_iret rfl dX0_together_170 ⟨_, rfl, rfl, (w39.put (by decide) (by decide) (fo_4 (by omega))), ((((((FrC.rfl.put (by decide) (by decide)).put (by decide) (by decide)).put (by decide) (by decide)).trans (FrC.sub F18 (by decide))).trans (FrC.sub F40 (by decide))).put (by decide) (by decide)), by omega⟩
            · refine tn_bipush dX0_together_144 (by decide) ?_
              refine tn_iload_n dX0_together_146 rfl 3 rfl ?_
              refine tn_isub dX0_together_147 ?_
              refine tn_any (fun z66 g67 => ?_)
              have g67r : -2147483648 ≤ z66 ∧ z66 ≤ 2147483647 := g67
              exact tn_iret rfl dX0_together_148 ⟨_, rfl, rfl, w39, (((((FrC.rfl.put (by decide) (by decide)).put (by decide) (by decide)).put (by decide) (by decide)).trans (FrC.sub F18 (by decide))).trans (FrC.sub F40 (by decide))), by omega⟩
    · refine tn_iload_n dX0_together_94 rfl 3 rfl ?_
      exact tn_iret rfl dX0_together_95 ⟨_, rfl, rfl, w17, ((((FrC.rfl.put (by decide) (by decide)).put (by decide) (by decide)).put (by decide) (by decide)).trans (FrC.sub F18 (by decide))), by omega⟩
end
section
theorem mlmJ7 : Cond.methodLink RXJ7 304 Lib.Math.min.name ∈ pWW := pw3 (List.mem_of_getElem? (i := 140) rfl) rfl
theorem mlaJ7 : Cond.methodLink RXJ7 150 arraycopyName ∈ pWW := pw3 (List.mem_of_getElem? (i := 141) rfl) rfl

theorem dJ7_copyOf_59c91_0 : decode cJ7_copyOf_59c91 0 = .ok (.iload_n 1, 1) := by decide +kernel
theorem dJ7_copyOf_59c91_1 : decode cJ7_copyOf_59c91 1 = .ok (.aload_n 0, 1) := by decide +kernel
theorem dJ7_copyOf_59c91_2 : decode cJ7_copyOf_59c91 2 = .ok (.arraylength, 1) := by decide +kernel
theorem dJ7_copyOf_59c91_3 : decode cJ7_copyOf_59c91 3 = .ok (.if_icmp .ne 11, 3) := by decide +kernel
theorem dJ7_copyOf_59c91_6 : decode cJ7_copyOf_59c91 6 = .ok (.aload_n 0, 1) := by decide +kernel
theorem dJ7_copyOf_59c91_7 : decode cJ7_copyOf_59c91 7 = .ok (.invokevirtual 316, 3) := by decide +kernel
theorem dJ7_copyOf_59c91_10 : decode cJ7_copyOf_59c91 10 = .ok (.checkcast 317, 3) := by decide +kernel
theorem dJ7_copyOf_59c91_13 : decode cJ7_copyOf_59c91 13 = .ok (.areturn, 1) := by decide +kernel
theorem dJ7_copyOf_59c91_14 : decode cJ7_copyOf_59c91 14 = .ok (.iload_n 1, 1) := by decide +kernel
theorem dJ7_copyOf_59c91_15 : decode cJ7_copyOf_59c91 15 = .ok (.newarray .int, 2) := by decide +kernel
theorem dJ7_copyOf_59c91_17 : decode cJ7_copyOf_59c91 17 = .ok (.astore_n 2, 1) := by decide +kernel
theorem dJ7_copyOf_59c91_18 : decode cJ7_copyOf_59c91 18 = .ok (.aload_n 0, 1) := by decide +kernel
theorem dJ7_copyOf_59c91_19 : decode cJ7_copyOf_59c91 19 = .ok (.iconst 0, 1) := by decide +kernel
theorem dJ7_copyOf_59c91_20 : decode cJ7_copyOf_59c91 20 = .ok (.aload_n 2, 1) := by decide +kernel
theorem dJ7_copyOf_59c91_21 : decode cJ7_copyOf_59c91 21 = .ok (.iconst 0, 1) := by decide +kernel
theorem dJ7_copyOf_59c91_22 : decode cJ7_copyOf_59c91 22 = .ok (.aload_n 0, 1) := by decide +kernel
theorem dJ7_copyOf_59c91_23 : decode cJ7_copyOf_59c91 23 = .ok (.arraylength, 1) := by decide +kernel
theorem dJ7_copyOf_59c91_24 : decode cJ7_copyOf_59c91 24 = .ok (.iload_n 1, 1) := by decide +kernel
theorem dJ7_copyOf_59c91_25 : decode cJ7_copyOf_59c91 25 = .ok (.invokestatic 304, 3) := by decide +kernel
theorem dJ7_copyOf_59c91_28 : decode cJ7_copyOf_59c91 28 = .ok (.invokestatic 150, 3) := by decide +kernel
theorem dJ7_copyOf_59c91_31 : decode cJ7_copyOf_59c91 31 = .ok (.aload_n 2, 1) := by decide +kernel
theorem dJ7_copyOf_59c91_32 : decode cJ7_copyOf_59c91 32 = .ok (.areturn, 1) := by decide +kernel
theorem rowS_rowS {r : Nat} {f g : Int → Int} {σ : MS} : rowS r f (rowS r g σ) = rowS r f σ := by
  unfold rowS
  simp only [Prod.mk.injEq, true_and, and_true]
  funext j
  by_cases h : j = r
  · simp [h]
  · simp [h]
/-- Arrays.copyOf -/
theorem k_copyOf (d : Nat) {T : CT} {σ : MS} {a : Nat} {z : Int} {N : Nat} (ha : IA T a) (hl : (T a).2 ≤ 1000000) (hv : ∀ i, VOK (T a).1 i (σ.2.1 (1000 + a) i)) (hz : z = (N : Int)) (hN : N ≤ 1000000) (hlt : (T a).2 < N) : Tn (d + 1) m_J7_copyOf_59c91 0 T σ [(0, .ref a), (1, .int (iI z))] [] (fun ro T2 σ2 => ∃ (x : Nat) (f : Int → Int), ro = some (.ref x) ∧ (T x).1 = 0 ∧ T2 = tT T x (T a).1 N ∧ σ2 = rowS (1000 + x) f (gh N σ) ∧ ∀ i, VOK (T a).1 i (f i)) := by
  refine tn_iload_n dJ7_copyOf_59c91_0 rfl 1 rfl ?_
  refine tn_aload_n dJ7_copyOf_59c91_1 rfl 0 rfl ?_
  refine tn_alenX dJ7_copyOf_59c91_2 (Or.inl ha) ?_
  refine tn_icmp_ne (tgt := 14) dJ7_copyOf_59c91_3 (by decide) ⟨by omega, by omega⟩ ⟨by omega, by omega⟩ (fun _ => ?_) (fun h => absurd h (by omega))
  refine tn_iload_n dJ7_copyOf_59c91_14 rfl 1 rfl ?_
  refine tn_newI (N := N) (k := (T a).1) dJ7_copyOf_59c91_15 arC_int ha hz hN (fun x hx => ?_)
  have hax : a ≠ x := fun e => by unfold IA at ha; rw [e] at ha; omega
  have hTa : tT T x (T a).1 N a = T a := tT_ne hax
  have ha2 : IA (tT T x (T a).1 N) a := by unfold IA; rw [hTa]; exact ha
  have hx2 : IA (tT T x (T a).1 N) x := by unfold IA; rw [tT_eq]; exact ha
  have hxl : (tT T x (T a).1 N x).2 = N := by rw [tT_eq]
  have hal : (tT T x (T a).1 N a).2 = (T a).2 := by rw [hTa]
  generalize hT2 : tT T x (T a).1 N = T2 at ha2 hx2 hxl hal
  refine tn_astore_n (L' := [(2, .ref x), (0, .ref a), (1, .int (iI z))]) dJ7_copyOf_59c91_17 rfl (by decide) rfl ?_
  refine tn_aload_n dJ7_copyOf_59c91_18 rfl 1 rfl ?_
  refine tn_iconst dJ7_copyOf_59c91_19 ?_
  refine tn_aload_n dJ7_copyOf_59c91_20 rfl 0 rfl ?_
  refine tn_iconst dJ7_copyOf_59c91_21 ?_
  refine tn_aload_n dJ7_copyOf_59c91_22 rfl 1 rfl ?_
  refine tn_alenX dJ7_copyOf_59c91_23 (Or.inl ha2) ?_
  refine tn_iload_n dJ7_copyOf_59c91_24 rfl 2 rfl ?_
  refine tn_mmin (x := ((T2 a).2 : Int)) (y := z) dJ7_copyOf_59c91_25 mlmJ7 stM_min iniM cdM_min (by omega) (Nat.le_of_ble_eq_true rfl) ⟨by omega, by omega⟩ ⟨by omega, by omega⟩ (fun m hm => ?_)
  refine tn_acopyI (a := a) (b := x) (sp := 0) (dp := 0) (n := m) dJ7_copyOf_59c91_28 mlaJ7 acNat acSt acIni ha2 hx2 ⟨by omega, by omega⟩ (by omega) (by omega) (by omega) (by omega) (by omega) (by omega) (Nat.le_of_ble_eq_true rfl) ?_
  refine tn_aload_n dJ7_copyOf_59c91_31 rfl 0 rfl ?_
  refine tn_aret rfl (Or.inr ⟨_, rfl⟩) (Or.inr ⟨_, rfl⟩) dJ7_copyOf_59c91_32 ⟨x, _, rfl, hx, hT2.symm, rowS_rowS, fun i => ?_⟩
  have e1 : (rowS (1000 + x) (fun _ => 0) (gh N σ)).2.1 (1000 + a) = σ.2.1 (1000 + a) := by rw [rowS_ne (by omega)]; rfl
  rw [e1, rowS_eq]
  unfold cpZ
  by_cases h : (0 : Int) ≤ i ∧ i < 0 + m
  · rw [if_pos h, show (0 : Int) + (i - 0) = i by omega]; exact hv i
  · rw [if_neg h]; exact vok_0
section APP
variable {T : CT} {σ τ : MS} {a x y N : Nat} {f : Int → Int}
theorem WTx.app (h : WTx 0 0 T τ a) (ha : OB T a 1) (hy : τ.2.1 5 a = (y : Int)) (hx0 : (T x).1 = 0) (hf : ∀ i, VOK (T y).1 i (f i)) (hl : 208 ≤ N ∧ N ≤ 2600) (h1 : (T y).2 < N) (h2 : N = 2600 ∨ (2 * (T y).2 ≤ N ∧ N < 2600)) (hc : 13 * τ.2.1 6 a ≤ (N : Int) ∨ 2600 ≤ N) : WT (tT T x (T y).1 N) (sA 5 a x (rowS (1000 + x) f (gh N τ))) := by
  obtain ⟨y2, e1, e2, e3, e4⟩ : FO 5 (T a).1 T (τ.2.1 5 a) := h.1 5 a (by decide) ha
  have ey : y2 = y := by omega
  subst ey
  have hk : (T y2).1 = 1 ∨ (11 ≤ (T y2).1 ∧ (T y2).1 ≤ 24) := by omega
  have w := h.newI hx0 hk hf (by omega : 1 ≤ N)
  rw [Nat.zero_add, Nat.zero_add] at w
  have hne : a ≠ x := fun e => by have := ha.1; rw [e] at this; omega
  have hyx : y2 ≠ x := fun e => by rw [e] at hk; omega
  have ga : tT T x (T y2).1 N a = T a := tT_ne hne
  have gy : tT T x (T y2).1 N y2 = T y2 := tT_ne hyx
  refine w.pay5 (y := y2) (ob_tT hx0 ha) ?_ (by rw [tT_eq]) hl (by rw [rowS_ne (by omega)]; exact hy) (by rw [gy]; exact h1) (by rw [gy]; exact h2) (by rw [rowS_ne (by omega)]; exact hc)
  unfold CELL
  rw [ga, tT_eq]
  exact ⟨e3, e4⟩
theorem cell_of (hw : WT T σ) (ha : OB T a 1) (hx : σ.2.1 5 a = (x : Int)) : CELL T a x ∧ IA T x := by
  obtain ⟨y, e1, e2, e3, e4⟩ := wf_5 hw ha
  have e : y = x := by omega
  subst e
  exact ⟨⟨e3, e4⟩, by unfold IA; omega⟩
end APP
/-- the cells have room -/
def HR (T : CT) (σ : MS) (a : Nat) (n : Int) : Prop := ∀ x : Nat, σ.2.1 5 a = (x : Int) → 13 * n ≤ ((T x).2 : Int)
theorem HR.of {T : CT} {σ : MS} {a x : Nat} {n : Int} (hx : σ.2.1 5 a = (x : Int)) (h : 13 * n ≤ ((T x).2 : Int)) : HR T σ a n := fun y q => by
  have e : y = x := by omega
  rw [e]; exact h
end
section
theorem cd_X1_append : Cond.code yX1_append cX1_append 5 none ∈ pWW := pw3 (List.mem_of_getElem? (i := 128) rfl) rfl
abbrev m_X1_append : MT := (yX1_append, cX1_append, 5, none)
theorem ok_X1_append : pOk m_X1_append := ⟨⟨cd_X1_append, ini_1⟩, by decide +kernel, ⟨by decide +kernel, by decide +kernel⟩, Nat.le_of_ble_eq_true rfl⟩
theorem np_X1_append : (parseMethodDescriptor yX1_append.desc).map (fun d => d.parameters.length) = some 3 := by decide +kernel
theorem im_X1_append : Cond.instanceMethod yX1_append ∈ pWW := pw3 (List.mem_of_getElem? (i := 126) rfl) rfl
theorem se_X1_append : Cond.selects RX1 yX1_append yX1_append ∈ pWW := pw3 (List.mem_of_getElem? (i := 127) rfl) rfl
theorem ml1_72 : Cond.methodLink RX1 72 yJ7_fill_fda19 ∈ pWW := pw3 (List.mem_of_getElem? (i := 144) rfl) rfl
theorem mlm1_57 : Cond.methodLink RX1 57 Lib.Math.min.name ∈ pWW := pw3 (List.mem_of_getElem? (i := 129) rfl) rfl
theorem ml1_66 : Cond.methodLink RX1 66 yJ7_copyOf_59c91 ∈ pWW := pw3 (List.mem_of_getElem? (i := 130) rfl) rfl
theorem dX1_append_0 : decode cX1_append 0 = .ok (.aload_n 0, 1) := by decide +kernel
theorem dX1_append_1 : decode cX1_append 1 = .ok (.getfield 33, 3) := by decide +kernel
theorem dX1_append_4 : decode cX1_append 4 = .ok (.bipush 13, 2) := by decide +kernel
theorem dX1_append_6 : decode cX1_append 6 = .ok (.imul, 1) := by decide +kernel
theorem dX1_append_7 : decode cX1_append 7 = .ok (.istore 4, 2) := by decide +kernel
theorem dX1_append_9 : decode cX1_append 9 = .ok (.aload_n 0, 1) := by decide +kernel
theorem dX1_append_10 : decode cX1_append 10 = .ok (.dup, 1) := by decide +kernel
theorem dX1_append_11 : decode cX1_append 11 = .ok (.getfield 33, 3) := by decide +kernel
theorem dX1_append_14 : decode cX1_append 14 = .ok (.iconst 1, 1) := by decide +kernel
theorem dX1_append_15 : decode cX1_append 15 = .ok (.iadd, 1) := by decide +kernel
theorem dX1_append_16 : decode cX1_append 16 = .ok (.putfield 33, 3) := by decide +kernel
theorem dX1_append_19 : decode cX1_append 19 = .ok (.iload 4, 2) := by decide +kernel
theorem dX1_append_21 : decode cX1_append 21 = .ok (.bipush 13, 2) := by decide +kernel
theorem dX1_append_23 : decode cX1_append 23 = .ok (.iadd, 1) := by decide +kernel
theorem dX1_append_24 : decode cX1_append 24 = .ok (.aload_n 0, 1) := by decide +kernel
theorem dX1_append_25 : decode cX1_append 25 = .ok (.getfield 9, 3) := by decide +kernel
theorem dX1_append_28 : decode cX1_append 28 = .ok (.arraylength, 1) := by decide +kernel
theorem dX1_append_29 : decode cX1_append 29 = .ok (.if_icmp .le 37, 3) := by decide +kernel
theorem dX1_append_66 : decode cX1_append 66 = .ok (.iload 4, 2) := by decide +kernel
theorem dX1_append_68 : decode cX1_append 68 = .ok (.ifCond .lt 61, 3) := by decide +kernel
theorem dX1_append_71 : decode cX1_append 71 = .ok (.iload 4, 2) := by decide +kernel
theorem dX1_append_73 : decode cX1_append 73 = .ok (.bipush 13, 2) := by decide +kernel
theorem dX1_append_75 : decode cX1_append 75 = .ok (.iadd, 1) := by decide +kernel
theorem dX1_append_76 : decode cX1_append 76 = .ok (.aload_n 0, 1) := by decide +kernel
theorem dX1_append_77 : decode cX1_append 77 = .ok (.getfield 9, 3) := by decide +kernel
theorem dX1_append_80 : decode cX1_append 80 = .ok (.arraylength, 1) := by decide +kernel
theorem dX1_append_81 : decode cX1_append 81 = .ok (.if_icmp .gt 48, 3) := by decide +kernel
theorem dX1_append_129 : decode cX1_append 129 = .ok (.return_, 1) := by decide +kernel
theorem dX1_append_84 : decode cX1_append 84 = .ok (.aload_n 0, 1) := by decide +kernel
theorem dX1_append_85 : decode cX1_append 85 = .ok (.getfield 9, 3) := by decide +kernel
theorem dX1_append_88 : decode cX1_append 88 = .ok (.iload 4, 2) := by decide +kernel
theorem dX1_append_90 : decode cX1_append 90 = .ok (.iload 4, 2) := by decide +kernel
theorem dX1_append_92 : decode cX1_append 92 = .ok (.bipush 13, 2) := by decide +kernel
theorem dX1_append_94 : decode cX1_append 94 = .ok (.iadd, 1) := by decide +kernel
theorem dX1_append_95 : decode cX1_append 95 = .ok (.iconst 0, 1) := by decide +kernel
theorem dX1_append_96 : decode cX1_append 96 = .ok (.invokestatic 72, 3) := by decide +kernel
theorem dX1_append_99 : decode cX1_append 99 = .ok (.aload_n 0, 1) := by decide +kernel
theorem dX1_append_100 : decode cX1_append 100 = .ok (.getfield 9, 3) := by decide +kernel
theorem dX1_append_103 : decode cX1_append 103 = .ok (.iload 4, 2) := by decide +kernel
theorem dX1_append_105 : decode cX1_append 105 = .ok (.iconst 0, 1) := by decide +kernel
theorem dX1_append_106 : decode cX1_append 106 = .ok (.iadd, 1) := by decide +kernel
theorem dX1_append_107 : decode cX1_append 107 = .ok (.iload_n 1, 1) := by decide +kernel
theorem dX1_append_108 : decode cX1_append 108 = .ok (.iastore, 1) := by decide +kernel
theorem dX1_append_109 : decode cX1_append 109 = .ok (.aload_n 0, 1) := by decide +kernel
theorem dX1_append_110 : decode cX1_append 110 = .ok (.getfield 9, 3) := by decide +kernel
theorem dX1_append_113 : decode cX1_append 113 = .ok (.iload 4, 2) := by decide +kernel
theorem dX1_append_115 : decode cX1_append 115 = .ok (.iconst 1, 1) := by decide +kernel
theorem dX1_append_116 : decode cX1_append 116 = .ok (.iadd, 1) := by decide +kernel
theorem dX1_append_117 : decode cX1_append 117 = .ok (.iload_n 2, 1) := by decide +kernel
theorem dX1_append_118 : decode cX1_append 118 = .ok (.iastore, 1) := by decide +kernel
theorem dX1_append_119 : decode cX1_append 119 = .ok (.aload_n 0, 1) := by decide +kernel
theorem dX1_append_120 : decode cX1_append 120 = .ok (.getfield 9, 3) := by decide +kernel
theorem dX1_append_123 : decode cX1_append 123 = .ok (.iload 4, 2) := by decide +kernel
theorem dX1_append_125 : decode cX1_append 125 = .ok (.iconst 2, 1) := by decide +kernel
theorem dX1_append_126 : decode cX1_append 126 = .ok (.iadd, 1) := by decide +kernel
theorem dX1_append_127 : decode cX1_append 127 = .ok (.iload_n 3, 1) := by decide +kernel
theorem dX1_append_128 : decode cX1_append 128 = .ok (.iastore, 1) := by decide +kernel
theorem dX1_append_32 : decode cX1_append 32 = .ok (.aload_n 0, 1) := by decide +kernel
theorem dX1_append_33 : decode cX1_append 33 = .ok (.getfield 33, 3) := by decide +kernel
theorem dX1_append_36 : decode cX1_append 36 = .ok (.sipush 200, 3) := by decide +kernel
theorem dX1_append_39 : decode cX1_append 39 = .ok (.if_icmp .gt 27, 3) := by decide +kernel
theorem dX1_append_42 : decode cX1_append 42 = .ok (.aload_n 0, 1) := by decide +kernel
theorem dX1_append_43 : decode cX1_append 43 = .ok (.aload_n 0, 1) := by decide +kernel
theorem dX1_append_44 : decode cX1_append 44 = .ok (.getfield 9, 3) := by decide +kernel
theorem dX1_append_47 : decode cX1_append 47 = .ok (.sipush 2600, 3) := by decide +kernel
theorem dX1_append_50 : decode cX1_append 50 = .ok (.iconst 2, 1) := by decide +kernel
theorem dX1_append_51 : decode cX1_append 51 = .ok (.aload_n 0, 1) := by decide +kernel
theorem dX1_append_52 : decode cX1_append 52 = .ok (.getfield 9, 3) := by decide +kernel
theorem dX1_append_55 : decode cX1_append 55 = .ok (.arraylength, 1) := by decide +kernel
theorem dX1_append_56 : decode cX1_append 56 = .ok (.imul, 1) := by decide +kernel
theorem dX1_append_57 : decode cX1_append 57 = .ok (.invokestatic 57, 3) := by decide +kernel
theorem dX1_append_60 : decode cX1_append 60 = .ok (.invokestatic 66, 3) := by decide +kernel
theorem dX1_append_63 : decode cX1_append 63 = .ok (.putfield 9, 3) := by decide +kernel
set_option maxRecDepth 20000 in
theorem k_X1_append (d : Nat) {T : CT} {σ : MS} {a : Nat} {k : Int} {x : Int} {y : Int} (ha : OB T a 1) (hta : (T a).1 = 31) (h_k : -2147483648 ≤ k ∧ k ≤ 2147483647) (h_x : -2147483648 ≤ x ∧ x ≤ 2147483647) (h_y : -2147483648 ≤ y ∧ y ≤ 2147483647) (hw : WT T σ) (hc : σ.2.1 6 a ≤ 4999) (hk : k ≠ 14 ∧ k ≠ 15) : Tn (d + 3) m_X1_append 0 T σ [(0, .ref a), (1, .int (iI k)), (2, .int (iI x)), (3, .int (iI y))] [] (fun ro T2 σ2 => ro = none ∧ WT T2 σ2 ∧ FrC T [5, 6] σ σ2 ∧ (σ2.2.1 6 a = σ.2.1 6 a + 1)) := by
  refine tn_aload_n dX1_append_0 rfl 0 rfl ?_
  refine tn_getI (ci := 1) (i := 1) (n := 6) (t := σ.2.1 6 a) dX1_append_1 rfl lay_1 (by decide) fl1_33 ha rfl rfl (rfl) ?_
  have g1 : ((0 : Int) ≤ σ.2.1 6 a ∧ σ.2.1 6 a ≤ 5000) ∧ ((T a).1 = 50 → σ.2.1 6 a ≤ 200) := wf_6 hw ha
  have g1x := g1.2
  replace g1 := g1.1
  clear g1x
  refine tn_bipush dX1_append_4 (by decide) ?_
  refine tn_imul dX1_append_6 ?_
  refine tn_istore (L' := [(4, .int (iI ((σ.2.1 6 a) * 13))), (0, .ref a), (1, .int (iI k)), (2, .int (iI x)), (3, .int (iI y))]) dX1_append_7 (by decide) rfl ?_
  refine tn_aload_n dX1_append_9 rfl 1 rfl ?_
  refine tn_dup dX1_append_10 rfl ?_
  refine tn_getI (ci := 1) (i := 1) (n := 6) (t := σ.2.1 6 a) dX1_append_11 rfl lay_1 (by decide) fl1_33 ha rfl rfl (rfl) ?_
  refine tn_iconst dX1_append_14 ?_
  refine tn_iadd dX1_append_15 ?_
  obtain ⟨x2, hx3, hl5, hk4a, hk4b⟩ := wf_5 hw ha
  have hk4 : (T x2).1 = 13 := hk4b (by omega)
  clear hk4a hk4b
  have hk4i : IA T x2 := by unfold IA; omega
  have g6 : 13 * σ.2.1 6 a ≤ ((T x2).2 : Int) ∨ 2600 ≤ (T x2).2 := hw.2.1 a x2 ha hx3
  refine tn_putV (ci := 1) (i := 1) (n := 6) (r := false) (v := (σ.2.1 6 a) + 1) tyX1 tyX1_ok nmX1 dX1_append_16 rfl lay_1 (by decide) fl1_33 rfl (tyX1_ok 1 (by decide)) rfl rfl rfl ha rfl rfl ?_
  refine tn_iload dX1_append_19 0 rfl ?_
  refine tn_bipush dX1_append_21 (by decide) ?_
  refine tn_iadd dX1_append_23 ?_
  refine tn_aload_n dX1_append_24 rfl 1 rfl ?_
  refine tn_getR (ci := 1) (i := 0) (n := 5) (x := x2) dX1_append_25 rfl lay_1 (by decide) fl1_9 ha rfl rfl (rc_o (by decide) (hx3)) ?_
  refine tn_alenX dX1_append_28 (Or.inl hk4i) ?_
  refine tn_icmp_le (tgt := 66) dX1_append_29 (by decide) ⟨by omega, by omega⟩ ⟨by omega, by omega⟩ (fun h7 => ?_) (fun h7 => ?_)
  · refine tn_iload dX1_append_66 0 rfl ?_
    refine tn_if_lt (tgt := 129) dX1_append_68 (by decide) ⟨by omega, by omega⟩ (fun h8 => absurd h8 (by omega)) (fun h8 => ?_)
    refine tn_iload dX1_append_71 0 rfl ?_
    refine tn_bipush dX1_append_73 (by decide) ?_
    refine tn_iadd dX1_append_75 ?_
    refine tn_aload_n dX1_append_76 rfl 1 rfl ?_
    refine tn_getR (ci := 1) (i := 0) (n := 5) (x := x2) dX1_append_77 rfl lay_1 (by decide) fl1_9 ha rfl rfl (rc_o (by decide) (hx3)) ?_
    refine tn_alenX dX1_append_80 (Or.inl hk4i) ?_
    refine tn_icmp_gt (tgt := 129) dX1_append_81 (by decide) ⟨by omega, by omega⟩ ⟨by omega, by omega⟩ (fun h9 => ?_) (fun h9 => ?_)
    · have q10 : (sA 6 a ((σ.2.1 6 a) + 1) σ).2.1 6 a = (σ.2.1 6 a) + 1 := ra_eq
      exact tn_vret rfl dX1_append_129 ⟨rfl, (hw.put6 (hx3) (fo_6 ⟨by omega, by omega⟩) (by omega)), (FrC.rfl.put (by decide) (by decide)), by omega⟩
    · refine tn_aload_n dX1_append_84 rfl 1 rfl ?_
      refine tn_getR (ci := 1) (i := 0) (n := 5) (x := x2) dX1_append_85 rfl lay_1 (by decide) fl1_9 ha rfl rfl (rc_o (by decide) (hx3)) ?_
      refine tn_iload dX1_append_88 0 rfl ?_
      refine tn_iload dX1_append_90 0 rfl ?_
      refine tn_bipush dX1_append_92 (by decide) ?_
      refine tn_iadd dX1_append_94 ?_
      refine tn_iconst dX1_append_95 ?_
      refine tn_callS (M := m_X1_append) (pc := 96) (ix := 72) (M' := m_J7_fill_fda19) (As := [.ref x2, .int (iI ((σ.2.1 6 a) * 13)), .int (iI (((σ.2.1 6 a) * 13) + 13)), .int (iI 0)]) (rest := []) dX1_append_96 ok_J7_fill_fda19 stt_J7_fill_fda19 ml1_72 np_J7_fill_fda19 rfl (Nat.le_of_ble_eq_true rfl) (Nat.le_of_ble_eq_true rfl) rfl (k_J7_fill_fda19 (d) (T := T) (σ := (sA 6 a ((σ.2.1 6 a) + 1) σ)) (x := x2) (f := (σ.2.1 6 a) * 13) (t := ((σ.2.1 6 a) * 13) + 13) (y := 0) hk4i (by omega) (by omega) (by omega) (by decide) (hw.put6 (hx3) (fo_6 ⟨by omega, by omega⟩) (by omega)) (nh_k hk4 (by unfold HT; omega)) (by omega) (by omega)) (fun r11 T13 σ12 gt14 hp => ?_)
      obtain ⟨rfl, rfl, w16, F17⟩ := hp
      clear gt14
      show Tn _ _ 99 T σ12 [(4, .int (iI ((σ.2.1 6 a) * 13))), (0, .ref a), (1, .int (iI k)), (2, .int (iI x)), (3, .int (iI y))] [] _
      refine tn_aload_n dX1_append_99 rfl 1 rfl ?_
      refine tn_getR (ci := 1) (i := 0) (n := 5) (x := x2) dX1_append_100 rfl lay_1 (by decide) fl1_9 ha rfl rfl (rc_F F17 (Or.inl (by decide)) (by decide) (rc_o (by decide) (hx3))) ?_
      refine tn_iload dX1_append_103 0 rfl ?_
      refine tn_iconst dX1_append_105 ?_
      refine tn_iadd dX1_append_106 ?_
      refine tn_iload_n dX1_append_107 rfl 2 rfl ?_
      refine tn_iast (z := ((σ.2.1 6 a) * 13) + 0) (v := k) dX1_append_108 hk4i (by omega) (by omega) (by omega) ?_
      refine tn_aload_n dX1_append_109 rfl 1 rfl ?_
      refine tn_getR (ci := 1) (i := 0) (n := 5) (x := x2) dX1_append_110 rfl lay_1 (by decide) fl1_9 ha rfl rfl (rc_a (Or.inl (by decide)) (rc_F F17 (Or.inl (by decide)) (by decide) (rc_o (by decide) (hx3)))) ?_
      refine tn_iload dX1_append_113 0 rfl ?_
      refine tn_iconst dX1_append_115 ?_
      refine tn_iadd dX1_append_116 ?_
      refine tn_iload_n dX1_append_117 rfl 3 rfl ?_
      refine tn_iast (z := ((σ.2.1 6 a) * 13) + 1) (v := x) dX1_append_118 hk4i (by omega) (by omega) (by omega) ?_
      refine tn_aload_n dX1_append_119 rfl 1 rfl ?_
      refine tn_getR (ci := 1) (i := 0) (n := 5) (x := x2) dX1_append_120 rfl lay_1 (by decide) fl1_9 ha rfl rfl (rc_a (Or.inl (by decide)) (rc_a (Or.inl (by decide)) (rc_F F17 (Or.inl (by decide)) (by decide) (rc_o (by decide) (hx3))))) ?_
      refine tn_iload dX1_append_123 0 rfl ?_
      refine tn_iconst dX1_append_125 ?_
      refine tn_iadd dX1_append_126 ?_
      refine tn_iload_n dX1_append_127 rfl 4 rfl ?_
      refine tn_iast (z := ((σ.2.1 6 a) * 13) + 2) (v := y) dX1_append_128 hk4i (by omega) (by omega) (by omega) ?_
      have q18 : (sA (1000 + x2) (((σ.2.1 6 a) * 13) + 2) (y) (sA (1000 + x2) (((σ.2.1 6 a) * 13) + 1) (x) (sA (1000 + x2) (((σ.2.1 6 a) * 13) + 0) (k) σ12))).2.1 6 a = (σ.2.1 6 a) + 1 := rc_a (Or.inl (by decide)) (rc_a (Or.inl (by decide)) (rc_a (Or.inl (by decide)) (rc_F F17 (Or.inl (by decide)) (by decide) (ra_eq))))
      exact tn_vret rfl dX1_append_129 ⟨rfl, (((w16.arr (Or.inl hk4i) (vok_13 (by have q9 := hk4; omega) (by omega) (fun _ q => by omega))).arr (Or.inl hk4i) (vok_13 (by have q9 := hk4; omega) (by omega) (fun _ q => by omega))).arr (Or.inl hk4i) (vok_13 (by have q9 := hk4; omega) (by omega) (fun _ q => by omega))), (((((FrC.rfl.put (by decide) (by decide)).trans (FrC.sub F17 (by decide))).arr (hk_no (nh_k hk4 (by unfold HT; omega)))).arr (hk_no (nh_k hk4 (by unfold HT; omega)))).arr (hk_no (nh_k hk4 (by unfold HT; omega)))), by omega⟩
  · refine tn_aload_n dX1_append_32 rfl 1 rfl ?_
    refine tn_getI (ci := 1) (i := 1) (n := 6) (t := (σ.2.1 6 a) + 1) dX1_append_33 rfl lay_1 (by decide) fl1_33 ha rfl rfl (ra_eq) ?_
    refine tn_sipush dX1_append_36 (by decide) ?_
    refine tn_icmp_gt (tgt := 66) dX1_append_39 (by decide) ⟨by omega, by omega⟩ ⟨by decide, by decide⟩ (fun h19 => ?_) (fun h19 => ?_)
    · refine tn_iload dX1_append_66 0 rfl ?_
      refine tn_if_lt (tgt := 129) dX1_append_68 (by decide) ⟨by omega, by omega⟩ (fun h20 => absurd h20 (by omega)) (fun h20 => ?_)
      refine tn_iload dX1_append_71 0 rfl ?_
      refine tn_bipush dX1_append_73 (by decide) ?_
      refine tn_iadd dX1_append_75 ?_
      refine tn_aload_n dX1_append_76 rfl 1 rfl ?_
      refine tn_getR (ci := 1) (i := 0) (n := 5) (x := x2) dX1_append_77 rfl lay_1 (by decide) fl1_9 ha rfl rfl (rc_o (by decide) (hx3)) ?_
      refine tn_alenX dX1_append_80 (Or.inl hk4i) ?_
      refine tn_icmp_gt (tgt := 129) dX1_append_81 (by decide) ⟨by omega, by omega⟩ ⟨by omega, by omega⟩ (fun h21 => ?_) (fun h21 => ?_)
      · have q22 : (sA 6 a ((σ.2.1 6 a) + 1) σ).2.1 6 a = (σ.2.1 6 a) + 1 := ra_eq
        exact tn_vret rfl dX1_append_129 ⟨rfl, (hw.put6 (hx3) (fo_6 ⟨by omega, by omega⟩) (by omega)), (FrC.rfl.put (by decide) (by decide)), by omega⟩
      · refine tn_aload_n dX1_append_84 rfl 1 rfl ?_
        refine tn_getR (ci := 1) (i := 0) (n := 5) (x := x2) dX1_append_85 rfl lay_1 (by decide) fl1_9 ha rfl rfl (rc_o (by decide) (hx3)) ?_
        refine tn_iload dX1_append_88 0 rfl ?_
        refine tn_iload dX1_append_90 0 rfl ?_
        refine tn_bipush dX1_append_92 (by decide) ?_
        refine tn_iadd dX1_append_94 ?_
        refine tn_iconst dX1_append_95 ?_
        refine tn_callS (M := m_X1_append) (pc := 96) (ix := 72) (M' := m_J7_fill_fda19) (As := [.ref x2, .int (iI ((σ.2.1 6 a) * 13)), .int (iI (((σ.2.1 6 a) * 13) + 13)), .int (iI 0)]) (rest := []) dX1_append_96 ok_J7_fill_fda19 stt_J7_fill_fda19 ml1_72 np_J7_fill_fda19 rfl (Nat.le_of_ble_eq_true rfl) (Nat.le_of_ble_eq_true rfl) rfl (k_J7_fill_fda19 (d) (T := T) (σ := (sA 6 a ((σ.2.1 6 a) + 1) σ)) (x := x2) (f := (σ.2.1 6 a) * 13) (t := ((σ.2.1 6 a) * 13) + 13) (y := 0) hk4i (by omega) (by omega) (by omega) (by decide) (hw.put6 (hx3) (fo_6 ⟨by omega, by omega⟩) (by omega)) (nh_k hk4 (by unfold HT; omega)) (by omega) (by omega)) (fun r23 T25 σ24 gt26 hp => ?_)
        obtain ⟨rfl, rfl, w28, F29⟩ := hp
        clear gt26
        show Tn _ _ 99 T σ24 [(4, .int (iI ((σ.2.1 6 a) * 13))), (0, .ref a), (1, .int (iI k)), (2, .int (iI x)), (3, .int (iI y))] [] _
        refine tn_aload_n dX1_append_99 rfl 1 rfl ?_
        refine tn_getR (ci := 1) (i := 0) (n := 5) (x := x2) dX1_append_100 rfl lay_1 (by decide) fl1_9 ha rfl rfl (rc_F F29 (Or.inl (by decide)) (by decide) (rc_o (by decide) (hx3))) ?_
        refine tn_iload dX1_append_103 0 rfl ?_
        refine tn_iconst dX1_append_105 ?_
        refine tn_iadd dX1_append_106 ?_
        refine tn_iload_n dX1_append_107 rfl 2 rfl ?_
        refine tn_iast (z := ((σ.2.1 6 a) * 13) + 0) (v := k) dX1_append_108 hk4i (by omega) (by omega) (by omega) ?_
        refine tn_aload_n dX1_append_109 rfl 1 rfl ?_
        refine tn_getR (ci := 1) (i := 0) (n := 5) (x := x2) dX1_append_110 rfl lay_1 (by decide) fl1_9 ha rfl rfl (rc_a (Or.inl (by decide)) (rc_F F29 (Or.inl (by decide)) (by decide) (rc_o (by decide) (hx3)))) ?_
        refine tn_iload dX1_append_113 0 rfl ?_
        refine tn_iconst dX1_append_115 ?_
        refine tn_iadd dX1_append_116 ?_
        refine tn_iload_n dX1_append_117 rfl 3 rfl ?_
        refine tn_iast (z := ((σ.2.1 6 a) * 13) + 1) (v := x) dX1_append_118 hk4i (by omega) (by omega) (by omega) ?_
        refine tn_aload_n dX1_append_119 rfl 1 rfl ?_
        refine tn_getR (ci := 1) (i := 0) (n := 5) (x := x2) dX1_append_120 rfl lay_1 (by decide) fl1_9 ha rfl rfl (rc_a (Or.inl (by decide)) (rc_a (Or.inl (by decide)) (rc_F F29 (Or.inl (by decide)) (by decide) (rc_o (by decide) (hx3))))) ?_
        refine tn_iload dX1_append_123 0 rfl ?_
        refine tn_iconst dX1_append_125 ?_
        refine tn_iadd dX1_append_126 ?_
        refine tn_iload_n dX1_append_127 rfl 4 rfl ?_
        refine tn_iast (z := ((σ.2.1 6 a) * 13) + 2) (v := y) dX1_append_128 hk4i (by omega) (by omega) (by omega) ?_
        have q30 : (sA (1000 + x2) (((σ.2.1 6 a) * 13) + 2) (y) (sA (1000 + x2) (((σ.2.1 6 a) * 13) + 1) (x) (sA (1000 + x2) (((σ.2.1 6 a) * 13) + 0) (k) σ24))).2.1 6 a = (σ.2.1 6 a) + 1 := rc_a (Or.inl (by decide)) (rc_a (Or.inl (by decide)) (rc_a (Or.inl (by decide)) (rc_F F29 (Or.inl (by decide)) (by decide) (ra_eq))))
        exact tn_vret rfl dX1_append_129 ⟨rfl, (((w28.arr (Or.inl hk4i) (vok_13 (by have q9 := hk4; omega) (by omega) (fun _ q => by omega))).arr (Or.inl hk4i) (vok_13 (by have q9 := hk4; omega) (by omega) (fun _ q => by omega))).arr (Or.inl hk4i) (vok_13 (by have q9 := hk4; omega) (by omega) (fun _ q => by omega))), (((((FrC.rfl.put (by decide) (by decide)).trans (FrC.sub F29 (by decide))).arr (hk_no (nh_k hk4 (by unfold HT; omega)))).arr (hk_no (nh_k hk4 (by unfold HT; omega)))).arr (hk_no (nh_k hk4 (by unfold HT; omega)))), by omega⟩
    · refine tn_aload_n dX1_append_42 rfl 1 rfl ?_
      refine tn_aload_n dX1_append_43 rfl 1 rfl ?_
      refine tn_getR (ci := 1) (i := 0) (n := 5) (x := x2) dX1_append_44 rfl lay_1 (by decide) fl1_9 ha rfl rfl (rc_o (by decide) (hx3)) ?_
      refine tn_sipush dX1_append_47 (by decide) ?_
      refine tn_iconst dX1_append_50 ?_
      refine tn_aload_n dX1_append_51 rfl 1 rfl ?_
      refine tn_getR (ci := 1) (i := 0) (n := 5) (x := x2) dX1_append_52 rfl lay_1 (by decide) fl1_9 ha rfl rfl (rc_o (by decide) (hx3)) ?_
      refine tn_alenX dX1_append_55 (Or.inl hk4i) ?_
      refine tn_imul dX1_append_56 ?_
      refine tn_mmin (x := 2600) (y := 2 * (((T x2).2 : Int))) dX1_append_57 mlm1_57 stM_min iniM cdM_min (by omega) (Nat.le_of_ble_eq_true rfl) ⟨by omega, by omega⟩ ⟨by omega, by omega⟩ (fun z31 g32 => ?_)
      obtain ⟨N43, N43e⟩ : ∃ N : Nat, z31 = (N : Int) := ⟨(z31).toNat, by omega⟩
      refine tn_callS (M := m_X1_append) (pc := 60) (ix := 66) (M' := m_J7_copyOf_59c91) (As := [.ref x2, .int (iI z31)]) (rest := [.ref a]) dX1_append_60 ok_J7_copyOf_59c91 stt_J7_copyOf_59c91 ml1_66 np_J7_copyOf_59c91 rfl (Nat.le_of_ble_eq_true rfl) (Nat.le_of_ble_eq_true rfl) rfl (k_copyOf (d + 1) (T := T) (σ := (sA 6 a ((σ.2.1 6 a) + 1) σ)) (a := x2) (z := z31) (N := N43) hk4i (by omega) (fun i => by rw [sA_k (by omega)]; exact (hw.2.2.1 x2 (Or.inl hk4i) i)) N43e (by omega) (by omega)) (fun r33 T34 σ35 gt36 hp => ?_)
      obtain ⟨x37, f38, rfl, hx39, hT40, hs41, hf42⟩ := hp
      show Tn _ _ 63 T34 σ35 [(4, .int (iI ((σ.2.1 6 a) * 13))), (0, .ref a), (1, .int (iI k)), (2, .int (iI x)), (3, .int (iI y))] [.ref x37, .ref a] _
      have ob52 := ha
      replace ha : OB T34 a 1 := gt36.ob ha
      replace hta : (T34 a).1 = 31 := gt36.kk hta (by decide) (by decide)
      refine tn_putV (ci := 1) (i := 0) (n := 5) (r := true) (v := (x37 : Int)) tyX1 tyX1_ok nmX1 dX1_append_63 rfl lay_1 (by decide) fl1_9 rfl (tyX1_ok 0 (by decide)) (vl_ref rfl).symm rfl rfl (gt36.ob ob52) rfl rfl ?_
      obtain ⟨σ44, h45⟩ : ∃ s, s = (sA 5 a (x37 : Int) σ35) := ⟨_, rfl⟩
      rw [← h45]
      have w46 : WT T34 σ44 := by
        rw [h45, hs41, hT40]
        exact WTx.app (hw.put6x (fo_6 ⟨by omega, by omega⟩)) ob52 (rc_o (by decide) (hx3)) hx39 hf42 ⟨by omega, by omega⟩ (by omega) (by omega) (by rw [show (sA 6 a ((σ.2.1 6 a) + 1) σ).2.1 6 a = (σ.2.1 6 a) + 1 from ra_eq]; omega)
      have F47 : FrC T [5, 6] σ σ44 := by
        rw [h45, hs41]
        exact FrC.put (FrC.row (FrC.gh (FrC.rfl.put (by decide) (by decide))) (hk_no (by unfold NH HT; omega))) (by decide) (by decide)
      have c48 : σ44.2.1 6 a = (σ.2.1 6 a) + 1 := by rw [h45, hs41]; exact rc_o (by decide) (rc_r (Or.inl (by decide)) (ra_eq))
      have q49 : σ44.2.1 5 a = (x37 : Int) := by rw [h45]; exact ra_eq
      have l50 : (T34 x37).2 = N43 := by rw [hT40, tT_eq]
      obtain ⟨cx51, cx51i⟩ := cell_of w46 (gt36.ob ob52) q49
      have cx51t : (T34 x37).1 = 13 := cx51.2 (by omega)
      show Tn _ _ 66 T34 σ44 [(4, .int (iI ((σ.2.1 6 a) * 13))), (0, .ref a), (1, .int (iI k)), (2, .int (iI x)), (3, .int (iI y))] [] _
      refine tn_iload dX1_append_66 0 rfl ?_
      refine tn_if_lt (tgt := 129) dX1_append_68 (by decide) ⟨by omega, by omega⟩ (fun h53 => absurd h53 (by omega)) (fun h53 => ?_)
      refine tn_iload dX1_append_71 0 rfl ?_
      refine tn_bipush dX1_append_73 (by decide) ?_
      refine tn_iadd dX1_append_75 ?_
      refine tn_aload_n dX1_append_76 rfl 1 rfl ?_
      refine tn_getR (ci := 1) (i := 0) (n := 5) (x := x37) dX1_append_77 rfl lay_1 (by decide) fl1_9 ha rfl rfl (q49) ?_
      refine tn_alenX dX1_append_80 (Or.inl cx51i) ?_
      refine tn_icmp_gt (tgt := 129) dX1_append_81 (by decide) ⟨by omega, by omega⟩ ⟨by omega, by omega⟩ (fun h54 => ?_) (fun h54 => ?_)
      · have q55 : σ44.2.1 6 a = σ44.2.1 6 a := rfl
        exact tn_vret rfl dX1_append_129 ⟨rfl, w46, (FrC.rfl.trans (FrC.sub F47 (by decide))), by omega⟩
      · refine tn_aload_n dX1_append_84 rfl 1 rfl ?_
        refine tn_getR (ci := 1) (i := 0) (n := 5) (x := x37) dX1_append_85 rfl lay_1 (by decide) fl1_9 ha rfl rfl (q49) ?_
        refine tn_iload dX1_append_88 0 rfl ?_
        refine tn_iload dX1_append_90 0 rfl ?_
        refine tn_bipush dX1_append_92 (by decide) ?_
        refine tn_iadd dX1_append_94 ?_
        refine tn_iconst dX1_append_95 ?_
        refine tn_callS (M := m_X1_append) (pc := 96) (ix := 72) (M' := m_J7_fill_fda19) (As := [.ref x37, .int (iI ((σ.2.1 6 a) * 13)), .int (iI (((σ.2.1 6 a) * 13) + 13)), .int (iI 0)]) (rest := []) dX1_append_96 ok_J7_fill_fda19 stt_J7_fill_fda19 ml1_72 np_J7_fill_fda19 rfl (Nat.le_of_ble_eq_true rfl) (Nat.le_of_ble_eq_true rfl) rfl (k_J7_fill_fda19 (d) (T := T34) (σ := σ44) (x := x37) (f := (σ.2.1 6 a) * 13) (t := ((σ.2.1 6 a) * 13) + 13) (y := 0) cx51i (by omega) (by omega) (by omega) (by decide) w46 (nh_k cx51t (by unfold HT; omega)) (by omega) (by omega)) (fun r56 T58 σ57 gt59 hp => ?_)
        obtain ⟨rfl, rfl, w61, F62⟩ := hp
        clear gt59
        show Tn _ _ 99 T34 σ57 [(4, .int (iI ((σ.2.1 6 a) * 13))), (0, .ref a), (1, .int (iI k)), (2, .int (iI x)), (3, .int (iI y))] [] _
        refine tn_aload_n dX1_append_99 rfl 1 rfl ?_
        refine tn_getR (ci := 1) (i := 0) (n := 5) (x := x37) dX1_append_100 rfl lay_1 (by decide) fl1_9 ha rfl rfl (rc_F F62 (Or.inl (by decide)) (by decide) (q49)) ?_
        refine tn_iload dX1_append_103 0 rfl ?_
        refine tn_iconst dX1_append_105 ?_
        refine tn_iadd dX1_append_106 ?_
        refine tn_iload_n dX1_append_107 rfl 2 rfl ?_
        refine tn_iast (z := ((σ.2.1 6 a) * 13) + 0) (v := k) dX1_append_108 cx51i (by omega) (by omega) (by omega) ?_
        refine tn_aload_n dX1_append_109 rfl 1 rfl ?_
        refine tn_getR (ci := 1) (i := 0) (n := 5) (x := x37) dX1_append_110 rfl lay_1 (by decide) fl1_9 ha rfl rfl (rc_a (Or.inl (by decide)) (rc_F F62 (Or.inl (by decide)) (by decide) (q49))) ?_
        refine tn_iload dX1_append_113 0 rfl ?_
        refine tn_iconst dX1_append_115 ?_
        refine tn_iadd dX1_append_116 ?_
        refine tn_iload_n dX1_append_117 rfl 3 rfl ?_
        refine tn_iast (z := ((σ.2.1 6 a) * 13) + 1) (v := x) dX1_append_118 cx51i (by omega) (by omega) (by omega) ?_
        refine tn_aload_n dX1_append_119 rfl 1 rfl ?_
        refine tn_getR (ci := 1) (i := 0) (n := 5) (x := x37) dX1_append_120 rfl lay_1 (by decide) fl1_9 ha rfl rfl (rc_a (Or.inl (by decide)) (rc_a (Or.inl (by decide)) (rc_F F62 (Or.inl (by decide)) (by decide) (q49)))) ?_
        refine tn_iload dX1_append_123 0 rfl ?_
        refine tn_iconst dX1_append_125 ?_
        refine tn_iadd dX1_append_126 ?_
        refine tn_iload_n dX1_append_127 rfl 4 rfl ?_
        refine tn_iast (z := ((σ.2.1 6 a) * 13) + 2) (v := y) dX1_append_128 cx51i (by omega) (by omega) (by omega) ?_
        have q63 : (sA (1000 + x37) (((σ.2.1 6 a) * 13) + 2) (y) (sA (1000 + x37) (((σ.2.1 6 a) * 13) + 1) (x) (sA (1000 + x37) (((σ.2.1 6 a) * 13) + 0) (k) σ57))).2.1 6 a = σ44.2.1 6 a := rc_a (Or.inl (by decide)) (rc_a (Or.inl (by decide)) (rc_a (Or.inl (by decide)) (rc_F F62 (Or.inl (by decide)) (by decide) (rfl))))
        exact tn_vret rfl dX1_append_129 ⟨rfl, (((w61.arr (Or.inl cx51i) (vok_13 (by have q9 := cx51t; omega) (by omega) (fun _ q => by omega))).arr (Or.inl cx51i) (vok_13 (by have q9 := cx51t; omega) (by omega) (fun _ q => by omega))).arr (Or.inl cx51i) (vok_13 (by have q9 := cx51t; omega) (by omega) (fun _ q => by omega))), (((((FrC.rfl.trans (FrC.sub F47 (by decide))).trans (FrC.sub (FrC.old F62 gt36) (by decide))).arr (hk_no (GT.nh gt36 (nh_k cx51t (by unfold HT; omega))))).arr (hk_no (GT.nh gt36 (nh_k cx51t (by unfold HT; omega))))).arr (hk_no (GT.nh gt36 (nh_k cx51t (by unfold HT; omega))))), by omega⟩
end
section
theorem cd_X1_holdRows : Cond.code yX1_holdRows cX1_holdRows 3 (some .boolean) ∈ pWW := pw4 (List.mem_of_getElem? (i := 39) rfl) rfl
abbrev m_X1_holdRows : MT := (yX1_holdRows, cX1_holdRows, 3, (some .boolean))
theorem ok_X1_holdRows : pOk m_X1_holdRows := ⟨⟨cd_X1_holdRows, ini_1⟩, by decide +kernel, ⟨by decide +kernel, by decide +kernel⟩, Nat.le_of_ble_eq_true rfl⟩
theorem np_X1_holdRows : (parseMethodDescriptor yX1_holdRows.desc).map (fun d => d.parameters.length) = some 1 := by decide +kernel
theorem im_X1_holdRows : Cond.instanceMethod yX1_holdRows ∈ pWW := pw4 (List.mem_of_getElem? (i := 38) rfl) rfl
theorem se_X1_holdRows : Cond.selects RX1 yX1_holdRows yX1_holdRows ∈ pWW := pws (List.mem_map.mpr ⟨_, lw_pin 36 rfl, rfl⟩) rfl
theorem dX1_holdRows_0 : decode cX1_holdRows 0 = .ok (.iload_n 1, 1) := by decide +kernel
theorem dX1_holdRows_1 : decode cX1_holdRows 1 = .ok (.ifCond .lt 10, 3) := by decide +kernel
theorem dX1_holdRows_11 : decode cX1_holdRows 11 = .ok (.iconst 0, 1) := by decide +kernel
theorem dX1_holdRows_12 : decode cX1_holdRows 12 = .ok (.ireturn, 1) := by decide +kernel
theorem dX1_holdRows_4 : decode cX1_holdRows 4 = .ok (.iload_n 1, 1) := by decide +kernel
theorem dX1_holdRows_5 : decode cX1_holdRows 5 = .ok (.sipush 200, 3) := by decide +kernel
theorem dX1_holdRows_8 : decode cX1_holdRows 8 = .ok (.if_icmp .le 5, 3) := by decide +kernel
theorem dX1_holdRows_13 : decode cX1_holdRows 13 = .ok (.iload_n 1, 1) := by decide +kernel
theorem dX1_holdRows_14 : decode cX1_holdRows 14 = .ok (.bipush 13, 2) := by decide +kernel
theorem dX1_holdRows_16 : decode cX1_holdRows 16 = .ok (.imul, 1) := by decide +kernel
theorem dX1_holdRows_17 : decode cX1_holdRows 17 = .ok (.aload_n 0, 1) := by decide +kernel
theorem dX1_holdRows_18 : decode cX1_holdRows 18 = .ok (.getfield 9, 3) := by decide +kernel
theorem dX1_holdRows_21 : decode cX1_holdRows 21 = .ok (.arraylength, 1) := by decide +kernel
theorem dX1_holdRows_22 : decode cX1_holdRows 22 = .ok (.if_icmp .le 36, 3) := by decide +kernel
theorem dX1_holdRows_58 : decode cX1_holdRows 58 = .ok (.iconst 1, 1) := by decide +kernel
theorem dX1_holdRows_59 : decode cX1_holdRows 59 = .ok (.ireturn, 1) := by decide +kernel
theorem dX1_holdRows_25 : decode cX1_holdRows 25 = .ok (.sipush 2600, 3) := by decide +kernel
theorem dX1_holdRows_28 : decode cX1_holdRows 28 = .ok (.iconst 2, 1) := by decide +kernel
theorem dX1_holdRows_29 : decode cX1_holdRows 29 = .ok (.aload_n 0, 1) := by decide +kernel
theorem dX1_holdRows_30 : decode cX1_holdRows 30 = .ok (.getfield 9, 3) := by decide +kernel
theorem dX1_holdRows_33 : decode cX1_holdRows 33 = .ok (.arraylength, 1) := by decide +kernel
theorem dX1_holdRows_34 : decode cX1_holdRows 34 = .ok (.imul, 1) := by decide +kernel
theorem dX1_holdRows_35 : decode cX1_holdRows 35 = .ok (.invokestatic 57, 3) := by decide +kernel
theorem dX1_holdRows_38 : decode cX1_holdRows 38 = .ok (.istore_n 2, 1) := by decide +kernel
theorem dX1_holdRows_39 : decode cX1_holdRows 39 = .ok (.aload_n 0, 1) := by decide +kernel
theorem dX1_holdRows_40 : decode cX1_holdRows 40 = .ok (.aload_n 0, 1) := by decide +kernel
theorem dX1_holdRows_41 : decode cX1_holdRows 41 = .ok (.getfield 9, 3) := by decide +kernel
theorem dX1_holdRows_44 : decode cX1_holdRows 44 = .ok (.iload_n 1, 1) := by decide +kernel
theorem dX1_holdRows_45 : decode cX1_holdRows 45 = .ok (.bipush 13, 2) := by decide +kernel
theorem dX1_holdRows_47 : decode cX1_holdRows 47 = .ok (.imul, 1) := by decide +kernel
theorem dX1_holdRows_48 : decode cX1_holdRows 48 = .ok (.iload_n 2, 1) := by decide +kernel
theorem dX1_holdRows_49 : decode cX1_holdRows 49 = .ok (.invokestatic 63, 3) := by decide +kernel
theorem dX1_holdRows_52 : decode cX1_holdRows 52 = .ok (.invokestatic 66, 3) := by decide +kernel
theorem dX1_holdRows_55 : decode cX1_holdRows 55 = .ok (.putfield 9, 3) := by decide +kernel
set_option maxRecDepth 20000 in
theorem k_X1_holdRows (d : Nat) {T : CT} {σ : MS} {a : Nat} {n : Int} (ha : OB T a 1) (hta : (T a).1 = 50) (h_n : -2147483648 ≤ n ∧ n ≤ 2147483647) (hw : WT T σ) : Tn (d + 2) m_X1_holdRows 0 T σ [(0, .ref a), (1, .int (iI n))] [] (fun ro T2 σ2 => ∃ v : Int, ro = some (.int (iI v)) ∧ WT T2 σ2 ∧ FrC T [5] σ σ2 ∧ (v = 0 ∨ v = 1) ∧ (v = 1 → (0 ≤ n ∧ n ≤ 200) ∧ HR T2 σ2 a n)) := by
  refine tn_iload_n dX1_holdRows_0 rfl 1 rfl ?_
  refine tn_if_lt (tgt := 11) dX1_holdRows_1 (by decide) ⟨by omega, by omega⟩ (fun h1 => ?_) (fun h1 => ?_)
  · refine tn_iconst dX1_holdRows_11 ?_
    exact tn_zret (v := 0) rfl (by decide) dX1_holdRows_12 ⟨_, rfl, hw, FrC.rfl, by omega, fun q => absurd q (by decide)⟩
  · refine tn_iload_n dX1_holdRows_4 rfl 1 rfl ?_
    refine tn_sipush dX1_holdRows_5 (by decide) ?_
    refine tn_icmp_le (tgt := 13) dX1_holdRows_8 (by decide) ⟨by omega, by omega⟩ ⟨by decide, by decide⟩ (fun h2 => ?_) (fun h2 => ?_)
    · refine tn_iload_n dX1_holdRows_13 rfl 1 rfl ?_
      refine tn_bipush dX1_holdRows_14 (by decide) ?_
      refine tn_imul dX1_holdRows_16 ?_
      refine tn_aload_n dX1_holdRows_17 rfl 0 rfl ?_
      obtain ⟨x3, hx4, hl6, hk5a, hk5b⟩ := wf_5 hw ha
      have hk5 : (T x3).1 = 1 := hk5a (by omega)
      clear hk5a hk5b
      have hk5i : IA T x3 := by unfold IA; omega
      refine tn_getR (ci := 1) (i := 0) (n := 5) (x := x3) dX1_holdRows_18 rfl lay_1 (by decide) fl1_9 ha rfl rfl (hx4) ?_
      refine tn_alenX dX1_holdRows_21 (Or.inl hk5i) ?_
      refine tn_icmp_le (tgt := 58) dX1_holdRows_22 (by decide) ⟨by omega, by omega⟩ ⟨by omega, by omega⟩ (fun h7 => ?_) (fun h7 => ?_)
      · refine tn_iconst dX1_holdRows_58 ?_
        exact tn_zret (v := 1) rfl (by decide) dX1_holdRows_59 ⟨_, rfl, hw, FrC.rfl, by omega, fun _ => ⟨⟨by omega, by omega⟩, HR.of (hx4) (by omega)⟩⟩
      · refine tn_sipush dX1_holdRows_25 (by decide) ?_
        refine tn_iconst dX1_holdRows_28 ?_
        refine tn_aload_n dX1_holdRows_29 rfl 0 rfl ?_
        refine tn_getR (ci := 1) (i := 0) (n := 5) (x := x3) dX1_holdRows_30 rfl lay_1 (by decide) fl1_9 ha rfl rfl (hx4) ?_
        refine tn_alenX dX1_holdRows_33 (Or.inl hk5i) ?_
        refine tn_imul dX1_holdRows_34 ?_
        refine tn_mmin (x := 2600) (y := 2 * (((T x3).2 : Int))) dX1_holdRows_35 mlm1_57 stM_min iniM cdM_min (by omega) (Nat.le_of_ble_eq_true rfl) ⟨by omega, by omega⟩ ⟨by omega, by omega⟩ (fun z8 g9 => ?_)
        refine tn_istore_n (L' := [(2, .int (iI z8)), (0, .ref a), (1, .int (iI n))]) dX1_holdRows_38 rfl (by decide) rfl ?_
        refine tn_aload_n dX1_holdRows_39 rfl 1 rfl ?_
        refine tn_aload_n dX1_holdRows_40 rfl 1 rfl ?_
        refine tn_getR (ci := 1) (i := 0) (n := 5) (x := x3) dX1_holdRows_41 rfl lay_1 (by decide) fl1_9 ha rfl rfl (hx4) ?_
        refine tn_iload_n dX1_holdRows_44 rfl 2 rfl ?_
        refine tn_bipush dX1_holdRows_45 (by decide) ?_
        refine tn_imul dX1_holdRows_47 ?_
        refine tn_iload_n dX1_holdRows_48 rfl 0 rfl ?_
        refine tn_mmax (x := n * 13) (y := z8) dX1_holdRows_49 mlm1_63 stM_max iniM cdM_max (by omega) (Nat.le_of_ble_eq_true rfl) ⟨by omega, by omega⟩ ⟨by omega, by omega⟩ (fun z10 g11 => ?_)
        have g23 : 13 * σ.2.1 6 a ≤ ((T x3).2 : Int) ∨ 2600 ≤ (T x3).2 := hw.2.1 a x3 ha hx4
        obtain ⟨N22, N22e⟩ : ∃ N : Nat, z10 = (N : Int) := ⟨(z10).toNat, by omega⟩
        refine tn_callS (M := m_X1_holdRows) (pc := 52) (ix := 66) (M' := m_J7_copyOf_59c91) (As := [.ref x3, .int (iI z10)]) (rest := [.ref a]) dX1_holdRows_52 ok_J7_copyOf_59c91 stt_J7_copyOf_59c91 ml1_66 np_J7_copyOf_59c91 rfl (Nat.le_of_ble_eq_true rfl) (Nat.le_of_ble_eq_true rfl) rfl (k_copyOf (d) (T := T) (σ := σ) (a := x3) (z := z10) (N := N22) hk5i (by omega) (fun i => by exact (hw.2.2.1 x3 (Or.inl hk5i) i)) N22e (by omega) (by omega)) (fun r12 T13 σ14 gt15 hp => ?_)
        obtain ⟨x16, f17, rfl, hx18, hT19, hs20, hf21⟩ := hp
        show Tn _ _ 55 T13 σ14 [(2, .int (iI z8)), (0, .ref a), (1, .int (iI n))] [.ref x16, .ref a] _
        have ob32 := ha
        replace ha : OB T13 a 1 := gt15.ob ha
        replace hta : (T13 a).1 = 50 := gt15.kk hta (by decide) (by decide)
        refine tn_putV (ci := 1) (i := 0) (n := 5) (r := true) (v := (x16 : Int)) tyX1 tyX1_ok nmX1 dX1_holdRows_55 rfl lay_1 (by decide) fl1_9 rfl (tyX1_ok 0 (by decide)) (vl_ref rfl).symm rfl rfl (gt15.ob ob32) rfl rfl ?_
        obtain ⟨σ24, h25⟩ : ∃ s, s = (sA 5 a (x16 : Int) σ14) := ⟨_, rfl⟩
        rw [← h25]
        have w26 : WT T13 σ24 := by
          rw [h25, hs20, hT19]
          exact WTx.app (hw.wx) ob32 (hx4) hx18 hf21 ⟨by omega, by omega⟩ (by omega) (by omega) (by rw [show σ.2.1 6 a = σ.2.1 6 a from rfl]; omega)
        have F27 : FrC T [5] σ σ24 := by
          rw [h25, hs20]
          exact FrC.put (FrC.row (FrC.gh FrC.rfl) (hk_no (by unfold NH HT; omega))) (by decide) (by decide)
        have c28 : σ24.2.1 6 a = σ.2.1 6 a := by rw [h25, hs20]; exact rc_o (by decide) (rc_r (Or.inl (by decide)) (rfl))
        have q29 : σ24.2.1 5 a = (x16 : Int) := by rw [h25]; exact ra_eq
        have l30 : (T13 x16).2 = N22 := by rw [hT19, tT_eq]
        obtain ⟨cx31, cx31i⟩ := cell_of w26 (gt15.ob ob32) q29
        have cx31t : (T13 x16).1 = 1 := cx31.1 (by omega)
        show Tn _ _ 58 T13 σ24 [(2, .int (iI z8)), (0, .ref a), (1, .int (iI n))] [] _
        refine tn_iconst dX1_holdRows_58 ?_
        exact tn_zret (v := 1) rfl (by decide) dX1_holdRows_59 ⟨_, rfl, w26, (FrC.rfl.trans (FrC.sub F27 (by decide))), by omega, fun _ => ⟨⟨by omega, by omega⟩, HR.of (q29) (by omega)⟩⟩
    · refine tn_iconst dX1_holdRows_11 ?_
      exact tn_zret (v := 0) rfl (by decide) dX1_holdRows_12 ⟨_, rfl, hw, FrC.rfl, by omega, fun q => absurd q (by decide)⟩
end
section
theorem cd_X1_openRows : Cond.code yX1_openRows cX1_openRows 3 (some .boolean) ∈ pWW := pw5 (List.mem_of_getElem? (i := 171) rfl) rfl
abbrev m_X1_openRows : MT := (yX1_openRows, cX1_openRows, 3, (some .boolean))
theorem ok_X1_openRows : pOk m_X1_openRows := ⟨⟨cd_X1_openRows, ini_1⟩, by decide +kernel, ⟨by decide +kernel, by decide +kernel⟩, Nat.le_of_ble_eq_true rfl⟩
theorem np_X1_openRows : (parseMethodDescriptor yX1_openRows.desc).map (fun d => d.parameters.length) = some 2 := by decide +kernel
theorem im_X1_openRows : Cond.instanceMethod yX1_openRows ∈ pWW := pw5 (List.mem_of_getElem? (i := 169) rfl) rfl
theorem se_X1_openRows : Cond.selects RX1 yX1_openRows yX1_openRows ∈ pWW := pw5 (List.mem_of_getElem? (i := 170) rfl) rfl
theorem ml1_76 : Cond.methodLink RX1 76 yX1_holdRows ∈ pWW := pw4 (List.mem_of_getElem? (i := 36) rfl) rfl
theorem dX1_openRows_0 : decode cX1_openRows 0 = .ok (.iload_n 2, 1) := by decide +kernel
theorem dX1_openRows_1 : decode cX1_openRows 1 = .ok (.ifCond .lt 28, 3) := by decide +kernel
theorem dX1_openRows_29 : decode cX1_openRows 29 = .ok (.iconst 0, 1) := by decide +kernel
theorem dX1_openRows_30 : decode cX1_openRows 30 = .ok (.ireturn, 1) := by decide +kernel
theorem dX1_openRows_4 : decode cX1_openRows 4 = .ok (.iload_n 1, 1) := by decide +kernel
theorem dX1_openRows_5 : decode cX1_openRows 5 = .ok (.ifCond .lt 24, 3) := by decide +kernel
theorem dX1_openRows_8 : decode cX1_openRows 8 = .ok (.iload_n 1, 1) := by decide +kernel
theorem dX1_openRows_9 : decode cX1_openRows 9 = .ok (.aload_n 0, 1) := by decide +kernel
theorem dX1_openRows_10 : decode cX1_openRows 10 = .ok (.getfield 33, 3) := by decide +kernel
theorem dX1_openRows_13 : decode cX1_openRows 13 = .ok (.if_icmp .gt 16, 3) := by decide +kernel
theorem dX1_openRows_16 : decode cX1_openRows 16 = .ok (.aload_n 0, 1) := by decide +kernel
theorem dX1_openRows_17 : decode cX1_openRows 17 = .ok (.aload_n 0, 1) := by decide +kernel
theorem dX1_openRows_18 : decode cX1_openRows 18 = .ok (.getfield 33, 3) := by decide +kernel
theorem dX1_openRows_21 : decode cX1_openRows 21 = .ok (.iload_n 2, 1) := by decide +kernel
theorem dX1_openRows_22 : decode cX1_openRows 22 = .ok (.iadd, 1) := by decide +kernel
theorem dX1_openRows_23 : decode cX1_openRows 23 = .ok (.invokevirtual 76, 3) := by decide +kernel
theorem dX1_openRows_26 : decode cX1_openRows 26 = .ok (.ifCond .ne 5, 3) := by decide +kernel
theorem dX1_openRows_31 : decode cX1_openRows 31 = .ok (.aload_n 0, 1) := by decide +kernel
theorem dX1_openRows_32 : decode cX1_openRows 32 = .ok (.getfield 9, 3) := by decide +kernel
theorem dX1_openRows_35 : decode cX1_openRows 35 = .ok (.iload_n 1, 1) := by decide +kernel
theorem dX1_openRows_36 : decode cX1_openRows 36 = .ok (.bipush 13, 2) := by decide +kernel
theorem dX1_openRows_38 : decode cX1_openRows 38 = .ok (.imul, 1) := by decide +kernel
theorem dX1_openRows_39 : decode cX1_openRows 39 = .ok (.aload_n 0, 1) := by decide +kernel
theorem dX1_openRows_40 : decode cX1_openRows 40 = .ok (.getfield 9, 3) := by decide +kernel
theorem dX1_openRows_43 : decode cX1_openRows 43 = .ok (.iload_n 1, 1) := by decide +kernel
theorem dX1_openRows_44 : decode cX1_openRows 44 = .ok (.iload_n 2, 1) := by decide +kernel
theorem dX1_openRows_45 : decode cX1_openRows 45 = .ok (.iadd, 1) := by decide +kernel
theorem dX1_openRows_46 : decode cX1_openRows 46 = .ok (.bipush 13, 2) := by decide +kernel
theorem dX1_openRows_48 : decode cX1_openRows 48 = .ok (.imul, 1) := by decide +kernel
theorem dX1_openRows_49 : decode cX1_openRows 49 = .ok (.aload_n 0, 1) := by decide +kernel
theorem dX1_openRows_50 : decode cX1_openRows 50 = .ok (.getfield 33, 3) := by decide +kernel
theorem dX1_openRows_53 : decode cX1_openRows 53 = .ok (.iload_n 1, 1) := by decide +kernel
theorem dX1_openRows_54 : decode cX1_openRows 54 = .ok (.isub, 1) := by decide +kernel
theorem dX1_openRows_55 : decode cX1_openRows 55 = .ok (.bipush 13, 2) := by decide +kernel
theorem dX1_openRows_57 : decode cX1_openRows 57 = .ok (.imul, 1) := by decide +kernel
theorem dX1_openRows_58 : decode cX1_openRows 58 = .ok (.invokestatic 80, 3) := by decide +kernel
theorem dX1_openRows_61 : decode cX1_openRows 61 = .ok (.aload_n 0, 1) := by decide +kernel
theorem dX1_openRows_62 : decode cX1_openRows 62 = .ok (.getfield 9, 3) := by decide +kernel
theorem dX1_openRows_65 : decode cX1_openRows 65 = .ok (.iload_n 1, 1) := by decide +kernel
theorem dX1_openRows_66 : decode cX1_openRows 66 = .ok (.bipush 13, 2) := by decide +kernel
theorem dX1_openRows_68 : decode cX1_openRows 68 = .ok (.imul, 1) := by decide +kernel
theorem dX1_openRows_69 : decode cX1_openRows 69 = .ok (.iload_n 1, 1) := by decide +kernel
theorem dX1_openRows_70 : decode cX1_openRows 70 = .ok (.iload_n 2, 1) := by decide +kernel
theorem dX1_openRows_71 : decode cX1_openRows 71 = .ok (.iadd, 1) := by decide +kernel
theorem dX1_openRows_72 : decode cX1_openRows 72 = .ok (.bipush 13, 2) := by decide +kernel
theorem dX1_openRows_74 : decode cX1_openRows 74 = .ok (.imul, 1) := by decide +kernel
theorem dX1_openRows_75 : decode cX1_openRows 75 = .ok (.iconst 0, 1) := by decide +kernel
theorem dX1_openRows_76 : decode cX1_openRows 76 = .ok (.invokestatic 72, 3) := by decide +kernel
theorem dX1_openRows_79 : decode cX1_openRows 79 = .ok (.aload_n 0, 1) := by decide +kernel
theorem dX1_openRows_80 : decode cX1_openRows 80 = .ok (.dup, 1) := by decide +kernel
theorem dX1_openRows_81 : decode cX1_openRows 81 = .ok (.getfield 33, 3) := by decide +kernel
theorem dX1_openRows_84 : decode cX1_openRows 84 = .ok (.iload_n 2, 1) := by decide +kernel
theorem dX1_openRows_85 : decode cX1_openRows 85 = .ok (.iadd, 1) := by decide +kernel
theorem dX1_openRows_86 : decode cX1_openRows 86 = .ok (.putfield 33, 3) := by decide +kernel
theorem dX1_openRows_89 : decode cX1_openRows 89 = .ok (.iconst 1, 1) := by decide +kernel
theorem dX1_openRows_90 : decode cX1_openRows 90 = .ok (.ireturn, 1) := by decide +kernel
set_option maxRecDepth 20000 in
theorem k_X1_openRows (d : Nat) {T : CT} {σ : MS} {a : Nat} {k : Int} {n : Int} (ha : OB T a 1) (hta : (T a).1 = 50) (h_k : -2147483648 ≤ k ∧ k ≤ 2147483647) (h_n : -2147483648 ≤ n ∧ n ≤ 2147483647) (hw : WT T σ) (hn : n ≤ 1000000) : Tn (d + 3) m_X1_openRows 0 T σ [(0, .ref a), (1, .int (iI k)), (2, .int (iI n))] [] (fun ro T2 σ2 => ∃ v : Int, ro = some (.int (iI v)) ∧ WT T2 σ2 ∧ FrC T [5, 6] σ σ2 ∧ (v = 0 ∨ v = 1)) := by
  refine tn_iload_n dX1_openRows_0 rfl 2 rfl ?_
  refine tn_if_lt (tgt := 29) dX1_openRows_1 (by decide) ⟨by omega, by omega⟩ (fun h1 => ?_) (fun h1 => ?_)
  · refine tn_iconst dX1_openRows_29 ?_
    exact tn_zret (v := 0) rfl (by decide) dX1_openRows_30 ⟨_, rfl, hw, FrC.rfl, by omega⟩
  · refine tn_iload_n dX1_openRows_4 rfl 1 rfl ?_
    refine tn_if_lt (tgt := 29) dX1_openRows_5 (by decide) ⟨by omega, by omega⟩ (fun h2 => ?_) (fun h2 => ?_)
    · refine tn_iconst dX1_openRows_29 ?_
      exact tn_zret (v := 0) rfl (by decide) dX1_openRows_30 ⟨_, rfl, hw, FrC.rfl, by omega⟩
    · refine tn_iload_n dX1_openRows_8 rfl 1 rfl ?_
      refine tn_aload_n dX1_openRows_9 rfl 0 rfl ?_
      refine tn_getI (ci := 1) (i := 1) (n := 6) (t := σ.2.1 6 a) dX1_openRows_10 rfl lay_1 (by decide) fl1_33 ha rfl rfl (rfl) ?_
      have g3 : ((0 : Int) ≤ σ.2.1 6 a ∧ σ.2.1 6 a ≤ 5000) ∧ ((T a).1 = 50 → σ.2.1 6 a ≤ 200) := wf_6 hw ha
      have g3x := g3.2
      replace g3 := g3.1
      have g3x := g3x hta
      refine tn_icmp_gt (tgt := 29) dX1_openRows_13 (by decide) ⟨by omega, by omega⟩ ⟨by omega, by omega⟩ (fun h4 => ?_) (fun h4 => ?_)
      · refine tn_iconst dX1_openRows_29 ?_
        exact tn_zret (v := 0) rfl (by decide) dX1_openRows_30 ⟨_, rfl, hw, FrC.rfl, by omega⟩
      · refine tn_aload_n dX1_openRows_16 rfl 0 rfl ?_
        refine tn_aload_n dX1_openRows_17 rfl 0 rfl ?_
        refine tn_getI (ci := 1) (i := 1) (n := 6) (t := σ.2.1 6 a) dX1_openRows_18 rfl lay_1 (by decide) fl1_33 ha rfl rfl (rfl) ?_
        refine tn_iload_n dX1_openRows_21 rfl 2 rfl ?_
        refine tn_iadd dX1_openRows_22 ?_
        refine tn_callV (M := m_X1_openRows) (pc := 23) (ix := 76) (ci := 1) (M' := m_X1_holdRows) (As := [.int (iI ((σ.2.1 6 a) + n))]) (rest := []) dX1_openRows_23 ok_X1_holdRows im_X1_holdRows se_X1_holdRows ml1_76 np_X1_holdRows rfl rfl ha rfl (Nat.le_of_ble_eq_true rfl) (Nat.le_of_ble_eq_true rfl) rfl (k_X1_holdRows (d) (T := T) (σ := σ) (a := a) (n := (σ.2.1 6 a) + n) ha hta (by omega) hw ) (fun r5 T7 σ6 gt8 hp => ?_)
        obtain ⟨v11, rfl, w12, F13, f9, f10⟩ := hp
        replace ha : OB T7 a 1 := gt8.ob ha
        replace hta : (T7 a).1 = 50 := gt8.kk hta (by decide) (by decide)
        have q14 : σ6.2.1 6 a = σ.2.1 6 a := rc_F F13 (Or.inl (by decide)) (by decide) (rfl)
        show Tn _ _ 26 T7 σ6 [(0, .ref a), (1, .int (iI k)), (2, .int (iI n))] [.int (iI v11)] _
        refine tn_if_ne (tgt := 31) dX1_openRows_26 (by decide) ⟨by omega, by omega⟩ (fun h15 => ?_) (fun h15 => ?_)
        · obtain ⟨q16, q16h⟩ := f10 (by omega)
          obtain ⟨x17, hx18, hl20, hk19a, hk19b⟩ := wf_5 w12 ha
          have hk19 : (T7 x17).1 = 1 := hk19a (by omega)
          clear hk19a hk19b
          have hk19i : IA T7 x17 := by unfold IA; omega
          have q16x := q16h x17 (hx18)
          refine tn_aload_n dX1_openRows_31 rfl 0 rfl ?_
          refine tn_getR (ci := 1) (i := 0) (n := 5) (x := x17) dX1_openRows_32 rfl lay_1 (by decide) fl1_9 ha rfl rfl (hx18) ?_
          refine tn_iload_n dX1_openRows_35 rfl 1 rfl ?_
          refine tn_bipush dX1_openRows_36 (by decide) ?_
          refine tn_imul dX1_openRows_38 ?_
          refine tn_aload_n dX1_openRows_39 rfl 0 rfl ?_
          refine tn_getR (ci := 1) (i := 0) (n := 5) (x := x17) dX1_openRows_40 rfl lay_1 (by decide) fl1_9 ha rfl rfl (hx18) ?_
          refine tn_iload_n dX1_openRows_43 rfl 1 rfl ?_
          refine tn_iload_n dX1_openRows_44 rfl 2 rfl ?_
          refine tn_iadd dX1_openRows_45 ?_
          refine tn_bipush dX1_openRows_46 (by decide) ?_
          refine tn_imul dX1_openRows_48 ?_
          refine tn_aload_n dX1_openRows_49 rfl 0 rfl ?_
          refine tn_getI (ci := 1) (i := 1) (n := 6) (t := σ6.2.1 6 a) dX1_openRows_50 rfl lay_1 (by decide) fl1_33 ha rfl rfl (rfl) ?_
          have g21 : ((0 : Int) ≤ σ6.2.1 6 a ∧ σ6.2.1 6 a ≤ 5000) ∧ ((T7 a).1 = 50 → σ6.2.1 6 a ≤ 200) := wf_6 w12 ha
          have g21x := g21.2
          replace g21 := g21.1
          have g21x := g21x hta
          refine tn_iload_n dX1_openRows_53 rfl 1 rfl ?_
          refine tn_isub dX1_openRows_54 ?_
          refine tn_bipush dX1_openRows_55 (by decide) ?_
          refine tn_imul dX1_openRows_57 ?_
          refine tn_acopyI (a := x17) (b := x17) (sp := k * 13) (dp := (k + n) * 13) (n := ((σ6.2.1 6 a) - k) * 13) dX1_openRows_58 mla1_80 acNat acSt acIni hk19i hk19i ⟨by omega, by omega⟩ (by omega) (by omega) (by omega) (by omega) (by omega) (by omega) (Nat.le_of_ble_eq_true rfl) ?_
          refine tn_aload_n dX1_openRows_61 rfl 0 rfl ?_
          refine tn_getR (ci := 1) (i := 0) (n := 5) (x := x17) dX1_openRows_62 rfl lay_1 (by decide) fl1_9 ha rfl rfl (rc_r (Or.inl (by decide)) (hx18)) ?_
          refine tn_iload_n dX1_openRows_65 rfl 1 rfl ?_
          refine tn_bipush dX1_openRows_66 (by decide) ?_
          refine tn_imul dX1_openRows_68 ?_
          refine tn_iload_n dX1_openRows_69 rfl 1 rfl ?_
          refine tn_iload_n dX1_openRows_70 rfl 2 rfl ?_
          refine tn_iadd dX1_openRows_71 ?_
          refine tn_bipush dX1_openRows_72 (by decide) ?_
          refine tn_imul dX1_openRows_74 ?_
          refine tn_iconst dX1_openRows_75 ?_
          refine tn_callS (M := m_X1_openRows) (pc := 76) (ix := 72) (M' := m_J7_fill_fda19) (As := [.ref x17, .int (iI (k * 13)), .int (iI ((k + n) * 13)), .int (iI 0)]) (rest := []) dX1_openRows_76 ok_J7_fill_fda19 stt_J7_fill_fda19 ml1_72 np_J7_fill_fda19 rfl (Nat.le_of_ble_eq_true rfl) (Nat.le_of_ble_eq_true rfl) rfl (k_J7_fill_fda19 (d) (T := T7) (σ := (rowS (1000 + x17) (cpZ (σ6.2.1 (1000 + x17)) (σ6.2.1 (1000 + x17)) (k * 13) ((k + n) * 13) (((σ6.2.1 6 a) - k) * 13)) σ6)) (x := x17) (f := k * 13) (t := (k + n) * 13) (y := 0) hk19i (by omega) (by omega) (by omega) (by decide) (w12.row (Or.inl hk19i) (vok_cp1 w12 hk19i hk19i (by have q9 := hk19; omega))) (nh_k hk19 (by unfold HT; omega)) (by omega) (by omega)) (fun r22 T24 σ23 gt25 hp => ?_)
          obtain ⟨rfl, rfl, w27, F28⟩ := hp
          clear gt25
          show Tn _ _ 79 T7 σ23 [(0, .ref a), (1, .int (iI k)), (2, .int (iI n))] [] _
          refine tn_aload_n dX1_openRows_79 rfl 0 rfl ?_
          refine tn_dup dX1_openRows_80 rfl ?_
          refine tn_getI (ci := 1) (i := 1) (n := 6) (t := σ6.2.1 6 a) dX1_openRows_81 rfl lay_1 (by decide) fl1_33 ha rfl rfl (rc_F F28 (Or.inl (by decide)) (by decide) (rc_r (Or.inl (by decide)) (rfl))) ?_
          refine tn_iload_n dX1_openRows_84 rfl 2 rfl ?_
          refine tn_iadd dX1_openRows_85 ?_
          refine tn_putV (ci := 1) (i := 1) (n := 6) (r := false) (v := (σ6.2.1 6 a) + n) tyX1 tyX1_ok nmX1 dX1_openRows_86 rfl lay_1 (by decide) fl1_33 rfl (tyX1_ok 1 (by decide)) rfl rfl rfl ha rfl rfl ?_
          refine tn_iconst dX1_openRows_89 ?_
          exact tn_zret (v := 1) rfl (by decide) dX1_openRows_90 ⟨_, rfl, (w27.put6 (rc_F F28 (Or.inl (by decide)) (by decide) (rc_r (Or.inl (by decide)) (hx18))) (fo_6 ⟨by omega, by omega⟩) (by omega)), ((((FrC.rfl.trans (FrC.sub F13 (by decide))).row (hk_no (GT.nh gt8 (nh_k hk19 (by unfold HT; omega))))).trans (FrC.sub (FrC.old F28 gt8) (by decide))).put (by decide) (by decide)), by omega⟩
        · refine tn_iconst dX1_openRows_29 ?_
          exact tn_zret (v := 0) rfl (by decide) dX1_openRows_30 ⟨_, rfl, w12, (FrC.rfl.trans (FrC.sub F13 (by decide))), by omega⟩
end
