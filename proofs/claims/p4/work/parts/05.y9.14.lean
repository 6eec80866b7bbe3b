theorem cd_X7_foundRoutine : Cond.code yX7_foundRoutine cX7_foundRoutine 2 (some .int) ∈ pWW := pw6 (List.mem_of_getElem? (i := 120) rfl) rfl
abbrev m_X7_foundRoutine : MT := (yX7_foundRoutine, cX7_foundRoutine, 2, (some .int))
theorem ok_X7_foundRoutine : pOk m_X7_foundRoutine := ⟨⟨cd_X7_foundRoutine, ini_7⟩, by decide +kernel, ⟨by decide +kernel, by decide +kernel⟩, Nat.le_of_ble_eq_true rfl⟩
theorem np_X7_foundRoutine : (parseMethodDescriptor yX7_foundRoutine.desc).map (fun d => d.parameters.length) = some 0 := by decide +kernel
theorem im_X7_foundRoutine : Cond.instanceMethod yX7_foundRoutine ∈ pWW := pw6 (List.mem_of_getElem? (i := 118) rfl) rfl
theorem se_X7_foundRoutine : Cond.selects RX7 yX7_foundRoutine yX7_foundRoutine ∈ pWW := pw6 (List.mem_of_getElem? (i := 119) rfl) rfl
theorem ml7_152 : Cond.methodLink RX7 152 yX7_foundCode ∈ pWW := pw6 (List.mem_of_getElem? (i := 109) rfl) rfl
theorem fl7_156 : Cond.fieldLink RX7 156 (TX1 6).1 (TX1 6).2.1 (TX1 6).2.2.1 ∈ pWW := pw1 (List.mem_of_getElem? (i := 110) rfl) rfl
theorem fl7_146 : Cond.fieldLink RX7 146 (TX7 16).1 (TX7 16).2.1 (TX7 16).2.2.1 ∈ pWW := pw2 (List.mem_of_getElem? (i := 160) rfl) rfl
theorem dX7_foundRoutine_0 : decode cX7_foundRoutine 0 = .ok (.aload_n 0, 1) := by decide +kernel
theorem dX7_foundRoutine_1 : decode cX7_foundRoutine 1 = .ok (.invokevirtual 152, 3) := by decide +kernel
theorem dX7_foundRoutine_4 : decode cX7_foundRoutine 4 = .ok (.astore_n 1, 1) := by decide +kernel
theorem dX7_foundRoutine_5 : decode cX7_foundRoutine 5 = .ok (.aload_n 1, 1) := by decide +kernel
theorem dX7_foundRoutine_6 : decode cX7_foundRoutine 6 = .ok (.ifnonnull 7, 3) := by decide +kernel
theorem dX7_foundRoutine_9 : decode cX7_foundRoutine 9 = .ok (.iconst (-1), 1) := by decide +kernel
theorem dX7_foundRoutine_10 : decode cX7_foundRoutine 10 = .ok (.goto 14, 3) := by decide +kernel
theorem dX7_foundRoutine_24 : decode cX7_foundRoutine 24 = .ok (.ireturn, 1) := by decide +kernel
theorem dX7_foundRoutine_13 : decode cX7_foundRoutine 13 = .ok (.aload_n 1, 1) := by decide +kernel
theorem dX7_foundRoutine_14 : decode cX7_foundRoutine 14 = .ok (.getfield 156, 3) := by decide +kernel
theorem dX7_foundRoutine_17 : decode cX7_foundRoutine 17 = .ok (.aload_n 0, 1) := by decide +kernel
theorem dX7_foundRoutine_18 : decode cX7_foundRoutine 18 = .ok (.getfield 146, 3) := by decide +kernel
theorem dX7_foundRoutine_21 : decode cX7_foundRoutine 21 = .ok (.invokestatic 91, 3) := by decide +kernel
set_option maxRecDepth 20000 in
theorem k_X7_foundRoutine (d : Nat) {T : CT} {σ : MS} {a : Nat} (ha : OB T a 7) (hw : WT T σ) : Tn (d + 3) m_X7_foundRoutine 0 T σ [(0, .ref a)] [] (fun ro T2 σ2 => ∃ v : Int, ro = some (.int (iI v)) ∧ T = T2 ∧ σ = σ2 ∧ (-2147483648 ≤ v ∧ v ≤ 2147483647)) := by
  refine tn_aload_n dX7_foundRoutine_0 rfl 0 rfl ?_
  refine tn_callV (M := m_X7_foundRoutine) (pc := 1) (ix := 152) (ci := 7) (M' := m_X7_foundCode) (As := []) (rest := []) dX7_foundRoutine_1 ok_X7_foundCode im_X7_foundCode se_X7_foundCode ml7_152 np_X7_foundCode rfl rfl ha rfl (Nat.le_of_ble_eq_true rfl) (Nat.le_of_ble_eq_true rfl) rfl (k_X7_foundCode (d) (T := T) (σ := σ) (a := a) ha hw ) (fun r1 T3 σ2 gt4 hp => ?_)
  obtain ⟨v6, rfl, rfl, rfl, rv7, f5⟩ := hp
  clear gt4
  clear f5
  rcases rv7 with rv7 | ⟨x8, rfl, hk9⟩
  · show Tn _ _ 4 T σ [(0, .ref a)] (vl true v6 :: []) _
    rw [vl_null rv7]
    refine tn_astore_nN (L' := [(1, .null), (0, .ref a)]) dX7_foundRoutine_4 rfl (by decide) rfl ?_
    refine tn_aload_nN dX7_foundRoutine_5 rfl 0 rfl ?_
    refine tn_ifnonnullN dX7_foundRoutine_6 ?_
    refine tn_iconst dX7_foundRoutine_9 ?_
    refine tn_goto (tgt := 24) dX7_foundRoutine_10 (by decide) ?_
    exact tn_iret rfl dX7_foundRoutine_24 ⟨_, rfl, rfl, rfl, by omega⟩
  · show Tn _ _ 4 T σ [(0, .ref a)] (vl true (x8 : Int) :: []) _
    rw [vl_ref rfl]
    have hk9o : OB T x8 1 := hk9.1
    refine tn_astore_n (L' := [(1, .ref x8), (0, .ref a)]) dX7_foundRoutine_4 rfl (by decide) rfl ?_
    refine tn_aload_n dX7_foundRoutine_5 rfl 0 rfl ?_
    refine tn_ifnonnull (tgt := 13) dX7_foundRoutine_6 (by decide) ?_
    refine tn_aload_n dX7_foundRoutine_13 rfl 0 rfl ?_
    obtain ⟨x10, hx11, hk12, hl13⟩ : ∃ x : Nat, σ.2.1 11 x8 = (x : Int) ∧ AR T x 1 12 12 := wf_11 hw hk9o
    have hk12i : IA T x10 := by unfold IA; omega
    refine tn_getR (ci := 1) (i := 6) (n := 11) (x := x10) dX7_foundRoutine_14 rfl lay_1 (by decide) fl7_156 hk9o rfl rfl (hx11) ?_
    refine tn_aload_n dX7_foundRoutine_17 rfl 1 rfl ?_
    refine tn_getI (ci := 7) (i := 16) (n := 71) (t := σ.2.1 71 a) dX7_foundRoutine_18 rfl lay_7 (by decide) fl7_146 ha rfl rfl (rfl) ?_
    have g14 : ((-2147483648 : Int) ≤ σ.2.1 71 a ∧ σ.2.1 71 a ≤ 2147483647) := wf_71 hw ha
    refine tn_callSN (M := m_X7_foundRoutine) (pc := 21) (ix := 91) (M' := m_X11_at) (As := [.ref x10, .int (iI (σ.2.1 71 a))]) (rest := []) dX7_foundRoutine_21 ok_X11_at stt_X11_at nl7_91 np_X11_at rfl (Nat.le_of_ble_eq_true rfl) (Nat.le_of_ble_eq_true rfl) rfl (k_X11_at (d + 1) (T := T) (σ := σ) (x := x10) (i := σ.2.1 71 a) hk12i (by omega) (by omega) hw ) (fun r15 T17 σ16 gt18 hp => ?_)
    obtain ⟨v22, rfl, rfl, rfl, f19, f20, f21⟩ := hp
    clear gt18
    clear f20 f21
    show Tn _ _ 24 T σ [(1, .ref x8), (0, .ref a)] [.int (iI v22)] _
    exact tn_iret rfl dX7_foundRoutine_24 ⟨_, rfl, rfl, rfl, by omega⟩
