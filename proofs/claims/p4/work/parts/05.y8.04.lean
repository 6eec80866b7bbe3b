theorem cd_X9_nextIs : Cond.code yX9_nextIs cX9_nextIs 2 (some .boolean) ∈ pWW := pw3 (List.mem_of_getElem? (i := 153) rfl) rfl
abbrev m_X9_nextIs : MT := (yX9_nextIs, cX9_nextIs, 2, (some .boolean))
theorem ok_X9_nextIs : pOk m_X9_nextIs := ⟨⟨cd_X9_nextIs, ini_9⟩, by decide +kernel, ⟨by decide +kernel, by decide +kernel⟩, Nat.le_of_ble_eq_true rfl⟩
theorem np_X9_nextIs : (parseMethodDescriptor yX9_nextIs.desc).map (fun d => d.parameters.length) = some 1 := by decide +kernel
theorem im_X9_nextIs : Cond.instanceMethod yX9_nextIs ∈ pWW := pw3 (List.mem_of_getElem? (i := 151) rfl) rfl
theorem se_X9_nextIs : Cond.selects RX9 yX9_nextIs yX9_nextIs ∈ pWW := pw3 (List.mem_of_getElem? (i := 152) rfl) rfl
theorem fl9_30 : Cond.fieldLink RX9 30 (TX9 4).1 (TX9 4).2.1 (TX9 4).2.2.1 ∈ pWW := pw1 (List.mem_of_getElem? (i := 48) rfl) rfl
theorem fl9_9 : Cond.fieldLink RX9 9 (TX9 0).1 (TX9 0).2.1 (TX9 0).2.2.1 ∈ pWW := pw1 (List.mem_of_getElem? (i := 44) rfl) rfl
theorem fl9_45 : Cond.fieldLink RX9 45 (TX9 3).1 (TX9 3).2.1 (TX9 3).2.2.1 ∈ pWW := pw1 (List.mem_of_getElem? (i := 47) rfl) rfl
theorem nl9_73 : (RX9, 73, yX11_at, "LineKeeper") ∈ nst_M := List.mem_of_getElem? (i := 10) rfl
theorem dX9_nextIs_0 : decode cX9_nextIs 0 = .ok (.aload_n 0, 1) := by decide +kernel
theorem dX9_nextIs_1 : decode cX9_nextIs 1 = .ok (.getfield 30, 3) := by decide +kernel
theorem dX9_nextIs_4 : decode cX9_nextIs 4 = .ok (.sipush 264, 3) := by decide +kernel
theorem dX9_nextIs_7 : decode cX9_nextIs 7 = .ok (.if_icmp .eq 34, 3) := by decide +kernel
theorem dX9_nextIs_41 : decode cX9_nextIs 41 = .ok (.iconst 0, 1) := by decide +kernel
theorem dX9_nextIs_42 : decode cX9_nextIs 42 = .ok (.ireturn, 1) := by decide +kernel
theorem dX9_nextIs_10 : decode cX9_nextIs 10 = .ok (.aload_n 0, 1) := by decide +kernel
theorem dX9_nextIs_11 : decode cX9_nextIs 11 = .ok (.getfield 30, 3) := by decide +kernel
theorem dX9_nextIs_14 : decode cX9_nextIs 14 = .ok (.sipush 263, 3) := by decide +kernel
theorem dX9_nextIs_17 : decode cX9_nextIs 17 = .ok (.if_icmp .eq 24, 3) := by decide +kernel
theorem dX9_nextIs_20 : decode cX9_nextIs 20 = .ok (.aload_n 0, 1) := by decide +kernel
theorem dX9_nextIs_21 : decode cX9_nextIs 21 = .ok (.getfield 9, 3) := by decide +kernel
theorem dX9_nextIs_24 : decode cX9_nextIs 24 = .ok (.aload_n 0, 1) := by decide +kernel
theorem dX9_nextIs_25 : decode cX9_nextIs 25 = .ok (.getfield 45, 3) := by decide +kernel
theorem dX9_nextIs_28 : decode cX9_nextIs 28 = .ok (.iconst 1, 1) := by decide +kernel
theorem dX9_nextIs_29 : decode cX9_nextIs 29 = .ok (.iadd, 1) := by decide +kernel
theorem dX9_nextIs_30 : decode cX9_nextIs 30 = .ok (.invokestatic 73, 3) := by decide +kernel
theorem dX9_nextIs_33 : decode cX9_nextIs 33 = .ok (.iload_n 1, 1) := by decide +kernel
theorem dX9_nextIs_34 : decode cX9_nextIs 34 = .ok (.if_icmp .ne 7, 3) := by decide +kernel
theorem dX9_nextIs_37 : decode cX9_nextIs 37 = .ok (.iconst 1, 1) := by decide +kernel
theorem dX9_nextIs_38 : decode cX9_nextIs 38 = .ok (.goto 4, 3) := by decide +kernel
set_option maxRecDepth 20000 in
theorem k_X9_nextIs (d : Nat) {T : CT} {σ : MS} {a : Nat} {p1 : Int} (ha : OB T a 9) (h_p1 : -2147483648 ≤ p1 ∧ p1 ≤ 2147483647) (hw : WT T σ) : Tn (d + 2) m_X9_nextIs 0 T σ [(0, .ref a), (1, .int (iI p1))] [] (fun ro T2 σ2 => ∃ v : Int, ro = some (.int (iI v)) ∧ T = T2 ∧ σ = σ2 ∧ (v = 0 ∨ v = 1)) := by
  refine tn_aload_n dX9_nextIs_0 rfl 0 rfl ?_
  refine tn_getI (ci := 9) (i := 4) (n := 85) (t := σ.2.1 85 a) dX9_nextIs_1 rfl lay_9 (by decide) fl9_30 ha rfl rfl (rfl) ?_
  have g1 : ((-2147483648 : Int) ≤ σ.2.1 85 a ∧ σ.2.1 85 a ≤ 2147483647) := wf_85 hw ha
  refine tn_sipush dX9_nextIs_4 (by decide) ?_
  refine tn_icmp_eq (tgt := 41) dX9_nextIs_7 (by decide) ⟨by omega, by omega⟩ ⟨by decide, by decide⟩ (fun h2 => ?_) (fun h2 => ?_)
  · refine tn_iconst dX9_nextIs_41 ?_
    exact tn_zret (v := 0) rfl (by decide) dX9_nextIs_42 ⟨_, rfl, rfl, rfl, by omega⟩
  · refine tn_aload_n dX9_nextIs_10 rfl 0 rfl ?_
    refine tn_getI (ci := 9) (i := 4) (n := 85) (t := σ.2.1 85 a) dX9_nextIs_11 rfl lay_9 (by decide) fl9_30 ha rfl rfl (rfl) ?_
    refine tn_sipush dX9_nextIs_14 (by decide) ?_
    refine tn_icmp_eq (tgt := 41) dX9_nextIs_17 (by decide) ⟨by omega, by omega⟩ ⟨by decide, by decide⟩ (fun h3 => ?_) (fun h3 => ?_)
    · refine tn_iconst dX9_nextIs_41 ?_
      exact tn_zret (v := 0) rfl (by decide) dX9_nextIs_42 ⟨_, rfl, rfl, rfl, by omega⟩
    · refine tn_aload_n dX9_nextIs_20 rfl 0 rfl ?_
      obtain ⟨x4, hx5, hk6, hl7⟩ : ∃ x : Nat, σ.2.1 81 a = (x : Int) ∧ AR T x 12 1201 1201 := wf_81 hw ha
      have hk6i : IA T x4 := by unfold IA; omega
      refine tn_getR (ci := 9) (i := 0) (n := 81) (x := x4) dX9_nextIs_21 rfl lay_9 (by decide) fl9_9 ha rfl rfl (hx5) ?_
      refine tn_aload_n dX9_nextIs_24 rfl 0 rfl ?_
      refine tn_getI (ci := 9) (i := 3) (n := 84) (t := σ.2.1 84 a) dX9_nextIs_25 rfl lay_9 (by decide) fl9_45 ha rfl rfl (rfl) ?_
      have g8 : ((-1 : Int) ≤ σ.2.1 84 a ∧ σ.2.1 84 a ≤ 1200) := wf_84 hw ha
      refine tn_iconst dX9_nextIs_28 ?_
      refine tn_iadd dX9_nextIs_29 ?_
      refine tn_callSN (M := m_X9_nextIs) (pc := 30) (ix := 73) (M' := m_X11_at) (As := [.ref x4, .int (iI ((σ.2.1 84 a) + 1))]) (rest := []) dX9_nextIs_30 ok_X11_at stt_X11_at nl9_73 np_X11_at rfl (Nat.le_of_ble_eq_true rfl) (Nat.le_of_ble_eq_true rfl) rfl (k_X11_at (d) (T := T) (σ := σ) (x := x4) (i := (σ.2.1 84 a) + 1) hk6i (by omega) (by omega) hw ) (fun r9 T11 σ10 gt12 hp => ?_)
      obtain ⟨v16, rfl, rfl, rfl, f13, f14, f15⟩ := hp
      clear gt12
      clear f14 f15
      show Tn _ _ 33 T σ [(0, .ref a), (1, .int (iI p1))] [.int (iI v16)] _
      refine tn_iload_n dX9_nextIs_33 rfl 1 rfl ?_
      refine tn_icmp_ne (tgt := 41) dX9_nextIs_34 (by decide) ⟨by omega, by omega⟩ ⟨by omega, by omega⟩ (fun h17 => ?_) (fun h17 => ?_)
      · refine tn_iconst dX9_nextIs_41 ?_
        exact tn_zret (v := 0) rfl (by decide) dX9_nextIs_42 ⟨_, rfl, rfl, rfl, by omega⟩
      · refine tn_iconst dX9_nextIs_37 ?_
        refine tn_goto (tgt := 42) dX9_nextIs_38 (by decide) ?_
        exact tn_zret (v := 1) rfl (by decide) dX9_nextIs_42 ⟨_, rfl, rfl, rfl, by omega⟩
