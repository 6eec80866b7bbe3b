theorem cd_X11_printed : Cond.code yX11_printed cX11_printed 2 (some .int) ∈ pWW := pw6 (List.mem_of_getElem? (i := 167) rfl) rfl
abbrev m_X11_printed : MT := (yX11_printed, cX11_printed, 2, (some .int))
theorem ok_X11_printed : pOk m_X11_printed := ⟨⟨cd_X11_printed, ini_11⟩, by decide +kernel, ⟨by decide +kernel, by decide +kernel⟩, Nat.le_of_ble_eq_true rfl⟩
theorem np_X11_printed : (parseMethodDescriptor yX11_printed.desc).map (fun d => d.parameters.length) = some 1 := by decide +kernel
theorem im_X11_printed : Cond.instanceMethod yX11_printed ∈ pWW := pw6 (List.mem_of_getElem? (i := 165) rfl) rfl
theorem se_X11_printed : Cond.selects RX11 yX11_printed yX11_printed ∈ pWW := pw6 (List.mem_of_getElem? (i := 166) rfl) rfl
theorem fl11_255 : Cond.fieldLink RX11 255 (TX7 9).1 (TX7 9).2.1 (TX7 9).2.2.1 ∈ pWW := pw2 (List.mem_of_getElem? (i := 147) rfl) rfl
theorem dX11_printed_0 : decode cX11_printed 0 = .ok (.aload_n 0, 1) := by decide +kernel
theorem dX11_printed_1 : decode cX11_printed 1 = .ok (.getfield 83, 3) := by decide +kernel
theorem dX11_printed_4 : decode cX11_printed 4 = .ok (.getfield 208, 3) := by decide +kernel
theorem dX11_printed_7 : decode cX11_printed 7 = .ok (.ifCond .eq 18, 3) := by decide +kernel
theorem dX11_printed_25 : decode cX11_printed 25 = .ok (.iconst 0, 1) := by decide +kernel
theorem dX11_printed_26 : decode cX11_printed 26 = .ok (.ireturn, 1) := by decide +kernel
theorem dX11_printed_10 : decode cX11_printed 10 = .ok (.iload_n 1, 1) := by decide +kernel
theorem dX11_printed_11 : decode cX11_printed 11 = .ok (.ifCond .lt 14, 3) := by decide +kernel
theorem dX11_printed_14 : decode cX11_printed 14 = .ok (.iload_n 1, 1) := by decide +kernel
theorem dX11_printed_15 : decode cX11_printed 15 = .ok (.aload_n 0, 1) := by decide +kernel
theorem dX11_printed_16 : decode cX11_printed 16 = .ok (.getfield 83, 3) := by decide +kernel
theorem dX11_printed_19 : decode cX11_printed 19 = .ok (.getfield 243, 3) := by decide +kernel
theorem dX11_printed_22 : decode cX11_printed 22 = .ok (.if_icmp .lt 5, 3) := by decide +kernel
theorem dX11_printed_27 : decode cX11_printed 27 = .ok (.aload_n 0, 1) := by decide +kernel
theorem dX11_printed_28 : decode cX11_printed 28 = .ok (.getfield 83, 3) := by decide +kernel
theorem dX11_printed_31 : decode cX11_printed 31 = .ok (.getfield 255, 3) := by decide +kernel
theorem dX11_printed_34 : decode cX11_printed 34 = .ok (.iload_n 1, 1) := by decide +kernel
theorem dX11_printed_35 : decode cX11_printed 35 = .ok (.invokestatic 162, 3) := by decide +kernel
theorem dX11_printed_38 : decode cX11_printed 38 = .ok (.ireturn, 1) := by decide +kernel
set_option maxRecDepth 20000 in
theorem k_X11_printed (d : Nat) {T : CT} {σ : MS} {a : Nat} {i : Int} (ha : OB T a 11) (h_i : -2147483648 ≤ i ∧ i ≤ 2147483647) (hw : WT T σ) : Tn (d + 2) m_X11_printed 0 T σ [(0, .ref a), (1, .int (iI i))] [] (fun ro T2 σ2 => ∃ v : Int, ro = some (.int (iI v)) ∧ T = T2 ∧ σ = σ2 ∧ (-2147483648 ≤ v ∧ v ≤ 2147483647)) := by
  refine tn_aload_n dX11_printed_0 rfl 0 rfl ?_
  obtain ⟨x1, hx2, hk3⟩ : ∃ x : Nat, σ.2.1 103 a = (x : Int) ∧ (T x).1 = 37 := wf_103 hw ha
  have hk3o : OB T x1 7 := ⟨by omega, by rw [hk3]; rfl, by omega⟩
  refine tn_getR (ci := 11) (i := 8) (n := 103) (x := x1) dX11_printed_1 rfl lay_11 (by decide) fl11_83 ha rfl rfl (hx2) ?_
  refine tn_getI (ci := 7) (i := 1) (n := 56) (t := σ.2.1 56 x1) dX11_printed_4 rfl lay_7 (by decide) fl11_208 hk3o rfl rfl (rfl) ?_
  have g5 : ((-2147483648 : Int) ≤ σ.2.1 56 x1 ∧ σ.2.1 56 x1 ≤ 2147483647) := wf_56 hw hk3o
  refine tn_if_eq (tgt := 25) dX11_printed_7 (by decide) ⟨by omega, by omega⟩ (fun h6 => ?_) (fun h6 => ?_)
  · refine tn_iconst dX11_printed_25 ?_
    exact tn_iret rfl dX11_printed_26 ⟨_, rfl, rfl, rfl, by omega⟩
  · refine tn_iload_n dX11_printed_10 rfl 1 rfl ?_
    refine tn_if_lt (tgt := 25) dX11_printed_11 (by decide) ⟨by omega, by omega⟩ (fun h7 => ?_) (fun h7 => ?_)
    · refine tn_iconst dX11_printed_25 ?_
      exact tn_iret rfl dX11_printed_26 ⟨_, rfl, rfl, rfl, by omega⟩
    · refine tn_iload_n dX11_printed_14 rfl 1 rfl ?_
      refine tn_aload_n dX11_printed_15 rfl 0 rfl ?_
      refine tn_getR (ci := 11) (i := 8) (n := 103) (x := x1) dX11_printed_16 rfl lay_11 (by decide) fl11_83 ha rfl rfl (hx2) ?_
      refine tn_getI (ci := 7) (i := 10) (n := 65) (t := σ.2.1 65 x1) dX11_printed_19 rfl lay_7 (by decide) fl11_243 hk3o rfl rfl (rfl) ?_
      have g8 : ((-2147483648 : Int) ≤ σ.2.1 65 x1 ∧ σ.2.1 65 x1 ≤ 2147483647) := wf_65 hw hk3o
      refine tn_icmp_lt (tgt := 27) dX11_printed_22 (by decide) ⟨by omega, by omega⟩ ⟨by omega, by omega⟩ (fun h9 => ?_) (fun h9 => ?_)
      · refine tn_aload_n dX11_printed_27 rfl 0 rfl ?_
        refine tn_getR (ci := 11) (i := 8) (n := 103) (x := x1) dX11_printed_28 rfl lay_11 (by decide) fl11_83 ha rfl rfl (hx2) ?_
        obtain ⟨x10, hx11, hk12, hl13⟩ : ∃ x : Nat, σ.2.1 64 x1 = (x : Int) ∧ AR T x 1 200 200 := wf_64 hw hk3o
        have hk12i : IA T x10 := by unfold IA; omega
        refine tn_getR (ci := 7) (i := 9) (n := 64) (x := x10) dX11_printed_31 rfl lay_7 (by decide) fl11_255 hk3o rfl rfl (hx11) ?_
        refine tn_iload_n dX11_printed_34 rfl 1 rfl ?_
        refine tn_callS (M := m_X11_printed) (pc := 35) (ix := 162) (M' := m_X11_at) (As := [.ref x10, .int (iI i)]) (rest := []) dX11_printed_35 ok_X11_at stt_X11_at ml11_162 np_X11_at rfl (Nat.le_of_ble_eq_true rfl) (Nat.le_of_ble_eq_true rfl) rfl (k_X11_at (d) (T := T) (σ := σ) (x := x10) (i := i) hk12i (by omega) (by omega) hw ) (fun r14 T16 σ15 gt17 hp => ?_)
        obtain ⟨v21, rfl, rfl, rfl, f18, f19, f20⟩ := hp
        clear gt17
        clear f19 f20
        show Tn _ _ 38 T σ [(0, .ref a), (1, .int (iI i))] [.int (iI v21)] _
        exact tn_iret rfl dX11_printed_38 ⟨_, rfl, rfl, rfl, by omega⟩
      · refine tn_iconst dX11_printed_25 ?_
        exact tn_iret rfl dX11_printed_26 ⟨_, rfl, rfl, rfl, by omega⟩
