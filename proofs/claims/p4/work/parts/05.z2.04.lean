theorem cd_X4_shiftOf : Cond.code yX4_shiftOf cX4_shiftOf 2 (some .int) ∈ pWW := pw5 (List.mem_of_getElem? (i := 197) rfl) rfl
abbrev m_X4_shiftOf : MT := (yX4_shiftOf, cX4_shiftOf, 2, (some .int))
theorem ok_X4_shiftOf : pOk m_X4_shiftOf := ⟨⟨cd_X4_shiftOf, ini_4⟩, by decide +kernel, ⟨by decide +kernel, by decide +kernel⟩, Nat.le_of_ble_eq_true rfl⟩
theorem np_X4_shiftOf : (parseMethodDescriptor yX4_shiftOf.desc).map (fun d => d.parameters.length) = some 1 := by decide +kernel
theorem im_X4_shiftOf : Cond.instanceMethod yX4_shiftOf ∈ pWW := pw5 (List.mem_of_getElem? (i := 196) rfl) rfl
theorem se_X4_shiftOf : Cond.selects RX4 yX4_shiftOf yX4_shiftOf ∈ pWW := pws (List.mem_map.mpr ⟨_, lw_pin 74 rfl, rfl⟩) rfl
theorem nl4_164 : (RX4, 164, yX11_isPure, "LineKeeper") ∈ nst_M := List.mem_of_getElem? (i := 39) rfl
theorem fl4_63 : Cond.fieldLink RX4 63 (TX4 5).1 (TX4 5).2.1 (TX4 5).2.2.1 ∈ pWW := pw2 (List.mem_of_getElem? (i := 66) rfl) rfl
theorem fl4_69 : Cond.fieldLink RX4 69 (TX4 6).1 (TX4 6).2.1 (TX4 6).2.2.1 ∈ pWW := pw2 (List.mem_of_getElem? (i := 67) rfl) rfl
theorem fl4_57 : Cond.fieldLink RX4 57 (TX4 4).1 (TX4 4).2.1 (TX4 4).2.2.1 ∈ pWW := pw2 (List.mem_of_getElem? (i := 65) rfl) rfl
theorem dX4_shiftOf_0 : decode cX4_shiftOf 0 = .ok (.iload_n 1, 1) := by decide +kernel
theorem dX4_shiftOf_1 : decode cX4_shiftOf 1 = .ok (.invokestatic 164, 3) := by decide +kernel
theorem dX4_shiftOf_4 : decode cX4_shiftOf 4 = .ok (.ifCond .eq 8, 3) := by decide +kernel
theorem dX4_shiftOf_12 : decode cX4_shiftOf 12 = .ok (.iload_n 1, 1) := by decide +kernel
theorem dX4_shiftOf_13 : decode cX4_shiftOf 13 = .ok (.bipush 8, 2) := by decide +kernel
theorem dX4_shiftOf_15 : decode cX4_shiftOf 15 = .ok (.if_icmp .eq 15, 3) := by decide +kernel
theorem dX4_shiftOf_30 : decode cX4_shiftOf 30 = .ok (.aload_n 0, 1) := by decide +kernel
theorem dX4_shiftOf_31 : decode cX4_shiftOf 31 = .ok (.getfield 63, 3) := by decide +kernel
theorem dX4_shiftOf_34 : decode cX4_shiftOf 34 = .ok (.ireturn, 1) := by decide +kernel
theorem dX4_shiftOf_18 : decode cX4_shiftOf 18 = .ok (.iload_n 1, 1) := by decide +kernel
theorem dX4_shiftOf_19 : decode cX4_shiftOf 19 = .ok (.bipush 9, 2) := by decide +kernel
theorem dX4_shiftOf_21 : decode cX4_shiftOf 21 = .ok (.if_icmp .eq 9, 3) := by decide +kernel
theorem dX4_shiftOf_24 : decode cX4_shiftOf 24 = .ok (.iload_n 1, 1) := by decide +kernel
theorem dX4_shiftOf_25 : decode cX4_shiftOf 25 = .ok (.bipush 13, 2) := by decide +kernel
theorem dX4_shiftOf_27 : decode cX4_shiftOf 27 = .ok (.if_icmp .ne 8, 3) := by decide +kernel
theorem dX4_shiftOf_35 : decode cX4_shiftOf 35 = .ok (.iload_n 1, 1) := by decide +kernel
theorem dX4_shiftOf_36 : decode cX4_shiftOf 36 = .ok (.bipush 14, 2) := by decide +kernel
theorem dX4_shiftOf_38 : decode cX4_shiftOf 38 = .ok (.if_icmp .eq 9, 3) := by decide +kernel
theorem dX4_shiftOf_47 : decode cX4_shiftOf 47 = .ok (.aload_n 0, 1) := by decide +kernel
theorem dX4_shiftOf_48 : decode cX4_shiftOf 48 = .ok (.getfield 69, 3) := by decide +kernel
theorem dX4_shiftOf_51 : decode cX4_shiftOf 51 = .ok (.goto 4, 3) := by decide +kernel
theorem dX4_shiftOf_55 : decode cX4_shiftOf 55 = .ok (.ireturn, 1) := by decide +kernel
theorem dX4_shiftOf_41 : decode cX4_shiftOf 41 = .ok (.iload_n 1, 1) := by decide +kernel
theorem dX4_shiftOf_42 : decode cX4_shiftOf 42 = .ok (.bipush 15, 2) := by decide +kernel
theorem dX4_shiftOf_44 : decode cX4_shiftOf 44 = .ok (.if_icmp .ne 10, 3) := by decide +kernel
theorem dX4_shiftOf_54 : decode cX4_shiftOf 54 = .ok (.iconst 0, 1) := by decide +kernel
theorem dX4_shiftOf_7 : decode cX4_shiftOf 7 = .ok (.aload_n 0, 1) := by decide +kernel
theorem dX4_shiftOf_8 : decode cX4_shiftOf 8 = .ok (.getfield 57, 3) := by decide +kernel
theorem dX4_shiftOf_11 : decode cX4_shiftOf 11 = .ok (.ireturn, 1) := by decide +kernel
set_option maxRecDepth 20000 in
theorem k_X4_shiftOf (d : Nat) {T : CT} {σ : MS} {a : Nat} {p1 : Int} (ha : OB T a 4) (h_p1 : -2147483648 ≤ p1 ∧ p1 ≤ 2147483647) (hw : WT T σ) : Tn (d + 2) m_X4_shiftOf 0 T σ [(0, .ref a), (1, .int (iI p1))] [] (fun ro T2 σ2 => ∃ v : Int, ro = some (.int (iI v)) ∧ T = T2 ∧ σ = σ2 ∧ (-2147483648 ≤ v ∧ v ≤ 2147483647)) := by
  refine tn_iload_n dX4_shiftOf_0 rfl 1 rfl ?_
  refine tn_callSN (M := m_X4_shiftOf) (pc := 1) (ix := 164) (M' := m_X11_isPure) (As := [.int (iI p1)]) (rest := []) dX4_shiftOf_1 ok_X11_isPure stt_X11_isPure nl4_164 np_X11_isPure rfl (Nat.le_of_ble_eq_true rfl) (Nat.le_of_ble_eq_true rfl) rfl (k_X11_isPure (d) (T := T) (σ := σ) (k := p1) (by omega) hw ) (fun r1 T3 σ2 gt4 hp => ?_)
  obtain ⟨v6, rfl, rfl, rfl, f5⟩ := hp
  clear gt4
  show Tn _ _ 4 T σ [(0, .ref a), (1, .int (iI p1))] [.int (iI v6)] _
  refine tn_if_eq (tgt := 12) dX4_shiftOf_4 (by decide) ⟨by omega, by omega⟩ (fun h7 => ?_) (fun h7 => ?_)
  · refine tn_iload_n dX4_shiftOf_12 rfl 1 rfl ?_
    refine tn_bipush dX4_shiftOf_13 (by decide) ?_
    refine tn_icmp_eq (tgt := 30) dX4_shiftOf_15 (by decide) ⟨by omega, by omega⟩ ⟨by decide, by decide⟩ (fun h8 => ?_) (fun h8 => ?_)
    · refine tn_aload_n dX4_shiftOf_30 rfl 0 rfl ?_
      refine tn_getI (ci := 4) (i := 5) (n := 28) (t := σ.2.1 28 a) dX4_shiftOf_31 rfl lay_4 (by decide) fl4_63 ha rfl rfl (rfl) ?_
      have g9 : ((-2147483648 : Int) ≤ σ.2.1 28 a ∧ σ.2.1 28 a ≤ 2147483647) := wf_28 hw ha
      exact tn_iret rfl dX4_shiftOf_34 ⟨_, rfl, rfl, rfl, by omega⟩
    · refine tn_iload_n dX4_shiftOf_18 rfl 1 rfl ?_
      refine tn_bipush dX4_shiftOf_19 (by decide) ?_
      refine tn_icmp_eq (tgt := 30) dX4_shiftOf_21 (by decide) ⟨by omega, by omega⟩ ⟨by decide, by decide⟩ (fun h10 => ?_) (fun h10 => ?_)
      · refine tn_aload_n dX4_shiftOf_30 rfl 0 rfl ?_
        refine tn_getI (ci := 4) (i := 5) (n := 28) (t := σ.2.1 28 a) dX4_shiftOf_31 rfl lay_4 (by decide) fl4_63 ha rfl rfl (rfl) ?_
        have g11 : ((-2147483648 : Int) ≤ σ.2.1 28 a ∧ σ.2.1 28 a ≤ 2147483647) := wf_28 hw ha
        exact tn_iret rfl dX4_shiftOf_34 ⟨_, rfl, rfl, rfl, by omega⟩
      · refine tn_iload_n dX4_shiftOf_24 rfl 1 rfl ?_
        refine tn_bipush dX4_shiftOf_25 (by decide) ?_
        refine tn_icmp_ne (tgt := 35) dX4_shiftOf_27 (by decide) ⟨by omega, by omega⟩ ⟨by decide, by decide⟩ (fun h12 => ?_) (fun h12 => ?_)
        · refine tn_iload_n dX4_shiftOf_35 rfl 1 rfl ?_
          refine tn_bipush dX4_shiftOf_36 (by decide) ?_
          refine tn_icmp_eq (tgt := 47) dX4_shiftOf_38 (by decide) ⟨by omega, by omega⟩ ⟨by decide, by decide⟩ (fun h13 => ?_) (fun h13 => ?_)
          · refine tn_aload_n dX4_shiftOf_47 rfl 0 rfl ?_
            refine tn_getI (ci := 4) (i := 6) (n := 29) (t := σ.2.1 29 a) dX4_shiftOf_48 rfl lay_4 (by decide) fl4_69 ha rfl rfl (rfl) ?_
            have g14 : ((-2147483648 : Int) ≤ σ.2.1 29 a ∧ σ.2.1 29 a ≤ 2147483647) := wf_29 hw ha
            refine tn_goto (tgt := 55) dX4_shiftOf_51 (by decide) ?_
            exact tn_iret rfl dX4_shiftOf_55 ⟨_, rfl, rfl, rfl, by omega⟩
          · refine tn_iload_n dX4_shiftOf_41 rfl 1 rfl ?_
            refine tn_bipush dX4_shiftOf_42 (by decide) ?_
            refine tn_icmp_ne (tgt := 54) dX4_shiftOf_44 (by decide) ⟨by omega, by omega⟩ ⟨by decide, by decide⟩ (fun h15 => ?_) (fun h15 => ?_)
            · refine tn_iconst dX4_shiftOf_54 ?_
              exact tn_iret rfl dX4_shiftOf_55 ⟨_, rfl, rfl, rfl, by omega⟩
            · refine tn_aload_n dX4_shiftOf_47 rfl 0 rfl ?_
              refine tn_getI (ci := 4) (i := 6) (n := 29) (t := σ.2.1 29 a) dX4_shiftOf_48 rfl lay_4 (by decide) fl4_69 ha rfl rfl (rfl) ?_
              have g16 : ((-2147483648 : Int) ≤ σ.2.1 29 a ∧ σ.2.1 29 a ≤ 2147483647) := wf_29 hw ha
              refine tn_goto (tgt := 55) dX4_shiftOf_51 (by decide) ?_
              exact tn_iret rfl dX4_shiftOf_55 ⟨_, rfl, rfl, rfl, by omega⟩
        · refine tn_aload_n dX4_shiftOf_30 rfl 0 rfl ?_
          refine tn_getI (ci := 4) (i := 5) (n := 28) (t := σ.2.1 28 a) dX4_shiftOf_31 rfl lay_4 (by decide) fl4_63 ha rfl rfl (rfl) ?_
          have g17 : ((-2147483648 : Int) ≤ σ.2.1 28 a ∧ σ.2.1 28 a ≤ 2147483647) := wf_28 hw ha
          exact tn_iret rfl dX4_shiftOf_34 ⟨_, rfl, rfl, rfl, by omega⟩
  · refine tn_aload_n dX4_shiftOf_7 rfl 0 rfl ?_
    refine tn_getI (ci := 4) (i := 4) (n := 27) (t := σ.2.1 27 a) dX4_shiftOf_8 rfl lay_4 (by decide) fl4_57 ha rfl rfl (rfl) ?_
    have g18 : ((-2147483648 : Int) ≤ σ.2.1 27 a ∧ σ.2.1 27 a ≤ 2147483647) := wf_27 hw ha
    exact tn_iret rfl dX4_shiftOf_11 ⟨_, rfl, rfl, rfl, by omega⟩
