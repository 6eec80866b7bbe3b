theorem cd_X7_stops : Cond.code yX7_stops cX7_stops 3 (some .boolean) ∈ pWW := pw6 (List.mem_of_getElem? (i := 96) rfl) rfl
abbrev m_X7_stops : MT := (yX7_stops, cX7_stops, 3, (some .boolean))
theorem ok_X7_stops : pOk m_X7_stops := ⟨⟨cd_X7_stops, ini_7⟩, by decide +kernel, ⟨by decide +kernel, by decide +kernel⟩, Nat.le_of_ble_eq_true rfl⟩
theorem np_X7_stops : (parseMethodDescriptor yX7_stops.desc).map (fun d => d.parameters.length) = some 2 := by decide +kernel
theorem im_X7_stops : Cond.instanceMethod yX7_stops ∈ pWW := pw6 (List.mem_of_getElem? (i := 95) rfl) rfl
theorem se_X7_stops : Cond.selects RX7 yX7_stops yX7_stops ∈ pWW := pws (List.mem_map.mpr ⟨_, lw_pin 94 rfl, rfl⟩) rfl
theorem fl7_38 : Cond.fieldLink RX7 38 (TX7 3).1 (TX7 3).2.1 (TX7 3).2.2.1 ∈ pWW := pw2 (List.mem_of_getElem? (i := 138) rfl) rfl
theorem dX7_stops_0 : decode cX7_stops 0 = .ok (.iload_n 1, 1) := by decide +kernel
theorem dX7_stops_1 : decode cX7_stops 1 = .ok (.ifCond .ne 5, 3) := by decide +kernel
theorem dX7_stops_6 : decode cX7_stops 6 = .ok (.iload_n 1, 1) := by decide +kernel
theorem dX7_stops_7 : decode cX7_stops 7 = .ok (.iconst 1, 1) := by decide +kernel
theorem dX7_stops_8 : decode cX7_stops 8 = .ok (.if_icmp .ne 19, 3) := by decide +kernel
theorem dX7_stops_27 : decode cX7_stops 27 = .ok (.aload_n 0, 1) := by decide +kernel
theorem dX7_stops_28 : decode cX7_stops 28 = .ok (.getfield 38, 3) := by decide +kernel
theorem dX7_stops_31 : decode cX7_stops 31 = .ok (.iload_n 2, 1) := by decide +kernel
theorem dX7_stops_32 : decode cX7_stops 32 = .ok (.if_icmp .ge 7, 3) := by decide +kernel
theorem dX7_stops_39 : decode cX7_stops 39 = .ok (.iconst 0, 1) := by decide +kernel
theorem dX7_stops_40 : decode cX7_stops 40 = .ok (.ireturn, 1) := by decide +kernel
theorem dX7_stops_35 : decode cX7_stops 35 = .ok (.iconst 1, 1) := by decide +kernel
theorem dX7_stops_36 : decode cX7_stops 36 = .ok (.goto 4, 3) := by decide +kernel
theorem dX7_stops_11 : decode cX7_stops 11 = .ok (.aload_n 0, 1) := by decide +kernel
theorem dX7_stops_12 : decode cX7_stops 12 = .ok (.getfield 38, 3) := by decide +kernel
theorem dX7_stops_15 : decode cX7_stops 15 = .ok (.iload_n 2, 1) := by decide +kernel
theorem dX7_stops_16 : decode cX7_stops 16 = .ok (.if_icmp .gt 7, 3) := by decide +kernel
theorem dX7_stops_23 : decode cX7_stops 23 = .ok (.iconst 0, 1) := by decide +kernel
theorem dX7_stops_24 : decode cX7_stops 24 = .ok (.goto 16, 3) := by decide +kernel
theorem dX7_stops_19 : decode cX7_stops 19 = .ok (.iconst 1, 1) := by decide +kernel
theorem dX7_stops_20 : decode cX7_stops 20 = .ok (.goto 20, 3) := by decide +kernel
theorem dX7_stops_4 : decode cX7_stops 4 = .ok (.iconst 1, 1) := by decide +kernel
theorem dX7_stops_5 : decode cX7_stops 5 = .ok (.ireturn, 1) := by decide +kernel
set_option maxRecDepth 20000 in
theorem k_X7_stops (d : Nat) {T : CT} {σ : MS} {a : Nat} {p1 : Int} {p2 : Int} (ha : OB T a 7) (h_p1 : -2147483648 ≤ p1 ∧ p1 ≤ 2147483647) (h_p2 : -2147483648 ≤ p2 ∧ p2 ≤ 2147483647) (hw : WT T σ) : Tn (d + 1) m_X7_stops 0 T σ [(0, .ref a), (1, .int (iI p1)), (2, .int (iI p2))] [] (fun ro T2 σ2 => ∃ v : Int, ro = some (.int (iI v)) ∧ T = T2 ∧ σ = σ2 ∧ (v = 0 ∨ v = 1)) := by
  refine tn_iload_n dX7_stops_0 rfl 1 rfl ?_
  refine tn_if_ne (tgt := 6) dX7_stops_1 (by decide) ⟨by omega, by omega⟩ (fun h1 => ?_) (fun h1 => ?_)
  · refine tn_iload_n dX7_stops_6 rfl 1 rfl ?_
    refine tn_iconst dX7_stops_7 ?_
    refine tn_icmp_ne (tgt := 27) dX7_stops_8 (by decide) ⟨by omega, by omega⟩ ⟨by decide, by decide⟩ (fun h2 => ?_) (fun h2 => ?_)
    · refine tn_aload_n dX7_stops_27 rfl 0 rfl ?_
      refine tn_getI (ci := 7) (i := 3) (n := 58) (t := σ.2.1 58 a) dX7_stops_28 rfl lay_7 (by decide) fl7_38 ha rfl rfl (rfl) ?_
      have g3 : ((-2147483648 : Int) ≤ σ.2.1 58 a ∧ σ.2.1 58 a ≤ 2147483647) := wf_58 hw ha
      refine tn_iload_n dX7_stops_31 rfl 2 rfl ?_
      refine tn_icmp_ge (tgt := 39) dX7_stops_32 (by decide) ⟨by omega, by omega⟩ ⟨by omega, by omega⟩ (fun h4 => ?_) (fun h4 => ?_)
      · refine tn_iconst dX7_stops_39 ?_
        exact tn_zret (v := 0) rfl (by decide) dX7_stops_40 ⟨_, rfl, rfl, rfl, by omega⟩
      · refine tn_iconst dX7_stops_35 ?_
        refine tn_goto (tgt := 40) dX7_stops_36 (by decide) ?_
        exact tn_zret (v := 1) rfl (by decide) dX7_stops_40 ⟨_, rfl, rfl, rfl, by omega⟩
    · refine tn_aload_n dX7_stops_11 rfl 0 rfl ?_
      refine tn_getI (ci := 7) (i := 3) (n := 58) (t := σ.2.1 58 a) dX7_stops_12 rfl lay_7 (by decide) fl7_38 ha rfl rfl (rfl) ?_
      have g5 : ((-2147483648 : Int) ≤ σ.2.1 58 a ∧ σ.2.1 58 a ≤ 2147483647) := wf_58 hw ha
      refine tn_iload_n dX7_stops_15 rfl 2 rfl ?_
      refine tn_icmp_gt (tgt := 23) dX7_stops_16 (by decide) ⟨by omega, by omega⟩ ⟨by omega, by omega⟩ (fun h6 => ?_) (fun h6 => ?_)
      · refine tn_iconst dX7_stops_23 ?_
        refine tn_goto (tgt := 40) dX7_stops_24 (by decide) ?_
        exact tn_zret (v := 0) rfl (by decide) dX7_stops_40 ⟨_, rfl, rfl, rfl, by omega⟩
      · refine tn_iconst dX7_stops_19 ?_
        refine tn_goto (tgt := 40) dX7_stops_20 (by decide) ?_
        exact tn_zret (v := 1) rfl (by decide) dX7_stops_40 ⟨_, rfl, rfl, rfl, by omega⟩
  · refine tn_iconst dX7_stops_4 ?_
    exact tn_zret (v := 1) rfl (by decide) dX7_stops_5 ⟨_, rfl, rfl, rfl, by omega⟩
