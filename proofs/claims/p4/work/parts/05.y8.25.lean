theorem cd_X7_codeAt : Cond.code yX7_codeAt cX7_codeAt 2 (some (.object "LineKeeper$Code")) ∈ pWW := pw6 (List.mem_of_getElem? (i := 40) rfl) rfl
abbrev m_X7_codeAt : MT := (yX7_codeAt, cX7_codeAt, 2, (some (.object "LineKeeper$Code")))
theorem ok_X7_codeAt : pOk m_X7_codeAt := ⟨⟨cd_X7_codeAt, ini_7⟩, by decide +kernel, ⟨by decide +kernel, by decide +kernel⟩, Nat.le_of_ble_eq_true rfl⟩
theorem np_X7_codeAt : (parseMethodDescriptor yX7_codeAt.desc).map (fun d => d.parameters.length) = some 1 := by decide +kernel
theorem im_X7_codeAt : Cond.instanceMethod yX7_codeAt ∈ pWW := pw6 (List.mem_of_getElem? (i := 39) rfl) rfl
theorem se_X7_codeAt : Cond.selects RX7 yX7_codeAt yX7_codeAt ∈ pWW := pws (List.mem_map.mpr ⟨_, lw_pin 86 rfl, rfl⟩) rfl
theorem fl7_30 : Cond.fieldLink RX7 30 (TX7 0).1 (TX7 0).2.1 (TX7 0).2.2.1 ∈ pWW := pw2 (List.mem_of_getElem? (i := 133) rfl) rfl
theorem dX7_codeAt_0 : decode cX7_codeAt 0 = .ok (.iload_n 1, 1) := by decide +kernel
theorem dX7_codeAt_1 : decode cX7_codeAt 1 = .ok (.ifCond .lt 21, 3) := by decide +kernel
theorem dX7_codeAt_22 : decode cX7_codeAt 22 = .ok (.aconst_null, 1) := by decide +kernel
theorem dX7_codeAt_23 : decode cX7_codeAt 23 = .ok (.areturn, 1) := by decide +kernel
theorem dX7_codeAt_4 : decode cX7_codeAt 4 = .ok (.iload_n 1, 1) := by decide +kernel
theorem dX7_codeAt_5 : decode cX7_codeAt 5 = .ok (.aload_n 0, 1) := by decide +kernel
theorem dX7_codeAt_6 : decode cX7_codeAt 6 = .ok (.getfield 30, 3) := by decide +kernel
theorem dX7_codeAt_9 : decode cX7_codeAt 9 = .ok (.arraylength, 1) := by decide +kernel
theorem dX7_codeAt_10 : decode cX7_codeAt 10 = .ok (.if_icmp .ge 12, 3) := by decide +kernel
theorem dX7_codeAt_13 : decode cX7_codeAt 13 = .ok (.aload_n 0, 1) := by decide +kernel
theorem dX7_codeAt_14 : decode cX7_codeAt 14 = .ok (.getfield 30, 3) := by decide +kernel
theorem dX7_codeAt_17 : decode cX7_codeAt 17 = .ok (.iload_n 1, 1) := by decide +kernel
theorem dX7_codeAt_18 : decode cX7_codeAt 18 = .ok (.aaload, 1) := by decide +kernel
theorem dX7_codeAt_19 : decode cX7_codeAt 19 = .ok (.goto 4, 3) := by decide +kernel
set_option maxRecDepth 20000 in
theorem k_X7_codeAt (d : Nat) {T : CT} {σ : MS} {a : Nat} {r : Int} (ha : OB T a 7) (h_r : -2147483648 ≤ r ∧ r ≤ 2147483647) (hw : WT T σ) : Tn (d + 1) m_X7_codeAt 0 T σ [(0, .ref a), (1, .int (iI r))] [] (fun ro T2 σ2 => ∃ v : Int, ro = some (vl true v) ∧ T = T2 ∧ σ = σ2 ∧ (v < 0 ∨ ∃ x : Nat, v = (x : Int) ∧ OB T2 x 1 ∧ RC T2 a x) ∧ (CAT r v)) := by
  refine tn_iload_n dX7_codeAt_0 rfl 1 rfl ?_
  refine tn_if_lt (tgt := 22) dX7_codeAt_1 (by decide) ⟨by omega, by omega⟩ (fun h1 => ?_) (fun h1 => ?_)
  · refine tn_null dX7_codeAt_22 ?_
    exact tn_aret rfl (Or.inl ⟨_, rfl⟩) (Or.inl rfl) dX7_codeAt_23 ⟨-1, congrArg some (vl_null (by decide)).symm, rfl, rfl, Or.inl (by decide), by unfold CAT; omega⟩
  · refine tn_iload_n dX7_codeAt_4 rfl 1 rfl ?_
    refine tn_aload_n dX7_codeAt_5 rfl 0 rfl ?_
    obtain ⟨x2, hx3, hl5, hk4a, hk4b⟩ := wf_55 hw ha
    have hk4i : (T x2).1 = 4 ∨ (T x2).1 = 5 := by omega
    have hk4c : RROW T a x2 := ⟨hk4a, hk4b⟩
    clear hk4a hk4b
    refine tn_getR (ci := 7) (i := 0) (n := 55) (x := x2) dX7_codeAt_6 rfl lay_7 (by decide) fl7_30 ha rfl rfl (hx3) ?_
    refine tn_alenX dX7_codeAt_9 (by have q9 := hk4i; omega) ?_
    refine tn_icmp_ge (tgt := 22) dX7_codeAt_10 (by decide) ⟨by omega, by omega⟩ ⟨by omega, by omega⟩ (fun h6 => ?_) (fun h6 => ?_)
    · refine tn_null dX7_codeAt_22 ?_
      exact tn_aret rfl (Or.inl ⟨_, rfl⟩) (Or.inl rfl) dX7_codeAt_23 ⟨-1, congrArg some (vl_null (by decide)).symm, rfl, rfl, Or.inl (by decide), by unfold CAT; omega⟩
    · refine tn_aload_n dX7_codeAt_13 rfl 0 rfl ?_
      refine tn_getR (ci := 7) (i := 0) (n := 55) (x := x2) dX7_codeAt_14 rfl lay_7 (by decide) fl7_30 ha rfl rfl (hx3) ?_
      refine tn_iload_n dX7_codeAt_17 rfl 1 rfl ?_
      obtain ⟨x7, hx8, hk9o, hk9⟩ := codeRow (hw) hk4i (i := r) (by omega) (by omega)
      refine tn_aald (z := r) (x := x7) dX7_codeAt_18 hk4i (by omega) (by omega) (by omega) hx8 ?_
      refine tn_goto (tgt := 23) dX7_codeAt_19 (by decide) ?_
      exact tn_aret rfl (Or.inl ⟨_, rfl⟩) (Or.inr ⟨_, rfl⟩) dX7_codeAt_23 ⟨(x7 : Int), congrArg some (vl_ref rfl).symm, rfl, rfl, Or.inr ⟨_, rfl, hk9o, RROW.rc hk4c hk9⟩, by unfold CAT; omega⟩
