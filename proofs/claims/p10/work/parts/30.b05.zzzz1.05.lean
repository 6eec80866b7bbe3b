set_option maxHeartbeats 1000000 in
set_option maxRecDepth 20000 in
theorem k_X7_codeAt_j (d : Nat) {T : CT} {σ : MS} {a : Nat} {r : Int} {y : Nat} (ha : OB T a 7) (h_r : -2147483648 ≤ r ∧ r ≤ 2147483647) (hw : WT T σ) (hy : σ.2.1 55 a = (y : Int)) : Tn (d + 1) m_X7_codeAt 0 T σ [(0, .ref a), (1, .int (iI r))] [] (fun ro T2 σ2 => ∃ v : Int, ro = some (vl true v) ∧ T = T2 ∧ σ = σ2 ∧ (v < 0 ∨ ∃ x : Nat, v = (x : Int) ∧ OB T2 x 1 ∧ RC T2 a x) ∧ (CAT r v) ∧ (v = jC σ y r)) := by
  refine tn_iload_n dX7_codeAt_0 rfl 1 rfl ?_
  refine tn_if_lt (tgt := 22) dX7_codeAt_1 (by decide) ⟨by omega, by omega⟩ (fun h1 => ?_) (fun h1 => ?_)
  · refine tn_null dX7_codeAt_22 ?_
    exact tn_aret rfl (Or.inl ⟨_, rfl⟩) (Or.inl rfl) dX7_codeAt_23 ⟨-1, congrArg some (vl_null (by decide)).symm, rfl, rfl, Or.inl (by decide), by unfold CAT; omega, by unfold jC; rw [if_neg (by omega)]⟩
  · refine tn_iload_n dX7_codeAt_4 rfl 1 rfl ?_
    refine tn_aload_n dX7_codeAt_5 rfl 0 rfl ?_
    obtain ⟨hl5, hk4a, hk4b⟩ := ex_at (wf_55 hw ha) hy
    have hk4i : (T y).1 = 4 ∨ (T y).1 = 5 := by omega
    have hk4c : RROW T a y := ⟨hk4a, hk4b⟩
    clear hk4a hk4b
    refine tn_getR (ci := 7) (i := 0) (n := 55) (x := y) dX7_codeAt_6 rfl lay_7 (by decide) fl7_30 ha rfl rfl (hy) ?_
    refine tn_alenX dX7_codeAt_9 (by have q9 := hk4i; omega) ?_
    refine tn_icmp_ge (tgt := 22) dX7_codeAt_10 (by decide) ⟨by omega, by omega⟩ ⟨by omega, by omega⟩ (fun h6 => ?_) (fun h6 => ?_)
    · refine tn_null dX7_codeAt_22 ?_
      exact tn_aret rfl (Or.inl ⟨_, rfl⟩) (Or.inl rfl) dX7_codeAt_23 ⟨-1, congrArg some (vl_null (by decide)).symm, rfl, rfl, Or.inl (by decide), by unfold CAT; omega, by unfold jC; rw [if_neg (by omega)]⟩
    · refine tn_aload_n dX7_codeAt_13 rfl 0 rfl ?_
      refine tn_getR (ci := 7) (i := 0) (n := 55) (x := y) dX7_codeAt_14 rfl lay_7 (by decide) fl7_30 ha rfl rfl (hy) ?_
      refine tn_iload_n dX7_codeAt_17 rfl 1 rfl ?_
      obtain ⟨xq7, hx8, hk9o, hk9⟩ := codeRow (hw) hk4i (i := r) (by omega) (by omega)
      refine tn_aald (z := r) (x := xq7) dX7_codeAt_18 hk4i (by omega) (by omega) (by omega) hx8 ?_
      refine tn_goto (tgt := 23) dX7_codeAt_19 (by decide) ?_
      exact tn_aret rfl (Or.inl ⟨_, rfl⟩) (Or.inr ⟨_, rfl⟩) dX7_codeAt_23 ⟨(xq7 : Int), congrArg some (vl_ref rfl).symm, rfl, rfl, Or.inr ⟨_, rfl, hk9o, RROW.rc hk4c hk9⟩, by unfold CAT; omega, by unfold jC; rw [if_pos ⟨by omega, by omega⟩]; first | assumption | (symm; assumption)⟩
