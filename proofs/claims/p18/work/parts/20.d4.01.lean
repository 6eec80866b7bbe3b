set_option maxHeartbeats 4000000 in
set_option maxRecDepth 20000 in
theorem k_X11_codeOf_g (d : Nat) {T : CT} {σ : MS} {a : Nat} {r : Int} (ha : OB T a 11) (h_r : -2147483648 ≤ r ∧ r ≤ 2147483647) (hw : WT T σ) : Tn (d + 1) m_X11_codeOf 0 T σ [(0, .ref a), (1, .int (iI r))] [] (fun ro T2 σ2 => ∃ v : Int, ro = some (vl true v) ∧ T = T2 ∧ σ = σ2 ∧ (v < 0 ∨ ∃ x : Nat, v = (x : Int) ∧ (T2 x).1 = 50) ∧ ((0 ≤ v ∧ 0 ≤ r ∧ r < σ.2.1 97 a) ∨ (v < 0 ∧ (r < 0 ∨ σ.2.1 97 a ≤ r)))) := by
  refine tn_iload_n dX11_codeOf_0 rfl 1 rfl ?_
  refine tn_if_lt (tgt := 30) dX11_codeOf_1 (by decide) ⟨by omega, by omega⟩ (fun h1 => ?_) (fun h1 => ?_)
  · refine tn_null dX11_codeOf_30 ?_
    exact tn_aret rfl (Or.inl ⟨_, rfl⟩) (Or.inl rfl) dX11_codeOf_31 ⟨-1, congrArg some (vl_null (by decide)).symm, rfl, rfl, Or.inl (by decide), by omega⟩
  · refine tn_iload_n dX11_codeOf_4 rfl 1 rfl ?_
    refine tn_aload_n dX11_codeOf_5 rfl 0 rfl ?_
    refine tn_getI (ci := 11) (i := 2) (n := 97) (t := σ.2.1 97 a) dX11_codeOf_6 rfl lay_11 (by decide) fl11_116 ha rfl rfl (rfl) ?_
    have g2 : ((0 : Int) ≤ σ.2.1 97 a ∧ σ.2.1 97 a ≤ 6) := wf_97 hw ha
    refine tn_icmp_ge (tgt := 30) dX11_codeOf_9 (by decide) ⟨by omega, by omega⟩ ⟨by omega, by omega⟩ (fun h3 => ?_) (fun h3 => ?_)
    · refine tn_null dX11_codeOf_30 ?_
      exact tn_aret rfl (Or.inl ⟨_, rfl⟩) (Or.inl rfl) dX11_codeOf_31 ⟨-1, congrArg some (vl_null (by decide)).symm, rfl, rfl, Or.inl (by decide), by omega⟩
    · refine tn_iload_n dX11_codeOf_12 rfl 1 rfl ?_
      refine tn_aload_n dX11_codeOf_13 rfl 0 rfl ?_
      obtain ⟨x4, hx5, hk6, hl7⟩ : ∃ x : Nat, σ.2.1 99 a = (x : Int) ∧ AR T x 5 6 6 := wf_99 hw ha
      have hk6i : (T x4).1 = 4 ∨ (T x4).1 = 5 := by omega
      refine tn_getR (ci := 11) (i := 4) (n := 99) (x := x4) dX11_codeOf_14 rfl lay_11 (by decide) fl11_19 ha rfl rfl (hx5) ?_
      refine tn_alenX dX11_codeOf_17 (by have q9 := hk6i; omega) ?_
      refine tn_icmp_ge (tgt := 30) dX11_codeOf_18 (by decide) ⟨by omega, by omega⟩ ⟨by omega, by omega⟩ (fun h8 => absurd h8 (by omega)) (fun h8 => ?_)
      refine tn_aload_n dX11_codeOf_21 rfl 0 rfl ?_
      refine tn_getR (ci := 11) (i := 4) (n := 99) (x := x4) dX11_codeOf_22 rfl lay_11 (by decide) fl11_19 ha rfl rfl (hx5) ?_
      refine tn_iload_n dX11_codeOf_25 rfl 1 rfl ?_
      obtain ⟨x9, hx10, hk11⟩ := (hw).2.2.2.1.2 x4 hk6 (r) (by omega) (by omega)
      refine tn_aald (z := r) (x := x9) dX11_codeOf_26 hk6i (by omega) (by omega) (by omega) hx10 ?_
      have hk11o : OB T x9 1 := ⟨by omega, by rw [hk11]; rfl, by omega⟩
      refine tn_goto (tgt := 31) dX11_codeOf_27 (by decide) ?_
      exact tn_aret rfl (Or.inl ⟨_, rfl⟩) (Or.inr ⟨_, rfl⟩) dX11_codeOf_31 ⟨(x9 : Int), congrArg some (vl_ref rfl).symm, rfl, rfl, Or.inr ⟨_, rfl, hk11⟩, by omega⟩
