set_option maxHeartbeats 1000000 in
set_option maxRecDepth 20000 in
theorem k_X11_reckon_j (d : Nat) {T : CT} {σ : MS} {k : Int} {x : Int} {y : Int} (h_k : -2147483648 ≤ k ∧ k ≤ 2147483647) (h_x : -2147483648 ≤ x ∧ x ≤ 2147483647) (h_y : -2147483648 ≤ y ∧ y ≤ 2147483647) (hw : WT T σ) : Tn (d + 1) m_X11_reckon 0 T σ [(0, .int (iI k)), (1, .int (iI x)), (2, .int (iI y))] [] (fun ro T2 σ2 => ∃ v : Int, ro = some (.int (iI v)) ∧ T = T2 ∧ σ = σ2 ∧ (-2147483648 ≤ v ∧ v ≤ 2147483647) ∧ (v = rkn k x y)) := by
  refine tn_iload_n dX11_reckon_0 rfl 0 rfl ?_
  by_cases h1 : k < 1 ∨ 5 < k
  · refine tn_tableOut (tgt := 70) dX11_reckon_1 (x := k) ⟨by omega, by omega⟩ h1 (by decide) ?_
    refine tn_iload_n dX11_reckon_70 rfl 1 rfl ?_
    exact tn_iret rfl dX11_reckon_71 ⟨_, rfl, rfl, rfl, by omega, by unfold rkn; (first | (rw [if_neg (by omega)]; done) | (rw [if_pos (by omega)]; unfold wkd; (first | (rw [if_pos (by omega)]; done) | (rw [if_neg (by omega), if_pos (by omega)]; done) | (rw [if_neg (by omega), if_neg (by omega), if_pos (by omega)]; done) | (rw [if_neg (by omega), if_neg (by omega), if_neg (by omega), if_pos (by omega), if_pos (by omega)]; done) | (rw [if_neg (by omega), if_neg (by omega), if_neg (by omega), if_pos (by omega), if_neg (by omega)]; done) | (rw [if_neg (by omega), if_neg (by omega), if_neg (by omega), if_neg (by omega), if_pos (by omega)]; done) | (rw [if_neg (by omega), if_neg (by omega), if_neg (by omega), if_neg (by omega), if_neg (by omega)]; done) | (exfalso; omega))))⟩
  · have h2 : k = 1 ∨ k = 2 ∨ k = 3 ∨ k = 4 ∨ k = 5 := by omega
    rcases h2 with h2 | h2 | h2 | h2 | h2
    · refine tn_tableIn (tgt := 36) (off := 35) dX11_reckon_1 (x := k) ⟨by omega, by omega⟩ (by omega) (by omega) (by rw [h2]; rfl) (by decide) ?_
      refine tn_iload_n dX11_reckon_36 rfl 1 rfl ?_
      refine tn_iload_n dX11_reckon_37 rfl 2 rfl ?_
      refine tn_iadd dX11_reckon_38 ?_
      rw [show iI (x + y) = iI (w32 (x + y)) from (iI_self _).symm]
      have g3r : -2147483648 ≤ w32 (x + y) ∧ w32 (x + y) ≤ 2147483647 := inR_toInt _
      exact tn_iret rfl dX11_reckon_39 ⟨_, rfl, rfl, rfl, by omega, by unfold rkn; (first | (rw [if_neg (by omega)]; done) | (rw [if_pos (by omega)]; unfold wkd; (first | (rw [if_pos (by omega)]; done) | (rw [if_neg (by omega), if_pos (by omega)]; done) | (rw [if_neg (by omega), if_neg (by omega), if_pos (by omega)]; done) | (rw [if_neg (by omega), if_neg (by omega), if_neg (by omega), if_pos (by omega), if_pos (by omega)]; done) | (rw [if_neg (by omega), if_neg (by omega), if_neg (by omega), if_pos (by omega), if_neg (by omega)]; done) | (rw [if_neg (by omega), if_neg (by omega), if_neg (by omega), if_neg (by omega), if_pos (by omega)]; done) | (rw [if_neg (by omega), if_neg (by omega), if_neg (by omega), if_neg (by omega), if_neg (by omega)]; done) | (exfalso; omega))))⟩
    · refine tn_tableIn (tgt := 40) (off := 39) dX11_reckon_1 (x := k) ⟨by omega, by omega⟩ (by omega) (by omega) (by rw [h2]; rfl) (by decide) ?_
      refine tn_iload_n dX11_reckon_40 rfl 1 rfl ?_
      refine tn_iload_n dX11_reckon_41 rfl 2 rfl ?_
      refine tn_isub dX11_reckon_42 ?_
      rw [show iI (x - y) = iI (w32 (x - y)) from (iI_self _).symm]
      have g4r : -2147483648 ≤ w32 (x - y) ∧ w32 (x - y) ≤ 2147483647 := inR_toInt _
      exact tn_iret rfl dX11_reckon_43 ⟨_, rfl, rfl, rfl, by omega, by unfold rkn; (first | (rw [if_neg (by omega)]; done) | (rw [if_pos (by omega)]; unfold wkd; (first | (rw [if_pos (by omega)]; done) | (rw [if_neg (by omega), if_pos (by omega)]; done) | (rw [if_neg (by omega), if_neg (by omega), if_pos (by omega)]; done) | (rw [if_neg (by omega), if_neg (by omega), if_neg (by omega), if_pos (by omega), if_pos (by omega)]; done) | (rw [if_neg (by omega), if_neg (by omega), if_neg (by omega), if_pos (by omega), if_neg (by omega)]; done) | (rw [if_neg (by omega), if_neg (by omega), if_neg (by omega), if_neg (by omega), if_pos (by omega)]; done) | (rw [if_neg (by omega), if_neg (by omega), if_neg (by omega), if_neg (by omega), if_neg (by omega)]; done) | (exfalso; omega))))⟩
    · refine tn_tableIn (tgt := 44) (off := 43) dX11_reckon_1 (x := k) ⟨by omega, by omega⟩ (by omega) (by omega) (by rw [h2]; rfl) (by decide) ?_
      refine tn_iload_n dX11_reckon_44 rfl 1 rfl ?_
      refine tn_iload_n dX11_reckon_45 rfl 2 rfl ?_
      refine tn_imul dX11_reckon_46 ?_
      rw [show iI (x * y) = iI (w32 (x * y)) from (iI_self _).symm]
      have g5r : -2147483648 ≤ w32 (x * y) ∧ w32 (x * y) ≤ 2147483647 := inR_toInt _
      exact tn_iret rfl dX11_reckon_47 ⟨_, rfl, rfl, rfl, by omega, by unfold rkn; (first | (rw [if_neg (by omega)]; done) | (rw [if_pos (by omega)]; unfold wkd; (first | (rw [if_pos (by omega)]; done) | (rw [if_neg (by omega), if_pos (by omega)]; done) | (rw [if_neg (by omega), if_neg (by omega), if_pos (by omega)]; done) | (rw [if_neg (by omega), if_neg (by omega), if_neg (by omega), if_pos (by omega), if_pos (by omega)]; done) | (rw [if_neg (by omega), if_neg (by omega), if_neg (by omega), if_pos (by omega), if_neg (by omega)]; done) | (rw [if_neg (by omega), if_neg (by omega), if_neg (by omega), if_neg (by omega), if_pos (by omega)]; done) | (rw [if_neg (by omega), if_neg (by omega), if_neg (by omega), if_neg (by omega), if_neg (by omega)]; done) | (exfalso; omega))))⟩
    · refine tn_tableIn (tgt := 48) (off := 47) dX11_reckon_1 (x := k) ⟨by omega, by omega⟩ (by omega) (by omega) (by rw [h2]; rfl) (by decide) ?_
      refine tn_iload_n dX11_reckon_48 rfl 1 rfl ?_
      refine tn_iload_n dX11_reckon_49 rfl 2 rfl ?_
      refine tn_icmp_ne (tgt := 57) dX11_reckon_50 (by decide) ⟨by omega, by omega⟩ ⟨by omega, by omega⟩ (fun h6 => ?_) (fun h6 => ?_)
      · refine tn_iconst dX11_reckon_57 ?_
        exact tn_iret rfl dX11_reckon_58 ⟨_, rfl, rfl, rfl, by omega, by unfold rkn; (first | (rw [if_neg (by omega)]; done) | (rw [if_pos (by omega)]; unfold wkd; (first | (rw [if_pos (by omega)]; done) | (rw [if_neg (by omega), if_pos (by omega)]; done) | (rw [if_neg (by omega), if_neg (by omega), if_pos (by omega)]; done) | (rw [if_neg (by omega), if_neg (by omega), if_neg (by omega), if_pos (by omega), if_pos (by omega)]; done) | (rw [if_neg (by omega), if_neg (by omega), if_neg (by omega), if_pos (by omega), if_neg (by omega)]; done) | (rw [if_neg (by omega), if_neg (by omega), if_neg (by omega), if_neg (by omega), if_pos (by omega)]; done) | (rw [if_neg (by omega), if_neg (by omega), if_neg (by omega), if_neg (by omega), if_neg (by omega)]; done) | (exfalso; omega))))⟩
      · refine tn_iconst dX11_reckon_53 ?_
        refine tn_goto (tgt := 58) dX11_reckon_54 (by decide) ?_
        exact tn_iret rfl dX11_reckon_58 ⟨_, rfl, rfl, rfl, by omega, by unfold rkn; (first | (rw [if_neg (by omega)]; done) | (rw [if_pos (by omega)]; unfold wkd; (first | (rw [if_pos (by omega)]; done) | (rw [if_neg (by omega), if_pos (by omega)]; done) | (rw [if_neg (by omega), if_neg (by omega), if_pos (by omega)]; done) | (rw [if_neg (by omega), if_neg (by omega), if_neg (by omega), if_pos (by omega), if_pos (by omega)]; done) | (rw [if_neg (by omega), if_neg (by omega), if_neg (by omega), if_pos (by omega), if_neg (by omega)]; done) | (rw [if_neg (by omega), if_neg (by omega), if_neg (by omega), if_neg (by omega), if_pos (by omega)]; done) | (rw [if_neg (by omega), if_neg (by omega), if_neg (by omega), if_neg (by omega), if_neg (by omega)]; done) | (exfalso; omega))))⟩
    · refine tn_tableIn (tgt := 59) (off := 58) dX11_reckon_1 (x := k) ⟨by omega, by omega⟩ (by omega) (by omega) (by rw [h2]; rfl) (by decide) ?_
      refine tn_iload_n dX11_reckon_59 rfl 1 rfl ?_
      refine tn_iload_n dX11_reckon_60 rfl 2 rfl ?_
      refine tn_icmp_ge (tgt := 68) dX11_reckon_61 (by decide) ⟨by omega, by omega⟩ ⟨by omega, by omega⟩ (fun h7 => ?_) (fun h7 => ?_)
      · refine tn_iconst dX11_reckon_68 ?_
        exact tn_iret rfl dX11_reckon_69 ⟨_, rfl, rfl, rfl, by omega, by unfold rkn; (first | (rw [if_neg (by omega)]; done) | (rw [if_pos (by omega)]; unfold wkd; (first | (rw [if_pos (by omega)]; done) | (rw [if_neg (by omega), if_pos (by omega)]; done) | (rw [if_neg (by omega), if_neg (by omega), if_pos (by omega)]; done) | (rw [if_neg (by omega), if_neg (by omega), if_neg (by omega), if_pos (by omega), if_pos (by omega)]; done) | (rw [if_neg (by omega), if_neg (by omega), if_neg (by omega), if_pos (by omega), if_neg (by omega)]; done) | (rw [if_neg (by omega), if_neg (by omega), if_neg (by omega), if_neg (by omega), if_pos (by omega)]; done) | (rw [if_neg (by omega), if_neg (by omega), if_neg (by omega), if_neg (by omega), if_neg (by omega)]; done) | (exfalso; omega))))⟩
      · refine tn_iconst dX11_reckon_64 ?_
        refine tn_goto (tgt := 69) dX11_reckon_65 (by decide) ?_
        exact tn_iret rfl dX11_reckon_69 ⟨_, rfl, rfl, rfl, by omega, by unfold rkn; (first | (rw [if_neg (by omega)]; done) | (rw [if_pos (by omega)]; unfold wkd; (first | (rw [if_pos (by omega)]; done) | (rw [if_neg (by omega), if_pos (by omega)]; done) | (rw [if_neg (by omega), if_neg (by omega), if_pos (by omega)]; done) | (rw [if_neg (by omega), if_neg (by omega), if_neg (by omega), if_pos (by omega), if_pos (by omega)]; done) | (rw [if_neg (by omega), if_neg (by omega), if_neg (by omega), if_pos (by omega), if_neg (by omega)]; done) | (rw [if_neg (by omega), if_neg (by omega), if_neg (by omega), if_neg (by omega), if_pos (by omega)]; done) | (rw [if_neg (by omega), if_neg (by omega), if_neg (by omega), if_neg (by omega), if_neg (by omega)]; done) | (exfalso; omega))))⟩
