set_option maxHeartbeats 1000000 in
set_option maxRecDepth 20000 in
theorem k_X11_end_h (d : Nat) {T : CT} {σ : MS} {a : Nat} {n : Int} (ha : OB T a 11) (h_n : -2147483648 ≤ n ∧ n ≤ 2147483647) (hw : WT T σ) : Tn (d + 1) m_X11_end 0 T σ [(0, .ref a), (1, .int (iI n))] [] (fun ro T2 σ2 => ∃ v : Int, ro = some (.int (iI v)) ∧ T = T2 ∧ WT T2 σ2 ∧ FrC T [96] σ σ2 ∧ (-2147483648 ≤ v ∧ v ≤ 2147483647) ∧ (CHX [(96, a)] [] [] σ σ2) ∧ (((n < 0 ∨ σ.2.1 96 a < n) ∧ v = -1 ∧ σ2.2.1 96 a = σ.2.1 96 a) ∨ (0 ≤ n ∧ n ≤ σ.2.1 96 a ∧ v = n ∧ σ2.2.1 96 a = n))) := by
  refine tn_iload_n dX11_end_0 rfl 1 rfl ?_
  refine tn_if_lt (tgt := 12) dX11_end_1 (by decide) ⟨by omega, by omega⟩ (fun h1 => ?_) (fun h1 => ?_)
  · refine tn_iconst dX11_end_12 ?_
    have q2 : σ.2.1 96 a = σ.2.1 96 a := rfl
    exact tn_iret rfl dX11_end_13 ⟨_, rfl, rfl, hw, FrC.rfl, by omega, CHX.rfl, by omega⟩
  · refine tn_iload_n dX11_end_4 rfl 1 rfl ?_
    refine tn_aload_n dX11_end_5 rfl 0 rfl ?_
    refine tn_getI (ci := 11) (i := 1) (n := 96) (t := σ.2.1 96 a) dX11_end_6 rfl lay_11 (by decide) fl11_87 ha rfl rfl (rfl) ?_
    have g3 : ((0 : Int) ≤ σ.2.1 96 a ∧ σ.2.1 96 a ≤ 1200) := wf_96 hw ha
    refine tn_icmp_le (tgt := 14) dX11_end_9 (by decide) ⟨by omega, by omega⟩ ⟨by omega, by omega⟩ (fun h4 => ?_) (fun h4 => ?_)
    · refine tn_aload_n dX11_end_14 rfl 0 rfl ?_
      refine tn_iload_n dX11_end_15 rfl 1 rfl ?_
      refine tn_putV (ci := 11) (i := 1) (n := 96) (r := false) (v := n) tyX11 tyX11_ok nmX11 dX11_end_16 rfl lay_11 (by decide) fl11_87 rfl (tyX11_ok 1 (by decide)) rfl rfl rfl ha rfl rfl ?_
      refine tn_iload_n dX11_end_19 rfl 1 rfl ?_
      have q5 : (sA 96 a (n) σ).2.1 96 a = n := ra_eq
      exact tn_iret rfl dX11_end_20 ⟨_, rfl, rfl, (hw.put (by decide) (by decide) (fo_96 (by omega))), (FrC.rfl.put (by decide) (by decide)), by omega, (CHX.rfl.fld (by simp) (by decide)), by omega⟩
    · refine tn_iconst dX11_end_12 ?_
      have q6 : σ.2.1 96 a = σ.2.1 96 a := rfl
      exact tn_iret rfl dX11_end_13 ⟨_, rfl, rfl, hw, FrC.rfl, by omega, CHX.rfl, by omega⟩
