set_option maxHeartbeats 4000000 in
set_option maxRecDepth 20000 in
theorem k_X11_fault_g (d : Nat) {T : CT} {σ : MS} {a : Nat} {w : Int} (ha : OB T a 11) (h_w : -2147483648 ≤ w ∧ w ≤ 2147483647) (hw : WT T σ) : Tn (d + 1) m_X11_fault 0 T σ [(0, .ref a), (1, .int (iI w))] [] (fun ro T2 σ2 => ∃ v : Int, ro = some (.int (iI v)) ∧ T = T2 ∧ σ = σ2 ∧ (-2147483648 ≤ v ∧ v ≤ 2147483647) ∧ ((w = 0 ∧ v = σ.2.1 104 a) ∨ (w = 1 ∧ v = σ.2.1 105 a) ∨ (w ≠ 0 ∧ w ≠ 1 ∧ v = -1))) := by
  refine tn_iload_n dX11_fault_0 rfl 1 rfl ?_
  refine tn_if_ne (tgt := 9) dX11_fault_1 (by decide) ⟨by omega, by omega⟩ (fun h1 => ?_) (fun h1 => ?_)
  · refine tn_iload_n dX11_fault_9 rfl 1 rfl ?_
    refine tn_iconst dX11_fault_10 ?_
    refine tn_icmp_ne (tgt := 21) dX11_fault_11 (by decide) ⟨by omega, by omega⟩ ⟨by decide, by decide⟩ (fun h2 => ?_) (fun h2 => ?_)
    · refine tn_iconst dX11_fault_21 ?_
      exact tn_iret rfl dX11_fault_22 ⟨_, rfl, rfl, rfl, by omega, by omega⟩
    · refine tn_aload_n dX11_fault_14 rfl 0 rfl ?_
      refine tn_getI (ci := 11) (i := 10) (n := 105) (t := σ.2.1 105 a) dX11_fault_15 rfl lay_11 (by decide) fl11_43 ha rfl rfl (rfl) ?_
      have g3 : ((-2147483648 : Int) ≤ σ.2.1 105 a ∧ σ.2.1 105 a ≤ 2147483647) := wf_105 hw ha
      refine tn_goto (tgt := 22) dX11_fault_18 (by decide) ?_
      exact tn_iret rfl dX11_fault_22 ⟨_, rfl, rfl, rfl, by omega, by omega⟩
  · refine tn_aload_n dX11_fault_4 rfl 0 rfl ?_
    refine tn_getI (ci := 11) (i := 9) (n := 104) (t := σ.2.1 104 a) dX11_fault_5 rfl lay_11 (by decide) fl11_101 ha rfl rfl (rfl) ?_
    have g4 : ((-2147483648 : Int) ≤ σ.2.1 104 a ∧ σ.2.1 104 a ≤ 2147483647) := wf_104 hw ha
    exact tn_iret rfl dX11_fault_8 ⟨_, rfl, rfl, rfl, by omega, by omega⟩
