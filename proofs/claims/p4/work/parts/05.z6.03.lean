theorem cd_X11_end : Cond.code yX11_end cX11_end 2 (some .int) ∈ pWW := pw3 (List.mem_of_getElem? (i := 16) rfl) rfl
abbrev m_X11_end : MT := (yX11_end, cX11_end, 2, (some .int))
theorem ok_X11_end : pOk m_X11_end := ⟨⟨cd_X11_end, ini_11⟩, by decide +kernel, ⟨by decide +kernel, by decide +kernel⟩, Nat.le_of_ble_eq_true rfl⟩
theorem np_X11_end : (parseMethodDescriptor yX11_end.desc).map (fun d => d.parameters.length) = some 1 := by decide +kernel
theorem im_X11_end : Cond.instanceMethod yX11_end ∈ pWW := pw3 (List.mem_of_getElem? (i := 14) rfl) rfl
theorem se_X11_end : Cond.selects RX11 yX11_end yX11_end ∈ pWW := pw3 (List.mem_of_getElem? (i := 15) rfl) rfl
theorem dX11_end_0 : decode cX11_end 0 = .ok (.iload_n 1, 1) := by decide +kernel
theorem dX11_end_1 : decode cX11_end 1 = .ok (.ifCond .lt 11, 3) := by decide +kernel
theorem dX11_end_12 : decode cX11_end 12 = .ok (.iconst (-1), 1) := by decide +kernel
theorem dX11_end_13 : decode cX11_end 13 = .ok (.ireturn, 1) := by decide +kernel
theorem dX11_end_4 : decode cX11_end 4 = .ok (.iload_n 1, 1) := by decide +kernel
theorem dX11_end_5 : decode cX11_end 5 = .ok (.aload_n 0, 1) := by decide +kernel
theorem dX11_end_6 : decode cX11_end 6 = .ok (.getfield 87, 3) := by decide +kernel
theorem dX11_end_9 : decode cX11_end 9 = .ok (.if_icmp .le 5, 3) := by decide +kernel
theorem dX11_end_14 : decode cX11_end 14 = .ok (.aload_n 0, 1) := by decide +kernel
theorem dX11_end_15 : decode cX11_end 15 = .ok (.iload_n 1, 1) := by decide +kernel
theorem dX11_end_16 : decode cX11_end 16 = .ok (.putfield 87, 3) := by decide +kernel
theorem dX11_end_19 : decode cX11_end 19 = .ok (.iload_n 1, 1) := by decide +kernel
theorem dX11_end_20 : decode cX11_end 20 = .ok (.ireturn, 1) := by decide +kernel
set_option maxRecDepth 20000 in
theorem k_X11_end (d : Nat) {T : CT} {σ : MS} {a : Nat} {n : Int} (ha : OB T a 11) (h_n : -2147483648 ≤ n ∧ n ≤ 2147483647) (hw : WT T σ) : Tn (d + 1) m_X11_end 0 T σ [(0, .ref a), (1, .int (iI n))] [] (fun ro T2 σ2 => ∃ v : Int, ro = some (.int (iI v)) ∧ T = T2 ∧ WT T2 σ2 ∧ FrC T [96] σ σ2 ∧ (-2147483648 ≤ v ∧ v ≤ 2147483647) ∧ (((n < 0 ∨ σ.2.1 96 a < n) ∧ v = -1 ∧ σ2.2.1 96 a = σ.2.1 96 a) ∨ (0 ≤ n ∧ n ≤ σ.2.1 96 a ∧ v = n ∧ σ2.2.1 96 a = n))) := by
  refine tn_iload_n dX11_end_0 rfl 1 rfl ?_
  refine tn_if_lt (tgt := 12) dX11_end_1 (by decide) ⟨by omega, by omega⟩ (fun h1 => ?_) (fun h1 => ?_)
  · refine tn_iconst dX11_end_12 ?_
    have q2 : σ.2.1 96 a = σ.2.1 96 a := rfl
    exact tn_iret rfl dX11_end_13 ⟨_, rfl, rfl, hw, FrC.rfl, by omega, by omega⟩
  · refine tn_iload_n dX11_end_4 rfl 1 rfl ?_
    refine tn_aload_n dX11_end_5 rfl 0 rfl ?_
    refine tn_getI (ci := 11) (i := 1) (n := 96) (t := σ.2.1 96 a) dX11_end_6 rfl lay_11 (by decide) fl11_87 ha rfl rfl (rfl) ?_
    have g3 : ((0 : Int) ≤ σ.2.1 96 a ∧ σ.2.1 96 a ≤ 1200) := wf_96 hw ha
    refine tn_icmp_le (tgt := 14) dX11_end_9 (by decide) ⟨by omega, by omega⟩ ⟨by omega, by omega⟩ (fun h4 => ?_) (fun h4 => ?_)
    · refine tn_aload_n dX11_end_14 rfl 0 rfl ?_
      refine tn_iload_n dX11_end_15 rfl 1 rfl ?_
      refine tn_putV (ci := 11) (i := 1) (n := 96) (r := false) (v := n) tyX11 tyX11_ok nmX11 dX11_end_16 rfl lay_11 (by decide) fl11_87 rfl (tyX11_ok 1 (by decide)) rfl rfl rfl ha rfl rfl ?_
      refine tn_iload_n dX11_end_19 rfl 1 rfl ?_
      have q5 : (sA 96 a (n) σ).2.1 96 a = n := ra_eq
      exact tn_iret rfl dX11_end_20 ⟨_, rfl, rfl, (hw.put (by decide) (by decide) (fo_96 (by omega))), (FrC.rfl.put (by decide) (by decide)), by omega, by omega⟩
    · refine tn_iconst dX11_end_12 ?_
      have q6 : σ.2.1 96 a = σ.2.1 96 a := rfl
      exact tn_iret rfl dX11_end_13 ⟨_, rfl, rfl, hw, FrC.rfl, by omega, by omega⟩
