theorem cd_X5_newLabel : Cond.code yX5_newLabel cX5_newLabel 1 (some .int) ∈ pWW := pw3 (List.mem_of_getElem? (i := 221) rfl) rfl
abbrev m_X5_newLabel : MT := (yX5_newLabel, cX5_newLabel, 1, (some .int))
theorem ok_X5_newLabel : pOk m_X5_newLabel := ⟨⟨cd_X5_newLabel, ini_5⟩, by decide +kernel, ⟨by decide +kernel, by decide +kernel⟩, Nat.le_of_ble_eq_true rfl⟩
theorem np_X5_newLabel : (parseMethodDescriptor yX5_newLabel.desc).map (fun d => d.parameters.length) = some 0 := by decide +kernel
theorem im_X5_newLabel : Cond.instanceMethod yX5_newLabel ∈ pWW := pw3 (List.mem_of_getElem? (i := 220) rfl) rfl
theorem se_X5_newLabel : Cond.selects RX5 yX5_newLabel yX5_newLabel ∈ pWW := pws (List.mem_map.mpr ⟨_, lw_pin 29 rfl, rfl⟩) rfl
theorem fl5_133 : Cond.fieldLink RX5 133 (TX5 13).1 (TX5 13).2.1 (TX5 13).2.2.1 ∈ pWW := pw1 (List.mem_of_getElem? (i := 169) rfl) rfl
theorem dX5_newLabel_0 : decode cX5_newLabel 0 = .ok (.aload_n 0, 1) := by decide +kernel
theorem dX5_newLabel_1 : decode cX5_newLabel 1 = .ok (.dup, 1) := by decide +kernel
theorem dX5_newLabel_2 : decode cX5_newLabel 2 = .ok (.getfield 133, 3) := by decide +kernel
theorem dX5_newLabel_5 : decode cX5_newLabel 5 = .ok (.iconst 1, 1) := by decide +kernel
theorem dX5_newLabel_6 : decode cX5_newLabel 6 = .ok (.iadd, 1) := by decide +kernel
theorem dX5_newLabel_7 : decode cX5_newLabel 7 = .ok (.putfield 133, 3) := by decide +kernel
theorem dX5_newLabel_10 : decode cX5_newLabel 10 = .ok (.aload_n 0, 1) := by decide +kernel
theorem dX5_newLabel_11 : decode cX5_newLabel 11 = .ok (.getfield 133, 3) := by decide +kernel
theorem dX5_newLabel_14 : decode cX5_newLabel 14 = .ok (.iconst 1, 1) := by decide +kernel
theorem dX5_newLabel_15 : decode cX5_newLabel 15 = .ok (.isub, 1) := by decide +kernel
theorem dX5_newLabel_16 : decode cX5_newLabel 16 = .ok (.ireturn, 1) := by decide +kernel
set_option maxRecDepth 20000 in
theorem k_X5_newLabel (d : Nat) {T : CT} {σ : MS} {a : Nat} (ha : OB T a 5) (hw : WT T σ) : Tn (d + 1) m_X5_newLabel 0 T σ [(0, .ref a)] [] (fun ro T2 σ2 => ∃ v : Int, ro = some (.int (iI v)) ∧ T = T2 ∧ WT T2 σ2 ∧ FrC T [46] σ σ2 ∧ (-2147483648 ≤ v ∧ v ≤ 2147483647)) := by
  refine tn_aload_n dX5_newLabel_0 rfl 0 rfl ?_
  refine tn_dup dX5_newLabel_1 rfl ?_
  refine tn_getI (ci := 5) (i := 13) (n := 46) (t := σ.2.1 46 a) dX5_newLabel_2 rfl lay_5 (by decide) fl5_133 ha rfl rfl (rfl) ?_
  have g1 : ((-2147483648 : Int) ≤ σ.2.1 46 a ∧ σ.2.1 46 a ≤ 2147483647) := wf_46 hw ha
  refine tn_iconst dX5_newLabel_5 ?_
  refine tn_iadd dX5_newLabel_6 ?_
  refine tn_any (fun z2 g3 => ?_)
  have g3r : -2147483648 ≤ z2 ∧ z2 ≤ 2147483647 := g3
  refine tn_putV (ci := 5) (i := 13) (n := 46) (r := false) (v := z2) tyX5 tyX5_ok nmX5 dX5_newLabel_7 rfl lay_5 (by decide) fl5_133 rfl (tyX5_ok 13 (by decide)) rfl rfl rfl ha rfl rfl ?_
  refine tn_aload_n dX5_newLabel_10 rfl 0 rfl ?_
  refine tn_getI (ci := 5) (i := 13) (n := 46) (t := z2) dX5_newLabel_11 rfl lay_5 (by decide) fl5_133 ha rfl rfl (ra_eq) ?_
  refine tn_iconst dX5_newLabel_14 ?_
  refine tn_isub dX5_newLabel_15 ?_
  refine tn_any (fun z4 g5 => ?_)
  have g5r : -2147483648 ≤ z4 ∧ z4 ≤ 2147483647 := g5
  exact tn_iret rfl dX5_newLabel_16 ⟨_, rfl, rfl, (hw.put (by decide) (by decide) (fo_46 (by omega))), (FrC.rfl.put (by decide) (by decide)), by omega⟩
