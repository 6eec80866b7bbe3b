theorem cd_X5_refuse : Cond.code yX5_refuse cX5_refuse 1 (some .boolean) ∈ pWW := pw3 (List.mem_of_getElem? (i := 68) rfl) rfl
abbrev m_X5_refuse : MT := (yX5_refuse, cX5_refuse, 1, (some .boolean))
theorem ok_X5_refuse : pOk m_X5_refuse := ⟨⟨cd_X5_refuse, ini_5⟩, by decide +kernel, ⟨by decide +kernel, by decide +kernel⟩, Nat.le_of_ble_eq_true rfl⟩
theorem np_X5_refuse : (parseMethodDescriptor yX5_refuse.desc).map (fun d => d.parameters.length) = some 0 := by decide +kernel
theorem im_X5_refuse : Cond.instanceMethod yX5_refuse ∈ pWW := pw3 (List.mem_of_getElem? (i := 67) rfl) rfl
theorem se_X5_refuse : Cond.selects RX5 yX5_refuse yX5_refuse ∈ pWW := pws (List.mem_map.mpr ⟨_, lw_pin 5 rfl, rfl⟩) rfl
theorem fl5_51 : Cond.fieldLink RX5 51 (TX5 10).1 (TX5 10).2.1 (TX5 10).2.2.1 ∈ pWW := pw1 (List.mem_of_getElem? (i := 164) rfl) rfl
theorem fl5_12 : Cond.fieldLink RX5 12 (TX5 0).1 (TX5 0).2.1 (TX5 0).2.2.1 ∈ pWW := pw1 (List.mem_of_getElem? (i := 153) rfl) rfl
theorem fl5_74 : Cond.fieldLink RX5 74 (TX9 6).1 (TX9 6).2.1 (TX9 6).2.2.1 ∈ pWW := pw1 (List.mem_of_getElem? (i := 53) rfl) rfl
theorem fl5_55 : Cond.fieldLink RX5 55 (TX5 11).1 (TX5 11).2.1 (TX5 11).2.2.1 ∈ pWW := pw1 (List.mem_of_getElem? (i := 166) rfl) rfl
theorem dX5_refuse_0 : decode cX5_refuse 0 = .ok (.aload_n 0, 1) := by decide +kernel
theorem dX5_refuse_1 : decode cX5_refuse 1 = .ok (.iconst 1, 1) := by decide +kernel
theorem dX5_refuse_2 : decode cX5_refuse 2 = .ok (.putfield 51, 3) := by decide +kernel
theorem dX5_refuse_5 : decode cX5_refuse 5 = .ok (.aload_n 0, 1) := by decide +kernel
theorem dX5_refuse_6 : decode cX5_refuse 6 = .ok (.aload_n 0, 1) := by decide +kernel
theorem dX5_refuse_7 : decode cX5_refuse 7 = .ok (.getfield 12, 3) := by decide +kernel
theorem dX5_refuse_10 : decode cX5_refuse 10 = .ok (.getfield 74, 3) := by decide +kernel
theorem dX5_refuse_13 : decode cX5_refuse 13 = .ok (.putfield 55, 3) := by decide +kernel
theorem dX5_refuse_16 : decode cX5_refuse 16 = .ok (.iconst 0, 1) := by decide +kernel
theorem dX5_refuse_17 : decode cX5_refuse 17 = .ok (.ireturn, 1) := by decide +kernel
set_option maxRecDepth 20000 in
theorem k_X5_refuse (d : Nat) {T : CT} {σ : MS} {a : Nat} (ha : OB T a 5) (hw : WT T σ) : Tn (d + 1) m_X5_refuse 0 T σ [(0, .ref a)] [] (fun ro T2 σ2 => ∃ v : Int, ro = some (.int (iI v)) ∧ T = T2 ∧ WT T2 σ2 ∧ FrC T [43, 44] σ σ2 ∧ (v = 0 ∨ v = 1) ∧ (v = 0)) := by
  refine tn_aload_n dX5_refuse_0 rfl 0 rfl ?_
  refine tn_iconst dX5_refuse_1 ?_
  refine tn_putV (ci := 5) (i := 10) (n := 43) (r := false) (v := 1) tyX5 tyX5_ok nmX5 dX5_refuse_2 rfl lay_5 (by decide) fl5_51 rfl (tyX5_ok 10 (by decide)) rfl rfl rfl ha rfl rfl ?_
  refine tn_aload_n dX5_refuse_5 rfl 0 rfl ?_
  refine tn_aload_n dX5_refuse_6 rfl 0 rfl ?_
  obtain ⟨x1, hx2, hk3⟩ : ∃ x : Nat, σ.2.1 33 a = (x : Int) ∧ (T x).1 = 39 := wf_33 hw ha
  have hk3o : OB T x1 9 := ⟨by omega, by rw [hk3]; rfl, by omega⟩
  refine tn_getR (ci := 5) (i := 0) (n := 33) (x := x1) dX5_refuse_7 rfl lay_5 (by decide) fl5_12 ha rfl rfl (rc_o (by decide) (hx2)) ?_
  refine tn_getI (ci := 9) (i := 6) (n := 87) (t := σ.2.1 87 x1) dX5_refuse_10 rfl lay_9 (by decide) fl5_74 hk3o rfl rfl (rc_o (by decide) (rfl)) ?_
  have g5 : ((-2147483648 : Int) ≤ σ.2.1 87 x1 ∧ σ.2.1 87 x1 ≤ 2147483647) := wf_87 hw hk3o
  refine tn_putV (ci := 5) (i := 11) (n := 44) (r := false) (v := σ.2.1 87 x1) tyX5 tyX5_ok nmX5 dX5_refuse_13 rfl lay_5 (by decide) fl5_55 rfl (tyX5_ok 11 (by decide)) rfl rfl rfl ha rfl rfl ?_
  refine tn_iconst dX5_refuse_16 ?_
  exact tn_zret (v := 0) rfl (by decide) dX5_refuse_17 ⟨_, rfl, rfl, ((hw.put (by decide) (by decide) (fo_43 (by omega))).put (by decide) (by decide) (fo_44 (by omega))), ((FrC.rfl.put (by decide) (by decide)).put (by decide) (by decide)), by omega, by omega⟩
