theorem cd_X7_forget : Cond.code yX7_forget cX7_forget 1 none ∈ pWW := pw4 (List.mem_of_getElem? (i := 50) rfl) rfl
theorem ini_7 : Cond.initialized RX7 ∈ pWW := pw1 (List.mem_of_getElem? (i := 11) rfl) rfl
abbrev m_X7_forget : MT := (yX7_forget, cX7_forget, 1, none)
theorem ok_X7_forget : pOk m_X7_forget := ⟨⟨cd_X7_forget, ini_7⟩, by decide +kernel, ⟨by decide +kernel, by decide +kernel⟩, Nat.le_of_ble_eq_true rfl⟩
theorem np_X7_forget : (parseMethodDescriptor yX7_forget.desc).map (fun d => d.parameters.length) = some 0 := by decide +kernel
theorem im_X7_forget : Cond.instanceMethod yX7_forget ∈ pWW := pw4 (List.mem_of_getElem? (i := 48) rfl) rfl
theorem se_X7_forget : Cond.selects RX7 yX7_forget yX7_forget ∈ pWW := pw4 (List.mem_of_getElem? (i := 49) rfl) rfl
theorem fl7_34 : Cond.fieldLink RX7 34 (TX7 1).1 (TX7 1).2.1 (TX7 1).2.2.1 ∈ pWW := pw2 (List.mem_of_getElem? (i := 134) rfl) rfl
theorem dX7_forget_0 : decode cX7_forget 0 = .ok (.aload_n 0, 1) := by decide +kernel
theorem dX7_forget_1 : decode cX7_forget 1 = .ok (.iconst 0, 1) := by decide +kernel
theorem dX7_forget_2 : decode cX7_forget 2 = .ok (.putfield 34, 3) := by decide +kernel
theorem dX7_forget_5 : decode cX7_forget 5 = .ok (.return_, 1) := by decide +kernel
set_option maxRecDepth 20000 in
theorem k_X7_forget (d : Nat) {T : CT} {σ : MS} {a : Nat} (ha : OB T a 7) (hw : WT T σ) : Tn (d + 1) m_X7_forget 0 T σ [(0, .ref a)] [] (fun ro T2 σ2 => ro = none ∧ T = T2 ∧ WT T2 σ2 ∧ FrC T [56] σ σ2) := by
  refine tn_aload_n dX7_forget_0 rfl 0 rfl ?_
  refine tn_iconst dX7_forget_1 ?_
  refine tn_putV (ci := 7) (i := 1) (n := 56) (r := false) (v := 0) tyX7 tyX7_ok nmX7 dX7_forget_2 rfl lay_7 (by decide) fl7_34 rfl (tyX7_ok 1 (by decide)) rfl rfl rfl ha rfl rfl ?_
  exact tn_vret rfl dX7_forget_5 ⟨rfl, rfl, (hw.put (by decide) (by decide) (fo_56 (by omega))), (FrC.rfl.put (by decide) (by decide))⟩
