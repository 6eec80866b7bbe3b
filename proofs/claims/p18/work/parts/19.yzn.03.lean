section
set_option maxHeartbeats 1000000 in
set_option maxRecDepth 20000 in
theorem k_X7_forget_x (d : Nat) {T : CT} {σ : MS} {a : Nat} (ha : OB T a 7) (hw : WT T σ) : Tn (d + 1) m_X7_forget 0 T σ [(0, .ref a)] [] (fun ro T2 σ2 => ro = none ∧ T = T2 ∧ WT T2 σ2 ∧ FrC T [56] σ σ2 ∧ (CHX [(56, a)] [] [] σ σ2) ∧ (σ2.2.1 56 a = 0)) := by
  refine tn_aload_n dX7_forget_0 rfl 0 rfl ?_
  refine tn_iconst dX7_forget_1 ?_
  refine tn_putV (ci := 7) (i := 1) (n := 56) (r := false) (v := 0) tyX7 tyX7_ok nmX7 dX7_forget_2 rfl lay_7 (by decide) fl7_34 rfl (tyX7_ok 1 (by decide)) rfl rfl rfl ha rfl rfl ?_
  exact tn_vret rfl dX7_forget_5 ⟨rfl, rfl, (hw.put (by decide) (by decide) (fo_56 (by omega))), (FrC.rfl.put (by decide) (by decide)), (CHX.rfl.fld (by simp) (by decide)), ra_eq⟩
end
