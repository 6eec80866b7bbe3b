set_option maxHeartbeats 4000000 in
set_option maxRecDepth 20000 in
theorem k_X5_refuse_f (d : Nat) {T : CT} {σ : MS} {a : Nat} {Sx : Int → Int} {nx jx : Nat} (ha : OB T a 5) (hw : WT T σ) (hTK : TKR σ a Sx nx jx) : Tn (d + 1) m_X5_refuse 0 T σ [(0, .ref a)] [] (fun ro T2 σ2 => ∃ v : Int, ro = some (.int (iI v)) ∧ T = T2 ∧ WT T2 σ2 ∧ FrC T [43, 44] σ σ2 ∧ (v = 0 ∨ v = 1) ∧ (v = 0) ∧ (FLC σ2 a (tkS Sx jx).1) ∧ (TKR σ2 a Sx nx jx)) := by
  refine tn_aload_n dX5_refuse_0 rfl 0 rfl ?_
  refine tn_iconst dX5_refuse_1 ?_
  refine tn_putV (ci := 5) (i := 10) (n := 43) (r := false) (v := 1) tyX5 tyX5_ok nmX5 dX5_refuse_2 rfl lay_5 (by decide) fl5_51 rfl (tyX5_ok 10 (by decide)) rfl rfl rfl ha rfl rfl ?_
  refine tn_aload_n dX5_refuse_5 rfl 0 rfl ?_
  refine tn_aload_n dX5_refuse_6 rfl 0 rfl ?_
  obtain ⟨x1, hx2, hk3⟩ : ∃ x : Nat, σ.2.1 33 a = (x : Int) ∧ (T x).1 = 39 := wf_33 hw ha
  have hk3o : OB T x1 9 := ⟨by omega, by rw [hk3]; rfl, by omega⟩
  refine tn_getR (ci := 5) (i := 0) (n := 33) (x := x1) dX5_refuse_7 rfl lay_5 (by decide) fl5_12 ha rfl rfl (rc_o (by decide) (hx2)) ?_
  refine tn_getI (ci := 9) (i := 6) (n := 87) (t := σ.2.1 87 x1) dX5_refuse_10 rfl lay_9 (by decide) fl5_74 hk3o rfl rfl (rc_o (by decide) (rfl)) ?_
  have g5 : ((-2147483648 : Int) ≤ σ.2.1 87 x1 ∧ σ.2.1 87 x1 ≤ 2147483647) := wf_87 hw hk3o
  refine tn_putV (ci := 5) (i := 11) (n := 44) (r := false) (v := σ.2.1 87 x1) tyX5 tyX5_ok nmX5 dX5_refuse_13 rfl lay_5 (by decide) fl5_55 rfl (tyX5_ok 11 (by decide)) rfl rfl rfl ha rfl rfl ?_
  refine tn_iconst dX5_refuse_16 ?_
  have q6 : (sA 44 a (σ.2.1 87 x1) (sA 43 a (1) σ)).2.1 43 a = 1 := rc_o (by decide) (ra_eq)
  have q7 : (sA 44 a (σ.2.1 87 x1) (sA 43 a (1) σ)).2.1 44 a = σ.2.1 87 x1 := ra_eq
  have w8 : σ.2.1 87 x1 = (tkS Sx jx).1 := (hTK.2 x1 hx2).2.1.2.2
  exact tn_zret (v := 0) rfl (by decide) dX5_refuse_17 ⟨_, rfl, rfl, ((hw.put (by decide) (by decide) (fo_43 (by omega))).put (by decide) (by decide) (fo_44 (by omega))), ((FrC.rfl.put (by decide) (by decide)).put (by decide) (by decide)), by omega, rfl, ⟨q6, q7.trans w8⟩, (hTK.pt (by decide) (by decide)).pt (by decide) (by decide)⟩
