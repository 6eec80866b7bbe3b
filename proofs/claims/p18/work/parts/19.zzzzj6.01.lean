section
set_option maxHeartbeats 1000000 in
set_option maxRecDepth 20000 in
theorem k_X0_samePrints_x (d : Nat) {T : CT} {σ : MS} {a : Nat} {to : Nat} {pl : Nat} (ha : OB T a 0) (hw : WT T σ) (hto : σ.2.1 0 a = (to : Int)) (hpl : σ.2.1 1 a = (pl : Int)) : Tn (d + 1) m_X0_samePrints 0 T σ [(0, .ref a)] [] (fun ro T2 σ2 => ∃ v : Int, ro = some (.int (iI v)) ∧ T = T2 ∧ σ = σ2 ∧ (v = 0 ∨ v = 1) ∧ (JSP σ to pl v)) := by
  refine tn_aload_n dX0_samePrints_0 rfl 0 rfl ?_
  have hk3 : (T to).1 = 37 := ob_of (wf_0 hw ha) hto
  have hk3o : OB T to 7 := ⟨by omega, by rw [hk3]; rfl, by omega⟩
  refine tn_getR (ci := 0) (i := 0) (n := 0) (x := to) dX0_samePrints_1 rfl lay_0 (by decide) fl0_14 ha rfl rfl (hto) ?_
  refine tn_getI (ci := 7) (i := 10) (n := 65) (t := σ.2.1 65 to) dX0_samePrints_4 rfl lay_7 (by decide) fl0_54 hk3o rfl rfl (rfl) ?_
  have g5 : ((-2147483648 : Int) ≤ σ.2.1 65 to ∧ σ.2.1 65 to ≤ 2147483647) := wf_65 hw hk3o
  refine tn_aload_n dX0_samePrints_7 rfl 0 rfl ?_
  have hk8 : (T pl).1 = 57 := ob_of (wf_1 hw ha) hpl
  have hk8o : OB T pl 7 := ⟨by omega, by rw [hk8]; rfl, by omega⟩
  refine tn_getR (ci := 0) (i := 1) (n := 1) (x := pl) dX0_samePrints_8 rfl lay_0 (by decide) fl0_20 ha rfl rfl (hpl) ?_
  refine tn_getI (ci := 7) (i := 10) (n := 65) (t := σ.2.1 65 pl) dX0_samePrints_11 rfl lay_7 (by decide) fl0_54 hk8o rfl rfl (rfl) ?_
  have g10 : ((-2147483648 : Int) ≤ σ.2.1 65 pl ∧ σ.2.1 65 pl ≤ 2147483647) := wf_65 hw hk8o
  refine tn_icmp_ne (tgt := 38) dX0_samePrints_14 (by decide) ⟨by omega, by omega⟩ ⟨by omega, by omega⟩ (fun h11 => ?_) (fun h11 => ?_)
  · refine tn_iconst dX0_samePrints_38 ?_
    exact tn_zret (v := 0) rfl (by decide) dX0_samePrints_39 ⟨_, rfl, rfl, rfl, by omega, Or.inr ⟨rfl, by omega⟩⟩
  · refine tn_aload_n dX0_samePrints_17 rfl 0 rfl ?_
    refine tn_getR (ci := 0) (i := 0) (n := 0) (x := to) dX0_samePrints_18 rfl lay_0 (by decide) fl0_14 ha rfl rfl (hto) ?_
    refine tn_getI (ci := 7) (i := 11) (n := 66) (t := σ.2.1 66 to) dX0_samePrints_21 rfl lay_7 (by decide) fl0_57 hk3o rfl rfl (rfl) ?_
    have g12 : ((-2147483648 : Int) ≤ σ.2.1 66 to ∧ σ.2.1 66 to ≤ 2147483647) := wf_66 hw hk3o
    refine tn_aload_n dX0_samePrints_24 rfl 0 rfl ?_
    refine tn_getR (ci := 0) (i := 1) (n := 1) (x := pl) dX0_samePrints_25 rfl lay_0 (by decide) fl0_20 ha rfl rfl (hpl) ?_
    refine tn_getI (ci := 7) (i := 11) (n := 66) (t := σ.2.1 66 pl) dX0_samePrints_28 rfl lay_7 (by decide) fl0_57 hk8o rfl rfl (rfl) ?_
    have g13 : ((-2147483648 : Int) ≤ σ.2.1 66 pl ∧ σ.2.1 66 pl ≤ 2147483647) := wf_66 hw hk8o
    refine tn_icmp_ne (tgt := 38) dX0_samePrints_31 (by decide) ⟨by omega, by omega⟩ ⟨by omega, by omega⟩ (fun h14 => ?_) (fun h14 => ?_)
    · refine tn_iconst dX0_samePrints_38 ?_
      exact tn_zret (v := 0) rfl (by decide) dX0_samePrints_39 ⟨_, rfl, rfl, rfl, by omega, Or.inr ⟨rfl, by omega⟩⟩
    · refine tn_iconst dX0_samePrints_34 ?_
      refine tn_goto (tgt := 39) dX0_samePrints_35 (by decide) ?_
      exact tn_zret (v := 1) rfl (by decide) dX0_samePrints_39 ⟨_, rfl, rfl, rfl, by omega, Or.inl ⟨rfl, by omega, by omega⟩⟩
end
