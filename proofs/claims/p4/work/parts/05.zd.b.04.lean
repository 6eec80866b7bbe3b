set_option maxHeartbeats 4000000 in
set_option maxRecDepth 20000 in
theorem k_X5_note_f (d : Nat) {T : CT} {σ : MS} {a : Nat} {f : Int} {p : Int} (ha : OB T a 5) (h_f : -2147483648 ≤ f ∧ f ≤ 2147483647) (h_p : -2147483648 ≤ p ∧ p ≤ 2147483647) (hw : WT T σ) : Tn (d + 1) m_X5_note 0 T σ [(0, .ref a), (1, .int (iI f)), (2, .int (iI p))] [] (fun ro T2 σ2 => ro = none ∧ T = T2 ∧ WT T2 σ2 ∧ FrC T [43, 44] σ σ2 ∧ (NTQ σ σ2 a f p)) := by
  refine tn_aload_n dX5_note_0 rfl 0 rfl ?_
  refine tn_getI (ci := 5) (i := 10) (n := 43) (t := σ.2.1 43 a) dX5_note_1 rfl lay_5 (by decide) fl5_51 ha rfl rfl (rfl) ?_
  have g1 : ((-2147483648 : Int) ≤ σ.2.1 43 a ∧ σ.2.1 43 a ≤ 2147483647) := wf_43 hw ha
  refine tn_if_eq (tgt := 31) dX5_note_4 (by decide) ⟨by omega, by omega⟩ (fun h2 => ?_) (fun h2 => ?_)
  · refine tn_aload_n dX5_note_31 rfl 0 rfl ?_
    refine tn_iload_n dX5_note_32 rfl 1 rfl ?_
    refine tn_putV (ci := 5) (i := 10) (n := 43) (r := false) (v := f) tyX5 tyX5_ok nmX5 dX5_note_33 rfl lay_5 (by decide) fl5_51 rfl (tyX5_ok 10 (by decide)) rfl rfl rfl ha rfl rfl ?_
    refine tn_aload_n dX5_note_36 rfl 0 rfl ?_
    refine tn_iload_n dX5_note_37 rfl 2 rfl ?_
    refine tn_putV (ci := 5) (i := 11) (n := 44) (r := false) (v := p) tyX5 tyX5_ok nmX5 dX5_note_38 rfl lay_5 (by decide) fl5_55 rfl (tyX5_ok 11 (by decide)) rfl rfl rfl ha rfl rfl ?_
    have q3 : (sA 44 a (p) (sA 43 a (f) σ)).2.1 43 a = f := rc_o (by decide) (ra_eq)
    have q4 : (sA 44 a (p) (sA 43 a (f) σ)).2.1 44 a = p := ra_eq
    exact tn_vret rfl dX5_note_41 ⟨rfl, rfl, ((hw.put (by decide) (by decide) (fo_43 (by omega))).put (by decide) (by decide) (fo_44 (by omega))), ((FrC.rfl.put (by decide) (by decide)).put (by decide) (by decide)), by unfold NTQ cntN; rw [q3, q4, if_pos (by simp only; omega)]⟩
  · refine tn_iload_n dX5_note_7 rfl 2 rfl ?_
    refine tn_aload_n dX5_note_8 rfl 0 rfl ?_
    refine tn_getI (ci := 5) (i := 11) (n := 44) (t := σ.2.1 44 a) dX5_note_9 rfl lay_5 (by decide) fl5_55 ha rfl rfl (rfl) ?_
    have g5 : ((-2147483648 : Int) ≤ σ.2.1 44 a ∧ σ.2.1 44 a ≤ 2147483647) := wf_44 hw ha
    refine tn_icmp_lt (tgt := 31) dX5_note_12 (by decide) ⟨by omega, by omega⟩ ⟨by omega, by omega⟩ (fun h6 => ?_) (fun h6 => ?_)
    · refine tn_aload_n dX5_note_31 rfl 0 rfl ?_
      refine tn_iload_n dX5_note_32 rfl 1 rfl ?_
      refine tn_putV (ci := 5) (i := 10) (n := 43) (r := false) (v := f) tyX5 tyX5_ok nmX5 dX5_note_33 rfl lay_5 (by decide) fl5_51 rfl (tyX5_ok 10 (by decide)) rfl rfl rfl ha rfl rfl ?_
      refine tn_aload_n dX5_note_36 rfl 0 rfl ?_
      refine tn_iload_n dX5_note_37 rfl 2 rfl ?_
      refine tn_putV (ci := 5) (i := 11) (n := 44) (r := false) (v := p) tyX5 tyX5_ok nmX5 dX5_note_38 rfl lay_5 (by decide) fl5_55 rfl (tyX5_ok 11 (by decide)) rfl rfl rfl ha rfl rfl ?_
      have q7 : (sA 44 a (p) (sA 43 a (f) σ)).2.1 43 a = f := rc_o (by decide) (ra_eq)
      have q8 : (sA 44 a (p) (sA 43 a (f) σ)).2.1 44 a = p := ra_eq
      exact tn_vret rfl dX5_note_41 ⟨rfl, rfl, ((hw.put (by decide) (by decide) (fo_43 (by omega))).put (by decide) (by decide) (fo_44 (by omega))), ((FrC.rfl.put (by decide) (by decide)).put (by decide) (by decide)), by unfold NTQ cntN; rw [q7, q8, if_pos (by simp only; omega)]⟩
    · refine tn_iload_n dX5_note_15 rfl 2 rfl ?_
      refine tn_aload_n dX5_note_16 rfl 0 rfl ?_
      refine tn_getI (ci := 5) (i := 11) (n := 44) (t := σ.2.1 44 a) dX5_note_17 rfl lay_5 (by decide) fl5_55 ha rfl rfl (rfl) ?_
      refine tn_icmp_ne (tgt := 41) dX5_note_20 (by decide) ⟨by omega, by omega⟩ ⟨by omega, by omega⟩ (fun h9 => ?_) (fun h9 => ?_)
      · have q10 : σ.2.1 43 a = σ.2.1 43 a := rfl
        have q11 : σ.2.1 44 a = σ.2.1 44 a := rfl
        exact tn_vret rfl dX5_note_41 ⟨rfl, rfl, hw, FrC.rfl, by unfold NTQ cntN; rw [if_neg (by simp only; omega)]⟩
      · refine tn_iload_n dX5_note_23 rfl 1 rfl ?_
        refine tn_aload_n dX5_note_24 rfl 0 rfl ?_
        refine tn_getI (ci := 5) (i := 10) (n := 43) (t := σ.2.1 43 a) dX5_note_25 rfl lay_5 (by decide) fl5_51 ha rfl rfl (rfl) ?_
        refine tn_icmp_ge (tgt := 41) dX5_note_28 (by decide) ⟨by omega, by omega⟩ ⟨by omega, by omega⟩ (fun h12 => ?_) (fun h12 => ?_)
        · have q13 : σ.2.1 43 a = σ.2.1 43 a := rfl
          have q14 : σ.2.1 44 a = σ.2.1 44 a := rfl
          exact tn_vret rfl dX5_note_41 ⟨rfl, rfl, hw, FrC.rfl, by unfold NTQ cntN; rw [if_neg (by simp only; omega)]⟩
        · refine tn_aload_n dX5_note_31 rfl 0 rfl ?_
          refine tn_iload_n dX5_note_32 rfl 1 rfl ?_
          refine tn_putV (ci := 5) (i := 10) (n := 43) (r := false) (v := f) tyX5 tyX5_ok nmX5 dX5_note_33 rfl lay_5 (by decide) fl5_51 rfl (tyX5_ok 10 (by decide)) rfl rfl rfl ha rfl rfl ?_
          refine tn_aload_n dX5_note_36 rfl 0 rfl ?_
          refine tn_iload_n dX5_note_37 rfl 2 rfl ?_
          refine tn_putV (ci := 5) (i := 11) (n := 44) (r := false) (v := p) tyX5 tyX5_ok nmX5 dX5_note_38 rfl lay_5 (by decide) fl5_55 rfl (tyX5_ok 11 (by decide)) rfl rfl rfl ha rfl rfl ?_
          have q15 : (sA 44 a (p) (sA 43 a (f) σ)).2.1 43 a = f := rc_o (by decide) (ra_eq)
          have q16 : (sA 44 a (p) (sA 43 a (f) σ)).2.1 44 a = p := ra_eq
          exact tn_vret rfl dX5_note_41 ⟨rfl, rfl, ((hw.put (by decide) (by decide) (fo_43 (by omega))).put (by decide) (by decide) (fo_44 (by omega))), ((FrC.rfl.put (by decide) (by decide)).put (by decide) (by decide)), by unfold NTQ cntN; rw [q15, q16, if_pos (by simp only; omega)]⟩
