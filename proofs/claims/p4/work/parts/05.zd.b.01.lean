set_option maxHeartbeats 4000000 in
set_option maxRecDepth 20000 in
theorem k_X9_next_f (d : Nat) {T : CT} {σ : MS} {a : Nat} {Sx : Int → Int} {nx jx : Nat} (ha : OB T a 9) (hw : WT T σ) (hT : TKI σ a) (hq : TKT σ a Sx nx jx) (hne : σ.2.1 85 a ≠ 263 ∧ σ.2.1 85 a ≠ 264) : Tn (d + 1) m_X9_next 0 T σ [(0, .ref a)] [] (fun ro T2 σ2 => ro = none ∧ T = T2 ∧ WT T2 σ2 ∧ FrC T [84, 85, 86, 87] σ σ2 ∧ (TKI σ2 a) ∧ (σ.2.1 84 a ≤ σ2.2.1 84 a) ∧ (ADV σ σ2 a) ∧ (TKT σ2 a Sx nx (jx + 1))) := by
  have hj9 : jx ≠ nx := fun e => by
    have w9 := hq.2.2.2.2
    rw [← e] at w9
    have z9 := hq.2.1.1
    omega
  have hj8 := hq.1
  refine tn_aload_n dX9_next_0 rfl 0 rfl ?_
  refine tn_getI (ci := 9) (i := 3) (n := 84) (t := σ.2.1 84 a) dX9_next_1 rfl lay_9 (by decide) fl9_45 ha rfl rfl (rfl) ?_
  have g1 : ((-1 : Int) ≤ σ.2.1 84 a ∧ σ.2.1 84 a ≤ 1200) := wf_84 hw ha
  refine tn_iconst dX9_next_4 ?_
  refine tn_iadd dX9_next_5 ?_
  refine tn_aload_n dX9_next_6 rfl 0 rfl ?_
  obtain ⟨x2, hx3, hk4, hl5⟩ : ∃ x : Nat, σ.2.1 81 a = (x : Int) ∧ AR T x 12 1201 1201 := wf_81 hw ha
  have hk4i : IA T x2 := by unfold IA; omega
  refine tn_getR (ci := 9) (i := 0) (n := 81) (x := x2) dX9_next_7 rfl lay_9 (by decide) fl9_9 ha rfl rfl (hx3) ?_
  refine tn_alenX dX9_next_10 (Or.inl hk4i) ?_
  refine tn_icmp_ge (tgt := 118) dX9_next_11 (by decide) ⟨by omega, by omega⟩ ⟨by omega, by omega⟩ (fun h6 => ?_) (fun h6 => ?_)
  · have q7 : σ.2.1 84 a = σ.2.1 84 a := rfl
    have q8 : σ.2.1 85 a = σ.2.1 85 a := rfl
    exact tn_vret rfl dX9_next_118 ⟨rfl, rfl, hw, FrC.rfl, False.elim (by have z9 := hq.2.1.1; omega), False.elim (by have z9 := hq.2.1.1; omega), False.elim (by have z9 := hq.2.1.1; omega), False.elim (by have z9 := hq.2.1.1; omega)⟩
  · refine tn_aload_n dX9_next_14 rfl 0 rfl ?_
    refine tn_getI (ci := 9) (i := 3) (n := 84) (t := σ.2.1 84 a) dX9_next_15 rfl lay_9 (by decide) fl9_45 ha rfl rfl (rfl) ?_
    refine tn_iconst dX9_next_18 ?_
    refine tn_iadd dX9_next_19 ?_
    refine tn_aload_n dX9_next_20 rfl 0 rfl ?_
    obtain ⟨x9, hx10, hk11, hl12⟩ : ∃ x : Nat, σ.2.1 82 a = (x : Int) ∧ AR T x 22 1201 1201 := wf_82 hw ha
    have hk11i : IA T x9 := by unfold IA; omega
    refine tn_getR (ci := 9) (i := 1) (n := 82) (x := x9) dX9_next_21 rfl lay_9 (by decide) fl9_15 ha rfl rfl (hx10) ?_
    refine tn_alenX dX9_next_24 (Or.inl hk11i) ?_
    refine tn_icmp_ge (tgt := 118) dX9_next_25 (by decide) ⟨by omega, by omega⟩ ⟨by omega, by omega⟩ (fun h13 => ?_) (fun h13 => ?_)
    · have q14 : σ.2.1 84 a = σ.2.1 84 a := rfl
      have q15 : σ.2.1 85 a = σ.2.1 85 a := rfl
      exact tn_vret rfl dX9_next_118 ⟨rfl, rfl, hw, FrC.rfl, False.elim (by have z9 := hq.2.1.1; omega), False.elim (by have z9 := hq.2.1.1; omega), False.elim (by have z9 := hq.2.1.1; omega), False.elim (by have z9 := hq.2.1.1; omega)⟩
    · refine tn_aload_n dX9_next_28 rfl 0 rfl ?_
      refine tn_getI (ci := 9) (i := 3) (n := 84) (t := σ.2.1 84 a) dX9_next_29 rfl lay_9 (by decide) fl9_45 ha rfl rfl (rfl) ?_
      refine tn_iconst dX9_next_32 ?_
      refine tn_iadd dX9_next_33 ?_
      refine tn_aload_n dX9_next_34 rfl 0 rfl ?_
      obtain ⟨x16, hx17, hk18, hl19⟩ : ∃ x : Nat, σ.2.1 83 a = (x : Int) ∧ AR T x 23 1201 1201 := wf_83 hw ha
      have hk18i : IA T x16 := by unfold IA; omega
      refine tn_getR (ci := 9) (i := 2) (n := 83) (x := x16) dX9_next_35 rfl lay_9 (by decide) fl9_18 ha rfl rfl (hx17) ?_
      refine tn_alenX dX9_next_38 (Or.inl hk18i) ?_
      refine tn_icmp_ge (tgt := 118) dX9_next_39 (by decide) ⟨by omega, by omega⟩ ⟨by omega, by omega⟩ (fun h20 => ?_) (fun h20 => ?_)
      · have q21 : σ.2.1 84 a = σ.2.1 84 a := rfl
        have q22 : σ.2.1 85 a = σ.2.1 85 a := rfl
        exact tn_vret rfl dX9_next_118 ⟨rfl, rfl, hw, FrC.rfl, False.elim (by have z9 := hq.2.1.1; omega), False.elim (by have z9 := hq.2.1.1; omega), False.elim (by have z9 := hq.2.1.1; omega), False.elim (by have z9 := hq.2.1.1; omega)⟩
      · refine tn_aload_n dX9_next_42 rfl 0 rfl ?_
        refine tn_getI (ci := 9) (i := 3) (n := 84) (t := σ.2.1 84 a) dX9_next_43 rfl lay_9 (by decide) fl9_45 ha rfl rfl (rfl) ?_
        refine tn_if_lt (tgt := 69) dX9_next_46 (by decide) ⟨by omega, by omega⟩ (fun h23 => ?_) (fun h23 => ?_)
        · refine tn_aload_n dX9_next_69 rfl 0 rfl ?_
          refine tn_dup dX9_next_70 rfl ?_
          refine tn_getI (ci := 9) (i := 3) (n := 84) (t := σ.2.1 84 a) dX9_next_71 rfl lay_9 (by decide) fl9_45 ha rfl rfl (rfl) ?_
          refine tn_iconst dX9_next_74 ?_
          refine tn_iadd dX9_next_75 ?_
          refine tn_putV (ci := 9) (i := 3) (n := 84) (r := false) (v := (σ.2.1 84 a) + 1) tyX9 tyX9_ok nmX9 dX9_next_76 rfl lay_9 (by decide) fl9_45 rfl (tyX9_ok 3 (by decide)) rfl rfl rfl ha rfl rfl ?_
          refine tn_aload_n dX9_next_79 rfl 0 rfl ?_
          refine tn_aload_n dX9_next_80 rfl 0 rfl ?_
          refine tn_getR (ci := 9) (i := 0) (n := 81) (x := x2) dX9_next_81 rfl lay_9 (by decide) fl9_9 ha rfl rfl (rc_o (by decide) (hx3)) ?_
          refine tn_aload_n dX9_next_84 rfl 0 rfl ?_
          refine tn_getI (ci := 9) (i := 3) (n := 84) (t := (σ.2.1 84 a) + 1) dX9_next_85 rfl lay_9 (by decide) fl9_45 ha rfl rfl (ra_eq) ?_
          refine tn_ialdX (z := (σ.2.1 84 a) + 1) (hw.put (by decide) (by decide) (fo_84 (by omega))) dX9_next_88 hk4i (by omega) (by omega) (by omega) (fun v24 g25q g25 g25k => ?_)
          have g25u := g25k.2.2.1 hk4
          have g25Q : v24 = σ.2.1 (1000 + x2) ((σ.2.1 84 a) + 1) := by rw [g25q, sA_k (by omega)]
          clear g25k g25q
          refine tn_putV (ci := 9) (i := 4) (n := 85) (r := false) (v := v24) tyX9 tyX9_ok nmX9 dX9_next_89 rfl lay_9 (by decide) fl9_30 rfl (tyX9_ok 4 (by decide)) rfl rfl rfl ha rfl rfl ?_
          refine tn_aload_n dX9_next_92 rfl 0 rfl ?_
          refine tn_aload_n dX9_next_93 rfl 0 rfl ?_
          refine tn_getR (ci := 9) (i := 1) (n := 82) (x := x9) dX9_next_94 rfl lay_9 (by decide) fl9_15 ha rfl rfl (rc_o (by decide) (rc_o (by decide) (hx10))) ?_
          refine tn_aload_n dX9_next_97 rfl 0 rfl ?_
          refine tn_getI (ci := 9) (i := 3) (n := 84) (t := (σ.2.1 84 a) + 1) dX9_next_98 rfl lay_9 (by decide) fl9_45 ha rfl rfl (rc_o (by decide) (ra_eq)) ?_
          refine tn_ialdX (z := (σ.2.1 84 a) + 1) ((hw.put (by decide) (by decide) (fo_84 (by omega))).put (by decide) (by decide) (fo_85 (by omega))) dX9_next_101 hk11i (by omega) (by omega) (by omega) (fun v26 g27q g27 g27k => ?_)
          have g27Q : v26 = σ.2.1 (1000 + x9) ((σ.2.1 84 a) + 1) := by rw [g27q, sA_k (by omega), sA_k (by omega)]
          clear g27k g27q
          refine tn_putV (ci := 9) (i := 5) (n := 86) (r := false) (v := v26) tyX9 tyX9_ok nmX9 dX9_next_102 rfl lay_9 (by decide) fl9_55 rfl (tyX9_ok 5 (by decide)) rfl rfl rfl ha rfl rfl ?_
          refine tn_aload_n dX9_next_105 rfl 0 rfl ?_
          refine tn_aload_n dX9_next_106 rfl 0 rfl ?_
          refine tn_getR (ci := 9) (i := 2) (n := 83) (x := x16) dX9_next_107 rfl lay_9 (by decide) fl9_18 ha rfl rfl (rc_o (by decide) (rc_o (by decide) (rc_o (by decide) (hx17)))) ?_
          refine tn_aload_n dX9_next_110 rfl 0 rfl ?_
          refine tn_getI (ci := 9) (i := 3) (n := 84) (t := (σ.2.1 84 a) + 1) dX9_next_111 rfl lay_9 (by decide) fl9_45 ha rfl rfl (rc_o (by decide) (rc_o (by decide) (ra_eq))) ?_
          refine tn_ialdX (z := (σ.2.1 84 a) + 1) (((hw.put (by decide) (by decide) (fo_84 (by omega))).put (by decide) (by decide) (fo_85 (by omega))).put (by decide) (by decide) (fo_86 (by omega))) dX9_next_114 hk18i (by omega) (by omega) (by omega) (fun v28 g29q g29 g29k => ?_)
          have g29Q : v28 = σ.2.1 (1000 + x16) ((σ.2.1 84 a) + 1) := by rw [g29q, sA_k (by omega), sA_k (by omega), sA_k (by omega)]
          clear g29k g29q
          refine tn_putV (ci := 9) (i := 6) (n := 87) (r := false) (v := v28) tyX9 tyX9_ok nmX9 dX9_next_115 rfl lay_9 (by decide) fl9_34 rfl (tyX9_ok 6 (by decide)) rfl rfl rfl ha rfl rfl ?_
          have q30 : (sA 87 a (v28) (sA 86 a (v26) (sA 85 a (v24) (sA 84 a ((σ.2.1 84 a) + 1) σ)))).2.1 84 a = (σ.2.1 84 a) + 1 := rc_o (by decide) (rc_o (by decide) (rc_o (by decide) (ra_eq)))
          have q31 : (sA 87 a (v28) (sA 86 a (v26) (sA 85 a (v24) (sA 84 a ((σ.2.1 84 a) + 1) σ)))).2.1 85 a = v24 := rc_o (by decide) (rc_o (by decide) (ra_eq))
          have q32 : (sA 87 a (v28) (sA 86 a (v26) (sA 85 a (v24) (sA 84 a ((σ.2.1 84 a) + 1) σ)))).2.1 84 a = (σ.2.1 84 a) + 1 := rc_o (by decide) (rc_o (by decide) (rc_o (by decide) (ra_eq)))
          have q33 : (sA 87 a (v28) (sA 86 a (v26) (sA 85 a (v24) (sA 84 a ((σ.2.1 84 a) + 1) σ)))).2.1 85 a = v24 := rc_o (by decide) (rc_o (by decide) (ra_eq))
          have q34 : (sA 87 a (v28) (sA 86 a (v26) (sA 85 a (v24) (sA 84 a ((σ.2.1 84 a) + 1) σ)))).2.1 86 a = v26 := rc_o (by decide) (ra_eq)
          have q35 : (sA 87 a (v28) (sA 86 a (v26) (sA 85 a (v24) (sA 84 a ((σ.2.1 84 a) + 1) σ)))).2.1 87 a = v28 := ra_eq
          have w36j : jx + 1 ≤ nx := by omega
          have w36 := hq.2.2.1 x2 x9 x16 hx3 hx10 hx17 (jx + 1) w36j
          have w36i : σ.2.1 84 a + 1 = ((jx + 1 : Nat) : Int) := by omega
          rw [w36i] at g25Q
          rw [w36i] at g27Q
          rw [w36i] at g29Q
          exact tn_vret rfl dX9_next_118 ⟨rfl, rfl, ((((hw.put (by decide) (by decide) (fo_84 (by omega))).put (by decide) (by decide) (fo_85 (by omega))).put (by decide) (by decide) (fo_86 (by omega))).put (by decide) (by decide) (fo_87 (by omega))), ((((FrC.rfl.put (by decide) (by decide)).put (by decide) (by decide)).put (by decide) (by decide)).put (by decide) (by decide)), by unfold TKI at *; rw [q30, q31]; omega, by rw [q30]; omega, by unfold ADV TKI at *; rw [q30]; omega, ⟨⟨w36j, hq.1.2.1, by rw [q32]; omega⟩, ⟨by rw [q33, g25Q]; exact w36.1, by rw [q34, g27Q]; exact w36.2.1, by rw [q35, g29Q]; exact w36.2.2⟩, ((((hq.2.2.1).pt (by decide)).pt (by decide)).pt (by decide)).pt (by decide), hq.2.2.2⟩⟩
        · refine tn_aload_n dX9_next_49 rfl 0 rfl ?_
          refine tn_getI (ci := 9) (i := 4) (n := 85) (t := σ.2.1 85 a) dX9_next_50 rfl lay_9 (by decide) fl9_30 ha rfl rfl (rfl) ?_
          have g37 : ((-2147483648 : Int) ≤ σ.2.1 85 a ∧ σ.2.1 85 a ≤ 2147483647) := wf_85 hw ha
          refine tn_sipush dX9_next_53 (by decide) ?_
          refine tn_icmp_eq (tgt := 118) dX9_next_56 (by decide) ⟨by omega, by omega⟩ ⟨by decide, by decide⟩ (fun h38 => ?_) (fun h38 => ?_)
          · have q39 : σ.2.1 84 a = σ.2.1 84 a := rfl
            have q40 : σ.2.1 85 a = σ.2.1 85 a := rfl
            exact tn_vret rfl dX9_next_118 ⟨rfl, rfl, hw, FrC.rfl, False.elim (by have z9 := hq.2.1.1; omega), False.elim (by have z9 := hq.2.1.1; omega), False.elim (by have z9 := hq.2.1.1; omega), False.elim (by have z9 := hq.2.1.1; omega)⟩
          · refine tn_aload_n dX9_next_59 rfl 0 rfl ?_
            refine tn_getI (ci := 9) (i := 4) (n := 85) (t := σ.2.1 85 a) dX9_next_60 rfl lay_9 (by decide) fl9_30 ha rfl rfl (rfl) ?_
            refine tn_sipush dX9_next_63 (by decide) ?_
            refine tn_icmp_eq (tgt := 118) dX9_next_66 (by decide) ⟨by omega, by omega⟩ ⟨by decide, by decide⟩ (fun h41 => ?_) (fun h41 => ?_)
            · have q42 : σ.2.1 84 a = σ.2.1 84 a := rfl
              have q43 : σ.2.1 85 a = σ.2.1 85 a := rfl
              exact tn_vret rfl dX9_next_118 ⟨rfl, rfl, hw, FrC.rfl, False.elim (by have z9 := hq.2.1.1; omega), False.elim (by have z9 := hq.2.1.1; omega), False.elim (by have z9 := hq.2.1.1; omega), False.elim (by have z9 := hq.2.1.1; omega)⟩
            · refine tn_aload_n dX9_next_69 rfl 0 rfl ?_
              refine tn_dup dX9_next_70 rfl ?_
              refine tn_getI (ci := 9) (i := 3) (n := 84) (t := σ.2.1 84 a) dX9_next_71 rfl lay_9 (by decide) fl9_45 ha rfl rfl (rfl) ?_
              refine tn_iconst dX9_next_74 ?_
              refine tn_iadd dX9_next_75 ?_
              refine tn_putV (ci := 9) (i := 3) (n := 84) (r := false) (v := (σ.2.1 84 a) + 1) tyX9 tyX9_ok nmX9 dX9_next_76 rfl lay_9 (by decide) fl9_45 rfl (tyX9_ok 3 (by decide)) rfl rfl rfl ha rfl rfl ?_
              refine tn_aload_n dX9_next_79 rfl 0 rfl ?_
              refine tn_aload_n dX9_next_80 rfl 0 rfl ?_
              refine tn_getR (ci := 9) (i := 0) (n := 81) (x := x2) dX9_next_81 rfl lay_9 (by decide) fl9_9 ha rfl rfl (rc_o (by decide) (hx3)) ?_
              refine tn_aload_n dX9_next_84 rfl 0 rfl ?_
              refine tn_getI (ci := 9) (i := 3) (n := 84) (t := (σ.2.1 84 a) + 1) dX9_next_85 rfl lay_9 (by decide) fl9_45 ha rfl rfl (ra_eq) ?_
              refine tn_ialdX (z := (σ.2.1 84 a) + 1) (hw.put (by decide) (by decide) (fo_84 (by omega))) dX9_next_88 hk4i (by omega) (by omega) (by omega) (fun v44 g45q g45 g45k => ?_)
              have g45u := g45k.2.2.1 hk4
              have g45Q : v44 = σ.2.1 (1000 + x2) ((σ.2.1 84 a) + 1) := by rw [g45q, sA_k (by omega)]
              clear g45k g45q
              refine tn_putV (ci := 9) (i := 4) (n := 85) (r := false) (v := v44) tyX9 tyX9_ok nmX9 dX9_next_89 rfl lay_9 (by decide) fl9_30 rfl (tyX9_ok 4 (by decide)) rfl rfl rfl ha rfl rfl ?_
              refine tn_aload_n dX9_next_92 rfl 0 rfl ?_
              refine tn_aload_n dX9_next_93 rfl 0 rfl ?_
              refine tn_getR (ci := 9) (i := 1) (n := 82) (x := x9) dX9_next_94 rfl lay_9 (by decide) fl9_15 ha rfl rfl (rc_o (by decide) (rc_o (by decide) (hx10))) ?_
              refine tn_aload_n dX9_next_97 rfl 0 rfl ?_
              refine tn_getI (ci := 9) (i := 3) (n := 84) (t := (σ.2.1 84 a) + 1) dX9_next_98 rfl lay_9 (by decide) fl9_45 ha rfl rfl (rc_o (by decide) (ra_eq)) ?_
              refine tn_ialdX (z := (σ.2.1 84 a) + 1) ((hw.put (by decide) (by decide) (fo_84 (by omega))).put (by decide) (by decide) (fo_85 (by omega))) dX9_next_101 hk11i (by omega) (by omega) (by omega) (fun v46 g47q g47 g47k => ?_)
              have g47Q : v46 = σ.2.1 (1000 + x9) ((σ.2.1 84 a) + 1) := by rw [g47q, sA_k (by omega), sA_k (by omega)]
              clear g47k g47q
              refine tn_putV (ci := 9) (i := 5) (n := 86) (r := false) (v := v46) tyX9 tyX9_ok nmX9 dX9_next_102 rfl lay_9 (by decide) fl9_55 rfl (tyX9_ok 5 (by decide)) rfl rfl rfl ha rfl rfl ?_
              refine tn_aload_n dX9_next_105 rfl 0 rfl ?_
              refine tn_aload_n dX9_next_106 rfl 0 rfl ?_
              refine tn_getR (ci := 9) (i := 2) (n := 83) (x := x16) dX9_next_107 rfl lay_9 (by decide) fl9_18 ha rfl rfl (rc_o (by decide) (rc_o (by decide) (rc_o (by decide) (hx17)))) ?_
              refine tn_aload_n dX9_next_110 rfl 0 rfl ?_
              refine tn_getI (ci := 9) (i := 3) (n := 84) (t := (σ.2.1 84 a) + 1) dX9_next_111 rfl lay_9 (by decide) fl9_45 ha rfl rfl (rc_o (by decide) (rc_o (by decide) (ra_eq))) ?_
              refine tn_ialdX (z := (σ.2.1 84 a) + 1) (((hw.put (by decide) (by decide) (fo_84 (by omega))).put (by decide) (by decide) (fo_85 (by omega))).put (by decide) (by decide) (fo_86 (by omega))) dX9_next_114 hk18i (by omega) (by omega) (by omega) (fun v48 g49q g49 g49k => ?_)
              have g49Q : v48 = σ.2.1 (1000 + x16) ((σ.2.1 84 a) + 1) := by rw [g49q, sA_k (by omega), sA_k (by omega), sA_k (by omega)]
              clear g49k g49q
              refine tn_putV (ci := 9) (i := 6) (n := 87) (r := false) (v := v48) tyX9 tyX9_ok nmX9 dX9_next_115 rfl lay_9 (by decide) fl9_34 rfl (tyX9_ok 6 (by decide)) rfl rfl rfl ha rfl rfl ?_
              have q50 : (sA 87 a (v48) (sA 86 a (v46) (sA 85 a (v44) (sA 84 a ((σ.2.1 84 a) + 1) σ)))).2.1 84 a = (σ.2.1 84 a) + 1 := rc_o (by decide) (rc_o (by decide) (rc_o (by decide) (ra_eq)))
              have q51 : (sA 87 a (v48) (sA 86 a (v46) (sA 85 a (v44) (sA 84 a ((σ.2.1 84 a) + 1) σ)))).2.1 85 a = v44 := rc_o (by decide) (rc_o (by decide) (ra_eq))
              have q52 : (sA 87 a (v48) (sA 86 a (v46) (sA 85 a (v44) (sA 84 a ((σ.2.1 84 a) + 1) σ)))).2.1 84 a = (σ.2.1 84 a) + 1 := rc_o (by decide) (rc_o (by decide) (rc_o (by decide) (ra_eq)))
              have q53 : (sA 87 a (v48) (sA 86 a (v46) (sA 85 a (v44) (sA 84 a ((σ.2.1 84 a) + 1) σ)))).2.1 85 a = v44 := rc_o (by decide) (rc_o (by decide) (ra_eq))
              have q54 : (sA 87 a (v48) (sA 86 a (v46) (sA 85 a (v44) (sA 84 a ((σ.2.1 84 a) + 1) σ)))).2.1 86 a = v46 := rc_o (by decide) (ra_eq)
              have q55 : (sA 87 a (v48) (sA 86 a (v46) (sA 85 a (v44) (sA 84 a ((σ.2.1 84 a) + 1) σ)))).2.1 87 a = v48 := ra_eq
              have w56j : jx + 1 ≤ nx := by omega
              have w56 := hq.2.2.1 x2 x9 x16 hx3 hx10 hx17 (jx + 1) w56j
              have w56i : σ.2.1 84 a + 1 = ((jx + 1 : Nat) : Int) := by omega
              rw [w56i] at g45Q
              rw [w56i] at g47Q
              rw [w56i] at g49Q
              exact tn_vret rfl dX9_next_118 ⟨rfl, rfl, ((((hw.put (by decide) (by decide) (fo_84 (by omega))).put (by decide) (by decide) (fo_85 (by omega))).put (by decide) (by decide) (fo_86 (by omega))).put (by decide) (by decide) (fo_87 (by omega))), ((((FrC.rfl.put (by decide) (by decide)).put (by decide) (by decide)).put (by decide) (by decide)).put (by decide) (by decide)), by unfold TKI at *; rw [q50, q51]; omega, by rw [q50]; omega, by unfold ADV TKI at *; rw [q50]; omega, ⟨⟨w56j, hq.1.2.1, by rw [q52]; omega⟩, ⟨by rw [q53, g45Q]; exact w56.1, by rw [q54, g47Q]; exact w56.2.1, by rw [q55, g49Q]; exact w56.2.2⟩, ((((hq.2.2.1).pt (by decide)).pt (by decide)).pt (by decide)).pt (by decide), hq.2.2.2⟩⟩
