section
theorem cd_X9_next : Cond.code yX9_next cX9_next 1 none ∈ pWW := pw3 (List.mem_of_getElem? (i := 60) rfl) rfl
abbrev m_X9_next : MT := (yX9_next, cX9_next, 1, none)
theorem ok_X9_next : pOk m_X9_next := ⟨⟨cd_X9_next, ini_9⟩, by decide +kernel, ⟨by decide +kernel, by decide +kernel⟩, Nat.le_of_ble_eq_true rfl⟩
theorem np_X9_next : (parseMethodDescriptor yX9_next.desc).map (fun d => d.parameters.length) = some 0 := by decide +kernel
theorem im_X9_next : Cond.instanceMethod yX9_next ∈ pWW := pw3 (List.mem_of_getElem? (i := 58) rfl) rfl
theorem se_X9_next : Cond.selects RX9 yX9_next yX9_next ∈ pWW := pw3 (List.mem_of_getElem? (i := 59) rfl) rfl
theorem fl9_15 : Cond.fieldLink RX9 15 (TX9 1).1 (TX9 1).2.1 (TX9 1).2.2.1 ∈ pWW := pw1 (List.mem_of_getElem? (i := 45) rfl) rfl
theorem fl9_18 : Cond.fieldLink RX9 18 (TX9 2).1 (TX9 2).2.1 (TX9 2).2.2.1 ∈ pWW := pw1 (List.mem_of_getElem? (i := 46) rfl) rfl
theorem fl9_34 : Cond.fieldLink RX9 34 (TX9 6).1 (TX9 6).2.1 (TX9 6).2.2.1 ∈ pWW := pw1 (List.mem_of_getElem? (i := 52) rfl) rfl
theorem dX9_next_0 : decode cX9_next 0 = .ok (.aload_n 0, 1) := by decide +kernel
theorem dX9_next_1 : decode cX9_next 1 = .ok (.getfield 45, 3) := by decide +kernel
theorem dX9_next_4 : decode cX9_next 4 = .ok (.iconst 1, 1) := by decide +kernel
theorem dX9_next_5 : decode cX9_next 5 = .ok (.iadd, 1) := by decide +kernel
theorem dX9_next_6 : decode cX9_next 6 = .ok (.aload_n 0, 1) := by decide +kernel
theorem dX9_next_7 : decode cX9_next 7 = .ok (.getfield 9, 3) := by decide +kernel
theorem dX9_next_10 : decode cX9_next 10 = .ok (.arraylength, 1) := by decide +kernel
theorem dX9_next_11 : decode cX9_next 11 = .ok (.if_icmp .ge 107, 3) := by decide +kernel
theorem dX9_next_118 : decode cX9_next 118 = .ok (.return_, 1) := by decide +kernel
theorem dX9_next_14 : decode cX9_next 14 = .ok (.aload_n 0, 1) := by decide +kernel
theorem dX9_next_15 : decode cX9_next 15 = .ok (.getfield 45, 3) := by decide +kernel
theorem dX9_next_18 : decode cX9_next 18 = .ok (.iconst 1, 1) := by decide +kernel
theorem dX9_next_19 : decode cX9_next 19 = .ok (.iadd, 1) := by decide +kernel
theorem dX9_next_20 : decode cX9_next 20 = .ok (.aload_n 0, 1) := by decide +kernel
theorem dX9_next_21 : decode cX9_next 21 = .ok (.getfield 15, 3) := by decide +kernel
theorem dX9_next_24 : decode cX9_next 24 = .ok (.arraylength, 1) := by decide +kernel
theorem dX9_next_25 : decode cX9_next 25 = .ok (.if_icmp .ge 93, 3) := by decide +kernel
theorem dX9_next_28 : decode cX9_next 28 = .ok (.aload_n 0, 1) := by decide +kernel
theorem dX9_next_29 : decode cX9_next 29 = .ok (.getfield 45, 3) := by decide +kernel
theorem dX9_next_32 : decode cX9_next 32 = .ok (.iconst 1, 1) := by decide +kernel
theorem dX9_next_33 : decode cX9_next 33 = .ok (.iadd, 1) := by decide +kernel
theorem dX9_next_34 : decode cX9_next 34 = .ok (.aload_n 0, 1) := by decide +kernel
theorem dX9_next_35 : decode cX9_next 35 = .ok (.getfield 18, 3) := by decide +kernel
theorem dX9_next_38 : decode cX9_next 38 = .ok (.arraylength, 1) := by decide +kernel
theorem dX9_next_39 : decode cX9_next 39 = .ok (.if_icmp .ge 79, 3) := by decide +kernel
theorem dX9_next_42 : decode cX9_next 42 = .ok (.aload_n 0, 1) := by decide +kernel
theorem dX9_next_43 : decode cX9_next 43 = .ok (.getfield 45, 3) := by decide +kernel
theorem dX9_next_46 : decode cX9_next 46 = .ok (.ifCond .lt 23, 3) := by decide +kernel
theorem dX9_next_69 : decode cX9_next 69 = .ok (.aload_n 0, 1) := by decide +kernel
theorem dX9_next_70 : decode cX9_next 70 = .ok (.dup, 1) := by decide +kernel
theorem dX9_next_71 : decode cX9_next 71 = .ok (.getfield 45, 3) := by decide +kernel
theorem dX9_next_74 : decode cX9_next 74 = .ok (.iconst 1, 1) := by decide +kernel
theorem dX9_next_75 : decode cX9_next 75 = .ok (.iadd, 1) := by decide +kernel
theorem dX9_next_76 : decode cX9_next 76 = .ok (.putfield 45, 3) := by decide +kernel
theorem dX9_next_79 : decode cX9_next 79 = .ok (.aload_n 0, 1) := by decide +kernel
theorem dX9_next_80 : decode cX9_next 80 = .ok (.aload_n 0, 1) := by decide +kernel
theorem dX9_next_81 : decode cX9_next 81 = .ok (.getfield 9, 3) := by decide +kernel
theorem dX9_next_84 : decode cX9_next 84 = .ok (.aload_n 0, 1) := by decide +kernel
theorem dX9_next_85 : decode cX9_next 85 = .ok (.getfield 45, 3) := by decide +kernel
theorem dX9_next_88 : decode cX9_next 88 = .ok (.iaload, 1) := by decide +kernel
theorem dX9_next_89 : decode cX9_next 89 = .ok (.putfield 30, 3) := by decide +kernel
theorem dX9_next_92 : decode cX9_next 92 = .ok (.aload_n 0, 1) := by decide +kernel
theorem dX9_next_93 : decode cX9_next 93 = .ok (.aload_n 0, 1) := by decide +kernel
theorem dX9_next_94 : decode cX9_next 94 = .ok (.getfield 15, 3) := by decide +kernel
theorem dX9_next_97 : decode cX9_next 97 = .ok (.aload_n 0, 1) := by decide +kernel
theorem dX9_next_98 : decode cX9_next 98 = .ok (.getfield 45, 3) := by decide +kernel
theorem dX9_next_101 : decode cX9_next 101 = .ok (.iaload, 1) := by decide +kernel
theorem dX9_next_102 : decode cX9_next 102 = .ok (.putfield 55, 3) := by decide +kernel
theorem dX9_next_105 : decode cX9_next 105 = .ok (.aload_n 0, 1) := by decide +kernel
theorem dX9_next_106 : decode cX9_next 106 = .ok (.aload_n 0, 1) := by decide +kernel
theorem dX9_next_107 : decode cX9_next 107 = .ok (.getfield 18, 3) := by decide +kernel
theorem dX9_next_110 : decode cX9_next 110 = .ok (.aload_n 0, 1) := by decide +kernel
theorem dX9_next_111 : decode cX9_next 111 = .ok (.getfield 45, 3) := by decide +kernel
theorem dX9_next_114 : decode cX9_next 114 = .ok (.iaload, 1) := by decide +kernel
theorem dX9_next_115 : decode cX9_next 115 = .ok (.putfield 34, 3) := by decide +kernel
theorem dX9_next_49 : decode cX9_next 49 = .ok (.aload_n 0, 1) := by decide +kernel
theorem dX9_next_50 : decode cX9_next 50 = .ok (.getfield 30, 3) := by decide +kernel
theorem dX9_next_53 : decode cX9_next 53 = .ok (.sipush 264, 3) := by decide +kernel
theorem dX9_next_56 : decode cX9_next 56 = .ok (.if_icmp .eq 62, 3) := by decide +kernel
theorem dX9_next_59 : decode cX9_next 59 = .ok (.aload_n 0, 1) := by decide +kernel
theorem dX9_next_60 : decode cX9_next 60 = .ok (.getfield 30, 3) := by decide +kernel
theorem dX9_next_63 : decode cX9_next 63 = .ok (.sipush 263, 3) := by decide +kernel
theorem dX9_next_66 : decode cX9_next 66 = .ok (.if_icmp .eq 52, 3) := by decide +kernel
set_option maxRecDepth 20000 in
theorem k_X9_next (d : Nat) {T : CT} {σ : MS} {a : Nat} (ha : OB T a 9) (hw : WT T σ) (hT : TKI σ a) : Tn (d + 1) m_X9_next 0 T σ [(0, .ref a)] [] (fun ro T2 σ2 => ro = none ∧ T = T2 ∧ WT T2 σ2 ∧ FrC T [84, 85, 86, 87] σ σ2 ∧ (TKI σ2 a) ∧ (σ.2.1 84 a ≤ σ2.2.1 84 a) ∧ (ADV σ σ2 a)) := by
  refine tn_aload_n dX9_next_0 rfl 0 rfl ?_
  refine tn_getI (ci := 9) (i := 3) (n := 84) (t := σ.2.1 84 a) dX9_next_1 rfl lay_9 (by decide) fl9_45 ha rfl rfl (rfl) ?_
  have g1 : ((-1 : Int) ≤ σ.2.1 84 a ∧ σ.2.1 84 a ≤ 1200) := wf_84 hw ha
  refine tn_iconst dX9_next_4 ?_
  refine tn_iadd dX9_next_5 ?_
  refine tn_aload_n dX9_next_6 rfl 0 rfl ?_
  obtain ⟨x2, hx3, hk4, hl5⟩ : ∃ x : Nat, σ.2.1 81 a = (x : Int) ∧ AR T x 12 1201 1201 := wf_81 hw ha
  have hk4i : IA T x2 := by unfold IA; omega
  refine tn_getR (ci := 9) (i := 0) (n := 81) (x := x2) dX9_next_7 rfl lay_9 (by decide) fl9_9 ha rfl rfl (hx3) ?_
  refine tn_alenX dX9_next_10 (Or.inl hk4i) ?_
  refine tn_icmp_ge (tgt := 118) dX9_next_11 (by decide) ⟨by omega, by omega⟩ ⟨by omega, by omega⟩ (fun h6 => ?_) (fun h6 => ?_)
  · have q7 : σ.2.1 84 a = σ.2.1 84 a := rfl
    have q8 : σ.2.1 85 a = σ.2.1 85 a := rfl
    exact tn_vret rfl dX9_next_118 ⟨rfl, rfl, hw, FrC.rfl, by unfold TKI at *; rw [q7, q8]; omega, by rw [q7]; omega, by unfold ADV TKI at *; rw [q7]; omega⟩
  · refine tn_aload_n dX9_next_14 rfl 0 rfl ?_
    refine tn_getI (ci := 9) (i := 3) (n := 84) (t := σ.2.1 84 a) dX9_next_15 rfl lay_9 (by decide) fl9_45 ha rfl rfl (rfl) ?_
    refine tn_iconst dX9_next_18 ?_
    refine tn_iadd dX9_next_19 ?_
    refine tn_aload_n dX9_next_20 rfl 0 rfl ?_
    obtain ⟨x9, hx10, hk11, hl12⟩ : ∃ x : Nat, σ.2.1 82 a = (x : Int) ∧ AR T x 22 1201 1201 := wf_82 hw ha
    have hk11i : IA T x9 := by unfold IA; omega
    refine tn_getR (ci := 9) (i := 1) (n := 82) (x := x9) dX9_next_21 rfl lay_9 (by decide) fl9_15 ha rfl rfl (hx10) ?_
    refine tn_alenX dX9_next_24 (Or.inl hk11i) ?_
    refine tn_icmp_ge (tgt := 118) dX9_next_25 (by decide) ⟨by omega, by omega⟩ ⟨by omega, by omega⟩ (fun h13 => ?_) (fun h13 => ?_)
    · have q14 : σ.2.1 84 a = σ.2.1 84 a := rfl
      have q15 : σ.2.1 85 a = σ.2.1 85 a := rfl
      exact tn_vret rfl dX9_next_118 ⟨rfl, rfl, hw, FrC.rfl, by unfold TKI at *; rw [q14, q15]; omega, by rw [q14]; omega, by unfold ADV TKI at *; rw [q14]; omega⟩
    · refine tn_aload_n dX9_next_28 rfl 0 rfl ?_
      refine tn_getI (ci := 9) (i := 3) (n := 84) (t := σ.2.1 84 a) dX9_next_29 rfl lay_9 (by decide) fl9_45 ha rfl rfl (rfl) ?_
      refine tn_iconst dX9_next_32 ?_
      refine tn_iadd dX9_next_33 ?_
      refine tn_aload_n dX9_next_34 rfl 0 rfl ?_
      obtain ⟨x16, hx17, hk18, hl19⟩ : ∃ x : Nat, σ.2.1 83 a = (x : Int) ∧ AR T x 23 1201 1201 := wf_83 hw ha
      have hk18i : IA T x16 := by unfold IA; omega
      refine tn_getR (ci := 9) (i := 2) (n := 83) (x := x16) dX9_next_35 rfl lay_9 (by decide) fl9_18 ha rfl rfl (hx17) ?_
      refine tn_alenX dX9_next_38 (Or.inl hk18i) ?_
      refine tn_icmp_ge (tgt := 118) dX9_next_39 (by decide) ⟨by omega, by omega⟩ ⟨by omega, by omega⟩ (fun h20 => ?_) (fun h20 => ?_)
      · have q21 : σ.2.1 84 a = σ.2.1 84 a := rfl
        have q22 : σ.2.1 85 a = σ.2.1 85 a := rfl
        exact tn_vret rfl dX9_next_118 ⟨rfl, rfl, hw, FrC.rfl, by unfold TKI at *; rw [q21, q22]; omega, by rw [q21]; omega, by unfold ADV TKI at *; rw [q21]; omega⟩
      · refine tn_aload_n dX9_next_42 rfl 0 rfl ?_
        refine tn_getI (ci := 9) (i := 3) (n := 84) (t := σ.2.1 84 a) dX9_next_43 rfl lay_9 (by decide) fl9_45 ha rfl rfl (rfl) ?_
        refine tn_if_lt (tgt := 69) dX9_next_46 (by decide) ⟨by omega, by omega⟩ (fun h23 => ?_) (fun h23 => ?_)
        · refine tn_aload_n dX9_next_69 rfl 0 rfl ?_
          refine tn_dup dX9_next_70 rfl ?_
          refine tn_getI (ci := 9) (i := 3) (n := 84) (t := σ.2.1 84 a) dX9_next_71 rfl lay_9 (by decide) fl9_45 ha rfl rfl (rfl) ?_
          refine tn_iconst dX9_next_74 ?_
          refine tn_iadd dX9_next_75 ?_
          refine tn_putV (ci := 9) (i := 3) (n := 84) (r := false) (v := (σ.2.1 84 a) + 1) tyX9 tyX9_ok nmX9 dX9_next_76 rfl lay_9 (by decide) fl9_45 rfl (tyX9_ok 3 (by decide)) rfl rfl rfl ha rfl rfl ?_
          refine tn_aload_n dX9_next_79 rfl 0 rfl ?_
          refine tn_aload_n dX9_next_80 rfl 0 rfl ?_
          refine tn_getR (ci := 9) (i := 0) (n := 81) (x := x2) dX9_next_81 rfl lay_9 (by decide) fl9_9 ha rfl rfl (rc_o (by decide) (hx3)) ?_
          refine tn_aload_n dX9_next_84 rfl 0 rfl ?_
          refine tn_getI (ci := 9) (i := 3) (n := 84) (t := (σ.2.1 84 a) + 1) dX9_next_85 rfl lay_9 (by decide) fl9_45 ha rfl rfl (ra_eq) ?_
          refine tn_ialdX (z := (σ.2.1 84 a) + 1) (hw.put (by decide) (by decide) (fo_84 (by omega))) dX9_next_88 hk4i (by omega) (by omega) (by omega) (fun v24 g25q g25 g25k => ?_)
          have g25u := g25k.2.2.1 hk4
          clear g25k g25q
          refine tn_putV (ci := 9) (i := 4) (n := 85) (r := false) (v := v24) tyX9 tyX9_ok nmX9 dX9_next_89 rfl lay_9 (by decide) fl9_30 rfl (tyX9_ok 4 (by decide)) rfl rfl rfl ha rfl rfl ?_
          refine tn_aload_n dX9_next_92 rfl 0 rfl ?_
          refine tn_aload_n dX9_next_93 rfl 0 rfl ?_
          refine tn_getR (ci := 9) (i := 1) (n := 82) (x := x9) dX9_next_94 rfl lay_9 (by decide) fl9_15 ha rfl rfl (rc_o (by decide) (rc_o (by decide) (hx10))) ?_
          refine tn_aload_n dX9_next_97 rfl 0 rfl ?_
          refine tn_getI (ci := 9) (i := 3) (n := 84) (t := (σ.2.1 84 a) + 1) dX9_next_98 rfl lay_9 (by decide) fl9_45 ha rfl rfl (rc_o (by decide) (ra_eq)) ?_
          refine tn_ialdX (z := (σ.2.1 84 a) + 1) ((hw.put (by decide) (by decide) (fo_84 (by omega))).put (by decide) (by decide) (fo_85 (by omega))) dX9_next_101 hk11i (by omega) (by omega) (by omega) (fun v26 g27q g27 g27k => ?_)
          clear g27k g27q
          refine tn_putV (ci := 9) (i := 5) (n := 86) (r := false) (v := v26) tyX9 tyX9_ok nmX9 dX9_next_102 rfl lay_9 (by decide) fl9_55 rfl (tyX9_ok 5 (by decide)) rfl rfl rfl ha rfl rfl ?_
          refine tn_aload_n dX9_next_105 rfl 0 rfl ?_
          refine tn_aload_n dX9_next_106 rfl 0 rfl ?_
          refine tn_getR (ci := 9) (i := 2) (n := 83) (x := x16) dX9_next_107 rfl lay_9 (by decide) fl9_18 ha rfl rfl (rc_o (by decide) (rc_o (by decide) (rc_o (by decide) (hx17)))) ?_
          refine tn_aload_n dX9_next_110 rfl 0 rfl ?_
          refine tn_getI (ci := 9) (i := 3) (n := 84) (t := (σ.2.1 84 a) + 1) dX9_next_111 rfl lay_9 (by decide) fl9_45 ha rfl rfl (rc_o (by decide) (rc_o (by decide) (ra_eq))) ?_
          refine tn_ialdX (z := (σ.2.1 84 a) + 1) (((hw.put (by decide) (by decide) (fo_84 (by omega))).put (by decide) (by decide) (fo_85 (by omega))).put (by decide) (by decide) (fo_86 (by omega))) dX9_next_114 hk18i (by omega) (by omega) (by omega) (fun v28 g29q g29 g29k => ?_)
          clear g29k g29q
          refine tn_putV (ci := 9) (i := 6) (n := 87) (r := false) (v := v28) tyX9 tyX9_ok nmX9 dX9_next_115 rfl lay_9 (by decide) fl9_34 rfl (tyX9_ok 6 (by decide)) rfl rfl rfl ha rfl rfl ?_
          have q30 : (sA 87 a (v28) (sA 86 a (v26) (sA 85 a (v24) (sA 84 a ((σ.2.1 84 a) + 1) σ)))).2.1 84 a = (σ.2.1 84 a) + 1 := rc_o (by decide) (rc_o (by decide) (rc_o (by decide) (ra_eq)))
          have q31 : (sA 87 a (v28) (sA 86 a (v26) (sA 85 a (v24) (sA 84 a ((σ.2.1 84 a) + 1) σ)))).2.1 85 a = v24 := rc_o (by decide) (rc_o (by decide) (ra_eq))
          exact tn_vret rfl dX9_next_118 ⟨rfl, rfl, ((((hw.put (by decide) (by decide) (fo_84 (by omega))).put (by decide) (by decide) (fo_85 (by omega))).put (by decide) (by decide) (fo_86 (by omega))).put (by decide) (by decide) (fo_87 (by omega))), ((((FrC.rfl.put (by decide) (by decide)).put (by decide) (by decide)).put (by decide) (by decide)).put (by decide) (by decide)), by unfold TKI at *; rw [q30, q31]; omega, by rw [q30]; omega, by unfold ADV TKI at *; rw [q30]; omega⟩
        · refine tn_aload_n dX9_next_49 rfl 0 rfl ?_
          refine tn_getI (ci := 9) (i := 4) (n := 85) (t := σ.2.1 85 a) dX9_next_50 rfl lay_9 (by decide) fl9_30 ha rfl rfl (rfl) ?_
          have g32 : ((-2147483648 : Int) ≤ σ.2.1 85 a ∧ σ.2.1 85 a ≤ 2147483647) := wf_85 hw ha
          refine tn_sipush dX9_next_53 (by decide) ?_
          refine tn_icmp_eq (tgt := 118) dX9_next_56 (by decide) ⟨by omega, by omega⟩ ⟨by decide, by decide⟩ (fun h33 => ?_) (fun h33 => ?_)
          · have q34 : σ.2.1 84 a = σ.2.1 84 a := rfl
            have q35 : σ.2.1 85 a = σ.2.1 85 a := rfl
            exact tn_vret rfl dX9_next_118 ⟨rfl, rfl, hw, FrC.rfl, by unfold TKI at *; rw [q34, q35]; omega, by rw [q34]; omega, by unfold ADV TKI at *; rw [q34]; omega⟩
          · refine tn_aload_n dX9_next_59 rfl 0 rfl ?_
            refine tn_getI (ci := 9) (i := 4) (n := 85) (t := σ.2.1 85 a) dX9_next_60 rfl lay_9 (by decide) fl9_30 ha rfl rfl (rfl) ?_
            refine tn_sipush dX9_next_63 (by decide) ?_
            refine tn_icmp_eq (tgt := 118) dX9_next_66 (by decide) ⟨by omega, by omega⟩ ⟨by decide, by decide⟩ (fun h36 => ?_) (fun h36 => ?_)
            · have q37 : σ.2.1 84 a = σ.2.1 84 a := rfl
              have q38 : σ.2.1 85 a = σ.2.1 85 a := rfl
              exact tn_vret rfl dX9_next_118 ⟨rfl, rfl, hw, FrC.rfl, by unfold TKI at *; rw [q37, q38]; omega, by rw [q37]; omega, by unfold ADV TKI at *; rw [q37]; omega⟩
            · refine tn_aload_n dX9_next_69 rfl 0 rfl ?_
              refine tn_dup dX9_next_70 rfl ?_
              refine tn_getI (ci := 9) (i := 3) (n := 84) (t := σ.2.1 84 a) dX9_next_71 rfl lay_9 (by decide) fl9_45 ha rfl rfl (rfl) ?_
              refine tn_iconst dX9_next_74 ?_
              refine tn_iadd dX9_next_75 ?_
              refine tn_putV (ci := 9) (i := 3) (n := 84) (r := false) (v := (σ.2.1 84 a) + 1) tyX9 tyX9_ok nmX9 dX9_next_76 rfl lay_9 (by decide) fl9_45 rfl (tyX9_ok 3 (by decide)) rfl rfl rfl ha rfl rfl ?_
              refine tn_aload_n dX9_next_79 rfl 0 rfl ?_
              refine tn_aload_n dX9_next_80 rfl 0 rfl ?_
              refine tn_getR (ci := 9) (i := 0) (n := 81) (x := x2) dX9_next_81 rfl lay_9 (by decide) fl9_9 ha rfl rfl (rc_o (by decide) (hx3)) ?_
              refine tn_aload_n dX9_next_84 rfl 0 rfl ?_
              refine tn_getI (ci := 9) (i := 3) (n := 84) (t := (σ.2.1 84 a) + 1) dX9_next_85 rfl lay_9 (by decide) fl9_45 ha rfl rfl (ra_eq) ?_
              refine tn_ialdX (z := (σ.2.1 84 a) + 1) (hw.put (by decide) (by decide) (fo_84 (by omega))) dX9_next_88 hk4i (by omega) (by omega) (by omega) (fun v39 g40q g40 g40k => ?_)
              have g40u := g40k.2.2.1 hk4
              clear g40k g40q
              refine tn_putV (ci := 9) (i := 4) (n := 85) (r := false) (v := v39) tyX9 tyX9_ok nmX9 dX9_next_89 rfl lay_9 (by decide) fl9_30 rfl (tyX9_ok 4 (by decide)) rfl rfl rfl ha rfl rfl ?_
              refine tn_aload_n dX9_next_92 rfl 0 rfl ?_
              refine tn_aload_n dX9_next_93 rfl 0 rfl ?_
              refine tn_getR (ci := 9) (i := 1) (n := 82) (x := x9) dX9_next_94 rfl lay_9 (by decide) fl9_15 ha rfl rfl (rc_o (by decide) (rc_o (by decide) (hx10))) ?_
              refine tn_aload_n dX9_next_97 rfl 0 rfl ?_
              refine tn_getI (ci := 9) (i := 3) (n := 84) (t := (σ.2.1 84 a) + 1) dX9_next_98 rfl lay_9 (by decide) fl9_45 ha rfl rfl (rc_o (by decide) (ra_eq)) ?_
              refine tn_ialdX (z := (σ.2.1 84 a) + 1) ((hw.put (by decide) (by decide) (fo_84 (by omega))).put (by decide) (by decide) (fo_85 (by omega))) dX9_next_101 hk11i (by omega) (by omega) (by omega) (fun v41 g42q g42 g42k => ?_)
              clear g42k g42q
              refine tn_putV (ci := 9) (i := 5) (n := 86) (r := false) (v := v41) tyX9 tyX9_ok nmX9 dX9_next_102 rfl lay_9 (by decide) fl9_55 rfl (tyX9_ok 5 (by decide)) rfl rfl rfl ha rfl rfl ?_
              refine tn_aload_n dX9_next_105 rfl 0 rfl ?_
              refine tn_aload_n dX9_next_106 rfl 0 rfl ?_
              refine tn_getR (ci := 9) (i := 2) (n := 83) (x := x16) dX9_next_107 rfl lay_9 (by decide) fl9_18 ha rfl rfl (rc_o (by decide) (rc_o (by decide) (rc_o (by decide) (hx17)))) ?_
              refine tn_aload_n dX9_next_110 rfl 0 rfl ?_
              refine tn_getI (ci := 9) (i := 3) (n := 84) (t := (σ.2.1 84 a) + 1) dX9_next_111 rfl lay_9 (by decide) fl9_45 ha rfl rfl (rc_o (by decide) (rc_o (by decide) (ra_eq))) ?_
              refine tn_ialdX (z := (σ.2.1 84 a) + 1) (((hw.put (by decide) (by decide) (fo_84 (by omega))).put (by decide) (by decide) (fo_85 (by omega))).put (by decide) (by decide) (fo_86 (by omega))) dX9_next_114 hk18i (by omega) (by omega) (by omega) (fun v43 g44q g44 g44k => ?_)
              clear g44k g44q
              refine tn_putV (ci := 9) (i := 6) (n := 87) (r := false) (v := v43) tyX9 tyX9_ok nmX9 dX9_next_115 rfl lay_9 (by decide) fl9_34 rfl (tyX9_ok 6 (by decide)) rfl rfl rfl ha rfl rfl ?_
              have q45 : (sA 87 a (v43) (sA 86 a (v41) (sA 85 a (v39) (sA 84 a ((σ.2.1 84 a) + 1) σ)))).2.1 84 a = (σ.2.1 84 a) + 1 := rc_o (by decide) (rc_o (by decide) (rc_o (by decide) (ra_eq)))
              have q46 : (sA 87 a (v43) (sA 86 a (v41) (sA 85 a (v39) (sA 84 a ((σ.2.1 84 a) + 1) σ)))).2.1 85 a = v39 := rc_o (by decide) (rc_o (by decide) (ra_eq))
              exact tn_vret rfl dX9_next_118 ⟨rfl, rfl, ((((hw.put (by decide) (by decide) (fo_84 (by omega))).put (by decide) (by decide) (fo_85 (by omega))).put (by decide) (by decide) (fo_86 (by omega))).put (by decide) (by decide) (fo_87 (by omega))), ((((FrC.rfl.put (by decide) (by decide)).put (by decide) (by decide)).put (by decide) (by decide)).put (by decide) (by decide)), by unfold TKI at *; rw [q45, q46]; omega, by rw [q45]; omega, by unfold ADV TKI at *; rw [q45]; omega⟩
end
section
theorem cd_X9_keep : Cond.code yX9_keep cX9_keep 2 none ∈ pWW := pw3 (List.mem_of_getElem? (i := 53) rfl) rfl
abbrev m_X9_keep : MT := (yX9_keep, cX9_keep, 2, none)
theorem ok_X9_keep : pOk m_X9_keep := ⟨⟨cd_X9_keep, ini_9⟩, by decide +kernel, ⟨by decide +kernel, by decide +kernel⟩, Nat.le_of_ble_eq_true rfl⟩
theorem np_X9_keep : (parseMethodDescriptor yX9_keep.desc).map (fun d => d.parameters.length) = some 1 := by decide +kernel
theorem im_X9_keep : Cond.instanceMethod yX9_keep ∈ pWW := pw3 (List.mem_of_getElem? (i := 52) rfl) rfl
theorem se_X9_keep : Cond.selects RX9 yX9_keep yX9_keep ∈ pWW := pws (List.mem_map.mpr ⟨_, lw_pin 3 rfl, rfl⟩) rfl
theorem nl9_51 : (RX9, 51, yX11_put, "LineKeeper") ∈ nst_M := List.mem_of_getElem? (i := 6) rfl
theorem dX9_keep_0 : decode cX9_keep 0 = .ok (.aload_n 0, 1) := by decide +kernel
theorem dX9_keep_1 : decode cX9_keep 1 = .ok (.getfield 9, 3) := by decide +kernel
theorem dX9_keep_4 : decode cX9_keep 4 = .ok (.iload_n 1, 1) := by decide +kernel
theorem dX9_keep_5 : decode cX9_keep 5 = .ok (.aload_n 0, 1) := by decide +kernel
theorem dX9_keep_6 : decode cX9_keep 6 = .ok (.getfield 30, 3) := by decide +kernel
theorem dX9_keep_9 : decode cX9_keep 9 = .ok (.invokestatic 51, 3) := by decide +kernel
theorem dX9_keep_12 : decode cX9_keep 12 = .ok (.aload_n 0, 1) := by decide +kernel
theorem dX9_keep_13 : decode cX9_keep 13 = .ok (.getfield 15, 3) := by decide +kernel
theorem dX9_keep_16 : decode cX9_keep 16 = .ok (.iload_n 1, 1) := by decide +kernel
theorem dX9_keep_17 : decode cX9_keep 17 = .ok (.aload_n 0, 1) := by decide +kernel
theorem dX9_keep_18 : decode cX9_keep 18 = .ok (.getfield 55, 3) := by decide +kernel
theorem dX9_keep_21 : decode cX9_keep 21 = .ok (.invokestatic 51, 3) := by decide +kernel
theorem dX9_keep_24 : decode cX9_keep 24 = .ok (.aload_n 0, 1) := by decide +kernel
theorem dX9_keep_25 : decode cX9_keep 25 = .ok (.getfield 18, 3) := by decide +kernel
theorem dX9_keep_28 : decode cX9_keep 28 = .ok (.iload_n 1, 1) := by decide +kernel
theorem dX9_keep_29 : decode cX9_keep 29 = .ok (.aload_n 0, 1) := by decide +kernel
theorem dX9_keep_30 : decode cX9_keep 30 = .ok (.getfield 34, 3) := by decide +kernel
theorem dX9_keep_33 : decode cX9_keep 33 = .ok (.invokestatic 51, 3) := by decide +kernel
theorem dX9_keep_36 : decode cX9_keep 36 = .ok (.return_, 1) := by decide +kernel
set_option maxRecDepth 20000 in
theorem k_X9_keep (d : Nat) {T : CT} {σ : MS} {a : Nat} {n : Int} (ha : OB T a 9) (h_n : -2147483648 ≤ n ∧ n ≤ 2147483647) (hw : WT T σ) (hk : n = 1200 → σ.2.1 85 a = 0 ∨ σ.2.1 85 a = 263 ∨ σ.2.1 85 a = 264) : Tn (d + 2) m_X9_keep 0 T σ [(0, .ref a), (1, .int (iI n))] [] (fun ro T2 σ2 => ro = none ∧ T = T2 ∧ WT T2 σ2 ∧ FrC T [512, 522, 523] σ σ2) := by
  refine tn_aload_n dX9_keep_0 rfl 0 rfl ?_
  obtain ⟨x1, hx2, hk3, hl4⟩ : ∃ x : Nat, σ.2.1 81 a = (x : Int) ∧ AR T x 12 1201 1201 := wf_81 hw ha
  have hk3i : IA T x1 := by unfold IA; omega
  refine tn_getR (ci := 9) (i := 0) (n := 81) (x := x1) dX9_keep_1 rfl lay_9 (by decide) fl9_9 ha rfl rfl (hx2) ?_
  refine tn_iload_n dX9_keep_4 rfl 1 rfl ?_
  refine tn_aload_n dX9_keep_5 rfl 0 rfl ?_
  refine tn_getI (ci := 9) (i := 4) (n := 85) (t := σ.2.1 85 a) dX9_keep_6 rfl lay_9 (by decide) fl9_30 ha rfl rfl (rfl) ?_
  have g5 : ((-2147483648 : Int) ≤ σ.2.1 85 a ∧ σ.2.1 85 a ≤ 2147483647) := wf_85 hw ha
  refine tn_callSN (M := m_X9_keep) (pc := 9) (ix := 51) (M' := m_X11_put) (As := [.ref x1, .int (iI n), .int (iI (σ.2.1 85 a))]) (rest := []) dX9_keep_9 ok_X11_put stt_X11_put nl9_51 np_X11_put rfl (Nat.le_of_ble_eq_true rfl) (Nat.le_of_ble_eq_true rfl) rfl (k_X11_put_12 (d) (T := T) (σ := σ) (x := x1) (i := n) (y := σ.2.1 85 a) hk3i (by omega) hk3 (by omega) (by omega) hw (by rw [hk3]; exact vok_12 (by omega) hk)) (fun r6 T8 σ7 gt9 hp => ?_)
  obtain ⟨rfl, rfl, w12, F13, f10⟩ := hp
  clear gt9
  show Tn _ _ 12 T σ7 [(0, .ref a), (1, .int (iI n))] [] _
  refine tn_aload_n dX9_keep_12 rfl 0 rfl ?_
  obtain ⟨x14, hx15, hk16, hl17⟩ : ∃ x : Nat, σ.2.1 82 a = (x : Int) ∧ AR T x 22 1201 1201 := wf_82 hw ha
  have hk16i : IA T x14 := by unfold IA; omega
  refine tn_getR (ci := 9) (i := 1) (n := 82) (x := x14) dX9_keep_13 rfl lay_9 (by decide) fl9_15 ha rfl rfl (rc_F F13 (Or.inl (by decide)) (by decide) (hx15)) ?_
  refine tn_iload_n dX9_keep_16 rfl 1 rfl ?_
  refine tn_aload_n dX9_keep_17 rfl 0 rfl ?_
  refine tn_getI (ci := 9) (i := 5) (n := 86) (t := σ.2.1 86 a) dX9_keep_18 rfl lay_9 (by decide) fl9_55 ha rfl rfl (rc_F F13 (Or.inl (by decide)) (by decide) (rfl)) ?_
  have g18 : ((-2147483648 : Int) ≤ σ.2.1 86 a ∧ σ.2.1 86 a ≤ 2147483647) := wf_86 hw ha
  refine tn_callSN (M := m_X9_keep) (pc := 21) (ix := 51) (M' := m_X11_put) (As := [.ref x14, .int (iI n), .int (iI (σ.2.1 86 a))]) (rest := []) dX9_keep_21 ok_X11_put stt_X11_put nl9_51 np_X11_put rfl (Nat.le_of_ble_eq_true rfl) (Nat.le_of_ble_eq_true rfl) rfl (k_X11_put_22 (d) (T := T) (σ := σ7) (x := x14) (i := n) (y := σ.2.1 86 a) hk16i (by omega) hk16 (by omega) (by omega) w12 ) (fun r19 T21 σ20 gt22 hp => ?_)
  obtain ⟨rfl, rfl, w25, F26, f23⟩ := hp
  clear gt22
  show Tn _ _ 24 T σ20 [(0, .ref a), (1, .int (iI n))] [] _
  refine tn_aload_n dX9_keep_24 rfl 0 rfl ?_
  obtain ⟨x27, hx28, hk29, hl30⟩ : ∃ x : Nat, σ.2.1 83 a = (x : Int) ∧ AR T x 23 1201 1201 := wf_83 hw ha
  have hk29i : IA T x27 := by unfold IA; omega
  refine tn_getR (ci := 9) (i := 2) (n := 83) (x := x27) dX9_keep_25 rfl lay_9 (by decide) fl9_18 ha rfl rfl (rc_F F26 (Or.inl (by decide)) (by decide) (rc_F F13 (Or.inl (by decide)) (by decide) (hx28))) ?_
  refine tn_iload_n dX9_keep_28 rfl 1 rfl ?_
  refine tn_aload_n dX9_keep_29 rfl 0 rfl ?_
  refine tn_getI (ci := 9) (i := 6) (n := 87) (t := σ.2.1 87 a) dX9_keep_30 rfl lay_9 (by decide) fl9_34 ha rfl rfl (rc_F F26 (Or.inl (by decide)) (by decide) (rc_F F13 (Or.inl (by decide)) (by decide) (rfl))) ?_
  have g31 : ((-2147483648 : Int) ≤ σ.2.1 87 a ∧ σ.2.1 87 a ≤ 2147483647) := wf_87 hw ha
  refine tn_callSN (M := m_X9_keep) (pc := 33) (ix := 51) (M' := m_X11_put) (As := [.ref x27, .int (iI n), .int (iI (σ.2.1 87 a))]) (rest := []) dX9_keep_33 ok_X11_put stt_X11_put nl9_51 np_X11_put rfl (Nat.le_of_ble_eq_true rfl) (Nat.le_of_ble_eq_true rfl) rfl (k_X11_put_23 (d) (T := T) (σ := σ20) (x := x27) (i := n) (y := σ.2.1 87 a) hk29i (by omega) hk29 (by omega) (by omega) w25 ) (fun r32 T34 σ33 gt35 hp => ?_)
  obtain ⟨rfl, rfl, w38, F39, f36⟩ := hp
  clear gt35
  show Tn _ _ 36 T σ33 [(0, .ref a), (1, .int (iI n))] [] _
  exact tn_vret rfl dX9_keep_36 ⟨rfl, rfl, w38, (((FrC.rfl.trans (FrC.sub F13 (by decide))).trans (FrC.sub F26 (by decide))).trans (FrC.sub F39 (by decide)))⟩
end
section
theorem cd_X9_scanOne : Cond.code yX9_scanOne cX9_scanOne 5 (some .int) ∈ pWW := pw3 (List.mem_of_getElem? (i := 38) rfl) rfl
abbrev m_X9_scanOne : MT := (yX9_scanOne, cX9_scanOne, 5, (some .int))
theorem ok_X9_scanOne : pOk m_X9_scanOne := ⟨⟨cd_X9_scanOne, ini_9⟩, by decide +kernel, ⟨by decide +kernel, by decide +kernel⟩, Nat.le_of_ble_eq_true rfl⟩
theorem np_X9_scanOne : (parseMethodDescriptor yX9_scanOne.desc).map (fun d => d.parameters.length) = some 3 := by decide +kernel
theorem im_X9_scanOne : Cond.instanceMethod yX9_scanOne ∈ pWW := pw3 (List.mem_of_getElem? (i := 37) rfl) rfl
theorem se_X9_scanOne : Cond.selects RX9 yX9_scanOne yX9_scanOne ∈ pWW := pws (List.mem_map.mpr ⟨_, lw_pin 1 rfl, rfl⟩) rfl
theorem dX9_scanOne_0 : decode cX9_scanOne 0 = .ok (.iload_n 3, 1) := by decide +kernel
theorem dX9_scanOne_1 : decode cX9_scanOne 1 = .ok (.istore 4, 2) := by decide +kernel
theorem dX9_scanOne_3 : decode cX9_scanOne 3 = .ok (.aload_n 0, 1) := by decide +kernel
theorem dX9_scanOne_4 : decode cX9_scanOne 4 = .ok (.iconst 0, 1) := by decide +kernel
theorem dX9_scanOne_5 : decode cX9_scanOne 5 = .ok (.putfield 55, 3) := by decide +kernel
theorem dX9_scanOne_8 : decode cX9_scanOne 8 = .ok (.iload 4, 2) := by decide +kernel
theorem dX9_scanOne_10 : decode cX9_scanOne 10 = .ok (.iload_n 2, 1) := by decide +kernel
theorem dX9_scanOne_11 : decode cX9_scanOne 11 = .ok (.if_icmp .ge 45, 3) := by decide +kernel
theorem dX9_scanOne_14 : decode cX9_scanOne 14 = .ok (.aload_n 1, 1) := by decide +kernel
theorem dX9_scanOne_15 : decode cX9_scanOne 15 = .ok (.iload 4, 2) := by decide +kernel
theorem dX9_scanOne_17 : decode cX9_scanOne 17 = .ok (.baload, 1) := by decide +kernel
theorem dX9_scanOne_18 : decode cX9_scanOne 18 = .ok (.bipush 97, 2) := by decide +kernel
theorem dX9_scanOne_20 : decode cX9_scanOne 20 = .ok (.if_icmp .lt 36, 3) := by decide +kernel
theorem dX9_scanOne_23 : decode cX9_scanOne 23 = .ok (.aload_n 1, 1) := by decide +kernel
theorem dX9_scanOne_24 : decode cX9_scanOne 24 = .ok (.iload 4, 2) := by decide +kernel
theorem dX9_scanOne_26 : decode cX9_scanOne 26 = .ok (.baload, 1) := by decide +kernel
theorem dX9_scanOne_27 : decode cX9_scanOne 27 = .ok (.bipush 122, 2) := by decide +kernel
theorem dX9_scanOne_29 : decode cX9_scanOne 29 = .ok (.if_icmp .gt 27, 3) := by decide +kernel
theorem dX9_scanOne_32 : decode cX9_scanOne 32 = .ok (.aload_n 0, 1) := by decide +kernel
theorem dX9_scanOne_33 : decode cX9_scanOne 33 = .ok (.aload_n 0, 1) := by decide +kernel
theorem dX9_scanOne_34 : decode cX9_scanOne 34 = .ok (.getfield 55, 3) := by decide +kernel
theorem dX9_scanOne_37 : decode cX9_scanOne 37 = .ok (.iconst 5, 1) := by decide +kernel
theorem dX9_scanOne_38 : decode cX9_scanOne 38 = .ok (.ishl, 1) := by decide +kernel
theorem dX9_scanOne_39 : decode cX9_scanOne 39 = .ok (.aload_n 1, 1) := by decide +kernel
theorem dX9_scanOne_40 : decode cX9_scanOne 40 = .ok (.iload 4, 2) := by decide +kernel
theorem dX9_scanOne_42 : decode cX9_scanOne 42 = .ok (.baload, 1) := by decide +kernel
theorem dX9_scanOne_43 : decode cX9_scanOne 43 = .ok (.bipush 96, 2) := by decide +kernel
theorem dX9_scanOne_45 : decode cX9_scanOne 45 = .ok (.isub, 1) := by decide +kernel
theorem dX9_scanOne_46 : decode cX9_scanOne 46 = .ok (.ior, 1) := by decide +kernel
theorem dX9_scanOne_47 : decode cX9_scanOne 47 = .ok (.putfield 55, 3) := by decide +kernel
theorem dX9_scanOne_50 : decode cX9_scanOne 50 = .ok (.iinc 4 1, 3) := by decide +kernel
theorem dX9_scanOne_53 : decode cX9_scanOne 53 = .ok (.goto (-45), 3) := by decide +kernel
set_option maxRecDepth 20000 in
theorem l_X9_scanOne_8 (d : Nat) {T : CT} {σ0 : MS} {a : Nat} {rx1 : Nat} {c2 : Int} {c3 : Int} {post : Option Value → CT → MS → Prop} (h_a : OB T a 9) (h_rx1 : (T rx1).1 = 2) (l_rx1 : (T rx1).2 ≤ 1000000) (r_c2 : 0 ≤ c2 ∧ c2 ≤ 1200) (r_c3 : 0 ≤ c3 ∧ c3 ≤ 1200) (hw0 : WT T σ0) (ht : (T rx1).2 = 1200) (hx_56 : ∀ (i4 : Int) (σ : MS) , (WT T σ) → (FrC T [86] σ0 σ) → (0 ≤ i4 ∧ i4 ≤ 1200) → (c3 ≤ i4 ∧ i4 ≤ c2) → Tn (d + 2) m_X9_scanOne 56 T σ [(0, .ref a), (1, .ref rx1), (2, .int (iI c2)), (3, .int (iI c3)), (4, .int (iI i4))] [] post) : ∀ (n : Nat) (i4 : Int) (σ : MS) , (WT T σ) → (FrC T [86] σ0 σ) → (0 ≤ i4 ∧ i4 ≤ 1200) → (c3 ≤ i4 ∧ i4 ≤ c2) → (2147483700 - i4).toNat = n → Tn (d + 2) m_X9_scanOne 8 T σ [(0, .ref a), (1, .ref rx1), (2, .int (iI c2)), (3, .int (iI c3)), (4, .int (iI i4))] [] post := by
  intro n
  induction n using Nat.strongRecOn with
  | _ n ih =>
    intro i4 σ hw hF r_i4 h0 hm
    refine tn_iload dX9_scanOne_8 4 rfl ?_
    refine tn_iload_n dX9_scanOne_10 rfl 2 rfl ?_
    refine tn_icmp_ge (tgt := 56) dX9_scanOne_11 (by decide) ⟨by omega, by omega⟩ ⟨by omega, by omega⟩ (fun h1 => ?_) (fun h1 => ?_)
    · exact tn_sub [0, 1, 2, 3, 4] rfl (hx_56 (i4) σ hw (FrC.rfl.trans (FrC.sub hF (by decide))) (by omega) (by omega))
    · refine tn_aload_n dX9_scanOne_14 rfl 1 rfl ?_
      refine tn_iload dX9_scanOne_15 4 rfl ?_
      refine tn_baldX (z := i4) hw dX9_scanOne_17 h_rx1 (by omega) (by omega) (by omega) (fun v2 g3 => ?_)
      refine tn_bipush dX9_scanOne_18 (by decide) ?_
      refine tn_icmp_lt (tgt := 56) dX9_scanOne_20 (by decide) ⟨by omega, by omega⟩ ⟨by decide, by decide⟩ (fun h4 => ?_) (fun h4 => ?_)
      · exact tn_sub [0, 1, 2, 3, 4] rfl (hx_56 (i4) σ hw (FrC.rfl.trans (FrC.sub hF (by decide))) (by omega) (by omega))
      · refine tn_aload_n dX9_scanOne_23 rfl 1 rfl ?_
        refine tn_iload dX9_scanOne_24 4 rfl ?_
        refine tn_baldX (z := i4) hw dX9_scanOne_26 h_rx1 (by omega) (by omega) (by omega) (fun v5 g6 => ?_)
        refine tn_bipush dX9_scanOne_27 (by decide) ?_
        refine tn_icmp_gt (tgt := 56) dX9_scanOne_29 (by decide) ⟨by omega, by omega⟩ ⟨by decide, by decide⟩ (fun h7 => ?_) (fun h7 => ?_)
        · exact tn_sub [0, 1, 2, 3, 4] rfl (hx_56 (i4) σ hw (FrC.rfl.trans (FrC.sub hF (by decide))) (by omega) (by omega))
        · refine tn_aload_n dX9_scanOne_32 rfl 0 rfl ?_
          refine tn_aload_n dX9_scanOne_33 rfl 0 rfl ?_
          refine tn_getI (ci := 9) (i := 5) (n := 86) (t := σ.2.1 86 a) dX9_scanOne_34 rfl lay_9 (by decide) fl9_55 h_a rfl rfl (rfl) ?_
          have g8 : ((-2147483648 : Int) ≤ σ.2.1 86 a ∧ σ.2.1 86 a ≤ 2147483647) := wf_86 hw h_a
          refine tn_iconst dX9_scanOne_37 ?_
          refine tn_ishl dX9_scanOne_38 ?_
          refine tn_anyI (fun z9 g10 => ?_)
          have g10r : -2147483648 ≤ z9 ∧ z9 ≤ 2147483647 := g10
          refine tn_aload_n dX9_scanOne_39 rfl 1 rfl ?_
          refine tn_iload dX9_scanOne_40 4 rfl ?_
          refine tn_baldX (z := i4) hw dX9_scanOne_42 h_rx1 (by omega) (by omega) (by omega) (fun v11 g12 => ?_)
          refine tn_bipush dX9_scanOne_43 (by decide) ?_
          refine tn_isub dX9_scanOne_45 ?_
          refine tn_any (fun z13 g14 => ?_)
          have g14r : -2147483648 ≤ z13 ∧ z13 ≤ 2147483647 := g14
          refine tn_ior dX9_scanOne_46 ?_
          refine tn_anyI (fun z15 g16 => ?_)
          have g16r : -2147483648 ≤ z15 ∧ z15 ≤ 2147483647 := g16
          refine tn_putV (ci := 9) (i := 5) (n := 86) (r := false) (v := z15) tyX9 tyX9_ok nmX9 dX9_scanOne_47 rfl lay_9 (by decide) fl9_55 rfl (tyX9_ok 5 (by decide)) rfl rfl rfl h_a rfl rfl ?_
          refine tn_iinc (q0 := 4) (L' := [(4, .int (iI (i4 + 1))), (0, .ref a), (1, .ref rx1), (2, .int (iI c2)), (3, .int (iI c3))]) dX9_scanOne_50 rfl (by decide) rfl ?_
          refine tn_goto (tgt := 8) dX9_scanOne_53 (by decide) ?_
          exact tn_sub [1, 2, 3, 4, 0] rfl (ih _ (by omega) (i4 + 1) (sA 86 a (z15) σ) (hw.put (by decide) (by decide) (fo_86 (by omega))) ((FrC.rfl.trans (FrC.sub hF (by decide))).put (by decide) (by decide)) (by omega) (by omega) rfl)
theorem dX9_scanOne_56 : decode cX9_scanOne 56 = .ok (.iload 4, 2) := by decide +kernel
theorem dX9_scanOne_58 : decode cX9_scanOne 58 = .ok (.iload_n 3, 1) := by decide +kernel
theorem dX9_scanOne_59 : decode cX9_scanOne 59 = .ok (.if_icmp .le 29, 3) := by decide +kernel
theorem dX9_scanOne_88 : decode cX9_scanOne 88 = .ok (.iload 4, 2) := by decide +kernel
theorem dX9_scanOne_90 : decode cX9_scanOne 90 = .ok (.iload_n 2, 1) := by decide +kernel
theorem dX9_scanOne_91 : decode cX9_scanOne 91 = .ok (.if_icmp .ge 46, 3) := by decide +kernel
theorem dX9_scanOne_94 : decode cX9_scanOne 94 = .ok (.aload_n 1, 1) := by decide +kernel
theorem dX9_scanOne_95 : decode cX9_scanOne 95 = .ok (.iload 4, 2) := by decide +kernel
theorem dX9_scanOne_97 : decode cX9_scanOne 97 = .ok (.baload, 1) := by decide +kernel
theorem dX9_scanOne_98 : decode cX9_scanOne 98 = .ok (.bipush 48, 2) := by decide +kernel
theorem dX9_scanOne_100 : decode cX9_scanOne 100 = .ok (.if_icmp .lt 37, 3) := by decide +kernel
theorem dX9_scanOne_103 : decode cX9_scanOne 103 = .ok (.aload_n 1, 1) := by decide +kernel
theorem dX9_scanOne_104 : decode cX9_scanOne 104 = .ok (.iload 4, 2) := by decide +kernel
theorem dX9_scanOne_106 : decode cX9_scanOne 106 = .ok (.baload, 1) := by decide +kernel
theorem dX9_scanOne_107 : decode cX9_scanOne 107 = .ok (.bipush 57, 2) := by decide +kernel
theorem dX9_scanOne_109 : decode cX9_scanOne 109 = .ok (.if_icmp .gt 28, 3) := by decide +kernel
theorem dX9_scanOne_112 : decode cX9_scanOne 112 = .ok (.aload_n 0, 1) := by decide +kernel
theorem dX9_scanOne_113 : decode cX9_scanOne 113 = .ok (.aload_n 0, 1) := by decide +kernel
theorem dX9_scanOne_114 : decode cX9_scanOne 114 = .ok (.getfield 55, 3) := by decide +kernel
theorem dX9_scanOne_117 : decode cX9_scanOne 117 = .ok (.bipush 10, 2) := by decide +kernel
theorem dX9_scanOne_119 : decode cX9_scanOne 119 = .ok (.imul, 1) := by decide +kernel
theorem dX9_scanOne_120 : decode cX9_scanOne 120 = .ok (.aload_n 1, 1) := by decide +kernel
theorem dX9_scanOne_121 : decode cX9_scanOne 121 = .ok (.iload 4, 2) := by decide +kernel
theorem dX9_scanOne_123 : decode cX9_scanOne 123 = .ok (.baload, 1) := by decide +kernel
theorem dX9_scanOne_124 : decode cX9_scanOne 124 = .ok (.bipush 48, 2) := by decide +kernel
theorem dX9_scanOne_126 : decode cX9_scanOne 126 = .ok (.isub, 1) := by decide +kernel
theorem dX9_scanOne_127 : decode cX9_scanOne 127 = .ok (.iadd, 1) := by decide +kernel
theorem dX9_scanOne_128 : decode cX9_scanOne 128 = .ok (.putfield 55, 3) := by decide +kernel
theorem dX9_scanOne_131 : decode cX9_scanOne 131 = .ok (.iinc 4 1, 3) := by decide +kernel
theorem dX9_scanOne_134 : decode cX9_scanOne 134 = .ok (.goto (-46), 3) := by decide +kernel
set_option maxRecDepth 20000 in
theorem l_X9_scanOne_88 (d : Nat) {T : CT} {σ0 : MS} {a : Nat} {rx1 : Nat} {c2 : Int} {c3 : Int} {post : Option Value → CT → MS → Prop} (h_a : OB T a 9) (h_rx1 : (T rx1).1 = 2) (l_rx1 : (T rx1).2 ≤ 1000000) (r_c2 : 0 ≤ c2 ∧ c2 ≤ 1200) (r_c3 : 0 ≤ c3 ∧ c3 ≤ 1200) (hw0 : WT T σ0) (ht : (T rx1).2 = 1200) (hx_137 : ∀ (i4 : Int) (σ : MS) , (WT T σ) → (FrC T [86] σ0 σ) → (0 ≤ i4 ∧ i4 ≤ 1200) → (c3 ≤ i4 ∧ i4 ≤ c2) → Tn (d + 2) m_X9_scanOne 137 T σ [(0, .ref a), (1, .ref rx1), (2, .int (iI c2)), (3, .int (iI c3)), (4, .int (iI i4))] [] post) : ∀ (n : Nat) (i4 : Int) (σ : MS) , (WT T σ) → (FrC T [86] σ0 σ) → (0 ≤ i4 ∧ i4 ≤ 1200) → (c3 ≤ i4 ∧ i4 ≤ c2) → (2147483700 - i4).toNat = n → Tn (d + 2) m_X9_scanOne 88 T σ [(0, .ref a), (1, .ref rx1), (2, .int (iI c2)), (3, .int (iI c3)), (4, .int (iI i4))] [] post := by
  intro n
  induction n using Nat.strongRecOn with
  | _ n ih =>
    intro i4 σ hw hF r_i4 h0 hm
    refine tn_iload dX9_scanOne_88 4 rfl ?_
    refine tn_iload_n dX9_scanOne_90 rfl 2 rfl ?_
    refine tn_icmp_ge (tgt := 137) dX9_scanOne_91 (by decide) ⟨by omega, by omega⟩ ⟨by omega, by omega⟩ (fun h1 => ?_) (fun h1 => ?_)
    · exact tn_sub [0, 1, 2, 3, 4] rfl (hx_137 (i4) σ hw (FrC.rfl.trans (FrC.sub hF (by decide))) (by omega) (by omega))
    · refine tn_aload_n dX9_scanOne_94 rfl 1 rfl ?_
      refine tn_iload dX9_scanOne_95 4 rfl ?_
      refine tn_baldX (z := i4) hw dX9_scanOne_97 h_rx1 (by omega) (by omega) (by omega) (fun v2 g3 => ?_)
      refine tn_bipush dX9_scanOne_98 (by decide) ?_
      refine tn_icmp_lt (tgt := 137) dX9_scanOne_100 (by decide) ⟨by omega, by omega⟩ ⟨by decide, by decide⟩ (fun h4 => ?_) (fun h4 => ?_)
      · exact tn_sub [0, 1, 2, 3, 4] rfl (hx_137 (i4) σ hw (FrC.rfl.trans (FrC.sub hF (by decide))) (by omega) (by omega))
      · refine tn_aload_n dX9_scanOne_103 rfl 1 rfl ?_
        refine tn_iload dX9_scanOne_104 4 rfl ?_
        refine tn_baldX (z := i4) hw dX9_scanOne_106 h_rx1 (by omega) (by omega) (by omega) (fun v5 g6 => ?_)
        refine tn_bipush dX9_scanOne_107 (by decide) ?_
        refine tn_icmp_gt (tgt := 137) dX9_scanOne_109 (by decide) ⟨by omega, by omega⟩ ⟨by decide, by decide⟩ (fun h7 => ?_) (fun h7 => ?_)
        · exact tn_sub [0, 1, 2, 3, 4] rfl (hx_137 (i4) σ hw (FrC.rfl.trans (FrC.sub hF (by decide))) (by omega) (by omega))
        · refine tn_aload_n dX9_scanOne_112 rfl 0 rfl ?_
          refine tn_aload_n dX9_scanOne_113 rfl 0 rfl ?_
          refine tn_getI (ci := 9) (i := 5) (n := 86) (t := σ.2.1 86 a) dX9_scanOne_114 rfl lay_9 (by decide) fl9_55 h_a rfl rfl (rfl) ?_
          have g8 : ((-2147483648 : Int) ≤ σ.2.1 86 a ∧ σ.2.1 86 a ≤ 2147483647) := wf_86 hw h_a
          refine tn_bipush dX9_scanOne_117 (by decide) ?_
          refine tn_imul dX9_scanOne_119 ?_
          refine tn_any (fun z9 g10 => ?_)
          have g10r : -2147483648 ≤ z9 ∧ z9 ≤ 2147483647 := g10
          refine tn_aload_n dX9_scanOne_120 rfl 1 rfl ?_
          refine tn_iload dX9_scanOne_121 4 rfl ?_
          refine tn_baldX (z := i4) hw dX9_scanOne_123 h_rx1 (by omega) (by omega) (by omega) (fun v11 g12 => ?_)
          refine tn_bipush dX9_scanOne_124 (by decide) ?_
          refine tn_isub dX9_scanOne_126 ?_
          refine tn_any (fun z13 g14 => ?_)
          have g14r : -2147483648 ≤ z13 ∧ z13 ≤ 2147483647 := g14
          refine tn_iadd dX9_scanOne_127 ?_
          refine tn_any (fun z15 g16 => ?_)
          have g16r : -2147483648 ≤ z15 ∧ z15 ≤ 2147483647 := g16
          refine tn_putV (ci := 9) (i := 5) (n := 86) (r := false) (v := z15) tyX9 tyX9_ok nmX9 dX9_scanOne_128 rfl lay_9 (by decide) fl9_55 rfl (tyX9_ok 5 (by decide)) rfl rfl rfl h_a rfl rfl ?_
          refine tn_iinc (q0 := 4) (L' := [(4, .int (iI (i4 + 1))), (0, .ref a), (1, .ref rx1), (2, .int (iI c2)), (3, .int (iI c3))]) dX9_scanOne_131 rfl (by decide) rfl ?_
          refine tn_goto (tgt := 88) dX9_scanOne_134 (by decide) ?_
          exact tn_sub [1, 2, 3, 4, 0] rfl (ih _ (by omega) (i4 + 1) (sA 86 a (z15) σ) (hw.put (by decide) (by decide) (fo_86 (by omega))) ((FrC.rfl.trans (FrC.sub hF (by decide))).put (by decide) (by decide)) (by omega) (by omega) rfl)
theorem ml9_62 : Cond.methodLink RX9 62 yX9_isSign ∈ pWW := pw3 (List.mem_of_getElem? (i := 45) rfl) rfl
theorem ml9_58 : Cond.methodLink RX9 58 yX9_wordKind ∈ pWW := pw3 (List.mem_of_getElem? (i := 39) rfl) rfl
theorem dX9_scanOne_137 : decode cX9_scanOne 137 = .ok (.iload 4, 2) := by decide +kernel
theorem dX9_scanOne_139 : decode cX9_scanOne 139 = .ok (.iload_n 3, 1) := by decide +kernel
theorem dX9_scanOne_140 : decode cX9_scanOne 140 = .ok (.if_icmp .le 28, 3) := by decide +kernel
theorem dX9_scanOne_168 : decode cX9_scanOne 168 = .ok (.aload_n 0, 1) := by decide +kernel
theorem dX9_scanOne_169 : decode cX9_scanOne 169 = .ok (.aload_n 1, 1) := by decide +kernel
theorem dX9_scanOne_170 : decode cX9_scanOne 170 = .ok (.iload_n 3, 1) := by decide +kernel
theorem dX9_scanOne_171 : decode cX9_scanOne 171 = .ok (.baload, 1) := by decide +kernel
theorem dX9_scanOne_172 : decode cX9_scanOne 172 = .ok (.invokestatic 62, 3) := by decide +kernel
theorem dX9_scanOne_175 : decode cX9_scanOne 175 = .ok (.ifCond .eq 9, 3) := by decide +kernel
theorem dX9_scanOne_184 : decode cX9_scanOne 184 = .ok (.sipush 263, 3) := by decide +kernel
theorem dX9_scanOne_187 : decode cX9_scanOne 187 = .ok (.putfield 30, 3) := by decide +kernel
theorem dX9_scanOne_190 : decode cX9_scanOne 190 = .ok (.iload_n 3, 1) := by decide +kernel
theorem dX9_scanOne_191 : decode cX9_scanOne 191 = .ok (.iconst 1, 1) := by decide +kernel
theorem dX9_scanOne_192 : decode cX9_scanOne 192 = .ok (.iadd, 1) := by decide +kernel
theorem dX9_scanOne_193 : decode cX9_scanOne 193 = .ok (.ireturn, 1) := by decide +kernel
theorem dX9_scanOne_178 : decode cX9_scanOne 178 = .ok (.aload_n 1, 1) := by decide +kernel
theorem dX9_scanOne_179 : decode cX9_scanOne 179 = .ok (.iload_n 3, 1) := by decide +kernel
theorem dX9_scanOne_180 : decode cX9_scanOne 180 = .ok (.baload, 1) := by decide +kernel
theorem dX9_scanOne_181 : decode cX9_scanOne 181 = .ok (.goto 6, 3) := by decide +kernel
theorem dX9_scanOne_143 : decode cX9_scanOne 143 = .ok (.aload_n 0, 1) := by decide +kernel
theorem dX9_scanOne_144 : decode cX9_scanOne 144 = .ok (.iload 4, 2) := by decide +kernel
theorem dX9_scanOne_146 : decode cX9_scanOne 146 = .ok (.iload_n 3, 1) := by decide +kernel
theorem dX9_scanOne_147 : decode cX9_scanOne 147 = .ok (.isub, 1) := by decide +kernel
theorem dX9_scanOne_148 : decode cX9_scanOne 148 = .ok (.bipush 7, 2) := by decide +kernel
theorem dX9_scanOne_150 : decode cX9_scanOne 150 = .ok (.if_icmp .le 9, 3) := by decide +kernel
theorem dX9_scanOne_159 : decode cX9_scanOne 159 = .ok (.sipush 257, 3) := by decide +kernel
theorem dX9_scanOne_162 : decode cX9_scanOne 162 = .ok (.putfield 30, 3) := by decide +kernel
theorem dX9_scanOne_165 : decode cX9_scanOne 165 = .ok (.iload 4, 2) := by decide +kernel
theorem dX9_scanOne_167 : decode cX9_scanOne 167 = .ok (.ireturn, 1) := by decide +kernel
theorem dX9_scanOne_153 : decode cX9_scanOne 153 = .ok (.sipush 263, 3) := by decide +kernel
theorem dX9_scanOne_156 : decode cX9_scanOne 156 = .ok (.goto 6, 3) := by decide +kernel
theorem dX9_scanOne_62 : decode cX9_scanOne 62 = .ok (.aload_n 0, 1) := by decide +kernel
theorem dX9_scanOne_63 : decode cX9_scanOne 63 = .ok (.iload 4, 2) := by decide +kernel
theorem dX9_scanOne_65 : decode cX9_scanOne 65 = .ok (.iload_n 3, 1) := by decide +kernel
theorem dX9_scanOne_66 : decode cX9_scanOne 66 = .ok (.isub, 1) := by decide +kernel
theorem dX9_scanOne_67 : decode cX9_scanOne 67 = .ok (.bipush 6, 2) := by decide +kernel
theorem dX9_scanOne_69 : decode cX9_scanOne 69 = .ok (.if_icmp .le 9, 3) := by decide +kernel
theorem dX9_scanOne_78 : decode cX9_scanOne 78 = .ok (.aload_n 0, 1) := by decide +kernel
theorem dX9_scanOne_79 : decode cX9_scanOne 79 = .ok (.invokevirtual 58, 3) := by decide +kernel
theorem dX9_scanOne_82 : decode cX9_scanOne 82 = .ok (.putfield 30, 3) := by decide +kernel
theorem dX9_scanOne_85 : decode cX9_scanOne 85 = .ok (.iload 4, 2) := by decide +kernel
theorem dX9_scanOne_87 : decode cX9_scanOne 87 = .ok (.ireturn, 1) := by decide +kernel
theorem dX9_scanOne_72 : decode cX9_scanOne 72 = .ok (.sipush 263, 3) := by decide +kernel
theorem dX9_scanOne_75 : decode cX9_scanOne 75 = .ok (.goto 7, 3) := by decide +kernel
set_option maxRecDepth 20000 in
theorem k_X9_scanOne (d : Nat) {T : CT} {σ : MS} {a : Nat} {t : Nat} {l : Int} {i : Int} (ha : OB T a 9) (h_t : (T t).1 = 2) (l_t : (T t).2 ≤ 1000000) (h_l : -2147483648 ≤ l ∧ l ≤ 2147483647) (h_i : -2147483648 ≤ i ∧ i ≤ 2147483647) (hw : WT T σ) (hi : 0 ≤ i ∧ i < l ∧ l ≤ 1200) (ht : (T t).2 = 1200) : Tn (d + 2) m_X9_scanOne 0 T σ [(0, .ref a), (1, .ref t), (2, .int (iI l)), (3, .int (iI i))] [] (fun ro T2 σ2 => ∃ v : Int, ro = some (.int (iI v)) ∧ T = T2 ∧ WT T2 σ2 ∧ FrC T [85, 86] σ σ2 ∧ (-2147483648 ≤ v ∧ v ≤ 2147483647) ∧ (i < v ∧ v ≤ l)) := by
  refine tn_iload_n dX9_scanOne_0 rfl 3 rfl ?_
  refine tn_istore (L' := [(4, .int (iI i)), (0, .ref a), (1, .ref t), (2, .int (iI l)), (3, .int (iI i))]) dX9_scanOne_1 (by decide) rfl ?_
  refine tn_aload_n dX9_scanOne_3 rfl 1 rfl ?_
  refine tn_iconst dX9_scanOne_4 ?_
  refine tn_putV (ci := 9) (i := 5) (n := 86) (r := false) (v := 0) tyX9 tyX9_ok nmX9 dX9_scanOne_5 rfl lay_9 (by decide) fl9_55 rfl (tyX9_ok 5 (by decide)) rfl rfl rfl ha rfl rfl ?_
  refine tn_sub [1, 2, 3, 4, 0] rfl (l_X9_scanOne_8 (d) (T := T) (σ0 := (sA 86 a (0) σ)) (a := a) (rx1 := t) (c2 := l) (c3 := i) ha h_t (by omega) (by omega) (by omega) (hw.put (by decide) (by decide) (fo_86 (by omega))) (by omega) (fun i41 σ2 w5 F6 r7 f8 => ?_) _ (i) (sA 86 a (0) σ) (hw.put (by decide) (by decide) (fo_86 (by omega))) FrC.rfl (by omega) (by omega) rfl)
  show Tn _ _ 56 T σ2 [(0, .ref a), (1, .ref t), (2, .int (iI l)), (3, .int (iI i)), (4, .int (iI i41))] [] _
  refine tn_iload dX9_scanOne_56 4 rfl ?_
  refine tn_iload_n dX9_scanOne_58 rfl 3 rfl ?_
  refine tn_icmp_le (tgt := 88) dX9_scanOne_59 (by decide) ⟨by omega, by omega⟩ ⟨by omega, by omega⟩ (fun h9 => ?_) (fun h9 => ?_)
  · refine tn_sub [0, 1, 2, 3, 4] rfl (l_X9_scanOne_88 (d) (T := T) (σ0 := σ2) (a := a) (rx1 := t) (c2 := l) (c3 := i) ha h_t (by omega) (by omega) (by omega) w5 (by omega) (fun i410 σ11 w14 F15 r16 f17 => ?_) _ (i41) σ2 w5 FrC.rfl (by omega) (by omega) rfl)
    show Tn _ _ 137 T σ11 [(0, .ref a), (1, .ref t), (2, .int (iI l)), (3, .int (iI i)), (4, .int (iI i410))] [] _
    refine tn_iload dX9_scanOne_137 4 rfl ?_
    refine tn_iload_n dX9_scanOne_139 rfl 3 rfl ?_
    refine tn_icmp_le (tgt := 168) dX9_scanOne_140 (by decide) ⟨by omega, by omega⟩ ⟨by omega, by omega⟩ (fun h18 => ?_) (fun h18 => ?_)
    · refine tn_aload_n dX9_scanOne_168 rfl 0 rfl ?_
      refine tn_aload_n dX9_scanOne_169 rfl 1 rfl ?_
      refine tn_iload_n dX9_scanOne_170 rfl 3 rfl ?_
      refine tn_baldX (z := i) w14 dX9_scanOne_171 h_t (by omega) (by omega) (by omega) (fun v19 g20 => ?_)
      refine tn_callS (M := m_X9_scanOne) (pc := 172) (ix := 62) (M' := m_X9_isSign) (As := [.int (iI v19)]) (rest := [.ref a]) dX9_scanOne_172 ok_X9_isSign stt_X9_isSign ml9_62 np_X9_isSign rfl (Nat.le_of_ble_eq_true rfl) (Nat.le_of_ble_eq_true rfl) rfl (k_X9_isSign (d) (T := T) (σ := σ11) (p1 := v19) (by omega) w14 ) (fun r21 T23 σ22 gt24 hp => ?_)
      obtain ⟨v26, rfl, rfl, rfl, f25⟩ := hp
      clear gt24
      show Tn _ _ 175 T σ11 [(0, .ref a), (1, .ref t), (2, .int (iI l)), (3, .int (iI i)), (4, .int (iI i410))] [.int (iI v26), .ref a] _
      refine tn_if_eq (tgt := 184) dX9_scanOne_175 (by decide) ⟨by omega, by omega⟩ (fun h27 => ?_) (fun h27 => ?_)
      · refine tn_sipush dX9_scanOne_184 (by decide) ?_
        refine tn_putV (ci := 9) (i := 4) (n := 85) (r := false) (v := 263) tyX9 tyX9_ok nmX9 dX9_scanOne_187 rfl lay_9 (by decide) fl9_30 rfl (tyX9_ok 4 (by decide)) rfl rfl rfl ha rfl rfl ?_
        refine tn_iload_n dX9_scanOne_190 rfl 3 rfl ?_
        refine tn_iconst dX9_scanOne_191 ?_
        refine tn_iadd dX9_scanOne_192 ?_
        exact tn_iret rfl dX9_scanOne_193 ⟨_, rfl, rfl, (w14.put (by decide) (by decide) (fo_85 (by omega))), ((((FrC.rfl.put (by decide) (by decide)).trans (FrC.sub F6 (by decide))).trans (FrC.sub F15 (by decide))).put (by decide) (by decide)), by omega, by omega⟩
      · refine tn_aload_n dX9_scanOne_178 rfl 1 rfl ?_
        refine tn_iload_n dX9_scanOne_179 rfl 3 rfl ?_
        refine tn_baldX (z := i) w14 dX9_scanOne_180 h_t (by omega) (by omega) (by omega) (fun v28 g29 => ?_)
        refine tn_goto (tgt := 187) dX9_scanOne_181 (by decide) ?_
        refine tn_putV (ci := 9) (i := 4) (n := 85) (r := false) (v := v28) tyX9 tyX9_ok nmX9 dX9_scanOne_187 rfl lay_9 (by decide) fl9_30 rfl (tyX9_ok 4 (by decide)) rfl rfl rfl ha rfl rfl ?_
        refine tn_iload_n dX9_scanOne_190 rfl 3 rfl ?_
        refine tn_iconst dX9_scanOne_191 ?_
        refine tn_iadd dX9_scanOne_192 ?_
        exact tn_iret rfl dX9_scanOne_193 ⟨_, rfl, rfl, (w14.put (by decide) (by decide) (fo_85 (by omega))), ((((FrC.rfl.put (by decide) (by decide)).trans (FrC.sub F6 (by decide))).trans (FrC.sub F15 (by decide))).put (by decide) (by decide)), by omega, by omega⟩
    · refine tn_aload_n dX9_scanOne_143 rfl 0 rfl ?_
      refine tn_iload dX9_scanOne_144 4 rfl ?_
      refine tn_iload_n dX9_scanOne_146 rfl 3 rfl ?_
      refine tn_isub dX9_scanOne_147 ?_
      refine tn_bipush dX9_scanOne_148 (by decide) ?_
      refine tn_icmp_le (tgt := 159) dX9_scanOne_150 (by decide) ⟨by omega, by omega⟩ ⟨by decide, by decide⟩ (fun h30 => ?_) (fun h30 => ?_)
      · refine tn_sipush dX9_scanOne_159 (by decide) ?_
        refine tn_putV (ci := 9) (i := 4) (n := 85) (r := false) (v := 257) tyX9 tyX9_ok nmX9 dX9_scanOne_162 rfl lay_9 (by decide) fl9_30 rfl (tyX9_ok 4 (by decide)) rfl rfl rfl ha rfl rfl ?_
        refine tn_iload dX9_scanOne_165 4 rfl ?_
        exact tn_iret rfl dX9_scanOne_167 ⟨_, rfl, rfl, (w14.put (by decide) (by decide) (fo_85 (by omega))), ((((FrC.rfl.put (by decide) (by decide)).trans (FrC.sub F6 (by decide))).trans (FrC.sub F15 (by decide))).put (by decide) (by decide)), by omega, by omega⟩
      · refine tn_sipush dX9_scanOne_153 (by decide) ?_
        refine tn_goto (tgt := 162) dX9_scanOne_156 (by decide) ?_
        refine tn_putV (ci := 9) (i := 4) (n := 85) (r := false) (v := 263) tyX9 tyX9_ok nmX9 dX9_scanOne_162 rfl lay_9 (by decide) fl9_30 rfl (tyX9_ok 4 (by decide)) rfl rfl rfl ha rfl rfl ?_
        refine tn_iload dX9_scanOne_165 4 rfl ?_
        exact tn_iret rfl dX9_scanOne_167 ⟨_, rfl, rfl, (w14.put (by decide) (by decide) (fo_85 (by omega))), ((((FrC.rfl.put (by decide) (by decide)).trans (FrC.sub F6 (by decide))).trans (FrC.sub F15 (by decide))).put (by decide) (by decide)), by omega, by omega⟩
  · refine tn_aload_n dX9_scanOne_62 rfl 0 rfl ?_
    refine tn_iload dX9_scanOne_63 4 rfl ?_
    refine tn_iload_n dX9_scanOne_65 rfl 3 rfl ?_
    refine tn_isub dX9_scanOne_66 ?_
    refine tn_bipush dX9_scanOne_67 (by decide) ?_
    refine tn_icmp_le (tgt := 78) dX9_scanOne_69 (by decide) ⟨by omega, by omega⟩ ⟨by decide, by decide⟩ (fun h31 => ?_) (fun h31 => ?_)
    · refine tn_aload_n dX9_scanOne_78 rfl 0 rfl ?_
      refine tn_callV (M := m_X9_scanOne) (pc := 79) (ix := 58) (ci := 9) (M' := m_X9_wordKind) (As := []) (rest := [.ref a]) dX9_scanOne_79 ok_X9_wordKind im_X9_wordKind se_X9_wordKind ml9_58 np_X9_wordKind rfl rfl ha rfl (Nat.le_of_ble_eq_true rfl) (Nat.le_of_ble_eq_true rfl) rfl (k_X9_wordKind (d) (T := T) (σ := σ2) (a := a) ha w5 ) (fun r32 T34 σ33 gt35 hp => ?_)
      obtain ⟨v37, rfl, rfl, rfl, f36⟩ := hp
      clear gt35
      show Tn _ _ 82 T σ2 [(0, .ref a), (1, .ref t), (2, .int (iI l)), (3, .int (iI i)), (4, .int (iI i41))] [.int (iI v37), .ref a] _
      refine tn_putV (ci := 9) (i := 4) (n := 85) (r := false) (v := v37) tyX9 tyX9_ok nmX9 dX9_scanOne_82 rfl lay_9 (by decide) fl9_30 rfl (tyX9_ok 4 (by decide)) rfl rfl rfl ha rfl rfl ?_
      refine tn_iload dX9_scanOne_85 4 rfl ?_
      exact tn_iret rfl dX9_scanOne_87 ⟨_, rfl, rfl, (w5.put (by decide) (by decide) (fo_85 (by omega))), (((FrC.rfl.put (by decide) (by decide)).trans (FrC.sub F6 (by decide))).put (by decide) (by decide)), by omega, by omega⟩
    · refine tn_sipush dX9_scanOne_72 (by decide) ?_
      refine tn_goto (tgt := 82) dX9_scanOne_75 (by decide) ?_
      refine tn_putV (ci := 9) (i := 4) (n := 85) (r := false) (v := 263) tyX9 tyX9_ok nmX9 dX9_scanOne_82 rfl lay_9 (by decide) fl9_30 rfl (tyX9_ok 4 (by decide)) rfl rfl rfl ha rfl rfl ?_
      refine tn_iload dX9_scanOne_85 4 rfl ?_
      exact tn_iret rfl dX9_scanOne_87 ⟨_, rfl, rfl, (w5.put (by decide) (by decide) (fo_85 (by omega))), (((FrC.rfl.put (by decide) (by decide)).trans (FrC.sub F6 (by decide))).put (by decide) (by decide)), by omega, by omega⟩
end
section
theorem cd_X9_scan : Cond.code yX9_scan cX9_scan 6 none ∈ pWW := pw3 (List.mem_of_getElem? (i := 28) rfl) rfl
abbrev m_X9_scan : MT := (yX9_scan, cX9_scan, 6, none)
theorem ok_X9_scan : pOk m_X9_scan := ⟨⟨cd_X9_scan, ini_9⟩, by decide +kernel, ⟨by decide +kernel, by decide +kernel⟩, Nat.le_of_ble_eq_true rfl⟩
theorem np_X9_scan : (parseMethodDescriptor yX9_scan.desc).map (fun d => d.parameters.length) = some 2 := by decide +kernel
theorem im_X9_scan : Cond.instanceMethod yX9_scan ∈ pWW := pw3 (List.mem_of_getElem? (i := 26) rfl) rfl
theorem se_X9_scan : Cond.selects RX9 yX9_scan yX9_scan ∈ pWW := pw3 (List.mem_of_getElem? (i := 27) rfl) rfl
theorem mlm9_21 : Cond.methodLink RX9 21 Lib.Math.min.name ∈ pWW := pw3 (List.mem_of_getElem? (i := 29) rfl) rfl
theorem mlm9_27 : Cond.methodLink RX9 27 Lib.Math.max.name ∈ pWW := pw3 (List.mem_of_getElem? (i := 32) rfl) rfl
theorem ml9_37 : Cond.methodLink RX9 37 yX9_scanOne ∈ pWW := pw3 (List.mem_of_getElem? (i := 35) rfl) rfl
theorem ml9_41 : Cond.methodLink RX9 41 yX9_keep ∈ pWW := pw3 (List.mem_of_getElem? (i := 50) rfl) rfl
theorem dX9_scan_0 : decode cX9_scan 0 = .ok (.iconst 0, 1) := by decide +kernel
theorem dX9_scan_1 : decode cX9_scan 1 = .ok (.iload_n 2, 1) := by decide +kernel
theorem dX9_scan_2 : decode cX9_scan 2 = .ok (.aload_n 1, 1) := by decide +kernel
theorem dX9_scan_3 : decode cX9_scan 3 = .ok (.arraylength, 1) := by decide +kernel
theorem dX9_scan_4 : decode cX9_scan 4 = .ok (.invokestatic 21, 3) := by decide +kernel
theorem dX9_scan_7 : decode cX9_scan 7 = .ok (.invokestatic 27, 3) := by decide +kernel
theorem dX9_scan_10 : decode cX9_scan 10 = .ok (.istore_n 3, 1) := by decide +kernel
theorem dX9_scan_11 : decode cX9_scan 11 = .ok (.iconst 0, 1) := by decide +kernel
theorem dX9_scan_12 : decode cX9_scan 12 = .ok (.istore 4, 2) := by decide +kernel
theorem dX9_scan_14 : decode cX9_scan 14 = .ok (.iconst 0, 1) := by decide +kernel
theorem dX9_scan_15 : decode cX9_scan 15 = .ok (.istore 5, 2) := by decide +kernel
theorem dX9_scan_17 : decode cX9_scan 17 = .ok (.aload_n 0, 1) := by decide +kernel
theorem dX9_scan_18 : decode cX9_scan 18 = .ok (.sipush 264, 3) := by decide +kernel
theorem dX9_scan_21 : decode cX9_scan 21 = .ok (.putfield 30, 3) := by decide +kernel
theorem dX9_scan_24 : decode cX9_scan 24 = .ok (.iload 5, 2) := by decide +kernel
theorem dX9_scan_26 : decode cX9_scan 26 = .ok (.iload_n 3, 1) := by decide +kernel
theorem dX9_scan_27 : decode cX9_scan 27 = .ok (.if_icmp .ge 65, 3) := by decide +kernel
theorem dX9_scan_30 : decode cX9_scan 30 = .ok (.aload_n 0, 1) := by decide +kernel
theorem dX9_scan_31 : decode cX9_scan 31 = .ok (.getfield 30, 3) := by decide +kernel
theorem dX9_scan_34 : decode cX9_scan 34 = .ok (.sipush 263, 3) := by decide +kernel
theorem dX9_scan_37 : decode cX9_scan 37 = .ok (.if_icmp .eq 55, 3) := by decide +kernel
theorem dX9_scan_40 : decode cX9_scan 40 = .ok (.aload_n 1, 1) := by decide +kernel
theorem dX9_scan_41 : decode cX9_scan 41 = .ok (.iload 5, 2) := by decide +kernel
theorem dX9_scan_43 : decode cX9_scan 43 = .ok (.baload, 1) := by decide +kernel
theorem dX9_scan_44 : decode cX9_scan 44 = .ok (.bipush 32, 2) := by decide +kernel
theorem dX9_scan_46 : decode cX9_scan 46 = .ok (.if_icmp .eq 12, 3) := by decide +kernel
theorem dX9_scan_58 : decode cX9_scan 58 = .ok (.iinc 5 1, 3) := by decide +kernel
theorem dX9_scan_61 : decode cX9_scan 61 = .ok (.goto (-37), 3) := by decide +kernel
theorem dX9_scan_49 : decode cX9_scan 49 = .ok (.aload_n 1, 1) := by decide +kernel
theorem dX9_scan_50 : decode cX9_scan 50 = .ok (.iload 5, 2) := by decide +kernel
theorem dX9_scan_52 : decode cX9_scan 52 = .ok (.baload, 1) := by decide +kernel
theorem dX9_scan_53 : decode cX9_scan 53 = .ok (.bipush 10, 2) := by decide +kernel
theorem dX9_scan_55 : decode cX9_scan 55 = .ok (.if_icmp .ne 9, 3) := by decide +kernel
theorem dX9_scan_64 : decode cX9_scan 64 = .ok (.aload_n 0, 1) := by decide +kernel
theorem dX9_scan_65 : decode cX9_scan 65 = .ok (.iload 5, 2) := by decide +kernel
theorem dX9_scan_67 : decode cX9_scan 67 = .ok (.putfield 34, 3) := by decide +kernel
theorem dX9_scan_70 : decode cX9_scan 70 = .ok (.aload_n 0, 1) := by decide +kernel
theorem dX9_scan_71 : decode cX9_scan 71 = .ok (.aload_n 1, 1) := by decide +kernel
theorem dX9_scan_72 : decode cX9_scan 72 = .ok (.iload_n 3, 1) := by decide +kernel
theorem dX9_scan_73 : decode cX9_scan 73 = .ok (.iload 5, 2) := by decide +kernel
theorem dX9_scan_75 : decode cX9_scan 75 = .ok (.invokevirtual 37, 3) := by decide +kernel
theorem dX9_scan_78 : decode cX9_scan 78 = .ok (.istore 5, 2) := by decide +kernel
theorem dX9_scan_80 : decode cX9_scan 80 = .ok (.aload_n 0, 1) := by decide +kernel
theorem dX9_scan_81 : decode cX9_scan 81 = .ok (.iload 4, 2) := by decide +kernel
theorem dX9_scan_83 : decode cX9_scan 83 = .ok (.invokevirtual 41, 3) := by decide +kernel
theorem dX9_scan_86 : decode cX9_scan 86 = .ok (.iinc 4 1, 3) := by decide +kernel
theorem dX9_scan_89 : decode cX9_scan 89 = .ok (.goto (-65), 3) := by decide +kernel
set_option maxRecDepth 20000 in
theorem l_X9_scan_24 (d : Nat) {T : CT} {σ0 : MS} {a : Nat} {rx1 : Nat} {c3 : Int} {post : Option Value → CT → MS → Prop} (h_a : OB T a 9) (h_rx1 : (T rx1).1 = 2) (l_rx1 : (T rx1).2 ≤ 1000000) (r_c3 : 0 ≤ c3 ∧ c3 ≤ 1200) (hw0 : WT T σ0) (ht : (T rx1).2 = 1200) (hx_92 : ∀ (i4 : Int) (i5 : Int) (σ : MS) , (WT T σ) → (FrC T [85, 86, 87, 512, 522, 523] σ0 σ) → (0 ≤ i4 ∧ i4 ≤ 1200) → (0 ≤ i5 ∧ i5 ≤ 1200) → (i4 ≤ i5 ∧ i5 ≤ c3) → Tn (d + 3) m_X9_scan 92 T σ [(0, .ref a), (1, .ref rx1), (3, .int (iI c3)), (4, .int (iI i4)), (5, .int (iI i5))] [] post) : ∀ (n : Nat) (i4 : Int) (i5 : Int) (σ : MS) , (WT T σ) → (FrC T [85, 86, 87, 512, 522, 523] σ0 σ) → (0 ≤ i4 ∧ i4 ≤ 1200) → (0 ≤ i5 ∧ i5 ≤ 1200) → (i4 ≤ i5 ∧ i5 ≤ c3) → (2000 - i5).toNat = n → Tn (d + 3) m_X9_scan 24 T σ [(0, .ref a), (1, .ref rx1), (3, .int (iI c3)), (4, .int (iI i4)), (5, .int (iI i5))] [] post := by
  intro n
  induction n using Nat.strongRecOn with
  | _ n ih =>
    intro i4 i5 σ hw hF r_i4 r_i5 h0 hm
    refine tn_iload dX9_scan_24 4 rfl ?_
    refine tn_iload_n dX9_scan_26 rfl 2 rfl ?_
    refine tn_icmp_ge (tgt := 92) dX9_scan_27 (by decide) ⟨by omega, by omega⟩ ⟨by omega, by omega⟩ (fun h1 => ?_) (fun h1 => ?_)
    · exact tn_sub [0, 1, 2, 3, 4] rfl (hx_92 (i4) (i5) σ hw (FrC.rfl.trans (FrC.sub hF (by decide))) (by omega) (by omega) (by omega))
    · refine tn_aload_n dX9_scan_30 rfl 0 rfl ?_
      refine tn_getI (ci := 9) (i := 4) (n := 85) (t := σ.2.1 85 a) dX9_scan_31 rfl lay_9 (by decide) fl9_30 h_a rfl rfl (rfl) ?_
      have g2 : ((-2147483648 : Int) ≤ σ.2.1 85 a ∧ σ.2.1 85 a ≤ 2147483647) := wf_85 hw h_a
      refine tn_sipush dX9_scan_34 (by decide) ?_
      refine tn_icmp_eq (tgt := 92) dX9_scan_37 (by decide) ⟨by omega, by omega⟩ ⟨by decide, by decide⟩ (fun h3 => ?_) (fun h3 => ?_)
      · exact tn_sub [0, 1, 2, 3, 4] rfl (hx_92 (i4) (i5) σ hw (FrC.rfl.trans (FrC.sub hF (by decide))) (by omega) (by omega) (by omega))
      · refine tn_aload_n dX9_scan_40 rfl 1 rfl ?_
        refine tn_iload dX9_scan_41 4 rfl ?_
        refine tn_baldX (z := i5) hw dX9_scan_43 h_rx1 (by omega) (by omega) (by omega) (fun v4 g5 => ?_)
        refine tn_bipush dX9_scan_44 (by decide) ?_
        refine tn_icmp_eq (tgt := 58) dX9_scan_46 (by decide) ⟨by omega, by omega⟩ ⟨by decide, by decide⟩ (fun h6 => ?_) (fun h6 => ?_)
        · refine tn_iinc (q0 := 4) (L' := [(5, .int (iI (i5 + 1))), (0, .ref a), (1, .ref rx1), (3, .int (iI c3)), (4, .int (iI i4))]) dX9_scan_58 rfl (by decide) rfl ?_
          refine tn_goto (tgt := 24) dX9_scan_61 (by decide) ?_
          exact tn_sub [1, 2, 3, 4, 0] rfl (ih _ (by omega) (i4) (i5 + 1) σ hw (FrC.rfl.trans (FrC.sub hF (by decide))) (by omega) (by omega) (by omega) rfl)
        · refine tn_aload_n dX9_scan_49 rfl 1 rfl ?_
          refine tn_iload dX9_scan_50 4 rfl ?_
          refine tn_baldX (z := i5) hw dX9_scan_52 h_rx1 (by omega) (by omega) (by omega) (fun v7 g8 => ?_)
          refine tn_bipush dX9_scan_53 (by decide) ?_
          refine tn_icmp_ne (tgt := 64) dX9_scan_55 (by decide) ⟨by omega, by omega⟩ ⟨by decide, by decide⟩ (fun h9 => ?_) (fun h9 => ?_)
          · refine tn_aload_n dX9_scan_64 rfl 0 rfl ?_
            refine tn_iload dX9_scan_65 4 rfl ?_
            refine tn_putV (ci := 9) (i := 6) (n := 87) (r := false) (v := i5) tyX9 tyX9_ok nmX9 dX9_scan_67 rfl lay_9 (by decide) fl9_34 rfl (tyX9_ok 6 (by decide)) rfl rfl rfl h_a rfl rfl ?_
            refine tn_aload_n dX9_scan_70 rfl 0 rfl ?_
            refine tn_aload_n dX9_scan_71 rfl 1 rfl ?_
            refine tn_iload_n dX9_scan_72 rfl 2 rfl ?_
            refine tn_iload dX9_scan_73 4 rfl ?_
            refine tn_callV (M := m_X9_scan) (pc := 75) (ix := 37) (ci := 9) (M' := m_X9_scanOne) (As := [.ref rx1, .int (iI c3), .int (iI i5)]) (rest := []) dX9_scan_75 ok_X9_scanOne im_X9_scanOne se_X9_scanOne ml9_37 np_X9_scanOne rfl rfl h_a rfl (Nat.le_of_ble_eq_true rfl) (Nat.le_of_ble_eq_true rfl) rfl (k_X9_scanOne (d) (T := T) (σ := (sA 87 a (i5) σ)) (a := a) (t := rx1) (l := c3) (i := i5) h_a h_rx1 (by omega) (by omega) (by omega) (hw.put (by decide) (by decide) (fo_87 (by omega))) (by omega) (by omega)) (fun r10 T12 σ11 gt13 hp => ?_)
            obtain ⟨v16, rfl, rfl, w17, F18, f14, f15⟩ := hp
            clear gt13
            show Tn _ _ 78 T σ11 [(0, .ref a), (1, .ref rx1), (3, .int (iI c3)), (4, .int (iI i4)), (5, .int (iI i5))] [.int (iI v16)] _
            refine tn_istore (L' := [(5, .int (iI v16)), (0, .ref a), (1, .ref rx1), (3, .int (iI c3)), (4, .int (iI i4))]) dX9_scan_78 (by decide) rfl ?_
            refine tn_aload_n dX9_scan_80 rfl 1 rfl ?_
            refine tn_iload dX9_scan_81 4 rfl ?_
            refine tn_callV (M := m_X9_scan) (pc := 83) (ix := 41) (ci := 9) (M' := m_X9_keep) (As := [.int (iI i4)]) (rest := []) dX9_scan_83 ok_X9_keep im_X9_keep se_X9_keep ml9_41 np_X9_keep rfl rfl h_a rfl (Nat.le_of_ble_eq_true rfl) (Nat.le_of_ble_eq_true rfl) rfl (k_X9_keep (d) (T := T) (σ := σ11) (a := a) (n := i4) h_a (by omega) w17 (by omega)) (fun r19 T21 σ20 gt22 hp => ?_)
            obtain ⟨rfl, rfl, w24, F25⟩ := hp
            clear gt22
            show Tn _ _ 86 T σ20 [(5, .int (iI v16)), (0, .ref a), (1, .ref rx1), (3, .int (iI c3)), (4, .int (iI i4))] [] _
            refine tn_iinc (q0 := 4) (L' := [(4, .int (iI (i4 + 1))), (5, .int (iI v16)), (0, .ref a), (1, .ref rx1), (3, .int (iI c3))]) dX9_scan_86 rfl (by decide) rfl ?_
            refine tn_goto (tgt := 24) dX9_scan_89 (by decide) ?_
            exact tn_sub [2, 3, 4, 0, 1] rfl (ih _ (by omega) (i4 + 1) (v16) σ20 w24 ((((FrC.rfl.trans (FrC.sub hF (by decide))).put (by decide) (by decide)).trans (FrC.sub F18 (by decide))).trans (FrC.sub F25 (by decide))) (by omega) (by omega) (by omega) rfl)
          · refine tn_iinc (q0 := 4) (L' := [(5, .int (iI (i5 + 1))), (0, .ref a), (1, .ref rx1), (3, .int (iI c3)), (4, .int (iI i4))]) dX9_scan_58 rfl (by decide) rfl ?_
            refine tn_goto (tgt := 24) dX9_scan_61 (by decide) ?_
            exact tn_sub [1, 2, 3, 4, 0] rfl (ih _ (by omega) (i4) (i5 + 1) σ hw (FrC.rfl.trans (FrC.sub hF (by decide))) (by omega) (by omega) (by omega) rfl)
theorem ml9_48 : Cond.methodLink RX9 48 yX9_next ∈ pWW := pw3 (List.mem_of_getElem? (i := 57) rfl) rfl
theorem dX9_scan_92 : decode cX9_scan 92 = .ok (.aload_n 0, 1) := by decide +kernel
theorem dX9_scan_93 : decode cX9_scan 93 = .ok (.getfield 30, 3) := by decide +kernel
theorem dX9_scan_96 : decode cX9_scan 96 = .ok (.sipush 263, 3) := by decide +kernel
theorem dX9_scan_99 : decode cX9_scan 99 = .ok (.if_icmp .eq 21, 3) := by decide +kernel
theorem dX9_scan_120 : decode cX9_scan 120 = .ok (.aload_n 0, 1) := by decide +kernel
theorem dX9_scan_121 : decode cX9_scan 121 = .ok (.iconst (-1), 1) := by decide +kernel
theorem dX9_scan_122 : decode cX9_scan 122 = .ok (.putfield 45, 3) := by decide +kernel
theorem dX9_scan_125 : decode cX9_scan 125 = .ok (.aload_n 0, 1) := by decide +kernel
theorem dX9_scan_126 : decode cX9_scan 126 = .ok (.invokevirtual 48, 3) := by decide +kernel
theorem dX9_scan_129 : decode cX9_scan 129 = .ok (.return_, 1) := by decide +kernel
theorem dX9_scan_102 : decode cX9_scan 102 = .ok (.aload_n 0, 1) := by decide +kernel
theorem dX9_scan_103 : decode cX9_scan 103 = .ok (.sipush 264, 3) := by decide +kernel
theorem dX9_scan_106 : decode cX9_scan 106 = .ok (.putfield 30, 3) := by decide +kernel
theorem dX9_scan_109 : decode cX9_scan 109 = .ok (.aload_n 0, 1) := by decide +kernel
theorem dX9_scan_110 : decode cX9_scan 110 = .ok (.iload_n 3, 1) := by decide +kernel
theorem dX9_scan_111 : decode cX9_scan 111 = .ok (.putfield 34, 3) := by decide +kernel
theorem dX9_scan_114 : decode cX9_scan 114 = .ok (.aload_n 0, 1) := by decide +kernel
theorem dX9_scan_115 : decode cX9_scan 115 = .ok (.iload 4, 2) := by decide +kernel
theorem dX9_scan_117 : decode cX9_scan 117 = .ok (.invokevirtual 41, 3) := by decide +kernel
set_option maxRecDepth 20000 in
theorem k_X9_scan (d : Nat) {T : CT} {σ : MS} {a : Nat} {t : Nat} {n : Int} (ha : OB T a 9) (h_t : (T t).1 = 2) (l_t : (T t).2 ≤ 1000000) (h_n : -2147483648 ≤ n ∧ n ≤ 2147483647) (hw : WT T σ) (ht : (T t).2 = 1200) : Tn (d + 3) m_X9_scan 0 T σ [(0, .ref a), (1, .ref t), (2, .int (iI n))] [] (fun ro T2 σ2 => ro = none ∧ T = T2 ∧ WT T2 σ2 ∧ FrC T [84, 85, 86, 87, 512, 522, 523] σ σ2 ∧ (TKI σ2 a)) := by
  refine tn_iconst dX9_scan_0 ?_
  refine tn_iload_n dX9_scan_1 rfl 2 rfl ?_
  refine tn_aload_n dX9_scan_2 rfl 1 rfl ?_
  refine tn_alenX dX9_scan_3 (Or.inr (Or.inl h_t)) ?_
  refine tn_mmin (x := n) (y := ((T t).2 : Int)) dX9_scan_4 mlm9_21 stM_min iniM cdM_min (by omega) (Nat.le_of_ble_eq_true rfl) ⟨by omega, by omega⟩ ⟨by omega, by omega⟩ (fun z1 g2 => ?_)
  refine tn_mmax (x := 0) (y := z1) dX9_scan_7 mlm9_27 stM_max iniM cdM_max (by omega) (Nat.le_of_ble_eq_true rfl) ⟨by omega, by omega⟩ ⟨by omega, by omega⟩ (fun z3 g4 => ?_)
  refine tn_istore_n (L' := [(3, .int (iI z3)), (0, .ref a), (1, .ref t), (2, .int (iI n))]) dX9_scan_10 rfl (by decide) rfl ?_
  refine tn_iconst dX9_scan_11 ?_
  refine tn_istore (L' := [(4, .int (iI 0)), (3, .int (iI z3)), (0, .ref a), (1, .ref t), (2, .int (iI n))]) dX9_scan_12 (by decide) rfl ?_
  refine tn_iconst dX9_scan_14 ?_
  refine tn_istore (L' := [(5, .int (iI 0)), (4, .int (iI 0)), (3, .int (iI z3)), (0, .ref a), (1, .ref t), (2, .int (iI n))]) dX9_scan_15 (by decide) rfl ?_
  refine tn_aload_n dX9_scan_17 rfl 3 rfl ?_
  refine tn_sipush dX9_scan_18 (by decide) ?_
  refine tn_putV (ci := 9) (i := 4) (n := 85) (r := false) (v := 264) tyX9 tyX9_ok nmX9 dX9_scan_21 rfl lay_9 (by decide) fl9_30 rfl (tyX9_ok 4 (by decide)) rfl rfl rfl ha rfl rfl ?_
  refine tn_sub [3, 4, 2, 1, 0] rfl (l_X9_scan_24 (d) (T := T) (σ0 := (sA 85 a (264) σ)) (a := a) (rx1 := t) (c3 := z3) ha h_t (by omega) (by omega) (hw.put (by decide) (by decide) (fo_85 (by omega))) (by omega) (fun i45 i56 σ7 w10 F11 r12 r13 f14 => ?_) _ (0) (0) (sA 85 a (264) σ) (hw.put (by decide) (by decide) (fo_85 (by omega))) FrC.rfl (by omega) (by omega) (by omega) rfl)
  show Tn _ _ 92 T σ7 [(0, .ref a), (1, .ref t), (3, .int (iI z3)), (4, .int (iI i45)), (5, .int (iI i56))] [] _
  refine tn_aload_n dX9_scan_92 rfl 0 rfl ?_
  refine tn_getI (ci := 9) (i := 4) (n := 85) (t := σ7.2.1 85 a) dX9_scan_93 rfl lay_9 (by decide) fl9_30 ha rfl rfl (rfl) ?_
  have g15 : ((-2147483648 : Int) ≤ σ7.2.1 85 a ∧ σ7.2.1 85 a ≤ 2147483647) := wf_85 w10 ha
  refine tn_sipush dX9_scan_96 (by decide) ?_
  refine tn_icmp_eq (tgt := 120) dX9_scan_99 (by decide) ⟨by omega, by omega⟩ ⟨by decide, by decide⟩ (fun h16 => ?_) (fun h16 => ?_)
  · refine tn_aload_n dX9_scan_120 rfl 0 rfl ?_
    refine tn_iconst dX9_scan_121 ?_
    refine tn_putV (ci := 9) (i := 3) (n := 84) (r := false) (v := -1) tyX9 tyX9_ok nmX9 dX9_scan_122 rfl lay_9 (by decide) fl9_45 rfl (tyX9_ok 3 (by decide)) rfl rfl rfl ha rfl rfl ?_
    refine tn_aload_n dX9_scan_125 rfl 0 rfl ?_
    have q21 : (sA 84 a (-1) σ7).2.1 84 a = -1 := ra_eq
    refine tn_callV (M := m_X9_scan) (pc := 126) (ix := 48) (ci := 9) (M' := m_X9_next) (As := []) (rest := []) dX9_scan_126 ok_X9_next im_X9_next se_X9_next ml9_48 np_X9_next rfl rfl ha rfl (Nat.le_of_ble_eq_true rfl) (Nat.le_of_ble_eq_true rfl) rfl (k_X9_next (d + 1) (T := T) (σ := (sA 84 a (-1) σ7)) (a := a) ha (w10.put (by decide) (by decide) (fo_84 (by omega))) (fun q => absurd (q.symm.trans (ra_eq)) (by decide))) (fun r17 T19 σ18 gt20 hp => ?_)
    obtain ⟨rfl, rfl, w26, F27, f22, f23, f24⟩ := hp
    clear gt20
    show Tn _ _ 129 T σ18 [(0, .ref a), (1, .ref t), (3, .int (iI z3)), (4, .int (iI i45)), (5, .int (iI i56))] [] _
    exact tn_vret rfl dX9_scan_129 ⟨rfl, rfl, w26, ((((FrC.rfl.put (by decide) (by decide)).trans (FrC.sub F11 (by decide))).put (by decide) (by decide)).trans (FrC.sub F27 (by decide))), f22⟩
  · refine tn_aload_n dX9_scan_102 rfl 0 rfl ?_
    refine tn_sipush dX9_scan_103 (by decide) ?_
    refine tn_putV (ci := 9) (i := 4) (n := 85) (r := false) (v := 264) tyX9 tyX9_ok nmX9 dX9_scan_106 rfl lay_9 (by decide) fl9_30 rfl (tyX9_ok 4 (by decide)) rfl rfl rfl ha rfl rfl ?_
    refine tn_aload_n dX9_scan_109 rfl 0 rfl ?_
    refine tn_iload_n dX9_scan_110 rfl 2 rfl ?_
    refine tn_putV (ci := 9) (i := 6) (n := 87) (r := false) (v := z3) tyX9 tyX9_ok nmX9 dX9_scan_111 rfl lay_9 (by decide) fl9_34 rfl (tyX9_ok 6 (by decide)) rfl rfl rfl ha rfl rfl ?_
    refine tn_aload_n dX9_scan_114 rfl 0 rfl ?_
    refine tn_iload dX9_scan_115 3 rfl ?_
    refine tn_callV (M := m_X9_scan) (pc := 117) (ix := 41) (ci := 9) (M' := m_X9_keep) (As := [.int (iI i45)]) (rest := []) dX9_scan_117 ok_X9_keep im_X9_keep se_X9_keep ml9_41 np_X9_keep rfl rfl ha rfl (Nat.le_of_ble_eq_true rfl) (Nat.le_of_ble_eq_true rfl) rfl (k_X9_keep (d) (T := T) (σ := (sA 87 a (z3) (sA 85 a (264) σ7))) (a := a) (n := i45) ha (by omega) ((w10.put (by decide) (by decide) (fo_85 (by omega))).put (by decide) (by decide) (fo_87 (by omega))) (fun _ => Or.inr (Or.inr (rc_o (by decide) (ra_eq))))) (fun r28 T30 σ29 gt31 hp => ?_)
    obtain ⟨rfl, rfl, w33, F34⟩ := hp
    clear gt31
    show Tn _ _ 120 T σ29 [(0, .ref a), (1, .ref t), (3, .int (iI z3)), (4, .int (iI i45)), (5, .int (iI i56))] [] _
    refine tn_aload_n dX9_scan_120 rfl 0 rfl ?_
    refine tn_iconst dX9_scan_121 ?_
    refine tn_putV (ci := 9) (i := 3) (n := 84) (r := false) (v := -1) tyX9 tyX9_ok nmX9 dX9_scan_122 rfl lay_9 (by decide) fl9_45 rfl (tyX9_ok 3 (by decide)) rfl rfl rfl ha rfl rfl ?_
    refine tn_aload_n dX9_scan_125 rfl 0 rfl ?_
    have q39 : (sA 84 a (-1) σ29).2.1 84 a = -1 := ra_eq
    refine tn_callV (M := m_X9_scan) (pc := 126) (ix := 48) (ci := 9) (M' := m_X9_next) (As := []) (rest := []) dX9_scan_126 ok_X9_next im_X9_next se_X9_next ml9_48 np_X9_next rfl rfl ha rfl (Nat.le_of_ble_eq_true rfl) (Nat.le_of_ble_eq_true rfl) rfl (k_X9_next (d + 1) (T := T) (σ := (sA 84 a (-1) σ29)) (a := a) ha (w33.put (by decide) (by decide) (fo_84 (by omega))) (fun q => absurd (q.symm.trans (ra_eq)) (by decide))) (fun r35 T37 σ36 gt38 hp => ?_)
    obtain ⟨rfl, rfl, w44, F45, f40, f41, f42⟩ := hp
    clear gt38
    show Tn _ _ 129 T σ36 [(0, .ref a), (1, .ref t), (3, .int (iI z3)), (4, .int (iI i45)), (5, .int (iI i56))] [] _
    exact tn_vret rfl dX9_scan_129 ⟨rfl, rfl, w44, (((((((FrC.rfl.put (by decide) (by decide)).trans (FrC.sub F11 (by decide))).put (by decide) (by decide)).put (by decide) (by decide)).trans (FrC.sub F34 (by decide))).put (by decide) (by decide)).trans (FrC.sub F45 (by decide))), f40⟩
end
section
theorem cd_X10_spoil : Cond.code yX10_spoil cX10_spoil 2 none ∈ pWW := pw4 (List.mem_of_getElem? (i := 45) rfl) rfl
theorem ini_10 : Cond.initialized RX10 ∈ pWW := pw1 (List.mem_of_getElem? (i := 6) rfl) rfl
abbrev m_X10_spoil : MT := (yX10_spoil, cX10_spoil, 2, none)
theorem ok_X10_spoil : pOk m_X10_spoil := ⟨⟨cd_X10_spoil, ini_10⟩, by decide +kernel, ⟨by decide +kernel, by decide +kernel⟩, Nat.le_of_ble_eq_true rfl⟩
theorem np_X10_spoil : (parseMethodDescriptor yX10_spoil.desc).map (fun d => d.parameters.length) = some 1 := by decide +kernel
theorem im_X10_spoil : Cond.instanceMethod yX10_spoil ∈ pWW := pw4 (List.mem_of_getElem? (i := 43) rfl) rfl
theorem se_X10_spoil : Cond.selects RX10 yX10_spoil yX10_spoil ∈ pWW := pw4 (List.mem_of_getElem? (i := 44) rfl) rfl
theorem fl10_17 : Cond.fieldLink RX10 17 (TX10 1).1 (TX10 1).2.1 (TX10 1).2.2.1 ∈ pWW := pw2 (List.mem_of_getElem? (i := 8) rfl) rfl
theorem nl10_26 : (RX10, 26, yX11_put, "LineKeeper") ∈ nst_M := List.mem_of_getElem? (i := 12) rfl
theorem dX10_spoil_0 : decode cX10_spoil 0 = .ok (.aload_n 0, 1) := by decide +kernel
theorem dX10_spoil_1 : decode cX10_spoil 1 = .ok (.getfield 17, 3) := by decide +kernel
theorem dX10_spoil_4 : decode cX10_spoil 4 = .ok (.iload_n 1, 1) := by decide +kernel
theorem dX10_spoil_5 : decode cX10_spoil 5 = .ok (.iconst 0, 1) := by decide +kernel
theorem dX10_spoil_6 : decode cX10_spoil 6 = .ok (.invokestatic 26, 3) := by decide +kernel
theorem dX10_spoil_9 : decode cX10_spoil 9 = .ok (.return_, 1) := by decide +kernel
set_option maxRecDepth 20000 in
theorem k_X10_spoil (d : Nat) {T : CT} {σ : MS} {a : Nat} {p1 : Int} (ha : OB T a 10) (h_p1 : -2147483648 ≤ p1 ∧ p1 ≤ 2147483647) (hw : WT T σ) : Tn (d + 2) m_X10_spoil 0 T σ [(0, .ref a), (1, .int (iI p1))] [] (fun ro T2 σ2 => ro = none ∧ T = T2 ∧ WT T2 σ2 ∧ FrC T [] σ σ2) := by
  refine tn_aload_n dX10_spoil_0 rfl 0 rfl ?_
  obtain ⟨x1, hx2, hk3, hl4⟩ : ∃ x : Nat, σ.2.1 89 a = (x : Int) ∧ AR T x 1 6 6 := wf_89 hw ha
  have hk3i : IA T x1 := by unfold IA; omega
  refine tn_getR (ci := 10) (i := 1) (n := 89) (x := x1) dX10_spoil_1 rfl lay_10 (by decide) fl10_17 ha rfl rfl (hx2) ?_
  refine tn_iload_n dX10_spoil_4 rfl 1 rfl ?_
  refine tn_iconst dX10_spoil_5 ?_
  refine tn_callSN (M := m_X10_spoil) (pc := 6) (ix := 26) (M' := m_X11_put) (As := [.ref x1, .int (iI p1), .int (iI 0)]) (rest := []) dX10_spoil_6 ok_X11_put stt_X11_put nl10_26 np_X11_put rfl (Nat.le_of_ble_eq_true rfl) (Nat.le_of_ble_eq_true rfl) rfl (k_X11_put (d) (T := T) (σ := σ) (x := x1) (i := p1) (y := 0) hk3i (by omega) (by omega) (by decide) hw (nh_k hk3 (by unfold HT; omega)) vok_0) (fun r5 T7 σ6 gt8 hp => ?_)
  obtain ⟨rfl, rfl, w10, F11⟩ := hp
  clear gt8
  show Tn _ _ 9 T σ6 [(0, .ref a), (1, .int (iI p1))] [] _
  exact tn_vret rfl dX10_spoil_9 ⟨rfl, rfl, w10, (FrC.rfl.trans (FrC.sub F11 (by decide)))⟩
end
section
theorem cd_X10_slotAt : Cond.code yX10_slotAt cX10_slotAt 4 (some .int) ∈ pWW := pw4 (List.mem_of_getElem? (i := 163) rfl) rfl
abbrev m_X10_slotAt : MT := (yX10_slotAt, cX10_slotAt, 4, (some .int))
theorem ok_X10_slotAt : pOk m_X10_slotAt := ⟨⟨cd_X10_slotAt, ini_10⟩, by decide +kernel, ⟨by decide +kernel, by decide +kernel⟩, Nat.le_of_ble_eq_true rfl⟩
theorem np_X10_slotAt : (parseMethodDescriptor yX10_slotAt.desc).map (fun d => d.parameters.length) = some 3 := by decide +kernel
theorem im_X10_slotAt : Cond.instanceMethod yX10_slotAt ∈ pWW := pw4 (List.mem_of_getElem? (i := 161) rfl) rfl
theorem se_X10_slotAt : Cond.selects RX10 yX10_slotAt yX10_slotAt ∈ pWW := pw4 (List.mem_of_getElem? (i := 162) rfl) rfl
theorem fl10_30 : Cond.fieldLink RX10 30 (TX1 5).1 (TX1 5).2.1 (TX1 5).2.2.1 ∈ pWW := pw1 (List.mem_of_getElem? (i := 103) rfl) rfl
theorem ml10_36 : Cond.methodLink RX10 36 yX1_slotOf ∈ pWW := pw4 (List.mem_of_getElem? (i := 109) rfl) rfl
theorem dX10_slotAt_0 : decode cX10_slotAt 0 = .ok (.aload_n 1, 1) := by decide +kernel
theorem dX10_slotAt_1 : decode cX10_slotAt 1 = .ok (.ifnonnull 7, 3) := by decide +kernel
theorem dX10_slotAt_8 : decode cX10_slotAt 8 = .ok (.iload_n 2, 1) := by decide +kernel
theorem dX10_slotAt_9 : decode cX10_slotAt 9 = .ok (.aload_n 1, 1) := by decide +kernel
theorem dX10_slotAt_10 : decode cX10_slotAt 10 = .ok (.aload_n 1, 1) := by decide +kernel
theorem dX10_slotAt_11 : decode cX10_slotAt 11 = .ok (.getfield 30, 3) := by decide +kernel
theorem dX10_slotAt_14 : decode cX10_slotAt 14 = .ok (.iconst 0, 1) := by decide +kernel
theorem dX10_slotAt_15 : decode cX10_slotAt 15 = .ok (.invokevirtual 36, 3) := by decide +kernel
theorem dX10_slotAt_18 : decode cX10_slotAt 18 = .ok (.imul, 1) := by decide +kernel
theorem dX10_slotAt_19 : decode cX10_slotAt 19 = .ok (.aload_n 1, 1) := by decide +kernel
theorem dX10_slotAt_20 : decode cX10_slotAt 20 = .ok (.iload_n 3, 1) := by decide +kernel
theorem dX10_slotAt_21 : decode cX10_slotAt 21 = .ok (.iconst 0, 1) := by decide +kernel
theorem dX10_slotAt_22 : decode cX10_slotAt 22 = .ok (.invokevirtual 36, 3) := by decide +kernel
theorem dX10_slotAt_25 : decode cX10_slotAt 25 = .ok (.iadd, 1) := by decide +kernel
theorem dX10_slotAt_26 : decode cX10_slotAt 26 = .ok (.ireturn, 1) := by decide +kernel
set_option maxRecDepth 20000 in
theorem k_X10_slotAt (d : Nat) {T : CT} {σ : MS} {a : Nat} {c : Nat} {k : Int} {f : Int} (ha : OB T a 10) (h_c : OB T c 1) (h_k : -2147483648 ≤ k ∧ k ≤ 2147483647) (h_f : -2147483648 ≤ f ∧ f ≤ 2147483647) (hw : WT T σ) : Tn (d + 2) m_X10_slotAt 0 T σ [(0, .ref a), (1, .ref c), (2, .int (iI k)), (3, .int (iI f))] [] (fun ro T2 σ2 => ∃ v : Int, ro = some (.int (iI v)) ∧ T = T2 ∧ σ = σ2 ∧ (-2147483648 ≤ v ∧ v ≤ 2147483647)) := by
  refine tn_aload_n dX10_slotAt_0 rfl 1 rfl ?_
  refine tn_ifnonnull (tgt := 8) dX10_slotAt_1 (by decide) ?_
  refine tn_iload_n dX10_slotAt_8 rfl 2 rfl ?_
  refine tn_aload_n dX10_slotAt_9 rfl 1 rfl ?_
  refine tn_aload_n dX10_slotAt_10 rfl 1 rfl ?_
  refine tn_getI (ci := 1) (i := 5) (n := 10) (t := σ.2.1 10 c) dX10_slotAt_11 rfl lay_1 (by decide) fl10_30 h_c rfl rfl (rfl) ?_
  have g1 : ((0 : Int) ≤ σ.2.1 10 c ∧ σ.2.1 10 c ≤ 12) := wf_10 hw h_c
  refine tn_iconst dX10_slotAt_14 ?_
  refine tn_callV (M := m_X10_slotAt) (pc := 15) (ix := 36) (ci := 1) (M' := m_X1_slotOf) (As := [.int (iI (σ.2.1 10 c)), .int (iI 0)]) (rest := [.int (iI k)]) dX10_slotAt_15 ok_X1_slotOf im_X1_slotOf se_X1_slotOf ml10_36 np_X1_slotOf rfl rfl h_c rfl (Nat.le_of_ble_eq_true rfl) (Nat.le_of_ble_eq_true rfl) rfl (k_X1_slotOf (d) (T := T) (σ := σ) (a := c) (f := σ.2.1 10 c) (m := 0) h_c (by omega) (by decide) hw (by omega)) (fun r2 T4 σ3 gt5 hp => ?_)
  obtain ⟨v8, rfl, rfl, rfl, f6, f7⟩ := hp
  clear gt5
  show Tn _ _ 18 T σ [(0, .ref a), (1, .ref c), (2, .int (iI k)), (3, .int (iI f))] [.int (iI v8), .int (iI k)] _
  refine tn_imul dX10_slotAt_18 ?_
  refine tn_any (fun z9 g10 => ?_)
  have g10r : -2147483648 ≤ z9 ∧ z9 ≤ 2147483647 := g10
  refine tn_aload_n dX10_slotAt_19 rfl 1 rfl ?_
  refine tn_iload_n dX10_slotAt_20 rfl 3 rfl ?_
  refine tn_iconst dX10_slotAt_21 ?_
  refine tn_callV (M := m_X10_slotAt) (pc := 22) (ix := 36) (ci := 1) (M' := m_X1_slotOf) (As := [.int (iI f), .int (iI 0)]) (rest := [.int (iI z9)]) dX10_slotAt_22 ok_X1_slotOf im_X1_slotOf se_X1_slotOf ml10_36 np_X1_slotOf rfl rfl h_c rfl (Nat.le_of_ble_eq_true rfl) (Nat.le_of_ble_eq_true rfl) rfl (k_X1_slotOf (d) (T := T) (σ := σ) (a := c) (f := f) (m := 0) h_c (by omega) (by decide) hw (by omega)) (fun r11 T13 σ12 gt14 hp => ?_)
  obtain ⟨v17, rfl, rfl, rfl, f15, f16⟩ := hp
  clear gt14
  show Tn _ _ 25 T σ [(0, .ref a), (1, .ref c), (2, .int (iI k)), (3, .int (iI f))] [.int (iI v17), .int (iI z9)] _
  refine tn_iadd dX10_slotAt_25 ?_
  refine tn_any (fun z18 g19 => ?_)
  have g19r : -2147483648 ≤ z18 ∧ z18 ≤ 2147483647 := g19
  exact tn_iret rfl dX10_slotAt_26 ⟨_, rfl, rfl, rfl, by omega⟩
end
section
theorem dX10_slotAt_4 : decode cX10_slotAt 4 = .ok (.iconst (-1), 1) := by decide +kernel
theorem dX10_slotAt_5 : decode cX10_slotAt 5 = .ok (.goto 21, 3) := by decide +kernel
set_option maxRecDepth 20000 in
theorem k_X10_slotAt_0 (d : Nat) {T : CT} {σ : MS} {a : Nat} {k : Int} {f : Int} (ha : OB T a 10) (h_k : -2147483648 ≤ k ∧ k ≤ 2147483647) (h_f : -2147483648 ≤ f ∧ f ≤ 2147483647) (hw : WT T σ) : Tn (d + 2) m_X10_slotAt 0 T σ [(0, .ref a), (1, .null), (2, .int (iI k)), (3, .int (iI f))] [] (fun ro T2 σ2 => ∃ v : Int, ro = some (.int (iI v)) ∧ T = T2 ∧ σ = σ2 ∧ (-2147483648 ≤ v ∧ v ≤ 2147483647)) := by
  refine tn_aload_nN dX10_slotAt_0 rfl 1 rfl ?_
  refine tn_ifnonnullN dX10_slotAt_1 ?_
  refine tn_iconst dX10_slotAt_4 ?_
  refine tn_goto (tgt := 26) dX10_slotAt_5 (by decide) ?_
  exact tn_iret rfl dX10_slotAt_26 ⟨_, rfl, rfl, rfl, by omega⟩
end
section
theorem cd_X10_idIn : Cond.code yX10_idIn cX10_idIn 4 (some .int) ∈ pWW := pw4 (List.mem_of_getElem? (i := 167) rfl) rfl
abbrev m_X10_idIn : MT := (yX10_idIn, cX10_idIn, 4, (some .int))
theorem ok_X10_idIn : pOk m_X10_idIn := ⟨⟨cd_X10_idIn, ini_10⟩, by decide +kernel, ⟨by decide +kernel, by decide +kernel⟩, Nat.le_of_ble_eq_true rfl⟩
theorem np_X10_idIn : (parseMethodDescriptor yX10_idIn.desc).map (fun d => d.parameters.length) = some 2 := by decide +kernel
theorem im_X10_idIn : Cond.instanceMethod yX10_idIn ∈ pWW := pw4 (List.mem_of_getElem? (i := 165) rfl) rfl
theorem se_X10_idIn : Cond.selects RX10 yX10_idIn yX10_idIn ∈ pWW := pw4 (List.mem_of_getElem? (i := 166) rfl) rfl
theorem fl10_11 : Cond.fieldLink RX10 11 (TX10 0).1 (TX10 0).2.1 (TX10 0).2.2.1 ∈ pWW := pw2 (List.mem_of_getElem? (i := 7) rfl) rfl
theorem nl10_40 : (RX10, 40, yX11_at, "LineKeeper") ∈ nst_M := List.mem_of_getElem? (i := 15) rfl
theorem dX10_idIn_0 : decode cX10_idIn 0 = .ok (.iload_n 1, 1) := by decide +kernel
theorem dX10_idIn_1 : decode cX10_idIn 1 = .ok (.ifCond .lt 25, 3) := by decide +kernel
theorem dX10_idIn_26 : decode cX10_idIn 26 = .ok (.iconst 0, 1) := by decide +kernel
theorem dX10_idIn_27 : decode cX10_idIn 27 = .ok (.istore_n 3, 1) := by decide +kernel
theorem dX10_idIn_28 : decode cX10_idIn 28 = .ok (.iload_n 3, 1) := by decide +kernel
theorem dX10_idIn_29 : decode cX10_idIn 29 = .ok (.ifCond .ne 7, 3) := by decide +kernel
theorem dX10_idIn_32 : decode cX10_idIn 32 = .ok (.iconst 1, 1) := by decide +kernel
theorem dX10_idIn_33 : decode cX10_idIn 33 = .ok (.goto 4, 3) := by decide +kernel
theorem dX10_idIn_37 : decode cX10_idIn 37 = .ok (.ireturn, 1) := by decide +kernel
theorem dX10_idIn_4 : decode cX10_idIn 4 = .ok (.iload_n 1, 1) := by decide +kernel
theorem dX10_idIn_5 : decode cX10_idIn 5 = .ok (.aload_n 0, 1) := by decide +kernel
theorem dX10_idIn_6 : decode cX10_idIn 6 = .ok (.getfield 11, 3) := by decide +kernel
theorem dX10_idIn_9 : decode cX10_idIn 9 = .ok (.arraylength, 1) := by decide +kernel
theorem dX10_idIn_10 : decode cX10_idIn 10 = .ok (.if_icmp .ge 16, 3) := by decide +kernel
theorem dX10_idIn_13 : decode cX10_idIn 13 = .ok (.aload_n 0, 1) := by decide +kernel
theorem dX10_idIn_14 : decode cX10_idIn 14 = .ok (.getfield 11, 3) := by decide +kernel
theorem dX10_idIn_17 : decode cX10_idIn 17 = .ok (.iload_n 1, 1) := by decide +kernel
theorem dX10_idIn_18 : decode cX10_idIn 18 = .ok (.aaload, 1) := by decide +kernel
theorem dX10_idIn_19 : decode cX10_idIn 19 = .ok (.iload_n 2, 1) := by decide +kernel
theorem dX10_idIn_20 : decode cX10_idIn 20 = .ok (.invokestatic 40, 3) := by decide +kernel
theorem dX10_idIn_23 : decode cX10_idIn 23 = .ok (.goto 4, 3) := by decide +kernel
theorem dX10_idIn_36 : decode cX10_idIn 36 = .ok (.iload_n 3, 1) := by decide +kernel
set_option maxRecDepth 20000 in
theorem k_X10_idIn (d : Nat) {T : CT} {σ : MS} {a : Nat} {p1 : Int} {p2 : Int} (ha : OB T a 10) (h_p1 : -2147483648 ≤ p1 ∧ p1 ≤ 2147483647) (h_p2 : -2147483648 ≤ p2 ∧ p2 ≤ 2147483647) (hw : WT T σ) : Tn (d + 2) m_X10_idIn 0 T σ [(0, .ref a), (1, .int (iI p1)), (2, .int (iI p2))] [] (fun ro T2 σ2 => ∃ v : Int, ro = some (.int (iI v)) ∧ T = T2 ∧ σ = σ2 ∧ (-2147483648 ≤ v ∧ v ≤ 2147483647)) := by
  refine tn_iload_n dX10_idIn_0 rfl 1 rfl ?_
  refine tn_if_lt (tgt := 26) dX10_idIn_1 (by decide) ⟨by omega, by omega⟩ (fun h1 => ?_) (fun h1 => ?_)
  · refine tn_iconst dX10_idIn_26 ?_
    refine tn_istore_n (L' := [(3, .int (iI 0)), (0, .ref a), (1, .int (iI p1)), (2, .int (iI p2))]) dX10_idIn_27 rfl (by decide) rfl ?_
    refine tn_iload_n dX10_idIn_28 rfl 0 rfl ?_
    refine tn_if_ne (tgt := 36) dX10_idIn_29 (by decide) ⟨by decide, by decide⟩ (fun h => absurd h (by decide)) (fun _ => ?_)
    refine tn_iconst dX10_idIn_32 ?_
    refine tn_goto (tgt := 37) dX10_idIn_33 (by decide) ?_
    exact tn_iret rfl dX10_idIn_37 ⟨_, rfl, rfl, rfl, by omega⟩
  · refine tn_iload_n dX10_idIn_4 rfl 1 rfl ?_
    refine tn_aload_n dX10_idIn_5 rfl 0 rfl ?_
    obtain ⟨x3, hx4, hk5, hl6⟩ : ∃ x : Nat, σ.2.1 88 a = (x : Int) ∧ AR T x 7 6 6 := wf_88 hw ha
    refine tn_getR (ci := 10) (i := 0) (n := 88) (x := x3) dX10_idIn_6 rfl lay_10 (by decide) fl10_11 ha rfl rfl (hx4) ?_
    refine tn_alenX dX10_idIn_9 (Or.inr (Or.inr (Or.inr (Or.inr (Or.inr hk5))))) ?_
    refine tn_icmp_ge (tgt := 26) dX10_idIn_10 (by decide) ⟨by omega, by omega⟩ ⟨by omega, by omega⟩ (fun h7 => ?_) (fun h7 => ?_)
    · refine tn_iconst dX10_idIn_26 ?_
      refine tn_istore_n (L' := [(3, .int (iI 0)), (0, .ref a), (1, .int (iI p1)), (2, .int (iI p2))]) dX10_idIn_27 rfl (by decide) rfl ?_
      refine tn_iload_n dX10_idIn_28 rfl 0 rfl ?_
      refine tn_if_ne (tgt := 36) dX10_idIn_29 (by decide) ⟨by decide, by decide⟩ (fun h => absurd h (by decide)) (fun _ => ?_)
      refine tn_iconst dX10_idIn_32 ?_
      refine tn_goto (tgt := 37) dX10_idIn_33 (by decide) ?_
      exact tn_iret rfl dX10_idIn_37 ⟨_, rfl, rfl, rfl, by omega⟩
    · refine tn_aload_n dX10_idIn_13 rfl 0 rfl ?_
      refine tn_getR (ci := 10) (i := 0) (n := 88) (x := x3) dX10_idIn_14 rfl lay_10 (by decide) fl10_11 ha rfl rfl (hx4) ?_
      refine tn_iload_n dX10_idIn_17 rfl 1 rfl ?_
      rcases (hw).2.2.2.2.1.2 (p1) (by omega) (by omega) with hx9 | ⟨x10, hx9, hk11, hl12⟩
      · refine tn_aaldMN (z := p1) dX10_idIn_18 hk5 (by omega) (by omega) (by omega) hx9 ?_
        refine tn_iload_n dX10_idIn_19 rfl 2 rfl ?_
        refine tn_callSN (M := m_X10_idIn) (pc := 20) (ix := 40) (M' := m_X11_at) (As := [.null, .int (iI p2)]) (rest := []) dX10_idIn_20 ok_X11_at stt_X11_at nl10_40 np_X11_at rfl (Nat.le_of_ble_eq_true rfl) (Nat.le_of_ble_eq_true rfl) rfl (k_X11_at_0 (d) (T := T) (σ := σ) (i := p2) (by omega) hw ) (fun r13 T15 σ14 gt16 hp => ?_)
        obtain ⟨v18, rfl, rfl, rfl, f17⟩ := hp
        clear gt16
        show Tn _ _ 23 T σ [(0, .ref a), (1, .int (iI p1)), (2, .int (iI p2))] [.int (iI v18)] _
        refine tn_goto (tgt := 27) dX10_idIn_23 (by decide) ?_
        refine tn_istore_n (L' := [(3, .int (iI v18)), (0, .ref a), (1, .int (iI p1)), (2, .int (iI p2))]) dX10_idIn_27 rfl (by decide) rfl ?_
        refine tn_iload_n dX10_idIn_28 rfl 0 rfl ?_
        refine tn_if_ne (tgt := 36) dX10_idIn_29 (by decide) ⟨by omega, by omega⟩ (fun h19 => absurd h19 (by omega)) (fun h19 => ?_)
        refine tn_iconst dX10_idIn_32 ?_
        refine tn_goto (tgt := 37) dX10_idIn_33 (by decide) ?_
        exact tn_iret rfl dX10_idIn_37 ⟨_, rfl, rfl, rfl, by omega⟩
      · refine tn_aaldM (z := p1) (x := x10) dX10_idIn_18 hk5 (by omega) (by omega) (by omega) hx9 ?_
        have hk11i : IA T x10 := by unfold IA; omega
        refine tn_iload_n dX10_idIn_19 rfl 2 rfl ?_
        refine tn_callSN (M := m_X10_idIn) (pc := 20) (ix := 40) (M' := m_X11_at) (As := [.ref x10, .int (iI p2)]) (rest := []) dX10_idIn_20 ok_X11_at stt_X11_at nl10_40 np_X11_at rfl (Nat.le_of_ble_eq_true rfl) (Nat.le_of_ble_eq_true rfl) rfl (k_X11_at (d) (T := T) (σ := σ) (x := x10) (i := p2) hk11i (by omega) (by omega) hw ) (fun r20 T22 σ21 gt23 hp => ?_)
        obtain ⟨v27, rfl, rfl, rfl, f24, f25, f26⟩ := hp
        clear gt23
        clear f25 f26
        show Tn _ _ 23 T σ [(0, .ref a), (1, .int (iI p1)), (2, .int (iI p2))] [.int (iI v27)] _
        refine tn_goto (tgt := 27) dX10_idIn_23 (by decide) ?_
        refine tn_istore_n (L' := [(3, .int (iI v27)), (0, .ref a), (1, .int (iI p1)), (2, .int (iI p2))]) dX10_idIn_27 rfl (by decide) rfl ?_
        refine tn_iload_n dX10_idIn_28 rfl 0 rfl ?_
        refine tn_if_ne (tgt := 36) dX10_idIn_29 (by decide) ⟨by omega, by omega⟩ (fun h28 => ?_) (fun h28 => ?_)
        · refine tn_iload_n dX10_idIn_36 rfl 0 rfl ?_
          exact tn_iret rfl dX10_idIn_37 ⟨_, rfl, rfl, rfl, by omega⟩
        · refine tn_iconst dX10_idIn_32 ?_
          refine tn_goto (tgt := 37) dX10_idIn_33 (by decide) ?_
          exact tn_iret rfl dX10_idIn_37 ⟨_, rfl, rfl, rfl, by omega⟩
end
section
theorem cd_X10_whereOf : Cond.code yX10_whereOf cX10_whereOf 3 (some .int) ∈ pWW := pw4 (List.mem_of_getElem? (i := 171) rfl) rfl
abbrev m_X10_whereOf : MT := (yX10_whereOf, cX10_whereOf, 3, (some .int))
theorem ok_X10_whereOf : pOk m_X10_whereOf := ⟨⟨cd_X10_whereOf, ini_10⟩, by decide +kernel, ⟨by decide +kernel, by decide +kernel⟩, Nat.le_of_ble_eq_true rfl⟩
theorem np_X10_whereOf : (parseMethodDescriptor yX10_whereOf.desc).map (fun d => d.parameters.length) = some 2 := by decide +kernel
theorem im_X10_whereOf : Cond.instanceMethod yX10_whereOf ∈ pWW := pw4 (List.mem_of_getElem? (i := 169) rfl) rfl
theorem se_X10_whereOf : Cond.selects RX10 yX10_whereOf yX10_whereOf ∈ pWW := pw4 (List.mem_of_getElem? (i := 170) rfl) rfl
theorem ml10_44 : Cond.methodLink RX10 44 yX1_get ∈ pWW := pw4 (List.mem_of_getElem? (i := 119) rfl) rfl
theorem dX10_whereOf_0 : decode cX10_whereOf 0 = .ok (.iload_n 2, 1) := by decide +kernel
theorem dX10_whereOf_1 : decode cX10_whereOf 1 = .ok (.iconst 5, 1) := by decide +kernel
theorem dX10_whereOf_2 : decode cX10_whereOf 2 = .ok (.if_icmp .ge 8, 3) := by decide +kernel
theorem dX10_whereOf_10 : decode cX10_whereOf 10 = .ok (.iload_n 2, 1) := by decide +kernel
theorem dX10_whereOf_11 : decode cX10_whereOf 11 = .ok (.bipush 10, 2) := by decide +kernel
theorem dX10_whereOf_13 : decode cX10_whereOf 13 = .ok (.if_icmp .ge 14, 3) := by decide +kernel
theorem dX10_whereOf_27 : decode cX10_whereOf 27 = .ok (.aload_n 1, 1) := by decide +kernel
theorem dX10_whereOf_28 : decode cX10_whereOf 28 = .ok (.iload_n 2, 1) := by decide +kernel
theorem dX10_whereOf_29 : decode cX10_whereOf 29 = .ok (.bipush 10, 2) := by decide +kernel
theorem dX10_whereOf_31 : decode cX10_whereOf 31 = .ok (.isub, 1) := by decide +kernel
theorem dX10_whereOf_32 : decode cX10_whereOf 32 = .ok (.bipush 11, 2) := by decide +kernel
theorem dX10_whereOf_34 : decode cX10_whereOf 34 = .ok (.invokevirtual 44, 3) := by decide +kernel
theorem dX10_whereOf_37 : decode cX10_whereOf 37 = .ok (.ireturn, 1) := by decide +kernel
theorem dX10_whereOf_16 : decode cX10_whereOf 16 = .ok (.iload_n 2, 1) := by decide +kernel
theorem dX10_whereOf_17 : decode cX10_whereOf 17 = .ok (.iconst 5, 1) := by decide +kernel
theorem dX10_whereOf_18 : decode cX10_whereOf 18 = .ok (.if_icmp .ne 7, 3) := by decide +kernel
theorem dX10_whereOf_25 : decode cX10_whereOf 25 = .ok (.iconst 2, 1) := by decide +kernel
theorem dX10_whereOf_26 : decode cX10_whereOf 26 = .ok (.ireturn, 1) := by decide +kernel
theorem dX10_whereOf_21 : decode cX10_whereOf 21 = .ok (.iconst 1, 1) := by decide +kernel
theorem dX10_whereOf_22 : decode cX10_whereOf 22 = .ok (.goto 4, 3) := by decide +kernel
theorem dX10_whereOf_5 : decode cX10_whereOf 5 = .ok (.bipush 10, 2) := by decide +kernel
theorem dX10_whereOf_7 : decode cX10_whereOf 7 = .ok (.iload_n 2, 1) := by decide +kernel
theorem dX10_whereOf_8 : decode cX10_whereOf 8 = .ok (.iadd, 1) := by decide +kernel
theorem dX10_whereOf_9 : decode cX10_whereOf 9 = .ok (.ireturn, 1) := by decide +kernel
set_option maxRecDepth 20000 in
theorem k_X10_whereOf (d : Nat) {T : CT} {σ : MS} {a : Nat} {c : Nat} {i : Int} (ha : OB T a 10) (h_c : OB T c 1) (h_i : -2147483648 ≤ i ∧ i ≤ 2147483647) (hw : WT T σ) : Tn (d + 2) m_X10_whereOf 0 T σ [(0, .ref a), (1, .ref c), (2, .int (iI i))] [] (fun ro T2 σ2 => ∃ v : Int, ro = some (.int (iI v)) ∧ T = T2 ∧ σ = σ2 ∧ (-2147483648 ≤ v ∧ v ≤ 2147483647)) := by
  refine tn_iload_n dX10_whereOf_0 rfl 2 rfl ?_
  refine tn_iconst dX10_whereOf_1 ?_
  refine tn_icmp_ge (tgt := 10) dX10_whereOf_2 (by decide) ⟨by omega, by omega⟩ ⟨by decide, by decide⟩ (fun h1 => ?_) (fun h1 => ?_)
  · refine tn_iload_n dX10_whereOf_10 rfl 2 rfl ?_
    refine tn_bipush dX10_whereOf_11 (by decide) ?_
    refine tn_icmp_ge (tgt := 27) dX10_whereOf_13 (by decide) ⟨by omega, by omega⟩ ⟨by decide, by decide⟩ (fun h2 => ?_) (fun h2 => ?_)
    · refine tn_aload_n dX10_whereOf_27 rfl 1 rfl ?_
      refine tn_iload_n dX10_whereOf_28 rfl 2 rfl ?_
      refine tn_bipush dX10_whereOf_29 (by decide) ?_
      refine tn_isub dX10_whereOf_31 ?_
      refine tn_bipush dX10_whereOf_32 (by decide) ?_
      refine tn_callV (M := m_X10_whereOf) (pc := 34) (ix := 44) (ci := 1) (M' := m_X1_get) (As := [.int (iI (i - 10)), .int (iI 11)]) (rest := []) dX10_whereOf_34 ok_X1_get im_X1_get se_X1_get ml10_44 np_X1_get rfl rfl h_c rfl (Nat.le_of_ble_eq_true rfl) (Nat.le_of_ble_eq_true rfl) rfl (k_X1_get (d) (T := T) (σ := σ) (a := c) (k := i - 10) (c := 11) h_c (by omega) (by decide) hw (by omega)) (fun r3 T5 σ4 gt6 hp => ?_)
      obtain ⟨v8, rfl, rfl, rfl, f7⟩ := hp
      clear gt6
      show Tn _ _ 37 T σ [(0, .ref a), (1, .ref c), (2, .int (iI i))] [.int (iI v8)] _
      exact tn_iret rfl dX10_whereOf_37 ⟨_, rfl, rfl, rfl, by omega⟩
    · refine tn_iload_n dX10_whereOf_16 rfl 2 rfl ?_
      refine tn_iconst dX10_whereOf_17 ?_
      refine tn_icmp_ne (tgt := 25) dX10_whereOf_18 (by decide) ⟨by omega, by omega⟩ ⟨by decide, by decide⟩ (fun h9 => ?_) (fun h9 => ?_)
      · refine tn_iconst dX10_whereOf_25 ?_
        exact tn_iret rfl dX10_whereOf_26 ⟨_, rfl, rfl, rfl, by omega⟩
      · refine tn_iconst dX10_whereOf_21 ?_
        refine tn_goto (tgt := 26) dX10_whereOf_22 (by decide) ?_
        exact tn_iret rfl dX10_whereOf_26 ⟨_, rfl, rfl, rfl, by omega⟩
  · refine tn_bipush dX10_whereOf_5 (by decide) ?_
    refine tn_iload_n dX10_whereOf_7 rfl 2 rfl ?_
    refine tn_iadd dX10_whereOf_8 ?_
    exact tn_iret rfl dX10_whereOf_9 ⟨_, rfl, rfl, rfl, by omega⟩
end
section
theorem cd_X10_part : Cond.code yX10_part cX10_part 4 (some .int) ∈ pWW := pw4 (List.mem_of_getElem? (i := 175) rfl) rfl
abbrev m_X10_part : MT := (yX10_part, cX10_part, 4, (some .int))
theorem ok_X10_part : pOk m_X10_part := ⟨⟨cd_X10_part, ini_10⟩, by decide +kernel, ⟨by decide +kernel, by decide +kernel⟩, Nat.le_of_ble_eq_true rfl⟩
theorem np_X10_part : (parseMethodDescriptor yX10_part.desc).map (fun d => d.parameters.length) = some 3 := by decide +kernel
theorem im_X10_part : Cond.instanceMethod yX10_part ∈ pWW := pw4 (List.mem_of_getElem? (i := 173) rfl) rfl
theorem se_X10_part : Cond.selects RX10 yX10_part yX10_part ∈ pWW := pw4 (List.mem_of_getElem? (i := 174) rfl) rfl
theorem ml10_47 : Cond.methodLink RX10 47 yX1_homeOf ∈ pWW := pw4 (List.mem_of_getElem? (i := 120) rfl) rfl
theorem dX10_part_0 : decode cX10_part 0 = .ok (.iload_n 2, 1) := by decide +kernel
theorem dX10_part_1 : decode cX10_part 1 = .ok (.bipush 10, 2) := by decide +kernel
theorem dX10_part_3 : decode cX10_part 3 = .ok (.if_icmp .lt 13, 3) := by decide +kernel
theorem dX10_part_16 : decode cX10_part 16 = .ok (.iload_n 2, 1) := by decide +kernel
theorem dX10_part_17 : decode cX10_part 17 = .ok (.bipush 6, 2) := by decide +kernel
theorem dX10_part_19 : decode cX10_part 19 = .ok (.if_icmp .lt 20, 3) := by decide +kernel
theorem dX10_part_39 : decode cX10_part 39 = .ok (.iconst 0, 1) := by decide +kernel
theorem dX10_part_40 : decode cX10_part 40 = .ok (.ireturn, 1) := by decide +kernel
theorem dX10_part_22 : decode cX10_part 22 = .ok (.iload_n 3, 1) := by decide +kernel
theorem dX10_part_23 : decode cX10_part 23 = .ok (.iconst 4, 1) := by decide +kernel
theorem dX10_part_24 : decode cX10_part 24 = .ok (.if_icmp .ne 15, 3) := by decide +kernel
theorem dX10_part_27 : decode cX10_part 27 = .ok (.aload_n 1, 1) := by decide +kernel
theorem dX10_part_28 : decode cX10_part 28 = .ok (.iconst 0, 1) := by decide +kernel
theorem dX10_part_29 : decode cX10_part 29 = .ok (.iload_n 2, 1) := by decide +kernel
theorem dX10_part_30 : decode cX10_part 30 = .ok (.bipush 6, 2) := by decide +kernel
theorem dX10_part_32 : decode cX10_part 32 = .ok (.isub, 1) := by decide +kernel
theorem dX10_part_33 : decode cX10_part 33 = .ok (.invokevirtual 47, 3) := by decide +kernel
theorem dX10_part_36 : decode cX10_part 36 = .ok (.goto 4, 3) := by decide +kernel
theorem dX10_part_6 : decode cX10_part 6 = .ok (.aload_n 1, 1) := by decide +kernel
theorem dX10_part_7 : decode cX10_part 7 = .ok (.iload_n 2, 1) := by decide +kernel
theorem dX10_part_8 : decode cX10_part 8 = .ok (.bipush 10, 2) := by decide +kernel
theorem dX10_part_10 : decode cX10_part 10 = .ok (.isub, 1) := by decide +kernel
theorem dX10_part_11 : decode cX10_part 11 = .ok (.iload_n 3, 1) := by decide +kernel
theorem dX10_part_12 : decode cX10_part 12 = .ok (.invokevirtual 44, 3) := by decide +kernel
theorem dX10_part_15 : decode cX10_part 15 = .ok (.ireturn, 1) := by decide +kernel
set_option maxRecDepth 20000 in
theorem k_X10_part (d : Nat) {T : CT} {σ : MS} {a : Nat} {c : Nat} {i : Int} {e : Int} (ha : OB T a 10) (h_c : OB T c 1) (h_i : -2147483648 ≤ i ∧ i ≤ 2147483647) (h_e : -2147483648 ≤ e ∧ e ≤ 2147483647) (hw : WT T σ) (hc : 0 ≤ e ∧ e ≤ 12) : Tn (d + 3) m_X10_part 0 T σ [(0, .ref a), (1, .ref c), (2, .int (iI i)), (3, .int (iI e))] [] (fun ro T2 σ2 => ∃ v : Int, ro = some (.int (iI v)) ∧ T = T2 ∧ σ = σ2 ∧ (-2147483648 ≤ v ∧ v ≤ 2147483647)) := by
  refine tn_iload_n dX10_part_0 rfl 2 rfl ?_
  refine tn_bipush dX10_part_1 (by decide) ?_
  refine tn_icmp_lt (tgt := 16) dX10_part_3 (by decide) ⟨by omega, by omega⟩ ⟨by decide, by decide⟩ (fun h1 => ?_) (fun h1 => ?_)
  · refine tn_iload_n dX10_part_16 rfl 2 rfl ?_
    refine tn_bipush dX10_part_17 (by decide) ?_
    refine tn_icmp_lt (tgt := 39) dX10_part_19 (by decide) ⟨by omega, by omega⟩ ⟨by decide, by decide⟩ (fun h2 => ?_) (fun h2 => ?_)
    · refine tn_iconst dX10_part_39 ?_
      exact tn_iret rfl dX10_part_40 ⟨_, rfl, rfl, rfl, by omega⟩
    · refine tn_iload_n dX10_part_22 rfl 3 rfl ?_
      refine tn_iconst dX10_part_23 ?_
      refine tn_icmp_ne (tgt := 39) dX10_part_24 (by decide) ⟨by omega, by omega⟩ ⟨by decide, by decide⟩ (fun h3 => ?_) (fun h3 => ?_)
      · refine tn_iconst dX10_part_39 ?_
        exact tn_iret rfl dX10_part_40 ⟨_, rfl, rfl, rfl, by omega⟩
      · refine tn_aload_n dX10_part_27 rfl 1 rfl ?_
        refine tn_iconst dX10_part_28 ?_
        refine tn_iload_n dX10_part_29 rfl 2 rfl ?_
        refine tn_bipush dX10_part_30 (by decide) ?_
        refine tn_isub dX10_part_32 ?_
        refine tn_callV (M := m_X10_part) (pc := 33) (ix := 47) (ci := 1) (M' := m_X1_homeOf) (As := [.int (iI 0), .int (iI (i - 6))]) (rest := []) dX10_part_33 ok_X1_homeOf im_X1_homeOf se_X1_homeOf ml10_47 np_X1_homeOf rfl rfl h_c rfl (Nat.le_of_ble_eq_true rfl) (Nat.le_of_ble_eq_true rfl) rfl (k_X1_homeOf (d) (T := T) (σ := σ) (a := c) (f := 0) (m := i - 6) h_c (by decide) (by omega) hw ) (fun r4 T6 σ5 gt7 hp => ?_)
        obtain ⟨v9, rfl, rfl, rfl, f8⟩ := hp
        clear gt7
        show Tn _ _ 36 T σ [(0, .ref a), (1, .ref c), (2, .int (iI i)), (3, .int (iI e))] [.int (iI v9)] _
        refine tn_goto (tgt := 40) dX10_part_36 (by decide) ?_
        exact tn_iret rfl dX10_part_40 ⟨_, rfl, rfl, rfl, by omega⟩
  · refine tn_aload_n dX10_part_6 rfl 1 rfl ?_
    refine tn_iload_n dX10_part_7 rfl 2 rfl ?_
    refine tn_bipush dX10_part_8 (by decide) ?_
    refine tn_isub dX10_part_10 ?_
    refine tn_iload_n dX10_part_11 rfl 3 rfl ?_
    refine tn_callV (M := m_X10_part) (pc := 12) (ix := 44) (ci := 1) (M' := m_X1_get) (As := [.int (iI (i - 10)), .int (iI e)]) (rest := []) dX10_part_12 ok_X1_get im_X1_get se_X1_get ml10_44 np_X1_get rfl rfl h_c rfl (Nat.le_of_ble_eq_true rfl) (Nat.le_of_ble_eq_true rfl) rfl (k_X1_get (d + 1) (T := T) (σ := σ) (a := c) (k := i - 10) (c := e) h_c (by omega) (by omega) hw (by omega)) (fun r10 T12 σ11 gt13 hp => ?_)
    obtain ⟨v15, rfl, rfl, rfl, f14⟩ := hp
    clear gt13
    show Tn _ _ 15 T σ [(0, .ref a), (1, .ref c), (2, .int (iI i)), (3, .int (iI e))] [.int (iI v15)] _
    exact tn_iret rfl dX10_part_15 ⟨_, rfl, rfl, rfl, by omega⟩
end
section
theorem cd_X10_leans : Cond.code yX10_leans cX10_leans 4 (some .boolean) ∈ pWW := pw4 (List.mem_of_getElem? (i := 143) rfl) rfl
abbrev m_X10_leans : MT := (yX10_leans, cX10_leans, 4, (some .boolean))
theorem ok_X10_leans : pOk m_X10_leans := ⟨⟨cd_X10_leans, ini_10⟩, by decide +kernel, ⟨by decide +kernel, by decide +kernel⟩, Nat.le_of_ble_eq_true rfl⟩
theorem np_X10_leans : (parseMethodDescriptor yX10_leans.desc).map (fun d => d.parameters.length) = some 3 := by decide +kernel
theorem im_X10_leans : Cond.instanceMethod yX10_leans ∈ pWW := pw4 (List.mem_of_getElem? (i := 142) rfl) rfl
theorem se_X10_leans : Cond.selects RX10 yX10_leans yX10_leans ∈ pWW := pws (List.mem_map.mpr ⟨_, lw_pin 42 rfl, rfl⟩) rfl
theorem ml10_117 : Cond.methodLink RX10 117 yX1_leansOn ∈ pWW := pw4 (List.mem_of_getElem? (i := 144) rfl) rfl
theorem dX10_leans_0 : decode cX10_leans 0 = .ok (.iload_n 2, 1) := by decide +kernel
theorem dX10_leans_1 : decode cX10_leans 1 = .ok (.bipush 6, 2) := by decide +kernel
theorem dX10_leans_3 : decode cX10_leans 3 = .ok (.if_icmp .ge 5, 3) := by decide +kernel
theorem dX10_leans_8 : decode cX10_leans 8 = .ok (.iload_n 2, 1) := by decide +kernel
theorem dX10_leans_9 : decode cX10_leans 9 = .ok (.bipush 10, 2) := by decide +kernel
theorem dX10_leans_11 : decode cX10_leans 11 = .ok (.if_icmp .ge 24, 3) := by decide +kernel
theorem dX10_leans_35 : decode cX10_leans 35 = .ok (.aload_n 1, 1) := by decide +kernel
theorem dX10_leans_36 : decode cX10_leans 36 = .ok (.iload_n 2, 1) := by decide +kernel
theorem dX10_leans_37 : decode cX10_leans 37 = .ok (.bipush 10, 2) := by decide +kernel
theorem dX10_leans_39 : decode cX10_leans 39 = .ok (.isub, 1) := by decide +kernel
theorem dX10_leans_40 : decode cX10_leans 40 = .ok (.iload_n 3, 1) := by decide +kernel
theorem dX10_leans_41 : decode cX10_leans 41 = .ok (.invokevirtual 117, 3) := by decide +kernel
theorem dX10_leans_44 : decode cX10_leans 44 = .ok (.ireturn, 1) := by decide +kernel
theorem dX10_leans_14 : decode cX10_leans 14 = .ok (.aload_n 1, 1) := by decide +kernel
theorem dX10_leans_15 : decode cX10_leans 15 = .ok (.iconst 0, 1) := by decide +kernel
theorem dX10_leans_16 : decode cX10_leans 16 = .ok (.iload_n 2, 1) := by decide +kernel
theorem dX10_leans_17 : decode cX10_leans 17 = .ok (.bipush 6, 2) := by decide +kernel
theorem dX10_leans_19 : decode cX10_leans 19 = .ok (.isub, 1) := by decide +kernel
theorem dX10_leans_20 : decode cX10_leans 20 = .ok (.invokevirtual 47, 3) := by decide +kernel
theorem dX10_leans_23 : decode cX10_leans 23 = .ok (.iload_n 3, 1) := by decide +kernel
theorem dX10_leans_24 : decode cX10_leans 24 = .ok (.if_icmp .ne 7, 3) := by decide +kernel
theorem dX10_leans_31 : decode cX10_leans 31 = .ok (.iconst 0, 1) := by decide +kernel
theorem dX10_leans_32 : decode cX10_leans 32 = .ok (.goto 12, 3) := by decide +kernel
theorem dX10_leans_27 : decode cX10_leans 27 = .ok (.iconst 1, 1) := by decide +kernel
theorem dX10_leans_28 : decode cX10_leans 28 = .ok (.goto 16, 3) := by decide +kernel
theorem dX10_leans_6 : decode cX10_leans 6 = .ok (.iconst 0, 1) := by decide +kernel
theorem dX10_leans_7 : decode cX10_leans 7 = .ok (.ireturn, 1) := by decide +kernel
set_option maxRecDepth 20000 in
theorem k_X10_leans (d : Nat) {T : CT} {σ : MS} {a : Nat} {p1 : Nat} {p2 : Int} {p3 : Int} (ha : OB T a 10) (h_p1 : OB T p1 1) (h_p2 : -2147483648 ≤ p2 ∧ p2 ≤ 2147483647) (h_p3 : -2147483648 ≤ p3 ∧ p3 ≤ 2147483647) (hw : WT T σ) : Tn (d + 3) m_X10_leans 0 T σ [(0, .ref a), (1, .ref p1), (2, .int (iI p2)), (3, .int (iI p3))] [] (fun ro T2 σ2 => ∃ v : Int, ro = some (.int (iI v)) ∧ T = T2 ∧ σ = σ2 ∧ (v = 0 ∨ v = 1)) := by
  refine tn_iload_n dX10_leans_0 rfl 2 rfl ?_
  refine tn_bipush dX10_leans_1 (by decide) ?_
  refine tn_icmp_ge (tgt := 8) dX10_leans_3 (by decide) ⟨by omega, by omega⟩ ⟨by decide, by decide⟩ (fun h1 => ?_) (fun h1 => ?_)
  · refine tn_iload_n dX10_leans_8 rfl 2 rfl ?_
    refine tn_bipush dX10_leans_9 (by decide) ?_
    refine tn_icmp_ge (tgt := 35) dX10_leans_11 (by decide) ⟨by omega, by omega⟩ ⟨by decide, by decide⟩ (fun h2 => ?_) (fun h2 => ?_)
    · refine tn_aload_n dX10_leans_35 rfl 1 rfl ?_
      refine tn_iload_n dX10_leans_36 rfl 2 rfl ?_
      refine tn_bipush dX10_leans_37 (by decide) ?_
      refine tn_isub dX10_leans_39 ?_
      refine tn_iload_n dX10_leans_40 rfl 3 rfl ?_
      refine tn_callV (M := m_X10_leans) (pc := 41) (ix := 117) (ci := 1) (M' := m_X1_leansOn) (As := [.int (iI (p2 - 10)), .int (iI p3)]) (rest := []) dX10_leans_41 ok_X1_leansOn im_X1_leansOn se_X1_leansOn ml10_117 np_X1_leansOn rfl rfl h_p1 rfl (Nat.le_of_ble_eq_true rfl) (Nat.le_of_ble_eq_true rfl) rfl (k_X1_leansOn (d) (T := T) (σ := σ) (a := p1) (k := p2 - 10) (r := p3) h_p1 (by omega) (by omega) hw ) (fun r3 T5 σ4 gt6 hp => ?_)
      obtain ⟨v8, rfl, rfl, rfl, f7⟩ := hp
      clear gt6
      show Tn _ _ 44 T σ [(0, .ref a), (1, .ref p1), (2, .int (iI p2)), (3, .int (iI p3))] [.int (iI v8)] _
      exact tn_zret (v := v8) rfl (by omega) dX10_leans_44 ⟨_, rfl, rfl, rfl, by omega⟩
    · refine tn_aload_n dX10_leans_14 rfl 1 rfl ?_
      refine tn_iconst dX10_leans_15 ?_
      refine tn_iload_n dX10_leans_16 rfl 2 rfl ?_
      refine tn_bipush dX10_leans_17 (by decide) ?_
      refine tn_isub dX10_leans_19 ?_
      refine tn_callV (M := m_X10_leans) (pc := 20) (ix := 47) (ci := 1) (M' := m_X1_homeOf) (As := [.int (iI 0), .int (iI (p2 - 6))]) (rest := []) dX10_leans_20 ok_X1_homeOf im_X1_homeOf se_X1_homeOf ml10_47 np_X1_homeOf rfl rfl h_p1 rfl (Nat.le_of_ble_eq_true rfl) (Nat.le_of_ble_eq_true rfl) rfl (k_X1_homeOf (d) (T := T) (σ := σ) (a := p1) (f := 0) (m := p2 - 6) h_p1 (by decide) (by omega) hw ) (fun r9 T11 σ10 gt12 hp => ?_)
      obtain ⟨v14, rfl, rfl, rfl, f13⟩ := hp
      clear gt12
      show Tn _ _ 23 T σ [(0, .ref a), (1, .ref p1), (2, .int (iI p2)), (3, .int (iI p3))] [.int (iI v14)] _
      refine tn_iload_n dX10_leans_23 rfl 3 rfl ?_
      refine tn_icmp_ne (tgt := 31) dX10_leans_24 (by decide) ⟨by omega, by omega⟩ ⟨by omega, by omega⟩ (fun h15 => ?_) (fun h15 => ?_)
      · refine tn_iconst dX10_leans_31 ?_
        refine tn_goto (tgt := 44) dX10_leans_32 (by decide) ?_
        exact tn_zret (v := 0) rfl (by decide) dX10_leans_44 ⟨_, rfl, rfl, rfl, by omega⟩
      · refine tn_iconst dX10_leans_27 ?_
        refine tn_goto (tgt := 44) dX10_leans_28 (by decide) ?_
        exact tn_zret (v := 1) rfl (by decide) dX10_leans_44 ⟨_, rfl, rfl, rfl, by omega⟩
  · refine tn_iconst dX10_leans_6 ?_
    exact tn_zret (v := 0) rfl (by decide) dX10_leans_7 ⟨_, rfl, rfl, rfl, by omega⟩
end
section
theorem cd_X10_nameBind : Cond.code yX10_nameBind cX10_nameBind 5 none ∈ pWW := pw4 (List.mem_of_getElem? (i := 118) rfl) rfl
abbrev m_X10_nameBind : MT := (yX10_nameBind, cX10_nameBind, 5, none)
theorem ok_X10_nameBind : pOk m_X10_nameBind := ⟨⟨cd_X10_nameBind, ini_10⟩, by decide +kernel, ⟨by decide +kernel, by decide +kernel⟩, Nat.le_of_ble_eq_true rfl⟩
theorem np_X10_nameBind : (parseMethodDescriptor yX10_nameBind.desc).map (fun d => d.parameters.length) = some 2 := by decide +kernel
theorem im_X10_nameBind : Cond.instanceMethod yX10_nameBind ∈ pWW := pw4 (List.mem_of_getElem? (i := 117) rfl) rfl
theorem se_X10_nameBind : Cond.selects RX10 yX10_nameBind yX10_nameBind ∈ pWW := pws (List.mem_map.mpr ⟨_, lw_pin 39 rfl, rfl⟩) rfl
theorem fl10_86 : Cond.fieldLink RX10 86 (TX1 3).1 (TX1 3).2.1 (TX1 3).2.2.1 ∈ pWW := pw1 (List.mem_of_getElem? (i := 97) rfl) rfl
theorem dX10_nameBind_0 : decode cX10_nameBind 0 = .ok (.aload_n 1, 1) := by decide +kernel
theorem dX10_nameBind_1 : decode cX10_nameBind 1 = .ok (.iload_n 2, 1) := by decide +kernel
theorem dX10_nameBind_2 : decode cX10_nameBind 2 = .ok (.iconst 0, 1) := by decide +kernel
theorem dX10_nameBind_3 : decode cX10_nameBind 3 = .ok (.invokevirtual 44, 3) := by decide +kernel
theorem dX10_nameBind_6 : decode cX10_nameBind 6 = .ok (.bipush 12, 2) := by decide +kernel
theorem dX10_nameBind_8 : decode cX10_nameBind 8 = .ok (.if_icmp .eq 4, 3) := by decide +kernel
theorem dX10_nameBind_12 : decode cX10_nameBind 12 = .ok (.aload_n 1, 1) := by decide +kernel
theorem dX10_nameBind_13 : decode cX10_nameBind 13 = .ok (.iload_n 2, 1) := by decide +kernel
theorem dX10_nameBind_14 : decode cX10_nameBind 14 = .ok (.bipush 11, 2) := by decide +kernel
theorem dX10_nameBind_16 : decode cX10_nameBind 16 = .ok (.invokevirtual 44, 3) := by decide +kernel
theorem dX10_nameBind_19 : decode cX10_nameBind 19 = .ok (.istore_n 3, 1) := by decide +kernel
theorem dX10_nameBind_20 : decode cX10_nameBind 20 = .ok (.iload_n 3, 1) := by decide +kernel
theorem dX10_nameBind_21 : decode cX10_nameBind 21 = .ok (.bipush 10, 2) := by decide +kernel
theorem dX10_nameBind_23 : decode cX10_nameBind 23 = .ok (.if_icmp .lt 16, 3) := by decide +kernel
theorem dX10_nameBind_39 : decode cX10_nameBind 39 = .ok (.iload_n 3, 1) := by decide +kernel
theorem dX10_nameBind_40 : decode cX10_nameBind 40 = .ok (.iconst 1, 1) := by decide +kernel
theorem dX10_nameBind_41 : decode cX10_nameBind 41 = .ok (.if_icmp .ne 22, 3) := by decide +kernel
theorem dX10_nameBind_63 : decode cX10_nameBind 63 = .ok (.iconst 0, 1) := by decide +kernel
theorem dX10_nameBind_64 : decode cX10_nameBind 64 = .ok (.istore 4, 2) := by decide +kernel
theorem dX10_nameBind_66 : decode cX10_nameBind 66 = .ok (.iload_n 3, 1) := by decide +kernel
theorem dX10_nameBind_67 : decode cX10_nameBind 67 = .ok (.iconst 2, 1) := by decide +kernel
theorem dX10_nameBind_68 : decode cX10_nameBind 68 = .ok (.if_icmp .ne 48, 3) := by decide +kernel
theorem dX10_nameBind_71 : decode cX10_nameBind 71 = .ok (.iload 4, 2) := by decide +kernel
theorem dX10_nameBind_73 : decode cX10_nameBind 73 = .ok (.aload_n 1, 1) := by decide +kernel
theorem dX10_nameBind_74 : decode cX10_nameBind 74 = .ok (.getfield 86, 3) := by decide +kernel
theorem dX10_nameBind_77 : decode cX10_nameBind 77 = .ok (.if_icmp .ge 39, 3) := by decide +kernel
theorem dX10_nameBind_80 : decode cX10_nameBind 80 = .ok (.aload_n 1, 1) := by decide +kernel
theorem dX10_nameBind_81 : decode cX10_nameBind 81 = .ok (.iconst 0, 1) := by decide +kernel
theorem dX10_nameBind_82 : decode cX10_nameBind 82 = .ok (.iload 4, 2) := by decide +kernel
theorem dX10_nameBind_84 : decode cX10_nameBind 84 = .ok (.invokevirtual 47, 3) := by decide +kernel
theorem dX10_nameBind_87 : decode cX10_nameBind 87 = .ok (.aload_n 1, 1) := by decide +kernel
theorem dX10_nameBind_88 : decode cX10_nameBind 88 = .ok (.iload_n 2, 1) := by decide +kernel
theorem dX10_nameBind_89 : decode cX10_nameBind 89 = .ok (.iconst 4, 1) := by decide +kernel
theorem dX10_nameBind_90 : decode cX10_nameBind 90 = .ok (.invokevirtual 44, 3) := by decide +kernel
theorem dX10_nameBind_93 : decode cX10_nameBind 93 = .ok (.if_icmp .ne 17, 3) := by decide +kernel
theorem dX10_nameBind_110 : decode cX10_nameBind 110 = .ok (.iinc 4 1, 3) := by decide +kernel
theorem dX10_nameBind_113 : decode cX10_nameBind 113 = .ok (.goto (-47), 3) := by decide +kernel
set_option maxRecDepth 20000 in
theorem l_X10_nameBind_66 (d : Nat) {T : CT} {σ : MS} {a : Nat} {rx1 : Nat} {c2 : Int} {c3 : Int} {post : Option Value → CT → MS → Prop} (h_a : OB T a 10) (h_rx1 : OB T rx1 1) (t_rx1 : (T rx1).1 = 50) (r_c2 : -2147483648 ≤ c2 ∧ c2 ≤ 2147483647) (r_c3 : -2147483648 ≤ c3 ∧ c3 ≤ 9) (hw : WT T σ) (hx_96 : ∀ (i4 : Int) , (0 ≤ i4 ∧ i4 ≤ 2147483647) → Tn (d + 4) m_X10_nameBind 96 T σ [(0, .ref a), (1, .ref rx1), (2, .int (iI c2)), (3, .int (iI c3)), (4, .int (iI i4))] [] post) (hx_116 : ∀ (i4 : Int) , (0 ≤ i4 ∧ i4 ≤ 2147483647) → Tn (d + 4) m_X10_nameBind 116 T σ [(0, .ref a), (1, .ref rx1), (2, .int (iI c2)), (3, .int (iI c3)), (4, .int (iI i4))] [] post) : ∀ (n : Nat) (i4 : Int) , (0 ≤ i4 ∧ i4 ≤ 2147483647) → (2147483700 - i4).toNat = n → Tn (d + 4) m_X10_nameBind 66 T σ [(0, .ref a), (1, .ref rx1), (2, .int (iI c2)), (3, .int (iI c3)), (4, .int (iI i4))] [] post := by
  intro n
  induction n using Nat.strongRecOn with
  | _ n ih =>
    intro i4 r_i4 hm
    refine tn_iload_n dX10_nameBind_66 rfl 3 rfl ?_
    refine tn_iconst dX10_nameBind_67 ?_
    refine tn_icmp_ne (tgt := 116) dX10_nameBind_68 (by decide) ⟨by omega, by omega⟩ ⟨by decide, by decide⟩ (fun h1 => ?_) (fun h1 => ?_)
    · exact tn_sub [0, 1, 2, 3, 4] rfl (hx_116 (i4) (by omega))
    · refine tn_iload dX10_nameBind_71 4 rfl ?_
      refine tn_aload_n dX10_nameBind_73 rfl 1 rfl ?_
      refine tn_getI (ci := 1) (i := 3) (n := 8) (t := σ.2.1 8 rx1) dX10_nameBind_74 rfl lay_1 (by decide) fl10_86 h_rx1 rfl rfl (rfl) ?_
      have g2 : ((0 : Int) ≤ σ.2.1 8 rx1 ∧ σ.2.1 8 rx1 ≤ 4) := wf_8 hw h_rx1
      refine tn_icmp_ge (tgt := 116) dX10_nameBind_77 (by decide) ⟨by omega, by omega⟩ ⟨by omega, by omega⟩ (fun h3 => ?_) (fun h3 => ?_)
      · exact tn_sub [0, 1, 2, 3, 4] rfl (hx_116 (i4) (by omega))
      · refine tn_aload_n dX10_nameBind_80 rfl 1 rfl ?_
        refine tn_iconst dX10_nameBind_81 ?_
        refine tn_iload dX10_nameBind_82 4 rfl ?_
        refine tn_callV (M := m_X10_nameBind) (pc := 84) (ix := 47) (ci := 1) (M' := m_X1_homeOf) (As := [.int (iI 0), .int (iI i4)]) (rest := []) dX10_nameBind_84 ok_X1_homeOf im_X1_homeOf se_X1_homeOf ml10_47 np_X1_homeOf rfl rfl h_rx1 rfl (Nat.le_of_ble_eq_true rfl) (Nat.le_of_ble_eq_true rfl) rfl (k_X1_homeOf (d + 1) (T := T) (σ := σ) (a := rx1) (f := 0) (m := i4) h_rx1 (by decide) (by omega) hw ) (fun r4 T6 σ5 gt7 hp => ?_)
        obtain ⟨v9, rfl, rfl, rfl, f8⟩ := hp
        clear gt7
        show Tn _ _ 87 T σ [(0, .ref a), (1, .ref rx1), (2, .int (iI c2)), (3, .int (iI c3)), (4, .int (iI i4))] [.int (iI v9)] _
        refine tn_aload_n dX10_nameBind_87 rfl 1 rfl ?_
        refine tn_iload_n dX10_nameBind_88 rfl 2 rfl ?_
        refine tn_iconst dX10_nameBind_89 ?_
        refine tn_callV (M := m_X10_nameBind) (pc := 90) (ix := 44) (ci := 1) (M' := m_X1_get) (As := [.int (iI c2), .int (iI 4)]) (rest := [.int (iI v9)]) dX10_nameBind_90 ok_X1_get im_X1_get se_X1_get ml10_44 np_X1_get rfl rfl h_rx1 rfl (Nat.le_of_ble_eq_true rfl) (Nat.le_of_ble_eq_true rfl) rfl (k_X1_get (d + 2) (T := T) (σ := σ) (a := rx1) (k := c2) (c := 4) h_rx1 (by omega) (by decide) hw (by omega)) (fun r10 T12 σ11 gt13 hp => ?_)
        obtain ⟨v15, rfl, rfl, rfl, f14⟩ := hp
        clear gt13
        show Tn _ _ 93 T σ [(0, .ref a), (1, .ref rx1), (2, .int (iI c2)), (3, .int (iI c3)), (4, .int (iI i4))] [.int (iI v15), .int (iI v9)] _
        refine tn_icmp_ne (tgt := 110) dX10_nameBind_93 (by decide) ⟨by omega, by omega⟩ ⟨by omega, by omega⟩ (fun h16 => ?_) (fun h16 => ?_)
        · refine tn_iinc (q0 := 4) (L' := [(4, .int (iI (i4 + 1))), (0, .ref a), (1, .ref rx1), (2, .int (iI c2)), (3, .int (iI c3))]) dX10_nameBind_110 rfl (by decide) rfl ?_
          refine tn_goto (tgt := 66) dX10_nameBind_113 (by decide) ?_
          exact tn_sub [1, 2, 3, 4, 0] rfl (ih _ (by omega) (i4 + 1) (by omega) rfl)
        · exact tn_sub [0, 1, 2, 3, 4] rfl (hx_96 (i4) (by omega))
theorem fl10_20 : Cond.fieldLink RX10 20 (TX10 2).1 (TX10 2).2.1 (TX10 2).2.2.1 ∈ pWW := pw2 (List.mem_of_getElem? (i := 9) rfl) rfl
theorem ml10_89 : Cond.methodLink RX10 89 yX1_sameWhere ∈ pWW := pw4 (List.mem_of_getElem? (i := 121) rfl) rfl
theorem dX10_nameBind_96 : decode cX10_nameBind 96 = .ok (.aload_n 0, 1) := by decide +kernel
theorem dX10_nameBind_97 : decode cX10_nameBind 97 = .ok (.getfield 20, 3) := by decide +kernel
theorem dX10_nameBind_100 : decode cX10_nameBind 100 = .ok (.iload_n 2, 1) := by decide +kernel
theorem dX10_nameBind_101 : decode cX10_nameBind 101 = .ok (.bipush 6, 2) := by decide +kernel
theorem dX10_nameBind_103 : decode cX10_nameBind 103 = .ok (.iload 4, 2) := by decide +kernel
theorem dX10_nameBind_105 : decode cX10_nameBind 105 = .ok (.iadd, 1) := by decide +kernel
theorem dX10_nameBind_106 : decode cX10_nameBind 106 = .ok (.invokestatic 26, 3) := by decide +kernel
theorem dX10_nameBind_109 : decode cX10_nameBind 109 = .ok (.return_, 1) := by decide +kernel
theorem dX10_nameBind_116 : decode cX10_nameBind 116 = .ok (.iconst 0, 1) := by decide +kernel
theorem dX10_nameBind_117 : decode cX10_nameBind 117 = .ok (.istore 4, 2) := by decide +kernel
theorem dX10_nameBind_119 : decode cX10_nameBind 119 = .ok (.iload 4, 2) := by decide +kernel
theorem dX10_nameBind_121 : decode cX10_nameBind 121 = .ok (.iload_n 2, 1) := by decide +kernel
theorem dX10_nameBind_122 : decode cX10_nameBind 122 = .ok (.if_icmp .ge 31, 3) := by decide +kernel
theorem dX10_nameBind_125 : decode cX10_nameBind 125 = .ok (.aload_n 1, 1) := by decide +kernel
theorem dX10_nameBind_126 : decode cX10_nameBind 126 = .ok (.iload 4, 2) := by decide +kernel
theorem dX10_nameBind_128 : decode cX10_nameBind 128 = .ok (.iconst 0, 1) := by decide +kernel
theorem dX10_nameBind_129 : decode cX10_nameBind 129 = .ok (.invokevirtual 44, 3) := by decide +kernel
theorem dX10_nameBind_132 : decode cX10_nameBind 132 = .ok (.bipush 12, 2) := by decide +kernel
theorem dX10_nameBind_134 : decode cX10_nameBind 134 = .ok (.if_icmp .ne 13, 3) := by decide +kernel
theorem dX10_nameBind_147 : decode cX10_nameBind 147 = .ok (.iinc 4 1, 3) := by decide +kernel
theorem dX10_nameBind_150 : decode cX10_nameBind 150 = .ok (.goto (-31), 3) := by decide +kernel
theorem dX10_nameBind_137 : decode cX10_nameBind 137 = .ok (.aload_n 1, 1) := by decide +kernel
theorem dX10_nameBind_138 : decode cX10_nameBind 138 = .ok (.iload 4, 2) := by decide +kernel
theorem dX10_nameBind_140 : decode cX10_nameBind 140 = .ok (.iload_n 2, 1) := by decide +kernel
theorem dX10_nameBind_141 : decode cX10_nameBind 141 = .ok (.invokevirtual 89, 3) := by decide +kernel
theorem dX10_nameBind_144 : decode cX10_nameBind 144 = .ok (.ifCond .ne 9, 3) := by decide +kernel
set_option maxRecDepth 20000 in
theorem l_X10_nameBind_119 (d : Nat) {T : CT} {σ : MS} {a : Nat} {rx1 : Nat} {c2 : Int} {post : Option Value → CT → MS → Prop} (h_a : OB T a 10) (h_rx1 : OB T rx1 1) (t_rx1 : (T rx1).1 = 50) (r_c2 : -2147483648 ≤ c2 ∧ c2 ≤ 2147483647) (hw : WT T σ) (hx_153 : ∀ (i4 : Int) , (0 ≤ i4 ∧ i4 ≤ 2147483647) → Tn (d + 4) m_X10_nameBind 153 T σ [(0, .ref a), (1, .ref rx1), (2, .int (iI c2)), (4, .int (iI i4))] [] post) : ∀ (n : Nat) (i4 : Int) , (0 ≤ i4 ∧ i4 ≤ 2147483647) → (2147483700 - i4).toNat = n → Tn (d + 4) m_X10_nameBind 119 T σ [(0, .ref a), (1, .ref rx1), (2, .int (iI c2)), (4, .int (iI i4))] [] post := by
  intro n
  induction n using Nat.strongRecOn with
  | _ n ih =>
    intro i4 r_i4 hm
    refine tn_iload dX10_nameBind_119 3 rfl ?_
    refine tn_iload_n dX10_nameBind_121 rfl 2 rfl ?_
    refine tn_icmp_ge (tgt := 153) dX10_nameBind_122 (by decide) ⟨by omega, by omega⟩ ⟨by omega, by omega⟩ (fun h1 => ?_) (fun h1 => ?_)
    · exact tn_sub [0, 1, 2, 3] rfl (hx_153 (i4) (by omega))
    · refine tn_aload_n dX10_nameBind_125 rfl 1 rfl ?_
      refine tn_iload dX10_nameBind_126 3 rfl ?_
      refine tn_iconst dX10_nameBind_128 ?_
      refine tn_callV (M := m_X10_nameBind) (pc := 129) (ix := 44) (ci := 1) (M' := m_X1_get) (As := [.int (iI i4), .int (iI 0)]) (rest := []) dX10_nameBind_129 ok_X1_get im_X1_get se_X1_get ml10_44 np_X1_get rfl rfl h_rx1 rfl (Nat.le_of_ble_eq_true rfl) (Nat.le_of_ble_eq_true rfl) rfl (k_X1_get (d + 2) (T := T) (σ := σ) (a := rx1) (k := i4) (c := 0) h_rx1 (by omega) (by decide) hw (by omega)) (fun r2 T4 σ3 gt5 hp => ?_)
      obtain ⟨v7, rfl, rfl, rfl, f6⟩ := hp
      clear gt5
      show Tn _ _ 132 T σ [(0, .ref a), (1, .ref rx1), (2, .int (iI c2)), (4, .int (iI i4))] [.int (iI v7)] _
      refine tn_bipush dX10_nameBind_132 (by decide) ?_
      refine tn_icmp_ne (tgt := 147) dX10_nameBind_134 (by decide) ⟨by omega, by omega⟩ ⟨by decide, by decide⟩ (fun h8 => ?_) (fun h8 => ?_)
      · refine tn_iinc (q0 := 3) (L' := [(4, .int (iI (i4 + 1))), (0, .ref a), (1, .ref rx1), (2, .int (iI c2))]) dX10_nameBind_147 rfl (by decide) rfl ?_
        refine tn_goto (tgt := 119) dX10_nameBind_150 (by decide) ?_
        exact tn_sub [1, 2, 3, 0] rfl (ih _ (by omega) (i4 + 1) (by omega) rfl)
      · refine tn_aload_n dX10_nameBind_137 rfl 1 rfl ?_
        refine tn_iload dX10_nameBind_138 3 rfl ?_
        refine tn_iload_n dX10_nameBind_140 rfl 2 rfl ?_
        refine tn_callV (M := m_X10_nameBind) (pc := 141) (ix := 89) (ci := 1) (M' := m_X1_sameWhere) (As := [.int (iI i4), .int (iI c2)]) (rest := []) dX10_nameBind_141 ok_X1_sameWhere im_X1_sameWhere se_X1_sameWhere ml10_89 np_X1_sameWhere rfl rfl h_rx1 rfl (Nat.le_of_ble_eq_true rfl) (Nat.le_of_ble_eq_true rfl) rfl (k_X1_sameWhere (d) (T := T) (σ := σ) (a := rx1) (k := i4) (j := c2) h_rx1 (by omega) (by omega) hw ) (fun r9 T11 σ10 gt12 hp => ?_)
        obtain ⟨v14, rfl, rfl, rfl, f13⟩ := hp
        clear gt12
        show Tn _ _ 144 T σ [(0, .ref a), (1, .ref rx1), (2, .int (iI c2)), (4, .int (iI i4))] [.int (iI v14)] _
        refine tn_if_ne (tgt := 153) dX10_nameBind_144 (by decide) ⟨by omega, by omega⟩ (fun h15 => ?_) (fun h15 => ?_)
        · exact tn_sub [0, 1, 2, 3] rfl (hx_153 (i4) (by omega))
        · refine tn_iinc (q0 := 3) (L' := [(4, .int (iI (i4 + 1))), (0, .ref a), (1, .ref rx1), (2, .int (iI c2))]) dX10_nameBind_147 rfl (by decide) rfl ?_
          refine tn_goto (tgt := 119) dX10_nameBind_150 (by decide) ?_
          exact tn_sub [1, 2, 3, 0] rfl (ih _ (by omega) (i4 + 1) (by omega) rfl)
theorem dX10_nameBind_153 : decode cX10_nameBind 153 = .ok (.aload_n 0, 1) := by decide +kernel
theorem dX10_nameBind_154 : decode cX10_nameBind 154 = .ok (.getfield 20, 3) := by decide +kernel
theorem dX10_nameBind_157 : decode cX10_nameBind 157 = .ok (.iload_n 2, 1) := by decide +kernel
theorem dX10_nameBind_158 : decode cX10_nameBind 158 = .ok (.bipush 10, 2) := by decide +kernel
theorem dX10_nameBind_160 : decode cX10_nameBind 160 = .ok (.iload 4, 2) := by decide +kernel
theorem dX10_nameBind_162 : decode cX10_nameBind 162 = .ok (.iadd, 1) := by decide +kernel
theorem dX10_nameBind_163 : decode cX10_nameBind 163 = .ok (.invokestatic 26, 3) := by decide +kernel
theorem dX10_nameBind_166 : decode cX10_nameBind 166 = .ok (.return_, 1) := by decide +kernel
theorem dX10_nameBind_44 : decode cX10_nameBind 44 = .ok (.aload_n 1, 1) := by decide +kernel
theorem dX10_nameBind_45 : decode cX10_nameBind 45 = .ok (.iload_n 2, 1) := by decide +kernel
theorem dX10_nameBind_46 : decode cX10_nameBind 46 = .ok (.iconst 4, 1) := by decide +kernel
theorem dX10_nameBind_47 : decode cX10_nameBind 47 = .ok (.invokevirtual 44, 3) := by decide +kernel
theorem dX10_nameBind_50 : decode cX10_nameBind 50 = .ok (.ifCond .ne 13, 3) := by decide +kernel
theorem dX10_nameBind_53 : decode cX10_nameBind 53 = .ok (.aload_n 0, 1) := by decide +kernel
theorem dX10_nameBind_54 : decode cX10_nameBind 54 = .ok (.getfield 20, 3) := by decide +kernel
theorem dX10_nameBind_57 : decode cX10_nameBind 57 = .ok (.iload_n 2, 1) := by decide +kernel
theorem dX10_nameBind_58 : decode cX10_nameBind 58 = .ok (.iconst 5, 1) := by decide +kernel
theorem dX10_nameBind_59 : decode cX10_nameBind 59 = .ok (.invokestatic 26, 3) := by decide +kernel
theorem dX10_nameBind_62 : decode cX10_nameBind 62 = .ok (.return_, 1) := by decide +kernel
theorem dX10_nameBind_26 : decode cX10_nameBind 26 = .ok (.aload_n 0, 1) := by decide +kernel
theorem dX10_nameBind_27 : decode cX10_nameBind 27 = .ok (.getfield 20, 3) := by decide +kernel
theorem dX10_nameBind_30 : decode cX10_nameBind 30 = .ok (.iload_n 2, 1) := by decide +kernel
theorem dX10_nameBind_31 : decode cX10_nameBind 31 = .ok (.iload_n 3, 1) := by decide +kernel
theorem dX10_nameBind_32 : decode cX10_nameBind 32 = .ok (.bipush 10, 2) := by decide +kernel
theorem dX10_nameBind_34 : decode cX10_nameBind 34 = .ok (.isub, 1) := by decide +kernel
theorem dX10_nameBind_35 : decode cX10_nameBind 35 = .ok (.invokestatic 26, 3) := by decide +kernel
theorem dX10_nameBind_38 : decode cX10_nameBind 38 = .ok (.return_, 1) := by decide +kernel
theorem dX10_nameBind_11 : decode cX10_nameBind 11 = .ok (.return_, 1) := by decide +kernel
set_option maxRecDepth 20000 in
theorem k_X10_nameBind (d : Nat) {T : CT} {σ : MS} {a : Nat} {p1 : Nat} {p2 : Int} (ha : OB T a 10) (h_p1 : OB T p1 1) (t_p1 : (T p1).1 = 50) (h_p2 : -2147483648 ≤ p2 ∧ p2 ≤ 2147483647) (hw : WT T σ) : Tn (d + 4) m_X10_nameBind 0 T σ [(0, .ref a), (1, .ref p1), (2, .int (iI p2))] [] (fun ro T2 σ2 => ro = none ∧ T = T2 ∧ WT T2 σ2 ∧ FrC T [] σ σ2) := by
  refine tn_aload_n dX10_nameBind_0 rfl 1 rfl ?_
  refine tn_iload_n dX10_nameBind_1 rfl 2 rfl ?_
  refine tn_iconst dX10_nameBind_2 ?_
  refine tn_callV (M := m_X10_nameBind) (pc := 3) (ix := 44) (ci := 1) (M' := m_X1_get) (As := [.int (iI p2), .int (iI 0)]) (rest := []) dX10_nameBind_3 ok_X1_get im_X1_get se_X1_get ml10_44 np_X1_get rfl rfl h_p1 rfl (Nat.le_of_ble_eq_true rfl) (Nat.le_of_ble_eq_true rfl) rfl (k_X1_get (d + 2) (T := T) (σ := σ) (a := p1) (k := p2) (c := 0) h_p1 (by omega) (by decide) hw (by omega)) (fun r1 T3 σ2 gt4 hp => ?_)
  obtain ⟨v6, rfl, rfl, rfl, f5⟩ := hp
  clear gt4
  show Tn _ _ 6 T σ [(0, .ref a), (1, .ref p1), (2, .int (iI p2))] [.int (iI v6)] _
  refine tn_bipush dX10_nameBind_6 (by decide) ?_
  refine tn_icmp_eq (tgt := 12) dX10_nameBind_8 (by decide) ⟨by omega, by omega⟩ ⟨by decide, by decide⟩ (fun h7 => ?_) (fun h7 => ?_)
  · refine tn_aload_n dX10_nameBind_12 rfl 1 rfl ?_
    refine tn_iload_n dX10_nameBind_13 rfl 2 rfl ?_
    refine tn_bipush dX10_nameBind_14 (by decide) ?_
    refine tn_callV (M := m_X10_nameBind) (pc := 16) (ix := 44) (ci := 1) (M' := m_X1_get) (As := [.int (iI p2), .int (iI 11)]) (rest := []) dX10_nameBind_16 ok_X1_get im_X1_get se_X1_get ml10_44 np_X1_get rfl rfl h_p1 rfl (Nat.le_of_ble_eq_true rfl) (Nat.le_of_ble_eq_true rfl) rfl (k_X1_get (d + 2) (T := T) (σ := σ) (a := p1) (k := p2) (c := 11) h_p1 (by omega) (by decide) hw (by omega)) (fun r8 T10 σ9 gt11 hp => ?_)
    obtain ⟨v13, rfl, rfl, rfl, f12⟩ := hp
    clear gt11
    show Tn _ _ 19 T σ [(0, .ref a), (1, .ref p1), (2, .int (iI p2))] [.int (iI v13)] _
    refine tn_istore_n (L' := [(3, .int (iI v13)), (0, .ref a), (1, .ref p1), (2, .int (iI p2))]) dX10_nameBind_19 rfl (by decide) rfl ?_
    refine tn_iload_n dX10_nameBind_20 rfl 0 rfl ?_
    refine tn_bipush dX10_nameBind_21 (by decide) ?_
    refine tn_icmp_lt (tgt := 39) dX10_nameBind_23 (by decide) ⟨by omega, by omega⟩ ⟨by decide, by decide⟩ (fun h14 => ?_) (fun h14 => ?_)
    · refine tn_iload_n dX10_nameBind_39 rfl 0 rfl ?_
      refine tn_iconst dX10_nameBind_40 ?_
      refine tn_icmp_ne (tgt := 63) dX10_nameBind_41 (by decide) ⟨by omega, by omega⟩ ⟨by decide, by decide⟩ (fun h15 => ?_) (fun h15 => ?_)
      · refine tn_iconst dX10_nameBind_63 ?_
        refine tn_istore (L' := [(4, .int (iI 0)), (3, .int (iI v13)), (0, .ref a), (1, .ref p1), (2, .int (iI p2))]) dX10_nameBind_64 (by decide) rfl ?_
        refine tn_sub [2, 3, 4, 1, 0] rfl (l_X10_nameBind_66 (d) (T := T) (σ := σ) (a := a) (rx1 := p1) (c2 := p2) (c3 := v13) ha h_p1 t_p1 (by omega) (by omega) hw (fun i416 r22 => ?_) (fun i423 r29 => ?_) _ (0) (by omega) rfl)
        · show Tn _ _ 96 T σ [(0, .ref a), (1, .ref p1), (2, .int (iI p2)), (3, .int (iI v13)), (4, .int (iI i416))] [] _
          refine tn_aload_n dX10_nameBind_96 rfl 0 rfl ?_
          obtain ⟨x30, hx31, hk32, hl33⟩ : ∃ x : Nat, σ.2.1 90 a = (x : Int) ∧ AR T x 1 200 200 := wf_90 hw ha
          have hk32i : IA T x30 := by unfold IA; omega
          refine tn_getR (ci := 10) (i := 2) (n := 90) (x := x30) dX10_nameBind_97 rfl lay_10 (by decide) fl10_20 ha rfl rfl (hx31) ?_
          refine tn_iload_n dX10_nameBind_100 rfl 2 rfl ?_
          refine tn_bipush dX10_nameBind_101 (by decide) ?_
          refine tn_iload dX10_nameBind_103 4 rfl ?_
          refine tn_iadd dX10_nameBind_105 ?_
          refine tn_any (fun z34 g35 => ?_)
          have g35r : -2147483648 ≤ z34 ∧ z34 ≤ 2147483647 := g35
          refine tn_callSN (M := m_X10_nameBind) (pc := 106) (ix := 26) (M' := m_X11_put) (As := [.ref x30, .int (iI p2), .int (iI z34)]) (rest := []) dX10_nameBind_106 ok_X11_put stt_X11_put nl10_26 np_X11_put rfl (Nat.le_of_ble_eq_true rfl) (Nat.le_of_ble_eq_true rfl) rfl (k_X11_put (d + 2) (T := T) (σ := σ) (x := x30) (i := p2) (y := z34) hk32i (by omega) (by omega) (by omega) hw (nh_k hk32 (by unfold HT; omega)) (vok_1 (by have q9 := hk32; omega) (by omega))) (fun r36 T38 σ37 gt39 hp => ?_)
          obtain ⟨rfl, rfl, w41, F42⟩ := hp
          clear gt39
          show Tn _ _ 109 T σ37 [(0, .ref a), (1, .ref p1), (2, .int (iI p2)), (3, .int (iI v13)), (4, .int (iI i416))] [] _
          exact tn_vret rfl dX10_nameBind_109 ⟨rfl, rfl, w41, (FrC.rfl.trans (FrC.sub F42 (by decide)))⟩
        · show Tn _ _ 116 T σ [(0, .ref a), (1, .ref p1), (2, .int (iI p2)), (3, .int (iI v13)), (4, .int (iI i423))] [] _
          refine tn_iconst dX10_nameBind_116 ?_
          refine tn_istore (L' := [(4, .int (iI 0)), (0, .ref a), (1, .ref p1), (2, .int (iI p2)), (3, .int (iI v13))]) dX10_nameBind_117 (by decide) rfl ?_
          refine tn_sub [1, 2, 3, 0] rfl (l_X10_nameBind_119 (d) (T := T) (σ := σ) (a := a) (rx1 := p1) (c2 := p2) ha h_p1 t_p1 (by omega) hw (fun i443 r49 => ?_) _ (0) (by omega) rfl)
          show Tn _ _ 153 T σ [(0, .ref a), (1, .ref p1), (2, .int (iI p2)), (4, .int (iI i443))] [] _
          refine tn_aload_n dX10_nameBind_153 rfl 0 rfl ?_
          obtain ⟨x50, hx51, hk52, hl53⟩ : ∃ x : Nat, σ.2.1 90 a = (x : Int) ∧ AR T x 1 200 200 := wf_90 hw ha
          have hk52i : IA T x50 := by unfold IA; omega
          refine tn_getR (ci := 10) (i := 2) (n := 90) (x := x50) dX10_nameBind_154 rfl lay_10 (by decide) fl10_20 ha rfl rfl (hx51) ?_
          refine tn_iload_n dX10_nameBind_157 rfl 2 rfl ?_
          refine tn_bipush dX10_nameBind_158 (by decide) ?_
          refine tn_iload dX10_nameBind_160 3 rfl ?_
          refine tn_iadd dX10_nameBind_162 ?_
          refine tn_any (fun z54 g55 => ?_)
          have g55r : -2147483648 ≤ z54 ∧ z54 ≤ 2147483647 := g55
          refine tn_callSN (M := m_X10_nameBind) (pc := 163) (ix := 26) (M' := m_X11_put) (As := [.ref x50, .int (iI p2), .int (iI z54)]) (rest := []) dX10_nameBind_163 ok_X11_put stt_X11_put nl10_26 np_X11_put rfl (Nat.le_of_ble_eq_true rfl) (Nat.le_of_ble_eq_true rfl) rfl (k_X11_put (d + 2) (T := T) (σ := σ) (x := x50) (i := p2) (y := z54) hk52i (by omega) (by omega) (by omega) hw (nh_k hk52 (by unfold HT; omega)) (vok_1 (by have q9 := hk52; omega) (by omega))) (fun r56 T58 σ57 gt59 hp => ?_)
          obtain ⟨rfl, rfl, w61, F62⟩ := hp
          clear gt59
          show Tn _ _ 166 T σ57 [(0, .ref a), (1, .ref p1), (2, .int (iI p2)), (4, .int (iI i443))] [] _
          exact tn_vret rfl dX10_nameBind_166 ⟨rfl, rfl, w61, (FrC.rfl.trans (FrC.sub F62 (by decide)))⟩
      · refine tn_aload_n dX10_nameBind_44 rfl 2 rfl ?_
        refine tn_iload_n dX10_nameBind_45 rfl 3 rfl ?_
        refine tn_iconst dX10_nameBind_46 ?_
        refine tn_callV (M := m_X10_nameBind) (pc := 47) (ix := 44) (ci := 1) (M' := m_X1_get) (As := [.int (iI p2), .int (iI 4)]) (rest := []) dX10_nameBind_47 ok_X1_get im_X1_get se_X1_get ml10_44 np_X1_get rfl rfl h_p1 rfl (Nat.le_of_ble_eq_true rfl) (Nat.le_of_ble_eq_true rfl) rfl (k_X1_get (d + 2) (T := T) (σ := σ) (a := p1) (k := p2) (c := 4) h_p1 (by omega) (by decide) hw (by omega)) (fun r63 T65 σ64 gt66 hp => ?_)
        obtain ⟨v68, rfl, rfl, rfl, f67⟩ := hp
        clear gt66
        show Tn _ _ 50 T σ [(3, .int (iI v13)), (0, .ref a), (1, .ref p1), (2, .int (iI p2))] [.int (iI v68)] _
        refine tn_if_ne (tgt := 63) dX10_nameBind_50 (by decide) ⟨by omega, by omega⟩ (fun h69 => ?_) (fun h69 => ?_)
        · refine tn_iconst dX10_nameBind_63 ?_
          refine tn_istore (L' := [(4, .int (iI 0)), (3, .int (iI v13)), (0, .ref a), (1, .ref p1), (2, .int (iI p2))]) dX10_nameBind_64 (by decide) rfl ?_
          refine tn_sub [2, 3, 4, 1, 0] rfl (l_X10_nameBind_66 (d) (T := T) (σ := σ) (a := a) (rx1 := p1) (c2 := p2) (c3 := v13) ha h_p1 t_p1 (by omega) (by omega) hw (fun i470 r76 => ?_) (fun i477 r83 => ?_) _ (0) (by omega) rfl)
          · show Tn _ _ 96 T σ [(0, .ref a), (1, .ref p1), (2, .int (iI p2)), (3, .int (iI v13)), (4, .int (iI i470))] [] _
            refine tn_aload_n dX10_nameBind_96 rfl 0 rfl ?_
            obtain ⟨x84, hx85, hk86, hl87⟩ : ∃ x : Nat, σ.2.1 90 a = (x : Int) ∧ AR T x 1 200 200 := wf_90 hw ha
            have hk86i : IA T x84 := by unfold IA; omega
            refine tn_getR (ci := 10) (i := 2) (n := 90) (x := x84) dX10_nameBind_97 rfl lay_10 (by decide) fl10_20 ha rfl rfl (hx85) ?_
            refine tn_iload_n dX10_nameBind_100 rfl 2 rfl ?_
            refine tn_bipush dX10_nameBind_101 (by decide) ?_
            refine tn_iload dX10_nameBind_103 4 rfl ?_
            refine tn_iadd dX10_nameBind_105 ?_
            refine tn_any (fun z88 g89 => ?_)
            have g89r : -2147483648 ≤ z88 ∧ z88 ≤ 2147483647 := g89
            refine tn_callSN (M := m_X10_nameBind) (pc := 106) (ix := 26) (M' := m_X11_put) (As := [.ref x84, .int (iI p2), .int (iI z88)]) (rest := []) dX10_nameBind_106 ok_X11_put stt_X11_put nl10_26 np_X11_put rfl (Nat.le_of_ble_eq_true rfl) (Nat.le_of_ble_eq_true rfl) rfl (k_X11_put (d + 2) (T := T) (σ := σ) (x := x84) (i := p2) (y := z88) hk86i (by omega) (by omega) (by omega) hw (nh_k hk86 (by unfold HT; omega)) (vok_1 (by have q9 := hk86; omega) (by omega))) (fun r90 T92 σ91 gt93 hp => ?_)
            obtain ⟨rfl, rfl, w95, F96⟩ := hp
            clear gt93
            show Tn _ _ 109 T σ91 [(0, .ref a), (1, .ref p1), (2, .int (iI p2)), (3, .int (iI v13)), (4, .int (iI i470))] [] _
            exact tn_vret rfl dX10_nameBind_109 ⟨rfl, rfl, w95, (FrC.rfl.trans (FrC.sub F96 (by decide)))⟩
          · show Tn _ _ 116 T σ [(0, .ref a), (1, .ref p1), (2, .int (iI p2)), (3, .int (iI v13)), (4, .int (iI i477))] [] _
            refine tn_iconst dX10_nameBind_116 ?_
            refine tn_istore (L' := [(4, .int (iI 0)), (0, .ref a), (1, .ref p1), (2, .int (iI p2)), (3, .int (iI v13))]) dX10_nameBind_117 (by decide) rfl ?_
            refine tn_sub [1, 2, 3, 0] rfl (l_X10_nameBind_119 (d) (T := T) (σ := σ) (a := a) (rx1 := p1) (c2 := p2) ha h_p1 t_p1 (by omega) hw (fun i497 r103 => ?_) _ (0) (by omega) rfl)
            show Tn _ _ 153 T σ [(0, .ref a), (1, .ref p1), (2, .int (iI p2)), (4, .int (iI i497))] [] _
            refine tn_aload_n dX10_nameBind_153 rfl 0 rfl ?_
            obtain ⟨x104, hx105, hk106, hl107⟩ : ∃ x : Nat, σ.2.1 90 a = (x : Int) ∧ AR T x 1 200 200 := wf_90 hw ha
            have hk106i : IA T x104 := by unfold IA; omega
            refine tn_getR (ci := 10) (i := 2) (n := 90) (x := x104) dX10_nameBind_154 rfl lay_10 (by decide) fl10_20 ha rfl rfl (hx105) ?_
            refine tn_iload_n dX10_nameBind_157 rfl 2 rfl ?_
            refine tn_bipush dX10_nameBind_158 (by decide) ?_
            refine tn_iload dX10_nameBind_160 3 rfl ?_
            refine tn_iadd dX10_nameBind_162 ?_
            refine tn_any (fun z108 g109 => ?_)
            have g109r : -2147483648 ≤ z108 ∧ z108 ≤ 2147483647 := g109
            refine tn_callSN (M := m_X10_nameBind) (pc := 163) (ix := 26) (M' := m_X11_put) (As := [.ref x104, .int (iI p2), .int (iI z108)]) (rest := []) dX10_nameBind_163 ok_X11_put stt_X11_put nl10_26 np_X11_put rfl (Nat.le_of_ble_eq_true rfl) (Nat.le_of_ble_eq_true rfl) rfl (k_X11_put (d + 2) (T := T) (σ := σ) (x := x104) (i := p2) (y := z108) hk106i (by omega) (by omega) (by omega) hw (nh_k hk106 (by unfold HT; omega)) (vok_1 (by have q9 := hk106; omega) (by omega))) (fun r110 T112 σ111 gt113 hp => ?_)
            obtain ⟨rfl, rfl, w115, F116⟩ := hp
            clear gt113
            show Tn _ _ 166 T σ111 [(0, .ref a), (1, .ref p1), (2, .int (iI p2)), (4, .int (iI i497))] [] _
            exact tn_vret rfl dX10_nameBind_166 ⟨rfl, rfl, w115, (FrC.rfl.trans (FrC.sub F116 (by decide)))⟩
        · refine tn_aload_n dX10_nameBind_53 rfl 1 rfl ?_
          obtain ⟨x117, hx118, hk119, hl120⟩ : ∃ x : Nat, σ.2.1 90 a = (x : Int) ∧ AR T x 1 200 200 := wf_90 hw ha
          have hk119i : IA T x117 := by unfold IA; omega
          refine tn_getR (ci := 10) (i := 2) (n := 90) (x := x117) dX10_nameBind_54 rfl lay_10 (by decide) fl10_20 ha rfl rfl (hx118) ?_
          refine tn_iload_n dX10_nameBind_57 rfl 3 rfl ?_
          refine tn_iconst dX10_nameBind_58 ?_
          refine tn_callSN (M := m_X10_nameBind) (pc := 59) (ix := 26) (M' := m_X11_put) (As := [.ref x117, .int (iI p2), .int (iI 5)]) (rest := []) dX10_nameBind_59 ok_X11_put stt_X11_put nl10_26 np_X11_put rfl (Nat.le_of_ble_eq_true rfl) (Nat.le_of_ble_eq_true rfl) rfl (k_X11_put (d + 2) (T := T) (σ := σ) (x := x117) (i := p2) (y := 5) hk119i (by omega) (by omega) (by decide) hw (nh_k hk119 (by unfold HT; omega)) (vok_1 (by have q9 := hk119; omega) (by omega))) (fun r121 T123 σ122 gt124 hp => ?_)
          obtain ⟨rfl, rfl, w126, F127⟩ := hp
          clear gt124
          show Tn _ _ 62 T σ122 [(3, .int (iI v13)), (0, .ref a), (1, .ref p1), (2, .int (iI p2))] [] _
          exact tn_vret rfl dX10_nameBind_62 ⟨rfl, rfl, w126, (FrC.rfl.trans (FrC.sub F127 (by decide)))⟩
    · refine tn_aload_n dX10_nameBind_26 rfl 1 rfl ?_
      obtain ⟨x128, hx129, hk130, hl131⟩ : ∃ x : Nat, σ.2.1 90 a = (x : Int) ∧ AR T x 1 200 200 := wf_90 hw ha
      have hk130i : IA T x128 := by unfold IA; omega
      refine tn_getR (ci := 10) (i := 2) (n := 90) (x := x128) dX10_nameBind_27 rfl lay_10 (by decide) fl10_20 ha rfl rfl (hx129) ?_
      refine tn_iload_n dX10_nameBind_30 rfl 3 rfl ?_
      refine tn_iload_n dX10_nameBind_31 rfl 0 rfl ?_
      refine tn_bipush dX10_nameBind_32 (by decide) ?_
      refine tn_isub dX10_nameBind_34 ?_
      refine tn_callSN (M := m_X10_nameBind) (pc := 35) (ix := 26) (M' := m_X11_put) (As := [.ref x128, .int (iI p2), .int (iI (v13 - 10))]) (rest := []) dX10_nameBind_35 ok_X11_put stt_X11_put nl10_26 np_X11_put rfl (Nat.le_of_ble_eq_true rfl) (Nat.le_of_ble_eq_true rfl) rfl (k_X11_put (d + 2) (T := T) (σ := σ) (x := x128) (i := p2) (y := v13 - 10) hk130i (by omega) (by omega) (by omega) hw (nh_k hk130 (by unfold HT; omega)) (vok_1 (by have q9 := hk130; omega) (by omega))) (fun r132 T134 σ133 gt135 hp => ?_)
      obtain ⟨rfl, rfl, w137, F138⟩ := hp
      clear gt135
      show Tn _ _ 38 T σ133 [(3, .int (iI v13)), (0, .ref a), (1, .ref p1), (2, .int (iI p2))] [] _
      exact tn_vret rfl dX10_nameBind_38 ⟨rfl, rfl, w137, (FrC.rfl.trans (FrC.sub F138 (by decide)))⟩
  · exact tn_vret rfl dX10_nameBind_11 ⟨rfl, rfl, hw, FrC.rfl⟩
end
section
theorem cd_X10_begin : Cond.code yX10_begin cX10_begin 3 none ∈ pWW := pw4 (List.mem_of_getElem? (i := 132) rfl) rfl
abbrev m_X10_begin : MT := (yX10_begin, cX10_begin, 3, none)
theorem ok_X10_begin : pOk m_X10_begin := ⟨⟨cd_X10_begin, ini_10⟩, by decide +kernel, ⟨by decide +kernel, by decide +kernel⟩, Nat.le_of_ble_eq_true rfl⟩
theorem np_X10_begin : (parseMethodDescriptor yX10_begin.desc).map (fun d => d.parameters.length) = some 1 := by decide +kernel
theorem im_X10_begin : Cond.instanceMethod yX10_begin ∈ pWW := pw4 (List.mem_of_getElem? (i := 131) rfl) rfl
theorem se_X10_begin : Cond.selects RX10 yX10_begin yX10_begin ∈ pWW := pws (List.mem_map.mpr ⟨_, lw_pin 40 rfl, rfl⟩) rfl
theorem fl10_50 : Cond.fieldLink RX10 50 (TX10 5).1 (TX10 5).2.1 (TX10 5).2.2.1 ∈ pWW := pw2 (List.mem_of_getElem? (i := 12) rfl) rfl
theorem fl10_61 : Cond.fieldLink RX10 61 (TX10 4).1 (TX10 4).2.1 (TX10 4).2.2.1 ∈ pWW := pw2 (List.mem_of_getElem? (i := 11) rfl) rfl
theorem dX10_begin_0 : decode cX10_begin 0 = .ok (.iconst 0, 1) := by decide +kernel
theorem dX10_begin_1 : decode cX10_begin 1 = .ok (.istore_n 2, 1) := by decide +kernel
theorem dX10_begin_2 : decode cX10_begin 2 = .ok (.iload_n 2, 1) := by decide +kernel
theorem dX10_begin_3 : decode cX10_begin 3 = .ok (.aload_n 0, 1) := by decide +kernel
theorem dX10_begin_4 : decode cX10_begin 4 = .ok (.getfield 50, 3) := by decide +kernel
theorem dX10_begin_7 : decode cX10_begin 7 = .ok (.if_icmp .ge 18, 3) := by decide +kernel
theorem dX10_begin_10 : decode cX10_begin 10 = .ok (.aload_n 0, 1) := by decide +kernel
theorem dX10_begin_11 : decode cX10_begin 11 = .ok (.getfield 61, 3) := by decide +kernel
theorem dX10_begin_14 : decode cX10_begin 14 = .ok (.iload_n 2, 1) := by decide +kernel
theorem dX10_begin_15 : decode cX10_begin 15 = .ok (.iconst 1, 1) := by decide +kernel
theorem dX10_begin_16 : decode cX10_begin 16 = .ok (.invokestatic 26, 3) := by decide +kernel
theorem dX10_begin_19 : decode cX10_begin 19 = .ok (.iinc 2 1, 3) := by decide +kernel
theorem dX10_begin_22 : decode cX10_begin 22 = .ok (.goto (-20), 3) := by decide +kernel
set_option maxRecDepth 20000 in
theorem l_X10_begin_2 (d : Nat) {T : CT} {σ0 : MS} {a : Nat} {rx1 : Nat} {post : Option Value → CT → MS → Prop} (h_a : OB T a 10) (h_rx1 : OB T rx1 1) (t_rx1 : (T rx1).1 = 50) (hw0 : WT T σ0) (hx_25 : ∀ (i2 : Int) (σ : MS) , (WT T σ) → (FrC T [] σ0 σ) → (0 ≤ i2 ∧ i2 ≤ 2147483647) → Tn (d + 2) m_X10_begin 25 T σ [(0, .ref a), (1, .ref rx1), (2, .int (iI i2))] [] post) : ∀ (n : Nat) (i2 : Int) (σ : MS) , (WT T σ) → (FrC T [] σ0 σ) → (0 ≤ i2 ∧ i2 ≤ 2147483647) → (2147483700 - i2).toNat = n → Tn (d + 2) m_X10_begin 2 T σ [(0, .ref a), (1, .ref rx1), (2, .int (iI i2))] [] post := by
  intro n
  induction n using Nat.strongRecOn with
  | _ n ih =>
    intro i2 σ hw hF r_i2 hm
    refine tn_iload_n dX10_begin_2 rfl 2 rfl ?_
    refine tn_aload_n dX10_begin_3 rfl 0 rfl ?_
    refine tn_getI (ci := 10) (i := 5) (n := 93) (t := σ0.2.1 93 a) dX10_begin_4 rfl lay_10 (by decide) fl10_50 h_a rfl rfl (rc_F hF (Or.inl (by decide)) (by decide) (rfl)) ?_
    have g1 : ((0 : Int) ≤ σ0.2.1 93 a ∧ σ0.2.1 93 a ≤ 145) := wf_93 hw0 h_a
    refine tn_icmp_ge (tgt := 25) dX10_begin_7 (by decide) ⟨by omega, by omega⟩ ⟨by omega, by omega⟩ (fun h2 => ?_) (fun h2 => ?_)
    · exact tn_sub [0, 1, 2] rfl (hx_25 (i2) σ hw (FrC.rfl.trans (FrC.sub hF (by decide))) (by omega))
    · refine tn_aload_n dX10_begin_10 rfl 0 rfl ?_
      rcases wf_92 hw0 h_a with hx3 | ⟨x4, hx3, hk5, hl6⟩
      · refine tn_getN (ci := 10) (i := 4) (n := 92) dX10_begin_11 rfl lay_10 (by decide) fl10_61 h_a rfl rfl (Int.lt_of_le_of_lt (Int.le_of_eq (rc_F hF (Or.inl (by decide)) (by decide) (Eq.refl _))) hx3) ?_
        refine tn_iload_n dX10_begin_14 rfl 2 rfl ?_
        refine tn_iconst dX10_begin_15 ?_
        refine tn_callSN (M := m_X10_begin) (pc := 16) (ix := 26) (M' := m_X11_put) (As := [.null, .int (iI i2), .int (iI 1)]) (rest := []) dX10_begin_16 ok_X11_put stt_X11_put nl10_26 np_X11_put rfl (Nat.le_of_ble_eq_true rfl) (Nat.le_of_ble_eq_true rfl) rfl (k_X11_put_0 (d) (T := T) (σ := σ) (i := i2) (y := 1) (by omega) (by decide) hw ) (fun r7 T9 σ8 gt10 hp => ?_)
        obtain ⟨rfl, rfl, w12, F13⟩ := hp
        clear gt10
        show Tn _ _ 19 T σ8 [(0, .ref a), (1, .ref rx1), (2, .int (iI i2))] [] _
        refine tn_iinc (q0 := 2) (L' := [(2, .int (iI (i2 + 1))), (0, .ref a), (1, .ref rx1)]) dX10_begin_19 rfl (by decide) rfl ?_
        refine tn_goto (tgt := 2) dX10_begin_22 (by decide) ?_
        exact tn_sub [1, 2, 0] rfl (ih _ (by omega) (i2 + 1) σ8 w12 ((FrC.rfl.trans (FrC.sub hF (by decide))).trans (FrC.sub F13 (by decide))) (by omega) rfl)
      · have hk5i : IA T x4 := by unfold IA; omega
        refine tn_getR (ci := 10) (i := 4) (n := 92) (x := x4) dX10_begin_11 rfl lay_10 (by decide) fl10_61 h_a rfl rfl (rc_F hF (Or.inl (by decide)) (by decide) (hx3)) ?_
        refine tn_iload_n dX10_begin_14 rfl 2 rfl ?_
        refine tn_iconst dX10_begin_15 ?_
        refine tn_callSN (M := m_X10_begin) (pc := 16) (ix := 26) (M' := m_X11_put) (As := [.ref x4, .int (iI i2), .int (iI 1)]) (rest := []) dX10_begin_16 ok_X11_put stt_X11_put nl10_26 np_X11_put rfl (Nat.le_of_ble_eq_true rfl) (Nat.le_of_ble_eq_true rfl) rfl (k_X11_put (d) (T := T) (σ := σ) (x := x4) (i := i2) (y := 1) hk5i (by omega) (by omega) (by decide) hw (nh_k hk5 (by unfold HT; omega)) (vok_1 (by have q9 := hk5; omega) (by omega))) (fun r14 T16 σ15 gt17 hp => ?_)
        obtain ⟨rfl, rfl, w19, F20⟩ := hp
        clear gt17
        show Tn _ _ 19 T σ15 [(0, .ref a), (1, .ref rx1), (2, .int (iI i2))] [] _
        refine tn_iinc (q0 := 2) (L' := [(2, .int (iI (i2 + 1))), (0, .ref a), (1, .ref rx1)]) dX10_begin_19 rfl (by decide) rfl ?_
        refine tn_goto (tgt := 2) dX10_begin_22 (by decide) ?_
        exact tn_sub [1, 2, 0] rfl (ih _ (by omega) (i2 + 1) σ15 w19 ((FrC.rfl.trans (FrC.sub hF (by decide))).trans (FrC.sub F20 (by decide))) (by omega) rfl)
theorem fl10_93 : Cond.fieldLink RX10 93 (TX1 2).1 (TX1 2).2.1 (TX1 2).2.2.1 ∈ pWW := pw1 (List.mem_of_getElem? (i := 90) rfl) rfl
theorem dX10_begin_25 : decode cX10_begin 25 = .ok (.iconst 0, 1) := by decide +kernel
theorem dX10_begin_26 : decode cX10_begin 26 = .ok (.istore_n 2, 1) := by decide +kernel
theorem dX10_begin_27 : decode cX10_begin 27 = .ok (.iload_n 2, 1) := by decide +kernel
theorem dX10_begin_28 : decode cX10_begin 28 = .ok (.aload_n 1, 1) := by decide +kernel
theorem dX10_begin_29 : decode cX10_begin 29 = .ok (.getfield 93, 3) := by decide +kernel
theorem dX10_begin_32 : decode cX10_begin 32 = .ok (.if_icmp .ge 38, 3) := by decide +kernel
theorem dX10_begin_35 : decode cX10_begin 35 = .ok (.aload_n 0, 1) := by decide +kernel
theorem dX10_begin_36 : decode cX10_begin 36 = .ok (.getfield 61, 3) := by decide +kernel
theorem dX10_begin_39 : decode cX10_begin 39 = .ok (.aload_n 1, 1) := by decide +kernel
theorem dX10_begin_40 : decode cX10_begin 40 = .ok (.iconst 0, 1) := by decide +kernel
theorem dX10_begin_41 : decode cX10_begin 41 = .ok (.iload_n 2, 1) := by decide +kernel
theorem dX10_begin_42 : decode cX10_begin 42 = .ok (.invokevirtual 36, 3) := by decide +kernel
theorem dX10_begin_45 : decode cX10_begin 45 = .ok (.iload_n 2, 1) := by decide +kernel
theorem dX10_begin_46 : decode cX10_begin 46 = .ok (.aload_n 1, 1) := by decide +kernel
theorem dX10_begin_47 : decode cX10_begin 47 = .ok (.getfield 86, 3) := by decide +kernel
theorem dX10_begin_50 : decode cX10_begin 50 = .ok (.if_icmp .ge 10, 3) := by decide +kernel
theorem dX10_begin_60 : decode cX10_begin 60 = .ok (.iconst 5, 1) := by decide +kernel
theorem dX10_begin_61 : decode cX10_begin 61 = .ok (.invokestatic 26, 3) := by decide +kernel
theorem dX10_begin_64 : decode cX10_begin 64 = .ok (.iinc 2 1, 3) := by decide +kernel
theorem dX10_begin_67 : decode cX10_begin 67 = .ok (.goto (-40), 3) := by decide +kernel
theorem dX10_begin_53 : decode cX10_begin 53 = .ok (.bipush 6, 2) := by decide +kernel
theorem dX10_begin_55 : decode cX10_begin 55 = .ok (.iload_n 2, 1) := by decide +kernel
theorem dX10_begin_56 : decode cX10_begin 56 = .ok (.iadd, 1) := by decide +kernel
theorem dX10_begin_57 : decode cX10_begin 57 = .ok (.goto 4, 3) := by decide +kernel
set_option maxRecDepth 20000 in
theorem l_X10_begin_27 (d : Nat) {T : CT} {σ0 : MS} {a : Nat} {rx1 : Nat} {post : Option Value → CT → MS → Prop} (h_a : OB T a 10) (h_rx1 : OB T rx1 1) (t_rx1 : (T rx1).1 = 50) (hw0 : WT T σ0) (hx_70 : ∀ (i2 : Int) (σ : MS) , (WT T σ) → (FrC T [] σ0 σ) → (0 ≤ i2 ∧ i2 ≤ 2147483647) → Tn (d + 2) m_X10_begin 70 T σ [(0, .ref a), (1, .ref rx1), (2, .int (iI i2))] [] post) : ∀ (n : Nat) (i2 : Int) (σ : MS) , (WT T σ) → (FrC T [] σ0 σ) → (0 ≤ i2 ∧ i2 ≤ 2147483647) → (2147483700 - i2).toNat = n → Tn (d + 2) m_X10_begin 27 T σ [(0, .ref a), (1, .ref rx1), (2, .int (iI i2))] [] post := by
  intro n
  induction n using Nat.strongRecOn with
  | _ n ih =>
    intro i2 σ hw hF r_i2 hm
    refine tn_iload_n dX10_begin_27 rfl 2 rfl ?_
    refine tn_aload_n dX10_begin_28 rfl 1 rfl ?_
    refine tn_getI (ci := 1) (i := 2) (n := 7) (t := σ0.2.1 7 rx1) dX10_begin_29 rfl lay_1 (by decide) fl10_93 h_rx1 rfl rfl (rc_F hF (Or.inl (by decide)) (by decide) (rfl)) ?_
    have g1 : ((0 : Int) ≤ σ0.2.1 7 rx1 ∧ σ0.2.1 7 rx1 ≤ 12) := wf_7 hw0 h_rx1
    refine tn_icmp_ge (tgt := 70) dX10_begin_32 (by decide) ⟨by omega, by omega⟩ ⟨by omega, by omega⟩ (fun h2 => ?_) (fun h2 => ?_)
    · exact tn_sub [0, 1, 2] rfl (hx_70 (i2) σ hw (FrC.rfl.trans (FrC.sub hF (by decide))) (by omega))
    · refine tn_aload_n dX10_begin_35 rfl 0 rfl ?_
      rcases wf_92 hw0 h_a with hx3 | ⟨x4, hx3, hk5, hl6⟩
      · refine tn_getN (ci := 10) (i := 4) (n := 92) dX10_begin_36 rfl lay_10 (by decide) fl10_61 h_a rfl rfl (Int.lt_of_le_of_lt (Int.le_of_eq (rc_F hF (Or.inl (by decide)) (by decide) (Eq.refl _))) hx3) ?_
        refine tn_aload_n dX10_begin_39 rfl 1 rfl ?_
        refine tn_iconst dX10_begin_40 ?_
        refine tn_iload_n dX10_begin_41 rfl 2 rfl ?_
        refine tn_callV (M := m_X10_begin) (pc := 42) (ix := 36) (ci := 1) (M' := m_X1_slotOf) (As := [.int (iI 0), .int (iI i2)]) (rest := [.null]) dX10_begin_42 ok_X1_slotOf im_X1_slotOf se_X1_slotOf ml10_36 np_X1_slotOf rfl rfl h_rx1 rfl (Nat.le_of_ble_eq_true rfl) (Nat.le_of_ble_eq_true rfl) rfl (k_X1_slotOf (d) (T := T) (σ := σ) (a := rx1) (f := 0) (m := i2) h_rx1 (by decide) (by omega) hw (by omega)) (fun r7 T9 σ8 gt10 hp => ?_)
        obtain ⟨v13, rfl, rfl, rfl, f11, f12⟩ := hp
        clear gt10
        show Tn _ _ 45 T σ [(0, .ref a), (1, .ref rx1), (2, .int (iI i2))] [.int (iI v13), .null] _
        refine tn_iload_n dX10_begin_45 rfl 2 rfl ?_
        refine tn_aload_n dX10_begin_46 rfl 1 rfl ?_
        refine tn_getI (ci := 1) (i := 3) (n := 8) (t := σ0.2.1 8 rx1) dX10_begin_47 rfl lay_1 (by decide) fl10_86 h_rx1 rfl rfl (rc_F hF (Or.inl (by decide)) (by decide) (rfl)) ?_
        have g14 : ((0 : Int) ≤ σ0.2.1 8 rx1 ∧ σ0.2.1 8 rx1 ≤ 4) := wf_8 hw0 h_rx1
        refine tn_icmp_ge (tgt := 60) dX10_begin_50 (by decide) ⟨by omega, by omega⟩ ⟨by omega, by omega⟩ (fun h15 => ?_) (fun h15 => ?_)
        · refine tn_iconst dX10_begin_60 ?_
          refine tn_callSN (M := m_X10_begin) (pc := 61) (ix := 26) (M' := m_X11_put) (As := [.null, .int (iI v13), .int (iI 5)]) (rest := []) dX10_begin_61 ok_X11_put stt_X11_put nl10_26 np_X11_put rfl (Nat.le_of_ble_eq_true rfl) (Nat.le_of_ble_eq_true rfl) rfl (k_X11_put_0 (d) (T := T) (σ := σ) (i := v13) (y := 5) (by omega) (by decide) hw ) (fun r16 T18 σ17 gt19 hp => ?_)
          obtain ⟨rfl, rfl, w21, F22⟩ := hp
          clear gt19
          show Tn _ _ 64 T σ17 [(0, .ref a), (1, .ref rx1), (2, .int (iI i2))] [] _
          refine tn_iinc (q0 := 2) (L' := [(2, .int (iI (i2 + 1))), (0, .ref a), (1, .ref rx1)]) dX10_begin_64 rfl (by decide) rfl ?_
          refine tn_goto (tgt := 27) dX10_begin_67 (by decide) ?_
          exact tn_sub [1, 2, 0] rfl (ih _ (by omega) (i2 + 1) σ17 w21 ((FrC.rfl.trans (FrC.sub hF (by decide))).trans (FrC.sub F22 (by decide))) (by omega) rfl)
        · refine tn_bipush dX10_begin_53 (by decide) ?_
          refine tn_iload_n dX10_begin_55 rfl 2 rfl ?_
          refine tn_iadd dX10_begin_56 ?_
          refine tn_goto (tgt := 61) dX10_begin_57 (by decide) ?_
          refine tn_callSN (M := m_X10_begin) (pc := 61) (ix := 26) (M' := m_X11_put) (As := [.null, .int (iI v13), .int (iI (6 + i2))]) (rest := []) dX10_begin_61 ok_X11_put stt_X11_put nl10_26 np_X11_put rfl (Nat.le_of_ble_eq_true rfl) (Nat.le_of_ble_eq_true rfl) rfl (k_X11_put_0 (d) (T := T) (σ := σ) (i := v13) (y := 6 + i2) (by omega) (by omega) hw ) (fun r23 T25 σ24 gt26 hp => ?_)
          obtain ⟨rfl, rfl, w28, F29⟩ := hp
          clear gt26
          show Tn _ _ 64 T σ24 [(0, .ref a), (1, .ref rx1), (2, .int (iI i2))] [] _
          refine tn_iinc (q0 := 2) (L' := [(2, .int (iI (i2 + 1))), (0, .ref a), (1, .ref rx1)]) dX10_begin_64 rfl (by decide) rfl ?_
          refine tn_goto (tgt := 27) dX10_begin_67 (by decide) ?_
          exact tn_sub [1, 2, 0] rfl (ih _ (by omega) (i2 + 1) σ24 w28 ((FrC.rfl.trans (FrC.sub hF (by decide))).trans (FrC.sub F29 (by decide))) (by omega) rfl)
      · have hk5i : IA T x4 := by unfold IA; omega
        refine tn_getR (ci := 10) (i := 4) (n := 92) (x := x4) dX10_begin_36 rfl lay_10 (by decide) fl10_61 h_a rfl rfl (rc_F hF (Or.inl (by decide)) (by decide) (hx3)) ?_
        refine tn_aload_n dX10_begin_39 rfl 1 rfl ?_
        refine tn_iconst dX10_begin_40 ?_
        refine tn_iload_n dX10_begin_41 rfl 2 rfl ?_
        refine tn_callV (M := m_X10_begin) (pc := 42) (ix := 36) (ci := 1) (M' := m_X1_slotOf) (As := [.int (iI 0), .int (iI i2)]) (rest := [.ref x4]) dX10_begin_42 ok_X1_slotOf im_X1_slotOf se_X1_slotOf ml10_36 np_X1_slotOf rfl rfl h_rx1 rfl (Nat.le_of_ble_eq_true rfl) (Nat.le_of_ble_eq_true rfl) rfl (k_X1_slotOf (d) (T := T) (σ := σ) (a := rx1) (f := 0) (m := i2) h_rx1 (by decide) (by omega) hw (by omega)) (fun r30 T32 σ31 gt33 hp => ?_)
        obtain ⟨v36, rfl, rfl, rfl, f34, f35⟩ := hp
        clear gt33
        show Tn _ _ 45 T σ [(0, .ref a), (1, .ref rx1), (2, .int (iI i2))] [.int (iI v36), .ref x4] _
        refine tn_iload_n dX10_begin_45 rfl 2 rfl ?_
        refine tn_aload_n dX10_begin_46 rfl 1 rfl ?_
        refine tn_getI (ci := 1) (i := 3) (n := 8) (t := σ0.2.1 8 rx1) dX10_begin_47 rfl lay_1 (by decide) fl10_86 h_rx1 rfl rfl (rc_F hF (Or.inl (by decide)) (by decide) (rfl)) ?_
        have g37 : ((0 : Int) ≤ σ0.2.1 8 rx1 ∧ σ0.2.1 8 rx1 ≤ 4) := wf_8 hw0 h_rx1
        refine tn_icmp_ge (tgt := 60) dX10_begin_50 (by decide) ⟨by omega, by omega⟩ ⟨by omega, by omega⟩ (fun h38 => ?_) (fun h38 => ?_)
        · refine tn_iconst dX10_begin_60 ?_
          refine tn_callSN (M := m_X10_begin) (pc := 61) (ix := 26) (M' := m_X11_put) (As := [.ref x4, .int (iI v36), .int (iI 5)]) (rest := []) dX10_begin_61 ok_X11_put stt_X11_put nl10_26 np_X11_put rfl (Nat.le_of_ble_eq_true rfl) (Nat.le_of_ble_eq_true rfl) rfl (k_X11_put (d) (T := T) (σ := σ) (x := x4) (i := v36) (y := 5) hk5i (by omega) (by omega) (by decide) hw (nh_k hk5 (by unfold HT; omega)) (vok_1 (by have q9 := hk5; omega) (by omega))) (fun r39 T41 σ40 gt42 hp => ?_)
          obtain ⟨rfl, rfl, w44, F45⟩ := hp
          clear gt42
          show Tn _ _ 64 T σ40 [(0, .ref a), (1, .ref rx1), (2, .int (iI i2))] [] _
          refine tn_iinc (q0 := 2) (L' := [(2, .int (iI (i2 + 1))), (0, .ref a), (1, .ref rx1)]) dX10_begin_64 rfl (by decide) rfl ?_
          refine tn_goto (tgt := 27) dX10_begin_67 (by decide) ?_
          exact tn_sub [1, 2, 0] rfl (ih _ (by omega) (i2 + 1) σ40 w44 ((FrC.rfl.trans (FrC.sub hF (by decide))).trans (FrC.sub F45 (by decide))) (by omega) rfl)
        · refine tn_bipush dX10_begin_53 (by decide) ?_
          refine tn_iload_n dX10_begin_55 rfl 2 rfl ?_
          refine tn_iadd dX10_begin_56 ?_
          refine tn_goto (tgt := 61) dX10_begin_57 (by decide) ?_
          refine tn_callSN (M := m_X10_begin) (pc := 61) (ix := 26) (M' := m_X11_put) (As := [.ref x4, .int (iI v36), .int (iI (6 + i2))]) (rest := []) dX10_begin_61 ok_X11_put stt_X11_put nl10_26 np_X11_put rfl (Nat.le_of_ble_eq_true rfl) (Nat.le_of_ble_eq_true rfl) rfl (k_X11_put (d) (T := T) (σ := σ) (x := x4) (i := v36) (y := 6 + i2) hk5i (by omega) (by omega) (by omega) hw (nh_k hk5 (by unfold HT; omega)) (vok_1 (by have q9 := hk5; omega) (by omega))) (fun r46 T48 σ47 gt49 hp => ?_)
          obtain ⟨rfl, rfl, w51, F52⟩ := hp
          clear gt49
          show Tn _ _ 64 T σ47 [(0, .ref a), (1, .ref rx1), (2, .int (iI i2))] [] _
          refine tn_iinc (q0 := 2) (L' := [(2, .int (iI (i2 + 1))), (0, .ref a), (1, .ref rx1)]) dX10_begin_64 rfl (by decide) rfl ?_
          refine tn_goto (tgt := 27) dX10_begin_67 (by decide) ?_
          exact tn_sub [1, 2, 0] rfl (ih _ (by omega) (i2 + 1) σ47 w51 ((FrC.rfl.trans (FrC.sub hF (by decide))).trans (FrC.sub F52 (by decide))) (by omega) rfl)
theorem dX10_begin_70 : decode cX10_begin 70 = .ok (.return_, 1) := by decide +kernel
set_option maxRecDepth 20000 in
theorem k_X10_begin (d : Nat) {T : CT} {σ : MS} {a : Nat} {p1 : Nat} (ha : OB T a 10) (h_p1 : OB T p1 1) (t_p1 : (T p1).1 = 50) (hw : WT T σ) : Tn (d + 2) m_X10_begin 0 T σ [(0, .ref a), (1, .ref p1)] [] (fun ro T2 σ2 => ro = none ∧ T = T2 ∧ WT T2 σ2 ∧ FrC T [] σ σ2) := by
  refine tn_iconst dX10_begin_0 ?_
  refine tn_istore_n (L' := [(2, .int (iI 0)), (0, .ref a), (1, .ref p1)]) dX10_begin_1 rfl (by decide) rfl ?_
  refine tn_sub [1, 2, 0] rfl (l_X10_begin_2 (d) (T := T) (σ0 := σ) (a := a) (rx1 := p1) ha h_p1 t_p1 hw (fun i21 σ2 w5 F6 r7 => ?_) _ (0) σ hw FrC.rfl (by omega) rfl)
  show Tn _ _ 25 T σ2 [(0, .ref a), (1, .ref p1), (2, .int (iI i21))] [] _
  refine tn_iconst dX10_begin_25 ?_
  refine tn_istore_n (L' := [(2, .int (iI 0)), (0, .ref a), (1, .ref p1)]) dX10_begin_26 rfl (by decide) rfl ?_
  refine tn_sub [1, 2, 0] rfl (l_X10_begin_27 (d) (T := T) (σ0 := σ2) (a := a) (rx1 := p1) ha h_p1 t_p1 w5 (fun i28 σ9 w12 F13 r14 => ?_) _ (0) σ2 w5 FrC.rfl (by omega) rfl)
  show Tn _ _ 70 T σ9 [(0, .ref a), (1, .ref p1), (2, .int (iI i28))] [] _
  exact tn_vret rfl dX10_begin_70 ⟨rfl, rfl, w12, ((FrC.rfl.trans (FrC.sub F6 (by decide))).trans (FrC.sub F13 (by decide)))⟩
end
section
theorem cd_X10_comeTo : Cond.code yX10_comeTo cX10_comeTo 6 none ∈ pWW := pw4 (List.mem_of_getElem? (i := 155) rfl) rfl
abbrev m_X10_comeTo : MT := (yX10_comeTo, cX10_comeTo, 6, none)
theorem ok_X10_comeTo : pOk m_X10_comeTo := ⟨⟨cd_X10_comeTo, ini_10⟩, by decide +kernel, ⟨by decide +kernel, by decide +kernel⟩, Nat.le_of_ble_eq_true rfl⟩
theorem np_X10_comeTo : (parseMethodDescriptor yX10_comeTo.desc).map (fun d => d.parameters.length) = some 2 := by decide +kernel
theorem im_X10_comeTo : Cond.instanceMethod yX10_comeTo ∈ pWW := pw4 (List.mem_of_getElem? (i := 154) rfl) rfl
theorem se_X10_comeTo : Cond.selects RX10 yX10_comeTo yX10_comeTo ∈ pWW := pws (List.mem_map.mpr ⟨_, lw_pin 43 rfl, rfl⟩) rfl
theorem fl10_53 : Cond.fieldLink RX10 53 (TX1 1).1 (TX1 1).2.1 (TX1 1).2.2.1 ∈ pWW := pw1 (List.mem_of_getElem? (i := 85) rfl) rfl
theorem fl10_23 : Cond.fieldLink RX10 23 (TX10 3).1 (TX10 3).2.1 (TX10 3).2.2.1 ∈ pWW := pw2 (List.mem_of_getElem? (i := 10) rfl) rfl
theorem fl10_78 : Cond.fieldLink RX10 78 (TX10 6).1 (TX10 6).2.1 (TX10 6).2.2.1 ∈ pWW := pw2 (List.mem_of_getElem? (i := 13) rfl) rfl
theorem dX10_comeTo_0 : decode cX10_comeTo 0 = .ok (.iload_n 2, 1) := by decide +kernel
theorem dX10_comeTo_1 : decode cX10_comeTo 1 = .ok (.ifCond .lt 11, 3) := by decide +kernel
theorem dX10_comeTo_12 : decode cX10_comeTo 12 = .ok (.return_, 1) := by decide +kernel
theorem dX10_comeTo_4 : decode cX10_comeTo 4 = .ok (.iload_n 2, 1) := by decide +kernel
theorem dX10_comeTo_5 : decode cX10_comeTo 5 = .ok (.aload_n 1, 1) := by decide +kernel
theorem dX10_comeTo_6 : decode cX10_comeTo 6 = .ok (.getfield 53, 3) := by decide +kernel
theorem dX10_comeTo_9 : decode cX10_comeTo 9 = .ok (.if_icmp .le 4, 3) := by decide +kernel
theorem dX10_comeTo_13 : decode cX10_comeTo 13 = .ok (.iconst 0, 1) := by decide +kernel
theorem dX10_comeTo_14 : decode cX10_comeTo 14 = .ok (.istore_n 3, 1) := by decide +kernel
theorem dX10_comeTo_15 : decode cX10_comeTo 15 = .ok (.iload_n 3, 1) := by decide +kernel
theorem dX10_comeTo_16 : decode cX10_comeTo 16 = .ok (.aload_n 0, 1) := by decide +kernel
theorem dX10_comeTo_17 : decode cX10_comeTo 17 = .ok (.getfield 50, 3) := by decide +kernel
theorem dX10_comeTo_20 : decode cX10_comeTo 20 = .ok (.if_icmp .ge 80, 3) := by decide +kernel
theorem dX10_comeTo_23 : decode cX10_comeTo 23 = .ok (.aload_n 0, 1) := by decide +kernel
theorem dX10_comeTo_24 : decode cX10_comeTo 24 = .ok (.getfield 61, 3) := by decide +kernel
theorem dX10_comeTo_27 : decode cX10_comeTo 27 = .ok (.iload_n 2, 1) := by decide +kernel
theorem dX10_comeTo_28 : decode cX10_comeTo 28 = .ok (.aload_n 0, 1) := by decide +kernel
theorem dX10_comeTo_29 : decode cX10_comeTo 29 = .ok (.getfield 50, 3) := by decide +kernel
theorem dX10_comeTo_32 : decode cX10_comeTo 32 = .ok (.imul, 1) := by decide +kernel
theorem dX10_comeTo_33 : decode cX10_comeTo 33 = .ok (.iload_n 3, 1) := by decide +kernel
theorem dX10_comeTo_34 : decode cX10_comeTo 34 = .ok (.iadd, 1) := by decide +kernel
theorem dX10_comeTo_35 : decode cX10_comeTo 35 = .ok (.invokestatic 40, 3) := by decide +kernel
theorem dX10_comeTo_38 : decode cX10_comeTo 38 = .ok (.istore 4, 2) := by decide +kernel
theorem dX10_comeTo_40 : decode cX10_comeTo 40 = .ok (.aload_n 0, 1) := by decide +kernel
theorem dX10_comeTo_41 : decode cX10_comeTo 41 = .ok (.getfield 23, 3) := by decide +kernel
theorem dX10_comeTo_44 : decode cX10_comeTo 44 = .ok (.iload_n 3, 1) := by decide +kernel
theorem dX10_comeTo_45 : decode cX10_comeTo 45 = .ok (.invokestatic 40, 3) := by decide +kernel
theorem dX10_comeTo_48 : decode cX10_comeTo 48 = .ok (.istore 5, 2) := by decide +kernel
theorem dX10_comeTo_50 : decode cX10_comeTo 50 = .ok (.iload 4, 2) := by decide +kernel
theorem dX10_comeTo_52 : decode cX10_comeTo 52 = .ok (.iload 5, 2) := by decide +kernel
theorem dX10_comeTo_54 : decode cX10_comeTo 54 = .ok (.if_icmp .eq 40, 3) := by decide +kernel
theorem dX10_comeTo_94 : decode cX10_comeTo 94 = .ok (.iinc 3 1, 3) := by decide +kernel
theorem dX10_comeTo_97 : decode cX10_comeTo 97 = .ok (.goto (-82), 3) := by decide +kernel
theorem dX10_comeTo_57 : decode cX10_comeTo 57 = .ok (.iload 4, 2) := by decide +kernel
theorem dX10_comeTo_59 : decode cX10_comeTo 59 = .ok (.iconst 4, 1) := by decide +kernel
theorem dX10_comeTo_60 : decode cX10_comeTo 60 = .ok (.if_icmp .eq 34, 3) := by decide +kernel
theorem dX10_comeTo_63 : decode cX10_comeTo 63 = .ok (.aload_n 0, 1) := by decide +kernel
theorem dX10_comeTo_64 : decode cX10_comeTo 64 = .ok (.getfield 61, 3) := by decide +kernel
theorem dX10_comeTo_67 : decode cX10_comeTo 67 = .ok (.iload_n 2, 1) := by decide +kernel
theorem dX10_comeTo_68 : decode cX10_comeTo 68 = .ok (.aload_n 0, 1) := by decide +kernel
theorem dX10_comeTo_69 : decode cX10_comeTo 69 = .ok (.getfield 50, 3) := by decide +kernel
theorem dX10_comeTo_72 : decode cX10_comeTo 72 = .ok (.imul, 1) := by decide +kernel
theorem dX10_comeTo_73 : decode cX10_comeTo 73 = .ok (.iload_n 3, 1) := by decide +kernel
theorem dX10_comeTo_74 : decode cX10_comeTo 74 = .ok (.iadd, 1) := by decide +kernel
theorem dX10_comeTo_75 : decode cX10_comeTo 75 = .ok (.iload 4, 2) := by decide +kernel
theorem dX10_comeTo_77 : decode cX10_comeTo 77 = .ok (.ifCond .ne 8, 3) := by decide +kernel
theorem dX10_comeTo_80 : decode cX10_comeTo 80 = .ok (.iload 5, 2) := by decide +kernel
theorem dX10_comeTo_82 : decode cX10_comeTo 82 = .ok (.goto 4, 3) := by decide +kernel
theorem dX10_comeTo_86 : decode cX10_comeTo 86 = .ok (.invokestatic 26, 3) := by decide +kernel
theorem dX10_comeTo_89 : decode cX10_comeTo 89 = .ok (.aload_n 0, 1) := by decide +kernel
theorem dX10_comeTo_90 : decode cX10_comeTo 90 = .ok (.iconst 1, 1) := by decide +kernel
theorem dX10_comeTo_91 : decode cX10_comeTo 91 = .ok (.putfield 78, 3) := by decide +kernel
theorem dX10_comeTo_85 : decode cX10_comeTo 85 = .ok (.iconst 4, 1) := by decide +kernel
set_option maxRecDepth 20000 in
theorem l_X10_comeTo_15 (d : Nat) {T : CT} {σ0 : MS} {a : Nat} {c2 : Int} {post : Option Value → CT → MS → Prop} (h_a : OB T a 10) (r_c2 : 0 ≤ c2 ∧ c2 ≤ 200) (hw0 : WT T σ0) (hx_100 : ∀ (i3 : Int) (σ : MS) , (WT T σ) → (FrC T [94] σ0 σ) → (0 ≤ i3 ∧ i3 ≤ 2147483647) → Tn (d + 2) m_X10_comeTo 100 T σ [(0, .ref a), (2, .int (iI c2)), (3, .int (iI i3))] [] post) : ∀ (n : Nat) (i3 : Int) (σ : MS) , (WT T σ) → (FrC T [94] σ0 σ) → (0 ≤ i3 ∧ i3 ≤ 2147483647) → (2147483700 - i3).toNat = n → Tn (d + 2) m_X10_comeTo 15 T σ [(0, .ref a), (2, .int (iI c2)), (3, .int (iI i3))] [] post := by
  intro n
  induction n using Nat.strongRecOn with
  | _ n ih =>
    intro i3 σ hw hF r_i3 hm
    refine tn_iload_n dX10_comeTo_15 rfl 2 rfl ?_
    refine tn_aload_n dX10_comeTo_16 rfl 0 rfl ?_
    refine tn_getI (ci := 10) (i := 5) (n := 93) (t := σ0.2.1 93 a) dX10_comeTo_17 rfl lay_10 (by decide) fl10_50 h_a rfl rfl (rc_F hF (Or.inl (by decide)) (by decide) (rfl)) ?_
    have g1 : ((0 : Int) ≤ σ0.2.1 93 a ∧ σ0.2.1 93 a ≤ 145) := wf_93 hw0 h_a
    refine tn_icmp_ge (tgt := 100) dX10_comeTo_20 (by decide) ⟨by omega, by omega⟩ ⟨by omega, by omega⟩ (fun h2 => ?_) (fun h2 => ?_)
    · exact tn_sub [0, 1, 2] rfl (hx_100 (i3) σ hw (FrC.rfl.trans (FrC.sub hF (by decide))) (by omega))
    · refine tn_aload_n dX10_comeTo_23 rfl 0 rfl ?_
      rcases wf_92 hw0 h_a with hx3 | ⟨x4, hx3, hk5, hl6⟩
      · refine tn_getN (ci := 10) (i := 4) (n := 92) dX10_comeTo_24 rfl lay_10 (by decide) fl10_61 h_a rfl rfl (Int.lt_of_le_of_lt (Int.le_of_eq (rc_F hF (Or.inl (by decide)) (by decide) (Eq.refl _))) hx3) ?_
        refine tn_iload_n dX10_comeTo_27 rfl 1 rfl ?_
        refine tn_aload_n dX10_comeTo_28 rfl 0 rfl ?_
        refine tn_getI (ci := 10) (i := 5) (n := 93) (t := σ0.2.1 93 a) dX10_comeTo_29 rfl lay_10 (by decide) fl10_50 h_a rfl rfl (rc_F hF (Or.inl (by decide)) (by decide) (rfl)) ?_
        refine tn_imul dX10_comeTo_32 ?_
        have g8 : 0 ≤ c2 * (σ0.2.1 93 a) ∧ c2 * (σ0.2.1 93 a) ≤ 29000 := mul_rng (b := 200) (d := 145) (by omega) (by omega) (by omega) (by omega) (by decide) (by decide)
        generalize c2 * (σ0.2.1 93 a) = z7 at g8 ⊢
        refine tn_iload_n dX10_comeTo_33 rfl 2 rfl ?_
        refine tn_iadd dX10_comeTo_34 ?_
        refine tn_callSN (M := m_X10_comeTo) (pc := 35) (ix := 40) (M' := m_X11_at) (As := [.null, .int (iI (z7 + i3))]) (rest := []) dX10_comeTo_35 ok_X11_at stt_X11_at nl10_40 np_X11_at rfl (Nat.le_of_ble_eq_true rfl) (Nat.le_of_ble_eq_true rfl) rfl (k_X11_at_0 (d) (T := T) (σ := σ) (i := z7 + i3) (by omega) hw ) (fun r9 T11 σ10 gt12 hp => ?_)
        obtain ⟨v14, rfl, rfl, rfl, f13⟩ := hp
        clear gt12
        show Tn _ _ 38 T σ [(0, .ref a), (2, .int (iI c2)), (3, .int (iI i3))] [.int (iI v14)] _
        refine tn_istore (L' := [(4, .int (iI v14)), (0, .ref a), (2, .int (iI c2)), (3, .int (iI i3))]) dX10_comeTo_38 (by decide) rfl ?_
        refine tn_aload_n dX10_comeTo_40 rfl 1 rfl ?_
        obtain ⟨x15, hx16, hk17, hl18⟩ : ∃ x : Nat, σ0.2.1 91 a = (x : Int) ∧ AR T x 1 145 145 := wf_91 hw0 h_a
        have hk17i : IA T x15 := by unfold IA; omega
        refine tn_getR (ci := 10) (i := 3) (n := 91) (x := x15) dX10_comeTo_41 rfl lay_10 (by decide) fl10_23 h_a rfl rfl (rc_F hF (Or.inl (by decide)) (by decide) (hx16)) ?_
        refine tn_iload_n dX10_comeTo_44 rfl 3 rfl ?_
        refine tn_callSN (M := m_X10_comeTo) (pc := 45) (ix := 40) (M' := m_X11_at) (As := [.ref x15, .int (iI i3)]) (rest := []) dX10_comeTo_45 ok_X11_at stt_X11_at nl10_40 np_X11_at rfl (Nat.le_of_ble_eq_true rfl) (Nat.le_of_ble_eq_true rfl) rfl (k_X11_at (d) (T := T) (σ := σ) (x := x15) (i := i3) hk17i (by omega) (by omega) hw ) (fun r19 T21 σ20 gt22 hp => ?_)
        obtain ⟨v26, rfl, rfl, rfl, f23, f24, f25⟩ := hp
        clear gt22
        clear f24 f25
        show Tn _ _ 48 T σ [(4, .int (iI v14)), (0, .ref a), (2, .int (iI c2)), (3, .int (iI i3))] [.int (iI v26)] _
        refine tn_istore (L' := [(5, .int (iI v26)), (4, .int (iI v14)), (0, .ref a), (2, .int (iI c2)), (3, .int (iI i3))]) dX10_comeTo_48 (by decide) rfl ?_
        refine tn_iload dX10_comeTo_50 1 rfl ?_
        refine tn_iload dX10_comeTo_52 0 rfl ?_
        refine tn_icmp_eq (tgt := 94) dX10_comeTo_54 (by decide) ⟨by omega, by omega⟩ ⟨by omega, by omega⟩ (fun h27 => ?_) (fun h27 => ?_)
        · refine tn_iinc (q0 := 4) (L' := [(3, .int (iI (i3 + 1))), (5, .int (iI v26)), (4, .int (iI v14)), (0, .ref a), (2, .int (iI c2))]) dX10_comeTo_94 rfl (by decide) rfl ?_
          refine tn_goto (tgt := 15) dX10_comeTo_97 (by decide) ?_
          exact tn_sub [3, 4, 0] rfl (ih _ (by omega) (i3 + 1) σ hw (FrC.rfl.trans (FrC.sub hF (by decide))) (by omega) rfl)
        · refine tn_iload dX10_comeTo_57 1 rfl ?_
          refine tn_iconst dX10_comeTo_59 ?_
          refine tn_icmp_eq (tgt := 94) dX10_comeTo_60 (by decide) ⟨by omega, by omega⟩ ⟨by decide, by decide⟩ (fun h28 => absurd h28 (by omega)) (fun h28 => ?_)
          refine tn_aload_n dX10_comeTo_63 rfl 2 rfl ?_
          refine tn_getN (ci := 10) (i := 4) (n := 92) dX10_comeTo_64 rfl lay_10 (by decide) fl10_61 h_a rfl rfl (Int.lt_of_le_of_lt (Int.le_of_eq (rc_F hF (Or.inl (by decide)) (by decide) (Eq.refl _))) hx3) ?_
          refine tn_iload_n dX10_comeTo_67 rfl 3 rfl ?_
          refine tn_aload_n dX10_comeTo_68 rfl 2 rfl ?_
          refine tn_getI (ci := 10) (i := 5) (n := 93) (t := σ0.2.1 93 a) dX10_comeTo_69 rfl lay_10 (by decide) fl10_50 h_a rfl rfl (rc_F hF (Or.inl (by decide)) (by decide) (rfl)) ?_
          refine tn_imul dX10_comeTo_72 ?_
          have g30 : 0 ≤ c2 * (σ0.2.1 93 a) ∧ c2 * (σ0.2.1 93 a) ≤ 29000 := mul_rng (b := 200) (d := 145) (by omega) (by omega) (by omega) (by omega) (by decide) (by decide)
          generalize c2 * (σ0.2.1 93 a) = z29 at g30 ⊢
          refine tn_iload_n dX10_comeTo_73 rfl 4 rfl ?_
          refine tn_iadd dX10_comeTo_74 ?_
          refine tn_iload dX10_comeTo_75 1 rfl ?_
          refine tn_if_ne (tgt := 85) dX10_comeTo_77 (by decide) ⟨by omega, by omega⟩ (fun h31 => absurd h31 (by omega)) (fun h31 => ?_)
          refine tn_iload dX10_comeTo_80 0 rfl ?_
          refine tn_goto (tgt := 86) dX10_comeTo_82 (by decide) ?_
          refine tn_callSN (M := m_X10_comeTo) (pc := 86) (ix := 26) (M' := m_X11_put) (As := [.null, .int (iI (z29 + i3)), .int (iI v26)]) (rest := []) dX10_comeTo_86 ok_X11_put stt_X11_put nl10_26 np_X11_put rfl (Nat.le_of_ble_eq_true rfl) (Nat.le_of_ble_eq_true rfl) rfl (k_X11_put_0 (d) (T := T) (σ := σ) (i := z29 + i3) (y := v26) (by omega) (by omega) hw ) (fun r32 T34 σ33 gt35 hp => ?_)
          obtain ⟨rfl, rfl, w37, F38⟩ := hp
          clear gt35
          show Tn _ _ 89 T σ33 [(5, .int (iI v26)), (4, .int (iI v14)), (0, .ref a), (2, .int (iI c2)), (3, .int (iI i3))] [] _
          refine tn_aload_n dX10_comeTo_89 rfl 2 rfl ?_
          refine tn_iconst dX10_comeTo_90 ?_
          refine tn_putV (ci := 10) (i := 6) (n := 94) (r := false) (v := 1) tyX10 tyX10_ok nmX10 dX10_comeTo_91 rfl lay_10 (by decide) fl10_78 rfl (tyX10_ok 6 (by decide)) rfl rfl rfl h_a rfl rfl ?_
          refine tn_iinc (q0 := 4) (L' := [(3, .int (iI (i3 + 1))), (5, .int (iI v26)), (4, .int (iI v14)), (0, .ref a), (2, .int (iI c2))]) dX10_comeTo_94 rfl (by decide) rfl ?_
          refine tn_goto (tgt := 15) dX10_comeTo_97 (by decide) ?_
          exact tn_sub [3, 4, 0] rfl (ih _ (by omega) (i3 + 1) (sA 94 a (1) σ33) (w37.put (by decide) (by decide) (fo_94 (by omega))) (((FrC.rfl.trans (FrC.sub hF (by decide))).trans (FrC.sub F38 (by decide))).put (by decide) (by decide)) (by omega) rfl)
      · have hk5i : IA T x4 := by unfold IA; omega
        refine tn_getR (ci := 10) (i := 4) (n := 92) (x := x4) dX10_comeTo_24 rfl lay_10 (by decide) fl10_61 h_a rfl rfl (rc_F hF (Or.inl (by decide)) (by decide) (hx3)) ?_
        refine tn_iload_n dX10_comeTo_27 rfl 1 rfl ?_
        refine tn_aload_n dX10_comeTo_28 rfl 0 rfl ?_
        refine tn_getI (ci := 10) (i := 5) (n := 93) (t := σ0.2.1 93 a) dX10_comeTo_29 rfl lay_10 (by decide) fl10_50 h_a rfl rfl (rc_F hF (Or.inl (by decide)) (by decide) (rfl)) ?_
        refine tn_imul dX10_comeTo_32 ?_
        have g40 : 0 ≤ c2 * (σ0.2.1 93 a) ∧ c2 * (σ0.2.1 93 a) ≤ 29000 := mul_rng (b := 200) (d := 145) (by omega) (by omega) (by omega) (by omega) (by decide) (by decide)
        generalize c2 * (σ0.2.1 93 a) = z39 at g40 ⊢
        refine tn_iload_n dX10_comeTo_33 rfl 2 rfl ?_
        refine tn_iadd dX10_comeTo_34 ?_
        refine tn_callSN (M := m_X10_comeTo) (pc := 35) (ix := 40) (M' := m_X11_at) (As := [.ref x4, .int (iI (z39 + i3))]) (rest := []) dX10_comeTo_35 ok_X11_at stt_X11_at nl10_40 np_X11_at rfl (Nat.le_of_ble_eq_true rfl) (Nat.le_of_ble_eq_true rfl) rfl (k_X11_at (d) (T := T) (σ := σ) (x := x4) (i := z39 + i3) hk5i (by omega) (by omega) hw ) (fun r41 T43 σ42 gt44 hp => ?_)
        obtain ⟨v48, rfl, rfl, rfl, f45, f46, f47⟩ := hp
        clear gt44
        clear f46 f47
        show Tn _ _ 38 T σ [(0, .ref a), (2, .int (iI c2)), (3, .int (iI i3))] [.int (iI v48)] _
        refine tn_istore (L' := [(4, .int (iI v48)), (0, .ref a), (2, .int (iI c2)), (3, .int (iI i3))]) dX10_comeTo_38 (by decide) rfl ?_
        refine tn_aload_n dX10_comeTo_40 rfl 1 rfl ?_
        obtain ⟨x49, hx50, hk51, hl52⟩ : ∃ x : Nat, σ0.2.1 91 a = (x : Int) ∧ AR T x 1 145 145 := wf_91 hw0 h_a
        have hk51i : IA T x49 := by unfold IA; omega
        refine tn_getR (ci := 10) (i := 3) (n := 91) (x := x49) dX10_comeTo_41 rfl lay_10 (by decide) fl10_23 h_a rfl rfl (rc_F hF (Or.inl (by decide)) (by decide) (hx50)) ?_
        refine tn_iload_n dX10_comeTo_44 rfl 3 rfl ?_
        refine tn_callSN (M := m_X10_comeTo) (pc := 45) (ix := 40) (M' := m_X11_at) (As := [.ref x49, .int (iI i3)]) (rest := []) dX10_comeTo_45 ok_X11_at stt_X11_at nl10_40 np_X11_at rfl (Nat.le_of_ble_eq_true rfl) (Nat.le_of_ble_eq_true rfl) rfl (k_X11_at (d) (T := T) (σ := σ) (x := x49) (i := i3) hk51i (by omega) (by omega) hw ) (fun r53 T55 σ54 gt56 hp => ?_)
        obtain ⟨v60, rfl, rfl, rfl, f57, f58, f59⟩ := hp
        clear gt56
        clear f58 f59
        show Tn _ _ 48 T σ [(4, .int (iI v48)), (0, .ref a), (2, .int (iI c2)), (3, .int (iI i3))] [.int (iI v60)] _
        refine tn_istore (L' := [(5, .int (iI v60)), (4, .int (iI v48)), (0, .ref a), (2, .int (iI c2)), (3, .int (iI i3))]) dX10_comeTo_48 (by decide) rfl ?_
        refine tn_iload dX10_comeTo_50 1 rfl ?_
        refine tn_iload dX10_comeTo_52 0 rfl ?_
        refine tn_icmp_eq (tgt := 94) dX10_comeTo_54 (by decide) ⟨by omega, by omega⟩ ⟨by omega, by omega⟩ (fun h61 => ?_) (fun h61 => ?_)
        · refine tn_iinc (q0 := 4) (L' := [(3, .int (iI (i3 + 1))), (5, .int (iI v60)), (4, .int (iI v48)), (0, .ref a), (2, .int (iI c2))]) dX10_comeTo_94 rfl (by decide) rfl ?_
          refine tn_goto (tgt := 15) dX10_comeTo_97 (by decide) ?_
          exact tn_sub [3, 4, 0] rfl (ih _ (by omega) (i3 + 1) σ hw (FrC.rfl.trans (FrC.sub hF (by decide))) (by omega) rfl)
        · refine tn_iload dX10_comeTo_57 1 rfl ?_
          refine tn_iconst dX10_comeTo_59 ?_
          refine tn_icmp_eq (tgt := 94) dX10_comeTo_60 (by decide) ⟨by omega, by omega⟩ ⟨by decide, by decide⟩ (fun h62 => ?_) (fun h62 => ?_)
          · refine tn_iinc (q0 := 4) (L' := [(3, .int (iI (i3 + 1))), (5, .int (iI v60)), (4, .int (iI v48)), (0, .ref a), (2, .int (iI c2))]) dX10_comeTo_94 rfl (by decide) rfl ?_
            refine tn_goto (tgt := 15) dX10_comeTo_97 (by decide) ?_
            exact tn_sub [3, 4, 0] rfl (ih _ (by omega) (i3 + 1) σ hw (FrC.rfl.trans (FrC.sub hF (by decide))) (by omega) rfl)
          · refine tn_aload_n dX10_comeTo_63 rfl 2 rfl ?_
            refine tn_getR (ci := 10) (i := 4) (n := 92) (x := x4) dX10_comeTo_64 rfl lay_10 (by decide) fl10_61 h_a rfl rfl (rc_F hF (Or.inl (by decide)) (by decide) (hx3)) ?_
            refine tn_iload_n dX10_comeTo_67 rfl 3 rfl ?_
            refine tn_aload_n dX10_comeTo_68 rfl 2 rfl ?_
            refine tn_getI (ci := 10) (i := 5) (n := 93) (t := σ0.2.1 93 a) dX10_comeTo_69 rfl lay_10 (by decide) fl10_50 h_a rfl rfl (rc_F hF (Or.inl (by decide)) (by decide) (rfl)) ?_
            refine tn_imul dX10_comeTo_72 ?_
            have g64 : 0 ≤ c2 * (σ0.2.1 93 a) ∧ c2 * (σ0.2.1 93 a) ≤ 29000 := mul_rng (b := 200) (d := 145) (by omega) (by omega) (by omega) (by omega) (by decide) (by decide)
            generalize c2 * (σ0.2.1 93 a) = z63 at g64 ⊢
            refine tn_iload_n dX10_comeTo_73 rfl 4 rfl ?_
            refine tn_iadd dX10_comeTo_74 ?_
            refine tn_iload dX10_comeTo_75 1 rfl ?_
            refine tn_if_ne (tgt := 85) dX10_comeTo_77 (by decide) ⟨by omega, by omega⟩ (fun h65 => ?_) (fun h65 => ?_)
            · refine tn_iconst dX10_comeTo_85 ?_
              refine tn_callSN (M := m_X10_comeTo) (pc := 86) (ix := 26) (M' := m_X11_put) (As := [.ref x4, .int (iI (z63 + i3)), .int (iI 4)]) (rest := []) dX10_comeTo_86 ok_X11_put stt_X11_put nl10_26 np_X11_put rfl (Nat.le_of_ble_eq_true rfl) (Nat.le_of_ble_eq_true rfl) rfl (k_X11_put (d) (T := T) (σ := σ) (x := x4) (i := z63 + i3) (y := 4) hk5i (by omega) (by omega) (by decide) hw (nh_k hk5 (by unfold HT; omega)) (vok_1 (by have q9 := hk5; omega) (by omega))) (fun r66 T68 σ67 gt69 hp => ?_)
              obtain ⟨rfl, rfl, w71, F72⟩ := hp
              clear gt69
              show Tn _ _ 89 T σ67 [(5, .int (iI v60)), (4, .int (iI v48)), (0, .ref a), (2, .int (iI c2)), (3, .int (iI i3))] [] _
              refine tn_aload_n dX10_comeTo_89 rfl 2 rfl ?_
              refine tn_iconst dX10_comeTo_90 ?_
              refine tn_putV (ci := 10) (i := 6) (n := 94) (r := false) (v := 1) tyX10 tyX10_ok nmX10 dX10_comeTo_91 rfl lay_10 (by decide) fl10_78 rfl (tyX10_ok 6 (by decide)) rfl rfl rfl h_a rfl rfl ?_
              refine tn_iinc (q0 := 4) (L' := [(3, .int (iI (i3 + 1))), (5, .int (iI v60)), (4, .int (iI v48)), (0, .ref a), (2, .int (iI c2))]) dX10_comeTo_94 rfl (by decide) rfl ?_
              refine tn_goto (tgt := 15) dX10_comeTo_97 (by decide) ?_
              exact tn_sub [3, 4, 0] rfl (ih _ (by omega) (i3 + 1) (sA 94 a (1) σ67) (w71.put (by decide) (by decide) (fo_94 (by omega))) (((FrC.rfl.trans (FrC.sub hF (by decide))).trans (FrC.sub F72 (by decide))).put (by decide) (by decide)) (by omega) rfl)
            · refine tn_iload dX10_comeTo_80 0 rfl ?_
              refine tn_goto (tgt := 86) dX10_comeTo_82 (by decide) ?_
              refine tn_callSN (M := m_X10_comeTo) (pc := 86) (ix := 26) (M' := m_X11_put) (As := [.ref x4, .int (iI (z63 + i3)), .int (iI v60)]) (rest := []) dX10_comeTo_86 ok_X11_put stt_X11_put nl10_26 np_X11_put rfl (Nat.le_of_ble_eq_true rfl) (Nat.le_of_ble_eq_true rfl) rfl (k_X11_put (d) (T := T) (σ := σ) (x := x4) (i := z63 + i3) (y := v60) hk5i (by omega) (by omega) (by omega) hw (nh_k hk5 (by unfold HT; omega)) (vok_1 (by have q9 := hk5; omega) (by omega))) (fun r73 T75 σ74 gt76 hp => ?_)
              obtain ⟨rfl, rfl, w78, F79⟩ := hp
              clear gt76
              show Tn _ _ 89 T σ74 [(5, .int (iI v60)), (4, .int (iI v48)), (0, .ref a), (2, .int (iI c2)), (3, .int (iI i3))] [] _
              refine tn_aload_n dX10_comeTo_89 rfl 2 rfl ?_
              refine tn_iconst dX10_comeTo_90 ?_
              refine tn_putV (ci := 10) (i := 6) (n := 94) (r := false) (v := 1) tyX10 tyX10_ok nmX10 dX10_comeTo_91 rfl lay_10 (by decide) fl10_78 rfl (tyX10_ok 6 (by decide)) rfl rfl rfl h_a rfl rfl ?_
              refine tn_iinc (q0 := 4) (L' := [(3, .int (iI (i3 + 1))), (5, .int (iI v60)), (4, .int (iI v48)), (0, .ref a), (2, .int (iI c2))]) dX10_comeTo_94 rfl (by decide) rfl ?_
              refine tn_goto (tgt := 15) dX10_comeTo_97 (by decide) ?_
              exact tn_sub [3, 4, 0] rfl (ih _ (by omega) (i3 + 1) (sA 94 a (1) σ74) (w78.put (by decide) (by decide) (fo_94 (by omega))) (((FrC.rfl.trans (FrC.sub hF (by decide))).trans (FrC.sub F79 (by decide))).put (by decide) (by decide)) (by omega) rfl)
theorem dX10_comeTo_100 : decode cX10_comeTo 100 = .ok (.return_, 1) := by decide +kernel
set_option maxRecDepth 20000 in
theorem k_X10_comeTo (d : Nat) {T : CT} {σ : MS} {a : Nat} {p1 : Nat} {p2 : Int} (ha : OB T a 10) (h_p1 : OB T p1 1) (t_p1 : (T p1).1 = 50) (h_p2 : -2147483648 ≤ p2 ∧ p2 ≤ 2147483647) (hw : WT T σ) : Tn (d + 2) m_X10_comeTo 0 T σ [(0, .ref a), (1, .ref p1), (2, .int (iI p2))] [] (fun ro T2 σ2 => ro = none ∧ T = T2 ∧ WT T2 σ2 ∧ FrC T [94] σ σ2) := by
  refine tn_iload_n dX10_comeTo_0 rfl 2 rfl ?_
  refine tn_if_lt (tgt := 12) dX10_comeTo_1 (by decide) ⟨by omega, by omega⟩ (fun h1 => ?_) (fun h1 => ?_)
  · exact tn_vret rfl dX10_comeTo_12 ⟨rfl, rfl, hw, FrC.rfl⟩
  · refine tn_iload_n dX10_comeTo_4 rfl 2 rfl ?_
    refine tn_aload_n dX10_comeTo_5 rfl 1 rfl ?_
    refine tn_getI (ci := 1) (i := 1) (n := 6) (t := σ.2.1 6 p1) dX10_comeTo_6 rfl lay_1 (by decide) fl10_53 h_p1 rfl rfl (rfl) ?_
    have g2 : ((0 : Int) ≤ σ.2.1 6 p1 ∧ σ.2.1 6 p1 ≤ 5000) ∧ ((T p1).1 = 50 → σ.2.1 6 p1 ≤ 200) := wf_6 hw h_p1
    have g2x := g2.2
    replace g2 := g2.1
    have g2x := g2x t_p1
    refine tn_icmp_le (tgt := 13) dX10_comeTo_9 (by decide) ⟨by omega, by omega⟩ ⟨by omega, by omega⟩ (fun h3 => ?_) (fun h3 => ?_)
    · refine tn_iconst dX10_comeTo_13 ?_
      refine tn_istore_n (L' := [(3, .int (iI 0)), (0, .ref a), (1, .ref p1), (2, .int (iI p2))]) dX10_comeTo_14 rfl (by decide) rfl ?_
      refine tn_sub [1, 3, 0] rfl (l_X10_comeTo_15 (d) (T := T) (σ0 := σ) (a := a) (c2 := p2) ha (by omega) hw (fun i34 σ5 w8 F9 r10 => ?_) _ (0) σ hw FrC.rfl (by omega) rfl)
      show Tn _ _ 100 T σ5 [(0, .ref a), (2, .int (iI p2)), (3, .int (iI i34))] [] _
      exact tn_vret rfl dX10_comeTo_100 ⟨rfl, rfl, w8, (FrC.rfl.trans (FrC.sub F9 (by decide)))⟩
    · exact tn_vret rfl dX10_comeTo_12 ⟨rfl, rfl, hw, FrC.rfl⟩
end
section
set_option maxRecDepth 20000 in
theorem l_X1_slotOf_any_7 (d : Nat) {T : CT} {σ : MS} {a : Nat} {c1 : Int} {post : Option Value → CT → MS → Prop} (h_a : OB T a 1) (r_c1 : -2147483648 ≤ c1 ∧ c1 ≤ 2147483647) (hw : WT T σ) (hx_39 : ∀ (i3 : Int) (i4 : Int) , (-2147483648 ≤ i3 ∧ i3 ≤ 2147483647) → (0 ≤ i4 ∧ i4 ≤ 2147483647) → Tn (d + 1) m_X1_slotOf 39 T σ [(0, .ref a), (1, .int (iI c1)), (3, .int (iI i3)), (4, .int (iI i4))] [] post) : ∀ (n : Nat) (i3 : Int) (i4 : Int) , (-2147483648 ≤ i3 ∧ i3 ≤ 2147483647) → (0 ≤ i4 ∧ i4 ≤ 2147483647) → (2147483700 - i4).toNat = n → Tn (d + 1) m_X1_slotOf 7 T σ [(0, .ref a), (1, .int (iI c1)), (3, .int (iI i3)), (4, .int (iI i4))] [] post := by
  intro n
  induction n using Nat.strongRecOn with
  | _ n ih =>
    intro i3 i4 r_i3 r_i4 hm
    refine tn_iload dX1_slotOf_7 3 rfl ?_
    refine tn_iload_n dX1_slotOf_9 rfl 1 rfl ?_
    refine tn_icmp_ge (tgt := 39) dX1_slotOf_10 (by decide) ⟨by omega, by omega⟩ ⟨by omega, by omega⟩ (fun h1 => ?_) (fun h1 => ?_)
    · exact tn_sub [0, 1, 2, 3] rfl (hx_39 (i3) (i4) (by omega) (by omega))
    · refine tn_iload dX1_slotOf_13 3 rfl ?_
      refine tn_aload_n dX1_slotOf_15 rfl 0 rfl ?_
      obtain ⟨x2, hx3, hk4, hl5⟩ : ∃ x : Nat, σ.2.1 14 a = (x : Int) ∧ AR T x 11 12 12 := wf_14 hw h_a
      have hk4i : IA T x2 := by unfold IA; omega
      refine tn_getR (ci := 1) (i := 9) (n := 14) (x := x2) dX1_slotOf_16 rfl lay_1 (by decide) fl1_24 h_a rfl rfl (hx3) ?_
      refine tn_alenX dX1_slotOf_19 (Or.inl hk4i) ?_
      refine tn_icmp_ge (tgt := 39) dX1_slotOf_20 (by decide) ⟨by omega, by omega⟩ ⟨by omega, by omega⟩ (fun h6 => ?_) (fun h6 => ?_)
      · exact tn_sub [0, 1, 2, 3] rfl (hx_39 (i3) (i4) (by omega) (by omega))
      · refine tn_iload_n dX1_slotOf_23 rfl 2 rfl ?_
        refine tn_aload_n dX1_slotOf_24 rfl 0 rfl ?_
        refine tn_getR (ci := 1) (i := 9) (n := 14) (x := x2) dX1_slotOf_25 rfl lay_1 (by decide) fl1_24 h_a rfl rfl (hx3) ?_
        refine tn_iload dX1_slotOf_28 3 rfl ?_
        refine tn_ialdX (z := i4) hw dX1_slotOf_30 hk4i (by omega) (by omega) (by omega) (fun v7 g8q g8 g8k => ?_)
        have g8n := g8k.2.1 hk4
        clear g8k g8q
        refine tn_iadd dX1_slotOf_31 ?_
        refine tn_any (fun z9 g10 => ?_)
        have g10r : -2147483648 ≤ z9 ∧ z9 ≤ 2147483647 := g10
        refine tn_istore_n (L' := [(3, .int (iI z9)), (0, .ref a), (1, .int (iI c1)), (4, .int (iI i4))]) dX1_slotOf_32 rfl (by decide) rfl ?_
        refine tn_iinc (q0 := 3) (L' := [(4, .int (iI (i4 + 1))), (3, .int (iI z9)), (0, .ref a), (1, .int (iI c1))]) dX1_slotOf_33 rfl (by decide) rfl ?_
        refine tn_goto (tgt := 7) dX1_slotOf_36 (by decide) ?_
        exact tn_sub [2, 3, 1, 0] rfl (ih _ (by omega) (z9) (i4 + 1) (by omega) (by omega) rfl)
set_option maxRecDepth 20000 in
theorem k_X1_slotOf_any (d : Nat) {T : CT} {σ : MS} {a : Nat} {f : Int} {m : Int} (ha : OB T a 1) (h_f : -2147483648 ≤ f ∧ f ≤ 2147483647) (h_m : -2147483648 ≤ m ∧ m ≤ 2147483647) (hw : WT T σ) : Tn (d + 1) m_X1_slotOf 0 T σ [(0, .ref a), (1, .int (iI f)), (2, .int (iI m))] [] (fun ro T2 σ2 => ∃ v : Int, ro = some (.int (iI v)) ∧ T = T2 ∧ σ = σ2 ∧ (-2147483648 ≤ v ∧ v ≤ 2147483647)) := by
  refine tn_iconst dX1_slotOf_0 ?_
  refine tn_iload_n dX1_slotOf_1 rfl 2 rfl ?_
  refine tn_iadd dX1_slotOf_2 ?_
  refine tn_any (fun z1 g2 => ?_)
  have g2r : -2147483648 ≤ z1 ∧ z1 ≤ 2147483647 := g2
  refine tn_istore_n (L' := [(3, .int (iI z1)), (0, .ref a), (1, .int (iI f)), (2, .int (iI m))]) dX1_slotOf_3 rfl (by decide) rfl ?_
  refine tn_iconst dX1_slotOf_4 ?_
  refine tn_istore (L' := [(4, .int (iI 0)), (3, .int (iI z1)), (0, .ref a), (1, .int (iI f)), (2, .int (iI m))]) dX1_slotOf_5 (by decide) rfl ?_
  refine tn_sub [2, 3, 1, 0] rfl (l_X1_slotOf_any_7 (d) (T := T) (σ := σ) (a := a) (c1 := f) ha (by omega) hw (fun i33 i44 r10 r11 => ?_) _ (z1) (0) (by omega) (by omega) rfl)
  show Tn _ _ 39 T σ [(0, .ref a), (1, .int (iI f)), (3, .int (iI i33)), (4, .int (iI i44))] [] _
  refine tn_iload_n dX1_slotOf_39 rfl 2 rfl ?_
  exact tn_iret rfl dX1_slotOf_40 ⟨_, rfl, rfl, rfl, by omega⟩
end
section
theorem cd_X10_goThrough : Cond.code yX10_goThrough cX10_goThrough 7 none ∈ pWW := pw4 (List.mem_of_getElem? (i := 137) rfl) rfl
abbrev m_X10_goThrough : MT := (yX10_goThrough, cX10_goThrough, 7, none)
theorem ok_X10_goThrough : pOk m_X10_goThrough := ⟨⟨cd_X10_goThrough, ini_10⟩, by decide +kernel, ⟨by decide +kernel, by decide +kernel⟩, Nat.le_of_ble_eq_true rfl⟩
theorem np_X10_goThrough : (parseMethodDescriptor yX10_goThrough.desc).map (fun d => d.parameters.length) = some 2 := by decide +kernel
theorem im_X10_goThrough : Cond.instanceMethod yX10_goThrough ∈ pWW := pw4 (List.mem_of_getElem? (i := 136) rfl) rfl
theorem se_X10_goThrough : Cond.selects RX10 yX10_goThrough yX10_goThrough ∈ pWW := pws (List.mem_map.mpr ⟨_, lw_pin 41 rfl, rfl⟩) rfl
theorem ml10_96 : Cond.methodLink RX10 96 yX1_writtenBy ∈ pWW := pw4 (List.mem_of_getElem? (i := 139) rfl) rfl
theorem ml10_100 : Cond.methodLink RX10 100 yX10_leans ∈ pWW := pw4 (List.mem_of_getElem? (i := 140) rfl) rfl
theorem dX10_goThrough_0 : decode cX10_goThrough 0 = .ok (.aload_n 0, 1) := by decide +kernel
theorem dX10_goThrough_1 : decode cX10_goThrough 1 = .ok (.getfield 61, 3) := by decide +kernel
theorem dX10_goThrough_4 : decode cX10_goThrough 4 = .ok (.iload_n 2, 1) := by decide +kernel
theorem dX10_goThrough_5 : decode cX10_goThrough 5 = .ok (.aload_n 0, 1) := by decide +kernel
theorem dX10_goThrough_6 : decode cX10_goThrough 6 = .ok (.getfield 50, 3) := by decide +kernel
theorem dX10_goThrough_9 : decode cX10_goThrough 9 = .ok (.imul, 1) := by decide +kernel
theorem dX10_goThrough_10 : decode cX10_goThrough 10 = .ok (.invokestatic 40, 3) := by decide +kernel
theorem dX10_goThrough_13 : decode cX10_goThrough 13 = .ok (.ifCond .ne 4, 3) := by decide +kernel
theorem dX10_goThrough_16 : decode cX10_goThrough 16 = .ok (.return_, 1) := by decide +kernel
theorem dX10_goThrough_17 : decode cX10_goThrough 17 = .ok (.aload_n 1, 1) := by decide +kernel
theorem dX10_goThrough_18 : decode cX10_goThrough 18 = .ok (.iload_n 2, 1) := by decide +kernel
theorem dX10_goThrough_19 : decode cX10_goThrough 19 = .ok (.iconst 0, 1) := by decide +kernel
theorem dX10_goThrough_20 : decode cX10_goThrough 20 = .ok (.invokevirtual 44, 3) := by decide +kernel
theorem dX10_goThrough_23 : decode cX10_goThrough 23 = .ok (.istore_n 3, 1) := by decide +kernel
theorem dX10_goThrough_24 : decode cX10_goThrough 24 = .ok (.aload_n 1, 1) := by decide +kernel
theorem dX10_goThrough_25 : decode cX10_goThrough 25 = .ok (.iload_n 2, 1) := by decide +kernel
theorem dX10_goThrough_26 : decode cX10_goThrough 26 = .ok (.invokevirtual 96, 3) := by decide +kernel
theorem dX10_goThrough_29 : decode cX10_goThrough 29 = .ok (.istore 4, 2) := by decide +kernel
theorem dX10_goThrough_31 : decode cX10_goThrough 31 = .ok (.iconst 0, 1) := by decide +kernel
theorem dX10_goThrough_32 : decode cX10_goThrough 32 = .ok (.istore 5, 2) := by decide +kernel
theorem dX10_goThrough_34 : decode cX10_goThrough 34 = .ok (.iload 5, 2) := by decide +kernel
theorem dX10_goThrough_36 : decode cX10_goThrough 36 = .ok (.aload_n 0, 1) := by decide +kernel
theorem dX10_goThrough_37 : decode cX10_goThrough 37 = .ok (.getfield 50, 3) := by decide +kernel
theorem dX10_goThrough_40 : decode cX10_goThrough 40 = .ok (.if_icmp .ge 60, 3) := by decide +kernel
theorem dX10_goThrough_43 : decode cX10_goThrough 43 = .ok (.aload_n 0, 1) := by decide +kernel
theorem dX10_goThrough_44 : decode cX10_goThrough 44 = .ok (.getfield 61, 3) := by decide +kernel
theorem dX10_goThrough_47 : decode cX10_goThrough 47 = .ok (.iload_n 2, 1) := by decide +kernel
theorem dX10_goThrough_48 : decode cX10_goThrough 48 = .ok (.aload_n 0, 1) := by decide +kernel
theorem dX10_goThrough_49 : decode cX10_goThrough 49 = .ok (.getfield 50, 3) := by decide +kernel
theorem dX10_goThrough_52 : decode cX10_goThrough 52 = .ok (.imul, 1) := by decide +kernel
theorem dX10_goThrough_53 : decode cX10_goThrough 53 = .ok (.iload 5, 2) := by decide +kernel
theorem dX10_goThrough_55 : decode cX10_goThrough 55 = .ok (.iadd, 1) := by decide +kernel
theorem dX10_goThrough_56 : decode cX10_goThrough 56 = .ok (.invokestatic 40, 3) := by decide +kernel
theorem dX10_goThrough_59 : decode cX10_goThrough 59 = .ok (.istore 6, 2) := by decide +kernel
theorem dX10_goThrough_61 : decode cX10_goThrough 61 = .ok (.aload_n 0, 1) := by decide +kernel
theorem dX10_goThrough_62 : decode cX10_goThrough 62 = .ok (.getfield 23, 3) := by decide +kernel
theorem dX10_goThrough_65 : decode cX10_goThrough 65 = .ok (.iload 5, 2) := by decide +kernel
theorem dX10_goThrough_67 : decode cX10_goThrough 67 = .ok (.iload 4, 2) := by decide +kernel
theorem dX10_goThrough_69 : decode cX10_goThrough 69 = .ok (.iconst (-1), 1) := by decide +kernel
theorem dX10_goThrough_70 : decode cX10_goThrough 70 = .ok (.if_icmp .eq 19, 3) := by decide +kernel
theorem dX10_goThrough_89 : decode cX10_goThrough 89 = .ok (.iload 6, 2) := by decide +kernel
theorem dX10_goThrough_91 : decode cX10_goThrough 91 = .ok (.invokestatic 26, 3) := by decide +kernel
theorem dX10_goThrough_94 : decode cX10_goThrough 94 = .ok (.iinc 5 1, 3) := by decide +kernel
theorem dX10_goThrough_97 : decode cX10_goThrough 97 = .ok (.goto (-63), 3) := by decide +kernel
theorem dX10_goThrough_73 : decode cX10_goThrough 73 = .ok (.aload_n 0, 1) := by decide +kernel
theorem dX10_goThrough_74 : decode cX10_goThrough 74 = .ok (.aload_n 1, 1) := by decide +kernel
theorem dX10_goThrough_75 : decode cX10_goThrough 75 = .ok (.iload 6, 2) := by decide +kernel
theorem dX10_goThrough_77 : decode cX10_goThrough 77 = .ok (.iload 4, 2) := by decide +kernel
theorem dX10_goThrough_79 : decode cX10_goThrough 79 = .ok (.invokevirtual 100, 3) := by decide +kernel
theorem dX10_goThrough_82 : decode cX10_goThrough 82 = .ok (.ifCond .eq 7, 3) := by decide +kernel
theorem dX10_goThrough_85 : decode cX10_goThrough 85 = .ok (.iconst 3, 1) := by decide +kernel
theorem dX10_goThrough_86 : decode cX10_goThrough 86 = .ok (.goto 5, 3) := by decide +kernel
set_option maxRecDepth 20000 in
theorem l_X10_goThrough_34 (d : Nat) {T : CT} {σ0 : MS} {a : Nat} {rx1 : Nat} {c2 : Int} {c3 : Int} {c4 : Int} {post : Option Value → CT → MS → Prop} (h_a : OB T a 10) (h_rx1 : OB T rx1 1) (t_rx1 : (T rx1).1 = 50) (r_c2 : -2147483648 ≤ c2 ∧ c2 ≤ 2147483647) (r_c3 : -2147483648 ≤ c3 ∧ c3 ≤ 2147483647) (r_c4 : -2147483648 ≤ c4 ∧ c4 ≤ 2147483647) (hw0 : WT T σ0) (hx_100 : ∀ (i5 : Int) (σ : MS) , (WT T σ) → (FrC T [] σ0 σ) → (0 ≤ i5 ∧ i5 ≤ 2147483647) → Tn (d + 4) m_X10_goThrough 100 T σ [(0, .ref a), (1, .ref rx1), (2, .int (iI c2)), (3, .int (iI c3)), (4, .int (iI c4)), (5, .int (iI i5))] [] post) : ∀ (n : Nat) (i5 : Int) (σ : MS) , (WT T σ) → (FrC T [] σ0 σ) → (0 ≤ i5 ∧ i5 ≤ 2147483647) → (2147483700 - i5).toNat = n → Tn (d + 4) m_X10_goThrough 34 T σ [(0, .ref a), (1, .ref rx1), (2, .int (iI c2)), (3, .int (iI c3)), (4, .int (iI c4)), (5, .int (iI i5))] [] post := by
  intro n
  induction n using Nat.strongRecOn with
  | _ n ih =>
    intro i5 σ hw hF r_i5 hm
    refine tn_iload dX10_goThrough_34 5 rfl ?_
    refine tn_aload_n dX10_goThrough_36 rfl 0 rfl ?_
    refine tn_getI (ci := 10) (i := 5) (n := 93) (t := σ0.2.1 93 a) dX10_goThrough_37 rfl lay_10 (by decide) fl10_50 h_a rfl rfl (rc_F hF (Or.inl (by decide)) (by decide) (rfl)) ?_
    have g1 : ((0 : Int) ≤ σ0.2.1 93 a ∧ σ0.2.1 93 a ≤ 145) := wf_93 hw0 h_a
    refine tn_icmp_ge (tgt := 100) dX10_goThrough_40 (by decide) ⟨by omega, by omega⟩ ⟨by omega, by omega⟩ (fun h2 => ?_) (fun h2 => ?_)
    · exact tn_sub [0, 1, 2, 3, 4, 5] rfl (hx_100 (i5) σ hw (FrC.rfl.trans (FrC.sub hF (by decide))) (by omega))
    · refine tn_aload_n dX10_goThrough_43 rfl 0 rfl ?_
      rcases wf_92 hw0 h_a with hx3 | ⟨x4, hx3, hk5, hl6⟩
      · refine tn_getN (ci := 10) (i := 4) (n := 92) dX10_goThrough_44 rfl lay_10 (by decide) fl10_61 h_a rfl rfl (Int.lt_of_le_of_lt (Int.le_of_eq (rc_F hF (Or.inl (by decide)) (by decide) (Eq.refl _))) hx3) ?_
        refine tn_iload_n dX10_goThrough_47 rfl 2 rfl ?_
        refine tn_aload_n dX10_goThrough_48 rfl 0 rfl ?_
        refine tn_getI (ci := 10) (i := 5) (n := 93) (t := σ0.2.1 93 a) dX10_goThrough_49 rfl lay_10 (by decide) fl10_50 h_a rfl rfl (rc_F hF (Or.inl (by decide)) (by decide) (rfl)) ?_
        refine tn_imul dX10_goThrough_52 ?_
        refine tn_any (fun z7 g8 => ?_)
        have g8r : -2147483648 ≤ z7 ∧ z7 ≤ 2147483647 := g8
        refine tn_iload dX10_goThrough_53 5 rfl ?_
        refine tn_iadd dX10_goThrough_55 ?_
        refine tn_any (fun z9 g10 => ?_)
        have g10r : -2147483648 ≤ z9 ∧ z9 ≤ 2147483647 := g10
        refine tn_callSN (M := m_X10_goThrough) (pc := 56) (ix := 40) (M' := m_X11_at) (As := [.null, .int (iI z9)]) (rest := []) dX10_goThrough_56 ok_X11_at stt_X11_at nl10_40 np_X11_at rfl (Nat.le_of_ble_eq_true rfl) (Nat.le_of_ble_eq_true rfl) rfl (k_X11_at_0 (d + 2) (T := T) (σ := σ) (i := z9) (by omega) hw ) (fun r11 T13 σ12 gt14 hp => ?_)
        obtain ⟨v16, rfl, rfl, rfl, f15⟩ := hp
        clear gt14
        show Tn _ _ 59 T σ [(0, .ref a), (1, .ref rx1), (2, .int (iI c2)), (3, .int (iI c3)), (4, .int (iI c4)), (5, .int (iI i5))] [.int (iI v16)] _
        refine tn_istore (L' := [(6, .int (iI v16)), (0, .ref a), (1, .ref rx1), (2, .int (iI c2)), (3, .int (iI c3)), (4, .int (iI c4)), (5, .int (iI i5))]) dX10_goThrough_59 (by decide) rfl ?_
        refine tn_aload_n dX10_goThrough_61 rfl 1 rfl ?_
        obtain ⟨x17, hx18, hk19, hl20⟩ : ∃ x : Nat, σ0.2.1 91 a = (x : Int) ∧ AR T x 1 145 145 := wf_91 hw0 h_a
        have hk19i : IA T x17 := by unfold IA; omega
        refine tn_getR (ci := 10) (i := 3) (n := 91) (x := x17) dX10_goThrough_62 rfl lay_10 (by decide) fl10_23 h_a rfl rfl (rc_F hF (Or.inl (by decide)) (by decide) (hx18)) ?_
        refine tn_iload dX10_goThrough_65 6 rfl ?_
        refine tn_iload dX10_goThrough_67 5 rfl ?_
        refine tn_iconst dX10_goThrough_69 ?_
        refine tn_icmp_eq (tgt := 89) dX10_goThrough_70 (by decide) ⟨by omega, by omega⟩ ⟨by decide, by decide⟩ (fun h21 => ?_) (fun h21 => ?_)
        · refine tn_iload dX10_goThrough_89 0 rfl ?_
          refine tn_callSN (M := m_X10_goThrough) (pc := 91) (ix := 26) (M' := m_X11_put) (As := [.ref x17, .int (iI i5), .int (iI v16)]) (rest := []) dX10_goThrough_91 ok_X11_put stt_X11_put nl10_26 np_X11_put rfl (Nat.le_of_ble_eq_true rfl) (Nat.le_of_ble_eq_true rfl) rfl (k_X11_put (d + 2) (T := T) (σ := σ) (x := x17) (i := i5) (y := v16) hk19i (by omega) (by omega) (by omega) hw (nh_k hk19 (by unfold HT; omega)) (vok_1 (by have q9 := hk19; omega) (by omega))) (fun r22 T24 σ23 gt25 hp => ?_)
          obtain ⟨rfl, rfl, w27, F28⟩ := hp
          clear gt25
          show Tn _ _ 94 T σ23 [(6, .int (iI v16)), (0, .ref a), (1, .ref rx1), (2, .int (iI c2)), (3, .int (iI c3)), (4, .int (iI c4)), (5, .int (iI i5))] [] _
          refine tn_iinc (q0 := 6) (L' := [(5, .int (iI (i5 + 1))), (6, .int (iI v16)), (0, .ref a), (1, .ref rx1), (2, .int (iI c2)), (3, .int (iI c3)), (4, .int (iI c4))]) dX10_goThrough_94 rfl (by decide) rfl ?_
          refine tn_goto (tgt := 34) dX10_goThrough_97 (by decide) ?_
          exact tn_sub [2, 3, 4, 5, 6, 0] rfl (ih _ (by omega) (i5 + 1) σ23 w27 ((FrC.rfl.trans (FrC.sub hF (by decide))).trans (FrC.sub F28 (by decide))) (by omega) rfl)
        · refine tn_aload_n dX10_goThrough_73 rfl 1 rfl ?_
          refine tn_aload_n dX10_goThrough_74 rfl 2 rfl ?_
          refine tn_iload dX10_goThrough_75 0 rfl ?_
          refine tn_iload dX10_goThrough_77 5 rfl ?_
          refine tn_callV (M := m_X10_goThrough) (pc := 79) (ix := 100) (ci := 10) (M' := m_X10_leans) (As := [.ref rx1, .int (iI v16), .int (iI c4)]) (rest := [.int (iI i5), .ref x17]) dX10_goThrough_79 ok_X10_leans im_X10_leans se_X10_leans ml10_100 np_X10_leans rfl rfl h_a rfl (Nat.le_of_ble_eq_true rfl) (Nat.le_of_ble_eq_true rfl) rfl (k_X10_leans (d) (T := T) (σ := σ) (a := a) (p1 := rx1) (p2 := v16) (p3 := c4) h_a h_rx1 (by omega) (by omega) hw ) (fun r29 T31 σ30 gt32 hp => ?_)
          obtain ⟨v34, rfl, rfl, rfl, f33⟩ := hp
          clear gt32
          show Tn _ _ 82 T σ [(6, .int (iI v16)), (0, .ref a), (1, .ref rx1), (2, .int (iI c2)), (3, .int (iI c3)), (4, .int (iI c4)), (5, .int (iI i5))] [.int (iI v34), .int (iI i5), .ref x17] _
          refine tn_if_eq (tgt := 89) dX10_goThrough_82 (by decide) ⟨by omega, by omega⟩ (fun h35 => ?_) (fun h35 => ?_)
          · refine tn_iload dX10_goThrough_89 0 rfl ?_
            refine tn_callSN (M := m_X10_goThrough) (pc := 91) (ix := 26) (M' := m_X11_put) (As := [.ref x17, .int (iI i5), .int (iI v16)]) (rest := []) dX10_goThrough_91 ok_X11_put stt_X11_put nl10_26 np_X11_put rfl (Nat.le_of_ble_eq_true rfl) (Nat.le_of_ble_eq_true rfl) rfl (k_X11_put (d + 2) (T := T) (σ := σ) (x := x17) (i := i5) (y := v16) hk19i (by omega) (by omega) (by omega) hw (nh_k hk19 (by unfold HT; omega)) (vok_1 (by have q9 := hk19; omega) (by omega))) (fun r36 T38 σ37 gt39 hp => ?_)
            obtain ⟨rfl, rfl, w41, F42⟩ := hp
            clear gt39
            show Tn _ _ 94 T σ37 [(6, .int (iI v16)), (0, .ref a), (1, .ref rx1), (2, .int (iI c2)), (3, .int (iI c3)), (4, .int (iI c4)), (5, .int (iI i5))] [] _
            refine tn_iinc (q0 := 6) (L' := [(5, .int (iI (i5 + 1))), (6, .int (iI v16)), (0, .ref a), (1, .ref rx1), (2, .int (iI c2)), (3, .int (iI c3)), (4, .int (iI c4))]) dX10_goThrough_94 rfl (by decide) rfl ?_
            refine tn_goto (tgt := 34) dX10_goThrough_97 (by decide) ?_
            exact tn_sub [2, 3, 4, 5, 6, 0] rfl (ih _ (by omega) (i5 + 1) σ37 w41 ((FrC.rfl.trans (FrC.sub hF (by decide))).trans (FrC.sub F42 (by decide))) (by omega) rfl)
          · refine tn_iconst dX10_goThrough_85 ?_
            refine tn_goto (tgt := 91) dX10_goThrough_86 (by decide) ?_
            refine tn_callSN (M := m_X10_goThrough) (pc := 91) (ix := 26) (M' := m_X11_put) (As := [.ref x17, .int (iI i5), .int (iI 3)]) (rest := []) dX10_goThrough_91 ok_X11_put stt_X11_put nl10_26 np_X11_put rfl (Nat.le_of_ble_eq_true rfl) (Nat.le_of_ble_eq_true rfl) rfl (k_X11_put (d + 2) (T := T) (σ := σ) (x := x17) (i := i5) (y := 3) hk19i (by omega) (by omega) (by decide) hw (nh_k hk19 (by unfold HT; omega)) (vok_1 (by have q9 := hk19; omega) (by omega))) (fun r43 T45 σ44 gt46 hp => ?_)
            obtain ⟨rfl, rfl, w48, F49⟩ := hp
            clear gt46
            show Tn _ _ 94 T σ44 [(6, .int (iI v16)), (0, .ref a), (1, .ref rx1), (2, .int (iI c2)), (3, .int (iI c3)), (4, .int (iI c4)), (5, .int (iI i5))] [] _
            refine tn_iinc (q0 := 6) (L' := [(5, .int (iI (i5 + 1))), (6, .int (iI v16)), (0, .ref a), (1, .ref rx1), (2, .int (iI c2)), (3, .int (iI c3)), (4, .int (iI c4))]) dX10_goThrough_94 rfl (by decide) rfl ?_
            refine tn_goto (tgt := 34) dX10_goThrough_97 (by decide) ?_
            exact tn_sub [2, 3, 4, 5, 6, 0] rfl (ih _ (by omega) (i5 + 1) σ44 w48 ((FrC.rfl.trans (FrC.sub hF (by decide))).trans (FrC.sub F49 (by decide))) (by omega) rfl)
      · have hk5i : IA T x4 := by unfold IA; omega
        refine tn_getR (ci := 10) (i := 4) (n := 92) (x := x4) dX10_goThrough_44 rfl lay_10 (by decide) fl10_61 h_a rfl rfl (rc_F hF (Or.inl (by decide)) (by decide) (hx3)) ?_
        refine tn_iload_n dX10_goThrough_47 rfl 2 rfl ?_
        refine tn_aload_n dX10_goThrough_48 rfl 0 rfl ?_
        refine tn_getI (ci := 10) (i := 5) (n := 93) (t := σ0.2.1 93 a) dX10_goThrough_49 rfl lay_10 (by decide) fl10_50 h_a rfl rfl (rc_F hF (Or.inl (by decide)) (by decide) (rfl)) ?_
        refine tn_imul dX10_goThrough_52 ?_
        refine tn_any (fun z50 g51 => ?_)
        have g51r : -2147483648 ≤ z50 ∧ z50 ≤ 2147483647 := g51
        refine tn_iload dX10_goThrough_53 5 rfl ?_
        refine tn_iadd dX10_goThrough_55 ?_
        refine tn_any (fun z52 g53 => ?_)
        have g53r : -2147483648 ≤ z52 ∧ z52 ≤ 2147483647 := g53
        refine tn_callSN (M := m_X10_goThrough) (pc := 56) (ix := 40) (M' := m_X11_at) (As := [.ref x4, .int (iI z52)]) (rest := []) dX10_goThrough_56 ok_X11_at stt_X11_at nl10_40 np_X11_at rfl (Nat.le_of_ble_eq_true rfl) (Nat.le_of_ble_eq_true rfl) rfl (k_X11_at (d + 2) (T := T) (σ := σ) (x := x4) (i := z52) hk5i (by omega) (by omega) hw ) (fun r54 T56 σ55 gt57 hp => ?_)
        obtain ⟨v61, rfl, rfl, rfl, f58, f59, f60⟩ := hp
        clear gt57
        clear f59 f60
        show Tn _ _ 59 T σ [(0, .ref a), (1, .ref rx1), (2, .int (iI c2)), (3, .int (iI c3)), (4, .int (iI c4)), (5, .int (iI i5))] [.int (iI v61)] _
        refine tn_istore (L' := [(6, .int (iI v61)), (0, .ref a), (1, .ref rx1), (2, .int (iI c2)), (3, .int (iI c3)), (4, .int (iI c4)), (5, .int (iI i5))]) dX10_goThrough_59 (by decide) rfl ?_
        refine tn_aload_n dX10_goThrough_61 rfl 1 rfl ?_
        obtain ⟨x62, hx63, hk64, hl65⟩ : ∃ x : Nat, σ0.2.1 91 a = (x : Int) ∧ AR T x 1 145 145 := wf_91 hw0 h_a
        have hk64i : IA T x62 := by unfold IA; omega
        refine tn_getR (ci := 10) (i := 3) (n := 91) (x := x62) dX10_goThrough_62 rfl lay_10 (by decide) fl10_23 h_a rfl rfl (rc_F hF (Or.inl (by decide)) (by decide) (hx63)) ?_
        refine tn_iload dX10_goThrough_65 6 rfl ?_
        refine tn_iload dX10_goThrough_67 5 rfl ?_
        refine tn_iconst dX10_goThrough_69 ?_
        refine tn_icmp_eq (tgt := 89) dX10_goThrough_70 (by decide) ⟨by omega, by omega⟩ ⟨by decide, by decide⟩ (fun h66 => ?_) (fun h66 => ?_)
        · refine tn_iload dX10_goThrough_89 0 rfl ?_
          refine tn_callSN (M := m_X10_goThrough) (pc := 91) (ix := 26) (M' := m_X11_put) (As := [.ref x62, .int (iI i5), .int (iI v61)]) (rest := []) dX10_goThrough_91 ok_X11_put stt_X11_put nl10_26 np_X11_put rfl (Nat.le_of_ble_eq_true rfl) (Nat.le_of_ble_eq_true rfl) rfl (k_X11_put (d + 2) (T := T) (σ := σ) (x := x62) (i := i5) (y := v61) hk64i (by omega) (by omega) (by omega) hw (nh_k hk64 (by unfold HT; omega)) (vok_1 (by have q9 := hk64; omega) (by omega))) (fun r67 T69 σ68 gt70 hp => ?_)
          obtain ⟨rfl, rfl, w72, F73⟩ := hp
          clear gt70
          show Tn _ _ 94 T σ68 [(6, .int (iI v61)), (0, .ref a), (1, .ref rx1), (2, .int (iI c2)), (3, .int (iI c3)), (4, .int (iI c4)), (5, .int (iI i5))] [] _
          refine tn_iinc (q0 := 6) (L' := [(5, .int (iI (i5 + 1))), (6, .int (iI v61)), (0, .ref a), (1, .ref rx1), (2, .int (iI c2)), (3, .int (iI c3)), (4, .int (iI c4))]) dX10_goThrough_94 rfl (by decide) rfl ?_
          refine tn_goto (tgt := 34) dX10_goThrough_97 (by decide) ?_
          exact tn_sub [2, 3, 4, 5, 6, 0] rfl (ih _ (by omega) (i5 + 1) σ68 w72 ((FrC.rfl.trans (FrC.sub hF (by decide))).trans (FrC.sub F73 (by decide))) (by omega) rfl)
        · refine tn_aload_n dX10_goThrough_73 rfl 1 rfl ?_
          refine tn_aload_n dX10_goThrough_74 rfl 2 rfl ?_
          refine tn_iload dX10_goThrough_75 0 rfl ?_
          refine tn_iload dX10_goThrough_77 5 rfl ?_
          refine tn_callV (M := m_X10_goThrough) (pc := 79) (ix := 100) (ci := 10) (M' := m_X10_leans) (As := [.ref rx1, .int (iI v61), .int (iI c4)]) (rest := [.int (iI i5), .ref x62]) dX10_goThrough_79 ok_X10_leans im_X10_leans se_X10_leans ml10_100 np_X10_leans rfl rfl h_a rfl (Nat.le_of_ble_eq_true rfl) (Nat.le_of_ble_eq_true rfl) rfl (k_X10_leans (d) (T := T) (σ := σ) (a := a) (p1 := rx1) (p2 := v61) (p3 := c4) h_a h_rx1 (by omega) (by omega) hw ) (fun r74 T76 σ75 gt77 hp => ?_)
          obtain ⟨v79, rfl, rfl, rfl, f78⟩ := hp
          clear gt77
          show Tn _ _ 82 T σ [(6, .int (iI v61)), (0, .ref a), (1, .ref rx1), (2, .int (iI c2)), (3, .int (iI c3)), (4, .int (iI c4)), (5, .int (iI i5))] [.int (iI v79), .int (iI i5), .ref x62] _
          refine tn_if_eq (tgt := 89) dX10_goThrough_82 (by decide) ⟨by omega, by omega⟩ (fun h80 => ?_) (fun h80 => ?_)
          · refine tn_iload dX10_goThrough_89 0 rfl ?_
            refine tn_callSN (M := m_X10_goThrough) (pc := 91) (ix := 26) (M' := m_X11_put) (As := [.ref x62, .int (iI i5), .int (iI v61)]) (rest := []) dX10_goThrough_91 ok_X11_put stt_X11_put nl10_26 np_X11_put rfl (Nat.le_of_ble_eq_true rfl) (Nat.le_of_ble_eq_true rfl) rfl (k_X11_put (d + 2) (T := T) (σ := σ) (x := x62) (i := i5) (y := v61) hk64i (by omega) (by omega) (by omega) hw (nh_k hk64 (by unfold HT; omega)) (vok_1 (by have q9 := hk64; omega) (by omega))) (fun r81 T83 σ82 gt84 hp => ?_)
            obtain ⟨rfl, rfl, w86, F87⟩ := hp
            clear gt84
            show Tn _ _ 94 T σ82 [(6, .int (iI v61)), (0, .ref a), (1, .ref rx1), (2, .int (iI c2)), (3, .int (iI c3)), (4, .int (iI c4)), (5, .int (iI i5))] [] _
            refine tn_iinc (q0 := 6) (L' := [(5, .int (iI (i5 + 1))), (6, .int (iI v61)), (0, .ref a), (1, .ref rx1), (2, .int (iI c2)), (3, .int (iI c3)), (4, .int (iI c4))]) dX10_goThrough_94 rfl (by decide) rfl ?_
            refine tn_goto (tgt := 34) dX10_goThrough_97 (by decide) ?_
            exact tn_sub [2, 3, 4, 5, 6, 0] rfl (ih _ (by omega) (i5 + 1) σ82 w86 ((FrC.rfl.trans (FrC.sub hF (by decide))).trans (FrC.sub F87 (by decide))) (by omega) rfl)
          · refine tn_iconst dX10_goThrough_85 ?_
            refine tn_goto (tgt := 91) dX10_goThrough_86 (by decide) ?_
            refine tn_callSN (M := m_X10_goThrough) (pc := 91) (ix := 26) (M' := m_X11_put) (As := [.ref x62, .int (iI i5), .int (iI 3)]) (rest := []) dX10_goThrough_91 ok_X11_put stt_X11_put nl10_26 np_X11_put rfl (Nat.le_of_ble_eq_true rfl) (Nat.le_of_ble_eq_true rfl) rfl (k_X11_put (d + 2) (T := T) (σ := σ) (x := x62) (i := i5) (y := 3) hk64i (by omega) (by omega) (by decide) hw (nh_k hk64 (by unfold HT; omega)) (vok_1 (by have q9 := hk64; omega) (by omega))) (fun r88 T90 σ89 gt91 hp => ?_)
            obtain ⟨rfl, rfl, w93, F94⟩ := hp
            clear gt91
            show Tn _ _ 94 T σ89 [(6, .int (iI v61)), (0, .ref a), (1, .ref rx1), (2, .int (iI c2)), (3, .int (iI c3)), (4, .int (iI c4)), (5, .int (iI i5))] [] _
            refine tn_iinc (q0 := 6) (L' := [(5, .int (iI (i5 + 1))), (6, .int (iI v61)), (0, .ref a), (1, .ref rx1), (2, .int (iI c2)), (3, .int (iI c3)), (4, .int (iI c4))]) dX10_goThrough_94 rfl (by decide) rfl ?_
            refine tn_goto (tgt := 34) dX10_goThrough_97 (by decide) ?_
            exact tn_sub [2, 3, 4, 5, 6, 0] rfl (ih _ (by omega) (i5 + 1) σ89 w93 ((FrC.rfl.trans (FrC.sub hF (by decide))).trans (FrC.sub F94 (by decide))) (by omega) rfl)
theorem fl10_104 : Cond.fieldLink RX10 104 (TX1 9).1 (TX1 9).2.1 (TX1 9).2.2.1 ∈ pWW := pw1 (List.mem_of_getElem? (i := 121) rfl) rfl
theorem dX10_goThrough_100 : decode cX10_goThrough 100 = .ok (.iload_n 3, 1) := by decide +kernel
theorem dX10_goThrough_101 : decode cX10_goThrough 101 = .ok (.bipush 12, 2) := by decide +kernel
theorem dX10_goThrough_103 : decode cX10_goThrough 103 = .ok (.if_icmp .ne 34, 3) := by decide +kernel
theorem dX10_goThrough_137 : decode cX10_goThrough 137 = .ok (.aload_n 1, 1) := by decide +kernel
theorem dX10_goThrough_138 : decode cX10_goThrough 138 = .ok (.iload_n 2, 1) := by decide +kernel
theorem dX10_goThrough_139 : decode cX10_goThrough 139 = .ok (.iconst 1, 1) := by decide +kernel
theorem dX10_goThrough_140 : decode cX10_goThrough 140 = .ok (.invokevirtual 44, 3) := by decide +kernel
theorem dX10_goThrough_143 : decode cX10_goThrough 143 = .ok (.istore 5, 2) := by decide +kernel
theorem dX10_goThrough_145 : decode cX10_goThrough 145 = .ok (.iconst 0, 1) := by decide +kernel
theorem dX10_goThrough_146 : decode cX10_goThrough 146 = .ok (.istore 6, 2) := by decide +kernel
theorem dX10_goThrough_148 : decode cX10_goThrough 148 = .ok (.iload_n 3, 1) := by decide +kernel
theorem dX10_goThrough_149 : decode cX10_goThrough 149 = .ok (.bipush 15, 2) := by decide +kernel
theorem dX10_goThrough_151 : decode cX10_goThrough 151 = .ok (.if_icmp .ne 39, 3) := by decide +kernel
theorem dX10_goThrough_154 : decode cX10_goThrough 154 = .ok (.iload 6, 2) := by decide +kernel
theorem dX10_goThrough_156 : decode cX10_goThrough 156 = .ok (.aload_n 1, 1) := by decide +kernel
theorem dX10_goThrough_157 : decode cX10_goThrough 157 = .ok (.getfield 104, 3) := by decide +kernel
theorem dX10_goThrough_160 : decode cX10_goThrough 160 = .ok (.iload 5, 2) := by decide +kernel
theorem dX10_goThrough_162 : decode cX10_goThrough 162 = .ok (.invokestatic 40, 3) := by decide +kernel
theorem dX10_goThrough_165 : decode cX10_goThrough 165 = .ok (.if_icmp .ge 25, 3) := by decide +kernel
theorem dX10_goThrough_168 : decode cX10_goThrough 168 = .ok (.aload_n 0, 1) := by decide +kernel
theorem dX10_goThrough_169 : decode cX10_goThrough 169 = .ok (.getfield 23, 3) := by decide +kernel
theorem dX10_goThrough_172 : decode cX10_goThrough 172 = .ok (.aload_n 1, 1) := by decide +kernel
theorem dX10_goThrough_173 : decode cX10_goThrough 173 = .ok (.iload 5, 2) := by decide +kernel
theorem dX10_goThrough_175 : decode cX10_goThrough 175 = .ok (.iload 6, 2) := by decide +kernel
theorem dX10_goThrough_177 : decode cX10_goThrough 177 = .ok (.invokevirtual 36, 3) := by decide +kernel
theorem dX10_goThrough_180 : decode cX10_goThrough 180 = .ok (.iconst 1, 1) := by decide +kernel
theorem dX10_goThrough_181 : decode cX10_goThrough 181 = .ok (.invokestatic 26, 3) := by decide +kernel
theorem dX10_goThrough_184 : decode cX10_goThrough 184 = .ok (.iinc 6 1, 3) := by decide +kernel
theorem dX10_goThrough_187 : decode cX10_goThrough 187 = .ok (.goto (-39), 3) := by decide +kernel
set_option maxRecDepth 20000 in
theorem l_X10_goThrough_148 (d : Nat) {T : CT} {σ0 : MS} {a : Nat} {rx1 : Nat} {c2 : Int} {c3 : Int} {c5 : Int} {post : Option Value → CT → MS → Prop} (h_a : OB T a 10) (h_rx1 : OB T rx1 1) (t_rx1 : (T rx1).1 = 50) (r_c2 : -2147483648 ≤ c2 ∧ c2 ≤ 2147483647) (r_c3 : -2147483648 ≤ c3 ∧ c3 ≤ 2147483647) (r_c5 : -2147483648 ≤ c5 ∧ c5 ≤ 2147483647) (hw0 : WT T σ0) (hx_190 : ∀ (i6 : Int) (σ : MS) , (WT T σ) → (FrC T [] σ0 σ) → (0 ≤ i6 ∧ i6 ≤ 2147483647) → Tn (d + 4) m_X10_goThrough 190 T σ [(0, .ref a), (1, .ref rx1), (2, .int (iI c2)), (3, .int (iI c3)), (5, .int (iI c5)), (6, .int (iI i6))] [] post) : ∀ (n : Nat) (i6 : Int) (σ : MS) , (WT T σ) → (FrC T [] σ0 σ) → (0 ≤ i6 ∧ i6 ≤ 2147483647) → (2147483700 - i6).toNat = n → Tn (d + 4) m_X10_goThrough 148 T σ [(0, .ref a), (1, .ref rx1), (2, .int (iI c2)), (3, .int (iI c3)), (5, .int (iI c5)), (6, .int (iI i6))] [] post := by
  intro n
  induction n using Nat.strongRecOn with
  | _ n ih =>
    intro i6 σ hw hF r_i6 hm
    refine tn_iload_n dX10_goThrough_148 rfl 3 rfl ?_
    refine tn_bipush dX10_goThrough_149 (by decide) ?_
    refine tn_icmp_ne (tgt := 190) dX10_goThrough_151 (by decide) ⟨by omega, by omega⟩ ⟨by decide, by decide⟩ (fun h1 => ?_) (fun h1 => ?_)
    · exact tn_sub [0, 1, 2, 3, 4, 5] rfl (hx_190 (i6) σ hw (FrC.rfl.trans (FrC.sub hF (by decide))) (by omega))
    · refine tn_iload dX10_goThrough_154 5 rfl ?_
      refine tn_aload_n dX10_goThrough_156 rfl 1 rfl ?_
      obtain ⟨x2, hx3, hk4, hl5⟩ : ∃ x : Nat, σ0.2.1 14 rx1 = (x : Int) ∧ AR T x 11 12 12 := wf_14 hw0 h_rx1
      have hk4i : IA T x2 := by unfold IA; omega
      refine tn_getR (ci := 1) (i := 9) (n := 14) (x := x2) dX10_goThrough_157 rfl lay_1 (by decide) fl10_104 h_rx1 rfl rfl (rc_F hF (Or.inl (by decide)) (by decide) (hx3)) ?_
      refine tn_iload dX10_goThrough_160 4 rfl ?_
      refine tn_callSN (M := m_X10_goThrough) (pc := 162) (ix := 40) (M' := m_X11_at) (As := [.ref x2, .int (iI c5)]) (rest := [.int (iI i6)]) dX10_goThrough_162 ok_X11_at stt_X11_at nl10_40 np_X11_at rfl (Nat.le_of_ble_eq_true rfl) (Nat.le_of_ble_eq_true rfl) rfl (k_X11_at (d + 2) (T := T) (σ := σ) (x := x2) (i := c5) hk4i (by omega) (by omega) hw ) (fun r6 T8 σ7 gt9 hp => ?_)
      obtain ⟨v13, rfl, rfl, rfl, f10, f11, f12⟩ := hp
      clear gt9
      have f11n := f11.2.1 hk4
      clear f11 f12
      show Tn _ _ 165 T σ [(0, .ref a), (1, .ref rx1), (2, .int (iI c2)), (3, .int (iI c3)), (5, .int (iI c5)), (6, .int (iI i6))] [.int (iI v13), .int (iI i6)] _
      refine tn_icmp_ge (tgt := 190) dX10_goThrough_165 (by decide) ⟨by omega, by omega⟩ ⟨by omega, by omega⟩ (fun h14 => ?_) (fun h14 => ?_)
      · exact tn_sub [0, 1, 2, 3, 4, 5] rfl (hx_190 (i6) σ hw (FrC.rfl.trans (FrC.sub hF (by decide))) (by omega))
      · refine tn_aload_n dX10_goThrough_168 rfl 0 rfl ?_
        obtain ⟨x15, hx16, hk17, hl18⟩ : ∃ x : Nat, σ0.2.1 91 a = (x : Int) ∧ AR T x 1 145 145 := wf_91 hw0 h_a
        have hk17i : IA T x15 := by unfold IA; omega
        refine tn_getR (ci := 10) (i := 3) (n := 91) (x := x15) dX10_goThrough_169 rfl lay_10 (by decide) fl10_23 h_a rfl rfl (rc_F hF (Or.inl (by decide)) (by decide) (hx16)) ?_
        refine tn_aload_n dX10_goThrough_172 rfl 1 rfl ?_
        refine tn_iload dX10_goThrough_173 4 rfl ?_
        refine tn_iload dX10_goThrough_175 5 rfl ?_
        refine tn_callV (M := m_X10_goThrough) (pc := 177) (ix := 36) (ci := 1) (M' := m_X1_slotOf) (As := [.int (iI c5), .int (iI i6)]) (rest := [.ref x15]) dX10_goThrough_177 ok_X1_slotOf im_X1_slotOf se_X1_slotOf ml10_36 np_X1_slotOf rfl rfl h_rx1 rfl (Nat.le_of_ble_eq_true rfl) (Nat.le_of_ble_eq_true rfl) rfl (k_X1_slotOf (d + 2) (T := T) (σ := σ) (a := rx1) (f := c5) (m := i6) h_rx1 (by omega) (by omega) hw (by omega)) (fun r19 T21 σ20 gt22 hp => ?_)
        obtain ⟨v25, rfl, rfl, rfl, f23, f24⟩ := hp
        clear gt22
        show Tn _ _ 180 T σ [(0, .ref a), (1, .ref rx1), (2, .int (iI c2)), (3, .int (iI c3)), (5, .int (iI c5)), (6, .int (iI i6))] [.int (iI v25), .ref x15] _
        refine tn_iconst dX10_goThrough_180 ?_
        refine tn_callSN (M := m_X10_goThrough) (pc := 181) (ix := 26) (M' := m_X11_put) (As := [.ref x15, .int (iI v25), .int (iI 1)]) (rest := []) dX10_goThrough_181 ok_X11_put stt_X11_put nl10_26 np_X11_put rfl (Nat.le_of_ble_eq_true rfl) (Nat.le_of_ble_eq_true rfl) rfl (k_X11_put (d + 2) (T := T) (σ := σ) (x := x15) (i := v25) (y := 1) hk17i (by omega) (by omega) (by decide) hw (nh_k hk17 (by unfold HT; omega)) (vok_1 (by have q9 := hk17; omega) (by omega))) (fun r26 T28 σ27 gt29 hp => ?_)
        obtain ⟨rfl, rfl, w31, F32⟩ := hp
        clear gt29
        show Tn _ _ 184 T σ27 [(0, .ref a), (1, .ref rx1), (2, .int (iI c2)), (3, .int (iI c3)), (5, .int (iI c5)), (6, .int (iI i6))] [] _
        refine tn_iinc (q0 := 5) (L' := [(6, .int (iI (i6 + 1))), (0, .ref a), (1, .ref rx1), (2, .int (iI c2)), (3, .int (iI c3)), (5, .int (iI c5))]) dX10_goThrough_184 rfl (by decide) rfl ?_
        refine tn_goto (tgt := 148) dX10_goThrough_187 (by decide) ?_
        exact tn_sub [1, 2, 3, 4, 5, 0] rfl (ih _ (by omega) (i6 + 1) σ27 w31 ((FrC.rfl.trans (FrC.sub hF (by decide))).trans (FrC.sub F32 (by decide))) (by omega) rfl)
theorem ml10_107 : Cond.methodLink RX10 107 yX1_fallsOn ∈ pWW := pw4 (List.mem_of_getElem? (i := 148) rfl) rfl
theorem ml10_114 : Cond.methodLink RX10 114 yX1_targetOf ∈ pWW := pw4 (List.mem_of_getElem? (i := 156) rfl) rfl
theorem ml10_111 : Cond.methodLink RX10 111 yX10_comeTo ∈ pWW := pw4 (List.mem_of_getElem? (i := 152) rfl) rfl
theorem dX10_goThrough_190 : decode cX10_goThrough 190 = .ok (.aload_n 1, 1) := by decide +kernel
theorem dX10_goThrough_191 : decode cX10_goThrough 191 = .ok (.iload_n 2, 1) := by decide +kernel
theorem dX10_goThrough_192 : decode cX10_goThrough 192 = .ok (.invokevirtual 107, 3) := by decide +kernel
theorem dX10_goThrough_195 : decode cX10_goThrough 195 = .ok (.ifCond .eq 11, 3) := by decide +kernel
theorem dX10_goThrough_206 : decode cX10_goThrough 206 = .ok (.aload_n 0, 1) := by decide +kernel
theorem dX10_goThrough_207 : decode cX10_goThrough 207 = .ok (.aload_n 1, 1) := by decide +kernel
theorem dX10_goThrough_208 : decode cX10_goThrough 208 = .ok (.aload_n 1, 1) := by decide +kernel
theorem dX10_goThrough_209 : decode cX10_goThrough 209 = .ok (.iload_n 2, 1) := by decide +kernel
theorem dX10_goThrough_210 : decode cX10_goThrough 210 = .ok (.invokevirtual 114, 3) := by decide +kernel
theorem dX10_goThrough_213 : decode cX10_goThrough 213 = .ok (.invokevirtual 111, 3) := by decide +kernel
theorem dX10_goThrough_216 : decode cX10_goThrough 216 = .ok (.return_, 1) := by decide +kernel
theorem dX10_goThrough_198 : decode cX10_goThrough 198 = .ok (.aload_n 0, 1) := by decide +kernel
theorem dX10_goThrough_199 : decode cX10_goThrough 199 = .ok (.aload_n 1, 1) := by decide +kernel
theorem dX10_goThrough_200 : decode cX10_goThrough 200 = .ok (.iload_n 2, 1) := by decide +kernel
theorem dX10_goThrough_201 : decode cX10_goThrough 201 = .ok (.iconst 1, 1) := by decide +kernel
theorem dX10_goThrough_202 : decode cX10_goThrough 202 = .ok (.iadd, 1) := by decide +kernel
theorem dX10_goThrough_203 : decode cX10_goThrough 203 = .ok (.invokevirtual 111, 3) := by decide +kernel
theorem dX10_goThrough_106 : decode cX10_goThrough 106 = .ok (.aload_n 0, 1) := by decide +kernel
theorem dX10_goThrough_107 : decode cX10_goThrough 107 = .ok (.getfield 23, 3) := by decide +kernel
theorem dX10_goThrough_110 : decode cX10_goThrough 110 = .ok (.aload_n 1, 1) := by decide +kernel
theorem dX10_goThrough_111 : decode cX10_goThrough 111 = .ok (.aload_n 1, 1) := by decide +kernel
theorem dX10_goThrough_112 : decode cX10_goThrough 112 = .ok (.iload_n 2, 1) := by decide +kernel
theorem dX10_goThrough_113 : decode cX10_goThrough 113 = .ok (.iconst 2, 1) := by decide +kernel
theorem dX10_goThrough_114 : decode cX10_goThrough 114 = .ok (.invokevirtual 44, 3) := by decide +kernel
theorem dX10_goThrough_117 : decode cX10_goThrough 117 = .ok (.aload_n 1, 1) := by decide +kernel
theorem dX10_goThrough_118 : decode cX10_goThrough 118 = .ok (.iload_n 2, 1) := by decide +kernel
theorem dX10_goThrough_119 : decode cX10_goThrough 119 = .ok (.iconst 1, 1) := by decide +kernel
theorem dX10_goThrough_120 : decode cX10_goThrough 120 = .ok (.invokevirtual 44, 3) := by decide +kernel
theorem dX10_goThrough_123 : decode cX10_goThrough 123 = .ok (.invokevirtual 36, 3) := by decide +kernel
theorem dX10_goThrough_126 : decode cX10_goThrough 126 = .ok (.aload_n 0, 1) := by decide +kernel
theorem dX10_goThrough_127 : decode cX10_goThrough 127 = .ok (.getfield 20, 3) := by decide +kernel
theorem dX10_goThrough_130 : decode cX10_goThrough 130 = .ok (.iload_n 2, 1) := by decide +kernel
theorem dX10_goThrough_131 : decode cX10_goThrough 131 = .ok (.invokestatic 40, 3) := by decide +kernel
theorem dX10_goThrough_134 : decode cX10_goThrough 134 = .ok (.invokestatic 26, 3) := by decide +kernel
set_option maxRecDepth 20000 in
theorem k_X10_goThrough (d : Nat) {T : CT} {σ : MS} {a : Nat} {p1 : Nat} {p2 : Int} (ha : OB T a 10) (h_p1 : OB T p1 1) (t_p1 : (T p1).1 = 50) (h_p2 : -2147483648 ≤ p2 ∧ p2 ≤ 2147483647) (hw : WT T σ) : Tn (d + 4) m_X10_goThrough 0 T σ [(0, .ref a), (1, .ref p1), (2, .int (iI p2))] [] (fun ro T2 σ2 => ro = none ∧ T = T2 ∧ WT T2 σ2 ∧ FrC T [94] σ σ2) := by
  refine tn_aload_n dX10_goThrough_0 rfl 0 rfl ?_
  rcases wf_92 hw ha with hx1 | ⟨x2, hx1, hk3, hl4⟩
  · refine tn_getN (ci := 10) (i := 4) (n := 92) dX10_goThrough_1 rfl lay_10 (by decide) fl10_61 ha rfl rfl (Int.lt_of_le_of_lt (Int.le_of_eq (Eq.refl _)) hx1) ?_
    refine tn_iload_n dX10_goThrough_4 rfl 2 rfl ?_
    refine tn_aload_n dX10_goThrough_5 rfl 0 rfl ?_
    refine tn_getI (ci := 10) (i := 5) (n := 93) (t := σ.2.1 93 a) dX10_goThrough_6 rfl lay_10 (by decide) fl10_50 ha rfl rfl (rfl) ?_
    have g5 : ((0 : Int) ≤ σ.2.1 93 a ∧ σ.2.1 93 a ≤ 145) := wf_93 hw ha
    refine tn_imul dX10_goThrough_9 ?_
    refine tn_any (fun z6 g7 => ?_)
    have g7r : -2147483648 ≤ z6 ∧ z6 ≤ 2147483647 := g7
    refine tn_callSN (M := m_X10_goThrough) (pc := 10) (ix := 40) (M' := m_X11_at) (As := [.null, .int (iI z6)]) (rest := []) dX10_goThrough_10 ok_X11_at stt_X11_at nl10_40 np_X11_at rfl (Nat.le_of_ble_eq_true rfl) (Nat.le_of_ble_eq_true rfl) rfl (k_X11_at_0 (d + 2) (T := T) (σ := σ) (i := z6) (by omega) hw ) (fun r8 T10 σ9 gt11 hp => ?_)
    obtain ⟨v13, rfl, rfl, rfl, f12⟩ := hp
    clear gt11
    show Tn _ _ 13 T σ [(0, .ref a), (1, .ref p1), (2, .int (iI p2))] [.int (iI v13)] _
    refine tn_if_ne (tgt := 17) dX10_goThrough_13 (by decide) ⟨by omega, by omega⟩ (fun h14 => absurd h14 (by omega)) (fun h14 => ?_)
    exact tn_vret rfl dX10_goThrough_16 ⟨rfl, rfl, hw, FrC.rfl⟩
  · have hk3i : IA T x2 := by unfold IA; omega
    refine tn_getR (ci := 10) (i := 4) (n := 92) (x := x2) dX10_goThrough_1 rfl lay_10 (by decide) fl10_61 ha rfl rfl (hx1) ?_
    refine tn_iload_n dX10_goThrough_4 rfl 2 rfl ?_
    refine tn_aload_n dX10_goThrough_5 rfl 0 rfl ?_
    refine tn_getI (ci := 10) (i := 5) (n := 93) (t := σ.2.1 93 a) dX10_goThrough_6 rfl lay_10 (by decide) fl10_50 ha rfl rfl (rfl) ?_
    have g15 : ((0 : Int) ≤ σ.2.1 93 a ∧ σ.2.1 93 a ≤ 145) := wf_93 hw ha
    refine tn_imul dX10_goThrough_9 ?_
    refine tn_any (fun z16 g17 => ?_)
    have g17r : -2147483648 ≤ z16 ∧ z16 ≤ 2147483647 := g17
    refine tn_callSN (M := m_X10_goThrough) (pc := 10) (ix := 40) (M' := m_X11_at) (As := [.ref x2, .int (iI z16)]) (rest := []) dX10_goThrough_10 ok_X11_at stt_X11_at nl10_40 np_X11_at rfl (Nat.le_of_ble_eq_true rfl) (Nat.le_of_ble_eq_true rfl) rfl (k_X11_at (d + 2) (T := T) (σ := σ) (x := x2) (i := z16) hk3i (by omega) (by omega) hw ) (fun r18 T20 σ19 gt21 hp => ?_)
    obtain ⟨v25, rfl, rfl, rfl, f22, f23, f24⟩ := hp
    clear gt21
    clear f23 f24
    show Tn _ _ 13 T σ [(0, .ref a), (1, .ref p1), (2, .int (iI p2))] [.int (iI v25)] _
    refine tn_if_ne (tgt := 17) dX10_goThrough_13 (by decide) ⟨by omega, by omega⟩ (fun h26 => ?_) (fun h26 => ?_)
    · refine tn_aload_n dX10_goThrough_17 rfl 1 rfl ?_
      refine tn_iload_n dX10_goThrough_18 rfl 2 rfl ?_
      refine tn_iconst dX10_goThrough_19 ?_
      refine tn_callV (M := m_X10_goThrough) (pc := 20) (ix := 44) (ci := 1) (M' := m_X1_get) (As := [.int (iI p2), .int (iI 0)]) (rest := []) dX10_goThrough_20 ok_X1_get im_X1_get se_X1_get ml10_44 np_X1_get rfl rfl h_p1 rfl (Nat.le_of_ble_eq_true rfl) (Nat.le_of_ble_eq_true rfl) rfl (k_X1_get (d + 2) (T := T) (σ := σ) (a := p1) (k := p2) (c := 0) h_p1 (by omega) (by decide) hw (by omega)) (fun r27 T29 σ28 gt30 hp => ?_)
      obtain ⟨v32, rfl, rfl, rfl, f31⟩ := hp
      clear gt30
      show Tn _ _ 23 T σ [(0, .ref a), (1, .ref p1), (2, .int (iI p2))] [.int (iI v32)] _
      refine tn_istore_n (L' := [(3, .int (iI v32)), (0, .ref a), (1, .ref p1), (2, .int (iI p2))]) dX10_goThrough_23 rfl (by decide) rfl ?_
      refine tn_aload_n dX10_goThrough_24 rfl 2 rfl ?_
      refine tn_iload_n dX10_goThrough_25 rfl 3 rfl ?_
      refine tn_callV (M := m_X10_goThrough) (pc := 26) (ix := 96) (ci := 1) (M' := m_X1_writtenBy) (As := [.int (iI p2)]) (rest := []) dX10_goThrough_26 ok_X1_writtenBy im_X1_writtenBy se_X1_writtenBy ml10_96 np_X1_writtenBy rfl rfl h_p1 rfl (Nat.le_of_ble_eq_true rfl) (Nat.le_of_ble_eq_true rfl) rfl (k_X1_writtenBy (d + 1) (T := T) (σ := σ) (a := p1) (k := p2) h_p1 (by omega) hw ) (fun r33 T35 σ34 gt36 hp => ?_)
      obtain ⟨v38, rfl, rfl, rfl, f37⟩ := hp
      clear gt36
      show Tn _ _ 29 T σ [(3, .int (iI v32)), (0, .ref a), (1, .ref p1), (2, .int (iI p2))] [.int (iI v38)] _
      refine tn_istore (L' := [(4, .int (iI v38)), (3, .int (iI v32)), (0, .ref a), (1, .ref p1), (2, .int (iI p2))]) dX10_goThrough_29 (by decide) rfl ?_
      refine tn_iconst dX10_goThrough_31 ?_
      refine tn_istore (L' := [(5, .int (iI 0)), (4, .int (iI v38)), (3, .int (iI v32)), (0, .ref a), (1, .ref p1), (2, .int (iI p2))]) dX10_goThrough_32 (by decide) rfl ?_
      refine tn_sub [3, 4, 5, 2, 1, 0] rfl (l_X10_goThrough_34 (d) (T := T) (σ0 := σ) (a := a) (rx1 := p1) (c2 := p2) (c3 := v32) (c4 := v38) ha h_p1 t_p1 (by omega) (by omega) (by omega) hw (fun i539 σ40 w43 F44 r45 => ?_) _ (0) σ hw FrC.rfl (by omega) rfl)
      show Tn _ _ 100 T σ40 [(0, .ref a), (1, .ref p1), (2, .int (iI p2)), (3, .int (iI v32)), (4, .int (iI v38)), (5, .int (iI i539))] [] _
      refine tn_iload_n dX10_goThrough_100 rfl 3 rfl ?_
      refine tn_bipush dX10_goThrough_101 (by decide) ?_
      refine tn_icmp_ne (tgt := 137) dX10_goThrough_103 (by decide) ⟨by omega, by omega⟩ ⟨by decide, by decide⟩ (fun h46 => ?_) (fun h46 => ?_)
      · refine tn_aload_n dX10_goThrough_137 rfl 1 rfl ?_
        refine tn_iload_n dX10_goThrough_138 rfl 2 rfl ?_
        refine tn_iconst dX10_goThrough_139 ?_
        refine tn_callV (M := m_X10_goThrough) (pc := 140) (ix := 44) (ci := 1) (M' := m_X1_get) (As := [.int (iI p2), .int (iI 1)]) (rest := []) dX10_goThrough_140 ok_X1_get im_X1_get se_X1_get ml10_44 np_X1_get rfl rfl h_p1 rfl (Nat.le_of_ble_eq_true rfl) (Nat.le_of_ble_eq_true rfl) rfl (k_X1_get (d + 2) (T := T) (σ := σ40) (a := p1) (k := p2) (c := 1) h_p1 (by omega) (by decide) w43 (by omega)) (fun r47 T49 σ48 gt50 hp => ?_)
        obtain ⟨v52, rfl, rfl, rfl, f51⟩ := hp
        clear gt50
        show Tn _ _ 143 T σ40 [(0, .ref a), (1, .ref p1), (2, .int (iI p2)), (3, .int (iI v32)), (4, .int (iI v38)), (5, .int (iI i539))] [.int (iI v52)] _
        refine tn_istore (L' := [(5, .int (iI v52)), (0, .ref a), (1, .ref p1), (2, .int (iI p2)), (3, .int (iI v32)), (4, .int (iI v38))]) dX10_goThrough_143 (by decide) rfl ?_
        refine tn_iconst dX10_goThrough_145 ?_
        refine tn_istore (L' := [(6, .int (iI 0)), (5, .int (iI v52)), (0, .ref a), (1, .ref p1), (2, .int (iI p2)), (3, .int (iI v32)), (4, .int (iI v38))]) dX10_goThrough_146 (by decide) rfl ?_
        refine tn_sub [2, 3, 4, 5, 1, 0] rfl (l_X10_goThrough_148 (d) (T := T) (σ0 := σ40) (a := a) (rx1 := p1) (c2 := p2) (c3 := v32) (c5 := v52) ha h_p1 t_p1 (by omega) (by omega) (by omega) w43 (fun i653 σ54 w57 F58 r59 => ?_) _ (0) σ40 w43 FrC.rfl (by omega) rfl)
        show Tn _ _ 190 T σ54 [(0, .ref a), (1, .ref p1), (2, .int (iI p2)), (3, .int (iI v32)), (5, .int (iI v52)), (6, .int (iI i653))] [] _
        refine tn_aload_n dX10_goThrough_190 rfl 1 rfl ?_
        refine tn_iload_n dX10_goThrough_191 rfl 2 rfl ?_
        refine tn_callV (M := m_X10_goThrough) (pc := 192) (ix := 107) (ci := 1) (M' := m_X1_fallsOn) (As := [.int (iI p2)]) (rest := []) dX10_goThrough_192 ok_X1_fallsOn im_X1_fallsOn se_X1_fallsOn ml10_107 np_X1_fallsOn rfl rfl h_p1 rfl (Nat.le_of_ble_eq_true rfl) (Nat.le_of_ble_eq_true rfl) rfl (k_X1_fallsOn (d + 1) (T := T) (σ := σ54) (a := p1) (k := p2) h_p1 (by omega) w57 ) (fun r60 T62 σ61 gt63 hp => ?_)
        obtain ⟨v65, rfl, rfl, rfl, f64⟩ := hp
        clear gt63
        show Tn _ _ 195 T σ54 [(0, .ref a), (1, .ref p1), (2, .int (iI p2)), (3, .int (iI v32)), (5, .int (iI v52)), (6, .int (iI i653))] [.int (iI v65)] _
        refine tn_if_eq (tgt := 206) dX10_goThrough_195 (by decide) ⟨by omega, by omega⟩ (fun h66 => ?_) (fun h66 => ?_)
        · refine tn_aload_n dX10_goThrough_206 rfl 0 rfl ?_
          refine tn_aload_n dX10_goThrough_207 rfl 1 rfl ?_
          refine tn_aload_n dX10_goThrough_208 rfl 1 rfl ?_
          refine tn_iload_n dX10_goThrough_209 rfl 2 rfl ?_
          refine tn_callV (M := m_X10_goThrough) (pc := 210) (ix := 114) (ci := 1) (M' := m_X1_targetOf) (As := [.int (iI p2)]) (rest := [.ref p1, .ref a]) dX10_goThrough_210 ok_X1_targetOf im_X1_targetOf se_X1_targetOf ml10_114 np_X1_targetOf rfl rfl h_p1 rfl (Nat.le_of_ble_eq_true rfl) (Nat.le_of_ble_eq_true rfl) rfl (k_X1_targetOf (d + 1) (T := T) (σ := σ54) (a := p1) (k := p2) h_p1 (by omega) w57 ) (fun r67 T69 σ68 gt70 hp => ?_)
          obtain ⟨v72, rfl, rfl, rfl, f71⟩ := hp
          clear gt70
          show Tn _ _ 213 T σ54 [(0, .ref a), (1, .ref p1), (2, .int (iI p2)), (3, .int (iI v32)), (5, .int (iI v52)), (6, .int (iI i653))] [.int (iI v72), .ref p1, .ref a] _
          refine tn_callV (M := m_X10_goThrough) (pc := 213) (ix := 111) (ci := 10) (M' := m_X10_comeTo) (As := [.ref p1, .int (iI v72)]) (rest := []) dX10_goThrough_213 ok_X10_comeTo im_X10_comeTo se_X10_comeTo ml10_111 np_X10_comeTo rfl rfl ha rfl (Nat.le_of_ble_eq_true rfl) (Nat.le_of_ble_eq_true rfl) rfl (k_X10_comeTo (d + 1) (T := T) (σ := σ54) (a := a) (p1 := p1) (p2 := v72) ha h_p1 t_p1 (by omega) w57 ) (fun r73 T75 σ74 gt76 hp => ?_)
          obtain ⟨rfl, rfl, w78, F79⟩ := hp
          clear gt76
          show Tn _ _ 216 T σ74 [(0, .ref a), (1, .ref p1), (2, .int (iI p2)), (3, .int (iI v32)), (5, .int (iI v52)), (6, .int (iI i653))] [] _
          exact tn_vret rfl dX10_goThrough_216 ⟨rfl, rfl, w78, (((FrC.rfl.trans (FrC.sub F44 (by decide))).trans (FrC.sub F58 (by decide))).trans (FrC.sub F79 (by decide)))⟩
        · refine tn_aload_n dX10_goThrough_198 rfl 0 rfl ?_
          refine tn_aload_n dX10_goThrough_199 rfl 1 rfl ?_
          refine tn_iload_n dX10_goThrough_200 rfl 2 rfl ?_
          refine tn_iconst dX10_goThrough_201 ?_
          refine tn_iadd dX10_goThrough_202 ?_
          refine tn_any (fun z80 g81 => ?_)
          have g81r : -2147483648 ≤ z80 ∧ z80 ≤ 2147483647 := g81
          refine tn_callV (M := m_X10_goThrough) (pc := 203) (ix := 111) (ci := 10) (M' := m_X10_comeTo) (As := [.ref p1, .int (iI z80)]) (rest := []) dX10_goThrough_203 ok_X10_comeTo im_X10_comeTo se_X10_comeTo ml10_111 np_X10_comeTo rfl rfl ha rfl (Nat.le_of_ble_eq_true rfl) (Nat.le_of_ble_eq_true rfl) rfl (k_X10_comeTo (d + 1) (T := T) (σ := σ54) (a := a) (p1 := p1) (p2 := z80) ha h_p1 t_p1 (by omega) w57 ) (fun r82 T84 σ83 gt85 hp => ?_)
          obtain ⟨rfl, rfl, w87, F88⟩ := hp
          clear gt85
          show Tn _ _ 206 T σ83 [(0, .ref a), (1, .ref p1), (2, .int (iI p2)), (3, .int (iI v32)), (5, .int (iI v52)), (6, .int (iI i653))] [] _
          refine tn_aload_n dX10_goThrough_206 rfl 0 rfl ?_
          refine tn_aload_n dX10_goThrough_207 rfl 1 rfl ?_
          refine tn_aload_n dX10_goThrough_208 rfl 1 rfl ?_
          refine tn_iload_n dX10_goThrough_209 rfl 2 rfl ?_
          refine tn_callV (M := m_X10_goThrough) (pc := 210) (ix := 114) (ci := 1) (M' := m_X1_targetOf) (As := [.int (iI p2)]) (rest := [.ref p1, .ref a]) dX10_goThrough_210 ok_X1_targetOf im_X1_targetOf se_X1_targetOf ml10_114 np_X1_targetOf rfl rfl h_p1 rfl (Nat.le_of_ble_eq_true rfl) (Nat.le_of_ble_eq_true rfl) rfl (k_X1_targetOf (d + 1) (T := T) (σ := σ83) (a := p1) (k := p2) h_p1 (by omega) w87 ) (fun r89 T91 σ90 gt92 hp => ?_)
          obtain ⟨v94, rfl, rfl, rfl, f93⟩ := hp
          clear gt92
          show Tn _ _ 213 T σ83 [(0, .ref a), (1, .ref p1), (2, .int (iI p2)), (3, .int (iI v32)), (5, .int (iI v52)), (6, .int (iI i653))] [.int (iI v94), .ref p1, .ref a] _
          refine tn_callV (M := m_X10_goThrough) (pc := 213) (ix := 111) (ci := 10) (M' := m_X10_comeTo) (As := [.ref p1, .int (iI v94)]) (rest := []) dX10_goThrough_213 ok_X10_comeTo im_X10_comeTo se_X10_comeTo ml10_111 np_X10_comeTo rfl rfl ha rfl (Nat.le_of_ble_eq_true rfl) (Nat.le_of_ble_eq_true rfl) rfl (k_X10_comeTo (d + 1) (T := T) (σ := σ83) (a := a) (p1 := p1) (p2 := v94) ha h_p1 t_p1 (by omega) w87 ) (fun r95 T97 σ96 gt98 hp => ?_)
          obtain ⟨rfl, rfl, w100, F101⟩ := hp
          clear gt98
          show Tn _ _ 216 T σ96 [(0, .ref a), (1, .ref p1), (2, .int (iI p2)), (3, .int (iI v32)), (5, .int (iI v52)), (6, .int (iI i653))] [] _
          exact tn_vret rfl dX10_goThrough_216 ⟨rfl, rfl, w100, ((((FrC.rfl.trans (FrC.sub F44 (by decide))).trans (FrC.sub F58 (by decide))).trans (FrC.sub F88 (by decide))).trans (FrC.sub F101 (by decide)))⟩
      · refine tn_aload_n dX10_goThrough_106 rfl 0 rfl ?_
        obtain ⟨x102, hx103, hk104, hl105⟩ : ∃ x : Nat, σ.2.1 91 a = (x : Int) ∧ AR T x 1 145 145 := wf_91 hw ha
        have hk104i : IA T x102 := by unfold IA; omega
        refine tn_getR (ci := 10) (i := 3) (n := 91) (x := x102) dX10_goThrough_107 rfl lay_10 (by decide) fl10_23 ha rfl rfl (rc_F F44 (Or.inl (by decide)) (by decide) (hx103)) ?_
        refine tn_aload_n dX10_goThrough_110 rfl 1 rfl ?_
        refine tn_aload_n dX10_goThrough_111 rfl 1 rfl ?_
        refine tn_iload_n dX10_goThrough_112 rfl 2 rfl ?_
        refine tn_iconst dX10_goThrough_113 ?_
        refine tn_callV (M := m_X10_goThrough) (pc := 114) (ix := 44) (ci := 1) (M' := m_X1_get) (As := [.int (iI p2), .int (iI 2)]) (rest := [.ref p1, .ref x102]) dX10_goThrough_114 ok_X1_get im_X1_get se_X1_get ml10_44 np_X1_get rfl rfl h_p1 rfl (Nat.le_of_ble_eq_true rfl) (Nat.le_of_ble_eq_true rfl) rfl (k_X1_get (d + 2) (T := T) (σ := σ40) (a := p1) (k := p2) (c := 2) h_p1 (by omega) (by decide) w43 (by omega)) (fun r106 T108 σ107 gt109 hp => ?_)
        obtain ⟨v111, rfl, rfl, rfl, f110⟩ := hp
        clear gt109
        show Tn _ _ 117 T σ40 [(0, .ref a), (1, .ref p1), (2, .int (iI p2)), (3, .int (iI v32)), (4, .int (iI v38)), (5, .int (iI i539))] [.int (iI v111), .ref p1, .ref x102] _
        refine tn_aload_n dX10_goThrough_117 rfl 1 rfl ?_
        refine tn_iload_n dX10_goThrough_118 rfl 2 rfl ?_
        refine tn_iconst dX10_goThrough_119 ?_
        refine tn_callV (M := m_X10_goThrough) (pc := 120) (ix := 44) (ci := 1) (M' := m_X1_get) (As := [.int (iI p2), .int (iI 1)]) (rest := [.int (iI v111), .ref p1, .ref x102]) dX10_goThrough_120 ok_X1_get im_X1_get se_X1_get ml10_44 np_X1_get rfl rfl h_p1 rfl (Nat.le_of_ble_eq_true rfl) (Nat.le_of_ble_eq_true rfl) rfl (k_X1_get (d + 2) (T := T) (σ := σ40) (a := p1) (k := p2) (c := 1) h_p1 (by omega) (by decide) w43 (by omega)) (fun r112 T114 σ113 gt115 hp => ?_)
        obtain ⟨v117, rfl, rfl, rfl, f116⟩ := hp
        clear gt115
        show Tn _ _ 123 T σ40 [(0, .ref a), (1, .ref p1), (2, .int (iI p2)), (3, .int (iI v32)), (4, .int (iI v38)), (5, .int (iI i539))] [.int (iI v117), .int (iI v111), .ref p1, .ref x102] _
        refine tn_callV (M := m_X10_goThrough) (pc := 123) (ix := 36) (ci := 1) (M' := m_X1_slotOf) (As := [.int (iI v111), .int (iI v117)]) (rest := [.ref x102]) dX10_goThrough_123 ok_X1_slotOf im_X1_slotOf se_X1_slotOf ml10_36 np_X1_slotOf rfl rfl h_p1 rfl (Nat.le_of_ble_eq_true rfl) (Nat.le_of_ble_eq_true rfl) rfl (k_X1_slotOf_any (d + 2) (T := T) (σ := σ40) (a := p1) (f := v111) (m := v117) h_p1 (by omega) (by omega) w43 ) (fun r118 T120 σ119 gt121 hp => ?_)
        obtain ⟨v123, rfl, rfl, rfl, f122⟩ := hp
        clear gt121
        show Tn _ _ 126 T σ40 [(0, .ref a), (1, .ref p1), (2, .int (iI p2)), (3, .int (iI v32)), (4, .int (iI v38)), (5, .int (iI i539))] [.int (iI v123), .ref x102] _
        refine tn_aload_n dX10_goThrough_126 rfl 0 rfl ?_
        obtain ⟨x124, hx125, hk126, hl127⟩ : ∃ x : Nat, σ.2.1 90 a = (x : Int) ∧ AR T x 1 200 200 := wf_90 hw ha
        have hk126i : IA T x124 := by unfold IA; omega
        refine tn_getR (ci := 10) (i := 2) (n := 90) (x := x124) dX10_goThrough_127 rfl lay_10 (by decide) fl10_20 ha rfl rfl (rc_F F44 (Or.inl (by decide)) (by decide) (hx125)) ?_
        refine tn_iload_n dX10_goThrough_130 rfl 2 rfl ?_
        refine tn_callSN (M := m_X10_goThrough) (pc := 131) (ix := 40) (M' := m_X11_at) (As := [.ref x124, .int (iI p2)]) (rest := [.int (iI v123), .ref x102]) dX10_goThrough_131 ok_X11_at stt_X11_at nl10_40 np_X11_at rfl (Nat.le_of_ble_eq_true rfl) (Nat.le_of_ble_eq_true rfl) rfl (k_X11_at (d + 2) (T := T) (σ := σ40) (x := x124) (i := p2) hk126i (by omega) (by omega) w43 ) (fun r128 T130 σ129 gt131 hp => ?_)
        obtain ⟨v135, rfl, rfl, rfl, f132, f133, f134⟩ := hp
        clear gt131
        clear f133 f134
        show Tn _ _ 134 T σ40 [(0, .ref a), (1, .ref p1), (2, .int (iI p2)), (3, .int (iI v32)), (4, .int (iI v38)), (5, .int (iI i539))] [.int (iI v135), .int (iI v123), .ref x102] _
        refine tn_callSN (M := m_X10_goThrough) (pc := 134) (ix := 26) (M' := m_X11_put) (As := [.ref x102, .int (iI v123), .int (iI v135)]) (rest := []) dX10_goThrough_134 ok_X11_put stt_X11_put nl10_26 np_X11_put rfl (Nat.le_of_ble_eq_true rfl) (Nat.le_of_ble_eq_true rfl) rfl (k_X11_put (d + 2) (T := T) (σ := σ40) (x := x102) (i := v123) (y := v135) hk104i (by omega) (by omega) (by omega) w43 (nh_k hk104 (by unfold HT; omega)) (vok_1 (by have q9 := hk104; omega) (by omega))) (fun r136 T138 σ137 gt139 hp => ?_)
        obtain ⟨rfl, rfl, w141, F142⟩ := hp
        clear gt139
        show Tn _ _ 137 T σ137 [(0, .ref a), (1, .ref p1), (2, .int (iI p2)), (3, .int (iI v32)), (4, .int (iI v38)), (5, .int (iI i539))] [] _
        refine tn_aload_n dX10_goThrough_137 rfl 1 rfl ?_
        refine tn_iload_n dX10_goThrough_138 rfl 2 rfl ?_
        refine tn_iconst dX10_goThrough_139 ?_
        refine tn_callV (M := m_X10_goThrough) (pc := 140) (ix := 44) (ci := 1) (M' := m_X1_get) (As := [.int (iI p2), .int (iI 1)]) (rest := []) dX10_goThrough_140 ok_X1_get im_X1_get se_X1_get ml10_44 np_X1_get rfl rfl h_p1 rfl (Nat.le_of_ble_eq_true rfl) (Nat.le_of_ble_eq_true rfl) rfl (k_X1_get (d + 2) (T := T) (σ := σ137) (a := p1) (k := p2) (c := 1) h_p1 (by omega) (by decide) w141 (by omega)) (fun r143 T145 σ144 gt146 hp => ?_)
        obtain ⟨v148, rfl, rfl, rfl, f147⟩ := hp
        clear gt146
        show Tn _ _ 143 T σ137 [(0, .ref a), (1, .ref p1), (2, .int (iI p2)), (3, .int (iI v32)), (4, .int (iI v38)), (5, .int (iI i539))] [.int (iI v148)] _
        refine tn_istore (L' := [(5, .int (iI v148)), (0, .ref a), (1, .ref p1), (2, .int (iI p2)), (3, .int (iI v32)), (4, .int (iI v38))]) dX10_goThrough_143 (by decide) rfl ?_
        refine tn_iconst dX10_goThrough_145 ?_
        refine tn_istore (L' := [(6, .int (iI 0)), (5, .int (iI v148)), (0, .ref a), (1, .ref p1), (2, .int (iI p2)), (3, .int (iI v32)), (4, .int (iI v38))]) dX10_goThrough_146 (by decide) rfl ?_
        refine tn_sub [2, 3, 4, 5, 1, 0] rfl (l_X10_goThrough_148 (d) (T := T) (σ0 := σ137) (a := a) (rx1 := p1) (c2 := p2) (c3 := v32) (c5 := v148) ha h_p1 t_p1 (by omega) (by omega) (by omega) w141 (fun i6149 σ150 w153 F154 r155 => ?_) _ (0) σ137 w141 FrC.rfl (by omega) rfl)
        show Tn _ _ 190 T σ150 [(0, .ref a), (1, .ref p1), (2, .int (iI p2)), (3, .int (iI v32)), (5, .int (iI v148)), (6, .int (iI i6149))] [] _
        refine tn_aload_n dX10_goThrough_190 rfl 1 rfl ?_
        refine tn_iload_n dX10_goThrough_191 rfl 2 rfl ?_
        refine tn_callV (M := m_X10_goThrough) (pc := 192) (ix := 107) (ci := 1) (M' := m_X1_fallsOn) (As := [.int (iI p2)]) (rest := []) dX10_goThrough_192 ok_X1_fallsOn im_X1_fallsOn se_X1_fallsOn ml10_107 np_X1_fallsOn rfl rfl h_p1 rfl (Nat.le_of_ble_eq_true rfl) (Nat.le_of_ble_eq_true rfl) rfl (k_X1_fallsOn (d + 1) (T := T) (σ := σ150) (a := p1) (k := p2) h_p1 (by omega) w153 ) (fun r156 T158 σ157 gt159 hp => ?_)
        obtain ⟨v161, rfl, rfl, rfl, f160⟩ := hp
        clear gt159
        show Tn _ _ 195 T σ150 [(0, .ref a), (1, .ref p1), (2, .int (iI p2)), (3, .int (iI v32)), (5, .int (iI v148)), (6, .int (iI i6149))] [.int (iI v161)] _
        refine tn_if_eq (tgt := 206) dX10_goThrough_195 (by decide) ⟨by omega, by omega⟩ (fun h162 => ?_) (fun h162 => ?_)
        · refine tn_aload_n dX10_goThrough_206 rfl 0 rfl ?_
          refine tn_aload_n dX10_goThrough_207 rfl 1 rfl ?_
          refine tn_aload_n dX10_goThrough_208 rfl 1 rfl ?_
          refine tn_iload_n dX10_goThrough_209 rfl 2 rfl ?_
          refine tn_callV (M := m_X10_goThrough) (pc := 210) (ix := 114) (ci := 1) (M' := m_X1_targetOf) (As := [.int (iI p2)]) (rest := [.ref p1, .ref a]) dX10_goThrough_210 ok_X1_targetOf im_X1_targetOf se_X1_targetOf ml10_114 np_X1_targetOf rfl rfl h_p1 rfl (Nat.le_of_ble_eq_true rfl) (Nat.le_of_ble_eq_true rfl) rfl (k_X1_targetOf (d + 1) (T := T) (σ := σ150) (a := p1) (k := p2) h_p1 (by omega) w153 ) (fun r163 T165 σ164 gt166 hp => ?_)
          obtain ⟨v168, rfl, rfl, rfl, f167⟩ := hp
          clear gt166
          show Tn _ _ 213 T σ150 [(0, .ref a), (1, .ref p1), (2, .int (iI p2)), (3, .int (iI v32)), (5, .int (iI v148)), (6, .int (iI i6149))] [.int (iI v168), .ref p1, .ref a] _
          refine tn_callV (M := m_X10_goThrough) (pc := 213) (ix := 111) (ci := 10) (M' := m_X10_comeTo) (As := [.ref p1, .int (iI v168)]) (rest := []) dX10_goThrough_213 ok_X10_comeTo im_X10_comeTo se_X10_comeTo ml10_111 np_X10_comeTo rfl rfl ha rfl (Nat.le_of_ble_eq_true rfl) (Nat.le_of_ble_eq_true rfl) rfl (k_X10_comeTo (d + 1) (T := T) (σ := σ150) (a := a) (p1 := p1) (p2 := v168) ha h_p1 t_p1 (by omega) w153 ) (fun r169 T171 σ170 gt172 hp => ?_)
          obtain ⟨rfl, rfl, w174, F175⟩ := hp
          clear gt172
          show Tn _ _ 216 T σ170 [(0, .ref a), (1, .ref p1), (2, .int (iI p2)), (3, .int (iI v32)), (5, .int (iI v148)), (6, .int (iI i6149))] [] _
          exact tn_vret rfl dX10_goThrough_216 ⟨rfl, rfl, w174, ((((FrC.rfl.trans (FrC.sub F44 (by decide))).trans (FrC.sub F142 (by decide))).trans (FrC.sub F154 (by decide))).trans (FrC.sub F175 (by decide)))⟩
        · refine tn_aload_n dX10_goThrough_198 rfl 0 rfl ?_
          refine tn_aload_n dX10_goThrough_199 rfl 1 rfl ?_
          refine tn_iload_n dX10_goThrough_200 rfl 2 rfl ?_
          refine tn_iconst dX10_goThrough_201 ?_
          refine tn_iadd dX10_goThrough_202 ?_
          refine tn_any (fun z176 g177 => ?_)
          have g177r : -2147483648 ≤ z176 ∧ z176 ≤ 2147483647 := g177
          refine tn_callV (M := m_X10_goThrough) (pc := 203) (ix := 111) (ci := 10) (M' := m_X10_comeTo) (As := [.ref p1, .int (iI z176)]) (rest := []) dX10_goThrough_203 ok_X10_comeTo im_X10_comeTo se_X10_comeTo ml10_111 np_X10_comeTo rfl rfl ha rfl (Nat.le_of_ble_eq_true rfl) (Nat.le_of_ble_eq_true rfl) rfl (k_X10_comeTo (d + 1) (T := T) (σ := σ150) (a := a) (p1 := p1) (p2 := z176) ha h_p1 t_p1 (by omega) w153 ) (fun r178 T180 σ179 gt181 hp => ?_)
          obtain ⟨rfl, rfl, w183, F184⟩ := hp
          clear gt181
          show Tn _ _ 206 T σ179 [(0, .ref a), (1, .ref p1), (2, .int (iI p2)), (3, .int (iI v32)), (5, .int (iI v148)), (6, .int (iI i6149))] [] _
          refine tn_aload_n dX10_goThrough_206 rfl 0 rfl ?_
          refine tn_aload_n dX10_goThrough_207 rfl 1 rfl ?_
          refine tn_aload_n dX10_goThrough_208 rfl 1 rfl ?_
          refine tn_iload_n dX10_goThrough_209 rfl 2 rfl ?_
          refine tn_callV (M := m_X10_goThrough) (pc := 210) (ix := 114) (ci := 1) (M' := m_X1_targetOf) (As := [.int (iI p2)]) (rest := [.ref p1, .ref a]) dX10_goThrough_210 ok_X1_targetOf im_X1_targetOf se_X1_targetOf ml10_114 np_X1_targetOf rfl rfl h_p1 rfl (Nat.le_of_ble_eq_true rfl) (Nat.le_of_ble_eq_true rfl) rfl (k_X1_targetOf (d + 1) (T := T) (σ := σ179) (a := p1) (k := p2) h_p1 (by omega) w183 ) (fun r185 T187 σ186 gt188 hp => ?_)
          obtain ⟨v190, rfl, rfl, rfl, f189⟩ := hp
          clear gt188
          show Tn _ _ 213 T σ179 [(0, .ref a), (1, .ref p1), (2, .int (iI p2)), (3, .int (iI v32)), (5, .int (iI v148)), (6, .int (iI i6149))] [.int (iI v190), .ref p1, .ref a] _
          refine tn_callV (M := m_X10_goThrough) (pc := 213) (ix := 111) (ci := 10) (M' := m_X10_comeTo) (As := [.ref p1, .int (iI v190)]) (rest := []) dX10_goThrough_213 ok_X10_comeTo im_X10_comeTo se_X10_comeTo ml10_111 np_X10_comeTo rfl rfl ha rfl (Nat.le_of_ble_eq_true rfl) (Nat.le_of_ble_eq_true rfl) rfl (k_X10_comeTo (d + 1) (T := T) (σ := σ179) (a := a) (p1 := p1) (p2 := v190) ha h_p1 t_p1 (by omega) w183 ) (fun r191 T193 σ192 gt194 hp => ?_)
          obtain ⟨rfl, rfl, w196, F197⟩ := hp
          clear gt194
          show Tn _ _ 216 T σ192 [(0, .ref a), (1, .ref p1), (2, .int (iI p2)), (3, .int (iI v32)), (5, .int (iI v148)), (6, .int (iI i6149))] [] _
          exact tn_vret rfl dX10_goThrough_216 ⟨rfl, rfl, w196, (((((FrC.rfl.trans (FrC.sub F44 (by decide))).trans (FrC.sub F142 (by decide))).trans (FrC.sub F154 (by decide))).trans (FrC.sub F184 (by decide))).trans (FrC.sub F197 (by decide)))⟩
    · exact tn_vret rfl dX10_goThrough_16 ⟨rfl, rfl, hw, FrC.rfl⟩
end
