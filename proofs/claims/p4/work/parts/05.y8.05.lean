theorem cd_X9_next : Cond.code yX9_next cX9_next 1 none ∈ pWW := pw3 (List.mem_of_getElem? (i := 60) rfl) rfl
abbrev m_X9_next : MT := (yX9_next, cX9_next, 1, none)
theorem ok_X9_next : pOk m_X9_next := ⟨⟨cd_X9_next, ini_9⟩, by decide +kernel, ⟨by decide +kernel, by decide +kernel⟩, Nat.le_of_ble_eq_true rfl⟩
theorem np_X9_next : (parseMethodDescriptor yX9_next.desc).map (fun d => d.parameters.length) = some 0 := by decide +kernel
theorem im_X9_next : Cond.instanceMethod yX9_next ∈ pWW := pw3 (List.mem_of_getElem? (i := 58) rfl) rfl
theorem se_X9_next : Cond.selects RX9 yX9_next yX9_next ∈ pWW := pw3 (List.mem_of_getElem? (i := 59) rfl) rfl
theorem fl9_15 : Cond.fieldLink RX9 15 (TX9 1).1 (TX9 1).2.1 (TX9 1).2.2.1 ∈ pWW := pw1 (List.mem_of_getElem? (i := 45) rfl) rfl
theorem fl9_18 : Cond.fieldLink RX9 18 (TX9 2).1 (TX9 2).2.1 (TX9 2).2.2.1 ∈ pWW := pw1 (List.mem_of_getElem? (i := 46) rfl) rfl
theorem fl9_34 : Cond.fieldLink RX9 34 (TX9 6).1 (TX9 6).2.1 (TX9 6).2.2.1 ∈ pWW := pw1 (List.mem_of_getElem? (i := 52) rfl) rfl
theorem dX9_next_0 : decode cX9_next 0 = .ok (.aload_n 0, 1) := by decide +kernel
theorem dX9_next_1 : decode cX9_next 1 = .ok (.getfield 45, 3) := by decide +kernel
theorem dX9_next_4 : decode cX9_next 4 = .ok (.iconst 1, 1) := by decide +kernel
theorem dX9_next_5 : decode cX9_next 5 = .ok (.iadd, 1) := by decide +kernel
theorem dX9_next_6 : decode cX9_next 6 = .ok (.aload_n 0, 1) := by decide +kernel
theorem dX9_next_7 : decode cX9_next 7 = .ok (.getfield 9, 3) := by decide +kernel
theorem dX9_next_10 : decode cX9_next 10 = .ok (.arraylength, 1) := by decide +kernel
theorem dX9_next_11 : decode cX9_next 11 = .ok (.if_icmp .ge 107, 3) := by decide +kernel
theorem dX9_next_118 : decode cX9_next 118 = .ok (.return_, 1) := by decide +kernel
theorem dX9_next_14 : decode cX9_next 14 = .ok (.aload_n 0, 1) := by decide +kernel
theorem dX9_next_15 : decode cX9_next 15 = .ok (.getfield 45, 3) := by decide +kernel
theorem dX9_next_18 : decode cX9_next 18 = .ok (.iconst 1, 1) := by decide +kernel
theorem dX9_next_19 : decode cX9_next 19 = .ok (.iadd, 1) := by decide +kernel
theorem dX9_next_20 : decode cX9_next 20 = .ok (.aload_n 0, 1) := by decide +kernel
theorem dX9_next_21 : decode cX9_next 21 = .ok (.getfield 15, 3) := by decide +kernel
theorem dX9_next_24 : decode cX9_next 24 = .ok (.arraylength, 1) := by decide +kernel
theorem dX9_next_25 : decode cX9_next 25 = .ok (.if_icmp .ge 93, 3) := by decide +kernel
theorem dX9_next_28 : decode cX9_next 28 = .ok (.aload_n 0, 1) := by decide +kernel
theorem dX9_next_29 : decode cX9_next 29 = .ok (.getfield 45, 3) := by decide +kernel
theorem dX9_next_32 : decode cX9_next 32 = .ok (.iconst 1, 1) := by decide +kernel
theorem dX9_next_33 : decode cX9_next 33 = .ok (.iadd, 1) := by decide +kernel
theorem dX9_next_34 : decode cX9_next 34 = .ok (.aload_n 0, 1) := by decide +kernel
theorem dX9_next_35 : decode cX9_next 35 = .ok (.getfield 18, 3) := by decide +kernel
theorem dX9_next_38 : decode cX9_next 38 = .ok (.arraylength, 1) := by decide +kernel
theorem dX9_next_39 : decode cX9_next 39 = .ok (.if_icmp .ge 79, 3) := by decide +kernel
theorem dX9_next_42 : decode cX9_next 42 = .ok (.aload_n 0, 1) := by decide +kernel
theorem dX9_next_43 : decode cX9_next 43 = .ok (.getfield 45, 3) := by decide +kernel
theorem dX9_next_46 : decode cX9_next 46 = .ok (.ifCond .lt 23, 3) := by decide +kernel
theorem dX9_next_69 : decode cX9_next 69 = .ok (.aload_n 0, 1) := by decide +kernel
theorem dX9_next_70 : decode cX9_next 70 = .ok (.dup, 1) := by decide +kernel
theorem dX9_next_71 : decode cX9_next 71 = .ok (.getfield 45, 3) := by decide +kernel
theorem dX9_next_74 : decode cX9_next 74 = .ok (.iconst 1, 1) := by decide +kernel
theorem dX9_next_75 : decode cX9_next 75 = .ok (.iadd, 1) := by decide +kernel
theorem dX9_next_76 : decode cX9_next 76 = .ok (.putfield 45, 3) := by decide +kernel
theorem dX9_next_79 : decode cX9_next 79 = .ok (.aload_n 0, 1) := by decide +kernel
theorem dX9_next_80 : decode cX9_next 80 = .ok (.aload_n 0, 1) := by decide +kernel
theorem dX9_next_81 : decode cX9_next 81 = .ok (.getfield 9, 3) := by decide +kernel
theorem dX9_next_84 : decode cX9_next 84 = .ok (.aload_n 0, 1) := by decide +kernel
theorem dX9_next_85 : decode cX9_next 85 = .ok (.getfield 45, 3) := by decide +kernel
theorem dX9_next_88 : decode cX9_next 88 = .ok (.iaload, 1) := by decide +kernel
theorem dX9_next_89 : decode cX9_next 89 = .ok (.putfield 30, 3) := by decide +kernel
theorem dX9_next_92 : decode cX9_next 92 = .ok (.aload_n 0, 1) := by decide +kernel
theorem dX9_next_93 : decode cX9_next 93 = .ok (.aload_n 0, 1) := by decide +kernel
theorem dX9_next_94 : decode cX9_next 94 = .ok (.getfield 15, 3) := by decide +kernel
theorem dX9_next_97 : decode cX9_next 97 = .ok (.aload_n 0, 1) := by decide +kernel
theorem dX9_next_98 : decode cX9_next 98 = .ok (.getfield 45, 3) := by decide +kernel
theorem dX9_next_101 : decode cX9_next 101 = .ok (.iaload, 1) := by decide +kernel
theorem dX9_next_102 : decode cX9_next 102 = .ok (.putfield 55, 3) := by decide +kernel
theorem dX9_next_105 : decode cX9_next 105 = .ok (.aload_n 0, 1) := by decide +kernel
theorem dX9_next_106 : decode cX9_next 106 = .ok (.aload_n 0, 1) := by decide +kernel
theorem dX9_next_107 : decode cX9_next 107 = .ok (.getfield 18, 3) := by decide +kernel
theorem dX9_next_110 : decode cX9_next 110 = .ok (.aload_n 0, 1) := by decide +kernel
theorem dX9_next_111 : decode cX9_next 111 = .ok (.getfield 45, 3) := by decide +kernel
theorem dX9_next_114 : decode cX9_next 114 = .ok (.iaload, 1) := by decide +kernel
theorem dX9_next_115 : decode cX9_next 115 = .ok (.putfield 34, 3) := by decide +kernel
theorem dX9_next_49 : decode cX9_next 49 = .ok (.aload_n 0, 1) := by decide +kernel
theorem dX9_next_50 : decode cX9_next 50 = .ok (.getfield 30, 3) := by decide +kernel
theorem dX9_next_53 : decode cX9_next 53 = .ok (.sipush 264, 3) := by decide +kernel
theorem dX9_next_56 : decode cX9_next 56 = .ok (.if_icmp .eq 62, 3) := by decide +kernel
theorem dX9_next_59 : decode cX9_next 59 = .ok (.aload_n 0, 1) := by decide +kernel
theorem dX9_next_60 : decode cX9_next 60 = .ok (.getfield 30, 3) := by decide +kernel
theorem dX9_next_63 : decode cX9_next 63 = .ok (.sipush 263, 3) := by decide +kernel
theorem dX9_next_66 : decode cX9_next 66 = .ok (.if_icmp .eq 52, 3) := by decide +kernel
set_option maxRecDepth 20000 in
theorem k_X9_next (d : Nat) {T : CT} {σ : MS} {a : Nat} (ha : OB T a 9) (hw : WT T σ) (hT : TKI σ a) : Tn (d + 1) m_X9_next 0 T σ [(0, .ref a)] [] (fun ro T2 σ2 => ro = none ∧ T = T2 ∧ WT T2 σ2 ∧ FrC T [84, 85, 86, 87] σ σ2 ∧ (TKI σ2 a) ∧ (σ.2.1 84 a ≤ σ2.2.1 84 a) ∧ (ADV σ σ2 a)) := by
  refine tn_aload_n dX9_next_0 rfl 0 rfl ?_
  refine tn_getI (ci := 9) (i := 3) (n := 84) (t := σ.2.1 84 a) dX9_next_1 rfl lay_9 (by decide) fl9_45 ha rfl rfl (rfl) ?_
  have g1 : ((-1 : Int) ≤ σ.2.1 84 a ∧ σ.2.1 84 a ≤ 1200) := wf_84 hw ha
  refine tn_iconst dX9_next_4 ?_
  refine tn_iadd dX9_next_5 ?_
  refine tn_aload_n dX9_next_6 rfl 0 rfl ?_
  obtain ⟨x2, hx3, hk4, hl5⟩ : ∃ x : Nat, σ.2.1 81 a = (x : Int) ∧ AR T x 12 1201 1201 := wf_81 hw ha
  have hk4i : IA T x2 := by unfold IA; omega
  refine tn_getR (ci := 9) (i := 0) (n := 81) (x := x2) dX9_next_7 rfl lay_9 (by decide) fl9_9 ha rfl rfl (hx3) ?_
  refine tn_alenX dX9_next_10 (Or.inl hk4i) ?_
  refine tn_icmp_ge (tgt := 118) dX9_next_11 (by decide) ⟨by omega, by omega⟩ ⟨by omega, by omega⟩ (fun h6 => ?_) (fun h6 => ?_)
  · have q7 : σ.2.1 84 a = σ.2.1 84 a := rfl
    have q8 : σ.2.1 85 a = σ.2.1 85 a := rfl
    exact tn_vret rfl dX9_next_118 ⟨rfl, rfl, hw, FrC.rfl, by unfold TKI at *; rw [q7, q8]; omega, by rw [q7]; omega, by unfold ADV TKI at *; rw [q7]; omega⟩
  · refine tn_aload_n dX9_next_14 rfl 0 rfl ?_
    refine tn_getI (ci := 9) (i := 3) (n := 84) (t := σ.2.1 84 a) dX9_next_15 rfl lay_9 (by decide) fl9_45 ha rfl rfl (rfl) ?_
    refine tn_iconst dX9_next_18 ?_
    refine tn_iadd dX9_next_19 ?_
    refine tn_aload_n dX9_next_20 rfl 0 rfl ?_
    obtain ⟨x9, hx10, hk11, hl12⟩ : ∃ x : Nat, σ.2.1 82 a = (x : Int) ∧ AR T x 22 1201 1201 := wf_82 hw ha
    have hk11i : IA T x9 := by unfold IA; omega
    refine tn_getR (ci := 9) (i := 1) (n := 82) (x := x9) dX9_next_21 rfl lay_9 (by decide) fl9_15 ha rfl rfl (hx10) ?_
    refine tn_alenX dX9_next_24 (Or.inl hk11i) ?_
    refine tn_icmp_ge (tgt := 118) dX9_next_25 (by decide) ⟨by omega, by omega⟩ ⟨by omega, by omega⟩ (fun h13 => ?_) (fun h13 => ?_)
    · have q14 : σ.2.1 84 a = σ.2.1 84 a := rfl
      have q15 : σ.2.1 85 a = σ.2.1 85 a := rfl
      exact tn_vret rfl dX9_next_118 ⟨rfl, rfl, hw, FrC.rfl, by unfold TKI at *; rw [q14, q15]; omega, by rw [q14]; omega, by unfold ADV TKI at *; rw [q14]; omega⟩
    · refine tn_aload_n dX9_next_28 rfl 0 rfl ?_
      refine tn_getI (ci := 9) (i := 3) (n := 84) (t := σ.2.1 84 a) dX9_next_29 rfl lay_9 (by decide) fl9_45 ha rfl rfl (rfl) ?_
      refine tn_iconst dX9_next_32 ?_
      refine tn_iadd dX9_next_33 ?_
      refine tn_aload_n dX9_next_34 rfl 0 rfl ?_
      obtain ⟨x16, hx17, hk18, hl19⟩ : ∃ x : Nat, σ.2.1 83 a = (x : Int) ∧ AR T x 23 1201 1201 := wf_83 hw ha
      have hk18i : IA T x16 := by unfold IA; omega
      refine tn_getR (ci := 9) (i := 2) (n := 83) (x := x16) dX9_next_35 rfl lay_9 (by decide) fl9_18 ha rfl rfl (hx17) ?_
      refine tn_alenX dX9_next_38 (Or.inl hk18i) ?_
      refine tn_icmp_ge (tgt := 118) dX9_next_39 (by decide) ⟨by omega, by omega⟩ ⟨by omega, by omega⟩ (fun h20 => ?_) (fun h20 => ?_)
      · have q21 : σ.2.1 84 a = σ.2.1 84 a := rfl
        have q22 : σ.2.1 85 a = σ.2.1 85 a := rfl
        exact tn_vret rfl dX9_next_118 ⟨rfl, rfl, hw, FrC.rfl, by unfold TKI at *; rw [q21, q22]; omega, by rw [q21]; omega, by unfold ADV TKI at *; rw [q21]; omega⟩
      · refine tn_aload_n dX9_next_42 rfl 0 rfl ?_
        refine tn_getI (ci := 9) (i := 3) (n := 84) (t := σ.2.1 84 a) dX9_next_43 rfl lay_9 (by decide) fl9_45 ha rfl rfl (rfl) ?_
        refine tn_if_lt (tgt := 69) dX9_next_46 (by decide) ⟨by omega, by omega⟩ (fun h23 => ?_) (fun h23 => ?_)
        · refine tn_aload_n dX9_next_69 rfl 0 rfl ?_
          refine tn_dup dX9_next_70 rfl ?_
          refine tn_getI (ci := 9) (i := 3) (n := 84) (t := σ.2.1 84 a) dX9_next_71 rfl lay_9 (by decide) fl9_45 ha rfl rfl (rfl) ?_
          refine tn_iconst dX9_next_74 ?_
          refine tn_iadd dX9_next_75 ?_
          refine tn_putV (ci := 9) (i := 3) (n := 84) (r := false) (v := (σ.2.1 84 a) + 1) tyX9 tyX9_ok nmX9 dX9_next_76 rfl lay_9 (by decide) fl9_45 rfl (tyX9_ok 3 (by decide)) rfl rfl rfl ha rfl rfl ?_
          refine tn_aload_n dX9_next_79 rfl 0 rfl ?_
          refine tn_aload_n dX9_next_80 rfl 0 rfl ?_
          refine tn_getR (ci := 9) (i := 0) (n := 81) (x := x2) dX9_next_81 rfl lay_9 (by decide) fl9_9 ha rfl rfl (rc_o (by decide) (hx3)) ?_
          refine tn_aload_n dX9_next_84 rfl 0 rfl ?_
          refine tn_getI (ci := 9) (i := 3) (n := 84) (t := (σ.2.1 84 a) + 1) dX9_next_85 rfl lay_9 (by decide) fl9_45 ha rfl rfl (ra_eq) ?_
          refine tn_ialdX (z := (σ.2.1 84 a) + 1) (hw.put (by decide) (by decide) (fo_84 (by omega))) dX9_next_88 hk4i (by omega) (by omega) (by omega) (fun v24 g25q g25 g25k => ?_)
          have g25u := g25k.2.2.1 hk4
          clear g25k g25q
          refine tn_putV (ci := 9) (i := 4) (n := 85) (r := false) (v := v24) tyX9 tyX9_ok nmX9 dX9_next_89 rfl lay_9 (by decide) fl9_30 rfl (tyX9_ok 4 (by decide)) rfl rfl rfl ha rfl rfl ?_
          refine tn_aload_n dX9_next_92 rfl 0 rfl ?_
          refine tn_aload_n dX9_next_93 rfl 0 rfl ?_
          refine tn_getR (ci := 9) (i := 1) (n := 82) (x := x9) dX9_next_94 rfl lay_9 (by decide) fl9_15 ha rfl rfl (rc_o (by decide) (rc_o (by decide) (hx10))) ?_
          refine tn_aload_n dX9_next_97 rfl 0 rfl ?_
          refine tn_getI (ci := 9) (i := 3) (n := 84) (t := (σ.2.1 84 a) + 1) dX9_next_98 rfl lay_9 (by decide) fl9_45 ha rfl rfl (rc_o (by decide) (ra_eq)) ?_
          refine tn_ialdX (z := (σ.2.1 84 a) + 1) ((hw.put (by decide) (by decide) (fo_84 (by omega))).put (by decide) (by decide) (fo_85 (by omega))) dX9_next_101 hk11i (by omega) (by omega) (by omega) (fun v26 g27q g27 g27k => ?_)
          clear g27k g27q
          refine tn_putV (ci := 9) (i := 5) (n := 86) (r := false) (v := v26) tyX9 tyX9_ok nmX9 dX9_next_102 rfl lay_9 (by decide) fl9_55 rfl (tyX9_ok 5 (by decide)) rfl rfl rfl ha rfl rfl ?_
          refine tn_aload_n dX9_next_105 rfl 0 rfl ?_
          refine tn_aload_n dX9_next_106 rfl 0 rfl ?_
          refine tn_getR (ci := 9) (i := 2) (n := 83) (x := x16) dX9_next_107 rfl lay_9 (by decide) fl9_18 ha rfl rfl (rc_o (by decide) (rc_o (by decide) (rc_o (by decide) (hx17)))) ?_
          refine tn_aload_n dX9_next_110 rfl 0 rfl ?_
          refine tn_getI (ci := 9) (i := 3) (n := 84) (t := (σ.2.1 84 a) + 1) dX9_next_111 rfl lay_9 (by decide) fl9_45 ha rfl rfl (rc_o (by decide) (rc_o (by decide) (ra_eq))) ?_
          refine tn_ialdX (z := (σ.2.1 84 a) + 1) (((hw.put (by decide) (by decide) (fo_84 (by omega))).put (by decide) (by decide) (fo_85 (by omega))).put (by decide) (by decide) (fo_86 (by omega))) dX9_next_114 hk18i (by omega) (by omega) (by omega) (fun v28 g29q g29 g29k => ?_)
          clear g29k g29q
          refine tn_putV (ci := 9) (i := 6) (n := 87) (r := false) (v := v28) tyX9 tyX9_ok nmX9 dX9_next_115 rfl lay_9 (by decide) fl9_34 rfl (tyX9_ok 6 (by decide)) rfl rfl rfl ha rfl rfl ?_
          have q30 : (sA 87 a (v28) (sA 86 a (v26) (sA 85 a (v24) (sA 84 a ((σ.2.1 84 a) + 1) σ)))).2.1 84 a = (σ.2.1 84 a) + 1 := rc_o (by decide) (rc_o (by decide) (rc_o (by decide) (ra_eq)))
          have q31 : (sA 87 a (v28) (sA 86 a (v26) (sA 85 a (v24) (sA 84 a ((σ.2.1 84 a) + 1) σ)))).2.1 85 a = v24 := rc_o (by decide) (rc_o (by decide) (ra_eq))
          exact tn_vret rfl dX9_next_118 ⟨rfl, rfl, ((((hw.put (by decide) (by decide) (fo_84 (by omega))).put (by decide) (by decide) (fo_85 (by omega))).put (by decide) (by decide) (fo_86 (by omega))).put (by decide) (by decide) (fo_87 (by omega))), ((((FrC.rfl.put (by decide) (by decide)).put (by decide) (by decide)).put (by decide) (by decide)).put (by decide) (by decide)), by unfold TKI at *; rw [q30, q31]; omega, by rw [q30]; omega, by unfold ADV TKI at *; rw [q30]; omega⟩
        · refine tn_aload_n dX9_next_49 rfl 0 rfl ?_
          refine tn_getI (ci := 9) (i := 4) (n := 85) (t := σ.2.1 85 a) dX9_next_50 rfl lay_9 (by decide) fl9_30 ha rfl rfl (rfl) ?_
          have g32 : ((-2147483648 : Int) ≤ σ.2.1 85 a ∧ σ.2.1 85 a ≤ 2147483647) := wf_85 hw ha
          refine tn_sipush dX9_next_53 (by decide) ?_
          refine tn_icmp_eq (tgt := 118) dX9_next_56 (by decide) ⟨by omega, by omega⟩ ⟨by decide, by decide⟩ (fun h33 => ?_) (fun h33 => ?_)
          · have q34 : σ.2.1 84 a = σ.2.1 84 a := rfl
            have q35 : σ.2.1 85 a = σ.2.1 85 a := rfl
            exact tn_vret rfl dX9_next_118 ⟨rfl, rfl, hw, FrC.rfl, by unfold TKI at *; rw [q34, q35]; omega, by rw [q34]; omega, by unfold ADV TKI at *; rw [q34]; omega⟩
          · refine tn_aload_n dX9_next_59 rfl 0 rfl ?_
            refine tn_getI (ci := 9) (i := 4) (n := 85) (t := σ.2.1 85 a) dX9_next_60 rfl lay_9 (by decide) fl9_30 ha rfl rfl (rfl) ?_
            refine tn_sipush dX9_next_63 (by decide) ?_
            refine tn_icmp_eq (tgt := 118) dX9_next_66 (by decide) ⟨by omega, by omega⟩ ⟨by decide, by decide⟩ (fun h36 => ?_) (fun h36 => ?_)
            · have q37 : σ.2.1 84 a = σ.2.1 84 a := rfl
              have q38 : σ.2.1 85 a = σ.2.1 85 a := rfl
              exact tn_vret rfl dX9_next_118 ⟨rfl, rfl, hw, FrC.rfl, by unfold TKI at *; rw [q37, q38]; omega, by rw [q37]; omega, by unfold ADV TKI at *; rw [q37]; omega⟩
            · refine tn_aload_n dX9_next_69 rfl 0 rfl ?_
              refine tn_dup dX9_next_70 rfl ?_
              refine tn_getI (ci := 9) (i := 3) (n := 84) (t := σ.2.1 84 a) dX9_next_71 rfl lay_9 (by decide) fl9_45 ha rfl rfl (rfl) ?_
              refine tn_iconst dX9_next_74 ?_
              refine tn_iadd dX9_next_75 ?_
              refine tn_putV (ci := 9) (i := 3) (n := 84) (r := false) (v := (σ.2.1 84 a) + 1) tyX9 tyX9_ok nmX9 dX9_next_76 rfl lay_9 (by decide) fl9_45 rfl (tyX9_ok 3 (by decide)) rfl rfl rfl ha rfl rfl ?_
              refine tn_aload_n dX9_next_79 rfl 0 rfl ?_
              refine tn_aload_n dX9_next_80 rfl 0 rfl ?_
              refine tn_getR (ci := 9) (i := 0) (n := 81) (x := x2) dX9_next_81 rfl lay_9 (by decide) fl9_9 ha rfl rfl (rc_o (by decide) (hx3)) ?_
              refine tn_aload_n dX9_next_84 rfl 0 rfl ?_
              refine tn_getI (ci := 9) (i := 3) (n := 84) (t := (σ.2.1 84 a) + 1) dX9_next_85 rfl lay_9 (by decide) fl9_45 ha rfl rfl (ra_eq) ?_
              refine tn_ialdX (z := (σ.2.1 84 a) + 1) (hw.put (by decide) (by decide) (fo_84 (by omega))) dX9_next_88 hk4i (by omega) (by omega) (by omega) (fun v39 g40q g40 g40k => ?_)
              have g40u := g40k.2.2.1 hk4
              clear g40k g40q
              refine tn_putV (ci := 9) (i := 4) (n := 85) (r := false) (v := v39) tyX9 tyX9_ok nmX9 dX9_next_89 rfl lay_9 (by decide) fl9_30 rfl (tyX9_ok 4 (by decide)) rfl rfl rfl ha rfl rfl ?_
              refine tn_aload_n dX9_next_92 rfl 0 rfl ?_
              refine tn_aload_n dX9_next_93 rfl 0 rfl ?_
              refine tn_getR (ci := 9) (i := 1) (n := 82) (x := x9) dX9_next_94 rfl lay_9 (by decide) fl9_15 ha rfl rfl (rc_o (by decide) (rc_o (by decide) (hx10))) ?_
              refine tn_aload_n dX9_next_97 rfl 0 rfl ?_
              refine tn_getI (ci := 9) (i := 3) (n := 84) (t := (σ.2.1 84 a) + 1) dX9_next_98 rfl lay_9 (by decide) fl9_45 ha rfl rfl (rc_o (by decide) (ra_eq)) ?_
              refine tn_ialdX (z := (σ.2.1 84 a) + 1) ((hw.put (by decide) (by decide) (fo_84 (by omega))).put (by decide) (by decide) (fo_85 (by omega))) dX9_next_101 hk11i (by omega) (by omega) (by omega) (fun v41 g42q g42 g42k => ?_)
              clear g42k g42q
              refine tn_putV (ci := 9) (i := 5) (n := 86) (r := false) (v := v41) tyX9 tyX9_ok nmX9 dX9_next_102 rfl lay_9 (by decide) fl9_55 rfl (tyX9_ok 5 (by decide)) rfl rfl rfl ha rfl rfl ?_
              refine tn_aload_n dX9_next_105 rfl 0 rfl ?_
              refine tn_aload_n dX9_next_106 rfl 0 rfl ?_
              refine tn_getR (ci := 9) (i := 2) (n := 83) (x := x16) dX9_next_107 rfl lay_9 (by decide) fl9_18 ha rfl rfl (rc_o (by decide) (rc_o (by decide) (rc_o (by decide) (hx17)))) ?_
              refine tn_aload_n dX9_next_110 rfl 0 rfl ?_
              refine tn_getI (ci := 9) (i := 3) (n := 84) (t := (σ.2.1 84 a) + 1) dX9_next_111 rfl lay_9 (by decide) fl9_45 ha rfl rfl (rc_o (by decide) (rc_o (by decide) (ra_eq))) ?_
              refine tn_ialdX (z := (σ.2.1 84 a) + 1) (((hw.put (by decide) (by decide) (fo_84 (by omega))).put (by decide) (by decide) (fo_85 (by omega))).put (by decide) (by decide) (fo_86 (by omega))) dX9_next_114 hk18i (by omega) (by omega) (by omega) (fun v43 g44q g44 g44k => ?_)
              clear g44k g44q
              refine tn_putV (ci := 9) (i := 6) (n := 87) (r := false) (v := v43) tyX9 tyX9_ok nmX9 dX9_next_115 rfl lay_9 (by decide) fl9_34 rfl (tyX9_ok 6 (by decide)) rfl rfl rfl ha rfl rfl ?_
              have q45 : (sA 87 a (v43) (sA 86 a (v41) (sA 85 a (v39) (sA 84 a ((σ.2.1 84 a) + 1) σ)))).2.1 84 a = (σ.2.1 84 a) + 1 := rc_o (by decide) (rc_o (by decide) (rc_o (by decide) (ra_eq)))
              have q46 : (sA 87 a (v43) (sA 86 a (v41) (sA 85 a (v39) (sA 84 a ((σ.2.1 84 a) + 1) σ)))).2.1 85 a = v39 := rc_o (by decide) (rc_o (by decide) (ra_eq))
              exact tn_vret rfl dX9_next_118 ⟨rfl, rfl, ((((hw.put (by decide) (by decide) (fo_84 (by omega))).put (by decide) (by decide) (fo_85 (by omega))).put (by decide) (by decide) (fo_86 (by omega))).put (by decide) (by decide) (fo_87 (by omega))), ((((FrC.rfl.put (by decide) (by decide)).put (by decide) (by decide)).put (by decide) (by decide)).put (by decide) (by decide)), by unfold TKI at *; rw [q45, q46]; omega, by rw [q45]; omega, by unfold ADV TKI at *; rw [q45]; omega⟩
