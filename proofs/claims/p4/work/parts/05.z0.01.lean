theorem cd_X0_samePrints : Cond.code yX0_samePrints cX0_samePrints 1 (some .boolean) ∈ pWW := pw6 (List.mem_of_getElem? (i := 214) rfl) rfl
theorem ini_0 : Cond.initialized RX0 ∈ pWW := pw1 (List.mem_of_getElem? (i := 21) rfl) rfl
abbrev m_X0_samePrints : MT := (yX0_samePrints, cX0_samePrints, 1, (some .boolean))
theorem ok_X0_samePrints : pOk m_X0_samePrints := ⟨⟨cd_X0_samePrints, ini_0⟩, by decide +kernel, ⟨by decide +kernel, by decide +kernel⟩, Nat.le_of_ble_eq_true rfl⟩
theorem np_X0_samePrints : (parseMethodDescriptor yX0_samePrints.desc).map (fun d => d.parameters.length) = some 0 := by decide +kernel
theorem im_X0_samePrints : Cond.instanceMethod yX0_samePrints ∈ pWW := pw6 (List.mem_of_getElem? (i := 213) rfl) rfl
theorem se_X0_samePrints : Cond.selects RX0 yX0_samePrints yX0_samePrints ∈ pWW := pws (List.mem_map.mpr ⟨_, lw_pin 97 rfl, rfl⟩) rfl
theorem fl0_14 : Cond.fieldLink RX0 14 (TX0 0).1 (TX0 0).2.1 (TX0 0).2.2.1 ∈ pWW := pw6 (List.mem_of_getElem? (i := 180) rfl) rfl
theorem fl0_54 : Cond.fieldLink RX0 54 (TX7 10).1 (TX7 10).2.1 (TX7 10).2.2.1 ∈ pWW := pw2 (List.mem_of_getElem? (i := 149) rfl) rfl
theorem fl0_20 : Cond.fieldLink RX0 20 (TX0 1).1 (TX0 1).2.1 (TX0 1).2.2.1 ∈ pWW := pw6 (List.mem_of_getElem? (i := 182) rfl) rfl
theorem fl0_57 : Cond.fieldLink RX0 57 (TX7 11).1 (TX7 11).2.1 (TX7 11).2.2.1 ∈ pWW := pw2 (List.mem_of_getElem? (i := 152) rfl) rfl
theorem dX0_samePrints_0 : decode cX0_samePrints 0 = .ok (.aload_n 0, 1) := by decide +kernel
theorem dX0_samePrints_1 : decode cX0_samePrints 1 = .ok (.getfield 14, 3) := by decide +kernel
theorem dX0_samePrints_4 : decode cX0_samePrints 4 = .ok (.getfield 54, 3) := by decide +kernel
theorem dX0_samePrints_7 : decode cX0_samePrints 7 = .ok (.aload_n 0, 1) := by decide +kernel
theorem dX0_samePrints_8 : decode cX0_samePrints 8 = .ok (.getfield 20, 3) := by decide +kernel
theorem dX0_samePrints_11 : decode cX0_samePrints 11 = .ok (.getfield 54, 3) := by decide +kernel
theorem dX0_samePrints_14 : decode cX0_samePrints 14 = .ok (.if_icmp .ne 24, 3) := by decide +kernel
theorem dX0_samePrints_38 : decode cX0_samePrints 38 = .ok (.iconst 0, 1) := by decide +kernel
theorem dX0_samePrints_39 : decode cX0_samePrints 39 = .ok (.ireturn, 1) := by decide +kernel
theorem dX0_samePrints_17 : decode cX0_samePrints 17 = .ok (.aload_n 0, 1) := by decide +kernel
theorem dX0_samePrints_18 : decode cX0_samePrints 18 = .ok (.getfield 14, 3) := by decide +kernel
theorem dX0_samePrints_21 : decode cX0_samePrints 21 = .ok (.getfield 57, 3) := by decide +kernel
theorem dX0_samePrints_24 : decode cX0_samePrints 24 = .ok (.aload_n 0, 1) := by decide +kernel
theorem dX0_samePrints_25 : decode cX0_samePrints 25 = .ok (.getfield 20, 3) := by decide +kernel
theorem dX0_samePrints_28 : decode cX0_samePrints 28 = .ok (.getfield 57, 3) := by decide +kernel
theorem dX0_samePrints_31 : decode cX0_samePrints 31 = .ok (.if_icmp .ne 7, 3) := by decide +kernel
theorem dX0_samePrints_34 : decode cX0_samePrints 34 = .ok (.iconst 1, 1) := by decide +kernel
theorem dX0_samePrints_35 : decode cX0_samePrints 35 = .ok (.goto 4, 3) := by decide +kernel
set_option maxRecDepth 20000 in
theorem k_X0_samePrints (d : Nat) {T : CT} {σ : MS} {a : Nat} (ha : OB T a 0) (hw : WT T σ) : Tn (d + 1) m_X0_samePrints 0 T σ [(0, .ref a)] [] (fun ro T2 σ2 => ∃ v : Int, ro = some (.int (iI v)) ∧ T = T2 ∧ σ = σ2 ∧ (v = 0 ∨ v = 1)) := by
  refine tn_aload_n dX0_samePrints_0 rfl 0 rfl ?_
  obtain ⟨x1, hx2, hk3⟩ : ∃ x : Nat, σ.2.1 0 a = (x : Int) ∧ (T x).1 = 37 := wf_0 hw ha
  have hk3o : OB T x1 7 := ⟨by omega, by rw [hk3]; rfl, by omega⟩
  refine tn_getR (ci := 0) (i := 0) (n := 0) (x := x1) dX0_samePrints_1 rfl lay_0 (by decide) fl0_14 ha rfl rfl (hx2) ?_
  refine tn_getI (ci := 7) (i := 10) (n := 65) (t := σ.2.1 65 x1) dX0_samePrints_4 rfl lay_7 (by decide) fl0_54 hk3o rfl rfl (rfl) ?_
  have g5 : ((-2147483648 : Int) ≤ σ.2.1 65 x1 ∧ σ.2.1 65 x1 ≤ 2147483647) := wf_65 hw hk3o
  refine tn_aload_n dX0_samePrints_7 rfl 0 rfl ?_
  obtain ⟨x6, hx7, hk8⟩ : ∃ x : Nat, σ.2.1 1 a = (x : Int) ∧ (T x).1 = 57 := wf_1 hw ha
  have hk8o : OB T x6 7 := ⟨by omega, by rw [hk8]; rfl, by omega⟩
  refine tn_getR (ci := 0) (i := 1) (n := 1) (x := x6) dX0_samePrints_8 rfl lay_0 (by decide) fl0_20 ha rfl rfl (hx7) ?_
  refine tn_getI (ci := 7) (i := 10) (n := 65) (t := σ.2.1 65 x6) dX0_samePrints_11 rfl lay_7 (by decide) fl0_54 hk8o rfl rfl (rfl) ?_
  have g10 : ((-2147483648 : Int) ≤ σ.2.1 65 x6 ∧ σ.2.1 65 x6 ≤ 2147483647) := wf_65 hw hk8o
  refine tn_icmp_ne (tgt := 38) dX0_samePrints_14 (by decide) ⟨by omega, by omega⟩ ⟨by omega, by omega⟩ (fun h11 => ?_) (fun h11 => ?_)
  · refine tn_iconst dX0_samePrints_38 ?_
    exact tn_zret (v := 0) rfl (by decide) dX0_samePrints_39 ⟨_, rfl, rfl, rfl, by omega⟩
  · refine tn_aload_n dX0_samePrints_17 rfl 0 rfl ?_
    refine tn_getR (ci := 0) (i := 0) (n := 0) (x := x1) dX0_samePrints_18 rfl lay_0 (by decide) fl0_14 ha rfl rfl (hx2) ?_
    refine tn_getI (ci := 7) (i := 11) (n := 66) (t := σ.2.1 66 x1) dX0_samePrints_21 rfl lay_7 (by decide) fl0_57 hk3o rfl rfl (rfl) ?_
    have g12 : ((-2147483648 : Int) ≤ σ.2.1 66 x1 ∧ σ.2.1 66 x1 ≤ 2147483647) := wf_66 hw hk3o
    refine tn_aload_n dX0_samePrints_24 rfl 0 rfl ?_
    refine tn_getR (ci := 0) (i := 1) (n := 1) (x := x6) dX0_samePrints_25 rfl lay_0 (by decide) fl0_20 ha rfl rfl (hx7) ?_
    refine tn_getI (ci := 7) (i := 11) (n := 66) (t := σ.2.1 66 x6) dX0_samePrints_28 rfl lay_7 (by decide) fl0_57 hk8o rfl rfl (rfl) ?_
    have g13 : ((-2147483648 : Int) ≤ σ.2.1 66 x6 ∧ σ.2.1 66 x6 ≤ 2147483647) := wf_66 hw hk8o
    refine tn_icmp_ne (tgt := 38) dX0_samePrints_31 (by decide) ⟨by omega, by omega⟩ ⟨by omega, by omega⟩ (fun h14 => ?_) (fun h14 => ?_)
    · refine tn_iconst dX0_samePrints_38 ?_
      exact tn_zret (v := 0) rfl (by decide) dX0_samePrints_39 ⟨_, rfl, rfl, rfl, by omega⟩
    · refine tn_iconst dX0_samePrints_34 ?_
      refine tn_goto (tgt := 39) dX0_samePrints_35 (by decide) ?_
      exact tn_zret (v := 1) rfl (by decide) dX0_samePrints_39 ⟨_, rfl, rfl, rfl, by omega⟩
