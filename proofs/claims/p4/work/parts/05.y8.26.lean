theorem cd_X7_homeOfParam : Cond.code yX7_homeOfParam cX7_homeOfParam 2 (some .int) ∈ pWW := pw6 (List.mem_of_getElem? (i := 46) rfl) rfl
abbrev m_X7_homeOfParam : MT := (yX7_homeOfParam, cX7_homeOfParam, 2, (some .int))
theorem ok_X7_homeOfParam : pOk m_X7_homeOfParam := ⟨⟨cd_X7_homeOfParam, ini_7⟩, by decide +kernel, ⟨by decide +kernel, by decide +kernel⟩, Nat.le_of_ble_eq_true rfl⟩
theorem np_X7_homeOfParam : (parseMethodDescriptor yX7_homeOfParam.desc).map (fun d => d.parameters.length) = some 1 := by decide +kernel
theorem im_X7_homeOfParam : Cond.instanceMethod yX7_homeOfParam ∈ pWW := pw6 (List.mem_of_getElem? (i := 45) rfl) rfl
theorem se_X7_homeOfParam : Cond.selects RX7 yX7_homeOfParam yX7_homeOfParam ∈ pWW := pws (List.mem_map.mpr ⟨_, lw_pin 87 rfl, rfl⟩) rfl
theorem fl7_72 : Cond.fieldLink RX7 72 (TX7 14).1 (TX7 14).2.1 (TX7 14).2.2.1 ∈ pWW := pw2 (List.mem_of_getElem? (i := 158) rfl) rfl
theorem fl7_82 : Cond.fieldLink RX7 82 (TX1 3).1 (TX1 3).2.1 (TX1 3).2.2.1 ∈ pWW := pw1 (List.mem_of_getElem? (i := 95) rfl) rfl
theorem ml7_87 : Cond.methodLink RX7 87 yX1_homeOf ∈ pWW := pw6 (List.mem_of_getElem? (i := 47) rfl) rfl
theorem dX7_homeOfParam_0 : decode cX7_homeOfParam 0 = .ok (.aload_n 0, 1) := by decide +kernel
theorem dX7_homeOfParam_1 : decode cX7_homeOfParam 1 = .ok (.getfield 72, 3) := by decide +kernel
theorem dX7_homeOfParam_4 : decode cX7_homeOfParam 4 = .ok (.ifnull 35, 3) := by decide +kernel
theorem dX7_homeOfParam_39 : decode cX7_homeOfParam 39 = .ok (.iconst (-1), 1) := by decide +kernel
theorem dX7_homeOfParam_40 : decode cX7_homeOfParam 40 = .ok (.ireturn, 1) := by decide +kernel
theorem dX7_homeOfParam_7 : decode cX7_homeOfParam 7 = .ok (.iload_n 1, 1) := by decide +kernel
theorem dX7_homeOfParam_8 : decode cX7_homeOfParam 8 = .ok (.aload_n 0, 1) := by decide +kernel
theorem dX7_homeOfParam_9 : decode cX7_homeOfParam 9 = .ok (.getfield 72, 3) := by decide +kernel
theorem dX7_homeOfParam_12 : decode cX7_homeOfParam 12 = .ok (.getfield 82, 3) := by decide +kernel
theorem dX7_homeOfParam_15 : decode cX7_homeOfParam 15 = .ok (.if_icmp .ge 24, 3) := by decide +kernel
theorem dX7_homeOfParam_18 : decode cX7_homeOfParam 18 = .ok (.aload_n 0, 1) := by decide +kernel
theorem dX7_homeOfParam_19 : decode cX7_homeOfParam 19 = .ok (.getfield 65, 3) := by decide +kernel
theorem dX7_homeOfParam_22 : decode cX7_homeOfParam 22 = .ok (.sipush 192, 3) := by decide +kernel
theorem dX7_homeOfParam_25 : decode cX7_homeOfParam 25 = .ok (.imul, 1) := by decide +kernel
theorem dX7_homeOfParam_26 : decode cX7_homeOfParam 26 = .ok (.aload_n 0, 1) := by decide +kernel
theorem dX7_homeOfParam_27 : decode cX7_homeOfParam 27 = .ok (.getfield 72, 3) := by decide +kernel
theorem dX7_homeOfParam_30 : decode cX7_homeOfParam 30 = .ok (.iconst 0, 1) := by decide +kernel
theorem dX7_homeOfParam_31 : decode cX7_homeOfParam 31 = .ok (.iload_n 1, 1) := by decide +kernel
theorem dX7_homeOfParam_32 : decode cX7_homeOfParam 32 = .ok (.invokevirtual 87, 3) := by decide +kernel
theorem dX7_homeOfParam_35 : decode cX7_homeOfParam 35 = .ok (.iadd, 1) := by decide +kernel
theorem dX7_homeOfParam_36 : decode cX7_homeOfParam 36 = .ok (.goto 4, 3) := by decide +kernel
set_option maxRecDepth 20000 in
theorem k_X7_homeOfParam (d : Nat) {T : CT} {σ : MS} {a : Nat} {p1 : Int} (ha : OB T a 7) (h_p1 : -2147483648 ≤ p1 ∧ p1 ≤ 2147483647) (hw : WT T σ) : Tn (d + 3) m_X7_homeOfParam 0 T σ [(0, .ref a), (1, .int (iI p1))] [] (fun ro T2 σ2 => ∃ v : Int, ro = some (.int (iI v)) ∧ T = T2 ∧ σ = σ2 ∧ (-2147483648 ≤ v ∧ v ≤ 2147483647)) := by
  refine tn_aload_n dX7_homeOfParam_0 rfl 0 rfl ?_
  rcases wf_69 hw ha with hx1 | ⟨x2, hx1, hk3a, hk3b⟩
  · refine tn_getN (ci := 7) (i := 14) (n := 69) dX7_homeOfParam_1 rfl lay_7 (by decide) fl7_72 ha rfl rfl (Int.lt_of_le_of_lt (Int.le_of_eq (Eq.refl _)) hx1) ?_
    refine tn_ifnullN (tgt := 39) dX7_homeOfParam_4 (by decide) ?_
    refine tn_iconst dX7_homeOfParam_39 ?_
    exact tn_iret rfl dX7_homeOfParam_40 ⟨_, rfl, rfl, rfl, by omega⟩
  · have hk3o : OB T x2 1 := by
      by_cases q9 : (T a).1 = 57
      · have w9 := hk3a q9; exact ⟨by omega, by rw [w9]; rfl, by omega⟩
      · have w9 := hk3b q9; exact ⟨by omega, by rw [w9]; rfl, by omega⟩
    refine tn_getR (ci := 7) (i := 14) (n := 69) (x := x2) dX7_homeOfParam_1 rfl lay_7 (by decide) fl7_72 ha rfl rfl (hx1) ?_
    refine tn_ifnull dX7_homeOfParam_4 ?_
    refine tn_iload_n dX7_homeOfParam_7 rfl 1 rfl ?_
    refine tn_aload_n dX7_homeOfParam_8 rfl 0 rfl ?_
    refine tn_getR (ci := 7) (i := 14) (n := 69) (x := x2) dX7_homeOfParam_9 rfl lay_7 (by decide) fl7_72 ha rfl rfl (hx1) ?_
    refine tn_getI (ci := 1) (i := 3) (n := 8) (t := σ.2.1 8 x2) dX7_homeOfParam_12 rfl lay_1 (by decide) fl7_82 hk3o rfl rfl (rfl) ?_
    have g5 : ((0 : Int) ≤ σ.2.1 8 x2 ∧ σ.2.1 8 x2 ≤ 4) := wf_8 hw hk3o
    refine tn_icmp_ge (tgt := 39) dX7_homeOfParam_15 (by decide) ⟨by omega, by omega⟩ ⟨by omega, by omega⟩ (fun h6 => ?_) (fun h6 => ?_)
    · refine tn_iconst dX7_homeOfParam_39 ?_
      exact tn_iret rfl dX7_homeOfParam_40 ⟨_, rfl, rfl, rfl, by omega⟩
    · refine tn_aload_n dX7_homeOfParam_18 rfl 0 rfl ?_
      refine tn_getI (ci := 7) (i := 2) (n := 57) (t := σ.2.1 57 a) dX7_homeOfParam_19 rfl lay_7 (by decide) fl7_65 ha rfl rfl (rfl) ?_
      have g7 : ((0 : Int) ≤ σ.2.1 57 a ∧ σ.2.1 57 a ≤ 11184800) ∧ ((T a).1 = 57 → σ.2.1 57 a ≤ 8) := wf_57 hw ha
      have g7x := g7.2
      replace g7 := g7.1
      clear g7x
      refine tn_sipush dX7_homeOfParam_22 (by decide) ?_
      refine tn_imul dX7_homeOfParam_25 ?_
      refine tn_aload_n dX7_homeOfParam_26 rfl 0 rfl ?_
      refine tn_getR (ci := 7) (i := 14) (n := 69) (x := x2) dX7_homeOfParam_27 rfl lay_7 (by decide) fl7_72 ha rfl rfl (hx1) ?_
      refine tn_iconst dX7_homeOfParam_30 ?_
      refine tn_iload_n dX7_homeOfParam_31 rfl 1 rfl ?_
      refine tn_callV (M := m_X7_homeOfParam) (pc := 32) (ix := 87) (ci := 1) (M' := m_X1_homeOf) (As := [.int (iI 0), .int (iI p1)]) (rest := [.int (iI ((σ.2.1 57 a) * 192))]) dX7_homeOfParam_32 ok_X1_homeOf im_X1_homeOf se_X1_homeOf ml7_87 np_X1_homeOf rfl rfl hk3o rfl (Nat.le_of_ble_eq_true rfl) (Nat.le_of_ble_eq_true rfl) rfl (k_X1_homeOf (d) (T := T) (σ := σ) (a := x2) (f := 0) (m := p1) hk3o (by decide) (by omega) hw ) (fun r8 T10 σ9 gt11 hp => ?_)
      obtain ⟨v13, rfl, rfl, rfl, f12⟩ := hp
      clear gt11
      show Tn _ _ 35 T σ [(0, .ref a), (1, .int (iI p1))] [.int (iI v13), .int (iI ((σ.2.1 57 a) * 192))] _
      refine tn_iadd dX7_homeOfParam_35 ?_
      refine tn_any (fun z14 g15 => ?_)
      have g15r : -2147483648 ≤ z14 ∧ z14 ≤ 2147483647 := g15
      refine tn_goto (tgt := 40) dX7_homeOfParam_36 (by decide) ?_
      exact tn_iret rfl dX7_homeOfParam_40 ⟨_, rfl, rfl, rfl, by omega⟩
