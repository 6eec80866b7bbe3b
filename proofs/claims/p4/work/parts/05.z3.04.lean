theorem cd_X5_taken : Cond.code yX5_taken cX5_taken 2 (some .boolean) ∈ pWW := pw3 (List.mem_of_getElem? (i := 96) rfl) rfl
abbrev m_X5_taken : MT := (yX5_taken, cX5_taken, 2, (some .boolean))
theorem ok_X5_taken : pOk m_X5_taken := ⟨⟨cd_X5_taken, ini_5⟩, by decide +kernel, ⟨by decide +kernel, by decide +kernel⟩, Nat.le_of_ble_eq_true rfl⟩
theorem np_X5_taken : (parseMethodDescriptor yX5_taken.desc).map (fun d => d.parameters.length) = some 1 := by decide +kernel
theorem im_X5_taken : Cond.instanceMethod yX5_taken ∈ pWW := pw3 (List.mem_of_getElem? (i := 95) rfl) rfl
theorem se_X5_taken : Cond.selects RX5 yX5_taken yX5_taken ∈ pWW := pws (List.mem_map.mpr ⟨_, lw_pin 9 rfl, rfl⟩) rfl
theorem fl5_71 : Cond.fieldLink RX5 71 (TX9 4).1 (TX9 4).2.1 (TX9 4).2.2.1 ∈ pWW := pw1 (List.mem_of_getElem? (i := 49) rfl) rfl
theorem ml5_93 : Cond.methodLink RX5 93 yX9_next ∈ pWW := pw3 (List.mem_of_getElem? (i := 92) rfl) rfl
theorem ml5_90 : Cond.methodLink RX5 90 yX5_refuse ∈ pWW := pw3 (List.mem_of_getElem? (i := 65) rfl) rfl
theorem dX5_taken_0 : decode cX5_taken 0 = .ok (.aload_n 0, 1) := by decide +kernel
theorem dX5_taken_1 : decode cX5_taken 1 = .ok (.getfield 12, 3) := by decide +kernel
theorem dX5_taken_4 : decode cX5_taken 4 = .ok (.getfield 71, 3) := by decide +kernel
theorem dX5_taken_7 : decode cX5_taken 7 = .ok (.iload_n 1, 1) := by decide +kernel
theorem dX5_taken_8 : decode cX5_taken 8 = .ok (.if_icmp .eq 8, 3) := by decide +kernel
theorem dX5_taken_16 : decode cX5_taken 16 = .ok (.aload_n 0, 1) := by decide +kernel
theorem dX5_taken_17 : decode cX5_taken 17 = .ok (.getfield 12, 3) := by decide +kernel
theorem dX5_taken_20 : decode cX5_taken 20 = .ok (.invokevirtual 93, 3) := by decide +kernel
theorem dX5_taken_23 : decode cX5_taken 23 = .ok (.iconst 1, 1) := by decide +kernel
theorem dX5_taken_24 : decode cX5_taken 24 = .ok (.ireturn, 1) := by decide +kernel
theorem dX5_taken_11 : decode cX5_taken 11 = .ok (.aload_n 0, 1) := by decide +kernel
theorem dX5_taken_12 : decode cX5_taken 12 = .ok (.invokevirtual 90, 3) := by decide +kernel
theorem dX5_taken_15 : decode cX5_taken 15 = .ok (.ireturn, 1) := by decide +kernel
set_option maxRecDepth 20000 in
theorem k_X5_taken (d : Nat) {T : CT} {σ : MS} {a : Nat} {s : Int} {kp : Int} (ha : OB T a 5) (h_s : -2147483648 ≤ s ∧ s ≤ 2147483647) (hw : WT T σ) (hs : 40 ≤ s ∧ s ≤ 125) (hkp : kp ≤ 150) (hrp : RP σ a kp) : Tn (d + 2) m_X5_taken 0 T σ [(0, .ref a), (1, .int (iI s))] [] (fun ro T2 σ2 => ∃ v : Int, ro = some (.int (iI v)) ∧ T = T2 ∧ WT T2 σ2 ∧ FrC T [43, 44, 84, 85, 86, 87] σ σ2 ∧ (v = 0 ∨ v = 1) ∧ (RP σ2 a (kp - 4 * v))) := by
  refine tn_aload_n dX5_taken_0 rfl 0 rfl ?_
  obtain ⟨x1, hx2, hk3⟩ : ∃ x : Nat, σ.2.1 33 a = (x : Int) ∧ (T x).1 = 39 := wf_33 hw ha
  have hk3o : OB T x1 9 := ⟨by omega, by rw [hk3]; rfl, by omega⟩
  refine tn_getR (ci := 5) (i := 0) (n := 33) (x := x1) dX5_taken_1 rfl lay_5 (by decide) fl5_12 ha rfl rfl (hx2) ?_
  refine tn_getI (ci := 9) (i := 4) (n := 85) (t := σ.2.1 85 x1) dX5_taken_4 rfl lay_9 (by decide) fl5_71 hk3o rfl rfl (rfl) ?_
  have g5 : ((-2147483648 : Int) ≤ σ.2.1 85 x1 ∧ σ.2.1 85 x1 ≤ 2147483647) := wf_85 hw hk3o
  refine tn_iload_n dX5_taken_7 rfl 1 rfl ?_
  refine tn_icmp_eq (tgt := 16) dX5_taken_8 (by decide) ⟨by omega, by omega⟩ ⟨by omega, by omega⟩ (fun h6 => ?_) (fun h6 => ?_)
  · refine tn_aload_n dX5_taken_16 rfl 0 rfl ?_
    refine tn_getR (ci := 5) (i := 0) (n := 33) (x := x1) dX5_taken_17 rfl lay_5 (by decide) fl5_12 ha rfl rfl (hx2) ?_
    refine tn_callV (M := m_X5_taken) (pc := 20) (ix := 93) (ci := 9) (M' := m_X9_next) (As := []) (rest := []) dX5_taken_20 ok_X9_next im_X9_next se_X9_next ml5_93 np_X9_next rfl rfl hk3o rfl (Nat.le_of_ble_eq_true rfl) (Nat.le_of_ble_eq_true rfl) rfl (k_X9_next (d) (T := T) (σ := σ) (a := x1) hk3o hw (RP.tk hrp hw ha (hx2))) (fun r7 T9 σ8 gt10 hp => ?_)
    obtain ⟨rfl, rfl, w15, F16, f11, f12, f13⟩ := hp
    clear gt10
    have rp17 : RP σ8 a (kp - 4) := RP.next4 hrp (hx2) F16 (by decide) (by decide) (by decide) f11 f13 (by rw [show σ.2.1 85 x1 = σ.2.1 85 x1 from rfl]; omega)
    show Tn _ _ 23 T σ8 [(0, .ref a), (1, .int (iI s))] [] _
    refine tn_iconst dX5_taken_23 ?_
    exact tn_zret (v := 1) rfl (by decide) dX5_taken_24 ⟨_, rfl, rfl, w15, (FrC.rfl.trans (FrC.sub F16 (by decide))), by omega, (RP.up rp17 (by omega))⟩
  · refine tn_aload_n dX5_taken_11 rfl 0 rfl ?_
    refine tn_callV (M := m_X5_taken) (pc := 12) (ix := 90) (ci := 5) (M' := m_X5_refuse) (As := []) (rest := []) dX5_taken_12 ok_X5_refuse im_X5_refuse se_X5_refuse ml5_90 np_X5_refuse rfl rfl ha rfl (Nat.le_of_ble_eq_true rfl) (Nat.le_of_ble_eq_true rfl) rfl (k_X5_refuse (d) (T := T) (σ := σ) (a := a) ha hw ) (fun r18 T20 σ19 gt21 hp => ?_)
    obtain ⟨v24, rfl, rfl, w25, F26, f22, f23⟩ := hp
    clear gt21
    have rp27 : RP σ19 a (kp) := RP.frc hrp F26 (by decide) (by decide) (by decide) (by decide) (by decide)
    show Tn _ _ 15 T σ19 [(0, .ref a), (1, .int (iI s))] [.int (iI v24)] _
    exact tn_zret (v := v24) rfl (by omega) dX5_taken_15 ⟨_, rfl, rfl, w25, (FrC.rfl.trans (FrC.sub F26 (by decide))), by omega, (RP.up rp27 (by omega))⟩
