theorem cd_X5_factor : Cond.code yX5_factor cX5_factor 2 (some .boolean) ∈ pWW := pw3 (List.mem_of_getElem? (i := 177) rfl) rfl
abbrev m_X5_factor : MT := (yX5_factor, cX5_factor, 2, (some .boolean))
theorem ok_X5_factor : pOk m_X5_factor := ⟨⟨cd_X5_factor, ini_5⟩, by decide +kernel, ⟨by decide +kernel, by decide +kernel⟩, Nat.le_of_ble_eq_true rfl⟩
theorem np_X5_factor : (parseMethodDescriptor yX5_factor.desc).map (fun d => d.parameters.length) = some 1 := by decide +kernel
theorem im_X5_factor : Cond.instanceMethod yX5_factor ∈ pWW := pw3 (List.mem_of_getElem? (i := 176) rfl) rfl
theorem se_X5_factor : Cond.selects RX5 yX5_factor yX5_factor ∈ pWW := pws (List.mem_map.mpr ⟨_, lw_pin 21 rfl, rfl⟩) rfl
theorem ml5_253 : Cond.methodLink RX5 253 yX5_atom ∈ pWW := pw3 (List.mem_of_getElem? (i := 178) rfl) rfl
theorem ml5_244 : Cond.methodLink RX5 244 yX5_join ∈ pWW := pw3 (List.mem_of_getElem? (i := 182) rfl) rfl
theorem dX5_factor_0 : decode cX5_factor 0 = .ok (.aload_n 0, 1) := by decide +kernel
theorem dX5_factor_1 : decode cX5_factor 1 = .ok (.getfield 12, 3) := by decide +kernel
theorem dX5_factor_4 : decode cX5_factor 4 = .ok (.getfield 71, 3) := by decide +kernel
theorem dX5_factor_7 : decode cX5_factor 7 = .ok (.bipush 45, 2) := by decide +kernel
theorem dX5_factor_9 : decode cX5_factor 9 = .ok (.if_icmp .eq 9, 3) := by decide +kernel
theorem dX5_factor_18 : decode cX5_factor 18 = .ok (.aload_n 0, 1) := by decide +kernel
theorem dX5_factor_19 : decode cX5_factor 19 = .ok (.getfield 12, 3) := by decide +kernel
theorem dX5_factor_22 : decode cX5_factor 22 = .ok (.invokevirtual 93, 3) := by decide +kernel
theorem dX5_factor_25 : decode cX5_factor 25 = .ok (.aload_n 0, 1) := by decide +kernel
theorem dX5_factor_26 : decode cX5_factor 26 = .ok (.iload_n 1, 1) := by decide +kernel
theorem dX5_factor_27 : decode cX5_factor 27 = .ok (.invokevirtual 253, 3) := by decide +kernel
theorem dX5_factor_30 : decode cX5_factor 30 = .ok (.ifCond .ne 5, 3) := by decide +kernel
theorem dX5_factor_35 : decode cX5_factor 35 = .ok (.aload_n 0, 1) := by decide +kernel
theorem dX5_factor_36 : decode cX5_factor 36 = .ok (.iconst 2, 1) := by decide +kernel
theorem dX5_factor_37 : decode cX5_factor 37 = .ok (.iconst 1, 1) := by decide +kernel
theorem dX5_factor_38 : decode cX5_factor 38 = .ok (.iconst 0, 1) := by decide +kernel
theorem dX5_factor_39 : decode cX5_factor 39 = .ok (.invokevirtual 244, 3) := by decide +kernel
theorem dX5_factor_42 : decode cX5_factor 42 = .ok (.iconst 1, 1) := by decide +kernel
theorem dX5_factor_43 : decode cX5_factor 43 = .ok (.ireturn, 1) := by decide +kernel
theorem dX5_factor_33 : decode cX5_factor 33 = .ok (.iconst 0, 1) := by decide +kernel
theorem dX5_factor_34 : decode cX5_factor 34 = .ok (.ireturn, 1) := by decide +kernel
theorem dX5_factor_12 : decode cX5_factor 12 = .ok (.aload_n 0, 1) := by decide +kernel
theorem dX5_factor_13 : decode cX5_factor 13 = .ok (.iload_n 1, 1) := by decide +kernel
theorem dX5_factor_14 : decode cX5_factor 14 = .ok (.invokevirtual 253, 3) := by decide +kernel
theorem dX5_factor_17 : decode cX5_factor 17 = .ok (.ireturn, 1) := by decide +kernel
set_option maxRecDepth 20000 in
theorem k_X5_factor (d : Nat) {T : CT} {σ : MS} {a : Nat} {dp : Int} {kp : Int} {lv : Nat} (ha : OB T a 5) (h_dp : -2147483648 ≤ dp ∧ dp ≤ 2147483647) (hw : WT T σ) (hex : ∀ (d : Nat) {T : CT} {σ : MS} {a : Nat} {dp : Int} {kp : Int} (ha : OB T a 5) (h_dp : -2147483648 ≤ dp ∧ dp ≤ 2147483647) (hw : WT T σ) (hdp : 0 ≤ dp ∧ dp ≤ 9) (hlv : 9 ≤ dp + (lv : Int)) (hkp : kp ≤ 150) (hrp : RP σ a kp), Tn (d + 5 * lv + 10) m_X5_expression 0 T σ [(0, .ref a), (1, .int (iI dp))] [] (fun ro T2 σ2 => ∃ v : Int, ro = some (.int (iI v)) ∧ WT T2 σ2 ∧ FrC T [5, 6, 7, 43, 44, 47, 50, 51, 84, 85, 86, 87, 521] σ σ2 ∧ (v = 0 ∨ v = 1) ∧ (RP σ2 a (kp - 4 * v)))) (hdp : 0 ≤ dp ∧ dp ≤ 8) (hlv : 8 ≤ dp + (lv : Int)) (hkp : kp ≤ 150) (hrp : RP σ a kp) : Tn (d + 5 * lv + 12) m_X5_factor 0 T σ [(0, .ref a), (1, .int (iI dp))] [] (fun ro T2 σ2 => ∃ v : Int, ro = some (.int (iI v)) ∧ WT T2 σ2 ∧ FrC T [5, 6, 7, 43, 44, 47, 50, 51, 84, 85, 86, 87, 521] σ σ2 ∧ (v = 0 ∨ v = 1) ∧ (RP σ2 a (kp - 4 * v))) := by
  refine tn_aload_n dX5_factor_0 rfl 0 rfl ?_
  obtain ⟨x1, hx2, hk3⟩ : ∃ x : Nat, σ.2.1 33 a = (x : Int) ∧ (T x).1 = 39 := wf_33 hw ha
  have hk3o : OB T x1 9 := ⟨by omega, by rw [hk3]; rfl, by omega⟩
  refine tn_getR (ci := 5) (i := 0) (n := 33) (x := x1) dX5_factor_1 rfl lay_5 (by decide) fl5_12 ha rfl rfl (hx2) ?_
  refine tn_getI (ci := 9) (i := 4) (n := 85) (t := σ.2.1 85 x1) dX5_factor_4 rfl lay_9 (by decide) fl5_71 hk3o rfl rfl (rfl) ?_
  have g5 : ((-2147483648 : Int) ≤ σ.2.1 85 x1 ∧ σ.2.1 85 x1 ≤ 2147483647) := wf_85 hw hk3o
  refine tn_bipush dX5_factor_7 (by decide) ?_
  refine tn_icmp_eq (tgt := 18) dX5_factor_9 (by decide) ⟨by omega, by omega⟩ ⟨by decide, by decide⟩ (fun h6 => ?_) (fun h6 => ?_)
  · refine tn_aload_n dX5_factor_18 rfl 0 rfl ?_
    refine tn_getR (ci := 5) (i := 0) (n := 33) (x := x1) dX5_factor_19 rfl lay_5 (by decide) fl5_12 ha rfl rfl (hx2) ?_
    refine tn_callV (M := m_X5_factor) (pc := 22) (ix := 93) (ci := 9) (M' := m_X9_next) (As := []) (rest := []) dX5_factor_22 ok_X9_next im_X9_next se_X9_next ml5_93 np_X9_next rfl rfl hk3o rfl (Nat.le_of_ble_eq_true rfl) (Nat.le_of_ble_eq_true rfl) rfl (k_X9_next (d + 5 * lv + 10) (T := T) (σ := σ) (a := x1) hk3o hw (RP.tk hrp hw ha (hx2))) (fun r7 T9 σ8 gt10 hp => ?_)
    obtain ⟨rfl, rfl, w15, F16, f11, f12, f13⟩ := hp
    clear gt10
    have rp17 : RP σ8 a (kp - 4) := RP.next4 hrp (hx2) F16 (by decide) (by decide) (by decide) f11 f13 (by rw [show σ.2.1 85 x1 = σ.2.1 85 x1 from rfl]; omega)
    show Tn _ _ 25 T σ8 [(0, .ref a), (1, .int (iI dp))] [] _
    refine tn_aload_n dX5_factor_25 rfl 0 rfl ?_
    refine tn_iload_n dX5_factor_26 rfl 1 rfl ?_
    refine tn_callV (M := m_X5_factor) (pc := 27) (ix := 253) (ci := 5) (M' := m_X5_atom) (As := [.int (iI dp)]) (rest := []) dX5_factor_27 ok_X5_atom im_X5_atom se_X5_atom ml5_253 np_X5_atom rfl rfl ha rfl (Nat.le_of_ble_eq_true rfl) (Nat.le_of_ble_eq_true rfl) rfl (k_X5_atom (d) (T := T) (σ := σ8) (a := a) (dp := dp) (kp := kp - 4) (lv := lv) ha (by omega) w15 hex (by omega) (by omega) (by omega) rp17) (fun r18 T20 σ19 gt21 hp => ?_)
    obtain ⟨v24, rfl, w25, F26, f22, f23⟩ := hp
    replace ha : OB T20 a 5 := gt21.ob ha
    have rp28 : RP σ19 a (kp - 4 * v24 - 4) := RP.up f23 (by omega)
    show Tn _ _ 30 T20 σ19 [(0, .ref a), (1, .int (iI dp))] [.int (iI v24)] _
    refine tn_if_ne (tgt := 35) dX5_factor_30 (by decide) ⟨by omega, by omega⟩ (fun h29 => ?_) (fun h29 => ?_)
    · refine tn_aload_n dX5_factor_35 rfl 0 rfl ?_
      refine tn_iconst dX5_factor_36 ?_
      refine tn_iconst dX5_factor_37 ?_
      refine tn_iconst dX5_factor_38 ?_
      refine tn_callV (M := m_X5_factor) (pc := 39) (ix := 244) (ci := 5) (M' := m_X5_join) (As := [.int (iI 2), .int (iI 1), .int (iI 0)]) (rest := []) dX5_factor_39 ok_X5_join im_X5_join se_X5_join ml5_244 np_X5_join rfl rfl ha rfl (Nat.le_of_ble_eq_true rfl) (Nat.le_of_ble_eq_true rfl) rfl (k_X5_join (d + 5 * lv + 7) (T := T20) (σ := σ19) (a := a) (k := 2) (e := 1) (l := 0) (kp := kp - 4 * v24 - 4) ha (by decide) (by decide) (by decide) w25 (by omega) (by omega) rp28) (fun r30 T32 σ31 gt33 hp => ?_)
      obtain ⟨rfl, w36, F37, f34⟩ := hp
      replace ha : OB T32 a 5 := gt33.ob ha
      have rp39 : RP σ31 a (kp - 4 * v24 - 3) := RP.up f34 (by omega)
      show Tn _ _ 42 T32 σ31 [(0, .ref a), (1, .int (iI dp))] [] _
      refine tn_iconst dX5_factor_42 ?_
      exact tn_zret (v := 1) rfl (by decide) dX5_factor_43 ⟨_, rfl, w36, (((FrC.rfl.trans (FrC.sub F16 (by decide))).trans (FrC.sub F26 (by decide))).trans (FrC.sub (FrC.old F37 gt21) (by decide))), by omega, (RP.up rp39 (by omega))⟩
    · refine tn_iconst dX5_factor_33 ?_
      exact tn_zret (v := 0) rfl (by decide) dX5_factor_34 ⟨_, rfl, w25, ((FrC.rfl.trans (FrC.sub F16 (by decide))).trans (FrC.sub F26 (by decide))), by omega, (RP.up rp28 (by omega))⟩
  · refine tn_aload_n dX5_factor_12 rfl 0 rfl ?_
    refine tn_iload_n dX5_factor_13 rfl 1 rfl ?_
    refine tn_callV (M := m_X5_factor) (pc := 14) (ix := 253) (ci := 5) (M' := m_X5_atom) (As := [.int (iI dp)]) (rest := []) dX5_factor_14 ok_X5_atom im_X5_atom se_X5_atom ml5_253 np_X5_atom rfl rfl ha rfl (Nat.le_of_ble_eq_true rfl) (Nat.le_of_ble_eq_true rfl) rfl (k_X5_atom (d) (T := T) (σ := σ) (a := a) (dp := dp) (kp := kp) (lv := lv) ha (by omega) hw hex (by omega) (by omega) (by omega) hrp) (fun r40 T42 σ41 gt43 hp => ?_)
    obtain ⟨v46, rfl, w47, F48, f44, f45⟩ := hp
    replace ha : OB T42 a 5 := gt43.ob ha
    show Tn _ _ 17 T42 σ41 [(0, .ref a), (1, .int (iI dp))] [.int (iI v46)] _
    exact tn_zret (v := v46) rfl (by omega) dX5_factor_17 ⟨_, rfl, w47, (FrC.rfl.trans (FrC.sub F48 (by decide))), by omega, (RP.up f45 (by omega))⟩
