theorem cd_X5_single : Cond.code yX5_single cX5_single 2 (some .boolean) ∈ pWW := pw3 (List.mem_of_getElem? (i := 209) rfl) rfl
abbrev m_X5_single : MT := (yX5_single, cX5_single, 2, (some .boolean))
theorem ok_X5_single : pOk m_X5_single := ⟨⟨cd_X5_single, ini_5⟩, by decide +kernel, ⟨by decide +kernel, by decide +kernel⟩, Nat.le_of_ble_eq_true rfl⟩
theorem np_X5_single : (parseMethodDescriptor yX5_single.desc).map (fun d => d.parameters.length) = some 1 := by decide +kernel
theorem im_X5_single : Cond.instanceMethod yX5_single ∈ pWW := pw3 (List.mem_of_getElem? (i := 208) rfl) rfl
theorem se_X5_single : Cond.selects RX5 yX5_single yX5_single ∈ pWW := pws (List.mem_map.mpr ⟨_, lw_pin 26 rfl, rfl⟩) rfl
theorem dX5_single_0 : decode cX5_single 0 = .ok (.aload_n 0, 1) := by decide +kernel
theorem dX5_single_1 : decode cX5_single 1 = .ok (.getfield 47, 3) := by decide +kernel
theorem dX5_single_4 : decode cX5_single 4 = .ok (.bipush 11, 2) := by decide +kernel
theorem dX5_single_6 : decode cX5_single 6 = .ok (.aload_n 0, 1) := by decide +kernel
theorem dX5_single_7 : decode cX5_single 7 = .ok (.getfield 64, 3) := by decide +kernel
theorem dX5_single_10 : decode cX5_single 10 = .ok (.iconst 0, 1) := by decide +kernel
theorem dX5_single_11 : decode cX5_single 11 = .ok (.invokevirtual 139, 3) := by decide +kernel
theorem dX5_single_14 : decode cX5_single 14 = .ok (.aload_n 0, 1) := by decide +kernel
theorem dX5_single_15 : decode cX5_single 15 = .ok (.getfield 12, 3) := by decide +kernel
theorem dX5_single_18 : decode cX5_single 18 = .ok (.invokevirtual 93, 3) := by decide +kernel
theorem dX5_single_21 : decode cX5_single 21 = .ok (.aload_n 0, 1) := by decide +kernel
theorem dX5_single_22 : decode cX5_single 22 = .ok (.iconst 1, 1) := by decide +kernel
theorem dX5_single_23 : decode cX5_single 23 = .ok (.invokevirtual 213, 3) := by decide +kernel
theorem dX5_single_26 : decode cX5_single 26 = .ok (.ifCond .eq 12, 3) := by decide +kernel
theorem dX5_single_38 : decode cX5_single 38 = .ok (.iconst 0, 1) := by decide +kernel
theorem dX5_single_39 : decode cX5_single 39 = .ok (.ireturn, 1) := by decide +kernel
theorem dX5_single_29 : decode cX5_single 29 = .ok (.aload_n 0, 1) := by decide +kernel
theorem dX5_single_30 : decode cX5_single 30 = .ok (.bipush 59, 2) := by decide +kernel
theorem dX5_single_32 : decode cX5_single 32 = .ok (.invokevirtual 102, 3) := by decide +kernel
theorem dX5_single_35 : decode cX5_single 35 = .ok (.ifCond .ne 5, 3) := by decide +kernel
theorem dX5_single_40 : decode cX5_single 40 = .ok (.aload_n 0, 1) := by decide +kernel
theorem dX5_single_41 : decode cX5_single 41 = .ok (.getfield 47, 3) := by decide +kernel
theorem dX5_single_44 : decode cX5_single 44 = .ok (.iload_n 1, 1) := by decide +kernel
theorem dX5_single_45 : decode cX5_single 45 = .ok (.iconst 0, 1) := by decide +kernel
theorem dX5_single_46 : decode cX5_single 46 = .ok (.iconst 0, 1) := by decide +kernel
theorem dX5_single_47 : decode cX5_single 47 = .ok (.invokevirtual 139, 3) := by decide +kernel
theorem dX5_single_50 : decode cX5_single 50 = .ok (.aload_n 0, 1) := by decide +kernel
theorem dX5_single_51 : decode cX5_single 51 = .ok (.getfield 47, 3) := by decide +kernel
theorem dX5_single_54 : decode cX5_single 54 = .ok (.iconst 0, 1) := by decide +kernel
theorem dX5_single_55 : decode cX5_single 55 = .ok (.aload_n 0, 1) := by decide +kernel
theorem dX5_single_56 : decode cX5_single 56 = .ok (.getfield 216, 3) := by decide +kernel
theorem dX5_single_59 : decode cX5_single 59 = .ok (.aload_n 0, 1) := by decide +kernel
theorem dX5_single_60 : decode cX5_single 60 = .ok (.getfield 219, 3) := by decide +kernel
theorem dX5_single_63 : decode cX5_single 63 = .ok (.invokevirtual 143, 3) := by decide +kernel
theorem dX5_single_66 : decode cX5_single 66 = .ok (.iconst 1, 1) := by decide +kernel
theorem dX5_single_67 : decode cX5_single 67 = .ok (.ireturn, 1) := by decide +kernel
set_option maxRecDepth 20000 in
theorem k_X5_single (d : Nat) {T : CT} {σ : MS} {a : Nat} {k : Int} {kp : Int} (ha : OB T a 5) (h_k : -2147483648 ≤ k ∧ k ≤ 2147483647) (hw : WT T σ) (hk : k ≠ 14 ∧ k ≠ 15) (hkp : kp ≤ 140) (hrp : RP σ a kp) : Tn (d + 51) m_X5_single 0 T σ [(0, .ref a), (1, .int (iI k))] [] (fun ro T2 σ2 => ∃ v : Int, ro = some (.int (iI v)) ∧ WT T2 σ2 ∧ FrC T [5, 6, 7, 43, 44, 47, 50, 51, 84, 85, 86, 87, 521] σ σ2 ∧ (v = 0 ∨ v = 1) ∧ (RP σ2 a (kp + 1 - 7 * v))) := by
  refine tn_aload_n dX5_single_0 rfl 0 rfl ?_
  obtain ⟨x1, hx2, hk3⟩ : ∃ x : Nat, σ.2.1 35 a = (x : Int) ∧ (T x).1 = 31 := wf_35 hw ha
  have hk3o : OB T x1 1 := ⟨by omega, by rw [hk3]; rfl, by omega⟩
  refine tn_getR (ci := 5) (i := 2) (n := 35) (x := x1) dX5_single_1 rfl lay_5 (by decide) fl5_47 ha rfl rfl (hx2) ?_
  refine tn_bipush dX5_single_4 (by decide) ?_
  refine tn_aload_n dX5_single_6 rfl 0 rfl ?_
  refine tn_getI (ci := 5) (i := 12) (n := 45) (t := σ.2.1 45 a) dX5_single_7 rfl lay_5 (by decide) fl5_64 ha rfl rfl (rfl) ?_
  have g5 : ((-2147483648 : Int) ≤ σ.2.1 45 a ∧ σ.2.1 45 a ≤ 2147483647) := wf_45 hw ha
  refine tn_iconst dX5_single_10 ?_
  refine tn_callV (M := m_X5_single) (pc := 11) (ix := 139) (ci := 1) (M' := m_X1_append) (As := [.int (iI 11), .int (iI (σ.2.1 45 a)), .int (iI 0)]) (rest := []) dX5_single_11 ok_X1_append im_X1_append se_X1_append ml5_139 np_X1_append rfl rfl hk3o rfl (Nat.le_of_ble_eq_true rfl) (Nat.le_of_ble_eq_true rfl) rfl (k_X1_append (d + 47) (T := T) (σ := σ) (a := x1) (k := 11) (x := σ.2.1 45 a) (y := 0) hk3o hk3 (by decide) (by omega) (by decide) hw (RP.cnt hrp hw ha (hx2) (by omega)) (by omega)) (fun r6 T8 σ7 gt9 hp => ?_)
  obtain ⟨rfl, w12, F13, f10⟩ := hp
  replace ha : OB T8 a 5 := gt9.ob ha
  have rp14 : RP σ7 a (kp + 1) := RP.app hrp (hx2) F13 (by decide) (by decide) (by decide) (by decide) f10
  show Tn _ _ 14 T8 σ7 [(0, .ref a), (1, .int (iI k))] [] _
  refine tn_aload_n dX5_single_14 rfl 0 rfl ?_
  obtain ⟨x15, hx16, hk17⟩ : ∃ x : Nat, σ7.2.1 33 a = (x : Int) ∧ (T8 x).1 = 39 := wf_33 w12 ha
  have hk17o : OB T8 x15 9 := ⟨by omega, by rw [hk17]; rfl, by omega⟩
  refine tn_getR (ci := 5) (i := 0) (n := 33) (x := x15) dX5_single_15 rfl lay_5 (by decide) fl5_12 ha rfl rfl (hx16) ?_
  refine tn_callV (M := m_X5_single) (pc := 18) (ix := 93) (ci := 9) (M' := m_X9_next) (As := []) (rest := []) dX5_single_18 ok_X9_next im_X9_next se_X9_next ml5_93 np_X9_next rfl rfl hk17o rfl (Nat.le_of_ble_eq_true rfl) (Nat.le_of_ble_eq_true rfl) rfl (k_X9_next (d + 49) (T := T8) (σ := σ7) (a := x15) hk17o w12 (RP.tk rp14 w12 ha (hx16))) (fun r19 T21 σ20 gt22 hp => ?_)
  obtain ⟨rfl, rfl, w27, F28, f23, f24, f25⟩ := hp
  clear gt22
  have rp29 : RP σ20 a (kp + 1) := RP.next rp14 (hx16) F28 (by decide) (by decide) (by decide) f23 f24
  show Tn _ _ 21 T8 σ20 [(0, .ref a), (1, .int (iI k))] [] _
  refine tn_aload_n dX5_single_21 rfl 0 rfl ?_
  refine tn_iconst dX5_single_22 ?_
  refine tn_callV (M := m_X5_single) (pc := 23) (ix := 213) (ci := 5) (M' := m_X5_expression) (As := [.int (iI 1)]) (rest := []) dX5_single_23 ok_X5_expression im_X5_expression se_X5_expression ml5_213 np_X5_expression rfl rfl ha rfl (Nat.le_of_ble_eq_true rfl) (Nat.le_of_ble_eq_true rfl) rfl (k_X5_expression (d) (T := T8) (σ := σ20) (a := a) (dp := 1) (kp := kp + 1) ha (by decide) w27 (by omega) (by omega) rp29) (fun r30 T32 σ31 gt33 hp => ?_)
  obtain ⟨v36, rfl, w37, F38, f34, f35⟩ := hp
  replace ha : OB T32 a 5 := gt33.ob ha
  have rp40 : RP σ31 a (kp - 4 * v36 + 1) := RP.up f35 (by omega)
  show Tn _ _ 26 T32 σ31 [(0, .ref a), (1, .int (iI k))] [.int (iI v36)] _
  refine tn_if_eq (tgt := 38) dX5_single_26 (by decide) ⟨by omega, by omega⟩ (fun h41 => ?_) (fun h41 => ?_)
  · refine tn_iconst dX5_single_38 ?_
    exact tn_zret (v := 0) rfl (by decide) dX5_single_39 ⟨_, rfl, w37, (((FrC.rfl.trans (FrC.sub F13 (by decide))).trans (FrC.sub (FrC.old F28 gt9) (by decide))).trans (FrC.sub (FrC.old F38 gt9) (by decide))), by omega, (RP.up rp40 (by omega))⟩
  · refine tn_aload_n dX5_single_29 rfl 0 rfl ?_
    refine tn_bipush dX5_single_30 (by decide) ?_
    refine tn_callV (M := m_X5_single) (pc := 32) (ix := 102) (ci := 5) (M' := m_X5_taken) (As := [.int (iI 59)]) (rest := []) dX5_single_32 ok_X5_taken im_X5_taken se_X5_taken ml5_102 np_X5_taken rfl rfl ha rfl (Nat.le_of_ble_eq_true rfl) (Nat.le_of_ble_eq_true rfl) rfl (k_X5_taken (d + 48) (T := T32) (σ := σ31) (a := a) (s := 59) (kp := kp - 4 * v36 + 1) ha (by decide) w37 (by omega) (by omega) rp40) (fun r42 T44 σ43 gt45 hp => ?_)
    obtain ⟨v48, rfl, rfl, w49, F50, f46, f47⟩ := hp
    clear gt45
    have rp52 : RP σ43 a (kp - 4 * v36 - 4 * v48 + 1) := RP.up f47 (by omega)
    show Tn _ _ 35 T32 σ43 [(0, .ref a), (1, .int (iI k))] [.int (iI v48)] _
    refine tn_if_ne (tgt := 40) dX5_single_35 (by decide) ⟨by omega, by omega⟩ (fun h53 => ?_) (fun h53 => ?_)
    · refine tn_aload_n dX5_single_40 rfl 0 rfl ?_
      obtain ⟨x54, hx55, hk56⟩ : ∃ x : Nat, σ31.2.1 35 a = (x : Int) ∧ (T32 x).1 = 31 := wf_35 w37 ha
      have hk56o : OB T32 x54 1 := ⟨by omega, by rw [hk56]; rfl, by omega⟩
      refine tn_getR (ci := 5) (i := 2) (n := 35) (x := x54) dX5_single_41 rfl lay_5 (by decide) fl5_47 ha rfl rfl (rc_F F50 (Or.inl (by decide)) (by decide) (hx55)) ?_
      refine tn_iload_n dX5_single_44 rfl 1 rfl ?_
      refine tn_iconst dX5_single_45 ?_
      refine tn_iconst dX5_single_46 ?_
      have q62 : σ43.2.1 6 x54 = σ31.2.1 6 x54 := rc_F F50 (Or.inl (by decide)) (by decide) (rfl)
      refine tn_callV (M := m_X5_single) (pc := 47) (ix := 139) (ci := 1) (M' := m_X1_append) (As := [.int (iI k), .int (iI 0), .int (iI 0)]) (rest := []) dX5_single_47 ok_X1_append im_X1_append se_X1_append ml5_139 np_X1_append rfl rfl hk56o rfl (Nat.le_of_ble_eq_true rfl) (Nat.le_of_ble_eq_true rfl) rfl (k_X1_append (d + 47) (T := T32) (σ := σ43) (a := x54) (k := k) (x := 0) (y := 0) hk56o hk56 (by omega) (by decide) (by decide) w49 (RP.cnt rp52 w49 ha (rc_F F50 (Or.inl (by decide)) (by decide) (hx55)) (by omega)) (by omega)) (fun r58 T60 σ59 gt61 hp => ?_)
      obtain ⟨rfl, w65, F66, f63⟩ := hp
      replace ha : OB T60 a 5 := gt61.ob ha
      have rp67 : RP σ59 a (kp - 4 * v36 - 4 * v48 + 1 + 1) := RP.app rp52 (rc_F F50 (Or.inl (by decide)) (by decide) (hx55)) F66 (by decide) (by decide) (by decide) (by decide) f63
      have rp68 : RP σ59 a (kp - 4 * v36 - 4 * v48 + 2) := RP.up rp67 (by omega)
      show Tn _ _ 50 T60 σ59 [(0, .ref a), (1, .int (iI k))] [] _
      refine tn_aload_n dX5_single_50 rfl 0 rfl ?_
      obtain ⟨x69, hx70, hk71⟩ : ∃ x : Nat, σ59.2.1 35 a = (x : Int) ∧ (T60 x).1 = 31 := wf_35 w65 ha
      have hk71o : OB T60 x69 1 := ⟨by omega, by rw [hk71]; rfl, by omega⟩
      refine tn_getR (ci := 5) (i := 2) (n := 35) (x := x69) dX5_single_51 rfl lay_5 (by decide) fl5_47 ha rfl rfl (hx70) ?_
      refine tn_iconst dX5_single_54 ?_
      refine tn_aload_n dX5_single_55 rfl 0 rfl ?_
      refine tn_getI (ci := 5) (i := 17) (n := 50) (t := σ59.2.1 50 a) dX5_single_56 rfl lay_5 (by decide) fl5_216 ha rfl rfl (rfl) ?_
      have g73 : ((-2147483648 : Int) ≤ σ59.2.1 50 a ∧ σ59.2.1 50 a ≤ 2147483647) := wf_50 w65 ha
      refine tn_aload_n dX5_single_59 rfl 0 rfl ?_
      refine tn_getI (ci := 5) (i := 18) (n := 51) (t := σ59.2.1 51 a) dX5_single_60 rfl lay_5 (by decide) fl5_219 ha rfl rfl (rfl) ?_
      have g74 : ((-2147483648 : Int) ≤ σ59.2.1 51 a ∧ σ59.2.1 51 a ≤ 2147483647) := wf_51 w65 ha
      refine tn_callV (M := m_X5_single) (pc := 63) (ix := 143) (ci := 1) (M' := m_X1_lastOperand) (As := [.int (iI 0), .int (iI (σ59.2.1 50 a)), .int (iI (σ59.2.1 51 a))]) (rest := []) dX5_single_63 ok_X1_lastOperand im_X1_lastOperand se_X1_lastOperand ml5_143 np_X1_lastOperand rfl rfl hk71o rfl (Nat.le_of_ble_eq_true rfl) (Nat.le_of_ble_eq_true rfl) rfl (k_X1_lastOperand (d + 49) (T := T60) (σ := σ59) (a := x69) (i := 0) (k := σ59.2.1 50 a) (y := σ59.2.1 51 a) hk71o (by decide) (by omega) (by omega) w65 ) (fun r75 T77 σ76 gt78 hp => ?_)
      obtain ⟨rfl, rfl, w80, F81⟩ := hp
      clear gt78
      have rp82 : RP σ76 a (kp - 4 * v36 - 4 * v48 + 2) := RP.frc rp68 F81 (by decide) (by decide) (by decide) (by decide) (by decide)
      show Tn _ _ 66 T60 σ76 [(0, .ref a), (1, .int (iI k))] [] _
      refine tn_iconst dX5_single_66 ?_
      exact tn_zret (v := 1) rfl (by decide) dX5_single_67 ⟨_, rfl, w80, ((((((FrC.rfl.trans (FrC.sub F13 (by decide))).trans (FrC.sub (FrC.old F28 gt9) (by decide))).trans (FrC.sub (FrC.old F38 gt9) (by decide))).trans (FrC.sub (FrC.old F50 (GT.trans gt9 gt33)) (by decide))).trans (FrC.sub (FrC.old F66 (GT.trans gt9 gt33)) (by decide))).trans (FrC.sub (FrC.old F81 (GT.trans (GT.trans gt9 gt33) gt61)) (by decide))), by omega, (RP.up rp82 (by omega))⟩
    · refine tn_iconst dX5_single_38 ?_
      exact tn_zret (v := 0) rfl (by decide) dX5_single_39 ⟨_, rfl, w49, ((((FrC.rfl.trans (FrC.sub F13 (by decide))).trans (FrC.sub (FrC.old F28 gt9) (by decide))).trans (FrC.sub (FrC.old F38 gt9) (by decide))).trans (FrC.sub (FrC.old F50 (GT.trans gt9 gt33)) (by decide))), by omega, (RP.up rp52 (by omega))⟩
