theorem cd_X5_assignment : Cond.code yX5_assignment cX5_assignment 3 (some .boolean) ∈ pWW := pw3 (List.mem_of_getElem? (i := 124) rfl) rfl
abbrev m_X5_assignment : MT := (yX5_assignment, cX5_assignment, 3, (some .boolean))
theorem ok_X5_assignment : pOk m_X5_assignment := ⟨⟨cd_X5_assignment, ini_5⟩, by decide +kernel, ⟨by decide +kernel, by decide +kernel⟩, Nat.le_of_ble_eq_true rfl⟩
theorem np_X5_assignment : (parseMethodDescriptor yX5_assignment.desc).map (fun d => d.parameters.length) = some 0 := by decide +kernel
theorem im_X5_assignment : Cond.instanceMethod yX5_assignment ∈ pWW := pw3 (List.mem_of_getElem? (i := 123) rfl) rfl
theorem se_X5_assignment : Cond.selects RX5 yX5_assignment yX5_assignment ∈ pWW := pws (List.mem_map.mpr ⟨_, lw_pin 16 rfl, rfl⟩) rfl
theorem fl5_64 : Cond.fieldLink RX5 64 (TX5 12).1 (TX5 12).2.1 (TX5 12).2.2.1 ∈ pWW := pw1 (List.mem_of_getElem? (i := 168) rfl) rfl
theorem ml5_207 : Cond.methodLink RX5 207 yX5_setting ∈ pWW := pw3 (List.mem_of_getElem? (i := 194) rfl) rfl
theorem fl5_146 : Cond.fieldLink RX5 146 (TX1 1).1 (TX1 1).2.1 (TX1 1).2.2.1 ∈ pWW := pw1 (List.mem_of_getElem? (i := 86) rfl) rfl
theorem ml5_210 : Cond.methodLink RX5 210 yX1_setWhere ∈ pWW := pw3 (List.mem_of_getElem? (i := 198) rfl) rfl
theorem ml5_201 : Cond.methodLink RX5 201 yX9_nextIs ∈ pWW := pw3 (List.mem_of_getElem? (i := 150) rfl) rfl
theorem ml5_204 : Cond.methodLink RX5 204 yX5_call ∈ pWW := pw3 (List.mem_of_getElem? (i := 155) rfl) rfl
theorem dX5_assignment_0 : decode cX5_assignment 0 = .ok (.aload_n 0, 1) := by decide +kernel
theorem dX5_assignment_1 : decode cX5_assignment 1 = .ok (.getfield 47, 3) := by decide +kernel
theorem dX5_assignment_4 : decode cX5_assignment 4 = .ok (.bipush 11, 2) := by decide +kernel
theorem dX5_assignment_6 : decode cX5_assignment 6 = .ok (.aload_n 0, 1) := by decide +kernel
theorem dX5_assignment_7 : decode cX5_assignment 7 = .ok (.getfield 64, 3) := by decide +kernel
theorem dX5_assignment_10 : decode cX5_assignment 10 = .ok (.iconst 0, 1) := by decide +kernel
theorem dX5_assignment_11 : decode cX5_assignment 11 = .ok (.invokevirtual 139, 3) := by decide +kernel
theorem dX5_assignment_14 : decode cX5_assignment 14 = .ok (.aload_n 0, 1) := by decide +kernel
theorem dX5_assignment_15 : decode cX5_assignment 15 = .ok (.invokevirtual 176, 3) := by decide +kernel
theorem dX5_assignment_18 : decode cX5_assignment 18 = .ok (.istore_n 1, 1) := by decide +kernel
theorem dX5_assignment_19 : decode cX5_assignment 19 = .ok (.aload_n 0, 1) := by decide +kernel
theorem dX5_assignment_20 : decode cX5_assignment 20 = .ok (.getfield 12, 3) := by decide +kernel
theorem dX5_assignment_23 : decode cX5_assignment 23 = .ok (.invokevirtual 93, 3) := by decide +kernel
theorem dX5_assignment_26 : decode cX5_assignment 26 = .ok (.aload_n 0, 1) := by decide +kernel
theorem dX5_assignment_27 : decode cX5_assignment 27 = .ok (.bipush 61, 2) := by decide +kernel
theorem dX5_assignment_29 : decode cX5_assignment 29 = .ok (.invokevirtual 102, 3) := by decide +kernel
theorem dX5_assignment_32 : decode cX5_assignment 32 = .ok (.ifCond .ne 5, 3) := by decide +kernel
theorem dX5_assignment_37 : decode cX5_assignment 37 = .ok (.aload_n 0, 1) := by decide +kernel
theorem dX5_assignment_38 : decode cX5_assignment 38 = .ok (.getfield 12, 3) := by decide +kernel
theorem dX5_assignment_41 : decode cX5_assignment 41 = .ok (.getfield 71, 3) := by decide +kernel
theorem dX5_assignment_44 : decode cX5_assignment 44 = .ok (.sipush 256, 3) := by decide +kernel
theorem dX5_assignment_47 : decode cX5_assignment 47 = .ok (.if_icmp .ne 23, 3) := by decide +kernel
theorem dX5_assignment_70 : decode cX5_assignment 70 = .ok (.aload_n 0, 1) := by decide +kernel
theorem dX5_assignment_71 : decode cX5_assignment 71 = .ok (.iload_n 1, 1) := by decide +kernel
theorem dX5_assignment_72 : decode cX5_assignment 72 = .ok (.invokevirtual 207, 3) := by decide +kernel
theorem dX5_assignment_75 : decode cX5_assignment 75 = .ok (.istore_n 2, 1) := by decide +kernel
theorem dX5_assignment_76 : decode cX5_assignment 76 = .ok (.aload_n 0, 1) := by decide +kernel
theorem dX5_assignment_77 : decode cX5_assignment 77 = .ok (.getfield 47, 3) := by decide +kernel
theorem dX5_assignment_80 : decode cX5_assignment 80 = .ok (.bipush 12, 2) := by decide +kernel
theorem dX5_assignment_82 : decode cX5_assignment 82 = .ok (.iload_n 1, 1) := by decide +kernel
theorem dX5_assignment_83 : decode cX5_assignment 83 = .ok (.iconst 0, 1) := by decide +kernel
theorem dX5_assignment_84 : decode cX5_assignment 84 = .ok (.invokevirtual 139, 3) := by decide +kernel
theorem dX5_assignment_87 : decode cX5_assignment 87 = .ok (.aload_n 0, 1) := by decide +kernel
theorem dX5_assignment_88 : decode cX5_assignment 88 = .ok (.getfield 47, 3) := by decide +kernel
theorem dX5_assignment_91 : decode cX5_assignment 91 = .ok (.aload_n 0, 1) := by decide +kernel
theorem dX5_assignment_92 : decode cX5_assignment 92 = .ok (.getfield 47, 3) := by decide +kernel
theorem dX5_assignment_95 : decode cX5_assignment 95 = .ok (.getfield 146, 3) := by decide +kernel
theorem dX5_assignment_98 : decode cX5_assignment 98 = .ok (.iconst 1, 1) := by decide +kernel
theorem dX5_assignment_99 : decode cX5_assignment 99 = .ok (.isub, 1) := by decide +kernel
theorem dX5_assignment_100 : decode cX5_assignment 100 = .ok (.iconst 2, 1) := by decide +kernel
theorem dX5_assignment_101 : decode cX5_assignment 101 = .ok (.iload_n 1, 1) := by decide +kernel
theorem dX5_assignment_102 : decode cX5_assignment 102 = .ok (.invokevirtual 210, 3) := by decide +kernel
theorem dX5_assignment_105 : decode cX5_assignment 105 = .ok (.iload_n 2, 1) := by decide +kernel
theorem dX5_assignment_106 : decode cX5_assignment 106 = .ok (.ireturn, 1) := by decide +kernel
theorem dX5_assignment_50 : decode cX5_assignment 50 = .ok (.aload_n 0, 1) := by decide +kernel
theorem dX5_assignment_51 : decode cX5_assignment 51 = .ok (.getfield 12, 3) := by decide +kernel
theorem dX5_assignment_54 : decode cX5_assignment 54 = .ok (.bipush 40, 2) := by decide +kernel
theorem dX5_assignment_56 : decode cX5_assignment 56 = .ok (.invokevirtual 201, 3) := by decide +kernel
theorem dX5_assignment_59 : decode cX5_assignment 59 = .ok (.ifCond .eq 11, 3) := by decide +kernel
theorem dX5_assignment_62 : decode cX5_assignment 62 = .ok (.aload_n 0, 1) := by decide +kernel
theorem dX5_assignment_63 : decode cX5_assignment 63 = .ok (.iload_n 1, 1) := by decide +kernel
theorem dX5_assignment_64 : decode cX5_assignment 64 = .ok (.invokevirtual 204, 3) := by decide +kernel
theorem dX5_assignment_67 : decode cX5_assignment 67 = .ok (.goto 8, 3) := by decide +kernel
theorem dX5_assignment_35 : decode cX5_assignment 35 = .ok (.iconst 0, 1) := by decide +kernel
theorem dX5_assignment_36 : decode cX5_assignment 36 = .ok (.ireturn, 1) := by decide +kernel
set_option maxRecDepth 20000 in
theorem k_X5_assignment (d : Nat) {T : CT} {σ : MS} {a : Nat} {kp : Int} (ha : OB T a 5) (hw : WT T σ) (hkp : kp ≤ 140) (hrp : RP σ a kp) : Tn (d + 52) m_X5_assignment 0 T σ [(0, .ref a)] [] (fun ro T2 σ2 => ∃ v : Int, ro = some (.int (iI v)) ∧ WT T2 σ2 ∧ FrC T [5, 6, 7, 42, 43, 44, 47, 50, 51, 84, 85, 86, 87, 518, 519, 520, 521] σ σ2 ∧ (v = 0 ∨ v = 1) ∧ (RP σ2 a (kp + 1 - 10 * v))) := by
  refine tn_aload_n dX5_assignment_0 rfl 0 rfl ?_
  obtain ⟨x1, hx2, hk3⟩ : ∃ x : Nat, σ.2.1 35 a = (x : Int) ∧ (T x).1 = 31 := wf_35 hw ha
  have hk3o : OB T x1 1 := ⟨by omega, by rw [hk3]; rfl, by omega⟩
  refine tn_getR (ci := 5) (i := 2) (n := 35) (x := x1) dX5_assignment_1 rfl lay_5 (by decide) fl5_47 ha rfl rfl (hx2) ?_
  refine tn_bipush dX5_assignment_4 (by decide) ?_
  refine tn_aload_n dX5_assignment_6 rfl 0 rfl ?_
  refine tn_getI (ci := 5) (i := 12) (n := 45) (t := σ.2.1 45 a) dX5_assignment_7 rfl lay_5 (by decide) fl5_64 ha rfl rfl (rfl) ?_
  have g5 : ((-2147483648 : Int) ≤ σ.2.1 45 a ∧ σ.2.1 45 a ≤ 2147483647) := wf_45 hw ha
  refine tn_iconst dX5_assignment_10 ?_
  refine tn_callV (M := m_X5_assignment) (pc := 11) (ix := 139) (ci := 1) (M' := m_X1_append) (As := [.int (iI 11), .int (iI (σ.2.1 45 a)), .int (iI 0)]) (rest := []) dX5_assignment_11 ok_X1_append im_X1_append se_X1_append ml5_139 np_X1_append rfl rfl hk3o rfl (Nat.le_of_ble_eq_true rfl) (Nat.le_of_ble_eq_true rfl) rfl (k_X1_append (d + 48) (T := T) (σ := σ) (a := x1) (k := 11) (x := σ.2.1 45 a) (y := 0) hk3o hk3 (by decide) (by omega) (by decide) hw (RP.cnt hrp hw ha (hx2) (by omega)) (by omega)) (fun r6 T8 σ7 gt9 hp => ?_)
  obtain ⟨rfl, w12, F13, f10⟩ := hp
  replace ha : OB T8 a 5 := gt9.ob ha
  have rp14 : RP σ7 a (kp + 1) := RP.app hrp (hx2) F13 (by decide) (by decide) (by decide) (by decide) f10
  show Tn _ _ 14 T8 σ7 [(0, .ref a)] [] _
  refine tn_aload_n dX5_assignment_14 rfl 0 rfl ?_
  refine tn_callV (M := m_X5_assignment) (pc := 15) (ix := 176) (ci := 5) (M' := m_X5_register) (As := []) (rest := []) dX5_assignment_15 ok_X5_register im_X5_register se_X5_register ml5_176 np_X5_register rfl rfl ha rfl (Nat.le_of_ble_eq_true rfl) (Nat.le_of_ble_eq_true rfl) rfl (k_X5_register (d + 49) (T := T8) (σ := σ7) (a := a) ha w12 ) (fun r15 T17 σ16 gt18 hp => ?_)
  obtain ⟨v20, rfl, rfl, w21, F22, f19⟩ := hp
  clear gt18
  have rp23 : RP σ16 a (kp + 1) := RP.frc rp14 F22 (by decide) (by decide) (by decide) (by decide) (by decide)
  show Tn _ _ 18 T8 σ16 [(0, .ref a)] [.int (iI v20)] _
  refine tn_istore_n (L' := [(1, .int (iI v20)), (0, .ref a)]) dX5_assignment_18 rfl (by decide) rfl ?_
  refine tn_aload_n dX5_assignment_19 rfl 1 rfl ?_
  obtain ⟨x24, hx25, hk26⟩ : ∃ x : Nat, σ7.2.1 33 a = (x : Int) ∧ (T8 x).1 = 39 := wf_33 w12 ha
  have hk26o : OB T8 x24 9 := ⟨by omega, by rw [hk26]; rfl, by omega⟩
  refine tn_getR (ci := 5) (i := 0) (n := 33) (x := x24) dX5_assignment_20 rfl lay_5 (by decide) fl5_12 ha rfl rfl (rc_F F22 (Or.inl (by decide)) (by decide) (hx25)) ?_
  have q32 : σ16.2.1 84 x24 = σ7.2.1 84 x24 := rc_F F22 (Or.inl (by decide)) (by decide) (rfl)
  refine tn_callV (M := m_X5_assignment) (pc := 23) (ix := 93) (ci := 9) (M' := m_X9_next) (As := []) (rest := []) dX5_assignment_23 ok_X9_next im_X9_next se_X9_next ml5_93 np_X9_next rfl rfl hk26o rfl (Nat.le_of_ble_eq_true rfl) (Nat.le_of_ble_eq_true rfl) rfl (k_X9_next (d + 50) (T := T8) (σ := σ16) (a := x24) hk26o w21 (RP.tk rp23 w21 ha (rc_F F22 (Or.inl (by decide)) (by decide) (hx25)))) (fun r28 T30 σ29 gt31 hp => ?_)
  obtain ⟨rfl, rfl, w37, F38, f33, f34, f35⟩ := hp
  clear gt31
  have rp39 : RP σ29 a (kp + 1) := RP.next rp23 (rc_F F22 (Or.inl (by decide)) (by decide) (hx25)) F38 (by decide) (by decide) (by decide) f33 f34
  show Tn _ _ 26 T8 σ29 [(1, .int (iI v20)), (0, .ref a)] [] _
  refine tn_aload_n dX5_assignment_26 rfl 1 rfl ?_
  refine tn_bipush dX5_assignment_27 (by decide) ?_
  refine tn_callV (M := m_X5_assignment) (pc := 29) (ix := 102) (ci := 5) (M' := m_X5_taken) (As := [.int (iI 61)]) (rest := []) dX5_assignment_29 ok_X5_taken im_X5_taken se_X5_taken ml5_102 np_X5_taken rfl rfl ha rfl (Nat.le_of_ble_eq_true rfl) (Nat.le_of_ble_eq_true rfl) rfl (k_X5_taken (d + 49) (T := T8) (σ := σ29) (a := a) (s := 61) (kp := kp + 1) ha (by decide) w37 (by omega) (by omega) rp39) (fun r40 T42 σ41 gt43 hp => ?_)
  obtain ⟨v46, rfl, rfl, w47, F48, f44, f45⟩ := hp
  clear gt43
  have rp50 : RP σ41 a (kp - 4 * v46 + 1) := RP.up f45 (by omega)
  show Tn _ _ 32 T8 σ41 [(1, .int (iI v20)), (0, .ref a)] [.int (iI v46)] _
  refine tn_if_ne (tgt := 37) dX5_assignment_32 (by decide) ⟨by omega, by omega⟩ (fun h51 => ?_) (fun h51 => ?_)
  · refine tn_aload_n dX5_assignment_37 rfl 1 rfl ?_
    refine tn_getR (ci := 5) (i := 0) (n := 33) (x := x24) dX5_assignment_38 rfl lay_5 (by decide) fl5_12 ha rfl rfl (rc_F F48 (Or.inl (by decide)) (by decide) (rc_F F38 (Or.inl (by decide)) (by decide) (rc_F F22 (Or.inl (by decide)) (by decide) (hx25)))) ?_
    refine tn_getI (ci := 9) (i := 4) (n := 85) (t := σ41.2.1 85 x24) dX5_assignment_41 rfl lay_9 (by decide) fl5_71 hk26o rfl rfl (rfl) ?_
    have g52 : ((-2147483648 : Int) ≤ σ41.2.1 85 x24 ∧ σ41.2.1 85 x24 ≤ 2147483647) := wf_85 w47 hk26o
    refine tn_sipush dX5_assignment_44 (by decide) ?_
    refine tn_icmp_ne (tgt := 70) dX5_assignment_47 (by decide) ⟨by omega, by omega⟩ ⟨by decide, by decide⟩ (fun h53 => ?_) (fun h53 => ?_)
    · refine tn_aload_n dX5_assignment_70 rfl 1 rfl ?_
      refine tn_iload_n dX5_assignment_71 rfl 0 rfl ?_
      refine tn_callV (M := m_X5_assignment) (pc := 72) (ix := 207) (ci := 5) (M' := m_X5_setting) (As := [.int (iI v20)]) (rest := []) dX5_assignment_72 ok_X5_setting im_X5_setting se_X5_setting ml5_207 np_X5_setting rfl rfl ha rfl (Nat.le_of_ble_eq_true rfl) (Nat.le_of_ble_eq_true rfl) rfl (k_X5_setting (d) (T := T8) (σ := σ41) (a := a) (r := v20) (kp := kp - 4 * v46 + 1) ha (by omega) w47 (by omega) rp50) (fun r54 T56 σ55 gt57 hp => ?_)
      obtain ⟨v60, rfl, w61, F62, f58, f59⟩ := hp
      replace ha : OB T56 a 5 := gt57.ob ha
      have rp64 : RP σ55 a (kp - 4 * v46 - 7 * v60 + 1) := RP.up f59 (by omega)
      show Tn _ _ 75 T56 σ55 [(1, .int (iI v20)), (0, .ref a)] [.int (iI v60)] _
      refine tn_istore_n (L' := [(2, .int (iI v60)), (1, .int (iI v20)), (0, .ref a)]) dX5_assignment_75 rfl (by decide) rfl ?_
      refine tn_aload_n dX5_assignment_76 rfl 2 rfl ?_
      obtain ⟨x65, hx66, hk67⟩ : ∃ x : Nat, σ55.2.1 35 a = (x : Int) ∧ (T56 x).1 = 31 := wf_35 w61 ha
      have hk67o : OB T56 x65 1 := ⟨by omega, by rw [hk67]; rfl, by omega⟩
      refine tn_getR (ci := 5) (i := 2) (n := 35) (x := x65) dX5_assignment_77 rfl lay_5 (by decide) fl5_47 ha rfl rfl (hx66) ?_
      refine tn_bipush dX5_assignment_80 (by decide) ?_
      refine tn_iload_n dX5_assignment_82 rfl 1 rfl ?_
      refine tn_iconst dX5_assignment_83 ?_
      refine tn_callV (M := m_X5_assignment) (pc := 84) (ix := 139) (ci := 1) (M' := m_X1_append) (As := [.int (iI 12), .int (iI v20), .int (iI 0)]) (rest := []) dX5_assignment_84 ok_X1_append im_X1_append se_X1_append ml5_139 np_X1_append rfl rfl hk67o rfl (Nat.le_of_ble_eq_true rfl) (Nat.le_of_ble_eq_true rfl) rfl (k_X1_append (d + 48) (T := T56) (σ := σ55) (a := x65) (k := 12) (x := v20) (y := 0) hk67o hk67 (by decide) (by omega) (by decide) w61 (RP.cnt rp64 w61 ha (hx66) (by omega)) (by omega)) (fun r69 T71 σ70 gt72 hp => ?_)
      obtain ⟨rfl, w75, F76, f73⟩ := hp
      replace ha : OB T71 a 5 := gt72.ob ha
      have rp77 : RP σ70 a (kp - 4 * v46 - 7 * v60 + 1 + 1) := RP.app rp64 (hx66) F76 (by decide) (by decide) (by decide) (by decide) f73
      have rp78 : RP σ70 a (kp - 4 * v46 - 7 * v60 + 2) := RP.up rp77 (by omega)
      show Tn _ _ 87 T71 σ70 [(2, .int (iI v60)), (1, .int (iI v20)), (0, .ref a)] [] _
      refine tn_aload_n dX5_assignment_87 rfl 2 rfl ?_
      obtain ⟨x79, hx80, hk81⟩ : ∃ x : Nat, σ70.2.1 35 a = (x : Int) ∧ (T71 x).1 = 31 := wf_35 w75 ha
      have hk81o : OB T71 x79 1 := ⟨by omega, by rw [hk81]; rfl, by omega⟩
      refine tn_getR (ci := 5) (i := 2) (n := 35) (x := x79) dX5_assignment_88 rfl lay_5 (by decide) fl5_47 ha rfl rfl (hx80) ?_
      refine tn_aload_n dX5_assignment_91 rfl 2 rfl ?_
      refine tn_getR (ci := 5) (i := 2) (n := 35) (x := x79) dX5_assignment_92 rfl lay_5 (by decide) fl5_47 ha rfl rfl (hx80) ?_
      refine tn_getI (ci := 1) (i := 1) (n := 6) (t := σ70.2.1 6 x79) dX5_assignment_95 rfl lay_1 (by decide) fl5_146 hk81o rfl rfl (rfl) ?_
      have g83 : ((0 : Int) ≤ σ70.2.1 6 x79 ∧ σ70.2.1 6 x79 ≤ 5000) ∧ ((T71 x79).1 = 50 → σ70.2.1 6 x79 ≤ 200) := wf_6 w75 hk81o
      have g83x := g83.2
      replace g83 := g83.1
      clear g83x
      refine tn_iconst dX5_assignment_98 ?_
      refine tn_isub dX5_assignment_99 ?_
      refine tn_iconst dX5_assignment_100 ?_
      refine tn_iload_n dX5_assignment_101 rfl 1 rfl ?_
      refine tn_callV (M := m_X5_assignment) (pc := 102) (ix := 210) (ci := 1) (M' := m_X1_setWhere) (As := [.int (iI ((σ70.2.1 6 x79) - 1)), .int (iI 2), .int (iI v20)]) (rest := []) dX5_assignment_102 ok_X1_setWhere im_X1_setWhere se_X1_setWhere ml5_210 np_X1_setWhere rfl rfl hk81o rfl (Nat.le_of_ble_eq_true rfl) (Nat.le_of_ble_eq_true rfl) rfl (k_X1_setWhere (d + 49) (T := T71) (σ := σ70) (a := x79) (k := (σ70.2.1 6 x79) - 1) (y := 2) (z := v20) hk81o (by omega) (by decide) (by omega) w75 ) (fun r84 T86 σ85 gt87 hp => ?_)
      obtain ⟨rfl, rfl, w89, F90⟩ := hp
      clear gt87
      have rp91 : RP σ85 a (kp - 4 * v46 - 7 * v60 + 2) := RP.frc rp78 F90 (by decide) (by decide) (by decide) (by decide) (by decide)
      show Tn _ _ 105 T71 σ85 [(2, .int (iI v60)), (1, .int (iI v20)), (0, .ref a)] [] _
      refine tn_iload_n dX5_assignment_105 rfl 0 rfl ?_
      exact tn_zret (v := v60) rfl (by omega) dX5_assignment_106 ⟨_, rfl, w89, (((((((FrC.rfl.trans (FrC.sub F13 (by decide))).trans (FrC.sub (FrC.old F22 gt9) (by decide))).trans (FrC.sub (FrC.old F38 gt9) (by decide))).trans (FrC.sub (FrC.old F48 gt9) (by decide))).trans (FrC.sub (FrC.old F62 gt9) (by decide))).trans (FrC.sub (FrC.old F76 (GT.trans gt9 gt57)) (by decide))).trans (FrC.sub (FrC.old F90 (GT.trans (GT.trans gt9 gt57) gt72)) (by decide))), by omega, (RP.up rp91 (by omega))⟩
    · refine tn_aload_n dX5_assignment_50 rfl 1 rfl ?_
      refine tn_getR (ci := 5) (i := 0) (n := 33) (x := x24) dX5_assignment_51 rfl lay_5 (by decide) fl5_12 ha rfl rfl (rc_F F48 (Or.inl (by decide)) (by decide) (rc_F F38 (Or.inl (by decide)) (by decide) (rc_F F22 (Or.inl (by decide)) (by decide) (hx25)))) ?_
      refine tn_bipush dX5_assignment_54 (by decide) ?_
      refine tn_callV (M := m_X5_assignment) (pc := 56) (ix := 201) (ci := 9) (M' := m_X9_nextIs) (As := [.int (iI 40)]) (rest := []) dX5_assignment_56 ok_X9_nextIs im_X9_nextIs se_X9_nextIs ml5_201 np_X9_nextIs rfl rfl hk26o rfl (Nat.le_of_ble_eq_true rfl) (Nat.le_of_ble_eq_true rfl) rfl (k_X9_nextIs (d + 49) (T := T8) (σ := σ41) (a := x24) (p1 := 40) hk26o (by decide) w47 ) (fun r92 T94 σ93 gt95 hp => ?_)
      obtain ⟨v97, rfl, rfl, rfl, f96⟩ := hp
      clear gt95
      show Tn _ _ 59 T8 σ41 [(1, .int (iI v20)), (0, .ref a)] [.int (iI v97)] _
      refine tn_if_eq (tgt := 70) dX5_assignment_59 (by decide) ⟨by omega, by omega⟩ (fun h98 => ?_) (fun h98 => ?_)
      · refine tn_aload_n dX5_assignment_70 rfl 1 rfl ?_
        refine tn_iload_n dX5_assignment_71 rfl 0 rfl ?_
        refine tn_callV (M := m_X5_assignment) (pc := 72) (ix := 207) (ci := 5) (M' := m_X5_setting) (As := [.int (iI v20)]) (rest := []) dX5_assignment_72 ok_X5_setting im_X5_setting se_X5_setting ml5_207 np_X5_setting rfl rfl ha rfl (Nat.le_of_ble_eq_true rfl) (Nat.le_of_ble_eq_true rfl) rfl (k_X5_setting (d) (T := T8) (σ := σ41) (a := a) (r := v20) (kp := kp - 4 * v46 + 1) ha (by omega) w47 (by omega) rp50) (fun r99 T101 σ100 gt102 hp => ?_)
        obtain ⟨v105, rfl, w106, F107, f103, f104⟩ := hp
        replace ha : OB T101 a 5 := gt102.ob ha
        have rp109 : RP σ100 a (kp - 4 * v46 - 7 * v105 + 1) := RP.up f104 (by omega)
        show Tn _ _ 75 T101 σ100 [(1, .int (iI v20)), (0, .ref a)] [.int (iI v105)] _
        refine tn_istore_n (L' := [(2, .int (iI v105)), (1, .int (iI v20)), (0, .ref a)]) dX5_assignment_75 rfl (by decide) rfl ?_
        refine tn_aload_n dX5_assignment_76 rfl 2 rfl ?_
        obtain ⟨x110, hx111, hk112⟩ : ∃ x : Nat, σ100.2.1 35 a = (x : Int) ∧ (T101 x).1 = 31 := wf_35 w106 ha
        have hk112o : OB T101 x110 1 := ⟨by omega, by rw [hk112]; rfl, by omega⟩
        refine tn_getR (ci := 5) (i := 2) (n := 35) (x := x110) dX5_assignment_77 rfl lay_5 (by decide) fl5_47 ha rfl rfl (hx111) ?_
        refine tn_bipush dX5_assignment_80 (by decide) ?_
        refine tn_iload_n dX5_assignment_82 rfl 1 rfl ?_
        refine tn_iconst dX5_assignment_83 ?_
        refine tn_callV (M := m_X5_assignment) (pc := 84) (ix := 139) (ci := 1) (M' := m_X1_append) (As := [.int (iI 12), .int (iI v20), .int (iI 0)]) (rest := []) dX5_assignment_84 ok_X1_append im_X1_append se_X1_append ml5_139 np_X1_append rfl rfl hk112o rfl (Nat.le_of_ble_eq_true rfl) (Nat.le_of_ble_eq_true rfl) rfl (k_X1_append (d + 48) (T := T101) (σ := σ100) (a := x110) (k := 12) (x := v20) (y := 0) hk112o hk112 (by decide) (by omega) (by decide) w106 (RP.cnt rp109 w106 ha (hx111) (by omega)) (by omega)) (fun r114 T116 σ115 gt117 hp => ?_)
        obtain ⟨rfl, w120, F121, f118⟩ := hp
        replace ha : OB T116 a 5 := gt117.ob ha
        have rp122 : RP σ115 a (kp - 4 * v46 - 7 * v105 + 1 + 1) := RP.app rp109 (hx111) F121 (by decide) (by decide) (by decide) (by decide) f118
        have rp123 : RP σ115 a (kp - 4 * v46 - 7 * v105 + 2) := RP.up rp122 (by omega)
        show Tn _ _ 87 T116 σ115 [(2, .int (iI v105)), (1, .int (iI v20)), (0, .ref a)] [] _
        refine tn_aload_n dX5_assignment_87 rfl 2 rfl ?_
        obtain ⟨x124, hx125, hk126⟩ : ∃ x : Nat, σ115.2.1 35 a = (x : Int) ∧ (T116 x).1 = 31 := wf_35 w120 ha
        have hk126o : OB T116 x124 1 := ⟨by omega, by rw [hk126]; rfl, by omega⟩
        refine tn_getR (ci := 5) (i := 2) (n := 35) (x := x124) dX5_assignment_88 rfl lay_5 (by decide) fl5_47 ha rfl rfl (hx125) ?_
        refine tn_aload_n dX5_assignment_91 rfl 2 rfl ?_
        refine tn_getR (ci := 5) (i := 2) (n := 35) (x := x124) dX5_assignment_92 rfl lay_5 (by decide) fl5_47 ha rfl rfl (hx125) ?_
        refine tn_getI (ci := 1) (i := 1) (n := 6) (t := σ115.2.1 6 x124) dX5_assignment_95 rfl lay_1 (by decide) fl5_146 hk126o rfl rfl (rfl) ?_
        have g128 : ((0 : Int) ≤ σ115.2.1 6 x124 ∧ σ115.2.1 6 x124 ≤ 5000) ∧ ((T116 x124).1 = 50 → σ115.2.1 6 x124 ≤ 200) := wf_6 w120 hk126o
        have g128x := g128.2
        replace g128 := g128.1
        clear g128x
        refine tn_iconst dX5_assignment_98 ?_
        refine tn_isub dX5_assignment_99 ?_
        refine tn_iconst dX5_assignment_100 ?_
        refine tn_iload_n dX5_assignment_101 rfl 1 rfl ?_
        refine tn_callV (M := m_X5_assignment) (pc := 102) (ix := 210) (ci := 1) (M' := m_X1_setWhere) (As := [.int (iI ((σ115.2.1 6 x124) - 1)), .int (iI 2), .int (iI v20)]) (rest := []) dX5_assignment_102 ok_X1_setWhere im_X1_setWhere se_X1_setWhere ml5_210 np_X1_setWhere rfl rfl hk126o rfl (Nat.le_of_ble_eq_true rfl) (Nat.le_of_ble_eq_true rfl) rfl (k_X1_setWhere (d + 49) (T := T116) (σ := σ115) (a := x124) (k := (σ115.2.1 6 x124) - 1) (y := 2) (z := v20) hk126o (by omega) (by decide) (by omega) w120 ) (fun r129 T131 σ130 gt132 hp => ?_)
        obtain ⟨rfl, rfl, w134, F135⟩ := hp
        clear gt132
        have rp136 : RP σ130 a (kp - 4 * v46 - 7 * v105 + 2) := RP.frc rp123 F135 (by decide) (by decide) (by decide) (by decide) (by decide)
        show Tn _ _ 105 T116 σ130 [(2, .int (iI v105)), (1, .int (iI v20)), (0, .ref a)] [] _
        refine tn_iload_n dX5_assignment_105 rfl 0 rfl ?_
        exact tn_zret (v := v105) rfl (by omega) dX5_assignment_106 ⟨_, rfl, w134, (((((((FrC.rfl.trans (FrC.sub F13 (by decide))).trans (FrC.sub (FrC.old F22 gt9) (by decide))).trans (FrC.sub (FrC.old F38 gt9) (by decide))).trans (FrC.sub (FrC.old F48 gt9) (by decide))).trans (FrC.sub (FrC.old F107 gt9) (by decide))).trans (FrC.sub (FrC.old F121 (GT.trans gt9 gt102)) (by decide))).trans (FrC.sub (FrC.old F135 (GT.trans (GT.trans gt9 gt102) gt117)) (by decide))), by omega, (RP.up rp136 (by omega))⟩
      · refine tn_aload_n dX5_assignment_62 rfl 1 rfl ?_
        refine tn_iload_n dX5_assignment_63 rfl 0 rfl ?_
        refine tn_callV (M := m_X5_assignment) (pc := 64) (ix := 204) (ci := 5) (M' := m_X5_call) (As := [.int (iI v20)]) (rest := []) dX5_assignment_64 ok_X5_call im_X5_call se_X5_call ml5_204 np_X5_call rfl rfl ha rfl (Nat.le_of_ble_eq_true rfl) (Nat.le_of_ble_eq_true rfl) rfl (k_X5_call (d) (T := T8) (σ := σ41) (a := a) (r := v20) (kp := kp - 4 * v46 + 1) ha (by omega) w47 (by omega) rp50) (fun r137 T139 σ138 gt140 hp => ?_)
        obtain ⟨v143, rfl, w144, F145, f141, f142⟩ := hp
        replace ha : OB T139 a 5 := gt140.ob ha
        have rp147 : RP σ138 a (kp - 4 * v46 - 7 * v143 + 1) := RP.up f142 (by omega)
        show Tn _ _ 67 T139 σ138 [(1, .int (iI v20)), (0, .ref a)] [.int (iI v143)] _
        refine tn_goto (tgt := 75) dX5_assignment_67 (by decide) ?_
        refine tn_istore_n (L' := [(2, .int (iI v143)), (1, .int (iI v20)), (0, .ref a)]) dX5_assignment_75 rfl (by decide) rfl ?_
        refine tn_aload_n dX5_assignment_76 rfl 2 rfl ?_
        obtain ⟨x148, hx149, hk150⟩ : ∃ x : Nat, σ138.2.1 35 a = (x : Int) ∧ (T139 x).1 = 31 := wf_35 w144 ha
        have hk150o : OB T139 x148 1 := ⟨by omega, by rw [hk150]; rfl, by omega⟩
        refine tn_getR (ci := 5) (i := 2) (n := 35) (x := x148) dX5_assignment_77 rfl lay_5 (by decide) fl5_47 ha rfl rfl (hx149) ?_
        refine tn_bipush dX5_assignment_80 (by decide) ?_
        refine tn_iload_n dX5_assignment_82 rfl 1 rfl ?_
        refine tn_iconst dX5_assignment_83 ?_
        refine tn_callV (M := m_X5_assignment) (pc := 84) (ix := 139) (ci := 1) (M' := m_X1_append) (As := [.int (iI 12), .int (iI v20), .int (iI 0)]) (rest := []) dX5_assignment_84 ok_X1_append im_X1_append se_X1_append ml5_139 np_X1_append rfl rfl hk150o rfl (Nat.le_of_ble_eq_true rfl) (Nat.le_of_ble_eq_true rfl) rfl (k_X1_append (d + 48) (T := T139) (σ := σ138) (a := x148) (k := 12) (x := v20) (y := 0) hk150o hk150 (by decide) (by omega) (by decide) w144 (RP.cnt rp147 w144 ha (hx149) (by omega)) (by omega)) (fun r152 T154 σ153 gt155 hp => ?_)
        obtain ⟨rfl, w158, F159, f156⟩ := hp
        replace ha : OB T154 a 5 := gt155.ob ha
        have rp160 : RP σ153 a (kp - 4 * v46 - 7 * v143 + 1 + 1) := RP.app rp147 (hx149) F159 (by decide) (by decide) (by decide) (by decide) f156
        have rp161 : RP σ153 a (kp - 4 * v46 - 7 * v143 + 2) := RP.up rp160 (by omega)
        show Tn _ _ 87 T154 σ153 [(2, .int (iI v143)), (1, .int (iI v20)), (0, .ref a)] [] _
        refine tn_aload_n dX5_assignment_87 rfl 2 rfl ?_
        obtain ⟨x162, hx163, hk164⟩ : ∃ x : Nat, σ153.2.1 35 a = (x : Int) ∧ (T154 x).1 = 31 := wf_35 w158 ha
        have hk164o : OB T154 x162 1 := ⟨by omega, by rw [hk164]; rfl, by omega⟩
        refine tn_getR (ci := 5) (i := 2) (n := 35) (x := x162) dX5_assignment_88 rfl lay_5 (by decide) fl5_47 ha rfl rfl (hx163) ?_
        refine tn_aload_n dX5_assignment_91 rfl 2 rfl ?_
        refine tn_getR (ci := 5) (i := 2) (n := 35) (x := x162) dX5_assignment_92 rfl lay_5 (by decide) fl5_47 ha rfl rfl (hx163) ?_
        refine tn_getI (ci := 1) (i := 1) (n := 6) (t := σ153.2.1 6 x162) dX5_assignment_95 rfl lay_1 (by decide) fl5_146 hk164o rfl rfl (rfl) ?_
        have g166 : ((0 : Int) ≤ σ153.2.1 6 x162 ∧ σ153.2.1 6 x162 ≤ 5000) ∧ ((T154 x162).1 = 50 → σ153.2.1 6 x162 ≤ 200) := wf_6 w158 hk164o
        have g166x := g166.2
        replace g166 := g166.1
        clear g166x
        refine tn_iconst dX5_assignment_98 ?_
        refine tn_isub dX5_assignment_99 ?_
        refine tn_iconst dX5_assignment_100 ?_
        refine tn_iload_n dX5_assignment_101 rfl 1 rfl ?_
        refine tn_callV (M := m_X5_assignment) (pc := 102) (ix := 210) (ci := 1) (M' := m_X1_setWhere) (As := [.int (iI ((σ153.2.1 6 x162) - 1)), .int (iI 2), .int (iI v20)]) (rest := []) dX5_assignment_102 ok_X1_setWhere im_X1_setWhere se_X1_setWhere ml5_210 np_X1_setWhere rfl rfl hk164o rfl (Nat.le_of_ble_eq_true rfl) (Nat.le_of_ble_eq_true rfl) rfl (k_X1_setWhere (d + 49) (T := T154) (σ := σ153) (a := x162) (k := (σ153.2.1 6 x162) - 1) (y := 2) (z := v20) hk164o (by omega) (by decide) (by omega) w158 ) (fun r167 T169 σ168 gt170 hp => ?_)
        obtain ⟨rfl, rfl, w172, F173⟩ := hp
        clear gt170
        have rp174 : RP σ168 a (kp - 4 * v46 - 7 * v143 + 2) := RP.frc rp161 F173 (by decide) (by decide) (by decide) (by decide) (by decide)
        show Tn _ _ 105 T154 σ168 [(2, .int (iI v143)), (1, .int (iI v20)), (0, .ref a)] [] _
        refine tn_iload_n dX5_assignment_105 rfl 0 rfl ?_
        exact tn_zret (v := v143) rfl (by omega) dX5_assignment_106 ⟨_, rfl, w172, (((((((FrC.rfl.trans (FrC.sub F13 (by decide))).trans (FrC.sub (FrC.old F22 gt9) (by decide))).trans (FrC.sub (FrC.old F38 gt9) (by decide))).trans (FrC.sub (FrC.old F48 gt9) (by decide))).trans (FrC.sub (FrC.old F145 gt9) (by decide))).trans (FrC.sub (FrC.old F159 (GT.trans gt9 gt140)) (by decide))).trans (FrC.sub (FrC.old F173 (GT.trans (GT.trans gt9 gt140) gt155)) (by decide))), by omega, (RP.up rp174 (by omega))⟩
  · refine tn_iconst dX5_assignment_35 ?_
    exact tn_zret (v := 0) rfl (by decide) dX5_assignment_36 ⟨_, rfl, w47, ((((FrC.rfl.trans (FrC.sub F13 (by decide))).trans (FrC.sub (FrC.old F22 gt9) (by decide))).trans (FrC.sub (FrC.old F38 gt9) (by decide))).trans (FrC.sub (FrC.old F48 gt9) (by decide))), by omega, (RP.up rp50 (by omega))⟩
