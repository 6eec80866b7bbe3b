theorem cd_X5_ring : Cond.code yX5_ring cX5_ring 4 (some .boolean) ∈ pWW := pw3 (List.mem_of_getElem? (i := 225) rfl) rfl
abbrev m_X5_ring : MT := (yX5_ring, cX5_ring, 4, (some .boolean))
theorem ok_X5_ring : pOk m_X5_ring := ⟨⟨cd_X5_ring, ini_5⟩, by decide +kernel, ⟨by decide +kernel, by decide +kernel⟩, Nat.le_of_ble_eq_true rfl⟩
theorem np_X5_ring : (parseMethodDescriptor yX5_ring.desc).map (fun d => d.parameters.length) = some 1 := by decide +kernel
theorem im_X5_ring : Cond.instanceMethod yX5_ring ∈ pWW := pw3 (List.mem_of_getElem? (i := 224) rfl) rfl
theorem se_X5_ring : Cond.selects RX5 yX5_ring yX5_ring ∈ pWW := pws (List.mem_map.mpr ⟨_, lw_pin 30 rfl, rfl⟩) rfl
theorem dX5_ring_0 : decode cX5_ring 0 = .ok (.aload_n 0, 1) := by decide +kernel
theorem dX5_ring_1 : decode cX5_ring 1 = .ok (.invokevirtual 238, 3) := by decide +kernel
theorem dX5_ring_4 : decode cX5_ring 4 = .ok (.istore_n 2, 1) := by decide +kernel
theorem dX5_ring_5 : decode cX5_ring 5 = .ok (.aload_n 0, 1) := by decide +kernel
theorem dX5_ring_6 : decode cX5_ring 6 = .ok (.getfield 47, 3) := by decide +kernel
theorem dX5_ring_9 : decode cX5_ring 9 = .ok (.bipush 13, 2) := by decide +kernel
theorem dX5_ring_11 : decode cX5_ring 11 = .ok (.iload_n 2, 1) := by decide +kernel
theorem dX5_ring_12 : decode cX5_ring 12 = .ok (.iconst 0, 1) := by decide +kernel
theorem dX5_ring_13 : decode cX5_ring 13 = .ok (.invokevirtual 139, 3) := by decide +kernel
theorem dX5_ring_16 : decode cX5_ring 16 = .ok (.aload_n 0, 1) := by decide +kernel
theorem dX5_ring_17 : decode cX5_ring 17 = .ok (.getfield 47, 3) := by decide +kernel
theorem dX5_ring_20 : decode cX5_ring 20 = .ok (.bipush 11, 2) := by decide +kernel
theorem dX5_ring_22 : decode cX5_ring 22 = .ok (.aload_n 0, 1) := by decide +kernel
theorem dX5_ring_23 : decode cX5_ring 23 = .ok (.getfield 64, 3) := by decide +kernel
theorem dX5_ring_26 : decode cX5_ring 26 = .ok (.iconst 0, 1) := by decide +kernel
theorem dX5_ring_27 : decode cX5_ring 27 = .ok (.invokevirtual 139, 3) := by decide +kernel
theorem dX5_ring_30 : decode cX5_ring 30 = .ok (.aload_n 0, 1) := by decide +kernel
theorem dX5_ring_31 : decode cX5_ring 31 = .ok (.getfield 12, 3) := by decide +kernel
theorem dX5_ring_34 : decode cX5_ring 34 = .ok (.invokevirtual 93, 3) := by decide +kernel
theorem dX5_ring_37 : decode cX5_ring 37 = .ok (.aload_n 0, 1) := by decide +kernel
theorem dX5_ring_38 : decode cX5_ring 38 = .ok (.iconst 1, 1) := by decide +kernel
theorem dX5_ring_39 : decode cX5_ring 39 = .ok (.invokevirtual 213, 3) := by decide +kernel
theorem dX5_ring_42 : decode cX5_ring 42 = .ok (.ifCond .ne 5, 3) := by decide +kernel
theorem dX5_ring_47 : decode cX5_ring 47 = .ok (.aload_n 0, 1) := by decide +kernel
theorem dX5_ring_48 : decode cX5_ring 48 = .ok (.invokevirtual 235, 3) := by decide +kernel
theorem dX5_ring_51 : decode cX5_ring 51 = .ok (.istore_n 3, 1) := by decide +kernel
theorem dX5_ring_52 : decode cX5_ring 52 = .ok (.aload_n 0, 1) := by decide +kernel
theorem dX5_ring_53 : decode cX5_ring 53 = .ok (.iload_n 1, 1) := by decide +kernel
theorem dX5_ring_54 : decode cX5_ring 54 = .ok (.iconst 1, 1) := by decide +kernel
theorem dX5_ring_55 : decode cX5_ring 55 = .ok (.iadd, 1) := by decide +kernel
theorem dX5_ring_56 : decode cX5_ring 56 = .ok (.invokevirtual 79, 3) := by decide +kernel
theorem dX5_ring_59 : decode cX5_ring 59 = .ok (.ifCond .ne 5, 3) := by decide +kernel
theorem dX5_ring_64 : decode cX5_ring 64 = .ok (.aload_n 0, 1) := by decide +kernel
theorem dX5_ring_65 : decode cX5_ring 65 = .ok (.getfield 47, 3) := by decide +kernel
theorem dX5_ring_68 : decode cX5_ring 68 = .ok (.bipush 8, 2) := by decide +kernel
theorem dX5_ring_70 : decode cX5_ring 70 = .ok (.iload_n 2, 1) := by decide +kernel
theorem dX5_ring_71 : decode cX5_ring 71 = .ok (.iconst 0, 1) := by decide +kernel
theorem dX5_ring_72 : decode cX5_ring 72 = .ok (.invokevirtual 139, 3) := by decide +kernel
theorem dX5_ring_75 : decode cX5_ring 75 = .ok (.aload_n 0, 1) := by decide +kernel
theorem dX5_ring_76 : decode cX5_ring 76 = .ok (.getfield 47, 3) := by decide +kernel
theorem dX5_ring_79 : decode cX5_ring 79 = .ok (.bipush 13, 2) := by decide +kernel
theorem dX5_ring_81 : decode cX5_ring 81 = .ok (.iload_n 3, 1) := by decide +kernel
theorem dX5_ring_82 : decode cX5_ring 82 = .ok (.iconst 0, 1) := by decide +kernel
theorem dX5_ring_83 : decode cX5_ring 83 = .ok (.invokevirtual 139, 3) := by decide +kernel
theorem dX5_ring_86 : decode cX5_ring 86 = .ok (.iconst 1, 1) := by decide +kernel
theorem dX5_ring_87 : decode cX5_ring 87 = .ok (.ireturn, 1) := by decide +kernel
theorem dX5_ring_62 : decode cX5_ring 62 = .ok (.iconst 0, 1) := by decide +kernel
theorem dX5_ring_63 : decode cX5_ring 63 = .ok (.ireturn, 1) := by decide +kernel
theorem dX5_ring_45 : decode cX5_ring 45 = .ok (.iconst 0, 1) := by decide +kernel
theorem dX5_ring_46 : decode cX5_ring 46 = .ok (.ireturn, 1) := by decide +kernel
set_option maxRecDepth 20000 in
theorem k_X5_ring (d : Nat) {T : CT} {σ : MS} {a : Nat} {dp : Int} {kp : Int} {lv : Nat} (ha : OB T a 5) (h_dp : -2147483648 ≤ dp ∧ dp ≤ 2147483647) (hw : WT T σ) (hex : ∀ (d : Nat) {T : CT} {σ : MS} {a : Nat} {dp : Int} {kp : Int} (ha : OB T a 5) (h_dp : -2147483648 ≤ dp ∧ dp ≤ 2147483647) (hw : WT T σ) (hdp : 0 ≤ dp ∧ dp ≤ 7) (hlv : 7 ≤ dp + (lv : Int)) (hkp : kp ≤ 140) (hrp : RP σ a kp), Tn (d + 3 * lv + 60) m_X5_block 0 T σ [(0, .ref a), (1, .int (iI dp))] [] (fun ro T2 σ2 => ∃ v : Int, ro = some (.int (iI v)) ∧ WT T2 σ2 ∧ FrC T [5, 6, 7, 9, 42, 43, 44, 45, 46, 47, 50, 51, 84, 85, 86, 87, 518, 519, 520, 521] σ σ2 ∧ (v = 0 ∨ v = 1) ∧ (RP σ2 a (kp + 2 - 10 * v)))) (hdp : 0 ≤ dp ∧ dp ≤ 6) (hlv : 6 ≤ dp + (lv : Int)) (hkp : kp ≤ 140) (hrp : RP σ a kp) : Tn (d + 3 * lv + 61) m_X5_ring 0 T σ [(0, .ref a), (1, .int (iI dp))] [] (fun ro T2 σ2 => ∃ v : Int, ro = some (.int (iI v)) ∧ WT T2 σ2 ∧ FrC T [5, 6, 7, 9, 42, 43, 44, 45, 46, 47, 50, 51, 84, 85, 86, 87, 518, 519, 520, 521] σ σ2 ∧ (v = 0 ∨ v = 1) ∧ (RP σ2 a (kp + 2 - 9 * v))) := by
  refine tn_aload_n dX5_ring_0 rfl 0 rfl ?_
  refine tn_callV (M := m_X5_ring) (pc := 1) (ix := 238) (ci := 5) (M' := m_X5_newLabel) (As := []) (rest := []) dX5_ring_1 ok_X5_newLabel im_X5_newLabel se_X5_newLabel ml5_238 np_X5_newLabel rfl rfl ha rfl (Nat.le_of_ble_eq_true rfl) (Nat.le_of_ble_eq_true rfl) rfl (k_X5_newLabel (d + 3 * lv + 59) (T := T) (σ := σ) (a := a) ha hw ) (fun r1 T3 σ2 gt4 hp => ?_)
  obtain ⟨v6, rfl, rfl, w7, F8, f5⟩ := hp
  clear gt4
  have rp9 : RP σ2 a (kp) := RP.frc hrp F8 (by decide) (by decide) (by decide) (by decide) (by decide)
  show Tn _ _ 4 T σ2 [(0, .ref a), (1, .int (iI dp))] [.int (iI v6)] _
  refine tn_istore_n (L' := [(2, .int (iI v6)), (0, .ref a), (1, .int (iI dp))]) dX5_ring_4 rfl (by decide) rfl ?_
  refine tn_aload_n dX5_ring_5 rfl 1 rfl ?_
  obtain ⟨x10, hx11, hk12⟩ : ∃ x : Nat, σ.2.1 35 a = (x : Int) ∧ (T x).1 = 31 := wf_35 hw ha
  have hk12o : OB T x10 1 := ⟨by omega, by rw [hk12]; rfl, by omega⟩
  refine tn_getR (ci := 5) (i := 2) (n := 35) (x := x10) dX5_ring_6 rfl lay_5 (by decide) fl5_47 ha rfl rfl (rc_F F8 (Or.inl (by decide)) (by decide) (hx11)) ?_
  refine tn_bipush dX5_ring_9 (by decide) ?_
  refine tn_iload_n dX5_ring_11 rfl 0 rfl ?_
  refine tn_iconst dX5_ring_12 ?_
  have q18 : σ2.2.1 6 x10 = σ.2.1 6 x10 := rc_F F8 (Or.inl (by decide)) (by decide) (rfl)
  refine tn_callV (M := m_X5_ring) (pc := 13) (ix := 139) (ci := 1) (M' := m_X1_append) (As := [.int (iI 13), .int (iI v6), .int (iI 0)]) (rest := []) dX5_ring_13 ok_X1_append im_X1_append se_X1_append ml5_139 np_X1_append rfl rfl hk12o rfl (Nat.le_of_ble_eq_true rfl) (Nat.le_of_ble_eq_true rfl) rfl (k_X1_append (d + 3 * lv + 57) (T := T) (σ := σ2) (a := x10) (k := 13) (x := v6) (y := 0) hk12o hk12 (by decide) (by omega) (by decide) w7 (RP.cnt rp9 w7 ha (rc_F F8 (Or.inl (by decide)) (by decide) (hx11)) (by omega)) (by omega)) (fun r14 T16 σ15 gt17 hp => ?_)
  obtain ⟨rfl, w21, F22, f19⟩ := hp
  replace ha : OB T16 a 5 := gt17.ob ha
  have rp23 : RP σ15 a (kp + 1) := RP.app rp9 (rc_F F8 (Or.inl (by decide)) (by decide) (hx11)) F22 (by decide) (by decide) (by decide) (by decide) f19
  show Tn _ _ 16 T16 σ15 [(2, .int (iI v6)), (0, .ref a), (1, .int (iI dp))] [] _
  refine tn_aload_n dX5_ring_16 rfl 1 rfl ?_
  obtain ⟨x24, hx25, hk26⟩ : ∃ x : Nat, σ15.2.1 35 a = (x : Int) ∧ (T16 x).1 = 31 := wf_35 w21 ha
  have hk26o : OB T16 x24 1 := ⟨by omega, by rw [hk26]; rfl, by omega⟩
  refine tn_getR (ci := 5) (i := 2) (n := 35) (x := x24) dX5_ring_17 rfl lay_5 (by decide) fl5_47 ha rfl rfl (hx25) ?_
  refine tn_bipush dX5_ring_20 (by decide) ?_
  refine tn_aload_n dX5_ring_22 rfl 1 rfl ?_
  refine tn_getI (ci := 5) (i := 12) (n := 45) (t := σ15.2.1 45 a) dX5_ring_23 rfl lay_5 (by decide) fl5_64 ha rfl rfl (rfl) ?_
  have g28 : ((-2147483648 : Int) ≤ σ15.2.1 45 a ∧ σ15.2.1 45 a ≤ 2147483647) := wf_45 w21 ha
  refine tn_iconst dX5_ring_26 ?_
  refine tn_callV (M := m_X5_ring) (pc := 27) (ix := 139) (ci := 1) (M' := m_X1_append) (As := [.int (iI 11), .int (iI (σ15.2.1 45 a)), .int (iI 0)]) (rest := []) dX5_ring_27 ok_X1_append im_X1_append se_X1_append ml5_139 np_X1_append rfl rfl hk26o rfl (Nat.le_of_ble_eq_true rfl) (Nat.le_of_ble_eq_true rfl) rfl (k_X1_append (d + 3 * lv + 57) (T := T16) (σ := σ15) (a := x24) (k := 11) (x := σ15.2.1 45 a) (y := 0) hk26o hk26 (by decide) (by omega) (by decide) w21 (RP.cnt rp23 w21 ha (hx25) (by omega)) (by omega)) (fun r29 T31 σ30 gt32 hp => ?_)
  obtain ⟨rfl, w35, F36, f33⟩ := hp
  replace ha : OB T31 a 5 := gt32.ob ha
  have rp37 : RP σ30 a (kp + 1 + 1) := RP.app rp23 (hx25) F36 (by decide) (by decide) (by decide) (by decide) f33
  have rp38 : RP σ30 a (kp + 2) := RP.up rp37 (by omega)
  show Tn _ _ 30 T31 σ30 [(2, .int (iI v6)), (0, .ref a), (1, .int (iI dp))] [] _
  refine tn_aload_n dX5_ring_30 rfl 1 rfl ?_
  obtain ⟨x39, hx40, hk41⟩ : ∃ x : Nat, σ30.2.1 33 a = (x : Int) ∧ (T31 x).1 = 39 := wf_33 w35 ha
  have hk41o : OB T31 x39 9 := ⟨by omega, by rw [hk41]; rfl, by omega⟩
  refine tn_getR (ci := 5) (i := 0) (n := 33) (x := x39) dX5_ring_31 rfl lay_5 (by decide) fl5_12 ha rfl rfl (hx40) ?_
  refine tn_callV (M := m_X5_ring) (pc := 34) (ix := 93) (ci := 9) (M' := m_X9_next) (As := []) (rest := []) dX5_ring_34 ok_X9_next im_X9_next se_X9_next ml5_93 np_X9_next rfl rfl hk41o rfl (Nat.le_of_ble_eq_true rfl) (Nat.le_of_ble_eq_true rfl) rfl (k_X9_next (d + 3 * lv + 59) (T := T31) (σ := σ30) (a := x39) hk41o w35 (RP.tk rp38 w35 ha (hx40))) (fun r43 T45 σ44 gt46 hp => ?_)
  obtain ⟨rfl, rfl, w51, F52, f47, f48, f49⟩ := hp
  clear gt46
  have rp53 : RP σ44 a (kp + 2) := RP.next rp38 (hx40) F52 (by decide) (by decide) (by decide) f47 f48
  show Tn _ _ 37 T31 σ44 [(2, .int (iI v6)), (0, .ref a), (1, .int (iI dp))] [] _
  refine tn_aload_n dX5_ring_37 rfl 1 rfl ?_
  refine tn_iconst dX5_ring_38 ?_
  refine tn_callV (M := m_X5_ring) (pc := 39) (ix := 213) (ci := 5) (M' := m_X5_expression) (As := [.int (iI 1)]) (rest := []) dX5_ring_39 ok_X5_expression im_X5_expression se_X5_expression ml5_213 np_X5_expression rfl rfl ha rfl (Nat.le_of_ble_eq_true rfl) (Nat.le_of_ble_eq_true rfl) rfl (k_X5_expression (d + 3 * lv + 10) (T := T31) (σ := σ44) (a := a) (dp := 1) (kp := kp + 2) ha (by decide) w51 (by omega) (by omega) rp53) (fun r54 T56 σ55 gt57 hp => ?_)
  obtain ⟨v60, rfl, w61, F62, f58, f59⟩ := hp
  replace ha : OB T56 a 5 := gt57.ob ha
  have rp64 : RP σ55 a (kp - 4 * v60 + 2) := RP.up f59 (by omega)
  show Tn _ _ 42 T56 σ55 [(2, .int (iI v6)), (0, .ref a), (1, .int (iI dp))] [.int (iI v60)] _
  refine tn_if_ne (tgt := 47) dX5_ring_42 (by decide) ⟨by omega, by omega⟩ (fun h65 => ?_) (fun h65 => ?_)
  · refine tn_aload_n dX5_ring_47 rfl 1 rfl ?_
    refine tn_callV (M := m_X5_ring) (pc := 48) (ix := 235) (ci := 5) (M' := m_X5_zeroToNew) (As := []) (rest := []) dX5_ring_48 ok_X5_zeroToNew im_X5_zeroToNew se_X5_zeroToNew ml5_235 np_X5_zeroToNew rfl rfl ha rfl (Nat.le_of_ble_eq_true rfl) (Nat.le_of_ble_eq_true rfl) rfl (k_X5_zeroToNew (d + 3 * lv + 56) (T := T56) (σ := σ55) (a := a) (kp := kp - 4 * v60 + 2) ha w61 (by omega) rp64) (fun r66 T68 σ67 gt69 hp => ?_)
    obtain ⟨v72, rfl, w73, F74, f70, f71⟩ := hp
    replace ha : OB T68 a 5 := gt69.ob ha
    have rp76 : RP σ67 a (kp - 4 * v60 + 3) := RP.up f71 (by omega)
    show Tn _ _ 51 T68 σ67 [(2, .int (iI v6)), (0, .ref a), (1, .int (iI dp))] [.int (iI v72)] _
    refine tn_istore_n (L' := [(3, .int (iI v72)), (2, .int (iI v6)), (0, .ref a), (1, .int (iI dp))]) dX5_ring_51 rfl (by decide) rfl ?_
    refine tn_aload_n dX5_ring_52 rfl 2 rfl ?_
    refine tn_iload_n dX5_ring_53 rfl 3 rfl ?_
    refine tn_iconst dX5_ring_54 ?_
    refine tn_iadd dX5_ring_55 ?_
    refine tn_callV (M := m_X5_ring) (pc := 56) (ix := 79) (ci := 5) (M' := m_X5_block) (As := [.int (iI (dp + 1))]) (rest := []) dX5_ring_56 ok_X5_block im_X5_block se_X5_block ml5_79 np_X5_block rfl rfl ha rfl (Nat.le_of_ble_eq_true rfl) (Nat.le_of_ble_eq_true rfl) rfl (hex (d) (T := T68) (σ := σ67) (a := a) (dp := dp + 1) (kp := kp - 4 * v60 + 3) ha (by omega) w73 (by omega) (by omega) (by omega) rp76) (fun r77 T79 σ78 gt80 hp => ?_)
    obtain ⟨v83, rfl, w84, F85, f81, f82⟩ := hp
    replace ha : OB T79 a 5 := gt80.ob ha
    have rp87 : RP σ78 a (kp - 4 * v60 - 10 * v83 + 5) := RP.up f82 (by omega)
    show Tn _ _ 59 T79 σ78 [(3, .int (iI v72)), (2, .int (iI v6)), (0, .ref a), (1, .int (iI dp))] [.int (iI v83)] _
    refine tn_if_ne (tgt := 64) dX5_ring_59 (by decide) ⟨by omega, by omega⟩ (fun h88 => ?_) (fun h88 => ?_)
    · refine tn_aload_n dX5_ring_64 rfl 2 rfl ?_
      obtain ⟨x89, hx90, hk91⟩ : ∃ x : Nat, σ78.2.1 35 a = (x : Int) ∧ (T79 x).1 = 31 := wf_35 w84 ha
      have hk91o : OB T79 x89 1 := ⟨by omega, by rw [hk91]; rfl, by omega⟩
      refine tn_getR (ci := 5) (i := 2) (n := 35) (x := x89) dX5_ring_65 rfl lay_5 (by decide) fl5_47 ha rfl rfl (hx90) ?_
      refine tn_bipush dX5_ring_68 (by decide) ?_
      refine tn_iload_n dX5_ring_70 rfl 1 rfl ?_
      refine tn_iconst dX5_ring_71 ?_
      refine tn_callV (M := m_X5_ring) (pc := 72) (ix := 139) (ci := 1) (M' := m_X1_append) (As := [.int (iI 8), .int (iI v6), .int (iI 0)]) (rest := []) dX5_ring_72 ok_X1_append im_X1_append se_X1_append ml5_139 np_X1_append rfl rfl hk91o rfl (Nat.le_of_ble_eq_true rfl) (Nat.le_of_ble_eq_true rfl) rfl (k_X1_append (d + 3 * lv + 57) (T := T79) (σ := σ78) (a := x89) (k := 8) (x := v6) (y := 0) hk91o hk91 (by decide) (by omega) (by decide) w84 (RP.cnt rp87 w84 ha (hx90) (by omega)) (by omega)) (fun r93 T95 σ94 gt96 hp => ?_)
      obtain ⟨rfl, w99, F100, f97⟩ := hp
      replace ha : OB T95 a 5 := gt96.ob ha
      have rp101 : RP σ94 a (kp - 4 * v60 - 10 * v83 + 5 + 1) := RP.app rp87 (hx90) F100 (by decide) (by decide) (by decide) (by decide) f97
      have rp102 : RP σ94 a (kp - 4 * v60 - 10 * v83 + 6) := RP.up rp101 (by omega)
      show Tn _ _ 75 T95 σ94 [(3, .int (iI v72)), (2, .int (iI v6)), (0, .ref a), (1, .int (iI dp))] [] _
      refine tn_aload_n dX5_ring_75 rfl 2 rfl ?_
      obtain ⟨x103, hx104, hk105⟩ : ∃ x : Nat, σ94.2.1 35 a = (x : Int) ∧ (T95 x).1 = 31 := wf_35 w99 ha
      have hk105o : OB T95 x103 1 := ⟨by omega, by rw [hk105]; rfl, by omega⟩
      refine tn_getR (ci := 5) (i := 2) (n := 35) (x := x103) dX5_ring_76 rfl lay_5 (by decide) fl5_47 ha rfl rfl (hx104) ?_
      refine tn_bipush dX5_ring_79 (by decide) ?_
      refine tn_iload_n dX5_ring_81 rfl 0 rfl ?_
      refine tn_iconst dX5_ring_82 ?_
      refine tn_callV (M := m_X5_ring) (pc := 83) (ix := 139) (ci := 1) (M' := m_X1_append) (As := [.int (iI 13), .int (iI v72), .int (iI 0)]) (rest := []) dX5_ring_83 ok_X1_append im_X1_append se_X1_append ml5_139 np_X1_append rfl rfl hk105o rfl (Nat.le_of_ble_eq_true rfl) (Nat.le_of_ble_eq_true rfl) rfl (k_X1_append (d + 3 * lv + 57) (T := T95) (σ := σ94) (a := x103) (k := 13) (x := v72) (y := 0) hk105o hk105 (by decide) (by omega) (by decide) w99 (RP.cnt rp102 w99 ha (hx104) (by omega)) (by omega)) (fun r107 T109 σ108 gt110 hp => ?_)
      obtain ⟨rfl, w113, F114, f111⟩ := hp
      replace ha : OB T109 a 5 := gt110.ob ha
      have rp115 : RP σ108 a (kp - 4 * v60 - 10 * v83 + 6 + 1) := RP.app rp102 (hx104) F114 (by decide) (by decide) (by decide) (by decide) f111
      have rp116 : RP σ108 a (kp - 4 * v60 - 10 * v83 + 7) := RP.up rp115 (by omega)
      show Tn _ _ 86 T109 σ108 [(3, .int (iI v72)), (2, .int (iI v6)), (0, .ref a), (1, .int (iI dp))] [] _
      refine tn_iconst dX5_ring_86 ?_
      exact tn_zret (v := 1) rfl (by decide) dX5_ring_87 ⟨_, rfl, w113, (((((((((FrC.rfl.trans (FrC.sub F8 (by decide))).trans (FrC.sub F22 (by decide))).trans (FrC.sub (FrC.old F36 gt17) (by decide))).trans (FrC.sub (FrC.old F52 (GT.trans gt17 gt32)) (by decide))).trans (FrC.sub (FrC.old F62 (GT.trans gt17 gt32)) (by decide))).trans (FrC.sub (FrC.old F74 (GT.trans (GT.trans gt17 gt32) gt57)) (by decide))).trans (FrC.sub (FrC.old F85 (GT.trans (GT.trans (GT.trans gt17 gt32) gt57) gt69)) (by decide))).trans (FrC.sub (FrC.old F100 (GT.trans (GT.trans (GT.trans (GT.trans gt17 gt32) gt57) gt69) gt80)) (by decide))).trans (FrC.sub (FrC.old F114 (GT.trans (GT.trans (GT.trans (GT.trans (GT.trans gt17 gt32) gt57) gt69) gt80) gt96)) (by decide))), by omega, (RP.up rp116 (by omega))⟩
    · refine tn_iconst dX5_ring_62 ?_
      exact tn_zret (v := 0) rfl (by decide) dX5_ring_63 ⟨_, rfl, w84, (((((((FrC.rfl.trans (FrC.sub F8 (by decide))).trans (FrC.sub F22 (by decide))).trans (FrC.sub (FrC.old F36 gt17) (by decide))).trans (FrC.sub (FrC.old F52 (GT.trans gt17 gt32)) (by decide))).trans (FrC.sub (FrC.old F62 (GT.trans gt17 gt32)) (by decide))).trans (FrC.sub (FrC.old F74 (GT.trans (GT.trans gt17 gt32) gt57)) (by decide))).trans (FrC.sub (FrC.old F85 (GT.trans (GT.trans (GT.trans gt17 gt32) gt57) gt69)) (by decide))), by omega, (RP.up rp87 (by omega))⟩
  · refine tn_iconst dX5_ring_45 ?_
    exact tn_zret (v := 0) rfl (by decide) dX5_ring_46 ⟨_, rfl, w61, (((((FrC.rfl.trans (FrC.sub F8 (by decide))).trans (FrC.sub F22 (by decide))).trans (FrC.sub (FrC.old F36 gt17) (by decide))).trans (FrC.sub (FrC.old F52 (GT.trans gt17 gt32)) (by decide))).trans (FrC.sub (FrC.old F62 (GT.trans gt17 gt32)) (by decide))), by omega, (RP.up rp64 (by omega))⟩
