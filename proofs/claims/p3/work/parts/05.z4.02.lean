theorem cd_X5_openRoutine : Cond.code yX5_openRoutine cX5_openRoutine 3 none ∈ pWW := pw3 (List.mem_of_getElem? (i := 72) rfl) rfl
abbrev m_X5_openRoutine : MT := (yX5_openRoutine, cX5_openRoutine, 3, none)
theorem ok_X5_openRoutine : pOk m_X5_openRoutine := ⟨⟨cd_X5_openRoutine, ini_5⟩, by decide +kernel, ⟨by decide +kernel, by decide +kernel⟩, Nat.le_of_ble_eq_true rfl⟩
theorem np_X5_openRoutine : (parseMethodDescriptor yX5_openRoutine.desc).map (fun d => d.parameters.length) = some 1 := by decide +kernel
theorem im_X5_openRoutine : Cond.instanceMethod yX5_openRoutine ∈ pWW := pw3 (List.mem_of_getElem? (i := 71) rfl) rfl
theorem se_X5_openRoutine : Cond.selects RX5 yX5_openRoutine yX5_openRoutine ∈ pWW := pws (List.mem_map.mpr ⟨_, lw_pin 6 rfl, rfl⟩) rfl
theorem ml5_109 : Cond.methodLink RX5 109 yX5_routineOf ∈ pWW := pw3 (List.mem_of_getElem? (i := 73) rfl) rfl
theorem mlm5_123 : Cond.methodLink RX5 123 Lib.Math.max.name ∈ pWW := pw3 (List.mem_of_getElem? (i := 85) rfl) rfl
theorem ml5_126 : Cond.methodLink RX5 126 yX1_empty ∈ pWW := pw3 (List.mem_of_getElem? (i := 86) rfl) rfl
theorem fl5_28 : Cond.fieldLink RX5 28 (TX5 4).1 (TX5 4).2.1 (TX5 4).2.2.1 ∈ pWW := pw1 (List.mem_of_getElem? (i := 157) rfl) rfl
theorem dX5_openRoutine_0 : decode cX5_openRoutine 0 = .ok (.aload_n 0, 1) := by decide +kernel
theorem dX5_openRoutine_1 : decode cX5_openRoutine 1 = .ok (.iload_n 1, 1) := by decide +kernel
theorem dX5_openRoutine_2 : decode cX5_openRoutine 2 = .ok (.invokevirtual 109, 3) := by decide +kernel
theorem dX5_openRoutine_5 : decode cX5_openRoutine 5 = .ok (.iconst (-1), 1) := by decide +kernel
theorem dX5_openRoutine_6 : decode cX5_openRoutine 6 = .ok (.if_icmp .eq 15, 3) := by decide +kernel
theorem dX5_openRoutine_21 : decode cX5_openRoutine 21 = .ok (.aload_n 0, 1) := by decide +kernel
theorem dX5_openRoutine_22 : decode cX5_openRoutine 22 = .ok (.getfield 58, 3) := by decide +kernel
theorem dX5_openRoutine_25 : decode cX5_openRoutine 25 = .ok (.bipush 6, 2) := by decide +kernel
theorem dX5_openRoutine_27 : decode cX5_openRoutine 27 = .ok (.if_icmp .lt 15, 3) := by decide +kernel
theorem dX5_openRoutine_42 : decode cX5_openRoutine 42 = .ok (.iconst 0, 1) := by decide +kernel
theorem dX5_openRoutine_43 : decode cX5_openRoutine 43 = .ok (.aload_n 0, 1) := by decide +kernel
theorem dX5_openRoutine_44 : decode cX5_openRoutine 44 = .ok (.getfield 58, 3) := by decide +kernel
theorem dX5_openRoutine_47 : decode cX5_openRoutine 47 = .ok (.aload_n 0, 1) := by decide +kernel
theorem dX5_openRoutine_48 : decode cX5_openRoutine 48 = .ok (.getfield 20, 3) := by decide +kernel
theorem dX5_openRoutine_51 : decode cX5_openRoutine 51 = .ok (.arraylength, 1) := by decide +kernel
theorem dX5_openRoutine_52 : decode cX5_openRoutine 52 = .ok (.iconst 1, 1) := by decide +kernel
theorem dX5_openRoutine_53 : decode cX5_openRoutine 53 = .ok (.isub, 1) := by decide +kernel
theorem dX5_openRoutine_54 : decode cX5_openRoutine 54 = .ok (.invokestatic 117, 3) := by decide +kernel
theorem dX5_openRoutine_57 : decode cX5_openRoutine 57 = .ok (.invokestatic 123, 3) := by decide +kernel
theorem dX5_openRoutine_60 : decode cX5_openRoutine 60 = .ok (.istore_n 2, 1) := by decide +kernel
theorem dX5_openRoutine_61 : decode cX5_openRoutine 61 = .ok (.aload_n 0, 1) := by decide +kernel
theorem dX5_openRoutine_62 : decode cX5_openRoutine 62 = .ok (.aload_n 0, 1) := by decide +kernel
theorem dX5_openRoutine_63 : decode cX5_openRoutine 63 = .ok (.getfield 20, 3) := by decide +kernel
theorem dX5_openRoutine_66 : decode cX5_openRoutine 66 = .ok (.iload_n 2, 1) := by decide +kernel
theorem dX5_openRoutine_67 : decode cX5_openRoutine 67 = .ok (.aaload, 1) := by decide +kernel
theorem dX5_openRoutine_68 : decode cX5_openRoutine 68 = .ok (.putfield 47, 3) := by decide +kernel
theorem dX5_openRoutine_71 : decode cX5_openRoutine 71 = .ok (.aload_n 0, 1) := by decide +kernel
theorem dX5_openRoutine_72 : decode cX5_openRoutine 72 = .ok (.getfield 47, 3) := by decide +kernel
theorem dX5_openRoutine_75 : decode cX5_openRoutine 75 = .ok (.iload_n 2, 1) := by decide +kernel
theorem dX5_openRoutine_76 : decode cX5_openRoutine 76 = .ok (.invokevirtual 126, 3) := by decide +kernel
theorem dX5_openRoutine_79 : decode cX5_openRoutine 79 = .ok (.aload_n 0, 1) := by decide +kernel
theorem dX5_openRoutine_80 : decode cX5_openRoutine 80 = .ok (.getfield 24, 3) := by decide +kernel
theorem dX5_openRoutine_83 : decode cX5_openRoutine 83 = .ok (.aload_n 0, 1) := by decide +kernel
theorem dX5_openRoutine_84 : decode cX5_openRoutine 84 = .ok (.getfield 58, 3) := by decide +kernel
theorem dX5_openRoutine_87 : decode cX5_openRoutine 87 = .ok (.iload_n 1, 1) := by decide +kernel
theorem dX5_openRoutine_88 : decode cX5_openRoutine 88 = .ok (.invokestatic 129, 3) := by decide +kernel
theorem dX5_openRoutine_91 : decode cX5_openRoutine 91 = .ok (.aload_n 0, 1) := by decide +kernel
theorem dX5_openRoutine_92 : decode cX5_openRoutine 92 = .ok (.getfield 28, 3) := by decide +kernel
theorem dX5_openRoutine_95 : decode cX5_openRoutine 95 = .ok (.aload_n 0, 1) := by decide +kernel
theorem dX5_openRoutine_96 : decode cX5_openRoutine 96 = .ok (.getfield 58, 3) := by decide +kernel
theorem dX5_openRoutine_99 : decode cX5_openRoutine 99 = .ok (.iconst 0, 1) := by decide +kernel
theorem dX5_openRoutine_100 : decode cX5_openRoutine 100 = .ok (.invokestatic 129, 3) := by decide +kernel
theorem dX5_openRoutine_103 : decode cX5_openRoutine 103 = .ok (.aload_n 0, 1) := by decide +kernel
theorem dX5_openRoutine_104 : decode cX5_openRoutine 104 = .ok (.aload_n 0, 1) := by decide +kernel
theorem dX5_openRoutine_105 : decode cX5_openRoutine 105 = .ok (.getfield 58, 3) := by decide +kernel
theorem dX5_openRoutine_108 : decode cX5_openRoutine 108 = .ok (.iconst 1, 1) := by decide +kernel
theorem dX5_openRoutine_109 : decode cX5_openRoutine 109 = .ok (.iadd, 1) := by decide +kernel
theorem dX5_openRoutine_110 : decode cX5_openRoutine 110 = .ok (.sipush 256, 3) := by decide +kernel
theorem dX5_openRoutine_113 : decode cX5_openRoutine 113 = .ok (.invokestatic 117, 3) := by decide +kernel
theorem dX5_openRoutine_116 : decode cX5_openRoutine 116 = .ok (.putfield 58, 3) := by decide +kernel
theorem dX5_openRoutine_119 : decode cX5_openRoutine 119 = .ok (.aload_n 0, 1) := by decide +kernel
theorem dX5_openRoutine_120 : decode cX5_openRoutine 120 = .ok (.iconst 0, 1) := by decide +kernel
theorem dX5_openRoutine_121 : decode cX5_openRoutine 121 = .ok (.putfield 133, 3) := by decide +kernel
theorem dX5_openRoutine_124 : decode cX5_openRoutine 124 = .ok (.aload_n 0, 1) := by decide +kernel
theorem dX5_openRoutine_125 : decode cX5_openRoutine 125 = .ok (.iconst 0, 1) := by decide +kernel
theorem dX5_openRoutine_126 : decode cX5_openRoutine 126 = .ok (.putfield 136, 3) := by decide +kernel
theorem dX5_openRoutine_129 : decode cX5_openRoutine 129 = .ok (.return_, 1) := by decide +kernel
theorem dX5_openRoutine_30 : decode cX5_openRoutine 30 = .ok (.aload_n 0, 1) := by decide +kernel
theorem dX5_openRoutine_31 : decode cX5_openRoutine 31 = .ok (.iconst 5, 1) := by decide +kernel
theorem dX5_openRoutine_32 : decode cX5_openRoutine 32 = .ok (.aload_n 0, 1) := by decide +kernel
theorem dX5_openRoutine_33 : decode cX5_openRoutine 33 = .ok (.getfield 12, 3) := by decide +kernel
theorem dX5_openRoutine_36 : decode cX5_openRoutine 36 = .ok (.getfield 74, 3) := by decide +kernel
theorem dX5_openRoutine_39 : decode cX5_openRoutine 39 = .ok (.invokevirtual 113, 3) := by decide +kernel
theorem dX5_openRoutine_9 : decode cX5_openRoutine 9 = .ok (.aload_n 0, 1) := by decide +kernel
theorem dX5_openRoutine_10 : decode cX5_openRoutine 10 = .ok (.iconst 2, 1) := by decide +kernel
theorem dX5_openRoutine_11 : decode cX5_openRoutine 11 = .ok (.aload_n 0, 1) := by decide +kernel
theorem dX5_openRoutine_12 : decode cX5_openRoutine 12 = .ok (.getfield 12, 3) := by decide +kernel
theorem dX5_openRoutine_15 : decode cX5_openRoutine 15 = .ok (.getfield 74, 3) := by decide +kernel
theorem dX5_openRoutine_18 : decode cX5_openRoutine 18 = .ok (.invokevirtual 113, 3) := by decide +kernel
set_option maxRecDepth 20000 in
theorem k_X5_openRoutine (d : Nat) {T : CT} {σ : MS} {a : Nat} {k : Int} (ha : OB T a 5) (h_k : -2147483648 ≤ k ∧ k ≤ 2147483647) (hw : WT T σ) (hrt : RT σ a) : Tn (d + 3) m_X5_openRoutine 0 T σ [(0, .ref a), (1, .int (iI k))] [] (fun ro T2 σ2 => ro = none ∧ T = T2 ∧ WT T2 σ2 ∧ FrC T [6, 7, 8, 9, 10, 35, 38, 43, 44, 46, 47] σ σ2 ∧ (RP σ2 a 4)) := by
  refine tn_aload_n dX5_openRoutine_0 rfl 0 rfl ?_
  refine tn_iload_n dX5_openRoutine_1 rfl 1 rfl ?_
  refine tn_callV (M := m_X5_openRoutine) (pc := 2) (ix := 109) (ci := 5) (M' := m_X5_routineOf) (As := [.int (iI k)]) (rest := []) dX5_openRoutine_2 ok_X5_routineOf im_X5_routineOf se_X5_routineOf ml5_109 np_X5_routineOf rfl rfl ha rfl (Nat.le_of_ble_eq_true rfl) (Nat.le_of_ble_eq_true rfl) rfl (k_X5_routineOf (d) (T := T) (σ := σ) (a := a) (k := k) ha (by omega) hw ) (fun r1 T3 σ2 gt4 hp => ?_)
  obtain ⟨v6, rfl, rfl, rfl, f5⟩ := hp
  clear gt4
  show Tn _ _ 5 T σ [(0, .ref a), (1, .int (iI k))] [.int (iI v6)] _
  refine tn_iconst dX5_openRoutine_5 ?_
  refine tn_icmp_eq (tgt := 21) dX5_openRoutine_6 (by decide) ⟨by omega, by omega⟩ ⟨by decide, by decide⟩ (fun h7 => ?_) (fun h7 => ?_)
  · refine tn_aload_n dX5_openRoutine_21 rfl 0 rfl ?_
    refine tn_getI (ci := 5) (i := 5) (n := 38) (t := σ.2.1 38 a) dX5_openRoutine_22 rfl lay_5 (by decide) fl5_58 ha rfl rfl (rfl) ?_
    have g8 : ((0 : Int) ≤ σ.2.1 38 a ∧ σ.2.1 38 a ≤ 256) := wf_38 hw ha
    refine tn_bipush dX5_openRoutine_25 (by decide) ?_
    refine tn_icmp_lt (tgt := 42) dX5_openRoutine_27 (by decide) ⟨by omega, by omega⟩ ⟨by decide, by decide⟩ (fun h9 => ?_) (fun h9 => ?_)
    · refine tn_iconst dX5_openRoutine_42 ?_
      refine tn_aload_n dX5_openRoutine_43 rfl 0 rfl ?_
      refine tn_getI (ci := 5) (i := 5) (n := 38) (t := σ.2.1 38 a) dX5_openRoutine_44 rfl lay_5 (by decide) fl5_58 ha rfl rfl (rfl) ?_
      refine tn_aload_n dX5_openRoutine_47 rfl 0 rfl ?_
      obtain ⟨x10, hx11, hk12, hl13⟩ : ∃ x : Nat, σ.2.1 34 a = (x : Int) ∧ AR T x 4 7 7 := wf_34 hw ha
      have hk12i : (T x10).1 = 4 ∨ (T x10).1 = 5 := by omega
      refine tn_getR (ci := 5) (i := 1) (n := 34) (x := x10) dX5_openRoutine_48 rfl lay_5 (by decide) fl5_20 ha rfl rfl (hx11) ?_
      refine tn_alenX dX5_openRoutine_51 (by have q9 := hk12i; omega) ?_
      refine tn_iconst dX5_openRoutine_52 ?_
      refine tn_isub dX5_openRoutine_53 ?_
      refine tn_mmin (x := σ.2.1 38 a) (y := (((T x10).2 : Int)) - 1) dX5_openRoutine_54 mlm5_117 stM_min iniM cdM_min (by omega) (Nat.le_of_ble_eq_true rfl) ⟨by omega, by omega⟩ ⟨by omega, by omega⟩ (fun z14 g15 => ?_)
      refine tn_mmax (x := 0) (y := z14) dX5_openRoutine_57 mlm5_123 stM_max iniM cdM_max (by omega) (Nat.le_of_ble_eq_true rfl) ⟨by omega, by omega⟩ ⟨by omega, by omega⟩ (fun z16 g17 => ?_)
      refine tn_istore_n (L' := [(2, .int (iI z16)), (0, .ref a), (1, .int (iI k))]) dX5_openRoutine_60 rfl (by decide) rfl ?_
      refine tn_aload_n dX5_openRoutine_61 rfl 1 rfl ?_
      refine tn_aload_n dX5_openRoutine_62 rfl 1 rfl ?_
      refine tn_getR (ci := 5) (i := 1) (n := 34) (x := x10) dX5_openRoutine_63 rfl lay_5 (by decide) fl5_20 ha rfl rfl (hx11) ?_
      refine tn_iload_n dX5_openRoutine_66 rfl 0 rfl ?_
      obtain ⟨x18, hx19, hk20⟩ := (hw).2.2.2.1.1 x10 hk12 (z16) (by omega) (by omega)
      refine tn_aald (z := z16) (x := x18) dX5_openRoutine_67 hk12i (by omega) (by omega) (by omega) hx19 ?_
      have hk20o : OB T x18 1 := ⟨by omega, by rw [hk20]; rfl, by omega⟩
      refine tn_putV (ci := 5) (i := 2) (n := 35) (r := true) (v := (x18 : Int)) tyX5 tyX5_ok nmX5 dX5_openRoutine_68 rfl lay_5 (by decide) fl5_47 rfl (tyX5_ok 2 (by decide)) (vl_ref rfl).symm rfl rfl ha rfl rfl ?_
      refine tn_aload_n dX5_openRoutine_71 rfl 1 rfl ?_
      refine tn_getR (ci := 5) (i := 2) (n := 35) (x := x18) dX5_openRoutine_72 rfl lay_5 (by decide) fl5_47 ha rfl rfl (ra_eq) ?_
      refine tn_iload_n dX5_openRoutine_75 rfl 0 rfl ?_
      refine tn_callV (M := m_X5_openRoutine) (pc := 76) (ix := 126) (ci := 1) (M' := m_X1_empty) (As := [.int (iI z16)]) (rest := []) dX5_openRoutine_76 ok_X1_empty im_X1_empty se_X1_empty ml5_126 np_X1_empty rfl rfl hk20o rfl (Nat.le_of_ble_eq_true rfl) (Nat.le_of_ble_eq_true rfl) rfl (k_X1_empty (d) (T := T) (σ := (sA 35 a ((x18 : Int)) σ)) (a := x18) (r := z16) hk20o (by omega) (hw.put (by decide) (by decide) (fo_35 ⟨_, rfl, hk20⟩)) ) (fun r21 T23 σ22 gt24 hp => ?_)
      obtain ⟨rfl, rfl, w27, F28, f25⟩ := hp
      clear gt24
      show Tn _ _ 79 T σ22 [(2, .int (iI z16)), (0, .ref a), (1, .int (iI k))] [] _
      refine tn_aload_n dX5_openRoutine_79 rfl 1 rfl ?_
      obtain ⟨x29, hx30, hk31, hl32⟩ : ∃ x : Nat, σ.2.1 36 a = (x : Int) ∧ AR T x 1 256 256 := wf_36 hw ha
      have hk31i : IA T x29 := by unfold IA; omega
      refine tn_getR (ci := 5) (i := 3) (n := 36) (x := x29) dX5_openRoutine_80 rfl lay_5 (by decide) fl5_24 ha rfl rfl (rc_F F28 (Or.inl (by decide)) (by decide) (rc_o (by decide) (hx30))) ?_
      refine tn_aload_n dX5_openRoutine_83 rfl 1 rfl ?_
      refine tn_getI (ci := 5) (i := 5) (n := 38) (t := σ.2.1 38 a) dX5_openRoutine_84 rfl lay_5 (by decide) fl5_58 ha rfl rfl (rc_F F28 (Or.inl (by decide)) (by decide) (rc_o (by decide) (rfl))) ?_
      refine tn_iload_n dX5_openRoutine_87 rfl 2 rfl ?_
      refine tn_callSN (M := m_X5_openRoutine) (pc := 88) (ix := 129) (M' := m_X11_put) (As := [.ref x29, .int (iI (σ.2.1 38 a)), .int (iI k)]) (rest := []) dX5_openRoutine_88 ok_X11_put stt_X11_put nl5_129 np_X11_put rfl (Nat.le_of_ble_eq_true rfl) (Nat.le_of_ble_eq_true rfl) rfl (k_X11_put (d + 1) (T := T) (σ := σ22) (x := x29) (i := σ.2.1 38 a) (y := k) hk31i (by omega) (by omega) (by omega) w27 ((by have q9 := hk31; omega)) (vok_1 (by have q9 := hk31; omega) (by omega))) (fun r33 T35 σ34 gt36 hp => ?_)
      obtain ⟨rfl, rfl, w38, F39⟩ := hp
      clear gt36
      show Tn _ _ 91 T σ34 [(2, .int (iI z16)), (0, .ref a), (1, .int (iI k))] [] _
      refine tn_aload_n dX5_openRoutine_91 rfl 1 rfl ?_
      obtain ⟨x40, hx41, hk42, hl43⟩ : ∃ x : Nat, σ.2.1 37 a = (x : Int) ∧ AR T x 1 256 256 := wf_37 hw ha
      have hk42i : IA T x40 := by unfold IA; omega
      refine tn_getR (ci := 5) (i := 4) (n := 37) (x := x40) dX5_openRoutine_92 rfl lay_5 (by decide) fl5_28 ha rfl rfl (rc_F F39 (Or.inl (by decide)) (by decide) (rc_F F28 (Or.inl (by decide)) (by decide) (rc_o (by decide) (hx41)))) ?_
      refine tn_aload_n dX5_openRoutine_95 rfl 1 rfl ?_
      refine tn_getI (ci := 5) (i := 5) (n := 38) (t := σ.2.1 38 a) dX5_openRoutine_96 rfl lay_5 (by decide) fl5_58 ha rfl rfl (rc_F F39 (Or.inl (by decide)) (by decide) (rc_F F28 (Or.inl (by decide)) (by decide) (rc_o (by decide) (rfl)))) ?_
      refine tn_iconst dX5_openRoutine_99 ?_
      refine tn_callSN (M := m_X5_openRoutine) (pc := 100) (ix := 129) (M' := m_X11_put) (As := [.ref x40, .int (iI (σ.2.1 38 a)), .int (iI 0)]) (rest := []) dX5_openRoutine_100 ok_X11_put stt_X11_put nl5_129 np_X11_put rfl (Nat.le_of_ble_eq_true rfl) (Nat.le_of_ble_eq_true rfl) rfl (k_X11_put (d + 1) (T := T) (σ := σ34) (x := x40) (i := σ.2.1 38 a) (y := 0) hk42i (by omega) (by omega) (by decide) w38 ((by have q9 := hk42; omega)) vok_0) (fun r44 T46 σ45 gt47 hp => ?_)
      obtain ⟨rfl, rfl, w49, F50⟩ := hp
      clear gt47
      show Tn _ _ 103 T σ45 [(2, .int (iI z16)), (0, .ref a), (1, .int (iI k))] [] _
      refine tn_aload_n dX5_openRoutine_103 rfl 1 rfl ?_
      refine tn_aload_n dX5_openRoutine_104 rfl 1 rfl ?_
      refine tn_getI (ci := 5) (i := 5) (n := 38) (t := σ.2.1 38 a) dX5_openRoutine_105 rfl lay_5 (by decide) fl5_58 ha rfl rfl (rc_F F50 (Or.inl (by decide)) (by decide) (rc_F F39 (Or.inl (by decide)) (by decide) (rc_F F28 (Or.inl (by decide)) (by decide) (rc_o (by decide) (rfl))))) ?_
      refine tn_iconst dX5_openRoutine_108 ?_
      refine tn_iadd dX5_openRoutine_109 ?_
      refine tn_sipush dX5_openRoutine_110 (by decide) ?_
      refine tn_mmin (x := (σ.2.1 38 a) + 1) (y := 256) dX5_openRoutine_113 mlm5_117 stM_min iniM cdM_min (by omega) (Nat.le_of_ble_eq_true rfl) ⟨by omega, by omega⟩ ⟨by omega, by omega⟩ (fun z51 g52 => ?_)
      refine tn_putV (ci := 5) (i := 5) (n := 38) (r := false) (v := z51) tyX5 tyX5_ok nmX5 dX5_openRoutine_116 rfl lay_5 (by decide) fl5_58 rfl (tyX5_ok 5 (by decide)) rfl rfl rfl ha rfl rfl ?_
      refine tn_aload_n dX5_openRoutine_119 rfl 1 rfl ?_
      refine tn_iconst dX5_openRoutine_120 ?_
      refine tn_putV (ci := 5) (i := 13) (n := 46) (r := false) (v := 0) tyX5 tyX5_ok nmX5 dX5_openRoutine_121 rfl lay_5 (by decide) fl5_133 rfl (tyX5_ok 13 (by decide)) rfl rfl rfl ha rfl rfl ?_
      refine tn_aload_n dX5_openRoutine_124 rfl 1 rfl ?_
      refine tn_iconst dX5_openRoutine_125 ?_
      refine tn_putV (ci := 5) (i := 14) (n := 47) (r := false) (v := 0) tyX5 tyX5_ok nmX5 dX5_openRoutine_126 rfl lay_5 (by decide) fl5_136 rfl (tyX5_ok 14 (by decide)) rfl rfl rfl ha rfl rfl ?_
      exact tn_vret rfl dX5_openRoutine_129 ⟨rfl, rfl, (((w49.put (by decide) (by decide) (fo_38 (by omega))).put (by decide) (by decide) (fo_46 (by omega))).put (by decide) (by decide) (fo_47 (by omega))), (((((((FrC.rfl.put (by decide) (by decide)).trans (FrC.sub F28 (by decide))).trans (FrC.sub F39 (by decide))).trans (FrC.sub F50 (by decide))).put (by decide) (by decide)).put (by decide) (by decide)).put (by decide) (by decide)), (RP.new (RT.frc hrt (show FrC T [6, 7, 8, 9, 10, 35, 38, 43, 44, 46, 47] σ (sA 47 a (0) (sA 46 a (0) (sA 38 a (z51) σ45))) from (((((((FrC.rfl.put (by decide) (by decide)).trans (FrC.sub F28 (by decide))).trans (FrC.sub F39 (by decide))).trans (FrC.sub F50 (by decide))).put (by decide) (by decide)).put (by decide) (by decide)).put (by decide) (by decide))) (by decide) (by decide) (by decide)) (((w49.put (by decide) (by decide) (fo_38 (by omega))).put (by decide) (by decide) (fo_46 (by omega))).put (by decide) (by decide) (fo_47 (by omega))) ha (rc_o (by decide) (rc_o (by decide) (rc_o (by decide) (rc_F F50 (Or.inl (by decide)) (by decide) (rc_F F39 (Or.inl (by decide)) (by decide) (rc_F F28 (Or.inl (by decide)) (by decide) (ra_eq))))))) (by rw [show (sA 47 a (0) (sA 46 a (0) (sA 38 a (z51) σ45))).2.1 6 x18 = σ22.2.1 6 x18 from rc_o (by decide) (rc_o (by decide) (rc_o (by decide) (rc_F F50 (Or.inl (by decide)) (by decide) (rc_F F39 (Or.inl (by decide)) (by decide) (rfl)))))]; omega))⟩
    · refine tn_aload_n dX5_openRoutine_30 rfl 0 rfl ?_
      refine tn_iconst dX5_openRoutine_31 ?_
      refine tn_aload_n dX5_openRoutine_32 rfl 0 rfl ?_
      obtain ⟨x53, hx54, hk55⟩ : ∃ x : Nat, σ.2.1 33 a = (x : Int) ∧ (T x).1 = 39 := wf_33 hw ha
      have hk55o : OB T x53 9 := ⟨by omega, by rw [hk55]; rfl, by omega⟩
      refine tn_getR (ci := 5) (i := 0) (n := 33) (x := x53) dX5_openRoutine_33 rfl lay_5 (by decide) fl5_12 ha rfl rfl (hx54) ?_
      refine tn_getI (ci := 9) (i := 6) (n := 87) (t := σ.2.1 87 x53) dX5_openRoutine_36 rfl lay_9 (by decide) fl5_74 hk55o rfl rfl (rfl) ?_
      have g57 : ((-2147483648 : Int) ≤ σ.2.1 87 x53 ∧ σ.2.1 87 x53 ≤ 2147483647) := wf_87 hw hk55o
      refine tn_callV (M := m_X5_openRoutine) (pc := 39) (ix := 113) (ci := 5) (M' := m_X5_note) (As := [.int (iI 5), .int (iI (σ.2.1 87 x53))]) (rest := []) dX5_openRoutine_39 ok_X5_note im_X5_note se_X5_note ml5_113 np_X5_note rfl rfl ha rfl (Nat.le_of_ble_eq_true rfl) (Nat.le_of_ble_eq_true rfl) rfl (k_X5_note (d + 1) (T := T) (σ := σ) (a := a) (p1 := 5) (p2 := σ.2.1 87 x53) ha (by decide) (by omega) hw ) (fun r58 T60 σ59 gt61 hp => ?_)
      obtain ⟨rfl, rfl, w63, F64⟩ := hp
      clear gt61
      show Tn _ _ 42 T σ59 [(0, .ref a), (1, .int (iI k))] [] _
      refine tn_iconst dX5_openRoutine_42 ?_
      refine tn_aload_n dX5_openRoutine_43 rfl 0 rfl ?_
      refine tn_getI (ci := 5) (i := 5) (n := 38) (t := σ.2.1 38 a) dX5_openRoutine_44 rfl lay_5 (by decide) fl5_58 ha rfl rfl (rc_F F64 (Or.inl (by decide)) (by decide) (rfl)) ?_
      refine tn_aload_n dX5_openRoutine_47 rfl 0 rfl ?_
      obtain ⟨x65, hx66, hk67, hl68⟩ : ∃ x : Nat, σ.2.1 34 a = (x : Int) ∧ AR T x 4 7 7 := wf_34 hw ha
      have hk67i : (T x65).1 = 4 ∨ (T x65).1 = 5 := by omega
      refine tn_getR (ci := 5) (i := 1) (n := 34) (x := x65) dX5_openRoutine_48 rfl lay_5 (by decide) fl5_20 ha rfl rfl (rc_F F64 (Or.inl (by decide)) (by decide) (hx66)) ?_
      refine tn_alenX dX5_openRoutine_51 (by have q9 := hk67i; omega) ?_
      refine tn_iconst dX5_openRoutine_52 ?_
      refine tn_isub dX5_openRoutine_53 ?_
      refine tn_mmin (x := σ.2.1 38 a) (y := (((T x65).2 : Int)) - 1) dX5_openRoutine_54 mlm5_117 stM_min iniM cdM_min (by omega) (Nat.le_of_ble_eq_true rfl) ⟨by omega, by omega⟩ ⟨by omega, by omega⟩ (fun z69 g70 => ?_)
      refine tn_mmax (x := 0) (y := z69) dX5_openRoutine_57 mlm5_123 stM_max iniM cdM_max (by omega) (Nat.le_of_ble_eq_true rfl) ⟨by omega, by omega⟩ ⟨by omega, by omega⟩ (fun z71 g72 => ?_)
      refine tn_istore_n (L' := [(2, .int (iI z71)), (0, .ref a), (1, .int (iI k))]) dX5_openRoutine_60 rfl (by decide) rfl ?_
      refine tn_aload_n dX5_openRoutine_61 rfl 1 rfl ?_
      refine tn_aload_n dX5_openRoutine_62 rfl 1 rfl ?_
      refine tn_getR (ci := 5) (i := 1) (n := 34) (x := x65) dX5_openRoutine_63 rfl lay_5 (by decide) fl5_20 ha rfl rfl (rc_F F64 (Or.inl (by decide)) (by decide) (hx66)) ?_
      refine tn_iload_n dX5_openRoutine_66 rfl 0 rfl ?_
      obtain ⟨x73, hx74, hk75⟩ := (w63).2.2.2.1.1 x65 hk67 (z71) (by omega) (by omega)
      refine tn_aald (z := z71) (x := x73) dX5_openRoutine_67 hk67i (by omega) (by omega) (by omega) hx74 ?_
      have hk75o : OB T x73 1 := ⟨by omega, by rw [hk75]; rfl, by omega⟩
      refine tn_putV (ci := 5) (i := 2) (n := 35) (r := true) (v := (x73 : Int)) tyX5 tyX5_ok nmX5 dX5_openRoutine_68 rfl lay_5 (by decide) fl5_47 rfl (tyX5_ok 2 (by decide)) (vl_ref rfl).symm rfl rfl ha rfl rfl ?_
      refine tn_aload_n dX5_openRoutine_71 rfl 1 rfl ?_
      refine tn_getR (ci := 5) (i := 2) (n := 35) (x := x73) dX5_openRoutine_72 rfl lay_5 (by decide) fl5_47 ha rfl rfl (ra_eq) ?_
      refine tn_iload_n dX5_openRoutine_75 rfl 0 rfl ?_
      refine tn_callV (M := m_X5_openRoutine) (pc := 76) (ix := 126) (ci := 1) (M' := m_X1_empty) (As := [.int (iI z71)]) (rest := []) dX5_openRoutine_76 ok_X1_empty im_X1_empty se_X1_empty ml5_126 np_X1_empty rfl rfl hk75o rfl (Nat.le_of_ble_eq_true rfl) (Nat.le_of_ble_eq_true rfl) rfl (k_X1_empty (d) (T := T) (σ := (sA 35 a ((x73 : Int)) σ59)) (a := x73) (r := z71) hk75o (by omega) (w63.put (by decide) (by decide) (fo_35 ⟨_, rfl, hk75⟩)) ) (fun r76 T78 σ77 gt79 hp => ?_)
      obtain ⟨rfl, rfl, w82, F83, f80⟩ := hp
      clear gt79
      show Tn _ _ 79 T σ77 [(2, .int (iI z71)), (0, .ref a), (1, .int (iI k))] [] _
      refine tn_aload_n dX5_openRoutine_79 rfl 1 rfl ?_
      obtain ⟨x84, hx85, hk86, hl87⟩ : ∃ x : Nat, σ.2.1 36 a = (x : Int) ∧ AR T x 1 256 256 := wf_36 hw ha
      have hk86i : IA T x84 := by unfold IA; omega
      refine tn_getR (ci := 5) (i := 3) (n := 36) (x := x84) dX5_openRoutine_80 rfl lay_5 (by decide) fl5_24 ha rfl rfl (rc_F F83 (Or.inl (by decide)) (by decide) (rc_o (by decide) (rc_F F64 (Or.inl (by decide)) (by decide) (hx85)))) ?_
      refine tn_aload_n dX5_openRoutine_83 rfl 1 rfl ?_
      refine tn_getI (ci := 5) (i := 5) (n := 38) (t := σ.2.1 38 a) dX5_openRoutine_84 rfl lay_5 (by decide) fl5_58 ha rfl rfl (rc_F F83 (Or.inl (by decide)) (by decide) (rc_o (by decide) (rc_F F64 (Or.inl (by decide)) (by decide) (rfl)))) ?_
      refine tn_iload_n dX5_openRoutine_87 rfl 2 rfl ?_
      refine tn_callSN (M := m_X5_openRoutine) (pc := 88) (ix := 129) (M' := m_X11_put) (As := [.ref x84, .int (iI (σ.2.1 38 a)), .int (iI k)]) (rest := []) dX5_openRoutine_88 ok_X11_put stt_X11_put nl5_129 np_X11_put rfl (Nat.le_of_ble_eq_true rfl) (Nat.le_of_ble_eq_true rfl) rfl (k_X11_put (d + 1) (T := T) (σ := σ77) (x := x84) (i := σ.2.1 38 a) (y := k) hk86i (by omega) (by omega) (by omega) w82 ((by have q9 := hk86; omega)) (vok_1 (by have q9 := hk86; omega) (by omega))) (fun r88 T90 σ89 gt91 hp => ?_)
      obtain ⟨rfl, rfl, w93, F94⟩ := hp
      clear gt91
      show Tn _ _ 91 T σ89 [(2, .int (iI z71)), (0, .ref a), (1, .int (iI k))] [] _
      refine tn_aload_n dX5_openRoutine_91 rfl 1 rfl ?_
      obtain ⟨x95, hx96, hk97, hl98⟩ : ∃ x : Nat, σ.2.1 37 a = (x : Int) ∧ AR T x 1 256 256 := wf_37 hw ha
      have hk97i : IA T x95 := by unfold IA; omega
      refine tn_getR (ci := 5) (i := 4) (n := 37) (x := x95) dX5_openRoutine_92 rfl lay_5 (by decide) fl5_28 ha rfl rfl (rc_F F94 (Or.inl (by decide)) (by decide) (rc_F F83 (Or.inl (by decide)) (by decide) (rc_o (by decide) (rc_F F64 (Or.inl (by decide)) (by decide) (hx96))))) ?_
      refine tn_aload_n dX5_openRoutine_95 rfl 1 rfl ?_
      refine tn_getI (ci := 5) (i := 5) (n := 38) (t := σ.2.1 38 a) dX5_openRoutine_96 rfl lay_5 (by decide) fl5_58 ha rfl rfl (rc_F F94 (Or.inl (by decide)) (by decide) (rc_F F83 (Or.inl (by decide)) (by decide) (rc_o (by decide) (rc_F F64 (Or.inl (by decide)) (by decide) (rfl))))) ?_
      refine tn_iconst dX5_openRoutine_99 ?_
      refine tn_callSN (M := m_X5_openRoutine) (pc := 100) (ix := 129) (M' := m_X11_put) (As := [.ref x95, .int (iI (σ.2.1 38 a)), .int (iI 0)]) (rest := []) dX5_openRoutine_100 ok_X11_put stt_X11_put nl5_129 np_X11_put rfl (Nat.le_of_ble_eq_true rfl) (Nat.le_of_ble_eq_true rfl) rfl (k_X11_put (d + 1) (T := T) (σ := σ89) (x := x95) (i := σ.2.1 38 a) (y := 0) hk97i (by omega) (by omega) (by decide) w93 ((by have q9 := hk97; omega)) vok_0) (fun r99 T101 σ100 gt102 hp => ?_)
      obtain ⟨rfl, rfl, w104, F105⟩ := hp
      clear gt102
      show Tn _ _ 103 T σ100 [(2, .int (iI z71)), (0, .ref a), (1, .int (iI k))] [] _
      refine tn_aload_n dX5_openRoutine_103 rfl 1 rfl ?_
      refine tn_aload_n dX5_openRoutine_104 rfl 1 rfl ?_
      refine tn_getI (ci := 5) (i := 5) (n := 38) (t := σ.2.1 38 a) dX5_openRoutine_105 rfl lay_5 (by decide) fl5_58 ha rfl rfl (rc_F F105 (Or.inl (by decide)) (by decide) (rc_F F94 (Or.inl (by decide)) (by decide) (rc_F F83 (Or.inl (by decide)) (by decide) (rc_o (by decide) (rc_F F64 (Or.inl (by decide)) (by decide) (rfl)))))) ?_
      refine tn_iconst dX5_openRoutine_108 ?_
      refine tn_iadd dX5_openRoutine_109 ?_
      refine tn_sipush dX5_openRoutine_110 (by decide) ?_
      refine tn_mmin (x := (σ.2.1 38 a) + 1) (y := 256) dX5_openRoutine_113 mlm5_117 stM_min iniM cdM_min (by omega) (Nat.le_of_ble_eq_true rfl) ⟨by omega, by omega⟩ ⟨by omega, by omega⟩ (fun z106 g107 => ?_)
      refine tn_putV (ci := 5) (i := 5) (n := 38) (r := false) (v := z106) tyX5 tyX5_ok nmX5 dX5_openRoutine_116 rfl lay_5 (by decide) fl5_58 rfl (tyX5_ok 5 (by decide)) rfl rfl rfl ha rfl rfl ?_
      refine tn_aload_n dX5_openRoutine_119 rfl 1 rfl ?_
      refine tn_iconst dX5_openRoutine_120 ?_
      refine tn_putV (ci := 5) (i := 13) (n := 46) (r := false) (v := 0) tyX5 tyX5_ok nmX5 dX5_openRoutine_121 rfl lay_5 (by decide) fl5_133 rfl (tyX5_ok 13 (by decide)) rfl rfl rfl ha rfl rfl ?_
      refine tn_aload_n dX5_openRoutine_124 rfl 1 rfl ?_
      refine tn_iconst dX5_openRoutine_125 ?_
      refine tn_putV (ci := 5) (i := 14) (n := 47) (r := false) (v := 0) tyX5 tyX5_ok nmX5 dX5_openRoutine_126 rfl lay_5 (by decide) fl5_136 rfl (tyX5_ok 14 (by decide)) rfl rfl rfl ha rfl rfl ?_
      exact tn_vret rfl dX5_openRoutine_129 ⟨rfl, rfl, (((w104.put (by decide) (by decide) (fo_38 (by omega))).put (by decide) (by decide) (fo_46 (by omega))).put (by decide) (by decide) (fo_47 (by omega))), ((((((((FrC.rfl.trans (FrC.sub F64 (by decide))).put (by decide) (by decide)).trans (FrC.sub F83 (by decide))).trans (FrC.sub F94 (by decide))).trans (FrC.sub F105 (by decide))).put (by decide) (by decide)).put (by decide) (by decide)).put (by decide) (by decide)), (RP.new (RT.frc hrt (show FrC T [6, 7, 8, 9, 10, 35, 38, 43, 44, 46, 47] σ (sA 47 a (0) (sA 46 a (0) (sA 38 a (z106) σ100))) from ((((((((FrC.rfl.trans (FrC.sub F64 (by decide))).put (by decide) (by decide)).trans (FrC.sub F83 (by decide))).trans (FrC.sub F94 (by decide))).trans (FrC.sub F105 (by decide))).put (by decide) (by decide)).put (by decide) (by decide)).put (by decide) (by decide))) (by decide) (by decide) (by decide)) (((w104.put (by decide) (by decide) (fo_38 (by omega))).put (by decide) (by decide) (fo_46 (by omega))).put (by decide) (by decide) (fo_47 (by omega))) ha (rc_o (by decide) (rc_o (by decide) (rc_o (by decide) (rc_F F105 (Or.inl (by decide)) (by decide) (rc_F F94 (Or.inl (by decide)) (by decide) (rc_F F83 (Or.inl (by decide)) (by decide) (ra_eq))))))) (by rw [show (sA 47 a (0) (sA 46 a (0) (sA 38 a (z106) σ100))).2.1 6 x73 = σ77.2.1 6 x73 from rc_o (by decide) (rc_o (by decide) (rc_o (by decide) (rc_F F105 (Or.inl (by decide)) (by decide) (rc_F F94 (Or.inl (by decide)) (by decide) (rfl)))))]; omega))⟩
  · refine tn_aload_n dX5_openRoutine_9 rfl 0 rfl ?_
    refine tn_iconst dX5_openRoutine_10 ?_
    refine tn_aload_n dX5_openRoutine_11 rfl 0 rfl ?_
    obtain ⟨x108, hx109, hk110⟩ : ∃ x : Nat, σ.2.1 33 a = (x : Int) ∧ (T x).1 = 39 := wf_33 hw ha
    have hk110o : OB T x108 9 := ⟨by omega, by rw [hk110]; rfl, by omega⟩
    refine tn_getR (ci := 5) (i := 0) (n := 33) (x := x108) dX5_openRoutine_12 rfl lay_5 (by decide) fl5_12 ha rfl rfl (hx109) ?_
    refine tn_getI (ci := 9) (i := 6) (n := 87) (t := σ.2.1 87 x108) dX5_openRoutine_15 rfl lay_9 (by decide) fl5_74 hk110o rfl rfl (rfl) ?_
    have g112 : ((-2147483648 : Int) ≤ σ.2.1 87 x108 ∧ σ.2.1 87 x108 ≤ 2147483647) := wf_87 hw hk110o
    refine tn_callV (M := m_X5_openRoutine) (pc := 18) (ix := 113) (ci := 5) (M' := m_X5_note) (As := [.int (iI 2), .int (iI (σ.2.1 87 x108))]) (rest := []) dX5_openRoutine_18 ok_X5_note im_X5_note se_X5_note ml5_113 np_X5_note rfl rfl ha rfl (Nat.le_of_ble_eq_true rfl) (Nat.le_of_ble_eq_true rfl) rfl (k_X5_note (d + 1) (T := T) (σ := σ) (a := a) (p1 := 2) (p2 := σ.2.1 87 x108) ha (by decide) (by omega) hw ) (fun r113 T115 σ114 gt116 hp => ?_)
    obtain ⟨rfl, rfl, w118, F119⟩ := hp
    clear gt116
    show Tn _ _ 21 T σ114 [(0, .ref a), (1, .int (iI k))] [] _
    refine tn_aload_n dX5_openRoutine_21 rfl 0 rfl ?_
    refine tn_getI (ci := 5) (i := 5) (n := 38) (t := σ.2.1 38 a) dX5_openRoutine_22 rfl lay_5 (by decide) fl5_58 ha rfl rfl (rc_F F119 (Or.inl (by decide)) (by decide) (rfl)) ?_
    have g120 : ((0 : Int) ≤ σ.2.1 38 a ∧ σ.2.1 38 a ≤ 256) := wf_38 hw ha
    refine tn_bipush dX5_openRoutine_25 (by decide) ?_
    refine tn_icmp_lt (tgt := 42) dX5_openRoutine_27 (by decide) ⟨by omega, by omega⟩ ⟨by decide, by decide⟩ (fun h121 => ?_) (fun h121 => ?_)
    · refine tn_iconst dX5_openRoutine_42 ?_
      refine tn_aload_n dX5_openRoutine_43 rfl 0 rfl ?_
      refine tn_getI (ci := 5) (i := 5) (n := 38) (t := σ.2.1 38 a) dX5_openRoutine_44 rfl lay_5 (by decide) fl5_58 ha rfl rfl (rc_F F119 (Or.inl (by decide)) (by decide) (rfl)) ?_
      refine tn_aload_n dX5_openRoutine_47 rfl 0 rfl ?_
      obtain ⟨x122, hx123, hk124, hl125⟩ : ∃ x : Nat, σ.2.1 34 a = (x : Int) ∧ AR T x 4 7 7 := wf_34 hw ha
      have hk124i : (T x122).1 = 4 ∨ (T x122).1 = 5 := by omega
      refine tn_getR (ci := 5) (i := 1) (n := 34) (x := x122) dX5_openRoutine_48 rfl lay_5 (by decide) fl5_20 ha rfl rfl (rc_F F119 (Or.inl (by decide)) (by decide) (hx123)) ?_
      refine tn_alenX dX5_openRoutine_51 (by have q9 := hk124i; omega) ?_
      refine tn_iconst dX5_openRoutine_52 ?_
      refine tn_isub dX5_openRoutine_53 ?_
      refine tn_mmin (x := σ.2.1 38 a) (y := (((T x122).2 : Int)) - 1) dX5_openRoutine_54 mlm5_117 stM_min iniM cdM_min (by omega) (Nat.le_of_ble_eq_true rfl) ⟨by omega, by omega⟩ ⟨by omega, by omega⟩ (fun z126 g127 => ?_)
      refine tn_mmax (x := 0) (y := z126) dX5_openRoutine_57 mlm5_123 stM_max iniM cdM_max (by omega) (Nat.le_of_ble_eq_true rfl) ⟨by omega, by omega⟩ ⟨by omega, by omega⟩ (fun z128 g129 => ?_)
      refine tn_istore_n (L' := [(2, .int (iI z128)), (0, .ref a), (1, .int (iI k))]) dX5_openRoutine_60 rfl (by decide) rfl ?_
      refine tn_aload_n dX5_openRoutine_61 rfl 1 rfl ?_
      refine tn_aload_n dX5_openRoutine_62 rfl 1 rfl ?_
      refine tn_getR (ci := 5) (i := 1) (n := 34) (x := x122) dX5_openRoutine_63 rfl lay_5 (by decide) fl5_20 ha rfl rfl (rc_F F119 (Or.inl (by decide)) (by decide) (hx123)) ?_
      refine tn_iload_n dX5_openRoutine_66 rfl 0 rfl ?_
      obtain ⟨x130, hx131, hk132⟩ := (w118).2.2.2.1.1 x122 hk124 (z128) (by omega) (by omega)
      refine tn_aald (z := z128) (x := x130) dX5_openRoutine_67 hk124i (by omega) (by omega) (by omega) hx131 ?_
      have hk132o : OB T x130 1 := ⟨by omega, by rw [hk132]; rfl, by omega⟩
      refine tn_putV (ci := 5) (i := 2) (n := 35) (r := true) (v := (x130 : Int)) tyX5 tyX5_ok nmX5 dX5_openRoutine_68 rfl lay_5 (by decide) fl5_47 rfl (tyX5_ok 2 (by decide)) (vl_ref rfl).symm rfl rfl ha rfl rfl ?_
      refine tn_aload_n dX5_openRoutine_71 rfl 1 rfl ?_
      refine tn_getR (ci := 5) (i := 2) (n := 35) (x := x130) dX5_openRoutine_72 rfl lay_5 (by decide) fl5_47 ha rfl rfl (ra_eq) ?_
      refine tn_iload_n dX5_openRoutine_75 rfl 0 rfl ?_
      refine tn_callV (M := m_X5_openRoutine) (pc := 76) (ix := 126) (ci := 1) (M' := m_X1_empty) (As := [.int (iI z128)]) (rest := []) dX5_openRoutine_76 ok_X1_empty im_X1_empty se_X1_empty ml5_126 np_X1_empty rfl rfl hk132o rfl (Nat.le_of_ble_eq_true rfl) (Nat.le_of_ble_eq_true rfl) rfl (k_X1_empty (d) (T := T) (σ := (sA 35 a ((x130 : Int)) σ114)) (a := x130) (r := z128) hk132o (by omega) (w118.put (by decide) (by decide) (fo_35 ⟨_, rfl, hk132⟩)) ) (fun r133 T135 σ134 gt136 hp => ?_)
      obtain ⟨rfl, rfl, w139, F140, f137⟩ := hp
      clear gt136
      show Tn _ _ 79 T σ134 [(2, .int (iI z128)), (0, .ref a), (1, .int (iI k))] [] _
      refine tn_aload_n dX5_openRoutine_79 rfl 1 rfl ?_
      obtain ⟨x141, hx142, hk143, hl144⟩ : ∃ x : Nat, σ.2.1 36 a = (x : Int) ∧ AR T x 1 256 256 := wf_36 hw ha
      have hk143i : IA T x141 := by unfold IA; omega
      refine tn_getR (ci := 5) (i := 3) (n := 36) (x := x141) dX5_openRoutine_80 rfl lay_5 (by decide) fl5_24 ha rfl rfl (rc_F F140 (Or.inl (by decide)) (by decide) (rc_o (by decide) (rc_F F119 (Or.inl (by decide)) (by decide) (hx142)))) ?_
      refine tn_aload_n dX5_openRoutine_83 rfl 1 rfl ?_
      refine tn_getI (ci := 5) (i := 5) (n := 38) (t := σ.2.1 38 a) dX5_openRoutine_84 rfl lay_5 (by decide) fl5_58 ha rfl rfl (rc_F F140 (Or.inl (by decide)) (by decide) (rc_o (by decide) (rc_F F119 (Or.inl (by decide)) (by decide) (rfl)))) ?_
      refine tn_iload_n dX5_openRoutine_87 rfl 2 rfl ?_
      refine tn_callSN (M := m_X5_openRoutine) (pc := 88) (ix := 129) (M' := m_X11_put) (As := [.ref x141, .int (iI (σ.2.1 38 a)), .int (iI k)]) (rest := []) dX5_openRoutine_88 ok_X11_put stt_X11_put nl5_129 np_X11_put rfl (Nat.le_of_ble_eq_true rfl) (Nat.le_of_ble_eq_true rfl) rfl (k_X11_put (d + 1) (T := T) (σ := σ134) (x := x141) (i := σ.2.1 38 a) (y := k) hk143i (by omega) (by omega) (by omega) w139 ((by have q9 := hk143; omega)) (vok_1 (by have q9 := hk143; omega) (by omega))) (fun r145 T147 σ146 gt148 hp => ?_)
      obtain ⟨rfl, rfl, w150, F151⟩ := hp
      clear gt148
      show Tn _ _ 91 T σ146 [(2, .int (iI z128)), (0, .ref a), (1, .int (iI k))] [] _
      refine tn_aload_n dX5_openRoutine_91 rfl 1 rfl ?_
      obtain ⟨x152, hx153, hk154, hl155⟩ : ∃ x : Nat, σ.2.1 37 a = (x : Int) ∧ AR T x 1 256 256 := wf_37 hw ha
      have hk154i : IA T x152 := by unfold IA; omega
      refine tn_getR (ci := 5) (i := 4) (n := 37) (x := x152) dX5_openRoutine_92 rfl lay_5 (by decide) fl5_28 ha rfl rfl (rc_F F151 (Or.inl (by decide)) (by decide) (rc_F F140 (Or.inl (by decide)) (by decide) (rc_o (by decide) (rc_F F119 (Or.inl (by decide)) (by decide) (hx153))))) ?_
      refine tn_aload_n dX5_openRoutine_95 rfl 1 rfl ?_
      refine tn_getI (ci := 5) (i := 5) (n := 38) (t := σ.2.1 38 a) dX5_openRoutine_96 rfl lay_5 (by decide) fl5_58 ha rfl rfl (rc_F F151 (Or.inl (by decide)) (by decide) (rc_F F140 (Or.inl (by decide)) (by decide) (rc_o (by decide) (rc_F F119 (Or.inl (by decide)) (by decide) (rfl))))) ?_
      refine tn_iconst dX5_openRoutine_99 ?_
      refine tn_callSN (M := m_X5_openRoutine) (pc := 100) (ix := 129) (M' := m_X11_put) (As := [.ref x152, .int (iI (σ.2.1 38 a)), .int (iI 0)]) (rest := []) dX5_openRoutine_100 ok_X11_put stt_X11_put nl5_129 np_X11_put rfl (Nat.le_of_ble_eq_true rfl) (Nat.le_of_ble_eq_true rfl) rfl (k_X11_put (d + 1) (T := T) (σ := σ146) (x := x152) (i := σ.2.1 38 a) (y := 0) hk154i (by omega) (by omega) (by decide) w150 ((by have q9 := hk154; omega)) vok_0) (fun r156 T158 σ157 gt159 hp => ?_)
      obtain ⟨rfl, rfl, w161, F162⟩ := hp
      clear gt159
      show Tn _ _ 103 T σ157 [(2, .int (iI z128)), (0, .ref a), (1, .int (iI k))] [] _
      refine tn_aload_n dX5_openRoutine_103 rfl 1 rfl ?_
      refine tn_aload_n dX5_openRoutine_104 rfl 1 rfl ?_
      refine tn_getI (ci := 5) (i := 5) (n := 38) (t := σ.2.1 38 a) dX5_openRoutine_105 rfl lay_5 (by decide) fl5_58 ha rfl rfl (rc_F F162 (Or.inl (by decide)) (by decide) (rc_F F151 (Or.inl (by decide)) (by decide) (rc_F F140 (Or.inl (by decide)) (by decide) (rc_o (by decide) (rc_F F119 (Or.inl (by decide)) (by decide) (rfl)))))) ?_
      refine tn_iconst dX5_openRoutine_108 ?_
      refine tn_iadd dX5_openRoutine_109 ?_
      refine tn_sipush dX5_openRoutine_110 (by decide) ?_
      refine tn_mmin (x := (σ.2.1 38 a) + 1) (y := 256) dX5_openRoutine_113 mlm5_117 stM_min iniM cdM_min (by omega) (Nat.le_of_ble_eq_true rfl) ⟨by omega, by omega⟩ ⟨by omega, by omega⟩ (fun z163 g164 => ?_)
      refine tn_putV (ci := 5) (i := 5) (n := 38) (r := false) (v := z163) tyX5 tyX5_ok nmX5 dX5_openRoutine_116 rfl lay_5 (by decide) fl5_58 rfl (tyX5_ok 5 (by decide)) rfl rfl rfl ha rfl rfl ?_
      refine tn_aload_n dX5_openRoutine_119 rfl 1 rfl ?_
      refine tn_iconst dX5_openRoutine_120 ?_
      refine tn_putV (ci := 5) (i := 13) (n := 46) (r := false) (v := 0) tyX5 tyX5_ok nmX5 dX5_openRoutine_121 rfl lay_5 (by decide) fl5_133 rfl (tyX5_ok 13 (by decide)) rfl rfl rfl ha rfl rfl ?_
      refine tn_aload_n dX5_openRoutine_124 rfl 1 rfl ?_
      refine tn_iconst dX5_openRoutine_125 ?_
      refine tn_putV (ci := 5) (i := 14) (n := 47) (r := false) (v := 0) tyX5 tyX5_ok nmX5 dX5_openRoutine_126 rfl lay_5 (by decide) fl5_136 rfl (tyX5_ok 14 (by decide)) rfl rfl rfl ha rfl rfl ?_
      exact tn_vret rfl dX5_openRoutine_129 ⟨rfl, rfl, (((w161.put (by decide) (by decide) (fo_38 (by omega))).put (by decide) (by decide) (fo_46 (by omega))).put (by decide) (by decide) (fo_47 (by omega))), ((((((((FrC.rfl.trans (FrC.sub F119 (by decide))).put (by decide) (by decide)).trans (FrC.sub F140 (by decide))).trans (FrC.sub F151 (by decide))).trans (FrC.sub F162 (by decide))).put (by decide) (by decide)).put (by decide) (by decide)).put (by decide) (by decide)), (RP.new (RT.frc hrt (show FrC T [6, 7, 8, 9, 10, 35, 38, 43, 44, 46, 47] σ (sA 47 a (0) (sA 46 a (0) (sA 38 a (z163) σ157))) from ((((((((FrC.rfl.trans (FrC.sub F119 (by decide))).put (by decide) (by decide)).trans (FrC.sub F140 (by decide))).trans (FrC.sub F151 (by decide))).trans (FrC.sub F162 (by decide))).put (by decide) (by decide)).put (by decide) (by decide)).put (by decide) (by decide))) (by decide) (by decide) (by decide)) (((w161.put (by decide) (by decide) (fo_38 (by omega))).put (by decide) (by decide) (fo_46 (by omega))).put (by decide) (by decide) (fo_47 (by omega))) ha (rc_o (by decide) (rc_o (by decide) (rc_o (by decide) (rc_F F162 (Or.inl (by decide)) (by decide) (rc_F F151 (Or.inl (by decide)) (by decide) (rc_F F140 (Or.inl (by decide)) (by decide) (ra_eq))))))) (by rw [show (sA 47 a (0) (sA 46 a (0) (sA 38 a (z163) σ157))).2.1 6 x130 = σ134.2.1 6 x130 from rc_o (by decide) (rc_o (by decide) (rc_o (by decide) (rc_F F162 (Or.inl (by decide)) (by decide) (rc_F F151 (Or.inl (by decide)) (by decide) (rfl)))))]; omega))⟩
    · refine tn_aload_n dX5_openRoutine_30 rfl 0 rfl ?_
      refine tn_iconst dX5_openRoutine_31 ?_
      refine tn_aload_n dX5_openRoutine_32 rfl 0 rfl ?_
      refine tn_getR (ci := 5) (i := 0) (n := 33) (x := x108) dX5_openRoutine_33 rfl lay_5 (by decide) fl5_12 ha rfl rfl (rc_F F119 (Or.inl (by decide)) (by decide) (hx109)) ?_
      refine tn_getI (ci := 9) (i := 6) (n := 87) (t := σ.2.1 87 x108) dX5_openRoutine_36 rfl lay_9 (by decide) fl5_74 hk110o rfl rfl (rc_F F119 (Or.inl (by decide)) (by decide) (rfl)) ?_
      refine tn_callV (M := m_X5_openRoutine) (pc := 39) (ix := 113) (ci := 5) (M' := m_X5_note) (As := [.int (iI 5), .int (iI (σ.2.1 87 x108))]) (rest := []) dX5_openRoutine_39 ok_X5_note im_X5_note se_X5_note ml5_113 np_X5_note rfl rfl ha rfl (Nat.le_of_ble_eq_true rfl) (Nat.le_of_ble_eq_true rfl) rfl (k_X5_note (d + 1) (T := T) (σ := σ114) (a := a) (p1 := 5) (p2 := σ.2.1 87 x108) ha (by decide) (by omega) w118 ) (fun r165 T167 σ166 gt168 hp => ?_)
      obtain ⟨rfl, rfl, w170, F171⟩ := hp
      clear gt168
      show Tn _ _ 42 T σ166 [(0, .ref a), (1, .int (iI k))] [] _
      refine tn_iconst dX5_openRoutine_42 ?_
      refine tn_aload_n dX5_openRoutine_43 rfl 0 rfl ?_
      refine tn_getI (ci := 5) (i := 5) (n := 38) (t := σ.2.1 38 a) dX5_openRoutine_44 rfl lay_5 (by decide) fl5_58 ha rfl rfl (rc_F F171 (Or.inl (by decide)) (by decide) (rc_F F119 (Or.inl (by decide)) (by decide) (rfl))) ?_
      refine tn_aload_n dX5_openRoutine_47 rfl 0 rfl ?_
      obtain ⟨x172, hx173, hk174, hl175⟩ : ∃ x : Nat, σ.2.1 34 a = (x : Int) ∧ AR T x 4 7 7 := wf_34 hw ha
      have hk174i : (T x172).1 = 4 ∨ (T x172).1 = 5 := by omega
      refine tn_getR (ci := 5) (i := 1) (n := 34) (x := x172) dX5_openRoutine_48 rfl lay_5 (by decide) fl5_20 ha rfl rfl (rc_F F171 (Or.inl (by decide)) (by decide) (rc_F F119 (Or.inl (by decide)) (by decide) (hx173))) ?_
      refine tn_alenX dX5_openRoutine_51 (by have q9 := hk174i; omega) ?_
      refine tn_iconst dX5_openRoutine_52 ?_
      refine tn_isub dX5_openRoutine_53 ?_
      refine tn_mmin (x := σ.2.1 38 a) (y := (((T x172).2 : Int)) - 1) dX5_openRoutine_54 mlm5_117 stM_min iniM cdM_min (by omega) (Nat.le_of_ble_eq_true rfl) ⟨by omega, by omega⟩ ⟨by omega, by omega⟩ (fun z176 g177 => ?_)
      refine tn_mmax (x := 0) (y := z176) dX5_openRoutine_57 mlm5_123 stM_max iniM cdM_max (by omega) (Nat.le_of_ble_eq_true rfl) ⟨by omega, by omega⟩ ⟨by omega, by omega⟩ (fun z178 g179 => ?_)
      refine tn_istore_n (L' := [(2, .int (iI z178)), (0, .ref a), (1, .int (iI k))]) dX5_openRoutine_60 rfl (by decide) rfl ?_
      refine tn_aload_n dX5_openRoutine_61 rfl 1 rfl ?_
      refine tn_aload_n dX5_openRoutine_62 rfl 1 rfl ?_
      refine tn_getR (ci := 5) (i := 1) (n := 34) (x := x172) dX5_openRoutine_63 rfl lay_5 (by decide) fl5_20 ha rfl rfl (rc_F F171 (Or.inl (by decide)) (by decide) (rc_F F119 (Or.inl (by decide)) (by decide) (hx173))) ?_
      refine tn_iload_n dX5_openRoutine_66 rfl 0 rfl ?_
      obtain ⟨x180, hx181, hk182⟩ := (w170).2.2.2.1.1 x172 hk174 (z178) (by omega) (by omega)
      refine tn_aald (z := z178) (x := x180) dX5_openRoutine_67 hk174i (by omega) (by omega) (by omega) hx181 ?_
      have hk182o : OB T x180 1 := ⟨by omega, by rw [hk182]; rfl, by omega⟩
      refine tn_putV (ci := 5) (i := 2) (n := 35) (r := true) (v := (x180 : Int)) tyX5 tyX5_ok nmX5 dX5_openRoutine_68 rfl lay_5 (by decide) fl5_47 rfl (tyX5_ok 2 (by decide)) (vl_ref rfl).symm rfl rfl ha rfl rfl ?_
      refine tn_aload_n dX5_openRoutine_71 rfl 1 rfl ?_
      refine tn_getR (ci := 5) (i := 2) (n := 35) (x := x180) dX5_openRoutine_72 rfl lay_5 (by decide) fl5_47 ha rfl rfl (ra_eq) ?_
      refine tn_iload_n dX5_openRoutine_75 rfl 0 rfl ?_
      refine tn_callV (M := m_X5_openRoutine) (pc := 76) (ix := 126) (ci := 1) (M' := m_X1_empty) (As := [.int (iI z178)]) (rest := []) dX5_openRoutine_76 ok_X1_empty im_X1_empty se_X1_empty ml5_126 np_X1_empty rfl rfl hk182o rfl (Nat.le_of_ble_eq_true rfl) (Nat.le_of_ble_eq_true rfl) rfl (k_X1_empty (d) (T := T) (σ := (sA 35 a ((x180 : Int)) σ166)) (a := x180) (r := z178) hk182o (by omega) (w170.put (by decide) (by decide) (fo_35 ⟨_, rfl, hk182⟩)) ) (fun r183 T185 σ184 gt186 hp => ?_)
      obtain ⟨rfl, rfl, w189, F190, f187⟩ := hp
      clear gt186
      show Tn _ _ 79 T σ184 [(2, .int (iI z178)), (0, .ref a), (1, .int (iI k))] [] _
      refine tn_aload_n dX5_openRoutine_79 rfl 1 rfl ?_
      obtain ⟨x191, hx192, hk193, hl194⟩ : ∃ x : Nat, σ.2.1 36 a = (x : Int) ∧ AR T x 1 256 256 := wf_36 hw ha
      have hk193i : IA T x191 := by unfold IA; omega
      refine tn_getR (ci := 5) (i := 3) (n := 36) (x := x191) dX5_openRoutine_80 rfl lay_5 (by decide) fl5_24 ha rfl rfl (rc_F F190 (Or.inl (by decide)) (by decide) (rc_o (by decide) (rc_F F171 (Or.inl (by decide)) (by decide) (rc_F F119 (Or.inl (by decide)) (by decide) (hx192))))) ?_
      refine tn_aload_n dX5_openRoutine_83 rfl 1 rfl ?_
      refine tn_getI (ci := 5) (i := 5) (n := 38) (t := σ.2.1 38 a) dX5_openRoutine_84 rfl lay_5 (by decide) fl5_58 ha rfl rfl (rc_F F190 (Or.inl (by decide)) (by decide) (rc_o (by decide) (rc_F F171 (Or.inl (by decide)) (by decide) (rc_F F119 (Or.inl (by decide)) (by decide) (rfl))))) ?_
      refine tn_iload_n dX5_openRoutine_87 rfl 2 rfl ?_
      refine tn_callSN (M := m_X5_openRoutine) (pc := 88) (ix := 129) (M' := m_X11_put) (As := [.ref x191, .int (iI (σ.2.1 38 a)), .int (iI k)]) (rest := []) dX5_openRoutine_88 ok_X11_put stt_X11_put nl5_129 np_X11_put rfl (Nat.le_of_ble_eq_true rfl) (Nat.le_of_ble_eq_true rfl) rfl (k_X11_put (d + 1) (T := T) (σ := σ184) (x := x191) (i := σ.2.1 38 a) (y := k) hk193i (by omega) (by omega) (by omega) w189 ((by have q9 := hk193; omega)) (vok_1 (by have q9 := hk193; omega) (by omega))) (fun r195 T197 σ196 gt198 hp => ?_)
      obtain ⟨rfl, rfl, w200, F201⟩ := hp
      clear gt198
      show Tn _ _ 91 T σ196 [(2, .int (iI z178)), (0, .ref a), (1, .int (iI k))] [] _
      refine tn_aload_n dX5_openRoutine_91 rfl 1 rfl ?_
      obtain ⟨x202, hx203, hk204, hl205⟩ : ∃ x : Nat, σ.2.1 37 a = (x : Int) ∧ AR T x 1 256 256 := wf_37 hw ha
      have hk204i : IA T x202 := by unfold IA; omega
      refine tn_getR (ci := 5) (i := 4) (n := 37) (x := x202) dX5_openRoutine_92 rfl lay_5 (by decide) fl5_28 ha rfl rfl (rc_F F201 (Or.inl (by decide)) (by decide) (rc_F F190 (Or.inl (by decide)) (by decide) (rc_o (by decide) (rc_F F171 (Or.inl (by decide)) (by decide) (rc_F F119 (Or.inl (by decide)) (by decide) (hx203)))))) ?_
      refine tn_aload_n dX5_openRoutine_95 rfl 1 rfl ?_
      refine tn_getI (ci := 5) (i := 5) (n := 38) (t := σ.2.1 38 a) dX5_openRoutine_96 rfl lay_5 (by decide) fl5_58 ha rfl rfl (rc_F F201 (Or.inl (by decide)) (by decide) (rc_F F190 (Or.inl (by decide)) (by decide) (rc_o (by decide) (rc_F F171 (Or.inl (by decide)) (by decide) (rc_F F119 (Or.inl (by decide)) (by decide) (rfl)))))) ?_
      refine tn_iconst dX5_openRoutine_99 ?_
      refine tn_callSN (M := m_X5_openRoutine) (pc := 100) (ix := 129) (M' := m_X11_put) (As := [.ref x202, .int (iI (σ.2.1 38 a)), .int (iI 0)]) (rest := []) dX5_openRoutine_100 ok_X11_put stt_X11_put nl5_129 np_X11_put rfl (Nat.le_of_ble_eq_true rfl) (Nat.le_of_ble_eq_true rfl) rfl (k_X11_put (d + 1) (T := T) (σ := σ196) (x := x202) (i := σ.2.1 38 a) (y := 0) hk204i (by omega) (by omega) (by decide) w200 ((by have q9 := hk204; omega)) vok_0) (fun r206 T208 σ207 gt209 hp => ?_)
      obtain ⟨rfl, rfl, w211, F212⟩ := hp
      clear gt209
      show Tn _ _ 103 T σ207 [(2, .int (iI z178)), (0, .ref a), (1, .int (iI k))] [] _
      refine tn_aload_n dX5_openRoutine_103 rfl 1 rfl ?_
      refine tn_aload_n dX5_openRoutine_104 rfl 1 rfl ?_
      refine tn_getI (ci := 5) (i := 5) (n := 38) (t := σ.2.1 38 a) dX5_openRoutine_105 rfl lay_5 (by decide) fl5_58 ha rfl rfl (rc_F F212 (Or.inl (by decide)) (by decide) (rc_F F201 (Or.inl (by decide)) (by decide) (rc_F F190 (Or.inl (by decide)) (by decide) (rc_o (by decide) (rc_F F171 (Or.inl (by decide)) (by decide) (rc_F F119 (Or.inl (by decide)) (by decide) (rfl))))))) ?_
      refine tn_iconst dX5_openRoutine_108 ?_
      refine tn_iadd dX5_openRoutine_109 ?_
      refine tn_sipush dX5_openRoutine_110 (by decide) ?_
      refine tn_mmin (x := (σ.2.1 38 a) + 1) (y := 256) dX5_openRoutine_113 mlm5_117 stM_min iniM cdM_min (by omega) (Nat.le_of_ble_eq_true rfl) ⟨by omega, by omega⟩ ⟨by omega, by omega⟩ (fun z213 g214 => ?_)
      refine tn_putV (ci := 5) (i := 5) (n := 38) (r := false) (v := z213) tyX5 tyX5_ok nmX5 dX5_openRoutine_116 rfl lay_5 (by decide) fl5_58 rfl (tyX5_ok 5 (by decide)) rfl rfl rfl ha rfl rfl ?_
      refine tn_aload_n dX5_openRoutine_119 rfl 1 rfl ?_
      refine tn_iconst dX5_openRoutine_120 ?_
      refine tn_putV (ci := 5) (i := 13) (n := 46) (r := false) (v := 0) tyX5 tyX5_ok nmX5 dX5_openRoutine_121 rfl lay_5 (by decide) fl5_133 rfl (tyX5_ok 13 (by decide)) rfl rfl rfl ha rfl rfl ?_
      refine tn_aload_n dX5_openRoutine_124 rfl 1 rfl ?_
      refine tn_iconst dX5_openRoutine_125 ?_
      refine tn_putV (ci := 5) (i := 14) (n := 47) (r := false) (v := 0) tyX5 tyX5_ok nmX5 dX5_openRoutine_126 rfl lay_5 (by decide) fl5_136 rfl (tyX5_ok 14 (by decide)) rfl rfl rfl ha rfl rfl ?_
      exact tn_vret rfl dX5_openRoutine_129 ⟨rfl, rfl, (((w211.put (by decide) (by decide) (fo_38 (by omega))).put (by decide) (by decide) (fo_46 (by omega))).put (by decide) (by decide) (fo_47 (by omega))), (((((((((FrC.rfl.trans (FrC.sub F119 (by decide))).trans (FrC.sub F171 (by decide))).put (by decide) (by decide)).trans (FrC.sub F190 (by decide))).trans (FrC.sub F201 (by decide))).trans (FrC.sub F212 (by decide))).put (by decide) (by decide)).put (by decide) (by decide)).put (by decide) (by decide)), (RP.new (RT.frc hrt (show FrC T [6, 7, 8, 9, 10, 35, 38, 43, 44, 46, 47] σ (sA 47 a (0) (sA 46 a (0) (sA 38 a (z213) σ207))) from (((((((((FrC.rfl.trans (FrC.sub F119 (by decide))).trans (FrC.sub F171 (by decide))).put (by decide) (by decide)).trans (FrC.sub F190 (by decide))).trans (FrC.sub F201 (by decide))).trans (FrC.sub F212 (by decide))).put (by decide) (by decide)).put (by decide) (by decide)).put (by decide) (by decide))) (by decide) (by decide) (by decide)) (((w211.put (by decide) (by decide) (fo_38 (by omega))).put (by decide) (by decide) (fo_46 (by omega))).put (by decide) (by decide) (fo_47 (by omega))) ha (rc_o (by decide) (rc_o (by decide) (rc_o (by decide) (rc_F F212 (Or.inl (by decide)) (by decide) (rc_F F201 (Or.inl (by decide)) (by decide) (rc_F F190 (Or.inl (by decide)) (by decide) (ra_eq))))))) (by rw [show (sA 47 a (0) (sA 46 a (0) (sA 38 a (z213) σ207))).2.1 6 x180 = σ184.2.1 6 x180 from rc_o (by decide) (rc_o (by decide) (rc_o (by decide) (rc_F F212 (Or.inl (by decide)) (by decide) (rc_F F201 (Or.inl (by decide)) (by decide) (rfl)))))]; omega))⟩
