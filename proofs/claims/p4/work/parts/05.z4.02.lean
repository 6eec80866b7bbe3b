theorem cd_X5_openRoutine : Cond.code yX5_openRoutine cX5_openRoutine 3 none ∈ pWW := pw3 (List.mem_of_getElem? (i := 72) rfl) rfl
abbrev m_X5_openRoutine : MT := (yX5_openRoutine, cX5_openRoutine, 3, none)
theorem ok_X5_openRoutine : pOk m_X5_openRoutine := ⟨⟨cd_X5_openRoutine, ini_5⟩, by decide +kernel, ⟨by decide +kernel, by decide +kernel⟩, Nat.le_of_ble_eq_true rfl⟩
theorem np_X5_openRoutine : (parseMethodDescriptor yX5_openRoutine.desc).map (fun d => d.parameters.length) = some 1 := by decide +kernel
theorem im_X5_openRoutine : Cond.instanceMethod yX5_openRoutine ∈ pWW := pw3 (List.mem_of_getElem? (i := 71) rfl) rfl
theorem se_X5_openRoutine : Cond.selects RX5 yX5_openRoutine yX5_openRoutine ∈ pWW := pws (List.mem_map.mpr ⟨_, lw_pin 6 rfl, rfl⟩) rfl
theorem ml5_109 : Cond.methodLink RX5 109 yX5_routineOf ∈ pWW := pw3 (List.mem_of_getElem? (i := 73) rfl) rfl
theorem mlm5_123 : Cond.methodLink RX5 123 Lib.Math.max.name ∈ pWW := pw3 (List.mem_of_getElem? (i := 85) rfl) rfl
theorem ml5_126 : Cond.methodLink RX5 126 yX1_empty ∈ pWW := pw3 (List.mem_of_getElem? (i := 86) rfl) rfl
theorem fl5_28 : Cond.fieldLink RX5 28 (TX5 4).1 (TX5 4).2.1 (TX5 4).2.2.1 ∈ pWW := pw1 (List.mem_of_getElem? (i := 157) rfl) rfl
theorem dX5_openRoutine_0 : decode cX5_openRoutine 0 = .ok (.aload_n 0, 1) := by decide +kernel
theorem dX5_openRoutine_1 : decode cX5_openRoutine 1 = .ok (.iload_n 1, 1) := by decide +kernel
theorem dX5_openRoutine_2 : decode cX5_openRoutine 2 = .ok (.invokevirtual 109, 3) := by decide +kernel
theorem dX5_openRoutine_5 : decode cX5_openRoutine 5 = .ok (.iconst (-1), 1) := by decide +kernel
theorem dX5_openRoutine_6 : decode cX5_openRoutine 6 = .ok (.if_icmp .eq 15, 3) := by decide +kernel
theorem dX5_openRoutine_21 : decode cX5_openRoutine 21 = .ok (.aload_n 0, 1) := by decide +kernel
theorem dX5_openRoutine_22 : decode cX5_openRoutine 22 = .ok (.getfield 58, 3) := by decide +kernel
theorem dX5_openRoutine_25 : decode cX5_openRoutine 25 = .ok (.bipush 6, 2) := by decide +kernel
theorem dX5_openRoutine_27 : decode cX5_openRoutine 27 = .ok (.if_icmp .lt 15, 3) := by decide +kernel
theorem dX5_openRoutine_42 : decode cX5_openRoutine 42 = .ok (.iconst 0, 1) := by decide +kernel
theorem dX5_openRoutine_43 : decode cX5_openRoutine 43 = .ok (.aload_n 0, 1) := by decide +kernel
theorem dX5_openRoutine_44 : decode cX5_openRoutine 44 = .ok (.getfield 58, 3) := by decide +kernel
theorem dX5_openRoutine_47 : decode cX5_openRoutine 47 = .ok (.aload_n 0, 1) := by decide +kernel
theorem dX5_openRoutine_48 : decode cX5_openRoutine 48 = .ok (.getfield 20, 3) := by decide +kernel
theorem dX5_openRoutine_51 : decode cX5_openRoutine 51 = .ok (.arraylength, 1) := by decide +kernel
theorem dX5_openRoutine_52 : decode cX5_openRoutine 52 = .ok (.iconst 1, 1) := by decide +kernel
theorem dX5_openRoutine_53 : decode cX5_openRoutine 53 = .ok (.isub, 1) := by decide +kernel
theorem dX5_openRoutine_54 : decode cX5_openRoutine 54 = .ok (.invokestatic 117, 3) := by decide +kernel
theorem dX5_openRoutine_57 : decode cX5_openRoutine 57 = .ok (.invokestatic 123, 3) := by decide +kernel
theorem dX5_openRoutine_60 : decode cX5_openRoutine 60 = .ok (.istore_n 2, 1) := by decide +kernel
theorem dX5_openRoutine_61 : decode cX5_openRoutine 61 = .ok (.aload_n 0, 1) := by decide +kernel
theorem dX5_openRoutine_62 : decode cX5_openRoutine 62 = .ok (.aload_n 0, 1) := by decide +kernel
theorem dX5_openRoutine_63 : decode cX5_openRoutine 63 = .ok (.getfield 20, 3) := by decide +kernel
theorem dX5_openRoutine_66 : decode cX5_openRoutine 66 = .ok (.iload_n 2, 1) := by decide +kernel
theorem dX5_openRoutine_67 : decode cX5_openRoutine 67 = .ok (.aaload, 1) := by decide +kernel
theorem dX5_openRoutine_68 : decode cX5_openRoutine 68 = .ok (.putfield 47, 3) := by decide +kernel
theorem dX5_openRoutine_71 : decode cX5_openRoutine 71 = .ok (.aload_n 0, 1) := by decide +kernel
theorem dX5_openRoutine_72 : decode cX5_openRoutine 72 = .ok (.getfield 47, 3) := by decide +kernel
theorem dX5_openRoutine_75 : decode cX5_openRoutine 75 = .ok (.iload_n 2, 1) := by decide +kernel
theorem dX5_openRoutine_76 : decode cX5_openRoutine 76 = .ok (.invokevirtual 126, 3) := by decide +kernel
theorem dX5_openRoutine_79 : decode cX5_openRoutine 79 = .ok (.aload_n 0, 1) := by decide +kernel
theorem dX5_openRoutine_80 : decode cX5_openRoutine 80 = .ok (.getfield 24, 3) := by decide +kernel
theorem dX5_openRoutine_83 : decode cX5_openRoutine 83 = .ok (.aload_n 0, 1) := by decide +kernel
theorem dX5_openRoutine_84 : decode cX5_openRoutine 84 = .ok (.getfield 58, 3) := by decide +kernel
theorem dX5_openRoutine_87 : decode cX5_openRoutine 87 = .ok (.iload_n 1, 1) := by decide +kernel
theorem dX5_openRoutine_88 : decode cX5_openRoutine 88 = .ok (.invokestatic 129, 3) := by decide +kernel
theorem dX5_openRoutine_91 : decode cX5_openRoutine 91 = .ok (.aload_n 0, 1) := by decide +kernel
theorem dX5_openRoutine_92 : decode cX5_openRoutine 92 = .ok (.getfield 28, 3) := by decide +kernel
theorem dX5_openRoutine_95 : decode cX5_openRoutine 95 = .ok (.aload_n 0, 1) := by decide +kernel
theorem dX5_openRoutine_96 : decode cX5_openRoutine 96 = .ok (.getfield 58, 3) := by decide +kernel
theorem dX5_openRoutine_99 : decode cX5_openRoutine 99 = .ok (.iconst 0, 1) := by decide +kernel
theorem dX5_openRoutine_100 : decode cX5_openRoutine 100 = .ok (.invokestatic 129, 3) := by decide +kernel
theorem dX5_openRoutine_103 : decode cX5_openRoutine 103 = .ok (.aload_n 0, 1) := by decide +kernel
theorem dX5_openRoutine_104 : decode cX5_openRoutine 104 = .ok (.aload_n 0, 1) := by decide +kernel
theorem dX5_openRoutine_105 : decode cX5_openRoutine 105 = .ok (.getfield 58, 3) := by decide +kernel
theorem dX5_openRoutine_108 : decode cX5_openRoutine 108 = .ok (.iconst 1, 1) := by decide +kernel
theorem dX5_openRoutine_109 : decode cX5_openRoutine 109 = .ok (.iadd, 1) := by decide +kernel
theorem dX5_openRoutine_110 : decode cX5_openRoutine 110 = .ok (.sipush 256, 3) := by decide +kernel
theorem dX5_openRoutine_113 : decode cX5_openRoutine 113 = .ok (.invokestatic 117, 3) := by decide +kernel
theorem dX5_openRoutine_116 : decode cX5_openRoutine 116 = .ok (.putfield 58, 3) := by decide +kernel
theorem dX5_openRoutine_119 : decode cX5_openRoutine 119 = .ok (.aload_n 0, 1) := by decide +kernel
theorem dX5_openRoutine_120 : decode cX5_openRoutine 120 = .ok (.iconst 0, 1) := by decide +kernel
theorem dX5_openRoutine_121 : decode cX5_openRoutine 121 = .ok (.putfield 133, 3) := by decide +kernel
theorem dX5_openRoutine_124 : decode cX5_openRoutine 124 = .ok (.aload_n 0, 1) := by decide +kernel
theorem dX5_openRoutine_125 : decode cX5_openRoutine 125 = .ok (.iconst 0, 1) := by decide +kernel
theorem dX5_openRoutine_126 : decode cX5_openRoutine 126 = .ok (.putfield 136, 3) := by decide +kernel
theorem dX5_openRoutine_129 : decode cX5_openRoutine 129 = .ok (.return_, 1) := by decide +kernel
theorem dX5_openRoutine_30 : decode cX5_openRoutine 30 = .ok (.aload_n 0, 1) := by decide +kernel
theorem dX5_openRoutine_31 : decode cX5_openRoutine 31 = .ok (.iconst 5, 1) := by decide +kernel
theorem dX5_openRoutine_32 : decode cX5_openRoutine 32 = .ok (.aload_n 0, 1) := by decide +kernel
theorem dX5_openRoutine_33 : decode cX5_openRoutine 33 = .ok (.getfield 12, 3) := by decide +kernel
theorem dX5_openRoutine_36 : decode cX5_openRoutine 36 = .ok (.getfield 74, 3) := by decide +kernel
theorem dX5_openRoutine_39 : decode cX5_openRoutine 39 = .ok (.invokevirtual 113, 3) := by decide +kernel
theorem dX5_openRoutine_9 : decode cX5_openRoutine 9 = .ok (.aload_n 0, 1) := by decide +kernel
theorem dX5_openRoutine_10 : decode cX5_openRoutine 10 = .ok (.iconst 2, 1) := by decide +kernel
theorem dX5_openRoutine_11 : decode cX5_openRoutine 11 = .ok (.aload_n 0, 1) := by decide +kernel
theorem dX5_openRoutine_12 : decode cX5_openRoutine 12 = .ok (.getfield 12, 3) := by decide +kernel
theorem dX5_openRoutine_15 : decode cX5_openRoutine 15 = .ok (.getfield 74, 3) := by decide +kernel
theorem dX5_openRoutine_18 : decode cX5_openRoutine 18 = .ok (.invokevirtual 113, 3) := by decide +kernel
set_option maxRecDepth 20000 in
theorem k_X5_openRoutine (d : Nat) {T : CT} {σ : MS} {a : Nat} {k : Int} (ha : OB T a 5) (h_k : -2147483648 ≤ k ∧ k ≤ 2147483647) (hw : WT T σ) (hrt : RT σ a) : Tn (d + 3) m_X5_openRoutine 0 T σ [(0, .ref a), (1, .int (iI k))] [] (fun ro T2 σ2 => ro = none ∧ T = T2 ∧ WT T2 σ2 ∧ FrC T [6, 7, 8, 9, 10, 35, 38, 43, 44, 46, 47, 516, 517] σ σ2 ∧ (RP σ2 a 4)) := by
  refine tn_aload_n dX5_openRoutine_0 rfl 0 rfl ?_
  refine tn_iload_n dX5_openRoutine_1 rfl 1 rfl ?_
  refine tn_callV (M := m_X5_openRoutine) (pc := 2) (ix := 109) (ci := 5) (M' := m_X5_routineOf) (As := [.int (iI k)]) (rest := []) dX5_openRoutine_2 ok_X5_routineOf im_X5_routineOf se_X5_routineOf ml5_109 np_X5_routineOf rfl rfl ha rfl (Nat.le_of_ble_eq_true rfl) (Nat.le_of_ble_eq_true rfl) rfl (k_X5_routineOf (d) (T := T) (σ := σ) (a := a) (k := k) ha (by omega) hw ) (fun r1 T3 σ2 gt4 hp => ?_)
  obtain ⟨v6, rfl, rfl, rfl, f5⟩ := hp
  clear gt4
  show Tn _ _ 5 T σ [(0, .ref a), (1, .int (iI k))] [.int (iI v6)] _
  refine tn_iconst dX5_openRoutine_5 ?_
  refine tn_icmp_eq (tgt := 21) dX5_openRoutine_6 (by decide) ⟨by omega, by omega⟩ ⟨by decide, by decide⟩ (fun h7 => ?_) (fun h7 => ?_)
  · refine tn_aload_n dX5_openRoutine_21 rfl 0 rfl ?_
    refine tn_getI (ci := 5) (i := 5) (n := 38) (t := σ.2.1 38 a) dX5_openRoutine_22 rfl lay_5 (by decide) fl5_58 ha rfl rfl (rfl) ?_
    have g8 : ((0 : Int) ≤ σ.2.1 38 a ∧ σ.2.1 38 a ≤ 256) := wf_38 hw ha
    refine tn_bipush dX5_openRoutine_25 (by decide) ?_
    refine tn_icmp_lt (tgt := 42) dX5_openRoutine_27 (by decide) ⟨by omega, by omega⟩ ⟨by decide, by decide⟩ (fun h9 => ?_) (fun h9 => ?_)
    · refine tn_iconst dX5_openRoutine_42 ?_
      refine tn_aload_n dX5_openRoutine_43 rfl 0 rfl ?_
      refine tn_getI (ci := 5) (i := 5) (n := 38) (t := σ.2.1 38 a) dX5_openRoutine_44 rfl lay_5 (by decide) fl5_58 ha rfl rfl (rfl) ?_
      refine tn_aload_n dX5_openRoutine_47 rfl 0 rfl ?_
      obtain ⟨x10, hx11, hk12, hl13⟩ : ∃ x : Nat, σ.2.1 34 a = (x : Int) ∧ AR T x 4 7 7 := wf_34 hw ha
      have hk12i : (T x10).1 = 4 ∨ (T x10).1 = 5 := by omega
      refine tn_getR (ci := 5) (i := 1) (n := 34) (x := x10) dX5_openRoutine_48 rfl lay_5 (by decide) fl5_20 ha rfl rfl (hx11) ?_
      refine tn_alenX dX5_openRoutine_51 (by have q9 := hk12i; omega) ?_
      refine tn_iconst dX5_openRoutine_52 ?_
      refine tn_isub dX5_openRoutine_53 ?_
      refine tn_mmin (x := σ.2.1 38 a) (y := (((T x10).2 : Int)) - 1) dX5_openRoutine_54 mlm5_117 stM_min iniM cdM_min (by omega) (Nat.le_of_ble_eq_true rfl) ⟨by omega, by omega⟩ ⟨by omega, by omega⟩ (fun z14 g15 => ?_)
      refine tn_mmax (x := 0) (y := z14) dX5_openRoutine_57 mlm5_123 stM_max iniM cdM_max (by omega) (Nat.le_of_ble_eq_true rfl) ⟨by omega, by omega⟩ ⟨by omega, by omega⟩ (fun z16 g17 => ?_)
      refine tn_istore_n (L' := [(2, .int (iI z16)), (0, .ref a), (1, .int (iI k))]) dX5_openRoutine_60 rfl (by decide) rfl ?_
      refine tn_aload_n dX5_openRoutine_61 rfl 1 rfl ?_
      refine tn_aload_n dX5_openRoutine_62 rfl 1 rfl ?_
      refine tn_getR (ci := 5) (i := 1) (n := 34) (x := x10) dX5_openRoutine_63 rfl lay_5 (by decide) fl5_20 ha rfl rfl (hx11) ?_
      refine tn_iload_n dX5_openRoutine_66 rfl 0 rfl ?_
      obtain ⟨x18, hx19, hk20⟩ := (hw).2.2.2.1.1 x10 hk12 (z16) (by omega) (by omega)
      refine tn_aald (z := z16) (x := x18) dX5_openRoutine_67 hk12i (by omega) (by omega) (by omega) hx19 ?_
      have hk20o : OB T x18 1 := ⟨by omega, by rw [hk20]; rfl, by omega⟩
      refine tn_putV (ci := 5) (i := 2) (n := 35) (r := true) (v := (x18 : Int)) tyX5 tyX5_ok nmX5 dX5_openRoutine_68 rfl lay_5 (by decide) fl5_47 rfl (tyX5_ok 2 (by decide)) (vl_ref rfl).symm rfl rfl ha rfl rfl ?_
      refine tn_aload_n dX5_openRoutine_71 rfl 1 rfl ?_
      refine tn_getR (ci := 5) (i := 2) (n := 35) (x := x18) dX5_openRoutine_72 rfl lay_5 (by decide) fl5_47 ha rfl rfl (ra_eq) ?_
      refine tn_iload_n dX5_openRoutine_75 rfl 0 rfl ?_
      refine tn_callV (M := m_X5_openRoutine) (pc := 76) (ix := 126) (ci := 1) (M' := m_X1_empty) (As := [.int (iI z16)]) (rest := []) dX5_openRoutine_76 ok_X1_empty im_X1_empty se_X1_empty ml5_126 np_X1_empty rfl rfl hk20o rfl (Nat.le_of_ble_eq_true rfl) (Nat.le_of_ble_eq_true rfl) rfl (k_X1_empty (d) (T := T) (σ := (sA 35 a ((x18 : Int)) σ)) (a := x18) (r := z16) hk20o (by omega) (hw.put (by decide) (by decide) (fo_35 ⟨_, rfl, hk20⟩)) ) (fun r21 T23 σ22 gt24 hp => ?_)
      obtain ⟨rfl, rfl, w27, F28, f25⟩ := hp
      clear gt24
      show Tn _ _ 79 T σ22 [(2, .int (iI z16)), (0, .ref a), (1, .int (iI k))] [] _
      refine tn_aload_n dX5_openRoutine_79 rfl 1 rfl ?_
      obtain ⟨x29, hx30, hk31, hl32⟩ : ∃ x : Nat, σ.2.1 36 a = (x : Int) ∧ AR T x 16 256 256 := wf_36 hw ha
      have hk31i : IA T x29 := by unfold IA; omega
      refine tn_getR (ci := 5) (i := 3) (n := 36) (x := x29) dX5_openRoutine_80 rfl lay_5 (by decide) fl5_24 ha rfl rfl (rc_F F28 (Or.inl (by decide)) (by decide) (rc_o (by decide) (hx30))) ?_
      refine tn_aload_n dX5_openRoutine_83 rfl 1 rfl ?_
      refine tn_getI (ci := 5) (i := 5) (n := 38) (t := σ.2.1 38 a) dX5_openRoutine_84 rfl lay_5 (by decide) fl5_58 ha rfl rfl (rc_F F28 (Or.inl (by decide)) (by decide) (rc_o (by decide) (rfl))) ?_
      refine tn_iload_n dX5_openRoutine_87 rfl 2 rfl ?_
      refine tn_callSN (M := m_X5_openRoutine) (pc := 88) (ix := 129) (M' := m_X11_put) (As := [.ref x29, .int (iI (σ.2.1 38 a)), .int (iI k)]) (rest := []) dX5_openRoutine_88 ok_X11_put stt_X11_put nl5_129 np_X11_put rfl (Nat.le_of_ble_eq_true rfl) (Nat.le_of_ble_eq_true rfl) rfl (k_X11_put_16 (d + 1) (T := T) (σ := σ22) (x := x29) (i := σ.2.1 38 a) (y := k) hk31i (by omega) hk31 (by omega) (by omega) w27 ) (fun r33 T35 σ34 gt36 hp => ?_)
      obtain ⟨rfl, rfl, w39, F40, f37⟩ := hp
      clear gt36
      show Tn _ _ 91 T σ34 [(2, .int (iI z16)), (0, .ref a), (1, .int (iI k))] [] _
      refine tn_aload_n dX5_openRoutine_91 rfl 1 rfl ?_
      obtain ⟨x41, hx42, hk43, hl44⟩ : ∃ x : Nat, σ.2.1 37 a = (x : Int) ∧ AR T x 17 256 256 := wf_37 hw ha
      have hk43i : IA T x41 := by unfold IA; omega
      refine tn_getR (ci := 5) (i := 4) (n := 37) (x := x41) dX5_openRoutine_92 rfl lay_5 (by decide) fl5_28 ha rfl rfl (rc_F F40 (Or.inl (by decide)) (by decide) (rc_F F28 (Or.inl (by decide)) (by decide) (rc_o (by decide) (hx42)))) ?_
      refine tn_aload_n dX5_openRoutine_95 rfl 1 rfl ?_
      refine tn_getI (ci := 5) (i := 5) (n := 38) (t := σ.2.1 38 a) dX5_openRoutine_96 rfl lay_5 (by decide) fl5_58 ha rfl rfl (rc_F F40 (Or.inl (by decide)) (by decide) (rc_F F28 (Or.inl (by decide)) (by decide) (rc_o (by decide) (rfl)))) ?_
      refine tn_iconst dX5_openRoutine_99 ?_
      refine tn_callSN (M := m_X5_openRoutine) (pc := 100) (ix := 129) (M' := m_X11_put) (As := [.ref x41, .int (iI (σ.2.1 38 a)), .int (iI 0)]) (rest := []) dX5_openRoutine_100 ok_X11_put stt_X11_put nl5_129 np_X11_put rfl (Nat.le_of_ble_eq_true rfl) (Nat.le_of_ble_eq_true rfl) rfl (k_X11_put_17 (d + 1) (T := T) (σ := σ34) (x := x41) (i := σ.2.1 38 a) (y := 0) hk43i (by omega) hk43 (by omega) (by decide) w39 ) (fun r45 T47 σ46 gt48 hp => ?_)
      obtain ⟨rfl, rfl, w51, F52, f49⟩ := hp
      clear gt48
      show Tn _ _ 103 T σ46 [(2, .int (iI z16)), (0, .ref a), (1, .int (iI k))] [] _
      refine tn_aload_n dX5_openRoutine_103 rfl 1 rfl ?_
      refine tn_aload_n dX5_openRoutine_104 rfl 1 rfl ?_
      refine tn_getI (ci := 5) (i := 5) (n := 38) (t := σ.2.1 38 a) dX5_openRoutine_105 rfl lay_5 (by decide) fl5_58 ha rfl rfl (rc_F F52 (Or.inl (by decide)) (by decide) (rc_F F40 (Or.inl (by decide)) (by decide) (rc_F F28 (Or.inl (by decide)) (by decide) (rc_o (by decide) (rfl))))) ?_
      refine tn_iconst dX5_openRoutine_108 ?_
      refine tn_iadd dX5_openRoutine_109 ?_
      refine tn_sipush dX5_openRoutine_110 (by decide) ?_
      refine tn_mmin (x := (σ.2.1 38 a) + 1) (y := 256) dX5_openRoutine_113 mlm5_117 stM_min iniM cdM_min (by omega) (Nat.le_of_ble_eq_true rfl) ⟨by omega, by omega⟩ ⟨by omega, by omega⟩ (fun z53 g54 => ?_)
      refine tn_putV (ci := 5) (i := 5) (n := 38) (r := false) (v := z53) tyX5 tyX5_ok nmX5 dX5_openRoutine_116 rfl lay_5 (by decide) fl5_58 rfl (tyX5_ok 5 (by decide)) rfl rfl rfl ha rfl rfl ?_
      refine tn_aload_n dX5_openRoutine_119 rfl 1 rfl ?_
      refine tn_iconst dX5_openRoutine_120 ?_
      refine tn_putV (ci := 5) (i := 13) (n := 46) (r := false) (v := 0) tyX5 tyX5_ok nmX5 dX5_openRoutine_121 rfl lay_5 (by decide) fl5_133 rfl (tyX5_ok 13 (by decide)) rfl rfl rfl ha rfl rfl ?_
      refine tn_aload_n dX5_openRoutine_124 rfl 1 rfl ?_
      refine tn_iconst dX5_openRoutine_125 ?_
      refine tn_putV (ci := 5) (i := 14) (n := 47) (r := false) (v := 0) tyX5 tyX5_ok nmX5 dX5_openRoutine_126 rfl lay_5 (by decide) fl5_136 rfl (tyX5_ok 14 (by decide)) rfl rfl rfl ha rfl rfl ?_
      exact tn_vret rfl dX5_openRoutine_129 ⟨rfl, rfl, (((w51.put (by decide) (by decide) (fo_38 (by omega))).put (by decide) (by decide) (fo_46 (by omega))).put (by decide) (by decide) (fo_47 (by omega))), (((((((FrC.rfl.put (by decide) (by decide)).trans (FrC.sub F28 (by decide))).trans (FrC.sub F40 (by decide))).trans (FrC.sub F52 (by decide))).put (by decide) (by decide)).put (by decide) (by decide)).put (by decide) (by decide)), (RP.new (RT.frc hrt (show FrC T [6, 7, 8, 9, 10, 35, 38, 43, 44, 46, 47, 516, 517] σ (sA 47 a (0) (sA 46 a (0) (sA 38 a (z53) σ46))) from (((((((FrC.rfl.put (by decide) (by decide)).trans (FrC.sub F28 (by decide))).trans (FrC.sub F40 (by decide))).trans (FrC.sub F52 (by decide))).put (by decide) (by decide)).put (by decide) (by decide)).put (by decide) (by decide))) (by decide) (by decide) (by decide)) (((w51.put (by decide) (by decide) (fo_38 (by omega))).put (by decide) (by decide) (fo_46 (by omega))).put (by decide) (by decide) (fo_47 (by omega))) ha (rc_o (by decide) (rc_o (by decide) (rc_o (by decide) (rc_F F52 (Or.inl (by decide)) (by decide) (rc_F F40 (Or.inl (by decide)) (by decide) (rc_F F28 (Or.inl (by decide)) (by decide) (ra_eq))))))) (by rw [show (sA 47 a (0) (sA 46 a (0) (sA 38 a (z53) σ46))).2.1 6 x18 = σ22.2.1 6 x18 from rc_o (by decide) (rc_o (by decide) (rc_o (by decide) (rc_F F52 (Or.inl (by decide)) (by decide) (rc_F F40 (Or.inl (by decide)) (by decide) (rfl)))))]; omega))⟩
    · refine tn_aload_n dX5_openRoutine_30 rfl 0 rfl ?_
      refine tn_iconst dX5_openRoutine_31 ?_
      refine tn_aload_n dX5_openRoutine_32 rfl 0 rfl ?_
      obtain ⟨x55, hx56, hk57⟩ : ∃ x : Nat, σ.2.1 33 a = (x : Int) ∧ (T x).1 = 39 := wf_33 hw ha
      have hk57o : OB T x55 9 := ⟨by omega, by rw [hk57]; rfl, by omega⟩
      refine tn_getR (ci := 5) (i := 0) (n := 33) (x := x55) dX5_openRoutine_33 rfl lay_5 (by decide) fl5_12 ha rfl rfl (hx56) ?_
      refine tn_getI (ci := 9) (i := 6) (n := 87) (t := σ.2.1 87 x55) dX5_openRoutine_36 rfl lay_9 (by decide) fl5_74 hk57o rfl rfl (rfl) ?_
      have g59 : ((-2147483648 : Int) ≤ σ.2.1 87 x55 ∧ σ.2.1 87 x55 ≤ 2147483647) := wf_87 hw hk57o
      refine tn_callV (M := m_X5_openRoutine) (pc := 39) (ix := 113) (ci := 5) (M' := m_X5_note) (As := [.int (iI 5), .int (iI (σ.2.1 87 x55))]) (rest := []) dX5_openRoutine_39 ok_X5_note im_X5_note se_X5_note ml5_113 np_X5_note rfl rfl ha rfl (Nat.le_of_ble_eq_true rfl) (Nat.le_of_ble_eq_true rfl) rfl (k_X5_note (d + 1) (T := T) (σ := σ) (a := a) (p1 := 5) (p2 := σ.2.1 87 x55) ha (by decide) (by omega) hw ) (fun r60 T62 σ61 gt63 hp => ?_)
      obtain ⟨rfl, rfl, w65, F66⟩ := hp
      clear gt63
      show Tn _ _ 42 T σ61 [(0, .ref a), (1, .int (iI k))] [] _
      refine tn_iconst dX5_openRoutine_42 ?_
      refine tn_aload_n dX5_openRoutine_43 rfl 0 rfl ?_
      refine tn_getI (ci := 5) (i := 5) (n := 38) (t := σ.2.1 38 a) dX5_openRoutine_44 rfl lay_5 (by decide) fl5_58 ha rfl rfl (rc_F F66 (Or.inl (by decide)) (by decide) (rfl)) ?_
      refine tn_aload_n dX5_openRoutine_47 rfl 0 rfl ?_
      obtain ⟨x67, hx68, hk69, hl70⟩ : ∃ x : Nat, σ.2.1 34 a = (x : Int) ∧ AR T x 4 7 7 := wf_34 hw ha
      have hk69i : (T x67).1 = 4 ∨ (T x67).1 = 5 := by omega
      refine tn_getR (ci := 5) (i := 1) (n := 34) (x := x67) dX5_openRoutine_48 rfl lay_5 (by decide) fl5_20 ha rfl rfl (rc_F F66 (Or.inl (by decide)) (by decide) (hx68)) ?_
      refine tn_alenX dX5_openRoutine_51 (by have q9 := hk69i; omega) ?_
      refine tn_iconst dX5_openRoutine_52 ?_
      refine tn_isub dX5_openRoutine_53 ?_
      refine tn_mmin (x := σ.2.1 38 a) (y := (((T x67).2 : Int)) - 1) dX5_openRoutine_54 mlm5_117 stM_min iniM cdM_min (by omega) (Nat.le_of_ble_eq_true rfl) ⟨by omega, by omega⟩ ⟨by omega, by omega⟩ (fun z71 g72 => ?_)
      refine tn_mmax (x := 0) (y := z71) dX5_openRoutine_57 mlm5_123 stM_max iniM cdM_max (by omega) (Nat.le_of_ble_eq_true rfl) ⟨by omega, by omega⟩ ⟨by omega, by omega⟩ (fun z73 g74 => ?_)
      refine tn_istore_n (L' := [(2, .int (iI z73)), (0, .ref a), (1, .int (iI k))]) dX5_openRoutine_60 rfl (by decide) rfl ?_
      refine tn_aload_n dX5_openRoutine_61 rfl 1 rfl ?_
      refine tn_aload_n dX5_openRoutine_62 rfl 1 rfl ?_
      refine tn_getR (ci := 5) (i := 1) (n := 34) (x := x67) dX5_openRoutine_63 rfl lay_5 (by decide) fl5_20 ha rfl rfl (rc_F F66 (Or.inl (by decide)) (by decide) (hx68)) ?_
      refine tn_iload_n dX5_openRoutine_66 rfl 0 rfl ?_
      obtain ⟨x75, hx76, hk77⟩ := (w65).2.2.2.1.1 x67 hk69 (z73) (by omega) (by omega)
      refine tn_aald (z := z73) (x := x75) dX5_openRoutine_67 hk69i (by omega) (by omega) (by omega) hx76 ?_
      have hk77o : OB T x75 1 := ⟨by omega, by rw [hk77]; rfl, by omega⟩
      refine tn_putV (ci := 5) (i := 2) (n := 35) (r := true) (v := (x75 : Int)) tyX5 tyX5_ok nmX5 dX5_openRoutine_68 rfl lay_5 (by decide) fl5_47 rfl (tyX5_ok 2 (by decide)) (vl_ref rfl).symm rfl rfl ha rfl rfl ?_
      refine tn_aload_n dX5_openRoutine_71 rfl 1 rfl ?_
      refine tn_getR (ci := 5) (i := 2) (n := 35) (x := x75) dX5_openRoutine_72 rfl lay_5 (by decide) fl5_47 ha rfl rfl (ra_eq) ?_
      refine tn_iload_n dX5_openRoutine_75 rfl 0 rfl ?_
      refine tn_callV (M := m_X5_openRoutine) (pc := 76) (ix := 126) (ci := 1) (M' := m_X1_empty) (As := [.int (iI z73)]) (rest := []) dX5_openRoutine_76 ok_X1_empty im_X1_empty se_X1_empty ml5_126 np_X1_empty rfl rfl hk77o rfl (Nat.le_of_ble_eq_true rfl) (Nat.le_of_ble_eq_true rfl) rfl (k_X1_empty (d) (T := T) (σ := (sA 35 a ((x75 : Int)) σ61)) (a := x75) (r := z73) hk77o (by omega) (w65.put (by decide) (by decide) (fo_35 ⟨_, rfl, hk77⟩)) ) (fun r78 T80 σ79 gt81 hp => ?_)
      obtain ⟨rfl, rfl, w84, F85, f82⟩ := hp
      clear gt81
      show Tn _ _ 79 T σ79 [(2, .int (iI z73)), (0, .ref a), (1, .int (iI k))] [] _
      refine tn_aload_n dX5_openRoutine_79 rfl 1 rfl ?_
      obtain ⟨x86, hx87, hk88, hl89⟩ : ∃ x : Nat, σ.2.1 36 a = (x : Int) ∧ AR T x 16 256 256 := wf_36 hw ha
      have hk88i : IA T x86 := by unfold IA; omega
      refine tn_getR (ci := 5) (i := 3) (n := 36) (x := x86) dX5_openRoutine_80 rfl lay_5 (by decide) fl5_24 ha rfl rfl (rc_F F85 (Or.inl (by decide)) (by decide) (rc_o (by decide) (rc_F F66 (Or.inl (by decide)) (by decide) (hx87)))) ?_
      refine tn_aload_n dX5_openRoutine_83 rfl 1 rfl ?_
      refine tn_getI (ci := 5) (i := 5) (n := 38) (t := σ.2.1 38 a) dX5_openRoutine_84 rfl lay_5 (by decide) fl5_58 ha rfl rfl (rc_F F85 (Or.inl (by decide)) (by decide) (rc_o (by decide) (rc_F F66 (Or.inl (by decide)) (by decide) (rfl)))) ?_
      refine tn_iload_n dX5_openRoutine_87 rfl 2 rfl ?_
      refine tn_callSN (M := m_X5_openRoutine) (pc := 88) (ix := 129) (M' := m_X11_put) (As := [.ref x86, .int (iI (σ.2.1 38 a)), .int (iI k)]) (rest := []) dX5_openRoutine_88 ok_X11_put stt_X11_put nl5_129 np_X11_put rfl (Nat.le_of_ble_eq_true rfl) (Nat.le_of_ble_eq_true rfl) rfl (k_X11_put_16 (d + 1) (T := T) (σ := σ79) (x := x86) (i := σ.2.1 38 a) (y := k) hk88i (by omega) hk88 (by omega) (by omega) w84 ) (fun r90 T92 σ91 gt93 hp => ?_)
      obtain ⟨rfl, rfl, w96, F97, f94⟩ := hp
      clear gt93
      show Tn _ _ 91 T σ91 [(2, .int (iI z73)), (0, .ref a), (1, .int (iI k))] [] _
      refine tn_aload_n dX5_openRoutine_91 rfl 1 rfl ?_
      obtain ⟨x98, hx99, hk100, hl101⟩ : ∃ x : Nat, σ.2.1 37 a = (x : Int) ∧ AR T x 17 256 256 := wf_37 hw ha
      have hk100i : IA T x98 := by unfold IA; omega
      refine tn_getR (ci := 5) (i := 4) (n := 37) (x := x98) dX5_openRoutine_92 rfl lay_5 (by decide) fl5_28 ha rfl rfl (rc_F F97 (Or.inl (by decide)) (by decide) (rc_F F85 (Or.inl (by decide)) (by decide) (rc_o (by decide) (rc_F F66 (Or.inl (by decide)) (by decide) (hx99))))) ?_
      refine tn_aload_n dX5_openRoutine_95 rfl 1 rfl ?_
      refine tn_getI (ci := 5) (i := 5) (n := 38) (t := σ.2.1 38 a) dX5_openRoutine_96 rfl lay_5 (by decide) fl5_58 ha rfl rfl (rc_F F97 (Or.inl (by decide)) (by decide) (rc_F F85 (Or.inl (by decide)) (by decide) (rc_o (by decide) (rc_F F66 (Or.inl (by decide)) (by decide) (rfl))))) ?_
      refine tn_iconst dX5_openRoutine_99 ?_
      refine tn_callSN (M := m_X5_openRoutine) (pc := 100) (ix := 129) (M' := m_X11_put) (As := [.ref x98, .int (iI (σ.2.1 38 a)), .int (iI 0)]) (rest := []) dX5_openRoutine_100 ok_X11_put stt_X11_put nl5_129 np_X11_put rfl (Nat.le_of_ble_eq_true rfl) (Nat.le_of_ble_eq_true rfl) rfl (k_X11_put_17 (d + 1) (T := T) (σ := σ91) (x := x98) (i := σ.2.1 38 a) (y := 0) hk100i (by omega) hk100 (by omega) (by decide) w96 ) (fun r102 T104 σ103 gt105 hp => ?_)
      obtain ⟨rfl, rfl, w108, F109, f106⟩ := hp
      clear gt105
      show Tn _ _ 103 T σ103 [(2, .int (iI z73)), (0, .ref a), (1, .int (iI k))] [] _
      refine tn_aload_n dX5_openRoutine_103 rfl 1 rfl ?_
      refine tn_aload_n dX5_openRoutine_104 rfl 1 rfl ?_
      refine tn_getI (ci := 5) (i := 5) (n := 38) (t := σ.2.1 38 a) dX5_openRoutine_105 rfl lay_5 (by decide) fl5_58 ha rfl rfl (rc_F F109 (Or.inl (by decide)) (by decide) (rc_F F97 (Or.inl (by decide)) (by decide) (rc_F F85 (Or.inl (by decide)) (by decide) (rc_o (by decide) (rc_F F66 (Or.inl (by decide)) (by decide) (rfl)))))) ?_
      refine tn_iconst dX5_openRoutine_108 ?_
      refine tn_iadd dX5_openRoutine_109 ?_
      refine tn_sipush dX5_openRoutine_110 (by decide) ?_
      refine tn_mmin (x := (σ.2.1 38 a) + 1) (y := 256) dX5_openRoutine_113 mlm5_117 stM_min iniM cdM_min (by omega) (Nat.le_of_ble_eq_true rfl) ⟨by omega, by omega⟩ ⟨by omega, by omega⟩ (fun z110 g111 => ?_)
      refine tn_putV (ci := 5) (i := 5) (n := 38) (r := false) (v := z110) tyX5 tyX5_ok nmX5 dX5_openRoutine_116 rfl lay_5 (by decide) fl5_58 rfl (tyX5_ok 5 (by decide)) rfl rfl rfl ha rfl rfl ?_
      refine tn_aload_n dX5_openRoutine_119 rfl 1 rfl ?_
      refine tn_iconst dX5_openRoutine_120 ?_
      refine tn_putV (ci := 5) (i := 13) (n := 46) (r := false) (v := 0) tyX5 tyX5_ok nmX5 dX5_openRoutine_121 rfl lay_5 (by decide) fl5_133 rfl (tyX5_ok 13 (by decide)) rfl rfl rfl ha rfl rfl ?_
      refine tn_aload_n dX5_openRoutine_124 rfl 1 rfl ?_
      refine tn_iconst dX5_openRoutine_125 ?_
      refine tn_putV (ci := 5) (i := 14) (n := 47) (r := false) (v := 0) tyX5 tyX5_ok nmX5 dX5_openRoutine_126 rfl lay_5 (by decide) fl5_136 rfl (tyX5_ok 14 (by decide)) rfl rfl rfl ha rfl rfl ?_
      exact tn_vret rfl dX5_openRoutine_129 ⟨rfl, rfl, (((w108.put (by decide) (by decide) (fo_38 (by omega))).put (by decide) (by decide) (fo_46 (by omega))).put (by decide) (by decide) (fo_47 (by omega))), ((((((((FrC.rfl.trans (FrC.sub F66 (by decide))).put (by decide) (by decide)).trans (FrC.sub F85 (by decide))).trans (FrC.sub F97 (by decide))).trans (FrC.sub F109 (by decide))).put (by decide) (by decide)).put (by decide) (by decide)).put (by decide) (by decide)), (RP.new (RT.frc hrt (show FrC T [6, 7, 8, 9, 10, 35, 38, 43, 44, 46, 47, 516, 517] σ (sA 47 a (0) (sA 46 a (0) (sA 38 a (z110) σ103))) from ((((((((FrC.rfl.trans (FrC.sub F66 (by decide))).put (by decide) (by decide)).trans (FrC.sub F85 (by decide))).trans (FrC.sub F97 (by decide))).trans (FrC.sub F109 (by decide))).put (by decide) (by decide)).put (by decide) (by decide)).put (by decide) (by decide))) (by decide) (by decide) (by decide)) (((w108.put (by decide) (by decide) (fo_38 (by omega))).put (by decide) (by decide) (fo_46 (by omega))).put (by decide) (by decide) (fo_47 (by omega))) ha (rc_o (by decide) (rc_o (by decide) (rc_o (by decide) (rc_F F109 (Or.inl (by decide)) (by decide) (rc_F F97 (Or.inl (by decide)) (by decide) (rc_F F85 (Or.inl (by decide)) (by decide) (ra_eq))))))) (by rw [show (sA 47 a (0) (sA 46 a (0) (sA 38 a (z110) σ103))).2.1 6 x75 = σ79.2.1 6 x75 from rc_o (by decide) (rc_o (by decide) (rc_o (by decide) (rc_F F109 (Or.inl (by decide)) (by decide) (rc_F F97 (Or.inl (by decide)) (by decide) (rfl)))))]; omega))⟩
  · refine tn_aload_n dX5_openRoutine_9 rfl 0 rfl ?_
    refine tn_iconst dX5_openRoutine_10 ?_
    refine tn_aload_n dX5_openRoutine_11 rfl 0 rfl ?_
    obtain ⟨x112, hx113, hk114⟩ : ∃ x : Nat, σ.2.1 33 a = (x : Int) ∧ (T x).1 = 39 := wf_33 hw ha
    have hk114o : OB T x112 9 := ⟨by omega, by rw [hk114]; rfl, by omega⟩
    refine tn_getR (ci := 5) (i := 0) (n := 33) (x := x112) dX5_openRoutine_12 rfl lay_5 (by decide) fl5_12 ha rfl rfl (hx113) ?_
    refine tn_getI (ci := 9) (i := 6) (n := 87) (t := σ.2.1 87 x112) dX5_openRoutine_15 rfl lay_9 (by decide) fl5_74 hk114o rfl rfl (rfl) ?_
    have g116 : ((-2147483648 : Int) ≤ σ.2.1 87 x112 ∧ σ.2.1 87 x112 ≤ 2147483647) := wf_87 hw hk114o
    refine tn_callV (M := m_X5_openRoutine) (pc := 18) (ix := 113) (ci := 5) (M' := m_X5_note) (As := [.int (iI 2), .int (iI (σ.2.1 87 x112))]) (rest := []) dX5_openRoutine_18 ok_X5_note im_X5_note se_X5_note ml5_113 np_X5_note rfl rfl ha rfl (Nat.le_of_ble_eq_true rfl) (Nat.le_of_ble_eq_true rfl) rfl (k_X5_note (d + 1) (T := T) (σ := σ) (a := a) (p1 := 2) (p2 := σ.2.1 87 x112) ha (by decide) (by omega) hw ) (fun r117 T119 σ118 gt120 hp => ?_)
    obtain ⟨rfl, rfl, w122, F123⟩ := hp
    clear gt120
    show Tn _ _ 21 T σ118 [(0, .ref a), (1, .int (iI k))] [] _
    refine tn_aload_n dX5_openRoutine_21 rfl 0 rfl ?_
    refine tn_getI (ci := 5) (i := 5) (n := 38) (t := σ.2.1 38 a) dX5_openRoutine_22 rfl lay_5 (by decide) fl5_58 ha rfl rfl (rc_F F123 (Or.inl (by decide)) (by decide) (rfl)) ?_
    have g124 : ((0 : Int) ≤ σ.2.1 38 a ∧ σ.2.1 38 a ≤ 256) := wf_38 hw ha
    refine tn_bipush dX5_openRoutine_25 (by decide) ?_
    refine tn_icmp_lt (tgt := 42) dX5_openRoutine_27 (by decide) ⟨by omega, by omega⟩ ⟨by decide, by decide⟩ (fun h125 => ?_) (fun h125 => ?_)
    · refine tn_iconst dX5_openRoutine_42 ?_
      refine tn_aload_n dX5_openRoutine_43 rfl 0 rfl ?_
      refine tn_getI (ci := 5) (i := 5) (n := 38) (t := σ.2.1 38 a) dX5_openRoutine_44 rfl lay_5 (by decide) fl5_58 ha rfl rfl (rc_F F123 (Or.inl (by decide)) (by decide) (rfl)) ?_
      refine tn_aload_n dX5_openRoutine_47 rfl 0 rfl ?_
      obtain ⟨x126, hx127, hk128, hl129⟩ : ∃ x : Nat, σ.2.1 34 a = (x : Int) ∧ AR T x 4 7 7 := wf_34 hw ha
      have hk128i : (T x126).1 = 4 ∨ (T x126).1 = 5 := by omega
      refine tn_getR (ci := 5) (i := 1) (n := 34) (x := x126) dX5_openRoutine_48 rfl lay_5 (by decide) fl5_20 ha rfl rfl (rc_F F123 (Or.inl (by decide)) (by decide) (hx127)) ?_
      refine tn_alenX dX5_openRoutine_51 (by have q9 := hk128i; omega) ?_
      refine tn_iconst dX5_openRoutine_52 ?_
      refine tn_isub dX5_openRoutine_53 ?_
      refine tn_mmin (x := σ.2.1 38 a) (y := (((T x126).2 : Int)) - 1) dX5_openRoutine_54 mlm5_117 stM_min iniM cdM_min (by omega) (Nat.le_of_ble_eq_true rfl) ⟨by omega, by omega⟩ ⟨by omega, by omega⟩ (fun z130 g131 => ?_)
      refine tn_mmax (x := 0) (y := z130) dX5_openRoutine_57 mlm5_123 stM_max iniM cdM_max (by omega) (Nat.le_of_ble_eq_true rfl) ⟨by omega, by omega⟩ ⟨by omega, by omega⟩ (fun z132 g133 => ?_)
      refine tn_istore_n (L' := [(2, .int (iI z132)), (0, .ref a), (1, .int (iI k))]) dX5_openRoutine_60 rfl (by decide) rfl ?_
      refine tn_aload_n dX5_openRoutine_61 rfl 1 rfl ?_
      refine tn_aload_n dX5_openRoutine_62 rfl 1 rfl ?_
      refine tn_getR (ci := 5) (i := 1) (n := 34) (x := x126) dX5_openRoutine_63 rfl lay_5 (by decide) fl5_20 ha rfl rfl (rc_F F123 (Or.inl (by decide)) (by decide) (hx127)) ?_
      refine tn_iload_n dX5_openRoutine_66 rfl 0 rfl ?_
      obtain ⟨x134, hx135, hk136⟩ := (w122).2.2.2.1.1 x126 hk128 (z132) (by omega) (by omega)
      refine tn_aald (z := z132) (x := x134) dX5_openRoutine_67 hk128i (by omega) (by omega) (by omega) hx135 ?_
      have hk136o : OB T x134 1 := ⟨by omega, by rw [hk136]; rfl, by omega⟩
      refine tn_putV (ci := 5) (i := 2) (n := 35) (r := true) (v := (x134 : Int)) tyX5 tyX5_ok nmX5 dX5_openRoutine_68 rfl lay_5 (by decide) fl5_47 rfl (tyX5_ok 2 (by decide)) (vl_ref rfl).symm rfl rfl ha rfl rfl ?_
      refine tn_aload_n dX5_openRoutine_71 rfl 1 rfl ?_
      refine tn_getR (ci := 5) (i := 2) (n := 35) (x := x134) dX5_openRoutine_72 rfl lay_5 (by decide) fl5_47 ha rfl rfl (ra_eq) ?_
      refine tn_iload_n dX5_openRoutine_75 rfl 0 rfl ?_
      refine tn_callV (M := m_X5_openRoutine) (pc := 76) (ix := 126) (ci := 1) (M' := m_X1_empty) (As := [.int (iI z132)]) (rest := []) dX5_openRoutine_76 ok_X1_empty im_X1_empty se_X1_empty ml5_126 np_X1_empty rfl rfl hk136o rfl (Nat.le_of_ble_eq_true rfl) (Nat.le_of_ble_eq_true rfl) rfl (k_X1_empty (d) (T := T) (σ := (sA 35 a ((x134 : Int)) σ118)) (a := x134) (r := z132) hk136o (by omega) (w122.put (by decide) (by decide) (fo_35 ⟨_, rfl, hk136⟩)) ) (fun r137 T139 σ138 gt140 hp => ?_)
      obtain ⟨rfl, rfl, w143, F144, f141⟩ := hp
      clear gt140
      show Tn _ _ 79 T σ138 [(2, .int (iI z132)), (0, .ref a), (1, .int (iI k))] [] _
      refine tn_aload_n dX5_openRoutine_79 rfl 1 rfl ?_
      obtain ⟨x145, hx146, hk147, hl148⟩ : ∃ x : Nat, σ.2.1 36 a = (x : Int) ∧ AR T x 16 256 256 := wf_36 hw ha
      have hk147i : IA T x145 := by unfold IA; omega
      refine tn_getR (ci := 5) (i := 3) (n := 36) (x := x145) dX5_openRoutine_80 rfl lay_5 (by decide) fl5_24 ha rfl rfl (rc_F F144 (Or.inl (by decide)) (by decide) (rc_o (by decide) (rc_F F123 (Or.inl (by decide)) (by decide) (hx146)))) ?_
      refine tn_aload_n dX5_openRoutine_83 rfl 1 rfl ?_
      refine tn_getI (ci := 5) (i := 5) (n := 38) (t := σ.2.1 38 a) dX5_openRoutine_84 rfl lay_5 (by decide) fl5_58 ha rfl rfl (rc_F F144 (Or.inl (by decide)) (by decide) (rc_o (by decide) (rc_F F123 (Or.inl (by decide)) (by decide) (rfl)))) ?_
      refine tn_iload_n dX5_openRoutine_87 rfl 2 rfl ?_
      refine tn_callSN (M := m_X5_openRoutine) (pc := 88) (ix := 129) (M' := m_X11_put) (As := [.ref x145, .int (iI (σ.2.1 38 a)), .int (iI k)]) (rest := []) dX5_openRoutine_88 ok_X11_put stt_X11_put nl5_129 np_X11_put rfl (Nat.le_of_ble_eq_true rfl) (Nat.le_of_ble_eq_true rfl) rfl (k_X11_put_16 (d + 1) (T := T) (σ := σ138) (x := x145) (i := σ.2.1 38 a) (y := k) hk147i (by omega) hk147 (by omega) (by omega) w143 ) (fun r149 T151 σ150 gt152 hp => ?_)
      obtain ⟨rfl, rfl, w155, F156, f153⟩ := hp
      clear gt152
      show Tn _ _ 91 T σ150 [(2, .int (iI z132)), (0, .ref a), (1, .int (iI k))] [] _
      refine tn_aload_n dX5_openRoutine_91 rfl 1 rfl ?_
      obtain ⟨x157, hx158, hk159, hl160⟩ : ∃ x : Nat, σ.2.1 37 a = (x : Int) ∧ AR T x 17 256 256 := wf_37 hw ha
      have hk159i : IA T x157 := by unfold IA; omega
      refine tn_getR (ci := 5) (i := 4) (n := 37) (x := x157) dX5_openRoutine_92 rfl lay_5 (by decide) fl5_28 ha rfl rfl (rc_F F156 (Or.inl (by decide)) (by decide) (rc_F F144 (Or.inl (by decide)) (by decide) (rc_o (by decide) (rc_F F123 (Or.inl (by decide)) (by decide) (hx158))))) ?_
      refine tn_aload_n dX5_openRoutine_95 rfl 1 rfl ?_
      refine tn_getI (ci := 5) (i := 5) (n := 38) (t := σ.2.1 38 a) dX5_openRoutine_96 rfl lay_5 (by decide) fl5_58 ha rfl rfl (rc_F F156 (Or.inl (by decide)) (by decide) (rc_F F144 (Or.inl (by decide)) (by decide) (rc_o (by decide) (rc_F F123 (Or.inl (by decide)) (by decide) (rfl))))) ?_
      refine tn_iconst dX5_openRoutine_99 ?_
      refine tn_callSN (M := m_X5_openRoutine) (pc := 100) (ix := 129) (M' := m_X11_put) (As := [.ref x157, .int (iI (σ.2.1 38 a)), .int (iI 0)]) (rest := []) dX5_openRoutine_100 ok_X11_put stt_X11_put nl5_129 np_X11_put rfl (Nat.le_of_ble_eq_true rfl) (Nat.le_of_ble_eq_true rfl) rfl (k_X11_put_17 (d + 1) (T := T) (σ := σ150) (x := x157) (i := σ.2.1 38 a) (y := 0) hk159i (by omega) hk159 (by omega) (by decide) w155 ) (fun r161 T163 σ162 gt164 hp => ?_)
      obtain ⟨rfl, rfl, w167, F168, f165⟩ := hp
      clear gt164
      show Tn _ _ 103 T σ162 [(2, .int (iI z132)), (0, .ref a), (1, .int (iI k))] [] _
      refine tn_aload_n dX5_openRoutine_103 rfl 1 rfl ?_
      refine tn_aload_n dX5_openRoutine_104 rfl 1 rfl ?_
      refine tn_getI (ci := 5) (i := 5) (n := 38) (t := σ.2.1 38 a) dX5_openRoutine_105 rfl lay_5 (by decide) fl5_58 ha rfl rfl (rc_F F168 (Or.inl (by decide)) (by decide) (rc_F F156 (Or.inl (by decide)) (by decide) (rc_F F144 (Or.inl (by decide)) (by decide) (rc_o (by decide) (rc_F F123 (Or.inl (by decide)) (by decide) (rfl)))))) ?_
      refine tn_iconst dX5_openRoutine_108 ?_
      refine tn_iadd dX5_openRoutine_109 ?_
      refine tn_sipush dX5_openRoutine_110 (by decide) ?_
      refine tn_mmin (x := (σ.2.1 38 a) + 1) (y := 256) dX5_openRoutine_113 mlm5_117 stM_min iniM cdM_min (by omega) (Nat.le_of_ble_eq_true rfl) ⟨by omega, by omega⟩ ⟨by omega, by omega⟩ (fun z169 g170 => ?_)
      refine tn_putV (ci := 5) (i := 5) (n := 38) (r := false) (v := z169) tyX5 tyX5_ok nmX5 dX5_openRoutine_116 rfl lay_5 (by decide) fl5_58 rfl (tyX5_ok 5 (by decide)) rfl rfl rfl ha rfl rfl ?_
      refine tn_aload_n dX5_openRoutine_119 rfl 1 rfl ?_
      refine tn_iconst dX5_openRoutine_120 ?_
      refine tn_putV (ci := 5) (i := 13) (n := 46) (r := false) (v := 0) tyX5 tyX5_ok nmX5 dX5_openRoutine_121 rfl lay_5 (by decide) fl5_133 rfl (tyX5_ok 13 (by decide)) rfl rfl rfl ha rfl rfl ?_
      refine tn_aload_n dX5_openRoutine_124 rfl 1 rfl ?_
      refine tn_iconst dX5_openRoutine_125 ?_
      refine tn_putV (ci := 5) (i := 14) (n := 47) (r := false) (v := 0) tyX5 tyX5_ok nmX5 dX5_openRoutine_126 rfl lay_5 (by decide) fl5_136 rfl (tyX5_ok 14 (by decide)) rfl rfl rfl ha rfl rfl ?_
      exact tn_vret rfl dX5_openRoutine_129 ⟨rfl, rfl, (((w167.put (by decide) (by decide) (fo_38 (by omega))).put (by decide) (by decide) (fo_46 (by omega))).put (by decide) (by decide) (fo_47 (by omega))), ((((((((FrC.rfl.trans (FrC.sub F123 (by decide))).put (by decide) (by decide)).trans (FrC.sub F144 (by decide))).trans (FrC.sub F156 (by decide))).trans (FrC.sub F168 (by decide))).put (by decide) (by decide)).put (by decide) (by decide)).put (by decide) (by decide)), (RP.new (RT.frc hrt (show FrC T [6, 7, 8, 9, 10, 35, 38, 43, 44, 46, 47, 516, 517] σ (sA 47 a (0) (sA 46 a (0) (sA 38 a (z169) σ162))) from ((((((((FrC.rfl.trans (FrC.sub F123 (by decide))).put (by decide) (by decide)).trans (FrC.sub F144 (by decide))).trans (FrC.sub F156 (by decide))).trans (FrC.sub F168 (by decide))).put (by decide) (by decide)).put (by decide) (by decide)).put (by decide) (by decide))) (by decide) (by decide) (by decide)) (((w167.put (by decide) (by decide) (fo_38 (by omega))).put (by decide) (by decide) (fo_46 (by omega))).put (by decide) (by decide) (fo_47 (by omega))) ha (rc_o (by decide) (rc_o (by decide) (rc_o (by decide) (rc_F F168 (Or.inl (by decide)) (by decide) (rc_F F156 (Or.inl (by decide)) (by decide) (rc_F F144 (Or.inl (by decide)) (by decide) (ra_eq))))))) (by rw [show (sA 47 a (0) (sA 46 a (0) (sA 38 a (z169) σ162))).2.1 6 x134 = σ138.2.1 6 x134 from rc_o (by decide) (rc_o (by decide) (rc_o (by decide) (rc_F F168 (Or.inl (by decide)) (by decide) (rc_F F156 (Or.inl (by decide)) (by decide) (rfl)))))]; omega))⟩
    · refine tn_aload_n dX5_openRoutine_30 rfl 0 rfl ?_
      refine tn_iconst dX5_openRoutine_31 ?_
      refine tn_aload_n dX5_openRoutine_32 rfl 0 rfl ?_
      refine tn_getR (ci := 5) (i := 0) (n := 33) (x := x112) dX5_openRoutine_33 rfl lay_5 (by decide) fl5_12 ha rfl rfl (rc_F F123 (Or.inl (by decide)) (by decide) (hx113)) ?_
      refine tn_getI (ci := 9) (i := 6) (n := 87) (t := σ.2.1 87 x112) dX5_openRoutine_36 rfl lay_9 (by decide) fl5_74 hk114o rfl rfl (rc_F F123 (Or.inl (by decide)) (by decide) (rfl)) ?_
      refine tn_callV (M := m_X5_openRoutine) (pc := 39) (ix := 113) (ci := 5) (M' := m_X5_note) (As := [.int (iI 5), .int (iI (σ.2.1 87 x112))]) (rest := []) dX5_openRoutine_39 ok_X5_note im_X5_note se_X5_note ml5_113 np_X5_note rfl rfl ha rfl (Nat.le_of_ble_eq_true rfl) (Nat.le_of_ble_eq_true rfl) rfl (k_X5_note (d + 1) (T := T) (σ := σ118) (a := a) (p1 := 5) (p2 := σ.2.1 87 x112) ha (by decide) (by omega) w122 ) (fun r171 T173 σ172 gt174 hp => ?_)
      obtain ⟨rfl, rfl, w176, F177⟩ := hp
      clear gt174
      show Tn _ _ 42 T σ172 [(0, .ref a), (1, .int (iI k))] [] _
      refine tn_iconst dX5_openRoutine_42 ?_
      refine tn_aload_n dX5_openRoutine_43 rfl 0 rfl ?_
      refine tn_getI (ci := 5) (i := 5) (n := 38) (t := σ.2.1 38 a) dX5_openRoutine_44 rfl lay_5 (by decide) fl5_58 ha rfl rfl (rc_F F177 (Or.inl (by decide)) (by decide) (rc_F F123 (Or.inl (by decide)) (by decide) (rfl))) ?_
      refine tn_aload_n dX5_openRoutine_47 rfl 0 rfl ?_
      obtain ⟨x178, hx179, hk180, hl181⟩ : ∃ x : Nat, σ.2.1 34 a = (x : Int) ∧ AR T x 4 7 7 := wf_34 hw ha
      have hk180i : (T x178).1 = 4 ∨ (T x178).1 = 5 := by omega
      refine tn_getR (ci := 5) (i := 1) (n := 34) (x := x178) dX5_openRoutine_48 rfl lay_5 (by decide) fl5_20 ha rfl rfl (rc_F F177 (Or.inl (by decide)) (by decide) (rc_F F123 (Or.inl (by decide)) (by decide) (hx179))) ?_
      refine tn_alenX dX5_openRoutine_51 (by have q9 := hk180i; omega) ?_
      refine tn_iconst dX5_openRoutine_52 ?_
      refine tn_isub dX5_openRoutine_53 ?_
      refine tn_mmin (x := σ.2.1 38 a) (y := (((T x178).2 : Int)) - 1) dX5_openRoutine_54 mlm5_117 stM_min iniM cdM_min (by omega) (Nat.le_of_ble_eq_true rfl) ⟨by omega, by omega⟩ ⟨by omega, by omega⟩ (fun z182 g183 => ?_)
      refine tn_mmax (x := 0) (y := z182) dX5_openRoutine_57 mlm5_123 stM_max iniM cdM_max (by omega) (Nat.le_of_ble_eq_true rfl) ⟨by omega, by omega⟩ ⟨by omega, by omega⟩ (fun z184 g185 => ?_)
      refine tn_istore_n (L' := [(2, .int (iI z184)), (0, .ref a), (1, .int (iI k))]) dX5_openRoutine_60 rfl (by decide) rfl ?_
      refine tn_aload_n dX5_openRoutine_61 rfl 1 rfl ?_
      refine tn_aload_n dX5_openRoutine_62 rfl 1 rfl ?_
      refine tn_getR (ci := 5) (i := 1) (n := 34) (x := x178) dX5_openRoutine_63 rfl lay_5 (by decide) fl5_20 ha rfl rfl (rc_F F177 (Or.inl (by decide)) (by decide) (rc_F F123 (Or.inl (by decide)) (by decide) (hx179))) ?_
      refine tn_iload_n dX5_openRoutine_66 rfl 0 rfl ?_
      obtain ⟨x186, hx187, hk188⟩ := (w176).2.2.2.1.1 x178 hk180 (z184) (by omega) (by omega)
      refine tn_aald (z := z184) (x := x186) dX5_openRoutine_67 hk180i (by omega) (by omega) (by omega) hx187 ?_
      have hk188o : OB T x186 1 := ⟨by omega, by rw [hk188]; rfl, by omega⟩
      refine tn_putV (ci := 5) (i := 2) (n := 35) (r := true) (v := (x186 : Int)) tyX5 tyX5_ok nmX5 dX5_openRoutine_68 rfl lay_5 (by decide) fl5_47 rfl (tyX5_ok 2 (by decide)) (vl_ref rfl).symm rfl rfl ha rfl rfl ?_
      refine tn_aload_n dX5_openRoutine_71 rfl 1 rfl ?_
      refine tn_getR (ci := 5) (i := 2) (n := 35) (x := x186) dX5_openRoutine_72 rfl lay_5 (by decide) fl5_47 ha rfl rfl (ra_eq) ?_
      refine tn_iload_n dX5_openRoutine_75 rfl 0 rfl ?_
      refine tn_callV (M := m_X5_openRoutine) (pc := 76) (ix := 126) (ci := 1) (M' := m_X1_empty) (As := [.int (iI z184)]) (rest := []) dX5_openRoutine_76 ok_X1_empty im_X1_empty se_X1_empty ml5_126 np_X1_empty rfl rfl hk188o rfl (Nat.le_of_ble_eq_true rfl) (Nat.le_of_ble_eq_true rfl) rfl (k_X1_empty (d) (T := T) (σ := (sA 35 a ((x186 : Int)) σ172)) (a := x186) (r := z184) hk188o (by omega) (w176.put (by decide) (by decide) (fo_35 ⟨_, rfl, hk188⟩)) ) (fun r189 T191 σ190 gt192 hp => ?_)
      obtain ⟨rfl, rfl, w195, F196, f193⟩ := hp
      clear gt192
      show Tn _ _ 79 T σ190 [(2, .int (iI z184)), (0, .ref a), (1, .int (iI k))] [] _
      refine tn_aload_n dX5_openRoutine_79 rfl 1 rfl ?_
      obtain ⟨x197, hx198, hk199, hl200⟩ : ∃ x : Nat, σ.2.1 36 a = (x : Int) ∧ AR T x 16 256 256 := wf_36 hw ha
      have hk199i : IA T x197 := by unfold IA; omega
      refine tn_getR (ci := 5) (i := 3) (n := 36) (x := x197) dX5_openRoutine_80 rfl lay_5 (by decide) fl5_24 ha rfl rfl (rc_F F196 (Or.inl (by decide)) (by decide) (rc_o (by decide) (rc_F F177 (Or.inl (by decide)) (by decide) (rc_F F123 (Or.inl (by decide)) (by decide) (hx198))))) ?_
      refine tn_aload_n dX5_openRoutine_83 rfl 1 rfl ?_
      refine tn_getI (ci := 5) (i := 5) (n := 38) (t := σ.2.1 38 a) dX5_openRoutine_84 rfl lay_5 (by decide) fl5_58 ha rfl rfl (rc_F F196 (Or.inl (by decide)) (by decide) (rc_o (by decide) (rc_F F177 (Or.inl (by decide)) (by decide) (rc_F F123 (Or.inl (by decide)) (by decide) (rfl))))) ?_
      refine tn_iload_n dX5_openRoutine_87 rfl 2 rfl ?_
      refine tn_callSN (M := m_X5_openRoutine) (pc := 88) (ix := 129) (M' := m_X11_put) (As := [.ref x197, .int (iI (σ.2.1 38 a)), .int (iI k)]) (rest := []) dX5_openRoutine_88 ok_X11_put stt_X11_put nl5_129 np_X11_put rfl (Nat.le_of_ble_eq_true rfl) (Nat.le_of_ble_eq_true rfl) rfl (k_X11_put_16 (d + 1) (T := T) (σ := σ190) (x := x197) (i := σ.2.1 38 a) (y := k) hk199i (by omega) hk199 (by omega) (by omega) w195 ) (fun r201 T203 σ202 gt204 hp => ?_)
      obtain ⟨rfl, rfl, w207, F208, f205⟩ := hp
      clear gt204
      show Tn _ _ 91 T σ202 [(2, .int (iI z184)), (0, .ref a), (1, .int (iI k))] [] _
      refine tn_aload_n dX5_openRoutine_91 rfl 1 rfl ?_
      obtain ⟨x209, hx210, hk211, hl212⟩ : ∃ x : Nat, σ.2.1 37 a = (x : Int) ∧ AR T x 17 256 256 := wf_37 hw ha
      have hk211i : IA T x209 := by unfold IA; omega
      refine tn_getR (ci := 5) (i := 4) (n := 37) (x := x209) dX5_openRoutine_92 rfl lay_5 (by decide) fl5_28 ha rfl rfl (rc_F F208 (Or.inl (by decide)) (by decide) (rc_F F196 (Or.inl (by decide)) (by decide) (rc_o (by decide) (rc_F F177 (Or.inl (by decide)) (by decide) (rc_F F123 (Or.inl (by decide)) (by decide) (hx210)))))) ?_
      refine tn_aload_n dX5_openRoutine_95 rfl 1 rfl ?_
      refine tn_getI (ci := 5) (i := 5) (n := 38) (t := σ.2.1 38 a) dX5_openRoutine_96 rfl lay_5 (by decide) fl5_58 ha rfl rfl (rc_F F208 (Or.inl (by decide)) (by decide) (rc_F F196 (Or.inl (by decide)) (by decide) (rc_o (by decide) (rc_F F177 (Or.inl (by decide)) (by decide) (rc_F F123 (Or.inl (by decide)) (by decide) (rfl)))))) ?_
      refine tn_iconst dX5_openRoutine_99 ?_
      refine tn_callSN (M := m_X5_openRoutine) (pc := 100) (ix := 129) (M' := m_X11_put) (As := [.ref x209, .int (iI (σ.2.1 38 a)), .int (iI 0)]) (rest := []) dX5_openRoutine_100 ok_X11_put stt_X11_put nl5_129 np_X11_put rfl (Nat.le_of_ble_eq_true rfl) (Nat.le_of_ble_eq_true rfl) rfl (k_X11_put_17 (d + 1) (T := T) (σ := σ202) (x := x209) (i := σ.2.1 38 a) (y := 0) hk211i (by omega) hk211 (by omega) (by decide) w207 ) (fun r213 T215 σ214 gt216 hp => ?_)
      obtain ⟨rfl, rfl, w219, F220, f217⟩ := hp
      clear gt216
      show Tn _ _ 103 T σ214 [(2, .int (iI z184)), (0, .ref a), (1, .int (iI k))] [] _
      refine tn_aload_n dX5_openRoutine_103 rfl 1 rfl ?_
      refine tn_aload_n dX5_openRoutine_104 rfl 1 rfl ?_
      refine tn_getI (ci := 5) (i := 5) (n := 38) (t := σ.2.1 38 a) dX5_openRoutine_105 rfl lay_5 (by decide) fl5_58 ha rfl rfl (rc_F F220 (Or.inl (by decide)) (by decide) (rc_F F208 (Or.inl (by decide)) (by decide) (rc_F F196 (Or.inl (by decide)) (by decide) (rc_o (by decide) (rc_F F177 (Or.inl (by decide)) (by decide) (rc_F F123 (Or.inl (by decide)) (by decide) (rfl))))))) ?_
      refine tn_iconst dX5_openRoutine_108 ?_
      refine tn_iadd dX5_openRoutine_109 ?_
      refine tn_sipush dX5_openRoutine_110 (by decide) ?_
      refine tn_mmin (x := (σ.2.1 38 a) + 1) (y := 256) dX5_openRoutine_113 mlm5_117 stM_min iniM cdM_min (by omega) (Nat.le_of_ble_eq_true rfl) ⟨by omega, by omega⟩ ⟨by omega, by omega⟩ (fun z221 g222 => ?_)
      refine tn_putV (ci := 5) (i := 5) (n := 38) (r := false) (v := z221) tyX5 tyX5_ok nmX5 dX5_openRoutine_116 rfl lay_5 (by decide) fl5_58 rfl (tyX5_ok 5 (by decide)) rfl rfl rfl ha rfl rfl ?_
      refine tn_aload_n dX5_openRoutine_119 rfl 1 rfl ?_
      refine tn_iconst dX5_openRoutine_120 ?_
      refine tn_putV (ci := 5) (i := 13) (n := 46) (r := false) (v := 0) tyX5 tyX5_ok nmX5 dX5_openRoutine_121 rfl lay_5 (by decide) fl5_133 rfl (tyX5_ok 13 (by decide)) rfl rfl rfl ha rfl rfl ?_
      refine tn_aload_n dX5_openRoutine_124 rfl 1 rfl ?_
      refine tn_iconst dX5_openRoutine_125 ?_
      refine tn_putV (ci := 5) (i := 14) (n := 47) (r := false) (v := 0) tyX5 tyX5_ok nmX5 dX5_openRoutine_126 rfl lay_5 (by decide) fl5_136 rfl (tyX5_ok 14 (by decide)) rfl rfl rfl ha rfl rfl ?_
      exact tn_vret rfl dX5_openRoutine_129 ⟨rfl, rfl, (((w219.put (by decide) (by decide) (fo_38 (by omega))).put (by decide) (by decide) (fo_46 (by omega))).put (by decide) (by decide) (fo_47 (by omega))), (((((((((FrC.rfl.trans (FrC.sub F123 (by decide))).trans (FrC.sub F177 (by decide))).put (by decide) (by decide)).trans (FrC.sub F196 (by decide))).trans (FrC.sub F208 (by decide))).trans (FrC.sub F220 (by decide))).put (by decide) (by decide)).put (by decide) (by decide)).put (by decide) (by decide)), (RP.new (RT.frc hrt (show FrC T [6, 7, 8, 9, 10, 35, 38, 43, 44, 46, 47, 516, 517] σ (sA 47 a (0) (sA 46 a (0) (sA 38 a (z221) σ214))) from (((((((((FrC.rfl.trans (FrC.sub F123 (by decide))).trans (FrC.sub F177 (by decide))).put (by decide) (by decide)).trans (FrC.sub F196 (by decide))).trans (FrC.sub F208 (by decide))).trans (FrC.sub F220 (by decide))).put (by decide) (by decide)).put (by decide) (by decide)).put (by decide) (by decide))) (by decide) (by decide) (by decide)) (((w219.put (by decide) (by decide) (fo_38 (by omega))).put (by decide) (by decide) (fo_46 (by omega))).put (by decide) (by decide) (fo_47 (by omega))) ha (rc_o (by decide) (rc_o (by decide) (rc_o (by decide) (rc_F F220 (Or.inl (by decide)) (by decide) (rc_F F208 (Or.inl (by decide)) (by decide) (rc_F F196 (Or.inl (by decide)) (by decide) (ra_eq))))))) (by rw [show (sA 47 a (0) (sA 46 a (0) (sA 38 a (z221) σ214))).2.1 6 x186 = σ190.2.1 6 x186 from rc_o (by decide) (rc_o (by decide) (rc_o (by decide) (rc_F F220 (Or.inl (by decide)) (by decide) (rc_F F208 (Or.inl (by decide)) (by decide) (rfl)))))]; omega))⟩
