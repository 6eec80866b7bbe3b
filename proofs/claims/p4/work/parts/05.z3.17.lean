theorem ml5_241 : Cond.methodLink RX5 241 yX5_sum ∈ pWW := pw3 (List.mem_of_getElem? (i := 166) rfl) rfl
theorem dX5_expression_11 : decode cX5_expression 11 = .ok (.aload_n 0, 1) := by decide +kernel
theorem dX5_expression_12 : decode cX5_expression 12 = .ok (.iload_n 1, 1) := by decide +kernel
theorem dX5_expression_13 : decode cX5_expression 13 = .ok (.invokevirtual 241, 3) := by decide +kernel
theorem dX5_expression_16 : decode cX5_expression 16 = .ok (.ifCond .ne 5, 3) := by decide +kernel
theorem dX5_expression_21 : decode cX5_expression 21 = .ok (.aload_n 0, 1) := by decide +kernel
theorem dX5_expression_22 : decode cX5_expression 22 = .ok (.getfield 12, 3) := by decide +kernel
theorem dX5_expression_25 : decode cX5_expression 25 = .ok (.getfield 71, 3) := by decide +kernel
theorem dX5_expression_28 : decode cX5_expression 28 = .ok (.bipush 61, 2) := by decide +kernel
theorem dX5_expression_30 : decode cX5_expression 30 = .ok (.if_icmp .eq 17, 3) := by decide +kernel
theorem dX5_expression_47 : decode cX5_expression 47 = .ok (.aload_n 0, 1) := by decide +kernel
theorem dX5_expression_48 : decode cX5_expression 48 = .ok (.getfield 12, 3) := by decide +kernel
theorem dX5_expression_51 : decode cX5_expression 51 = .ok (.getfield 71, 3) := by decide +kernel
theorem dX5_expression_54 : decode cX5_expression 54 = .ok (.bipush 61, 2) := by decide +kernel
theorem dX5_expression_56 : decode cX5_expression 56 = .ok (.if_icmp .ne 7, 3) := by decide +kernel
theorem dX5_expression_59 : decode cX5_expression 59 = .ok (.iconst 4, 1) := by decide +kernel
theorem dX5_expression_60 : decode cX5_expression 60 = .ok (.goto 4, 3) := by decide +kernel
theorem dX5_expression_64 : decode cX5_expression 64 = .ok (.istore_n 2, 1) := by decide +kernel
theorem dX5_expression_65 : decode cX5_expression 65 = .ok (.aload_n 0, 1) := by decide +kernel
theorem dX5_expression_66 : decode cX5_expression 66 = .ok (.getfield 216, 3) := by decide +kernel
theorem dX5_expression_69 : decode cX5_expression 69 = .ok (.istore_n 3, 1) := by decide +kernel
theorem dX5_expression_70 : decode cX5_expression 70 = .ok (.aload_n 0, 1) := by decide +kernel
theorem dX5_expression_71 : decode cX5_expression 71 = .ok (.getfield 219, 3) := by decide +kernel
theorem dX5_expression_74 : decode cX5_expression 74 = .ok (.istore 4, 2) := by decide +kernel
theorem dX5_expression_76 : decode cX5_expression 76 = .ok (.aload_n 0, 1) := by decide +kernel
theorem dX5_expression_77 : decode cX5_expression 77 = .ok (.getfield 12, 3) := by decide +kernel
theorem dX5_expression_80 : decode cX5_expression 80 = .ok (.invokevirtual 93, 3) := by decide +kernel
theorem dX5_expression_83 : decode cX5_expression 83 = .ok (.aload_n 0, 1) := by decide +kernel
theorem dX5_expression_84 : decode cX5_expression 84 = .ok (.iload_n 1, 1) := by decide +kernel
theorem dX5_expression_85 : decode cX5_expression 85 = .ok (.invokevirtual 241, 3) := by decide +kernel
theorem dX5_expression_88 : decode cX5_expression 88 = .ok (.ifCond .ne 5, 3) := by decide +kernel
theorem dX5_expression_93 : decode cX5_expression 93 = .ok (.aload_n 0, 1) := by decide +kernel
theorem dX5_expression_94 : decode cX5_expression 94 = .ok (.iload_n 2, 1) := by decide +kernel
theorem dX5_expression_95 : decode cX5_expression 95 = .ok (.iload_n 3, 1) := by decide +kernel
theorem dX5_expression_96 : decode cX5_expression 96 = .ok (.iload 4, 2) := by decide +kernel
theorem dX5_expression_98 : decode cX5_expression 98 = .ok (.invokevirtual 244, 3) := by decide +kernel
theorem dX5_expression_101 : decode cX5_expression 101 = .ok (.iconst 1, 1) := by decide +kernel
theorem dX5_expression_102 : decode cX5_expression 102 = .ok (.ireturn, 1) := by decide +kernel
theorem dX5_expression_91 : decode cX5_expression 91 = .ok (.iconst 0, 1) := by decide +kernel
theorem dX5_expression_92 : decode cX5_expression 92 = .ok (.ireturn, 1) := by decide +kernel
theorem dX5_expression_33 : decode cX5_expression 33 = .ok (.aload_n 0, 1) := by decide +kernel
theorem dX5_expression_34 : decode cX5_expression 34 = .ok (.getfield 12, 3) := by decide +kernel
theorem dX5_expression_37 : decode cX5_expression 37 = .ok (.getfield 71, 3) := by decide +kernel
theorem dX5_expression_40 : decode cX5_expression 40 = .ok (.bipush 60, 2) := by decide +kernel
theorem dX5_expression_42 : decode cX5_expression 42 = .ok (.if_icmp .eq 5, 3) := by decide +kernel
theorem dX5_expression_63 : decode cX5_expression 63 = .ok (.iconst 5, 1) := by decide +kernel
theorem dX5_expression_45 : decode cX5_expression 45 = .ok (.iconst 1, 1) := by decide +kernel
theorem dX5_expression_46 : decode cX5_expression 46 = .ok (.ireturn, 1) := by decide +kernel
theorem dX5_expression_19 : decode cX5_expression 19 = .ok (.iconst 0, 1) := by decide +kernel
theorem dX5_expression_20 : decode cX5_expression 20 = .ok (.ireturn, 1) := by decide +kernel
set_option maxRecDepth 20000 in
theorem k_X5_expression_1 (d : Nat) {T : CT} {σ : MS} {a : Nat} {dp : Int} {kp : Int} {lv : Nat} (ha : OB T a 5) (h_dp : -2147483648 ≤ dp ∧ dp ≤ 2147483647) (hw : WT T σ) (hex : ∀ (d : Nat) {T : CT} {σ : MS} {a : Nat} {dp : Int} {kp : Int} (ha : OB T a 5) (h_dp : -2147483648 ≤ dp ∧ dp ≤ 2147483647) (hw : WT T σ) (hdp : 0 ≤ dp ∧ dp ≤ 9) (hlv : 9 ≤ dp + (lv : Int)) (hkp : kp ≤ 150) (hrp : RP σ a kp), Tn (d + 5 * lv + 10) m_X5_expression 0 T σ [(0, .ref a), (1, .int (iI dp))] [] (fun ro T2 σ2 => ∃ v : Int, ro = some (.int (iI v)) ∧ WT T2 σ2 ∧ FrC T [5, 6, 7, 43, 44, 47, 50, 51, 84, 85, 86, 87, 521] σ σ2 ∧ (v = 0 ∨ v = 1) ∧ (RP σ2 a (kp - 4 * v)))) (hdp : 0 ≤ dp ∧ dp ≤ 9) (hlv : 9 ≤ dp + ((lv : Int) + 1)) (hkp : kp ≤ 150) (hrp : RP σ a kp) : Tn (d + 5 * lv + 15) m_X5_expression 0 T σ [(0, .ref a), (1, .int (iI dp))] [] (fun ro T2 σ2 => ∃ v : Int, ro = some (.int (iI v)) ∧ WT T2 σ2 ∧ FrC T [5, 6, 7, 43, 44, 47, 50, 51, 84, 85, 86, 87, 521] σ σ2 ∧ (v = 0 ∨ v = 1) ∧ (RP σ2 a (kp - 4 * v))) := by
  refine tn_iload_n dX5_expression_0 rfl 1 rfl ?_
  refine tn_bipush dX5_expression_1 (by decide) ?_
  refine tn_icmp_le (tgt := 11) dX5_expression_3 (by decide) ⟨by omega, by omega⟩ ⟨by decide, by decide⟩ (fun h1 => ?_) (fun h1 => ?_)
  · refine tn_aload_n dX5_expression_11 rfl 0 rfl ?_
    refine tn_iload_n dX5_expression_12 rfl 1 rfl ?_
    refine tn_callV (M := m_X5_expression) (pc := 13) (ix := 241) (ci := 5) (M' := m_X5_sum) (As := [.int (iI dp)]) (rest := []) dX5_expression_13 ok_X5_sum im_X5_sum se_X5_sum ml5_241 np_X5_sum rfl rfl ha rfl (Nat.le_of_ble_eq_true rfl) (Nat.le_of_ble_eq_true rfl) rfl (k_X5_sum (d) (T := T) (σ := σ) (a := a) (dp := dp) (kp := kp) (lv := lv) ha (by omega) hw hex (by omega) (by omega) (by omega) hrp) (fun r2 T4 σ3 gt5 hp => ?_)
    obtain ⟨v8, rfl, w9, F10, f6, f7⟩ := hp
    replace ha : OB T4 a 5 := gt5.ob ha
    show Tn _ _ 16 T4 σ3 [(0, .ref a), (1, .int (iI dp))] [.int (iI v8)] _
    refine tn_if_ne (tgt := 21) dX5_expression_16 (by decide) ⟨by omega, by omega⟩ (fun h12 => ?_) (fun h12 => ?_)
    · refine tn_aload_n dX5_expression_21 rfl 0 rfl ?_
      obtain ⟨x13, hx14, hk15⟩ : ∃ x : Nat, σ3.2.1 33 a = (x : Int) ∧ (T4 x).1 = 39 := wf_33 w9 ha
      have hk15o : OB T4 x13 9 := ⟨by omega, by rw [hk15]; rfl, by omega⟩
      refine tn_getR (ci := 5) (i := 0) (n := 33) (x := x13) dX5_expression_22 rfl lay_5 (by decide) fl5_12 ha rfl rfl (hx14) ?_
      refine tn_getI (ci := 9) (i := 4) (n := 85) (t := σ3.2.1 85 x13) dX5_expression_25 rfl lay_9 (by decide) fl5_71 hk15o rfl rfl (rfl) ?_
      have g17 : ((-2147483648 : Int) ≤ σ3.2.1 85 x13 ∧ σ3.2.1 85 x13 ≤ 2147483647) := wf_85 w9 hk15o
      refine tn_bipush dX5_expression_28 (by decide) ?_
      refine tn_icmp_eq (tgt := 47) dX5_expression_30 (by decide) ⟨by omega, by omega⟩ ⟨by decide, by decide⟩ (fun h18 => ?_) (fun h18 => ?_)
      · refine tn_aload_n dX5_expression_47 rfl 0 rfl ?_
        refine tn_getR (ci := 5) (i := 0) (n := 33) (x := x13) dX5_expression_48 rfl lay_5 (by decide) fl5_12 ha rfl rfl (hx14) ?_
        refine tn_getI (ci := 9) (i := 4) (n := 85) (t := σ3.2.1 85 x13) dX5_expression_51 rfl lay_9 (by decide) fl5_71 hk15o rfl rfl (rfl) ?_
        refine tn_bipush dX5_expression_54 (by decide) ?_
        refine tn_icmp_ne (tgt := 63) dX5_expression_56 (by decide) ⟨by omega, by omega⟩ ⟨by decide, by decide⟩ (fun h19 => absurd h19 (by omega)) (fun h19 => ?_)
        refine tn_iconst dX5_expression_59 ?_
        refine tn_goto (tgt := 64) dX5_expression_60 (by decide) ?_
        refine tn_istore_n (L' := [(2, .int (iI 4)), (0, .ref a), (1, .int (iI dp))]) dX5_expression_64 rfl (by decide) rfl ?_
        refine tn_aload_n dX5_expression_65 rfl 1 rfl ?_
        refine tn_getI (ci := 5) (i := 17) (n := 50) (t := σ3.2.1 50 a) dX5_expression_66 rfl lay_5 (by decide) fl5_216 ha rfl rfl (rfl) ?_
        have g20 : ((-2147483648 : Int) ≤ σ3.2.1 50 a ∧ σ3.2.1 50 a ≤ 2147483647) := wf_50 w9 ha
        refine tn_istore_n (L' := [(3, .int (iI (σ3.2.1 50 a))), (2, .int (iI 4)), (0, .ref a), (1, .int (iI dp))]) dX5_expression_69 rfl (by decide) rfl ?_
        refine tn_aload_n dX5_expression_70 rfl 2 rfl ?_
        refine tn_getI (ci := 5) (i := 18) (n := 51) (t := σ3.2.1 51 a) dX5_expression_71 rfl lay_5 (by decide) fl5_219 ha rfl rfl (rfl) ?_
        have g21 : ((-2147483648 : Int) ≤ σ3.2.1 51 a ∧ σ3.2.1 51 a ≤ 2147483647) := wf_51 w9 ha
        refine tn_istore (L' := [(4, .int (iI (σ3.2.1 51 a))), (3, .int (iI (σ3.2.1 50 a))), (2, .int (iI 4)), (0, .ref a), (1, .int (iI dp))]) dX5_expression_74 (by decide) rfl ?_
        refine tn_aload_n dX5_expression_76 rfl 3 rfl ?_
        refine tn_getR (ci := 5) (i := 0) (n := 33) (x := x13) dX5_expression_77 rfl lay_5 (by decide) fl5_12 ha rfl rfl (hx14) ?_
        refine tn_callV (M := m_X5_expression) (pc := 80) (ix := 93) (ci := 9) (M' := m_X9_next) (As := []) (rest := []) dX5_expression_80 ok_X9_next im_X9_next se_X9_next ml5_93 np_X9_next rfl rfl hk15o rfl (Nat.le_of_ble_eq_true rfl) (Nat.le_of_ble_eq_true rfl) rfl (k_X9_next (d + 5 * lv + 13) (T := T4) (σ := σ3) (a := x13) hk15o w9 (RP.tk f7 w9 ha (hx14))) (fun r22 T24 σ23 gt25 hp => ?_)
        obtain ⟨rfl, rfl, w30, F31, f26, f27, f28⟩ := hp
        clear gt25
        have rp32 : RP σ23 a (kp - 4 * v8 - 4) := RP.next4 f7 (hx14) F31 (by decide) (by decide) (by decide) f26 f28 (by rw [show σ3.2.1 85 x13 = σ3.2.1 85 x13 from rfl]; omega)
        show Tn _ _ 83 T4 σ23 [(4, .int (iI (σ3.2.1 51 a))), (3, .int (iI (σ3.2.1 50 a))), (2, .int (iI 4)), (0, .ref a), (1, .int (iI dp))] [] _
        refine tn_aload_n dX5_expression_83 rfl 3 rfl ?_
        refine tn_iload_n dX5_expression_84 rfl 4 rfl ?_
        refine tn_callV (M := m_X5_expression) (pc := 85) (ix := 241) (ci := 5) (M' := m_X5_sum) (As := [.int (iI dp)]) (rest := []) dX5_expression_85 ok_X5_sum im_X5_sum se_X5_sum ml5_241 np_X5_sum rfl rfl ha rfl (Nat.le_of_ble_eq_true rfl) (Nat.le_of_ble_eq_true rfl) rfl (k_X5_sum (d) (T := T4) (σ := σ23) (a := a) (dp := dp) (kp := kp - 4 * v8 - 4) (lv := lv) ha (by omega) w30 hex (by omega) (by omega) (by omega) rp32) (fun r33 T35 σ34 gt36 hp => ?_)
        obtain ⟨v39, rfl, w40, F41, f37, f38⟩ := hp
        replace ha : OB T35 a 5 := gt36.ob ha
        have rp43 : RP σ34 a (kp - 4 * v8 - 4 * v39 - 4) := RP.up f38 (by omega)
        show Tn _ _ 88 T35 σ34 [(4, .int (iI (σ3.2.1 51 a))), (3, .int (iI (σ3.2.1 50 a))), (2, .int (iI 4)), (0, .ref a), (1, .int (iI dp))] [.int (iI v39)] _
        refine tn_if_ne (tgt := 93) dX5_expression_88 (by decide) ⟨by omega, by omega⟩ (fun h44 => ?_) (fun h44 => ?_)
        · refine tn_aload_n dX5_expression_93 rfl 3 rfl ?_
          refine tn_iload_n dX5_expression_94 rfl 2 rfl ?_
          refine tn_iload_n dX5_expression_95 rfl 1 rfl ?_
          refine tn_iload dX5_expression_96 0 rfl ?_
          refine tn_callV (M := m_X5_expression) (pc := 98) (ix := 244) (ci := 5) (M' := m_X5_join) (As := [.int (iI 4), .int (iI (σ3.2.1 50 a)), .int (iI (σ3.2.1 51 a))]) (rest := []) dX5_expression_98 ok_X5_join im_X5_join se_X5_join ml5_244 np_X5_join rfl rfl ha rfl (Nat.le_of_ble_eq_true rfl) (Nat.le_of_ble_eq_true rfl) rfl (k_X5_join (d + 5 * lv + 10) (T := T35) (σ := σ34) (a := a) (k := 4) (e := σ3.2.1 50 a) (l := σ3.2.1 51 a) (kp := kp - 4 * v8 - 4 * v39 - 4) ha (by decide) (by omega) (by omega) w40 (by omega) (by omega) rp43) (fun r45 T47 σ46 gt48 hp => ?_)
          obtain ⟨rfl, w51, F52, f49⟩ := hp
          replace ha : OB T47 a 5 := gt48.ob ha
          have rp54 : RP σ46 a (kp - 4 * v8 - 4 * v39 - 3) := RP.up f49 (by omega)
          show Tn _ _ 101 T47 σ46 [(4, .int (iI (σ3.2.1 51 a))), (3, .int (iI (σ3.2.1 50 a))), (2, .int (iI 4)), (0, .ref a), (1, .int (iI dp))] [] _
          refine tn_iconst dX5_expression_101 ?_
          exact tn_zret (v := 1) rfl (by decide) dX5_expression_102 ⟨_, rfl, w51, ((((FrC.rfl.trans (FrC.sub F10 (by decide))).trans (FrC.sub (FrC.old F31 gt5) (by decide))).trans (FrC.sub (FrC.old F41 gt5) (by decide))).trans (FrC.sub (FrC.old F52 (GT.trans gt5 gt36)) (by decide))), by omega, (RP.up rp54 (by omega))⟩
        · refine tn_iconst dX5_expression_91 ?_
          exact tn_zret (v := 0) rfl (by decide) dX5_expression_92 ⟨_, rfl, w40, (((FrC.rfl.trans (FrC.sub F10 (by decide))).trans (FrC.sub (FrC.old F31 gt5) (by decide))).trans (FrC.sub (FrC.old F41 gt5) (by decide))), by omega, (RP.up rp43 (by omega))⟩
      · refine tn_aload_n dX5_expression_33 rfl 0 rfl ?_
        refine tn_getR (ci := 5) (i := 0) (n := 33) (x := x13) dX5_expression_34 rfl lay_5 (by decide) fl5_12 ha rfl rfl (hx14) ?_
        refine tn_getI (ci := 9) (i := 4) (n := 85) (t := σ3.2.1 85 x13) dX5_expression_37 rfl lay_9 (by decide) fl5_71 hk15o rfl rfl (rfl) ?_
        refine tn_bipush dX5_expression_40 (by decide) ?_
        refine tn_icmp_eq (tgt := 47) dX5_expression_42 (by decide) ⟨by omega, by omega⟩ ⟨by decide, by decide⟩ (fun h55 => ?_) (fun h55 => ?_)
        · refine tn_aload_n dX5_expression_47 rfl 0 rfl ?_
          refine tn_getR (ci := 5) (i := 0) (n := 33) (x := x13) dX5_expression_48 rfl lay_5 (by decide) fl5_12 ha rfl rfl (hx14) ?_
          refine tn_getI (ci := 9) (i := 4) (n := 85) (t := σ3.2.1 85 x13) dX5_expression_51 rfl lay_9 (by decide) fl5_71 hk15o rfl rfl (rfl) ?_
          refine tn_bipush dX5_expression_54 (by decide) ?_
          refine tn_icmp_ne (tgt := 63) dX5_expression_56 (by decide) ⟨by omega, by omega⟩ ⟨by decide, by decide⟩ (fun h56 => ?_) (fun h56 => absurd h56 (by omega))
          refine tn_iconst dX5_expression_63 ?_
          refine tn_istore_n (L' := [(2, .int (iI 5)), (0, .ref a), (1, .int (iI dp))]) dX5_expression_64 rfl (by decide) rfl ?_
          refine tn_aload_n dX5_expression_65 rfl 1 rfl ?_
          refine tn_getI (ci := 5) (i := 17) (n := 50) (t := σ3.2.1 50 a) dX5_expression_66 rfl lay_5 (by decide) fl5_216 ha rfl rfl (rfl) ?_
          have g57 : ((-2147483648 : Int) ≤ σ3.2.1 50 a ∧ σ3.2.1 50 a ≤ 2147483647) := wf_50 w9 ha
          refine tn_istore_n (L' := [(3, .int (iI (σ3.2.1 50 a))), (2, .int (iI 5)), (0, .ref a), (1, .int (iI dp))]) dX5_expression_69 rfl (by decide) rfl ?_
          refine tn_aload_n dX5_expression_70 rfl 2 rfl ?_
          refine tn_getI (ci := 5) (i := 18) (n := 51) (t := σ3.2.1 51 a) dX5_expression_71 rfl lay_5 (by decide) fl5_219 ha rfl rfl (rfl) ?_
          have g58 : ((-2147483648 : Int) ≤ σ3.2.1 51 a ∧ σ3.2.1 51 a ≤ 2147483647) := wf_51 w9 ha
          refine tn_istore (L' := [(4, .int (iI (σ3.2.1 51 a))), (3, .int (iI (σ3.2.1 50 a))), (2, .int (iI 5)), (0, .ref a), (1, .int (iI dp))]) dX5_expression_74 (by decide) rfl ?_
          refine tn_aload_n dX5_expression_76 rfl 3 rfl ?_
          refine tn_getR (ci := 5) (i := 0) (n := 33) (x := x13) dX5_expression_77 rfl lay_5 (by decide) fl5_12 ha rfl rfl (hx14) ?_
          refine tn_callV (M := m_X5_expression) (pc := 80) (ix := 93) (ci := 9) (M' := m_X9_next) (As := []) (rest := []) dX5_expression_80 ok_X9_next im_X9_next se_X9_next ml5_93 np_X9_next rfl rfl hk15o rfl (Nat.le_of_ble_eq_true rfl) (Nat.le_of_ble_eq_true rfl) rfl (k_X9_next (d + 5 * lv + 13) (T := T4) (σ := σ3) (a := x13) hk15o w9 (RP.tk f7 w9 ha (hx14))) (fun r59 T61 σ60 gt62 hp => ?_)
          obtain ⟨rfl, rfl, w67, F68, f63, f64, f65⟩ := hp
          clear gt62
          have rp69 : RP σ60 a (kp - 4 * v8 - 4) := RP.next4 f7 (hx14) F68 (by decide) (by decide) (by decide) f63 f65 (by rw [show σ3.2.1 85 x13 = σ3.2.1 85 x13 from rfl]; omega)
          show Tn _ _ 83 T4 σ60 [(4, .int (iI (σ3.2.1 51 a))), (3, .int (iI (σ3.2.1 50 a))), (2, .int (iI 5)), (0, .ref a), (1, .int (iI dp))] [] _
          refine tn_aload_n dX5_expression_83 rfl 3 rfl ?_
          refine tn_iload_n dX5_expression_84 rfl 4 rfl ?_
          refine tn_callV (M := m_X5_expression) (pc := 85) (ix := 241) (ci := 5) (M' := m_X5_sum) (As := [.int (iI dp)]) (rest := []) dX5_expression_85 ok_X5_sum im_X5_sum se_X5_sum ml5_241 np_X5_sum rfl rfl ha rfl (Nat.le_of_ble_eq_true rfl) (Nat.le_of_ble_eq_true rfl) rfl (k_X5_sum (d) (T := T4) (σ := σ60) (a := a) (dp := dp) (kp := kp - 4 * v8 - 4) (lv := lv) ha (by omega) w67 hex (by omega) (by omega) (by omega) rp69) (fun r70 T72 σ71 gt73 hp => ?_)
          obtain ⟨v76, rfl, w77, F78, f74, f75⟩ := hp
          replace ha : OB T72 a 5 := gt73.ob ha
          have rp80 : RP σ71 a (kp - 4 * v8 - 4 * v76 - 4) := RP.up f75 (by omega)
          show Tn _ _ 88 T72 σ71 [(4, .int (iI (σ3.2.1 51 a))), (3, .int (iI (σ3.2.1 50 a))), (2, .int (iI 5)), (0, .ref a), (1, .int (iI dp))] [.int (iI v76)] _
          refine tn_if_ne (tgt := 93) dX5_expression_88 (by decide) ⟨by omega, by omega⟩ (fun h81 => ?_) (fun h81 => ?_)
          · refine tn_aload_n dX5_expression_93 rfl 3 rfl ?_
            refine tn_iload_n dX5_expression_94 rfl 2 rfl ?_
            refine tn_iload_n dX5_expression_95 rfl 1 rfl ?_
            refine tn_iload dX5_expression_96 0 rfl ?_
            refine tn_callV (M := m_X5_expression) (pc := 98) (ix := 244) (ci := 5) (M' := m_X5_join) (As := [.int (iI 5), .int (iI (σ3.2.1 50 a)), .int (iI (σ3.2.1 51 a))]) (rest := []) dX5_expression_98 ok_X5_join im_X5_join se_X5_join ml5_244 np_X5_join rfl rfl ha rfl (Nat.le_of_ble_eq_true rfl) (Nat.le_of_ble_eq_true rfl) rfl (k_X5_join (d + 5 * lv + 10) (T := T72) (σ := σ71) (a := a) (k := 5) (e := σ3.2.1 50 a) (l := σ3.2.1 51 a) (kp := kp - 4 * v8 - 4 * v76 - 4) ha (by decide) (by omega) (by omega) w77 (by omega) (by omega) rp80) (fun r82 T84 σ83 gt85 hp => ?_)
            obtain ⟨rfl, w88, F89, f86⟩ := hp
            replace ha : OB T84 a 5 := gt85.ob ha
            have rp91 : RP σ83 a (kp - 4 * v8 - 4 * v76 - 3) := RP.up f86 (by omega)
            show Tn _ _ 101 T84 σ83 [(4, .int (iI (σ3.2.1 51 a))), (3, .int (iI (σ3.2.1 50 a))), (2, .int (iI 5)), (0, .ref a), (1, .int (iI dp))] [] _
            refine tn_iconst dX5_expression_101 ?_
            exact tn_zret (v := 1) rfl (by decide) dX5_expression_102 ⟨_, rfl, w88, ((((FrC.rfl.trans (FrC.sub F10 (by decide))).trans (FrC.sub (FrC.old F68 gt5) (by decide))).trans (FrC.sub (FrC.old F78 gt5) (by decide))).trans (FrC.sub (FrC.old F89 (GT.trans gt5 gt73)) (by decide))), by omega, (RP.up rp91 (by omega))⟩
          · refine tn_iconst dX5_expression_91 ?_
            exact tn_zret (v := 0) rfl (by decide) dX5_expression_92 ⟨_, rfl, w77, (((FrC.rfl.trans (FrC.sub F10 (by decide))).trans (FrC.sub (FrC.old F68 gt5) (by decide))).trans (FrC.sub (FrC.old F78 gt5) (by decide))), by omega, (RP.up rp80 (by omega))⟩
        · refine tn_iconst dX5_expression_45 ?_
          exact tn_zret (v := 1) rfl (by decide) dX5_expression_46 ⟨_, rfl, w9, (FrC.rfl.trans (FrC.sub F10 (by decide))), by omega, (RP.up f7 (by omega))⟩
    · refine tn_iconst dX5_expression_19 ?_
      exact tn_zret (v := 0) rfl (by decide) dX5_expression_20 ⟨_, rfl, w9, (FrC.rfl.trans (FrC.sub F10 (by decide))), by omega, (RP.up f7 (by omega))⟩
  · refine tn_aload_n dX5_expression_6 rfl 0 rfl ?_
    refine tn_callV (M := m_X5_expression) (pc := 7) (ix := 90) (ci := 5) (M' := m_X5_refuse) (As := []) (rest := []) dX5_expression_7 ok_X5_refuse im_X5_refuse se_X5_refuse ml5_90 np_X5_refuse rfl rfl ha rfl (Nat.le_of_ble_eq_true rfl) (Nat.le_of_ble_eq_true rfl) rfl (k_X5_refuse (d + 5 * lv + 13) (T := T) (σ := σ) (a := a) ha hw ) (fun r92 T94 σ93 gt95 hp => ?_)
    obtain ⟨v98, rfl, rfl, w99, F100, f96, f97⟩ := hp
    clear gt95
    have rp101 : RP σ93 a (kp) := RP.frc hrp F100 (by decide) (by decide) (by decide) (by decide) (by decide)
    show Tn _ _ 10 T σ93 [(0, .ref a), (1, .int (iI dp))] [.int (iI v98)] _
    exact tn_zret (v := v98) rfl (by omega) dX5_expression_10 ⟨_, rfl, w99, (FrC.rfl.trans (FrC.sub F100 (by decide))), by omega, (RP.up rp101 (by omega))⟩
