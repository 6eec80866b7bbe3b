theorem cd_X5_statement : Cond.code yX5_statement cX5_statement 2 (some .boolean) ∈ pWW := pw3 (List.mem_of_getElem? (i := 120) rfl) rfl
abbrev m_X5_statement : MT := (yX5_statement, cX5_statement, 2, (some .boolean))
theorem ok_X5_statement : pOk m_X5_statement := ⟨⟨cd_X5_statement, ini_5⟩, by decide +kernel, ⟨by decide +kernel, by decide +kernel⟩, Nat.le_of_ble_eq_true rfl⟩
theorem np_X5_statement : (parseMethodDescriptor yX5_statement.desc).map (fun d => d.parameters.length) = some 1 := by decide +kernel
theorem im_X5_statement : Cond.instanceMethod yX5_statement ∈ pWW := pw3 (List.mem_of_getElem? (i := 119) rfl) rfl
theorem se_X5_statement : Cond.selects RX5 yX5_statement yX5_statement ∈ pWW := pws (List.mem_map.mpr ⟨_, lw_pin 15 rfl, rfl⟩) rfl
theorem fl5_186 : Cond.fieldLink RX5 186 (TX1 4).1 (TX1 4).2.1 (TX1 4).2.2.1 ∈ pWW := pw1 (List.mem_of_getElem? (i := 101) rfl) rfl
theorem ml5_189 : Cond.methodLink RX5 189 yX5_assignment ∈ pWW := pw3 (List.mem_of_getElem? (i := 121) rfl) rfl
theorem ml5_192 : Cond.methodLink RX5 192 yX5_single ∈ pWW := pw3 (List.mem_of_getElem? (i := 206) rfl) rfl
theorem ml5_195 : Cond.methodLink RX5 195 yX5_choice ∈ pWW := pw3 (List.mem_of_getElem? (i := 210) rfl) rfl
theorem ml5_198 : Cond.methodLink RX5 198 yX5_ring ∈ pWW := pw3 (List.mem_of_getElem? (i := 222) rfl) rfl
theorem dX5_statement_0 : decode cX5_statement 0 = .ok (.aload_n 0, 1) := by decide +kernel
theorem dX5_statement_1 : decode cX5_statement 1 = .ok (.dup, 1) := by decide +kernel
theorem dX5_statement_2 : decode cX5_statement 2 = .ok (.getfield 64, 3) := by decide +kernel
theorem dX5_statement_5 : decode cX5_statement 5 = .ok (.iconst 1, 1) := by decide +kernel
theorem dX5_statement_6 : decode cX5_statement 6 = .ok (.iadd, 1) := by decide +kernel
theorem dX5_statement_7 : decode cX5_statement 7 = .ok (.putfield 64, 3) := by decide +kernel
theorem dX5_statement_10 : decode cX5_statement 10 = .ok (.aload_n 0, 1) := by decide +kernel
theorem dX5_statement_11 : decode cX5_statement 11 = .ok (.getfield 64, 3) := by decide +kernel
theorem dX5_statement_14 : decode cX5_statement 14 = .ok (.bipush 40, 2) := by decide +kernel
theorem dX5_statement_16 : decode cX5_statement 16 = .ok (.if_icmp .le 15, 3) := by decide +kernel
theorem dX5_statement_31 : decode cX5_statement 31 = .ok (.aload_n 0, 1) := by decide +kernel
theorem dX5_statement_32 : decode cX5_statement 32 = .ok (.getfield 47, 3) := by decide +kernel
theorem dX5_statement_35 : decode cX5_statement 35 = .ok (.getfield 186, 3) := by decide +kernel
theorem dX5_statement_38 : decode cX5_statement 38 = .ok (.ifCond .ne 14, 3) := by decide +kernel
theorem dX5_statement_52 : decode cX5_statement 52 = .ok (.aload_n 0, 1) := by decide +kernel
theorem dX5_statement_53 : decode cX5_statement 53 = .ok (.getfield 12, 3) := by decide +kernel
theorem dX5_statement_56 : decode cX5_statement 56 = .ok (.getfield 71, 3) := by decide +kernel
theorem dX5_statement_59 : decode cX5_statement 59 = .ok (.tableswitch 72 256 262 #[41, 72, 46, 53, 60, 72, 66], 41) := by decide +kernel
theorem dX5_statement_131 : decode cX5_statement 131 = .ok (.aload_n 0, 1) := by decide +kernel
theorem dX5_statement_132 : decode cX5_statement 132 = .ok (.invokevirtual 90, 3) := by decide +kernel
theorem dX5_statement_135 : decode cX5_statement 135 = .ok (.ireturn, 1) := by decide +kernel
theorem dX5_statement_100 : decode cX5_statement 100 = .ok (.aload_n 0, 1) := by decide +kernel
theorem dX5_statement_101 : decode cX5_statement 101 = .ok (.invokevirtual 189, 3) := by decide +kernel
theorem dX5_statement_104 : decode cX5_statement 104 = .ok (.ireturn, 1) := by decide +kernel
theorem dX5_statement_105 : decode cX5_statement 105 = .ok (.aload_n 0, 1) := by decide +kernel
theorem dX5_statement_106 : decode cX5_statement 106 = .ok (.bipush 6, 2) := by decide +kernel
theorem dX5_statement_108 : decode cX5_statement 108 = .ok (.invokevirtual 192, 3) := by decide +kernel
theorem dX5_statement_111 : decode cX5_statement 111 = .ok (.ireturn, 1) := by decide +kernel
theorem dX5_statement_112 : decode cX5_statement 112 = .ok (.aload_n 0, 1) := by decide +kernel
theorem dX5_statement_113 : decode cX5_statement 113 = .ok (.bipush 7, 2) := by decide +kernel
theorem dX5_statement_115 : decode cX5_statement 115 = .ok (.invokevirtual 192, 3) := by decide +kernel
theorem dX5_statement_118 : decode cX5_statement 118 = .ok (.ireturn, 1) := by decide +kernel
theorem dX5_statement_119 : decode cX5_statement 119 = .ok (.aload_n 0, 1) := by decide +kernel
theorem dX5_statement_120 : decode cX5_statement 120 = .ok (.iload_n 1, 1) := by decide +kernel
theorem dX5_statement_121 : decode cX5_statement 121 = .ok (.invokevirtual 195, 3) := by decide +kernel
theorem dX5_statement_124 : decode cX5_statement 124 = .ok (.ireturn, 1) := by decide +kernel
theorem dX5_statement_125 : decode cX5_statement 125 = .ok (.aload_n 0, 1) := by decide +kernel
theorem dX5_statement_126 : decode cX5_statement 126 = .ok (.iload_n 1, 1) := by decide +kernel
theorem dX5_statement_127 : decode cX5_statement 127 = .ok (.invokevirtual 198, 3) := by decide +kernel
theorem dX5_statement_130 : decode cX5_statement 130 = .ok (.ireturn, 1) := by decide +kernel
theorem dX5_statement_41 : decode cX5_statement 41 = .ok (.aload_n 0, 1) := by decide +kernel
theorem dX5_statement_42 : decode cX5_statement 42 = .ok (.getfield 47, 3) := by decide +kernel
theorem dX5_statement_45 : decode cX5_statement 45 = .ok (.aload_n 0, 1) := by decide +kernel
theorem dX5_statement_46 : decode cX5_statement 46 = .ok (.getfield 64, 3) := by decide +kernel
theorem dX5_statement_49 : decode cX5_statement 49 = .ok (.putfield 186, 3) := by decide +kernel
theorem dX5_statement_19 : decode cX5_statement 19 = .ok (.aload_n 0, 1) := by decide +kernel
theorem dX5_statement_20 : decode cX5_statement 20 = .ok (.iconst 5, 1) := by decide +kernel
theorem dX5_statement_21 : decode cX5_statement 21 = .ok (.aload_n 0, 1) := by decide +kernel
theorem dX5_statement_22 : decode cX5_statement 22 = .ok (.getfield 12, 3) := by decide +kernel
theorem dX5_statement_25 : decode cX5_statement 25 = .ok (.getfield 74, 3) := by decide +kernel
theorem dX5_statement_28 : decode cX5_statement 28 = .ok (.invokevirtual 113, 3) := by decide +kernel
set_option maxRecDepth 20000 in
theorem k_X5_statement (d : Nat) {T : CT} {σ : MS} {a : Nat} {dp : Int} {kp : Int} {lv : Nat} (ha : OB T a 5) (h_dp : -2147483648 ≤ dp ∧ dp ≤ 2147483647) (hw : WT T σ) (hex : ∀ (d : Nat) {T : CT} {σ : MS} {a : Nat} {dp : Int} {kp : Int} (ha : OB T a 5) (h_dp : -2147483648 ≤ dp ∧ dp ≤ 2147483647) (hw : WT T σ) (hdp : 0 ≤ dp ∧ dp ≤ 7) (hlv : 7 ≤ dp + (lv : Int)) (hkp : kp ≤ 140) (hrp : RP σ a kp), Tn (d + 3 * lv + 60) m_X5_block 0 T σ [(0, .ref a), (1, .int (iI dp))] [] (fun ro T2 σ2 => ∃ v : Int, ro = some (.int (iI v)) ∧ WT T2 σ2 ∧ FrC T [5, 6, 7, 9, 42, 43, 44, 45, 46, 47, 50, 51, 84, 85, 86, 87, 518, 519, 520, 521] σ σ2 ∧ (v = 0 ∨ v = 1) ∧ (RP σ2 a (kp + 2 - 10 * v)))) (hdp : 0 ≤ dp ∧ dp ≤ 6) (hlv : 6 ≤ dp + (lv : Int)) (hkp : kp ≤ 140) (hrp : RP σ a kp) : Tn (d + 3 * lv + 62) m_X5_statement 0 T σ [(0, .ref a), (1, .int (iI dp))] [] (fun ro T2 σ2 => ∃ v : Int, ro = some (.int (iI v)) ∧ WT T2 σ2 ∧ FrC T [5, 6, 7, 9, 42, 43, 44, 45, 46, 47, 50, 51, 84, 85, 86, 87, 518, 519, 520, 521] σ σ2 ∧ (v = 0 ∨ v = 1) ∧ (RP σ2 a (kp + 2 - 8 * v))) := by
  refine tn_aload_n dX5_statement_0 rfl 0 rfl ?_
  refine tn_dup dX5_statement_1 rfl ?_
  refine tn_getI (ci := 5) (i := 12) (n := 45) (t := σ.2.1 45 a) dX5_statement_2 rfl lay_5 (by decide) fl5_64 ha rfl rfl (rfl) ?_
  have g1 : ((-2147483648 : Int) ≤ σ.2.1 45 a ∧ σ.2.1 45 a ≤ 2147483647) := wf_45 hw ha
  refine tn_iconst dX5_statement_5 ?_
  refine tn_iadd dX5_statement_6 ?_
  refine tn_any (fun z2 g3 => ?_)
  have g3r : -2147483648 ≤ z2 ∧ z2 ≤ 2147483647 := g3
  refine tn_putV (ci := 5) (i := 12) (n := 45) (r := false) (v := z2) tyX5 tyX5_ok nmX5 dX5_statement_7 rfl lay_5 (by decide) fl5_64 rfl (tyX5_ok 12 (by decide)) rfl rfl rfl ha rfl rfl ?_
  refine tn_aload_n dX5_statement_10 rfl 0 rfl ?_
  refine tn_getI (ci := 5) (i := 12) (n := 45) (t := z2) dX5_statement_11 rfl lay_5 (by decide) fl5_64 ha rfl rfl (ra_eq) ?_
  refine tn_bipush dX5_statement_14 (by decide) ?_
  refine tn_icmp_le (tgt := 31) dX5_statement_16 (by decide) ⟨by omega, by omega⟩ ⟨by decide, by decide⟩ (fun h4 => ?_) (fun h4 => ?_)
  · refine tn_aload_n dX5_statement_31 rfl 0 rfl ?_
    obtain ⟨x5, hx6, hk7⟩ : ∃ x : Nat, σ.2.1 35 a = (x : Int) ∧ (T x).1 = 31 := wf_35 hw ha
    have hk7o : OB T x5 1 := ⟨by omega, by rw [hk7]; rfl, by omega⟩
    refine tn_getR (ci := 5) (i := 2) (n := 35) (x := x5) dX5_statement_32 rfl lay_5 (by decide) fl5_47 ha rfl rfl (rc_o (by decide) (hx6)) ?_
    refine tn_getI (ci := 1) (i := 4) (n := 9) (t := σ.2.1 9 x5) dX5_statement_35 rfl lay_1 (by decide) fl5_186 hk7o rfl rfl (rc_o (by decide) (rfl)) ?_
    have g9 : ((-2147483648 : Int) ≤ σ.2.1 9 x5 ∧ σ.2.1 9 x5 ≤ 2147483647) := wf_9 hw hk7o
    refine tn_if_ne (tgt := 52) dX5_statement_38 (by decide) ⟨by omega, by omega⟩ (fun h10 => ?_) (fun h10 => ?_)
    · refine tn_aload_n dX5_statement_52 rfl 0 rfl ?_
      obtain ⟨x11, hx12, hk13⟩ : ∃ x : Nat, σ.2.1 33 a = (x : Int) ∧ (T x).1 = 39 := wf_33 hw ha
      have hk13o : OB T x11 9 := ⟨by omega, by rw [hk13]; rfl, by omega⟩
      refine tn_getR (ci := 5) (i := 0) (n := 33) (x := x11) dX5_statement_53 rfl lay_5 (by decide) fl5_12 ha rfl rfl (rc_o (by decide) (hx12)) ?_
      refine tn_getI (ci := 9) (i := 4) (n := 85) (t := σ.2.1 85 x11) dX5_statement_56 rfl lay_9 (by decide) fl5_71 hk13o rfl rfl (rc_o (by decide) (rfl)) ?_
      have g15 : ((-2147483648 : Int) ≤ σ.2.1 85 x11 ∧ σ.2.1 85 x11 ≤ 2147483647) := wf_85 hw hk13o
      by_cases h16 : σ.2.1 85 x11 < 256 ∨ 262 < σ.2.1 85 x11
      · refine tn_tableOut (tgt := 131) dX5_statement_59 (x := σ.2.1 85 x11) ⟨by omega, by omega⟩ h16 (by decide) ?_
        refine tn_aload_n dX5_statement_131 rfl 0 rfl ?_
        refine tn_callV (M := m_X5_statement) (pc := 132) (ix := 90) (ci := 5) (M' := m_X5_refuse) (As := []) (rest := []) dX5_statement_132 ok_X5_refuse im_X5_refuse se_X5_refuse ml5_90 np_X5_refuse rfl rfl ha rfl (Nat.le_of_ble_eq_true rfl) (Nat.le_of_ble_eq_true rfl) rfl (k_X5_refuse (d + 3 * lv + 60) (T := T) (σ := (sA 45 a (z2) σ)) (a := a) ha (hw.put (by decide) (by decide) (fo_45 (by omega))) ) (fun r17 T19 σ18 gt20 hp => ?_)
        obtain ⟨v23, rfl, rfl, w24, F25, f21, f22⟩ := hp
        clear gt20
        have rp26 : RP σ18 a (kp) := RP.frc (hrp.put (by decide)) F25 (by decide) (by decide) (by decide) (by decide) (by decide)
        show Tn _ _ 135 T σ18 [(0, .ref a), (1, .int (iI dp))] [.int (iI v23)] _
        exact tn_zret (v := v23) rfl (by omega) dX5_statement_135 ⟨_, rfl, w24, ((FrC.rfl.put (by decide) (by decide)).trans (FrC.sub F25 (by decide))), by omega, (RP.up rp26 (by omega))⟩
      · have h27 : σ.2.1 85 x11 = 256 ∨ σ.2.1 85 x11 = 257 ∨ σ.2.1 85 x11 = 258 ∨ σ.2.1 85 x11 = 259 ∨ σ.2.1 85 x11 = 260 ∨ σ.2.1 85 x11 = 261 ∨ σ.2.1 85 x11 = 262 := by omega
        rcases h27 with h27 | h27 | h27 | h27 | h27 | h27 | h27
        · refine tn_tableIn (tgt := 100) (off := 41) dX5_statement_59 (x := σ.2.1 85 x11) ⟨by omega, by omega⟩ (by omega) (by omega) (by rw [h27]; rfl) (by decide) ?_
          refine tn_aload_n dX5_statement_100 rfl 0 rfl ?_
          refine tn_callV (M := m_X5_statement) (pc := 101) (ix := 189) (ci := 5) (M' := m_X5_assignment) (As := []) (rest := []) dX5_statement_101 ok_X5_assignment im_X5_assignment se_X5_assignment ml5_189 np_X5_assignment rfl rfl ha rfl (Nat.le_of_ble_eq_true rfl) (Nat.le_of_ble_eq_true rfl) rfl (k_X5_assignment (d + 3 * lv + 9) (T := T) (σ := (sA 45 a (z2) σ)) (a := a) (kp := kp) ha (hw.put (by decide) (by decide) (fo_45 (by omega))) (by omega) (hrp.put (by decide))) (fun r28 T30 σ29 gt31 hp => ?_)
          obtain ⟨v34, rfl, w35, F36, f32, f33⟩ := hp
          replace ha : OB T30 a 5 := gt31.ob ha
          have rp38 : RP σ29 a (kp - 10 * v34 + 1) := RP.up f33 (by omega)
          show Tn _ _ 104 T30 σ29 [(0, .ref a), (1, .int (iI dp))] [.int (iI v34)] _
          exact tn_zret (v := v34) rfl (by omega) dX5_statement_104 ⟨_, rfl, w35, ((FrC.rfl.put (by decide) (by decide)).trans (FrC.sub F36 (by decide))), by omega, (RP.up rp38 (by omega))⟩
        · refine tn_tableIn (tgt := 131) (off := 72) dX5_statement_59 (x := σ.2.1 85 x11) ⟨by omega, by omega⟩ (by omega) (by omega) (by rw [h27]; rfl) (by decide) ?_
          refine tn_aload_n dX5_statement_131 rfl 0 rfl ?_
          refine tn_callV (M := m_X5_statement) (pc := 132) (ix := 90) (ci := 5) (M' := m_X5_refuse) (As := []) (rest := []) dX5_statement_132 ok_X5_refuse im_X5_refuse se_X5_refuse ml5_90 np_X5_refuse rfl rfl ha rfl (Nat.le_of_ble_eq_true rfl) (Nat.le_of_ble_eq_true rfl) rfl (k_X5_refuse (d + 3 * lv + 60) (T := T) (σ := (sA 45 a (z2) σ)) (a := a) ha (hw.put (by decide) (by decide) (fo_45 (by omega))) ) (fun r39 T41 σ40 gt42 hp => ?_)
          obtain ⟨v45, rfl, rfl, w46, F47, f43, f44⟩ := hp
          clear gt42
          have rp48 : RP σ40 a (kp) := RP.frc (hrp.put (by decide)) F47 (by decide) (by decide) (by decide) (by decide) (by decide)
          show Tn _ _ 135 T σ40 [(0, .ref a), (1, .int (iI dp))] [.int (iI v45)] _
          exact tn_zret (v := v45) rfl (by omega) dX5_statement_135 ⟨_, rfl, w46, ((FrC.rfl.put (by decide) (by decide)).trans (FrC.sub F47 (by decide))), by omega, (RP.up rp48 (by omega))⟩
        · refine tn_tableIn (tgt := 105) (off := 46) dX5_statement_59 (x := σ.2.1 85 x11) ⟨by omega, by omega⟩ (by omega) (by omega) (by rw [h27]; rfl) (by decide) ?_
          refine tn_aload_n dX5_statement_105 rfl 0 rfl ?_
          refine tn_bipush dX5_statement_106 (by decide) ?_
          refine tn_callV (M := m_X5_statement) (pc := 108) (ix := 192) (ci := 5) (M' := m_X5_single) (As := [.int (iI 6)]) (rest := []) dX5_statement_108 ok_X5_single im_X5_single se_X5_single ml5_192 np_X5_single rfl rfl ha rfl (Nat.le_of_ble_eq_true rfl) (Nat.le_of_ble_eq_true rfl) rfl (k_X5_single (d + 3 * lv + 10) (T := T) (σ := (sA 45 a (z2) σ)) (a := a) (k := 6) (kp := kp) ha (by decide) (hw.put (by decide) (by decide) (fo_45 (by omega))) (by omega) (by omega) (hrp.put (by decide))) (fun r49 T51 σ50 gt52 hp => ?_)
          obtain ⟨v55, rfl, w56, F57, f53, f54⟩ := hp
          replace ha : OB T51 a 5 := gt52.ob ha
          have rp59 : RP σ50 a (kp - 7 * v55 + 1) := RP.up f54 (by omega)
          show Tn _ _ 111 T51 σ50 [(0, .ref a), (1, .int (iI dp))] [.int (iI v55)] _
          exact tn_zret (v := v55) rfl (by omega) dX5_statement_111 ⟨_, rfl, w56, ((FrC.rfl.put (by decide) (by decide)).trans (FrC.sub F57 (by decide))), by omega, (RP.up rp59 (by omega))⟩
        · refine tn_tableIn (tgt := 112) (off := 53) dX5_statement_59 (x := σ.2.1 85 x11) ⟨by omega, by omega⟩ (by omega) (by omega) (by rw [h27]; rfl) (by decide) ?_
          refine tn_aload_n dX5_statement_112 rfl 0 rfl ?_
          refine tn_bipush dX5_statement_113 (by decide) ?_
          refine tn_callV (M := m_X5_statement) (pc := 115) (ix := 192) (ci := 5) (M' := m_X5_single) (As := [.int (iI 7)]) (rest := []) dX5_statement_115 ok_X5_single im_X5_single se_X5_single ml5_192 np_X5_single rfl rfl ha rfl (Nat.le_of_ble_eq_true rfl) (Nat.le_of_ble_eq_true rfl) rfl (k_X5_single (d + 3 * lv + 10) (T := T) (σ := (sA 45 a (z2) σ)) (a := a) (k := 7) (kp := kp) ha (by decide) (hw.put (by decide) (by decide) (fo_45 (by omega))) (by omega) (by omega) (hrp.put (by decide))) (fun r60 T62 σ61 gt63 hp => ?_)
          obtain ⟨v66, rfl, w67, F68, f64, f65⟩ := hp
          replace ha : OB T62 a 5 := gt63.ob ha
          have rp70 : RP σ61 a (kp - 7 * v66 + 1) := RP.up f65 (by omega)
          show Tn _ _ 118 T62 σ61 [(0, .ref a), (1, .int (iI dp))] [.int (iI v66)] _
          exact tn_zret (v := v66) rfl (by omega) dX5_statement_118 ⟨_, rfl, w67, ((FrC.rfl.put (by decide) (by decide)).trans (FrC.sub F68 (by decide))), by omega, (RP.up rp70 (by omega))⟩
        · refine tn_tableIn (tgt := 119) (off := 60) dX5_statement_59 (x := σ.2.1 85 x11) ⟨by omega, by omega⟩ (by omega) (by omega) (by rw [h27]; rfl) (by decide) ?_
          refine tn_aload_n dX5_statement_119 rfl 0 rfl ?_
          refine tn_iload_n dX5_statement_120 rfl 1 rfl ?_
          refine tn_callV (M := m_X5_statement) (pc := 121) (ix := 195) (ci := 5) (M' := m_X5_choice) (As := [.int (iI dp)]) (rest := []) dX5_statement_121 ok_X5_choice im_X5_choice se_X5_choice ml5_195 np_X5_choice rfl rfl ha rfl (Nat.le_of_ble_eq_true rfl) (Nat.le_of_ble_eq_true rfl) rfl (k_X5_choice (d) (T := T) (σ := (sA 45 a (z2) σ)) (a := a) (dp := dp) (kp := kp) (lv := lv) ha (by omega) (hw.put (by decide) (by decide) (fo_45 (by omega))) hex (by omega) (by omega) (by omega) (hrp.put (by decide))) (fun r71 T73 σ72 gt74 hp => ?_)
          obtain ⟨v77, rfl, w78, F79, f75, f76⟩ := hp
          replace ha : OB T73 a 5 := gt74.ob ha
          have rp81 : RP σ72 a (kp - 10 * v77 + 1) := RP.up f76 (by omega)
          show Tn _ _ 124 T73 σ72 [(0, .ref a), (1, .int (iI dp))] [.int (iI v77)] _
          exact tn_zret (v := v77) rfl (by omega) dX5_statement_124 ⟨_, rfl, w78, ((FrC.rfl.put (by decide) (by decide)).trans (FrC.sub F79 (by decide))), by omega, (RP.up rp81 (by omega))⟩
        · refine tn_tableIn (tgt := 131) (off := 72) dX5_statement_59 (x := σ.2.1 85 x11) ⟨by omega, by omega⟩ (by omega) (by omega) (by rw [h27]; rfl) (by decide) ?_
          refine tn_aload_n dX5_statement_131 rfl 0 rfl ?_
          refine tn_callV (M := m_X5_statement) (pc := 132) (ix := 90) (ci := 5) (M' := m_X5_refuse) (As := []) (rest := []) dX5_statement_132 ok_X5_refuse im_X5_refuse se_X5_refuse ml5_90 np_X5_refuse rfl rfl ha rfl (Nat.le_of_ble_eq_true rfl) (Nat.le_of_ble_eq_true rfl) rfl (k_X5_refuse (d + 3 * lv + 60) (T := T) (σ := (sA 45 a (z2) σ)) (a := a) ha (hw.put (by decide) (by decide) (fo_45 (by omega))) ) (fun r82 T84 σ83 gt85 hp => ?_)
          obtain ⟨v88, rfl, rfl, w89, F90, f86, f87⟩ := hp
          clear gt85
          have rp91 : RP σ83 a (kp) := RP.frc (hrp.put (by decide)) F90 (by decide) (by decide) (by decide) (by decide) (by decide)
          show Tn _ _ 135 T σ83 [(0, .ref a), (1, .int (iI dp))] [.int (iI v88)] _
          exact tn_zret (v := v88) rfl (by omega) dX5_statement_135 ⟨_, rfl, w89, ((FrC.rfl.put (by decide) (by decide)).trans (FrC.sub F90 (by decide))), by omega, (RP.up rp91 (by omega))⟩
        · refine tn_tableIn (tgt := 125) (off := 66) dX5_statement_59 (x := σ.2.1 85 x11) ⟨by omega, by omega⟩ (by omega) (by omega) (by rw [h27]; rfl) (by decide) ?_
          refine tn_aload_n dX5_statement_125 rfl 0 rfl ?_
          refine tn_iload_n dX5_statement_126 rfl 1 rfl ?_
          refine tn_callV (M := m_X5_statement) (pc := 127) (ix := 198) (ci := 5) (M' := m_X5_ring) (As := [.int (iI dp)]) (rest := []) dX5_statement_127 ok_X5_ring im_X5_ring se_X5_ring ml5_198 np_X5_ring rfl rfl ha rfl (Nat.le_of_ble_eq_true rfl) (Nat.le_of_ble_eq_true rfl) rfl (k_X5_ring (d) (T := T) (σ := (sA 45 a (z2) σ)) (a := a) (dp := dp) (kp := kp) (lv := lv) ha (by omega) (hw.put (by decide) (by decide) (fo_45 (by omega))) hex (by omega) (by omega) (by omega) (hrp.put (by decide))) (fun r92 T94 σ93 gt95 hp => ?_)
          obtain ⟨v98, rfl, w99, F100, f96, f97⟩ := hp
          replace ha : OB T94 a 5 := gt95.ob ha
          have rp102 : RP σ93 a (kp - 9 * v98 + 2) := RP.up f97 (by omega)
          show Tn _ _ 130 T94 σ93 [(0, .ref a), (1, .int (iI dp))] [.int (iI v98)] _
          exact tn_zret (v := v98) rfl (by omega) dX5_statement_130 ⟨_, rfl, w99, ((FrC.rfl.put (by decide) (by decide)).trans (FrC.sub F100 (by decide))), by omega, (RP.up rp102 (by omega))⟩
    · refine tn_aload_n dX5_statement_41 rfl 0 rfl ?_
      refine tn_getR (ci := 5) (i := 2) (n := 35) (x := x5) dX5_statement_42 rfl lay_5 (by decide) fl5_47 ha rfl rfl (rc_o (by decide) (hx6)) ?_
      refine tn_aload_n dX5_statement_45 rfl 0 rfl ?_
      refine tn_getI (ci := 5) (i := 12) (n := 45) (t := z2) dX5_statement_46 rfl lay_5 (by decide) fl5_64 ha rfl rfl (ra_eq) ?_
      refine tn_putV (ci := 1) (i := 4) (n := 9) (r := false) (v := z2) tyX1 tyX1_ok nmX1 dX5_statement_49 rfl lay_1 (by decide) fl5_186 rfl (tyX1_ok 4 (by decide)) rfl rfl rfl hk7o rfl rfl ?_
      refine tn_aload_n dX5_statement_52 rfl 0 rfl ?_
      obtain ⟨x103, hx104, hk105⟩ : ∃ x : Nat, σ.2.1 33 a = (x : Int) ∧ (T x).1 = 39 := wf_33 hw ha
      have hk105o : OB T x103 9 := ⟨by omega, by rw [hk105]; rfl, by omega⟩
      refine tn_getR (ci := 5) (i := 0) (n := 33) (x := x103) dX5_statement_53 rfl lay_5 (by decide) fl5_12 ha rfl rfl (rc_o (by decide) (rc_o (by decide) (hx104))) ?_
      refine tn_getI (ci := 9) (i := 4) (n := 85) (t := σ.2.1 85 x103) dX5_statement_56 rfl lay_9 (by decide) fl5_71 hk105o rfl rfl (rc_o (by decide) (rc_o (by decide) (rfl))) ?_
      have g107 : ((-2147483648 : Int) ≤ σ.2.1 85 x103 ∧ σ.2.1 85 x103 ≤ 2147483647) := wf_85 hw hk105o
      by_cases h108 : σ.2.1 85 x103 < 256 ∨ 262 < σ.2.1 85 x103
      · refine tn_tableOut (tgt := 131) dX5_statement_59 (x := σ.2.1 85 x103) ⟨by omega, by omega⟩ h108 (by decide) ?_
        refine tn_aload_n dX5_statement_131 rfl 0 rfl ?_
        refine tn_callV (M := m_X5_statement) (pc := 132) (ix := 90) (ci := 5) (M' := m_X5_refuse) (As := []) (rest := []) dX5_statement_132 ok_X5_refuse im_X5_refuse se_X5_refuse ml5_90 np_X5_refuse rfl rfl ha rfl (Nat.le_of_ble_eq_true rfl) (Nat.le_of_ble_eq_true rfl) rfl (k_X5_refuse (d + 3 * lv + 60) (T := T) (σ := (sA 9 x5 (z2) (sA 45 a (z2) σ))) (a := a) ha ((hw.put (by decide) (by decide) (fo_45 (by omega))).put (by decide) (by decide) (fo_9 (by omega))) ) (fun r109 T111 σ110 gt112 hp => ?_)
        obtain ⟨v115, rfl, rfl, w116, F117, f113, f114⟩ := hp
        clear gt112
        have rp118 : RP σ110 a (kp) := RP.frc ((hrp.put (by decide)).put (by decide)) F117 (by decide) (by decide) (by decide) (by decide) (by decide)
        show Tn _ _ 135 T σ110 [(0, .ref a), (1, .int (iI dp))] [.int (iI v115)] _
        exact tn_zret (v := v115) rfl (by omega) dX5_statement_135 ⟨_, rfl, w116, (((FrC.rfl.put (by decide) (by decide)).put (by decide) (by decide)).trans (FrC.sub F117 (by decide))), by omega, (RP.up rp118 (by omega))⟩
      · have h119 : σ.2.1 85 x103 = 256 ∨ σ.2.1 85 x103 = 257 ∨ σ.2.1 85 x103 = 258 ∨ σ.2.1 85 x103 = 259 ∨ σ.2.1 85 x103 = 260 ∨ σ.2.1 85 x103 = 261 ∨ σ.2.1 85 x103 = 262 := by omega
        rcases h119 with h119 | h119 | h119 | h119 | h119 | h119 | h119
        · refine tn_tableIn (tgt := 100) (off := 41) dX5_statement_59 (x := σ.2.1 85 x103) ⟨by omega, by omega⟩ (by omega) (by omega) (by rw [h119]; rfl) (by decide) ?_
          refine tn_aload_n dX5_statement_100 rfl 0 rfl ?_
          refine tn_callV (M := m_X5_statement) (pc := 101) (ix := 189) (ci := 5) (M' := m_X5_assignment) (As := []) (rest := []) dX5_statement_101 ok_X5_assignment im_X5_assignment se_X5_assignment ml5_189 np_X5_assignment rfl rfl ha rfl (Nat.le_of_ble_eq_true rfl) (Nat.le_of_ble_eq_true rfl) rfl (k_X5_assignment (d + 3 * lv + 9) (T := T) (σ := (sA 9 x5 (z2) (sA 45 a (z2) σ))) (a := a) (kp := kp) ha ((hw.put (by decide) (by decide) (fo_45 (by omega))).put (by decide) (by decide) (fo_9 (by omega))) (by omega) ((hrp.put (by decide)).put (by decide))) (fun r120 T122 σ121 gt123 hp => ?_)
          obtain ⟨v126, rfl, w127, F128, f124, f125⟩ := hp
          replace ha : OB T122 a 5 := gt123.ob ha
          have rp130 : RP σ121 a (kp - 10 * v126 + 1) := RP.up f125 (by omega)
          show Tn _ _ 104 T122 σ121 [(0, .ref a), (1, .int (iI dp))] [.int (iI v126)] _
          exact tn_zret (v := v126) rfl (by omega) dX5_statement_104 ⟨_, rfl, w127, (((FrC.rfl.put (by decide) (by decide)).put (by decide) (by decide)).trans (FrC.sub F128 (by decide))), by omega, (RP.up rp130 (by omega))⟩
        · refine tn_tableIn (tgt := 131) (off := 72) dX5_statement_59 (x := σ.2.1 85 x103) ⟨by omega, by omega⟩ (by omega) (by omega) (by rw [h119]; rfl) (by decide) ?_
          refine tn_aload_n dX5_statement_131 rfl 0 rfl ?_
          refine tn_callV (M := m_X5_statement) (pc := 132) (ix := 90) (ci := 5) (M' := m_X5_refuse) (As := []) (rest := []) dX5_statement_132 ok_X5_refuse im_X5_refuse se_X5_refuse ml5_90 np_X5_refuse rfl rfl ha rfl (Nat.le_of_ble_eq_true rfl) (Nat.le_of_ble_eq_true rfl) rfl (k_X5_refuse (d + 3 * lv + 60) (T := T) (σ := (sA 9 x5 (z2) (sA 45 a (z2) σ))) (a := a) ha ((hw.put (by decide) (by decide) (fo_45 (by omega))).put (by decide) (by decide) (fo_9 (by omega))) ) (fun r131 T133 σ132 gt134 hp => ?_)
          obtain ⟨v137, rfl, rfl, w138, F139, f135, f136⟩ := hp
          clear gt134
          have rp140 : RP σ132 a (kp) := RP.frc ((hrp.put (by decide)).put (by decide)) F139 (by decide) (by decide) (by decide) (by decide) (by decide)
          show Tn _ _ 135 T σ132 [(0, .ref a), (1, .int (iI dp))] [.int (iI v137)] _
          exact tn_zret (v := v137) rfl (by omega) dX5_statement_135 ⟨_, rfl, w138, (((FrC.rfl.put (by decide) (by decide)).put (by decide) (by decide)).trans (FrC.sub F139 (by decide))), by omega, (RP.up rp140 (by omega))⟩
        · refine tn_tableIn (tgt := 105) (off := 46) dX5_statement_59 (x := σ.2.1 85 x103) ⟨by omega, by omega⟩ (by omega) (by omega) (by rw [h119]; rfl) (by decide) ?_
          refine tn_aload_n dX5_statement_105 rfl 0 rfl ?_
          refine tn_bipush dX5_statement_106 (by decide) ?_
          refine tn_callV (M := m_X5_statement) (pc := 108) (ix := 192) (ci := 5) (M' := m_X5_single) (As := [.int (iI 6)]) (rest := []) dX5_statement_108 ok_X5_single im_X5_single se_X5_single ml5_192 np_X5_single rfl rfl ha rfl (Nat.le_of_ble_eq_true rfl) (Nat.le_of_ble_eq_true rfl) rfl (k_X5_single (d + 3 * lv + 10) (T := T) (σ := (sA 9 x5 (z2) (sA 45 a (z2) σ))) (a := a) (k := 6) (kp := kp) ha (by decide) ((hw.put (by decide) (by decide) (fo_45 (by omega))).put (by decide) (by decide) (fo_9 (by omega))) (by omega) (by omega) ((hrp.put (by decide)).put (by decide))) (fun r141 T143 σ142 gt144 hp => ?_)
          obtain ⟨v147, rfl, w148, F149, f145, f146⟩ := hp
          replace ha : OB T143 a 5 := gt144.ob ha
          have rp151 : RP σ142 a (kp - 7 * v147 + 1) := RP.up f146 (by omega)
          show Tn _ _ 111 T143 σ142 [(0, .ref a), (1, .int (iI dp))] [.int (iI v147)] _
          exact tn_zret (v := v147) rfl (by omega) dX5_statement_111 ⟨_, rfl, w148, (((FrC.rfl.put (by decide) (by decide)).put (by decide) (by decide)).trans (FrC.sub F149 (by decide))), by omega, (RP.up rp151 (by omega))⟩
        · refine tn_tableIn (tgt := 112) (off := 53) dX5_statement_59 (x := σ.2.1 85 x103) ⟨by omega, by omega⟩ (by omega) (by omega) (by rw [h119]; rfl) (by decide) ?_
          refine tn_aload_n dX5_statement_112 rfl 0 rfl ?_
          refine tn_bipush dX5_statement_113 (by decide) ?_
          refine tn_callV (M := m_X5_statement) (pc := 115) (ix := 192) (ci := 5) (M' := m_X5_single) (As := [.int (iI 7)]) (rest := []) dX5_statement_115 ok_X5_single im_X5_single se_X5_single ml5_192 np_X5_single rfl rfl ha rfl (Nat.le_of_ble_eq_true rfl) (Nat.le_of_ble_eq_true rfl) rfl (k_X5_single (d + 3 * lv + 10) (T := T) (σ := (sA 9 x5 (z2) (sA 45 a (z2) σ))) (a := a) (k := 7) (kp := kp) ha (by decide) ((hw.put (by decide) (by decide) (fo_45 (by omega))).put (by decide) (by decide) (fo_9 (by omega))) (by omega) (by omega) ((hrp.put (by decide)).put (by decide))) (fun r152 T154 σ153 gt155 hp => ?_)
          obtain ⟨v158, rfl, w159, F160, f156, f157⟩ := hp
          replace ha : OB T154 a 5 := gt155.ob ha
          have rp162 : RP σ153 a (kp - 7 * v158 + 1) := RP.up f157 (by omega)
          show Tn _ _ 118 T154 σ153 [(0, .ref a), (1, .int (iI dp))] [.int (iI v158)] _
          exact tn_zret (v := v158) rfl (by omega) dX5_statement_118 ⟨_, rfl, w159, (((FrC.rfl.put (by decide) (by decide)).put (by decide) (by decide)).trans (FrC.sub F160 (by decide))), by omega, (RP.up rp162 (by omega))⟩
        · refine tn_tableIn (tgt := 119) (off := 60) dX5_statement_59 (x := σ.2.1 85 x103) ⟨by omega, by omega⟩ (by omega) (by omega) (by rw [h119]; rfl) (by decide) ?_
          refine tn_aload_n dX5_statement_119 rfl 0 rfl ?_
          refine tn_iload_n dX5_statement_120 rfl 1 rfl ?_
          refine tn_callV (M := m_X5_statement) (pc := 121) (ix := 195) (ci := 5) (M' := m_X5_choice) (As := [.int (iI dp)]) (rest := []) dX5_statement_121 ok_X5_choice im_X5_choice se_X5_choice ml5_195 np_X5_choice rfl rfl ha rfl (Nat.le_of_ble_eq_true rfl) (Nat.le_of_ble_eq_true rfl) rfl (k_X5_choice (d) (T := T) (σ := (sA 9 x5 (z2) (sA 45 a (z2) σ))) (a := a) (dp := dp) (kp := kp) (lv := lv) ha (by omega) ((hw.put (by decide) (by decide) (fo_45 (by omega))).put (by decide) (by decide) (fo_9 (by omega))) hex (by omega) (by omega) (by omega) ((hrp.put (by decide)).put (by decide))) (fun r163 T165 σ164 gt166 hp => ?_)
          obtain ⟨v169, rfl, w170, F171, f167, f168⟩ := hp
          replace ha : OB T165 a 5 := gt166.ob ha
          have rp173 : RP σ164 a (kp - 10 * v169 + 1) := RP.up f168 (by omega)
          show Tn _ _ 124 T165 σ164 [(0, .ref a), (1, .int (iI dp))] [.int (iI v169)] _
          exact tn_zret (v := v169) rfl (by omega) dX5_statement_124 ⟨_, rfl, w170, (((FrC.rfl.put (by decide) (by decide)).put (by decide) (by decide)).trans (FrC.sub F171 (by decide))), by omega, (RP.up rp173 (by omega))⟩
        · refine tn_tableIn (tgt := 131) (off := 72) dX5_statement_59 (x := σ.2.1 85 x103) ⟨by omega, by omega⟩ (by omega) (by omega) (by rw [h119]; rfl) (by decide) ?_
          refine tn_aload_n dX5_statement_131 rfl 0 rfl ?_
          refine tn_callV (M := m_X5_statement) (pc := 132) (ix := 90) (ci := 5) (M' := m_X5_refuse) (As := []) (rest := []) dX5_statement_132 ok_X5_refuse im_X5_refuse se_X5_refuse ml5_90 np_X5_refuse rfl rfl ha rfl (Nat.le_of_ble_eq_true rfl) (Nat.le_of_ble_eq_true rfl) rfl (k_X5_refuse (d + 3 * lv + 60) (T := T) (σ := (sA 9 x5 (z2) (sA 45 a (z2) σ))) (a := a) ha ((hw.put (by decide) (by decide) (fo_45 (by omega))).put (by decide) (by decide) (fo_9 (by omega))) ) (fun r174 T176 σ175 gt177 hp => ?_)
          obtain ⟨v180, rfl, rfl, w181, F182, f178, f179⟩ := hp
          clear gt177
          have rp183 : RP σ175 a (kp) := RP.frc ((hrp.put (by decide)).put (by decide)) F182 (by decide) (by decide) (by decide) (by decide) (by decide)
          show Tn _ _ 135 T σ175 [(0, .ref a), (1, .int (iI dp))] [.int (iI v180)] _
          exact tn_zret (v := v180) rfl (by omega) dX5_statement_135 ⟨_, rfl, w181, (((FrC.rfl.put (by decide) (by decide)).put (by decide) (by decide)).trans (FrC.sub F182 (by decide))), by omega, (RP.up rp183 (by omega))⟩
        · refine tn_tableIn (tgt := 125) (off := 66) dX5_statement_59 (x := σ.2.1 85 x103) ⟨by omega, by omega⟩ (by omega) (by omega) (by rw [h119]; rfl) (by decide) ?_
          refine tn_aload_n dX5_statement_125 rfl 0 rfl ?_
          refine tn_iload_n dX5_statement_126 rfl 1 rfl ?_
          refine tn_callV (M := m_X5_statement) (pc := 127) (ix := 198) (ci := 5) (M' := m_X5_ring) (As := [.int (iI dp)]) (rest := []) dX5_statement_127 ok_X5_ring im_X5_ring se_X5_ring ml5_198 np_X5_ring rfl rfl ha rfl (Nat.le_of_ble_eq_true rfl) (Nat.le_of_ble_eq_true rfl) rfl (k_X5_ring (d) (T := T) (σ := (sA 9 x5 (z2) (sA 45 a (z2) σ))) (a := a) (dp := dp) (kp := kp) (lv := lv) ha (by omega) ((hw.put (by decide) (by decide) (fo_45 (by omega))).put (by decide) (by decide) (fo_9 (by omega))) hex (by omega) (by omega) (by omega) ((hrp.put (by decide)).put (by decide))) (fun r184 T186 σ185 gt187 hp => ?_)
          obtain ⟨v190, rfl, w191, F192, f188, f189⟩ := hp
          replace ha : OB T186 a 5 := gt187.ob ha
          have rp194 : RP σ185 a (kp - 9 * v190 + 2) := RP.up f189 (by omega)
          show Tn _ _ 130 T186 σ185 [(0, .ref a), (1, .int (iI dp))] [.int (iI v190)] _
          exact tn_zret (v := v190) rfl (by omega) dX5_statement_130 ⟨_, rfl, w191, (((FrC.rfl.put (by decide) (by decide)).put (by decide) (by decide)).trans (FrC.sub F192 (by decide))), by omega, (RP.up rp194 (by omega))⟩
  · refine tn_aload_n dX5_statement_19 rfl 0 rfl ?_
    refine tn_iconst dX5_statement_20 ?_
    refine tn_aload_n dX5_statement_21 rfl 0 rfl ?_
    obtain ⟨x195, hx196, hk197⟩ : ∃ x : Nat, σ.2.1 33 a = (x : Int) ∧ (T x).1 = 39 := wf_33 hw ha
    have hk197o : OB T x195 9 := ⟨by omega, by rw [hk197]; rfl, by omega⟩
    refine tn_getR (ci := 5) (i := 0) (n := 33) (x := x195) dX5_statement_22 rfl lay_5 (by decide) fl5_12 ha rfl rfl (rc_o (by decide) (hx196)) ?_
    refine tn_getI (ci := 9) (i := 6) (n := 87) (t := σ.2.1 87 x195) dX5_statement_25 rfl lay_9 (by decide) fl5_74 hk197o rfl rfl (rc_o (by decide) (rfl)) ?_
    have g199 : ((-2147483648 : Int) ≤ σ.2.1 87 x195 ∧ σ.2.1 87 x195 ≤ 2147483647) := wf_87 hw hk197o
    refine tn_callV (M := m_X5_statement) (pc := 28) (ix := 113) (ci := 5) (M' := m_X5_note) (As := [.int (iI 5), .int (iI (σ.2.1 87 x195))]) (rest := []) dX5_statement_28 ok_X5_note im_X5_note se_X5_note ml5_113 np_X5_note rfl rfl ha rfl (Nat.le_of_ble_eq_true rfl) (Nat.le_of_ble_eq_true rfl) rfl (k_X5_note (d + 3 * lv + 60) (T := T) (σ := (sA 45 a (z2) σ)) (a := a) (p1 := 5) (p2 := σ.2.1 87 x195) ha (by decide) (by omega) (hw.put (by decide) (by decide) (fo_45 (by omega))) ) (fun r200 T202 σ201 gt203 hp => ?_)
    obtain ⟨rfl, rfl, w205, F206⟩ := hp
    clear gt203
    have rp207 : RP σ201 a (kp) := RP.frc (hrp.put (by decide)) F206 (by decide) (by decide) (by decide) (by decide) (by decide)
    show Tn _ _ 31 T σ201 [(0, .ref a), (1, .int (iI dp))] [] _
    refine tn_aload_n dX5_statement_31 rfl 0 rfl ?_
    obtain ⟨x208, hx209, hk210⟩ : ∃ x : Nat, σ.2.1 35 a = (x : Int) ∧ (T x).1 = 31 := wf_35 hw ha
    have hk210o : OB T x208 1 := ⟨by omega, by rw [hk210]; rfl, by omega⟩
    refine tn_getR (ci := 5) (i := 2) (n := 35) (x := x208) dX5_statement_32 rfl lay_5 (by decide) fl5_47 ha rfl rfl (rc_F F206 (Or.inl (by decide)) (by decide) (rc_o (by decide) (hx209))) ?_
    refine tn_getI (ci := 1) (i := 4) (n := 9) (t := σ.2.1 9 x208) dX5_statement_35 rfl lay_1 (by decide) fl5_186 hk210o rfl rfl (rc_F F206 (Or.inl (by decide)) (by decide) (rc_o (by decide) (rfl))) ?_
    have g212 : ((-2147483648 : Int) ≤ σ.2.1 9 x208 ∧ σ.2.1 9 x208 ≤ 2147483647) := wf_9 hw hk210o
    refine tn_if_ne (tgt := 52) dX5_statement_38 (by decide) ⟨by omega, by omega⟩ (fun h213 => ?_) (fun h213 => ?_)
    · refine tn_aload_n dX5_statement_52 rfl 0 rfl ?_
      refine tn_getR (ci := 5) (i := 0) (n := 33) (x := x195) dX5_statement_53 rfl lay_5 (by decide) fl5_12 ha rfl rfl (rc_F F206 (Or.inl (by decide)) (by decide) (rc_o (by decide) (hx196))) ?_
      refine tn_getI (ci := 9) (i := 4) (n := 85) (t := σ.2.1 85 x195) dX5_statement_56 rfl lay_9 (by decide) fl5_71 hk197o rfl rfl (rc_F F206 (Or.inl (by decide)) (by decide) (rc_o (by decide) (rfl))) ?_
      have g214 : ((-2147483648 : Int) ≤ σ.2.1 85 x195 ∧ σ.2.1 85 x195 ≤ 2147483647) := wf_85 hw hk197o
      by_cases h215 : σ.2.1 85 x195 < 256 ∨ 262 < σ.2.1 85 x195
      · refine tn_tableOut (tgt := 131) dX5_statement_59 (x := σ.2.1 85 x195) ⟨by omega, by omega⟩ h215 (by decide) ?_
        refine tn_aload_n dX5_statement_131 rfl 0 rfl ?_
        refine tn_callV (M := m_X5_statement) (pc := 132) (ix := 90) (ci := 5) (M' := m_X5_refuse) (As := []) (rest := []) dX5_statement_132 ok_X5_refuse im_X5_refuse se_X5_refuse ml5_90 np_X5_refuse rfl rfl ha rfl (Nat.le_of_ble_eq_true rfl) (Nat.le_of_ble_eq_true rfl) rfl (k_X5_refuse (d + 3 * lv + 60) (T := T) (σ := σ201) (a := a) ha w205 ) (fun r216 T218 σ217 gt219 hp => ?_)
        obtain ⟨v222, rfl, rfl, w223, F224, f220, f221⟩ := hp
        clear gt219
        have rp225 : RP σ217 a (kp) := RP.frc rp207 F224 (by decide) (by decide) (by decide) (by decide) (by decide)
        show Tn _ _ 135 T σ217 [(0, .ref a), (1, .int (iI dp))] [.int (iI v222)] _
        exact tn_zret (v := v222) rfl (by omega) dX5_statement_135 ⟨_, rfl, w223, (((FrC.rfl.put (by decide) (by decide)).trans (FrC.sub F206 (by decide))).trans (FrC.sub F224 (by decide))), by omega, (RP.up rp225 (by omega))⟩
      · have h226 : σ.2.1 85 x195 = 256 ∨ σ.2.1 85 x195 = 257 ∨ σ.2.1 85 x195 = 258 ∨ σ.2.1 85 x195 = 259 ∨ σ.2.1 85 x195 = 260 ∨ σ.2.1 85 x195 = 261 ∨ σ.2.1 85 x195 = 262 := by omega
        rcases h226 with h226 | h226 | h226 | h226 | h226 | h226 | h226
        · refine tn_tableIn (tgt := 100) (off := 41) dX5_statement_59 (x := σ.2.1 85 x195) ⟨by omega, by omega⟩ (by omega) (by omega) (by rw [h226]; rfl) (by decide) ?_
          refine tn_aload_n dX5_statement_100 rfl 0 rfl ?_
          refine tn_callV (M := m_X5_statement) (pc := 101) (ix := 189) (ci := 5) (M' := m_X5_assignment) (As := []) (rest := []) dX5_statement_101 ok_X5_assignment im_X5_assignment se_X5_assignment ml5_189 np_X5_assignment rfl rfl ha rfl (Nat.le_of_ble_eq_true rfl) (Nat.le_of_ble_eq_true rfl) rfl (k_X5_assignment (d + 3 * lv + 9) (T := T) (σ := σ201) (a := a) (kp := kp) ha w205 (by omega) rp207) (fun r227 T229 σ228 gt230 hp => ?_)
          obtain ⟨v233, rfl, w234, F235, f231, f232⟩ := hp
          replace ha : OB T229 a 5 := gt230.ob ha
          have rp237 : RP σ228 a (kp - 10 * v233 + 1) := RP.up f232 (by omega)
          show Tn _ _ 104 T229 σ228 [(0, .ref a), (1, .int (iI dp))] [.int (iI v233)] _
          exact tn_zret (v := v233) rfl (by omega) dX5_statement_104 ⟨_, rfl, w234, (((FrC.rfl.put (by decide) (by decide)).trans (FrC.sub F206 (by decide))).trans (FrC.sub F235 (by decide))), by omega, (RP.up rp237 (by omega))⟩
        · refine tn_tableIn (tgt := 131) (off := 72) dX5_statement_59 (x := σ.2.1 85 x195) ⟨by omega, by omega⟩ (by omega) (by omega) (by rw [h226]; rfl) (by decide) ?_
          refine tn_aload_n dX5_statement_131 rfl 0 rfl ?_
          refine tn_callV (M := m_X5_statement) (pc := 132) (ix := 90) (ci := 5) (M' := m_X5_refuse) (As := []) (rest := []) dX5_statement_132 ok_X5_refuse im_X5_refuse se_X5_refuse ml5_90 np_X5_refuse rfl rfl ha rfl (Nat.le_of_ble_eq_true rfl) (Nat.le_of_ble_eq_true rfl) rfl (k_X5_refuse (d + 3 * lv + 60) (T := T) (σ := σ201) (a := a) ha w205 ) (fun r238 T240 σ239 gt241 hp => ?_)
          obtain ⟨v244, rfl, rfl, w245, F246, f242, f243⟩ := hp
          clear gt241
          have rp247 : RP σ239 a (kp) := RP.frc rp207 F246 (by decide) (by decide) (by decide) (by decide) (by decide)
          show Tn _ _ 135 T σ239 [(0, .ref a), (1, .int (iI dp))] [.int (iI v244)] _
          exact tn_zret (v := v244) rfl (by omega) dX5_statement_135 ⟨_, rfl, w245, (((FrC.rfl.put (by decide) (by decide)).trans (FrC.sub F206 (by decide))).trans (FrC.sub F246 (by decide))), by omega, (RP.up rp247 (by omega))⟩
        · refine tn_tableIn (tgt := 105) (off := 46) dX5_statement_59 (x := σ.2.1 85 x195) ⟨by omega, by omega⟩ (by omega) (by omega) (by rw [h226]; rfl) (by decide) ?_
          refine tn_aload_n dX5_statement_105 rfl 0 rfl ?_
          refine tn_bipush dX5_statement_106 (by decide) ?_
          refine tn_callV (M := m_X5_statement) (pc := 108) (ix := 192) (ci := 5) (M' := m_X5_single) (As := [.int (iI 6)]) (rest := []) dX5_statement_108 ok_X5_single im_X5_single se_X5_single ml5_192 np_X5_single rfl rfl ha rfl (Nat.le_of_ble_eq_true rfl) (Nat.le_of_ble_eq_true rfl) rfl (k_X5_single (d + 3 * lv + 10) (T := T) (σ := σ201) (a := a) (k := 6) (kp := kp) ha (by decide) w205 (by omega) (by omega) rp207) (fun r248 T250 σ249 gt251 hp => ?_)
          obtain ⟨v254, rfl, w255, F256, f252, f253⟩ := hp
          replace ha : OB T250 a 5 := gt251.ob ha
          have rp258 : RP σ249 a (kp - 7 * v254 + 1) := RP.up f253 (by omega)
          show Tn _ _ 111 T250 σ249 [(0, .ref a), (1, .int (iI dp))] [.int (iI v254)] _
          exact tn_zret (v := v254) rfl (by omega) dX5_statement_111 ⟨_, rfl, w255, (((FrC.rfl.put (by decide) (by decide)).trans (FrC.sub F206 (by decide))).trans (FrC.sub F256 (by decide))), by omega, (RP.up rp258 (by omega))⟩
        · refine tn_tableIn (tgt := 112) (off := 53) dX5_statement_59 (x := σ.2.1 85 x195) ⟨by omega, by omega⟩ (by omega) (by omega) (by rw [h226]; rfl) (by decide) ?_
          refine tn_aload_n dX5_statement_112 rfl 0 rfl ?_
          refine tn_bipush dX5_statement_113 (by decide) ?_
          refine tn_callV (M := m_X5_statement) (pc := 115) (ix := 192) (ci := 5) (M' := m_X5_single) (As := [.int (iI 7)]) (rest := []) dX5_statement_115 ok_X5_single im_X5_single se_X5_single ml5_192 np_X5_single rfl rfl ha rfl (Nat.le_of_ble_eq_true rfl) (Nat.le_of_ble_eq_true rfl) rfl (k_X5_single (d + 3 * lv + 10) (T := T) (σ := σ201) (a := a) (k := 7) (kp := kp) ha (by decide) w205 (by omega) (by omega) rp207) (fun r259 T261 σ260 gt262 hp => ?_)
          obtain ⟨v265, rfl, w266, F267, f263, f264⟩ := hp
          replace ha : OB T261 a 5 := gt262.ob ha
          have rp269 : RP σ260 a (kp - 7 * v265 + 1) := RP.up f264 (by omega)
          show Tn _ _ 118 T261 σ260 [(0, .ref a), (1, .int (iI dp))] [.int (iI v265)] _
          exact tn_zret (v := v265) rfl (by omega) dX5_statement_118 ⟨_, rfl, w266, (((FrC.rfl.put (by decide) (by decide)).trans (FrC.sub F206 (by decide))).trans (FrC.sub F267 (by decide))), by omega, (RP.up rp269 (by omega))⟩
        · refine tn_tableIn (tgt := 119) (off := 60) dX5_statement_59 (x := σ.2.1 85 x195) ⟨by omega, by omega⟩ (by omega) (by omega) (by rw [h226]; rfl) (by decide) ?_
          refine tn_aload_n dX5_statement_119 rfl 0 rfl ?_
          refine tn_iload_n dX5_statement_120 rfl 1 rfl ?_
          refine tn_callV (M := m_X5_statement) (pc := 121) (ix := 195) (ci := 5) (M' := m_X5_choice) (As := [.int (iI dp)]) (rest := []) dX5_statement_121 ok_X5_choice im_X5_choice se_X5_choice ml5_195 np_X5_choice rfl rfl ha rfl (Nat.le_of_ble_eq_true rfl) (Nat.le_of_ble_eq_true rfl) rfl (k_X5_choice (d) (T := T) (σ := σ201) (a := a) (dp := dp) (kp := kp) (lv := lv) ha (by omega) w205 hex (by omega) (by omega) (by omega) rp207) (fun r270 T272 σ271 gt273 hp => ?_)
          obtain ⟨v276, rfl, w277, F278, f274, f275⟩ := hp
          replace ha : OB T272 a 5 := gt273.ob ha
          have rp280 : RP σ271 a (kp - 10 * v276 + 1) := RP.up f275 (by omega)
          show Tn _ _ 124 T272 σ271 [(0, .ref a), (1, .int (iI dp))] [.int (iI v276)] _
          exact tn_zret (v := v276) rfl (by omega) dX5_statement_124 ⟨_, rfl, w277, (((FrC.rfl.put (by decide) (by decide)).trans (FrC.sub F206 (by decide))).trans (FrC.sub F278 (by decide))), by omega, (RP.up rp280 (by omega))⟩
        · refine tn_tableIn (tgt := 131) (off := 72) dX5_statement_59 (x := σ.2.1 85 x195) ⟨by omega, by omega⟩ (by omega) (by omega) (by rw [h226]; rfl) (by decide) ?_
          refine tn_aload_n dX5_statement_131 rfl 0 rfl ?_
          refine tn_callV (M := m_X5_statement) (pc := 132) (ix := 90) (ci := 5) (M' := m_X5_refuse) (As := []) (rest := []) dX5_statement_132 ok_X5_refuse im_X5_refuse se_X5_refuse ml5_90 np_X5_refuse rfl rfl ha rfl (Nat.le_of_ble_eq_true rfl) (Nat.le_of_ble_eq_true rfl) rfl (k_X5_refuse (d + 3 * lv + 60) (T := T) (σ := σ201) (a := a) ha w205 ) (fun r281 T283 σ282 gt284 hp => ?_)
          obtain ⟨v287, rfl, rfl, w288, F289, f285, f286⟩ := hp
          clear gt284
          have rp290 : RP σ282 a (kp) := RP.frc rp207 F289 (by decide) (by decide) (by decide) (by decide) (by decide)
          show Tn _ _ 135 T σ282 [(0, .ref a), (1, .int (iI dp))] [.int (iI v287)] _
          exact tn_zret (v := v287) rfl (by omega) dX5_statement_135 ⟨_, rfl, w288, (((FrC.rfl.put (by decide) (by decide)).trans (FrC.sub F206 (by decide))).trans (FrC.sub F289 (by decide))), by omega, (RP.up rp290 (by omega))⟩
        · refine tn_tableIn (tgt := 125) (off := 66) dX5_statement_59 (x := σ.2.1 85 x195) ⟨by omega, by omega⟩ (by omega) (by omega) (by rw [h226]; rfl) (by decide) ?_
          refine tn_aload_n dX5_statement_125 rfl 0 rfl ?_
          refine tn_iload_n dX5_statement_126 rfl 1 rfl ?_
          refine tn_callV (M := m_X5_statement) (pc := 127) (ix := 198) (ci := 5) (M' := m_X5_ring) (As := [.int (iI dp)]) (rest := []) dX5_statement_127 ok_X5_ring im_X5_ring se_X5_ring ml5_198 np_X5_ring rfl rfl ha rfl (Nat.le_of_ble_eq_true rfl) (Nat.le_of_ble_eq_true rfl) rfl (k_X5_ring (d) (T := T) (σ := σ201) (a := a) (dp := dp) (kp := kp) (lv := lv) ha (by omega) w205 hex (by omega) (by omega) (by omega) rp207) (fun r291 T293 σ292 gt294 hp => ?_)
          obtain ⟨v297, rfl, w298, F299, f295, f296⟩ := hp
          replace ha : OB T293 a 5 := gt294.ob ha
          have rp301 : RP σ292 a (kp - 9 * v297 + 2) := RP.up f296 (by omega)
          show Tn _ _ 130 T293 σ292 [(0, .ref a), (1, .int (iI dp))] [.int (iI v297)] _
          exact tn_zret (v := v297) rfl (by omega) dX5_statement_130 ⟨_, rfl, w298, (((FrC.rfl.put (by decide) (by decide)).trans (FrC.sub F206 (by decide))).trans (FrC.sub F299 (by decide))), by omega, (RP.up rp301 (by omega))⟩
    · refine tn_aload_n dX5_statement_41 rfl 0 rfl ?_
      refine tn_getR (ci := 5) (i := 2) (n := 35) (x := x208) dX5_statement_42 rfl lay_5 (by decide) fl5_47 ha rfl rfl (rc_F F206 (Or.inl (by decide)) (by decide) (rc_o (by decide) (hx209))) ?_
      refine tn_aload_n dX5_statement_45 rfl 0 rfl ?_
      refine tn_getI (ci := 5) (i := 12) (n := 45) (t := z2) dX5_statement_46 rfl lay_5 (by decide) fl5_64 ha rfl rfl (rc_F F206 (Or.inl (by decide)) (by decide) (ra_eq)) ?_
      refine tn_putV (ci := 1) (i := 4) (n := 9) (r := false) (v := z2) tyX1 tyX1_ok nmX1 dX5_statement_49 rfl lay_1 (by decide) fl5_186 rfl (tyX1_ok 4 (by decide)) rfl rfl rfl hk210o rfl rfl ?_
      refine tn_aload_n dX5_statement_52 rfl 0 rfl ?_
      refine tn_getR (ci := 5) (i := 0) (n := 33) (x := x195) dX5_statement_53 rfl lay_5 (by decide) fl5_12 ha rfl rfl (rc_o (by decide) (rc_F F206 (Or.inl (by decide)) (by decide) (rc_o (by decide) (hx196)))) ?_
      refine tn_getI (ci := 9) (i := 4) (n := 85) (t := σ.2.1 85 x195) dX5_statement_56 rfl lay_9 (by decide) fl5_71 hk197o rfl rfl (rc_o (by decide) (rc_F F206 (Or.inl (by decide)) (by decide) (rc_o (by decide) (rfl)))) ?_
      have g302 : ((-2147483648 : Int) ≤ σ.2.1 85 x195 ∧ σ.2.1 85 x195 ≤ 2147483647) := wf_85 hw hk197o
      by_cases h303 : σ.2.1 85 x195 < 256 ∨ 262 < σ.2.1 85 x195
      · refine tn_tableOut (tgt := 131) dX5_statement_59 (x := σ.2.1 85 x195) ⟨by omega, by omega⟩ h303 (by decide) ?_
        refine tn_aload_n dX5_statement_131 rfl 0 rfl ?_
        refine tn_callV (M := m_X5_statement) (pc := 132) (ix := 90) (ci := 5) (M' := m_X5_refuse) (As := []) (rest := []) dX5_statement_132 ok_X5_refuse im_X5_refuse se_X5_refuse ml5_90 np_X5_refuse rfl rfl ha rfl (Nat.le_of_ble_eq_true rfl) (Nat.le_of_ble_eq_true rfl) rfl (k_X5_refuse (d + 3 * lv + 60) (T := T) (σ := (sA 9 x208 (z2) σ201)) (a := a) ha (w205.put (by decide) (by decide) (fo_9 (by omega))) ) (fun r304 T306 σ305 gt307 hp => ?_)
        obtain ⟨v310, rfl, rfl, w311, F312, f308, f309⟩ := hp
        clear gt307
        have rp313 : RP σ305 a (kp) := RP.frc (rp207.put (by decide)) F312 (by decide) (by decide) (by decide) (by decide) (by decide)
        show Tn _ _ 135 T σ305 [(0, .ref a), (1, .int (iI dp))] [.int (iI v310)] _
        exact tn_zret (v := v310) rfl (by omega) dX5_statement_135 ⟨_, rfl, w311, ((((FrC.rfl.put (by decide) (by decide)).trans (FrC.sub F206 (by decide))).put (by decide) (by decide)).trans (FrC.sub F312 (by decide))), by omega, (RP.up rp313 (by omega))⟩
      · have h314 : σ.2.1 85 x195 = 256 ∨ σ.2.1 85 x195 = 257 ∨ σ.2.1 85 x195 = 258 ∨ σ.2.1 85 x195 = 259 ∨ σ.2.1 85 x195 = 260 ∨ σ.2.1 85 x195 = 261 ∨ σ.2.1 85 x195 = 262 := by omega
        rcases h314 with h314 | h314 | h314 | h314 | h314 | h314 | h314
        · refine tn_tableIn (tgt := 100) (off := 41) dX5_statement_59 (x := σ.2.1 85 x195) ⟨by omega, by omega⟩ (by omega) (by omega) (by rw [h314]; rfl) (by decide) ?_
          refine tn_aload_n dX5_statement_100 rfl 0 rfl ?_
          refine tn_callV (M := m_X5_statement) (pc := 101) (ix := 189) (ci := 5) (M' := m_X5_assignment) (As := []) (rest := []) dX5_statement_101 ok_X5_assignment im_X5_assignment se_X5_assignment ml5_189 np_X5_assignment rfl rfl ha rfl (Nat.le_of_ble_eq_true rfl) (Nat.le_of_ble_eq_true rfl) rfl (k_X5_assignment (d + 3 * lv + 9) (T := T) (σ := (sA 9 x208 (z2) σ201)) (a := a) (kp := kp) ha (w205.put (by decide) (by decide) (fo_9 (by omega))) (by omega) (rp207.put (by decide))) (fun r315 T317 σ316 gt318 hp => ?_)
          obtain ⟨v321, rfl, w322, F323, f319, f320⟩ := hp
          replace ha : OB T317 a 5 := gt318.ob ha
          have rp325 : RP σ316 a (kp - 10 * v321 + 1) := RP.up f320 (by omega)
          show Tn _ _ 104 T317 σ316 [(0, .ref a), (1, .int (iI dp))] [.int (iI v321)] _
          exact tn_zret (v := v321) rfl (by omega) dX5_statement_104 ⟨_, rfl, w322, ((((FrC.rfl.put (by decide) (by decide)).trans (FrC.sub F206 (by decide))).put (by decide) (by decide)).trans (FrC.sub F323 (by decide))), by omega, (RP.up rp325 (by omega))⟩
        · refine tn_tableIn (tgt := 131) (off := 72) dX5_statement_59 (x := σ.2.1 85 x195) ⟨by omega, by omega⟩ (by omega) (by omega) (by rw [h314]; rfl) (by decide) ?_
          refine tn_aload_n dX5_statement_131 rfl 0 rfl ?_
          refine tn_callV (M := m_X5_statement) (pc := 132) (ix := 90) (ci := 5) (M' := m_X5_refuse) (As := []) (rest := []) dX5_statement_132 ok_X5_refuse im_X5_refuse se_X5_refuse ml5_90 np_X5_refuse rfl rfl ha rfl (Nat.le_of_ble_eq_true rfl) (Nat.le_of_ble_eq_true rfl) rfl (k_X5_refuse (d + 3 * lv + 60) (T := T) (σ := (sA 9 x208 (z2) σ201)) (a := a) ha (w205.put (by decide) (by decide) (fo_9 (by omega))) ) (fun r326 T328 σ327 gt329 hp => ?_)
          obtain ⟨v332, rfl, rfl, w333, F334, f330, f331⟩ := hp
          clear gt329
          have rp335 : RP σ327 a (kp) := RP.frc (rp207.put (by decide)) F334 (by decide) (by decide) (by decide) (by decide) (by decide)
          show Tn _ _ 135 T σ327 [(0, .ref a), (1, .int (iI dp))] [.int (iI v332)] _
          exact tn_zret (v := v332) rfl (by omega) dX5_statement_135 ⟨_, rfl, w333, ((((FrC.rfl.put (by decide) (by decide)).trans (FrC.sub F206 (by decide))).put (by decide) (by decide)).trans (FrC.sub F334 (by decide))), by omega, (RP.up rp335 (by omega))⟩
        · refine tn_tableIn (tgt := 105) (off := 46) dX5_statement_59 (x := σ.2.1 85 x195) ⟨by omega, by omega⟩ (by omega) (by omega) (by rw [h314]; rfl) (by decide) ?_
          refine tn_aload_n dX5_statement_105 rfl 0 rfl ?_
          refine tn_bipush dX5_statement_106 (by decide) ?_
          refine tn_callV (M := m_X5_statement) (pc := 108) (ix := 192) (ci := 5) (M' := m_X5_single) (As := [.int (iI 6)]) (rest := []) dX5_statement_108 ok_X5_single im_X5_single se_X5_single ml5_192 np_X5_single rfl rfl ha rfl (Nat.le_of_ble_eq_true rfl) (Nat.le_of_ble_eq_true rfl) rfl (k_X5_single (d + 3 * lv + 10) (T := T) (σ := (sA 9 x208 (z2) σ201)) (a := a) (k := 6) (kp := kp) ha (by decide) (w205.put (by decide) (by decide) (fo_9 (by omega))) (by omega) (by omega) (rp207.put (by decide))) (fun r336 T338 σ337 gt339 hp => ?_)
          obtain ⟨v342, rfl, w343, F344, f340, f341⟩ := hp
          replace ha : OB T338 a 5 := gt339.ob ha
          have rp346 : RP σ337 a (kp - 7 * v342 + 1) := RP.up f341 (by omega)
          show Tn _ _ 111 T338 σ337 [(0, .ref a), (1, .int (iI dp))] [.int (iI v342)] _
          exact tn_zret (v := v342) rfl (by omega) dX5_statement_111 ⟨_, rfl, w343, ((((FrC.rfl.put (by decide) (by decide)).trans (FrC.sub F206 (by decide))).put (by decide) (by decide)).trans (FrC.sub F344 (by decide))), by omega, (RP.up rp346 (by omega))⟩
        · refine tn_tableIn (tgt := 112) (off := 53) dX5_statement_59 (x := σ.2.1 85 x195) ⟨by omega, by omega⟩ (by omega) (by omega) (by rw [h314]; rfl) (by decide) ?_
          refine tn_aload_n dX5_statement_112 rfl 0 rfl ?_
          refine tn_bipush dX5_statement_113 (by decide) ?_
          refine tn_callV (M := m_X5_statement) (pc := 115) (ix := 192) (ci := 5) (M' := m_X5_single) (As := [.int (iI 7)]) (rest := []) dX5_statement_115 ok_X5_single im_X5_single se_X5_single ml5_192 np_X5_single rfl rfl ha rfl (Nat.le_of_ble_eq_true rfl) (Nat.le_of_ble_eq_true rfl) rfl (k_X5_single (d + 3 * lv + 10) (T := T) (σ := (sA 9 x208 (z2) σ201)) (a := a) (k := 7) (kp := kp) ha (by decide) (w205.put (by decide) (by decide) (fo_9 (by omega))) (by omega) (by omega) (rp207.put (by decide))) (fun r347 T349 σ348 gt350 hp => ?_)
          obtain ⟨v353, rfl, w354, F355, f351, f352⟩ := hp
          replace ha : OB T349 a 5 := gt350.ob ha
          have rp357 : RP σ348 a (kp - 7 * v353 + 1) := RP.up f352 (by omega)
          show Tn _ _ 118 T349 σ348 [(0, .ref a), (1, .int (iI dp))] [.int (iI v353)] _
          exact tn_zret (v := v353) rfl (by omega) dX5_statement_118 ⟨_, rfl, w354, ((((FrC.rfl.put (by decide) (by decide)).trans (FrC.sub F206 (by decide))).put (by decide) (by decide)).trans (FrC.sub F355 (by decide))), by omega, (RP.up rp357 (by omega))⟩
        · refine tn_tableIn (tgt := 119) (off := 60) dX5_statement_59 (x := σ.2.1 85 x195) ⟨by omega, by omega⟩ (by omega) (by omega) (by rw [h314]; rfl) (by decide) ?_
          refine tn_aload_n dX5_statement_119 rfl 0 rfl ?_
          refine tn_iload_n dX5_statement_120 rfl 1 rfl ?_
          refine tn_callV (M := m_X5_statement) (pc := 121) (ix := 195) (ci := 5) (M' := m_X5_choice) (As := [.int (iI dp)]) (rest := []) dX5_statement_121 ok_X5_choice im_X5_choice se_X5_choice ml5_195 np_X5_choice rfl rfl ha rfl (Nat.le_of_ble_eq_true rfl) (Nat.le_of_ble_eq_true rfl) rfl (k_X5_choice (d) (T := T) (σ := (sA 9 x208 (z2) σ201)) (a := a) (dp := dp) (kp := kp) (lv := lv) ha (by omega) (w205.put (by decide) (by decide) (fo_9 (by omega))) hex (by omega) (by omega) (by omega) (rp207.put (by decide))) (fun r358 T360 σ359 gt361 hp => ?_)
          obtain ⟨v364, rfl, w365, F366, f362, f363⟩ := hp
          replace ha : OB T360 a 5 := gt361.ob ha
          have rp368 : RP σ359 a (kp - 10 * v364 + 1) := RP.up f363 (by omega)
          show Tn _ _ 124 T360 σ359 [(0, .ref a), (1, .int (iI dp))] [.int (iI v364)] _
          exact tn_zret (v := v364) rfl (by omega) dX5_statement_124 ⟨_, rfl, w365, ((((FrC.rfl.put (by decide) (by decide)).trans (FrC.sub F206 (by decide))).put (by decide) (by decide)).trans (FrC.sub F366 (by decide))), by omega, (RP.up rp368 (by omega))⟩
        · refine tn_tableIn (tgt := 131) (off := 72) dX5_statement_59 (x := σ.2.1 85 x195) ⟨by omega, by omega⟩ (by omega) (by omega) (by rw [h314]; rfl) (by decide) ?_
          refine tn_aload_n dX5_statement_131 rfl 0 rfl ?_
          refine tn_callV (M := m_X5_statement) (pc := 132) (ix := 90) (ci := 5) (M' := m_X5_refuse) (As := []) (rest := []) dX5_statement_132 ok_X5_refuse im_X5_refuse se_X5_refuse ml5_90 np_X5_refuse rfl rfl ha rfl (Nat.le_of_ble_eq_true rfl) (Nat.le_of_ble_eq_true rfl) rfl (k_X5_refuse (d + 3 * lv + 60) (T := T) (σ := (sA 9 x208 (z2) σ201)) (a := a) ha (w205.put (by decide) (by decide) (fo_9 (by omega))) ) (fun r369 T371 σ370 gt372 hp => ?_)
          obtain ⟨v375, rfl, rfl, w376, F377, f373, f374⟩ := hp
          clear gt372
          have rp378 : RP σ370 a (kp) := RP.frc (rp207.put (by decide)) F377 (by decide) (by decide) (by decide) (by decide) (by decide)
          show Tn _ _ 135 T σ370 [(0, .ref a), (1, .int (iI dp))] [.int (iI v375)] _
          exact tn_zret (v := v375) rfl (by omega) dX5_statement_135 ⟨_, rfl, w376, ((((FrC.rfl.put (by decide) (by decide)).trans (FrC.sub F206 (by decide))).put (by decide) (by decide)).trans (FrC.sub F377 (by decide))), by omega, (RP.up rp378 (by omega))⟩
        · refine tn_tableIn (tgt := 125) (off := 66) dX5_statement_59 (x := σ.2.1 85 x195) ⟨by omega, by omega⟩ (by omega) (by omega) (by rw [h314]; rfl) (by decide) ?_
          refine tn_aload_n dX5_statement_125 rfl 0 rfl ?_
          refine tn_iload_n dX5_statement_126 rfl 1 rfl ?_
          refine tn_callV (M := m_X5_statement) (pc := 127) (ix := 198) (ci := 5) (M' := m_X5_ring) (As := [.int (iI dp)]) (rest := []) dX5_statement_127 ok_X5_ring im_X5_ring se_X5_ring ml5_198 np_X5_ring rfl rfl ha rfl (Nat.le_of_ble_eq_true rfl) (Nat.le_of_ble_eq_true rfl) rfl (k_X5_ring (d) (T := T) (σ := (sA 9 x208 (z2) σ201)) (a := a) (dp := dp) (kp := kp) (lv := lv) ha (by omega) (w205.put (by decide) (by decide) (fo_9 (by omega))) hex (by omega) (by omega) (by omega) (rp207.put (by decide))) (fun r379 T381 σ380 gt382 hp => ?_)
          obtain ⟨v385, rfl, w386, F387, f383, f384⟩ := hp
          replace ha : OB T381 a 5 := gt382.ob ha
          have rp389 : RP σ380 a (kp - 9 * v385 + 2) := RP.up f384 (by omega)
          show Tn _ _ 130 T381 σ380 [(0, .ref a), (1, .int (iI dp))] [.int (iI v385)] _
          exact tn_zret (v := v385) rfl (by omega) dX5_statement_130 ⟨_, rfl, w386, ((((FrC.rfl.put (by decide) (by decide)).trans (FrC.sub F206 (by decide))).put (by decide) (by decide)).trans (FrC.sub F387 (by decide))), by omega, (RP.up rp389 (by omega))⟩
