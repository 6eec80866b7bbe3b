section
theorem cd_X5_statement : Cond.code yX5_statement cX5_statement 2 (some .boolean) ∈ pWW := pw3 (List.mem_of_getElem? (i := 120) rfl) rfl
abbrev m_X5_statement : MT := (yX5_statement, cX5_statement, 2, (some .boolean))
theorem ok_X5_statement : pOk m_X5_statement := ⟨⟨cd_X5_statement, ini_5⟩, by decide +kernel, ⟨by decide +kernel, by decide +kernel⟩, Nat.le_of_ble_eq_true rfl⟩
theorem np_X5_statement : (parseMethodDescriptor yX5_statement.desc).map (fun d => d.parameters.length) = some 1 := by decide +kernel
theorem im_X5_statement : Cond.instanceMethod yX5_statement ∈ pWW := pw3 (List.mem_of_getElem? (i := 119) rfl) rfl
theorem se_X5_statement : Cond.selects RX5 yX5_statement yX5_statement ∈ pWW := pws (List.mem_map.mpr ⟨_, lw_pin 15 rfl, rfl⟩) rfl
theorem fl5_186 : Cond.fieldLink RX5 186 (TX1 4).1 (TX1 4).2.1 (TX1 4).2.2.1 ∈ pWW := pw1 (List.mem_of_getElem? (i := 101) rfl) rfl
theorem ml5_189 : Cond.methodLink RX5 189 yX5_assignment ∈ pWW := pw3 (List.mem_of_getElem? (i := 121) rfl) rfl
theorem ml5_192 : Cond.methodLink RX5 192 yX5_single ∈ pWW := pw3 (List.mem_of_getElem? (i := 206) rfl) rfl
theorem ml5_195 : Cond.methodLink RX5 195 yX5_choice ∈ pWW := pw3 (List.mem_of_getElem? (i := 210) rfl) rfl
theorem ml5_198 : Cond.methodLink RX5 198 yX5_ring ∈ pWW := pw3 (List.mem_of_getElem? (i := 222) rfl) rfl
theorem dX5_statement_0 : decode cX5_statement 0 = .ok (.aload_n 0, 1) := by decide +kernel
theorem dX5_statement_1 : decode cX5_statement 1 = .ok (.dup, 1) := by decide +kernel
theorem dX5_statement_2 : decode cX5_statement 2 = .ok (.getfield 64, 3) := by decide +kernel
theorem dX5_statement_5 : decode cX5_statement 5 = .ok (.iconst 1, 1) := by decide +kernel
theorem dX5_statement_6 : decode cX5_statement 6 = .ok (.iadd, 1) := by decide +kernel
theorem dX5_statement_7 : decode cX5_statement 7 = .ok (.putfield 64, 3) := by decide +kernel
theorem dX5_statement_10 : decode cX5_statement 10 = .ok (.aload_n 0, 1) := by decide +kernel
theorem dX5_statement_11 : decode cX5_statement 11 = .ok (.getfield 64, 3) := by decide +kernel
theorem dX5_statement_14 : decode cX5_statement 14 = .ok (.bipush 40, 2) := by decide +kernel
theorem dX5_statement_16 : decode cX5_statement 16 = .ok (.if_icmp .le 15, 3) := by decide +kernel
theorem dX5_statement_31 : decode cX5_statement 31 = .ok (.aload_n 0, 1) := by decide +kernel
theorem dX5_statement_32 : decode cX5_statement 32 = .ok (.getfield 47, 3) := by decide +kernel
theorem dX5_statement_35 : decode cX5_statement 35 = .ok (.getfield 186, 3) := by decide +kernel
theorem dX5_statement_38 : decode cX5_statement 38 = .ok (.ifCond .ne 14, 3) := by decide +kernel
theorem dX5_statement_52 : decode cX5_statement 52 = .ok (.aload_n 0, 1) := by decide +kernel
theorem dX5_statement_53 : decode cX5_statement 53 = .ok (.getfield 12, 3) := by decide +kernel
theorem dX5_statement_56 : decode cX5_statement 56 = .ok (.getfield 71, 3) := by decide +kernel
theorem dX5_statement_59 : decode cX5_statement 59 = .ok (.tableswitch 72 256 262 #[41, 72, 46, 53, 60, 72, 66], 41) := by decide +kernel
theorem dX5_statement_131 : decode cX5_statement 131 = .ok (.aload_n 0, 1) := by decide +kernel
theorem dX5_statement_132 : decode cX5_statement 132 = .ok (.invokevirtual 90, 3) := by decide +kernel
theorem dX5_statement_135 : decode cX5_statement 135 = .ok (.ireturn, 1) := by decide +kernel
theorem dX5_statement_100 : decode cX5_statement 100 = .ok (.aload_n 0, 1) := by decide +kernel
theorem dX5_statement_101 : decode cX5_statement 101 = .ok (.invokevirtual 189, 3) := by decide +kernel
theorem dX5_statement_104 : decode cX5_statement 104 = .ok (.ireturn, 1) := by decide +kernel
theorem dX5_statement_105 : decode cX5_statement 105 = .ok (.aload_n 0, 1) := by decide +kernel
theorem dX5_statement_106 : decode cX5_statement 106 = .ok (.bipush 6, 2) := by decide +kernel
theorem dX5_statement_108 : decode cX5_statement 108 = .ok (.invokevirtual 192, 3) := by decide +kernel
theorem dX5_statement_111 : decode cX5_statement 111 = .ok (.ireturn, 1) := by decide +kernel
theorem dX5_statement_112 : decode cX5_statement 112 = .ok (.aload_n 0, 1) := by decide +kernel
theorem dX5_statement_113 : decode cX5_statement 113 = .ok (.bipush 7, 2) := by decide +kernel
theorem dX5_statement_115 : decode cX5_statement 115 = .ok (.invokevirtual 192, 3) := by decide +kernel
theorem dX5_statement_118 : decode cX5_statement 118 = .ok (.ireturn, 1) := by decide +kernel
theorem dX5_statement_119 : decode cX5_statement 119 = .ok (.aload_n 0, 1) := by decide +kernel
theorem dX5_statement_120 : decode cX5_statement 120 = .ok (.iload_n 1, 1) := by decide +kernel
theorem dX5_statement_121 : decode cX5_statement 121 = .ok (.invokevirtual 195, 3) := by decide +kernel
theorem dX5_statement_124 : decode cX5_statement 124 = .ok (.ireturn, 1) := by decide +kernel
theorem dX5_statement_125 : decode cX5_statement 125 = .ok (.aload_n 0, 1) := by decide +kernel
theorem dX5_statement_126 : decode cX5_statement 126 = .ok (.iload_n 1, 1) := by decide +kernel
theorem dX5_statement_127 : decode cX5_statement 127 = .ok (.invokevirtual 198, 3) := by decide +kernel
theorem dX5_statement_130 : decode cX5_statement 130 = .ok (.ireturn, 1) := by decide +kernel
theorem dX5_statement_41 : decode cX5_statement 41 = .ok (.aload_n 0, 1) := by decide +kernel
theorem dX5_statement_42 : decode cX5_statement 42 = .ok (.getfield 47, 3) := by decide +kernel
theorem dX5_statement_45 : decode cX5_statement 45 = .ok (.aload_n 0, 1) := by decide +kernel
theorem dX5_statement_46 : decode cX5_statement 46 = .ok (.getfield 64, 3) := by decide +kernel
theorem dX5_statement_49 : decode cX5_statement 49 = .ok (.putfield 186, 3) := by decide +kernel
theorem dX5_statement_19 : decode cX5_statement 19 = .ok (.aload_n 0, 1) := by decide +kernel
theorem dX5_statement_20 : decode cX5_statement 20 = .ok (.iconst 5, 1) := by decide +kernel
theorem dX5_statement_21 : decode cX5_statement 21 = .ok (.aload_n 0, 1) := by decide +kernel
theorem dX5_statement_22 : decode cX5_statement 22 = .ok (.getfield 12, 3) := by decide +kernel
theorem dX5_statement_25 : decode cX5_statement 25 = .ok (.getfield 74, 3) := by decide +kernel
theorem dX5_statement_28 : decode cX5_statement 28 = .ok (.invokevirtual 113, 3) := by decide +kernel
set_option maxRecDepth 20000 in
theorem k_X5_statement (d : Nat) {T : CT} {σ : MS} {a : Nat} {dp : Int} {kp : Int} {lv : Nat} (ha : OB T a 5) (h_dp : -2147483648 ≤ dp ∧ dp ≤ 2147483647) (hw : WT T σ) (hex : ∀ (d : Nat) {T : CT} {σ : MS} {a : Nat} {dp : Int} {kp : Int} (ha : OB T a 5) (h_dp : -2147483648 ≤ dp ∧ dp ≤ 2147483647) (hw : WT T σ) (hdp : 0 ≤ dp ∧ dp ≤ 7) (hlv : 7 ≤ dp + (lv : Int)) (hkp : kp ≤ 140) (hrp : RP σ a kp), Tn (d + 3 * lv + 60) m_X5_block 0 T σ [(0, .ref a), (1, .int (iI dp))] [] (fun ro T2 σ2 => ∃ v : Int, ro = some (.int (iI v)) ∧ WT T2 σ2 ∧ FrC T [5, 6, 7, 9, 42, 43, 44, 45, 46, 47, 50, 51, 84, 85, 86, 87, 518, 519, 520, 521] σ σ2 ∧ (v = 0 ∨ v = 1) ∧ (RP σ2 a (kp + 2 - 10 * v)))) (hdp : 0 ≤ dp ∧ dp ≤ 6) (hlv : 6 ≤ dp + (lv : Int)) (hkp : kp ≤ 140) (hrp : RP σ a kp) : Tn (d + 3 * lv + 62) m_X5_statement 0 T σ [(0, .ref a), (1, .int (iI dp))] [] (fun ro T2 σ2 => ∃ v : Int, ro = some (.int (iI v)) ∧ WT T2 σ2 ∧ FrC T [5, 6, 7, 9, 42, 43, 44, 45, 46, 47, 50, 51, 84, 85, 86, 87, 518, 519, 520, 521] σ σ2 ∧ (v = 0 ∨ v = 1) ∧ (RP σ2 a (kp + 2 - 8 * v))) := by
  refine tn_aload_n dX5_statement_0 rfl 0 rfl ?_
  refine tn_dup dX5_statement_1 rfl ?_
  refine tn_getI (ci := 5) (i := 12) (n := 45) (t := σ.2.1 45 a) dX5_statement_2 rfl lay_5 (by decide) fl5_64 ha rfl rfl (rfl) ?_
  have g1 : ((-2147483648 : Int) ≤ σ.2.1 45 a ∧ σ.2.1 45 a ≤ 2147483647) := wf_45 hw ha
  refine tn_iconst dX5_statement_5 ?_
  refine tn_iadd dX5_statement_6 ?_
  refine tn_any (fun z2 g3 => ?_)
  have g3r : -2147483648 ≤ z2 ∧ z2 ≤ 2147483647 := g3
  refine tn_putV (ci := 5) (i := 12) (n := 45) (r := false) (v := z2) tyX5 tyX5_ok nmX5 dX5_statement_7 rfl lay_5 (by decide) fl5_64 rfl (tyX5_ok 12 (by decide)) rfl rfl rfl ha rfl rfl ?_
  refine tn_aload_n dX5_statement_10 rfl 0 rfl ?_
  refine tn_getI (ci := 5) (i := 12) (n := 45) (t := z2) dX5_statement_11 rfl lay_5 (by decide) fl5_64 ha rfl rfl (ra_eq) ?_
  refine tn_bipush dX5_statement_14 (by decide) ?_
  refine tn_icmp_le (tgt := 31) dX5_statement_16 (by decide) ⟨by omega, by omega⟩ ⟨by decide, by decide⟩ (fun h4 => ?_) (fun h4 => ?_)
  · refine tn_aload_n dX5_statement_31 rfl 0 rfl ?_
    obtain ⟨x5, hx6, hk7⟩ : ∃ x : Nat, σ.2.1 35 a = (x : Int) ∧ (T x).1 = 31 := wf_35 hw ha
    have hk7o : OB T x5 1 := ⟨by omega, by rw [hk7]; rfl, by omega⟩
    refine tn_getR (ci := 5) (i := 2) (n := 35) (x := x5) dX5_statement_32 rfl lay_5 (by decide) fl5_47 ha rfl rfl (rc_o (by decide) (hx6)) ?_
    refine tn_getI (ci := 1) (i := 4) (n := 9) (t := σ.2.1 9 x5) dX5_statement_35 rfl lay_1 (by decide) fl5_186 hk7o rfl rfl (rc_o (by decide) (rfl)) ?_
    have g9 : ((-2147483648 : Int) ≤ σ.2.1 9 x5 ∧ σ.2.1 9 x5 ≤ 2147483647) := wf_9 hw hk7o
    refine tn_if_ne (tgt := 52) dX5_statement_38 (by decide) ⟨by omega, by omega⟩ (fun h10 => ?_) (fun h10 => ?_)
    · refine tn_aload_n dX5_statement_52 rfl 0 rfl ?_
      obtain ⟨x11, hx12, hk13⟩ : ∃ x : Nat, σ.2.1 33 a = (x : Int) ∧ (T x).1 = 39 := wf_33 hw ha
      have hk13o : OB T x11 9 := ⟨by omega, by rw [hk13]; rfl, by omega⟩
      refine tn_getR (ci := 5) (i := 0) (n := 33) (x := x11) dX5_statement_53 rfl lay_5 (by decide) fl5_12 ha rfl rfl (rc_o (by decide) (hx12)) ?_
      refine tn_getI (ci := 9) (i := 4) (n := 85) (t := σ.2.1 85 x11) dX5_statement_56 rfl lay_9 (by decide) fl5_71 hk13o rfl rfl (rc_o (by decide) (rfl)) ?_
      have g15 : ((-2147483648 : Int) ≤ σ.2.1 85 x11 ∧ σ.2.1 85 x11 ≤ 2147483647) := wf_85 hw hk13o
      by_cases h16 : σ.2.1 85 x11 < 256 ∨ 262 < σ.2.1 85 x11
      · refine tn_tableOut (tgt := 131) dX5_statement_59 (x := σ.2.1 85 x11) ⟨by omega, by omega⟩ h16 (by decide) ?_
        refine tn_aload_n dX5_statement_131 rfl 0 rfl ?_
        refine tn_callV (M := m_X5_statement) (pc := 132) (ix := 90) (ci := 5) (M' := m_X5_refuse) (As := []) (rest := []) dX5_statement_132 ok_X5_refuse im_X5_refuse se_X5_refuse ml5_90 np_X5_refuse rfl rfl ha rfl (Nat.le_of_ble_eq_true rfl) (Nat.le_of_ble_eq_true rfl) rfl (k_X5_refuse (d + 3 * lv + 60) (T := T) (σ := (sA 45 a (z2) σ)) (a := a) ha (hw.put (by decide) (by decide) (fo_45 (by omega))) ) (fun r17 T19 σ18 gt20 hp => ?_)
        obtain ⟨v23, rfl, rfl, w24, F25, f21, f22⟩ := hp
        clear gt20
        have rp26 : RP σ18 a (kp) := RP.frc (hrp.put (by decide)) F25 (by decide) (by decide) (by decide) (by decide) (by decide)
        show Tn _ _ 135 T σ18 [(0, .ref a), (1, .int (iI dp))] [.int (iI v23)] _
        exact tn_zret (v := v23) rfl (by omega) dX5_statement_135 ⟨_, rfl, w24, ((FrC.rfl.put (by decide) (by decide)).trans (FrC.sub F25 (by decide))), by omega, (RP.up rp26 (by omega))⟩
      · have h27 : σ.2.1 85 x11 = 256 ∨ σ.2.1 85 x11 = 257 ∨ σ.2.1 85 x11 = 258 ∨ σ.2.1 85 x11 = 259 ∨ σ.2.1 85 x11 = 260 ∨ σ.2.1 85 x11 = 261 ∨ σ.2.1 85 x11 = 262 := by omega
        rcases h27 with h27 | h27 | h27 | h27 | h27 | h27 | h27
        · refine tn_tableIn (tgt := 100) (off := 41) dX5_statement_59 (x := σ.2.1 85 x11) ⟨by omega, by omega⟩ (by omega) (by omega) (by rw [h27]; rfl) (by decide) ?_
          refine tn_aload_n dX5_statement_100 rfl 0 rfl ?_
          refine tn_callV (M := m_X5_statement) (pc := 101) (ix := 189) (ci := 5) (M' := m_X5_assignment) (As := []) (rest := []) dX5_statement_101 ok_X5_assignment im_X5_assignment se_X5_assignment ml5_189 np_X5_assignment rfl rfl ha rfl (Nat.le_of_ble_eq_true rfl) (Nat.le_of_ble_eq_true rfl) rfl (k_X5_assignment (d + 3 * lv + 9) (T := T) (σ := (sA 45 a (z2) σ)) (a := a) (kp := kp) ha (hw.put (by decide) (by decide) (fo_45 (by omega))) (by omega) (hrp.put (by decide))) (fun r28 T30 σ29 gt31 hp => ?_)
          obtain ⟨v34, rfl, w35, F36, f32, f33⟩ := hp
          replace ha : OB T30 a 5 := gt31.ob ha
          have rp38 : RP σ29 a (kp - 10 * v34 + 1) := RP.up f33 (by omega)
          show Tn _ _ 104 T30 σ29 [(0, .ref a), (1, .int (iI dp))] [.int (iI v34)] _
          exact tn_zret (v := v34) rfl (by omega) dX5_statement_104 ⟨_, rfl, w35, ((FrC.rfl.put (by decide) (by decide)).trans (FrC.sub F36 (by decide))), by omega, (RP.up rp38 (by omega))⟩
        · refine tn_tableIn (tgt := 131) (off := 72) dX5_statement_59 (x := σ.2.1 85 x11) ⟨by omega, by omega⟩ (by omega) (by omega) (by rw [h27]; rfl) (by decide) ?_
          refine tn_aload_n dX5_statement_131 rfl 0 rfl ?_
          refine tn_callV (M := m_X5_statement) (pc := 132) (ix := 90) (ci := 5) (M' := m_X5_refuse) (As := []) (rest := []) dX5_statement_132 ok_X5_refuse im_X5_refuse se_X5_refuse ml5_90 np_X5_refuse rfl rfl ha rfl (Nat.le_of_ble_eq_true rfl) (Nat.le_of_ble_eq_true rfl) rfl (k_X5_refuse (d + 3 * lv + 60) (T := T) (σ := (sA 45 a (z2) σ)) (a := a) ha (hw.put (by decide) (by decide) (fo_45 (by omega))) ) (fun r39 T41 σ40 gt42 hp => ?_)
          obtain ⟨v45, rfl, rfl, w46, F47, f43, f44⟩ := hp
          clear gt42
          have rp48 : RP σ40 a (kp) := RP.frc (hrp.put (by decide)) F47 (by decide) (by decide) (by decide) (by decide) (by decide)
          show Tn _ _ 135 T σ40 [(0, .ref a), (1, .int (iI dp))] [.int (iI v45)] _
          exact tn_zret (v := v45) rfl (by omega) dX5_statement_135 ⟨_, rfl, w46, ((FrC.rfl.put (by decide) (by decide)).trans (FrC.sub F47 (by decide))), by omega, (RP.up rp48 (by omega))⟩
        · refine tn_tableIn (tgt := 105) (off := 46) dX5_statement_59 (x := σ.2.1 85 x11) ⟨by omega, by omega⟩ (by omega) (by omega) (by rw [h27]; rfl) (by decide) ?_
          refine tn_aload_n dX5_statement_105 rfl 0 rfl ?_
          refine tn_bipush dX5_statement_106 (by decide) ?_
          refine tn_callV (M := m_X5_statement) (pc := 108) (ix := 192) (ci := 5) (M' := m_X5_single) (As := [.int (iI 6)]) (rest := []) dX5_statement_108 ok_X5_single im_X5_single se_X5_single ml5_192 np_X5_single rfl rfl ha rfl (Nat.le_of_ble_eq_true rfl) (Nat.le_of_ble_eq_true rfl) rfl (k_X5_single (d + 3 * lv + 10) (T := T) (σ := (sA 45 a (z2) σ)) (a := a) (k := 6) (kp := kp) ha (by decide) (hw.put (by decide) (by decide) (fo_45 (by omega))) (by omega) (by omega) (hrp.put (by decide))) (fun r49 T51 σ50 gt52 hp => ?_)
          obtain ⟨v55, rfl, w56, F57, f53, f54⟩ := hp
          replace ha : OB T51 a 5 := gt52.ob ha
          have rp59 : RP σ50 a (kp - 7 * v55 + 1) := RP.up f54 (by omega)
          show Tn _ _ 111 T51 σ50 [(0, .ref a), (1, .int (iI dp))] [.int (iI v55)] _
          exact tn_zret (v := v55) rfl (by omega) dX5_statement_111 ⟨_, rfl, w56, ((FrC.rfl.put (by decide) (by decide)).trans (FrC.sub F57 (by decide))), by omega, (RP.up rp59 (by omega))⟩
        · refine tn_tableIn (tgt := 112) (off := 53) dX5_statement_59 (x := σ.2.1 85 x11) ⟨by omega, by omega⟩ (by omega) (by omega) (by rw [h27]; rfl) (by decide) ?_
          refine tn_aload_n dX5_statement_112 rfl 0 rfl ?_
          refine tn_bipush dX5_statement_113 (by decide) ?_
          refine tn_callV (M := m_X5_statement) (pc := 115) (ix := 192) (ci := 5) (M' := m_X5_single) (As := [.int (iI 7)]) (rest := []) dX5_statement_115 ok_X5_single im_X5_single se_X5_single ml5_192 np_X5_single rfl rfl ha rfl (Nat.le_of_ble_eq_true rfl) (Nat.le_of_ble_eq_true rfl) rfl (k_X5_single (d + 3 * lv + 10) (T := T) (σ := (sA 45 a (z2) σ)) (a := a) (k := 7) (kp := kp) ha (by decide) (hw.put (by decide) (by decide) (fo_45 (by omega))) (by omega) (by omega) (hrp.put (by decide))) (fun r60 T62 σ61 gt63 hp => ?_)
          obtain ⟨v66, rfl, w67, F68, f64, f65⟩ := hp
          replace ha : OB T62 a 5 := gt63.ob ha
          have rp70 : RP σ61 a (kp - 7 * v66 + 1) := RP.up f65 (by omega)
          show Tn _ _ 118 T62 σ61 [(0, .ref a), (1, .int (iI dp))] [.int (iI v66)] _
          exact tn_zret (v := v66) rfl (by omega) dX5_statement_118 ⟨_, rfl, w67, ((FrC.rfl.put (by decide) (by decide)).trans (FrC.sub F68 (by decide))), by omega, (RP.up rp70 (by omega))⟩
        · refine tn_tableIn (tgt := 119) (off := 60) dX5_statement_59 (x := σ.2.1 85 x11) ⟨by omega, by omega⟩ (by omega) (by omega) (by rw [h27]; rfl) (by decide) ?_
          refine tn_aload_n dX5_statement_119 rfl 0 rfl ?_
          refine tn_iload_n dX5_statement_120 rfl 1 rfl ?_
          refine tn_callV (M := m_X5_statement) (pc := 121) (ix := 195) (ci := 5) (M' := m_X5_choice) (As := [.int (iI dp)]) (rest := []) dX5_statement_121 ok_X5_choice im_X5_choice se_X5_choice ml5_195 np_X5_choice rfl rfl ha rfl (Nat.le_of_ble_eq_true rfl) (Nat.le_of_ble_eq_true rfl) rfl (k_X5_choice (d) (T := T) (σ := (sA 45 a (z2) σ)) (a := a) (dp := dp) (kp := kp) (lv := lv) ha (by omega) (hw.put (by decide) (by decide) (fo_45 (by omega))) hex (by omega) (by omega) (by omega) (hrp.put (by decide))) (fun r71 T73 σ72 gt74 hp => ?_)
          obtain ⟨v77, rfl, w78, F79, f75, f76⟩ := hp
          replace ha : OB T73 a 5 := gt74.ob ha
          have rp81 : RP σ72 a (kp - 10 * v77 + 1) := RP.up f76 (by omega)
          show Tn _ _ 124 T73 σ72 [(0, .ref a), (1, .int (iI dp))] [.int (iI v77)] _
          exact tn_zret (v := v77) rfl (by omega) dX5_statement_124 ⟨_, rfl, w78, ((FrC.rfl.put (by decide) (by decide)).trans (FrC.sub F79 (by decide))), by omega, (RP.up rp81 (by omega))⟩
        · refine tn_tableIn (tgt := 131) (off := 72) dX5_statement_59 (x := σ.2.1 85 x11) ⟨by omega, by omega⟩ (by omega) (by omega) (by rw [h27]; rfl) (by decide) ?_
          refine tn_aload_n dX5_statement_131 rfl 0 rfl ?_
          refine tn_callV (M := m_X5_statement) (pc := 132) (ix := 90) (ci := 5) (M' := m_X5_refuse) (As := []) (rest := []) dX5_statement_132 ok_X5_refuse im_X5_refuse se_X5_refuse ml5_90 np_X5_refuse rfl rfl ha rfl (Nat.le_of_ble_eq_true rfl) (Nat.le_of_ble_eq_true rfl) rfl (k_X5_refuse (d + 3 * lv + 60) (T := T) (σ := (sA 45 a (z2) σ)) (a := a) ha (hw.put (by decide) (by decide) (fo_45 (by omega))) ) (fun r82 T84 σ83 gt85 hp => ?_)
          obtain ⟨v88, rfl, rfl, w89, F90, f86, f87⟩ := hp
          clear gt85
          have rp91 : RP σ83 a (kp) := RP.frc (hrp.put (by decide)) F90 (by decide) (by decide) (by decide) (by decide) (by decide)
          show Tn _ _ 135 T σ83 [(0, .ref a), (1, .int (iI dp))] [.int (iI v88)] _
          exact tn_zret (v := v88) rfl (by omega) dX5_statement_135 ⟨_, rfl, w89, ((FrC.rfl.put (by decide) (by decide)).trans (FrC.sub F90 (by decide))), by omega, (RP.up rp91 (by omega))⟩
        · refine tn_tableIn (tgt := 125) (off := 66) dX5_statement_59 (x := σ.2.1 85 x11) ⟨by omega, by omega⟩ (by omega) (by omega) (by rw [h27]; rfl) (by decide) ?_
          refine tn_aload_n dX5_statement_125 rfl 0 rfl ?_
          refine tn_iload_n dX5_statement_126 rfl 1 rfl ?_
          refine tn_callV (M := m_X5_statement) (pc := 127) (ix := 198) (ci := 5) (M' := m_X5_ring) (As := [.int (iI dp)]) (rest := []) dX5_statement_127 ok_X5_ring im_X5_ring se_X5_ring ml5_198 np_X5_ring rfl rfl ha rfl (Nat.le_of_ble_eq_true rfl) (Nat.le_of_ble_eq_true rfl) rfl (k_X5_ring (d) (T := T) (σ := (sA 45 a (z2) σ)) (a := a) (dp := dp) (kp := kp) (lv := lv) ha (by omega) (hw.put (by decide) (by decide) (fo_45 (by omega))) hex (by omega) (by omega) (by omega) (hrp.put (by decide))) (fun r92 T94 σ93 gt95 hp => ?_)
          obtain ⟨v98, rfl, w99, F100, f96, f97⟩ := hp
          replace ha : OB T94 a 5 := gt95.ob ha
          have rp102 : RP σ93 a (kp - 9 * v98 + 2) := RP.up f97 (by omega)
          show Tn _ _ 130 T94 σ93 [(0, .ref a), (1, .int (iI dp))] [.int (iI v98)] _
          exact tn_zret (v := v98) rfl (by omega) dX5_statement_130 ⟨_, rfl, w99, ((FrC.rfl.put (by decide) (by decide)).trans (FrC.sub F100 (by decide))), by omega, (RP.up rp102 (by omega))⟩
    · refine tn_aload_n dX5_statement_41 rfl 0 rfl ?_
      refine tn_getR (ci := 5) (i := 2) (n := 35) (x := x5) dX5_statement_42 rfl lay_5 (by decide) fl5_47 ha rfl rfl (rc_o (by decide) (hx6)) ?_
      refine tn_aload_n dX5_statement_45 rfl 0 rfl ?_
      refine tn_getI (ci := 5) (i := 12) (n := 45) (t := z2) dX5_statement_46 rfl lay_5 (by decide) fl5_64 ha rfl rfl (ra_eq) ?_
      refine tn_putV (ci := 1) (i := 4) (n := 9) (r := false) (v := z2) tyX1 tyX1_ok nmX1 dX5_statement_49 rfl lay_1 (by decide) fl5_186 rfl (tyX1_ok 4 (by decide)) rfl rfl rfl hk7o rfl rfl ?_
      refine tn_aload_n dX5_statement_52 rfl 0 rfl ?_
      obtain ⟨x103, hx104, hk105⟩ : ∃ x : Nat, σ.2.1 33 a = (x : Int) ∧ (T x).1 = 39 := wf_33 hw ha
      have hk105o : OB T x103 9 := ⟨by omega, by rw [hk105]; rfl, by omega⟩
      refine tn_getR (ci := 5) (i := 0) (n := 33) (x := x103) dX5_statement_53 rfl lay_5 (by decide) fl5_12 ha rfl rfl (rc_o (by decide) (rc_o (by decide) (hx104))) ?_
      refine tn_getI (ci := 9) (i := 4) (n := 85) (t := σ.2.1 85 x103) dX5_statement_56 rfl lay_9 (by decide) fl5_71 hk105o rfl rfl (rc_o (by decide) (rc_o (by decide) (rfl))) ?_
      have g107 : ((-2147483648 : Int) ≤ σ.2.1 85 x103 ∧ σ.2.1 85 x103 ≤ 2147483647) := wf_85 hw hk105o
      by_cases h108 : σ.2.1 85 x103 < 256 ∨ 262 < σ.2.1 85 x103
      · refine tn_tableOut (tgt := 131) dX5_statement_59 (x := σ.2.1 85 x103) ⟨by omega, by omega⟩ h108 (by decide) ?_
        refine tn_aload_n dX5_statement_131 rfl 0 rfl ?_
        refine tn_callV (M := m_X5_statement) (pc := 132) (ix := 90) (ci := 5) (M' := m_X5_refuse) (As := []) (rest := []) dX5_statement_132 ok_X5_refuse im_X5_refuse se_X5_refuse ml5_90 np_X5_refuse rfl rfl ha rfl (Nat.le_of_ble_eq_true rfl) (Nat.le_of_ble_eq_true rfl) rfl (k_X5_refuse (d + 3 * lv + 60) (T := T) (σ := (sA 9 x5 (z2) (sA 45 a (z2) σ))) (a := a) ha ((hw.put (by decide) (by decide) (fo_45 (by omega))).put (by decide) (by decide) (fo_9 (by omega))) ) (fun r109 T111 σ110 gt112 hp => ?_)
        obtain ⟨v115, rfl, rfl, w116, F117, f113, f114⟩ := hp
        clear gt112
        have rp118 : RP σ110 a (kp) := RP.frc ((hrp.put (by decide)).put (by decide)) F117 (by decide) (by decide) (by decide) (by decide) (by decide)
        show Tn _ _ 135 T σ110 [(0, .ref a), (1, .int (iI dp))] [.int (iI v115)] _
        exact tn_zret (v := v115) rfl (by omega) dX5_statement_135 ⟨_, rfl, w116, (((FrC.rfl.put (by decide) (by decide)).put (by decide) (by decide)).trans (FrC.sub F117 (by decide))), by omega, (RP.up rp118 (by omega))⟩
      · have h119 : σ.2.1 85 x103 = 256 ∨ σ.2.1 85 x103 = 257 ∨ σ.2.1 85 x103 = 258 ∨ σ.2.1 85 x103 = 259 ∨ σ.2.1 85 x103 = 260 ∨ σ.2.1 85 x103 = 261 ∨ σ.2.1 85 x103 = 262 := by omega
        rcases h119 with h119 | h119 | h119 | h119 | h119 | h119 | h119
        · refine tn_tableIn (tgt := 100) (off := 41) dX5_statement_59 (x := σ.2.1 85 x103) ⟨by omega, by omega⟩ (by omega) (by omega) (by rw [h119]; rfl) (by decide) ?_
          refine tn_aload_n dX5_statement_100 rfl 0 rfl ?_
          refine tn_callV (M := m_X5_statement) (pc := 101) (ix := 189) (ci := 5) (M' := m_X5_assignment) (As := []) (rest := []) dX5_statement_101 ok_X5_assignment im_X5_assignment se_X5_assignment ml5_189 np_X5_assignment rfl rfl ha rfl (Nat.le_of_ble_eq_true rfl) (Nat.le_of_ble_eq_true rfl) rfl (k_X5_assignment (d + 3 * lv + 9) (T := T) (σ := (sA 9 x5 (z2) (sA 45 a (z2) σ))) (a := a) (kp := kp) ha ((hw.put (by decide) (by decide) (fo_45 (by omega))).put (by decide) (by decide) (fo_9 (by omega))) (by omega) ((hrp.put (by decide)).put (by decide))) (fun r120 T122 σ121 gt123 hp => ?_)
          obtain ⟨v126, rfl, w127, F128, f124, f125⟩ := hp
          replace ha : OB T122 a 5 := gt123.ob ha
          have rp130 : RP σ121 a (kp - 10 * v126 + 1) := RP.up f125 (by omega)
          show Tn _ _ 104 T122 σ121 [(0, .ref a), (1, .int (iI dp))] [.int (iI v126)] _
          exact tn_zret (v := v126) rfl (by omega) dX5_statement_104 ⟨_, rfl, w127, (((FrC.rfl.put (by decide) (by decide)).put (by decide) (by decide)).trans (FrC.sub F128 (by decide))), by omega, (RP.up rp130 (by omega))⟩
        · refine tn_tableIn (tgt := 131) (off := 72) dX5_statement_59 (x := σ.2.1 85 x103) ⟨by omega, by omega⟩ (by omega) (by omega) (by rw [h119]; rfl) (by decide) ?_
          refine tn_aload_n dX5_statement_131 rfl 0 rfl ?_
          refine tn_callV (M := m_X5_statement) (pc := 132) (ix := 90) (ci := 5) (M' := m_X5_refuse) (As := []) (rest := []) dX5_statement_132 ok_X5_refuse im_X5_refuse se_X5_refuse ml5_90 np_X5_refuse rfl rfl ha rfl (Nat.le_of_ble_eq_true rfl) (Nat.le_of_ble_eq_true rfl) rfl (k_X5_refuse (d + 3 * lv + 60) (T := T) (σ := (sA 9 x5 (z2) (sA 45 a (z2) σ))) (a := a) ha ((hw.put (by decide) (by decide) (fo_45 (by omega))).put (by decide) (by decide) (fo_9 (by omega))) ) (fun r131 T133 σ132 gt134 hp => ?_)
          obtain ⟨v137, rfl, rfl, w138, F139, f135, f136⟩ := hp
          clear gt134
          have rp140 : RP σ132 a (kp) := RP.frc ((hrp.put (by decide)).put (by decide)) F139 (by decide) (by decide) (by decide) (by decide) (by decide)
          show Tn _ _ 135 T σ132 [(0, .ref a), (1, .int (iI dp))] [.int (iI v137)] _
          exact tn_zret (v := v137) rfl (by omega) dX5_statement_135 ⟨_, rfl, w138, (((FrC.rfl.put (by decide) (by decide)).put (by decide) (by decide)).trans (FrC.sub F139 (by decide))), by omega, (RP.up rp140 (by omega))⟩
        · refine tn_tableIn (tgt := 105) (off := 46) dX5_statement_59 (x := σ.2.1 85 x103) ⟨by omega, by omega⟩ (by omega) (by omega) (by rw [h119]; rfl) (by decide) ?_
          refine tn_aload_n dX5_statement_105 rfl 0 rfl ?_
          refine tn_bipush dX5_statement_106 (by decide) ?_
          refine tn_callV (M := m_X5_statement) (pc := 108) (ix := 192) (ci := 5) (M' := m_X5_single) (As := [.int (iI 6)]) (rest := []) dX5_statement_108 ok_X5_single im_X5_single se_X5_single ml5_192 np_X5_single rfl rfl ha rfl (Nat.le_of_ble_eq_true rfl) (Nat.le_of_ble_eq_true rfl) rfl (k_X5_single (d + 3 * lv + 10) (T := T) (σ := (sA 9 x5 (z2) (sA 45 a (z2) σ))) (a := a) (k := 6) (kp := kp) ha (by decide) ((hw.put (by decide) (by decide) (fo_45 (by omega))).put (by decide) (by decide) (fo_9 (by omega))) (by omega) (by omega) ((hrp.put (by decide)).put (by decide))) (fun r141 T143 σ142 gt144 hp => ?_)
          obtain ⟨v147, rfl, w148, F149, f145, f146⟩ := hp
          replace ha : OB T143 a 5 := gt144.ob ha
          have rp151 : RP σ142 a (kp - 7 * v147 + 1) := RP.up f146 (by omega)
          show Tn _ _ 111 T143 σ142 [(0, .ref a), (1, .int (iI dp))] [.int (iI v147)] _
          exact tn_zret (v := v147) rfl (by omega) dX5_statement_111 ⟨_, rfl, w148, (((FrC.rfl.put (by decide) (by decide)).put (by decide) (by decide)).trans (FrC.sub F149 (by decide))), by omega, (RP.up rp151 (by omega))⟩
        · refine tn_tableIn (tgt := 112) (off := 53) dX5_statement_59 (x := σ.2.1 85 x103) ⟨by omega, by omega⟩ (by omega) (by omega) (by rw [h119]; rfl) (by decide) ?_
          refine tn_aload_n dX5_statement_112 rfl 0 rfl ?_
          refine tn_bipush dX5_statement_113 (by decide) ?_
          refine tn_callV (M := m_X5_statement) (pc := 115) (ix := 192) (ci := 5) (M' := m_X5_single) (As := [.int (iI 7)]) (rest := []) dX5_statement_115 ok_X5_single im_X5_single se_X5_single ml5_192 np_X5_single rfl rfl ha rfl (Nat.le_of_ble_eq_true rfl) (Nat.le_of_ble_eq_true rfl) rfl (k_X5_single (d + 3 * lv + 10) (T := T) (σ := (sA 9 x5 (z2) (sA 45 a (z2) σ))) (a := a) (k := 7) (kp := kp) ha (by decide) ((hw.put (by decide) (by decide) (fo_45 (by omega))).put (by decide) (by decide) (fo_9 (by omega))) (by omega) (by omega) ((hrp.put (by decide)).put (by decide))) (fun r152 T154 σ153 gt155 hp => ?_)
          obtain ⟨v158, rfl, w159, F160, f156, f157⟩ := hp
          replace ha : OB T154 a 5 := gt155.ob ha
          have rp162 : RP σ153 a (kp - 7 * v158 + 1) := RP.up f157 (by omega)
          show Tn _ _ 118 T154 σ153 [(0, .ref a), (1, .int (iI dp))] [.int (iI v158)] _
          exact tn_zret (v := v158) rfl (by omega) dX5_statement_118 ⟨_, rfl, w159, (((FrC.rfl.put (by decide) (by decide)).put (by decide) (by decide)).trans (FrC.sub F160 (by decide))), by omega, (RP.up rp162 (by omega))⟩
        · refine tn_tableIn (tgt := 119) (off := 60) dX5_statement_59 (x := σ.2.1 85 x103) ⟨by omega, by omega⟩ (by omega) (by omega) (by rw [h119]; rfl) (by decide) ?_
          refine tn_aload_n dX5_statement_119 rfl 0 rfl ?_
          refine tn_iload_n dX5_statement_120 rfl 1 rfl ?_
          refine tn_callV (M := m_X5_statement) (pc := 121) (ix := 195) (ci := 5) (M' := m_X5_choice) (As := [.int (iI dp)]) (rest := []) dX5_statement_121 ok_X5_choice im_X5_choice se_X5_choice ml5_195 np_X5_choice rfl rfl ha rfl (Nat.le_of_ble_eq_true rfl) (Nat.le_of_ble_eq_true rfl) rfl (k_X5_choice (d) (T := T) (σ := (sA 9 x5 (z2) (sA 45 a (z2) σ))) (a := a) (dp := dp) (kp := kp) (lv := lv) ha (by omega) ((hw.put (by decide) (by decide) (fo_45 (by omega))).put (by decide) (by decide) (fo_9 (by omega))) hex (by omega) (by omega) (by omega) ((hrp.put (by decide)).put (by decide))) (fun r163 T165 σ164 gt166 hp => ?_)
          obtain ⟨v169, rfl, w170, F171, f167, f168⟩ := hp
          replace ha : OB T165 a 5 := gt166.ob ha
          have rp173 : RP σ164 a (kp - 10 * v169 + 1) := RP.up f168 (by omega)
          show Tn _ _ 124 T165 σ164 [(0, .ref a), (1, .int (iI dp))] [.int (iI v169)] _
          exact tn_zret (v := v169) rfl (by omega) dX5_statement_124 ⟨_, rfl, w170, (((FrC.rfl.put (by decide) (by decide)).put (by decide) (by decide)).trans (FrC.sub F171 (by decide))), by omega, (RP.up rp173 (by omega))⟩
        · refine tn_tableIn (tgt := 131) (off := 72) dX5_statement_59 (x := σ.2.1 85 x103) ⟨by omega, by omega⟩ (by omega) (by omega) (by rw [h119]; rfl) (by decide) ?_
          refine tn_aload_n dX5_statement_131 rfl 0 rfl ?_
          refine tn_callV (M := m_X5_statement) (pc := 132) (ix := 90) (ci := 5) (M' := m_X5_refuse) (As := []) (rest := []) dX5_statement_132 ok_X5_refuse im_X5_refuse se_X5_refuse ml5_90 np_X5_refuse rfl rfl ha rfl (Nat.le_of_ble_eq_true rfl) (Nat.le_of_ble_eq_true rfl) rfl (k_X5_refuse (d + 3 * lv + 60) (T := T) (σ := (sA 9 x5 (z2) (sA 45 a (z2) σ))) (a := a) ha ((hw.put (by decide) (by decide) (fo_45 (by omega))).put (by decide) (by decide) (fo_9 (by omega))) ) (fun r174 T176 σ175 gt177 hp => ?_)
          obtain ⟨v180, rfl, rfl, w181, F182, f178, f179⟩ := hp
          clear gt177
          have rp183 : RP σ175 a (kp) := RP.frc ((hrp.put (by decide)).put (by decide)) F182 (by decide) (by decide) (by decide) (by decide) (by decide)
          show Tn _ _ 135 T σ175 [(0, .ref a), (1, .int (iI dp))] [.int (iI v180)] _
          exact tn_zret (v := v180) rfl (by omega) dX5_statement_135 ⟨_, rfl, w181, (((FrC.rfl.put (by decide) (by decide)).put (by decide) (by decide)).trans (FrC.sub F182 (by decide))), by omega, (RP.up rp183 (by omega))⟩
        · refine tn_tableIn (tgt := 125) (off := 66) dX5_statement_59 (x := σ.2.1 85 x103) ⟨by omega, by omega⟩ (by omega) (by omega) (by rw [h119]; rfl) (by decide) ?_
          refine tn_aload_n dX5_statement_125 rfl 0 rfl ?_
          refine tn_iload_n dX5_statement_126 rfl 1 rfl ?_
          refine tn_callV (M := m_X5_statement) (pc := 127) (ix := 198) (ci := 5) (M' := m_X5_ring) (As := [.int (iI dp)]) (rest := []) dX5_statement_127 ok_X5_ring im_X5_ring se_X5_ring ml5_198 np_X5_ring rfl rfl ha rfl (Nat.le_of_ble_eq_true rfl) (Nat.le_of_ble_eq_true rfl) rfl (k_X5_ring (d) (T := T) (σ := (sA 9 x5 (z2) (sA 45 a (z2) σ))) (a := a) (dp := dp) (kp := kp) (lv := lv) ha (by omega) ((hw.put (by decide) (by decide) (fo_45 (by omega))).put (by decide) (by decide) (fo_9 (by omega))) hex (by omega) (by omega) (by omega) ((hrp.put (by decide)).put (by decide))) (fun r184 T186 σ185 gt187 hp => ?_)
          obtain ⟨v190, rfl, w191, F192, f188, f189⟩ := hp
          replace ha : OB T186 a 5 := gt187.ob ha
          have rp194 : RP σ185 a (kp - 9 * v190 + 2) := RP.up f189 (by omega)
          show Tn _ _ 130 T186 σ185 [(0, .ref a), (1, .int (iI dp))] [.int (iI v190)] _
          exact tn_zret (v := v190) rfl (by omega) dX5_statement_130 ⟨_, rfl, w191, (((FrC.rfl.put (by decide) (by decide)).put (by decide) (by decide)).trans (FrC.sub F192 (by decide))), by omega, (RP.up rp194 (by omega))⟩
  · refine tn_aload_n dX5_statement_19 rfl 0 rfl ?_
    refine tn_iconst dX5_statement_20 ?_
    refine tn_aload_n dX5_statement_21 rfl 0 rfl ?_
    obtain ⟨x195, hx196, hk197⟩ : ∃ x : Nat, σ.2.1 33 a = (x : Int) ∧ (T x).1 = 39 := wf_33 hw ha
    have hk197o : OB T x195 9 := ⟨by omega, by rw [hk197]; rfl, by omega⟩
    refine tn_getR (ci := 5) (i := 0) (n := 33) (x := x195) dX5_statement_22 rfl lay_5 (by decide) fl5_12 ha rfl rfl (rc_o (by decide) (hx196)) ?_
    refine tn_getI (ci := 9) (i := 6) (n := 87) (t := σ.2.1 87 x195) dX5_statement_25 rfl lay_9 (by decide) fl5_74 hk197o rfl rfl (rc_o (by decide) (rfl)) ?_
    have g199 : ((-2147483648 : Int) ≤ σ.2.1 87 x195 ∧ σ.2.1 87 x195 ≤ 2147483647) := wf_87 hw hk197o
    refine tn_callV (M := m_X5_statement) (pc := 28) (ix := 113) (ci := 5) (M' := m_X5_note) (As := [.int (iI 5), .int (iI (σ.2.1 87 x195))]) (rest := []) dX5_statement_28 ok_X5_note im_X5_note se_X5_note ml5_113 np_X5_note rfl rfl ha rfl (Nat.le_of_ble_eq_true rfl) (Nat.le_of_ble_eq_true rfl) rfl (k_X5_note (d + 3 * lv + 60) (T := T) (σ := (sA 45 a (z2) σ)) (a := a) (p1 := 5) (p2 := σ.2.1 87 x195) ha (by decide) (by omega) (hw.put (by decide) (by decide) (fo_45 (by omega))) ) (fun r200 T202 σ201 gt203 hp => ?_)
    obtain ⟨rfl, rfl, w205, F206⟩ := hp
    clear gt203
    have rp207 : RP σ201 a (kp) := RP.frc (hrp.put (by decide)) F206 (by decide) (by decide) (by decide) (by decide) (by decide)
    show Tn _ _ 31 T σ201 [(0, .ref a), (1, .int (iI dp))] [] _
    refine tn_aload_n dX5_statement_31 rfl 0 rfl ?_
    obtain ⟨x208, hx209, hk210⟩ : ∃ x : Nat, σ.2.1 35 a = (x : Int) ∧ (T x).1 = 31 := wf_35 hw ha
    have hk210o : OB T x208 1 := ⟨by omega, by rw [hk210]; rfl, by omega⟩
    refine tn_getR (ci := 5) (i := 2) (n := 35) (x := x208) dX5_statement_32 rfl lay_5 (by decide) fl5_47 ha rfl rfl (rc_F F206 (Or.inl (by decide)) (by decide) (rc_o (by decide) (hx209))) ?_
    refine tn_getI (ci := 1) (i := 4) (n := 9) (t := σ.2.1 9 x208) dX5_statement_35 rfl lay_1 (by decide) fl5_186 hk210o rfl rfl (rc_F F206 (Or.inl (by decide)) (by decide) (rc_o (by decide) (rfl))) ?_
    have g212 : ((-2147483648 : Int) ≤ σ.2.1 9 x208 ∧ σ.2.1 9 x208 ≤ 2147483647) := wf_9 hw hk210o
    refine tn_if_ne (tgt := 52) dX5_statement_38 (by decide) ⟨by omega, by omega⟩ (fun h213 => ?_) (fun h213 => ?_)
    · refine tn_aload_n dX5_statement_52 rfl 0 rfl ?_
      refine tn_getR (ci := 5) (i := 0) (n := 33) (x := x195) dX5_statement_53 rfl lay_5 (by decide) fl5_12 ha rfl rfl (rc_F F206 (Or.inl (by decide)) (by decide) (rc_o (by decide) (hx196))) ?_
      refine tn_getI (ci := 9) (i := 4) (n := 85) (t := σ.2.1 85 x195) dX5_statement_56 rfl lay_9 (by decide) fl5_71 hk197o rfl rfl (rc_F F206 (Or.inl (by decide)) (by decide) (rc_o (by decide) (rfl))) ?_
      have g214 : ((-2147483648 : Int) ≤ σ.2.1 85 x195 ∧ σ.2.1 85 x195 ≤ 2147483647) := wf_85 hw hk197o
      by_cases h215 : σ.2.1 85 x195 < 256 ∨ 262 < σ.2.1 85 x195
      · refine tn_tableOut (tgt := 131) dX5_statement_59 (x := σ.2.1 85 x195) ⟨by omega, by omega⟩ h215 (by decide) ?_
        refine tn_aload_n dX5_statement_131 rfl 0 rfl ?_
        refine tn_callV (M := m_X5_statement) (pc := 132) (ix := 90) (ci := 5) (M' := m_X5_refuse) (As := []) (rest := []) dX5_statement_132 ok_X5_refuse im_X5_refuse se_X5_refuse ml5_90 np_X5_refuse rfl rfl ha rfl (Nat.le_of_ble_eq_true rfl) (Nat.le_of_ble_eq_true rfl) rfl (k_X5_refuse (d + 3 * lv + 60) (T := T) (σ := σ201) (a := a) ha w205 ) (fun r216 T218 σ217 gt219 hp => ?_)
        obtain ⟨v222, rfl, rfl, w223, F224, f220, f221⟩ := hp
        clear gt219
        have rp225 : RP σ217 a (kp) := RP.frc rp207 F224 (by decide) (by decide) (by decide) (by decide) (by decide)
        show Tn _ _ 135 T σ217 [(0, .ref a), (1, .int (iI dp))] [.int (iI v222)] _
        exact tn_zret (v := v222) rfl (by omega) dX5_statement_135 ⟨_, rfl, w223, (((FrC.rfl.put (by decide) (by decide)).trans (FrC.sub F206 (by decide))).trans (FrC.sub F224 (by decide))), by omega, (RP.up rp225 (by omega))⟩
      · have h226 : σ.2.1 85 x195 = 256 ∨ σ.2.1 85 x195 = 257 ∨ σ.2.1 85 x195 = 258 ∨ σ.2.1 85 x195 = 259 ∨ σ.2.1 85 x195 = 260 ∨ σ.2.1 85 x195 = 261 ∨ σ.2.1 85 x195 = 262 := by omega
        rcases h226 with h226 | h226 | h226 | h226 | h226 | h226 | h226
        · refine tn_tableIn (tgt := 100) (off := 41) dX5_statement_59 (x := σ.2.1 85 x195) ⟨by omega, by omega⟩ (by omega) (by omega) (by rw [h226]; rfl) (by decide) ?_
          refine tn_aload_n dX5_statement_100 rfl 0 rfl ?_
          refine tn_callV (M := m_X5_statement) (pc := 101) (ix := 189) (ci := 5) (M' := m_X5_assignment) (As := []) (rest := []) dX5_statement_101 ok_X5_assignment im_X5_assignment se_X5_assignment ml5_189 np_X5_assignment rfl rfl ha rfl (Nat.le_of_ble_eq_true rfl) (Nat.le_of_ble_eq_true rfl) rfl (k_X5_assignment (d + 3 * lv + 9) (T := T) (σ := σ201) (a := a) (kp := kp) ha w205 (by omega) rp207) (fun r227 T229 σ228 gt230 hp => ?_)
          obtain ⟨v233, rfl, w234, F235, f231, f232⟩ := hp
          replace ha : OB T229 a 5 := gt230.ob ha
          have rp237 : RP σ228 a (kp - 10 * v233 + 1) := RP.up f232 (by omega)
          show Tn _ _ 104 T229 σ228 [(0, .ref a), (1, .int (iI dp))] [.int (iI v233)] _
          exact tn_zret (v := v233) rfl (by omega) dX5_statement_104 ⟨_, rfl, w234, (((FrC.rfl.put (by decide) (by decide)).trans (FrC.sub F206 (by decide))).trans (FrC.sub F235 (by decide))), by omega, (RP.up rp237 (by omega))⟩
        · refine tn_tableIn (tgt := 131) (off := 72) dX5_statement_59 (x := σ.2.1 85 x195) ⟨by omega, by omega⟩ (by omega) (by omega) (by rw [h226]; rfl) (by decide) ?_
          refine tn_aload_n dX5_statement_131 rfl 0 rfl ?_
          refine tn_callV (M := m_X5_statement) (pc := 132) (ix := 90) (ci := 5) (M' := m_X5_refuse) (As := []) (rest := []) dX5_statement_132 ok_X5_refuse im_X5_refuse se_X5_refuse ml5_90 np_X5_refuse rfl rfl ha rfl (Nat.le_of_ble_eq_true rfl) (Nat.le_of_ble_eq_true rfl) rfl (k_X5_refuse (d + 3 * lv + 60) (T := T) (σ := σ201) (a := a) ha w205 ) (fun r238 T240 σ239 gt241 hp => ?_)
          obtain ⟨v244, rfl, rfl, w245, F246, f242, f243⟩ := hp
          clear gt241
          have rp247 : RP σ239 a (kp) := RP.frc rp207 F246 (by decide) (by decide) (by decide) (by decide) (by decide)
          show Tn _ _ 135 T σ239 [(0, .ref a), (1, .int (iI dp))] [.int (iI v244)] _
          exact tn_zret (v := v244) rfl (by omega) dX5_statement_135 ⟨_, rfl, w245, (((FrC.rfl.put (by decide) (by decide)).trans (FrC.sub F206 (by decide))).trans (FrC.sub F246 (by decide))), by omega, (RP.up rp247 (by omega))⟩
        · refine tn_tableIn (tgt := 105) (off := 46) dX5_statement_59 (x := σ.2.1 85 x195) ⟨by omega, by omega⟩ (by omega) (by omega) (by rw [h226]; rfl) (by decide) ?_
          refine tn_aload_n dX5_statement_105 rfl 0 rfl ?_
          refine tn_bipush dX5_statement_106 (by decide) ?_
          refine tn_callV (M := m_X5_statement) (pc := 108) (ix := 192) (ci := 5) (M' := m_X5_single) (As := [.int (iI 6)]) (rest := []) dX5_statement_108 ok_X5_single im_X5_single se_X5_single ml5_192 np_X5_single rfl rfl ha rfl (Nat.le_of_ble_eq_true rfl) (Nat.le_of_ble_eq_true rfl) rfl (k_X5_single (d + 3 * lv + 10) (T := T) (σ := σ201) (a := a) (k := 6) (kp := kp) ha (by decide) w205 (by omega) (by omega) rp207) (fun r248 T250 σ249 gt251 hp => ?_)
          obtain ⟨v254, rfl, w255, F256, f252, f253⟩ := hp
          replace ha : OB T250 a 5 := gt251.ob ha
          have rp258 : RP σ249 a (kp - 7 * v254 + 1) := RP.up f253 (by omega)
          show Tn _ _ 111 T250 σ249 [(0, .ref a), (1, .int (iI dp))] [.int (iI v254)] _
          exact tn_zret (v := v254) rfl (by omega) dX5_statement_111 ⟨_, rfl, w255, (((FrC.rfl.put (by decide) (by decide)).trans (FrC.sub F206 (by decide))).trans (FrC.sub F256 (by decide))), by omega, (RP.up rp258 (by omega))⟩
        · refine tn_tableIn (tgt := 112) (off := 53) dX5_statement_59 (x := σ.2.1 85 x195) ⟨by omega, by omega⟩ (by omega) (by omega) (by rw [h226]; rfl) (by decide) ?_
          refine tn_aload_n dX5_statement_112 rfl 0 rfl ?_
          refine tn_bipush dX5_statement_113 (by decide) ?_
          refine tn_callV (M := m_X5_statement) (pc := 115) (ix := 192) (ci := 5) (M' := m_X5_single) (As := [.int (iI 7)]) (rest := []) dX5_statement_115 ok_X5_single im_X5_single se_X5_single ml5_192 np_X5_single rfl rfl ha rfl (Nat.le_of_ble_eq_true rfl) (Nat.le_of_ble_eq_true rfl) rfl (k_X5_single (d + 3 * lv + 10) (T := T) (σ := σ201) (a := a) (k := 7) (kp := kp) ha (by decide) w205 (by omega) (by omega) rp207) (fun r259 T261 σ260 gt262 hp => ?_)
          obtain ⟨v265, rfl, w266, F267, f263, f264⟩ := hp
          replace ha : OB T261 a 5 := gt262.ob ha
          have rp269 : RP σ260 a (kp - 7 * v265 + 1) := RP.up f264 (by omega)
          show Tn _ _ 118 T261 σ260 [(0, .ref a), (1, .int (iI dp))] [.int (iI v265)] _
          exact tn_zret (v := v265) rfl (by omega) dX5_statement_118 ⟨_, rfl, w266, (((FrC.rfl.put (by decide) (by decide)).trans (FrC.sub F206 (by decide))).trans (FrC.sub F267 (by decide))), by omega, (RP.up rp269 (by omega))⟩
        · refine tn_tableIn (tgt := 119) (off := 60) dX5_statement_59 (x := σ.2.1 85 x195) ⟨by omega, by omega⟩ (by omega) (by omega) (by rw [h226]; rfl) (by decide) ?_
          refine tn_aload_n dX5_statement_119 rfl 0 rfl ?_
          refine tn_iload_n dX5_statement_120 rfl 1 rfl ?_
          refine tn_callV (M := m_X5_statement) (pc := 121) (ix := 195) (ci := 5) (M' := m_X5_choice) (As := [.int (iI dp)]) (rest := []) dX5_statement_121 ok_X5_choice im_X5_choice se_X5_choice ml5_195 np_X5_choice rfl rfl ha rfl (Nat.le_of_ble_eq_true rfl) (Nat.le_of_ble_eq_true rfl) rfl (k_X5_choice (d) (T := T) (σ := σ201) (a := a) (dp := dp) (kp := kp) (lv := lv) ha (by omega) w205 hex (by omega) (by omega) (by omega) rp207) (fun r270 T272 σ271 gt273 hp => ?_)
          obtain ⟨v276, rfl, w277, F278, f274, f275⟩ := hp
          replace ha : OB T272 a 5 := gt273.ob ha
          have rp280 : RP σ271 a (kp - 10 * v276 + 1) := RP.up f275 (by omega)
          show Tn _ _ 124 T272 σ271 [(0, .ref a), (1, .int (iI dp))] [.int (iI v276)] _
          exact tn_zret (v := v276) rfl (by omega) dX5_statement_124 ⟨_, rfl, w277, (((FrC.rfl.put (by decide) (by decide)).trans (FrC.sub F206 (by decide))).trans (FrC.sub F278 (by decide))), by omega, (RP.up rp280 (by omega))⟩
        · refine tn_tableIn (tgt := 131) (off := 72) dX5_statement_59 (x := σ.2.1 85 x195) ⟨by omega, by omega⟩ (by omega) (by omega) (by rw [h226]; rfl) (by decide) ?_
          refine tn_aload_n dX5_statement_131 rfl 0 rfl ?_
          refine tn_callV (M := m_X5_statement) (pc := 132) (ix := 90) (ci := 5) (M' := m_X5_refuse) (As := []) (rest := []) dX5_statement_132 ok_X5_refuse im_X5_refuse se_X5_refuse ml5_90 np_X5_refuse rfl rfl ha rfl (Nat.le_of_ble_eq_true rfl) (Nat.le_of_ble_eq_true rfl) rfl (k_X5_refuse (d + 3 * lv + 60) (T := T) (σ := σ201) (a := a) ha w205 ) (fun r281 T283 σ282 gt284 hp => ?_)
          obtain ⟨v287, rfl, rfl, w288, F289, f285, f286⟩ := hp
          clear gt284
          have rp290 : RP σ282 a (kp) := RP.frc rp207 F289 (by decide) (by decide) (by decide) (by decide) (by decide)
          show Tn _ _ 135 T σ282 [(0, .ref a), (1, .int (iI dp))] [.int (iI v287)] _
          exact tn_zret (v := v287) rfl (by omega) dX5_statement_135 ⟨_, rfl, w288, (((FrC.rfl.put (by decide) (by decide)).trans (FrC.sub F206 (by decide))).trans (FrC.sub F289 (by decide))), by omega, (RP.up rp290 (by omega))⟩
        · refine tn_tableIn (tgt := 125) (off := 66) dX5_statement_59 (x := σ.2.1 85 x195) ⟨by omega, by omega⟩ (by omega) (by omega) (by rw [h226]; rfl) (by decide) ?_
          refine tn_aload_n dX5_statement_125 rfl 0 rfl ?_
          refine tn_iload_n dX5_statement_126 rfl 1 rfl ?_
          refine tn_callV (M := m_X5_statement) (pc := 127) (ix := 198) (ci := 5) (M' := m_X5_ring) (As := [.int (iI dp)]) (rest := []) dX5_statement_127 ok_X5_ring im_X5_ring se_X5_ring ml5_198 np_X5_ring rfl rfl ha rfl (Nat.le_of_ble_eq_true rfl) (Nat.le_of_ble_eq_true rfl) rfl (k_X5_ring (d) (T := T) (σ := σ201) (a := a) (dp := dp) (kp := kp) (lv := lv) ha (by omega) w205 hex (by omega) (by omega) (by omega) rp207) (fun r291 T293 σ292 gt294 hp => ?_)
          obtain ⟨v297, rfl, w298, F299, f295, f296⟩ := hp
          replace ha : OB T293 a 5 := gt294.ob ha
          have rp301 : RP σ292 a (kp - 9 * v297 + 2) := RP.up f296 (by omega)
          show Tn _ _ 130 T293 σ292 [(0, .ref a), (1, .int (iI dp))] [.int (iI v297)] _
          exact tn_zret (v := v297) rfl (by omega) dX5_statement_130 ⟨_, rfl, w298, (((FrC.rfl.put (by decide) (by decide)).trans (FrC.sub F206 (by decide))).trans (FrC.sub F299 (by decide))), by omega, (RP.up rp301 (by omega))⟩
    · refine tn_aload_n dX5_statement_41 rfl 0 rfl ?_
      refine tn_getR (ci := 5) (i := 2) (n := 35) (x := x208) dX5_statement_42 rfl lay_5 (by decide) fl5_47 ha rfl rfl (rc_F F206 (Or.inl (by decide)) (by decide) (rc_o (by decide) (hx209))) ?_
      refine tn_aload_n dX5_statement_45 rfl 0 rfl ?_
      refine tn_getI (ci := 5) (i := 12) (n := 45) (t := z2) dX5_statement_46 rfl lay_5 (by decide) fl5_64 ha rfl rfl (rc_F F206 (Or.inl (by decide)) (by decide) (ra_eq)) ?_
      refine tn_putV (ci := 1) (i := 4) (n := 9) (r := false) (v := z2) tyX1 tyX1_ok nmX1 dX5_statement_49 rfl lay_1 (by decide) fl5_186 rfl (tyX1_ok 4 (by decide)) rfl rfl rfl hk210o rfl rfl ?_
      refine tn_aload_n dX5_statement_52 rfl 0 rfl ?_
      refine tn_getR (ci := 5) (i := 0) (n := 33) (x := x195) dX5_statement_53 rfl lay_5 (by decide) fl5_12 ha rfl rfl (rc_o (by decide) (rc_F F206 (Or.inl (by decide)) (by decide) (rc_o (by decide) (hx196)))) ?_
      refine tn_getI (ci := 9) (i := 4) (n := 85) (t := σ.2.1 85 x195) dX5_statement_56 rfl lay_9 (by decide) fl5_71 hk197o rfl rfl (rc_o (by decide) (rc_F F206 (Or.inl (by decide)) (by decide) (rc_o (by decide) (rfl)))) ?_
      have g302 : ((-2147483648 : Int) ≤ σ.2.1 85 x195 ∧ σ.2.1 85 x195 ≤ 2147483647) := wf_85 hw hk197o
      by_cases h303 : σ.2.1 85 x195 < 256 ∨ 262 < σ.2.1 85 x195
      · refine tn_tableOut (tgt := 131) dX5_statement_59 (x := σ.2.1 85 x195) ⟨by omega, by omega⟩ h303 (by decide) ?_
        refine tn_aload_n dX5_statement_131 rfl 0 rfl ?_
        refine tn_callV (M := m_X5_statement) (pc := 132) (ix := 90) (ci := 5) (M' := m_X5_refuse) (As := []) (rest := []) dX5_statement_132 ok_X5_refuse im_X5_refuse se_X5_refuse ml5_90 np_X5_refuse rfl rfl ha rfl (Nat.le_of_ble_eq_true rfl) (Nat.le_of_ble_eq_true rfl) rfl (k_X5_refuse (d + 3 * lv + 60) (T := T) (σ := (sA 9 x208 (z2) σ201)) (a := a) ha (w205.put (by decide) (by decide) (fo_9 (by omega))) ) (fun r304 T306 σ305 gt307 hp => ?_)
        obtain ⟨v310, rfl, rfl, w311, F312, f308, f309⟩ := hp
        clear gt307
        have rp313 : RP σ305 a (kp) := RP.frc (rp207.put (by decide)) F312 (by decide) (by decide) (by decide) (by decide) (by decide)
        show Tn _ _ 135 T σ305 [(0, .ref a), (1, .int (iI dp))] [.int (iI v310)] _
        exact tn_zret (v := v310) rfl (by omega) dX5_statement_135 ⟨_, rfl, w311, ((((FrC.rfl.put (by decide) (by decide)).trans (FrC.sub F206 (by decide))).put (by decide) (by decide)).trans (FrC.sub F312 (by decide))), by omega, (RP.up rp313 (by omega))⟩
      · have h314 : σ.2.1 85 x195 = 256 ∨ σ.2.1 85 x195 = 257 ∨ σ.2.1 85 x195 = 258 ∨ σ.2.1 85 x195 = 259 ∨ σ.2.1 85 x195 = 260 ∨ σ.2.1 85 x195 = 261 ∨ σ.2.1 85 x195 = 262 := by omega
        rcases h314 with h314 | h314 | h314 | h314 | h314 | h314 | h314
        · refine tn_tableIn (tgt := 100) (off := 41) dX5_statement_59 (x := σ.2.1 85 x195) ⟨by omega, by omega⟩ (by omega) (by omega) (by rw [h314]; rfl) (by decide) ?_
          refine tn_aload_n dX5_statement_100 rfl 0 rfl ?_
          refine tn_callV (M := m_X5_statement) (pc := 101) (ix := 189) (ci := 5) (M' := m_X5_assignment) (As := []) (rest := []) dX5_statement_101 ok_X5_assignment im_X5_assignment se_X5_assignment ml5_189 np_X5_assignment rfl rfl ha rfl (Nat.le_of_ble_eq_true rfl) (Nat.le_of_ble_eq_true rfl) rfl (k_X5_assignment (d + 3 * lv + 9) (T := T) (σ := (sA 9 x208 (z2) σ201)) (a := a) (kp := kp) ha (w205.put (by decide) (by decide) (fo_9 (by omega))) (by omega) (rp207.put (by decide))) (fun r315 T317 σ316 gt318 hp => ?_)
          obtain ⟨v321, rfl, w322, F323, f319, f320⟩ := hp
          replace ha : OB T317 a 5 := gt318.ob ha
          have rp325 : RP σ316 a (kp - 10 * v321 + 1) := RP.up f320 (by omega)
          show Tn _ _ 104 T317 σ316 [(0, .ref a), (1, .int (iI dp))] [.int (iI v321)] _
          exact tn_zret (v := v321) rfl (by omega) dX5_statement_104 ⟨_, rfl, w322, ((((FrC.rfl.put (by decide) (by decide)).trans (FrC.sub F206 (by decide))).put (by decide) (by decide)).trans (FrC.sub F323 (by decide))), by omega, (RP.up rp325 (by omega))⟩
        · refine tn_tableIn (tgt := 131) (off := 72) dX5_statement_59 (x := σ.2.1 85 x195) ⟨by omega, by omega⟩ (by omega) (by omega) (by rw [h314]; rfl) (by decide) ?_
          refine tn_aload_n dX5_statement_131 rfl 0 rfl ?_
          refine tn_callV (M := m_X5_statement) (pc := 132) (ix := 90) (ci := 5) (M' := m_X5_refuse) (As := []) (rest := []) dX5_statement_132 ok_X5_refuse im_X5_refuse se_X5_refuse ml5_90 np_X5_refuse rfl rfl ha rfl (Nat.le_of_ble_eq_true rfl) (Nat.le_of_ble_eq_true rfl) rfl (k_X5_refuse (d + 3 * lv + 60) (T := T) (σ := (sA 9 x208 (z2) σ201)) (a := a) ha (w205.put (by decide) (by decide) (fo_9 (by omega))) ) (fun r326 T328 σ327 gt329 hp => ?_)
          obtain ⟨v332, rfl, rfl, w333, F334, f330, f331⟩ := hp
          clear gt329
          have rp335 : RP σ327 a (kp) := RP.frc (rp207.put (by decide)) F334 (by decide) (by decide) (by decide) (by decide) (by decide)
          show Tn _ _ 135 T σ327 [(0, .ref a), (1, .int (iI dp))] [.int (iI v332)] _
          exact tn_zret (v := v332) rfl (by omega) dX5_statement_135 ⟨_, rfl, w333, ((((FrC.rfl.put (by decide) (by decide)).trans (FrC.sub F206 (by decide))).put (by decide) (by decide)).trans (FrC.sub F334 (by decide))), by omega, (RP.up rp335 (by omega))⟩
        · refine tn_tableIn (tgt := 105) (off := 46) dX5_statement_59 (x := σ.2.1 85 x195) ⟨by omega, by omega⟩ (by omega) (by omega) (by rw [h314]; rfl) (by decide) ?_
          refine tn_aload_n dX5_statement_105 rfl 0 rfl ?_
          refine tn_bipush dX5_statement_106 (by decide) ?_
          refine tn_callV (M := m_X5_statement) (pc := 108) (ix := 192) (ci := 5) (M' := m_X5_single) (As := [.int (iI 6)]) (rest := []) dX5_statement_108 ok_X5_single im_X5_single se_X5_single ml5_192 np_X5_single rfl rfl ha rfl (Nat.le_of_ble_eq_true rfl) (Nat.le_of_ble_eq_true rfl) rfl (k_X5_single (d + 3 * lv + 10) (T := T) (σ := (sA 9 x208 (z2) σ201)) (a := a) (k := 6) (kp := kp) ha (by decide) (w205.put (by decide) (by decide) (fo_9 (by omega))) (by omega) (by omega) (rp207.put (by decide))) (fun r336 T338 σ337 gt339 hp => ?_)
          obtain ⟨v342, rfl, w343, F344, f340, f341⟩ := hp
          replace ha : OB T338 a 5 := gt339.ob ha
          have rp346 : RP σ337 a (kp - 7 * v342 + 1) := RP.up f341 (by omega)
          show Tn _ _ 111 T338 σ337 [(0, .ref a), (1, .int (iI dp))] [.int (iI v342)] _
          exact tn_zret (v := v342) rfl (by omega) dX5_statement_111 ⟨_, rfl, w343, ((((FrC.rfl.put (by decide) (by decide)).trans (FrC.sub F206 (by decide))).put (by decide) (by decide)).trans (FrC.sub F344 (by decide))), by omega, (RP.up rp346 (by omega))⟩
        · refine tn_tableIn (tgt := 112) (off := 53) dX5_statement_59 (x := σ.2.1 85 x195) ⟨by omega, by omega⟩ (by omega) (by omega) (by rw [h314]; rfl) (by decide) ?_
          refine tn_aload_n dX5_statement_112 rfl 0 rfl ?_
          refine tn_bipush dX5_statement_113 (by decide) ?_
          refine tn_callV (M := m_X5_statement) (pc := 115) (ix := 192) (ci := 5) (M' := m_X5_single) (As := [.int (iI 7)]) (rest := []) dX5_statement_115 ok_X5_single im_X5_single se_X5_single ml5_192 np_X5_single rfl rfl ha rfl (Nat.le_of_ble_eq_true rfl) (Nat.le_of_ble_eq_true rfl) rfl (k_X5_single (d + 3 * lv + 10) (T := T) (σ := (sA 9 x208 (z2) σ201)) (a := a) (k := 7) (kp := kp) ha (by decide) (w205.put (by decide) (by decide) (fo_9 (by omega))) (by omega) (by omega) (rp207.put (by decide))) (fun r347 T349 σ348 gt350 hp => ?_)
          obtain ⟨v353, rfl, w354, F355, f351, f352⟩ := hp
          replace ha : OB T349 a 5 := gt350.ob ha
          have rp357 : RP σ348 a (kp - 7 * v353 + 1) := RP.up f352 (by omega)
          show Tn _ _ 118 T349 σ348 [(0, .ref a), (1, .int (iI dp))] [.int (iI v353)] _
          exact tn_zret (v := v353) rfl (by omega) dX5_statement_118 ⟨_, rfl, w354, ((((FrC.rfl.put (by decide) (by decide)).trans (FrC.sub F206 (by decide))).put (by decide) (by decide)).trans (FrC.sub F355 (by decide))), by omega, (RP.up rp357 (by omega))⟩
        · refine tn_tableIn (tgt := 119) (off := 60) dX5_statement_59 (x := σ.2.1 85 x195) ⟨by omega, by omega⟩ (by omega) (by omega) (by rw [h314]; rfl) (by decide) ?_
          refine tn_aload_n dX5_statement_119 rfl 0 rfl ?_
          refine tn_iload_n dX5_statement_120 rfl 1 rfl ?_
          refine tn_callV (M := m_X5_statement) (pc := 121) (ix := 195) (ci := 5) (M' := m_X5_choice) (As := [.int (iI dp)]) (rest := []) dX5_statement_121 ok_X5_choice im_X5_choice se_X5_choice ml5_195 np_X5_choice rfl rfl ha rfl (Nat.le_of_ble_eq_true rfl) (Nat.le_of_ble_eq_true rfl) rfl (k_X5_choice (d) (T := T) (σ := (sA 9 x208 (z2) σ201)) (a := a) (dp := dp) (kp := kp) (lv := lv) ha (by omega) (w205.put (by decide) (by decide) (fo_9 (by omega))) hex (by omega) (by omega) (by omega) (rp207.put (by decide))) (fun r358 T360 σ359 gt361 hp => ?_)
          obtain ⟨v364, rfl, w365, F366, f362, f363⟩ := hp
          replace ha : OB T360 a 5 := gt361.ob ha
          have rp368 : RP σ359 a (kp - 10 * v364 + 1) := RP.up f363 (by omega)
          show Tn _ _ 124 T360 σ359 [(0, .ref a), (1, .int (iI dp))] [.int (iI v364)] _
          exact tn_zret (v := v364) rfl (by omega) dX5_statement_124 ⟨_, rfl, w365, ((((FrC.rfl.put (by decide) (by decide)).trans (FrC.sub F206 (by decide))).put (by decide) (by decide)).trans (FrC.sub F366 (by decide))), by omega, (RP.up rp368 (by omega))⟩
        · refine tn_tableIn (tgt := 131) (off := 72) dX5_statement_59 (x := σ.2.1 85 x195) ⟨by omega, by omega⟩ (by omega) (by omega) (by rw [h314]; rfl) (by decide) ?_
          refine tn_aload_n dX5_statement_131 rfl 0 rfl ?_
          refine tn_callV (M := m_X5_statement) (pc := 132) (ix := 90) (ci := 5) (M' := m_X5_refuse) (As := []) (rest := []) dX5_statement_132 ok_X5_refuse im_X5_refuse se_X5_refuse ml5_90 np_X5_refuse rfl rfl ha rfl (Nat.le_of_ble_eq_true rfl) (Nat.le_of_ble_eq_true rfl) rfl (k_X5_refuse (d + 3 * lv + 60) (T := T) (σ := (sA 9 x208 (z2) σ201)) (a := a) ha (w205.put (by decide) (by decide) (fo_9 (by omega))) ) (fun r369 T371 σ370 gt372 hp => ?_)
          obtain ⟨v375, rfl, rfl, w376, F377, f373, f374⟩ := hp
          clear gt372
          have rp378 : RP σ370 a (kp) := RP.frc (rp207.put (by decide)) F377 (by decide) (by decide) (by decide) (by decide) (by decide)
          show Tn _ _ 135 T σ370 [(0, .ref a), (1, .int (iI dp))] [.int (iI v375)] _
          exact tn_zret (v := v375) rfl (by omega) dX5_statement_135 ⟨_, rfl, w376, ((((FrC.rfl.put (by decide) (by decide)).trans (FrC.sub F206 (by decide))).put (by decide) (by decide)).trans (FrC.sub F377 (by decide))), by omega, (RP.up rp378 (by omega))⟩
        · refine tn_tableIn (tgt := 125) (off := 66) dX5_statement_59 (x := σ.2.1 85 x195) ⟨by omega, by omega⟩ (by omega) (by omega) (by rw [h314]; rfl) (by decide) ?_
          refine tn_aload_n dX5_statement_125 rfl 0 rfl ?_
          refine tn_iload_n dX5_statement_126 rfl 1 rfl ?_
          refine tn_callV (M := m_X5_statement) (pc := 127) (ix := 198) (ci := 5) (M' := m_X5_ring) (As := [.int (iI dp)]) (rest := []) dX5_statement_127 ok_X5_ring im_X5_ring se_X5_ring ml5_198 np_X5_ring rfl rfl ha rfl (Nat.le_of_ble_eq_true rfl) (Nat.le_of_ble_eq_true rfl) rfl (k_X5_ring (d) (T := T) (σ := (sA 9 x208 (z2) σ201)) (a := a) (dp := dp) (kp := kp) (lv := lv) ha (by omega) (w205.put (by decide) (by decide) (fo_9 (by omega))) hex (by omega) (by omega) (by omega) (rp207.put (by decide))) (fun r379 T381 σ380 gt382 hp => ?_)
          obtain ⟨v385, rfl, w386, F387, f383, f384⟩ := hp
          replace ha : OB T381 a 5 := gt382.ob ha
          have rp389 : RP σ380 a (kp - 9 * v385 + 2) := RP.up f384 (by omega)
          show Tn _ _ 130 T381 σ380 [(0, .ref a), (1, .int (iI dp))] [.int (iI v385)] _
          exact tn_zret (v := v385) rfl (by omega) dX5_statement_130 ⟨_, rfl, w386, ((((FrC.rfl.put (by decide) (by decide)).trans (FrC.sub F206 (by decide))).put (by decide) (by decide)).trans (FrC.sub F387 (by decide))), by omega, (RP.up rp389 (by omega))⟩
end
section
theorem dX5_block_0 : decode cX5_block 0 = .ok (.iload_n 1, 1) := by decide +kernel
theorem dX5_block_1 : decode cX5_block 1 = .ok (.bipush 6, 2) := by decide +kernel
theorem dX5_block_3 : decode cX5_block 3 = .ok (.if_icmp .gt 12, 3) := by decide +kernel
theorem dX5_block_15 : decode cX5_block 15 = .ok (.aload_n 0, 1) := by decide +kernel
theorem dX5_block_16 : decode cX5_block 16 = .ok (.invokevirtual 90, 3) := by decide +kernel
theorem dX5_block_19 : decode cX5_block 19 = .ok (.ireturn, 1) := by decide +kernel
set_option maxRecDepth 20000 in
theorem k_X5_block_0 (d : Nat) {T : CT} {σ : MS} {a : Nat} {dp : Int} {kp : Int} (ha : OB T a 5) (h_dp : -2147483648 ≤ dp ∧ dp ≤ 2147483647) (hw : WT T σ) (h9 : 7 ≤ dp) (hkp : kp ≤ 140) (hrp : RP σ a kp) : Tn (d + 60) m_X5_block 0 T σ [(0, .ref a), (1, .int (iI dp))] [] (fun ro T2 σ2 => ∃ v : Int, ro = some (.int (iI v)) ∧ WT T2 σ2 ∧ FrC T [5, 6, 7, 9, 42, 43, 44, 45, 46, 47, 50, 51, 84, 85, 86, 87, 518, 519, 520, 521] σ σ2 ∧ (v = 0 ∨ v = 1) ∧ (RP σ2 a (kp + 2 - 10 * v))) := by
  refine tn_iload_n dX5_block_0 rfl 1 rfl ?_
  refine tn_bipush dX5_block_1 (by decide) ?_
  refine tn_icmp_gt (tgt := 15) dX5_block_3 (by decide) ⟨by omega, by omega⟩ ⟨by decide, by decide⟩ (fun h1 => ?_) (fun h1 => absurd h1 (by omega))
  refine tn_aload_n dX5_block_15 rfl 0 rfl ?_
  refine tn_callV (M := m_X5_block) (pc := 16) (ix := 90) (ci := 5) (M' := m_X5_refuse) (As := []) (rest := []) dX5_block_16 ok_X5_refuse im_X5_refuse se_X5_refuse ml5_90 np_X5_refuse rfl rfl ha rfl (Nat.le_of_ble_eq_true rfl) (Nat.le_of_ble_eq_true rfl) rfl (k_X5_refuse (d + 58) (T := T) (σ := σ) (a := a) ha hw ) (fun r2 T4 σ3 gt5 hp => ?_)
  obtain ⟨v8, rfl, rfl, w9, F10, f6, f7⟩ := hp
  clear gt5
  have rp11 : RP σ3 a (kp) := RP.frc hrp F10 (by decide) (by decide) (by decide) (by decide) (by decide)
  show Tn _ _ 19 T σ3 [(0, .ref a), (1, .int (iI dp))] [.int (iI v8)] _
  exact tn_zret (v := v8) rfl (by omega) dX5_block_19 ⟨_, rfl, w9, (FrC.rfl.trans (FrC.sub F10 (by decide))), by omega, (RP.up rp11 (by omega))⟩
end
section
theorem ml5_183 : Cond.methodLink RX5 183 yX5_statement ∈ pWW := pw3 (List.mem_of_getElem? (i := 117) rfl) rfl
theorem dX5_block_6 : decode cX5_block 6 = .ok (.aload_n 0, 1) := by decide +kernel
theorem dX5_block_7 : decode cX5_block 7 = .ok (.bipush 123, 2) := by decide +kernel
theorem dX5_block_9 : decode cX5_block 9 = .ok (.invokevirtual 102, 3) := by decide +kernel
theorem dX5_block_12 : decode cX5_block 12 = .ok (.ifCond .ne 8, 3) := by decide +kernel
theorem dX5_block_20 : decode cX5_block 20 = .ok (.iconst 0, 1) := by decide +kernel
theorem dX5_block_21 : decode cX5_block 21 = .ok (.istore_n 2, 1) := by decide +kernel
theorem dX5_block_22 : decode cX5_block 22 = .ok (.iload_n 2, 1) := by decide +kernel
theorem dX5_block_23 : decode cX5_block 23 = .ok (.sipush 1200, 3) := by decide +kernel
theorem dX5_block_26 : decode cX5_block 26 = .ok (.if_icmp .ge 31, 3) := by decide +kernel
theorem dX5_block_29 : decode cX5_block 29 = .ok (.aload_n 0, 1) := by decide +kernel
theorem dX5_block_30 : decode cX5_block 30 = .ok (.getfield 12, 3) := by decide +kernel
theorem dX5_block_33 : decode cX5_block 33 = .ok (.getfield 71, 3) := by decide +kernel
theorem dX5_block_36 : decode cX5_block 36 = .ok (.bipush 125, 2) := by decide +kernel
theorem dX5_block_38 : decode cX5_block 38 = .ok (.if_icmp .eq 19, 3) := by decide +kernel
theorem dX5_block_41 : decode cX5_block 41 = .ok (.aload_n 0, 1) := by decide +kernel
theorem dX5_block_42 : decode cX5_block 42 = .ok (.iload_n 1, 1) := by decide +kernel
theorem dX5_block_43 : decode cX5_block 43 = .ok (.invokevirtual 183, 3) := by decide +kernel
theorem dX5_block_46 : decode cX5_block 46 = .ok (.ifCond .ne 5, 3) := by decide +kernel
theorem dX5_block_51 : decode cX5_block 51 = .ok (.iinc 2 1, 3) := by decide +kernel
theorem dX5_block_54 : decode cX5_block 54 = .ok (.goto (-32), 3) := by decide +kernel
set_option maxRecDepth 20000 in
theorem l_X5_block_1_22 (d : Nat) {T0 : CT} {σ0 : MS} {a : Nat} {c1 : Int} {kp : Int} {lv : Nat} {post : Option Value → CT → MS → Prop} (r_c1 : 0 ≤ c1 ∧ c1 ≤ 6) (hw0 : WT T0 σ0) (hlv : 6 ≤ c1 + (lv : Int)) (hkp : kp ≤ 140) (hex : ∀ (d : Nat) {T : CT} {σ : MS} {a : Nat} {dp : Int} {kp : Int} (ha : OB T a 5) (h_dp : -2147483648 ≤ dp ∧ dp ≤ 2147483647) (hw : WT T σ) (hdp : 0 ≤ dp ∧ dp ≤ 7) (hlv : 7 ≤ dp + (lv : Int)) (hkp : kp ≤ 140) (hrp : RP σ a kp), Tn (d + 3 * lv + 60) m_X5_block 0 T σ [(0, .ref a), (1, .int (iI dp))] [] (fun ro T2 σ2 => ∃ v : Int, ro = some (.int (iI v)) ∧ WT T2 σ2 ∧ FrC T [5, 6, 7, 9, 42, 43, 44, 45, 46, 47, 50, 51, 84, 85, 86, 87, 518, 519, 520, 521] σ σ2 ∧ (v = 0 ∨ v = 1) ∧ (RP σ2 a (kp + 2 - 10 * v)))) (hx_49 : ∀ (T : CT) (i2 : Int) (σ : MS) , (GT T0 T) → (WT T σ) → (FrC T0 [5, 6, 7, 9, 42, 43, 44, 45, 46, 47, 50, 51, 84, 85, 86, 87, 518, 519, 520, 521] σ0 σ) → (OB T a 5) → (0 ≤ i2 ∧ i2 ≤ 2147483647) → (RP σ a (kp + 2)) → Tn (d + 3 * lv + 63) m_X5_block 49 T σ [(0, .ref a), (1, .int (iI c1)), (2, .int (iI i2))] [] post) (hx_57 : ∀ (T : CT) (i2 : Int) (σ : MS) , (GT T0 T) → (WT T σ) → (FrC T0 [5, 6, 7, 9, 42, 43, 44, 45, 46, 47, 50, 51, 84, 85, 86, 87, 518, 519, 520, 521] σ0 σ) → (OB T a 5) → (0 ≤ i2 ∧ i2 ≤ 2147483647) → (RP σ a kp) → Tn (d + 3 * lv + 63) m_X5_block 57 T σ [(0, .ref a), (1, .int (iI c1)), (2, .int (iI i2))] [] post) : ∀ (n : Nat) (T : CT) (i2 : Int) (σ : MS) , (GT T0 T) → (WT T σ) → (FrC T0 [5, 6, 7, 9, 42, 43, 44, 45, 46, 47, 50, 51, 84, 85, 86, 87, 518, 519, 520, 521] σ0 σ) → (OB T a 5) → (0 ≤ i2 ∧ i2 ≤ 2147483647) → (RP σ a kp) → (2147483700 - i2).toNat = n → Tn (d + 3 * lv + 63) m_X5_block 22 T σ [(0, .ref a), (1, .int (iI c1)), (2, .int (iI i2))] [] post := by
  intro n
  induction n using Nat.strongRecOn with
  | _ n ih =>
    intro T i2 σ hG hw hF h_a r_i2 hrp hm
    refine tn_iload_n dX5_block_22 rfl 2 rfl ?_
    refine tn_sipush dX5_block_23 (by decide) ?_
    refine tn_icmp_ge (tgt := 57) dX5_block_26 (by decide) ⟨by omega, by omega⟩ ⟨by decide, by decide⟩ (fun h1 => ?_) (fun h1 => ?_)
    · exact tn_sub [0, 1, 2] rfl (hx_57 T (i2) σ hG hw (FrC.rfl.trans (FrC.sub hF (by decide))) h_a (by omega) (RP.up hrp (by omega)))
    · refine tn_aload_n dX5_block_29 rfl 0 rfl ?_
      obtain ⟨x2, hx3, hk4⟩ : ∃ x : Nat, σ.2.1 33 a = (x : Int) ∧ (T x).1 = 39 := wf_33 hw h_a
      have hk4o : OB T x2 9 := ⟨by omega, by rw [hk4]; rfl, by omega⟩
      refine tn_getR (ci := 5) (i := 0) (n := 33) (x := x2) dX5_block_30 rfl lay_5 (by decide) fl5_12 h_a rfl rfl (hx3) ?_
      refine tn_getI (ci := 9) (i := 4) (n := 85) (t := σ.2.1 85 x2) dX5_block_33 rfl lay_9 (by decide) fl5_71 hk4o rfl rfl (rfl) ?_
      have g6 : ((-2147483648 : Int) ≤ σ.2.1 85 x2 ∧ σ.2.1 85 x2 ≤ 2147483647) := wf_85 hw hk4o
      refine tn_bipush dX5_block_36 (by decide) ?_
      refine tn_icmp_eq (tgt := 57) dX5_block_38 (by decide) ⟨by omega, by omega⟩ ⟨by decide, by decide⟩ (fun h7 => ?_) (fun h7 => ?_)
      · exact tn_sub [0, 1, 2] rfl (hx_57 T (i2) σ hG hw (FrC.rfl.trans (FrC.sub hF (by decide))) h_a (by omega) (RP.up hrp (by omega)))
      · refine tn_aload_n dX5_block_41 rfl 0 rfl ?_
        refine tn_iload_n dX5_block_42 rfl 1 rfl ?_
        refine tn_callV (M := m_X5_block) (pc := 43) (ix := 183) (ci := 5) (M' := m_X5_statement) (As := [.int (iI c1)]) (rest := []) dX5_block_43 ok_X5_statement im_X5_statement se_X5_statement ml5_183 np_X5_statement rfl rfl h_a rfl (Nat.le_of_ble_eq_true rfl) (Nat.le_of_ble_eq_true rfl) rfl (k_X5_statement (d) (T := T) (σ := σ) (a := a) (dp := c1) (kp := kp) (lv := lv) h_a (by omega) hw hex (by omega) (by omega) (by omega) hrp) (fun r8 T10 σ9 gt11 hp => ?_)
        obtain ⟨v14, rfl, w15, F16, f12, f13⟩ := hp
        replace h_a : OB T10 a 5 := gt11.ob h_a
        have rp18 : RP σ9 a (kp - 8 * v14 + 2) := RP.up f13 (by omega)
        show Tn _ _ 46 T10 σ9 [(0, .ref a), (1, .int (iI c1)), (2, .int (iI i2))] [.int (iI v14)] _
        refine tn_if_ne (tgt := 51) dX5_block_46 (by decide) ⟨by omega, by omega⟩ (fun h19 => ?_) (fun h19 => ?_)
        · refine tn_iinc (q0 := 2) (L' := [(2, .int (iI (i2 + 1))), (0, .ref a), (1, .int (iI c1))]) dX5_block_51 rfl (by decide) rfl ?_
          refine tn_goto (tgt := 22) dX5_block_54 (by decide) ?_
          exact tn_sub [1, 2, 0] rfl (ih _ (by omega) T10 (i2 + 1) σ9 (GT.trans hG gt11) w15 ((FrC.rfl.trans (FrC.sub hF (by decide))).trans (FrC.sub (FrC.old F16 hG) (by decide))) h_a (by omega) (RP.up rp18 (by omega)) rfl)
        · exact tn_sub [0, 1, 2] rfl (hx_49 T10 (i2) σ9 (GT.trans hG gt11) w15 ((FrC.rfl.trans (FrC.sub hF (by decide))).trans (FrC.sub (FrC.old F16 hG) (by decide))) h_a (by omega) (RP.up rp18 (by omega)))
theorem dX5_block_49 : decode cX5_block 49 = .ok (.iconst 0, 1) := by decide +kernel
theorem dX5_block_50 : decode cX5_block 50 = .ok (.ireturn, 1) := by decide +kernel
theorem dX5_block_57 : decode cX5_block 57 = .ok (.aload_n 0, 1) := by decide +kernel
theorem dX5_block_58 : decode cX5_block 58 = .ok (.bipush 125, 2) := by decide +kernel
theorem dX5_block_60 : decode cX5_block 60 = .ok (.invokevirtual 102, 3) := by decide +kernel
theorem dX5_block_63 : decode cX5_block 63 = .ok (.ireturn, 1) := by decide +kernel
set_option maxRecDepth 20000 in
theorem k_X5_block_1 (d : Nat) {T : CT} {σ : MS} {a : Nat} {dp : Int} {kp : Int} {lv : Nat} (ha : OB T a 5) (h_dp : -2147483648 ≤ dp ∧ dp ≤ 2147483647) (hw : WT T σ) (hex : ∀ (d : Nat) {T : CT} {σ : MS} {a : Nat} {dp : Int} {kp : Int} (ha : OB T a 5) (h_dp : -2147483648 ≤ dp ∧ dp ≤ 2147483647) (hw : WT T σ) (hdp : 0 ≤ dp ∧ dp ≤ 7) (hlv : 7 ≤ dp + (lv : Int)) (hkp : kp ≤ 140) (hrp : RP σ a kp), Tn (d + 3 * lv + 60) m_X5_block 0 T σ [(0, .ref a), (1, .int (iI dp))] [] (fun ro T2 σ2 => ∃ v : Int, ro = some (.int (iI v)) ∧ WT T2 σ2 ∧ FrC T [5, 6, 7, 9, 42, 43, 44, 45, 46, 47, 50, 51, 84, 85, 86, 87, 518, 519, 520, 521] σ σ2 ∧ (v = 0 ∨ v = 1) ∧ (RP σ2 a (kp + 2 - 10 * v)))) (hdp : 0 ≤ dp ∧ dp ≤ 7) (hlv : 7 ≤ dp + ((lv : Int) + 1)) (hkp : kp ≤ 140) (hrp : RP σ a kp) : Tn (d + 3 * lv + 63) m_X5_block 0 T σ [(0, .ref a), (1, .int (iI dp))] [] (fun ro T2 σ2 => ∃ v : Int, ro = some (.int (iI v)) ∧ WT T2 σ2 ∧ FrC T [5, 6, 7, 9, 42, 43, 44, 45, 46, 47, 50, 51, 84, 85, 86, 87, 518, 519, 520, 521] σ σ2 ∧ (v = 0 ∨ v = 1) ∧ (RP σ2 a (kp + 2 - 10 * v))) := by
  refine tn_iload_n dX5_block_0 rfl 1 rfl ?_
  refine tn_bipush dX5_block_1 (by decide) ?_
  refine tn_icmp_gt (tgt := 15) dX5_block_3 (by decide) ⟨by omega, by omega⟩ ⟨by decide, by decide⟩ (fun h1 => ?_) (fun h1 => ?_)
  · refine tn_aload_n dX5_block_15 rfl 0 rfl ?_
    refine tn_callV (M := m_X5_block) (pc := 16) (ix := 90) (ci := 5) (M' := m_X5_refuse) (As := []) (rest := []) dX5_block_16 ok_X5_refuse im_X5_refuse se_X5_refuse ml5_90 np_X5_refuse rfl rfl ha rfl (Nat.le_of_ble_eq_true rfl) (Nat.le_of_ble_eq_true rfl) rfl (k_X5_refuse (d + 3 * lv + 61) (T := T) (σ := σ) (a := a) ha hw ) (fun r2 T4 σ3 gt5 hp => ?_)
    obtain ⟨v8, rfl, rfl, w9, F10, f6, f7⟩ := hp
    clear gt5
    have rp11 : RP σ3 a (kp) := RP.frc hrp F10 (by decide) (by decide) (by decide) (by decide) (by decide)
    show Tn _ _ 19 T σ3 [(0, .ref a), (1, .int (iI dp))] [.int (iI v8)] _
    exact tn_zret (v := v8) rfl (by omega) dX5_block_19 ⟨_, rfl, w9, (FrC.rfl.trans (FrC.sub F10 (by decide))), by omega, (RP.up rp11 (by omega))⟩
  · refine tn_aload_n dX5_block_6 rfl 0 rfl ?_
    refine tn_bipush dX5_block_7 (by decide) ?_
    refine tn_callV (M := m_X5_block) (pc := 9) (ix := 102) (ci := 5) (M' := m_X5_taken) (As := [.int (iI 123)]) (rest := []) dX5_block_9 ok_X5_taken im_X5_taken se_X5_taken ml5_102 np_X5_taken rfl rfl ha rfl (Nat.le_of_ble_eq_true rfl) (Nat.le_of_ble_eq_true rfl) rfl (k_X5_taken (d + 3 * lv + 60) (T := T) (σ := σ) (a := a) (s := 123) (kp := kp) ha (by decide) hw (by omega) (by omega) hrp) (fun r12 T14 σ13 gt15 hp => ?_)
    obtain ⟨v18, rfl, rfl, w19, F20, f16, f17⟩ := hp
    clear gt15
    show Tn _ _ 12 T σ13 [(0, .ref a), (1, .int (iI dp))] [.int (iI v18)] _
    refine tn_if_ne (tgt := 20) dX5_block_12 (by decide) ⟨by omega, by omega⟩ (fun h22 => ?_) (fun h22 => ?_)
    · refine tn_iconst dX5_block_20 ?_
      refine tn_istore_n (L' := [(2, .int (iI 0)), (0, .ref a), (1, .int (iI dp))]) dX5_block_21 rfl (by decide) rfl ?_
      refine tn_sub [1, 2, 0] rfl (l_X5_block_1_22 (d) (σ0 := σ13) (T0 := T) (a := a) (c1 := dp) (kp := kp - 4 * v18) (lv := lv) (by omega) w19 (by omega) (by omega) hex (fun T25 i223 σ24 gt26 w27 F28 q29 r30 f31 => ?_) (fun T34 i232 σ33 gt35 w36 F37 q38 r39 f40 => ?_) _ T (0) σ13 GT.rfl w19 FrC.rfl ha (by omega) f17 rfl)
      · show Tn _ _ 49 T25 σ24 [(0, .ref a), (1, .int (iI dp)), (2, .int (iI i223))] [] _
        refine tn_iconst dX5_block_49 ?_
        exact tn_zret (v := 0) rfl (by decide) dX5_block_50 ⟨_, rfl, w27, ((FrC.rfl.trans (FrC.sub F20 (by decide))).trans (FrC.sub F28 (by decide))), by omega, (RP.up f31 (by omega))⟩
      · show Tn _ _ 57 T34 σ33 [(0, .ref a), (1, .int (iI dp)), (2, .int (iI i232))] [] _
        refine tn_aload_n dX5_block_57 rfl 0 rfl ?_
        refine tn_bipush dX5_block_58 (by decide) ?_
        refine tn_callV (M := m_X5_block) (pc := 60) (ix := 102) (ci := 5) (M' := m_X5_taken) (As := [.int (iI 125)]) (rest := []) dX5_block_60 ok_X5_taken im_X5_taken se_X5_taken ml5_102 np_X5_taken rfl rfl q38 rfl (Nat.le_of_ble_eq_true rfl) (Nat.le_of_ble_eq_true rfl) rfl (k_X5_taken (d + 3 * lv + 60) (T := T34) (σ := σ33) (a := a) (s := 125) (kp := kp - 4 * v18) q38 (by decide) w36 (by omega) (by omega) f40) (fun r41 T43 σ42 gt44 hp => ?_)
        obtain ⟨v47, rfl, rfl, w48, F49, f45, f46⟩ := hp
        clear gt44
        show Tn _ _ 63 T34 σ42 [(0, .ref a), (1, .int (iI dp)), (2, .int (iI i232))] [.int (iI v47)] _
        exact tn_zret (v := v47) rfl (by omega) dX5_block_63 ⟨_, rfl, w48, (((FrC.rfl.trans (FrC.sub F20 (by decide))).trans (FrC.sub F37 (by decide))).trans (FrC.sub (FrC.old F49 gt35) (by decide))), by omega, (RP.up f46 (by omega))⟩
    · refine tn_aload_n dX5_block_15 rfl 0 rfl ?_
      refine tn_callV (M := m_X5_block) (pc := 16) (ix := 90) (ci := 5) (M' := m_X5_refuse) (As := []) (rest := []) dX5_block_16 ok_X5_refuse im_X5_refuse se_X5_refuse ml5_90 np_X5_refuse rfl rfl ha rfl (Nat.le_of_ble_eq_true rfl) (Nat.le_of_ble_eq_true rfl) rfl (k_X5_refuse (d + 3 * lv + 61) (T := T) (σ := σ13) (a := a) ha w19 ) (fun r51 T53 σ52 gt54 hp => ?_)
      obtain ⟨v57, rfl, rfl, w58, F59, f55, f56⟩ := hp
      clear gt54
      have rp60 : RP σ52 a (kp - 4 * v18) := RP.frc f17 F59 (by decide) (by decide) (by decide) (by decide) (by decide)
      show Tn _ _ 19 T σ52 [(0, .ref a), (1, .int (iI dp))] [.int (iI v57)] _
      exact tn_zret (v := v57) rfl (by omega) dX5_block_19 ⟨_, rfl, w58, ((FrC.rfl.trans (FrC.sub F20 (by decide))).trans (FrC.sub F59 (by decide))), by omega, (RP.up rp60 (by omega))⟩
end
section
theorem lv_X5_block : ∀ (lv : Nat), ∀ (d : Nat) {T : CT} {σ : MS} {a : Nat} {dp : Int} {kp : Int} (ha : OB T a 5) (h_dp : -2147483648 ≤ dp ∧ dp ≤ 2147483647) (hw : WT T σ) (hdp : 0 ≤ dp ∧ dp ≤ 7) (hlv : 7 ≤ dp + (lv : Int)) (hkp : kp ≤ 140) (hrp : RP σ a kp), Tn (d + 3 * lv + 60) m_X5_block 0 T σ [(0, .ref a), (1, .int (iI dp))] [] (fun ro T2 σ2 => ∃ v : Int, ro = some (.int (iI v)) ∧ WT T2 σ2 ∧ FrC T [5, 6, 7, 9, 42, 43, 44, 45, 46, 47, 50, 51, 84, 85, 86, 87, 518, 519, 520, 521] σ σ2 ∧ (v = 0 ∨ v = 1) ∧ (RP σ2 a (kp + 2 - 10 * v))) := by
  intro lv
  induction lv with
  | zero =>
    intro d T σ a dp kp ha h_dp hw hdp hlv hkp hrp
    exact k_X5_block_0 d ha h_dp hw (by omega) hkp hrp
  | succ lv ih =>
    intro d T σ a dp kp ha h_dp hw hdp hlv hkp hrp
    have e : d + 3 * (lv + 1) + 60 = d + 3 * lv + 63 := by omega
    rw [e]
    exact k_X5_block_1 d (lv := lv) ha h_dp hw ih hdp (by omega) hkp hrp
theorem k_X5_block : ∀ (d : Nat) {T : CT} {σ : MS} {a : Nat} {dp : Int} {kp : Int} (ha : OB T a 5) (h_dp : -2147483648 ≤ dp ∧ dp ≤ 2147483647) (hw : WT T σ) (hdp : 1 ≤ dp ∧ dp ≤ 7) (hkp : kp ≤ 140) (hrp : RP σ a kp), Tn (d + 78) m_X5_block 0 T σ [(0, .ref a), (1, .int (iI dp))] [] (fun ro T2 σ2 => ∃ v : Int, ro = some (.int (iI v)) ∧ WT T2 σ2 ∧ FrC T [5, 6, 7, 9, 42, 43, 44, 45, 46, 47, 50, 51, 84, 85, 86, 87, 518, 519, 520, 521] σ σ2 ∧ (v = 0 ∨ v = 1) ∧ (RP σ2 a (kp + 2 - 10 * v))) := by
  intro d T σ a dp kp ha h_dp hw hdp hkp hrp
  have e : d + 78 = d + 3 * 6 + 60 := by omega
  rw [e]
  exact lv_X5_block 6 d ha h_dp hw (by omega) (by omega) hkp hrp
end
section
/-- the tokens stand well -/
def RT (σ : MS) (a : Nat) : Prop := ∀ t : Nat, σ.2.1 33 a = (t : Int) → TKI σ t
section RTS
variable {T : CT} {σ τ : MS} {a t c : Nat} {k : Int} {ks : List Nat}
theorem RT.of (ht : σ.2.1 33 a = (t : Int)) (h : TKI σ t) : RT σ a := fun t2 q => by
  have e : t2 = t := by omega
  rw [e]; exact h
theorem RP.rt (h : RP σ a k) (hw : WT T σ) (ha : OB T a 5) : RT σ a := fun t q => h.tk hw ha q
theorem RT.frc (h : RT σ a) (f : FrC T ks σ τ) (h1 : 33 ∉ ks) (h4 : 84 ∉ ks) (h5 : 85 ∉ ks) : RT τ a := fun t q => by
  rw [f.1 33 (by omega) h1] at q
  have w := h t q
  unfold TKI at *
  rw [f.1 84 (by omega) h4, f.1 85 (by omega) h5]
  exact w
theorem RP.new (ht : RT σ a) (hw : WT T σ) (ha : OB T a 5) (hc : σ.2.1 35 a = (c : Int)) (h6 : σ.2.1 6 c = 0) : RP σ a 4 := fun t c2 q r => by
  have e : c2 = c := by omega
  rw [e, h6]
  refine ⟨ht t q, ?_⟩
  obtain ⟨t2, ht2, hk2⟩ := wf_33 hw ha
  have e2 : t2 = t := by omega
  rw [e2] at hk2
  have ob : OB T t 9 := ⟨by omega, by rw [hk2]; rfl, by omega⟩
  have w := wf_84 hw ob
  omega
end RTS
end
section
theorem cd_X5_numberNew : Cond.code yX5_numberNew cX5_numberNew 3 none ∈ pWW := pw3 (List.mem_of_getElem? (i := 233) rfl) rfl
abbrev m_X5_numberNew : MT := (yX5_numberNew, cX5_numberNew, 3, none)
theorem ok_X5_numberNew : pOk m_X5_numberNew := ⟨⟨cd_X5_numberNew, ini_5⟩, by decide +kernel, ⟨by decide +kernel, by decide +kernel⟩, Nat.le_of_ble_eq_true rfl⟩
theorem np_X5_numberNew : (parseMethodDescriptor yX5_numberNew.desc).map (fun d => d.parameters.length) = some 1 := by decide +kernel
theorem im_X5_numberNew : Cond.instanceMethod yX5_numberNew ∈ pWW := pw3 (List.mem_of_getElem? (i := 232) rfl) rfl
theorem se_X5_numberNew : Cond.selects RX5 yX5_numberNew yX5_numberNew ∈ pWW := pws (List.mem_map.mpr ⟨_, lw_pin 32 rfl, rfl⟩) rfl
theorem ml5_161 : Cond.methodLink RX5 161 yX1_writtenBy ∈ pWW := pw3 (List.mem_of_getElem? (i := 234) rfl) rfl
theorem ml5_164 : Cond.methodLink RX5 164 yX1_get ∈ pWW := pw4 (List.mem_of_getElem? (i := 9) rfl) rfl
theorem ml5_167 : Cond.methodLink RX5 167 yX1_set ∈ pWW := pw4 (List.mem_of_getElem? (i := 10) rfl) rfl
theorem dX5_numberNew_0 : decode cX5_numberNew 0 = .ok (.aload_n 0, 1) := by decide +kernel
theorem dX5_numberNew_1 : decode cX5_numberNew 1 = .ok (.getfield 47, 3) := by decide +kernel
theorem dX5_numberNew_4 : decode cX5_numberNew 4 = .ok (.iload_n 1, 1) := by decide +kernel
theorem dX5_numberNew_5 : decode cX5_numberNew 5 = .ok (.invokevirtual 161, 3) := by decide +kernel
theorem dX5_numberNew_8 : decode cX5_numberNew 8 = .ok (.sipush 1000, 3) := by decide +kernel
theorem dX5_numberNew_11 : decode cX5_numberNew 11 = .ok (.if_icmp .lt 33, 3) := by decide +kernel
theorem dX5_numberNew_44 : decode cX5_numberNew 44 = .ok (.iconst 3, 1) := by decide +kernel
theorem dX5_numberNew_45 : decode cX5_numberNew 45 = .ok (.istore_n 2, 1) := by decide +kernel
theorem dX5_numberNew_46 : decode cX5_numberNew 46 = .ok (.iload_n 2, 1) := by decide +kernel
theorem dX5_numberNew_47 : decode cX5_numberNew 47 = .ok (.bipush 11, 2) := by decide +kernel
theorem dX5_numberNew_49 : decode cX5_numberNew 49 = .ok (.if_icmp .ge 73, 3) := by decide +kernel
theorem dX5_numberNew_52 : decode cX5_numberNew 52 = .ok (.aload_n 0, 1) := by decide +kernel
theorem dX5_numberNew_53 : decode cX5_numberNew 53 = .ok (.getfield 47, 3) := by decide +kernel
theorem dX5_numberNew_56 : decode cX5_numberNew 56 = .ok (.iload_n 1, 1) := by decide +kernel
theorem dX5_numberNew_57 : decode cX5_numberNew 57 = .ok (.iload_n 2, 1) := by decide +kernel
theorem dX5_numberNew_58 : decode cX5_numberNew 58 = .ok (.invokevirtual 164, 3) := by decide +kernel
theorem dX5_numberNew_61 : decode cX5_numberNew 61 = .ok (.iconst 2, 1) := by decide +kernel
theorem dX5_numberNew_62 : decode cX5_numberNew 62 = .ok (.if_icmp .ne 54, 3) := by decide +kernel
theorem dX5_numberNew_116 : decode cX5_numberNew 116 = .ok (.iinc 2 2, 3) := by decide +kernel
theorem dX5_numberNew_119 : decode cX5_numberNew 119 = .ok (.goto (-73), 3) := by decide +kernel
theorem dX5_numberNew_65 : decode cX5_numberNew 65 = .ok (.aload_n 0, 1) := by decide +kernel
theorem dX5_numberNew_66 : decode cX5_numberNew 66 = .ok (.getfield 47, 3) := by decide +kernel
theorem dX5_numberNew_69 : decode cX5_numberNew 69 = .ok (.iload_n 1, 1) := by decide +kernel
theorem dX5_numberNew_70 : decode cX5_numberNew 70 = .ok (.iload_n 2, 1) := by decide +kernel
theorem dX5_numberNew_71 : decode cX5_numberNew 71 = .ok (.iconst 1, 1) := by decide +kernel
theorem dX5_numberNew_72 : decode cX5_numberNew 72 = .ok (.iadd, 1) := by decide +kernel
theorem dX5_numberNew_73 : decode cX5_numberNew 73 = .ok (.invokevirtual 164, 3) := by decide +kernel
theorem dX5_numberNew_76 : decode cX5_numberNew 76 = .ok (.sipush 1000, 3) := by decide +kernel
theorem dX5_numberNew_79 : decode cX5_numberNew 79 = .ok (.if_icmp .lt 37, 3) := by decide +kernel
theorem dX5_numberNew_82 : decode cX5_numberNew 82 = .ok (.aload_n 0, 1) := by decide +kernel
theorem dX5_numberNew_83 : decode cX5_numberNew 83 = .ok (.getfield 47, 3) := by decide +kernel
theorem dX5_numberNew_86 : decode cX5_numberNew 86 = .ok (.iload_n 1, 1) := by decide +kernel
theorem dX5_numberNew_87 : decode cX5_numberNew 87 = .ok (.iload_n 2, 1) := by decide +kernel
theorem dX5_numberNew_88 : decode cX5_numberNew 88 = .ok (.iconst 1, 1) := by decide +kernel
theorem dX5_numberNew_89 : decode cX5_numberNew 89 = .ok (.iadd, 1) := by decide +kernel
theorem dX5_numberNew_90 : decode cX5_numberNew 90 = .ok (.aload_n 0, 1) := by decide +kernel
theorem dX5_numberNew_91 : decode cX5_numberNew 91 = .ok (.getfield 47, 3) := by decide +kernel
theorem dX5_numberNew_94 : decode cX5_numberNew 94 = .ok (.iload_n 1, 1) := by decide +kernel
theorem dX5_numberNew_95 : decode cX5_numberNew 95 = .ok (.iload_n 2, 1) := by decide +kernel
theorem dX5_numberNew_96 : decode cX5_numberNew 96 = .ok (.iconst 1, 1) := by decide +kernel
theorem dX5_numberNew_97 : decode cX5_numberNew 97 = .ok (.iadd, 1) := by decide +kernel
theorem dX5_numberNew_98 : decode cX5_numberNew 98 = .ok (.invokevirtual 164, 3) := by decide +kernel
theorem dX5_numberNew_101 : decode cX5_numberNew 101 = .ok (.sipush 1000, 3) := by decide +kernel
theorem dX5_numberNew_104 : decode cX5_numberNew 104 = .ok (.isub, 1) := by decide +kernel
theorem dX5_numberNew_105 : decode cX5_numberNew 105 = .ok (.aload_n 0, 1) := by decide +kernel
theorem dX5_numberNew_106 : decode cX5_numberNew 106 = .ok (.getfield 47, 3) := by decide +kernel
theorem dX5_numberNew_109 : decode cX5_numberNew 109 = .ok (.getfield 152, 3) := by decide +kernel
theorem dX5_numberNew_112 : decode cX5_numberNew 112 = .ok (.iadd, 1) := by decide +kernel
theorem dX5_numberNew_113 : decode cX5_numberNew 113 = .ok (.invokevirtual 167, 3) := by decide +kernel
set_option maxRecDepth 20000 in
theorem l_X5_numberNew_46 (d : Nat) {T : CT} {σ0 : MS} {a : Nat} {c1 : Int} {post : Option Value → CT → MS → Prop} (h_a : OB T a 5) (r_c1 : -2147483648 ≤ c1 ∧ c1 ≤ 2147483647) (hw0 : WT T σ0) (hx_122 : ∀ (i2 : Int) (σ : MS) , (WT T σ) → (FrC T [] σ0 σ) → (3 ≤ i2 ∧ i2 ≤ 2147483647) → Tn (d + 3) m_X5_numberNew 122 T σ [(0, .ref a), (1, .int (iI c1)), (2, .int (iI i2))] [] post) : ∀ (n : Nat) (i2 : Int) (σ : MS) , (WT T σ) → (FrC T [] σ0 σ) → (3 ≤ i2 ∧ i2 ≤ 2147483647) → (2147483700 - i2).toNat = n → Tn (d + 3) m_X5_numberNew 46 T σ [(0, .ref a), (1, .int (iI c1)), (2, .int (iI i2))] [] post := by
  intro n
  induction n using Nat.strongRecOn with
  | _ n ih =>
    intro i2 σ hw hF r_i2 hm
    refine tn_iload_n dX5_numberNew_46 rfl 2 rfl ?_
    refine tn_bipush dX5_numberNew_47 (by decide) ?_
    refine tn_icmp_ge (tgt := 122) dX5_numberNew_49 (by decide) ⟨by omega, by omega⟩ ⟨by decide, by decide⟩ (fun h1 => ?_) (fun h1 => ?_)
    · exact tn_sub [0, 1, 2] rfl (hx_122 (i2) σ hw (FrC.rfl.trans (FrC.sub hF (by decide))) (by omega))
    · refine tn_aload_n dX5_numberNew_52 rfl 0 rfl ?_
      obtain ⟨x2, hx3, hk4⟩ : ∃ x : Nat, σ0.2.1 35 a = (x : Int) ∧ (T x).1 = 31 := wf_35 hw0 h_a
      have hk4o : OB T x2 1 := ⟨by omega, by rw [hk4]; rfl, by omega⟩
      refine tn_getR (ci := 5) (i := 2) (n := 35) (x := x2) dX5_numberNew_53 rfl lay_5 (by decide) fl5_47 h_a rfl rfl (rc_F hF (Or.inl (by decide)) (by decide) (hx3)) ?_
      refine tn_iload_n dX5_numberNew_56 rfl 1 rfl ?_
      refine tn_iload_n dX5_numberNew_57 rfl 2 rfl ?_
      refine tn_callV (M := m_X5_numberNew) (pc := 58) (ix := 164) (ci := 1) (M' := m_X1_get) (As := [.int (iI c1), .int (iI i2)]) (rest := []) dX5_numberNew_58 ok_X1_get im_X1_get se_X1_get ml5_164 np_X1_get rfl rfl hk4o rfl (Nat.le_of_ble_eq_true rfl) (Nat.le_of_ble_eq_true rfl) rfl (k_X1_get (d + 1) (T := T) (σ := σ) (a := x2) (k := c1) (c := i2) hk4o (by omega) (by omega) hw (by omega)) (fun r6 T8 σ7 gt9 hp => ?_)
      obtain ⟨v11, rfl, rfl, rfl, f10⟩ := hp
      clear gt9
      show Tn _ _ 61 T σ [(0, .ref a), (1, .int (iI c1)), (2, .int (iI i2))] [.int (iI v11)] _
      refine tn_iconst dX5_numberNew_61 ?_
      refine tn_icmp_ne (tgt := 116) dX5_numberNew_62 (by decide) ⟨by omega, by omega⟩ ⟨by decide, by decide⟩ (fun h12 => ?_) (fun h12 => ?_)
      · refine tn_iinc (q0 := 2) (L' := [(2, .int (iI (i2 + 2))), (0, .ref a), (1, .int (iI c1))]) dX5_numberNew_116 rfl (by decide) rfl ?_
        refine tn_goto (tgt := 46) dX5_numberNew_119 (by decide) ?_
        exact tn_sub [1, 2, 0] rfl (ih _ (by omega) (i2 + 2) σ hw (FrC.rfl.trans (FrC.sub hF (by decide))) (by omega) rfl)
      · refine tn_aload_n dX5_numberNew_65 rfl 0 rfl ?_
        refine tn_getR (ci := 5) (i := 2) (n := 35) (x := x2) dX5_numberNew_66 rfl lay_5 (by decide) fl5_47 h_a rfl rfl (rc_F hF (Or.inl (by decide)) (by decide) (hx3)) ?_
        refine tn_iload_n dX5_numberNew_69 rfl 1 rfl ?_
        refine tn_iload_n dX5_numberNew_70 rfl 2 rfl ?_
        refine tn_iconst dX5_numberNew_71 ?_
        refine tn_iadd dX5_numberNew_72 ?_
        refine tn_callV (M := m_X5_numberNew) (pc := 73) (ix := 164) (ci := 1) (M' := m_X1_get) (As := [.int (iI c1), .int (iI (i2 + 1))]) (rest := []) dX5_numberNew_73 ok_X1_get im_X1_get se_X1_get ml5_164 np_X1_get rfl rfl hk4o rfl (Nat.le_of_ble_eq_true rfl) (Nat.le_of_ble_eq_true rfl) rfl (k_X1_get (d + 1) (T := T) (σ := σ) (a := x2) (k := c1) (c := i2 + 1) hk4o (by omega) (by omega) hw (by omega)) (fun r13 T15 σ14 gt16 hp => ?_)
        obtain ⟨v18, rfl, rfl, rfl, f17⟩ := hp
        clear gt16
        show Tn _ _ 76 T σ [(0, .ref a), (1, .int (iI c1)), (2, .int (iI i2))] [.int (iI v18)] _
        refine tn_sipush dX5_numberNew_76 (by decide) ?_
        refine tn_icmp_lt (tgt := 116) dX5_numberNew_79 (by decide) ⟨by omega, by omega⟩ ⟨by decide, by decide⟩ (fun h19 => ?_) (fun h19 => ?_)
        · refine tn_iinc (q0 := 2) (L' := [(2, .int (iI (i2 + 2))), (0, .ref a), (1, .int (iI c1))]) dX5_numberNew_116 rfl (by decide) rfl ?_
          refine tn_goto (tgt := 46) dX5_numberNew_119 (by decide) ?_
          exact tn_sub [1, 2, 0] rfl (ih _ (by omega) (i2 + 2) σ hw (FrC.rfl.trans (FrC.sub hF (by decide))) (by omega) rfl)
        · refine tn_aload_n dX5_numberNew_82 rfl 0 rfl ?_
          refine tn_getR (ci := 5) (i := 2) (n := 35) (x := x2) dX5_numberNew_83 rfl lay_5 (by decide) fl5_47 h_a rfl rfl (rc_F hF (Or.inl (by decide)) (by decide) (hx3)) ?_
          refine tn_iload_n dX5_numberNew_86 rfl 1 rfl ?_
          refine tn_iload_n dX5_numberNew_87 rfl 2 rfl ?_
          refine tn_iconst dX5_numberNew_88 ?_
          refine tn_iadd dX5_numberNew_89 ?_
          refine tn_aload_n dX5_numberNew_90 rfl 0 rfl ?_
          refine tn_getR (ci := 5) (i := 2) (n := 35) (x := x2) dX5_numberNew_91 rfl lay_5 (by decide) fl5_47 h_a rfl rfl (rc_F hF (Or.inl (by decide)) (by decide) (hx3)) ?_
          refine tn_iload_n dX5_numberNew_94 rfl 1 rfl ?_
          refine tn_iload_n dX5_numberNew_95 rfl 2 rfl ?_
          refine tn_iconst dX5_numberNew_96 ?_
          refine tn_iadd dX5_numberNew_97 ?_
          refine tn_callV (M := m_X5_numberNew) (pc := 98) (ix := 164) (ci := 1) (M' := m_X1_get) (As := [.int (iI c1), .int (iI (i2 + 1))]) (rest := [.int (iI (i2 + 1)), .int (iI c1), .ref x2]) dX5_numberNew_98 ok_X1_get im_X1_get se_X1_get ml5_164 np_X1_get rfl rfl hk4o rfl (Nat.le_of_ble_eq_true rfl) (Nat.le_of_ble_eq_true rfl) rfl (k_X1_get (d + 1) (T := T) (σ := σ) (a := x2) (k := c1) (c := i2 + 1) hk4o (by omega) (by omega) hw (by omega)) (fun r20 T22 σ21 gt23 hp => ?_)
          obtain ⟨v25, rfl, rfl, rfl, f24⟩ := hp
          clear gt23
          show Tn _ _ 101 T σ [(0, .ref a), (1, .int (iI c1)), (2, .int (iI i2))] [.int (iI v25), .int (iI (i2 + 1)), .int (iI c1), .ref x2] _
          refine tn_sipush dX5_numberNew_101 (by decide) ?_
          refine tn_isub dX5_numberNew_104 ?_
          refine tn_any (fun z26 g27 => ?_)
          have g27r : -2147483648 ≤ z26 ∧ z26 ≤ 2147483647 := g27
          refine tn_aload_n dX5_numberNew_105 rfl 0 rfl ?_
          refine tn_getR (ci := 5) (i := 2) (n := 35) (x := x2) dX5_numberNew_106 rfl lay_5 (by decide) fl5_47 h_a rfl rfl (rc_F hF (Or.inl (by decide)) (by decide) (hx3)) ?_
          refine tn_getI (ci := 1) (i := 2) (n := 7) (t := σ0.2.1 7 x2) dX5_numberNew_109 rfl lay_1 (by decide) fl5_152 hk4o rfl rfl (rc_F hF (Or.inl (by decide)) (by decide) (rfl)) ?_
          have g28 : ((0 : Int) ≤ σ0.2.1 7 x2 ∧ σ0.2.1 7 x2 ≤ 12) := wf_7 hw0 hk4o
          refine tn_iadd dX5_numberNew_112 ?_
          refine tn_any (fun z29 g30 => ?_)
          have g30r : -2147483648 ≤ z29 ∧ z29 ≤ 2147483647 := g30
          refine tn_callV (M := m_X5_numberNew) (pc := 113) (ix := 167) (ci := 1) (M' := m_X1_set) (As := [.int (iI c1), .int (iI (i2 + 1)), .int (iI z29)]) (rest := []) dX5_numberNew_113 ok_X1_set im_X1_set se_X1_set ml5_167 np_X1_set rfl rfl hk4o rfl (Nat.le_of_ble_eq_true rfl) (Nat.le_of_ble_eq_true rfl) rfl (k_X1_set (d + 1) (T := T) (σ := σ) (a := x2) (k := c1) (c := i2 + 1) (y := z29) hk4o (by omega) (by omega) (by omega) hw (by omega) (by omega)) (fun r31 T33 σ32 gt34 hp => ?_)
          obtain ⟨rfl, rfl, w36, F37⟩ := hp
          clear gt34
          show Tn _ _ 116 T σ32 [(0, .ref a), (1, .int (iI c1)), (2, .int (iI i2))] [] _
          refine tn_iinc (q0 := 2) (L' := [(2, .int (iI (i2 + 2))), (0, .ref a), (1, .int (iI c1))]) dX5_numberNew_116 rfl (by decide) rfl ?_
          refine tn_goto (tgt := 46) dX5_numberNew_119 (by decide) ?_
          exact tn_sub [1, 2, 0] rfl (ih _ (by omega) (i2 + 2) σ32 w36 ((FrC.rfl.trans (FrC.sub hF (by decide))).trans (FrC.sub F37 (by decide))) (by omega) rfl)
theorem dX5_numberNew_122 : decode cX5_numberNew 122 = .ok (.return_, 1) := by decide +kernel
theorem dX5_numberNew_14 : decode cX5_numberNew 14 = .ok (.aload_n 0, 1) := by decide +kernel
theorem dX5_numberNew_15 : decode cX5_numberNew 15 = .ok (.getfield 47, 3) := by decide +kernel
theorem dX5_numberNew_18 : decode cX5_numberNew 18 = .ok (.iload_n 1, 1) := by decide +kernel
theorem dX5_numberNew_19 : decode cX5_numberNew 19 = .ok (.iconst 1, 1) := by decide +kernel
theorem dX5_numberNew_20 : decode cX5_numberNew 20 = .ok (.aload_n 0, 1) := by decide +kernel
theorem dX5_numberNew_21 : decode cX5_numberNew 21 = .ok (.getfield 47, 3) := by decide +kernel
theorem dX5_numberNew_24 : decode cX5_numberNew 24 = .ok (.iload_n 1, 1) := by decide +kernel
theorem dX5_numberNew_25 : decode cX5_numberNew 25 = .ok (.iconst 1, 1) := by decide +kernel
theorem dX5_numberNew_26 : decode cX5_numberNew 26 = .ok (.invokevirtual 164, 3) := by decide +kernel
theorem dX5_numberNew_29 : decode cX5_numberNew 29 = .ok (.sipush 1000, 3) := by decide +kernel
theorem dX5_numberNew_32 : decode cX5_numberNew 32 = .ok (.isub, 1) := by decide +kernel
theorem dX5_numberNew_33 : decode cX5_numberNew 33 = .ok (.aload_n 0, 1) := by decide +kernel
theorem dX5_numberNew_34 : decode cX5_numberNew 34 = .ok (.getfield 47, 3) := by decide +kernel
theorem dX5_numberNew_37 : decode cX5_numberNew 37 = .ok (.getfield 152, 3) := by decide +kernel
theorem dX5_numberNew_40 : decode cX5_numberNew 40 = .ok (.iadd, 1) := by decide +kernel
theorem dX5_numberNew_41 : decode cX5_numberNew 41 = .ok (.invokevirtual 167, 3) := by decide +kernel
set_option maxRecDepth 20000 in
theorem k_X5_numberNew (d : Nat) {T : CT} {σ : MS} {a : Nat} {k : Int} (ha : OB T a 5) (h_k : -2147483648 ≤ k ∧ k ≤ 2147483647) (hw : WT T σ) : Tn (d + 3) m_X5_numberNew 0 T σ [(0, .ref a), (1, .int (iI k))] [] (fun ro T2 σ2 => ro = none ∧ T = T2 ∧ WT T2 σ2 ∧ FrC T [] σ σ2) := by
  refine tn_aload_n dX5_numberNew_0 rfl 0 rfl ?_
  obtain ⟨x1, hx2, hk3⟩ : ∃ x : Nat, σ.2.1 35 a = (x : Int) ∧ (T x).1 = 31 := wf_35 hw ha
  have hk3o : OB T x1 1 := ⟨by omega, by rw [hk3]; rfl, by omega⟩
  refine tn_getR (ci := 5) (i := 2) (n := 35) (x := x1) dX5_numberNew_1 rfl lay_5 (by decide) fl5_47 ha rfl rfl (hx2) ?_
  refine tn_iload_n dX5_numberNew_4 rfl 1 rfl ?_
  refine tn_callV (M := m_X5_numberNew) (pc := 5) (ix := 161) (ci := 1) (M' := m_X1_writtenBy) (As := [.int (iI k)]) (rest := []) dX5_numberNew_5 ok_X1_writtenBy im_X1_writtenBy se_X1_writtenBy ml5_161 np_X1_writtenBy rfl rfl hk3o rfl (Nat.le_of_ble_eq_true rfl) (Nat.le_of_ble_eq_true rfl) rfl (k_X1_writtenBy (d) (T := T) (σ := σ) (a := x1) (k := k) hk3o (by omega) hw ) (fun r5 T7 σ6 gt8 hp => ?_)
  obtain ⟨v10, rfl, rfl, rfl, f9⟩ := hp
  clear gt8
  show Tn _ _ 8 T σ [(0, .ref a), (1, .int (iI k))] [.int (iI v10)] _
  refine tn_sipush dX5_numberNew_8 (by decide) ?_
  refine tn_icmp_lt (tgt := 44) dX5_numberNew_11 (by decide) ⟨by omega, by omega⟩ ⟨by decide, by decide⟩ (fun h11 => ?_) (fun h11 => ?_)
  · refine tn_iconst dX5_numberNew_44 ?_
    refine tn_istore_n (L' := [(2, .int (iI 3)), (0, .ref a), (1, .int (iI k))]) dX5_numberNew_45 rfl (by decide) rfl ?_
    refine tn_sub [1, 2, 0] rfl (l_X5_numberNew_46 (d) (T := T) (σ0 := σ) (a := a) (c1 := k) ha (by omega) hw (fun i212 σ13 w16 F17 r18 => ?_) _ (3) σ hw FrC.rfl (by omega) rfl)
    show Tn _ _ 122 T σ13 [(0, .ref a), (1, .int (iI k)), (2, .int (iI i212))] [] _
    exact tn_vret rfl dX5_numberNew_122 ⟨rfl, rfl, w16, (FrC.rfl.trans (FrC.sub F17 (by decide)))⟩
  · refine tn_aload_n dX5_numberNew_14 rfl 0 rfl ?_
    refine tn_getR (ci := 5) (i := 2) (n := 35) (x := x1) dX5_numberNew_15 rfl lay_5 (by decide) fl5_47 ha rfl rfl (hx2) ?_
    refine tn_iload_n dX5_numberNew_18 rfl 1 rfl ?_
    refine tn_iconst dX5_numberNew_19 ?_
    refine tn_aload_n dX5_numberNew_20 rfl 0 rfl ?_
    refine tn_getR (ci := 5) (i := 2) (n := 35) (x := x1) dX5_numberNew_21 rfl lay_5 (by decide) fl5_47 ha rfl rfl (hx2) ?_
    refine tn_iload_n dX5_numberNew_24 rfl 1 rfl ?_
    refine tn_iconst dX5_numberNew_25 ?_
    refine tn_callV (M := m_X5_numberNew) (pc := 26) (ix := 164) (ci := 1) (M' := m_X1_get) (As := [.int (iI k), .int (iI 1)]) (rest := [.int (iI 1), .int (iI k), .ref x1]) dX5_numberNew_26 ok_X1_get im_X1_get se_X1_get ml5_164 np_X1_get rfl rfl hk3o rfl (Nat.le_of_ble_eq_true rfl) (Nat.le_of_ble_eq_true rfl) rfl (k_X1_get (d + 1) (T := T) (σ := σ) (a := x1) (k := k) (c := 1) hk3o (by omega) (by decide) hw (by omega)) (fun r19 T21 σ20 gt22 hp => ?_)
    obtain ⟨v24, rfl, rfl, rfl, f23⟩ := hp
    clear gt22
    show Tn _ _ 29 T σ [(0, .ref a), (1, .int (iI k))] [.int (iI v24), .int (iI 1), .int (iI k), .ref x1] _
    refine tn_sipush dX5_numberNew_29 (by decide) ?_
    refine tn_isub dX5_numberNew_32 ?_
    refine tn_any (fun z25 g26 => ?_)
    have g26r : -2147483648 ≤ z25 ∧ z25 ≤ 2147483647 := g26
    refine tn_aload_n dX5_numberNew_33 rfl 0 rfl ?_
    refine tn_getR (ci := 5) (i := 2) (n := 35) (x := x1) dX5_numberNew_34 rfl lay_5 (by decide) fl5_47 ha rfl rfl (hx2) ?_
    refine tn_getI (ci := 1) (i := 2) (n := 7) (t := σ.2.1 7 x1) dX5_numberNew_37 rfl lay_1 (by decide) fl5_152 hk3o rfl rfl (rfl) ?_
    have g27 : ((0 : Int) ≤ σ.2.1 7 x1 ∧ σ.2.1 7 x1 ≤ 12) := wf_7 hw hk3o
    refine tn_iadd dX5_numberNew_40 ?_
    refine tn_any (fun z28 g29 => ?_)
    have g29r : -2147483648 ≤ z28 ∧ z28 ≤ 2147483647 := g29
    refine tn_callV (M := m_X5_numberNew) (pc := 41) (ix := 167) (ci := 1) (M' := m_X1_set) (As := [.int (iI k), .int (iI 1), .int (iI z28)]) (rest := []) dX5_numberNew_41 ok_X1_set im_X1_set se_X1_set ml5_167 np_X1_set rfl rfl hk3o rfl (Nat.le_of_ble_eq_true rfl) (Nat.le_of_ble_eq_true rfl) rfl (k_X1_set (d + 1) (T := T) (σ := σ) (a := x1) (k := k) (c := 1) (y := z28) hk3o (by omega) (by decide) (by omega) hw (by omega) (by omega)) (fun r30 T32 σ31 gt33 hp => ?_)
    obtain ⟨rfl, rfl, w35, F36⟩ := hp
    clear gt33
    show Tn _ _ 44 T σ31 [(0, .ref a), (1, .int (iI k))] [] _
    refine tn_iconst dX5_numberNew_44 ?_
    refine tn_istore_n (L' := [(2, .int (iI 3)), (0, .ref a), (1, .int (iI k))]) dX5_numberNew_45 rfl (by decide) rfl ?_
    refine tn_sub [1, 2, 0] rfl (l_X5_numberNew_46 (d) (T := T) (σ0 := σ31) (a := a) (c1 := k) ha (by omega) w35 (fun i237 σ38 w41 F42 r43 => ?_) _ (3) σ31 w35 FrC.rfl (by omega) rfl)
    show Tn _ _ 122 T σ38 [(0, .ref a), (1, .int (iI k)), (2, .int (iI i237))] [] _
    exact tn_vret rfl dX5_numberNew_122 ⟨rfl, rfl, w41, ((FrC.rfl.trans (FrC.sub F36 (by decide))).trans (FrC.sub F42 (by decide)))⟩
end
section
theorem cd_X5_openRoutine : Cond.code yX5_openRoutine cX5_openRoutine 3 none ∈ pWW := pw3 (List.mem_of_getElem? (i := 72) rfl) rfl
abbrev m_X5_openRoutine : MT := (yX5_openRoutine, cX5_openRoutine, 3, none)
theorem ok_X5_openRoutine : pOk m_X5_openRoutine := ⟨⟨cd_X5_openRoutine, ini_5⟩, by decide +kernel, ⟨by decide +kernel, by decide +kernel⟩, Nat.le_of_ble_eq_true rfl⟩
theorem np_X5_openRoutine : (parseMethodDescriptor yX5_openRoutine.desc).map (fun d => d.parameters.length) = some 1 := by decide +kernel
theorem im_X5_openRoutine : Cond.instanceMethod yX5_openRoutine ∈ pWW := pw3 (List.mem_of_getElem? (i := 71) rfl) rfl
theorem se_X5_openRoutine : Cond.selects RX5 yX5_openRoutine yX5_openRoutine ∈ pWW := pws (List.mem_map.mpr ⟨_, lw_pin 6 rfl, rfl⟩) rfl
theorem ml5_109 : Cond.methodLink RX5 109 yX5_routineOf ∈ pWW := pw3 (List.mem_of_getElem? (i := 73) rfl) rfl
theorem mlm5_123 : Cond.methodLink RX5 123 Lib.Math.max.name ∈ pWW := pw3 (List.mem_of_getElem? (i := 85) rfl) rfl
theorem ml5_126 : Cond.methodLink RX5 126 yX1_empty ∈ pWW := pw3 (List.mem_of_getElem? (i := 86) rfl) rfl
theorem fl5_28 : Cond.fieldLink RX5 28 (TX5 4).1 (TX5 4).2.1 (TX5 4).2.2.1 ∈ pWW := pw1 (List.mem_of_getElem? (i := 157) rfl) rfl
theorem dX5_openRoutine_0 : decode cX5_openRoutine 0 = .ok (.aload_n 0, 1) := by decide +kernel
theorem dX5_openRoutine_1 : decode cX5_openRoutine 1 = .ok (.iload_n 1, 1) := by decide +kernel
theorem dX5_openRoutine_2 : decode cX5_openRoutine 2 = .ok (.invokevirtual 109, 3) := by decide +kernel
theorem dX5_openRoutine_5 : decode cX5_openRoutine 5 = .ok (.iconst (-1), 1) := by decide +kernel
theorem dX5_openRoutine_6 : decode cX5_openRoutine 6 = .ok (.if_icmp .eq 15, 3) := by decide +kernel
theorem dX5_openRoutine_21 : decode cX5_openRoutine 21 = .ok (.aload_n 0, 1) := by decide +kernel
theorem dX5_openRoutine_22 : decode cX5_openRoutine 22 = .ok (.getfield 58, 3) := by decide +kernel
theorem dX5_openRoutine_25 : decode cX5_openRoutine 25 = .ok (.bipush 6, 2) := by decide +kernel
theorem dX5_openRoutine_27 : decode cX5_openRoutine 27 = .ok (.if_icmp .lt 15, 3) := by decide +kernel
theorem dX5_openRoutine_42 : decode cX5_openRoutine 42 = .ok (.iconst 0, 1) := by decide +kernel
theorem dX5_openRoutine_43 : decode cX5_openRoutine 43 = .ok (.aload_n 0, 1) := by decide +kernel
theorem dX5_openRoutine_44 : decode cX5_openRoutine 44 = .ok (.getfield 58, 3) := by decide +kernel
theorem dX5_openRoutine_47 : decode cX5_openRoutine 47 = .ok (.aload_n 0, 1) := by decide +kernel
theorem dX5_openRoutine_48 : decode cX5_openRoutine 48 = .ok (.getfield 20, 3) := by decide +kernel
theorem dX5_openRoutine_51 : decode cX5_openRoutine 51 = .ok (.arraylength, 1) := by decide +kernel
theorem dX5_openRoutine_52 : decode cX5_openRoutine 52 = .ok (.iconst 1, 1) := by decide +kernel
theorem dX5_openRoutine_53 : decode cX5_openRoutine 53 = .ok (.isub, 1) := by decide +kernel
theorem dX5_openRoutine_54 : decode cX5_openRoutine 54 = .ok (.invokestatic 117, 3) := by decide +kernel
theorem dX5_openRoutine_57 : decode cX5_openRoutine 57 = .ok (.invokestatic 123, 3) := by decide +kernel
theorem dX5_openRoutine_60 : decode cX5_openRoutine 60 = .ok (.istore_n 2, 1) := by decide +kernel
theorem dX5_openRoutine_61 : decode cX5_openRoutine 61 = .ok (.aload_n 0, 1) := by decide +kernel
theorem dX5_openRoutine_62 : decode cX5_openRoutine 62 = .ok (.aload_n 0, 1) := by decide +kernel
theorem dX5_openRoutine_63 : decode cX5_openRoutine 63 = .ok (.getfield 20, 3) := by decide +kernel
theorem dX5_openRoutine_66 : decode cX5_openRoutine 66 = .ok (.iload_n 2, 1) := by decide +kernel
theorem dX5_openRoutine_67 : decode cX5_openRoutine 67 = .ok (.aaload, 1) := by decide +kernel
theorem dX5_openRoutine_68 : decode cX5_openRoutine 68 = .ok (.putfield 47, 3) := by decide +kernel
theorem dX5_openRoutine_71 : decode cX5_openRoutine 71 = .ok (.aload_n 0, 1) := by decide +kernel
theorem dX5_openRoutine_72 : decode cX5_openRoutine 72 = .ok (.getfield 47, 3) := by decide +kernel
theorem dX5_openRoutine_75 : decode cX5_openRoutine 75 = .ok (.iload_n 2, 1) := by decide +kernel
theorem dX5_openRoutine_76 : decode cX5_openRoutine 76 = .ok (.invokevirtual 126, 3) := by decide +kernel
theorem dX5_openRoutine_79 : decode cX5_openRoutine 79 = .ok (.aload_n 0, 1) := by decide +kernel
theorem dX5_openRoutine_80 : decode cX5_openRoutine 80 = .ok (.getfield 24, 3) := by decide +kernel
theorem dX5_openRoutine_83 : decode cX5_openRoutine 83 = .ok (.aload_n 0, 1) := by decide +kernel
theorem dX5_openRoutine_84 : decode cX5_openRoutine 84 = .ok (.getfield 58, 3) := by decide +kernel
theorem dX5_openRoutine_87 : decode cX5_openRoutine 87 = .ok (.iload_n 1, 1) := by decide +kernel
theorem dX5_openRoutine_88 : decode cX5_openRoutine 88 = .ok (.invokestatic 129, 3) := by decide +kernel
theorem dX5_openRoutine_91 : decode cX5_openRoutine 91 = .ok (.aload_n 0, 1) := by decide +kernel
theorem dX5_openRoutine_92 : decode cX5_openRoutine 92 = .ok (.getfield 28, 3) := by decide +kernel
theorem dX5_openRoutine_95 : decode cX5_openRoutine 95 = .ok (.aload_n 0, 1) := by decide +kernel
theorem dX5_openRoutine_96 : decode cX5_openRoutine 96 = .ok (.getfield 58, 3) := by decide +kernel
theorem dX5_openRoutine_99 : decode cX5_openRoutine 99 = .ok (.iconst 0, 1) := by decide +kernel
theorem dX5_openRoutine_100 : decode cX5_openRoutine 100 = .ok (.invokestatic 129, 3) := by decide +kernel
theorem dX5_openRoutine_103 : decode cX5_openRoutine 103 = .ok (.aload_n 0, 1) := by decide +kernel
theorem dX5_openRoutine_104 : decode cX5_openRoutine 104 = .ok (.aload_n 0, 1) := by decide +kernel
theorem dX5_openRoutine_105 : decode cX5_openRoutine 105 = .ok (.getfield 58, 3) := by decide +kernel
theorem dX5_openRoutine_108 : decode cX5_openRoutine 108 = .ok (.iconst 1, 1) := by decide +kernel
theorem dX5_openRoutine_109 : decode cX5_openRoutine 109 = .ok (.iadd, 1) := by decide +kernel
theorem dX5_openRoutine_110 : decode cX5_openRoutine 110 = .ok (.sipush 256, 3) := by decide +kernel
theorem dX5_openRoutine_113 : decode cX5_openRoutine 113 = .ok (.invokestatic 117, 3) := by decide +kernel
theorem dX5_openRoutine_116 : decode cX5_openRoutine 116 = .ok (.putfield 58, 3) := by decide +kernel
theorem dX5_openRoutine_119 : decode cX5_openRoutine 119 = .ok (.aload_n 0, 1) := by decide +kernel
theorem dX5_openRoutine_120 : decode cX5_openRoutine 120 = .ok (.iconst 0, 1) := by decide +kernel
theorem dX5_openRoutine_121 : decode cX5_openRoutine 121 = .ok (.putfield 133, 3) := by decide +kernel
theorem dX5_openRoutine_124 : decode cX5_openRoutine 124 = .ok (.aload_n 0, 1) := by decide +kernel
theorem dX5_openRoutine_125 : decode cX5_openRoutine 125 = .ok (.iconst 0, 1) := by decide +kernel
theorem dX5_openRoutine_126 : decode cX5_openRoutine 126 = .ok (.putfield 136, 3) := by decide +kernel
theorem dX5_openRoutine_129 : decode cX5_openRoutine 129 = .ok (.return_, 1) := by decide +kernel
theorem dX5_openRoutine_30 : decode cX5_openRoutine 30 = .ok (.aload_n 0, 1) := by decide +kernel
theorem dX5_openRoutine_31 : decode cX5_openRoutine 31 = .ok (.iconst 5, 1) := by decide +kernel
theorem dX5_openRoutine_32 : decode cX5_openRoutine 32 = .ok (.aload_n 0, 1) := by decide +kernel
theorem dX5_openRoutine_33 : decode cX5_openRoutine 33 = .ok (.getfield 12, 3) := by decide +kernel
theorem dX5_openRoutine_36 : decode cX5_openRoutine 36 = .ok (.getfield 74, 3) := by decide +kernel
theorem dX5_openRoutine_39 : decode cX5_openRoutine 39 = .ok (.invokevirtual 113, 3) := by decide +kernel
theorem dX5_openRoutine_9 : decode cX5_openRoutine 9 = .ok (.aload_n 0, 1) := by decide +kernel
theorem dX5_openRoutine_10 : decode cX5_openRoutine 10 = .ok (.iconst 2, 1) := by decide +kernel
theorem dX5_openRoutine_11 : decode cX5_openRoutine 11 = .ok (.aload_n 0, 1) := by decide +kernel
theorem dX5_openRoutine_12 : decode cX5_openRoutine 12 = .ok (.getfield 12, 3) := by decide +kernel
theorem dX5_openRoutine_15 : decode cX5_openRoutine 15 = .ok (.getfield 74, 3) := by decide +kernel
theorem dX5_openRoutine_18 : decode cX5_openRoutine 18 = .ok (.invokevirtual 113, 3) := by decide +kernel
set_option maxRecDepth 20000 in
theorem k_X5_openRoutine (d : Nat) {T : CT} {σ : MS} {a : Nat} {k : Int} (ha : OB T a 5) (h_k : -2147483648 ≤ k ∧ k ≤ 2147483647) (hw : WT T σ) (hrt : RT σ a) : Tn (d + 3) m_X5_openRoutine 0 T σ [(0, .ref a), (1, .int (iI k))] [] (fun ro T2 σ2 => ro = none ∧ T = T2 ∧ WT T2 σ2 ∧ FrC T [6, 7, 8, 9, 10, 35, 38, 43, 44, 46, 47, 516, 517] σ σ2 ∧ (RP σ2 a 4)) := by
  refine tn_aload_n dX5_openRoutine_0 rfl 0 rfl ?_
  refine tn_iload_n dX5_openRoutine_1 rfl 1 rfl ?_
  refine tn_callV (M := m_X5_openRoutine) (pc := 2) (ix := 109) (ci := 5) (M' := m_X5_routineOf) (As := [.int (iI k)]) (rest := []) dX5_openRoutine_2 ok_X5_routineOf im_X5_routineOf se_X5_routineOf ml5_109 np_X5_routineOf rfl rfl ha rfl (Nat.le_of_ble_eq_true rfl) (Nat.le_of_ble_eq_true rfl) rfl (k_X5_routineOf (d) (T := T) (σ := σ) (a := a) (k := k) ha (by omega) hw ) (fun r1 T3 σ2 gt4 hp => ?_)
  obtain ⟨v6, rfl, rfl, rfl, f5⟩ := hp
  clear gt4
  show Tn _ _ 5 T σ [(0, .ref a), (1, .int (iI k))] [.int (iI v6)] _
  refine tn_iconst dX5_openRoutine_5 ?_
  refine tn_icmp_eq (tgt := 21) dX5_openRoutine_6 (by decide) ⟨by omega, by omega⟩ ⟨by decide, by decide⟩ (fun h7 => ?_) (fun h7 => ?_)
  · refine tn_aload_n dX5_openRoutine_21 rfl 0 rfl ?_
    refine tn_getI (ci := 5) (i := 5) (n := 38) (t := σ.2.1 38 a) dX5_openRoutine_22 rfl lay_5 (by decide) fl5_58 ha rfl rfl (rfl) ?_
    have g8 : ((0 : Int) ≤ σ.2.1 38 a ∧ σ.2.1 38 a ≤ 256) := wf_38 hw ha
    refine tn_bipush dX5_openRoutine_25 (by decide) ?_
    refine tn_icmp_lt (tgt := 42) dX5_openRoutine_27 (by decide) ⟨by omega, by omega⟩ ⟨by decide, by decide⟩ (fun h9 => ?_) (fun h9 => ?_)
    · refine tn_iconst dX5_openRoutine_42 ?_
      refine tn_aload_n dX5_openRoutine_43 rfl 0 rfl ?_
      refine tn_getI (ci := 5) (i := 5) (n := 38) (t := σ.2.1 38 a) dX5_openRoutine_44 rfl lay_5 (by decide) fl5_58 ha rfl rfl (rfl) ?_
      refine tn_aload_n dX5_openRoutine_47 rfl 0 rfl ?_
      obtain ⟨x10, hx11, hk12, hl13⟩ : ∃ x : Nat, σ.2.1 34 a = (x : Int) ∧ AR T x 4 7 7 := wf_34 hw ha
      have hk12i : (T x10).1 = 4 ∨ (T x10).1 = 5 := by omega
      refine tn_getR (ci := 5) (i := 1) (n := 34) (x := x10) dX5_openRoutine_48 rfl lay_5 (by decide) fl5_20 ha rfl rfl (hx11) ?_
      refine tn_alenX dX5_openRoutine_51 (by have q9 := hk12i; omega) ?_
      refine tn_iconst dX5_openRoutine_52 ?_
      refine tn_isub dX5_openRoutine_53 ?_
      refine tn_mmin (x := σ.2.1 38 a) (y := (((T x10).2 : Int)) - 1) dX5_openRoutine_54 mlm5_117 stM_min iniM cdM_min (by omega) (Nat.le_of_ble_eq_true rfl) ⟨by omega, by omega⟩ ⟨by omega, by omega⟩ (fun z14 g15 => ?_)
      refine tn_mmax (x := 0) (y := z14) dX5_openRoutine_57 mlm5_123 stM_max iniM cdM_max (by omega) (Nat.le_of_ble_eq_true rfl) ⟨by omega, by omega⟩ ⟨by omega, by omega⟩ (fun z16 g17 => ?_)
      refine tn_istore_n (L' := [(2, .int (iI z16)), (0, .ref a), (1, .int (iI k))]) dX5_openRoutine_60 rfl (by decide) rfl ?_
      refine tn_aload_n dX5_openRoutine_61 rfl 1 rfl ?_
      refine tn_aload_n dX5_openRoutine_62 rfl 1 rfl ?_
      refine tn_getR (ci := 5) (i := 1) (n := 34) (x := x10) dX5_openRoutine_63 rfl lay_5 (by decide) fl5_20 ha rfl rfl (hx11) ?_
      refine tn_iload_n dX5_openRoutine_66 rfl 0 rfl ?_
      obtain ⟨x18, hx19, hk20⟩ := (hw).2.2.2.1.1 x10 hk12 (z16) (by omega) (by omega)
      refine tn_aald (z := z16) (x := x18) dX5_openRoutine_67 hk12i (by omega) (by omega) (by omega) hx19 ?_
      have hk20o : OB T x18 1 := ⟨by omega, by rw [hk20]; rfl, by omega⟩
      refine tn_putV (ci := 5) (i := 2) (n := 35) (r := true) (v := (x18 : Int)) tyX5 tyX5_ok nmX5 dX5_openRoutine_68 rfl lay_5 (by decide) fl5_47 rfl (tyX5_ok 2 (by decide)) (vl_ref rfl).symm rfl rfl ha rfl rfl ?_
      refine tn_aload_n dX5_openRoutine_71 rfl 1 rfl ?_
      refine tn_getR (ci := 5) (i := 2) (n := 35) (x := x18) dX5_openRoutine_72 rfl lay_5 (by decide) fl5_47 ha rfl rfl (ra_eq) ?_
      refine tn_iload_n dX5_openRoutine_75 rfl 0 rfl ?_
      refine tn_callV (M := m_X5_openRoutine) (pc := 76) (ix := 126) (ci := 1) (M' := m_X1_empty) (As := [.int (iI z16)]) (rest := []) dX5_openRoutine_76 ok_X1_empty im_X1_empty se_X1_empty ml5_126 np_X1_empty rfl rfl hk20o rfl (Nat.le_of_ble_eq_true rfl) (Nat.le_of_ble_eq_true rfl) rfl (k_X1_empty (d) (T := T) (σ := (sA 35 a ((x18 : Int)) σ)) (a := x18) (r := z16) hk20o (by omega) (hw.put (by decide) (by decide) (fo_35 ⟨_, rfl, hk20⟩)) ) (fun r21 T23 σ22 gt24 hp => ?_)
      obtain ⟨rfl, rfl, w27, F28, f25⟩ := hp
      clear gt24
      show Tn _ _ 79 T σ22 [(2, .int (iI z16)), (0, .ref a), (1, .int (iI k))] [] _
      refine tn_aload_n dX5_openRoutine_79 rfl 1 rfl ?_
      obtain ⟨x29, hx30, hk31, hl32⟩ : ∃ x : Nat, σ.2.1 36 a = (x : Int) ∧ AR T x 16 256 256 := wf_36 hw ha
      have hk31i : IA T x29 := by unfold IA; omega
      refine tn_getR (ci := 5) (i := 3) (n := 36) (x := x29) dX5_openRoutine_80 rfl lay_5 (by decide) fl5_24 ha rfl rfl (rc_F F28 (Or.inl (by decide)) (by decide) (rc_o (by decide) (hx30))) ?_
      refine tn_aload_n dX5_openRoutine_83 rfl 1 rfl ?_
      refine tn_getI (ci := 5) (i := 5) (n := 38) (t := σ.2.1 38 a) dX5_openRoutine_84 rfl lay_5 (by decide) fl5_58 ha rfl rfl (rc_F F28 (Or.inl (by decide)) (by decide) (rc_o (by decide) (rfl))) ?_
      refine tn_iload_n dX5_openRoutine_87 rfl 2 rfl ?_
      refine tn_callSN (M := m_X5_openRoutine) (pc := 88) (ix := 129) (M' := m_X11_put) (As := [.ref x29, .int (iI (σ.2.1 38 a)), .int (iI k)]) (rest := []) dX5_openRoutine_88 ok_X11_put stt_X11_put nl5_129 np_X11_put rfl (Nat.le_of_ble_eq_true rfl) (Nat.le_of_ble_eq_true rfl) rfl (k_X11_put_16 (d + 1) (T := T) (σ := σ22) (x := x29) (i := σ.2.1 38 a) (y := k) hk31i (by omega) hk31 (by omega) (by omega) w27 ) (fun r33 T35 σ34 gt36 hp => ?_)
      obtain ⟨rfl, rfl, w39, F40, f37⟩ := hp
      clear gt36
      show Tn _ _ 91 T σ34 [(2, .int (iI z16)), (0, .ref a), (1, .int (iI k))] [] _
      refine tn_aload_n dX5_openRoutine_91 rfl 1 rfl ?_
      obtain ⟨x41, hx42, hk43, hl44⟩ : ∃ x : Nat, σ.2.1 37 a = (x : Int) ∧ AR T x 17 256 256 := wf_37 hw ha
      have hk43i : IA T x41 := by unfold IA; omega
      refine tn_getR (ci := 5) (i := 4) (n := 37) (x := x41) dX5_openRoutine_92 rfl lay_5 (by decide) fl5_28 ha rfl rfl (rc_F F40 (Or.inl (by decide)) (by decide) (rc_F F28 (Or.inl (by decide)) (by decide) (rc_o (by decide) (hx42)))) ?_
      refine tn_aload_n dX5_openRoutine_95 rfl 1 rfl ?_
      refine tn_getI (ci := 5) (i := 5) (n := 38) (t := σ.2.1 38 a) dX5_openRoutine_96 rfl lay_5 (by decide) fl5_58 ha rfl rfl (rc_F F40 (Or.inl (by decide)) (by decide) (rc_F F28 (Or.inl (by decide)) (by decide) (rc_o (by decide) (rfl)))) ?_
      refine tn_iconst dX5_openRoutine_99 ?_
      refine tn_callSN (M := m_X5_openRoutine) (pc := 100) (ix := 129) (M' := m_X11_put) (As := [.ref x41, .int (iI (σ.2.1 38 a)), .int (iI 0)]) (rest := []) dX5_openRoutine_100 ok_X11_put stt_X11_put nl5_129 np_X11_put rfl (Nat.le_of_ble_eq_true rfl) (Nat.le_of_ble_eq_true rfl) rfl (k_X11_put_17 (d + 1) (T := T) (σ := σ34) (x := x41) (i := σ.2.1 38 a) (y := 0) hk43i (by omega) hk43 (by omega) (by decide) w39 ) (fun r45 T47 σ46 gt48 hp => ?_)
      obtain ⟨rfl, rfl, w51, F52, f49⟩ := hp
      clear gt48
      show Tn _ _ 103 T σ46 [(2, .int (iI z16)), (0, .ref a), (1, .int (iI k))] [] _
      refine tn_aload_n dX5_openRoutine_103 rfl 1 rfl ?_
      refine tn_aload_n dX5_openRoutine_104 rfl 1 rfl ?_
      refine tn_getI (ci := 5) (i := 5) (n := 38) (t := σ.2.1 38 a) dX5_openRoutine_105 rfl lay_5 (by decide) fl5_58 ha rfl rfl (rc_F F52 (Or.inl (by decide)) (by decide) (rc_F F40 (Or.inl (by decide)) (by decide) (rc_F F28 (Or.inl (by decide)) (by decide) (rc_o (by decide) (rfl))))) ?_
      refine tn_iconst dX5_openRoutine_108 ?_
      refine tn_iadd dX5_openRoutine_109 ?_
      refine tn_sipush dX5_openRoutine_110 (by decide) ?_
      refine tn_mmin (x := (σ.2.1 38 a) + 1) (y := 256) dX5_openRoutine_113 mlm5_117 stM_min iniM cdM_min (by omega) (Nat.le_of_ble_eq_true rfl) ⟨by omega, by omega⟩ ⟨by omega, by omega⟩ (fun z53 g54 => ?_)
      refine tn_putV (ci := 5) (i := 5) (n := 38) (r := false) (v := z53) tyX5 tyX5_ok nmX5 dX5_openRoutine_116 rfl lay_5 (by decide) fl5_58 rfl (tyX5_ok 5 (by decide)) rfl rfl rfl ha rfl rfl ?_
      refine tn_aload_n dX5_openRoutine_119 rfl 1 rfl ?_
      refine tn_iconst dX5_openRoutine_120 ?_
      refine tn_putV (ci := 5) (i := 13) (n := 46) (r := false) (v := 0) tyX5 tyX5_ok nmX5 dX5_openRoutine_121 rfl lay_5 (by decide) fl5_133 rfl (tyX5_ok 13 (by decide)) rfl rfl rfl ha rfl rfl ?_
      refine tn_aload_n dX5_openRoutine_124 rfl 1 rfl ?_
      refine tn_iconst dX5_openRoutine_125 ?_
      refine tn_putV (ci := 5) (i := 14) (n := 47) (r := false) (v := 0) tyX5 tyX5_ok nmX5 dX5_openRoutine_126 rfl lay_5 (by decide) fl5_136 rfl (tyX5_ok 14 (by decide)) rfl rfl rfl ha rfl rfl ?_
      exact tn_vret rfl dX5_openRoutine_129 ⟨rfl, rfl, (((w51.put (by decide) (by decide) (fo_38 (by omega))).put (by decide) (by decide) (fo_46 (by omega))).put (by decide) (by decide) (fo_47 (by omega))), (((((((FrC.rfl.put (by decide) (by decide)).trans (FrC.sub F28 (by decide))).trans (FrC.sub F40 (by decide))).trans (FrC.sub F52 (by decide))).put (by decide) (by decide)).put (by decide) (by decide)).put (by decide) (by decide)), (RP.new (RT.frc hrt (show FrC T [6, 7, 8, 9, 10, 35, 38, 43, 44, 46, 47, 516, 517] σ (sA 47 a (0) (sA 46 a (0) (sA 38 a (z53) σ46))) from (((((((FrC.rfl.put (by decide) (by decide)).trans (FrC.sub F28 (by decide))).trans (FrC.sub F40 (by decide))).trans (FrC.sub F52 (by decide))).put (by decide) (by decide)).put (by decide) (by decide)).put (by decide) (by decide))) (by decide) (by decide) (by decide)) (((w51.put (by decide) (by decide) (fo_38 (by omega))).put (by decide) (by decide) (fo_46 (by omega))).put (by decide) (by decide) (fo_47 (by omega))) ha (rc_o (by decide) (rc_o (by decide) (rc_o (by decide) (rc_F F52 (Or.inl (by decide)) (by decide) (rc_F F40 (Or.inl (by decide)) (by decide) (rc_F F28 (Or.inl (by decide)) (by decide) (ra_eq))))))) (by rw [show (sA 47 a (0) (sA 46 a (0) (sA 38 a (z53) σ46))).2.1 6 x18 = σ22.2.1 6 x18 from rc_o (by decide) (rc_o (by decide) (rc_o (by decide) (rc_F F52 (Or.inl (by decide)) (by decide) (rc_F F40 (Or.inl (by decide)) (by decide) (rfl)))))]; omega))⟩
    · refine tn_aload_n dX5_openRoutine_30 rfl 0 rfl ?_
      refine tn_iconst dX5_openRoutine_31 ?_
      refine tn_aload_n dX5_openRoutine_32 rfl 0 rfl ?_
      obtain ⟨x55, hx56, hk57⟩ : ∃ x : Nat, σ.2.1 33 a = (x : Int) ∧ (T x).1 = 39 := wf_33 hw ha
      have hk57o : OB T x55 9 := ⟨by omega, by rw [hk57]; rfl, by omega⟩
      refine tn_getR (ci := 5) (i := 0) (n := 33) (x := x55) dX5_openRoutine_33 rfl lay_5 (by decide) fl5_12 ha rfl rfl (hx56) ?_
      refine tn_getI (ci := 9) (i := 6) (n := 87) (t := σ.2.1 87 x55) dX5_openRoutine_36 rfl lay_9 (by decide) fl5_74 hk57o rfl rfl (rfl) ?_
      have g59 : ((-2147483648 : Int) ≤ σ.2.1 87 x55 ∧ σ.2.1 87 x55 ≤ 2147483647) := wf_87 hw hk57o
      refine tn_callV (M := m_X5_openRoutine) (pc := 39) (ix := 113) (ci := 5) (M' := m_X5_note) (As := [.int (iI 5), .int (iI (σ.2.1 87 x55))]) (rest := []) dX5_openRoutine_39 ok_X5_note im_X5_note se_X5_note ml5_113 np_X5_note rfl rfl ha rfl (Nat.le_of_ble_eq_true rfl) (Nat.le_of_ble_eq_true rfl) rfl (k_X5_note (d + 1) (T := T) (σ := σ) (a := a) (p1 := 5) (p2 := σ.2.1 87 x55) ha (by decide) (by omega) hw ) (fun r60 T62 σ61 gt63 hp => ?_)
      obtain ⟨rfl, rfl, w65, F66⟩ := hp
      clear gt63
      show Tn _ _ 42 T σ61 [(0, .ref a), (1, .int (iI k))] [] _
      refine tn_iconst dX5_openRoutine_42 ?_
      refine tn_aload_n dX5_openRoutine_43 rfl 0 rfl ?_
      refine tn_getI (ci := 5) (i := 5) (n := 38) (t := σ.2.1 38 a) dX5_openRoutine_44 rfl lay_5 (by decide) fl5_58 ha rfl rfl (rc_F F66 (Or.inl (by decide)) (by decide) (rfl)) ?_
      refine tn_aload_n dX5_openRoutine_47 rfl 0 rfl ?_
      obtain ⟨x67, hx68, hk69, hl70⟩ : ∃ x : Nat, σ.2.1 34 a = (x : Int) ∧ AR T x 4 7 7 := wf_34 hw ha
      have hk69i : (T x67).1 = 4 ∨ (T x67).1 = 5 := by omega
      refine tn_getR (ci := 5) (i := 1) (n := 34) (x := x67) dX5_openRoutine_48 rfl lay_5 (by decide) fl5_20 ha rfl rfl (rc_F F66 (Or.inl (by decide)) (by decide) (hx68)) ?_
      refine tn_alenX dX5_openRoutine_51 (by have q9 := hk69i; omega) ?_
      refine tn_iconst dX5_openRoutine_52 ?_
      refine tn_isub dX5_openRoutine_53 ?_
      refine tn_mmin (x := σ.2.1 38 a) (y := (((T x67).2 : Int)) - 1) dX5_openRoutine_54 mlm5_117 stM_min iniM cdM_min (by omega) (Nat.le_of_ble_eq_true rfl) ⟨by omega, by omega⟩ ⟨by omega, by omega⟩ (fun z71 g72 => ?_)
      refine tn_mmax (x := 0) (y := z71) dX5_openRoutine_57 mlm5_123 stM_max iniM cdM_max (by omega) (Nat.le_of_ble_eq_true rfl) ⟨by omega, by omega⟩ ⟨by omega, by omega⟩ (fun z73 g74 => ?_)
      refine tn_istore_n (L' := [(2, .int (iI z73)), (0, .ref a), (1, .int (iI k))]) dX5_openRoutine_60 rfl (by decide) rfl ?_
      refine tn_aload_n dX5_openRoutine_61 rfl 1 rfl ?_
      refine tn_aload_n dX5_openRoutine_62 rfl 1 rfl ?_
      refine tn_getR (ci := 5) (i := 1) (n := 34) (x := x67) dX5_openRoutine_63 rfl lay_5 (by decide) fl5_20 ha rfl rfl (rc_F F66 (Or.inl (by decide)) (by decide) (hx68)) ?_
      refine tn_iload_n dX5_openRoutine_66 rfl 0 rfl ?_
      obtain ⟨x75, hx76, hk77⟩ := (w65).2.2.2.1.1 x67 hk69 (z73) (by omega) (by omega)
      refine tn_aald (z := z73) (x := x75) dX5_openRoutine_67 hk69i (by omega) (by omega) (by omega) hx76 ?_
      have hk77o : OB T x75 1 := ⟨by omega, by rw [hk77]; rfl, by omega⟩
      refine tn_putV (ci := 5) (i := 2) (n := 35) (r := true) (v := (x75 : Int)) tyX5 tyX5_ok nmX5 dX5_openRoutine_68 rfl lay_5 (by decide) fl5_47 rfl (tyX5_ok 2 (by decide)) (vl_ref rfl).symm rfl rfl ha rfl rfl ?_
      refine tn_aload_n dX5_openRoutine_71 rfl 1 rfl ?_
      refine tn_getR (ci := 5) (i := 2) (n := 35) (x := x75) dX5_openRoutine_72 rfl lay_5 (by decide) fl5_47 ha rfl rfl (ra_eq) ?_
      refine tn_iload_n dX5_openRoutine_75 rfl 0 rfl ?_
      refine tn_callV (M := m_X5_openRoutine) (pc := 76) (ix := 126) (ci := 1) (M' := m_X1_empty) (As := [.int (iI z73)]) (rest := []) dX5_openRoutine_76 ok_X1_empty im_X1_empty se_X1_empty ml5_126 np_X1_empty rfl rfl hk77o rfl (Nat.le_of_ble_eq_true rfl) (Nat.le_of_ble_eq_true rfl) rfl (k_X1_empty (d) (T := T) (σ := (sA 35 a ((x75 : Int)) σ61)) (a := x75) (r := z73) hk77o (by omega) (w65.put (by decide) (by decide) (fo_35 ⟨_, rfl, hk77⟩)) ) (fun r78 T80 σ79 gt81 hp => ?_)
      obtain ⟨rfl, rfl, w84, F85, f82⟩ := hp
      clear gt81
      show Tn _ _ 79 T σ79 [(2, .int (iI z73)), (0, .ref a), (1, .int (iI k))] [] _
      refine tn_aload_n dX5_openRoutine_79 rfl 1 rfl ?_
      obtain ⟨x86, hx87, hk88, hl89⟩ : ∃ x : Nat, σ.2.1 36 a = (x : Int) ∧ AR T x 16 256 256 := wf_36 hw ha
      have hk88i : IA T x86 := by unfold IA; omega
      refine tn_getR (ci := 5) (i := 3) (n := 36) (x := x86) dX5_openRoutine_80 rfl lay_5 (by decide) fl5_24 ha rfl rfl (rc_F F85 (Or.inl (by decide)) (by decide) (rc_o (by decide) (rc_F F66 (Or.inl (by decide)) (by decide) (hx87)))) ?_
      refine tn_aload_n dX5_openRoutine_83 rfl 1 rfl ?_
      refine tn_getI (ci := 5) (i := 5) (n := 38) (t := σ.2.1 38 a) dX5_openRoutine_84 rfl lay_5 (by decide) fl5_58 ha rfl rfl (rc_F F85 (Or.inl (by decide)) (by decide) (rc_o (by decide) (rc_F F66 (Or.inl (by decide)) (by decide) (rfl)))) ?_
      refine tn_iload_n dX5_openRoutine_87 rfl 2 rfl ?_
      refine tn_callSN (M := m_X5_openRoutine) (pc := 88) (ix := 129) (M' := m_X11_put) (As := [.ref x86, .int (iI (σ.2.1 38 a)), .int (iI k)]) (rest := []) dX5_openRoutine_88 ok_X11_put stt_X11_put nl5_129 np_X11_put rfl (Nat.le_of_ble_eq_true rfl) (Nat.le_of_ble_eq_true rfl) rfl (k_X11_put_16 (d + 1) (T := T) (σ := σ79) (x := x86) (i := σ.2.1 38 a) (y := k) hk88i (by omega) hk88 (by omega) (by omega) w84 ) (fun r90 T92 σ91 gt93 hp => ?_)
      obtain ⟨rfl, rfl, w96, F97, f94⟩ := hp
      clear gt93
      show Tn _ _ 91 T σ91 [(2, .int (iI z73)), (0, .ref a), (1, .int (iI k))] [] _
      refine tn_aload_n dX5_openRoutine_91 rfl 1 rfl ?_
      obtain ⟨x98, hx99, hk100, hl101⟩ : ∃ x : Nat, σ.2.1 37 a = (x : Int) ∧ AR T x 17 256 256 := wf_37 hw ha
      have hk100i : IA T x98 := by unfold IA; omega
      refine tn_getR (ci := 5) (i := 4) (n := 37) (x := x98) dX5_openRoutine_92 rfl lay_5 (by decide) fl5_28 ha rfl rfl (rc_F F97 (Or.inl (by decide)) (by decide) (rc_F F85 (Or.inl (by decide)) (by decide) (rc_o (by decide) (rc_F F66 (Or.inl (by decide)) (by decide) (hx99))))) ?_
      refine tn_aload_n dX5_openRoutine_95 rfl 1 rfl ?_
      refine tn_getI (ci := 5) (i := 5) (n := 38) (t := σ.2.1 38 a) dX5_openRoutine_96 rfl lay_5 (by decide) fl5_58 ha rfl rfl (rc_F F97 (Or.inl (by decide)) (by decide) (rc_F F85 (Or.inl (by decide)) (by decide) (rc_o (by decide) (rc_F F66 (Or.inl (by decide)) (by decide) (rfl))))) ?_
      refine tn_iconst dX5_openRoutine_99 ?_
      refine tn_callSN (M := m_X5_openRoutine) (pc := 100) (ix := 129) (M' := m_X11_put) (As := [.ref x98, .int (iI (σ.2.1 38 a)), .int (iI 0)]) (rest := []) dX5_openRoutine_100 ok_X11_put stt_X11_put nl5_129 np_X11_put rfl (Nat.le_of_ble_eq_true rfl) (Nat.le_of_ble_eq_true rfl) rfl (k_X11_put_17 (d + 1) (T := T) (σ := σ91) (x := x98) (i := σ.2.1 38 a) (y := 0) hk100i (by omega) hk100 (by omega) (by decide) w96 ) (fun r102 T104 σ103 gt105 hp => ?_)
      obtain ⟨rfl, rfl, w108, F109, f106⟩ := hp
      clear gt105
      show Tn _ _ 103 T σ103 [(2, .int (iI z73)), (0, .ref a), (1, .int (iI k))] [] _
      refine tn_aload_n dX5_openRoutine_103 rfl 1 rfl ?_
      refine tn_aload_n dX5_openRoutine_104 rfl 1 rfl ?_
      refine tn_getI (ci := 5) (i := 5) (n := 38) (t := σ.2.1 38 a) dX5_openRoutine_105 rfl lay_5 (by decide) fl5_58 ha rfl rfl (rc_F F109 (Or.inl (by decide)) (by decide) (rc_F F97 (Or.inl (by decide)) (by decide) (rc_F F85 (Or.inl (by decide)) (by decide) (rc_o (by decide) (rc_F F66 (Or.inl (by decide)) (by decide) (rfl)))))) ?_
      refine tn_iconst dX5_openRoutine_108 ?_
      refine tn_iadd dX5_openRoutine_109 ?_
      refine tn_sipush dX5_openRoutine_110 (by decide) ?_
      refine tn_mmin (x := (σ.2.1 38 a) + 1) (y := 256) dX5_openRoutine_113 mlm5_117 stM_min iniM cdM_min (by omega) (Nat.le_of_ble_eq_true rfl) ⟨by omega, by omega⟩ ⟨by omega, by omega⟩ (fun z110 g111 => ?_)
      refine tn_putV (ci := 5) (i := 5) (n := 38) (r := false) (v := z110) tyX5 tyX5_ok nmX5 dX5_openRoutine_116 rfl lay_5 (by decide) fl5_58 rfl (tyX5_ok 5 (by decide)) rfl rfl rfl ha rfl rfl ?_
      refine tn_aload_n dX5_openRoutine_119 rfl 1 rfl ?_
      refine tn_iconst dX5_openRoutine_120 ?_
      refine tn_putV (ci := 5) (i := 13) (n := 46) (r := false) (v := 0) tyX5 tyX5_ok nmX5 dX5_openRoutine_121 rfl lay_5 (by decide) fl5_133 rfl (tyX5_ok 13 (by decide)) rfl rfl rfl ha rfl rfl ?_
      refine tn_aload_n dX5_openRoutine_124 rfl 1 rfl ?_
      refine tn_iconst dX5_openRoutine_125 ?_
      refine tn_putV (ci := 5) (i := 14) (n := 47) (r := false) (v := 0) tyX5 tyX5_ok nmX5 dX5_openRoutine_126 rfl lay_5 (by decide) fl5_136 rfl (tyX5_ok 14 (by decide)) rfl rfl rfl ha rfl rfl ?_
      exact tn_vret rfl dX5_openRoutine_129 ⟨rfl, rfl, (((w108.put (by decide) (by decide) (fo_38 (by omega))).put (by decide) (by decide) (fo_46 (by omega))).put (by decide) (by decide) (fo_47 (by omega))), ((((((((FrC.rfl.trans (FrC.sub F66 (by decide))).put (by decide) (by decide)).trans (FrC.sub F85 (by decide))).trans (FrC.sub F97 (by decide))).trans (FrC.sub F109 (by decide))).put (by decide) (by decide)).put (by decide) (by decide)).put (by decide) (by decide)), (RP.new (RT.frc hrt (show FrC T [6, 7, 8, 9, 10, 35, 38, 43, 44, 46, 47, 516, 517] σ (sA 47 a (0) (sA 46 a (0) (sA 38 a (z110) σ103))) from ((((((((FrC.rfl.trans (FrC.sub F66 (by decide))).put (by decide) (by decide)).trans (FrC.sub F85 (by decide))).trans (FrC.sub F97 (by decide))).trans (FrC.sub F109 (by decide))).put (by decide) (by decide)).put (by decide) (by decide)).put (by decide) (by decide))) (by decide) (by decide) (by decide)) (((w108.put (by decide) (by decide) (fo_38 (by omega))).put (by decide) (by decide) (fo_46 (by omega))).put (by decide) (by decide) (fo_47 (by omega))) ha (rc_o (by decide) (rc_o (by decide) (rc_o (by decide) (rc_F F109 (Or.inl (by decide)) (by decide) (rc_F F97 (Or.inl (by decide)) (by decide) (rc_F F85 (Or.inl (by decide)) (by decide) (ra_eq))))))) (by rw [show (sA 47 a (0) (sA 46 a (0) (sA 38 a (z110) σ103))).2.1 6 x75 = σ79.2.1 6 x75 from rc_o (by decide) (rc_o (by decide) (rc_o (by decide) (rc_F F109 (Or.inl (by decide)) (by decide) (rc_F F97 (Or.inl (by decide)) (by decide) (rfl)))))]; omega))⟩
  · refine tn_aload_n dX5_openRoutine_9 rfl 0 rfl ?_
    refine tn_iconst dX5_openRoutine_10 ?_
    refine tn_aload_n dX5_openRoutine_11 rfl 0 rfl ?_
    obtain ⟨x112, hx113, hk114⟩ : ∃ x : Nat, σ.2.1 33 a = (x : Int) ∧ (T x).1 = 39 := wf_33 hw ha
    have hk114o : OB T x112 9 := ⟨by omega, by rw [hk114]; rfl, by omega⟩
    refine tn_getR (ci := 5) (i := 0) (n := 33) (x := x112) dX5_openRoutine_12 rfl lay_5 (by decide) fl5_12 ha rfl rfl (hx113) ?_
    refine tn_getI (ci := 9) (i := 6) (n := 87) (t := σ.2.1 87 x112) dX5_openRoutine_15 rfl lay_9 (by decide) fl5_74 hk114o rfl rfl (rfl) ?_
    have g116 : ((-2147483648 : Int) ≤ σ.2.1 87 x112 ∧ σ.2.1 87 x112 ≤ 2147483647) := wf_87 hw hk114o
    refine tn_callV (M := m_X5_openRoutine) (pc := 18) (ix := 113) (ci := 5) (M' := m_X5_note) (As := [.int (iI 2), .int (iI (σ.2.1 87 x112))]) (rest := []) dX5_openRoutine_18 ok_X5_note im_X5_note se_X5_note ml5_113 np_X5_note rfl rfl ha rfl (Nat.le_of_ble_eq_true rfl) (Nat.le_of_ble_eq_true rfl) rfl (k_X5_note (d + 1) (T := T) (σ := σ) (a := a) (p1 := 2) (p2 := σ.2.1 87 x112) ha (by decide) (by omega) hw ) (fun r117 T119 σ118 gt120 hp => ?_)
    obtain ⟨rfl, rfl, w122, F123⟩ := hp
    clear gt120
    show Tn _ _ 21 T σ118 [(0, .ref a), (1, .int (iI k))] [] _
    refine tn_aload_n dX5_openRoutine_21 rfl 0 rfl ?_
    refine tn_getI (ci := 5) (i := 5) (n := 38) (t := σ.2.1 38 a) dX5_openRoutine_22 rfl lay_5 (by decide) fl5_58 ha rfl rfl (rc_F F123 (Or.inl (by decide)) (by decide) (rfl)) ?_
    have g124 : ((0 : Int) ≤ σ.2.1 38 a ∧ σ.2.1 38 a ≤ 256) := wf_38 hw ha
    refine tn_bipush dX5_openRoutine_25 (by decide) ?_
    refine tn_icmp_lt (tgt := 42) dX5_openRoutine_27 (by decide) ⟨by omega, by omega⟩ ⟨by decide, by decide⟩ (fun h125 => ?_) (fun h125 => ?_)
    · refine tn_iconst dX5_openRoutine_42 ?_
      refine tn_aload_n dX5_openRoutine_43 rfl 0 rfl ?_
      refine tn_getI (ci := 5) (i := 5) (n := 38) (t := σ.2.1 38 a) dX5_openRoutine_44 rfl lay_5 (by decide) fl5_58 ha rfl rfl (rc_F F123 (Or.inl (by decide)) (by decide) (rfl)) ?_
      refine tn_aload_n dX5_openRoutine_47 rfl 0 rfl ?_
      obtain ⟨x126, hx127, hk128, hl129⟩ : ∃ x : Nat, σ.2.1 34 a = (x : Int) ∧ AR T x 4 7 7 := wf_34 hw ha
      have hk128i : (T x126).1 = 4 ∨ (T x126).1 = 5 := by omega
      refine tn_getR (ci := 5) (i := 1) (n := 34) (x := x126) dX5_openRoutine_48 rfl lay_5 (by decide) fl5_20 ha rfl rfl (rc_F F123 (Or.inl (by decide)) (by decide) (hx127)) ?_
      refine tn_alenX dX5_openRoutine_51 (by have q9 := hk128i; omega) ?_
      refine tn_iconst dX5_openRoutine_52 ?_
      refine tn_isub dX5_openRoutine_53 ?_
      refine tn_mmin (x := σ.2.1 38 a) (y := (((T x126).2 : Int)) - 1) dX5_openRoutine_54 mlm5_117 stM_min iniM cdM_min (by omega) (Nat.le_of_ble_eq_true rfl) ⟨by omega, by omega⟩ ⟨by omega, by omega⟩ (fun z130 g131 => ?_)
      refine tn_mmax (x := 0) (y := z130) dX5_openRoutine_57 mlm5_123 stM_max iniM cdM_max (by omega) (Nat.le_of_ble_eq_true rfl) ⟨by omega, by omega⟩ ⟨by omega, by omega⟩ (fun z132 g133 => ?_)
      refine tn_istore_n (L' := [(2, .int (iI z132)), (0, .ref a), (1, .int (iI k))]) dX5_openRoutine_60 rfl (by decide) rfl ?_
      refine tn_aload_n dX5_openRoutine_61 rfl 1 rfl ?_
      refine tn_aload_n dX5_openRoutine_62 rfl 1 rfl ?_
      refine tn_getR (ci := 5) (i := 1) (n := 34) (x := x126) dX5_openRoutine_63 rfl lay_5 (by decide) fl5_20 ha rfl rfl (rc_F F123 (Or.inl (by decide)) (by decide) (hx127)) ?_
      refine tn_iload_n dX5_openRoutine_66 rfl 0 rfl ?_
      obtain ⟨x134, hx135, hk136⟩ := (w122).2.2.2.1.1 x126 hk128 (z132) (by omega) (by omega)
      refine tn_aald (z := z132) (x := x134) dX5_openRoutine_67 hk128i (by omega) (by omega) (by omega) hx135 ?_
      have hk136o : OB T x134 1 := ⟨by omega, by rw [hk136]; rfl, by omega⟩
      refine tn_putV (ci := 5) (i := 2) (n := 35) (r := true) (v := (x134 : Int)) tyX5 tyX5_ok nmX5 dX5_openRoutine_68 rfl lay_5 (by decide) fl5_47 rfl (tyX5_ok 2 (by decide)) (vl_ref rfl).symm rfl rfl ha rfl rfl ?_
      refine tn_aload_n dX5_openRoutine_71 rfl 1 rfl ?_
      refine tn_getR (ci := 5) (i := 2) (n := 35) (x := x134) dX5_openRoutine_72 rfl lay_5 (by decide) fl5_47 ha rfl rfl (ra_eq) ?_
      refine tn_iload_n dX5_openRoutine_75 rfl 0 rfl ?_
      refine tn_callV (M := m_X5_openRoutine) (pc := 76) (ix := 126) (ci := 1) (M' := m_X1_empty) (As := [.int (iI z132)]) (rest := []) dX5_openRoutine_76 ok_X1_empty im_X1_empty se_X1_empty ml5_126 np_X1_empty rfl rfl hk136o rfl (Nat.le_of_ble_eq_true rfl) (Nat.le_of_ble_eq_true rfl) rfl (k_X1_empty (d) (T := T) (σ := (sA 35 a ((x134 : Int)) σ118)) (a := x134) (r := z132) hk136o (by omega) (w122.put (by decide) (by decide) (fo_35 ⟨_, rfl, hk136⟩)) ) (fun r137 T139 σ138 gt140 hp => ?_)
      obtain ⟨rfl, rfl, w143, F144, f141⟩ := hp
      clear gt140
      show Tn _ _ 79 T σ138 [(2, .int (iI z132)), (0, .ref a), (1, .int (iI k))] [] _
      refine tn_aload_n dX5_openRoutine_79 rfl 1 rfl ?_
      obtain ⟨x145, hx146, hk147, hl148⟩ : ∃ x : Nat, σ.2.1 36 a = (x : Int) ∧ AR T x 16 256 256 := wf_36 hw ha
      have hk147i : IA T x145 := by unfold IA; omega
      refine tn_getR (ci := 5) (i := 3) (n := 36) (x := x145) dX5_openRoutine_80 rfl lay_5 (by decide) fl5_24 ha rfl rfl (rc_F F144 (Or.inl (by decide)) (by decide) (rc_o (by decide) (rc_F F123 (Or.inl (by decide)) (by decide) (hx146)))) ?_
      refine tn_aload_n dX5_openRoutine_83 rfl 1 rfl ?_
      refine tn_getI (ci := 5) (i := 5) (n := 38) (t := σ.2.1 38 a) dX5_openRoutine_84 rfl lay_5 (by decide) fl5_58 ha rfl rfl (rc_F F144 (Or.inl (by decide)) (by decide) (rc_o (by decide) (rc_F F123 (Or.inl (by decide)) (by decide) (rfl)))) ?_
      refine tn_iload_n dX5_openRoutine_87 rfl 2 rfl ?_
      refine tn_callSN (M := m_X5_openRoutine) (pc := 88) (ix := 129) (M' := m_X11_put) (As := [.ref x145, .int (iI (σ.2.1 38 a)), .int (iI k)]) (rest := []) dX5_openRoutine_88 ok_X11_put stt_X11_put nl5_129 np_X11_put rfl (Nat.le_of_ble_eq_true rfl) (Nat.le_of_ble_eq_true rfl) rfl (k_X11_put_16 (d + 1) (T := T) (σ := σ138) (x := x145) (i := σ.2.1 38 a) (y := k) hk147i (by omega) hk147 (by omega) (by omega) w143 ) (fun r149 T151 σ150 gt152 hp => ?_)
      obtain ⟨rfl, rfl, w155, F156, f153⟩ := hp
      clear gt152
      show Tn _ _ 91 T σ150 [(2, .int (iI z132)), (0, .ref a), (1, .int (iI k))] [] _
      refine tn_aload_n dX5_openRoutine_91 rfl 1 rfl ?_
      obtain ⟨x157, hx158, hk159, hl160⟩ : ∃ x : Nat, σ.2.1 37 a = (x : Int) ∧ AR T x 17 256 256 := wf_37 hw ha
      have hk159i : IA T x157 := by unfold IA; omega
      refine tn_getR (ci := 5) (i := 4) (n := 37) (x := x157) dX5_openRoutine_92 rfl lay_5 (by decide) fl5_28 ha rfl rfl (rc_F F156 (Or.inl (by decide)) (by decide) (rc_F F144 (Or.inl (by decide)) (by decide) (rc_o (by decide) (rc_F F123 (Or.inl (by decide)) (by decide) (hx158))))) ?_
      refine tn_aload_n dX5_openRoutine_95 rfl 1 rfl ?_
      refine tn_getI (ci := 5) (i := 5) (n := 38) (t := σ.2.1 38 a) dX5_openRoutine_96 rfl lay_5 (by decide) fl5_58 ha rfl rfl (rc_F F156 (Or.inl (by decide)) (by decide) (rc_F F144 (Or.inl (by decide)) (by decide) (rc_o (by decide) (rc_F F123 (Or.inl (by decide)) (by decide) (rfl))))) ?_
      refine tn_iconst dX5_openRoutine_99 ?_
      refine tn_callSN (M := m_X5_openRoutine) (pc := 100) (ix := 129) (M' := m_X11_put) (As := [.ref x157, .int (iI (σ.2.1 38 a)), .int (iI 0)]) (rest := []) dX5_openRoutine_100 ok_X11_put stt_X11_put nl5_129 np_X11_put rfl (Nat.le_of_ble_eq_true rfl) (Nat.le_of_ble_eq_true rfl) rfl (k_X11_put_17 (d + 1) (T := T) (σ := σ150) (x := x157) (i := σ.2.1 38 a) (y := 0) hk159i (by omega) hk159 (by omega) (by decide) w155 ) (fun r161 T163 σ162 gt164 hp => ?_)
      obtain ⟨rfl, rfl, w167, F168, f165⟩ := hp
      clear gt164
      show Tn _ _ 103 T σ162 [(2, .int (iI z132)), (0, .ref a), (1, .int (iI k))] [] _
      refine tn_aload_n dX5_openRoutine_103 rfl 1 rfl ?_
      refine tn_aload_n dX5_openRoutine_104 rfl 1 rfl ?_
      refine tn_getI (ci := 5) (i := 5) (n := 38) (t := σ.2.1 38 a) dX5_openRoutine_105 rfl lay_5 (by decide) fl5_58 ha rfl rfl (rc_F F168 (Or.inl (by decide)) (by decide) (rc_F F156 (Or.inl (by decide)) (by decide) (rc_F F144 (Or.inl (by decide)) (by decide) (rc_o (by decide) (rc_F F123 (Or.inl (by decide)) (by decide) (rfl)))))) ?_
      refine tn_iconst dX5_openRoutine_108 ?_
      refine tn_iadd dX5_openRoutine_109 ?_
      refine tn_sipush dX5_openRoutine_110 (by decide) ?_
      refine tn_mmin (x := (σ.2.1 38 a) + 1) (y := 256) dX5_openRoutine_113 mlm5_117 stM_min iniM cdM_min (by omega) (Nat.le_of_ble_eq_true rfl) ⟨by omega, by omega⟩ ⟨by omega, by omega⟩ (fun z169 g170 => ?_)
      refine tn_putV (ci := 5) (i := 5) (n := 38) (r := false) (v := z169) tyX5 tyX5_ok nmX5 dX5_openRoutine_116 rfl lay_5 (by decide) fl5_58 rfl (tyX5_ok 5 (by decide)) rfl rfl rfl ha rfl rfl ?_
      refine tn_aload_n dX5_openRoutine_119 rfl 1 rfl ?_
      refine tn_iconst dX5_openRoutine_120 ?_
      refine tn_putV (ci := 5) (i := 13) (n := 46) (r := false) (v := 0) tyX5 tyX5_ok nmX5 dX5_openRoutine_121 rfl lay_5 (by decide) fl5_133 rfl (tyX5_ok 13 (by decide)) rfl rfl rfl ha rfl rfl ?_
      refine tn_aload_n dX5_openRoutine_124 rfl 1 rfl ?_
      refine tn_iconst dX5_openRoutine_125 ?_
      refine tn_putV (ci := 5) (i := 14) (n := 47) (r := false) (v := 0) tyX5 tyX5_ok nmX5 dX5_openRoutine_126 rfl lay_5 (by decide) fl5_136 rfl (tyX5_ok 14 (by decide)) rfl rfl rfl ha rfl rfl ?_
      exact tn_vret rfl dX5_openRoutine_129 ⟨rfl, rfl, (((w167.put (by decide) (by decide) (fo_38 (by omega))).put (by decide) (by decide) (fo_46 (by omega))).put (by decide) (by decide) (fo_47 (by omega))), ((((((((FrC.rfl.trans (FrC.sub F123 (by decide))).put (by decide) (by decide)).trans (FrC.sub F144 (by decide))).trans (FrC.sub F156 (by decide))).trans (FrC.sub F168 (by decide))).put (by decide) (by decide)).put (by decide) (by decide)).put (by decide) (by decide)), (RP.new (RT.frc hrt (show FrC T [6, 7, 8, 9, 10, 35, 38, 43, 44, 46, 47, 516, 517] σ (sA 47 a (0) (sA 46 a (0) (sA 38 a (z169) σ162))) from ((((((((FrC.rfl.trans (FrC.sub F123 (by decide))).put (by decide) (by decide)).trans (FrC.sub F144 (by decide))).trans (FrC.sub F156 (by decide))).trans (FrC.sub F168 (by decide))).put (by decide) (by decide)).put (by decide) (by decide)).put (by decide) (by decide))) (by decide) (by decide) (by decide)) (((w167.put (by decide) (by decide) (fo_38 (by omega))).put (by decide) (by decide) (fo_46 (by omega))).put (by decide) (by decide) (fo_47 (by omega))) ha (rc_o (by decide) (rc_o (by decide) (rc_o (by decide) (rc_F F168 (Or.inl (by decide)) (by decide) (rc_F F156 (Or.inl (by decide)) (by decide) (rc_F F144 (Or.inl (by decide)) (by decide) (ra_eq))))))) (by rw [show (sA 47 a (0) (sA 46 a (0) (sA 38 a (z169) σ162))).2.1 6 x134 = σ138.2.1 6 x134 from rc_o (by decide) (rc_o (by decide) (rc_o (by decide) (rc_F F168 (Or.inl (by decide)) (by decide) (rc_F F156 (Or.inl (by decide)) (by decide) (rfl)))))]; omega))⟩
    · refine tn_aload_n dX5_openRoutine_30 rfl 0 rfl ?_
      refine tn_iconst dX5_openRoutine_31 ?_
      refine tn_aload_n dX5_openRoutine_32 rfl 0 rfl ?_
      refine tn_getR (ci := 5) (i := 0) (n := 33) (x := x112) dX5_openRoutine_33 rfl lay_5 (by decide) fl5_12 ha rfl rfl (rc_F F123 (Or.inl (by decide)) (by decide) (hx113)) ?_
      refine tn_getI (ci := 9) (i := 6) (n := 87) (t := σ.2.1 87 x112) dX5_openRoutine_36 rfl lay_9 (by decide) fl5_74 hk114o rfl rfl (rc_F F123 (Or.inl (by decide)) (by decide) (rfl)) ?_
      refine tn_callV (M := m_X5_openRoutine) (pc := 39) (ix := 113) (ci := 5) (M' := m_X5_note) (As := [.int (iI 5), .int (iI (σ.2.1 87 x112))]) (rest := []) dX5_openRoutine_39 ok_X5_note im_X5_note se_X5_note ml5_113 np_X5_note rfl rfl ha rfl (Nat.le_of_ble_eq_true rfl) (Nat.le_of_ble_eq_true rfl) rfl (k_X5_note (d + 1) (T := T) (σ := σ118) (a := a) (p1 := 5) (p2 := σ.2.1 87 x112) ha (by decide) (by omega) w122 ) (fun r171 T173 σ172 gt174 hp => ?_)
      obtain ⟨rfl, rfl, w176, F177⟩ := hp
      clear gt174
      show Tn _ _ 42 T σ172 [(0, .ref a), (1, .int (iI k))] [] _
      refine tn_iconst dX5_openRoutine_42 ?_
      refine tn_aload_n dX5_openRoutine_43 rfl 0 rfl ?_
      refine tn_getI (ci := 5) (i := 5) (n := 38) (t := σ.2.1 38 a) dX5_openRoutine_44 rfl lay_5 (by decide) fl5_58 ha rfl rfl (rc_F F177 (Or.inl (by decide)) (by decide) (rc_F F123 (Or.inl (by decide)) (by decide) (rfl))) ?_
      refine tn_aload_n dX5_openRoutine_47 rfl 0 rfl ?_
      obtain ⟨x178, hx179, hk180, hl181⟩ : ∃ x : Nat, σ.2.1 34 a = (x : Int) ∧ AR T x 4 7 7 := wf_34 hw ha
      have hk180i : (T x178).1 = 4 ∨ (T x178).1 = 5 := by omega
      refine tn_getR (ci := 5) (i := 1) (n := 34) (x := x178) dX5_openRoutine_48 rfl lay_5 (by decide) fl5_20 ha rfl rfl (rc_F F177 (Or.inl (by decide)) (by decide) (rc_F F123 (Or.inl (by decide)) (by decide) (hx179))) ?_
      refine tn_alenX dX5_openRoutine_51 (by have q9 := hk180i; omega) ?_
      refine tn_iconst dX5_openRoutine_52 ?_
      refine tn_isub dX5_openRoutine_53 ?_
      refine tn_mmin (x := σ.2.1 38 a) (y := (((T x178).2 : Int)) - 1) dX5_openRoutine_54 mlm5_117 stM_min iniM cdM_min (by omega) (Nat.le_of_ble_eq_true rfl) ⟨by omega, by omega⟩ ⟨by omega, by omega⟩ (fun z182 g183 => ?_)
      refine tn_mmax (x := 0) (y := z182) dX5_openRoutine_57 mlm5_123 stM_max iniM cdM_max (by omega) (Nat.le_of_ble_eq_true rfl) ⟨by omega, by omega⟩ ⟨by omega, by omega⟩ (fun z184 g185 => ?_)
      refine tn_istore_n (L' := [(2, .int (iI z184)), (0, .ref a), (1, .int (iI k))]) dX5_openRoutine_60 rfl (by decide) rfl ?_
      refine tn_aload_n dX5_openRoutine_61 rfl 1 rfl ?_
      refine tn_aload_n dX5_openRoutine_62 rfl 1 rfl ?_
      refine tn_getR (ci := 5) (i := 1) (n := 34) (x := x178) dX5_openRoutine_63 rfl lay_5 (by decide) fl5_20 ha rfl rfl (rc_F F177 (Or.inl (by decide)) (by decide) (rc_F F123 (Or.inl (by decide)) (by decide) (hx179))) ?_
      refine tn_iload_n dX5_openRoutine_66 rfl 0 rfl ?_
      obtain ⟨x186, hx187, hk188⟩ := (w176).2.2.2.1.1 x178 hk180 (z184) (by omega) (by omega)
      refine tn_aald (z := z184) (x := x186) dX5_openRoutine_67 hk180i (by omega) (by omega) (by omega) hx187 ?_
      have hk188o : OB T x186 1 := ⟨by omega, by rw [hk188]; rfl, by omega⟩
      refine tn_putV (ci := 5) (i := 2) (n := 35) (r := true) (v := (x186 : Int)) tyX5 tyX5_ok nmX5 dX5_openRoutine_68 rfl lay_5 (by decide) fl5_47 rfl (tyX5_ok 2 (by decide)) (vl_ref rfl).symm rfl rfl ha rfl rfl ?_
      refine tn_aload_n dX5_openRoutine_71 rfl 1 rfl ?_
      refine tn_getR (ci := 5) (i := 2) (n := 35) (x := x186) dX5_openRoutine_72 rfl lay_5 (by decide) fl5_47 ha rfl rfl (ra_eq) ?_
      refine tn_iload_n dX5_openRoutine_75 rfl 0 rfl ?_
      refine tn_callV (M := m_X5_openRoutine) (pc := 76) (ix := 126) (ci := 1) (M' := m_X1_empty) (As := [.int (iI z184)]) (rest := []) dX5_openRoutine_76 ok_X1_empty im_X1_empty se_X1_empty ml5_126 np_X1_empty rfl rfl hk188o rfl (Nat.le_of_ble_eq_true rfl) (Nat.le_of_ble_eq_true rfl) rfl (k_X1_empty (d) (T := T) (σ := (sA 35 a ((x186 : Int)) σ172)) (a := x186) (r := z184) hk188o (by omega) (w176.put (by decide) (by decide) (fo_35 ⟨_, rfl, hk188⟩)) ) (fun r189 T191 σ190 gt192 hp => ?_)
      obtain ⟨rfl, rfl, w195, F196, f193⟩ := hp
      clear gt192
      show Tn _ _ 79 T σ190 [(2, .int (iI z184)), (0, .ref a), (1, .int (iI k))] [] _
      refine tn_aload_n dX5_openRoutine_79 rfl 1 rfl ?_
      obtain ⟨x197, hx198, hk199, hl200⟩ : ∃ x : Nat, σ.2.1 36 a = (x : Int) ∧ AR T x 16 256 256 := wf_36 hw ha
      have hk199i : IA T x197 := by unfold IA; omega
      refine tn_getR (ci := 5) (i := 3) (n := 36) (x := x197) dX5_openRoutine_80 rfl lay_5 (by decide) fl5_24 ha rfl rfl (rc_F F196 (Or.inl (by decide)) (by decide) (rc_o (by decide) (rc_F F177 (Or.inl (by decide)) (by decide) (rc_F F123 (Or.inl (by decide)) (by decide) (hx198))))) ?_
      refine tn_aload_n dX5_openRoutine_83 rfl 1 rfl ?_
      refine tn_getI (ci := 5) (i := 5) (n := 38) (t := σ.2.1 38 a) dX5_openRoutine_84 rfl lay_5 (by decide) fl5_58 ha rfl rfl (rc_F F196 (Or.inl (by decide)) (by decide) (rc_o (by decide) (rc_F F177 (Or.inl (by decide)) (by decide) (rc_F F123 (Or.inl (by decide)) (by decide) (rfl))))) ?_
      refine tn_iload_n dX5_openRoutine_87 rfl 2 rfl ?_
      refine tn_callSN (M := m_X5_openRoutine) (pc := 88) (ix := 129) (M' := m_X11_put) (As := [.ref x197, .int (iI (σ.2.1 38 a)), .int (iI k)]) (rest := []) dX5_openRoutine_88 ok_X11_put stt_X11_put nl5_129 np_X11_put rfl (Nat.le_of_ble_eq_true rfl) (Nat.le_of_ble_eq_true rfl) rfl (k_X11_put_16 (d + 1) (T := T) (σ := σ190) (x := x197) (i := σ.2.1 38 a) (y := k) hk199i (by omega) hk199 (by omega) (by omega) w195 ) (fun r201 T203 σ202 gt204 hp => ?_)
      obtain ⟨rfl, rfl, w207, F208, f205⟩ := hp
      clear gt204
      show Tn _ _ 91 T σ202 [(2, .int (iI z184)), (0, .ref a), (1, .int (iI k))] [] _
      refine tn_aload_n dX5_openRoutine_91 rfl 1 rfl ?_
      obtain ⟨x209, hx210, hk211, hl212⟩ : ∃ x : Nat, σ.2.1 37 a = (x : Int) ∧ AR T x 17 256 256 := wf_37 hw ha
      have hk211i : IA T x209 := by unfold IA; omega
      refine tn_getR (ci := 5) (i := 4) (n := 37) (x := x209) dX5_openRoutine_92 rfl lay_5 (by decide) fl5_28 ha rfl rfl (rc_F F208 (Or.inl (by decide)) (by decide) (rc_F F196 (Or.inl (by decide)) (by decide) (rc_o (by decide) (rc_F F177 (Or.inl (by decide)) (by decide) (rc_F F123 (Or.inl (by decide)) (by decide) (hx210)))))) ?_
      refine tn_aload_n dX5_openRoutine_95 rfl 1 rfl ?_
      refine tn_getI (ci := 5) (i := 5) (n := 38) (t := σ.2.1 38 a) dX5_openRoutine_96 rfl lay_5 (by decide) fl5_58 ha rfl rfl (rc_F F208 (Or.inl (by decide)) (by decide) (rc_F F196 (Or.inl (by decide)) (by decide) (rc_o (by decide) (rc_F F177 (Or.inl (by decide)) (by decide) (rc_F F123 (Or.inl (by decide)) (by decide) (rfl)))))) ?_
      refine tn_iconst dX5_openRoutine_99 ?_
      refine tn_callSN (M := m_X5_openRoutine) (pc := 100) (ix := 129) (M' := m_X11_put) (As := [.ref x209, .int (iI (σ.2.1 38 a)), .int (iI 0)]) (rest := []) dX5_openRoutine_100 ok_X11_put stt_X11_put nl5_129 np_X11_put rfl (Nat.le_of_ble_eq_true rfl) (Nat.le_of_ble_eq_true rfl) rfl (k_X11_put_17 (d + 1) (T := T) (σ := σ202) (x := x209) (i := σ.2.1 38 a) (y := 0) hk211i (by omega) hk211 (by omega) (by decide) w207 ) (fun r213 T215 σ214 gt216 hp => ?_)
      obtain ⟨rfl, rfl, w219, F220, f217⟩ := hp
      clear gt216
      show Tn _ _ 103 T σ214 [(2, .int (iI z184)), (0, .ref a), (1, .int (iI k))] [] _
      refine tn_aload_n dX5_openRoutine_103 rfl 1 rfl ?_
      refine tn_aload_n dX5_openRoutine_104 rfl 1 rfl ?_
      refine tn_getI (ci := 5) (i := 5) (n := 38) (t := σ.2.1 38 a) dX5_openRoutine_105 rfl lay_5 (by decide) fl5_58 ha rfl rfl (rc_F F220 (Or.inl (by decide)) (by decide) (rc_F F208 (Or.inl (by decide)) (by decide) (rc_F F196 (Or.inl (by decide)) (by decide) (rc_o (by decide) (rc_F F177 (Or.inl (by decide)) (by decide) (rc_F F123 (Or.inl (by decide)) (by decide) (rfl))))))) ?_
      refine tn_iconst dX5_openRoutine_108 ?_
      refine tn_iadd dX5_openRoutine_109 ?_
      refine tn_sipush dX5_openRoutine_110 (by decide) ?_
      refine tn_mmin (x := (σ.2.1 38 a) + 1) (y := 256) dX5_openRoutine_113 mlm5_117 stM_min iniM cdM_min (by omega) (Nat.le_of_ble_eq_true rfl) ⟨by omega, by omega⟩ ⟨by omega, by omega⟩ (fun z221 g222 => ?_)
      refine tn_putV (ci := 5) (i := 5) (n := 38) (r := false) (v := z221) tyX5 tyX5_ok nmX5 dX5_openRoutine_116 rfl lay_5 (by decide) fl5_58 rfl (tyX5_ok 5 (by decide)) rfl rfl rfl ha rfl rfl ?_
      refine tn_aload_n dX5_openRoutine_119 rfl 1 rfl ?_
      refine tn_iconst dX5_openRoutine_120 ?_
      refine tn_putV (ci := 5) (i := 13) (n := 46) (r := false) (v := 0) tyX5 tyX5_ok nmX5 dX5_openRoutine_121 rfl lay_5 (by decide) fl5_133 rfl (tyX5_ok 13 (by decide)) rfl rfl rfl ha rfl rfl ?_
      refine tn_aload_n dX5_openRoutine_124 rfl 1 rfl ?_
      refine tn_iconst dX5_openRoutine_125 ?_
      refine tn_putV (ci := 5) (i := 14) (n := 47) (r := false) (v := 0) tyX5 tyX5_ok nmX5 dX5_openRoutine_126 rfl lay_5 (by decide) fl5_136 rfl (tyX5_ok 14 (by decide)) rfl rfl rfl ha rfl rfl ?_
      exact tn_vret rfl dX5_openRoutine_129 ⟨rfl, rfl, (((w219.put (by decide) (by decide) (fo_38 (by omega))).put (by decide) (by decide) (fo_46 (by omega))).put (by decide) (by decide) (fo_47 (by omega))), (((((((((FrC.rfl.trans (FrC.sub F123 (by decide))).trans (FrC.sub F177 (by decide))).put (by decide) (by decide)).trans (FrC.sub F196 (by decide))).trans (FrC.sub F208 (by decide))).trans (FrC.sub F220 (by decide))).put (by decide) (by decide)).put (by decide) (by decide)).put (by decide) (by decide)), (RP.new (RT.frc hrt (show FrC T [6, 7, 8, 9, 10, 35, 38, 43, 44, 46, 47, 516, 517] σ (sA 47 a (0) (sA 46 a (0) (sA 38 a (z221) σ214))) from (((((((((FrC.rfl.trans (FrC.sub F123 (by decide))).trans (FrC.sub F177 (by decide))).put (by decide) (by decide)).trans (FrC.sub F196 (by decide))).trans (FrC.sub F208 (by decide))).trans (FrC.sub F220 (by decide))).put (by decide) (by decide)).put (by decide) (by decide)).put (by decide) (by decide))) (by decide) (by decide) (by decide)) (((w219.put (by decide) (by decide) (fo_38 (by omega))).put (by decide) (by decide) (fo_46 (by omega))).put (by decide) (by decide) (fo_47 (by omega))) ha (rc_o (by decide) (rc_o (by decide) (rc_o (by decide) (rc_F F220 (Or.inl (by decide)) (by decide) (rc_F F208 (Or.inl (by decide)) (by decide) (rc_F F196 (Or.inl (by decide)) (by decide) (ra_eq))))))) (by rw [show (sA 47 a (0) (sA 46 a (0) (sA 38 a (z221) σ214))).2.1 6 x186 = σ190.2.1 6 x186 from rc_o (by decide) (rc_o (by decide) (rc_o (by decide) (rc_F F220 (Or.inl (by decide)) (by decide) (rc_F F208 (Or.inl (by decide)) (by decide) (rfl)))))]; omega))⟩
end
section
theorem cd_X5_parameter : Cond.code yX5_parameter cX5_parameter 2 none ∈ pWW := pw3 (List.mem_of_getElem? (i := 104) rfl) rfl
abbrev m_X5_parameter : MT := (yX5_parameter, cX5_parameter, 2, none)
theorem ok_X5_parameter : pOk m_X5_parameter := ⟨⟨cd_X5_parameter, ini_5⟩, by decide +kernel, ⟨by decide +kernel, by decide +kernel⟩, Nat.le_of_ble_eq_true rfl⟩
theorem np_X5_parameter : (parseMethodDescriptor yX5_parameter.desc).map (fun d => d.parameters.length) = some 1 := by decide +kernel
theorem im_X5_parameter : Cond.instanceMethod yX5_parameter ∈ pWW := pw3 (List.mem_of_getElem? (i := 103) rfl) rfl
theorem se_X5_parameter : Cond.selects RX5 yX5_parameter yX5_parameter ∈ pWW := pws (List.mem_map.mpr ⟨_, lw_pin 11 rfl, rfl⟩) rfl
theorem fl5_180 : Cond.fieldLink RX5 180 (TX1 3).1 (TX1 3).2.1 (TX1 3).2.2.1 ∈ pWW := pw1 (List.mem_of_getElem? (i := 98) rfl) rfl
theorem dX5_parameter_0 : decode cX5_parameter 0 = .ok (.aload_n 0, 1) := by decide +kernel
theorem dX5_parameter_1 : decode cX5_parameter 1 = .ok (.aload_n 0, 1) := by decide +kernel
theorem dX5_parameter_2 : decode cX5_parameter 2 = .ok (.getfield 12, 3) := by decide +kernel
theorem dX5_parameter_5 : decode cX5_parameter 5 = .ok (.getfield 96, 3) := by decide +kernel
theorem dX5_parameter_8 : decode cX5_parameter 8 = .ok (.invokevirtual 173, 3) := by decide +kernel
theorem dX5_parameter_11 : decode cX5_parameter 11 = .ok (.iconst (-1), 1) := by decide +kernel
theorem dX5_parameter_12 : decode cX5_parameter 12 = .ok (.if_icmp .eq 15, 3) := by decide +kernel
theorem dX5_parameter_27 : decode cX5_parameter 27 = .ok (.iload_n 1, 1) := by decide +kernel
theorem dX5_parameter_28 : decode cX5_parameter 28 = .ok (.iconst 4, 1) := by decide +kernel
theorem dX5_parameter_29 : decode cX5_parameter 29 = .ok (.if_icmp .le 15, 3) := by decide +kernel
theorem dX5_parameter_44 : decode cX5_parameter 44 = .ok (.aload_n 0, 1) := by decide +kernel
theorem dX5_parameter_45 : decode cX5_parameter 45 = .ok (.invokevirtual 176, 3) := by decide +kernel
theorem dX5_parameter_48 : decode cX5_parameter 48 = .ok (.pop, 1) := by decide +kernel
theorem dX5_parameter_49 : decode cX5_parameter 49 = .ok (.aload_n 0, 1) := by decide +kernel
theorem dX5_parameter_50 : decode cX5_parameter 50 = .ok (.getfield 28, 3) := by decide +kernel
theorem dX5_parameter_53 : decode cX5_parameter 53 = .ok (.aload_n 0, 1) := by decide +kernel
theorem dX5_parameter_54 : decode cX5_parameter 54 = .ok (.getfield 58, 3) := by decide +kernel
theorem dX5_parameter_57 : decode cX5_parameter 57 = .ok (.iconst 1, 1) := by decide +kernel
theorem dX5_parameter_58 : decode cX5_parameter 58 = .ok (.isub, 1) := by decide +kernel
theorem dX5_parameter_59 : decode cX5_parameter 59 = .ok (.iload_n 1, 1) := by decide +kernel
theorem dX5_parameter_60 : decode cX5_parameter 60 = .ok (.invokestatic 129, 3) := by decide +kernel
theorem dX5_parameter_63 : decode cX5_parameter 63 = .ok (.aload_n 0, 1) := by decide +kernel
theorem dX5_parameter_64 : decode cX5_parameter 64 = .ok (.getfield 47, 3) := by decide +kernel
theorem dX5_parameter_67 : decode cX5_parameter 67 = .ok (.iload_n 1, 1) := by decide +kernel
theorem dX5_parameter_68 : decode cX5_parameter 68 = .ok (.iconst 4, 1) := by decide +kernel
theorem dX5_parameter_69 : decode cX5_parameter 69 = .ok (.invokestatic 117, 3) := by decide +kernel
theorem dX5_parameter_72 : decode cX5_parameter 72 = .ok (.putfield 180, 3) := by decide +kernel
theorem dX5_parameter_75 : decode cX5_parameter 75 = .ok (.return_, 1) := by decide +kernel
theorem dX5_parameter_32 : decode cX5_parameter 32 = .ok (.aload_n 0, 1) := by decide +kernel
theorem dX5_parameter_33 : decode cX5_parameter 33 = .ok (.iconst 5, 1) := by decide +kernel
theorem dX5_parameter_34 : decode cX5_parameter 34 = .ok (.aload_n 0, 1) := by decide +kernel
theorem dX5_parameter_35 : decode cX5_parameter 35 = .ok (.getfield 12, 3) := by decide +kernel
theorem dX5_parameter_38 : decode cX5_parameter 38 = .ok (.getfield 74, 3) := by decide +kernel
theorem dX5_parameter_41 : decode cX5_parameter 41 = .ok (.invokevirtual 113, 3) := by decide +kernel
theorem dX5_parameter_15 : decode cX5_parameter 15 = .ok (.aload_n 0, 1) := by decide +kernel
theorem dX5_parameter_16 : decode cX5_parameter 16 = .ok (.iconst 2, 1) := by decide +kernel
theorem dX5_parameter_17 : decode cX5_parameter 17 = .ok (.aload_n 0, 1) := by decide +kernel
theorem dX5_parameter_18 : decode cX5_parameter 18 = .ok (.getfield 12, 3) := by decide +kernel
theorem dX5_parameter_21 : decode cX5_parameter 21 = .ok (.getfield 74, 3) := by decide +kernel
theorem dX5_parameter_24 : decode cX5_parameter 24 = .ok (.invokevirtual 113, 3) := by decide +kernel
set_option maxRecDepth 20000 in
theorem k_X5_parameter (d : Nat) {T : CT} {σ : MS} {a : Nat} {c : Int} (ha : OB T a 5) (h_c : -2147483648 ≤ c ∧ c ≤ 2147483647) (hw : WT T σ) (hc : 1 ≤ c) : Tn (d + 3) m_X5_parameter 0 T σ [(0, .ref a), (1, .int (iI c))] [] (fun ro T2 σ2 => ro = none ∧ T = T2 ∧ WT T2 σ2 ∧ FrC T [7, 8, 43, 44, 517, 521] σ σ2) := by
  refine tn_aload_n dX5_parameter_0 rfl 0 rfl ?_
  refine tn_aload_n dX5_parameter_1 rfl 0 rfl ?_
  obtain ⟨x1, hx2, hk3⟩ : ∃ x : Nat, σ.2.1 33 a = (x : Int) ∧ (T x).1 = 39 := wf_33 hw ha
  have hk3o : OB T x1 9 := ⟨by omega, by rw [hk3]; rfl, by omega⟩
  refine tn_getR (ci := 5) (i := 0) (n := 33) (x := x1) dX5_parameter_2 rfl lay_5 (by decide) fl5_12 ha rfl rfl (hx2) ?_
  refine tn_getI (ci := 9) (i := 5) (n := 86) (t := σ.2.1 86 x1) dX5_parameter_5 rfl lay_9 (by decide) fl5_96 hk3o rfl rfl (rfl) ?_
  have g5 : ((-2147483648 : Int) ≤ σ.2.1 86 x1 ∧ σ.2.1 86 x1 ≤ 2147483647) := wf_86 hw hk3o
  refine tn_callV (M := m_X5_parameter) (pc := 8) (ix := 173) (ci := 5) (M' := m_X5_nameIndex) (As := [.int (iI (σ.2.1 86 x1))]) (rest := []) dX5_parameter_8 ok_X5_nameIndex im_X5_nameIndex se_X5_nameIndex ml5_173 np_X5_nameIndex rfl rfl ha rfl (Nat.le_of_ble_eq_true rfl) (Nat.le_of_ble_eq_true rfl) rfl (k_X5_nameIndex (d + 1) (T := T) (σ := σ) (a := a) (k := σ.2.1 86 x1) ha (by omega) hw ) (fun r6 T8 σ7 gt9 hp => ?_)
  obtain ⟨v11, rfl, rfl, rfl, f10⟩ := hp
  clear gt9
  show Tn _ _ 11 T σ [(0, .ref a), (1, .int (iI c))] [.int (iI v11)] _
  refine tn_iconst dX5_parameter_11 ?_
  refine tn_icmp_eq (tgt := 27) dX5_parameter_12 (by decide) ⟨by omega, by omega⟩ ⟨by decide, by decide⟩ (fun h12 => ?_) (fun h12 => ?_)
  · refine tn_iload_n dX5_parameter_27 rfl 1 rfl ?_
    refine tn_iconst dX5_parameter_28 ?_
    refine tn_icmp_le (tgt := 44) dX5_parameter_29 (by decide) ⟨by omega, by omega⟩ ⟨by decide, by decide⟩ (fun h13 => ?_) (fun h13 => ?_)
    · refine tn_aload_n dX5_parameter_44 rfl 0 rfl ?_
      refine tn_callV (M := m_X5_parameter) (pc := 45) (ix := 176) (ci := 5) (M' := m_X5_register) (As := []) (rest := []) dX5_parameter_45 ok_X5_register im_X5_register se_X5_register ml5_176 np_X5_register rfl rfl ha rfl (Nat.le_of_ble_eq_true rfl) (Nat.le_of_ble_eq_true rfl) rfl (k_X5_register (d) (T := T) (σ := σ) (a := a) ha hw ) (fun r14 T16 σ15 gt17 hp => ?_)
      obtain ⟨v19, rfl, rfl, w20, F21, f18⟩ := hp
      clear gt17
      show Tn _ _ 48 T σ15 [(0, .ref a), (1, .int (iI c))] [.int (iI v19)] _
      refine tn_pop dX5_parameter_48 rfl ?_
      refine tn_aload_n dX5_parameter_49 rfl 0 rfl ?_
      obtain ⟨x22, hx23, hk24, hl25⟩ : ∃ x : Nat, σ.2.1 37 a = (x : Int) ∧ AR T x 17 256 256 := wf_37 hw ha
      have hk24i : IA T x22 := by unfold IA; omega
      refine tn_getR (ci := 5) (i := 4) (n := 37) (x := x22) dX5_parameter_50 rfl lay_5 (by decide) fl5_28 ha rfl rfl (rc_F F21 (Or.inl (by decide)) (by decide) (hx23)) ?_
      refine tn_aload_n dX5_parameter_53 rfl 0 rfl ?_
      refine tn_getI (ci := 5) (i := 5) (n := 38) (t := σ.2.1 38 a) dX5_parameter_54 rfl lay_5 (by decide) fl5_58 ha rfl rfl (rc_F F21 (Or.inl (by decide)) (by decide) (rfl)) ?_
      have g26 : ((0 : Int) ≤ σ.2.1 38 a ∧ σ.2.1 38 a ≤ 256) := wf_38 hw ha
      refine tn_iconst dX5_parameter_57 ?_
      refine tn_isub dX5_parameter_58 ?_
      refine tn_iload_n dX5_parameter_59 rfl 1 rfl ?_
      refine tn_callSN (M := m_X5_parameter) (pc := 60) (ix := 129) (M' := m_X11_put) (As := [.ref x22, .int (iI ((σ.2.1 38 a) - 1)), .int (iI c)]) (rest := []) dX5_parameter_60 ok_X11_put stt_X11_put nl5_129 np_X11_put rfl (Nat.le_of_ble_eq_true rfl) (Nat.le_of_ble_eq_true rfl) rfl (k_X11_put_17 (d + 1) (T := T) (σ := σ15) (x := x22) (i := (σ.2.1 38 a) - 1) (y := c) hk24i (by omega) hk24 (by omega) (by omega) w20 ) (fun r27 T29 σ28 gt30 hp => ?_)
      obtain ⟨rfl, rfl, w33, F34, f31⟩ := hp
      clear gt30
      show Tn _ _ 63 T σ28 [(0, .ref a), (1, .int (iI c))] [] _
      refine tn_aload_n dX5_parameter_63 rfl 0 rfl ?_
      obtain ⟨x35, hx36, hk37⟩ : ∃ x : Nat, σ.2.1 35 a = (x : Int) ∧ (T x).1 = 31 := wf_35 hw ha
      have hk37o : OB T x35 1 := ⟨by omega, by rw [hk37]; rfl, by omega⟩
      refine tn_getR (ci := 5) (i := 2) (n := 35) (x := x35) dX5_parameter_64 rfl lay_5 (by decide) fl5_47 ha rfl rfl (rc_F F34 (Or.inl (by decide)) (by decide) (rc_F F21 (Or.inl (by decide)) (by decide) (hx36))) ?_
      refine tn_iload_n dX5_parameter_67 rfl 1 rfl ?_
      refine tn_iconst dX5_parameter_68 ?_
      refine tn_mmin (x := c) (y := 4) dX5_parameter_69 mlm5_117 stM_min iniM cdM_min (by omega) (Nat.le_of_ble_eq_true rfl) ⟨by omega, by omega⟩ ⟨by omega, by omega⟩ (fun z39 g40 => ?_)
      refine tn_putV (ci := 1) (i := 3) (n := 8) (r := false) (v := z39) tyX1 tyX1_ok nmX1 dX5_parameter_72 rfl lay_1 (by decide) fl5_180 rfl (tyX1_ok 3 (by decide)) rfl rfl rfl hk37o rfl rfl ?_
      exact tn_vret rfl dX5_parameter_75 ⟨rfl, rfl, (w33.put (by decide) (by decide) (fo_8 (by omega))), (((FrC.rfl.trans (FrC.sub F21 (by decide))).trans (FrC.sub F34 (by decide))).put (by decide) (by decide))⟩
    · refine tn_aload_n dX5_parameter_32 rfl 0 rfl ?_
      refine tn_iconst dX5_parameter_33 ?_
      refine tn_aload_n dX5_parameter_34 rfl 0 rfl ?_
      refine tn_getR (ci := 5) (i := 0) (n := 33) (x := x1) dX5_parameter_35 rfl lay_5 (by decide) fl5_12 ha rfl rfl (hx2) ?_
      refine tn_getI (ci := 9) (i := 6) (n := 87) (t := σ.2.1 87 x1) dX5_parameter_38 rfl lay_9 (by decide) fl5_74 hk3o rfl rfl (rfl) ?_
      have g41 : ((-2147483648 : Int) ≤ σ.2.1 87 x1 ∧ σ.2.1 87 x1 ≤ 2147483647) := wf_87 hw hk3o
      refine tn_callV (M := m_X5_parameter) (pc := 41) (ix := 113) (ci := 5) (M' := m_X5_note) (As := [.int (iI 5), .int (iI (σ.2.1 87 x1))]) (rest := []) dX5_parameter_41 ok_X5_note im_X5_note se_X5_note ml5_113 np_X5_note rfl rfl ha rfl (Nat.le_of_ble_eq_true rfl) (Nat.le_of_ble_eq_true rfl) rfl (k_X5_note (d + 1) (T := T) (σ := σ) (a := a) (p1 := 5) (p2 := σ.2.1 87 x1) ha (by decide) (by omega) hw ) (fun r42 T44 σ43 gt45 hp => ?_)
      obtain ⟨rfl, rfl, w47, F48⟩ := hp
      clear gt45
      show Tn _ _ 44 T σ43 [(0, .ref a), (1, .int (iI c))] [] _
      refine tn_aload_n dX5_parameter_44 rfl 0 rfl ?_
      refine tn_callV (M := m_X5_parameter) (pc := 45) (ix := 176) (ci := 5) (M' := m_X5_register) (As := []) (rest := []) dX5_parameter_45 ok_X5_register im_X5_register se_X5_register ml5_176 np_X5_register rfl rfl ha rfl (Nat.le_of_ble_eq_true rfl) (Nat.le_of_ble_eq_true rfl) rfl (k_X5_register (d) (T := T) (σ := σ43) (a := a) ha w47 ) (fun r49 T51 σ50 gt52 hp => ?_)
      obtain ⟨v54, rfl, rfl, w55, F56, f53⟩ := hp
      clear gt52
      show Tn _ _ 48 T σ50 [(0, .ref a), (1, .int (iI c))] [.int (iI v54)] _
      refine tn_pop dX5_parameter_48 rfl ?_
      refine tn_aload_n dX5_parameter_49 rfl 0 rfl ?_
      obtain ⟨x57, hx58, hk59, hl60⟩ : ∃ x : Nat, σ.2.1 37 a = (x : Int) ∧ AR T x 17 256 256 := wf_37 hw ha
      have hk59i : IA T x57 := by unfold IA; omega
      refine tn_getR (ci := 5) (i := 4) (n := 37) (x := x57) dX5_parameter_50 rfl lay_5 (by decide) fl5_28 ha rfl rfl (rc_F F56 (Or.inl (by decide)) (by decide) (rc_F F48 (Or.inl (by decide)) (by decide) (hx58))) ?_
      refine tn_aload_n dX5_parameter_53 rfl 0 rfl ?_
      refine tn_getI (ci := 5) (i := 5) (n := 38) (t := σ.2.1 38 a) dX5_parameter_54 rfl lay_5 (by decide) fl5_58 ha rfl rfl (rc_F F56 (Or.inl (by decide)) (by decide) (rc_F F48 (Or.inl (by decide)) (by decide) (rfl))) ?_
      have g61 : ((0 : Int) ≤ σ.2.1 38 a ∧ σ.2.1 38 a ≤ 256) := wf_38 hw ha
      refine tn_iconst dX5_parameter_57 ?_
      refine tn_isub dX5_parameter_58 ?_
      refine tn_iload_n dX5_parameter_59 rfl 1 rfl ?_
      refine tn_callSN (M := m_X5_parameter) (pc := 60) (ix := 129) (M' := m_X11_put) (As := [.ref x57, .int (iI ((σ.2.1 38 a) - 1)), .int (iI c)]) (rest := []) dX5_parameter_60 ok_X11_put stt_X11_put nl5_129 np_X11_put rfl (Nat.le_of_ble_eq_true rfl) (Nat.le_of_ble_eq_true rfl) rfl (k_X11_put_17 (d + 1) (T := T) (σ := σ50) (x := x57) (i := (σ.2.1 38 a) - 1) (y := c) hk59i (by omega) hk59 (by omega) (by omega) w55 ) (fun r62 T64 σ63 gt65 hp => ?_)
      obtain ⟨rfl, rfl, w68, F69, f66⟩ := hp
      clear gt65
      show Tn _ _ 63 T σ63 [(0, .ref a), (1, .int (iI c))] [] _
      refine tn_aload_n dX5_parameter_63 rfl 0 rfl ?_
      obtain ⟨x70, hx71, hk72⟩ : ∃ x : Nat, σ.2.1 35 a = (x : Int) ∧ (T x).1 = 31 := wf_35 hw ha
      have hk72o : OB T x70 1 := ⟨by omega, by rw [hk72]; rfl, by omega⟩
      refine tn_getR (ci := 5) (i := 2) (n := 35) (x := x70) dX5_parameter_64 rfl lay_5 (by decide) fl5_47 ha rfl rfl (rc_F F69 (Or.inl (by decide)) (by decide) (rc_F F56 (Or.inl (by decide)) (by decide) (rc_F F48 (Or.inl (by decide)) (by decide) (hx71)))) ?_
      refine tn_iload_n dX5_parameter_67 rfl 1 rfl ?_
      refine tn_iconst dX5_parameter_68 ?_
      refine tn_mmin (x := c) (y := 4) dX5_parameter_69 mlm5_117 stM_min iniM cdM_min (by omega) (Nat.le_of_ble_eq_true rfl) ⟨by omega, by omega⟩ ⟨by omega, by omega⟩ (fun z74 g75 => ?_)
      refine tn_putV (ci := 1) (i := 3) (n := 8) (r := false) (v := z74) tyX1 tyX1_ok nmX1 dX5_parameter_72 rfl lay_1 (by decide) fl5_180 rfl (tyX1_ok 3 (by decide)) rfl rfl rfl hk72o rfl rfl ?_
      exact tn_vret rfl dX5_parameter_75 ⟨rfl, rfl, (w68.put (by decide) (by decide) (fo_8 (by omega))), ((((FrC.rfl.trans (FrC.sub F48 (by decide))).trans (FrC.sub F56 (by decide))).trans (FrC.sub F69 (by decide))).put (by decide) (by decide))⟩
  · refine tn_aload_n dX5_parameter_15 rfl 0 rfl ?_
    refine tn_iconst dX5_parameter_16 ?_
    refine tn_aload_n dX5_parameter_17 rfl 0 rfl ?_
    refine tn_getR (ci := 5) (i := 0) (n := 33) (x := x1) dX5_parameter_18 rfl lay_5 (by decide) fl5_12 ha rfl rfl (hx2) ?_
    refine tn_getI (ci := 9) (i := 6) (n := 87) (t := σ.2.1 87 x1) dX5_parameter_21 rfl lay_9 (by decide) fl5_74 hk3o rfl rfl (rfl) ?_
    have g76 : ((-2147483648 : Int) ≤ σ.2.1 87 x1 ∧ σ.2.1 87 x1 ≤ 2147483647) := wf_87 hw hk3o
    refine tn_callV (M := m_X5_parameter) (pc := 24) (ix := 113) (ci := 5) (M' := m_X5_note) (As := [.int (iI 2), .int (iI (σ.2.1 87 x1))]) (rest := []) dX5_parameter_24 ok_X5_note im_X5_note se_X5_note ml5_113 np_X5_note rfl rfl ha rfl (Nat.le_of_ble_eq_true rfl) (Nat.le_of_ble_eq_true rfl) rfl (k_X5_note (d + 1) (T := T) (σ := σ) (a := a) (p1 := 2) (p2 := σ.2.1 87 x1) ha (by decide) (by omega) hw ) (fun r77 T79 σ78 gt80 hp => ?_)
    obtain ⟨rfl, rfl, w82, F83⟩ := hp
    clear gt80
    show Tn _ _ 27 T σ78 [(0, .ref a), (1, .int (iI c))] [] _
    refine tn_iload_n dX5_parameter_27 rfl 1 rfl ?_
    refine tn_iconst dX5_parameter_28 ?_
    refine tn_icmp_le (tgt := 44) dX5_parameter_29 (by decide) ⟨by omega, by omega⟩ ⟨by decide, by decide⟩ (fun h84 => ?_) (fun h84 => ?_)
    · refine tn_aload_n dX5_parameter_44 rfl 0 rfl ?_
      refine tn_callV (M := m_X5_parameter) (pc := 45) (ix := 176) (ci := 5) (M' := m_X5_register) (As := []) (rest := []) dX5_parameter_45 ok_X5_register im_X5_register se_X5_register ml5_176 np_X5_register rfl rfl ha rfl (Nat.le_of_ble_eq_true rfl) (Nat.le_of_ble_eq_true rfl) rfl (k_X5_register (d) (T := T) (σ := σ78) (a := a) ha w82 ) (fun r85 T87 σ86 gt88 hp => ?_)
      obtain ⟨v90, rfl, rfl, w91, F92, f89⟩ := hp
      clear gt88
      show Tn _ _ 48 T σ86 [(0, .ref a), (1, .int (iI c))] [.int (iI v90)] _
      refine tn_pop dX5_parameter_48 rfl ?_
      refine tn_aload_n dX5_parameter_49 rfl 0 rfl ?_
      obtain ⟨x93, hx94, hk95, hl96⟩ : ∃ x : Nat, σ.2.1 37 a = (x : Int) ∧ AR T x 17 256 256 := wf_37 hw ha
      have hk95i : IA T x93 := by unfold IA; omega
      refine tn_getR (ci := 5) (i := 4) (n := 37) (x := x93) dX5_parameter_50 rfl lay_5 (by decide) fl5_28 ha rfl rfl (rc_F F92 (Or.inl (by decide)) (by decide) (rc_F F83 (Or.inl (by decide)) (by decide) (hx94))) ?_
      refine tn_aload_n dX5_parameter_53 rfl 0 rfl ?_
      refine tn_getI (ci := 5) (i := 5) (n := 38) (t := σ.2.1 38 a) dX5_parameter_54 rfl lay_5 (by decide) fl5_58 ha rfl rfl (rc_F F92 (Or.inl (by decide)) (by decide) (rc_F F83 (Or.inl (by decide)) (by decide) (rfl))) ?_
      have g97 : ((0 : Int) ≤ σ.2.1 38 a ∧ σ.2.1 38 a ≤ 256) := wf_38 hw ha
      refine tn_iconst dX5_parameter_57 ?_
      refine tn_isub dX5_parameter_58 ?_
      refine tn_iload_n dX5_parameter_59 rfl 1 rfl ?_
      refine tn_callSN (M := m_X5_parameter) (pc := 60) (ix := 129) (M' := m_X11_put) (As := [.ref x93, .int (iI ((σ.2.1 38 a) - 1)), .int (iI c)]) (rest := []) dX5_parameter_60 ok_X11_put stt_X11_put nl5_129 np_X11_put rfl (Nat.le_of_ble_eq_true rfl) (Nat.le_of_ble_eq_true rfl) rfl (k_X11_put_17 (d + 1) (T := T) (σ := σ86) (x := x93) (i := (σ.2.1 38 a) - 1) (y := c) hk95i (by omega) hk95 (by omega) (by omega) w91 ) (fun r98 T100 σ99 gt101 hp => ?_)
      obtain ⟨rfl, rfl, w104, F105, f102⟩ := hp
      clear gt101
      show Tn _ _ 63 T σ99 [(0, .ref a), (1, .int (iI c))] [] _
      refine tn_aload_n dX5_parameter_63 rfl 0 rfl ?_
      obtain ⟨x106, hx107, hk108⟩ : ∃ x : Nat, σ.2.1 35 a = (x : Int) ∧ (T x).1 = 31 := wf_35 hw ha
      have hk108o : OB T x106 1 := ⟨by omega, by rw [hk108]; rfl, by omega⟩
      refine tn_getR (ci := 5) (i := 2) (n := 35) (x := x106) dX5_parameter_64 rfl lay_5 (by decide) fl5_47 ha rfl rfl (rc_F F105 (Or.inl (by decide)) (by decide) (rc_F F92 (Or.inl (by decide)) (by decide) (rc_F F83 (Or.inl (by decide)) (by decide) (hx107)))) ?_
      refine tn_iload_n dX5_parameter_67 rfl 1 rfl ?_
      refine tn_iconst dX5_parameter_68 ?_
      refine tn_mmin (x := c) (y := 4) dX5_parameter_69 mlm5_117 stM_min iniM cdM_min (by omega) (Nat.le_of_ble_eq_true rfl) ⟨by omega, by omega⟩ ⟨by omega, by omega⟩ (fun z110 g111 => ?_)
      refine tn_putV (ci := 1) (i := 3) (n := 8) (r := false) (v := z110) tyX1 tyX1_ok nmX1 dX5_parameter_72 rfl lay_1 (by decide) fl5_180 rfl (tyX1_ok 3 (by decide)) rfl rfl rfl hk108o rfl rfl ?_
      exact tn_vret rfl dX5_parameter_75 ⟨rfl, rfl, (w104.put (by decide) (by decide) (fo_8 (by omega))), ((((FrC.rfl.trans (FrC.sub F83 (by decide))).trans (FrC.sub F92 (by decide))).trans (FrC.sub F105 (by decide))).put (by decide) (by decide))⟩
    · refine tn_aload_n dX5_parameter_32 rfl 0 rfl ?_
      refine tn_iconst dX5_parameter_33 ?_
      refine tn_aload_n dX5_parameter_34 rfl 0 rfl ?_
      refine tn_getR (ci := 5) (i := 0) (n := 33) (x := x1) dX5_parameter_35 rfl lay_5 (by decide) fl5_12 ha rfl rfl (rc_F F83 (Or.inl (by decide)) (by decide) (hx2)) ?_
      refine tn_getI (ci := 9) (i := 6) (n := 87) (t := σ.2.1 87 x1) dX5_parameter_38 rfl lay_9 (by decide) fl5_74 hk3o rfl rfl (rc_F F83 (Or.inl (by decide)) (by decide) (rfl)) ?_
      refine tn_callV (M := m_X5_parameter) (pc := 41) (ix := 113) (ci := 5) (M' := m_X5_note) (As := [.int (iI 5), .int (iI (σ.2.1 87 x1))]) (rest := []) dX5_parameter_41 ok_X5_note im_X5_note se_X5_note ml5_113 np_X5_note rfl rfl ha rfl (Nat.le_of_ble_eq_true rfl) (Nat.le_of_ble_eq_true rfl) rfl (k_X5_note (d + 1) (T := T) (σ := σ78) (a := a) (p1 := 5) (p2 := σ.2.1 87 x1) ha (by decide) (by omega) w82 ) (fun r112 T114 σ113 gt115 hp => ?_)
      obtain ⟨rfl, rfl, w117, F118⟩ := hp
      clear gt115
      show Tn _ _ 44 T σ113 [(0, .ref a), (1, .int (iI c))] [] _
      refine tn_aload_n dX5_parameter_44 rfl 0 rfl ?_
      refine tn_callV (M := m_X5_parameter) (pc := 45) (ix := 176) (ci := 5) (M' := m_X5_register) (As := []) (rest := []) dX5_parameter_45 ok_X5_register im_X5_register se_X5_register ml5_176 np_X5_register rfl rfl ha rfl (Nat.le_of_ble_eq_true rfl) (Nat.le_of_ble_eq_true rfl) rfl (k_X5_register (d) (T := T) (σ := σ113) (a := a) ha w117 ) (fun r119 T121 σ120 gt122 hp => ?_)
      obtain ⟨v124, rfl, rfl, w125, F126, f123⟩ := hp
      clear gt122
      show Tn _ _ 48 T σ120 [(0, .ref a), (1, .int (iI c))] [.int (iI v124)] _
      refine tn_pop dX5_parameter_48 rfl ?_
      refine tn_aload_n dX5_parameter_49 rfl 0 rfl ?_
      obtain ⟨x127, hx128, hk129, hl130⟩ : ∃ x : Nat, σ.2.1 37 a = (x : Int) ∧ AR T x 17 256 256 := wf_37 hw ha
      have hk129i : IA T x127 := by unfold IA; omega
      refine tn_getR (ci := 5) (i := 4) (n := 37) (x := x127) dX5_parameter_50 rfl lay_5 (by decide) fl5_28 ha rfl rfl (rc_F F126 (Or.inl (by decide)) (by decide) (rc_F F118 (Or.inl (by decide)) (by decide) (rc_F F83 (Or.inl (by decide)) (by decide) (hx128)))) ?_
      refine tn_aload_n dX5_parameter_53 rfl 0 rfl ?_
      refine tn_getI (ci := 5) (i := 5) (n := 38) (t := σ.2.1 38 a) dX5_parameter_54 rfl lay_5 (by decide) fl5_58 ha rfl rfl (rc_F F126 (Or.inl (by decide)) (by decide) (rc_F F118 (Or.inl (by decide)) (by decide) (rc_F F83 (Or.inl (by decide)) (by decide) (rfl)))) ?_
      have g131 : ((0 : Int) ≤ σ.2.1 38 a ∧ σ.2.1 38 a ≤ 256) := wf_38 hw ha
      refine tn_iconst dX5_parameter_57 ?_
      refine tn_isub dX5_parameter_58 ?_
      refine tn_iload_n dX5_parameter_59 rfl 1 rfl ?_
      refine tn_callSN (M := m_X5_parameter) (pc := 60) (ix := 129) (M' := m_X11_put) (As := [.ref x127, .int (iI ((σ.2.1 38 a) - 1)), .int (iI c)]) (rest := []) dX5_parameter_60 ok_X11_put stt_X11_put nl5_129 np_X11_put rfl (Nat.le_of_ble_eq_true rfl) (Nat.le_of_ble_eq_true rfl) rfl (k_X11_put_17 (d + 1) (T := T) (σ := σ120) (x := x127) (i := (σ.2.1 38 a) - 1) (y := c) hk129i (by omega) hk129 (by omega) (by omega) w125 ) (fun r132 T134 σ133 gt135 hp => ?_)
      obtain ⟨rfl, rfl, w138, F139, f136⟩ := hp
      clear gt135
      show Tn _ _ 63 T σ133 [(0, .ref a), (1, .int (iI c))] [] _
      refine tn_aload_n dX5_parameter_63 rfl 0 rfl ?_
      obtain ⟨x140, hx141, hk142⟩ : ∃ x : Nat, σ.2.1 35 a = (x : Int) ∧ (T x).1 = 31 := wf_35 hw ha
      have hk142o : OB T x140 1 := ⟨by omega, by rw [hk142]; rfl, by omega⟩
      refine tn_getR (ci := 5) (i := 2) (n := 35) (x := x140) dX5_parameter_64 rfl lay_5 (by decide) fl5_47 ha rfl rfl (rc_F F139 (Or.inl (by decide)) (by decide) (rc_F F126 (Or.inl (by decide)) (by decide) (rc_F F118 (Or.inl (by decide)) (by decide) (rc_F F83 (Or.inl (by decide)) (by decide) (hx141))))) ?_
      refine tn_iload_n dX5_parameter_67 rfl 1 rfl ?_
      refine tn_iconst dX5_parameter_68 ?_
      refine tn_mmin (x := c) (y := 4) dX5_parameter_69 mlm5_117 stM_min iniM cdM_min (by omega) (Nat.le_of_ble_eq_true rfl) ⟨by omega, by omega⟩ ⟨by omega, by omega⟩ (fun z144 g145 => ?_)
      refine tn_putV (ci := 1) (i := 3) (n := 8) (r := false) (v := z144) tyX1 tyX1_ok nmX1 dX5_parameter_72 rfl lay_1 (by decide) fl5_180 rfl (tyX1_ok 3 (by decide)) rfl rfl rfl hk142o rfl rfl ?_
      exact tn_vret rfl dX5_parameter_75 ⟨rfl, rfl, (w138.put (by decide) (by decide) (fo_8 (by omega))), (((((FrC.rfl.trans (FrC.sub F83 (by decide))).trans (FrC.sub F118 (by decide))).trans (FrC.sub F126 (by decide))).trans (FrC.sub F139 (by decide))).put (by decide) (by decide))⟩
end
section
theorem cd_X5_parameters : Cond.code yX5_parameters cX5_parameters 2 (some .boolean) ∈ pWW := pw3 (List.mem_of_getElem? (i := 100) rfl) rfl
abbrev m_X5_parameters : MT := (yX5_parameters, cX5_parameters, 2, (some .boolean))
theorem ok_X5_parameters : pOk m_X5_parameters := ⟨⟨cd_X5_parameters, ini_5⟩, by decide +kernel, ⟨by decide +kernel, by decide +kernel⟩, Nat.le_of_ble_eq_true rfl⟩
theorem np_X5_parameters : (parseMethodDescriptor yX5_parameters.desc).map (fun d => d.parameters.length) = some 0 := by decide +kernel
theorem im_X5_parameters : Cond.instanceMethod yX5_parameters ∈ pWW := pw3 (List.mem_of_getElem? (i := 99) rfl) rfl
theorem se_X5_parameters : Cond.selects RX5 yX5_parameters yX5_parameters ∈ pWW := pws (List.mem_map.mpr ⟨_, lw_pin 10 rfl, rfl⟩) rfl
theorem ml5_170 : Cond.methodLink RX5 170 yX5_parameter ∈ pWW := pw3 (List.mem_of_getElem? (i := 101) rfl) rfl
theorem dX5_parameters_0 : decode cX5_parameters 0 = .ok (.aload_n 0, 1) := by decide +kernel
theorem dX5_parameters_1 : decode cX5_parameters 1 = .ok (.getfield 12, 3) := by decide +kernel
theorem dX5_parameters_4 : decode cX5_parameters 4 = .ok (.getfield 71, 3) := by decide +kernel
theorem dX5_parameters_7 : decode cX5_parameters 7 = .ok (.bipush 41, 2) := by decide +kernel
theorem dX5_parameters_9 : decode cX5_parameters 9 = .ok (.if_icmp .ne 5, 3) := by decide +kernel
theorem dX5_parameters_14 : decode cX5_parameters 14 = .ok (.iconst 0, 1) := by decide +kernel
theorem dX5_parameters_15 : decode cX5_parameters 15 = .ok (.istore_n 1, 1) := by decide +kernel
theorem dX5_parameters_16 : decode cX5_parameters 16 = .ok (.iload_n 1, 1) := by decide +kernel
theorem dX5_parameters_17 : decode cX5_parameters 17 = .ok (.sipush 1200, 3) := by decide +kernel
theorem dX5_parameters_20 : decode cX5_parameters 20 = .ok (.if_icmp .ge 62, 3) := by decide +kernel
theorem dX5_parameters_23 : decode cX5_parameters 23 = .ok (.aload_n 0, 1) := by decide +kernel
theorem dX5_parameters_24 : decode cX5_parameters 24 = .ok (.getfield 12, 3) := by decide +kernel
theorem dX5_parameters_27 : decode cX5_parameters 27 = .ok (.getfield 71, 3) := by decide +kernel
theorem dX5_parameters_30 : decode cX5_parameters 30 = .ok (.sipush 256, 3) := by decide +kernel
theorem dX5_parameters_33 : decode cX5_parameters 33 = .ok (.if_icmp .eq 8, 3) := by decide +kernel
theorem dX5_parameters_41 : decode cX5_parameters 41 = .ok (.aload_n 0, 1) := by decide +kernel
theorem dX5_parameters_42 : decode cX5_parameters 42 = .ok (.iload_n 1, 1) := by decide +kernel
theorem dX5_parameters_43 : decode cX5_parameters 43 = .ok (.iconst 1, 1) := by decide +kernel
theorem dX5_parameters_44 : decode cX5_parameters 44 = .ok (.iadd, 1) := by decide +kernel
theorem dX5_parameters_45 : decode cX5_parameters 45 = .ok (.invokevirtual 170, 3) := by decide +kernel
theorem dX5_parameters_48 : decode cX5_parameters 48 = .ok (.aload_n 0, 1) := by decide +kernel
theorem dX5_parameters_49 : decode cX5_parameters 49 = .ok (.getfield 12, 3) := by decide +kernel
theorem dX5_parameters_52 : decode cX5_parameters 52 = .ok (.invokevirtual 93, 3) := by decide +kernel
theorem dX5_parameters_55 : decode cX5_parameters 55 = .ok (.aload_n 0, 1) := by decide +kernel
theorem dX5_parameters_56 : decode cX5_parameters 56 = .ok (.getfield 12, 3) := by decide +kernel
theorem dX5_parameters_59 : decode cX5_parameters 59 = .ok (.getfield 71, 3) := by decide +kernel
theorem dX5_parameters_62 : decode cX5_parameters 62 = .ok (.bipush 44, 2) := by decide +kernel
theorem dX5_parameters_64 : decode cX5_parameters 64 = .ok (.if_icmp .eq 5, 3) := by decide +kernel
theorem dX5_parameters_69 : decode cX5_parameters 69 = .ok (.aload_n 0, 1) := by decide +kernel
theorem dX5_parameters_70 : decode cX5_parameters 70 = .ok (.getfield 12, 3) := by decide +kernel
theorem dX5_parameters_73 : decode cX5_parameters 73 = .ok (.invokevirtual 93, 3) := by decide +kernel
theorem dX5_parameters_76 : decode cX5_parameters 76 = .ok (.iinc 1 1, 3) := by decide +kernel
theorem dX5_parameters_79 : decode cX5_parameters 79 = .ok (.goto (-63), 3) := by decide +kernel
set_option maxRecDepth 20000 in
theorem l_X5_parameters_16 (d : Nat) {T : CT} {σ0 : MS} {a : Nat} {kp : Int} {post : Option Value → CT → MS → Prop} (h_a : OB T a 5) (hw0 : WT T σ0) (hkp : kp ≤ 150) (hx_36 : ∀ (i1 : Int) (σ : MS) , (WT T σ) → (FrC T [7, 8, 43, 44, 84, 85, 86, 87, 517, 521] σ0 σ) → (0 ≤ i1 ∧ i1 ≤ 2147483647) → (RP σ a kp) → Tn (d + 4) m_X5_parameters 36 T σ [(0, .ref a), (1, .int (iI i1))] [] post) (hx_67 : ∀ (i1 : Int) (σ : MS) , (WT T σ) → (FrC T [7, 8, 43, 44, 84, 85, 86, 87, 517, 521] σ0 σ) → (0 ≤ i1 ∧ i1 ≤ 2147483647) → (RP σ a kp) → Tn (d + 4) m_X5_parameters 67 T σ [(0, .ref a), (1, .int (iI i1))] [] post) (hx_82 : ∀ (i1 : Int) (σ : MS) , (WT T σ) → (FrC T [7, 8, 43, 44, 84, 85, 86, 87, 517, 521] σ0 σ) → (0 ≤ i1 ∧ i1 ≤ 2147483647) → (RP σ a kp) → Tn (d + 4) m_X5_parameters 82 T σ [(0, .ref a), (1, .int (iI i1))] [] post) : ∀ (n : Nat) (i1 : Int) (σ : MS) , (WT T σ) → (FrC T [7, 8, 43, 44, 84, 85, 86, 87, 517, 521] σ0 σ) → (0 ≤ i1 ∧ i1 ≤ 2147483647) → (RP σ a kp) → (2147483700 - i1).toNat = n → Tn (d + 4) m_X5_parameters 16 T σ [(0, .ref a), (1, .int (iI i1))] [] post := by
  intro n
  induction n using Nat.strongRecOn with
  | _ n ih =>
    intro i1 σ hw hF r_i1 hrp hm
    refine tn_iload_n dX5_parameters_16 rfl 1 rfl ?_
    refine tn_sipush dX5_parameters_17 (by decide) ?_
    refine tn_icmp_ge (tgt := 82) dX5_parameters_20 (by decide) ⟨by omega, by omega⟩ ⟨by decide, by decide⟩ (fun h1 => ?_) (fun h1 => ?_)
    · exact tn_sub [0, 1] rfl (hx_82 (i1) σ hw (FrC.rfl.trans (FrC.sub hF (by decide))) (by omega) (RP.up hrp (by omega)))
    · refine tn_aload_n dX5_parameters_23 rfl 0 rfl ?_
      obtain ⟨x2, hx3, hk4⟩ : ∃ x : Nat, σ0.2.1 33 a = (x : Int) ∧ (T x).1 = 39 := wf_33 hw0 h_a
      have hk4o : OB T x2 9 := ⟨by omega, by rw [hk4]; rfl, by omega⟩
      refine tn_getR (ci := 5) (i := 0) (n := 33) (x := x2) dX5_parameters_24 rfl lay_5 (by decide) fl5_12 h_a rfl rfl (rc_F hF (Or.inl (by decide)) (by decide) (hx3)) ?_
      refine tn_getI (ci := 9) (i := 4) (n := 85) (t := σ.2.1 85 x2) dX5_parameters_27 rfl lay_9 (by decide) fl5_71 hk4o rfl rfl (rfl) ?_
      have g6 : ((-2147483648 : Int) ≤ σ.2.1 85 x2 ∧ σ.2.1 85 x2 ≤ 2147483647) := wf_85 hw hk4o
      refine tn_sipush dX5_parameters_30 (by decide) ?_
      refine tn_icmp_eq (tgt := 41) dX5_parameters_33 (by decide) ⟨by omega, by omega⟩ ⟨by decide, by decide⟩ (fun h7 => ?_) (fun h7 => ?_)
      · refine tn_aload_n dX5_parameters_41 rfl 0 rfl ?_
        refine tn_iload_n dX5_parameters_42 rfl 1 rfl ?_
        refine tn_iconst dX5_parameters_43 ?_
        refine tn_iadd dX5_parameters_44 ?_
        refine tn_callV (M := m_X5_parameters) (pc := 45) (ix := 170) (ci := 5) (M' := m_X5_parameter) (As := [.int (iI (i1 + 1))]) (rest := []) dX5_parameters_45 ok_X5_parameter im_X5_parameter se_X5_parameter ml5_170 np_X5_parameter rfl rfl h_a rfl (Nat.le_of_ble_eq_true rfl) (Nat.le_of_ble_eq_true rfl) rfl (k_X5_parameter (d) (T := T) (σ := σ) (a := a) (c := i1 + 1) h_a (by omega) hw (by omega)) (fun r8 T10 σ9 gt11 hp => ?_)
        obtain ⟨rfl, rfl, w13, F14⟩ := hp
        clear gt11
        have rp15 : RP σ9 a (kp) := RP.frc hrp F14 (by decide) (by decide) (by decide) (by decide) (by decide)
        show Tn _ _ 48 T σ9 [(0, .ref a), (1, .int (iI i1))] [] _
        refine tn_aload_n dX5_parameters_48 rfl 0 rfl ?_
        refine tn_getR (ci := 5) (i := 0) (n := 33) (x := x2) dX5_parameters_49 rfl lay_5 (by decide) fl5_12 h_a rfl rfl (rc_F F14 (Or.inl (by decide)) (by decide) (rc_F hF (Or.inl (by decide)) (by decide) (hx3))) ?_
        have q20 : σ9.2.1 84 x2 = σ.2.1 84 x2 := rc_F F14 (Or.inl (by decide)) (by decide) (rfl)
        refine tn_callV (M := m_X5_parameters) (pc := 52) (ix := 93) (ci := 9) (M' := m_X9_next) (As := []) (rest := []) dX5_parameters_52 ok_X9_next im_X9_next se_X9_next ml5_93 np_X9_next rfl rfl hk4o rfl (Nat.le_of_ble_eq_true rfl) (Nat.le_of_ble_eq_true rfl) rfl (k_X9_next (d + 2) (T := T) (σ := σ9) (a := x2) hk4o w13 (RP.tk rp15 w13 h_a (rc_F F14 (Or.inl (by decide)) (by decide) (rc_F hF (Or.inl (by decide)) (by decide) (hx3))))) (fun r16 T18 σ17 gt19 hp => ?_)
        obtain ⟨rfl, rfl, w25, F26, f21, f22, f23⟩ := hp
        clear gt19
        have rp27 : RP σ17 a (kp - 4) := RP.next4 rp15 (rc_F F14 (Or.inl (by decide)) (by decide) (rc_F hF (Or.inl (by decide)) (by decide) (hx3))) F26 (by decide) (by decide) (by decide) f21 f23 (by rw [show σ9.2.1 85 x2 = σ.2.1 85 x2 from rc_F F14 (Or.inl (by decide)) (by decide) (rfl)]; omega)
        show Tn _ _ 55 T σ17 [(0, .ref a), (1, .int (iI i1))] [] _
        refine tn_aload_n dX5_parameters_55 rfl 0 rfl ?_
        refine tn_getR (ci := 5) (i := 0) (n := 33) (x := x2) dX5_parameters_56 rfl lay_5 (by decide) fl5_12 h_a rfl rfl (rc_F F26 (Or.inl (by decide)) (by decide) (rc_F F14 (Or.inl (by decide)) (by decide) (rc_F hF (Or.inl (by decide)) (by decide) (hx3)))) ?_
        refine tn_getI (ci := 9) (i := 4) (n := 85) (t := σ17.2.1 85 x2) dX5_parameters_59 rfl lay_9 (by decide) fl5_71 hk4o rfl rfl (rfl) ?_
        have g28 : ((-2147483648 : Int) ≤ σ17.2.1 85 x2 ∧ σ17.2.1 85 x2 ≤ 2147483647) := wf_85 w25 hk4o
        refine tn_bipush dX5_parameters_62 (by decide) ?_
        refine tn_icmp_eq (tgt := 69) dX5_parameters_64 (by decide) ⟨by omega, by omega⟩ ⟨by decide, by decide⟩ (fun h29 => ?_) (fun h29 => ?_)
        · refine tn_aload_n dX5_parameters_69 rfl 0 rfl ?_
          refine tn_getR (ci := 5) (i := 0) (n := 33) (x := x2) dX5_parameters_70 rfl lay_5 (by decide) fl5_12 h_a rfl rfl (rc_F F26 (Or.inl (by decide)) (by decide) (rc_F F14 (Or.inl (by decide)) (by decide) (rc_F hF (Or.inl (by decide)) (by decide) (hx3)))) ?_
          refine tn_callV (M := m_X5_parameters) (pc := 73) (ix := 93) (ci := 9) (M' := m_X9_next) (As := []) (rest := []) dX5_parameters_73 ok_X9_next im_X9_next se_X9_next ml5_93 np_X9_next rfl rfl hk4o rfl (Nat.le_of_ble_eq_true rfl) (Nat.le_of_ble_eq_true rfl) rfl (k_X9_next (d + 2) (T := T) (σ := σ17) (a := x2) hk4o w25 (RP.tk rp27 w25 h_a (rc_F F26 (Or.inl (by decide)) (by decide) (rc_F F14 (Or.inl (by decide)) (by decide) (rc_F hF (Or.inl (by decide)) (by decide) (hx3)))))) (fun r30 T32 σ31 gt33 hp => ?_)
          obtain ⟨rfl, rfl, w38, F39, f34, f35, f36⟩ := hp
          clear gt33
          have rp40 : RP σ31 a (kp - 4 - 4) := RP.next4 rp27 (rc_F F26 (Or.inl (by decide)) (by decide) (rc_F F14 (Or.inl (by decide)) (by decide) (rc_F hF (Or.inl (by decide)) (by decide) (hx3)))) F39 (by decide) (by decide) (by decide) f34 f36 (by rw [show σ17.2.1 85 x2 = σ17.2.1 85 x2 from rfl]; omega)
          have rp41 : RP σ31 a (kp - 8) := RP.up rp40 (by omega)
          show Tn _ _ 76 T σ31 [(0, .ref a), (1, .int (iI i1))] [] _
          refine tn_iinc (q0 := 1) (L' := [(1, .int (iI (i1 + 1))), (0, .ref a)]) dX5_parameters_76 rfl (by decide) rfl ?_
          refine tn_goto (tgt := 16) dX5_parameters_79 (by decide) ?_
          exact tn_sub [1, 0] rfl (ih _ (by omega) (i1 + 1) σ31 w38 ((((FrC.rfl.trans (FrC.sub hF (by decide))).trans (FrC.sub F14 (by decide))).trans (FrC.sub F26 (by decide))).trans (FrC.sub F39 (by decide))) (by omega) (RP.up rp41 (by omega)) rfl)
        · exact tn_sub [0, 1] rfl (hx_67 (i1) σ17 w25 (((FrC.rfl.trans (FrC.sub hF (by decide))).trans (FrC.sub F14 (by decide))).trans (FrC.sub F26 (by decide))) (by omega) (RP.up rp27 (by omega)))
      · exact tn_sub [0, 1] rfl (hx_36 (i1) σ hw (FrC.rfl.trans (FrC.sub hF (by decide))) (by omega) (RP.up hrp (by omega)))
theorem dX5_parameters_36 : decode cX5_parameters 36 = .ok (.aload_n 0, 1) := by decide +kernel
theorem dX5_parameters_37 : decode cX5_parameters 37 = .ok (.invokevirtual 90, 3) := by decide +kernel
theorem dX5_parameters_40 : decode cX5_parameters 40 = .ok (.ireturn, 1) := by decide +kernel
theorem dX5_parameters_67 : decode cX5_parameters 67 = .ok (.iconst 1, 1) := by decide +kernel
theorem dX5_parameters_68 : decode cX5_parameters 68 = .ok (.ireturn, 1) := by decide +kernel
theorem dX5_parameters_82 : decode cX5_parameters 82 = .ok (.aload_n 0, 1) := by decide +kernel
theorem dX5_parameters_83 : decode cX5_parameters 83 = .ok (.invokevirtual 90, 3) := by decide +kernel
theorem dX5_parameters_86 : decode cX5_parameters 86 = .ok (.ireturn, 1) := by decide +kernel
theorem dX5_parameters_12 : decode cX5_parameters 12 = .ok (.iconst 1, 1) := by decide +kernel
theorem dX5_parameters_13 : decode cX5_parameters 13 = .ok (.ireturn, 1) := by decide +kernel
set_option maxRecDepth 20000 in
theorem k_X5_parameters (d : Nat) {T : CT} {σ : MS} {a : Nat} {kp : Int} (ha : OB T a 5) (hw : WT T σ) (hkp : kp ≤ 150) (hrp : RP σ a kp) : Tn (d + 4) m_X5_parameters 0 T σ [(0, .ref a)] [] (fun ro T2 σ2 => ∃ v : Int, ro = some (.int (iI v)) ∧ T = T2 ∧ WT T2 σ2 ∧ FrC T [7, 8, 43, 44, 84, 85, 86, 87, 517, 521] σ σ2 ∧ (v = 0 ∨ v = 1) ∧ (RP σ2 a (kp))) := by
  refine tn_aload_n dX5_parameters_0 rfl 0 rfl ?_
  obtain ⟨x1, hx2, hk3⟩ : ∃ x : Nat, σ.2.1 33 a = (x : Int) ∧ (T x).1 = 39 := wf_33 hw ha
  have hk3o : OB T x1 9 := ⟨by omega, by rw [hk3]; rfl, by omega⟩
  refine tn_getR (ci := 5) (i := 0) (n := 33) (x := x1) dX5_parameters_1 rfl lay_5 (by decide) fl5_12 ha rfl rfl (hx2) ?_
  refine tn_getI (ci := 9) (i := 4) (n := 85) (t := σ.2.1 85 x1) dX5_parameters_4 rfl lay_9 (by decide) fl5_71 hk3o rfl rfl (rfl) ?_
  have g5 : ((-2147483648 : Int) ≤ σ.2.1 85 x1 ∧ σ.2.1 85 x1 ≤ 2147483647) := wf_85 hw hk3o
  refine tn_bipush dX5_parameters_7 (by decide) ?_
  refine tn_icmp_ne (tgt := 14) dX5_parameters_9 (by decide) ⟨by omega, by omega⟩ ⟨by decide, by decide⟩ (fun h6 => ?_) (fun h6 => ?_)
  · refine tn_iconst dX5_parameters_14 ?_
    refine tn_istore_n (L' := [(1, .int (iI 0)), (0, .ref a)]) dX5_parameters_15 rfl (by decide) rfl ?_
    refine tn_sub [1, 0] rfl (l_X5_parameters_16 (d) (T := T) (σ0 := σ) (a := a) (kp := kp) ha hw (by omega) (fun i17 σ8 w11 F12 r13 f14 => ?_) (fun i115 σ16 w19 F20 r21 f22 => ?_) (fun i123 σ24 w27 F28 r29 f30 => ?_) _ (0) σ hw FrC.rfl (by omega) hrp rfl)
    · show Tn _ _ 36 T σ8 [(0, .ref a), (1, .int (iI i17))] [] _
      refine tn_aload_n dX5_parameters_36 rfl 0 rfl ?_
      refine tn_callV (M := m_X5_parameters) (pc := 37) (ix := 90) (ci := 5) (M' := m_X5_refuse) (As := []) (rest := []) dX5_parameters_37 ok_X5_refuse im_X5_refuse se_X5_refuse ml5_90 np_X5_refuse rfl rfl ha rfl (Nat.le_of_ble_eq_true rfl) (Nat.le_of_ble_eq_true rfl) rfl (k_X5_refuse (d + 2) (T := T) (σ := σ8) (a := a) ha w11 ) (fun r31 T33 σ32 gt34 hp => ?_)
      obtain ⟨v37, rfl, rfl, w38, F39, f35, f36⟩ := hp
      clear gt34
      have rp40 : RP σ32 a (kp) := RP.frc f14 F39 (by decide) (by decide) (by decide) (by decide) (by decide)
      show Tn _ _ 40 T σ32 [(0, .ref a), (1, .int (iI i17))] [.int (iI v37)] _
      exact tn_zret (v := v37) rfl (by omega) dX5_parameters_40 ⟨_, rfl, rfl, w38, ((FrC.rfl.trans (FrC.sub F12 (by decide))).trans (FrC.sub F39 (by decide))), by omega, (RP.up rp40 (by omega))⟩
    · show Tn _ _ 67 T σ16 [(0, .ref a), (1, .int (iI i115))] [] _
      refine tn_iconst dX5_parameters_67 ?_
      exact tn_zret (v := 1) rfl (by decide) dX5_parameters_68 ⟨_, rfl, rfl, w19, (FrC.rfl.trans (FrC.sub F20 (by decide))), by omega, (RP.up f22 (by omega))⟩
    · show Tn _ _ 82 T σ24 [(0, .ref a), (1, .int (iI i123))] [] _
      refine tn_aload_n dX5_parameters_82 rfl 0 rfl ?_
      refine tn_callV (M := m_X5_parameters) (pc := 83) (ix := 90) (ci := 5) (M' := m_X5_refuse) (As := []) (rest := []) dX5_parameters_83 ok_X5_refuse im_X5_refuse se_X5_refuse ml5_90 np_X5_refuse rfl rfl ha rfl (Nat.le_of_ble_eq_true rfl) (Nat.le_of_ble_eq_true rfl) rfl (k_X5_refuse (d + 2) (T := T) (σ := σ24) (a := a) ha w27 ) (fun r41 T43 σ42 gt44 hp => ?_)
      obtain ⟨v47, rfl, rfl, w48, F49, f45, f46⟩ := hp
      clear gt44
      have rp50 : RP σ42 a (kp) := RP.frc f30 F49 (by decide) (by decide) (by decide) (by decide) (by decide)
      show Tn _ _ 86 T σ42 [(0, .ref a), (1, .int (iI i123))] [.int (iI v47)] _
      exact tn_zret (v := v47) rfl (by omega) dX5_parameters_86 ⟨_, rfl, rfl, w48, ((FrC.rfl.trans (FrC.sub F28 (by decide))).trans (FrC.sub F49 (by decide))), by omega, (RP.up rp50 (by omega))⟩
  · refine tn_iconst dX5_parameters_12 ?_
    exact tn_zret (v := 1) rfl (by decide) dX5_parameters_13 ⟨_, rfl, rfl, hw, FrC.rfl, by omega, (RP.up hrp (by omega))⟩
end
section
theorem cd_X5_header : Cond.code yX5_header cX5_header 1 (some .boolean) ∈ pWW := pw3 (List.mem_of_getElem? (i := 64) rfl) rfl
abbrev m_X5_header : MT := (yX5_header, cX5_header, 1, (some .boolean))
theorem ok_X5_header : pOk m_X5_header := ⟨⟨cd_X5_header, ini_5⟩, by decide +kernel, ⟨by decide +kernel, by decide +kernel⟩, Nat.le_of_ble_eq_true rfl⟩
theorem np_X5_header : (parseMethodDescriptor yX5_header.desc).map (fun d => d.parameters.length) = some 0 := by decide +kernel
theorem im_X5_header : Cond.instanceMethod yX5_header ∈ pWW := pw3 (List.mem_of_getElem? (i := 63) rfl) rfl
theorem se_X5_header : Cond.selects RX5 yX5_header yX5_header ∈ pWW := pws (List.mem_map.mpr ⟨_, lw_pin 4 rfl, rfl⟩) rfl
theorem ml5_99 : Cond.methodLink RX5 99 yX5_openRoutine ∈ pWW := pw3 (List.mem_of_getElem? (i := 69) rfl) rfl
theorem ml5_106 : Cond.methodLink RX5 106 yX5_parameters ∈ pWW := pw3 (List.mem_of_getElem? (i := 97) rfl) rfl
theorem dX5_header_0 : decode cX5_header 0 = .ok (.aload_n 0, 1) := by decide +kernel
theorem dX5_header_1 : decode cX5_header 1 = .ok (.getfield 12, 3) := by decide +kernel
theorem dX5_header_4 : decode cX5_header 4 = .ok (.getfield 71, 3) := by decide +kernel
theorem dX5_header_7 : decode cX5_header 7 = .ok (.sipush 256, 3) := by decide +kernel
theorem dX5_header_10 : decode cX5_header 10 = .ok (.if_icmp .eq 8, 3) := by decide +kernel
theorem dX5_header_18 : decode cX5_header 18 = .ok (.aload_n 0, 1) := by decide +kernel
theorem dX5_header_19 : decode cX5_header 19 = .ok (.aload_n 0, 1) := by decide +kernel
theorem dX5_header_20 : decode cX5_header 20 = .ok (.getfield 12, 3) := by decide +kernel
theorem dX5_header_23 : decode cX5_header 23 = .ok (.getfield 96, 3) := by decide +kernel
theorem dX5_header_26 : decode cX5_header 26 = .ok (.invokevirtual 99, 3) := by decide +kernel
theorem dX5_header_29 : decode cX5_header 29 = .ok (.aload_n 0, 1) := by decide +kernel
theorem dX5_header_30 : decode cX5_header 30 = .ok (.getfield 12, 3) := by decide +kernel
theorem dX5_header_33 : decode cX5_header 33 = .ok (.invokevirtual 93, 3) := by decide +kernel
theorem dX5_header_36 : decode cX5_header 36 = .ok (.aload_n 0, 1) := by decide +kernel
theorem dX5_header_37 : decode cX5_header 37 = .ok (.bipush 40, 2) := by decide +kernel
theorem dX5_header_39 : decode cX5_header 39 = .ok (.invokevirtual 102, 3) := by decide +kernel
theorem dX5_header_42 : decode cX5_header 42 = .ok (.ifCond .eq 23, 3) := by decide +kernel
theorem dX5_header_65 : decode cX5_header 65 = .ok (.iconst 0, 1) := by decide +kernel
theorem dX5_header_66 : decode cX5_header 66 = .ok (.ireturn, 1) := by decide +kernel
theorem dX5_header_45 : decode cX5_header 45 = .ok (.aload_n 0, 1) := by decide +kernel
theorem dX5_header_46 : decode cX5_header 46 = .ok (.invokevirtual 106, 3) := by decide +kernel
theorem dX5_header_49 : decode cX5_header 49 = .ok (.ifCond .eq 16, 3) := by decide +kernel
theorem dX5_header_52 : decode cX5_header 52 = .ok (.aload_n 0, 1) := by decide +kernel
theorem dX5_header_53 : decode cX5_header 53 = .ok (.bipush 41, 2) := by decide +kernel
theorem dX5_header_55 : decode cX5_header 55 = .ok (.invokevirtual 102, 3) := by decide +kernel
theorem dX5_header_58 : decode cX5_header 58 = .ok (.ifCond .eq 7, 3) := by decide +kernel
theorem dX5_header_61 : decode cX5_header 61 = .ok (.iconst 1, 1) := by decide +kernel
theorem dX5_header_62 : decode cX5_header 62 = .ok (.goto 4, 3) := by decide +kernel
theorem dX5_header_13 : decode cX5_header 13 = .ok (.aload_n 0, 1) := by decide +kernel
theorem dX5_header_14 : decode cX5_header 14 = .ok (.invokevirtual 90, 3) := by decide +kernel
theorem dX5_header_17 : decode cX5_header 17 = .ok (.ireturn, 1) := by decide +kernel
set_option maxRecDepth 20000 in
theorem k_X5_header (d : Nat) {T : CT} {σ : MS} {a : Nat} (ha : OB T a 5) (hw : WT T σ) (hrt : RT σ a) : Tn (d + 5) m_X5_header 0 T σ [(0, .ref a)] [] (fun ro T2 σ2 => ∃ v : Int, ro = some (.int (iI v)) ∧ T = T2 ∧ WT T2 σ2 ∧ FrC T [6, 7, 8, 9, 10, 35, 38, 43, 44, 46, 47, 84, 85, 86, 87, 516, 517, 521] σ σ2 ∧ (v = 0 ∨ v = 1) ∧ (v = 1 → RP σ2 a 4)) := by
  refine tn_aload_n dX5_header_0 rfl 0 rfl ?_
  obtain ⟨x1, hx2, hk3⟩ : ∃ x : Nat, σ.2.1 33 a = (x : Int) ∧ (T x).1 = 39 := wf_33 hw ha
  have hk3o : OB T x1 9 := ⟨by omega, by rw [hk3]; rfl, by omega⟩
  refine tn_getR (ci := 5) (i := 0) (n := 33) (x := x1) dX5_header_1 rfl lay_5 (by decide) fl5_12 ha rfl rfl (hx2) ?_
  refine tn_getI (ci := 9) (i := 4) (n := 85) (t := σ.2.1 85 x1) dX5_header_4 rfl lay_9 (by decide) fl5_71 hk3o rfl rfl (rfl) ?_
  have g5 : ((-2147483648 : Int) ≤ σ.2.1 85 x1 ∧ σ.2.1 85 x1 ≤ 2147483647) := wf_85 hw hk3o
  refine tn_sipush dX5_header_7 (by decide) ?_
  refine tn_icmp_eq (tgt := 18) dX5_header_10 (by decide) ⟨by omega, by omega⟩ ⟨by decide, by decide⟩ (fun h6 => ?_) (fun h6 => ?_)
  · refine tn_aload_n dX5_header_18 rfl 0 rfl ?_
    refine tn_aload_n dX5_header_19 rfl 0 rfl ?_
    refine tn_getR (ci := 5) (i := 0) (n := 33) (x := x1) dX5_header_20 rfl lay_5 (by decide) fl5_12 ha rfl rfl (hx2) ?_
    refine tn_getI (ci := 9) (i := 5) (n := 86) (t := σ.2.1 86 x1) dX5_header_23 rfl lay_9 (by decide) fl5_96 hk3o rfl rfl (rfl) ?_
    have g7 : ((-2147483648 : Int) ≤ σ.2.1 86 x1 ∧ σ.2.1 86 x1 ≤ 2147483647) := wf_86 hw hk3o
    refine tn_callV (M := m_X5_header) (pc := 26) (ix := 99) (ci := 5) (M' := m_X5_openRoutine) (As := [.int (iI (σ.2.1 86 x1))]) (rest := []) dX5_header_26 ok_X5_openRoutine im_X5_openRoutine se_X5_openRoutine ml5_99 np_X5_openRoutine rfl rfl ha rfl (Nat.le_of_ble_eq_true rfl) (Nat.le_of_ble_eq_true rfl) rfl (k_X5_openRoutine (d + 1) (T := T) (σ := σ) (a := a) (k := σ.2.1 86 x1) ha (by omega) hw hrt) (fun r8 T10 σ9 gt11 hp => ?_)
    obtain ⟨rfl, rfl, w14, F15, f12⟩ := hp
    clear gt11
    show Tn _ _ 29 T σ9 [(0, .ref a)] [] _
    refine tn_aload_n dX5_header_29 rfl 0 rfl ?_
    refine tn_getR (ci := 5) (i := 0) (n := 33) (x := x1) dX5_header_30 rfl lay_5 (by decide) fl5_12 ha rfl rfl (rc_F F15 (Or.inl (by decide)) (by decide) (hx2)) ?_
    have q20 : σ9.2.1 84 x1 = σ.2.1 84 x1 := rc_F F15 (Or.inl (by decide)) (by decide) (rfl)
    refine tn_callV (M := m_X5_header) (pc := 33) (ix := 93) (ci := 9) (M' := m_X9_next) (As := []) (rest := []) dX5_header_33 ok_X9_next im_X9_next se_X9_next ml5_93 np_X9_next rfl rfl hk3o rfl (Nat.le_of_ble_eq_true rfl) (Nat.le_of_ble_eq_true rfl) rfl (k_X9_next (d + 3) (T := T) (σ := σ9) (a := x1) hk3o w14 (RP.tk f12 w14 ha (rc_F F15 (Or.inl (by decide)) (by decide) (hx2)))) (fun r16 T18 σ17 gt19 hp => ?_)
    obtain ⟨rfl, rfl, w25, F26, f21, f22, f23⟩ := hp
    clear gt19
    have rp27 : RP σ17 a (4 - 4) := RP.next4 f12 (rc_F F15 (Or.inl (by decide)) (by decide) (hx2)) F26 (by decide) (by decide) (by decide) f21 f23 (by rw [show σ9.2.1 85 x1 = σ.2.1 85 x1 from rc_F F15 (Or.inl (by decide)) (by decide) (rfl)]; omega)
    have rp28 : RP σ17 a (0) := RP.up rp27 (by omega)
    show Tn _ _ 36 T σ17 [(0, .ref a)] [] _
    refine tn_aload_n dX5_header_36 rfl 0 rfl ?_
    refine tn_bipush dX5_header_37 (by decide) ?_
    refine tn_callV (M := m_X5_header) (pc := 39) (ix := 102) (ci := 5) (M' := m_X5_taken) (As := [.int (iI 40)]) (rest := []) dX5_header_39 ok_X5_taken im_X5_taken se_X5_taken ml5_102 np_X5_taken rfl rfl ha rfl (Nat.le_of_ble_eq_true rfl) (Nat.le_of_ble_eq_true rfl) rfl (k_X5_taken (d + 2) (T := T) (σ := σ17) (a := a) (s := 40) (kp := 0) ha (by decide) w25 (by omega) (by omega) rp28) (fun r29 T31 σ30 gt32 hp => ?_)
    obtain ⟨v35, rfl, rfl, w36, F37, f33, f34⟩ := hp
    clear gt32
    have rp39 : RP σ30 a (- 4 * v35) := RP.up f34 (by omega)
    show Tn _ _ 42 T σ30 [(0, .ref a)] [.int (iI v35)] _
    refine tn_if_eq (tgt := 65) dX5_header_42 (by decide) ⟨by omega, by omega⟩ (fun h40 => ?_) (fun h40 => ?_)
    · refine tn_iconst dX5_header_65 ?_
      exact tn_zret (v := 0) rfl (by decide) dX5_header_66 ⟨_, rfl, rfl, w36, (((FrC.rfl.trans (FrC.sub F15 (by decide))).trans (FrC.sub F26 (by decide))).trans (FrC.sub F37 (by decide))), by omega, fun _ => (RP.up rp39 (by omega))⟩
    · refine tn_aload_n dX5_header_45 rfl 0 rfl ?_
      refine tn_callV (M := m_X5_header) (pc := 46) (ix := 106) (ci := 5) (M' := m_X5_parameters) (As := []) (rest := []) dX5_header_46 ok_X5_parameters im_X5_parameters se_X5_parameters ml5_106 np_X5_parameters rfl rfl ha rfl (Nat.le_of_ble_eq_true rfl) (Nat.le_of_ble_eq_true rfl) rfl (k_X5_parameters (d) (T := T) (σ := σ30) (a := a) (kp := - 4 * v35) ha w36 (by omega) rp39) (fun r41 T43 σ42 gt44 hp => ?_)
      obtain ⟨v47, rfl, rfl, w48, F49, f45, f46⟩ := hp
      clear gt44
      show Tn _ _ 49 T σ42 [(0, .ref a)] [.int (iI v47)] _
      refine tn_if_eq (tgt := 65) dX5_header_49 (by decide) ⟨by omega, by omega⟩ (fun h51 => ?_) (fun h51 => ?_)
      · refine tn_iconst dX5_header_65 ?_
        exact tn_zret (v := 0) rfl (by decide) dX5_header_66 ⟨_, rfl, rfl, w48, ((((FrC.rfl.trans (FrC.sub F15 (by decide))).trans (FrC.sub F26 (by decide))).trans (FrC.sub F37 (by decide))).trans (FrC.sub F49 (by decide))), by omega, fun _ => (RP.up f46 (by omega))⟩
      · refine tn_aload_n dX5_header_52 rfl 0 rfl ?_
        refine tn_bipush dX5_header_53 (by decide) ?_
        refine tn_callV (M := m_X5_header) (pc := 55) (ix := 102) (ci := 5) (M' := m_X5_taken) (As := [.int (iI 41)]) (rest := []) dX5_header_55 ok_X5_taken im_X5_taken se_X5_taken ml5_102 np_X5_taken rfl rfl ha rfl (Nat.le_of_ble_eq_true rfl) (Nat.le_of_ble_eq_true rfl) rfl (k_X5_taken (d + 2) (T := T) (σ := σ42) (a := a) (s := 41) (kp := - 4 * v35) ha (by decide) w48 (by omega) (by omega) f46) (fun r52 T54 σ53 gt55 hp => ?_)
        obtain ⟨v58, rfl, rfl, w59, F60, f56, f57⟩ := hp
        clear gt55
        show Tn _ _ 58 T σ53 [(0, .ref a)] [.int (iI v58)] _
        refine tn_if_eq (tgt := 65) dX5_header_58 (by decide) ⟨by omega, by omega⟩ (fun h62 => ?_) (fun h62 => ?_)
        · refine tn_iconst dX5_header_65 ?_
          exact tn_zret (v := 0) rfl (by decide) dX5_header_66 ⟨_, rfl, rfl, w59, (((((FrC.rfl.trans (FrC.sub F15 (by decide))).trans (FrC.sub F26 (by decide))).trans (FrC.sub F37 (by decide))).trans (FrC.sub F49 (by decide))).trans (FrC.sub F60 (by decide))), by omega, fun _ => (RP.up f57 (by omega))⟩
        · refine tn_iconst dX5_header_61 ?_
          refine tn_goto (tgt := 66) dX5_header_62 (by decide) ?_
          exact tn_zret (v := 1) rfl (by decide) dX5_header_66 ⟨_, rfl, rfl, w59, (((((FrC.rfl.trans (FrC.sub F15 (by decide))).trans (FrC.sub F26 (by decide))).trans (FrC.sub F37 (by decide))).trans (FrC.sub F49 (by decide))).trans (FrC.sub F60 (by decide))), by omega, fun _ => (RP.up f57 (by omega))⟩
  · refine tn_aload_n dX5_header_13 rfl 0 rfl ?_
    refine tn_callV (M := m_X5_header) (pc := 14) (ix := 90) (ci := 5) (M' := m_X5_refuse) (As := []) (rest := []) dX5_header_14 ok_X5_refuse im_X5_refuse se_X5_refuse ml5_90 np_X5_refuse rfl rfl ha rfl (Nat.le_of_ble_eq_true rfl) (Nat.le_of_ble_eq_true rfl) rfl (k_X5_refuse (d + 3) (T := T) (σ := σ) (a := a) ha hw ) (fun r63 T65 σ64 gt66 hp => ?_)
    obtain ⟨v69, rfl, rfl, w70, F71, f67, f68⟩ := hp
    clear gt66
    show Tn _ _ 17 T σ64 [(0, .ref a)] [.int (iI v69)] _
    exact tn_zret (v := v69) rfl (by omega) dX5_header_17 ⟨_, rfl, rfl, w70, (FrC.rfl.trans (FrC.sub F71 (by decide))), by omega, fun q => by omega⟩
end
section
theorem cd_X5_closeRoutine : Cond.code yX5_closeRoutine cX5_closeRoutine 3 none ∈ pWW := pw3 (List.mem_of_getElem? (i := 229) rfl) rfl
abbrev m_X5_closeRoutine : MT := (yX5_closeRoutine, cX5_closeRoutine, 3, none)
theorem ok_X5_closeRoutine : pOk m_X5_closeRoutine := ⟨⟨cd_X5_closeRoutine, ini_5⟩, by decide +kernel, ⟨by decide +kernel, by decide +kernel⟩, Nat.le_of_ble_eq_true rfl⟩
theorem np_X5_closeRoutine : (parseMethodDescriptor yX5_closeRoutine.desc).map (fun d => d.parameters.length) = some 1 := by decide +kernel
theorem im_X5_closeRoutine : Cond.instanceMethod yX5_closeRoutine ∈ pWW := pw3 (List.mem_of_getElem? (i := 228) rfl) rfl
theorem se_X5_closeRoutine : Cond.selects RX5 yX5_closeRoutine yX5_closeRoutine ∈ pWW := pws (List.mem_map.mpr ⟨_, lw_pin 31 rfl, rfl⟩) rfl
theorem fl5_149 : Cond.fieldLink RX5 149 (TX1 9).1 (TX1 9).2.1 (TX1 9).2.2.1 ∈ pWW := pw1 (List.mem_of_getElem? (i := 120) rfl) rfl
theorem fl5_155 : Cond.fieldLink RX5 155 (TX1 10).1 (TX1 10).2.1 (TX1 10).2.2.1 ∈ pWW := pw1 (List.mem_of_getElem? (i := 125) rfl) rfl
theorem dX5_closeRoutine_0 : decode cX5_closeRoutine 0 = .ok (.aload_n 0, 1) := by decide +kernel
theorem dX5_closeRoutine_1 : decode cX5_closeRoutine 1 = .ok (.getfield 47, 3) := by decide +kernel
theorem dX5_closeRoutine_4 : decode cX5_closeRoutine 4 = .ok (.bipush 7, 2) := by decide +kernel
theorem dX5_closeRoutine_6 : decode cX5_closeRoutine 6 = .ok (.iconst 0, 1) := by decide +kernel
theorem dX5_closeRoutine_7 : decode cX5_closeRoutine 7 = .ok (.iconst 0, 1) := by decide +kernel
theorem dX5_closeRoutine_8 : decode cX5_closeRoutine 8 = .ok (.invokevirtual 139, 3) := by decide +kernel
theorem dX5_closeRoutine_11 : decode cX5_closeRoutine 11 = .ok (.aload_n 0, 1) := by decide +kernel
theorem dX5_closeRoutine_12 : decode cX5_closeRoutine 12 = .ok (.getfield 47, 3) := by decide +kernel
theorem dX5_closeRoutine_15 : decode cX5_closeRoutine 15 = .ok (.iconst 0, 1) := by decide +kernel
theorem dX5_closeRoutine_16 : decode cX5_closeRoutine 16 = .ok (.iconst 1, 1) := by decide +kernel
theorem dX5_closeRoutine_17 : decode cX5_closeRoutine 17 = .ok (.iconst 0, 1) := by decide +kernel
theorem dX5_closeRoutine_18 : decode cX5_closeRoutine 18 = .ok (.invokevirtual 143, 3) := by decide +kernel
theorem dX5_closeRoutine_21 : decode cX5_closeRoutine 21 = .ok (.aload_n 0, 1) := by decide +kernel
theorem dX5_closeRoutine_22 : decode cX5_closeRoutine 22 = .ok (.getfield 47, 3) := by decide +kernel
theorem dX5_closeRoutine_25 : decode cX5_closeRoutine 25 = .ok (.getfield 146, 3) := by decide +kernel
theorem dX5_closeRoutine_28 : decode cX5_closeRoutine 28 = .ok (.bipush 120, 2) := by decide +kernel
theorem dX5_closeRoutine_30 : decode cX5_closeRoutine 30 = .ok (.if_icmp .le 9, 3) := by decide +kernel
theorem dX5_closeRoutine_39 : decode cX5_closeRoutine 39 = .ok (.aload_n 0, 1) := by decide +kernel
theorem dX5_closeRoutine_40 : decode cX5_closeRoutine 40 = .ok (.getfield 47, 3) := by decide +kernel
theorem dX5_closeRoutine_43 : decode cX5_closeRoutine 43 = .ok (.getfield 149, 3) := by decide +kernel
theorem dX5_closeRoutine_46 : decode cX5_closeRoutine 46 = .ok (.iconst 0, 1) := by decide +kernel
theorem dX5_closeRoutine_47 : decode cX5_closeRoutine 47 = .ok (.aload_n 0, 1) := by decide +kernel
theorem dX5_closeRoutine_48 : decode cX5_closeRoutine 48 = .ok (.getfield 47, 3) := by decide +kernel
theorem dX5_closeRoutine_51 : decode cX5_closeRoutine 51 = .ok (.getfield 152, 3) := by decide +kernel
theorem dX5_closeRoutine_54 : decode cX5_closeRoutine 54 = .ok (.invokestatic 129, 3) := by decide +kernel
theorem dX5_closeRoutine_57 : decode cX5_closeRoutine 57 = .ok (.iconst 0, 1) := by decide +kernel
theorem dX5_closeRoutine_58 : decode cX5_closeRoutine 58 = .ok (.istore_n 2, 1) := by decide +kernel
theorem dX5_closeRoutine_59 : decode cX5_closeRoutine 59 = .ok (.iload_n 2, 1) := by decide +kernel
theorem dX5_closeRoutine_60 : decode cX5_closeRoutine 60 = .ok (.aload_n 0, 1) := by decide +kernel
theorem dX5_closeRoutine_61 : decode cX5_closeRoutine 61 = .ok (.getfield 47, 3) := by decide +kernel
theorem dX5_closeRoutine_64 : decode cX5_closeRoutine 64 = .ok (.getfield 152, 3) := by decide +kernel
theorem dX5_closeRoutine_67 : decode cX5_closeRoutine 67 = .ok (.if_icmp .ge 21, 3) := by decide +kernel
theorem dX5_closeRoutine_70 : decode cX5_closeRoutine 70 = .ok (.aload_n 0, 1) := by decide +kernel
theorem dX5_closeRoutine_71 : decode cX5_closeRoutine 71 = .ok (.getfield 47, 3) := by decide +kernel
theorem dX5_closeRoutine_74 : decode cX5_closeRoutine 74 = .ok (.getfield 155, 3) := by decide +kernel
theorem dX5_closeRoutine_77 : decode cX5_closeRoutine 77 = .ok (.iload_n 2, 1) := by decide +kernel
theorem dX5_closeRoutine_78 : decode cX5_closeRoutine 78 = .ok (.iload_n 2, 1) := by decide +kernel
theorem dX5_closeRoutine_79 : decode cX5_closeRoutine 79 = .ok (.invokestatic 129, 3) := by decide +kernel
theorem dX5_closeRoutine_82 : decode cX5_closeRoutine 82 = .ok (.iinc 2 1, 3) := by decide +kernel
theorem dX5_closeRoutine_85 : decode cX5_closeRoutine 85 = .ok (.goto (-26), 3) := by decide +kernel
set_option maxRecDepth 20000 in
theorem l_X5_closeRoutine_59 (d : Nat) {T : CT} {σ0 : MS} {a : Nat} {kp : Int} {post : Option Value → CT → MS → Prop} (h_a : OB T a 5) (hw0 : WT T σ0) (hkp : kp ≤ 150) (hx_88 : ∀ (i2 : Int) (σ : MS) , (WT T σ) → (FrC T [] σ0 σ) → (0 ≤ i2 ∧ i2 ≤ 2147483647) → (RP σ a kp) → Tn (d + 4) m_X5_closeRoutine 88 T σ [(0, .ref a), (2, .int (iI i2))] [] post) : ∀ (n : Nat) (i2 : Int) (σ : MS) , (WT T σ) → (FrC T [] σ0 σ) → (0 ≤ i2 ∧ i2 ≤ 2147483647) → (RP σ a kp) → (2147483700 - i2).toNat = n → Tn (d + 4) m_X5_closeRoutine 59 T σ [(0, .ref a), (2, .int (iI i2))] [] post := by
  intro n
  induction n using Nat.strongRecOn with
  | _ n ih =>
    intro i2 σ hw hF r_i2 hrp hm
    refine tn_iload_n dX5_closeRoutine_59 rfl 1 rfl ?_
    refine tn_aload_n dX5_closeRoutine_60 rfl 0 rfl ?_
    obtain ⟨x1, hx2, hk3⟩ : ∃ x : Nat, σ0.2.1 35 a = (x : Int) ∧ (T x).1 = 31 := wf_35 hw0 h_a
    have hk3o : OB T x1 1 := ⟨by omega, by rw [hk3]; rfl, by omega⟩
    refine tn_getR (ci := 5) (i := 2) (n := 35) (x := x1) dX5_closeRoutine_61 rfl lay_5 (by decide) fl5_47 h_a rfl rfl (rc_F hF (Or.inl (by decide)) (by decide) (hx2)) ?_
    refine tn_getI (ci := 1) (i := 2) (n := 7) (t := σ0.2.1 7 x1) dX5_closeRoutine_64 rfl lay_1 (by decide) fl5_152 hk3o rfl rfl (rc_F hF (Or.inl (by decide)) (by decide) (rfl)) ?_
    have g5 : ((0 : Int) ≤ σ0.2.1 7 x1 ∧ σ0.2.1 7 x1 ≤ 12) := wf_7 hw0 hk3o
    refine tn_icmp_ge (tgt := 88) dX5_closeRoutine_67 (by decide) ⟨by omega, by omega⟩ ⟨by omega, by omega⟩ (fun h6 => ?_) (fun h6 => ?_)
    · exact tn_sub [0, 1] rfl (hx_88 (i2) σ hw (FrC.rfl.trans (FrC.sub hF (by decide))) (by omega) (RP.up hrp (by omega)))
    · refine tn_aload_n dX5_closeRoutine_70 rfl 0 rfl ?_
      refine tn_getR (ci := 5) (i := 2) (n := 35) (x := x1) dX5_closeRoutine_71 rfl lay_5 (by decide) fl5_47 h_a rfl rfl (rc_F hF (Or.inl (by decide)) (by decide) (hx2)) ?_
      obtain ⟨x7, hx8, hk9, hl10⟩ : ∃ x : Nat, σ0.2.1 15 x1 = (x : Int) ∧ AR T x 1 144 144 := wf_15 hw0 hk3o
      have hk9i : IA T x7 := by unfold IA; omega
      refine tn_getR (ci := 1) (i := 10) (n := 15) (x := x7) dX5_closeRoutine_74 rfl lay_1 (by decide) fl5_155 hk3o rfl rfl (rc_F hF (Or.inl (by decide)) (by decide) (hx8)) ?_
      refine tn_iload_n dX5_closeRoutine_77 rfl 1 rfl ?_
      refine tn_iload_n dX5_closeRoutine_78 rfl 1 rfl ?_
      refine tn_callSN (M := m_X5_closeRoutine) (pc := 79) (ix := 129) (M' := m_X11_put) (As := [.ref x7, .int (iI i2), .int (iI i2)]) (rest := []) dX5_closeRoutine_79 ok_X11_put stt_X11_put nl5_129 np_X11_put rfl (Nat.le_of_ble_eq_true rfl) (Nat.le_of_ble_eq_true rfl) rfl (k_X11_put (d + 2) (T := T) (σ := σ) (x := x7) (i := i2) (y := i2) hk9i (by omega) (by omega) (by omega) hw (nh_k hk9 (by unfold HT; omega)) (vok_1 (by have q9 := hk9; omega) (by omega))) (fun r11 T13 σ12 gt14 hp => ?_)
      obtain ⟨rfl, rfl, w16, F17⟩ := hp
      clear gt14
      have rp18 : RP σ12 a (kp) := RP.frc hrp F17 (by decide) (by decide) (by decide) (by decide) (by decide)
      show Tn _ _ 82 T σ12 [(0, .ref a), (2, .int (iI i2))] [] _
      refine tn_iinc (q0 := 1) (L' := [(2, .int (iI (i2 + 1))), (0, .ref a)]) dX5_closeRoutine_82 rfl (by decide) rfl ?_
      refine tn_goto (tgt := 59) dX5_closeRoutine_85 (by decide) ?_
      exact tn_sub [1, 0] rfl (ih _ (by omega) (i2 + 1) σ12 w16 ((FrC.rfl.trans (FrC.sub hF (by decide))).trans (FrC.sub F17 (by decide))) (by omega) (RP.up rp18 (by omega)) rfl)
theorem ml5_158 : Cond.methodLink RX5 158 yX5_numberNew ∈ pWW := pw3 (List.mem_of_getElem? (i := 230) rfl) rfl
theorem dX5_closeRoutine_88 : decode cX5_closeRoutine 88 = .ok (.iconst 0, 1) := by decide +kernel
theorem dX5_closeRoutine_89 : decode cX5_closeRoutine 89 = .ok (.istore_n 2, 1) := by decide +kernel
theorem dX5_closeRoutine_90 : decode cX5_closeRoutine 90 = .ok (.iload_n 2, 1) := by decide +kernel
theorem dX5_closeRoutine_91 : decode cX5_closeRoutine 91 = .ok (.aload_n 0, 1) := by decide +kernel
theorem dX5_closeRoutine_92 : decode cX5_closeRoutine 92 = .ok (.getfield 47, 3) := by decide +kernel
theorem dX5_closeRoutine_95 : decode cX5_closeRoutine 95 = .ok (.getfield 146, 3) := by decide +kernel
theorem dX5_closeRoutine_98 : decode cX5_closeRoutine 98 = .ok (.if_icmp .ge 20, 3) := by decide +kernel
theorem dX5_closeRoutine_101 : decode cX5_closeRoutine 101 = .ok (.iload_n 2, 1) := by decide +kernel
theorem dX5_closeRoutine_102 : decode cX5_closeRoutine 102 = .ok (.bipush 120, 2) := by decide +kernel
theorem dX5_closeRoutine_104 : decode cX5_closeRoutine 104 = .ok (.if_icmp .ge 14, 3) := by decide +kernel
theorem dX5_closeRoutine_107 : decode cX5_closeRoutine 107 = .ok (.aload_n 0, 1) := by decide +kernel
theorem dX5_closeRoutine_108 : decode cX5_closeRoutine 108 = .ok (.iload_n 2, 1) := by decide +kernel
theorem dX5_closeRoutine_109 : decode cX5_closeRoutine 109 = .ok (.invokevirtual 158, 3) := by decide +kernel
theorem dX5_closeRoutine_112 : decode cX5_closeRoutine 112 = .ok (.iinc 2 1, 3) := by decide +kernel
theorem dX5_closeRoutine_115 : decode cX5_closeRoutine 115 = .ok (.goto (-25), 3) := by decide +kernel
set_option maxRecDepth 20000 in
theorem l_X5_closeRoutine_90 (d : Nat) {T : CT} {σ0 : MS} {a : Nat} {kp : Int} {post : Option Value → CT → MS → Prop} (h_a : OB T a 5) (hw0 : WT T σ0) (hkp : kp ≤ 150) (hx_118 : ∀ (i2 : Int) (σ : MS) , (WT T σ) → (FrC T [] σ0 σ) → (0 ≤ i2 ∧ i2 ≤ 2147483647) → (RP σ a kp) → Tn (d + 4) m_X5_closeRoutine 118 T σ [(0, .ref a), (2, .int (iI i2))] [] post) : ∀ (n : Nat) (i2 : Int) (σ : MS) , (WT T σ) → (FrC T [] σ0 σ) → (0 ≤ i2 ∧ i2 ≤ 2147483647) → (RP σ a kp) → (2147483700 - i2).toNat = n → Tn (d + 4) m_X5_closeRoutine 90 T σ [(0, .ref a), (2, .int (iI i2))] [] post := by
  intro n
  induction n using Nat.strongRecOn with
  | _ n ih =>
    intro i2 σ hw hF r_i2 hrp hm
    refine tn_iload_n dX5_closeRoutine_90 rfl 1 rfl ?_
    refine tn_aload_n dX5_closeRoutine_91 rfl 0 rfl ?_
    obtain ⟨x1, hx2, hk3⟩ : ∃ x : Nat, σ0.2.1 35 a = (x : Int) ∧ (T x).1 = 31 := wf_35 hw0 h_a
    have hk3o : OB T x1 1 := ⟨by omega, by rw [hk3]; rfl, by omega⟩
    refine tn_getR (ci := 5) (i := 2) (n := 35) (x := x1) dX5_closeRoutine_92 rfl lay_5 (by decide) fl5_47 h_a rfl rfl (rc_F hF (Or.inl (by decide)) (by decide) (hx2)) ?_
    refine tn_getI (ci := 1) (i := 1) (n := 6) (t := σ0.2.1 6 x1) dX5_closeRoutine_95 rfl lay_1 (by decide) fl5_146 hk3o rfl rfl (rc_F hF (Or.inl (by decide)) (by decide) (rfl)) ?_
    have g5 : ((0 : Int) ≤ σ0.2.1 6 x1 ∧ σ0.2.1 6 x1 ≤ 5000) ∧ ((T x1).1 = 50 → σ0.2.1 6 x1 ≤ 200) := wf_6 hw0 hk3o
    have g5x := g5.2
    replace g5 := g5.1
    clear g5x
    refine tn_icmp_ge (tgt := 118) dX5_closeRoutine_98 (by decide) ⟨by omega, by omega⟩ ⟨by omega, by omega⟩ (fun h6 => ?_) (fun h6 => ?_)
    · exact tn_sub [0, 1] rfl (hx_118 (i2) σ hw (FrC.rfl.trans (FrC.sub hF (by decide))) (by omega) (RP.up hrp (by omega)))
    · refine tn_iload_n dX5_closeRoutine_101 rfl 1 rfl ?_
      refine tn_bipush dX5_closeRoutine_102 (by decide) ?_
      refine tn_icmp_ge (tgt := 118) dX5_closeRoutine_104 (by decide) ⟨by omega, by omega⟩ ⟨by decide, by decide⟩ (fun h7 => ?_) (fun h7 => ?_)
      · exact tn_sub [0, 1] rfl (hx_118 (i2) σ hw (FrC.rfl.trans (FrC.sub hF (by decide))) (by omega) (RP.up hrp (by omega)))
      · refine tn_aload_n dX5_closeRoutine_107 rfl 0 rfl ?_
        refine tn_iload_n dX5_closeRoutine_108 rfl 1 rfl ?_
        refine tn_callV (M := m_X5_closeRoutine) (pc := 109) (ix := 158) (ci := 5) (M' := m_X5_numberNew) (As := [.int (iI i2)]) (rest := []) dX5_closeRoutine_109 ok_X5_numberNew im_X5_numberNew se_X5_numberNew ml5_158 np_X5_numberNew rfl rfl h_a rfl (Nat.le_of_ble_eq_true rfl) (Nat.le_of_ble_eq_true rfl) rfl (k_X5_numberNew (d) (T := T) (σ := σ) (a := a) (k := i2) h_a (by omega) hw ) (fun r8 T10 σ9 gt11 hp => ?_)
        obtain ⟨rfl, rfl, w13, F14⟩ := hp
        clear gt11
        have rp15 : RP σ9 a (kp) := RP.frc hrp F14 (by decide) (by decide) (by decide) (by decide) (by decide)
        show Tn _ _ 112 T σ9 [(0, .ref a), (2, .int (iI i2))] [] _
        refine tn_iinc (q0 := 1) (L' := [(2, .int (iI (i2 + 1))), (0, .ref a)]) dX5_closeRoutine_112 rfl (by decide) rfl ?_
        refine tn_goto (tgt := 90) dX5_closeRoutine_115 (by decide) ?_
        exact tn_sub [1, 0] rfl (ih _ (by omega) (i2 + 1) σ9 w13 ((FrC.rfl.trans (FrC.sub hF (by decide))).trans (FrC.sub F14 (by decide))) (by omega) (RP.up rp15 (by omega)) rfl)
theorem dX5_closeRoutine_118 : decode cX5_closeRoutine 118 = .ok (.return_, 1) := by decide +kernel
theorem dX5_closeRoutine_33 : decode cX5_closeRoutine 33 = .ok (.aload_n 0, 1) := by decide +kernel
theorem dX5_closeRoutine_34 : decode cX5_closeRoutine 34 = .ok (.iconst 5, 1) := by decide +kernel
theorem dX5_closeRoutine_35 : decode cX5_closeRoutine 35 = .ok (.iload_n 1, 1) := by decide +kernel
theorem dX5_closeRoutine_36 : decode cX5_closeRoutine 36 = .ok (.invokevirtual 113, 3) := by decide +kernel
set_option maxRecDepth 20000 in
theorem k_X5_closeRoutine (d : Nat) {T : CT} {σ : MS} {a : Nat} {w : Int} {kp : Int} (ha : OB T a 5) (h_w : -2147483648 ≤ w ∧ w ≤ 2147483647) (hw : WT T σ) (hkp : kp ≤ 140) (hrp : RP σ a kp) : Tn (d + 4) m_X5_closeRoutine 0 T σ [(0, .ref a), (1, .int (iI w))] [] (fun ro T2 σ2 => ro = none ∧ WT T2 σ2 ∧ FrC T [5, 6, 43, 44] σ σ2 ∧ (RP σ2 a (kp + 1))) := by
  refine tn_aload_n dX5_closeRoutine_0 rfl 0 rfl ?_
  obtain ⟨x1, hx2, hk3⟩ : ∃ x : Nat, σ.2.1 35 a = (x : Int) ∧ (T x).1 = 31 := wf_35 hw ha
  have hk3o : OB T x1 1 := ⟨by omega, by rw [hk3]; rfl, by omega⟩
  refine tn_getR (ci := 5) (i := 2) (n := 35) (x := x1) dX5_closeRoutine_1 rfl lay_5 (by decide) fl5_47 ha rfl rfl (hx2) ?_
  refine tn_bipush dX5_closeRoutine_4 (by decide) ?_
  refine tn_iconst dX5_closeRoutine_6 ?_
  refine tn_iconst dX5_closeRoutine_7 ?_
  refine tn_callV (M := m_X5_closeRoutine) (pc := 8) (ix := 139) (ci := 1) (M' := m_X1_append) (As := [.int (iI 7), .int (iI 0), .int (iI 0)]) (rest := []) dX5_closeRoutine_8 ok_X1_append im_X1_append se_X1_append ml5_139 np_X1_append rfl rfl hk3o rfl (Nat.le_of_ble_eq_true rfl) (Nat.le_of_ble_eq_true rfl) rfl (k_X1_append (d) (T := T) (σ := σ) (a := x1) (k := 7) (x := 0) (y := 0) hk3o hk3 (by decide) (by decide) (by decide) hw (RP.cnt hrp hw ha (hx2) (by omega)) (by omega)) (fun r5 T7 σ6 gt8 hp => ?_)
  obtain ⟨rfl, w11, F12, f9⟩ := hp
  replace ha : OB T7 a 5 := gt8.ob ha
  have rp13 : RP σ6 a (kp + 1) := RP.app hrp (hx2) F12 (by decide) (by decide) (by decide) (by decide) f9
  show Tn _ _ 11 T7 σ6 [(0, .ref a), (1, .int (iI w))] [] _
  refine tn_aload_n dX5_closeRoutine_11 rfl 0 rfl ?_
  obtain ⟨x14, hx15, hk16⟩ : ∃ x : Nat, σ6.2.1 35 a = (x : Int) ∧ (T7 x).1 = 31 := wf_35 w11 ha
  have hk16o : OB T7 x14 1 := ⟨by omega, by rw [hk16]; rfl, by omega⟩
  refine tn_getR (ci := 5) (i := 2) (n := 35) (x := x14) dX5_closeRoutine_12 rfl lay_5 (by decide) fl5_47 ha rfl rfl (hx15) ?_
  refine tn_iconst dX5_closeRoutine_15 ?_
  refine tn_iconst dX5_closeRoutine_16 ?_
  refine tn_iconst dX5_closeRoutine_17 ?_
  refine tn_callV (M := m_X5_closeRoutine) (pc := 18) (ix := 143) (ci := 1) (M' := m_X1_lastOperand) (As := [.int (iI 0), .int (iI 1), .int (iI 0)]) (rest := []) dX5_closeRoutine_18 ok_X1_lastOperand im_X1_lastOperand se_X1_lastOperand ml5_143 np_X1_lastOperand rfl rfl hk16o rfl (Nat.le_of_ble_eq_true rfl) (Nat.le_of_ble_eq_true rfl) rfl (k_X1_lastOperand (d + 2) (T := T7) (σ := σ6) (a := x14) (i := 0) (k := 1) (y := 0) hk16o (by decide) (by decide) (by decide) w11 ) (fun r18 T20 σ19 gt21 hp => ?_)
  obtain ⟨rfl, rfl, w23, F24⟩ := hp
  clear gt21
  have rp25 : RP σ19 a (kp + 1) := RP.frc rp13 F24 (by decide) (by decide) (by decide) (by decide) (by decide)
  show Tn _ _ 21 T7 σ19 [(0, .ref a), (1, .int (iI w))] [] _
  refine tn_aload_n dX5_closeRoutine_21 rfl 0 rfl ?_
  refine tn_getR (ci := 5) (i := 2) (n := 35) (x := x14) dX5_closeRoutine_22 rfl lay_5 (by decide) fl5_47 ha rfl rfl (rc_F F24 (Or.inl (by decide)) (by decide) (hx15)) ?_
  refine tn_getI (ci := 1) (i := 1) (n := 6) (t := σ6.2.1 6 x14) dX5_closeRoutine_25 rfl lay_1 (by decide) fl5_146 hk16o rfl rfl (rc_F F24 (Or.inl (by decide)) (by decide) (rfl)) ?_
  have g26 : ((0 : Int) ≤ σ6.2.1 6 x14 ∧ σ6.2.1 6 x14 ≤ 5000) ∧ ((T7 x14).1 = 50 → σ6.2.1 6 x14 ≤ 200) := wf_6 w11 hk16o
  have g26x := g26.2
  replace g26 := g26.1
  clear g26x
  refine tn_bipush dX5_closeRoutine_28 (by decide) ?_
  refine tn_icmp_le (tgt := 39) dX5_closeRoutine_30 (by decide) ⟨by omega, by omega⟩ ⟨by decide, by decide⟩ (fun h27 => ?_) (fun h27 => ?_)
  · refine tn_aload_n dX5_closeRoutine_39 rfl 0 rfl ?_
    refine tn_getR (ci := 5) (i := 2) (n := 35) (x := x14) dX5_closeRoutine_40 rfl lay_5 (by decide) fl5_47 ha rfl rfl (rc_F F24 (Or.inl (by decide)) (by decide) (hx15)) ?_
    obtain ⟨x28, hx29, hk30, hl31⟩ : ∃ x : Nat, σ6.2.1 14 x14 = (x : Int) ∧ AR T7 x 11 12 12 := wf_14 w11 hk16o
    have hk30i : IA T7 x28 := by unfold IA; omega
    refine tn_getR (ci := 1) (i := 9) (n := 14) (x := x28) dX5_closeRoutine_43 rfl lay_1 (by decide) fl5_149 hk16o rfl rfl (rc_F F24 (Or.inl (by decide)) (by decide) (hx29)) ?_
    refine tn_iconst dX5_closeRoutine_46 ?_
    refine tn_aload_n dX5_closeRoutine_47 rfl 0 rfl ?_
    refine tn_getR (ci := 5) (i := 2) (n := 35) (x := x14) dX5_closeRoutine_48 rfl lay_5 (by decide) fl5_47 ha rfl rfl (rc_F F24 (Or.inl (by decide)) (by decide) (hx15)) ?_
    refine tn_getI (ci := 1) (i := 2) (n := 7) (t := σ6.2.1 7 x14) dX5_closeRoutine_51 rfl lay_1 (by decide) fl5_152 hk16o rfl rfl (rc_F F24 (Or.inl (by decide)) (by decide) (rfl)) ?_
    have g32 : ((0 : Int) ≤ σ6.2.1 7 x14 ∧ σ6.2.1 7 x14 ≤ 12) := wf_7 w11 hk16o
    refine tn_callSN (M := m_X5_closeRoutine) (pc := 54) (ix := 129) (M' := m_X11_put) (As := [.ref x28, .int (iI 0), .int (iI (σ6.2.1 7 x14))]) (rest := []) dX5_closeRoutine_54 ok_X11_put stt_X11_put nl5_129 np_X11_put rfl (Nat.le_of_ble_eq_true rfl) (Nat.le_of_ble_eq_true rfl) rfl (k_X11_put (d + 2) (T := T7) (σ := σ19) (x := x28) (i := 0) (y := σ6.2.1 7 x14) hk30i (by omega) (by decide) (by omega) w23 (nh_k hk30 (by unfold HT; omega)) (by rw [hk30]; exact vok_11 (by omega))) (fun r33 T35 σ34 gt36 hp => ?_)
    obtain ⟨rfl, rfl, w38, F39⟩ := hp
    clear gt36
    have rp40 : RP σ34 a (kp + 1) := RP.frc rp25 F39 (by decide) (by decide) (by decide) (by decide) (by decide)
    show Tn _ _ 57 T7 σ34 [(0, .ref a), (1, .int (iI w))] [] _
    refine tn_iconst dX5_closeRoutine_57 ?_
    refine tn_istore_n (L' := [(2, .int (iI 0)), (0, .ref a), (1, .int (iI w))]) dX5_closeRoutine_58 rfl (by decide) rfl ?_
    refine tn_sub [1, 0] rfl (l_X5_closeRoutine_59 (d) (T := T7) (σ0 := σ34) (a := a) (kp := kp + 1) ha w38 (by omega) (fun i241 σ42 w45 F46 r47 f48 => ?_) _ (0) σ34 w38 FrC.rfl (by omega) rp40 rfl)
    show Tn _ _ 88 T7 σ42 [(0, .ref a), (2, .int (iI i241))] [] _
    refine tn_iconst dX5_closeRoutine_88 ?_
    refine tn_istore_n (L' := [(2, .int (iI 0)), (0, .ref a)]) dX5_closeRoutine_89 rfl (by decide) rfl ?_
    refine tn_sub [1, 0] rfl (l_X5_closeRoutine_90 (d) (T := T7) (σ0 := σ42) (a := a) (kp := kp + 1) ha w45 (by omega) (fun i249 σ50 w53 F54 r55 f56 => ?_) _ (0) σ42 w45 FrC.rfl (by omega) f48 rfl)
    show Tn _ _ 118 T7 σ50 [(0, .ref a), (2, .int (iI i249))] [] _
    exact tn_vret rfl dX5_closeRoutine_118 ⟨rfl, w53, (((((FrC.rfl.trans (FrC.sub F12 (by decide))).trans (FrC.sub (FrC.old F24 gt8) (by decide))).trans (FrC.sub (FrC.old F39 gt8) (by decide))).trans (FrC.sub (FrC.old F46 gt8) (by decide))).trans (FrC.sub (FrC.old F54 gt8) (by decide))), (RP.up f56 (by omega))⟩
  · refine tn_aload_n dX5_closeRoutine_33 rfl 0 rfl ?_
    refine tn_iconst dX5_closeRoutine_34 ?_
    refine tn_iload_n dX5_closeRoutine_35 rfl 1 rfl ?_
    refine tn_callV (M := m_X5_closeRoutine) (pc := 36) (ix := 113) (ci := 5) (M' := m_X5_note) (As := [.int (iI 5), .int (iI w)]) (rest := []) dX5_closeRoutine_36 ok_X5_note im_X5_note se_X5_note ml5_113 np_X5_note rfl rfl ha rfl (Nat.le_of_ble_eq_true rfl) (Nat.le_of_ble_eq_true rfl) rfl (k_X5_note (d + 2) (T := T7) (σ := σ19) (a := a) (p1 := 5) (p2 := w) ha (by decide) (by omega) w23 ) (fun r57 T59 σ58 gt60 hp => ?_)
    obtain ⟨rfl, rfl, w62, F63⟩ := hp
    clear gt60
    have rp64 : RP σ58 a (kp + 1) := RP.frc rp25 F63 (by decide) (by decide) (by decide) (by decide) (by decide)
    show Tn _ _ 39 T7 σ58 [(0, .ref a), (1, .int (iI w))] [] _
    refine tn_aload_n dX5_closeRoutine_39 rfl 0 rfl ?_
    refine tn_getR (ci := 5) (i := 2) (n := 35) (x := x14) dX5_closeRoutine_40 rfl lay_5 (by decide) fl5_47 ha rfl rfl (rc_F F63 (Or.inl (by decide)) (by decide) (rc_F F24 (Or.inl (by decide)) (by decide) (hx15))) ?_
    obtain ⟨x65, hx66, hk67, hl68⟩ : ∃ x : Nat, σ6.2.1 14 x14 = (x : Int) ∧ AR T7 x 11 12 12 := wf_14 w11 hk16o
    have hk67i : IA T7 x65 := by unfold IA; omega
    refine tn_getR (ci := 1) (i := 9) (n := 14) (x := x65) dX5_closeRoutine_43 rfl lay_1 (by decide) fl5_149 hk16o rfl rfl (rc_F F63 (Or.inl (by decide)) (by decide) (rc_F F24 (Or.inl (by decide)) (by decide) (hx66))) ?_
    refine tn_iconst dX5_closeRoutine_46 ?_
    refine tn_aload_n dX5_closeRoutine_47 rfl 0 rfl ?_
    refine tn_getR (ci := 5) (i := 2) (n := 35) (x := x14) dX5_closeRoutine_48 rfl lay_5 (by decide) fl5_47 ha rfl rfl (rc_F F63 (Or.inl (by decide)) (by decide) (rc_F F24 (Or.inl (by decide)) (by decide) (hx15))) ?_
    refine tn_getI (ci := 1) (i := 2) (n := 7) (t := σ6.2.1 7 x14) dX5_closeRoutine_51 rfl lay_1 (by decide) fl5_152 hk16o rfl rfl (rc_F F63 (Or.inl (by decide)) (by decide) (rc_F F24 (Or.inl (by decide)) (by decide) (rfl))) ?_
    have g69 : ((0 : Int) ≤ σ6.2.1 7 x14 ∧ σ6.2.1 7 x14 ≤ 12) := wf_7 w11 hk16o
    refine tn_callSN (M := m_X5_closeRoutine) (pc := 54) (ix := 129) (M' := m_X11_put) (As := [.ref x65, .int (iI 0), .int (iI (σ6.2.1 7 x14))]) (rest := []) dX5_closeRoutine_54 ok_X11_put stt_X11_put nl5_129 np_X11_put rfl (Nat.le_of_ble_eq_true rfl) (Nat.le_of_ble_eq_true rfl) rfl (k_X11_put (d + 2) (T := T7) (σ := σ58) (x := x65) (i := 0) (y := σ6.2.1 7 x14) hk67i (by omega) (by decide) (by omega) w62 (nh_k hk67 (by unfold HT; omega)) (by rw [hk67]; exact vok_11 (by omega))) (fun r70 T72 σ71 gt73 hp => ?_)
    obtain ⟨rfl, rfl, w75, F76⟩ := hp
    clear gt73
    have rp77 : RP σ71 a (kp + 1) := RP.frc rp64 F76 (by decide) (by decide) (by decide) (by decide) (by decide)
    show Tn _ _ 57 T7 σ71 [(0, .ref a), (1, .int (iI w))] [] _
    refine tn_iconst dX5_closeRoutine_57 ?_
    refine tn_istore_n (L' := [(2, .int (iI 0)), (0, .ref a), (1, .int (iI w))]) dX5_closeRoutine_58 rfl (by decide) rfl ?_
    refine tn_sub [1, 0] rfl (l_X5_closeRoutine_59 (d) (T := T7) (σ0 := σ71) (a := a) (kp := kp + 1) ha w75 (by omega) (fun i278 σ79 w82 F83 r84 f85 => ?_) _ (0) σ71 w75 FrC.rfl (by omega) rp77 rfl)
    show Tn _ _ 88 T7 σ79 [(0, .ref a), (2, .int (iI i278))] [] _
    refine tn_iconst dX5_closeRoutine_88 ?_
    refine tn_istore_n (L' := [(2, .int (iI 0)), (0, .ref a)]) dX5_closeRoutine_89 rfl (by decide) rfl ?_
    refine tn_sub [1, 0] rfl (l_X5_closeRoutine_90 (d) (T := T7) (σ0 := σ79) (a := a) (kp := kp + 1) ha w82 (by omega) (fun i286 σ87 w90 F91 r92 f93 => ?_) _ (0) σ79 w82 FrC.rfl (by omega) f85 rfl)
    show Tn _ _ 118 T7 σ87 [(0, .ref a), (2, .int (iI i286))] [] _
    exact tn_vret rfl dX5_closeRoutine_118 ⟨rfl, w90, ((((((FrC.rfl.trans (FrC.sub F12 (by decide))).trans (FrC.sub (FrC.old F24 gt8) (by decide))).trans (FrC.sub (FrC.old F63 gt8) (by decide))).trans (FrC.sub (FrC.old F76 gt8) (by decide))).trans (FrC.sub (FrC.old F83 gt8) (by decide))).trans (FrC.sub (FrC.old F91 gt8) (by decide))), (RP.up f93 (by omega))⟩
end
