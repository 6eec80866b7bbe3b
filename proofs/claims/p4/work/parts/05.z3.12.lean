theorem cd_X5_expression : Cond.code yX5_expression cX5_expression 5 (some .boolean) ∈ pWW := pw3 (List.mem_of_getElem? (i := 165) rfl) rfl
abbrev m_X5_expression : MT := (yX5_expression, cX5_expression, 5, (some .boolean))
theorem ok_X5_expression : pOk m_X5_expression := ⟨⟨cd_X5_expression, ini_5⟩, by decide +kernel, ⟨by decide +kernel, by decide +kernel⟩, Nat.le_of_ble_eq_true rfl⟩
theorem np_X5_expression : (parseMethodDescriptor yX5_expression.desc).map (fun d => d.parameters.length) = some 1 := by decide +kernel
theorem im_X5_expression : Cond.instanceMethod yX5_expression ∈ pWW := pw3 (List.mem_of_getElem? (i := 164) rfl) rfl
theorem se_X5_expression : Cond.selects RX5 yX5_expression yX5_expression ∈ pWW := pws (List.mem_map.mpr ⟨_, lw_pin 18 rfl, rfl⟩) rfl
theorem cd_X5_atom : Cond.code yX5_atom cX5_atom 2 (some .boolean) ∈ pWW := pw3 (List.mem_of_getElem? (i := 181) rfl) rfl
abbrev m_X5_atom : MT := (yX5_atom, cX5_atom, 2, (some .boolean))
theorem ok_X5_atom : pOk m_X5_atom := ⟨⟨cd_X5_atom, ini_5⟩, by decide +kernel, ⟨by decide +kernel, by decide +kernel⟩, Nat.le_of_ble_eq_true rfl⟩
theorem np_X5_atom : (parseMethodDescriptor yX5_atom.desc).map (fun d => d.parameters.length) = some 1 := by decide +kernel
theorem im_X5_atom : Cond.instanceMethod yX5_atom ∈ pWW := pw3 (List.mem_of_getElem? (i := 180) rfl) rfl
theorem se_X5_atom : Cond.selects RX5 yX5_atom yX5_atom ∈ pWW := pws (List.mem_map.mpr ⟨_, lw_pin 22 rfl, rfl⟩) rfl
theorem ml5_176 : Cond.methodLink RX5 176 yX5_register ∈ pWW := pw3 (List.mem_of_getElem? (i := 109) rfl) rfl
theorem ml5_213 : Cond.methodLink RX5 213 yX5_expression ∈ pWW := pw3 (List.mem_of_getElem? (i := 162) rfl) rfl
theorem ml5_102 : Cond.methodLink RX5 102 yX5_taken ∈ pWW := pw3 (List.mem_of_getElem? (i := 93) rfl) rfl
theorem dX5_atom_0 : decode cX5_atom 0 = .ok (.aload_n 0, 1) := by decide +kernel
theorem dX5_atom_1 : decode cX5_atom 1 = .ok (.getfield 12, 3) := by decide +kernel
theorem dX5_atom_4 : decode cX5_atom 4 = .ok (.getfield 71, 3) := by decide +kernel
theorem dX5_atom_7 : decode cX5_atom 7 = .ok (.bipush 40, 2) := by decide +kernel
theorem dX5_atom_9 : decode cX5_atom 9 = .ok (.if_icmp .ne 35, 3) := by decide +kernel
theorem dX5_atom_44 : decode cX5_atom 44 = .ok (.aload_n 0, 1) := by decide +kernel
theorem dX5_atom_45 : decode cX5_atom 45 = .ok (.getfield 12, 3) := by decide +kernel
theorem dX5_atom_48 : decode cX5_atom 48 = .ok (.getfield 71, 3) := by decide +kernel
theorem dX5_atom_51 : decode cX5_atom 51 = .ok (.sipush 257, 3) := by decide +kernel
theorem dX5_atom_54 : decode cX5_atom 54 = .ok (.if_icmp .ne 22, 3) := by decide +kernel
theorem dX5_atom_76 : decode cX5_atom 76 = .ok (.aload_n 0, 1) := by decide +kernel
theorem dX5_atom_77 : decode cX5_atom 77 = .ok (.getfield 12, 3) := by decide +kernel
theorem dX5_atom_80 : decode cX5_atom 80 = .ok (.getfield 71, 3) := by decide +kernel
theorem dX5_atom_83 : decode cX5_atom 83 = .ok (.sipush 256, 3) := by decide +kernel
theorem dX5_atom_86 : decode cX5_atom 86 = .ok (.if_icmp .ne 19, 3) := by decide +kernel
theorem dX5_atom_105 : decode cX5_atom 105 = .ok (.aload_n 0, 1) := by decide +kernel
theorem dX5_atom_106 : decode cX5_atom 106 = .ok (.invokevirtual 90, 3) := by decide +kernel
theorem dX5_atom_109 : decode cX5_atom 109 = .ok (.ireturn, 1) := by decide +kernel
theorem dX5_atom_89 : decode cX5_atom 89 = .ok (.aload_n 0, 1) := by decide +kernel
theorem dX5_atom_90 : decode cX5_atom 90 = .ok (.iconst 2, 1) := by decide +kernel
theorem dX5_atom_91 : decode cX5_atom 91 = .ok (.putfield 216, 3) := by decide +kernel
theorem dX5_atom_94 : decode cX5_atom 94 = .ok (.aload_n 0, 1) := by decide +kernel
theorem dX5_atom_95 : decode cX5_atom 95 = .ok (.aload_n 0, 1) := by decide +kernel
theorem dX5_atom_96 : decode cX5_atom 96 = .ok (.invokevirtual 176, 3) := by decide +kernel
theorem dX5_atom_99 : decode cX5_atom 99 = .ok (.putfield 219, 3) := by decide +kernel
theorem dX5_atom_102 : decode cX5_atom 102 = .ok (.goto 8, 3) := by decide +kernel
theorem dX5_atom_110 : decode cX5_atom 110 = .ok (.aload_n 0, 1) := by decide +kernel
theorem dX5_atom_111 : decode cX5_atom 111 = .ok (.getfield 12, 3) := by decide +kernel
theorem dX5_atom_114 : decode cX5_atom 114 = .ok (.invokevirtual 93, 3) := by decide +kernel
theorem dX5_atom_117 : decode cX5_atom 117 = .ok (.iconst 1, 1) := by decide +kernel
theorem dX5_atom_118 : decode cX5_atom 118 = .ok (.ireturn, 1) := by decide +kernel
theorem dX5_atom_57 : decode cX5_atom 57 = .ok (.aload_n 0, 1) := by decide +kernel
theorem dX5_atom_58 : decode cX5_atom 58 = .ok (.iconst 1, 1) := by decide +kernel
theorem dX5_atom_59 : decode cX5_atom 59 = .ok (.putfield 216, 3) := by decide +kernel
theorem dX5_atom_62 : decode cX5_atom 62 = .ok (.aload_n 0, 1) := by decide +kernel
theorem dX5_atom_63 : decode cX5_atom 63 = .ok (.aload_n 0, 1) := by decide +kernel
theorem dX5_atom_64 : decode cX5_atom 64 = .ok (.getfield 12, 3) := by decide +kernel
theorem dX5_atom_67 : decode cX5_atom 67 = .ok (.getfield 96, 3) := by decide +kernel
theorem dX5_atom_70 : decode cX5_atom 70 = .ok (.putfield 219, 3) := by decide +kernel
theorem dX5_atom_73 : decode cX5_atom 73 = .ok (.goto 37, 3) := by decide +kernel
theorem dX5_atom_12 : decode cX5_atom 12 = .ok (.aload_n 0, 1) := by decide +kernel
theorem dX5_atom_13 : decode cX5_atom 13 = .ok (.getfield 12, 3) := by decide +kernel
theorem dX5_atom_16 : decode cX5_atom 16 = .ok (.invokevirtual 93, 3) := by decide +kernel
theorem dX5_atom_19 : decode cX5_atom 19 = .ok (.aload_n 0, 1) := by decide +kernel
theorem dX5_atom_20 : decode cX5_atom 20 = .ok (.iload_n 1, 1) := by decide +kernel
theorem dX5_atom_21 : decode cX5_atom 21 = .ok (.iconst 1, 1) := by decide +kernel
theorem dX5_atom_22 : decode cX5_atom 22 = .ok (.iadd, 1) := by decide +kernel
theorem dX5_atom_23 : decode cX5_atom 23 = .ok (.invokevirtual 213, 3) := by decide +kernel
theorem dX5_atom_26 : decode cX5_atom 26 = .ok (.ifCond .eq 16, 3) := by decide +kernel
theorem dX5_atom_42 : decode cX5_atom 42 = .ok (.iconst 0, 1) := by decide +kernel
theorem dX5_atom_43 : decode cX5_atom 43 = .ok (.ireturn, 1) := by decide +kernel
theorem dX5_atom_29 : decode cX5_atom 29 = .ok (.aload_n 0, 1) := by decide +kernel
theorem dX5_atom_30 : decode cX5_atom 30 = .ok (.bipush 41, 2) := by decide +kernel
theorem dX5_atom_32 : decode cX5_atom 32 = .ok (.invokevirtual 102, 3) := by decide +kernel
theorem dX5_atom_35 : decode cX5_atom 35 = .ok (.ifCond .eq 7, 3) := by decide +kernel
theorem dX5_atom_38 : decode cX5_atom 38 = .ok (.iconst 1, 1) := by decide +kernel
theorem dX5_atom_39 : decode cX5_atom 39 = .ok (.goto 4, 3) := by decide +kernel
set_option maxRecDepth 20000 in
theorem k_X5_atom (d : Nat) {T : CT} {σ : MS} {a : Nat} {dp : Int} {kp : Int} {lv : Nat} (ha : OB T a 5) (h_dp : -2147483648 ≤ dp ∧ dp ≤ 2147483647) (hw : WT T σ) (hex : ∀ (d : Nat) {T : CT} {σ : MS} {a : Nat} {dp : Int} {kp : Int} (ha : OB T a 5) (h_dp : -2147483648 ≤ dp ∧ dp ≤ 2147483647) (hw : WT T σ) (hdp : 0 ≤ dp ∧ dp ≤ 9) (hlv : 9 ≤ dp + (lv : Int)) (hkp : kp ≤ 150) (hrp : RP σ a kp), Tn (d + 5 * lv + 10) m_X5_expression 0 T σ [(0, .ref a), (1, .int (iI dp))] [] (fun ro T2 σ2 => ∃ v : Int, ro = some (.int (iI v)) ∧ WT T2 σ2 ∧ FrC T [5, 6, 7, 43, 44, 47, 50, 51, 84, 85, 86, 87, 521] σ σ2 ∧ (v = 0 ∨ v = 1) ∧ (RP σ2 a (kp - 4 * v)))) (hdp : 0 ≤ dp ∧ dp ≤ 8) (hlv : 8 ≤ dp + (lv : Int)) (hkp : kp ≤ 150) (hrp : RP σ a kp) : Tn (d + 5 * lv + 11) m_X5_atom 0 T σ [(0, .ref a), (1, .int (iI dp))] [] (fun ro T2 σ2 => ∃ v : Int, ro = some (.int (iI v)) ∧ WT T2 σ2 ∧ FrC T [5, 6, 7, 43, 44, 47, 50, 51, 84, 85, 86, 87, 521] σ σ2 ∧ (v = 0 ∨ v = 1) ∧ (RP σ2 a (kp - 4 * v))) := by
  refine tn_aload_n dX5_atom_0 rfl 0 rfl ?_
  obtain ⟨x1, hx2, hk3⟩ : ∃ x : Nat, σ.2.1 33 a = (x : Int) ∧ (T x).1 = 39 := wf_33 hw ha
  have hk3o : OB T x1 9 := ⟨by omega, by rw [hk3]; rfl, by omega⟩
  refine tn_getR (ci := 5) (i := 0) (n := 33) (x := x1) dX5_atom_1 rfl lay_5 (by decide) fl5_12 ha rfl rfl (hx2) ?_
  refine tn_getI (ci := 9) (i := 4) (n := 85) (t := σ.2.1 85 x1) dX5_atom_4 rfl lay_9 (by decide) fl5_71 hk3o rfl rfl (rfl) ?_
  have g5 : ((-2147483648 : Int) ≤ σ.2.1 85 x1 ∧ σ.2.1 85 x1 ≤ 2147483647) := wf_85 hw hk3o
  refine tn_bipush dX5_atom_7 (by decide) ?_
  refine tn_icmp_ne (tgt := 44) dX5_atom_9 (by decide) ⟨by omega, by omega⟩ ⟨by decide, by decide⟩ (fun h6 => ?_) (fun h6 => ?_)
  · refine tn_aload_n dX5_atom_44 rfl 0 rfl ?_
    refine tn_getR (ci := 5) (i := 0) (n := 33) (x := x1) dX5_atom_45 rfl lay_5 (by decide) fl5_12 ha rfl rfl (hx2) ?_
    refine tn_getI (ci := 9) (i := 4) (n := 85) (t := σ.2.1 85 x1) dX5_atom_48 rfl lay_9 (by decide) fl5_71 hk3o rfl rfl (rfl) ?_
    refine tn_sipush dX5_atom_51 (by decide) ?_
    refine tn_icmp_ne (tgt := 76) dX5_atom_54 (by decide) ⟨by omega, by omega⟩ ⟨by decide, by decide⟩ (fun h7 => ?_) (fun h7 => ?_)
    · refine tn_aload_n dX5_atom_76 rfl 0 rfl ?_
      refine tn_getR (ci := 5) (i := 0) (n := 33) (x := x1) dX5_atom_77 rfl lay_5 (by decide) fl5_12 ha rfl rfl (hx2) ?_
      refine tn_getI (ci := 9) (i := 4) (n := 85) (t := σ.2.1 85 x1) dX5_atom_80 rfl lay_9 (by decide) fl5_71 hk3o rfl rfl (rfl) ?_
      refine tn_sipush dX5_atom_83 (by decide) ?_
      refine tn_icmp_ne (tgt := 105) dX5_atom_86 (by decide) ⟨by omega, by omega⟩ ⟨by decide, by decide⟩ (fun h8 => ?_) (fun h8 => ?_)
      · refine tn_aload_n dX5_atom_105 rfl 0 rfl ?_
        refine tn_callV (M := m_X5_atom) (pc := 106) (ix := 90) (ci := 5) (M' := m_X5_refuse) (As := []) (rest := []) dX5_atom_106 ok_X5_refuse im_X5_refuse se_X5_refuse ml5_90 np_X5_refuse rfl rfl ha rfl (Nat.le_of_ble_eq_true rfl) (Nat.le_of_ble_eq_true rfl) rfl (k_X5_refuse (d + 5 * lv + 9) (T := T) (σ := σ) (a := a) ha hw ) (fun r9 T11 σ10 gt12 hp => ?_)
        obtain ⟨v15, rfl, rfl, w16, F17, f13, f14⟩ := hp
        clear gt12
        have rp18 : RP σ10 a (kp) := RP.frc hrp F17 (by decide) (by decide) (by decide) (by decide) (by decide)
        show Tn _ _ 109 T σ10 [(0, .ref a), (1, .int (iI dp))] [.int (iI v15)] _
        exact tn_zret (v := v15) rfl (by omega) dX5_atom_109 ⟨_, rfl, w16, (FrC.rfl.trans (FrC.sub F17 (by decide))), by omega, (RP.up rp18 (by omega))⟩
      · refine tn_aload_n dX5_atom_89 rfl 0 rfl ?_
        refine tn_iconst dX5_atom_90 ?_
        refine tn_putV (ci := 5) (i := 17) (n := 50) (r := false) (v := 2) tyX5 tyX5_ok nmX5 dX5_atom_91 rfl lay_5 (by decide) fl5_216 rfl (tyX5_ok 17 (by decide)) rfl rfl rfl ha rfl rfl ?_
        refine tn_aload_n dX5_atom_94 rfl 0 rfl ?_
        refine tn_aload_n dX5_atom_95 rfl 0 rfl ?_
        refine tn_callV (M := m_X5_atom) (pc := 96) (ix := 176) (ci := 5) (M' := m_X5_register) (As := []) (rest := [.ref a]) dX5_atom_96 ok_X5_register im_X5_register se_X5_register ml5_176 np_X5_register rfl rfl ha rfl (Nat.le_of_ble_eq_true rfl) (Nat.le_of_ble_eq_true rfl) rfl (k_X5_register (d + 5 * lv + 8) (T := T) (σ := (sA 50 a (2) σ)) (a := a) ha (hw.put (by decide) (by decide) (fo_50 (by omega))) ) (fun r19 T21 σ20 gt22 hp => ?_)
        obtain ⟨v24, rfl, rfl, w25, F26, f23⟩ := hp
        clear gt22
        have rp27 : RP σ20 a (kp) := RP.frc (hrp.put (by decide)) F26 (by decide) (by decide) (by decide) (by decide) (by decide)
        show Tn _ _ 99 T σ20 [(0, .ref a), (1, .int (iI dp))] [.int (iI v24), .ref a] _
        refine tn_putV (ci := 5) (i := 18) (n := 51) (r := false) (v := v24) tyX5 tyX5_ok nmX5 dX5_atom_99 rfl lay_5 (by decide) fl5_219 rfl (tyX5_ok 18 (by decide)) rfl rfl rfl ha rfl rfl ?_
        refine tn_goto (tgt := 110) dX5_atom_102 (by decide) ?_
        refine tn_aload_n dX5_atom_110 rfl 0 rfl ?_
        refine tn_getR (ci := 5) (i := 0) (n := 33) (x := x1) dX5_atom_111 rfl lay_5 (by decide) fl5_12 ha rfl rfl (rc_o (by decide) (rc_F F26 (Or.inl (by decide)) (by decide) (rc_o (by decide) (hx2)))) ?_
        have q32 : (sA 51 a (v24) σ20).2.1 84 x1 = σ.2.1 84 x1 := rc_o (by decide) (rc_F F26 (Or.inl (by decide)) (by decide) (rc_o (by decide) (rfl)))
        refine tn_callV (M := m_X5_atom) (pc := 114) (ix := 93) (ci := 9) (M' := m_X9_next) (As := []) (rest := []) dX5_atom_114 ok_X9_next im_X9_next se_X9_next ml5_93 np_X9_next rfl rfl hk3o rfl (Nat.le_of_ble_eq_true rfl) (Nat.le_of_ble_eq_true rfl) rfl (k_X9_next (d + 5 * lv + 9) (T := T) (σ := (sA 51 a (v24) σ20)) (a := x1) hk3o (w25.put (by decide) (by decide) (fo_51 (by omega))) (RP.tk (rp27.put (by decide)) (w25.put (by decide) (by decide) (fo_51 (by omega))) ha (rc_o (by decide) (rc_F F26 (Or.inl (by decide)) (by decide) (rc_o (by decide) (hx2)))))) (fun r28 T30 σ29 gt31 hp => ?_)
        obtain ⟨rfl, rfl, w37, F38, f33, f34, f35⟩ := hp
        clear gt31
        have rp39 : RP σ29 a (kp - 4) := RP.next4 (rp27.put (by decide)) (rc_o (by decide) (rc_F F26 (Or.inl (by decide)) (by decide) (rc_o (by decide) (hx2)))) F38 (by decide) (by decide) (by decide) f33 f35 (by rw [show (sA 51 a (v24) σ20).2.1 85 x1 = σ.2.1 85 x1 from rc_o (by decide) (rc_F F26 (Or.inl (by decide)) (by decide) (rc_o (by decide) (rfl)))]; omega)
        show Tn _ _ 117 T σ29 [(0, .ref a), (1, .int (iI dp))] [] _
        refine tn_iconst dX5_atom_117 ?_
        exact tn_zret (v := 1) rfl (by decide) dX5_atom_118 ⟨_, rfl, w37, ((((FrC.rfl.put (by decide) (by decide)).trans (FrC.sub F26 (by decide))).put (by decide) (by decide)).trans (FrC.sub F38 (by decide))), by omega, (RP.up rp39 (by omega))⟩
    · refine tn_aload_n dX5_atom_57 rfl 0 rfl ?_
      refine tn_iconst dX5_atom_58 ?_
      refine tn_putV (ci := 5) (i := 17) (n := 50) (r := false) (v := 1) tyX5 tyX5_ok nmX5 dX5_atom_59 rfl lay_5 (by decide) fl5_216 rfl (tyX5_ok 17 (by decide)) rfl rfl rfl ha rfl rfl ?_
      refine tn_aload_n dX5_atom_62 rfl 0 rfl ?_
      refine tn_aload_n dX5_atom_63 rfl 0 rfl ?_
      refine tn_getR (ci := 5) (i := 0) (n := 33) (x := x1) dX5_atom_64 rfl lay_5 (by decide) fl5_12 ha rfl rfl (rc_o (by decide) (hx2)) ?_
      refine tn_getI (ci := 9) (i := 5) (n := 86) (t := σ.2.1 86 x1) dX5_atom_67 rfl lay_9 (by decide) fl5_96 hk3o rfl rfl (rc_o (by decide) (rfl)) ?_
      have g40 : ((-2147483648 : Int) ≤ σ.2.1 86 x1 ∧ σ.2.1 86 x1 ≤ 2147483647) := wf_86 hw hk3o
      refine tn_putV (ci := 5) (i := 18) (n := 51) (r := false) (v := σ.2.1 86 x1) tyX5 tyX5_ok nmX5 dX5_atom_70 rfl lay_5 (by decide) fl5_219 rfl (tyX5_ok 18 (by decide)) rfl rfl rfl ha rfl rfl ?_
      refine tn_goto (tgt := 110) dX5_atom_73 (by decide) ?_
      refine tn_aload_n dX5_atom_110 rfl 0 rfl ?_
      refine tn_getR (ci := 5) (i := 0) (n := 33) (x := x1) dX5_atom_111 rfl lay_5 (by decide) fl5_12 ha rfl rfl (rc_o (by decide) (rc_o (by decide) (hx2))) ?_
      have q45 : (sA 51 a (σ.2.1 86 x1) (sA 50 a (1) σ)).2.1 84 x1 = σ.2.1 84 x1 := rc_o (by decide) (rc_o (by decide) (rfl))
      refine tn_callV (M := m_X5_atom) (pc := 114) (ix := 93) (ci := 9) (M' := m_X9_next) (As := []) (rest := []) dX5_atom_114 ok_X9_next im_X9_next se_X9_next ml5_93 np_X9_next rfl rfl hk3o rfl (Nat.le_of_ble_eq_true rfl) (Nat.le_of_ble_eq_true rfl) rfl (k_X9_next (d + 5 * lv + 9) (T := T) (σ := (sA 51 a (σ.2.1 86 x1) (sA 50 a (1) σ))) (a := x1) hk3o ((hw.put (by decide) (by decide) (fo_50 (by omega))).put (by decide) (by decide) (fo_51 (by omega))) (RP.tk ((hrp.put (by decide)).put (by decide)) ((hw.put (by decide) (by decide) (fo_50 (by omega))).put (by decide) (by decide) (fo_51 (by omega))) ha (rc_o (by decide) (rc_o (by decide) (hx2))))) (fun r41 T43 σ42 gt44 hp => ?_)
      obtain ⟨rfl, rfl, w50, F51, f46, f47, f48⟩ := hp
      clear gt44
      have rp52 : RP σ42 a (kp - 4) := RP.next4 ((hrp.put (by decide)).put (by decide)) (rc_o (by decide) (rc_o (by decide) (hx2))) F51 (by decide) (by decide) (by decide) f46 f48 (by rw [show (sA 51 a (σ.2.1 86 x1) (sA 50 a (1) σ)).2.1 85 x1 = σ.2.1 85 x1 from rc_o (by decide) (rc_o (by decide) (rfl))]; omega)
      show Tn _ _ 117 T σ42 [(0, .ref a), (1, .int (iI dp))] [] _
      refine tn_iconst dX5_atom_117 ?_
      exact tn_zret (v := 1) rfl (by decide) dX5_atom_118 ⟨_, rfl, w50, (((FrC.rfl.put (by decide) (by decide)).put (by decide) (by decide)).trans (FrC.sub F51 (by decide))), by omega, (RP.up rp52 (by omega))⟩
  · refine tn_aload_n dX5_atom_12 rfl 0 rfl ?_
    refine tn_getR (ci := 5) (i := 0) (n := 33) (x := x1) dX5_atom_13 rfl lay_5 (by decide) fl5_12 ha rfl rfl (hx2) ?_
    refine tn_callV (M := m_X5_atom) (pc := 16) (ix := 93) (ci := 9) (M' := m_X9_next) (As := []) (rest := []) dX5_atom_16 ok_X9_next im_X9_next se_X9_next ml5_93 np_X9_next rfl rfl hk3o rfl (Nat.le_of_ble_eq_true rfl) (Nat.le_of_ble_eq_true rfl) rfl (k_X9_next (d + 5 * lv + 9) (T := T) (σ := σ) (a := x1) hk3o hw (RP.tk hrp hw ha (hx2))) (fun r53 T55 σ54 gt56 hp => ?_)
    obtain ⟨rfl, rfl, w61, F62, f57, f58, f59⟩ := hp
    clear gt56
    have rp63 : RP σ54 a (kp - 4) := RP.next4 hrp (hx2) F62 (by decide) (by decide) (by decide) f57 f59 (by rw [show σ.2.1 85 x1 = σ.2.1 85 x1 from rfl]; omega)
    show Tn _ _ 19 T σ54 [(0, .ref a), (1, .int (iI dp))] [] _
    refine tn_aload_n dX5_atom_19 rfl 0 rfl ?_
    refine tn_iload_n dX5_atom_20 rfl 1 rfl ?_
    refine tn_iconst dX5_atom_21 ?_
    refine tn_iadd dX5_atom_22 ?_
    refine tn_callV (M := m_X5_atom) (pc := 23) (ix := 213) (ci := 5) (M' := m_X5_expression) (As := [.int (iI (dp + 1))]) (rest := []) dX5_atom_23 ok_X5_expression im_X5_expression se_X5_expression ml5_213 np_X5_expression rfl rfl ha rfl (Nat.le_of_ble_eq_true rfl) (Nat.le_of_ble_eq_true rfl) rfl (hex (d) (T := T) (σ := σ54) (a := a) (dp := dp + 1) (kp := kp - 4) ha (by omega) w61 (by omega) (by omega) (by omega) rp63) (fun r64 T66 σ65 gt67 hp => ?_)
    obtain ⟨v70, rfl, w71, F72, f68, f69⟩ := hp
    replace ha : OB T66 a 5 := gt67.ob ha
    have rp74 : RP σ65 a (kp - 4 * v70 - 4) := RP.up f69 (by omega)
    show Tn _ _ 26 T66 σ65 [(0, .ref a), (1, .int (iI dp))] [.int (iI v70)] _
    refine tn_if_eq (tgt := 42) dX5_atom_26 (by decide) ⟨by omega, by omega⟩ (fun h75 => ?_) (fun h75 => ?_)
    · refine tn_iconst dX5_atom_42 ?_
      exact tn_zret (v := 0) rfl (by decide) dX5_atom_43 ⟨_, rfl, w71, ((FrC.rfl.trans (FrC.sub F62 (by decide))).trans (FrC.sub F72 (by decide))), by omega, (RP.up rp74 (by omega))⟩
    · refine tn_aload_n dX5_atom_29 rfl 0 rfl ?_
      refine tn_bipush dX5_atom_30 (by decide) ?_
      refine tn_callV (M := m_X5_atom) (pc := 32) (ix := 102) (ci := 5) (M' := m_X5_taken) (As := [.int (iI 41)]) (rest := []) dX5_atom_32 ok_X5_taken im_X5_taken se_X5_taken ml5_102 np_X5_taken rfl rfl ha rfl (Nat.le_of_ble_eq_true rfl) (Nat.le_of_ble_eq_true rfl) rfl (k_X5_taken (d + 5 * lv + 8) (T := T66) (σ := σ65) (a := a) (s := 41) (kp := kp - 4 * v70 - 4) ha (by decide) w71 (by omega) (by omega) rp74) (fun r76 T78 σ77 gt79 hp => ?_)
      obtain ⟨v82, rfl, rfl, w83, F84, f80, f81⟩ := hp
      clear gt79
      have rp86 : RP σ77 a (kp - 4 * v70 - 4 * v82 - 4) := RP.up f81 (by omega)
      show Tn _ _ 35 T66 σ77 [(0, .ref a), (1, .int (iI dp))] [.int (iI v82)] _
      refine tn_if_eq (tgt := 42) dX5_atom_35 (by decide) ⟨by omega, by omega⟩ (fun h87 => ?_) (fun h87 => ?_)
      · refine tn_iconst dX5_atom_42 ?_
        exact tn_zret (v := 0) rfl (by decide) dX5_atom_43 ⟨_, rfl, w83, (((FrC.rfl.trans (FrC.sub F62 (by decide))).trans (FrC.sub F72 (by decide))).trans (FrC.sub (FrC.old F84 gt67) (by decide))), by omega, (RP.up rp86 (by omega))⟩
      · refine tn_iconst dX5_atom_38 ?_
        refine tn_goto (tgt := 43) dX5_atom_39 (by decide) ?_
        exact tn_zret (v := 1) rfl (by decide) dX5_atom_43 ⟨_, rfl, w83, (((FrC.rfl.trans (FrC.sub F62 (by decide))).trans (FrC.sub F72 (by decide))).trans (FrC.sub (FrC.old F84 gt67) (by decide))), by omega, (RP.up rp86 (by omega))⟩
