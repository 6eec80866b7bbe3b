theorem cd_X11_routine : Cond.code yX11_routine cX11_routine 4 (some .int) ∈ pWW := pw4 (List.mem_of_getElem? (i := 58) rfl) rfl
abbrev m_X11_routine : MT := (yX11_routine, cX11_routine, 4, (some .int))
theorem ok_X11_routine : pOk m_X11_routine := ⟨⟨cd_X11_routine, ini_11⟩, by decide +kernel, ⟨by decide +kernel, by decide +kernel⟩, Nat.le_of_ble_eq_true rfl⟩
theorem np_X11_routine : (parseMethodDescriptor yX11_routine.desc).map (fun d => d.parameters.length) = some 2 := by decide +kernel
theorem im_X11_routine : Cond.instanceMethod yX11_routine ∈ pWW := pw4 (List.mem_of_getElem? (i := 56) rfl) rfl
theorem se_X11_routine : Cond.selects RX11 yX11_routine yX11_routine ∈ pWW := pw4 (List.mem_of_getElem? (i := 57) rfl) rfl
theorem ml11_123 : Cond.methodLink RX11 123 yX11_codeOf ∈ pWW := pw4 (List.mem_of_getElem? (i := 59) rfl) rfl
theorem fl11_134 : Cond.fieldLink RX11 134 (TX1 2).1 (TX1 2).2.1 (TX1 2).2.2.1 ∈ pWW := pw1 (List.mem_of_getElem? (i := 89) rfl) rfl
theorem ml11_149 : Cond.methodLink RX11 149 yX1_homeOf ∈ pWW := pw4 (List.mem_of_getElem? (i := 84) rfl) rfl
theorem fl11_127 : Cond.fieldLink RX11 127 (TX1 1).1 (TX1 1).2.1 (TX1 1).2.2.1 ∈ pWW := pw1 (List.mem_of_getElem? (i := 84) rfl) rfl
theorem ml11_130 : Cond.methodLink RX11 130 yX1_acts ∈ pWW := pw4 (List.mem_of_getElem? (i := 63) rfl) rfl
theorem fl11_137 : Cond.fieldLink RX11 137 (TX1 3).1 (TX1 3).2.1 (TX1 3).2.2.1 ∈ pWW := pw1 (List.mem_of_getElem? (i := 96) rfl) rfl
theorem ml11_140 : Cond.methodLink RX11 140 yX1_registers ∈ pWW := pw4 (List.mem_of_getElem? (i := 70) rfl) rfl
theorem fl11_143 : Cond.fieldLink RX11 143 (TX1 5).1 (TX1 5).2.1 (TX1 5).2.2.1 ∈ pWW := pw1 (List.mem_of_getElem? (i := 105) rfl) rfl
theorem fl11_146 : Cond.fieldLink RX11 146 (TX1 4).1 (TX1 4).2.1 (TX1 4).2.2.1 ∈ pWW := pw1 (List.mem_of_getElem? (i := 100) rfl) rfl
theorem dX11_routine_0 : decode cX11_routine 0 = .ok (.aload_n 0, 1) := by decide +kernel
theorem dX11_routine_1 : decode cX11_routine 1 = .ok (.iload_n 1, 1) := by decide +kernel
theorem dX11_routine_2 : decode cX11_routine 2 = .ok (.invokevirtual 123, 3) := by decide +kernel
theorem dX11_routine_5 : decode cX11_routine 5 = .ok (.astore_n 3, 1) := by decide +kernel
theorem dX11_routine_6 : decode cX11_routine 6 = .ok (.aload_n 3, 1) := by decide +kernel
theorem dX11_routine_7 : decode cX11_routine 7 = .ok (.ifnull 7, 3) := by decide +kernel
theorem dX11_routine_14 : decode cX11_routine 14 = .ok (.iconst (-1), 1) := by decide +kernel
theorem dX11_routine_15 : decode cX11_routine 15 = .ok (.ireturn, 1) := by decide +kernel
theorem dX11_routine_10 : decode cX11_routine 10 = .ok (.iload_n 2, 1) := by decide +kernel
theorem dX11_routine_11 : decode cX11_routine 11 = .ok (.ifCond .ge 5, 3) := by decide +kernel
theorem dX11_routine_16 : decode cX11_routine 16 = .ok (.iload_n 2, 1) := by decide +kernel
theorem dX11_routine_17 : decode cX11_routine 17 = .ok (.tableswitch 78 0 6 #[43, 48, 53, 58, 63, 68, 73], 43) := by decide +kernel
theorem dX11_routine_95 : decode cX11_routine 95 = .ok (.iload_n 2, 1) := by decide +kernel
theorem dX11_routine_96 : decode cX11_routine 96 = .ok (.bipush 7, 2) := by decide +kernel
theorem dX11_routine_98 : decode cX11_routine 98 = .ok (.isub, 1) := by decide +kernel
theorem dX11_routine_99 : decode cX11_routine 99 = .ok (.aload_n 3, 1) := by decide +kernel
theorem dX11_routine_100 : decode cX11_routine 100 = .ok (.getfield 134, 3) := by decide +kernel
theorem dX11_routine_103 : decode cX11_routine 103 = .ok (.if_icmp .ge 15, 3) := by decide +kernel
theorem dX11_routine_118 : decode cX11_routine 118 = .ok (.iconst (-1), 1) := by decide +kernel
theorem dX11_routine_119 : decode cX11_routine 119 = .ok (.ireturn, 1) := by decide +kernel
theorem dX11_routine_106 : decode cX11_routine 106 = .ok (.aload_n 3, 1) := by decide +kernel
theorem dX11_routine_107 : decode cX11_routine 107 = .ok (.iconst 0, 1) := by decide +kernel
theorem dX11_routine_108 : decode cX11_routine 108 = .ok (.iload_n 2, 1) := by decide +kernel
theorem dX11_routine_109 : decode cX11_routine 109 = .ok (.bipush 7, 2) := by decide +kernel
theorem dX11_routine_111 : decode cX11_routine 111 = .ok (.isub, 1) := by decide +kernel
theorem dX11_routine_112 : decode cX11_routine 112 = .ok (.invokevirtual 149, 3) := by decide +kernel
theorem dX11_routine_115 : decode cX11_routine 115 = .ok (.goto 4, 3) := by decide +kernel
theorem dX11_routine_60 : decode cX11_routine 60 = .ok (.aload_n 3, 1) := by decide +kernel
theorem dX11_routine_61 : decode cX11_routine 61 = .ok (.getfield 127, 3) := by decide +kernel
theorem dX11_routine_64 : decode cX11_routine 64 = .ok (.ireturn, 1) := by decide +kernel
theorem dX11_routine_65 : decode cX11_routine 65 = .ok (.aload_n 3, 1) := by decide +kernel
theorem dX11_routine_66 : decode cX11_routine 66 = .ok (.invokevirtual 130, 3) := by decide +kernel
theorem dX11_routine_69 : decode cX11_routine 69 = .ok (.ireturn, 1) := by decide +kernel
theorem dX11_routine_70 : decode cX11_routine 70 = .ok (.aload_n 3, 1) := by decide +kernel
theorem dX11_routine_71 : decode cX11_routine 71 = .ok (.getfield 134, 3) := by decide +kernel
theorem dX11_routine_74 : decode cX11_routine 74 = .ok (.ireturn, 1) := by decide +kernel
theorem dX11_routine_75 : decode cX11_routine 75 = .ok (.aload_n 3, 1) := by decide +kernel
theorem dX11_routine_76 : decode cX11_routine 76 = .ok (.getfield 137, 3) := by decide +kernel
theorem dX11_routine_79 : decode cX11_routine 79 = .ok (.ireturn, 1) := by decide +kernel
theorem dX11_routine_80 : decode cX11_routine 80 = .ok (.aload_n 3, 1) := by decide +kernel
theorem dX11_routine_81 : decode cX11_routine 81 = .ok (.invokevirtual 140, 3) := by decide +kernel
theorem dX11_routine_84 : decode cX11_routine 84 = .ok (.ireturn, 1) := by decide +kernel
theorem dX11_routine_85 : decode cX11_routine 85 = .ok (.aload_n 3, 1) := by decide +kernel
theorem dX11_routine_86 : decode cX11_routine 86 = .ok (.getfield 143, 3) := by decide +kernel
theorem dX11_routine_89 : decode cX11_routine 89 = .ok (.ireturn, 1) := by decide +kernel
theorem dX11_routine_90 : decode cX11_routine 90 = .ok (.aload_n 3, 1) := by decide +kernel
theorem dX11_routine_91 : decode cX11_routine 91 = .ok (.getfield 146, 3) := by decide +kernel
theorem dX11_routine_94 : decode cX11_routine 94 = .ok (.ireturn, 1) := by decide +kernel
set_option maxRecDepth 20000 in
theorem k_X11_routine (d : Nat) {T : CT} {σ : MS} {a : Nat} {r : Int} {w : Int} (ha : OB T a 11) (h_r : -2147483648 ≤ r ∧ r ≤ 2147483647) (h_w : -2147483648 ≤ w ∧ w ≤ 2147483647) (hw : WT T σ) : Tn (d + 5) m_X11_routine 0 T σ [(0, .ref a), (1, .int (iI r)), (2, .int (iI w))] [] (fun ro T2 σ2 => ∃ v : Int, ro = some (.int (iI v)) ∧ T = T2 ∧ σ = σ2 ∧ (-2147483648 ≤ v ∧ v ≤ 2147483647)) := by
  refine tn_aload_n dX11_routine_0 rfl 0 rfl ?_
  refine tn_iload_n dX11_routine_1 rfl 1 rfl ?_
  refine tn_callV (M := m_X11_routine) (pc := 2) (ix := 123) (ci := 11) (M' := m_X11_codeOf) (As := [.int (iI r)]) (rest := []) dX11_routine_2 ok_X11_codeOf im_X11_codeOf se_X11_codeOf ml11_123 np_X11_codeOf rfl rfl ha rfl (Nat.le_of_ble_eq_true rfl) (Nat.le_of_ble_eq_true rfl) rfl (k_X11_codeOf (d + 3) (T := T) (σ := σ) (a := a) (r := r) ha (by omega) hw ) (fun r1 T3 σ2 gt4 hp => ?_)
  obtain ⟨v5, rfl, rfl, rfl, rv6⟩ := hp
  clear gt4
  rcases rv6 with rv6 | ⟨x7, rfl, hk8⟩
  · show Tn _ _ 5 T σ [(0, .ref a), (1, .int (iI r)), (2, .int (iI w))] (vl true v5 :: []) _
    rw [vl_null rv6]
    refine tn_astore_nN (L' := [(3, .null), (0, .ref a), (1, .int (iI r)), (2, .int (iI w))]) dX11_routine_5 rfl (by decide) rfl ?_
    refine tn_aload_nN dX11_routine_6 rfl 0 rfl ?_
    refine tn_ifnullN (tgt := 14) dX11_routine_7 (by decide) ?_
    refine tn_iconst dX11_routine_14 ?_
    exact tn_iret rfl dX11_routine_15 ⟨_, rfl, rfl, rfl, by omega⟩
  · show Tn _ _ 5 T σ [(0, .ref a), (1, .int (iI r)), (2, .int (iI w))] (vl true (x7 : Int) :: []) _
    rw [vl_ref rfl]
    have hk8o : OB T x7 1 := ⟨by omega, by rw [hk8]; rfl, by omega⟩
    refine tn_astore_n (L' := [(3, .ref x7), (0, .ref a), (1, .int (iI r)), (2, .int (iI w))]) dX11_routine_5 rfl (by decide) rfl ?_
    refine tn_aload_n dX11_routine_6 rfl 0 rfl ?_
    refine tn_ifnull dX11_routine_7 ?_
    refine tn_iload_n dX11_routine_10 rfl 3 rfl ?_
    refine tn_if_ge (tgt := 16) dX11_routine_11 (by decide) ⟨by omega, by omega⟩ (fun h9 => ?_) (fun h9 => ?_)
    · refine tn_iload_n dX11_routine_16 rfl 3 rfl ?_
      by_cases h10 : w < 0 ∨ 6 < w
      · refine tn_tableOut (tgt := 95) dX11_routine_17 (x := w) ⟨by omega, by omega⟩ h10 (by decide) ?_
        refine tn_iload_n dX11_routine_95 rfl 3 rfl ?_
        refine tn_bipush dX11_routine_96 (by decide) ?_
        refine tn_isub dX11_routine_98 ?_
        refine tn_aload_n dX11_routine_99 rfl 0 rfl ?_
        refine tn_getI (ci := 1) (i := 2) (n := 7) (t := σ.2.1 7 x7) dX11_routine_100 rfl lay_1 (by decide) fl11_134 hk8o rfl rfl (rfl) ?_
        have g11 : ((0 : Int) ≤ σ.2.1 7 x7 ∧ σ.2.1 7 x7 ≤ 12) := wf_7 hw hk8o
        refine tn_icmp_ge (tgt := 118) dX11_routine_103 (by decide) ⟨by omega, by omega⟩ ⟨by omega, by omega⟩ (fun h12 => ?_) (fun h12 => ?_)
        · refine tn_iconst dX11_routine_118 ?_
          exact tn_iret rfl dX11_routine_119 ⟨_, rfl, rfl, rfl, by omega⟩
        · refine tn_aload_n dX11_routine_106 rfl 0 rfl ?_
          refine tn_iconst dX11_routine_107 ?_
          refine tn_iload_n dX11_routine_108 rfl 3 rfl ?_
          refine tn_bipush dX11_routine_109 (by decide) ?_
          refine tn_isub dX11_routine_111 ?_
          refine tn_callV (M := m_X11_routine) (pc := 112) (ix := 149) (ci := 1) (M' := m_X1_homeOf) (As := [.int (iI 0), .int (iI (w - 7))]) (rest := []) dX11_routine_112 ok_X1_homeOf im_X1_homeOf se_X1_homeOf ml11_149 np_X1_homeOf rfl rfl hk8o rfl (Nat.le_of_ble_eq_true rfl) (Nat.le_of_ble_eq_true rfl) rfl (k_X1_homeOf (d + 2) (T := T) (σ := σ) (a := x7) (f := 0) (m := w - 7) hk8o (by decide) (by omega) hw ) (fun r13 T15 σ14 gt16 hp => ?_)
          obtain ⟨v18, rfl, rfl, rfl, f17⟩ := hp
          clear gt16
          show Tn _ _ 115 T σ [(3, .ref x7), (0, .ref a), (1, .int (iI r)), (2, .int (iI w))] [.int (iI v18)] _
          refine tn_goto (tgt := 119) dX11_routine_115 (by decide) ?_
          exact tn_iret rfl dX11_routine_119 ⟨_, rfl, rfl, rfl, by omega⟩
      · have h19 : w = 0 ∨ w = 1 ∨ w = 2 ∨ w = 3 ∨ w = 4 ∨ w = 5 ∨ w = 6 := by omega
        rcases h19 with h19 | h19 | h19 | h19 | h19 | h19 | h19
        · refine tn_tableIn (tgt := 60) (off := 43) dX11_routine_17 (x := w) ⟨by omega, by omega⟩ (by omega) (by omega) (by rw [h19]; rfl) (by decide) ?_
          refine tn_aload_n dX11_routine_60 rfl 0 rfl ?_
          refine tn_getI (ci := 1) (i := 1) (n := 6) (t := σ.2.1 6 x7) dX11_routine_61 rfl lay_1 (by decide) fl11_127 hk8o rfl rfl (rfl) ?_
          have g20 : ((0 : Int) ≤ σ.2.1 6 x7 ∧ σ.2.1 6 x7 ≤ 5000) ∧ ((T x7).1 = 50 → σ.2.1 6 x7 ≤ 200) := wf_6 hw hk8o
          have g20x := g20.2
          replace g20 := g20.1
          have g20x := g20x hk8
          exact tn_iret rfl dX11_routine_64 ⟨_, rfl, rfl, rfl, by omega⟩
        · refine tn_tableIn (tgt := 65) (off := 48) dX11_routine_17 (x := w) ⟨by omega, by omega⟩ (by omega) (by omega) (by rw [h19]; rfl) (by decide) ?_
          refine tn_aload_n dX11_routine_65 rfl 0 rfl ?_
          refine tn_callV (M := m_X11_routine) (pc := 66) (ix := 130) (ci := 1) (M' := m_X1_acts) (As := []) (rest := []) dX11_routine_66 ok_X1_acts im_X1_acts se_X1_acts ml11_130 np_X1_acts rfl rfl hk8o rfl (Nat.le_of_ble_eq_true rfl) (Nat.le_of_ble_eq_true rfl) rfl (k_X1_acts (d + 2) (T := T) (σ := σ) (a := x7) hk8o hw ) (fun r21 T23 σ22 gt24 hp => ?_)
          obtain ⟨v26, rfl, rfl, rfl, f25⟩ := hp
          clear gt24
          show Tn _ _ 69 T σ [(3, .ref x7), (0, .ref a), (1, .int (iI r)), (2, .int (iI w))] [.int (iI v26)] _
          exact tn_iret rfl dX11_routine_69 ⟨_, rfl, rfl, rfl, by omega⟩
        · refine tn_tableIn (tgt := 70) (off := 53) dX11_routine_17 (x := w) ⟨by omega, by omega⟩ (by omega) (by omega) (by rw [h19]; rfl) (by decide) ?_
          refine tn_aload_n dX11_routine_70 rfl 0 rfl ?_
          refine tn_getI (ci := 1) (i := 2) (n := 7) (t := σ.2.1 7 x7) dX11_routine_71 rfl lay_1 (by decide) fl11_134 hk8o rfl rfl (rfl) ?_
          have g27 : ((0 : Int) ≤ σ.2.1 7 x7 ∧ σ.2.1 7 x7 ≤ 12) := wf_7 hw hk8o
          exact tn_iret rfl dX11_routine_74 ⟨_, rfl, rfl, rfl, by omega⟩
        · refine tn_tableIn (tgt := 75) (off := 58) dX11_routine_17 (x := w) ⟨by omega, by omega⟩ (by omega) (by omega) (by rw [h19]; rfl) (by decide) ?_
          refine tn_aload_n dX11_routine_75 rfl 0 rfl ?_
          refine tn_getI (ci := 1) (i := 3) (n := 8) (t := σ.2.1 8 x7) dX11_routine_76 rfl lay_1 (by decide) fl11_137 hk8o rfl rfl (rfl) ?_
          have g28 : ((0 : Int) ≤ σ.2.1 8 x7 ∧ σ.2.1 8 x7 ≤ 4) := wf_8 hw hk8o
          exact tn_iret rfl dX11_routine_79 ⟨_, rfl, rfl, rfl, by omega⟩
        · refine tn_tableIn (tgt := 80) (off := 63) dX11_routine_17 (x := w) ⟨by omega, by omega⟩ (by omega) (by omega) (by rw [h19]; rfl) (by decide) ?_
          refine tn_aload_n dX11_routine_80 rfl 0 rfl ?_
          refine tn_callV (M := m_X11_routine) (pc := 81) (ix := 140) (ci := 1) (M' := m_X1_registers) (As := []) (rest := []) dX11_routine_81 ok_X1_registers im_X1_registers se_X1_registers ml11_140 np_X1_registers rfl rfl hk8o rfl (Nat.le_of_ble_eq_true rfl) (Nat.le_of_ble_eq_true rfl) rfl (k_X1_registers (d) (T := T) (σ := σ) (a := x7) hk8o hw ) (fun r29 T31 σ30 gt32 hp => ?_)
          obtain ⟨v34, rfl, rfl, rfl, f33⟩ := hp
          clear gt32
          show Tn _ _ 84 T σ [(3, .ref x7), (0, .ref a), (1, .int (iI r)), (2, .int (iI w))] [.int (iI v34)] _
          exact tn_iret rfl dX11_routine_84 ⟨_, rfl, rfl, rfl, by omega⟩
        · refine tn_tableIn (tgt := 85) (off := 68) dX11_routine_17 (x := w) ⟨by omega, by omega⟩ (by omega) (by omega) (by rw [h19]; rfl) (by decide) ?_
          refine tn_aload_n dX11_routine_85 rfl 0 rfl ?_
          refine tn_getI (ci := 1) (i := 5) (n := 10) (t := σ.2.1 10 x7) dX11_routine_86 rfl lay_1 (by decide) fl11_143 hk8o rfl rfl (rfl) ?_
          have g35 : ((0 : Int) ≤ σ.2.1 10 x7 ∧ σ.2.1 10 x7 ≤ 12) := wf_10 hw hk8o
          exact tn_iret rfl dX11_routine_89 ⟨_, rfl, rfl, rfl, by omega⟩
        · refine tn_tableIn (tgt := 90) (off := 73) dX11_routine_17 (x := w) ⟨by omega, by omega⟩ (by omega) (by omega) (by rw [h19]; rfl) (by decide) ?_
          refine tn_aload_n dX11_routine_90 rfl 0 rfl ?_
          refine tn_getI (ci := 1) (i := 4) (n := 9) (t := σ.2.1 9 x7) dX11_routine_91 rfl lay_1 (by decide) fl11_146 hk8o rfl rfl (rfl) ?_
          have g36 : ((-2147483648 : Int) ≤ σ.2.1 9 x7 ∧ σ.2.1 9 x7 ≤ 2147483647) := wf_9 hw hk8o
          exact tn_iret rfl dX11_routine_94 ⟨_, rfl, rfl, rfl, by omega⟩
    · refine tn_iconst dX11_routine_14 ?_
      exact tn_iret rfl dX11_routine_15 ⟨_, rfl, rfl, rfl, by omega⟩
