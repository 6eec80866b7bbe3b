theorem cd_X11_tear : Cond.code yX11_tear cX11_tear 4 (some .int) ∈ pWW := pw4 (List.mem_of_getElem? (i := 183) rfl) rfl
abbrev m_X11_tear : MT := (yX11_tear, cX11_tear, 4, (some .int))
theorem ok_X11_tear : pOk m_X11_tear := ⟨⟨cd_X11_tear, ini_11⟩, by decide +kernel, ⟨by decide +kernel, by decide +kernel⟩, Nat.le_of_ble_eq_true rfl⟩
theorem np_X11_tear : (parseMethodDescriptor yX11_tear.desc).map (fun d => d.parameters.length) = some 3 := by decide +kernel
theorem im_X11_tear : Cond.instanceMethod yX11_tear ∈ pWW := pw4 (List.mem_of_getElem? (i := 182) rfl) rfl
theorem se_X11_tear : Cond.selects RX11 yX11_tear yX11_tear ∈ pWW := pws (List.mem_map.mpr ⟨_, lw_pin 44 rfl, rfl⟩) rfl
theorem fl11_73 : Cond.fieldLink RX11 73 (TX11 14).1 (TX11 14).2.1 (TX11 14).2.2.1 ∈ pWW := pw2 (List.mem_of_getElem? (i := 210) rfl) rfl
theorem ml11_310 : Cond.methodLink RX11 310 yX8_share ∈ pWW := pw5 (List.mem_of_getElem? (i := 199) rfl) rfl
theorem fl11_50 : Cond.fieldLink RX11 50 (TX11 11).1 (TX11 11).2.1 (TX11 11).2.2.1 ∈ pWW := pw2 (List.mem_of_getElem? (i := 207) rfl) rfl
theorem ml11_293 : Cond.methodLink RX11 293 yX6_fold ∈ pWW := pw4 (List.mem_of_getElem? (i := 184) rfl) rfl
theorem fl11_59 : Cond.fieldLink RX11 59 (TX11 12).1 (TX11 12).2.1 (TX11 12).2.2.1 ∈ pWW := pw2 (List.mem_of_getElem? (i := 208) rfl) rfl
theorem ml11_297 : Cond.methodLink RX11 297 yX2_drop ∈ pWW := pw4 (List.mem_of_getElem? (i := 230) rfl) rfl
theorem ml11_300 : Cond.methodLink RX11 300 yX6_move ∈ pWW := pw5 (List.mem_of_getElem? (i := 82) rfl) rfl
theorem ml11_303 : Cond.methodLink RX11 303 yX6_alike ∈ pWW := pw5 (List.mem_of_getElem? (i := 122) rfl) rfl
theorem fl11_66 : Cond.fieldLink RX11 66 (TX11 13).1 (TX11 13).2.1 (TX11 13).2.2.1 ∈ pWW := pw2 (List.mem_of_getElem? (i := 209) rfl) rfl
theorem ml11_306 : Cond.methodLink RX11 306 yX4_melt ∈ pWW := pw5 (List.mem_of_getElem? (i := 131) rfl) rfl
theorem dX11_tear_0 : decode cX11_tear 0 = .ok (.iload_n 1, 1) := by decide +kernel
theorem dX11_tear_1 : decode cX11_tear 1 = .ok (.tableswitch 89 0 4 #[35, 44, 53, 62, 71], 35) := by decide +kernel
theorem dX11_tear_90 : decode cX11_tear 90 = .ok (.aload_n 0, 1) := by decide +kernel
theorem dX11_tear_91 : decode cX11_tear 91 = .ok (.getfield 73, 3) := by decide +kernel
theorem dX11_tear_94 : decode cX11_tear 94 = .ok (.aload_n 3, 1) := by decide +kernel
theorem dX11_tear_95 : decode cX11_tear 95 = .ok (.invokevirtual 310, 3) := by decide +kernel
theorem dX11_tear_98 : decode cX11_tear 98 = .ok (.ireturn, 1) := by decide +kernel
theorem dX11_tear_36 : decode cX11_tear 36 = .ok (.aload_n 0, 1) := by decide +kernel
theorem dX11_tear_37 : decode cX11_tear 37 = .ok (.getfield 50, 3) := by decide +kernel
theorem dX11_tear_40 : decode cX11_tear 40 = .ok (.aload_n 3, 1) := by decide +kernel
theorem dX11_tear_41 : decode cX11_tear 41 = .ok (.invokevirtual 293, 3) := by decide +kernel
theorem dX11_tear_44 : decode cX11_tear 44 = .ok (.ireturn, 1) := by decide +kernel
theorem dX11_tear_45 : decode cX11_tear 45 = .ok (.aload_n 0, 1) := by decide +kernel
theorem dX11_tear_46 : decode cX11_tear 46 = .ok (.getfield 59, 3) := by decide +kernel
theorem dX11_tear_49 : decode cX11_tear 49 = .ok (.aload_n 3, 1) := by decide +kernel
theorem dX11_tear_50 : decode cX11_tear 50 = .ok (.invokevirtual 297, 3) := by decide +kernel
theorem dX11_tear_53 : decode cX11_tear 53 = .ok (.ireturn, 1) := by decide +kernel
theorem dX11_tear_54 : decode cX11_tear 54 = .ok (.aload_n 0, 1) := by decide +kernel
theorem dX11_tear_55 : decode cX11_tear 55 = .ok (.getfield 50, 3) := by decide +kernel
theorem dX11_tear_58 : decode cX11_tear 58 = .ok (.aload_n 3, 1) := by decide +kernel
theorem dX11_tear_59 : decode cX11_tear 59 = .ok (.invokevirtual 300, 3) := by decide +kernel
theorem dX11_tear_62 : decode cX11_tear 62 = .ok (.ireturn, 1) := by decide +kernel
theorem dX11_tear_63 : decode cX11_tear 63 = .ok (.aload_n 0, 1) := by decide +kernel
theorem dX11_tear_64 : decode cX11_tear 64 = .ok (.getfield 50, 3) := by decide +kernel
theorem dX11_tear_67 : decode cX11_tear 67 = .ok (.aload_n 3, 1) := by decide +kernel
theorem dX11_tear_68 : decode cX11_tear 68 = .ok (.invokevirtual 303, 3) := by decide +kernel
theorem dX11_tear_71 : decode cX11_tear 71 = .ok (.ireturn, 1) := by decide +kernel
theorem dX11_tear_72 : decode cX11_tear 72 = .ok (.aload_n 0, 1) := by decide +kernel
theorem dX11_tear_73 : decode cX11_tear 73 = .ok (.getfield 66, 3) := by decide +kernel
theorem dX11_tear_76 : decode cX11_tear 76 = .ok (.aload_n 0, 1) := by decide +kernel
theorem dX11_tear_77 : decode cX11_tear 77 = .ok (.getfield 19, 3) := by decide +kernel
theorem dX11_tear_80 : decode cX11_tear 80 = .ok (.aload_n 0, 1) := by decide +kernel
theorem dX11_tear_81 : decode cX11_tear 81 = .ok (.getfield 116, 3) := by decide +kernel
theorem dX11_tear_84 : decode cX11_tear 84 = .ok (.iload_n 2, 1) := by decide +kernel
theorem dX11_tear_85 : decode cX11_tear 85 = .ok (.aload_n 3, 1) := by decide +kernel
theorem dX11_tear_86 : decode cX11_tear 86 = .ok (.invokevirtual 306, 3) := by decide +kernel
theorem dX11_tear_89 : decode cX11_tear 89 = .ok (.ireturn, 1) := by decide +kernel
set_option maxRecDepth 20000 in
theorem k_X11_tear (d : Nat) {T : CT} {σ : MS} {a : Nat} {k : Int} {r : Int} {c : Nat} (ha : OB T a 11) (h_k : -2147483648 ≤ k ∧ k ≤ 2147483647) (h_r : -2147483648 ≤ r ∧ r ≤ 2147483647) (h_c : OB T c 1) (t_c : (T c).1 = 50) (hw : WT T σ) : Tn (d + 8) m_X11_tear 0 T σ [(0, .ref a), (1, .int (iI k)), (2, .int (iI r)), (3, .ref c)] [] (fun ro T2 σ2 => ∃ v : Int, ro = some (.int (iI v)) ∧ WT T2 σ2 ∧ FrC T [5, 6, 10, 22, 25, 26, 27, 28, 29, 30, 31, 32, 80] σ σ2 ∧ (-2147483648 ≤ v ∧ v ≤ 2147483647)) := by
  refine tn_iload_n dX11_tear_0 rfl 1 rfl ?_
  by_cases h1 : k < 0 ∨ 4 < k
  · refine tn_tableOut (tgt := 90) dX11_tear_1 (x := k) ⟨by omega, by omega⟩ h1 (by decide) ?_
    refine tn_aload_n dX11_tear_90 rfl 0 rfl ?_
    obtain ⟨x2, hx3, hk4⟩ : ∃ x : Nat, σ.2.1 109 a = (x : Int) ∧ (T x).1 = 38 := wf_109 hw ha
    have hk4o : OB T x2 8 := ⟨by omega, by rw [hk4]; rfl, by omega⟩
    refine tn_getR (ci := 11) (i := 14) (n := 109) (x := x2) dX11_tear_91 rfl lay_11 (by decide) fl11_73 ha rfl rfl (hx3) ?_
    refine tn_aload_n dX11_tear_94 rfl 3 rfl ?_
    refine tn_callV (M := m_X11_tear) (pc := 95) (ix := 310) (ci := 8) (M' := m_X8_share) (As := [.ref c]) (rest := []) dX11_tear_95 ok_X8_share im_X8_share se_X8_share ml11_310 np_X8_share rfl rfl hk4o rfl (Nat.le_of_ble_eq_true rfl) (Nat.le_of_ble_eq_true rfl) rfl (k_X8_share (d + 2) (T := T) (σ := σ) (a := x2) (p1 := c) hk4o h_c t_c hw ) (fun r6 T8 σ7 gt9 hp => ?_)
    obtain ⟨v11, rfl, rfl, w12, F13, f10⟩ := hp
    clear gt9
    show Tn _ _ 98 T σ7 [(0, .ref a), (1, .int (iI k)), (2, .int (iI r)), (3, .ref c)] [.int (iI v11)] _
    exact tn_iret rfl dX11_tear_98 ⟨_, rfl, w12, (FrC.rfl.trans (FrC.sub F13 (by decide))), by omega⟩
  · have h14 : k = 0 ∨ k = 1 ∨ k = 2 ∨ k = 3 ∨ k = 4 := by omega
    rcases h14 with h14 | h14 | h14 | h14 | h14
    · refine tn_tableIn (tgt := 36) (off := 35) dX11_tear_1 (x := k) ⟨by omega, by omega⟩ (by omega) (by omega) (by rw [h14]; rfl) (by decide) ?_
      refine tn_aload_n dX11_tear_36 rfl 0 rfl ?_
      obtain ⟨x15, hx16, hk17⟩ : ∃ x : Nat, σ.2.1 106 a = (x : Int) ∧ (T x).1 = 36 := wf_106 hw ha
      have hk17o : OB T x15 6 := ⟨by omega, by rw [hk17]; rfl, by omega⟩
      refine tn_getR (ci := 11) (i := 11) (n := 106) (x := x15) dX11_tear_37 rfl lay_11 (by decide) fl11_50 ha rfl rfl (hx16) ?_
      refine tn_aload_n dX11_tear_40 rfl 3 rfl ?_
      refine tn_callV (M := m_X11_tear) (pc := 41) (ix := 293) (ci := 6) (M' := m_X6_fold) (As := [.ref c]) (rest := []) dX11_tear_41 ok_X6_fold im_X6_fold se_X6_fold ml11_293 np_X6_fold rfl rfl hk17o rfl (Nat.le_of_ble_eq_true rfl) (Nat.le_of_ble_eq_true rfl) rfl (k_X6_fold (d + 3) (T := T) (σ := σ) (a := x15) (p1 := c) hk17o h_c t_c hw ) (fun r19 T21 σ20 gt22 hp => ?_)
      obtain ⟨v24, rfl, rfl, w25, F26, f23⟩ := hp
      clear gt22
      show Tn _ _ 44 T σ20 [(0, .ref a), (1, .int (iI k)), (2, .int (iI r)), (3, .ref c)] [.int (iI v24)] _
      exact tn_iret rfl dX11_tear_44 ⟨_, rfl, w25, (FrC.rfl.trans (FrC.sub F26 (by decide))), by omega⟩
    · refine tn_tableIn (tgt := 45) (off := 44) dX11_tear_1 (x := k) ⟨by omega, by omega⟩ (by omega) (by omega) (by rw [h14]; rfl) (by decide) ?_
      refine tn_aload_n dX11_tear_45 rfl 0 rfl ?_
      obtain ⟨x27, hx28, hk29⟩ : ∃ x : Nat, σ.2.1 107 a = (x : Int) ∧ (T x).1 = 32 := wf_107 hw ha
      have hk29o : OB T x27 2 := ⟨by omega, by rw [hk29]; rfl, by omega⟩
      refine tn_getR (ci := 11) (i := 12) (n := 107) (x := x27) dX11_tear_46 rfl lay_11 (by decide) fl11_59 ha rfl rfl (hx28) ?_
      refine tn_aload_n dX11_tear_49 rfl 3 rfl ?_
      refine tn_callV (M := m_X11_tear) (pc := 50) (ix := 297) (ci := 2) (M' := m_X2_drop) (As := [.ref c]) (rest := []) dX11_tear_50 ok_X2_drop im_X2_drop se_X2_drop ml11_297 np_X2_drop rfl rfl hk29o rfl (Nat.le_of_ble_eq_true rfl) (Nat.le_of_ble_eq_true rfl) rfl (k_X2_drop (d + 1) (T := T) (σ := σ) (a := x27) (p1 := c) hk29o h_c t_c hw ) (fun r31 T33 σ32 gt34 hp => ?_)
      obtain ⟨v36, rfl, rfl, w37, F38, f35⟩ := hp
      clear gt34
      show Tn _ _ 53 T σ32 [(0, .ref a), (1, .int (iI k)), (2, .int (iI r)), (3, .ref c)] [.int (iI v36)] _
      exact tn_iret rfl dX11_tear_53 ⟨_, rfl, w37, (FrC.rfl.trans (FrC.sub F38 (by decide))), by omega⟩
    · refine tn_tableIn (tgt := 54) (off := 53) dX11_tear_1 (x := k) ⟨by omega, by omega⟩ (by omega) (by omega) (by rw [h14]; rfl) (by decide) ?_
      refine tn_aload_n dX11_tear_54 rfl 0 rfl ?_
      obtain ⟨x39, hx40, hk41⟩ : ∃ x : Nat, σ.2.1 106 a = (x : Int) ∧ (T x).1 = 36 := wf_106 hw ha
      have hk41o : OB T x39 6 := ⟨by omega, by rw [hk41]; rfl, by omega⟩
      refine tn_getR (ci := 11) (i := 11) (n := 106) (x := x39) dX11_tear_55 rfl lay_11 (by decide) fl11_50 ha rfl rfl (hx40) ?_
      refine tn_aload_n dX11_tear_58 rfl 3 rfl ?_
      refine tn_callV (M := m_X11_tear) (pc := 59) (ix := 300) (ci := 6) (M' := m_X6_move) (As := [.ref c]) (rest := []) dX11_tear_59 ok_X6_move im_X6_move se_X6_move ml11_300 np_X6_move rfl rfl hk41o rfl (Nat.le_of_ble_eq_true rfl) (Nat.le_of_ble_eq_true rfl) rfl (k_X6_move (d) (T := T) (σ := σ) (a := x39) (p1 := c) hk41o h_c t_c hw ) (fun r43 T45 σ44 gt46 hp => ?_)
      obtain ⟨v48, rfl, rfl, w49, F50, f47⟩ := hp
      clear gt46
      show Tn _ _ 62 T σ44 [(0, .ref a), (1, .int (iI k)), (2, .int (iI r)), (3, .ref c)] [.int (iI v48)] _
      exact tn_iret rfl dX11_tear_62 ⟨_, rfl, w49, (FrC.rfl.trans (FrC.sub F50 (by decide))), by omega⟩
    · refine tn_tableIn (tgt := 63) (off := 62) dX11_tear_1 (x := k) ⟨by omega, by omega⟩ (by omega) (by omega) (by rw [h14]; rfl) (by decide) ?_
      refine tn_aload_n dX11_tear_63 rfl 0 rfl ?_
      obtain ⟨x51, hx52, hk53⟩ : ∃ x : Nat, σ.2.1 106 a = (x : Int) ∧ (T x).1 = 36 := wf_106 hw ha
      have hk53o : OB T x51 6 := ⟨by omega, by rw [hk53]; rfl, by omega⟩
      refine tn_getR (ci := 11) (i := 11) (n := 106) (x := x51) dX11_tear_64 rfl lay_11 (by decide) fl11_50 ha rfl rfl (hx52) ?_
      refine tn_aload_n dX11_tear_67 rfl 3 rfl ?_
      refine tn_callV (M := m_X11_tear) (pc := 68) (ix := 303) (ci := 6) (M' := m_X6_alike) (As := [.ref c]) (rest := []) dX11_tear_68 ok_X6_alike im_X6_alike se_X6_alike ml11_303 np_X6_alike rfl rfl hk53o rfl (Nat.le_of_ble_eq_true rfl) (Nat.le_of_ble_eq_true rfl) rfl (k_X6_alike (d + 2) (T := T) (σ := σ) (a := x51) (p1 := c) hk53o h_c t_c hw ) (fun r55 T57 σ56 gt58 hp => ?_)
      obtain ⟨v60, rfl, rfl, w61, F62, f59⟩ := hp
      clear gt58
      show Tn _ _ 71 T σ56 [(0, .ref a), (1, .int (iI k)), (2, .int (iI r)), (3, .ref c)] [.int (iI v60)] _
      exact tn_iret rfl dX11_tear_71 ⟨_, rfl, w61, (FrC.rfl.trans (FrC.sub F62 (by decide))), by omega⟩
    · refine tn_tableIn (tgt := 72) (off := 71) dX11_tear_1 (x := k) ⟨by omega, by omega⟩ (by omega) (by omega) (by rw [h14]; rfl) (by decide) ?_
      refine tn_aload_n dX11_tear_72 rfl 0 rfl ?_
      obtain ⟨x63, hx64, hk65⟩ : ∃ x : Nat, σ.2.1 108 a = (x : Int) ∧ (T x).1 = 34 := wf_108 hw ha
      have hk65o : OB T x63 4 := ⟨by omega, by rw [hk65]; rfl, by omega⟩
      refine tn_getR (ci := 11) (i := 13) (n := 108) (x := x63) dX11_tear_73 rfl lay_11 (by decide) fl11_66 ha rfl rfl (hx64) ?_
      refine tn_aload_n dX11_tear_76 rfl 0 rfl ?_
      obtain ⟨x67, hx68, hk69, hl70⟩ : ∃ x : Nat, σ.2.1 99 a = (x : Int) ∧ AR T x 5 6 6 := wf_99 hw ha
      have hk69i : (T x67).1 = 4 ∨ (T x67).1 = 5 := by omega
      refine tn_getR (ci := 11) (i := 4) (n := 99) (x := x67) dX11_tear_77 rfl lay_11 (by decide) fl11_19 ha rfl rfl (hx68) ?_
      refine tn_aload_n dX11_tear_80 rfl 0 rfl ?_
      refine tn_getI (ci := 11) (i := 2) (n := 97) (t := σ.2.1 97 a) dX11_tear_81 rfl lay_11 (by decide) fl11_116 ha rfl rfl (rfl) ?_
      have g71 : ((0 : Int) ≤ σ.2.1 97 a ∧ σ.2.1 97 a ≤ 6) := wf_97 hw ha
      refine tn_iload_n dX11_tear_84 rfl 2 rfl ?_
      refine tn_aload_n dX11_tear_85 rfl 3 rfl ?_
      refine tn_callV (M := m_X11_tear) (pc := 86) (ix := 306) (ci := 4) (M' := m_X4_melt) (As := [.ref x67, .int (iI (σ.2.1 97 a)), .int (iI r), .ref c]) (rest := []) dX11_tear_86 ok_X4_melt im_X4_melt se_X4_melt ml11_306 np_X4_melt rfl rfl hk65o rfl (Nat.le_of_ble_eq_true rfl) (Nat.le_of_ble_eq_true rfl) rfl (k_X4_melt (d + 1) (T := T) (σ := σ) (a := x63) (cs := x67) (n := σ.2.1 97 a) (r := r) (c := c) hk65o hk69i (by omega) hk69 (by omega) (by omega) h_c t_c hw ) (fun r72 T74 σ73 gt75 hp => ?_)
      obtain ⟨v77, rfl, w78, F79, f76⟩ := hp
      replace ha : OB T74 a 11 := gt75.ob ha
      replace t_c : (T74 c).1 = 50 := gt75.kk t_c (by decide) (by decide)
      replace h_c : OB T74 c 1 := gt75.ob h_c
      show Tn _ _ 89 T74 σ73 [(0, .ref a), (1, .int (iI k)), (2, .int (iI r)), (3, .ref c)] [.int (iI v77)] _
      exact tn_iret rfl dX11_tear_89 ⟨_, rfl, w78, (FrC.rfl.trans (FrC.sub F79 (by decide))), by omega⟩
