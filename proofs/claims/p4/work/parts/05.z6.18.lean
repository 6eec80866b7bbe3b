theorem cd_X11_run : Cond.code yX11_run cX11_run 2 (some .int) ∈ pWW := pw6 (List.mem_of_getElem? (i := 162) rfl) rfl
abbrev m_X11_run : MT := (yX11_run, cX11_run, 2, (some .int))
theorem ok_X11_run : pOk m_X11_run := ⟨⟨cd_X11_run, ini_11⟩, by decide +kernel, ⟨by decide +kernel, by decide +kernel⟩, Nat.le_of_ble_eq_true rfl⟩
theorem np_X11_run : (parseMethodDescriptor yX11_run.desc).map (fun d => d.parameters.length) = some 1 := by decide +kernel
theorem im_X11_run : Cond.instanceMethod yX11_run ∈ pWW := pw6 (List.mem_of_getElem? (i := 160) rfl) rfl
theorem se_X11_run : Cond.selects RX11 yX11_run yX11_run ∈ pWW := pw6 (List.mem_of_getElem? (i := 161) rfl) rfl
theorem ml11_241 : Cond.methodLink RX11 241 yX7_place ∈ pWW := pw6 (List.mem_of_getElem? (i := 163) rfl) rfl
theorem fl11_243 : Cond.fieldLink RX11 243 (TX7 10).1 (TX7 10).2.1 (TX7 10).2.2.1 ∈ pWW := pw2 (List.mem_of_getElem? (i := 150) rfl) rfl
theorem fl11_246 : Cond.fieldLink RX11 246 (TX7 12).1 (TX7 12).2.1 (TX7 12).2.2.1 ∈ pWW := pw2 (List.mem_of_getElem? (i := 154) rfl) rfl
theorem fl11_249 : Cond.fieldLink RX11 249 (TX7 13).1 (TX7 13).2.1 (TX7 13).2.2.1 ∈ pWW := pw2 (List.mem_of_getElem? (i := 157) rfl) rfl
theorem fl11_252 : Cond.fieldLink RX11 252 (TX7 3).1 (TX7 3).2.1 (TX7 3).2.2.1 ∈ pWW := pw2 (List.mem_of_getElem? (i := 140) rfl) rfl
theorem dX11_run_0 : decode cX11_run 0 = .ok (.aload_n 0, 1) := by decide +kernel
theorem dX11_run_1 : decode cX11_run 1 = .ok (.getfield 83, 3) := by decide +kernel
theorem dX11_run_4 : decode cX11_run 4 = .ok (.getfield 208, 3) := by decide +kernel
theorem dX11_run_7 : decode cX11_run 7 = .ok (.ifCond .ne 5, 3) := by decide +kernel
theorem dX11_run_12 : decode cX11_run 12 = .ok (.iload_n 1, 1) := by decide +kernel
theorem dX11_run_13 : decode cX11_run 13 = .ok (.tableswitch 111 0 5 #[39, 62, 70, 78, 86, 94], 39) := by decide +kernel
theorem dX11_run_124 : decode cX11_run 124 = .ok (.iconst (-1), 1) := by decide +kernel
theorem dX11_run_125 : decode cX11_run 125 = .ok (.ireturn, 1) := by decide +kernel
theorem dX11_run_52 : decode cX11_run 52 = .ok (.aload_n 0, 1) := by decide +kernel
theorem dX11_run_53 : decode cX11_run 53 = .ok (.getfield 83, 3) := by decide +kernel
theorem dX11_run_56 : decode cX11_run 56 = .ok (.getfield 208, 3) := by decide +kernel
theorem dX11_run_59 : decode cX11_run 59 = .ok (.iconst 2, 1) := by decide +kernel
theorem dX11_run_60 : decode cX11_run 60 = .ok (.if_icmp .ne 7, 3) := by decide +kernel
theorem dX11_run_67 : decode cX11_run 67 = .ok (.aload_n 0, 1) := by decide +kernel
theorem dX11_run_68 : decode cX11_run 68 = .ok (.getfield 83, 3) := by decide +kernel
theorem dX11_run_71 : decode cX11_run 71 = .ok (.invokevirtual 241, 3) := by decide +kernel
theorem dX11_run_74 : decode cX11_run 74 = .ok (.ireturn, 1) := by decide +kernel
theorem dX11_run_63 : decode cX11_run 63 = .ok (.iconst (-1), 1) := by decide +kernel
theorem dX11_run_64 : decode cX11_run 64 = .ok (.goto 10, 3) := by decide +kernel
theorem dX11_run_75 : decode cX11_run 75 = .ok (.aload_n 0, 1) := by decide +kernel
theorem dX11_run_76 : decode cX11_run 76 = .ok (.getfield 83, 3) := by decide +kernel
theorem dX11_run_79 : decode cX11_run 79 = .ok (.getfield 243, 3) := by decide +kernel
theorem dX11_run_82 : decode cX11_run 82 = .ok (.ireturn, 1) := by decide +kernel
theorem dX11_run_83 : decode cX11_run 83 = .ok (.aload_n 0, 1) := by decide +kernel
theorem dX11_run_84 : decode cX11_run 84 = .ok (.getfield 83, 3) := by decide +kernel
theorem dX11_run_87 : decode cX11_run 87 = .ok (.getfield 246, 3) := by decide +kernel
theorem dX11_run_90 : decode cX11_run 90 = .ok (.ireturn, 1) := by decide +kernel
theorem dX11_run_91 : decode cX11_run 91 = .ok (.aload_n 0, 1) := by decide +kernel
theorem dX11_run_92 : decode cX11_run 92 = .ok (.getfield 83, 3) := by decide +kernel
theorem dX11_run_95 : decode cX11_run 95 = .ok (.getfield 249, 3) := by decide +kernel
theorem dX11_run_98 : decode cX11_run 98 = .ok (.ireturn, 1) := by decide +kernel
theorem dX11_run_99 : decode cX11_run 99 = .ok (.aload_n 0, 1) := by decide +kernel
theorem dX11_run_100 : decode cX11_run 100 = .ok (.getfield 83, 3) := by decide +kernel
theorem dX11_run_103 : decode cX11_run 103 = .ok (.getfield 252, 3) := by decide +kernel
theorem dX11_run_106 : decode cX11_run 106 = .ok (.ireturn, 1) := by decide +kernel
theorem dX11_run_107 : decode cX11_run 107 = .ok (.aload_n 0, 1) := by decide +kernel
theorem dX11_run_108 : decode cX11_run 108 = .ok (.getfield 83, 3) := by decide +kernel
theorem dX11_run_111 : decode cX11_run 111 = .ok (.getfield 208, 3) := by decide +kernel
theorem dX11_run_114 : decode cX11_run 114 = .ok (.iconst 3, 1) := by decide +kernel
theorem dX11_run_115 : decode cX11_run 115 = .ok (.if_icmp .ne 7, 3) := by decide +kernel
theorem dX11_run_122 : decode cX11_run 122 = .ok (.iconst 0, 1) := by decide +kernel
theorem dX11_run_123 : decode cX11_run 123 = .ok (.ireturn, 1) := by decide +kernel
theorem dX11_run_118 : decode cX11_run 118 = .ok (.iconst 1, 1) := by decide +kernel
theorem dX11_run_119 : decode cX11_run 119 = .ok (.goto 4, 3) := by decide +kernel
theorem dX11_run_10 : decode cX11_run 10 = .ok (.iconst (-1), 1) := by decide +kernel
theorem dX11_run_11 : decode cX11_run 11 = .ok (.ireturn, 1) := by decide +kernel
set_option maxRecDepth 20000 in
theorem k_X11_run (d : Nat) {T : CT} {σ : MS} {a : Nat} {w : Int} (ha : OB T a 11) (h_w : -2147483648 ≤ w ∧ w ≤ 2147483647) (hw : WT T σ) : Tn (d + 3) m_X11_run 0 T σ [(0, .ref a), (1, .int (iI w))] [] (fun ro T2 σ2 => ∃ v : Int, ro = some (.int (iI v)) ∧ T = T2 ∧ σ = σ2 ∧ (-2147483648 ≤ v ∧ v ≤ 2147483647)) := by
  refine tn_aload_n dX11_run_0 rfl 0 rfl ?_
  obtain ⟨x1, hx2, hk3⟩ : ∃ x : Nat, σ.2.1 103 a = (x : Int) ∧ (T x).1 = 37 := wf_103 hw ha
  have hk3o : OB T x1 7 := ⟨by omega, by rw [hk3]; rfl, by omega⟩
  refine tn_getR (ci := 11) (i := 8) (n := 103) (x := x1) dX11_run_1 rfl lay_11 (by decide) fl11_83 ha rfl rfl (hx2) ?_
  refine tn_getI (ci := 7) (i := 1) (n := 56) (t := σ.2.1 56 x1) dX11_run_4 rfl lay_7 (by decide) fl11_208 hk3o rfl rfl (rfl) ?_
  have g5 : ((-2147483648 : Int) ≤ σ.2.1 56 x1 ∧ σ.2.1 56 x1 ≤ 2147483647) := wf_56 hw hk3o
  refine tn_if_ne (tgt := 12) dX11_run_7 (by decide) ⟨by omega, by omega⟩ (fun h6 => ?_) (fun h6 => ?_)
  · refine tn_iload_n dX11_run_12 rfl 1 rfl ?_
    by_cases h7 : w < 0 ∨ 5 < w
    · refine tn_tableOut (tgt := 124) dX11_run_13 (x := w) ⟨by omega, by omega⟩ h7 (by decide) ?_
      refine tn_iconst dX11_run_124 ?_
      exact tn_iret rfl dX11_run_125 ⟨_, rfl, rfl, rfl, by omega⟩
    · have h8 : w = 0 ∨ w = 1 ∨ w = 2 ∨ w = 3 ∨ w = 4 ∨ w = 5 := by omega
      rcases h8 with h8 | h8 | h8 | h8 | h8 | h8
      · refine tn_tableIn (tgt := 52) (off := 39) dX11_run_13 (x := w) ⟨by omega, by omega⟩ (by omega) (by omega) (by rw [h8]; rfl) (by decide) ?_
        refine tn_aload_n dX11_run_52 rfl 0 rfl ?_
        refine tn_getR (ci := 11) (i := 8) (n := 103) (x := x1) dX11_run_53 rfl lay_11 (by decide) fl11_83 ha rfl rfl (hx2) ?_
        refine tn_getI (ci := 7) (i := 1) (n := 56) (t := σ.2.1 56 x1) dX11_run_56 rfl lay_7 (by decide) fl11_208 hk3o rfl rfl (rfl) ?_
        refine tn_iconst dX11_run_59 ?_
        refine tn_icmp_ne (tgt := 67) dX11_run_60 (by decide) ⟨by omega, by omega⟩ ⟨by decide, by decide⟩ (fun h9 => ?_) (fun h9 => ?_)
        · refine tn_aload_n dX11_run_67 rfl 0 rfl ?_
          refine tn_getR (ci := 11) (i := 8) (n := 103) (x := x1) dX11_run_68 rfl lay_11 (by decide) fl11_83 ha rfl rfl (hx2) ?_
          refine tn_callV (M := m_X11_run) (pc := 71) (ix := 241) (ci := 7) (M' := m_X7_place) (As := []) (rest := []) dX11_run_71 ok_X7_place im_X7_place se_X7_place ml11_241 np_X7_place rfl rfl hk3o rfl (Nat.le_of_ble_eq_true rfl) (Nat.le_of_ble_eq_true rfl) rfl (k_X7_place (d) (T := T) (σ := σ) (a := x1) hk3o hw ) (fun r10 T12 σ11 gt13 hp => ?_)
          obtain ⟨v15, rfl, rfl, rfl, f14⟩ := hp
          clear gt13
          show Tn _ _ 74 T σ [(0, .ref a), (1, .int (iI w))] [.int (iI v15)] _
          exact tn_iret rfl dX11_run_74 ⟨_, rfl, rfl, rfl, by omega⟩
        · refine tn_iconst dX11_run_63 ?_
          refine tn_goto (tgt := 74) dX11_run_64 (by decide) ?_
          exact tn_iret rfl dX11_run_74 ⟨_, rfl, rfl, rfl, by omega⟩
      · refine tn_tableIn (tgt := 75) (off := 62) dX11_run_13 (x := w) ⟨by omega, by omega⟩ (by omega) (by omega) (by rw [h8]; rfl) (by decide) ?_
        refine tn_aload_n dX11_run_75 rfl 0 rfl ?_
        refine tn_getR (ci := 11) (i := 8) (n := 103) (x := x1) dX11_run_76 rfl lay_11 (by decide) fl11_83 ha rfl rfl (hx2) ?_
        refine tn_getI (ci := 7) (i := 10) (n := 65) (t := σ.2.1 65 x1) dX11_run_79 rfl lay_7 (by decide) fl11_243 hk3o rfl rfl (rfl) ?_
        have g16 : ((-2147483648 : Int) ≤ σ.2.1 65 x1 ∧ σ.2.1 65 x1 ≤ 2147483647) := wf_65 hw hk3o
        exact tn_iret rfl dX11_run_82 ⟨_, rfl, rfl, rfl, by omega⟩
      · refine tn_tableIn (tgt := 83) (off := 70) dX11_run_13 (x := w) ⟨by omega, by omega⟩ (by omega) (by omega) (by rw [h8]; rfl) (by decide) ?_
        refine tn_aload_n dX11_run_83 rfl 0 rfl ?_
        refine tn_getR (ci := 11) (i := 8) (n := 103) (x := x1) dX11_run_84 rfl lay_11 (by decide) fl11_83 ha rfl rfl (hx2) ?_
        refine tn_getI (ci := 7) (i := 12) (n := 67) (t := σ.2.1 67 x1) dX11_run_87 rfl lay_7 (by decide) fl11_246 hk3o rfl rfl (rfl) ?_
        have g17 : ((-2147483648 : Int) ≤ σ.2.1 67 x1 ∧ σ.2.1 67 x1 ≤ 2147483647) := wf_67 hw hk3o
        exact tn_iret rfl dX11_run_90 ⟨_, rfl, rfl, rfl, by omega⟩
      · refine tn_tableIn (tgt := 91) (off := 78) dX11_run_13 (x := w) ⟨by omega, by omega⟩ (by omega) (by omega) (by rw [h8]; rfl) (by decide) ?_
        refine tn_aload_n dX11_run_91 rfl 0 rfl ?_
        refine tn_getR (ci := 11) (i := 8) (n := 103) (x := x1) dX11_run_92 rfl lay_11 (by decide) fl11_83 ha rfl rfl (hx2) ?_
        refine tn_getI (ci := 7) (i := 13) (n := 68) (t := σ.2.1 68 x1) dX11_run_95 rfl lay_7 (by decide) fl11_249 hk3o rfl rfl (rfl) ?_
        have g18 : ((-2147483648 : Int) ≤ σ.2.1 68 x1 ∧ σ.2.1 68 x1 ≤ 2147483647) := wf_68 hw hk3o
        exact tn_iret rfl dX11_run_98 ⟨_, rfl, rfl, rfl, by omega⟩
      · refine tn_tableIn (tgt := 99) (off := 86) dX11_run_13 (x := w) ⟨by omega, by omega⟩ (by omega) (by omega) (by rw [h8]; rfl) (by decide) ?_
        refine tn_aload_n dX11_run_99 rfl 0 rfl ?_
        refine tn_getR (ci := 11) (i := 8) (n := 103) (x := x1) dX11_run_100 rfl lay_11 (by decide) fl11_83 ha rfl rfl (hx2) ?_
        refine tn_getI (ci := 7) (i := 3) (n := 58) (t := σ.2.1 58 x1) dX11_run_103 rfl lay_7 (by decide) fl11_252 hk3o rfl rfl (rfl) ?_
        have g19 : ((-2147483648 : Int) ≤ σ.2.1 58 x1 ∧ σ.2.1 58 x1 ≤ 2147483647) := wf_58 hw hk3o
        exact tn_iret rfl dX11_run_106 ⟨_, rfl, rfl, rfl, by omega⟩
      · refine tn_tableIn (tgt := 107) (off := 94) dX11_run_13 (x := w) ⟨by omega, by omega⟩ (by omega) (by omega) (by rw [h8]; rfl) (by decide) ?_
        refine tn_aload_n dX11_run_107 rfl 0 rfl ?_
        refine tn_getR (ci := 11) (i := 8) (n := 103) (x := x1) dX11_run_108 rfl lay_11 (by decide) fl11_83 ha rfl rfl (hx2) ?_
        refine tn_getI (ci := 7) (i := 1) (n := 56) (t := σ.2.1 56 x1) dX11_run_111 rfl lay_7 (by decide) fl11_208 hk3o rfl rfl (rfl) ?_
        refine tn_iconst dX11_run_114 ?_
        refine tn_icmp_ne (tgt := 122) dX11_run_115 (by decide) ⟨by omega, by omega⟩ ⟨by decide, by decide⟩ (fun h20 => ?_) (fun h20 => ?_)
        · refine tn_iconst dX11_run_122 ?_
          exact tn_iret rfl dX11_run_123 ⟨_, rfl, rfl, rfl, by omega⟩
        · refine tn_iconst dX11_run_118 ?_
          refine tn_goto (tgt := 123) dX11_run_119 (by decide) ?_
          exact tn_iret rfl dX11_run_123 ⟨_, rfl, rfl, rfl, by omega⟩
  · refine tn_iconst dX11_run_10 ?_
    exact tn_iret rfl dX11_run_11 ⟨_, rfl, rfl, rfl, by omega⟩
