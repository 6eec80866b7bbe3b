theorem cd_X11_frame : Cond.code yX11_frame cX11_frame 5 (some .int) ∈ pWW := pw4 (List.mem_of_getElem? (i := 95) rfl) rfl
abbrev m_X11_frame : MT := (yX11_frame, cX11_frame, 5, (some .int))
theorem ok_X11_frame : pOk m_X11_frame := ⟨⟨cd_X11_frame, ini_11⟩, by decide +kernel, ⟨by decide +kernel, by decide +kernel⟩, Nat.le_of_ble_eq_true rfl⟩
theorem np_X11_frame : (parseMethodDescriptor yX11_frame.desc).map (fun d => d.parameters.length) = some 3 := by decide +kernel
theorem im_X11_frame : Cond.instanceMethod yX11_frame ∈ pWW := pw4 (List.mem_of_getElem? (i := 93) rfl) rfl
theorem se_X11_frame : Cond.selects RX11 yX11_frame yX11_frame ∈ pWW := pw4 (List.mem_of_getElem? (i := 94) rfl) rfl
theorem fl11_159 : Cond.fieldLink RX11 159 (TX1 6).1 (TX1 6).2.1 (TX1 6).2.2.1 ∈ pWW := pw1 (List.mem_of_getElem? (i := 109) rfl) rfl
theorem ml11_162 : Cond.methodLink RX11 162 yX11_at ∈ pWW := pw4 (List.mem_of_getElem? (i := 96) rfl) rfl
theorem fl11_166 : Cond.fieldLink RX11 166 (TX1 7).1 (TX1 7).2.1 (TX1 7).2.2.1 ∈ pWW := pw1 (List.mem_of_getElem? (i := 113) rfl) rfl
theorem fl11_169 : Cond.fieldLink RX11 169 (TX1 8).1 (TX1 8).2.1 (TX1 8).2.2.1 ∈ pWW := pw1 (List.mem_of_getElem? (i := 117) rfl) rfl
theorem dX11_frame_0 : decode cX11_frame 0 = .ok (.aload_n 0, 1) := by decide +kernel
theorem dX11_frame_1 : decode cX11_frame 1 = .ok (.iload_n 1, 1) := by decide +kernel
theorem dX11_frame_2 : decode cX11_frame 2 = .ok (.invokevirtual 123, 3) := by decide +kernel
theorem dX11_frame_5 : decode cX11_frame 5 = .ok (.astore 4, 2) := by decide +kernel
theorem dX11_frame_7 : decode cX11_frame 7 = .ok (.aload 4, 2) := by decide +kernel
theorem dX11_frame_9 : decode cX11_frame 9 = .ok (.ifnull 16, 3) := by decide +kernel
theorem dX11_frame_25 : decode cX11_frame 25 = .ok (.iconst (-1), 1) := by decide +kernel
theorem dX11_frame_26 : decode cX11_frame 26 = .ok (.ireturn, 1) := by decide +kernel
theorem dX11_frame_12 : decode cX11_frame 12 = .ok (.iload_n 2, 1) := by decide +kernel
theorem dX11_frame_13 : decode cX11_frame 13 = .ok (.ifCond .lt 12, 3) := by decide +kernel
theorem dX11_frame_16 : decode cX11_frame 16 = .ok (.iload_n 2, 1) := by decide +kernel
theorem dX11_frame_17 : decode cX11_frame 17 = .ok (.aload 4, 2) := by decide +kernel
theorem dX11_frame_19 : decode cX11_frame 19 = .ok (.getfield 143, 3) := by decide +kernel
theorem dX11_frame_22 : decode cX11_frame 22 = .ok (.if_icmp .lt 5, 3) := by decide +kernel
theorem dX11_frame_27 : decode cX11_frame 27 = .ok (.iload_n 3, 1) := by decide +kernel
theorem dX11_frame_28 : decode cX11_frame 28 = .ok (.tableswitch 66 0 2 #[28, 38, 56], 28) := by decide +kernel
theorem dX11_frame_94 : decode cX11_frame 94 = .ok (.iconst (-1), 1) := by decide +kernel
theorem dX11_frame_95 : decode cX11_frame 95 = .ok (.ireturn, 1) := by decide +kernel
theorem dX11_frame_56 : decode cX11_frame 56 = .ok (.aload 4, 2) := by decide +kernel
theorem dX11_frame_58 : decode cX11_frame 58 = .ok (.getfield 159, 3) := by decide +kernel
theorem dX11_frame_61 : decode cX11_frame 61 = .ok (.iload_n 2, 1) := by decide +kernel
theorem dX11_frame_62 : decode cX11_frame 62 = .ok (.invokestatic 162, 3) := by decide +kernel
theorem dX11_frame_65 : decode cX11_frame 65 = .ok (.ireturn, 1) := by decide +kernel
theorem dX11_frame_66 : decode cX11_frame 66 = .ok (.iload_n 2, 1) := by decide +kernel
theorem dX11_frame_67 : decode cX11_frame 67 = .ok (.ifCond .ne 7, 3) := by decide +kernel
theorem dX11_frame_74 : decode cX11_frame 74 = .ok (.aload 4, 2) := by decide +kernel
theorem dX11_frame_76 : decode cX11_frame 76 = .ok (.getfield 166, 3) := by decide +kernel
theorem dX11_frame_79 : decode cX11_frame 79 = .ok (.iload_n 2, 1) := by decide +kernel
theorem dX11_frame_80 : decode cX11_frame 80 = .ok (.invokestatic 162, 3) := by decide +kernel
theorem dX11_frame_83 : decode cX11_frame 83 = .ok (.ireturn, 1) := by decide +kernel
theorem dX11_frame_70 : decode cX11_frame 70 = .ok (.iconst (-1), 1) := by decide +kernel
theorem dX11_frame_71 : decode cX11_frame 71 = .ok (.goto 12, 3) := by decide +kernel
theorem dX11_frame_84 : decode cX11_frame 84 = .ok (.aload 4, 2) := by decide +kernel
theorem dX11_frame_86 : decode cX11_frame 86 = .ok (.getfield 169, 3) := by decide +kernel
theorem dX11_frame_89 : decode cX11_frame 89 = .ok (.iload_n 2, 1) := by decide +kernel
theorem dX11_frame_90 : decode cX11_frame 90 = .ok (.invokestatic 162, 3) := by decide +kernel
theorem dX11_frame_93 : decode cX11_frame 93 = .ok (.ireturn, 1) := by decide +kernel
set_option maxRecDepth 20000 in
theorem k_X11_frame (d : Nat) {T : CT} {σ : MS} {a : Nat} {r : Int} {f : Int} {w : Int} (ha : OB T a 11) (h_r : -2147483648 ≤ r ∧ r ≤ 2147483647) (h_f : -2147483648 ≤ f ∧ f ≤ 2147483647) (h_w : -2147483648 ≤ w ∧ w ≤ 2147483647) (hw : WT T σ) : Tn (d + 2) m_X11_frame 0 T σ [(0, .ref a), (1, .int (iI r)), (2, .int (iI f)), (3, .int (iI w))] [] (fun ro T2 σ2 => ∃ v : Int, ro = some (.int (iI v)) ∧ T = T2 ∧ σ = σ2 ∧ (-2147483648 ≤ v ∧ v ≤ 2147483647)) := by
  refine tn_aload_n dX11_frame_0 rfl 0 rfl ?_
  refine tn_iload_n dX11_frame_1 rfl 1 rfl ?_
  refine tn_callV (M := m_X11_frame) (pc := 2) (ix := 123) (ci := 11) (M' := m_X11_codeOf) (As := [.int (iI r)]) (rest := []) dX11_frame_2 ok_X11_codeOf im_X11_codeOf se_X11_codeOf ml11_123 np_X11_codeOf rfl rfl ha rfl (Nat.le_of_ble_eq_true rfl) (Nat.le_of_ble_eq_true rfl) rfl (k_X11_codeOf (d) (T := T) (σ := σ) (a := a) (r := r) ha (by omega) hw ) (fun r1 T3 σ2 gt4 hp => ?_)
  obtain ⟨v5, rfl, rfl, rfl, rv6⟩ := hp
  clear gt4
  rcases rv6 with rv6 | ⟨x7, rfl, hk8⟩
  · show Tn _ _ 5 T σ [(0, .ref a), (1, .int (iI r)), (2, .int (iI f)), (3, .int (iI w))] (vl true v5 :: []) _
    rw [vl_null rv6]
    refine tn_astoreN (L' := [(4, .null), (0, .ref a), (1, .int (iI r)), (2, .int (iI f)), (3, .int (iI w))]) dX11_frame_5 (by decide) rfl ?_
    refine tn_aloadN dX11_frame_7 0 rfl ?_
    refine tn_ifnullN (tgt := 25) dX11_frame_9 (by decide) ?_
    refine tn_iconst dX11_frame_25 ?_
    exact tn_iret rfl dX11_frame_26 ⟨_, rfl, rfl, rfl, by omega⟩
  · show Tn _ _ 5 T σ [(0, .ref a), (1, .int (iI r)), (2, .int (iI f)), (3, .int (iI w))] (vl true (x7 : Int) :: []) _
    rw [vl_ref rfl]
    have hk8o : OB T x7 1 := ⟨by omega, by rw [hk8]; rfl, by omega⟩
    refine tn_astore (L' := [(4, .ref x7), (0, .ref a), (1, .int (iI r)), (2, .int (iI f)), (3, .int (iI w))]) dX11_frame_5 (by decide) rfl ?_
    refine tn_aload dX11_frame_7 0 rfl ?_
    refine tn_ifnull dX11_frame_9 ?_
    refine tn_iload_n dX11_frame_12 rfl 3 rfl ?_
    refine tn_if_lt (tgt := 25) dX11_frame_13 (by decide) ⟨by omega, by omega⟩ (fun h9 => ?_) (fun h9 => ?_)
    · refine tn_iconst dX11_frame_25 ?_
      exact tn_iret rfl dX11_frame_26 ⟨_, rfl, rfl, rfl, by omega⟩
    · refine tn_iload_n dX11_frame_16 rfl 3 rfl ?_
      refine tn_aload dX11_frame_17 0 rfl ?_
      refine tn_getI (ci := 1) (i := 5) (n := 10) (t := σ.2.1 10 x7) dX11_frame_19 rfl lay_1 (by decide) fl11_143 hk8o rfl rfl (rfl) ?_
      have g10 : ((0 : Int) ≤ σ.2.1 10 x7 ∧ σ.2.1 10 x7 ≤ 12) := wf_10 hw hk8o
      refine tn_icmp_lt (tgt := 27) dX11_frame_22 (by decide) ⟨by omega, by omega⟩ ⟨by omega, by omega⟩ (fun h11 => ?_) (fun h11 => ?_)
      · refine tn_iload_n dX11_frame_27 rfl 4 rfl ?_
        by_cases h12 : w < 0 ∨ 2 < w
        · refine tn_tableOut (tgt := 94) dX11_frame_28 (x := w) ⟨by omega, by omega⟩ h12 (by decide) ?_
          refine tn_iconst dX11_frame_94 ?_
          exact tn_iret rfl dX11_frame_95 ⟨_, rfl, rfl, rfl, by omega⟩
        · have h13 : w = 0 ∨ w = 1 ∨ w = 2 := by omega
          rcases h13 with h13 | h13 | h13
          · refine tn_tableIn (tgt := 56) (off := 28) dX11_frame_28 (x := w) ⟨by omega, by omega⟩ (by omega) (by omega) (by rw [h13]; rfl) (by decide) ?_
            refine tn_aload dX11_frame_56 0 rfl ?_
            obtain ⟨x14, hx15, hk16, hl17⟩ : ∃ x : Nat, σ.2.1 11 x7 = (x : Int) ∧ AR T x 1 12 12 := wf_11 hw hk8o
            have hk16i : IA T x14 := by unfold IA; omega
            refine tn_getR (ci := 1) (i := 6) (n := 11) (x := x14) dX11_frame_58 rfl lay_1 (by decide) fl11_159 hk8o rfl rfl (hx15) ?_
            refine tn_iload_n dX11_frame_61 rfl 3 rfl ?_
            refine tn_callS (M := m_X11_frame) (pc := 62) (ix := 162) (M' := m_X11_at) (As := [.ref x14, .int (iI f)]) (rest := []) dX11_frame_62 ok_X11_at stt_X11_at ml11_162 np_X11_at rfl (Nat.le_of_ble_eq_true rfl) (Nat.le_of_ble_eq_true rfl) rfl (k_X11_at (d) (T := T) (σ := σ) (x := x14) (i := f) hk16i (by omega) (by omega) hw ) (fun r18 T20 σ19 gt21 hp => ?_)
            obtain ⟨v25, rfl, rfl, rfl, f22, f23, f24⟩ := hp
            clear gt21
            clear f23 f24
            show Tn _ _ 65 T σ [(4, .ref x7), (0, .ref a), (1, .int (iI r)), (2, .int (iI f)), (3, .int (iI w))] [.int (iI v25)] _
            exact tn_iret rfl dX11_frame_65 ⟨_, rfl, rfl, rfl, by omega⟩
          · refine tn_tableIn (tgt := 66) (off := 38) dX11_frame_28 (x := w) ⟨by omega, by omega⟩ (by omega) (by omega) (by rw [h13]; rfl) (by decide) ?_
            refine tn_iload_n dX11_frame_66 rfl 3 rfl ?_
            refine tn_if_ne (tgt := 74) dX11_frame_67 (by decide) ⟨by omega, by omega⟩ (fun h26 => ?_) (fun h26 => ?_)
            · refine tn_aload dX11_frame_74 0 rfl ?_
              obtain ⟨x27, hx28, hk29, hl30⟩ : ∃ x : Nat, σ.2.1 12 x7 = (x : Int) ∧ AR T x 1 12 12 := wf_12 hw hk8o
              have hk29i : IA T x27 := by unfold IA; omega
              refine tn_getR (ci := 1) (i := 7) (n := 12) (x := x27) dX11_frame_76 rfl lay_1 (by decide) fl11_166 hk8o rfl rfl (hx28) ?_
              refine tn_iload_n dX11_frame_79 rfl 3 rfl ?_
              refine tn_callS (M := m_X11_frame) (pc := 80) (ix := 162) (M' := m_X11_at) (As := [.ref x27, .int (iI f)]) (rest := []) dX11_frame_80 ok_X11_at stt_X11_at ml11_162 np_X11_at rfl (Nat.le_of_ble_eq_true rfl) (Nat.le_of_ble_eq_true rfl) rfl (k_X11_at (d) (T := T) (σ := σ) (x := x27) (i := f) hk29i (by omega) (by omega) hw ) (fun r31 T33 σ32 gt34 hp => ?_)
              obtain ⟨v38, rfl, rfl, rfl, f35, f36, f37⟩ := hp
              clear gt34
              clear f36 f37
              show Tn _ _ 83 T σ [(4, .ref x7), (0, .ref a), (1, .int (iI r)), (2, .int (iI f)), (3, .int (iI w))] [.int (iI v38)] _
              exact tn_iret rfl dX11_frame_83 ⟨_, rfl, rfl, rfl, by omega⟩
            · refine tn_iconst dX11_frame_70 ?_
              refine tn_goto (tgt := 83) dX11_frame_71 (by decide) ?_
              exact tn_iret rfl dX11_frame_83 ⟨_, rfl, rfl, rfl, by omega⟩
          · refine tn_tableIn (tgt := 84) (off := 56) dX11_frame_28 (x := w) ⟨by omega, by omega⟩ (by omega) (by omega) (by rw [h13]; rfl) (by decide) ?_
            refine tn_aload dX11_frame_84 0 rfl ?_
            obtain ⟨x39, hx40, hk41, hl42⟩ : ∃ x : Nat, σ.2.1 13 x7 = (x : Int) ∧ AR T x 1 12 12 := wf_13 hw hk8o
            have hk41i : IA T x39 := by unfold IA; omega
            refine tn_getR (ci := 1) (i := 8) (n := 13) (x := x39) dX11_frame_86 rfl lay_1 (by decide) fl11_169 hk8o rfl rfl (hx40) ?_
            refine tn_iload_n dX11_frame_89 rfl 3 rfl ?_
            refine tn_callS (M := m_X11_frame) (pc := 90) (ix := 162) (M' := m_X11_at) (As := [.ref x39, .int (iI f)]) (rest := []) dX11_frame_90 ok_X11_at stt_X11_at ml11_162 np_X11_at rfl (Nat.le_of_ble_eq_true rfl) (Nat.le_of_ble_eq_true rfl) rfl (k_X11_at (d) (T := T) (σ := σ) (x := x39) (i := f) hk41i (by omega) (by omega) hw ) (fun r43 T45 σ44 gt46 hp => ?_)
            obtain ⟨v50, rfl, rfl, rfl, f47, f48, f49⟩ := hp
            clear gt46
            clear f48 f49
            show Tn _ _ 93 T σ [(4, .ref x7), (0, .ref a), (1, .int (iI r)), (2, .int (iI f)), (3, .int (iI w))] [.int (iI v50)] _
            exact tn_iret rfl dX11_frame_93 ⟨_, rfl, rfl, rfl, by omega⟩
      · refine tn_iconst dX11_frame_25 ?_
        exact tn_iret rfl dX11_frame_26 ⟨_, rfl, rfl, rfl, by omega⟩
