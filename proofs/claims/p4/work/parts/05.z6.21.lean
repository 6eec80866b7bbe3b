theorem cd_X11_known : Cond.code yX11_known cX11_known 4 (some .int) ∈ pWW := pw6 (List.mem_of_getElem? (i := 128) rfl) rfl
abbrev m_X11_known : MT := (yX11_known, cX11_known, 4, (some .int))
theorem ok_X11_known : pOk m_X11_known := ⟨⟨cd_X11_known, ini_11⟩, by decide +kernel, ⟨by decide +kernel, by decide +kernel⟩, Nat.le_of_ble_eq_true rfl⟩
theorem np_X11_known : (parseMethodDescriptor yX11_known.desc).map (fun d => d.parameters.length) = some 2 := by decide +kernel
theorem im_X11_known : Cond.instanceMethod yX11_known ∈ pWW := pw6 (List.mem_of_getElem? (i := 126) rfl) rfl
theorem se_X11_known : Cond.selects RX11 yX11_known yX11_known ∈ pWW := pw6 (List.mem_of_getElem? (i := 127) rfl) rfl
theorem dX11_known_0 : decode cX11_known 0 = .ok (.aload_n 0, 1) := by decide +kernel
theorem dX11_known_1 : decode cX11_known 1 = .ok (.getfield 83, 3) := by decide +kernel
theorem dX11_known_4 : decode cX11_known 4 = .ok (.iload_n 1, 1) := by decide +kernel
theorem dX11_known_5 : decode cX11_known 5 = .ok (.invokevirtual 214, 3) := by decide +kernel
theorem dX11_known_8 : decode cX11_known 8 = .ok (.ifCond .eq 18, 3) := by decide +kernel
theorem dX11_known_26 : decode cX11_known 26 = .ok (.iconst (-1), 1) := by decide +kernel
theorem dX11_known_27 : decode cX11_known 27 = .ok (.ireturn, 1) := by decide +kernel
theorem dX11_known_11 : decode cX11_known 11 = .ok (.iload_n 2, 1) := by decide +kernel
theorem dX11_known_12 : decode cX11_known 12 = .ok (.ifCond .lt 14, 3) := by decide +kernel
theorem dX11_known_15 : decode cX11_known 15 = .ok (.iload_n 2, 1) := by decide +kernel
theorem dX11_known_16 : decode cX11_known 16 = .ok (.aload_n 0, 1) := by decide +kernel
theorem dX11_known_17 : decode cX11_known 17 = .ok (.getfield 83, 3) := by decide +kernel
theorem dX11_known_20 : decode cX11_known 20 = .ok (.invokevirtual 224, 3) := by decide +kernel
theorem dX11_known_23 : decode cX11_known 23 = .ok (.if_icmp .lt 5, 3) := by decide +kernel
theorem dX11_known_28 : decode cX11_known 28 = .ok (.aload_n 0, 1) := by decide +kernel
theorem dX11_known_29 : decode cX11_known 29 = .ok (.getfield 39, 3) := by decide +kernel
theorem dX11_known_32 : decode cX11_known 32 = .ok (.aload_n 0, 1) := by decide +kernel
theorem dX11_known_33 : decode cX11_known 33 = .ok (.getfield 83, 3) := by decide +kernel
theorem dX11_known_36 : decode cX11_known 36 = .ok (.invokevirtual 227, 3) := by decide +kernel
theorem dX11_known_39 : decode cX11_known 39 = .ok (.aload_n 0, 1) := by decide +kernel
theorem dX11_known_40 : decode cX11_known 40 = .ok (.getfield 83, 3) := by decide +kernel
theorem dX11_known_43 : decode cX11_known 43 = .ok (.invokevirtual 230, 3) := by decide +kernel
theorem dX11_known_46 : decode cX11_known 46 = .ok (.invokevirtual 176, 3) := by decide +kernel
theorem dX11_known_49 : decode cX11_known 49 = .ok (.aload_n 0, 1) := by decide +kernel
theorem dX11_known_50 : decode cX11_known 50 = .ok (.getfield 39, 3) := by decide +kernel
theorem dX11_known_53 : decode cX11_known 53 = .ok (.aload_n 0, 1) := by decide +kernel
theorem dX11_known_54 : decode cX11_known 54 = .ok (.getfield 83, 3) := by decide +kernel
theorem dX11_known_57 : decode cX11_known 57 = .ok (.invokevirtual 230, 3) := by decide +kernel
theorem dX11_known_60 : decode cX11_known 60 = .ok (.aload_n 0, 1) := by decide +kernel
theorem dX11_known_61 : decode cX11_known 61 = .ok (.getfield 83, 3) := by decide +kernel
theorem dX11_known_64 : decode cX11_known 64 = .ok (.aload_n 0, 1) := by decide +kernel
theorem dX11_known_65 : decode cX11_known 65 = .ok (.getfield 39, 3) := by decide +kernel
theorem dX11_known_68 : decode cX11_known 68 = .ok (.iload_n 2, 1) := by decide +kernel
theorem dX11_known_69 : decode cX11_known 69 = .ok (.invokevirtual 234, 3) := by decide +kernel
theorem dX11_known_72 : decode cX11_known 72 = .ok (.invokevirtual 187, 3) := by decide +kernel
theorem dX11_known_75 : decode cX11_known 75 = .ok (.istore_n 3, 1) := by decide +kernel
theorem dX11_known_76 : decode cX11_known 76 = .ok (.iload_n 3, 1) := by decide +kernel
theorem dX11_known_77 : decode cX11_known 77 = .ok (.bipush 10, 2) := by decide +kernel
theorem dX11_known_79 : decode cX11_known 79 = .ok (.if_icmp .lt 7, 3) := by decide +kernel
theorem dX11_known_86 : decode cX11_known 86 = .ok (.iconst 1, 1) := by decide +kernel
theorem dX11_known_87 : decode cX11_known 87 = .ok (.ireturn, 1) := by decide +kernel
theorem dX11_known_82 : decode cX11_known 82 = .ok (.iload_n 3, 1) := by decide +kernel
theorem dX11_known_83 : decode cX11_known 83 = .ok (.goto 4, 3) := by decide +kernel
set_option maxRecDepth 20000 in
theorem k_X11_known (d : Nat) {T : CT} {σ : MS} {a : Nat} {k : Int} {m : Int} (ha : OB T a 11) (h_k : -2147483648 ≤ k ∧ k ≤ 2147483647) (h_m : -2147483648 ≤ m ∧ m ≤ 2147483647) (hw : WT T σ) : Tn (d + 6) m_X11_known 0 T σ [(0, .ref a), (1, .int (iI k)), (2, .int (iI m))] [] (fun ro T2 σ2 => ∃ v : Int, ro = some (.int (iI v)) ∧ WT T2 σ2 ∧ FrC T [70, 71, 92, 93, 94, 900] σ σ2 ∧ (-2147483648 ≤ v ∧ v ≤ 2147483647)) := by
  refine tn_aload_n dX11_known_0 rfl 0 rfl ?_
  obtain ⟨x1, hx2, hk3⟩ : ∃ x : Nat, σ.2.1 103 a = (x : Int) ∧ (T x).1 = 37 := wf_103 hw ha
  have hk3o : OB T x1 7 := ⟨by omega, by rw [hk3]; rfl, by omega⟩
  refine tn_getR (ci := 11) (i := 8) (n := 103) (x := x1) dX11_known_1 rfl lay_11 (by decide) fl11_83 ha rfl rfl (hx2) ?_
  refine tn_iload_n dX11_known_4 rfl 1 rfl ?_
  refine tn_callV (M := m_X11_known) (pc := 5) (ix := 214) (ci := 7) (M' := m_X7_find) (As := [.int (iI k)]) (rest := []) dX11_known_5 ok_X7_find im_X7_find se_X7_find ml11_214 np_X7_find rfl rfl hk3o rfl (Nat.le_of_ble_eq_true rfl) (Nat.le_of_ble_eq_true rfl) rfl (k_X7_find (d + 1) (T := T) (σ := σ) (a := x1) (k := k) hk3o (by omega) hw ) (fun r5 T7 σ6 gt8 hp => ?_)
  obtain ⟨v11, rfl, rfl, w12, F13, f9, f10⟩ := hp
  clear gt8
  show Tn _ _ 8 T σ6 [(0, .ref a), (1, .int (iI k)), (2, .int (iI m))] [.int (iI v11)] _
  refine tn_if_eq (tgt := 26) dX11_known_8 (by decide) ⟨by omega, by omega⟩ (fun h14 => ?_) (fun h14 => ?_)
  · refine tn_iconst dX11_known_26 ?_
    exact tn_iret rfl dX11_known_27 ⟨_, rfl, w12, (FrC.rfl.trans (FrC.sub F13 (by decide))), by omega⟩
  · refine tn_iload_n dX11_known_11 rfl 2 rfl ?_
    refine tn_if_lt (tgt := 26) dX11_known_12 (by decide) ⟨by omega, by omega⟩ (fun h15 => ?_) (fun h15 => ?_)
    · refine tn_iconst dX11_known_26 ?_
      exact tn_iret rfl dX11_known_27 ⟨_, rfl, w12, (FrC.rfl.trans (FrC.sub F13 (by decide))), by omega⟩
    · refine tn_iload_n dX11_known_15 rfl 2 rfl ?_
      refine tn_aload_n dX11_known_16 rfl 0 rfl ?_
      refine tn_getR (ci := 11) (i := 8) (n := 103) (x := x1) dX11_known_17 rfl lay_11 (by decide) fl11_83 ha rfl rfl (rc_F F13 (Or.inl (by decide)) (by decide) (hx2)) ?_
      refine tn_callV (M := m_X11_known) (pc := 20) (ix := 224) (ci := 7) (M' := m_X7_foundNames) (As := []) (rest := [.int (iI m)]) dX11_known_20 ok_X7_foundNames im_X7_foundNames se_X7_foundNames ml11_224 np_X7_foundNames rfl rfl hk3o rfl (Nat.le_of_ble_eq_true rfl) (Nat.le_of_ble_eq_true rfl) rfl (k_X7_foundNames (d + 2) (T := T) (σ := σ6) (a := x1) hk3o w12 ) (fun r16 T18 σ17 gt19 hp => ?_)
      obtain ⟨v21, rfl, rfl, rfl, f20⟩ := hp
      clear gt19
      show Tn _ _ 23 T σ6 [(0, .ref a), (1, .int (iI k)), (2, .int (iI m))] [.int (iI v21), .int (iI m)] _
      refine tn_icmp_lt (tgt := 28) dX11_known_23 (by decide) ⟨by omega, by omega⟩ ⟨by omega, by omega⟩ (fun h22 => ?_) (fun h22 => ?_)
      · refine tn_aload_n dX11_known_28 rfl 0 rfl ?_
        obtain ⟨x23, hx24, hk25⟩ : ∃ x : Nat, σ.2.1 102 a = (x : Int) ∧ (T x).1 = 40 := wf_102 hw ha
        have hk25o : OB T x23 10 := ⟨by omega, by rw [hk25]; rfl, by omega⟩
        refine tn_getR (ci := 11) (i := 7) (n := 102) (x := x23) dX11_known_29 rfl lay_11 (by decide) fl11_39 ha rfl rfl (rc_F F13 (Or.inl (by decide)) (by decide) (hx24)) ?_
        refine tn_aload_n dX11_known_32 rfl 0 rfl ?_
        refine tn_getR (ci := 11) (i := 8) (n := 103) (x := x1) dX11_known_33 rfl lay_11 (by decide) fl11_83 ha rfl rfl (rc_F F13 (Or.inl (by decide)) (by decide) (hx2)) ?_
        refine tn_callV (M := m_X11_known) (pc := 36) (ix := 227) (ci := 7) (M' := m_X7_foundSource) (As := []) (rest := [.ref x23]) dX11_known_36 ok_X7_foundSource im_X7_foundSource se_X7_foundSource ml11_227 np_X7_foundSource rfl rfl hk3o rfl (Nat.le_of_ble_eq_true rfl) (Nat.le_of_ble_eq_true rfl) rfl (k_X7_foundSource (d + 3) (T := T) (σ := σ6) (a := x1) hk3o w12 ) (fun r27 T29 σ28 gt30 hp => ?_)
        obtain ⟨v32, rfl, rfl, rfl, f31⟩ := hp
        clear gt30
        show Tn _ _ 39 T σ6 [(0, .ref a), (1, .int (iI k)), (2, .int (iI m))] [.int (iI v32), .ref x23] _
        refine tn_aload_n dX11_known_39 rfl 0 rfl ?_
        refine tn_getR (ci := 11) (i := 8) (n := 103) (x := x1) dX11_known_40 rfl lay_11 (by decide) fl11_83 ha rfl rfl (rc_F F13 (Or.inl (by decide)) (by decide) (hx2)) ?_
        refine tn_callV (M := m_X11_known) (pc := 43) (ix := 230) (ci := 7) (M' := m_X7_foundCode) (As := []) (rest := [.int (iI v32), .ref x23]) dX11_known_43 ok_X7_foundCode im_X7_foundCode se_X7_foundCode ml11_230 np_X7_foundCode rfl rfl hk3o rfl (Nat.le_of_ble_eq_true rfl) (Nat.le_of_ble_eq_true rfl) rfl (k_X7_foundCode (d + 3) (T := T) (σ := σ6) (a := x1) hk3o w12 ) (fun r33 T35 σ34 gt36 hp => ?_)
        obtain ⟨v38, rfl, rfl, rfl, rv39, f37⟩ := hp
        clear gt36
        rcases rv39 with rv39 | ⟨x40, rfl, hk41⟩
        · exact absurd True.intro (by have q9 := f37; have q8 := f10 (by omega); unfold CAT at q9; omega)
        · show Tn _ _ 46 T σ6 [(0, .ref a), (1, .int (iI k)), (2, .int (iI m))] (vl true (x40 : Int) :: [.int (iI v32), .ref x23]) _
          rw [vl_ref rfl]
          have hk41t : (T x40).1 = 50 := hk41.2.2 (by have q9 := hk3; omega)
          have hk41to : OB T x40 1 := ⟨by omega, by rw [hk41t]; rfl, by omega⟩
          refine tn_callV (M := m_X11_known) (pc := 46) (ix := 176) (ci := 10) (M' := m_X10_refresh) (As := [.int (iI v32), .ref x40]) (rest := []) dX11_known_46 ok_X10_refresh im_X10_refresh se_X10_refresh ml11_176 np_X10_refresh rfl rfl hk25o rfl (Nat.le_of_ble_eq_true rfl) (Nat.le_of_ble_eq_true rfl) rfl (k_X10_refresh (d) (T := T) (σ := σ6) (a := x23) (r := v32) (c := x40) hk25o (by omega) hk41to hk41t w12 ) (fun r42 T44 σ43 gt45 hp => ?_)
          obtain ⟨rfl, w47, F48⟩ := hp
          replace ha : OB T44 a 11 := gt45.ob ha
          have kp49 : FRV T44 σ43 x1 = FRV T σ6 x1 := FRV.keep w12 hk3o gt45 F48 (by decide) (by decide) (by decide)
          show Tn _ _ 49 T44 σ43 [(0, .ref a), (1, .int (iI k)), (2, .int (iI m))] [] _
          refine tn_aload_n dX11_known_49 rfl 0 rfl ?_
          obtain ⟨x50, hx51, hk52⟩ : ∃ x : Nat, σ43.2.1 102 a = (x : Int) ∧ (T44 x).1 = 40 := wf_102 w47 ha
          have hk52o : OB T44 x50 10 := ⟨by omega, by rw [hk52]; rfl, by omega⟩
          refine tn_getR (ci := 11) (i := 7) (n := 102) (x := x50) dX11_known_50 rfl lay_11 (by decide) fl11_39 ha rfl rfl (hx51) ?_
          refine tn_aload_n dX11_known_53 rfl 0 rfl ?_
          obtain ⟨x54, hx55, hk56⟩ : ∃ x : Nat, σ43.2.1 103 a = (x : Int) ∧ (T44 x).1 = 37 := wf_103 w47 ha
          have hk56o : OB T44 x54 7 := ⟨by omega, by rw [hk56]; rfl, by omega⟩
          refine tn_getR (ci := 11) (i := 8) (n := 103) (x := x54) dX11_known_54 rfl lay_11 (by decide) fl11_83 ha rfl rfl (hx55) ?_
          refine tn_callV (M := m_X11_known) (pc := 57) (ix := 230) (ci := 7) (M' := m_X7_foundCode) (As := []) (rest := [.ref x50]) dX11_known_57 ok_X7_foundCode im_X7_foundCode se_X7_foundCode ml11_230 np_X7_foundCode rfl rfl hk56o rfl (Nat.le_of_ble_eq_true rfl) (Nat.le_of_ble_eq_true rfl) rfl (k_X7_foundCode (d + 3) (T := T44) (σ := σ43) (a := x54) hk56o w47 ) (fun r58 T60 σ59 gt61 hp => ?_)
          obtain ⟨v63, rfl, rfl, rfl, rv64, f62⟩ := hp
          clear gt61
          rcases rv64 with rv64 | ⟨x65, rfl, hk66⟩
          · exact absurd True.intro (by have e9 : x54 = x1 := by { have w1 := hx55; have w2 := rc_F F48 (Or.inl (by decide)) (by decide) (rc_F F13 (Or.inl (by decide)) (by decide) (hx2)); omega }; have q9 := f62; rw [e9, kp49] at q9; have q8 := f10 (by omega); unfold CAT at q9; omega)
          · show Tn _ _ 60 T44 σ43 [(0, .ref a), (1, .int (iI k)), (2, .int (iI m))] (vl true (x65 : Int) :: [.ref x50]) _
            rw [vl_ref rfl]
            have hk66t : (T44 x65).1 = 50 := hk66.2.2 (by have q9 := hk56; omega)
            have hk66to : OB T44 x65 1 := ⟨by omega, by rw [hk66t]; rfl, by omega⟩
            refine tn_aload_n dX11_known_60 rfl 0 rfl ?_
            refine tn_getR (ci := 11) (i := 8) (n := 103) (x := x54) dX11_known_61 rfl lay_11 (by decide) fl11_83 ha rfl rfl (hx55) ?_
            refine tn_aload_n dX11_known_64 rfl 0 rfl ?_
            refine tn_getR (ci := 11) (i := 7) (n := 102) (x := x50) dX11_known_65 rfl lay_11 (by decide) fl11_39 ha rfl rfl (hx51) ?_
            refine tn_iload_n dX11_known_68 rfl 2 rfl ?_
            refine tn_callV (M := m_X11_known) (pc := 69) (ix := 234) (ci := 7) (M' := m_X7_foundId) (As := [.ref x50, .int (iI m)]) (rest := [.ref x65, .ref x50]) dX11_known_69 ok_X7_foundId im_X7_foundId se_X7_foundId ml11_234 np_X7_foundId rfl rfl hk56o rfl (Nat.le_of_ble_eq_true rfl) (Nat.le_of_ble_eq_true rfl) rfl (k_X7_foundId (d + 1) (T := T44) (σ := σ43) (a := x54) (p1 := x50) (p2 := m) hk56o hk52o (by omega) w47 ) (fun r67 T69 σ68 gt70 hp => ?_)
            obtain ⟨v72, rfl, rfl, rfl, f71⟩ := hp
            clear gt70
            show Tn _ _ 72 T44 σ43 [(0, .ref a), (1, .int (iI k)), (2, .int (iI m))] [.int (iI v72), .ref x65, .ref x50] _
            refine tn_callV (M := m_X11_known) (pc := 72) (ix := 187) (ci := 10) (M' := m_X10_whereOf) (As := [.ref x65, .int (iI v72)]) (rest := []) dX11_known_72 ok_X10_whereOf im_X10_whereOf se_X10_whereOf ml11_187 np_X10_whereOf rfl rfl hk52o rfl (Nat.le_of_ble_eq_true rfl) (Nat.le_of_ble_eq_true rfl) rfl (k_X10_whereOf (d + 3) (T := T44) (σ := σ43) (a := x50) (c := x65) (i := v72) hk52o hk66to (by omega) w47 ) (fun r73 T75 σ74 gt76 hp => ?_)
            obtain ⟨v78, rfl, rfl, rfl, f77⟩ := hp
            clear gt76
            show Tn _ _ 75 T44 σ43 [(0, .ref a), (1, .int (iI k)), (2, .int (iI m))] [.int (iI v78)] _
            refine tn_istore_n (L' := [(3, .int (iI v78)), (0, .ref a), (1, .int (iI k)), (2, .int (iI m))]) dX11_known_75 rfl (by decide) rfl ?_
            refine tn_iload_n dX11_known_76 rfl 0 rfl ?_
            refine tn_bipush dX11_known_77 (by decide) ?_
            refine tn_icmp_lt (tgt := 86) dX11_known_79 (by decide) ⟨by omega, by omega⟩ ⟨by decide, by decide⟩ (fun h79 => ?_) (fun h79 => ?_)
            · refine tn_iconst dX11_known_86 ?_
              exact tn_iret rfl dX11_known_87 ⟨_, rfl, w47, ((FrC.rfl.trans (FrC.sub F13 (by decide))).trans (FrC.sub F48 (by decide))), by omega⟩
            · refine tn_iload_n dX11_known_82 rfl 0 rfl ?_
              refine tn_goto (tgt := 87) dX11_known_83 (by decide) ?_
              exact tn_iret rfl dX11_known_87 ⟨_, rfl, w47, ((FrC.rfl.trans (FrC.sub F13 (by decide))).trans (FrC.sub F48 (by decide))), by omega⟩
      · refine tn_iconst dX11_known_26 ?_
        exact tn_iret rfl dX11_known_27 ⟨_, rfl, w12, (FrC.rfl.trans (FrC.sub F13 (by decide))), by omega⟩
