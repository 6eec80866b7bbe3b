theorem cd_X11_value : Cond.code yX11_value cX11_value 3 (some .int) ∈ pWW := pw6 (List.mem_of_getElem? (i := 148) rfl) rfl
abbrev m_X11_value : MT := (yX11_value, cX11_value, 3, (some .int))
theorem ok_X11_value : pOk m_X11_value := ⟨⟨cd_X11_value, ini_11⟩, by decide +kernel, ⟨by decide +kernel, by decide +kernel⟩, Nat.le_of_ble_eq_true rfl⟩
theorem np_X11_value : (parseMethodDescriptor yX11_value.desc).map (fun d => d.parameters.length) = some 2 := by decide +kernel
theorem im_X11_value : Cond.instanceMethod yX11_value ∈ pWW := pw6 (List.mem_of_getElem? (i := 146) rfl) rfl
theorem se_X11_value : Cond.selects RX11 yX11_value yX11_value ∈ pWW := pw6 (List.mem_of_getElem? (i := 147) rfl) rfl
theorem ml11_227 : Cond.methodLink RX11 227 yX7_foundSource ∈ pWW := pw6 (List.mem_of_getElem? (i := 129) rfl) rfl
theorem ml11_230 : Cond.methodLink RX11 230 yX7_foundCode ∈ pWW := pw6 (List.mem_of_getElem? (i := 133) rfl) rfl
theorem ml11_234 : Cond.methodLink RX11 234 yX7_foundId ∈ pWW := pw6 (List.mem_of_getElem? (i := 134) rfl) rfl
theorem ml11_238 : Cond.methodLink RX11 238 yX7_foundValue ∈ pWW := pw6 (List.mem_of_getElem? (i := 149) rfl) rfl
theorem dX11_value_0 : decode cX11_value 0 = .ok (.aload_n 0, 1) := by decide +kernel
theorem dX11_value_1 : decode cX11_value 1 = .ok (.getfield 83, 3) := by decide +kernel
theorem dX11_value_4 : decode cX11_value 4 = .ok (.iload_n 1, 1) := by decide +kernel
theorem dX11_value_5 : decode cX11_value 5 = .ok (.invokevirtual 214, 3) := by decide +kernel
theorem dX11_value_8 : decode cX11_value 8 = .ok (.ifCond .eq 18, 3) := by decide +kernel
theorem dX11_value_26 : decode cX11_value 26 = .ok (.iconst 0, 1) := by decide +kernel
theorem dX11_value_27 : decode cX11_value 27 = .ok (.ireturn, 1) := by decide +kernel
theorem dX11_value_11 : decode cX11_value 11 = .ok (.iload_n 2, 1) := by decide +kernel
theorem dX11_value_12 : decode cX11_value 12 = .ok (.ifCond .lt 14, 3) := by decide +kernel
theorem dX11_value_15 : decode cX11_value 15 = .ok (.iload_n 2, 1) := by decide +kernel
theorem dX11_value_16 : decode cX11_value 16 = .ok (.aload_n 0, 1) := by decide +kernel
theorem dX11_value_17 : decode cX11_value 17 = .ok (.getfield 83, 3) := by decide +kernel
theorem dX11_value_20 : decode cX11_value 20 = .ok (.invokevirtual 224, 3) := by decide +kernel
theorem dX11_value_23 : decode cX11_value 23 = .ok (.if_icmp .lt 5, 3) := by decide +kernel
theorem dX11_value_28 : decode cX11_value 28 = .ok (.aload_n 0, 1) := by decide +kernel
theorem dX11_value_29 : decode cX11_value 29 = .ok (.getfield 39, 3) := by decide +kernel
theorem dX11_value_32 : decode cX11_value 32 = .ok (.aload_n 0, 1) := by decide +kernel
theorem dX11_value_33 : decode cX11_value 33 = .ok (.getfield 83, 3) := by decide +kernel
theorem dX11_value_36 : decode cX11_value 36 = .ok (.invokevirtual 227, 3) := by decide +kernel
theorem dX11_value_39 : decode cX11_value 39 = .ok (.aload_n 0, 1) := by decide +kernel
theorem dX11_value_40 : decode cX11_value 40 = .ok (.getfield 83, 3) := by decide +kernel
theorem dX11_value_43 : decode cX11_value 43 = .ok (.invokevirtual 230, 3) := by decide +kernel
theorem dX11_value_46 : decode cX11_value 46 = .ok (.invokevirtual 176, 3) := by decide +kernel
theorem dX11_value_49 : decode cX11_value 49 = .ok (.aload_n 0, 1) := by decide +kernel
theorem dX11_value_50 : decode cX11_value 50 = .ok (.getfield 83, 3) := by decide +kernel
theorem dX11_value_53 : decode cX11_value 53 = .ok (.aload_n 0, 1) := by decide +kernel
theorem dX11_value_54 : decode cX11_value 54 = .ok (.getfield 39, 3) := by decide +kernel
theorem dX11_value_57 : decode cX11_value 57 = .ok (.aload_n 0, 1) := by decide +kernel
theorem dX11_value_58 : decode cX11_value 58 = .ok (.getfield 83, 3) := by decide +kernel
theorem dX11_value_61 : decode cX11_value 61 = .ok (.aload_n 0, 1) := by decide +kernel
theorem dX11_value_62 : decode cX11_value 62 = .ok (.getfield 39, 3) := by decide +kernel
theorem dX11_value_65 : decode cX11_value 65 = .ok (.iload_n 2, 1) := by decide +kernel
theorem dX11_value_66 : decode cX11_value 66 = .ok (.invokevirtual 234, 3) := by decide +kernel
theorem dX11_value_69 : decode cX11_value 69 = .ok (.invokevirtual 238, 3) := by decide +kernel
theorem dX11_value_72 : decode cX11_value 72 = .ok (.ireturn, 1) := by decide +kernel
set_option maxRecDepth 20000 in
theorem k_X11_value (d : Nat) {T : CT} {σ : MS} {a : Nat} {k : Int} {m : Int} (ha : OB T a 11) (h_k : -2147483648 ≤ k ∧ k ≤ 2147483647) (h_m : -2147483648 ≤ m ∧ m ≤ 2147483647) (hw : WT T σ) : Tn (d + 6) m_X11_value 0 T σ [(0, .ref a), (1, .int (iI k)), (2, .int (iI m))] [] (fun ro T2 σ2 => ∃ v : Int, ro = some (.int (iI v)) ∧ WT T2 σ2 ∧ FrC T [70, 71, 92, 93, 94, 900] σ σ2 ∧ (-2147483648 ≤ v ∧ v ≤ 2147483647)) := by
  refine tn_aload_n dX11_value_0 rfl 0 rfl ?_
  obtain ⟨x1, hx2, hk3⟩ : ∃ x : Nat, σ.2.1 103 a = (x : Int) ∧ (T x).1 = 37 := wf_103 hw ha
  have hk3o : OB T x1 7 := ⟨by omega, by rw [hk3]; rfl, by omega⟩
  refine tn_getR (ci := 11) (i := 8) (n := 103) (x := x1) dX11_value_1 rfl lay_11 (by decide) fl11_83 ha rfl rfl (hx2) ?_
  refine tn_iload_n dX11_value_4 rfl 1 rfl ?_
  refine tn_callV (M := m_X11_value) (pc := 5) (ix := 214) (ci := 7) (M' := m_X7_find) (As := [.int (iI k)]) (rest := []) dX11_value_5 ok_X7_find im_X7_find se_X7_find ml11_214 np_X7_find rfl rfl hk3o rfl (Nat.le_of_ble_eq_true rfl) (Nat.le_of_ble_eq_true rfl) rfl (k_X7_find (d + 1) (T := T) (σ := σ) (a := x1) (k := k) hk3o (by omega) hw ) (fun r5 T7 σ6 gt8 hp => ?_)
  obtain ⟨v11, rfl, rfl, w12, F13, f9, f10⟩ := hp
  clear gt8
  clear f10
  show Tn _ _ 8 T σ6 [(0, .ref a), (1, .int (iI k)), (2, .int (iI m))] [.int (iI v11)] _
  refine tn_if_eq (tgt := 26) dX11_value_8 (by decide) ⟨by omega, by omega⟩ (fun h14 => ?_) (fun h14 => ?_)
  · refine tn_iconst dX11_value_26 ?_
    exact tn_iret rfl dX11_value_27 ⟨_, rfl, w12, (FrC.rfl.trans (FrC.sub F13 (by decide))), by omega⟩
  · refine tn_iload_n dX11_value_11 rfl 2 rfl ?_
    refine tn_if_lt (tgt := 26) dX11_value_12 (by decide) ⟨by omega, by omega⟩ (fun h15 => ?_) (fun h15 => ?_)
    · refine tn_iconst dX11_value_26 ?_
      exact tn_iret rfl dX11_value_27 ⟨_, rfl, w12, (FrC.rfl.trans (FrC.sub F13 (by decide))), by omega⟩
    · refine tn_iload_n dX11_value_15 rfl 2 rfl ?_
      refine tn_aload_n dX11_value_16 rfl 0 rfl ?_
      refine tn_getR (ci := 11) (i := 8) (n := 103) (x := x1) dX11_value_17 rfl lay_11 (by decide) fl11_83 ha rfl rfl (rc_F F13 (Or.inl (by decide)) (by decide) (hx2)) ?_
      refine tn_callV (M := m_X11_value) (pc := 20) (ix := 224) (ci := 7) (M' := m_X7_foundNames) (As := []) (rest := [.int (iI m)]) dX11_value_20 ok_X7_foundNames im_X7_foundNames se_X7_foundNames ml11_224 np_X7_foundNames rfl rfl hk3o rfl (Nat.le_of_ble_eq_true rfl) (Nat.le_of_ble_eq_true rfl) rfl (k_X7_foundNames (d + 2) (T := T) (σ := σ6) (a := x1) hk3o w12 ) (fun r16 T18 σ17 gt19 hp => ?_)
      obtain ⟨v21, rfl, rfl, rfl, f20⟩ := hp
      clear gt19
      show Tn _ _ 23 T σ6 [(0, .ref a), (1, .int (iI k)), (2, .int (iI m))] [.int (iI v21), .int (iI m)] _
      refine tn_icmp_lt (tgt := 28) dX11_value_23 (by decide) ⟨by omega, by omega⟩ ⟨by omega, by omega⟩ (fun h22 => ?_) (fun h22 => ?_)
      · refine tn_aload_n dX11_value_28 rfl 0 rfl ?_
        obtain ⟨x23, hx24, hk25⟩ : ∃ x : Nat, σ.2.1 102 a = (x : Int) ∧ (T x).1 = 40 := wf_102 hw ha
        have hk25o : OB T x23 10 := ⟨by omega, by rw [hk25]; rfl, by omega⟩
        refine tn_getR (ci := 11) (i := 7) (n := 102) (x := x23) dX11_value_29 rfl lay_11 (by decide) fl11_39 ha rfl rfl (rc_F F13 (Or.inl (by decide)) (by decide) (hx24)) ?_
        refine tn_aload_n dX11_value_32 rfl 0 rfl ?_
        refine tn_getR (ci := 11) (i := 8) (n := 103) (x := x1) dX11_value_33 rfl lay_11 (by decide) fl11_83 ha rfl rfl (rc_F F13 (Or.inl (by decide)) (by decide) (hx2)) ?_
        refine tn_callV (M := m_X11_value) (pc := 36) (ix := 227) (ci := 7) (M' := m_X7_foundSource) (As := []) (rest := [.ref x23]) dX11_value_36 ok_X7_foundSource im_X7_foundSource se_X7_foundSource ml11_227 np_X7_foundSource rfl rfl hk3o rfl (Nat.le_of_ble_eq_true rfl) (Nat.le_of_ble_eq_true rfl) rfl (k_X7_foundSource (d + 3) (T := T) (σ := σ6) (a := x1) hk3o w12 ) (fun r27 T29 σ28 gt30 hp => ?_)
        obtain ⟨v32, rfl, rfl, rfl, f31⟩ := hp
        clear gt30
        show Tn _ _ 39 T σ6 [(0, .ref a), (1, .int (iI k)), (2, .int (iI m))] [.int (iI v32), .ref x23] _
        refine tn_aload_n dX11_value_39 rfl 0 rfl ?_
        refine tn_getR (ci := 11) (i := 8) (n := 103) (x := x1) dX11_value_40 rfl lay_11 (by decide) fl11_83 ha rfl rfl (rc_F F13 (Or.inl (by decide)) (by decide) (hx2)) ?_
        refine tn_callV (M := m_X11_value) (pc := 43) (ix := 230) (ci := 7) (M' := m_X7_foundCode) (As := []) (rest := [.int (iI v32), .ref x23]) dX11_value_43 ok_X7_foundCode im_X7_foundCode se_X7_foundCode ml11_230 np_X7_foundCode rfl rfl hk3o rfl (Nat.le_of_ble_eq_true rfl) (Nat.le_of_ble_eq_true rfl) rfl (k_X7_foundCode (d + 3) (T := T) (σ := σ6) (a := x1) hk3o w12 ) (fun r33 T35 σ34 gt36 hp => ?_)
        obtain ⟨v38, rfl, rfl, rfl, rv39, f37⟩ := hp
        clear gt36
        clear f37
        rcases rv39 with rv39 | ⟨x40, rfl, hk41⟩
        · show Tn _ _ 46 T σ6 [(0, .ref a), (1, .int (iI k)), (2, .int (iI m))] (vl true v38 :: [.int (iI v32), .ref x23]) _
          rw [vl_null rv39]
          refine tn_callV (M := m_X11_value) (pc := 46) (ix := 176) (ci := 10) (M' := m_X10_refresh) (As := [.int (iI v32), .null]) (rest := []) dX11_value_46 ok_X10_refresh im_X10_refresh se_X10_refresh ml11_176 np_X10_refresh rfl rfl hk25o rfl (Nat.le_of_ble_eq_true rfl) (Nat.le_of_ble_eq_true rfl) rfl (k_X10_refresh_0 (d) (T := T) (σ := σ6) (a := x23) (r := v32) hk25o (by omega) w12 ) (fun r42 T44 σ43 gt45 hp => ?_)
          obtain ⟨rfl, w47, F48⟩ := hp
          replace ha : OB T44 a 11 := gt45.ob ha
          show Tn _ _ 49 T44 σ43 [(0, .ref a), (1, .int (iI k)), (2, .int (iI m))] [] _
          refine tn_aload_n dX11_value_49 rfl 0 rfl ?_
          obtain ⟨x49, hx50, hk51⟩ : ∃ x : Nat, σ43.2.1 103 a = (x : Int) ∧ (T44 x).1 = 37 := wf_103 w47 ha
          have hk51o : OB T44 x49 7 := ⟨by omega, by rw [hk51]; rfl, by omega⟩
          refine tn_getR (ci := 11) (i := 8) (n := 103) (x := x49) dX11_value_50 rfl lay_11 (by decide) fl11_83 ha rfl rfl (hx50) ?_
          refine tn_aload_n dX11_value_53 rfl 0 rfl ?_
          obtain ⟨x53, hx54, hk55⟩ : ∃ x : Nat, σ43.2.1 102 a = (x : Int) ∧ (T44 x).1 = 40 := wf_102 w47 ha
          have hk55o : OB T44 x53 10 := ⟨by omega, by rw [hk55]; rfl, by omega⟩
          refine tn_getR (ci := 11) (i := 7) (n := 102) (x := x53) dX11_value_54 rfl lay_11 (by decide) fl11_39 ha rfl rfl (hx54) ?_
          refine tn_aload_n dX11_value_57 rfl 0 rfl ?_
          refine tn_getR (ci := 11) (i := 8) (n := 103) (x := x49) dX11_value_58 rfl lay_11 (by decide) fl11_83 ha rfl rfl (hx50) ?_
          refine tn_aload_n dX11_value_61 rfl 0 rfl ?_
          refine tn_getR (ci := 11) (i := 7) (n := 102) (x := x53) dX11_value_62 rfl lay_11 (by decide) fl11_39 ha rfl rfl (hx54) ?_
          refine tn_iload_n dX11_value_65 rfl 2 rfl ?_
          refine tn_callV (M := m_X11_value) (pc := 66) (ix := 234) (ci := 7) (M' := m_X7_foundId) (As := [.ref x53, .int (iI m)]) (rest := [.ref x53, .ref x49]) dX11_value_66 ok_X7_foundId im_X7_foundId se_X7_foundId ml11_234 np_X7_foundId rfl rfl hk51o rfl (Nat.le_of_ble_eq_true rfl) (Nat.le_of_ble_eq_true rfl) rfl (k_X7_foundId (d + 1) (T := T44) (σ := σ43) (a := x49) (p1 := x53) (p2 := m) hk51o hk55o (by omega) w47 ) (fun r57 T59 σ58 gt60 hp => ?_)
          obtain ⟨v62, rfl, rfl, rfl, f61⟩ := hp
          clear gt60
          show Tn _ _ 69 T44 σ43 [(0, .ref a), (1, .int (iI k)), (2, .int (iI m))] [.int (iI v62), .ref x53, .ref x49] _
          refine tn_callV (M := m_X11_value) (pc := 69) (ix := 238) (ci := 7) (M' := m_X7_foundValue) (As := [.ref x53, .int (iI v62)]) (rest := []) dX11_value_69 ok_X7_foundValue im_X7_foundValue se_X7_foundValue ml11_238 np_X7_foundValue rfl rfl hk51o rfl (Nat.le_of_ble_eq_true rfl) (Nat.le_of_ble_eq_true rfl) rfl (k_X7_foundValue (d + 1) (T := T44) (σ := σ43) (a := x49) (p1 := x53) (p2 := v62) hk51o hk55o (by omega) w47 ) (fun r63 T65 σ64 gt66 hp => ?_)
          obtain ⟨v68, rfl, rfl, rfl, f67⟩ := hp
          clear gt66
          show Tn _ _ 72 T44 σ43 [(0, .ref a), (1, .int (iI k)), (2, .int (iI m))] [.int (iI v68)] _
          exact tn_iret rfl dX11_value_72 ⟨_, rfl, w47, ((FrC.rfl.trans (FrC.sub F13 (by decide))).trans (FrC.sub F48 (by decide))), by omega⟩
        · show Tn _ _ 46 T σ6 [(0, .ref a), (1, .int (iI k)), (2, .int (iI m))] (vl true (x40 : Int) :: [.int (iI v32), .ref x23]) _
          rw [vl_ref rfl]
          have hk41t : (T x40).1 = 50 := hk41.2.2 (by have q9 := hk3; omega)
          have hk41to : OB T x40 1 := ⟨by omega, by rw [hk41t]; rfl, by omega⟩
          refine tn_callV (M := m_X11_value) (pc := 46) (ix := 176) (ci := 10) (M' := m_X10_refresh) (As := [.int (iI v32), .ref x40]) (rest := []) dX11_value_46 ok_X10_refresh im_X10_refresh se_X10_refresh ml11_176 np_X10_refresh rfl rfl hk25o rfl (Nat.le_of_ble_eq_true rfl) (Nat.le_of_ble_eq_true rfl) rfl (k_X10_refresh (d) (T := T) (σ := σ6) (a := x23) (r := v32) (c := x40) hk25o (by omega) hk41to hk41t w12 ) (fun r69 T71 σ70 gt72 hp => ?_)
          obtain ⟨rfl, w74, F75⟩ := hp
          replace ha : OB T71 a 11 := gt72.ob ha
          show Tn _ _ 49 T71 σ70 [(0, .ref a), (1, .int (iI k)), (2, .int (iI m))] [] _
          refine tn_aload_n dX11_value_49 rfl 0 rfl ?_
          obtain ⟨x76, hx77, hk78⟩ : ∃ x : Nat, σ70.2.1 103 a = (x : Int) ∧ (T71 x).1 = 37 := wf_103 w74 ha
          have hk78o : OB T71 x76 7 := ⟨by omega, by rw [hk78]; rfl, by omega⟩
          refine tn_getR (ci := 11) (i := 8) (n := 103) (x := x76) dX11_value_50 rfl lay_11 (by decide) fl11_83 ha rfl rfl (hx77) ?_
          refine tn_aload_n dX11_value_53 rfl 0 rfl ?_
          obtain ⟨x80, hx81, hk82⟩ : ∃ x : Nat, σ70.2.1 102 a = (x : Int) ∧ (T71 x).1 = 40 := wf_102 w74 ha
          have hk82o : OB T71 x80 10 := ⟨by omega, by rw [hk82]; rfl, by omega⟩
          refine tn_getR (ci := 11) (i := 7) (n := 102) (x := x80) dX11_value_54 rfl lay_11 (by decide) fl11_39 ha rfl rfl (hx81) ?_
          refine tn_aload_n dX11_value_57 rfl 0 rfl ?_
          refine tn_getR (ci := 11) (i := 8) (n := 103) (x := x76) dX11_value_58 rfl lay_11 (by decide) fl11_83 ha rfl rfl (hx77) ?_
          refine tn_aload_n dX11_value_61 rfl 0 rfl ?_
          refine tn_getR (ci := 11) (i := 7) (n := 102) (x := x80) dX11_value_62 rfl lay_11 (by decide) fl11_39 ha rfl rfl (hx81) ?_
          refine tn_iload_n dX11_value_65 rfl 2 rfl ?_
          refine tn_callV (M := m_X11_value) (pc := 66) (ix := 234) (ci := 7) (M' := m_X7_foundId) (As := [.ref x80, .int (iI m)]) (rest := [.ref x80, .ref x76]) dX11_value_66 ok_X7_foundId im_X7_foundId se_X7_foundId ml11_234 np_X7_foundId rfl rfl hk78o rfl (Nat.le_of_ble_eq_true rfl) (Nat.le_of_ble_eq_true rfl) rfl (k_X7_foundId (d + 1) (T := T71) (σ := σ70) (a := x76) (p1 := x80) (p2 := m) hk78o hk82o (by omega) w74 ) (fun r84 T86 σ85 gt87 hp => ?_)
          obtain ⟨v89, rfl, rfl, rfl, f88⟩ := hp
          clear gt87
          show Tn _ _ 69 T71 σ70 [(0, .ref a), (1, .int (iI k)), (2, .int (iI m))] [.int (iI v89), .ref x80, .ref x76] _
          refine tn_callV (M := m_X11_value) (pc := 69) (ix := 238) (ci := 7) (M' := m_X7_foundValue) (As := [.ref x80, .int (iI v89)]) (rest := []) dX11_value_69 ok_X7_foundValue im_X7_foundValue se_X7_foundValue ml11_238 np_X7_foundValue rfl rfl hk78o rfl (Nat.le_of_ble_eq_true rfl) (Nat.le_of_ble_eq_true rfl) rfl (k_X7_foundValue (d + 1) (T := T71) (σ := σ70) (a := x76) (p1 := x80) (p2 := v89) hk78o hk82o (by omega) w74 ) (fun r90 T92 σ91 gt93 hp => ?_)
          obtain ⟨v95, rfl, rfl, rfl, f94⟩ := hp
          clear gt93
          show Tn _ _ 72 T71 σ70 [(0, .ref a), (1, .int (iI k)), (2, .int (iI m))] [.int (iI v95)] _
          exact tn_iret rfl dX11_value_72 ⟨_, rfl, w74, ((FrC.rfl.trans (FrC.sub F13 (by decide))).trans (FrC.sub F75 (by decide))), by omega⟩
      · refine tn_iconst dX11_value_26 ?_
        exact tn_iret rfl dX11_value_27 ⟨_, rfl, w12, (FrC.rfl.trans (FrC.sub F13 (by decide))), by omega⟩
