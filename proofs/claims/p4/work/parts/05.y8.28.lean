theorem cd_X7_reckonAt : Cond.code yX7_reckonAt cX7_reckonAt 4 none ∈ pWW := pw6 (List.mem_of_getElem? (i := 90) rfl) rfl
abbrev m_X7_reckonAt : MT := (yX7_reckonAt, cX7_reckonAt, 4, none)
theorem ok_X7_reckonAt : pOk m_X7_reckonAt := ⟨⟨cd_X7_reckonAt, ini_7⟩, by decide +kernel, ⟨by decide +kernel, by decide +kernel⟩, Nat.le_of_ble_eq_true rfl⟩
theorem np_X7_reckonAt : (parseMethodDescriptor yX7_reckonAt.desc).map (fun d => d.parameters.length) = some 2 := by decide +kernel
theorem im_X7_reckonAt : Cond.instanceMethod yX7_reckonAt ∈ pWW := pw6 (List.mem_of_getElem? (i := 89) rfl) rfl
theorem se_X7_reckonAt : Cond.selects RX7 yX7_reckonAt yX7_reckonAt ∈ pWW := pws (List.mem_map.mpr ⟨_, lw_pin 93 rfl, rfl⟩) rfl
theorem nl7_132 : (RX7, 132, yX11_isPure, "LineKeeper") ∈ nst_M := List.mem_of_getElem? (i := 49) rfl
theorem ml7_110 : Cond.methodLink RX7 110 yX7_operand ∈ pWW := pw6 (List.mem_of_getElem? (i := 66) rfl) rfl
theorem nl7_136 : (RX7, 136, yX11_reckon, "LineKeeper") ∈ nst_M := List.mem_of_getElem? (i := 50) rfl
theorem dX7_reckonAt_0 : decode cX7_reckonAt 0 = .ok (.iload_n 2, 1) := by decide +kernel
theorem dX7_reckonAt_1 : decode cX7_reckonAt 1 = .ok (.invokestatic 132, 3) := by decide +kernel
theorem dX7_reckonAt_4 : decode cX7_reckonAt 4 = .ok (.ifCond .eq 54, 3) := by decide +kernel
theorem dX7_reckonAt_58 : decode cX7_reckonAt 58 = .ok (.return_, 1) := by decide +kernel
theorem dX7_reckonAt_7 : decode cX7_reckonAt 7 = .ok (.iload_n 2, 1) := by decide +kernel
theorem dX7_reckonAt_8 : decode cX7_reckonAt 8 = .ok (.ifCond .ne 7, 3) := by decide +kernel
theorem dX7_reckonAt_15 : decode cX7_reckonAt 15 = .ok (.aload_n 0, 1) := by decide +kernel
theorem dX7_reckonAt_16 : decode cX7_reckonAt 16 = .ok (.iload_n 1, 1) := by decide +kernel
theorem dX7_reckonAt_17 : decode cX7_reckonAt 17 = .ok (.iconst 5, 1) := by decide +kernel
theorem dX7_reckonAt_18 : decode cX7_reckonAt 18 = .ok (.invokevirtual 110, 3) := by decide +kernel
theorem dX7_reckonAt_21 : decode cX7_reckonAt 21 = .ok (.istore_n 3, 1) := by decide +kernel
theorem dX7_reckonAt_22 : decode cX7_reckonAt 22 = .ok (.aload_n 0, 1) := by decide +kernel
theorem dX7_reckonAt_23 : decode cX7_reckonAt 23 = .ok (.getfield 24, 3) := by decide +kernel
theorem dX7_reckonAt_26 : decode cX7_reckonAt 26 = .ok (.aload_n 0, 1) := by decide +kernel
theorem dX7_reckonAt_27 : decode cX7_reckonAt 27 = .ok (.getfield 65, 3) := by decide +kernel
theorem dX7_reckonAt_30 : decode cX7_reckonAt 30 = .ok (.sipush 192, 3) := by decide +kernel
theorem dX7_reckonAt_33 : decode cX7_reckonAt 33 = .ok (.imul, 1) := by decide +kernel
theorem dX7_reckonAt_34 : decode cX7_reckonAt 34 = .ok (.aload_n 0, 1) := by decide +kernel
theorem dX7_reckonAt_35 : decode cX7_reckonAt 35 = .ok (.getfield 72, 3) := by decide +kernel
theorem dX7_reckonAt_38 : decode cX7_reckonAt 38 = .ok (.iload_n 1, 1) := by decide +kernel
theorem dX7_reckonAt_39 : decode cX7_reckonAt 39 = .ok (.iconst 1, 1) := by decide +kernel
theorem dX7_reckonAt_40 : decode cX7_reckonAt 40 = .ok (.invokevirtual 117, 3) := by decide +kernel
theorem dX7_reckonAt_43 : decode cX7_reckonAt 43 = .ok (.iadd, 1) := by decide +kernel
theorem dX7_reckonAt_44 : decode cX7_reckonAt 44 = .ok (.iload_n 2, 1) := by decide +kernel
theorem dX7_reckonAt_45 : decode cX7_reckonAt 45 = .ok (.aload_n 0, 1) := by decide +kernel
theorem dX7_reckonAt_46 : decode cX7_reckonAt 46 = .ok (.iload_n 1, 1) := by decide +kernel
theorem dX7_reckonAt_47 : decode cX7_reckonAt 47 = .ok (.iconst 3, 1) := by decide +kernel
theorem dX7_reckonAt_48 : decode cX7_reckonAt 48 = .ok (.invokevirtual 110, 3) := by decide +kernel
theorem dX7_reckonAt_51 : decode cX7_reckonAt 51 = .ok (.iload_n 3, 1) := by decide +kernel
theorem dX7_reckonAt_52 : decode cX7_reckonAt 52 = .ok (.invokestatic 136, 3) := by decide +kernel
theorem dX7_reckonAt_55 : decode cX7_reckonAt 55 = .ok (.invokestatic 61, 3) := by decide +kernel
theorem dX7_reckonAt_11 : decode cX7_reckonAt 11 = .ok (.iconst 0, 1) := by decide +kernel
theorem dX7_reckonAt_12 : decode cX7_reckonAt 12 = .ok (.goto 9, 3) := by decide +kernel
set_option maxRecDepth 20000 in
theorem k_X7_reckonAt (d : Nat) {T : CT} {σ : MS} {a : Nat} {k : Int} {e : Int} (ha : OB T a 7) (h_k : -2147483648 ≤ k ∧ k ≤ 2147483647) (h_e : -2147483648 ≤ e ∧ e ≤ 2147483647) (hw : WT T σ) (hn : 0 ≤ σ.2.1 69 a) : Tn (d + 3) m_X7_reckonAt 0 T σ [(0, .ref a), (1, .int (iI k)), (2, .int (iI e))] [] (fun ro T2 σ2 => ro = none ∧ T = T2 ∧ WT T2 σ2 ∧ FrC T [] σ σ2) := by
  refine tn_iload_n dX7_reckonAt_0 rfl 2 rfl ?_
  refine tn_callSN (M := m_X7_reckonAt) (pc := 1) (ix := 132) (M' := m_X11_isPure) (As := [.int (iI e)]) (rest := []) dX7_reckonAt_1 ok_X11_isPure stt_X11_isPure nl7_132 np_X11_isPure rfl (Nat.le_of_ble_eq_true rfl) (Nat.le_of_ble_eq_true rfl) rfl (k_X11_isPure (d + 1) (T := T) (σ := σ) (k := e) (by omega) hw ) (fun r1 T3 σ2 gt4 hp => ?_)
  obtain ⟨v6, rfl, rfl, rfl, f5⟩ := hp
  clear gt4
  show Tn _ _ 4 T σ [(0, .ref a), (1, .int (iI k)), (2, .int (iI e))] [.int (iI v6)] _
  refine tn_if_eq (tgt := 58) dX7_reckonAt_4 (by decide) ⟨by omega, by omega⟩ (fun h7 => ?_) (fun h7 => ?_)
  · exact tn_vret rfl dX7_reckonAt_58 ⟨rfl, rfl, hw, FrC.rfl⟩
  · refine tn_iload_n dX7_reckonAt_7 rfl 2 rfl ?_
    refine tn_if_ne (tgt := 15) dX7_reckonAt_8 (by decide) ⟨by omega, by omega⟩ (fun h8 => ?_) (fun h8 => ?_)
    · refine tn_aload_n dX7_reckonAt_15 rfl 0 rfl ?_
      refine tn_iload_n dX7_reckonAt_16 rfl 1 rfl ?_
      refine tn_iconst dX7_reckonAt_17 ?_
      refine tn_callV (M := m_X7_reckonAt) (pc := 18) (ix := 110) (ci := 7) (M' := m_X7_operand) (As := [.int (iI k), .int (iI 5)]) (rest := []) dX7_reckonAt_18 ok_X7_operand im_X7_operand se_X7_operand ml7_110 np_X7_operand rfl rfl ha rfl (Nat.le_of_ble_eq_true rfl) (Nat.le_of_ble_eq_true rfl) rfl (k_X7_operand (d) (T := T) (σ := σ) (a := a) (k := k) (c := 5) ha (by omega) (by decide) hw (by rw [show σ.2.1 69 a = σ.2.1 69 a from rfl]; exact hn) (by omega)) (fun r9 T11 σ10 gt12 hp => ?_)
      obtain ⟨v14, rfl, rfl, rfl, f13⟩ := hp
      clear gt12
      show Tn _ _ 21 T σ [(0, .ref a), (1, .int (iI k)), (2, .int (iI e))] [.int (iI v14)] _
      refine tn_istore_n (L' := [(3, .int (iI v14)), (0, .ref a), (1, .int (iI k)), (2, .int (iI e))]) dX7_reckonAt_21 rfl (by decide) rfl ?_
      refine tn_aload_n dX7_reckonAt_22 rfl 1 rfl ?_
      obtain ⟨x15, hx16, hk17, hl18⟩ : ∃ x : Nat, σ.2.1 63 a = (x : Int) ∧ AR T x 1 1728 1728 := wf_63 hw ha
      have hk17i : IA T x15 := by unfold IA; omega
      refine tn_getR (ci := 7) (i := 8) (n := 63) (x := x15) dX7_reckonAt_23 rfl lay_7 (by decide) fl7_24 ha rfl rfl (hx16) ?_
      refine tn_aload_n dX7_reckonAt_26 rfl 1 rfl ?_
      refine tn_getI (ci := 7) (i := 2) (n := 57) (t := σ.2.1 57 a) dX7_reckonAt_27 rfl lay_7 (by decide) fl7_65 ha rfl rfl (rfl) ?_
      have g19 : ((0 : Int) ≤ σ.2.1 57 a ∧ σ.2.1 57 a ≤ 11184800) ∧ ((T a).1 = 57 → σ.2.1 57 a ≤ 8) := wf_57 hw ha
      have g19x := g19.2
      replace g19 := g19.1
      clear g19x
      refine tn_sipush dX7_reckonAt_30 (by decide) ?_
      refine tn_imul dX7_reckonAt_33 ?_
      refine tn_aload_n dX7_reckonAt_34 rfl 1 rfl ?_
      obtain ⟨x24, hx25, hk26a, hk26b⟩ := (wf_69 hw ha).resolve_left (by have q9 := hn; omega)
      have hk26o : OB T x24 1 := (show RC T a x24 from ⟨hk26a, hk26b⟩).ob
      clear hk26a hk26b
      refine tn_getR (ci := 7) (i := 14) (n := 69) (x := x24) dX7_reckonAt_35 rfl lay_7 (by decide) fl7_72 ha rfl rfl (hx25) ?_
      refine tn_iload_n dX7_reckonAt_38 rfl 2 rfl ?_
      refine tn_iconst dX7_reckonAt_39 ?_
      refine tn_callV (M := m_X7_reckonAt) (pc := 40) (ix := 117) (ci := 1) (M' := m_X1_get) (As := [.int (iI k), .int (iI 1)]) (rest := [.int (iI ((σ.2.1 57 a) * 192)), .ref x15]) dX7_reckonAt_40 ok_X1_get im_X1_get se_X1_get ml7_117 np_X1_get rfl rfl hk26o rfl (Nat.le_of_ble_eq_true rfl) (Nat.le_of_ble_eq_true rfl) rfl (k_X1_get (d + 1) (T := T) (σ := σ) (a := x24) (k := k) (c := 1) hk26o (by omega) (by decide) hw (by omega)) (fun r27 T29 σ28 gt30 hp => ?_)
      obtain ⟨v32, rfl, rfl, rfl, f31⟩ := hp
      clear gt30
      show Tn _ _ 43 T σ [(3, .int (iI v14)), (0, .ref a), (1, .int (iI k)), (2, .int (iI e))] [.int (iI v32), .int (iI ((σ.2.1 57 a) * 192)), .ref x15] _
      refine tn_iadd dX7_reckonAt_43 ?_
      refine tn_any (fun z33 g34 => ?_)
      have g34r : -2147483648 ≤ z33 ∧ z33 ≤ 2147483647 := g34
      refine tn_iload_n dX7_reckonAt_44 rfl 3 rfl ?_
      refine tn_aload_n dX7_reckonAt_45 rfl 1 rfl ?_
      refine tn_iload_n dX7_reckonAt_46 rfl 2 rfl ?_
      refine tn_iconst dX7_reckonAt_47 ?_
      refine tn_callV (M := m_X7_reckonAt) (pc := 48) (ix := 110) (ci := 7) (M' := m_X7_operand) (As := [.int (iI k), .int (iI 3)]) (rest := [.int (iI e), .int (iI z33), .ref x15]) dX7_reckonAt_48 ok_X7_operand im_X7_operand se_X7_operand ml7_110 np_X7_operand rfl rfl ha rfl (Nat.le_of_ble_eq_true rfl) (Nat.le_of_ble_eq_true rfl) rfl (k_X7_operand (d) (T := T) (σ := σ) (a := a) (k := k) (c := 3) ha (by omega) (by decide) hw (by rw [show σ.2.1 69 a = _ from hx25]; omega) (by omega)) (fun r35 T37 σ36 gt38 hp => ?_)
      obtain ⟨v40, rfl, rfl, rfl, f39⟩ := hp
      clear gt38
      show Tn _ _ 51 T σ [(3, .int (iI v14)), (0, .ref a), (1, .int (iI k)), (2, .int (iI e))] [.int (iI v40), .int (iI e), .int (iI z33), .ref x15] _
      refine tn_iload_n dX7_reckonAt_51 rfl 0 rfl ?_
      refine tn_callSN (M := m_X7_reckonAt) (pc := 52) (ix := 136) (M' := m_X11_reckon) (As := [.int (iI e), .int (iI v40), .int (iI v14)]) (rest := [.int (iI z33), .ref x15]) dX7_reckonAt_52 ok_X11_reckon stt_X11_reckon nl7_136 np_X11_reckon rfl (Nat.le_of_ble_eq_true rfl) (Nat.le_of_ble_eq_true rfl) rfl (k_X11_reckon (d + 1) (T := T) (σ := σ) (k := e) (x := v40) (y := v14) (by omega) (by omega) (by omega) hw ) (fun r41 T43 σ42 gt44 hp => ?_)
      obtain ⟨v46, rfl, rfl, rfl, f45⟩ := hp
      clear gt44
      show Tn _ _ 55 T σ [(3, .int (iI v14)), (0, .ref a), (1, .int (iI k)), (2, .int (iI e))] [.int (iI v46), .int (iI z33), .ref x15] _
      refine tn_callSN (M := m_X7_reckonAt) (pc := 55) (ix := 61) (M' := m_X11_put) (As := [.ref x15, .int (iI z33), .int (iI v46)]) (rest := []) dX7_reckonAt_55 ok_X11_put stt_X11_put nl7_61 np_X11_put rfl (Nat.le_of_ble_eq_true rfl) (Nat.le_of_ble_eq_true rfl) rfl (k_X11_put (d + 1) (T := T) (σ := σ) (x := x15) (i := z33) (y := v46) hk17i (by omega) (by omega) (by omega) hw (nh_k hk17 (by unfold HT; omega)) (vok_1 (by have q9 := hk17; omega) (by omega))) (fun r47 T49 σ48 gt50 hp => ?_)
      obtain ⟨rfl, rfl, w52, F53⟩ := hp
      clear gt50
      show Tn _ _ 58 T σ48 [(3, .int (iI v14)), (0, .ref a), (1, .int (iI k)), (2, .int (iI e))] [] _
      exact tn_vret rfl dX7_reckonAt_58 ⟨rfl, rfl, w52, (FrC.rfl.trans (FrC.sub F53 (by decide)))⟩
    · refine tn_iconst dX7_reckonAt_11 ?_
      refine tn_goto (tgt := 21) dX7_reckonAt_12 (by decide) ?_
      refine tn_istore_n (L' := [(3, .int (iI 0)), (0, .ref a), (1, .int (iI k)), (2, .int (iI e))]) dX7_reckonAt_21 rfl (by decide) rfl ?_
      refine tn_aload_n dX7_reckonAt_22 rfl 1 rfl ?_
      obtain ⟨x54, hx55, hk56, hl57⟩ : ∃ x : Nat, σ.2.1 63 a = (x : Int) ∧ AR T x 1 1728 1728 := wf_63 hw ha
      have hk56i : IA T x54 := by unfold IA; omega
      refine tn_getR (ci := 7) (i := 8) (n := 63) (x := x54) dX7_reckonAt_23 rfl lay_7 (by decide) fl7_24 ha rfl rfl (hx55) ?_
      refine tn_aload_n dX7_reckonAt_26 rfl 1 rfl ?_
      refine tn_getI (ci := 7) (i := 2) (n := 57) (t := σ.2.1 57 a) dX7_reckonAt_27 rfl lay_7 (by decide) fl7_65 ha rfl rfl (rfl) ?_
      have g58 : ((0 : Int) ≤ σ.2.1 57 a ∧ σ.2.1 57 a ≤ 11184800) ∧ ((T a).1 = 57 → σ.2.1 57 a ≤ 8) := wf_57 hw ha
      have g58x := g58.2
      replace g58 := g58.1
      clear g58x
      refine tn_sipush dX7_reckonAt_30 (by decide) ?_
      refine tn_imul dX7_reckonAt_33 ?_
      refine tn_aload_n dX7_reckonAt_34 rfl 1 rfl ?_
      obtain ⟨x63, hx64, hk65a, hk65b⟩ := (wf_69 hw ha).resolve_left (by have q9 := hn; omega)
      have hk65o : OB T x63 1 := (show RC T a x63 from ⟨hk65a, hk65b⟩).ob
      clear hk65a hk65b
      refine tn_getR (ci := 7) (i := 14) (n := 69) (x := x63) dX7_reckonAt_35 rfl lay_7 (by decide) fl7_72 ha rfl rfl (hx64) ?_
      refine tn_iload_n dX7_reckonAt_38 rfl 2 rfl ?_
      refine tn_iconst dX7_reckonAt_39 ?_
      refine tn_callV (M := m_X7_reckonAt) (pc := 40) (ix := 117) (ci := 1) (M' := m_X1_get) (As := [.int (iI k), .int (iI 1)]) (rest := [.int (iI ((σ.2.1 57 a) * 192)), .ref x54]) dX7_reckonAt_40 ok_X1_get im_X1_get se_X1_get ml7_117 np_X1_get rfl rfl hk65o rfl (Nat.le_of_ble_eq_true rfl) (Nat.le_of_ble_eq_true rfl) rfl (k_X1_get (d + 1) (T := T) (σ := σ) (a := x63) (k := k) (c := 1) hk65o (by omega) (by decide) hw (by omega)) (fun r66 T68 σ67 gt69 hp => ?_)
      obtain ⟨v71, rfl, rfl, rfl, f70⟩ := hp
      clear gt69
      show Tn _ _ 43 T σ [(3, .int (iI 0)), (0, .ref a), (1, .int (iI k)), (2, .int (iI e))] [.int (iI v71), .int (iI ((σ.2.1 57 a) * 192)), .ref x54] _
      refine tn_iadd dX7_reckonAt_43 ?_
      refine tn_any (fun z72 g73 => ?_)
      have g73r : -2147483648 ≤ z72 ∧ z72 ≤ 2147483647 := g73
      refine tn_iload_n dX7_reckonAt_44 rfl 3 rfl ?_
      refine tn_aload_n dX7_reckonAt_45 rfl 1 rfl ?_
      refine tn_iload_n dX7_reckonAt_46 rfl 2 rfl ?_
      refine tn_iconst dX7_reckonAt_47 ?_
      refine tn_callV (M := m_X7_reckonAt) (pc := 48) (ix := 110) (ci := 7) (M' := m_X7_operand) (As := [.int (iI k), .int (iI 3)]) (rest := [.int (iI e), .int (iI z72), .ref x54]) dX7_reckonAt_48 ok_X7_operand im_X7_operand se_X7_operand ml7_110 np_X7_operand rfl rfl ha rfl (Nat.le_of_ble_eq_true rfl) (Nat.le_of_ble_eq_true rfl) rfl (k_X7_operand (d) (T := T) (σ := σ) (a := a) (k := k) (c := 3) ha (by omega) (by decide) hw (by rw [show σ.2.1 69 a = _ from hx64]; omega) (by omega)) (fun r74 T76 σ75 gt77 hp => ?_)
      obtain ⟨v79, rfl, rfl, rfl, f78⟩ := hp
      clear gt77
      show Tn _ _ 51 T σ [(3, .int (iI 0)), (0, .ref a), (1, .int (iI k)), (2, .int (iI e))] [.int (iI v79), .int (iI e), .int (iI z72), .ref x54] _
      refine tn_iload_n dX7_reckonAt_51 rfl 0 rfl ?_
      refine tn_callSN (M := m_X7_reckonAt) (pc := 52) (ix := 136) (M' := m_X11_reckon) (As := [.int (iI e), .int (iI v79), .int (iI 0)]) (rest := [.int (iI z72), .ref x54]) dX7_reckonAt_52 ok_X11_reckon stt_X11_reckon nl7_136 np_X11_reckon rfl (Nat.le_of_ble_eq_true rfl) (Nat.le_of_ble_eq_true rfl) rfl (k_X11_reckon (d + 1) (T := T) (σ := σ) (k := e) (x := v79) (y := 0) (by omega) (by omega) (by decide) hw ) (fun r80 T82 σ81 gt83 hp => ?_)
      obtain ⟨v85, rfl, rfl, rfl, f84⟩ := hp
      clear gt83
      show Tn _ _ 55 T σ [(3, .int (iI 0)), (0, .ref a), (1, .int (iI k)), (2, .int (iI e))] [.int (iI v85), .int (iI z72), .ref x54] _
      refine tn_callSN (M := m_X7_reckonAt) (pc := 55) (ix := 61) (M' := m_X11_put) (As := [.ref x54, .int (iI z72), .int (iI v85)]) (rest := []) dX7_reckonAt_55 ok_X11_put stt_X11_put nl7_61 np_X11_put rfl (Nat.le_of_ble_eq_true rfl) (Nat.le_of_ble_eq_true rfl) rfl (k_X11_put (d + 1) (T := T) (σ := σ) (x := x54) (i := z72) (y := v85) hk56i (by omega) (by omega) (by omega) hw (nh_k hk56 (by unfold HT; omega)) (vok_1 (by have q9 := hk56; omega) (by omega))) (fun r86 T88 σ87 gt89 hp => ?_)
      obtain ⟨rfl, rfl, w91, F92⟩ := hp
      clear gt89
      show Tn _ _ 58 T σ87 [(3, .int (iI 0)), (0, .ref a), (1, .int (iI k)), (2, .int (iI e))] [] _
      exact tn_vret rfl dX7_reckonAt_58 ⟨rfl, rfl, w91, (FrC.rfl.trans (FrC.sub F92 (by decide)))⟩
