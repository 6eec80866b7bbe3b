theorem cd_X6_foldBind : Cond.code yX6_foldBind cX6_foldBind 4 none ∈ pWW := pw4 (List.mem_of_getElem? (i := 193) rfl) rfl
theorem ini_6 : Cond.initialized RX6 ∈ pWW := pw1 (List.mem_of_getElem? (i := 7) rfl) rfl
abbrev m_X6_foldBind : MT := (yX6_foldBind, cX6_foldBind, 4, none)
theorem ok_X6_foldBind : pOk m_X6_foldBind := ⟨⟨cd_X6_foldBind, ini_6⟩, by decide +kernel, ⟨by decide +kernel, by decide +kernel⟩, Nat.le_of_ble_eq_true rfl⟩
theorem np_X6_foldBind : (parseMethodDescriptor yX6_foldBind.desc).map (fun d => d.parameters.length) = some 2 := by decide +kernel
theorem im_X6_foldBind : Cond.instanceMethod yX6_foldBind ∈ pWW := pw4 (List.mem_of_getElem? (i := 192) rfl) rfl
theorem se_X6_foldBind : Cond.selects RX6 yX6_foldBind yX6_foldBind ∈ pWW := pws (List.mem_map.mpr ⟨_, lw_pin 45 rfl, rfl⟩) rfl
theorem ml6_34 : Cond.methodLink RX6 34 yX1_get ∈ pWW := pw4 (List.mem_of_getElem? (i := 189) rfl) rfl
theorem fl6_9 : Cond.fieldLink RX6 9 (TX6 0).1 (TX6 0).2.1 (TX6 0).2.2.1 ∈ pWW := pw2 (List.mem_of_getElem? (i := 35) rfl) rfl
theorem nl6_63 : (RX6, 63, yX11_at, "LineKeeper") ∈ nst_M := List.mem_of_getElem? (i := 16) rfl
theorem fl6_15 : Cond.fieldLink RX6 15 (TX6 1).1 (TX6 1).2.1 (TX6 1).2.2.1 ∈ pWW := pw2 (List.mem_of_getElem? (i := 36) rfl) rfl
theorem ml6_67 : Cond.methodLink RX6 67 yX1_setWhere ∈ pWW := pw4 (List.mem_of_getElem? (i := 195) rfl) rfl
theorem dX6_foldBind_0 : decode cX6_foldBind 0 = .ok (.aload_n 1, 1) := by decide +kernel
theorem dX6_foldBind_1 : decode cX6_foldBind 1 = .ok (.iload_n 2, 1) := by decide +kernel
theorem dX6_foldBind_2 : decode cX6_foldBind 2 = .ok (.iconst 4, 1) := by decide +kernel
theorem dX6_foldBind_3 : decode cX6_foldBind 3 = .ok (.invokevirtual 34, 3) := by decide +kernel
theorem dX6_foldBind_6 : decode cX6_foldBind 6 = .ok (.istore_n 3, 1) := by decide +kernel
theorem dX6_foldBind_7 : decode cX6_foldBind 7 = .ok (.aload_n 1, 1) := by decide +kernel
theorem dX6_foldBind_8 : decode cX6_foldBind 8 = .ok (.iload_n 2, 1) := by decide +kernel
theorem dX6_foldBind_9 : decode cX6_foldBind 9 = .ok (.bipush 11, 2) := by decide +kernel
theorem dX6_foldBind_11 : decode cX6_foldBind 11 = .ok (.invokevirtual 34, 3) := by decide +kernel
theorem dX6_foldBind_14 : decode cX6_foldBind 14 = .ok (.iconst 2, 1) := by decide +kernel
theorem dX6_foldBind_15 : decode cX6_foldBind 15 = .ok (.if_icmp .ne 29, 3) := by decide +kernel
theorem dX6_foldBind_44 : decode cX6_foldBind 44 = .ok (.return_, 1) := by decide +kernel
theorem dX6_foldBind_18 : decode cX6_foldBind 18 = .ok (.aload_n 0, 1) := by decide +kernel
theorem dX6_foldBind_19 : decode cX6_foldBind 19 = .ok (.getfield 9, 3) := by decide +kernel
theorem dX6_foldBind_22 : decode cX6_foldBind 22 = .ok (.iload_n 3, 1) := by decide +kernel
theorem dX6_foldBind_23 : decode cX6_foldBind 23 = .ok (.invokestatic 63, 3) := by decide +kernel
theorem dX6_foldBind_26 : decode cX6_foldBind 26 = .ok (.iconst 1, 1) := by decide +kernel
theorem dX6_foldBind_27 : decode cX6_foldBind 27 = .ok (.if_icmp .ne 17, 3) := by decide +kernel
theorem dX6_foldBind_30 : decode cX6_foldBind 30 = .ok (.aload_n 1, 1) := by decide +kernel
theorem dX6_foldBind_31 : decode cX6_foldBind 31 = .ok (.iload_n 2, 1) := by decide +kernel
theorem dX6_foldBind_32 : decode cX6_foldBind 32 = .ok (.iconst 1, 1) := by decide +kernel
theorem dX6_foldBind_33 : decode cX6_foldBind 33 = .ok (.aload_n 0, 1) := by decide +kernel
theorem dX6_foldBind_34 : decode cX6_foldBind 34 = .ok (.getfield 15, 3) := by decide +kernel
theorem dX6_foldBind_37 : decode cX6_foldBind 37 = .ok (.iload_n 3, 1) := by decide +kernel
theorem dX6_foldBind_38 : decode cX6_foldBind 38 = .ok (.invokestatic 63, 3) := by decide +kernel
theorem dX6_foldBind_41 : decode cX6_foldBind 41 = .ok (.invokevirtual 67, 3) := by decide +kernel
set_option maxRecDepth 20000 in
theorem k_X6_foldBind (d : Nat) {T : CT} {σ : MS} {a : Nat} {p1 : Nat} {p2 : Int} (ha : OB T a 6) (h_p1 : OB T p1 1) (t_p1 : (T p1).1 = 50) (h_p2 : -2147483648 ≤ p2 ∧ p2 ≤ 2147483647) (hw : WT T σ) : Tn (d + 3) m_X6_foldBind 0 T σ [(0, .ref a), (1, .ref p1), (2, .int (iI p2))] [] (fun ro T2 σ2 => ro = none ∧ T = T2 ∧ WT T2 σ2 ∧ FrC T [] σ σ2) := by
  refine tn_aload_n dX6_foldBind_0 rfl 1 rfl ?_
  refine tn_iload_n dX6_foldBind_1 rfl 2 rfl ?_
  refine tn_iconst dX6_foldBind_2 ?_
  refine tn_callV (M := m_X6_foldBind) (pc := 3) (ix := 34) (ci := 1) (M' := m_X1_get) (As := [.int (iI p2), .int (iI 4)]) (rest := []) dX6_foldBind_3 ok_X1_get im_X1_get se_X1_get ml6_34 np_X1_get rfl rfl h_p1 rfl (Nat.le_of_ble_eq_true rfl) (Nat.le_of_ble_eq_true rfl) rfl (k_X1_get (d + 1) (T := T) (σ := σ) (a := p1) (k := p2) (c := 4) h_p1 (by omega) (by decide) hw (by omega)) (fun r1 T3 σ2 gt4 hp => ?_)
  obtain ⟨v6, rfl, rfl, rfl, f5⟩ := hp
  clear gt4
  show Tn _ _ 6 T σ [(0, .ref a), (1, .ref p1), (2, .int (iI p2))] [.int (iI v6)] _
  refine tn_istore_n (L' := [(3, .int (iI v6)), (0, .ref a), (1, .ref p1), (2, .int (iI p2))]) dX6_foldBind_6 rfl (by decide) rfl ?_
  refine tn_aload_n dX6_foldBind_7 rfl 2 rfl ?_
  refine tn_iload_n dX6_foldBind_8 rfl 3 rfl ?_
  refine tn_bipush dX6_foldBind_9 (by decide) ?_
  refine tn_callV (M := m_X6_foldBind) (pc := 11) (ix := 34) (ci := 1) (M' := m_X1_get) (As := [.int (iI p2), .int (iI 11)]) (rest := []) dX6_foldBind_11 ok_X1_get im_X1_get se_X1_get ml6_34 np_X1_get rfl rfl h_p1 rfl (Nat.le_of_ble_eq_true rfl) (Nat.le_of_ble_eq_true rfl) rfl (k_X1_get (d + 1) (T := T) (σ := σ) (a := p1) (k := p2) (c := 11) h_p1 (by omega) (by decide) hw (by omega)) (fun r7 T9 σ8 gt10 hp => ?_)
  obtain ⟨v12, rfl, rfl, rfl, f11⟩ := hp
  clear gt10
  show Tn _ _ 14 T σ [(3, .int (iI v6)), (0, .ref a), (1, .ref p1), (2, .int (iI p2))] [.int (iI v12)] _
  refine tn_iconst dX6_foldBind_14 ?_
  refine tn_icmp_ne (tgt := 44) dX6_foldBind_15 (by decide) ⟨by omega, by omega⟩ ⟨by decide, by decide⟩ (fun h13 => ?_) (fun h13 => ?_)
  · exact tn_vret rfl dX6_foldBind_44 ⟨rfl, rfl, hw, FrC.rfl⟩
  · refine tn_aload_n dX6_foldBind_18 rfl 1 rfl ?_
    obtain ⟨x14, hx15, hk16, hl17⟩ : ∃ x : Nat, σ.2.1 52 a = (x : Int) ∧ AR T x 1 192 192 := wf_52 hw ha
    have hk16i : IA T x14 := by unfold IA; omega
    refine tn_getR (ci := 6) (i := 0) (n := 52) (x := x14) dX6_foldBind_19 rfl lay_6 (by decide) fl6_9 ha rfl rfl (hx15) ?_
    refine tn_iload_n dX6_foldBind_22 rfl 0 rfl ?_
    refine tn_callSN (M := m_X6_foldBind) (pc := 23) (ix := 63) (M' := m_X11_at) (As := [.ref x14, .int (iI v6)]) (rest := []) dX6_foldBind_23 ok_X11_at stt_X11_at nl6_63 np_X11_at rfl (Nat.le_of_ble_eq_true rfl) (Nat.le_of_ble_eq_true rfl) rfl (k_X11_at (d + 1) (T := T) (σ := σ) (x := x14) (i := v6) hk16i (by omega) (by omega) hw ) (fun r18 T20 σ19 gt21 hp => ?_)
    obtain ⟨v25, rfl, rfl, rfl, f22, f23, f24⟩ := hp
    clear gt21
    clear f23 f24
    show Tn _ _ 26 T σ [(3, .int (iI v6)), (0, .ref a), (1, .ref p1), (2, .int (iI p2))] [.int (iI v25)] _
    refine tn_iconst dX6_foldBind_26 ?_
    refine tn_icmp_ne (tgt := 44) dX6_foldBind_27 (by decide) ⟨by omega, by omega⟩ ⟨by decide, by decide⟩ (fun h26 => ?_) (fun h26 => ?_)
    · exact tn_vret rfl dX6_foldBind_44 ⟨rfl, rfl, hw, FrC.rfl⟩
    · refine tn_aload_n dX6_foldBind_30 rfl 2 rfl ?_
      refine tn_iload_n dX6_foldBind_31 rfl 3 rfl ?_
      refine tn_iconst dX6_foldBind_32 ?_
      refine tn_aload_n dX6_foldBind_33 rfl 1 rfl ?_
      obtain ⟨x27, hx28, hk29, hl30⟩ : ∃ x : Nat, σ.2.1 53 a = (x : Int) ∧ AR T x 1 192 192 := wf_53 hw ha
      have hk29i : IA T x27 := by unfold IA; omega
      refine tn_getR (ci := 6) (i := 1) (n := 53) (x := x27) dX6_foldBind_34 rfl lay_6 (by decide) fl6_15 ha rfl rfl (hx28) ?_
      refine tn_iload_n dX6_foldBind_37 rfl 0 rfl ?_
      refine tn_callSN (M := m_X6_foldBind) (pc := 38) (ix := 63) (M' := m_X11_at) (As := [.ref x27, .int (iI v6)]) (rest := [.int (iI 1), .int (iI p2), .ref p1]) dX6_foldBind_38 ok_X11_at stt_X11_at nl6_63 np_X11_at rfl (Nat.le_of_ble_eq_true rfl) (Nat.le_of_ble_eq_true rfl) rfl (k_X11_at (d + 1) (T := T) (σ := σ) (x := x27) (i := v6) hk29i (by omega) (by omega) hw ) (fun r31 T33 σ32 gt34 hp => ?_)
      obtain ⟨v38, rfl, rfl, rfl, f35, f36, f37⟩ := hp
      clear gt34
      clear f36 f37
      show Tn _ _ 41 T σ [(3, .int (iI v6)), (0, .ref a), (1, .ref p1), (2, .int (iI p2))] [.int (iI v38), .int (iI 1), .int (iI p2), .ref p1] _
      refine tn_callV (M := m_X6_foldBind) (pc := 41) (ix := 67) (ci := 1) (M' := m_X1_setWhere) (As := [.int (iI p2), .int (iI 1), .int (iI v38)]) (rest := []) dX6_foldBind_41 ok_X1_setWhere im_X1_setWhere se_X1_setWhere ml6_67 np_X1_setWhere rfl rfl h_p1 rfl (Nat.le_of_ble_eq_true rfl) (Nat.le_of_ble_eq_true rfl) rfl (k_X1_setWhere (d) (T := T) (σ := σ) (a := p1) (k := p2) (y := 1) (z := v38) h_p1 (by omega) (by decide) (by omega) hw ) (fun r39 T41 σ40 gt42 hp => ?_)
      obtain ⟨rfl, rfl, w44, F45⟩ := hp
      clear gt42
      show Tn _ _ 44 T σ40 [(3, .int (iI v6)), (0, .ref a), (1, .ref p1), (2, .int (iI p2))] [] _
      exact tn_vret rfl dX6_foldBind_44 ⟨rfl, rfl, w44, (FrC.rfl.trans (FrC.sub F45 (by decide)))⟩
