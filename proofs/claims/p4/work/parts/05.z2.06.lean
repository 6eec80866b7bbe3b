theorem cd_X4_addCopy : Cond.code yX4_addCopy cX4_addCopy 4 none ∈ pWW := pw5 (List.mem_of_getElem? (i := 184) rfl) rfl
abbrev m_X4_addCopy : MT := (yX4_addCopy, cX4_addCopy, 4, none)
theorem ok_X4_addCopy : pOk m_X4_addCopy := ⟨⟨cd_X4_addCopy, ini_4⟩, by decide +kernel, ⟨by decide +kernel, by decide +kernel⟩, Nat.le_of_ble_eq_true rfl⟩
theorem np_X4_addCopy : (parseMethodDescriptor yX4_addCopy.desc).map (fun d => d.parameters.length) = some 3 := by decide +kernel
theorem im_X4_addCopy : Cond.instanceMethod yX4_addCopy ∈ pWW := pw5 (List.mem_of_getElem? (i := 183) rfl) rfl
theorem se_X4_addCopy : Cond.selects RX4 yX4_addCopy yX4_addCopy ∈ pWW := pws (List.mem_map.mpr ⟨_, lw_pin 71 rfl, rfl⟩) rfl
theorem ml4_148 : Cond.methodLink RX4 148 yX4_addRow ∈ pWW := pw5 (List.mem_of_getElem? (i := 176) rfl) rfl
theorem dX4_addCopy_0 : decode cX4_addCopy 0 = .ok (.aload_n 0, 1) := by decide +kernel
theorem dX4_addCopy_1 : decode cX4_addCopy 1 = .ok (.getfield 19, 3) := by decide +kernel
theorem dX4_addCopy_4 : decode cX4_addCopy 4 = .ok (.aload_n 0, 1) := by decide +kernel
theorem dX4_addCopy_5 : decode cX4_addCopy 5 = .ok (.getfield 96, 3) := by decide +kernel
theorem dX4_addCopy_8 : decode cX4_addCopy 8 = .ok (.iconst 3, 1) := by decide +kernel
theorem dX4_addCopy_9 : decode cX4_addCopy 9 = .ok (.iload_n 2, 1) := by decide +kernel
theorem dX4_addCopy_10 : decode cX4_addCopy 10 = .ok (.invokevirtual 144, 3) := by decide +kernel
theorem dX4_addCopy_13 : decode cX4_addCopy 13 = .ok (.aload_n 0, 1) := by decide +kernel
theorem dX4_addCopy_14 : decode cX4_addCopy 14 = .ok (.getfield 19, 3) := by decide +kernel
theorem dX4_addCopy_17 : decode cX4_addCopy 17 = .ok (.aload_n 0, 1) := by decide +kernel
theorem dX4_addCopy_18 : decode cX4_addCopy 18 = .ok (.getfield 96, 3) := by decide +kernel
theorem dX4_addCopy_21 : decode cX4_addCopy 21 = .ok (.iconst 4, 1) := by decide +kernel
theorem dX4_addCopy_22 : decode cX4_addCopy 22 = .ok (.iload_n 3, 1) := by decide +kernel
theorem dX4_addCopy_23 : decode cX4_addCopy 23 = .ok (.invokevirtual 144, 3) := by decide +kernel
theorem dX4_addCopy_26 : decode cX4_addCopy 26 = .ok (.aload_n 0, 1) := by decide +kernel
theorem dX4_addCopy_27 : decode cX4_addCopy 27 = .ok (.iconst 0, 1) := by decide +kernel
theorem dX4_addCopy_28 : decode cX4_addCopy 28 = .ok (.iload_n 1, 1) := by decide +kernel
theorem dX4_addCopy_29 : decode cX4_addCopy 29 = .ok (.iconst 0, 1) := by decide +kernel
theorem dX4_addCopy_30 : decode cX4_addCopy 30 = .ok (.invokevirtual 148, 3) := by decide +kernel
theorem dX4_addCopy_33 : decode cX4_addCopy 33 = .ok (.return_, 1) := by decide +kernel
set_option maxRecDepth 20000 in
theorem k_X4_addCopy (d : Nat) {T : CT} {σ : MS} {a : Nat} {p1 : Int} {p2 : Int} {p3 : Int} (ha : OB T a 4) (h_p1 : -2147483648 ≤ p1 ∧ p1 ≤ 2147483647) (h_p2 : -2147483648 ≤ p2 ∧ p2 ≤ 2147483647) (h_p3 : -2147483648 ≤ p3 ∧ p3 ≤ 2147483647) (hw : WT T σ) (hh : 0 ≤ σ.2.1 25 a) : Tn (d + 3) m_X4_addCopy 0 T σ [(0, .ref a), (1, .int (iI p1)), (2, .int (iI p2)), (3, .int (iI p3))] [] (fun ro T2 σ2 => ro = none ∧ T = T2 ∧ WT T2 σ2 ∧ FrC T [32] σ σ2) := by
  refine tn_aload_n dX4_addCopy_0 rfl 0 rfl ?_
  have nn8 : 0 ≤ σ.2.1 25 a := (by omega)
  obtain ⟨x5, hx6, hk7⟩ := (wf_25 hw ha).resolve_left (by omega)
  have hk7o : OB T x5 1 := ⟨by omega, by rw [hk7]; rfl, by omega⟩
  refine tn_getR (ci := 4) (i := 2) (n := 25) (x := x5) dX4_addCopy_1 rfl lay_4 (by decide) fl4_19 ha rfl rfl (hx6) ?_
  refine tn_aload_n dX4_addCopy_4 rfl 0 rfl ?_
  refine tn_getI (ci := 4) (i := 9) (n := 32) (t := σ.2.1 32 a) dX4_addCopy_5 rfl lay_4 (by decide) fl4_96 ha rfl rfl (rfl) ?_
  have g9 : ((-2147483648 : Int) ≤ σ.2.1 32 a ∧ σ.2.1 32 a ≤ 2147483647) := wf_32 hw ha
  refine tn_iconst dX4_addCopy_8 ?_
  refine tn_iload_n dX4_addCopy_9 rfl 2 rfl ?_
  refine tn_callV (M := m_X4_addCopy) (pc := 10) (ix := 144) (ci := 1) (M' := m_X1_set) (As := [.int (iI (σ.2.1 32 a)), .int (iI 3), .int (iI p2)]) (rest := []) dX4_addCopy_10 ok_X1_set im_X1_set se_X1_set ml4_144 np_X1_set rfl rfl hk7o rfl (Nat.le_of_ble_eq_true rfl) (Nat.le_of_ble_eq_true rfl) rfl (k_X1_set (d + 1) (T := T) (σ := σ) (a := x5) (k := σ.2.1 32 a) (c := 3) (y := p2) hk7o (by omega) (by decide) (by omega) hw (by omega) (by omega)) (fun r10 T12 σ11 gt13 hp => ?_)
  obtain ⟨rfl, rfl, w15, F16⟩ := hp
  clear gt13
  show Tn _ _ 13 T σ11 [(0, .ref a), (1, .int (iI p1)), (2, .int (iI p2)), (3, .int (iI p3))] [] _
  refine tn_aload_n dX4_addCopy_13 rfl 0 rfl ?_
  refine tn_getR (ci := 4) (i := 2) (n := 25) (x := x5) dX4_addCopy_14 rfl lay_4 (by decide) fl4_19 ha rfl rfl (rc_F F16 (Or.inl (by decide)) (by decide) (hx6)) ?_
  refine tn_aload_n dX4_addCopy_17 rfl 0 rfl ?_
  refine tn_getI (ci := 4) (i := 9) (n := 32) (t := σ.2.1 32 a) dX4_addCopy_18 rfl lay_4 (by decide) fl4_96 ha rfl rfl (rc_F F16 (Or.inl (by decide)) (by decide) (rfl)) ?_
  refine tn_iconst dX4_addCopy_21 ?_
  refine tn_iload_n dX4_addCopy_22 rfl 3 rfl ?_
  refine tn_callV (M := m_X4_addCopy) (pc := 23) (ix := 144) (ci := 1) (M' := m_X1_set) (As := [.int (iI (σ.2.1 32 a)), .int (iI 4), .int (iI p3)]) (rest := []) dX4_addCopy_23 ok_X1_set im_X1_set se_X1_set ml4_144 np_X1_set rfl rfl hk7o rfl (Nat.le_of_ble_eq_true rfl) (Nat.le_of_ble_eq_true rfl) rfl (k_X1_set (d + 1) (T := T) (σ := σ11) (a := x5) (k := σ.2.1 32 a) (c := 4) (y := p3) hk7o (by omega) (by decide) (by omega) w15 (by omega) (by omega)) (fun r17 T19 σ18 gt20 hp => ?_)
  obtain ⟨rfl, rfl, w22, F23⟩ := hp
  clear gt20
  show Tn _ _ 26 T σ18 [(0, .ref a), (1, .int (iI p1)), (2, .int (iI p2)), (3, .int (iI p3))] [] _
  refine tn_aload_n dX4_addCopy_26 rfl 0 rfl ?_
  refine tn_iconst dX4_addCopy_27 ?_
  refine tn_iload_n dX4_addCopy_28 rfl 1 rfl ?_
  refine tn_iconst dX4_addCopy_29 ?_
  refine tn_callV (M := m_X4_addCopy) (pc := 30) (ix := 148) (ci := 4) (M' := m_X4_addRow) (As := [.int (iI 0), .int (iI p1), .int (iI 0)]) (rest := []) dX4_addCopy_30 ok_X4_addRow im_X4_addRow se_X4_addRow ml4_148 np_X4_addRow rfl rfl ha rfl (Nat.le_of_ble_eq_true rfl) (Nat.le_of_ble_eq_true rfl) rfl (k_X4_addRow (d) (T := T) (σ := σ18) (a := a) (p1 := 0) (p2 := p1) (p3 := 0) ha (by decide) (by omega) (by decide) w22 (by rw [show σ18.2.1 25 a = σ.2.1 25 a from rc_F F23 (Or.inl (by decide)) (by decide) (rc_F F16 (Or.inl (by decide)) (by decide) (rfl))]; omega)) (fun r24 T26 σ25 gt27 hp => ?_)
  obtain ⟨rfl, rfl, w29, F30⟩ := hp
  clear gt27
  show Tn _ _ 33 T σ25 [(0, .ref a), (1, .int (iI p1)), (2, .int (iI p2)), (3, .int (iI p3))] [] _
  exact tn_vret rfl dX4_addCopy_33 ⟨rfl, rfl, w29, (((FrC.rfl.trans (FrC.sub F16 (by decide))).trans (FrC.sub F23 (by decide))).trans (FrC.sub F30 (by decide)))⟩
