theorem cd_X4_addRow : Cond.code yX4_addRow cX4_addRow 4 none ∈ pWW := pw5 (List.mem_of_getElem? (i := 179) rfl) rfl
abbrev m_X4_addRow : MT := (yX4_addRow, cX4_addRow, 4, none)
theorem ok_X4_addRow : pOk m_X4_addRow := ⟨⟨cd_X4_addRow, ini_4⟩, by decide +kernel, ⟨by decide +kernel, by decide +kernel⟩, Nat.le_of_ble_eq_true rfl⟩
theorem np_X4_addRow : (parseMethodDescriptor yX4_addRow.desc).map (fun d => d.parameters.length) = some 3 := by decide +kernel
theorem im_X4_addRow : Cond.instanceMethod yX4_addRow ∈ pWW := pw5 (List.mem_of_getElem? (i := 178) rfl) rfl
theorem se_X4_addRow : Cond.selects RX4 yX4_addRow yX4_addRow ∈ pWW := pws (List.mem_map.mpr ⟨_, lw_pin 70 rfl, rfl⟩) rfl
theorem fl4_19 : Cond.fieldLink RX4 19 (TX4 2).1 (TX4 2).2.1 (TX4 2).2.2.1 ∈ pWW := pw2 (List.mem_of_getElem? (i := 63) rfl) rfl
theorem fl4_96 : Cond.fieldLink RX4 96 (TX4 9).1 (TX4 9).2.1 (TX4 9).2.2.1 ∈ pWW := pw2 (List.mem_of_getElem? (i := 70) rfl) rfl
theorem ml4_144 : Cond.methodLink RX4 144 yX1_set ∈ pWW := pw5 (List.mem_of_getElem? (i := 180) rfl) rfl
theorem dX4_addRow_0 : decode cX4_addRow 0 = .ok (.aload_n 0, 1) := by decide +kernel
theorem dX4_addRow_1 : decode cX4_addRow 1 = .ok (.getfield 19, 3) := by decide +kernel
theorem dX4_addRow_4 : decode cX4_addRow 4 = .ok (.aload_n 0, 1) := by decide +kernel
theorem dX4_addRow_5 : decode cX4_addRow 5 = .ok (.getfield 96, 3) := by decide +kernel
theorem dX4_addRow_8 : decode cX4_addRow 8 = .ok (.iconst 0, 1) := by decide +kernel
theorem dX4_addRow_9 : decode cX4_addRow 9 = .ok (.iload_n 1, 1) := by decide +kernel
theorem dX4_addRow_10 : decode cX4_addRow 10 = .ok (.invokevirtual 144, 3) := by decide +kernel
theorem dX4_addRow_13 : decode cX4_addRow 13 = .ok (.aload_n 0, 1) := by decide +kernel
theorem dX4_addRow_14 : decode cX4_addRow 14 = .ok (.getfield 19, 3) := by decide +kernel
theorem dX4_addRow_17 : decode cX4_addRow 17 = .ok (.aload_n 0, 1) := by decide +kernel
theorem dX4_addRow_18 : decode cX4_addRow 18 = .ok (.getfield 96, 3) := by decide +kernel
theorem dX4_addRow_21 : decode cX4_addRow 21 = .ok (.iconst 1, 1) := by decide +kernel
theorem dX4_addRow_22 : decode cX4_addRow 22 = .ok (.iload_n 2, 1) := by decide +kernel
theorem dX4_addRow_23 : decode cX4_addRow 23 = .ok (.invokevirtual 144, 3) := by decide +kernel
theorem dX4_addRow_26 : decode cX4_addRow 26 = .ok (.aload_n 0, 1) := by decide +kernel
theorem dX4_addRow_27 : decode cX4_addRow 27 = .ok (.getfield 19, 3) := by decide +kernel
theorem dX4_addRow_30 : decode cX4_addRow 30 = .ok (.aload_n 0, 1) := by decide +kernel
theorem dX4_addRow_31 : decode cX4_addRow 31 = .ok (.getfield 96, 3) := by decide +kernel
theorem dX4_addRow_34 : decode cX4_addRow 34 = .ok (.iconst 2, 1) := by decide +kernel
theorem dX4_addRow_35 : decode cX4_addRow 35 = .ok (.iload_n 3, 1) := by decide +kernel
theorem dX4_addRow_36 : decode cX4_addRow 36 = .ok (.invokevirtual 144, 3) := by decide +kernel
theorem dX4_addRow_39 : decode cX4_addRow 39 = .ok (.aload_n 0, 1) := by decide +kernel
theorem dX4_addRow_40 : decode cX4_addRow 40 = .ok (.dup, 1) := by decide +kernel
theorem dX4_addRow_41 : decode cX4_addRow 41 = .ok (.getfield 96, 3) := by decide +kernel
theorem dX4_addRow_44 : decode cX4_addRow 44 = .ok (.iconst 1, 1) := by decide +kernel
theorem dX4_addRow_45 : decode cX4_addRow 45 = .ok (.iadd, 1) := by decide +kernel
theorem dX4_addRow_46 : decode cX4_addRow 46 = .ok (.putfield 96, 3) := by decide +kernel
theorem dX4_addRow_49 : decode cX4_addRow 49 = .ok (.return_, 1) := by decide +kernel
set_option maxRecDepth 20000 in
theorem k_X4_addRow (d : Nat) {T : CT} {σ : MS} {a : Nat} {p1 : Int} {p2 : Int} {p3 : Int} (ha : OB T a 4) (h_p1 : -2147483648 ≤ p1 ∧ p1 ≤ 2147483647) (h_p2 : -2147483648 ≤ p2 ∧ p2 ≤ 2147483647) (h_p3 : -2147483648 ≤ p3 ∧ p3 ≤ 2147483647) (hw : WT T σ) (hh : 0 ≤ σ.2.1 25 a) : Tn (d + 2) m_X4_addRow 0 T σ [(0, .ref a), (1, .int (iI p1)), (2, .int (iI p2)), (3, .int (iI p3))] [] (fun ro T2 σ2 => ro = none ∧ T = T2 ∧ WT T2 σ2 ∧ FrC T [32] σ σ2) := by
  refine tn_aload_n dX4_addRow_0 rfl 0 rfl ?_
  have nn8 : 0 ≤ σ.2.1 25 a := (by omega)
  obtain ⟨x5, hx6, hk7⟩ := (wf_25 hw ha).resolve_left (by omega)
  have hk7o : OB T x5 1 := ⟨by omega, by rw [hk7]; rfl, by omega⟩
  refine tn_getR (ci := 4) (i := 2) (n := 25) (x := x5) dX4_addRow_1 rfl lay_4 (by decide) fl4_19 ha rfl rfl (hx6) ?_
  refine tn_aload_n dX4_addRow_4 rfl 0 rfl ?_
  refine tn_getI (ci := 4) (i := 9) (n := 32) (t := σ.2.1 32 a) dX4_addRow_5 rfl lay_4 (by decide) fl4_96 ha rfl rfl (rfl) ?_
  have g9 : ((-2147483648 : Int) ≤ σ.2.1 32 a ∧ σ.2.1 32 a ≤ 2147483647) := wf_32 hw ha
  refine tn_iconst dX4_addRow_8 ?_
  refine tn_iload_n dX4_addRow_9 rfl 1 rfl ?_
  refine tn_callV (M := m_X4_addRow) (pc := 10) (ix := 144) (ci := 1) (M' := m_X1_set) (As := [.int (iI (σ.2.1 32 a)), .int (iI 0), .int (iI p1)]) (rest := []) dX4_addRow_10 ok_X1_set im_X1_set se_X1_set ml4_144 np_X1_set rfl rfl hk7o rfl (Nat.le_of_ble_eq_true rfl) (Nat.le_of_ble_eq_true rfl) rfl (k_X1_set (d) (T := T) (σ := σ) (a := x5) (k := σ.2.1 32 a) (c := 0) (y := p1) hk7o (by omega) (by decide) (by omega) hw (by omega) (by omega)) (fun r10 T12 σ11 gt13 hp => ?_)
  obtain ⟨rfl, rfl, w15, F16⟩ := hp
  clear gt13
  show Tn _ _ 13 T σ11 [(0, .ref a), (1, .int (iI p1)), (2, .int (iI p2)), (3, .int (iI p3))] [] _
  refine tn_aload_n dX4_addRow_13 rfl 0 rfl ?_
  refine tn_getR (ci := 4) (i := 2) (n := 25) (x := x5) dX4_addRow_14 rfl lay_4 (by decide) fl4_19 ha rfl rfl (rc_F F16 (Or.inl (by decide)) (by decide) (hx6)) ?_
  refine tn_aload_n dX4_addRow_17 rfl 0 rfl ?_
  refine tn_getI (ci := 4) (i := 9) (n := 32) (t := σ.2.1 32 a) dX4_addRow_18 rfl lay_4 (by decide) fl4_96 ha rfl rfl (rc_F F16 (Or.inl (by decide)) (by decide) (rfl)) ?_
  refine tn_iconst dX4_addRow_21 ?_
  refine tn_iload_n dX4_addRow_22 rfl 2 rfl ?_
  refine tn_callV (M := m_X4_addRow) (pc := 23) (ix := 144) (ci := 1) (M' := m_X1_set) (As := [.int (iI (σ.2.1 32 a)), .int (iI 1), .int (iI p2)]) (rest := []) dX4_addRow_23 ok_X1_set im_X1_set se_X1_set ml4_144 np_X1_set rfl rfl hk7o rfl (Nat.le_of_ble_eq_true rfl) (Nat.le_of_ble_eq_true rfl) rfl (k_X1_set (d) (T := T) (σ := σ11) (a := x5) (k := σ.2.1 32 a) (c := 1) (y := p2) hk7o (by omega) (by decide) (by omega) w15 (by omega) (by omega)) (fun r17 T19 σ18 gt20 hp => ?_)
  obtain ⟨rfl, rfl, w22, F23⟩ := hp
  clear gt20
  show Tn _ _ 26 T σ18 [(0, .ref a), (1, .int (iI p1)), (2, .int (iI p2)), (3, .int (iI p3))] [] _
  refine tn_aload_n dX4_addRow_26 rfl 0 rfl ?_
  refine tn_getR (ci := 4) (i := 2) (n := 25) (x := x5) dX4_addRow_27 rfl lay_4 (by decide) fl4_19 ha rfl rfl (rc_F F23 (Or.inl (by decide)) (by decide) (rc_F F16 (Or.inl (by decide)) (by decide) (hx6))) ?_
  refine tn_aload_n dX4_addRow_30 rfl 0 rfl ?_
  refine tn_getI (ci := 4) (i := 9) (n := 32) (t := σ.2.1 32 a) dX4_addRow_31 rfl lay_4 (by decide) fl4_96 ha rfl rfl (rc_F F23 (Or.inl (by decide)) (by decide) (rc_F F16 (Or.inl (by decide)) (by decide) (rfl))) ?_
  refine tn_iconst dX4_addRow_34 ?_
  refine tn_iload_n dX4_addRow_35 rfl 3 rfl ?_
  refine tn_callV (M := m_X4_addRow) (pc := 36) (ix := 144) (ci := 1) (M' := m_X1_set) (As := [.int (iI (σ.2.1 32 a)), .int (iI 2), .int (iI p3)]) (rest := []) dX4_addRow_36 ok_X1_set im_X1_set se_X1_set ml4_144 np_X1_set rfl rfl hk7o rfl (Nat.le_of_ble_eq_true rfl) (Nat.le_of_ble_eq_true rfl) rfl (k_X1_set (d) (T := T) (σ := σ18) (a := x5) (k := σ.2.1 32 a) (c := 2) (y := p3) hk7o (by omega) (by decide) (by omega) w22 (by omega) (by omega)) (fun r24 T26 σ25 gt27 hp => ?_)
  obtain ⟨rfl, rfl, w29, F30⟩ := hp
  clear gt27
  show Tn _ _ 39 T σ25 [(0, .ref a), (1, .int (iI p1)), (2, .int (iI p2)), (3, .int (iI p3))] [] _
  refine tn_aload_n dX4_addRow_39 rfl 0 rfl ?_
  refine tn_dup dX4_addRow_40 rfl ?_
  refine tn_getI (ci := 4) (i := 9) (n := 32) (t := σ.2.1 32 a) dX4_addRow_41 rfl lay_4 (by decide) fl4_96 ha rfl rfl (rc_F F30 (Or.inl (by decide)) (by decide) (rc_F F23 (Or.inl (by decide)) (by decide) (rc_F F16 (Or.inl (by decide)) (by decide) (rfl)))) ?_
  refine tn_iconst dX4_addRow_44 ?_
  refine tn_iadd dX4_addRow_45 ?_
  refine tn_any (fun z31 g32 => ?_)
  have g32r : -2147483648 ≤ z31 ∧ z31 ≤ 2147483647 := g32
  refine tn_putV (ci := 4) (i := 9) (n := 32) (r := false) (v := z31) tyX4 tyX4_ok nmX4 dX4_addRow_46 rfl lay_4 (by decide) fl4_96 rfl (tyX4_ok 9 (by decide)) rfl rfl rfl ha rfl rfl ?_
  exact tn_vret rfl dX4_addRow_49 ⟨rfl, rfl, (w29.put (by decide) (by decide) (fo_32 (by omega))), ((((FrC.rfl.trans (FrC.sub F16 (by decide))).trans (FrC.sub F23 (by decide))).trans (FrC.sub F30 (by decide))).put (by decide) (by decide))⟩
