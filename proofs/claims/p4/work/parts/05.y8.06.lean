theorem cd_X9_keep : Cond.code yX9_keep cX9_keep 2 none ∈ pWW := pw3 (List.mem_of_getElem? (i := 53) rfl) rfl
abbrev m_X9_keep : MT := (yX9_keep, cX9_keep, 2, none)
theorem ok_X9_keep : pOk m_X9_keep := ⟨⟨cd_X9_keep, ini_9⟩, by decide +kernel, ⟨by decide +kernel, by decide +kernel⟩, Nat.le_of_ble_eq_true rfl⟩
theorem np_X9_keep : (parseMethodDescriptor yX9_keep.desc).map (fun d => d.parameters.length) = some 1 := by decide +kernel
theorem im_X9_keep : Cond.instanceMethod yX9_keep ∈ pWW := pw3 (List.mem_of_getElem? (i := 52) rfl) rfl
theorem se_X9_keep : Cond.selects RX9 yX9_keep yX9_keep ∈ pWW := pws (List.mem_map.mpr ⟨_, lw_pin 3 rfl, rfl⟩) rfl
theorem nl9_51 : (RX9, 51, yX11_put, "LineKeeper") ∈ nst_M := List.mem_of_getElem? (i := 6) rfl
theorem dX9_keep_0 : decode cX9_keep 0 = .ok (.aload_n 0, 1) := by decide +kernel
theorem dX9_keep_1 : decode cX9_keep 1 = .ok (.getfield 9, 3) := by decide +kernel
theorem dX9_keep_4 : decode cX9_keep 4 = .ok (.iload_n 1, 1) := by decide +kernel
theorem dX9_keep_5 : decode cX9_keep 5 = .ok (.aload_n 0, 1) := by decide +kernel
theorem dX9_keep_6 : decode cX9_keep 6 = .ok (.getfield 30, 3) := by decide +kernel
theorem dX9_keep_9 : decode cX9_keep 9 = .ok (.invokestatic 51, 3) := by decide +kernel
theorem dX9_keep_12 : decode cX9_keep 12 = .ok (.aload_n 0, 1) := by decide +kernel
theorem dX9_keep_13 : decode cX9_keep 13 = .ok (.getfield 15, 3) := by decide +kernel
theorem dX9_keep_16 : decode cX9_keep 16 = .ok (.iload_n 1, 1) := by decide +kernel
theorem dX9_keep_17 : decode cX9_keep 17 = .ok (.aload_n 0, 1) := by decide +kernel
theorem dX9_keep_18 : decode cX9_keep 18 = .ok (.getfield 55, 3) := by decide +kernel
theorem dX9_keep_21 : decode cX9_keep 21 = .ok (.invokestatic 51, 3) := by decide +kernel
theorem dX9_keep_24 : decode cX9_keep 24 = .ok (.aload_n 0, 1) := by decide +kernel
theorem dX9_keep_25 : decode cX9_keep 25 = .ok (.getfield 18, 3) := by decide +kernel
theorem dX9_keep_28 : decode cX9_keep 28 = .ok (.iload_n 1, 1) := by decide +kernel
theorem dX9_keep_29 : decode cX9_keep 29 = .ok (.aload_n 0, 1) := by decide +kernel
theorem dX9_keep_30 : decode cX9_keep 30 = .ok (.getfield 34, 3) := by decide +kernel
theorem dX9_keep_33 : decode cX9_keep 33 = .ok (.invokestatic 51, 3) := by decide +kernel
theorem dX9_keep_36 : decode cX9_keep 36 = .ok (.return_, 1) := by decide +kernel
set_option maxRecDepth 20000 in
theorem k_X9_keep (d : Nat) {T : CT} {σ : MS} {a : Nat} {n : Int} (ha : OB T a 9) (h_n : -2147483648 ≤ n ∧ n ≤ 2147483647) (hw : WT T σ) (hk : n = 1200 → σ.2.1 85 a = 0 ∨ σ.2.1 85 a = 263 ∨ σ.2.1 85 a = 264) : Tn (d + 2) m_X9_keep 0 T σ [(0, .ref a), (1, .int (iI n))] [] (fun ro T2 σ2 => ro = none ∧ T = T2 ∧ WT T2 σ2 ∧ FrC T [512, 522, 523] σ σ2) := by
  refine tn_aload_n dX9_keep_0 rfl 0 rfl ?_
  obtain ⟨x1, hx2, hk3, hl4⟩ : ∃ x : Nat, σ.2.1 81 a = (x : Int) ∧ AR T x 12 1201 1201 := wf_81 hw ha
  have hk3i : IA T x1 := by unfold IA; omega
  refine tn_getR (ci := 9) (i := 0) (n := 81) (x := x1) dX9_keep_1 rfl lay_9 (by decide) fl9_9 ha rfl rfl (hx2) ?_
  refine tn_iload_n dX9_keep_4 rfl 1 rfl ?_
  refine tn_aload_n dX9_keep_5 rfl 0 rfl ?_
  refine tn_getI (ci := 9) (i := 4) (n := 85) (t := σ.2.1 85 a) dX9_keep_6 rfl lay_9 (by decide) fl9_30 ha rfl rfl (rfl) ?_
  have g5 : ((-2147483648 : Int) ≤ σ.2.1 85 a ∧ σ.2.1 85 a ≤ 2147483647) := wf_85 hw ha
  refine tn_callSN (M := m_X9_keep) (pc := 9) (ix := 51) (M' := m_X11_put) (As := [.ref x1, .int (iI n), .int (iI (σ.2.1 85 a))]) (rest := []) dX9_keep_9 ok_X11_put stt_X11_put nl9_51 np_X11_put rfl (Nat.le_of_ble_eq_true rfl) (Nat.le_of_ble_eq_true rfl) rfl (k_X11_put_12 (d) (T := T) (σ := σ) (x := x1) (i := n) (y := σ.2.1 85 a) hk3i (by omega) hk3 (by omega) (by omega) hw (by rw [hk3]; exact vok_12 (by omega) hk)) (fun r6 T8 σ7 gt9 hp => ?_)
  obtain ⟨rfl, rfl, w12, F13, f10⟩ := hp
  clear gt9
  show Tn _ _ 12 T σ7 [(0, .ref a), (1, .int (iI n))] [] _
  refine tn_aload_n dX9_keep_12 rfl 0 rfl ?_
  obtain ⟨x14, hx15, hk16, hl17⟩ : ∃ x : Nat, σ.2.1 82 a = (x : Int) ∧ AR T x 22 1201 1201 := wf_82 hw ha
  have hk16i : IA T x14 := by unfold IA; omega
  refine tn_getR (ci := 9) (i := 1) (n := 82) (x := x14) dX9_keep_13 rfl lay_9 (by decide) fl9_15 ha rfl rfl (rc_F F13 (Or.inl (by decide)) (by decide) (hx15)) ?_
  refine tn_iload_n dX9_keep_16 rfl 1 rfl ?_
  refine tn_aload_n dX9_keep_17 rfl 0 rfl ?_
  refine tn_getI (ci := 9) (i := 5) (n := 86) (t := σ.2.1 86 a) dX9_keep_18 rfl lay_9 (by decide) fl9_55 ha rfl rfl (rc_F F13 (Or.inl (by decide)) (by decide) (rfl)) ?_
  have g18 : ((-2147483648 : Int) ≤ σ.2.1 86 a ∧ σ.2.1 86 a ≤ 2147483647) := wf_86 hw ha
  refine tn_callSN (M := m_X9_keep) (pc := 21) (ix := 51) (M' := m_X11_put) (As := [.ref x14, .int (iI n), .int (iI (σ.2.1 86 a))]) (rest := []) dX9_keep_21 ok_X11_put stt_X11_put nl9_51 np_X11_put rfl (Nat.le_of_ble_eq_true rfl) (Nat.le_of_ble_eq_true rfl) rfl (k_X11_put_22 (d) (T := T) (σ := σ7) (x := x14) (i := n) (y := σ.2.1 86 a) hk16i (by omega) hk16 (by omega) (by omega) w12 ) (fun r19 T21 σ20 gt22 hp => ?_)
  obtain ⟨rfl, rfl, w25, F26, f23⟩ := hp
  clear gt22
  show Tn _ _ 24 T σ20 [(0, .ref a), (1, .int (iI n))] [] _
  refine tn_aload_n dX9_keep_24 rfl 0 rfl ?_
  obtain ⟨x27, hx28, hk29, hl30⟩ : ∃ x : Nat, σ.2.1 83 a = (x : Int) ∧ AR T x 23 1201 1201 := wf_83 hw ha
  have hk29i : IA T x27 := by unfold IA; omega
  refine tn_getR (ci := 9) (i := 2) (n := 83) (x := x27) dX9_keep_25 rfl lay_9 (by decide) fl9_18 ha rfl rfl (rc_F F26 (Or.inl (by decide)) (by decide) (rc_F F13 (Or.inl (by decide)) (by decide) (hx28))) ?_
  refine tn_iload_n dX9_keep_28 rfl 1 rfl ?_
  refine tn_aload_n dX9_keep_29 rfl 0 rfl ?_
  refine tn_getI (ci := 9) (i := 6) (n := 87) (t := σ.2.1 87 a) dX9_keep_30 rfl lay_9 (by decide) fl9_34 ha rfl rfl (rc_F F26 (Or.inl (by decide)) (by decide) (rc_F F13 (Or.inl (by decide)) (by decide) (rfl))) ?_
  have g31 : ((-2147483648 : Int) ≤ σ.2.1 87 a ∧ σ.2.1 87 a ≤ 2147483647) := wf_87 hw ha
  refine tn_callSN (M := m_X9_keep) (pc := 33) (ix := 51) (M' := m_X11_put) (As := [.ref x27, .int (iI n), .int (iI (σ.2.1 87 a))]) (rest := []) dX9_keep_33 ok_X11_put stt_X11_put nl9_51 np_X11_put rfl (Nat.le_of_ble_eq_true rfl) (Nat.le_of_ble_eq_true rfl) rfl (k_X11_put_23 (d) (T := T) (σ := σ20) (x := x27) (i := n) (y := σ.2.1 87 a) hk29i (by omega) hk29 (by omega) (by omega) w25 ) (fun r32 T34 σ33 gt35 hp => ?_)
  obtain ⟨rfl, rfl, w38, F39, f36⟩ := hp
  clear gt35
  show Tn _ _ 36 T σ33 [(0, .ref a), (1, .int (iI n))] [] _
  exact tn_vret rfl dX9_keep_36 ⟨rfl, rfl, w38, (((FrC.rfl.trans (FrC.sub F13 (by decide))).trans (FrC.sub F26 (by decide))).trans (FrC.sub F39 (by decide)))⟩
