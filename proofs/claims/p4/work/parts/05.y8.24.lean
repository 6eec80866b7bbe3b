theorem cd_X7_emit : Cond.code yX7_emit cX7_emit 2 none ∈ pWW := pw6 (List.mem_of_getElem? (i := 74) rfl) rfl
abbrev m_X7_emit : MT := (yX7_emit, cX7_emit, 2, none)
theorem ok_X7_emit : pOk m_X7_emit := ⟨⟨cd_X7_emit, ini_7⟩, by decide +kernel, ⟨by decide +kernel, by decide +kernel⟩, Nat.le_of_ble_eq_true rfl⟩
theorem np_X7_emit : (parseMethodDescriptor yX7_emit.desc).map (fun d => d.parameters.length) = some 1 := by decide +kernel
theorem im_X7_emit : Cond.instanceMethod yX7_emit ∈ pWW := pw6 (List.mem_of_getElem? (i := 73) rfl) rfl
theorem se_X7_emit : Cond.selects RX7 yX7_emit yX7_emit ∈ pWW := pws (List.mem_map.mpr ⟨_, lw_pin 89 rfl, rfl⟩) rfl
theorem fl7_27 : Cond.fieldLink RX7 27 (TX7 9).1 (TX7 9).2.1 (TX7 9).2.2.1 ∈ pWW := pw2 (List.mem_of_getElem? (i := 146) rfl) rfl
theorem fl7_41 : Cond.fieldLink RX7 41 (TX7 10).1 (TX7 10).2.1 (TX7 10).2.2.1 ∈ pWW := pw2 (List.mem_of_getElem? (i := 148) rfl) rfl
theorem nl7_61 : (RX7, 61, yX11_put, "LineKeeper") ∈ nst_M := List.mem_of_getElem? (i := 47) rfl
theorem fl7_44 : Cond.fieldLink RX7 44 (TX7 11).1 (TX7 11).2.1 (TX7 11).2.2.1 ∈ pWW := pw2 (List.mem_of_getElem? (i := 151) rfl) rfl
theorem dX7_emit_0 : decode cX7_emit 0 = .ok (.aload_n 0, 1) := by decide +kernel
theorem dX7_emit_1 : decode cX7_emit 1 = .ok (.getfield 27, 3) := by decide +kernel
theorem dX7_emit_4 : decode cX7_emit 4 = .ok (.aload_n 0, 1) := by decide +kernel
theorem dX7_emit_5 : decode cX7_emit 5 = .ok (.getfield 41, 3) := by decide +kernel
theorem dX7_emit_8 : decode cX7_emit 8 = .ok (.iload_n 1, 1) := by decide +kernel
theorem dX7_emit_9 : decode cX7_emit 9 = .ok (.invokestatic 61, 3) := by decide +kernel
theorem dX7_emit_12 : decode cX7_emit 12 = .ok (.aload_n 0, 1) := by decide +kernel
theorem dX7_emit_13 : decode cX7_emit 13 = .ok (.iload_n 1, 1) := by decide +kernel
theorem dX7_emit_14 : decode cX7_emit 14 = .ok (.putfield 44, 3) := by decide +kernel
theorem dX7_emit_17 : decode cX7_emit 17 = .ok (.aload_n 0, 1) := by decide +kernel
theorem dX7_emit_18 : decode cX7_emit 18 = .ok (.dup, 1) := by decide +kernel
theorem dX7_emit_19 : decode cX7_emit 19 = .ok (.getfield 41, 3) := by decide +kernel
theorem dX7_emit_22 : decode cX7_emit 22 = .ok (.iconst 1, 1) := by decide +kernel
theorem dX7_emit_23 : decode cX7_emit 23 = .ok (.iadd, 1) := by decide +kernel
theorem dX7_emit_24 : decode cX7_emit 24 = .ok (.putfield 41, 3) := by decide +kernel
theorem dX7_emit_27 : decode cX7_emit 27 = .ok (.return_, 1) := by decide +kernel
set_option maxRecDepth 20000 in
theorem k_X7_emit (d : Nat) {T : CT} {σ : MS} {a : Nat} {p1 : Int} (ha : OB T a 7) (h_p1 : -2147483648 ≤ p1 ∧ p1 ≤ 2147483647) (hw : WT T σ) : Tn (d + 2) m_X7_emit 0 T σ [(0, .ref a), (1, .int (iI p1))] [] (fun ro T2 σ2 => ro = none ∧ T = T2 ∧ WT T2 σ2 ∧ FrC T [65, 66] σ σ2 ∧ (FA a σ σ2)) := by
  refine tn_aload_n dX7_emit_0 rfl 0 rfl ?_
  obtain ⟨x1, hx2, hk3, hl4⟩ : ∃ x : Nat, σ.2.1 64 a = (x : Int) ∧ AR T x 1 200 200 := wf_64 hw ha
  have hk3i : IA T x1 := by unfold IA; omega
  refine tn_getR (ci := 7) (i := 9) (n := 64) (x := x1) dX7_emit_1 rfl lay_7 (by decide) fl7_27 ha rfl rfl (hx2) ?_
  refine tn_aload_n dX7_emit_4 rfl 0 rfl ?_
  refine tn_getI (ci := 7) (i := 10) (n := 65) (t := σ.2.1 65 a) dX7_emit_5 rfl lay_7 (by decide) fl7_41 ha rfl rfl (rfl) ?_
  have g5 : ((-2147483648 : Int) ≤ σ.2.1 65 a ∧ σ.2.1 65 a ≤ 2147483647) := wf_65 hw ha
  refine tn_iload_n dX7_emit_8 rfl 1 rfl ?_
  refine tn_callSN (M := m_X7_emit) (pc := 9) (ix := 61) (M' := m_X11_put) (As := [.ref x1, .int (iI (σ.2.1 65 a)), .int (iI p1)]) (rest := []) dX7_emit_9 ok_X11_put stt_X11_put nl7_61 np_X11_put rfl (Nat.le_of_ble_eq_true rfl) (Nat.le_of_ble_eq_true rfl) rfl (k_X11_put (d) (T := T) (σ := σ) (x := x1) (i := σ.2.1 65 a) (y := p1) hk3i (by omega) (by omega) (by omega) hw (nh_k hk3 (by unfold HT; omega)) (vok_1 (by have q9 := hk3; omega) (by omega))) (fun r6 T8 σ7 gt9 hp => ?_)
  obtain ⟨rfl, rfl, w11, F12⟩ := hp
  clear gt9
  show Tn _ _ 12 T σ7 [(0, .ref a), (1, .int (iI p1))] [] _
  refine tn_aload_n dX7_emit_12 rfl 0 rfl ?_
  refine tn_iload_n dX7_emit_13 rfl 1 rfl ?_
  refine tn_putV (ci := 7) (i := 11) (n := 66) (r := false) (v := p1) tyX7 tyX7_ok nmX7 dX7_emit_14 rfl lay_7 (by decide) fl7_44 rfl (tyX7_ok 11 (by decide)) rfl rfl rfl ha rfl rfl ?_
  refine tn_aload_n dX7_emit_17 rfl 0 rfl ?_
  refine tn_dup dX7_emit_18 rfl ?_
  refine tn_getI (ci := 7) (i := 10) (n := 65) (t := σ.2.1 65 a) dX7_emit_19 rfl lay_7 (by decide) fl7_41 ha rfl rfl (rc_o (by decide) (rc_F F12 (Or.inl (by decide)) (by decide) (rfl))) ?_
  refine tn_iconst dX7_emit_22 ?_
  refine tn_iadd dX7_emit_23 ?_
  refine tn_any (fun z13 g14 => ?_)
  have g14r : -2147483648 ≤ z13 ∧ z13 ≤ 2147483647 := g14
  refine tn_putV (ci := 7) (i := 10) (n := 65) (r := false) (v := z13) tyX7 tyX7_ok nmX7 dX7_emit_24 rfl lay_7 (by decide) fl7_41 rfl (tyX7_ok 10 (by decide)) rfl rfl rfl ha rfl rfl ?_
  exact tn_vret rfl dX7_emit_27 ⟨rfl, rfl, ((w11.put (by decide) (by decide) (fo_66 (by omega))).put (by decide) (by decide) (fo_65 (by omega))), (((FrC.rfl.trans (FrC.sub F12 (by decide))).put (by decide) (by decide)).put (by decide) (by decide)), (((FA.rfl.trans (FA.of F12 (by decide))).put).put)⟩
