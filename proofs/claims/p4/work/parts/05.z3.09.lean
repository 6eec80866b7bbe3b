theorem cd_X5_listCall : Cond.code yX5_listCall cX5_listCall 4 none ∈ pWW := pw3 (List.mem_of_getElem? (i := 193) rfl) rfl
abbrev m_X5_listCall : MT := (yX5_listCall, cX5_listCall, 4, none)
theorem ok_X5_listCall : pOk m_X5_listCall := ⟨⟨cd_X5_listCall, ini_5⟩, by decide +kernel, ⟨by decide +kernel, by decide +kernel⟩, Nat.le_of_ble_eq_true rfl⟩
theorem np_X5_listCall : (parseMethodDescriptor yX5_listCall.desc).map (fun d => d.parameters.length) = some 3 := by decide +kernel
theorem im_X5_listCall : Cond.instanceMethod yX5_listCall ∈ pWW := pw3 (List.mem_of_getElem? (i := 192) rfl) rfl
theorem se_X5_listCall : Cond.selects RX5 yX5_listCall yX5_listCall ∈ pWW := pws (List.mem_map.mpr ⟨_, lw_pin 24 rfl, rfl⟩) rfl
theorem fl5_31 : Cond.fieldLink RX5 31 (TX5 6).1 (TX5 6).2.1 (TX5 6).2.2.1 ∈ pWW := pw1 (List.mem_of_getElem? (i := 160) rfl) rfl
theorem fl5_61 : Cond.fieldLink RX5 61 (TX5 9).1 (TX5 9).2.1 (TX5 9).2.2.1 ∈ pWW := pw1 (List.mem_of_getElem? (i := 163) rfl) rfl
theorem fl5_34 : Cond.fieldLink RX5 34 (TX5 7).1 (TX5 7).2.1 (TX5 7).2.2.1 ∈ pWW := pw1 (List.mem_of_getElem? (i := 161) rfl) rfl
theorem fl5_37 : Cond.fieldLink RX5 37 (TX5 8).1 (TX5 8).2.1 (TX5 8).2.2.1 ∈ pWW := pw1 (List.mem_of_getElem? (i := 162) rfl) rfl
theorem mlm5_117 : Cond.methodLink RX5 117 Lib.Math.min.name ∈ pWW := pw3 (List.mem_of_getElem? (i := 84) rfl) rfl
theorem dX5_listCall_0 : decode cX5_listCall 0 = .ok (.aload_n 0, 1) := by decide +kernel
theorem dX5_listCall_1 : decode cX5_listCall 1 = .ok (.getfield 31, 3) := by decide +kernel
theorem dX5_listCall_4 : decode cX5_listCall 4 = .ok (.aload_n 0, 1) := by decide +kernel
theorem dX5_listCall_5 : decode cX5_listCall 5 = .ok (.getfield 61, 3) := by decide +kernel
theorem dX5_listCall_8 : decode cX5_listCall 8 = .ok (.iload_n 1, 1) := by decide +kernel
theorem dX5_listCall_9 : decode cX5_listCall 9 = .ok (.invokestatic 129, 3) := by decide +kernel
theorem dX5_listCall_12 : decode cX5_listCall 12 = .ok (.aload_n 0, 1) := by decide +kernel
theorem dX5_listCall_13 : decode cX5_listCall 13 = .ok (.getfield 34, 3) := by decide +kernel
theorem dX5_listCall_16 : decode cX5_listCall 16 = .ok (.aload_n 0, 1) := by decide +kernel
theorem dX5_listCall_17 : decode cX5_listCall 17 = .ok (.getfield 61, 3) := by decide +kernel
theorem dX5_listCall_20 : decode cX5_listCall 20 = .ok (.iload_n 2, 1) := by decide +kernel
theorem dX5_listCall_21 : decode cX5_listCall 21 = .ok (.invokestatic 129, 3) := by decide +kernel
theorem dX5_listCall_24 : decode cX5_listCall 24 = .ok (.aload_n 0, 1) := by decide +kernel
theorem dX5_listCall_25 : decode cX5_listCall 25 = .ok (.getfield 37, 3) := by decide +kernel
theorem dX5_listCall_28 : decode cX5_listCall 28 = .ok (.aload_n 0, 1) := by decide +kernel
theorem dX5_listCall_29 : decode cX5_listCall 29 = .ok (.getfield 61, 3) := by decide +kernel
theorem dX5_listCall_32 : decode cX5_listCall 32 = .ok (.iload_n 3, 1) := by decide +kernel
theorem dX5_listCall_33 : decode cX5_listCall 33 = .ok (.invokestatic 129, 3) := by decide +kernel
theorem dX5_listCall_36 : decode cX5_listCall 36 = .ok (.aload_n 0, 1) := by decide +kernel
theorem dX5_listCall_37 : decode cX5_listCall 37 = .ok (.aload_n 0, 1) := by decide +kernel
theorem dX5_listCall_38 : decode cX5_listCall 38 = .ok (.getfield 61, 3) := by decide +kernel
theorem dX5_listCall_41 : decode cX5_listCall 41 = .ok (.iconst 1, 1) := by decide +kernel
theorem dX5_listCall_42 : decode cX5_listCall 42 = .ok (.iadd, 1) := by decide +kernel
theorem dX5_listCall_43 : decode cX5_listCall 43 = .ok (.sipush 256, 3) := by decide +kernel
theorem dX5_listCall_46 : decode cX5_listCall 46 = .ok (.invokestatic 117, 3) := by decide +kernel
theorem dX5_listCall_49 : decode cX5_listCall 49 = .ok (.putfield 61, 3) := by decide +kernel
theorem dX5_listCall_52 : decode cX5_listCall 52 = .ok (.return_, 1) := by decide +kernel
set_option maxRecDepth 20000 in
theorem k_X5_listCall (d : Nat) {T : CT} {σ : MS} {a : Nat} {p1 : Int} {p2 : Int} {p3 : Int} (ha : OB T a 5) (h_p1 : -2147483648 ≤ p1 ∧ p1 ≤ 2147483647) (h_p2 : -2147483648 ≤ p2 ∧ p2 ≤ 2147483647) (h_p3 : -2147483648 ≤ p3 ∧ p3 ≤ 2147483647) (hw : WT T σ) : Tn (d + 2) m_X5_listCall 0 T σ [(0, .ref a), (1, .int (iI p1)), (2, .int (iI p2)), (3, .int (iI p3))] [] (fun ro T2 σ2 => ro = none ∧ T = T2 ∧ WT T2 σ2 ∧ FrC T [42, 518, 519, 520] σ σ2) := by
  refine tn_aload_n dX5_listCall_0 rfl 0 rfl ?_
  obtain ⟨x1, hx2, hk3, hl4⟩ : ∃ x : Nat, σ.2.1 39 a = (x : Int) ∧ AR T x 18 256 256 := wf_39 hw ha
  have hk3i : IA T x1 := by unfold IA; omega
  refine tn_getR (ci := 5) (i := 6) (n := 39) (x := x1) dX5_listCall_1 rfl lay_5 (by decide) fl5_31 ha rfl rfl (hx2) ?_
  refine tn_aload_n dX5_listCall_4 rfl 0 rfl ?_
  refine tn_getI (ci := 5) (i := 9) (n := 42) (t := σ.2.1 42 a) dX5_listCall_5 rfl lay_5 (by decide) fl5_61 ha rfl rfl (rfl) ?_
  have g5 : ((0 : Int) ≤ σ.2.1 42 a ∧ σ.2.1 42 a ≤ 256) := wf_42 hw ha
  refine tn_iload_n dX5_listCall_8 rfl 1 rfl ?_
  refine tn_callSN (M := m_X5_listCall) (pc := 9) (ix := 129) (M' := m_X11_put) (As := [.ref x1, .int (iI (σ.2.1 42 a)), .int (iI p1)]) (rest := []) dX5_listCall_9 ok_X11_put stt_X11_put nl5_129 np_X11_put rfl (Nat.le_of_ble_eq_true rfl) (Nat.le_of_ble_eq_true rfl) rfl (k_X11_put_18 (d) (T := T) (σ := σ) (x := x1) (i := σ.2.1 42 a) (y := p1) hk3i (by omega) hk3 (by omega) (by omega) hw ) (fun r6 T8 σ7 gt9 hp => ?_)
  obtain ⟨rfl, rfl, w12, F13, f10⟩ := hp
  clear gt9
  show Tn _ _ 12 T σ7 [(0, .ref a), (1, .int (iI p1)), (2, .int (iI p2)), (3, .int (iI p3))] [] _
  refine tn_aload_n dX5_listCall_12 rfl 0 rfl ?_
  obtain ⟨x14, hx15, hk16, hl17⟩ : ∃ x : Nat, σ.2.1 40 a = (x : Int) ∧ AR T x 19 256 256 := wf_40 hw ha
  have hk16i : IA T x14 := by unfold IA; omega
  refine tn_getR (ci := 5) (i := 7) (n := 40) (x := x14) dX5_listCall_13 rfl lay_5 (by decide) fl5_34 ha rfl rfl (rc_F F13 (Or.inl (by decide)) (by decide) (hx15)) ?_
  refine tn_aload_n dX5_listCall_16 rfl 0 rfl ?_
  refine tn_getI (ci := 5) (i := 9) (n := 42) (t := σ.2.1 42 a) dX5_listCall_17 rfl lay_5 (by decide) fl5_61 ha rfl rfl (rc_F F13 (Or.inl (by decide)) (by decide) (rfl)) ?_
  refine tn_iload_n dX5_listCall_20 rfl 2 rfl ?_
  refine tn_callSN (M := m_X5_listCall) (pc := 21) (ix := 129) (M' := m_X11_put) (As := [.ref x14, .int (iI (σ.2.1 42 a)), .int (iI p2)]) (rest := []) dX5_listCall_21 ok_X11_put stt_X11_put nl5_129 np_X11_put rfl (Nat.le_of_ble_eq_true rfl) (Nat.le_of_ble_eq_true rfl) rfl (k_X11_put_19 (d) (T := T) (σ := σ7) (x := x14) (i := σ.2.1 42 a) (y := p2) hk16i (by omega) hk16 (by omega) (by omega) w12 ) (fun r18 T20 σ19 gt21 hp => ?_)
  obtain ⟨rfl, rfl, w24, F25, f22⟩ := hp
  clear gt21
  show Tn _ _ 24 T σ19 [(0, .ref a), (1, .int (iI p1)), (2, .int (iI p2)), (3, .int (iI p3))] [] _
  refine tn_aload_n dX5_listCall_24 rfl 0 rfl ?_
  obtain ⟨x26, hx27, hk28, hl29⟩ : ∃ x : Nat, σ.2.1 41 a = (x : Int) ∧ AR T x 20 256 256 := wf_41 hw ha
  have hk28i : IA T x26 := by unfold IA; omega
  refine tn_getR (ci := 5) (i := 8) (n := 41) (x := x26) dX5_listCall_25 rfl lay_5 (by decide) fl5_37 ha rfl rfl (rc_F F25 (Or.inl (by decide)) (by decide) (rc_F F13 (Or.inl (by decide)) (by decide) (hx27))) ?_
  refine tn_aload_n dX5_listCall_28 rfl 0 rfl ?_
  refine tn_getI (ci := 5) (i := 9) (n := 42) (t := σ.2.1 42 a) dX5_listCall_29 rfl lay_5 (by decide) fl5_61 ha rfl rfl (rc_F F25 (Or.inl (by decide)) (by decide) (rc_F F13 (Or.inl (by decide)) (by decide) (rfl))) ?_
  refine tn_iload_n dX5_listCall_32 rfl 3 rfl ?_
  refine tn_callSN (M := m_X5_listCall) (pc := 33) (ix := 129) (M' := m_X11_put) (As := [.ref x26, .int (iI (σ.2.1 42 a)), .int (iI p3)]) (rest := []) dX5_listCall_33 ok_X11_put stt_X11_put nl5_129 np_X11_put rfl (Nat.le_of_ble_eq_true rfl) (Nat.le_of_ble_eq_true rfl) rfl (k_X11_put_20 (d) (T := T) (σ := σ19) (x := x26) (i := σ.2.1 42 a) (y := p3) hk28i (by omega) hk28 (by omega) (by omega) w24 ) (fun r30 T32 σ31 gt33 hp => ?_)
  obtain ⟨rfl, rfl, w36, F37, f34⟩ := hp
  clear gt33
  show Tn _ _ 36 T σ31 [(0, .ref a), (1, .int (iI p1)), (2, .int (iI p2)), (3, .int (iI p3))] [] _
  refine tn_aload_n dX5_listCall_36 rfl 0 rfl ?_
  refine tn_aload_n dX5_listCall_37 rfl 0 rfl ?_
  refine tn_getI (ci := 5) (i := 9) (n := 42) (t := σ.2.1 42 a) dX5_listCall_38 rfl lay_5 (by decide) fl5_61 ha rfl rfl (rc_F F37 (Or.inl (by decide)) (by decide) (rc_F F25 (Or.inl (by decide)) (by decide) (rc_F F13 (Or.inl (by decide)) (by decide) (rfl)))) ?_
  refine tn_iconst dX5_listCall_41 ?_
  refine tn_iadd dX5_listCall_42 ?_
  refine tn_sipush dX5_listCall_43 (by decide) ?_
  refine tn_mmin (x := (σ.2.1 42 a) + 1) (y := 256) dX5_listCall_46 mlm5_117 stM_min iniM cdM_min (by omega) (Nat.le_of_ble_eq_true rfl) ⟨by omega, by omega⟩ ⟨by omega, by omega⟩ (fun z38 g39 => ?_)
  refine tn_putV (ci := 5) (i := 9) (n := 42) (r := false) (v := z38) tyX5 tyX5_ok nmX5 dX5_listCall_49 rfl lay_5 (by decide) fl5_61 rfl (tyX5_ok 9 (by decide)) rfl rfl rfl ha rfl rfl ?_
  exact tn_vret rfl dX5_listCall_52 ⟨rfl, rfl, (w36.put (by decide) (by decide) (fo_42 (by omega))), ((((FrC.rfl.trans (FrC.sub F13 (by decide))).trans (FrC.sub F25 (by decide))).trans (FrC.sub F37 (by decide))).put (by decide) (by decide))⟩
