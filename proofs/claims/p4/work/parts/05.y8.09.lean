theorem cd_X10_spoil : Cond.code yX10_spoil cX10_spoil 2 none ∈ pWW := pw4 (List.mem_of_getElem? (i := 45) rfl) rfl
theorem ini_10 : Cond.initialized RX10 ∈ pWW := pw1 (List.mem_of_getElem? (i := 6) rfl) rfl
abbrev m_X10_spoil : MT := (yX10_spoil, cX10_spoil, 2, none)
theorem ok_X10_spoil : pOk m_X10_spoil := ⟨⟨cd_X10_spoil, ini_10⟩, by decide +kernel, ⟨by decide +kernel, by decide +kernel⟩, Nat.le_of_ble_eq_true rfl⟩
theorem np_X10_spoil : (parseMethodDescriptor yX10_spoil.desc).map (fun d => d.parameters.length) = some 1 := by decide +kernel
theorem im_X10_spoil : Cond.instanceMethod yX10_spoil ∈ pWW := pw4 (List.mem_of_getElem? (i := 43) rfl) rfl
theorem se_X10_spoil : Cond.selects RX10 yX10_spoil yX10_spoil ∈ pWW := pw4 (List.mem_of_getElem? (i := 44) rfl) rfl
theorem fl10_17 : Cond.fieldLink RX10 17 (TX10 1).1 (TX10 1).2.1 (TX10 1).2.2.1 ∈ pWW := pw2 (List.mem_of_getElem? (i := 8) rfl) rfl
theorem nl10_26 : (RX10, 26, yX11_put, "LineKeeper") ∈ nst_M := List.mem_of_getElem? (i := 12) rfl
theorem dX10_spoil_0 : decode cX10_spoil 0 = .ok (.aload_n 0, 1) := by decide +kernel
theorem dX10_spoil_1 : decode cX10_spoil 1 = .ok (.getfield 17, 3) := by decide +kernel
theorem dX10_spoil_4 : decode cX10_spoil 4 = .ok (.iload_n 1, 1) := by decide +kernel
theorem dX10_spoil_5 : decode cX10_spoil 5 = .ok (.iconst 0, 1) := by decide +kernel
theorem dX10_spoil_6 : decode cX10_spoil 6 = .ok (.invokestatic 26, 3) := by decide +kernel
theorem dX10_spoil_9 : decode cX10_spoil 9 = .ok (.return_, 1) := by decide +kernel
set_option maxRecDepth 20000 in
theorem k_X10_spoil (d : Nat) {T : CT} {σ : MS} {a : Nat} {p1 : Int} (ha : OB T a 10) (h_p1 : -2147483648 ≤ p1 ∧ p1 ≤ 2147483647) (hw : WT T σ) : Tn (d + 2) m_X10_spoil 0 T σ [(0, .ref a), (1, .int (iI p1))] [] (fun ro T2 σ2 => ro = none ∧ T = T2 ∧ WT T2 σ2 ∧ FrC T [] σ σ2) := by
  refine tn_aload_n dX10_spoil_0 rfl 0 rfl ?_
  obtain ⟨x1, hx2, hk3, hl4⟩ : ∃ x : Nat, σ.2.1 89 a = (x : Int) ∧ AR T x 1 6 6 := wf_89 hw ha
  have hk3i : IA T x1 := by unfold IA; omega
  refine tn_getR (ci := 10) (i := 1) (n := 89) (x := x1) dX10_spoil_1 rfl lay_10 (by decide) fl10_17 ha rfl rfl (hx2) ?_
  refine tn_iload_n dX10_spoil_4 rfl 1 rfl ?_
  refine tn_iconst dX10_spoil_5 ?_
  refine tn_callSN (M := m_X10_spoil) (pc := 6) (ix := 26) (M' := m_X11_put) (As := [.ref x1, .int (iI p1), .int (iI 0)]) (rest := []) dX10_spoil_6 ok_X11_put stt_X11_put nl10_26 np_X11_put rfl (Nat.le_of_ble_eq_true rfl) (Nat.le_of_ble_eq_true rfl) rfl (k_X11_put (d) (T := T) (σ := σ) (x := x1) (i := p1) (y := 0) hk3i (by omega) (by omega) (by decide) hw (nh_k hk3 (by unfold HT; omega)) vok_0) (fun r5 T7 σ6 gt8 hp => ?_)
  obtain ⟨rfl, rfl, w10, F11⟩ := hp
  clear gt8
  show Tn _ _ 9 T σ6 [(0, .ref a), (1, .int (iI p1))] [] _
  exact tn_vret rfl dX10_spoil_9 ⟨rfl, rfl, w10, (FrC.rfl.trans (FrC.sub F11 (by decide)))⟩
