theorem cd_X7_foundCode : Cond.code yX7_foundCode cX7_foundCode 1 (some (.object "LineKeeper$Code")) ∈ pWW := pw6 (List.mem_of_getElem? (i := 112) rfl) rfl
abbrev m_X7_foundCode : MT := (yX7_foundCode, cX7_foundCode, 1, (some (.object "LineKeeper$Code")))
theorem ok_X7_foundCode : pOk m_X7_foundCode := ⟨⟨cd_X7_foundCode, ini_7⟩, by decide +kernel, ⟨by decide +kernel, by decide +kernel⟩, Nat.le_of_ble_eq_true rfl⟩
theorem np_X7_foundCode : (parseMethodDescriptor yX7_foundCode.desc).map (fun d => d.parameters.length) = some 0 := by decide +kernel
theorem im_X7_foundCode : Cond.instanceMethod yX7_foundCode ∈ pWW := pw6 (List.mem_of_getElem? (i := 110) rfl) rfl
theorem se_X7_foundCode : Cond.selects RX7 yX7_foundCode yX7_foundCode ∈ pWW := pw6 (List.mem_of_getElem? (i := 111) rfl) rfl
theorem dX7_foundCode_0 : decode cX7_foundCode 0 = .ok (.aload_n 0, 1) := by decide +kernel
theorem dX7_foundCode_1 : decode cX7_foundCode 1 = .ok (.aload_n 0, 1) := by decide +kernel
theorem dX7_foundCode_2 : decode cX7_foundCode 2 = .ok (.getfield 9, 3) := by decide +kernel
theorem dX7_foundCode_5 : decode cX7_foundCode 5 = .ok (.aload_n 0, 1) := by decide +kernel
theorem dX7_foundCode_6 : decode cX7_foundCode 6 = .ok (.getfield 143, 3) := by decide +kernel
theorem dX7_foundCode_9 : decode cX7_foundCode 9 = .ok (.invokestatic 91, 3) := by decide +kernel
theorem dX7_foundCode_12 : decode cX7_foundCode 12 = .ok (.invokevirtual 68, 3) := by decide +kernel
theorem dX7_foundCode_15 : decode cX7_foundCode 15 = .ok (.areturn, 1) := by decide +kernel
set_option maxRecDepth 20000 in
theorem k_X7_foundCode (d : Nat) {T : CT} {σ : MS} {a : Nat} (ha : OB T a 7) (hw : WT T σ) : Tn (d + 2) m_X7_foundCode 0 T σ [(0, .ref a)] [] (fun ro T2 σ2 => ∃ v : Int, ro = some (vl true v) ∧ T = T2 ∧ σ = σ2 ∧ (v < 0 ∨ ∃ x : Nat, v = (x : Int) ∧ OB T2 x 1 ∧ RC T2 a x) ∧ (CAT (FRV T σ a) v)) := by
  refine tn_aload_n dX7_foundCode_0 rfl 0 rfl ?_
  refine tn_aload_n dX7_foundCode_1 rfl 0 rfl ?_
  obtain ⟨x1, hx2, hk3, hl4⟩ : ∃ x : Nat, σ.2.1 59 a = (x : Int) ∧ AR T x 15 9 9 := wf_59 hw ha
  have hk3i : IA T x1 := by unfold IA; omega
  refine tn_getR (ci := 7) (i := 4) (n := 59) (x := x1) dX7_foundCode_2 rfl lay_7 (by decide) fl7_9 ha rfl rfl (hx2) ?_
  refine tn_aload_n dX7_foundCode_5 rfl 0 rfl ?_
  refine tn_getI (ci := 7) (i := 15) (n := 70) (t := σ.2.1 70 a) dX7_foundCode_6 rfl lay_7 (by decide) fl7_143 ha rfl rfl (rfl) ?_
  have g5 : ((-2147483648 : Int) ≤ σ.2.1 70 a ∧ σ.2.1 70 a ≤ 2147483647) := wf_70 hw ha
  refine tn_callSN (M := m_X7_foundCode) (pc := 9) (ix := 91) (M' := m_X11_at) (As := [.ref x1, .int (iI (σ.2.1 70 a))]) (rest := [.ref a]) dX7_foundCode_9 ok_X11_at stt_X11_at nl7_91 np_X11_at rfl (Nat.le_of_ble_eq_true rfl) (Nat.le_of_ble_eq_true rfl) rfl (k_X11_at (d) (T := T) (σ := σ) (x := x1) (i := σ.2.1 70 a) hk3i (by omega) (by omega) hw ) (fun r6 T8 σ7 gt9 hp => ?_)
  obtain ⟨v13, rfl, rfl, rfl, f10, f11, f12⟩ := hp
  clear gt9
  show Tn _ _ 12 T σ [(0, .ref a)] [.int (iI v13), .ref a] _
  refine tn_callV (M := m_X7_foundCode) (pc := 12) (ix := 68) (ci := 7) (M' := m_X7_codeAt) (As := [.int (iI v13)]) (rest := []) dX7_foundCode_12 ok_X7_codeAt im_X7_codeAt se_X7_codeAt ml7_68 np_X7_codeAt rfl rfl ha rfl (Nat.le_of_ble_eq_true rfl) (Nat.le_of_ble_eq_true rfl) rfl (k_X7_codeAt (d) (T := T) (σ := σ) (a := a) (r := v13) ha (by omega) hw ) (fun r14 T16 σ15 gt17 hp => ?_)
  obtain ⟨v19, rfl, rfl, rfl, rv20, f18⟩ := hp
  clear gt17
  rcases rv20 with rv20 | ⟨x21, rfl, hk22⟩
  · show Tn _ _ 15 T σ [(0, .ref a)] (vl true v19 :: []) _
    rw [vl_null rv20]
    exact tn_aret rfl (Or.inl ⟨_, rfl⟩) (Or.inl rfl) dX7_foundCode_15 ⟨-1, congrArg some (vl_null (by decide)).symm, rfl, rfl, Or.inl (by decide), (frv_of hx2 rfl f12) ▸ (CAT.neg f18 rv20)⟩
  · show Tn _ _ 15 T σ [(0, .ref a)] (vl true (x21 : Int) :: []) _
    rw [vl_ref rfl]
    have hk22o : OB T x21 1 := hk22.1
    exact tn_aret rfl (Or.inl ⟨_, rfl⟩) (Or.inr ⟨_, rfl⟩) dX7_foundCode_15 ⟨(x21 : Int), congrArg some (vl_ref rfl).symm, rfl, rfl, Or.inr ⟨_, rfl, hk22o, hk22.2⟩, (frv_of hx2 rfl f12) ▸ f18⟩
