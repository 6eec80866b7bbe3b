set_option maxHeartbeats 1000000 in
set_option maxRecDepth 20000 in
theorem k_X7_foundCode_j (d : Nat) {T : CT} {σ : MS} {a : Nat} {xa : Nat} {y : Nat} (ha : OB T a 7) (hw : WT T σ) (hxa : σ.2.1 59 a = (xa : Int)) (hy : σ.2.1 55 a = (y : Int)) : Tn (d + 2) m_X7_foundCode 0 T σ [(0, .ref a)] [] (fun ro T2 σ2 => ∃ v : Int, ro = some (vl true v) ∧ T = T2 ∧ σ = σ2 ∧ (v < 0 ∨ ∃ x : Nat, v = (x : Int) ∧ OB T2 x 1 ∧ RC T2 a x) ∧ (CAT (FRV T σ a) v) ∧ (JW v (jC σ y (jA T xa (σ.2.1 70 a) σ)))) := by
  refine tn_aload_n dX7_foundCode_0 rfl 0 rfl ?_
  refine tn_aload_n dX7_foundCode_1 rfl 0 rfl ?_
  obtain ⟨hk3, hl4⟩ : AR T xa 15 9 9 := ar_of (wf_59 hw ha) hxa
  have hk3i : IA T xa := by unfold IA; omega
  refine tn_getR (ci := 7) (i := 4) (n := 59) (x := xa) dX7_foundCode_2 rfl lay_7 (by decide) fl7_9 ha rfl rfl (hxa) ?_
  refine tn_aload_n dX7_foundCode_5 rfl 0 rfl ?_
  refine tn_getI (ci := 7) (i := 15) (n := 70) (t := σ.2.1 70 a) dX7_foundCode_6 rfl lay_7 (by decide) fl7_143 ha rfl rfl (rfl) ?_
  have g5 : ((-2147483648 : Int) ≤ σ.2.1 70 a ∧ σ.2.1 70 a ≤ 2147483647) := wf_70 hw ha
  refine tn_callSN (M := m_X7_foundCode) (pc := 9) (ix := 91) (M' := m_X11_at) (As := [.ref xa, .int (iI (σ.2.1 70 a))]) (rest := [.ref a]) dX7_foundCode_9 ok_X11_at stt_X11_at nl7_91 np_X11_at rfl (Nat.le_of_ble_eq_true rfl) (Nat.le_of_ble_eq_true rfl) rfl (k_X11_at_j (d) (T := T) (σ := σ) (x := xa) (i := σ.2.1 70 a) hk3i (by omega) (by omega) hw ) (fun r6 T8 σ7 gt9 hp => ?_)
  obtain ⟨v13, rfl, rfl, rfl, f10, f11, f12⟩ := hp
  clear gt9
  clear f11
  show Tn _ _ 12 T σ [(0, .ref a)] [.int (iI v13), .ref a] _
  obtain ⟨hl17, hk16a, hk16b⟩ := ex_at (wf_55 hw ha) hy
  have hk16i : (T y).1 = 4 ∨ (T y).1 = 5 := by omega
  have hk16c : RROW T a y := ⟨hk16a, hk16b⟩
  clear hk16a hk16b
  refine tn_callV (M := m_X7_foundCode) (pc := 12) (ix := 68) (ci := 7) (M' := m_X7_codeAt) (As := [.int (iI v13)]) (rest := []) dX7_foundCode_12 ok_X7_codeAt im_X7_codeAt se_X7_codeAt ml7_68 np_X7_codeAt rfl rfl ha rfl (Nat.le_of_ble_eq_true rfl) (Nat.le_of_ble_eq_true rfl) rfl (k_X7_codeAt_j (d) (T := T) (σ := σ) (a := a) (r := v13) (y := y) ha (by omega) hw (hy)) (fun r18 T20 σ19 gt21 hp => ?_)
  obtain ⟨v24, rfl, rfl, rfl, rv25, f22, f23⟩ := hp
  clear gt21
  rcases rv25 with rv25 | ⟨xq26, rfl, hk27⟩
  · show Tn _ _ 15 T σ [(0, .ref a)] (vl true v24 :: []) _
    rw [vl_null rv25]
    exact tn_aret rfl (Or.inl ⟨_, rfl⟩) (Or.inl rfl) dX7_foundCode_15 ⟨-1, congrArg some (vl_null (by decide)).symm, rfl, rfl, Or.inl (by decide), (frv_of hxa rfl f12) ▸ (CAT.neg f22 rv25), Or.inr ⟨by rw [← f12, ← f23]; exact rv25, rfl⟩⟩
  · show Tn _ _ 15 T σ [(0, .ref a)] (vl true (xq26 : Int) :: []) _
    rw [vl_ref rfl]
    have hk27o : OB T xq26 1 := hk27.1
    exact tn_aret rfl (Or.inl ⟨_, rfl⟩) (Or.inr ⟨_, rfl⟩) dX7_foundCode_15 ⟨(xq26 : Int), congrArg some (vl_ref rfl).symm, rfl, rfl, Or.inr ⟨_, rfl, hk27o, hk27.2⟩, (frv_of hxa rfl f12) ▸ f22, Or.inl (by rw [← f12]; exact f23)⟩
