theorem oki_bind {σ : MS} {x k : Int} (h : ITz σ x 12 k 0) (hk : 0 ≤ k ∧ k < 12) : OKI (fArg x 0 2 k (sA 6 x 2 σ)) 1 x := by
  have e3 : (fArg x 0 2 k (sA 6 x 2 σ)).2.1 3 x = 12 := h.1
  have e4 : (fArg x 0 2 k (sA 6 x 2 σ)).2.1 4 x = k := h.2.1
  have e5 : (fArg x 0 2 k (sA 6 x 2 σ)).2.1 5 x = 0 := h.2.2.1
  have e6 : (fArg x 0 2 k (sA 6 x 2 σ)).2.1 6 x = 2 := ra_o (by decide) (ra_o (by decide) ra_eq)
  have en : nArgs (fArg x 0 2 k (sA 6 x 2 σ)) x = 1 := by
    unfold nArgs
    rw [e3, e6]
    simp
  refine ⟨by omega, by omega, by omega, by omega, by omega, by omega, by omega, fun i i0 i4 => ?_, fun _ _ => fArg_at.1⟩
  by_cases z : i = 0
  · rw [z, fArg_at.1, fArg_at.2, en]
    exact ⟨by omega, fun _ => ⟨by omega, by omega⟩⟩
  · rw [(fArg_ne z).1, (fArg_ne z).2, en]
    have q : (sA 6 x 2 σ).2.1 7 (4 * x + i) = 0 := h.2.2.2.2 i i0 i4
    rw [q]
    exact ⟨by omega, fun w => by omega⟩

theorem dX12_bind_0 : decode cX12_bind 0 = .ok (.aload_n 0, 1) := by decide +kernel
theorem dX12_bind_1 : decode cX12_bind 1 = .ok (.bipush 12, 2) := by decide +kernel
theorem dX12_bind_3 : decode cX12_bind 3 = .ok (.iload_n 1, 1) := by decide +kernel
theorem dX12_bind_4 : decode cX12_bind 4 = .ok (.iconst 0, 1) := by decide +kernel
theorem dX12_bind_5 : decode cX12_bind 5 = .ok (.invokevirtual 294, 3) := by decide +kernel
theorem dX12_bind_8 : decode cX12_bind 8 = .ok (.istore_n 2, 1) := by decide +kernel
theorem dX12_bind_9 : decode cX12_bind 9 = .ok (.aload_n 0, 1) := by decide +kernel
theorem dX12_bind_10 : decode cX12_bind 10 = .ok (.getfield 23, 3) := by decide +kernel
theorem dX12_bind_13 : decode cX12_bind 13 = .ok (.iload_n 2, 1) := by decide +kernel
theorem dX12_bind_14 : decode cX12_bind 14 = .ok (.iconst 2, 1) := by decide +kernel
theorem dX12_bind_15 : decode cX12_bind 15 = .ok (.iastore, 1) := by decide +kernel
theorem dX12_bind_16 : decode cX12_bind 16 = .ok (.aload_n 0, 1) := by decide +kernel
theorem dX12_bind_17 : decode cX12_bind 17 = .ok (.iload_n 2, 1) := by decide +kernel
theorem dX12_bind_18 : decode cX12_bind 18 = .ok (.iconst 0, 1) := by decide +kernel
theorem dX12_bind_19 : decode cX12_bind 19 = .ok (.iconst 2, 1) := by decide +kernel
theorem dX12_bind_20 : decode cX12_bind 20 = .ok (.iload_n 1, 1) := by decide +kernel
theorem dX12_bind_21 : decode cX12_bind 21 = .ok (.invokevirtual 298, 3) := by decide +kernel
theorem dX12_bind_24 : decode cX12_bind 24 = .ok (.return_, 1) := by decide +kernel
set_option maxHeartbeats 4000000 in
set_option maxRecDepth 20000 in
theorem c_X12_bind (d : Nat) {b : Nat} {σ : MS} {k : Int} (hR : RG σ) (hph : (0 ≤ σ.1 30 ∧ σ.1 30 ≤ 2000) ∧ (0 ≤ σ.1 34 ∧ σ.1 34 ≤ 10000)) (hk12 : 0 ≤ k ∧ k < 12) : Tm (d + 3) m_X12_bind 0 b σ [(0, .ref b), (1, .int (iI k))] [] (fun ro σ2 => ro = none ∧ (Fr [34] [3, 4, 5, 6, 7, 8] [] σ σ2) ∧ (RG σ2) ∧ (σ2.1 34 = σ.1 34 + 1) ∧ (OFF (PXx σ) σ σ2) ∧ (OKI σ2 1 (PXx σ)) ∧ (σ2.2.1 3 (PXx σ) = 12)) := by
  refine tm_aload_n dX12_bind_0 rfl 0 rfl ?_
  refine tm_bipush dX12_bind_1 (by decide) ?_
  refine tm_iload_n dX12_bind_3 rfl 1 rfl ?_
  refine tm_iconst dX12_bind_4 ?_
  refine tm_callV (M := m_X12_bind) (pc := 5) (ix := 294) (M' := m_X12_put) (As := [.int (iI 12), .int (iI k), .int (iI 0)]) (rest := []) dX12_bind_5 ok_X12_put im_X12_put se_X12_put ml12_294 np_X12_put rfl rfl (Nat.le_of_ble_eq_true rfl) (Nat.le_of_ble_eq_true rfl) rfl (c_X12_put (d) (σ := σ) (k := 12) (e := k) (o := 0) hR hph (by omega) (by omega) (by omega)) (fun r1 σ2 hp => ?_)
  obtain ⟨v3, rfl, f4, f5, f6, f7, f8, f9, f10⟩ := hp
  show Tm _ _ 8 b σ2 [(0, .ref b), (1, .int (iI k))] [.int (iI v3)] _
  have jv := f6
  have jn := f7
  have ji := f8
  have jo := f9
  have jr := f10
  refine tm_istore_n (L' := [(2, .int (iI v3)), (0, .ref b), (1, .int (iI k))]) dX12_bind_8 rfl (by decide) rfl ?_
  refine tm_aload_n dX12_bind_9 rfl 1 rfl ?_
  refine tm_get (k := 6) (v := .ref (b + 1 + 4)) lay_12 dX12_bind_10 (by decide) fl12_23 rfl ?_
  refine tm_iload_n dX12_bind_13 rfl 0 rfl ?_
  refine tm_iconst dX12_bind_14 ?_
  refine tm_iast (z := v3) (v := 2) dX12_bind_15 (show mT[4]? = some (6, 0, 2860) from rfl) (by omega) (by omega) (by decide) ?_
  refine tm_aload_n dX12_bind_16 rfl 1 rfl ?_
  refine tm_iload_n dX12_bind_17 rfl 0 rfl ?_
  refine tm_iconst dX12_bind_18 ?_
  refine tm_iconst dX12_bind_19 ?_
  refine tm_iload_n dX12_bind_20 rfl 2 rfl ?_
  refine tm_callV (M := m_X12_bind) (pc := 21) (ix := 298) (M' := m_X12_setArg) (As := [.int (iI v3), .int (iI 0), .int (iI 2), .int (iI k)]) (rest := []) dX12_bind_21 ok_X12_setArg im_X12_setArg se_X12_setArg ml12_298 np_X12_setArg rfl rfl (Nat.le_of_ble_eq_true rfl) (Nat.le_of_ble_eq_true rfl) rfl (c_X12_setArg (d + 1) (σ := (sA 6 (v3) (2) σ2)) (x := v3) (i := 0) (k := 2) (w := k) (by omega)) (fun r11 σ12 hp => ?_)
  obtain ⟨rfl, f14⟩ := hp
  subst f14
  show Tm _ _ 24 b (fArg (v3) (0) (2) (k) (sA 6 (v3) (2) σ2)) [(2, .int (iI v3)), (0, .ref b), (1, .int (iI k))] [] _
  exact tm_vret rfl dX12_bind_24 (⟨rfl, (((Fr.rfl.trans (Fr.sub f4 (by decide) (by decide) (by decide))).A (by decide)).trans (Fr.sub fArg_fr (by decide) (by decide) (by decide))), (((f5.A (by omega))).arg (by omega) (by omega)), jn, by rw [← jv]; exact (jo.trans (OFF.A (by decide))).trans (OFF.arg (by decide) (by decide)), by rw [← jv]; exact oki_bind ji hk12, by rw [← jv]; exact ji.1⟩)
