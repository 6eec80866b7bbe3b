theorem dX12_fold_0 : decode cX12_fold 0 = .ok (.iconst 0, 1) := by decide +kernel
theorem dX12_fold_1 : decode cX12_fold 1 = .ok (.istore_n 2, 1) := by decide +kernel
theorem dX12_fold_2 : decode cX12_fold 2 = .ok (.iconst 0, 1) := by decide +kernel
theorem dX12_fold_3 : decode cX12_fold 3 = .ok (.istore_n 3, 1) := by decide +kernel
theorem dX12_fold_4 : decode cX12_fold 4 = .ok (.aload_n 0, 1) := by decide +kernel
theorem dX12_fold_5 : decode cX12_fold 5 = .ok (.invokevirtual 460, 3) := by decide +kernel
theorem dX12_fold_8 : decode cX12_fold 8 = .ok (.iconst 0, 1) := by decide +kernel
theorem dX12_fold_9 : decode cX12_fold 9 = .ok (.istore 4, 2) := by decide +kernel
theorem dX12_fold_361 : decode cX12_fold 361 = .ok (.aload_n 0, 1) := by decide +kernel
theorem dX12_fold_362 : decode cX12_fold 362 = .ok (.getfield 32, 3) := by decide +kernel
theorem dX12_fold_365 : decode cX12_fold 365 = .ok (.iload_n 1, 1) := by decide +kernel
theorem dX12_fold_366 : decode cX12_fold 366 = .ok (.iload_n 3, 1) := by decide +kernel
theorem dX12_fold_367 : decode cX12_fold 367 = .ok (.iastore, 1) := by decide +kernel
theorem dX12_fold_368 : decode cX12_fold 368 = .ok (.iload_n 2, 1) := by decide +kernel
theorem dX12_fold_369 : decode cX12_fold 369 = .ok (.ireturn, 1) := by decide +kernel
set_option maxHeartbeats 1000000 in
set_option maxRecDepth 20000 in
theorem c_X12_fold (d : Nat) {b : Nat} {σ : MS} {r : Int} {F : Int} (hr : 0 ≤ r ∧ r < 6) (hR : RG σ) (hit : ITM σ) (hpar : PAR σ) (hok : OKS σ F r) (hkn : KNW σ) (hn : 1 ≤ σ.2.1 9 r) (hcd : CODE σ r) (hlex : LEX σ r) (hlm : LBM σ r) : Tm (d + 6) m_X12_fold 0 b σ [(0, .ref b), (1, .int (iI r))] [] (fun ro σ2 => ∃ v : Int, ro = some (.int (iI v)) ∧ (Fr [] [3, 4, 5, 6, 7, 8, 9, 60, 61] [] σ σ2) ∧ (RG σ2) ∧ ((1 ≤ σ2.2.1 9 r ∧ σ2.2.1 9 r ≤ σ.2.1 9 r) ∧ ∀ j, j ≠ r → σ2.2.1 9 j = σ.2.1 9 j) ∧ (XO r σ σ2) ∧ (OKS σ2 F r) ∧ (CODE σ2 r) ∧ (LEX σ2 r) ∧ (LBM σ2 r) ∧ (KNW σ2)) := by
  have q1 := hit r (by omega) (by omega)
  refine tm_iconst dX12_fold_0 ?_
  refine tm_istore_n (L' := [(2, .int (iI 0)), (0, .ref b), (1, .int (iI r))]) dX12_fold_1 rfl (by decide) rfl ?_
  refine tm_iconst dX12_fold_2 ?_
  refine tm_istore_n (L' := [(3, .int (iI 0)), (2, .int (iI 0)), (0, .ref b), (1, .int (iI r))]) dX12_fold_3 rfl (by decide) rfl ?_
  refine tm_aload_n dX12_fold_4 rfl 2 rfl ?_
  refine tm_callV (M := m_X12_fold) (pc := 5) (ix := 460) (M' := m_X12_forgetAll) (As := []) (rest := []) dX12_fold_5 ok_X12_forgetAll im_X12_forgetAll se_X12_forgetAll ml12_460 np_X12_forgetAll rfl rfl (Nat.le_of_ble_eq_true rfl) (Nat.le_of_ble_eq_true rfl) rfl (c2_X12_forgetAll (d + 4) (σ := σ)  hR hkn) (fun r1 σ2 hp => ?_)
  obtain ⟨rfl, f4, f5, f6⟩ := hp
  show Tm _ _ 8 b σ2 [(3, .int (iI 0)), (2, .int (iI 0)), (0, .ref b), (1, .int (iI r))] [] _
  refine tm_iconst dX12_fold_8 ?_
  refine tm_istore (L' := [(4, .int (iI 0)), (3, .int (iI 0)), (2, .int (iI 0)), (0, .ref b), (1, .int (iI r))]) dX12_fold_9 (by decide) rfl ?_
  refine tm_sub [0, 1, 2, 3, 4] rfl (l_fold (d) (σ0 := σ2) (r := r) (F := F) hr f5 (hit.fr (show Fr [] [60] [] σ σ2 from (Fr.rfl.trans (Fr.sub f4 (by decide) (by decide) (by decide)))) (by decide)) (hpar.fr (show Fr [] [60] [] σ σ2 from (Fr.rfl.trans (Fr.sub f4 (by decide) (by decide) (by decide)))) (by decide)) (hok.fr (show Fr [] [60] [] σ σ2 from (Fr.rfl.trans (Fr.sub f4 (by decide) (by decide) (by decide)))) (by decide)) (fun w16 t17 k18 σ19 F11 R12 f13 f14 f15 => ?_) _ (0) (0) (0) σ2 Fr.rfl f5 (by rw [((show Fr [] [60] [] σ σ2 from (Fr.rfl.trans (Fr.sub f4 (by decide) (by decide) (by decide))))).2.1 9 (by decide)]; omega) FLP.start f6 rfl)
  show Tm _ _ 361 b σ19 [(4, .int (iI k18)), (3, .int (iI t17)), (2, .int (iI w16)), (0, .ref b), (1, .int (iI r))] [] _
  have e9 : σ2.2.1 9 r = σ.2.1 9 r := by rw [((show Fr [] [60] [] σ σ2 from (Fr.rfl.trans (Fr.sub f4 (by decide) (by decide) (by decide))))).2.1 9 (by decide)]
  have hfin := FLP.fin f14 ⟨rfl, by omega⟩ F11 (hcd.fr (show Fr [] [60] [] σ σ2 from (Fr.rfl.trans (Fr.sub f4 (by decide) (by decide) (by decide)))) (by decide) (by decide)) (hlex.fr (show Fr [] [60] [] σ σ2 from (Fr.rfl.trans (Fr.sub f4 (by decide) (by decide) (by decide)))) (by decide)) (hlm.fr (show Fr [] [60] [] σ σ2 from (Fr.rfl.trans (Fr.sub f4 (by decide) (by decide) (by decide)))) (by decide))
  have hxo := (XO.fr (r := r) (show Fr [] [60] [] σ σ2 from (Fr.rfl.trans (Fr.sub f4 (by decide) (by decide) (by decide)))) (by decide)).trans f14.2.2.1
  have hkn2 := f15
  refine tm_aload_n dX12_fold_361 rfl 3 rfl ?_
  refine tm_get (k := 9) (v := .ref (b + 1 + 7)) lay_12 dX12_fold_362 (by decide) fl12_32 rfl ?_
  refine tm_iload_n dX12_fold_365 rfl 4 rfl ?_
  refine tm_iload_n dX12_fold_366 rfl 1 rfl ?_
  refine tm_iast (z := r) (v := t17) dX12_fold_367 (show mT[7]? = some (9, 0, 13) from rfl) (by omega) (by omega) (by decide) ?_
  refine tm_iload_n dX12_fold_368 rfl 2 rfl ?_
  exact tm_iret rfl dX12_fold_369 (⟨_, rfl, (((Fr.rfl.trans (Fr.sub f4 (by decide) (by decide) (by decide))).trans (Fr.sub F11 (by decide) (by decide) (by decide))).A (by decide)), (R12.A (by omega)), ⟨by rw [show (sA 9 (r) (t17) σ19).2.1 9 r = t17 from ra_eq]; omega, fun j hj => ra_ne hj (by rw [((show Fr [] [3, 4, 5, 6, 7, 8, 60, 61] [] σ σ19 from ((Fr.rfl.trans (Fr.sub f4 (by decide) (by decide) (by decide))).trans (Fr.sub F11 (by decide) (by decide) (by decide))))).2.1 9 (by decide)])⟩, hxo.trans (XO.fr ((Fr.rfl (ss := []) (ks := [9]) (js := [])).A (by decide)) (by decide)), hfin.2.2.2.2, hfin.1, hfin.2.2.1, hfin.2.2.2.1, hkn2.fr ((Fr.rfl (ss := []) (ks := [9]) (js := [])).A (by decide)) (by decide)⟩)
