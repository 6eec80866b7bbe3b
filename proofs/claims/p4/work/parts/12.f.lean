theorem ml12_472 : Cond.methodLink RX12 472 yX12_findReached ∈ pWW := pw9 (List.mem_of_getElem? (i := 125) rfl) rfl
theorem dX12_dropAll_0 : decode cX12_dropAll 0 = .ok (.iconst 0, 1) := by decide +kernel
theorem dX12_dropAll_1 : decode cX12_dropAll 1 = .ok (.istore_n 2, 1) := by decide +kernel
theorem dX12_dropAll_2 : decode cX12_dropAll 2 = .ok (.aload_n 0, 1) := by decide +kernel
theorem dX12_dropAll_3 : decode cX12_dropAll 3 = .ok (.iload_n 1, 1) := by decide +kernel
theorem dX12_dropAll_4 : decode cX12_dropAll 4 = .ok (.invokevirtual 420, 3) := by decide +kernel
theorem dX12_dropAll_7 : decode cX12_dropAll 7 = .ok (.aload_n 0, 1) := by decide +kernel
theorem dX12_dropAll_8 : decode cX12_dropAll 8 = .ok (.iload_n 1, 1) := by decide +kernel
theorem dX12_dropAll_9 : decode cX12_dropAll 9 = .ok (.invokevirtual 472, 3) := by decide +kernel
theorem dX12_dropAll_12 : decode cX12_dropAll 12 = .ok (.iconst 0, 1) := by decide +kernel
theorem dX12_dropAll_13 : decode cX12_dropAll 13 = .ok (.istore_n 3, 1) := by decide +kernel
theorem dX12_dropAll_14 : decode cX12_dropAll 14 = .ok (.iconst 0, 1) := by decide +kernel
theorem dX12_dropAll_15 : decode cX12_dropAll 15 = .ok (.istore 4, 2) := by decide +kernel
theorem dX12_dropAll_93 : decode cX12_dropAll 93 = .ok (.aload_n 0, 1) := by decide +kernel
theorem dX12_dropAll_94 : decode cX12_dropAll 94 = .ok (.getfield 32, 3) := by decide +kernel
theorem dX12_dropAll_97 : decode cX12_dropAll 97 = .ok (.iload_n 1, 1) := by decide +kernel
theorem dX12_dropAll_98 : decode cX12_dropAll 98 = .ok (.iload_n 3, 1) := by decide +kernel
theorem dX12_dropAll_99 : decode cX12_dropAll 99 = .ok (.iastore, 1) := by decide +kernel
theorem dX12_dropAll_100 : decode cX12_dropAll 100 = .ok (.iconst 1, 1) := by decide +kernel
theorem dX12_dropAll_101 : decode cX12_dropAll 101 = .ok (.istore 4, 2) := by decide +kernel
theorem dX12_dropAll_202 : decode cX12_dropAll 202 = .ok (.iload_n 2, 1) := by decide +kernel
theorem dX12_dropAll_203 : decode cX12_dropAll 203 = .ok (.ireturn, 1) := by decide +kernel
set_option maxHeartbeats 1000000 in
set_option maxRecDepth 20000 in
theorem c_X12_dropAll (d : Nat) {b : Nat} {σ : MS} {r : Int} {F : Int} (hr : 0 ≤ r ∧ r < 6) (hR : RG σ) (hit : ITM σ) (hpar : PAR σ) (hok : OKS σ F r) (hl : LAB σ) (hbl : BO 59 σ) (hbo : BO 47 σ) (hn : 1 ≤ σ.2.1 9 r) (hcd : CODE σ r) (hlex : LEX σ r) (hlm : LBM σ r) : Tm (d + 7) m_X12_dropAll 0 b σ [(0, .ref b), (1, .int (iI r))] [] (fun ro σ2 => ∃ v : Int, ro = some (.int (iI v)) ∧ (Fr [] [3, 4, 5, 6, 7, 8, 9, 46, 47, 59] [] σ σ2) ∧ (RG σ2) ∧ ((1 ≤ σ2.2.1 9 r ∧ σ2.2.1 9 r ≤ σ.2.1 9 r) ∧ ∀ j, j ≠ r → σ2.2.1 9 j = σ.2.1 9 j) ∧ (XO r σ σ2) ∧ (OKS σ2 F r) ∧ (CODE σ2 r) ∧ (LEX σ2 r) ∧ (LBM σ2 r) ∧ (LAB σ2) ∧ (BO 59 σ2) ∧ (BO 47 σ2)) := by
  have q1 := hit r (by omega) (by omega)
  refine tm_iconst dX12_dropAll_0 ?_
  refine tm_istore_n (L' := [(2, .int (iI 0)), (0, .ref b), (1, .int (iI r))]) dX12_dropAll_1 rfl (by decide) rfl ?_
  refine tm_aload_n dX12_dropAll_2 rfl 1 rfl ?_
  refine tm_iload_n dX12_dropAll_3 rfl 2 rfl ?_
  refine tm_callV (M := m_X12_dropAll) (pc := 4) (ix := 420) (M' := m_X12_findLabels) (As := [.int (iI r)]) (rest := []) dX12_dropAll_4 ok_X12_findLabels im_X12_findLabels se_X12_findLabels ml12_420 np_X12_findLabels rfl rfl (Nat.le_of_ble_eq_true rfl) (Nat.le_of_ble_eq_true rfl) rfl (c_X12_findLabels (d + 4) (σ := σ) (r := r) (by omega) hR hit hok.jmp.lbr hl) (fun r1 σ2 hp => ?_)
  obtain ⟨rfl, f4, f5, f6, f7⟩ := hp
  show Tm _ _ 7 b σ2 [(2, .int (iI 0)), (0, .ref b), (1, .int (iI r))] [] _
  have f1 := f4
  have hl1 := f6
  have htd1 := LEX.tgd hlex f7 f1
  have e91 : σ2.2.1 9 r = σ.2.1 9 r := by rw [f1.2.1 9 (by decide)]
  refine tm_aload_n dX12_dropAll_7 rfl 1 rfl ?_
  refine tm_iload_n dX12_dropAll_8 rfl 2 rfl ?_
  refine tm_callV (M := m_X12_dropAll) (pc := 9) (ix := 472) (M' := m_X12_findReached) (As := [.int (iI r)]) (rest := []) dX12_dropAll_9 ok_X12_findReached im_X12_findReached se_X12_findReached ml12_472 np_X12_findReached rfl rfl (Nat.le_of_ble_eq_true rfl) (Nat.le_of_ble_eq_true rfl) rfl (c_X12_findReached (d + 3) (σ := σ2) (r := r) (by omega) f5 (hit.fr f1 (by decide)) (hok.jmp.fr f1 (by decide)) htd1.tgt (hbo.fr f1 (by decide))) (fun r8 σ9 hp => ?_)
  obtain ⟨rfl, f11, f12, f13, f14, f15, f16⟩ := hp
  show Tm _ _ 12 b σ9 [(2, .int (iI 0)), (0, .ref b), (1, .int (iI r))] [] _
  have f2 := f11
  have hbo2 := f13
  have h02 := f14
  have e99 : σ9.2.1 9 r = σ2.2.1 9 r := by rw [f2.2.1 9 (by decide)]
  have hmn2 : MNR σ9 r (σ9.2.1 9 r) := by rw [e99]; exact f15
  have hcl2 : CLO σ9 r (σ9.2.1 9 r) := by rw [e99]; exact f16
  have htd2 := htd1.fr f2 (by decide)
  have hl2 := hl1.fr f2 (by decide)
  refine tm_iconst dX12_dropAll_12 ?_
  refine tm_istore_n (L' := [(3, .int (iI 0)), (2, .int (iI 0)), (0, .ref b), (1, .int (iI r))]) dX12_dropAll_13 rfl (by decide) rfl ?_
  refine tm_iconst dX12_dropAll_14 ?_
  refine tm_istore (L' := [(4, .int (iI 0)), (3, .int (iI 0)), (2, .int (iI 0)), (0, .ref b), (1, .int (iI r))]) dX12_dropAll_15 (by decide) rfl ?_
  refine tm_sub [0, 1, 2, 3, 4] rfl (l_drop1 (d + 5) (σ0 := σ9) (r := r) (F := F) hr f12 (hit.fr (show Fr [] [46, 47] [] σ σ9 from ((Fr.rfl.trans (Fr.sub f4 (by decide) (by decide) (by decide))).trans (Fr.sub f11 (by decide) (by decide) (by decide)))) (by decide)) (hok.fr (show Fr [] [46, 47] [] σ σ9 from ((Fr.rfl.trans (Fr.sub f4 (by decide) (by decide) (by decide))).trans (Fr.sub f11 (by decide) (by decide) (by decide)))) (by decide)) hbo2 (fun w25 t26 k27 σ28 F21 R22 f23 f24 => ?_) _ (0) (0) (0) σ9 Fr.rfl f12 (by rw [((show Fr [] [46, 47] [] σ σ9 from ((Fr.rfl.trans (Fr.sub f4 (by decide) (by decide) (by decide))).trans (Fr.sub f11 (by decide) (by decide) (by decide))))).2.1 9 (by decide)]; omega) DLP.start rfl)
  show Tm _ _ 93 b σ28 [(4, .int (iI k27)), (3, .int (iI t26)), (2, .int (iI w25)), (0, .ref b), (1, .int (iI r))] [] _
  have f12 := (show Fr [] [46, 47] [] σ σ9 from ((Fr.rfl.trans (Fr.sub f4 (by decide) (by decide) (by decide))).trans (Fr.sub f11 (by decide) (by decide) (by decide))))
  have e9 : σ9.2.1 9 r = σ.2.1 9 r := by rw [f12.2.1 9 (by decide)]
  have e92 : σ28.2.1 9 = σ.2.1 9 := by rw [F21.2.1 9 (by decide), f12.2.1 9 (by decide)]
  have hfin := DLP.fin f24 ⟨rfl, by omega⟩ F21 (hcd.fr f12 (by decide) (by decide)) htd2 (hlm.fr f12 (by decide)) hbo2 h02 hmn2 hcl2
  have hxo1 := ((XO.fr (r := r) f12 (by decide)).trans f24.2.2.1).trans (XO.fr (r := r) (τ := sA 9 r t26 σ28) ((Fr.rfl (ss := []) (ks := [9]) (js := [])).A (by decide)) (by decide))
  have hl3 := (hl2.fr F21 (by decide))
  have hbo3 := hbo2.fr F21 (by decide)
  have hbl3 := (hbl.fr f12 (by decide)).fr F21 (by decide)
  refine tm_aload_n dX12_dropAll_93 rfl 3 rfl ?_
  refine tm_get (k := 9) (v := .ref (b + 1 + 7)) lay_12 dX12_dropAll_94 (by decide) fl12_32 rfl ?_
  refine tm_iload_n dX12_dropAll_97 rfl 4 rfl ?_
  refine tm_iload_n dX12_dropAll_98 rfl 1 rfl ?_
  refine tm_iast (z := r) (v := t26) dX12_dropAll_99 (show mT[7]? = some (9, 0, 13) from rfl) (by omega) (by omega) (by decide) ?_
  refine tm_iconst dX12_dropAll_100 ?_
  refine tm_istore (L' := [(4, .int (iI 1)), (3, .int (iI t26)), (2, .int (iI w25)), (0, .ref b), (1, .int (iI r))]) dX12_dropAll_101 (by decide) rfl ?_
  refine tm_sub [0, 2, 3, 4] rfl (l_drop2 (d) (σ0 := (sA 9 (r) (t26) σ28)) (r := r) (F := F) hr (R22.A (by omega)) (fun j a c => by
    by_cases q : j = r
    · rw [q, show (sA 9 (r) (t26) σ28).2.1 9 r = t26 from ra_eq]; omega
    · rw [show (sA 9 (r) (t26) σ28).2.1 9 j = σ.2.1 9 j from ra_ne q (by rw [e92])]; exact hit j a c) (hpar.fr (show Fr [] [3, 4, 5, 6, 7, 8, 9, 46, 47] [] σ (sA 9 (r) (t26) σ28) from ((((Fr.rfl.trans (Fr.sub f4 (by decide) (by decide) (by decide))).trans (Fr.sub f11 (by decide) (by decide) (by decide))).trans (Fr.sub F21 (by decide) (by decide) (by decide))).A (by decide))) (by decide)) (fun w45 ce46 σ47 F32 R33 f34 f35 f36 f37 f38 f39 f40 f41 f42 f43 f44 => ?_) _ (w25) (1) (sA 9 (r) (t26) σ28) Fr.rfl (R22.A (by omega)) (by rw [show (sA 9 (r) (t26) σ28).2.1 9 r = t26 from ra_eq]; omega) hfin.2.2.2.2 hfin.1 hfin.2.2.1 hfin.2.2.2.1 XO.rfl (by rw [show (sA 9 (r) (t26) σ28).2.1 9 r = t26 from ra_eq]; exact hfin.2.1) (fun _ _ => rfl) (hl3.fr ((Fr.rfl (ss := []) (ks := [9]) (js := [])).A (by decide)) (by decide)) (hbl3.fr ((Fr.rfl (ss := []) (ks := [9]) (js := [])).A (by decide)) (by decide)) (hbo3.fr ((Fr.rfl (ss := []) (ks := [9]) (js := [])).A (by decide)) (by decide)) rfl)
  show Tm _ _ 202 b σ47 [(4, .int (iI ce46)), (2, .int (iI w45)), (0, .ref b), (1, .int (iI r))] [] _
  refine tm_iload_n dX12_dropAll_202 rfl 1 rfl ?_
  exact tm_iret rfl dX12_dropAll_203 (⟨_, rfl, (((((Fr.rfl.trans (Fr.sub f4 (by decide) (by decide) (by decide))).trans (Fr.sub f11 (by decide) (by decide) (by decide))).trans (Fr.sub F21 (by decide) (by decide) (by decide))).A (by decide)).trans (Fr.sub F32 (by decide) (by decide) (by decide))), R33, ⟨by have h1 := f34; have h2 := f40; rw [show (sA 9 (r) (t26) σ28).2.1 9 r = t26 from ra_eq] at h1; omega, fun j hj => by rw [f41 j hj]; exact ra_ne hj (by rw [e92])⟩, hxo1.trans f39, f35, f36, f37, f38, f42, f43, f44⟩)
