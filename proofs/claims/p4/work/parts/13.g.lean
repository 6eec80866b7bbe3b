theorem ml12_512 : Cond.methodLink RX12 512 yX12_labels ∈ pWW := pw9 (List.mem_of_getElem? (i := 197) rfl) rfl
theorem dX12_meltOne_0 : decode cX12_meltOne 0 = .ok (.aload_n 0, 1) := by decide +kernel
theorem dX12_meltOne_1 : decode cX12_meltOne 1 = .ok (.iload_n 1, 1) := by decide +kernel
theorem dX12_meltOne_2 : decode cX12_meltOne 2 = .ok (.iload_n 2, 1) := by decide +kernel
theorem dX12_meltOne_3 : decode cX12_meltOne 3 = .ok (.invokevirtual 203, 3) := by decide +kernel
theorem dX12_meltOne_6 : decode cX12_meltOne 6 = .ok (.istore 4, 2) := by decide +kernel
theorem dX12_meltOne_8 : decode cX12_meltOne 8 = .ok (.aload_n 0, 1) := by decide +kernel
theorem dX12_meltOne_9 : decode cX12_meltOne 9 = .ok (.getfield 44, 3) := by decide +kernel
theorem dX12_meltOne_12 : decode cX12_meltOne 12 = .ok (.iload_n 1, 1) := by decide +kernel
theorem dX12_meltOne_13 : decode cX12_meltOne 13 = .ok (.iaload, 1) := by decide +kernel
theorem dX12_meltOne_14 : decode cX12_meltOne 14 = .ok (.istore 5, 2) := by decide +kernel
theorem dX12_meltOne_16 : decode cX12_meltOne 16 = .ok (.aload_n 0, 1) := by decide +kernel
theorem dX12_meltOne_17 : decode cX12_meltOne 17 = .ok (.iload_n 1, 1) := by decide +kernel
theorem dX12_meltOne_18 : decode cX12_meltOne 18 = .ok (.invokevirtual 410, 3) := by decide +kernel
theorem dX12_meltOne_21 : decode cX12_meltOne 21 = .ok (.istore 6, 2) := by decide +kernel
theorem dX12_meltOne_23 : decode cX12_meltOne 23 = .ok (.aload_n 0, 1) := by decide +kernel
theorem dX12_meltOne_24 : decode cX12_meltOne 24 = .ok (.iload_n 1, 1) := by decide +kernel
theorem dX12_meltOne_25 : decode cX12_meltOne 25 = .ok (.invokevirtual 512, 3) := by decide +kernel
theorem dX12_meltOne_28 : decode cX12_meltOne 28 = .ok (.istore 7, 2) := by decide +kernel
theorem dX12_meltOne_30 : decode cX12_meltOne 30 = .ok (.iload 7, 2) := by decide +kernel
theorem dX12_meltOne_32 : decode cX12_meltOne 32 = .ok (.aload_n 0, 1) := by decide +kernel
theorem dX12_meltOne_33 : decode cX12_meltOne 33 = .ok (.iload_n 3, 1) := by decide +kernel
theorem dX12_meltOne_34 : decode cX12_meltOne 34 = .ok (.invokevirtual 512, 3) := by decide +kernel
theorem dX12_meltOne_37 : decode cX12_meltOne 37 = .ok (.iadd, 1) := by decide +kernel
theorem dX12_meltOne_38 : decode cX12_meltOne 38 = .ok (.istore 8, 2) := by decide +kernel
theorem dX12_meltOne_40 : decode cX12_meltOne 40 = .ok (.aload_n 0, 1) := by decide +kernel
theorem dX12_meltOne_41 : decode cX12_meltOne 41 = .ok (.getfield 17, 3) := by decide +kernel
theorem dX12_meltOne_44 : decode cX12_meltOne 44 = .ok (.iload 4, 2) := by decide +kernel
theorem dX12_meltOne_46 : decode cX12_meltOne 46 = .ok (.iaload, 1) := by decide +kernel
theorem dX12_meltOne_47 : decode cX12_meltOne 47 = .ok (.istore 9, 2) := by decide +kernel
theorem dX12_meltOne_49 : decode cX12_meltOne 49 = .ok (.iload_n 2, 1) := by decide +kernel
theorem dX12_meltOne_50 : decode cX12_meltOne 50 = .ok (.istore 10, 2) := by decide +kernel
theorem dX12_meltOne_80 : decode cX12_meltOne 80 = .ok (.aload_n 0, 1) := by decide +kernel
theorem dX12_meltOne_81 : decode cX12_meltOne 81 = .ok (.iconst 0, 1) := by decide +kernel
theorem dX12_meltOne_82 : decode cX12_meltOne 82 = .ok (.putfield 509, 3) := by decide +kernel
theorem dX12_meltOne_85 : decode cX12_meltOne 85 = .ok (.aload_n 0, 1) := by decide +kernel
theorem dX12_meltOne_86 : decode cX12_meltOne 86 = .ok (.bipush 14, 2) := by decide +kernel
theorem dX12_meltOne_88 : decode cX12_meltOne 88 = .ok (.iload 5, 2) := by decide +kernel
theorem dX12_meltOne_90 : decode cX12_meltOne 90 = .ok (.iconst 0, 1) := by decide +kernel
theorem dX12_meltOne_91 : decode cX12_meltOne 91 = .ok (.iconst 0, 1) := by decide +kernel
theorem dX12_meltOne_92 : decode cX12_meltOne 92 = .ok (.iconst 0, 1) := by decide +kernel
theorem dX12_meltOne_93 : decode cX12_meltOne 93 = .ok (.invokevirtual 515, 3) := by decide +kernel
theorem dX12_meltOne_96 : decode cX12_meltOne 96 = .ok (.iconst 0, 1) := by decide +kernel
theorem dX12_meltOne_97 : decode cX12_meltOne 97 = .ok (.istore 11, 2) := by decide +kernel
theorem dX12_meltOne_251 : decode cX12_meltOne 251 = .ok (.iconst 0, 1) := by decide +kernel
theorem dX12_meltOne_252 : decode cX12_meltOne 252 = .ok (.istore 11, 2) := by decide +kernel
theorem dX12_meltOne_301 : decode cX12_meltOne 301 = .ok (.iconst 0, 1) := by decide +kernel
theorem dX12_meltOne_302 : decode cX12_meltOne 302 = .ok (.istore 11, 2) := by decide +kernel
theorem dX12_meltOne_342 : decode cX12_meltOne 342 = .ok (.aload_n 0, 1) := by decide +kernel
theorem dX12_meltOne_343 : decode cX12_meltOne 343 = .ok (.bipush 13, 2) := by decide +kernel
theorem dX12_meltOne_345 : decode cX12_meltOne 345 = .ok (.iload 8, 2) := by decide +kernel
theorem dX12_meltOne_347 : decode cX12_meltOne 347 = .ok (.iconst 0, 1) := by decide +kernel
theorem dX12_meltOne_348 : decode cX12_meltOne 348 = .ok (.iconst 0, 1) := by decide +kernel
theorem dX12_meltOne_349 : decode cX12_meltOne 349 = .ok (.iconst 0, 1) := by decide +kernel
theorem dX12_meltOne_350 : decode cX12_meltOne 350 = .ok (.invokevirtual 515, 3) := by decide +kernel
theorem dX12_meltOne_353 : decode cX12_meltOne 353 = .ok (.aload_n 0, 1) := by decide +kernel
theorem dX12_meltOne_354 : decode cX12_meltOne 354 = .ok (.bipush 15, 2) := by decide +kernel
theorem dX12_meltOne_356 : decode cX12_meltOne 356 = .ok (.iload 5, 2) := by decide +kernel
theorem dX12_meltOne_358 : decode cX12_meltOne 358 = .ok (.iconst 0, 1) := by decide +kernel
theorem dX12_meltOne_359 : decode cX12_meltOne 359 = .ok (.iconst 0, 1) := by decide +kernel
theorem dX12_meltOne_360 : decode cX12_meltOne 360 = .ok (.iconst 0, 1) := by decide +kernel
theorem dX12_meltOne_361 : decode cX12_meltOne 361 = .ok (.invokevirtual 515, 3) := by decide +kernel
theorem dX12_meltOne_364 : decode cX12_meltOne 364 = .ok (.iconst 0, 1) := by decide +kernel
theorem dX12_meltOne_365 : decode cX12_meltOne 365 = .ok (.istore 11, 2) := by decide +kernel
theorem dX12_meltOne_550 : decode cX12_meltOne 550 = .ok (.aload_n 0, 1) := by decide +kernel
theorem dX12_meltOne_551 : decode cX12_meltOne 551 = .ok (.getfield 44, 3) := by decide +kernel
theorem dX12_meltOne_554 : decode cX12_meltOne 554 = .ok (.iload_n 1, 1) := by decide +kernel
theorem dX12_meltOne_555 : decode cX12_meltOne 555 = .ok (.dup2, 1) := by decide +kernel
theorem dX12_meltOne_556 : decode cX12_meltOne 556 = .ok (.iaload, 1) := by decide +kernel
theorem dX12_meltOne_557 : decode cX12_meltOne 557 = .ok (.aload_n 0, 1) := by decide +kernel
theorem dX12_meltOne_558 : decode cX12_meltOne 558 = .ok (.getfield 44, 3) := by decide +kernel
theorem dX12_meltOne_561 : decode cX12_meltOne 561 = .ok (.iload_n 3, 1) := by decide +kernel
theorem dX12_meltOne_562 : decode cX12_meltOne 562 = .ok (.iaload, 1) := by decide +kernel
theorem dX12_meltOne_563 : decode cX12_meltOne 563 = .ok (.iadd, 1) := by decide +kernel
theorem dX12_meltOne_564 : decode cX12_meltOne 564 = .ok (.iastore, 1) := by decide +kernel
theorem dX12_meltOne_565 : decode cX12_meltOne 565 = .ok (.aload_n 0, 1) := by decide +kernel
theorem dX12_meltOne_566 : decode cX12_meltOne 566 = .ok (.getfield 32, 3) := by decide +kernel
theorem dX12_meltOne_569 : decode cX12_meltOne 569 = .ok (.iload_n 1, 1) := by decide +kernel
theorem dX12_meltOne_570 : decode cX12_meltOne 570 = .ok (.iaload, 1) := by decide +kernel
theorem dX12_meltOne_571 : decode cX12_meltOne 571 = .ok (.iconst 1, 1) := by decide +kernel
theorem dX12_meltOne_572 : decode cX12_meltOne 572 = .ok (.isub, 1) := by decide +kernel
theorem dX12_meltOne_573 : decode cX12_meltOne 573 = .ok (.istore 11, 2) := by decide +kernel
theorem dX12_meltOne_612 : decode cX12_meltOne 612 = .ok (.iconst 0, 1) := by decide +kernel
theorem dX12_meltOne_613 : decode cX12_meltOne 613 = .ok (.istore 11, 2) := by decide +kernel
theorem dX12_meltOne_649 : decode cX12_meltOne 649 = .ok (.aload_n 0, 1) := by decide +kernel
theorem dX12_meltOne_650 : decode cX12_meltOne 650 = .ok (.getfield 32, 3) := by decide +kernel
theorem dX12_meltOne_653 : decode cX12_meltOne 653 = .ok (.iload_n 1, 1) := by decide +kernel
theorem dX12_meltOne_654 : decode cX12_meltOne 654 = .ok (.dup2, 1) := by decide +kernel
theorem dX12_meltOne_655 : decode cX12_meltOne 655 = .ok (.iaload, 1) := by decide +kernel
theorem dX12_meltOne_656 : decode cX12_meltOne 656 = .ok (.aload_n 0, 1) := by decide +kernel
theorem dX12_meltOne_657 : decode cX12_meltOne 657 = .ok (.getfield 509, 3) := by decide +kernel
theorem dX12_meltOne_660 : decode cX12_meltOne 660 = .ok (.iconst 1, 1) := by decide +kernel
theorem dX12_meltOne_661 : decode cX12_meltOne 661 = .ok (.isub, 1) := by decide +kernel
theorem dX12_meltOne_662 : decode cX12_meltOne 662 = .ok (.iadd, 1) := by decide +kernel
theorem dX12_meltOne_663 : decode cX12_meltOne 663 = .ok (.iastore, 1) := by decide +kernel
theorem dX12_meltOne_664 : decode cX12_meltOne 664 = .ok (.iload_n 2, 1) := by decide +kernel
theorem dX12_meltOne_665 : decode cX12_meltOne 665 = .ok (.aload_n 0, 1) := by decide +kernel
theorem dX12_meltOne_666 : decode cX12_meltOne 666 = .ok (.getfield 509, 3) := by decide +kernel
theorem dX12_meltOne_669 : decode cX12_meltOne 669 = .ok (.iadd, 1) := by decide +kernel
theorem dX12_meltOne_670 : decode cX12_meltOne 670 = .ok (.ireturn, 1) := by decide +kernel
set_option maxHeartbeats 2000000 in
set_option maxRecDepth 20000 in
theorem c_X12_meltOne (d : Nat) {b : Nat} {σ : MS} {r : Int} {k : Int} {q : Int} {B : Int} {m : Int} (hR : RG σ) (hrq : (0 ≤ r ∧ r < 6) ∧ (0 ≤ q ∧ q < 6) ∧ q ≠ r) (hit : ITM σ) (hpar : PAR σ) (hnam : NAM σ) (hk : 0 ≤ k ∧ k < σ.2.1 9 r ∧ σ.2.1 9 r ≤ 200 ∧ 1 ≤ σ.2.1 9 q ∧ σ.2.1 9 q ≤ 200) (hok : OKS σ (σ.2.1 14 r) r) (hokq : OKS σ (σ.2.1 14 q) q) (hof : OKF σ r) (hofq : OKF σ q) (hf0q : FR0 σ q) (hcd : CODE σ r) (hcdq : CODE σ q) (hlex : LEX σ r) (hlexq : LEX σ q) (hlm : LBM σ r) (hlmq : LBM σ q) (hfi : FRI σ r) (hfiq : FRI σ q) (hnc : ∀ j, 0 ≤ j → j < σ.2.1 9 q → ¬ σ.2.1 3 (220 * q + j) = 10) (h10 : σ.2.1 3 (220 * r + k) = 10) (hRN : RGN σ r B (σ.2.1 14 r)) (hRI : RGI σ r B (σ.2.1 9 r)) (hrn : RGN σ q m (σ.2.1 14 q)) (hri : RGI σ q m (σ.2.1 9 q)) (hBm : 0 ≤ B ∧ 0 ≤ m ∧ B + m ≤ 100) (hF12 : σ.2.1 14 r + σ.2.1 14 q ≤ 12) (hbl : BO 59 σ) (hlv : ∀ g, 0 ≤ g → g < 192 → σ.2.1 59 g = 1 → g < m) (hgr : σ.2.1 9 r + 2 + σ.2.1 11 q + σ.2.1 12 q + σ.2.1 9 q + cnt (lcf σ q) 192 + cnt (rcf σ q) (σ.2.1 9 q).toNat ≤ 200) : Tm (d + 6) m_X12_meltOne 0 b σ [(0, .ref b), (1, .int (iI r)), (2, .int (iI k)), (3, .int (iI q))] [] (fun ro σ2 => ∃ v : Int, ro = some (.int (iI v)) ∧ (Fr [62] [3, 4, 5, 6, 7, 8, 9, 14, 15, 16, 17, 18] [] σ σ2) ∧ (RG σ2) ∧ (CODE σ2 r) ∧ (LEX σ2 r) ∧ (LBM σ2 r) ∧ (OKS σ2 (σ2.2.1 14 r) r) ∧ (XR r σ σ2) ∧ (OKF σ2 r) ∧ (FRI σ2 r) ∧ (XF r (σ.2.1 14 r) σ σ2) ∧ ((σ2.2.1 14 r = σ.2.1 14 r + σ.2.1 14 q ∧ 1 ≤ σ2.2.1 9 r) ∧ σ2.2.1 9 r ≤ 200) ∧ (k < v ∧ σ2.2.1 9 r - v = σ.2.1 9 r - k - 1)) := by
  have q1 := hit r (by omega) (by omega)
  obtain ⟨frr, lfr, hcr⟩ := hcd
  obtain ⟨frq, lfq, hcq⟩ := hcdq
  obtain ⟨hjr, j0, hj0, hj1, hj2, hj3, hj4⟩ := hcr.2.2.2.2 k (by omega) (by omega) h10
  simp only [iK, iO] at hj2 hj3 hj4
  have hfr := hcr.2.1 k (by omega) (by omega)
  have q14 := hof.1
  have q14q := hofq.1
  have hto := hok.dest (k := k) (by omega) (by omega) (Or.inr h10)
  have mpa := hpar q (by omega) (by omega)
  have mna := hnam q (by omega) (by omega)
  refine tm_aload_n dX12_meltOne_0 rfl 0 rfl ?_
  refine tm_iload_n dX12_meltOne_1 rfl 1 rfl ?_
  refine tm_iload_n dX12_meltOne_2 rfl 2 rfl ?_
  refine tm_callV (M := m_X12_meltOne) (pc := 3) (ix := 203) (M' := m_X12_at) (As := [.int (iI r), .int (iI k)]) (rest := []) dX12_meltOne_3 ok_X12_at im_X12_at se_X12_at ml12_203 np_X12_at rfl rfl (Nat.le_of_ble_eq_true rfl) (Nat.le_of_ble_eq_true rfl) rfl (c_X12_at (d + 4) (σ := σ) (x := r) (k := k) ) (fun r1 σ2 hp => ?_)
  obtain ⟨v3, rfl, rfl, f4⟩ := hp
  subst f4
  show Tm _ _ 6 b σ [(0, .ref b), (1, .int (iI r)), (2, .int (iI k)), (3, .int (iI q))] [.int (iI (220 * r + k))] _
  refine tm_istore (L' := [(4, .int (iI (220 * r + k))), (0, .ref b), (1, .int (iI r)), (2, .int (iI k)), (3, .int (iI q))]) dX12_meltOne_6 (by decide) rfl ?_
  refine tm_aload_n dX12_meltOne_8 rfl 1 rfl ?_
  refine tm_get (k := 14) (v := .ref (b + 1 + 11)) lay_12 dX12_meltOne_9 (by decide) fl12_44 rfl ?_
  refine tm_iload_n dX12_meltOne_12 rfl 2 rfl ?_
  refine tm_iald (z := r) (v := σ.2.1 14 r) dX12_meltOne_13 (show mT[11]? = some (14, 0, 6) from rfl) (by omega) (by omega) (by decide) (rfl) ?_
  have g5 := RG.a hR 14 (r)
  refine tm_istore (L' := [(5, .int (iI (σ.2.1 14 r))), (4, .int (iI (220 * r + k))), (0, .ref b), (1, .int (iI r)), (2, .int (iI k)), (3, .int (iI q))]) dX12_meltOne_14 (by decide) rfl ?_
  refine tm_aload_n dX12_meltOne_16 rfl 2 rfl ?_
  refine tm_iload_n dX12_meltOne_17 rfl 3 rfl ?_
  refine tm_callV (M := m_X12_meltOne) (pc := 18) (ix := 410) (M' := m_X12_registers) (As := [.int (iI r)]) (rest := []) dX12_meltOne_18 ok_X12_registers im_X12_registers se_X12_registers ml12_410 np_X12_registers rfl rfl (Nat.le_of_ble_eq_true rfl) (Nat.le_of_ble_eq_true rfl) rfl (c2_X12_registers (d + 1) (σ := σ) (r := r) (F := (σ.2.1 14 r)) (B := B) (by omega) hR hof hnam hit hpar hok hRN hRI (by omega)) (fun r6 σ7 hp => ?_)
  obtain ⟨v8, rfl, rfl, f9⟩ := hp
  show Tm _ _ 21 b σ [(5, .int (iI (σ.2.1 14 r))), (4, .int (iI (220 * r + k))), (0, .ref b), (1, .int (iI r)), (2, .int (iI k)), (3, .int (iI q))] [.int (iI v8)] _
  refine tm_istore (L' := [(6, .int (iI v8)), (5, .int (iI (σ.2.1 14 r))), (4, .int (iI (220 * r + k))), (0, .ref b), (1, .int (iI r)), (2, .int (iI k)), (3, .int (iI q))]) dX12_meltOne_21 (by decide) rfl ?_
  refine tm_aload_n dX12_meltOne_23 rfl 3 rfl ?_
  refine tm_iload_n dX12_meltOne_24 rfl 4 rfl ?_
  refine tm_callV (M := m_X12_meltOne) (pc := 25) (ix := 512) (M' := m_X12_labels) (As := [.int (iI r)]) (rest := []) dX12_meltOne_25 ok_X12_labels im_X12_labels se_X12_labels ml12_512 np_X12_labels rfl rfl (Nat.le_of_ble_eq_true rfl) (Nat.le_of_ble_eq_true rfl) rfl (c2_X12_labels (d + 3) (σ := σ) (r := r) (by omega) hR hit hok.jmp hlm (by omega)) (fun r10 σ11 hp => ?_)
  obtain ⟨v12, rfl, rfl, f13, f14⟩ := hp
  show Tm _ _ 28 b σ [(6, .int (iI v8)), (5, .int (iI (σ.2.1 14 r))), (4, .int (iI (220 * r + k))), (0, .ref b), (1, .int (iI r)), (2, .int (iI k)), (3, .int (iI q))] [.int (iI v12)] _
  have hv1 := f14
  refine tm_istore (L' := [(7, .int (iI v12)), (6, .int (iI v8)), (5, .int (iI (σ.2.1 14 r))), (4, .int (iI (220 * r + k))), (0, .ref b), (1, .int (iI r)), (2, .int (iI k)), (3, .int (iI q))]) dX12_meltOne_28 (by decide) rfl ?_
  refine tm_iload dX12_meltOne_30 0 rfl ?_
  refine tm_aload_n dX12_meltOne_32 rfl 4 rfl ?_
  refine tm_iload_n dX12_meltOne_33 rfl 7 rfl ?_
  refine tm_callV (M := m_X12_meltOne) (pc := 34) (ix := 512) (M' := m_X12_labels) (As := [.int (iI q)]) (rest := [.int (iI v12)]) dX12_meltOne_34 ok_X12_labels im_X12_labels se_X12_labels ml12_512 np_X12_labels rfl rfl (Nat.le_of_ble_eq_true rfl) (Nat.le_of_ble_eq_true rfl) rfl (c2_X12_labels (d + 3) (σ := σ) (r := q) (by omega) hR hit hokq.jmp hlmq (by omega)) (fun r15 σ16 hp => ?_)
  obtain ⟨v17, rfl, rfl, f18, f19⟩ := hp
  show Tm _ _ 37 b σ [(7, .int (iI v12)), (6, .int (iI v8)), (5, .int (iI (σ.2.1 14 r))), (4, .int (iI (220 * r + k))), (0, .ref b), (1, .int (iI r)), (2, .int (iI k)), (3, .int (iI q))] [.int (iI v17), .int (iI v12)] _
  have hv2 := f19
  refine tm_iadd dX12_meltOne_37 ?_
  refine tm_istore (L' := [(8, .int (iI (v12 + v17))), (7, .int (iI v12)), (6, .int (iI v8)), (5, .int (iI (σ.2.1 14 r))), (4, .int (iI (220 * r + k))), (0, .ref b), (1, .int (iI r)), (2, .int (iI k)), (3, .int (iI q))]) dX12_meltOne_38 (by decide) rfl ?_
  refine tm_aload_n dX12_meltOne_40 rfl 5 rfl ?_
  refine tm_get (k := 4) (v := .ref (b + 1 + 2)) lay_12 dX12_meltOne_41 (by decide) fl12_17 rfl ?_
  refine tm_iload dX12_meltOne_44 4 rfl ?_
  refine tm_iald (z := 220 * r + k) (v := σ.2.1 4 (220 * r + k)) dX12_meltOne_46 (show mT[2]? = some (4, 0, 2860) from rfl) (by omega) (by omega) (by decide) (rfl) ?_
  have g20 := RG.a hR 4 (220 * r + k)
  refine tm_istore (L' := [(9, .int (iI (σ.2.1 4 (220 * r + k)))), (8, .int (iI (v12 + v17))), (7, .int (iI v12)), (6, .int (iI v8)), (5, .int (iI (σ.2.1 14 r))), (4, .int (iI (220 * r + k))), (0, .ref b), (1, .int (iI r)), (2, .int (iI k)), (3, .int (iI q))]) dX12_meltOne_47 (by decide) rfl ?_
  refine tm_iload_n dX12_meltOne_49 rfl 8 rfl ?_
  refine tm_istore (L' := [(10, .int (iI k)), (9, .int (iI (σ.2.1 4 (220 * r + k)))), (8, .int (iI (v12 + v17))), (7, .int (iI v12)), (6, .int (iI v8)), (5, .int (iI (σ.2.1 14 r))), (4, .int (iI (220 * r + k))), (0, .ref b), (1, .int (iI r)), (2, .int (iI k)), (3, .int (iI q))]) dX12_meltOne_50 (by decide) rfl ?_
  refine tm_sub [0, 1, 2, 3, 4, 5, 6, 7, 8, 9, 10] rfl (l_mo1 (d + 4) (σ := σ) (r := r) (k := k) (q := q) (f := σ.2.1 14 r) (base := v8) (lb := v12) (out := v12 + v17) (to := σ.2.1 4 (220 * r + k)) (j0 := j0) (by omega) hR (by omega) ⟨hj0, hj1, hj2⟩ h10 hj4 (fun mk25 f24 => ?_) _ (k) (by omega) rfl)
  show Tm _ _ 80 b σ [(10, .int (iI mk25)), (9, .int (iI (σ.2.1 4 (220 * r + k)))), (8, .int (iI (v12 + v17))), (7, .int (iI v12)), (6, .int (iI v8)), (5, .int (iI (σ.2.1 14 r))), (4, .int (iI (220 * r + k))), (0, .ref b), (1, .int (iI r)), (2, .int (iI k)), (3, .int (iI q))] [] _
  have hmk := f24
  have hmo := mo_mk (ρ := σ) (r := r) (k := k) (q := q) (F := σ.2.1 14 r) (base := v8) (lb := v12) (out := v12 + v17) (to := σ.2.1 4 (220 * r + k)) (g0 := frr k) (m := m) (v2 := v17) (by omega) hcq hlexq hokq rfl hv2 hnc hri hrn (hok k (by omega) (by omega)) hf0q hofq hpar hnam
  refine tm_aload_n dX12_meltOne_80 rfl 7 rfl ?_
  refine tm_iconst dX12_meltOne_81 ?_
  refine tm_putS (k := 62) (v := 0) lay_12 dX12_meltOne_82 (by decide) fl12_509 rfl (tyX12_ok 62 (by decide)) rfl rfl rfl ?_
  have z62 : (sS 62 0 σ).1 62 = 0 := rs_eq
  refine tm_aload_n dX12_meltOne_85 rfl 7 rfl ?_
  refine tm_bipush dX12_meltOne_86 (by decide) ?_
  refine tm_iload dX12_meltOne_88 5 rfl ?_
  refine tm_iconst dX12_meltOne_90 ?_
  refine tm_iconst dX12_meltOne_91 ?_
  refine tm_iconst dX12_meltOne_92 ?_
  refine tm_callV (M := m_X12_meltOne) (pc := 93) (ix := 515) (M' := m_X12_add) (As := [.int (iI 14), .int (iI (σ.2.1 14 r)), .int (iI 0), .int (iI 0), .int (iI 0)]) (rest := []) dX12_meltOne_93 ok_X12_add im_X12_add se_X12_add ml12_515 np_X12_add rfl rfl (Nat.le_of_ble_eq_true rfl) (Nat.le_of_ble_eq_true rfl) rfl (c_X12_add (d + 3) (σ := (sS 62 0 σ)) (k := 14) (e := σ.2.1 14 r) (o := 0) (ak := 0) (a := 0) (hR.S (by omega)) (by omega)) (fun r26 σ27 hp => ?_)
  obtain ⟨rfl, f29⟩ := hp
  subst f29
  show Tm _ _ 96 b (fAdd (14) (σ.2.1 14 r) (0) (0) (0) (sS 62 0 σ)) [(10, .int (iI mk25)), (9, .int (iI (σ.2.1 4 (220 * r + k)))), (8, .int (iI (v12 + v17))), (7, .int (iI v12)), (6, .int (iI v8)), (5, .int (iI (σ.2.1 14 r))), (4, .int (iI (220 * r + k))), (0, .ref b), (1, .int (iI r)), (2, .int (iI k)), (3, .int (iI q))] [] _
  have hms0 := msg_start hmo.2.1 (by omega) (fun y => IEQ.fr (show Fr [62] [] [] σ (sS 62 (0) σ) from (Fr.rfl.S (by decide))) (by decide)) rfl rs_eq
  have n62 : (fAdd (14) (σ.2.1 14 r) (0) (0) (0) (sS 62 0 σ)).1 62 = 1 := fAdd_n.trans (by rw [show (sS 62 (0) σ).1 62 = 0 from rs_eq]; rfl)
  refine tm_iconst dX12_meltOne_96 ?_
  refine tm_istore (L' := [(11, .int (iI 0)), (10, .int (iI mk25)), (9, .int (iI (σ.2.1 4 (220 * r + k)))), (8, .int (iI (v12 + v17))), (7, .int (iI v12)), (6, .int (iI v8)), (5, .int (iI (σ.2.1 14 r))), (4, .int (iI (220 * r + k))), (0, .ref b), (1, .int (iI r)), (2, .int (iI k)), (3, .int (iI q))]) dX12_meltOne_97 (by decide) rfl ?_
  refine tm_sub [0, 1, 2, 3, 4, 5, 6, 7, 8, 9, 10, 11] rfl (l_mo2 (d + 3) (σ0 := (fAdd (14) (σ.2.1 14 r) (0) (0) (0) (sS 62 0 σ))) (r := r) (k := k) (q := q) (f := σ.2.1 14 r) (base := v8) (lb := v12) (out := v12 + v17) (to := σ.2.1 4 (220 * r + k)) (mk := mk25) (ρ := σ) (FI := (FIx σ r q (σ.2.1 14 r) (frr k))) (lf := (lfx (σ.2.1 14 r) v12 (v12 + v17) lfq)) (frq := frq) (lfq := lfq) (g0 := (frr k)) (m := m) hmo ((hR.S (by omega)).add (by omega) (by omega) (by omega) (by omega) (by omega) (by omega)) (show Fr [62] [3, 4, 5, 6, 7, 8] [] σ (fAdd (14) (σ.2.1 14 r) (0) (0) (0) (sS 62 0 σ)) from ((Fr.rfl.S (by decide)).trans (Fr.sub fAdd_fr (by decide) (by decide) (by decide)))) (fun n136 σ37 F32 R33 f34 f35 => ?_) _ (0) (fAdd (14) (σ.2.1 14 r) (0) (0) (0) (sS 62 0 σ)) Fr.rfl ((hR.S (by omega)).add (by omega) (by omega) (by omega) (by omega) (by omega) (by omega)) (by rw [((show Fr [62] [3, 4, 5, 6, 7, 8] [] σ (fAdd (14) (σ.2.1 14 r) (0) (0) (0) (sS 62 0 σ)) from ((Fr.rfl.S (by decide)).trans (Fr.sub fAdd_fr (by decide) (by decide) (by decide))))).2.1 12 (by decide)]; omega) (by rw [((show Fr [62] [3, 4, 5, 6, 7, 8] [] σ (fAdd (14) (σ.2.1 14 r) (0) (0) (0) (sS 62 0 σ)) from ((Fr.rfl.S (by decide)).trans (Fr.sub fAdd_fr (by decide) (by decide) (by decide))))).2.1 11 (by decide)]; omega) hms0 rfl)
  show Tm _ _ 251 b σ37 [(10, .int (iI mk25)), (9, .int (iI (σ.2.1 4 (220 * r + k)))), (8, .int (iI (v12 + v17))), (7, .int (iI v12)), (6, .int (iI v8)), (5, .int (iI (σ.2.1 14 r))), (4, .int (iI (220 * r + k))), (0, .ref b), (1, .int (iI r)), (2, .int (iI k)), (3, .int (iI q))] [] _
  have hc2 := f34
  have hms2 := f35
  have hl0 := cnt_up (lcf_0 σ q) (show 0 ≤ 192 by decide)
  have hr0 := cnt_up (rcf_0 σ q) (show 0 ≤ (σ.2.1 9 q).toNat by omega)
  have hz1 : cnt (lcf σ q) 0 = 0 := rfl
  have hz2 : cnt (rcf σ q) 0 = 0 := rfl
  refine tm_iconst dX12_meltOne_251 ?_
  refine tm_istore (L' := [(11, .int (iI 0)), (10, .int (iI mk25)), (9, .int (iI (σ.2.1 4 (220 * r + k)))), (8, .int (iI (v12 + v17))), (7, .int (iI v12)), (6, .int (iI v8)), (5, .int (iI (σ.2.1 14 r))), (4, .int (iI (220 * r + k))), (0, .ref b), (1, .int (iI r)), (2, .int (iI k)), (3, .int (iI q))]) dX12_meltOne_252 (by decide) rfl ?_
  refine tm_sub [0, 1, 2, 3, 4, 5, 6, 7, 8, 9, 10, 11] rfl (l_mo3 (d + 3) (σ0 := σ37) (r := r) (k := k) (q := q) (f := σ.2.1 14 r) (base := v8) (lb := v12) (out := v12 + v17) (to := σ.2.1 4 (220 * r + k)) (mk := mk25) (ρ := σ) (FI := (FIx σ r q (σ.2.1 14 r) (frr k))) (lf := (lfx (σ.2.1 14 r) v12 (v12 + v17) lfq)) (frq := frq) (lfq := lfq) (g0 := (frr k)) (m := m) (A1 := (σ37.1 62)) hmo R33 (show Fr [62] [3, 4, 5, 6, 7, 8] [] σ σ37 from (((Fr.rfl.S (by decide)).trans (Fr.sub fAdd_fr (by decide) (by decide) (by decide))).trans (Fr.sub F32 (by decide) (by decide) (by decide)))) hbl hlv (by omega) (fun g44 σ45 F40 R41 f42 f43 => ?_) _ (0) σ37 Fr.rfl R33 (by omega) (by rw [show (0 : Int).toNat = 0 from rfl, hz1]; omega) hms2 rfl)
  show Tm _ _ 301 b σ45 [(10, .int (iI mk25)), (9, .int (iI (σ.2.1 4 (220 * r + k)))), (8, .int (iI (v12 + v17))), (7, .int (iI v12)), (6, .int (iI v8)), (5, .int (iI (σ.2.1 14 r))), (4, .int (iI (220 * r + k))), (0, .ref b), (1, .int (iI r)), (2, .int (iI k)), (3, .int (iI q))] [] _
  have hc3 := f42
  have hms3 := f43
  have hgz : Gq σ q (σ.2.1 14 r) frq 0 = σ.2.1 14 r := by unfold Gq; rw [if_pos (by omega), hcq.1]; omega
  refine tm_iconst dX12_meltOne_301 ?_
  refine tm_istore (L' := [(11, .int (iI 0)), (10, .int (iI mk25)), (9, .int (iI (σ.2.1 4 (220 * r + k)))), (8, .int (iI (v12 + v17))), (7, .int (iI v12)), (6, .int (iI v8)), (5, .int (iI (σ.2.1 14 r))), (4, .int (iI (220 * r + k))), (0, .ref b), (1, .int (iI r)), (2, .int (iI k)), (3, .int (iI q))]) dX12_meltOne_302 (by decide) rfl ?_
  refine tm_sub [0, 1, 2, 3, 4, 5, 6, 7, 8, 9, 10, 11] rfl (l_mo4 (d + 2) (σ0 := σ45) (r := r) (k := k) (q := q) (f := σ.2.1 14 r) (base := v8) (lb := v12) (out := v12 + v17) (to := σ.2.1 4 (220 * r + k)) (mk := mk25) (ρ := σ) (FI := (FIx σ r q (σ.2.1 14 r) (frr k))) (lf := (lfx (σ.2.1 14 r) v12 (v12 + v17) lfq)) (frq := frq) (lfq := lfq) (g0 := (frr k)) (m := m) (A2 := (σ45.1 62)) hmo R41 (show Fr [62] [3, 4, 5, 6, 7, 8] [] σ σ45 from ((((Fr.rfl.S (by decide)).trans (Fr.sub fAdd_fr (by decide) (by decide) (by decide))).trans (Fr.sub F32 (by decide) (by decide) (by decide))).trans (Fr.sub F40 (by decide) (by decide) (by decide)))) (by omega) (fun i52 σ53 F48 R49 f50 f51 => ?_) _ (0) σ45 Fr.rfl R41 (by omega) (by rw [show (0 : Int).toNat = 0 from rfl, hz2]; omega) (by rw [hgz]; exact hms3) rfl)
  show Tm _ _ 342 b σ53 [(10, .int (iI mk25)), (9, .int (iI (σ.2.1 4 (220 * r + k)))), (8, .int (iI (v12 + v17))), (7, .int (iI v12)), (6, .int (iI v8)), (5, .int (iI (σ.2.1 14 r))), (4, .int (iI (220 * r + k))), (0, .ref b), (1, .int (iI r)), (2, .int (iI k)), (3, .int (iI q))] [] _
  have hc4 := f50
  have hms4 := f51
  have hend := msg_end (a := 0) hmo.2.1 hms4 (by omega) (by omega) (by omega)
  have f14 := (show Fr [62] [3, 4, 5, 6, 7, 8] [] σ σ53 from (((((Fr.rfl.S (by decide)).trans (Fr.sub fAdd_fr (by decide) (by decide) (by decide))).trans (Fr.sub F32 (by decide) (by decide) (by decide))).trans (Fr.sub F40 (by decide) (by decide) (by decide))).trans (Fr.sub F48 (by decide) (by decide) (by decide))))
  refine tm_aload_n dX12_meltOne_342 rfl 7 rfl ?_
  refine tm_bipush dX12_meltOne_343 (by decide) ?_
  refine tm_iload dX12_meltOne_345 2 rfl ?_
  refine tm_iconst dX12_meltOne_347 ?_
  refine tm_iconst dX12_meltOne_348 ?_
  refine tm_iconst dX12_meltOne_349 ?_
  refine tm_callV (M := m_X12_meltOne) (pc := 350) (ix := 515) (M' := m_X12_add) (As := [.int (iI 13), .int (iI (v12 + v17)), .int (iI 0), .int (iI 0), .int (iI 0)]) (rest := []) dX12_meltOne_350 ok_X12_add im_X12_add se_X12_add ml12_515 np_X12_add rfl rfl (Nat.le_of_ble_eq_true rfl) (Nat.le_of_ble_eq_true rfl) rfl (c_X12_add (d + 3) (σ := σ53) (k := 13) (e := v12 + v17) (o := 0) (ak := 0) (a := 0) R49 (by omega)) (fun r54 σ55 hp => ?_)
  obtain ⟨rfl, f57⟩ := hp
  subst f57
  show Tm _ _ 353 b (fAdd (13) (v12 + v17) (0) (0) (0) σ53) [(10, .int (iI mk25)), (9, .int (iI (σ.2.1 4 (220 * r + k)))), (8, .int (iI (v12 + v17))), (7, .int (iI v12)), (6, .int (iI v8)), (5, .int (iI (σ.2.1 14 r))), (4, .int (iI (220 * r + k))), (0, .ref b), (1, .int (iI r)), (2, .int (iI k)), (3, .int (iI q))] [] _
  have n63 : (fAdd (13) (v12 + v17) (0) (0) (0) σ53).1 62 = σ53.1 62 + 1 := fAdd_n
  refine tm_aload_n dX12_meltOne_353 rfl 7 rfl ?_
  refine tm_bipush dX12_meltOne_354 (by decide) ?_
  refine tm_iload dX12_meltOne_356 5 rfl ?_
  refine tm_iconst dX12_meltOne_358 ?_
  refine tm_iconst dX12_meltOne_359 ?_
  refine tm_iconst dX12_meltOne_360 ?_
  refine tm_callV (M := m_X12_meltOne) (pc := 361) (ix := 515) (M' := m_X12_add) (As := [.int (iI 15), .int (iI (σ.2.1 14 r)), .int (iI 0), .int (iI 0), .int (iI 0)]) (rest := []) dX12_meltOne_361 ok_X12_add im_X12_add se_X12_add ml12_515 np_X12_add rfl rfl (Nat.le_of_ble_eq_true rfl) (Nat.le_of_ble_eq_true rfl) rfl (c_X12_add (d + 3) (σ := (fAdd (13) (v12 + v17) (0) (0) (0) σ53)) (k := 15) (e := σ.2.1 14 r) (o := 0) (ak := 0) (a := 0) (R49.add (by omega) (by omega) (by omega) (by omega) (by omega) (by omega)) (by omega)) (fun r58 σ59 hp => ?_)
  obtain ⟨rfl, f61⟩ := hp
  subst f61
  show Tm _ _ 364 b (fAdd (15) (σ.2.1 14 r) (0) (0) (0) (fAdd (13) (v12 + v17) (0) (0) (0) σ53)) [(10, .int (iI mk25)), (9, .int (iI (σ.2.1 4 (220 * r + k)))), (8, .int (iI (v12 + v17))), (7, .int (iI v12)), (6, .int (iI v8)), (5, .int (iI (σ.2.1 14 r))), (4, .int (iI (220 * r + k))), (0, .ref b), (1, .int (iI r)), (2, .int (iI k)), (3, .int (iI q))] [] _
  have f15 : Fr [62] [3, 4, 5, 6, 7, 8] [] σ (fAdd (15) (σ.2.1 14 r) (0) (0) (0) (fAdd (13) (v12 + v17) (0) (0) (0) σ53)) := (f14.trans fAdd_fr).trans fAdd_fr
  have n64 : (fAdd (15) (σ.2.1 14 r) (0) (0) (0) (fAdd (13) (v12 + v17) (0) (0) (0) σ53)).1 62 = σ53.1 62 + 1 + 1 := by rw [fAdd_n, fAdd_n]
  have hmk5 : (fAdd (15) (σ.2.1 14 r) (0) (0) (0) (fAdd (13) (v12 + v17) (0) (0) (0) σ53)).2.1 5 (220 * r + mk25) = frr k := by rw [(hend.1.2.2.2.2.2.1 _ (by omega)).2.2.1, hmk]; exact hj3
  refine tm_iconst dX12_meltOne_364 ?_
  refine tm_istore (L' := [(11, .int (iI 0)), (10, .int (iI mk25)), (9, .int (iI (σ.2.1 4 (220 * r + k)))), (8, .int (iI (v12 + v17))), (7, .int (iI v12)), (6, .int (iI v8)), (5, .int (iI (σ.2.1 14 r))), (4, .int (iI (220 * r + k))), (0, .ref b), (1, .int (iI r)), (2, .int (iI k)), (3, .int (iI q))]) dX12_meltOne_365 (by decide) rfl ?_
  refine tm_sub [0, 1, 2, 3, 4, 5, 6, 7, 8, 9, 10, 11] rfl (l_mo5 (d + 4) (σ0 := (fAdd (15) (σ.2.1 14 r) (0) (0) (0) (fAdd (13) (v12 + v17) (0) (0) (0) σ53))) (r := r) (k := k) (q := q) (f := σ.2.1 14 r) (base := v8) (lb := v12) (out := v12 + v17) (to := σ.2.1 4 (220 * r + k)) (mk := mk25) (ρ := σ) (FI := (FIx σ r q (σ.2.1 14 r) (frr k))) (lf := (lfx (σ.2.1 14 r) v12 (v12 + v17) lfq)) (frq := frq) (lfq := lfq) (g0 := (frr k)) (m := m) hmo ((R49.add (by omega) (by omega) (by omega) (by omega) (by omega) (by omega)).add (by omega) (by omega) (by omega) (by omega) (by omega) (by omega)) f15 ⟨hmk5, by omega, by omega⟩ hfiq (fun j67 σ68 F64 R65 f66 => ?_) _ (0) (fAdd (15) (σ.2.1 14 r) (0) (0) (0) (fAdd (13) (v12 + v17) (0) (0) (0) σ53)) Fr.rfl ((R49.add (by omega) (by omega) (by omega) (by omega) (by omega) (by omega)).add (by omega) (by omega) (by omega) (by omega) (by omega) (by omega)) (by omega) (FRM.start (by rw [f15.2.1 15 (by decide)]) (by rw [f15.2.1 16 (by decide)]) (by rw [f15.2.1 17 (by decide)]) (by rw [f15.2.1 18 (by decide)])) rfl)
  show Tm _ _ 550 b σ68 [(10, .int (iI mk25)), (9, .int (iI (σ.2.1 4 (220 * r + k)))), (8, .int (iI (v12 + v17))), (7, .int (iI v12)), (6, .int (iI v8)), (5, .int (iI (σ.2.1 14 r))), (4, .int (iI (220 * r + k))), (0, .ref b), (1, .int (iI r)), (2, .int (iI k)), (3, .int (iI q))] [] _
  have hfm := f66
  have fm5 := F64
  have s5_14 : σ68.2.1 14 = σ.2.1 14 := by rw [fm5.2.1 14 (by decide), f15.2.1 14 (by decide)]
  have s5_62 : σ68.1 62 = σ53.1 62 + 1 + 1 := by rw [fm5.1 62 (by decide)]; exact n64
  have s5_9 : σ68.2.1 9 r = σ.2.1 9 r := by rw [fm5.2.1 9 (by decide), f15.2.1 9 (by decide)]
  refine tm_aload_n dX12_meltOne_550 rfl 7 rfl ?_
  refine tm_get (k := 14) (v := .ref (b + 1 + 11)) lay_12 dX12_meltOne_551 (by decide) fl12_44 rfl ?_
  refine tm_iload_n dX12_meltOne_554 rfl 8 rfl ?_
  refine tm_dup2 dX12_meltOne_555 rfl rfl ?_
  refine tm_iald (z := r) (v := σ.2.1 14 r) dX12_meltOne_556 (show mT[11]? = some (14, 0, 6) from rfl) (by omega) (by omega) (by decide) (ra_F F64 (by decide) (ra_F fAdd_fr (by decide) (ra_F fAdd_fr (by decide) (ra_F F48 (by decide) (ra_F F40 (by decide) (ra_F F32 (by decide) (ra_F fAdd_fr (by decide) (ra_S (rfl))))))))) ?_
  have g69 := RG.a hR 14 (r)
  refine tm_aload_n dX12_meltOne_557 rfl 7 rfl ?_
  refine tm_get (k := 14) (v := .ref (b + 1 + 11)) lay_12 dX12_meltOne_558 (by decide) fl12_44 rfl ?_
  refine tm_iload_n dX12_meltOne_561 rfl 10 rfl ?_
  refine tm_iald (z := q) (v := σ.2.1 14 q) dX12_meltOne_562 (show mT[11]? = some (14, 0, 6) from rfl) (by omega) (by omega) (by decide) (ra_F F64 (by decide) (ra_F fAdd_fr (by decide) (ra_F fAdd_fr (by decide) (ra_F F48 (by decide) (ra_F F40 (by decide) (ra_F F32 (by decide) (ra_F fAdd_fr (by decide) (ra_S (rfl))))))))) ?_
  have g70 := RG.a hR 14 (q)
  refine tm_iadd dX12_meltOne_563 ?_
  refine tm_iast (z := r) (v := (σ.2.1 14 r) + (σ.2.1 14 q)) dX12_meltOne_564 (show mT[11]? = some (14, 0, 6) from rfl) (by omega) (by omega) (by decide) ?_
  refine tm_aload_n dX12_meltOne_565 rfl 7 rfl ?_
  refine tm_get (k := 9) (v := .ref (b + 1 + 7)) lay_12 dX12_meltOne_566 (by decide) fl12_32 rfl ?_
  refine tm_iload_n dX12_meltOne_569 rfl 8 rfl ?_
  refine tm_iald (z := r) (v := σ.2.1 9 r) dX12_meltOne_570 (show mT[7]? = some (9, 0, 13) from rfl) (by omega) (by omega) (by decide) (ra_o (by decide) (ra_F F64 (by decide) (ra_F fAdd_fr (by decide) (ra_F fAdd_fr (by decide) (ra_F F48 (by decide) (ra_F F40 (by decide) (ra_F F32 (by decide) (ra_F fAdd_fr (by decide) (ra_S (rfl)))))))))) ?_
  have g71 := RG.a hR 9 (r)
  refine tm_iconst dX12_meltOne_571 ?_
  refine tm_isub dX12_meltOne_572 ?_
  refine tm_istore (L' := [(11, .int (iI ((σ.2.1 9 r) - 1))), (10, .int (iI mk25)), (9, .int (iI (σ.2.1 4 (220 * r + k)))), (8, .int (iI (v12 + v17))), (7, .int (iI v12)), (6, .int (iI v8)), (5, .int (iI (σ.2.1 14 r))), (4, .int (iI (220 * r + k))), (0, .ref b), (1, .int (iI r)), (2, .int (iI k)), (3, .int (iI q))]) dX12_meltOne_573 (by decide) rfl ?_
  refine tm_sub [0, 1, 2, 3, 4, 5, 6, 7, 8, 9, 10, 11] rfl (l_mo7 (d + 4) (σ0 := (sA 14 (r) ((σ.2.1 14 r) + (σ.2.1 14 q)) σ68)) (r := r) (k := k) (q := q) (f := σ.2.1 14 r) (base := v8) (lb := v12) (out := v12 + v17) (to := σ.2.1 4 (220 * r + k)) (mk := mk25) (a := (σ53.1 62 + 1 + 1)) (nn := (σ.2.1 9 r)) (R65.A (by omega)) (by omega) ⟨s5_62, by omega, by omega, by omega⟩ (fun i77 σ78 F74 R75 f76 => ?_) _ ((σ.2.1 9 r) - 1) (sA 14 (r) ((σ.2.1 14 r) + (σ.2.1 14 q)) σ68) Fr.rfl (R65.A (by omega)) (by omega) SHU.start rfl)
  show Tm _ _ 612 b σ78 [(10, .int (iI mk25)), (9, .int (iI (σ.2.1 4 (220 * r + k)))), (8, .int (iI (v12 + v17))), (7, .int (iI v12)), (6, .int (iI v8)), (5, .int (iI (σ.2.1 14 r))), (4, .int (iI (220 * r + k))), (0, .ref b), (1, .int (iI r)), (2, .int (iI k)), (3, .int (iI q))] [] _
  have hsu := f76
  have f67 := F74
  have s7_62 : σ78.1 62 = (sA 14 (r) ((σ.2.1 14 r) + (σ.2.1 14 q)) σ68).1 62 := f67.1 62 (by decide)
  refine tm_iconst dX12_meltOne_612 ?_
  refine tm_istore (L' := [(11, .int (iI 0)), (10, .int (iI mk25)), (9, .int (iI (σ.2.1 4 (220 * r + k)))), (8, .int (iI (v12 + v17))), (7, .int (iI v12)), (6, .int (iI v8)), (5, .int (iI (σ.2.1 14 r))), (4, .int (iI (220 * r + k))), (0, .ref b), (1, .int (iI r)), (2, .int (iI k)), (3, .int (iI q))]) dX12_meltOne_613 (by decide) rfl ?_
  refine tm_sub [0, 1, 2, 3, 4, 5, 6, 7, 8, 9, 10, 11] rfl (l_mo8 (d + 4) (σ0 := σ78) (r := r) (k := k) (q := q) (f := σ.2.1 14 r) (base := v8) (lb := v12) (out := v12 + v17) (to := σ.2.1 4 (220 * r + k)) (mk := mk25) (a := (σ53.1 62 + 1 + 1)) R75 (by omega) ⟨s7_62.trans s5_62, by omega, by omega, by omega⟩ (fun i84 σ85 F81 R82 f83 => ?_) _ (0) σ78 Fr.rfl R75 (by omega) CPI.start rfl)
  show Tm _ _ 649 b σ85 [(10, .int (iI mk25)), (9, .int (iI (σ.2.1 4 (220 * r + k)))), (8, .int (iI (v12 + v17))), (7, .int (iI v12)), (6, .int (iI v8)), (5, .int (iI (σ.2.1 14 r))), (4, .int (iI (220 * r + k))), (0, .ref b), (1, .int (iI r)), (2, .int (iI k)), (3, .int (iI q))] [] _
  have hcp := f83
  have f78 := F81
  have s8_62 : σ85.1 62 = σ78.1 62 := f78.1 62 (by decide)
  refine tm_aload_n dX12_meltOne_649 rfl 7 rfl ?_
  refine tm_get (k := 9) (v := .ref (b + 1 + 7)) lay_12 dX12_meltOne_650 (by decide) fl12_32 rfl ?_
  refine tm_iload_n dX12_meltOne_653 rfl 8 rfl ?_
  refine tm_dup2 dX12_meltOne_654 rfl rfl ?_
  refine tm_iald (z := r) (v := σ.2.1 9 r) dX12_meltOne_655 (show mT[7]? = some (9, 0, 13) from rfl) (by omega) (by omega) (by decide) (ra_F F81 (by decide) (ra_F F74 (by decide) (ra_o (by decide) (ra_F F64 (by decide) (ra_F fAdd_fr (by decide) (ra_F fAdd_fr (by decide) (ra_F F48 (by decide) (ra_F F40 (by decide) (ra_F F32 (by decide) (ra_F fAdd_fr (by decide) (ra_S (rfl)))))))))))) ?_
  have g86 := RG.a hR 9 (r)
  refine tm_aload_n dX12_meltOne_656 rfl 7 rfl ?_
  refine tm_getS (k := 62) (t := (fAdd (15) (σ.2.1 14 r) (0) (0) (0) (fAdd (13) (v12 + v17) (0) (0) (0) σ53)).1 62) dX12_meltOne_657 (by decide) fl12_509 rfl (rs_F F81 (by decide) (rs_F F74 (by decide) (rs_A (rs_F F64 (by decide) (rfl))))) ?_
  refine tm_iconst dX12_meltOne_660 ?_
  refine tm_isub dX12_meltOne_661 ?_
  refine tm_iadd dX12_meltOne_662 ?_
  refine tm_iast (z := r) (v := (σ.2.1 9 r) + (((fAdd (15) (σ.2.1 14 r) (0) (0) (0) (fAdd (13) (v12 + v17) (0) (0) (0) σ53)).1 62) - 1)) dX12_meltOne_663 (show mT[7]? = some (9, 0, 13) from rfl) (by omega) (by omega) (by decide) ?_
  have hall := melt_all (ρ := σ) (σ1 := (fAdd (15) (σ.2.1 14 r) (0) (0) (0) (fAdd (13) (v12 + v17) (0) (0) (0) σ53))) (σ2 := (sA 14 (r) ((σ.2.1 14 r) + (σ.2.1 14 q)) σ68)) (σ3 := σ78) (σ4 := σ85) (τ := (sA 9 (r) ((σ.2.1 9 r) + (((fAdd (15) (σ.2.1 14 r) (0) (0) (0) (fAdd (13) (v12 + v17) (0) (0) (0) σ53)).1 62) - 1)) σ85)) (a := σ53.1 62 + 1 + 1) hmo h10 (by omega) (by omega) hcr hlex hlm hok hof hfi hfiq rfl hend.1 hend.2 hv1 (by omega) (fun f x y => FIx_lt y) (Fr.A (Fr.sub fm5 (by decide) (by decide) (by decide)) (by decide)) hsu hcp f67 f78 (by rw [n64]) f15 (hfm.fr ((Fr.rfl (ss := []) (ks := [14]) (js := [])).A (by decide)) (by decide)) (by simp only [sA, if_true, s5_14])
  refine tm_iload_n dX12_meltOne_664 rfl 9 rfl ?_
  refine tm_aload_n dX12_meltOne_665 rfl 7 rfl ?_
  refine tm_getS (k := 62) (t := (fAdd (15) (σ.2.1 14 r) (0) (0) (0) (fAdd (13) (v12 + v17) (0) (0) (0) σ53)).1 62) dX12_meltOne_666 (by decide) fl12_509 rfl (rs_A (rs_F F81 (by decide) (rs_F F74 (by decide) (rs_A (rs_F F64 (by decide) (rfl)))))) ?_
  refine tm_iadd dX12_meltOne_669 ?_
  exact tm_iret rfl dX12_meltOne_670 (⟨_, rfl, ((((((((((((Fr.rfl.S (by decide)).trans (Fr.sub fAdd_fr (by decide) (by decide) (by decide))).trans (Fr.sub F32 (by decide) (by decide) (by decide))).trans (Fr.sub F40 (by decide) (by decide) (by decide))).trans (Fr.sub F48 (by decide) (by decide) (by decide))).trans (Fr.sub fAdd_fr (by decide) (by decide) (by decide))).trans (Fr.sub fAdd_fr (by decide) (by decide) (by decide))).trans (Fr.sub F64 (by decide) (by decide) (by decide))).A (by decide)).trans (Fr.sub F74 (by decide) (by decide) (by decide))).trans (Fr.sub F81 (by decide) (by decide) (by decide))).A (by decide)), (R82.A (by omega)), hall.1.1, hall.1.2.1, hall.1.2.2.1, hall.1.2.2.2.1, hall.1.2.2.2.2, hall.2.1, hall.2.2.1, hall.2.2.2.1, ⟨⟨hall.2.2.2.2.1, by rw [hall.2.2.2.2.2]; omega⟩, by rw [hall.2.2.2.2.2]; omega⟩, by rw [hall.2.2.2.2.2]; omega⟩)
