theorem ml12_542 : Cond.methodLink RX12 542 yX12_bank ∈ pWW := pw10 (List.mem_of_getElem? (i := 21) rfl) rfl
theorem dX12_returns_0 : decode cX12_returns 0 = .ok (.aload_n 0, 1) := by decide +kernel
theorem dX12_returns_1 : decode cX12_returns 1 = .ok (.getfield 152, 3) := by decide +kernel
theorem dX12_returns_4 : decode cX12_returns 4 = .ok (.iload_n 1, 1) := by decide +kernel
theorem dX12_returns_5 : decode cX12_returns 5 = .ok (.dup2, 1) := by decide +kernel
theorem dX12_returns_6 : decode cX12_returns 6 = .ok (.iaload, 1) := by decide +kernel
theorem dX12_returns_7 : decode cX12_returns 7 = .ok (.iconst 1, 1) := by decide +kernel
theorem dX12_returns_8 : decode cX12_returns 8 = .ok (.isub, 1) := by decide +kernel
theorem dX12_returns_9 : decode cX12_returns 9 = .ok (.iastore, 1) := by decide +kernel
theorem dX12_returns_10 : decode cX12_returns 10 = .ok (.aload_n 0, 1) := by decide +kernel
theorem dX12_returns_11 : decode cX12_returns 11 = .ok (.getfield 152, 3) := by decide +kernel
theorem dX12_returns_14 : decode cX12_returns 14 = .ok (.iload_n 1, 1) := by decide +kernel
theorem dX12_returns_15 : decode cX12_returns 15 = .ok (.iaload, 1) := by decide +kernel
theorem dX12_returns_16 : decode cX12_returns 16 = .ok (.ifCond .ne 12, 3) := by decide +kernel
theorem dX12_returns_28 : decode cX12_returns 28 = .ok (.iload_n 2, 1) := by decide +kernel
theorem dX12_returns_29 : decode cX12_returns 29 = .ok (.iconst 1, 1) := by decide +kernel
theorem dX12_returns_30 : decode cX12_returns 30 = .ok (.isub, 1) := by decide +kernel
theorem dX12_returns_31 : decode cX12_returns 31 = .ok (.istore 4, 2) := by decide +kernel
theorem dX12_returns_33 : decode cX12_returns 33 = .ok (.aload_n 0, 1) := by decide +kernel
theorem dX12_returns_34 : decode cX12_returns 34 = .ok (.aload_n 0, 1) := by decide +kernel
theorem dX12_returns_35 : decode cX12_returns 35 = .ok (.iload_n 1, 1) := by decide +kernel
theorem dX12_returns_36 : decode cX12_returns 36 = .ok (.invokevirtual 542, 3) := by decide +kernel
theorem dX12_returns_39 : decode cX12_returns 39 = .ok (.aload_n 0, 1) := by decide +kernel
theorem dX12_returns_40 : decode cX12_returns 40 = .ok (.getfield 167, 3) := by decide +kernel
theorem dX12_returns_43 : decode cX12_returns 43 = .ok (.iload 4, 2) := by decide +kernel
theorem dX12_returns_45 : decode cX12_returns 45 = .ok (.iaload, 1) := by decide +kernel
theorem dX12_returns_46 : decode cX12_returns 46 = .ok (.iadd, 1) := by decide +kernel
theorem dX12_returns_47 : decode cX12_returns 47 = .ok (.aload_n 0, 1) := by decide +kernel
theorem dX12_returns_48 : decode cX12_returns 48 = .ok (.getfield 170, 3) := by decide +kernel
theorem dX12_returns_51 : decode cX12_returns 51 = .ok (.iload 4, 2) := by decide +kernel
theorem dX12_returns_53 : decode cX12_returns 53 = .ok (.iaload, 1) := by decide +kernel
theorem dX12_returns_54 : decode cX12_returns 54 = .ok (.invokevirtual 203, 3) := by decide +kernel
theorem dX12_returns_57 : decode cX12_returns 57 = .ok (.istore 5, 2) := by decide +kernel
theorem dX12_returns_59 : decode cX12_returns 59 = .ok (.aload_n 0, 1) := by decide +kernel
theorem dX12_returns_60 : decode cX12_returns 60 = .ok (.getfield 179, 3) := by decide +kernel
theorem dX12_returns_63 : decode cX12_returns 63 = .ok (.sipush 192, 3) := by decide +kernel
theorem dX12_returns_66 : decode cX12_returns 66 = .ok (.iload 4, 2) := by decide +kernel
theorem dX12_returns_68 : decode cX12_returns 68 = .ok (.imul, 1) := by decide +kernel
theorem dX12_returns_69 : decode cX12_returns 69 = .ok (.aload_n 0, 1) := by decide +kernel
theorem dX12_returns_70 : decode cX12_returns 70 = .ok (.getfield 17, 3) := by decide +kernel
theorem dX12_returns_73 : decode cX12_returns 73 = .ok (.iload 5, 2) := by decide +kernel
theorem dX12_returns_75 : decode cX12_returns 75 = .ok (.iaload, 1) := by decide +kernel
theorem dX12_returns_76 : decode cX12_returns 76 = .ok (.iadd, 1) := by decide +kernel
theorem dX12_returns_77 : decode cX12_returns 77 = .ok (.iload_n 3, 1) := by decide +kernel
theorem dX12_returns_78 : decode cX12_returns 78 = .ok (.iastore, 1) := by decide +kernel
theorem dX12_returns_79 : decode cX12_returns 79 = .ok (.aload_n 0, 1) := by decide +kernel
theorem dX12_returns_80 : decode cX12_returns 80 = .ok (.getfield 170, 3) := by decide +kernel
theorem dX12_returns_83 : decode cX12_returns 83 = .ok (.iload 4, 2) := by decide +kernel
theorem dX12_returns_85 : decode cX12_returns 85 = .ok (.dup2, 1) := by decide +kernel
theorem dX12_returns_86 : decode cX12_returns 86 = .ok (.iaload, 1) := by decide +kernel
theorem dX12_returns_87 : decode cX12_returns 87 = .ok (.iconst 1, 1) := by decide +kernel
theorem dX12_returns_88 : decode cX12_returns 88 = .ok (.iadd, 1) := by decide +kernel
theorem dX12_returns_89 : decode cX12_returns 89 = .ok (.iastore, 1) := by decide +kernel
theorem dX12_returns_90 : decode cX12_returns 90 = .ok (.iconst 0, 1) := by decide +kernel
theorem dX12_returns_91 : decode cX12_returns 91 = .ok (.ireturn, 1) := by decide +kernel
theorem dX12_returns_19 : decode cX12_returns 19 = .ok (.aload_n 0, 1) := by decide +kernel
theorem dX12_returns_20 : decode cX12_returns 20 = .ok (.getfield 158, 3) := by decide +kernel
theorem dX12_returns_23 : decode cX12_returns 23 = .ok (.iload_n 1, 1) := by decide +kernel
theorem dX12_returns_24 : decode cX12_returns 24 = .ok (.iload_n 3, 1) := by decide +kernel
theorem dX12_returns_25 : decode cX12_returns 25 = .ok (.iastore, 1) := by decide +kernel
theorem dX12_returns_26 : decode cX12_returns 26 = .ok (.iconst 2, 1) := by decide +kernel
theorem dX12_returns_27 : decode cX12_returns 27 = .ok (.ireturn, 1) := by decide +kernel
set_option maxHeartbeats 2000000 in
set_option maxRecDepth 20000 in
theorem c_X12_returns (d : Nat) {b : Nat} {σ : MS} {m : Int} {c : Int} {w : Int} (hR : RG σ) (hm2 : 0 ≤ m ∧ m ≤ 2) (hrun : RUN σ m) (hbka : BKA σ m) (hc : c = 9 * m + σ.2.1 73 m - 1) (h_w : -2147483648 ≤ w ∧ w ≤ 2147483647) : Tm (d + 2) m_X12_returns 0 b σ [(0, .ref b), (1, .int (iI m)), (2, .int (iI c)), (3, .int (iI w))] [] (fun ro σ2 => ∃ v : Int, ro = some (.int (iI v)) ∧ (Fr [] [73, 75, 79, 82] [] σ σ2) ∧ (RG σ2) ∧ ((v = 2 ∧ σ2.2.1 73 m = 0) ∨ (v = 0 ∧ RUN σ2 m)) ∧ (XM m σ σ2) ∧ (v = 0 → σ2.2.1 73 m = σ.2.1 73 m - 1 ∧ 2 ≤ σ.2.1 73 m ∧ (∀ z, σ2.2.1 78 z = σ.2.1 78 z) ∧ (∀ z, z ≠ c - 1 → σ2.2.1 79 z = σ.2.1 79 z) ∧ σ2.2.1 79 (c - 1) = σ.2.1 79 (c - 1) + 1)) := by
  have h1 := hrun.1
  have hR6 := hbka.1
  refine tm_aload_n dX12_returns_0 rfl 0 rfl ?_
  refine tm_get (k := 73) (v := .ref (b + 1 + 44)) lay_12 dX12_returns_1 (by decide) fl12_152 rfl ?_
  refine tm_iload_n dX12_returns_4 rfl 1 rfl ?_
  refine tm_dup2 dX12_returns_5 rfl rfl ?_
  refine tm_iald (z := m) (v := σ.2.1 73 m) dX12_returns_6 (show mT[44]? = some (73, 0, 3) from rfl) (by omega) (by omega) (by decide) (rfl) ?_
  have g1 := RG.a hR 73 (m)
  refine tm_iconst dX12_returns_7 ?_
  refine tm_isub dX12_returns_8 ?_
  refine tm_iast (z := m) (v := (σ.2.1 73 m) - 1) dX12_returns_9 (show mT[44]? = some (73, 0, 3) from rfl) (by omega) (by omega) (by decide) ?_
  refine tm_aload_n dX12_returns_10 rfl 0 rfl ?_
  refine tm_get (k := 73) (v := .ref (b + 1 + 44)) lay_12 dX12_returns_11 (by decide) fl12_152 rfl ?_
  refine tm_iload_n dX12_returns_14 rfl 1 rfl ?_
  refine tm_iald (z := m) (v := (σ.2.1 73 m) - 1) dX12_returns_15 (show mT[44]? = some (73, 0, 3) from rfl) (by omega) (by omega) (by decide) (ra_eq) ?_
  refine tm_if_ne (tgt := 28) dX12_returns_16 (by decide) ⟨by omega, by omega⟩ (fun h2 => ?_) (fun h2 => ?_)
  · have hp := hrun.2.1 (c - 1) (by omega) (by omega)
    have hk10 := hrun.2.2.1 (c - 1) (by omega) (by omega)
    have hbg := hbka.2 _ hp.1.1 hp.1.2
    have hp1 := hp.1
    have hp2 := hp.2.1
    have hb9 := hbg.1
    have hoki := hbg.2.1 _ hp.2.1.1 hp.2.1.2
    have hdd := hoki.2.1 (Or.inr hk10)
    refine tm_iload_n dX12_returns_28 rfl 2 rfl ?_
    refine tm_iconst dX12_returns_29 ?_
    refine tm_isub dX12_returns_30 ?_
    refine tm_istore (L' := [(4, .int (iI (c - 1))), (0, .ref b), (1, .int (iI m)), (2, .int (iI c)), (3, .int (iI w))]) dX12_returns_31 (by decide) rfl ?_
    refine tm_aload_n dX12_returns_33 rfl 1 rfl ?_
    refine tm_aload_n dX12_returns_34 rfl 1 rfl ?_
    refine tm_iload_n dX12_returns_35 rfl 2 rfl ?_
    refine tm_callV (M := m_X12_returns) (pc := 36) (ix := 542) (M' := m_X12_bank) (As := [.int (iI m)]) (rest := [.ref b]) dX12_returns_36 ok_X12_bank im_X12_bank se_X12_bank ml12_542 np_X12_bank rfl rfl (Nat.le_of_ble_eq_true rfl) (Nat.le_of_ble_eq_true rfl) rfl (c_X12_bank (d) (σ := (sA 73 (m) ((σ.2.1 73 m) - 1) σ)) (m := m) (by omega)) (fun r3 σ4 hp => ?_)
    obtain ⟨v5, rfl, rfl, f6, f7, f8⟩ := hp
    show Tm _ _ 39 b (sA 73 (m) ((σ.2.1 73 m) - 1) σ) [(4, .int (iI (c - 1))), (0, .ref b), (1, .int (iI m)), (2, .int (iI c)), (3, .int (iI w))] [.int (iI v5), .ref b] _
    have hbv : v5 = bkm m := bkm_2 f7 f8
    rw [← hbv] at hp2 hb9 hdd
    refine tm_aload_n dX12_returns_39 rfl 1 rfl ?_
    refine tm_get (k := 78) (v := .ref (b + 1 + 49)) lay_12 dX12_returns_40 (by decide) fl12_167 rfl ?_
    refine tm_iload dX12_returns_43 0 rfl ?_
    refine tm_iald (z := c - 1) (v := σ.2.1 78 (c - 1)) dX12_returns_45 (show mT[49]? = some (78, 0, 27) from rfl) (by omega) (by omega) (by decide) (ra_o (by decide) (rfl)) ?_
    have g9 := RG.a hR 78 (c - 1)
    refine tm_iadd dX12_returns_46 ?_
    refine tm_aload_n dX12_returns_47 rfl 1 rfl ?_
    refine tm_get (k := 79) (v := .ref (b + 1 + 50)) lay_12 dX12_returns_48 (by decide) fl12_170 rfl ?_
    refine tm_iload dX12_returns_51 0 rfl ?_
    refine tm_iald (z := c - 1) (v := σ.2.1 79 (c - 1)) dX12_returns_53 (show mT[50]? = some (79, 0, 27) from rfl) (by omega) (by omega) (by decide) (ra_o (by decide) (rfl)) ?_
    have g10 := RG.a hR 79 (c - 1)
    refine tm_callV (M := m_X12_returns) (pc := 54) (ix := 203) (M' := m_X12_at) (As := [.int (iI (v5 + (σ.2.1 78 (c - 1)))), .int (iI (σ.2.1 79 (c - 1)))]) (rest := []) dX12_returns_54 ok_X12_at im_X12_at se_X12_at ml12_203 np_X12_at rfl rfl (Nat.le_of_ble_eq_true rfl) (Nat.le_of_ble_eq_true rfl) rfl (c_X12_at (d) (σ := (sA 73 (m) ((σ.2.1 73 m) - 1) σ)) (x := v5 + (σ.2.1 78 (c - 1))) (k := σ.2.1 79 (c - 1)) ) (fun r11 σ12 hp => ?_)
    obtain ⟨v13, rfl, rfl, f14⟩ := hp
    subst f14
    show Tm _ _ 57 b (sA 73 (m) ((σ.2.1 73 m) - 1) σ) [(4, .int (iI (c - 1))), (0, .ref b), (1, .int (iI m)), (2, .int (iI c)), (3, .int (iI w))] [.int (iI (220 * (v5 + (σ.2.1 78 (c - 1))) + (σ.2.1 79 (c - 1))))] _
    refine tm_istore (L' := [(5, .int (iI (220 * (v5 + (σ.2.1 78 (c - 1))) + (σ.2.1 79 (c - 1))))), (4, .int (iI (c - 1))), (0, .ref b), (1, .int (iI m)), (2, .int (iI c)), (3, .int (iI w))]) dX12_returns_57 (by decide) rfl ?_
    refine tm_aload_n dX12_returns_59 rfl 2 rfl ?_
    refine tm_get (k := 82) (v := .ref (b + 1 + 53)) lay_12 dX12_returns_60 (by decide) fl12_179 rfl ?_
    refine tm_sipush dX12_returns_63 (by decide) ?_
    refine tm_iload dX12_returns_66 1 rfl ?_
    refine tm_imul dX12_returns_68 ?_
    refine tm_aload_n dX12_returns_69 rfl 2 rfl ?_
    refine tm_get (k := 4) (v := .ref (b + 1 + 2)) lay_12 dX12_returns_70 (by decide) fl12_17 rfl ?_
    refine tm_iload dX12_returns_73 0 rfl ?_
    refine tm_iald (z := 220 * (v5 + (σ.2.1 78 (c - 1))) + (σ.2.1 79 (c - 1))) (v := σ.2.1 4 (220 * (v5 + (σ.2.1 78 (c - 1))) + (σ.2.1 79 (c - 1)))) dX12_returns_75 (show mT[2]? = some (4, 0, 2860) from rfl) (by omega) (by omega) (by decide) (ra_o (by decide) (rfl)) ?_
    have g15 := RG.a hR 4 (220 * (v5 + (σ.2.1 78 (c - 1))) + (σ.2.1 79 (c - 1)))
    refine tm_iadd dX12_returns_76 ?_
    refine tm_iload_n dX12_returns_77 rfl 5 rfl ?_
    refine tm_iast (z := (192 * (c - 1)) + (σ.2.1 4 (220 * (v5 + (σ.2.1 78 (c - 1))) + (σ.2.1 79 (c - 1))))) (v := w) dX12_returns_78 (show mT[53]? = some (82, 0, 5184) from rfl) (by omega) (by omega) (by decide) ?_
    refine tm_aload_n dX12_returns_79 rfl 2 rfl ?_
    refine tm_get (k := 79) (v := .ref (b + 1 + 50)) lay_12 dX12_returns_80 (by decide) fl12_170 rfl ?_
    refine tm_iload dX12_returns_83 1 rfl ?_
    refine tm_dup2 dX12_returns_85 rfl rfl ?_
    refine tm_iald (z := c - 1) (v := σ.2.1 79 (c - 1)) dX12_returns_86 (show mT[50]? = some (79, 0, 27) from rfl) (by omega) (by omega) (by decide) (ra_o (by decide) (ra_o (by decide) (rfl))) ?_
    have g16 := RG.a hR 79 (c - 1)
    refine tm_iconst dX12_returns_87 ?_
    refine tm_iadd dX12_returns_88 ?_
    refine tm_iast (z := c - 1) (v := (σ.2.1 79 (c - 1)) + 1) dX12_returns_89 (show mT[50]? = some (79, 0, 27) from rfl) (by omega) (by omega) (by decide) ?_
    refine tm_iconst dX12_returns_90 ?_
    exact tm_iret rfl dX12_returns_91 (⟨_, rfl, (((Fr.rfl.A (by decide)).A (by decide)).A (by decide)), (((hR.A (by omega)).A (by omega)).A (by omega)), Or.inr ⟨rfl, hrun.pop (d := c - 1) (by omega) (by omega) (show Fr [] [73, 79, 82] [] σ (sA 79 (c - 1) ((σ.2.1 79 (c - 1)) + 1) (sA 82 ((192 * (c - 1)) + (σ.2.1 4 (220 * (v5 + (σ.2.1 78 (c - 1))) + (σ.2.1 79 (c - 1))))) (w) (sA 73 (m) ((σ.2.1 73 m) - 1) σ))) from (((Fr.rfl.A (by decide)).A (by decide)).A (by decide))) (by decide) (by decide) (ra_o (by decide) (ra_o (by decide) ra_eq)) (fun _ => rfl) (fun _ => rfl) (fun z hz => ra_ne hz rfl) ra_eq⟩, ⟨fun j hj => ⟨ra_o (by decide) (ra_o (by decide) (ra_ne hj rfl)), rfl⟩, fun z hz => ⟨rfl, ra_ne (by omega) rfl, rfl⟩⟩, fun _ => ⟨ra_o (by decide) (ra_o (by decide) ra_eq), (by omega), (fun _ => rfl), (fun z hz => ra_ne hz rfl), ra_eq⟩⟩)
  · refine tm_aload_n dX12_returns_19 rfl 0 rfl ?_
    refine tm_get (k := 75) (v := .ref (b + 1 + 46)) lay_12 dX12_returns_20 (by decide) fl12_158 rfl ?_
    refine tm_iload_n dX12_returns_23 rfl 1 rfl ?_
    refine tm_iload_n dX12_returns_24 rfl 3 rfl ?_
    refine tm_iast (z := m) (v := w) dX12_returns_25 (show mT[46]? = some (75, 0, 3) from rfl) (by omega) (by omega) (by decide) ?_
    refine tm_iconst dX12_returns_26 ?_
    exact tm_iret rfl dX12_returns_27 (⟨_, rfl, ((Fr.rfl.A (by decide)).A (by decide)), ((hR.A (by omega)).A (by omega)), Or.inl ⟨rfl, ra_o (by decide) (ra_eq.trans (by omega))⟩, ⟨fun j hj => ⟨ra_o (by decide) (ra_ne hj rfl), rfl⟩, fun z hz => ⟨rfl, rfl, rfl⟩⟩, fun q => absurd q (by decide)⟩)
