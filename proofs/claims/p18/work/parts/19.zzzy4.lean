section
set_option maxHeartbeats 4000000 in
set_option maxRecDepth 20000 in
theorem f_step (d : Nat) {b : Nat} {σ0 : MS} {m : Int} {c : Int} {x : Int} {q : Int} {post : Option Value → MS → Prop} (hR0 : RG σ0) (hm2 : 0 ≤ m ∧ m ≤ 2) (hx : (0 ≤ x ∧ x < 2860) ∧ (0 ≤ c ∧ c ≤ 25)) (hq : σ0.2.1 5 x = q ∧ 0 ≤ q ∧ q < 6 ∧ 0 ≤ σ0.2.1 11 q ∧ σ0.2.1 11 q ≤ 4) (hnm : ∀ n, 0 ≤ n → n < σ0.2.1 11 q → m ≠ 2 → 0 ≤ σ0.2.1 18 (144 * q + n) ∧ σ0.2.1 18 (144 * q + n) < 192) (har : ∀ n, 0 ≤ n → n < 4 → σ0.2.1 7 (4 * x + n) = 2 → 0 ≤ σ0.2.1 8 (4 * x + n) ∧ σ0.2.1 8 (4 * x + n) < 192) (hx_395 : ∀ (n1 : Int) (σ : MS) , (Fr [] [82] [] σ0 σ) → (RG σ) → (PWG (hmP σ0 m q) (wA σ0 c x) (192 * c + 192) σ0 (σ0.2.1 11 q) σ) → Tm (d + 2) m_X12_step 395 b σ [(0, .ref b)] [] post) : ∀ (n : Nat) (n1 : Int) (σ : MS) , (Fr [] [82] [] σ0 σ) → (RG σ) → (0 ≤ n1 ∧ n1 ≤ σ0.2.1 11 q) → (PWG (hmP σ0 m q) (wA σ0 c x) (192 * c + 192) σ0 n1 σ) → (4 - n1).toNat = n → Tm (d + 2) m_X12_step 317 b σ [(8, .int (iI n1)), (5, .int (iI (192 * c))), (4, .int (iI x)), (2, .int (iI c)), (0, .ref b), (1, .int (iI m))] [] post := by
  intro n
  induction n using Nat.strongRecOn with
  | _ n ih =>
    intro n1 σ hF hR h0 hpw hm
    have hq1 := hq.1
    have hq5 : σ0.2.1 11 (σ0.2.1 5 x) = σ0.2.1 11 q := by rw [hq1]
    refine tm_iload dX12_step_317 0 rfl ?_
    refine tm_aload_n dX12_step_319 rfl 4 rfl ?_
    refine tm_get (k := 11) (v := .ref (b + 1 + 8)) lay_12 dX12_step_320 (by decide) fl12_35 rfl ?_
    refine tm_aload_n dX12_step_323 rfl 4 rfl ?_
    refine tm_get (k := 5) (v := .ref (b + 1 + 3)) lay_12 dX12_step_324 (by decide) fl12_20 rfl ?_
    refine tm_iload dX12_step_327 2 rfl ?_
    refine tm_iald (z := x) (v := σ0.2.1 5 x) dX12_step_329 (show mT[3]? = some (5, 0, 2860) from rfl) (by omega) (by omega) (by decide) (ra_F hF (by decide) (rfl)) ?_
    have g1 := RG.a hR0 5 (x)
    refine tm_iald (z := σ0.2.1 5 x) (v := σ0.2.1 11 (σ0.2.1 5 x)) dX12_step_330 (show mT[8]? = some (11, 0, 6) from rfl) (by omega) (by omega) (by decide) (ra_F hF (by decide) (rfl)) ?_
    have g2 := RG.a hR0 11 (σ0.2.1 5 x)
    refine tm_icmp_ge (tgt := 395) dX12_step_331 (by decide) ⟨by omega, by omega⟩ ⟨by omega, by omega⟩ (fun h3 => ?_) (fun h3 => ?_)
    · exact tm_sub [4] rfl (hx_395 (0) σ (Fr.rfl.trans (Fr.sub hF (by decide) (by decide) (by decide))) hR (by rw [show σ0.2.1 11 q = n1 by omega]; exact hpw))
    · have hn1 := hnm n1 (by omega) (by omega)
      have ha1 := har n1 (by omega) (by omega)
      have e18 : σ.2.1 18 = σ0.2.1 18 := hF.2.1 18 (by decide)
      have hq18 : σ0.2.1 18 (144 * σ0.2.1 5 x + n1) = σ0.2.1 18 (144 * q + n1) := by rw [hq1]
      refine tm_aload_n dX12_step_334 rfl 4 rfl ?_
      refine tm_get (k := 82) (v := .ref (b + 1 + 53)) lay_12 dX12_step_335 (by decide) fl12_179 rfl ?_
      refine tm_iload dX12_step_338 1 rfl ?_
      refine tm_sipush dX12_step_340 (by decide) ?_
      refine tm_iadd dX12_step_343 ?_
      refine tm_aload_n dX12_step_344 rfl 4 rfl ?_
      refine tm_iload_n dX12_step_345 rfl 5 rfl ?_
      refine tm_aload_n dX12_step_346 rfl 4 rfl ?_
      refine tm_get (k := 5) (v := .ref (b + 1 + 3)) lay_12 dX12_step_347 (by decide) fl12_20 rfl ?_
      refine tm_iload dX12_step_350 2 rfl ?_
      refine tm_iald (z := x) (v := σ0.2.1 5 x) dX12_step_352 (show mT[3]? = some (5, 0, 2860) from rfl) (by omega) (by omega) (by decide) (ra_F hF (by decide) (rfl)) ?_
      have g4 := RG.a hR0 5 (x)
      refine tm_iload dX12_step_353 0 rfl ?_
      refine tm_callV (M := m_X12_step) (pc := 355) (ix := 539) (M' := m_X12_paramAt) (As := [.int (iI m), .int (iI (σ0.2.1 5 x)), .int (iI n1)]) (rest := [.int (iI ((192 * c) + 192)), .ref (b + 1 + 53)]) dX12_step_355 ok_X12_paramAt im_X12_paramAt se_X12_paramAt ml12_539 np_X12_paramAt rfl rfl (Nat.le_of_ble_eq_true rfl) (Nat.le_of_ble_eq_true rfl) rfl (c_X12_paramAt (d) (σ := σ) (m := m) (x := σ0.2.1 5 x) (n := n1) (by omega) (by omega)) (fun r5 σ6 hp => ?_)
      obtain ⟨v7, rfl, rfl, f8, f9⟩ := hp
      show Tm _ _ 358 b σ [(8, .int (iI n1)), (5, .int (iI (192 * c))), (4, .int (iI x)), (2, .int (iI c)), (0, .ref b), (1, .int (iI m))] [.int (iI v7), .int (iI ((192 * c) + 192)), .ref (b + 1 + 53)] _
      rw [e18] at f9
      have hpa := hmp_of (σ := σ0) (m := m) (q := q) (n := n1) f8 (fun e => (f9 e).trans hq18)
      have hpr9 := hmp_r (σ := σ0) (m := m) (q := q) (n := n1) (by omega) hn1
      refine tm_iadd dX12_step_358 ?_
      refine tm_aload_n dX12_step_359 rfl 4 rfl ?_
      refine tm_iload_n dX12_step_360 rfl 3 rfl ?_
      refine tm_aload_n dX12_step_361 rfl 4 rfl ?_
      refine tm_get (k := 7) (v := .ref (b + 1 + 5)) lay_12 dX12_step_362 (by decide) fl12_26 rfl ?_
      refine tm_iconst dX12_step_365 ?_
      refine tm_iload dX12_step_366 2 rfl ?_
      refine tm_imul dX12_step_368 ?_
      refine tm_iload dX12_step_369 0 rfl ?_
      refine tm_iadd dX12_step_371 ?_
      refine tm_iald (z := (4 * x) + n1) (v := σ0.2.1 7 ((4 * x) + n1)) dX12_step_372 (show mT[5]? = some (7, 0, 11440) from rfl) (by omega) (by omega) (by decide) (ra_F hF (by decide) (rfl)) ?_
      have g10 := RG.a hR0 7 ((4 * x) + n1)
      refine tm_aload_n dX12_step_373 rfl 4 rfl ?_
      refine tm_get (k := 8) (v := .ref (b + 1 + 6)) lay_12 dX12_step_374 (by decide) fl12_29 rfl ?_
      refine tm_iconst dX12_step_377 ?_
      refine tm_iload dX12_step_378 2 rfl ?_
      refine tm_imul dX12_step_380 ?_
      refine tm_iload dX12_step_381 0 rfl ?_
      refine tm_iadd dX12_step_383 ?_
      refine tm_iald (z := (4 * x) + n1) (v := σ0.2.1 8 ((4 * x) + n1)) dX12_step_384 (show mT[6]? = some (8, 0, 11440) from rfl) (by omega) (by omega) (by decide) (ra_F hF (by decide) (rfl)) ?_
      have g11 := RG.a hR0 8 ((4 * x) + n1)
      refine tm_callV (M := m_X12_step) (pc := 385) (ix := 545) (M' := m_X12_worth) (As := [.int (iI c), .int (iI (σ0.2.1 7 ((4 * x) + n1))), .int (iI (σ0.2.1 8 ((4 * x) + n1)))]) (rest := [.int (iI (((192 * c) + 192) + v7)), .ref (b + 1 + 53)]) dX12_step_385 ok_X12_worth im_X12_worth se_X12_worth ml12_545 np_X12_worth rfl rfl (Nat.le_of_ble_eq_true rfl) (Nat.le_of_ble_eq_true rfl) rfl (f_X12_worth (d) (σ := σ) (c := c) (k := σ0.2.1 7 ((4 * x) + n1)) (w := σ0.2.1 8 ((4 * x) + n1)) (by omega) hR (by omega) (by omega)) (fun r12 σ13 hp => ?_)
      obtain ⟨v14, rfl, rfl, f15, f16⟩ := hp
      show Tm _ _ 388 b σ [(8, .int (iI n1)), (5, .int (iI (192 * c))), (4, .int (iI x)), (2, .int (iI c)), (0, .ref b), (1, .int (iI m))] [.int (iI v14), .int (iI (((192 * c) + 192) + v7)), .ref (b + 1 + 53)] _
      refine tm_iast (z := ((192 * c) + 192) + v7) (v := v14) dX12_step_388 (show mT[53]? = some (82, 0, 5184) from rfl) (by omega) (by omega) (by decide) ?_
      refine tm_iinc (q0 := 0) (L' := [(8, .int (iI (n1 + 1))), (5, .int (iI (192 * c))), (4, .int (iI x)), (2, .int (iI c)), (0, .ref b), (1, .int (iI m))]) dX12_step_389 rfl (by decide) rfl ?_
      refine tm_goto (tgt := 317) dX12_step_392 (by decide) ?_
      exact tm_sub [0, 1, 2, 3, 4, 5] rfl (ih _ (by omega) (n1 + 1) (sA 82 (((192 * c) + 192) + v7) (v14) σ) ((Fr.rfl.trans (Fr.sub hF (by decide) (by decide) (by decide))).A (by decide)) (hR.A (by omega)) (by omega) (hpw.put (by omega) hpr9 (by rw [← hpa]) (by rw [f16]; exact hpw.w ha1)) rfl)
set_option maxHeartbeats 4000000 in
set_option maxRecDepth 20000 in
theorem f_X12_step (d : Nat) {b : Nat} {σ : MS} {m : Int} (hR : RG σ) (hm2 : 0 ≤ m ∧ m ≤ 2) (hrun : RUN σ m) (hbka : BKA σ m) (hit : ITM σ) (hpar : PAR σ) (hpr : 0 ≤ σ.2.1 76 m ∧ σ.2.1 76 m ≤ 1000000000) : Tm (d + 3) m_X12_step 0 b σ [(0, .ref b), (1, .int (iI m))] [] (fun ro σ2 => ∃ v : Int, ro = some (.int (iI v)) ∧ (Fr [] [73, 75, 76, 77, 78, 79, 80, 81, 82] [] σ σ2) ∧ (RG σ2) ∧ ((v = 3 ∧ σ2 = σ) ∨ (v = 2 ∧ σ2.2.1 73 m = 0) ∨ ((v = 0 ∨ v = 1) ∧ RUN σ2 m)) ∧ (XM m σ σ2) ∧ (σ.2.1 76 m ≤ σ2.2.1 76 m ∧ σ2.2.1 76 m ≤ σ.2.1 76 m + 1) ∧ (STP σ m v σ2) ∧ (STQ σ m v σ2)) := by
  have h1 := hrun.1
  have hge := hrun.ge
  have h49 := hrun.2.2.2
  have hR6 := hbka.1
  have hp := hrun.2.1 (9 * m + σ.2.1 73 m - 1) (by omega) (by omega)
  have hbg := hbka.2 _ hp.1.1 hp.1.2
  have hp1 := hp.1
  have hp2 := hp.2.1
  have hb9 := hbg.1
  have hoki := hbg.2.1 _ hp.2.1.1 hp.2.1.2
  have hfr := hp.rng
  have hfm := hbg.2.2.2.2.1
  have hdec := hrun.dec hbka.2 hR6.2
  refine tm_bipush dX12_step_0 (by decide) ?_
  refine tm_iload_n dX12_step_2 rfl 1 rfl ?_
  refine tm_imul dX12_step_3 ?_
  refine tm_aload_n dX12_step_4 rfl 0 rfl ?_
  refine tm_get (k := 73) (v := .ref (b + 1 + 44)) lay_12 dX12_step_5 (by decide) fl12_152 rfl ?_
  refine tm_iload_n dX12_step_8 rfl 1 rfl ?_
  refine tm_iald (z := m) (v := σ.2.1 73 m) dX12_step_9 (show mT[44]? = some (73, 0, 3) from rfl) (by omega) (by omega) (by decide) (rfl) ?_
  have g1 := RG.a hR 73 (m)
  refine tm_iadd dX12_step_10 ?_
  refine tm_iconst dX12_step_11 ?_
  refine tm_isub dX12_step_12 ?_
  refine tm_istore_n (L' := [(2, .int (iI (((9 * m) + (σ.2.1 73 m)) - 1))), (0, .ref b), (1, .int (iI m))]) dX12_step_13 rfl (by decide) rfl ?_
  refine tm_aload_n dX12_step_14 rfl 1 rfl ?_
  refine tm_get (k := 78) (v := .ref (b + 1 + 49)) lay_12 dX12_step_15 (by decide) fl12_167 rfl ?_
  refine tm_iload_n dX12_step_18 rfl 0 rfl ?_
  refine tm_iald (z := ((9 * m) + (σ.2.1 73 m)) - 1) (v := σ.2.1 78 (((9 * m) + (σ.2.1 73 m)) - 1)) dX12_step_19 (show mT[49]? = some (78, 0, 27) from rfl) (by omega) (by omega) (by decide) (rfl) ?_
  have g2 := RG.a hR 78 (((9 * m) + (σ.2.1 73 m)) - 1)
  refine tm_istore_n (L' := [(3, .int (iI (σ.2.1 78 (((9 * m) + (σ.2.1 73 m)) - 1)))), (2, .int (iI (((9 * m) + (σ.2.1 73 m)) - 1))), (0, .ref b), (1, .int (iI m))]) dX12_step_20 rfl (by decide) rfl ?_
  refine tm_aload_n dX12_step_21 rfl 2 rfl ?_
  refine tm_aload_n dX12_step_22 rfl 2 rfl ?_
  refine tm_iload_n dX12_step_23 rfl 3 rfl ?_
  refine tm_callV (M := m_X12_step) (pc := 24) (ix := 542) (M' := m_X12_bank) (As := [.int (iI m)]) (rest := [.ref b]) dX12_step_24 ok_X12_bank im_X12_bank se_X12_bank ml12_542 np_X12_bank rfl rfl (Nat.le_of_ble_eq_true rfl) (Nat.le_of_ble_eq_true rfl) rfl (c_X12_bank (d + 1) (σ := σ) (m := m) (by omega)) (fun r3 σ4 hp => ?_)
  obtain ⟨v5, rfl, rfl, f6, f7, f8⟩ := hp
  show Tm _ _ 27 b σ [(3, .int (iI (σ.2.1 78 (((9 * m) + (σ.2.1 73 m)) - 1)))), (2, .int (iI (((9 * m) + (σ.2.1 73 m)) - 1))), (0, .ref b), (1, .int (iI m))] [.int (iI v5), .ref b] _
  have hbv : v5 = bkm m := bkm_2 f7 f8
  have vb6 : v5 = 0 ∨ v5 = 6 := f6
  have hkd : kdm σ m (σ.2.1 78 (9 * m + σ.2.1 73 m - 1)) (σ.2.1 79 (9 * m + σ.2.1 73 m - 1)) = σ.2.1 3 (220 * (v5 + σ.2.1 78 (9 * m + σ.2.1 73 m - 1)) + σ.2.1 79 (9 * m + σ.2.1 73 m - 1)) := by unfold kdm; rw [hbv]
  have hds : dsm σ m (σ.2.1 78 (9 * m + σ.2.1 73 m - 1)) (σ.2.1 79 (9 * m + σ.2.1 73 m - 1)) = σ.2.1 4 (220 * (v5 + σ.2.1 78 (9 * m + σ.2.1 73 m - 1)) + σ.2.1 79 (9 * m + σ.2.1 73 m - 1)) := by unfold dsm; rw [hbv]
  have hpc := fun e => hp.call hbg e
  have hlx := hbg.2.2.1
  rw [← hbv] at hp2 hb9 hoki hlx hpc
  have hk15 := hoki.1
  have ho8 := hoki.2.2.2.2.2.2.2.1
  have ho80 := (ho8 0 (by decide) (by decide)).1
  have ho82 := (ho8 0 (by decide) (by decide)).2
  rw [Int.add_zero] at ho80 ho82
  refine tm_iload_n dX12_step_27 rfl 0 rfl ?_
  refine tm_iadd dX12_step_28 ?_
  refine tm_aload_n dX12_step_29 rfl 2 rfl ?_
  refine tm_get (k := 79) (v := .ref (b + 1 + 50)) lay_12 dX12_step_30 (by decide) fl12_170 rfl ?_
  refine tm_iload_n dX12_step_33 rfl 1 rfl ?_
  refine tm_iald (z := ((9 * m) + (σ.2.1 73 m)) - 1) (v := σ.2.1 79 (((9 * m) + (σ.2.1 73 m)) - 1)) dX12_step_34 (show mT[50]? = some (79, 0, 27) from rfl) (by omega) (by omega) (by decide) (rfl) ?_
  have g9 := RG.a hR 79 (((9 * m) + (σ.2.1 73 m)) - 1)
  refine tm_callV (M := m_X12_step) (pc := 35) (ix := 203) (M' := m_X12_at) (As := [.int (iI (v5 + (σ.2.1 78 (((9 * m) + (σ.2.1 73 m)) - 1)))), .int (iI (σ.2.1 79 (((9 * m) + (σ.2.1 73 m)) - 1)))]) (rest := []) dX12_step_35 ok_X12_at im_X12_at se_X12_at ml12_203 np_X12_at rfl rfl (Nat.le_of_ble_eq_true rfl) (Nat.le_of_ble_eq_true rfl) rfl (c_X12_at (d + 1) (σ := σ) (x := v5 + (σ.2.1 78 (((9 * m) + (σ.2.1 73 m)) - 1))) (k := σ.2.1 79 (((9 * m) + (σ.2.1 73 m)) - 1)) ) (fun r10 σ11 hp => ?_)
  obtain ⟨v12, rfl, rfl, f13⟩ := hp
  subst f13
  show Tm _ _ 38 b σ [(3, .int (iI (σ.2.1 78 (((9 * m) + (σ.2.1 73 m)) - 1)))), (2, .int (iI (((9 * m) + (σ.2.1 73 m)) - 1))), (0, .ref b), (1, .int (iI m))] [.int (iI (220 * (v5 + (σ.2.1 78 (((9 * m) + (σ.2.1 73 m)) - 1))) + (σ.2.1 79 (((9 * m) + (σ.2.1 73 m)) - 1))))] _
  refine tm_istore (L' := [(4, .int (iI (220 * (v5 + (σ.2.1 78 (((9 * m) + (σ.2.1 73 m)) - 1))) + (σ.2.1 79 (((9 * m) + (σ.2.1 73 m)) - 1))))), (3, .int (iI (σ.2.1 78 (((9 * m) + (σ.2.1 73 m)) - 1)))), (2, .int (iI (((9 * m) + (σ.2.1 73 m)) - 1))), (0, .ref b), (1, .int (iI m))]) dX12_step_38 (by decide) rfl ?_
  refine tm_sipush dX12_step_40 (by decide) ?_
  refine tm_iload_n dX12_step_43 rfl 2 rfl ?_
  refine tm_imul dX12_step_44 ?_
  refine tm_istore (L' := [(5, .int (iI (192 * (((9 * m) + (σ.2.1 73 m)) - 1)))), (4, .int (iI (220 * (v5 + (σ.2.1 78 (((9 * m) + (σ.2.1 73 m)) - 1))) + (σ.2.1 79 (((9 * m) + (σ.2.1 73 m)) - 1))))), (3, .int (iI (σ.2.1 78 (((9 * m) + (σ.2.1 73 m)) - 1)))), (2, .int (iI (((9 * m) + (σ.2.1 73 m)) - 1))), (0, .ref b), (1, .int (iI m))]) dX12_step_45 (by decide) rfl ?_
  refine tm_aload_n dX12_step_47 rfl 4 rfl ?_
  refine tm_iload_n dX12_step_48 rfl 3 rfl ?_
  refine tm_aload_n dX12_step_49 rfl 4 rfl ?_
  refine tm_get (k := 7) (v := .ref (b + 1 + 5)) lay_12 dX12_step_50 (by decide) fl12_26 rfl ?_
  refine tm_iconst dX12_step_53 ?_
  refine tm_iload dX12_step_54 1 rfl ?_
  refine tm_imul dX12_step_56 ?_
  refine tm_iald (z := 4 * (220 * (v5 + (σ.2.1 78 (((9 * m) + (σ.2.1 73 m)) - 1))) + (σ.2.1 79 (((9 * m) + (σ.2.1 73 m)) - 1)))) (v := σ.2.1 7 (4 * (220 * (v5 + (σ.2.1 78 (((9 * m) + (σ.2.1 73 m)) - 1))) + (σ.2.1 79 (((9 * m) + (σ.2.1 73 m)) - 1))))) dX12_step_57 (show mT[5]? = some (7, 0, 11440) from rfl) (by omega) (by omega) (by decide) (rfl) ?_
  have g14 := RG.a hR 7 (4 * (220 * (v5 + (σ.2.1 78 (((9 * m) + (σ.2.1 73 m)) - 1))) + (σ.2.1 79 (((9 * m) + (σ.2.1 73 m)) - 1))))
  refine tm_aload_n dX12_step_58 rfl 4 rfl ?_
  refine tm_get (k := 8) (v := .ref (b + 1 + 6)) lay_12 dX12_step_59 (by decide) fl12_29 rfl ?_
  refine tm_iconst dX12_step_62 ?_
  refine tm_iload dX12_step_63 1 rfl ?_
  refine tm_imul dX12_step_65 ?_
  refine tm_iald (z := 4 * (220 * (v5 + (σ.2.1 78 (((9 * m) + (σ.2.1 73 m)) - 1))) + (σ.2.1 79 (((9 * m) + (σ.2.1 73 m)) - 1)))) (v := σ.2.1 8 (4 * (220 * (v5 + (σ.2.1 78 (((9 * m) + (σ.2.1 73 m)) - 1))) + (σ.2.1 79 (((9 * m) + (σ.2.1 73 m)) - 1))))) dX12_step_66 (show mT[6]? = some (8, 0, 11440) from rfl) (by omega) (by omega) (by decide) (rfl) ?_
  have g15 := RG.a hR 8 (4 * (220 * (v5 + (σ.2.1 78 (((9 * m) + (σ.2.1 73 m)) - 1))) + (σ.2.1 79 (((9 * m) + (σ.2.1 73 m)) - 1))))
  refine tm_callV (M := m_X12_step) (pc := 67) (ix := 545) (M' := m_X12_worth) (As := [.int (iI (((9 * m) + (σ.2.1 73 m)) - 1)), .int (iI (σ.2.1 7 (4 * (220 * (v5 + (σ.2.1 78 (((9 * m) + (σ.2.1 73 m)) - 1))) + (σ.2.1 79 (((9 * m) + (σ.2.1 73 m)) - 1)))))), .int (iI (σ.2.1 8 (4 * (220 * (v5 + (σ.2.1 78 (((9 * m) + (σ.2.1 73 m)) - 1))) + (σ.2.1 79 (((9 * m) + (σ.2.1 73 m)) - 1))))))]) (rest := []) dX12_step_67 ok_X12_worth im_X12_worth se_X12_worth ml12_545 np_X12_worth rfl rfl (Nat.le_of_ble_eq_true rfl) (Nat.le_of_ble_eq_true rfl) rfl (f_X12_worth (d + 1) (σ := σ) (c := ((9 * m) + (σ.2.1 73 m)) - 1) (k := σ.2.1 7 (4 * (220 * (v5 + (σ.2.1 78 (((9 * m) + (σ.2.1 73 m)) - 1))) + (σ.2.1 79 (((9 * m) + (σ.2.1 73 m)) - 1))))) (w := σ.2.1 8 (4 * (220 * (v5 + (σ.2.1 78 (((9 * m) + (σ.2.1 73 m)) - 1))) + (σ.2.1 79 (((9 * m) + (σ.2.1 73 m)) - 1))))) (by omega) hR (by omega) (by omega)) (fun r16 σ17 hp => ?_)
  obtain ⟨v18, rfl, rfl, f19, f20⟩ := hp
  show Tm _ _ 70 b σ [(5, .int (iI (192 * (((9 * m) + (σ.2.1 73 m)) - 1)))), (4, .int (iI (220 * (v5 + (σ.2.1 78 (((9 * m) + (σ.2.1 73 m)) - 1))) + (σ.2.1 79 (((9 * m) + (σ.2.1 73 m)) - 1))))), (3, .int (iI (σ.2.1 78 (((9 * m) + (σ.2.1 73 m)) - 1)))), (2, .int (iI (((9 * m) + (σ.2.1 73 m)) - 1))), (0, .ref b), (1, .int (iI m))] [.int (iI v18)] _
  refine tm_istore (L' := [(6, .int (iI v18)), (5, .int (iI (192 * (((9 * m) + (σ.2.1 73 m)) - 1)))), (4, .int (iI (220 * (v5 + (σ.2.1 78 (((9 * m) + (σ.2.1 73 m)) - 1))) + (σ.2.1 79 (((9 * m) + (σ.2.1 73 m)) - 1))))), (3, .int (iI (σ.2.1 78 (((9 * m) + (σ.2.1 73 m)) - 1)))), (2, .int (iI (((9 * m) + (σ.2.1 73 m)) - 1))), (0, .ref b), (1, .int (iI m))]) dX12_step_70 (by decide) rfl ?_
  clear ho82
  have gA := wA_0 f20
  refine tm_iconst dX12_step_72 ?_
  refine tm_istore (L' := [(7, .int (iI 0)), (6, .int (iI v18)), (5, .int (iI (192 * (((9 * m) + (σ.2.1 73 m)) - 1)))), (4, .int (iI (220 * (v5 + (σ.2.1 78 (((9 * m) + (σ.2.1 73 m)) - 1))) + (σ.2.1 79 (((9 * m) + (σ.2.1 73 m)) - 1))))), (3, .int (iI (σ.2.1 78 (((9 * m) + (σ.2.1 73 m)) - 1)))), (2, .int (iI (((9 * m) + (σ.2.1 73 m)) - 1))), (0, .ref b), (1, .int (iI m))]) dX12_step_73 (by decide) rfl ?_
  refine tm_aload_n dX12_step_75 rfl 6 rfl ?_
  refine tm_get (k := 3) (v := .ref (b + 1 + 1)) lay_12 dX12_step_76 (by decide) fl12_13 rfl ?_
  refine tm_iload dX12_step_79 3 rfl ?_
  refine tm_iald (z := 220 * (v5 + (σ.2.1 78 (((9 * m) + (σ.2.1 73 m)) - 1))) + (σ.2.1 79 (((9 * m) + (σ.2.1 73 m)) - 1))) (v := σ.2.1 3 (220 * (v5 + (σ.2.1 78 (((9 * m) + (σ.2.1 73 m)) - 1))) + (σ.2.1 79 (((9 * m) + (σ.2.1 73 m)) - 1)))) dX12_step_81 (show mT[1]? = some (3, 0, 2860) from rfl) (by omega) (by omega) (by decide) (rfl) ?_
  have g21 := RG.a hR 3 (220 * (v5 + (σ.2.1 78 (((9 * m) + (σ.2.1 73 m)) - 1))) + (σ.2.1 79 (((9 * m) + (σ.2.1 73 m)) - 1)))
  by_cases h22 : σ.2.1 3 (220 * (v5 + (σ.2.1 78 (((9 * m) + (σ.2.1 73 m)) - 1))) + (σ.2.1 79 (((9 * m) + (σ.2.1 73 m)) - 1))) < 0 ∨ 15 < σ.2.1 3 (220 * (v5 + (σ.2.1 78 (((9 * m) + (σ.2.1 73 m)) - 1))) + (σ.2.1 79 (((9 * m) + (σ.2.1 73 m)) - 1)))
  · refine tm_tableOut (tgt := 502) dX12_step_82 ⟨by omega, by omega⟩ h22 (by decide) ?_
    have ho2 := hoki.2.1 (Or.inl (by omega))
    have ho81 := ho8 1 (by decide) (by decide)
    refine tm_aload_n dX12_step_502 rfl 6 rfl ?_
    refine tm_get (k := 82) (v := .ref (b + 1 + 53)) lay_12 dX12_step_503 (by decide) fl12_179 rfl ?_
    refine tm_iload dX12_step_506 2 rfl ?_
    refine tm_aload_n dX12_step_508 rfl 6 rfl ?_
    refine tm_get (k := 4) (v := .ref (b + 1 + 2)) lay_12 dX12_step_509 (by decide) fl12_17 rfl ?_
    refine tm_iload dX12_step_512 3 rfl ?_
    refine tm_iald (z := 220 * (v5 + (σ.2.1 78 (((9 * m) + (σ.2.1 73 m)) - 1))) + (σ.2.1 79 (((9 * m) + (σ.2.1 73 m)) - 1))) (v := σ.2.1 4 (220 * (v5 + (σ.2.1 78 (((9 * m) + (σ.2.1 73 m)) - 1))) + (σ.2.1 79 (((9 * m) + (σ.2.1 73 m)) - 1)))) dX12_step_514 (show mT[2]? = some (4, 0, 2860) from rfl) (by omega) (by omega) (by decide) (rfl) ?_
    have g23 := RG.a hR 4 (220 * (v5 + (σ.2.1 78 (((9 * m) + (σ.2.1 73 m)) - 1))) + (σ.2.1 79 (((9 * m) + (σ.2.1 73 m)) - 1)))
    refine tm_iadd dX12_step_515 ?_
    refine tm_aload_n dX12_step_516 rfl 6 rfl ?_
    refine tm_get (k := 3) (v := .ref (b + 1 + 1)) lay_12 dX12_step_517 (by decide) fl12_13 rfl ?_
    refine tm_iload dX12_step_520 3 rfl ?_
    refine tm_iald (z := 220 * (v5 + (σ.2.1 78 (((9 * m) + (σ.2.1 73 m)) - 1))) + (σ.2.1 79 (((9 * m) + (σ.2.1 73 m)) - 1))) (v := σ.2.1 3 (220 * (v5 + (σ.2.1 78 (((9 * m) + (σ.2.1 73 m)) - 1))) + (σ.2.1 79 (((9 * m) + (σ.2.1 73 m)) - 1)))) dX12_step_522 (show mT[1]? = some (3, 0, 2860) from rfl) (by omega) (by omega) (by decide) (rfl) ?_
    have g24 := RG.a hR 3 (220 * (v5 + (σ.2.1 78 (((9 * m) + (σ.2.1 73 m)) - 1))) + (σ.2.1 79 (((9 * m) + (σ.2.1 73 m)) - 1)))
    refine tm_iload dX12_step_523 1 rfl ?_
    refine tm_aload_n dX12_step_525 rfl 6 rfl ?_
    refine tm_iload_n dX12_step_526 rfl 5 rfl ?_
    refine tm_aload_n dX12_step_527 rfl 6 rfl ?_
    refine tm_get (k := 7) (v := .ref (b + 1 + 5)) lay_12 dX12_step_528 (by decide) fl12_26 rfl ?_
    refine tm_iconst dX12_step_531 ?_
    refine tm_iload dX12_step_532 3 rfl ?_
    refine tm_imul dX12_step_534 ?_
    refine tm_iconst dX12_step_535 ?_
    refine tm_iadd dX12_step_536 ?_
    refine tm_iald (z := (4 * (220 * (v5 + (σ.2.1 78 (((9 * m) + (σ.2.1 73 m)) - 1))) + (σ.2.1 79 (((9 * m) + (σ.2.1 73 m)) - 1)))) + 1) (v := σ.2.1 7 ((4 * (220 * (v5 + (σ.2.1 78 (((9 * m) + (σ.2.1 73 m)) - 1))) + (σ.2.1 79 (((9 * m) + (σ.2.1 73 m)) - 1)))) + 1)) dX12_step_537 (show mT[5]? = some (7, 0, 11440) from rfl) (by omega) (by omega) (by decide) (rfl) ?_
    have g25 := RG.a hR 7 ((4 * (220 * (v5 + (σ.2.1 78 (((9 * m) + (σ.2.1 73 m)) - 1))) + (σ.2.1 79 (((9 * m) + (σ.2.1 73 m)) - 1)))) + 1)
    refine tm_aload_n dX12_step_538 rfl 6 rfl ?_
    refine tm_get (k := 8) (v := .ref (b + 1 + 6)) lay_12 dX12_step_539 (by decide) fl12_29 rfl ?_
    refine tm_iconst dX12_step_542 ?_
    refine tm_iload dX12_step_543 3 rfl ?_
    refine tm_imul dX12_step_545 ?_
    refine tm_iconst dX12_step_546 ?_
    refine tm_iadd dX12_step_547 ?_
    refine tm_iald (z := (4 * (220 * (v5 + (σ.2.1 78 (((9 * m) + (σ.2.1 73 m)) - 1))) + (σ.2.1 79 (((9 * m) + (σ.2.1 73 m)) - 1)))) + 1) (v := σ.2.1 8 ((4 * (220 * (v5 + (σ.2.1 78 (((9 * m) + (σ.2.1 73 m)) - 1))) + (σ.2.1 79 (((9 * m) + (σ.2.1 73 m)) - 1)))) + 1)) dX12_step_548 (show mT[6]? = some (8, 0, 11440) from rfl) (by omega) (by omega) (by decide) (rfl) ?_
    have g26 := RG.a hR 8 ((4 * (220 * (v5 + (σ.2.1 78 (((9 * m) + (σ.2.1 73 m)) - 1))) + (σ.2.1 79 (((9 * m) + (σ.2.1 73 m)) - 1)))) + 1)
    refine tm_callV (M := m_X12_step) (pc := 549) (ix := 545) (M' := m_X12_worth) (As := [.int (iI (((9 * m) + (σ.2.1 73 m)) - 1)), .int (iI (σ.2.1 7 ((4 * (220 * (v5 + (σ.2.1 78 (((9 * m) + (σ.2.1 73 m)) - 1))) + (σ.2.1 79 (((9 * m) + (σ.2.1 73 m)) - 1)))) + 1))), .int (iI (σ.2.1 8 ((4 * (220 * (v5 + (σ.2.1 78 (((9 * m) + (σ.2.1 73 m)) - 1))) + (σ.2.1 79 (((9 * m) + (σ.2.1 73 m)) - 1)))) + 1)))]) (rest := [.int (iI v18), .int (iI (σ.2.1 3 (220 * (v5 + (σ.2.1 78 (((9 * m) + (σ.2.1 73 m)) - 1))) + (σ.2.1 79 (((9 * m) + (σ.2.1 73 m)) - 1))))), .int (iI ((192 * (((9 * m) + (σ.2.1 73 m)) - 1)) + (σ.2.1 4 (220 * (v5 + (σ.2.1 78 (((9 * m) + (σ.2.1 73 m)) - 1))) + (σ.2.1 79 (((9 * m) + (σ.2.1 73 m)) - 1)))))), .ref (b + 1 + 53)]) dX12_step_549 ok_X12_worth im_X12_worth se_X12_worth ml12_545 np_X12_worth rfl rfl (Nat.le_of_ble_eq_true rfl) (Nat.le_of_ble_eq_true rfl) rfl (f_X12_worth (d + 1) (σ := σ) (c := ((9 * m) + (σ.2.1 73 m)) - 1) (k := σ.2.1 7 ((4 * (220 * (v5 + (σ.2.1 78 (((9 * m) + (σ.2.1 73 m)) - 1))) + (σ.2.1 79 (((9 * m) + (σ.2.1 73 m)) - 1)))) + 1)) (w := σ.2.1 8 ((4 * (220 * (v5 + (σ.2.1 78 (((9 * m) + (σ.2.1 73 m)) - 1))) + (σ.2.1 79 (((9 * m) + (σ.2.1 73 m)) - 1)))) + 1)) (by omega) hR (by omega) (by omega)) (fun r27 σ28 hp => ?_)
    obtain ⟨v29, rfl, rfl, f30, f31⟩ := hp
    show Tm _ _ 552 b σ [(7, .int (iI 0)), (6, .int (iI v18)), (5, .int (iI (192 * (((9 * m) + (σ.2.1 73 m)) - 1)))), (4, .int (iI (220 * (v5 + (σ.2.1 78 (((9 * m) + (σ.2.1 73 m)) - 1))) + (σ.2.1 79 (((9 * m) + (σ.2.1 73 m)) - 1))))), (3, .int (iI (σ.2.1 78 (((9 * m) + (σ.2.1 73 m)) - 1)))), (2, .int (iI (((9 * m) + (σ.2.1 73 m)) - 1))), (0, .ref b), (1, .int (iI m))] [.int (iI v29), .int (iI v18), .int (iI (σ.2.1 3 (220 * (v5 + (σ.2.1 78 (((9 * m) + (σ.2.1 73 m)) - 1))) + (σ.2.1 79 (((9 * m) + (σ.2.1 73 m)) - 1))))), .int (iI ((192 * (((9 * m) + (σ.2.1 73 m)) - 1)) + (σ.2.1 4 (220 * (v5 + (σ.2.1 78 (((9 * m) + (σ.2.1 73 m)) - 1))) + (σ.2.1 79 (((9 * m) + (σ.2.1 73 m)) - 1)))))), .ref (b + 1 + 53)] _
    have gB : v29 = wA σ (9 * m + σ.2.1 73 m - 1) (220 * (v5 + (σ.2.1 78 (((9 * m) + (σ.2.1 73 m)) - 1))) + (σ.2.1 79 (((9 * m) + (σ.2.1 73 m)) - 1))) 1 := f31
    refine tm_callS (M := m_X12_step) (pc := 552) (ix := 466) (M' := m_X12_worked) (As := [.int (iI (σ.2.1 3 (220 * (v5 + (σ.2.1 78 (((9 * m) + (σ.2.1 73 m)) - 1))) + (σ.2.1 79 (((9 * m) + (σ.2.1 73 m)) - 1))))), .int (iI v18), .int (iI v29)]) (rest := [.int (iI ((192 * (((9 * m) + (σ.2.1 73 m)) - 1)) + (σ.2.1 4 (220 * (v5 + (σ.2.1 78 (((9 * m) + (σ.2.1 73 m)) - 1))) + (σ.2.1 79 (((9 * m) + (σ.2.1 73 m)) - 1)))))), .ref (b + 1 + 53)]) dX12_step_552 ok_X12_worked stt_X12_worked ml12_466 np_X12_worked rfl (Nat.le_of_ble_eq_true rfl) (Nat.le_of_ble_eq_true rfl) rfl (f_X12_worked (d + 1) (σ := σ) (k := σ.2.1 3 (220 * (v5 + (σ.2.1 78 (((9 * m) + (σ.2.1 73 m)) - 1))) + (σ.2.1 79 (((9 * m) + (σ.2.1 73 m)) - 1)))) (x := v18) (y := v29) (by omega) (by omega) (by omega) (by omega)) (fun r32 σ33 hp => ?_)
    obtain ⟨v34, rfl, rfl, f35, f36⟩ := hp
    show Tm _ _ 555 b σ [(7, .int (iI 0)), (6, .int (iI v18)), (5, .int (iI (192 * (((9 * m) + (σ.2.1 73 m)) - 1)))), (4, .int (iI (220 * (v5 + (σ.2.1 78 (((9 * m) + (σ.2.1 73 m)) - 1))) + (σ.2.1 79 (((9 * m) + (σ.2.1 73 m)) - 1))))), (3, .int (iI (σ.2.1 78 (((9 * m) + (σ.2.1 73 m)) - 1)))), (2, .int (iI (((9 * m) + (σ.2.1 73 m)) - 1))), (0, .ref b), (1, .int (iI m))] [.int (iI v34), .int (iI ((192 * (((9 * m) + (σ.2.1 73 m)) - 1)) + (σ.2.1 4 (220 * (v5 + (σ.2.1 78 (((9 * m) + (σ.2.1 73 m)) - 1))) + (σ.2.1 79 (((9 * m) + (σ.2.1 73 m)) - 1)))))), .ref (b + 1 + 53)] _
    refine tm_iast (z := (192 * (((9 * m) + (σ.2.1 73 m)) - 1)) + (σ.2.1 4 (220 * (v5 + (σ.2.1 78 (((9 * m) + (σ.2.1 73 m)) - 1))) + (σ.2.1 79 (((9 * m) + (σ.2.1 73 m)) - 1))))) (v := v34) dX12_step_555 (show mT[53]? = some (82, 0, 5184) from rfl) (by omega) (by omega) (by decide) ?_
    refine tm_aload_n dX12_step_556 rfl 6 rfl ?_
    refine tm_get (k := 79) (v := .ref (b + 1 + 50)) lay_12 dX12_step_557 (by decide) fl12_170 rfl ?_
    refine tm_iload_n dX12_step_560 rfl 5 rfl ?_
    refine tm_dup2 dX12_step_561 rfl rfl ?_
    refine tm_iald (z := ((9 * m) + (σ.2.1 73 m)) - 1) (v := σ.2.1 79 (((9 * m) + (σ.2.1 73 m)) - 1)) dX12_step_562 (show mT[50]? = some (79, 0, 27) from rfl) (by omega) (by omega) (by decide) (ra_o (by decide) (rfl)) ?_
    have g37 := RG.a hR 79 (((9 * m) + (σ.2.1 73 m)) - 1)
    refine tm_iconst dX12_step_563 ?_
    refine tm_iadd dX12_step_564 ?_
    refine tm_iast (z := ((9 * m) + (σ.2.1 73 m)) - 1) (v := (σ.2.1 79 (((9 * m) + (σ.2.1 73 m)) - 1)) + 1) dX12_step_565 (show mT[50]? = some (79, 0, 27) from rfl) (by omega) (by omega) (by decide) ?_
    refine tm_iload dX12_step_566 0 rfl ?_
    exact tm_iret rfl dX12_step_568 (⟨_, rfl, ((Fr.rfl.A (by decide)).A (by decide)), ((hR.A (by omega)).A (by omega)), Or.inr (Or.inr ⟨by omega, hrun.top (t := 9 * m + σ.2.1 73 m - 1) rfl (show Fr [] [79, 82] [] σ (sA 79 (((9 * m) + (σ.2.1 73 m)) - 1) ((σ.2.1 79 (((9 * m) + (σ.2.1 73 m)) - 1)) + 1) (sA 82 ((192 * (((9 * m) + (σ.2.1 73 m)) - 1)) + (σ.2.1 4 (220 * (v5 + (σ.2.1 78 (((9 * m) + (σ.2.1 73 m)) - 1))) + (σ.2.1 79 (((9 * m) + (σ.2.1 73 m)) - 1))))) (v34) σ)) from ((Fr.rfl.A (by decide)).A (by decide))) (by decide) (by decide) rfl (fun _ _ _ => rfl) (fun z a b => ⟨ra_ne (by omega) rfl, rfl⟩) (by rw [show (sA 79 (((9 * m) + (σ.2.1 73 m)) - 1) ((σ.2.1 79 (((9 * m) + (σ.2.1 73 m)) - 1)) + 1) (sA 82 ((192 * (((9 * m) + (σ.2.1 73 m)) - 1)) + (σ.2.1 4 (220 * (v5 + (σ.2.1 78 (((9 * m) + (σ.2.1 73 m)) - 1))) + (σ.2.1 79 (((9 * m) + (σ.2.1 73 m)) - 1))))) (v34) σ)).2.1 79 (9 * m + σ.2.1 73 m - 1) = (σ.2.1 79 (((9 * m) + (σ.2.1 73 m)) - 1)) + 1 from ra_eq, show (sA 79 (((9 * m) + (σ.2.1 73 m)) - 1) ((σ.2.1 79 (((9 * m) + (σ.2.1 73 m)) - 1)) + 1) (sA 82 ((192 * (((9 * m) + (σ.2.1 73 m)) - 1)) + (σ.2.1 4 (220 * (v5 + (σ.2.1 78 (((9 * m) + (σ.2.1 73 m)) - 1))) + (σ.2.1 79 (((9 * m) + (σ.2.1 73 m)) - 1))))) (v34) σ)).2.1 80 (9 * m + σ.2.1 73 m - 1) = σ.2.1 80 (9 * m + σ.2.1 73 m - 1) from rfl]; exact hp.nx (by omega) (by omega) (by omega) (by omega)) (by rw [show (sA 79 (((9 * m) + (σ.2.1 73 m)) - 1) ((σ.2.1 79 (((9 * m) + (σ.2.1 73 m)) - 1)) + 1) (sA 82 ((192 * (((9 * m) + (σ.2.1 73 m)) - 1)) + (σ.2.1 4 (220 * (v5 + (σ.2.1 78 (((9 * m) + (σ.2.1 73 m)) - 1))) + (σ.2.1 79 (((9 * m) + (σ.2.1 73 m)) - 1))))) (v34) σ)).2.1 80 (9 * m + σ.2.1 73 m - 1) = σ.2.1 80 (9 * m + σ.2.1 73 m - 1) from rfl]; omega)⟩), ⟨fun j hj => ⟨rfl, rfl⟩, fun z hz => ⟨rfl, ra_ne (by omega) rfl, rfl⟩⟩, ⟨Int.le_refl _, (by show σ.2.1 76 m ≤ σ.2.1 76 m + 1; omega)⟩, fun _ => Or.inl ⟨by omega, by omega, rfl, fun _ => rfl, fun z hz => ra_ne hz rfl, Or.inl (by rw [show (sA 79 (((9 * m) + (σ.2.1 73 m)) - 1) ((σ.2.1 79 (((9 * m) + (σ.2.1 73 m)) - 1)) + 1) (sA 82 ((192 * (((9 * m) + (σ.2.1 73 m)) - 1)) + (σ.2.1 4 (220 * (v5 + (σ.2.1 78 (((9 * m) + (σ.2.1 73 m)) - 1))) + (σ.2.1 79 (((9 * m) + (σ.2.1 73 m)) - 1))))) (v34) σ)).2.1 79 (9 * m + σ.2.1 73 m - 1) = (σ.2.1 79 (((9 * m) + (σ.2.1 73 m)) - 1)) + 1 from ra_eq])⟩, by unfold STQ; rw [← hbv]; exact Or.inr (Or.inr (Or.inr (Or.inl (⟨by omega, rfl, by rw [← gA, ← gB, ← f36]⟩))))⟩)
  · have h22c : σ.2.1 3 (220 * (v5 + (σ.2.1 78 (((9 * m) + (σ.2.1 73 m)) - 1))) + (σ.2.1 79 (((9 * m) + (σ.2.1 73 m)) - 1))) = 0 ∨ σ.2.1 3 (220 * (v5 + (σ.2.1 78 (((9 * m) + (σ.2.1 73 m)) - 1))) + (σ.2.1 79 (((9 * m) + (σ.2.1 73 m)) - 1))) = 1 ∨ σ.2.1 3 (220 * (v5 + (σ.2.1 78 (((9 * m) + (σ.2.1 73 m)) - 1))) + (σ.2.1 79 (((9 * m) + (σ.2.1 73 m)) - 1))) = 2 ∨ σ.2.1 3 (220 * (v5 + (σ.2.1 78 (((9 * m) + (σ.2.1 73 m)) - 1))) + (σ.2.1 79 (((9 * m) + (σ.2.1 73 m)) - 1))) = 3 ∨ σ.2.1 3 (220 * (v5 + (σ.2.1 78 (((9 * m) + (σ.2.1 73 m)) - 1))) + (σ.2.1 79 (((9 * m) + (σ.2.1 73 m)) - 1))) = 4 ∨ σ.2.1 3 (220 * (v5 + (σ.2.1 78 (((9 * m) + (σ.2.1 73 m)) - 1))) + (σ.2.1 79 (((9 * m) + (σ.2.1 73 m)) - 1))) = 5 ∨ σ.2.1 3 (220 * (v5 + (σ.2.1 78 (((9 * m) + (σ.2.1 73 m)) - 1))) + (σ.2.1 79 (((9 * m) + (σ.2.1 73 m)) - 1))) = 6 ∨ σ.2.1 3 (220 * (v5 + (σ.2.1 78 (((9 * m) + (σ.2.1 73 m)) - 1))) + (σ.2.1 79 (((9 * m) + (σ.2.1 73 m)) - 1))) = 7 ∨ σ.2.1 3 (220 * (v5 + (σ.2.1 78 (((9 * m) + (σ.2.1 73 m)) - 1))) + (σ.2.1 79 (((9 * m) + (σ.2.1 73 m)) - 1))) = 8 ∨ σ.2.1 3 (220 * (v5 + (σ.2.1 78 (((9 * m) + (σ.2.1 73 m)) - 1))) + (σ.2.1 79 (((9 * m) + (σ.2.1 73 m)) - 1))) = 9 ∨ σ.2.1 3 (220 * (v5 + (σ.2.1 78 (((9 * m) + (σ.2.1 73 m)) - 1))) + (σ.2.1 79 (((9 * m) + (σ.2.1 73 m)) - 1))) = 10 ∨ σ.2.1 3 (220 * (v5 + (σ.2.1 78 (((9 * m) + (σ.2.1 73 m)) - 1))) + (σ.2.1 79 (((9 * m) + (σ.2.1 73 m)) - 1))) = 11 ∨ σ.2.1 3 (220 * (v5 + (σ.2.1 78 (((9 * m) + (σ.2.1 73 m)) - 1))) + (σ.2.1 79 (((9 * m) + (σ.2.1 73 m)) - 1))) = 12 ∨ σ.2.1 3 (220 * (v5 + (σ.2.1 78 (((9 * m) + (σ.2.1 73 m)) - 1))) + (σ.2.1 79 (((9 * m) + (σ.2.1 73 m)) - 1))) = 13 ∨ σ.2.1 3 (220 * (v5 + (σ.2.1 78 (((9 * m) + (σ.2.1 73 m)) - 1))) + (σ.2.1 79 (((9 * m) + (σ.2.1 73 m)) - 1))) = 14 ∨ σ.2.1 3 (220 * (v5 + (σ.2.1 78 (((9 * m) + (σ.2.1 73 m)) - 1))) + (σ.2.1 79 (((9 * m) + (σ.2.1 73 m)) - 1))) = 15 := by omega
    rcases h22c with h22v | h22v | h22v | h22v | h22v | h22v | h22v | h22v | h22v | h22v | h22v | h22v | h22v | h22v | h22v | h22v
    · refine tm_tableIn (tgt := 160) dX12_step_82 ⟨by omega, by omega⟩ (by omega) (by omega) (show _ = some (78) by rw [h22v]; rfl) (by decide) ?_
      have ho2 := hoki.2.1 (Or.inl (by omega))
      refine tm_aload_n dX12_step_160 rfl 6 rfl ?_
      refine tm_get (k := 82) (v := .ref (b + 1 + 53)) lay_12 dX12_step_161 (by decide) fl12_179 rfl ?_
      refine tm_iload dX12_step_164 2 rfl ?_
      refine tm_aload_n dX12_step_166 rfl 6 rfl ?_
      refine tm_get (k := 4) (v := .ref (b + 1 + 2)) lay_12 dX12_step_167 (by decide) fl12_17 rfl ?_
      refine tm_iload dX12_step_170 3 rfl ?_
      refine tm_iald (z := 220 * (v5 + (σ.2.1 78 (((9 * m) + (σ.2.1 73 m)) - 1))) + (σ.2.1 79 (((9 * m) + (σ.2.1 73 m)) - 1))) (v := σ.2.1 4 (220 * (v5 + (σ.2.1 78 (((9 * m) + (σ.2.1 73 m)) - 1))) + (σ.2.1 79 (((9 * m) + (σ.2.1 73 m)) - 1)))) dX12_step_172 (show mT[2]? = some (4, 0, 2860) from rfl) (by omega) (by omega) (by decide) (rfl) ?_
      have g38 := RG.a hR 4 (220 * (v5 + (σ.2.1 78 (((9 * m) + (σ.2.1 73 m)) - 1))) + (σ.2.1 79 (((9 * m) + (σ.2.1 73 m)) - 1)))
      refine tm_iadd dX12_step_173 ?_
      refine tm_iload dX12_step_174 1 rfl ?_
      refine tm_iast (z := (192 * (((9 * m) + (σ.2.1 73 m)) - 1)) + (σ.2.1 4 (220 * (v5 + (σ.2.1 78 (((9 * m) + (σ.2.1 73 m)) - 1))) + (σ.2.1 79 (((9 * m) + (σ.2.1 73 m)) - 1))))) (v := v18) dX12_step_176 (show mT[53]? = some (82, 0, 5184) from rfl) (by omega) (by omega) (by decide) ?_
      refine tm_goto (tgt := 556) dX12_step_177 (by decide) ?_
      refine tm_aload_n dX12_step_556 rfl 6 rfl ?_
      refine tm_get (k := 79) (v := .ref (b + 1 + 50)) lay_12 dX12_step_557 (by decide) fl12_170 rfl ?_
      refine tm_iload_n dX12_step_560 rfl 5 rfl ?_
      refine tm_dup2 dX12_step_561 rfl rfl ?_
      refine tm_iald (z := ((9 * m) + (σ.2.1 73 m)) - 1) (v := σ.2.1 79 (((9 * m) + (σ.2.1 73 m)) - 1)) dX12_step_562 (show mT[50]? = some (79, 0, 27) from rfl) (by omega) (by omega) (by decide) (ra_o (by decide) (rfl)) ?_
      have g39 := RG.a hR 79 (((9 * m) + (σ.2.1 73 m)) - 1)
      refine tm_iconst dX12_step_563 ?_
      refine tm_iadd dX12_step_564 ?_
      refine tm_iast (z := ((9 * m) + (σ.2.1 73 m)) - 1) (v := (σ.2.1 79 (((9 * m) + (σ.2.1 73 m)) - 1)) + 1) dX12_step_565 (show mT[50]? = some (79, 0, 27) from rfl) (by omega) (by omega) (by decide) ?_
      refine tm_iload dX12_step_566 0 rfl ?_
      exact tm_iret rfl dX12_step_568 (⟨_, rfl, ((Fr.rfl.A (by decide)).A (by decide)), ((hR.A (by omega)).A (by omega)), Or.inr (Or.inr ⟨by omega, hrun.top (t := 9 * m + σ.2.1 73 m - 1) rfl (show Fr [] [79, 82] [] σ (sA 79 (((9 * m) + (σ.2.1 73 m)) - 1) ((σ.2.1 79 (((9 * m) + (σ.2.1 73 m)) - 1)) + 1) (sA 82 ((192 * (((9 * m) + (σ.2.1 73 m)) - 1)) + (σ.2.1 4 (220 * (v5 + (σ.2.1 78 (((9 * m) + (σ.2.1 73 m)) - 1))) + (σ.2.1 79 (((9 * m) + (σ.2.1 73 m)) - 1))))) (v18) σ)) from ((Fr.rfl.A (by decide)).A (by decide))) (by decide) (by decide) rfl (fun _ _ _ => rfl) (fun z a b => ⟨ra_ne (by omega) rfl, rfl⟩) (by rw [show (sA 79 (((9 * m) + (σ.2.1 73 m)) - 1) ((σ.2.1 79 (((9 * m) + (σ.2.1 73 m)) - 1)) + 1) (sA 82 ((192 * (((9 * m) + (σ.2.1 73 m)) - 1)) + (σ.2.1 4 (220 * (v5 + (σ.2.1 78 (((9 * m) + (σ.2.1 73 m)) - 1))) + (σ.2.1 79 (((9 * m) + (σ.2.1 73 m)) - 1))))) (v18) σ)).2.1 79 (9 * m + σ.2.1 73 m - 1) = (σ.2.1 79 (((9 * m) + (σ.2.1 73 m)) - 1)) + 1 from ra_eq, show (sA 79 (((9 * m) + (σ.2.1 73 m)) - 1) ((σ.2.1 79 (((9 * m) + (σ.2.1 73 m)) - 1)) + 1) (sA 82 ((192 * (((9 * m) + (σ.2.1 73 m)) - 1)) + (σ.2.1 4 (220 * (v5 + (σ.2.1 78 (((9 * m) + (σ.2.1 73 m)) - 1))) + (σ.2.1 79 (((9 * m) + (σ.2.1 73 m)) - 1))))) (v18) σ)).2.1 80 (9 * m + σ.2.1 73 m - 1) = σ.2.1 80 (9 * m + σ.2.1 73 m - 1) from rfl]; exact hp.nx (by omega) (by omega) (by omega) (by omega)) (by rw [show (sA 79 (((9 * m) + (σ.2.1 73 m)) - 1) ((σ.2.1 79 (((9 * m) + (σ.2.1 73 m)) - 1)) + 1) (sA 82 ((192 * (((9 * m) + (σ.2.1 73 m)) - 1)) + (σ.2.1 4 (220 * (v5 + (σ.2.1 78 (((9 * m) + (σ.2.1 73 m)) - 1))) + (σ.2.1 79 (((9 * m) + (σ.2.1 73 m)) - 1))))) (v18) σ)).2.1 80 (9 * m + σ.2.1 73 m - 1) = σ.2.1 80 (9 * m + σ.2.1 73 m - 1) from rfl]; omega)⟩), ⟨fun j hj => ⟨rfl, rfl⟩, fun z hz => ⟨rfl, ra_ne (by omega) rfl, rfl⟩⟩, ⟨Int.le_refl _, (by show σ.2.1 76 m ≤ σ.2.1 76 m + 1; omega)⟩, fun _ => Or.inl ⟨by omega, by omega, rfl, fun _ => rfl, fun z hz => ra_ne hz rfl, Or.inl (by rw [show (sA 79 (((9 * m) + (σ.2.1 73 m)) - 1) ((σ.2.1 79 (((9 * m) + (σ.2.1 73 m)) - 1)) + 1) (sA 82 ((192 * (((9 * m) + (σ.2.1 73 m)) - 1)) + (σ.2.1 4 (220 * (v5 + (σ.2.1 78 (((9 * m) + (σ.2.1 73 m)) - 1))) + (σ.2.1 79 (((9 * m) + (σ.2.1 73 m)) - 1))))) (v18) σ)).2.1 79 (9 * m + σ.2.1 73 m - 1) = (σ.2.1 79 (((9 * m) + (σ.2.1 73 m)) - 1)) + 1 from ra_eq])⟩, by unfold STQ; rw [← hbv]; exact Or.inr (Or.inr (Or.inl (⟨by omega, rfl, by rw [← gA]⟩)))⟩)
    · refine tm_tableIn (tgt := 502) dX12_step_82 ⟨by omega, by omega⟩ (by omega) (by omega) (show _ = some (420) by rw [h22v]; rfl) (by decide) ?_
      have ho2 := hoki.2.1 (Or.inl (by omega))
      have ho81 := ho8 1 (by decide) (by decide)
      refine tm_aload_n dX12_step_502 rfl 6 rfl ?_
      refine tm_get (k := 82) (v := .ref (b + 1 + 53)) lay_12 dX12_step_503 (by decide) fl12_179 rfl ?_
      refine tm_iload dX12_step_506 2 rfl ?_
      refine tm_aload_n dX12_step_508 rfl 6 rfl ?_
      refine tm_get (k := 4) (v := .ref (b + 1 + 2)) lay_12 dX12_step_509 (by decide) fl12_17 rfl ?_
      refine tm_iload dX12_step_512 3 rfl ?_
      refine tm_iald (z := 220 * (v5 + (σ.2.1 78 (((9 * m) + (σ.2.1 73 m)) - 1))) + (σ.2.1 79 (((9 * m) + (σ.2.1 73 m)) - 1))) (v := σ.2.1 4 (220 * (v5 + (σ.2.1 78 (((9 * m) + (σ.2.1 73 m)) - 1))) + (σ.2.1 79 (((9 * m) + (σ.2.1 73 m)) - 1)))) dX12_step_514 (show mT[2]? = some (4, 0, 2860) from rfl) (by omega) (by omega) (by decide) (rfl) ?_
      have g40 := RG.a hR 4 (220 * (v5 + (σ.2.1 78 (((9 * m) + (σ.2.1 73 m)) - 1))) + (σ.2.1 79 (((9 * m) + (σ.2.1 73 m)) - 1)))
      refine tm_iadd dX12_step_515 ?_
      refine tm_aload_n dX12_step_516 rfl 6 rfl ?_
      refine tm_get (k := 3) (v := .ref (b + 1 + 1)) lay_12 dX12_step_517 (by decide) fl12_13 rfl ?_
      refine tm_iload dX12_step_520 3 rfl ?_
      refine tm_iald (z := 220 * (v5 + (σ.2.1 78 (((9 * m) + (σ.2.1 73 m)) - 1))) + (σ.2.1 79 (((9 * m) + (σ.2.1 73 m)) - 1))) (v := σ.2.1 3 (220 * (v5 + (σ.2.1 78 (((9 * m) + (σ.2.1 73 m)) - 1))) + (σ.2.1 79 (((9 * m) + (σ.2.1 73 m)) - 1)))) dX12_step_522 (show mT[1]? = some (3, 0, 2860) from rfl) (by omega) (by omega) (by decide) (rfl) ?_
      have g41 := RG.a hR 3 (220 * (v5 + (σ.2.1 78 (((9 * m) + (σ.2.1 73 m)) - 1))) + (σ.2.1 79 (((9 * m) + (σ.2.1 73 m)) - 1)))
      refine tm_iload dX12_step_523 1 rfl ?_
      refine tm_aload_n dX12_step_525 rfl 6 rfl ?_
      refine tm_iload_n dX12_step_526 rfl 5 rfl ?_
      refine tm_aload_n dX12_step_527 rfl 6 rfl ?_
      refine tm_get (k := 7) (v := .ref (b + 1 + 5)) lay_12 dX12_step_528 (by decide) fl12_26 rfl ?_
      refine tm_iconst dX12_step_531 ?_
      refine tm_iload dX12_step_532 3 rfl ?_
      refine tm_imul dX12_step_534 ?_
      refine tm_iconst dX12_step_535 ?_
      refine tm_iadd dX12_step_536 ?_
      refine tm_iald (z := (4 * (220 * (v5 + (σ.2.1 78 (((9 * m) + (σ.2.1 73 m)) - 1))) + (σ.2.1 79 (((9 * m) + (σ.2.1 73 m)) - 1)))) + 1) (v := σ.2.1 7 ((4 * (220 * (v5 + (σ.2.1 78 (((9 * m) + (σ.2.1 73 m)) - 1))) + (σ.2.1 79 (((9 * m) + (σ.2.1 73 m)) - 1)))) + 1)) dX12_step_537 (show mT[5]? = some (7, 0, 11440) from rfl) (by omega) (by omega) (by decide) (rfl) ?_
      have g42 := RG.a hR 7 ((4 * (220 * (v5 + (σ.2.1 78 (((9 * m) + (σ.2.1 73 m)) - 1))) + (σ.2.1 79 (((9 * m) + (σ.2.1 73 m)) - 1)))) + 1)
      refine tm_aload_n dX12_step_538 rfl 6 rfl ?_
      refine tm_get (k := 8) (v := .ref (b + 1 + 6)) lay_12 dX12_step_539 (by decide) fl12_29 rfl ?_
      refine tm_iconst dX12_step_542 ?_
      refine tm_iload dX12_step_543 3 rfl ?_
      refine tm_imul dX12_step_545 ?_
      refine tm_iconst dX12_step_546 ?_
      refine tm_iadd dX12_step_547 ?_
      refine tm_iald (z := (4 * (220 * (v5 + (σ.2.1 78 (((9 * m) + (σ.2.1 73 m)) - 1))) + (σ.2.1 79 (((9 * m) + (σ.2.1 73 m)) - 1)))) + 1) (v := σ.2.1 8 ((4 * (220 * (v5 + (σ.2.1 78 (((9 * m) + (σ.2.1 73 m)) - 1))) + (σ.2.1 79 (((9 * m) + (σ.2.1 73 m)) - 1)))) + 1)) dX12_step_548 (show mT[6]? = some (8, 0, 11440) from rfl) (by omega) (by omega) (by decide) (rfl) ?_
      have g43 := RG.a hR 8 ((4 * (220 * (v5 + (σ.2.1 78 (((9 * m) + (σ.2.1 73 m)) - 1))) + (σ.2.1 79 (((9 * m) + (σ.2.1 73 m)) - 1)))) + 1)
      refine tm_callV (M := m_X12_step) (pc := 549) (ix := 545) (M' := m_X12_worth) (As := [.int (iI (((9 * m) + (σ.2.1 73 m)) - 1)), .int (iI (σ.2.1 7 ((4 * (220 * (v5 + (σ.2.1 78 (((9 * m) + (σ.2.1 73 m)) - 1))) + (σ.2.1 79 (((9 * m) + (σ.2.1 73 m)) - 1)))) + 1))), .int (iI (σ.2.1 8 ((4 * (220 * (v5 + (σ.2.1 78 (((9 * m) + (σ.2.1 73 m)) - 1))) + (σ.2.1 79 (((9 * m) + (σ.2.1 73 m)) - 1)))) + 1)))]) (rest := [.int (iI v18), .int (iI (σ.2.1 3 (220 * (v5 + (σ.2.1 78 (((9 * m) + (σ.2.1 73 m)) - 1))) + (σ.2.1 79 (((9 * m) + (σ.2.1 73 m)) - 1))))), .int (iI ((192 * (((9 * m) + (σ.2.1 73 m)) - 1)) + (σ.2.1 4 (220 * (v5 + (σ.2.1 78 (((9 * m) + (σ.2.1 73 m)) - 1))) + (σ.2.1 79 (((9 * m) + (σ.2.1 73 m)) - 1)))))), .ref (b + 1 + 53)]) dX12_step_549 ok_X12_worth im_X12_worth se_X12_worth ml12_545 np_X12_worth rfl rfl (Nat.le_of_ble_eq_true rfl) (Nat.le_of_ble_eq_true rfl) rfl (f_X12_worth (d + 1) (σ := σ) (c := ((9 * m) + (σ.2.1 73 m)) - 1) (k := σ.2.1 7 ((4 * (220 * (v5 + (σ.2.1 78 (((9 * m) + (σ.2.1 73 m)) - 1))) + (σ.2.1 79 (((9 * m) + (σ.2.1 73 m)) - 1)))) + 1)) (w := σ.2.1 8 ((4 * (220 * (v5 + (σ.2.1 78 (((9 * m) + (σ.2.1 73 m)) - 1))) + (σ.2.1 79 (((9 * m) + (σ.2.1 73 m)) - 1)))) + 1)) (by omega) hR (by omega) (by omega)) (fun r44 σ45 hp => ?_)
      obtain ⟨v46, rfl, rfl, f47, f48⟩ := hp
      show Tm _ _ 552 b σ [(7, .int (iI 0)), (6, .int (iI v18)), (5, .int (iI (192 * (((9 * m) + (σ.2.1 73 m)) - 1)))), (4, .int (iI (220 * (v5 + (σ.2.1 78 (((9 * m) + (σ.2.1 73 m)) - 1))) + (σ.2.1 79 (((9 * m) + (σ.2.1 73 m)) - 1))))), (3, .int (iI (σ.2.1 78 (((9 * m) + (σ.2.1 73 m)) - 1)))), (2, .int (iI (((9 * m) + (σ.2.1 73 m)) - 1))), (0, .ref b), (1, .int (iI m))] [.int (iI v46), .int (iI v18), .int (iI (σ.2.1 3 (220 * (v5 + (σ.2.1 78 (((9 * m) + (σ.2.1 73 m)) - 1))) + (σ.2.1 79 (((9 * m) + (σ.2.1 73 m)) - 1))))), .int (iI ((192 * (((9 * m) + (σ.2.1 73 m)) - 1)) + (σ.2.1 4 (220 * (v5 + (σ.2.1 78 (((9 * m) + (σ.2.1 73 m)) - 1))) + (σ.2.1 79 (((9 * m) + (σ.2.1 73 m)) - 1)))))), .ref (b + 1 + 53)] _
      have gB : v46 = wA σ (9 * m + σ.2.1 73 m - 1) (220 * (v5 + (σ.2.1 78 (((9 * m) + (σ.2.1 73 m)) - 1))) + (σ.2.1 79 (((9 * m) + (σ.2.1 73 m)) - 1))) 1 := f48
      refine tm_callS (M := m_X12_step) (pc := 552) (ix := 466) (M' := m_X12_worked) (As := [.int (iI (σ.2.1 3 (220 * (v5 + (σ.2.1 78 (((9 * m) + (σ.2.1 73 m)) - 1))) + (σ.2.1 79 (((9 * m) + (σ.2.1 73 m)) - 1))))), .int (iI v18), .int (iI v46)]) (rest := [.int (iI ((192 * (((9 * m) + (σ.2.1 73 m)) - 1)) + (σ.2.1 4 (220 * (v5 + (σ.2.1 78 (((9 * m) + (σ.2.1 73 m)) - 1))) + (σ.2.1 79 (((9 * m) + (σ.2.1 73 m)) - 1)))))), .ref (b + 1 + 53)]) dX12_step_552 ok_X12_worked stt_X12_worked ml12_466 np_X12_worked rfl (Nat.le_of_ble_eq_true rfl) (Nat.le_of_ble_eq_true rfl) rfl (f_X12_worked (d + 1) (σ := σ) (k := σ.2.1 3 (220 * (v5 + (σ.2.1 78 (((9 * m) + (σ.2.1 73 m)) - 1))) + (σ.2.1 79 (((9 * m) + (σ.2.1 73 m)) - 1)))) (x := v18) (y := v46) (by omega) (by omega) (by omega) (by omega)) (fun r49 σ50 hp => ?_)
      obtain ⟨v51, rfl, rfl, f52, f53⟩ := hp
      show Tm _ _ 555 b σ [(7, .int (iI 0)), (6, .int (iI v18)), (5, .int (iI (192 * (((9 * m) + (σ.2.1 73 m)) - 1)))), (4, .int (iI (220 * (v5 + (σ.2.1 78 (((9 * m) + (σ.2.1 73 m)) - 1))) + (σ.2.1 79 (((9 * m) + (σ.2.1 73 m)) - 1))))), (3, .int (iI (σ.2.1 78 (((9 * m) + (σ.2.1 73 m)) - 1)))), (2, .int (iI (((9 * m) + (σ.2.1 73 m)) - 1))), (0, .ref b), (1, .int (iI m))] [.int (iI v51), .int (iI ((192 * (((9 * m) + (σ.2.1 73 m)) - 1)) + (σ.2.1 4 (220 * (v5 + (σ.2.1 78 (((9 * m) + (σ.2.1 73 m)) - 1))) + (σ.2.1 79 (((9 * m) + (σ.2.1 73 m)) - 1)))))), .ref (b + 1 + 53)] _
      refine tm_iast (z := (192 * (((9 * m) + (σ.2.1 73 m)) - 1)) + (σ.2.1 4 (220 * (v5 + (σ.2.1 78 (((9 * m) + (σ.2.1 73 m)) - 1))) + (σ.2.1 79 (((9 * m) + (σ.2.1 73 m)) - 1))))) (v := v51) dX12_step_555 (show mT[53]? = some (82, 0, 5184) from rfl) (by omega) (by omega) (by decide) ?_
      refine tm_aload_n dX12_step_556 rfl 6 rfl ?_
      refine tm_get (k := 79) (v := .ref (b + 1 + 50)) lay_12 dX12_step_557 (by decide) fl12_170 rfl ?_
      refine tm_iload_n dX12_step_560 rfl 5 rfl ?_
      refine tm_dup2 dX12_step_561 rfl rfl ?_
      refine tm_iald (z := ((9 * m) + (σ.2.1 73 m)) - 1) (v := σ.2.1 79 (((9 * m) + (σ.2.1 73 m)) - 1)) dX12_step_562 (show mT[50]? = some (79, 0, 27) from rfl) (by omega) (by omega) (by decide) (ra_o (by decide) (rfl)) ?_
      have g54 := RG.a hR 79 (((9 * m) + (σ.2.1 73 m)) - 1)
      refine tm_iconst dX12_step_563 ?_
      refine tm_iadd dX12_step_564 ?_
      refine tm_iast (z := ((9 * m) + (σ.2.1 73 m)) - 1) (v := (σ.2.1 79 (((9 * m) + (σ.2.1 73 m)) - 1)) + 1) dX12_step_565 (show mT[50]? = some (79, 0, 27) from rfl) (by omega) (by omega) (by decide) ?_
      refine tm_iload dX12_step_566 0 rfl ?_
      exact tm_iret rfl dX12_step_568 (⟨_, rfl, ((Fr.rfl.A (by decide)).A (by decide)), ((hR.A (by omega)).A (by omega)), Or.inr (Or.inr ⟨by omega, hrun.top (t := 9 * m + σ.2.1 73 m - 1) rfl (show Fr [] [79, 82] [] σ (sA 79 (((9 * m) + (σ.2.1 73 m)) - 1) ((σ.2.1 79 (((9 * m) + (σ.2.1 73 m)) - 1)) + 1) (sA 82 ((192 * (((9 * m) + (σ.2.1 73 m)) - 1)) + (σ.2.1 4 (220 * (v5 + (σ.2.1 78 (((9 * m) + (σ.2.1 73 m)) - 1))) + (σ.2.1 79 (((9 * m) + (σ.2.1 73 m)) - 1))))) (v51) σ)) from ((Fr.rfl.A (by decide)).A (by decide))) (by decide) (by decide) rfl (fun _ _ _ => rfl) (fun z a b => ⟨ra_ne (by omega) rfl, rfl⟩) (by rw [show (sA 79 (((9 * m) + (σ.2.1 73 m)) - 1) ((σ.2.1 79 (((9 * m) + (σ.2.1 73 m)) - 1)) + 1) (sA 82 ((192 * (((9 * m) + (σ.2.1 73 m)) - 1)) + (σ.2.1 4 (220 * (v5 + (σ.2.1 78 (((9 * m) + (σ.2.1 73 m)) - 1))) + (σ.2.1 79 (((9 * m) + (σ.2.1 73 m)) - 1))))) (v51) σ)).2.1 79 (9 * m + σ.2.1 73 m - 1) = (σ.2.1 79 (((9 * m) + (σ.2.1 73 m)) - 1)) + 1 from ra_eq, show (sA 79 (((9 * m) + (σ.2.1 73 m)) - 1) ((σ.2.1 79 (((9 * m) + (σ.2.1 73 m)) - 1)) + 1) (sA 82 ((192 * (((9 * m) + (σ.2.1 73 m)) - 1)) + (σ.2.1 4 (220 * (v5 + (σ.2.1 78 (((9 * m) + (σ.2.1 73 m)) - 1))) + (σ.2.1 79 (((9 * m) + (σ.2.1 73 m)) - 1))))) (v51) σ)).2.1 80 (9 * m + σ.2.1 73 m - 1) = σ.2.1 80 (9 * m + σ.2.1 73 m - 1) from rfl]; exact hp.nx (by omega) (by omega) (by omega) (by omega)) (by rw [show (sA 79 (((9 * m) + (σ.2.1 73 m)) - 1) ((σ.2.1 79 (((9 * m) + (σ.2.1 73 m)) - 1)) + 1) (sA 82 ((192 * (((9 * m) + (σ.2.1 73 m)) - 1)) + (σ.2.1 4 (220 * (v5 + (σ.2.1 78 (((9 * m) + (σ.2.1 73 m)) - 1))) + (σ.2.1 79 (((9 * m) + (σ.2.1 73 m)) - 1))))) (v51) σ)).2.1 80 (9 * m + σ.2.1 73 m - 1) = σ.2.1 80 (9 * m + σ.2.1 73 m - 1) from rfl]; omega)⟩), ⟨fun j hj => ⟨rfl, rfl⟩, fun z hz => ⟨rfl, ra_ne (by omega) rfl, rfl⟩⟩, ⟨Int.le_refl _, (by show σ.2.1 76 m ≤ σ.2.1 76 m + 1; omega)⟩, fun _ => Or.inl ⟨by omega, by omega, rfl, fun _ => rfl, fun z hz => ra_ne hz rfl, Or.inl (by rw [show (sA 79 (((9 * m) + (σ.2.1 73 m)) - 1) ((σ.2.1 79 (((9 * m) + (σ.2.1 73 m)) - 1)) + 1) (sA 82 ((192 * (((9 * m) + (σ.2.1 73 m)) - 1)) + (σ.2.1 4 (220 * (v5 + (σ.2.1 78 (((9 * m) + (σ.2.1 73 m)) - 1))) + (σ.2.1 79 (((9 * m) + (σ.2.1 73 m)) - 1))))) (v51) σ)).2.1 79 (9 * m + σ.2.1 73 m - 1) = (σ.2.1 79 (((9 * m) + (σ.2.1 73 m)) - 1)) + 1 from ra_eq])⟩, by unfold STQ; rw [← hbv]; exact Or.inr (Or.inr (Or.inr (Or.inl (⟨by omega, rfl, by rw [← gA, ← gB, ← f53]⟩))))⟩)
    · refine tm_tableIn (tgt := 502) dX12_step_82 ⟨by omega, by omega⟩ (by omega) (by omega) (show _ = some (420) by rw [h22v]; rfl) (by decide) ?_
      have ho2 := hoki.2.1 (Or.inl (by omega))
      have ho81 := ho8 1 (by decide) (by decide)
      refine tm_aload_n dX12_step_502 rfl 6 rfl ?_
      refine tm_get (k := 82) (v := .ref (b + 1 + 53)) lay_12 dX12_step_503 (by decide) fl12_179 rfl ?_
      refine tm_iload dX12_step_506 2 rfl ?_
      refine tm_aload_n dX12_step_508 rfl 6 rfl ?_
      refine tm_get (k := 4) (v := .ref (b + 1 + 2)) lay_12 dX12_step_509 (by decide) fl12_17 rfl ?_
      refine tm_iload dX12_step_512 3 rfl ?_
      refine tm_iald (z := 220 * (v5 + (σ.2.1 78 (((9 * m) + (σ.2.1 73 m)) - 1))) + (σ.2.1 79 (((9 * m) + (σ.2.1 73 m)) - 1))) (v := σ.2.1 4 (220 * (v5 + (σ.2.1 78 (((9 * m) + (σ.2.1 73 m)) - 1))) + (σ.2.1 79 (((9 * m) + (σ.2.1 73 m)) - 1)))) dX12_step_514 (show mT[2]? = some (4, 0, 2860) from rfl) (by omega) (by omega) (by decide) (rfl) ?_
      have g55 := RG.a hR 4 (220 * (v5 + (σ.2.1 78 (((9 * m) + (σ.2.1 73 m)) - 1))) + (σ.2.1 79 (((9 * m) + (σ.2.1 73 m)) - 1)))
      refine tm_iadd dX12_step_515 ?_
      refine tm_aload_n dX12_step_516 rfl 6 rfl ?_
      refine tm_get (k := 3) (v := .ref (b + 1 + 1)) lay_12 dX12_step_517 (by decide) fl12_13 rfl ?_
      refine tm_iload dX12_step_520 3 rfl ?_
      refine tm_iald (z := 220 * (v5 + (σ.2.1 78 (((9 * m) + (σ.2.1 73 m)) - 1))) + (σ.2.1 79 (((9 * m) + (σ.2.1 73 m)) - 1))) (v := σ.2.1 3 (220 * (v5 + (σ.2.1 78 (((9 * m) + (σ.2.1 73 m)) - 1))) + (σ.2.1 79 (((9 * m) + (σ.2.1 73 m)) - 1)))) dX12_step_522 (show mT[1]? = some (3, 0, 2860) from rfl) (by omega) (by omega) (by decide) (rfl) ?_
      have g56 := RG.a hR 3 (220 * (v5 + (σ.2.1 78 (((9 * m) + (σ.2.1 73 m)) - 1))) + (σ.2.1 79 (((9 * m) + (σ.2.1 73 m)) - 1)))
      refine tm_iload dX12_step_523 1 rfl ?_
      refine tm_aload_n dX12_step_525 rfl 6 rfl ?_
      refine tm_iload_n dX12_step_526 rfl 5 rfl ?_
      refine tm_aload_n dX12_step_527 rfl 6 rfl ?_
      refine tm_get (k := 7) (v := .ref (b + 1 + 5)) lay_12 dX12_step_528 (by decide) fl12_26 rfl ?_
      refine tm_iconst dX12_step_531 ?_
      refine tm_iload dX12_step_532 3 rfl ?_
      refine tm_imul dX12_step_534 ?_
      refine tm_iconst dX12_step_535 ?_
      refine tm_iadd dX12_step_536 ?_
      refine tm_iald (z := (4 * (220 * (v5 + (σ.2.1 78 (((9 * m) + (σ.2.1 73 m)) - 1))) + (σ.2.1 79 (((9 * m) + (σ.2.1 73 m)) - 1)))) + 1) (v := σ.2.1 7 ((4 * (220 * (v5 + (σ.2.1 78 (((9 * m) + (σ.2.1 73 m)) - 1))) + (σ.2.1 79 (((9 * m) + (σ.2.1 73 m)) - 1)))) + 1)) dX12_step_537 (show mT[5]? = some (7, 0, 11440) from rfl) (by omega) (by omega) (by decide) (rfl) ?_
      have g57 := RG.a hR 7 ((4 * (220 * (v5 + (σ.2.1 78 (((9 * m) + (σ.2.1 73 m)) - 1))) + (σ.2.1 79 (((9 * m) + (σ.2.1 73 m)) - 1)))) + 1)
      refine tm_aload_n dX12_step_538 rfl 6 rfl ?_
      refine tm_get (k := 8) (v := .ref (b + 1 + 6)) lay_12 dX12_step_539 (by decide) fl12_29 rfl ?_
      refine tm_iconst dX12_step_542 ?_
      refine tm_iload dX12_step_543 3 rfl ?_
      refine tm_imul dX12_step_545 ?_
      refine tm_iconst dX12_step_546 ?_
      refine tm_iadd dX12_step_547 ?_
      refine tm_iald (z := (4 * (220 * (v5 + (σ.2.1 78 (((9 * m) + (σ.2.1 73 m)) - 1))) + (σ.2.1 79 (((9 * m) + (σ.2.1 73 m)) - 1)))) + 1) (v := σ.2.1 8 ((4 * (220 * (v5 + (σ.2.1 78 (((9 * m) + (σ.2.1 73 m)) - 1))) + (σ.2.1 79 (((9 * m) + (σ.2.1 73 m)) - 1)))) + 1)) dX12_step_548 (show mT[6]? = some (8, 0, 11440) from rfl) (by omega) (by omega) (by decide) (rfl) ?_
      have g58 := RG.a hR 8 ((4 * (220 * (v5 + (σ.2.1 78 (((9 * m) + (σ.2.1 73 m)) - 1))) + (σ.2.1 79 (((9 * m) + (σ.2.1 73 m)) - 1)))) + 1)
      refine tm_callV (M := m_X12_step) (pc := 549) (ix := 545) (M' := m_X12_worth) (As := [.int (iI (((9 * m) + (σ.2.1 73 m)) - 1)), .int (iI (σ.2.1 7 ((4 * (220 * (v5 + (σ.2.1 78 (((9 * m) + (σ.2.1 73 m)) - 1))) + (σ.2.1 79 (((9 * m) + (σ.2.1 73 m)) - 1)))) + 1))), .int (iI (σ.2.1 8 ((4 * (220 * (v5 + (σ.2.1 78 (((9 * m) + (σ.2.1 73 m)) - 1))) + (σ.2.1 79 (((9 * m) + (σ.2.1 73 m)) - 1)))) + 1)))]) (rest := [.int (iI v18), .int (iI (σ.2.1 3 (220 * (v5 + (σ.2.1 78 (((9 * m) + (σ.2.1 73 m)) - 1))) + (σ.2.1 79 (((9 * m) + (σ.2.1 73 m)) - 1))))), .int (iI ((192 * (((9 * m) + (σ.2.1 73 m)) - 1)) + (σ.2.1 4 (220 * (v5 + (σ.2.1 78 (((9 * m) + (σ.2.1 73 m)) - 1))) + (σ.2.1 79 (((9 * m) + (σ.2.1 73 m)) - 1)))))), .ref (b + 1 + 53)]) dX12_step_549 ok_X12_worth im_X12_worth se_X12_worth ml12_545 np_X12_worth rfl rfl (Nat.le_of_ble_eq_true rfl) (Nat.le_of_ble_eq_true rfl) rfl (f_X12_worth (d + 1) (σ := σ) (c := ((9 * m) + (σ.2.1 73 m)) - 1) (k := σ.2.1 7 ((4 * (220 * (v5 + (σ.2.1 78 (((9 * m) + (σ.2.1 73 m)) - 1))) + (σ.2.1 79 (((9 * m) + (σ.2.1 73 m)) - 1)))) + 1)) (w := σ.2.1 8 ((4 * (220 * (v5 + (σ.2.1 78 (((9 * m) + (σ.2.1 73 m)) - 1))) + (σ.2.1 79 (((9 * m) + (σ.2.1 73 m)) - 1)))) + 1)) (by omega) hR (by omega) (by omega)) (fun r59 σ60 hp => ?_)
      obtain ⟨v61, rfl, rfl, f62, f63⟩ := hp
      show Tm _ _ 552 b σ [(7, .int (iI 0)), (6, .int (iI v18)), (5, .int (iI (192 * (((9 * m) + (σ.2.1 73 m)) - 1)))), (4, .int (iI (220 * (v5 + (σ.2.1 78 (((9 * m) + (σ.2.1 73 m)) - 1))) + (σ.2.1 79 (((9 * m) + (σ.2.1 73 m)) - 1))))), (3, .int (iI (σ.2.1 78 (((9 * m) + (σ.2.1 73 m)) - 1)))), (2, .int (iI (((9 * m) + (σ.2.1 73 m)) - 1))), (0, .ref b), (1, .int (iI m))] [.int (iI v61), .int (iI v18), .int (iI (σ.2.1 3 (220 * (v5 + (σ.2.1 78 (((9 * m) + (σ.2.1 73 m)) - 1))) + (σ.2.1 79 (((9 * m) + (σ.2.1 73 m)) - 1))))), .int (iI ((192 * (((9 * m) + (σ.2.1 73 m)) - 1)) + (σ.2.1 4 (220 * (v5 + (σ.2.1 78 (((9 * m) + (σ.2.1 73 m)) - 1))) + (σ.2.1 79 (((9 * m) + (σ.2.1 73 m)) - 1)))))), .ref (b + 1 + 53)] _
      have gB : v61 = wA σ (9 * m + σ.2.1 73 m - 1) (220 * (v5 + (σ.2.1 78 (((9 * m) + (σ.2.1 73 m)) - 1))) + (σ.2.1 79 (((9 * m) + (σ.2.1 73 m)) - 1))) 1 := f63
      refine tm_callS (M := m_X12_step) (pc := 552) (ix := 466) (M' := m_X12_worked) (As := [.int (iI (σ.2.1 3 (220 * (v5 + (σ.2.1 78 (((9 * m) + (σ.2.1 73 m)) - 1))) + (σ.2.1 79 (((9 * m) + (σ.2.1 73 m)) - 1))))), .int (iI v18), .int (iI v61)]) (rest := [.int (iI ((192 * (((9 * m) + (σ.2.1 73 m)) - 1)) + (σ.2.1 4 (220 * (v5 + (σ.2.1 78 (((9 * m) + (σ.2.1 73 m)) - 1))) + (σ.2.1 79 (((9 * m) + (σ.2.1 73 m)) - 1)))))), .ref (b + 1 + 53)]) dX12_step_552 ok_X12_worked stt_X12_worked ml12_466 np_X12_worked rfl (Nat.le_of_ble_eq_true rfl) (Nat.le_of_ble_eq_true rfl) rfl (f_X12_worked (d + 1) (σ := σ) (k := σ.2.1 3 (220 * (v5 + (σ.2.1 78 (((9 * m) + (σ.2.1 73 m)) - 1))) + (σ.2.1 79 (((9 * m) + (σ.2.1 73 m)) - 1)))) (x := v18) (y := v61) (by omega) (by omega) (by omega) (by omega)) (fun r64 σ65 hp => ?_)
      obtain ⟨v66, rfl, rfl, f67, f68⟩ := hp
      show Tm _ _ 555 b σ [(7, .int (iI 0)), (6, .int (iI v18)), (5, .int (iI (192 * (((9 * m) + (σ.2.1 73 m)) - 1)))), (4, .int (iI (220 * (v5 + (σ.2.1 78 (((9 * m) + (σ.2.1 73 m)) - 1))) + (σ.2.1 79 (((9 * m) + (σ.2.1 73 m)) - 1))))), (3, .int (iI (σ.2.1 78 (((9 * m) + (σ.2.1 73 m)) - 1)))), (2, .int (iI (((9 * m) + (σ.2.1 73 m)) - 1))), (0, .ref b), (1, .int (iI m))] [.int (iI v66), .int (iI ((192 * (((9 * m) + (σ.2.1 73 m)) - 1)) + (σ.2.1 4 (220 * (v5 + (σ.2.1 78 (((9 * m) + (σ.2.1 73 m)) - 1))) + (σ.2.1 79 (((9 * m) + (σ.2.1 73 m)) - 1)))))), .ref (b + 1 + 53)] _
      refine tm_iast (z := (192 * (((9 * m) + (σ.2.1 73 m)) - 1)) + (σ.2.1 4 (220 * (v5 + (σ.2.1 78 (((9 * m) + (σ.2.1 73 m)) - 1))) + (σ.2.1 79 (((9 * m) + (σ.2.1 73 m)) - 1))))) (v := v66) dX12_step_555 (show mT[53]? = some (82, 0, 5184) from rfl) (by omega) (by omega) (by decide) ?_
      refine tm_aload_n dX12_step_556 rfl 6 rfl ?_
      refine tm_get (k := 79) (v := .ref (b + 1 + 50)) lay_12 dX12_step_557 (by decide) fl12_170 rfl ?_
      refine tm_iload_n dX12_step_560 rfl 5 rfl ?_
      refine tm_dup2 dX12_step_561 rfl rfl ?_
      refine tm_iald (z := ((9 * m) + (σ.2.1 73 m)) - 1) (v := σ.2.1 79 (((9 * m) + (σ.2.1 73 m)) - 1)) dX12_step_562 (show mT[50]? = some (79, 0, 27) from rfl) (by omega) (by omega) (by decide) (ra_o (by decide) (rfl)) ?_
      have g69 := RG.a hR 79 (((9 * m) + (σ.2.1 73 m)) - 1)
      refine tm_iconst dX12_step_563 ?_
      refine tm_iadd dX12_step_564 ?_
      refine tm_iast (z := ((9 * m) + (σ.2.1 73 m)) - 1) (v := (σ.2.1 79 (((9 * m) + (σ.2.1 73 m)) - 1)) + 1) dX12_step_565 (show mT[50]? = some (79, 0, 27) from rfl) (by omega) (by omega) (by decide) ?_
      refine tm_iload dX12_step_566 0 rfl ?_
      exact tm_iret rfl dX12_step_568 (⟨_, rfl, ((Fr.rfl.A (by decide)).A (by decide)), ((hR.A (by omega)).A (by omega)), Or.inr (Or.inr ⟨by omega, hrun.top (t := 9 * m + σ.2.1 73 m - 1) rfl (show Fr [] [79, 82] [] σ (sA 79 (((9 * m) + (σ.2.1 73 m)) - 1) ((σ.2.1 79 (((9 * m) + (σ.2.1 73 m)) - 1)) + 1) (sA 82 ((192 * (((9 * m) + (σ.2.1 73 m)) - 1)) + (σ.2.1 4 (220 * (v5 + (σ.2.1 78 (((9 * m) + (σ.2.1 73 m)) - 1))) + (σ.2.1 79 (((9 * m) + (σ.2.1 73 m)) - 1))))) (v66) σ)) from ((Fr.rfl.A (by decide)).A (by decide))) (by decide) (by decide) rfl (fun _ _ _ => rfl) (fun z a b => ⟨ra_ne (by omega) rfl, rfl⟩) (by rw [show (sA 79 (((9 * m) + (σ.2.1 73 m)) - 1) ((σ.2.1 79 (((9 * m) + (σ.2.1 73 m)) - 1)) + 1) (sA 82 ((192 * (((9 * m) + (σ.2.1 73 m)) - 1)) + (σ.2.1 4 (220 * (v5 + (σ.2.1 78 (((9 * m) + (σ.2.1 73 m)) - 1))) + (σ.2.1 79 (((9 * m) + (σ.2.1 73 m)) - 1))))) (v66) σ)).2.1 79 (9 * m + σ.2.1 73 m - 1) = (σ.2.1 79 (((9 * m) + (σ.2.1 73 m)) - 1)) + 1 from ra_eq, show (sA 79 (((9 * m) + (σ.2.1 73 m)) - 1) ((σ.2.1 79 (((9 * m) + (σ.2.1 73 m)) - 1)) + 1) (sA 82 ((192 * (((9 * m) + (σ.2.1 73 m)) - 1)) + (σ.2.1 4 (220 * (v5 + (σ.2.1 78 (((9 * m) + (σ.2.1 73 m)) - 1))) + (σ.2.1 79 (((9 * m) + (σ.2.1 73 m)) - 1))))) (v66) σ)).2.1 80 (9 * m + σ.2.1 73 m - 1) = σ.2.1 80 (9 * m + σ.2.1 73 m - 1) from rfl]; exact hp.nx (by omega) (by omega) (by omega) (by omega)) (by rw [show (sA 79 (((9 * m) + (σ.2.1 73 m)) - 1) ((σ.2.1 79 (((9 * m) + (σ.2.1 73 m)) - 1)) + 1) (sA 82 ((192 * (((9 * m) + (σ.2.1 73 m)) - 1)) + (σ.2.1 4 (220 * (v5 + (σ.2.1 78 (((9 * m) + (σ.2.1 73 m)) - 1))) + (σ.2.1 79 (((9 * m) + (σ.2.1 73 m)) - 1))))) (v66) σ)).2.1 80 (9 * m + σ.2.1 73 m - 1) = σ.2.1 80 (9 * m + σ.2.1 73 m - 1) from rfl]; omega)⟩), ⟨fun j hj => ⟨rfl, rfl⟩, fun z hz => ⟨rfl, ra_ne (by omega) rfl, rfl⟩⟩, ⟨Int.le_refl _, (by show σ.2.1 76 m ≤ σ.2.1 76 m + 1; omega)⟩, fun _ => Or.inl ⟨by omega, by omega, rfl, fun _ => rfl, fun z hz => ra_ne hz rfl, Or.inl (by rw [show (sA 79 (((9 * m) + (σ.2.1 73 m)) - 1) ((σ.2.1 79 (((9 * m) + (σ.2.1 73 m)) - 1)) + 1) (sA 82 ((192 * (((9 * m) + (σ.2.1 73 m)) - 1)) + (σ.2.1 4 (220 * (v5 + (σ.2.1 78 (((9 * m) + (σ.2.1 73 m)) - 1))) + (σ.2.1 79 (((9 * m) + (σ.2.1 73 m)) - 1))))) (v66) σ)).2.1 79 (9 * m + σ.2.1 73 m - 1) = (σ.2.1 79 (((9 * m) + (σ.2.1 73 m)) - 1)) + 1 from ra_eq])⟩, by unfold STQ; rw [← hbv]; exact Or.inr (Or.inr (Or.inr (Or.inl (⟨by omega, rfl, by rw [← gA, ← gB, ← f68]⟩))))⟩)
    · refine tm_tableIn (tgt := 502) dX12_step_82 ⟨by omega, by omega⟩ (by omega) (by omega) (show _ = some (420) by rw [h22v]; rfl) (by decide) ?_
      have ho2 := hoki.2.1 (Or.inl (by omega))
      have ho81 := ho8 1 (by decide) (by decide)
      refine tm_aload_n dX12_step_502 rfl 6 rfl ?_
      refine tm_get (k := 82) (v := .ref (b + 1 + 53)) lay_12 dX12_step_503 (by decide) fl12_179 rfl ?_
      refine tm_iload dX12_step_506 2 rfl ?_
      refine tm_aload_n dX12_step_508 rfl 6 rfl ?_
      refine tm_get (k := 4) (v := .ref (b + 1 + 2)) lay_12 dX12_step_509 (by decide) fl12_17 rfl ?_
      refine tm_iload dX12_step_512 3 rfl ?_
      refine tm_iald (z := 220 * (v5 + (σ.2.1 78 (((9 * m) + (σ.2.1 73 m)) - 1))) + (σ.2.1 79 (((9 * m) + (σ.2.1 73 m)) - 1))) (v := σ.2.1 4 (220 * (v5 + (σ.2.1 78 (((9 * m) + (σ.2.1 73 m)) - 1))) + (σ.2.1 79 (((9 * m) + (σ.2.1 73 m)) - 1)))) dX12_step_514 (show mT[2]? = some (4, 0, 2860) from rfl) (by omega) (by omega) (by decide) (rfl) ?_
      have g70 := RG.a hR 4 (220 * (v5 + (σ.2.1 78 (((9 * m) + (σ.2.1 73 m)) - 1))) + (σ.2.1 79 (((9 * m) + (σ.2.1 73 m)) - 1)))
      refine tm_iadd dX12_step_515 ?_
      refine tm_aload_n dX12_step_516 rfl 6 rfl ?_
      refine tm_get (k := 3) (v := .ref (b + 1 + 1)) lay_12 dX12_step_517 (by decide) fl12_13 rfl ?_
      refine tm_iload dX12_step_520 3 rfl ?_
      refine tm_iald (z := 220 * (v5 + (σ.2.1 78 (((9 * m) + (σ.2.1 73 m)) - 1))) + (σ.2.1 79 (((9 * m) + (σ.2.1 73 m)) - 1))) (v := σ.2.1 3 (220 * (v5 + (σ.2.1 78 (((9 * m) + (σ.2.1 73 m)) - 1))) + (σ.2.1 79 (((9 * m) + (σ.2.1 73 m)) - 1)))) dX12_step_522 (show mT[1]? = some (3, 0, 2860) from rfl) (by omega) (by omega) (by decide) (rfl) ?_
      have g71 := RG.a hR 3 (220 * (v5 + (σ.2.1 78 (((9 * m) + (σ.2.1 73 m)) - 1))) + (σ.2.1 79 (((9 * m) + (σ.2.1 73 m)) - 1)))
      refine tm_iload dX12_step_523 1 rfl ?_
      refine tm_aload_n dX12_step_525 rfl 6 rfl ?_
      refine tm_iload_n dX12_step_526 rfl 5 rfl ?_
      refine tm_aload_n dX12_step_527 rfl 6 rfl ?_
      refine tm_get (k := 7) (v := .ref (b + 1 + 5)) lay_12 dX12_step_528 (by decide) fl12_26 rfl ?_
      refine tm_iconst dX12_step_531 ?_
      refine tm_iload dX12_step_532 3 rfl ?_
      refine tm_imul dX12_step_534 ?_
      refine tm_iconst dX12_step_535 ?_
      refine tm_iadd dX12_step_536 ?_
      refine tm_iald (z := (4 * (220 * (v5 + (σ.2.1 78 (((9 * m) + (σ.2.1 73 m)) - 1))) + (σ.2.1 79 (((9 * m) + (σ.2.1 73 m)) - 1)))) + 1) (v := σ.2.1 7 ((4 * (220 * (v5 + (σ.2.1 78 (((9 * m) + (σ.2.1 73 m)) - 1))) + (σ.2.1 79 (((9 * m) + (σ.2.1 73 m)) - 1)))) + 1)) dX12_step_537 (show mT[5]? = some (7, 0, 11440) from rfl) (by omega) (by omega) (by decide) (rfl) ?_
      have g72 := RG.a hR 7 ((4 * (220 * (v5 + (σ.2.1 78 (((9 * m) + (σ.2.1 73 m)) - 1))) + (σ.2.1 79 (((9 * m) + (σ.2.1 73 m)) - 1)))) + 1)
      refine tm_aload_n dX12_step_538 rfl 6 rfl ?_
      refine tm_get (k := 8) (v := .ref (b + 1 + 6)) lay_12 dX12_step_539 (by decide) fl12_29 rfl ?_
      refine tm_iconst dX12_step_542 ?_
      refine tm_iload dX12_step_543 3 rfl ?_
      refine tm_imul dX12_step_545 ?_
      refine tm_iconst dX12_step_546 ?_
      refine tm_iadd dX12_step_547 ?_
      refine tm_iald (z := (4 * (220 * (v5 + (σ.2.1 78 (((9 * m) + (σ.2.1 73 m)) - 1))) + (σ.2.1 79 (((9 * m) + (σ.2.1 73 m)) - 1)))) + 1) (v := σ.2.1 8 ((4 * (220 * (v5 + (σ.2.1 78 (((9 * m) + (σ.2.1 73 m)) - 1))) + (σ.2.1 79 (((9 * m) + (σ.2.1 73 m)) - 1)))) + 1)) dX12_step_548 (show mT[6]? = some (8, 0, 11440) from rfl) (by omega) (by omega) (by decide) (rfl) ?_
      have g73 := RG.a hR 8 ((4 * (220 * (v5 + (σ.2.1 78 (((9 * m) + (σ.2.1 73 m)) - 1))) + (σ.2.1 79 (((9 * m) + (σ.2.1 73 m)) - 1)))) + 1)
      refine tm_callV (M := m_X12_step) (pc := 549) (ix := 545) (M' := m_X12_worth) (As := [.int (iI (((9 * m) + (σ.2.1 73 m)) - 1)), .int (iI (σ.2.1 7 ((4 * (220 * (v5 + (σ.2.1 78 (((9 * m) + (σ.2.1 73 m)) - 1))) + (σ.2.1 79 (((9 * m) + (σ.2.1 73 m)) - 1)))) + 1))), .int (iI (σ.2.1 8 ((4 * (220 * (v5 + (σ.2.1 78 (((9 * m) + (σ.2.1 73 m)) - 1))) + (σ.2.1 79 (((9 * m) + (σ.2.1 73 m)) - 1)))) + 1)))]) (rest := [.int (iI v18), .int (iI (σ.2.1 3 (220 * (v5 + (σ.2.1 78 (((9 * m) + (σ.2.1 73 m)) - 1))) + (σ.2.1 79 (((9 * m) + (σ.2.1 73 m)) - 1))))), .int (iI ((192 * (((9 * m) + (σ.2.1 73 m)) - 1)) + (σ.2.1 4 (220 * (v5 + (σ.2.1 78 (((9 * m) + (σ.2.1 73 m)) - 1))) + (σ.2.1 79 (((9 * m) + (σ.2.1 73 m)) - 1)))))), .ref (b + 1 + 53)]) dX12_step_549 ok_X12_worth im_X12_worth se_X12_worth ml12_545 np_X12_worth rfl rfl (Nat.le_of_ble_eq_true rfl) (Nat.le_of_ble_eq_true rfl) rfl (f_X12_worth (d + 1) (σ := σ) (c := ((9 * m) + (σ.2.1 73 m)) - 1) (k := σ.2.1 7 ((4 * (220 * (v5 + (σ.2.1 78 (((9 * m) + (σ.2.1 73 m)) - 1))) + (σ.2.1 79 (((9 * m) + (σ.2.1 73 m)) - 1)))) + 1)) (w := σ.2.1 8 ((4 * (220 * (v5 + (σ.2.1 78 (((9 * m) + (σ.2.1 73 m)) - 1))) + (σ.2.1 79 (((9 * m) + (σ.2.1 73 m)) - 1)))) + 1)) (by omega) hR (by omega) (by omega)) (fun r74 σ75 hp => ?_)
      obtain ⟨v76, rfl, rfl, f77, f78⟩ := hp
      show Tm _ _ 552 b σ [(7, .int (iI 0)), (6, .int (iI v18)), (5, .int (iI (192 * (((9 * m) + (σ.2.1 73 m)) - 1)))), (4, .int (iI (220 * (v5 + (σ.2.1 78 (((9 * m) + (σ.2.1 73 m)) - 1))) + (σ.2.1 79 (((9 * m) + (σ.2.1 73 m)) - 1))))), (3, .int (iI (σ.2.1 78 (((9 * m) + (σ.2.1 73 m)) - 1)))), (2, .int (iI (((9 * m) + (σ.2.1 73 m)) - 1))), (0, .ref b), (1, .int (iI m))] [.int (iI v76), .int (iI v18), .int (iI (σ.2.1 3 (220 * (v5 + (σ.2.1 78 (((9 * m) + (σ.2.1 73 m)) - 1))) + (σ.2.1 79 (((9 * m) + (σ.2.1 73 m)) - 1))))), .int (iI ((192 * (((9 * m) + (σ.2.1 73 m)) - 1)) + (σ.2.1 4 (220 * (v5 + (σ.2.1 78 (((9 * m) + (σ.2.1 73 m)) - 1))) + (σ.2.1 79 (((9 * m) + (σ.2.1 73 m)) - 1)))))), .ref (b + 1 + 53)] _
      have gB : v76 = wA σ (9 * m + σ.2.1 73 m - 1) (220 * (v5 + (σ.2.1 78 (((9 * m) + (σ.2.1 73 m)) - 1))) + (σ.2.1 79 (((9 * m) + (σ.2.1 73 m)) - 1))) 1 := f78
      refine tm_callS (M := m_X12_step) (pc := 552) (ix := 466) (M' := m_X12_worked) (As := [.int (iI (σ.2.1 3 (220 * (v5 + (σ.2.1 78 (((9 * m) + (σ.2.1 73 m)) - 1))) + (σ.2.1 79 (((9 * m) + (σ.2.1 73 m)) - 1))))), .int (iI v18), .int (iI v76)]) (rest := [.int (iI ((192 * (((9 * m) + (σ.2.1 73 m)) - 1)) + (σ.2.1 4 (220 * (v5 + (σ.2.1 78 (((9 * m) + (σ.2.1 73 m)) - 1))) + (σ.2.1 79 (((9 * m) + (σ.2.1 73 m)) - 1)))))), .ref (b + 1 + 53)]) dX12_step_552 ok_X12_worked stt_X12_worked ml12_466 np_X12_worked rfl (Nat.le_of_ble_eq_true rfl) (Nat.le_of_ble_eq_true rfl) rfl (f_X12_worked (d + 1) (σ := σ) (k := σ.2.1 3 (220 * (v5 + (σ.2.1 78 (((9 * m) + (σ.2.1 73 m)) - 1))) + (σ.2.1 79 (((9 * m) + (σ.2.1 73 m)) - 1)))) (x := v18) (y := v76) (by omega) (by omega) (by omega) (by omega)) (fun r79 σ80 hp => ?_)
      obtain ⟨v81, rfl, rfl, f82, f83⟩ := hp
      show Tm _ _ 555 b σ [(7, .int (iI 0)), (6, .int (iI v18)), (5, .int (iI (192 * (((9 * m) + (σ.2.1 73 m)) - 1)))), (4, .int (iI (220 * (v5 + (σ.2.1 78 (((9 * m) + (σ.2.1 73 m)) - 1))) + (σ.2.1 79 (((9 * m) + (σ.2.1 73 m)) - 1))))), (3, .int (iI (σ.2.1 78 (((9 * m) + (σ.2.1 73 m)) - 1)))), (2, .int (iI (((9 * m) + (σ.2.1 73 m)) - 1))), (0, .ref b), (1, .int (iI m))] [.int (iI v81), .int (iI ((192 * (((9 * m) + (σ.2.1 73 m)) - 1)) + (σ.2.1 4 (220 * (v5 + (σ.2.1 78 (((9 * m) + (σ.2.1 73 m)) - 1))) + (σ.2.1 79 (((9 * m) + (σ.2.1 73 m)) - 1)))))), .ref (b + 1 + 53)] _
      refine tm_iast (z := (192 * (((9 * m) + (σ.2.1 73 m)) - 1)) + (σ.2.1 4 (220 * (v5 + (σ.2.1 78 (((9 * m) + (σ.2.1 73 m)) - 1))) + (σ.2.1 79 (((9 * m) + (σ.2.1 73 m)) - 1))))) (v := v81) dX12_step_555 (show mT[53]? = some (82, 0, 5184) from rfl) (by omega) (by omega) (by decide) ?_
      refine tm_aload_n dX12_step_556 rfl 6 rfl ?_
      refine tm_get (k := 79) (v := .ref (b + 1 + 50)) lay_12 dX12_step_557 (by decide) fl12_170 rfl ?_
      refine tm_iload_n dX12_step_560 rfl 5 rfl ?_
      refine tm_dup2 dX12_step_561 rfl rfl ?_
      refine tm_iald (z := ((9 * m) + (σ.2.1 73 m)) - 1) (v := σ.2.1 79 (((9 * m) + (σ.2.1 73 m)) - 1)) dX12_step_562 (show mT[50]? = some (79, 0, 27) from rfl) (by omega) (by omega) (by decide) (ra_o (by decide) (rfl)) ?_
      have g84 := RG.a hR 79 (((9 * m) + (σ.2.1 73 m)) - 1)
      refine tm_iconst dX12_step_563 ?_
      refine tm_iadd dX12_step_564 ?_
      refine tm_iast (z := ((9 * m) + (σ.2.1 73 m)) - 1) (v := (σ.2.1 79 (((9 * m) + (σ.2.1 73 m)) - 1)) + 1) dX12_step_565 (show mT[50]? = some (79, 0, 27) from rfl) (by omega) (by omega) (by decide) ?_
      refine tm_iload dX12_step_566 0 rfl ?_
      exact tm_iret rfl dX12_step_568 (⟨_, rfl, ((Fr.rfl.A (by decide)).A (by decide)), ((hR.A (by omega)).A (by omega)), Or.inr (Or.inr ⟨by omega, hrun.top (t := 9 * m + σ.2.1 73 m - 1) rfl (show Fr [] [79, 82] [] σ (sA 79 (((9 * m) + (σ.2.1 73 m)) - 1) ((σ.2.1 79 (((9 * m) + (σ.2.1 73 m)) - 1)) + 1) (sA 82 ((192 * (((9 * m) + (σ.2.1 73 m)) - 1)) + (σ.2.1 4 (220 * (v5 + (σ.2.1 78 (((9 * m) + (σ.2.1 73 m)) - 1))) + (σ.2.1 79 (((9 * m) + (σ.2.1 73 m)) - 1))))) (v81) σ)) from ((Fr.rfl.A (by decide)).A (by decide))) (by decide) (by decide) rfl (fun _ _ _ => rfl) (fun z a b => ⟨ra_ne (by omega) rfl, rfl⟩) (by rw [show (sA 79 (((9 * m) + (σ.2.1 73 m)) - 1) ((σ.2.1 79 (((9 * m) + (σ.2.1 73 m)) - 1)) + 1) (sA 82 ((192 * (((9 * m) + (σ.2.1 73 m)) - 1)) + (σ.2.1 4 (220 * (v5 + (σ.2.1 78 (((9 * m) + (σ.2.1 73 m)) - 1))) + (σ.2.1 79 (((9 * m) + (σ.2.1 73 m)) - 1))))) (v81) σ)).2.1 79 (9 * m + σ.2.1 73 m - 1) = (σ.2.1 79 (((9 * m) + (σ.2.1 73 m)) - 1)) + 1 from ra_eq, show (sA 79 (((9 * m) + (σ.2.1 73 m)) - 1) ((σ.2.1 79 (((9 * m) + (σ.2.1 73 m)) - 1)) + 1) (sA 82 ((192 * (((9 * m) + (σ.2.1 73 m)) - 1)) + (σ.2.1 4 (220 * (v5 + (σ.2.1 78 (((9 * m) + (σ.2.1 73 m)) - 1))) + (σ.2.1 79 (((9 * m) + (σ.2.1 73 m)) - 1))))) (v81) σ)).2.1 80 (9 * m + σ.2.1 73 m - 1) = σ.2.1 80 (9 * m + σ.2.1 73 m - 1) from rfl]; exact hp.nx (by omega) (by omega) (by omega) (by omega)) (by rw [show (sA 79 (((9 * m) + (σ.2.1 73 m)) - 1) ((σ.2.1 79 (((9 * m) + (σ.2.1 73 m)) - 1)) + 1) (sA 82 ((192 * (((9 * m) + (σ.2.1 73 m)) - 1)) + (σ.2.1 4 (220 * (v5 + (σ.2.1 78 (((9 * m) + (σ.2.1 73 m)) - 1))) + (σ.2.1 79 (((9 * m) + (σ.2.1 73 m)) - 1))))) (v81) σ)).2.1 80 (9 * m + σ.2.1 73 m - 1) = σ.2.1 80 (9 * m + σ.2.1 73 m - 1) from rfl]; omega)⟩), ⟨fun j hj => ⟨rfl, rfl⟩, fun z hz => ⟨rfl, ra_ne (by omega) rfl, rfl⟩⟩, ⟨Int.le_refl _, (by show σ.2.1 76 m ≤ σ.2.1 76 m + 1; omega)⟩, fun _ => Or.inl ⟨by omega, by omega, rfl, fun _ => rfl, fun z hz => ra_ne hz rfl, Or.inl (by rw [show (sA 79 (((9 * m) + (σ.2.1 73 m)) - 1) ((σ.2.1 79 (((9 * m) + (σ.2.1 73 m)) - 1)) + 1) (sA 82 ((192 * (((9 * m) + (σ.2.1 73 m)) - 1)) + (σ.2.1 4 (220 * (v5 + (σ.2.1 78 (((9 * m) + (σ.2.1 73 m)) - 1))) + (σ.2.1 79 (((9 * m) + (σ.2.1 73 m)) - 1))))) (v81) σ)).2.1 79 (9 * m + σ.2.1 73 m - 1) = (σ.2.1 79 (((9 * m) + (σ.2.1 73 m)) - 1)) + 1 from ra_eq])⟩, by unfold STQ; rw [← hbv]; exact Or.inr (Or.inr (Or.inr (Or.inl (⟨by omega, rfl, by rw [← gA, ← gB, ← f83]⟩))))⟩)
    · refine tm_tableIn (tgt := 502) dX12_step_82 ⟨by omega, by omega⟩ (by omega) (by omega) (show _ = some (420) by rw [h22v]; rfl) (by decide) ?_
      have ho2 := hoki.2.1 (Or.inl (by omega))
      have ho81 := ho8 1 (by decide) (by decide)
      refine tm_aload_n dX12_step_502 rfl 6 rfl ?_
      refine tm_get (k := 82) (v := .ref (b + 1 + 53)) lay_12 dX12_step_503 (by decide) fl12_179 rfl ?_
      refine tm_iload dX12_step_506 2 rfl ?_
      refine tm_aload_n dX12_step_508 rfl 6 rfl ?_
      refine tm_get (k := 4) (v := .ref (b + 1 + 2)) lay_12 dX12_step_509 (by decide) fl12_17 rfl ?_
      refine tm_iload dX12_step_512 3 rfl ?_
      refine tm_iald (z := 220 * (v5 + (σ.2.1 78 (((9 * m) + (σ.2.1 73 m)) - 1))) + (σ.2.1 79 (((9 * m) + (σ.2.1 73 m)) - 1))) (v := σ.2.1 4 (220 * (v5 + (σ.2.1 78 (((9 * m) + (σ.2.1 73 m)) - 1))) + (σ.2.1 79 (((9 * m) + (σ.2.1 73 m)) - 1)))) dX12_step_514 (show mT[2]? = some (4, 0, 2860) from rfl) (by omega) (by omega) (by decide) (rfl) ?_
      have g85 := RG.a hR 4 (220 * (v5 + (σ.2.1 78 (((9 * m) + (σ.2.1 73 m)) - 1))) + (σ.2.1 79 (((9 * m) + (σ.2.1 73 m)) - 1)))
      refine tm_iadd dX12_step_515 ?_
      refine tm_aload_n dX12_step_516 rfl 6 rfl ?_
      refine tm_get (k := 3) (v := .ref (b + 1 + 1)) lay_12 dX12_step_517 (by decide) fl12_13 rfl ?_
      refine tm_iload dX12_step_520 3 rfl ?_
      refine tm_iald (z := 220 * (v5 + (σ.2.1 78 (((9 * m) + (σ.2.1 73 m)) - 1))) + (σ.2.1 79 (((9 * m) + (σ.2.1 73 m)) - 1))) (v := σ.2.1 3 (220 * (v5 + (σ.2.1 78 (((9 * m) + (σ.2.1 73 m)) - 1))) + (σ.2.1 79 (((9 * m) + (σ.2.1 73 m)) - 1)))) dX12_step_522 (show mT[1]? = some (3, 0, 2860) from rfl) (by omega) (by omega) (by decide) (rfl) ?_
      have g86 := RG.a hR 3 (220 * (v5 + (σ.2.1 78 (((9 * m) + (σ.2.1 73 m)) - 1))) + (σ.2.1 79 (((9 * m) + (σ.2.1 73 m)) - 1)))
      refine tm_iload dX12_step_523 1 rfl ?_
      refine tm_aload_n dX12_step_525 rfl 6 rfl ?_
      refine tm_iload_n dX12_step_526 rfl 5 rfl ?_
      refine tm_aload_n dX12_step_527 rfl 6 rfl ?_
      refine tm_get (k := 7) (v := .ref (b + 1 + 5)) lay_12 dX12_step_528 (by decide) fl12_26 rfl ?_
      refine tm_iconst dX12_step_531 ?_
      refine tm_iload dX12_step_532 3 rfl ?_
      refine tm_imul dX12_step_534 ?_
      refine tm_iconst dX12_step_535 ?_
      refine tm_iadd dX12_step_536 ?_
      refine tm_iald (z := (4 * (220 * (v5 + (σ.2.1 78 (((9 * m) + (σ.2.1 73 m)) - 1))) + (σ.2.1 79 (((9 * m) + (σ.2.1 73 m)) - 1)))) + 1) (v := σ.2.1 7 ((4 * (220 * (v5 + (σ.2.1 78 (((9 * m) + (σ.2.1 73 m)) - 1))) + (σ.2.1 79 (((9 * m) + (σ.2.1 73 m)) - 1)))) + 1)) dX12_step_537 (show mT[5]? = some (7, 0, 11440) from rfl) (by omega) (by omega) (by decide) (rfl) ?_
      have g87 := RG.a hR 7 ((4 * (220 * (v5 + (σ.2.1 78 (((9 * m) + (σ.2.1 73 m)) - 1))) + (σ.2.1 79 (((9 * m) + (σ.2.1 73 m)) - 1)))) + 1)
      refine tm_aload_n dX12_step_538 rfl 6 rfl ?_
      refine tm_get (k := 8) (v := .ref (b + 1 + 6)) lay_12 dX12_step_539 (by decide) fl12_29 rfl ?_
      refine tm_iconst dX12_step_542 ?_
      refine tm_iload dX12_step_543 3 rfl ?_
      refine tm_imul dX12_step_545 ?_
      refine tm_iconst dX12_step_546 ?_
      refine tm_iadd dX12_step_547 ?_
      refine tm_iald (z := (4 * (220 * (v5 + (σ.2.1 78 (((9 * m) + (σ.2.1 73 m)) - 1))) + (σ.2.1 79 (((9 * m) + (σ.2.1 73 m)) - 1)))) + 1) (v := σ.2.1 8 ((4 * (220 * (v5 + (σ.2.1 78 (((9 * m) + (σ.2.1 73 m)) - 1))) + (σ.2.1 79 (((9 * m) + (σ.2.1 73 m)) - 1)))) + 1)) dX12_step_548 (show mT[6]? = some (8, 0, 11440) from rfl) (by omega) (by omega) (by decide) (rfl) ?_
      have g88 := RG.a hR 8 ((4 * (220 * (v5 + (σ.2.1 78 (((9 * m) + (σ.2.1 73 m)) - 1))) + (σ.2.1 79 (((9 * m) + (σ.2.1 73 m)) - 1)))) + 1)
      refine tm_callV (M := m_X12_step) (pc := 549) (ix := 545) (M' := m_X12_worth) (As := [.int (iI (((9 * m) + (σ.2.1 73 m)) - 1)), .int (iI (σ.2.1 7 ((4 * (220 * (v5 + (σ.2.1 78 (((9 * m) + (σ.2.1 73 m)) - 1))) + (σ.2.1 79 (((9 * m) + (σ.2.1 73 m)) - 1)))) + 1))), .int (iI (σ.2.1 8 ((4 * (220 * (v5 + (σ.2.1 78 (((9 * m) + (σ.2.1 73 m)) - 1))) + (σ.2.1 79 (((9 * m) + (σ.2.1 73 m)) - 1)))) + 1)))]) (rest := [.int (iI v18), .int (iI (σ.2.1 3 (220 * (v5 + (σ.2.1 78 (((9 * m) + (σ.2.1 73 m)) - 1))) + (σ.2.1 79 (((9 * m) + (σ.2.1 73 m)) - 1))))), .int (iI ((192 * (((9 * m) + (σ.2.1 73 m)) - 1)) + (σ.2.1 4 (220 * (v5 + (σ.2.1 78 (((9 * m) + (σ.2.1 73 m)) - 1))) + (σ.2.1 79 (((9 * m) + (σ.2.1 73 m)) - 1)))))), .ref (b + 1 + 53)]) dX12_step_549 ok_X12_worth im_X12_worth se_X12_worth ml12_545 np_X12_worth rfl rfl (Nat.le_of_ble_eq_true rfl) (Nat.le_of_ble_eq_true rfl) rfl (f_X12_worth (d + 1) (σ := σ) (c := ((9 * m) + (σ.2.1 73 m)) - 1) (k := σ.2.1 7 ((4 * (220 * (v5 + (σ.2.1 78 (((9 * m) + (σ.2.1 73 m)) - 1))) + (σ.2.1 79 (((9 * m) + (σ.2.1 73 m)) - 1)))) + 1)) (w := σ.2.1 8 ((4 * (220 * (v5 + (σ.2.1 78 (((9 * m) + (σ.2.1 73 m)) - 1))) + (σ.2.1 79 (((9 * m) + (σ.2.1 73 m)) - 1)))) + 1)) (by omega) hR (by omega) (by omega)) (fun r89 σ90 hp => ?_)
      obtain ⟨v91, rfl, rfl, f92, f93⟩ := hp
      show Tm _ _ 552 b σ [(7, .int (iI 0)), (6, .int (iI v18)), (5, .int (iI (192 * (((9 * m) + (σ.2.1 73 m)) - 1)))), (4, .int (iI (220 * (v5 + (σ.2.1 78 (((9 * m) + (σ.2.1 73 m)) - 1))) + (σ.2.1 79 (((9 * m) + (σ.2.1 73 m)) - 1))))), (3, .int (iI (σ.2.1 78 (((9 * m) + (σ.2.1 73 m)) - 1)))), (2, .int (iI (((9 * m) + (σ.2.1 73 m)) - 1))), (0, .ref b), (1, .int (iI m))] [.int (iI v91), .int (iI v18), .int (iI (σ.2.1 3 (220 * (v5 + (σ.2.1 78 (((9 * m) + (σ.2.1 73 m)) - 1))) + (σ.2.1 79 (((9 * m) + (σ.2.1 73 m)) - 1))))), .int (iI ((192 * (((9 * m) + (σ.2.1 73 m)) - 1)) + (σ.2.1 4 (220 * (v5 + (σ.2.1 78 (((9 * m) + (σ.2.1 73 m)) - 1))) + (σ.2.1 79 (((9 * m) + (σ.2.1 73 m)) - 1)))))), .ref (b + 1 + 53)] _
      have gB : v91 = wA σ (9 * m + σ.2.1 73 m - 1) (220 * (v5 + (σ.2.1 78 (((9 * m) + (σ.2.1 73 m)) - 1))) + (σ.2.1 79 (((9 * m) + (σ.2.1 73 m)) - 1))) 1 := f93
      refine tm_callS (M := m_X12_step) (pc := 552) (ix := 466) (M' := m_X12_worked) (As := [.int (iI (σ.2.1 3 (220 * (v5 + (σ.2.1 78 (((9 * m) + (σ.2.1 73 m)) - 1))) + (σ.2.1 79 (((9 * m) + (σ.2.1 73 m)) - 1))))), .int (iI v18), .int (iI v91)]) (rest := [.int (iI ((192 * (((9 * m) + (σ.2.1 73 m)) - 1)) + (σ.2.1 4 (220 * (v5 + (σ.2.1 78 (((9 * m) + (σ.2.1 73 m)) - 1))) + (σ.2.1 79 (((9 * m) + (σ.2.1 73 m)) - 1)))))), .ref (b + 1 + 53)]) dX12_step_552 ok_X12_worked stt_X12_worked ml12_466 np_X12_worked rfl (Nat.le_of_ble_eq_true rfl) (Nat.le_of_ble_eq_true rfl) rfl (f_X12_worked (d + 1) (σ := σ) (k := σ.2.1 3 (220 * (v5 + (σ.2.1 78 (((9 * m) + (σ.2.1 73 m)) - 1))) + (σ.2.1 79 (((9 * m) + (σ.2.1 73 m)) - 1)))) (x := v18) (y := v91) (by omega) (by omega) (by omega) (by omega)) (fun r94 σ95 hp => ?_)
      obtain ⟨v96, rfl, rfl, f97, f98⟩ := hp
      show Tm _ _ 555 b σ [(7, .int (iI 0)), (6, .int (iI v18)), (5, .int (iI (192 * (((9 * m) + (σ.2.1 73 m)) - 1)))), (4, .int (iI (220 * (v5 + (σ.2.1 78 (((9 * m) + (σ.2.1 73 m)) - 1))) + (σ.2.1 79 (((9 * m) + (σ.2.1 73 m)) - 1))))), (3, .int (iI (σ.2.1 78 (((9 * m) + (σ.2.1 73 m)) - 1)))), (2, .int (iI (((9 * m) + (σ.2.1 73 m)) - 1))), (0, .ref b), (1, .int (iI m))] [.int (iI v96), .int (iI ((192 * (((9 * m) + (σ.2.1 73 m)) - 1)) + (σ.2.1 4 (220 * (v5 + (σ.2.1 78 (((9 * m) + (σ.2.1 73 m)) - 1))) + (σ.2.1 79 (((9 * m) + (σ.2.1 73 m)) - 1)))))), .ref (b + 1 + 53)] _
      refine tm_iast (z := (192 * (((9 * m) + (σ.2.1 73 m)) - 1)) + (σ.2.1 4 (220 * (v5 + (σ.2.1 78 (((9 * m) + (σ.2.1 73 m)) - 1))) + (σ.2.1 79 (((9 * m) + (σ.2.1 73 m)) - 1))))) (v := v96) dX12_step_555 (show mT[53]? = some (82, 0, 5184) from rfl) (by omega) (by omega) (by decide) ?_
      refine tm_aload_n dX12_step_556 rfl 6 rfl ?_
      refine tm_get (k := 79) (v := .ref (b + 1 + 50)) lay_12 dX12_step_557 (by decide) fl12_170 rfl ?_
      refine tm_iload_n dX12_step_560 rfl 5 rfl ?_
      refine tm_dup2 dX12_step_561 rfl rfl ?_
      refine tm_iald (z := ((9 * m) + (σ.2.1 73 m)) - 1) (v := σ.2.1 79 (((9 * m) + (σ.2.1 73 m)) - 1)) dX12_step_562 (show mT[50]? = some (79, 0, 27) from rfl) (by omega) (by omega) (by decide) (ra_o (by decide) (rfl)) ?_
      have g99 := RG.a hR 79 (((9 * m) + (σ.2.1 73 m)) - 1)
      refine tm_iconst dX12_step_563 ?_
      refine tm_iadd dX12_step_564 ?_
      refine tm_iast (z := ((9 * m) + (σ.2.1 73 m)) - 1) (v := (σ.2.1 79 (((9 * m) + (σ.2.1 73 m)) - 1)) + 1) dX12_step_565 (show mT[50]? = some (79, 0, 27) from rfl) (by omega) (by omega) (by decide) ?_
      refine tm_iload dX12_step_566 0 rfl ?_
      exact tm_iret rfl dX12_step_568 (⟨_, rfl, ((Fr.rfl.A (by decide)).A (by decide)), ((hR.A (by omega)).A (by omega)), Or.inr (Or.inr ⟨by omega, hrun.top (t := 9 * m + σ.2.1 73 m - 1) rfl (show Fr [] [79, 82] [] σ (sA 79 (((9 * m) + (σ.2.1 73 m)) - 1) ((σ.2.1 79 (((9 * m) + (σ.2.1 73 m)) - 1)) + 1) (sA 82 ((192 * (((9 * m) + (σ.2.1 73 m)) - 1)) + (σ.2.1 4 (220 * (v5 + (σ.2.1 78 (((9 * m) + (σ.2.1 73 m)) - 1))) + (σ.2.1 79 (((9 * m) + (σ.2.1 73 m)) - 1))))) (v96) σ)) from ((Fr.rfl.A (by decide)).A (by decide))) (by decide) (by decide) rfl (fun _ _ _ => rfl) (fun z a b => ⟨ra_ne (by omega) rfl, rfl⟩) (by rw [show (sA 79 (((9 * m) + (σ.2.1 73 m)) - 1) ((σ.2.1 79 (((9 * m) + (σ.2.1 73 m)) - 1)) + 1) (sA 82 ((192 * (((9 * m) + (σ.2.1 73 m)) - 1)) + (σ.2.1 4 (220 * (v5 + (σ.2.1 78 (((9 * m) + (σ.2.1 73 m)) - 1))) + (σ.2.1 79 (((9 * m) + (σ.2.1 73 m)) - 1))))) (v96) σ)).2.1 79 (9 * m + σ.2.1 73 m - 1) = (σ.2.1 79 (((9 * m) + (σ.2.1 73 m)) - 1)) + 1 from ra_eq, show (sA 79 (((9 * m) + (σ.2.1 73 m)) - 1) ((σ.2.1 79 (((9 * m) + (σ.2.1 73 m)) - 1)) + 1) (sA 82 ((192 * (((9 * m) + (σ.2.1 73 m)) - 1)) + (σ.2.1 4 (220 * (v5 + (σ.2.1 78 (((9 * m) + (σ.2.1 73 m)) - 1))) + (σ.2.1 79 (((9 * m) + (σ.2.1 73 m)) - 1))))) (v96) σ)).2.1 80 (9 * m + σ.2.1 73 m - 1) = σ.2.1 80 (9 * m + σ.2.1 73 m - 1) from rfl]; exact hp.nx (by omega) (by omega) (by omega) (by omega)) (by rw [show (sA 79 (((9 * m) + (σ.2.1 73 m)) - 1) ((σ.2.1 79 (((9 * m) + (σ.2.1 73 m)) - 1)) + 1) (sA 82 ((192 * (((9 * m) + (σ.2.1 73 m)) - 1)) + (σ.2.1 4 (220 * (v5 + (σ.2.1 78 (((9 * m) + (σ.2.1 73 m)) - 1))) + (σ.2.1 79 (((9 * m) + (σ.2.1 73 m)) - 1))))) (v96) σ)).2.1 80 (9 * m + σ.2.1 73 m - 1) = σ.2.1 80 (9 * m + σ.2.1 73 m - 1) from rfl]; omega)⟩), ⟨fun j hj => ⟨rfl, rfl⟩, fun z hz => ⟨rfl, ra_ne (by omega) rfl, rfl⟩⟩, ⟨Int.le_refl _, (by show σ.2.1 76 m ≤ σ.2.1 76 m + 1; omega)⟩, fun _ => Or.inl ⟨by omega, by omega, rfl, fun _ => rfl, fun z hz => ra_ne hz rfl, Or.inl (by rw [show (sA 79 (((9 * m) + (σ.2.1 73 m)) - 1) ((σ.2.1 79 (((9 * m) + (σ.2.1 73 m)) - 1)) + 1) (sA 82 ((192 * (((9 * m) + (σ.2.1 73 m)) - 1)) + (σ.2.1 4 (220 * (v5 + (σ.2.1 78 (((9 * m) + (σ.2.1 73 m)) - 1))) + (σ.2.1 79 (((9 * m) + (σ.2.1 73 m)) - 1))))) (v96) σ)).2.1 79 (9 * m + σ.2.1 73 m - 1) = (σ.2.1 79 (((9 * m) + (σ.2.1 73 m)) - 1)) + 1 from ra_eq])⟩, by unfold STQ; rw [← hbv]; exact Or.inr (Or.inr (Or.inr (Or.inl (⟨by omega, rfl, by rw [← gA, ← gB, ← f98]⟩))))⟩)
    · refine tm_tableIn (tgt := 502) dX12_step_82 ⟨by omega, by omega⟩ (by omega) (by omega) (show _ = some (420) by rw [h22v]; rfl) (by decide) ?_
      have ho2 := hoki.2.1 (Or.inl (by omega))
      have ho81 := ho8 1 (by decide) (by decide)
      refine tm_aload_n dX12_step_502 rfl 6 rfl ?_
      refine tm_get (k := 82) (v := .ref (b + 1 + 53)) lay_12 dX12_step_503 (by decide) fl12_179 rfl ?_
      refine tm_iload dX12_step_506 2 rfl ?_
      refine tm_aload_n dX12_step_508 rfl 6 rfl ?_
      refine tm_get (k := 4) (v := .ref (b + 1 + 2)) lay_12 dX12_step_509 (by decide) fl12_17 rfl ?_
      refine tm_iload dX12_step_512 3 rfl ?_
      refine tm_iald (z := 220 * (v5 + (σ.2.1 78 (((9 * m) + (σ.2.1 73 m)) - 1))) + (σ.2.1 79 (((9 * m) + (σ.2.1 73 m)) - 1))) (v := σ.2.1 4 (220 * (v5 + (σ.2.1 78 (((9 * m) + (σ.2.1 73 m)) - 1))) + (σ.2.1 79 (((9 * m) + (σ.2.1 73 m)) - 1)))) dX12_step_514 (show mT[2]? = some (4, 0, 2860) from rfl) (by omega) (by omega) (by decide) (rfl) ?_
      have g100 := RG.a hR 4 (220 * (v5 + (σ.2.1 78 (((9 * m) + (σ.2.1 73 m)) - 1))) + (σ.2.1 79 (((9 * m) + (σ.2.1 73 m)) - 1)))
      refine tm_iadd dX12_step_515 ?_
      refine tm_aload_n dX12_step_516 rfl 6 rfl ?_
      refine tm_get (k := 3) (v := .ref (b + 1 + 1)) lay_12 dX12_step_517 (by decide) fl12_13 rfl ?_
      refine tm_iload dX12_step_520 3 rfl ?_
      refine tm_iald (z := 220 * (v5 + (σ.2.1 78 (((9 * m) + (σ.2.1 73 m)) - 1))) + (σ.2.1 79 (((9 * m) + (σ.2.1 73 m)) - 1))) (v := σ.2.1 3 (220 * (v5 + (σ.2.1 78 (((9 * m) + (σ.2.1 73 m)) - 1))) + (σ.2.1 79 (((9 * m) + (σ.2.1 73 m)) - 1)))) dX12_step_522 (show mT[1]? = some (3, 0, 2860) from rfl) (by omega) (by omega) (by decide) (rfl) ?_
      have g101 := RG.a hR 3 (220 * (v5 + (σ.2.1 78 (((9 * m) + (σ.2.1 73 m)) - 1))) + (σ.2.1 79 (((9 * m) + (σ.2.1 73 m)) - 1)))
      refine tm_iload dX12_step_523 1 rfl ?_
      refine tm_aload_n dX12_step_525 rfl 6 rfl ?_
      refine tm_iload_n dX12_step_526 rfl 5 rfl ?_
      refine tm_aload_n dX12_step_527 rfl 6 rfl ?_
      refine tm_get (k := 7) (v := .ref (b + 1 + 5)) lay_12 dX12_step_528 (by decide) fl12_26 rfl ?_
      refine tm_iconst dX12_step_531 ?_
      refine tm_iload dX12_step_532 3 rfl ?_
      refine tm_imul dX12_step_534 ?_
      refine tm_iconst dX12_step_535 ?_
      refine tm_iadd dX12_step_536 ?_
      refine tm_iald (z := (4 * (220 * (v5 + (σ.2.1 78 (((9 * m) + (σ.2.1 73 m)) - 1))) + (σ.2.1 79 (((9 * m) + (σ.2.1 73 m)) - 1)))) + 1) (v := σ.2.1 7 ((4 * (220 * (v5 + (σ.2.1 78 (((9 * m) + (σ.2.1 73 m)) - 1))) + (σ.2.1 79 (((9 * m) + (σ.2.1 73 m)) - 1)))) + 1)) dX12_step_537 (show mT[5]? = some (7, 0, 11440) from rfl) (by omega) (by omega) (by decide) (rfl) ?_
      have g102 := RG.a hR 7 ((4 * (220 * (v5 + (σ.2.1 78 (((9 * m) + (σ.2.1 73 m)) - 1))) + (σ.2.1 79 (((9 * m) + (σ.2.1 73 m)) - 1)))) + 1)
      refine tm_aload_n dX12_step_538 rfl 6 rfl ?_
      refine tm_get (k := 8) (v := .ref (b + 1 + 6)) lay_12 dX12_step_539 (by decide) fl12_29 rfl ?_
      refine tm_iconst dX12_step_542 ?_
      refine tm_iload dX12_step_543 3 rfl ?_
      refine tm_imul dX12_step_545 ?_
      refine tm_iconst dX12_step_546 ?_
      refine tm_iadd dX12_step_547 ?_
      refine tm_iald (z := (4 * (220 * (v5 + (σ.2.1 78 (((9 * m) + (σ.2.1 73 m)) - 1))) + (σ.2.1 79 (((9 * m) + (σ.2.1 73 m)) - 1)))) + 1) (v := σ.2.1 8 ((4 * (220 * (v5 + (σ.2.1 78 (((9 * m) + (σ.2.1 73 m)) - 1))) + (σ.2.1 79 (((9 * m) + (σ.2.1 73 m)) - 1)))) + 1)) dX12_step_548 (show mT[6]? = some (8, 0, 11440) from rfl) (by omega) (by omega) (by decide) (rfl) ?_
      have g103 := RG.a hR 8 ((4 * (220 * (v5 + (σ.2.1 78 (((9 * m) + (σ.2.1 73 m)) - 1))) + (σ.2.1 79 (((9 * m) + (σ.2.1 73 m)) - 1)))) + 1)
      refine tm_callV (M := m_X12_step) (pc := 549) (ix := 545) (M' := m_X12_worth) (As := [.int (iI (((9 * m) + (σ.2.1 73 m)) - 1)), .int (iI (σ.2.1 7 ((4 * (220 * (v5 + (σ.2.1 78 (((9 * m) + (σ.2.1 73 m)) - 1))) + (σ.2.1 79 (((9 * m) + (σ.2.1 73 m)) - 1)))) + 1))), .int (iI (σ.2.1 8 ((4 * (220 * (v5 + (σ.2.1 78 (((9 * m) + (σ.2.1 73 m)) - 1))) + (σ.2.1 79 (((9 * m) + (σ.2.1 73 m)) - 1)))) + 1)))]) (rest := [.int (iI v18), .int (iI (σ.2.1 3 (220 * (v5 + (σ.2.1 78 (((9 * m) + (σ.2.1 73 m)) - 1))) + (σ.2.1 79 (((9 * m) + (σ.2.1 73 m)) - 1))))), .int (iI ((192 * (((9 * m) + (σ.2.1 73 m)) - 1)) + (σ.2.1 4 (220 * (v5 + (σ.2.1 78 (((9 * m) + (σ.2.1 73 m)) - 1))) + (σ.2.1 79 (((9 * m) + (σ.2.1 73 m)) - 1)))))), .ref (b + 1 + 53)]) dX12_step_549 ok_X12_worth im_X12_worth se_X12_worth ml12_545 np_X12_worth rfl rfl (Nat.le_of_ble_eq_true rfl) (Nat.le_of_ble_eq_true rfl) rfl (f_X12_worth (d + 1) (σ := σ) (c := ((9 * m) + (σ.2.1 73 m)) - 1) (k := σ.2.1 7 ((4 * (220 * (v5 + (σ.2.1 78 (((9 * m) + (σ.2.1 73 m)) - 1))) + (σ.2.1 79 (((9 * m) + (σ.2.1 73 m)) - 1)))) + 1)) (w := σ.2.1 8 ((4 * (220 * (v5 + (σ.2.1 78 (((9 * m) + (σ.2.1 73 m)) - 1))) + (σ.2.1 79 (((9 * m) + (σ.2.1 73 m)) - 1)))) + 1)) (by omega) hR (by omega) (by omega)) (fun r104 σ105 hp => ?_)
      obtain ⟨v106, rfl, rfl, f107, f108⟩ := hp
      show Tm _ _ 552 b σ [(7, .int (iI 0)), (6, .int (iI v18)), (5, .int (iI (192 * (((9 * m) + (σ.2.1 73 m)) - 1)))), (4, .int (iI (220 * (v5 + (σ.2.1 78 (((9 * m) + (σ.2.1 73 m)) - 1))) + (σ.2.1 79 (((9 * m) + (σ.2.1 73 m)) - 1))))), (3, .int (iI (σ.2.1 78 (((9 * m) + (σ.2.1 73 m)) - 1)))), (2, .int (iI (((9 * m) + (σ.2.1 73 m)) - 1))), (0, .ref b), (1, .int (iI m))] [.int (iI v106), .int (iI v18), .int (iI (σ.2.1 3 (220 * (v5 + (σ.2.1 78 (((9 * m) + (σ.2.1 73 m)) - 1))) + (σ.2.1 79 (((9 * m) + (σ.2.1 73 m)) - 1))))), .int (iI ((192 * (((9 * m) + (σ.2.1 73 m)) - 1)) + (σ.2.1 4 (220 * (v5 + (σ.2.1 78 (((9 * m) + (σ.2.1 73 m)) - 1))) + (σ.2.1 79 (((9 * m) + (σ.2.1 73 m)) - 1)))))), .ref (b + 1 + 53)] _
      have gB : v106 = wA σ (9 * m + σ.2.1 73 m - 1) (220 * (v5 + (σ.2.1 78 (((9 * m) + (σ.2.1 73 m)) - 1))) + (σ.2.1 79 (((9 * m) + (σ.2.1 73 m)) - 1))) 1 := f108
      refine tm_callS (M := m_X12_step) (pc := 552) (ix := 466) (M' := m_X12_worked) (As := [.int (iI (σ.2.1 3 (220 * (v5 + (σ.2.1 78 (((9 * m) + (σ.2.1 73 m)) - 1))) + (σ.2.1 79 (((9 * m) + (σ.2.1 73 m)) - 1))))), .int (iI v18), .int (iI v106)]) (rest := [.int (iI ((192 * (((9 * m) + (σ.2.1 73 m)) - 1)) + (σ.2.1 4 (220 * (v5 + (σ.2.1 78 (((9 * m) + (σ.2.1 73 m)) - 1))) + (σ.2.1 79 (((9 * m) + (σ.2.1 73 m)) - 1)))))), .ref (b + 1 + 53)]) dX12_step_552 ok_X12_worked stt_X12_worked ml12_466 np_X12_worked rfl (Nat.le_of_ble_eq_true rfl) (Nat.le_of_ble_eq_true rfl) rfl (f_X12_worked (d + 1) (σ := σ) (k := σ.2.1 3 (220 * (v5 + (σ.2.1 78 (((9 * m) + (σ.2.1 73 m)) - 1))) + (σ.2.1 79 (((9 * m) + (σ.2.1 73 m)) - 1)))) (x := v18) (y := v106) (by omega) (by omega) (by omega) (by omega)) (fun r109 σ110 hp => ?_)
      obtain ⟨v111, rfl, rfl, f112, f113⟩ := hp
      show Tm _ _ 555 b σ [(7, .int (iI 0)), (6, .int (iI v18)), (5, .int (iI (192 * (((9 * m) + (σ.2.1 73 m)) - 1)))), (4, .int (iI (220 * (v5 + (σ.2.1 78 (((9 * m) + (σ.2.1 73 m)) - 1))) + (σ.2.1 79 (((9 * m) + (σ.2.1 73 m)) - 1))))), (3, .int (iI (σ.2.1 78 (((9 * m) + (σ.2.1 73 m)) - 1)))), (2, .int (iI (((9 * m) + (σ.2.1 73 m)) - 1))), (0, .ref b), (1, .int (iI m))] [.int (iI v111), .int (iI ((192 * (((9 * m) + (σ.2.1 73 m)) - 1)) + (σ.2.1 4 (220 * (v5 + (σ.2.1 78 (((9 * m) + (σ.2.1 73 m)) - 1))) + (σ.2.1 79 (((9 * m) + (σ.2.1 73 m)) - 1)))))), .ref (b + 1 + 53)] _
      refine tm_iast (z := (192 * (((9 * m) + (σ.2.1 73 m)) - 1)) + (σ.2.1 4 (220 * (v5 + (σ.2.1 78 (((9 * m) + (σ.2.1 73 m)) - 1))) + (σ.2.1 79 (((9 * m) + (σ.2.1 73 m)) - 1))))) (v := v111) dX12_step_555 (show mT[53]? = some (82, 0, 5184) from rfl) (by omega) (by omega) (by decide) ?_
      refine tm_aload_n dX12_step_556 rfl 6 rfl ?_
      refine tm_get (k := 79) (v := .ref (b + 1 + 50)) lay_12 dX12_step_557 (by decide) fl12_170 rfl ?_
      refine tm_iload_n dX12_step_560 rfl 5 rfl ?_
      refine tm_dup2 dX12_step_561 rfl rfl ?_
      refine tm_iald (z := ((9 * m) + (σ.2.1 73 m)) - 1) (v := σ.2.1 79 (((9 * m) + (σ.2.1 73 m)) - 1)) dX12_step_562 (show mT[50]? = some (79, 0, 27) from rfl) (by omega) (by omega) (by decide) (ra_o (by decide) (rfl)) ?_
      have g114 := RG.a hR 79 (((9 * m) + (σ.2.1 73 m)) - 1)
      refine tm_iconst dX12_step_563 ?_
      refine tm_iadd dX12_step_564 ?_
      refine tm_iast (z := ((9 * m) + (σ.2.1 73 m)) - 1) (v := (σ.2.1 79 (((9 * m) + (σ.2.1 73 m)) - 1)) + 1) dX12_step_565 (show mT[50]? = some (79, 0, 27) from rfl) (by omega) (by omega) (by decide) ?_
      refine tm_iload dX12_step_566 0 rfl ?_
      exact tm_iret rfl dX12_step_568 (⟨_, rfl, ((Fr.rfl.A (by decide)).A (by decide)), ((hR.A (by omega)).A (by omega)), Or.inr (Or.inr ⟨by omega, hrun.top (t := 9 * m + σ.2.1 73 m - 1) rfl (show Fr [] [79, 82] [] σ (sA 79 (((9 * m) + (σ.2.1 73 m)) - 1) ((σ.2.1 79 (((9 * m) + (σ.2.1 73 m)) - 1)) + 1) (sA 82 ((192 * (((9 * m) + (σ.2.1 73 m)) - 1)) + (σ.2.1 4 (220 * (v5 + (σ.2.1 78 (((9 * m) + (σ.2.1 73 m)) - 1))) + (σ.2.1 79 (((9 * m) + (σ.2.1 73 m)) - 1))))) (v111) σ)) from ((Fr.rfl.A (by decide)).A (by decide))) (by decide) (by decide) rfl (fun _ _ _ => rfl) (fun z a b => ⟨ra_ne (by omega) rfl, rfl⟩) (by rw [show (sA 79 (((9 * m) + (σ.2.1 73 m)) - 1) ((σ.2.1 79 (((9 * m) + (σ.2.1 73 m)) - 1)) + 1) (sA 82 ((192 * (((9 * m) + (σ.2.1 73 m)) - 1)) + (σ.2.1 4 (220 * (v5 + (σ.2.1 78 (((9 * m) + (σ.2.1 73 m)) - 1))) + (σ.2.1 79 (((9 * m) + (σ.2.1 73 m)) - 1))))) (v111) σ)).2.1 79 (9 * m + σ.2.1 73 m - 1) = (σ.2.1 79 (((9 * m) + (σ.2.1 73 m)) - 1)) + 1 from ra_eq, show (sA 79 (((9 * m) + (σ.2.1 73 m)) - 1) ((σ.2.1 79 (((9 * m) + (σ.2.1 73 m)) - 1)) + 1) (sA 82 ((192 * (((9 * m) + (σ.2.1 73 m)) - 1)) + (σ.2.1 4 (220 * (v5 + (σ.2.1 78 (((9 * m) + (σ.2.1 73 m)) - 1))) + (σ.2.1 79 (((9 * m) + (σ.2.1 73 m)) - 1))))) (v111) σ)).2.1 80 (9 * m + σ.2.1 73 m - 1) = σ.2.1 80 (9 * m + σ.2.1 73 m - 1) from rfl]; exact hp.nx (by omega) (by omega) (by omega) (by omega)) (by rw [show (sA 79 (((9 * m) + (σ.2.1 73 m)) - 1) ((σ.2.1 79 (((9 * m) + (σ.2.1 73 m)) - 1)) + 1) (sA 82 ((192 * (((9 * m) + (σ.2.1 73 m)) - 1)) + (σ.2.1 4 (220 * (v5 + (σ.2.1 78 (((9 * m) + (σ.2.1 73 m)) - 1))) + (σ.2.1 79 (((9 * m) + (σ.2.1 73 m)) - 1))))) (v111) σ)).2.1 80 (9 * m + σ.2.1 73 m - 1) = σ.2.1 80 (9 * m + σ.2.1 73 m - 1) from rfl]; omega)⟩), ⟨fun j hj => ⟨rfl, rfl⟩, fun z hz => ⟨rfl, ra_ne (by omega) rfl, rfl⟩⟩, ⟨Int.le_refl _, (by show σ.2.1 76 m ≤ σ.2.1 76 m + 1; omega)⟩, fun _ => Or.inl ⟨by omega, by omega, rfl, fun _ => rfl, fun z hz => ra_ne hz rfl, Or.inl (by rw [show (sA 79 (((9 * m) + (σ.2.1 73 m)) - 1) ((σ.2.1 79 (((9 * m) + (σ.2.1 73 m)) - 1)) + 1) (sA 82 ((192 * (((9 * m) + (σ.2.1 73 m)) - 1)) + (σ.2.1 4 (220 * (v5 + (σ.2.1 78 (((9 * m) + (σ.2.1 73 m)) - 1))) + (σ.2.1 79 (((9 * m) + (σ.2.1 73 m)) - 1))))) (v111) σ)).2.1 79 (9 * m + σ.2.1 73 m - 1) = (σ.2.1 79 (((9 * m) + (σ.2.1 73 m)) - 1)) + 1 from ra_eq])⟩, by unfold STQ; rw [← hbv]; exact Or.inr (Or.inr (Or.inr (Or.inl (⟨by omega, rfl, by rw [← gA, ← gB, ← f113]⟩))))⟩)
    · refine tm_tableIn (tgt := 180) dX12_step_82 ⟨by omega, by omega⟩ (by omega) (by omega) (show _ = some (98) by rw [h22v]; rfl) (by decide) ?_
      refine tm_aload_n dX12_step_180 rfl 6 rfl ?_
      refine tm_get (k := 76) (v := .ref (b + 1 + 47)) lay_12 dX12_step_181 (by decide) fl12_161 rfl ?_
      refine tm_iload_n dX12_step_184 rfl 7 rfl ?_
      refine tm_iald (z := m) (v := σ.2.1 76 m) dX12_step_185 (show mT[47]? = some (76, 0, 3) from rfl) (by omega) (by omega) (by decide) (rfl) ?_
      have g115 := RG.a hR 76 (m)
      refine tm_sipush dX12_step_186 (by decide) ?_
      refine tm_icmp_ge (tgt := 211) dX12_step_189 (by decide) ⟨by omega, by omega⟩ ⟨by decide, by decide⟩ (fun h116 => ?_) (fun h116 => ?_)
      · refine tm_aload_n dX12_step_211 rfl 6 rfl ?_
        refine tm_get (k := 76) (v := .ref (b + 1 + 47)) lay_12 dX12_step_212 (by decide) fl12_161 rfl ?_
        refine tm_iload_n dX12_step_215 rfl 7 rfl ?_
        refine tm_dup2 dX12_step_216 rfl rfl ?_
        refine tm_iald (z := m) (v := σ.2.1 76 m) dX12_step_217 (show mT[47]? = some (76, 0, 3) from rfl) (by omega) (by omega) (by decide) (rfl) ?_
        have g117 := RG.a hR 76 (m)
        refine tm_iconst dX12_step_218 ?_
        refine tm_iadd dX12_step_219 ?_
        refine tm_iast (z := m) (v := (σ.2.1 76 m) + 1) dX12_step_220 (show mT[47]? = some (76, 0, 3) from rfl) (by omega) (by omega) (by decide) ?_
        refine tm_goto (tgt := 556) dX12_step_221 (by decide) ?_
        refine tm_aload_n dX12_step_556 rfl 6 rfl ?_
        refine tm_get (k := 79) (v := .ref (b + 1 + 50)) lay_12 dX12_step_557 (by decide) fl12_170 rfl ?_
        refine tm_iload_n dX12_step_560 rfl 5 rfl ?_
        refine tm_dup2 dX12_step_561 rfl rfl ?_
        refine tm_iald (z := ((9 * m) + (σ.2.1 73 m)) - 1) (v := σ.2.1 79 (((9 * m) + (σ.2.1 73 m)) - 1)) dX12_step_562 (show mT[50]? = some (79, 0, 27) from rfl) (by omega) (by omega) (by decide) (ra_o (by decide) (rfl)) ?_
        have g118 := RG.a hR 79 (((9 * m) + (σ.2.1 73 m)) - 1)
        refine tm_iconst dX12_step_563 ?_
        refine tm_iadd dX12_step_564 ?_
        refine tm_iast (z := ((9 * m) + (σ.2.1 73 m)) - 1) (v := (σ.2.1 79 (((9 * m) + (σ.2.1 73 m)) - 1)) + 1) dX12_step_565 (show mT[50]? = some (79, 0, 27) from rfl) (by omega) (by omega) (by decide) ?_
        refine tm_iload dX12_step_566 0 rfl ?_
        exact tm_iret rfl dX12_step_568 (⟨_, rfl, ((Fr.rfl.A (by decide)).A (by decide)), ((hR.A (by omega)).A (by omega)), Or.inr (Or.inr ⟨by omega, hrun.top (t := 9 * m + σ.2.1 73 m - 1) rfl (show Fr [] [76, 79] [] σ (sA 79 (((9 * m) + (σ.2.1 73 m)) - 1) ((σ.2.1 79 (((9 * m) + (σ.2.1 73 m)) - 1)) + 1) (sA 76 (m) ((σ.2.1 76 m) + 1) σ)) from ((Fr.rfl.A (by decide)).A (by decide))) (by decide) (by decide) rfl (fun _ _ _ => rfl) (fun z a b => ⟨ra_ne (by omega) rfl, rfl⟩) (by rw [show (sA 79 (((9 * m) + (σ.2.1 73 m)) - 1) ((σ.2.1 79 (((9 * m) + (σ.2.1 73 m)) - 1)) + 1) (sA 76 (m) ((σ.2.1 76 m) + 1) σ)).2.1 79 (9 * m + σ.2.1 73 m - 1) = (σ.2.1 79 (((9 * m) + (σ.2.1 73 m)) - 1)) + 1 from ra_eq, show (sA 79 (((9 * m) + (σ.2.1 73 m)) - 1) ((σ.2.1 79 (((9 * m) + (σ.2.1 73 m)) - 1)) + 1) (sA 76 (m) ((σ.2.1 76 m) + 1) σ)).2.1 80 (9 * m + σ.2.1 73 m - 1) = σ.2.1 80 (9 * m + σ.2.1 73 m - 1) from rfl]; exact hp.nx (by omega) (by omega) (by omega) (by omega)) (by rw [show (sA 79 (((9 * m) + (σ.2.1 73 m)) - 1) ((σ.2.1 79 (((9 * m) + (σ.2.1 73 m)) - 1)) + 1) (sA 76 (m) ((σ.2.1 76 m) + 1) σ)).2.1 80 (9 * m + σ.2.1 73 m - 1) = σ.2.1 80 (9 * m + σ.2.1 73 m - 1) from rfl]; omega)⟩), ⟨fun j hj => ⟨rfl, (by simp only [sA]; simp [hj])⟩, fun z hz => ⟨rfl, ra_ne (by omega) rfl, rfl⟩⟩, by rw [show (sA 79 (((9 * m) + (σ.2.1 73 m)) - 1) ((σ.2.1 79 (((9 * m) + (σ.2.1 73 m)) - 1)) + 1) (sA 76 (m) ((σ.2.1 76 m) + 1) σ)).2.1 76 m = σ.2.1 76 m + 1 from ra_o (by decide) (ra_eq)]; omega, fun _ => Or.inl ⟨by omega, by omega, rfl, fun _ => rfl, fun z hz => ra_ne hz rfl, Or.inl (by rw [show (sA 79 (((9 * m) + (σ.2.1 73 m)) - 1) ((σ.2.1 79 (((9 * m) + (σ.2.1 73 m)) - 1)) + 1) (sA 76 (m) ((σ.2.1 76 m) + 1) σ)).2.1 79 (9 * m + σ.2.1 73 m - 1) = (σ.2.1 79 (((9 * m) + (σ.2.1 73 m)) - 1)) + 1 from ra_eq])⟩, by unfold STQ; rw [← hbv]; exact Or.inr (Or.inr (Or.inr (Or.inr (Or.inl (⟨by omega, rfl, by rw [← gA, if_neg (by omega)]⟩)))))⟩)
      · refine tm_aload_n dX12_step_192 rfl 6 rfl ?_
        refine tm_get (k := 77) (v := .ref (b + 1 + 48)) lay_12 dX12_step_193 (by decide) fl12_164 rfl ?_
        refine tm_sipush dX12_step_196 (by decide) ?_
        refine tm_iload_n dX12_step_199 rfl 7 rfl ?_
        refine tm_imul dX12_step_200 ?_
        refine tm_aload_n dX12_step_201 rfl 6 rfl ?_
        refine tm_get (k := 76) (v := .ref (b + 1 + 47)) lay_12 dX12_step_202 (by decide) fl12_161 rfl ?_
        refine tm_iload_n dX12_step_205 rfl 7 rfl ?_
        refine tm_iald (z := m) (v := σ.2.1 76 m) dX12_step_206 (show mT[47]? = some (76, 0, 3) from rfl) (by omega) (by omega) (by decide) (rfl) ?_
        have g119 := RG.a hR 76 (m)
        refine tm_iadd dX12_step_207 ?_
        refine tm_iload dX12_step_208 1 rfl ?_
        refine tm_iast (z := (200 * m) + (σ.2.1 76 m)) (v := v18) dX12_step_210 (show mT[48]? = some (77, 0, 600) from rfl) (by omega) (by omega) (by decide) ?_
        refine tm_aload_n dX12_step_211 rfl 6 rfl ?_
        refine tm_get (k := 76) (v := .ref (b + 1 + 47)) lay_12 dX12_step_212 (by decide) fl12_161 rfl ?_
        refine tm_iload_n dX12_step_215 rfl 7 rfl ?_
        refine tm_dup2 dX12_step_216 rfl rfl ?_
        refine tm_iald (z := m) (v := σ.2.1 76 m) dX12_step_217 (show mT[47]? = some (76, 0, 3) from rfl) (by omega) (by omega) (by decide) (ra_o (by decide) (rfl)) ?_
        have g120 := RG.a hR 76 (m)
        refine tm_iconst dX12_step_218 ?_
        refine tm_iadd dX12_step_219 ?_
        refine tm_iast (z := m) (v := (σ.2.1 76 m) + 1) dX12_step_220 (show mT[47]? = some (76, 0, 3) from rfl) (by omega) (by omega) (by decide) ?_
        refine tm_goto (tgt := 556) dX12_step_221 (by decide) ?_
        refine tm_aload_n dX12_step_556 rfl 6 rfl ?_
        refine tm_get (k := 79) (v := .ref (b + 1 + 50)) lay_12 dX12_step_557 (by decide) fl12_170 rfl ?_
        refine tm_iload_n dX12_step_560 rfl 5 rfl ?_
        refine tm_dup2 dX12_step_561 rfl rfl ?_
        refine tm_iald (z := ((9 * m) + (σ.2.1 73 m)) - 1) (v := σ.2.1 79 (((9 * m) + (σ.2.1 73 m)) - 1)) dX12_step_562 (show mT[50]? = some (79, 0, 27) from rfl) (by omega) (by omega) (by decide) (ra_o (by decide) (ra_o (by decide) (rfl))) ?_
        have g121 := RG.a hR 79 (((9 * m) + (σ.2.1 73 m)) - 1)
        refine tm_iconst dX12_step_563 ?_
        refine tm_iadd dX12_step_564 ?_
        refine tm_iast (z := ((9 * m) + (σ.2.1 73 m)) - 1) (v := (σ.2.1 79 (((9 * m) + (σ.2.1 73 m)) - 1)) + 1) dX12_step_565 (show mT[50]? = some (79, 0, 27) from rfl) (by omega) (by omega) (by decide) ?_
        refine tm_iload dX12_step_566 0 rfl ?_
        exact tm_iret rfl dX12_step_568 (⟨_, rfl, (((Fr.rfl.A (by decide)).A (by decide)).A (by decide)), (((hR.A (by omega)).A (by omega)).A (by omega)), Or.inr (Or.inr ⟨by omega, hrun.top (t := 9 * m + σ.2.1 73 m - 1) rfl (show Fr [] [76, 77, 79] [] σ (sA 79 (((9 * m) + (σ.2.1 73 m)) - 1) ((σ.2.1 79 (((9 * m) + (σ.2.1 73 m)) - 1)) + 1) (sA 76 (m) ((σ.2.1 76 m) + 1) (sA 77 ((200 * m) + (σ.2.1 76 m)) (v18) σ))) from (((Fr.rfl.A (by decide)).A (by decide)).A (by decide))) (by decide) (by decide) rfl (fun _ _ _ => rfl) (fun z a b => ⟨ra_ne (by omega) rfl, rfl⟩) (by rw [show (sA 79 (((9 * m) + (σ.2.1 73 m)) - 1) ((σ.2.1 79 (((9 * m) + (σ.2.1 73 m)) - 1)) + 1) (sA 76 (m) ((σ.2.1 76 m) + 1) (sA 77 ((200 * m) + (σ.2.1 76 m)) (v18) σ))).2.1 79 (9 * m + σ.2.1 73 m - 1) = (σ.2.1 79 (((9 * m) + (σ.2.1 73 m)) - 1)) + 1 from ra_eq, show (sA 79 (((9 * m) + (σ.2.1 73 m)) - 1) ((σ.2.1 79 (((9 * m) + (σ.2.1 73 m)) - 1)) + 1) (sA 76 (m) ((σ.2.1 76 m) + 1) (sA 77 ((200 * m) + (σ.2.1 76 m)) (v18) σ))).2.1 80 (9 * m + σ.2.1 73 m - 1) = σ.2.1 80 (9 * m + σ.2.1 73 m - 1) from rfl]; exact hp.nx (by omega) (by omega) (by omega) (by omega)) (by rw [show (sA 79 (((9 * m) + (σ.2.1 73 m)) - 1) ((σ.2.1 79 (((9 * m) + (σ.2.1 73 m)) - 1)) + 1) (sA 76 (m) ((σ.2.1 76 m) + 1) (sA 77 ((200 * m) + (σ.2.1 76 m)) (v18) σ))).2.1 80 (9 * m + σ.2.1 73 m - 1) = σ.2.1 80 (9 * m + σ.2.1 73 m - 1) from rfl]; omega)⟩), ⟨fun j hj => ⟨rfl, (by simp only [sA]; simp [hj])⟩, fun z hz => ⟨rfl, ra_ne (by omega) rfl, rfl⟩⟩, by rw [show (sA 79 (((9 * m) + (σ.2.1 73 m)) - 1) ((σ.2.1 79 (((9 * m) + (σ.2.1 73 m)) - 1)) + 1) (sA 76 (m) ((σ.2.1 76 m) + 1) (sA 77 ((200 * m) + (σ.2.1 76 m)) (v18) σ))).2.1 76 m = σ.2.1 76 m + 1 from ra_o (by decide) (ra_eq)]; omega, fun _ => Or.inl ⟨by omega, by omega, rfl, fun _ => rfl, fun z hz => ra_ne hz rfl, Or.inl (by rw [show (sA 79 (((9 * m) + (σ.2.1 73 m)) - 1) ((σ.2.1 79 (((9 * m) + (σ.2.1 73 m)) - 1)) + 1) (sA 76 (m) ((σ.2.1 76 m) + 1) (sA 77 ((200 * m) + (σ.2.1 76 m)) (v18) σ))).2.1 79 (9 * m + σ.2.1 73 m - 1) = (σ.2.1 79 (((9 * m) + (σ.2.1 73 m)) - 1)) + 1 from ra_eq])⟩, by unfold STQ; rw [← hbv]; exact Or.inr (Or.inr (Or.inr (Or.inr (Or.inl (⟨by omega, rfl, by rw [← gA, if_pos (by omega)]⟩)))))⟩)
    · refine tm_tableIn (tgt := 224) dX12_step_82 ⟨by omega, by omega⟩ (by omega) (by omega) (show _ = some (142) by rw [h22v]; rfl) (by decide) ?_
      refine tm_aload_n dX12_step_224 rfl 6 rfl ?_
      refine tm_iload_n dX12_step_225 rfl 7 rfl ?_
      refine tm_iload_n dX12_step_226 rfl 5 rfl ?_
      refine tm_iload dX12_step_227 1 rfl ?_
      refine tm_callV (M := m_X12_step) (pc := 229) (ix := 548) (M' := m_X12_returns) (As := [.int (iI m), .int (iI (((9 * m) + (σ.2.1 73 m)) - 1)), .int (iI v18)]) (rest := []) dX12_step_229 ok_X12_returns im_X12_returns se_X12_returns ml12_548 np_X12_returns rfl rfl (Nat.le_of_ble_eq_true rfl) (Nat.le_of_ble_eq_true rfl) rfl (f_X12_returns (d) (σ := σ) (m := m) (c := ((9 * m) + (σ.2.1 73 m)) - 1) (w := v18) hR hm2 hrun hbka rfl (by omega)) (fun r122 σ123 hp => ?_)
      obtain ⟨v124, rfl, f125, f126, f127, f128, f129, f130⟩ := hp
      show Tm _ _ 232 b σ123 [(7, .int (iI 0)), (6, .int (iI v18)), (5, .int (iI (192 * (((9 * m) + (σ.2.1 73 m)) - 1)))), (4, .int (iI (220 * (v5 + (σ.2.1 78 (((9 * m) + (σ.2.1 73 m)) - 1))) + (σ.2.1 79 (((9 * m) + (σ.2.1 73 m)) - 1))))), (3, .int (iI (σ.2.1 78 (((9 * m) + (σ.2.1 73 m)) - 1)))), (2, .int (iI (((9 * m) + (σ.2.1 73 m)) - 1))), (0, .ref b), (1, .int (iI m))] [.int (iI v124)] _
      exact tm_iret rfl dX12_step_232 (⟨_, rfl, (Fr.rfl.trans (Fr.sub f125 (by decide) (by decide) (by decide))), f126, Or.inr (f127.elim Or.inl (fun q => Or.inr ⟨Or.inl q.1, q.2⟩)), f128, by rw [f125.2.1 76 (by decide)]; exact ⟨Int.le_refl _, (by show σ.2.1 76 m ≤ σ.2.1 76 m + 1; omega)⟩, fun q => Or.inr (Or.inr (by have z := f129 q; rw [show 9 * m + σ.2.1 73 m - 1 - 1 = 9 * m + σ.2.1 73 m - 2 by omega] at z; exact z)), by unfold STQ; rw [← hbv]; exact Or.inr (Or.inl (⟨by omega, by rw [← gA]; exact f130⟩))⟩)
    · refine tm_tableIn (tgt := 233) dX12_step_82 ⟨by omega, by omega⟩ (by omega) (by omega) (show _ = some (151) by rw [h22v]; rfl) (by decide) ?_
      refine tm_aload_n dX12_step_233 rfl 6 rfl ?_
      refine tm_get (k := 79) (v := .ref (b + 1 + 50)) lay_12 dX12_step_234 (by decide) fl12_170 rfl ?_
      refine tm_iload_n dX12_step_237 rfl 5 rfl ?_
      refine tm_aload_n dX12_step_238 rfl 6 rfl ?_
      refine tm_aload_n dX12_step_239 rfl 6 rfl ?_
      refine tm_iload_n dX12_step_240 rfl 7 rfl ?_
      refine tm_callV (M := m_X12_step) (pc := 241) (ix := 542) (M' := m_X12_bank) (As := [.int (iI m)]) (rest := [.ref b, .int (iI (((9 * m) + (σ.2.1 73 m)) - 1)), .ref (b + 1 + 50)]) dX12_step_241 ok_X12_bank im_X12_bank se_X12_bank ml12_542 np_X12_bank rfl rfl (Nat.le_of_ble_eq_true rfl) (Nat.le_of_ble_eq_true rfl) rfl (c_X12_bank (d + 1) (σ := σ) (m := m) (by omega)) (fun r131 σ132 hp => ?_)
      obtain ⟨v133, rfl, rfl, f134, f135, f136⟩ := hp
      show Tm _ _ 244 b σ [(7, .int (iI 0)), (6, .int (iI v18)), (5, .int (iI (192 * (((9 * m) + (σ.2.1 73 m)) - 1)))), (4, .int (iI (220 * (v5 + (σ.2.1 78 (((9 * m) + (σ.2.1 73 m)) - 1))) + (σ.2.1 79 (((9 * m) + (σ.2.1 73 m)) - 1))))), (3, .int (iI (σ.2.1 78 (((9 * m) + (σ.2.1 73 m)) - 1)))), (2, .int (iI (((9 * m) + (σ.2.1 73 m)) - 1))), (0, .ref b), (1, .int (iI m))] [.int (iI v133), .ref b, .int (iI (((9 * m) + (σ.2.1 73 m)) - 1)), .ref (b + 1 + 50)] _
      have hbw : v133 = bkm m := bkm_2 f135 f136
      have hvv := hbw.trans hbv.symm
      refine tm_iload_n dX12_step_244 rfl 4 rfl ?_
      refine tm_iadd dX12_step_245 ?_
      refine tm_aload_n dX12_step_246 rfl 6 rfl ?_
      refine tm_get (k := 4) (v := .ref (b + 1 + 2)) lay_12 dX12_step_247 (by decide) fl12_17 rfl ?_
      refine tm_iload dX12_step_250 3 rfl ?_
      refine tm_iald (z := 220 * (v5 + (σ.2.1 78 (((9 * m) + (σ.2.1 73 m)) - 1))) + (σ.2.1 79 (((9 * m) + (σ.2.1 73 m)) - 1))) (v := σ.2.1 4 (220 * (v5 + (σ.2.1 78 (((9 * m) + (σ.2.1 73 m)) - 1))) + (σ.2.1 79 (((9 * m) + (σ.2.1 73 m)) - 1)))) dX12_step_252 (show mT[2]? = some (4, 0, 2860) from rfl) (by omega) (by omega) (by decide) (rfl) ?_
      have g137 := RG.a hR 4 (220 * (v5 + (σ.2.1 78 (((9 * m) + (σ.2.1 73 m)) - 1))) + (σ.2.1 79 (((9 * m) + (σ.2.1 73 m)) - 1)))
      refine tm_callV (M := m_X12_step) (pc := 253) (ix := 551) (M' := m_X12_labelIn) (As := [.int (iI (v133 + (σ.2.1 78 (((9 * m) + (σ.2.1 73 m)) - 1)))), .int (iI (σ.2.1 4 (220 * (v5 + (σ.2.1 78 (((9 * m) + (σ.2.1 73 m)) - 1))) + (σ.2.1 79 (((9 * m) + (σ.2.1 73 m)) - 1)))))]) (rest := [.int (iI (((9 * m) + (σ.2.1 73 m)) - 1)), .ref (b + 1 + 50)]) dX12_step_253 ok_X12_labelIn im_X12_labelIn se_X12_labelIn ml12_551 np_X12_labelIn rfl rfl (Nat.le_of_ble_eq_true rfl) (Nat.le_of_ble_eq_true rfl) rfl (c_X12_labelIn (d) (σ := σ) (r := v133 + (σ.2.1 78 (((9 * m) + (σ.2.1 73 m)) - 1))) (l := σ.2.1 4 (220 * (v5 + (σ.2.1 78 (((9 * m) + (σ.2.1 73 m)) - 1))) + (σ.2.1 79 (((9 * m) + (σ.2.1 73 m)) - 1)))) (by omega) hR hit (by rw [hvv]; exact hlx _ hp2.1 hp2.2 (by omega)) (by omega)) (fun r138 σ139 hp => ?_)
      obtain ⟨v140, rfl, rfl, f141, f142⟩ := hp
      show Tm _ _ 256 b σ [(7, .int (iI 0)), (6, .int (iI v18)), (5, .int (iI (192 * (((9 * m) + (σ.2.1 73 m)) - 1)))), (4, .int (iI (220 * (v5 + (σ.2.1 78 (((9 * m) + (σ.2.1 73 m)) - 1))) + (σ.2.1 79 (((9 * m) + (σ.2.1 73 m)) - 1))))), (3, .int (iI (σ.2.1 78 (((9 * m) + (σ.2.1 73 m)) - 1)))), (2, .int (iI (((9 * m) + (σ.2.1 73 m)) - 1))), (0, .ref b), (1, .int (iI m))] [.int (iI v140), .int (iI (((9 * m) + (σ.2.1 73 m)) - 1)), .ref (b + 1 + 50)] _
      have hjp := hp.jump (j := v140) (by rw [hkd]; omega) (by rw [← hbw]; exact f141) (by unfold kdm; rw [← hbw]; exact f142.1) (by rw [hds]; unfold dsm; rw [← hbw]; exact f142.2)
      have hj13 : kdm σ m (σ.2.1 78 (9 * m + σ.2.1 73 m - 1)) (v140) = 13 := by unfold kdm; rw [← hbw]; exact f142.1
      have hjd : dsm σ m (σ.2.1 78 (9 * m + σ.2.1 73 m - 1)) (v140) = dsm σ m (σ.2.1 78 (9 * m + σ.2.1 73 m - 1)) (σ.2.1 79 (9 * m + σ.2.1 73 m - 1)) := by rw [hds]; unfold dsm; rw [← hbw]; exact f142.2
      have hj0 := f141
      have hb9w := hb9
      rw [← hvv] at hb9w
      have hjt : JTO σ m (9 * m + σ.2.1 73 m - 1) (220 * (bkm m + σ.2.1 78 (9 * m + σ.2.1 73 m - 1)) + σ.2.1 79 (9 * m + σ.2.1 73 m - 1)) (v140) := ⟨by rw [← hbw]; exact f141, hj13, hjd⟩
      refine tm_iast (z := ((9 * m) + (σ.2.1 73 m)) - 1) (v := v140) dX12_step_256 (show mT[50]? = some (79, 0, 27) from rfl) (by omega) (by omega) (by decide) ?_
      refine tm_iconst dX12_step_257 ?_
      exact tm_iret rfl dX12_step_258 (⟨_, rfl, (Fr.rfl.A (by decide)), (hR.A (by omega)), Or.inr (Or.inr ⟨by omega, hrun.top (t := 9 * m + σ.2.1 73 m - 1) rfl (show Fr [] [79] [] σ (sA 79 (((9 * m) + (σ.2.1 73 m)) - 1) (v140) σ) from (Fr.rfl.A (by decide))) (by decide) (by decide) rfl (fun _ _ _ => rfl) (fun z a b => ⟨ra_ne (by omega) rfl, rfl⟩) (by rw [show (sA 79 (((9 * m) + (σ.2.1 73 m)) - 1) (v140) σ).2.1 79 (9 * m + σ.2.1 73 m - 1) = v140 from ra_eq, show (sA 79 (((9 * m) + (σ.2.1 73 m)) - 1) (v140) σ).2.1 80 (9 * m + σ.2.1 73 m - 1) = σ.2.1 80 (9 * m + σ.2.1 73 m - 1) from rfl]; exact hjp) (by rw [show (sA 79 (((9 * m) + (σ.2.1 73 m)) - 1) (v140) σ).2.1 80 (9 * m + σ.2.1 73 m - 1) = σ.2.1 80 (9 * m + σ.2.1 73 m - 1) from rfl]; omega)⟩), ⟨fun j hj => ⟨rfl, rfl⟩, fun z hz => ⟨rfl, ra_ne (by omega) rfl, rfl⟩⟩, ⟨Int.le_refl _, (by show σ.2.1 76 m ≤ σ.2.1 76 m + 1; omega)⟩, fun _ => Or.inl ⟨by omega, by omega, rfl, fun _ => rfl, fun z hz => ra_ne hz rfl, Or.inr ⟨by omega, by rw [show (sA 79 (((9 * m) + (σ.2.1 73 m)) - 1) (v140) σ).2.1 79 (9 * m + σ.2.1 73 m - 1) = v140 from ra_eq]; exact hj13, by rw [show (sA 79 (((9 * m) + (σ.2.1 73 m)) - 1) (v140) σ).2.1 79 (9 * m + σ.2.1 73 m - 1) = v140 from ra_eq]; exact hjd⟩⟩, by have hj9 := hjt; rw [← hbv] at hj9; unfold STQ; rw [← hbv]; exact Or.inr (Or.inr (Or.inr (Or.inr (Or.inr (Or.inl (⟨by rw [← gA]; omega, rfl, _, hj9, rfl⟩))))))⟩)
    · refine tm_tableIn (tgt := 259) dX12_step_82 ⟨by omega, by omega⟩ (by omega) (by omega) (show _ = some (177) by rw [h22v]; rfl) (by decide) ?_
      refine tm_iload dX12_step_259 1 rfl ?_
      refine tm_if_ne (tgt := 556) dX12_step_261 (by decide) ⟨by omega, by omega⟩ (fun h143 => ?_) (fun h143 => ?_)
      · refine tm_aload_n dX12_step_556 rfl 6 rfl ?_
        refine tm_get (k := 79) (v := .ref (b + 1 + 50)) lay_12 dX12_step_557 (by decide) fl12_170 rfl ?_
        refine tm_iload_n dX12_step_560 rfl 5 rfl ?_
        refine tm_dup2 dX12_step_561 rfl rfl ?_
        refine tm_iald (z := ((9 * m) + (σ.2.1 73 m)) - 1) (v := σ.2.1 79 (((9 * m) + (σ.2.1 73 m)) - 1)) dX12_step_562 (show mT[50]? = some (79, 0, 27) from rfl) (by omega) (by omega) (by decide) (rfl) ?_
        have g144 := RG.a hR 79 (((9 * m) + (σ.2.1 73 m)) - 1)
        refine tm_iconst dX12_step_563 ?_
        refine tm_iadd dX12_step_564 ?_
        refine tm_iast (z := ((9 * m) + (σ.2.1 73 m)) - 1) (v := (σ.2.1 79 (((9 * m) + (σ.2.1 73 m)) - 1)) + 1) dX12_step_565 (show mT[50]? = some (79, 0, 27) from rfl) (by omega) (by omega) (by decide) ?_
        refine tm_iload dX12_step_566 0 rfl ?_
        exact tm_iret rfl dX12_step_568 (⟨_, rfl, (Fr.rfl.A (by decide)), (hR.A (by omega)), Or.inr (Or.inr ⟨by omega, hrun.top (t := 9 * m + σ.2.1 73 m - 1) rfl (show Fr [] [79] [] σ (sA 79 (((9 * m) + (σ.2.1 73 m)) - 1) ((σ.2.1 79 (((9 * m) + (σ.2.1 73 m)) - 1)) + 1) σ) from (Fr.rfl.A (by decide))) (by decide) (by decide) rfl (fun _ _ _ => rfl) (fun z a b => ⟨ra_ne (by omega) rfl, rfl⟩) (by rw [show (sA 79 (((9 * m) + (σ.2.1 73 m)) - 1) ((σ.2.1 79 (((9 * m) + (σ.2.1 73 m)) - 1)) + 1) σ).2.1 79 (9 * m + σ.2.1 73 m - 1) = (σ.2.1 79 (((9 * m) + (σ.2.1 73 m)) - 1)) + 1 from ra_eq, show (sA 79 (((9 * m) + (σ.2.1 73 m)) - 1) ((σ.2.1 79 (((9 * m) + (σ.2.1 73 m)) - 1)) + 1) σ).2.1 80 (9 * m + σ.2.1 73 m - 1) = σ.2.1 80 (9 * m + σ.2.1 73 m - 1) from rfl]; exact hp.nx (by omega) (by omega) (by omega) (by omega)) (by rw [show (sA 79 (((9 * m) + (σ.2.1 73 m)) - 1) ((σ.2.1 79 (((9 * m) + (σ.2.1 73 m)) - 1)) + 1) σ).2.1 80 (9 * m + σ.2.1 73 m - 1) = σ.2.1 80 (9 * m + σ.2.1 73 m - 1) from rfl]; omega)⟩), ⟨fun j hj => ⟨rfl, rfl⟩, fun z hz => ⟨rfl, ra_ne (by omega) rfl, rfl⟩⟩, ⟨Int.le_refl _, (by show σ.2.1 76 m ≤ σ.2.1 76 m + 1; omega)⟩, fun _ => Or.inl ⟨by omega, by omega, rfl, fun _ => rfl, fun z hz => ra_ne hz rfl, Or.inl (by rw [show (sA 79 (((9 * m) + (σ.2.1 73 m)) - 1) ((σ.2.1 79 (((9 * m) + (σ.2.1 73 m)) - 1)) + 1) σ).2.1 79 (9 * m + σ.2.1 73 m - 1) = (σ.2.1 79 (((9 * m) + (σ.2.1 73 m)) - 1)) + 1 from ra_eq])⟩, by unfold STQ; rw [← hbv]; exact Or.inr (Or.inr (Or.inr (Or.inr (Or.inr (Or.inr (Or.inl (⟨by rw [← gA]; omega, rfl, rfl⟩)))))))⟩)
      · refine tm_aload_n dX12_step_264 rfl 6 rfl ?_
        refine tm_get (k := 79) (v := .ref (b + 1 + 50)) lay_12 dX12_step_265 (by decide) fl12_170 rfl ?_
        refine tm_iload_n dX12_step_268 rfl 5 rfl ?_
        refine tm_aload_n dX12_step_269 rfl 6 rfl ?_
        refine tm_aload_n dX12_step_270 rfl 6 rfl ?_
        refine tm_iload_n dX12_step_271 rfl 7 rfl ?_
        refine tm_callV (M := m_X12_step) (pc := 272) (ix := 542) (M' := m_X12_bank) (As := [.int (iI m)]) (rest := [.ref b, .int (iI (((9 * m) + (σ.2.1 73 m)) - 1)), .ref (b + 1 + 50)]) dX12_step_272 ok_X12_bank im_X12_bank se_X12_bank ml12_542 np_X12_bank rfl rfl (Nat.le_of_ble_eq_true rfl) (Nat.le_of_ble_eq_true rfl) rfl (c_X12_bank (d + 1) (σ := σ) (m := m) (by omega)) (fun r145 σ146 hp => ?_)
        obtain ⟨v147, rfl, rfl, f148, f149, f150⟩ := hp
        show Tm _ _ 275 b σ [(7, .int (iI 0)), (6, .int (iI v18)), (5, .int (iI (192 * (((9 * m) + (σ.2.1 73 m)) - 1)))), (4, .int (iI (220 * (v5 + (σ.2.1 78 (((9 * m) + (σ.2.1 73 m)) - 1))) + (σ.2.1 79 (((9 * m) + (σ.2.1 73 m)) - 1))))), (3, .int (iI (σ.2.1 78 (((9 * m) + (σ.2.1 73 m)) - 1)))), (2, .int (iI (((9 * m) + (σ.2.1 73 m)) - 1))), (0, .ref b), (1, .int (iI m))] [.int (iI v147), .ref b, .int (iI (((9 * m) + (σ.2.1 73 m)) - 1)), .ref (b + 1 + 50)] _
        have hbw : v147 = bkm m := bkm_2 f149 f150
        have hvv := hbw.trans hbv.symm
        refine tm_iload_n dX12_step_275 rfl 4 rfl ?_
        refine tm_iadd dX12_step_276 ?_
        refine tm_aload_n dX12_step_277 rfl 6 rfl ?_
        refine tm_get (k := 4) (v := .ref (b + 1 + 2)) lay_12 dX12_step_278 (by decide) fl12_17 rfl ?_
        refine tm_iload dX12_step_281 3 rfl ?_
        refine tm_iald (z := 220 * (v5 + (σ.2.1 78 (((9 * m) + (σ.2.1 73 m)) - 1))) + (σ.2.1 79 (((9 * m) + (σ.2.1 73 m)) - 1))) (v := σ.2.1 4 (220 * (v5 + (σ.2.1 78 (((9 * m) + (σ.2.1 73 m)) - 1))) + (σ.2.1 79 (((9 * m) + (σ.2.1 73 m)) - 1)))) dX12_step_283 (show mT[2]? = some (4, 0, 2860) from rfl) (by omega) (by omega) (by decide) (rfl) ?_
        have g151 := RG.a hR 4 (220 * (v5 + (σ.2.1 78 (((9 * m) + (σ.2.1 73 m)) - 1))) + (σ.2.1 79 (((9 * m) + (σ.2.1 73 m)) - 1)))
        refine tm_callV (M := m_X12_step) (pc := 284) (ix := 551) (M' := m_X12_labelIn) (As := [.int (iI (v147 + (σ.2.1 78 (((9 * m) + (σ.2.1 73 m)) - 1)))), .int (iI (σ.2.1 4 (220 * (v5 + (σ.2.1 78 (((9 * m) + (σ.2.1 73 m)) - 1))) + (σ.2.1 79 (((9 * m) + (σ.2.1 73 m)) - 1)))))]) (rest := [.int (iI (((9 * m) + (σ.2.1 73 m)) - 1)), .ref (b + 1 + 50)]) dX12_step_284 ok_X12_labelIn im_X12_labelIn se_X12_labelIn ml12_551 np_X12_labelIn rfl rfl (Nat.le_of_ble_eq_true rfl) (Nat.le_of_ble_eq_true rfl) rfl (c_X12_labelIn (d) (σ := σ) (r := v147 + (σ.2.1 78 (((9 * m) + (σ.2.1 73 m)) - 1))) (l := σ.2.1 4 (220 * (v5 + (σ.2.1 78 (((9 * m) + (σ.2.1 73 m)) - 1))) + (σ.2.1 79 (((9 * m) + (σ.2.1 73 m)) - 1)))) (by omega) hR hit (by rw [hvv]; exact hlx _ hp2.1 hp2.2 (by omega)) (by omega)) (fun r152 σ153 hp => ?_)
        obtain ⟨v154, rfl, rfl, f155, f156⟩ := hp
        show Tm _ _ 287 b σ [(7, .int (iI 0)), (6, .int (iI v18)), (5, .int (iI (192 * (((9 * m) + (σ.2.1 73 m)) - 1)))), (4, .int (iI (220 * (v5 + (σ.2.1 78 (((9 * m) + (σ.2.1 73 m)) - 1))) + (σ.2.1 79 (((9 * m) + (σ.2.1 73 m)) - 1))))), (3, .int (iI (σ.2.1 78 (((9 * m) + (σ.2.1 73 m)) - 1)))), (2, .int (iI (((9 * m) + (σ.2.1 73 m)) - 1))), (0, .ref b), (1, .int (iI m))] [.int (iI v154), .int (iI (((9 * m) + (σ.2.1 73 m)) - 1)), .ref (b + 1 + 50)] _
        have hjp := hp.jump (j := v154) (by rw [hkd]; omega) (by rw [← hbw]; exact f155) (by unfold kdm; rw [← hbw]; exact f156.1) (by rw [hds]; unfold dsm; rw [← hbw]; exact f156.2)
        have hj13 : kdm σ m (σ.2.1 78 (9 * m + σ.2.1 73 m - 1)) (v154) = 13 := by unfold kdm; rw [← hbw]; exact f156.1
        have hjd : dsm σ m (σ.2.1 78 (9 * m + σ.2.1 73 m - 1)) (v154) = dsm σ m (σ.2.1 78 (9 * m + σ.2.1 73 m - 1)) (σ.2.1 79 (9 * m + σ.2.1 73 m - 1)) := by rw [hds]; unfold dsm; rw [← hbw]; exact f156.2
        have hj0 := f155
        have hb9w := hb9
        rw [← hvv] at hb9w
        have hjt : JTO σ m (9 * m + σ.2.1 73 m - 1) (220 * (bkm m + σ.2.1 78 (9 * m + σ.2.1 73 m - 1)) + σ.2.1 79 (9 * m + σ.2.1 73 m - 1)) (v154) := ⟨by rw [← hbw]; exact f155, hj13, hjd⟩
        refine tm_iast (z := ((9 * m) + (σ.2.1 73 m)) - 1) (v := v154) dX12_step_287 (show mT[50]? = some (79, 0, 27) from rfl) (by omega) (by omega) (by decide) ?_
        refine tm_iconst dX12_step_288 ?_
        exact tm_iret rfl dX12_step_289 (⟨_, rfl, (Fr.rfl.A (by decide)), (hR.A (by omega)), Or.inr (Or.inr ⟨by omega, hrun.top (t := 9 * m + σ.2.1 73 m - 1) rfl (show Fr [] [79] [] σ (sA 79 (((9 * m) + (σ.2.1 73 m)) - 1) (v154) σ) from (Fr.rfl.A (by decide))) (by decide) (by decide) rfl (fun _ _ _ => rfl) (fun z a b => ⟨ra_ne (by omega) rfl, rfl⟩) (by rw [show (sA 79 (((9 * m) + (σ.2.1 73 m)) - 1) (v154) σ).2.1 79 (9 * m + σ.2.1 73 m - 1) = v154 from ra_eq, show (sA 79 (((9 * m) + (σ.2.1 73 m)) - 1) (v154) σ).2.1 80 (9 * m + σ.2.1 73 m - 1) = σ.2.1 80 (9 * m + σ.2.1 73 m - 1) from rfl]; exact hjp) (by rw [show (sA 79 (((9 * m) + (σ.2.1 73 m)) - 1) (v154) σ).2.1 80 (9 * m + σ.2.1 73 m - 1) = σ.2.1 80 (9 * m + σ.2.1 73 m - 1) from rfl]; omega)⟩), ⟨fun j hj => ⟨rfl, rfl⟩, fun z hz => ⟨rfl, ra_ne (by omega) rfl, rfl⟩⟩, ⟨Int.le_refl _, (by show σ.2.1 76 m ≤ σ.2.1 76 m + 1; omega)⟩, fun _ => Or.inl ⟨by omega, by omega, rfl, fun _ => rfl, fun z hz => ra_ne hz rfl, Or.inr ⟨by omega, by rw [show (sA 79 (((9 * m) + (σ.2.1 73 m)) - 1) (v154) σ).2.1 79 (9 * m + σ.2.1 73 m - 1) = v154 from ra_eq]; exact hj13, by rw [show (sA 79 (((9 * m) + (σ.2.1 73 m)) - 1) (v154) σ).2.1 79 (9 * m + σ.2.1 73 m - 1) = v154 from ra_eq]; exact hjd⟩⟩, by have hj9 := hjt; rw [← hbv] at hj9; unfold STQ; rw [← hbv]; exact Or.inr (Or.inr (Or.inr (Or.inr (Or.inr (Or.inl (⟨by rw [← gA]; omega, rfl, _, hj9, rfl⟩))))))⟩)
    · refine tm_tableIn (tgt := 290) dX12_step_82 ⟨by omega, by omega⟩ (by omega) (by omega) (show _ = some (208) by rw [h22v]; rfl) (by decide) ?_
      have hk10 := hkd.trans (by omega)
      have hcq := hpc hk10
      have hbq := hbka.2 _ hcq.1 hcq.2
      have mpa := hpar _ hcq.1 (by omega)
      refine tm_aload_n dX12_step_290 rfl 6 rfl ?_
      refine tm_iload_n dX12_step_291 rfl 7 rfl ?_
      refine tm_callV (M := m_X12_step) (pc := 292) (ix := 554) (M' := m_X12_depth) (As := [.int (iI m)]) (rest := []) dX12_step_292 ok_X12_depth im_X12_depth se_X12_depth ml12_554 np_X12_depth rfl rfl (Nat.le_of_ble_eq_true rfl) (Nat.le_of_ble_eq_true rfl) rfl (c_X12_depth (d + 1) (σ := σ) (m := m) hR hm2 (by omega) (fun c a e => ⟨_, hdec c a e⟩)) (fun r157 σ158 hp => ?_)
      obtain ⟨v159, rfl, rfl, f160, f161⟩ := hp
      show Tm _ _ 295 b σ [(7, .int (iI 0)), (6, .int (iI v18)), (5, .int (iI (192 * (((9 * m) + (σ.2.1 73 m)) - 1)))), (4, .int (iI (220 * (v5 + (σ.2.1 78 (((9 * m) + (σ.2.1 73 m)) - 1))) + (σ.2.1 79 (((9 * m) + (σ.2.1 73 m)) - 1))))), (3, .int (iI (σ.2.1 78 (((9 * m) + (σ.2.1 73 m)) - 1)))), (2, .int (iI (((9 * m) + (σ.2.1 73 m)) - 1))), (0, .ref b), (1, .int (iI m))] [.int (iI v159)] _
      have hd9 := f160
      refine tm_bipush dX12_step_295 (by decide) ?_
      refine tm_icmp_ne (tgt := 302) dX12_step_297 (by decide) ⟨by omega, by omega⟩ ⟨by decide, by decide⟩ (fun h162 => ?_) (fun h162 => ?_)
      · refine tm_aload_n dX12_step_302 rfl 6 rfl ?_
        refine tm_iload_n dX12_step_303 rfl 7 rfl ?_
        refine tm_aload_n dX12_step_304 rfl 6 rfl ?_
        refine tm_get (k := 5) (v := .ref (b + 1 + 3)) lay_12 dX12_step_305 (by decide) fl12_20 rfl ?_
        refine tm_iload dX12_step_308 3 rfl ?_
        refine tm_iald (z := 220 * (v5 + (σ.2.1 78 (((9 * m) + (σ.2.1 73 m)) - 1))) + (σ.2.1 79 (((9 * m) + (σ.2.1 73 m)) - 1))) (v := σ.2.1 5 (220 * (v5 + (σ.2.1 78 (((9 * m) + (σ.2.1 73 m)) - 1))) + (σ.2.1 79 (((9 * m) + (σ.2.1 73 m)) - 1)))) dX12_step_310 (show mT[3]? = some (5, 0, 2860) from rfl) (by omega) (by omega) (by decide) (rfl) ?_
        have g163 := RG.a hR 5 (220 * (v5 + (σ.2.1 78 (((9 * m) + (σ.2.1 73 m)) - 1))) + (σ.2.1 79 (((9 * m) + (σ.2.1 73 m)) - 1)))
        refine tm_callV (M := m_X12_step) (pc := 311) (ix := 536) (M' := m_X12_enterCall) (As := [.int (iI m), .int (iI (σ.2.1 5 (220 * (v5 + (σ.2.1 78 (((9 * m) + (σ.2.1 73 m)) - 1))) + (σ.2.1 79 (((9 * m) + (σ.2.1 73 m)) - 1)))))]) (rest := []) dX12_step_311 ok_X12_enterCall im_X12_enterCall se_X12_enterCall ml12_536 np_X12_enterCall rfl rfl (Nat.le_of_ble_eq_true rfl) (Nat.le_of_ble_eq_true rfl) rfl (f_X12_enterCall (d + 1) (σ := σ) (m := m) (r := σ.2.1 5 (220 * (v5 + (σ.2.1 78 (((9 * m) + (σ.2.1 73 m)) - 1))) + (σ.2.1 79 (((9 * m) + (σ.2.1 73 m)) - 1)))) hR hm2 (by omega) (by omega)) (fun r164 σ165 hp => ?_)
        obtain ⟨rfl, f167, f168, f169, f170, f171, f172, f173⟩ := hp
        show Tm _ _ 314 b σ165 [(7, .int (iI 0)), (6, .int (iI v18)), (5, .int (iI (192 * (((9 * m) + (σ.2.1 73 m)) - 1)))), (4, .int (iI (220 * (v5 + (σ.2.1 78 (((9 * m) + (σ.2.1 73 m)) - 1))) + (σ.2.1 79 (((9 * m) + (σ.2.1 73 m)) - 1))))), (3, .int (iI (σ.2.1 78 (((9 * m) + (σ.2.1 73 m)) - 1)))), (2, .int (iI (((9 * m) + (σ.2.1 73 m)) - 1))), (0, .ref b), (1, .int (iI m))] [] _
        have kE2 := f169
        have kE3 := f170
        have kE4 := f171
        have kE5 := f172
        have kE6 := f173
        refine tm_iconst dX12_step_314 ?_
        refine tm_istore (L' := [(8, .int (iI 0)), (7, .int (iI 0)), (6, .int (iI v18)), (5, .int (iI (192 * (((9 * m) + (σ.2.1 73 m)) - 1)))), (4, .int (iI (220 * (v5 + (σ.2.1 78 (((9 * m) + (σ.2.1 73 m)) - 1))) + (σ.2.1 79 (((9 * m) + (σ.2.1 73 m)) - 1))))), (3, .int (iI (σ.2.1 78 (((9 * m) + (σ.2.1 73 m)) - 1)))), (2, .int (iI (((9 * m) + (σ.2.1 73 m)) - 1))), (0, .ref b), (1, .int (iI m))]) dX12_step_315 (by decide) rfl ?_
        refine tm_sub [0, 3, 4, 6, 7, 8] rfl (f_step (d + 1) (σ0 := σ165) (m := m) (c := ((9 * m) + (σ.2.1 73 m)) - 1) (x := 220 * (v5 + (σ.2.1 78 (((9 * m) + (σ.2.1 73 m)) - 1))) + (σ.2.1 79 (((9 * m) + (σ.2.1 73 m)) - 1))) (q := (σ.2.1 5 (220 * (v5 + (σ.2.1 78 (((9 * m) + (σ.2.1 73 m)) - 1))) + (σ.2.1 79 (((9 * m) + (σ.2.1 73 m)) - 1))))) f168 hm2 (by omega) (by rw [((show Fr [] [73, 78, 79, 80, 81, 82] [] σ σ165 from (Fr.rfl.trans (Fr.sub f167 (by decide) (by decide) (by decide))))).2.1 5 (by decide), ((show Fr [] [73, 78, 79, 80, 81, 82] [] σ σ165 from (Fr.rfl.trans (Fr.sub f167 (by decide) (by decide) (by decide))))).2.1 11 (by decide)]; omega) (by rw [((show Fr [] [73, 78, 79, 80, 81, 82] [] σ σ165 from (Fr.rfl.trans (Fr.sub f167 (by decide) (by decide) (by decide))))).2.1 11 (by decide), ((show Fr [] [73, 78, 79, 80, 81, 82] [] σ σ165 from (Fr.rfl.trans (Fr.sub f167 (by decide) (by decide) (by decide))))).2.1 18 (by decide)]; exact hbq.2.2.2.2.2.2) (by rw [((show Fr [] [73, 78, 79, 80, 81, 82] [] σ σ165 from (Fr.rfl.trans (Fr.sub f167 (by decide) (by decide) (by decide))))).2.1 7 (by decide), ((show Fr [] [73, 78, 79, 80, 81, 82] [] σ σ165 from (Fr.rfl.trans (Fr.sub f167 (by decide) (by decide) (by decide))))).2.1 8 (by decide)]; exact fun n a c e => ((ho8 n a c).2 e).1) (fun n1179 σ180 F176 R177 f178 => ?_) _ (0) σ165 Fr.rfl f168 (by rw [((show Fr [] [73, 78, 79, 80, 81, 82] [] σ σ165 from (Fr.rfl.trans (Fr.sub f167 (by decide) (by decide) (by decide))))).2.1 11 (by decide)]; omega) PWG.z rfl)
        show Tm _ _ 395 b σ180 [(0, .ref b)] [] _
        refine tm_iconst dX12_step_395 ?_
        exact tm_iret rfl dX12_step_396 (⟨_, rfl, ((Fr.rfl.trans (Fr.sub f167 (by decide) (by decide) (by decide))).trans (Fr.sub F176 (by decide) (by decide) (by decide))), R177, Or.inr (Or.inr ⟨Or.inl rfl, hrun.push (r := _) (show Fr [] [73, 78, 79, 80, 81, 82] [] σ σ180 from ((Fr.rfl.trans (Fr.sub f167 (by decide) (by decide) (by decide))).trans (Fr.sub F176 (by decide) (by decide) (by decide)))) (by decide) (by decide) (by rw [F176.2.1 73 (by decide)]; exact kE2) (fun z a b => by rw [F176.2.1 78 (by decide), F176.2.1 79 (by decide), F176.2.1 80 (by decide)]; exact kE5 z (by omega)) (by rw [F176.2.1 78 (by decide), F176.2.1 79 (by decide), F176.2.1 80 (by decide)]; exact kE3) hbq hcq hk10 (by omega)⟩), ⟨fun j hj => by rw [F176.2.1 73 (by decide), F176.2.1 76 (by decide)]; exact ⟨kE4 j hj, congrFun (f167.2.1 76 (by decide)) j⟩, fun z hz => by rw [F176.2.1 78 (by decide), F176.2.1 79 (by decide), F176.2.1 80 (by decide)]; exact kE5 z (by omega)⟩, by rw [F176.2.1 76 (by decide), f167.2.1 76 (by decide)]; exact ⟨Int.le_refl _, (by show σ.2.1 76 m ≤ σ.2.1 76 m + 1; omega)⟩, fun _ => Or.inr (Or.inl ⟨hk10, by rw [F176.2.1 73 (by decide)]; exact kE2, fun z a b => by rw [F176.2.1 78 (by decide), F176.2.1 79 (by decide)]; exact ⟨(kE5 z (by omega)).1, (kE5 z (by omega)).2.1⟩, by rw [F176.2.1 79 (by decide)]; exact kE3.2.1⟩), by unfold STQ; rw [← hbv]; exact Or.inr (Or.inr (Or.inr (Or.inr (Or.inr (Or.inr (Or.inr (Or.inr (Or.inr (Or.inr ((⟨by omega, rfl, by omega, _, ⟨f167, kE2, kE3, kE4, kE5, kE6⟩, F176, (by rw [← f167.2.1 11 (by decide)]; exact f178)⟩)))))))))))⟩)
      · refine tm_iconst dX12_step_300 ?_
        exact tm_iret rfl dX12_step_301 (⟨_, rfl, Fr.rfl, hR, Or.inl ⟨rfl, rfl⟩, ⟨fun _ _ => ⟨rfl, rfl⟩, fun _ _ => ⟨rfl, rfl, rfl⟩⟩, ⟨Int.le_refl _, (by show σ.2.1 76 m ≤ σ.2.1 76 m + 1; omega)⟩, fun q => absurd q (by decide), by unfold STQ; rw [← hbv]; exact Or.inl (⟨rfl, by omega, by omega, rfl⟩)⟩)
    · refine tm_tableIn (tgt := 397) dX12_step_82 ⟨by omega, by omega⟩ (by omega) (by omega) (show _ = some (315) by rw [h22v]; rfl) (by decide) ?_
      have ho6 := hoki.2.2.2.2.2.1 (Or.inl (by omega))
      refine tm_aload_n dX12_step_397 rfl 6 rfl ?_
      refine tm_get (k := 81) (v := .ref (b + 1 + 52)) lay_12 dX12_step_398 (by decide) fl12_176 rfl ?_
      refine tm_bipush dX12_step_401 (by decide) ?_
      refine tm_iload_n dX12_step_403 rfl 5 rfl ?_
      refine tm_imul dX12_step_404 ?_
      refine tm_aload_n dX12_step_405 rfl 6 rfl ?_
      refine tm_get (k := 5) (v := .ref (b + 1 + 3)) lay_12 dX12_step_406 (by decide) fl12_20 rfl ?_
      refine tm_iload dX12_step_409 3 rfl ?_
      refine tm_iald (z := 220 * (v5 + (σ.2.1 78 (((9 * m) + (σ.2.1 73 m)) - 1))) + (σ.2.1 79 (((9 * m) + (σ.2.1 73 m)) - 1))) (v := σ.2.1 5 (220 * (v5 + (σ.2.1 78 (((9 * m) + (σ.2.1 73 m)) - 1))) + (σ.2.1 79 (((9 * m) + (σ.2.1 73 m)) - 1)))) dX12_step_411 (show mT[3]? = some (5, 0, 2860) from rfl) (by omega) (by omega) (by decide) (rfl) ?_
      have g181 := RG.a hR 5 (220 * (v5 + (σ.2.1 78 (((9 * m) + (σ.2.1 73 m)) - 1))) + (σ.2.1 79 (((9 * m) + (σ.2.1 73 m)) - 1)))
      refine tm_iadd dX12_step_412 ?_
      refine tm_aload_n dX12_step_413 rfl 6 rfl ?_
      refine tm_get (k := 4) (v := .ref (b + 1 + 2)) lay_12 dX12_step_414 (by decide) fl12_17 rfl ?_
      refine tm_iload dX12_step_417 3 rfl ?_
      refine tm_iald (z := 220 * (v5 + (σ.2.1 78 (((9 * m) + (σ.2.1 73 m)) - 1))) + (σ.2.1 79 (((9 * m) + (σ.2.1 73 m)) - 1))) (v := σ.2.1 4 (220 * (v5 + (σ.2.1 78 (((9 * m) + (σ.2.1 73 m)) - 1))) + (σ.2.1 79 (((9 * m) + (σ.2.1 73 m)) - 1)))) dX12_step_419 (show mT[2]? = some (4, 0, 2860) from rfl) (by omega) (by omega) (by decide) (rfl) ?_
      have g182 := RG.a hR 4 (220 * (v5 + (σ.2.1 78 (((9 * m) + (σ.2.1 73 m)) - 1))) + (σ.2.1 79 (((9 * m) + (σ.2.1 73 m)) - 1)))
      refine tm_iast (z := (12 * (((9 * m) + (σ.2.1 73 m)) - 1)) + (σ.2.1 5 (220 * (v5 + (σ.2.1 78 (((9 * m) + (σ.2.1 73 m)) - 1))) + (σ.2.1 79 (((9 * m) + (σ.2.1 73 m)) - 1))))) (v := σ.2.1 4 (220 * (v5 + (σ.2.1 78 (((9 * m) + (σ.2.1 73 m)) - 1))) + (σ.2.1 79 (((9 * m) + (σ.2.1 73 m)) - 1)))) dX12_step_420 (show mT[52]? = some (81, 0, 324) from rfl) (by omega) (by omega) (by decide) ?_
      refine tm_iconst dX12_step_421 ?_
      refine tm_istore (L' := [(7, .int (iI 1)), (6, .int (iI v18)), (5, .int (iI (192 * (((9 * m) + (σ.2.1 73 m)) - 1)))), (4, .int (iI (220 * (v5 + (σ.2.1 78 (((9 * m) + (σ.2.1 73 m)) - 1))) + (σ.2.1 79 (((9 * m) + (σ.2.1 73 m)) - 1))))), (3, .int (iI (σ.2.1 78 (((9 * m) + (σ.2.1 73 m)) - 1)))), (2, .int (iI (((9 * m) + (σ.2.1 73 m)) - 1))), (0, .ref b), (1, .int (iI m))]) dX12_step_422 (by decide) rfl ?_
      refine tm_goto (tgt := 556) dX12_step_424 (by decide) ?_
      refine tm_aload_n dX12_step_556 rfl 6 rfl ?_
      refine tm_get (k := 79) (v := .ref (b + 1 + 50)) lay_12 dX12_step_557 (by decide) fl12_170 rfl ?_
      refine tm_iload_n dX12_step_560 rfl 5 rfl ?_
      refine tm_dup2 dX12_step_561 rfl rfl ?_
      refine tm_iald (z := ((9 * m) + (σ.2.1 73 m)) - 1) (v := σ.2.1 79 (((9 * m) + (σ.2.1 73 m)) - 1)) dX12_step_562 (show mT[50]? = some (79, 0, 27) from rfl) (by omega) (by omega) (by decide) (ra_o (by decide) (rfl)) ?_
      have g183 := RG.a hR 79 (((9 * m) + (σ.2.1 73 m)) - 1)
      refine tm_iconst dX12_step_563 ?_
      refine tm_iadd dX12_step_564 ?_
      refine tm_iast (z := ((9 * m) + (σ.2.1 73 m)) - 1) (v := (σ.2.1 79 (((9 * m) + (σ.2.1 73 m)) - 1)) + 1) dX12_step_565 (show mT[50]? = some (79, 0, 27) from rfl) (by omega) (by omega) (by decide) ?_
      refine tm_iload dX12_step_566 0 rfl ?_
      exact tm_iret rfl dX12_step_568 (⟨_, rfl, ((Fr.rfl.A (by decide)).A (by decide)), ((hR.A (by omega)).A (by omega)), Or.inr (Or.inr ⟨by omega, hrun.top (t := 9 * m + σ.2.1 73 m - 1) rfl (show Fr [] [79, 81] [] σ (sA 79 (((9 * m) + (σ.2.1 73 m)) - 1) ((σ.2.1 79 (((9 * m) + (σ.2.1 73 m)) - 1)) + 1) (sA 81 ((12 * (((9 * m) + (σ.2.1 73 m)) - 1)) + (σ.2.1 5 (220 * (v5 + (σ.2.1 78 (((9 * m) + (σ.2.1 73 m)) - 1))) + (σ.2.1 79 (((9 * m) + (σ.2.1 73 m)) - 1))))) (σ.2.1 4 (220 * (v5 + (σ.2.1 78 (((9 * m) + (σ.2.1 73 m)) - 1))) + (σ.2.1 79 (((9 * m) + (σ.2.1 73 m)) - 1)))) σ)) from ((Fr.rfl.A (by decide)).A (by decide))) (by decide) (by decide) rfl (fun _ _ _ => rfl) (fun z a b => ⟨ra_ne (by omega) rfl, rfl⟩) (by rw [show (sA 79 (((9 * m) + (σ.2.1 73 m)) - 1) ((σ.2.1 79 (((9 * m) + (σ.2.1 73 m)) - 1)) + 1) (sA 81 ((12 * (((9 * m) + (σ.2.1 73 m)) - 1)) + (σ.2.1 5 (220 * (v5 + (σ.2.1 78 (((9 * m) + (σ.2.1 73 m)) - 1))) + (σ.2.1 79 (((9 * m) + (σ.2.1 73 m)) - 1))))) (σ.2.1 4 (220 * (v5 + (σ.2.1 78 (((9 * m) + (σ.2.1 73 m)) - 1))) + (σ.2.1 79 (((9 * m) + (σ.2.1 73 m)) - 1)))) σ)).2.1 79 (9 * m + σ.2.1 73 m - 1) = (σ.2.1 79 (((9 * m) + (σ.2.1 73 m)) - 1)) + 1 from ra_eq, show (sA 79 (((9 * m) + (σ.2.1 73 m)) - 1) ((σ.2.1 79 (((9 * m) + (σ.2.1 73 m)) - 1)) + 1) (sA 81 ((12 * (((9 * m) + (σ.2.1 73 m)) - 1)) + (σ.2.1 5 (220 * (v5 + (σ.2.1 78 (((9 * m) + (σ.2.1 73 m)) - 1))) + (σ.2.1 79 (((9 * m) + (σ.2.1 73 m)) - 1))))) (σ.2.1 4 (220 * (v5 + (σ.2.1 78 (((9 * m) + (σ.2.1 73 m)) - 1))) + (σ.2.1 79 (((9 * m) + (σ.2.1 73 m)) - 1)))) σ)).2.1 80 (9 * m + σ.2.1 73 m - 1) = σ.2.1 80 (9 * m + σ.2.1 73 m - 1) from rfl]; exact hp.nx (by omega) (by omega) (by omega) (by omega)) (by rw [show (sA 79 (((9 * m) + (σ.2.1 73 m)) - 1) ((σ.2.1 79 (((9 * m) + (σ.2.1 73 m)) - 1)) + 1) (sA 81 ((12 * (((9 * m) + (σ.2.1 73 m)) - 1)) + (σ.2.1 5 (220 * (v5 + (σ.2.1 78 (((9 * m) + (σ.2.1 73 m)) - 1))) + (σ.2.1 79 (((9 * m) + (σ.2.1 73 m)) - 1))))) (σ.2.1 4 (220 * (v5 + (σ.2.1 78 (((9 * m) + (σ.2.1 73 m)) - 1))) + (σ.2.1 79 (((9 * m) + (σ.2.1 73 m)) - 1)))) σ)).2.1 80 (9 * m + σ.2.1 73 m - 1) = σ.2.1 80 (9 * m + σ.2.1 73 m - 1) from rfl]; omega)⟩), ⟨fun j hj => ⟨rfl, rfl⟩, fun z hz => ⟨rfl, ra_ne (by omega) rfl, rfl⟩⟩, ⟨Int.le_refl _, (by show σ.2.1 76 m ≤ σ.2.1 76 m + 1; omega)⟩, fun q => absurd q (by decide), by unfold STQ; rw [← hbv]; exact Or.inr (Or.inr (Or.inr (Or.inr (Or.inr (Or.inr (Or.inr (Or.inl (⟨by omega, rfl, rfl⟩))))))))⟩)
    · refine tm_tableIn (tgt := 499) dX12_step_82 ⟨by omega, by omega⟩ (by omega) (by omega) (show _ = some (417) by rw [h22v]; rfl) (by decide) ?_
      refine tm_goto (tgt := 556) dX12_step_499 (by decide) ?_
      refine tm_aload_n dX12_step_556 rfl 6 rfl ?_
      refine tm_get (k := 79) (v := .ref (b + 1 + 50)) lay_12 dX12_step_557 (by decide) fl12_170 rfl ?_
      refine tm_iload_n dX12_step_560 rfl 5 rfl ?_
      refine tm_dup2 dX12_step_561 rfl rfl ?_
      refine tm_iald (z := ((9 * m) + (σ.2.1 73 m)) - 1) (v := σ.2.1 79 (((9 * m) + (σ.2.1 73 m)) - 1)) dX12_step_562 (show mT[50]? = some (79, 0, 27) from rfl) (by omega) (by omega) (by decide) (rfl) ?_
      have g184 := RG.a hR 79 (((9 * m) + (σ.2.1 73 m)) - 1)
      refine tm_iconst dX12_step_563 ?_
      refine tm_iadd dX12_step_564 ?_
      refine tm_iast (z := ((9 * m) + (σ.2.1 73 m)) - 1) (v := (σ.2.1 79 (((9 * m) + (σ.2.1 73 m)) - 1)) + 1) dX12_step_565 (show mT[50]? = some (79, 0, 27) from rfl) (by omega) (by omega) (by decide) ?_
      refine tm_iload dX12_step_566 0 rfl ?_
      exact tm_iret rfl dX12_step_568 (⟨_, rfl, (Fr.rfl.A (by decide)), (hR.A (by omega)), Or.inr (Or.inr ⟨by omega, hrun.top (t := 9 * m + σ.2.1 73 m - 1) rfl (show Fr [] [79] [] σ (sA 79 (((9 * m) + (σ.2.1 73 m)) - 1) ((σ.2.1 79 (((9 * m) + (σ.2.1 73 m)) - 1)) + 1) σ) from (Fr.rfl.A (by decide))) (by decide) (by decide) rfl (fun _ _ _ => rfl) (fun z a b => ⟨ra_ne (by omega) rfl, rfl⟩) (by rw [show (sA 79 (((9 * m) + (σ.2.1 73 m)) - 1) ((σ.2.1 79 (((9 * m) + (σ.2.1 73 m)) - 1)) + 1) σ).2.1 79 (9 * m + σ.2.1 73 m - 1) = (σ.2.1 79 (((9 * m) + (σ.2.1 73 m)) - 1)) + 1 from ra_eq, show (sA 79 (((9 * m) + (σ.2.1 73 m)) - 1) ((σ.2.1 79 (((9 * m) + (σ.2.1 73 m)) - 1)) + 1) σ).2.1 80 (9 * m + σ.2.1 73 m - 1) = σ.2.1 80 (9 * m + σ.2.1 73 m - 1) from rfl]; exact hp.nx (by omega) (by omega) (by omega) (by omega)) (by rw [show (sA 79 (((9 * m) + (σ.2.1 73 m)) - 1) ((σ.2.1 79 (((9 * m) + (σ.2.1 73 m)) - 1)) + 1) σ).2.1 80 (9 * m + σ.2.1 73 m - 1) = σ.2.1 80 (9 * m + σ.2.1 73 m - 1) from rfl]; omega)⟩), ⟨fun j hj => ⟨rfl, rfl⟩, fun z hz => ⟨rfl, ra_ne (by omega) rfl, rfl⟩⟩, ⟨Int.le_refl _, (by show σ.2.1 76 m ≤ σ.2.1 76 m + 1; omega)⟩, fun _ => Or.inl ⟨by omega, by omega, rfl, fun _ => rfl, fun z hz => ra_ne hz rfl, Or.inl (by rw [show (sA 79 (((9 * m) + (σ.2.1 73 m)) - 1) ((σ.2.1 79 (((9 * m) + (σ.2.1 73 m)) - 1)) + 1) σ).2.1 79 (9 * m + σ.2.1 73 m - 1) = (σ.2.1 79 (((9 * m) + (σ.2.1 73 m)) - 1)) + 1 from ra_eq])⟩, by unfold STQ; rw [← hbv]; exact Or.inr (Or.inr (Or.inr (Or.inr (Or.inr (Or.inr (Or.inl (⟨by rw [← gA]; omega, rfl, rfl⟩)))))))⟩)
    · refine tm_tableIn (tgt := 499) dX12_step_82 ⟨by omega, by omega⟩ (by omega) (by omega) (show _ = some (417) by rw [h22v]; rfl) (by decide) ?_
      refine tm_goto (tgt := 556) dX12_step_499 (by decide) ?_
      refine tm_aload_n dX12_step_556 rfl 6 rfl ?_
      refine tm_get (k := 79) (v := .ref (b + 1 + 50)) lay_12 dX12_step_557 (by decide) fl12_170 rfl ?_
      refine tm_iload_n dX12_step_560 rfl 5 rfl ?_
      refine tm_dup2 dX12_step_561 rfl rfl ?_
      refine tm_iald (z := ((9 * m) + (σ.2.1 73 m)) - 1) (v := σ.2.1 79 (((9 * m) + (σ.2.1 73 m)) - 1)) dX12_step_562 (show mT[50]? = some (79, 0, 27) from rfl) (by omega) (by omega) (by decide) (rfl) ?_
      have g185 := RG.a hR 79 (((9 * m) + (σ.2.1 73 m)) - 1)
      refine tm_iconst dX12_step_563 ?_
      refine tm_iadd dX12_step_564 ?_
      refine tm_iast (z := ((9 * m) + (σ.2.1 73 m)) - 1) (v := (σ.2.1 79 (((9 * m) + (σ.2.1 73 m)) - 1)) + 1) dX12_step_565 (show mT[50]? = some (79, 0, 27) from rfl) (by omega) (by omega) (by decide) ?_
      refine tm_iload dX12_step_566 0 rfl ?_
      exact tm_iret rfl dX12_step_568 (⟨_, rfl, (Fr.rfl.A (by decide)), (hR.A (by omega)), Or.inr (Or.inr ⟨by omega, hrun.top (t := 9 * m + σ.2.1 73 m - 1) rfl (show Fr [] [79] [] σ (sA 79 (((9 * m) + (σ.2.1 73 m)) - 1) ((σ.2.1 79 (((9 * m) + (σ.2.1 73 m)) - 1)) + 1) σ) from (Fr.rfl.A (by decide))) (by decide) (by decide) rfl (fun _ _ _ => rfl) (fun z a b => ⟨ra_ne (by omega) rfl, rfl⟩) (by rw [show (sA 79 (((9 * m) + (σ.2.1 73 m)) - 1) ((σ.2.1 79 (((9 * m) + (σ.2.1 73 m)) - 1)) + 1) σ).2.1 79 (9 * m + σ.2.1 73 m - 1) = (σ.2.1 79 (((9 * m) + (σ.2.1 73 m)) - 1)) + 1 from ra_eq, show (sA 79 (((9 * m) + (σ.2.1 73 m)) - 1) ((σ.2.1 79 (((9 * m) + (σ.2.1 73 m)) - 1)) + 1) σ).2.1 80 (9 * m + σ.2.1 73 m - 1) = σ.2.1 80 (9 * m + σ.2.1 73 m - 1) from rfl]; exact hp.nx (by omega) (by omega) (by omega) (by omega)) (by rw [show (sA 79 (((9 * m) + (σ.2.1 73 m)) - 1) ((σ.2.1 79 (((9 * m) + (σ.2.1 73 m)) - 1)) + 1) σ).2.1 80 (9 * m + σ.2.1 73 m - 1) = σ.2.1 80 (9 * m + σ.2.1 73 m - 1) from rfl]; omega)⟩), ⟨fun j hj => ⟨rfl, rfl⟩, fun z hz => ⟨rfl, ra_ne (by omega) rfl, rfl⟩⟩, ⟨Int.le_refl _, (by show σ.2.1 76 m ≤ σ.2.1 76 m + 1; omega)⟩, fun _ => Or.inl ⟨by omega, by omega, rfl, fun _ => rfl, fun z hz => ra_ne hz rfl, Or.inl (by rw [show (sA 79 (((9 * m) + (σ.2.1 73 m)) - 1) ((σ.2.1 79 (((9 * m) + (σ.2.1 73 m)) - 1)) + 1) σ).2.1 79 (9 * m + σ.2.1 73 m - 1) = (σ.2.1 79 (((9 * m) + (σ.2.1 73 m)) - 1)) + 1 from ra_eq])⟩, by unfold STQ; rw [← hbv]; exact Or.inr (Or.inr (Or.inr (Or.inr (Or.inr (Or.inr (Or.inl (⟨by rw [← gA]; omega, rfl, rfl⟩)))))))⟩)
    · refine tm_tableIn (tgt := 427) dX12_step_82 ⟨by omega, by omega⟩ (by omega) (by omega) (show _ = some (345) by rw [h22v]; rfl) (by decide) ?_
      refine tm_aload_n dX12_step_427 rfl 6 rfl ?_
      refine tm_iload_n dX12_step_428 rfl 7 rfl ?_
      refine tm_callV (M := m_X12_step) (pc := 429) (ix := 554) (M' := m_X12_depth) (As := [.int (iI m)]) (rest := []) dX12_step_429 ok_X12_depth im_X12_depth se_X12_depth ml12_554 np_X12_depth rfl rfl (Nat.le_of_ble_eq_true rfl) (Nat.le_of_ble_eq_true rfl) rfl (c_X12_depth (d + 1) (σ := σ) (m := m) hR hm2 (by omega) (fun c a e => ⟨_, hdec c a e⟩)) (fun r186 σ187 hp => ?_)
      obtain ⟨v188, rfl, rfl, f189, f190⟩ := hp
      show Tm _ _ 432 b σ [(7, .int (iI 0)), (6, .int (iI v18)), (5, .int (iI (192 * (((9 * m) + (σ.2.1 73 m)) - 1)))), (4, .int (iI (220 * (v5 + (σ.2.1 78 (((9 * m) + (σ.2.1 73 m)) - 1))) + (σ.2.1 79 (((9 * m) + (σ.2.1 73 m)) - 1))))), (3, .int (iI (σ.2.1 78 (((9 * m) + (σ.2.1 73 m)) - 1)))), (2, .int (iI (((9 * m) + (σ.2.1 73 m)) - 1))), (0, .ref b), (1, .int (iI m))] [.int (iI v188)] _
      have hd9 := f189
      refine tm_bipush dX12_step_432 (by decide) ?_
      refine tm_icmp_ne (tgt := 439) dX12_step_434 (by decide) ⟨by omega, by omega⟩ ⟨by decide, by decide⟩ (fun h191 => ?_) (fun h191 => ?_)
      · have ho4 := hoki.2.2.2.1 (Or.inl (by omega))
        have hen := hp.enter (hkd.trans (by omega))
        rw [hds] at hen
        have hep := hen.1
        have hdp := dp_s hbg (hep.rng)
        rw [hen.2.1] at hdp
        have hep1 := hep.rng
        refine tm_aload_n dX12_step_439 rfl 6 rfl ?_
        refine tm_get (k := 80) (v := .ref (b + 1 + 51)) lay_12 dX12_step_440 (by decide) fl12_173 rfl ?_
        refine tm_iload_n dX12_step_443 rfl 5 rfl ?_
        refine tm_aload_n dX12_step_444 rfl 6 rfl ?_
        refine tm_get (k := 4) (v := .ref (b + 1 + 2)) lay_12 dX12_step_445 (by decide) fl12_17 rfl ?_
        refine tm_iload dX12_step_448 3 rfl ?_
        refine tm_iald (z := 220 * (v5 + (σ.2.1 78 (((9 * m) + (σ.2.1 73 m)) - 1))) + (σ.2.1 79 (((9 * m) + (σ.2.1 73 m)) - 1))) (v := σ.2.1 4 (220 * (v5 + (σ.2.1 78 (((9 * m) + (σ.2.1 73 m)) - 1))) + (σ.2.1 79 (((9 * m) + (σ.2.1 73 m)) - 1)))) dX12_step_450 (show mT[2]? = some (4, 0, 2860) from rfl) (by omega) (by omega) (by decide) (rfl) ?_
        have g192 := RG.a hR 4 (220 * (v5 + (σ.2.1 78 (((9 * m) + (σ.2.1 73 m)) - 1))) + (σ.2.1 79 (((9 * m) + (σ.2.1 73 m)) - 1)))
        refine tm_iast (z := ((9 * m) + (σ.2.1 73 m)) - 1) (v := σ.2.1 4 (220 * (v5 + (σ.2.1 78 (((9 * m) + (σ.2.1 73 m)) - 1))) + (σ.2.1 79 (((9 * m) + (σ.2.1 73 m)) - 1)))) dX12_step_451 (show mT[51]? = some (80, 0, 27) from rfl) (by omega) (by omega) (by decide) ?_
        refine tm_aload_n dX12_step_452 rfl 6 rfl ?_
        refine tm_get (k := 81) (v := .ref (b + 1 + 52)) lay_12 dX12_step_453 (by decide) fl12_176 rfl ?_
        refine tm_bipush dX12_step_456 (by decide) ?_
        refine tm_iload_n dX12_step_458 rfl 5 rfl ?_
        refine tm_imul dX12_step_459 ?_
        refine tm_aload_n dX12_step_460 rfl 6 rfl ?_
        refine tm_get (k := 4) (v := .ref (b + 1 + 2)) lay_12 dX12_step_461 (by decide) fl12_17 rfl ?_
        refine tm_iload dX12_step_464 3 rfl ?_
        refine tm_iald (z := 220 * (v5 + (σ.2.1 78 (((9 * m) + (σ.2.1 73 m)) - 1))) + (σ.2.1 79 (((9 * m) + (σ.2.1 73 m)) - 1))) (v := σ.2.1 4 (220 * (v5 + (σ.2.1 78 (((9 * m) + (σ.2.1 73 m)) - 1))) + (σ.2.1 79 (((9 * m) + (σ.2.1 73 m)) - 1)))) dX12_step_466 (show mT[2]? = some (4, 0, 2860) from rfl) (by omega) (by omega) (by decide) (ra_o (by decide) (rfl)) ?_
        have g193 := RG.a hR 4 (220 * (v5 + (σ.2.1 78 (((9 * m) + (σ.2.1 73 m)) - 1))) + (σ.2.1 79 (((9 * m) + (σ.2.1 73 m)) - 1)))
        refine tm_iadd dX12_step_467 ?_
        refine tm_iconst dX12_step_468 ?_
        refine tm_iast (z := (12 * (((9 * m) + (σ.2.1 73 m)) - 1)) + (σ.2.1 4 (220 * (v5 + (σ.2.1 78 (((9 * m) + (σ.2.1 73 m)) - 1))) + (σ.2.1 79 (((9 * m) + (σ.2.1 73 m)) - 1))))) (v := 0) dX12_step_469 (show mT[52]? = some (81, 0, 324) from rfl) (by omega) (by omega) (by decide) ?_
        refine tm_goto (tgt := 556) dX12_step_470 (by decide) ?_
        refine tm_aload_n dX12_step_556 rfl 6 rfl ?_
        refine tm_get (k := 79) (v := .ref (b + 1 + 50)) lay_12 dX12_step_557 (by decide) fl12_170 rfl ?_
        refine tm_iload_n dX12_step_560 rfl 5 rfl ?_
        refine tm_dup2 dX12_step_561 rfl rfl ?_
        refine tm_iald (z := ((9 * m) + (σ.2.1 73 m)) - 1) (v := σ.2.1 79 (((9 * m) + (σ.2.1 73 m)) - 1)) dX12_step_562 (show mT[50]? = some (79, 0, 27) from rfl) (by omega) (by omega) (by decide) (ra_o (by decide) (ra_o (by decide) (rfl))) ?_
        have g194 := RG.a hR 79 (((9 * m) + (σ.2.1 73 m)) - 1)
        refine tm_iconst dX12_step_563 ?_
        refine tm_iadd dX12_step_564 ?_
        refine tm_iast (z := ((9 * m) + (σ.2.1 73 m)) - 1) (v := (σ.2.1 79 (((9 * m) + (σ.2.1 73 m)) - 1)) + 1) dX12_step_565 (show mT[50]? = some (79, 0, 27) from rfl) (by omega) (by omega) (by decide) ?_
        refine tm_iload dX12_step_566 0 rfl ?_
        exact tm_iret rfl dX12_step_568 (⟨_, rfl, (((Fr.rfl.A (by decide)).A (by decide)).A (by decide)), (((hR.A (by omega)).A (by omega)).A (by omega)), Or.inr (Or.inr ⟨by omega, hrun.top (t := 9 * m + σ.2.1 73 m - 1) rfl (show Fr [] [79, 80, 81] [] σ (sA 79 (((9 * m) + (σ.2.1 73 m)) - 1) ((σ.2.1 79 (((9 * m) + (σ.2.1 73 m)) - 1)) + 1) (sA 81 ((12 * (((9 * m) + (σ.2.1 73 m)) - 1)) + (σ.2.1 4 (220 * (v5 + (σ.2.1 78 (((9 * m) + (σ.2.1 73 m)) - 1))) + (σ.2.1 79 (((9 * m) + (σ.2.1 73 m)) - 1))))) (0) (sA 80 (((9 * m) + (σ.2.1 73 m)) - 1) (σ.2.1 4 (220 * (v5 + (σ.2.1 78 (((9 * m) + (σ.2.1 73 m)) - 1))) + (σ.2.1 79 (((9 * m) + (σ.2.1 73 m)) - 1)))) σ))) from (((Fr.rfl.A (by decide)).A (by decide)).A (by decide))) (by decide) (by decide) rfl (fun _ _ _ => rfl) (fun z a b => ⟨ra_ne (by omega) rfl, (ra_o (by decide) (ra_o (by decide) (ra_ne (by omega) rfl)))⟩) (by rw [show (sA 79 (((9 * m) + (σ.2.1 73 m)) - 1) ((σ.2.1 79 (((9 * m) + (σ.2.1 73 m)) - 1)) + 1) (sA 81 ((12 * (((9 * m) + (σ.2.1 73 m)) - 1)) + (σ.2.1 4 (220 * (v5 + (σ.2.1 78 (((9 * m) + (σ.2.1 73 m)) - 1))) + (σ.2.1 79 (((9 * m) + (σ.2.1 73 m)) - 1))))) (0) (sA 80 (((9 * m) + (σ.2.1 73 m)) - 1) (σ.2.1 4 (220 * (v5 + (σ.2.1 78 (((9 * m) + (σ.2.1 73 m)) - 1))) + (σ.2.1 79 (((9 * m) + (σ.2.1 73 m)) - 1)))) σ))).2.1 79 (9 * m + σ.2.1 73 m - 1) = (σ.2.1 79 (((9 * m) + (σ.2.1 73 m)) - 1)) + 1 from ra_eq, show (sA 79 (((9 * m) + (σ.2.1 73 m)) - 1) ((σ.2.1 79 (((9 * m) + (σ.2.1 73 m)) - 1)) + 1) (sA 81 ((12 * (((9 * m) + (σ.2.1 73 m)) - 1)) + (σ.2.1 4 (220 * (v5 + (σ.2.1 78 (((9 * m) + (σ.2.1 73 m)) - 1))) + (σ.2.1 79 (((9 * m) + (σ.2.1 73 m)) - 1))))) (0) (sA 80 (((9 * m) + (σ.2.1 73 m)) - 1) (σ.2.1 4 (220 * (v5 + (σ.2.1 78 (((9 * m) + (σ.2.1 73 m)) - 1))) + (σ.2.1 79 (((9 * m) + (σ.2.1 73 m)) - 1)))) σ))).2.1 80 (9 * m + σ.2.1 73 m - 1) = σ.2.1 4 (220 * (v5 + (σ.2.1 78 (((9 * m) + (σ.2.1 73 m)) - 1))) + (σ.2.1 79 (((9 * m) + (σ.2.1 73 m)) - 1))) from ra_o (by decide) (ra_o (by decide) (ra_eq))]; exact hep) (by rw [show (sA 79 (((9 * m) + (σ.2.1 73 m)) - 1) ((σ.2.1 79 (((9 * m) + (σ.2.1 73 m)) - 1)) + 1) (sA 81 ((12 * (((9 * m) + (σ.2.1 73 m)) - 1)) + (σ.2.1 4 (220 * (v5 + (σ.2.1 78 (((9 * m) + (σ.2.1 73 m)) - 1))) + (σ.2.1 79 (((9 * m) + (σ.2.1 73 m)) - 1))))) (0) (sA 80 (((9 * m) + (σ.2.1 73 m)) - 1) (σ.2.1 4 (220 * (v5 + (σ.2.1 78 (((9 * m) + (σ.2.1 73 m)) - 1))) + (σ.2.1 79 (((9 * m) + (σ.2.1 73 m)) - 1)))) σ))).2.1 80 (9 * m + σ.2.1 73 m - 1) = σ.2.1 4 (220 * (v5 + (σ.2.1 78 (((9 * m) + (σ.2.1 73 m)) - 1))) + (σ.2.1 79 (((9 * m) + (σ.2.1 73 m)) - 1))) from ra_o (by decide) (ra_o (by decide) (ra_eq))]; omega)⟩), ⟨fun j hj => ⟨rfl, rfl⟩, fun z hz => ⟨rfl, ra_ne (by omega) rfl, (ra_o (by decide) (ra_o (by decide) (ra_ne (by omega) rfl)))⟩⟩, ⟨Int.le_refl _, (by show σ.2.1 76 m ≤ σ.2.1 76 m + 1; omega)⟩, fun _ => Or.inl ⟨by omega, by omega, rfl, fun _ => rfl, fun z hz => ra_ne hz rfl, Or.inl (by rw [show (sA 79 (((9 * m) + (σ.2.1 73 m)) - 1) ((σ.2.1 79 (((9 * m) + (σ.2.1 73 m)) - 1)) + 1) (sA 81 ((12 * (((9 * m) + (σ.2.1 73 m)) - 1)) + (σ.2.1 4 (220 * (v5 + (σ.2.1 78 (((9 * m) + (σ.2.1 73 m)) - 1))) + (σ.2.1 79 (((9 * m) + (σ.2.1 73 m)) - 1))))) (0) (sA 80 (((9 * m) + (σ.2.1 73 m)) - 1) (σ.2.1 4 (220 * (v5 + (σ.2.1 78 (((9 * m) + (σ.2.1 73 m)) - 1))) + (σ.2.1 79 (((9 * m) + (σ.2.1 73 m)) - 1)))) σ))).2.1 79 (9 * m + σ.2.1 73 m - 1) = (σ.2.1 79 (((9 * m) + (σ.2.1 73 m)) - 1)) + 1 from ra_eq])⟩, by unfold STQ; rw [← hbv]; exact Or.inr (Or.inr (Or.inr (Or.inr (Or.inr (Or.inr (Or.inr (Or.inr (Or.inl (⟨by omega, rfl, by omega, rfl⟩)))))))))⟩)
      · refine tm_iconst dX12_step_437 ?_
        exact tm_iret rfl dX12_step_438 (⟨_, rfl, Fr.rfl, hR, Or.inl ⟨rfl, rfl⟩, ⟨fun _ _ => ⟨rfl, rfl⟩, fun _ _ => ⟨rfl, rfl, rfl⟩⟩, ⟨Int.le_refl _, (by show σ.2.1 76 m ≤ σ.2.1 76 m + 1; omega)⟩, fun q => absurd q (by decide), by unfold STQ; rw [← hbv]; exact Or.inl (⟨rfl, by omega, by omega, rfl⟩)⟩)
    · refine tm_tableIn (tgt := 473) dX12_step_82 ⟨by omega, by omega⟩ (by omega) (by omega) (show _ = some (391) by rw [h22v]; rfl) (by decide) ?_
      have ho4 := hoki.2.2.2.1 (Or.inr (by omega))
      have hle := hp.leave (hkd.trans (by omega))
      have hm2n : m ≠ 2 := fun e => by have : fm σ m (σ.2.1 78 (9 * m + σ.2.1 73 m - 1)) = 1 := if_pos e; omega
      have hdp := dp_s hbg hfr
      rw [hds] at hle
      have hlp := hle.1
      have hpm : prm σ m (σ.2.1 78 (9 * m + σ.2.1 73 m - 1)) = fun f => σ.2.1 16 (12 * σ.2.1 78 (9 * m + σ.2.1 73 m - 1) + f) := by funext f; exact if_neg hm2n
      have hq : prm σ m (σ.2.1 78 (9 * m + σ.2.1 73 m - 1)) (σ.2.1 80 (9 * m + σ.2.1 73 m - 1)) = σ.2.1 16 (12 * σ.2.1 78 (9 * m + σ.2.1 73 m - 1) + σ.2.1 4 (220 * (v5 + (σ.2.1 78 (((9 * m) + (σ.2.1 73 m)) - 1))) + (σ.2.1 79 (((9 * m) + (σ.2.1 73 m)) - 1)))) := by rw [← hle.2.1]; exact congrFun hpm _
      rw [hq] at hdp
      rw [hpm] at hlp
      have hl2 := hle.2
      refine tm_aload_n dX12_step_473 rfl 6 rfl ?_
      refine tm_get (k := 80) (v := .ref (b + 1 + 51)) lay_12 dX12_step_474 (by decide) fl12_173 rfl ?_
      refine tm_iload_n dX12_step_477 rfl 5 rfl ?_
      refine tm_aload_n dX12_step_478 rfl 6 rfl ?_
      refine tm_get (k := 16) (v := .ref (b + 1 + 13)) lay_12 dX12_step_479 (by decide) fl12_50 rfl ?_
      refine tm_bipush dX12_step_482 (by decide) ?_
      refine tm_iload_n dX12_step_484 rfl 4 rfl ?_
      refine tm_imul dX12_step_485 ?_
      refine tm_aload_n dX12_step_486 rfl 6 rfl ?_
      refine tm_get (k := 4) (v := .ref (b + 1 + 2)) lay_12 dX12_step_487 (by decide) fl12_17 rfl ?_
      refine tm_iload dX12_step_490 3 rfl ?_
      refine tm_iald (z := 220 * (v5 + (σ.2.1 78 (((9 * m) + (σ.2.1 73 m)) - 1))) + (σ.2.1 79 (((9 * m) + (σ.2.1 73 m)) - 1))) (v := σ.2.1 4 (220 * (v5 + (σ.2.1 78 (((9 * m) + (σ.2.1 73 m)) - 1))) + (σ.2.1 79 (((9 * m) + (σ.2.1 73 m)) - 1)))) dX12_step_492 (show mT[2]? = some (4, 0, 2860) from rfl) (by omega) (by omega) (by decide) (rfl) ?_
      have g195 := RG.a hR 4 (220 * (v5 + (σ.2.1 78 (((9 * m) + (σ.2.1 73 m)) - 1))) + (σ.2.1 79 (((9 * m) + (σ.2.1 73 m)) - 1)))
      refine tm_iadd dX12_step_493 ?_
      refine tm_iald (z := (12 * (σ.2.1 78 (((9 * m) + (σ.2.1 73 m)) - 1))) + (σ.2.1 4 (220 * (v5 + (σ.2.1 78 (((9 * m) + (σ.2.1 73 m)) - 1))) + (σ.2.1 79 (((9 * m) + (σ.2.1 73 m)) - 1))))) (v := σ.2.1 16 ((12 * (σ.2.1 78 (((9 * m) + (σ.2.1 73 m)) - 1))) + (σ.2.1 4 (220 * (v5 + (σ.2.1 78 (((9 * m) + (σ.2.1 73 m)) - 1))) + (σ.2.1 79 (((9 * m) + (σ.2.1 73 m)) - 1)))))) dX12_step_494 (show mT[13]? = some (16, 0, 72) from rfl) (by omega) (by omega) (by decide) (rfl) ?_
      have g196 := RG.a hR 16 ((12 * (σ.2.1 78 (((9 * m) + (σ.2.1 73 m)) - 1))) + (σ.2.1 4 (220 * (v5 + (σ.2.1 78 (((9 * m) + (σ.2.1 73 m)) - 1))) + (σ.2.1 79 (((9 * m) + (σ.2.1 73 m)) - 1)))))
      refine tm_iast (z := ((9 * m) + (σ.2.1 73 m)) - 1) (v := σ.2.1 16 ((12 * (σ.2.1 78 (((9 * m) + (σ.2.1 73 m)) - 1))) + (σ.2.1 4 (220 * (v5 + (σ.2.1 78 (((9 * m) + (σ.2.1 73 m)) - 1))) + (σ.2.1 79 (((9 * m) + (σ.2.1 73 m)) - 1)))))) dX12_step_495 (show mT[51]? = some (80, 0, 27) from rfl) (by omega) (by omega) (by decide) ?_
      refine tm_goto (tgt := 556) dX12_step_496 (by decide) ?_
      refine tm_aload_n dX12_step_556 rfl 6 rfl ?_
      refine tm_get (k := 79) (v := .ref (b + 1 + 50)) lay_12 dX12_step_557 (by decide) fl12_170 rfl ?_
      refine tm_iload_n dX12_step_560 rfl 5 rfl ?_
      refine tm_dup2 dX12_step_561 rfl rfl ?_
      refine tm_iald (z := ((9 * m) + (σ.2.1 73 m)) - 1) (v := σ.2.1 79 (((9 * m) + (σ.2.1 73 m)) - 1)) dX12_step_562 (show mT[50]? = some (79, 0, 27) from rfl) (by omega) (by omega) (by decide) (ra_o (by decide) (rfl)) ?_
      have g197 := RG.a hR 79 (((9 * m) + (σ.2.1 73 m)) - 1)
      refine tm_iconst dX12_step_563 ?_
      refine tm_iadd dX12_step_564 ?_
      refine tm_iast (z := ((9 * m) + (σ.2.1 73 m)) - 1) (v := (σ.2.1 79 (((9 * m) + (σ.2.1 73 m)) - 1)) + 1) dX12_step_565 (show mT[50]? = some (79, 0, 27) from rfl) (by omega) (by omega) (by decide) ?_
      refine tm_iload dX12_step_566 0 rfl ?_
      exact tm_iret rfl dX12_step_568 (⟨_, rfl, ((Fr.rfl.A (by decide)).A (by decide)), ((hR.A (by omega)).A (by omega)), Or.inr (Or.inr ⟨by omega, hrun.top (t := 9 * m + σ.2.1 73 m - 1) rfl (show Fr [] [79, 80] [] σ (sA 79 (((9 * m) + (σ.2.1 73 m)) - 1) ((σ.2.1 79 (((9 * m) + (σ.2.1 73 m)) - 1)) + 1) (sA 80 (((9 * m) + (σ.2.1 73 m)) - 1) (σ.2.1 16 ((12 * (σ.2.1 78 (((9 * m) + (σ.2.1 73 m)) - 1))) + (σ.2.1 4 (220 * (v5 + (σ.2.1 78 (((9 * m) + (σ.2.1 73 m)) - 1))) + (σ.2.1 79 (((9 * m) + (σ.2.1 73 m)) - 1)))))) σ)) from ((Fr.rfl.A (by decide)).A (by decide))) (by decide) (by decide) rfl (fun _ _ _ => rfl) (fun z a b => ⟨ra_ne (by omega) rfl, (ra_o (by decide) (ra_ne (by omega) rfl))⟩) (by rw [show (sA 79 (((9 * m) + (σ.2.1 73 m)) - 1) ((σ.2.1 79 (((9 * m) + (σ.2.1 73 m)) - 1)) + 1) (sA 80 (((9 * m) + (σ.2.1 73 m)) - 1) (σ.2.1 16 ((12 * (σ.2.1 78 (((9 * m) + (σ.2.1 73 m)) - 1))) + (σ.2.1 4 (220 * (v5 + (σ.2.1 78 (((9 * m) + (σ.2.1 73 m)) - 1))) + (σ.2.1 79 (((9 * m) + (σ.2.1 73 m)) - 1)))))) σ)).2.1 79 (9 * m + σ.2.1 73 m - 1) = (σ.2.1 79 (((9 * m) + (σ.2.1 73 m)) - 1)) + 1 from ra_eq, show (sA 79 (((9 * m) + (σ.2.1 73 m)) - 1) ((σ.2.1 79 (((9 * m) + (σ.2.1 73 m)) - 1)) + 1) (sA 80 (((9 * m) + (σ.2.1 73 m)) - 1) (σ.2.1 16 ((12 * (σ.2.1 78 (((9 * m) + (σ.2.1 73 m)) - 1))) + (σ.2.1 4 (220 * (v5 + (σ.2.1 78 (((9 * m) + (σ.2.1 73 m)) - 1))) + (σ.2.1 79 (((9 * m) + (σ.2.1 73 m)) - 1)))))) σ)).2.1 80 (9 * m + σ.2.1 73 m - 1) = σ.2.1 16 ((12 * (σ.2.1 78 (((9 * m) + (σ.2.1 73 m)) - 1))) + (σ.2.1 4 (220 * (v5 + (σ.2.1 78 (((9 * m) + (σ.2.1 73 m)) - 1))) + (σ.2.1 79 (((9 * m) + (σ.2.1 73 m)) - 1))))) from ra_o (by decide) (ra_eq)]; exact hlp) (by rw [show (sA 79 (((9 * m) + (σ.2.1 73 m)) - 1) ((σ.2.1 79 (((9 * m) + (σ.2.1 73 m)) - 1)) + 1) (sA 80 (((9 * m) + (σ.2.1 73 m)) - 1) (σ.2.1 16 ((12 * (σ.2.1 78 (((9 * m) + (σ.2.1 73 m)) - 1))) + (σ.2.1 4 (220 * (v5 + (σ.2.1 78 (((9 * m) + (σ.2.1 73 m)) - 1))) + (σ.2.1 79 (((9 * m) + (σ.2.1 73 m)) - 1)))))) σ)).2.1 80 (9 * m + σ.2.1 73 m - 1) = σ.2.1 16 ((12 * (σ.2.1 78 (((9 * m) + (σ.2.1 73 m)) - 1))) + (σ.2.1 4 (220 * (v5 + (σ.2.1 78 (((9 * m) + (σ.2.1 73 m)) - 1))) + (σ.2.1 79 (((9 * m) + (σ.2.1 73 m)) - 1))))) from ra_o (by decide) (ra_eq)]; omega)⟩), ⟨fun j hj => ⟨rfl, rfl⟩, fun z hz => ⟨rfl, ra_ne (by omega) rfl, (ra_o (by decide) (ra_ne (by omega) rfl))⟩⟩, ⟨Int.le_refl _, (by show σ.2.1 76 m ≤ σ.2.1 76 m + 1; omega)⟩, fun _ => Or.inl ⟨by omega, by omega, rfl, fun _ => rfl, fun z hz => ra_ne hz rfl, Or.inl (by rw [show (sA 79 (((9 * m) + (σ.2.1 73 m)) - 1) ((σ.2.1 79 (((9 * m) + (σ.2.1 73 m)) - 1)) + 1) (sA 80 (((9 * m) + (σ.2.1 73 m)) - 1) (σ.2.1 16 ((12 * (σ.2.1 78 (((9 * m) + (σ.2.1 73 m)) - 1))) + (σ.2.1 4 (220 * (v5 + (σ.2.1 78 (((9 * m) + (σ.2.1 73 m)) - 1))) + (σ.2.1 79 (((9 * m) + (σ.2.1 73 m)) - 1)))))) σ)).2.1 79 (9 * m + σ.2.1 73 m - 1) = (σ.2.1 79 (((9 * m) + (σ.2.1 73 m)) - 1)) + 1 from ra_eq])⟩, by unfold STQ; rw [← hbv]; exact Or.inr (Or.inr (Or.inr (Or.inr (Or.inr (Or.inr (Or.inr (Or.inr (Or.inr (Or.inl (⟨by omega, rfl, rfl⟩))))))))))⟩)
end
section
set_option maxHeartbeats 4000000 in
set_option maxRecDepth 20000 in
theorem f_go (d : Nat) {b : Nat} {σ0 : MS} {w : Int} {nn : Int} {q : Int} {post : Option Value → MS → Prop} (hR0 : RG σ0) (hbka : BKA σ0 0) (hit : ITM σ0) (hpar : PAR σ0) (hn : 1 ≤ nn ∧ nn ≤ 20000) (hG : 0 ≤ σ0.1 70 ∧ σ0.1 70 ≤ 1000000000) (hP : 0 ≤ σ0.2.1 76 0 ∧ σ0.2.1 76 0 ≤ 900000000) (hq : 0 ≤ q ∧ q ≤ 117) (h_w : -2147483648 ≤ w ∧ w ≤ 2147483647) (hx_175 : ∀ (i : Int) (e : Int) (σ : MS) , (Fr [68, 69, 70] [73, 75, 76, 77, 78, 79, 80, 81, 82] [] σ0 σ) → (RG σ) → (∃ e, RCH w q nn.toNat σ0 e σ ∧ GWY σ0 σ) → (RUN σ 0) → (XM 0 σ0 σ) → (σ0.1 70 ≤ σ.1 70 ∧ σ.1 70 ≤ σ0.1 70 + 20000) → (σ0.2.1 76 0 ≤ σ.2.1 76 0 ∧ σ.2.1 76 0 ≤ σ0.2.1 76 0 + 20000) → Tm (d + 4) m_X12_go 175 b σ [(0, .ref b)] [] post) (hret : ∀ (v : Int) (τ : MS), Fr [68, 69, 70] [73, 75, 76, 77, 78, 79, 80, 81, 82] [] σ0 τ → RG τ → (τ.1 68 = 0 → RUN τ 0) → XM 0 σ0 τ → (σ0.1 70 ≤ τ.1 70 ∧ τ.1 70 ≤ σ0.1 70 + 20000) → (σ0.2.1 76 0 ≤ τ.2.1 76 0 ∧ τ.2.1 76 0 ≤ σ0.2.1 76 0 + 20000) → GOE w q nn σ0 v τ → post (some (.int (iI v))) τ) : ∀ (n : Nat) (i : Int) (e : Int) (σ : MS) , (Fr [68, 69, 70] [73, 75, 76, 77, 78, 79, 80, 81, 82] [] σ0 σ) → (RG σ) → (0 ≤ i ∧ i ≤ nn ∧ (e = 0 ∨ e = 1)) → (RUN σ 0) → (XM 0 σ0 σ) → (σ0.1 70 ≤ σ.1 70 ∧ σ.1 70 ≤ σ0.1 70 + i) → (σ0.2.1 76 0 ≤ σ.2.1 76 0 ∧ σ.2.1 76 0 ≤ σ0.2.1 76 0 + i) → (RCH w q i.toNat σ0 e σ) → (nn - i).toNat = n → Tm (d + 4) m_X12_go 64 b σ [(5, .int (iI i)), (4, .int (iI e)), (3, .int (iI q)), (0, .ref b), (1, .int (iI w)), (2, .int (iI nn))] [] post := by
  intro n
  induction n using Nat.strongRecOn with
  | _ n ih =>
    intro i e σ hF hR h0 hrun hx0 hg hp hch hm
    refine tm_iload dX12_go_64 0 rfl ?_
    refine tm_iload_n dX12_go_66 rfl 5 rfl ?_
    refine tm_icmp_ge (tgt := 175) dX12_go_67 (by decide) ⟨by omega, by omega⟩ ⟨by omega, by omega⟩ (fun h1 => ?_) (fun h1 => ?_)
    · exact tm_sub [3] rfl (hx_175 (0) (0) σ (Fr.rfl.trans (Fr.sub hF (by decide) (by decide) (by decide))) hR ⟨e, by rw [show nn = i by omega]; exact hch, hrun, hF, by omega, by omega, by omega⟩ hrun hx0 (by omega) (by omega))
    · refine tm_aload_n dX12_go_70 rfl 3 rfl ?_
      refine tm_iconst dX12_go_71 ?_
      refine tm_callV (M := m_X12_go) (pc := 72) (ix := 569) (M' := m_X12_step) (As := [.int (iI 0)]) (rest := []) dX12_go_72 ok_X12_step im_X12_step se_X12_step ml12_569 np_X12_step rfl rfl (Nat.le_of_ble_eq_true rfl) (Nat.le_of_ble_eq_true rfl) rfl (f_X12_step (d) (σ := σ) (m := 0) hR (by decide) hrun (hbka.fr hF (by decide) (by decide)) (hit.fr hF (by decide)) (hpar.fr hF (by decide)) (by omega)) (fun r2 σ3 hp => ?_)
      obtain ⟨v4, rfl, f5, f6, f7, f8, f9, f10, f11⟩ := hp
      show Tm _ _ 75 b σ3 [(5, .int (iI i)), (4, .int (iI e)), (3, .int (iI q)), (0, .ref b), (1, .int (iI w)), (2, .int (iI nn))] [.int (iI v4)] _
      have hrs : v4 ≠ 2 → RUN σ3 0 := fun q => by rcases f7 with ⟨a, e1⟩ | ⟨a, _⟩ | ⟨_, h⟩; rw [e1]; exact hrun; exact absurd a q; exact h
      have hxs := f8
      have hps := f9
      have hst9 := f11
      have hgw9 : GWY σ0 σ := ⟨hrun, hF, by omega, by omega, by omega⟩
      have h70 : σ3.1 70 = σ.1 70 := f5.1 70 (by decide)
      refine tm_istore (L' := [(6, .int (iI v4)), (5, .int (iI i)), (4, .int (iI e)), (3, .int (iI q)), (0, .ref b), (1, .int (iI w)), (2, .int (iI nn))]) dX12_go_75 (by decide) rfl ?_
      refine tm_iload dX12_go_77 0 rfl ?_
      refine tm_iconst dX12_go_79 ?_
      refine tm_icmp_ne (tgt := 90) dX12_go_80 (by decide) ⟨by omega, by omega⟩ ⟨by decide, by decide⟩ (fun h12 => ?_) (fun h12 => ?_)
      · refine tm_aload_n dX12_go_90 rfl 4 rfl ?_
        refine tm_dup dX12_go_91 rfl ?_
        refine tm_getS (k := 70) (t := σ.1 70) dX12_go_92 (by decide) fl12_566 rfl (rs_F f5 (by decide) (rfl)) ?_
        have g13 := RG.s hR 70
        refine tm_iconst dX12_go_95 ?_
        refine tm_iadd dX12_go_96 ?_
        refine tm_putS (k := 70) (v := (σ.1 70) + 1) lay_12 dX12_go_97 (by decide) fl12_566 rfl (tyX12_ok 70 (by decide)) rfl rfl rfl ?_
        refine tm_iload dX12_go_100 0 rfl ?_
        refine tm_iconst dX12_go_102 ?_
        refine tm_icmp_ne (tgt := 113) dX12_go_103 (by decide) ⟨by omega, by omega⟩ ⟨by decide, by decide⟩ (fun h14 => ?_) (fun h14 => ?_)
        · refine tm_aload_n dX12_go_113 rfl 4 rfl ?_
          have hrn := (hrs (by omega)).fr (show Fr [68, 69, 70] [] [] σ3 (sS 70 ((σ.1 70) + 1) σ3) from (Fr.rfl.S (by decide))) (by decide) (by decide)
          have hbk2 := hbka.fr (show Fr [68, 69, 70] [73, 75, 76, 77, 78, 79, 80, 81, 82] [] σ0 (sS 70 ((σ.1 70) + 1) σ3) from (((Fr.rfl.trans (Fr.sub hF (by decide) (by decide) (by decide))).trans (Fr.sub f5 (by decide) (by decide) (by decide))).S (by decide))) (by decide) (by decide)
          have hrr : (0 ≤ (sS 70 ((σ.1 70) + 1) σ3).2.1 73 0 ∧ (sS 70 ((σ.1 70) + 1) σ3).2.1 73 0 ≤ 9) ∧ ∀ c, 9 * 0 ≤ c → c < 9 * 0 + (sS 70 ((σ.1 70) + 1) σ3).2.1 73 0 → DEC (sS 70 ((σ.1 70) + 1) σ3) 0 c (fn (sS 70 ((σ.1 70) + 1) σ3) 0 c) := ⟨⟨by have := hrn.1; omega, hrn.1.2⟩, hrn.dec hbk2.2 hbk2.1.2⟩
          refine tm_iconst dX12_go_114 ?_
          refine tm_callV (M := m_X12_go) (pc := 115) (ix := 554) (M' := m_X12_depth) (As := [.int (iI 0)]) (rest := []) dX12_go_115 ok_X12_depth im_X12_depth se_X12_depth ml12_554 np_X12_depth rfl rfl (Nat.le_of_ble_eq_true rfl) (Nat.le_of_ble_eq_true rfl) rfl (c_X12_depth (d + 2) (σ := (sS 70 ((σ.1 70) + 1) σ3)) (m := 0) (f6.S (by omega)) (by decide) hrr.1 (fun c a e => ⟨_, hrr.2 c a e⟩)) (fun r15 σ16 hp => ?_)
          obtain ⟨v17, rfl, rfl, f18, f19⟩ := hp
          show Tm _ _ 118 b (sS 70 ((σ.1 70) + 1) σ3) [(6, .int (iI v4)), (5, .int (iI i)), (4, .int (iI e)), (3, .int (iI q)), (0, .ref b), (1, .int (iI w)), (2, .int (iI nn))] [.int (iI v17)] _
          refine tm_istore (L' := [(7, .int (iI v17)), (6, .int (iI v4)), (5, .int (iI i)), (4, .int (iI e)), (3, .int (iI q)), (0, .ref b), (1, .int (iI w)), (2, .int (iI nn))]) dX12_go_118 (by decide) rfl ?_
          refine tm_iload dX12_go_120 3 rfl ?_
          refine tm_iload dX12_go_122 0 rfl ?_
          refine tm_iload_n dX12_go_124 rfl 4 rfl ?_
          refine tm_icmp_ge (tgt := 132) dX12_go_125 (by decide) ⟨by omega, by omega⟩ ⟨by omega, by omega⟩ (fun h20 => ?_) (fun h20 => ?_)
          · refine tm_iconst dX12_go_132 ?_
            refine tm_iorZ (x := e) (y := 0) dX12_go_133 (by omega) (by omega) (fun c21 g22 => ?_)
            refine tm_istore (L' := [(4, .int (iI c21)), (7, .int (iI v17)), (6, .int (iI v4)), (5, .int (iI i)), (3, .int (iI q)), (0, .ref b), (1, .int (iI w)), (2, .int (iI nn))]) dX12_go_134 (by decide) rfl ?_
            refine tm_iload dX12_go_136 2 rfl ?_
            refine tm_iconst dX12_go_138 ?_
            refine tm_icmp_ne (tgt := 169) dX12_go_139 (by decide) ⟨by omega, by omega⟩ ⟨by decide, by decide⟩ (fun h23 => ?_) (fun h23 => ?_)
            · refine tm_iinc (q0 := 3) (L' := [(5, .int (iI (i + 1))), (4, .int (iI c21)), (7, .int (iI v17)), (6, .int (iI v4)), (3, .int (iI q)), (0, .ref b), (1, .int (iI w)), (2, .int (iI nn))]) dX12_go_169 rfl (by decide) rfl ?_
              refine tm_goto (tgt := 64) dX12_go_172 (by decide) ?_
              exact tm_sub [0, 1, 4, 5, 6, 7] rfl (ih _ (by omega) (i + 1) (c21) (sS 70 ((σ.1 70) + 1) σ3) (((Fr.rfl.trans (Fr.sub hF (by decide) (by decide) (by decide))).trans (Fr.sub f5 (by decide) (by decide) (by decide))).S (by decide)) (f6.S (by omega)) (by omega) (hrs (by omega) |>.fr (show Fr [68, 69, 70] [] [] σ3 (sS 70 ((σ.1 70) + 1) σ3) from (Fr.rfl.S (by decide))) (by decide) (by decide)) (hx0.trans (hxs.trans (XM.of (show Fr [68, 69, 70] [] [] σ3 (sS 70 ((σ.1 70) + 1) σ3) from (Fr.rfl.S (by decide))) (by decide)))) (by rw [show (sS 70 ((σ.1 70) + 1) σ3).1 70 = (σ.1 70) + 1 from rs_eq]; omega) (by rw [show (sS 70 ((σ.1 70) + 1) σ3).2.1 76 0 = σ3.2.1 76 0 from ra_S (rfl)]; omega) (hch.s (by omega) hgw9 hst9 (by omega) (by omega) (by unfold gST; omega)) rfl)
            · refine tm_iload_n dX12_go_142 rfl 6 rfl ?_
              refine tm_if_eq (tgt := 167) dX12_go_143 (by decide) ⟨by omega, by omega⟩ (fun h24 => ?_) (fun h24 => ?_)
              · refine tm_iconst dX12_go_167 ?_
                exact tm_iret rfl dX12_go_168 (hret _ _ (((Fr.rfl.trans (Fr.sub hF (by decide) (by decide) (by decide))).trans (Fr.sub f5 (by decide) (by decide) (by decide))).S (by decide)) (f6.S (by omega)) (fun _ => (hrs (by omega)).fr (show Fr [68, 69, 70] [] [] σ3 (sS 70 ((σ.1 70) + 1) σ3) from (Fr.rfl.S (by decide))) (by decide) (by decide)) (hx0.trans (hxs.trans (XM.of (show Fr [68, 69, 70] [] [] σ3 (sS 70 ((σ.1 70) + 1) σ3) from (Fr.rfl.S (by decide))) (by decide)))) (by rw [show (sS 70 ((σ.1 70) + 1) σ3).1 70 = (σ.1 70) + 1 from rs_eq]; omega) (by rw [show (sS 70 ((σ.1 70) + 1) σ3).2.1 76 0 = σ3.2.1 76 0 from ra_S (rfl)]; omega) ⟨i.toNat, e, _, hch, hgw9, Or.inr ⟨by omega, _, _, hst9, Or.inr (Or.inr ⟨rfl, rfl, c21, (by omega), (by unfold gST; omega)⟩)⟩⟩)
              · refine tm_iload_n dX12_go_146 rfl 6 rfl ?_
                refine tm_iconst dX12_go_147 ?_
                refine tm_icmp_ne (tgt := 157) dX12_go_148 (by decide) ⟨by omega, by omega⟩ ⟨by decide, by decide⟩ (fun h32 => ?_) (fun h32 => ?_)
                · refine tm_iload_n dX12_go_157 rfl 6 rfl ?_
                  refine tm_iconst dX12_go_158 ?_
                  refine tm_icmp_ne (tgt := 169) dX12_go_159 (by decide) ⟨by omega, by omega⟩ ⟨by decide, by decide⟩ (fun h33 => ?_) (fun h33 => ?_)
                  · refine tm_iinc (q0 := 3) (L' := [(5, .int (iI (i + 1))), (4, .int (iI c21)), (7, .int (iI v17)), (6, .int (iI v4)), (3, .int (iI q)), (0, .ref b), (1, .int (iI w)), (2, .int (iI nn))]) dX12_go_169 rfl (by decide) rfl ?_
                    refine tm_goto (tgt := 64) dX12_go_172 (by decide) ?_
                    exact tm_sub [0, 1, 4, 5, 6, 7] rfl (ih _ (by omega) (i + 1) (c21) (sS 70 ((σ.1 70) + 1) σ3) (((Fr.rfl.trans (Fr.sub hF (by decide) (by decide) (by decide))).trans (Fr.sub f5 (by decide) (by decide) (by decide))).S (by decide)) (f6.S (by omega)) (by omega) (hrs (by omega) |>.fr (show Fr [68, 69, 70] [] [] σ3 (sS 70 ((σ.1 70) + 1) σ3) from (Fr.rfl.S (by decide))) (by decide) (by decide)) (hx0.trans (hxs.trans (XM.of (show Fr [68, 69, 70] [] [] σ3 (sS 70 ((σ.1 70) + 1) σ3) from (Fr.rfl.S (by decide))) (by decide)))) (by rw [show (sS 70 ((σ.1 70) + 1) σ3).1 70 = (σ.1 70) + 1 from rs_eq]; omega) (by rw [show (sS 70 ((σ.1 70) + 1) σ3).2.1 76 0 = σ3.2.1 76 0 from ra_S (rfl)]; omega) (hch.s (by omega) hgw9 hst9 (by omega) (by omega) (by unfold gST; omega)) rfl)
                  · refine tm_iload dX12_go_162 0 rfl ?_
                    refine tm_if_eq (tgt := 169) dX12_go_164 (by decide) ⟨by omega, by omega⟩ (fun h34 => ?_) (fun h34 => ?_)
                    · refine tm_iinc (q0 := 3) (L' := [(5, .int (iI (i + 1))), (4, .int (iI c21)), (7, .int (iI v17)), (6, .int (iI v4)), (3, .int (iI q)), (0, .ref b), (1, .int (iI w)), (2, .int (iI nn))]) dX12_go_169 rfl (by decide) rfl ?_
                      refine tm_goto (tgt := 64) dX12_go_172 (by decide) ?_
                      exact tm_sub [0, 1, 4, 5, 6, 7] rfl (ih _ (by omega) (i + 1) (c21) (sS 70 ((σ.1 70) + 1) σ3) (((Fr.rfl.trans (Fr.sub hF (by decide) (by decide) (by decide))).trans (Fr.sub f5 (by decide) (by decide) (by decide))).S (by decide)) (f6.S (by omega)) (by omega) (hrs (by omega) |>.fr (show Fr [68, 69, 70] [] [] σ3 (sS 70 ((σ.1 70) + 1) σ3) from (Fr.rfl.S (by decide))) (by decide) (by decide)) (hx0.trans (hxs.trans (XM.of (show Fr [68, 69, 70] [] [] σ3 (sS 70 ((σ.1 70) + 1) σ3) from (Fr.rfl.S (by decide))) (by decide)))) (by rw [show (sS 70 ((σ.1 70) + 1) σ3).1 70 = (σ.1 70) + 1 from rs_eq]; omega) (by rw [show (sS 70 ((σ.1 70) + 1) σ3).2.1 76 0 = σ3.2.1 76 0 from ra_S (rfl)]; omega) (hch.s (by omega) hgw9 hst9 (by omega) (by omega) (by unfold gST; omega)) rfl)
                    · refine tm_iconst dX12_go_167 ?_
                      exact tm_iret rfl dX12_go_168 (hret _ _ (((Fr.rfl.trans (Fr.sub hF (by decide) (by decide) (by decide))).trans (Fr.sub f5 (by decide) (by decide) (by decide))).S (by decide)) (f6.S (by omega)) (fun _ => (hrs (by omega)).fr (show Fr [68, 69, 70] [] [] σ3 (sS 70 ((σ.1 70) + 1) σ3) from (Fr.rfl.S (by decide))) (by decide) (by decide)) (hx0.trans (hxs.trans (XM.of (show Fr [68, 69, 70] [] [] σ3 (sS 70 ((σ.1 70) + 1) σ3) from (Fr.rfl.S (by decide))) (by decide)))) (by rw [show (sS 70 ((σ.1 70) + 1) σ3).1 70 = (σ.1 70) + 1 from rs_eq]; omega) (by rw [show (sS 70 ((σ.1 70) + 1) σ3).2.1 76 0 = σ3.2.1 76 0 from ra_S (rfl)]; omega) ⟨i.toNat, e, _, hch, hgw9, Or.inr ⟨by omega, _, _, hst9, Or.inr (Or.inr ⟨rfl, rfl, c21, (by omega), (by unfold gST; omega)⟩)⟩⟩)
                · refine tm_iload dX12_go_151 1 rfl ?_
                  refine tm_iload_n dX12_go_153 rfl 4 rfl ?_
                  refine tm_icmp_le (tgt := 167) dX12_go_154 (by decide) ⟨by omega, by omega⟩ ⟨by omega, by omega⟩ (fun h35 => ?_) (fun h35 => ?_)
                  · refine tm_iconst dX12_go_167 ?_
                    exact tm_iret rfl dX12_go_168 (hret _ _ (((Fr.rfl.trans (Fr.sub hF (by decide) (by decide) (by decide))).trans (Fr.sub f5 (by decide) (by decide) (by decide))).S (by decide)) (f6.S (by omega)) (fun _ => (hrs (by omega)).fr (show Fr [68, 69, 70] [] [] σ3 (sS 70 ((σ.1 70) + 1) σ3) from (Fr.rfl.S (by decide))) (by decide) (by decide)) (hx0.trans (hxs.trans (XM.of (show Fr [68, 69, 70] [] [] σ3 (sS 70 ((σ.1 70) + 1) σ3) from (Fr.rfl.S (by decide))) (by decide)))) (by rw [show (sS 70 ((σ.1 70) + 1) σ3).1 70 = (σ.1 70) + 1 from rs_eq]; omega) (by rw [show (sS 70 ((σ.1 70) + 1) σ3).2.1 76 0 = σ3.2.1 76 0 from ra_S (rfl)]; omega) ⟨i.toNat, e, _, hch, hgw9, Or.inr ⟨by omega, _, _, hst9, Or.inr (Or.inr ⟨rfl, rfl, c21, (by omega), (by unfold gST; omega)⟩)⟩⟩)
                  · refine tm_iload_n dX12_go_157 rfl 6 rfl ?_
                    refine tm_iconst dX12_go_158 ?_
                    refine tm_icmp_ne (tgt := 169) dX12_go_159 (by decide) ⟨by omega, by omega⟩ ⟨by decide, by decide⟩ (fun h36 => ?_) (fun h36 => ?_)
                    · refine tm_iinc (q0 := 3) (L' := [(5, .int (iI (i + 1))), (4, .int (iI c21)), (7, .int (iI v17)), (6, .int (iI v4)), (3, .int (iI q)), (0, .ref b), (1, .int (iI w)), (2, .int (iI nn))]) dX12_go_169 rfl (by decide) rfl ?_
                      refine tm_goto (tgt := 64) dX12_go_172 (by decide) ?_
                      exact tm_sub [0, 1, 4, 5, 6, 7] rfl (ih _ (by omega) (i + 1) (c21) (sS 70 ((σ.1 70) + 1) σ3) (((Fr.rfl.trans (Fr.sub hF (by decide) (by decide) (by decide))).trans (Fr.sub f5 (by decide) (by decide) (by decide))).S (by decide)) (f6.S (by omega)) (by omega) (hrs (by omega) |>.fr (show Fr [68, 69, 70] [] [] σ3 (sS 70 ((σ.1 70) + 1) σ3) from (Fr.rfl.S (by decide))) (by decide) (by decide)) (hx0.trans (hxs.trans (XM.of (show Fr [68, 69, 70] [] [] σ3 (sS 70 ((σ.1 70) + 1) σ3) from (Fr.rfl.S (by decide))) (by decide)))) (by rw [show (sS 70 ((σ.1 70) + 1) σ3).1 70 = (σ.1 70) + 1 from rs_eq]; omega) (by rw [show (sS 70 ((σ.1 70) + 1) σ3).2.1 76 0 = σ3.2.1 76 0 from ra_S (rfl)]; omega) (hch.s (by omega) hgw9 hst9 (by omega) (by omega) (by unfold gST; omega)) rfl)
                    · refine tm_iload dX12_go_162 0 rfl ?_
                      refine tm_if_eq (tgt := 169) dX12_go_164 (by decide) ⟨by omega, by omega⟩ (fun h37 => ?_) (fun h37 => ?_)
                      · refine tm_iinc (q0 := 3) (L' := [(5, .int (iI (i + 1))), (4, .int (iI c21)), (7, .int (iI v17)), (6, .int (iI v4)), (3, .int (iI q)), (0, .ref b), (1, .int (iI w)), (2, .int (iI nn))]) dX12_go_169 rfl (by decide) rfl ?_
                        refine tm_goto (tgt := 64) dX12_go_172 (by decide) ?_
                        exact tm_sub [0, 1, 4, 5, 6, 7] rfl (ih _ (by omega) (i + 1) (c21) (sS 70 ((σ.1 70) + 1) σ3) (((Fr.rfl.trans (Fr.sub hF (by decide) (by decide) (by decide))).trans (Fr.sub f5 (by decide) (by decide) (by decide))).S (by decide)) (f6.S (by omega)) (by omega) (hrs (by omega) |>.fr (show Fr [68, 69, 70] [] [] σ3 (sS 70 ((σ.1 70) + 1) σ3) from (Fr.rfl.S (by decide))) (by decide) (by decide)) (hx0.trans (hxs.trans (XM.of (show Fr [68, 69, 70] [] [] σ3 (sS 70 ((σ.1 70) + 1) σ3) from (Fr.rfl.S (by decide))) (by decide)))) (by rw [show (sS 70 ((σ.1 70) + 1) σ3).1 70 = (σ.1 70) + 1 from rs_eq]; omega) (by rw [show (sS 70 ((σ.1 70) + 1) σ3).2.1 76 0 = σ3.2.1 76 0 from ra_S (rfl)]; omega) (hch.s (by omega) hgw9 hst9 (by omega) (by omega) (by unfold gST; omega)) rfl)
                      · refine tm_iconst dX12_go_167 ?_
                        exact tm_iret rfl dX12_go_168 (hret _ _ (((Fr.rfl.trans (Fr.sub hF (by decide) (by decide) (by decide))).trans (Fr.sub f5 (by decide) (by decide) (by decide))).S (by decide)) (f6.S (by omega)) (fun _ => (hrs (by omega)).fr (show Fr [68, 69, 70] [] [] σ3 (sS 70 ((σ.1 70) + 1) σ3) from (Fr.rfl.S (by decide))) (by decide) (by decide)) (hx0.trans (hxs.trans (XM.of (show Fr [68, 69, 70] [] [] σ3 (sS 70 ((σ.1 70) + 1) σ3) from (Fr.rfl.S (by decide))) (by decide)))) (by rw [show (sS 70 ((σ.1 70) + 1) σ3).1 70 = (σ.1 70) + 1 from rs_eq]; omega) (by rw [show (sS 70 ((σ.1 70) + 1) σ3).2.1 76 0 = σ3.2.1 76 0 from ra_S (rfl)]; omega) ⟨i.toNat, e, _, hch, hgw9, Or.inr ⟨by omega, _, _, hst9, Or.inr (Or.inr ⟨rfl, rfl, c21, (by omega), (by unfold gST; omega)⟩)⟩⟩)
          · refine tm_iconst dX12_go_128 ?_
            refine tm_goto (tgt := 133) dX12_go_129 (by decide) ?_
            refine tm_iorZ (x := e) (y := 1) dX12_go_133 (by omega) (by omega) (fun c38 g39 => ?_)
            refine tm_istore (L' := [(4, .int (iI c38)), (7, .int (iI v17)), (6, .int (iI v4)), (5, .int (iI i)), (3, .int (iI q)), (0, .ref b), (1, .int (iI w)), (2, .int (iI nn))]) dX12_go_134 (by decide) rfl ?_
            refine tm_iload dX12_go_136 2 rfl ?_
            refine tm_iconst dX12_go_138 ?_
            refine tm_icmp_ne (tgt := 169) dX12_go_139 (by decide) ⟨by omega, by omega⟩ ⟨by decide, by decide⟩ (fun h40 => ?_) (fun h40 => ?_)
            · refine tm_iinc (q0 := 3) (L' := [(5, .int (iI (i + 1))), (4, .int (iI c38)), (7, .int (iI v17)), (6, .int (iI v4)), (3, .int (iI q)), (0, .ref b), (1, .int (iI w)), (2, .int (iI nn))]) dX12_go_169 rfl (by decide) rfl ?_
              refine tm_goto (tgt := 64) dX12_go_172 (by decide) ?_
              exact tm_sub [0, 1, 4, 5, 6, 7] rfl (ih _ (by omega) (i + 1) (c38) (sS 70 ((σ.1 70) + 1) σ3) (((Fr.rfl.trans (Fr.sub hF (by decide) (by decide) (by decide))).trans (Fr.sub f5 (by decide) (by decide) (by decide))).S (by decide)) (f6.S (by omega)) (by omega) (hrs (by omega) |>.fr (show Fr [68, 69, 70] [] [] σ3 (sS 70 ((σ.1 70) + 1) σ3) from (Fr.rfl.S (by decide))) (by decide) (by decide)) (hx0.trans (hxs.trans (XM.of (show Fr [68, 69, 70] [] [] σ3 (sS 70 ((σ.1 70) + 1) σ3) from (Fr.rfl.S (by decide))) (by decide)))) (by rw [show (sS 70 ((σ.1 70) + 1) σ3).1 70 = (σ.1 70) + 1 from rs_eq]; omega) (by rw [show (sS 70 ((σ.1 70) + 1) σ3).2.1 76 0 = σ3.2.1 76 0 from ra_S (rfl)]; omega) (hch.s (by omega) hgw9 hst9 (by omega) (by omega) (by unfold gST; omega)) rfl)
            · refine tm_iload_n dX12_go_142 rfl 6 rfl ?_
              refine tm_if_eq (tgt := 167) dX12_go_143 (by decide) ⟨by omega, by omega⟩ (fun h41 => ?_) (fun h41 => ?_)
              · refine tm_iconst dX12_go_167 ?_
                exact tm_iret rfl dX12_go_168 (hret _ _ (((Fr.rfl.trans (Fr.sub hF (by decide) (by decide) (by decide))).trans (Fr.sub f5 (by decide) (by decide) (by decide))).S (by decide)) (f6.S (by omega)) (fun _ => (hrs (by omega)).fr (show Fr [68, 69, 70] [] [] σ3 (sS 70 ((σ.1 70) + 1) σ3) from (Fr.rfl.S (by decide))) (by decide) (by decide)) (hx0.trans (hxs.trans (XM.of (show Fr [68, 69, 70] [] [] σ3 (sS 70 ((σ.1 70) + 1) σ3) from (Fr.rfl.S (by decide))) (by decide)))) (by rw [show (sS 70 ((σ.1 70) + 1) σ3).1 70 = (σ.1 70) + 1 from rs_eq]; omega) (by rw [show (sS 70 ((σ.1 70) + 1) σ3).2.1 76 0 = σ3.2.1 76 0 from ra_S (rfl)]; omega) ⟨i.toNat, e, _, hch, hgw9, Or.inr ⟨by omega, _, _, hst9, Or.inr (Or.inr ⟨rfl, rfl, c38, (by omega), (by unfold gST; omega)⟩)⟩⟩)
              · refine tm_iload_n dX12_go_146 rfl 6 rfl ?_
                refine tm_iconst dX12_go_147 ?_
                refine tm_icmp_ne (tgt := 157) dX12_go_148 (by decide) ⟨by omega, by omega⟩ ⟨by decide, by decide⟩ (fun h42 => ?_) (fun h42 => ?_)
                · refine tm_iload_n dX12_go_157 rfl 6 rfl ?_
                  refine tm_iconst dX12_go_158 ?_
                  refine tm_icmp_ne (tgt := 169) dX12_go_159 (by decide) ⟨by omega, by omega⟩ ⟨by decide, by decide⟩ (fun h44 => ?_) (fun h44 => ?_)
                  · refine tm_iinc (q0 := 3) (L' := [(5, .int (iI (i + 1))), (4, .int (iI c38)), (7, .int (iI v17)), (6, .int (iI v4)), (3, .int (iI q)), (0, .ref b), (1, .int (iI w)), (2, .int (iI nn))]) dX12_go_169 rfl (by decide) rfl ?_
                    refine tm_goto (tgt := 64) dX12_go_172 (by decide) ?_
                    exact tm_sub [0, 1, 4, 5, 6, 7] rfl (ih _ (by omega) (i + 1) (c38) (sS 70 ((σ.1 70) + 1) σ3) (((Fr.rfl.trans (Fr.sub hF (by decide) (by decide) (by decide))).trans (Fr.sub f5 (by decide) (by decide) (by decide))).S (by decide)) (f6.S (by omega)) (by omega) (hrs (by omega) |>.fr (show Fr [68, 69, 70] [] [] σ3 (sS 70 ((σ.1 70) + 1) σ3) from (Fr.rfl.S (by decide))) (by decide) (by decide)) (hx0.trans (hxs.trans (XM.of (show Fr [68, 69, 70] [] [] σ3 (sS 70 ((σ.1 70) + 1) σ3) from (Fr.rfl.S (by decide))) (by decide)))) (by rw [show (sS 70 ((σ.1 70) + 1) σ3).1 70 = (σ.1 70) + 1 from rs_eq]; omega) (by rw [show (sS 70 ((σ.1 70) + 1) σ3).2.1 76 0 = σ3.2.1 76 0 from ra_S (rfl)]; omega) (hch.s (by omega) hgw9 hst9 (by omega) (by omega) (by unfold gST; omega)) rfl)
                  · refine tm_iload dX12_go_162 0 rfl ?_
                    refine tm_if_eq (tgt := 169) dX12_go_164 (by decide) ⟨by omega, by omega⟩ (fun h45 => ?_) (fun h45 => ?_)
                    · refine tm_iinc (q0 := 3) (L' := [(5, .int (iI (i + 1))), (4, .int (iI c38)), (7, .int (iI v17)), (6, .int (iI v4)), (3, .int (iI q)), (0, .ref b), (1, .int (iI w)), (2, .int (iI nn))]) dX12_go_169 rfl (by decide) rfl ?_
                      refine tm_goto (tgt := 64) dX12_go_172 (by decide) ?_
                      exact tm_sub [0, 1, 4, 5, 6, 7] rfl (ih _ (by omega) (i + 1) (c38) (sS 70 ((σ.1 70) + 1) σ3) (((Fr.rfl.trans (Fr.sub hF (by decide) (by decide) (by decide))).trans (Fr.sub f5 (by decide) (by decide) (by decide))).S (by decide)) (f6.S (by omega)) (by omega) (hrs (by omega) |>.fr (show Fr [68, 69, 70] [] [] σ3 (sS 70 ((σ.1 70) + 1) σ3) from (Fr.rfl.S (by decide))) (by decide) (by decide)) (hx0.trans (hxs.trans (XM.of (show Fr [68, 69, 70] [] [] σ3 (sS 70 ((σ.1 70) + 1) σ3) from (Fr.rfl.S (by decide))) (by decide)))) (by rw [show (sS 70 ((σ.1 70) + 1) σ3).1 70 = (σ.1 70) + 1 from rs_eq]; omega) (by rw [show (sS 70 ((σ.1 70) + 1) σ3).2.1 76 0 = σ3.2.1 76 0 from ra_S (rfl)]; omega) (hch.s (by omega) hgw9 hst9 (by omega) (by omega) (by unfold gST; omega)) rfl)
                    · refine tm_iconst dX12_go_167 ?_
                      exact tm_iret rfl dX12_go_168 (hret _ _ (((Fr.rfl.trans (Fr.sub hF (by decide) (by decide) (by decide))).trans (Fr.sub f5 (by decide) (by decide) (by decide))).S (by decide)) (f6.S (by omega)) (fun _ => (hrs (by omega)).fr (show Fr [68, 69, 70] [] [] σ3 (sS 70 ((σ.1 70) + 1) σ3) from (Fr.rfl.S (by decide))) (by decide) (by decide)) (hx0.trans (hxs.trans (XM.of (show Fr [68, 69, 70] [] [] σ3 (sS 70 ((σ.1 70) + 1) σ3) from (Fr.rfl.S (by decide))) (by decide)))) (by rw [show (sS 70 ((σ.1 70) + 1) σ3).1 70 = (σ.1 70) + 1 from rs_eq]; omega) (by rw [show (sS 70 ((σ.1 70) + 1) σ3).2.1 76 0 = σ3.2.1 76 0 from ra_S (rfl)]; omega) ⟨i.toNat, e, _, hch, hgw9, Or.inr ⟨by omega, _, _, hst9, Or.inr (Or.inr ⟨rfl, rfl, c38, (by omega), (by unfold gST; omega)⟩)⟩⟩)
                · refine tm_iload dX12_go_151 1 rfl ?_
                  refine tm_iload_n dX12_go_153 rfl 4 rfl ?_
                  refine tm_icmp_le (tgt := 167) dX12_go_154 (by decide) ⟨by omega, by omega⟩ ⟨by omega, by omega⟩ (fun h46 => ?_) (fun h46 => ?_)
                  · refine tm_iconst dX12_go_167 ?_
                    exact tm_iret rfl dX12_go_168 (hret _ _ (((Fr.rfl.trans (Fr.sub hF (by decide) (by decide) (by decide))).trans (Fr.sub f5 (by decide) (by decide) (by decide))).S (by decide)) (f6.S (by omega)) (fun _ => (hrs (by omega)).fr (show Fr [68, 69, 70] [] [] σ3 (sS 70 ((σ.1 70) + 1) σ3) from (Fr.rfl.S (by decide))) (by decide) (by decide)) (hx0.trans (hxs.trans (XM.of (show Fr [68, 69, 70] [] [] σ3 (sS 70 ((σ.1 70) + 1) σ3) from (Fr.rfl.S (by decide))) (by decide)))) (by rw [show (sS 70 ((σ.1 70) + 1) σ3).1 70 = (σ.1 70) + 1 from rs_eq]; omega) (by rw [show (sS 70 ((σ.1 70) + 1) σ3).2.1 76 0 = σ3.2.1 76 0 from ra_S (rfl)]; omega) ⟨i.toNat, e, _, hch, hgw9, Or.inr ⟨by omega, _, _, hst9, Or.inr (Or.inr ⟨rfl, rfl, c38, (by omega), (by unfold gST; omega)⟩)⟩⟩)
                  · refine tm_iload_n dX12_go_157 rfl 6 rfl ?_
                    refine tm_iconst dX12_go_158 ?_
                    refine tm_icmp_ne (tgt := 169) dX12_go_159 (by decide) ⟨by omega, by omega⟩ ⟨by decide, by decide⟩ (fun h47 => ?_) (fun h47 => ?_)
                    · refine tm_iinc (q0 := 3) (L' := [(5, .int (iI (i + 1))), (4, .int (iI c38)), (7, .int (iI v17)), (6, .int (iI v4)), (3, .int (iI q)), (0, .ref b), (1, .int (iI w)), (2, .int (iI nn))]) dX12_go_169 rfl (by decide) rfl ?_
                      refine tm_goto (tgt := 64) dX12_go_172 (by decide) ?_
                      exact tm_sub [0, 1, 4, 5, 6, 7] rfl (ih _ (by omega) (i + 1) (c38) (sS 70 ((σ.1 70) + 1) σ3) (((Fr.rfl.trans (Fr.sub hF (by decide) (by decide) (by decide))).trans (Fr.sub f5 (by decide) (by decide) (by decide))).S (by decide)) (f6.S (by omega)) (by omega) (hrs (by omega) |>.fr (show Fr [68, 69, 70] [] [] σ3 (sS 70 ((σ.1 70) + 1) σ3) from (Fr.rfl.S (by decide))) (by decide) (by decide)) (hx0.trans (hxs.trans (XM.of (show Fr [68, 69, 70] [] [] σ3 (sS 70 ((σ.1 70) + 1) σ3) from (Fr.rfl.S (by decide))) (by decide)))) (by rw [show (sS 70 ((σ.1 70) + 1) σ3).1 70 = (σ.1 70) + 1 from rs_eq]; omega) (by rw [show (sS 70 ((σ.1 70) + 1) σ3).2.1 76 0 = σ3.2.1 76 0 from ra_S (rfl)]; omega) (hch.s (by omega) hgw9 hst9 (by omega) (by omega) (by unfold gST; omega)) rfl)
                    · refine tm_iload dX12_go_162 0 rfl ?_
                      refine tm_if_eq (tgt := 169) dX12_go_164 (by decide) ⟨by omega, by omega⟩ (fun h48 => ?_) (fun h48 => ?_)
                      · refine tm_iinc (q0 := 3) (L' := [(5, .int (iI (i + 1))), (4, .int (iI c38)), (7, .int (iI v17)), (6, .int (iI v4)), (3, .int (iI q)), (0, .ref b), (1, .int (iI w)), (2, .int (iI nn))]) dX12_go_169 rfl (by decide) rfl ?_
                        refine tm_goto (tgt := 64) dX12_go_172 (by decide) ?_
                        exact tm_sub [0, 1, 4, 5, 6, 7] rfl (ih _ (by omega) (i + 1) (c38) (sS 70 ((σ.1 70) + 1) σ3) (((Fr.rfl.trans (Fr.sub hF (by decide) (by decide) (by decide))).trans (Fr.sub f5 (by decide) (by decide) (by decide))).S (by decide)) (f6.S (by omega)) (by omega) (hrs (by omega) |>.fr (show Fr [68, 69, 70] [] [] σ3 (sS 70 ((σ.1 70) + 1) σ3) from (Fr.rfl.S (by decide))) (by decide) (by decide)) (hx0.trans (hxs.trans (XM.of (show Fr [68, 69, 70] [] [] σ3 (sS 70 ((σ.1 70) + 1) σ3) from (Fr.rfl.S (by decide))) (by decide)))) (by rw [show (sS 70 ((σ.1 70) + 1) σ3).1 70 = (σ.1 70) + 1 from rs_eq]; omega) (by rw [show (sS 70 ((σ.1 70) + 1) σ3).2.1 76 0 = σ3.2.1 76 0 from ra_S (rfl)]; omega) (hch.s (by omega) hgw9 hst9 (by omega) (by omega) (by unfold gST; omega)) rfl)
                      · refine tm_iconst dX12_go_167 ?_
                        exact tm_iret rfl dX12_go_168 (hret _ _ (((Fr.rfl.trans (Fr.sub hF (by decide) (by decide) (by decide))).trans (Fr.sub f5 (by decide) (by decide) (by decide))).S (by decide)) (f6.S (by omega)) (fun _ => (hrs (by omega)).fr (show Fr [68, 69, 70] [] [] σ3 (sS 70 ((σ.1 70) + 1) σ3) from (Fr.rfl.S (by decide))) (by decide) (by decide)) (hx0.trans (hxs.trans (XM.of (show Fr [68, 69, 70] [] [] σ3 (sS 70 ((σ.1 70) + 1) σ3) from (Fr.rfl.S (by decide))) (by decide)))) (by rw [show (sS 70 ((σ.1 70) + 1) σ3).1 70 = (σ.1 70) + 1 from rs_eq]; omega) (by rw [show (sS 70 ((σ.1 70) + 1) σ3).2.1 76 0 = σ3.2.1 76 0 from ra_S (rfl)]; omega) ⟨i.toNat, e, _, hch, hgw9, Or.inr ⟨by omega, _, _, hst9, Or.inr (Or.inr ⟨rfl, rfl, c38, (by omega), (by unfold gST; omega)⟩)⟩⟩)
        · refine tm_aload_n dX12_go_106 rfl 4 rfl ?_
          refine tm_iconst dX12_go_107 ?_
          refine tm_putS (k := 68) (v := 1) lay_12 dX12_go_108 (by decide) fl12_560 rfl (tyX12_ok 68 (by decide)) rfl rfl rfl ?_
          refine tm_iconst dX12_go_111 ?_
          exact tm_iret rfl dX12_go_112 (hret _ _ ((((Fr.rfl.trans (Fr.sub hF (by decide) (by decide) (by decide))).trans (Fr.sub f5 (by decide) (by decide) (by decide))).S (by decide)).S (by decide)) ((f6.S (by omega)).S (by omega)) (fun q => absurd (q.symm.trans (show (sS 68 1 (sS 70 ((σ.1 70) + 1) σ3)).1 68 = 1 from rs_eq)) (by decide)) (hx0.trans (hxs.trans (XM.of (show Fr [68, 69, 70] [] [] σ3 (sS 68 1 (sS 70 ((σ.1 70) + 1) σ3)) from ((Fr.rfl.S (by decide)).S (by decide))) (by decide)))) (by rw [show (sS 68 1 (sS 70 ((σ.1 70) + 1) σ3)).1 70 = (σ.1 70) + 1 from rs_o (by decide) (rs_eq)]; omega) (by rw [show (sS 68 1 (sS 70 ((σ.1 70) + 1) σ3)).2.1 76 0 = σ3.2.1 76 0 from ra_S (ra_S (rfl))]; omega) ⟨i.toNat, e, _, hch, hgw9, Or.inr ⟨by omega, _, _, hst9, Or.inr (Or.inl ⟨by omega, rfl, rfl⟩)⟩⟩)
      · refine tm_aload_n dX12_go_83 rfl 4 rfl ?_
        refine tm_iconst dX12_go_84 ?_
        refine tm_putS (k := 69) (v := 1) lay_12 dX12_go_85 (by decide) fl12_563 rfl (tyX12_ok 69 (by decide)) rfl rfl rfl ?_
        refine tm_iconst dX12_go_88 ?_
        exact tm_iret rfl dX12_go_89 (hret _ _ (((Fr.rfl.trans (Fr.sub hF (by decide) (by decide) (by decide))).trans (Fr.sub f5 (by decide) (by decide) (by decide))).S (by decide)) (f6.S (by omega)) (fun _ => (hrs (by omega)).fr (show Fr [68, 69, 70] [] [] σ3 (sS 69 1 σ3) from (Fr.rfl.S (by decide))) (by decide) (by decide)) (hx0.trans (hxs.trans (XM.of (show Fr [68, 69, 70] [] [] σ3 (sS 69 1 σ3) from (Fr.rfl.S (by decide))) (by decide)))) (by rw [show (sS 69 1 σ3).1 70 = σ.1 70 from rs_o (by decide) (rs_F f5 (by decide) (rfl))]; omega) (by rw [show (sS 69 1 σ3).2.1 76 0 = σ3.2.1 76 0 from ra_S (rfl)]; omega) ⟨i.toNat, e, _, hch, hgw9, Or.inr ⟨by omega, _, _, hst9, Or.inl ⟨by omega, rfl, rfl⟩⟩⟩)
set_option maxHeartbeats 4000000 in
set_option maxRecDepth 20000 in
theorem f_X12_go (d : Nat) {b : Nat} {σ : MS} {w : Int} {nn : Int} (hR : RG σ) (hit : ITM σ) (hpar : PAR σ) (hbka : BKA σ 0) (hr7 : σ.1 67 ≠ 0 → σ.1 68 = 0 → RUN σ 0) (hG : 0 ≤ σ.1 70 ∧ σ.1 70 ≤ 1000000000) (hP : 0 ≤ σ.2.1 76 0 ∧ σ.2.1 76 0 ≤ 900000000) (h_w : -2147483648 ≤ w ∧ w ≤ 2147483647) (h_nn : -2147483648 ≤ nn ∧ nn ≤ 2147483647) : Tm (d + 4) m_X12_go 0 b σ [(0, .ref b), (1, .int (iI w)), (2, .int (iI nn))] [] (fun ro σ2 => ∃ v : Int, ro = some (.int (iI v)) ∧ (Fr [0, 68, 69, 70] [73, 75, 76, 77, 78, 79, 80, 81, 82] [] σ σ2) ∧ (RG σ2) ∧ (σ2.1 67 ≠ 0 → σ2.1 68 = 0 → RUN σ2 0) ∧ (XM 0 σ σ2) ∧ (σ.1 70 ≤ σ2.1 70 ∧ σ2.1 70 ≤ σ.1 70 + 20000) ∧ (σ.2.1 76 0 ≤ σ2.2.1 76 0 ∧ σ2.2.1 76 0 ≤ σ.2.1 76 0 + 20000) ∧ (GOF7 σ w nn v σ2)) := by
  refine tm_aload_n dX12_go_0 rfl 0 rfl ?_
  refine tm_iconst dX12_go_1 ?_
  refine tm_putS (k := 0) (v := 0) lay_12 dX12_go_2 (by decide) fl12_185 rfl (tyX12_ok 0 (by decide)) rfl rfl rfl ?_
  refine tm_aload_n dX12_go_5 rfl 0 rfl ?_
  refine tm_getS (k := 67) (t := σ.1 67) dX12_go_6 (by decide) fl12_397 rfl (rs_o (by decide) (rfl)) ?_
  have g1 := RG.s hR 67
  refine tm_if_eq (tgt := 32) dX12_go_9 (by decide) ⟨by omega, by omega⟩ (fun h2 => ?_) (fun h2 => ?_)
  · refine tm_iconst dX12_go_32 ?_
    exact tm_iret rfl dX12_go_33 (⟨_, rfl, (Fr.rfl.S (by decide)), (hR.S (by omega)), fun a c => (hr7 a c).fr (Fr.rfl.S (by decide) : Fr [0] [] [] σ (sS 0 0 σ)) (by decide) (by decide), XM.of (Fr.rfl.S (by decide) : Fr [0] [] [] σ (sS 0 0 σ)) (by decide), ⟨Int.le_refl _, by show σ.1 70 ≤ σ.1 70 + 20000; omega⟩, ⟨Int.le_refl _, by show σ.2.1 76 0 ≤ σ.2.1 76 0 + 20000; omega⟩, by unfold GOF7; first | exact Or.inl ⟨by omega, rfl, rfl⟩ | exact Or.inr ⟨by omega, Or.inl ⟨by omega, rfl, rfl⟩⟩ | exact Or.inr ⟨by omega, Or.inr (Or.inl ⟨by omega, by omega, rfl, rfl⟩)⟩⟩)
  · refine tm_iload_n dX12_go_12 rfl 1 rfl ?_
    refine tm_iconst dX12_go_13 ?_
    refine tm_iconst dX12_go_14 ?_
    refine tm_callS (M := m_X12_go) (pc := 15) (ix := 188) (M' := m_X12_in) (As := [.int (iI w), .int (iI 0), .int (iI 2)]) (rest := []) dX12_go_15 ok_X12_in stt_X12_in ml12_188 np_X12_in rfl (Nat.le_of_ble_eq_true rfl) (Nat.le_of_ble_eq_true rfl) rfl (c_X12_in (d + 2) (σ := (sS 0 0 σ)) (x := w) (lo := 0) (hi := 2) (by omega) (by omega) (by omega)) (fun r3 σ4 hp => ?_)
    obtain ⟨v5, rfl, rfl, f6, f7⟩ := hp
    show Tm _ _ 18 b (sS 0 0 σ) [(0, .ref b), (1, .int (iI w)), (2, .int (iI nn))] [.int (iI v5)] _
    refine tm_if_eq (tgt := 32) dX12_go_18 (by decide) ⟨by omega, by omega⟩ (fun h8 => ?_) (fun h8 => ?_)
    · refine tm_iconst dX12_go_32 ?_
      exact tm_iret rfl dX12_go_33 (⟨_, rfl, (Fr.rfl.S (by decide)), (hR.S (by omega)), fun a c => (hr7 a c).fr (Fr.rfl.S (by decide) : Fr [0] [] [] σ (sS 0 0 σ)) (by decide) (by decide), XM.of (Fr.rfl.S (by decide) : Fr [0] [] [] σ (sS 0 0 σ)) (by decide), ⟨Int.le_refl _, by show σ.1 70 ≤ σ.1 70 + 20000; omega⟩, ⟨Int.le_refl _, by show σ.2.1 76 0 ≤ σ.2.1 76 0 + 20000; omega⟩, by unfold GOF7; first | exact Or.inl ⟨by omega, rfl, rfl⟩ | exact Or.inr ⟨by omega, Or.inl ⟨by omega, rfl, rfl⟩⟩ | exact Or.inr ⟨by omega, Or.inr (Or.inl ⟨by omega, by omega, rfl, rfl⟩)⟩⟩)
    · refine tm_iload_n dX12_go_21 rfl 2 rfl ?_
      refine tm_iconst dX12_go_22 ?_
      refine tm_sipush dX12_go_23 (by decide) ?_
      refine tm_callS (M := m_X12_go) (pc := 26) (ix := 188) (M' := m_X12_in) (As := [.int (iI nn), .int (iI 1), .int (iI 20000)]) (rest := []) dX12_go_26 ok_X12_in stt_X12_in ml12_188 np_X12_in rfl (Nat.le_of_ble_eq_true rfl) (Nat.le_of_ble_eq_true rfl) rfl (c_X12_in (d + 2) (σ := (sS 0 0 σ)) (x := nn) (lo := 1) (hi := 20000) (by omega) (by omega) (by omega)) (fun r9 σ10 hp => ?_)
      obtain ⟨v11, rfl, rfl, f12, f13⟩ := hp
      show Tm _ _ 29 b (sS 0 0 σ) [(0, .ref b), (1, .int (iI w)), (2, .int (iI nn))] [.int (iI v11)] _
      refine tm_if_ne (tgt := 34) dX12_go_29 (by decide) ⟨by omega, by omega⟩ (fun h14 => ?_) (fun h14 => ?_)
      · refine tm_aload_n dX12_go_34 rfl 0 rfl ?_
        refine tm_getS (k := 69) (t := σ.1 69) dX12_go_35 (by decide) fl12_563 rfl (rs_o (by decide) (rfl)) ?_
        have g15 := RG.s hR 69
        refine tm_if_eq (tgt := 43) dX12_go_38 (by decide) ⟨by omega, by omega⟩ (fun h16 => ?_) (fun h16 => ?_)
        · refine tm_aload_n dX12_go_43 rfl 0 rfl ?_
          refine tm_getS (k := 68) (t := σ.1 68) dX12_go_44 (by decide) fl12_560 rfl (rs_o (by decide) (rfl)) ?_
          have g17 := RG.s hR 68
          refine tm_if_eq (tgt := 52) dX12_go_47 (by decide) ⟨by omega, by omega⟩ (fun h18 => ?_) (fun h18 => ?_)
          · refine tm_aload_n dX12_go_52 rfl 0 rfl ?_
            have hrn := (hr7 (by omega) (by omega)).fr (Fr.rfl.S (by decide) : Fr [0] [] [] σ (sS 0 0 σ)) (by decide) (by decide)
            have hbk2 := hbka.fr (Fr.rfl.S (by decide) : Fr [0] [] [] σ (sS 0 0 σ)) (by decide) (by decide)
            have hrr : (0 ≤ (sS 0 0 σ).2.1 73 0 ∧ (sS 0 0 σ).2.1 73 0 ≤ 9) ∧ ∀ c, 9 * 0 ≤ c → c < 9 * 0 + (sS 0 0 σ).2.1 73 0 → DEC (sS 0 0 σ) 0 c (fn (sS 0 0 σ) 0 c) := ⟨⟨by have := hrn.1; omega, hrn.1.2⟩, hrn.dec hbk2.2 hbk2.1.2⟩
            refine tm_iconst dX12_go_53 ?_
            refine tm_callV (M := m_X12_go) (pc := 54) (ix := 554) (M' := m_X12_depth) (As := [.int (iI 0)]) (rest := []) dX12_go_54 ok_X12_depth im_X12_depth se_X12_depth ml12_554 np_X12_depth rfl rfl (Nat.le_of_ble_eq_true rfl) (Nat.le_of_ble_eq_true rfl) rfl (c_X12_depth (d + 2) (σ := (sS 0 0 σ)) (m := 0) (hR.S (by omega)) (by decide) hrr.1 (fun c a e => ⟨_, hrr.2 c a e⟩)) (fun r19 σ20 hp => ?_)
            obtain ⟨v21, rfl, rfl, f22, f23⟩ := hp
            show Tm _ _ 57 b (sS 0 0 σ) [(0, .ref b), (1, .int (iI w)), (2, .int (iI nn))] [.int (iI v21)] _
            have hdq9 : v21 = dpt σ 0 := f22
            refine tm_istore_n (L' := [(3, .int (iI v21)), (0, .ref b), (1, .int (iI w)), (2, .int (iI nn))]) dX12_go_57 rfl (by decide) rfl ?_
            refine tm_iconst dX12_go_58 ?_
            refine tm_istore (L' := [(4, .int (iI 0)), (3, .int (iI v21)), (0, .ref b), (1, .int (iI w)), (2, .int (iI nn))]) dX12_go_59 (by decide) rfl ?_
            refine tm_iconst dX12_go_61 ?_
            refine tm_istore (L' := [(5, .int (iI 0)), (4, .int (iI 0)), (3, .int (iI v21)), (0, .ref b), (1, .int (iI w)), (2, .int (iI nn))]) dX12_go_62 (by decide) rfl ?_
            refine tm_sub [0, 1, 2, 3, 4, 5] rfl (f_go (d) (σ0 := (sS 0 0 σ)) (w := w) (nn := nn) (q := v21) (hR.S (by omega)) hbk2 (hit.fr (Fr.rfl.S (by decide) : Fr [0] [] [] σ (sS 0 0 σ)) (by decide)) (hpar.fr (Fr.rfl.S (by decide) : Fr [0] [] [] σ (sS 0 0 σ)) (by decide)) (by omega) hG hP (by omega) (by omega) (fun i34 e35 σ36 F27 R28 f29 f30 f31 f32 f33 => ?_) (fun v τ hF2 hR2 hru hxm hgb hpb hge => ⟨_, rfl, ((Fr.rfl.S (by decide) : Fr [0, 68, 69, 70] [73, 75, 76, 77, 78, 79, 80, 81, 82] [] σ (sS 0 0 σ)).trans (Fr.sub hF2 (by decide) (by decide) (by decide))), hR2, fun _ c => hru c, XM.trans (XM.of (Fr.rfl.S (by decide) : Fr [0] [] [] σ (sS 0 0 σ)) (by decide)) hxm, hgb, hpb, Or.inr ⟨by omega, Or.inr (Or.inr ⟨by omega, by omega, by rw [← hdq9]; exact hge⟩)⟩⟩) _ (0) (0) (sS 0 0 σ) Fr.rfl (hR.S (by omega)) (by omega) hrn XM.rfl ⟨Int.le_refl _, by omega⟩ ⟨Int.le_refl _, by omega⟩ ⟨rfl, rfl⟩ rfl)
            show Tm _ _ 175 b σ36 [(0, .ref b)] [] _
            refine tm_iconst dX12_go_175 ?_
            exact tm_iret rfl dX12_go_176 (⟨_, rfl, ((Fr.rfl.S (by decide) : Fr [0, 68, 69, 70] [73, 75, 76, 77, 78, 79, 80, 81, 82] [] σ (sS 0 0 σ)).trans (Fr.sub F27 (by decide) (by decide) (by decide))), R28, fun _ _ => f30, XM.trans (XM.of (Fr.rfl.S (by decide) : Fr [0] [] [] σ (sS 0 0 σ)) (by decide)) f31, f32, f33, Or.inr ⟨by omega, Or.inr (Or.inr ⟨by omega, by omega, f29.elim (fun e9 z9 => ⟨nn.toNat, e9, _, by rw [← hdq9]; exact z9.1, z9.2, Or.inl ⟨by omega, rfl, rfl⟩⟩)⟩)⟩⟩)
          · refine tm_iconst dX12_go_50 ?_
            exact tm_iret rfl dX12_go_51 (⟨_, rfl, (Fr.rfl.S (by decide)), (hR.S (by omega)), fun a c => (hr7 a c).fr (Fr.rfl.S (by decide) : Fr [0] [] [] σ (sS 0 0 σ)) (by decide) (by decide), XM.of (Fr.rfl.S (by decide) : Fr [0] [] [] σ (sS 0 0 σ)) (by decide), ⟨Int.le_refl _, by show σ.1 70 ≤ σ.1 70 + 20000; omega⟩, ⟨Int.le_refl _, by show σ.2.1 76 0 ≤ σ.2.1 76 0 + 20000; omega⟩, by unfold GOF7; first | exact Or.inl ⟨by omega, rfl, rfl⟩ | exact Or.inr ⟨by omega, Or.inl ⟨by omega, rfl, rfl⟩⟩ | exact Or.inr ⟨by omega, Or.inr (Or.inl ⟨by omega, by omega, rfl, rfl⟩)⟩⟩)
        · refine tm_iconst dX12_go_41 ?_
          exact tm_iret rfl dX12_go_42 (⟨_, rfl, (Fr.rfl.S (by decide)), (hR.S (by omega)), fun a c => (hr7 a c).fr (Fr.rfl.S (by decide) : Fr [0] [] [] σ (sS 0 0 σ)) (by decide) (by decide), XM.of (Fr.rfl.S (by decide) : Fr [0] [] [] σ (sS 0 0 σ)) (by decide), ⟨Int.le_refl _, by show σ.1 70 ≤ σ.1 70 + 20000; omega⟩, ⟨Int.le_refl _, by show σ.2.1 76 0 ≤ σ.2.1 76 0 + 20000; omega⟩, by unfold GOF7; first | exact Or.inl ⟨by omega, rfl, rfl⟩ | exact Or.inr ⟨by omega, Or.inl ⟨by omega, rfl, rfl⟩⟩ | exact Or.inr ⟨by omega, Or.inr (Or.inl ⟨by omega, by omega, rfl, rfl⟩)⟩⟩)
      · refine tm_iconst dX12_go_32 ?_
        exact tm_iret rfl dX12_go_33 (⟨_, rfl, (Fr.rfl.S (by decide)), (hR.S (by omega)), fun a c => (hr7 a c).fr (Fr.rfl.S (by decide) : Fr [0] [] [] σ (sS 0 0 σ)) (by decide) (by decide), XM.of (Fr.rfl.S (by decide) : Fr [0] [] [] σ (sS 0 0 σ)) (by decide), ⟨Int.le_refl _, by show σ.1 70 ≤ σ.1 70 + 20000; omega⟩, ⟨Int.le_refl _, by show σ.2.1 76 0 ≤ σ.2.1 76 0 + 20000; omega⟩, by unfold GOF7; first | exact Or.inl ⟨by omega, rfl, rfl⟩ | exact Or.inr ⟨by omega, Or.inl ⟨by omega, rfl, rfl⟩⟩ | exact Or.inr ⟨by omega, Or.inr (Or.inl ⟨by omega, by omega, rfl, rfl⟩)⟩⟩)
end
