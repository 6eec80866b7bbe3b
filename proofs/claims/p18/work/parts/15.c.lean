section
def STP (σ : MS) (m v : Int) (τ : MS) : Prop := v = 0 →
  (kdm σ m (σ.2.1 78 (9 * m + σ.2.1 73 m - 1)) (σ.2.1 79 (9 * m + σ.2.1 73 m - 1)) ≠ 11 ∧ kdm σ m (σ.2.1 78 (9 * m + σ.2.1 73 m - 1)) (σ.2.1 79 (9 * m + σ.2.1 73 m - 1)) ≠ 7 ∧ τ.2.1 73 m = σ.2.1 73 m ∧ (∀ c, τ.2.1 78 c = σ.2.1 78 c) ∧ (∀ c, c ≠ 9 * m + σ.2.1 73 m - 1 → τ.2.1 79 c = σ.2.1 79 c) ∧
    ((τ.2.1 79 (9 * m + σ.2.1 73 m - 1) = σ.2.1 79 (9 * m + σ.2.1 73 m - 1) + 1) ∨
     ((kdm σ m (σ.2.1 78 (9 * m + σ.2.1 73 m - 1)) (σ.2.1 79 (9 * m + σ.2.1 73 m - 1)) = 8 ∨ kdm σ m (σ.2.1 78 (9 * m + σ.2.1 73 m - 1)) (σ.2.1 79 (9 * m + σ.2.1 73 m - 1)) = 9) ∧ kdm σ m (σ.2.1 78 (9 * m + σ.2.1 73 m - 1)) (τ.2.1 79 (9 * m + σ.2.1 73 m - 1)) = 13 ∧ dsm σ m (σ.2.1 78 (9 * m + σ.2.1 73 m - 1)) (τ.2.1 79 (9 * m + σ.2.1 73 m - 1)) = dsm σ m (σ.2.1 78 (9 * m + σ.2.1 73 m - 1)) (σ.2.1 79 (9 * m + σ.2.1 73 m - 1))))) ∨
  (kdm σ m (σ.2.1 78 (9 * m + σ.2.1 73 m - 1)) (σ.2.1 79 (9 * m + σ.2.1 73 m - 1)) = 10 ∧ τ.2.1 73 m = σ.2.1 73 m + 1 ∧ (∀ c, 9 * m ≤ c → c < 9 * m + σ.2.1 73 m → τ.2.1 78 c = σ.2.1 78 c ∧ τ.2.1 79 c = σ.2.1 79 c) ∧ τ.2.1 79 (9 * m + σ.2.1 73 m) = 0) ∨
  (τ.2.1 73 m = σ.2.1 73 m - 1 ∧ 2 ≤ σ.2.1 73 m ∧ (∀ c, τ.2.1 78 c = σ.2.1 78 c) ∧ (∀ c, c ≠ 9 * m + σ.2.1 73 m - 2 → τ.2.1 79 c = σ.2.1 79 c) ∧ τ.2.1 79 (9 * m + σ.2.1 73 m - 2) = σ.2.1 79 (9 * m + σ.2.1 73 m - 2) + 1)

theorem dX12_step_317 : decode cX12_step 317 = .ok (.iload 8, 2) := by decide +kernel
theorem dX12_step_319 : decode cX12_step 319 = .ok (.aload_n 0, 1) := by decide +kernel
theorem dX12_step_320 : decode cX12_step 320 = .ok (.getfield 35, 3) := by decide +kernel
theorem dX12_step_323 : decode cX12_step 323 = .ok (.aload_n 0, 1) := by decide +kernel
theorem dX12_step_324 : decode cX12_step 324 = .ok (.getfield 20, 3) := by decide +kernel
theorem dX12_step_327 : decode cX12_step 327 = .ok (.iload 4, 2) := by decide +kernel
theorem dX12_step_329 : decode cX12_step 329 = .ok (.iaload, 1) := by decide +kernel
theorem dX12_step_330 : decode cX12_step 330 = .ok (.iaload, 1) := by decide +kernel
theorem dX12_step_331 : decode cX12_step 331 = .ok (.if_icmp .ge 64, 3) := by decide +kernel
theorem dX12_step_334 : decode cX12_step 334 = .ok (.aload_n 0, 1) := by decide +kernel
theorem dX12_step_335 : decode cX12_step 335 = .ok (.getfield 179, 3) := by decide +kernel
theorem dX12_step_338 : decode cX12_step 338 = .ok (.iload 5, 2) := by decide +kernel
theorem dX12_step_340 : decode cX12_step 340 = .ok (.sipush 192, 3) := by decide +kernel
theorem dX12_step_343 : decode cX12_step 343 = .ok (.iadd, 1) := by decide +kernel
theorem dX12_step_344 : decode cX12_step 344 = .ok (.aload_n 0, 1) := by decide +kernel
theorem dX12_step_345 : decode cX12_step 345 = .ok (.iload_n 1, 1) := by decide +kernel
theorem dX12_step_346 : decode cX12_step 346 = .ok (.aload_n 0, 1) := by decide +kernel
theorem dX12_step_347 : decode cX12_step 347 = .ok (.getfield 20, 3) := by decide +kernel
theorem dX12_step_350 : decode cX12_step 350 = .ok (.iload 4, 2) := by decide +kernel
theorem dX12_step_352 : decode cX12_step 352 = .ok (.iaload, 1) := by decide +kernel
theorem dX12_step_353 : decode cX12_step 353 = .ok (.iload 8, 2) := by decide +kernel
theorem dX12_step_355 : decode cX12_step 355 = .ok (.invokevirtual 539, 3) := by decide +kernel
theorem dX12_step_358 : decode cX12_step 358 = .ok (.iadd, 1) := by decide +kernel
theorem dX12_step_359 : decode cX12_step 359 = .ok (.aload_n 0, 1) := by decide +kernel
theorem dX12_step_360 : decode cX12_step 360 = .ok (.iload_n 2, 1) := by decide +kernel
theorem dX12_step_361 : decode cX12_step 361 = .ok (.aload_n 0, 1) := by decide +kernel
theorem dX12_step_362 : decode cX12_step 362 = .ok (.getfield 26, 3) := by decide +kernel
theorem dX12_step_365 : decode cX12_step 365 = .ok (.iconst 4, 1) := by decide +kernel
theorem dX12_step_366 : decode cX12_step 366 = .ok (.iload 4, 2) := by decide +kernel
theorem dX12_step_368 : decode cX12_step 368 = .ok (.imul, 1) := by decide +kernel
theorem dX12_step_369 : decode cX12_step 369 = .ok (.iload 8, 2) := by decide +kernel
theorem dX12_step_371 : decode cX12_step 371 = .ok (.iadd, 1) := by decide +kernel
theorem dX12_step_372 : decode cX12_step 372 = .ok (.iaload, 1) := by decide +kernel
theorem dX12_step_373 : decode cX12_step 373 = .ok (.aload_n 0, 1) := by decide +kernel
theorem dX12_step_374 : decode cX12_step 374 = .ok (.getfield 29, 3) := by decide +kernel
theorem dX12_step_377 : decode cX12_step 377 = .ok (.iconst 4, 1) := by decide +kernel
theorem dX12_step_378 : decode cX12_step 378 = .ok (.iload 4, 2) := by decide +kernel
theorem dX12_step_380 : decode cX12_step 380 = .ok (.imul, 1) := by decide +kernel
theorem dX12_step_381 : decode cX12_step 381 = .ok (.iload 8, 2) := by decide +kernel
theorem dX12_step_383 : decode cX12_step 383 = .ok (.iadd, 1) := by decide +kernel
theorem dX12_step_384 : decode cX12_step 384 = .ok (.iaload, 1) := by decide +kernel
theorem dX12_step_385 : decode cX12_step 385 = .ok (.invokevirtual 545, 3) := by decide +kernel
theorem dX12_step_388 : decode cX12_step 388 = .ok (.iastore, 1) := by decide +kernel
theorem dX12_step_389 : decode cX12_step 389 = .ok (.iinc 8 1, 3) := by decide +kernel
theorem dX12_step_392 : decode cX12_step 392 = .ok (.goto (-75), 3) := by decide +kernel
set_option maxHeartbeats 4000000 in
set_option maxRecDepth 20000 in
theorem l_step (d : Nat) {b : Nat} {σ0 : MS} {m : Int} {c : Int} {x : Int} {q : Int} {post : Option Value → MS → Prop} (hR0 : RG σ0) (hm2 : 0 ≤ m ∧ m ≤ 2) (hx : (0 ≤ x ∧ x < 2860) ∧ (0 ≤ c ∧ c ≤ 25)) (hq : σ0.2.1 5 x = q ∧ 0 ≤ q ∧ q < 6 ∧ 0 ≤ σ0.2.1 11 q ∧ σ0.2.1 11 q ≤ 4) (hnm : ∀ n, 0 ≤ n → n < σ0.2.1 11 q → m ≠ 2 → 0 ≤ σ0.2.1 18 (144 * q + n) ∧ σ0.2.1 18 (144 * q + n) < 192) (har : ∀ n, 0 ≤ n → n < 4 → σ0.2.1 7 (4 * x + n) = 2 → 0 ≤ σ0.2.1 8 (4 * x + n) ∧ σ0.2.1 8 (4 * x + n) < 192) (hx_395 : ∀ (n1 : Int) (σ : MS) , (Fr [] [82] [] σ0 σ) → (RG σ) → Tm (d + 2) m_X12_step 395 b σ [(0, .ref b)] [] post) : ∀ (n : Nat) (n1 : Int) (σ : MS) , (Fr [] [82] [] σ0 σ) → (RG σ) → (0 ≤ n1 ∧ n1 ≤ 4) → (4 - n1).toNat = n → Tm (d + 2) m_X12_step 317 b σ [(8, .int (iI n1)), (5, .int (iI (192 * c))), (4, .int (iI x)), (2, .int (iI c)), (0, .ref b), (1, .int (iI m))] [] post := by
  intro n
  induction n using Nat.strongRecOn with
  | _ n ih =>
    intro n1 σ hF hR h0 hm
    have hq1 := hq.1
    have hq5 : σ0.2.1 11 (σ0.2.1 5 x) = σ0.2.1 11 q := by rw [hq1]
    refine tm_iload dX12_step_317 0 rfl ?_
    refine tm_aload_n dX12_step_319 rfl 4 rfl ?_
    refine tm_get (k := 11) (v := .ref (b + 1 + 8)) lay_12 dX12_step_320 (by decide) fl12_35 rfl ?_
    refine tm_aload_n dX12_step_323 rfl 4 rfl ?_
    refine tm_get (k := 5) (v := .ref (b + 1 + 3)) lay_12 dX12_step_324 (by decide) fl12_20 rfl ?_
    refine tm_iload dX12_step_327 2 rfl ?_
    refine tm_iald (z := x) (v := σ0.2.1 5 x) dX12_step_329 (show mT[3]? = some (5, 0, 2860) from rfl) (by omega) (by omega) (by decide) (ra_F hF (by decide) (rfl)) ?_
    have g1 := RG.a hR0 5 (x)
    refine tm_iald (z := σ0.2.1 5 x) (v := σ0.2.1 11 (σ0.2.1 5 x)) dX12_step_330 (show mT[8]? = some (11, 0, 6) from rfl) (by omega) (by omega) (by decide) (ra_F hF (by decide) (rfl)) ?_
    have g2 := RG.a hR0 11 (σ0.2.1 5 x)
    refine tm_icmp_ge (tgt := 395) dX12_step_331 (by decide) ⟨by omega, by omega⟩ ⟨by omega, by omega⟩ (fun h3 => ?_) (fun h3 => ?_)
    · exact tm_sub [4] rfl (hx_395 (0) σ (Fr.rfl.trans (Fr.sub hF (by decide) (by decide) (by decide))) hR)
    · have hn1 := hnm n1 (by omega) (by omega)
      have ha1 := har n1 (by omega) (by omega)
      have e18 : σ.2.1 18 = σ0.2.1 18 := hF.2.1 18 (by decide)
      have hq18 : σ0.2.1 18 (144 * σ0.2.1 5 x + n1) = σ0.2.1 18 (144 * q + n1) := by rw [hq1]
      refine tm_aload_n dX12_step_334 rfl 4 rfl ?_
      refine tm_get (k := 82) (v := .ref (b + 1 + 53)) lay_12 dX12_step_335 (by decide) fl12_179 rfl ?_
      refine tm_iload dX12_step_338 1 rfl ?_
      refine tm_sipush dX12_step_340 (by decide) ?_
      refine tm_iadd dX12_step_343 ?_
      refine tm_aload_n dX12_step_344 rfl 4 rfl ?_
      refine tm_iload_n dX12_step_345 rfl 5 rfl ?_
      refine tm_aload_n dX12_step_346 rfl 4 rfl ?_
      refine tm_get (k := 5) (v := .ref (b + 1 + 3)) lay_12 dX12_step_347 (by decide) fl12_20 rfl ?_
      refine tm_iload dX12_step_350 2 rfl ?_
      refine tm_iald (z := x) (v := σ0.2.1 5 x) dX12_step_352 (show mT[3]? = some (5, 0, 2860) from rfl) (by omega) (by omega) (by decide) (ra_F hF (by decide) (rfl)) ?_
      have g4 := RG.a hR0 5 (x)
      refine tm_iload dX12_step_353 0 rfl ?_
      refine tm_callV (M := m_X12_step) (pc := 355) (ix := 539) (M' := m_X12_paramAt) (As := [.int (iI m), .int (iI (σ0.2.1 5 x)), .int (iI n1)]) (rest := [.int (iI ((192 * c) + 192)), .ref (b + 1 + 53)]) dX12_step_355 ok_X12_paramAt im_X12_paramAt se_X12_paramAt ml12_539 np_X12_paramAt rfl rfl (Nat.le_of_ble_eq_true rfl) (Nat.le_of_ble_eq_true rfl) rfl (c_X12_paramAt (d) (σ := σ) (m := m) (x := σ0.2.1 5 x) (n := n1) (by omega) (by omega)) (fun r5 σ6 hp => ?_)
      obtain ⟨v7, rfl, rfl, f8, f9⟩ := hp
      show Tm _ _ 358 b σ [(8, .int (iI n1)), (5, .int (iI (192 * c))), (4, .int (iI x)), (2, .int (iI c)), (0, .ref b), (1, .int (iI m))] [.int (iI v7), .int (iI ((192 * c) + 192)), .ref (b + 1 + 53)] _
      rw [e18] at f9
      refine tm_iadd dX12_step_358 ?_
      refine tm_aload_n dX12_step_359 rfl 4 rfl ?_
      refine tm_iload_n dX12_step_360 rfl 3 rfl ?_
      refine tm_aload_n dX12_step_361 rfl 4 rfl ?_
      refine tm_get (k := 7) (v := .ref (b + 1 + 5)) lay_12 dX12_step_362 (by decide) fl12_26 rfl ?_
      refine tm_iconst dX12_step_365 ?_
      refine tm_iload dX12_step_366 2 rfl ?_
      refine tm_imul dX12_step_368 ?_
      refine tm_iload dX12_step_369 0 rfl ?_
      refine tm_iadd dX12_step_371 ?_
      refine tm_iald (z := (4 * x) + n1) (v := σ0.2.1 7 ((4 * x) + n1)) dX12_step_372 (show mT[5]? = some (7, 0, 11440) from rfl) (by omega) (by omega) (by decide) (ra_F hF (by decide) (rfl)) ?_
      have g10 := RG.a hR0 7 ((4 * x) + n1)
      refine tm_aload_n dX12_step_373 rfl 4 rfl ?_
      refine tm_get (k := 8) (v := .ref (b + 1 + 6)) lay_12 dX12_step_374 (by decide) fl12_29 rfl ?_
      refine tm_iconst dX12_step_377 ?_
      refine tm_iload dX12_step_378 2 rfl ?_
      refine tm_imul dX12_step_380 ?_
      refine tm_iload dX12_step_381 0 rfl ?_
      refine tm_iadd dX12_step_383 ?_
      refine tm_iald (z := (4 * x) + n1) (v := σ0.2.1 8 ((4 * x) + n1)) dX12_step_384 (show mT[6]? = some (8, 0, 11440) from rfl) (by omega) (by omega) (by decide) (ra_F hF (by decide) (rfl)) ?_
      have g11 := RG.a hR0 8 ((4 * x) + n1)
      refine tm_callV (M := m_X12_step) (pc := 385) (ix := 545) (M' := m_X12_worth) (As := [.int (iI c), .int (iI (σ0.2.1 7 ((4 * x) + n1))), .int (iI (σ0.2.1 8 ((4 * x) + n1)))]) (rest := [.int (iI (((192 * c) + 192) + v7)), .ref (b + 1 + 53)]) dX12_step_385 ok_X12_worth im_X12_worth se_X12_worth ml12_545 np_X12_worth rfl rfl (Nat.le_of_ble_eq_true rfl) (Nat.le_of_ble_eq_true rfl) rfl (c_X12_worth (d) (σ := σ) (c := c) (k := σ0.2.1 7 ((4 * x) + n1)) (w := σ0.2.1 8 ((4 * x) + n1)) (by omega) hR (by omega) (by omega)) (fun r12 σ13 hp => ?_)
      obtain ⟨v14, rfl, rfl, f15⟩ := hp
      show Tm _ _ 388 b σ [(8, .int (iI n1)), (5, .int (iI (192 * c))), (4, .int (iI x)), (2, .int (iI c)), (0, .ref b), (1, .int (iI m))] [.int (iI v14), .int (iI (((192 * c) + 192) + v7)), .ref (b + 1 + 53)] _
      refine tm_iast (z := ((192 * c) + 192) + v7) (v := v14) dX12_step_388 (show mT[53]? = some (82, 0, 5184) from rfl) (by omega) (by omega) (by decide) ?_
      refine tm_iinc (q0 := 0) (L' := [(8, .int (iI (n1 + 1))), (5, .int (iI (192 * c))), (4, .int (iI x)), (2, .int (iI c)), (0, .ref b), (1, .int (iI m))]) dX12_step_389 rfl (by decide) rfl ?_
      refine tm_goto (tgt := 317) dX12_step_392 (by decide) ?_
      exact tm_sub [0, 1, 2, 3, 4, 5] rfl (ih _ (by omega) (n1 + 1) (sA 82 (((192 * c) + 192) + v7) (v14) σ) ((Fr.rfl.trans (Fr.sub hF (by decide) (by decide) (by decide))).A (by decide)) (hR.A (by omega)) (by omega) rfl)
theorem ml12_548 : Cond.methodLink RX12 548 yX12_returns ∈ pWW := pw10 (List.mem_of_getElem? (i := 29) rfl) rfl
theorem ml12_551 : Cond.methodLink RX12 551 yX12_labelIn ∈ pWW := pw10 (List.mem_of_getElem? (i := 33) rfl) rfl
theorem dX12_step_0 : decode cX12_step 0 = .ok (.bipush 9, 2) := by decide +kernel
theorem dX12_step_2 : decode cX12_step 2 = .ok (.iload_n 1, 1) := by decide +kernel
theorem dX12_step_3 : decode cX12_step 3 = .ok (.imul, 1) := by decide +kernel
theorem dX12_step_4 : decode cX12_step 4 = .ok (.aload_n 0, 1) := by decide +kernel
theorem dX12_step_5 : decode cX12_step 5 = .ok (.getfield 152, 3) := by decide +kernel
theorem dX12_step_8 : decode cX12_step 8 = .ok (.iload_n 1, 1) := by decide +kernel
theorem dX12_step_9 : decode cX12_step 9 = .ok (.iaload, 1) := by decide +kernel
theorem dX12_step_10 : decode cX12_step 10 = .ok (.iadd, 1) := by decide +kernel
theorem dX12_step_11 : decode cX12_step 11 = .ok (.iconst 1, 1) := by decide +kernel
theorem dX12_step_12 : decode cX12_step 12 = .ok (.isub, 1) := by decide +kernel
theorem dX12_step_13 : decode cX12_step 13 = .ok (.istore_n 2, 1) := by decide +kernel
theorem dX12_step_14 : decode cX12_step 14 = .ok (.aload_n 0, 1) := by decide +kernel
theorem dX12_step_15 : decode cX12_step 15 = .ok (.getfield 167, 3) := by decide +kernel
theorem dX12_step_18 : decode cX12_step 18 = .ok (.iload_n 2, 1) := by decide +kernel
theorem dX12_step_19 : decode cX12_step 19 = .ok (.iaload, 1) := by decide +kernel
theorem dX12_step_20 : decode cX12_step 20 = .ok (.istore_n 3, 1) := by decide +kernel
theorem dX12_step_21 : decode cX12_step 21 = .ok (.aload_n 0, 1) := by decide +kernel
theorem dX12_step_22 : decode cX12_step 22 = .ok (.aload_n 0, 1) := by decide +kernel
theorem dX12_step_23 : decode cX12_step 23 = .ok (.iload_n 1, 1) := by decide +kernel
theorem dX12_step_24 : decode cX12_step 24 = .ok (.invokevirtual 542, 3) := by decide +kernel
theorem dX12_step_27 : decode cX12_step 27 = .ok (.iload_n 3, 1) := by decide +kernel
theorem dX12_step_28 : decode cX12_step 28 = .ok (.iadd, 1) := by decide +kernel
theorem dX12_step_29 : decode cX12_step 29 = .ok (.aload_n 0, 1) := by decide +kernel
theorem dX12_step_30 : decode cX12_step 30 = .ok (.getfield 170, 3) := by decide +kernel
theorem dX12_step_33 : decode cX12_step 33 = .ok (.iload_n 2, 1) := by decide +kernel
theorem dX12_step_34 : decode cX12_step 34 = .ok (.iaload, 1) := by decide +kernel
theorem dX12_step_35 : decode cX12_step 35 = .ok (.invokevirtual 203, 3) := by decide +kernel
theorem dX12_step_38 : decode cX12_step 38 = .ok (.istore 4, 2) := by decide +kernel
theorem dX12_step_40 : decode cX12_step 40 = .ok (.sipush 192, 3) := by decide +kernel
theorem dX12_step_43 : decode cX12_step 43 = .ok (.iload_n 2, 1) := by decide +kernel
theorem dX12_step_44 : decode cX12_step 44 = .ok (.imul, 1) := by decide +kernel
theorem dX12_step_45 : decode cX12_step 45 = .ok (.istore 5, 2) := by decide +kernel
theorem dX12_step_47 : decode cX12_step 47 = .ok (.aload_n 0, 1) := by decide +kernel
theorem dX12_step_48 : decode cX12_step 48 = .ok (.iload_n 2, 1) := by decide +kernel
theorem dX12_step_49 : decode cX12_step 49 = .ok (.aload_n 0, 1) := by decide +kernel
theorem dX12_step_50 : decode cX12_step 50 = .ok (.getfield 26, 3) := by decide +kernel
theorem dX12_step_53 : decode cX12_step 53 = .ok (.iconst 4, 1) := by decide +kernel
theorem dX12_step_54 : decode cX12_step 54 = .ok (.iload 4, 2) := by decide +kernel
theorem dX12_step_56 : decode cX12_step 56 = .ok (.imul, 1) := by decide +kernel
theorem dX12_step_57 : decode cX12_step 57 = .ok (.iaload, 1) := by decide +kernel
theorem dX12_step_58 : decode cX12_step 58 = .ok (.aload_n 0, 1) := by decide +kernel
theorem dX12_step_59 : decode cX12_step 59 = .ok (.getfield 29, 3) := by decide +kernel
theorem dX12_step_62 : decode cX12_step 62 = .ok (.iconst 4, 1) := by decide +kernel
theorem dX12_step_63 : decode cX12_step 63 = .ok (.iload 4, 2) := by decide +kernel
theorem dX12_step_65 : decode cX12_step 65 = .ok (.imul, 1) := by decide +kernel
theorem dX12_step_66 : decode cX12_step 66 = .ok (.iaload, 1) := by decide +kernel
theorem dX12_step_67 : decode cX12_step 67 = .ok (.invokevirtual 545, 3) := by decide +kernel
theorem dX12_step_70 : decode cX12_step 70 = .ok (.istore 6, 2) := by decide +kernel
theorem dX12_step_72 : decode cX12_step 72 = .ok (.iconst 0, 1) := by decide +kernel
theorem dX12_step_73 : decode cX12_step 73 = .ok (.istore 7, 2) := by decide +kernel
theorem dX12_step_75 : decode cX12_step 75 = .ok (.aload_n 0, 1) := by decide +kernel
theorem dX12_step_76 : decode cX12_step 76 = .ok (.getfield 13, 3) := by decide +kernel
theorem dX12_step_79 : decode cX12_step 79 = .ok (.iload 4, 2) := by decide +kernel
theorem dX12_step_81 : decode cX12_step 81 = .ok (.iaload, 1) := by decide +kernel
theorem dX12_step_82 : decode cX12_step 82 = .ok (.tableswitch 420 0 15 #[78, 420, 420, 420, 420, 420, 98, 142, 151, 177, 208, 315, 417, 417, 345, 391], 78) := by decide +kernel
theorem dX12_step_502 : decode cX12_step 502 = .ok (.aload_n 0, 1) := by decide +kernel
theorem dX12_step_503 : decode cX12_step 503 = .ok (.getfield 179, 3) := by decide +kernel
theorem dX12_step_506 : decode cX12_step 506 = .ok (.iload 5, 2) := by decide +kernel
theorem dX12_step_508 : decode cX12_step 508 = .ok (.aload_n 0, 1) := by decide +kernel
theorem dX12_step_509 : decode cX12_step 509 = .ok (.getfield 17, 3) := by decide +kernel
theorem dX12_step_512 : decode cX12_step 512 = .ok (.iload 4, 2) := by decide +kernel
theorem dX12_step_514 : decode cX12_step 514 = .ok (.iaload, 1) := by decide +kernel
theorem dX12_step_515 : decode cX12_step 515 = .ok (.iadd, 1) := by decide +kernel
theorem dX12_step_516 : decode cX12_step 516 = .ok (.aload_n 0, 1) := by decide +kernel
theorem dX12_step_517 : decode cX12_step 517 = .ok (.getfield 13, 3) := by decide +kernel
theorem dX12_step_520 : decode cX12_step 520 = .ok (.iload 4, 2) := by decide +kernel
theorem dX12_step_522 : decode cX12_step 522 = .ok (.iaload, 1) := by decide +kernel
theorem dX12_step_523 : decode cX12_step 523 = .ok (.iload 6, 2) := by decide +kernel
theorem dX12_step_525 : decode cX12_step 525 = .ok (.aload_n 0, 1) := by decide +kernel
theorem dX12_step_526 : decode cX12_step 526 = .ok (.iload_n 2, 1) := by decide +kernel
theorem dX12_step_527 : decode cX12_step 527 = .ok (.aload_n 0, 1) := by decide +kernel
theorem dX12_step_528 : decode cX12_step 528 = .ok (.getfield 26, 3) := by decide +kernel
theorem dX12_step_531 : decode cX12_step 531 = .ok (.iconst 4, 1) := by decide +kernel
theorem dX12_step_532 : decode cX12_step 532 = .ok (.iload 4, 2) := by decide +kernel
theorem dX12_step_534 : decode cX12_step 534 = .ok (.imul, 1) := by decide +kernel
theorem dX12_step_535 : decode cX12_step 535 = .ok (.iconst 1, 1) := by decide +kernel
theorem dX12_step_536 : decode cX12_step 536 = .ok (.iadd, 1) := by decide +kernel
theorem dX12_step_537 : decode cX12_step 537 = .ok (.iaload, 1) := by decide +kernel
theorem dX12_step_538 : decode cX12_step 538 = .ok (.aload_n 0, 1) := by decide +kernel
theorem dX12_step_539 : decode cX12_step 539 = .ok (.getfield 29, 3) := by decide +kernel
theorem dX12_step_542 : decode cX12_step 542 = .ok (.iconst 4, 1) := by decide +kernel
theorem dX12_step_543 : decode cX12_step 543 = .ok (.iload 4, 2) := by decide +kernel
theorem dX12_step_545 : decode cX12_step 545 = .ok (.imul, 1) := by decide +kernel
theorem dX12_step_546 : decode cX12_step 546 = .ok (.iconst 1, 1) := by decide +kernel
theorem dX12_step_547 : decode cX12_step 547 = .ok (.iadd, 1) := by decide +kernel
theorem dX12_step_548 : decode cX12_step 548 = .ok (.iaload, 1) := by decide +kernel
theorem dX12_step_549 : decode cX12_step 549 = .ok (.invokevirtual 545, 3) := by decide +kernel
theorem dX12_step_552 : decode cX12_step 552 = .ok (.invokestatic 466, 3) := by decide +kernel
theorem dX12_step_555 : decode cX12_step 555 = .ok (.iastore, 1) := by decide +kernel
theorem dX12_step_556 : decode cX12_step 556 = .ok (.aload_n 0, 1) := by decide +kernel
theorem dX12_step_557 : decode cX12_step 557 = .ok (.getfield 170, 3) := by decide +kernel
theorem dX12_step_560 : decode cX12_step 560 = .ok (.iload_n 2, 1) := by decide +kernel
theorem dX12_step_561 : decode cX12_step 561 = .ok (.dup2, 1) := by decide +kernel
theorem dX12_step_562 : decode cX12_step 562 = .ok (.iaload, 1) := by decide +kernel
theorem dX12_step_563 : decode cX12_step 563 = .ok (.iconst 1, 1) := by decide +kernel
theorem dX12_step_564 : decode cX12_step 564 = .ok (.iadd, 1) := by decide +kernel
theorem dX12_step_565 : decode cX12_step 565 = .ok (.iastore, 1) := by decide +kernel
theorem dX12_step_566 : decode cX12_step 566 = .ok (.iload 7, 2) := by decide +kernel
theorem dX12_step_568 : decode cX12_step 568 = .ok (.ireturn, 1) := by decide +kernel
theorem dX12_step_160 : decode cX12_step 160 = .ok (.aload_n 0, 1) := by decide +kernel
theorem dX12_step_161 : decode cX12_step 161 = .ok (.getfield 179, 3) := by decide +kernel
theorem dX12_step_164 : decode cX12_step 164 = .ok (.iload 5, 2) := by decide +kernel
theorem dX12_step_166 : decode cX12_step 166 = .ok (.aload_n 0, 1) := by decide +kernel
theorem dX12_step_167 : decode cX12_step 167 = .ok (.getfield 17, 3) := by decide +kernel
theorem dX12_step_170 : decode cX12_step 170 = .ok (.iload 4, 2) := by decide +kernel
theorem dX12_step_172 : decode cX12_step 172 = .ok (.iaload, 1) := by decide +kernel
theorem dX12_step_173 : decode cX12_step 173 = .ok (.iadd, 1) := by decide +kernel
theorem dX12_step_174 : decode cX12_step 174 = .ok (.iload 6, 2) := by decide +kernel
theorem dX12_step_176 : decode cX12_step 176 = .ok (.iastore, 1) := by decide +kernel
theorem dX12_step_177 : decode cX12_step 177 = .ok (.goto 379, 3) := by decide +kernel
theorem dX12_step_180 : decode cX12_step 180 = .ok (.aload_n 0, 1) := by decide +kernel
theorem dX12_step_181 : decode cX12_step 181 = .ok (.getfield 161, 3) := by decide +kernel
theorem dX12_step_184 : decode cX12_step 184 = .ok (.iload_n 1, 1) := by decide +kernel
theorem dX12_step_185 : decode cX12_step 185 = .ok (.iaload, 1) := by decide +kernel
theorem dX12_step_186 : decode cX12_step 186 = .ok (.sipush 200, 3) := by decide +kernel
theorem dX12_step_189 : decode cX12_step 189 = .ok (.if_icmp .ge 22, 3) := by decide +kernel
theorem dX12_step_211 : decode cX12_step 211 = .ok (.aload_n 0, 1) := by decide +kernel
theorem dX12_step_212 : decode cX12_step 212 = .ok (.getfield 161, 3) := by decide +kernel
theorem dX12_step_215 : decode cX12_step 215 = .ok (.iload_n 1, 1) := by decide +kernel
theorem dX12_step_216 : decode cX12_step 216 = .ok (.dup2, 1) := by decide +kernel
theorem dX12_step_217 : decode cX12_step 217 = .ok (.iaload, 1) := by decide +kernel
theorem dX12_step_218 : decode cX12_step 218 = .ok (.iconst 1, 1) := by decide +kernel
theorem dX12_step_219 : decode cX12_step 219 = .ok (.iadd, 1) := by decide +kernel
theorem dX12_step_220 : decode cX12_step 220 = .ok (.iastore, 1) := by decide +kernel
theorem dX12_step_221 : decode cX12_step 221 = .ok (.goto 335, 3) := by decide +kernel
theorem dX12_step_192 : decode cX12_step 192 = .ok (.aload_n 0, 1) := by decide +kernel
theorem dX12_step_193 : decode cX12_step 193 = .ok (.getfield 164, 3) := by decide +kernel
theorem dX12_step_196 : decode cX12_step 196 = .ok (.sipush 200, 3) := by decide +kernel
theorem dX12_step_199 : decode cX12_step 199 = .ok (.iload_n 1, 1) := by decide +kernel
theorem dX12_step_200 : decode cX12_step 200 = .ok (.imul, 1) := by decide +kernel
theorem dX12_step_201 : decode cX12_step 201 = .ok (.aload_n 0, 1) := by decide +kernel
theorem dX12_step_202 : decode cX12_step 202 = .ok (.getfield 161, 3) := by decide +kernel
theorem dX12_step_205 : decode cX12_step 205 = .ok (.iload_n 1, 1) := by decide +kernel
theorem dX12_step_206 : decode cX12_step 206 = .ok (.iaload, 1) := by decide +kernel
theorem dX12_step_207 : decode cX12_step 207 = .ok (.iadd, 1) := by decide +kernel
theorem dX12_step_208 : decode cX12_step 208 = .ok (.iload 6, 2) := by decide +kernel
theorem dX12_step_210 : decode cX12_step 210 = .ok (.iastore, 1) := by decide +kernel
theorem dX12_step_224 : decode cX12_step 224 = .ok (.aload_n 0, 1) := by decide +kernel
theorem dX12_step_225 : decode cX12_step 225 = .ok (.iload_n 1, 1) := by decide +kernel
theorem dX12_step_226 : decode cX12_step 226 = .ok (.iload_n 2, 1) := by decide +kernel
theorem dX12_step_227 : decode cX12_step 227 = .ok (.iload 6, 2) := by decide +kernel
theorem dX12_step_229 : decode cX12_step 229 = .ok (.invokevirtual 548, 3) := by decide +kernel
theorem dX12_step_232 : decode cX12_step 232 = .ok (.ireturn, 1) := by decide +kernel
theorem dX12_step_233 : decode cX12_step 233 = .ok (.aload_n 0, 1) := by decide +kernel
theorem dX12_step_234 : decode cX12_step 234 = .ok (.getfield 170, 3) := by decide +kernel
theorem dX12_step_237 : decode cX12_step 237 = .ok (.iload_n 2, 1) := by decide +kernel
theorem dX12_step_238 : decode cX12_step 238 = .ok (.aload_n 0, 1) := by decide +kernel
theorem dX12_step_239 : decode cX12_step 239 = .ok (.aload_n 0, 1) := by decide +kernel
theorem dX12_step_240 : decode cX12_step 240 = .ok (.iload_n 1, 1) := by decide +kernel
theorem dX12_step_241 : decode cX12_step 241 = .ok (.invokevirtual 542, 3) := by decide +kernel
theorem dX12_step_244 : decode cX12_step 244 = .ok (.iload_n 3, 1) := by decide +kernel
theorem dX12_step_245 : decode cX12_step 245 = .ok (.iadd, 1) := by decide +kernel
theorem dX12_step_246 : decode cX12_step 246 = .ok (.aload_n 0, 1) := by decide +kernel
theorem dX12_step_247 : decode cX12_step 247 = .ok (.getfield 17, 3) := by decide +kernel
theorem dX12_step_250 : decode cX12_step 250 = .ok (.iload 4, 2) := by decide +kernel
theorem dX12_step_252 : decode cX12_step 252 = .ok (.iaload, 1) := by decide +kernel
theorem dX12_step_253 : decode cX12_step 253 = .ok (.invokevirtual 551, 3) := by decide +kernel
theorem dX12_step_256 : decode cX12_step 256 = .ok (.iastore, 1) := by decide +kernel
theorem dX12_step_257 : decode cX12_step 257 = .ok (.iconst 0, 1) := by decide +kernel
theorem dX12_step_258 : decode cX12_step 258 = .ok (.ireturn, 1) := by decide +kernel
theorem dX12_step_259 : decode cX12_step 259 = .ok (.iload 6, 2) := by decide +kernel
theorem dX12_step_261 : decode cX12_step 261 = .ok (.ifCond .ne 295, 3) := by decide +kernel
theorem dX12_step_264 : decode cX12_step 264 = .ok (.aload_n 0, 1) := by decide +kernel
theorem dX12_step_265 : decode cX12_step 265 = .ok (.getfield 170, 3) := by decide +kernel
theorem dX12_step_268 : decode cX12_step 268 = .ok (.iload_n 2, 1) := by decide +kernel
theorem dX12_step_269 : decode cX12_step 269 = .ok (.aload_n 0, 1) := by decide +kernel
theorem dX12_step_270 : decode cX12_step 270 = .ok (.aload_n 0, 1) := by decide +kernel
theorem dX12_step_271 : decode cX12_step 271 = .ok (.iload_n 1, 1) := by decide +kernel
theorem dX12_step_272 : decode cX12_step 272 = .ok (.invokevirtual 542, 3) := by decide +kernel
theorem dX12_step_275 : decode cX12_step 275 = .ok (.iload_n 3, 1) := by decide +kernel
theorem dX12_step_276 : decode cX12_step 276 = .ok (.iadd, 1) := by decide +kernel
theorem dX12_step_277 : decode cX12_step 277 = .ok (.aload_n 0, 1) := by decide +kernel
theorem dX12_step_278 : decode cX12_step 278 = .ok (.getfield 17, 3) := by decide +kernel
theorem dX12_step_281 : decode cX12_step 281 = .ok (.iload 4, 2) := by decide +kernel
theorem dX12_step_283 : decode cX12_step 283 = .ok (.iaload, 1) := by decide +kernel
theorem dX12_step_284 : decode cX12_step 284 = .ok (.invokevirtual 551, 3) := by decide +kernel
theorem dX12_step_287 : decode cX12_step 287 = .ok (.iastore, 1) := by decide +kernel
theorem dX12_step_288 : decode cX12_step 288 = .ok (.iconst 0, 1) := by decide +kernel
theorem dX12_step_289 : decode cX12_step 289 = .ok (.ireturn, 1) := by decide +kernel
theorem dX12_step_290 : decode cX12_step 290 = .ok (.aload_n 0, 1) := by decide +kernel
theorem dX12_step_291 : decode cX12_step 291 = .ok (.iload_n 1, 1) := by decide +kernel
theorem dX12_step_292 : decode cX12_step 292 = .ok (.invokevirtual 554, 3) := by decide +kernel
theorem dX12_step_295 : decode cX12_step 295 = .ok (.bipush 9, 2) := by decide +kernel
theorem dX12_step_297 : decode cX12_step 297 = .ok (.if_icmp .ne 5, 3) := by decide +kernel
theorem dX12_step_302 : decode cX12_step 302 = .ok (.aload_n 0, 1) := by decide +kernel
theorem dX12_step_303 : decode cX12_step 303 = .ok (.iload_n 1, 1) := by decide +kernel
theorem dX12_step_304 : decode cX12_step 304 = .ok (.aload_n 0, 1) := by decide +kernel
theorem dX12_step_305 : decode cX12_step 305 = .ok (.getfield 20, 3) := by decide +kernel
theorem dX12_step_308 : decode cX12_step 308 = .ok (.iload 4, 2) := by decide +kernel
theorem dX12_step_310 : decode cX12_step 310 = .ok (.iaload, 1) := by decide +kernel
theorem dX12_step_311 : decode cX12_step 311 = .ok (.invokevirtual 536, 3) := by decide +kernel
theorem dX12_step_314 : decode cX12_step 314 = .ok (.iconst 0, 1) := by decide +kernel
theorem dX12_step_315 : decode cX12_step 315 = .ok (.istore 8, 2) := by decide +kernel
theorem dX12_step_395 : decode cX12_step 395 = .ok (.iconst 0, 1) := by decide +kernel
theorem dX12_step_396 : decode cX12_step 396 = .ok (.ireturn, 1) := by decide +kernel
theorem dX12_step_300 : decode cX12_step 300 = .ok (.iconst 3, 1) := by decide +kernel
theorem dX12_step_301 : decode cX12_step 301 = .ok (.ireturn, 1) := by decide +kernel
theorem dX12_step_397 : decode cX12_step 397 = .ok (.aload_n 0, 1) := by decide +kernel
theorem dX12_step_398 : decode cX12_step 398 = .ok (.getfield 176, 3) := by decide +kernel
theorem dX12_step_401 : decode cX12_step 401 = .ok (.bipush 12, 2) := by decide +kernel
theorem dX12_step_403 : decode cX12_step 403 = .ok (.iload_n 2, 1) := by decide +kernel
theorem dX12_step_404 : decode cX12_step 404 = .ok (.imul, 1) := by decide +kernel
theorem dX12_step_405 : decode cX12_step 405 = .ok (.aload_n 0, 1) := by decide +kernel
theorem dX12_step_406 : decode cX12_step 406 = .ok (.getfield 20, 3) := by decide +kernel
theorem dX12_step_409 : decode cX12_step 409 = .ok (.iload 4, 2) := by decide +kernel
theorem dX12_step_411 : decode cX12_step 411 = .ok (.iaload, 1) := by decide +kernel
theorem dX12_step_412 : decode cX12_step 412 = .ok (.iadd, 1) := by decide +kernel
theorem dX12_step_413 : decode cX12_step 413 = .ok (.aload_n 0, 1) := by decide +kernel
theorem dX12_step_414 : decode cX12_step 414 = .ok (.getfield 17, 3) := by decide +kernel
theorem dX12_step_417 : decode cX12_step 417 = .ok (.iload 4, 2) := by decide +kernel
theorem dX12_step_419 : decode cX12_step 419 = .ok (.iaload, 1) := by decide +kernel
theorem dX12_step_420 : decode cX12_step 420 = .ok (.iastore, 1) := by decide +kernel
theorem dX12_step_421 : decode cX12_step 421 = .ok (.iconst 1, 1) := by decide +kernel
theorem dX12_step_422 : decode cX12_step 422 = .ok (.istore 7, 2) := by decide +kernel
theorem dX12_step_424 : decode cX12_step 424 = .ok (.goto 132, 3) := by decide +kernel
theorem dX12_step_499 : decode cX12_step 499 = .ok (.goto 57, 3) := by decide +kernel
theorem dX12_step_427 : decode cX12_step 427 = .ok (.aload_n 0, 1) := by decide +kernel
theorem dX12_step_428 : decode cX12_step 428 = .ok (.iload_n 1, 1) := by decide +kernel
theorem dX12_step_429 : decode cX12_step 429 = .ok (.invokevirtual 554, 3) := by decide +kernel
theorem dX12_step_432 : decode cX12_step 432 = .ok (.bipush 9, 2) := by decide +kernel
theorem dX12_step_434 : decode cX12_step 434 = .ok (.if_icmp .ne 5, 3) := by decide +kernel
theorem dX12_step_439 : decode cX12_step 439 = .ok (.aload_n 0, 1) := by decide +kernel
theorem dX12_step_440 : decode cX12_step 440 = .ok (.getfield 173, 3) := by decide +kernel
theorem dX12_step_443 : decode cX12_step 443 = .ok (.iload_n 2, 1) := by decide +kernel
theorem dX12_step_444 : decode cX12_step 444 = .ok (.aload_n 0, 1) := by decide +kernel
theorem dX12_step_445 : decode cX12_step 445 = .ok (.getfield 17, 3) := by decide +kernel
theorem dX12_step_448 : decode cX12_step 448 = .ok (.iload 4, 2) := by decide +kernel
theorem dX12_step_450 : decode cX12_step 450 = .ok (.iaload, 1) := by decide +kernel
theorem dX12_step_451 : decode cX12_step 451 = .ok (.iastore, 1) := by decide +kernel
theorem dX12_step_452 : decode cX12_step 452 = .ok (.aload_n 0, 1) := by decide +kernel
theorem dX12_step_453 : decode cX12_step 453 = .ok (.getfield 176, 3) := by decide +kernel
theorem dX12_step_456 : decode cX12_step 456 = .ok (.bipush 12, 2) := by decide +kernel
theorem dX12_step_458 : decode cX12_step 458 = .ok (.iload_n 2, 1) := by decide +kernel
theorem dX12_step_459 : decode cX12_step 459 = .ok (.imul, 1) := by decide +kernel
theorem dX12_step_460 : decode cX12_step 460 = .ok (.aload_n 0, 1) := by decide +kernel
theorem dX12_step_461 : decode cX12_step 461 = .ok (.getfield 17, 3) := by decide +kernel
theorem dX12_step_464 : decode cX12_step 464 = .ok (.iload 4, 2) := by decide +kernel
theorem dX12_step_466 : decode cX12_step 466 = .ok (.iaload, 1) := by decide +kernel
theorem dX12_step_467 : decode cX12_step 467 = .ok (.iadd, 1) := by decide +kernel
theorem dX12_step_468 : decode cX12_step 468 = .ok (.iconst 0, 1) := by decide +kernel
theorem dX12_step_469 : decode cX12_step 469 = .ok (.iastore, 1) := by decide +kernel
theorem dX12_step_470 : decode cX12_step 470 = .ok (.goto 86, 3) := by decide +kernel
theorem dX12_step_437 : decode cX12_step 437 = .ok (.iconst 3, 1) := by decide +kernel
theorem dX12_step_438 : decode cX12_step 438 = .ok (.ireturn, 1) := by decide +kernel
theorem dX12_step_473 : decode cX12_step 473 = .ok (.aload_n 0, 1) := by decide +kernel
theorem dX12_step_474 : decode cX12_step 474 = .ok (.getfield 173, 3) := by decide +kernel
theorem dX12_step_477 : decode cX12_step 477 = .ok (.iload_n 2, 1) := by decide +kernel
theorem dX12_step_478 : decode cX12_step 478 = .ok (.aload_n 0, 1) := by decide +kernel
theorem dX12_step_479 : decode cX12_step 479 = .ok (.getfield 50, 3) := by decide +kernel
theorem dX12_step_482 : decode cX12_step 482 = .ok (.bipush 12, 2) := by decide +kernel
theorem dX12_step_484 : decode cX12_step 484 = .ok (.iload_n 3, 1) := by decide +kernel
theorem dX12_step_485 : decode cX12_step 485 = .ok (.imul, 1) := by decide +kernel
theorem dX12_step_486 : decode cX12_step 486 = .ok (.aload_n 0, 1) := by decide +kernel
theorem dX12_step_487 : decode cX12_step 487 = .ok (.getfield 17, 3) := by decide +kernel
theorem dX12_step_490 : decode cX12_step 490 = .ok (.iload 4, 2) := by decide +kernel
theorem dX12_step_492 : decode cX12_step 492 = .ok (.iaload, 1) := by decide +kernel
theorem dX12_step_493 : decode cX12_step 493 = .ok (.iadd, 1) := by decide +kernel
theorem dX12_step_494 : decode cX12_step 494 = .ok (.iaload, 1) := by decide +kernel
theorem dX12_step_495 : decode cX12_step 495 = .ok (.iastore, 1) := by decide +kernel
theorem dX12_step_496 : decode cX12_step 496 = .ok (.goto 60, 3) := by decide +kernel
set_option maxHeartbeats 4000000 in
set_option maxRecDepth 20000 in
theorem c_X12_step (d : Nat) {b : Nat} {σ : MS} {m : Int} (hR : RG σ) (hm2 : 0 ≤ m ∧ m ≤ 2) (hrun : RUN σ m) (hbka : BKA σ m) (hit : ITM σ) (hpar : PAR σ) (hpr : 0 ≤ σ.2.1 76 m ∧ σ.2.1 76 m ≤ 1000000000) : Tm (d + 3) m_X12_step 0 b σ [(0, .ref b), (1, .int (iI m))] [] (fun ro σ2 => ∃ v : Int, ro = some (.int (iI v)) ∧ (Fr [] [73, 75, 76, 77, 78, 79, 80, 81, 82] [] σ σ2) ∧ (RG σ2) ∧ ((v = 3 ∧ σ2 = σ) ∨ (v = 2 ∧ σ2.2.1 73 m = 0) ∨ ((v = 0 ∨ v = 1) ∧ RUN σ2 m)) ∧ (XM m σ σ2) ∧ (σ.2.1 76 m ≤ σ2.2.1 76 m ∧ σ2.2.1 76 m ≤ σ.2.1 76 m + 1) ∧ (STP σ m v σ2)) := by
  have h1 := hrun.1
  have hge := hrun.ge
  have h49 := hrun.2.2.2
  have hR6 := hbka.1
  have hp := hrun.2.1 (9 * m + σ.2.1 73 m - 1) (by omega) (by omega)
  have hbg := hbka.2 _ hp.1.1 hp.1.2
  have hp1 := hp.1
  have hp2 := hp.2.1
  have hb9 := hbg.1
  have hoki := hbg.2.1 _ hp.2.1.1 hp.2.1.2
  have hfr := hp.rng
  have hfm := hbg.2.2.2.2.1
  have hdec := hrun.dec hbka.2 hR6.2
  refine tm_bipush dX12_step_0 (by decide) ?_
  refine tm_iload_n dX12_step_2 rfl 1 rfl ?_
  refine tm_imul dX12_step_3 ?_
  refine tm_aload_n dX12_step_4 rfl 0 rfl ?_
  refine tm_get (k := 73) (v := .ref (b + 1 + 44)) lay_12 dX12_step_5 (by decide) fl12_152 rfl ?_
  refine tm_iload_n dX12_step_8 rfl 1 rfl ?_
  refine tm_iald (z := m) (v := σ.2.1 73 m) dX12_step_9 (show mT[44]? = some (73, 0, 3) from rfl) (by omega) (by omega) (by decide) (rfl) ?_
  have g1 := RG.a hR 73 (m)
  refine tm_iadd dX12_step_10 ?_
  refine tm_iconst dX12_step_11 ?_
  refine tm_isub dX12_step_12 ?_
  refine tm_istore_n (L' := [(2, .int (iI (((9 * m) + (σ.2.1 73 m)) - 1))), (0, .ref b), (1, .int (iI m))]) dX12_step_13 rfl (by decide) rfl ?_
  refine tm_aload_n dX12_step_14 rfl 1 rfl ?_
  refine tm_get (k := 78) (v := .ref (b + 1 + 49)) lay_12 dX12_step_15 (by decide) fl12_167 rfl ?_
  refine tm_iload_n dX12_step_18 rfl 0 rfl ?_
  refine tm_iald (z := ((9 * m) + (σ.2.1 73 m)) - 1) (v := σ.2.1 78 (((9 * m) + (σ.2.1 73 m)) - 1)) dX12_step_19 (show mT[49]? = some (78, 0, 27) from rfl) (by omega) (by omega) (by decide) (rfl) ?_
  have g2 := RG.a hR 78 (((9 * m) + (σ.2.1 73 m)) - 1)
  refine tm_istore_n (L' := [(3, .int (iI (σ.2.1 78 (((9 * m) + (σ.2.1 73 m)) - 1)))), (2, .int (iI (((9 * m) + (σ.2.1 73 m)) - 1))), (0, .ref b), (1, .int (iI m))]) dX12_step_20 rfl (by decide) rfl ?_
  refine tm_aload_n dX12_step_21 rfl 2 rfl ?_
  refine tm_aload_n dX12_step_22 rfl 2 rfl ?_
  refine tm_iload_n dX12_step_23 rfl 3 rfl ?_
  refine tm_callV (M := m_X12_step) (pc := 24) (ix := 542) (M' := m_X12_bank) (As := [.int (iI m)]) (rest := [.ref b]) dX12_step_24 ok_X12_bank im_X12_bank se_X12_bank ml12_542 np_X12_bank rfl rfl (Nat.le_of_ble_eq_true rfl) (Nat.le_of_ble_eq_true rfl) rfl (c_X12_bank (d + 1) (σ := σ) (m := m) (by omega)) (fun r3 σ4 hp => ?_)
  obtain ⟨v5, rfl, rfl, f6, f7, f8⟩ := hp
  show Tm _ _ 27 b σ [(3, .int (iI (σ.2.1 78 (((9 * m) + (σ.2.1 73 m)) - 1)))), (2, .int (iI (((9 * m) + (σ.2.1 73 m)) - 1))), (0, .ref b), (1, .int (iI m))] [.int (iI v5), .ref b] _
  have hbv : v5 = bkm m := bkm_2 f7 f8
  have vb6 : v5 = 0 ∨ v5 = 6 := f6
  have hkd : kdm σ m (σ.2.1 78 (9 * m + σ.2.1 73 m - 1)) (σ.2.1 79 (9 * m + σ.2.1 73 m - 1)) = σ.2.1 3 (220 * (v5 + σ.2.1 78 (9 * m + σ.2.1 73 m - 1)) + σ.2.1 79 (9 * m + σ.2.1 73 m - 1)) := by unfold kdm; rw [hbv]
  have hds : dsm σ m (σ.2.1 78 (9 * m + σ.2.1 73 m - 1)) (σ.2.1 79 (9 * m + σ.2.1 73 m - 1)) = σ.2.1 4 (220 * (v5 + σ.2.1 78 (9 * m + σ.2.1 73 m - 1)) + σ.2.1 79 (9 * m + σ.2.1 73 m - 1)) := by unfold dsm; rw [hbv]
  have hpc := fun e => hp.call hbg e
  have hlx := hbg.2.2.1
  rw [← hbv] at hp2 hb9 hoki hlx hpc
  have hk15 := hoki.1
  have ho8 := hoki.2.2.2.2.2.2.2.1
  have ho80 := (ho8 0 (by decide) (by decide)).1
  have ho82 := (ho8 0 (by decide) (by decide)).2
  rw [Int.add_zero] at ho80 ho82
  refine tm_iload_n dX12_step_27 rfl 0 rfl ?_
  refine tm_iadd dX12_step_28 ?_
  refine tm_aload_n dX12_step_29 rfl 2 rfl ?_
  refine tm_get (k := 79) (v := .ref (b + 1 + 50)) lay_12 dX12_step_30 (by decide) fl12_170 rfl ?_
  refine tm_iload_n dX12_step_33 rfl 1 rfl ?_
  refine tm_iald (z := ((9 * m) + (σ.2.1 73 m)) - 1) (v := σ.2.1 79 (((9 * m) + (σ.2.1 73 m)) - 1)) dX12_step_34 (show mT[50]? = some (79, 0, 27) from rfl) (by omega) (by omega) (by decide) (rfl) ?_
  have g9 := RG.a hR 79 (((9 * m) + (σ.2.1 73 m)) - 1)
  refine tm_callV (M := m_X12_step) (pc := 35) (ix := 203) (M' := m_X12_at) (As := [.int (iI (v5 + (σ.2.1 78 (((9 * m) + (σ.2.1 73 m)) - 1)))), .int (iI (σ.2.1 79 (((9 * m) + (σ.2.1 73 m)) - 1)))]) (rest := []) dX12_step_35 ok_X12_at im_X12_at se_X12_at ml12_203 np_X12_at rfl rfl (Nat.le_of_ble_eq_true rfl) (Nat.le_of_ble_eq_true rfl) rfl (c_X12_at (d + 1) (σ := σ) (x := v5 + (σ.2.1 78 (((9 * m) + (σ.2.1 73 m)) - 1))) (k := σ.2.1 79 (((9 * m) + (σ.2.1 73 m)) - 1)) ) (fun r10 σ11 hp => ?_)
  obtain ⟨v12, rfl, rfl, f13⟩ := hp
  subst f13
  show Tm _ _ 38 b σ [(3, .int (iI (σ.2.1 78 (((9 * m) + (σ.2.1 73 m)) - 1)))), (2, .int (iI (((9 * m) + (σ.2.1 73 m)) - 1))), (0, .ref b), (1, .int (iI m))] [.int (iI (220 * (v5 + (σ.2.1 78 (((9 * m) + (σ.2.1 73 m)) - 1))) + (σ.2.1 79 (((9 * m) + (σ.2.1 73 m)) - 1))))] _
  refine tm_istore (L' := [(4, .int (iI (220 * (v5 + (σ.2.1 78 (((9 * m) + (σ.2.1 73 m)) - 1))) + (σ.2.1 79 (((9 * m) + (σ.2.1 73 m)) - 1))))), (3, .int (iI (σ.2.1 78 (((9 * m) + (σ.2.1 73 m)) - 1)))), (2, .int (iI (((9 * m) + (σ.2.1 73 m)) - 1))), (0, .ref b), (1, .int (iI m))]) dX12_step_38 (by decide) rfl ?_
  refine tm_sipush dX12_step_40 (by decide) ?_
  refine tm_iload_n dX12_step_43 rfl 2 rfl ?_
  refine tm_imul dX12_step_44 ?_
  refine tm_istore (L' := [(5, .int (iI (192 * (((9 * m) + (σ.2.1 73 m)) - 1)))), (4, .int (iI (220 * (v5 + (σ.2.1 78 (((9 * m) + (σ.2.1 73 m)) - 1))) + (σ.2.1 79 (((9 * m) + (σ.2.1 73 m)) - 1))))), (3, .int (iI (σ.2.1 78 (((9 * m) + (σ.2.1 73 m)) - 1)))), (2, .int (iI (((9 * m) + (σ.2.1 73 m)) - 1))), (0, .ref b), (1, .int (iI m))]) dX12_step_45 (by decide) rfl ?_
  refine tm_aload_n dX12_step_47 rfl 4 rfl ?_
  refine tm_iload_n dX12_step_48 rfl 3 rfl ?_
  refine tm_aload_n dX12_step_49 rfl 4 rfl ?_
  refine tm_get (k := 7) (v := .ref (b + 1 + 5)) lay_12 dX12_step_50 (by decide) fl12_26 rfl ?_
  refine tm_iconst dX12_step_53 ?_
  refine tm_iload dX12_step_54 1 rfl ?_
  refine tm_imul dX12_step_56 ?_
  refine tm_iald (z := 4 * (220 * (v5 + (σ.2.1 78 (((9 * m) + (σ.2.1 73 m)) - 1))) + (σ.2.1 79 (((9 * m) + (σ.2.1 73 m)) - 1)))) (v := σ.2.1 7 (4 * (220 * (v5 + (σ.2.1 78 (((9 * m) + (σ.2.1 73 m)) - 1))) + (σ.2.1 79 (((9 * m) + (σ.2.1 73 m)) - 1))))) dX12_step_57 (show mT[5]? = some (7, 0, 11440) from rfl) (by omega) (by omega) (by decide) (rfl) ?_
  have g14 := RG.a hR 7 (4 * (220 * (v5 + (σ.2.1 78 (((9 * m) + (σ.2.1 73 m)) - 1))) + (σ.2.1 79 (((9 * m) + (σ.2.1 73 m)) - 1))))
  refine tm_aload_n dX12_step_58 rfl 4 rfl ?_
  refine tm_get (k := 8) (v := .ref (b + 1 + 6)) lay_12 dX12_step_59 (by decide) fl12_29 rfl ?_
  refine tm_iconst dX12_step_62 ?_
  refine tm_iload dX12_step_63 1 rfl ?_
  refine tm_imul dX12_step_65 ?_
  refine tm_iald (z := 4 * (220 * (v5 + (σ.2.1 78 (((9 * m) + (σ.2.1 73 m)) - 1))) + (σ.2.1 79 (((9 * m) + (σ.2.1 73 m)) - 1)))) (v := σ.2.1 8 (4 * (220 * (v5 + (σ.2.1 78 (((9 * m) + (σ.2.1 73 m)) - 1))) + (σ.2.1 79 (((9 * m) + (σ.2.1 73 m)) - 1))))) dX12_step_66 (show mT[6]? = some (8, 0, 11440) from rfl) (by omega) (by omega) (by decide) (rfl) ?_
  have g15 := RG.a hR 8 (4 * (220 * (v5 + (σ.2.1 78 (((9 * m) + (σ.2.1 73 m)) - 1))) + (σ.2.1 79 (((9 * m) + (σ.2.1 73 m)) - 1))))
  refine tm_callV (M := m_X12_step) (pc := 67) (ix := 545) (M' := m_X12_worth) (As := [.int (iI (((9 * m) + (σ.2.1 73 m)) - 1)), .int (iI (σ.2.1 7 (4 * (220 * (v5 + (σ.2.1 78 (((9 * m) + (σ.2.1 73 m)) - 1))) + (σ.2.1 79 (((9 * m) + (σ.2.1 73 m)) - 1)))))), .int (iI (σ.2.1 8 (4 * (220 * (v5 + (σ.2.1 78 (((9 * m) + (σ.2.1 73 m)) - 1))) + (σ.2.1 79 (((9 * m) + (σ.2.1 73 m)) - 1))))))]) (rest := []) dX12_step_67 ok_X12_worth im_X12_worth se_X12_worth ml12_545 np_X12_worth rfl rfl (Nat.le_of_ble_eq_true rfl) (Nat.le_of_ble_eq_true rfl) rfl (c_X12_worth (d + 1) (σ := σ) (c := ((9 * m) + (σ.2.1 73 m)) - 1) (k := σ.2.1 7 (4 * (220 * (v5 + (σ.2.1 78 (((9 * m) + (σ.2.1 73 m)) - 1))) + (σ.2.1 79 (((9 * m) + (σ.2.1 73 m)) - 1))))) (w := σ.2.1 8 (4 * (220 * (v5 + (σ.2.1 78 (((9 * m) + (σ.2.1 73 m)) - 1))) + (σ.2.1 79 (((9 * m) + (σ.2.1 73 m)) - 1))))) (by omega) hR (by omega) (by omega)) (fun r16 σ17 hp => ?_)
  obtain ⟨v18, rfl, rfl, f19⟩ := hp
  show Tm _ _ 70 b σ [(5, .int (iI (192 * (((9 * m) + (σ.2.1 73 m)) - 1)))), (4, .int (iI (220 * (v5 + (σ.2.1 78 (((9 * m) + (σ.2.1 73 m)) - 1))) + (σ.2.1 79 (((9 * m) + (σ.2.1 73 m)) - 1))))), (3, .int (iI (σ.2.1 78 (((9 * m) + (σ.2.1 73 m)) - 1)))), (2, .int (iI (((9 * m) + (σ.2.1 73 m)) - 1))), (0, .ref b), (1, .int (iI m))] [.int (iI v18)] _
  refine tm_istore (L' := [(6, .int (iI v18)), (5, .int (iI (192 * (((9 * m) + (σ.2.1 73 m)) - 1)))), (4, .int (iI (220 * (v5 + (σ.2.1 78 (((9 * m) + (σ.2.1 73 m)) - 1))) + (σ.2.1 79 (((9 * m) + (σ.2.1 73 m)) - 1))))), (3, .int (iI (σ.2.1 78 (((9 * m) + (σ.2.1 73 m)) - 1)))), (2, .int (iI (((9 * m) + (σ.2.1 73 m)) - 1))), (0, .ref b), (1, .int (iI m))]) dX12_step_70 (by decide) rfl ?_
  clear ho82
  refine tm_iconst dX12_step_72 ?_
  refine tm_istore (L' := [(7, .int (iI 0)), (6, .int (iI v18)), (5, .int (iI (192 * (((9 * m) + (σ.2.1 73 m)) - 1)))), (4, .int (iI (220 * (v5 + (σ.2.1 78 (((9 * m) + (σ.2.1 73 m)) - 1))) + (σ.2.1 79 (((9 * m) + (σ.2.1 73 m)) - 1))))), (3, .int (iI (σ.2.1 78 (((9 * m) + (σ.2.1 73 m)) - 1)))), (2, .int (iI (((9 * m) + (σ.2.1 73 m)) - 1))), (0, .ref b), (1, .int (iI m))]) dX12_step_73 (by decide) rfl ?_
  refine tm_aload_n dX12_step_75 rfl 6 rfl ?_
  refine tm_get (k := 3) (v := .ref (b + 1 + 1)) lay_12 dX12_step_76 (by decide) fl12_13 rfl ?_
  refine tm_iload dX12_step_79 3 rfl ?_
  refine tm_iald (z := 220 * (v5 + (σ.2.1 78 (((9 * m) + (σ.2.1 73 m)) - 1))) + (σ.2.1 79 (((9 * m) + (σ.2.1 73 m)) - 1))) (v := σ.2.1 3 (220 * (v5 + (σ.2.1 78 (((9 * m) + (σ.2.1 73 m)) - 1))) + (σ.2.1 79 (((9 * m) + (σ.2.1 73 m)) - 1)))) dX12_step_81 (show mT[1]? = some (3, 0, 2860) from rfl) (by omega) (by omega) (by decide) (rfl) ?_
  have g20 := RG.a hR 3 (220 * (v5 + (σ.2.1 78 (((9 * m) + (σ.2.1 73 m)) - 1))) + (σ.2.1 79 (((9 * m) + (σ.2.1 73 m)) - 1)))
  by_cases h21 : σ.2.1 3 (220 * (v5 + (σ.2.1 78 (((9 * m) + (σ.2.1 73 m)) - 1))) + (σ.2.1 79 (((9 * m) + (σ.2.1 73 m)) - 1))) < 0 ∨ 15 < σ.2.1 3 (220 * (v5 + (σ.2.1 78 (((9 * m) + (σ.2.1 73 m)) - 1))) + (σ.2.1 79 (((9 * m) + (σ.2.1 73 m)) - 1)))
  · refine tm_tableOut (tgt := 502) dX12_step_82 ⟨by omega, by omega⟩ h21 (by decide) ?_
    have ho2 := hoki.2.1 (Or.inl (by omega))
    have ho81 := ho8 1 (by decide) (by decide)
    refine tm_aload_n dX12_step_502 rfl 6 rfl ?_
    refine tm_get (k := 82) (v := .ref (b + 1 + 53)) lay_12 dX12_step_503 (by decide) fl12_179 rfl ?_
    refine tm_iload dX12_step_506 2 rfl ?_
    refine tm_aload_n dX12_step_508 rfl 6 rfl ?_
    refine tm_get (k := 4) (v := .ref (b + 1 + 2)) lay_12 dX12_step_509 (by decide) fl12_17 rfl ?_
    refine tm_iload dX12_step_512 3 rfl ?_
    refine tm_iald (z := 220 * (v5 + (σ.2.1 78 (((9 * m) + (σ.2.1 73 m)) - 1))) + (σ.2.1 79 (((9 * m) + (σ.2.1 73 m)) - 1))) (v := σ.2.1 4 (220 * (v5 + (σ.2.1 78 (((9 * m) + (σ.2.1 73 m)) - 1))) + (σ.2.1 79 (((9 * m) + (σ.2.1 73 m)) - 1)))) dX12_step_514 (show mT[2]? = some (4, 0, 2860) from rfl) (by omega) (by omega) (by decide) (rfl) ?_
    have g22 := RG.a hR 4 (220 * (v5 + (σ.2.1 78 (((9 * m) + (σ.2.1 73 m)) - 1))) + (σ.2.1 79 (((9 * m) + (σ.2.1 73 m)) - 1)))
    refine tm_iadd dX12_step_515 ?_
    refine tm_aload_n dX12_step_516 rfl 6 rfl ?_
    refine tm_get (k := 3) (v := .ref (b + 1 + 1)) lay_12 dX12_step_517 (by decide) fl12_13 rfl ?_
    refine tm_iload dX12_step_520 3 rfl ?_
    refine tm_iald (z := 220 * (v5 + (σ.2.1 78 (((9 * m) + (σ.2.1 73 m)) - 1))) + (σ.2.1 79 (((9 * m) + (σ.2.1 73 m)) - 1))) (v := σ.2.1 3 (220 * (v5 + (σ.2.1 78 (((9 * m) + (σ.2.1 73 m)) - 1))) + (σ.2.1 79 (((9 * m) + (σ.2.1 73 m)) - 1)))) dX12_step_522 (show mT[1]? = some (3, 0, 2860) from rfl) (by omega) (by omega) (by decide) (rfl) ?_
    have g23 := RG.a hR 3 (220 * (v5 + (σ.2.1 78 (((9 * m) + (σ.2.1 73 m)) - 1))) + (σ.2.1 79 (((9 * m) + (σ.2.1 73 m)) - 1)))
    refine tm_iload dX12_step_523 1 rfl ?_
    refine tm_aload_n dX12_step_525 rfl 6 rfl ?_
    refine tm_iload_n dX12_step_526 rfl 5 rfl ?_
    refine tm_aload_n dX12_step_527 rfl 6 rfl ?_
    refine tm_get (k := 7) (v := .ref (b + 1 + 5)) lay_12 dX12_step_528 (by decide) fl12_26 rfl ?_
    refine tm_iconst dX12_step_531 ?_
    refine tm_iload dX12_step_532 3 rfl ?_
    refine tm_imul dX12_step_534 ?_
    refine tm_iconst dX12_step_535 ?_
    refine tm_iadd dX12_step_536 ?_
    refine tm_iald (z := (4 * (220 * (v5 + (σ.2.1 78 (((9 * m) + (σ.2.1 73 m)) - 1))) + (σ.2.1 79 (((9 * m) + (σ.2.1 73 m)) - 1)))) + 1) (v := σ.2.1 7 ((4 * (220 * (v5 + (σ.2.1 78 (((9 * m) + (σ.2.1 73 m)) - 1))) + (σ.2.1 79 (((9 * m) + (σ.2.1 73 m)) - 1)))) + 1)) dX12_step_537 (show mT[5]? = some (7, 0, 11440) from rfl) (by omega) (by omega) (by decide) (rfl) ?_
    have g24 := RG.a hR 7 ((4 * (220 * (v5 + (σ.2.1 78 (((9 * m) + (σ.2.1 73 m)) - 1))) + (σ.2.1 79 (((9 * m) + (σ.2.1 73 m)) - 1)))) + 1)
    refine tm_aload_n dX12_step_538 rfl 6 rfl ?_
    refine tm_get (k := 8) (v := .ref (b + 1 + 6)) lay_12 dX12_step_539 (by decide) fl12_29 rfl ?_
    refine tm_iconst dX12_step_542 ?_
    refine tm_iload dX12_step_543 3 rfl ?_
    refine tm_imul dX12_step_545 ?_
    refine tm_iconst dX12_step_546 ?_
    refine tm_iadd dX12_step_547 ?_
    refine tm_iald (z := (4 * (220 * (v5 + (σ.2.1 78 (((9 * m) + (σ.2.1 73 m)) - 1))) + (σ.2.1 79 (((9 * m) + (σ.2.1 73 m)) - 1)))) + 1) (v := σ.2.1 8 ((4 * (220 * (v5 + (σ.2.1 78 (((9 * m) + (σ.2.1 73 m)) - 1))) + (σ.2.1 79 (((9 * m) + (σ.2.1 73 m)) - 1)))) + 1)) dX12_step_548 (show mT[6]? = some (8, 0, 11440) from rfl) (by omega) (by omega) (by decide) (rfl) ?_
    have g25 := RG.a hR 8 ((4 * (220 * (v5 + (σ.2.1 78 (((9 * m) + (σ.2.1 73 m)) - 1))) + (σ.2.1 79 (((9 * m) + (σ.2.1 73 m)) - 1)))) + 1)
    refine tm_callV (M := m_X12_step) (pc := 549) (ix := 545) (M' := m_X12_worth) (As := [.int (iI (((9 * m) + (σ.2.1 73 m)) - 1)), .int (iI (σ.2.1 7 ((4 * (220 * (v5 + (σ.2.1 78 (((9 * m) + (σ.2.1 73 m)) - 1))) + (σ.2.1 79 (((9 * m) + (σ.2.1 73 m)) - 1)))) + 1))), .int (iI (σ.2.1 8 ((4 * (220 * (v5 + (σ.2.1 78 (((9 * m) + (σ.2.1 73 m)) - 1))) + (σ.2.1 79 (((9 * m) + (σ.2.1 73 m)) - 1)))) + 1)))]) (rest := [.int (iI v18), .int (iI (σ.2.1 3 (220 * (v5 + (σ.2.1 78 (((9 * m) + (σ.2.1 73 m)) - 1))) + (σ.2.1 79 (((9 * m) + (σ.2.1 73 m)) - 1))))), .int (iI ((192 * (((9 * m) + (σ.2.1 73 m)) - 1)) + (σ.2.1 4 (220 * (v5 + (σ.2.1 78 (((9 * m) + (σ.2.1 73 m)) - 1))) + (σ.2.1 79 (((9 * m) + (σ.2.1 73 m)) - 1)))))), .ref (b + 1 + 53)]) dX12_step_549 ok_X12_worth im_X12_worth se_X12_worth ml12_545 np_X12_worth rfl rfl (Nat.le_of_ble_eq_true rfl) (Nat.le_of_ble_eq_true rfl) rfl (c_X12_worth (d + 1) (σ := σ) (c := ((9 * m) + (σ.2.1 73 m)) - 1) (k := σ.2.1 7 ((4 * (220 * (v5 + (σ.2.1 78 (((9 * m) + (σ.2.1 73 m)) - 1))) + (σ.2.1 79 (((9 * m) + (σ.2.1 73 m)) - 1)))) + 1)) (w := σ.2.1 8 ((4 * (220 * (v5 + (σ.2.1 78 (((9 * m) + (σ.2.1 73 m)) - 1))) + (σ.2.1 79 (((9 * m) + (σ.2.1 73 m)) - 1)))) + 1)) (by omega) hR (by omega) (by omega)) (fun r26 σ27 hp => ?_)
    obtain ⟨v28, rfl, rfl, f29⟩ := hp
    show Tm _ _ 552 b σ [(7, .int (iI 0)), (6, .int (iI v18)), (5, .int (iI (192 * (((9 * m) + (σ.2.1 73 m)) - 1)))), (4, .int (iI (220 * (v5 + (σ.2.1 78 (((9 * m) + (σ.2.1 73 m)) - 1))) + (σ.2.1 79 (((9 * m) + (σ.2.1 73 m)) - 1))))), (3, .int (iI (σ.2.1 78 (((9 * m) + (σ.2.1 73 m)) - 1)))), (2, .int (iI (((9 * m) + (σ.2.1 73 m)) - 1))), (0, .ref b), (1, .int (iI m))] [.int (iI v28), .int (iI v18), .int (iI (σ.2.1 3 (220 * (v5 + (σ.2.1 78 (((9 * m) + (σ.2.1 73 m)) - 1))) + (σ.2.1 79 (((9 * m) + (σ.2.1 73 m)) - 1))))), .int (iI ((192 * (((9 * m) + (σ.2.1 73 m)) - 1)) + (σ.2.1 4 (220 * (v5 + (σ.2.1 78 (((9 * m) + (σ.2.1 73 m)) - 1))) + (σ.2.1 79 (((9 * m) + (σ.2.1 73 m)) - 1)))))), .ref (b + 1 + 53)] _
    refine tm_callS (M := m_X12_step) (pc := 552) (ix := 466) (M' := m_X12_worked) (As := [.int (iI (σ.2.1 3 (220 * (v5 + (σ.2.1 78 (((9 * m) + (σ.2.1 73 m)) - 1))) + (σ.2.1 79 (((9 * m) + (σ.2.1 73 m)) - 1))))), .int (iI v18), .int (iI v28)]) (rest := [.int (iI ((192 * (((9 * m) + (σ.2.1 73 m)) - 1)) + (σ.2.1 4 (220 * (v5 + (σ.2.1 78 (((9 * m) + (σ.2.1 73 m)) - 1))) + (σ.2.1 79 (((9 * m) + (σ.2.1 73 m)) - 1)))))), .ref (b + 1 + 53)]) dX12_step_552 ok_X12_worked stt_X12_worked ml12_466 np_X12_worked rfl (Nat.le_of_ble_eq_true rfl) (Nat.le_of_ble_eq_true rfl) rfl (c_X12_worked (d + 1) (σ := σ) (k := σ.2.1 3 (220 * (v5 + (σ.2.1 78 (((9 * m) + (σ.2.1 73 m)) - 1))) + (σ.2.1 79 (((9 * m) + (σ.2.1 73 m)) - 1)))) (x := v18) (y := v28) (by omega) (by omega) (by omega)) (fun r30 σ31 hp => ?_)
    obtain ⟨v32, rfl, rfl, f33⟩ := hp
    show Tm _ _ 555 b σ [(7, .int (iI 0)), (6, .int (iI v18)), (5, .int (iI (192 * (((9 * m) + (σ.2.1 73 m)) - 1)))), (4, .int (iI (220 * (v5 + (σ.2.1 78 (((9 * m) + (σ.2.1 73 m)) - 1))) + (σ.2.1 79 (((9 * m) + (σ.2.1 73 m)) - 1))))), (3, .int (iI (σ.2.1 78 (((9 * m) + (σ.2.1 73 m)) - 1)))), (2, .int (iI (((9 * m) + (σ.2.1 73 m)) - 1))), (0, .ref b), (1, .int (iI m))] [.int (iI v32), .int (iI ((192 * (((9 * m) + (σ.2.1 73 m)) - 1)) + (σ.2.1 4 (220 * (v5 + (σ.2.1 78 (((9 * m) + (σ.2.1 73 m)) - 1))) + (σ.2.1 79 (((9 * m) + (σ.2.1 73 m)) - 1)))))), .ref (b + 1 + 53)] _
    refine tm_iast (z := (192 * (((9 * m) + (σ.2.1 73 m)) - 1)) + (σ.2.1 4 (220 * (v5 + (σ.2.1 78 (((9 * m) + (σ.2.1 73 m)) - 1))) + (σ.2.1 79 (((9 * m) + (σ.2.1 73 m)) - 1))))) (v := v32) dX12_step_555 (show mT[53]? = some (82, 0, 5184) from rfl) (by omega) (by omega) (by decide) ?_
    refine tm_aload_n dX12_step_556 rfl 6 rfl ?_
    refine tm_get (k := 79) (v := .ref (b + 1 + 50)) lay_12 dX12_step_557 (by decide) fl12_170 rfl ?_
    refine tm_iload_n dX12_step_560 rfl 5 rfl ?_
    refine tm_dup2 dX12_step_561 rfl rfl ?_
    refine tm_iald (z := ((9 * m) + (σ.2.1 73 m)) - 1) (v := σ.2.1 79 (((9 * m) + (σ.2.1 73 m)) - 1)) dX12_step_562 (show mT[50]? = some (79, 0, 27) from rfl) (by omega) (by omega) (by decide) (ra_o (by decide) (rfl)) ?_
    have g34 := RG.a hR 79 (((9 * m) + (σ.2.1 73 m)) - 1)
    refine tm_iconst dX12_step_563 ?_
    refine tm_iadd dX12_step_564 ?_
    refine tm_iast (z := ((9 * m) + (σ.2.1 73 m)) - 1) (v := (σ.2.1 79 (((9 * m) + (σ.2.1 73 m)) - 1)) + 1) dX12_step_565 (show mT[50]? = some (79, 0, 27) from rfl) (by omega) (by omega) (by decide) ?_
    refine tm_iload dX12_step_566 0 rfl ?_
    exact tm_iret rfl dX12_step_568 (⟨_, rfl, ((Fr.rfl.A (by decide)).A (by decide)), ((hR.A (by omega)).A (by omega)), Or.inr (Or.inr ⟨by omega, hrun.top (t := 9 * m + σ.2.1 73 m - 1) rfl (show Fr [] [79, 82] [] σ (sA 79 (((9 * m) + (σ.2.1 73 m)) - 1) ((σ.2.1 79 (((9 * m) + (σ.2.1 73 m)) - 1)) + 1) (sA 82 ((192 * (((9 * m) + (σ.2.1 73 m)) - 1)) + (σ.2.1 4 (220 * (v5 + (σ.2.1 78 (((9 * m) + (σ.2.1 73 m)) - 1))) + (σ.2.1 79 (((9 * m) + (σ.2.1 73 m)) - 1))))) (v32) σ)) from ((Fr.rfl.A (by decide)).A (by decide))) (by decide) (by decide) rfl (fun _ _ _ => rfl) (fun z a b => ⟨ra_ne (by omega) rfl, rfl⟩) (by rw [show (sA 79 (((9 * m) + (σ.2.1 73 m)) - 1) ((σ.2.1 79 (((9 * m) + (σ.2.1 73 m)) - 1)) + 1) (sA 82 ((192 * (((9 * m) + (σ.2.1 73 m)) - 1)) + (σ.2.1 4 (220 * (v5 + (σ.2.1 78 (((9 * m) + (σ.2.1 73 m)) - 1))) + (σ.2.1 79 (((9 * m) + (σ.2.1 73 m)) - 1))))) (v32) σ)).2.1 79 (9 * m + σ.2.1 73 m - 1) = (σ.2.1 79 (((9 * m) + (σ.2.1 73 m)) - 1)) + 1 from ra_eq, show (sA 79 (((9 * m) + (σ.2.1 73 m)) - 1) ((σ.2.1 79 (((9 * m) + (σ.2.1 73 m)) - 1)) + 1) (sA 82 ((192 * (((9 * m) + (σ.2.1 73 m)) - 1)) + (σ.2.1 4 (220 * (v5 + (σ.2.1 78 (((9 * m) + (σ.2.1 73 m)) - 1))) + (σ.2.1 79 (((9 * m) + (σ.2.1 73 m)) - 1))))) (v32) σ)).2.1 80 (9 * m + σ.2.1 73 m - 1) = σ.2.1 80 (9 * m + σ.2.1 73 m - 1) from rfl]; exact hp.nx (by omega) (by omega) (by omega) (by omega)) (by rw [show (sA 79 (((9 * m) + (σ.2.1 73 m)) - 1) ((σ.2.1 79 (((9 * m) + (σ.2.1 73 m)) - 1)) + 1) (sA 82 ((192 * (((9 * m) + (σ.2.1 73 m)) - 1)) + (σ.2.1 4 (220 * (v5 + (σ.2.1 78 (((9 * m) + (σ.2.1 73 m)) - 1))) + (σ.2.1 79 (((9 * m) + (σ.2.1 73 m)) - 1))))) (v32) σ)).2.1 80 (9 * m + σ.2.1 73 m - 1) = σ.2.1 80 (9 * m + σ.2.1 73 m - 1) from rfl]; omega)⟩), ⟨fun j hj => ⟨rfl, rfl⟩, fun z hz => ⟨rfl, ra_ne (by omega) rfl, rfl⟩⟩, ⟨Int.le_refl _, (by show σ.2.1 76 m ≤ σ.2.1 76 m + 1; omega)⟩, fun _ => Or.inl ⟨by omega, by omega, rfl, fun _ => rfl, fun z hz => ra_ne hz rfl, Or.inl (by rw [show (sA 79 (((9 * m) + (σ.2.1 73 m)) - 1) ((σ.2.1 79 (((9 * m) + (σ.2.1 73 m)) - 1)) + 1) (sA 82 ((192 * (((9 * m) + (σ.2.1 73 m)) - 1)) + (σ.2.1 4 (220 * (v5 + (σ.2.1 78 (((9 * m) + (σ.2.1 73 m)) - 1))) + (σ.2.1 79 (((9 * m) + (σ.2.1 73 m)) - 1))))) (v32) σ)).2.1 79 (9 * m + σ.2.1 73 m - 1) = (σ.2.1 79 (((9 * m) + (σ.2.1 73 m)) - 1)) + 1 from ra_eq])⟩⟩)
  · have h21c : σ.2.1 3 (220 * (v5 + (σ.2.1 78 (((9 * m) + (σ.2.1 73 m)) - 1))) + (σ.2.1 79 (((9 * m) + (σ.2.1 73 m)) - 1))) = 0 ∨ σ.2.1 3 (220 * (v5 + (σ.2.1 78 (((9 * m) + (σ.2.1 73 m)) - 1))) + (σ.2.1 79 (((9 * m) + (σ.2.1 73 m)) - 1))) = 1 ∨ σ.2.1 3 (220 * (v5 + (σ.2.1 78 (((9 * m) + (σ.2.1 73 m)) - 1))) + (σ.2.1 79 (((9 * m) + (σ.2.1 73 m)) - 1))) = 2 ∨ σ.2.1 3 (220 * (v5 + (σ.2.1 78 (((9 * m) + (σ.2.1 73 m)) - 1))) + (σ.2.1 79 (((9 * m) + (σ.2.1 73 m)) - 1))) = 3 ∨ σ.2.1 3 (220 * (v5 + (σ.2.1 78 (((9 * m) + (σ.2.1 73 m)) - 1))) + (σ.2.1 79 (((9 * m) + (σ.2.1 73 m)) - 1))) = 4 ∨ σ.2.1 3 (220 * (v5 + (σ.2.1 78 (((9 * m) + (σ.2.1 73 m)) - 1))) + (σ.2.1 79 (((9 * m) + (σ.2.1 73 m)) - 1))) = 5 ∨ σ.2.1 3 (220 * (v5 + (σ.2.1 78 (((9 * m) + (σ.2.1 73 m)) - 1))) + (σ.2.1 79 (((9 * m) + (σ.2.1 73 m)) - 1))) = 6 ∨ σ.2.1 3 (220 * (v5 + (σ.2.1 78 (((9 * m) + (σ.2.1 73 m)) - 1))) + (σ.2.1 79 (((9 * m) + (σ.2.1 73 m)) - 1))) = 7 ∨ σ.2.1 3 (220 * (v5 + (σ.2.1 78 (((9 * m) + (σ.2.1 73 m)) - 1))) + (σ.2.1 79 (((9 * m) + (σ.2.1 73 m)) - 1))) = 8 ∨ σ.2.1 3 (220 * (v5 + (σ.2.1 78 (((9 * m) + (σ.2.1 73 m)) - 1))) + (σ.2.1 79 (((9 * m) + (σ.2.1 73 m)) - 1))) = 9 ∨ σ.2.1 3 (220 * (v5 + (σ.2.1 78 (((9 * m) + (σ.2.1 73 m)) - 1))) + (σ.2.1 79 (((9 * m) + (σ.2.1 73 m)) - 1))) = 10 ∨ σ.2.1 3 (220 * (v5 + (σ.2.1 78 (((9 * m) + (σ.2.1 73 m)) - 1))) + (σ.2.1 79 (((9 * m) + (σ.2.1 73 m)) - 1))) = 11 ∨ σ.2.1 3 (220 * (v5 + (σ.2.1 78 (((9 * m) + (σ.2.1 73 m)) - 1))) + (σ.2.1 79 (((9 * m) + (σ.2.1 73 m)) - 1))) = 12 ∨ σ.2.1 3 (220 * (v5 + (σ.2.1 78 (((9 * m) + (σ.2.1 73 m)) - 1))) + (σ.2.1 79 (((9 * m) + (σ.2.1 73 m)) - 1))) = 13 ∨ σ.2.1 3 (220 * (v5 + (σ.2.1 78 (((9 * m) + (σ.2.1 73 m)) - 1))) + (σ.2.1 79 (((9 * m) + (σ.2.1 73 m)) - 1))) = 14 ∨ σ.2.1 3 (220 * (v5 + (σ.2.1 78 (((9 * m) + (σ.2.1 73 m)) - 1))) + (σ.2.1 79 (((9 * m) + (σ.2.1 73 m)) - 1))) = 15 := by omega
    rcases h21c with h21v | h21v | h21v | h21v | h21v | h21v | h21v | h21v | h21v | h21v | h21v | h21v | h21v | h21v | h21v | h21v
    · refine tm_tableIn (tgt := 160) dX12_step_82 ⟨by omega, by omega⟩ (by omega) (by omega) (show _ = some (78) by rw [h21v]; rfl) (by decide) ?_
      have ho2 := hoki.2.1 (Or.inl (by omega))
      refine tm_aload_n dX12_step_160 rfl 6 rfl ?_
      refine tm_get (k := 82) (v := .ref (b + 1 + 53)) lay_12 dX12_step_161 (by decide) fl12_179 rfl ?_
      refine tm_iload dX12_step_164 2 rfl ?_
      refine tm_aload_n dX12_step_166 rfl 6 rfl ?_
      refine tm_get (k := 4) (v := .ref (b + 1 + 2)) lay_12 dX12_step_167 (by decide) fl12_17 rfl ?_
      refine tm_iload dX12_step_170 3 rfl ?_
      refine tm_iald (z := 220 * (v5 + (σ.2.1 78 (((9 * m) + (σ.2.1 73 m)) - 1))) + (σ.2.1 79 (((9 * m) + (σ.2.1 73 m)) - 1))) (v := σ.2.1 4 (220 * (v5 + (σ.2.1 78 (((9 * m) + (σ.2.1 73 m)) - 1))) + (σ.2.1 79 (((9 * m) + (σ.2.1 73 m)) - 1)))) dX12_step_172 (show mT[2]? = some (4, 0, 2860) from rfl) (by omega) (by omega) (by decide) (rfl) ?_
      have g35 := RG.a hR 4 (220 * (v5 + (σ.2.1 78 (((9 * m) + (σ.2.1 73 m)) - 1))) + (σ.2.1 79 (((9 * m) + (σ.2.1 73 m)) - 1)))
      refine tm_iadd dX12_step_173 ?_
      refine tm_iload dX12_step_174 1 rfl ?_
      refine tm_iast (z := (192 * (((9 * m) + (σ.2.1 73 m)) - 1)) + (σ.2.1 4 (220 * (v5 + (σ.2.1 78 (((9 * m) + (σ.2.1 73 m)) - 1))) + (σ.2.1 79 (((9 * m) + (σ.2.1 73 m)) - 1))))) (v := v18) dX12_step_176 (show mT[53]? = some (82, 0, 5184) from rfl) (by omega) (by omega) (by decide) ?_
      refine tm_goto (tgt := 556) dX12_step_177 (by decide) ?_
      refine tm_aload_n dX12_step_556 rfl 6 rfl ?_
      refine tm_get (k := 79) (v := .ref (b + 1 + 50)) lay_12 dX12_step_557 (by decide) fl12_170 rfl ?_
      refine tm_iload_n dX12_step_560 rfl 5 rfl ?_
      refine tm_dup2 dX12_step_561 rfl rfl ?_
      refine tm_iald (z := ((9 * m) + (σ.2.1 73 m)) - 1) (v := σ.2.1 79 (((9 * m) + (σ.2.1 73 m)) - 1)) dX12_step_562 (show mT[50]? = some (79, 0, 27) from rfl) (by omega) (by omega) (by decide) (ra_o (by decide) (rfl)) ?_
      have g36 := RG.a hR 79 (((9 * m) + (σ.2.1 73 m)) - 1)
      refine tm_iconst dX12_step_563 ?_
      refine tm_iadd dX12_step_564 ?_
      refine tm_iast (z := ((9 * m) + (σ.2.1 73 m)) - 1) (v := (σ.2.1 79 (((9 * m) + (σ.2.1 73 m)) - 1)) + 1) dX12_step_565 (show mT[50]? = some (79, 0, 27) from rfl) (by omega) (by omega) (by decide) ?_
      refine tm_iload dX12_step_566 0 rfl ?_
      exact tm_iret rfl dX12_step_568 (⟨_, rfl, ((Fr.rfl.A (by decide)).A (by decide)), ((hR.A (by omega)).A (by omega)), Or.inr (Or.inr ⟨by omega, hrun.top (t := 9 * m + σ.2.1 73 m - 1) rfl (show Fr [] [79, 82] [] σ (sA 79 (((9 * m) + (σ.2.1 73 m)) - 1) ((σ.2.1 79 (((9 * m) + (σ.2.1 73 m)) - 1)) + 1) (sA 82 ((192 * (((9 * m) + (σ.2.1 73 m)) - 1)) + (σ.2.1 4 (220 * (v5 + (σ.2.1 78 (((9 * m) + (σ.2.1 73 m)) - 1))) + (σ.2.1 79 (((9 * m) + (σ.2.1 73 m)) - 1))))) (v18) σ)) from ((Fr.rfl.A (by decide)).A (by decide))) (by decide) (by decide) rfl (fun _ _ _ => rfl) (fun z a b => ⟨ra_ne (by omega) rfl, rfl⟩) (by rw [show (sA 79 (((9 * m) + (σ.2.1 73 m)) - 1) ((σ.2.1 79 (((9 * m) + (σ.2.1 73 m)) - 1)) + 1) (sA 82 ((192 * (((9 * m) + (σ.2.1 73 m)) - 1)) + (σ.2.1 4 (220 * (v5 + (σ.2.1 78 (((9 * m) + (σ.2.1 73 m)) - 1))) + (σ.2.1 79 (((9 * m) + (σ.2.1 73 m)) - 1))))) (v18) σ)).2.1 79 (9 * m + σ.2.1 73 m - 1) = (σ.2.1 79 (((9 * m) + (σ.2.1 73 m)) - 1)) + 1 from ra_eq, show (sA 79 (((9 * m) + (σ.2.1 73 m)) - 1) ((σ.2.1 79 (((9 * m) + (σ.2.1 73 m)) - 1)) + 1) (sA 82 ((192 * (((9 * m) + (σ.2.1 73 m)) - 1)) + (σ.2.1 4 (220 * (v5 + (σ.2.1 78 (((9 * m) + (σ.2.1 73 m)) - 1))) + (σ.2.1 79 (((9 * m) + (σ.2.1 73 m)) - 1))))) (v18) σ)).2.1 80 (9 * m + σ.2.1 73 m - 1) = σ.2.1 80 (9 * m + σ.2.1 73 m - 1) from rfl]; exact hp.nx (by omega) (by omega) (by omega) (by omega)) (by rw [show (sA 79 (((9 * m) + (σ.2.1 73 m)) - 1) ((σ.2.1 79 (((9 * m) + (σ.2.1 73 m)) - 1)) + 1) (sA 82 ((192 * (((9 * m) + (σ.2.1 73 m)) - 1)) + (σ.2.1 4 (220 * (v5 + (σ.2.1 78 (((9 * m) + (σ.2.1 73 m)) - 1))) + (σ.2.1 79 (((9 * m) + (σ.2.1 73 m)) - 1))))) (v18) σ)).2.1 80 (9 * m + σ.2.1 73 m - 1) = σ.2.1 80 (9 * m + σ.2.1 73 m - 1) from rfl]; omega)⟩), ⟨fun j hj => ⟨rfl, rfl⟩, fun z hz => ⟨rfl, ra_ne (by omega) rfl, rfl⟩⟩, ⟨Int.le_refl _, (by show σ.2.1 76 m ≤ σ.2.1 76 m + 1; omega)⟩, fun _ => Or.inl ⟨by omega, by omega, rfl, fun _ => rfl, fun z hz => ra_ne hz rfl, Or.inl (by rw [show (sA 79 (((9 * m) + (σ.2.1 73 m)) - 1) ((σ.2.1 79 (((9 * m) + (σ.2.1 73 m)) - 1)) + 1) (sA 82 ((192 * (((9 * m) + (σ.2.1 73 m)) - 1)) + (σ.2.1 4 (220 * (v5 + (σ.2.1 78 (((9 * m) + (σ.2.1 73 m)) - 1))) + (σ.2.1 79 (((9 * m) + (σ.2.1 73 m)) - 1))))) (v18) σ)).2.1 79 (9 * m + σ.2.1 73 m - 1) = (σ.2.1 79 (((9 * m) + (σ.2.1 73 m)) - 1)) + 1 from ra_eq])⟩⟩)
    · refine tm_tableIn (tgt := 502) dX12_step_82 ⟨by omega, by omega⟩ (by omega) (by omega) (show _ = some (420) by rw [h21v]; rfl) (by decide) ?_
      have ho2 := hoki.2.1 (Or.inl (by omega))
      have ho81 := ho8 1 (by decide) (by decide)
      refine tm_aload_n dX12_step_502 rfl 6 rfl ?_
      refine tm_get (k := 82) (v := .ref (b + 1 + 53)) lay_12 dX12_step_503 (by decide) fl12_179 rfl ?_
      refine tm_iload dX12_step_506 2 rfl ?_
      refine tm_aload_n dX12_step_508 rfl 6 rfl ?_
      refine tm_get (k := 4) (v := .ref (b + 1 + 2)) lay_12 dX12_step_509 (by decide) fl12_17 rfl ?_
      refine tm_iload dX12_step_512 3 rfl ?_
      refine tm_iald (z := 220 * (v5 + (σ.2.1 78 (((9 * m) + (σ.2.1 73 m)) - 1))) + (σ.2.1 79 (((9 * m) + (σ.2.1 73 m)) - 1))) (v := σ.2.1 4 (220 * (v5 + (σ.2.1 78 (((9 * m) + (σ.2.1 73 m)) - 1))) + (σ.2.1 79 (((9 * m) + (σ.2.1 73 m)) - 1)))) dX12_step_514 (show mT[2]? = some (4, 0, 2860) from rfl) (by omega) (by omega) (by decide) (rfl) ?_
      have g37 := RG.a hR 4 (220 * (v5 + (σ.2.1 78 (((9 * m) + (σ.2.1 73 m)) - 1))) + (σ.2.1 79 (((9 * m) + (σ.2.1 73 m)) - 1)))
      refine tm_iadd dX12_step_515 ?_
      refine tm_aload_n dX12_step_516 rfl 6 rfl ?_
      refine tm_get (k := 3) (v := .ref (b + 1 + 1)) lay_12 dX12_step_517 (by decide) fl12_13 rfl ?_
      refine tm_iload dX12_step_520 3 rfl ?_
      refine tm_iald (z := 220 * (v5 + (σ.2.1 78 (((9 * m) + (σ.2.1 73 m)) - 1))) + (σ.2.1 79 (((9 * m) + (σ.2.1 73 m)) - 1))) (v := σ.2.1 3 (220 * (v5 + (σ.2.1 78 (((9 * m) + (σ.2.1 73 m)) - 1))) + (σ.2.1 79 (((9 * m) + (σ.2.1 73 m)) - 1)))) dX12_step_522 (show mT[1]? = some (3, 0, 2860) from rfl) (by omega) (by omega) (by decide) (rfl) ?_
      have g38 := RG.a hR 3 (220 * (v5 + (σ.2.1 78 (((9 * m) + (σ.2.1 73 m)) - 1))) + (σ.2.1 79 (((9 * m) + (σ.2.1 73 m)) - 1)))
      refine tm_iload dX12_step_523 1 rfl ?_
      refine tm_aload_n dX12_step_525 rfl 6 rfl ?_
      refine tm_iload_n dX12_step_526 rfl 5 rfl ?_
      refine tm_aload_n dX12_step_527 rfl 6 rfl ?_
      refine tm_get (k := 7) (v := .ref (b + 1 + 5)) lay_12 dX12_step_528 (by decide) fl12_26 rfl ?_
      refine tm_iconst dX12_step_531 ?_
      refine tm_iload dX12_step_532 3 rfl ?_
      refine tm_imul dX12_step_534 ?_
      refine tm_iconst dX12_step_535 ?_
      refine tm_iadd dX12_step_536 ?_
      refine tm_iald (z := (4 * (220 * (v5 + (σ.2.1 78 (((9 * m) + (σ.2.1 73 m)) - 1))) + (σ.2.1 79 (((9 * m) + (σ.2.1 73 m)) - 1)))) + 1) (v := σ.2.1 7 ((4 * (220 * (v5 + (σ.2.1 78 (((9 * m) + (σ.2.1 73 m)) - 1))) + (σ.2.1 79 (((9 * m) + (σ.2.1 73 m)) - 1)))) + 1)) dX12_step_537 (show mT[5]? = some (7, 0, 11440) from rfl) (by omega) (by omega) (by decide) (rfl) ?_
      have g39 := RG.a hR 7 ((4 * (220 * (v5 + (σ.2.1 78 (((9 * m) + (σ.2.1 73 m)) - 1))) + (σ.2.1 79 (((9 * m) + (σ.2.1 73 m)) - 1)))) + 1)
      refine tm_aload_n dX12_step_538 rfl 6 rfl ?_
      refine tm_get (k := 8) (v := .ref (b + 1 + 6)) lay_12 dX12_step_539 (by decide) fl12_29 rfl ?_
      refine tm_iconst dX12_step_542 ?_
      refine tm_iload dX12_step_543 3 rfl ?_
      refine tm_imul dX12_step_545 ?_
      refine tm_iconst dX12_step_546 ?_
      refine tm_iadd dX12_step_547 ?_
      refine tm_iald (z := (4 * (220 * (v5 + (σ.2.1 78 (((9 * m) + (σ.2.1 73 m)) - 1))) + (σ.2.1 79 (((9 * m) + (σ.2.1 73 m)) - 1)))) + 1) (v := σ.2.1 8 ((4 * (220 * (v5 + (σ.2.1 78 (((9 * m) + (σ.2.1 73 m)) - 1))) + (σ.2.1 79 (((9 * m) + (σ.2.1 73 m)) - 1)))) + 1)) dX12_step_548 (show mT[6]? = some (8, 0, 11440) from rfl) (by omega) (by omega) (by decide) (rfl) ?_
      have g40 := RG.a hR 8 ((4 * (220 * (v5 + (σ.2.1 78 (((9 * m) + (σ.2.1 73 m)) - 1))) + (σ.2.1 79 (((9 * m) + (σ.2.1 73 m)) - 1)))) + 1)
      refine tm_callV (M := m_X12_step) (pc := 549) (ix := 545) (M' := m_X12_worth) (As := [.int (iI (((9 * m) + (σ.2.1 73 m)) - 1)), .int (iI (σ.2.1 7 ((4 * (220 * (v5 + (σ.2.1 78 (((9 * m) + (σ.2.1 73 m)) - 1))) + (σ.2.1 79 (((9 * m) + (σ.2.1 73 m)) - 1)))) + 1))), .int (iI (σ.2.1 8 ((4 * (220 * (v5 + (σ.2.1 78 (((9 * m) + (σ.2.1 73 m)) - 1))) + (σ.2.1 79 (((9 * m) + (σ.2.1 73 m)) - 1)))) + 1)))]) (rest := [.int (iI v18), .int (iI (σ.2.1 3 (220 * (v5 + (σ.2.1 78 (((9 * m) + (σ.2.1 73 m)) - 1))) + (σ.2.1 79 (((9 * m) + (σ.2.1 73 m)) - 1))))), .int (iI ((192 * (((9 * m) + (σ.2.1 73 m)) - 1)) + (σ.2.1 4 (220 * (v5 + (σ.2.1 78 (((9 * m) + (σ.2.1 73 m)) - 1))) + (σ.2.1 79 (((9 * m) + (σ.2.1 73 m)) - 1)))))), .ref (b + 1 + 53)]) dX12_step_549 ok_X12_worth im_X12_worth se_X12_worth ml12_545 np_X12_worth rfl rfl (Nat.le_of_ble_eq_true rfl) (Nat.le_of_ble_eq_true rfl) rfl (c_X12_worth (d + 1) (σ := σ) (c := ((9 * m) + (σ.2.1 73 m)) - 1) (k := σ.2.1 7 ((4 * (220 * (v5 + (σ.2.1 78 (((9 * m) + (σ.2.1 73 m)) - 1))) + (σ.2.1 79 (((9 * m) + (σ.2.1 73 m)) - 1)))) + 1)) (w := σ.2.1 8 ((4 * (220 * (v5 + (σ.2.1 78 (((9 * m) + (σ.2.1 73 m)) - 1))) + (σ.2.1 79 (((9 * m) + (σ.2.1 73 m)) - 1)))) + 1)) (by omega) hR (by omega) (by omega)) (fun r41 σ42 hp => ?_)
      obtain ⟨v43, rfl, rfl, f44⟩ := hp
      show Tm _ _ 552 b σ [(7, .int (iI 0)), (6, .int (iI v18)), (5, .int (iI (192 * (((9 * m) + (σ.2.1 73 m)) - 1)))), (4, .int (iI (220 * (v5 + (σ.2.1 78 (((9 * m) + (σ.2.1 73 m)) - 1))) + (σ.2.1 79 (((9 * m) + (σ.2.1 73 m)) - 1))))), (3, .int (iI (σ.2.1 78 (((9 * m) + (σ.2.1 73 m)) - 1)))), (2, .int (iI (((9 * m) + (σ.2.1 73 m)) - 1))), (0, .ref b), (1, .int (iI m))] [.int (iI v43), .int (iI v18), .int (iI (σ.2.1 3 (220 * (v5 + (σ.2.1 78 (((9 * m) + (σ.2.1 73 m)) - 1))) + (σ.2.1 79 (((9 * m) + (σ.2.1 73 m)) - 1))))), .int (iI ((192 * (((9 * m) + (σ.2.1 73 m)) - 1)) + (σ.2.1 4 (220 * (v5 + (σ.2.1 78 (((9 * m) + (σ.2.1 73 m)) - 1))) + (σ.2.1 79 (((9 * m) + (σ.2.1 73 m)) - 1)))))), .ref (b + 1 + 53)] _
      refine tm_callS (M := m_X12_step) (pc := 552) (ix := 466) (M' := m_X12_worked) (As := [.int (iI (σ.2.1 3 (220 * (v5 + (σ.2.1 78 (((9 * m) + (σ.2.1 73 m)) - 1))) + (σ.2.1 79 (((9 * m) + (σ.2.1 73 m)) - 1))))), .int (iI v18), .int (iI v43)]) (rest := [.int (iI ((192 * (((9 * m) + (σ.2.1 73 m)) - 1)) + (σ.2.1 4 (220 * (v5 + (σ.2.1 78 (((9 * m) + (σ.2.1 73 m)) - 1))) + (σ.2.1 79 (((9 * m) + (σ.2.1 73 m)) - 1)))))), .ref (b + 1 + 53)]) dX12_step_552 ok_X12_worked stt_X12_worked ml12_466 np_X12_worked rfl (Nat.le_of_ble_eq_true rfl) (Nat.le_of_ble_eq_true rfl) rfl (c_X12_worked (d + 1) (σ := σ) (k := σ.2.1 3 (220 * (v5 + (σ.2.1 78 (((9 * m) + (σ.2.1 73 m)) - 1))) + (σ.2.1 79 (((9 * m) + (σ.2.1 73 m)) - 1)))) (x := v18) (y := v43) (by omega) (by omega) (by omega)) (fun r45 σ46 hp => ?_)
      obtain ⟨v47, rfl, rfl, f48⟩ := hp
      show Tm _ _ 555 b σ [(7, .int (iI 0)), (6, .int (iI v18)), (5, .int (iI (192 * (((9 * m) + (σ.2.1 73 m)) - 1)))), (4, .int (iI (220 * (v5 + (σ.2.1 78 (((9 * m) + (σ.2.1 73 m)) - 1))) + (σ.2.1 79 (((9 * m) + (σ.2.1 73 m)) - 1))))), (3, .int (iI (σ.2.1 78 (((9 * m) + (σ.2.1 73 m)) - 1)))), (2, .int (iI (((9 * m) + (σ.2.1 73 m)) - 1))), (0, .ref b), (1, .int (iI m))] [.int (iI v47), .int (iI ((192 * (((9 * m) + (σ.2.1 73 m)) - 1)) + (σ.2.1 4 (220 * (v5 + (σ.2.1 78 (((9 * m) + (σ.2.1 73 m)) - 1))) + (σ.2.1 79 (((9 * m) + (σ.2.1 73 m)) - 1)))))), .ref (b + 1 + 53)] _
      refine tm_iast (z := (192 * (((9 * m) + (σ.2.1 73 m)) - 1)) + (σ.2.1 4 (220 * (v5 + (σ.2.1 78 (((9 * m) + (σ.2.1 73 m)) - 1))) + (σ.2.1 79 (((9 * m) + (σ.2.1 73 m)) - 1))))) (v := v47) dX12_step_555 (show mT[53]? = some (82, 0, 5184) from rfl) (by omega) (by omega) (by decide) ?_
      refine tm_aload_n dX12_step_556 rfl 6 rfl ?_
      refine tm_get (k := 79) (v := .ref (b + 1 + 50)) lay_12 dX12_step_557 (by decide) fl12_170 rfl ?_
      refine tm_iload_n dX12_step_560 rfl 5 rfl ?_
      refine tm_dup2 dX12_step_561 rfl rfl ?_
      refine tm_iald (z := ((9 * m) + (σ.2.1 73 m)) - 1) (v := σ.2.1 79 (((9 * m) + (σ.2.1 73 m)) - 1)) dX12_step_562 (show mT[50]? = some (79, 0, 27) from rfl) (by omega) (by omega) (by decide) (ra_o (by decide) (rfl)) ?_
      have g49 := RG.a hR 79 (((9 * m) + (σ.2.1 73 m)) - 1)
      refine tm_iconst dX12_step_563 ?_
      refine tm_iadd dX12_step_564 ?_
      refine tm_iast (z := ((9 * m) + (σ.2.1 73 m)) - 1) (v := (σ.2.1 79 (((9 * m) + (σ.2.1 73 m)) - 1)) + 1) dX12_step_565 (show mT[50]? = some (79, 0, 27) from rfl) (by omega) (by omega) (by decide) ?_
      refine tm_iload dX12_step_566 0 rfl ?_
      exact tm_iret rfl dX12_step_568 (⟨_, rfl, ((Fr.rfl.A (by decide)).A (by decide)), ((hR.A (by omega)).A (by omega)), Or.inr (Or.inr ⟨by omega, hrun.top (t := 9 * m + σ.2.1 73 m - 1) rfl (show Fr [] [79, 82] [] σ (sA 79 (((9 * m) + (σ.2.1 73 m)) - 1) ((σ.2.1 79 (((9 * m) + (σ.2.1 73 m)) - 1)) + 1) (sA 82 ((192 * (((9 * m) + (σ.2.1 73 m)) - 1)) + (σ.2.1 4 (220 * (v5 + (σ.2.1 78 (((9 * m) + (σ.2.1 73 m)) - 1))) + (σ.2.1 79 (((9 * m) + (σ.2.1 73 m)) - 1))))) (v47) σ)) from ((Fr.rfl.A (by decide)).A (by decide))) (by decide) (by decide) rfl (fun _ _ _ => rfl) (fun z a b => ⟨ra_ne (by omega) rfl, rfl⟩) (by rw [show (sA 79 (((9 * m) + (σ.2.1 73 m)) - 1) ((σ.2.1 79 (((9 * m) + (σ.2.1 73 m)) - 1)) + 1) (sA 82 ((192 * (((9 * m) + (σ.2.1 73 m)) - 1)) + (σ.2.1 4 (220 * (v5 + (σ.2.1 78 (((9 * m) + (σ.2.1 73 m)) - 1))) + (σ.2.1 79 (((9 * m) + (σ.2.1 73 m)) - 1))))) (v47) σ)).2.1 79 (9 * m + σ.2.1 73 m - 1) = (σ.2.1 79 (((9 * m) + (σ.2.1 73 m)) - 1)) + 1 from ra_eq, show (sA 79 (((9 * m) + (σ.2.1 73 m)) - 1) ((σ.2.1 79 (((9 * m) + (σ.2.1 73 m)) - 1)) + 1) (sA 82 ((192 * (((9 * m) + (σ.2.1 73 m)) - 1)) + (σ.2.1 4 (220 * (v5 + (σ.2.1 78 (((9 * m) + (σ.2.1 73 m)) - 1))) + (σ.2.1 79 (((9 * m) + (σ.2.1 73 m)) - 1))))) (v47) σ)).2.1 80 (9 * m + σ.2.1 73 m - 1) = σ.2.1 80 (9 * m + σ.2.1 73 m - 1) from rfl]; exact hp.nx (by omega) (by omega) (by omega) (by omega)) (by rw [show (sA 79 (((9 * m) + (σ.2.1 73 m)) - 1) ((σ.2.1 79 (((9 * m) + (σ.2.1 73 m)) - 1)) + 1) (sA 82 ((192 * (((9 * m) + (σ.2.1 73 m)) - 1)) + (σ.2.1 4 (220 * (v5 + (σ.2.1 78 (((9 * m) + (σ.2.1 73 m)) - 1))) + (σ.2.1 79 (((9 * m) + (σ.2.1 73 m)) - 1))))) (v47) σ)).2.1 80 (9 * m + σ.2.1 73 m - 1) = σ.2.1 80 (9 * m + σ.2.1 73 m - 1) from rfl]; omega)⟩), ⟨fun j hj => ⟨rfl, rfl⟩, fun z hz => ⟨rfl, ra_ne (by omega) rfl, rfl⟩⟩, ⟨Int.le_refl _, (by show σ.2.1 76 m ≤ σ.2.1 76 m + 1; omega)⟩, fun _ => Or.inl ⟨by omega, by omega, rfl, fun _ => rfl, fun z hz => ra_ne hz rfl, Or.inl (by rw [show (sA 79 (((9 * m) + (σ.2.1 73 m)) - 1) ((σ.2.1 79 (((9 * m) + (σ.2.1 73 m)) - 1)) + 1) (sA 82 ((192 * (((9 * m) + (σ.2.1 73 m)) - 1)) + (σ.2.1 4 (220 * (v5 + (σ.2.1 78 (((9 * m) + (σ.2.1 73 m)) - 1))) + (σ.2.1 79 (((9 * m) + (σ.2.1 73 m)) - 1))))) (v47) σ)).2.1 79 (9 * m + σ.2.1 73 m - 1) = (σ.2.1 79 (((9 * m) + (σ.2.1 73 m)) - 1)) + 1 from ra_eq])⟩⟩)
    · refine tm_tableIn (tgt := 502) dX12_step_82 ⟨by omega, by omega⟩ (by omega) (by omega) (show _ = some (420) by rw [h21v]; rfl) (by decide) ?_
      have ho2 := hoki.2.1 (Or.inl (by omega))
      have ho81 := ho8 1 (by decide) (by decide)
      refine tm_aload_n dX12_step_502 rfl 6 rfl ?_
      refine tm_get (k := 82) (v := .ref (b + 1 + 53)) lay_12 dX12_step_503 (by decide) fl12_179 rfl ?_
      refine tm_iload dX12_step_506 2 rfl ?_
      refine tm_aload_n dX12_step_508 rfl 6 rfl ?_
      refine tm_get (k := 4) (v := .ref (b + 1 + 2)) lay_12 dX12_step_509 (by decide) fl12_17 rfl ?_
      refine tm_iload dX12_step_512 3 rfl ?_
      refine tm_iald (z := 220 * (v5 + (σ.2.1 78 (((9 * m) + (σ.2.1 73 m)) - 1))) + (σ.2.1 79 (((9 * m) + (σ.2.1 73 m)) - 1))) (v := σ.2.1 4 (220 * (v5 + (σ.2.1 78 (((9 * m) + (σ.2.1 73 m)) - 1))) + (σ.2.1 79 (((9 * m) + (σ.2.1 73 m)) - 1)))) dX12_step_514 (show mT[2]? = some (4, 0, 2860) from rfl) (by omega) (by omega) (by decide) (rfl) ?_
      have g50 := RG.a hR 4 (220 * (v5 + (σ.2.1 78 (((9 * m) + (σ.2.1 73 m)) - 1))) + (σ.2.1 79 (((9 * m) + (σ.2.1 73 m)) - 1)))
      refine tm_iadd dX12_step_515 ?_
      refine tm_aload_n dX12_step_516 rfl 6 rfl ?_
      refine tm_get (k := 3) (v := .ref (b + 1 + 1)) lay_12 dX12_step_517 (by decide) fl12_13 rfl ?_
      refine tm_iload dX12_step_520 3 rfl ?_
      refine tm_iald (z := 220 * (v5 + (σ.2.1 78 (((9 * m) + (σ.2.1 73 m)) - 1))) + (σ.2.1 79 (((9 * m) + (σ.2.1 73 m)) - 1))) (v := σ.2.1 3 (220 * (v5 + (σ.2.1 78 (((9 * m) + (σ.2.1 73 m)) - 1))) + (σ.2.1 79 (((9 * m) + (σ.2.1 73 m)) - 1)))) dX12_step_522 (show mT[1]? = some (3, 0, 2860) from rfl) (by omega) (by omega) (by decide) (rfl) ?_
      have g51 := RG.a hR 3 (220 * (v5 + (σ.2.1 78 (((9 * m) + (σ.2.1 73 m)) - 1))) + (σ.2.1 79 (((9 * m) + (σ.2.1 73 m)) - 1)))
      refine tm_iload dX12_step_523 1 rfl ?_
      refine tm_aload_n dX12_step_525 rfl 6 rfl ?_
      refine tm_iload_n dX12_step_526 rfl 5 rfl ?_
      refine tm_aload_n dX12_step_527 rfl 6 rfl ?_
      refine tm_get (k := 7) (v := .ref (b + 1 + 5)) lay_12 dX12_step_528 (by decide) fl12_26 rfl ?_
      refine tm_iconst dX12_step_531 ?_
      refine tm_iload dX12_step_532 3 rfl ?_
      refine tm_imul dX12_step_534 ?_
      refine tm_iconst dX12_step_535 ?_
      refine tm_iadd dX12_step_536 ?_
      refine tm_iald (z := (4 * (220 * (v5 + (σ.2.1 78 (((9 * m) + (σ.2.1 73 m)) - 1))) + (σ.2.1 79 (((9 * m) + (σ.2.1 73 m)) - 1)))) + 1) (v := σ.2.1 7 ((4 * (220 * (v5 + (σ.2.1 78 (((9 * m) + (σ.2.1 73 m)) - 1))) + (σ.2.1 79 (((9 * m) + (σ.2.1 73 m)) - 1)))) + 1)) dX12_step_537 (show mT[5]? = some (7, 0, 11440) from rfl) (by omega) (by omega) (by decide) (rfl) ?_
      have g52 := RG.a hR 7 ((4 * (220 * (v5 + (σ.2.1 78 (((9 * m) + (σ.2.1 73 m)) - 1))) + (σ.2.1 79 (((9 * m) + (σ.2.1 73 m)) - 1)))) + 1)
      refine tm_aload_n dX12_step_538 rfl 6 rfl ?_
      refine tm_get (k := 8) (v := .ref (b + 1 + 6)) lay_12 dX12_step_539 (by decide) fl12_29 rfl ?_
      refine tm_iconst dX12_step_542 ?_
      refine tm_iload dX12_step_543 3 rfl ?_
      refine tm_imul dX12_step_545 ?_
      refine tm_iconst dX12_step_546 ?_
      refine tm_iadd dX12_step_547 ?_
      refine tm_iald (z := (4 * (220 * (v5 + (σ.2.1 78 (((9 * m) + (σ.2.1 73 m)) - 1))) + (σ.2.1 79 (((9 * m) + (σ.2.1 73 m)) - 1)))) + 1) (v := σ.2.1 8 ((4 * (220 * (v5 + (σ.2.1 78 (((9 * m) + (σ.2.1 73 m)) - 1))) + (σ.2.1 79 (((9 * m) + (σ.2.1 73 m)) - 1)))) + 1)) dX12_step_548 (show mT[6]? = some (8, 0, 11440) from rfl) (by omega) (by omega) (by decide) (rfl) ?_
      have g53 := RG.a hR 8 ((4 * (220 * (v5 + (σ.2.1 78 (((9 * m) + (σ.2.1 73 m)) - 1))) + (σ.2.1 79 (((9 * m) + (σ.2.1 73 m)) - 1)))) + 1)
      refine tm_callV (M := m_X12_step) (pc := 549) (ix := 545) (M' := m_X12_worth) (As := [.int (iI (((9 * m) + (σ.2.1 73 m)) - 1)), .int (iI (σ.2.1 7 ((4 * (220 * (v5 + (σ.2.1 78 (((9 * m) + (σ.2.1 73 m)) - 1))) + (σ.2.1 79 (((9 * m) + (σ.2.1 73 m)) - 1)))) + 1))), .int (iI (σ.2.1 8 ((4 * (220 * (v5 + (σ.2.1 78 (((9 * m) + (σ.2.1 73 m)) - 1))) + (σ.2.1 79 (((9 * m) + (σ.2.1 73 m)) - 1)))) + 1)))]) (rest := [.int (iI v18), .int (iI (σ.2.1 3 (220 * (v5 + (σ.2.1 78 (((9 * m) + (σ.2.1 73 m)) - 1))) + (σ.2.1 79 (((9 * m) + (σ.2.1 73 m)) - 1))))), .int (iI ((192 * (((9 * m) + (σ.2.1 73 m)) - 1)) + (σ.2.1 4 (220 * (v5 + (σ.2.1 78 (((9 * m) + (σ.2.1 73 m)) - 1))) + (σ.2.1 79 (((9 * m) + (σ.2.1 73 m)) - 1)))))), .ref (b + 1 + 53)]) dX12_step_549 ok_X12_worth im_X12_worth se_X12_worth ml12_545 np_X12_worth rfl rfl (Nat.le_of_ble_eq_true rfl) (Nat.le_of_ble_eq_true rfl) rfl (c_X12_worth (d + 1) (σ := σ) (c := ((9 * m) + (σ.2.1 73 m)) - 1) (k := σ.2.1 7 ((4 * (220 * (v5 + (σ.2.1 78 (((9 * m) + (σ.2.1 73 m)) - 1))) + (σ.2.1 79 (((9 * m) + (σ.2.1 73 m)) - 1)))) + 1)) (w := σ.2.1 8 ((4 * (220 * (v5 + (σ.2.1 78 (((9 * m) + (σ.2.1 73 m)) - 1))) + (σ.2.1 79 (((9 * m) + (σ.2.1 73 m)) - 1)))) + 1)) (by omega) hR (by omega) (by omega)) (fun r54 σ55 hp => ?_)
      obtain ⟨v56, rfl, rfl, f57⟩ := hp
      show Tm _ _ 552 b σ [(7, .int (iI 0)), (6, .int (iI v18)), (5, .int (iI (192 * (((9 * m) + (σ.2.1 73 m)) - 1)))), (4, .int (iI (220 * (v5 + (σ.2.1 78 (((9 * m) + (σ.2.1 73 m)) - 1))) + (σ.2.1 79 (((9 * m) + (σ.2.1 73 m)) - 1))))), (3, .int (iI (σ.2.1 78 (((9 * m) + (σ.2.1 73 m)) - 1)))), (2, .int (iI (((9 * m) + (σ.2.1 73 m)) - 1))), (0, .ref b), (1, .int (iI m))] [.int (iI v56), .int (iI v18), .int (iI (σ.2.1 3 (220 * (v5 + (σ.2.1 78 (((9 * m) + (σ.2.1 73 m)) - 1))) + (σ.2.1 79 (((9 * m) + (σ.2.1 73 m)) - 1))))), .int (iI ((192 * (((9 * m) + (σ.2.1 73 m)) - 1)) + (σ.2.1 4 (220 * (v5 + (σ.2.1 78 (((9 * m) + (σ.2.1 73 m)) - 1))) + (σ.2.1 79 (((9 * m) + (σ.2.1 73 m)) - 1)))))), .ref (b + 1 + 53)] _
      refine tm_callS (M := m_X12_step) (pc := 552) (ix := 466) (M' := m_X12_worked) (As := [.int (iI (σ.2.1 3 (220 * (v5 + (σ.2.1 78 (((9 * m) + (σ.2.1 73 m)) - 1))) + (σ.2.1 79 (((9 * m) + (σ.2.1 73 m)) - 1))))), .int (iI v18), .int (iI v56)]) (rest := [.int (iI ((192 * (((9 * m) + (σ.2.1 73 m)) - 1)) + (σ.2.1 4 (220 * (v5 + (σ.2.1 78 (((9 * m) + (σ.2.1 73 m)) - 1))) + (σ.2.1 79 (((9 * m) + (σ.2.1 73 m)) - 1)))))), .ref (b + 1 + 53)]) dX12_step_552 ok_X12_worked stt_X12_worked ml12_466 np_X12_worked rfl (Nat.le_of_ble_eq_true rfl) (Nat.le_of_ble_eq_true rfl) rfl (c_X12_worked (d + 1) (σ := σ) (k := σ.2.1 3 (220 * (v5 + (σ.2.1 78 (((9 * m) + (σ.2.1 73 m)) - 1))) + (σ.2.1 79 (((9 * m) + (σ.2.1 73 m)) - 1)))) (x := v18) (y := v56) (by omega) (by omega) (by omega)) (fun r58 σ59 hp => ?_)
      obtain ⟨v60, rfl, rfl, f61⟩ := hp
      show Tm _ _ 555 b σ [(7, .int (iI 0)), (6, .int (iI v18)), (5, .int (iI (192 * (((9 * m) + (σ.2.1 73 m)) - 1)))), (4, .int (iI (220 * (v5 + (σ.2.1 78 (((9 * m) + (σ.2.1 73 m)) - 1))) + (σ.2.1 79 (((9 * m) + (σ.2.1 73 m)) - 1))))), (3, .int (iI (σ.2.1 78 (((9 * m) + (σ.2.1 73 m)) - 1)))), (2, .int (iI (((9 * m) + (σ.2.1 73 m)) - 1))), (0, .ref b), (1, .int (iI m))] [.int (iI v60), .int (iI ((192 * (((9 * m) + (σ.2.1 73 m)) - 1)) + (σ.2.1 4 (220 * (v5 + (σ.2.1 78 (((9 * m) + (σ.2.1 73 m)) - 1))) + (σ.2.1 79 (((9 * m) + (σ.2.1 73 m)) - 1)))))), .ref (b + 1 + 53)] _
      refine tm_iast (z := (192 * (((9 * m) + (σ.2.1 73 m)) - 1)) + (σ.2.1 4 (220 * (v5 + (σ.2.1 78 (((9 * m) + (σ.2.1 73 m)) - 1))) + (σ.2.1 79 (((9 * m) + (σ.2.1 73 m)) - 1))))) (v := v60) dX12_step_555 (show mT[53]? = some (82, 0, 5184) from rfl) (by omega) (by omega) (by decide) ?_
      refine tm_aload_n dX12_step_556 rfl 6 rfl ?_
      refine tm_get (k := 79) (v := .ref (b + 1 + 50)) lay_12 dX12_step_557 (by decide) fl12_170 rfl ?_
      refine tm_iload_n dX12_step_560 rfl 5 rfl ?_
      refine tm_dup2 dX12_step_561 rfl rfl ?_
      refine tm_iald (z := ((9 * m) + (σ.2.1 73 m)) - 1) (v := σ.2.1 79 (((9 * m) + (σ.2.1 73 m)) - 1)) dX12_step_562 (show mT[50]? = some (79, 0, 27) from rfl) (by omega) (by omega) (by decide) (ra_o (by decide) (rfl)) ?_
      have g62 := RG.a hR 79 (((9 * m) + (σ.2.1 73 m)) - 1)
      refine tm_iconst dX12_step_563 ?_
      refine tm_iadd dX12_step_564 ?_
      refine tm_iast (z := ((9 * m) + (σ.2.1 73 m)) - 1) (v := (σ.2.1 79 (((9 * m) + (σ.2.1 73 m)) - 1)) + 1) dX12_step_565 (show mT[50]? = some (79, 0, 27) from rfl) (by omega) (by omega) (by decide) ?_
      refine tm_iload dX12_step_566 0 rfl ?_
      exact tm_iret rfl dX12_step_568 (⟨_, rfl, ((Fr.rfl.A (by decide)).A (by decide)), ((hR.A (by omega)).A (by omega)), Or.inr (Or.inr ⟨by omega, hrun.top (t := 9 * m + σ.2.1 73 m - 1) rfl (show Fr [] [79, 82] [] σ (sA 79 (((9 * m) + (σ.2.1 73 m)) - 1) ((σ.2.1 79 (((9 * m) + (σ.2.1 73 m)) - 1)) + 1) (sA 82 ((192 * (((9 * m) + (σ.2.1 73 m)) - 1)) + (σ.2.1 4 (220 * (v5 + (σ.2.1 78 (((9 * m) + (σ.2.1 73 m)) - 1))) + (σ.2.1 79 (((9 * m) + (σ.2.1 73 m)) - 1))))) (v60) σ)) from ((Fr.rfl.A (by decide)).A (by decide))) (by decide) (by decide) rfl (fun _ _ _ => rfl) (fun z a b => ⟨ra_ne (by omega) rfl, rfl⟩) (by rw [show (sA 79 (((9 * m) + (σ.2.1 73 m)) - 1) ((σ.2.1 79 (((9 * m) + (σ.2.1 73 m)) - 1)) + 1) (sA 82 ((192 * (((9 * m) + (σ.2.1 73 m)) - 1)) + (σ.2.1 4 (220 * (v5 + (σ.2.1 78 (((9 * m) + (σ.2.1 73 m)) - 1))) + (σ.2.1 79 (((9 * m) + (σ.2.1 73 m)) - 1))))) (v60) σ)).2.1 79 (9 * m + σ.2.1 73 m - 1) = (σ.2.1 79 (((9 * m) + (σ.2.1 73 m)) - 1)) + 1 from ra_eq, show (sA 79 (((9 * m) + (σ.2.1 73 m)) - 1) ((σ.2.1 79 (((9 * m) + (σ.2.1 73 m)) - 1)) + 1) (sA 82 ((192 * (((9 * m) + (σ.2.1 73 m)) - 1)) + (σ.2.1 4 (220 * (v5 + (σ.2.1 78 (((9 * m) + (σ.2.1 73 m)) - 1))) + (σ.2.1 79 (((9 * m) + (σ.2.1 73 m)) - 1))))) (v60) σ)).2.1 80 (9 * m + σ.2.1 73 m - 1) = σ.2.1 80 (9 * m + σ.2.1 73 m - 1) from rfl]; exact hp.nx (by omega) (by omega) (by omega) (by omega)) (by rw [show (sA 79 (((9 * m) + (σ.2.1 73 m)) - 1) ((σ.2.1 79 (((9 * m) + (σ.2.1 73 m)) - 1)) + 1) (sA 82 ((192 * (((9 * m) + (σ.2.1 73 m)) - 1)) + (σ.2.1 4 (220 * (v5 + (σ.2.1 78 (((9 * m) + (σ.2.1 73 m)) - 1))) + (σ.2.1 79 (((9 * m) + (σ.2.1 73 m)) - 1))))) (v60) σ)).2.1 80 (9 * m + σ.2.1 73 m - 1) = σ.2.1 80 (9 * m + σ.2.1 73 m - 1) from rfl]; omega)⟩), ⟨fun j hj => ⟨rfl, rfl⟩, fun z hz => ⟨rfl, ra_ne (by omega) rfl, rfl⟩⟩, ⟨Int.le_refl _, (by show σ.2.1 76 m ≤ σ.2.1 76 m + 1; omega)⟩, fun _ => Or.inl ⟨by omega, by omega, rfl, fun _ => rfl, fun z hz => ra_ne hz rfl, Or.inl (by rw [show (sA 79 (((9 * m) + (σ.2.1 73 m)) - 1) ((σ.2.1 79 (((9 * m) + (σ.2.1 73 m)) - 1)) + 1) (sA 82 ((192 * (((9 * m) + (σ.2.1 73 m)) - 1)) + (σ.2.1 4 (220 * (v5 + (σ.2.1 78 (((9 * m) + (σ.2.1 73 m)) - 1))) + (σ.2.1 79 (((9 * m) + (σ.2.1 73 m)) - 1))))) (v60) σ)).2.1 79 (9 * m + σ.2.1 73 m - 1) = (σ.2.1 79 (((9 * m) + (σ.2.1 73 m)) - 1)) + 1 from ra_eq])⟩⟩)
    · refine tm_tableIn (tgt := 502) dX12_step_82 ⟨by omega, by omega⟩ (by omega) (by omega) (show _ = some (420) by rw [h21v]; rfl) (by decide) ?_
      have ho2 := hoki.2.1 (Or.inl (by omega))
      have ho81 := ho8 1 (by decide) (by decide)
      refine tm_aload_n dX12_step_502 rfl 6 rfl ?_
      refine tm_get (k := 82) (v := .ref (b + 1 + 53)) lay_12 dX12_step_503 (by decide) fl12_179 rfl ?_
      refine tm_iload dX12_step_506 2 rfl ?_
      refine tm_aload_n dX12_step_508 rfl 6 rfl ?_
      refine tm_get (k := 4) (v := .ref (b + 1 + 2)) lay_12 dX12_step_509 (by decide) fl12_17 rfl ?_
      refine tm_iload dX12_step_512 3 rfl ?_
      refine tm_iald (z := 220 * (v5 + (σ.2.1 78 (((9 * m) + (σ.2.1 73 m)) - 1))) + (σ.2.1 79 (((9 * m) + (σ.2.1 73 m)) - 1))) (v := σ.2.1 4 (220 * (v5 + (σ.2.1 78 (((9 * m) + (σ.2.1 73 m)) - 1))) + (σ.2.1 79 (((9 * m) + (σ.2.1 73 m)) - 1)))) dX12_step_514 (show mT[2]? = some (4, 0, 2860) from rfl) (by omega) (by omega) (by decide) (rfl) ?_
      have g63 := RG.a hR 4 (220 * (v5 + (σ.2.1 78 (((9 * m) + (σ.2.1 73 m)) - 1))) + (σ.2.1 79 (((9 * m) + (σ.2.1 73 m)) - 1)))
      refine tm_iadd dX12_step_515 ?_
      refine tm_aload_n dX12_step_516 rfl 6 rfl ?_
      refine tm_get (k := 3) (v := .ref (b + 1 + 1)) lay_12 dX12_step_517 (by decide) fl12_13 rfl ?_
      refine tm_iload dX12_step_520 3 rfl ?_
      refine tm_iald (z := 220 * (v5 + (σ.2.1 78 (((9 * m) + (σ.2.1 73 m)) - 1))) + (σ.2.1 79 (((9 * m) + (σ.2.1 73 m)) - 1))) (v := σ.2.1 3 (220 * (v5 + (σ.2.1 78 (((9 * m) + (σ.2.1 73 m)) - 1))) + (σ.2.1 79 (((9 * m) + (σ.2.1 73 m)) - 1)))) dX12_step_522 (show mT[1]? = some (3, 0, 2860) from rfl) (by omega) (by omega) (by decide) (rfl) ?_
      have g64 := RG.a hR 3 (220 * (v5 + (σ.2.1 78 (((9 * m) + (σ.2.1 73 m)) - 1))) + (σ.2.1 79 (((9 * m) + (σ.2.1 73 m)) - 1)))
      refine tm_iload dX12_step_523 1 rfl ?_
      refine tm_aload_n dX12_step_525 rfl 6 rfl ?_
      refine tm_iload_n dX12_step_526 rfl 5 rfl ?_
      refine tm_aload_n dX12_step_527 rfl 6 rfl ?_
      refine tm_get (k := 7) (v := .ref (b + 1 + 5)) lay_12 dX12_step_528 (by decide) fl12_26 rfl ?_
      refine tm_iconst dX12_step_531 ?_
      refine tm_iload dX12_step_532 3 rfl ?_
      refine tm_imul dX12_step_534 ?_
      refine tm_iconst dX12_step_535 ?_
      refine tm_iadd dX12_step_536 ?_
      refine tm_iald (z := (4 * (220 * (v5 + (σ.2.1 78 (((9 * m) + (σ.2.1 73 m)) - 1))) + (σ.2.1 79 (((9 * m) + (σ.2.1 73 m)) - 1)))) + 1) (v := σ.2.1 7 ((4 * (220 * (v5 + (σ.2.1 78 (((9 * m) + (σ.2.1 73 m)) - 1))) + (σ.2.1 79 (((9 * m) + (σ.2.1 73 m)) - 1)))) + 1)) dX12_step_537 (show mT[5]? = some (7, 0, 11440) from rfl) (by omega) (by omega) (by decide) (rfl) ?_
      have g65 := RG.a hR 7 ((4 * (220 * (v5 + (σ.2.1 78 (((9 * m) + (σ.2.1 73 m)) - 1))) + (σ.2.1 79 (((9 * m) + (σ.2.1 73 m)) - 1)))) + 1)
      refine tm_aload_n dX12_step_538 rfl 6 rfl ?_
      refine tm_get (k := 8) (v := .ref (b + 1 + 6)) lay_12 dX12_step_539 (by decide) fl12_29 rfl ?_
      refine tm_iconst dX12_step_542 ?_
      refine tm_iload dX12_step_543 3 rfl ?_
      refine tm_imul dX12_step_545 ?_
      refine tm_iconst dX12_step_546 ?_
      refine tm_iadd dX12_step_547 ?_
      refine tm_iald (z := (4 * (220 * (v5 + (σ.2.1 78 (((9 * m) + (σ.2.1 73 m)) - 1))) + (σ.2.1 79 (((9 * m) + (σ.2.1 73 m)) - 1)))) + 1) (v := σ.2.1 8 ((4 * (220 * (v5 + (σ.2.1 78 (((9 * m) + (σ.2.1 73 m)) - 1))) + (σ.2.1 79 (((9 * m) + (σ.2.1 73 m)) - 1)))) + 1)) dX12_step_548 (show mT[6]? = some (8, 0, 11440) from rfl) (by omega) (by omega) (by decide) (rfl) ?_
      have g66 := RG.a hR 8 ((4 * (220 * (v5 + (σ.2.1 78 (((9 * m) + (σ.2.1 73 m)) - 1))) + (σ.2.1 79 (((9 * m) + (σ.2.1 73 m)) - 1)))) + 1)
      refine tm_callV (M := m_X12_step) (pc := 549) (ix := 545) (M' := m_X12_worth) (As := [.int (iI (((9 * m) + (σ.2.1 73 m)) - 1)), .int (iI (σ.2.1 7 ((4 * (220 * (v5 + (σ.2.1 78 (((9 * m) + (σ.2.1 73 m)) - 1))) + (σ.2.1 79 (((9 * m) + (σ.2.1 73 m)) - 1)))) + 1))), .int (iI (σ.2.1 8 ((4 * (220 * (v5 + (σ.2.1 78 (((9 * m) + (σ.2.1 73 m)) - 1))) + (σ.2.1 79 (((9 * m) + (σ.2.1 73 m)) - 1)))) + 1)))]) (rest := [.int (iI v18), .int (iI (σ.2.1 3 (220 * (v5 + (σ.2.1 78 (((9 * m) + (σ.2.1 73 m)) - 1))) + (σ.2.1 79 (((9 * m) + (σ.2.1 73 m)) - 1))))), .int (iI ((192 * (((9 * m) + (σ.2.1 73 m)) - 1)) + (σ.2.1 4 (220 * (v5 + (σ.2.1 78 (((9 * m) + (σ.2.1 73 m)) - 1))) + (σ.2.1 79 (((9 * m) + (σ.2.1 73 m)) - 1)))))), .ref (b + 1 + 53)]) dX12_step_549 ok_X12_worth im_X12_worth se_X12_worth ml12_545 np_X12_worth rfl rfl (Nat.le_of_ble_eq_true rfl) (Nat.le_of_ble_eq_true rfl) rfl (c_X12_worth (d + 1) (σ := σ) (c := ((9 * m) + (σ.2.1 73 m)) - 1) (k := σ.2.1 7 ((4 * (220 * (v5 + (σ.2.1 78 (((9 * m) + (σ.2.1 73 m)) - 1))) + (σ.2.1 79 (((9 * m) + (σ.2.1 73 m)) - 1)))) + 1)) (w := σ.2.1 8 ((4 * (220 * (v5 + (σ.2.1 78 (((9 * m) + (σ.2.1 73 m)) - 1))) + (σ.2.1 79 (((9 * m) + (σ.2.1 73 m)) - 1)))) + 1)) (by omega) hR (by omega) (by omega)) (fun r67 σ68 hp => ?_)
      obtain ⟨v69, rfl, rfl, f70⟩ := hp
      show Tm _ _ 552 b σ [(7, .int (iI 0)), (6, .int (iI v18)), (5, .int (iI (192 * (((9 * m) + (σ.2.1 73 m)) - 1)))), (4, .int (iI (220 * (v5 + (σ.2.1 78 (((9 * m) + (σ.2.1 73 m)) - 1))) + (σ.2.1 79 (((9 * m) + (σ.2.1 73 m)) - 1))))), (3, .int (iI (σ.2.1 78 (((9 * m) + (σ.2.1 73 m)) - 1)))), (2, .int (iI (((9 * m) + (σ.2.1 73 m)) - 1))), (0, .ref b), (1, .int (iI m))] [.int (iI v69), .int (iI v18), .int (iI (σ.2.1 3 (220 * (v5 + (σ.2.1 78 (((9 * m) + (σ.2.1 73 m)) - 1))) + (σ.2.1 79 (((9 * m) + (σ.2.1 73 m)) - 1))))), .int (iI ((192 * (((9 * m) + (σ.2.1 73 m)) - 1)) + (σ.2.1 4 (220 * (v5 + (σ.2.1 78 (((9 * m) + (σ.2.1 73 m)) - 1))) + (σ.2.1 79 (((9 * m) + (σ.2.1 73 m)) - 1)))))), .ref (b + 1 + 53)] _
      refine tm_callS (M := m_X12_step) (pc := 552) (ix := 466) (M' := m_X12_worked) (As := [.int (iI (σ.2.1 3 (220 * (v5 + (σ.2.1 78 (((9 * m) + (σ.2.1 73 m)) - 1))) + (σ.2.1 79 (((9 * m) + (σ.2.1 73 m)) - 1))))), .int (iI v18), .int (iI v69)]) (rest := [.int (iI ((192 * (((9 * m) + (σ.2.1 73 m)) - 1)) + (σ.2.1 4 (220 * (v5 + (σ.2.1 78 (((9 * m) + (σ.2.1 73 m)) - 1))) + (σ.2.1 79 (((9 * m) + (σ.2.1 73 m)) - 1)))))), .ref (b + 1 + 53)]) dX12_step_552 ok_X12_worked stt_X12_worked ml12_466 np_X12_worked rfl (Nat.le_of_ble_eq_true rfl) (Nat.le_of_ble_eq_true rfl) rfl (c_X12_worked (d + 1) (σ := σ) (k := σ.2.1 3 (220 * (v5 + (σ.2.1 78 (((9 * m) + (σ.2.1 73 m)) - 1))) + (σ.2.1 79 (((9 * m) + (σ.2.1 73 m)) - 1)))) (x := v18) (y := v69) (by omega) (by omega) (by omega)) (fun r71 σ72 hp => ?_)
      obtain ⟨v73, rfl, rfl, f74⟩ := hp
      show Tm _ _ 555 b σ [(7, .int (iI 0)), (6, .int (iI v18)), (5, .int (iI (192 * (((9 * m) + (σ.2.1 73 m)) - 1)))), (4, .int (iI (220 * (v5 + (σ.2.1 78 (((9 * m) + (σ.2.1 73 m)) - 1))) + (σ.2.1 79 (((9 * m) + (σ.2.1 73 m)) - 1))))), (3, .int (iI (σ.2.1 78 (((9 * m) + (σ.2.1 73 m)) - 1)))), (2, .int (iI (((9 * m) + (σ.2.1 73 m)) - 1))), (0, .ref b), (1, .int (iI m))] [.int (iI v73), .int (iI ((192 * (((9 * m) + (σ.2.1 73 m)) - 1)) + (σ.2.1 4 (220 * (v5 + (σ.2.1 78 (((9 * m) + (σ.2.1 73 m)) - 1))) + (σ.2.1 79 (((9 * m) + (σ.2.1 73 m)) - 1)))))), .ref (b + 1 + 53)] _
      refine tm_iast (z := (192 * (((9 * m) + (σ.2.1 73 m)) - 1)) + (σ.2.1 4 (220 * (v5 + (σ.2.1 78 (((9 * m) + (σ.2.1 73 m)) - 1))) + (σ.2.1 79 (((9 * m) + (σ.2.1 73 m)) - 1))))) (v := v73) dX12_step_555 (show mT[53]? = some (82, 0, 5184) from rfl) (by omega) (by omega) (by decide) ?_
      refine tm_aload_n dX12_step_556 rfl 6 rfl ?_
      refine tm_get (k := 79) (v := .ref (b + 1 + 50)) lay_12 dX12_step_557 (by decide) fl12_170 rfl ?_
      refine tm_iload_n dX12_step_560 rfl 5 rfl ?_
      refine tm_dup2 dX12_step_561 rfl rfl ?_
      refine tm_iald (z := ((9 * m) + (σ.2.1 73 m)) - 1) (v := σ.2.1 79 (((9 * m) + (σ.2.1 73 m)) - 1)) dX12_step_562 (show mT[50]? = some (79, 0, 27) from rfl) (by omega) (by omega) (by decide) (ra_o (by decide) (rfl)) ?_
      have g75 := RG.a hR 79 (((9 * m) + (σ.2.1 73 m)) - 1)
      refine tm_iconst dX12_step_563 ?_
      refine tm_iadd dX12_step_564 ?_
      refine tm_iast (z := ((9 * m) + (σ.2.1 73 m)) - 1) (v := (σ.2.1 79 (((9 * m) + (σ.2.1 73 m)) - 1)) + 1) dX12_step_565 (show mT[50]? = some (79, 0, 27) from rfl) (by omega) (by omega) (by decide) ?_
      refine tm_iload dX12_step_566 0 rfl ?_
      exact tm_iret rfl dX12_step_568 (⟨_, rfl, ((Fr.rfl.A (by decide)).A (by decide)), ((hR.A (by omega)).A (by omega)), Or.inr (Or.inr ⟨by omega, hrun.top (t := 9 * m + σ.2.1 73 m - 1) rfl (show Fr [] [79, 82] [] σ (sA 79 (((9 * m) + (σ.2.1 73 m)) - 1) ((σ.2.1 79 (((9 * m) + (σ.2.1 73 m)) - 1)) + 1) (sA 82 ((192 * (((9 * m) + (σ.2.1 73 m)) - 1)) + (σ.2.1 4 (220 * (v5 + (σ.2.1 78 (((9 * m) + (σ.2.1 73 m)) - 1))) + (σ.2.1 79 (((9 * m) + (σ.2.1 73 m)) - 1))))) (v73) σ)) from ((Fr.rfl.A (by decide)).A (by decide))) (by decide) (by decide) rfl (fun _ _ _ => rfl) (fun z a b => ⟨ra_ne (by omega) rfl, rfl⟩) (by rw [show (sA 79 (((9 * m) + (σ.2.1 73 m)) - 1) ((σ.2.1 79 (((9 * m) + (σ.2.1 73 m)) - 1)) + 1) (sA 82 ((192 * (((9 * m) + (σ.2.1 73 m)) - 1)) + (σ.2.1 4 (220 * (v5 + (σ.2.1 78 (((9 * m) + (σ.2.1 73 m)) - 1))) + (σ.2.1 79 (((9 * m) + (σ.2.1 73 m)) - 1))))) (v73) σ)).2.1 79 (9 * m + σ.2.1 73 m - 1) = (σ.2.1 79 (((9 * m) + (σ.2.1 73 m)) - 1)) + 1 from ra_eq, show (sA 79 (((9 * m) + (σ.2.1 73 m)) - 1) ((σ.2.1 79 (((9 * m) + (σ.2.1 73 m)) - 1)) + 1) (sA 82 ((192 * (((9 * m) + (σ.2.1 73 m)) - 1)) + (σ.2.1 4 (220 * (v5 + (σ.2.1 78 (((9 * m) + (σ.2.1 73 m)) - 1))) + (σ.2.1 79 (((9 * m) + (σ.2.1 73 m)) - 1))))) (v73) σ)).2.1 80 (9 * m + σ.2.1 73 m - 1) = σ.2.1 80 (9 * m + σ.2.1 73 m - 1) from rfl]; exact hp.nx (by omega) (by omega) (by omega) (by omega)) (by rw [show (sA 79 (((9 * m) + (σ.2.1 73 m)) - 1) ((σ.2.1 79 (((9 * m) + (σ.2.1 73 m)) - 1)) + 1) (sA 82 ((192 * (((9 * m) + (σ.2.1 73 m)) - 1)) + (σ.2.1 4 (220 * (v5 + (σ.2.1 78 (((9 * m) + (σ.2.1 73 m)) - 1))) + (σ.2.1 79 (((9 * m) + (σ.2.1 73 m)) - 1))))) (v73) σ)).2.1 80 (9 * m + σ.2.1 73 m - 1) = σ.2.1 80 (9 * m + σ.2.1 73 m - 1) from rfl]; omega)⟩), ⟨fun j hj => ⟨rfl, rfl⟩, fun z hz => ⟨rfl, ra_ne (by omega) rfl, rfl⟩⟩, ⟨Int.le_refl _, (by show σ.2.1 76 m ≤ σ.2.1 76 m + 1; omega)⟩, fun _ => Or.inl ⟨by omega, by omega, rfl, fun _ => rfl, fun z hz => ra_ne hz rfl, Or.inl (by rw [show (sA 79 (((9 * m) + (σ.2.1 73 m)) - 1) ((σ.2.1 79 (((9 * m) + (σ.2.1 73 m)) - 1)) + 1) (sA 82 ((192 * (((9 * m) + (σ.2.1 73 m)) - 1)) + (σ.2.1 4 (220 * (v5 + (σ.2.1 78 (((9 * m) + (σ.2.1 73 m)) - 1))) + (σ.2.1 79 (((9 * m) + (σ.2.1 73 m)) - 1))))) (v73) σ)).2.1 79 (9 * m + σ.2.1 73 m - 1) = (σ.2.1 79 (((9 * m) + (σ.2.1 73 m)) - 1)) + 1 from ra_eq])⟩⟩)
    · refine tm_tableIn (tgt := 502) dX12_step_82 ⟨by omega, by omega⟩ (by omega) (by omega) (show _ = some (420) by rw [h21v]; rfl) (by decide) ?_
      have ho2 := hoki.2.1 (Or.inl (by omega))
      have ho81 := ho8 1 (by decide) (by decide)
      refine tm_aload_n dX12_step_502 rfl 6 rfl ?_
      refine tm_get (k := 82) (v := .ref (b + 1 + 53)) lay_12 dX12_step_503 (by decide) fl12_179 rfl ?_
      refine tm_iload dX12_step_506 2 rfl ?_
      refine tm_aload_n dX12_step_508 rfl 6 rfl ?_
      refine tm_get (k := 4) (v := .ref (b + 1 + 2)) lay_12 dX12_step_509 (by decide) fl12_17 rfl ?_
      refine tm_iload dX12_step_512 3 rfl ?_
      refine tm_iald (z := 220 * (v5 + (σ.2.1 78 (((9 * m) + (σ.2.1 73 m)) - 1))) + (σ.2.1 79 (((9 * m) + (σ.2.1 73 m)) - 1))) (v := σ.2.1 4 (220 * (v5 + (σ.2.1 78 (((9 * m) + (σ.2.1 73 m)) - 1))) + (σ.2.1 79 (((9 * m) + (σ.2.1 73 m)) - 1)))) dX12_step_514 (show mT[2]? = some (4, 0, 2860) from rfl) (by omega) (by omega) (by decide) (rfl) ?_
      have g76 := RG.a hR 4 (220 * (v5 + (σ.2.1 78 (((9 * m) + (σ.2.1 73 m)) - 1))) + (σ.2.1 79 (((9 * m) + (σ.2.1 73 m)) - 1)))
      refine tm_iadd dX12_step_515 ?_
      refine tm_aload_n dX12_step_516 rfl 6 rfl ?_
      refine tm_get (k := 3) (v := .ref (b + 1 + 1)) lay_12 dX12_step_517 (by decide) fl12_13 rfl ?_
      refine tm_iload dX12_step_520 3 rfl ?_
      refine tm_iald (z := 220 * (v5 + (σ.2.1 78 (((9 * m) + (σ.2.1 73 m)) - 1))) + (σ.2.1 79 (((9 * m) + (σ.2.1 73 m)) - 1))) (v := σ.2.1 3 (220 * (v5 + (σ.2.1 78 (((9 * m) + (σ.2.1 73 m)) - 1))) + (σ.2.1 79 (((9 * m) + (σ.2.1 73 m)) - 1)))) dX12_step_522 (show mT[1]? = some (3, 0, 2860) from rfl) (by omega) (by omega) (by decide) (rfl) ?_
      have g77 := RG.a hR 3 (220 * (v5 + (σ.2.1 78 (((9 * m) + (σ.2.1 73 m)) - 1))) + (σ.2.1 79 (((9 * m) + (σ.2.1 73 m)) - 1)))
      refine tm_iload dX12_step_523 1 rfl ?_
      refine tm_aload_n dX12_step_525 rfl 6 rfl ?_
      refine tm_iload_n dX12_step_526 rfl 5 rfl ?_
      refine tm_aload_n dX12_step_527 rfl 6 rfl ?_
      refine tm_get (k := 7) (v := .ref (b + 1 + 5)) lay_12 dX12_step_528 (by decide) fl12_26 rfl ?_
      refine tm_iconst dX12_step_531 ?_
      refine tm_iload dX12_step_532 3 rfl ?_
      refine tm_imul dX12_step_534 ?_
      refine tm_iconst dX12_step_535 ?_
      refine tm_iadd dX12_step_536 ?_
      refine tm_iald (z := (4 * (220 * (v5 + (σ.2.1 78 (((9 * m) + (σ.2.1 73 m)) - 1))) + (σ.2.1 79 (((9 * m) + (σ.2.1 73 m)) - 1)))) + 1) (v := σ.2.1 7 ((4 * (220 * (v5 + (σ.2.1 78 (((9 * m) + (σ.2.1 73 m)) - 1))) + (σ.2.1 79 (((9 * m) + (σ.2.1 73 m)) - 1)))) + 1)) dX12_step_537 (show mT[5]? = some (7, 0, 11440) from rfl) (by omega) (by omega) (by decide) (rfl) ?_
      have g78 := RG.a hR 7 ((4 * (220 * (v5 + (σ.2.1 78 (((9 * m) + (σ.2.1 73 m)) - 1))) + (σ.2.1 79 (((9 * m) + (σ.2.1 73 m)) - 1)))) + 1)
      refine tm_aload_n dX12_step_538 rfl 6 rfl ?_
      refine tm_get (k := 8) (v := .ref (b + 1 + 6)) lay_12 dX12_step_539 (by decide) fl12_29 rfl ?_
      refine tm_iconst dX12_step_542 ?_
      refine tm_iload dX12_step_543 3 rfl ?_
      refine tm_imul dX12_step_545 ?_
      refine tm_iconst dX12_step_546 ?_
      refine tm_iadd dX12_step_547 ?_
      refine tm_iald (z := (4 * (220 * (v5 + (σ.2.1 78 (((9 * m) + (σ.2.1 73 m)) - 1))) + (σ.2.1 79 (((9 * m) + (σ.2.1 73 m)) - 1)))) + 1) (v := σ.2.1 8 ((4 * (220 * (v5 + (σ.2.1 78 (((9 * m) + (σ.2.1 73 m)) - 1))) + (σ.2.1 79 (((9 * m) + (σ.2.1 73 m)) - 1)))) + 1)) dX12_step_548 (show mT[6]? = some (8, 0, 11440) from rfl) (by omega) (by omega) (by decide) (rfl) ?_
      have g79 := RG.a hR 8 ((4 * (220 * (v5 + (σ.2.1 78 (((9 * m) + (σ.2.1 73 m)) - 1))) + (σ.2.1 79 (((9 * m) + (σ.2.1 73 m)) - 1)))) + 1)
      refine tm_callV (M := m_X12_step) (pc := 549) (ix := 545) (M' := m_X12_worth) (As := [.int (iI (((9 * m) + (σ.2.1 73 m)) - 1)), .int (iI (σ.2.1 7 ((4 * (220 * (v5 + (σ.2.1 78 (((9 * m) + (σ.2.1 73 m)) - 1))) + (σ.2.1 79 (((9 * m) + (σ.2.1 73 m)) - 1)))) + 1))), .int (iI (σ.2.1 8 ((4 * (220 * (v5 + (σ.2.1 78 (((9 * m) + (σ.2.1 73 m)) - 1))) + (σ.2.1 79 (((9 * m) + (σ.2.1 73 m)) - 1)))) + 1)))]) (rest := [.int (iI v18), .int (iI (σ.2.1 3 (220 * (v5 + (σ.2.1 78 (((9 * m) + (σ.2.1 73 m)) - 1))) + (σ.2.1 79 (((9 * m) + (σ.2.1 73 m)) - 1))))), .int (iI ((192 * (((9 * m) + (σ.2.1 73 m)) - 1)) + (σ.2.1 4 (220 * (v5 + (σ.2.1 78 (((9 * m) + (σ.2.1 73 m)) - 1))) + (σ.2.1 79 (((9 * m) + (σ.2.1 73 m)) - 1)))))), .ref (b + 1 + 53)]) dX12_step_549 ok_X12_worth im_X12_worth se_X12_worth ml12_545 np_X12_worth rfl rfl (Nat.le_of_ble_eq_true rfl) (Nat.le_of_ble_eq_true rfl) rfl (c_X12_worth (d + 1) (σ := σ) (c := ((9 * m) + (σ.2.1 73 m)) - 1) (k := σ.2.1 7 ((4 * (220 * (v5 + (σ.2.1 78 (((9 * m) + (σ.2.1 73 m)) - 1))) + (σ.2.1 79 (((9 * m) + (σ.2.1 73 m)) - 1)))) + 1)) (w := σ.2.1 8 ((4 * (220 * (v5 + (σ.2.1 78 (((9 * m) + (σ.2.1 73 m)) - 1))) + (σ.2.1 79 (((9 * m) + (σ.2.1 73 m)) - 1)))) + 1)) (by omega) hR (by omega) (by omega)) (fun r80 σ81 hp => ?_)
      obtain ⟨v82, rfl, rfl, f83⟩ := hp
      show Tm _ _ 552 b σ [(7, .int (iI 0)), (6, .int (iI v18)), (5, .int (iI (192 * (((9 * m) + (σ.2.1 73 m)) - 1)))), (4, .int (iI (220 * (v5 + (σ.2.1 78 (((9 * m) + (σ.2.1 73 m)) - 1))) + (σ.2.1 79 (((9 * m) + (σ.2.1 73 m)) - 1))))), (3, .int (iI (σ.2.1 78 (((9 * m) + (σ.2.1 73 m)) - 1)))), (2, .int (iI (((9 * m) + (σ.2.1 73 m)) - 1))), (0, .ref b), (1, .int (iI m))] [.int (iI v82), .int (iI v18), .int (iI (σ.2.1 3 (220 * (v5 + (σ.2.1 78 (((9 * m) + (σ.2.1 73 m)) - 1))) + (σ.2.1 79 (((9 * m) + (σ.2.1 73 m)) - 1))))), .int (iI ((192 * (((9 * m) + (σ.2.1 73 m)) - 1)) + (σ.2.1 4 (220 * (v5 + (σ.2.1 78 (((9 * m) + (σ.2.1 73 m)) - 1))) + (σ.2.1 79 (((9 * m) + (σ.2.1 73 m)) - 1)))))), .ref (b + 1 + 53)] _
      refine tm_callS (M := m_X12_step) (pc := 552) (ix := 466) (M' := m_X12_worked) (As := [.int (iI (σ.2.1 3 (220 * (v5 + (σ.2.1 78 (((9 * m) + (σ.2.1 73 m)) - 1))) + (σ.2.1 79 (((9 * m) + (σ.2.1 73 m)) - 1))))), .int (iI v18), .int (iI v82)]) (rest := [.int (iI ((192 * (((9 * m) + (σ.2.1 73 m)) - 1)) + (σ.2.1 4 (220 * (v5 + (σ.2.1 78 (((9 * m) + (σ.2.1 73 m)) - 1))) + (σ.2.1 79 (((9 * m) + (σ.2.1 73 m)) - 1)))))), .ref (b + 1 + 53)]) dX12_step_552 ok_X12_worked stt_X12_worked ml12_466 np_X12_worked rfl (Nat.le_of_ble_eq_true rfl) (Nat.le_of_ble_eq_true rfl) rfl (c_X12_worked (d + 1) (σ := σ) (k := σ.2.1 3 (220 * (v5 + (σ.2.1 78 (((9 * m) + (σ.2.1 73 m)) - 1))) + (σ.2.1 79 (((9 * m) + (σ.2.1 73 m)) - 1)))) (x := v18) (y := v82) (by omega) (by omega) (by omega)) (fun r84 σ85 hp => ?_)
      obtain ⟨v86, rfl, rfl, f87⟩ := hp
      show Tm _ _ 555 b σ [(7, .int (iI 0)), (6, .int (iI v18)), (5, .int (iI (192 * (((9 * m) + (σ.2.1 73 m)) - 1)))), (4, .int (iI (220 * (v5 + (σ.2.1 78 (((9 * m) + (σ.2.1 73 m)) - 1))) + (σ.2.1 79 (((9 * m) + (σ.2.1 73 m)) - 1))))), (3, .int (iI (σ.2.1 78 (((9 * m) + (σ.2.1 73 m)) - 1)))), (2, .int (iI (((9 * m) + (σ.2.1 73 m)) - 1))), (0, .ref b), (1, .int (iI m))] [.int (iI v86), .int (iI ((192 * (((9 * m) + (σ.2.1 73 m)) - 1)) + (σ.2.1 4 (220 * (v5 + (σ.2.1 78 (((9 * m) + (σ.2.1 73 m)) - 1))) + (σ.2.1 79 (((9 * m) + (σ.2.1 73 m)) - 1)))))), .ref (b + 1 + 53)] _
      refine tm_iast (z := (192 * (((9 * m) + (σ.2.1 73 m)) - 1)) + (σ.2.1 4 (220 * (v5 + (σ.2.1 78 (((9 * m) + (σ.2.1 73 m)) - 1))) + (σ.2.1 79 (((9 * m) + (σ.2.1 73 m)) - 1))))) (v := v86) dX12_step_555 (show mT[53]? = some (82, 0, 5184) from rfl) (by omega) (by omega) (by decide) ?_
      refine tm_aload_n dX12_step_556 rfl 6 rfl ?_
      refine tm_get (k := 79) (v := .ref (b + 1 + 50)) lay_12 dX12_step_557 (by decide) fl12_170 rfl ?_
      refine tm_iload_n dX12_step_560 rfl 5 rfl ?_
      refine tm_dup2 dX12_step_561 rfl rfl ?_
      refine tm_iald (z := ((9 * m) + (σ.2.1 73 m)) - 1) (v := σ.2.1 79 (((9 * m) + (σ.2.1 73 m)) - 1)) dX12_step_562 (show mT[50]? = some (79, 0, 27) from rfl) (by omega) (by omega) (by decide) (ra_o (by decide) (rfl)) ?_
      have g88 := RG.a hR 79 (((9 * m) + (σ.2.1 73 m)) - 1)
      refine tm_iconst dX12_step_563 ?_
      refine tm_iadd dX12_step_564 ?_
      refine tm_iast (z := ((9 * m) + (σ.2.1 73 m)) - 1) (v := (σ.2.1 79 (((9 * m) + (σ.2.1 73 m)) - 1)) + 1) dX12_step_565 (show mT[50]? = some (79, 0, 27) from rfl) (by omega) (by omega) (by decide) ?_
      refine tm_iload dX12_step_566 0 rfl ?_
      exact tm_iret rfl dX12_step_568 (⟨_, rfl, ((Fr.rfl.A (by decide)).A (by decide)), ((hR.A (by omega)).A (by omega)), Or.inr (Or.inr ⟨by omega, hrun.top (t := 9 * m + σ.2.1 73 m - 1) rfl (show Fr [] [79, 82] [] σ (sA 79 (((9 * m) + (σ.2.1 73 m)) - 1) ((σ.2.1 79 (((9 * m) + (σ.2.1 73 m)) - 1)) + 1) (sA 82 ((192 * (((9 * m) + (σ.2.1 73 m)) - 1)) + (σ.2.1 4 (220 * (v5 + (σ.2.1 78 (((9 * m) + (σ.2.1 73 m)) - 1))) + (σ.2.1 79 (((9 * m) + (σ.2.1 73 m)) - 1))))) (v86) σ)) from ((Fr.rfl.A (by decide)).A (by decide))) (by decide) (by decide) rfl (fun _ _ _ => rfl) (fun z a b => ⟨ra_ne (by omega) rfl, rfl⟩) (by rw [show (sA 79 (((9 * m) + (σ.2.1 73 m)) - 1) ((σ.2.1 79 (((9 * m) + (σ.2.1 73 m)) - 1)) + 1) (sA 82 ((192 * (((9 * m) + (σ.2.1 73 m)) - 1)) + (σ.2.1 4 (220 * (v5 + (σ.2.1 78 (((9 * m) + (σ.2.1 73 m)) - 1))) + (σ.2.1 79 (((9 * m) + (σ.2.1 73 m)) - 1))))) (v86) σ)).2.1 79 (9 * m + σ.2.1 73 m - 1) = (σ.2.1 79 (((9 * m) + (σ.2.1 73 m)) - 1)) + 1 from ra_eq, show (sA 79 (((9 * m) + (σ.2.1 73 m)) - 1) ((σ.2.1 79 (((9 * m) + (σ.2.1 73 m)) - 1)) + 1) (sA 82 ((192 * (((9 * m) + (σ.2.1 73 m)) - 1)) + (σ.2.1 4 (220 * (v5 + (σ.2.1 78 (((9 * m) + (σ.2.1 73 m)) - 1))) + (σ.2.1 79 (((9 * m) + (σ.2.1 73 m)) - 1))))) (v86) σ)).2.1 80 (9 * m + σ.2.1 73 m - 1) = σ.2.1 80 (9 * m + σ.2.1 73 m - 1) from rfl]; exact hp.nx (by omega) (by omega) (by omega) (by omega)) (by rw [show (sA 79 (((9 * m) + (σ.2.1 73 m)) - 1) ((σ.2.1 79 (((9 * m) + (σ.2.1 73 m)) - 1)) + 1) (sA 82 ((192 * (((9 * m) + (σ.2.1 73 m)) - 1)) + (σ.2.1 4 (220 * (v5 + (σ.2.1 78 (((9 * m) + (σ.2.1 73 m)) - 1))) + (σ.2.1 79 (((9 * m) + (σ.2.1 73 m)) - 1))))) (v86) σ)).2.1 80 (9 * m + σ.2.1 73 m - 1) = σ.2.1 80 (9 * m + σ.2.1 73 m - 1) from rfl]; omega)⟩), ⟨fun j hj => ⟨rfl, rfl⟩, fun z hz => ⟨rfl, ra_ne (by omega) rfl, rfl⟩⟩, ⟨Int.le_refl _, (by show σ.2.1 76 m ≤ σ.2.1 76 m + 1; omega)⟩, fun _ => Or.inl ⟨by omega, by omega, rfl, fun _ => rfl, fun z hz => ra_ne hz rfl, Or.inl (by rw [show (sA 79 (((9 * m) + (σ.2.1 73 m)) - 1) ((σ.2.1 79 (((9 * m) + (σ.2.1 73 m)) - 1)) + 1) (sA 82 ((192 * (((9 * m) + (σ.2.1 73 m)) - 1)) + (σ.2.1 4 (220 * (v5 + (σ.2.1 78 (((9 * m) + (σ.2.1 73 m)) - 1))) + (σ.2.1 79 (((9 * m) + (σ.2.1 73 m)) - 1))))) (v86) σ)).2.1 79 (9 * m + σ.2.1 73 m - 1) = (σ.2.1 79 (((9 * m) + (σ.2.1 73 m)) - 1)) + 1 from ra_eq])⟩⟩)
    · refine tm_tableIn (tgt := 502) dX12_step_82 ⟨by omega, by omega⟩ (by omega) (by omega) (show _ = some (420) by rw [h21v]; rfl) (by decide) ?_
      have ho2 := hoki.2.1 (Or.inl (by omega))
      have ho81 := ho8 1 (by decide) (by decide)
      refine tm_aload_n dX12_step_502 rfl 6 rfl ?_
      refine tm_get (k := 82) (v := .ref (b + 1 + 53)) lay_12 dX12_step_503 (by decide) fl12_179 rfl ?_
      refine tm_iload dX12_step_506 2 rfl ?_
      refine tm_aload_n dX12_step_508 rfl 6 rfl ?_
      refine tm_get (k := 4) (v := .ref (b + 1 + 2)) lay_12 dX12_step_509 (by decide) fl12_17 rfl ?_
      refine tm_iload dX12_step_512 3 rfl ?_
      refine tm_iald (z := 220 * (v5 + (σ.2.1 78 (((9 * m) + (σ.2.1 73 m)) - 1))) + (σ.2.1 79 (((9 * m) + (σ.2.1 73 m)) - 1))) (v := σ.2.1 4 (220 * (v5 + (σ.2.1 78 (((9 * m) + (σ.2.1 73 m)) - 1))) + (σ.2.1 79 (((9 * m) + (σ.2.1 73 m)) - 1)))) dX12_step_514 (show mT[2]? = some (4, 0, 2860) from rfl) (by omega) (by omega) (by decide) (rfl) ?_
      have g89 := RG.a hR 4 (220 * (v5 + (σ.2.1 78 (((9 * m) + (σ.2.1 73 m)) - 1))) + (σ.2.1 79 (((9 * m) + (σ.2.1 73 m)) - 1)))
      refine tm_iadd dX12_step_515 ?_
      refine tm_aload_n dX12_step_516 rfl 6 rfl ?_
      refine tm_get (k := 3) (v := .ref (b + 1 + 1)) lay_12 dX12_step_517 (by decide) fl12_13 rfl ?_
      refine tm_iload dX12_step_520 3 rfl ?_
      refine tm_iald (z := 220 * (v5 + (σ.2.1 78 (((9 * m) + (σ.2.1 73 m)) - 1))) + (σ.2.1 79 (((9 * m) + (σ.2.1 73 m)) - 1))) (v := σ.2.1 3 (220 * (v5 + (σ.2.1 78 (((9 * m) + (σ.2.1 73 m)) - 1))) + (σ.2.1 79 (((9 * m) + (σ.2.1 73 m)) - 1)))) dX12_step_522 (show mT[1]? = some (3, 0, 2860) from rfl) (by omega) (by omega) (by decide) (rfl) ?_
      have g90 := RG.a hR 3 (220 * (v5 + (σ.2.1 78 (((9 * m) + (σ.2.1 73 m)) - 1))) + (σ.2.1 79 (((9 * m) + (σ.2.1 73 m)) - 1)))
      refine tm_iload dX12_step_523 1 rfl ?_
      refine tm_aload_n dX12_step_525 rfl 6 rfl ?_
      refine tm_iload_n dX12_step_526 rfl 5 rfl ?_
      refine tm_aload_n dX12_step_527 rfl 6 rfl ?_
      refine tm_get (k := 7) (v := .ref (b + 1 + 5)) lay_12 dX12_step_528 (by decide) fl12_26 rfl ?_
      refine tm_iconst dX12_step_531 ?_
      refine tm_iload dX12_step_532 3 rfl ?_
      refine tm_imul dX12_step_534 ?_
      refine tm_iconst dX12_step_535 ?_
      refine tm_iadd dX12_step_536 ?_
      refine tm_iald (z := (4 * (220 * (v5 + (σ.2.1 78 (((9 * m) + (σ.2.1 73 m)) - 1))) + (σ.2.1 79 (((9 * m) + (σ.2.1 73 m)) - 1)))) + 1) (v := σ.2.1 7 ((4 * (220 * (v5 + (σ.2.1 78 (((9 * m) + (σ.2.1 73 m)) - 1))) + (σ.2.1 79 (((9 * m) + (σ.2.1 73 m)) - 1)))) + 1)) dX12_step_537 (show mT[5]? = some (7, 0, 11440) from rfl) (by omega) (by omega) (by decide) (rfl) ?_
      have g91 := RG.a hR 7 ((4 * (220 * (v5 + (σ.2.1 78 (((9 * m) + (σ.2.1 73 m)) - 1))) + (σ.2.1 79 (((9 * m) + (σ.2.1 73 m)) - 1)))) + 1)
      refine tm_aload_n dX12_step_538 rfl 6 rfl ?_
      refine tm_get (k := 8) (v := .ref (b + 1 + 6)) lay_12 dX12_step_539 (by decide) fl12_29 rfl ?_
      refine tm_iconst dX12_step_542 ?_
      refine tm_iload dX12_step_543 3 rfl ?_
      refine tm_imul dX12_step_545 ?_
      refine tm_iconst dX12_step_546 ?_
      refine tm_iadd dX12_step_547 ?_
      refine tm_iald (z := (4 * (220 * (v5 + (σ.2.1 78 (((9 * m) + (σ.2.1 73 m)) - 1))) + (σ.2.1 79 (((9 * m) + (σ.2.1 73 m)) - 1)))) + 1) (v := σ.2.1 8 ((4 * (220 * (v5 + (σ.2.1 78 (((9 * m) + (σ.2.1 73 m)) - 1))) + (σ.2.1 79 (((9 * m) + (σ.2.1 73 m)) - 1)))) + 1)) dX12_step_548 (show mT[6]? = some (8, 0, 11440) from rfl) (by omega) (by omega) (by decide) (rfl) ?_
      have g92 := RG.a hR 8 ((4 * (220 * (v5 + (σ.2.1 78 (((9 * m) + (σ.2.1 73 m)) - 1))) + (σ.2.1 79 (((9 * m) + (σ.2.1 73 m)) - 1)))) + 1)
      refine tm_callV (M := m_X12_step) (pc := 549) (ix := 545) (M' := m_X12_worth) (As := [.int (iI (((9 * m) + (σ.2.1 73 m)) - 1)), .int (iI (σ.2.1 7 ((4 * (220 * (v5 + (σ.2.1 78 (((9 * m) + (σ.2.1 73 m)) - 1))) + (σ.2.1 79 (((9 * m) + (σ.2.1 73 m)) - 1)))) + 1))), .int (iI (σ.2.1 8 ((4 * (220 * (v5 + (σ.2.1 78 (((9 * m) + (σ.2.1 73 m)) - 1))) + (σ.2.1 79 (((9 * m) + (σ.2.1 73 m)) - 1)))) + 1)))]) (rest := [.int (iI v18), .int (iI (σ.2.1 3 (220 * (v5 + (σ.2.1 78 (((9 * m) + (σ.2.1 73 m)) - 1))) + (σ.2.1 79 (((9 * m) + (σ.2.1 73 m)) - 1))))), .int (iI ((192 * (((9 * m) + (σ.2.1 73 m)) - 1)) + (σ.2.1 4 (220 * (v5 + (σ.2.1 78 (((9 * m) + (σ.2.1 73 m)) - 1))) + (σ.2.1 79 (((9 * m) + (σ.2.1 73 m)) - 1)))))), .ref (b + 1 + 53)]) dX12_step_549 ok_X12_worth im_X12_worth se_X12_worth ml12_545 np_X12_worth rfl rfl (Nat.le_of_ble_eq_true rfl) (Nat.le_of_ble_eq_true rfl) rfl (c_X12_worth (d + 1) (σ := σ) (c := ((9 * m) + (σ.2.1 73 m)) - 1) (k := σ.2.1 7 ((4 * (220 * (v5 + (σ.2.1 78 (((9 * m) + (σ.2.1 73 m)) - 1))) + (σ.2.1 79 (((9 * m) + (σ.2.1 73 m)) - 1)))) + 1)) (w := σ.2.1 8 ((4 * (220 * (v5 + (σ.2.1 78 (((9 * m) + (σ.2.1 73 m)) - 1))) + (σ.2.1 79 (((9 * m) + (σ.2.1 73 m)) - 1)))) + 1)) (by omega) hR (by omega) (by omega)) (fun r93 σ94 hp => ?_)
      obtain ⟨v95, rfl, rfl, f96⟩ := hp
      show Tm _ _ 552 b σ [(7, .int (iI 0)), (6, .int (iI v18)), (5, .int (iI (192 * (((9 * m) + (σ.2.1 73 m)) - 1)))), (4, .int (iI (220 * (v5 + (σ.2.1 78 (((9 * m) + (σ.2.1 73 m)) - 1))) + (σ.2.1 79 (((9 * m) + (σ.2.1 73 m)) - 1))))), (3, .int (iI (σ.2.1 78 (((9 * m) + (σ.2.1 73 m)) - 1)))), (2, .int (iI (((9 * m) + (σ.2.1 73 m)) - 1))), (0, .ref b), (1, .int (iI m))] [.int (iI v95), .int (iI v18), .int (iI (σ.2.1 3 (220 * (v5 + (σ.2.1 78 (((9 * m) + (σ.2.1 73 m)) - 1))) + (σ.2.1 79 (((9 * m) + (σ.2.1 73 m)) - 1))))), .int (iI ((192 * (((9 * m) + (σ.2.1 73 m)) - 1)) + (σ.2.1 4 (220 * (v5 + (σ.2.1 78 (((9 * m) + (σ.2.1 73 m)) - 1))) + (σ.2.1 79 (((9 * m) + (σ.2.1 73 m)) - 1)))))), .ref (b + 1 + 53)] _
      refine tm_callS (M := m_X12_step) (pc := 552) (ix := 466) (M' := m_X12_worked) (As := [.int (iI (σ.2.1 3 (220 * (v5 + (σ.2.1 78 (((9 * m) + (σ.2.1 73 m)) - 1))) + (σ.2.1 79 (((9 * m) + (σ.2.1 73 m)) - 1))))), .int (iI v18), .int (iI v95)]) (rest := [.int (iI ((192 * (((9 * m) + (σ.2.1 73 m)) - 1)) + (σ.2.1 4 (220 * (v5 + (σ.2.1 78 (((9 * m) + (σ.2.1 73 m)) - 1))) + (σ.2.1 79 (((9 * m) + (σ.2.1 73 m)) - 1)))))), .ref (b + 1 + 53)]) dX12_step_552 ok_X12_worked stt_X12_worked ml12_466 np_X12_worked rfl (Nat.le_of_ble_eq_true rfl) (Nat.le_of_ble_eq_true rfl) rfl (c_X12_worked (d + 1) (σ := σ) (k := σ.2.1 3 (220 * (v5 + (σ.2.1 78 (((9 * m) + (σ.2.1 73 m)) - 1))) + (σ.2.1 79 (((9 * m) + (σ.2.1 73 m)) - 1)))) (x := v18) (y := v95) (by omega) (by omega) (by omega)) (fun r97 σ98 hp => ?_)
      obtain ⟨v99, rfl, rfl, f100⟩ := hp
      show Tm _ _ 555 b σ [(7, .int (iI 0)), (6, .int (iI v18)), (5, .int (iI (192 * (((9 * m) + (σ.2.1 73 m)) - 1)))), (4, .int (iI (220 * (v5 + (σ.2.1 78 (((9 * m) + (σ.2.1 73 m)) - 1))) + (σ.2.1 79 (((9 * m) + (σ.2.1 73 m)) - 1))))), (3, .int (iI (σ.2.1 78 (((9 * m) + (σ.2.1 73 m)) - 1)))), (2, .int (iI (((9 * m) + (σ.2.1 73 m)) - 1))), (0, .ref b), (1, .int (iI m))] [.int (iI v99), .int (iI ((192 * (((9 * m) + (σ.2.1 73 m)) - 1)) + (σ.2.1 4 (220 * (v5 + (σ.2.1 78 (((9 * m) + (σ.2.1 73 m)) - 1))) + (σ.2.1 79 (((9 * m) + (σ.2.1 73 m)) - 1)))))), .ref (b + 1 + 53)] _
      refine tm_iast (z := (192 * (((9 * m) + (σ.2.1 73 m)) - 1)) + (σ.2.1 4 (220 * (v5 + (σ.2.1 78 (((9 * m) + (σ.2.1 73 m)) - 1))) + (σ.2.1 79 (((9 * m) + (σ.2.1 73 m)) - 1))))) (v := v99) dX12_step_555 (show mT[53]? = some (82, 0, 5184) from rfl) (by omega) (by omega) (by decide) ?_
      refine tm_aload_n dX12_step_556 rfl 6 rfl ?_
      refine tm_get (k := 79) (v := .ref (b + 1 + 50)) lay_12 dX12_step_557 (by decide) fl12_170 rfl ?_
      refine tm_iload_n dX12_step_560 rfl 5 rfl ?_
      refine tm_dup2 dX12_step_561 rfl rfl ?_
      refine tm_iald (z := ((9 * m) + (σ.2.1 73 m)) - 1) (v := σ.2.1 79 (((9 * m) + (σ.2.1 73 m)) - 1)) dX12_step_562 (show mT[50]? = some (79, 0, 27) from rfl) (by omega) (by omega) (by decide) (ra_o (by decide) (rfl)) ?_
      have g101 := RG.a hR 79 (((9 * m) + (σ.2.1 73 m)) - 1)
      refine tm_iconst dX12_step_563 ?_
      refine tm_iadd dX12_step_564 ?_
      refine tm_iast (z := ((9 * m) + (σ.2.1 73 m)) - 1) (v := (σ.2.1 79 (((9 * m) + (σ.2.1 73 m)) - 1)) + 1) dX12_step_565 (show mT[50]? = some (79, 0, 27) from rfl) (by omega) (by omega) (by decide) ?_
      refine tm_iload dX12_step_566 0 rfl ?_
      exact tm_iret rfl dX12_step_568 (⟨_, rfl, ((Fr.rfl.A (by decide)).A (by decide)), ((hR.A (by omega)).A (by omega)), Or.inr (Or.inr ⟨by omega, hrun.top (t := 9 * m + σ.2.1 73 m - 1) rfl (show Fr [] [79, 82] [] σ (sA 79 (((9 * m) + (σ.2.1 73 m)) - 1) ((σ.2.1 79 (((9 * m) + (σ.2.1 73 m)) - 1)) + 1) (sA 82 ((192 * (((9 * m) + (σ.2.1 73 m)) - 1)) + (σ.2.1 4 (220 * (v5 + (σ.2.1 78 (((9 * m) + (σ.2.1 73 m)) - 1))) + (σ.2.1 79 (((9 * m) + (σ.2.1 73 m)) - 1))))) (v99) σ)) from ((Fr.rfl.A (by decide)).A (by decide))) (by decide) (by decide) rfl (fun _ _ _ => rfl) (fun z a b => ⟨ra_ne (by omega) rfl, rfl⟩) (by rw [show (sA 79 (((9 * m) + (σ.2.1 73 m)) - 1) ((σ.2.1 79 (((9 * m) + (σ.2.1 73 m)) - 1)) + 1) (sA 82 ((192 * (((9 * m) + (σ.2.1 73 m)) - 1)) + (σ.2.1 4 (220 * (v5 + (σ.2.1 78 (((9 * m) + (σ.2.1 73 m)) - 1))) + (σ.2.1 79 (((9 * m) + (σ.2.1 73 m)) - 1))))) (v99) σ)).2.1 79 (9 * m + σ.2.1 73 m - 1) = (σ.2.1 79 (((9 * m) + (σ.2.1 73 m)) - 1)) + 1 from ra_eq, show (sA 79 (((9 * m) + (σ.2.1 73 m)) - 1) ((σ.2.1 79 (((9 * m) + (σ.2.1 73 m)) - 1)) + 1) (sA 82 ((192 * (((9 * m) + (σ.2.1 73 m)) - 1)) + (σ.2.1 4 (220 * (v5 + (σ.2.1 78 (((9 * m) + (σ.2.1 73 m)) - 1))) + (σ.2.1 79 (((9 * m) + (σ.2.1 73 m)) - 1))))) (v99) σ)).2.1 80 (9 * m + σ.2.1 73 m - 1) = σ.2.1 80 (9 * m + σ.2.1 73 m - 1) from rfl]; exact hp.nx (by omega) (by omega) (by omega) (by omega)) (by rw [show (sA 79 (((9 * m) + (σ.2.1 73 m)) - 1) ((σ.2.1 79 (((9 * m) + (σ.2.1 73 m)) - 1)) + 1) (sA 82 ((192 * (((9 * m) + (σ.2.1 73 m)) - 1)) + (σ.2.1 4 (220 * (v5 + (σ.2.1 78 (((9 * m) + (σ.2.1 73 m)) - 1))) + (σ.2.1 79 (((9 * m) + (σ.2.1 73 m)) - 1))))) (v99) σ)).2.1 80 (9 * m + σ.2.1 73 m - 1) = σ.2.1 80 (9 * m + σ.2.1 73 m - 1) from rfl]; omega)⟩), ⟨fun j hj => ⟨rfl, rfl⟩, fun z hz => ⟨rfl, ra_ne (by omega) rfl, rfl⟩⟩, ⟨Int.le_refl _, (by show σ.2.1 76 m ≤ σ.2.1 76 m + 1; omega)⟩, fun _ => Or.inl ⟨by omega, by omega, rfl, fun _ => rfl, fun z hz => ra_ne hz rfl, Or.inl (by rw [show (sA 79 (((9 * m) + (σ.2.1 73 m)) - 1) ((σ.2.1 79 (((9 * m) + (σ.2.1 73 m)) - 1)) + 1) (sA 82 ((192 * (((9 * m) + (σ.2.1 73 m)) - 1)) + (σ.2.1 4 (220 * (v5 + (σ.2.1 78 (((9 * m) + (σ.2.1 73 m)) - 1))) + (σ.2.1 79 (((9 * m) + (σ.2.1 73 m)) - 1))))) (v99) σ)).2.1 79 (9 * m + σ.2.1 73 m - 1) = (σ.2.1 79 (((9 * m) + (σ.2.1 73 m)) - 1)) + 1 from ra_eq])⟩⟩)
    · refine tm_tableIn (tgt := 180) dX12_step_82 ⟨by omega, by omega⟩ (by omega) (by omega) (show _ = some (98) by rw [h21v]; rfl) (by decide) ?_
      refine tm_aload_n dX12_step_180 rfl 6 rfl ?_
      refine tm_get (k := 76) (v := .ref (b + 1 + 47)) lay_12 dX12_step_181 (by decide) fl12_161 rfl ?_
      refine tm_iload_n dX12_step_184 rfl 7 rfl ?_
      refine tm_iald (z := m) (v := σ.2.1 76 m) dX12_step_185 (show mT[47]? = some (76, 0, 3) from rfl) (by omega) (by omega) (by decide) (rfl) ?_
      have g102 := RG.a hR 76 (m)
      refine tm_sipush dX12_step_186 (by decide) ?_
      refine tm_icmp_ge (tgt := 211) dX12_step_189 (by decide) ⟨by omega, by omega⟩ ⟨by decide, by decide⟩ (fun h103 => ?_) (fun h103 => ?_)
      · refine tm_aload_n dX12_step_211 rfl 6 rfl ?_
        refine tm_get (k := 76) (v := .ref (b + 1 + 47)) lay_12 dX12_step_212 (by decide) fl12_161 rfl ?_
        refine tm_iload_n dX12_step_215 rfl 7 rfl ?_
        refine tm_dup2 dX12_step_216 rfl rfl ?_
        refine tm_iald (z := m) (v := σ.2.1 76 m) dX12_step_217 (show mT[47]? = some (76, 0, 3) from rfl) (by omega) (by omega) (by decide) (rfl) ?_
        have g104 := RG.a hR 76 (m)
        refine tm_iconst dX12_step_218 ?_
        refine tm_iadd dX12_step_219 ?_
        refine tm_iast (z := m) (v := (σ.2.1 76 m) + 1) dX12_step_220 (show mT[47]? = some (76, 0, 3) from rfl) (by omega) (by omega) (by decide) ?_
        refine tm_goto (tgt := 556) dX12_step_221 (by decide) ?_
        refine tm_aload_n dX12_step_556 rfl 6 rfl ?_
        refine tm_get (k := 79) (v := .ref (b + 1 + 50)) lay_12 dX12_step_557 (by decide) fl12_170 rfl ?_
        refine tm_iload_n dX12_step_560 rfl 5 rfl ?_
        refine tm_dup2 dX12_step_561 rfl rfl ?_
        refine tm_iald (z := ((9 * m) + (σ.2.1 73 m)) - 1) (v := σ.2.1 79 (((9 * m) + (σ.2.1 73 m)) - 1)) dX12_step_562 (show mT[50]? = some (79, 0, 27) from rfl) (by omega) (by omega) (by decide) (ra_o (by decide) (rfl)) ?_
        have g105 := RG.a hR 79 (((9 * m) + (σ.2.1 73 m)) - 1)
        refine tm_iconst dX12_step_563 ?_
        refine tm_iadd dX12_step_564 ?_
        refine tm_iast (z := ((9 * m) + (σ.2.1 73 m)) - 1) (v := (σ.2.1 79 (((9 * m) + (σ.2.1 73 m)) - 1)) + 1) dX12_step_565 (show mT[50]? = some (79, 0, 27) from rfl) (by omega) (by omega) (by decide) ?_
        refine tm_iload dX12_step_566 0 rfl ?_
        exact tm_iret rfl dX12_step_568 (⟨_, rfl, ((Fr.rfl.A (by decide)).A (by decide)), ((hR.A (by omega)).A (by omega)), Or.inr (Or.inr ⟨by omega, hrun.top (t := 9 * m + σ.2.1 73 m - 1) rfl (show Fr [] [76, 79] [] σ (sA 79 (((9 * m) + (σ.2.1 73 m)) - 1) ((σ.2.1 79 (((9 * m) + (σ.2.1 73 m)) - 1)) + 1) (sA 76 (m) ((σ.2.1 76 m) + 1) σ)) from ((Fr.rfl.A (by decide)).A (by decide))) (by decide) (by decide) rfl (fun _ _ _ => rfl) (fun z a b => ⟨ra_ne (by omega) rfl, rfl⟩) (by rw [show (sA 79 (((9 * m) + (σ.2.1 73 m)) - 1) ((σ.2.1 79 (((9 * m) + (σ.2.1 73 m)) - 1)) + 1) (sA 76 (m) ((σ.2.1 76 m) + 1) σ)).2.1 79 (9 * m + σ.2.1 73 m - 1) = (σ.2.1 79 (((9 * m) + (σ.2.1 73 m)) - 1)) + 1 from ra_eq, show (sA 79 (((9 * m) + (σ.2.1 73 m)) - 1) ((σ.2.1 79 (((9 * m) + (σ.2.1 73 m)) - 1)) + 1) (sA 76 (m) ((σ.2.1 76 m) + 1) σ)).2.1 80 (9 * m + σ.2.1 73 m - 1) = σ.2.1 80 (9 * m + σ.2.1 73 m - 1) from rfl]; exact hp.nx (by omega) (by omega) (by omega) (by omega)) (by rw [show (sA 79 (((9 * m) + (σ.2.1 73 m)) - 1) ((σ.2.1 79 (((9 * m) + (σ.2.1 73 m)) - 1)) + 1) (sA 76 (m) ((σ.2.1 76 m) + 1) σ)).2.1 80 (9 * m + σ.2.1 73 m - 1) = σ.2.1 80 (9 * m + σ.2.1 73 m - 1) from rfl]; omega)⟩), ⟨fun j hj => ⟨rfl, (by simp only [sA]; simp [hj])⟩, fun z hz => ⟨rfl, ra_ne (by omega) rfl, rfl⟩⟩, by rw [show (sA 79 (((9 * m) + (σ.2.1 73 m)) - 1) ((σ.2.1 79 (((9 * m) + (σ.2.1 73 m)) - 1)) + 1) (sA 76 (m) ((σ.2.1 76 m) + 1) σ)).2.1 76 m = σ.2.1 76 m + 1 from ra_o (by decide) (ra_eq)]; omega, fun _ => Or.inl ⟨by omega, by omega, rfl, fun _ => rfl, fun z hz => ra_ne hz rfl, Or.inl (by rw [show (sA 79 (((9 * m) + (σ.2.1 73 m)) - 1) ((σ.2.1 79 (((9 * m) + (σ.2.1 73 m)) - 1)) + 1) (sA 76 (m) ((σ.2.1 76 m) + 1) σ)).2.1 79 (9 * m + σ.2.1 73 m - 1) = (σ.2.1 79 (((9 * m) + (σ.2.1 73 m)) - 1)) + 1 from ra_eq])⟩⟩)
      · refine tm_aload_n dX12_step_192 rfl 6 rfl ?_
        refine tm_get (k := 77) (v := .ref (b + 1 + 48)) lay_12 dX12_step_193 (by decide) fl12_164 rfl ?_
        refine tm_sipush dX12_step_196 (by decide) ?_
        refine tm_iload_n dX12_step_199 rfl 7 rfl ?_
        refine tm_imul dX12_step_200 ?_
        refine tm_aload_n dX12_step_201 rfl 6 rfl ?_
        refine tm_get (k := 76) (v := .ref (b + 1 + 47)) lay_12 dX12_step_202 (by decide) fl12_161 rfl ?_
        refine tm_iload_n dX12_step_205 rfl 7 rfl ?_
        refine tm_iald (z := m) (v := σ.2.1 76 m) dX12_step_206 (show mT[47]? = some (76, 0, 3) from rfl) (by omega) (by omega) (by decide) (rfl) ?_
        have g106 := RG.a hR 76 (m)
        refine tm_iadd dX12_step_207 ?_
        refine tm_iload dX12_step_208 1 rfl ?_
        refine tm_iast (z := (200 * m) + (σ.2.1 76 m)) (v := v18) dX12_step_210 (show mT[48]? = some (77, 0, 600) from rfl) (by omega) (by omega) (by decide) ?_
        refine tm_aload_n dX12_step_211 rfl 6 rfl ?_
        refine tm_get (k := 76) (v := .ref (b + 1 + 47)) lay_12 dX12_step_212 (by decide) fl12_161 rfl ?_
        refine tm_iload_n dX12_step_215 rfl 7 rfl ?_
        refine tm_dup2 dX12_step_216 rfl rfl ?_
        refine tm_iald (z := m) (v := σ.2.1 76 m) dX12_step_217 (show mT[47]? = some (76, 0, 3) from rfl) (by omega) (by omega) (by decide) (ra_o (by decide) (rfl)) ?_
        have g107 := RG.a hR 76 (m)
        refine tm_iconst dX12_step_218 ?_
        refine tm_iadd dX12_step_219 ?_
        refine tm_iast (z := m) (v := (σ.2.1 76 m) + 1) dX12_step_220 (show mT[47]? = some (76, 0, 3) from rfl) (by omega) (by omega) (by decide) ?_
        refine tm_goto (tgt := 556) dX12_step_221 (by decide) ?_
        refine tm_aload_n dX12_step_556 rfl 6 rfl ?_
        refine tm_get (k := 79) (v := .ref (b + 1 + 50)) lay_12 dX12_step_557 (by decide) fl12_170 rfl ?_
        refine tm_iload_n dX12_step_560 rfl 5 rfl ?_
        refine tm_dup2 dX12_step_561 rfl rfl ?_
        refine tm_iald (z := ((9 * m) + (σ.2.1 73 m)) - 1) (v := σ.2.1 79 (((9 * m) + (σ.2.1 73 m)) - 1)) dX12_step_562 (show mT[50]? = some (79, 0, 27) from rfl) (by omega) (by omega) (by decide) (ra_o (by decide) (ra_o (by decide) (rfl))) ?_
        have g108 := RG.a hR 79 (((9 * m) + (σ.2.1 73 m)) - 1)
        refine tm_iconst dX12_step_563 ?_
        refine tm_iadd dX12_step_564 ?_
        refine tm_iast (z := ((9 * m) + (σ.2.1 73 m)) - 1) (v := (σ.2.1 79 (((9 * m) + (σ.2.1 73 m)) - 1)) + 1) dX12_step_565 (show mT[50]? = some (79, 0, 27) from rfl) (by omega) (by omega) (by decide) ?_
        refine tm_iload dX12_step_566 0 rfl ?_
        exact tm_iret rfl dX12_step_568 (⟨_, rfl, (((Fr.rfl.A (by decide)).A (by decide)).A (by decide)), (((hR.A (by omega)).A (by omega)).A (by omega)), Or.inr (Or.inr ⟨by omega, hrun.top (t := 9 * m + σ.2.1 73 m - 1) rfl (show Fr [] [76, 77, 79] [] σ (sA 79 (((9 * m) + (σ.2.1 73 m)) - 1) ((σ.2.1 79 (((9 * m) + (σ.2.1 73 m)) - 1)) + 1) (sA 76 (m) ((σ.2.1 76 m) + 1) (sA 77 ((200 * m) + (σ.2.1 76 m)) (v18) σ))) from (((Fr.rfl.A (by decide)).A (by decide)).A (by decide))) (by decide) (by decide) rfl (fun _ _ _ => rfl) (fun z a b => ⟨ra_ne (by omega) rfl, rfl⟩) (by rw [show (sA 79 (((9 * m) + (σ.2.1 73 m)) - 1) ((σ.2.1 79 (((9 * m) + (σ.2.1 73 m)) - 1)) + 1) (sA 76 (m) ((σ.2.1 76 m) + 1) (sA 77 ((200 * m) + (σ.2.1 76 m)) (v18) σ))).2.1 79 (9 * m + σ.2.1 73 m - 1) = (σ.2.1 79 (((9 * m) + (σ.2.1 73 m)) - 1)) + 1 from ra_eq, show (sA 79 (((9 * m) + (σ.2.1 73 m)) - 1) ((σ.2.1 79 (((9 * m) + (σ.2.1 73 m)) - 1)) + 1) (sA 76 (m) ((σ.2.1 76 m) + 1) (sA 77 ((200 * m) + (σ.2.1 76 m)) (v18) σ))).2.1 80 (9 * m + σ.2.1 73 m - 1) = σ.2.1 80 (9 * m + σ.2.1 73 m - 1) from rfl]; exact hp.nx (by omega) (by omega) (by omega) (by omega)) (by rw [show (sA 79 (((9 * m) + (σ.2.1 73 m)) - 1) ((σ.2.1 79 (((9 * m) + (σ.2.1 73 m)) - 1)) + 1) (sA 76 (m) ((σ.2.1 76 m) + 1) (sA 77 ((200 * m) + (σ.2.1 76 m)) (v18) σ))).2.1 80 (9 * m + σ.2.1 73 m - 1) = σ.2.1 80 (9 * m + σ.2.1 73 m - 1) from rfl]; omega)⟩), ⟨fun j hj => ⟨rfl, (by simp only [sA]; simp [hj])⟩, fun z hz => ⟨rfl, ra_ne (by omega) rfl, rfl⟩⟩, by rw [show (sA 79 (((9 * m) + (σ.2.1 73 m)) - 1) ((σ.2.1 79 (((9 * m) + (σ.2.1 73 m)) - 1)) + 1) (sA 76 (m) ((σ.2.1 76 m) + 1) (sA 77 ((200 * m) + (σ.2.1 76 m)) (v18) σ))).2.1 76 m = σ.2.1 76 m + 1 from ra_o (by decide) (ra_eq)]; omega, fun _ => Or.inl ⟨by omega, by omega, rfl, fun _ => rfl, fun z hz => ra_ne hz rfl, Or.inl (by rw [show (sA 79 (((9 * m) + (σ.2.1 73 m)) - 1) ((σ.2.1 79 (((9 * m) + (σ.2.1 73 m)) - 1)) + 1) (sA 76 (m) ((σ.2.1 76 m) + 1) (sA 77 ((200 * m) + (σ.2.1 76 m)) (v18) σ))).2.1 79 (9 * m + σ.2.1 73 m - 1) = (σ.2.1 79 (((9 * m) + (σ.2.1 73 m)) - 1)) + 1 from ra_eq])⟩⟩)
    · refine tm_tableIn (tgt := 224) dX12_step_82 ⟨by omega, by omega⟩ (by omega) (by omega) (show _ = some (142) by rw [h21v]; rfl) (by decide) ?_
      refine tm_aload_n dX12_step_224 rfl 6 rfl ?_
      refine tm_iload_n dX12_step_225 rfl 7 rfl ?_
      refine tm_iload_n dX12_step_226 rfl 5 rfl ?_
      refine tm_iload dX12_step_227 1 rfl ?_
      refine tm_callV (M := m_X12_step) (pc := 229) (ix := 548) (M' := m_X12_returns) (As := [.int (iI m), .int (iI (((9 * m) + (σ.2.1 73 m)) - 1)), .int (iI v18)]) (rest := []) dX12_step_229 ok_X12_returns im_X12_returns se_X12_returns ml12_548 np_X12_returns rfl rfl (Nat.le_of_ble_eq_true rfl) (Nat.le_of_ble_eq_true rfl) rfl (c_X12_returns (d) (σ := σ) (m := m) (c := ((9 * m) + (σ.2.1 73 m)) - 1) (w := v18) hR hm2 hrun hbka rfl (by omega)) (fun r109 σ110 hp => ?_)
      obtain ⟨v111, rfl, f112, f113, f114, f115, f116⟩ := hp
      show Tm _ _ 232 b σ110 [(7, .int (iI 0)), (6, .int (iI v18)), (5, .int (iI (192 * (((9 * m) + (σ.2.1 73 m)) - 1)))), (4, .int (iI (220 * (v5 + (σ.2.1 78 (((9 * m) + (σ.2.1 73 m)) - 1))) + (σ.2.1 79 (((9 * m) + (σ.2.1 73 m)) - 1))))), (3, .int (iI (σ.2.1 78 (((9 * m) + (σ.2.1 73 m)) - 1)))), (2, .int (iI (((9 * m) + (σ.2.1 73 m)) - 1))), (0, .ref b), (1, .int (iI m))] [.int (iI v111)] _
      exact tm_iret rfl dX12_step_232 (⟨_, rfl, (Fr.rfl.trans (Fr.sub f112 (by decide) (by decide) (by decide))), f113, Or.inr (f114.elim Or.inl (fun q => Or.inr ⟨Or.inl q.1, q.2⟩)), f115, by rw [f112.2.1 76 (by decide)]; exact ⟨Int.le_refl _, (by show σ.2.1 76 m ≤ σ.2.1 76 m + 1; omega)⟩, fun q => Or.inr (Or.inr (by have z := f116 q; rw [show 9 * m + σ.2.1 73 m - 1 - 1 = 9 * m + σ.2.1 73 m - 2 by omega] at z; exact z))⟩)
    · refine tm_tableIn (tgt := 233) dX12_step_82 ⟨by omega, by omega⟩ (by omega) (by omega) (show _ = some (151) by rw [h21v]; rfl) (by decide) ?_
      refine tm_aload_n dX12_step_233 rfl 6 rfl ?_
      refine tm_get (k := 79) (v := .ref (b + 1 + 50)) lay_12 dX12_step_234 (by decide) fl12_170 rfl ?_
      refine tm_iload_n dX12_step_237 rfl 5 rfl ?_
      refine tm_aload_n dX12_step_238 rfl 6 rfl ?_
      refine tm_aload_n dX12_step_239 rfl 6 rfl ?_
      refine tm_iload_n dX12_step_240 rfl 7 rfl ?_
      refine tm_callV (M := m_X12_step) (pc := 241) (ix := 542) (M' := m_X12_bank) (As := [.int (iI m)]) (rest := [.ref b, .int (iI (((9 * m) + (σ.2.1 73 m)) - 1)), .ref (b + 1 + 50)]) dX12_step_241 ok_X12_bank im_X12_bank se_X12_bank ml12_542 np_X12_bank rfl rfl (Nat.le_of_ble_eq_true rfl) (Nat.le_of_ble_eq_true rfl) rfl (c_X12_bank (d + 1) (σ := σ) (m := m) (by omega)) (fun r117 σ118 hp => ?_)
      obtain ⟨v119, rfl, rfl, f120, f121, f122⟩ := hp
      show Tm _ _ 244 b σ [(7, .int (iI 0)), (6, .int (iI v18)), (5, .int (iI (192 * (((9 * m) + (σ.2.1 73 m)) - 1)))), (4, .int (iI (220 * (v5 + (σ.2.1 78 (((9 * m) + (σ.2.1 73 m)) - 1))) + (σ.2.1 79 (((9 * m) + (σ.2.1 73 m)) - 1))))), (3, .int (iI (σ.2.1 78 (((9 * m) + (σ.2.1 73 m)) - 1)))), (2, .int (iI (((9 * m) + (σ.2.1 73 m)) - 1))), (0, .ref b), (1, .int (iI m))] [.int (iI v119), .ref b, .int (iI (((9 * m) + (σ.2.1 73 m)) - 1)), .ref (b + 1 + 50)] _
      have hbw : v119 = bkm m := bkm_2 f121 f122
      have hvv := hbw.trans hbv.symm
      refine tm_iload_n dX12_step_244 rfl 4 rfl ?_
      refine tm_iadd dX12_step_245 ?_
      refine tm_aload_n dX12_step_246 rfl 6 rfl ?_
      refine tm_get (k := 4) (v := .ref (b + 1 + 2)) lay_12 dX12_step_247 (by decide) fl12_17 rfl ?_
      refine tm_iload dX12_step_250 3 rfl ?_
      refine tm_iald (z := 220 * (v5 + (σ.2.1 78 (((9 * m) + (σ.2.1 73 m)) - 1))) + (σ.2.1 79 (((9 * m) + (σ.2.1 73 m)) - 1))) (v := σ.2.1 4 (220 * (v5 + (σ.2.1 78 (((9 * m) + (σ.2.1 73 m)) - 1))) + (σ.2.1 79 (((9 * m) + (σ.2.1 73 m)) - 1)))) dX12_step_252 (show mT[2]? = some (4, 0, 2860) from rfl) (by omega) (by omega) (by decide) (rfl) ?_
      have g123 := RG.a hR 4 (220 * (v5 + (σ.2.1 78 (((9 * m) + (σ.2.1 73 m)) - 1))) + (σ.2.1 79 (((9 * m) + (σ.2.1 73 m)) - 1)))
      refine tm_callV (M := m_X12_step) (pc := 253) (ix := 551) (M' := m_X12_labelIn) (As := [.int (iI (v119 + (σ.2.1 78 (((9 * m) + (σ.2.1 73 m)) - 1)))), .int (iI (σ.2.1 4 (220 * (v5 + (σ.2.1 78 (((9 * m) + (σ.2.1 73 m)) - 1))) + (σ.2.1 79 (((9 * m) + (σ.2.1 73 m)) - 1)))))]) (rest := [.int (iI (((9 * m) + (σ.2.1 73 m)) - 1)), .ref (b + 1 + 50)]) dX12_step_253 ok_X12_labelIn im_X12_labelIn se_X12_labelIn ml12_551 np_X12_labelIn rfl rfl (Nat.le_of_ble_eq_true rfl) (Nat.le_of_ble_eq_true rfl) rfl (c_X12_labelIn (d) (σ := σ) (r := v119 + (σ.2.1 78 (((9 * m) + (σ.2.1 73 m)) - 1))) (l := σ.2.1 4 (220 * (v5 + (σ.2.1 78 (((9 * m) + (σ.2.1 73 m)) - 1))) + (σ.2.1 79 (((9 * m) + (σ.2.1 73 m)) - 1)))) (by omega) hR hit (by rw [hvv]; exact hlx _ hp2.1 hp2.2 (by omega)) (by omega)) (fun r124 σ125 hp => ?_)
      obtain ⟨v126, rfl, rfl, f127, f128⟩ := hp
      show Tm _ _ 256 b σ [(7, .int (iI 0)), (6, .int (iI v18)), (5, .int (iI (192 * (((9 * m) + (σ.2.1 73 m)) - 1)))), (4, .int (iI (220 * (v5 + (σ.2.1 78 (((9 * m) + (σ.2.1 73 m)) - 1))) + (σ.2.1 79 (((9 * m) + (σ.2.1 73 m)) - 1))))), (3, .int (iI (σ.2.1 78 (((9 * m) + (σ.2.1 73 m)) - 1)))), (2, .int (iI (((9 * m) + (σ.2.1 73 m)) - 1))), (0, .ref b), (1, .int (iI m))] [.int (iI v126), .int (iI (((9 * m) + (σ.2.1 73 m)) - 1)), .ref (b + 1 + 50)] _
      have hjp := hp.jump (j := v126) (by rw [hkd]; omega) (by rw [← hbw]; exact f127) (by unfold kdm; rw [← hbw]; exact f128.1) (by rw [hds]; unfold dsm; rw [← hbw]; exact f128.2)
      have hj13 : kdm σ m (σ.2.1 78 (9 * m + σ.2.1 73 m - 1)) (v126) = 13 := by unfold kdm; rw [← hbw]; exact f128.1
      have hjd : dsm σ m (σ.2.1 78 (9 * m + σ.2.1 73 m - 1)) (v126) = dsm σ m (σ.2.1 78 (9 * m + σ.2.1 73 m - 1)) (σ.2.1 79 (9 * m + σ.2.1 73 m - 1)) := by rw [hds]; unfold dsm; rw [← hbw]; exact f128.2
      have hj0 := f127
      have hb9w := hb9
      rw [← hvv] at hb9w
      refine tm_iast (z := ((9 * m) + (σ.2.1 73 m)) - 1) (v := v126) dX12_step_256 (show mT[50]? = some (79, 0, 27) from rfl) (by omega) (by omega) (by decide) ?_
      refine tm_iconst dX12_step_257 ?_
      exact tm_iret rfl dX12_step_258 (⟨_, rfl, (Fr.rfl.A (by decide)), (hR.A (by omega)), Or.inr (Or.inr ⟨by omega, hrun.top (t := 9 * m + σ.2.1 73 m - 1) rfl (show Fr [] [79] [] σ (sA 79 (((9 * m) + (σ.2.1 73 m)) - 1) (v126) σ) from (Fr.rfl.A (by decide))) (by decide) (by decide) rfl (fun _ _ _ => rfl) (fun z a b => ⟨ra_ne (by omega) rfl, rfl⟩) (by rw [show (sA 79 (((9 * m) + (σ.2.1 73 m)) - 1) (v126) σ).2.1 79 (9 * m + σ.2.1 73 m - 1) = v126 from ra_eq, show (sA 79 (((9 * m) + (σ.2.1 73 m)) - 1) (v126) σ).2.1 80 (9 * m + σ.2.1 73 m - 1) = σ.2.1 80 (9 * m + σ.2.1 73 m - 1) from rfl]; exact hjp) (by rw [show (sA 79 (((9 * m) + (σ.2.1 73 m)) - 1) (v126) σ).2.1 80 (9 * m + σ.2.1 73 m - 1) = σ.2.1 80 (9 * m + σ.2.1 73 m - 1) from rfl]; omega)⟩), ⟨fun j hj => ⟨rfl, rfl⟩, fun z hz => ⟨rfl, ra_ne (by omega) rfl, rfl⟩⟩, ⟨Int.le_refl _, (by show σ.2.1 76 m ≤ σ.2.1 76 m + 1; omega)⟩, fun _ => Or.inl ⟨by omega, by omega, rfl, fun _ => rfl, fun z hz => ra_ne hz rfl, Or.inr ⟨by omega, by rw [show (sA 79 (((9 * m) + (σ.2.1 73 m)) - 1) (v126) σ).2.1 79 (9 * m + σ.2.1 73 m - 1) = v126 from ra_eq]; exact hj13, by rw [show (sA 79 (((9 * m) + (σ.2.1 73 m)) - 1) (v126) σ).2.1 79 (9 * m + σ.2.1 73 m - 1) = v126 from ra_eq]; exact hjd⟩⟩⟩)
    · refine tm_tableIn (tgt := 259) dX12_step_82 ⟨by omega, by omega⟩ (by omega) (by omega) (show _ = some (177) by rw [h21v]; rfl) (by decide) ?_
      refine tm_iload dX12_step_259 1 rfl ?_
      refine tm_if_ne (tgt := 556) dX12_step_261 (by decide) ⟨by omega, by omega⟩ (fun h129 => ?_) (fun h129 => ?_)
      · refine tm_aload_n dX12_step_556 rfl 6 rfl ?_
        refine tm_get (k := 79) (v := .ref (b + 1 + 50)) lay_12 dX12_step_557 (by decide) fl12_170 rfl ?_
        refine tm_iload_n dX12_step_560 rfl 5 rfl ?_
        refine tm_dup2 dX12_step_561 rfl rfl ?_
        refine tm_iald (z := ((9 * m) + (σ.2.1 73 m)) - 1) (v := σ.2.1 79 (((9 * m) + (σ.2.1 73 m)) - 1)) dX12_step_562 (show mT[50]? = some (79, 0, 27) from rfl) (by omega) (by omega) (by decide) (rfl) ?_
        have g130 := RG.a hR 79 (((9 * m) + (σ.2.1 73 m)) - 1)
        refine tm_iconst dX12_step_563 ?_
        refine tm_iadd dX12_step_564 ?_
        refine tm_iast (z := ((9 * m) + (σ.2.1 73 m)) - 1) (v := (σ.2.1 79 (((9 * m) + (σ.2.1 73 m)) - 1)) + 1) dX12_step_565 (show mT[50]? = some (79, 0, 27) from rfl) (by omega) (by omega) (by decide) ?_
        refine tm_iload dX12_step_566 0 rfl ?_
        exact tm_iret rfl dX12_step_568 (⟨_, rfl, (Fr.rfl.A (by decide)), (hR.A (by omega)), Or.inr (Or.inr ⟨by omega, hrun.top (t := 9 * m + σ.2.1 73 m - 1) rfl (show Fr [] [79] [] σ (sA 79 (((9 * m) + (σ.2.1 73 m)) - 1) ((σ.2.1 79 (((9 * m) + (σ.2.1 73 m)) - 1)) + 1) σ) from (Fr.rfl.A (by decide))) (by decide) (by decide) rfl (fun _ _ _ => rfl) (fun z a b => ⟨ra_ne (by omega) rfl, rfl⟩) (by rw [show (sA 79 (((9 * m) + (σ.2.1 73 m)) - 1) ((σ.2.1 79 (((9 * m) + (σ.2.1 73 m)) - 1)) + 1) σ).2.1 79 (9 * m + σ.2.1 73 m - 1) = (σ.2.1 79 (((9 * m) + (σ.2.1 73 m)) - 1)) + 1 from ra_eq, show (sA 79 (((9 * m) + (σ.2.1 73 m)) - 1) ((σ.2.1 79 (((9 * m) + (σ.2.1 73 m)) - 1)) + 1) σ).2.1 80 (9 * m + σ.2.1 73 m - 1) = σ.2.1 80 (9 * m + σ.2.1 73 m - 1) from rfl]; exact hp.nx (by omega) (by omega) (by omega) (by omega)) (by rw [show (sA 79 (((9 * m) + (σ.2.1 73 m)) - 1) ((σ.2.1 79 (((9 * m) + (σ.2.1 73 m)) - 1)) + 1) σ).2.1 80 (9 * m + σ.2.1 73 m - 1) = σ.2.1 80 (9 * m + σ.2.1 73 m - 1) from rfl]; omega)⟩), ⟨fun j hj => ⟨rfl, rfl⟩, fun z hz => ⟨rfl, ra_ne (by omega) rfl, rfl⟩⟩, ⟨Int.le_refl _, (by show σ.2.1 76 m ≤ σ.2.1 76 m + 1; omega)⟩, fun _ => Or.inl ⟨by omega, by omega, rfl, fun _ => rfl, fun z hz => ra_ne hz rfl, Or.inl (by rw [show (sA 79 (((9 * m) + (σ.2.1 73 m)) - 1) ((σ.2.1 79 (((9 * m) + (σ.2.1 73 m)) - 1)) + 1) σ).2.1 79 (9 * m + σ.2.1 73 m - 1) = (σ.2.1 79 (((9 * m) + (σ.2.1 73 m)) - 1)) + 1 from ra_eq])⟩⟩)
      · refine tm_aload_n dX12_step_264 rfl 6 rfl ?_
        refine tm_get (k := 79) (v := .ref (b + 1 + 50)) lay_12 dX12_step_265 (by decide) fl12_170 rfl ?_
        refine tm_iload_n dX12_step_268 rfl 5 rfl ?_
        refine tm_aload_n dX12_step_269 rfl 6 rfl ?_
        refine tm_aload_n dX12_step_270 rfl 6 rfl ?_
        refine tm_iload_n dX12_step_271 rfl 7 rfl ?_
        refine tm_callV (M := m_X12_step) (pc := 272) (ix := 542) (M' := m_X12_bank) (As := [.int (iI m)]) (rest := [.ref b, .int (iI (((9 * m) + (σ.2.1 73 m)) - 1)), .ref (b + 1 + 50)]) dX12_step_272 ok_X12_bank im_X12_bank se_X12_bank ml12_542 np_X12_bank rfl rfl (Nat.le_of_ble_eq_true rfl) (Nat.le_of_ble_eq_true rfl) rfl (c_X12_bank (d + 1) (σ := σ) (m := m) (by omega)) (fun r131 σ132 hp => ?_)
        obtain ⟨v133, rfl, rfl, f134, f135, f136⟩ := hp
        show Tm _ _ 275 b σ [(7, .int (iI 0)), (6, .int (iI v18)), (5, .int (iI (192 * (((9 * m) + (σ.2.1 73 m)) - 1)))), (4, .int (iI (220 * (v5 + (σ.2.1 78 (((9 * m) + (σ.2.1 73 m)) - 1))) + (σ.2.1 79 (((9 * m) + (σ.2.1 73 m)) - 1))))), (3, .int (iI (σ.2.1 78 (((9 * m) + (σ.2.1 73 m)) - 1)))), (2, .int (iI (((9 * m) + (σ.2.1 73 m)) - 1))), (0, .ref b), (1, .int (iI m))] [.int (iI v133), .ref b, .int (iI (((9 * m) + (σ.2.1 73 m)) - 1)), .ref (b + 1 + 50)] _
        have hbw : v133 = bkm m := bkm_2 f135 f136
        have hvv := hbw.trans hbv.symm
        refine tm_iload_n dX12_step_275 rfl 4 rfl ?_
        refine tm_iadd dX12_step_276 ?_
        refine tm_aload_n dX12_step_277 rfl 6 rfl ?_
        refine tm_get (k := 4) (v := .ref (b + 1 + 2)) lay_12 dX12_step_278 (by decide) fl12_17 rfl ?_
        refine tm_iload dX12_step_281 3 rfl ?_
        refine tm_iald (z := 220 * (v5 + (σ.2.1 78 (((9 * m) + (σ.2.1 73 m)) - 1))) + (σ.2.1 79 (((9 * m) + (σ.2.1 73 m)) - 1))) (v := σ.2.1 4 (220 * (v5 + (σ.2.1 78 (((9 * m) + (σ.2.1 73 m)) - 1))) + (σ.2.1 79 (((9 * m) + (σ.2.1 73 m)) - 1)))) dX12_step_283 (show mT[2]? = some (4, 0, 2860) from rfl) (by omega) (by omega) (by decide) (rfl) ?_
        have g137 := RG.a hR 4 (220 * (v5 + (σ.2.1 78 (((9 * m) + (σ.2.1 73 m)) - 1))) + (σ.2.1 79 (((9 * m) + (σ.2.1 73 m)) - 1)))
        refine tm_callV (M := m_X12_step) (pc := 284) (ix := 551) (M' := m_X12_labelIn) (As := [.int (iI (v133 + (σ.2.1 78 (((9 * m) + (σ.2.1 73 m)) - 1)))), .int (iI (σ.2.1 4 (220 * (v5 + (σ.2.1 78 (((9 * m) + (σ.2.1 73 m)) - 1))) + (σ.2.1 79 (((9 * m) + (σ.2.1 73 m)) - 1)))))]) (rest := [.int (iI (((9 * m) + (σ.2.1 73 m)) - 1)), .ref (b + 1 + 50)]) dX12_step_284 ok_X12_labelIn im_X12_labelIn se_X12_labelIn ml12_551 np_X12_labelIn rfl rfl (Nat.le_of_ble_eq_true rfl) (Nat.le_of_ble_eq_true rfl) rfl (c_X12_labelIn (d) (σ := σ) (r := v133 + (σ.2.1 78 (((9 * m) + (σ.2.1 73 m)) - 1))) (l := σ.2.1 4 (220 * (v5 + (σ.2.1 78 (((9 * m) + (σ.2.1 73 m)) - 1))) + (σ.2.1 79 (((9 * m) + (σ.2.1 73 m)) - 1)))) (by omega) hR hit (by rw [hvv]; exact hlx _ hp2.1 hp2.2 (by omega)) (by omega)) (fun r138 σ139 hp => ?_)
        obtain ⟨v140, rfl, rfl, f141, f142⟩ := hp
        show Tm _ _ 287 b σ [(7, .int (iI 0)), (6, .int (iI v18)), (5, .int (iI (192 * (((9 * m) + (σ.2.1 73 m)) - 1)))), (4, .int (iI (220 * (v5 + (σ.2.1 78 (((9 * m) + (σ.2.1 73 m)) - 1))) + (σ.2.1 79 (((9 * m) + (σ.2.1 73 m)) - 1))))), (3, .int (iI (σ.2.1 78 (((9 * m) + (σ.2.1 73 m)) - 1)))), (2, .int (iI (((9 * m) + (σ.2.1 73 m)) - 1))), (0, .ref b), (1, .int (iI m))] [.int (iI v140), .int (iI (((9 * m) + (σ.2.1 73 m)) - 1)), .ref (b + 1 + 50)] _
        have hjp := hp.jump (j := v140) (by rw [hkd]; omega) (by rw [← hbw]; exact f141) (by unfold kdm; rw [← hbw]; exact f142.1) (by rw [hds]; unfold dsm; rw [← hbw]; exact f142.2)
        have hj13 : kdm σ m (σ.2.1 78 (9 * m + σ.2.1 73 m - 1)) (v140) = 13 := by unfold kdm; rw [← hbw]; exact f142.1
        have hjd : dsm σ m (σ.2.1 78 (9 * m + σ.2.1 73 m - 1)) (v140) = dsm σ m (σ.2.1 78 (9 * m + σ.2.1 73 m - 1)) (σ.2.1 79 (9 * m + σ.2.1 73 m - 1)) := by rw [hds]; unfold dsm; rw [← hbw]; exact f142.2
        have hj0 := f141
        have hb9w := hb9
        rw [← hvv] at hb9w
        refine tm_iast (z := ((9 * m) + (σ.2.1 73 m)) - 1) (v := v140) dX12_step_287 (show mT[50]? = some (79, 0, 27) from rfl) (by omega) (by omega) (by decide) ?_
        refine tm_iconst dX12_step_288 ?_
        exact tm_iret rfl dX12_step_289 (⟨_, rfl, (Fr.rfl.A (by decide)), (hR.A (by omega)), Or.inr (Or.inr ⟨by omega, hrun.top (t := 9 * m + σ.2.1 73 m - 1) rfl (show Fr [] [79] [] σ (sA 79 (((9 * m) + (σ.2.1 73 m)) - 1) (v140) σ) from (Fr.rfl.A (by decide))) (by decide) (by decide) rfl (fun _ _ _ => rfl) (fun z a b => ⟨ra_ne (by omega) rfl, rfl⟩) (by rw [show (sA 79 (((9 * m) + (σ.2.1 73 m)) - 1) (v140) σ).2.1 79 (9 * m + σ.2.1 73 m - 1) = v140 from ra_eq, show (sA 79 (((9 * m) + (σ.2.1 73 m)) - 1) (v140) σ).2.1 80 (9 * m + σ.2.1 73 m - 1) = σ.2.1 80 (9 * m + σ.2.1 73 m - 1) from rfl]; exact hjp) (by rw [show (sA 79 (((9 * m) + (σ.2.1 73 m)) - 1) (v140) σ).2.1 80 (9 * m + σ.2.1 73 m - 1) = σ.2.1 80 (9 * m + σ.2.1 73 m - 1) from rfl]; omega)⟩), ⟨fun j hj => ⟨rfl, rfl⟩, fun z hz => ⟨rfl, ra_ne (by omega) rfl, rfl⟩⟩, ⟨Int.le_refl _, (by show σ.2.1 76 m ≤ σ.2.1 76 m + 1; omega)⟩, fun _ => Or.inl ⟨by omega, by omega, rfl, fun _ => rfl, fun z hz => ra_ne hz rfl, Or.inr ⟨by omega, by rw [show (sA 79 (((9 * m) + (σ.2.1 73 m)) - 1) (v140) σ).2.1 79 (9 * m + σ.2.1 73 m - 1) = v140 from ra_eq]; exact hj13, by rw [show (sA 79 (((9 * m) + (σ.2.1 73 m)) - 1) (v140) σ).2.1 79 (9 * m + σ.2.1 73 m - 1) = v140 from ra_eq]; exact hjd⟩⟩⟩)
    · refine tm_tableIn (tgt := 290) dX12_step_82 ⟨by omega, by omega⟩ (by omega) (by omega) (show _ = some (208) by rw [h21v]; rfl) (by decide) ?_
      have hk10 := hkd.trans (by omega)
      have hcq := hpc hk10
      have hbq := hbka.2 _ hcq.1 hcq.2
      have mpa := hpar _ hcq.1 (by omega)
      refine tm_aload_n dX12_step_290 rfl 6 rfl ?_
      refine tm_iload_n dX12_step_291 rfl 7 rfl ?_
      refine tm_callV (M := m_X12_step) (pc := 292) (ix := 554) (M' := m_X12_depth) (As := [.int (iI m)]) (rest := []) dX12_step_292 ok_X12_depth im_X12_depth se_X12_depth ml12_554 np_X12_depth rfl rfl (Nat.le_of_ble_eq_true rfl) (Nat.le_of_ble_eq_true rfl) rfl (c_X12_depth (d + 1) (σ := σ) (m := m) hR hm2 (by omega) (fun c a e => ⟨_, hdec c a e⟩)) (fun r143 σ144 hp => ?_)
      obtain ⟨v145, rfl, rfl, f146, f147⟩ := hp
      show Tm _ _ 295 b σ [(7, .int (iI 0)), (6, .int (iI v18)), (5, .int (iI (192 * (((9 * m) + (σ.2.1 73 m)) - 1)))), (4, .int (iI (220 * (v5 + (σ.2.1 78 (((9 * m) + (σ.2.1 73 m)) - 1))) + (σ.2.1 79 (((9 * m) + (σ.2.1 73 m)) - 1))))), (3, .int (iI (σ.2.1 78 (((9 * m) + (σ.2.1 73 m)) - 1)))), (2, .int (iI (((9 * m) + (σ.2.1 73 m)) - 1))), (0, .ref b), (1, .int (iI m))] [.int (iI v145)] _
      refine tm_bipush dX12_step_295 (by decide) ?_
      refine tm_icmp_ne (tgt := 302) dX12_step_297 (by decide) ⟨by omega, by omega⟩ ⟨by decide, by decide⟩ (fun h148 => ?_) (fun h148 => ?_)
      · refine tm_aload_n dX12_step_302 rfl 6 rfl ?_
        refine tm_iload_n dX12_step_303 rfl 7 rfl ?_
        refine tm_aload_n dX12_step_304 rfl 6 rfl ?_
        refine tm_get (k := 5) (v := .ref (b + 1 + 3)) lay_12 dX12_step_305 (by decide) fl12_20 rfl ?_
        refine tm_iload dX12_step_308 3 rfl ?_
        refine tm_iald (z := 220 * (v5 + (σ.2.1 78 (((9 * m) + (σ.2.1 73 m)) - 1))) + (σ.2.1 79 (((9 * m) + (σ.2.1 73 m)) - 1))) (v := σ.2.1 5 (220 * (v5 + (σ.2.1 78 (((9 * m) + (σ.2.1 73 m)) - 1))) + (σ.2.1 79 (((9 * m) + (σ.2.1 73 m)) - 1)))) dX12_step_310 (show mT[3]? = some (5, 0, 2860) from rfl) (by omega) (by omega) (by decide) (rfl) ?_
        have g149 := RG.a hR 5 (220 * (v5 + (σ.2.1 78 (((9 * m) + (σ.2.1 73 m)) - 1))) + (σ.2.1 79 (((9 * m) + (σ.2.1 73 m)) - 1)))
        refine tm_callV (M := m_X12_step) (pc := 311) (ix := 536) (M' := m_X12_enterCall) (As := [.int (iI m), .int (iI (σ.2.1 5 (220 * (v5 + (σ.2.1 78 (((9 * m) + (σ.2.1 73 m)) - 1))) + (σ.2.1 79 (((9 * m) + (σ.2.1 73 m)) - 1)))))]) (rest := []) dX12_step_311 ok_X12_enterCall im_X12_enterCall se_X12_enterCall ml12_536 np_X12_enterCall rfl rfl (Nat.le_of_ble_eq_true rfl) (Nat.le_of_ble_eq_true rfl) rfl (c_X12_enterCall (d + 1) (σ := σ) (m := m) (r := σ.2.1 5 (220 * (v5 + (σ.2.1 78 (((9 * m) + (σ.2.1 73 m)) - 1))) + (σ.2.1 79 (((9 * m) + (σ.2.1 73 m)) - 1)))) hR hm2 (by omega) (by omega)) (fun r150 σ151 hp => ?_)
        obtain ⟨rfl, f153, f154, f155, f156, f157, f158⟩ := hp
        show Tm _ _ 314 b σ151 [(7, .int (iI 0)), (6, .int (iI v18)), (5, .int (iI (192 * (((9 * m) + (σ.2.1 73 m)) - 1)))), (4, .int (iI (220 * (v5 + (σ.2.1 78 (((9 * m) + (σ.2.1 73 m)) - 1))) + (σ.2.1 79 (((9 * m) + (σ.2.1 73 m)) - 1))))), (3, .int (iI (σ.2.1 78 (((9 * m) + (σ.2.1 73 m)) - 1)))), (2, .int (iI (((9 * m) + (σ.2.1 73 m)) - 1))), (0, .ref b), (1, .int (iI m))] [] _
        have kE2 := f155
        have kE3 := f156
        have kE4 := f157
        have kE5 := f158
        refine tm_iconst dX12_step_314 ?_
        refine tm_istore (L' := [(8, .int (iI 0)), (7, .int (iI 0)), (6, .int (iI v18)), (5, .int (iI (192 * (((9 * m) + (σ.2.1 73 m)) - 1)))), (4, .int (iI (220 * (v5 + (σ.2.1 78 (((9 * m) + (σ.2.1 73 m)) - 1))) + (σ.2.1 79 (((9 * m) + (σ.2.1 73 m)) - 1))))), (3, .int (iI (σ.2.1 78 (((9 * m) + (σ.2.1 73 m)) - 1)))), (2, .int (iI (((9 * m) + (σ.2.1 73 m)) - 1))), (0, .ref b), (1, .int (iI m))]) dX12_step_315 (by decide) rfl ?_
        refine tm_sub [0, 3, 4, 6, 7, 8] rfl (l_step (d + 1) (σ0 := σ151) (m := m) (c := ((9 * m) + (σ.2.1 73 m)) - 1) (x := 220 * (v5 + (σ.2.1 78 (((9 * m) + (σ.2.1 73 m)) - 1))) + (σ.2.1 79 (((9 * m) + (σ.2.1 73 m)) - 1))) (q := (σ.2.1 5 (220 * (v5 + (σ.2.1 78 (((9 * m) + (σ.2.1 73 m)) - 1))) + (σ.2.1 79 (((9 * m) + (σ.2.1 73 m)) - 1))))) f154 hm2 (by omega) (by rw [((show Fr [] [73, 78, 79, 80, 81, 82] [] σ σ151 from (Fr.rfl.trans (Fr.sub f153 (by decide) (by decide) (by decide))))).2.1 5 (by decide), ((show Fr [] [73, 78, 79, 80, 81, 82] [] σ σ151 from (Fr.rfl.trans (Fr.sub f153 (by decide) (by decide) (by decide))))).2.1 11 (by decide)]; omega) (by rw [((show Fr [] [73, 78, 79, 80, 81, 82] [] σ σ151 from (Fr.rfl.trans (Fr.sub f153 (by decide) (by decide) (by decide))))).2.1 11 (by decide), ((show Fr [] [73, 78, 79, 80, 81, 82] [] σ σ151 from (Fr.rfl.trans (Fr.sub f153 (by decide) (by decide) (by decide))))).2.1 18 (by decide)]; exact hbq.2.2.2.2.2.2) (by rw [((show Fr [] [73, 78, 79, 80, 81, 82] [] σ σ151 from (Fr.rfl.trans (Fr.sub f153 (by decide) (by decide) (by decide))))).2.1 7 (by decide), ((show Fr [] [73, 78, 79, 80, 81, 82] [] σ σ151 from (Fr.rfl.trans (Fr.sub f153 (by decide) (by decide) (by decide))))).2.1 8 (by decide)]; exact fun n a c e => ((ho8 n a c).2 e).1) (fun n1163 σ164 F161 R162 => ?_) _ (0) σ151 Fr.rfl f154 (by omega) rfl)
        show Tm _ _ 395 b σ164 [(0, .ref b)] [] _
        refine tm_iconst dX12_step_395 ?_
        exact tm_iret rfl dX12_step_396 (⟨_, rfl, ((Fr.rfl.trans (Fr.sub f153 (by decide) (by decide) (by decide))).trans (Fr.sub F161 (by decide) (by decide) (by decide))), R162, Or.inr (Or.inr ⟨Or.inl rfl, hrun.push (r := _) (show Fr [] [73, 78, 79, 80, 81, 82] [] σ σ164 from ((Fr.rfl.trans (Fr.sub f153 (by decide) (by decide) (by decide))).trans (Fr.sub F161 (by decide) (by decide) (by decide)))) (by decide) (by decide) (by rw [F161.2.1 73 (by decide)]; exact kE2) (fun z a b => by rw [F161.2.1 78 (by decide), F161.2.1 79 (by decide), F161.2.1 80 (by decide)]; exact kE5 z (by omega)) (by rw [F161.2.1 78 (by decide), F161.2.1 79 (by decide), F161.2.1 80 (by decide)]; exact kE3) hbq hcq hk10 (by omega)⟩), ⟨fun j hj => by rw [F161.2.1 73 (by decide), F161.2.1 76 (by decide)]; exact ⟨kE4 j hj, congrFun (f153.2.1 76 (by decide)) j⟩, fun z hz => by rw [F161.2.1 78 (by decide), F161.2.1 79 (by decide), F161.2.1 80 (by decide)]; exact kE5 z (by omega)⟩, by rw [F161.2.1 76 (by decide), f153.2.1 76 (by decide)]; exact ⟨Int.le_refl _, (by show σ.2.1 76 m ≤ σ.2.1 76 m + 1; omega)⟩, fun _ => Or.inr (Or.inl ⟨hk10, by rw [F161.2.1 73 (by decide)]; exact kE2, fun z a b => by rw [F161.2.1 78 (by decide), F161.2.1 79 (by decide)]; exact ⟨(kE5 z (by omega)).1, (kE5 z (by omega)).2.1⟩, by rw [F161.2.1 79 (by decide)]; exact kE3.2.1⟩)⟩)
      · refine tm_iconst dX12_step_300 ?_
        exact tm_iret rfl dX12_step_301 (⟨_, rfl, Fr.rfl, hR, Or.inl ⟨rfl, rfl⟩, ⟨fun _ _ => ⟨rfl, rfl⟩, fun _ _ => ⟨rfl, rfl, rfl⟩⟩, ⟨Int.le_refl _, (by show σ.2.1 76 m ≤ σ.2.1 76 m + 1; omega)⟩, fun q => absurd q (by decide)⟩)
    · refine tm_tableIn (tgt := 397) dX12_step_82 ⟨by omega, by omega⟩ (by omega) (by omega) (show _ = some (315) by rw [h21v]; rfl) (by decide) ?_
      have ho6 := hoki.2.2.2.2.2.1 (Or.inl (by omega))
      refine tm_aload_n dX12_step_397 rfl 6 rfl ?_
      refine tm_get (k := 81) (v := .ref (b + 1 + 52)) lay_12 dX12_step_398 (by decide) fl12_176 rfl ?_
      refine tm_bipush dX12_step_401 (by decide) ?_
      refine tm_iload_n dX12_step_403 rfl 5 rfl ?_
      refine tm_imul dX12_step_404 ?_
      refine tm_aload_n dX12_step_405 rfl 6 rfl ?_
      refine tm_get (k := 5) (v := .ref (b + 1 + 3)) lay_12 dX12_step_406 (by decide) fl12_20 rfl ?_
      refine tm_iload dX12_step_409 3 rfl ?_
      refine tm_iald (z := 220 * (v5 + (σ.2.1 78 (((9 * m) + (σ.2.1 73 m)) - 1))) + (σ.2.1 79 (((9 * m) + (σ.2.1 73 m)) - 1))) (v := σ.2.1 5 (220 * (v5 + (σ.2.1 78 (((9 * m) + (σ.2.1 73 m)) - 1))) + (σ.2.1 79 (((9 * m) + (σ.2.1 73 m)) - 1)))) dX12_step_411 (show mT[3]? = some (5, 0, 2860) from rfl) (by omega) (by omega) (by decide) (rfl) ?_
      have g165 := RG.a hR 5 (220 * (v5 + (σ.2.1 78 (((9 * m) + (σ.2.1 73 m)) - 1))) + (σ.2.1 79 (((9 * m) + (σ.2.1 73 m)) - 1)))
      refine tm_iadd dX12_step_412 ?_
      refine tm_aload_n dX12_step_413 rfl 6 rfl ?_
      refine tm_get (k := 4) (v := .ref (b + 1 + 2)) lay_12 dX12_step_414 (by decide) fl12_17 rfl ?_
      refine tm_iload dX12_step_417 3 rfl ?_
      refine tm_iald (z := 220 * (v5 + (σ.2.1 78 (((9 * m) + (σ.2.1 73 m)) - 1))) + (σ.2.1 79 (((9 * m) + (σ.2.1 73 m)) - 1))) (v := σ.2.1 4 (220 * (v5 + (σ.2.1 78 (((9 * m) + (σ.2.1 73 m)) - 1))) + (σ.2.1 79 (((9 * m) + (σ.2.1 73 m)) - 1)))) dX12_step_419 (show mT[2]? = some (4, 0, 2860) from rfl) (by omega) (by omega) (by decide) (rfl) ?_
      have g166 := RG.a hR 4 (220 * (v5 + (σ.2.1 78 (((9 * m) + (σ.2.1 73 m)) - 1))) + (σ.2.1 79 (((9 * m) + (σ.2.1 73 m)) - 1)))
      refine tm_iast (z := (12 * (((9 * m) + (σ.2.1 73 m)) - 1)) + (σ.2.1 5 (220 * (v5 + (σ.2.1 78 (((9 * m) + (σ.2.1 73 m)) - 1))) + (σ.2.1 79 (((9 * m) + (σ.2.1 73 m)) - 1))))) (v := σ.2.1 4 (220 * (v5 + (σ.2.1 78 (((9 * m) + (σ.2.1 73 m)) - 1))) + (σ.2.1 79 (((9 * m) + (σ.2.1 73 m)) - 1)))) dX12_step_420 (show mT[52]? = some (81, 0, 324) from rfl) (by omega) (by omega) (by decide) ?_
      refine tm_iconst dX12_step_421 ?_
      refine tm_istore (L' := [(7, .int (iI 1)), (6, .int (iI v18)), (5, .int (iI (192 * (((9 * m) + (σ.2.1 73 m)) - 1)))), (4, .int (iI (220 * (v5 + (σ.2.1 78 (((9 * m) + (σ.2.1 73 m)) - 1))) + (σ.2.1 79 (((9 * m) + (σ.2.1 73 m)) - 1))))), (3, .int (iI (σ.2.1 78 (((9 * m) + (σ.2.1 73 m)) - 1)))), (2, .int (iI (((9 * m) + (σ.2.1 73 m)) - 1))), (0, .ref b), (1, .int (iI m))]) dX12_step_422 (by decide) rfl ?_
      refine tm_goto (tgt := 556) dX12_step_424 (by decide) ?_
      refine tm_aload_n dX12_step_556 rfl 6 rfl ?_
      refine tm_get (k := 79) (v := .ref (b + 1 + 50)) lay_12 dX12_step_557 (by decide) fl12_170 rfl ?_
      refine tm_iload_n dX12_step_560 rfl 5 rfl ?_
      refine tm_dup2 dX12_step_561 rfl rfl ?_
      refine tm_iald (z := ((9 * m) + (σ.2.1 73 m)) - 1) (v := σ.2.1 79 (((9 * m) + (σ.2.1 73 m)) - 1)) dX12_step_562 (show mT[50]? = some (79, 0, 27) from rfl) (by omega) (by omega) (by decide) (ra_o (by decide) (rfl)) ?_
      have g167 := RG.a hR 79 (((9 * m) + (σ.2.1 73 m)) - 1)
      refine tm_iconst dX12_step_563 ?_
      refine tm_iadd dX12_step_564 ?_
      refine tm_iast (z := ((9 * m) + (σ.2.1 73 m)) - 1) (v := (σ.2.1 79 (((9 * m) + (σ.2.1 73 m)) - 1)) + 1) dX12_step_565 (show mT[50]? = some (79, 0, 27) from rfl) (by omega) (by omega) (by decide) ?_
      refine tm_iload dX12_step_566 0 rfl ?_
      exact tm_iret rfl dX12_step_568 (⟨_, rfl, ((Fr.rfl.A (by decide)).A (by decide)), ((hR.A (by omega)).A (by omega)), Or.inr (Or.inr ⟨by omega, hrun.top (t := 9 * m + σ.2.1 73 m - 1) rfl (show Fr [] [79, 81] [] σ (sA 79 (((9 * m) + (σ.2.1 73 m)) - 1) ((σ.2.1 79 (((9 * m) + (σ.2.1 73 m)) - 1)) + 1) (sA 81 ((12 * (((9 * m) + (σ.2.1 73 m)) - 1)) + (σ.2.1 5 (220 * (v5 + (σ.2.1 78 (((9 * m) + (σ.2.1 73 m)) - 1))) + (σ.2.1 79 (((9 * m) + (σ.2.1 73 m)) - 1))))) (σ.2.1 4 (220 * (v5 + (σ.2.1 78 (((9 * m) + (σ.2.1 73 m)) - 1))) + (σ.2.1 79 (((9 * m) + (σ.2.1 73 m)) - 1)))) σ)) from ((Fr.rfl.A (by decide)).A (by decide))) (by decide) (by decide) rfl (fun _ _ _ => rfl) (fun z a b => ⟨ra_ne (by omega) rfl, rfl⟩) (by rw [show (sA 79 (((9 * m) + (σ.2.1 73 m)) - 1) ((σ.2.1 79 (((9 * m) + (σ.2.1 73 m)) - 1)) + 1) (sA 81 ((12 * (((9 * m) + (σ.2.1 73 m)) - 1)) + (σ.2.1 5 (220 * (v5 + (σ.2.1 78 (((9 * m) + (σ.2.1 73 m)) - 1))) + (σ.2.1 79 (((9 * m) + (σ.2.1 73 m)) - 1))))) (σ.2.1 4 (220 * (v5 + (σ.2.1 78 (((9 * m) + (σ.2.1 73 m)) - 1))) + (σ.2.1 79 (((9 * m) + (σ.2.1 73 m)) - 1)))) σ)).2.1 79 (9 * m + σ.2.1 73 m - 1) = (σ.2.1 79 (((9 * m) + (σ.2.1 73 m)) - 1)) + 1 from ra_eq, show (sA 79 (((9 * m) + (σ.2.1 73 m)) - 1) ((σ.2.1 79 (((9 * m) + (σ.2.1 73 m)) - 1)) + 1) (sA 81 ((12 * (((9 * m) + (σ.2.1 73 m)) - 1)) + (σ.2.1 5 (220 * (v5 + (σ.2.1 78 (((9 * m) + (σ.2.1 73 m)) - 1))) + (σ.2.1 79 (((9 * m) + (σ.2.1 73 m)) - 1))))) (σ.2.1 4 (220 * (v5 + (σ.2.1 78 (((9 * m) + (σ.2.1 73 m)) - 1))) + (σ.2.1 79 (((9 * m) + (σ.2.1 73 m)) - 1)))) σ)).2.1 80 (9 * m + σ.2.1 73 m - 1) = σ.2.1 80 (9 * m + σ.2.1 73 m - 1) from rfl]; exact hp.nx (by omega) (by omega) (by omega) (by omega)) (by rw [show (sA 79 (((9 * m) + (σ.2.1 73 m)) - 1) ((σ.2.1 79 (((9 * m) + (σ.2.1 73 m)) - 1)) + 1) (sA 81 ((12 * (((9 * m) + (σ.2.1 73 m)) - 1)) + (σ.2.1 5 (220 * (v5 + (σ.2.1 78 (((9 * m) + (σ.2.1 73 m)) - 1))) + (σ.2.1 79 (((9 * m) + (σ.2.1 73 m)) - 1))))) (σ.2.1 4 (220 * (v5 + (σ.2.1 78 (((9 * m) + (σ.2.1 73 m)) - 1))) + (σ.2.1 79 (((9 * m) + (σ.2.1 73 m)) - 1)))) σ)).2.1 80 (9 * m + σ.2.1 73 m - 1) = σ.2.1 80 (9 * m + σ.2.1 73 m - 1) from rfl]; omega)⟩), ⟨fun j hj => ⟨rfl, rfl⟩, fun z hz => ⟨rfl, ra_ne (by omega) rfl, rfl⟩⟩, ⟨Int.le_refl _, (by show σ.2.1 76 m ≤ σ.2.1 76 m + 1; omega)⟩, fun q => absurd q (by decide)⟩)
    · refine tm_tableIn (tgt := 499) dX12_step_82 ⟨by omega, by omega⟩ (by omega) (by omega) (show _ = some (417) by rw [h21v]; rfl) (by decide) ?_
      refine tm_goto (tgt := 556) dX12_step_499 (by decide) ?_
      refine tm_aload_n dX12_step_556 rfl 6 rfl ?_
      refine tm_get (k := 79) (v := .ref (b + 1 + 50)) lay_12 dX12_step_557 (by decide) fl12_170 rfl ?_
      refine tm_iload_n dX12_step_560 rfl 5 rfl ?_
      refine tm_dup2 dX12_step_561 rfl rfl ?_
      refine tm_iald (z := ((9 * m) + (σ.2.1 73 m)) - 1) (v := σ.2.1 79 (((9 * m) + (σ.2.1 73 m)) - 1)) dX12_step_562 (show mT[50]? = some (79, 0, 27) from rfl) (by omega) (by omega) (by decide) (rfl) ?_
      have g168 := RG.a hR 79 (((9 * m) + (σ.2.1 73 m)) - 1)
      refine tm_iconst dX12_step_563 ?_
      refine tm_iadd dX12_step_564 ?_
      refine tm_iast (z := ((9 * m) + (σ.2.1 73 m)) - 1) (v := (σ.2.1 79 (((9 * m) + (σ.2.1 73 m)) - 1)) + 1) dX12_step_565 (show mT[50]? = some (79, 0, 27) from rfl) (by omega) (by omega) (by decide) ?_
      refine tm_iload dX12_step_566 0 rfl ?_
      exact tm_iret rfl dX12_step_568 (⟨_, rfl, (Fr.rfl.A (by decide)), (hR.A (by omega)), Or.inr (Or.inr ⟨by omega, hrun.top (t := 9 * m + σ.2.1 73 m - 1) rfl (show Fr [] [79] [] σ (sA 79 (((9 * m) + (σ.2.1 73 m)) - 1) ((σ.2.1 79 (((9 * m) + (σ.2.1 73 m)) - 1)) + 1) σ) from (Fr.rfl.A (by decide))) (by decide) (by decide) rfl (fun _ _ _ => rfl) (fun z a b => ⟨ra_ne (by omega) rfl, rfl⟩) (by rw [show (sA 79 (((9 * m) + (σ.2.1 73 m)) - 1) ((σ.2.1 79 (((9 * m) + (σ.2.1 73 m)) - 1)) + 1) σ).2.1 79 (9 * m + σ.2.1 73 m - 1) = (σ.2.1 79 (((9 * m) + (σ.2.1 73 m)) - 1)) + 1 from ra_eq, show (sA 79 (((9 * m) + (σ.2.1 73 m)) - 1) ((σ.2.1 79 (((9 * m) + (σ.2.1 73 m)) - 1)) + 1) σ).2.1 80 (9 * m + σ.2.1 73 m - 1) = σ.2.1 80 (9 * m + σ.2.1 73 m - 1) from rfl]; exact hp.nx (by omega) (by omega) (by omega) (by omega)) (by rw [show (sA 79 (((9 * m) + (σ.2.1 73 m)) - 1) ((σ.2.1 79 (((9 * m) + (σ.2.1 73 m)) - 1)) + 1) σ).2.1 80 (9 * m + σ.2.1 73 m - 1) = σ.2.1 80 (9 * m + σ.2.1 73 m - 1) from rfl]; omega)⟩), ⟨fun j hj => ⟨rfl, rfl⟩, fun z hz => ⟨rfl, ra_ne (by omega) rfl, rfl⟩⟩, ⟨Int.le_refl _, (by show σ.2.1 76 m ≤ σ.2.1 76 m + 1; omega)⟩, fun _ => Or.inl ⟨by omega, by omega, rfl, fun _ => rfl, fun z hz => ra_ne hz rfl, Or.inl (by rw [show (sA 79 (((9 * m) + (σ.2.1 73 m)) - 1) ((σ.2.1 79 (((9 * m) + (σ.2.1 73 m)) - 1)) + 1) σ).2.1 79 (9 * m + σ.2.1 73 m - 1) = (σ.2.1 79 (((9 * m) + (σ.2.1 73 m)) - 1)) + 1 from ra_eq])⟩⟩)
    · refine tm_tableIn (tgt := 499) dX12_step_82 ⟨by omega, by omega⟩ (by omega) (by omega) (show _ = some (417) by rw [h21v]; rfl) (by decide) ?_
      refine tm_goto (tgt := 556) dX12_step_499 (by decide) ?_
      refine tm_aload_n dX12_step_556 rfl 6 rfl ?_
      refine tm_get (k := 79) (v := .ref (b + 1 + 50)) lay_12 dX12_step_557 (by decide) fl12_170 rfl ?_
      refine tm_iload_n dX12_step_560 rfl 5 rfl ?_
      refine tm_dup2 dX12_step_561 rfl rfl ?_
      refine tm_iald (z := ((9 * m) + (σ.2.1 73 m)) - 1) (v := σ.2.1 79 (((9 * m) + (σ.2.1 73 m)) - 1)) dX12_step_562 (show mT[50]? = some (79, 0, 27) from rfl) (by omega) (by omega) (by decide) (rfl) ?_
      have g169 := RG.a hR 79 (((9 * m) + (σ.2.1 73 m)) - 1)
      refine tm_iconst dX12_step_563 ?_
      refine tm_iadd dX12_step_564 ?_
      refine tm_iast (z := ((9 * m) + (σ.2.1 73 m)) - 1) (v := (σ.2.1 79 (((9 * m) + (σ.2.1 73 m)) - 1)) + 1) dX12_step_565 (show mT[50]? = some (79, 0, 27) from rfl) (by omega) (by omega) (by decide) ?_
      refine tm_iload dX12_step_566 0 rfl ?_
      exact tm_iret rfl dX12_step_568 (⟨_, rfl, (Fr.rfl.A (by decide)), (hR.A (by omega)), Or.inr (Or.inr ⟨by omega, hrun.top (t := 9 * m + σ.2.1 73 m - 1) rfl (show Fr [] [79] [] σ (sA 79 (((9 * m) + (σ.2.1 73 m)) - 1) ((σ.2.1 79 (((9 * m) + (σ.2.1 73 m)) - 1)) + 1) σ) from (Fr.rfl.A (by decide))) (by decide) (by decide) rfl (fun _ _ _ => rfl) (fun z a b => ⟨ra_ne (by omega) rfl, rfl⟩) (by rw [show (sA 79 (((9 * m) + (σ.2.1 73 m)) - 1) ((σ.2.1 79 (((9 * m) + (σ.2.1 73 m)) - 1)) + 1) σ).2.1 79 (9 * m + σ.2.1 73 m - 1) = (σ.2.1 79 (((9 * m) + (σ.2.1 73 m)) - 1)) + 1 from ra_eq, show (sA 79 (((9 * m) + (σ.2.1 73 m)) - 1) ((σ.2.1 79 (((9 * m) + (σ.2.1 73 m)) - 1)) + 1) σ).2.1 80 (9 * m + σ.2.1 73 m - 1) = σ.2.1 80 (9 * m + σ.2.1 73 m - 1) from rfl]; exact hp.nx (by omega) (by omega) (by omega) (by omega)) (by rw [show (sA 79 (((9 * m) + (σ.2.1 73 m)) - 1) ((σ.2.1 79 (((9 * m) + (σ.2.1 73 m)) - 1)) + 1) σ).2.1 80 (9 * m + σ.2.1 73 m - 1) = σ.2.1 80 (9 * m + σ.2.1 73 m - 1) from rfl]; omega)⟩), ⟨fun j hj => ⟨rfl, rfl⟩, fun z hz => ⟨rfl, ra_ne (by omega) rfl, rfl⟩⟩, ⟨Int.le_refl _, (by show σ.2.1 76 m ≤ σ.2.1 76 m + 1; omega)⟩, fun _ => Or.inl ⟨by omega, by omega, rfl, fun _ => rfl, fun z hz => ra_ne hz rfl, Or.inl (by rw [show (sA 79 (((9 * m) + (σ.2.1 73 m)) - 1) ((σ.2.1 79 (((9 * m) + (σ.2.1 73 m)) - 1)) + 1) σ).2.1 79 (9 * m + σ.2.1 73 m - 1) = (σ.2.1 79 (((9 * m) + (σ.2.1 73 m)) - 1)) + 1 from ra_eq])⟩⟩)
    · refine tm_tableIn (tgt := 427) dX12_step_82 ⟨by omega, by omega⟩ (by omega) (by omega) (show _ = some (345) by rw [h21v]; rfl) (by decide) ?_
      refine tm_aload_n dX12_step_427 rfl 6 rfl ?_
      refine tm_iload_n dX12_step_428 rfl 7 rfl ?_
      refine tm_callV (M := m_X12_step) (pc := 429) (ix := 554) (M' := m_X12_depth) (As := [.int (iI m)]) (rest := []) dX12_step_429 ok_X12_depth im_X12_depth se_X12_depth ml12_554 np_X12_depth rfl rfl (Nat.le_of_ble_eq_true rfl) (Nat.le_of_ble_eq_true rfl) rfl (c_X12_depth (d + 1) (σ := σ) (m := m) hR hm2 (by omega) (fun c a e => ⟨_, hdec c a e⟩)) (fun r170 σ171 hp => ?_)
      obtain ⟨v172, rfl, rfl, f173, f174⟩ := hp
      show Tm _ _ 432 b σ [(7, .int (iI 0)), (6, .int (iI v18)), (5, .int (iI (192 * (((9 * m) + (σ.2.1 73 m)) - 1)))), (4, .int (iI (220 * (v5 + (σ.2.1 78 (((9 * m) + (σ.2.1 73 m)) - 1))) + (σ.2.1 79 (((9 * m) + (σ.2.1 73 m)) - 1))))), (3, .int (iI (σ.2.1 78 (((9 * m) + (σ.2.1 73 m)) - 1)))), (2, .int (iI (((9 * m) + (σ.2.1 73 m)) - 1))), (0, .ref b), (1, .int (iI m))] [.int (iI v172)] _
      refine tm_bipush dX12_step_432 (by decide) ?_
      refine tm_icmp_ne (tgt := 439) dX12_step_434 (by decide) ⟨by omega, by omega⟩ ⟨by decide, by decide⟩ (fun h175 => ?_) (fun h175 => ?_)
      · have ho4 := hoki.2.2.2.1 (Or.inl (by omega))
        have hen := hp.enter (hkd.trans (by omega))
        rw [hds] at hen
        have hep := hen.1
        have hdp := dp_s hbg (hep.rng)
        rw [hen.2.1] at hdp
        have hep1 := hep.rng
        refine tm_aload_n dX12_step_439 rfl 6 rfl ?_
        refine tm_get (k := 80) (v := .ref (b + 1 + 51)) lay_12 dX12_step_440 (by decide) fl12_173 rfl ?_
        refine tm_iload_n dX12_step_443 rfl 5 rfl ?_
        refine tm_aload_n dX12_step_444 rfl 6 rfl ?_
        refine tm_get (k := 4) (v := .ref (b + 1 + 2)) lay_12 dX12_step_445 (by decide) fl12_17 rfl ?_
        refine tm_iload dX12_step_448 3 rfl ?_
        refine tm_iald (z := 220 * (v5 + (σ.2.1 78 (((9 * m) + (σ.2.1 73 m)) - 1))) + (σ.2.1 79 (((9 * m) + (σ.2.1 73 m)) - 1))) (v := σ.2.1 4 (220 * (v5 + (σ.2.1 78 (((9 * m) + (σ.2.1 73 m)) - 1))) + (σ.2.1 79 (((9 * m) + (σ.2.1 73 m)) - 1)))) dX12_step_450 (show mT[2]? = some (4, 0, 2860) from rfl) (by omega) (by omega) (by decide) (rfl) ?_
        have g176 := RG.a hR 4 (220 * (v5 + (σ.2.1 78 (((9 * m) + (σ.2.1 73 m)) - 1))) + (σ.2.1 79 (((9 * m) + (σ.2.1 73 m)) - 1)))
        refine tm_iast (z := ((9 * m) + (σ.2.1 73 m)) - 1) (v := σ.2.1 4 (220 * (v5 + (σ.2.1 78 (((9 * m) + (σ.2.1 73 m)) - 1))) + (σ.2.1 79 (((9 * m) + (σ.2.1 73 m)) - 1)))) dX12_step_451 (show mT[51]? = some (80, 0, 27) from rfl) (by omega) (by omega) (by decide) ?_
        refine tm_aload_n dX12_step_452 rfl 6 rfl ?_
        refine tm_get (k := 81) (v := .ref (b + 1 + 52)) lay_12 dX12_step_453 (by decide) fl12_176 rfl ?_
        refine tm_bipush dX12_step_456 (by decide) ?_
        refine tm_iload_n dX12_step_458 rfl 5 rfl ?_
        refine tm_imul dX12_step_459 ?_
        refine tm_aload_n dX12_step_460 rfl 6 rfl ?_
        refine tm_get (k := 4) (v := .ref (b + 1 + 2)) lay_12 dX12_step_461 (by decide) fl12_17 rfl ?_
        refine tm_iload dX12_step_464 3 rfl ?_
        refine tm_iald (z := 220 * (v5 + (σ.2.1 78 (((9 * m) + (σ.2.1 73 m)) - 1))) + (σ.2.1 79 (((9 * m) + (σ.2.1 73 m)) - 1))) (v := σ.2.1 4 (220 * (v5 + (σ.2.1 78 (((9 * m) + (σ.2.1 73 m)) - 1))) + (σ.2.1 79 (((9 * m) + (σ.2.1 73 m)) - 1)))) dX12_step_466 (show mT[2]? = some (4, 0, 2860) from rfl) (by omega) (by omega) (by decide) (ra_o (by decide) (rfl)) ?_
        have g177 := RG.a hR 4 (220 * (v5 + (σ.2.1 78 (((9 * m) + (σ.2.1 73 m)) - 1))) + (σ.2.1 79 (((9 * m) + (σ.2.1 73 m)) - 1)))
        refine tm_iadd dX12_step_467 ?_
        refine tm_iconst dX12_step_468 ?_
        refine tm_iast (z := (12 * (((9 * m) + (σ.2.1 73 m)) - 1)) + (σ.2.1 4 (220 * (v5 + (σ.2.1 78 (((9 * m) + (σ.2.1 73 m)) - 1))) + (σ.2.1 79 (((9 * m) + (σ.2.1 73 m)) - 1))))) (v := 0) dX12_step_469 (show mT[52]? = some (81, 0, 324) from rfl) (by omega) (by omega) (by decide) ?_
        refine tm_goto (tgt := 556) dX12_step_470 (by decide) ?_
        refine tm_aload_n dX12_step_556 rfl 6 rfl ?_
        refine tm_get (k := 79) (v := .ref (b + 1 + 50)) lay_12 dX12_step_557 (by decide) fl12_170 rfl ?_
        refine tm_iload_n dX12_step_560 rfl 5 rfl ?_
        refine tm_dup2 dX12_step_561 rfl rfl ?_
        refine tm_iald (z := ((9 * m) + (σ.2.1 73 m)) - 1) (v := σ.2.1 79 (((9 * m) + (σ.2.1 73 m)) - 1)) dX12_step_562 (show mT[50]? = some (79, 0, 27) from rfl) (by omega) (by omega) (by decide) (ra_o (by decide) (ra_o (by decide) (rfl))) ?_
        have g178 := RG.a hR 79 (((9 * m) + (σ.2.1 73 m)) - 1)
        refine tm_iconst dX12_step_563 ?_
        refine tm_iadd dX12_step_564 ?_
        refine tm_iast (z := ((9 * m) + (σ.2.1 73 m)) - 1) (v := (σ.2.1 79 (((9 * m) + (σ.2.1 73 m)) - 1)) + 1) dX12_step_565 (show mT[50]? = some (79, 0, 27) from rfl) (by omega) (by omega) (by decide) ?_
        refine tm_iload dX12_step_566 0 rfl ?_
        exact tm_iret rfl dX12_step_568 (⟨_, rfl, (((Fr.rfl.A (by decide)).A (by decide)).A (by decide)), (((hR.A (by omega)).A (by omega)).A (by omega)), Or.inr (Or.inr ⟨by omega, hrun.top (t := 9 * m + σ.2.1 73 m - 1) rfl (show Fr [] [79, 80, 81] [] σ (sA 79 (((9 * m) + (σ.2.1 73 m)) - 1) ((σ.2.1 79 (((9 * m) + (σ.2.1 73 m)) - 1)) + 1) (sA 81 ((12 * (((9 * m) + (σ.2.1 73 m)) - 1)) + (σ.2.1 4 (220 * (v5 + (σ.2.1 78 (((9 * m) + (σ.2.1 73 m)) - 1))) + (σ.2.1 79 (((9 * m) + (σ.2.1 73 m)) - 1))))) (0) (sA 80 (((9 * m) + (σ.2.1 73 m)) - 1) (σ.2.1 4 (220 * (v5 + (σ.2.1 78 (((9 * m) + (σ.2.1 73 m)) - 1))) + (σ.2.1 79 (((9 * m) + (σ.2.1 73 m)) - 1)))) σ))) from (((Fr.rfl.A (by decide)).A (by decide)).A (by decide))) (by decide) (by decide) rfl (fun _ _ _ => rfl) (fun z a b => ⟨ra_ne (by omega) rfl, (ra_o (by decide) (ra_o (by decide) (ra_ne (by omega) rfl)))⟩) (by rw [show (sA 79 (((9 * m) + (σ.2.1 73 m)) - 1) ((σ.2.1 79 (((9 * m) + (σ.2.1 73 m)) - 1)) + 1) (sA 81 ((12 * (((9 * m) + (σ.2.1 73 m)) - 1)) + (σ.2.1 4 (220 * (v5 + (σ.2.1 78 (((9 * m) + (σ.2.1 73 m)) - 1))) + (σ.2.1 79 (((9 * m) + (σ.2.1 73 m)) - 1))))) (0) (sA 80 (((9 * m) + (σ.2.1 73 m)) - 1) (σ.2.1 4 (220 * (v5 + (σ.2.1 78 (((9 * m) + (σ.2.1 73 m)) - 1))) + (σ.2.1 79 (((9 * m) + (σ.2.1 73 m)) - 1)))) σ))).2.1 79 (9 * m + σ.2.1 73 m - 1) = (σ.2.1 79 (((9 * m) + (σ.2.1 73 m)) - 1)) + 1 from ra_eq, show (sA 79 (((9 * m) + (σ.2.1 73 m)) - 1) ((σ.2.1 79 (((9 * m) + (σ.2.1 73 m)) - 1)) + 1) (sA 81 ((12 * (((9 * m) + (σ.2.1 73 m)) - 1)) + (σ.2.1 4 (220 * (v5 + (σ.2.1 78 (((9 * m) + (σ.2.1 73 m)) - 1))) + (σ.2.1 79 (((9 * m) + (σ.2.1 73 m)) - 1))))) (0) (sA 80 (((9 * m) + (σ.2.1 73 m)) - 1) (σ.2.1 4 (220 * (v5 + (σ.2.1 78 (((9 * m) + (σ.2.1 73 m)) - 1))) + (σ.2.1 79 (((9 * m) + (σ.2.1 73 m)) - 1)))) σ))).2.1 80 (9 * m + σ.2.1 73 m - 1) = σ.2.1 4 (220 * (v5 + (σ.2.1 78 (((9 * m) + (σ.2.1 73 m)) - 1))) + (σ.2.1 79 (((9 * m) + (σ.2.1 73 m)) - 1))) from ra_o (by decide) (ra_o (by decide) (ra_eq))]; exact hep) (by rw [show (sA 79 (((9 * m) + (σ.2.1 73 m)) - 1) ((σ.2.1 79 (((9 * m) + (σ.2.1 73 m)) - 1)) + 1) (sA 81 ((12 * (((9 * m) + (σ.2.1 73 m)) - 1)) + (σ.2.1 4 (220 * (v5 + (σ.2.1 78 (((9 * m) + (σ.2.1 73 m)) - 1))) + (σ.2.1 79 (((9 * m) + (σ.2.1 73 m)) - 1))))) (0) (sA 80 (((9 * m) + (σ.2.1 73 m)) - 1) (σ.2.1 4 (220 * (v5 + (σ.2.1 78 (((9 * m) + (σ.2.1 73 m)) - 1))) + (σ.2.1 79 (((9 * m) + (σ.2.1 73 m)) - 1)))) σ))).2.1 80 (9 * m + σ.2.1 73 m - 1) = σ.2.1 4 (220 * (v5 + (σ.2.1 78 (((9 * m) + (σ.2.1 73 m)) - 1))) + (σ.2.1 79 (((9 * m) + (σ.2.1 73 m)) - 1))) from ra_o (by decide) (ra_o (by decide) (ra_eq))]; omega)⟩), ⟨fun j hj => ⟨rfl, rfl⟩, fun z hz => ⟨rfl, ra_ne (by omega) rfl, (ra_o (by decide) (ra_o (by decide) (ra_ne (by omega) rfl)))⟩⟩, ⟨Int.le_refl _, (by show σ.2.1 76 m ≤ σ.2.1 76 m + 1; omega)⟩, fun _ => Or.inl ⟨by omega, by omega, rfl, fun _ => rfl, fun z hz => ra_ne hz rfl, Or.inl (by rw [show (sA 79 (((9 * m) + (σ.2.1 73 m)) - 1) ((σ.2.1 79 (((9 * m) + (σ.2.1 73 m)) - 1)) + 1) (sA 81 ((12 * (((9 * m) + (σ.2.1 73 m)) - 1)) + (σ.2.1 4 (220 * (v5 + (σ.2.1 78 (((9 * m) + (σ.2.1 73 m)) - 1))) + (σ.2.1 79 (((9 * m) + (σ.2.1 73 m)) - 1))))) (0) (sA 80 (((9 * m) + (σ.2.1 73 m)) - 1) (σ.2.1 4 (220 * (v5 + (σ.2.1 78 (((9 * m) + (σ.2.1 73 m)) - 1))) + (σ.2.1 79 (((9 * m) + (σ.2.1 73 m)) - 1)))) σ))).2.1 79 (9 * m + σ.2.1 73 m - 1) = (σ.2.1 79 (((9 * m) + (σ.2.1 73 m)) - 1)) + 1 from ra_eq])⟩⟩)
      · refine tm_iconst dX12_step_437 ?_
        exact tm_iret rfl dX12_step_438 (⟨_, rfl, Fr.rfl, hR, Or.inl ⟨rfl, rfl⟩, ⟨fun _ _ => ⟨rfl, rfl⟩, fun _ _ => ⟨rfl, rfl, rfl⟩⟩, ⟨Int.le_refl _, (by show σ.2.1 76 m ≤ σ.2.1 76 m + 1; omega)⟩, fun q => absurd q (by decide)⟩)
    · refine tm_tableIn (tgt := 473) dX12_step_82 ⟨by omega, by omega⟩ (by omega) (by omega) (show _ = some (391) by rw [h21v]; rfl) (by decide) ?_
      have ho4 := hoki.2.2.2.1 (Or.inr (by omega))
      have hle := hp.leave (hkd.trans (by omega))
      have hm2n : m ≠ 2 := fun e => by have : fm σ m (σ.2.1 78 (9 * m + σ.2.1 73 m - 1)) = 1 := if_pos e; omega
      have hdp := dp_s hbg hfr
      rw [hds] at hle
      have hlp := hle.1
      have hpm : prm σ m (σ.2.1 78 (9 * m + σ.2.1 73 m - 1)) = fun f => σ.2.1 16 (12 * σ.2.1 78 (9 * m + σ.2.1 73 m - 1) + f) := by funext f; exact if_neg hm2n
      have hq : prm σ m (σ.2.1 78 (9 * m + σ.2.1 73 m - 1)) (σ.2.1 80 (9 * m + σ.2.1 73 m - 1)) = σ.2.1 16 (12 * σ.2.1 78 (9 * m + σ.2.1 73 m - 1) + σ.2.1 4 (220 * (v5 + (σ.2.1 78 (((9 * m) + (σ.2.1 73 m)) - 1))) + (σ.2.1 79 (((9 * m) + (σ.2.1 73 m)) - 1)))) := by rw [← hle.2.1]; exact congrFun hpm _
      rw [hq] at hdp
      rw [hpm] at hlp
      have hl2 := hle.2
      refine tm_aload_n dX12_step_473 rfl 6 rfl ?_
      refine tm_get (k := 80) (v := .ref (b + 1 + 51)) lay_12 dX12_step_474 (by decide) fl12_173 rfl ?_
      refine tm_iload_n dX12_step_477 rfl 5 rfl ?_
      refine tm_aload_n dX12_step_478 rfl 6 rfl ?_
      refine tm_get (k := 16) (v := .ref (b + 1 + 13)) lay_12 dX12_step_479 (by decide) fl12_50 rfl ?_
      refine tm_bipush dX12_step_482 (by decide) ?_
      refine tm_iload_n dX12_step_484 rfl 4 rfl ?_
      refine tm_imul dX12_step_485 ?_
      refine tm_aload_n dX12_step_486 rfl 6 rfl ?_
      refine tm_get (k := 4) (v := .ref (b + 1 + 2)) lay_12 dX12_step_487 (by decide) fl12_17 rfl ?_
      refine tm_iload dX12_step_490 3 rfl ?_
      refine tm_iald (z := 220 * (v5 + (σ.2.1 78 (((9 * m) + (σ.2.1 73 m)) - 1))) + (σ.2.1 79 (((9 * m) + (σ.2.1 73 m)) - 1))) (v := σ.2.1 4 (220 * (v5 + (σ.2.1 78 (((9 * m) + (σ.2.1 73 m)) - 1))) + (σ.2.1 79 (((9 * m) + (σ.2.1 73 m)) - 1)))) dX12_step_492 (show mT[2]? = some (4, 0, 2860) from rfl) (by omega) (by omega) (by decide) (rfl) ?_
      have g179 := RG.a hR 4 (220 * (v5 + (σ.2.1 78 (((9 * m) + (σ.2.1 73 m)) - 1))) + (σ.2.1 79 (((9 * m) + (σ.2.1 73 m)) - 1)))
      refine tm_iadd dX12_step_493 ?_
      refine tm_iald (z := (12 * (σ.2.1 78 (((9 * m) + (σ.2.1 73 m)) - 1))) + (σ.2.1 4 (220 * (v5 + (σ.2.1 78 (((9 * m) + (σ.2.1 73 m)) - 1))) + (σ.2.1 79 (((9 * m) + (σ.2.1 73 m)) - 1))))) (v := σ.2.1 16 ((12 * (σ.2.1 78 (((9 * m) + (σ.2.1 73 m)) - 1))) + (σ.2.1 4 (220 * (v5 + (σ.2.1 78 (((9 * m) + (σ.2.1 73 m)) - 1))) + (σ.2.1 79 (((9 * m) + (σ.2.1 73 m)) - 1)))))) dX12_step_494 (show mT[13]? = some (16, 0, 72) from rfl) (by omega) (by omega) (by decide) (rfl) ?_
      have g180 := RG.a hR 16 ((12 * (σ.2.1 78 (((9 * m) + (σ.2.1 73 m)) - 1))) + (σ.2.1 4 (220 * (v5 + (σ.2.1 78 (((9 * m) + (σ.2.1 73 m)) - 1))) + (σ.2.1 79 (((9 * m) + (σ.2.1 73 m)) - 1)))))
      refine tm_iast (z := ((9 * m) + (σ.2.1 73 m)) - 1) (v := σ.2.1 16 ((12 * (σ.2.1 78 (((9 * m) + (σ.2.1 73 m)) - 1))) + (σ.2.1 4 (220 * (v5 + (σ.2.1 78 (((9 * m) + (σ.2.1 73 m)) - 1))) + (σ.2.1 79 (((9 * m) + (σ.2.1 73 m)) - 1)))))) dX12_step_495 (show mT[51]? = some (80, 0, 27) from rfl) (by omega) (by omega) (by decide) ?_
      refine tm_goto (tgt := 556) dX12_step_496 (by decide) ?_
      refine tm_aload_n dX12_step_556 rfl 6 rfl ?_
      refine tm_get (k := 79) (v := .ref (b + 1 + 50)) lay_12 dX12_step_557 (by decide) fl12_170 rfl ?_
      refine tm_iload_n dX12_step_560 rfl 5 rfl ?_
      refine tm_dup2 dX12_step_561 rfl rfl ?_
      refine tm_iald (z := ((9 * m) + (σ.2.1 73 m)) - 1) (v := σ.2.1 79 (((9 * m) + (σ.2.1 73 m)) - 1)) dX12_step_562 (show mT[50]? = some (79, 0, 27) from rfl) (by omega) (by omega) (by decide) (ra_o (by decide) (rfl)) ?_
      have g181 := RG.a hR 79 (((9 * m) + (σ.2.1 73 m)) - 1)
      refine tm_iconst dX12_step_563 ?_
      refine tm_iadd dX12_step_564 ?_
      refine tm_iast (z := ((9 * m) + (σ.2.1 73 m)) - 1) (v := (σ.2.1 79 (((9 * m) + (σ.2.1 73 m)) - 1)) + 1) dX12_step_565 (show mT[50]? = some (79, 0, 27) from rfl) (by omega) (by omega) (by decide) ?_
      refine tm_iload dX12_step_566 0 rfl ?_
      exact tm_iret rfl dX12_step_568 (⟨_, rfl, ((Fr.rfl.A (by decide)).A (by decide)), ((hR.A (by omega)).A (by omega)), Or.inr (Or.inr ⟨by omega, hrun.top (t := 9 * m + σ.2.1 73 m - 1) rfl (show Fr [] [79, 80] [] σ (sA 79 (((9 * m) + (σ.2.1 73 m)) - 1) ((σ.2.1 79 (((9 * m) + (σ.2.1 73 m)) - 1)) + 1) (sA 80 (((9 * m) + (σ.2.1 73 m)) - 1) (σ.2.1 16 ((12 * (σ.2.1 78 (((9 * m) + (σ.2.1 73 m)) - 1))) + (σ.2.1 4 (220 * (v5 + (σ.2.1 78 (((9 * m) + (σ.2.1 73 m)) - 1))) + (σ.2.1 79 (((9 * m) + (σ.2.1 73 m)) - 1)))))) σ)) from ((Fr.rfl.A (by decide)).A (by decide))) (by decide) (by decide) rfl (fun _ _ _ => rfl) (fun z a b => ⟨ra_ne (by omega) rfl, (ra_o (by decide) (ra_ne (by omega) rfl))⟩) (by rw [show (sA 79 (((9 * m) + (σ.2.1 73 m)) - 1) ((σ.2.1 79 (((9 * m) + (σ.2.1 73 m)) - 1)) + 1) (sA 80 (((9 * m) + (σ.2.1 73 m)) - 1) (σ.2.1 16 ((12 * (σ.2.1 78 (((9 * m) + (σ.2.1 73 m)) - 1))) + (σ.2.1 4 (220 * (v5 + (σ.2.1 78 (((9 * m) + (σ.2.1 73 m)) - 1))) + (σ.2.1 79 (((9 * m) + (σ.2.1 73 m)) - 1)))))) σ)).2.1 79 (9 * m + σ.2.1 73 m - 1) = (σ.2.1 79 (((9 * m) + (σ.2.1 73 m)) - 1)) + 1 from ra_eq, show (sA 79 (((9 * m) + (σ.2.1 73 m)) - 1) ((σ.2.1 79 (((9 * m) + (σ.2.1 73 m)) - 1)) + 1) (sA 80 (((9 * m) + (σ.2.1 73 m)) - 1) (σ.2.1 16 ((12 * (σ.2.1 78 (((9 * m) + (σ.2.1 73 m)) - 1))) + (σ.2.1 4 (220 * (v5 + (σ.2.1 78 (((9 * m) + (σ.2.1 73 m)) - 1))) + (σ.2.1 79 (((9 * m) + (σ.2.1 73 m)) - 1)))))) σ)).2.1 80 (9 * m + σ.2.1 73 m - 1) = σ.2.1 16 ((12 * (σ.2.1 78 (((9 * m) + (σ.2.1 73 m)) - 1))) + (σ.2.1 4 (220 * (v5 + (σ.2.1 78 (((9 * m) + (σ.2.1 73 m)) - 1))) + (σ.2.1 79 (((9 * m) + (σ.2.1 73 m)) - 1))))) from ra_o (by decide) (ra_eq)]; exact hlp) (by rw [show (sA 79 (((9 * m) + (σ.2.1 73 m)) - 1) ((σ.2.1 79 (((9 * m) + (σ.2.1 73 m)) - 1)) + 1) (sA 80 (((9 * m) + (σ.2.1 73 m)) - 1) (σ.2.1 16 ((12 * (σ.2.1 78 (((9 * m) + (σ.2.1 73 m)) - 1))) + (σ.2.1 4 (220 * (v5 + (σ.2.1 78 (((9 * m) + (σ.2.1 73 m)) - 1))) + (σ.2.1 79 (((9 * m) + (σ.2.1 73 m)) - 1)))))) σ)).2.1 80 (9 * m + σ.2.1 73 m - 1) = σ.2.1 16 ((12 * (σ.2.1 78 (((9 * m) + (σ.2.1 73 m)) - 1))) + (σ.2.1 4 (220 * (v5 + (σ.2.1 78 (((9 * m) + (σ.2.1 73 m)) - 1))) + (σ.2.1 79 (((9 * m) + (σ.2.1 73 m)) - 1))))) from ra_o (by decide) (ra_eq)]; omega)⟩), ⟨fun j hj => ⟨rfl, rfl⟩, fun z hz => ⟨rfl, ra_ne (by omega) rfl, (ra_o (by decide) (ra_ne (by omega) rfl))⟩⟩, ⟨Int.le_refl _, (by show σ.2.1 76 m ≤ σ.2.1 76 m + 1; omega)⟩, fun _ => Or.inl ⟨by omega, by omega, rfl, fun _ => rfl, fun z hz => ra_ne hz rfl, Or.inl (by rw [show (sA 79 (((9 * m) + (σ.2.1 73 m)) - 1) ((σ.2.1 79 (((9 * m) + (σ.2.1 73 m)) - 1)) + 1) (sA 80 (((9 * m) + (σ.2.1 73 m)) - 1) (σ.2.1 16 ((12 * (σ.2.1 78 (((9 * m) + (σ.2.1 73 m)) - 1))) + (σ.2.1 4 (220 * (v5 + (σ.2.1 78 (((9 * m) + (σ.2.1 73 m)) - 1))) + (σ.2.1 79 (((9 * m) + (σ.2.1 73 m)) - 1)))))) σ)).2.1 79 (9 * m + σ.2.1 73 m - 1) = (σ.2.1 79 (((9 * m) + (σ.2.1 73 m)) - 1)) + 1 from ra_eq])⟩⟩)
end
