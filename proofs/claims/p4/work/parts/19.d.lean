theorem dX12_oneRoutine_298 : decode cX12_oneRoutine 298 = .ok (.aload_n 0, 1) := by decide +kernel
theorem dX12_oneRoutine_299 : decode cX12_oneRoutine 299 = .ok (.bipush 41, 2) := by decide +kernel
theorem dX12_oneRoutine_301 : decode cX12_oneRoutine 301 = .ok (.invokevirtual 330, 3) := by decide +kernel
theorem dX12_oneRoutine_304 : decode cX12_oneRoutine 304 = .ok (.ifCond .ne 5, 3) := by decide +kernel
theorem dX12_oneRoutine_309 : decode cX12_oneRoutine 309 = .ok (.aload_n 0, 1) := by decide +kernel
theorem dX12_oneRoutine_310 : decode cX12_oneRoutine 310 = .ok (.aload_n 0, 1) := by decide +kernel
theorem dX12_oneRoutine_311 : decode cX12_oneRoutine 311 = .ok (.invokevirtual 271, 3) := by decide +kernel
theorem dX12_oneRoutine_314 : decode cX12_oneRoutine 314 = .ok (.ifCond .eq 15, 3) := by decide +kernel
theorem dX12_oneRoutine_329 : decode cX12_oneRoutine 329 = .ok (.iconst 0, 1) := by decide +kernel
theorem dX12_oneRoutine_330 : decode cX12_oneRoutine 330 = .ok (.putfield 291, 3) := by decide +kernel
theorem dX12_oneRoutine_333 : decode cX12_oneRoutine 333 = .ok (.aload_n 0, 1) := by decide +kernel
theorem dX12_oneRoutine_334 : decode cX12_oneRoutine 334 = .ok (.iconst 0, 1) := by decide +kernel
theorem dX12_oneRoutine_335 : decode cX12_oneRoutine 335 = .ok (.putfield 370, 3) := by decide +kernel
theorem dX12_oneRoutine_338 : decode cX12_oneRoutine 338 = .ok (.aload_n 0, 1) := by decide +kernel
theorem dX12_oneRoutine_339 : decode cX12_oneRoutine 339 = .ok (.iconst 0, 1) := by decide +kernel
theorem dX12_oneRoutine_340 : decode cX12_oneRoutine 340 = .ok (.putfield 278, 3) := by decide +kernel
theorem dX12_oneRoutine_343 : decode cX12_oneRoutine 343 = .ok (.aload_n 0, 1) := by decide +kernel
theorem dX12_oneRoutine_344 : decode cX12_oneRoutine 344 = .ok (.invokevirtual 373, 3) := by decide +kernel
theorem dX12_oneRoutine_347 : decode cX12_oneRoutine 347 = .ok (.ifCond .ne 5, 3) := by decide +kernel
theorem dX12_oneRoutine_352 : decode cX12_oneRoutine 352 = .ok (.aload_n 0, 1) := by decide +kernel
theorem dX12_oneRoutine_353 : decode cX12_oneRoutine 353 = .ok (.bipush 7, 2) := by decide +kernel
theorem dX12_oneRoutine_355 : decode cX12_oneRoutine 355 = .ok (.iconst 0, 1) := by decide +kernel
theorem dX12_oneRoutine_356 : decode cX12_oneRoutine 356 = .ok (.iconst 0, 1) := by decide +kernel
theorem dX12_oneRoutine_357 : decode cX12_oneRoutine 357 = .ok (.invokevirtual 294, 3) := by decide +kernel
theorem dX12_oneRoutine_360 : decode cX12_oneRoutine 360 = .ok (.istore 4, 2) := by decide +kernel
theorem dX12_oneRoutine_362 : decode cX12_oneRoutine 362 = .ok (.aload_n 0, 1) := by decide +kernel
theorem dX12_oneRoutine_363 : decode cX12_oneRoutine 363 = .ok (.iload 4, 2) := by decide +kernel
theorem dX12_oneRoutine_365 : decode cX12_oneRoutine 365 = .ok (.iconst 0, 1) := by decide +kernel
theorem dX12_oneRoutine_366 : decode cX12_oneRoutine 366 = .ok (.iconst 1, 1) := by decide +kernel
theorem dX12_oneRoutine_367 : decode cX12_oneRoutine 367 = .ok (.iconst 0, 1) := by decide +kernel
theorem dX12_oneRoutine_368 : decode cX12_oneRoutine 368 = .ok (.invokevirtual 298, 3) := by decide +kernel
theorem dX12_oneRoutine_371 : decode cX12_oneRoutine 371 = .ok (.aload_n 0, 1) := by decide +kernel
theorem dX12_oneRoutine_372 : decode cX12_oneRoutine 372 = .ok (.getfield 255, 3) := by decide +kernel
theorem dX12_oneRoutine_375 : decode cX12_oneRoutine 375 = .ok (.iconst 2, 1) := by decide +kernel
theorem dX12_oneRoutine_376 : decode cX12_oneRoutine 376 = .ok (.if_icmp .ne 18, 3) := by decide +kernel
theorem dX12_oneRoutine_394 : decode cX12_oneRoutine 394 = .ok (.aload_n 0, 1) := by decide +kernel
theorem dX12_oneRoutine_395 : decode cX12_oneRoutine 395 = .ok (.getfield 255, 3) := by decide +kernel
theorem dX12_oneRoutine_398 : decode cX12_oneRoutine 398 = .ok (.iconst 3, 1) := by decide +kernel
theorem dX12_oneRoutine_399 : decode cX12_oneRoutine 399 = .ok (.if_icmp .ne 16, 3) := by decide +kernel
theorem dX12_oneRoutine_415 : decode cX12_oneRoutine 415 = .ok (.aload_n 0, 1) := by decide +kernel
theorem dX12_oneRoutine_416 : decode cX12_oneRoutine 416 = .ok (.dup, 1) := by decide +kernel
theorem dX12_oneRoutine_417 : decode cX12_oneRoutine 417 = .ok (.getfield 268, 3) := by decide +kernel
theorem dX12_oneRoutine_420 : decode cX12_oneRoutine 420 = .ok (.iconst 1, 1) := by decide +kernel
theorem dX12_oneRoutine_421 : decode cX12_oneRoutine 421 = .ok (.iadd, 1) := by decide +kernel
theorem dX12_oneRoutine_422 : decode cX12_oneRoutine 422 = .ok (.putfield 268, 3) := by decide +kernel
theorem dX12_oneRoutine_425 : decode cX12_oneRoutine 425 = .ok (.iconst 1, 1) := by decide +kernel
theorem dX12_oneRoutine_426 : decode cX12_oneRoutine 426 = .ok (.ireturn, 1) := by decide +kernel
theorem dX12_oneRoutine_402 : decode cX12_oneRoutine 402 = .ok (.aload_n 0, 1) := by decide +kernel
theorem dX12_oneRoutine_403 : decode cX12_oneRoutine 403 = .ok (.getfield 32, 3) := by decide +kernel
theorem dX12_oneRoutine_406 : decode cX12_oneRoutine 406 = .ok (.aload_n 0, 1) := by decide +kernel
theorem dX12_oneRoutine_407 : decode cX12_oneRoutine 407 = .ok (.getfield 268, 3) := by decide +kernel
theorem dX12_oneRoutine_410 : decode cX12_oneRoutine 410 = .ok (.aload_n 0, 1) := by decide +kernel
theorem dX12_oneRoutine_411 : decode cX12_oneRoutine 411 = .ok (.getfield 278, 3) := by decide +kernel
theorem dX12_oneRoutine_414 : decode cX12_oneRoutine 414 = .ok (.iastore, 1) := by decide +kernel
theorem dX12_oneRoutine_379 : decode cX12_oneRoutine 379 = .ok (.aload_n 0, 1) := by decide +kernel
theorem dX12_oneRoutine_380 : decode cX12_oneRoutine 380 = .ok (.getfield 278, 3) := by decide +kernel
theorem dX12_oneRoutine_383 : decode cX12_oneRoutine 383 = .ok (.bipush 120, 2) := by decide +kernel
theorem dX12_oneRoutine_385 : decode cX12_oneRoutine 385 = .ok (.if_icmp .le 9, 3) := by decide +kernel
theorem dX12_oneRoutine_388 : decode cX12_oneRoutine 388 = .ok (.aload_n 0, 1) := by decide +kernel
theorem dX12_oneRoutine_389 : decode cX12_oneRoutine 389 = .ok (.iconst 5, 1) := by decide +kernel
theorem dX12_oneRoutine_390 : decode cX12_oneRoutine 390 = .ok (.iload_n 1, 1) := by decide +kernel
theorem dX12_oneRoutine_391 : decode cX12_oneRoutine 391 = .ok (.invokevirtual 274, 3) := by decide +kernel
theorem dX12_oneRoutine_350 : decode cX12_oneRoutine 350 = .ok (.iconst 0, 1) := by decide +kernel
theorem dX12_oneRoutine_351 : decode cX12_oneRoutine 351 = .ok (.ireturn, 1) := by decide +kernel
theorem dX12_oneRoutine_317 : decode cX12_oneRoutine 317 = .ok (.aload_n 0, 1) := by decide +kernel
theorem dX12_oneRoutine_318 : decode cX12_oneRoutine 318 = .ok (.getfield 63, 3) := by decide +kernel
theorem dX12_oneRoutine_321 : decode cX12_oneRoutine 321 = .ok (.aload_n 0, 1) := by decide +kernel
theorem dX12_oneRoutine_322 : decode cX12_oneRoutine 322 = .ok (.getfield 268, 3) := by decide +kernel
theorem dX12_oneRoutine_325 : decode cX12_oneRoutine 325 = .ok (.iaload, 1) := by decide +kernel
theorem dX12_oneRoutine_326 : decode cX12_oneRoutine 326 = .ok (.goto 4, 3) := by decide +kernel
theorem dX12_oneRoutine_307 : decode cX12_oneRoutine 307 = .ok (.iconst 0, 1) := by decide +kernel
theorem dX12_oneRoutine_308 : decode cX12_oneRoutine 308 = .ok (.ireturn, 1) := by decide +kernel
set_option maxHeartbeats 4000000 in
set_option maxRecDepth 20000 in
theorem b_one298 (d : Nat) {b : Nat} {σ : MS} {p : Int} {m : Int} {ρ : MS} {post : Option Value → MS → Prop} (hR : RG σ) (hoh : ORH ρ) (hd : HD ρ σ) (htk : TOK σ) (hgx : GOX [30] ρ (qq 0) [141, 35] σ (0, 0, 0, m, ρ.1 19)) (hpa : PAM ρ σ) (hpl : ρ.1 19 + 2 ≤ σ.1 19) (hp : p = ρ.1 19) (h_p : -2147483648 ≤ p ∧ p ≤ 2147483647) (hret : ∀ (v : Int) (τ : MS), Fr [19, 20, 22, 23, 26, 27, 28, 29, 30, 31, 32, 33, 34, 39, 40, 43] [3, 4, 5, 6, 7, 8, 9, 35, 36, 37, 41, 42, 45] [24, 38, 44] ρ τ → RG τ → (v = 0 ∨ v = 1) → PBO ρ τ → (v = 1 → ORQ ρ τ) → (v = 0 → ∀ x, GOF [30] (sS 34 x ρ) (qq 0) τ) → post (some (.int (iI v))) τ) : ∀ (n : Nat) , ((0 : Int)).toNat = n → Tm (d + 63) m_X12_oneRoutine 298 b σ [(2, .int (iI m)), (1, .int (iI p)), (0, .ref b)] [] post := by
  intro n
  induction n using Nat.strongRecOn with
  | _ n ih =>
    intro   hm
    have ohr := hoh
    have tkh := htk.1
    have e25h : σ.1 25 = ρ.1 25 := hd.1.1 25 (by decide)
    have e30h : σ.1 30 = ρ.1 30 := hd.1.1 30 (by decide)
    have oh25 := hoh.2.1
    have oh30 := hoh.2.2.1
    have oh31 := hoh.2.2.2.1
    have e31h : σ.1 31 = ρ.1 31 := hd.1.1 31 (by decide)
    have oht := hoh.1.1
    refine tm_aload_n dX12_oneRoutine_298 rfl 2 rfl ?_
    refine tm_bipush dX12_oneRoutine_299 (by decide) ?_
    refine tm_callV (M := m_X12_oneRoutine) (pc := 301) (ix := 330) (M' := m_X12_need) (As := [.int (iI 41)]) (rest := []) dX12_oneRoutine_301 ok_X12_need im_X12_need se_X12_need ml12_330 np_X12_need rfl rfl (Nat.le_of_ble_eq_true rfl) (Nat.le_of_ble_eq_true rfl) rfl (c_X12_need (d + 56) (σ := σ) (c := 41) hR (by omega) (by omega)) (fun r1 σ2 hp => ?_)
    obtain ⟨v3, rfl, f4, f5, f6, f7, f8, f9, f10⟩ := hp
    show Tm _ _ 304 b σ2 [(2, .int (iI m)), (1, .int (iI p)), (0, .ref b)] [.int (iI v3)] _
    have yn0 := f4
    have yn1 := f5
    have yn2 := f6
    have yn3 := f7
    have yn4 := f8
    have yn5 := f9
    have yn6 := f10
    refine tm_if_ne (tgt := 309) dX12_oneRoutine_304 (by decide) ⟨by omega, by omega⟩ (fun h11 => ?_) (fun h11 => ?_)
    · have ynq := yn3 (by omega)
      have gx3 : GOX [30] ρ (qq 0) [35] σ2 (0, 0, 0, m, ρ.1 19) := hgx.nxt (fun x => gn_41 ynq.1 (ynq.2.1.any x))
      have nn9 : NN σ2 := hd.2.2.1.fr yn1 (by decide)
      have e259 : σ2.1 25 = σ.1 25 := yn1.1 25 (by decide)
      have e309 : σ2.1 30 = σ.1 30 := yn1.1 30 (by decide)
      have e319 : σ2.1 31 = σ.1 31 := yn1.1 31 (by decide)
      have tk9 := ynq.2.2.1.1
      have pl9 := ynq.2.2.2.1
      have sz9 := htk.2.1 (by have z := ynq.1.1; omega)
      have R309 := f6
      have pbo9 : PBO ρ σ2 := hd.pbo.nd yn1 yn5
      refine tm_aload_n dX12_oneRoutine_309 rfl 2 rfl ?_
      refine tm_aload_n dX12_oneRoutine_310 rfl 2 rfl ?_
      refine tm_callV (M := m_X12_oneRoutine) (pc := 311) (ix := 271) (M' := m_X12_isKept) (As := []) (rest := [.ref b]) dX12_oneRoutine_311 ok_X12_isKept im_X12_isKept se_X12_isKept ml12_271 np_X12_isKept rfl rfl (Nat.le_of_ble_eq_true rfl) (Nat.le_of_ble_eq_true rfl) rfl (c_X12_isKept (d + 61) (σ := σ2)  R309) (fun r12 σ13 hp => ?_)
      obtain ⟨v14, rfl, rfl, f15, f16⟩ := hp
      show Tm _ _ 314 b σ2 [(2, .int (iI m)), (1, .int (iI p)), (0, .ref b)] [.int (iI v14), .ref b] _
      refine tm_if_eq (tgt := 329) dX12_oneRoutine_314 (by decide) ⟨by omega, by omega⟩ (fun h17 => ?_) (fun h17 => ?_)
      · refine tm_iconst dX12_oneRoutine_329 ?_
        refine tm_putS (k := 32) (v := 0) lay_12 dX12_oneRoutine_330 (by decide) fl12_291 rfl (tyX12_ok 32 (by decide)) rfl rfl rfl ?_
        refine tm_aload_n dX12_oneRoutine_333 rfl 2 rfl ?_
        refine tm_iconst dX12_oneRoutine_334 ?_
        refine tm_putS (k := 33) (v := 0) lay_12 dX12_oneRoutine_335 (by decide) fl12_370 rfl (tyX12_ok 33 (by decide)) rfl rfl rfl ?_
        refine tm_aload_n dX12_oneRoutine_338 rfl 2 rfl ?_
        refine tm_iconst dX12_oneRoutine_339 ?_
        refine tm_putS (k := 34) (v := 0) lay_12 dX12_oneRoutine_340 (by decide) fl12_278 rfl (tyX12_ok 34 (by decide)) rfl rfl rfl ?_
        have g35_ : ∀ x, GOS [30] (sS 34 x ρ) (qq 0) [28, 51, 34] (sS 34 0 (sS 33 0 (sS 32 0 σ2))) (qq (ρ.1 19)) [] := fun x => (gx3 x).then (g35 ⟨rfl, rfl, rfl, rfl⟩)
        have rdn : RDY (sS 34 0 (sS 33 0 (sS 32 0 σ2))) := RDY.new ynq.2.2.1 (by omega) (by omega) (by omega) (by omega)
        have pboA : PBO ρ (sS 34 0 (sS 33 0 (sS 32 0 σ2))) := pbo9.fr (show Fr [32, 33, 34] [] [] σ2 (sS 34 0 (sS 33 0 (sS 32 0 σ2))) from (((Fr.rfl.S (by decide)).S (by decide)).S (by decide))) (by decide) (by decide) (by decide)
        have e30A : (sS 34 0 (sS 33 0 (sS 32 0 σ2))).1 30 = ρ.1 30 := e309.trans e30h
        have e28s : (sS 34 0 (sS 33 0 (sS 32 0 σ2))).1 28 = 0 := (yn1.1 28 (by decide)).trans ((hd.1.1 28 (by decide)).trans hoh.2.2.2.2.1.1)
        have e29s : (sS 34 0 (sS 33 0 (sS 32 0 σ2))).1 29 = 0 := (yn1.1 29 (by decide)).trans ((hd.1.1 29 (by decide)).trans hoh.2.2.2.2.1.2)
        refine tm_aload_n dX12_oneRoutine_343 rfl 2 rfl ?_
        refine tm_callV (M := m_X12_oneRoutine) (pc := 344) (ix := 373) (M' := m_X12_block) (As := []) (rest := []) dX12_oneRoutine_344 ok_X12_block im_X12_block se_X12_block ml12_373 np_X12_block rfl rfl (Nat.le_of_ble_eq_true rfl) (Nat.le_of_ble_eq_true rfl) rfl (c_blk6 (d) (σ := (sS 34 0 (sS 33 0 (sS 32 0 σ2))))  (((f6.S (by omega)).S (by omega)).S (by omega)) rdn nn9 e28s e29s pboA.2.2.2.2.2.2) (fun r18 σ19 hp => ?_)
        obtain ⟨v20, rfl, f21, f22, f23, f24, f25, f26⟩ := hp
        show Tm _ _ 347 b σ19 [(2, .int (iI m)), (1, .int (iI p)), (0, .ref b)] [.int (iI v20)] _
        have bp0 := f21
        have bp1 := f22
        have bp2 := f23
        have bp3 := f24
        have bp4 := f25
        have bp5 := f26
        refine tm_if_ne (tgt := 352) dX12_oneRoutine_347 (by decide) ⟨by omega, by omega⟩ (fun h32 => ?_) (fun h32 => ?_)
        · obtain ⟨lgb, bt, bs, bf, b28, b29⟩ := bp4 (by omega)
          have rdb := bt.2.2.1.2
          have tkb := bt.2.2.1.1.1
          have pboB : PBO ρ σ19 := pboA.pb e30A bp3 (by show (0 : Int) ≤ 0; decide) bp1 (by decide) (by decide) (by decide)
          have e30B : σ19.1 30 = ρ.1 30 := bp3.2.2.2.2.2.2.2.trans e30A
          refine tm_aload_n dX12_oneRoutine_352 rfl 2 rfl ?_
          refine tm_bipush dX12_oneRoutine_353 (by decide) ?_
          refine tm_iconst dX12_oneRoutine_355 ?_
          refine tm_iconst dX12_oneRoutine_356 ?_
          refine tm_callV (M := m_X12_oneRoutine) (pc := 357) (ix := 294) (M' := m_X12_put) (As := [.int (iI 7), .int (iI 0), .int (iI 0)]) (rest := []) dX12_oneRoutine_357 ok_X12_put im_X12_put se_X12_put ml12_294 np_X12_put rfl rfl (Nat.le_of_ble_eq_true rfl) (Nat.le_of_ble_eq_true rfl) rfl (c_X12_put (d + 60) (σ := σ19) (k := 7) (e := 0) (o := 0) f23 (by rw [show σ19.1 30 = σ.1 30 from rs_F f22 (by decide) (rs_o (by decide) (rs_o (by decide) (rs_o (by decide) (rs_F f5 (by decide) (rfl))))), show σ19.1 34 = σ19.1 34 from rfl]; omega) (by omega) (by omega) (by omega)) (fun r33 σ34 hp => ?_)
          obtain ⟨v35, rfl, f36, f37, f38, f39, f40, f41, f42⟩ := hp
          show Tm _ _ 360 b σ34 [(2, .int (iI m)), (1, .int (iI p)), (0, .ref b)] [.int (iI v35)] _
          have jvP := f38
          have jnP := f39
          have jiP := f40
          have joP := f41
          have jrP := f42
          refine tm_istore (L' := [(4, .int (iI v35)), (2, .int (iI m)), (1, .int (iI p)), (0, .ref b)]) dX12_oneRoutine_360 (by decide) rfl ?_
          refine tm_aload_n dX12_oneRoutine_362 rfl 3 rfl ?_
          refine tm_iload dX12_oneRoutine_363 0 rfl ?_
          refine tm_iconst dX12_oneRoutine_365 ?_
          refine tm_iconst dX12_oneRoutine_366 ?_
          refine tm_iconst dX12_oneRoutine_367 ?_
          refine tm_callV (M := m_X12_oneRoutine) (pc := 368) (ix := 298) (M' := m_X12_setArg) (As := [.int (iI v35), .int (iI 0), .int (iI 1), .int (iI 0)]) (rest := []) dX12_oneRoutine_368 ok_X12_setArg im_X12_setArg se_X12_setArg ml12_298 np_X12_setArg rfl rfl (Nat.le_of_ble_eq_true rfl) (Nat.le_of_ble_eq_true rfl) rfl (c_X12_setArg (d + 61) (σ := σ34) (x := v35) (i := 0) (k := 1) (w := 0) (by omega)) (fun r43 σ44 hp => ?_)
          obtain ⟨rfl, f46⟩ := hp
          subst f46
          show Tm _ _ 371 b (fArg (v35) (0) (1) (0) σ34) [(4, .int (iI v35)), (2, .int (iI m)), (1, .int (iI p)), (0, .ref b)] [] _
          have jvP : _ = PXx σ19 := jvP
          have fAP := (show Fr [33, 34] [3, 4, 5, 6, 7, 8] [] σ19 (fArg (v35) (0) (1) (0) σ34) from ((Fr.rfl.trans (Fr.sub f36 (by decide) (by decide) (by decide))).trans (Fr.sub fArg_fr (by decide) (by decide) (by decide))))
          have eAP : (fArg (v35) (0) (1) (0) σ34).1 34 = σ19.1 34 + 1 := jnP
          have pbP : PBF σ19 (fArg (v35) (0) (1) (0) σ34) := PBF.it bt.nn fAP (by decide) (by decide) (by decide) eAP jvP (joP.trans (OFF.arg (by decide) (by decide)))
          have tbP : TBm σ19 (fArg (v35) (0) (1) (0) σ34) := TBm.of fAP (by decide) (by decide) (by decide) (by decide)
          have fP := (show Fr [34] [3, 4, 5, 6, 7, 8] [] σ19 (fArg (v35) (0) (1) (0) σ34) from ((Fr.rfl.trans (Fr.sub f36 (by decide) (by decide) (by decide))).trans (Fr.sub fArg_fr (by decide) (by decide) (by decide))))
          have okP : OKI (fArg (v35) (0) (1) (0) σ34) 1 (PXx σ19) := by rw [← jvP]; exact oki_arg1 jiP (Or.inr (Or.inr (Or.inl rfl))) (fun q => absurd q (by decide)) (fun q => absurd q (by decide)) (by omega)
          have k7P : (fArg (v35) (0) (1) (0) σ34).2.1 3 (PXx σ19) = 7 := by rw [← jvP]; exact jiP.1
          have gall : ∀ x, GOS [30] (sS 34 x ρ) (qq 0) [34] (fArg (v35) (0) (1) (0) σ34) (qq (ρ.1 19)) lgb := fun x => ((g35_ x).then ((bt.2.2.2.2.2 (ρ.1 19)).more [51, 34])).and ((g51 (CHG.put fP (by decide) (by decide) (by decide) eAP) : GOS [51] σ19 (qq (ρ.1 19)) [] (fArg (v35) (0) (1) (0) σ34) (qq (ρ.1 19)) []).more [34])
          have nrl : nR (lgb ++ [(0, (fArg (v35) (0) (1) (0) σ34).1 34, 0)]) = 1 := by rw [nR_app, (bt.2.2.2.2.2 0).nr0 (by decide)]; rfl
          have pboC : PBO ρ (fArg (v35) (0) (1) (0) σ34) := pboB.pb e30B pbP rdb.2.2.1.1 fP (by decide) (by decide) (by decide)
          have e30C : (fArg (v35) (0) (1) (0) σ34).1 30 = ρ.1 30 := (fP.1 30 (by decide)).trans e30B
          have e25C : (fArg (v35) (0) (1) (0) σ34).1 25 = ρ.1 25 := pboC.2.2.2.2.1
          have R371 : RG (fArg (v35) (0) (1) (0) σ34) := ((f37).arg (by omega) (by omega))
          refine tm_aload_n dX12_oneRoutine_371 rfl 3 rfl ?_
          refine tm_getS (k := 25) (t := σ.1 25) dX12_oneRoutine_372 (by decide) fl12_255 rfl (rs_F fArg_fr (by decide) (rs_F f36 (by decide) (rs_F f22 (by decide) (rs_o (by decide) (rs_o (by decide) (rs_o (by decide) (rs_F f5 (by decide) (rfl)))))))) ?_
          have g47 := RG.s hR 25
          refine tm_iconst dX12_oneRoutine_375 ?_
          refine tm_icmp_ne (tgt := 394) dX12_oneRoutine_376 (by decide) ⟨by omega, by omega⟩ ⟨by decide, by decide⟩ (fun h48 => ?_) (fun h48 => ?_)
          · refine tm_aload_n dX12_oneRoutine_394 rfl 3 rfl ?_
            refine tm_getS (k := 25) (t := σ.1 25) dX12_oneRoutine_395 (by decide) fl12_255 rfl (rs_F fArg_fr (by decide) (rs_F f36 (by decide) (rs_F f22 (by decide) (rs_o (by decide) (rs_o (by decide) (rs_o (by decide) (rs_F f5 (by decide) (rfl)))))))) ?_
            have g49 := RG.s hR 25
            refine tm_iconst dX12_oneRoutine_398 ?_
            refine tm_icmp_ne (tgt := 415) dX12_oneRoutine_399 (by decide) ⟨by omega, by omega⟩ ⟨by decide, by decide⟩ (fun h50 => ?_) (fun h50 => ?_)
            · refine tm_aload_n dX12_oneRoutine_415 rfl 3 rfl ?_
              refine tm_dup dX12_oneRoutine_416 rfl ?_
              refine tm_getS (k := 30) (t := σ.1 30) dX12_oneRoutine_417 (by decide) fl12_268 rfl (rs_F fArg_fr (by decide) (rs_F f36 (by decide) (rs_F f22 (by decide) (rs_o (by decide) (rs_o (by decide) (rs_o (by decide) (rs_F f5 (by decide) (rfl)))))))) ?_
              have g51 := RG.s hR 30
              refine tm_iconst dX12_oneRoutine_420 ?_
              refine tm_iadd dX12_oneRoutine_421 ?_
              refine tm_putS (k := 30) (v := (σ.1 30) + 1) lay_12 dX12_oneRoutine_422 (by decide) fl12_268 rfl (tyX12_ok 30 (by decide)) rfl rfl rfl ?_
              refine tm_iconst dX12_oneRoutine_425 ?_
              have ffz := (show Fr [26, 27, 30] [9] [] (fArg (v35) (0) (1) (0) σ34) (sS 30 ((σ.1 30) + 1) (fArg (v35) (0) (1) (0) σ34)) from (Fr.rfl.S (by decide)))
              have flz : FLT (fArg (v35) (0) (1) (0) σ34) (sS 30 ((σ.1 30) + 1) (fArg (v35) (0) (1) (0) σ34)) := (FLT.eq rfl)
              have pboZ : PBO ρ (sS 30 ((σ.1 30) + 1) (fArg (v35) (0) (1) (0) σ34)) := pboC.fin ffz flz (fun j _ => rfl)
              have srz : srt (sS 30 ((σ.1 30) + 1) (fArg (v35) (0) (1) (0) σ34)) = srt (reP (ρ.1 19) ((fArg (v35) (0) (1) (0) σ34).1 34) (fArg (v35) (0) (1) (0) σ34)) := by have z9 : (fArg (v35) (0) (1) (0) σ34).1 30 = σ.1 30 := by { omega }; unfold reP; rw [if_neg (by omega), z9]
              have vwz := vw_fr ffz (by decide) (by decide) (by decide)
              have samz : SAM (fArg (v35) (0) (1) (0) σ34) (sS 30 ((σ.1 30) + 1) (fArg (v35) (0) (1) (0) σ34)) := by unfold vw at vwz; exact ⟨congrArg Prod.fst vwz, congrArg (fun z => z.2.1) vwz, congrArg (fun z => z.2.2) vwz⟩
              have gz : ∀ x, GOS [30] (sS 34 x ρ) (qq 0) [] (sS 30 ((σ.1 30) + 1) (fArg (v35) (0) (1) (0) σ34)) (qq 0) (lgb ++ [(0, (fArg (v35) (0) (1) (0) σ34).1 34, 0)]) := fun x => (gall x).trans (g34 (q := qq (ρ.1 19)) samz (EFF.rend srz))
              have tkz : TOK (sS 30 ((σ.1 30) + 1) (fArg (v35) (0) (1) (0) σ34)) := by unfold TOK; rw [ffz.1 19 (by decide), ffz.1 20 (by decide), ffz.1 21 (by decide), ffz.1 22 (by decide), ffz.1 23 (by decide), fP.1 19 (by decide), fP.1 20 (by decide), fP.1 21 (by decide), fP.1 22 (by decide), fP.1 23 (by decide)]; exact bt.2.2.1.1
              have e30z : (sS 30 ((σ.1 30) + 1) (fArg (v35) (0) (1) (0) σ34)).1 30 = ρ.1 30 + 1 := by rw [show (sS 30 ((σ.1 30) + 1) (fArg (v35) (0) (1) (0) σ34)).1 30 = (σ.1 30) + 1 from rs_eq]; omega
              have e19z : (sS 30 ((σ.1 30) + 1) (fArg (v35) (0) (1) (0) σ34)).1 19 = σ19.1 19 := (ffz.1 19 (by decide)).trans (fP.1 19 (by decide))
              have e31z : (sS 30 ((σ.1 30) + 1) (fArg (v35) (0) (1) (0) σ34)).1 31 = σ19.1 31 := (ffz.1 31 (by decide)).trans (fP.1 31 (by decide))
              have e28z : (sS 30 ((σ.1 30) + 1) (fArg (v35) (0) (1) (0) σ34)).1 28 = 0 := by rw [ffz.1 28 (by decide), fP.1 28 (by decide), b28]; exact e28s
              have e29z : (sS 30 ((σ.1 30) + 1) (fArg (v35) (0) (1) (0) σ34)).1 29 = 0 := by rw [ffz.1 29 (by decide), fP.1 29 (by decide), b29]; exact e29s
              have pcz := bt.2.1
              unfold PBC at pcz
              have pl5 : ρ.1 19 + 5 ≤ (sS 30 ((σ.1 30) + 1) (fArg (v35) (0) (1) (0) σ34)).1 19 := by have z6 := bp3.2.2.2.2.2.1; have z7 : (sS 34 0 (sS 33 0 (sS 32 0 σ2))).1 19 = σ2.1 19 := rfl; have z8 : (sS 34 0 (sS 33 0 (sS 32 0 σ2))).1 34 = 0 := rfl; omega
              exact tm_zret (v := 1) rfl (by decide) dX12_oneRoutine_426 (hret _ _ ((Fr.sub hd.1 (by decide) (by decide) (by decide) : Fr [19, 20, 22, 23, 26, 27, 28, 29, 30, 31, 32, 33, 34, 39, 40, 43] [3, 4, 5, 6, 7, 8, 9, 35, 36, 37, 41, 42, 45] [24, 38, 44] ρ σ).trans ((((((((Fr.rfl.trans (Fr.sub f5 (by decide) (by decide) (by decide))).S (by decide)).S (by decide)).S (by decide)).trans (Fr.sub f22 (by decide) (by decide) (by decide))).trans (Fr.sub f36 (by decide) (by decide) (by decide))).trans (Fr.sub fArg_fr (by decide) (by decide) (by decide))).S (by decide))) (((f37).arg (by omega) (by omega)).S (by omega)) (by omega) pboZ (fun _ => ⟨tkz, ⟨e30z, pl5, by omega, e28z, e29z⟩, _, gz, nrl, (fun z => absurd z (by omega)), (fun z => P1O.mk hd hpa z (show Fr [19, 20, 22, 23, 26, 27, 28, 29, 30, 31, 32, 33, 34, 39, 40] [3, 4, 5, 6, 7, 8, 9, 35, 37, 41, 42] [24, 38] σ (sS 30 ((σ.1 30) + 1) (fArg (v35) (0) (1) (0) σ34)) from ((((((((Fr.rfl.trans (Fr.sub f5 (by decide) (by decide) (by decide))).S (by decide)).S (by decide)).S (by decide)).trans (Fr.sub f22 (by decide) (by decide) (by decide))).trans (Fr.sub f36 (by decide) (by decide) (by decide))).trans (Fr.sub fArg_fr (by decide) (by decide) (by decide))).S (by decide))) (by decide) (by decide) ((show FLT σ (sS 34 0 (sS 33 0 (sS 32 0 σ2))) from yn5).trans ((bp3.2.2.2.2.1).trans ((pbP.2.2.2.2.1).trans flz))) (fun r => ⟨by have y1 := (bp3.2.2.2.1 r).1; have y2 := (pbP.2.2.2.1 r).1; have y3 : (sS 34 0 (sS 33 0 (sS 32 0 σ2))).2.1 35 r = σ.2.1 35 r := congrFun (yn1.2.1 35 (by decide)) r; have y4 : (sS 30 ((σ.1 30) + 1) (fArg (v35) (0) (1) (0) σ34)).2.1 35 r = (fArg (v35) (0) (1) (0) σ34).2.1 35 r := congrFun (ffz.2.1 35 (by decide)) r; omega, fun y => by have y1 := (bp3.2.2.2.1 r).2 (by rw [e30A]; exact y); have y2 := (pbP.2.2.2.1 r).2 (by rw [e30B]; exact y); have y3 : (sS 34 0 (sS 33 0 (sS 32 0 σ2))).2.1 35 r = σ.2.1 35 r := congrFun (yn1.2.1 35 (by decide)) r; have y4 : (sS 30 ((σ.1 30) + 1) (fArg (v35) (0) (1) (0) σ34)).2.1 35 r = (fArg (v35) (0) (1) (0) σ34).2.1 35 r := congrFun (ffz.2.1 35 (by decide)) r; omega⟩)), (fun z => absurd z (by omega))⟩) (fun q => absurd q (by decide)))
            · have vw3 := vw_fr (show Fr [30] [] [] (fArg (v35) (0) (1) (0) σ34) (sS 30 ((fArg (v35) (0) (1) (0) σ34).1 30 + 1) (fArg (v35) (0) (1) (0) σ34)) from Fr.rfl.S (by decide)) (by decide) (by decide) (by decide)
              have sam3 : SAM (fArg (v35) (0) (1) (0) σ34) (sS 30 ((fArg (v35) (0) (1) (0) σ34).1 30 + 1) (fArg (v35) (0) (1) (0) σ34)) := by unfold vw at vw3; exact ⟨congrArg Prod.fst vw3, congrArg (fun z => z.2.1) vw3, congrArg (fun z => z.2.2) vw3⟩
              have srz3 : srt (sS 30 ((fArg (v35) (0) (1) (0) σ34).1 30 + 1) (fArg (v35) (0) (1) (0) σ34)) = srt (reP (ρ.1 19) ((fArg (v35) (0) (1) (0) σ34).1 34) (fArg (v35) (0) (1) (0) σ34)) := by unfold reP; rw [if_neg (by omega)]
              have gz3 : ∀ x, GOS [30] (sS 34 x ρ) (qq 0) [] (sS 30 ((fArg (v35) (0) (1) (0) σ34).1 30 + 1) (fArg (v35) (0) (1) (0) σ34)) (qq 0) (lgb ++ [(0, (fArg (v35) (0) (1) (0) σ34).1 34, 0)]) := fun x => (gall x).trans (g34 (q := qq (ρ.1 19)) sam3 (EFF.rend srz3))
              have hq8 := hoh.2.2.2.2.2.2.2 (by omega) _ _ gz3
              have r6 : ρ.1 30 < 6 := hq8.1 (by rw [nrl]; decide)
              have hq9 := hq8.2
              clear hq8
              have i120 : (fArg (v35) (0) (1) (0) σ34).1 34 ≤ 120 := (hq9 (0, (fArg (v35) (0) (1) (0) σ34).1 34, 0) (List.mem_append_right _ (List.mem_singleton.mpr rfl))).1 rfl
              refine tm_aload_n dX12_oneRoutine_402 rfl 3 rfl ?_
              refine tm_get (k := 9) (v := .ref (b + 1 + 7)) lay_12 dX12_oneRoutine_403 (by decide) fl12_32 rfl ?_
              refine tm_aload_n dX12_oneRoutine_406 rfl 3 rfl ?_
              refine tm_getS (k := 30) (t := σ.1 30) dX12_oneRoutine_407 (by decide) fl12_268 rfl (rs_F fArg_fr (by decide) (rs_F f36 (by decide) (rs_F f22 (by decide) (rs_o (by decide) (rs_o (by decide) (rs_o (by decide) (rs_F f5 (by decide) (rfl)))))))) ?_
              have g52 := RG.s hR 30
              refine tm_aload_n dX12_oneRoutine_410 rfl 3 rfl ?_
              refine tm_getS (k := 34) (t := σ34.1 34) dX12_oneRoutine_411 (by decide) fl12_278 rfl (rs_F fArg_fr (by decide) (rfl)) ?_
              have g53 := RG.s f37 34
              refine tm_iast (z := σ.1 30) (v := σ34.1 34) dX12_oneRoutine_414 (show mT[7]? = some (9, 0, 13) from rfl) (by omega) (by omega) (by decide) ?_
              refine tm_aload_n dX12_oneRoutine_415 rfl 3 rfl ?_
              refine tm_dup dX12_oneRoutine_416 rfl ?_
              refine tm_getS (k := 30) (t := σ.1 30) dX12_oneRoutine_417 (by decide) fl12_268 rfl (rs_A (rs_F fArg_fr (by decide) (rs_F f36 (by decide) (rs_F f22 (by decide) (rs_o (by decide) (rs_o (by decide) (rs_o (by decide) (rs_F f5 (by decide) (rfl))))))))) ?_
              have g54 := RG.s hR 30
              refine tm_iconst dX12_oneRoutine_420 ?_
              refine tm_iadd dX12_oneRoutine_421 ?_
              refine tm_putS (k := 30) (v := (σ.1 30) + 1) lay_12 dX12_oneRoutine_422 (by decide) fl12_268 rfl (tyX12_ok 30 (by decide)) rfl rfl rfl ?_
              refine tm_iconst dX12_oneRoutine_425 ?_
              have ffz := (show Fr [26, 27, 30] [9] [] (fArg (v35) (0) (1) (0) σ34) (sS 30 ((σ.1 30) + 1) (sA 9 (σ.1 30) (σ34.1 34) (fArg (v35) (0) (1) (0) σ34))) from ((Fr.rfl.A (by decide)).S (by decide)))
              have flz : FLT (fArg (v35) (0) (1) (0) σ34) (sS 30 ((σ.1 30) + 1) (sA 9 (σ.1 30) (σ34.1 34) (fArg (v35) (0) (1) (0) σ34))) := (FLT.eq rfl)
              have pboZ : PBO ρ (sS 30 ((σ.1 30) + 1) (sA 9 (σ.1 30) (σ34.1 34) (fArg (v35) (0) (1) (0) σ34))) := pboC.fin ffz flz (fun j z => ra_ne (by omega) rfl)
              have srz : srt (sS 30 ((σ.1 30) + 1) (sA 9 (σ.1 30) (σ34.1 34) (fArg (v35) (0) (1) (0) σ34))) = srt (reP (ρ.1 19) ((fArg (v35) (0) (1) (0) σ34).1 34) (fArg (v35) (0) (1) (0) σ34)) := by have z9 : (fArg (v35) (0) (1) (0) σ34).1 30 = σ.1 30 := by { omega }; unfold reP; rw [if_neg (by omega), z9]; rfl
              have vwz := vw_fr ffz (by decide) (by decide) (by decide)
              have samz : SAM (fArg (v35) (0) (1) (0) σ34) (sS 30 ((σ.1 30) + 1) (sA 9 (σ.1 30) (σ34.1 34) (fArg (v35) (0) (1) (0) σ34))) := by unfold vw at vwz; exact ⟨congrArg Prod.fst vwz, congrArg (fun z => z.2.1) vwz, congrArg (fun z => z.2.2) vwz⟩
              have gz : ∀ x, GOS [30] (sS 34 x ρ) (qq 0) [] (sS 30 ((σ.1 30) + 1) (sA 9 (σ.1 30) (σ34.1 34) (fArg (v35) (0) (1) (0) σ34))) (qq 0) (lgb ++ [(0, (fArg (v35) (0) (1) (0) σ34).1 34, 0)]) := fun x => (gall x).trans (g34 (q := qq (ρ.1 19)) samz (EFF.rend srz))
              have tkz : TOK (sS 30 ((σ.1 30) + 1) (sA 9 (σ.1 30) (σ34.1 34) (fArg (v35) (0) (1) (0) σ34))) := by unfold TOK; rw [ffz.1 19 (by decide), ffz.1 20 (by decide), ffz.1 21 (by decide), ffz.1 22 (by decide), ffz.1 23 (by decide), fP.1 19 (by decide), fP.1 20 (by decide), fP.1 21 (by decide), fP.1 22 (by decide), fP.1 23 (by decide)]; exact bt.2.2.1.1
              have e30z : (sS 30 ((σ.1 30) + 1) (sA 9 (σ.1 30) (σ34.1 34) (fArg (v35) (0) (1) (0) σ34))).1 30 = ρ.1 30 + 1 := by rw [show (sS 30 ((σ.1 30) + 1) (sA 9 (σ.1 30) (σ34.1 34) (fArg (v35) (0) (1) (0) σ34))).1 30 = (σ.1 30) + 1 from rs_eq]; omega
              have e19z : (sS 30 ((σ.1 30) + 1) (sA 9 (σ.1 30) (σ34.1 34) (fArg (v35) (0) (1) (0) σ34))).1 19 = σ19.1 19 := (ffz.1 19 (by decide)).trans (fP.1 19 (by decide))
              have e31z : (sS 30 ((σ.1 30) + 1) (sA 9 (σ.1 30) (σ34.1 34) (fArg (v35) (0) (1) (0) σ34))).1 31 = σ19.1 31 := (ffz.1 31 (by decide)).trans (fP.1 31 (by decide))
              have e28z : (sS 30 ((σ.1 30) + 1) (sA 9 (σ.1 30) (σ34.1 34) (fArg (v35) (0) (1) (0) σ34))).1 28 = 0 := by rw [ffz.1 28 (by decide), fP.1 28 (by decide), b28]; exact e28s
              have e29z : (sS 30 ((σ.1 30) + 1) (sA 9 (σ.1 30) (σ34.1 34) (fArg (v35) (0) (1) (0) σ34))).1 29 = 0 := by rw [ffz.1 29 (by decide), fP.1 29 (by decide), b29]; exact e29s
              have pcz := bt.2.1
              unfold PBC at pcz
              have pl5 : ρ.1 19 + 5 ≤ (sS 30 ((σ.1 30) + 1) (sA 9 (σ.1 30) (σ34.1 34) (fArg (v35) (0) (1) (0) σ34))).1 19 := by have z6 := bp3.2.2.2.2.2.1; have z7 : (sS 34 0 (sS 33 0 (sS 32 0 σ2))).1 19 = σ2.1 19 := rfl; have z8 : (sS 34 0 (sS 33 0 (sS 32 0 σ2))).1 34 = 0 := rfl; omega
              exact tm_zret (v := 1) rfl (by decide) dX12_oneRoutine_426 (hret _ _ ((Fr.sub hd.1 (by decide) (by decide) (by decide) : Fr [19, 20, 22, 23, 26, 27, 28, 29, 30, 31, 32, 33, 34, 39, 40, 43] [3, 4, 5, 6, 7, 8, 9, 35, 36, 37, 41, 42, 45] [24, 38, 44] ρ σ).trans (((((((((Fr.rfl.trans (Fr.sub f5 (by decide) (by decide) (by decide))).S (by decide)).S (by decide)).S (by decide)).trans (Fr.sub f22 (by decide) (by decide) (by decide))).trans (Fr.sub f36 (by decide) (by decide) (by decide))).trans (Fr.sub fArg_fr (by decide) (by decide) (by decide))).A (by decide)).S (by decide))) ((((f37).arg (by omega) (by omega)).A (by omega)).S (by omega)) (by omega) pboZ (fun _ => ⟨tkz, ⟨e30z, pl5, by omega, e28z, e29z⟩, _, gz, nrl, (fun z => absurd z (by omega)), (fun z => absurd z (by omega)), (fun z => by have q := PLI.mk bs bf (show (sS 34 0 (sS 33 0 (sS 32 0 σ2))).1 25 = 3 by have y8 : (sS 34 0 (sS 33 0 (sS 32 0 σ2))).1 25 = σ2.1 25 := rfl; omega) (by omega) rfl rfl bp3 bt.2.1 (fun e he => (hq9 e (List.mem_append_left _ he)).tb (pboA.2.1 (by omega)).2.2.2) (by omega) pbP eAP okP k7P bt.2.2.2.1 tbP (show Fr [30] [9] [] (fArg (v35) (0) (1) (0) σ34) (sS 30 ((σ.1 30) + 1) (sA 9 (σ.1 30) (σ34.1 34) (fArg (v35) (0) (1) (0) σ34))) from ((Fr.rfl.A (by decide)).S (by decide))) (by rw [e30A, ← e30h]; exact (ra_eq : (sA 9 (σ.1 30) _ _).2.1 9 (σ.1 30) = _)); rw [e30A] at q; exact q)⟩) (fun q => absurd q (by decide)))
          · refine tm_aload_n dX12_oneRoutine_379 rfl 3 rfl ?_
            refine tm_getS (k := 34) (t := σ34.1 34) dX12_oneRoutine_380 (by decide) fl12_278 rfl (rs_F fArg_fr (by decide) (rfl)) ?_
            have g55 := RG.s f37 34
            refine tm_bipush dX12_oneRoutine_383 (by decide) ?_
            refine tm_icmp_le (tgt := 394) dX12_oneRoutine_385 (by decide) ⟨by omega, by omega⟩ ⟨by decide, by decide⟩ (fun h56 => ?_) (fun h56 => ?_)
            · refine tm_aload_n dX12_oneRoutine_394 rfl 3 rfl ?_
              refine tm_getS (k := 25) (t := σ.1 25) dX12_oneRoutine_395 (by decide) fl12_255 rfl (rs_F fArg_fr (by decide) (rs_F f36 (by decide) (rs_F f22 (by decide) (rs_o (by decide) (rs_o (by decide) (rs_o (by decide) (rs_F f5 (by decide) (rfl)))))))) ?_
              have g57 := RG.s hR 25
              refine tm_iconst dX12_oneRoutine_398 ?_
              refine tm_icmp_ne (tgt := 415) dX12_oneRoutine_399 (by decide) ⟨by omega, by omega⟩ ⟨by decide, by decide⟩ (fun h58 => ?_) (fun h58 => ?_)
              · refine tm_aload_n dX12_oneRoutine_415 rfl 3 rfl ?_
                refine tm_dup dX12_oneRoutine_416 rfl ?_
                refine tm_getS (k := 30) (t := σ.1 30) dX12_oneRoutine_417 (by decide) fl12_268 rfl (rs_F fArg_fr (by decide) (rs_F f36 (by decide) (rs_F f22 (by decide) (rs_o (by decide) (rs_o (by decide) (rs_o (by decide) (rs_F f5 (by decide) (rfl)))))))) ?_
                have g59 := RG.s hR 30
                refine tm_iconst dX12_oneRoutine_420 ?_
                refine tm_iadd dX12_oneRoutine_421 ?_
                refine tm_putS (k := 30) (v := (σ.1 30) + 1) lay_12 dX12_oneRoutine_422 (by decide) fl12_268 rfl (tyX12_ok 30 (by decide)) rfl rfl rfl ?_
                refine tm_iconst dX12_oneRoutine_425 ?_
                have ffz := (show Fr [26, 27, 30] [9] [] (fArg (v35) (0) (1) (0) σ34) (sS 30 ((σ.1 30) + 1) (fArg (v35) (0) (1) (0) σ34)) from (Fr.rfl.S (by decide)))
                have flz : FLT (fArg (v35) (0) (1) (0) σ34) (sS 30 ((σ.1 30) + 1) (fArg (v35) (0) (1) (0) σ34)) := (FLT.eq rfl)
                have pboZ : PBO ρ (sS 30 ((σ.1 30) + 1) (fArg (v35) (0) (1) (0) σ34)) := pboC.fin ffz flz (fun j _ => rfl)
                have srz : srt (sS 30 ((σ.1 30) + 1) (fArg (v35) (0) (1) (0) σ34)) = srt (reP (ρ.1 19) ((fArg (v35) (0) (1) (0) σ34).1 34) (fArg (v35) (0) (1) (0) σ34)) := by have z9 : (fArg (v35) (0) (1) (0) σ34).1 30 = σ.1 30 := by { omega }; unfold reP; rw [if_neg (by omega), z9]
                have vwz := vw_fr ffz (by decide) (by decide) (by decide)
                have samz : SAM (fArg (v35) (0) (1) (0) σ34) (sS 30 ((σ.1 30) + 1) (fArg (v35) (0) (1) (0) σ34)) := by unfold vw at vwz; exact ⟨congrArg Prod.fst vwz, congrArg (fun z => z.2.1) vwz, congrArg (fun z => z.2.2) vwz⟩
                have gz : ∀ x, GOS [30] (sS 34 x ρ) (qq 0) [] (sS 30 ((σ.1 30) + 1) (fArg (v35) (0) (1) (0) σ34)) (qq 0) (lgb ++ [(0, (fArg (v35) (0) (1) (0) σ34).1 34, 0)]) := fun x => (gall x).trans (g34 (q := qq (ρ.1 19)) samz (EFF.rend srz))
                have tkz : TOK (sS 30 ((σ.1 30) + 1) (fArg (v35) (0) (1) (0) σ34)) := by unfold TOK; rw [ffz.1 19 (by decide), ffz.1 20 (by decide), ffz.1 21 (by decide), ffz.1 22 (by decide), ffz.1 23 (by decide), fP.1 19 (by decide), fP.1 20 (by decide), fP.1 21 (by decide), fP.1 22 (by decide), fP.1 23 (by decide)]; exact bt.2.2.1.1
                have e30z : (sS 30 ((σ.1 30) + 1) (fArg (v35) (0) (1) (0) σ34)).1 30 = ρ.1 30 + 1 := by rw [show (sS 30 ((σ.1 30) + 1) (fArg (v35) (0) (1) (0) σ34)).1 30 = (σ.1 30) + 1 from rs_eq]; omega
                have e19z : (sS 30 ((σ.1 30) + 1) (fArg (v35) (0) (1) (0) σ34)).1 19 = σ19.1 19 := (ffz.1 19 (by decide)).trans (fP.1 19 (by decide))
                have e31z : (sS 30 ((σ.1 30) + 1) (fArg (v35) (0) (1) (0) σ34)).1 31 = σ19.1 31 := (ffz.1 31 (by decide)).trans (fP.1 31 (by decide))
                have e28z : (sS 30 ((σ.1 30) + 1) (fArg (v35) (0) (1) (0) σ34)).1 28 = 0 := by rw [ffz.1 28 (by decide), fP.1 28 (by decide), b28]; exact e28s
                have e29z : (sS 30 ((σ.1 30) + 1) (fArg (v35) (0) (1) (0) σ34)).1 29 = 0 := by rw [ffz.1 29 (by decide), fP.1 29 (by decide), b29]; exact e29s
                have pcz := bt.2.1
                unfold PBC at pcz
                have pl5 : ρ.1 19 + 5 ≤ (sS 30 ((σ.1 30) + 1) (fArg (v35) (0) (1) (0) σ34)).1 19 := by have z6 := bp3.2.2.2.2.2.1; have z7 : (sS 34 0 (sS 33 0 (sS 32 0 σ2))).1 19 = σ2.1 19 := rfl; have z8 : (sS 34 0 (sS 33 0 (sS 32 0 σ2))).1 34 = 0 := rfl; omega
                exact tm_zret (v := 1) rfl (by decide) dX12_oneRoutine_426 (hret _ _ ((Fr.sub hd.1 (by decide) (by decide) (by decide) : Fr [19, 20, 22, 23, 26, 27, 28, 29, 30, 31, 32, 33, 34, 39, 40, 43] [3, 4, 5, 6, 7, 8, 9, 35, 36, 37, 41, 42, 45] [24, 38, 44] ρ σ).trans ((((((((Fr.rfl.trans (Fr.sub f5 (by decide) (by decide) (by decide))).S (by decide)).S (by decide)).S (by decide)).trans (Fr.sub f22 (by decide) (by decide) (by decide))).trans (Fr.sub f36 (by decide) (by decide) (by decide))).trans (Fr.sub fArg_fr (by decide) (by decide) (by decide))).S (by decide))) (((f37).arg (by omega) (by omega)).S (by omega)) (by omega) pboZ (fun _ => ⟨tkz, ⟨e30z, pl5, by omega, e28z, e29z⟩, _, gz, nrl, (fun z1 z2 e he => by rcases List.mem_append.mp he with y | y; exact (bt.2.2.2.2.1 (by have y8 : (sS 34 0 (sS 33 0 (sS 32 0 σ2))).1 25 = σ2.1 25 := rfl; omega) (by by_cases y9 : σ19.1 26 = 0; exact y9; exact absurd z2 (((pbP.2.2.2.2.1).trans flz).1 y9)) e y).bt (pboA.2.1 (by omega)).2.2.2; rw [List.mem_singleton.mp y]; exact ⟨fun _ => by show (fArg (v35) (0) (1) (0) σ34).1 34 ≤ 120; omega, fun q => absurd (show (0 : Int) = 1 from q) (by decide)⟩), (fun z => absurd z (by omega)), (fun z => absurd z (by omega))⟩) (fun q => absurd q (by decide)))
              · have vw3 := vw_fr (show Fr [30] [] [] (fArg (v35) (0) (1) (0) σ34) (sS 30 ((fArg (v35) (0) (1) (0) σ34).1 30 + 1) (fArg (v35) (0) (1) (0) σ34)) from Fr.rfl.S (by decide)) (by decide) (by decide) (by decide)
                have sam3 : SAM (fArg (v35) (0) (1) (0) σ34) (sS 30 ((fArg (v35) (0) (1) (0) σ34).1 30 + 1) (fArg (v35) (0) (1) (0) σ34)) := by unfold vw at vw3; exact ⟨congrArg Prod.fst vw3, congrArg (fun z => z.2.1) vw3, congrArg (fun z => z.2.2) vw3⟩
                have srz3 : srt (sS 30 ((fArg (v35) (0) (1) (0) σ34).1 30 + 1) (fArg (v35) (0) (1) (0) σ34)) = srt (reP (ρ.1 19) ((fArg (v35) (0) (1) (0) σ34).1 34) (fArg (v35) (0) (1) (0) σ34)) := by unfold reP; rw [if_neg (by omega)]
                have gz3 : ∀ x, GOS [30] (sS 34 x ρ) (qq 0) [] (sS 30 ((fArg (v35) (0) (1) (0) σ34).1 30 + 1) (fArg (v35) (0) (1) (0) σ34)) (qq 0) (lgb ++ [(0, (fArg (v35) (0) (1) (0) σ34).1 34, 0)]) := fun x => (gall x).trans (g34 (q := qq (ρ.1 19)) sam3 (EFF.rend srz3))
                have hq8 := hoh.2.2.2.2.2.2.2 (by omega) _ _ gz3
                have r6 : ρ.1 30 < 6 := hq8.1 (by rw [nrl]; decide)
                have hq9 := hq8.2
                clear hq8
                have i120 : (fArg (v35) (0) (1) (0) σ34).1 34 ≤ 120 := (hq9 (0, (fArg (v35) (0) (1) (0) σ34).1 34, 0) (List.mem_append_right _ (List.mem_singleton.mpr rfl))).1 rfl
                refine tm_aload_n dX12_oneRoutine_402 rfl 3 rfl ?_
                refine tm_get (k := 9) (v := .ref (b + 1 + 7)) lay_12 dX12_oneRoutine_403 (by decide) fl12_32 rfl ?_
                refine tm_aload_n dX12_oneRoutine_406 rfl 3 rfl ?_
                refine tm_getS (k := 30) (t := σ.1 30) dX12_oneRoutine_407 (by decide) fl12_268 rfl (rs_F fArg_fr (by decide) (rs_F f36 (by decide) (rs_F f22 (by decide) (rs_o (by decide) (rs_o (by decide) (rs_o (by decide) (rs_F f5 (by decide) (rfl)))))))) ?_
                have g60 := RG.s hR 30
                refine tm_aload_n dX12_oneRoutine_410 rfl 3 rfl ?_
                refine tm_getS (k := 34) (t := σ34.1 34) dX12_oneRoutine_411 (by decide) fl12_278 rfl (rs_F fArg_fr (by decide) (rfl)) ?_
                have g61 := RG.s f37 34
                refine tm_iast (z := σ.1 30) (v := σ34.1 34) dX12_oneRoutine_414 (show mT[7]? = some (9, 0, 13) from rfl) (by omega) (by omega) (by decide) ?_
                refine tm_aload_n dX12_oneRoutine_415 rfl 3 rfl ?_
                refine tm_dup dX12_oneRoutine_416 rfl ?_
                refine tm_getS (k := 30) (t := σ.1 30) dX12_oneRoutine_417 (by decide) fl12_268 rfl (rs_A (rs_F fArg_fr (by decide) (rs_F f36 (by decide) (rs_F f22 (by decide) (rs_o (by decide) (rs_o (by decide) (rs_o (by decide) (rs_F f5 (by decide) (rfl))))))))) ?_
                have g62 := RG.s hR 30
                refine tm_iconst dX12_oneRoutine_420 ?_
                refine tm_iadd dX12_oneRoutine_421 ?_
                refine tm_putS (k := 30) (v := (σ.1 30) + 1) lay_12 dX12_oneRoutine_422 (by decide) fl12_268 rfl (tyX12_ok 30 (by decide)) rfl rfl rfl ?_
                refine tm_iconst dX12_oneRoutine_425 ?_
                exact tm_zret (v := 1) rfl (by decide) dX12_oneRoutine_426 ((by exfalso; omega))
            · refine tm_aload_n dX12_oneRoutine_388 rfl 3 rfl ?_
              refine tm_iconst dX12_oneRoutine_389 ?_
              refine tm_iload_n dX12_oneRoutine_390 rfl 2 rfl ?_
              refine tm_callV (M := m_X12_oneRoutine) (pc := 391) (ix := 274) (M' := m_X12_note) (As := [.int (iI 5), .int (iI p)]) (rest := []) dX12_oneRoutine_391 ok_X12_note im_X12_note se_X12_note ml12_274 np_X12_note rfl rfl (Nat.le_of_ble_eq_true rfl) (Nat.le_of_ble_eq_true rfl) rfl (c2_X12_note (d + 61) (σ := (fArg (v35) (0) (1) (0) σ34)) (f := 5) (p := p) ((f37).arg (by omega) (by omega)) (by omega) (by omega)) (fun r63 σ64 hp => ?_)
              obtain ⟨rfl, f66, f67, f68, f69, f70⟩ := hp
              show Tm _ _ 394 b σ64 [(4, .int (iI v35)), (2, .int (iI m)), (1, .int (iI p)), (0, .ref b)] [] _
              have ntf := f68
              have ntn := f69
              have nt4 := f70
              refine tm_aload_n dX12_oneRoutine_394 rfl 3 rfl ?_
              refine tm_getS (k := 25) (t := σ.1 25) dX12_oneRoutine_395 (by decide) fl12_255 rfl (rs_F f66 (by decide) (rs_F fArg_fr (by decide) (rs_F f36 (by decide) (rs_F f22 (by decide) (rs_o (by decide) (rs_o (by decide) (rs_o (by decide) (rs_F f5 (by decide) (rfl))))))))) ?_
              have g71 := RG.s hR 25
              refine tm_iconst dX12_oneRoutine_398 ?_
              refine tm_icmp_ne (tgt := 415) dX12_oneRoutine_399 (by decide) ⟨by omega, by omega⟩ ⟨by decide, by decide⟩ (fun h72 => ?_) (fun h72 => ?_)
              · refine tm_aload_n dX12_oneRoutine_415 rfl 3 rfl ?_
                refine tm_dup dX12_oneRoutine_416 rfl ?_
                refine tm_getS (k := 30) (t := σ.1 30) dX12_oneRoutine_417 (by decide) fl12_268 rfl (rs_F f66 (by decide) (rs_F fArg_fr (by decide) (rs_F f36 (by decide) (rs_F f22 (by decide) (rs_o (by decide) (rs_o (by decide) (rs_o (by decide) (rs_F f5 (by decide) (rfl))))))))) ?_
                have g73 := RG.s hR 30
                refine tm_iconst dX12_oneRoutine_420 ?_
                refine tm_iadd dX12_oneRoutine_421 ?_
                refine tm_putS (k := 30) (v := (σ.1 30) + 1) lay_12 dX12_oneRoutine_422 (by decide) fl12_268 rfl (tyX12_ok 30 (by decide)) rfl rfl rfl ?_
                refine tm_iconst dX12_oneRoutine_425 ?_
                have ffz := (show Fr [26, 27, 30] [9] [] (fArg (v35) (0) (1) (0) σ34) (sS 30 ((σ.1 30) + 1) σ64) from ((Fr.rfl.trans (Fr.sub f66 (by decide) (by decide) (by decide))).S (by decide)))
                have flz : FLT (fArg (v35) (0) (1) (0) σ34) (sS 30 ((σ.1 30) + 1) σ64) := ntf
                have pboZ : PBO ρ (sS 30 ((σ.1 30) + 1) σ64) := pboC.fin ffz flz (fun j _ => congrFun ((show Fr [26, 27] [] [] (fArg (v35) (0) (1) (0) σ34) σ64 from f66).2.1 9 (by decide)) j)
                have srz : srt (sS 30 ((σ.1 30) + 1) σ64) = srt (reP (ρ.1 19) ((fArg (v35) (0) (1) (0) σ34).1 34) (fArg (v35) (0) (1) (0) σ34)) := by have z9 : (fArg (v35) (0) (1) (0) σ34).1 30 = σ.1 30 := by { omega }; unfold reP; rw [if_pos ⟨by omega, by omega⟩, ← hp, ← nt4, z9]
                have vwz := vw_fr ffz (by decide) (by decide) (by decide)
                have samz : SAM (fArg (v35) (0) (1) (0) σ34) (sS 30 ((σ.1 30) + 1) σ64) := by unfold vw at vwz; exact ⟨congrArg Prod.fst vwz, congrArg (fun z => z.2.1) vwz, congrArg (fun z => z.2.2) vwz⟩
                have gz : ∀ x, GOS [30] (sS 34 x ρ) (qq 0) [] (sS 30 ((σ.1 30) + 1) σ64) (qq 0) (lgb ++ [(0, (fArg (v35) (0) (1) (0) σ34).1 34, 0)]) := fun x => (gall x).trans (g34 (q := qq (ρ.1 19)) samz (EFF.rend srz))
                have tkz : TOK (sS 30 ((σ.1 30) + 1) σ64) := by unfold TOK; rw [ffz.1 19 (by decide), ffz.1 20 (by decide), ffz.1 21 (by decide), ffz.1 22 (by decide), ffz.1 23 (by decide), fP.1 19 (by decide), fP.1 20 (by decide), fP.1 21 (by decide), fP.1 22 (by decide), fP.1 23 (by decide)]; exact bt.2.2.1.1
                have e30z : (sS 30 ((σ.1 30) + 1) σ64).1 30 = ρ.1 30 + 1 := by rw [show (sS 30 ((σ.1 30) + 1) σ64).1 30 = (σ.1 30) + 1 from rs_eq]; omega
                have e19z : (sS 30 ((σ.1 30) + 1) σ64).1 19 = σ19.1 19 := (ffz.1 19 (by decide)).trans (fP.1 19 (by decide))
                have e31z : (sS 30 ((σ.1 30) + 1) σ64).1 31 = σ19.1 31 := (ffz.1 31 (by decide)).trans (fP.1 31 (by decide))
                have e28z : (sS 30 ((σ.1 30) + 1) σ64).1 28 = 0 := by rw [ffz.1 28 (by decide), fP.1 28 (by decide), b28]; exact e28s
                have e29z : (sS 30 ((σ.1 30) + 1) σ64).1 29 = 0 := by rw [ffz.1 29 (by decide), fP.1 29 (by decide), b29]; exact e29s
                have pcz := bt.2.1
                unfold PBC at pcz
                have pl5 : ρ.1 19 + 5 ≤ (sS 30 ((σ.1 30) + 1) σ64).1 19 := by have z6 := bp3.2.2.2.2.2.1; have z7 : (sS 34 0 (sS 33 0 (sS 32 0 σ2))).1 19 = σ2.1 19 := rfl; have z8 : (sS 34 0 (sS 33 0 (sS 32 0 σ2))).1 34 = 0 := rfl; omega
                exact tm_zret (v := 1) rfl (by decide) dX12_oneRoutine_426 (hret _ _ ((Fr.sub hd.1 (by decide) (by decide) (by decide) : Fr [19, 20, 22, 23, 26, 27, 28, 29, 30, 31, 32, 33, 34, 39, 40, 43] [3, 4, 5, 6, 7, 8, 9, 35, 36, 37, 41, 42, 45] [24, 38, 44] ρ σ).trans (((((((((Fr.rfl.trans (Fr.sub f5 (by decide) (by decide) (by decide))).S (by decide)).S (by decide)).S (by decide)).trans (Fr.sub f22 (by decide) (by decide) (by decide))).trans (Fr.sub f36 (by decide) (by decide) (by decide))).trans (Fr.sub fArg_fr (by decide) (by decide) (by decide))).trans (Fr.sub f66 (by decide) (by decide) (by decide))).S (by decide))) (f67.S (by omega)) (by omega) pboZ (fun _ => ⟨tkz, ⟨e30z, pl5, by omega, e28z, e29z⟩, _, gz, nrl, (fun z1 z2 => absurd z2 (by have y := ntn (by omega); exact y)), (fun z => absurd z (by omega)), (fun z => absurd z (by omega))⟩) (fun q => absurd q (by decide)))
              · have vw3 := vw_fr (show Fr [30] [] [] (fArg (v35) (0) (1) (0) σ34) (sS 30 ((fArg (v35) (0) (1) (0) σ34).1 30 + 1) (fArg (v35) (0) (1) (0) σ34)) from Fr.rfl.S (by decide)) (by decide) (by decide) (by decide)
                have sam3 : SAM (fArg (v35) (0) (1) (0) σ34) (sS 30 ((fArg (v35) (0) (1) (0) σ34).1 30 + 1) (fArg (v35) (0) (1) (0) σ34)) := by unfold vw at vw3; exact ⟨congrArg Prod.fst vw3, congrArg (fun z => z.2.1) vw3, congrArg (fun z => z.2.2) vw3⟩
                have srz3 : srt (sS 30 ((fArg (v35) (0) (1) (0) σ34).1 30 + 1) (fArg (v35) (0) (1) (0) σ34)) = srt (reP (ρ.1 19) ((fArg (v35) (0) (1) (0) σ34).1 34) (fArg (v35) (0) (1) (0) σ34)) := by unfold reP; rw [if_neg (by omega)]
                have gz3 : ∀ x, GOS [30] (sS 34 x ρ) (qq 0) [] (sS 30 ((fArg (v35) (0) (1) (0) σ34).1 30 + 1) (fArg (v35) (0) (1) (0) σ34)) (qq 0) (lgb ++ [(0, (fArg (v35) (0) (1) (0) σ34).1 34, 0)]) := fun x => (gall x).trans (g34 (q := qq (ρ.1 19)) sam3 (EFF.rend srz3))
                have hq8 := hoh.2.2.2.2.2.2.2 (by omega) _ _ gz3
                have r6 : ρ.1 30 < 6 := hq8.1 (by rw [nrl]; decide)
                have hq9 := hq8.2
                clear hq8
                have i120 : (fArg (v35) (0) (1) (0) σ34).1 34 ≤ 120 := (hq9 (0, (fArg (v35) (0) (1) (0) σ34).1 34, 0) (List.mem_append_right _ (List.mem_singleton.mpr rfl))).1 rfl
                refine tm_aload_n dX12_oneRoutine_402 rfl 3 rfl ?_
                refine tm_get (k := 9) (v := .ref (b + 1 + 7)) lay_12 dX12_oneRoutine_403 (by decide) fl12_32 rfl ?_
                refine tm_aload_n dX12_oneRoutine_406 rfl 3 rfl ?_
                refine tm_getS (k := 30) (t := σ.1 30) dX12_oneRoutine_407 (by decide) fl12_268 rfl (rs_F f66 (by decide) (rs_F fArg_fr (by decide) (rs_F f36 (by decide) (rs_F f22 (by decide) (rs_o (by decide) (rs_o (by decide) (rs_o (by decide) (rs_F f5 (by decide) (rfl))))))))) ?_
                have g74 := RG.s hR 30
                refine tm_aload_n dX12_oneRoutine_410 rfl 3 rfl ?_
                refine tm_getS (k := 34) (t := σ34.1 34) dX12_oneRoutine_411 (by decide) fl12_278 rfl (rs_F f66 (by decide) (rs_F fArg_fr (by decide) (rfl))) ?_
                have g75 := RG.s f37 34
                refine tm_iast (z := σ.1 30) (v := σ34.1 34) dX12_oneRoutine_414 (show mT[7]? = some (9, 0, 13) from rfl) (by omega) (by omega) (by decide) ?_
                refine tm_aload_n dX12_oneRoutine_415 rfl 3 rfl ?_
                refine tm_dup dX12_oneRoutine_416 rfl ?_
                refine tm_getS (k := 30) (t := σ.1 30) dX12_oneRoutine_417 (by decide) fl12_268 rfl (rs_A (rs_F f66 (by decide) (rs_F fArg_fr (by decide) (rs_F f36 (by decide) (rs_F f22 (by decide) (rs_o (by decide) (rs_o (by decide) (rs_o (by decide) (rs_F f5 (by decide) (rfl)))))))))) ?_
                have g76 := RG.s hR 30
                refine tm_iconst dX12_oneRoutine_420 ?_
                refine tm_iadd dX12_oneRoutine_421 ?_
                refine tm_putS (k := 30) (v := (σ.1 30) + 1) lay_12 dX12_oneRoutine_422 (by decide) fl12_268 rfl (tyX12_ok 30 (by decide)) rfl rfl rfl ?_
                refine tm_iconst dX12_oneRoutine_425 ?_
                exact tm_zret (v := 1) rfl (by decide) dX12_oneRoutine_426 ((by exfalso; omega))
        · refine tm_iconst dX12_oneRoutine_350 ?_
          exact tm_zret (v := 0) rfl (by decide) dX12_oneRoutine_351 (hret _ _ ((Fr.sub hd.1 (by decide) (by decide) (by decide) : Fr [19, 20, 22, 23, 26, 27, 28, 29, 30, 31, 32, 33, 34, 39, 40, 43] [3, 4, 5, 6, 7, 8, 9, 35, 36, 37, 41, 42, 45] [24, 38, 44] ρ σ).trans (((((Fr.rfl.trans (Fr.sub f5 (by decide) (by decide) (by decide))).S (by decide)).S (by decide)).S (by decide)).trans (Fr.sub f22 (by decide) (by decide) (by decide)))) f23 (by omega) (pboA.pb e30A bp3 (by show (0 : Int) ≤ 0; decide) bp1 (by decide) (by decide) (by decide)) (fun q => absurd q (by omega)) (fun _ x => (g35_ x).fail ((bp5 (by omega) _).more [51, 34])))
      · have nn1 := hd.2.2.1 (σ.1 30) (by omega) (by omega)
        refine tm_aload_n dX12_oneRoutine_317 rfl 2 rfl ?_
        refine tm_get (k := 35) (v := .ref (b + 1 + 16)) lay_12 dX12_oneRoutine_318 (by decide) fl12_63 rfl ?_
        refine tm_aload_n dX12_oneRoutine_321 rfl 2 rfl ?_
        refine tm_getS (k := 30) (t := σ.1 30) dX12_oneRoutine_322 (by decide) fl12_268 rfl (rs_F f5 (by decide) (rfl)) ?_
        have g77 := RG.s hR 30
        refine tm_iald (z := σ.1 30) (v := σ.2.1 35 (σ.1 30)) dX12_oneRoutine_325 (show mT[16]? = some (35, 0, 6) from rfl) (by omega) (by omega) (by decide) (ra_F f5 (by decide) (rfl)) ?_
        have g78 := RG.a hR 35 (σ.1 30)
        refine tm_goto (tgt := 330) dX12_oneRoutine_326 (by decide) ?_
        refine tm_putS (k := 32) (v := σ.2.1 35 (σ.1 30)) lay_12 dX12_oneRoutine_330 (by decide) fl12_291 rfl (tyX12_ok 32 (by decide)) rfl rfl rfl ?_
        refine tm_aload_n dX12_oneRoutine_333 rfl 2 rfl ?_
        refine tm_iconst dX12_oneRoutine_334 ?_
        refine tm_putS (k := 33) (v := 0) lay_12 dX12_oneRoutine_335 (by decide) fl12_370 rfl (tyX12_ok 33 (by decide)) rfl rfl rfl ?_
        refine tm_aload_n dX12_oneRoutine_338 rfl 2 rfl ?_
        refine tm_iconst dX12_oneRoutine_339 ?_
        refine tm_putS (k := 34) (v := 0) lay_12 dX12_oneRoutine_340 (by decide) fl12_278 rfl (tyX12_ok 34 (by decide)) rfl rfl rfl ?_
        have g35_ : ∀ x, GOS [30] (sS 34 x ρ) (qq 0) [28, 51, 34] (sS 34 0 (sS 33 0 (sS 32 (σ.2.1 35 (σ.1 30)) σ2))) (qq (ρ.1 19)) [] := fun x => (gx3 x).then (g35 ⟨rfl, rfl, rfl, rfl⟩)
        have rdn : RDY (sS 34 0 (sS 33 0 (sS 32 (σ.2.1 35 (σ.1 30)) σ2))) := RDY.new ynq.2.2.1 (by omega) (by omega) (by omega) (by omega)
        have pboA : PBO ρ (sS 34 0 (sS 33 0 (sS 32 (σ.2.1 35 (σ.1 30)) σ2))) := pbo9.fr (show Fr [32, 33, 34] [] [] σ2 (sS 34 0 (sS 33 0 (sS 32 (σ.2.1 35 (σ.1 30)) σ2))) from (((Fr.rfl.S (by decide)).S (by decide)).S (by decide))) (by decide) (by decide) (by decide)
        have e30A : (sS 34 0 (sS 33 0 (sS 32 (σ.2.1 35 (σ.1 30)) σ2))).1 30 = ρ.1 30 := e309.trans e30h
        have e28s : (sS 34 0 (sS 33 0 (sS 32 (σ.2.1 35 (σ.1 30)) σ2))).1 28 = 0 := (yn1.1 28 (by decide)).trans ((hd.1.1 28 (by decide)).trans hoh.2.2.2.2.1.1)
        have e29s : (sS 34 0 (sS 33 0 (sS 32 (σ.2.1 35 (σ.1 30)) σ2))).1 29 = 0 := (yn1.1 29 (by decide)).trans ((hd.1.1 29 (by decide)).trans hoh.2.2.2.2.1.2)
        refine tm_aload_n dX12_oneRoutine_343 rfl 2 rfl ?_
        refine tm_callV (M := m_X12_oneRoutine) (pc := 344) (ix := 373) (M' := m_X12_block) (As := []) (rest := []) dX12_oneRoutine_344 ok_X12_block im_X12_block se_X12_block ml12_373 np_X12_block rfl rfl (Nat.le_of_ble_eq_true rfl) (Nat.le_of_ble_eq_true rfl) rfl (c_blk6 (d) (σ := (sS 34 0 (sS 33 0 (sS 32 (σ.2.1 35 (σ.1 30)) σ2))))  (((f6.S (by omega)).S (by omega)).S (by omega)) rdn nn9 e28s e29s pboA.2.2.2.2.2.2) (fun r79 σ80 hp => ?_)
        obtain ⟨v81, rfl, f82, f83, f84, f85, f86, f87⟩ := hp
        show Tm _ _ 347 b σ80 [(2, .int (iI m)), (1, .int (iI p)), (0, .ref b)] [.int (iI v81)] _
        have bp0 := f82
        have bp1 := f83
        have bp2 := f84
        have bp3 := f85
        have bp4 := f86
        have bp5 := f87
        refine tm_if_ne (tgt := 352) dX12_oneRoutine_347 (by decide) ⟨by omega, by omega⟩ (fun h88 => ?_) (fun h88 => ?_)
        · obtain ⟨lgb, bt, bs, bf, b28, b29⟩ := bp4 (by omega)
          have rdb := bt.2.2.1.2
          have tkb := bt.2.2.1.1.1
          have pboB : PBO ρ σ80 := pboA.pb e30A bp3 (by show (0 : Int) ≤ 0; decide) bp1 (by decide) (by decide) (by decide)
          have e30B : σ80.1 30 = ρ.1 30 := bp3.2.2.2.2.2.2.2.trans e30A
          refine tm_aload_n dX12_oneRoutine_352 rfl 2 rfl ?_
          refine tm_bipush dX12_oneRoutine_353 (by decide) ?_
          refine tm_iconst dX12_oneRoutine_355 ?_
          refine tm_iconst dX12_oneRoutine_356 ?_
          refine tm_callV (M := m_X12_oneRoutine) (pc := 357) (ix := 294) (M' := m_X12_put) (As := [.int (iI 7), .int (iI 0), .int (iI 0)]) (rest := []) dX12_oneRoutine_357 ok_X12_put im_X12_put se_X12_put ml12_294 np_X12_put rfl rfl (Nat.le_of_ble_eq_true rfl) (Nat.le_of_ble_eq_true rfl) rfl (c_X12_put (d + 60) (σ := σ80) (k := 7) (e := 0) (o := 0) f84 (by rw [show σ80.1 30 = σ.1 30 from rs_F f83 (by decide) (rs_o (by decide) (rs_o (by decide) (rs_o (by decide) (rs_F f5 (by decide) (rfl))))), show σ80.1 34 = σ80.1 34 from rfl]; omega) (by omega) (by omega) (by omega)) (fun r89 σ90 hp => ?_)
          obtain ⟨v91, rfl, f92, f93, f94, f95, f96, f97, f98⟩ := hp
          show Tm _ _ 360 b σ90 [(2, .int (iI m)), (1, .int (iI p)), (0, .ref b)] [.int (iI v91)] _
          have jvP := f94
          have jnP := f95
          have jiP := f96
          have joP := f97
          have jrP := f98
          refine tm_istore (L' := [(4, .int (iI v91)), (2, .int (iI m)), (1, .int (iI p)), (0, .ref b)]) dX12_oneRoutine_360 (by decide) rfl ?_
          refine tm_aload_n dX12_oneRoutine_362 rfl 3 rfl ?_
          refine tm_iload dX12_oneRoutine_363 0 rfl ?_
          refine tm_iconst dX12_oneRoutine_365 ?_
          refine tm_iconst dX12_oneRoutine_366 ?_
          refine tm_iconst dX12_oneRoutine_367 ?_
          refine tm_callV (M := m_X12_oneRoutine) (pc := 368) (ix := 298) (M' := m_X12_setArg) (As := [.int (iI v91), .int (iI 0), .int (iI 1), .int (iI 0)]) (rest := []) dX12_oneRoutine_368 ok_X12_setArg im_X12_setArg se_X12_setArg ml12_298 np_X12_setArg rfl rfl (Nat.le_of_ble_eq_true rfl) (Nat.le_of_ble_eq_true rfl) rfl (c_X12_setArg (d + 61) (σ := σ90) (x := v91) (i := 0) (k := 1) (w := 0) (by omega)) (fun r99 σ100 hp => ?_)
          obtain ⟨rfl, f102⟩ := hp
          subst f102
          show Tm _ _ 371 b (fArg (v91) (0) (1) (0) σ90) [(4, .int (iI v91)), (2, .int (iI m)), (1, .int (iI p)), (0, .ref b)] [] _
          have jvP : _ = PXx σ80 := jvP
          have fAP := (show Fr [33, 34] [3, 4, 5, 6, 7, 8] [] σ80 (fArg (v91) (0) (1) (0) σ90) from ((Fr.rfl.trans (Fr.sub f92 (by decide) (by decide) (by decide))).trans (Fr.sub fArg_fr (by decide) (by decide) (by decide))))
          have eAP : (fArg (v91) (0) (1) (0) σ90).1 34 = σ80.1 34 + 1 := jnP
          have pbP : PBF σ80 (fArg (v91) (0) (1) (0) σ90) := PBF.it bt.nn fAP (by decide) (by decide) (by decide) eAP jvP (joP.trans (OFF.arg (by decide) (by decide)))
          have tbP : TBm σ80 (fArg (v91) (0) (1) (0) σ90) := TBm.of fAP (by decide) (by decide) (by decide) (by decide)
          have fP := (show Fr [34] [3, 4, 5, 6, 7, 8] [] σ80 (fArg (v91) (0) (1) (0) σ90) from ((Fr.rfl.trans (Fr.sub f92 (by decide) (by decide) (by decide))).trans (Fr.sub fArg_fr (by decide) (by decide) (by decide))))
          have okP : OKI (fArg (v91) (0) (1) (0) σ90) 1 (PXx σ80) := by rw [← jvP]; exact oki_arg1 jiP (Or.inr (Or.inr (Or.inl rfl))) (fun q => absurd q (by decide)) (fun q => absurd q (by decide)) (by omega)
          have k7P : (fArg (v91) (0) (1) (0) σ90).2.1 3 (PXx σ80) = 7 := by rw [← jvP]; exact jiP.1
          have gall : ∀ x, GOS [30] (sS 34 x ρ) (qq 0) [34] (fArg (v91) (0) (1) (0) σ90) (qq (ρ.1 19)) lgb := fun x => ((g35_ x).then ((bt.2.2.2.2.2 (ρ.1 19)).more [51, 34])).and ((g51 (CHG.put fP (by decide) (by decide) (by decide) eAP) : GOS [51] σ80 (qq (ρ.1 19)) [] (fArg (v91) (0) (1) (0) σ90) (qq (ρ.1 19)) []).more [34])
          have nrl : nR (lgb ++ [(0, (fArg (v91) (0) (1) (0) σ90).1 34, 0)]) = 1 := by rw [nR_app, (bt.2.2.2.2.2 0).nr0 (by decide)]; rfl
          have pboC : PBO ρ (fArg (v91) (0) (1) (0) σ90) := pboB.pb e30B pbP rdb.2.2.1.1 fP (by decide) (by decide) (by decide)
          have e30C : (fArg (v91) (0) (1) (0) σ90).1 30 = ρ.1 30 := (fP.1 30 (by decide)).trans e30B
          have e25C : (fArg (v91) (0) (1) (0) σ90).1 25 = ρ.1 25 := pboC.2.2.2.2.1
          have R371 : RG (fArg (v91) (0) (1) (0) σ90) := ((f93).arg (by omega) (by omega))
          refine tm_aload_n dX12_oneRoutine_371 rfl 3 rfl ?_
          refine tm_getS (k := 25) (t := σ.1 25) dX12_oneRoutine_372 (by decide) fl12_255 rfl (rs_F fArg_fr (by decide) (rs_F f92 (by decide) (rs_F f83 (by decide) (rs_o (by decide) (rs_o (by decide) (rs_o (by decide) (rs_F f5 (by decide) (rfl)))))))) ?_
          have g103 := RG.s hR 25
          refine tm_iconst dX12_oneRoutine_375 ?_
          refine tm_icmp_ne (tgt := 394) dX12_oneRoutine_376 (by decide) ⟨by omega, by omega⟩ ⟨by decide, by decide⟩ (fun h104 => ?_) (fun h104 => ?_)
          · refine tm_aload_n dX12_oneRoutine_394 rfl 3 rfl ?_
            refine tm_getS (k := 25) (t := σ.1 25) dX12_oneRoutine_395 (by decide) fl12_255 rfl (rs_F fArg_fr (by decide) (rs_F f92 (by decide) (rs_F f83 (by decide) (rs_o (by decide) (rs_o (by decide) (rs_o (by decide) (rs_F f5 (by decide) (rfl)))))))) ?_
            have g105 := RG.s hR 25
            refine tm_iconst dX12_oneRoutine_398 ?_
            refine tm_icmp_ne (tgt := 415) dX12_oneRoutine_399 (by decide) ⟨by omega, by omega⟩ ⟨by decide, by decide⟩ (fun h106 => ?_) (fun h106 => ?_)
            · refine tm_aload_n dX12_oneRoutine_415 rfl 3 rfl ?_
              refine tm_dup dX12_oneRoutine_416 rfl ?_
              refine tm_getS (k := 30) (t := σ.1 30) dX12_oneRoutine_417 (by decide) fl12_268 rfl (rs_F fArg_fr (by decide) (rs_F f92 (by decide) (rs_F f83 (by decide) (rs_o (by decide) (rs_o (by decide) (rs_o (by decide) (rs_F f5 (by decide) (rfl)))))))) ?_
              have g107 := RG.s hR 30
              refine tm_iconst dX12_oneRoutine_420 ?_
              refine tm_iadd dX12_oneRoutine_421 ?_
              refine tm_putS (k := 30) (v := (σ.1 30) + 1) lay_12 dX12_oneRoutine_422 (by decide) fl12_268 rfl (tyX12_ok 30 (by decide)) rfl rfl rfl ?_
              refine tm_iconst dX12_oneRoutine_425 ?_
              have ffz := (show Fr [26, 27, 30] [9] [] (fArg (v91) (0) (1) (0) σ90) (sS 30 ((σ.1 30) + 1) (fArg (v91) (0) (1) (0) σ90)) from (Fr.rfl.S (by decide)))
              have flz : FLT (fArg (v91) (0) (1) (0) σ90) (sS 30 ((σ.1 30) + 1) (fArg (v91) (0) (1) (0) σ90)) := (FLT.eq rfl)
              have pboZ : PBO ρ (sS 30 ((σ.1 30) + 1) (fArg (v91) (0) (1) (0) σ90)) := pboC.fin ffz flz (fun j _ => rfl)
              have srz : srt (sS 30 ((σ.1 30) + 1) (fArg (v91) (0) (1) (0) σ90)) = srt (reP (ρ.1 19) ((fArg (v91) (0) (1) (0) σ90).1 34) (fArg (v91) (0) (1) (0) σ90)) := by have z9 : (fArg (v91) (0) (1) (0) σ90).1 30 = σ.1 30 := by { omega }; unfold reP; rw [if_neg (by omega), z9]
              have vwz := vw_fr ffz (by decide) (by decide) (by decide)
              have samz : SAM (fArg (v91) (0) (1) (0) σ90) (sS 30 ((σ.1 30) + 1) (fArg (v91) (0) (1) (0) σ90)) := by unfold vw at vwz; exact ⟨congrArg Prod.fst vwz, congrArg (fun z => z.2.1) vwz, congrArg (fun z => z.2.2) vwz⟩
              have gz : ∀ x, GOS [30] (sS 34 x ρ) (qq 0) [] (sS 30 ((σ.1 30) + 1) (fArg (v91) (0) (1) (0) σ90)) (qq 0) (lgb ++ [(0, (fArg (v91) (0) (1) (0) σ90).1 34, 0)]) := fun x => (gall x).trans (g34 (q := qq (ρ.1 19)) samz (EFF.rend srz))
              have tkz : TOK (sS 30 ((σ.1 30) + 1) (fArg (v91) (0) (1) (0) σ90)) := by unfold TOK; rw [ffz.1 19 (by decide), ffz.1 20 (by decide), ffz.1 21 (by decide), ffz.1 22 (by decide), ffz.1 23 (by decide), fP.1 19 (by decide), fP.1 20 (by decide), fP.1 21 (by decide), fP.1 22 (by decide), fP.1 23 (by decide)]; exact bt.2.2.1.1
              have e30z : (sS 30 ((σ.1 30) + 1) (fArg (v91) (0) (1) (0) σ90)).1 30 = ρ.1 30 + 1 := by rw [show (sS 30 ((σ.1 30) + 1) (fArg (v91) (0) (1) (0) σ90)).1 30 = (σ.1 30) + 1 from rs_eq]; omega
              have e19z : (sS 30 ((σ.1 30) + 1) (fArg (v91) (0) (1) (0) σ90)).1 19 = σ80.1 19 := (ffz.1 19 (by decide)).trans (fP.1 19 (by decide))
              have e31z : (sS 30 ((σ.1 30) + 1) (fArg (v91) (0) (1) (0) σ90)).1 31 = σ80.1 31 := (ffz.1 31 (by decide)).trans (fP.1 31 (by decide))
              have e28z : (sS 30 ((σ.1 30) + 1) (fArg (v91) (0) (1) (0) σ90)).1 28 = 0 := by rw [ffz.1 28 (by decide), fP.1 28 (by decide), b28]; exact e28s
              have e29z : (sS 30 ((σ.1 30) + 1) (fArg (v91) (0) (1) (0) σ90)).1 29 = 0 := by rw [ffz.1 29 (by decide), fP.1 29 (by decide), b29]; exact e29s
              have pcz := bt.2.1
              unfold PBC at pcz
              have pl5 : ρ.1 19 + 5 ≤ (sS 30 ((σ.1 30) + 1) (fArg (v91) (0) (1) (0) σ90)).1 19 := by have z6 := bp3.2.2.2.2.2.1; have z7 : (sS 34 0 (sS 33 0 (sS 32 (σ.2.1 35 (σ.1 30)) σ2))).1 19 = σ2.1 19 := rfl; have z8 : (sS 34 0 (sS 33 0 (sS 32 (σ.2.1 35 (σ.1 30)) σ2))).1 34 = 0 := rfl; omega
              exact tm_zret (v := 1) rfl (by decide) dX12_oneRoutine_426 (hret _ _ ((Fr.sub hd.1 (by decide) (by decide) (by decide) : Fr [19, 20, 22, 23, 26, 27, 28, 29, 30, 31, 32, 33, 34, 39, 40, 43] [3, 4, 5, 6, 7, 8, 9, 35, 36, 37, 41, 42, 45] [24, 38, 44] ρ σ).trans ((((((((Fr.rfl.trans (Fr.sub f5 (by decide) (by decide) (by decide))).S (by decide)).S (by decide)).S (by decide)).trans (Fr.sub f83 (by decide) (by decide) (by decide))).trans (Fr.sub f92 (by decide) (by decide) (by decide))).trans (Fr.sub fArg_fr (by decide) (by decide) (by decide))).S (by decide))) (((f93).arg (by omega) (by omega)).S (by omega)) (by omega) pboZ (fun _ => ⟨tkz, ⟨e30z, pl5, by omega, e28z, e29z⟩, _, gz, nrl, (fun z => absurd z (by omega)), (fun z => P1O.mk hd hpa z (show Fr [19, 20, 22, 23, 26, 27, 28, 29, 30, 31, 32, 33, 34, 39, 40] [3, 4, 5, 6, 7, 8, 9, 35, 37, 41, 42] [24, 38] σ (sS 30 ((σ.1 30) + 1) (fArg (v91) (0) (1) (0) σ90)) from ((((((((Fr.rfl.trans (Fr.sub f5 (by decide) (by decide) (by decide))).S (by decide)).S (by decide)).S (by decide)).trans (Fr.sub f83 (by decide) (by decide) (by decide))).trans (Fr.sub f92 (by decide) (by decide) (by decide))).trans (Fr.sub fArg_fr (by decide) (by decide) (by decide))).S (by decide))) (by decide) (by decide) ((show FLT σ (sS 34 0 (sS 33 0 (sS 32 (σ.2.1 35 (σ.1 30)) σ2))) from yn5).trans ((bp3.2.2.2.2.1).trans ((pbP.2.2.2.2.1).trans flz))) (fun r => ⟨by have y1 := (bp3.2.2.2.1 r).1; have y2 := (pbP.2.2.2.1 r).1; have y3 : (sS 34 0 (sS 33 0 (sS 32 (σ.2.1 35 (σ.1 30)) σ2))).2.1 35 r = σ.2.1 35 r := congrFun (yn1.2.1 35 (by decide)) r; have y4 : (sS 30 ((σ.1 30) + 1) (fArg (v91) (0) (1) (0) σ90)).2.1 35 r = (fArg (v91) (0) (1) (0) σ90).2.1 35 r := congrFun (ffz.2.1 35 (by decide)) r; omega, fun y => by have y1 := (bp3.2.2.2.1 r).2 (by rw [e30A]; exact y); have y2 := (pbP.2.2.2.1 r).2 (by rw [e30B]; exact y); have y3 : (sS 34 0 (sS 33 0 (sS 32 (σ.2.1 35 (σ.1 30)) σ2))).2.1 35 r = σ.2.1 35 r := congrFun (yn1.2.1 35 (by decide)) r; have y4 : (sS 30 ((σ.1 30) + 1) (fArg (v91) (0) (1) (0) σ90)).2.1 35 r = (fArg (v91) (0) (1) (0) σ90).2.1 35 r := congrFun (ffz.2.1 35 (by decide)) r; omega⟩)), (fun z => absurd z (by omega))⟩) (fun q => absurd q (by decide)))
            · have vw3 := vw_fr (show Fr [30] [] [] (fArg (v91) (0) (1) (0) σ90) (sS 30 ((fArg (v91) (0) (1) (0) σ90).1 30 + 1) (fArg (v91) (0) (1) (0) σ90)) from Fr.rfl.S (by decide)) (by decide) (by decide) (by decide)
              have sam3 : SAM (fArg (v91) (0) (1) (0) σ90) (sS 30 ((fArg (v91) (0) (1) (0) σ90).1 30 + 1) (fArg (v91) (0) (1) (0) σ90)) := by unfold vw at vw3; exact ⟨congrArg Prod.fst vw3, congrArg (fun z => z.2.1) vw3, congrArg (fun z => z.2.2) vw3⟩
              have srz3 : srt (sS 30 ((fArg (v91) (0) (1) (0) σ90).1 30 + 1) (fArg (v91) (0) (1) (0) σ90)) = srt (reP (ρ.1 19) ((fArg (v91) (0) (1) (0) σ90).1 34) (fArg (v91) (0) (1) (0) σ90)) := by unfold reP; rw [if_neg (by omega)]
              have gz3 : ∀ x, GOS [30] (sS 34 x ρ) (qq 0) [] (sS 30 ((fArg (v91) (0) (1) (0) σ90).1 30 + 1) (fArg (v91) (0) (1) (0) σ90)) (qq 0) (lgb ++ [(0, (fArg (v91) (0) (1) (0) σ90).1 34, 0)]) := fun x => (gall x).trans (g34 (q := qq (ρ.1 19)) sam3 (EFF.rend srz3))
              have hq8 := hoh.2.2.2.2.2.2.2 (by omega) _ _ gz3
              have r6 : ρ.1 30 < 6 := hq8.1 (by rw [nrl]; decide)
              have hq9 := hq8.2
              clear hq8
              have i120 : (fArg (v91) (0) (1) (0) σ90).1 34 ≤ 120 := (hq9 (0, (fArg (v91) (0) (1) (0) σ90).1 34, 0) (List.mem_append_right _ (List.mem_singleton.mpr rfl))).1 rfl
              refine tm_aload_n dX12_oneRoutine_402 rfl 3 rfl ?_
              refine tm_get (k := 9) (v := .ref (b + 1 + 7)) lay_12 dX12_oneRoutine_403 (by decide) fl12_32 rfl ?_
              refine tm_aload_n dX12_oneRoutine_406 rfl 3 rfl ?_
              refine tm_getS (k := 30) (t := σ.1 30) dX12_oneRoutine_407 (by decide) fl12_268 rfl (rs_F fArg_fr (by decide) (rs_F f92 (by decide) (rs_F f83 (by decide) (rs_o (by decide) (rs_o (by decide) (rs_o (by decide) (rs_F f5 (by decide) (rfl)))))))) ?_
              have g108 := RG.s hR 30
              refine tm_aload_n dX12_oneRoutine_410 rfl 3 rfl ?_
              refine tm_getS (k := 34) (t := σ90.1 34) dX12_oneRoutine_411 (by decide) fl12_278 rfl (rs_F fArg_fr (by decide) (rfl)) ?_
              have g109 := RG.s f93 34
              refine tm_iast (z := σ.1 30) (v := σ90.1 34) dX12_oneRoutine_414 (show mT[7]? = some (9, 0, 13) from rfl) (by omega) (by omega) (by decide) ?_
              refine tm_aload_n dX12_oneRoutine_415 rfl 3 rfl ?_
              refine tm_dup dX12_oneRoutine_416 rfl ?_
              refine tm_getS (k := 30) (t := σ.1 30) dX12_oneRoutine_417 (by decide) fl12_268 rfl (rs_A (rs_F fArg_fr (by decide) (rs_F f92 (by decide) (rs_F f83 (by decide) (rs_o (by decide) (rs_o (by decide) (rs_o (by decide) (rs_F f5 (by decide) (rfl))))))))) ?_
              have g110 := RG.s hR 30
              refine tm_iconst dX12_oneRoutine_420 ?_
              refine tm_iadd dX12_oneRoutine_421 ?_
              refine tm_putS (k := 30) (v := (σ.1 30) + 1) lay_12 dX12_oneRoutine_422 (by decide) fl12_268 rfl (tyX12_ok 30 (by decide)) rfl rfl rfl ?_
              refine tm_iconst dX12_oneRoutine_425 ?_
              have ffz := (show Fr [26, 27, 30] [9] [] (fArg (v91) (0) (1) (0) σ90) (sS 30 ((σ.1 30) + 1) (sA 9 (σ.1 30) (σ90.1 34) (fArg (v91) (0) (1) (0) σ90))) from ((Fr.rfl.A (by decide)).S (by decide)))
              have flz : FLT (fArg (v91) (0) (1) (0) σ90) (sS 30 ((σ.1 30) + 1) (sA 9 (σ.1 30) (σ90.1 34) (fArg (v91) (0) (1) (0) σ90))) := (FLT.eq rfl)
              have pboZ : PBO ρ (sS 30 ((σ.1 30) + 1) (sA 9 (σ.1 30) (σ90.1 34) (fArg (v91) (0) (1) (0) σ90))) := pboC.fin ffz flz (fun j z => ra_ne (by omega) rfl)
              have srz : srt (sS 30 ((σ.1 30) + 1) (sA 9 (σ.1 30) (σ90.1 34) (fArg (v91) (0) (1) (0) σ90))) = srt (reP (ρ.1 19) ((fArg (v91) (0) (1) (0) σ90).1 34) (fArg (v91) (0) (1) (0) σ90)) := by have z9 : (fArg (v91) (0) (1) (0) σ90).1 30 = σ.1 30 := by { omega }; unfold reP; rw [if_neg (by omega), z9]; rfl
              have vwz := vw_fr ffz (by decide) (by decide) (by decide)
              have samz : SAM (fArg (v91) (0) (1) (0) σ90) (sS 30 ((σ.1 30) + 1) (sA 9 (σ.1 30) (σ90.1 34) (fArg (v91) (0) (1) (0) σ90))) := by unfold vw at vwz; exact ⟨congrArg Prod.fst vwz, congrArg (fun z => z.2.1) vwz, congrArg (fun z => z.2.2) vwz⟩
              have gz : ∀ x, GOS [30] (sS 34 x ρ) (qq 0) [] (sS 30 ((σ.1 30) + 1) (sA 9 (σ.1 30) (σ90.1 34) (fArg (v91) (0) (1) (0) σ90))) (qq 0) (lgb ++ [(0, (fArg (v91) (0) (1) (0) σ90).1 34, 0)]) := fun x => (gall x).trans (g34 (q := qq (ρ.1 19)) samz (EFF.rend srz))
              have tkz : TOK (sS 30 ((σ.1 30) + 1) (sA 9 (σ.1 30) (σ90.1 34) (fArg (v91) (0) (1) (0) σ90))) := by unfold TOK; rw [ffz.1 19 (by decide), ffz.1 20 (by decide), ffz.1 21 (by decide), ffz.1 22 (by decide), ffz.1 23 (by decide), fP.1 19 (by decide), fP.1 20 (by decide), fP.1 21 (by decide), fP.1 22 (by decide), fP.1 23 (by decide)]; exact bt.2.2.1.1
              have e30z : (sS 30 ((σ.1 30) + 1) (sA 9 (σ.1 30) (σ90.1 34) (fArg (v91) (0) (1) (0) σ90))).1 30 = ρ.1 30 + 1 := by rw [show (sS 30 ((σ.1 30) + 1) (sA 9 (σ.1 30) (σ90.1 34) (fArg (v91) (0) (1) (0) σ90))).1 30 = (σ.1 30) + 1 from rs_eq]; omega
              have e19z : (sS 30 ((σ.1 30) + 1) (sA 9 (σ.1 30) (σ90.1 34) (fArg (v91) (0) (1) (0) σ90))).1 19 = σ80.1 19 := (ffz.1 19 (by decide)).trans (fP.1 19 (by decide))
              have e31z : (sS 30 ((σ.1 30) + 1) (sA 9 (σ.1 30) (σ90.1 34) (fArg (v91) (0) (1) (0) σ90))).1 31 = σ80.1 31 := (ffz.1 31 (by decide)).trans (fP.1 31 (by decide))
              have e28z : (sS 30 ((σ.1 30) + 1) (sA 9 (σ.1 30) (σ90.1 34) (fArg (v91) (0) (1) (0) σ90))).1 28 = 0 := by rw [ffz.1 28 (by decide), fP.1 28 (by decide), b28]; exact e28s
              have e29z : (sS 30 ((σ.1 30) + 1) (sA 9 (σ.1 30) (σ90.1 34) (fArg (v91) (0) (1) (0) σ90))).1 29 = 0 := by rw [ffz.1 29 (by decide), fP.1 29 (by decide), b29]; exact e29s
              have pcz := bt.2.1
              unfold PBC at pcz
              have pl5 : ρ.1 19 + 5 ≤ (sS 30 ((σ.1 30) + 1) (sA 9 (σ.1 30) (σ90.1 34) (fArg (v91) (0) (1) (0) σ90))).1 19 := by have z6 := bp3.2.2.2.2.2.1; have z7 : (sS 34 0 (sS 33 0 (sS 32 (σ.2.1 35 (σ.1 30)) σ2))).1 19 = σ2.1 19 := rfl; have z8 : (sS 34 0 (sS 33 0 (sS 32 (σ.2.1 35 (σ.1 30)) σ2))).1 34 = 0 := rfl; omega
              exact tm_zret (v := 1) rfl (by decide) dX12_oneRoutine_426 (hret _ _ ((Fr.sub hd.1 (by decide) (by decide) (by decide) : Fr [19, 20, 22, 23, 26, 27, 28, 29, 30, 31, 32, 33, 34, 39, 40, 43] [3, 4, 5, 6, 7, 8, 9, 35, 36, 37, 41, 42, 45] [24, 38, 44] ρ σ).trans (((((((((Fr.rfl.trans (Fr.sub f5 (by decide) (by decide) (by decide))).S (by decide)).S (by decide)).S (by decide)).trans (Fr.sub f83 (by decide) (by decide) (by decide))).trans (Fr.sub f92 (by decide) (by decide) (by decide))).trans (Fr.sub fArg_fr (by decide) (by decide) (by decide))).A (by decide)).S (by decide))) ((((f93).arg (by omega) (by omega)).A (by omega)).S (by omega)) (by omega) pboZ (fun _ => ⟨tkz, ⟨e30z, pl5, by omega, e28z, e29z⟩, _, gz, nrl, (fun z => absurd z (by omega)), (fun z => absurd z (by omega)), (fun z => by have q := PLI.mk bs bf (show (sS 34 0 (sS 33 0 (sS 32 (σ.2.1 35 (σ.1 30)) σ2))).1 25 = 3 by have y8 : (sS 34 0 (sS 33 0 (sS 32 (σ.2.1 35 (σ.1 30)) σ2))).1 25 = σ2.1 25 := rfl; omega) (by omega) rfl rfl bp3 bt.2.1 (fun e he => (hq9 e (List.mem_append_left _ he)).tb (pboA.2.1 (by omega)).2.2.2) (by omega) pbP eAP okP k7P bt.2.2.2.1 tbP (show Fr [30] [9] [] (fArg (v91) (0) (1) (0) σ90) (sS 30 ((σ.1 30) + 1) (sA 9 (σ.1 30) (σ90.1 34) (fArg (v91) (0) (1) (0) σ90))) from ((Fr.rfl.A (by decide)).S (by decide))) (by rw [e30A, ← e30h]; exact (ra_eq : (sA 9 (σ.1 30) _ _).2.1 9 (σ.1 30) = _)); rw [e30A] at q; exact q)⟩) (fun q => absurd q (by decide)))
          · refine tm_aload_n dX12_oneRoutine_379 rfl 3 rfl ?_
            refine tm_getS (k := 34) (t := σ90.1 34) dX12_oneRoutine_380 (by decide) fl12_278 rfl (rs_F fArg_fr (by decide) (rfl)) ?_
            have g111 := RG.s f93 34
            refine tm_bipush dX12_oneRoutine_383 (by decide) ?_
            refine tm_icmp_le (tgt := 394) dX12_oneRoutine_385 (by decide) ⟨by omega, by omega⟩ ⟨by decide, by decide⟩ (fun h112 => ?_) (fun h112 => ?_)
            · refine tm_aload_n dX12_oneRoutine_394 rfl 3 rfl ?_
              refine tm_getS (k := 25) (t := σ.1 25) dX12_oneRoutine_395 (by decide) fl12_255 rfl (rs_F fArg_fr (by decide) (rs_F f92 (by decide) (rs_F f83 (by decide) (rs_o (by decide) (rs_o (by decide) (rs_o (by decide) (rs_F f5 (by decide) (rfl)))))))) ?_
              have g113 := RG.s hR 25
              refine tm_iconst dX12_oneRoutine_398 ?_
              refine tm_icmp_ne (tgt := 415) dX12_oneRoutine_399 (by decide) ⟨by omega, by omega⟩ ⟨by decide, by decide⟩ (fun h114 => ?_) (fun h114 => ?_)
              · refine tm_aload_n dX12_oneRoutine_415 rfl 3 rfl ?_
                refine tm_dup dX12_oneRoutine_416 rfl ?_
                refine tm_getS (k := 30) (t := σ.1 30) dX12_oneRoutine_417 (by decide) fl12_268 rfl (rs_F fArg_fr (by decide) (rs_F f92 (by decide) (rs_F f83 (by decide) (rs_o (by decide) (rs_o (by decide) (rs_o (by decide) (rs_F f5 (by decide) (rfl)))))))) ?_
                have g115 := RG.s hR 30
                refine tm_iconst dX12_oneRoutine_420 ?_
                refine tm_iadd dX12_oneRoutine_421 ?_
                refine tm_putS (k := 30) (v := (σ.1 30) + 1) lay_12 dX12_oneRoutine_422 (by decide) fl12_268 rfl (tyX12_ok 30 (by decide)) rfl rfl rfl ?_
                refine tm_iconst dX12_oneRoutine_425 ?_
                have ffz := (show Fr [26, 27, 30] [9] [] (fArg (v91) (0) (1) (0) σ90) (sS 30 ((σ.1 30) + 1) (fArg (v91) (0) (1) (0) σ90)) from (Fr.rfl.S (by decide)))
                have flz : FLT (fArg (v91) (0) (1) (0) σ90) (sS 30 ((σ.1 30) + 1) (fArg (v91) (0) (1) (0) σ90)) := (FLT.eq rfl)
                have pboZ : PBO ρ (sS 30 ((σ.1 30) + 1) (fArg (v91) (0) (1) (0) σ90)) := pboC.fin ffz flz (fun j _ => rfl)
                have srz : srt (sS 30 ((σ.1 30) + 1) (fArg (v91) (0) (1) (0) σ90)) = srt (reP (ρ.1 19) ((fArg (v91) (0) (1) (0) σ90).1 34) (fArg (v91) (0) (1) (0) σ90)) := by have z9 : (fArg (v91) (0) (1) (0) σ90).1 30 = σ.1 30 := by { omega }; unfold reP; rw [if_neg (by omega), z9]
                have vwz := vw_fr ffz (by decide) (by decide) (by decide)
                have samz : SAM (fArg (v91) (0) (1) (0) σ90) (sS 30 ((σ.1 30) + 1) (fArg (v91) (0) (1) (0) σ90)) := by unfold vw at vwz; exact ⟨congrArg Prod.fst vwz, congrArg (fun z => z.2.1) vwz, congrArg (fun z => z.2.2) vwz⟩
                have gz : ∀ x, GOS [30] (sS 34 x ρ) (qq 0) [] (sS 30 ((σ.1 30) + 1) (fArg (v91) (0) (1) (0) σ90)) (qq 0) (lgb ++ [(0, (fArg (v91) (0) (1) (0) σ90).1 34, 0)]) := fun x => (gall x).trans (g34 (q := qq (ρ.1 19)) samz (EFF.rend srz))
                have tkz : TOK (sS 30 ((σ.1 30) + 1) (fArg (v91) (0) (1) (0) σ90)) := by unfold TOK; rw [ffz.1 19 (by decide), ffz.1 20 (by decide), ffz.1 21 (by decide), ffz.1 22 (by decide), ffz.1 23 (by decide), fP.1 19 (by decide), fP.1 20 (by decide), fP.1 21 (by decide), fP.1 22 (by decide), fP.1 23 (by decide)]; exact bt.2.2.1.1
                have e30z : (sS 30 ((σ.1 30) + 1) (fArg (v91) (0) (1) (0) σ90)).1 30 = ρ.1 30 + 1 := by rw [show (sS 30 ((σ.1 30) + 1) (fArg (v91) (0) (1) (0) σ90)).1 30 = (σ.1 30) + 1 from rs_eq]; omega
                have e19z : (sS 30 ((σ.1 30) + 1) (fArg (v91) (0) (1) (0) σ90)).1 19 = σ80.1 19 := (ffz.1 19 (by decide)).trans (fP.1 19 (by decide))
                have e31z : (sS 30 ((σ.1 30) + 1) (fArg (v91) (0) (1) (0) σ90)).1 31 = σ80.1 31 := (ffz.1 31 (by decide)).trans (fP.1 31 (by decide))
                have e28z : (sS 30 ((σ.1 30) + 1) (fArg (v91) (0) (1) (0) σ90)).1 28 = 0 := by rw [ffz.1 28 (by decide), fP.1 28 (by decide), b28]; exact e28s
                have e29z : (sS 30 ((σ.1 30) + 1) (fArg (v91) (0) (1) (0) σ90)).1 29 = 0 := by rw [ffz.1 29 (by decide), fP.1 29 (by decide), b29]; exact e29s
                have pcz := bt.2.1
                unfold PBC at pcz
                have pl5 : ρ.1 19 + 5 ≤ (sS 30 ((σ.1 30) + 1) (fArg (v91) (0) (1) (0) σ90)).1 19 := by have z6 := bp3.2.2.2.2.2.1; have z7 : (sS 34 0 (sS 33 0 (sS 32 (σ.2.1 35 (σ.1 30)) σ2))).1 19 = σ2.1 19 := rfl; have z8 : (sS 34 0 (sS 33 0 (sS 32 (σ.2.1 35 (σ.1 30)) σ2))).1 34 = 0 := rfl; omega
                exact tm_zret (v := 1) rfl (by decide) dX12_oneRoutine_426 (hret _ _ ((Fr.sub hd.1 (by decide) (by decide) (by decide) : Fr [19, 20, 22, 23, 26, 27, 28, 29, 30, 31, 32, 33, 34, 39, 40, 43] [3, 4, 5, 6, 7, 8, 9, 35, 36, 37, 41, 42, 45] [24, 38, 44] ρ σ).trans ((((((((Fr.rfl.trans (Fr.sub f5 (by decide) (by decide) (by decide))).S (by decide)).S (by decide)).S (by decide)).trans (Fr.sub f83 (by decide) (by decide) (by decide))).trans (Fr.sub f92 (by decide) (by decide) (by decide))).trans (Fr.sub fArg_fr (by decide) (by decide) (by decide))).S (by decide))) (((f93).arg (by omega) (by omega)).S (by omega)) (by omega) pboZ (fun _ => ⟨tkz, ⟨e30z, pl5, by omega, e28z, e29z⟩, _, gz, nrl, (fun z1 z2 e he => by rcases List.mem_append.mp he with y | y; exact (bt.2.2.2.2.1 (by have y8 : (sS 34 0 (sS 33 0 (sS 32 (σ.2.1 35 (σ.1 30)) σ2))).1 25 = σ2.1 25 := rfl; omega) (by by_cases y9 : σ80.1 26 = 0; exact y9; exact absurd z2 (((pbP.2.2.2.2.1).trans flz).1 y9)) e y).bt (pboA.2.1 (by omega)).2.2.2; rw [List.mem_singleton.mp y]; exact ⟨fun _ => by show (fArg (v91) (0) (1) (0) σ90).1 34 ≤ 120; omega, fun q => absurd (show (0 : Int) = 1 from q) (by decide)⟩), (fun z => absurd z (by omega)), (fun z => absurd z (by omega))⟩) (fun q => absurd q (by decide)))
              · have vw3 := vw_fr (show Fr [30] [] [] (fArg (v91) (0) (1) (0) σ90) (sS 30 ((fArg (v91) (0) (1) (0) σ90).1 30 + 1) (fArg (v91) (0) (1) (0) σ90)) from Fr.rfl.S (by decide)) (by decide) (by decide) (by decide)
                have sam3 : SAM (fArg (v91) (0) (1) (0) σ90) (sS 30 ((fArg (v91) (0) (1) (0) σ90).1 30 + 1) (fArg (v91) (0) (1) (0) σ90)) := by unfold vw at vw3; exact ⟨congrArg Prod.fst vw3, congrArg (fun z => z.2.1) vw3, congrArg (fun z => z.2.2) vw3⟩
                have srz3 : srt (sS 30 ((fArg (v91) (0) (1) (0) σ90).1 30 + 1) (fArg (v91) (0) (1) (0) σ90)) = srt (reP (ρ.1 19) ((fArg (v91) (0) (1) (0) σ90).1 34) (fArg (v91) (0) (1) (0) σ90)) := by unfold reP; rw [if_neg (by omega)]
                have gz3 : ∀ x, GOS [30] (sS 34 x ρ) (qq 0) [] (sS 30 ((fArg (v91) (0) (1) (0) σ90).1 30 + 1) (fArg (v91) (0) (1) (0) σ90)) (qq 0) (lgb ++ [(0, (fArg (v91) (0) (1) (0) σ90).1 34, 0)]) := fun x => (gall x).trans (g34 (q := qq (ρ.1 19)) sam3 (EFF.rend srz3))
                have hq8 := hoh.2.2.2.2.2.2.2 (by omega) _ _ gz3
                have r6 : ρ.1 30 < 6 := hq8.1 (by rw [nrl]; decide)
                have hq9 := hq8.2
                clear hq8
                have i120 : (fArg (v91) (0) (1) (0) σ90).1 34 ≤ 120 := (hq9 (0, (fArg (v91) (0) (1) (0) σ90).1 34, 0) (List.mem_append_right _ (List.mem_singleton.mpr rfl))).1 rfl
                refine tm_aload_n dX12_oneRoutine_402 rfl 3 rfl ?_
                refine tm_get (k := 9) (v := .ref (b + 1 + 7)) lay_12 dX12_oneRoutine_403 (by decide) fl12_32 rfl ?_
                refine tm_aload_n dX12_oneRoutine_406 rfl 3 rfl ?_
                refine tm_getS (k := 30) (t := σ.1 30) dX12_oneRoutine_407 (by decide) fl12_268 rfl (rs_F fArg_fr (by decide) (rs_F f92 (by decide) (rs_F f83 (by decide) (rs_o (by decide) (rs_o (by decide) (rs_o (by decide) (rs_F f5 (by decide) (rfl)))))))) ?_
                have g116 := RG.s hR 30
                refine tm_aload_n dX12_oneRoutine_410 rfl 3 rfl ?_
                refine tm_getS (k := 34) (t := σ90.1 34) dX12_oneRoutine_411 (by decide) fl12_278 rfl (rs_F fArg_fr (by decide) (rfl)) ?_
                have g117 := RG.s f93 34
                refine tm_iast (z := σ.1 30) (v := σ90.1 34) dX12_oneRoutine_414 (show mT[7]? = some (9, 0, 13) from rfl) (by omega) (by omega) (by decide) ?_
                refine tm_aload_n dX12_oneRoutine_415 rfl 3 rfl ?_
                refine tm_dup dX12_oneRoutine_416 rfl ?_
                refine tm_getS (k := 30) (t := σ.1 30) dX12_oneRoutine_417 (by decide) fl12_268 rfl (rs_A (rs_F fArg_fr (by decide) (rs_F f92 (by decide) (rs_F f83 (by decide) (rs_o (by decide) (rs_o (by decide) (rs_o (by decide) (rs_F f5 (by decide) (rfl))))))))) ?_
                have g118 := RG.s hR 30
                refine tm_iconst dX12_oneRoutine_420 ?_
                refine tm_iadd dX12_oneRoutine_421 ?_
                refine tm_putS (k := 30) (v := (σ.1 30) + 1) lay_12 dX12_oneRoutine_422 (by decide) fl12_268 rfl (tyX12_ok 30 (by decide)) rfl rfl rfl ?_
                refine tm_iconst dX12_oneRoutine_425 ?_
                exact tm_zret (v := 1) rfl (by decide) dX12_oneRoutine_426 ((by exfalso; omega))
            · refine tm_aload_n dX12_oneRoutine_388 rfl 3 rfl ?_
              refine tm_iconst dX12_oneRoutine_389 ?_
              refine tm_iload_n dX12_oneRoutine_390 rfl 2 rfl ?_
              refine tm_callV (M := m_X12_oneRoutine) (pc := 391) (ix := 274) (M' := m_X12_note) (As := [.int (iI 5), .int (iI p)]) (rest := []) dX12_oneRoutine_391 ok_X12_note im_X12_note se_X12_note ml12_274 np_X12_note rfl rfl (Nat.le_of_ble_eq_true rfl) (Nat.le_of_ble_eq_true rfl) rfl (c2_X12_note (d + 61) (σ := (fArg (v91) (0) (1) (0) σ90)) (f := 5) (p := p) ((f93).arg (by omega) (by omega)) (by omega) (by omega)) (fun r119 σ120 hp => ?_)
              obtain ⟨rfl, f122, f123, f124, f125, f126⟩ := hp
              show Tm _ _ 394 b σ120 [(4, .int (iI v91)), (2, .int (iI m)), (1, .int (iI p)), (0, .ref b)] [] _
              have ntf := f124
              have ntn := f125
              have nt4 := f126
              refine tm_aload_n dX12_oneRoutine_394 rfl 3 rfl ?_
              refine tm_getS (k := 25) (t := σ.1 25) dX12_oneRoutine_395 (by decide) fl12_255 rfl (rs_F f122 (by decide) (rs_F fArg_fr (by decide) (rs_F f92 (by decide) (rs_F f83 (by decide) (rs_o (by decide) (rs_o (by decide) (rs_o (by decide) (rs_F f5 (by decide) (rfl))))))))) ?_
              have g127 := RG.s hR 25
              refine tm_iconst dX12_oneRoutine_398 ?_
              refine tm_icmp_ne (tgt := 415) dX12_oneRoutine_399 (by decide) ⟨by omega, by omega⟩ ⟨by decide, by decide⟩ (fun h128 => ?_) (fun h128 => ?_)
              · refine tm_aload_n dX12_oneRoutine_415 rfl 3 rfl ?_
                refine tm_dup dX12_oneRoutine_416 rfl ?_
                refine tm_getS (k := 30) (t := σ.1 30) dX12_oneRoutine_417 (by decide) fl12_268 rfl (rs_F f122 (by decide) (rs_F fArg_fr (by decide) (rs_F f92 (by decide) (rs_F f83 (by decide) (rs_o (by decide) (rs_o (by decide) (rs_o (by decide) (rs_F f5 (by decide) (rfl))))))))) ?_
                have g129 := RG.s hR 30
                refine tm_iconst dX12_oneRoutine_420 ?_
                refine tm_iadd dX12_oneRoutine_421 ?_
                refine tm_putS (k := 30) (v := (σ.1 30) + 1) lay_12 dX12_oneRoutine_422 (by decide) fl12_268 rfl (tyX12_ok 30 (by decide)) rfl rfl rfl ?_
                refine tm_iconst dX12_oneRoutine_425 ?_
                have ffz := (show Fr [26, 27, 30] [9] [] (fArg (v91) (0) (1) (0) σ90) (sS 30 ((σ.1 30) + 1) σ120) from ((Fr.rfl.trans (Fr.sub f122 (by decide) (by decide) (by decide))).S (by decide)))
                have flz : FLT (fArg (v91) (0) (1) (0) σ90) (sS 30 ((σ.1 30) + 1) σ120) := ntf
                have pboZ : PBO ρ (sS 30 ((σ.1 30) + 1) σ120) := pboC.fin ffz flz (fun j _ => congrFun ((show Fr [26, 27] [] [] (fArg (v91) (0) (1) (0) σ90) σ120 from f122).2.1 9 (by decide)) j)
                have srz : srt (sS 30 ((σ.1 30) + 1) σ120) = srt (reP (ρ.1 19) ((fArg (v91) (0) (1) (0) σ90).1 34) (fArg (v91) (0) (1) (0) σ90)) := by have z9 : (fArg (v91) (0) (1) (0) σ90).1 30 = σ.1 30 := by { omega }; unfold reP; rw [if_pos ⟨by omega, by omega⟩, ← hp, ← nt4, z9]
                have vwz := vw_fr ffz (by decide) (by decide) (by decide)
                have samz : SAM (fArg (v91) (0) (1) (0) σ90) (sS 30 ((σ.1 30) + 1) σ120) := by unfold vw at vwz; exact ⟨congrArg Prod.fst vwz, congrArg (fun z => z.2.1) vwz, congrArg (fun z => z.2.2) vwz⟩
                have gz : ∀ x, GOS [30] (sS 34 x ρ) (qq 0) [] (sS 30 ((σ.1 30) + 1) σ120) (qq 0) (lgb ++ [(0, (fArg (v91) (0) (1) (0) σ90).1 34, 0)]) := fun x => (gall x).trans (g34 (q := qq (ρ.1 19)) samz (EFF.rend srz))
                have tkz : TOK (sS 30 ((σ.1 30) + 1) σ120) := by unfold TOK; rw [ffz.1 19 (by decide), ffz.1 20 (by decide), ffz.1 21 (by decide), ffz.1 22 (by decide), ffz.1 23 (by decide), fP.1 19 (by decide), fP.1 20 (by decide), fP.1 21 (by decide), fP.1 22 (by decide), fP.1 23 (by decide)]; exact bt.2.2.1.1
                have e30z : (sS 30 ((σ.1 30) + 1) σ120).1 30 = ρ.1 30 + 1 := by rw [show (sS 30 ((σ.1 30) + 1) σ120).1 30 = (σ.1 30) + 1 from rs_eq]; omega
                have e19z : (sS 30 ((σ.1 30) + 1) σ120).1 19 = σ80.1 19 := (ffz.1 19 (by decide)).trans (fP.1 19 (by decide))
                have e31z : (sS 30 ((σ.1 30) + 1) σ120).1 31 = σ80.1 31 := (ffz.1 31 (by decide)).trans (fP.1 31 (by decide))
                have e28z : (sS 30 ((σ.1 30) + 1) σ120).1 28 = 0 := by rw [ffz.1 28 (by decide), fP.1 28 (by decide), b28]; exact e28s
                have e29z : (sS 30 ((σ.1 30) + 1) σ120).1 29 = 0 := by rw [ffz.1 29 (by decide), fP.1 29 (by decide), b29]; exact e29s
                have pcz := bt.2.1
                unfold PBC at pcz
                have pl5 : ρ.1 19 + 5 ≤ (sS 30 ((σ.1 30) + 1) σ120).1 19 := by have z6 := bp3.2.2.2.2.2.1; have z7 : (sS 34 0 (sS 33 0 (sS 32 (σ.2.1 35 (σ.1 30)) σ2))).1 19 = σ2.1 19 := rfl; have z8 : (sS 34 0 (sS 33 0 (sS 32 (σ.2.1 35 (σ.1 30)) σ2))).1 34 = 0 := rfl; omega
                exact tm_zret (v := 1) rfl (by decide) dX12_oneRoutine_426 (hret _ _ ((Fr.sub hd.1 (by decide) (by decide) (by decide) : Fr [19, 20, 22, 23, 26, 27, 28, 29, 30, 31, 32, 33, 34, 39, 40, 43] [3, 4, 5, 6, 7, 8, 9, 35, 36, 37, 41, 42, 45] [24, 38, 44] ρ σ).trans (((((((((Fr.rfl.trans (Fr.sub f5 (by decide) (by decide) (by decide))).S (by decide)).S (by decide)).S (by decide)).trans (Fr.sub f83 (by decide) (by decide) (by decide))).trans (Fr.sub f92 (by decide) (by decide) (by decide))).trans (Fr.sub fArg_fr (by decide) (by decide) (by decide))).trans (Fr.sub f122 (by decide) (by decide) (by decide))).S (by decide))) (f123.S (by omega)) (by omega) pboZ (fun _ => ⟨tkz, ⟨e30z, pl5, by omega, e28z, e29z⟩, _, gz, nrl, (fun z1 z2 => absurd z2 (by have y := ntn (by omega); exact y)), (fun z => absurd z (by omega)), (fun z => absurd z (by omega))⟩) (fun q => absurd q (by decide)))
              · have vw3 := vw_fr (show Fr [30] [] [] (fArg (v91) (0) (1) (0) σ90) (sS 30 ((fArg (v91) (0) (1) (0) σ90).1 30 + 1) (fArg (v91) (0) (1) (0) σ90)) from Fr.rfl.S (by decide)) (by decide) (by decide) (by decide)
                have sam3 : SAM (fArg (v91) (0) (1) (0) σ90) (sS 30 ((fArg (v91) (0) (1) (0) σ90).1 30 + 1) (fArg (v91) (0) (1) (0) σ90)) := by unfold vw at vw3; exact ⟨congrArg Prod.fst vw3, congrArg (fun z => z.2.1) vw3, congrArg (fun z => z.2.2) vw3⟩
                have srz3 : srt (sS 30 ((fArg (v91) (0) (1) (0) σ90).1 30 + 1) (fArg (v91) (0) (1) (0) σ90)) = srt (reP (ρ.1 19) ((fArg (v91) (0) (1) (0) σ90).1 34) (fArg (v91) (0) (1) (0) σ90)) := by unfold reP; rw [if_neg (by omega)]
                have gz3 : ∀ x, GOS [30] (sS 34 x ρ) (qq 0) [] (sS 30 ((fArg (v91) (0) (1) (0) σ90).1 30 + 1) (fArg (v91) (0) (1) (0) σ90)) (qq 0) (lgb ++ [(0, (fArg (v91) (0) (1) (0) σ90).1 34, 0)]) := fun x => (gall x).trans (g34 (q := qq (ρ.1 19)) sam3 (EFF.rend srz3))
                have hq8 := hoh.2.2.2.2.2.2.2 (by omega) _ _ gz3
                have r6 : ρ.1 30 < 6 := hq8.1 (by rw [nrl]; decide)
                have hq9 := hq8.2
                clear hq8
                have i120 : (fArg (v91) (0) (1) (0) σ90).1 34 ≤ 120 := (hq9 (0, (fArg (v91) (0) (1) (0) σ90).1 34, 0) (List.mem_append_right _ (List.mem_singleton.mpr rfl))).1 rfl
                refine tm_aload_n dX12_oneRoutine_402 rfl 3 rfl ?_
                refine tm_get (k := 9) (v := .ref (b + 1 + 7)) lay_12 dX12_oneRoutine_403 (by decide) fl12_32 rfl ?_
                refine tm_aload_n dX12_oneRoutine_406 rfl 3 rfl ?_
                refine tm_getS (k := 30) (t := σ.1 30) dX12_oneRoutine_407 (by decide) fl12_268 rfl (rs_F f122 (by decide) (rs_F fArg_fr (by decide) (rs_F f92 (by decide) (rs_F f83 (by decide) (rs_o (by decide) (rs_o (by decide) (rs_o (by decide) (rs_F f5 (by decide) (rfl))))))))) ?_
                have g130 := RG.s hR 30
                refine tm_aload_n dX12_oneRoutine_410 rfl 3 rfl ?_
                refine tm_getS (k := 34) (t := σ90.1 34) dX12_oneRoutine_411 (by decide) fl12_278 rfl (rs_F f122 (by decide) (rs_F fArg_fr (by decide) (rfl))) ?_
                have g131 := RG.s f93 34
                refine tm_iast (z := σ.1 30) (v := σ90.1 34) dX12_oneRoutine_414 (show mT[7]? = some (9, 0, 13) from rfl) (by omega) (by omega) (by decide) ?_
                refine tm_aload_n dX12_oneRoutine_415 rfl 3 rfl ?_
                refine tm_dup dX12_oneRoutine_416 rfl ?_
                refine tm_getS (k := 30) (t := σ.1 30) dX12_oneRoutine_417 (by decide) fl12_268 rfl (rs_A (rs_F f122 (by decide) (rs_F fArg_fr (by decide) (rs_F f92 (by decide) (rs_F f83 (by decide) (rs_o (by decide) (rs_o (by decide) (rs_o (by decide) (rs_F f5 (by decide) (rfl)))))))))) ?_
                have g132 := RG.s hR 30
                refine tm_iconst dX12_oneRoutine_420 ?_
                refine tm_iadd dX12_oneRoutine_421 ?_
                refine tm_putS (k := 30) (v := (σ.1 30) + 1) lay_12 dX12_oneRoutine_422 (by decide) fl12_268 rfl (tyX12_ok 30 (by decide)) rfl rfl rfl ?_
                refine tm_iconst dX12_oneRoutine_425 ?_
                exact tm_zret (v := 1) rfl (by decide) dX12_oneRoutine_426 ((by exfalso; omega))
        · refine tm_iconst dX12_oneRoutine_350 ?_
          exact tm_zret (v := 0) rfl (by decide) dX12_oneRoutine_351 (hret _ _ ((Fr.sub hd.1 (by decide) (by decide) (by decide) : Fr [19, 20, 22, 23, 26, 27, 28, 29, 30, 31, 32, 33, 34, 39, 40, 43] [3, 4, 5, 6, 7, 8, 9, 35, 36, 37, 41, 42, 45] [24, 38, 44] ρ σ).trans (((((Fr.rfl.trans (Fr.sub f5 (by decide) (by decide) (by decide))).S (by decide)).S (by decide)).S (by decide)).trans (Fr.sub f83 (by decide) (by decide) (by decide)))) f84 (by omega) (pboA.pb e30A bp3 (by show (0 : Int) ≤ 0; decide) bp1 (by decide) (by decide) (by decide)) (fun q => absurd q (by omega)) (fun _ x => (g35_ x).fail ((bp5 (by omega) _).more [51, 34])))
    · refine tm_iconst dX12_oneRoutine_307 ?_
      exact tm_zret (v := 0) rfl (by decide) dX12_oneRoutine_308 (hret _ _ ((Fr.sub hd.1 (by decide) (by decide) (by decide) : Fr [19, 20, 22, 23, 26, 27, 28, 29, 30, 31, 32, 33, 34, 39, 40, 43] [3, 4, 5, 6, 7, 8, 9, 35, 36, 37, 41, 42, 45] [24, 38, 44] ρ σ).trans (Fr.rfl.trans (Fr.sub f5 (by decide) (by decide) (by decide)))) f6 (by omega) (hd.pbo.nd yn1 yn5) (fun q => absurd q (by omega)) (fun _ => (hgx.fail (fun x => gf_41 (σ := sS 34 x σ) (yn4 (by omega)) ((yn6 (by omega)).x x)))))
