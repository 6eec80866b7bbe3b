section
theorem dX12_meltOne_487 : decode cX12_meltOne 487 = .ok (.iload 14, 2) := by decide +kernel
theorem dX12_meltOne_489 : decode cX12_meltOne 489 = .ok (.bipush 12, 2) := by decide +kernel
theorem dX12_meltOne_491 : decode cX12_meltOne 491 = .ok (.if_icmp .ge 53, 3) := by decide +kernel
theorem dX12_meltOne_494 : decode cX12_meltOne 494 = .ok (.aload_n 0, 1) := by decide +kernel
theorem dX12_meltOne_495 : decode cX12_meltOne 495 = .ok (.getfield 56, 3) := by decide +kernel
theorem dX12_meltOne_498 : decode cX12_meltOne 498 = .ok (.sipush 144, 3) := by decide +kernel
theorem dX12_meltOne_501 : decode cX12_meltOne 501 = .ok (.iload_n 1, 1) := by decide +kernel
theorem dX12_meltOne_502 : decode cX12_meltOne 502 = .ok (.imul, 1) := by decide +kernel
theorem dX12_meltOne_503 : decode cX12_meltOne 503 = .ok (.bipush 12, 2) := by decide +kernel
theorem dX12_meltOne_505 : decode cX12_meltOne 505 = .ok (.iload 5, 2) := by decide +kernel
theorem dX12_meltOne_507 : decode cX12_meltOne 507 = .ok (.iload 11, 2) := by decide +kernel
theorem dX12_meltOne_509 : decode cX12_meltOne 509 = .ok (.iadd, 1) := by decide +kernel
theorem dX12_meltOne_510 : decode cX12_meltOne 510 = .ok (.imul, 1) := by decide +kernel
theorem dX12_meltOne_511 : decode cX12_meltOne 511 = .ok (.iadd, 1) := by decide +kernel
theorem dX12_meltOne_512 : decode cX12_meltOne 512 = .ok (.iload 14, 2) := by decide +kernel
theorem dX12_meltOne_514 : decode cX12_meltOne 514 = .ok (.iadd, 1) := by decide +kernel
theorem dX12_meltOne_515 : decode cX12_meltOne 515 = .ok (.aload_n 0, 1) := by decide +kernel
theorem dX12_meltOne_516 : decode cX12_meltOne 516 = .ok (.getfield 56, 3) := by decide +kernel
theorem dX12_meltOne_519 : decode cX12_meltOne 519 = .ok (.sipush 144, 3) := by decide +kernel
theorem dX12_meltOne_522 : decode cX12_meltOne 522 = .ok (.iload_n 3, 1) := by decide +kernel
theorem dX12_meltOne_523 : decode cX12_meltOne 523 = .ok (.imul, 1) := by decide +kernel
theorem dX12_meltOne_524 : decode cX12_meltOne 524 = .ok (.bipush 12, 2) := by decide +kernel
theorem dX12_meltOne_526 : decode cX12_meltOne 526 = .ok (.iload 11, 2) := by decide +kernel
theorem dX12_meltOne_528 : decode cX12_meltOne 528 = .ok (.imul, 1) := by decide +kernel
theorem dX12_meltOne_529 : decode cX12_meltOne 529 = .ok (.iadd, 1) := by decide +kernel
theorem dX12_meltOne_530 : decode cX12_meltOne 530 = .ok (.iload 14, 2) := by decide +kernel
theorem dX12_meltOne_532 : decode cX12_meltOne 532 = .ok (.iadd, 1) := by decide +kernel
theorem dX12_meltOne_533 : decode cX12_meltOne 533 = .ok (.iaload, 1) := by decide +kernel
theorem dX12_meltOne_534 : decode cX12_meltOne 534 = .ok (.iload 6, 2) := by decide +kernel
theorem dX12_meltOne_536 : decode cX12_meltOne 536 = .ok (.iadd, 1) := by decide +kernel
theorem dX12_meltOne_537 : decode cX12_meltOne 537 = .ok (.iastore, 1) := by decide +kernel
theorem dX12_meltOne_538 : decode cX12_meltOne 538 = .ok (.iinc 14 1, 3) := by decide +kernel
theorem dX12_meltOne_541 : decode cX12_meltOne 541 = .ok (.goto (-54), 3) := by decide +kernel
set_option maxHeartbeats 2000000 in
set_option maxRecDepth 20000 in
theorem l_mo6 (d : Nat) {b : Nat} {σ0 : MS} {r : Int} {k : Int} {q : Int} {f : Int} {base : Int} {lb : Int} {out : Int} {to : Int} {mk : Int} {j : Int} {post : Option Value → MS → Prop} (hR0 : RG σ0) (hx : (0 ≤ r ∧ r < 6) ∧ (0 ≤ q ∧ q < 6) ∧ q ≠ r ∧ 0 ≤ j ∧ 0 ≤ f ∧ f + j < 12) (hb : 0 ≤ base ∧ base ≤ 192) (hx_544 : ∀ (n1 : Int) (σ : MS) , (Fr [] [18] [] σ0 σ) → (RG σ) → (∀ n, 0 ≤ n → n < 12 → σ.2.1 18 (144 * r + 12 * (f + j) + n) = wr (σ0.2.1 18 (144 * q + 12 * j + n) + base)) → (∀ z, (z < 144 * r + 12 * (f + j) ∨ 144 * r + 12 * (f + j) + 12 ≤ z) → σ.2.1 18 z = σ0.2.1 18 z) → Tm (d + 1) m_X12_meltOne 544 b σ [(11, .int (iI j)), (10, .int (iI mk)), (9, .int (iI to)), (8, .int (iI out)), (7, .int (iI lb)), (6, .int (iI base)), (5, .int (iI f)), (4, .int (iI (220 * r + k))), (0, .ref b), (1, .int (iI r)), (2, .int (iI k)), (3, .int (iI q))] [] post) : ∀ (n : Nat) (n1 : Int) (σ : MS) , (Fr [] [18] [] σ0 σ) → (RG σ) → (0 ≤ n1 ∧ n1 ≤ 12) → (∀ n, 0 ≤ n → n < n1 → σ.2.1 18 (144 * r + 12 * (f + j) + n) = wr (σ0.2.1 18 (144 * q + 12 * j + n) + base)) → (∀ z, (z < 144 * r + 12 * (f + j) ∨ 144 * r + 12 * (f + j) + 12 ≤ z) → σ.2.1 18 z = σ0.2.1 18 z) → (12 - n1).toNat = n → Tm (d + 1) m_X12_meltOne 487 b σ [(14, .int (iI n1)), (11, .int (iI j)), (10, .int (iI mk)), (9, .int (iI to)), (8, .int (iI out)), (7, .int (iI lb)), (6, .int (iI base)), (5, .int (iI f)), (4, .int (iI (220 * r + k))), (0, .ref b), (1, .int (iI r)), (2, .int (iI k)), (3, .int (iI q))] [] post := by
  intro n
  induction n using Nat.strongRecOn with
  | _ n ih =>
    intro n1 σ hF hR h0 hn ho hm
    refine tm_iload dX12_meltOne_487 0 rfl ?_
    refine tm_bipush dX12_meltOne_489 (by decide) ?_
    refine tm_icmp_ge (tgt := 544) dX12_meltOne_491 (by decide) ⟨by omega, by omega⟩ ⟨by decide, by decide⟩ (fun h1 => ?_) (fun h1 => ?_)
    · exact tm_sub [1, 2, 3, 4, 5, 6, 7, 8, 9, 10, 11, 12] rfl (hx_544 (0) σ (Fr.rfl.trans (Fr.sub hF (by decide) (by decide) (by decide))) hR (fun n a c => hn n a (by omega)) ho)
    · have hz := ho (144 * q + 12 * j + n1) (by omega)
      refine tm_aload_n dX12_meltOne_494 rfl 9 rfl ?_
      refine tm_get (k := 18) (v := .ref (b + 1 + 15)) lay_12 dX12_meltOne_495 (by decide) fl12_56 rfl ?_
      refine tm_sipush dX12_meltOne_498 (by decide) ?_
      refine tm_iload_n dX12_meltOne_501 rfl 10 rfl ?_
      refine tm_imul dX12_meltOne_502 ?_
      refine tm_bipush dX12_meltOne_503 (by decide) ?_
      refine tm_iload dX12_meltOne_505 7 rfl ?_
      refine tm_iload dX12_meltOne_507 1 rfl ?_
      refine tm_iadd dX12_meltOne_509 ?_
      refine tm_imul dX12_meltOne_510 ?_
      refine tm_iadd dX12_meltOne_511 ?_
      refine tm_iload dX12_meltOne_512 0 rfl ?_
      refine tm_iadd dX12_meltOne_514 ?_
      refine tm_aload_n dX12_meltOne_515 rfl 9 rfl ?_
      refine tm_get (k := 18) (v := .ref (b + 1 + 15)) lay_12 dX12_meltOne_516 (by decide) fl12_56 rfl ?_
      refine tm_sipush dX12_meltOne_519 (by decide) ?_
      refine tm_iload_n dX12_meltOne_522 rfl 12 rfl ?_
      refine tm_imul dX12_meltOne_523 ?_
      refine tm_bipush dX12_meltOne_524 (by decide) ?_
      refine tm_iload dX12_meltOne_526 1 rfl ?_
      refine tm_imul dX12_meltOne_528 ?_
      refine tm_iadd dX12_meltOne_529 ?_
      refine tm_iload dX12_meltOne_530 0 rfl ?_
      refine tm_iadd dX12_meltOne_532 ?_
      refine tm_iald (z := ((144 * q) + (12 * j)) + n1) (v := σ.2.1 18 (((144 * q) + (12 * j)) + n1)) dX12_meltOne_533 (show mT[15]? = some (18, 0, 864) from rfl) (by omega) (by omega) (by decide) (rfl) ?_
      have g2 := RG.a hR 18 (((144 * q) + (12 * j)) + n1)
      refine tm_iload dX12_meltOne_534 6 rfl ?_
      refine tm_iadd dX12_meltOne_536 ?_
      rw [← wr_eq ((σ.2.1 18 (((144 * q) + (12 * j)) + n1)) + base)]
      have g3 := wr_rng ((σ.2.1 18 (((144 * q) + (12 * j)) + n1)) + base)
      refine tm_iast (z := ((144 * r) + (12 * (f + j))) + n1) (v := wr ((σ.2.1 18 (((144 * q) + (12 * j)) + n1)) + base)) dX12_meltOne_537 (show mT[15]? = some (18, 0, 864) from rfl) (by omega) (by omega) (by decide) ?_
      refine tm_iinc (q0 := 0) (L' := [(14, .int (iI (n1 + 1))), (11, .int (iI j)), (10, .int (iI mk)), (9, .int (iI to)), (8, .int (iI out)), (7, .int (iI lb)), (6, .int (iI base)), (5, .int (iI f)), (4, .int (iI (220 * r + k))), (0, .ref b), (1, .int (iI r)), (2, .int (iI k)), (3, .int (iI q))]) dX12_meltOne_538 rfl (by decide) rfl ?_
      refine tm_goto (tgt := 487) dX12_meltOne_541 (by decide) ?_
      exact tm_sub [0, 1, 2, 3, 4, 5, 6, 7, 8, 9, 10, 11, 12] rfl (ih _ (by omega) (n1 + 1) (sA 18 (((144 * r) + (12 * (f + j))) + n1) (wr ((σ.2.1 18 (((144 * q) + (12 * j)) + n1)) + base)) σ) ((Fr.rfl.trans (Fr.sub hF (by decide) (by decide) (by decide))).A (by decide)) (hR.A (by omega)) (by omega) (fun n a c => by
          by_cases e : n = n1
          · subst e; exact ra_eq.trans (by rw [hz])
          · exact ra_ne (by omega) (hn n a (by omega))) (fun z c => ra_ne (by omega) (ho z c)) rfl)
theorem dX12_meltOne_367 : decode cX12_meltOne 367 = .ok (.iload 11, 2) := by decide +kernel
theorem dX12_meltOne_369 : decode cX12_meltOne 369 = .ok (.aload_n 0, 1) := by decide +kernel
theorem dX12_meltOne_370 : decode cX12_meltOne 370 = .ok (.getfield 44, 3) := by decide +kernel
theorem dX12_meltOne_373 : decode cX12_meltOne 373 = .ok (.iload_n 3, 1) := by decide +kernel
theorem dX12_meltOne_374 : decode cX12_meltOne 374 = .ok (.iaload, 1) := by decide +kernel
theorem dX12_meltOne_375 : decode cX12_meltOne 375 = .ok (.if_icmp .ge 175, 3) := by decide +kernel
theorem dX12_meltOne_378 : decode cX12_meltOne 378 = .ok (.bipush 12, 2) := by decide +kernel
theorem dX12_meltOne_380 : decode cX12_meltOne 380 = .ok (.iload_n 1, 1) := by decide +kernel
theorem dX12_meltOne_381 : decode cX12_meltOne 381 = .ok (.imul, 1) := by decide +kernel
theorem dX12_meltOne_382 : decode cX12_meltOne 382 = .ok (.iload 5, 2) := by decide +kernel
theorem dX12_meltOne_384 : decode cX12_meltOne 384 = .ok (.iadd, 1) := by decide +kernel
theorem dX12_meltOne_385 : decode cX12_meltOne 385 = .ok (.iload 11, 2) := by decide +kernel
theorem dX12_meltOne_387 : decode cX12_meltOne 387 = .ok (.iadd, 1) := by decide +kernel
theorem dX12_meltOne_388 : decode cX12_meltOne 388 = .ok (.istore 12, 2) := by decide +kernel
theorem dX12_meltOne_390 : decode cX12_meltOne 390 = .ok (.bipush 12, 2) := by decide +kernel
theorem dX12_meltOne_392 : decode cX12_meltOne 392 = .ok (.iload_n 3, 1) := by decide +kernel
theorem dX12_meltOne_393 : decode cX12_meltOne 393 = .ok (.imul, 1) := by decide +kernel
theorem dX12_meltOne_394 : decode cX12_meltOne 394 = .ok (.iload 11, 2) := by decide +kernel
theorem dX12_meltOne_396 : decode cX12_meltOne 396 = .ok (.iadd, 1) := by decide +kernel
theorem dX12_meltOne_397 : decode cX12_meltOne 397 = .ok (.istore 13, 2) := by decide +kernel
theorem dX12_meltOne_399 : decode cX12_meltOne 399 = .ok (.aload_n 0, 1) := by decide +kernel
theorem dX12_meltOne_400 : decode cX12_meltOne 400 = .ok (.getfield 47, 3) := by decide +kernel
theorem dX12_meltOne_403 : decode cX12_meltOne 403 = .ok (.iload 12, 2) := by decide +kernel
theorem dX12_meltOne_405 : decode cX12_meltOne 405 = .ok (.aload_n 0, 1) := by decide +kernel
theorem dX12_meltOne_406 : decode cX12_meltOne 406 = .ok (.getfield 47, 3) := by decide +kernel
theorem dX12_meltOne_409 : decode cX12_meltOne 409 = .ok (.iload 13, 2) := by decide +kernel
theorem dX12_meltOne_411 : decode cX12_meltOne 411 = .ok (.iaload, 1) := by decide +kernel
theorem dX12_meltOne_412 : decode cX12_meltOne 412 = .ok (.iastore, 1) := by decide +kernel
theorem dX12_meltOne_413 : decode cX12_meltOne 413 = .ok (.aload_n 0, 1) := by decide +kernel
theorem dX12_meltOne_414 : decode cX12_meltOne 414 = .ok (.getfield 50, 3) := by decide +kernel
theorem dX12_meltOne_417 : decode cX12_meltOne 417 = .ok (.iload 12, 2) := by decide +kernel
theorem dX12_meltOne_419 : decode cX12_meltOne 419 = .ok (.iload 11, 2) := by decide +kernel
theorem dX12_meltOne_421 : decode cX12_meltOne 421 = .ok (.ifCond .ne 18, 3) := by decide +kernel
theorem dX12_meltOne_439 : decode cX12_meltOne 439 = .ok (.aload_n 0, 1) := by decide +kernel
theorem dX12_meltOne_440 : decode cX12_meltOne 440 = .ok (.getfield 50, 3) := by decide +kernel
theorem dX12_meltOne_443 : decode cX12_meltOne 443 = .ok (.iload 13, 2) := by decide +kernel
theorem dX12_meltOne_445 : decode cX12_meltOne 445 = .ok (.iaload, 1) := by decide +kernel
theorem dX12_meltOne_446 : decode cX12_meltOne 446 = .ok (.iload 5, 2) := by decide +kernel
theorem dX12_meltOne_448 : decode cX12_meltOne 448 = .ok (.iadd, 1) := by decide +kernel
theorem dX12_meltOne_449 : decode cX12_meltOne 449 = .ok (.iastore, 1) := by decide +kernel
theorem dX12_meltOne_450 : decode cX12_meltOne 450 = .ok (.aload_n 0, 1) := by decide +kernel
theorem dX12_meltOne_451 : decode cX12_meltOne 451 = .ok (.getfield 53, 3) := by decide +kernel
theorem dX12_meltOne_454 : decode cX12_meltOne 454 = .ok (.iload 12, 2) := by decide +kernel
theorem dX12_meltOne_456 : decode cX12_meltOne 456 = .ok (.iload 11, 2) := by decide +kernel
theorem dX12_meltOne_458 : decode cX12_meltOne 458 = .ok (.ifCond .ne 18, 3) := by decide +kernel
theorem dX12_meltOne_476 : decode cX12_meltOne 476 = .ok (.aload_n 0, 1) := by decide +kernel
theorem dX12_meltOne_477 : decode cX12_meltOne 477 = .ok (.getfield 53, 3) := by decide +kernel
theorem dX12_meltOne_480 : decode cX12_meltOne 480 = .ok (.iload 13, 2) := by decide +kernel
theorem dX12_meltOne_482 : decode cX12_meltOne 482 = .ok (.iaload, 1) := by decide +kernel
theorem dX12_meltOne_483 : decode cX12_meltOne 483 = .ok (.iastore, 1) := by decide +kernel
theorem dX12_meltOne_484 : decode cX12_meltOne 484 = .ok (.iconst 0, 1) := by decide +kernel
theorem dX12_meltOne_485 : decode cX12_meltOne 485 = .ok (.istore 14, 2) := by decide +kernel
theorem dX12_meltOne_544 : decode cX12_meltOne 544 = .ok (.iinc 11 1, 3) := by decide +kernel
theorem dX12_meltOne_547 : decode cX12_meltOne 547 = .ok (.goto (-180), 3) := by decide +kernel
theorem dX12_meltOne_424 : decode cX12_meltOne 424 = .ok (.aload_n 0, 1) := by decide +kernel
theorem dX12_meltOne_425 : decode cX12_meltOne 425 = .ok (.getfield 20, 3) := by decide +kernel
theorem dX12_meltOne_428 : decode cX12_meltOne 428 = .ok (.aload_n 0, 1) := by decide +kernel
theorem dX12_meltOne_429 : decode cX12_meltOne 429 = .ok (.iload_n 1, 1) := by decide +kernel
theorem dX12_meltOne_430 : decode cX12_meltOne 430 = .ok (.iload 10, 2) := by decide +kernel
theorem dX12_meltOne_432 : decode cX12_meltOne 432 = .ok (.invokevirtual 203, 3) := by decide +kernel
theorem dX12_meltOne_435 : decode cX12_meltOne 435 = .ok (.iaload, 1) := by decide +kernel
theorem dX12_meltOne_436 : decode cX12_meltOne 436 = .ok (.goto 13, 3) := by decide +kernel
theorem dX12_meltOne_461 : decode cX12_meltOne 461 = .ok (.aload_n 0, 1) := by decide +kernel
theorem dX12_meltOne_462 : decode cX12_meltOne 462 = .ok (.getfield 17, 3) := by decide +kernel
theorem dX12_meltOne_465 : decode cX12_meltOne 465 = .ok (.aload_n 0, 1) := by decide +kernel
theorem dX12_meltOne_466 : decode cX12_meltOne 466 = .ok (.iload_n 1, 1) := by decide +kernel
theorem dX12_meltOne_467 : decode cX12_meltOne 467 = .ok (.iload 10, 2) := by decide +kernel
theorem dX12_meltOne_469 : decode cX12_meltOne 469 = .ok (.invokevirtual 203, 3) := by decide +kernel
theorem dX12_meltOne_472 : decode cX12_meltOne 472 = .ok (.iaload, 1) := by decide +kernel
theorem dX12_meltOne_473 : decode cX12_meltOne 473 = .ok (.goto 10, 3) := by decide +kernel
set_option maxHeartbeats 2000000 in
set_option maxRecDepth 20000 in
theorem l_mo5 (d : Nat) {b : Nat} {σ0 : MS} {r : Int} {k : Int} {q : Int} {f : Int} {base : Int} {lb : Int} {out : Int} {to : Int} {ρ : MS} {FI : Int → Int} {lf : Int → Int} {frq : Int → Int} {lfq : Int → Int} {g0 : Int} {m : Int} {mk : Int} {post : Option Value → MS → Prop} (hmo : MOH ρ r k q f base lb out to g0 m FI lf frq lfq) (hR0 : RG σ0) (hρ : Fr [62] [3, 4, 5, 6, 7, 8] [] ρ σ0) (hmk : σ0.2.1 5 (220 * r + mk) = g0 ∧ 0 ≤ mk ∧ mk < 220) (hfq : FRI ρ q) (hx_550 : ∀ (j : Int) (σ : MS) , (Fr [] [15, 16, 17, 18] [] σ0 σ) → (RG σ) → (FRM ρ σ r q f g0 base (ρ.2.1 14 q)) → Tm (d + 2) m_X12_meltOne 550 b σ [(10, .int (iI mk)), (9, .int (iI to)), (8, .int (iI out)), (7, .int (iI lb)), (6, .int (iI base)), (5, .int (iI f)), (4, .int (iI (220 * r + k))), (0, .ref b), (1, .int (iI r)), (2, .int (iI k)), (3, .int (iI q))] [] post) : ∀ (n : Nat) (j : Int) (σ : MS) , (Fr [] [15, 16, 17, 18] [] σ0 σ) → (RG σ) → (0 ≤ j ∧ j ≤ ρ.2.1 14 q) → (FRM ρ σ r q f g0 base j) → (12 - j).toNat = n → Tm (d + 2) m_X12_meltOne 367 b σ [(11, .int (iI j)), (10, .int (iI mk)), (9, .int (iI to)), (8, .int (iI out)), (7, .int (iI lb)), (6, .int (iI base)), (5, .int (iI f)), (4, .int (iI (220 * r + k))), (0, .ref b), (1, .int (iI r)), (2, .int (iI k)), (3, .int (iI q))] [] post := by
  intro n
  induction n using Nat.strongRecOn with
  | _ n ih =>
    intro j σ hF hR h0 hfm hm
    have mn := hmo.n
    have e14 : σ0.2.1 14 q = ρ.2.1 14 q := by rw [hρ.2.1 14 (by decide)]
    refine tm_iload dX12_meltOne_367 0 rfl ?_
    refine tm_aload_n dX12_meltOne_369 rfl 8 rfl ?_
    refine tm_get (k := 14) (v := .ref (b + 1 + 11)) lay_12 dX12_meltOne_370 (by decide) fl12_44 rfl ?_
    refine tm_iload_n dX12_meltOne_373 rfl 11 rfl ?_
    refine tm_iald (z := q) (v := σ0.2.1 14 q) dX12_meltOne_374 (show mT[11]? = some (14, 0, 6) from rfl) (by omega) (by omega) (by decide) (ra_F hF (by decide) (rfl)) ?_
    have g1 := RG.a hR0 14 (q)
    refine tm_icmp_ge (tgt := 550) dX12_meltOne_375 (by decide) ⟨by omega, by omega⟩ ⟨by omega, by omega⟩ (fun h2 => ?_) (fun h2 => ?_)
    · exact tm_sub [1, 2, 3, 4, 5, 6, 7, 8, 9, 10, 11] rfl (hx_550 (0) σ (Fr.rfl.trans (Fr.sub hF (by decide) (by decide) (by decide))) hR (by rw [show ρ.2.1 14 q = j by omega]; exact hfm))
    · have e16 := hfm.2.1 (12 * q + j) (by omega)
      have hf1 := hfq.2 j
      refine tm_bipush dX12_meltOne_378 (by decide) ?_
      refine tm_iload_n dX12_meltOne_380 rfl 9 rfl ?_
      refine tm_imul dX12_meltOne_381 ?_
      refine tm_iload dX12_meltOne_382 6 rfl ?_
      refine tm_iadd dX12_meltOne_384 ?_
      refine tm_iload dX12_meltOne_385 0 rfl ?_
      refine tm_iadd dX12_meltOne_387 ?_
      refine tm_istore (L' := [(12, .int (iI (((12 * r) + f) + j))), (11, .int (iI j)), (10, .int (iI mk)), (9, .int (iI to)), (8, .int (iI out)), (7, .int (iI lb)), (6, .int (iI base)), (5, .int (iI f)), (4, .int (iI (220 * r + k))), (0, .ref b), (1, .int (iI r)), (2, .int (iI k)), (3, .int (iI q))]) dX12_meltOne_388 (by decide) rfl ?_
      refine tm_bipush dX12_meltOne_390 (by decide) ?_
      refine tm_iload_n dX12_meltOne_392 rfl 12 rfl ?_
      refine tm_imul dX12_meltOne_393 ?_
      refine tm_iload dX12_meltOne_394 1 rfl ?_
      refine tm_iadd dX12_meltOne_396 ?_
      refine tm_istore (L' := [(13, .int (iI ((12 * q) + j))), (12, .int (iI (((12 * r) + f) + j))), (11, .int (iI j)), (10, .int (iI mk)), (9, .int (iI to)), (8, .int (iI out)), (7, .int (iI lb)), (6, .int (iI base)), (5, .int (iI f)), (4, .int (iI (220 * r + k))), (0, .ref b), (1, .int (iI r)), (2, .int (iI k)), (3, .int (iI q))]) dX12_meltOne_397 (by decide) rfl ?_
      refine tm_aload_n dX12_meltOne_399 rfl 10 rfl ?_
      refine tm_get (k := 15) (v := .ref (b + 1 + 12)) lay_12 dX12_meltOne_400 (by decide) fl12_47 rfl ?_
      refine tm_iload dX12_meltOne_403 1 rfl ?_
      refine tm_aload_n dX12_meltOne_405 rfl 10 rfl ?_
      refine tm_get (k := 15) (v := .ref (b + 1 + 12)) lay_12 dX12_meltOne_406 (by decide) fl12_47 rfl ?_
      refine tm_iload dX12_meltOne_409 0 rfl ?_
      refine tm_iald (z := (12 * q) + j) (v := σ.2.1 15 ((12 * q) + j)) dX12_meltOne_411 (show mT[12]? = some (15, 0, 72) from rfl) (by omega) (by omega) (by decide) (rfl) ?_
      have g3 := RG.a hR 15 ((12 * q) + j)
      refine tm_iast (z := ((12 * r) + f) + j) (v := σ.2.1 15 ((12 * q) + j)) dX12_meltOne_412 (show mT[12]? = some (15, 0, 72) from rfl) (by omega) (by omega) (by decide) ?_
      refine tm_aload_n dX12_meltOne_413 rfl 10 rfl ?_
      refine tm_get (k := 16) (v := .ref (b + 1 + 13)) lay_12 dX12_meltOne_414 (by decide) fl12_50 rfl ?_
      refine tm_iload dX12_meltOne_417 1 rfl ?_
      refine tm_iload dX12_meltOne_419 2 rfl ?_
      refine tm_if_ne (tgt := 439) dX12_meltOne_421 (by decide) ⟨by omega, by omega⟩ (fun h4 => ?_) (fun h4 => ?_)
      · refine tm_aload_n dX12_meltOne_439 rfl 10 rfl ?_
        refine tm_get (k := 16) (v := .ref (b + 1 + 13)) lay_12 dX12_meltOne_440 (by decide) fl12_50 rfl ?_
        refine tm_iload dX12_meltOne_443 0 rfl ?_
        refine tm_iald (z := (12 * q) + j) (v := σ.2.1 16 ((12 * q) + j)) dX12_meltOne_445 (show mT[13]? = some (16, 0, 72) from rfl) (by omega) (by omega) (by decide) (ra_o (by decide) (rfl)) ?_
        have g5 := RG.a hR 16 ((12 * q) + j)
        refine tm_iload dX12_meltOne_446 8 rfl ?_
        refine tm_iadd dX12_meltOne_448 ?_
        refine tm_iast (z := ((12 * r) + f) + j) (v := (σ.2.1 16 ((12 * q) + j)) + f) dX12_meltOne_449 (show mT[13]? = some (16, 0, 72) from rfl) (by omega) (by omega) (by decide) ?_
        refine tm_aload_n dX12_meltOne_450 rfl 10 rfl ?_
        refine tm_get (k := 17) (v := .ref (b + 1 + 14)) lay_12 dX12_meltOne_451 (by decide) fl12_53 rfl ?_
        refine tm_iload dX12_meltOne_454 1 rfl ?_
        refine tm_iload dX12_meltOne_456 2 rfl ?_
        refine tm_if_ne (tgt := 476) dX12_meltOne_458 (by decide) ⟨by omega, by omega⟩ (fun h6 => ?_) (fun h6 => ?_)
        · refine tm_aload_n dX12_meltOne_476 rfl 10 rfl ?_
          refine tm_get (k := 17) (v := .ref (b + 1 + 14)) lay_12 dX12_meltOne_477 (by decide) fl12_53 rfl ?_
          refine tm_iload dX12_meltOne_480 0 rfl ?_
          refine tm_iald (z := (12 * q) + j) (v := σ.2.1 17 ((12 * q) + j)) dX12_meltOne_482 (show mT[14]? = some (17, 0, 72) from rfl) (by omega) (by omega) (by decide) (ra_o (by decide) (ra_o (by decide) (rfl))) ?_
          have g7 := RG.a hR 17 ((12 * q) + j)
          refine tm_iast (z := ((12 * r) + f) + j) (v := σ.2.1 17 ((12 * q) + j)) dX12_meltOne_483 (show mT[14]? = some (17, 0, 72) from rfl) (by omega) (by omega) (by decide) ?_
          refine tm_iconst dX12_meltOne_484 ?_
          refine tm_istore (L' := [(14, .int (iI 0)), (13, .int (iI ((12 * q) + j))), (12, .int (iI (((12 * r) + f) + j))), (11, .int (iI j)), (10, .int (iI mk)), (9, .int (iI to)), (8, .int (iI out)), (7, .int (iI lb)), (6, .int (iI base)), (5, .int (iI f)), (4, .int (iI (220 * r + k))), (0, .ref b), (1, .int (iI r)), (2, .int (iI k)), (3, .int (iI q))]) dX12_meltOne_485 (by decide) rfl ?_
          refine tm_sub [0, 3, 4, 5, 6, 7, 8, 9, 10, 11, 12, 13, 14] rfl (l_mo6 (d + 1) (σ0 := (sA 17 (((12 * r) + f) + j) (σ.2.1 17 ((12 * q) + j)) (sA 16 (((12 * r) + f) + j) ((σ.2.1 16 ((12 * q) + j)) + f) (sA 15 (((12 * r) + f) + j) (σ.2.1 15 ((12 * q) + j)) σ)))) (r := r) (k := k) (q := q) (f := f) (base := base) (lb := lb) (out := out) (to := to) (mk := mk) (j := j) (((hR.A (by omega)).A (by omega)).A (by omega)) (by omega) (by omega) (fun n114 σ15 F10 R11 f12 f13 => ?_) _ (0) (sA 17 (((12 * r) + f) + j) (σ.2.1 17 ((12 * q) + j)) (sA 16 (((12 * r) + f) + j) ((σ.2.1 16 ((12 * q) + j)) + f) (sA 15 (((12 * r) + f) + j) (σ.2.1 15 ((12 * q) + j)) σ))) Fr.rfl (((hR.A (by omega)).A (by omega)).A (by omega)) (by omega) (fun n a c => by omega) (fun z c => rfl) rfl)
          show Tm _ _ 544 b σ15 [(11, .int (iI j)), (10, .int (iI mk)), (9, .int (iI to)), (8, .int (iI out)), (7, .int (iI lb)), (6, .int (iI base)), (5, .int (iI f)), (4, .int (iI (220 * r + k))), (0, .ref b), (1, .int (iI r)), (2, .int (iI k)), (3, .int (iI q))] [] _
          refine tm_iinc (q0 := 0) (L' := [(11, .int (iI (j + 1))), (10, .int (iI mk)), (9, .int (iI to)), (8, .int (iI out)), (7, .int (iI lb)), (6, .int (iI base)), (5, .int (iI f)), (4, .int (iI (220 * r + k))), (0, .ref b), (1, .int (iI r)), (2, .int (iI k)), (3, .int (iI q))]) dX12_meltOne_544 rfl (by decide) rfl ?_
          refine tm_goto (tgt := 367) dX12_meltOne_547 (by decide) ?_
          exact tm_sub [0, 1, 2, 3, 4, 5, 6, 7, 8, 9, 10, 11] rfl (ih _ (by omega) (j + 1) σ15 (((((Fr.rfl.trans (Fr.sub hF (by decide) (by decide) (by decide))).A (by decide)).A (by decide)).A (by decide)).trans (Fr.sub F10 (by decide) (by decide) (by decide))) R11 (by omega) (hfm.go (by omega) (by omega) F10 (by omega) (fun e => by omega) (fun e => by omega) (fun n a c => by
          rw [f12 n a c, show (sA 17 (((12 * r) + f) + j) (σ.2.1 17 ((12 * q) + j)) (sA 16 (((12 * r) + f) + j) ((σ.2.1 16 ((12 * q) + j)) + f) (sA 15 (((12 * r) + f) + j) (σ.2.1 15 ((12 * q) + j)) σ))).2.1 18 (144 * q + 12 * j + n) = ρ.2.1 18 (144 * q + 12 * j + n) from hfm.2.2 _ (by omega)]) (fun z c => f13 z c)) rfl)
        · exact absurd h6 (by omega)
      · refine tm_aload_n dX12_meltOne_424 rfl 10 rfl ?_
        refine tm_get (k := 5) (v := .ref (b + 1 + 3)) lay_12 dX12_meltOne_425 (by decide) fl12_20 rfl ?_
        refine tm_aload_n dX12_meltOne_428 rfl 10 rfl ?_
        refine tm_iload_n dX12_meltOne_429 rfl 11 rfl ?_
        refine tm_iload dX12_meltOne_430 3 rfl ?_
        refine tm_callV (M := m_X12_meltOne) (pc := 432) (ix := 203) (M' := m_X12_at) (As := [.int (iI r), .int (iI mk)]) (rest := [.ref (b + 1 + 3), .int (iI (((12 * r) + f) + j)), .ref (b + 1 + 13)]) dX12_meltOne_432 ok_X12_at im_X12_at se_X12_at ml12_203 np_X12_at rfl rfl (Nat.le_of_ble_eq_true rfl) (Nat.le_of_ble_eq_true rfl) rfl (c_X12_at (d) (σ := (sA 15 (((12 * r) + f) + j) (σ.2.1 15 ((12 * q) + j)) σ)) (x := r) (k := mk) ) (fun r16 σ17 hp => ?_)
        obtain ⟨v18, rfl, rfl, f19⟩ := hp
        subst f19
        show Tm _ _ 435 b (sA 15 (((12 * r) + f) + j) (σ.2.1 15 ((12 * q) + j)) σ) [(13, .int (iI ((12 * q) + j))), (12, .int (iI (((12 * r) + f) + j))), (11, .int (iI j)), (10, .int (iI mk)), (9, .int (iI to)), (8, .int (iI out)), (7, .int (iI lb)), (6, .int (iI base)), (5, .int (iI f)), (4, .int (iI (220 * r + k))), (0, .ref b), (1, .int (iI r)), (2, .int (iI k)), (3, .int (iI q))] [.int (iI (220 * r + mk)), .ref (b + 1 + 3), .int (iI (((12 * r) + f) + j)), .ref (b + 1 + 13)] _
        refine tm_iald (z := 220 * r + mk) (v := σ0.2.1 5 (220 * r + mk)) dX12_meltOne_435 (show mT[3]? = some (5, 0, 2860) from rfl) (by omega) (by omega) (by decide) (ra_o (by decide) (ra_F hF (by decide) (rfl))) ?_
        have g20 := RG.a hR0 5 (220 * r + mk)
        refine tm_goto (tgt := 449) dX12_meltOne_436 (by decide) ?_
        refine tm_iast (z := ((12 * r) + f) + j) (v := σ0.2.1 5 (220 * r + mk)) dX12_meltOne_449 (show mT[13]? = some (16, 0, 72) from rfl) (by omega) (by omega) (by decide) ?_
        refine tm_aload_n dX12_meltOne_450 rfl 10 rfl ?_
        refine tm_get (k := 17) (v := .ref (b + 1 + 14)) lay_12 dX12_meltOne_451 (by decide) fl12_53 rfl ?_
        refine tm_iload dX12_meltOne_454 1 rfl ?_
        refine tm_iload dX12_meltOne_456 2 rfl ?_
        refine tm_if_ne (tgt := 476) dX12_meltOne_458 (by decide) ⟨by omega, by omega⟩ (fun h21 => ?_) (fun h21 => ?_)
        · exact absurd h21 (by omega)
        · refine tm_aload_n dX12_meltOne_461 rfl 10 rfl ?_
          refine tm_get (k := 4) (v := .ref (b + 1 + 2)) lay_12 dX12_meltOne_462 (by decide) fl12_17 rfl ?_
          refine tm_aload_n dX12_meltOne_465 rfl 10 rfl ?_
          refine tm_iload_n dX12_meltOne_466 rfl 11 rfl ?_
          refine tm_iload dX12_meltOne_467 3 rfl ?_
          refine tm_callV (M := m_X12_meltOne) (pc := 469) (ix := 203) (M' := m_X12_at) (As := [.int (iI r), .int (iI mk)]) (rest := [.ref (b + 1 + 2), .int (iI (((12 * r) + f) + j)), .ref (b + 1 + 14)]) dX12_meltOne_469 ok_X12_at im_X12_at se_X12_at ml12_203 np_X12_at rfl rfl (Nat.le_of_ble_eq_true rfl) (Nat.le_of_ble_eq_true rfl) rfl (c_X12_at (d) (σ := (sA 16 (((12 * r) + f) + j) (σ0.2.1 5 (220 * r + mk)) (sA 15 (((12 * r) + f) + j) (σ.2.1 15 ((12 * q) + j)) σ))) (x := r) (k := mk) ) (fun r22 σ23 hp => ?_)
          obtain ⟨v24, rfl, rfl, f25⟩ := hp
          subst f25
          show Tm _ _ 472 b (sA 16 (((12 * r) + f) + j) (σ0.2.1 5 (220 * r + mk)) (sA 15 (((12 * r) + f) + j) (σ.2.1 15 ((12 * q) + j)) σ)) [(13, .int (iI ((12 * q) + j))), (12, .int (iI (((12 * r) + f) + j))), (11, .int (iI j)), (10, .int (iI mk)), (9, .int (iI to)), (8, .int (iI out)), (7, .int (iI lb)), (6, .int (iI base)), (5, .int (iI f)), (4, .int (iI (220 * r + k))), (0, .ref b), (1, .int (iI r)), (2, .int (iI k)), (3, .int (iI q))] [.int (iI (220 * r + mk)), .ref (b + 1 + 2), .int (iI (((12 * r) + f) + j)), .ref (b + 1 + 14)] _
          refine tm_iald (z := 220 * r + mk) (v := σ0.2.1 4 (220 * r + mk)) dX12_meltOne_472 (show mT[2]? = some (4, 0, 2860) from rfl) (by omega) (by omega) (by decide) (ra_o (by decide) (ra_o (by decide) (ra_F hF (by decide) (rfl)))) ?_
          have g26 := RG.a hR0 4 (220 * r + mk)
          refine tm_goto (tgt := 483) dX12_meltOne_473 (by decide) ?_
          refine tm_iast (z := ((12 * r) + f) + j) (v := σ0.2.1 4 (220 * r + mk)) dX12_meltOne_483 (show mT[14]? = some (17, 0, 72) from rfl) (by omega) (by omega) (by decide) ?_
          refine tm_iconst dX12_meltOne_484 ?_
          refine tm_istore (L' := [(14, .int (iI 0)), (13, .int (iI ((12 * q) + j))), (12, .int (iI (((12 * r) + f) + j))), (11, .int (iI j)), (10, .int (iI mk)), (9, .int (iI to)), (8, .int (iI out)), (7, .int (iI lb)), (6, .int (iI base)), (5, .int (iI f)), (4, .int (iI (220 * r + k))), (0, .ref b), (1, .int (iI r)), (2, .int (iI k)), (3, .int (iI q))]) dX12_meltOne_485 (by decide) rfl ?_
          refine tm_sub [0, 3, 4, 5, 6, 7, 8, 9, 10, 11, 12, 13, 14] rfl (l_mo6 (d + 1) (σ0 := (sA 17 (((12 * r) + f) + j) (σ0.2.1 4 (220 * r + mk)) (sA 16 (((12 * r) + f) + j) (σ0.2.1 5 (220 * r + mk)) (sA 15 (((12 * r) + f) + j) (σ.2.1 15 ((12 * q) + j)) σ)))) (r := r) (k := k) (q := q) (f := f) (base := base) (lb := lb) (out := out) (to := to) (mk := mk) (j := j) (((hR.A (by omega)).A (by omega)).A (by omega)) (by omega) (by omega) (fun n133 σ34 F29 R30 f31 f32 => ?_) _ (0) (sA 17 (((12 * r) + f) + j) (σ0.2.1 4 (220 * r + mk)) (sA 16 (((12 * r) + f) + j) (σ0.2.1 5 (220 * r + mk)) (sA 15 (((12 * r) + f) + j) (σ.2.1 15 ((12 * q) + j)) σ))) Fr.rfl (((hR.A (by omega)).A (by omega)).A (by omega)) (by omega) (fun n a c => by omega) (fun z c => rfl) rfl)
          show Tm _ _ 544 b σ34 [(11, .int (iI j)), (10, .int (iI mk)), (9, .int (iI to)), (8, .int (iI out)), (7, .int (iI lb)), (6, .int (iI base)), (5, .int (iI f)), (4, .int (iI (220 * r + k))), (0, .ref b), (1, .int (iI r)), (2, .int (iI k)), (3, .int (iI q))] [] _
          refine tm_iinc (q0 := 0) (L' := [(11, .int (iI (j + 1))), (10, .int (iI mk)), (9, .int (iI to)), (8, .int (iI out)), (7, .int (iI lb)), (6, .int (iI base)), (5, .int (iI f)), (4, .int (iI (220 * r + k))), (0, .ref b), (1, .int (iI r)), (2, .int (iI k)), (3, .int (iI q))]) dX12_meltOne_544 rfl (by decide) rfl ?_
          refine tm_goto (tgt := 367) dX12_meltOne_547 (by decide) ?_
          exact tm_sub [0, 1, 2, 3, 4, 5, 6, 7, 8, 9, 10, 11] rfl (ih _ (by omega) (j + 1) σ34 (((((Fr.rfl.trans (Fr.sub hF (by decide) (by decide) (by decide))).A (by decide)).A (by decide)).A (by decide)).trans (Fr.sub F29 (by decide) (by decide) (by decide))) R30 (by omega) (hfm.go (by omega) (by omega) F29 (by omega) (fun e => by omega) (fun e => by omega) (fun n a c => by
          rw [f31 n a c, show (sA 17 (((12 * r) + f) + j) (σ0.2.1 4 (220 * r + mk)) (sA 16 (((12 * r) + f) + j) (σ0.2.1 5 (220 * r + mk)) (sA 15 (((12 * r) + f) + j) (σ.2.1 15 ((12 * q) + j)) σ))).2.1 18 (144 * q + 12 * j + n) = ρ.2.1 18 (144 * q + 12 * j + n) from hfm.2.2 _ (by omega)]) (fun z c => f32 z c)) rfl)
theorem dX12_meltOne_575 : decode cX12_meltOne 575 = .ok (.iload 11, 2) := by decide +kernel
theorem dX12_meltOne_577 : decode cX12_meltOne 577 = .ok (.iload_n 2, 1) := by decide +kernel
theorem dX12_meltOne_578 : decode cX12_meltOne 578 = .ok (.if_icmp .le 34, 3) := by decide +kernel
theorem dX12_meltOne_581 : decode cX12_meltOne 581 = .ok (.aload_n 0, 1) := by decide +kernel
theorem dX12_meltOne_582 : decode cX12_meltOne 582 = .ok (.aload_n 0, 1) := by decide +kernel
theorem dX12_meltOne_583 : decode cX12_meltOne 583 = .ok (.iload_n 1, 1) := by decide +kernel
theorem dX12_meltOne_584 : decode cX12_meltOne 584 = .ok (.iload 11, 2) := by decide +kernel
theorem dX12_meltOne_586 : decode cX12_meltOne 586 = .ok (.invokevirtual 203, 3) := by decide +kernel
theorem dX12_meltOne_589 : decode cX12_meltOne 589 = .ok (.aload_n 0, 1) := by decide +kernel
theorem dX12_meltOne_590 : decode cX12_meltOne 590 = .ok (.iload_n 1, 1) := by decide +kernel
theorem dX12_meltOne_591 : decode cX12_meltOne 591 = .ok (.iload 11, 2) := by decide +kernel
theorem dX12_meltOne_593 : decode cX12_meltOne 593 = .ok (.aload_n 0, 1) := by decide +kernel
theorem dX12_meltOne_594 : decode cX12_meltOne 594 = .ok (.getfield 509, 3) := by decide +kernel
theorem dX12_meltOne_597 : decode cX12_meltOne 597 = .ok (.iadd, 1) := by decide +kernel
theorem dX12_meltOne_598 : decode cX12_meltOne 598 = .ok (.iconst 1, 1) := by decide +kernel
theorem dX12_meltOne_599 : decode cX12_meltOne 599 = .ok (.isub, 1) := by decide +kernel
theorem dX12_meltOne_600 : decode cX12_meltOne 600 = .ok (.invokevirtual 203, 3) := by decide +kernel
theorem dX12_meltOne_603 : decode cX12_meltOne 603 = .ok (.invokevirtual 394, 3) := by decide +kernel
theorem dX12_meltOne_606 : decode cX12_meltOne 606 = .ok (.iinc 11 (-1), 3) := by decide +kernel
theorem dX12_meltOne_609 : decode cX12_meltOne 609 = .ok (.goto (-34), 3) := by decide +kernel
set_option maxHeartbeats 2000000 in
set_option maxRecDepth 20000 in
theorem l_mo7 (d : Nat) {b : Nat} {σ0 : MS} {r : Int} {k : Int} {q : Int} {f : Int} {base : Int} {lb : Int} {out : Int} {to : Int} {mk : Int} {a : Int} {nn : Int} {post : Option Value → MS → Prop} (hR0 : RG σ0) (hr : 0 ≤ r ∧ r < 6) (ha : σ0.1 62 = a ∧ 1 ≤ a ∧ 0 ≤ k ∧ nn + (a - 1) ≤ 220) (hx_612 : ∀ (i : Int) (σ : MS) , (Fr [] [3, 4, 5, 6, 7, 8] [] σ0 σ) → (RG σ) → (SHU σ0 σ r nn a k) → Tm (d + 2) m_X12_meltOne 612 b σ [(10, .int (iI mk)), (9, .int (iI to)), (8, .int (iI out)), (7, .int (iI lb)), (6, .int (iI base)), (5, .int (iI f)), (4, .int (iI (220 * r + k))), (0, .ref b), (1, .int (iI r)), (2, .int (iI k)), (3, .int (iI q))] [] post) : ∀ (n : Nat) (i : Int) (σ : MS) , (Fr [] [3, 4, 5, 6, 7, 8] [] σ0 σ) → (RG σ) → (k ≤ i ∧ i < nn) → (SHU σ0 σ r nn a i) → (i - k).toNat = n → Tm (d + 2) m_X12_meltOne 575 b σ [(11, .int (iI i)), (10, .int (iI mk)), (9, .int (iI to)), (8, .int (iI out)), (7, .int (iI lb)), (6, .int (iI base)), (5, .int (iI f)), (4, .int (iI (220 * r + k))), (0, .ref b), (1, .int (iI r)), (2, .int (iI k)), (3, .int (iI q))] [] post := by
  intro n
  induction n using Nat.strongRecOn with
  | _ n ih =>
    intro i σ hF hR h0 hsu hm
    refine tm_iload dX12_meltOne_575 0 rfl ?_
    refine tm_iload_n dX12_meltOne_577 rfl 10 rfl ?_
    refine tm_icmp_le (tgt := 612) dX12_meltOne_578 (by decide) ⟨by omega, by omega⟩ ⟨by omega, by omega⟩ (fun h1 => ?_) (fun h1 => ?_)
    · exact tm_sub [1, 2, 3, 4, 5, 6, 7, 8, 9, 10, 11] rfl (hx_612 (0) σ (Fr.rfl.trans (Fr.sub hF (by decide) (by decide) (by decide))) hR (by rw [show k = i by omega]; exact hsu))
    · refine tm_aload_n dX12_meltOne_581 rfl 8 rfl ?_
      refine tm_aload_n dX12_meltOne_582 rfl 8 rfl ?_
      refine tm_iload_n dX12_meltOne_583 rfl 9 rfl ?_
      refine tm_iload dX12_meltOne_584 0 rfl ?_
      refine tm_callV (M := m_X12_meltOne) (pc := 586) (ix := 203) (M' := m_X12_at) (As := [.int (iI r), .int (iI i)]) (rest := [.ref b]) dX12_meltOne_586 ok_X12_at im_X12_at se_X12_at ml12_203 np_X12_at rfl rfl (Nat.le_of_ble_eq_true rfl) (Nat.le_of_ble_eq_true rfl) rfl (c_X12_at (d) (σ := σ) (x := r) (k := i) ) (fun r2 σ3 hp => ?_)
      obtain ⟨v4, rfl, rfl, f5⟩ := hp
      subst f5
      show Tm _ _ 589 b σ [(11, .int (iI i)), (10, .int (iI mk)), (9, .int (iI to)), (8, .int (iI out)), (7, .int (iI lb)), (6, .int (iI base)), (5, .int (iI f)), (4, .int (iI (220 * r + k))), (0, .ref b), (1, .int (iI r)), (2, .int (iI k)), (3, .int (iI q))] [.int (iI (220 * r + i)), .ref b] _
      refine tm_aload_n dX12_meltOne_589 rfl 8 rfl ?_
      refine tm_iload_n dX12_meltOne_590 rfl 9 rfl ?_
      refine tm_iload dX12_meltOne_591 0 rfl ?_
      refine tm_aload_n dX12_meltOne_593 rfl 8 rfl ?_
      refine tm_getS (k := 62) (t := σ0.1 62) dX12_meltOne_594 (by decide) fl12_509 rfl (rs_F hF (by decide) (rfl)) ?_
      have g6 := RG.s hR0 62
      refine tm_iadd dX12_meltOne_597 ?_
      refine tm_iconst dX12_meltOne_598 ?_
      refine tm_isub dX12_meltOne_599 ?_
      refine tm_callV (M := m_X12_meltOne) (pc := 600) (ix := 203) (M' := m_X12_at) (As := [.int (iI r), .int (iI ((i + (σ0.1 62)) - 1))]) (rest := [.int (iI (220 * r + i)), .ref b]) dX12_meltOne_600 ok_X12_at im_X12_at se_X12_at ml12_203 np_X12_at rfl rfl (Nat.le_of_ble_eq_true rfl) (Nat.le_of_ble_eq_true rfl) rfl (c_X12_at (d) (σ := σ) (x := r) (k := (i + (σ0.1 62)) - 1) ) (fun r7 σ8 hp => ?_)
      obtain ⟨v9, rfl, rfl, f10⟩ := hp
      subst f10
      show Tm _ _ 603 b σ [(11, .int (iI i)), (10, .int (iI mk)), (9, .int (iI to)), (8, .int (iI out)), (7, .int (iI lb)), (6, .int (iI base)), (5, .int (iI f)), (4, .int (iI (220 * r + k))), (0, .ref b), (1, .int (iI r)), (2, .int (iI k)), (3, .int (iI q))] [.int (iI (220 * r + ((i + (σ0.1 62)) - 1))), .int (iI (220 * r + i)), .ref b] _
      refine tm_callV (M := m_X12_meltOne) (pc := 603) (ix := 394) (M' := m_X12_copyItem) (As := [.int (iI (220 * r + i)), .int (iI (220 * r + ((i + (σ0.1 62)) - 1)))]) (rest := []) dX12_meltOne_603 ok_X12_copyItem im_X12_copyItem se_X12_copyItem ml12_394 np_X12_copyItem rfl rfl (Nat.le_of_ble_eq_true rfl) (Nat.le_of_ble_eq_true rfl) rfl (c_X12_copyItem (d) (σ := σ) (f := 220 * r + i) (t := 220 * r + ((i + (σ0.1 62)) - 1)) (by omega) (by omega)) (fun r11 σ12 hp => ?_)
      obtain ⟨rfl, f14⟩ := hp
      subst f14
      show Tm _ _ 606 b (fCopy (220 * r + i) (220 * r + ((i + (σ0.1 62)) - 1)) σ) [(11, .int (iI i)), (10, .int (iI mk)), (9, .int (iI to)), (8, .int (iI out)), (7, .int (iI lb)), (6, .int (iI base)), (5, .int (iI f)), (4, .int (iI (220 * r + k))), (0, .ref b), (1, .int (iI r)), (2, .int (iI k)), (3, .int (iI q))] [] _
      refine tm_iinc (q0 := 0) (L' := [(11, .int (iI (i + (-1)))), (10, .int (iI mk)), (9, .int (iI to)), (8, .int (iI out)), (7, .int (iI lb)), (6, .int (iI base)), (5, .int (iI f)), (4, .int (iI (220 * r + k))), (0, .ref b), (1, .int (iI r)), (2, .int (iI k)), (3, .int (iI q))]) dX12_meltOne_606 rfl (by decide) rfl ?_
      refine tm_goto (tgt := 575) dX12_meltOne_609 (by decide) ?_
      exact tm_sub [0, 1, 2, 3, 4, 5, 6, 7, 8, 9, 10, 11] rfl (ih _ (by omega) (i + (-1)) (fCopy (220 * r + i) (220 * r + ((i + (σ0.1 62)) - 1)) σ) ((Fr.rfl.trans (Fr.sub hF (by decide) (by decide) (by decide))).trans (Fr.sub fCopy_fr (by decide) (by decide) (by decide))) (hR.copy) (by omega) (by
          have h := hsu.go hr (by omega)
          rw [show i + (a - 1) = i + σ0.1 62 - 1 by omega] at h
          exact h) rfl)
theorem dX12_meltOne_615 : decode cX12_meltOne 615 = .ok (.iload 11, 2) := by decide +kernel
theorem dX12_meltOne_617 : decode cX12_meltOne 617 = .ok (.aload_n 0, 1) := by decide +kernel
theorem dX12_meltOne_618 : decode cX12_meltOne 618 = .ok (.getfield 509, 3) := by decide +kernel
theorem dX12_meltOne_621 : decode cX12_meltOne 621 = .ok (.if_icmp .ge 28, 3) := by decide +kernel
theorem dX12_meltOne_624 : decode cX12_meltOne 624 = .ok (.aload_n 0, 1) := by decide +kernel
theorem dX12_meltOne_625 : decode cX12_meltOne 625 = .ok (.sipush 2640, 3) := by decide +kernel
theorem dX12_meltOne_628 : decode cX12_meltOne 628 = .ok (.iload 11, 2) := by decide +kernel
theorem dX12_meltOne_630 : decode cX12_meltOne 630 = .ok (.iadd, 1) := by decide +kernel
theorem dX12_meltOne_631 : decode cX12_meltOne 631 = .ok (.aload_n 0, 1) := by decide +kernel
theorem dX12_meltOne_632 : decode cX12_meltOne 632 = .ok (.iload_n 1, 1) := by decide +kernel
theorem dX12_meltOne_633 : decode cX12_meltOne 633 = .ok (.iload_n 2, 1) := by decide +kernel
theorem dX12_meltOne_634 : decode cX12_meltOne 634 = .ok (.iload 11, 2) := by decide +kernel
theorem dX12_meltOne_636 : decode cX12_meltOne 636 = .ok (.iadd, 1) := by decide +kernel
theorem dX12_meltOne_637 : decode cX12_meltOne 637 = .ok (.invokevirtual 203, 3) := by decide +kernel
theorem dX12_meltOne_640 : decode cX12_meltOne 640 = .ok (.invokevirtual 394, 3) := by decide +kernel
theorem dX12_meltOne_643 : decode cX12_meltOne 643 = .ok (.iinc 11 1, 3) := by decide +kernel
theorem dX12_meltOne_646 : decode cX12_meltOne 646 = .ok (.goto (-31), 3) := by decide +kernel
set_option maxHeartbeats 2000000 in
set_option maxRecDepth 20000 in
theorem l_mo8 (d : Nat) {b : Nat} {σ0 : MS} {r : Int} {k : Int} {q : Int} {f : Int} {base : Int} {lb : Int} {out : Int} {to : Int} {mk : Int} {a : Int} {post : Option Value → MS → Prop} (hR0 : RG σ0) (hr : 0 ≤ r ∧ r < 6) (ha : σ0.1 62 = a ∧ 1 ≤ a ∧ 0 ≤ k ∧ k + a ≤ 220) (hx_649 : ∀ (i : Int) (σ : MS) , (Fr [] [3, 4, 5, 6, 7, 8] [] σ0 σ) → (RG σ) → (CPI σ0 σ r k a a) → Tm (d + 2) m_X12_meltOne 649 b σ [(10, .int (iI mk)), (9, .int (iI to)), (8, .int (iI out)), (7, .int (iI lb)), (6, .int (iI base)), (5, .int (iI f)), (4, .int (iI (220 * r + k))), (0, .ref b), (1, .int (iI r)), (2, .int (iI k)), (3, .int (iI q))] [] post) : ∀ (n : Nat) (i : Int) (σ : MS) , (Fr [] [3, 4, 5, 6, 7, 8] [] σ0 σ) → (RG σ) → (0 ≤ i ∧ i ≤ a) → (CPI σ0 σ r k a i) → (a - i).toNat = n → Tm (d + 2) m_X12_meltOne 615 b σ [(11, .int (iI i)), (10, .int (iI mk)), (9, .int (iI to)), (8, .int (iI out)), (7, .int (iI lb)), (6, .int (iI base)), (5, .int (iI f)), (4, .int (iI (220 * r + k))), (0, .ref b), (1, .int (iI r)), (2, .int (iI k)), (3, .int (iI q))] [] post := by
  intro n
  induction n using Nat.strongRecOn with
  | _ n ih =>
    intro i σ hF hR h0 hcp hm
    refine tm_iload dX12_meltOne_615 0 rfl ?_
    refine tm_aload_n dX12_meltOne_617 rfl 8 rfl ?_
    refine tm_getS (k := 62) (t := σ0.1 62) dX12_meltOne_618 (by decide) fl12_509 rfl (rs_F hF (by decide) (rfl)) ?_
    have g1 := RG.s hR0 62
    refine tm_icmp_ge (tgt := 649) dX12_meltOne_621 (by decide) ⟨by omega, by omega⟩ ⟨by omega, by omega⟩ (fun h2 => ?_) (fun h2 => ?_)
    · exact tm_sub [1, 2, 3, 4, 5, 6, 7, 8, 9, 10, 11] rfl (hx_649 (0) σ (Fr.rfl.trans (Fr.sub hF (by decide) (by decide) (by decide))) hR (by rw [show i = a by omega] at hcp; exact hcp))
    · refine tm_aload_n dX12_meltOne_624 rfl 8 rfl ?_
      refine tm_sipush dX12_meltOne_625 (by decide) ?_
      refine tm_iload dX12_meltOne_628 0 rfl ?_
      refine tm_iadd dX12_meltOne_630 ?_
      refine tm_aload_n dX12_meltOne_631 rfl 8 rfl ?_
      refine tm_iload_n dX12_meltOne_632 rfl 9 rfl ?_
      refine tm_iload_n dX12_meltOne_633 rfl 10 rfl ?_
      refine tm_iload dX12_meltOne_634 0 rfl ?_
      refine tm_iadd dX12_meltOne_636 ?_
      refine tm_callV (M := m_X12_meltOne) (pc := 637) (ix := 203) (M' := m_X12_at) (As := [.int (iI r), .int (iI (k + i))]) (rest := [.int (iI (2640 + i)), .ref b]) dX12_meltOne_637 ok_X12_at im_X12_at se_X12_at ml12_203 np_X12_at rfl rfl (Nat.le_of_ble_eq_true rfl) (Nat.le_of_ble_eq_true rfl) rfl (c_X12_at (d) (σ := σ) (x := r) (k := k + i) ) (fun r3 σ4 hp => ?_)
      obtain ⟨v5, rfl, rfl, f6⟩ := hp
      subst f6
      show Tm _ _ 640 b σ [(11, .int (iI i)), (10, .int (iI mk)), (9, .int (iI to)), (8, .int (iI out)), (7, .int (iI lb)), (6, .int (iI base)), (5, .int (iI f)), (4, .int (iI (220 * r + k))), (0, .ref b), (1, .int (iI r)), (2, .int (iI k)), (3, .int (iI q))] [.int (iI (220 * r + (k + i))), .int (iI (2640 + i)), .ref b] _
      refine tm_callV (M := m_X12_meltOne) (pc := 640) (ix := 394) (M' := m_X12_copyItem) (As := [.int (iI (2640 + i)), .int (iI (220 * r + (k + i)))]) (rest := []) dX12_meltOne_640 ok_X12_copyItem im_X12_copyItem se_X12_copyItem ml12_394 np_X12_copyItem rfl rfl (Nat.le_of_ble_eq_true rfl) (Nat.le_of_ble_eq_true rfl) rfl (c_X12_copyItem (d) (σ := σ) (f := 2640 + i) (t := 220 * r + (k + i)) (by omega) (by omega)) (fun r7 σ8 hp => ?_)
      obtain ⟨rfl, f10⟩ := hp
      subst f10
      show Tm _ _ 643 b (fCopy (2640 + i) (220 * r + (k + i)) σ) [(11, .int (iI i)), (10, .int (iI mk)), (9, .int (iI to)), (8, .int (iI out)), (7, .int (iI lb)), (6, .int (iI base)), (5, .int (iI f)), (4, .int (iI (220 * r + k))), (0, .ref b), (1, .int (iI r)), (2, .int (iI k)), (3, .int (iI q))] [] _
      refine tm_iinc (q0 := 0) (L' := [(11, .int (iI (i + 1))), (10, .int (iI mk)), (9, .int (iI to)), (8, .int (iI out)), (7, .int (iI lb)), (6, .int (iI base)), (5, .int (iI f)), (4, .int (iI (220 * r + k))), (0, .ref b), (1, .int (iI r)), (2, .int (iI k)), (3, .int (iI q))]) dX12_meltOne_643 rfl (by decide) rfl ?_
      refine tm_goto (tgt := 615) dX12_meltOne_646 (by decide) ?_
      exact tm_sub [0, 1, 2, 3, 4, 5, 6, 7, 8, 9, 10, 11] rfl (ih _ (by omega) (i + 1) (fCopy (2640 + i) (220 * r + (k + i)) σ) ((Fr.rfl.trans (Fr.sub hF (by decide) (by decide) (by decide))).trans (Fr.sub fCopy_fr (by decide) (by decide) (by decide))) (hR.copy) (by omega) (hcp.go hr (by omega)) rfl)
end
section
theorem ml12_512 : Cond.methodLink RX12 512 yX12_labels ∈ pWW := pw9 (List.mem_of_getElem? (i := 197) rfl) rfl
theorem dX12_meltOne_0 : decode cX12_meltOne 0 = .ok (.aload_n 0, 1) := by decide +kernel
theorem dX12_meltOne_1 : decode cX12_meltOne 1 = .ok (.iload_n 1, 1) := by decide +kernel
theorem dX12_meltOne_2 : decode cX12_meltOne 2 = .ok (.iload_n 2, 1) := by decide +kernel
theorem dX12_meltOne_3 : decode cX12_meltOne 3 = .ok (.invokevirtual 203, 3) := by decide +kernel
theorem dX12_meltOne_6 : decode cX12_meltOne 6 = .ok (.istore 4, 2) := by decide +kernel
theorem dX12_meltOne_8 : decode cX12_meltOne 8 = .ok (.aload_n 0, 1) := by decide +kernel
theorem dX12_meltOne_9 : decode cX12_meltOne 9 = .ok (.getfield 44, 3) := by decide +kernel
theorem dX12_meltOne_12 : decode cX12_meltOne 12 = .ok (.iload_n 1, 1) := by decide +kernel
theorem dX12_meltOne_13 : decode cX12_meltOne 13 = .ok (.iaload, 1) := by decide +kernel
theorem dX12_meltOne_14 : decode cX12_meltOne 14 = .ok (.istore 5, 2) := by decide +kernel
theorem dX12_meltOne_16 : decode cX12_meltOne 16 = .ok (.aload_n 0, 1) := by decide +kernel
theorem dX12_meltOne_17 : decode cX12_meltOne 17 = .ok (.iload_n 1, 1) := by decide +kernel
theorem dX12_meltOne_18 : decode cX12_meltOne 18 = .ok (.invokevirtual 410, 3) := by decide +kernel
theorem dX12_meltOne_21 : decode cX12_meltOne 21 = .ok (.istore 6, 2) := by decide +kernel
theorem dX12_meltOne_23 : decode cX12_meltOne 23 = .ok (.aload_n 0, 1) := by decide +kernel
theorem dX12_meltOne_24 : decode cX12_meltOne 24 = .ok (.iload_n 1, 1) := by decide +kernel
theorem dX12_meltOne_25 : decode cX12_meltOne 25 = .ok (.invokevirtual 512, 3) := by decide +kernel
theorem dX12_meltOne_28 : decode cX12_meltOne 28 = .ok (.istore 7, 2) := by decide +kernel
theorem dX12_meltOne_30 : decode cX12_meltOne 30 = .ok (.iload 7, 2) := by decide +kernel
theorem dX12_meltOne_32 : decode cX12_meltOne 32 = .ok (.aload_n 0, 1) := by decide +kernel
theorem dX12_meltOne_33 : decode cX12_meltOne 33 = .ok (.iload_n 3, 1) := by decide +kernel
theorem dX12_meltOne_34 : decode cX12_meltOne 34 = .ok (.invokevirtual 512, 3) := by decide +kernel
theorem dX12_meltOne_37 : decode cX12_meltOne 37 = .ok (.iadd, 1) := by decide +kernel
theorem dX12_meltOne_38 : decode cX12_meltOne 38 = .ok (.istore 8, 2) := by decide +kernel
theorem dX12_meltOne_40 : decode cX12_meltOne 40 = .ok (.aload_n 0, 1) := by decide +kernel
theorem dX12_meltOne_41 : decode cX12_meltOne 41 = .ok (.getfield 17, 3) := by decide +kernel
theorem dX12_meltOne_44 : decode cX12_meltOne 44 = .ok (.iload 4, 2) := by decide +kernel
theorem dX12_meltOne_46 : decode cX12_meltOne 46 = .ok (.iaload, 1) := by decide +kernel
theorem dX12_meltOne_47 : decode cX12_meltOne 47 = .ok (.istore 9, 2) := by decide +kernel
theorem dX12_meltOne_49 : decode cX12_meltOne 49 = .ok (.iload_n 2, 1) := by decide +kernel
theorem dX12_meltOne_50 : decode cX12_meltOne 50 = .ok (.istore 10, 2) := by decide +kernel
theorem dX12_meltOne_80 : decode cX12_meltOne 80 = .ok (.aload_n 0, 1) := by decide +kernel
theorem dX12_meltOne_81 : decode cX12_meltOne 81 = .ok (.iconst 0, 1) := by decide +kernel
theorem dX12_meltOne_82 : decode cX12_meltOne 82 = .ok (.putfield 509, 3) := by decide +kernel
theorem dX12_meltOne_85 : decode cX12_meltOne 85 = .ok (.aload_n 0, 1) := by decide +kernel
theorem dX12_meltOne_86 : decode cX12_meltOne 86 = .ok (.bipush 14, 2) := by decide +kernel
theorem dX12_meltOne_88 : decode cX12_meltOne 88 = .ok (.iload 5, 2) := by decide +kernel
theorem dX12_meltOne_90 : decode cX12_meltOne 90 = .ok (.iconst 0, 1) := by decide +kernel
theorem dX12_meltOne_91 : decode cX12_meltOne 91 = .ok (.iconst 0, 1) := by decide +kernel
theorem dX12_meltOne_92 : decode cX12_meltOne 92 = .ok (.iconst 0, 1) := by decide +kernel
theorem dX12_meltOne_93 : decode cX12_meltOne 93 = .ok (.invokevirtual 515, 3) := by decide +kernel
theorem dX12_meltOne_96 : decode cX12_meltOne 96 = .ok (.iconst 0, 1) := by decide +kernel
theorem dX12_meltOne_97 : decode cX12_meltOne 97 = .ok (.istore 11, 2) := by decide +kernel
theorem dX12_meltOne_251 : decode cX12_meltOne 251 = .ok (.iconst 0, 1) := by decide +kernel
theorem dX12_meltOne_252 : decode cX12_meltOne 252 = .ok (.istore 11, 2) := by decide +kernel
theorem dX12_meltOne_301 : decode cX12_meltOne 301 = .ok (.iconst 0, 1) := by decide +kernel
theorem dX12_meltOne_302 : decode cX12_meltOne 302 = .ok (.istore 11, 2) := by decide +kernel
theorem dX12_meltOne_342 : decode cX12_meltOne 342 = .ok (.aload_n 0, 1) := by decide +kernel
theorem dX12_meltOne_343 : decode cX12_meltOne 343 = .ok (.bipush 13, 2) := by decide +kernel
theorem dX12_meltOne_345 : decode cX12_meltOne 345 = .ok (.iload 8, 2) := by decide +kernel
theorem dX12_meltOne_347 : decode cX12_meltOne 347 = .ok (.iconst 0, 1) := by decide +kernel
theorem dX12_meltOne_348 : decode cX12_meltOne 348 = .ok (.iconst 0, 1) := by decide +kernel
theorem dX12_meltOne_349 : decode cX12_meltOne 349 = .ok (.iconst 0, 1) := by decide +kernel
theorem dX12_meltOne_350 : decode cX12_meltOne 350 = .ok (.invokevirtual 515, 3) := by decide +kernel
theorem dX12_meltOne_353 : decode cX12_meltOne 353 = .ok (.aload_n 0, 1) := by decide +kernel
theorem dX12_meltOne_354 : decode cX12_meltOne 354 = .ok (.bipush 15, 2) := by decide +kernel
theorem dX12_meltOne_356 : decode cX12_meltOne 356 = .ok (.iload 5, 2) := by decide +kernel
theorem dX12_meltOne_358 : decode cX12_meltOne 358 = .ok (.iconst 0, 1) := by decide +kernel
theorem dX12_meltOne_359 : decode cX12_meltOne 359 = .ok (.iconst 0, 1) := by decide +kernel
theorem dX12_meltOne_360 : decode cX12_meltOne 360 = .ok (.iconst 0, 1) := by decide +kernel
theorem dX12_meltOne_361 : decode cX12_meltOne 361 = .ok (.invokevirtual 515, 3) := by decide +kernel
theorem dX12_meltOne_364 : decode cX12_meltOne 364 = .ok (.iconst 0, 1) := by decide +kernel
theorem dX12_meltOne_365 : decode cX12_meltOne 365 = .ok (.istore 11, 2) := by decide +kernel
theorem dX12_meltOne_550 : decode cX12_meltOne 550 = .ok (.aload_n 0, 1) := by decide +kernel
theorem dX12_meltOne_551 : decode cX12_meltOne 551 = .ok (.getfield 44, 3) := by decide +kernel
theorem dX12_meltOne_554 : decode cX12_meltOne 554 = .ok (.iload_n 1, 1) := by decide +kernel
theorem dX12_meltOne_555 : decode cX12_meltOne 555 = .ok (.dup2, 1) := by decide +kernel
theorem dX12_meltOne_556 : decode cX12_meltOne 556 = .ok (.iaload, 1) := by decide +kernel
theorem dX12_meltOne_557 : decode cX12_meltOne 557 = .ok (.aload_n 0, 1) := by decide +kernel
theorem dX12_meltOne_558 : decode cX12_meltOne 558 = .ok (.getfield 44, 3) := by decide +kernel
theorem dX12_meltOne_561 : decode cX12_meltOne 561 = .ok (.iload_n 3, 1) := by decide +kernel
theorem dX12_meltOne_562 : decode cX12_meltOne 562 = .ok (.iaload, 1) := by decide +kernel
theorem dX12_meltOne_563 : decode cX12_meltOne 563 = .ok (.iadd, 1) := by decide +kernel
theorem dX12_meltOne_564 : decode cX12_meltOne 564 = .ok (.iastore, 1) := by decide +kernel
theorem dX12_meltOne_565 : decode cX12_meltOne 565 = .ok (.aload_n 0, 1) := by decide +kernel
theorem dX12_meltOne_566 : decode cX12_meltOne 566 = .ok (.getfield 32, 3) := by decide +kernel
theorem dX12_meltOne_569 : decode cX12_meltOne 569 = .ok (.iload_n 1, 1) := by decide +kernel
theorem dX12_meltOne_570 : decode cX12_meltOne 570 = .ok (.iaload, 1) := by decide +kernel
theorem dX12_meltOne_571 : decode cX12_meltOne 571 = .ok (.iconst 1, 1) := by decide +kernel
theorem dX12_meltOne_572 : decode cX12_meltOne 572 = .ok (.isub, 1) := by decide +kernel
theorem dX12_meltOne_573 : decode cX12_meltOne 573 = .ok (.istore 11, 2) := by decide +kernel
theorem dX12_meltOne_612 : decode cX12_meltOne 612 = .ok (.iconst 0, 1) := by decide +kernel
theorem dX12_meltOne_613 : decode cX12_meltOne 613 = .ok (.istore 11, 2) := by decide +kernel
theorem dX12_meltOne_649 : decode cX12_meltOne 649 = .ok (.aload_n 0, 1) := by decide +kernel
theorem dX12_meltOne_650 : decode cX12_meltOne 650 = .ok (.getfield 32, 3) := by decide +kernel
theorem dX12_meltOne_653 : decode cX12_meltOne 653 = .ok (.iload_n 1, 1) := by decide +kernel
theorem dX12_meltOne_654 : decode cX12_meltOne 654 = .ok (.dup2, 1) := by decide +kernel
theorem dX12_meltOne_655 : decode cX12_meltOne 655 = .ok (.iaload, 1) := by decide +kernel
theorem dX12_meltOne_656 : decode cX12_meltOne 656 = .ok (.aload_n 0, 1) := by decide +kernel
theorem dX12_meltOne_657 : decode cX12_meltOne 657 = .ok (.getfield 509, 3) := by decide +kernel
theorem dX12_meltOne_660 : decode cX12_meltOne 660 = .ok (.iconst 1, 1) := by decide +kernel
theorem dX12_meltOne_661 : decode cX12_meltOne 661 = .ok (.isub, 1) := by decide +kernel
theorem dX12_meltOne_662 : decode cX12_meltOne 662 = .ok (.iadd, 1) := by decide +kernel
theorem dX12_meltOne_663 : decode cX12_meltOne 663 = .ok (.iastore, 1) := by decide +kernel
theorem dX12_meltOne_664 : decode cX12_meltOne 664 = .ok (.iload_n 2, 1) := by decide +kernel
theorem dX12_meltOne_665 : decode cX12_meltOne 665 = .ok (.aload_n 0, 1) := by decide +kernel
theorem dX12_meltOne_666 : decode cX12_meltOne 666 = .ok (.getfield 509, 3) := by decide +kernel
theorem dX12_meltOne_669 : decode cX12_meltOne 669 = .ok (.iadd, 1) := by decide +kernel
theorem dX12_meltOne_670 : decode cX12_meltOne 670 = .ok (.ireturn, 1) := by decide +kernel
set_option maxHeartbeats 2000000 in
set_option maxRecDepth 20000 in
theorem c_X12_meltOne (d : Nat) {b : Nat} {σ : MS} {r : Int} {k : Int} {q : Int} {B : Int} {m : Int} (hR : RG σ) (hrq : (0 ≤ r ∧ r < 6) ∧ (0 ≤ q ∧ q < 6) ∧ q ≠ r) (hit : ITM σ) (hpar : PAR σ) (hnam : NAM σ) (hk : 0 ≤ k ∧ k < σ.2.1 9 r ∧ σ.2.1 9 r ≤ 200 ∧ 1 ≤ σ.2.1 9 q ∧ σ.2.1 9 q ≤ 200) (hok : OKS σ (σ.2.1 14 r) r) (hokq : OKS σ (σ.2.1 14 q) q) (hof : OKF σ r) (hofq : OKF σ q) (hf0q : FR0 σ q) (hcd : CODE σ r) (hcdq : CODE σ q) (hlex : LEX σ r) (hlexq : LEX σ q) (hlm : LBM σ r) (hlmq : LBM σ q) (hfi : FRI σ r) (hfiq : FRI σ q) (hnc : ∀ j, 0 ≤ j → j < σ.2.1 9 q → ¬ σ.2.1 3 (220 * q + j) = 10) (h10 : σ.2.1 3 (220 * r + k) = 10) (hRN : RGN σ r B (σ.2.1 14 r)) (hRI : RGI σ r B (σ.2.1 9 r)) (hrn : RGN σ q m (σ.2.1 14 q)) (hri : RGI σ q m (σ.2.1 9 q)) (hBm : 0 ≤ B ∧ 0 ≤ m ∧ B + m ≤ 100) (hF12 : σ.2.1 14 r + σ.2.1 14 q ≤ 12) (hbl : BO 59 σ) (hlv : ∀ g, 0 ≤ g → g < 192 → σ.2.1 59 g = 1 → g < m) (hgr : σ.2.1 9 r + 2 + σ.2.1 11 q + σ.2.1 12 q + σ.2.1 9 q + cnt (lcf σ q) 192 + cnt (rcf σ q) (σ.2.1 9 q).toNat ≤ 200) : Tm (d + 6) m_X12_meltOne 0 b σ [(0, .ref b), (1, .int (iI r)), (2, .int (iI k)), (3, .int (iI q))] [] (fun ro σ2 => ∃ v : Int, ro = some (.int (iI v)) ∧ (Fr [62] [3, 4, 5, 6, 7, 8, 9, 14, 15, 16, 17, 18] [] σ σ2) ∧ (RG σ2) ∧ (CODE σ2 r) ∧ (LEX σ2 r) ∧ (LBM σ2 r) ∧ (OKS σ2 (σ2.2.1 14 r) r) ∧ (XR r σ σ2) ∧ (OKF σ2 r) ∧ (FRI σ2 r) ∧ (XF r (σ.2.1 14 r) σ σ2) ∧ ((σ2.2.1 14 r = σ.2.1 14 r + σ.2.1 14 q ∧ 1 ≤ σ2.2.1 9 r) ∧ σ2.2.1 9 r ≤ 200) ∧ (k < v ∧ σ2.2.1 9 r - v = σ.2.1 9 r - k - 1)) := by
  have q1 := hit r (by omega) (by omega)
  obtain ⟨frr, lfr, hcr⟩ := hcd
  obtain ⟨frq, lfq, hcq⟩ := hcdq
  obtain ⟨hjr, j0, hj0, hj1, hj2, hj3, hj4⟩ := hcr.2.2.2.2 k (by omega) (by omega) h10
  simp only [iK, iO] at hj2 hj3 hj4
  have hfr := hcr.2.1 k (by omega) (by omega)
  have q14 := hof.1
  have q14q := hofq.1
  have hto := hok.dest (k := k) (by omega) (by omega) (Or.inr h10)
  have mpa := hpar q (by omega) (by omega)
  have mna := hnam q (by omega) (by omega)
  refine tm_aload_n dX12_meltOne_0 rfl 0 rfl ?_
  refine tm_iload_n dX12_meltOne_1 rfl 1 rfl ?_
  refine tm_iload_n dX12_meltOne_2 rfl 2 rfl ?_
  refine tm_callV (M := m_X12_meltOne) (pc := 3) (ix := 203) (M' := m_X12_at) (As := [.int (iI r), .int (iI k)]) (rest := []) dX12_meltOne_3 ok_X12_at im_X12_at se_X12_at ml12_203 np_X12_at rfl rfl (Nat.le_of_ble_eq_true rfl) (Nat.le_of_ble_eq_true rfl) rfl (c_X12_at (d + 4) (σ := σ) (x := r) (k := k) ) (fun r1 σ2 hp => ?_)
  obtain ⟨v3, rfl, rfl, f4⟩ := hp
  subst f4
  show Tm _ _ 6 b σ [(0, .ref b), (1, .int (iI r)), (2, .int (iI k)), (3, .int (iI q))] [.int (iI (220 * r + k))] _
  refine tm_istore (L' := [(4, .int (iI (220 * r + k))), (0, .ref b), (1, .int (iI r)), (2, .int (iI k)), (3, .int (iI q))]) dX12_meltOne_6 (by decide) rfl ?_
  refine tm_aload_n dX12_meltOne_8 rfl 1 rfl ?_
  refine tm_get (k := 14) (v := .ref (b + 1 + 11)) lay_12 dX12_meltOne_9 (by decide) fl12_44 rfl ?_
  refine tm_iload_n dX12_meltOne_12 rfl 2 rfl ?_
  refine tm_iald (z := r) (v := σ.2.1 14 r) dX12_meltOne_13 (show mT[11]? = some (14, 0, 6) from rfl) (by omega) (by omega) (by decide) (rfl) ?_
  have g5 := RG.a hR 14 (r)
  refine tm_istore (L' := [(5, .int (iI (σ.2.1 14 r))), (4, .int (iI (220 * r + k))), (0, .ref b), (1, .int (iI r)), (2, .int (iI k)), (3, .int (iI q))]) dX12_meltOne_14 (by decide) rfl ?_
  refine tm_aload_n dX12_meltOne_16 rfl 2 rfl ?_
  refine tm_iload_n dX12_meltOne_17 rfl 3 rfl ?_
  refine tm_callV (M := m_X12_meltOne) (pc := 18) (ix := 410) (M' := m_X12_registers) (As := [.int (iI r)]) (rest := []) dX12_meltOne_18 ok_X12_registers im_X12_registers se_X12_registers ml12_410 np_X12_registers rfl rfl (Nat.le_of_ble_eq_true rfl) (Nat.le_of_ble_eq_true rfl) rfl (c2_X12_registers (d + 1) (σ := σ) (r := r) (F := (σ.2.1 14 r)) (B := B) (by omega) hR hof hnam hit hpar hok hRN hRI (by omega)) (fun r6 σ7 hp => ?_)
  obtain ⟨v8, rfl, rfl, f9⟩ := hp
  show Tm _ _ 21 b σ [(5, .int (iI (σ.2.1 14 r))), (4, .int (iI (220 * r + k))), (0, .ref b), (1, .int (iI r)), (2, .int (iI k)), (3, .int (iI q))] [.int (iI v8)] _
  refine tm_istore (L' := [(6, .int (iI v8)), (5, .int (iI (σ.2.1 14 r))), (4, .int (iI (220 * r + k))), (0, .ref b), (1, .int (iI r)), (2, .int (iI k)), (3, .int (iI q))]) dX12_meltOne_21 (by decide) rfl ?_
  refine tm_aload_n dX12_meltOne_23 rfl 3 rfl ?_
  refine tm_iload_n dX12_meltOne_24 rfl 4 rfl ?_
  refine tm_callV (M := m_X12_meltOne) (pc := 25) (ix := 512) (M' := m_X12_labels) (As := [.int (iI r)]) (rest := []) dX12_meltOne_25 ok_X12_labels im_X12_labels se_X12_labels ml12_512 np_X12_labels rfl rfl (Nat.le_of_ble_eq_true rfl) (Nat.le_of_ble_eq_true rfl) rfl (c2_X12_labels (d + 3) (σ := σ) (r := r) (by omega) hR hit hok.jmp hlm (by omega)) (fun r10 σ11 hp => ?_)
  obtain ⟨v12, rfl, rfl, f13, f14⟩ := hp
  show Tm _ _ 28 b σ [(6, .int (iI v8)), (5, .int (iI (σ.2.1 14 r))), (4, .int (iI (220 * r + k))), (0, .ref b), (1, .int (iI r)), (2, .int (iI k)), (3, .int (iI q))] [.int (iI v12)] _
  have hv1 := f14
  refine tm_istore (L' := [(7, .int (iI v12)), (6, .int (iI v8)), (5, .int (iI (σ.2.1 14 r))), (4, .int (iI (220 * r + k))), (0, .ref b), (1, .int (iI r)), (2, .int (iI k)), (3, .int (iI q))]) dX12_meltOne_28 (by decide) rfl ?_
  refine tm_iload dX12_meltOne_30 0 rfl ?_
  refine tm_aload_n dX12_meltOne_32 rfl 4 rfl ?_
  refine tm_iload_n dX12_meltOne_33 rfl 7 rfl ?_
  refine tm_callV (M := m_X12_meltOne) (pc := 34) (ix := 512) (M' := m_X12_labels) (As := [.int (iI q)]) (rest := [.int (iI v12)]) dX12_meltOne_34 ok_X12_labels im_X12_labels se_X12_labels ml12_512 np_X12_labels rfl rfl (Nat.le_of_ble_eq_true rfl) (Nat.le_of_ble_eq_true rfl) rfl (c2_X12_labels (d + 3) (σ := σ) (r := q) (by omega) hR hit hokq.jmp hlmq (by omega)) (fun r15 σ16 hp => ?_)
  obtain ⟨v17, rfl, rfl, f18, f19⟩ := hp
  show Tm _ _ 37 b σ [(7, .int (iI v12)), (6, .int (iI v8)), (5, .int (iI (σ.2.1 14 r))), (4, .int (iI (220 * r + k))), (0, .ref b), (1, .int (iI r)), (2, .int (iI k)), (3, .int (iI q))] [.int (iI v17), .int (iI v12)] _
  have hv2 := f19
  refine tm_iadd dX12_meltOne_37 ?_
  refine tm_istore (L' := [(8, .int (iI (v12 + v17))), (7, .int (iI v12)), (6, .int (iI v8)), (5, .int (iI (σ.2.1 14 r))), (4, .int (iI (220 * r + k))), (0, .ref b), (1, .int (iI r)), (2, .int (iI k)), (3, .int (iI q))]) dX12_meltOne_38 (by decide) rfl ?_
  refine tm_aload_n dX12_meltOne_40 rfl 5 rfl ?_
  refine tm_get (k := 4) (v := .ref (b + 1 + 2)) lay_12 dX12_meltOne_41 (by decide) fl12_17 rfl ?_
  refine tm_iload dX12_meltOne_44 4 rfl ?_
  refine tm_iald (z := 220 * r + k) (v := σ.2.1 4 (220 * r + k)) dX12_meltOne_46 (show mT[2]? = some (4, 0, 2860) from rfl) (by omega) (by omega) (by decide) (rfl) ?_
  have g20 := RG.a hR 4 (220 * r + k)
  refine tm_istore (L' := [(9, .int (iI (σ.2.1 4 (220 * r + k)))), (8, .int (iI (v12 + v17))), (7, .int (iI v12)), (6, .int (iI v8)), (5, .int (iI (σ.2.1 14 r))), (4, .int (iI (220 * r + k))), (0, .ref b), (1, .int (iI r)), (2, .int (iI k)), (3, .int (iI q))]) dX12_meltOne_47 (by decide) rfl ?_
  refine tm_iload_n dX12_meltOne_49 rfl 8 rfl ?_
  refine tm_istore (L' := [(10, .int (iI k)), (9, .int (iI (σ.2.1 4 (220 * r + k)))), (8, .int (iI (v12 + v17))), (7, .int (iI v12)), (6, .int (iI v8)), (5, .int (iI (σ.2.1 14 r))), (4, .int (iI (220 * r + k))), (0, .ref b), (1, .int (iI r)), (2, .int (iI k)), (3, .int (iI q))]) dX12_meltOne_50 (by decide) rfl ?_
  refine tm_sub [0, 1, 2, 3, 4, 5, 6, 7, 8, 9, 10] rfl (l_mo1 (d + 4) (σ := σ) (r := r) (k := k) (q := q) (f := σ.2.1 14 r) (base := v8) (lb := v12) (out := v12 + v17) (to := σ.2.1 4 (220 * r + k)) (j0 := j0) (by omega) hR (by omega) ⟨hj0, hj1, hj2⟩ h10 hj4 (fun mk25 f24 => ?_) _ (k) (by omega) rfl)
  show Tm _ _ 80 b σ [(10, .int (iI mk25)), (9, .int (iI (σ.2.1 4 (220 * r + k)))), (8, .int (iI (v12 + v17))), (7, .int (iI v12)), (6, .int (iI v8)), (5, .int (iI (σ.2.1 14 r))), (4, .int (iI (220 * r + k))), (0, .ref b), (1, .int (iI r)), (2, .int (iI k)), (3, .int (iI q))] [] _
  have hmk := f24
  have hmo := mo_mk (ρ := σ) (r := r) (k := k) (q := q) (F := σ.2.1 14 r) (base := v8) (lb := v12) (out := v12 + v17) (to := σ.2.1 4 (220 * r + k)) (g0 := frr k) (m := m) (v2 := v17) (by omega) hcq hlexq hokq rfl hv2 hnc hri hrn (hok k (by omega) (by omega)) hf0q hofq hpar hnam
  refine tm_aload_n dX12_meltOne_80 rfl 7 rfl ?_
  refine tm_iconst dX12_meltOne_81 ?_
  refine tm_putS (k := 62) (v := 0) lay_12 dX12_meltOne_82 (by decide) fl12_509 rfl (tyX12_ok 62 (by decide)) rfl rfl rfl ?_
  have z62 : (sS 62 0 σ).1 62 = 0 := rs_eq
  refine tm_aload_n dX12_meltOne_85 rfl 7 rfl ?_
  refine tm_bipush dX12_meltOne_86 (by decide) ?_
  refine tm_iload dX12_meltOne_88 5 rfl ?_
  refine tm_iconst dX12_meltOne_90 ?_
  refine tm_iconst dX12_meltOne_91 ?_
  refine tm_iconst dX12_meltOne_92 ?_
  refine tm_callV (M := m_X12_meltOne) (pc := 93) (ix := 515) (M' := m_X12_add) (As := [.int (iI 14), .int (iI (σ.2.1 14 r)), .int (iI 0), .int (iI 0), .int (iI 0)]) (rest := []) dX12_meltOne_93 ok_X12_add im_X12_add se_X12_add ml12_515 np_X12_add rfl rfl (Nat.le_of_ble_eq_true rfl) (Nat.le_of_ble_eq_true rfl) rfl (c_X12_add (d + 3) (σ := (sS 62 0 σ)) (k := 14) (e := σ.2.1 14 r) (o := 0) (ak := 0) (a := 0) (hR.S (by omega)) (by omega)) (fun r26 σ27 hp => ?_)
  obtain ⟨rfl, f29⟩ := hp
  subst f29
  show Tm _ _ 96 b (fAdd (14) (σ.2.1 14 r) (0) (0) (0) (sS 62 0 σ)) [(10, .int (iI mk25)), (9, .int (iI (σ.2.1 4 (220 * r + k)))), (8, .int (iI (v12 + v17))), (7, .int (iI v12)), (6, .int (iI v8)), (5, .int (iI (σ.2.1 14 r))), (4, .int (iI (220 * r + k))), (0, .ref b), (1, .int (iI r)), (2, .int (iI k)), (3, .int (iI q))] [] _
  have hms0 := msg_start hmo.2.1 (by omega) (fun y => IEQ.fr (show Fr [62] [] [] σ (sS 62 (0) σ) from (Fr.rfl.S (by decide))) (by decide)) rfl rs_eq
  have n62 : (fAdd (14) (σ.2.1 14 r) (0) (0) (0) (sS 62 0 σ)).1 62 = 1 := fAdd_n.trans (by rw [show (sS 62 (0) σ).1 62 = 0 from rs_eq]; rfl)
  refine tm_iconst dX12_meltOne_96 ?_
  refine tm_istore (L' := [(11, .int (iI 0)), (10, .int (iI mk25)), (9, .int (iI (σ.2.1 4 (220 * r + k)))), (8, .int (iI (v12 + v17))), (7, .int (iI v12)), (6, .int (iI v8)), (5, .int (iI (σ.2.1 14 r))), (4, .int (iI (220 * r + k))), (0, .ref b), (1, .int (iI r)), (2, .int (iI k)), (3, .int (iI q))]) dX12_meltOne_97 (by decide) rfl ?_
  refine tm_sub [0, 1, 2, 3, 4, 5, 6, 7, 8, 9, 10, 11] rfl (l_mo2 (d + 3) (σ0 := (fAdd (14) (σ.2.1 14 r) (0) (0) (0) (sS 62 0 σ))) (r := r) (k := k) (q := q) (f := σ.2.1 14 r) (base := v8) (lb := v12) (out := v12 + v17) (to := σ.2.1 4 (220 * r + k)) (mk := mk25) (ρ := σ) (FI := (FIx σ r q (σ.2.1 14 r) (frr k))) (lf := (lfx (σ.2.1 14 r) v12 (v12 + v17) lfq)) (frq := frq) (lfq := lfq) (g0 := (frr k)) (m := m) hmo ((hR.S (by omega)).add (by omega) (by omega) (by omega) (by omega) (by omega) (by omega)) (show Fr [62] [3, 4, 5, 6, 7, 8] [] σ (fAdd (14) (σ.2.1 14 r) (0) (0) (0) (sS 62 0 σ)) from ((Fr.rfl.S (by decide)).trans (Fr.sub fAdd_fr (by decide) (by decide) (by decide)))) (fun n136 σ37 F32 R33 f34 f35 => ?_) _ (0) (fAdd (14) (σ.2.1 14 r) (0) (0) (0) (sS 62 0 σ)) Fr.rfl ((hR.S (by omega)).add (by omega) (by omega) (by omega) (by omega) (by omega) (by omega)) (by rw [((show Fr [62] [3, 4, 5, 6, 7, 8] [] σ (fAdd (14) (σ.2.1 14 r) (0) (0) (0) (sS 62 0 σ)) from ((Fr.rfl.S (by decide)).trans (Fr.sub fAdd_fr (by decide) (by decide) (by decide))))).2.1 12 (by decide)]; omega) (by rw [((show Fr [62] [3, 4, 5, 6, 7, 8] [] σ (fAdd (14) (σ.2.1 14 r) (0) (0) (0) (sS 62 0 σ)) from ((Fr.rfl.S (by decide)).trans (Fr.sub fAdd_fr (by decide) (by decide) (by decide))))).2.1 11 (by decide)]; omega) hms0 rfl)
  show Tm _ _ 251 b σ37 [(10, .int (iI mk25)), (9, .int (iI (σ.2.1 4 (220 * r + k)))), (8, .int (iI (v12 + v17))), (7, .int (iI v12)), (6, .int (iI v8)), (5, .int (iI (σ.2.1 14 r))), (4, .int (iI (220 * r + k))), (0, .ref b), (1, .int (iI r)), (2, .int (iI k)), (3, .int (iI q))] [] _
  have hc2 := f34
  have hms2 := f35
  have hl0 := cnt_up (lcf_0 σ q) (show 0 ≤ 192 by decide)
  have hr0 := cnt_up (rcf_0 σ q) (show 0 ≤ (σ.2.1 9 q).toNat by omega)
  have hz1 : cnt (lcf σ q) 0 = 0 := rfl
  have hz2 : cnt (rcf σ q) 0 = 0 := rfl
  refine tm_iconst dX12_meltOne_251 ?_
  refine tm_istore (L' := [(11, .int (iI 0)), (10, .int (iI mk25)), (9, .int (iI (σ.2.1 4 (220 * r + k)))), (8, .int (iI (v12 + v17))), (7, .int (iI v12)), (6, .int (iI v8)), (5, .int (iI (σ.2.1 14 r))), (4, .int (iI (220 * r + k))), (0, .ref b), (1, .int (iI r)), (2, .int (iI k)), (3, .int (iI q))]) dX12_meltOne_252 (by decide) rfl ?_
  refine tm_sub [0, 1, 2, 3, 4, 5, 6, 7, 8, 9, 10, 11] rfl (l_mo3 (d + 3) (σ0 := σ37) (r := r) (k := k) (q := q) (f := σ.2.1 14 r) (base := v8) (lb := v12) (out := v12 + v17) (to := σ.2.1 4 (220 * r + k)) (mk := mk25) (ρ := σ) (FI := (FIx σ r q (σ.2.1 14 r) (frr k))) (lf := (lfx (σ.2.1 14 r) v12 (v12 + v17) lfq)) (frq := frq) (lfq := lfq) (g0 := (frr k)) (m := m) (A1 := (σ37.1 62)) hmo R33 (show Fr [62] [3, 4, 5, 6, 7, 8] [] σ σ37 from (((Fr.rfl.S (by decide)).trans (Fr.sub fAdd_fr (by decide) (by decide) (by decide))).trans (Fr.sub F32 (by decide) (by decide) (by decide)))) hbl hlv (by omega) (fun g44 σ45 F40 R41 f42 f43 => ?_) _ (0) σ37 Fr.rfl R33 (by omega) (by rw [show (0 : Int).toNat = 0 from rfl, hz1]; omega) hms2 rfl)
  show Tm _ _ 301 b σ45 [(10, .int (iI mk25)), (9, .int (iI (σ.2.1 4 (220 * r + k)))), (8, .int (iI (v12 + v17))), (7, .int (iI v12)), (6, .int (iI v8)), (5, .int (iI (σ.2.1 14 r))), (4, .int (iI (220 * r + k))), (0, .ref b), (1, .int (iI r)), (2, .int (iI k)), (3, .int (iI q))] [] _
  have hc3 := f42
  have hms3 := f43
  have hgz : Gq σ q (σ.2.1 14 r) frq 0 = σ.2.1 14 r := by unfold Gq; rw [if_pos (by omega), hcq.1]; omega
  refine tm_iconst dX12_meltOne_301 ?_
  refine tm_istore (L' := [(11, .int (iI 0)), (10, .int (iI mk25)), (9, .int (iI (σ.2.1 4 (220 * r + k)))), (8, .int (iI (v12 + v17))), (7, .int (iI v12)), (6, .int (iI v8)), (5, .int (iI (σ.2.1 14 r))), (4, .int (iI (220 * r + k))), (0, .ref b), (1, .int (iI r)), (2, .int (iI k)), (3, .int (iI q))]) dX12_meltOne_302 (by decide) rfl ?_
  refine tm_sub [0, 1, 2, 3, 4, 5, 6, 7, 8, 9, 10, 11] rfl (l_mo4 (d + 2) (σ0 := σ45) (r := r) (k := k) (q := q) (f := σ.2.1 14 r) (base := v8) (lb := v12) (out := v12 + v17) (to := σ.2.1 4 (220 * r + k)) (mk := mk25) (ρ := σ) (FI := (FIx σ r q (σ.2.1 14 r) (frr k))) (lf := (lfx (σ.2.1 14 r) v12 (v12 + v17) lfq)) (frq := frq) (lfq := lfq) (g0 := (frr k)) (m := m) (A2 := (σ45.1 62)) hmo R41 (show Fr [62] [3, 4, 5, 6, 7, 8] [] σ σ45 from ((((Fr.rfl.S (by decide)).trans (Fr.sub fAdd_fr (by decide) (by decide) (by decide))).trans (Fr.sub F32 (by decide) (by decide) (by decide))).trans (Fr.sub F40 (by decide) (by decide) (by decide)))) (by omega) (fun i52 σ53 F48 R49 f50 f51 => ?_) _ (0) σ45 Fr.rfl R41 (by omega) (by rw [show (0 : Int).toNat = 0 from rfl, hz2]; omega) (by rw [hgz]; exact hms3) rfl)
  show Tm _ _ 342 b σ53 [(10, .int (iI mk25)), (9, .int (iI (σ.2.1 4 (220 * r + k)))), (8, .int (iI (v12 + v17))), (7, .int (iI v12)), (6, .int (iI v8)), (5, .int (iI (σ.2.1 14 r))), (4, .int (iI (220 * r + k))), (0, .ref b), (1, .int (iI r)), (2, .int (iI k)), (3, .int (iI q))] [] _
  have hc4 := f50
  have hms4 := f51
  have hend := msg_end (a := 0) hmo.2.1 hms4 (by omega) (by omega) (by omega)
  have f14 := (show Fr [62] [3, 4, 5, 6, 7, 8] [] σ σ53 from (((((Fr.rfl.S (by decide)).trans (Fr.sub fAdd_fr (by decide) (by decide) (by decide))).trans (Fr.sub F32 (by decide) (by decide) (by decide))).trans (Fr.sub F40 (by decide) (by decide) (by decide))).trans (Fr.sub F48 (by decide) (by decide) (by decide))))
  refine tm_aload_n dX12_meltOne_342 rfl 7 rfl ?_
  refine tm_bipush dX12_meltOne_343 (by decide) ?_
  refine tm_iload dX12_meltOne_345 2 rfl ?_
  refine tm_iconst dX12_meltOne_347 ?_
  refine tm_iconst dX12_meltOne_348 ?_
  refine tm_iconst dX12_meltOne_349 ?_
  refine tm_callV (M := m_X12_meltOne) (pc := 350) (ix := 515) (M' := m_X12_add) (As := [.int (iI 13), .int (iI (v12 + v17)), .int (iI 0), .int (iI 0), .int (iI 0)]) (rest := []) dX12_meltOne_350 ok_X12_add im_X12_add se_X12_add ml12_515 np_X12_add rfl rfl (Nat.le_of_ble_eq_true rfl) (Nat.le_of_ble_eq_true rfl) rfl (c_X12_add (d + 3) (σ := σ53) (k := 13) (e := v12 + v17) (o := 0) (ak := 0) (a := 0) R49 (by omega)) (fun r54 σ55 hp => ?_)
  obtain ⟨rfl, f57⟩ := hp
  subst f57
  show Tm _ _ 353 b (fAdd (13) (v12 + v17) (0) (0) (0) σ53) [(10, .int (iI mk25)), (9, .int (iI (σ.2.1 4 (220 * r + k)))), (8, .int (iI (v12 + v17))), (7, .int (iI v12)), (6, .int (iI v8)), (5, .int (iI (σ.2.1 14 r))), (4, .int (iI (220 * r + k))), (0, .ref b), (1, .int (iI r)), (2, .int (iI k)), (3, .int (iI q))] [] _
  have n63 : (fAdd (13) (v12 + v17) (0) (0) (0) σ53).1 62 = σ53.1 62 + 1 := fAdd_n
  refine tm_aload_n dX12_meltOne_353 rfl 7 rfl ?_
  refine tm_bipush dX12_meltOne_354 (by decide) ?_
  refine tm_iload dX12_meltOne_356 5 rfl ?_
  refine tm_iconst dX12_meltOne_358 ?_
  refine tm_iconst dX12_meltOne_359 ?_
  refine tm_iconst dX12_meltOne_360 ?_
  refine tm_callV (M := m_X12_meltOne) (pc := 361) (ix := 515) (M' := m_X12_add) (As := [.int (iI 15), .int (iI (σ.2.1 14 r)), .int (iI 0), .int (iI 0), .int (iI 0)]) (rest := []) dX12_meltOne_361 ok_X12_add im_X12_add se_X12_add ml12_515 np_X12_add rfl rfl (Nat.le_of_ble_eq_true rfl) (Nat.le_of_ble_eq_true rfl) rfl (c_X12_add (d + 3) (σ := (fAdd (13) (v12 + v17) (0) (0) (0) σ53)) (k := 15) (e := σ.2.1 14 r) (o := 0) (ak := 0) (a := 0) (R49.add (by omega) (by omega) (by omega) (by omega) (by omega) (by omega)) (by omega)) (fun r58 σ59 hp => ?_)
  obtain ⟨rfl, f61⟩ := hp
  subst f61
  show Tm _ _ 364 b (fAdd (15) (σ.2.1 14 r) (0) (0) (0) (fAdd (13) (v12 + v17) (0) (0) (0) σ53)) [(10, .int (iI mk25)), (9, .int (iI (σ.2.1 4 (220 * r + k)))), (8, .int (iI (v12 + v17))), (7, .int (iI v12)), (6, .int (iI v8)), (5, .int (iI (σ.2.1 14 r))), (4, .int (iI (220 * r + k))), (0, .ref b), (1, .int (iI r)), (2, .int (iI k)), (3, .int (iI q))] [] _
  have f15 : Fr [62] [3, 4, 5, 6, 7, 8] [] σ (fAdd (15) (σ.2.1 14 r) (0) (0) (0) (fAdd (13) (v12 + v17) (0) (0) (0) σ53)) := (f14.trans fAdd_fr).trans fAdd_fr
  have n64 : (fAdd (15) (σ.2.1 14 r) (0) (0) (0) (fAdd (13) (v12 + v17) (0) (0) (0) σ53)).1 62 = σ53.1 62 + 1 + 1 := by rw [fAdd_n, fAdd_n]
  have hmk5 : (fAdd (15) (σ.2.1 14 r) (0) (0) (0) (fAdd (13) (v12 + v17) (0) (0) (0) σ53)).2.1 5 (220 * r + mk25) = frr k := by rw [(hend.1.2.2.2.2.2.1 _ (by omega)).2.2.1, hmk]; exact hj3
  refine tm_iconst dX12_meltOne_364 ?_
  refine tm_istore (L' := [(11, .int (iI 0)), (10, .int (iI mk25)), (9, .int (iI (σ.2.1 4 (220 * r + k)))), (8, .int (iI (v12 + v17))), (7, .int (iI v12)), (6, .int (iI v8)), (5, .int (iI (σ.2.1 14 r))), (4, .int (iI (220 * r + k))), (0, .ref b), (1, .int (iI r)), (2, .int (iI k)), (3, .int (iI q))]) dX12_meltOne_365 (by decide) rfl ?_
  refine tm_sub [0, 1, 2, 3, 4, 5, 6, 7, 8, 9, 10, 11] rfl (l_mo5 (d + 4) (σ0 := (fAdd (15) (σ.2.1 14 r) (0) (0) (0) (fAdd (13) (v12 + v17) (0) (0) (0) σ53))) (r := r) (k := k) (q := q) (f := σ.2.1 14 r) (base := v8) (lb := v12) (out := v12 + v17) (to := σ.2.1 4 (220 * r + k)) (mk := mk25) (ρ := σ) (FI := (FIx σ r q (σ.2.1 14 r) (frr k))) (lf := (lfx (σ.2.1 14 r) v12 (v12 + v17) lfq)) (frq := frq) (lfq := lfq) (g0 := (frr k)) (m := m) hmo ((R49.add (by omega) (by omega) (by omega) (by omega) (by omega) (by omega)).add (by omega) (by omega) (by omega) (by omega) (by omega) (by omega)) f15 ⟨hmk5, by omega, by omega⟩ hfiq (fun j67 σ68 F64 R65 f66 => ?_) _ (0) (fAdd (15) (σ.2.1 14 r) (0) (0) (0) (fAdd (13) (v12 + v17) (0) (0) (0) σ53)) Fr.rfl ((R49.add (by omega) (by omega) (by omega) (by omega) (by omega) (by omega)).add (by omega) (by omega) (by omega) (by omega) (by omega) (by omega)) (by omega) (FRM.start (by rw [f15.2.1 15 (by decide)]) (by rw [f15.2.1 16 (by decide)]) (by rw [f15.2.1 17 (by decide)]) (by rw [f15.2.1 18 (by decide)])) rfl)
  show Tm _ _ 550 b σ68 [(10, .int (iI mk25)), (9, .int (iI (σ.2.1 4 (220 * r + k)))), (8, .int (iI (v12 + v17))), (7, .int (iI v12)), (6, .int (iI v8)), (5, .int (iI (σ.2.1 14 r))), (4, .int (iI (220 * r + k))), (0, .ref b), (1, .int (iI r)), (2, .int (iI k)), (3, .int (iI q))] [] _
  have hfm := f66
  have fm5 := F64
  have s5_14 : σ68.2.1 14 = σ.2.1 14 := by rw [fm5.2.1 14 (by decide), f15.2.1 14 (by decide)]
  have s5_62 : σ68.1 62 = σ53.1 62 + 1 + 1 := by rw [fm5.1 62 (by decide)]; exact n64
  have s5_9 : σ68.2.1 9 r = σ.2.1 9 r := by rw [fm5.2.1 9 (by decide), f15.2.1 9 (by decide)]
  refine tm_aload_n dX12_meltOne_550 rfl 7 rfl ?_
  refine tm_get (k := 14) (v := .ref (b + 1 + 11)) lay_12 dX12_meltOne_551 (by decide) fl12_44 rfl ?_
  refine tm_iload_n dX12_meltOne_554 rfl 8 rfl ?_
  refine tm_dup2 dX12_meltOne_555 rfl rfl ?_
  refine tm_iald (z := r) (v := σ.2.1 14 r) dX12_meltOne_556 (show mT[11]? = some (14, 0, 6) from rfl) (by omega) (by omega) (by decide) (ra_F F64 (by decide) (ra_F fAdd_fr (by decide) (ra_F fAdd_fr (by decide) (ra_F F48 (by decide) (ra_F F40 (by decide) (ra_F F32 (by decide) (ra_F fAdd_fr (by decide) (ra_S (rfl))))))))) ?_
  have g69 := RG.a hR 14 (r)
  refine tm_aload_n dX12_meltOne_557 rfl 7 rfl ?_
  refine tm_get (k := 14) (v := .ref (b + 1 + 11)) lay_12 dX12_meltOne_558 (by decide) fl12_44 rfl ?_
  refine tm_iload_n dX12_meltOne_561 rfl 10 rfl ?_
  refine tm_iald (z := q) (v := σ.2.1 14 q) dX12_meltOne_562 (show mT[11]? = some (14, 0, 6) from rfl) (by omega) (by omega) (by decide) (ra_F F64 (by decide) (ra_F fAdd_fr (by decide) (ra_F fAdd_fr (by decide) (ra_F F48 (by decide) (ra_F F40 (by decide) (ra_F F32 (by decide) (ra_F fAdd_fr (by decide) (ra_S (rfl))))))))) ?_
  have g70 := RG.a hR 14 (q)
  refine tm_iadd dX12_meltOne_563 ?_
  refine tm_iast (z := r) (v := (σ.2.1 14 r) + (σ.2.1 14 q)) dX12_meltOne_564 (show mT[11]? = some (14, 0, 6) from rfl) (by omega) (by omega) (by decide) ?_
  refine tm_aload_n dX12_meltOne_565 rfl 7 rfl ?_
  refine tm_get (k := 9) (v := .ref (b + 1 + 7)) lay_12 dX12_meltOne_566 (by decide) fl12_32 rfl ?_
  refine tm_iload_n dX12_meltOne_569 rfl 8 rfl ?_
  refine tm_iald (z := r) (v := σ.2.1 9 r) dX12_meltOne_570 (show mT[7]? = some (9, 0, 13) from rfl) (by omega) (by omega) (by decide) (ra_o (by decide) (ra_F F64 (by decide) (ra_F fAdd_fr (by decide) (ra_F fAdd_fr (by decide) (ra_F F48 (by decide) (ra_F F40 (by decide) (ra_F F32 (by decide) (ra_F fAdd_fr (by decide) (ra_S (rfl)))))))))) ?_
  have g71 := RG.a hR 9 (r)
  refine tm_iconst dX12_meltOne_571 ?_
  refine tm_isub dX12_meltOne_572 ?_
  refine tm_istore (L' := [(11, .int (iI ((σ.2.1 9 r) - 1))), (10, .int (iI mk25)), (9, .int (iI (σ.2.1 4 (220 * r + k)))), (8, .int (iI (v12 + v17))), (7, .int (iI v12)), (6, .int (iI v8)), (5, .int (iI (σ.2.1 14 r))), (4, .int (iI (220 * r + k))), (0, .ref b), (1, .int (iI r)), (2, .int (iI k)), (3, .int (iI q))]) dX12_meltOne_573 (by decide) rfl ?_
  refine tm_sub [0, 1, 2, 3, 4, 5, 6, 7, 8, 9, 10, 11] rfl (l_mo7 (d + 4) (σ0 := (sA 14 (r) ((σ.2.1 14 r) + (σ.2.1 14 q)) σ68)) (r := r) (k := k) (q := q) (f := σ.2.1 14 r) (base := v8) (lb := v12) (out := v12 + v17) (to := σ.2.1 4 (220 * r + k)) (mk := mk25) (a := (σ53.1 62 + 1 + 1)) (nn := (σ.2.1 9 r)) (R65.A (by omega)) (by omega) ⟨s5_62, by omega, by omega, by omega⟩ (fun i77 σ78 F74 R75 f76 => ?_) _ ((σ.2.1 9 r) - 1) (sA 14 (r) ((σ.2.1 14 r) + (σ.2.1 14 q)) σ68) Fr.rfl (R65.A (by omega)) (by omega) SHU.start rfl)
  show Tm _ _ 612 b σ78 [(10, .int (iI mk25)), (9, .int (iI (σ.2.1 4 (220 * r + k)))), (8, .int (iI (v12 + v17))), (7, .int (iI v12)), (6, .int (iI v8)), (5, .int (iI (σ.2.1 14 r))), (4, .int (iI (220 * r + k))), (0, .ref b), (1, .int (iI r)), (2, .int (iI k)), (3, .int (iI q))] [] _
  have hsu := f76
  have f67 := F74
  have s7_62 : σ78.1 62 = (sA 14 (r) ((σ.2.1 14 r) + (σ.2.1 14 q)) σ68).1 62 := f67.1 62 (by decide)
  refine tm_iconst dX12_meltOne_612 ?_
  refine tm_istore (L' := [(11, .int (iI 0)), (10, .int (iI mk25)), (9, .int (iI (σ.2.1 4 (220 * r + k)))), (8, .int (iI (v12 + v17))), (7, .int (iI v12)), (6, .int (iI v8)), (5, .int (iI (σ.2.1 14 r))), (4, .int (iI (220 * r + k))), (0, .ref b), (1, .int (iI r)), (2, .int (iI k)), (3, .int (iI q))]) dX12_meltOne_613 (by decide) rfl ?_
  refine tm_sub [0, 1, 2, 3, 4, 5, 6, 7, 8, 9, 10, 11] rfl (l_mo8 (d + 4) (σ0 := σ78) (r := r) (k := k) (q := q) (f := σ.2.1 14 r) (base := v8) (lb := v12) (out := v12 + v17) (to := σ.2.1 4 (220 * r + k)) (mk := mk25) (a := (σ53.1 62 + 1 + 1)) R75 (by omega) ⟨s7_62.trans s5_62, by omega, by omega, by omega⟩ (fun i84 σ85 F81 R82 f83 => ?_) _ (0) σ78 Fr.rfl R75 (by omega) CPI.start rfl)
  show Tm _ _ 649 b σ85 [(10, .int (iI mk25)), (9, .int (iI (σ.2.1 4 (220 * r + k)))), (8, .int (iI (v12 + v17))), (7, .int (iI v12)), (6, .int (iI v8)), (5, .int (iI (σ.2.1 14 r))), (4, .int (iI (220 * r + k))), (0, .ref b), (1, .int (iI r)), (2, .int (iI k)), (3, .int (iI q))] [] _
  have hcp := f83
  have f78 := F81
  have s8_62 : σ85.1 62 = σ78.1 62 := f78.1 62 (by decide)
  refine tm_aload_n dX12_meltOne_649 rfl 7 rfl ?_
  refine tm_get (k := 9) (v := .ref (b + 1 + 7)) lay_12 dX12_meltOne_650 (by decide) fl12_32 rfl ?_
  refine tm_iload_n dX12_meltOne_653 rfl 8 rfl ?_
  refine tm_dup2 dX12_meltOne_654 rfl rfl ?_
  refine tm_iald (z := r) (v := σ.2.1 9 r) dX12_meltOne_655 (show mT[7]? = some (9, 0, 13) from rfl) (by omega) (by omega) (by decide) (ra_F F81 (by decide) (ra_F F74 (by decide) (ra_o (by decide) (ra_F F64 (by decide) (ra_F fAdd_fr (by decide) (ra_F fAdd_fr (by decide) (ra_F F48 (by decide) (ra_F F40 (by decide) (ra_F F32 (by decide) (ra_F fAdd_fr (by decide) (ra_S (rfl)))))))))))) ?_
  have g86 := RG.a hR 9 (r)
  refine tm_aload_n dX12_meltOne_656 rfl 7 rfl ?_
  refine tm_getS (k := 62) (t := (fAdd (15) (σ.2.1 14 r) (0) (0) (0) (fAdd (13) (v12 + v17) (0) (0) (0) σ53)).1 62) dX12_meltOne_657 (by decide) fl12_509 rfl (rs_F F81 (by decide) (rs_F F74 (by decide) (rs_A (rs_F F64 (by decide) (rfl))))) ?_
  refine tm_iconst dX12_meltOne_660 ?_
  refine tm_isub dX12_meltOne_661 ?_
  refine tm_iadd dX12_meltOne_662 ?_
  refine tm_iast (z := r) (v := (σ.2.1 9 r) + (((fAdd (15) (σ.2.1 14 r) (0) (0) (0) (fAdd (13) (v12 + v17) (0) (0) (0) σ53)).1 62) - 1)) dX12_meltOne_663 (show mT[7]? = some (9, 0, 13) from rfl) (by omega) (by omega) (by decide) ?_
  have hall := melt_all (ρ := σ) (σ1 := (fAdd (15) (σ.2.1 14 r) (0) (0) (0) (fAdd (13) (v12 + v17) (0) (0) (0) σ53))) (σ2 := (sA 14 (r) ((σ.2.1 14 r) + (σ.2.1 14 q)) σ68)) (σ3 := σ78) (σ4 := σ85) (τ := (sA 9 (r) ((σ.2.1 9 r) + (((fAdd (15) (σ.2.1 14 r) (0) (0) (0) (fAdd (13) (v12 + v17) (0) (0) (0) σ53)).1 62) - 1)) σ85)) (a := σ53.1 62 + 1 + 1) hmo h10 (by omega) (by omega) hcr hlex hlm hok hof hfi hfiq rfl hend.1 hend.2 hv1 (by omega) (fun f x y => FIx_lt y) (Fr.A (Fr.sub fm5 (by decide) (by decide) (by decide)) (by decide)) hsu hcp f67 f78 (by rw [n64]) f15 (hfm.fr ((Fr.rfl (ss := []) (ks := [14]) (js := [])).A (by decide)) (by decide)) (by simp only [sA, if_true, s5_14])
  refine tm_iload_n dX12_meltOne_664 rfl 9 rfl ?_
  refine tm_aload_n dX12_meltOne_665 rfl 7 rfl ?_
  refine tm_getS (k := 62) (t := (fAdd (15) (σ.2.1 14 r) (0) (0) (0) (fAdd (13) (v12 + v17) (0) (0) (0) σ53)).1 62) dX12_meltOne_666 (by decide) fl12_509 rfl (rs_A (rs_F F81 (by decide) (rs_F F74 (by decide) (rs_A (rs_F F64 (by decide) (rfl)))))) ?_
  refine tm_iadd dX12_meltOne_669 ?_
  exact tm_iret rfl dX12_meltOne_670 (⟨_, rfl, ((((((((((((Fr.rfl.S (by decide)).trans (Fr.sub fAdd_fr (by decide) (by decide) (by decide))).trans (Fr.sub F32 (by decide) (by decide) (by decide))).trans (Fr.sub F40 (by decide) (by decide) (by decide))).trans (Fr.sub F48 (by decide) (by decide) (by decide))).trans (Fr.sub fAdd_fr (by decide) (by decide) (by decide))).trans (Fr.sub fAdd_fr (by decide) (by decide) (by decide))).trans (Fr.sub F64 (by decide) (by decide) (by decide))).A (by decide)).trans (Fr.sub F74 (by decide) (by decide) (by decide))).trans (Fr.sub F81 (by decide) (by decide) (by decide))).A (by decide)), (R82.A (by omega)), hall.1.1, hall.1.2.1, hall.1.2.2.1, hall.1.2.2.2.1, hall.1.2.2.2.2, hall.2.1, hall.2.2.1, hall.2.2.2.1, ⟨⟨hall.2.2.2.2.1, by rw [hall.2.2.2.2.2]; omega⟩, by rw [hall.2.2.2.2.2]; omega⟩, by rw [hall.2.2.2.2.2]; omega⟩)
end
section
def GDR (σ : MS) (r : Int) : Prop := (1 ≤ σ.2.1 9 r ∧ σ.2.1 9 r ≤ 200) ∧ OKF σ r ∧ OKS σ (σ.2.1 14 r) r ∧ FR0 σ r ∧ LEX σ r ∧ CODE σ r ∧ FRI σ r ∧ LBM σ r ∧ σ.2.1 11 r ≤ σ.2.1 12 r
def GDA (σ : MS) : Prop := (0 ≤ σ.1 10 ∧ σ.1 10 ≤ 6) ∧ ∀ r, 0 ≤ r → r < σ.1 10 → GDR σ r
theorem GDR.fr {ss ks js : List Nat} {σ τ : MS} {r : Int} (h : GDR σ r) (f : Fr ss ks js σ τ) (hs : 10 ∉ ss) (hk : ∀ k ∈ [3, 4, 5, 6, 7, 8, 9, 11, 12, 14, 15, 16, 18], k ∉ ks) : GDR τ r := by
  have sub : ∀ l : List Nat, (∀ k ∈ l, k ∈ [3, 4, 5, 6, 7, 8, 9, 11, 12, 14, 15, 16, 18]) → ∀ k ∈ l, k ∉ ks := fun l hl k q => hk k (hl k q)
  obtain ⟨h1, h2, h3, h4, h5, h6, h7, h8, h9⟩ := h
  refine ⟨by rw [f.2.1 9 (hk 9 (by decide))]; exact h1, h2.fr f (sub _ (by decide)), ?_, ?_, h5.fr f (sub _ (by decide)), h6.fr f hs (sub _ (by decide)), h7.fr f (sub _ (by decide)), h8.fr f (sub _ (by decide)), by rw [f.2.1 11 (hk 11 (by decide)), f.2.1 12 (hk 12 (by decide))]; exact h9⟩
  · rw [f.2.1 14 (hk 14 (by decide))]; exact h3.fr f (sub _ (by decide))
  · unfold FR0; rw [f.2.1 15 (hk 15 (by decide))]; exact h4
theorem GDA.fr {ss ks js : List Nat} {σ τ : MS} (h : GDA σ) (f : Fr ss ks js σ τ) (hs : 10 ∉ ss) (hk : ∀ k ∈ [3, 4, 5, 6, 7, 8, 9, 11, 12, 14, 15, 16, 18], k ∉ ks) : GDA τ := ⟨by rw [f.1 10 hs]; exact h.1, fun r a b => (h.2 r a (by rw [← f.1 10 hs]; exact b)).fr f hs hk⟩
theorem GDA.rtn {σ : MS} (h : GDA σ) : RTN σ := ⟨h.1, fun r a b => ⟨(h.2 r a b).1, (h.2 r a b).2.1, (h.2 r a b).2.2.1, (h.2 r a b).2.2.2.1, (h.2 r a b).2.2.2.2.1⟩⟩
theorem GDR.oth {σ τ : MS} {r s : Int} (h : GDR σ s) (hs : 0 ≤ s ∧ s < 6 ∧ s ≠ r) (hn : NAM σ) (xr : XR r σ τ) (e9 : τ.2.1 9 s = σ.2.1 9 s) (e14 : τ.2.1 14 s = σ.2.1 14 s) (e11 : τ.2.1 11 = σ.2.1 11) (e12 : τ.2.1 12 = σ.2.1 12) (e10 : τ.1 10 = σ.1 10) (ey : ∀ y, (y < 12 * r ∨ 12 * r + 12 ≤ y) → τ.2.1 15 y = σ.2.1 15 y ∧ τ.2.1 16 y = σ.2.1 16 y) (ez : ∀ z, (z < 144 * r ∨ 144 * r + 144 ≤ z) → τ.2.1 18 z = σ.2.1 18 z) : GDR τ s := by
  obtain ⟨h1, h2, h3, h4, h5, h6, h7, h8, h9⟩ := h
  have ie : ∀ k, 0 ≤ k → k < 220 → IEQ σ (220 * s + k) τ (220 * s + k) := fun k a b => xr.ieq (by omega) (by omega)
  have b14 := h2.1
  refine ⟨by rw [e9]; exact h1, ?_, fun k a b => ?_, ?_, fun k a b e => ?_, ?_, ?_, fun k a b e => ?_, by rw [e11, e12]; exact h9⟩
  · unfold OKF
    rw [e14, e12]
    refine ⟨h2.1, fun f a b => ?_⟩
    have q := h2.2 f a b
    have qn := hn _ q.1.1 q.1.2
    rw [(ey (12 * s + f) (by omega)).1]
    exact ⟨q.1, fun n c d => by rw [ez _ (by omega)]; exact q.2 n c d⟩
  · rw [e9] at b
    rw [e14]
    exact (ie k a (by omega)).oki e11 (h3 k a b)
  · unfold FR0; rw [(ey (12 * s + 0) (by omega)).1]; exact h4
  · rw [e9] at b
    rw [(ie k a (by omega)).1] at e
    obtain ⟨j, j0, j1, j2, j3⟩ := h5 k a b e
    exact ⟨j, j0, by rw [e9]; exact j1, by rw [(ie j j0 (by omega)).1]; exact j2, by rw [(ie j j0 (by omega)).2.1, (ie k a (by omega)).2.1]; exact j3⟩
  · obtain ⟨fr, lf, c1, c2, c3, c4, c5⟩ := h6
    refine ⟨fr, lf, ?_⟩
    rw [e9, e14, e10]
    have k3 : ∀ k, 0 ≤ k → k < σ.2.1 9 s → iK τ s k = iK σ s k := fun k a b => (ie k a (by omega)).1
    have k4 : ∀ k, 0 ≤ k → k < σ.2.1 9 s → iD τ s k = iD σ s k := fun k a b => (ie k a (by omega)).2.1
    have k5 : ∀ k, 0 ≤ k → k < σ.2.1 9 s → iO τ s k = iO σ s k := fun k a b => (ie k a (by omega)).2.2.1
    have kf : ∀ f, 0 ≤ f → f < 12 → iF τ s f = iF σ s f := fun f a b => (ey (12 * s + f) (by omega)).2
    refine ⟨c1, c2, fun k a b x7 x8 => ?_, fun k a b => ?_, fun k a b e => ?_⟩
    · rw [k3 k a b] at x7 x8 ⊢
      rw [k4 k a b]
      obtain ⟨d1, d2, d3, d4⟩ := c3 k a b x7 x8
      refine ⟨d1, fun e => ?_, fun e => ?_, d4⟩
      · have q := d2 e
        have w := c2 (k + 1) (by omega) d1
        rw [kf _ (by omega) (by omega)]; exact q
      · have q := d3 e
        have w := c2 k a b
        rw [kf _ (by omega) (by omega)]; exact q
    · rw [k3 k a b, k4 k a b]; exact c4 k a b
    · rw [k3 k a b] at e
      obtain ⟨d0, j, d1, d2, d3, d4, d5⟩ := c5 k a b e
      exact ⟨by rw [k5 k a b]; exact d0, j, d1, d2, by rw [k3 j d1 (by omega)]; exact d3, by rw [k5 j d1 (by omega)]; exact d4, fun i x y => by rw [k3 i (by omega) (by omega)]; exact d5 i x y⟩
  · refine ⟨by rw [(ey (12 * s + 0) (by omega)).2]; exact h7.1, fun f a b => ?_⟩
    rw [e14] at b
    rw [(ey (12 * s + f) (by omega)).2]; exact h7.2 f a b
  · rw [e9] at b
    rw [(ie k a (by omega)).1] at e
    rw [(ie k a (by omega)).2.1, e14]; exact h8 k a b e
theorem GDA.of {σ τ : MS} {r : Int} (h : GDA σ) (hr : 0 ≤ r ∧ r < σ.1 10) (hn : NAM σ) (xr : XR r σ τ) (e9 : ∀ j, j ≠ r → τ.2.1 9 j = σ.2.1 9 j) (e14 : ∀ j, j ≠ r → τ.2.1 14 j = σ.2.1 14 j) (e11 : τ.2.1 11 = σ.2.1 11) (e12 : τ.2.1 12 = σ.2.1 12) (e10 : τ.1 10 = σ.1 10) (ey : ∀ y, (y < 12 * r ∨ 12 * r + 12 ≤ y) → τ.2.1 15 y = σ.2.1 15 y ∧ τ.2.1 16 y = σ.2.1 16 y) (ez : ∀ z, (z < 144 * r ∨ 144 * r + 144 ≤ z) → τ.2.1 18 z = σ.2.1 18 z) (g : GDR τ r) : GDA τ := by
  refine ⟨by rw [e10]; exact h.1, fun s a b => ?_⟩
  by_cases z : s = r
  · rw [z]; exact g
  · rw [e10] at b
    have := h.1
    exact (h.2 s a b).oth ⟨a, by omega, z⟩ hn xr (e9 s z) (e14 s z) e11 e12 e10 ey ez
theorem GDR.call {σ : MS} {r k : Int} (h : GDR σ r) (hk : 0 ≤ k ∧ k < σ.2.1 9 r) (e : σ.2.1 3 (220 * r + k) = 10) : 0 ≤ σ.2.1 5 (220 * r + k) ∧ σ.2.1 5 (220 * r + k) < σ.1 10 := by
  obtain ⟨fr, lf, c⟩ := h.2.2.2.2.2.1
  exact ⟨((h.2.2.1 k hk.1 hk.2).2.2.2.2.2.2.1 e).1, (c.2.2.2.2 k hk.1 hk.2 e).1⟩
theorem RGI_fr {σ τ : MS} {r m n : Int} (f : Fr [] [46, 59] [] σ τ) (h : RGI τ r m n) : RGI σ r m n := fun k a b => by
  have q := h k a b
  rw [f.2.1 3 (by decide), f.2.1 4 (by decide), nArgs.fr f (by decide), f.2.1 7 (by decide), f.2.1 8 (by decide)] at q
  exact q
theorem cnt_le {f : Int → Int} (hf : ∀ i, f i ≤ 1) (n : Nat) : cnt f n ≤ n := by
  induction n with
  | zero => exact Int.le_refl _
  | succ n ih =>
    have := hf n
    show cnt f n + f n ≤ _
    omega
theorem lcf_1 (ρ : MS) (q g : Int) : lcf ρ q g ≤ 1 := by unfold lcf; split <;> decide
theorem rcf_1 (ρ : MS) (q g : Int) : rcf ρ q g ≤ 1 := by unfold rcf; split <;> decide

theorem dX12_melt_118 : decode cX12_melt 118 = .ok (.iload 7, 2) := by decide +kernel
theorem dX12_melt_120 : decode cX12_melt 120 = .ok (.sipush 192, 3) := by decide +kernel
theorem dX12_melt_123 : decode cX12_melt 123 = .ok (.if_icmp .ge 40, 3) := by decide +kernel
theorem dX12_melt_126 : decode cX12_melt 126 = .ok (.iload 6, 2) := by decide +kernel
theorem dX12_melt_128 : decode cX12_melt 128 = .ok (.aload_n 0, 1) := by decide +kernel
theorem dX12_melt_129 : decode cX12_melt 129 = .ok (.getfield 130, 3) := by decide +kernel
theorem dX12_melt_132 : decode cX12_melt 132 = .ok (.iload 7, 2) := by decide +kernel
theorem dX12_melt_134 : decode cX12_melt 134 = .ok (.baload, 1) := by decide +kernel
theorem dX12_melt_135 : decode cX12_melt 135 = .ok (.ifCond .eq 18, 3) := by decide +kernel
theorem dX12_melt_153 : decode cX12_melt 153 = .ok (.iconst 0, 1) := by decide +kernel
theorem dX12_melt_154 : decode cX12_melt 154 = .ok (.iadd, 1) := by decide +kernel
theorem dX12_melt_155 : decode cX12_melt 155 = .ok (.istore 6, 2) := by decide +kernel
theorem dX12_melt_157 : decode cX12_melt 157 = .ok (.iinc 7 1, 3) := by decide +kernel
theorem dX12_melt_160 : decode cX12_melt 160 = .ok (.goto (-42), 3) := by decide +kernel
theorem dX12_melt_138 : decode cX12_melt 138 = .ok (.aload_n 0, 1) := by decide +kernel
theorem dX12_melt_139 : decode cX12_melt 139 = .ok (.iload 5, 2) := by decide +kernel
theorem dX12_melt_141 : decode cX12_melt 141 = .ok (.iload 7, 2) := by decide +kernel
theorem dX12_melt_143 : decode cX12_melt 143 = .ok (.invokevirtual 503, 3) := by decide +kernel
theorem dX12_melt_146 : decode cX12_melt 146 = .ok (.ifCond .ne 7, 3) := by decide +kernel
theorem dX12_melt_149 : decode cX12_melt 149 = .ok (.iconst 1, 1) := by decide +kernel
theorem dX12_melt_150 : decode cX12_melt 150 = .ok (.goto 4, 3) := by decide +kernel
set_option maxHeartbeats 2000000 in
set_option maxRecDepth 20000 in
theorem l_me2 (d : Nat) {b : Nat} {σ : MS} {r : Int} {k : Int} {q : Int} {tl : Int} {W0 : Int} {post : Option Value → MS → Prop} (hq : 0 ≤ q ∧ q < 6) (hR : RG σ) (hpar : PAR σ) (hbl : BO 59 σ) (hx_163 : ∀ (w : Int) (g : Int) , (w = W0 + cnt (lcf σ q) 192) → Tm (d + 2) m_X12_melt 163 b σ [(6, .int (iI w)), (5, .int (iI q)), (4, .int (iI (220 * r + k))), (3, .int (iI k)), (2, .int (iI tl)), (0, .ref b), (1, .int (iI r))] [] post) : ∀ (n : Nat) (w : Int) (g : Int) , (0 ≤ g ∧ g ≤ 192) → (w = W0 + cnt (lcf σ q) g.toNat) → (192 - g).toNat = n → Tm (d + 2) m_X12_melt 118 b σ [(7, .int (iI g)), (6, .int (iI w)), (5, .int (iI q)), (4, .int (iI (220 * r + k))), (3, .int (iI k)), (2, .int (iI tl)), (0, .ref b), (1, .int (iI r))] [] post := by
  intro n
  induction n using Nat.strongRecOn with
  | _ n ih =>
    intro w g h0 hc hm
    have mpa := hpar q (by omega) (by omega)
    refine tm_iload dX12_melt_118 0 rfl ?_
    refine tm_sipush dX12_melt_120 (by decide) ?_
    refine tm_icmp_ge (tgt := 163) dX12_melt_123 (by decide) ⟨by omega, by omega⟩ ⟨by decide, by decide⟩ (fun h1 => ?_) (fun h1 => ?_)
    · exact tm_sub [1, 2, 3, 4, 5, 6, 7] rfl (hx_163 (w) (0) (by rw [show g.toNat = 192 by omega] at hc; exact hc))
    · have hb59 := hbl g
      refine tm_iload dX12_melt_126 1 rfl ?_
      refine tm_aload_n dX12_melt_128 rfl 6 rfl ?_
      refine tm_get (k := 59) (v := .ref (b + 1 + 37)) lay_12 dX12_melt_129 (by decide) fl12_130 rfl ?_
      refine tm_iload dX12_melt_132 0 rfl ?_
      refine tm_zald (z := g) (v := σ.2.1 59 g) dX12_melt_134 (show mT[37]? = some (59, 2, 42432) from rfl) (by omega) (by omega) (by decide) (rfl) ?_
      have g2 := RG.a hR 59 (g)
      have := hbl (g)
      refine tm_if_eq (tgt := 153) dX12_melt_135 (by decide) ⟨by omega, by omega⟩ (fun h3 => ?_) (fun h3 => ?_)
      · refine tm_iconst dX12_melt_153 ?_
        refine tm_iadd dX12_melt_154 ?_
        refine tm_istore (L' := [(6, .int (iI (w + 0))), (7, .int (iI g)), (5, .int (iI q)), (4, .int (iI (220 * r + k))), (3, .int (iI k)), (2, .int (iI tl)), (0, .ref b), (1, .int (iI r))]) dX12_melt_155 (by decide) rfl ?_
        refine tm_iinc (q0 := 1) (L' := [(7, .int (iI (g + 1))), (6, .int (iI (w + 0))), (5, .int (iI q)), (4, .int (iI (220 * r + k))), (3, .int (iI k)), (2, .int (iI tl)), (0, .ref b), (1, .int (iI r))]) dX12_melt_157 rfl (by decide) rfl ?_
        refine tm_goto (tgt := 118) dX12_melt_160 (by decide) ?_
        exact tm_sub [0, 1, 2, 3, 4, 5, 6, 7] rfl (ih _ (by omega) (w + 0) (g + 1) (by omega) (by rw [cnt_s (by omega)]; first | (rw [show lcf σ q g = 0 from lcf_n (by omega)]; omega) | (rw [show lcf σ q g = 0 from lcf_p (by omega) (hP.mp (by omega))]; omega) | (rw [lcf_y (by omega) (fun w => absurd (hP.mpr w) (by omega))]; omega)) rfl)
      · refine tm_aload_n dX12_melt_138 rfl 6 rfl ?_
        refine tm_iload dX12_melt_139 2 rfl ?_
        refine tm_iload dX12_melt_141 0 rfl ?_
        refine tm_callV (M := m_X12_melt) (pc := 143) (ix := 503) (M' := m_X12_isParam) (As := [.int (iI q), .int (iI g)]) (rest := [.int (iI w)]) dX12_melt_143 ok_X12_isParam im_X12_isParam se_X12_isParam ml12_503 np_X12_isParam rfl rfl (Nat.le_of_ble_eq_true rfl) (Nat.le_of_ble_eq_true rfl) rfl (c_X12_isParam (d) (σ := σ) (r := q) (g := g) (by omega) hR hpar (by omega)) (fun r4 σ5 hp => ?_)
        obtain ⟨v6, rfl, rfl, f7, f8⟩ := hp
        show Tm _ _ 146 b σ [(7, .int (iI g)), (6, .int (iI w)), (5, .int (iI q)), (4, .int (iI (220 * r + k))), (3, .int (iI k)), (2, .int (iI tl)), (0, .ref b), (1, .int (iI r))] [.int (iI v6), .int (iI w)] _
        have hP : v6 = 1 ↔ PMQ σ q g := f8
        clear f8
        refine tm_if_ne (tgt := 153) dX12_melt_146 (by decide) ⟨by omega, by omega⟩ (fun h9 => ?_) (fun h9 => ?_)
        · refine tm_iconst dX12_melt_153 ?_
          refine tm_iadd dX12_melt_154 ?_
          refine tm_istore (L' := [(6, .int (iI (w + 0))), (7, .int (iI g)), (5, .int (iI q)), (4, .int (iI (220 * r + k))), (3, .int (iI k)), (2, .int (iI tl)), (0, .ref b), (1, .int (iI r))]) dX12_melt_155 (by decide) rfl ?_
          refine tm_iinc (q0 := 1) (L' := [(7, .int (iI (g + 1))), (6, .int (iI (w + 0))), (5, .int (iI q)), (4, .int (iI (220 * r + k))), (3, .int (iI k)), (2, .int (iI tl)), (0, .ref b), (1, .int (iI r))]) dX12_melt_157 rfl (by decide) rfl ?_
          refine tm_goto (tgt := 118) dX12_melt_160 (by decide) ?_
          exact tm_sub [0, 1, 2, 3, 4, 5, 6, 7] rfl (ih _ (by omega) (w + 0) (g + 1) (by omega) (by rw [cnt_s (by omega)]; first | (rw [show lcf σ q g = 0 from lcf_n (by omega)]; omega) | (rw [show lcf σ q g = 0 from lcf_p (by omega) (hP.mp (by omega))]; omega) | (rw [lcf_y (by omega) (fun w => absurd (hP.mpr w) (by omega))]; omega)) rfl)
        · refine tm_iconst dX12_melt_149 ?_
          refine tm_goto (tgt := 154) dX12_melt_150 (by decide) ?_
          refine tm_iadd dX12_melt_154 ?_
          refine tm_istore (L' := [(6, .int (iI (w + 1))), (7, .int (iI g)), (5, .int (iI q)), (4, .int (iI (220 * r + k))), (3, .int (iI k)), (2, .int (iI tl)), (0, .ref b), (1, .int (iI r))]) dX12_melt_155 (by decide) rfl ?_
          refine tm_iinc (q0 := 1) (L' := [(7, .int (iI (g + 1))), (6, .int (iI (w + 1))), (5, .int (iI q)), (4, .int (iI (220 * r + k))), (3, .int (iI k)), (2, .int (iI tl)), (0, .ref b), (1, .int (iI r))]) dX12_melt_157 rfl (by decide) rfl ?_
          refine tm_goto (tgt := 118) dX12_melt_160 (by decide) ?_
          exact tm_sub [0, 1, 2, 3, 4, 5, 6, 7] rfl (ih _ (by omega) (w + 1) (g + 1) (by omega) (by rw [cnt_s (by omega)]; first | (rw [show lcf σ q g = 0 from lcf_n (by omega)]; omega) | (rw [show lcf σ q g = 0 from lcf_p (by omega) (hP.mp (by omega))]; omega) | (rw [lcf_y (by omega) (fun w => absurd (hP.mpr w) (by omega))]; omega)) rfl)
theorem dX12_melt_166 : decode cX12_melt 166 = .ok (.iload 7, 2) := by decide +kernel
theorem dX12_melt_168 : decode cX12_melt 168 = .ok (.aload_n 0, 1) := by decide +kernel
theorem dX12_melt_169 : decode cX12_melt 169 = .ok (.getfield 32, 3) := by decide +kernel
theorem dX12_melt_172 : decode cX12_melt 172 = .ok (.iload 5, 2) := by decide +kernel
theorem dX12_melt_174 : decode cX12_melt 174 = .ok (.iaload, 1) := by decide +kernel
theorem dX12_melt_175 : decode cX12_melt 175 = .ok (.if_icmp .ge 37, 3) := by decide +kernel
theorem dX12_melt_178 : decode cX12_melt 178 = .ok (.iload 6, 2) := by decide +kernel
theorem dX12_melt_180 : decode cX12_melt 180 = .ok (.aload_n 0, 1) := by decide +kernel
theorem dX12_melt_181 : decode cX12_melt 181 = .ok (.getfield 13, 3) := by decide +kernel
theorem dX12_melt_184 : decode cX12_melt 184 = .ok (.aload_n 0, 1) := by decide +kernel
theorem dX12_melt_185 : decode cX12_melt 185 = .ok (.iload 5, 2) := by decide +kernel
theorem dX12_melt_187 : decode cX12_melt 187 = .ok (.iload 7, 2) := by decide +kernel
theorem dX12_melt_189 : decode cX12_melt 189 = .ok (.invokevirtual 203, 3) := by decide +kernel
theorem dX12_melt_192 : decode cX12_melt 192 = .ok (.iaload, 1) := by decide +kernel
theorem dX12_melt_193 : decode cX12_melt 193 = .ok (.bipush 7, 2) := by decide +kernel
theorem dX12_melt_195 : decode cX12_melt 195 = .ok (.if_icmp .ne 7, 3) := by decide +kernel
theorem dX12_melt_202 : decode cX12_melt 202 = .ok (.iconst 0, 1) := by decide +kernel
theorem dX12_melt_203 : decode cX12_melt 203 = .ok (.iadd, 1) := by decide +kernel
theorem dX12_melt_204 : decode cX12_melt 204 = .ok (.istore 6, 2) := by decide +kernel
theorem dX12_melt_206 : decode cX12_melt 206 = .ok (.iinc 7 1, 3) := by decide +kernel
theorem dX12_melt_209 : decode cX12_melt 209 = .ok (.goto (-43), 3) := by decide +kernel
theorem dX12_melt_198 : decode cX12_melt 198 = .ok (.iconst 1, 1) := by decide +kernel
theorem dX12_melt_199 : decode cX12_melt 199 = .ok (.goto 4, 3) := by decide +kernel
set_option maxHeartbeats 2000000 in
set_option maxRecDepth 20000 in
theorem l_me3 (d : Nat) {b : Nat} {σ : MS} {r : Int} {k : Int} {q : Int} {tl : Int} {W0 : Int} {post : Option Value → MS → Prop} (hq : 0 ≤ q ∧ q < 6) (hR : RG σ) (hn : 0 ≤ σ.2.1 9 q ∧ σ.2.1 9 q ≤ 220) (hx_212 : ∀ (w : Int) (i : Int) , (w = W0 + cnt (rcf σ q) (σ.2.1 9 q).toNat) → Tm (d + 2) m_X12_melt 212 b σ [(6, .int (iI w)), (5, .int (iI q)), (4, .int (iI (220 * r + k))), (3, .int (iI k)), (2, .int (iI tl)), (0, .ref b), (1, .int (iI r))] [] post) : ∀ (n : Nat) (w : Int) (i : Int) , (0 ≤ i ∧ i ≤ σ.2.1 9 q) → (w = W0 + cnt (rcf σ q) i.toNat) → (220 - i).toNat = n → Tm (d + 2) m_X12_melt 166 b σ [(7, .int (iI i)), (6, .int (iI w)), (5, .int (iI q)), (4, .int (iI (220 * r + k))), (3, .int (iI k)), (2, .int (iI tl)), (0, .ref b), (1, .int (iI r))] [] post := by
  intro n
  induction n using Nat.strongRecOn with
  | _ n ih =>
    intro w i h0 hc hm
    refine tm_iload dX12_melt_166 0 rfl ?_
    refine tm_aload_n dX12_melt_168 rfl 6 rfl ?_
    refine tm_get (k := 9) (v := .ref (b + 1 + 7)) lay_12 dX12_melt_169 (by decide) fl12_32 rfl ?_
    refine tm_iload dX12_melt_172 2 rfl ?_
    refine tm_iald (z := q) (v := σ.2.1 9 q) dX12_melt_174 (show mT[7]? = some (9, 0, 13) from rfl) (by omega) (by omega) (by decide) (rfl) ?_
    have g1 := RG.a hR 9 (q)
    refine tm_icmp_ge (tgt := 212) dX12_melt_175 (by decide) ⟨by omega, by omega⟩ ⟨by omega, by omega⟩ (fun h2 => ?_) (fun h2 => ?_)
    · exact tm_sub [1, 2, 3, 4, 5, 6, 7] rfl (hx_212 (w) (0) (by rw [show i = σ.2.1 9 q by omega] at hc; exact hc))
    · refine tm_iload dX12_melt_178 1 rfl ?_
      refine tm_aload_n dX12_melt_180 rfl 6 rfl ?_
      refine tm_get (k := 3) (v := .ref (b + 1 + 1)) lay_12 dX12_melt_181 (by decide) fl12_13 rfl ?_
      refine tm_aload_n dX12_melt_184 rfl 6 rfl ?_
      refine tm_iload dX12_melt_185 2 rfl ?_
      refine tm_iload dX12_melt_187 0 rfl ?_
      refine tm_callV (M := m_X12_melt) (pc := 189) (ix := 203) (M' := m_X12_at) (As := [.int (iI q), .int (iI i)]) (rest := [.ref (b + 1 + 1), .int (iI w)]) dX12_melt_189 ok_X12_at im_X12_at se_X12_at ml12_203 np_X12_at rfl rfl (Nat.le_of_ble_eq_true rfl) (Nat.le_of_ble_eq_true rfl) rfl (c_X12_at (d) (σ := σ) (x := q) (k := i) ) (fun r3 σ4 hp => ?_)
      obtain ⟨v5, rfl, rfl, f6⟩ := hp
      subst f6
      show Tm _ _ 192 b σ [(7, .int (iI i)), (6, .int (iI w)), (5, .int (iI q)), (4, .int (iI (220 * r + k))), (3, .int (iI k)), (2, .int (iI tl)), (0, .ref b), (1, .int (iI r))] [.int (iI (220 * q + i)), .ref (b + 1 + 1), .int (iI w)] _
      refine tm_iald (z := 220 * q + i) (v := σ.2.1 3 (220 * q + i)) dX12_melt_192 (show mT[1]? = some (3, 0, 2860) from rfl) (by omega) (by omega) (by decide) (rfl) ?_
      have g7 := RG.a hR 3 (220 * q + i)
      refine tm_bipush dX12_melt_193 (by decide) ?_
      refine tm_icmp_ne (tgt := 202) dX12_melt_195 (by decide) ⟨by omega, by omega⟩ ⟨by decide, by decide⟩ (fun h8 => ?_) (fun h8 => ?_)
      · refine tm_iconst dX12_melt_202 ?_
        refine tm_iadd dX12_melt_203 ?_
        refine tm_istore (L' := [(6, .int (iI (w + 0))), (7, .int (iI i)), (5, .int (iI q)), (4, .int (iI (220 * r + k))), (3, .int (iI k)), (2, .int (iI tl)), (0, .ref b), (1, .int (iI r))]) dX12_melt_204 (by decide) rfl ?_
        refine tm_iinc (q0 := 1) (L' := [(7, .int (iI (i + 1))), (6, .int (iI (w + 0))), (5, .int (iI q)), (4, .int (iI (220 * r + k))), (3, .int (iI k)), (2, .int (iI tl)), (0, .ref b), (1, .int (iI r))]) dX12_melt_206 rfl (by decide) rfl ?_
        refine tm_goto (tgt := 166) dX12_melt_209 (by decide) ?_
        exact tm_sub [0, 1, 2, 3, 4, 5, 6, 7] rfl (ih _ (by omega) (w + 0) (i + 1) (by omega) (by rw [cnt_s (by omega), show rcf σ q i = (if σ.2.1 3 (220 * q + i) = 7 then 1 else 0) from rfl]; split <;> omega) rfl)
      · refine tm_iconst dX12_melt_198 ?_
        refine tm_goto (tgt := 203) dX12_melt_199 (by decide) ?_
        refine tm_iadd dX12_melt_203 ?_
        refine tm_istore (L' := [(6, .int (iI (w + 1))), (7, .int (iI i)), (5, .int (iI q)), (4, .int (iI (220 * r + k))), (3, .int (iI k)), (2, .int (iI tl)), (0, .ref b), (1, .int (iI r))]) dX12_melt_204 (by decide) rfl ?_
        refine tm_iinc (q0 := 1) (L' := [(7, .int (iI (i + 1))), (6, .int (iI (w + 1))), (5, .int (iI q)), (4, .int (iI (220 * r + k))), (3, .int (iI k)), (2, .int (iI tl)), (0, .ref b), (1, .int (iI r))]) dX12_melt_206 rfl (by decide) rfl ?_
        refine tm_goto (tgt := 166) dX12_melt_209 (by decide) ?_
        exact tm_sub [0, 1, 2, 3, 4, 5, 6, 7] rfl (ih _ (by omega) (w + 1) (i + 1) (by omega) (by rw [cnt_s (by omega), show rcf σ q i = (if σ.2.1 3 (220 * q + i) = 7 then 1 else 0) from rfl]; split <;> omega) rfl)
theorem ml12_500 : Cond.methodLink RX12 500 yX12_hasCall ∈ pWW := pw9 (List.mem_of_getElem? (i := 185) rfl) rfl
theorem ml12_506 : Cond.methodLink RX12 506 yX12_meltOne ∈ pWW := pw9 (List.mem_of_getElem? (i := 193) rfl) rfl
theorem dX12_melt_4 : decode cX12_melt 4 = .ok (.iload_n 3, 1) := by decide +kernel
theorem dX12_melt_5 : decode cX12_melt 5 = .ok (.aload_n 0, 1) := by decide +kernel
theorem dX12_melt_6 : decode cX12_melt 6 = .ok (.getfield 32, 3) := by decide +kernel
theorem dX12_melt_9 : decode cX12_melt 9 = .ok (.iload_n 1, 1) := by decide +kernel
theorem dX12_melt_10 : decode cX12_melt 10 = .ok (.iaload, 1) := by decide +kernel
theorem dX12_melt_11 : decode cX12_melt 11 = .ok (.if_icmp .ge 266, 3) := by decide +kernel
theorem dX12_melt_14 : decode cX12_melt 14 = .ok (.aload_n 0, 1) := by decide +kernel
theorem dX12_melt_15 : decode cX12_melt 15 = .ok (.iload_n 1, 1) := by decide +kernel
theorem dX12_melt_16 : decode cX12_melt 16 = .ok (.iload_n 3, 1) := by decide +kernel
theorem dX12_melt_17 : decode cX12_melt 17 = .ok (.invokevirtual 203, 3) := by decide +kernel
theorem dX12_melt_20 : decode cX12_melt 20 = .ok (.istore 4, 2) := by decide +kernel
theorem dX12_melt_22 : decode cX12_melt 22 = .ok (.aload_n 0, 1) := by decide +kernel
theorem dX12_melt_23 : decode cX12_melt 23 = .ok (.getfield 20, 3) := by decide +kernel
theorem dX12_melt_26 : decode cX12_melt 26 = .ok (.iload 4, 2) := by decide +kernel
theorem dX12_melt_28 : decode cX12_melt 28 = .ok (.iaload, 1) := by decide +kernel
theorem dX12_melt_29 : decode cX12_melt 29 = .ok (.istore 5, 2) := by decide +kernel
theorem dX12_melt_31 : decode cX12_melt 31 = .ok (.aload_n 0, 1) := by decide +kernel
theorem dX12_melt_32 : decode cX12_melt 32 = .ok (.getfield 13, 3) := by decide +kernel
theorem dX12_melt_35 : decode cX12_melt 35 = .ok (.iload 4, 2) := by decide +kernel
theorem dX12_melt_37 : decode cX12_melt 37 = .ok (.iaload, 1) := by decide +kernel
theorem dX12_melt_38 : decode cX12_melt 38 = .ok (.bipush 10, 2) := by decide +kernel
theorem dX12_melt_40 : decode cX12_melt 40 = .ok (.if_icmp .ne 29, 3) := by decide +kernel
theorem dX12_melt_69 : decode cX12_melt 69 = .ok (.iinc 3 1, 3) := by decide +kernel
theorem dX12_melt_72 : decode cX12_melt 72 = .ok (.goto (-68), 3) := by decide +kernel
theorem dX12_melt_43 : decode cX12_melt 43 = .ok (.iload 5, 2) := by decide +kernel
theorem dX12_melt_45 : decode cX12_melt 45 = .ok (.iload_n 1, 1) := by decide +kernel
theorem dX12_melt_46 : decode cX12_melt 46 = .ok (.if_icmp .eq 23, 3) := by decide +kernel
theorem dX12_melt_49 : decode cX12_melt 49 = .ok (.aload_n 0, 1) := by decide +kernel
theorem dX12_melt_50 : decode cX12_melt 50 = .ok (.iload 5, 2) := by decide +kernel
theorem dX12_melt_52 : decode cX12_melt 52 = .ok (.invokevirtual 500, 3) := by decide +kernel
theorem dX12_melt_55 : decode cX12_melt 55 = .ok (.ifCond .ne 14, 3) := by decide +kernel
theorem dX12_melt_58 : decode cX12_melt 58 = .ok (.aload_n 0, 1) := by decide +kernel
theorem dX12_melt_59 : decode cX12_melt 59 = .ok (.iload 5, 2) := by decide +kernel
theorem dX12_melt_61 : decode cX12_melt 61 = .ok (.invokevirtual 407, 3) := by decide +kernel
theorem dX12_melt_64 : decode cX12_melt 64 = .ok (.bipush 20, 2) := by decide +kernel
theorem dX12_melt_66 : decode cX12_melt 66 = .ok (.if_icmp .le 9, 3) := by decide +kernel
theorem dX12_melt_75 : decode cX12_melt 75 = .ok (.aload_n 0, 1) := by decide +kernel
theorem dX12_melt_76 : decode cX12_melt 76 = .ok (.iload 5, 2) := by decide +kernel
theorem dX12_melt_78 : decode cX12_melt 78 = .ok (.invokevirtual 475, 3) := by decide +kernel
theorem dX12_melt_81 : decode cX12_melt 81 = .ok (.aload_n 0, 1) := by decide +kernel
theorem dX12_melt_82 : decode cX12_melt 82 = .ok (.getfield 32, 3) := by decide +kernel
theorem dX12_melt_85 : decode cX12_melt 85 = .ok (.iload_n 1, 1) := by decide +kernel
theorem dX12_melt_86 : decode cX12_melt 86 = .ok (.iaload, 1) := by decide +kernel
theorem dX12_melt_87 : decode cX12_melt 87 = .ok (.iconst 2, 1) := by decide +kernel
theorem dX12_melt_88 : decode cX12_melt 88 = .ok (.iadd, 1) := by decide +kernel
theorem dX12_melt_89 : decode cX12_melt 89 = .ok (.aload_n 0, 1) := by decide +kernel
theorem dX12_melt_90 : decode cX12_melt 90 = .ok (.getfield 35, 3) := by decide +kernel
theorem dX12_melt_93 : decode cX12_melt 93 = .ok (.iload 5, 2) := by decide +kernel
theorem dX12_melt_95 : decode cX12_melt 95 = .ok (.iaload, 1) := by decide +kernel
theorem dX12_melt_96 : decode cX12_melt 96 = .ok (.iadd, 1) := by decide +kernel
theorem dX12_melt_97 : decode cX12_melt 97 = .ok (.aload_n 0, 1) := by decide +kernel
theorem dX12_melt_98 : decode cX12_melt 98 = .ok (.getfield 38, 3) := by decide +kernel
theorem dX12_melt_101 : decode cX12_melt 101 = .ok (.iload 5, 2) := by decide +kernel
theorem dX12_melt_103 : decode cX12_melt 103 = .ok (.iaload, 1) := by decide +kernel
theorem dX12_melt_104 : decode cX12_melt 104 = .ok (.iadd, 1) := by decide +kernel
theorem dX12_melt_105 : decode cX12_melt 105 = .ok (.aload_n 0, 1) := by decide +kernel
theorem dX12_melt_106 : decode cX12_melt 106 = .ok (.getfield 32, 3) := by decide +kernel
theorem dX12_melt_109 : decode cX12_melt 109 = .ok (.iload 5, 2) := by decide +kernel
theorem dX12_melt_111 : decode cX12_melt 111 = .ok (.iaload, 1) := by decide +kernel
theorem dX12_melt_112 : decode cX12_melt 112 = .ok (.iadd, 1) := by decide +kernel
theorem dX12_melt_113 : decode cX12_melt 113 = .ok (.istore 6, 2) := by decide +kernel
theorem dX12_melt_115 : decode cX12_melt 115 = .ok (.iconst 0, 1) := by decide +kernel
theorem dX12_melt_116 : decode cX12_melt 116 = .ok (.istore 7, 2) := by decide +kernel
theorem dX12_melt_163 : decode cX12_melt 163 = .ok (.iconst 0, 1) := by decide +kernel
theorem dX12_melt_164 : decode cX12_melt 164 = .ok (.istore 7, 2) := by decide +kernel
theorem dX12_melt_212 : decode cX12_melt 212 = .ok (.iload 6, 2) := by decide +kernel
theorem dX12_melt_214 : decode cX12_melt 214 = .ok (.sipush 200, 3) := by decide +kernel
theorem dX12_melt_217 : decode cX12_melt 217 = .ok (.if_icmp .gt 39, 3) := by decide +kernel
theorem dX12_melt_256 : decode cX12_melt 256 = .ok (.iinc 3 1, 3) := by decide +kernel
theorem dX12_melt_259 : decode cX12_melt 259 = .ok (.goto (-255), 3) := by decide +kernel
theorem dX12_melt_220 : decode cX12_melt 220 = .ok (.aload_n 0, 1) := by decide +kernel
theorem dX12_melt_221 : decode cX12_melt 221 = .ok (.iload_n 1, 1) := by decide +kernel
theorem dX12_melt_222 : decode cX12_melt 222 = .ok (.invokevirtual 410, 3) := by decide +kernel
theorem dX12_melt_225 : decode cX12_melt 225 = .ok (.aload_n 0, 1) := by decide +kernel
theorem dX12_melt_226 : decode cX12_melt 226 = .ok (.iload 5, 2) := by decide +kernel
theorem dX12_melt_228 : decode cX12_melt 228 = .ok (.invokevirtual 410, 3) := by decide +kernel
theorem dX12_melt_231 : decode cX12_melt 231 = .ok (.iadd, 1) := by decide +kernel
theorem dX12_melt_232 : decode cX12_melt 232 = .ok (.bipush 100, 2) := by decide +kernel
theorem dX12_melt_234 : decode cX12_melt 234 = .ok (.if_icmp .gt 22, 3) := by decide +kernel
theorem dX12_melt_237 : decode cX12_melt 237 = .ok (.aload_n 0, 1) := by decide +kernel
theorem dX12_melt_238 : decode cX12_melt 238 = .ok (.getfield 44, 3) := by decide +kernel
theorem dX12_melt_241 : decode cX12_melt 241 = .ok (.iload_n 1, 1) := by decide +kernel
theorem dX12_melt_242 : decode cX12_melt 242 = .ok (.iaload, 1) := by decide +kernel
theorem dX12_melt_243 : decode cX12_melt 243 = .ok (.aload_n 0, 1) := by decide +kernel
theorem dX12_melt_244 : decode cX12_melt 244 = .ok (.getfield 44, 3) := by decide +kernel
theorem dX12_melt_247 : decode cX12_melt 247 = .ok (.iload 5, 2) := by decide +kernel
theorem dX12_melt_249 : decode cX12_melt 249 = .ok (.iaload, 1) := by decide +kernel
theorem dX12_melt_250 : decode cX12_melt 250 = .ok (.iadd, 1) := by decide +kernel
theorem dX12_melt_251 : decode cX12_melt 251 = .ok (.bipush 12, 2) := by decide +kernel
theorem dX12_melt_253 : decode cX12_melt 253 = .ok (.if_icmp .le 9, 3) := by decide +kernel
theorem dX12_melt_262 : decode cX12_melt 262 = .ok (.aload_n 0, 1) := by decide +kernel
theorem dX12_melt_263 : decode cX12_melt 263 = .ok (.iload_n 1, 1) := by decide +kernel
theorem dX12_melt_264 : decode cX12_melt 264 = .ok (.iload_n 3, 1) := by decide +kernel
theorem dX12_melt_265 : decode cX12_melt 265 = .ok (.iload 5, 2) := by decide +kernel
theorem dX12_melt_267 : decode cX12_melt 267 = .ok (.invokevirtual 506, 3) := by decide +kernel
theorem dX12_melt_270 : decode cX12_melt 270 = .ok (.istore_n 3, 1) := by decide +kernel
theorem dX12_melt_271 : decode cX12_melt 271 = .ok (.iinc 2 1, 3) := by decide +kernel
theorem dX12_melt_274 : decode cX12_melt 274 = .ok (.goto (-270), 3) := by decide +kernel
set_option maxHeartbeats 2000000 in
set_option maxRecDepth 20000 in
theorem l_me1 (d : Nat) {b : Nat} {σ0 : MS} {r : Int} {post : Option Value → MS → Prop} (hr : 0 ≤ r ∧ r < σ0.1 10) (hR0 : RG σ0) (hit : ITM σ0) (hpar : PAR σ0) (hnam : NAM σ0) (hx_277 : ∀ (tl : Int) (k : Int) (σ : MS) , (Fr [62] [3, 4, 5, 6, 7, 8, 9, 14, 15, 16, 17, 18, 46, 59] [] σ0 σ) → (RG σ) → (GDA σ) → (LAB σ) → (BO 59 σ) → (∀ j, j ≠ r → σ.2.1 9 j = σ0.2.1 9 j) → (XR r σ0 σ) → Tm (d + 7) m_X12_melt 277 b σ [(3, .int (iI k)), (2, .int (iI tl)), (0, .ref b), (1, .int (iI r))] [] post) : ∀ (n : Nat) (tl : Int) (k : Int) (σ : MS) , (Fr [62] [3, 4, 5, 6, 7, 8, 9, 14, 15, 16, 17, 18, 46, 59] [] σ0 σ) → (RG σ) → (0 ≤ k ∧ k ≤ σ.2.1 9 r) → (GDA σ) → (LAB σ) → (BO 59 σ) → (∀ j, j ≠ r → σ.2.1 9 j = σ0.2.1 9 j) → (XR r σ0 σ) → (σ.2.1 9 r - k).toNat = n → Tm (d + 7) m_X12_melt 4 b σ [(3, .int (iI k)), (2, .int (iI tl)), (0, .ref b), (1, .int (iI r))] [] post := by
  intro n
  induction n using Nat.strongRecOn with
  | _ n ih =>
    intro tl k σ hF hR h0 hgd hl hbl hx9 hxr hm
    have e10 : σ.1 10 = σ0.1 10 := hF.1 10 (by decide)
    have hr6 := hgd.1
    have gr := hgd.2 r (by omega) (by omega)
    have gr9 := gr.1
    have gof := gr.2.1.1
    have hpar1 := hpar.fr hF (by decide)
    have hnam1 := hnam.fr hF (by decide)
    have hit1 : ITM σ := fun j a c => by
          by_cases q : j = r
          · rw [q]; omega
          · rw [hx9 j q]; exact hit j a c
    refine tm_iload_n dX12_melt_4 rfl 0 rfl ?_
    refine tm_aload_n dX12_melt_5 rfl 2 rfl ?_
    refine tm_get (k := 9) (v := .ref (b + 1 + 7)) lay_12 dX12_melt_6 (by decide) fl12_32 rfl ?_
    refine tm_iload_n dX12_melt_9 rfl 3 rfl ?_
    refine tm_iald (z := r) (v := σ.2.1 9 r) dX12_melt_10 (show mT[7]? = some (9, 0, 13) from rfl) (by omega) (by omega) (by decide) (rfl) ?_
    have g1 := RG.a hR 9 (r)
    refine tm_icmp_ge (tgt := 277) dX12_melt_11 (by decide) ⟨by omega, by omega⟩ ⟨by omega, by omega⟩ (fun h2 => ?_) (fun h2 => ?_)
    · exact tm_sub [0, 1, 2, 3] rfl (hx_277 (tl) (k) σ (Fr.rfl.trans (Fr.sub hF (by decide) (by decide) (by decide))) hR hgd hl hbl hx9 hxr)
    · refine tm_aload_n dX12_melt_14 rfl 2 rfl ?_
      refine tm_iload_n dX12_melt_15 rfl 3 rfl ?_
      refine tm_iload_n dX12_melt_16 rfl 0 rfl ?_
      refine tm_callV (M := m_X12_melt) (pc := 17) (ix := 203) (M' := m_X12_at) (As := [.int (iI r), .int (iI k)]) (rest := []) dX12_melt_17 ok_X12_at im_X12_at se_X12_at ml12_203 np_X12_at rfl rfl (Nat.le_of_ble_eq_true rfl) (Nat.le_of_ble_eq_true rfl) rfl (c_X12_at (d + 5) (σ := σ) (x := r) (k := k) ) (fun r3 σ4 hp => ?_)
      obtain ⟨v5, rfl, rfl, f6⟩ := hp
      subst f6
      show Tm _ _ 20 b σ [(3, .int (iI k)), (2, .int (iI tl)), (0, .ref b), (1, .int (iI r))] [.int (iI (220 * r + k))] _
      refine tm_istore (L' := [(4, .int (iI (220 * r + k))), (3, .int (iI k)), (2, .int (iI tl)), (0, .ref b), (1, .int (iI r))]) dX12_melt_20 (by decide) rfl ?_
      refine tm_aload_n dX12_melt_22 rfl 3 rfl ?_
      refine tm_get (k := 5) (v := .ref (b + 1 + 3)) lay_12 dX12_melt_23 (by decide) fl12_20 rfl ?_
      refine tm_iload dX12_melt_26 0 rfl ?_
      refine tm_iald (z := 220 * r + k) (v := σ.2.1 5 (220 * r + k)) dX12_melt_28 (show mT[3]? = some (5, 0, 2860) from rfl) (by omega) (by omega) (by decide) (rfl) ?_
      have g7 := RG.a hR 5 (220 * r + k)
      refine tm_istore (L' := [(5, .int (iI (σ.2.1 5 (220 * r + k)))), (4, .int (iI (220 * r + k))), (3, .int (iI k)), (2, .int (iI tl)), (0, .ref b), (1, .int (iI r))]) dX12_melt_29 (by decide) rfl ?_
      refine tm_aload_n dX12_melt_31 rfl 4 rfl ?_
      refine tm_get (k := 3) (v := .ref (b + 1 + 1)) lay_12 dX12_melt_32 (by decide) fl12_13 rfl ?_
      refine tm_iload dX12_melt_35 1 rfl ?_
      refine tm_iald (z := 220 * r + k) (v := σ.2.1 3 (220 * r + k)) dX12_melt_37 (show mT[1]? = some (3, 0, 2860) from rfl) (by omega) (by omega) (by decide) (rfl) ?_
      have g8 := RG.a hR 3 (220 * r + k)
      refine tm_bipush dX12_melt_38 (by decide) ?_
      refine tm_icmp_ne (tgt := 69) dX12_melt_40 (by decide) ⟨by omega, by omega⟩ ⟨by decide, by decide⟩ (fun h9 => ?_) (fun h9 => ?_)
      · refine tm_iinc (q0 := 2) (L' := [(3, .int (iI (k + 1))), (5, .int (iI (σ.2.1 5 (220 * r + k)))), (4, .int (iI (220 * r + k))), (2, .int (iI tl)), (0, .ref b), (1, .int (iI r))]) dX12_melt_69 rfl (by decide) rfl ?_
        refine tm_goto (tgt := 4) dX12_melt_72 (by decide) ?_
        exact tm_sub [0, 3, 4, 5] rfl (ih _ (by first | omega | (rw [e9]; omega)) (tl) (k + 1) σ (Fr.rfl.trans (Fr.sub hF (by decide) (by decide) (by decide))) hR (by omega) hgd hl hbl hx9 hxr rfl)
      · refine tm_iload dX12_melt_43 0 rfl ?_
        refine tm_iload_n dX12_melt_45 rfl 5 rfl ?_
        refine tm_icmp_eq (tgt := 69) dX12_melt_46 (by decide) ⟨by omega, by omega⟩ ⟨by omega, by omega⟩ (fun h10 => ?_) (fun h10 => ?_)
        · refine tm_iinc (q0 := 2) (L' := [(3, .int (iI (k + 1))), (5, .int (iI (σ.2.1 5 (220 * r + k)))), (4, .int (iI (220 * r + k))), (2, .int (iI tl)), (0, .ref b), (1, .int (iI r))]) dX12_melt_69 rfl (by decide) rfl ?_
          refine tm_goto (tgt := 4) dX12_melt_72 (by decide) ?_
          exact tm_sub [0, 3, 4, 5] rfl (ih _ (by first | omega | (rw [e9]; omega)) (tl) (k + 1) σ (Fr.rfl.trans (Fr.sub hF (by decide) (by decide) (by decide))) hR (by omega) hgd hl hbl hx9 hxr rfl)
        · have hcl := gr.call (k := k) (by omega) (by omega)
          have gq := hgd.2 _ hcl.1 hcl.2
          have b9q0 := gq.1
          refine tm_aload_n dX12_melt_49 rfl 4 rfl ?_
          refine tm_iload dX12_melt_50 0 rfl ?_
          refine tm_callV (M := m_X12_melt) (pc := 52) (ix := 500) (M' := m_X12_hasCall) (As := [.int (iI (σ.2.1 5 (220 * r + k)))]) (rest := []) dX12_melt_52 ok_X12_hasCall im_X12_hasCall se_X12_hasCall ml12_500 np_X12_hasCall rfl rfl (Nat.le_of_ble_eq_true rfl) (Nat.le_of_ble_eq_true rfl) rfl (c_X12_hasCall (d + 3) (σ := σ) (r := σ.2.1 5 (220 * r + k)) (by omega) hR hit1) (fun r11 σ12 hp => ?_)
          obtain ⟨v13, rfl, rfl, f14, f15⟩ := hp
          show Tm _ _ 55 b σ [(5, .int (iI (σ.2.1 5 (220 * r + k)))), (4, .int (iI (220 * r + k))), (3, .int (iI k)), (2, .int (iI tl)), (0, .ref b), (1, .int (iI r))] [.int (iI v13)] _
          have hnc := f15
          refine tm_if_ne (tgt := 69) dX12_melt_55 (by decide) ⟨by omega, by omega⟩ (fun h16 => ?_) (fun h16 => ?_)
          · refine tm_iinc (q0 := 2) (L' := [(3, .int (iI (k + 1))), (5, .int (iI (σ.2.1 5 (220 * r + k)))), (4, .int (iI (220 * r + k))), (2, .int (iI tl)), (0, .ref b), (1, .int (iI r))]) dX12_melt_69 rfl (by decide) rfl ?_
            refine tm_goto (tgt := 4) dX12_melt_72 (by decide) ?_
            exact tm_sub [0, 3, 4, 5] rfl (ih _ (by first | omega | (rw [e9]; omega)) (tl) (k + 1) σ (Fr.rfl.trans (Fr.sub hF (by decide) (by decide) (by decide))) hR (by omega) hgd hl hbl hx9 hxr rfl)
          · refine tm_aload_n dX12_melt_58 rfl 4 rfl ?_
            refine tm_iload dX12_melt_59 0 rfl ?_
            refine tm_callV (M := m_X12_melt) (pc := 61) (ix := 407) (M' := m_X12_acts) (As := [.int (iI (σ.2.1 5 (220 * r + k)))]) (rest := []) dX12_melt_61 ok_X12_acts im_X12_acts se_X12_acts ml12_407 np_X12_acts rfl rfl (Nat.le_of_ble_eq_true rfl) (Nat.le_of_ble_eq_true rfl) rfl (c_X12_acts (d + 3) (σ := σ) (r := σ.2.1 5 (220 * r + k)) (by omega) hR hit1) (fun r17 σ18 hp => ?_)
            obtain ⟨v19, rfl, rfl, f20⟩ := hp
            show Tm _ _ 64 b σ [(5, .int (iI (σ.2.1 5 (220 * r + k)))), (4, .int (iI (220 * r + k))), (3, .int (iI k)), (2, .int (iI tl)), (0, .ref b), (1, .int (iI r))] [.int (iI v19)] _
            refine tm_bipush dX12_melt_64 (by decide) ?_
            refine tm_icmp_le (tgt := 75) dX12_melt_66 (by decide) ⟨by omega, by omega⟩ ⟨by decide, by decide⟩ (fun h21 => ?_) (fun h21 => ?_)
            · refine tm_aload_n dX12_melt_75 rfl 4 rfl ?_
              refine tm_iload dX12_melt_76 0 rfl ?_
              refine tm_callV (M := m_X12_melt) (pc := 78) (ix := 475) (M' := m_X12_findLives) (As := [.int (iI (σ.2.1 5 (220 * r + k)))]) (rest := []) dX12_melt_78 ok_X12_findLives im_X12_findLives se_X12_findLives ml12_475 np_X12_findLives rfl rfl (Nat.le_of_ble_eq_true rfl) (Nat.le_of_ble_eq_true rfl) rfl (c2_X12_findLives (d + 1) (σ := σ) (r := σ.2.1 5 (220 * r + k)) (F := (σ.2.1 14 (σ.2.1 5 (220 * r + k)))) (by omega) hR hit1 hpar1 gq.2.2.1 hl hbl gq.2.2.2.2.1) (fun r22 σ23 hp => ?_)
              obtain ⟨rfl, f25, f26, f27, f28, f29, f30⟩ := hp
              show Tm _ _ 81 b σ23 [(5, .int (iI (σ.2.1 5 (220 * r + k)))), (4, .int (iI (220 * r + k))), (3, .int (iI k)), (2, .int (iI tl)), (0, .ref b), (1, .int (iI r))] [] _
              have f1 := f25
              have hl1 := f27
              have hbl1 := f28
              have hlv1 := f30
              have hgd1 := hgd.fr f1 (by decide) (by decide)
              have gr1 := gr.fr f1 (by decide) (by decide)
              have gq1 := gq.fr f1 (by decide) (by decide)
              have hit2 := hit1.fr f1 (by decide)
              have hpar2 := hpar1.fr f1 (by decide)
              have hnam2 := hnam1.fr f1 (by decide)
              have e9 : σ23.2.1 9 = σ.2.1 9 := f1.2.1 9 (by decide)
              have mpa := hpar2 (σ.2.1 5 (220 * r + k)) (by omega) (by omega)
              have mna := hnam2 (σ.2.1 5 (220 * r + k)) (by omega) (by omega)
              have b9q := gq1.1
              have b9r := gr1.1
              have b14q := gq1.2.1.1
              have b14r := gr1.2.1.1
              have hl0 := cnt_up (lcf_0 σ23 (σ.2.1 5 (220 * r + k))) (show 0 ≤ 192 by decide)
              have hr0 := cnt_up (rcf_0 σ23 (σ.2.1 5 (220 * r + k))) (show 0 ≤ (σ23.2.1 9 (σ.2.1 5 (220 * r + k))).toNat by omega)
              have hz1 : cnt (lcf σ23 (σ.2.1 5 (220 * r + k))) 0 = 0 := rfl
              have hz2 : cnt (rcf σ23 (σ.2.1 5 (220 * r + k))) 0 = 0 := rfl
              have hl9 := cnt_le (lcf_1 σ23 (σ.2.1 5 (220 * r + k))) 192
              have hr9 := cnt_le (rcf_1 σ23 (σ.2.1 5 (220 * r + k))) (σ23.2.1 9 (σ.2.1 5 (220 * r + k))).toNat
              have mpa0 := hpar (σ.2.1 5 (220 * r + k)) (by omega) (by omega)
              have mna0 := hnam (σ.2.1 5 (220 * r + k)) (by omega) (by omega)
              have e11q : σ23.2.1 11 (σ.2.1 5 (220 * r + k)) = σ0.2.1 11 (σ.2.1 5 (220 * r + k)) := by rw [f1.2.1 11 (by decide), hF.2.1 11 (by decide)]
              have e12q : σ23.2.1 12 (σ.2.1 5 (220 * r + k)) = σ0.2.1 12 (σ.2.1 5 (220 * r + k)) := by rw [f1.2.1 12 (by decide), hF.2.1 12 (by decide)]
              have e9r : σ23.2.1 9 r = σ.2.1 9 r := by rw [e9]
              have e9q : σ23.2.1 9 (σ.2.1 5 (220 * r + k)) = σ.2.1 9 (σ.2.1 5 (220 * r + k)) := by rw [e9]
              have e14r : σ23.2.1 14 r = σ.2.1 14 r := by rw [f1.2.1 14 (by decide)]
              have e14q : σ23.2.1 14 (σ.2.1 5 (220 * r + k)) = σ.2.1 14 (σ.2.1 5 (220 * r + k)) := by rw [f1.2.1 14 (by decide)]
              refine tm_aload_n dX12_melt_81 rfl 4 rfl ?_
              refine tm_get (k := 9) (v := .ref (b + 1 + 7)) lay_12 dX12_melt_82 (by decide) fl12_32 rfl ?_
              refine tm_iload_n dX12_melt_85 rfl 5 rfl ?_
              refine tm_iald (z := r) (v := σ.2.1 9 r) dX12_melt_86 (show mT[7]? = some (9, 0, 13) from rfl) (by omega) (by omega) (by decide) (ra_F f25 (by decide) (rfl)) ?_
              have g31 := RG.a hR 9 (r)
              refine tm_iconst dX12_melt_87 ?_
              refine tm_iadd dX12_melt_88 ?_
              refine tm_aload_n dX12_melt_89 rfl 4 rfl ?_
              refine tm_get (k := 11) (v := .ref (b + 1 + 8)) lay_12 dX12_melt_90 (by decide) fl12_35 rfl ?_
              refine tm_iload dX12_melt_93 0 rfl ?_
              refine tm_iald (z := σ.2.1 5 (220 * r + k)) (v := σ0.2.1 11 (σ.2.1 5 (220 * r + k))) dX12_melt_95 (show mT[8]? = some (11, 0, 6) from rfl) (by omega) (by omega) (by decide) (ra_F f25 (by decide) (ra_F hF (by decide) (rfl))) ?_
              have g32 := RG.a hR0 11 (σ.2.1 5 (220 * r + k))
              refine tm_iadd dX12_melt_96 ?_
              refine tm_aload_n dX12_melt_97 rfl 4 rfl ?_
              refine tm_get (k := 12) (v := .ref (b + 1 + 9)) lay_12 dX12_melt_98 (by decide) fl12_38 rfl ?_
              refine tm_iload dX12_melt_101 0 rfl ?_
              refine tm_iald (z := σ.2.1 5 (220 * r + k)) (v := σ0.2.1 12 (σ.2.1 5 (220 * r + k))) dX12_melt_103 (show mT[9]? = some (12, 0, 6) from rfl) (by omega) (by omega) (by decide) (ra_F f25 (by decide) (ra_F hF (by decide) (rfl))) ?_
              have g33 := RG.a hR0 12 (σ.2.1 5 (220 * r + k))
              refine tm_iadd dX12_melt_104 ?_
              refine tm_aload_n dX12_melt_105 rfl 4 rfl ?_
              refine tm_get (k := 9) (v := .ref (b + 1 + 7)) lay_12 dX12_melt_106 (by decide) fl12_32 rfl ?_
              refine tm_iload dX12_melt_109 0 rfl ?_
              refine tm_iald (z := σ.2.1 5 (220 * r + k)) (v := σ.2.1 9 (σ.2.1 5 (220 * r + k))) dX12_melt_111 (show mT[7]? = some (9, 0, 13) from rfl) (by omega) (by omega) (by decide) (ra_F f25 (by decide) (rfl)) ?_
              have g34 := RG.a hR 9 (σ.2.1 5 (220 * r + k))
              refine tm_iadd dX12_melt_112 ?_
              refine tm_istore (L' := [(6, .int (iI (((((σ.2.1 9 r) + 2) + (σ0.2.1 11 (σ.2.1 5 (220 * r + k)))) + (σ0.2.1 12 (σ.2.1 5 (220 * r + k)))) + (σ.2.1 9 (σ.2.1 5 (220 * r + k)))))), (5, .int (iI (σ.2.1 5 (220 * r + k)))), (4, .int (iI (220 * r + k))), (3, .int (iI k)), (2, .int (iI tl)), (0, .ref b), (1, .int (iI r))]) dX12_melt_113 (by decide) rfl ?_
              refine tm_iconst dX12_melt_115 ?_
              refine tm_istore (L' := [(7, .int (iI 0)), (6, .int (iI (((((σ.2.1 9 r) + 2) + (σ0.2.1 11 (σ.2.1 5 (220 * r + k)))) + (σ0.2.1 12 (σ.2.1 5 (220 * r + k)))) + (σ.2.1 9 (σ.2.1 5 (220 * r + k)))))), (5, .int (iI (σ.2.1 5 (220 * r + k)))), (4, .int (iI (220 * r + k))), (3, .int (iI k)), (2, .int (iI tl)), (0, .ref b), (1, .int (iI r))]) dX12_melt_116 (by decide) rfl ?_
              refine tm_sub [0, 1, 2, 3, 4, 5, 6, 7] rfl (l_me2 (d + 5) (σ := σ23) (r := r) (k := k) (q := σ.2.1 5 (220 * r + k)) (tl := tl) (W0 := ((((σ.2.1 9 r) + 2) + (σ0.2.1 11 (σ.2.1 5 (220 * r + k)))) + (σ0.2.1 12 (σ.2.1 5 (220 * r + k)))) + (σ.2.1 9 (σ.2.1 5 (220 * r + k)))) (by omega) f26 hpar2 hbl1 (fun w40 g41 f39 => ?_) _ (((((σ.2.1 9 r) + 2) + (σ0.2.1 11 (σ.2.1 5 (220 * r + k)))) + (σ0.2.1 12 (σ.2.1 5 (220 * r + k)))) + (σ.2.1 9 (σ.2.1 5 (220 * r + k)))) (0) (by omega) (by rw [show (0 : Int).toNat = 0 from rfl, hz1]; omega) rfl)
              show Tm _ _ 163 b σ23 [(6, .int (iI w40)), (5, .int (iI (σ.2.1 5 (220 * r + k)))), (4, .int (iI (220 * r + k))), (3, .int (iI k)), (2, .int (iI tl)), (0, .ref b), (1, .int (iI r))] [] _
              have hw2 := f39
              refine tm_iconst dX12_melt_163 ?_
              refine tm_istore (L' := [(7, .int (iI 0)), (6, .int (iI w40)), (5, .int (iI (σ.2.1 5 (220 * r + k)))), (4, .int (iI (220 * r + k))), (3, .int (iI k)), (2, .int (iI tl)), (0, .ref b), (1, .int (iI r))]) dX12_melt_164 (by decide) rfl ?_
              refine tm_sub [0, 1, 2, 3, 4, 5, 6, 7] rfl (l_me3 (d + 5) (σ := σ23) (r := r) (k := k) (q := σ.2.1 5 (220 * r + k)) (tl := tl) (W0 := w40) (by omega) f26 (by omega) (fun w47 i48 f46 => ?_) _ (w40) (0) (by omega) (by rw [show (0 : Int).toNat = 0 from rfl, hz2]; omega) rfl)
              show Tm _ _ 212 b σ23 [(6, .int (iI w47)), (5, .int (iI (σ.2.1 5 (220 * r + k)))), (4, .int (iI (220 * r + k))), (3, .int (iI k)), (2, .int (iI tl)), (0, .ref b), (1, .int (iI r))] [] _
              have hw3 := f46
              refine tm_iload dX12_melt_212 0 rfl ?_
              refine tm_sipush dX12_melt_214 (by decide) ?_
              refine tm_icmp_gt (tgt := 256) dX12_melt_217 (by decide) ⟨by omega, by omega⟩ ⟨by decide, by decide⟩ (fun h49 => ?_) (fun h49 => ?_)
              · refine tm_iinc (q0 := 3) (L' := [(3, .int (iI (k + 1))), (6, .int (iI w47)), (5, .int (iI (σ.2.1 5 (220 * r + k)))), (4, .int (iI (220 * r + k))), (2, .int (iI tl)), (0, .ref b), (1, .int (iI r))]) dX12_melt_256 rfl (by decide) rfl ?_
                refine tm_goto (tgt := 4) dX12_melt_259 (by decide) ?_
                exact tm_sub [0, 4, 5, 6] rfl (ih _ (by first | omega | (rw [e9]; omega)) (tl) (k + 1) σ23 ((Fr.rfl.trans (Fr.sub hF (by decide) (by decide) (by decide))).trans (Fr.sub f25 (by decide) (by decide) (by decide))) f26 (by rw [e9]; omega) hgd1 hl1 hbl1 (fun j hj => by rw [e9]; exact hx9 j hj) (hxr.trans (XO.xr (XO.fr f1 (by decide)))) rfl)
              · refine tm_aload_n dX12_melt_220 rfl 5 rfl ?_
                refine tm_iload_n dX12_melt_221 rfl 6 rfl ?_
                refine tm_callV (M := m_X12_melt) (pc := 222) (ix := 410) (M' := m_X12_registers) (As := [.int (iI r)]) (rest := []) dX12_melt_222 ok_X12_registers im_X12_registers se_X12_registers ml12_410 np_X12_registers rfl rfl (Nat.le_of_ble_eq_true rfl) (Nat.le_of_ble_eq_true rfl) rfl (c_X12_registers (d + 2) (σ := σ23) (r := r) (by omega) f26 gr1.2.1 hnam2 hit2 hpar2 gr1.2.2.1) (fun r50 σ51 hp => ?_)
                obtain ⟨v52, rfl, rfl, f53, f54, f55⟩ := hp
                show Tm _ _ 225 b σ23 [(6, .int (iI w47)), (5, .int (iI (σ.2.1 5 (220 * r + k)))), (4, .int (iI (220 * r + k))), (3, .int (iI k)), (2, .int (iI tl)), (0, .ref b), (1, .int (iI r))] [.int (iI v52)] _
                have hRN1 := f54
                have hRI1 := f55
                refine tm_aload_n dX12_melt_225 rfl 5 rfl ?_
                refine tm_iload dX12_melt_226 1 rfl ?_
                refine tm_callV (M := m_X12_melt) (pc := 228) (ix := 410) (M' := m_X12_registers) (As := [.int (iI (σ.2.1 5 (220 * r + k)))]) (rest := [.int (iI v52)]) dX12_melt_228 ok_X12_registers im_X12_registers se_X12_registers ml12_410 np_X12_registers rfl rfl (Nat.le_of_ble_eq_true rfl) (Nat.le_of_ble_eq_true rfl) rfl (c_X12_registers (d + 2) (σ := σ23) (r := σ.2.1 5 (220 * r + k)) (by omega) f26 gq1.2.1 hnam2 hit2 hpar2 gq1.2.2.1) (fun r56 σ57 hp => ?_)
                obtain ⟨v58, rfl, rfl, f59, f60, f61⟩ := hp
                show Tm _ _ 231 b σ23 [(6, .int (iI w47)), (5, .int (iI (σ.2.1 5 (220 * r + k)))), (4, .int (iI (220 * r + k))), (3, .int (iI k)), (2, .int (iI tl)), (0, .ref b), (1, .int (iI r))] [.int (iI v58), .int (iI v52)] _
                have hrn1 := f60
                have hri1 := f61
                have hri0 : RGI σ (σ.2.1 5 (220 * r + k)) v58 (σ.2.1 9 (σ.2.1 5 (220 * r + k))) := by have h := RGI_fr f1 f61; rw [e9] at h; exact h
                have hnc1 := hnc (by omega)
                rw [← f1.2.1 3 (by decide), ← f1.2.1 9 (by decide)] at hnc1
                refine tm_iadd dX12_melt_231 ?_
                refine tm_bipush dX12_melt_232 (by decide) ?_
                refine tm_icmp_gt (tgt := 256) dX12_melt_234 (by decide) ⟨by omega, by omega⟩ ⟨by decide, by decide⟩ (fun h62 => ?_) (fun h62 => ?_)
                · refine tm_iinc (q0 := 3) (L' := [(3, .int (iI (k + 1))), (6, .int (iI w47)), (5, .int (iI (σ.2.1 5 (220 * r + k)))), (4, .int (iI (220 * r + k))), (2, .int (iI tl)), (0, .ref b), (1, .int (iI r))]) dX12_melt_256 rfl (by decide) rfl ?_
                  refine tm_goto (tgt := 4) dX12_melt_259 (by decide) ?_
                  exact tm_sub [0, 4, 5, 6] rfl (ih _ (by first | omega | (rw [e9]; omega)) (tl) (k + 1) σ23 ((Fr.rfl.trans (Fr.sub hF (by decide) (by decide) (by decide))).trans (Fr.sub f25 (by decide) (by decide) (by decide))) f26 (by rw [e9]; omega) hgd1 hl1 hbl1 (fun j hj => by rw [e9]; exact hx9 j hj) (hxr.trans (XO.xr (XO.fr f1 (by decide)))) rfl)
                · refine tm_aload_n dX12_melt_237 rfl 5 rfl ?_
                  refine tm_get (k := 14) (v := .ref (b + 1 + 11)) lay_12 dX12_melt_238 (by decide) fl12_44 rfl ?_
                  refine tm_iload_n dX12_melt_241 rfl 6 rfl ?_
                  refine tm_iald (z := r) (v := σ.2.1 14 r) dX12_melt_242 (show mT[11]? = some (14, 0, 6) from rfl) (by omega) (by omega) (by decide) (ra_F f25 (by decide) (rfl)) ?_
                  have g63 := RG.a hR 14 (r)
                  refine tm_aload_n dX12_melt_243 rfl 5 rfl ?_
                  refine tm_get (k := 14) (v := .ref (b + 1 + 11)) lay_12 dX12_melt_244 (by decide) fl12_44 rfl ?_
                  refine tm_iload dX12_melt_247 1 rfl ?_
                  refine tm_iald (z := σ.2.1 5 (220 * r + k)) (v := σ.2.1 14 (σ.2.1 5 (220 * r + k))) dX12_melt_249 (show mT[11]? = some (14, 0, 6) from rfl) (by omega) (by omega) (by decide) (ra_F f25 (by decide) (rfl)) ?_
                  have g64 := RG.a hR 14 (σ.2.1 5 (220 * r + k))
                  refine tm_iadd dX12_melt_250 ?_
                  refine tm_bipush dX12_melt_251 (by decide) ?_
                  refine tm_icmp_le (tgt := 262) dX12_melt_253 (by decide) ⟨by omega, by omega⟩ ⟨by decide, by decide⟩ (fun h65 => ?_) (fun h65 => ?_)
                  · refine tm_aload_n dX12_melt_262 rfl 5 rfl ?_
                    refine tm_iload_n dX12_melt_263 rfl 6 rfl ?_
                    refine tm_iload_n dX12_melt_264 rfl 3 rfl ?_
                    refine tm_iload dX12_melt_265 1 rfl ?_
                    refine tm_callV (M := m_X12_melt) (pc := 267) (ix := 506) (M' := m_X12_meltOne) (As := [.int (iI r), .int (iI k), .int (iI (σ.2.1 5 (220 * r + k)))]) (rest := []) dX12_melt_267 ok_X12_meltOne im_X12_meltOne se_X12_meltOne ml12_506 np_X12_meltOne rfl rfl (Nat.le_of_ble_eq_true rfl) (Nat.le_of_ble_eq_true rfl) rfl (c_X12_meltOne (d) (σ := σ23) (r := r) (k := k) (q := σ.2.1 5 (220 * r + k)) f26 (by omega) hit2 hpar2 hnam2 (by omega) gr1.2.2.1 gq1.2.2.1 gr1.2.1 gq1.2.1 gq1.2.2.2.1 gr1.2.2.2.2.2.1 gq1.2.2.2.2.2.1 gr1.2.2.2.2.1 gq1.2.2.2.2.1 gr1.2.2.2.2.2.2.2.1 gq1.2.2.2.2.2.2.2.1 gr1.2.2.2.2.2.2.1 gq1.2.2.2.2.2.2.1 hnc1 (by rw [f1.2.1 3 (by decide)]; omega) hRN1 hRI1 hrn1 hri1 (by omega) (by omega) hbl1 (fun g a c e => (hlv1 0 g (by omega) (by omega) a c (by rw [Int.mul_zero, Int.zero_add]; exact e)).lt hri0) (by omega)) (fun r66 σ67 hp => ?_)
                    obtain ⟨v68, rfl, f69, f70, f71, f72, f73, f74, f75, f76, f77, f78, f79, f80⟩ := hp
                    show Tm _ _ 270 b σ67 [(6, .int (iI w47)), (5, .int (iI (σ.2.1 5 (220 * r + k)))), (4, .int (iI (220 * r + k))), (3, .int (iI k)), (2, .int (iI tl)), (0, .ref b), (1, .int (iI r))] [.int (iI v68)] _
                    have f2 := f69
                    have xf := f78
                    have hv := f80
                    have h10 := f79
                    have e10 : σ67.1 10 = σ23.1 10 := f2.1 10 (by decide)
                    have e11 : σ67.2.1 11 = σ23.2.1 11 := f2.2.1 11 (by decide)
                    have e12 : σ67.2.1 12 = σ23.2.1 12 := f2.2.1 12 (by decide)
                    have grn : GDR σ67 r := ⟨⟨h10.1.2, h10.2⟩, f76, f74, by unfold FR0; rw [(xf.1 (12 * r + 0) (by omega)).1]; exact gr1.2.2.2.1, f72, f71, f77, f73, by rw [e11, e12]; exact gr1.2.2.2.2.2.2.2.2⟩
                    have hgd2 : GDA σ67 := GDA.of hgd1 (r := r) ⟨by omega, by rw [f1.1 10 (by decide)]; omega⟩ hnam2 f75 (fun j hj => (xf.2.2 j hj).2) (fun j hj => (xf.2.2 j hj).1) e11 e12 e10 (fun y hy => ⟨(xf.1 y (by omega)).1, (xf.1 y (by omega)).2.1⟩) (fun z hz => xf.2.1 z (by omega)) grn
                    have hl2 := hl1.fr f2 (by decide)
                    have hbl2 := hbl1.fr f2 (by decide)
                    have hxr2 := (hxr.trans (XO.xr (XO.fr f1 (by decide)))).trans f75
                    have h92 : ∀ j, j ≠ r → σ67.2.1 9 j = σ0.2.1 9 j := fun j hj => by rw [(xf.2.2 j hj).2, e9]; exact hx9 j hj
                    refine tm_istore_n (L' := [(3, .int (iI v68)), (6, .int (iI w47)), (5, .int (iI (σ.2.1 5 (220 * r + k)))), (4, .int (iI (220 * r + k))), (2, .int (iI tl)), (0, .ref b), (1, .int (iI r))]) dX12_melt_270 rfl (by decide) rfl ?_
                    refine tm_iinc (q0 := 4) (L' := [(2, .int (iI (tl + 1))), (3, .int (iI v68)), (6, .int (iI w47)), (5, .int (iI (σ.2.1 5 (220 * r + k)))), (4, .int (iI (220 * r + k))), (0, .ref b), (1, .int (iI r))]) dX12_melt_271 rfl (by decide) rfl ?_
                    refine tm_goto (tgt := 4) dX12_melt_274 (by decide) ?_
                    exact tm_sub [1, 0, 5, 6] rfl (ih _ (by first | omega | (rw [e9]; omega)) (tl + 1) (v68) σ67 (((Fr.rfl.trans (Fr.sub hF (by decide) (by decide) (by decide))).trans (Fr.sub f25 (by decide) (by decide) (by decide))).trans (Fr.sub f69 (by decide) (by decide) (by decide))) f70 (by omega) hgd2 hl2 hbl2 h92 hxr2 rfl)
                  · refine tm_iinc (q0 := 3) (L' := [(3, .int (iI (k + 1))), (6, .int (iI w47)), (5, .int (iI (σ.2.1 5 (220 * r + k)))), (4, .int (iI (220 * r + k))), (2, .int (iI tl)), (0, .ref b), (1, .int (iI r))]) dX12_melt_256 rfl (by decide) rfl ?_
                    refine tm_goto (tgt := 4) dX12_melt_259 (by decide) ?_
                    exact tm_sub [0, 4, 5, 6] rfl (ih _ (by first | omega | (rw [e9]; omega)) (tl) (k + 1) σ23 ((Fr.rfl.trans (Fr.sub hF (by decide) (by decide) (by decide))).trans (Fr.sub f25 (by decide) (by decide) (by decide))) f26 (by rw [e9]; omega) hgd1 hl1 hbl1 (fun j hj => by rw [e9]; exact hx9 j hj) (hxr.trans (XO.xr (XO.fr f1 (by decide)))) rfl)
            · refine tm_iinc (q0 := 2) (L' := [(3, .int (iI (k + 1))), (5, .int (iI (σ.2.1 5 (220 * r + k)))), (4, .int (iI (220 * r + k))), (2, .int (iI tl)), (0, .ref b), (1, .int (iI r))]) dX12_melt_69 rfl (by decide) rfl ?_
              refine tm_goto (tgt := 4) dX12_melt_72 (by decide) ?_
              exact tm_sub [0, 3, 4, 5] rfl (ih _ (by first | omega | (rw [e9]; omega)) (tl) (k + 1) σ (Fr.rfl.trans (Fr.sub hF (by decide) (by decide) (by decide))) hR (by omega) hgd hl hbl hx9 hxr rfl)
end
section
theorem dX12_melt_0 : decode cX12_melt 0 = .ok (.iconst 0, 1) := by decide +kernel
theorem dX12_melt_1 : decode cX12_melt 1 = .ok (.istore_n 2, 1) := by decide +kernel
theorem dX12_melt_2 : decode cX12_melt 2 = .ok (.iconst 0, 1) := by decide +kernel
theorem dX12_melt_3 : decode cX12_melt 3 = .ok (.istore_n 3, 1) := by decide +kernel
theorem dX12_melt_277 : decode cX12_melt 277 = .ok (.iload_n 2, 1) := by decide +kernel
theorem dX12_melt_278 : decode cX12_melt 278 = .ok (.ireturn, 1) := by decide +kernel
set_option maxHeartbeats 2000000 in
set_option maxRecDepth 20000 in
theorem c_X12_melt (d : Nat) {b : Nat} {σ : MS} {r : Int} (hr : 0 ≤ r ∧ r < σ.1 10) (hR : RG σ) (hit : ITM σ) (hpar : PAR σ) (hnam : NAM σ) (hgd : GDA σ) (hl : LAB σ) (hbl : BO 59 σ) : Tm (d + 7) m_X12_melt 0 b σ [(0, .ref b), (1, .int (iI r))] [] (fun ro σ2 => ∃ v : Int, ro = some (.int (iI v)) ∧ (Fr [62] [3, 4, 5, 6, 7, 8, 9, 14, 15, 16, 17, 18, 46, 59] [] σ σ2) ∧ (RG σ2) ∧ (GDA σ2) ∧ (LAB σ2) ∧ (BO 59 σ2) ∧ (∀ j, j ≠ r → σ2.2.1 9 j = σ.2.1 9 j) ∧ (XR r σ σ2)) := by
  have gr := (hgd.2 r hr.1 hr.2).1
  refine tm_iconst dX12_melt_0 ?_
  refine tm_istore_n (L' := [(2, .int (iI 0)), (0, .ref b), (1, .int (iI r))]) dX12_melt_1 rfl (by decide) rfl ?_
  refine tm_iconst dX12_melt_2 ?_
  refine tm_istore_n (L' := [(3, .int (iI 0)), (2, .int (iI 0)), (0, .ref b), (1, .int (iI r))]) dX12_melt_3 rfl (by decide) rfl ?_
  refine tm_sub [0, 1, 2, 3] rfl (l_me1 (d) (σ0 := σ) (r := r) hr hR hit hpar hnam (fun tl11 k12 σ13 F4 R5 f6 f7 f8 f9 f10 => ?_) _ (0) (0) σ Fr.rfl hR (by omega) hgd hl hbl (fun _ _ => rfl) XR.rfl rfl)
  show Tm _ _ 277 b σ13 [(3, .int (iI k12)), (2, .int (iI tl11)), (0, .ref b), (1, .int (iI r))] [] _
  refine tm_iload_n dX12_melt_277 rfl 1 rfl ?_
  exact tm_iret rfl dX12_melt_278 (⟨_, rfl, (Fr.rfl.trans (Fr.sub F4 (by decide) (by decide) (by decide))), R5, f6, f7, f8, f9, f10⟩)
end
section
theorem GDA.step {ss ks js : List Nat} {σ τ : MS} {r : Int} (h : GDA σ) (hr : 0 ≤ r ∧ r < σ.1 10) (hn : NAM σ) (f : Fr ss ks js σ τ) (hs : 10 ∉ ss) (hk : ∀ k ∈ [11, 12, 14, 15, 16], k ∉ ks) (xr : XR r σ τ) (xn : XN r σ τ) (h9 : ∀ j, j ≠ r → τ.2.1 9 j = σ.2.1 9 j) (b9 : 1 ≤ τ.2.1 9 r ∧ τ.2.1 9 r ≤ σ.2.1 9 r) (of_ : OKF τ r) (ok : OKS τ (σ.2.1 14 r) r) (cd : CODE τ r) (lx : LEX τ r) (lm : LBM τ r) : GDA τ := by
  have g := h.2 r hr.1 hr.2
  have e14 : τ.2.1 14 = σ.2.1 14 := f.q hk (k := 14) (by decide)
  have e15 : τ.2.1 15 = σ.2.1 15 := f.q hk (k := 15) (by decide)
  have e16 : τ.2.1 16 = σ.2.1 16 := f.q hk (k := 16) (by decide)
  have e11 : τ.2.1 11 = σ.2.1 11 := f.q hk (k := 11) (by decide)
  have e12 : τ.2.1 12 = σ.2.1 12 := f.q hk (k := 12) (by decide)
  have g1 := g.1
  refine h.of hr hn xr h9 (fun j _ => by rw [e14]) e11 e12 (f.1 10 hs) (fun y _ => by rw [e15, e16]; exact ⟨rfl, rfl⟩) xn ⟨⟨b9.1, by omega⟩, of_, by rw [e14]; exact ok, ?_, lx, cd, ?_, lm, by rw [e11, e12]; exact g.2.2.2.2.2.2.2.2⟩
  · unfold FR0; rw [e15]; exact g.2.2.2.1
  · unfold FRI; rw [e14, e16]; exact g.2.2.2.2.2.2.1
theorem XN.fr {ss ks js : List Nat} {r : Int} {σ τ : MS} (f : Fr ss ks js σ τ) (hk : 18 ∉ ks) : XN r σ τ := fun z _ => by rw [f.2.1 18 hk]
theorem ITM.of {σ τ : MS} {r : Int} (h : ITM σ) (h9 : ∀ j, j ≠ r → τ.2.1 9 j = σ.2.1 9 j) (g : GDA τ) (hr : 0 ≤ r ∧ r < τ.1 10) : ITM τ := fun j a b => by
  by_cases e : j = r
  · have := (g.2 r hr.1 hr.2).1; rw [e]; omega
  · rw [h9 j e]; exact h j a b
def XP (σ τ : MS) : Prop := (∀ y, 1320 ≤ y → y < 2640 → IEQ σ y τ y) ∧ ∀ j, 6 ≤ j → τ.2.1 9 j = σ.2.1 9 j
theorem XP.of {σ τ : MS} {r : Int} (h : XR r σ τ) (hr : 0 ≤ r ∧ r < 6) (h9 : ∀ j, j ≠ r → τ.2.1 9 j = σ.2.1 9 j) : XP σ τ := ⟨fun y a b => h.ieq (by omega) b, fun j a => h9 j (by omega)⟩
theorem XP.s {ss ks js : List Nat} {σ τ υ : MS} (h : XP τ υ) (f : Fr ss ks js σ τ) (hk : ∀ k ∈ [3, 4, 5, 6, 7, 8, 9], k ∉ ks) : XP σ υ := by
  have sub : ∀ k ∈ [3, 4, 5, 6, 7, 8], k ∉ ks := fun k q => hk k ((by decide : ∀ k ∈ [3, 4, 5, 6, 7, 8], k ∈ [3, 4, 5, 6, 7, 8, 9]) k q)
  exact ⟨fun y a b => (IEQ.fr f sub).trans (h.1 y a b), fun j a => by rw [h.2 j a, f.2.1 9 (hk 9 (by decide))]⟩

theorem ml12_457 : Cond.methodLink RX12 457 yX12_share ∈ pWW := pw9 (List.mem_of_getElem? (i := 209) rfl) rfl
theorem ml12_442 : Cond.methodLink RX12 442 yX12_fold ∈ pWW := pw9 (List.mem_of_getElem? (i := 102) rfl) rfl
theorem ml12_445 : Cond.methodLink RX12 445 yX12_dropAll ∈ pWW := pw9 (List.mem_of_getElem? (i := 121) rfl) rfl
theorem ml12_448 : Cond.methodLink RX12 448 yX12_moveAll ∈ pWW := pw9 (List.mem_of_getElem? (i := 153) rfl) rfl
theorem ml12_451 : Cond.methodLink RX12 451 yX12_alike ∈ pWW := pw9 (List.mem_of_getElem? (i := 169) rfl) rfl
theorem ml12_454 : Cond.methodLink RX12 454 yX12_melt ∈ pWW := pw9 (List.mem_of_getElem? (i := 181) rfl) rfl
theorem dX12_pass_0 : decode cX12_pass 0 = .ok (.aload_n 0, 1) := by decide +kernel
theorem dX12_pass_1 : decode cX12_pass 1 = .ok (.iconst 0, 1) := by decide +kernel
theorem dX12_pass_2 : decode cX12_pass 2 = .ok (.putfield 185, 3) := by decide +kernel
theorem dX12_pass_5 : decode cX12_pass 5 = .ok (.iload_n 1, 1) := by decide +kernel
theorem dX12_pass_6 : decode cX12_pass 6 = .ok (.iconst 0, 1) := by decide +kernel
theorem dX12_pass_7 : decode cX12_pass 7 = .ok (.iconst 5, 1) := by decide +kernel
theorem dX12_pass_8 : decode cX12_pass 8 = .ok (.invokestatic 188, 3) := by decide +kernel
theorem dX12_pass_11 : decode cX12_pass 11 = .ok (.ifCond .eq 11, 3) := by decide +kernel
theorem dX12_pass_22 : decode cX12_pass 22 = .ok (.iconst (-1), 1) := by decide +kernel
theorem dX12_pass_23 : decode cX12_pass 23 = .ok (.ireturn, 1) := by decide +kernel
theorem dX12_pass_14 : decode cX12_pass 14 = .ok (.aload_n 0, 1) := by decide +kernel
theorem dX12_pass_15 : decode cX12_pass 15 = .ok (.iload_n 2, 1) := by decide +kernel
theorem dX12_pass_16 : decode cX12_pass 16 = .ok (.invokevirtual 404, 3) := by decide +kernel
theorem dX12_pass_19 : decode cX12_pass 19 = .ok (.ifCond .ne 5, 3) := by decide +kernel
theorem dX12_pass_24 : decode cX12_pass 24 = .ok (.aload_n 0, 1) := by decide +kernel
theorem dX12_pass_25 : decode cX12_pass 25 = .ok (.getfield 95, 3) := by decide +kernel
theorem dX12_pass_28 : decode cX12_pass 28 = .ok (.iload_n 2, 1) := by decide +kernel
theorem dX12_pass_29 : decode cX12_pass 29 = .ok (.iconst 0, 1) := by decide +kernel
theorem dX12_pass_30 : decode cX12_pass 30 = .ok (.bastore, 1) := by decide +kernel
theorem dX12_pass_31 : decode cX12_pass 31 = .ok (.aload_n 0, 1) := by decide +kernel
theorem dX12_pass_32 : decode cX12_pass 32 = .ok (.iconst 0, 1) := by decide +kernel
theorem dX12_pass_33 : decode cX12_pass 33 = .ok (.putfield 397, 3) := by decide +kernel
theorem dX12_pass_36 : decode cX12_pass 36 = .ok (.iload_n 1, 1) := by decide +kernel
theorem dX12_pass_37 : decode cX12_pass 37 = .ok (.tableswitch 65 0 4 #[35, 41, 47, 53, 59], 35) := by decide +kernel
theorem dX12_pass_102 : decode cX12_pass 102 = .ok (.aload_n 0, 1) := by decide +kernel
theorem dX12_pass_103 : decode cX12_pass 103 = .ok (.iload_n 2, 1) := by decide +kernel
theorem dX12_pass_104 : decode cX12_pass 104 = .ok (.invokevirtual 457, 3) := by decide +kernel
theorem dX12_pass_107 : decode cX12_pass 107 = .ok (.ireturn, 1) := by decide +kernel
theorem dX12_pass_72 : decode cX12_pass 72 = .ok (.aload_n 0, 1) := by decide +kernel
theorem dX12_pass_73 : decode cX12_pass 73 = .ok (.iload_n 2, 1) := by decide +kernel
theorem dX12_pass_74 : decode cX12_pass 74 = .ok (.invokevirtual 442, 3) := by decide +kernel
theorem dX12_pass_77 : decode cX12_pass 77 = .ok (.ireturn, 1) := by decide +kernel
theorem dX12_pass_78 : decode cX12_pass 78 = .ok (.aload_n 0, 1) := by decide +kernel
theorem dX12_pass_79 : decode cX12_pass 79 = .ok (.iload_n 2, 1) := by decide +kernel
theorem dX12_pass_80 : decode cX12_pass 80 = .ok (.invokevirtual 445, 3) := by decide +kernel
theorem dX12_pass_83 : decode cX12_pass 83 = .ok (.ireturn, 1) := by decide +kernel
theorem dX12_pass_84 : decode cX12_pass 84 = .ok (.aload_n 0, 1) := by decide +kernel
theorem dX12_pass_85 : decode cX12_pass 85 = .ok (.iload_n 2, 1) := by decide +kernel
theorem dX12_pass_86 : decode cX12_pass 86 = .ok (.invokevirtual 448, 3) := by decide +kernel
theorem dX12_pass_89 : decode cX12_pass 89 = .ok (.ireturn, 1) := by decide +kernel
theorem dX12_pass_90 : decode cX12_pass 90 = .ok (.aload_n 0, 1) := by decide +kernel
theorem dX12_pass_91 : decode cX12_pass 91 = .ok (.iload_n 2, 1) := by decide +kernel
theorem dX12_pass_92 : decode cX12_pass 92 = .ok (.invokevirtual 451, 3) := by decide +kernel
theorem dX12_pass_95 : decode cX12_pass 95 = .ok (.ireturn, 1) := by decide +kernel
theorem dX12_pass_96 : decode cX12_pass 96 = .ok (.aload_n 0, 1) := by decide +kernel
theorem dX12_pass_97 : decode cX12_pass 97 = .ok (.iload_n 2, 1) := by decide +kernel
theorem dX12_pass_98 : decode cX12_pass 98 = .ok (.invokevirtual 454, 3) := by decide +kernel
theorem dX12_pass_101 : decode cX12_pass 101 = .ok (.ireturn, 1) := by decide +kernel
set_option maxHeartbeats 2000000 in
set_option maxRecDepth 20000 in
theorem c_X12_pass (d : Nat) {b : Nat} {σ : MS} {w : Int} {r : Int} (hR : RG σ) (hit : ITM σ) (hpar : PAR σ) (hnam : NAM σ) (hgd : GDA σ) (hl : LAB σ) (hbo : BO 47 σ) (hbh : BO 48 σ) (hbl : BO 59 σ) (hbd : BO 63 σ) (hnl : NUL σ) (hkn : KNW σ) (h_w : -2147483648 ≤ w ∧ w ≤ 2147483647) (h_r : -2147483648 ≤ r ∧ r ≤ 2147483647) : Tm (d + 8) m_X12_pass 0 b σ [(0, .ref b), (1, .int (iI w)), (2, .int (iI r))] [] (fun ro σ2 => ∃ v : Int, ro = some (.int (iI v)) ∧ (Fr [0, 62, 67] [3, 4, 5, 6, 7, 8, 9, 14, 15, 16, 17, 18, 46, 47, 48, 59, 60, 61, 63, 64, 65, 66] [] σ σ2) ∧ (RG σ2) ∧ (GDA σ2) ∧ (ITM σ2) ∧ (LAB σ2) ∧ (BO 47 σ2) ∧ (BO 48 σ2) ∧ (BO 59 σ2) ∧ (BO 63 σ2) ∧ (NUL σ2) ∧ (KNW σ2) ∧ (XP σ σ2) ∧ ((v = -1 ∧ σ2 = sS 0 0 σ) ∨ σ2.1 67 = 0)) := by
  have hr6 := hgd.1
  have e10 : (sS 0 0 σ).1 10 = σ.1 10 := rfl
  refine tm_aload_n dX12_pass_0 rfl 0 rfl ?_
  refine tm_iconst dX12_pass_1 ?_
  refine tm_putS (k := 0) (v := 0) lay_12 dX12_pass_2 (by decide) fl12_185 rfl (tyX12_ok 0 (by decide)) rfl rfl rfl ?_
  refine tm_iload_n dX12_pass_5 rfl 1 rfl ?_
  refine tm_iconst dX12_pass_6 ?_
  refine tm_iconst dX12_pass_7 ?_
  refine tm_callS (M := m_X12_pass) (pc := 8) (ix := 188) (M' := m_X12_in) (As := [.int (iI w), .int (iI 0), .int (iI 5)]) (rest := []) dX12_pass_8 ok_X12_in stt_X12_in ml12_188 np_X12_in rfl (Nat.le_of_ble_eq_true rfl) (Nat.le_of_ble_eq_true rfl) rfl (c_X12_in (d + 6) (σ := (sS 0 0 σ)) (x := w) (lo := 0) (hi := 5) (by omega) (by omega) (by omega)) (fun r1 σ2 hp => ?_)
  obtain ⟨v3, rfl, rfl, f4, f5⟩ := hp
  show Tm _ _ 11 b (sS 0 0 σ) [(0, .ref b), (1, .int (iI w)), (2, .int (iI r))] [.int (iI v3)] _
  refine tm_if_eq (tgt := 22) dX12_pass_11 (by decide) ⟨by omega, by omega⟩ (fun h6 => ?_) (fun h6 => ?_)
  · refine tm_iconst dX12_pass_22 ?_
    exact tm_iret rfl dX12_pass_23 (⟨_, rfl, (Fr.rfl.S (by decide)), (hR.S (by omega)), hgd.fr (show Fr [0] [] [] σ (sS 0 0 σ) from (Fr.rfl.S (by decide))) (by decide) (by decide), hit.fr (show Fr [0] [] [] σ (sS 0 0 σ) from (Fr.rfl.S (by decide))) (by decide), hl.fr (show Fr [0] [] [] σ (sS 0 0 σ) from (Fr.rfl.S (by decide))) (by decide), hbo.fr (show Fr [0] [] [] σ (sS 0 0 σ) from (Fr.rfl.S (by decide))) (by decide), hbh.fr (show Fr [0] [] [] σ (sS 0 0 σ) from (Fr.rfl.S (by decide))) (by decide), hbl.fr (show Fr [0] [] [] σ (sS 0 0 σ) from (Fr.rfl.S (by decide))) (by decide), hbd.fr (show Fr [0] [] [] σ (sS 0 0 σ) from (Fr.rfl.S (by decide))) (by decide), hnl.fr (show Fr [0] [] [] σ (sS 0 0 σ) from (Fr.rfl.S (by decide))) (by decide), hkn.fr (show Fr [0] [] [] σ (sS 0 0 σ) from (Fr.rfl.S (by decide))) (by decide), XP.s (τ := (sS 0 0 σ)) ⟨fun _ _ _ => IEQ.rfl, fun _ _ => rfl⟩ (show Fr [0] [] [] σ (sS 0 0 σ) from (Fr.rfl.S (by decide))) (by decide), Or.inl ⟨rfl, rfl⟩⟩)
  · refine tm_aload_n dX12_pass_14 rfl 0 rfl ?_
    refine tm_iload_n dX12_pass_15 rfl 2 rfl ?_
    refine tm_callV (M := m_X12_pass) (pc := 16) (ix := 404) (M' := m_X12_isRoutine) (As := [.int (iI r)]) (rest := []) dX12_pass_16 ok_X12_isRoutine im_X12_isRoutine se_X12_isRoutine ml12_404 np_X12_isRoutine rfl rfl (Nat.le_of_ble_eq_true rfl) (Nat.le_of_ble_eq_true rfl) rfl (c_X12_isRoutine (d + 5) (σ := (sS 0 0 σ)) (x := r) (hR.S (by omega)) hgd.1 (by omega)) (fun r7 σ8 hp => ?_)
    obtain ⟨v9, rfl, rfl, f10, f11⟩ := hp
    show Tm _ _ 19 b (sS 0 0 σ) [(0, .ref b), (1, .int (iI w)), (2, .int (iI r))] [.int (iI v9)] _
    refine tm_if_ne (tgt := 24) dX12_pass_19 (by decide) ⟨by omega, by omega⟩ (fun h12 => ?_) (fun h12 => ?_)
    · refine tm_aload_n dX12_pass_24 rfl 0 rfl ?_
      refine tm_get (k := 48) (v := .ref (b + 1 + 26)) lay_12 dX12_pass_25 (by decide) fl12_95 rfl ?_
      refine tm_iload_n dX12_pass_28 rfl 2 rfl ?_
      refine tm_iconst dX12_pass_29 ?_
      refine tm_zast (z := r) (v := 0) dX12_pass_30 (show mT[26]? = some (48, 2, 6) from rfl) (by omega) (by omega) (by decide) (by omega) ?_
      refine tm_aload_n dX12_pass_31 rfl 0 rfl ?_
      refine tm_iconst dX12_pass_32 ?_
      refine tm_putS (k := 67) (v := 0) lay_12 dX12_pass_33 (by decide) fl12_397 rfl (tyX12_ok 67 (by decide)) rfl rfl rfl ?_
      have f3 := (show Fr [0, 67] [48] [] σ (sS 67 0 (sA 48 (r) (0) (sS 0 0 σ))) from (((Fr.rfl.S (by decide)).A (by decide)).S (by decide)))
      have hgd3 := hgd.fr f3 (by decide) (by decide)
      have hr3 : 0 ≤ r ∧ r < (sS 67 0 (sA 48 (r) (0) (sS 0 0 σ))).1 10 := by rw [f3.1 10 (by decide)]; omega
      have gr3 := hgd3.2 r hr3.1 hr3.2
      have gr31 := gr3.1
      have hit3 := hit.fr f3 (by decide)
      have hpar3 := hpar.fr f3 (by decide)
      have hnam3 := hnam.fr f3 (by decide)
      have hbh3 : BO 48 (sS 67 0 (sA 48 (r) (0) (sS 0 0 σ))) := BO.A (σ := sS 0 0 σ) (k := 48) (z := r) (v := 0) hbh (Or.inl rfl)
      have hl3 := hl.fr f3 (by decide)
      have hbo3 := hbo.fr f3 (by decide)
      have hbl3 := hbl.fr f3 (by decide)
      have hbd3 := hbd.fr f3 (by decide)
      have hnl3 := hnl.fr f3 (by decide)
      have hkn3 := hkn.fr f3 (by decide)
      refine tm_iload_n dX12_pass_36 rfl 1 rfl ?_
      by_cases h13 : w < 0 ∨ 4 < w
      · refine tm_tableOut (tgt := 102) dX12_pass_37 ⟨by omega, by omega⟩ h13 (by decide) ?_
        refine tm_aload_n dX12_pass_102 rfl 0 rfl ?_
        refine tm_iload_n dX12_pass_103 rfl 2 rfl ?_
        refine tm_callV (M := m_X12_pass) (pc := 104) (ix := 457) (M' := m_X12_share) (As := [.int (iI r)]) (rest := []) dX12_pass_104 ok_X12_share im_X12_share se_X12_share ml12_457 np_X12_share rfl rfl (Nat.le_of_ble_eq_true rfl) (Nat.le_of_ble_eq_true rfl) rfl (c_X12_share (d + 1) (σ := (sS 67 0 (sA 48 (r) (0) (sS 0 0 σ)))) (r := r) (by omega) (((hR.S (by omega)).A (by omega)).S (by omega)) hit3 hpar3 hnam3 gr3.2.2.1 gr3.2.1 hl3 hbo3 hbl3 hbd3 hnl3 gr3.2.2.2.2.1) (fun r14 σ15 hp => ?_)
        obtain ⟨v16, rfl, f17, f18, f19, f20, f21, f22, f23, f24, f25, f26, f27, f28⟩ := hp
        show Tm _ _ 107 b σ15 [(0, .ref b), (1, .int (iI w)), (2, .int (iI r))] [.int (iI v16)] _
        have hxr4 := f26.xr
        have h94 : ∀ j, j ≠ r → σ15.2.1 9 j = _ := fun j _ => congrFun (f17.2.1 9 (by decide)) j
        have hg4 := hgd3.step hr3 hnam3 f17 (by decide) (by decide) hxr4 f27 h94 (by rw [f17.2.1 9 (by decide)]; exact ⟨gr3.1.1, Int.le_refl _⟩) f25 f24 (gr3.2.2.2.2.2.1.dk f28 (f17.2.1 3 (by decide)) (f17.2.1 5 (by decide)) (f17.2.1 9 (by decide)) (f17.2.1 14 (by decide)) (f17.2.1 16 (by decide)) (f17.1 10 (by decide))) (gr3.2.2.2.2.1.dk f28 (f17.2.1 3 (by decide)) (f17.2.1 9 (by decide))) (gr3.2.2.2.2.2.2.2.1.dk f28 (f17.2.1 3 (by decide)) (f17.2.1 9 (by decide)) (f17.2.1 14 (by decide)))
        exact tm_iret rfl dX12_pass_107 (⟨_, rfl, ((((Fr.rfl.S (by decide)).A (by decide)).S (by decide)).trans (Fr.sub f17 (by decide) (by decide) (by decide))), f18, hg4, ITM.of hit3 h94 hg4 ⟨by omega, by rw [f17.1 10 (by decide)]; exact hr3.2⟩, f19, f20, hbh3.fr f17 (by decide), f21, f22, f23, hkn3.fr f17 (by decide), (XP.of hxr4 (by omega) h94).s f3 (by decide), Or.inr (by rw [f17.1 67 (by decide)]; exact rs_eq)⟩)
      · have h13c : w = 0 ∨ w = 1 ∨ w = 2 ∨ w = 3 ∨ w = 4 := by omega
        rcases h13c with h13v | h13v | h13v | h13v | h13v
        · refine tm_tableIn (tgt := 72) dX12_pass_37 ⟨by omega, by omega⟩ (by omega) (by omega) (show _ = some (35) by rw [h13v]; rfl) (by decide) ?_
          refine tm_aload_n dX12_pass_72 rfl 0 rfl ?_
          refine tm_iload_n dX12_pass_73 rfl 2 rfl ?_
          refine tm_callV (M := m_X12_pass) (pc := 74) (ix := 442) (M' := m_X12_fold) (As := [.int (iI r)]) (rest := []) dX12_pass_74 ok_X12_fold im_X12_fold se_X12_fold ml12_442 np_X12_fold rfl rfl (Nat.le_of_ble_eq_true rfl) (Nat.le_of_ble_eq_true rfl) rfl (c_X12_fold (d + 1) (σ := (sS 67 0 (sA 48 (r) (0) (sS 0 0 σ)))) (r := r) (by omega) (((hR.S (by omega)).A (by omega)).S (by omega)) hit3 hpar3 gr3.2.2.1 hkn3 gr31.1 gr3.2.2.2.2.2.1 gr3.2.2.2.2.1 gr3.2.2.2.2.2.2.2.1) (fun r29 σ30 hp => ?_)
          obtain ⟨v31, rfl, f32, f33, f34, f35, f36, f37, f38, f39, f40⟩ := hp
          show Tm _ _ 77 b σ30 [(0, .ref b), (1, .int (iI w)), (2, .int (iI r))] [.int (iI v31)] _
          have hxr4 := f35.xr
          have h94 := f34.2
          have hg4 := hgd3.step hr3 hnam3 f32 (by decide) (by decide) hxr4 (XN.fr f32 (by decide)) h94 f34.1 (gr3.2.1.fr f32 (by decide)) f36 f37 f38 f39
          exact tm_iret rfl dX12_pass_77 (⟨_, rfl, ((((Fr.rfl.S (by decide)).A (by decide)).S (by decide)).trans (Fr.sub f32 (by decide) (by decide) (by decide))), f33, hg4, ITM.of hit3 h94 hg4 ⟨by omega, by rw [f32.1 10 (by decide)]; exact hr3.2⟩, hl3.fr f32 (by decide), hbo3.fr f32 (by decide), hbh3.fr f32 (by decide), hbl3.fr f32 (by decide), hbd3.fr f32 (by decide), hnl3.fr f32 (by decide), f40, (XP.of hxr4 (by omega) h94).s f3 (by decide), Or.inr (by rw [f32.1 67 (by decide)]; exact rs_eq)⟩)
        · refine tm_tableIn (tgt := 78) dX12_pass_37 ⟨by omega, by omega⟩ (by omega) (by omega) (show _ = some (41) by rw [h13v]; rfl) (by decide) ?_
          refine tm_aload_n dX12_pass_78 rfl 0 rfl ?_
          refine tm_iload_n dX12_pass_79 rfl 2 rfl ?_
          refine tm_callV (M := m_X12_pass) (pc := 80) (ix := 445) (M' := m_X12_dropAll) (As := [.int (iI r)]) (rest := []) dX12_pass_80 ok_X12_dropAll im_X12_dropAll se_X12_dropAll ml12_445 np_X12_dropAll rfl rfl (Nat.le_of_ble_eq_true rfl) (Nat.le_of_ble_eq_true rfl) rfl (c_X12_dropAll (d) (σ := (sS 67 0 (sA 48 (r) (0) (sS 0 0 σ)))) (r := r) (by omega) (((hR.S (by omega)).A (by omega)).S (by omega)) hit3 hpar3 gr3.2.2.1 hl3 hbl3 hbo3 gr31.1 gr3.2.2.2.2.2.1 gr3.2.2.2.2.1 gr3.2.2.2.2.2.2.2.1) (fun r41 σ42 hp => ?_)
          obtain ⟨v43, rfl, f44, f45, f46, f47, f48, f49, f50, f51, f52, f53, f54⟩ := hp
          show Tm _ _ 83 b σ42 [(0, .ref b), (1, .int (iI w)), (2, .int (iI r))] [.int (iI v43)] _
          have hxr4 := f47.xr
          have h94 := f46.2
          have hg4 := hgd3.step hr3 hnam3 f44 (by decide) (by decide) hxr4 (XN.fr f44 (by decide)) h94 f46.1 (gr3.2.1.fr f44 (by decide)) f48 f49 f50 f51
          exact tm_iret rfl dX12_pass_83 (⟨_, rfl, ((((Fr.rfl.S (by decide)).A (by decide)).S (by decide)).trans (Fr.sub f44 (by decide) (by decide) (by decide))), f45, hg4, ITM.of hit3 h94 hg4 ⟨by omega, by rw [f44.1 10 (by decide)]; exact hr3.2⟩, f52, f54, hbh3.fr f44 (by decide), f53, hbd3.fr f44 (by decide), hnl3.fr f44 (by decide), hkn3.fr f44 (by decide), (XP.of hxr4 (by omega) h94).s f3 (by decide), Or.inr (by rw [f44.1 67 (by decide)]; exact rs_eq)⟩)
        · refine tm_tableIn (tgt := 84) dX12_pass_37 ⟨by omega, by omega⟩ (by omega) (by omega) (show _ = some (47) by rw [h13v]; rfl) (by decide) ?_
          refine tm_aload_n dX12_pass_84 rfl 0 rfl ?_
          refine tm_iload_n dX12_pass_85 rfl 2 rfl ?_
          refine tm_callV (M := m_X12_pass) (pc := 86) (ix := 448) (M' := m_X12_moveAll) (As := [.int (iI r)]) (rest := []) dX12_pass_86 ok_X12_moveAll im_X12_moveAll se_X12_moveAll ml12_448 np_X12_moveAll rfl rfl (Nat.le_of_ble_eq_true rfl) (Nat.le_of_ble_eq_true rfl) rfl (c_X12_moveAll (d + 1) (σ := (sS 67 0 (sA 48 (r) (0) (sS 0 0 σ)))) (r := r) (by omega) (((hR.S (by omega)).A (by omega)).S (by omega)) hit3 hpar3 hnam3 gr3.2.2.1 gr3.2.1 gr31.1 gr3.2.2.2.2.2.1 gr3.2.2.2.2.1 gr3.2.2.2.2.2.2.2.1) (fun r55 σ56 hp => ?_)
          obtain ⟨v57, rfl, f58, f59, f60, f61, f62, f63, f64⟩ := hp
          show Tm _ _ 89 b σ56 [(0, .ref b), (1, .int (iI w)), (2, .int (iI r))] [.int (iI v57)] _
          have hxr4 := f60
          have h94 : ∀ j, j ≠ r → σ56.2.1 9 j = _ := fun j _ => congrFun (f58.2.1 9 (by decide)) j
          have hg4 := hgd3.step hr3 hnam3 f58 (by decide) (by decide) hxr4 (XN.fr f58 (by decide)) h94 (by rw [f58.2.1 9 (by decide)]; exact ⟨gr3.1.1, Int.le_refl _⟩) (gr3.2.1.fr f58 (by decide)) f61 f62 f63 f64
          exact tm_iret rfl dX12_pass_89 (⟨_, rfl, ((((Fr.rfl.S (by decide)).A (by decide)).S (by decide)).trans (Fr.sub f58 (by decide) (by decide) (by decide))), f59, hg4, ITM.of hit3 h94 hg4 ⟨by omega, by rw [f58.1 10 (by decide)]; exact hr3.2⟩, hl3.fr f58 (by decide), hbo3.fr f58 (by decide), hbh3.fr f58 (by decide), hbl3.fr f58 (by decide), hbd3.fr f58 (by decide), hnl3.fr f58 (by decide), hkn3.fr f58 (by decide), (XP.of hxr4 (by omega) h94).s f3 (by decide), Or.inr (by rw [f58.1 67 (by decide)]; exact rs_eq)⟩)
        · refine tm_tableIn (tgt := 90) dX12_pass_37 ⟨by omega, by omega⟩ (by omega) (by omega) (show _ = some (53) by rw [h13v]; rfl) (by decide) ?_
          refine tm_aload_n dX12_pass_90 rfl 0 rfl ?_
          refine tm_iload_n dX12_pass_91 rfl 2 rfl ?_
          refine tm_callV (M := m_X12_pass) (pc := 92) (ix := 451) (M' := m_X12_alike) (As := [.int (iI r)]) (rest := []) dX12_pass_92 ok_X12_alike im_X12_alike se_X12_alike ml12_451 np_X12_alike rfl rfl (Nat.le_of_ble_eq_true rfl) (Nat.le_of_ble_eq_true rfl) rfl (c_X12_alike (d + 1) (σ := (sS 67 0 (sA 48 (r) (0) (sS 0 0 σ)))) (r := r) (by omega) (((hR.S (by omega)).A (by omega)).S (by omega)) hit3 hpar3 gr3.2.2.1) (fun r65 σ66 hp => ?_)
          obtain ⟨v67, rfl, f68, f69, f70, f71, f72⟩ := hp
          show Tm _ _ 95 b σ66 [(0, .ref b), (1, .int (iI w)), (2, .int (iI r))] [.int (iI v67)] _
          have hxr4 := f71.xr
          have h94 : ∀ j, j ≠ r → σ66.2.1 9 j = _ := fun j _ => congrFun (f68.2.1 9 (by decide)) j
          have hg4 := hgd3.step hr3 hnam3 f68 (by decide) (by decide) hxr4 (XN.fr f68 (by decide)) h94 (by rw [f68.2.1 9 (by decide)]; exact ⟨gr3.1.1, Int.le_refl _⟩) (gr3.2.1.fr f68 (by decide)) f70 (gr3.2.2.2.2.2.1.kc gr3.1.1 f72 (f68.2.1 4 (by decide)) (f68.2.1 5 (by decide)) (f68.2.1 9 (by decide)) (f68.2.1 14 (by decide)) (f68.2.1 16 (by decide)) (f68.1 10 (by decide))) (gr3.2.2.2.2.1.kc f72 (f68.2.1 4 (by decide)) (f68.2.1 9 (by decide))) (gr3.2.2.2.2.2.2.2.1.kc f72 (f68.2.1 4 (by decide)) (f68.2.1 9 (by decide)) (f68.2.1 14 (by decide)))
          exact tm_iret rfl dX12_pass_95 (⟨_, rfl, ((((Fr.rfl.S (by decide)).A (by decide)).S (by decide)).trans (Fr.sub f68 (by decide) (by decide) (by decide))), f69, hg4, ITM.of hit3 h94 hg4 ⟨by omega, by rw [f68.1 10 (by decide)]; exact hr3.2⟩, hl3.fr f68 (by decide), hbo3.fr f68 (by decide), hbh3.fr f68 (by decide), hbl3.fr f68 (by decide), hbd3.fr f68 (by decide), hnl3.fr f68 (by decide), hkn3.fr f68 (by decide), (XP.of hxr4 (by omega) h94).s f3 (by decide), Or.inr (by rw [f68.1 67 (by decide)]; exact rs_eq)⟩)
        · refine tm_tableIn (tgt := 96) dX12_pass_37 ⟨by omega, by omega⟩ (by omega) (by omega) (show _ = some (59) by rw [h13v]; rfl) (by decide) ?_
          refine tm_aload_n dX12_pass_96 rfl 0 rfl ?_
          refine tm_iload_n dX12_pass_97 rfl 2 rfl ?_
          refine tm_callV (M := m_X12_pass) (pc := 98) (ix := 454) (M' := m_X12_melt) (As := [.int (iI r)]) (rest := []) dX12_pass_98 ok_X12_melt im_X12_melt se_X12_melt ml12_454 np_X12_melt rfl rfl (Nat.le_of_ble_eq_true rfl) (Nat.le_of_ble_eq_true rfl) rfl (c_X12_melt (d) (σ := (sS 67 0 (sA 48 (r) (0) (sS 0 0 σ)))) (r := r) hr3 (((hR.S (by omega)).A (by omega)).S (by omega)) hit3 hpar3 hnam3 hgd3 hl3 hbl3) (fun r73 σ74 hp => ?_)
          obtain ⟨v75, rfl, f76, f77, f78, f79, f80, f81, f82⟩ := hp
          show Tm _ _ 101 b σ74 [(0, .ref b), (1, .int (iI w)), (2, .int (iI r))] [.int (iI v75)] _
          have hxr4 := f82
          have h94 := f81
          have hg4 := f78
          exact tm_iret rfl dX12_pass_101 (⟨_, rfl, ((((Fr.rfl.S (by decide)).A (by decide)).S (by decide)).trans (Fr.sub f76 (by decide) (by decide) (by decide))), f77, hg4, ITM.of hit3 h94 hg4 ⟨by omega, by rw [f76.1 10 (by decide)]; exact hr3.2⟩, f79, hbo3.fr f76 (by decide), hbh3.fr f76 (by decide), f80, hbd3.fr f76 (by decide), hnl3.fr f76 (by decide), hkn3.fr f76 (by decide), (XP.of hxr4 (by omega) h94).s f3 (by decide), Or.inr (by rw [f76.1 67 (by decide)]; exact rs_eq)⟩)
    · refine tm_iconst dX12_pass_22 ?_
      exact tm_iret rfl dX12_pass_23 (⟨_, rfl, (Fr.rfl.S (by decide)), (hR.S (by omega)), hgd.fr (show Fr [0] [] [] σ (sS 0 0 σ) from (Fr.rfl.S (by decide))) (by decide) (by decide), hit.fr (show Fr [0] [] [] σ (sS 0 0 σ) from (Fr.rfl.S (by decide))) (by decide), hl.fr (show Fr [0] [] [] σ (sS 0 0 σ) from (Fr.rfl.S (by decide))) (by decide), hbo.fr (show Fr [0] [] [] σ (sS 0 0 σ) from (Fr.rfl.S (by decide))) (by decide), hbh.fr (show Fr [0] [] [] σ (sS 0 0 σ) from (Fr.rfl.S (by decide))) (by decide), hbl.fr (show Fr [0] [] [] σ (sS 0 0 σ) from (Fr.rfl.S (by decide))) (by decide), hbd.fr (show Fr [0] [] [] σ (sS 0 0 σ) from (Fr.rfl.S (by decide))) (by decide), hnl.fr (show Fr [0] [] [] σ (sS 0 0 σ) from (Fr.rfl.S (by decide))) (by decide), hkn.fr (show Fr [0] [] [] σ (sS 0 0 σ) from (Fr.rfl.S (by decide))) (by decide), XP.s (τ := (sS 0 0 σ)) ⟨fun _ _ _ => IEQ.rfl, fun _ _ => rfl⟩ (show Fr [0] [] [] σ (sS 0 0 σ) from (Fr.rfl.S (by decide))) (by decide), Or.inl ⟨rfl, rfl⟩⟩)
end
section
def bkm (m : Int) : Int := if m = 2 then 6 else 0
def fm (σ : MS) (m r : Int) : Int := if m = 2 then 1 else σ.2.1 14 r
def prm (σ : MS) (m r f : Int) : Int := if m = 2 then -1 else σ.2.1 16 (12 * r + f)
def BKG (σ : MS) (m r : Int) : Prop := (1 ≤ σ.2.1 9 (bkm m + r) ∧ σ.2.1 9 (bkm m + r) ≤ 200) ∧ OKS σ (fm σ m r) (bkm m + r) ∧ LEX σ (bkm m + r) ∧ (∃ fr lf, CW (σ.2.1 9 (bkm m + r)) (fm σ m r) (σ.1 10) (iK σ (bkm m + r)) (iD σ (bkm m + r)) (iO σ (bkm m + r)) (prm σ m r) fr lf) ∧ (1 ≤ fm σ m r ∧ fm σ m r ≤ 12) ∧ (∀ f, 0 ≤ f → f < fm σ m r → -1 ≤ prm σ m r f ∧ prm σ m r f < f) ∧ ∀ n, 0 ≤ n → n < σ.2.1 11 r → m ≠ 2 → 0 ≤ σ.2.1 18 (144 * r + n) ∧ σ.2.1 18 (144 * r + n) < 192
def PLC (σ : MS) (m r p f : Int) : Prop := (0 ≤ r ∧ r < σ.1 10) ∧ (0 ≤ p ∧ p < σ.2.1 9 (bkm m + r)) ∧ ∃ fr lf, CW (σ.2.1 9 (bkm m + r)) (fm σ m r) (σ.1 10) (iK σ (bkm m + r)) (iD σ (bkm m + r)) (iO σ (bkm m + r)) (prm σ m r) fr lf ∧ f = fr p
def kdm (σ : MS) (m r p : Int) : Int := σ.2.1 3 (220 * (bkm m + r) + p)
def dsm (σ : MS) (m r p : Int) : Int := σ.2.1 4 (220 * (bkm m + r) + p)
theorem PLC.rng {σ : MS} {m r p f : Int} (h : PLC σ m r p f) : 0 ≤ f ∧ f < fm σ m r := by
  obtain ⟨h1, h2, fr, lf, c, e⟩ := h
  rw [e]; exact c.2.1 p h2.1 h2.2
theorem PLC.start {σ : MS} {m r : Int} (h : BKG σ m r) (hr : 0 ≤ r ∧ r < σ.1 10) : PLC σ m r 0 0 := by
  obtain ⟨h1, _, _, ⟨fr, lf, c⟩, _⟩ := h
  exact ⟨hr, ⟨by omega, by omega⟩, fr, lf, c, c.1.symm⟩
theorem PLC.nx {σ : MS} {m r p f : Int} (h : PLC σ m r p f) (h7 : kdm σ m r p ≠ 7) (h8 : kdm σ m r p ≠ 8) (h14 : kdm σ m r p ≠ 14) (h15 : kdm σ m r p ≠ 15) : PLC σ m r (p + 1) f := by
  obtain ⟨h1, h2, fr, lf, c, e⟩ := h
  have q := c.2.2.1 p h2.1 h2.2 h7 h8
  exact ⟨h1, ⟨by omega, q.1⟩, fr, lf, c, by rw [e]; exact (q.2.2.2 h14 h15).symm⟩
theorem PLC.enter {σ : MS} {m r p f : Int} (h : PLC σ m r p f) (h14 : kdm σ m r p = 14) : PLC σ m r (p + 1) (dsm σ m r p) ∧ prm σ m r (dsm σ m r p) = f ∧ 1 ≤ dsm σ m r p := by
  obtain ⟨h1, h2, fr, lf, c, e⟩ := h
  have k : iK σ (bkm m + r) p = 14 := h14
  have q := c.2.2.1 p h2.1 h2.2 (by omega) (by omega)
  have w := q.2.1 k
  exact ⟨⟨h1, ⟨by omega, q.1⟩, fr, lf, c, w.2.1.symm⟩, by rw [e]; exact w.1, w.2.2⟩
theorem PLC.leave {σ : MS} {m r p f : Int} (h : PLC σ m r p f) (h15 : kdm σ m r p = 15) : PLC σ m r (p + 1) (prm σ m r (dsm σ m r p)) ∧ dsm σ m r p = f ∧ 1 ≤ f := by
  obtain ⟨h1, h2, fr, lf, c, e⟩ := h
  have k : iK σ (bkm m + r) p = 15 := h15
  have q := c.2.2.1 p h2.1 h2.2 (by omega) (by omega)
  have w := q.2.2.1 k
  exact ⟨⟨h1, ⟨by omega, q.1⟩, fr, lf, c, w.2.2.symm⟩, by rw [e]; exact w.1, by rw [e, ← w.1]; exact w.2.1⟩
theorem PLC.jump {σ : MS} {m r p f j : Int} (h : PLC σ m r p f) (hk : kdm σ m r p = 8 ∨ kdm σ m r p = 9) (hj : 0 ≤ j ∧ j < σ.2.1 9 (bkm m + r)) (h13 : kdm σ m r j = 13) (hd : dsm σ m r j = dsm σ m r p) : PLC σ m r j f := by
  obtain ⟨h1, h2, fr, lf, c, e⟩ := h
  have a := (c.2.2.2.1 p h2.1 h2.2).1 (by have := hk; unfold kdm at this; simp only [iK]; omega)
  have b := (c.2.2.2.1 j hj.1 hj.2).1 (Or.inr (Or.inr h13))
  have d : iD σ (bkm m + r) j = iD σ (bkm m + r) p := hd
  refine ⟨h1, hj, fr, lf, c, ?_⟩
  rw [e, ← a, ← b, d]
theorem PLC.call {σ : MS} {m r p f : Int} (h : PLC σ m r p f) (b : BKG σ m r) (h10 : kdm σ m r p = 10) : 0 ≤ σ.2.1 5 (220 * (bkm m + r) + p) ∧ σ.2.1 5 (220 * (bkm m + r) + p) < σ.1 10 := by
  obtain ⟨h1, h2, fr, lf, c, e⟩ := h
  exact ⟨((b.2.1 p h2.1 h2.2).2.2.2.2.2.2.1 h10).1, (c.2.2.2.2 p h2.1 h2.2 h10).1⟩
theorem fm_fr {ss ks js : List Nat} {σ τ : MS} (f : Fr ss ks js σ τ) (h : 14 ∉ ks) (m r : Int) : fm τ m r = fm σ m r := by unfold fm; rw [f.2.1 14 h]
theorem prm_fr {ss ks js : List Nat} {σ τ : MS} (f : Fr ss ks js σ τ) (h : 16 ∉ ks) (m r : Int) : prm τ m r = prm σ m r := by funext g; unfold prm; rw [f.2.1 16 h]
theorem PLC.fr {ss ks js : List Nat} {σ τ : MS} {m r p f : Int} (h : PLC σ m r p f) (g : Fr ss ks js σ τ) (hs : 10 ∉ ss) (hk : ∀ k ∈ [3, 4, 5, 9, 14, 16], k ∉ ks) : PLC τ m r p f := by
  unfold PLC
  rw [g.1 10 hs, g.q hk (k := 9) (by decide), fm_fr g (hk 14 (by decide)), prm_fr g (hk 16 (by decide)), show iK τ = iK σ from by unfold iK; rw [g.q hk (k := 3) (by decide)], show iD τ = iD σ from by unfold iD; rw [g.q hk (k := 4) (by decide)], show iO τ = iO σ from by unfold iO; rw [g.q hk (k := 5) (by decide)]]
  exact h
theorem BKG.fr {ss ks js : List Nat} {σ τ : MS} {m r : Int} (h : BKG σ m r) (g : Fr ss ks js σ τ) (hs : 10 ∉ ss) (hk : ∀ k ∈ [3, 4, 5, 6, 7, 8, 9, 11, 14, 16, 18], k ∉ ks) : BKG τ m r := by
  have sub : ∀ l : List Nat, (∀ k ∈ l, k ∈ [3, 4, 5, 6, 7, 8, 9, 11, 14, 16, 18]) → ∀ k ∈ l, k ∉ ks := fun l hl k q => hk k (hl k q)
  obtain ⟨h1, h2, h3, h4, h5, h6, h7⟩ := h
  unfold BKG
  rw [fm_fr g (hk 14 (by decide)), prm_fr g (hk 16 (by decide)), g.q hk (k := 18) (by decide), g.q hk (k := 11) (by decide)]
  refine ⟨by rw [g.q hk (k := 9) (by decide)]; exact h1, h2.fr g (sub _ (by decide)), h3.fr g (sub _ (by decide)), ?_, h5, h6, h7⟩
  rw [g.1 10 hs, g.q hk (k := 9) (by decide), show iK τ = iK σ from by unfold iK; rw [g.q hk (k := 3) (by decide)], show iD τ = iD σ from by unfold iD; rw [g.q hk (k := 4) (by decide)], show iO τ = iO σ from by unfold iO; rw [g.q hk (k := 5) (by decide)]]
  exact h4
def dp (σ : MS) (m r f : Int) : Int := ch (prm σ m r) 13 f
theorem dch_dp {σ : MS} {m c : Int} : dch σ m c = dp σ m (σ.2.1 78 c) (σ.2.1 80 c) := rfl
theorem dp_1 {σ : MS} {m r f : Int} (h : 0 ≤ f) : 1 ≤ dp σ m r f := by
  unfold dp
  show 1 ≤ (if f = -1 then 0 else 1 + ch (prm σ m r) 12 (prm σ m r f))
  rw [if_neg (by omega)]
  have := (ch_rng (p := prm σ m r) 12 (prm σ m r f)).1
  omega
theorem dp_s {σ : MS} {m r f : Int} (b : BKG σ m r) (h : 0 ≤ f ∧ f < fm σ m r) : dp σ m r f = 1 + dp σ m r (prm σ m r f) := by
  unfold dp
  have hp := b.2.2.2.2.2.1
  have e : ch (prm σ m r) 13 f = 1 + ch (prm σ m r) 12 (prm σ m r f) := by
    show (if f = -1 then 0 else 1 + ch (prm σ m r) 12 (prm σ m r f)) = _
    rw [if_neg (by omega)]
  have q := hp f h.1 h.2
  have h12 := b.2.2.2.2.1
  rw [e, ch_fuel hp 12 13 (prm σ m r f) q.1 (by omega) (by omega) (by omega)]
theorem dp_0 {σ : MS} {m r : Int} (b : BKG σ m r) : dp σ m r 0 = 1 := by
  have q := b.2.2.2.2.2.1 0 (by omega) (by have := b.2.2.2.2.1; omega)
  rw [dp_s b ⟨by omega, by have := b.2.2.2.2.1; omega⟩, show prm σ m r 0 = -1 by omega]
  show 1 + ch (prm σ m r) 13 (-1) = 1
  rw [ch_m1]; rfl
def dsum (σ : MS) (m : Int) (R P : Int → Int) : Nat → Int
  | 0 => 0
  | n + 1 => dsum σ m R P n + dp σ m (R (9 * m + n)) (P (9 * m + n))
theorem dsum_ext {σ : MS} {m : Int} {R P R' P' : Int → Int} (n : Nat) (h : ∀ j : Int, 9 * m ≤ j → j < 9 * m + n → R' j = R j ∧ P' j = P j) : dsum σ m R' P' n = dsum σ m R P n := by
  induction n with
  | zero => rfl
  | succ n ih =>
    unfold dsum
    rw [ih (fun j a b => h j a (by omega)), (h (9 * m + n) (by omega) (by omega)).1, (h (9 * m + n) (by omega) (by omega)).2]
theorem dsum_ge {σ : MS} {m : Int} {R P : Int → Int} (n : Nat) (h : ∀ j : Int, 9 * m ≤ j → j < 9 * m + n → 0 ≤ P j) : (n : Int) ≤ dsum σ m R P n := by
  induction n with
  | zero => exact Int.le_refl _
  | succ n ih =>
    have a := ih (fun j a b => h j a (by omega))
    have b := dp_1 (σ := σ) (m := m) (r := R (9 * m + n)) (h (9 * m + n) (by omega) (by omega))
    unfold dsum
    omega
theorem dpt_dsum (σ : MS) (m : Int) : dpt σ m = dsum σ m (σ.2.1 78) (σ.2.1 80) (σ.2.1 73 m).toNat := by
  unfold dpt
  generalize (σ.2.1 73 m).toNat = n
  induction n with
  | zero => rfl
  | succ n ih => unfold sm dsum; rw [ih, dch_dp]
theorem dsum_fr {ss ks js : List Nat} {σ τ : MS} {m : Int} {R P : Int → Int} (f : Fr ss ks js σ τ) (h : 16 ∉ ks) (n : Nat) : dsum τ m R P n = dsum σ m R P n := by
  induction n with
  | zero => rfl
  | succ n ih => unfold dsum; rw [ih]; unfold dp; rw [prm_fr f h]
def RUN (σ : MS) (m : Int) : Prop := (1 ≤ σ.2.1 73 m ∧ σ.2.1 73 m ≤ 9) ∧ (∀ c, 9 * m ≤ c → c < 9 * m + σ.2.1 73 m → PLC σ m (σ.2.1 78 c) (σ.2.1 79 c) (σ.2.1 80 c)) ∧ (∀ c, 9 * m ≤ c → c + 1 < 9 * m + σ.2.1 73 m → kdm σ m (σ.2.1 78 c) (σ.2.1 79 c) = 10) ∧ dpt σ m ≤ 9
theorem RUN.ge {σ : MS} {m : Int} (h : RUN σ m) : σ.2.1 73 m ≤ dpt σ m := by
  rw [dpt_dsum]
  have := dsum_ge (σ := σ) (m := m) (R := σ.2.1 78) (P := σ.2.1 80) (σ.2.1 73 m).toNat (fun j a b => (h.2.1 j a (by have := h.1; omega)).rng.1)
  have := h.1
  omega
theorem dsum_s {σ : MS} {m n : Int} {R P : Int → Int} (h : 1 ≤ n) : dsum σ m R P n.toNat = dsum σ m R P (n - 1).toNat + dp σ m (R (9 * m + (n - 1))) (P (9 * m + (n - 1))) := by
  rw [show n.toNat = (n - 1).toNat + 1 by omega]
  show dsum σ m R P (n - 1).toNat + dp σ m (R (9 * m + ((n - 1).toNat : Int))) (P (9 * m + ((n - 1).toNat : Int))) = _
  rw [show ((n - 1).toNat : Int) = n - 1 by omega]
theorem RUN.top {ss ks js : List Nat} {σ τ : MS} {m t : Int} (h : RUN σ m) (ht : t = 9 * m + σ.2.1 73 m - 1) (g : Fr ss ks js σ τ) (hs : 10 ∉ ss) (hk : ∀ k ∈ [3, 4, 5, 9, 14, 16], k ∉ ks) (e73 : τ.2.1 73 m = σ.2.1 73 m) (e78 : ∀ c, 9 * m ≤ c → c < 9 * m + 9 → τ.2.1 78 c = σ.2.1 78 c) (e : ∀ c, 9 * m ≤ c → c < t → τ.2.1 79 c = σ.2.1 79 c ∧ τ.2.1 80 c = σ.2.1 80 c)
    (hp : PLC σ m (σ.2.1 78 t) (τ.2.1 79 t) (τ.2.1 80 t)) (hd : dp σ m (σ.2.1 78 t) (τ.2.1 80 t) + dpt σ m ≤ 9 + dp σ m (σ.2.1 78 t) (σ.2.1 80 t)) : RUN τ m := by
  obtain ⟨h1, h2, h3, h4⟩ := h
  refine ⟨by rw [e73]; exact h1, fun c a b => ?_, fun c a b => ?_, ?_⟩
  · rw [e73] at b
    rw [e78 c a (by omega)]
    by_cases z : c = t
    · rw [z]; exact hp.fr g hs hk
    · rw [(e c a (by omega)).1, (e c a (by omega)).2]; exact (h2 c a b).fr g hs hk
  · rw [e73] at b
    rw [e78 c a (by omega), (e c a (by omega)).1]
    unfold kdm; rw [g.q hk (k := 3) (by decide)]
    exact h3 c a b
  · rw [dpt_dsum] at hd ⊢
    rw [e73, dsum_fr g (hk 16 (by decide)), dsum_s h1.1]
    rw [dsum_s h1.1] at hd
    rw [show 9 * m + (σ.2.1 73 m - 1) = t by omega] at hd ⊢
    rw [dsum_ext (R := σ.2.1 78) (P := σ.2.1 80) _ (fun j a b => ⟨e78 j a (by omega), (e j a (by omega)).2⟩), e78 t (by omega) (by omega)]
    omega
theorem RUN.push {ss ks js : List Nat} {σ τ : MS} {m r : Int} (h : RUN σ m) (g : Fr ss ks js σ τ) (hs : 10 ∉ ss) (hk : ∀ k ∈ [3, 4, 5, 9, 14, 16], k ∉ ks) (e73 : τ.2.1 73 m = σ.2.1 73 m + 1) (e : ∀ c, 9 * m ≤ c → c < 9 * m + σ.2.1 73 m → τ.2.1 78 c = σ.2.1 78 c ∧ τ.2.1 79 c = σ.2.1 79 c ∧ τ.2.1 80 c = σ.2.1 80 c)
    (en : τ.2.1 78 (9 * m + σ.2.1 73 m) = r ∧ τ.2.1 79 (9 * m + σ.2.1 73 m) = 0 ∧ τ.2.1 80 (9 * m + σ.2.1 73 m) = 0) (b : BKG σ m r) (hr : 0 ≤ r ∧ r < σ.1 10) (h10 : kdm σ m (σ.2.1 78 (9 * m + σ.2.1 73 m - 1)) (σ.2.1 79 (9 * m + σ.2.1 73 m - 1)) = 10) (hd : dpt σ m ≤ 8) : RUN τ m := by
  have ge := h.ge
  obtain ⟨h1, h2, h3, h4⟩ := h
  refine ⟨by rw [e73]; omega, fun c x y => ?_, fun c x y => ?_, ?_⟩
  · rw [e73] at y
    by_cases z : c = 9 * m + σ.2.1 73 m
    · rw [z, en.1, en.2.1, en.2.2]; exact (PLC.start b hr).fr g hs hk
    · rw [(e c x (by omega)).1, (e c x (by omega)).2.1, (e c x (by omega)).2.2]; exact (h2 c x (by omega)).fr g hs hk
  · rw [e73] at y
    rw [(e c x (by omega)).1, (e c x (by omega)).2.1]
    unfold kdm; rw [g.q hk (k := 3) (by decide)]
    by_cases z : c = 9 * m + σ.2.1 73 m - 1
    · rw [z]; exact h10
    · exact h3 c x (by omega)
  · rw [dpt_dsum] at hd ⊢
    rw [e73, dsum_fr g (hk 16 (by decide)), dsum_s (by omega), show σ.2.1 73 m + 1 - 1 = σ.2.1 73 m by omega, en.1, en.2.2, dp_0 b]
    rw [dsum_ext (R := σ.2.1 78) (P := σ.2.1 80) _ (fun j a b => ⟨(e j a (by omega)).1, (e j a (by omega)).2.2⟩)]
    omega
theorem RUN.pop {ss ks js : List Nat} {σ τ : MS} {m d : Int} (h : RUN σ m) (hd : d = 9 * m + σ.2.1 73 m - 2) (h2c : 2 ≤ σ.2.1 73 m) (g : Fr ss ks js σ τ) (hs : 10 ∉ ss) (hk : ∀ k ∈ [3, 4, 5, 9, 14, 16], k ∉ ks) (e73 : τ.2.1 73 m = σ.2.1 73 m - 1) (e78 : ∀ c, τ.2.1 78 c = σ.2.1 78 c) (e80 : ∀ c, τ.2.1 80 c = σ.2.1 80 c) (e79 : ∀ c, c ≠ d → τ.2.1 79 c = σ.2.1 79 c) (en : τ.2.1 79 d = σ.2.1 79 d + 1) : RUN τ m := by
  obtain ⟨h1, h2, h3, h4⟩ := h
  refine ⟨by rw [e73]; omega, fun c x y => ?_, fun c x y => ?_, ?_⟩
  · rw [e73] at y
    rw [e78, e80]
    by_cases z : c = d
    · rw [z, en]
      have k := h3 d (by omega) (by omega)
      exact ((h2 d (by omega) (by omega)).nx (by omega) (by omega) (by omega) (by omega)).fr g hs hk
    · rw [e79 c z]; exact (h2 c x (by omega)).fr g hs hk
  · rw [e73] at y
    rw [e78, e79 c (by omega)]
    unfold kdm; rw [g.q hk (k := 3) (by decide)]
    exact h3 c x (by omega)
  · rw [dpt_dsum] at h4 ⊢
    rw [e73, dsum_fr g (hk 16 (by decide)), dsum_ext (R := σ.2.1 78) (P := σ.2.1 80) _ (fun j a b => ⟨e78 j, e80 j⟩)]
    rw [dsum_s h1.1] at h4
    have := dp_1 (σ := σ) (m := m) (r := σ.2.1 78 (9 * m + (σ.2.1 73 m - 1))) (h2 (9 * m + (σ.2.1 73 m - 1)) (by omega) (by omega)).rng.1
    omega
def XM (m : Int) (σ τ : MS) : Prop := (∀ j, j ≠ m → τ.2.1 73 j = σ.2.1 73 j ∧ τ.2.1 76 j = σ.2.1 76 j) ∧ ∀ c, (c < 9 * m ∨ 9 * m + 9 ≤ c) → τ.2.1 78 c = σ.2.1 78 c ∧ τ.2.1 79 c = σ.2.1 79 c ∧ τ.2.1 80 c = σ.2.1 80 c
theorem RUN.oth {ss ks js : List Nat} {σ τ : MS} {m m' : Int} (h : RUN σ m') (hm : m' ≠ m) (x : XM m σ τ) (g : Fr ss ks js σ τ) (hs : 10 ∉ ss) (hk : ∀ k ∈ [3, 4, 5, 9, 14, 16], k ∉ ks) : RUN τ m' := by
  obtain ⟨h1, h2, h3, h4⟩ := h
  have e73 := (x.1 m' hm).1
  have ee : ∀ c, 9 * m' ≤ c → c < 9 * m' + 9 → τ.2.1 78 c = σ.2.1 78 c ∧ τ.2.1 79 c = σ.2.1 79 c ∧ τ.2.1 80 c = σ.2.1 80 c := fun c a b => x.2 c (by omega)
  refine ⟨by rw [e73]; exact h1, fun c a b => ?_, fun c a b => ?_, ?_⟩
  · rw [e73] at b
    rw [(ee c a (by omega)).1, (ee c a (by omega)).2.1, (ee c a (by omega)).2.2]; exact (h2 c a b).fr g hs hk
  · rw [e73] at b
    rw [(ee c a (by omega)).1, (ee c a (by omega)).2.1]
    unfold kdm; rw [g.q hk (k := 3) (by decide)]
    exact h3 c a b
  · rw [dpt_dsum] at h4 ⊢
    rw [e73, dsum_fr g (hk 16 (by decide)), dsum_ext (R := σ.2.1 78) (P := σ.2.1 80) _ (fun j a b => ⟨(ee j a (by omega)).1, (ee j a (by omega)).2.2⟩)]
    exact h4
theorem RUN.dec {σ : MS} {m : Int} (h : RUN σ m) (b : ∀ r, 0 ≤ r → r < σ.1 10 → BKG σ m r) (hR : σ.1 10 ≤ 6) : ∀ c, 9 * m ≤ c → c < 9 * m + σ.2.1 73 m → DEC σ m c (fn σ m c) := fun c x y => by
  have p := h.2.1 c x y
  have q := b _ p.1.1 p.1.2
  have r := p.rng
  have e : fn σ m c = fm σ m (σ.2.1 78 c) := rfl
  rw [e]
  refine ⟨⟨p.1.1, by have := p.1.2; omega⟩, ⟨by omega, r.2, q.2.2.2.2.1.2⟩, fun f a c => q.2.2.2.2.2.1 f a c⟩
theorem bkm_2 {m v : Int} (h1 : m = 2 → v = 6) (h2 : m ≠ 2 → v = 0) : v = bkm m := by
  unfold bkm
  by_cases e : m = 2
  · rw [if_pos e]; exact h1 e
  · rw [if_neg e]; exact h2 e
theorem bkm_r (m : Int) : (m = 2 → bkm m = 6) ∧ (m ≠ 2 → bkm m = 0) := ⟨fun h => if_pos h, fun h => if_neg h⟩
def BKA (σ : MS) (m : Int) : Prop := (0 ≤ σ.1 10 ∧ σ.1 10 ≤ 6) ∧ ∀ r, 0 ≤ r → r < σ.1 10 → BKG σ m r
theorem BKA.fr {ss ks js : List Nat} {σ τ : MS} {m : Int} (h : BKA σ m) (g : Fr ss ks js σ τ) (hs : 10 ∉ ss) (hk : ∀ k ∈ [3, 4, 5, 6, 7, 8, 9, 11, 14, 16, 18], k ∉ ks) : BKA τ m := ⟨by rw [g.1 10 hs]; exact h.1, fun r a b => (h.2 r a (by rw [← g.1 10 hs]; exact b)).fr g hs hk⟩
theorem GDR.bkg {σ : MS} {m r : Int} (h : GDR σ r) (hm : m ≠ 2) : BKG σ m r := by
  have b : bkm m + r = r := by have := (bkm_r m).2 hm; omega
  have f : fm σ m r = σ.2.1 14 r := if_neg hm
  have p : prm σ m r = iF σ r := by funext g; exact if_neg hm
  obtain ⟨h1, h2, h3, h4, h5, h6, h7, h8, h9⟩ := h
  unfold BKG
  rw [b, f, p]
  refine ⟨h1, h3, h5, h6, h2.1, fun g a c => ?_, fun n a c _ => ?_⟩
  · by_cases z : g = 0
    · have := h7.1; rw [z]; simp only [iF]; omega
    · have := h7.2 g (by omega) c; simp only [iF]; omega
  · have q := (h2.2 0 (by omega) (by have := h2.1; omega)).2 n a (by unfold FR0 at h4; rw [h4]; omega)
    rw [Int.mul_zero, Int.add_zero] at q; exact q
end
section
theorem ml12_542 : Cond.methodLink RX12 542 yX12_bank ∈ pWW := pw10 (List.mem_of_getElem? (i := 21) rfl) rfl
theorem dX12_returns_0 : decode cX12_returns 0 = .ok (.aload_n 0, 1) := by decide +kernel
theorem dX12_returns_1 : decode cX12_returns 1 = .ok (.getfield 152, 3) := by decide +kernel
theorem dX12_returns_4 : decode cX12_returns 4 = .ok (.iload_n 1, 1) := by decide +kernel
theorem dX12_returns_5 : decode cX12_returns 5 = .ok (.dup2, 1) := by decide +kernel
theorem dX12_returns_6 : decode cX12_returns 6 = .ok (.iaload, 1) := by decide +kernel
theorem dX12_returns_7 : decode cX12_returns 7 = .ok (.iconst 1, 1) := by decide +kernel
theorem dX12_returns_8 : decode cX12_returns 8 = .ok (.isub, 1) := by decide +kernel
theorem dX12_returns_9 : decode cX12_returns 9 = .ok (.iastore, 1) := by decide +kernel
theorem dX12_returns_10 : decode cX12_returns 10 = .ok (.aload_n 0, 1) := by decide +kernel
theorem dX12_returns_11 : decode cX12_returns 11 = .ok (.getfield 152, 3) := by decide +kernel
theorem dX12_returns_14 : decode cX12_returns 14 = .ok (.iload_n 1, 1) := by decide +kernel
theorem dX12_returns_15 : decode cX12_returns 15 = .ok (.iaload, 1) := by decide +kernel
theorem dX12_returns_16 : decode cX12_returns 16 = .ok (.ifCond .ne 12, 3) := by decide +kernel
theorem dX12_returns_28 : decode cX12_returns 28 = .ok (.iload_n 2, 1) := by decide +kernel
theorem dX12_returns_29 : decode cX12_returns 29 = .ok (.iconst 1, 1) := by decide +kernel
theorem dX12_returns_30 : decode cX12_returns 30 = .ok (.isub, 1) := by decide +kernel
theorem dX12_returns_31 : decode cX12_returns 31 = .ok (.istore 4, 2) := by decide +kernel
theorem dX12_returns_33 : decode cX12_returns 33 = .ok (.aload_n 0, 1) := by decide +kernel
theorem dX12_returns_34 : decode cX12_returns 34 = .ok (.aload_n 0, 1) := by decide +kernel
theorem dX12_returns_35 : decode cX12_returns 35 = .ok (.iload_n 1, 1) := by decide +kernel
theorem dX12_returns_36 : decode cX12_returns 36 = .ok (.invokevirtual 542, 3) := by decide +kernel
theorem dX12_returns_39 : decode cX12_returns 39 = .ok (.aload_n 0, 1) := by decide +kernel
theorem dX12_returns_40 : decode cX12_returns 40 = .ok (.getfield 167, 3) := by decide +kernel
theorem dX12_returns_43 : decode cX12_returns 43 = .ok (.iload 4, 2) := by decide +kernel
theorem dX12_returns_45 : decode cX12_returns 45 = .ok (.iaload, 1) := by decide +kernel
theorem dX12_returns_46 : decode cX12_returns 46 = .ok (.iadd, 1) := by decide +kernel
theorem dX12_returns_47 : decode cX12_returns 47 = .ok (.aload_n 0, 1) := by decide +kernel
theorem dX12_returns_48 : decode cX12_returns 48 = .ok (.getfield 170, 3) := by decide +kernel
theorem dX12_returns_51 : decode cX12_returns 51 = .ok (.iload 4, 2) := by decide +kernel
theorem dX12_returns_53 : decode cX12_returns 53 = .ok (.iaload, 1) := by decide +kernel
theorem dX12_returns_54 : decode cX12_returns 54 = .ok (.invokevirtual 203, 3) := by decide +kernel
theorem dX12_returns_57 : decode cX12_returns 57 = .ok (.istore 5, 2) := by decide +kernel
theorem dX12_returns_59 : decode cX12_returns 59 = .ok (.aload_n 0, 1) := by decide +kernel
theorem dX12_returns_60 : decode cX12_returns 60 = .ok (.getfield 179, 3) := by decide +kernel
theorem dX12_returns_63 : decode cX12_returns 63 = .ok (.sipush 192, 3) := by decide +kernel
theorem dX12_returns_66 : decode cX12_returns 66 = .ok (.iload 4, 2) := by decide +kernel
theorem dX12_returns_68 : decode cX12_returns 68 = .ok (.imul, 1) := by decide +kernel
theorem dX12_returns_69 : decode cX12_returns 69 = .ok (.aload_n 0, 1) := by decide +kernel
theorem dX12_returns_70 : decode cX12_returns 70 = .ok (.getfield 17, 3) := by decide +kernel
theorem dX12_returns_73 : decode cX12_returns 73 = .ok (.iload 5, 2) := by decide +kernel
theorem dX12_returns_75 : decode cX12_returns 75 = .ok (.iaload, 1) := by decide +kernel
theorem dX12_returns_76 : decode cX12_returns 76 = .ok (.iadd, 1) := by decide +kernel
theorem dX12_returns_77 : decode cX12_returns 77 = .ok (.iload_n 3, 1) := by decide +kernel
theorem dX12_returns_78 : decode cX12_returns 78 = .ok (.iastore, 1) := by decide +kernel
theorem dX12_returns_79 : decode cX12_returns 79 = .ok (.aload_n 0, 1) := by decide +kernel
theorem dX12_returns_80 : decode cX12_returns 80 = .ok (.getfield 170, 3) := by decide +kernel
theorem dX12_returns_83 : decode cX12_returns 83 = .ok (.iload 4, 2) := by decide +kernel
theorem dX12_returns_85 : decode cX12_returns 85 = .ok (.dup2, 1) := by decide +kernel
theorem dX12_returns_86 : decode cX12_returns 86 = .ok (.iaload, 1) := by decide +kernel
theorem dX12_returns_87 : decode cX12_returns 87 = .ok (.iconst 1, 1) := by decide +kernel
theorem dX12_returns_88 : decode cX12_returns 88 = .ok (.iadd, 1) := by decide +kernel
theorem dX12_returns_89 : decode cX12_returns 89 = .ok (.iastore, 1) := by decide +kernel
theorem dX12_returns_90 : decode cX12_returns 90 = .ok (.iconst 0, 1) := by decide +kernel
theorem dX12_returns_91 : decode cX12_returns 91 = .ok (.ireturn, 1) := by decide +kernel
theorem dX12_returns_19 : decode cX12_returns 19 = .ok (.aload_n 0, 1) := by decide +kernel
theorem dX12_returns_20 : decode cX12_returns 20 = .ok (.getfield 158, 3) := by decide +kernel
theorem dX12_returns_23 : decode cX12_returns 23 = .ok (.iload_n 1, 1) := by decide +kernel
theorem dX12_returns_24 : decode cX12_returns 24 = .ok (.iload_n 3, 1) := by decide +kernel
theorem dX12_returns_25 : decode cX12_returns 25 = .ok (.iastore, 1) := by decide +kernel
theorem dX12_returns_26 : decode cX12_returns 26 = .ok (.iconst 2, 1) := by decide +kernel
theorem dX12_returns_27 : decode cX12_returns 27 = .ok (.ireturn, 1) := by decide +kernel
set_option maxHeartbeats 2000000 in
set_option maxRecDepth 20000 in
theorem c_X12_returns (d : Nat) {b : Nat} {σ : MS} {m : Int} {c : Int} {w : Int} (hR : RG σ) (hm2 : 0 ≤ m ∧ m ≤ 2) (hrun : RUN σ m) (hbka : BKA σ m) (hc : c = 9 * m + σ.2.1 73 m - 1) (h_w : -2147483648 ≤ w ∧ w ≤ 2147483647) : Tm (d + 2) m_X12_returns 0 b σ [(0, .ref b), (1, .int (iI m)), (2, .int (iI c)), (3, .int (iI w))] [] (fun ro σ2 => ∃ v : Int, ro = some (.int (iI v)) ∧ (Fr [] [73, 75, 79, 82] [] σ σ2) ∧ (RG σ2) ∧ ((v = 2 ∧ σ2.2.1 73 m = 0) ∨ (v = 0 ∧ RUN σ2 m)) ∧ (XM m σ σ2) ∧ (v = 0 → σ2.2.1 73 m = σ.2.1 73 m - 1 ∧ 2 ≤ σ.2.1 73 m ∧ (∀ z, σ2.2.1 78 z = σ.2.1 78 z) ∧ (∀ z, z ≠ c - 1 → σ2.2.1 79 z = σ.2.1 79 z) ∧ σ2.2.1 79 (c - 1) = σ.2.1 79 (c - 1) + 1)) := by
  have h1 := hrun.1
  have hR6 := hbka.1
  refine tm_aload_n dX12_returns_0 rfl 0 rfl ?_
  refine tm_get (k := 73) (v := .ref (b + 1 + 44)) lay_12 dX12_returns_1 (by decide) fl12_152 rfl ?_
  refine tm_iload_n dX12_returns_4 rfl 1 rfl ?_
  refine tm_dup2 dX12_returns_5 rfl rfl ?_
  refine tm_iald (z := m) (v := σ.2.1 73 m) dX12_returns_6 (show mT[44]? = some (73, 0, 3) from rfl) (by omega) (by omega) (by decide) (rfl) ?_
  have g1 := RG.a hR 73 (m)
  refine tm_iconst dX12_returns_7 ?_
  refine tm_isub dX12_returns_8 ?_
  refine tm_iast (z := m) (v := (σ.2.1 73 m) - 1) dX12_returns_9 (show mT[44]? = some (73, 0, 3) from rfl) (by omega) (by omega) (by decide) ?_
  refine tm_aload_n dX12_returns_10 rfl 0 rfl ?_
  refine tm_get (k := 73) (v := .ref (b + 1 + 44)) lay_12 dX12_returns_11 (by decide) fl12_152 rfl ?_
  refine tm_iload_n dX12_returns_14 rfl 1 rfl ?_
  refine tm_iald (z := m) (v := (σ.2.1 73 m) - 1) dX12_returns_15 (show mT[44]? = some (73, 0, 3) from rfl) (by omega) (by omega) (by decide) (ra_eq) ?_
  refine tm_if_ne (tgt := 28) dX12_returns_16 (by decide) ⟨by omega, by omega⟩ (fun h2 => ?_) (fun h2 => ?_)
  · have hp := hrun.2.1 (c - 1) (by omega) (by omega)
    have hk10 := hrun.2.2.1 (c - 1) (by omega) (by omega)
    have hbg := hbka.2 _ hp.1.1 hp.1.2
    have hp1 := hp.1
    have hp2 := hp.2.1
    have hb9 := hbg.1
    have hoki := hbg.2.1 _ hp.2.1.1 hp.2.1.2
    have hdd := hoki.2.1 (Or.inr hk10)
    refine tm_iload_n dX12_returns_28 rfl 2 rfl ?_
    refine tm_iconst dX12_returns_29 ?_
    refine tm_isub dX12_returns_30 ?_
    refine tm_istore (L' := [(4, .int (iI (c - 1))), (0, .ref b), (1, .int (iI m)), (2, .int (iI c)), (3, .int (iI w))]) dX12_returns_31 (by decide) rfl ?_
    refine tm_aload_n dX12_returns_33 rfl 1 rfl ?_
    refine tm_aload_n dX12_returns_34 rfl 1 rfl ?_
    refine tm_iload_n dX12_returns_35 rfl 2 rfl ?_
    refine tm_callV (M := m_X12_returns) (pc := 36) (ix := 542) (M' := m_X12_bank) (As := [.int (iI m)]) (rest := [.ref b]) dX12_returns_36 ok_X12_bank im_X12_bank se_X12_bank ml12_542 np_X12_bank rfl rfl (Nat.le_of_ble_eq_true rfl) (Nat.le_of_ble_eq_true rfl) rfl (c_X12_bank (d) (σ := (sA 73 (m) ((σ.2.1 73 m) - 1) σ)) (m := m) (by omega)) (fun r3 σ4 hp => ?_)
    obtain ⟨v5, rfl, rfl, f6, f7, f8⟩ := hp
    show Tm _ _ 39 b (sA 73 (m) ((σ.2.1 73 m) - 1) σ) [(4, .int (iI (c - 1))), (0, .ref b), (1, .int (iI m)), (2, .int (iI c)), (3, .int (iI w))] [.int (iI v5), .ref b] _
    have hbv : v5 = bkm m := bkm_2 f7 f8
    rw [← hbv] at hp2 hb9 hdd
    refine tm_aload_n dX12_returns_39 rfl 1 rfl ?_
    refine tm_get (k := 78) (v := .ref (b + 1 + 49)) lay_12 dX12_returns_40 (by decide) fl12_167 rfl ?_
    refine tm_iload dX12_returns_43 0 rfl ?_
    refine tm_iald (z := c - 1) (v := σ.2.1 78 (c - 1)) dX12_returns_45 (show mT[49]? = some (78, 0, 27) from rfl) (by omega) (by omega) (by decide) (ra_o (by decide) (rfl)) ?_
    have g9 := RG.a hR 78 (c - 1)
    refine tm_iadd dX12_returns_46 ?_
    refine tm_aload_n dX12_returns_47 rfl 1 rfl ?_
    refine tm_get (k := 79) (v := .ref (b + 1 + 50)) lay_12 dX12_returns_48 (by decide) fl12_170 rfl ?_
    refine tm_iload dX12_returns_51 0 rfl ?_
    refine tm_iald (z := c - 1) (v := σ.2.1 79 (c - 1)) dX12_returns_53 (show mT[50]? = some (79, 0, 27) from rfl) (by omega) (by omega) (by decide) (ra_o (by decide) (rfl)) ?_
    have g10 := RG.a hR 79 (c - 1)
    refine tm_callV (M := m_X12_returns) (pc := 54) (ix := 203) (M' := m_X12_at) (As := [.int (iI (v5 + (σ.2.1 78 (c - 1)))), .int (iI (σ.2.1 79 (c - 1)))]) (rest := []) dX12_returns_54 ok_X12_at im_X12_at se_X12_at ml12_203 np_X12_at rfl rfl (Nat.le_of_ble_eq_true rfl) (Nat.le_of_ble_eq_true rfl) rfl (c_X12_at (d) (σ := (sA 73 (m) ((σ.2.1 73 m) - 1) σ)) (x := v5 + (σ.2.1 78 (c - 1))) (k := σ.2.1 79 (c - 1)) ) (fun r11 σ12 hp => ?_)
    obtain ⟨v13, rfl, rfl, f14⟩ := hp
    subst f14
    show Tm _ _ 57 b (sA 73 (m) ((σ.2.1 73 m) - 1) σ) [(4, .int (iI (c - 1))), (0, .ref b), (1, .int (iI m)), (2, .int (iI c)), (3, .int (iI w))] [.int (iI (220 * (v5 + (σ.2.1 78 (c - 1))) + (σ.2.1 79 (c - 1))))] _
    refine tm_istore (L' := [(5, .int (iI (220 * (v5 + (σ.2.1 78 (c - 1))) + (σ.2.1 79 (c - 1))))), (4, .int (iI (c - 1))), (0, .ref b), (1, .int (iI m)), (2, .int (iI c)), (3, .int (iI w))]) dX12_returns_57 (by decide) rfl ?_
    refine tm_aload_n dX12_returns_59 rfl 2 rfl ?_
    refine tm_get (k := 82) (v := .ref (b + 1 + 53)) lay_12 dX12_returns_60 (by decide) fl12_179 rfl ?_
    refine tm_sipush dX12_returns_63 (by decide) ?_
    refine tm_iload dX12_returns_66 1 rfl ?_
    refine tm_imul dX12_returns_68 ?_
    refine tm_aload_n dX12_returns_69 rfl 2 rfl ?_
    refine tm_get (k := 4) (v := .ref (b + 1 + 2)) lay_12 dX12_returns_70 (by decide) fl12_17 rfl ?_
    refine tm_iload dX12_returns_73 0 rfl ?_
    refine tm_iald (z := 220 * (v5 + (σ.2.1 78 (c - 1))) + (σ.2.1 79 (c - 1))) (v := σ.2.1 4 (220 * (v5 + (σ.2.1 78 (c - 1))) + (σ.2.1 79 (c - 1)))) dX12_returns_75 (show mT[2]? = some (4, 0, 2860) from rfl) (by omega) (by omega) (by decide) (ra_o (by decide) (rfl)) ?_
    have g15 := RG.a hR 4 (220 * (v5 + (σ.2.1 78 (c - 1))) + (σ.2.1 79 (c - 1)))
    refine tm_iadd dX12_returns_76 ?_
    refine tm_iload_n dX12_returns_77 rfl 5 rfl ?_
    refine tm_iast (z := (192 * (c - 1)) + (σ.2.1 4 (220 * (v5 + (σ.2.1 78 (c - 1))) + (σ.2.1 79 (c - 1))))) (v := w) dX12_returns_78 (show mT[53]? = some (82, 0, 5184) from rfl) (by omega) (by omega) (by decide) ?_
    refine tm_aload_n dX12_returns_79 rfl 2 rfl ?_
    refine tm_get (k := 79) (v := .ref (b + 1 + 50)) lay_12 dX12_returns_80 (by decide) fl12_170 rfl ?_
    refine tm_iload dX12_returns_83 1 rfl ?_
    refine tm_dup2 dX12_returns_85 rfl rfl ?_
    refine tm_iald (z := c - 1) (v := σ.2.1 79 (c - 1)) dX12_returns_86 (show mT[50]? = some (79, 0, 27) from rfl) (by omega) (by omega) (by decide) (ra_o (by decide) (ra_o (by decide) (rfl))) ?_
    have g16 := RG.a hR 79 (c - 1)
    refine tm_iconst dX12_returns_87 ?_
    refine tm_iadd dX12_returns_88 ?_
    refine tm_iast (z := c - 1) (v := (σ.2.1 79 (c - 1)) + 1) dX12_returns_89 (show mT[50]? = some (79, 0, 27) from rfl) (by omega) (by omega) (by decide) ?_
    refine tm_iconst dX12_returns_90 ?_
    exact tm_iret rfl dX12_returns_91 (⟨_, rfl, (((Fr.rfl.A (by decide)).A (by decide)).A (by decide)), (((hR.A (by omega)).A (by omega)).A (by omega)), Or.inr ⟨rfl, hrun.pop (d := c - 1) (by omega) (by omega) (show Fr [] [73, 79, 82] [] σ (sA 79 (c - 1) ((σ.2.1 79 (c - 1)) + 1) (sA 82 ((192 * (c - 1)) + (σ.2.1 4 (220 * (v5 + (σ.2.1 78 (c - 1))) + (σ.2.1 79 (c - 1))))) (w) (sA 73 (m) ((σ.2.1 73 m) - 1) σ))) from (((Fr.rfl.A (by decide)).A (by decide)).A (by decide))) (by decide) (by decide) (ra_o (by decide) (ra_o (by decide) ra_eq)) (fun _ => rfl) (fun _ => rfl) (fun z hz => ra_ne hz rfl) ra_eq⟩, ⟨fun j hj => ⟨ra_o (by decide) (ra_o (by decide) (ra_ne hj rfl)), rfl⟩, fun z hz => ⟨rfl, ra_ne (by omega) rfl, rfl⟩⟩, fun _ => ⟨ra_o (by decide) (ra_o (by decide) ra_eq), (by omega), (fun _ => rfl), (fun z hz => ra_ne hz rfl), ra_eq⟩⟩)
  · refine tm_aload_n dX12_returns_19 rfl 0 rfl ?_
    refine tm_get (k := 75) (v := .ref (b + 1 + 46)) lay_12 dX12_returns_20 (by decide) fl12_158 rfl ?_
    refine tm_iload_n dX12_returns_23 rfl 1 rfl ?_
    refine tm_iload_n dX12_returns_24 rfl 3 rfl ?_
    refine tm_iast (z := m) (v := w) dX12_returns_25 (show mT[46]? = some (75, 0, 3) from rfl) (by omega) (by omega) (by decide) ?_
    refine tm_iconst dX12_returns_26 ?_
    exact tm_iret rfl dX12_returns_27 (⟨_, rfl, ((Fr.rfl.A (by decide)).A (by decide)), ((hR.A (by omega)).A (by omega)), Or.inl ⟨rfl, ra_o (by decide) (ra_eq.trans (by omega))⟩, ⟨fun j hj => ⟨ra_o (by decide) (ra_ne hj rfl), rfl⟩, fun z hz => ⟨rfl, rfl, rfl⟩⟩, fun q => absurd q (by decide)⟩)
end
