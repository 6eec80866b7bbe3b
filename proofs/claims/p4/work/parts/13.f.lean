theorem dX12_meltOne_487 : decode cX12_meltOne 487 = .ok (.iload 14, 2) := by decide +kernel
theorem dX12_meltOne_489 : decode cX12_meltOne 489 = .ok (.bipush 12, 2) := by decide +kernel
theorem dX12_meltOne_491 : decode cX12_meltOne 491 = .ok (.if_icmp .ge 53, 3) := by decide +kernel
theorem dX12_meltOne_494 : decode cX12_meltOne 494 = .ok (.aload_n 0, 1) := by decide +kernel
theorem dX12_meltOne_495 : decode cX12_meltOne 495 = .ok (.getfield 56, 3) := by decide +kernel
theorem dX12_meltOne_498 : decode cX12_meltOne 498 = .ok (.sipush 144, 3) := by decide +kernel
theorem dX12_meltOne_501 : decode cX12_meltOne 501 = .ok (.iload_n 1, 1) := by decide +kernel
theorem dX12_meltOne_502 : decode cX12_meltOne 502 = .ok (.imul, 1) := by decide +kernel
theorem dX12_meltOne_503 : decode cX12_meltOne 503 = .ok (.bipush 12, 2) := by decide +kernel
theorem dX12_meltOne_505 : decode cX12_meltOne 505 = .ok (.iload 5, 2) := by decide +kernel
theorem dX12_meltOne_507 : decode cX12_meltOne 507 = .ok (.iload 11, 2) := by decide +kernel
theorem dX12_meltOne_509 : decode cX12_meltOne 509 = .ok (.iadd, 1) := by decide +kernel
theorem dX12_meltOne_510 : decode cX12_meltOne 510 = .ok (.imul, 1) := by decide +kernel
theorem dX12_meltOne_511 : decode cX12_meltOne 511 = .ok (.iadd, 1) := by decide +kernel
theorem dX12_meltOne_512 : decode cX12_meltOne 512 = .ok (.iload 14, 2) := by decide +kernel
theorem dX12_meltOne_514 : decode cX12_meltOne 514 = .ok (.iadd, 1) := by decide +kernel
theorem dX12_meltOne_515 : decode cX12_meltOne 515 = .ok (.aload_n 0, 1) := by decide +kernel
theorem dX12_meltOne_516 : decode cX12_meltOne 516 = .ok (.getfield 56, 3) := by decide +kernel
theorem dX12_meltOne_519 : decode cX12_meltOne 519 = .ok (.sipush 144, 3) := by decide +kernel
theorem dX12_meltOne_522 : decode cX12_meltOne 522 = .ok (.iload_n 3, 1) := by decide +kernel
theorem dX12_meltOne_523 : decode cX12_meltOne 523 = .ok (.imul, 1) := by decide +kernel
theorem dX12_meltOne_524 : decode cX12_meltOne 524 = .ok (.bipush 12, 2) := by decide +kernel
theorem dX12_meltOne_526 : decode cX12_meltOne 526 = .ok (.iload 11, 2) := by decide +kernel
theorem dX12_meltOne_528 : decode cX12_meltOne 528 = .ok (.imul, 1) := by decide +kernel
theorem dX12_meltOne_529 : decode cX12_meltOne 529 = .ok (.iadd, 1) := by decide +kernel
theorem dX12_meltOne_530 : decode cX12_meltOne 530 = .ok (.iload 14, 2) := by decide +kernel
theorem dX12_meltOne_532 : decode cX12_meltOne 532 = .ok (.iadd, 1) := by decide +kernel
theorem dX12_meltOne_533 : decode cX12_meltOne 533 = .ok (.iaload, 1) := by decide +kernel
theorem dX12_meltOne_534 : decode cX12_meltOne 534 = .ok (.iload 6, 2) := by decide +kernel
theorem dX12_meltOne_536 : decode cX12_meltOne 536 = .ok (.iadd, 1) := by decide +kernel
theorem dX12_meltOne_537 : decode cX12_meltOne 537 = .ok (.iastore, 1) := by decide +kernel
theorem dX12_meltOne_538 : decode cX12_meltOne 538 = .ok (.iinc 14 1, 3) := by decide +kernel
theorem dX12_meltOne_541 : decode cX12_meltOne 541 = .ok (.goto (-54), 3) := by decide +kernel
set_option maxHeartbeats 2000000 in
set_option maxRecDepth 20000 in
theorem l_mo6 (d : Nat) {b : Nat} {σ0 : MS} {r : Int} {k : Int} {q : Int} {f : Int} {base : Int} {lb : Int} {out : Int} {to : Int} {mk : Int} {j : Int} {post : Option Value → MS → Prop} (hR0 : RG σ0) (hx : (0 ≤ r ∧ r < 6) ∧ (0 ≤ q ∧ q < 6) ∧ q ≠ r ∧ 0 ≤ j ∧ 0 ≤ f ∧ f + j < 12) (hb : 0 ≤ base ∧ base ≤ 192) (hx_544 : ∀ (n1 : Int) (σ : MS) , (Fr [] [18] [] σ0 σ) → (RG σ) → (∀ n, 0 ≤ n → n < 12 → σ.2.1 18 (144 * r + 12 * (f + j) + n) = wr (σ0.2.1 18 (144 * q + 12 * j + n) + base)) → (∀ z, (z < 144 * r + 12 * (f + j) ∨ 144 * r + 12 * (f + j) + 12 ≤ z) → σ.2.1 18 z = σ0.2.1 18 z) → Tm (d + 1) m_X12_meltOne 544 b σ [(11, .int (iI j)), (10, .int (iI mk)), (9, .int (iI to)), (8, .int (iI out)), (7, .int (iI lb)), (6, .int (iI base)), (5, .int (iI f)), (4, .int (iI (220 * r + k))), (0, .ref b), (1, .int (iI r)), (2, .int (iI k)), (3, .int (iI q))] [] post) : ∀ (n : Nat) (n1 : Int) (σ : MS) , (Fr [] [18] [] σ0 σ) → (RG σ) → (0 ≤ n1 ∧ n1 ≤ 12) → (∀ n, 0 ≤ n → n < n1 → σ.2.1 18 (144 * r + 12 * (f + j) + n) = wr (σ0.2.1 18 (144 * q + 12 * j + n) + base)) → (∀ z, (z < 144 * r + 12 * (f + j) ∨ 144 * r + 12 * (f + j) + 12 ≤ z) → σ.2.1 18 z = σ0.2.1 18 z) → (12 - n1).toNat = n → Tm (d + 1) m_X12_meltOne 487 b σ [(14, .int (iI n1)), (11, .int (iI j)), (10, .int (iI mk)), (9, .int (iI to)), (8, .int (iI out)), (7, .int (iI lb)), (6, .int (iI base)), (5, .int (iI f)), (4, .int (iI (220 * r + k))), (0, .ref b), (1, .int (iI r)), (2, .int (iI k)), (3, .int (iI q))] [] post := by
  intro n
  induction n using Nat.strongRecOn with
  | _ n ih =>
    intro n1 σ hF hR h0 hn ho hm
    refine tm_iload dX12_meltOne_487 0 rfl ?_
    refine tm_bipush dX12_meltOne_489 (by decide) ?_
    refine tm_icmp_ge (tgt := 544) dX12_meltOne_491 (by decide) ⟨by omega, by omega⟩ ⟨by decide, by decide⟩ (fun h1 => ?_) (fun h1 => ?_)
    · exact tm_sub [1, 2, 3, 4, 5, 6, 7, 8, 9, 10, 11, 12] rfl (hx_544 (0) σ (Fr.rfl.trans (Fr.sub hF (by decide) (by decide) (by decide))) hR (fun n a c => hn n a (by omega)) ho)
    · have hz := ho (144 * q + 12 * j + n1) (by omega)
      refine tm_aload_n dX12_meltOne_494 rfl 9 rfl ?_
      refine tm_get (k := 18) (v := .ref (b + 1 + 15)) lay_12 dX12_meltOne_495 (by decide) fl12_56 rfl ?_
      refine tm_sipush dX12_meltOne_498 (by decide) ?_
      refine tm_iload_n dX12_meltOne_501 rfl 10 rfl ?_
      refine tm_imul dX12_meltOne_502 ?_
      refine tm_bipush dX12_meltOne_503 (by decide) ?_
      refine tm_iload dX12_meltOne_505 7 rfl ?_
      refine tm_iload dX12_meltOne_507 1 rfl ?_
      refine tm_iadd dX12_meltOne_509 ?_
      refine tm_imul dX12_meltOne_510 ?_
      refine tm_iadd dX12_meltOne_511 ?_
      refine tm_iload dX12_meltOne_512 0 rfl ?_
      refine tm_iadd dX12_meltOne_514 ?_
      refine tm_aload_n dX12_meltOne_515 rfl 9 rfl ?_
      refine tm_get (k := 18) (v := .ref (b + 1 + 15)) lay_12 dX12_meltOne_516 (by decide) fl12_56 rfl ?_
      refine tm_sipush dX12_meltOne_519 (by decide) ?_
      refine tm_iload_n dX12_meltOne_522 rfl 12 rfl ?_
      refine tm_imul dX12_meltOne_523 ?_
      refine tm_bipush dX12_meltOne_524 (by decide) ?_
      refine tm_iload dX12_meltOne_526 1 rfl ?_
      refine tm_imul dX12_meltOne_528 ?_
      refine tm_iadd dX12_meltOne_529 ?_
      refine tm_iload dX12_meltOne_530 0 rfl ?_
      refine tm_iadd dX12_meltOne_532 ?_
      refine tm_iald (z := ((144 * q) + (12 * j)) + n1) (v := σ.2.1 18 (((144 * q) + (12 * j)) + n1)) dX12_meltOne_533 (show mT[15]? = some (18, 0, 864) from rfl) (by omega) (by omega) (by decide) (rfl) ?_
      have g2 := RG.a hR 18 (((144 * q) + (12 * j)) + n1)
      refine tm_iload dX12_meltOne_534 6 rfl ?_
      refine tm_iadd dX12_meltOne_536 ?_
      rw [← wr_eq ((σ.2.1 18 (((144 * q) + (12 * j)) + n1)) + base)]
      have g3 := wr_rng ((σ.2.1 18 (((144 * q) + (12 * j)) + n1)) + base)
      refine tm_iast (z := ((144 * r) + (12 * (f + j))) + n1) (v := wr ((σ.2.1 18 (((144 * q) + (12 * j)) + n1)) + base)) dX12_meltOne_537 (show mT[15]? = some (18, 0, 864) from rfl) (by omega) (by omega) (by decide) ?_
      refine tm_iinc (q0 := 0) (L' := [(14, .int (iI (n1 + 1))), (11, .int (iI j)), (10, .int (iI mk)), (9, .int (iI to)), (8, .int (iI out)), (7, .int (iI lb)), (6, .int (iI base)), (5, .int (iI f)), (4, .int (iI (220 * r + k))), (0, .ref b), (1, .int (iI r)), (2, .int (iI k)), (3, .int (iI q))]) dX12_meltOne_538 rfl (by decide) rfl ?_
      refine tm_goto (tgt := 487) dX12_meltOne_541 (by decide) ?_
      exact tm_sub [0, 1, 2, 3, 4, 5, 6, 7, 8, 9, 10, 11, 12] rfl (ih _ (by omega) (n1 + 1) (sA 18 (((144 * r) + (12 * (f + j))) + n1) (wr ((σ.2.1 18 (((144 * q) + (12 * j)) + n1)) + base)) σ) ((Fr.rfl.trans (Fr.sub hF (by decide) (by decide) (by decide))).A (by decide)) (hR.A (by omega)) (by omega) (fun n a c => by
          by_cases e : n = n1
          · subst e; exact ra_eq.trans (by rw [hz])
          · exact ra_ne (by omega) (hn n a (by omega))) (fun z c => ra_ne (by omega) (ho z c)) rfl)
theorem dX12_meltOne_367 : decode cX12_meltOne 367 = .ok (.iload 11, 2) := by decide +kernel
theorem dX12_meltOne_369 : decode cX12_meltOne 369 = .ok (.aload_n 0, 1) := by decide +kernel
theorem dX12_meltOne_370 : decode cX12_meltOne 370 = .ok (.getfield 44, 3) := by decide +kernel
theorem dX12_meltOne_373 : decode cX12_meltOne 373 = .ok (.iload_n 3, 1) := by decide +kernel
theorem dX12_meltOne_374 : decode cX12_meltOne 374 = .ok (.iaload, 1) := by decide +kernel
theorem dX12_meltOne_375 : decode cX12_meltOne 375 = .ok (.if_icmp .ge 175, 3) := by decide +kernel
theorem dX12_meltOne_378 : decode cX12_meltOne 378 = .ok (.bipush 12, 2) := by decide +kernel
theorem dX12_meltOne_380 : decode cX12_meltOne 380 = .ok (.iload_n 1, 1) := by decide +kernel
theorem dX12_meltOne_381 : decode cX12_meltOne 381 = .ok (.imul, 1) := by decide +kernel
theorem dX12_meltOne_382 : decode cX12_meltOne 382 = .ok (.iload 5, 2) := by decide +kernel
theorem dX12_meltOne_384 : decode cX12_meltOne 384 = .ok (.iadd, 1) := by decide +kernel
theorem dX12_meltOne_385 : decode cX12_meltOne 385 = .ok (.iload 11, 2) := by decide +kernel
theorem dX12_meltOne_387 : decode cX12_meltOne 387 = .ok (.iadd, 1) := by decide +kernel
theorem dX12_meltOne_388 : decode cX12_meltOne 388 = .ok (.istore 12, 2) := by decide +kernel
theorem dX12_meltOne_390 : decode cX12_meltOne 390 = .ok (.bipush 12, 2) := by decide +kernel
theorem dX12_meltOne_392 : decode cX12_meltOne 392 = .ok (.iload_n 3, 1) := by decide +kernel
theorem dX12_meltOne_393 : decode cX12_meltOne 393 = .ok (.imul, 1) := by decide +kernel
theorem dX12_meltOne_394 : decode cX12_meltOne 394 = .ok (.iload 11, 2) := by decide +kernel
theorem dX12_meltOne_396 : decode cX12_meltOne 396 = .ok (.iadd, 1) := by decide +kernel
theorem dX12_meltOne_397 : decode cX12_meltOne 397 = .ok (.istore 13, 2) := by decide +kernel
theorem dX12_meltOne_399 : decode cX12_meltOne 399 = .ok (.aload_n 0, 1) := by decide +kernel
theorem dX12_meltOne_400 : decode cX12_meltOne 400 = .ok (.getfield 47, 3) := by decide +kernel
theorem dX12_meltOne_403 : decode cX12_meltOne 403 = .ok (.iload 12, 2) := by decide +kernel
theorem dX12_meltOne_405 : decode cX12_meltOne 405 = .ok (.aload_n 0, 1) := by decide +kernel
theorem dX12_meltOne_406 : decode cX12_meltOne 406 = .ok (.getfield 47, 3) := by decide +kernel
theorem dX12_meltOne_409 : decode cX12_meltOne 409 = .ok (.iload 13, 2) := by decide +kernel
theorem dX12_meltOne_411 : decode cX12_meltOne 411 = .ok (.iaload, 1) := by decide +kernel
theorem dX12_meltOne_412 : decode cX12_meltOne 412 = .ok (.iastore, 1) := by decide +kernel
theorem dX12_meltOne_413 : decode cX12_meltOne 413 = .ok (.aload_n 0, 1) := by decide +kernel
theorem dX12_meltOne_414 : decode cX12_meltOne 414 = .ok (.getfield 50, 3) := by decide +kernel
theorem dX12_meltOne_417 : decode cX12_meltOne 417 = .ok (.iload 12, 2) := by decide +kernel
theorem dX12_meltOne_419 : decode cX12_meltOne 419 = .ok (.iload 11, 2) := by decide +kernel
theorem dX12_meltOne_421 : decode cX12_meltOne 421 = .ok (.ifCond .ne 18, 3) := by decide +kernel
theorem dX12_meltOne_439 : decode cX12_meltOne 439 = .ok (.aload_n 0, 1) := by decide +kernel
theorem dX12_meltOne_440 : decode cX12_meltOne 440 = .ok (.getfield 50, 3) := by decide +kernel
theorem dX12_meltOne_443 : decode cX12_meltOne 443 = .ok (.iload 13, 2) := by decide +kernel
theorem dX12_meltOne_445 : decode cX12_meltOne 445 = .ok (.iaload, 1) := by decide +kernel
theorem dX12_meltOne_446 : decode cX12_meltOne 446 = .ok (.iload 5, 2) := by decide +kernel
theorem dX12_meltOne_448 : decode cX12_meltOne 448 = .ok (.iadd, 1) := by decide +kernel
theorem dX12_meltOne_449 : decode cX12_meltOne 449 = .ok (.iastore, 1) := by decide +kernel
theorem dX12_meltOne_450 : decode cX12_meltOne 450 = .ok (.aload_n 0, 1) := by decide +kernel
theorem dX12_meltOne_451 : decode cX12_meltOne 451 = .ok (.getfield 53, 3) := by decide +kernel
theorem dX12_meltOne_454 : decode cX12_meltOne 454 = .ok (.iload 12, 2) := by decide +kernel
theorem dX12_meltOne_456 : decode cX12_meltOne 456 = .ok (.iload 11, 2) := by decide +kernel
theorem dX12_meltOne_458 : decode cX12_meltOne 458 = .ok (.ifCond .ne 18, 3) := by decide +kernel
theorem dX12_meltOne_476 : decode cX12_meltOne 476 = .ok (.aload_n 0, 1) := by decide +kernel
theorem dX12_meltOne_477 : decode cX12_meltOne 477 = .ok (.getfield 53, 3) := by decide +kernel
theorem dX12_meltOne_480 : decode cX12_meltOne 480 = .ok (.iload 13, 2) := by decide +kernel
theorem dX12_meltOne_482 : decode cX12_meltOne 482 = .ok (.iaload, 1) := by decide +kernel
theorem dX12_meltOne_483 : decode cX12_meltOne 483 = .ok (.iastore, 1) := by decide +kernel
theorem dX12_meltOne_484 : decode cX12_meltOne 484 = .ok (.iconst 0, 1) := by decide +kernel
theorem dX12_meltOne_485 : decode cX12_meltOne 485 = .ok (.istore 14, 2) := by decide +kernel
theorem dX12_meltOne_544 : decode cX12_meltOne 544 = .ok (.iinc 11 1, 3) := by decide +kernel
theorem dX12_meltOne_547 : decode cX12_meltOne 547 = .ok (.goto (-180), 3) := by decide +kernel
theorem dX12_meltOne_424 : decode cX12_meltOne 424 = .ok (.aload_n 0, 1) := by decide +kernel
theorem dX12_meltOne_425 : decode cX12_meltOne 425 = .ok (.getfield 20, 3) := by decide +kernel
theorem dX12_meltOne_428 : decode cX12_meltOne 428 = .ok (.aload_n 0, 1) := by decide +kernel
theorem dX12_meltOne_429 : decode cX12_meltOne 429 = .ok (.iload_n 1, 1) := by decide +kernel
theorem dX12_meltOne_430 : decode cX12_meltOne 430 = .ok (.iload 10, 2) := by decide +kernel
theorem dX12_meltOne_432 : decode cX12_meltOne 432 = .ok (.invokevirtual 203, 3) := by decide +kernel
theorem dX12_meltOne_435 : decode cX12_meltOne 435 = .ok (.iaload, 1) := by decide +kernel
theorem dX12_meltOne_436 : decode cX12_meltOne 436 = .ok (.goto 13, 3) := by decide +kernel
theorem dX12_meltOne_461 : decode cX12_meltOne 461 = .ok (.aload_n 0, 1) := by decide +kernel
theorem dX12_meltOne_462 : decode cX12_meltOne 462 = .ok (.getfield 17, 3) := by decide +kernel
theorem dX12_meltOne_465 : decode cX12_meltOne 465 = .ok (.aload_n 0, 1) := by decide +kernel
theorem dX12_meltOne_466 : decode cX12_meltOne 466 = .ok (.iload_n 1, 1) := by decide +kernel
theorem dX12_meltOne_467 : decode cX12_meltOne 467 = .ok (.iload 10, 2) := by decide +kernel
theorem dX12_meltOne_469 : decode cX12_meltOne 469 = .ok (.invokevirtual 203, 3) := by decide +kernel
theorem dX12_meltOne_472 : decode cX12_meltOne 472 = .ok (.iaload, 1) := by decide +kernel
theorem dX12_meltOne_473 : decode cX12_meltOne 473 = .ok (.goto 10, 3) := by decide +kernel
set_option maxHeartbeats 2000000 in
set_option maxRecDepth 20000 in
theorem l_mo5 (d : Nat) {b : Nat} {σ0 : MS} {r : Int} {k : Int} {q : Int} {f : Int} {base : Int} {lb : Int} {out : Int} {to : Int} {ρ : MS} {FI : Int → Int} {lf : Int → Int} {frq : Int → Int} {lfq : Int → Int} {g0 : Int} {m : Int} {mk : Int} {post : Option Value → MS → Prop} (hmo : MOH ρ r k q f base lb out to g0 m FI lf frq lfq) (hR0 : RG σ0) (hρ : Fr [62] [3, 4, 5, 6, 7, 8] [] ρ σ0) (hmk : σ0.2.1 5 (220 * r + mk) = g0 ∧ 0 ≤ mk ∧ mk < 220) (hfq : FRI ρ q) (hx_550 : ∀ (j : Int) (σ : MS) , (Fr [] [15, 16, 17, 18] [] σ0 σ) → (RG σ) → (FRM ρ σ r q f g0 base (ρ.2.1 14 q)) → Tm (d + 2) m_X12_meltOne 550 b σ [(10, .int (iI mk)), (9, .int (iI to)), (8, .int (iI out)), (7, .int (iI lb)), (6, .int (iI base)), (5, .int (iI f)), (4, .int (iI (220 * r + k))), (0, .ref b), (1, .int (iI r)), (2, .int (iI k)), (3, .int (iI q))] [] post) : ∀ (n : Nat) (j : Int) (σ : MS) , (Fr [] [15, 16, 17, 18] [] σ0 σ) → (RG σ) → (0 ≤ j ∧ j ≤ ρ.2.1 14 q) → (FRM ρ σ r q f g0 base j) → (12 - j).toNat = n → Tm (d + 2) m_X12_meltOne 367 b σ [(11, .int (iI j)), (10, .int (iI mk)), (9, .int (iI to)), (8, .int (iI out)), (7, .int (iI lb)), (6, .int (iI base)), (5, .int (iI f)), (4, .int (iI (220 * r + k))), (0, .ref b), (1, .int (iI r)), (2, .int (iI k)), (3, .int (iI q))] [] post := by
  intro n
  induction n using Nat.strongRecOn with
  | _ n ih =>
    intro j σ hF hR h0 hfm hm
    have mn := hmo.n
    have e14 : σ0.2.1 14 q = ρ.2.1 14 q := by rw [hρ.2.1 14 (by decide)]
    refine tm_iload dX12_meltOne_367 0 rfl ?_
    refine tm_aload_n dX12_meltOne_369 rfl 8 rfl ?_
    refine tm_get (k := 14) (v := .ref (b + 1 + 11)) lay_12 dX12_meltOne_370 (by decide) fl12_44 rfl ?_
    refine tm_iload_n dX12_meltOne_373 rfl 11 rfl ?_
    refine tm_iald (z := q) (v := σ0.2.1 14 q) dX12_meltOne_374 (show mT[11]? = some (14, 0, 6) from rfl) (by omega) (by omega) (by decide) (ra_F hF (by decide) (rfl)) ?_
    have g1 := RG.a hR0 14 (q)
    refine tm_icmp_ge (tgt := 550) dX12_meltOne_375 (by decide) ⟨by omega, by omega⟩ ⟨by omega, by omega⟩ (fun h2 => ?_) (fun h2 => ?_)
    · exact tm_sub [1, 2, 3, 4, 5, 6, 7, 8, 9, 10, 11] rfl (hx_550 (0) σ (Fr.rfl.trans (Fr.sub hF (by decide) (by decide) (by decide))) hR (by rw [show ρ.2.1 14 q = j by omega]; exact hfm))
    · have e16 := hfm.2.1 (12 * q + j) (by omega)
      have hf1 := hfq.2 j
      refine tm_bipush dX12_meltOne_378 (by decide) ?_
      refine tm_iload_n dX12_meltOne_380 rfl 9 rfl ?_
      refine tm_imul dX12_meltOne_381 ?_
      refine tm_iload dX12_meltOne_382 6 rfl ?_
      refine tm_iadd dX12_meltOne_384 ?_
      refine tm_iload dX12_meltOne_385 0 rfl ?_
      refine tm_iadd dX12_meltOne_387 ?_
      refine tm_istore (L' := [(12, .int (iI (((12 * r) + f) + j))), (11, .int (iI j)), (10, .int (iI mk)), (9, .int (iI to)), (8, .int (iI out)), (7, .int (iI lb)), (6, .int (iI base)), (5, .int (iI f)), (4, .int (iI (220 * r + k))), (0, .ref b), (1, .int (iI r)), (2, .int (iI k)), (3, .int (iI q))]) dX12_meltOne_388 (by decide) rfl ?_
      refine tm_bipush dX12_meltOne_390 (by decide) ?_
      refine tm_iload_n dX12_meltOne_392 rfl 12 rfl ?_
      refine tm_imul dX12_meltOne_393 ?_
      refine tm_iload dX12_meltOne_394 1 rfl ?_
      refine tm_iadd dX12_meltOne_396 ?_
      refine tm_istore (L' := [(13, .int (iI ((12 * q) + j))), (12, .int (iI (((12 * r) + f) + j))), (11, .int (iI j)), (10, .int (iI mk)), (9, .int (iI to)), (8, .int (iI out)), (7, .int (iI lb)), (6, .int (iI base)), (5, .int (iI f)), (4, .int (iI (220 * r + k))), (0, .ref b), (1, .int (iI r)), (2, .int (iI k)), (3, .int (iI q))]) dX12_meltOne_397 (by decide) rfl ?_
      refine tm_aload_n dX12_meltOne_399 rfl 10 rfl ?_
      refine tm_get (k := 15) (v := .ref (b + 1 + 12)) lay_12 dX12_meltOne_400 (by decide) fl12_47 rfl ?_
      refine tm_iload dX12_meltOne_403 1 rfl ?_
      refine tm_aload_n dX12_meltOne_405 rfl 10 rfl ?_
      refine tm_get (k := 15) (v := .ref (b + 1 + 12)) lay_12 dX12_meltOne_406 (by decide) fl12_47 rfl ?_
      refine tm_iload dX12_meltOne_409 0 rfl ?_
      refine tm_iald (z := (12 * q) + j) (v := σ.2.1 15 ((12 * q) + j)) dX12_meltOne_411 (show mT[12]? = some (15, 0, 72) from rfl) (by omega) (by omega) (by decide) (rfl) ?_
      have g3 := RG.a hR 15 ((12 * q) + j)
      refine tm_iast (z := ((12 * r) + f) + j) (v := σ.2.1 15 ((12 * q) + j)) dX12_meltOne_412 (show mT[12]? = some (15, 0, 72) from rfl) (by omega) (by omega) (by decide) ?_
      refine tm_aload_n dX12_meltOne_413 rfl 10 rfl ?_
      refine tm_get (k := 16) (v := .ref (b + 1 + 13)) lay_12 dX12_meltOne_414 (by decide) fl12_50 rfl ?_
      refine tm_iload dX12_meltOne_417 1 rfl ?_
      refine tm_iload dX12_meltOne_419 2 rfl ?_
      refine tm_if_ne (tgt := 439) dX12_meltOne_421 (by decide) ⟨by omega, by omega⟩ (fun h4 => ?_) (fun h4 => ?_)
      · refine tm_aload_n dX12_meltOne_439 rfl 10 rfl ?_
        refine tm_get (k := 16) (v := .ref (b + 1 + 13)) lay_12 dX12_meltOne_440 (by decide) fl12_50 rfl ?_
        refine tm_iload dX12_meltOne_443 0 rfl ?_
        refine tm_iald (z := (12 * q) + j) (v := σ.2.1 16 ((12 * q) + j)) dX12_meltOne_445 (show mT[13]? = some (16, 0, 72) from rfl) (by omega) (by omega) (by decide) (ra_o (by decide) (rfl)) ?_
        have g5 := RG.a hR 16 ((12 * q) + j)
        refine tm_iload dX12_meltOne_446 8 rfl ?_
        refine tm_iadd dX12_meltOne_448 ?_
        refine tm_iast (z := ((12 * r) + f) + j) (v := (σ.2.1 16 ((12 * q) + j)) + f) dX12_meltOne_449 (show mT[13]? = some (16, 0, 72) from rfl) (by omega) (by omega) (by decide) ?_
        refine tm_aload_n dX12_meltOne_450 rfl 10 rfl ?_
        refine tm_get (k := 17) (v := .ref (b + 1 + 14)) lay_12 dX12_meltOne_451 (by decide) fl12_53 rfl ?_
        refine tm_iload dX12_meltOne_454 1 rfl ?_
        refine tm_iload dX12_meltOne_456 2 rfl ?_
        refine tm_if_ne (tgt := 476) dX12_meltOne_458 (by decide) ⟨by omega, by omega⟩ (fun h6 => ?_) (fun h6 => ?_)
        · refine tm_aload_n dX12_meltOne_476 rfl 10 rfl ?_
          refine tm_get (k := 17) (v := .ref (b + 1 + 14)) lay_12 dX12_meltOne_477 (by decide) fl12_53 rfl ?_
          refine tm_iload dX12_meltOne_480 0 rfl ?_
          refine tm_iald (z := (12 * q) + j) (v := σ.2.1 17 ((12 * q) + j)) dX12_meltOne_482 (show mT[14]? = some (17, 0, 72) from rfl) (by omega) (by omega) (by decide) (ra_o (by decide) (ra_o (by decide) (rfl))) ?_
          have g7 := RG.a hR 17 ((12 * q) + j)
          refine tm_iast (z := ((12 * r) + f) + j) (v := σ.2.1 17 ((12 * q) + j)) dX12_meltOne_483 (show mT[14]? = some (17, 0, 72) from rfl) (by omega) (by omega) (by decide) ?_
          refine tm_iconst dX12_meltOne_484 ?_
          refine tm_istore (L' := [(14, .int (iI 0)), (13, .int (iI ((12 * q) + j))), (12, .int (iI (((12 * r) + f) + j))), (11, .int (iI j)), (10, .int (iI mk)), (9, .int (iI to)), (8, .int (iI out)), (7, .int (iI lb)), (6, .int (iI base)), (5, .int (iI f)), (4, .int (iI (220 * r + k))), (0, .ref b), (1, .int (iI r)), (2, .int (iI k)), (3, .int (iI q))]) dX12_meltOne_485 (by decide) rfl ?_
          refine tm_sub [0, 3, 4, 5, 6, 7, 8, 9, 10, 11, 12, 13, 14] rfl (l_mo6 (d + 1) (σ0 := (sA 17 (((12 * r) + f) + j) (σ.2.1 17 ((12 * q) + j)) (sA 16 (((12 * r) + f) + j) ((σ.2.1 16 ((12 * q) + j)) + f) (sA 15 (((12 * r) + f) + j) (σ.2.1 15 ((12 * q) + j)) σ)))) (r := r) (k := k) (q := q) (f := f) (base := base) (lb := lb) (out := out) (to := to) (mk := mk) (j := j) (((hR.A (by omega)).A (by omega)).A (by omega)) (by omega) (by omega) (fun n114 σ15 F10 R11 f12 f13 => ?_) _ (0) (sA 17 (((12 * r) + f) + j) (σ.2.1 17 ((12 * q) + j)) (sA 16 (((12 * r) + f) + j) ((σ.2.1 16 ((12 * q) + j)) + f) (sA 15 (((12 * r) + f) + j) (σ.2.1 15 ((12 * q) + j)) σ))) Fr.rfl (((hR.A (by omega)).A (by omega)).A (by omega)) (by omega) (fun n a c => by omega) (fun z c => rfl) rfl)
          show Tm _ _ 544 b σ15 [(11, .int (iI j)), (10, .int (iI mk)), (9, .int (iI to)), (8, .int (iI out)), (7, .int (iI lb)), (6, .int (iI base)), (5, .int (iI f)), (4, .int (iI (220 * r + k))), (0, .ref b), (1, .int (iI r)), (2, .int (iI k)), (3, .int (iI q))] [] _
          refine tm_iinc (q0 := 0) (L' := [(11, .int (iI (j + 1))), (10, .int (iI mk)), (9, .int (iI to)), (8, .int (iI out)), (7, .int (iI lb)), (6, .int (iI base)), (5, .int (iI f)), (4, .int (iI (220 * r + k))), (0, .ref b), (1, .int (iI r)), (2, .int (iI k)), (3, .int (iI q))]) dX12_meltOne_544 rfl (by decide) rfl ?_
          refine tm_goto (tgt := 367) dX12_meltOne_547 (by decide) ?_
          exact tm_sub [0, 1, 2, 3, 4, 5, 6, 7, 8, 9, 10, 11] rfl (ih _ (by omega) (j + 1) σ15 (((((Fr.rfl.trans (Fr.sub hF (by decide) (by decide) (by decide))).A (by decide)).A (by decide)).A (by decide)).trans (Fr.sub F10 (by decide) (by decide) (by decide))) R11 (by omega) (hfm.go (by omega) (by omega) F10 (by omega) (fun e => by omega) (fun e => by omega) (fun n a c => by
          rw [f12 n a c, show (sA 17 (((12 * r) + f) + j) (σ.2.1 17 ((12 * q) + j)) (sA 16 (((12 * r) + f) + j) ((σ.2.1 16 ((12 * q) + j)) + f) (sA 15 (((12 * r) + f) + j) (σ.2.1 15 ((12 * q) + j)) σ))).2.1 18 (144 * q + 12 * j + n) = ρ.2.1 18 (144 * q + 12 * j + n) from hfm.2.2 _ (by omega)]) (fun z c => f13 z c)) rfl)
        · exact absurd h6 (by omega)
      · refine tm_aload_n dX12_meltOne_424 rfl 10 rfl ?_
        refine tm_get (k := 5) (v := .ref (b + 1 + 3)) lay_12 dX12_meltOne_425 (by decide) fl12_20 rfl ?_
        refine tm_aload_n dX12_meltOne_428 rfl 10 rfl ?_
        refine tm_iload_n dX12_meltOne_429 rfl 11 rfl ?_
        refine tm_iload dX12_meltOne_430 3 rfl ?_
        refine tm_callV (M := m_X12_meltOne) (pc := 432) (ix := 203) (M' := m_X12_at) (As := [.int (iI r), .int (iI mk)]) (rest := [.ref (b + 1 + 3), .int (iI (((12 * r) + f) + j)), .ref (b + 1 + 13)]) dX12_meltOne_432 ok_X12_at im_X12_at se_X12_at ml12_203 np_X12_at rfl rfl (Nat.le_of_ble_eq_true rfl) (Nat.le_of_ble_eq_true rfl) rfl (c_X12_at (d) (σ := (sA 15 (((12 * r) + f) + j) (σ.2.1 15 ((12 * q) + j)) σ)) (x := r) (k := mk) ) (fun r16 σ17 hp => ?_)
        obtain ⟨v18, rfl, rfl, f19⟩ := hp
        subst f19
        show Tm _ _ 435 b (sA 15 (((12 * r) + f) + j) (σ.2.1 15 ((12 * q) + j)) σ) [(13, .int (iI ((12 * q) + j))), (12, .int (iI (((12 * r) + f) + j))), (11, .int (iI j)), (10, .int (iI mk)), (9, .int (iI to)), (8, .int (iI out)), (7, .int (iI lb)), (6, .int (iI base)), (5, .int (iI f)), (4, .int (iI (220 * r + k))), (0, .ref b), (1, .int (iI r)), (2, .int (iI k)), (3, .int (iI q))] [.int (iI (220 * r + mk)), .ref (b + 1 + 3), .int (iI (((12 * r) + f) + j)), .ref (b + 1 + 13)] _
        refine tm_iald (z := 220 * r + mk) (v := σ0.2.1 5 (220 * r + mk)) dX12_meltOne_435 (show mT[3]? = some (5, 0, 2860) from rfl) (by omega) (by omega) (by decide) (ra_o (by decide) (ra_F hF (by decide) (rfl))) ?_
        have g20 := RG.a hR0 5 (220 * r + mk)
        refine tm_goto (tgt := 449) dX12_meltOne_436 (by decide) ?_
        refine tm_iast (z := ((12 * r) + f) + j) (v := σ0.2.1 5 (220 * r + mk)) dX12_meltOne_449 (show mT[13]? = some (16, 0, 72) from rfl) (by omega) (by omega) (by decide) ?_
        refine tm_aload_n dX12_meltOne_450 rfl 10 rfl ?_
        refine tm_get (k := 17) (v := .ref (b + 1 + 14)) lay_12 dX12_meltOne_451 (by decide) fl12_53 rfl ?_
        refine tm_iload dX12_meltOne_454 1 rfl ?_
        refine tm_iload dX12_meltOne_456 2 rfl ?_
        refine tm_if_ne (tgt := 476) dX12_meltOne_458 (by decide) ⟨by omega, by omega⟩ (fun h21 => ?_) (fun h21 => ?_)
        · exact absurd h21 (by omega)
        · refine tm_aload_n dX12_meltOne_461 rfl 10 rfl ?_
          refine tm_get (k := 4) (v := .ref (b + 1 + 2)) lay_12 dX12_meltOne_462 (by decide) fl12_17 rfl ?_
          refine tm_aload_n dX12_meltOne_465 rfl 10 rfl ?_
          refine tm_iload_n dX12_meltOne_466 rfl 11 rfl ?_
          refine tm_iload dX12_meltOne_467 3 rfl ?_
          refine tm_callV (M := m_X12_meltOne) (pc := 469) (ix := 203) (M' := m_X12_at) (As := [.int (iI r), .int (iI mk)]) (rest := [.ref (b + 1 + 2), .int (iI (((12 * r) + f) + j)), .ref (b + 1 + 14)]) dX12_meltOne_469 ok_X12_at im_X12_at se_X12_at ml12_203 np_X12_at rfl rfl (Nat.le_of_ble_eq_true rfl) (Nat.le_of_ble_eq_true rfl) rfl (c_X12_at (d) (σ := (sA 16 (((12 * r) + f) + j) (σ0.2.1 5 (220 * r + mk)) (sA 15 (((12 * r) + f) + j) (σ.2.1 15 ((12 * q) + j)) σ))) (x := r) (k := mk) ) (fun r22 σ23 hp => ?_)
          obtain ⟨v24, rfl, rfl, f25⟩ := hp
          subst f25
          show Tm _ _ 472 b (sA 16 (((12 * r) + f) + j) (σ0.2.1 5 (220 * r + mk)) (sA 15 (((12 * r) + f) + j) (σ.2.1 15 ((12 * q) + j)) σ)) [(13, .int (iI ((12 * q) + j))), (12, .int (iI (((12 * r) + f) + j))), (11, .int (iI j)), (10, .int (iI mk)), (9, .int (iI to)), (8, .int (iI out)), (7, .int (iI lb)), (6, .int (iI base)), (5, .int (iI f)), (4, .int (iI (220 * r + k))), (0, .ref b), (1, .int (iI r)), (2, .int (iI k)), (3, .int (iI q))] [.int (iI (220 * r + mk)), .ref (b + 1 + 2), .int (iI (((12 * r) + f) + j)), .ref (b + 1 + 14)] _
          refine tm_iald (z := 220 * r + mk) (v := σ0.2.1 4 (220 * r + mk)) dX12_meltOne_472 (show mT[2]? = some (4, 0, 2860) from rfl) (by omega) (by omega) (by decide) (ra_o (by decide) (ra_o (by decide) (ra_F hF (by decide) (rfl)))) ?_
          have g26 := RG.a hR0 4 (220 * r + mk)
          refine tm_goto (tgt := 483) dX12_meltOne_473 (by decide) ?_
          refine tm_iast (z := ((12 * r) + f) + j) (v := σ0.2.1 4 (220 * r + mk)) dX12_meltOne_483 (show mT[14]? = some (17, 0, 72) from rfl) (by omega) (by omega) (by decide) ?_
          refine tm_iconst dX12_meltOne_484 ?_
          refine tm_istore (L' := [(14, .int (iI 0)), (13, .int (iI ((12 * q) + j))), (12, .int (iI (((12 * r) + f) + j))), (11, .int (iI j)), (10, .int (iI mk)), (9, .int (iI to)), (8, .int (iI out)), (7, .int (iI lb)), (6, .int (iI base)), (5, .int (iI f)), (4, .int (iI (220 * r + k))), (0, .ref b), (1, .int (iI r)), (2, .int (iI k)), (3, .int (iI q))]) dX12_meltOne_485 (by decide) rfl ?_
          refine tm_sub [0, 3, 4, 5, 6, 7, 8, 9, 10, 11, 12, 13, 14] rfl (l_mo6 (d + 1) (σ0 := (sA 17 (((12 * r) + f) + j) (σ0.2.1 4 (220 * r + mk)) (sA 16 (((12 * r) + f) + j) (σ0.2.1 5 (220 * r + mk)) (sA 15 (((12 * r) + f) + j) (σ.2.1 15 ((12 * q) + j)) σ)))) (r := r) (k := k) (q := q) (f := f) (base := base) (lb := lb) (out := out) (to := to) (mk := mk) (j := j) (((hR.A (by omega)).A (by omega)).A (by omega)) (by omega) (by omega) (fun n133 σ34 F29 R30 f31 f32 => ?_) _ (0) (sA 17 (((12 * r) + f) + j) (σ0.2.1 4 (220 * r + mk)) (sA 16 (((12 * r) + f) + j) (σ0.2.1 5 (220 * r + mk)) (sA 15 (((12 * r) + f) + j) (σ.2.1 15 ((12 * q) + j)) σ))) Fr.rfl (((hR.A (by omega)).A (by omega)).A (by omega)) (by omega) (fun n a c => by omega) (fun z c => rfl) rfl)
          show Tm _ _ 544 b σ34 [(11, .int (iI j)), (10, .int (iI mk)), (9, .int (iI to)), (8, .int (iI out)), (7, .int (iI lb)), (6, .int (iI base)), (5, .int (iI f)), (4, .int (iI (220 * r + k))), (0, .ref b), (1, .int (iI r)), (2, .int (iI k)), (3, .int (iI q))] [] _
          refine tm_iinc (q0 := 0) (L' := [(11, .int (iI (j + 1))), (10, .int (iI mk)), (9, .int (iI to)), (8, .int (iI out)), (7, .int (iI lb)), (6, .int (iI base)), (5, .int (iI f)), (4, .int (iI (220 * r + k))), (0, .ref b), (1, .int (iI r)), (2, .int (iI k)), (3, .int (iI q))]) dX12_meltOne_544 rfl (by decide) rfl ?_
          refine tm_goto (tgt := 367) dX12_meltOne_547 (by decide) ?_
          exact tm_sub [0, 1, 2, 3, 4, 5, 6, 7, 8, 9, 10, 11] rfl (ih _ (by omega) (j + 1) σ34 (((((Fr.rfl.trans (Fr.sub hF (by decide) (by decide) (by decide))).A (by decide)).A (by decide)).A (by decide)).trans (Fr.sub F29 (by decide) (by decide) (by decide))) R30 (by omega) (hfm.go (by omega) (by omega) F29 (by omega) (fun e => by omega) (fun e => by omega) (fun n a c => by
          rw [f31 n a c, show (sA 17 (((12 * r) + f) + j) (σ0.2.1 4 (220 * r + mk)) (sA 16 (((12 * r) + f) + j) (σ0.2.1 5 (220 * r + mk)) (sA 15 (((12 * r) + f) + j) (σ.2.1 15 ((12 * q) + j)) σ))).2.1 18 (144 * q + 12 * j + n) = ρ.2.1 18 (144 * q + 12 * j + n) from hfm.2.2 _ (by omega)]) (fun z c => f32 z c)) rfl)
theorem dX12_meltOne_575 : decode cX12_meltOne 575 = .ok (.iload 11, 2) := by decide +kernel
theorem dX12_meltOne_577 : decode cX12_meltOne 577 = .ok (.iload_n 2, 1) := by decide +kernel
theorem dX12_meltOne_578 : decode cX12_meltOne 578 = .ok (.if_icmp .le 34, 3) := by decide +kernel
theorem dX12_meltOne_581 : decode cX12_meltOne 581 = .ok (.aload_n 0, 1) := by decide +kernel
theorem dX12_meltOne_582 : decode cX12_meltOne 582 = .ok (.aload_n 0, 1) := by decide +kernel
theorem dX12_meltOne_583 : decode cX12_meltOne 583 = .ok (.iload_n 1, 1) := by decide +kernel
theorem dX12_meltOne_584 : decode cX12_meltOne 584 = .ok (.iload 11, 2) := by decide +kernel
theorem dX12_meltOne_586 : decode cX12_meltOne 586 = .ok (.invokevirtual 203, 3) := by decide +kernel
theorem dX12_meltOne_589 : decode cX12_meltOne 589 = .ok (.aload_n 0, 1) := by decide +kernel
theorem dX12_meltOne_590 : decode cX12_meltOne 590 = .ok (.iload_n 1, 1) := by decide +kernel
theorem dX12_meltOne_591 : decode cX12_meltOne 591 = .ok (.iload 11, 2) := by decide +kernel
theorem dX12_meltOne_593 : decode cX12_meltOne 593 = .ok (.aload_n 0, 1) := by decide +kernel
theorem dX12_meltOne_594 : decode cX12_meltOne 594 = .ok (.getfield 509, 3) := by decide +kernel
theorem dX12_meltOne_597 : decode cX12_meltOne 597 = .ok (.iadd, 1) := by decide +kernel
theorem dX12_meltOne_598 : decode cX12_meltOne 598 = .ok (.iconst 1, 1) := by decide +kernel
theorem dX12_meltOne_599 : decode cX12_meltOne 599 = .ok (.isub, 1) := by decide +kernel
theorem dX12_meltOne_600 : decode cX12_meltOne 600 = .ok (.invokevirtual 203, 3) := by decide +kernel
theorem dX12_meltOne_603 : decode cX12_meltOne 603 = .ok (.invokevirtual 394, 3) := by decide +kernel
theorem dX12_meltOne_606 : decode cX12_meltOne 606 = .ok (.iinc 11 (-1), 3) := by decide +kernel
theorem dX12_meltOne_609 : decode cX12_meltOne 609 = .ok (.goto (-34), 3) := by decide +kernel
set_option maxHeartbeats 2000000 in
set_option maxRecDepth 20000 in
theorem l_mo7 (d : Nat) {b : Nat} {σ0 : MS} {r : Int} {k : Int} {q : Int} {f : Int} {base : Int} {lb : Int} {out : Int} {to : Int} {mk : Int} {a : Int} {nn : Int} {post : Option Value → MS → Prop} (hR0 : RG σ0) (hr : 0 ≤ r ∧ r < 6) (ha : σ0.1 62 = a ∧ 1 ≤ a ∧ 0 ≤ k ∧ nn + (a - 1) ≤ 220) (hx_612 : ∀ (i : Int) (σ : MS) , (Fr [] [3, 4, 5, 6, 7, 8] [] σ0 σ) → (RG σ) → (SHU σ0 σ r nn a k) → Tm (d + 2) m_X12_meltOne 612 b σ [(10, .int (iI mk)), (9, .int (iI to)), (8, .int (iI out)), (7, .int (iI lb)), (6, .int (iI base)), (5, .int (iI f)), (4, .int (iI (220 * r + k))), (0, .ref b), (1, .int (iI r)), (2, .int (iI k)), (3, .int (iI q))] [] post) : ∀ (n : Nat) (i : Int) (σ : MS) , (Fr [] [3, 4, 5, 6, 7, 8] [] σ0 σ) → (RG σ) → (k ≤ i ∧ i < nn) → (SHU σ0 σ r nn a i) → (i - k).toNat = n → Tm (d + 2) m_X12_meltOne 575 b σ [(11, .int (iI i)), (10, .int (iI mk)), (9, .int (iI to)), (8, .int (iI out)), (7, .int (iI lb)), (6, .int (iI base)), (5, .int (iI f)), (4, .int (iI (220 * r + k))), (0, .ref b), (1, .int (iI r)), (2, .int (iI k)), (3, .int (iI q))] [] post := by
  intro n
  induction n using Nat.strongRecOn with
  | _ n ih =>
    intro i σ hF hR h0 hsu hm
    refine tm_iload dX12_meltOne_575 0 rfl ?_
    refine tm_iload_n dX12_meltOne_577 rfl 10 rfl ?_
    refine tm_icmp_le (tgt := 612) dX12_meltOne_578 (by decide) ⟨by omega, by omega⟩ ⟨by omega, by omega⟩ (fun h1 => ?_) (fun h1 => ?_)
    · exact tm_sub [1, 2, 3, 4, 5, 6, 7, 8, 9, 10, 11] rfl (hx_612 (0) σ (Fr.rfl.trans (Fr.sub hF (by decide) (by decide) (by decide))) hR (by rw [show k = i by omega]; exact hsu))
    · refine tm_aload_n dX12_meltOne_581 rfl 8 rfl ?_
      refine tm_aload_n dX12_meltOne_582 rfl 8 rfl ?_
      refine tm_iload_n dX12_meltOne_583 rfl 9 rfl ?_
      refine tm_iload dX12_meltOne_584 0 rfl ?_
      refine tm_callV (M := m_X12_meltOne) (pc := 586) (ix := 203) (M' := m_X12_at) (As := [.int (iI r), .int (iI i)]) (rest := [.ref b]) dX12_meltOne_586 ok_X12_at im_X12_at se_X12_at ml12_203 np_X12_at rfl rfl (Nat.le_of_ble_eq_true rfl) (Nat.le_of_ble_eq_true rfl) rfl (c_X12_at (d) (σ := σ) (x := r) (k := i) ) (fun r2 σ3 hp => ?_)
      obtain ⟨v4, rfl, rfl, f5⟩ := hp
      subst f5
      show Tm _ _ 589 b σ [(11, .int (iI i)), (10, .int (iI mk)), (9, .int (iI to)), (8, .int (iI out)), (7, .int (iI lb)), (6, .int (iI base)), (5, .int (iI f)), (4, .int (iI (220 * r + k))), (0, .ref b), (1, .int (iI r)), (2, .int (iI k)), (3, .int (iI q))] [.int (iI (220 * r + i)), .ref b] _
      refine tm_aload_n dX12_meltOne_589 rfl 8 rfl ?_
      refine tm_iload_n dX12_meltOne_590 rfl 9 rfl ?_
      refine tm_iload dX12_meltOne_591 0 rfl ?_
      refine tm_aload_n dX12_meltOne_593 rfl 8 rfl ?_
      refine tm_getS (k := 62) (t := σ0.1 62) dX12_meltOne_594 (by decide) fl12_509 rfl (rs_F hF (by decide) (rfl)) ?_
      have g6 := RG.s hR0 62
      refine tm_iadd dX12_meltOne_597 ?_
      refine tm_iconst dX12_meltOne_598 ?_
      refine tm_isub dX12_meltOne_599 ?_
      refine tm_callV (M := m_X12_meltOne) (pc := 600) (ix := 203) (M' := m_X12_at) (As := [.int (iI r), .int (iI ((i + (σ0.1 62)) - 1))]) (rest := [.int (iI (220 * r + i)), .ref b]) dX12_meltOne_600 ok_X12_at im_X12_at se_X12_at ml12_203 np_X12_at rfl rfl (Nat.le_of_ble_eq_true rfl) (Nat.le_of_ble_eq_true rfl) rfl (c_X12_at (d) (σ := σ) (x := r) (k := (i + (σ0.1 62)) - 1) ) (fun r7 σ8 hp => ?_)
      obtain ⟨v9, rfl, rfl, f10⟩ := hp
      subst f10
      show Tm _ _ 603 b σ [(11, .int (iI i)), (10, .int (iI mk)), (9, .int (iI to)), (8, .int (iI out)), (7, .int (iI lb)), (6, .int (iI base)), (5, .int (iI f)), (4, .int (iI (220 * r + k))), (0, .ref b), (1, .int (iI r)), (2, .int (iI k)), (3, .int (iI q))] [.int (iI (220 * r + ((i + (σ0.1 62)) - 1))), .int (iI (220 * r + i)), .ref b] _
      refine tm_callV (M := m_X12_meltOne) (pc := 603) (ix := 394) (M' := m_X12_copyItem) (As := [.int (iI (220 * r + i)), .int (iI (220 * r + ((i + (σ0.1 62)) - 1)))]) (rest := []) dX12_meltOne_603 ok_X12_copyItem im_X12_copyItem se_X12_copyItem ml12_394 np_X12_copyItem rfl rfl (Nat.le_of_ble_eq_true rfl) (Nat.le_of_ble_eq_true rfl) rfl (c_X12_copyItem (d) (σ := σ) (f := 220 * r + i) (t := 220 * r + ((i + (σ0.1 62)) - 1)) (by omega) (by omega)) (fun r11 σ12 hp => ?_)
      obtain ⟨rfl, f14⟩ := hp
      subst f14
      show Tm _ _ 606 b (fCopy (220 * r + i) (220 * r + ((i + (σ0.1 62)) - 1)) σ) [(11, .int (iI i)), (10, .int (iI mk)), (9, .int (iI to)), (8, .int (iI out)), (7, .int (iI lb)), (6, .int (iI base)), (5, .int (iI f)), (4, .int (iI (220 * r + k))), (0, .ref b), (1, .int (iI r)), (2, .int (iI k)), (3, .int (iI q))] [] _
      refine tm_iinc (q0 := 0) (L' := [(11, .int (iI (i + (-1)))), (10, .int (iI mk)), (9, .int (iI to)), (8, .int (iI out)), (7, .int (iI lb)), (6, .int (iI base)), (5, .int (iI f)), (4, .int (iI (220 * r + k))), (0, .ref b), (1, .int (iI r)), (2, .int (iI k)), (3, .int (iI q))]) dX12_meltOne_606 rfl (by decide) rfl ?_
      refine tm_goto (tgt := 575) dX12_meltOne_609 (by decide) ?_
      exact tm_sub [0, 1, 2, 3, 4, 5, 6, 7, 8, 9, 10, 11] rfl (ih _ (by omega) (i + (-1)) (fCopy (220 * r + i) (220 * r + ((i + (σ0.1 62)) - 1)) σ) ((Fr.rfl.trans (Fr.sub hF (by decide) (by decide) (by decide))).trans (Fr.sub fCopy_fr (by decide) (by decide) (by decide))) (hR.copy) (by omega) (by
          have h := hsu.go hr (by omega)
          rw [show i + (a - 1) = i + σ0.1 62 - 1 by omega] at h
          exact h) rfl)
theorem dX12_meltOne_615 : decode cX12_meltOne 615 = .ok (.iload 11, 2) := by decide +kernel
theorem dX12_meltOne_617 : decode cX12_meltOne 617 = .ok (.aload_n 0, 1) := by decide +kernel
theorem dX12_meltOne_618 : decode cX12_meltOne 618 = .ok (.getfield 509, 3) := by decide +kernel
theorem dX12_meltOne_621 : decode cX12_meltOne 621 = .ok (.if_icmp .ge 28, 3) := by decide +kernel
theorem dX12_meltOne_624 : decode cX12_meltOne 624 = .ok (.aload_n 0, 1) := by decide +kernel
theorem dX12_meltOne_625 : decode cX12_meltOne 625 = .ok (.sipush 2640, 3) := by decide +kernel
theorem dX12_meltOne_628 : decode cX12_meltOne 628 = .ok (.iload 11, 2) := by decide +kernel
theorem dX12_meltOne_630 : decode cX12_meltOne 630 = .ok (.iadd, 1) := by decide +kernel
theorem dX12_meltOne_631 : decode cX12_meltOne 631 = .ok (.aload_n 0, 1) := by decide +kernel
theorem dX12_meltOne_632 : decode cX12_meltOne 632 = .ok (.iload_n 1, 1) := by decide +kernel
theorem dX12_meltOne_633 : decode cX12_meltOne 633 = .ok (.iload_n 2, 1) := by decide +kernel
theorem dX12_meltOne_634 : decode cX12_meltOne 634 = .ok (.iload 11, 2) := by decide +kernel
theorem dX12_meltOne_636 : decode cX12_meltOne 636 = .ok (.iadd, 1) := by decide +kernel
theorem dX12_meltOne_637 : decode cX12_meltOne 637 = .ok (.invokevirtual 203, 3) := by decide +kernel
theorem dX12_meltOne_640 : decode cX12_meltOne 640 = .ok (.invokevirtual 394, 3) := by decide +kernel
theorem dX12_meltOne_643 : decode cX12_meltOne 643 = .ok (.iinc 11 1, 3) := by decide +kernel
theorem dX12_meltOne_646 : decode cX12_meltOne 646 = .ok (.goto (-31), 3) := by decide +kernel
set_option maxHeartbeats 2000000 in
set_option maxRecDepth 20000 in
theorem l_mo8 (d : Nat) {b : Nat} {σ0 : MS} {r : Int} {k : Int} {q : Int} {f : Int} {base : Int} {lb : Int} {out : Int} {to : Int} {mk : Int} {a : Int} {post : Option Value → MS → Prop} (hR0 : RG σ0) (hr : 0 ≤ r ∧ r < 6) (ha : σ0.1 62 = a ∧ 1 ≤ a ∧ 0 ≤ k ∧ k + a ≤ 220) (hx_649 : ∀ (i : Int) (σ : MS) , (Fr [] [3, 4, 5, 6, 7, 8] [] σ0 σ) → (RG σ) → (CPI σ0 σ r k a a) → Tm (d + 2) m_X12_meltOne 649 b σ [(10, .int (iI mk)), (9, .int (iI to)), (8, .int (iI out)), (7, .int (iI lb)), (6, .int (iI base)), (5, .int (iI f)), (4, .int (iI (220 * r + k))), (0, .ref b), (1, .int (iI r)), (2, .int (iI k)), (3, .int (iI q))] [] post) : ∀ (n : Nat) (i : Int) (σ : MS) , (Fr [] [3, 4, 5, 6, 7, 8] [] σ0 σ) → (RG σ) → (0 ≤ i ∧ i ≤ a) → (CPI σ0 σ r k a i) → (a - i).toNat = n → Tm (d + 2) m_X12_meltOne 615 b σ [(11, .int (iI i)), (10, .int (iI mk)), (9, .int (iI to)), (8, .int (iI out)), (7, .int (iI lb)), (6, .int (iI base)), (5, .int (iI f)), (4, .int (iI (220 * r + k))), (0, .ref b), (1, .int (iI r)), (2, .int (iI k)), (3, .int (iI q))] [] post := by
  intro n
  induction n using Nat.strongRecOn with
  | _ n ih =>
    intro i σ hF hR h0 hcp hm
    refine tm_iload dX12_meltOne_615 0 rfl ?_
    refine tm_aload_n dX12_meltOne_617 rfl 8 rfl ?_
    refine tm_getS (k := 62) (t := σ0.1 62) dX12_meltOne_618 (by decide) fl12_509 rfl (rs_F hF (by decide) (rfl)) ?_
    have g1 := RG.s hR0 62
    refine tm_icmp_ge (tgt := 649) dX12_meltOne_621 (by decide) ⟨by omega, by omega⟩ ⟨by omega, by omega⟩ (fun h2 => ?_) (fun h2 => ?_)
    · exact tm_sub [1, 2, 3, 4, 5, 6, 7, 8, 9, 10, 11] rfl (hx_649 (0) σ (Fr.rfl.trans (Fr.sub hF (by decide) (by decide) (by decide))) hR (by rw [show i = a by omega] at hcp; exact hcp))
    · refine tm_aload_n dX12_meltOne_624 rfl 8 rfl ?_
      refine tm_sipush dX12_meltOne_625 (by decide) ?_
      refine tm_iload dX12_meltOne_628 0 rfl ?_
      refine tm_iadd dX12_meltOne_630 ?_
      refine tm_aload_n dX12_meltOne_631 rfl 8 rfl ?_
      refine tm_iload_n dX12_meltOne_632 rfl 9 rfl ?_
      refine tm_iload_n dX12_meltOne_633 rfl 10 rfl ?_
      refine tm_iload dX12_meltOne_634 0 rfl ?_
      refine tm_iadd dX12_meltOne_636 ?_
      refine tm_callV (M := m_X12_meltOne) (pc := 637) (ix := 203) (M' := m_X12_at) (As := [.int (iI r), .int (iI (k + i))]) (rest := [.int (iI (2640 + i)), .ref b]) dX12_meltOne_637 ok_X12_at im_X12_at se_X12_at ml12_203 np_X12_at rfl rfl (Nat.le_of_ble_eq_true rfl) (Nat.le_of_ble_eq_true rfl) rfl (c_X12_at (d) (σ := σ) (x := r) (k := k + i) ) (fun r3 σ4 hp => ?_)
      obtain ⟨v5, rfl, rfl, f6⟩ := hp
      subst f6
      show Tm _ _ 640 b σ [(11, .int (iI i)), (10, .int (iI mk)), (9, .int (iI to)), (8, .int (iI out)), (7, .int (iI lb)), (6, .int (iI base)), (5, .int (iI f)), (4, .int (iI (220 * r + k))), (0, .ref b), (1, .int (iI r)), (2, .int (iI k)), (3, .int (iI q))] [.int (iI (220 * r + (k + i))), .int (iI (2640 + i)), .ref b] _
      refine tm_callV (M := m_X12_meltOne) (pc := 640) (ix := 394) (M' := m_X12_copyItem) (As := [.int (iI (2640 + i)), .int (iI (220 * r + (k + i)))]) (rest := []) dX12_meltOne_640 ok_X12_copyItem im_X12_copyItem se_X12_copyItem ml12_394 np_X12_copyItem rfl rfl (Nat.le_of_ble_eq_true rfl) (Nat.le_of_ble_eq_true rfl) rfl (c_X12_copyItem (d) (σ := σ) (f := 2640 + i) (t := 220 * r + (k + i)) (by omega) (by omega)) (fun r7 σ8 hp => ?_)
      obtain ⟨rfl, f10⟩ := hp
      subst f10
      show Tm _ _ 643 b (fCopy (2640 + i) (220 * r + (k + i)) σ) [(11, .int (iI i)), (10, .int (iI mk)), (9, .int (iI to)), (8, .int (iI out)), (7, .int (iI lb)), (6, .int (iI base)), (5, .int (iI f)), (4, .int (iI (220 * r + k))), (0, .ref b), (1, .int (iI r)), (2, .int (iI k)), (3, .int (iI q))] [] _
      refine tm_iinc (q0 := 0) (L' := [(11, .int (iI (i + 1))), (10, .int (iI mk)), (9, .int (iI to)), (8, .int (iI out)), (7, .int (iI lb)), (6, .int (iI base)), (5, .int (iI f)), (4, .int (iI (220 * r + k))), (0, .ref b), (1, .int (iI r)), (2, .int (iI k)), (3, .int (iI q))]) dX12_meltOne_643 rfl (by decide) rfl ?_
      refine tm_goto (tgt := 615) dX12_meltOne_646 (by decide) ?_
      exact tm_sub [0, 1, 2, 3, 4, 5, 6, 7, 8, 9, 10, 11] rfl (ih _ (by omega) (i + 1) (fCopy (2640 + i) (220 * r + (k + i)) σ) ((Fr.rfl.trans (Fr.sub hF (by decide) (by decide) (by decide))).trans (Fr.sub fCopy_fr (by decide) (by decide) (by decide))) (hR.copy) (by omega) (hcp.go hr (by omega)) rfl)
