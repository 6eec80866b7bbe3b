/-- nothing of the items has changed but of those of routine r -/
def XO (r : Int) (σ τ : MS) : Prop := (∀ y, (y < 220 * r ∨ 220 * r + 220 ≤ y) → τ.2.1 3 y = σ.2.1 3 y ∧ τ.2.1 4 y = σ.2.1 4 y ∧ τ.2.1 5 y = σ.2.1 5 y ∧ τ.2.1 6 y = σ.2.1 6 y) ∧ (∀ z, (z < 880 * r ∨ 880 * r + 880 ≤ z) → τ.2.1 7 z = σ.2.1 7 z ∧ τ.2.1 8 z = σ.2.1 8 z)
theorem XO.rfl {r : Int} {σ : MS} : XO r σ σ := ⟨fun _ _ => ⟨Eq.refl _, Eq.refl _, Eq.refl _, Eq.refl _⟩, fun _ _ => ⟨Eq.refl _, Eq.refl _⟩⟩
theorem XO.trans {r : Int} {σ τ υ : MS} (h : XO r σ τ) (g : XO r τ υ) : XO r σ υ := ⟨fun y hy => ⟨((g.1 y hy).1).trans (h.1 y hy).1, ((g.1 y hy).2.1).trans (h.1 y hy).2.1, ((g.1 y hy).2.2.1).trans (h.1 y hy).2.2.1, ((g.1 y hy).2.2.2).trans (h.1 y hy).2.2.2⟩, fun z hz => ⟨((g.2 z hz).1).trans (h.2 z hz).1, ((g.2 z hz).2).trans (h.2 z hz).2⟩⟩
theorem XO.fr {r : Int} {ss ks js : List Nat} {σ τ : MS} (f : Fr ss ks js σ τ) (h : ∀ k ∈ [3, 4, 5, 6, 7, 8], k ∉ ks) : XO r σ τ := ⟨fun y _ => by rw [f.q h (k := 3) (by decide), f.q h (k := 4) (by decide), f.q h (k := 5) (by decide), f.q h (k := 6) (by decide)]; exact ⟨Eq.refl _, Eq.refl _, Eq.refl _, Eq.refl _⟩, fun z _ => by rw [f.q h (k := 7) (by decide), f.q h (k := 8) (by decide)]; exact ⟨Eq.refl _, Eq.refl _⟩⟩
theorem OFF.xo {r k : Int} {σ τ : MS} (h : OFF (220 * r + k) σ τ) (h0 : 0 ≤ k) (h1 : k < 220) : XO r σ τ := ⟨fun y hy => h.1 y (by omega), fun z hz => h.2.1 z (by omega)⟩
theorem fGone_fr {x w : Int} {σ : MS} : Fr [] [6, 7, 8] [] σ (fGone x w σ) := ((Fr.rfl.A (by decide)).trans (fArg_fr.sub (by decide) (by decide) (by decide))).trans (fArg_fr.sub (by decide) (by decide) (by decide))
theorem RG.arg {σ : MS} (h : RG σ) {x i k v : Int} (h1 : -2147483648 ≤ k ∧ k ≤ 2147483647) (h2 : -2147483648 ≤ v ∧ v ≤ 2147483647) : RG (fArg x i k v σ) := (h.A h1).A h2

theorem dX12_unbind_313 : decode cX12_unbind 313 = .ok (.iload 6, 2) := by decide +kernel
theorem dX12_unbind_315 : decode cX12_unbind 315 = .ok (.aload_n 0, 1) := by decide +kernel
theorem dX12_unbind_316 : decode cX12_unbind 316 = .ok (.iload 4, 2) := by decide +kernel
theorem dX12_unbind_318 : decode cX12_unbind 318 = .ok (.invokevirtual 199, 3) := by decide +kernel
theorem dX12_unbind_321 : decode cX12_unbind 321 = .ok (.if_icmp .ge 80, 3) := by decide +kernel
theorem dX12_unbind_324 : decode cX12_unbind 324 = .ok (.iload 5, 2) := by decide +kernel
theorem dX12_unbind_326 : decode cX12_unbind 326 = .ok (.ifCond .eq 66, 3) := by decide +kernel
theorem dX12_unbind_392 : decode cX12_unbind 392 = .ok (.iconst 0, 1) := by decide +kernel
theorem dX12_unbind_393 : decode cX12_unbind 393 = .ok (.istore 5, 2) := by decide +kernel
theorem dX12_unbind_395 : decode cX12_unbind 395 = .ok (.iinc 6 1, 3) := by decide +kernel
theorem dX12_unbind_398 : decode cX12_unbind 398 = .ok (.goto (-85), 3) := by decide +kernel
theorem dX12_unbind_329 : decode cX12_unbind 329 = .ok (.aload_n 0, 1) := by decide +kernel
theorem dX12_unbind_330 : decode cX12_unbind 330 = .ok (.getfield 26, 3) := by decide +kernel
theorem dX12_unbind_333 : decode cX12_unbind 333 = .ok (.iconst 4, 1) := by decide +kernel
theorem dX12_unbind_334 : decode cX12_unbind 334 = .ok (.iload 4, 2) := by decide +kernel
theorem dX12_unbind_336 : decode cX12_unbind 336 = .ok (.imul, 1) := by decide +kernel
theorem dX12_unbind_337 : decode cX12_unbind 337 = .ok (.iload 6, 2) := by decide +kernel
theorem dX12_unbind_339 : decode cX12_unbind 339 = .ok (.iadd, 1) := by decide +kernel
theorem dX12_unbind_340 : decode cX12_unbind 340 = .ok (.iaload, 1) := by decide +kernel
theorem dX12_unbind_341 : decode cX12_unbind 341 = .ok (.iconst 2, 1) := by decide +kernel
theorem dX12_unbind_342 : decode cX12_unbind 342 = .ok (.if_icmp .ne 46, 3) := by decide +kernel
theorem dX12_unbind_388 : decode cX12_unbind 388 = .ok (.iconst 1, 1) := by decide +kernel
theorem dX12_unbind_389 : decode cX12_unbind 389 = .ok (.goto 4, 3) := by decide +kernel
theorem dX12_unbind_345 : decode cX12_unbind 345 = .ok (.aload_n 0, 1) := by decide +kernel
theorem dX12_unbind_346 : decode cX12_unbind 346 = .ok (.getfield 146, 3) := by decide +kernel
theorem dX12_unbind_349 : decode cX12_unbind 349 = .ok (.sipush 192, 3) := by decide +kernel
theorem dX12_unbind_352 : decode cX12_unbind 352 = .ok (.iload_n 3, 1) := by decide +kernel
theorem dX12_unbind_353 : decode cX12_unbind 353 = .ok (.imul, 1) := by decide +kernel
theorem dX12_unbind_354 : decode cX12_unbind 354 = .ok (.aload_n 0, 1) := by decide +kernel
theorem dX12_unbind_355 : decode cX12_unbind 355 = .ok (.getfield 143, 3) := by decide +kernel
theorem dX12_unbind_358 : decode cX12_unbind 358 = .ok (.aload_n 0, 1) := by decide +kernel
theorem dX12_unbind_359 : decode cX12_unbind 359 = .ok (.getfield 29, 3) := by decide +kernel
theorem dX12_unbind_362 : decode cX12_unbind 362 = .ok (.iconst 4, 1) := by decide +kernel
theorem dX12_unbind_363 : decode cX12_unbind 363 = .ok (.iload 4, 2) := by decide +kernel
theorem dX12_unbind_365 : decode cX12_unbind 365 = .ok (.imul, 1) := by decide +kernel
theorem dX12_unbind_366 : decode cX12_unbind 366 = .ok (.iload 6, 2) := by decide +kernel
theorem dX12_unbind_368 : decode cX12_unbind 368 = .ok (.iadd, 1) := by decide +kernel
theorem dX12_unbind_369 : decode cX12_unbind 369 = .ok (.iaload, 1) := by decide +kernel
theorem dX12_unbind_370 : decode cX12_unbind 370 = .ok (.iaload, 1) := by decide +kernel
theorem dX12_unbind_371 : decode cX12_unbind 371 = .ok (.iadd, 1) := by decide +kernel
theorem dX12_unbind_372 : decode cX12_unbind 372 = .ok (.iaload, 1) := by decide +kernel
theorem dX12_unbind_373 : decode cX12_unbind 373 = .ok (.aload_n 0, 1) := by decide +kernel
theorem dX12_unbind_374 : decode cX12_unbind 374 = .ok (.getfield 29, 3) := by decide +kernel
theorem dX12_unbind_377 : decode cX12_unbind 377 = .ok (.iconst 4, 1) := by decide +kernel
theorem dX12_unbind_378 : decode cX12_unbind 378 = .ok (.iload 4, 2) := by decide +kernel
theorem dX12_unbind_380 : decode cX12_unbind 380 = .ok (.imul, 1) := by decide +kernel
theorem dX12_unbind_381 : decode cX12_unbind 381 = .ok (.iload 6, 2) := by decide +kernel
theorem dX12_unbind_383 : decode cX12_unbind 383 = .ok (.iadd, 1) := by decide +kernel
theorem dX12_unbind_384 : decode cX12_unbind 384 = .ok (.iaload, 1) := by decide +kernel
theorem dX12_unbind_385 : decode cX12_unbind 385 = .ok (.if_icmp .ne 7, 3) := by decide +kernel
set_option maxHeartbeats 4000000 in
set_option maxRecDepth 20000 in
theorem l_unb9 (d : Nat) {b : Nat} {σ : MS} {r : Int} {F : Int} {k : Int} {post : Option Value → MS → Prop} (hr : 0 ≤ r ∧ r < 6) (hR : RG σ) (hit : ITM σ) (hpar : PAR σ) (hok : OKS σ F r) (hnu : NUM σ) (hk : 0 ≤ k ∧ k < σ.2.1 9 r) (hx_401 : ∀ (w : Int) (i : Int) , (w = 0 ∨ w = 1) → Tm (d + 4) m_X12_unbind 401 b σ [(6, .int (iI i)), (5, .int (iI w)), (4, .int (iI (220 * r + k))), (3, .int (iI k)), (0, .ref b), (1, .int (iI r))] [] post) : ∀ (n : Nat) (w : Int) (i : Int) , ((w = 0 ∨ w = 1) ∧ 0 ≤ i ∧ i ≤ 4) → (4 - i).toNat = n → Tm (d + 4) m_X12_unbind 313 b σ [(6, .int (iI i)), (5, .int (iI w)), (4, .int (iI (220 * r + k))), (3, .int (iI k)), (0, .ref b), (1, .int (iI r))] [] post := by
  intro n
  induction n using Nat.strongRecOn with
  | _ n ih =>
    intro w i h0 hm
    have q1 := hit r (by omega) (by omega)
    refine tm_iload dX12_unbind_313 0 rfl ?_
    refine tm_aload_n dX12_unbind_315 rfl 4 rfl ?_
    refine tm_iload dX12_unbind_316 2 rfl ?_
    refine tm_callV (M := m_X12_unbind) (pc := 318) (ix := 199) (M' := m_X12_args) (As := [.int (iI (220 * r + k))]) (rest := [.int (iI i)]) dX12_unbind_318 ok_X12_args im_X12_args se_X12_args ml12_199 np_X12_args rfl rfl (Nat.le_of_ble_eq_true rfl) (Nat.le_of_ble_eq_true rfl) rfl (c_X12_args (d) (σ := σ) (x := 220 * r + k) (by omega) hR (hok.of (by omega) (by omega)) hpar) (fun r1 σ2 hp => ?_)
    obtain ⟨v3, rfl, rfl, f4, f5⟩ := hp
    show Tm _ _ 321 b σ [(6, .int (iI i)), (5, .int (iI w)), (4, .int (iI (220 * r + k))), (3, .int (iI k)), (0, .ref b), (1, .int (iI r))] [.int (iI v3), .int (iI i)] _
    refine tm_icmp_ge (tgt := 401) dX12_unbind_321 (by decide) ⟨by omega, by omega⟩ ⟨by omega, by omega⟩ (fun h6 => ?_) (fun h6 => ?_)
    · exact tm_sub [0, 1, 2, 3, 4, 5] rfl (hx_401 (w) (i) (by omega))
    · have q2 := hok.arg (k := k) (by omega) (by omega) (i := i) (by omega) (by omega)
      refine tm_iload dX12_unbind_324 1 rfl ?_
      refine tm_if_eq (tgt := 392) dX12_unbind_326 (by decide) ⟨by omega, by omega⟩ (fun h7 => ?_) (fun h7 => ?_)
      · refine tm_iconst dX12_unbind_392 ?_
        refine tm_istore (L' := [(5, .int (iI 0)), (6, .int (iI i)), (4, .int (iI (220 * r + k))), (3, .int (iI k)), (0, .ref b), (1, .int (iI r))]) dX12_unbind_393 (by decide) rfl ?_
        refine tm_iinc (q0 := 1) (L' := [(6, .int (iI (i + 1))), (5, .int (iI 0)), (4, .int (iI (220 * r + k))), (3, .int (iI k)), (0, .ref b), (1, .int (iI r))]) dX12_unbind_395 rfl (by decide) rfl ?_
        refine tm_goto (tgt := 313) dX12_unbind_398 (by decide) ?_
        exact tm_sub [0, 1, 2, 3, 4, 5] rfl (ih _ (by omega) (0) (i + 1) (by omega) rfl)
      · refine tm_aload_n dX12_unbind_329 rfl 4 rfl ?_
        refine tm_get (k := 7) (v := .ref (b + 1 + 5)) lay_12 dX12_unbind_330 (by decide) fl12_26 rfl ?_
        refine tm_iconst dX12_unbind_333 ?_
        refine tm_iload dX12_unbind_334 2 rfl ?_
        refine tm_imul dX12_unbind_336 ?_
        refine tm_iload dX12_unbind_337 0 rfl ?_
        refine tm_iadd dX12_unbind_339 ?_
        refine tm_iald (z := (4 * (220 * r + k)) + i) (v := σ.2.1 7 ((4 * (220 * r + k)) + i)) dX12_unbind_340 (show mT[5]? = some (7, 0, 11440) from rfl) (by omega) (by omega) (by decide) (rfl) ?_
        have g8 := RG.a hR 7 ((4 * (220 * r + k)) + i)
        refine tm_iconst dX12_unbind_341 ?_
        refine tm_icmp_ne (tgt := 388) dX12_unbind_342 (by decide) ⟨by omega, by omega⟩ ⟨by decide, by decide⟩ (fun h9 => ?_) (fun h9 => ?_)
        · refine tm_iconst dX12_unbind_388 ?_
          refine tm_goto (tgt := 393) dX12_unbind_389 (by decide) ?_
          refine tm_istore (L' := [(5, .int (iI 1)), (6, .int (iI i)), (4, .int (iI (220 * r + k))), (3, .int (iI k)), (0, .ref b), (1, .int (iI r))]) dX12_unbind_393 (by decide) rfl ?_
          refine tm_iinc (q0 := 1) (L' := [(6, .int (iI (i + 1))), (5, .int (iI 1)), (4, .int (iI (220 * r + k))), (3, .int (iI k)), (0, .ref b), (1, .int (iI r))]) dX12_unbind_395 rfl (by decide) rfl ?_
          refine tm_goto (tgt := 313) dX12_unbind_398 (by decide) ?_
          exact tm_sub [0, 1, 2, 3, 4, 5] rfl (ih _ (by omega) (1) (i + 1) (by omega) rfl)
        · refine tm_aload_n dX12_unbind_345 rfl 4 rfl ?_
          refine tm_get (k := 65) (v := .ref (b + 1 + 42)) lay_12 dX12_unbind_346 (by decide) fl12_146 rfl ?_
          refine tm_sipush dX12_unbind_349 (by decide) ?_
          refine tm_iload_n dX12_unbind_352 rfl 3 rfl ?_
          refine tm_imul dX12_unbind_353 ?_
          refine tm_aload_n dX12_unbind_354 rfl 4 rfl ?_
          refine tm_get (k := 64) (v := .ref (b + 1 + 41)) lay_12 dX12_unbind_355 (by decide) fl12_143 rfl ?_
          refine tm_aload_n dX12_unbind_358 rfl 4 rfl ?_
          refine tm_get (k := 8) (v := .ref (b + 1 + 6)) lay_12 dX12_unbind_359 (by decide) fl12_29 rfl ?_
          refine tm_iconst dX12_unbind_362 ?_
          refine tm_iload dX12_unbind_363 2 rfl ?_
          refine tm_imul dX12_unbind_365 ?_
          refine tm_iload dX12_unbind_366 0 rfl ?_
          refine tm_iadd dX12_unbind_368 ?_
          refine tm_iald (z := (4 * (220 * r + k)) + i) (v := σ.2.1 8 ((4 * (220 * r + k)) + i)) dX12_unbind_369 (show mT[6]? = some (8, 0, 11440) from rfl) (by omega) (by omega) (by decide) (rfl) ?_
          have g10 := RG.a hR 8 ((4 * (220 * r + k)) + i)
          refine tm_iald (z := σ.2.1 8 ((4 * (220 * r + k)) + i)) (v := σ.2.1 64 (σ.2.1 8 ((4 * (220 * r + k)) + i))) dX12_unbind_370 (show mT[41]? = some (64, 0, 192) from rfl) (by omega) (by omega) (by decide) (rfl) ?_
          have g11 := RG.a hR 64 (σ.2.1 8 ((4 * (220 * r + k)) + i))
          have := hnu (σ.2.1 8 ((4 * (220 * r + k)) + i)) (by omega) (by omega)
          refine tm_iadd dX12_unbind_371 ?_
          refine tm_iald (z := (192 * k) + (σ.2.1 64 (σ.2.1 8 ((4 * (220 * r + k)) + i)))) (v := σ.2.1 65 ((192 * k) + (σ.2.1 64 (σ.2.1 8 ((4 * (220 * r + k)) + i))))) dX12_unbind_372 (show mT[42]? = some (65, 0, 42432) from rfl) (by omega) (by omega) (by decide) (rfl) ?_
          have g12 := RG.a hR 65 ((192 * k) + (σ.2.1 64 (σ.2.1 8 ((4 * (220 * r + k)) + i))))
          refine tm_aload_n dX12_unbind_373 rfl 4 rfl ?_
          refine tm_get (k := 8) (v := .ref (b + 1 + 6)) lay_12 dX12_unbind_374 (by decide) fl12_29 rfl ?_
          refine tm_iconst dX12_unbind_377 ?_
          refine tm_iload dX12_unbind_378 2 rfl ?_
          refine tm_imul dX12_unbind_380 ?_
          refine tm_iload dX12_unbind_381 0 rfl ?_
          refine tm_iadd dX12_unbind_383 ?_
          refine tm_iald (z := (4 * (220 * r + k)) + i) (v := σ.2.1 8 ((4 * (220 * r + k)) + i)) dX12_unbind_384 (show mT[6]? = some (8, 0, 11440) from rfl) (by omega) (by omega) (by decide) (rfl) ?_
          have g13 := RG.a hR 8 ((4 * (220 * r + k)) + i)
          refine tm_icmp_ne (tgt := 392) dX12_unbind_385 (by decide) ⟨by omega, by omega⟩ ⟨by omega, by omega⟩ (fun h14 => ?_) (fun h14 => ?_)
          · refine tm_iconst dX12_unbind_392 ?_
            refine tm_istore (L' := [(5, .int (iI 0)), (6, .int (iI i)), (4, .int (iI (220 * r + k))), (3, .int (iI k)), (0, .ref b), (1, .int (iI r))]) dX12_unbind_393 (by decide) rfl ?_
            refine tm_iinc (q0 := 1) (L' := [(6, .int (iI (i + 1))), (5, .int (iI 0)), (4, .int (iI (220 * r + k))), (3, .int (iI k)), (0, .ref b), (1, .int (iI r))]) dX12_unbind_395 rfl (by decide) rfl ?_
            refine tm_goto (tgt := 313) dX12_unbind_398 (by decide) ?_
            exact tm_sub [0, 1, 2, 3, 4, 5] rfl (ih _ (by omega) (0) (i + 1) (by omega) rfl)
          · refine tm_iconst dX12_unbind_388 ?_
            refine tm_goto (tgt := 393) dX12_unbind_389 (by decide) ?_
            refine tm_istore (L' := [(5, .int (iI 1)), (6, .int (iI i)), (4, .int (iI (220 * r + k))), (3, .int (iI k)), (0, .ref b), (1, .int (iI r))]) dX12_unbind_393 (by decide) rfl ?_
            refine tm_iinc (q0 := 1) (L' := [(6, .int (iI (i + 1))), (5, .int (iI 1)), (4, .int (iI (220 * r + k))), (3, .int (iI k)), (0, .ref b), (1, .int (iI r))]) dX12_unbind_395 rfl (by decide) rfl ?_
            refine tm_goto (tgt := 313) dX12_unbind_398 (by decide) ?_
            exact tm_sub [0, 1, 2, 3, 4, 5] rfl (ih _ (by omega) (1) (i + 1) (by omega) rfl)
theorem ml12_298 : Cond.methodLink RX12 298 yX12_setArg ∈ pWW := pw9 (List.mem_of_getElem? (i := 1) rfl) rfl
theorem dX12_unbind_265 : decode cX12_unbind 265 = .ok (.iload_n 3, 1) := by decide +kernel
theorem dX12_unbind_266 : decode cX12_unbind 266 = .ok (.aload_n 0, 1) := by decide +kernel
theorem dX12_unbind_267 : decode cX12_unbind 267 = .ok (.getfield 32, 3) := by decide +kernel
theorem dX12_unbind_270 : decode cX12_unbind 270 = .ok (.iload_n 1, 1) := by decide +kernel
theorem dX12_unbind_271 : decode cX12_unbind 271 = .ok (.iaload, 1) := by decide +kernel
theorem dX12_unbind_272 : decode cX12_unbind 272 = .ok (.if_icmp .ge 167, 3) := by decide +kernel
theorem dX12_unbind_275 : decode cX12_unbind 275 = .ok (.aload_n 0, 1) := by decide +kernel
theorem dX12_unbind_276 : decode cX12_unbind 276 = .ok (.iload_n 1, 1) := by decide +kernel
theorem dX12_unbind_277 : decode cX12_unbind 277 = .ok (.iload_n 3, 1) := by decide +kernel
theorem dX12_unbind_278 : decode cX12_unbind 278 = .ok (.invokevirtual 203, 3) := by decide +kernel
theorem dX12_unbind_281 : decode cX12_unbind 281 = .ok (.istore 4, 2) := by decide +kernel
theorem dX12_unbind_283 : decode cX12_unbind 283 = .ok (.aload_n 0, 1) := by decide +kernel
theorem dX12_unbind_284 : decode cX12_unbind 284 = .ok (.getfield 13, 3) := by decide +kernel
theorem dX12_unbind_287 : decode cX12_unbind 287 = .ok (.iload 4, 2) := by decide +kernel
theorem dX12_unbind_289 : decode cX12_unbind 289 = .ok (.iaload, 1) := by decide +kernel
theorem dX12_unbind_290 : decode cX12_unbind 290 = .ok (.bipush 12, 2) := by decide +kernel
theorem dX12_unbind_292 : decode cX12_unbind 292 = .ok (.if_icmp .ne 141, 3) := by decide +kernel
theorem dX12_unbind_433 : decode cX12_unbind 433 = .ok (.iinc 3 1, 3) := by decide +kernel
theorem dX12_unbind_436 : decode cX12_unbind 436 = .ok (.goto (-171), 3) := by decide +kernel
theorem dX12_unbind_295 : decode cX12_unbind 295 = .ok (.aload_n 0, 1) := by decide +kernel
theorem dX12_unbind_296 : decode cX12_unbind 296 = .ok (.getfield 91, 3) := by decide +kernel
theorem dX12_unbind_299 : decode cX12_unbind 299 = .ok (.iload_n 3, 1) := by decide +kernel
theorem dX12_unbind_300 : decode cX12_unbind 300 = .ok (.baload, 1) := by decide +kernel
theorem dX12_unbind_301 : decode cX12_unbind 301 = .ok (.ifCond .ne 6, 3) := by decide +kernel
theorem dX12_unbind_307 : decode cX12_unbind 307 = .ok (.iconst 1, 1) := by decide +kernel
theorem dX12_unbind_308 : decode cX12_unbind 308 = .ok (.istore 5, 2) := by decide +kernel
theorem dX12_unbind_310 : decode cX12_unbind 310 = .ok (.iconst 0, 1) := by decide +kernel
theorem dX12_unbind_311 : decode cX12_unbind 311 = .ok (.istore 6, 2) := by decide +kernel
theorem dX12_unbind_401 : decode cX12_unbind 401 = .ok (.iload 5, 2) := by decide +kernel
theorem dX12_unbind_403 : decode cX12_unbind 403 = .ok (.ifCond .ne 30, 3) := by decide +kernel
theorem dX12_unbind_406 : decode cX12_unbind 406 = .ok (.aload_n 0, 1) := by decide +kernel
theorem dX12_unbind_407 : decode cX12_unbind 407 = .ok (.getfield 23, 3) := by decide +kernel
theorem dX12_unbind_410 : decode cX12_unbind 410 = .ok (.iload 4, 2) := by decide +kernel
theorem dX12_unbind_412 : decode cX12_unbind 412 = .ok (.bipush 13, 2) := by decide +kernel
theorem dX12_unbind_414 : decode cX12_unbind 414 = .ok (.iastore, 1) := by decide +kernel
theorem dX12_unbind_415 : decode cX12_unbind 415 = .ok (.aload_n 0, 1) := by decide +kernel
theorem dX12_unbind_416 : decode cX12_unbind 416 = .ok (.iload 4, 2) := by decide +kernel
theorem dX12_unbind_418 : decode cX12_unbind 418 = .ok (.iconst 0, 1) := by decide +kernel
theorem dX12_unbind_419 : decode cX12_unbind 419 = .ok (.iconst 0, 1) := by decide +kernel
theorem dX12_unbind_420 : decode cX12_unbind 420 = .ok (.iconst 0, 1) := by decide +kernel
theorem dX12_unbind_421 : decode cX12_unbind 421 = .ok (.invokevirtual 298, 3) := by decide +kernel
theorem dX12_unbind_424 : decode cX12_unbind 424 = .ok (.aload_n 0, 1) := by decide +kernel
theorem dX12_unbind_425 : decode cX12_unbind 425 = .ok (.iload 4, 2) := by decide +kernel
theorem dX12_unbind_427 : decode cX12_unbind 427 = .ok (.iconst 1, 1) := by decide +kernel
theorem dX12_unbind_428 : decode cX12_unbind 428 = .ok (.iconst 0, 1) := by decide +kernel
theorem dX12_unbind_429 : decode cX12_unbind 429 = .ok (.iconst 0, 1) := by decide +kernel
theorem dX12_unbind_430 : decode cX12_unbind 430 = .ok (.invokevirtual 298, 3) := by decide +kernel
theorem dX12_unbind_304 : decode cX12_unbind 304 = .ok (.goto 129, 3) := by decide +kernel
set_option maxHeartbeats 4000000 in
set_option maxRecDepth 20000 in
theorem l_unb8 (d : Nat) {b : Nat} {σ0 : MS} {r : Int} {F : Int} {post : Option Value → MS → Prop} (hr : 0 ≤ r ∧ r < 6) (hR0 : RG σ0) (hit : ITM σ0) (hpar : PAR σ0) (hnu : NUM σ0) (hbo : BO 47 σ0) (hx_439 : ∀ (k : Int) (σ : MS) , (Fr [] [6, 7, 8] [] σ0 σ) → (RG σ) → (OKS σ F r) → (XO r σ0 σ) → Tm (d + 4) m_X12_unbind 439 b σ [(3, .int (iI k)), (0, .ref b), (1, .int (iI r))] [] post) : ∀ (n : Nat) (k : Int) (σ : MS) , (Fr [] [6, 7, 8] [] σ0 σ) → (RG σ) → (0 ≤ k ∧ k ≤ σ0.2.1 9 r) → (OKS σ F r) → (XO r σ0 σ) → (220 - k).toNat = n → Tm (d + 4) m_X12_unbind 265 b σ [(3, .int (iI k)), (0, .ref b), (1, .int (iI r))] [] post := by
  intro n
  induction n using Nat.strongRecOn with
  | _ n ih =>
    intro k σ hF hR h0 hok hxo hm
    have hit1 := hit.fr hF (by decide)
    have q1 := hit r (by omega) (by omega)
    have q9 : σ.2.1 9 r = σ0.2.1 9 r := by rw [hF.2.1 9 (by decide)]
    have q3 : σ.2.1 3 = σ0.2.1 3 := hF.2.1 3 (by decide)
    refine tm_iload_n dX12_unbind_265 rfl 0 rfl ?_
    refine tm_aload_n dX12_unbind_266 rfl 1 rfl ?_
    refine tm_get (k := 9) (v := .ref (b + 1 + 7)) lay_12 dX12_unbind_267 (by decide) fl12_32 rfl ?_
    refine tm_iload_n dX12_unbind_270 rfl 2 rfl ?_
    refine tm_iald (z := r) (v := σ0.2.1 9 r) dX12_unbind_271 (show mT[7]? = some (9, 0, 13) from rfl) (by omega) (by omega) (by decide) (ra_F hF (by decide) (rfl)) ?_
    have g1 := RG.a hR0 9 (r)
    refine tm_icmp_ge (tgt := 439) dX12_unbind_272 (by decide) ⟨by omega, by omega⟩ ⟨by omega, by omega⟩ (fun h2 => ?_) (fun h2 => ?_)
    · exact tm_sub [0, 1, 2] rfl (hx_439 (k) σ (Fr.rfl.trans (Fr.sub hF (by decide) (by decide) (by decide))) hR hok hxo)
    · refine tm_aload_n dX12_unbind_275 rfl 1 rfl ?_
      refine tm_iload_n dX12_unbind_276 rfl 2 rfl ?_
      refine tm_iload_n dX12_unbind_277 rfl 0 rfl ?_
      refine tm_callV (M := m_X12_unbind) (pc := 278) (ix := 203) (M' := m_X12_at) (As := [.int (iI r), .int (iI k)]) (rest := []) dX12_unbind_278 ok_X12_at im_X12_at se_X12_at ml12_203 np_X12_at rfl rfl (Nat.le_of_ble_eq_true rfl) (Nat.le_of_ble_eq_true rfl) rfl (c_X12_at (d + 2) (σ := σ) (x := r) (k := k) ) (fun r3 σ4 hp => ?_)
      obtain ⟨v5, rfl, rfl, f6⟩ := hp
      subst f6
      show Tm _ _ 281 b σ [(3, .int (iI k)), (0, .ref b), (1, .int (iI r))] [.int (iI (220 * r + k))] _
      refine tm_istore (L' := [(4, .int (iI (220 * r + k))), (3, .int (iI k)), (0, .ref b), (1, .int (iI r))]) dX12_unbind_281 (by decide) rfl ?_
      refine tm_aload_n dX12_unbind_283 rfl 2 rfl ?_
      refine tm_get (k := 3) (v := .ref (b + 1 + 1)) lay_12 dX12_unbind_284 (by decide) fl12_13 rfl ?_
      refine tm_iload dX12_unbind_287 0 rfl ?_
      refine tm_iald (z := 220 * r + k) (v := σ0.2.1 3 (220 * r + k)) dX12_unbind_289 (show mT[1]? = some (3, 0, 2860) from rfl) (by omega) (by omega) (by decide) (ra_F hF (by decide) (rfl)) ?_
      have g7 := RG.a hR0 3 (220 * r + k)
      refine tm_bipush dX12_unbind_290 (by decide) ?_
      refine tm_icmp_ne (tgt := 433) dX12_unbind_292 (by decide) ⟨by omega, by omega⟩ ⟨by decide, by decide⟩ (fun h8 => ?_) (fun h8 => ?_)
      · refine tm_iinc (q0 := 1) (L' := [(3, .int (iI (k + 1))), (4, .int (iI (220 * r + k))), (0, .ref b), (1, .int (iI r))]) dX12_unbind_433 rfl (by decide) rfl ?_
        refine tm_goto (tgt := 265) dX12_unbind_436 (by decide) ?_
        exact tm_sub [0, 2, 3] rfl (ih _ (by omega) (k + 1) σ (Fr.rfl.trans (Fr.sub hF (by decide) (by decide) (by decide))) hR (by omega) hok hxo rfl)
      · refine tm_aload_n dX12_unbind_295 rfl 2 rfl ?_
        refine tm_get (k := 47) (v := .ref (b + 1 + 25)) lay_12 dX12_unbind_296 (by decide) fl12_91 rfl ?_
        refine tm_iload_n dX12_unbind_299 rfl 1 rfl ?_
        refine tm_zald (z := k) (v := σ0.2.1 47 k) dX12_unbind_300 (show mT[25]? = some (47, 2, 221) from rfl) (by omega) (by omega) (by decide) (ra_F hF (by decide) (rfl)) ?_
        have g9 := RG.a hR0 47 (k)
        have := hbo (k)
        refine tm_if_ne (tgt := 307) dX12_unbind_301 (by decide) ⟨by omega, by omega⟩ (fun h10 => ?_) (fun h10 => ?_)
        · refine tm_iconst dX12_unbind_307 ?_
          refine tm_istore (L' := [(5, .int (iI 1)), (4, .int (iI (220 * r + k))), (3, .int (iI k)), (0, .ref b), (1, .int (iI r))]) dX12_unbind_308 (by decide) rfl ?_
          refine tm_iconst dX12_unbind_310 ?_
          refine tm_istore (L' := [(6, .int (iI 0)), (5, .int (iI 1)), (4, .int (iI (220 * r + k))), (3, .int (iI k)), (0, .ref b), (1, .int (iI r))]) dX12_unbind_311 (by decide) rfl ?_
          refine tm_sub [0, 1, 2, 3, 4, 5] rfl (l_unb9 (d) (σ := σ) (r := r) (k := k) (F := F) hr hR hit1 (hpar.fr hF (by decide)) hok (hnu.fr hF (by decide)) (by omega) (fun w16 i17 f15 => ?_) _ (1) (0) (by omega) rfl)
          show Tm _ _ 401 b σ [(6, .int (iI i17)), (5, .int (iI w16)), (4, .int (iI (220 * r + k))), (3, .int (iI k)), (0, .ref b), (1, .int (iI r))] [] _
          refine tm_iload dX12_unbind_401 1 rfl ?_
          refine tm_if_ne (tgt := 433) dX12_unbind_403 (by decide) ⟨by omega, by omega⟩ (fun h18 => ?_) (fun h18 => ?_)
          · refine tm_iinc (q0 := 3) (L' := [(3, .int (iI (k + 1))), (6, .int (iI i17)), (5, .int (iI w16)), (4, .int (iI (220 * r + k))), (0, .ref b), (1, .int (iI r))]) dX12_unbind_433 rfl (by decide) rfl ?_
            refine tm_goto (tgt := 265) dX12_unbind_436 (by decide) ?_
            exact tm_sub [0, 4, 5] rfl (ih _ (by omega) (k + 1) σ (Fr.rfl.trans (Fr.sub hF (by decide) (by decide) (by decide))) hR (by omega) hok hxo rfl)
          · refine tm_aload_n dX12_unbind_406 rfl 4 rfl ?_
            refine tm_get (k := 6) (v := .ref (b + 1 + 4)) lay_12 dX12_unbind_407 (by decide) fl12_23 rfl ?_
            refine tm_iload dX12_unbind_410 2 rfl ?_
            refine tm_bipush dX12_unbind_412 (by decide) ?_
            refine tm_iast (z := 220 * r + k) (v := 13) dX12_unbind_414 (show mT[4]? = some (6, 0, 2860) from rfl) (by omega) (by omega) (by decide) ?_
            refine tm_aload_n dX12_unbind_415 rfl 4 rfl ?_
            refine tm_iload dX12_unbind_416 2 rfl ?_
            refine tm_iconst dX12_unbind_418 ?_
            refine tm_iconst dX12_unbind_419 ?_
            refine tm_iconst dX12_unbind_420 ?_
            refine tm_callV (M := m_X12_unbind) (pc := 421) (ix := 298) (M' := m_X12_setArg) (As := [.int (iI (220 * r + k)), .int (iI 0), .int (iI 0), .int (iI 0)]) (rest := []) dX12_unbind_421 ok_X12_setArg im_X12_setArg se_X12_setArg ml12_298 np_X12_setArg rfl rfl (Nat.le_of_ble_eq_true rfl) (Nat.le_of_ble_eq_true rfl) rfl (c_X12_setArg (d + 2) (σ := (sA 6 (220 * r + k) (13) σ)) (x := 220 * r + k) (i := 0) (k := 0) (w := 0) (by omega)) (fun r19 σ20 hp => ?_)
            obtain ⟨rfl, f22⟩ := hp
            subst f22
            show Tm _ _ 424 b (fArg (220 * r + k) (0) (0) (0) (sA 6 (220 * r + k) (13) σ)) [(6, .int (iI i17)), (5, .int (iI w16)), (4, .int (iI (220 * r + k))), (3, .int (iI k)), (0, .ref b), (1, .int (iI r))] [] _
            refine tm_aload_n dX12_unbind_424 rfl 4 rfl ?_
            refine tm_iload dX12_unbind_425 2 rfl ?_
            refine tm_iconst dX12_unbind_427 ?_
            refine tm_iconst dX12_unbind_428 ?_
            refine tm_iconst dX12_unbind_429 ?_
            refine tm_callV (M := m_X12_unbind) (pc := 430) (ix := 298) (M' := m_X12_setArg) (As := [.int (iI (220 * r + k)), .int (iI 1), .int (iI 0), .int (iI 0)]) (rest := []) dX12_unbind_430 ok_X12_setArg im_X12_setArg se_X12_setArg ml12_298 np_X12_setArg rfl rfl (Nat.le_of_ble_eq_true rfl) (Nat.le_of_ble_eq_true rfl) rfl (c_X12_setArg (d + 2) (σ := (fArg (220 * r + k) (0) (0) (0) (sA 6 (220 * r + k) (13) σ))) (x := 220 * r + k) (i := 1) (k := 0) (w := 0) (by omega)) (fun r23 σ24 hp => ?_)
            obtain ⟨rfl, f26⟩ := hp
            subst f26
            show Tm _ _ 433 b (fArg (220 * r + k) (1) (0) (0) (fArg (220 * r + k) (0) (0) (0) (sA 6 (220 * r + k) (13) σ))) [(6, .int (iI i17)), (5, .int (iI w16)), (4, .int (iI (220 * r + k))), (3, .int (iI k)), (0, .ref b), (1, .int (iI r))] [] _
            refine tm_iinc (q0 := 3) (L' := [(3, .int (iI (k + 1))), (6, .int (iI i17)), (5, .int (iI w16)), (4, .int (iI (220 * r + k))), (0, .ref b), (1, .int (iI r))]) dX12_unbind_433 rfl (by decide) rfl ?_
            refine tm_goto (tgt := 265) dX12_unbind_436 (by decide) ?_
            exact tm_sub [0, 4, 5] rfl (ih _ (by omega) (k + 1) (fArg (220 * r + k) (1) (0) (0) (fArg (220 * r + k) (0) (0) (0) (sA 6 (220 * r + k) (13) σ))) ((((Fr.rfl.trans (Fr.sub hF (by decide) (by decide) (by decide))).A (by decide)).trans (Fr.sub fArg_fr (by decide) (by decide) (by decide))).trans (Fr.sub fArg_fr (by decide) (by decide) (by decide))) (((hR.A (by omega)).arg (by decide) (by decide)).arg (by decide) (by decide)) (by omega) (fGone_off.oks hok (fGone_oki (hok k (by omega) (by omega)) (by rw [q3]; assumption) (by decide))) (hxo.trans (fGone_off.xo (by omega) (by omega))) rfl)
        · refine tm_goto (tgt := 433) dX12_unbind_304 (by decide) ?_
          refine tm_iinc (q0 := 1) (L' := [(3, .int (iI (k + 1))), (4, .int (iI (220 * r + k))), (0, .ref b), (1, .int (iI r))]) dX12_unbind_433 rfl (by decide) rfl ?_
          refine tm_goto (tgt := 265) dX12_unbind_436 (by decide) ?_
          exact tm_sub [0, 2, 3] rfl (ih _ (by omega) (k + 1) σ (Fr.rfl.trans (Fr.sub hF (by decide) (by decide) (by decide))) hR (by omega) hok hxo rfl)
theorem dX12_unbind_0 : decode cX12_unbind 0 = .ok (.aload_n 0, 1) := by decide +kernel
theorem dX12_unbind_1 : decode cX12_unbind 1 = .ok (.iload_n 1, 1) := by decide +kernel
theorem dX12_unbind_2 : decode cX12_unbind 2 = .ok (.invokevirtual 420, 3) := by decide +kernel
theorem dX12_unbind_5 : decode cX12_unbind 5 = .ok (.iconst 0, 1) := by decide +kernel
theorem dX12_unbind_6 : decode cX12_unbind 6 = .ok (.istore_n 2, 1) := by decide +kernel
theorem dX12_unbind_30 : decode cX12_unbind 30 = .ok (.iconst 0, 1) := by decide +kernel
theorem dX12_unbind_31 : decode cX12_unbind 31 = .ok (.istore_n 2, 1) := by decide +kernel
theorem dX12_unbind_52 : decode cX12_unbind 52 = .ok (.iconst 0, 1) := by decide +kernel
theorem dX12_unbind_53 : decode cX12_unbind 53 = .ok (.istore_n 2, 1) := by decide +kernel
theorem dX12_unbind_88 : decode cX12_unbind 88 = .ok (.aload_n 0, 1) := by decide +kernel
theorem dX12_unbind_89 : decode cX12_unbind 89 = .ok (.iconst 0, 1) := by decide +kernel
theorem dX12_unbind_90 : decode cX12_unbind 90 = .ok (.invokevirtual 533, 3) := by decide +kernel
theorem dX12_unbind_93 : decode cX12_unbind 93 = .ok (.istore_n 2, 1) := by decide +kernel
theorem dX12_unbind_263 : decode cX12_unbind 263 = .ok (.iconst 0, 1) := by decide +kernel
theorem dX12_unbind_264 : decode cX12_unbind 264 = .ok (.istore_n 3, 1) := by decide +kernel
theorem dX12_unbind_439 : decode cX12_unbind 439 = .ok (.return_, 1) := by decide +kernel
set_option maxHeartbeats 4000000 in
set_option maxRecDepth 20000 in
theorem c_X12_unbind (d : Nat) {b : Nat} {σ : MS} {r : Int} {F : Int} (hr : 0 ≤ r ∧ r < 6) (hR : RG σ) (hit : ITM σ) (hpar : PAR σ) (hok : OKS σ F r) (hl : LAB σ) (hbo : BO 47 σ) (hbl : BO 59 σ) (hnu : NUM σ) (hlex : LEX σ r) : Tm (d + 4) m_X12_unbind 0 b σ [(0, .ref b), (1, .int (iI r))] [] (fun ro σ2 => ro = none ∧ (Fr [] [6, 7, 8, 46, 47, 65, 66] [] σ σ2) ∧ (RG σ2) ∧ (LAB σ2) ∧ (BO 47 σ2) ∧ (OKS σ2 F r) ∧ (XO r σ σ2)) := by
  have q1 := hit r (by omega) (by omega)
  refine tm_aload_n dX12_unbind_0 rfl 0 rfl ?_
  refine tm_iload_n dX12_unbind_1 rfl 1 rfl ?_
  refine tm_callV (M := m_X12_unbind) (pc := 2) (ix := 420) (M' := m_X12_findLabels) (As := [.int (iI r)]) (rest := []) dX12_unbind_2 ok_X12_findLabels im_X12_findLabels se_X12_findLabels ml12_420 np_X12_findLabels rfl rfl (Nat.le_of_ble_eq_true rfl) (Nat.le_of_ble_eq_true rfl) rfl (c_X12_findLabels (d + 1) (σ := σ) (r := r) (by omega) hR hit hok.jmp.lbr hl) (fun r1 σ2 hp => ?_)
  obtain ⟨rfl, f4, f5, f6, f7⟩ := hp
  show Tm _ _ 5 b σ2 [(0, .ref b), (1, .int (iI r))] [] _
  have htg1 := LEX.tgt hlex f7 f4
  have hlab1 := f6
  refine tm_iconst dX12_unbind_5 ?_
  refine tm_istore_n (L' := [(2, .int (iI 0)), (0, .ref b), (1, .int (iI r))]) dX12_unbind_6 rfl (by decide) rfl ?_
  refine tm_sub [0, 1, 2] rfl (l_unb1 (d + 3) (σ0 := σ2) (r := r) (by omega) f5 (by rw [((show Fr [] [46] [] σ σ2 from (Fr.rfl.trans (Fr.sub f4 (by decide) (by decide) (by decide))))).2.1 9 (by decide)]; exact q1) (fun k13 σ14 F10 R11 f12 => ?_) _ (0) σ2 Fr.rfl f5 (by omega) (hbo.fr (show Fr [] [46] [] σ σ2 from (Fr.rfl.trans (Fr.sub f4 (by decide) (by decide) (by decide)))) (by decide)) rfl)
  show Tm _ _ 30 b σ14 [(2, .int (iI k13)), (0, .ref b), (1, .int (iI r))] [] _
  have hbo1 := f12
  refine tm_iconst dX12_unbind_30 ?_
  refine tm_istore_n (L' := [(2, .int (iI 0)), (0, .ref b), (1, .int (iI r))]) dX12_unbind_31 rfl (by decide) rfl ?_
  refine tm_sub [0, 1, 2] rfl (l_unb2 (d + 3) (σ0 := σ14) (r := r) (fun g19 σ20 F17 R18 => ?_) _ (0) σ14 Fr.rfl R11 (by omega) rfl)
  show Tm _ _ 52 b σ20 [(2, .int (iI g19)), (0, .ref b), (1, .int (iI r))] [] _
  refine tm_iconst dX12_unbind_52 ?_
  refine tm_istore_n (L' := [(2, .int (iI 0)), (0, .ref b), (1, .int (iI r))]) dX12_unbind_53 rfl (by decide) rfl ?_
  refine tm_sub [0, 1, 2] rfl (l_unb3 (d + 1) (σ0 := σ20) (r := r) (by omega) R18 (hpar.fr (show Fr [] [46, 47, 66] [] σ σ20 from (((Fr.rfl.trans (Fr.sub f4 (by decide) (by decide) (by decide))).trans (Fr.sub F10 (by decide) (by decide) (by decide))).trans (Fr.sub F17 (by decide) (by decide) (by decide)))) (by decide)) (hbl.fr (show Fr [] [46, 47, 66] [] σ σ20 from (((Fr.rfl.trans (Fr.sub f4 (by decide) (by decide) (by decide))).trans (Fr.sub F10 (by decide) (by decide) (by decide))).trans (Fr.sub F17 (by decide) (by decide) (by decide)))) (by decide)) (hnu.fr (show Fr [] [46, 47, 66] [] σ σ20 from (((Fr.rfl.trans (Fr.sub f4 (by decide) (by decide) (by decide))).trans (Fr.sub F10 (by decide) (by decide) (by decide))).trans (Fr.sub F17 (by decide) (by decide) (by decide)))) (by decide)) (fun g25 σ26 F23 R24 => ?_) _ (0) σ20 Fr.rfl R18 (by omega) rfl)
  show Tm _ _ 88 b σ26 [(2, .int (iI g25)), (0, .ref b), (1, .int (iI r))] [] _
  refine tm_aload_n dX12_unbind_88 rfl 1 rfl ?_
  refine tm_iconst dX12_unbind_89 ?_
  refine tm_callV (M := m_X12_unbind) (pc := 90) (ix := 533) (M' := m_X12_comesLast) (As := [.int (iI 0)]) (rest := []) dX12_unbind_90 ok_X12_comesLast im_X12_comesLast se_X12_comesLast ml12_533 np_X12_comesLast rfl rfl (Nat.le_of_ble_eq_true rfl) (Nat.le_of_ble_eq_true rfl) rfl (c_X12_comesLast (d + 2) (σ := σ26) (to := 0) R24 ((hbo1.fr F17 (by decide)).fr F23 (by decide)) (by omega)) (fun r27 σ28 hp => ?_)
  obtain ⟨v29, rfl, f30, f31, f32, f33, f34⟩ := hp
  show Tm _ _ 93 b σ28 [(2, .int (iI g25)), (0, .ref b), (1, .int (iI r))] [.int (iI v29)] _
  have htg2 := (((htg1.fr F10 (by decide)).fr F17 (by decide)).fr F23 (by decide)).fr f31 (by decide)
  have hbo2 := f33
  refine tm_istore_n (L' := [(2, .int (iI v29)), (0, .ref b), (1, .int (iI r))]) dX12_unbind_93 rfl (by decide) rfl ?_
  refine tm_sub [0, 1, 2] rfl (l_unb4 (d + 1) (σ0 := σ28) (r := r) (F := F) (m := σ.2.1 9 r) hr f32 (hit.fr (show Fr [] [46, 47, 65, 66] [] σ σ28 from (((((Fr.rfl.trans (Fr.sub f4 (by decide) (by decide) (by decide))).trans (Fr.sub F10 (by decide) (by decide) (by decide))).trans (Fr.sub F17 (by decide) (by decide) (by decide))).trans (Fr.sub F23 (by decide) (by decide) (by decide))).trans (Fr.sub f31 (by decide) (by decide) (by decide)))) (by decide)) (hok.fr (show Fr [] [46, 47, 65, 66] [] σ σ28 from (((((Fr.rfl.trans (Fr.sub f4 (by decide) (by decide) (by decide))).trans (Fr.sub F10 (by decide) (by decide) (by decide))).trans (Fr.sub F17 (by decide) (by decide) (by decide))).trans (Fr.sub F23 (by decide) (by decide) (by decide))).trans (Fr.sub f31 (by decide) (by decide) (by decide)))) (by decide)) htg2 (hnu.fr (show Fr [] [46, 47, 65, 66] [] σ σ28 from (((((Fr.rfl.trans (Fr.sub f4 (by decide) (by decide) (by decide))).trans (Fr.sub F10 (by decide) (by decide) (by decide))).trans (Fr.sub F17 (by decide) (by decide) (by decide))).trans (Fr.sub F23 (by decide) (by decide) (by decide))).trans (Fr.sub f31 (by decide) (by decide) (by decide)))) (by decide)) (by rw [((show Fr [] [46, 47, 65, 66] [] σ σ28 from (((((Fr.rfl.trans (Fr.sub f4 (by decide) (by decide) (by decide))).trans (Fr.sub F10 (by decide) (by decide) (by decide))).trans (Fr.sub F17 (by decide) (by decide) (by decide))).trans (Fr.sub F23 (by decide) (by decide) (by decide))).trans (Fr.sub f31 (by decide) (by decide) (by decide))))).2.1 9 (by decide)]) (fun w40 σ41 F37 R38 f39 => ?_) _ (v29) σ28 Fr.rfl f32 (by omega) hbo2 rfl)
  show Tm _ _ 263 b σ41 [(2, .int (iI w40)), (0, .ref b), (1, .int (iI r))] [] _
  have hbo3 := f39
  have hok3 := hok.fr (show Fr [] [46, 47, 65, 66] [] σ σ41 from ((((((Fr.rfl.trans (Fr.sub f4 (by decide) (by decide) (by decide))).trans (Fr.sub F10 (by decide) (by decide) (by decide))).trans (Fr.sub F17 (by decide) (by decide) (by decide))).trans (Fr.sub F23 (by decide) (by decide) (by decide))).trans (Fr.sub f31 (by decide) (by decide) (by decide))).trans (Fr.sub F37 (by decide) (by decide) (by decide)))) (by decide)
  refine tm_iconst dX12_unbind_263 ?_
  refine tm_istore_n (L' := [(3, .int (iI 0)), (2, .int (iI w40)), (0, .ref b), (1, .int (iI r))]) dX12_unbind_264 rfl (by decide) rfl ?_
  refine tm_sub [0, 2, 3] rfl (l_unb8 (d) (σ0 := σ41) (r := r) (F := F) hr R38 (hit.fr (show Fr [] [46, 47, 65, 66] [] σ σ41 from ((((((Fr.rfl.trans (Fr.sub f4 (by decide) (by decide) (by decide))).trans (Fr.sub F10 (by decide) (by decide) (by decide))).trans (Fr.sub F17 (by decide) (by decide) (by decide))).trans (Fr.sub F23 (by decide) (by decide) (by decide))).trans (Fr.sub f31 (by decide) (by decide) (by decide))).trans (Fr.sub F37 (by decide) (by decide) (by decide)))) (by decide)) (hpar.fr (show Fr [] [46, 47, 65, 66] [] σ σ41 from ((((((Fr.rfl.trans (Fr.sub f4 (by decide) (by decide) (by decide))).trans (Fr.sub F10 (by decide) (by decide) (by decide))).trans (Fr.sub F17 (by decide) (by decide) (by decide))).trans (Fr.sub F23 (by decide) (by decide) (by decide))).trans (Fr.sub f31 (by decide) (by decide) (by decide))).trans (Fr.sub F37 (by decide) (by decide) (by decide)))) (by decide)) (hnu.fr (show Fr [] [46, 47, 65, 66] [] σ σ41 from ((((((Fr.rfl.trans (Fr.sub f4 (by decide) (by decide) (by decide))).trans (Fr.sub F10 (by decide) (by decide) (by decide))).trans (Fr.sub F17 (by decide) (by decide) (by decide))).trans (Fr.sub F23 (by decide) (by decide) (by decide))).trans (Fr.sub f31 (by decide) (by decide) (by decide))).trans (Fr.sub F37 (by decide) (by decide) (by decide)))) (by decide)) hbo3 (fun k48 σ49 F44 R45 f46 f47 => ?_) _ (0) σ41 Fr.rfl R38 (by rw [((show Fr [] [46, 47, 65, 66] [] σ σ41 from ((((((Fr.rfl.trans (Fr.sub f4 (by decide) (by decide) (by decide))).trans (Fr.sub F10 (by decide) (by decide) (by decide))).trans (Fr.sub F17 (by decide) (by decide) (by decide))).trans (Fr.sub F23 (by decide) (by decide) (by decide))).trans (Fr.sub f31 (by decide) (by decide) (by decide))).trans (Fr.sub F37 (by decide) (by decide) (by decide))))).2.1 9 (by decide)]; omega) hok3 XO.rfl rfl)
  show Tm _ _ 439 b σ49 [(3, .int (iI k48)), (0, .ref b), (1, .int (iI r))] [] _
  exact tm_vret rfl dX12_unbind_439 (⟨rfl, (((((((Fr.rfl.trans (Fr.sub f4 (by decide) (by decide) (by decide))).trans (Fr.sub F10 (by decide) (by decide) (by decide))).trans (Fr.sub F17 (by decide) (by decide) (by decide))).trans (Fr.sub F23 (by decide) (by decide) (by decide))).trans (Fr.sub f31 (by decide) (by decide) (by decide))).trans (Fr.sub F37 (by decide) (by decide) (by decide))).trans (Fr.sub F44 (by decide) (by decide) (by decide))), R45, LAB.fr (LAB.fr (LAB.fr (LAB.fr (LAB.fr (LAB.fr hlab1 F10 (by decide)) F17 (by decide)) F23 (by decide)) f31 (by decide)) F37 (by decide)) F44 (by decide), hbo3.fr F44 (by decide), f46, (XO.fr (show Fr [] [46, 47, 65, 66] [] σ σ41 from ((((((Fr.rfl.trans (Fr.sub f4 (by decide) (by decide) (by decide))).trans (Fr.sub F10 (by decide) (by decide) (by decide))).trans (Fr.sub F17 (by decide) (by decide) (by decide))).trans (Fr.sub F23 (by decide) (by decide) (by decide))).trans (Fr.sub f31 (by decide) (by decide) (by decide))).trans (Fr.sub F37 (by decide) (by decide) (by decide)))) (by decide)).trans f47⟩)
