set_option maxHeartbeats 1000000 in
set_option maxRecDepth 20000 in
theorem l_forget2 (d : Nat) {b : Nat} {σ0 : MS} {post : Option Value → MS → Prop} (hx_22 : ∀ (g : Int) (σ : MS) , (Fr [] [60] [] σ0 σ) → (RG σ) → (KNW σ) → Tm (d + 1) m_X12_forgetAll 22 b σ [(1, .int (iI g)), (0, .ref b)] [] post) : ∀ (n : Nat) (g : Int) (σ : MS) , (Fr [] [60] [] σ0 σ) → (RG σ) → (0 ≤ g ∧ g ≤ 192) → (KNW σ) → (192 - g).toNat = n → Tm (d + 1) m_X12_forgetAll 2 b σ [(1, .int (iI g)), (0, .ref b)] [] post := by
  intro n
  induction n using Nat.strongRecOn with
  | _ n ih =>
    intro g σ hF hR h0 hkn hm
    refine tm_iload_n dX12_forgetAll_2 rfl 0 rfl ?_
    refine tm_sipush dX12_forgetAll_3 (by decide) ?_
    refine tm_icmp_ge (tgt := 22) dX12_forgetAll_6 (by decide) ⟨by omega, by omega⟩ ⟨by decide, by decide⟩ (fun h1 => ?_) (fun h1 => ?_)
    · exact tm_sub [0, 1] rfl (hx_22 (g) σ (Fr.rfl.trans (Fr.sub hF (by decide) (by decide) (by decide))) hR hkn)
    · refine tm_aload_n dX12_forgetAll_9 rfl 1 rfl ?_
      refine tm_get (k := 60) (v := .ref (b + 1 + 38)) lay_12 dX12_forgetAll_10 (by decide) fl12_133 rfl ?_
      refine tm_iload_n dX12_forgetAll_13 rfl 0 rfl ?_
      refine tm_iconst dX12_forgetAll_14 ?_
      refine tm_iast (z := g) (v := 0) dX12_forgetAll_15 (show mT[38]? = some (60, 0, 192) from rfl) (by omega) (by omega) (by decide) ?_
      refine tm_iinc (q0 := 0) (L' := [(1, .int (iI (g + 1))), (0, .ref b)]) dX12_forgetAll_16 rfl (by decide) rfl ?_
      refine tm_goto (tgt := 2) dX12_forgetAll_19 (by decide) ?_
      exact tm_sub [0, 1] rfl (ih _ (by omega) (g + 1) (sA 60 (g) (0) σ) ((Fr.rfl.trans (Fr.sub hF (by decide) (by decide) (by decide))).A (by decide)) (hR.A (by omega)) (by omega) (hkn.z (Or.inl rfl)) rfl)
set_option maxHeartbeats 1000000 in
set_option maxRecDepth 20000 in
theorem c2_X12_forgetAll (d : Nat) {b : Nat} {σ : MS} (hR : RG σ) (hkn : KNW σ) : Tm (d + 1) m_X12_forgetAll 0 b σ [(0, .ref b)] [] (fun ro σ2 => ro = none ∧ (Fr [] [60] [] σ σ2) ∧ (RG σ2) ∧ (KNW σ2)) := by
  refine tm_iconst dX12_forgetAll_0 ?_
  refine tm_istore_n (L' := [(1, .int (iI 0)), (0, .ref b)]) dX12_forgetAll_1 rfl (by decide) rfl ?_
  refine tm_sub [0, 1] rfl (l_forget2 (d) (σ0 := σ)  (fun g6 σ7 F3 R4 f5 => ?_) _ (0) σ Fr.rfl hR (by omega) hkn rfl)
  show Tm _ _ 22 b σ7 [(1, .int (iI g6)), (0, .ref b)] [] _
  exact tm_vret rfl dX12_forgetAll_22 (⟨rfl, (Fr.rfl.trans (Fr.sub F3 (by decide) (by decide) (by decide))), R4, f5⟩)
theorem dX12_fold_335 : decode cX12_fold 335 = .ok (.iload 6, 2) := by decide +kernel
theorem dX12_fold_337 : decode cX12_fold 337 = .ok (.ifCond .ne 18, 3) := by decide +kernel
theorem dX12_fold_340 : decode cX12_fold 340 = .ok (.aload_n 0, 1) := by decide +kernel
theorem dX12_fold_341 : decode cX12_fold 341 = .ok (.iload 5, 2) := by decide +kernel
theorem dX12_fold_343 : decode cX12_fold 343 = .ok (.aload_n 0, 1) := by decide +kernel
theorem dX12_fold_344 : decode cX12_fold 344 = .ok (.iload_n 1, 1) := by decide +kernel
theorem dX12_fold_345 : decode cX12_fold 345 = .ok (.iload_n 3, 1) := by decide +kernel
theorem dX12_fold_346 : decode cX12_fold 346 = .ok (.invokevirtual 203, 3) := by decide +kernel
theorem dX12_fold_349 : decode cX12_fold 349 = .ok (.invokevirtual 394, 3) := by decide +kernel
theorem dX12_fold_352 : decode cX12_fold 352 = .ok (.iinc 3 1, 3) := by decide +kernel
set_option maxHeartbeats 1000000 in
set_option maxRecDepth 20000 in
theorem b_fold335 (d : Nat) {b : Nat} {σ0 : MS} {r : Int} {F : Int} {k : Int} {w : Int} {gs : Int} {ρ : MS} {post : Option Value → MS → Prop} (hr : 0 ≤ r ∧ r < 6) (hg : (gs = 0 ∨ gs = 1) ∧ (gs = 1 → ρ.2.1 3 (220 * r + k) = 9)) (hk : 0 ≤ k ∧ k < 220) (hx_355 : ∀ (t : Int) (σ : MS) , (Fr [] [3, 4, 5, 6, 7, 8] [] σ0 σ) → (RG σ) → (0 ≤ t ∧ t ≤ k + 1) → (FLP ρ σ r F (k + 1) t) → (KNW σ) → Tm (d + 2) m_X12_fold 355 b σ [(6, .int (iI gs)), (5, .int (iI (220 * r + k))), (4, .int (iI k)), (3, .int (iI t)), (2, .int (iI w)), (0, .ref b), (1, .int (iI r))] [] post) : ∀ (n : Nat) (t : Int) (σ : MS) , (Fr [] [3, 4, 5, 6, 7, 8] [] σ0 σ) → (RG σ) → (0 ≤ t ∧ t ≤ k) → (FWK ρ σ r F k t) → (KNW σ) → ((0 : Int)).toNat = n → Tm (d + 2) m_X12_fold 335 b σ [(6, .int (iI gs)), (5, .int (iI (220 * r + k))), (4, .int (iI k)), (3, .int (iI t)), (2, .int (iI w)), (0, .ref b), (1, .int (iI r))] [] post := by
  intro n
  induction n using Nat.strongRecOn with
  | _ n ih =>
    intro t σ hF hR h0 hw hkn hm
    refine tm_iload dX12_fold_335 0 rfl ?_
    refine tm_if_ne (tgt := 355) dX12_fold_337 (by decide) ⟨by omega, by omega⟩ (fun h1 => ?_) (fun h1 => ?_)
    · exact tm_sub [0, 1, 2, 3, 4, 5, 6] rfl (hx_355 (t) σ (Fr.rfl.trans (Fr.sub hF (by decide) (by decide) (by decide))) hR (by omega) (hw.skip hk.1 (hg.2 (by omega))) hkn)
    · refine tm_aload_n dX12_fold_340 rfl 5 rfl ?_
      refine tm_iload dX12_fold_341 1 rfl ?_
      refine tm_aload_n dX12_fold_343 rfl 5 rfl ?_
      refine tm_iload_n dX12_fold_344 rfl 6 rfl ?_
      refine tm_iload_n dX12_fold_345 rfl 3 rfl ?_
      refine tm_callV (M := m_X12_fold) (pc := 346) (ix := 203) (M' := m_X12_at) (As := [.int (iI r), .int (iI t)]) (rest := [.int (iI (220 * r + k)), .ref b]) dX12_fold_346 ok_X12_at im_X12_at se_X12_at ml12_203 np_X12_at rfl rfl (Nat.le_of_ble_eq_true rfl) (Nat.le_of_ble_eq_true rfl) rfl (c_X12_at (d) (σ := σ) (x := r) (k := t) ) (fun r2 σ3 hp => ?_)
      obtain ⟨v4, rfl, rfl, f5⟩ := hp
      subst f5
      show Tm _ _ 349 b σ [(6, .int (iI gs)), (5, .int (iI (220 * r + k))), (4, .int (iI k)), (3, .int (iI t)), (2, .int (iI w)), (0, .ref b), (1, .int (iI r))] [.int (iI (220 * r + t)), .int (iI (220 * r + k)), .ref b] _
      refine tm_callV (M := m_X12_fold) (pc := 349) (ix := 394) (M' := m_X12_copyItem) (As := [.int (iI (220 * r + k)), .int (iI (220 * r + t))]) (rest := []) dX12_fold_349 ok_X12_copyItem im_X12_copyItem se_X12_copyItem ml12_394 np_X12_copyItem rfl rfl (Nat.le_of_ble_eq_true rfl) (Nat.le_of_ble_eq_true rfl) rfl (c_X12_copyItem (d) (σ := σ) (f := 220 * r + k) (t := 220 * r + t) (by omega) (by omega)) (fun r6 σ7 hp => ?_)
      obtain ⟨rfl, f9⟩ := hp
      subst f9
      show Tm _ _ 352 b (fCopy (220 * r + k) (220 * r + t) σ) [(6, .int (iI gs)), (5, .int (iI (220 * r + k))), (4, .int (iI k)), (3, .int (iI t)), (2, .int (iI w)), (0, .ref b), (1, .int (iI r))] [] _
      refine tm_iinc (q0 := 3) (L' := [(3, .int (iI (t + 1))), (6, .int (iI gs)), (5, .int (iI (220 * r + k))), (4, .int (iI k)), (2, .int (iI w)), (0, .ref b), (1, .int (iI r))]) dX12_fold_352 rfl (by decide) rfl ?_
      exact tm_sub [1, 2, 3, 0, 4, 5, 6] rfl (hx_355 (t + 1) (fCopy (220 * r + k) (220 * r + t) σ) ((Fr.rfl.trans (Fr.sub hF (by decide) (by decide) (by decide))).trans (Fr.sub fCopy_fr (by decide) (by decide) (by decide))) (hR.copy) (by omega) (hw.keep (by omega)) (hkn.fr fCopy_fr (by decide)))
theorem ml12_469 : Cond.methodLink RX12 469 yX12_learn ∈ pWW := pw9 (List.mem_of_getElem? (i := 117) rfl) rfl
theorem dX12_fold_251 : decode cX12_fold 251 = .ok (.aload_n 0, 1) := by decide +kernel
theorem dX12_fold_252 : decode cX12_fold 252 = .ok (.getfield 13, 3) := by decide +kernel
theorem dX12_fold_255 : decode cX12_fold 255 = .ok (.iload 5, 2) := by decide +kernel
theorem dX12_fold_257 : decode cX12_fold 257 = .ok (.iaload, 1) := by decide +kernel
theorem dX12_fold_258 : decode cX12_fold 258 = .ok (.bipush 9, 2) := by decide +kernel
theorem dX12_fold_260 : decode cX12_fold 260 = .ok (.if_icmp .ne 56, 3) := by decide +kernel
theorem dX12_fold_316 : decode cX12_fold 316 = .ok (.iload_n 2, 1) := by decide +kernel
theorem dX12_fold_317 : decode cX12_fold 317 = .ok (.iload 7, 2) := by decide +kernel
theorem dX12_fold_319 : decode cX12_fold 319 = .ok (.ifCond .eq 7, 3) := by decide +kernel
theorem dX12_fold_326 : decode cX12_fold 326 = .ok (.iconst 0, 1) := by decide +kernel
theorem dX12_fold_327 : decode cX12_fold 327 = .ok (.iadd, 1) := by decide +kernel
theorem dX12_fold_328 : decode cX12_fold 328 = .ok (.istore_n 2, 1) := by decide +kernel
theorem dX12_fold_329 : decode cX12_fold 329 = .ok (.aload_n 0, 1) := by decide +kernel
theorem dX12_fold_330 : decode cX12_fold 330 = .ok (.iload 5, 2) := by decide +kernel
theorem dX12_fold_332 : decode cX12_fold 332 = .ok (.invokevirtual 469, 3) := by decide +kernel
theorem dX12_fold_322 : decode cX12_fold 322 = .ok (.iconst 1, 1) := by decide +kernel
theorem dX12_fold_323 : decode cX12_fold 323 = .ok (.goto 4, 3) := by decide +kernel
theorem dX12_fold_263 : decode cX12_fold 263 = .ok (.aload_n 0, 1) := by decide +kernel
theorem dX12_fold_264 : decode cX12_fold 264 = .ok (.getfield 26, 3) := by decide +kernel
theorem dX12_fold_267 : decode cX12_fold 267 = .ok (.iconst 4, 1) := by decide +kernel
theorem dX12_fold_268 : decode cX12_fold 268 = .ok (.iload 5, 2) := by decide +kernel
theorem dX12_fold_270 : decode cX12_fold 270 = .ok (.imul, 1) := by decide +kernel
theorem dX12_fold_271 : decode cX12_fold 271 = .ok (.iaload, 1) := by decide +kernel
theorem dX12_fold_272 : decode cX12_fold 272 = .ok (.iconst 1, 1) := by decide +kernel
theorem dX12_fold_273 : decode cX12_fold 273 = .ok (.if_icmp .ne 43, 3) := by decide +kernel
theorem dX12_fold_276 : decode cX12_fold 276 = .ok (.aload_n 0, 1) := by decide +kernel
theorem dX12_fold_277 : decode cX12_fold 277 = .ok (.getfield 29, 3) := by decide +kernel
theorem dX12_fold_280 : decode cX12_fold 280 = .ok (.iconst 4, 1) := by decide +kernel
theorem dX12_fold_281 : decode cX12_fold 281 = .ok (.iload 5, 2) := by decide +kernel
theorem dX12_fold_283 : decode cX12_fold 283 = .ok (.imul, 1) := by decide +kernel
theorem dX12_fold_284 : decode cX12_fold 284 = .ok (.iaload, 1) := by decide +kernel
theorem dX12_fold_285 : decode cX12_fold 285 = .ok (.ifCond .eq 7, 3) := by decide +kernel
theorem dX12_fold_292 : decode cX12_fold 292 = .ok (.iconst 0, 1) := by decide +kernel
theorem dX12_fold_293 : decode cX12_fold 293 = .ok (.istore 6, 2) := by decide +kernel
theorem dX12_fold_295 : decode cX12_fold 295 = .ok (.aload_n 0, 1) := by decide +kernel
theorem dX12_fold_296 : decode cX12_fold 296 = .ok (.getfield 13, 3) := by decide +kernel
theorem dX12_fold_299 : decode cX12_fold 299 = .ok (.iload 5, 2) := by decide +kernel
theorem dX12_fold_301 : decode cX12_fold 301 = .ok (.bipush 8, 2) := by decide +kernel
theorem dX12_fold_303 : decode cX12_fold 303 = .ok (.iastore, 1) := by decide +kernel
theorem dX12_fold_304 : decode cX12_fold 304 = .ok (.aload_n 0, 1) := by decide +kernel
theorem dX12_fold_305 : decode cX12_fold 305 = .ok (.iload 5, 2) := by decide +kernel
theorem dX12_fold_307 : decode cX12_fold 307 = .ok (.iconst 0, 1) := by decide +kernel
theorem dX12_fold_308 : decode cX12_fold 308 = .ok (.iconst 0, 1) := by decide +kernel
theorem dX12_fold_309 : decode cX12_fold 309 = .ok (.iconst 0, 1) := by decide +kernel
theorem dX12_fold_310 : decode cX12_fold 310 = .ok (.invokevirtual 298, 3) := by decide +kernel
theorem dX12_fold_313 : decode cX12_fold 313 = .ok (.iconst 1, 1) := by decide +kernel
theorem dX12_fold_314 : decode cX12_fold 314 = .ok (.istore 7, 2) := by decide +kernel
theorem dX12_fold_288 : decode cX12_fold 288 = .ok (.iconst 1, 1) := by decide +kernel
theorem dX12_fold_289 : decode cX12_fold 289 = .ok (.goto 4, 3) := by decide +kernel
set_option maxHeartbeats 1000000 in
set_option maxRecDepth 20000 in
theorem b_fold251 (d : Nat) {b : Nat} {σ0 : MS} {r : Int} {F : Int} {k : Int} {ρ : MS} {post : Option Value → MS → Prop} (hr : 0 ≤ r ∧ r < 6) (hR0 : RG σ0) (hk : 0 ≤ k ∧ k < 220) (hx_355 : ∀ (ce : Int) (w : Int) (gs : Int) (t : Int) (σ : MS) , (Fr [] [3, 4, 5, 6, 7, 8, 60, 61] [] σ0 σ) → (RG σ) → (0 ≤ w ∧ w ≤ k + 1) → (0 ≤ t ∧ t ≤ k + 1) → (FLP ρ σ r F (k + 1) t) → (KNW σ) → Tm (d + 3) m_X12_fold 355 b σ [(6, .int (iI gs)), (5, .int (iI (220 * r + k))), (4, .int (iI k)), (3, .int (iI t)), (2, .int (iI w)), (0, .ref b), (1, .int (iI r))] [] post) : ∀ (n : Nat) (ce : Int) (w : Int) (gs : Int) (t : Int) (σ : MS) , (Fr [] [3, 4, 5, 6, 7, 8, 60, 61] [] σ0 σ) → (RG σ) → (0 ≤ t ∧ t ≤ k ∧ (ce = 0 ∨ ce = 1) ∧ gs = 0 ∧ 0 ≤ w ∧ w ≤ k) → (FWK ρ σ r F k t) → (KNW σ) → ((0 : Int)).toNat = n → Tm (d + 3) m_X12_fold 251 b σ [(7, .int (iI ce)), (6, .int (iI gs)), (5, .int (iI (220 * r + k))), (4, .int (iI k)), (3, .int (iI t)), (2, .int (iI w)), (0, .ref b), (1, .int (iI r))] [] post := by
  intro n
  induction n using Nat.strongRecOn with
  | _ n ih =>
    intro ce w gs t σ hF hR h0 hw hkn hm
    have hok := hw.ok
    have hok1 := hok.1
    have ho8 := hok.2.2.2.2.2.2.2.1 0 (by decide) (by decide)
    rw [Int.add_zero] at ho8
    refine tm_aload_n dX12_fold_251 rfl 6 rfl ?_
    refine tm_get (k := 3) (v := .ref (b + 1 + 1)) lay_12 dX12_fold_252 (by decide) fl12_13 rfl ?_
    refine tm_iload dX12_fold_255 2 rfl ?_
    refine tm_iald (z := 220 * r + k) (v := σ.2.1 3 (220 * r + k)) dX12_fold_257 (show mT[1]? = some (3, 0, 2860) from rfl) (by omega) (by omega) (by decide) (rfl) ?_
    have g1 := RG.a hR 3 (220 * r + k)
    refine tm_bipush dX12_fold_258 (by decide) ?_
    refine tm_icmp_ne (tgt := 316) dX12_fold_260 (by decide) ⟨by omega, by omega⟩ ⟨by decide, by decide⟩ (fun h2 => ?_) (fun h2 => ?_)
    · have hwN := hw
      refine tm_iload_n dX12_fold_316 rfl 5 rfl ?_
      refine tm_iload dX12_fold_317 0 rfl ?_
      refine tm_if_eq (tgt := 326) dX12_fold_319 (by decide) ⟨by omega, by omega⟩ (fun h3 => ?_) (fun h3 => ?_)
      · refine tm_iconst dX12_fold_326 ?_
        refine tm_iadd dX12_fold_327 ?_
        refine tm_istore_n (L' := [(2, .int (iI (w + 0))), (7, .int (iI ce)), (6, .int (iI gs)), (5, .int (iI (220 * r + k))), (4, .int (iI k)), (3, .int (iI t)), (0, .ref b), (1, .int (iI r))]) dX12_fold_328 rfl (by decide) rfl ?_
        refine tm_aload_n dX12_fold_329 rfl 6 rfl ?_
        refine tm_iload dX12_fold_330 3 rfl ?_
        refine tm_callV (M := m_X12_fold) (pc := 332) (ix := 469) (M' := m_X12_learn) (As := [.int (iI (220 * r + k))]) (rest := []) dX12_fold_332 ok_X12_learn im_X12_learn se_X12_learn ml12_469 np_X12_learn rfl rfl (Nat.le_of_ble_eq_true rfl) (Nat.le_of_ble_eq_true rfl) rfl (c_X12_learn (d) (σ := σ) (x := 220 * r + k) (F := F) (by omega) hR hkn hwN.ok) (fun r4 σ5 hp => ?_)
        obtain ⟨rfl, f7, f8, f9⟩ := hp
        show Tm _ _ 335 b σ5 [(2, .int (iI (w + 0))), (7, .int (iI ce)), (6, .int (iI gs)), (5, .int (iI (220 * r + k))), (4, .int (iI k)), (3, .int (iI t)), (0, .ref b), (1, .int (iI r))] [] _
        refine tm_sub [2, 3, 4, 5, 0, 6, 7] rfl (b_fold335 (d + 1) (σ0 := σ5) (r := r) (k := k) (w := w + 0) (gs := gs) (F := F) (ρ := ρ) hr (by omega) (by omega) (fun t17 σ18 F12 R13 f14 f15 f16 => ?_) _ (t) σ5 Fr.rfl f8 (by omega) (hwN.fr f7 (by decide)) (by assumption) rfl)
        show Tm _ _ 355 b σ18 [(6, .int (iI gs)), (5, .int (iI (220 * r + k))), (4, .int (iI k)), (3, .int (iI t17)), (2, .int (iI (w + 0))), (0, .ref b), (1, .int (iI r))] [] _
        exact tm_sub [0, 1, 2, 3, 4, 5, 6] rfl (hx_355 (0) (w + 0) (gs) (t17) σ18 (((Fr.rfl.trans (Fr.sub hF (by decide) (by decide) (by decide))).trans (Fr.sub f7 (by decide) (by decide) (by decide))).trans (Fr.sub F12 (by decide) (by decide) (by decide))) R13 (by omega) (by omega) f15 f16)
      · refine tm_iconst dX12_fold_322 ?_
        refine tm_goto (tgt := 327) dX12_fold_323 (by decide) ?_
        refine tm_iadd dX12_fold_327 ?_
        refine tm_istore_n (L' := [(2, .int (iI (w + 1))), (7, .int (iI ce)), (6, .int (iI gs)), (5, .int (iI (220 * r + k))), (4, .int (iI k)), (3, .int (iI t)), (0, .ref b), (1, .int (iI r))]) dX12_fold_328 rfl (by decide) rfl ?_
        refine tm_aload_n dX12_fold_329 rfl 6 rfl ?_
        refine tm_iload dX12_fold_330 3 rfl ?_
        refine tm_callV (M := m_X12_fold) (pc := 332) (ix := 469) (M' := m_X12_learn) (As := [.int (iI (220 * r + k))]) (rest := []) dX12_fold_332 ok_X12_learn im_X12_learn se_X12_learn ml12_469 np_X12_learn rfl rfl (Nat.le_of_ble_eq_true rfl) (Nat.le_of_ble_eq_true rfl) rfl (c_X12_learn (d) (σ := σ) (x := 220 * r + k) (F := F) (by omega) hR hkn hwN.ok) (fun r19 σ20 hp => ?_)
        obtain ⟨rfl, f22, f23, f24⟩ := hp
        show Tm _ _ 335 b σ20 [(2, .int (iI (w + 1))), (7, .int (iI ce)), (6, .int (iI gs)), (5, .int (iI (220 * r + k))), (4, .int (iI k)), (3, .int (iI t)), (0, .ref b), (1, .int (iI r))] [] _
        refine tm_sub [2, 3, 4, 5, 0, 6, 7] rfl (b_fold335 (d + 1) (σ0 := σ20) (r := r) (k := k) (w := w + 1) (gs := gs) (F := F) (ρ := ρ) hr (by omega) (by omega) (fun t32 σ33 F27 R28 f29 f30 f31 => ?_) _ (t) σ20 Fr.rfl f23 (by omega) (hwN.fr f22 (by decide)) (by assumption) rfl)
        show Tm _ _ 355 b σ33 [(6, .int (iI gs)), (5, .int (iI (220 * r + k))), (4, .int (iI k)), (3, .int (iI t32)), (2, .int (iI (w + 1))), (0, .ref b), (1, .int (iI r))] [] _
        exact tm_sub [0, 1, 2, 3, 4, 5, 6] rfl (hx_355 (0) (w + 1) (gs) (t32) σ33 (((Fr.rfl.trans (Fr.sub hF (by decide) (by decide) (by decide))).trans (Fr.sub f22 (by decide) (by decide) (by decide))).trans (Fr.sub F27 (by decide) (by decide) (by decide))) R28 (by omega) (by omega) f30 f31)
    · refine tm_aload_n dX12_fold_263 rfl 6 rfl ?_
      refine tm_get (k := 7) (v := .ref (b + 1 + 5)) lay_12 dX12_fold_264 (by decide) fl12_26 rfl ?_
      refine tm_iconst dX12_fold_267 ?_
      refine tm_iload dX12_fold_268 2 rfl ?_
      refine tm_imul dX12_fold_270 ?_
      refine tm_iald (z := 4 * (220 * r + k)) (v := σ.2.1 7 (4 * (220 * r + k))) dX12_fold_271 (show mT[5]? = some (7, 0, 11440) from rfl) (by omega) (by omega) (by decide) (rfl) ?_
      have g34 := RG.a hR 7 (4 * (220 * r + k))
      refine tm_iconst dX12_fold_272 ?_
      refine tm_icmp_ne (tgt := 316) dX12_fold_273 (by decide) ⟨by omega, by omega⟩ ⟨by decide, by decide⟩ (fun h35 => ?_) (fun h35 => ?_)
      · have hwN := hw
        refine tm_iload_n dX12_fold_316 rfl 5 rfl ?_
        refine tm_iload dX12_fold_317 0 rfl ?_
        refine tm_if_eq (tgt := 326) dX12_fold_319 (by decide) ⟨by omega, by omega⟩ (fun h36 => ?_) (fun h36 => ?_)
        · refine tm_iconst dX12_fold_326 ?_
          refine tm_iadd dX12_fold_327 ?_
          refine tm_istore_n (L' := [(2, .int (iI (w + 0))), (7, .int (iI ce)), (6, .int (iI gs)), (5, .int (iI (220 * r + k))), (4, .int (iI k)), (3, .int (iI t)), (0, .ref b), (1, .int (iI r))]) dX12_fold_328 rfl (by decide) rfl ?_
          refine tm_aload_n dX12_fold_329 rfl 6 rfl ?_
          refine tm_iload dX12_fold_330 3 rfl ?_
          refine tm_callV (M := m_X12_fold) (pc := 332) (ix := 469) (M' := m_X12_learn) (As := [.int (iI (220 * r + k))]) (rest := []) dX12_fold_332 ok_X12_learn im_X12_learn se_X12_learn ml12_469 np_X12_learn rfl rfl (Nat.le_of_ble_eq_true rfl) (Nat.le_of_ble_eq_true rfl) rfl (c_X12_learn (d) (σ := σ) (x := 220 * r + k) (F := F) (by omega) hR hkn hwN.ok) (fun r37 σ38 hp => ?_)
          obtain ⟨rfl, f40, f41, f42⟩ := hp
          show Tm _ _ 335 b σ38 [(2, .int (iI (w + 0))), (7, .int (iI ce)), (6, .int (iI gs)), (5, .int (iI (220 * r + k))), (4, .int (iI k)), (3, .int (iI t)), (0, .ref b), (1, .int (iI r))] [] _
          refine tm_sub [2, 3, 4, 5, 0, 6, 7] rfl (b_fold335 (d + 1) (σ0 := σ38) (r := r) (k := k) (w := w + 0) (gs := gs) (F := F) (ρ := ρ) hr (by omega) (by omega) (fun t50 σ51 F45 R46 f47 f48 f49 => ?_) _ (t) σ38 Fr.rfl f41 (by omega) (hwN.fr f40 (by decide)) (by assumption) rfl)
          show Tm _ _ 355 b σ51 [(6, .int (iI gs)), (5, .int (iI (220 * r + k))), (4, .int (iI k)), (3, .int (iI t50)), (2, .int (iI (w + 0))), (0, .ref b), (1, .int (iI r))] [] _
          exact tm_sub [0, 1, 2, 3, 4, 5, 6] rfl (hx_355 (0) (w + 0) (gs) (t50) σ51 (((Fr.rfl.trans (Fr.sub hF (by decide) (by decide) (by decide))).trans (Fr.sub f40 (by decide) (by decide) (by decide))).trans (Fr.sub F45 (by decide) (by decide) (by decide))) R46 (by omega) (by omega) f48 f49)
        · refine tm_iconst dX12_fold_322 ?_
          refine tm_goto (tgt := 327) dX12_fold_323 (by decide) ?_
          refine tm_iadd dX12_fold_327 ?_
          refine tm_istore_n (L' := [(2, .int (iI (w + 1))), (7, .int (iI ce)), (6, .int (iI gs)), (5, .int (iI (220 * r + k))), (4, .int (iI k)), (3, .int (iI t)), (0, .ref b), (1, .int (iI r))]) dX12_fold_328 rfl (by decide) rfl ?_
          refine tm_aload_n dX12_fold_329 rfl 6 rfl ?_
          refine tm_iload dX12_fold_330 3 rfl ?_
          refine tm_callV (M := m_X12_fold) (pc := 332) (ix := 469) (M' := m_X12_learn) (As := [.int (iI (220 * r + k))]) (rest := []) dX12_fold_332 ok_X12_learn im_X12_learn se_X12_learn ml12_469 np_X12_learn rfl rfl (Nat.le_of_ble_eq_true rfl) (Nat.le_of_ble_eq_true rfl) rfl (c_X12_learn (d) (σ := σ) (x := 220 * r + k) (F := F) (by omega) hR hkn hwN.ok) (fun r52 σ53 hp => ?_)
          obtain ⟨rfl, f55, f56, f57⟩ := hp
          show Tm _ _ 335 b σ53 [(2, .int (iI (w + 1))), (7, .int (iI ce)), (6, .int (iI gs)), (5, .int (iI (220 * r + k))), (4, .int (iI k)), (3, .int (iI t)), (0, .ref b), (1, .int (iI r))] [] _
          refine tm_sub [2, 3, 4, 5, 0, 6, 7] rfl (b_fold335 (d + 1) (σ0 := σ53) (r := r) (k := k) (w := w + 1) (gs := gs) (F := F) (ρ := ρ) hr (by omega) (by omega) (fun t65 σ66 F60 R61 f62 f63 f64 => ?_) _ (t) σ53 Fr.rfl f56 (by omega) (hwN.fr f55 (by decide)) (by assumption) rfl)
          show Tm _ _ 355 b σ66 [(6, .int (iI gs)), (5, .int (iI (220 * r + k))), (4, .int (iI k)), (3, .int (iI t65)), (2, .int (iI (w + 1))), (0, .ref b), (1, .int (iI r))] [] _
          exact tm_sub [0, 1, 2, 3, 4, 5, 6] rfl (hx_355 (0) (w + 1) (gs) (t65) σ66 (((Fr.rfl.trans (Fr.sub hF (by decide) (by decide) (by decide))).trans (Fr.sub f55 (by decide) (by decide) (by decide))).trans (Fr.sub F60 (by decide) (by decide) (by decide))) R61 (by omega) (by omega) f63 f64)
      · refine tm_aload_n dX12_fold_276 rfl 6 rfl ?_
        refine tm_get (k := 8) (v := .ref (b + 1 + 6)) lay_12 dX12_fold_277 (by decide) fl12_29 rfl ?_
        refine tm_iconst dX12_fold_280 ?_
        refine tm_iload dX12_fold_281 2 rfl ?_
        refine tm_imul dX12_fold_283 ?_
        refine tm_iald (z := 4 * (220 * r + k)) (v := σ.2.1 8 (4 * (220 * r + k))) dX12_fold_284 (show mT[6]? = some (8, 0, 11440) from rfl) (by omega) (by omega) (by decide) (rfl) ?_
        have g67 := RG.a hR 8 (4 * (220 * r + k))
        refine tm_if_eq (tgt := 292) dX12_fold_285 (by decide) ⟨by omega, by omega⟩ (fun h68 => ?_) (fun h68 => ?_)
        · refine tm_iconst dX12_fold_292 ?_
          refine tm_istore (L' := [(6, .int (iI 0)), (7, .int (iI ce)), (5, .int (iI (220 * r + k))), (4, .int (iI k)), (3, .int (iI t)), (2, .int (iI w)), (0, .ref b), (1, .int (iI r))]) dX12_fold_293 (by decide) rfl ?_
          refine tm_aload_n dX12_fold_295 rfl 6 rfl ?_
          refine tm_get (k := 3) (v := .ref (b + 1 + 1)) lay_12 dX12_fold_296 (by decide) fl12_13 rfl ?_
          refine tm_iload dX12_fold_299 2 rfl ?_
          refine tm_bipush dX12_fold_301 (by decide) ?_
          refine tm_iast (z := 220 * r + k) (v := 8) dX12_fold_303 (show mT[1]? = some (3, 0, 2860) from rfl) (by omega) (by omega) (by decide) ?_
          refine tm_aload_n dX12_fold_304 rfl 6 rfl ?_
          refine tm_iload dX12_fold_305 2 rfl ?_
          refine tm_iconst dX12_fold_307 ?_
          refine tm_iconst dX12_fold_308 ?_
          refine tm_iconst dX12_fold_309 ?_
          refine tm_callV (M := m_X12_fold) (pc := 310) (ix := 298) (M' := m_X12_setArg) (As := [.int (iI (220 * r + k)), .int (iI 0), .int (iI 0), .int (iI 0)]) (rest := []) dX12_fold_310 ok_X12_setArg im_X12_setArg se_X12_setArg ml12_298 np_X12_setArg rfl rfl (Nat.le_of_ble_eq_true rfl) (Nat.le_of_ble_eq_true rfl) rfl (c_X12_setArg (d + 1) (σ := (sA 3 (220 * r + k) (8) σ)) (x := 220 * r + k) (i := 0) (k := 0) (w := 0) (by omega)) (fun r69 σ70 hp => ?_)
          obtain ⟨rfl, f72⟩ := hp
          subst f72
          show Tm _ _ 313 b (fArg (220 * r + k) (0) (0) (0) (sA 3 (220 * r + k) (8) σ)) [(6, .int (iI 0)), (7, .int (iI ce)), (5, .int (iI (220 * r + k))), (4, .int (iI k)), (3, .int (iI t)), (2, .int (iI w)), (0, .ref b), (1, .int (iI r))] [] _
          refine tm_iconst dX12_fold_313 ?_
          refine tm_istore (L' := [(7, .int (iI 1)), (6, .int (iI 0)), (5, .int (iI (220 * r + k))), (4, .int (iI k)), (3, .int (iI t)), (2, .int (iI w)), (0, .ref b), (1, .int (iI r))]) dX12_fold_314 (by decide) rfl ?_
          have hwN := hw.jump (by omega) (by omega)
          have hz9 := hw.z9 (by omega)
          refine tm_iload_n dX12_fold_316 rfl 5 rfl ?_
          refine tm_iload dX12_fold_317 0 rfl ?_
          refine tm_if_eq (tgt := 326) dX12_fold_319 (by decide) ⟨by decide, by decide⟩ (fun h => absurd h (by decide)) (fun _ => ?_)
          refine tm_iconst dX12_fold_322 ?_
          refine tm_goto (tgt := 327) dX12_fold_323 (by decide) ?_
          refine tm_iadd dX12_fold_327 ?_
          refine tm_istore_n (L' := [(2, .int (iI (w + 1))), (7, .int (iI 1)), (6, .int (iI 0)), (5, .int (iI (220 * r + k))), (4, .int (iI k)), (3, .int (iI t)), (0, .ref b), (1, .int (iI r))]) dX12_fold_328 rfl (by decide) rfl ?_
          refine tm_aload_n dX12_fold_329 rfl 6 rfl ?_
          refine tm_iload dX12_fold_330 3 rfl ?_
          refine tm_callV (M := m_X12_fold) (pc := 332) (ix := 469) (M' := m_X12_learn) (As := [.int (iI (220 * r + k))]) (rest := []) dX12_fold_332 ok_X12_learn im_X12_learn se_X12_learn ml12_469 np_X12_learn rfl rfl (Nat.le_of_ble_eq_true rfl) (Nat.le_of_ble_eq_true rfl) rfl (c_X12_learn (d) (σ := (fArg (220 * r + k) (0) (0) (0) (sA 3 (220 * r + k) (8) σ))) (x := 220 * r + k) (F := F) (by omega) ((hR.A (by omega)).arg (by omega) (by omega)) (hkn.fr (Fr.trans (Fr.A (Fr.rfl (ss := []) (ks := [3, 7, 8]) (js := [])) (by decide)) (fArg_fr.sub (by decide) (by decide) (by decide))) (by decide)) hwN.ok) (fun r74 σ75 hp => ?_)
          obtain ⟨rfl, f77, f78, f79⟩ := hp
          show Tm _ _ 335 b σ75 [(2, .int (iI (w + 1))), (7, .int (iI 1)), (6, .int (iI 0)), (5, .int (iI (220 * r + k))), (4, .int (iI k)), (3, .int (iI t)), (0, .ref b), (1, .int (iI r))] [] _
          refine tm_sub [2, 3, 4, 5, 0, 6, 7] rfl (b_fold335 (d + 1) (σ0 := σ75) (r := r) (k := k) (w := w + 1) (gs := 0) (F := F) (ρ := ρ) hr (by omega) (by omega) (fun t87 σ88 F82 R83 f84 f85 f86 => ?_) _ (t) σ75 Fr.rfl f78 (by omega) (hwN.fr f77 (by decide)) (by assumption) rfl)
          show Tm _ _ 355 b σ88 [(6, .int (iI 0)), (5, .int (iI (220 * r + k))), (4, .int (iI k)), (3, .int (iI t87)), (2, .int (iI (w + 1))), (0, .ref b), (1, .int (iI r))] [] _
          exact tm_sub [0, 1, 2, 3, 4, 5, 6] rfl (hx_355 (0) (w + 1) (0) (t87) σ88 (((((Fr.rfl.trans (Fr.sub hF (by decide) (by decide) (by decide))).A (by decide)).trans (Fr.sub fArg_fr (by decide) (by decide) (by decide))).trans (Fr.sub f77 (by decide) (by decide) (by decide))).trans (Fr.sub F82 (by decide) (by decide) (by decide))) R83 (by omega) (by omega) f85 f86)
        · refine tm_iconst dX12_fold_288 ?_
          refine tm_goto (tgt := 293) dX12_fold_289 (by decide) ?_
          refine tm_istore (L' := [(6, .int (iI 1)), (7, .int (iI ce)), (5, .int (iI (220 * r + k))), (4, .int (iI k)), (3, .int (iI t)), (2, .int (iI w)), (0, .ref b), (1, .int (iI r))]) dX12_fold_293 (by decide) rfl ?_
          refine tm_aload_n dX12_fold_295 rfl 6 rfl ?_
          refine tm_get (k := 3) (v := .ref (b + 1 + 1)) lay_12 dX12_fold_296 (by decide) fl12_13 rfl ?_
          refine tm_iload dX12_fold_299 2 rfl ?_
          refine tm_bipush dX12_fold_301 (by decide) ?_
          refine tm_iast (z := 220 * r + k) (v := 8) dX12_fold_303 (show mT[1]? = some (3, 0, 2860) from rfl) (by omega) (by omega) (by decide) ?_
          refine tm_aload_n dX12_fold_304 rfl 6 rfl ?_
          refine tm_iload dX12_fold_305 2 rfl ?_
          refine tm_iconst dX12_fold_307 ?_
          refine tm_iconst dX12_fold_308 ?_
          refine tm_iconst dX12_fold_309 ?_
          refine tm_callV (M := m_X12_fold) (pc := 310) (ix := 298) (M' := m_X12_setArg) (As := [.int (iI (220 * r + k)), .int (iI 0), .int (iI 0), .int (iI 0)]) (rest := []) dX12_fold_310 ok_X12_setArg im_X12_setArg se_X12_setArg ml12_298 np_X12_setArg rfl rfl (Nat.le_of_ble_eq_true rfl) (Nat.le_of_ble_eq_true rfl) rfl (c_X12_setArg (d + 1) (σ := (sA 3 (220 * r + k) (8) σ)) (x := 220 * r + k) (i := 0) (k := 0) (w := 0) (by omega)) (fun r89 σ90 hp => ?_)
          obtain ⟨rfl, f92⟩ := hp
          subst f92
          show Tm _ _ 313 b (fArg (220 * r + k) (0) (0) (0) (sA 3 (220 * r + k) (8) σ)) [(6, .int (iI 1)), (7, .int (iI ce)), (5, .int (iI (220 * r + k))), (4, .int (iI k)), (3, .int (iI t)), (2, .int (iI w)), (0, .ref b), (1, .int (iI r))] [] _
          refine tm_iconst dX12_fold_313 ?_
          refine tm_istore (L' := [(7, .int (iI 1)), (6, .int (iI 1)), (5, .int (iI (220 * r + k))), (4, .int (iI k)), (3, .int (iI t)), (2, .int (iI w)), (0, .ref b), (1, .int (iI r))]) dX12_fold_314 (by decide) rfl ?_
          have hwN := hw.jump (by omega) (by omega)
          have hz9 := hw.z9 (by omega)
          refine tm_iload_n dX12_fold_316 rfl 5 rfl ?_
          refine tm_iload dX12_fold_317 0 rfl ?_
          refine tm_if_eq (tgt := 326) dX12_fold_319 (by decide) ⟨by decide, by decide⟩ (fun h => absurd h (by decide)) (fun _ => ?_)
          refine tm_iconst dX12_fold_322 ?_
          refine tm_goto (tgt := 327) dX12_fold_323 (by decide) ?_
          refine tm_iadd dX12_fold_327 ?_
          refine tm_istore_n (L' := [(2, .int (iI (w + 1))), (7, .int (iI 1)), (6, .int (iI 1)), (5, .int (iI (220 * r + k))), (4, .int (iI k)), (3, .int (iI t)), (0, .ref b), (1, .int (iI r))]) dX12_fold_328 rfl (by decide) rfl ?_
          refine tm_aload_n dX12_fold_329 rfl 6 rfl ?_
          refine tm_iload dX12_fold_330 3 rfl ?_
          refine tm_callV (M := m_X12_fold) (pc := 332) (ix := 469) (M' := m_X12_learn) (As := [.int (iI (220 * r + k))]) (rest := []) dX12_fold_332 ok_X12_learn im_X12_learn se_X12_learn ml12_469 np_X12_learn rfl rfl (Nat.le_of_ble_eq_true rfl) (Nat.le_of_ble_eq_true rfl) rfl (c_X12_learn (d) (σ := (fArg (220 * r + k) (0) (0) (0) (sA 3 (220 * r + k) (8) σ))) (x := 220 * r + k) (F := F) (by omega) ((hR.A (by omega)).arg (by omega) (by omega)) (hkn.fr (Fr.trans (Fr.A (Fr.rfl (ss := []) (ks := [3, 7, 8]) (js := [])) (by decide)) (fArg_fr.sub (by decide) (by decide) (by decide))) (by decide)) hwN.ok) (fun r94 σ95 hp => ?_)
          obtain ⟨rfl, f97, f98, f99⟩ := hp
          show Tm _ _ 335 b σ95 [(2, .int (iI (w + 1))), (7, .int (iI 1)), (6, .int (iI 1)), (5, .int (iI (220 * r + k))), (4, .int (iI k)), (3, .int (iI t)), (0, .ref b), (1, .int (iI r))] [] _
          refine tm_sub [2, 3, 4, 5, 0, 6, 7] rfl (b_fold335 (d + 1) (σ0 := σ95) (r := r) (k := k) (w := w + 1) (gs := 1) (F := F) (ρ := ρ) hr (by omega) (by omega) (fun t107 σ108 F102 R103 f104 f105 f106 => ?_) _ (t) σ95 Fr.rfl f98 (by omega) (hwN.fr f97 (by decide)) (by assumption) rfl)
          show Tm _ _ 355 b σ108 [(6, .int (iI 1)), (5, .int (iI (220 * r + k))), (4, .int (iI k)), (3, .int (iI t107)), (2, .int (iI (w + 1))), (0, .ref b), (1, .int (iI r))] [] _
          exact tm_sub [0, 1, 2, 3, 4, 5, 6] rfl (hx_355 (0) (w + 1) (1) (t107) σ108 (((((Fr.rfl.trans (Fr.sub hF (by decide) (by decide) (by decide))).A (by decide)).trans (Fr.sub fArg_fr (by decide) (by decide) (by decide))).trans (Fr.sub f97 (by decide) (by decide) (by decide))).trans (Fr.sub F102 (by decide) (by decide) (by decide))) R103 (by omega) (by omega) f105 f106)
theorem ml12_463 : Cond.methodLink RX12 463 yX12_putsIn ∈ pWW := pw9 (List.mem_of_getElem? (i := 110) rfl) rfl
theorem dX12_fold_127 : decode cX12_fold 127 = .ok (.aload_n 0, 1) := by decide +kernel
theorem dX12_fold_128 : decode cX12_fold 128 = .ok (.getfield 13, 3) := by decide +kernel
theorem dX12_fold_131 : decode cX12_fold 131 = .ok (.iload 5, 2) := by decide +kernel
theorem dX12_fold_133 : decode cX12_fold 133 = .ok (.iaload, 1) := by decide +kernel
theorem dX12_fold_134 : decode cX12_fold 134 = .ok (.invokestatic 401, 3) := by decide +kernel
theorem dX12_fold_137 : decode cX12_fold 137 = .ok (.ifCond .eq 198, 3) := by decide +kernel
theorem dX12_fold_140 : decode cX12_fold 140 = .ok (.aload_n 0, 1) := by decide +kernel
theorem dX12_fold_141 : decode cX12_fold 141 = .ok (.iload 5, 2) := by decide +kernel
theorem dX12_fold_143 : decode cX12_fold 143 = .ok (.invokevirtual 463, 3) := by decide +kernel
theorem dX12_fold_146 : decode cX12_fold 146 = .ok (.istore 7, 2) := by decide +kernel
theorem dX12_fold_148 : decode cX12_fold 148 = .ok (.aload_n 0, 1) := by decide +kernel
theorem dX12_fold_149 : decode cX12_fold 149 = .ok (.getfield 13, 3) := by decide +kernel
theorem dX12_fold_152 : decode cX12_fold 152 = .ok (.iload 5, 2) := by decide +kernel
theorem dX12_fold_154 : decode cX12_fold 154 = .ok (.iaload, 1) := by decide +kernel
theorem dX12_fold_155 : decode cX12_fold 155 = .ok (.invokestatic 196, 3) := by decide +kernel
theorem dX12_fold_158 : decode cX12_fold 158 = .ok (.ifCond .eq 93, 3) := by decide +kernel
theorem dX12_fold_161 : decode cX12_fold 161 = .ok (.aload_n 0, 1) := by decide +kernel
theorem dX12_fold_162 : decode cX12_fold 162 = .ok (.getfield 26, 3) := by decide +kernel
theorem dX12_fold_165 : decode cX12_fold 165 = .ok (.iconst 4, 1) := by decide +kernel
theorem dX12_fold_166 : decode cX12_fold 166 = .ok (.iload 5, 2) := by decide +kernel
theorem dX12_fold_168 : decode cX12_fold 168 = .ok (.imul, 1) := by decide +kernel
theorem dX12_fold_169 : decode cX12_fold 169 = .ok (.iaload, 1) := by decide +kernel
theorem dX12_fold_170 : decode cX12_fold 170 = .ok (.iconst 1, 1) := by decide +kernel
theorem dX12_fold_171 : decode cX12_fold 171 = .ok (.if_icmp .ne 80, 3) := by decide +kernel
theorem dX12_fold_174 : decode cX12_fold 174 = .ok (.aload_n 0, 1) := by decide +kernel
theorem dX12_fold_175 : decode cX12_fold 175 = .ok (.getfield 26, 3) := by decide +kernel
theorem dX12_fold_178 : decode cX12_fold 178 = .ok (.iconst 4, 1) := by decide +kernel
theorem dX12_fold_179 : decode cX12_fold 179 = .ok (.iload 5, 2) := by decide +kernel
theorem dX12_fold_181 : decode cX12_fold 181 = .ok (.imul, 1) := by decide +kernel
theorem dX12_fold_182 : decode cX12_fold 182 = .ok (.iconst 1, 1) := by decide +kernel
theorem dX12_fold_183 : decode cX12_fold 183 = .ok (.iadd, 1) := by decide +kernel
theorem dX12_fold_184 : decode cX12_fold 184 = .ok (.iaload, 1) := by decide +kernel
theorem dX12_fold_185 : decode cX12_fold 185 = .ok (.iconst 1, 1) := by decide +kernel
theorem dX12_fold_186 : decode cX12_fold 186 = .ok (.if_icmp .ne 65, 3) := by decide +kernel
theorem dX12_fold_189 : decode cX12_fold 189 = .ok (.aload_n 0, 1) := by decide +kernel
theorem dX12_fold_190 : decode cX12_fold 190 = .ok (.getfield 13, 3) := by decide +kernel
theorem dX12_fold_193 : decode cX12_fold 193 = .ok (.iload 5, 2) := by decide +kernel
theorem dX12_fold_195 : decode cX12_fold 195 = .ok (.iaload, 1) := by decide +kernel
theorem dX12_fold_196 : decode cX12_fold 196 = .ok (.aload_n 0, 1) := by decide +kernel
theorem dX12_fold_197 : decode cX12_fold 197 = .ok (.getfield 29, 3) := by decide +kernel
theorem dX12_fold_200 : decode cX12_fold 200 = .ok (.iconst 4, 1) := by decide +kernel
theorem dX12_fold_201 : decode cX12_fold 201 = .ok (.iload 5, 2) := by decide +kernel
theorem dX12_fold_203 : decode cX12_fold 203 = .ok (.imul, 1) := by decide +kernel
theorem dX12_fold_204 : decode cX12_fold 204 = .ok (.iaload, 1) := by decide +kernel
theorem dX12_fold_205 : decode cX12_fold 205 = .ok (.aload_n 0, 1) := by decide +kernel
theorem dX12_fold_206 : decode cX12_fold 206 = .ok (.getfield 29, 3) := by decide +kernel
theorem dX12_fold_209 : decode cX12_fold 209 = .ok (.iconst 4, 1) := by decide +kernel
theorem dX12_fold_210 : decode cX12_fold 210 = .ok (.iload 5, 2) := by decide +kernel
theorem dX12_fold_212 : decode cX12_fold 212 = .ok (.imul, 1) := by decide +kernel
theorem dX12_fold_213 : decode cX12_fold 213 = .ok (.iconst 1, 1) := by decide +kernel
theorem dX12_fold_214 : decode cX12_fold 214 = .ok (.iadd, 1) := by decide +kernel
theorem dX12_fold_215 : decode cX12_fold 215 = .ok (.iaload, 1) := by decide +kernel
theorem dX12_fold_216 : decode cX12_fold 216 = .ok (.invokestatic 466, 3) := by decide +kernel
theorem dX12_fold_219 : decode cX12_fold 219 = .ok (.istore 8, 2) := by decide +kernel
theorem dX12_fold_221 : decode cX12_fold 221 = .ok (.aload_n 0, 1) := by decide +kernel
theorem dX12_fold_222 : decode cX12_fold 222 = .ok (.getfield 13, 3) := by decide +kernel
theorem dX12_fold_225 : decode cX12_fold 225 = .ok (.iload 5, 2) := by decide +kernel
theorem dX12_fold_227 : decode cX12_fold 227 = .ok (.iconst 0, 1) := by decide +kernel
theorem dX12_fold_228 : decode cX12_fold 228 = .ok (.iastore, 1) := by decide +kernel
theorem dX12_fold_229 : decode cX12_fold 229 = .ok (.aload_n 0, 1) := by decide +kernel
theorem dX12_fold_230 : decode cX12_fold 230 = .ok (.iload 5, 2) := by decide +kernel
theorem dX12_fold_232 : decode cX12_fold 232 = .ok (.iconst 0, 1) := by decide +kernel
theorem dX12_fold_233 : decode cX12_fold 233 = .ok (.iconst 1, 1) := by decide +kernel
theorem dX12_fold_234 : decode cX12_fold 234 = .ok (.iload 8, 2) := by decide +kernel
theorem dX12_fold_236 : decode cX12_fold 236 = .ok (.invokevirtual 298, 3) := by decide +kernel
theorem dX12_fold_239 : decode cX12_fold 239 = .ok (.aload_n 0, 1) := by decide +kernel
theorem dX12_fold_240 : decode cX12_fold 240 = .ok (.iload 5, 2) := by decide +kernel
theorem dX12_fold_242 : decode cX12_fold 242 = .ok (.iconst 1, 1) := by decide +kernel
theorem dX12_fold_243 : decode cX12_fold 243 = .ok (.iconst 0, 1) := by decide +kernel
theorem dX12_fold_244 : decode cX12_fold 244 = .ok (.iconst 0, 1) := by decide +kernel
theorem dX12_fold_245 : decode cX12_fold 245 = .ok (.invokevirtual 298, 3) := by decide +kernel
theorem dX12_fold_248 : decode cX12_fold 248 = .ok (.iconst 1, 1) := by decide +kernel
theorem dX12_fold_249 : decode cX12_fold 249 = .ok (.istore 7, 2) := by decide +kernel
set_option maxHeartbeats 1000000 in
set_option maxRecDepth 20000 in
theorem b_fold127 (d : Nat) {b : Nat} {σ0 : MS} {r : Int} {F : Int} {k : Int} {ρ : MS} {post : Option Value → MS → Prop} (hr : 0 ≤ r ∧ r < 6) (hR0 : RG σ0) (hpar : PAR σ0) (hk : 0 ≤ k ∧ k < 220) (hx_355 : ∀ (w : Int) (gs : Int) (t : Int) (σ : MS) , (Fr [] [3, 4, 5, 6, 7, 8, 60, 61] [] σ0 σ) → (RG σ) → (0 ≤ w ∧ w ≤ k + 1) → (0 ≤ t ∧ t ≤ k + 1) → (FLP ρ σ r F (k + 1) t) → (KNW σ) → Tm (d + 5) m_X12_fold 355 b σ [(6, .int (iI gs)), (5, .int (iI (220 * r + k))), (4, .int (iI k)), (3, .int (iI t)), (2, .int (iI w)), (0, .ref b), (1, .int (iI r))] [] post) : ∀ (n : Nat) (w : Int) (gs : Int) (t : Int) (σ : MS) , (Fr [] [3, 4, 5, 6, 7, 8, 60, 61] [] σ0 σ) → (RG σ) → (0 ≤ t ∧ t ≤ k ∧ gs = 0 ∧ 0 ≤ w ∧ w ≤ k) → (FWK ρ σ r F k t) → (KNW σ) → ((0 : Int)).toNat = n → Tm (d + 5) m_X12_fold 127 b σ [(6, .int (iI gs)), (5, .int (iI (220 * r + k))), (4, .int (iI k)), (3, .int (iI t)), (2, .int (iI w)), (0, .ref b), (1, .int (iI r))] [] post := by
  intro n
  induction n using Nat.strongRecOn with
  | _ n ih =>
    intro w gs t σ hF hR h0 hw hkn hm
    have hok := hw.ok
    have hok1 := hok.1
    refine tm_aload_n dX12_fold_127 rfl 5 rfl ?_
    refine tm_get (k := 3) (v := .ref (b + 1 + 1)) lay_12 dX12_fold_128 (by decide) fl12_13 rfl ?_
    refine tm_iload dX12_fold_131 1 rfl ?_
    refine tm_iald (z := 220 * r + k) (v := σ.2.1 3 (220 * r + k)) dX12_fold_133 (show mT[1]? = some (3, 0, 2860) from rfl) (by omega) (by omega) (by decide) (rfl) ?_
    have g1 := RG.a hR 3 (220 * r + k)
    refine tm_callS (M := m_X12_fold) (pc := 134) (ix := 401) (M' := m_X12_isAct) (As := [.int (iI (σ.2.1 3 (220 * r + k)))]) (rest := []) dX12_fold_134 ok_X12_isAct stt_X12_isAct ml12_401 np_X12_isAct rfl (Nat.le_of_ble_eq_true rfl) (Nat.le_of_ble_eq_true rfl) rfl (c_X12_isAct (d + 3) (σ := σ) (x := σ.2.1 3 (220 * r + k)) (by omega)) (fun r2 σ3 hp => ?_)
    obtain ⟨v4, rfl, rfl, f5, f6⟩ := hp
    show Tm _ _ 137 b σ [(6, .int (iI gs)), (5, .int (iI (220 * r + k))), (4, .int (iI k)), (3, .int (iI t)), (2, .int (iI w)), (0, .ref b), (1, .int (iI r))] [.int (iI v4)] _
    refine tm_if_eq (tgt := 335) dX12_fold_137 (by decide) ⟨by omega, by omega⟩ (fun h7 => ?_) (fun h7 => ?_)
    · refine tm_sub [0, 1, 2, 3, 4, 5, 6] rfl (b_fold335 (d + 3) (σ0 := σ) (r := r) (k := k) (w := w) (gs := gs) (F := F) (ρ := ρ) hr (by omega) (by omega) (fun t15 σ16 F10 R11 f12 f13 f14 => ?_) _ (t) σ Fr.rfl hR (by omega) hw hkn rfl)
      show Tm _ _ 355 b σ16 [(6, .int (iI gs)), (5, .int (iI (220 * r + k))), (4, .int (iI k)), (3, .int (iI t15)), (2, .int (iI w)), (0, .ref b), (1, .int (iI r))] [] _
      exact tm_sub [0, 1, 2, 3, 4, 5, 6] rfl (hx_355 (w) (gs) (t15) σ16 ((Fr.rfl.trans (Fr.sub hF (by decide) (by decide) (by decide))).trans (Fr.sub F10 (by decide) (by decide) (by decide))) R11 (by omega) (by omega) f13 f14)
    · refine tm_aload_n dX12_fold_140 rfl 5 rfl ?_
      refine tm_iload dX12_fold_141 1 rfl ?_
      refine tm_callV (M := m_X12_fold) (pc := 143) (ix := 463) (M' := m_X12_putsIn) (As := [.int (iI (220 * r + k))]) (rest := []) dX12_fold_143 ok_X12_putsIn im_X12_putsIn se_X12_putsIn ml12_463 np_X12_putsIn rfl rfl (Nat.le_of_ble_eq_true rfl) (Nat.le_of_ble_eq_true rfl) rfl (c_X12_putsIn (d) (σ := σ) (x := 220 * r + k) (F := F) (by omega) hR (hpar.fr hF (by decide)) hkn (by omega) hok) (fun r17 σ18 hp => ?_)
      obtain ⟨v19, rfl, f20, f21, f22, f23, f24⟩ := hp
      show Tm _ _ 146 b σ18 [(6, .int (iI gs)), (5, .int (iI (220 * r + k))), (4, .int (iI k)), (3, .int (iI t)), (2, .int (iI w)), (0, .ref b), (1, .int (iI r))] [.int (iI v19)] _
      have hw1 := hw.puts (by omega) f24 f21 f23
      have hkn1 := hkn.fr f21 (by decide)
      have e3p : σ18.2.1 3 = σ.2.1 3 := f21.2.1 3 (by decide)
      have hq8 := hw1.ok.2.2.2.2.2.2.2.1 0 (by decide) (by decide)
      have hq1 := hw1.ok.2.2.2.2.2.2.2.1 1 (by decide) (by decide)
      rw [Int.add_zero] at hq8
      refine tm_istore (L' := [(7, .int (iI v19)), (6, .int (iI gs)), (5, .int (iI (220 * r + k))), (4, .int (iI k)), (3, .int (iI t)), (2, .int (iI w)), (0, .ref b), (1, .int (iI r))]) dX12_fold_146 (by decide) rfl ?_
      refine tm_aload_n dX12_fold_148 rfl 6 rfl ?_
      refine tm_get (k := 3) (v := .ref (b + 1 + 1)) lay_12 dX12_fold_149 (by decide) fl12_13 rfl ?_
      refine tm_iload dX12_fold_152 2 rfl ?_
      refine tm_iald (z := 220 * r + k) (v := σ.2.1 3 (220 * r + k)) dX12_fold_154 (show mT[1]? = some (3, 0, 2860) from rfl) (by omega) (by omega) (by decide) (ra_F f21 (by decide) (rfl)) ?_
      have g25 := RG.a hR 3 (220 * r + k)
      refine tm_callS (M := m_X12_fold) (pc := 155) (ix := 196) (M' := m_X12_isFive) (As := [.int (iI (σ.2.1 3 (220 * r + k)))]) (rest := []) dX12_fold_155 ok_X12_isFive stt_X12_isFive ml12_196 np_X12_isFive rfl (Nat.le_of_ble_eq_true rfl) (Nat.le_of_ble_eq_true rfl) rfl (c_X12_isFive (d + 2) (σ := σ18) (x := σ.2.1 3 (220 * r + k)) (by omega)) (fun r26 σ27 hp => ?_)
      obtain ⟨v28, rfl, rfl, f29, f30⟩ := hp
      show Tm _ _ 158 b σ18 [(7, .int (iI v19)), (6, .int (iI gs)), (5, .int (iI (220 * r + k))), (4, .int (iI k)), (3, .int (iI t)), (2, .int (iI w)), (0, .ref b), (1, .int (iI r))] [.int (iI v28)] _
      refine tm_if_eq (tgt := 251) dX12_fold_158 (by decide) ⟨by omega, by omega⟩ (fun h31 => ?_) (fun h31 => ?_)
      · refine tm_sub [0, 1, 2, 3, 4, 5, 6, 7] rfl (b_fold251 (d + 2) (σ0 := σ18) (r := r) (k := k) (F := F) (ρ := ρ) hr f22 (by omega) (fun ce43 w44 gs45 t46 σ47 F37 R38 f39 f40 f41 f42 => ?_) _ (v19) (w) (gs) (t) σ18 Fr.rfl f22 (by omega) hw1 hkn1 rfl)
        show Tm _ _ 355 b σ47 [(6, .int (iI gs45)), (5, .int (iI (220 * r + k))), (4, .int (iI k)), (3, .int (iI t46)), (2, .int (iI w44)), (0, .ref b), (1, .int (iI r))] [] _
        exact tm_sub [0, 1, 2, 3, 4, 5, 6] rfl (hx_355 (w44) (gs45) (t46) σ47 (((Fr.rfl.trans (Fr.sub hF (by decide) (by decide) (by decide))).trans (Fr.sub f21 (by decide) (by decide) (by decide))).trans (Fr.sub F37 (by decide) (by decide) (by decide))) R38 (by omega) (by omega) f41 f42)
      · refine tm_aload_n dX12_fold_161 rfl 6 rfl ?_
        refine tm_get (k := 7) (v := .ref (b + 1 + 5)) lay_12 dX12_fold_162 (by decide) fl12_26 rfl ?_
        refine tm_iconst dX12_fold_165 ?_
        refine tm_iload dX12_fold_166 2 rfl ?_
        refine tm_imul dX12_fold_168 ?_
        refine tm_iald (z := 4 * (220 * r + k)) (v := σ18.2.1 7 (4 * (220 * r + k))) dX12_fold_169 (show mT[5]? = some (7, 0, 11440) from rfl) (by omega) (by omega) (by decide) (rfl) ?_
        have g48 := RG.a f22 7 (4 * (220 * r + k))
        refine tm_iconst dX12_fold_170 ?_
        refine tm_icmp_ne (tgt := 251) dX12_fold_171 (by decide) ⟨by omega, by omega⟩ ⟨by decide, by decide⟩ (fun h49 => ?_) (fun h49 => ?_)
        · refine tm_sub [0, 1, 2, 3, 4, 5, 6, 7] rfl (b_fold251 (d + 2) (σ0 := σ18) (r := r) (k := k) (F := F) (ρ := ρ) hr f22 (by omega) (fun ce61 w62 gs63 t64 σ65 F55 R56 f57 f58 f59 f60 => ?_) _ (v19) (w) (gs) (t) σ18 Fr.rfl f22 (by omega) hw1 hkn1 rfl)
          show Tm _ _ 355 b σ65 [(6, .int (iI gs63)), (5, .int (iI (220 * r + k))), (4, .int (iI k)), (3, .int (iI t64)), (2, .int (iI w62)), (0, .ref b), (1, .int (iI r))] [] _
          exact tm_sub [0, 1, 2, 3, 4, 5, 6] rfl (hx_355 (w62) (gs63) (t64) σ65 (((Fr.rfl.trans (Fr.sub hF (by decide) (by decide) (by decide))).trans (Fr.sub f21 (by decide) (by decide) (by decide))).trans (Fr.sub F55 (by decide) (by decide) (by decide))) R56 (by omega) (by omega) f59 f60)
        · refine tm_aload_n dX12_fold_174 rfl 6 rfl ?_
          refine tm_get (k := 7) (v := .ref (b + 1 + 5)) lay_12 dX12_fold_175 (by decide) fl12_26 rfl ?_
          refine tm_iconst dX12_fold_178 ?_
          refine tm_iload dX12_fold_179 2 rfl ?_
          refine tm_imul dX12_fold_181 ?_
          refine tm_iconst dX12_fold_182 ?_
          refine tm_iadd dX12_fold_183 ?_
          refine tm_iald (z := (4 * (220 * r + k)) + 1) (v := σ18.2.1 7 ((4 * (220 * r + k)) + 1)) dX12_fold_184 (show mT[5]? = some (7, 0, 11440) from rfl) (by omega) (by omega) (by decide) (rfl) ?_
          have g66 := RG.a f22 7 ((4 * (220 * r + k)) + 1)
          refine tm_iconst dX12_fold_185 ?_
          refine tm_icmp_ne (tgt := 251) dX12_fold_186 (by decide) ⟨by omega, by omega⟩ ⟨by decide, by decide⟩ (fun h67 => ?_) (fun h67 => ?_)
          · refine tm_sub [0, 1, 2, 3, 4, 5, 6, 7] rfl (b_fold251 (d + 2) (σ0 := σ18) (r := r) (k := k) (F := F) (ρ := ρ) hr f22 (by omega) (fun ce79 w80 gs81 t82 σ83 F73 R74 f75 f76 f77 f78 => ?_) _ (v19) (w) (gs) (t) σ18 Fr.rfl f22 (by omega) hw1 hkn1 rfl)
            show Tm _ _ 355 b σ83 [(6, .int (iI gs81)), (5, .int (iI (220 * r + k))), (4, .int (iI k)), (3, .int (iI t82)), (2, .int (iI w80)), (0, .ref b), (1, .int (iI r))] [] _
            exact tm_sub [0, 1, 2, 3, 4, 5, 6] rfl (hx_355 (w80) (gs81) (t82) σ83 (((Fr.rfl.trans (Fr.sub hF (by decide) (by decide) (by decide))).trans (Fr.sub f21 (by decide) (by decide) (by decide))).trans (Fr.sub F73 (by decide) (by decide) (by decide))) R74 (by omega) (by omega) f77 f78)
          · refine tm_aload_n dX12_fold_189 rfl 6 rfl ?_
            refine tm_get (k := 3) (v := .ref (b + 1 + 1)) lay_12 dX12_fold_190 (by decide) fl12_13 rfl ?_
            refine tm_iload dX12_fold_193 2 rfl ?_
            refine tm_iald (z := 220 * r + k) (v := σ.2.1 3 (220 * r + k)) dX12_fold_195 (show mT[1]? = some (3, 0, 2860) from rfl) (by omega) (by omega) (by decide) (ra_F f21 (by decide) (rfl)) ?_
            have g84 := RG.a hR 3 (220 * r + k)
            refine tm_aload_n dX12_fold_196 rfl 6 rfl ?_
            refine tm_get (k := 8) (v := .ref (b + 1 + 6)) lay_12 dX12_fold_197 (by decide) fl12_29 rfl ?_
            refine tm_iconst dX12_fold_200 ?_
            refine tm_iload dX12_fold_201 2 rfl ?_
            refine tm_imul dX12_fold_203 ?_
            refine tm_iald (z := 4 * (220 * r + k)) (v := σ18.2.1 8 (4 * (220 * r + k))) dX12_fold_204 (show mT[6]? = some (8, 0, 11440) from rfl) (by omega) (by omega) (by decide) (rfl) ?_
            have g85 := RG.a f22 8 (4 * (220 * r + k))
            refine tm_aload_n dX12_fold_205 rfl 6 rfl ?_
            refine tm_get (k := 8) (v := .ref (b + 1 + 6)) lay_12 dX12_fold_206 (by decide) fl12_29 rfl ?_
            refine tm_iconst dX12_fold_209 ?_
            refine tm_iload dX12_fold_210 2 rfl ?_
            refine tm_imul dX12_fold_212 ?_
            refine tm_iconst dX12_fold_213 ?_
            refine tm_iadd dX12_fold_214 ?_
            refine tm_iald (z := (4 * (220 * r + k)) + 1) (v := σ18.2.1 8 ((4 * (220 * r + k)) + 1)) dX12_fold_215 (show mT[6]? = some (8, 0, 11440) from rfl) (by omega) (by omega) (by decide) (rfl) ?_
            have g86 := RG.a f22 8 ((4 * (220 * r + k)) + 1)
            refine tm_callS (M := m_X12_fold) (pc := 216) (ix := 466) (M' := m_X12_worked) (As := [.int (iI (σ.2.1 3 (220 * r + k))), .int (iI (σ18.2.1 8 (4 * (220 * r + k)))), .int (iI (σ18.2.1 8 ((4 * (220 * r + k)) + 1)))]) (rest := []) dX12_fold_216 ok_X12_worked stt_X12_worked ml12_466 np_X12_worked rfl (Nat.le_of_ble_eq_true rfl) (Nat.le_of_ble_eq_true rfl) rfl (c_X12_worked (d + 3) (σ := σ18) (k := σ.2.1 3 (220 * r + k)) (x := σ18.2.1 8 (4 * (220 * r + k))) (y := σ18.2.1 8 ((4 * (220 * r + k)) + 1)) (by omega) (by omega) (by omega)) (fun r87 σ88 hp => ?_)
            obtain ⟨v89, rfl, rfl, f90⟩ := hp
            show Tm _ _ 219 b σ18 [(7, .int (iI v19)), (6, .int (iI gs)), (5, .int (iI (220 * r + k))), (4, .int (iI k)), (3, .int (iI t)), (2, .int (iI w)), (0, .ref b), (1, .int (iI r))] [.int (iI v89)] _
            refine tm_istore (L' := [(8, .int (iI v89)), (7, .int (iI v19)), (6, .int (iI gs)), (5, .int (iI (220 * r + k))), (4, .int (iI k)), (3, .int (iI t)), (2, .int (iI w)), (0, .ref b), (1, .int (iI r))]) dX12_fold_219 (by decide) rfl ?_
            refine tm_aload_n dX12_fold_221 rfl 7 rfl ?_
            refine tm_get (k := 3) (v := .ref (b + 1 + 1)) lay_12 dX12_fold_222 (by decide) fl12_13 rfl ?_
            refine tm_iload dX12_fold_225 3 rfl ?_
            refine tm_iconst dX12_fold_227 ?_
            refine tm_iast (z := 220 * r + k) (v := 0) dX12_fold_228 (show mT[1]? = some (3, 0, 2860) from rfl) (by omega) (by omega) (by decide) ?_
            refine tm_aload_n dX12_fold_229 rfl 7 rfl ?_
            refine tm_iload dX12_fold_230 3 rfl ?_
            refine tm_iconst dX12_fold_232 ?_
            refine tm_iconst dX12_fold_233 ?_
            refine tm_iload dX12_fold_234 0 rfl ?_
            refine tm_callV (M := m_X12_fold) (pc := 236) (ix := 298) (M' := m_X12_setArg) (As := [.int (iI (220 * r + k)), .int (iI 0), .int (iI 1), .int (iI v89)]) (rest := []) dX12_fold_236 ok_X12_setArg im_X12_setArg se_X12_setArg ml12_298 np_X12_setArg rfl rfl (Nat.le_of_ble_eq_true rfl) (Nat.le_of_ble_eq_true rfl) rfl (c_X12_setArg (d + 3) (σ := (sA 3 (220 * r + k) (0) σ18)) (x := 220 * r + k) (i := 0) (k := 1) (w := v89) (by omega)) (fun r91 σ92 hp => ?_)
            obtain ⟨rfl, f94⟩ := hp
            subst f94
            show Tm _ _ 239 b (fArg (220 * r + k) (0) (1) (v89) (sA 3 (220 * r + k) (0) σ18)) [(8, .int (iI v89)), (7, .int (iI v19)), (6, .int (iI gs)), (5, .int (iI (220 * r + k))), (4, .int (iI k)), (3, .int (iI t)), (2, .int (iI w)), (0, .ref b), (1, .int (iI r))] [] _
            refine tm_aload_n dX12_fold_239 rfl 7 rfl ?_
            refine tm_iload dX12_fold_240 3 rfl ?_
            refine tm_iconst dX12_fold_242 ?_
            refine tm_iconst dX12_fold_243 ?_
            refine tm_iconst dX12_fold_244 ?_
            refine tm_callV (M := m_X12_fold) (pc := 245) (ix := 298) (M' := m_X12_setArg) (As := [.int (iI (220 * r + k)), .int (iI 1), .int (iI 0), .int (iI 0)]) (rest := []) dX12_fold_245 ok_X12_setArg im_X12_setArg se_X12_setArg ml12_298 np_X12_setArg rfl rfl (Nat.le_of_ble_eq_true rfl) (Nat.le_of_ble_eq_true rfl) rfl (c_X12_setArg (d + 3) (σ := (fArg (220 * r + k) (0) (1) (v89) (sA 3 (220 * r + k) (0) σ18))) (x := 220 * r + k) (i := 1) (k := 0) (w := 0) (by omega)) (fun r95 σ96 hp => ?_)
            obtain ⟨rfl, f98⟩ := hp
            subst f98
            show Tm _ _ 248 b (fArg (220 * r + k) (1) (0) (0) (fArg (220 * r + k) (0) (1) (v89) (sA 3 (220 * r + k) (0) σ18))) [(8, .int (iI v89)), (7, .int (iI v19)), (6, .int (iI gs)), (5, .int (iI (220 * r + k))), (4, .int (iI k)), (3, .int (iI t)), (2, .int (iI w)), (0, .ref b), (1, .int (iI r))] [] _
            refine tm_iconst dX12_fold_248 ?_
            refine tm_istore (L' := [(7, .int (iI 1)), (8, .int (iI v89)), (6, .int (iI gs)), (5, .int (iI (220 * r + k))), (4, .int (iI k)), (3, .int (iI t)), (2, .int (iI w)), (0, .ref b), (1, .int (iI r))]) dX12_fold_249 (by decide) rfl ?_
            refine tm_sub [0, 2, 3, 4, 5, 6, 7, 8] rfl (b_fold251 (d + 2) (σ0 := (fArg (220 * r + k) (1) (0) (0) (fArg (220 * r + k) (0) (1) (v89) (sA 3 (220 * r + k) (0) σ18)))) (r := r) (k := k) (F := F) (ρ := ρ) hr (((f22.A (by omega)).arg (by omega) (by omega)).arg (by omega) (by omega)) (by omega) (fun ce110 w111 gs112 t113 σ114 F104 R105 f106 f107 f108 f109 => ?_) _ (1) (w) (gs) (t) (fArg (220 * r + k) (1) (0) (0) (fArg (220 * r + k) (0) (1) (v89) (sA 3 (220 * r + k) (0) σ18))) Fr.rfl (((f22.A (by omega)).arg (by omega) (by omega)).arg (by omega) (by omega)) (by omega) (hw1.cpy (by omega) (by rw [e3p]; omega)) (hkn1.fr (show Fr [] [3, 7, 8] [] _ (fCpy _ _ _ _) from Fr.trans (Fr.trans (Fr.A Fr.rfl (by decide)) (fArg_fr.sub (by decide) (by decide) (by decide))) (fArg_fr.sub (by decide) (by decide) (by decide))) (by decide)) rfl)
            show Tm _ _ 355 b σ114 [(6, .int (iI gs112)), (5, .int (iI (220 * r + k))), (4, .int (iI k)), (3, .int (iI t113)), (2, .int (iI w111)), (0, .ref b), (1, .int (iI r))] [] _
            exact tm_sub [0, 1, 2, 3, 4, 5, 6] rfl (hx_355 (w111) (gs112) (t113) σ114 ((((((Fr.rfl.trans (Fr.sub hF (by decide) (by decide) (by decide))).trans (Fr.sub f21 (by decide) (by decide) (by decide))).A (by decide)).trans (Fr.sub fArg_fr (by decide) (by decide) (by decide))).trans (Fr.sub fArg_fr (by decide) (by decide) (by decide))).trans (Fr.sub F104 (by decide) (by decide) (by decide))) R105 (by omega) (by omega) f108 f109)
theorem ml12_460 : Cond.methodLink RX12 460 yX12_forgetAll ∈ pWW := pw9 (List.mem_of_getElem? (i := 106) rfl) rfl
theorem dX12_fold_11 : decode cX12_fold 11 = .ok (.iload 4, 2) := by decide +kernel
theorem dX12_fold_13 : decode cX12_fold 13 = .ok (.aload_n 0, 1) := by decide +kernel
theorem dX12_fold_14 : decode cX12_fold 14 = .ok (.getfield 32, 3) := by decide +kernel
theorem dX12_fold_17 : decode cX12_fold 17 = .ok (.iload_n 1, 1) := by decide +kernel
theorem dX12_fold_18 : decode cX12_fold 18 = .ok (.iaload, 1) := by decide +kernel
theorem dX12_fold_19 : decode cX12_fold 19 = .ok (.if_icmp .ge 342, 3) := by decide +kernel
theorem dX12_fold_22 : decode cX12_fold 22 = .ok (.aload_n 0, 1) := by decide +kernel
theorem dX12_fold_23 : decode cX12_fold 23 = .ok (.iload_n 1, 1) := by decide +kernel
theorem dX12_fold_24 : decode cX12_fold 24 = .ok (.iload 4, 2) := by decide +kernel
theorem dX12_fold_26 : decode cX12_fold 26 = .ok (.invokevirtual 203, 3) := by decide +kernel
theorem dX12_fold_29 : decode cX12_fold 29 = .ok (.istore 5, 2) := by decide +kernel
theorem dX12_fold_31 : decode cX12_fold 31 = .ok (.iconst 0, 1) := by decide +kernel
theorem dX12_fold_32 : decode cX12_fold 32 = .ok (.istore 6, 2) := by decide +kernel
theorem dX12_fold_34 : decode cX12_fold 34 = .ok (.aload_n 0, 1) := by decide +kernel
theorem dX12_fold_35 : decode cX12_fold 35 = .ok (.getfield 13, 3) := by decide +kernel
theorem dX12_fold_38 : decode cX12_fold 38 = .ok (.iload 5, 2) := by decide +kernel
theorem dX12_fold_40 : decode cX12_fold 40 = .ok (.iaload, 1) := by decide +kernel
theorem dX12_fold_41 : decode cX12_fold 41 = .ok (.bipush 13, 2) := by decide +kernel
theorem dX12_fold_43 : decode cX12_fold 43 = .ok (.if_icmp .ne 10, 3) := by decide +kernel
theorem dX12_fold_53 : decode cX12_fold 53 = .ok (.aload_n 0, 1) := by decide +kernel
theorem dX12_fold_54 : decode cX12_fold 54 = .ok (.getfield 13, 3) := by decide +kernel
theorem dX12_fold_57 : decode cX12_fold 57 = .ok (.iload 5, 2) := by decide +kernel
theorem dX12_fold_59 : decode cX12_fold 59 = .ok (.iaload, 1) := by decide +kernel
theorem dX12_fold_60 : decode cX12_fold 60 = .ok (.bipush 12, 2) := by decide +kernel
theorem dX12_fold_62 : decode cX12_fold 62 = .ok (.if_icmp .ne 65, 3) := by decide +kernel
theorem dX12_fold_355 : decode cX12_fold 355 = .ok (.iinc 4 1, 3) := by decide +kernel
theorem dX12_fold_358 : decode cX12_fold 358 = .ok (.goto (-347), 3) := by decide +kernel
theorem dX12_fold_65 : decode cX12_fold 65 = .ok (.aload_n 0, 1) := by decide +kernel
theorem dX12_fold_66 : decode cX12_fold 66 = .ok (.getfield 23, 3) := by decide +kernel
theorem dX12_fold_69 : decode cX12_fold 69 = .ok (.iload 5, 2) := by decide +kernel
theorem dX12_fold_71 : decode cX12_fold 71 = .ok (.iaload, 1) := by decide +kernel
theorem dX12_fold_72 : decode cX12_fold 72 = .ok (.iconst 2, 1) := by decide +kernel
theorem dX12_fold_73 : decode cX12_fold 73 = .ok (.if_icmp .ne 54, 3) := by decide +kernel
theorem dX12_fold_76 : decode cX12_fold 76 = .ok (.aload_n 0, 1) := by decide +kernel
theorem dX12_fold_77 : decode cX12_fold 77 = .ok (.getfield 133, 3) := by decide +kernel
theorem dX12_fold_80 : decode cX12_fold 80 = .ok (.aload_n 0, 1) := by decide +kernel
theorem dX12_fold_81 : decode cX12_fold 81 = .ok (.getfield 29, 3) := by decide +kernel
theorem dX12_fold_84 : decode cX12_fold 84 = .ok (.iconst 4, 1) := by decide +kernel
theorem dX12_fold_85 : decode cX12_fold 85 = .ok (.iload 5, 2) := by decide +kernel
theorem dX12_fold_87 : decode cX12_fold 87 = .ok (.imul, 1) := by decide +kernel
theorem dX12_fold_88 : decode cX12_fold 88 = .ok (.iaload, 1) := by decide +kernel
theorem dX12_fold_89 : decode cX12_fold 89 = .ok (.iaload, 1) := by decide +kernel
theorem dX12_fold_90 : decode cX12_fold 90 = .ok (.iconst 1, 1) := by decide +kernel
theorem dX12_fold_91 : decode cX12_fold 91 = .ok (.if_icmp .ne 36, 3) := by decide +kernel
theorem dX12_fold_94 : decode cX12_fold 94 = .ok (.aload_n 0, 1) := by decide +kernel
theorem dX12_fold_95 : decode cX12_fold 95 = .ok (.getfield 23, 3) := by decide +kernel
theorem dX12_fold_98 : decode cX12_fold 98 = .ok (.iload 5, 2) := by decide +kernel
theorem dX12_fold_100 : decode cX12_fold 100 = .ok (.iconst 1, 1) := by decide +kernel
theorem dX12_fold_101 : decode cX12_fold 101 = .ok (.iastore, 1) := by decide +kernel
theorem dX12_fold_102 : decode cX12_fold 102 = .ok (.aload_n 0, 1) := by decide +kernel
theorem dX12_fold_103 : decode cX12_fold 103 = .ok (.iload 5, 2) := by decide +kernel
theorem dX12_fold_105 : decode cX12_fold 105 = .ok (.iconst 0, 1) := by decide +kernel
theorem dX12_fold_106 : decode cX12_fold 106 = .ok (.iconst 1, 1) := by decide +kernel
theorem dX12_fold_107 : decode cX12_fold 107 = .ok (.aload_n 0, 1) := by decide +kernel
theorem dX12_fold_108 : decode cX12_fold 108 = .ok (.getfield 136, 3) := by decide +kernel
theorem dX12_fold_111 : decode cX12_fold 111 = .ok (.aload_n 0, 1) := by decide +kernel
theorem dX12_fold_112 : decode cX12_fold 112 = .ok (.getfield 29, 3) := by decide +kernel
theorem dX12_fold_115 : decode cX12_fold 115 = .ok (.iconst 4, 1) := by decide +kernel
theorem dX12_fold_116 : decode cX12_fold 116 = .ok (.iload 5, 2) := by decide +kernel
theorem dX12_fold_118 : decode cX12_fold 118 = .ok (.imul, 1) := by decide +kernel
theorem dX12_fold_119 : decode cX12_fold 119 = .ok (.iaload, 1) := by decide +kernel
theorem dX12_fold_120 : decode cX12_fold 120 = .ok (.iaload, 1) := by decide +kernel
theorem dX12_fold_121 : decode cX12_fold 121 = .ok (.invokevirtual 298, 3) := by decide +kernel
theorem dX12_fold_124 : decode cX12_fold 124 = .ok (.goto 211, 3) := by decide +kernel
theorem dX12_fold_46 : decode cX12_fold 46 = .ok (.aload_n 0, 1) := by decide +kernel
theorem dX12_fold_47 : decode cX12_fold 47 = .ok (.invokevirtual 460, 3) := by decide +kernel
theorem dX12_fold_50 : decode cX12_fold 50 = .ok (.goto 285, 3) := by decide +kernel
set_option maxHeartbeats 1000000 in
set_option maxRecDepth 20000 in
theorem l_fold (d : Nat) {b : Nat} {σ0 : MS} {r : Int} {F : Int} {post : Option Value → MS → Prop} (hr : 0 ≤ r ∧ r < 6) (hR0 : RG σ0) (hit : ITM σ0) (hpar : PAR σ0) (hok : OKS σ0 F r) (hx_361 : ∀ (w : Int) (t : Int) (k : Int) (σ : MS) , (Fr [] [3, 4, 5, 6, 7, 8, 60, 61] [] σ0 σ) → (RG σ) → (0 ≤ t ∧ t ≤ σ0.2.1 9 r ∧ 0 ≤ w ∧ w ≤ 220) → (FLP σ0 σ r F (σ0.2.1 9 r) t) → (KNW σ) → Tm (d + 6) m_X12_fold 361 b σ [(4, .int (iI k)), (3, .int (iI t)), (2, .int (iI w)), (0, .ref b), (1, .int (iI r))] [] post) : ∀ (n : Nat) (w : Int) (t : Int) (k : Int) (σ : MS) , (Fr [] [3, 4, 5, 6, 7, 8, 60, 61] [] σ0 σ) → (RG σ) → (0 ≤ t ∧ t ≤ k ∧ k ≤ σ0.2.1 9 r ∧ 0 ≤ w ∧ w ≤ k) → (FLP σ0 σ r F k t) → (KNW σ) → (220 - k).toNat = n → Tm (d + 6) m_X12_fold 11 b σ [(4, .int (iI k)), (3, .int (iI t)), (2, .int (iI w)), (0, .ref b), (1, .int (iI r))] [] post := by
  intro n
  induction n using Nat.strongRecOn with
  | _ n ih =>
    intro w t k σ hF hR h0 hlp hkn hm
    have q1 := hit r (by omega) (by omega)
    have q9 : σ.2.1 9 r = σ0.2.1 9 r := by rw [hF.2.1 9 (by decide)]
    refine tm_iload dX12_fold_11 0 rfl ?_
    refine tm_aload_n dX12_fold_13 rfl 3 rfl ?_
    refine tm_get (k := 9) (v := .ref (b + 1 + 7)) lay_12 dX12_fold_14 (by decide) fl12_32 rfl ?_
    refine tm_iload_n dX12_fold_17 rfl 4 rfl ?_
    refine tm_iald (z := r) (v := σ0.2.1 9 r) dX12_fold_18 (show mT[7]? = some (9, 0, 13) from rfl) (by omega) (by omega) (by decide) (ra_F hF (by decide) (rfl)) ?_
    have g1 := RG.a hR0 9 (r)
    refine tm_icmp_ge (tgt := 361) dX12_fold_19 (by decide) ⟨by omega, by omega⟩ ⟨by omega, by omega⟩ (fun h2 => ?_) (fun h2 => ?_)
    · exact tm_sub [0, 1, 2, 3, 4] rfl (hx_361 (w) (t) (k) σ (Fr.rfl.trans (Fr.sub hF (by decide) (by decide) (by decide))) hR (by omega) (by rw [show σ0.2.1 9 r = k by omega]; exact hlp) hkn)
    · have hw := hlp.wk (by omega) (hok k (by omega) (by omega))
      have hok1 := hw.ok.1
      have ho8 := hw.ok.2.2.2.2.2.2.2.1 0 (by decide) (by decide)
      have ho9 := hw.ok.2.2.2.2.2.2.2.2
      rw [Int.add_zero] at ho8 ho9
      refine tm_aload_n dX12_fold_22 rfl 3 rfl ?_
      refine tm_iload_n dX12_fold_23 rfl 4 rfl ?_
      refine tm_iload dX12_fold_24 0 rfl ?_
      refine tm_callV (M := m_X12_fold) (pc := 26) (ix := 203) (M' := m_X12_at) (As := [.int (iI r), .int (iI k)]) (rest := []) dX12_fold_26 ok_X12_at im_X12_at se_X12_at ml12_203 np_X12_at rfl rfl (Nat.le_of_ble_eq_true rfl) (Nat.le_of_ble_eq_true rfl) rfl (c_X12_at (d + 4) (σ := σ) (x := r) (k := k) ) (fun r3 σ4 hp => ?_)
      obtain ⟨v5, rfl, rfl, f6⟩ := hp
      subst f6
      show Tm _ _ 29 b σ [(4, .int (iI k)), (3, .int (iI t)), (2, .int (iI w)), (0, .ref b), (1, .int (iI r))] [.int (iI (220 * r + k))] _
      refine tm_istore (L' := [(5, .int (iI (220 * r + k))), (4, .int (iI k)), (3, .int (iI t)), (2, .int (iI w)), (0, .ref b), (1, .int (iI r))]) dX12_fold_29 (by decide) rfl ?_
      refine tm_iconst dX12_fold_31 ?_
      refine tm_istore (L' := [(6, .int (iI 0)), (5, .int (iI (220 * r + k))), (4, .int (iI k)), (3, .int (iI t)), (2, .int (iI w)), (0, .ref b), (1, .int (iI r))]) dX12_fold_32 (by decide) rfl ?_
      refine tm_aload_n dX12_fold_34 rfl 5 rfl ?_
      refine tm_get (k := 3) (v := .ref (b + 1 + 1)) lay_12 dX12_fold_35 (by decide) fl12_13 rfl ?_
      refine tm_iload dX12_fold_38 1 rfl ?_
      refine tm_iald (z := 220 * r + k) (v := σ.2.1 3 (220 * r + k)) dX12_fold_40 (show mT[1]? = some (3, 0, 2860) from rfl) (by omega) (by omega) (by decide) (rfl) ?_
      have g7 := RG.a hR 3 (220 * r + k)
      refine tm_bipush dX12_fold_41 (by decide) ?_
      refine tm_icmp_ne (tgt := 53) dX12_fold_43 (by decide) ⟨by omega, by omega⟩ ⟨by decide, by decide⟩ (fun h8 => ?_) (fun h8 => ?_)
      · refine tm_aload_n dX12_fold_53 rfl 5 rfl ?_
        refine tm_get (k := 3) (v := .ref (b + 1 + 1)) lay_12 dX12_fold_54 (by decide) fl12_13 rfl ?_
        refine tm_iload dX12_fold_57 1 rfl ?_
        refine tm_iald (z := 220 * r + k) (v := σ.2.1 3 (220 * r + k)) dX12_fold_59 (show mT[1]? = some (3, 0, 2860) from rfl) (by omega) (by omega) (by decide) (rfl) ?_
        have g9 := RG.a hR 3 (220 * r + k)
        refine tm_bipush dX12_fold_60 (by decide) ?_
        refine tm_icmp_ne (tgt := 127) dX12_fold_62 (by decide) ⟨by omega, by omega⟩ ⟨by decide, by decide⟩ (fun h10 => ?_) (fun h10 => ?_)
        · refine tm_sub [0, 1, 2, 3, 4, 5, 6] rfl (b_fold127 (d + 1) (σ0 := σ) (r := r) (k := k) (F := F) (ρ := σ0) hr hR (hpar.fr hF (by decide)) (by omega) (fun w21 gs22 t23 σ24 F15 R16 f17 f18 f19 f20 => ?_) _ (w) (0) (t) σ Fr.rfl hR (by omega) hw hkn rfl)
          show Tm _ _ 355 b σ24 [(6, .int (iI gs22)), (5, .int (iI (220 * r + k))), (4, .int (iI k)), (3, .int (iI t23)), (2, .int (iI w21)), (0, .ref b), (1, .int (iI r))] [] _
          refine tm_iinc (q0 := 2) (L' := [(4, .int (iI (k + 1))), (6, .int (iI gs22)), (5, .int (iI (220 * r + k))), (3, .int (iI t23)), (2, .int (iI w21)), (0, .ref b), (1, .int (iI r))]) dX12_fold_355 rfl (by decide) rfl ?_
          refine tm_goto (tgt := 11) dX12_fold_358 (by decide) ?_
          exact tm_sub [0, 3, 4, 5, 6] rfl (ih _ (by omega) (w21) (t23) (k + 1) σ24 ((Fr.rfl.trans (Fr.sub hF (by decide) (by decide) (by decide))).trans (Fr.sub F15 (by decide) (by decide) (by decide))) R16 (by omega) f19 f20 rfl)
        · refine tm_aload_n dX12_fold_65 rfl 5 rfl ?_
          refine tm_get (k := 6) (v := .ref (b + 1 + 4)) lay_12 dX12_fold_66 (by decide) fl12_23 rfl ?_
          refine tm_iload dX12_fold_69 1 rfl ?_
          refine tm_iald (z := 220 * r + k) (v := σ.2.1 6 (220 * r + k)) dX12_fold_71 (show mT[4]? = some (6, 0, 2860) from rfl) (by omega) (by omega) (by decide) (rfl) ?_
          have g25 := RG.a hR 6 (220 * r + k)
          refine tm_iconst dX12_fold_72 ?_
          refine tm_icmp_ne (tgt := 127) dX12_fold_73 (by decide) ⟨by omega, by omega⟩ ⟨by decide, by decide⟩ (fun h26 => ?_) (fun h26 => ?_)
          · refine tm_sub [0, 1, 2, 3, 4, 5, 6] rfl (b_fold127 (d + 1) (σ0 := σ) (r := r) (k := k) (F := F) (ρ := σ0) hr hR (hpar.fr hF (by decide)) (by omega) (fun w37 gs38 t39 σ40 F31 R32 f33 f34 f35 f36 => ?_) _ (w) (0) (t) σ Fr.rfl hR (by omega) hw hkn rfl)
            show Tm _ _ 355 b σ40 [(6, .int (iI gs38)), (5, .int (iI (220 * r + k))), (4, .int (iI k)), (3, .int (iI t39)), (2, .int (iI w37)), (0, .ref b), (1, .int (iI r))] [] _
            refine tm_iinc (q0 := 2) (L' := [(4, .int (iI (k + 1))), (6, .int (iI gs38)), (5, .int (iI (220 * r + k))), (3, .int (iI t39)), (2, .int (iI w37)), (0, .ref b), (1, .int (iI r))]) dX12_fold_355 rfl (by decide) rfl ?_
            refine tm_goto (tgt := 11) dX12_fold_358 (by decide) ?_
            exact tm_sub [0, 3, 4, 5, 6] rfl (ih _ (by omega) (w37) (t39) (k + 1) σ40 ((Fr.rfl.trans (Fr.sub hF (by decide) (by decide) (by decide))).trans (Fr.sub F31 (by decide) (by decide) (by decide))) R32 (by omega) f35 f36 rfl)
          · have hkk := ho9 (by omega) (by omega)
            refine tm_aload_n dX12_fold_76 rfl 5 rfl ?_
            refine tm_get (k := 60) (v := .ref (b + 1 + 38)) lay_12 dX12_fold_77 (by decide) fl12_133 rfl ?_
            refine tm_aload_n dX12_fold_80 rfl 5 rfl ?_
            refine tm_get (k := 8) (v := .ref (b + 1 + 6)) lay_12 dX12_fold_81 (by decide) fl12_29 rfl ?_
            refine tm_iconst dX12_fold_84 ?_
            refine tm_iload dX12_fold_85 1 rfl ?_
            refine tm_imul dX12_fold_87 ?_
            refine tm_iald (z := 4 * (220 * r + k)) (v := σ.2.1 8 (4 * (220 * r + k))) dX12_fold_88 (show mT[6]? = some (8, 0, 11440) from rfl) (by omega) (by omega) (by decide) (rfl) ?_
            have g41 := RG.a hR 8 (4 * (220 * r + k))
            refine tm_iald (z := σ.2.1 8 (4 * (220 * r + k))) (v := σ.2.1 60 (σ.2.1 8 (4 * (220 * r + k)))) dX12_fold_89 (show mT[38]? = some (60, 0, 192) from rfl) (by omega) (by omega) (by decide) (rfl) ?_
            have g42 := RG.a hR 60 (σ.2.1 8 (4 * (220 * r + k)))
            have := hkn (σ.2.1 8 (4 * (220 * r + k)))
            refine tm_iconst dX12_fold_90 ?_
            refine tm_icmp_ne (tgt := 127) dX12_fold_91 (by decide) ⟨by omega, by omega⟩ ⟨by decide, by decide⟩ (fun h43 => ?_) (fun h43 => ?_)
            · refine tm_sub [0, 1, 2, 3, 4, 5, 6] rfl (b_fold127 (d + 1) (σ0 := σ) (r := r) (k := k) (F := F) (ρ := σ0) hr hR (hpar.fr hF (by decide)) (by omega) (fun w54 gs55 t56 σ57 F48 R49 f50 f51 f52 f53 => ?_) _ (w) (0) (t) σ Fr.rfl hR (by omega) hw hkn rfl)
              show Tm _ _ 355 b σ57 [(6, .int (iI gs55)), (5, .int (iI (220 * r + k))), (4, .int (iI k)), (3, .int (iI t56)), (2, .int (iI w54)), (0, .ref b), (1, .int (iI r))] [] _
              refine tm_iinc (q0 := 2) (L' := [(4, .int (iI (k + 1))), (6, .int (iI gs55)), (5, .int (iI (220 * r + k))), (3, .int (iI t56)), (2, .int (iI w54)), (0, .ref b), (1, .int (iI r))]) dX12_fold_355 rfl (by decide) rfl ?_
              refine tm_goto (tgt := 11) dX12_fold_358 (by decide) ?_
              exact tm_sub [0, 3, 4, 5, 6] rfl (ih _ (by omega) (w54) (t56) (k + 1) σ57 ((Fr.rfl.trans (Fr.sub hF (by decide) (by decide) (by decide))).trans (Fr.sub F48 (by decide) (by decide) (by decide))) R49 (by omega) f52 f53 rfl)
            · refine tm_aload_n dX12_fold_94 rfl 5 rfl ?_
              refine tm_get (k := 6) (v := .ref (b + 1 + 4)) lay_12 dX12_fold_95 (by decide) fl12_23 rfl ?_
              refine tm_iload dX12_fold_98 1 rfl ?_
              refine tm_iconst dX12_fold_100 ?_
              refine tm_iast (z := 220 * r + k) (v := 1) dX12_fold_101 (show mT[4]? = some (6, 0, 2860) from rfl) (by omega) (by omega) (by decide) ?_
              refine tm_aload_n dX12_fold_102 rfl 5 rfl ?_
              refine tm_iload dX12_fold_103 1 rfl ?_
              refine tm_iconst dX12_fold_105 ?_
              refine tm_iconst dX12_fold_106 ?_
              refine tm_aload_n dX12_fold_107 rfl 5 rfl ?_
              refine tm_get (k := 61) (v := .ref (b + 1 + 39)) lay_12 dX12_fold_108 (by decide) fl12_136 rfl ?_
              refine tm_aload_n dX12_fold_111 rfl 5 rfl ?_
              refine tm_get (k := 8) (v := .ref (b + 1 + 6)) lay_12 dX12_fold_112 (by decide) fl12_29 rfl ?_
              refine tm_iconst dX12_fold_115 ?_
              refine tm_iload dX12_fold_116 1 rfl ?_
              refine tm_imul dX12_fold_118 ?_
              refine tm_iald (z := 4 * (220 * r + k)) (v := σ.2.1 8 (4 * (220 * r + k))) dX12_fold_119 (show mT[6]? = some (8, 0, 11440) from rfl) (by omega) (by omega) (by decide) (ra_o (by decide) (rfl)) ?_
              have g58 := RG.a hR 8 (4 * (220 * r + k))
              refine tm_iald (z := σ.2.1 8 (4 * (220 * r + k))) (v := σ.2.1 61 (σ.2.1 8 (4 * (220 * r + k)))) dX12_fold_120 (show mT[39]? = some (61, 0, 192) from rfl) (by omega) (by omega) (by decide) (ra_o (by decide) (rfl)) ?_
              have g59 := RG.a hR 61 (σ.2.1 8 (4 * (220 * r + k)))
              refine tm_callV (M := m_X12_fold) (pc := 121) (ix := 298) (M' := m_X12_setArg) (As := [.int (iI (220 * r + k)), .int (iI 0), .int (iI 1), .int (iI (σ.2.1 61 (σ.2.1 8 (4 * (220 * r + k)))))]) (rest := []) dX12_fold_121 ok_X12_setArg im_X12_setArg se_X12_setArg ml12_298 np_X12_setArg rfl rfl (Nat.le_of_ble_eq_true rfl) (Nat.le_of_ble_eq_true rfl) rfl (c_X12_setArg (d + 4) (σ := (sA 6 (220 * r + k) (1) σ)) (x := 220 * r + k) (i := 0) (k := 1) (w := σ.2.1 61 (σ.2.1 8 (4 * (220 * r + k)))) (by omega)) (fun r60 σ61 hp => ?_)
              obtain ⟨rfl, f63⟩ := hp
              subst f63
              show Tm _ _ 124 b (fArg (220 * r + k) (0) (1) (σ.2.1 61 (σ.2.1 8 (4 * (220 * r + k)))) (sA 6 (220 * r + k) (1) σ)) [(6, .int (iI 0)), (5, .int (iI (220 * r + k))), (4, .int (iI k)), (3, .int (iI t)), (2, .int (iI w)), (0, .ref b), (1, .int (iI r))] [] _
              refine tm_goto (tgt := 335) dX12_fold_124 (by decide) ?_
              refine tm_sub [0, 1, 2, 3, 4, 5, 6] rfl (b_fold335 (d + 4) (σ0 := (fArg (220 * r + k) (0) (1) (σ.2.1 61 (σ.2.1 8 (4 * (220 * r + k)))) (sA 6 (220 * r + k) (1) σ))) (r := r) (k := k) (w := w) (gs := 0) (F := F) (ρ := σ0) hr (by omega) (by omega) (fun t71 σ72 F66 R67 f68 f69 f70 => ?_) _ (t) (fArg (220 * r + k) (0) (1) (σ.2.1 61 (σ.2.1 8 (4 * (220 * r + k)))) (sA 6 (220 * r + k) (1) σ)) Fr.rfl ((hR.A (by omega)).arg (by omega) (by omega)) (by omega) (hw.bind (by omega) (by omega) (by omega)) (hkn.fr (show Fr [] [6, 7, 8] [] _ _ from Fr.trans (Fr.A Fr.rfl (by decide)) (fArg_fr.sub (by decide) (by decide) (by decide))) (by decide)) rfl)
              show Tm _ _ 355 b σ72 [(6, .int (iI 0)), (5, .int (iI (220 * r + k))), (4, .int (iI k)), (3, .int (iI t71)), (2, .int (iI w)), (0, .ref b), (1, .int (iI r))] [] _
              refine tm_iinc (q0 := 2) (L' := [(4, .int (iI (k + 1))), (6, .int (iI 0)), (5, .int (iI (220 * r + k))), (3, .int (iI t71)), (2, .int (iI w)), (0, .ref b), (1, .int (iI r))]) dX12_fold_355 rfl (by decide) rfl ?_
              refine tm_goto (tgt := 11) dX12_fold_358 (by decide) ?_
              exact tm_sub [0, 3, 4, 5, 6] rfl (ih _ (by omega) (w) (t71) (k + 1) σ72 ((((Fr.rfl.trans (Fr.sub hF (by decide) (by decide) (by decide))).A (by decide)).trans (Fr.sub fArg_fr (by decide) (by decide) (by decide))).trans (Fr.sub F66 (by decide) (by decide) (by decide))) R67 (by omega) f69 f70 rfl)
      · refine tm_aload_n dX12_fold_46 rfl 5 rfl ?_
        refine tm_callV (M := m_X12_fold) (pc := 47) (ix := 460) (M' := m_X12_forgetAll) (As := []) (rest := []) dX12_fold_47 ok_X12_forgetAll im_X12_forgetAll se_X12_forgetAll ml12_460 np_X12_forgetAll rfl rfl (Nat.le_of_ble_eq_true rfl) (Nat.le_of_ble_eq_true rfl) rfl (c2_X12_forgetAll (d + 4) (σ := σ)  hR hkn) (fun r73 σ74 hp => ?_)
        obtain ⟨rfl, f76, f77, f78⟩ := hp
        show Tm _ _ 50 b σ74 [(6, .int (iI 0)), (5, .int (iI (220 * r + k))), (4, .int (iI k)), (3, .int (iI t)), (2, .int (iI w)), (0, .ref b), (1, .int (iI r))] [] _
        refine tm_goto (tgt := 335) dX12_fold_50 (by decide) ?_
        refine tm_sub [0, 1, 2, 3, 4, 5, 6] rfl (b_fold335 (d + 4) (σ0 := σ74) (r := r) (k := k) (w := w) (gs := 0) (F := F) (ρ := σ0) hr (by omega) (by omega) (fun t86 σ87 F81 R82 f83 f84 f85 => ?_) _ (t) σ74 Fr.rfl f77 (by omega) (hw.fr f76 (by decide)) f78 rfl)
        show Tm _ _ 355 b σ87 [(6, .int (iI 0)), (5, .int (iI (220 * r + k))), (4, .int (iI k)), (3, .int (iI t86)), (2, .int (iI w)), (0, .ref b), (1, .int (iI r))] [] _
        refine tm_iinc (q0 := 2) (L' := [(4, .int (iI (k + 1))), (6, .int (iI 0)), (5, .int (iI (220 * r + k))), (3, .int (iI t86)), (2, .int (iI w)), (0, .ref b), (1, .int (iI r))]) dX12_fold_355 rfl (by decide) rfl ?_
        refine tm_goto (tgt := 11) dX12_fold_358 (by decide) ?_
        exact tm_sub [0, 3, 4, 5, 6] rfl (ih _ (by omega) (w) (t86) (k + 1) σ87 (((Fr.rfl.trans (Fr.sub hF (by decide) (by decide) (by decide))).trans (Fr.sub f76 (by decide) (by decide) (by decide))).trans (Fr.sub F81 (by decide) (by decide) (by decide))) R82 (by omega) f84 f85 rfl)
