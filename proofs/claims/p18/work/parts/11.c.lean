section
theorem oki_takA {σ : MS} {F y k v : Int} (ho : OKI σ F y) (h12 : σ.2.1 3 y = 12) (h2 : σ.2.1 6 y = 2) (hk : 0 ≤ k ∧ k ≤ 2) (hv : k = 2 → 0 ≤ v ∧ v < 192) : OKI (fArg y 0 k v (sA 6 y k σ)) F y := by
  obtain ⟨o1, o2, o3, o4, o5, o6, o7, o8, o9⟩ := ho
  have e6 : (fArg y 0 k v (sA 6 y k σ)).2.1 6 y = k := ra_o (by decide) (ra_o (by decide) ra_eq)
  have e3 : (fArg y 0 k v (sA 6 y k σ)).2.1 3 = σ.2.1 3 := rfl
  have hn : nArgs σ y = 1 := by unfold nArgs; rw [h12, h2]; rfl
  have hm : nArgs (fArg y 0 k v (sA 6 y k σ)) y = 1 := by
    unfold nArgs; rw [e6, e3, h12, if_neg (by decide), if_pos rfl, if_neg (by omega), if_neg (by omega)]
  unfold OKI
  rw [hm, e6]
  refine ⟨o1, o2, o3, o4, o5, o6, o7, fun i c e => ?_, fun _ q => (ra_o (by decide) ra_eq).trans q⟩
  by_cases hi : i = 0
  · subst hi
    rw [show (fArg y 0 k v (sA 6 y k σ)).2.1 7 (4 * y + 0) = k from ra_o (by decide) ra_eq, show (fArg y 0 k v (sA 6 y k σ)).2.1 8 (4 * y + 0) = v from ra_eq]
    exact ⟨hk, fun q => ⟨hv q, by decide⟩⟩
  · rw [show (fArg y 0 k v (sA 6 y k σ)).2.1 7 (4 * y + i) = σ.2.1 7 (4 * y + i) from ra_o (by decide) (ra_ne (by omega) (ra_o (by decide) rfl))]
    have := o8 i c e
    rw [hn] at this
    exact ⟨this.1, fun q => by have := (this.2 q).2; omega⟩
theorem oki_takB {σ : MS} {F y w k v k2 v2 : Int} (ho : OKI σ F y) (h12 : σ.2.1 3 y = 12) (h2 : σ.2.1 6 y = 2) (hw : 3 ≤ w ∧ w ≤ 7) (hk : 0 ≤ k ∧ k ≤ 2) (hv : k = 2 → 0 ≤ v ∧ v < 192) (hk2 : 0 ≤ k2 ∧ k2 ≤ 2) (hv2 : k2 = 2 → 0 ≤ v2 ∧ v2 < 192) : OKI (fArg y 1 k2 v2 (fArg y 0 k v (sA 6 y w σ))) F y := by
  obtain ⟨o1, o2, o3, o4, o5, o6, o7, o8, o9⟩ := ho
  have e6 : (fArg y 1 k2 v2 (fArg y 0 k v (sA 6 y w σ))).2.1 6 y = w := ra_o (by decide) (ra_o (by decide) (ra_o (by decide) (ra_o (by decide) ra_eq)))
  have e3 : (fArg y 1 k2 v2 (fArg y 0 k v (sA 6 y w σ))).2.1 3 = σ.2.1 3 := rfl
  have hn : nArgs σ y = 1 := by unfold nArgs; rw [h12, h2]; rfl
  have hm : nArgs (fArg y 1 k2 v2 (fArg y 0 k v (sA 6 y w σ))) y = 2 := by
    unfold nArgs; rw [e6, e3, h12, if_neg (by decide), if_pos rfl, if_neg (by omega), if_pos (by omega)]
  unfold OKI
  rw [hm, e6]
  refine ⟨o1, o2, o3, o4, o5, o6, o7, fun i c e => ?_, fun _ q => by omega⟩
  by_cases hi : i = 0
  · subst hi
    rw [show (fArg y 1 k2 v2 (fArg y 0 k v (sA 6 y w σ))).2.1 7 (4 * y + 0) = k from ra_o (by decide) (ra_ne (by omega) (ra_o (by decide) ra_eq)), show (fArg y 1 k2 v2 (fArg y 0 k v (sA 6 y w σ))).2.1 8 (4 * y + 0) = v from ra_ne (by omega) (ra_o (by decide) ra_eq)]
    exact ⟨hk, fun q => ⟨hv q, by decide⟩⟩
  · by_cases hi1 : i = 1
    · subst hi1
      rw [show (fArg y 1 k2 v2 (fArg y 0 k v (sA 6 y w σ))).2.1 7 (4 * y + 1) = k2 from ra_o (by decide) ra_eq, show (fArg y 1 k2 v2 (fArg y 0 k v (sA 6 y w σ))).2.1 8 (4 * y + 1) = v2 from ra_eq]
      exact ⟨hk2, fun q => ⟨hv2 q, by decide⟩⟩
    · rw [show (fArg y 1 k2 v2 (fArg y 0 k v (sA 6 y w σ))).2.1 7 (4 * y + i) = σ.2.1 7 (4 * y + i) from ra_o (by decide) (ra_ne (by omega) (ra_o (by decide) (ra_ne (by omega) (ra_o (by decide) rfl))))]
      have := o8 i c e
      rw [hn] at this
      exact ⟨this.1, fun q => by have := (this.2 q).2; omega⟩
theorem takA_off {σ : MS} {y w k v : Int} : OFF y σ (fArg y 0 k v (sA 6 y w σ)) := (OFF.A (by decide)).trans (OFF.arg (by decide) (by decide))
theorem takB_off {σ : MS} {y w k v k2 v2 : Int} : OFF y σ (fArg y 1 k2 v2 (fArg y 0 k v (sA 6 y w σ))) := takA_off.trans (OFF.arg (by decide) (by decide))

theorem dX12_rebind_170 : decode cX12_rebind 170 = .ok (.iload 6, 2) := by decide +kernel
theorem dX12_rebind_172 : decode cX12_rebind 172 = .ok (.aload_n 0, 1) := by decide +kernel
theorem dX12_rebind_173 : decode cX12_rebind 173 = .ok (.getfield 32, 3) := by decide +kernel
theorem dX12_rebind_176 : decode cX12_rebind 176 = .ok (.iload_n 1, 1) := by decide +kernel
theorem dX12_rebind_177 : decode cX12_rebind 177 = .ok (.iaload, 1) := by decide +kernel
theorem dX12_rebind_178 : decode cX12_rebind 178 = .ok (.if_icmp .ge 191, 3) := by decide +kernel
theorem dX12_rebind_181 : decode cX12_rebind 181 = .ok (.aload_n 0, 1) := by decide +kernel
theorem dX12_rebind_182 : decode cX12_rebind 182 = .ok (.getfield 13, 3) := by decide +kernel
theorem dX12_rebind_185 : decode cX12_rebind 185 = .ok (.aload_n 0, 1) := by decide +kernel
theorem dX12_rebind_186 : decode cX12_rebind 186 = .ok (.iload_n 1, 1) := by decide +kernel
theorem dX12_rebind_187 : decode cX12_rebind 187 = .ok (.iload 6, 2) := by decide +kernel
theorem dX12_rebind_189 : decode cX12_rebind 189 = .ok (.invokevirtual 203, 3) := by decide +kernel
theorem dX12_rebind_192 : decode cX12_rebind 192 = .ok (.iaload, 1) := by decide +kernel
theorem dX12_rebind_193 : decode cX12_rebind 193 = .ok (.bipush 11, 2) := by decide +kernel
theorem dX12_rebind_195 : decode cX12_rebind 195 = .ok (.if_icmp .eq 20, 3) := by decide +kernel
theorem dX12_rebind_215 : decode cX12_rebind 215 = .ok (.aload_n 0, 1) := by decide +kernel
theorem dX12_rebind_216 : decode cX12_rebind 216 = .ok (.iload_n 1, 1) := by decide +kernel
theorem dX12_rebind_217 : decode cX12_rebind 217 = .ok (.iload 6, 2) := by decide +kernel
theorem dX12_rebind_219 : decode cX12_rebind 219 = .ok (.invokevirtual 203, 3) := by decide +kernel
theorem dX12_rebind_222 : decode cX12_rebind 222 = .ok (.istore 7, 2) := by decide +kernel
theorem dX12_rebind_224 : decode cX12_rebind 224 = .ok (.aload_n 0, 1) := by decide +kernel
theorem dX12_rebind_225 : decode cX12_rebind 225 = .ok (.getfield 13, 3) := by decide +kernel
theorem dX12_rebind_228 : decode cX12_rebind 228 = .ok (.iload 7, 2) := by decide +kernel
theorem dX12_rebind_230 : decode cX12_rebind 230 = .ok (.iaload, 1) := by decide +kernel
theorem dX12_rebind_231 : decode cX12_rebind 231 = .ok (.bipush 12, 2) := by decide +kernel
theorem dX12_rebind_233 : decode cX12_rebind 233 = .ok (.if_icmp .ne 130, 3) := by decide +kernel
theorem dX12_rebind_363 : decode cX12_rebind 363 = .ok (.iinc 6 1, 3) := by decide +kernel
theorem dX12_rebind_366 : decode cX12_rebind 366 = .ok (.goto (-196), 3) := by decide +kernel
theorem dX12_rebind_236 : decode cX12_rebind 236 = .ok (.aload_n 0, 1) := by decide +kernel
theorem dX12_rebind_237 : decode cX12_rebind 237 = .ok (.getfield 23, 3) := by decide +kernel
theorem dX12_rebind_240 : decode cX12_rebind 240 = .ok (.iload 7, 2) := by decide +kernel
theorem dX12_rebind_242 : decode cX12_rebind 242 = .ok (.iaload, 1) := by decide +kernel
theorem dX12_rebind_243 : decode cX12_rebind 243 = .ok (.iconst 2, 1) := by decide +kernel
theorem dX12_rebind_244 : decode cX12_rebind 244 = .ok (.if_icmp .ne 119, 3) := by decide +kernel
theorem dX12_rebind_247 : decode cX12_rebind 247 = .ok (.aload_n 0, 1) := by decide +kernel
theorem dX12_rebind_248 : decode cX12_rebind 248 = .ok (.getfield 29, 3) := by decide +kernel
theorem dX12_rebind_251 : decode cX12_rebind 251 = .ok (.iconst 4, 1) := by decide +kernel
theorem dX12_rebind_252 : decode cX12_rebind 252 = .ok (.iload 7, 2) := by decide +kernel
theorem dX12_rebind_254 : decode cX12_rebind 254 = .ok (.imul, 1) := by decide +kernel
theorem dX12_rebind_255 : decode cX12_rebind 255 = .ok (.iaload, 1) := by decide +kernel
theorem dX12_rebind_256 : decode cX12_rebind 256 = .ok (.iload 4, 2) := by decide +kernel
theorem dX12_rebind_258 : decode cX12_rebind 258 = .ok (.if_icmp .ne 105, 3) := by decide +kernel
theorem dX12_rebind_261 : decode cX12_rebind 261 = .ok (.aload_n 0, 1) := by decide +kernel
theorem dX12_rebind_262 : decode cX12_rebind 262 = .ok (.getfield 23, 3) := by decide +kernel
theorem dX12_rebind_265 : decode cX12_rebind 265 = .ok (.iload 7, 2) := by decide +kernel
theorem dX12_rebind_267 : decode cX12_rebind 267 = .ok (.aload_n 0, 1) := by decide +kernel
theorem dX12_rebind_268 : decode cX12_rebind 268 = .ok (.getfield 13, 3) := by decide +kernel
theorem dX12_rebind_271 : decode cX12_rebind 271 = .ok (.iload_n 3, 1) := by decide +kernel
theorem dX12_rebind_272 : decode cX12_rebind 272 = .ok (.iaload, 1) := by decide +kernel
theorem dX12_rebind_273 : decode cX12_rebind 273 = .ok (.ifCond .ne 14, 3) := by decide +kernel
theorem dX12_rebind_287 : decode cX12_rebind 287 = .ok (.aload_n 0, 1) := by decide +kernel
theorem dX12_rebind_288 : decode cX12_rebind 288 = .ok (.getfield 13, 3) := by decide +kernel
theorem dX12_rebind_291 : decode cX12_rebind 291 = .ok (.iload_n 3, 1) := by decide +kernel
theorem dX12_rebind_292 : decode cX12_rebind 292 = .ok (.iaload, 1) := by decide +kernel
theorem dX12_rebind_293 : decode cX12_rebind 293 = .ok (.iconst 2, 1) := by decide +kernel
theorem dX12_rebind_294 : decode cX12_rebind 294 = .ok (.iadd, 1) := by decide +kernel
theorem dX12_rebind_295 : decode cX12_rebind 295 = .ok (.iastore, 1) := by decide +kernel
theorem dX12_rebind_296 : decode cX12_rebind 296 = .ok (.aload_n 0, 1) := by decide +kernel
theorem dX12_rebind_297 : decode cX12_rebind 297 = .ok (.iload 7, 2) := by decide +kernel
theorem dX12_rebind_299 : decode cX12_rebind 299 = .ok (.iconst 0, 1) := by decide +kernel
theorem dX12_rebind_300 : decode cX12_rebind 300 = .ok (.aload_n 0, 1) := by decide +kernel
theorem dX12_rebind_301 : decode cX12_rebind 301 = .ok (.getfield 26, 3) := by decide +kernel
theorem dX12_rebind_304 : decode cX12_rebind 304 = .ok (.iconst 4, 1) := by decide +kernel
theorem dX12_rebind_305 : decode cX12_rebind 305 = .ok (.iload_n 3, 1) := by decide +kernel
theorem dX12_rebind_306 : decode cX12_rebind 306 = .ok (.imul, 1) := by decide +kernel
theorem dX12_rebind_307 : decode cX12_rebind 307 = .ok (.iaload, 1) := by decide +kernel
theorem dX12_rebind_308 : decode cX12_rebind 308 = .ok (.aload_n 0, 1) := by decide +kernel
theorem dX12_rebind_309 : decode cX12_rebind 309 = .ok (.getfield 29, 3) := by decide +kernel
theorem dX12_rebind_312 : decode cX12_rebind 312 = .ok (.iconst 4, 1) := by decide +kernel
theorem dX12_rebind_313 : decode cX12_rebind 313 = .ok (.iload_n 3, 1) := by decide +kernel
theorem dX12_rebind_314 : decode cX12_rebind 314 = .ok (.imul, 1) := by decide +kernel
theorem dX12_rebind_315 : decode cX12_rebind 315 = .ok (.iaload, 1) := by decide +kernel
theorem dX12_rebind_316 : decode cX12_rebind 316 = .ok (.invokevirtual 298, 3) := by decide +kernel
theorem dX12_rebind_319 : decode cX12_rebind 319 = .ok (.aload_n 0, 1) := by decide +kernel
theorem dX12_rebind_320 : decode cX12_rebind 320 = .ok (.getfield 13, 3) := by decide +kernel
theorem dX12_rebind_323 : decode cX12_rebind 323 = .ok (.iload_n 3, 1) := by decide +kernel
theorem dX12_rebind_324 : decode cX12_rebind 324 = .ok (.iaload, 1) := by decide +kernel
theorem dX12_rebind_325 : decode cX12_rebind 325 = .ok (.ifCond .eq 30, 3) := by decide +kernel
theorem dX12_rebind_328 : decode cX12_rebind 328 = .ok (.aload_n 0, 1) := by decide +kernel
theorem dX12_rebind_329 : decode cX12_rebind 329 = .ok (.iload 7, 2) := by decide +kernel
theorem dX12_rebind_331 : decode cX12_rebind 331 = .ok (.iconst 1, 1) := by decide +kernel
theorem dX12_rebind_332 : decode cX12_rebind 332 = .ok (.aload_n 0, 1) := by decide +kernel
theorem dX12_rebind_333 : decode cX12_rebind 333 = .ok (.getfield 26, 3) := by decide +kernel
theorem dX12_rebind_336 : decode cX12_rebind 336 = .ok (.iconst 4, 1) := by decide +kernel
theorem dX12_rebind_337 : decode cX12_rebind 337 = .ok (.iload_n 3, 1) := by decide +kernel
theorem dX12_rebind_338 : decode cX12_rebind 338 = .ok (.imul, 1) := by decide +kernel
theorem dX12_rebind_339 : decode cX12_rebind 339 = .ok (.iconst 1, 1) := by decide +kernel
theorem dX12_rebind_340 : decode cX12_rebind 340 = .ok (.iadd, 1) := by decide +kernel
theorem dX12_rebind_341 : decode cX12_rebind 341 = .ok (.iaload, 1) := by decide +kernel
theorem dX12_rebind_342 : decode cX12_rebind 342 = .ok (.aload_n 0, 1) := by decide +kernel
theorem dX12_rebind_343 : decode cX12_rebind 343 = .ok (.getfield 29, 3) := by decide +kernel
theorem dX12_rebind_346 : decode cX12_rebind 346 = .ok (.iconst 4, 1) := by decide +kernel
theorem dX12_rebind_347 : decode cX12_rebind 347 = .ok (.iload_n 3, 1) := by decide +kernel
theorem dX12_rebind_348 : decode cX12_rebind 348 = .ok (.imul, 1) := by decide +kernel
theorem dX12_rebind_349 : decode cX12_rebind 349 = .ok (.iconst 1, 1) := by decide +kernel
theorem dX12_rebind_350 : decode cX12_rebind 350 = .ok (.iadd, 1) := by decide +kernel
theorem dX12_rebind_351 : decode cX12_rebind 351 = .ok (.iaload, 1) := by decide +kernel
theorem dX12_rebind_352 : decode cX12_rebind 352 = .ok (.invokevirtual 298, 3) := by decide +kernel
theorem dX12_rebind_355 : decode cX12_rebind 355 = .ok (.aload_n 0, 1) := by decide +kernel
theorem dX12_rebind_356 : decode cX12_rebind 356 = .ok (.getfield 91, 3) := by decide +kernel
theorem dX12_rebind_359 : decode cX12_rebind 359 = .ok (.iload 6, 2) := by decide +kernel
theorem dX12_rebind_361 : decode cX12_rebind 361 = .ok (.iconst 0, 1) := by decide +kernel
theorem dX12_rebind_362 : decode cX12_rebind 362 = .ok (.bastore, 1) := by decide +kernel
theorem dX12_rebind_276 : decode cX12_rebind 276 = .ok (.aload_n 0, 1) := by decide +kernel
theorem dX12_rebind_277 : decode cX12_rebind 277 = .ok (.getfield 26, 3) := by decide +kernel
theorem dX12_rebind_280 : decode cX12_rebind 280 = .ok (.iconst 4, 1) := by decide +kernel
theorem dX12_rebind_281 : decode cX12_rebind 281 = .ok (.iload_n 3, 1) := by decide +kernel
theorem dX12_rebind_282 : decode cX12_rebind 282 = .ok (.imul, 1) := by decide +kernel
theorem dX12_rebind_283 : decode cX12_rebind 283 = .ok (.iaload, 1) := by decide +kernel
theorem dX12_rebind_284 : decode cX12_rebind 284 = .ok (.goto 11, 3) := by decide +kernel
theorem dX12_rebind_198 : decode cX12_rebind 198 = .ok (.aload_n 0, 1) := by decide +kernel
theorem dX12_rebind_199 : decode cX12_rebind 199 = .ok (.getfield 13, 3) := by decide +kernel
theorem dX12_rebind_202 : decode cX12_rebind 202 = .ok (.aload_n 0, 1) := by decide +kernel
theorem dX12_rebind_203 : decode cX12_rebind 203 = .ok (.iload_n 1, 1) := by decide +kernel
theorem dX12_rebind_204 : decode cX12_rebind 204 = .ok (.iload 6, 2) := by decide +kernel
theorem dX12_rebind_206 : decode cX12_rebind 206 = .ok (.invokevirtual 203, 3) := by decide +kernel
theorem dX12_rebind_209 : decode cX12_rebind 209 = .ok (.iaload, 1) := by decide +kernel
theorem dX12_rebind_210 : decode cX12_rebind 210 = .ok (.bipush 12, 2) := by decide +kernel
theorem dX12_rebind_212 : decode cX12_rebind 212 = .ok (.if_icmp .ne 157, 3) := by decide +kernel
set_option maxHeartbeats 4000000 in
set_option maxRecDepth 20000 in
theorem l_reb5 (d : Nat) {b : Nat} {σ0 : MS} {r : Int} {F : Int} {g : Int} {k0 : Int} {x0 : Int} {post : Option Value → MS → Prop} (hr : 0 ≤ r ∧ r < 6) (hR0 : RG σ0) (hit : 0 ≤ σ0.2.1 9 r ∧ σ0.2.1 9 r ≤ 220) (hx0 : x0 = 220 * r + k0 ∧ 0 ≤ k0 ∧ k0 < σ0.2.1 9 r) (hk5 : σ0.2.1 3 x0 ≤ 5) (h_g : -2147483648 ≤ g ∧ g ≤ 2147483647) (hx_369 : ∀ (i : Int) (σ : MS) , (Fr [] [6, 7, 8, 47] [] σ0 σ) → (RG σ) → (BO 47 σ) → (OKS σ F r) → (XO r σ0 σ) → Tm (d + 2) m_X12_rebind 369 b σ [(6, .int (iI i)), (3, .int (iI x0)), (4, .int (iI g)), (0, .ref b), (1, .int (iI r)), (2, .int (iI k0))] [] post) : ∀ (n : Nat) (i : Int) (σ : MS) , (Fr [] [6, 7, 8, 47] [] σ0 σ) → (RG σ) → (k0 < i ∧ i ≤ σ0.2.1 9 r) → (BO 47 σ) → (OKS σ F r) → (XO r σ0 σ) → (220 - i).toNat = n → Tm (d + 2) m_X12_rebind 170 b σ [(6, .int (iI i)), (3, .int (iI x0)), (4, .int (iI g)), (0, .ref b), (1, .int (iI r)), (2, .int (iI k0))] [] post := by
  intro n
  induction n using Nat.strongRecOn with
  | _ n ih =>
    intro i σ hF hR h0 hbo hok hxo hm
    obtain ⟨hx0, hk0, hk1⟩ := hx0
    have q9 : σ.2.1 9 r = σ0.2.1 9 r := by rw [hF.2.1 9 (by decide)]
    have q3 : σ.2.1 3 = σ0.2.1 3 := hF.2.1 3 (by decide)
    have hkx : σ.2.1 3 x0 ≤ 5 := by rw [q3]; exact hk5
    have ho := hok k0 (by omega) (by omega)
    rw [← hx0] at ho
    have ho1 := ho.1
    rw [q3] at ho1
    have ho8 := ho.2.2.2.2.2.2.2.1 0 (by decide) (by decide)
    have ho81 := ho.2.2.2.2.2.2.2.1 1 (by decide) (by decide)
    rw [Int.add_zero] at ho8
    have hra1 := RG.a hR 8 (4 * x0 + 1)
    refine tm_iload dX12_rebind_170 0 rfl ?_
    refine tm_aload_n dX12_rebind_172 rfl 3 rfl ?_
    refine tm_get (k := 9) (v := .ref (b + 1 + 7)) lay_12 dX12_rebind_173 (by decide) fl12_32 rfl ?_
    refine tm_iload_n dX12_rebind_176 rfl 4 rfl ?_
    refine tm_iald (z := r) (v := σ0.2.1 9 r) dX12_rebind_177 (show mT[7]? = some (9, 0, 13) from rfl) (by omega) (by omega) (by decide) (ra_F hF (by decide) (rfl)) ?_
    have g1 := RG.a hR0 9 (r)
    refine tm_icmp_ge (tgt := 369) dX12_rebind_178 (by decide) ⟨by omega, by omega⟩ ⟨by omega, by omega⟩ (fun h2 => ?_) (fun h2 => ?_)
    · exact tm_sub [0, 1, 2, 3, 4, 5] rfl (hx_369 (i) σ (Fr.rfl.trans (Fr.sub hF (by decide) (by decide) (by decide))) hR hbo hok hxo)
    · refine tm_aload_n dX12_rebind_181 rfl 3 rfl ?_
      refine tm_get (k := 3) (v := .ref (b + 1 + 1)) lay_12 dX12_rebind_182 (by decide) fl12_13 rfl ?_
      refine tm_aload_n dX12_rebind_185 rfl 3 rfl ?_
      refine tm_iload_n dX12_rebind_186 rfl 4 rfl ?_
      refine tm_iload dX12_rebind_187 0 rfl ?_
      refine tm_callV (M := m_X12_rebind) (pc := 189) (ix := 203) (M' := m_X12_at) (As := [.int (iI r), .int (iI i)]) (rest := [.ref (b + 1 + 1)]) dX12_rebind_189 ok_X12_at im_X12_at se_X12_at ml12_203 np_X12_at rfl rfl (Nat.le_of_ble_eq_true rfl) (Nat.le_of_ble_eq_true rfl) rfl (c_X12_at (d) (σ := σ) (x := r) (k := i) ) (fun r3 σ4 hp => ?_)
      obtain ⟨v5, rfl, rfl, f6⟩ := hp
      subst f6
      show Tm _ _ 192 b σ [(6, .int (iI i)), (3, .int (iI x0)), (4, .int (iI g)), (0, .ref b), (1, .int (iI r)), (2, .int (iI k0))] [.int (iI (220 * r + i)), .ref (b + 1 + 1)] _
      refine tm_iald (z := 220 * r + i) (v := σ0.2.1 3 (220 * r + i)) dX12_rebind_192 (show mT[1]? = some (3, 0, 2860) from rfl) (by omega) (by omega) (by decide) (ra_F hF (by decide) (rfl)) ?_
      have g7 := RG.a hR0 3 (220 * r + i)
      refine tm_bipush dX12_rebind_193 (by decide) ?_
      refine tm_icmp_eq (tgt := 215) dX12_rebind_195 (by decide) ⟨by omega, by omega⟩ ⟨by decide, by decide⟩ (fun h8 => ?_) (fun h8 => ?_)
      · refine tm_aload_n dX12_rebind_215 rfl 3 rfl ?_
        refine tm_iload_n dX12_rebind_216 rfl 4 rfl ?_
        refine tm_iload dX12_rebind_217 0 rfl ?_
        refine tm_callV (M := m_X12_rebind) (pc := 219) (ix := 203) (M' := m_X12_at) (As := [.int (iI r), .int (iI i)]) (rest := []) dX12_rebind_219 ok_X12_at im_X12_at se_X12_at ml12_203 np_X12_at rfl rfl (Nat.le_of_ble_eq_true rfl) (Nat.le_of_ble_eq_true rfl) rfl (c_X12_at (d) (σ := σ) (x := r) (k := i) ) (fun r9 σ10 hp => ?_)
        obtain ⟨v11, rfl, rfl, f12⟩ := hp
        subst f12
        show Tm _ _ 222 b σ [(6, .int (iI i)), (3, .int (iI x0)), (4, .int (iI g)), (0, .ref b), (1, .int (iI r)), (2, .int (iI k0))] [.int (iI (220 * r + i))] _
        refine tm_istore (L' := [(7, .int (iI (220 * r + i))), (6, .int (iI i)), (3, .int (iI x0)), (4, .int (iI g)), (0, .ref b), (1, .int (iI r)), (2, .int (iI k0))]) dX12_rebind_222 (by decide) rfl ?_
        refine tm_aload_n dX12_rebind_224 rfl 4 rfl ?_
        refine tm_get (k := 3) (v := .ref (b + 1 + 1)) lay_12 dX12_rebind_225 (by decide) fl12_13 rfl ?_
        refine tm_iload dX12_rebind_228 0 rfl ?_
        refine tm_iald (z := 220 * r + i) (v := σ0.2.1 3 (220 * r + i)) dX12_rebind_230 (show mT[1]? = some (3, 0, 2860) from rfl) (by omega) (by omega) (by decide) (ra_F hF (by decide) (rfl)) ?_
        have g13 := RG.a hR0 3 (220 * r + i)
        refine tm_bipush dX12_rebind_231 (by decide) ?_
        refine tm_icmp_ne (tgt := 363) dX12_rebind_233 (by decide) ⟨by omega, by omega⟩ ⟨by decide, by decide⟩ (fun h14 => ?_) (fun h14 => ?_)
        · refine tm_iinc (q0 := 1) (L' := [(6, .int (iI (i + 1))), (7, .int (iI (220 * r + i))), (3, .int (iI x0)), (4, .int (iI g)), (0, .ref b), (1, .int (iI r)), (2, .int (iI k0))]) dX12_rebind_363 rfl (by decide) rfl ?_
          refine tm_goto (tgt := 170) dX12_rebind_366 (by decide) ?_
          exact tm_sub [0, 2, 3, 4, 5, 6] rfl (ih _ (by omega) (i + 1) σ (Fr.rfl.trans (Fr.sub hF (by decide) (by decide) (by decide))) hR (by omega) hbo hok hxo rfl)
        · refine tm_aload_n dX12_rebind_236 rfl 4 rfl ?_
          refine tm_get (k := 6) (v := .ref (b + 1 + 4)) lay_12 dX12_rebind_237 (by decide) fl12_23 rfl ?_
          refine tm_iload dX12_rebind_240 0 rfl ?_
          refine tm_iald (z := 220 * r + i) (v := σ.2.1 6 (220 * r + i)) dX12_rebind_242 (show mT[4]? = some (6, 0, 2860) from rfl) (by omega) (by omega) (by decide) (rfl) ?_
          have g15 := RG.a hR 6 (220 * r + i)
          refine tm_iconst dX12_rebind_243 ?_
          refine tm_icmp_ne (tgt := 363) dX12_rebind_244 (by decide) ⟨by omega, by omega⟩ ⟨by decide, by decide⟩ (fun h16 => ?_) (fun h16 => ?_)
          · refine tm_iinc (q0 := 1) (L' := [(6, .int (iI (i + 1))), (7, .int (iI (220 * r + i))), (3, .int (iI x0)), (4, .int (iI g)), (0, .ref b), (1, .int (iI r)), (2, .int (iI k0))]) dX12_rebind_363 rfl (by decide) rfl ?_
            refine tm_goto (tgt := 170) dX12_rebind_366 (by decide) ?_
            exact tm_sub [0, 2, 3, 4, 5, 6] rfl (ih _ (by omega) (i + 1) σ (Fr.rfl.trans (Fr.sub hF (by decide) (by decide) (by decide))) hR (by omega) hbo hok hxo rfl)
          · refine tm_aload_n dX12_rebind_247 rfl 4 rfl ?_
            refine tm_get (k := 8) (v := .ref (b + 1 + 6)) lay_12 dX12_rebind_248 (by decide) fl12_29 rfl ?_
            refine tm_iconst dX12_rebind_251 ?_
            refine tm_iload dX12_rebind_252 0 rfl ?_
            refine tm_imul dX12_rebind_254 ?_
            refine tm_iald (z := 4 * (220 * r + i)) (v := σ.2.1 8 (4 * (220 * r + i))) dX12_rebind_255 (show mT[6]? = some (8, 0, 11440) from rfl) (by omega) (by omega) (by decide) (rfl) ?_
            have g17 := RG.a hR 8 (4 * (220 * r + i))
            refine tm_iload dX12_rebind_256 3 rfl ?_
            refine tm_icmp_ne (tgt := 363) dX12_rebind_258 (by decide) ⟨by omega, by omega⟩ ⟨by omega, by omega⟩ (fun h18 => ?_) (fun h18 => ?_)
            · refine tm_iinc (q0 := 1) (L' := [(6, .int (iI (i + 1))), (7, .int (iI (220 * r + i))), (3, .int (iI x0)), (4, .int (iI g)), (0, .ref b), (1, .int (iI r)), (2, .int (iI k0))]) dX12_rebind_363 rfl (by decide) rfl ?_
              refine tm_goto (tgt := 170) dX12_rebind_366 (by decide) ?_
              exact tm_sub [0, 2, 3, 4, 5, 6] rfl (ih _ (by omega) (i + 1) σ (Fr.rfl.trans (Fr.sub hF (by decide) (by decide) (by decide))) hR (by omega) hbo hok hxo rfl)
            · refine tm_aload_n dX12_rebind_261 rfl 4 rfl ?_
              refine tm_get (k := 6) (v := .ref (b + 1 + 4)) lay_12 dX12_rebind_262 (by decide) fl12_23 rfl ?_
              refine tm_iload dX12_rebind_265 0 rfl ?_
              refine tm_aload_n dX12_rebind_267 rfl 4 rfl ?_
              refine tm_get (k := 3) (v := .ref (b + 1 + 1)) lay_12 dX12_rebind_268 (by decide) fl12_13 rfl ?_
              refine tm_iload_n dX12_rebind_271 rfl 2 rfl ?_
              refine tm_iald (z := x0) (v := σ0.2.1 3 x0) dX12_rebind_272 (show mT[1]? = some (3, 0, 2860) from rfl) (by omega) (by omega) (by decide) (ra_F hF (by decide) (rfl)) ?_
              have g19 := RG.a hR0 3 (x0)
              refine tm_if_ne (tgt := 287) dX12_rebind_273 (by decide) ⟨by omega, by omega⟩ (fun h20 => ?_) (fun h20 => ?_)
              · refine tm_aload_n dX12_rebind_287 rfl 4 rfl ?_
                refine tm_get (k := 3) (v := .ref (b + 1 + 1)) lay_12 dX12_rebind_288 (by decide) fl12_13 rfl ?_
                refine tm_iload_n dX12_rebind_291 rfl 2 rfl ?_
                refine tm_iald (z := x0) (v := σ0.2.1 3 x0) dX12_rebind_292 (show mT[1]? = some (3, 0, 2860) from rfl) (by omega) (by omega) (by decide) (ra_F hF (by decide) (rfl)) ?_
                have g21 := RG.a hR0 3 (x0)
                refine tm_iconst dX12_rebind_293 ?_
                refine tm_iadd dX12_rebind_294 ?_
                refine tm_iast (z := 220 * r + i) (v := (σ0.2.1 3 x0) + 2) dX12_rebind_295 (show mT[4]? = some (6, 0, 2860) from rfl) (by omega) (by omega) (by decide) ?_
                refine tm_aload_n dX12_rebind_296 rfl 4 rfl ?_
                refine tm_iload dX12_rebind_297 0 rfl ?_
                refine tm_iconst dX12_rebind_299 ?_
                refine tm_aload_n dX12_rebind_300 rfl 4 rfl ?_
                refine tm_get (k := 7) (v := .ref (b + 1 + 5)) lay_12 dX12_rebind_301 (by decide) fl12_26 rfl ?_
                refine tm_iconst dX12_rebind_304 ?_
                refine tm_iload_n dX12_rebind_305 rfl 2 rfl ?_
                refine tm_imul dX12_rebind_306 ?_
                refine tm_iald (z := 4 * x0) (v := σ.2.1 7 (4 * x0)) dX12_rebind_307 (show mT[5]? = some (7, 0, 11440) from rfl) (by omega) (by omega) (by decide) (ra_o (by decide) (rfl)) ?_
                have g22 := RG.a hR 7 (4 * x0)
                refine tm_aload_n dX12_rebind_308 rfl 4 rfl ?_
                refine tm_get (k := 8) (v := .ref (b + 1 + 6)) lay_12 dX12_rebind_309 (by decide) fl12_29 rfl ?_
                refine tm_iconst dX12_rebind_312 ?_
                refine tm_iload_n dX12_rebind_313 rfl 2 rfl ?_
                refine tm_imul dX12_rebind_314 ?_
                refine tm_iald (z := 4 * x0) (v := σ.2.1 8 (4 * x0)) dX12_rebind_315 (show mT[6]? = some (8, 0, 11440) from rfl) (by omega) (by omega) (by decide) (ra_o (by decide) (rfl)) ?_
                have g23 := RG.a hR 8 (4 * x0)
                refine tm_callV (M := m_X12_rebind) (pc := 316) (ix := 298) (M' := m_X12_setArg) (As := [.int (iI (220 * r + i)), .int (iI 0), .int (iI (σ.2.1 7 (4 * x0))), .int (iI (σ.2.1 8 (4 * x0)))]) (rest := []) dX12_rebind_316 ok_X12_setArg im_X12_setArg se_X12_setArg ml12_298 np_X12_setArg rfl rfl (Nat.le_of_ble_eq_true rfl) (Nat.le_of_ble_eq_true rfl) rfl (c_X12_setArg (d) (σ := (sA 6 (220 * r + i) ((σ0.2.1 3 x0) + 2) σ)) (x := 220 * r + i) (i := 0) (k := σ.2.1 7 (4 * x0)) (w := σ.2.1 8 (4 * x0)) (by omega)) (fun r24 σ25 hp => ?_)
                obtain ⟨rfl, f27⟩ := hp
                subst f27
                show Tm _ _ 319 b (fArg (220 * r + i) (0) (σ.2.1 7 (4 * x0)) (σ.2.1 8 (4 * x0)) (sA 6 (220 * r + i) ((σ0.2.1 3 x0) + 2) σ)) [(7, .int (iI (220 * r + i))), (6, .int (iI i)), (3, .int (iI x0)), (4, .int (iI g)), (0, .ref b), (1, .int (iI r)), (2, .int (iI k0))] [] _
                refine tm_aload_n dX12_rebind_319 rfl 4 rfl ?_
                refine tm_get (k := 3) (v := .ref (b + 1 + 1)) lay_12 dX12_rebind_320 (by decide) fl12_13 rfl ?_
                refine tm_iload_n dX12_rebind_323 rfl 2 rfl ?_
                refine tm_iald (z := x0) (v := σ0.2.1 3 x0) dX12_rebind_324 (show mT[1]? = some (3, 0, 2860) from rfl) (by omega) (by omega) (by decide) (ra_F fArg_fr (by decide) (ra_o (by decide) (ra_F hF (by decide) (rfl)))) ?_
                have g28 := RG.a hR0 3 (x0)
                refine tm_if_eq (tgt := 355) dX12_rebind_325 (by decide) ⟨by omega, by omega⟩ (fun h29 => ?_) (fun h29 => ?_)
                · exact absurd h29 (by omega)
                · refine tm_aload_n dX12_rebind_328 rfl 4 rfl ?_
                  refine tm_iload dX12_rebind_329 0 rfl ?_
                  refine tm_iconst dX12_rebind_331 ?_
                  refine tm_aload_n dX12_rebind_332 rfl 4 rfl ?_
                  refine tm_get (k := 7) (v := .ref (b + 1 + 5)) lay_12 dX12_rebind_333 (by decide) fl12_26 rfl ?_
                  refine tm_iconst dX12_rebind_336 ?_
                  refine tm_iload_n dX12_rebind_337 rfl 2 rfl ?_
                  refine tm_imul dX12_rebind_338 ?_
                  refine tm_iconst dX12_rebind_339 ?_
                  refine tm_iadd dX12_rebind_340 ?_
                  refine tm_iald (z := (4 * x0) + 1) (v := (fArg (220 * r + i) (0) (σ.2.1 7 (4 * x0)) (σ.2.1 8 (4 * x0)) (sA 6 (220 * r + i) ((σ0.2.1 3 x0) + 2) σ)).2.1 7 ((4 * x0) + 1)) dX12_rebind_341 (show mT[5]? = some (7, 0, 11440) from rfl) (by omega) (by omega) (by decide) (rfl) ?_
                  have : (fArg (220 * r + i) (0) (σ.2.1 7 (4 * x0)) (σ.2.1 8 (4 * x0)) (sA 6 (220 * r + i) ((σ0.2.1 3 x0) + 2) σ)).2.1 7 ((4 * x0) + 1) = σ.2.1 7 ((4 * x0) + 1) := ra_o (by decide) (ra_ne (by omega) (ra_o (by decide) rfl))
                  refine tm_aload_n dX12_rebind_342 rfl 4 rfl ?_
                  refine tm_get (k := 8) (v := .ref (b + 1 + 6)) lay_12 dX12_rebind_343 (by decide) fl12_29 rfl ?_
                  refine tm_iconst dX12_rebind_346 ?_
                  refine tm_iload_n dX12_rebind_347 rfl 2 rfl ?_
                  refine tm_imul dX12_rebind_348 ?_
                  refine tm_iconst dX12_rebind_349 ?_
                  refine tm_iadd dX12_rebind_350 ?_
                  refine tm_iald (z := (4 * x0) + 1) (v := (fArg (220 * r + i) (0) (σ.2.1 7 (4 * x0)) (σ.2.1 8 (4 * x0)) (sA 6 (220 * r + i) ((σ0.2.1 3 x0) + 2) σ)).2.1 8 ((4 * x0) + 1)) dX12_rebind_351 (show mT[6]? = some (8, 0, 11440) from rfl) (by omega) (by omega) (by decide) (rfl) ?_
                  have : (fArg (220 * r + i) (0) (σ.2.1 7 (4 * x0)) (σ.2.1 8 (4 * x0)) (sA 6 (220 * r + i) ((σ0.2.1 3 x0) + 2) σ)).2.1 8 ((4 * x0) + 1) = σ.2.1 8 ((4 * x0) + 1) := ra_ne (by omega) (ra_o (by decide) (ra_o (by decide) rfl))
                  refine tm_callV (M := m_X12_rebind) (pc := 352) (ix := 298) (M' := m_X12_setArg) (As := [.int (iI (220 * r + i)), .int (iI 1), .int (iI ((fArg (220 * r + i) (0) (σ.2.1 7 (4 * x0)) (σ.2.1 8 (4 * x0)) (sA 6 (220 * r + i) ((σ0.2.1 3 x0) + 2) σ)).2.1 7 ((4 * x0) + 1))), .int (iI ((fArg (220 * r + i) (0) (σ.2.1 7 (4 * x0)) (σ.2.1 8 (4 * x0)) (sA 6 (220 * r + i) ((σ0.2.1 3 x0) + 2) σ)).2.1 8 ((4 * x0) + 1)))]) (rest := []) dX12_rebind_352 ok_X12_setArg im_X12_setArg se_X12_setArg ml12_298 np_X12_setArg rfl rfl (Nat.le_of_ble_eq_true rfl) (Nat.le_of_ble_eq_true rfl) rfl (c_X12_setArg (d) (σ := (fArg (220 * r + i) (0) (σ.2.1 7 (4 * x0)) (σ.2.1 8 (4 * x0)) (sA 6 (220 * r + i) ((σ0.2.1 3 x0) + 2) σ))) (x := 220 * r + i) (i := 1) (k := (fArg (220 * r + i) (0) (σ.2.1 7 (4 * x0)) (σ.2.1 8 (4 * x0)) (sA 6 (220 * r + i) ((σ0.2.1 3 x0) + 2) σ)).2.1 7 ((4 * x0) + 1)) (w := (fArg (220 * r + i) (0) (σ.2.1 7 (4 * x0)) (σ.2.1 8 (4 * x0)) (sA 6 (220 * r + i) ((σ0.2.1 3 x0) + 2) σ)).2.1 8 ((4 * x0) + 1)) (by omega)) (fun r30 σ31 hp => ?_)
                  obtain ⟨rfl, f33⟩ := hp
                  subst f33
                  show Tm _ _ 355 b (fArg (220 * r + i) (1) ((fArg (220 * r + i) (0) (σ.2.1 7 (4 * x0)) (σ.2.1 8 (4 * x0)) (sA 6 (220 * r + i) ((σ0.2.1 3 x0) + 2) σ)).2.1 7 ((4 * x0) + 1)) ((fArg (220 * r + i) (0) (σ.2.1 7 (4 * x0)) (σ.2.1 8 (4 * x0)) (sA 6 (220 * r + i) ((σ0.2.1 3 x0) + 2) σ)).2.1 8 ((4 * x0) + 1)) (fArg (220 * r + i) (0) (σ.2.1 7 (4 * x0)) (σ.2.1 8 (4 * x0)) (sA 6 (220 * r + i) ((σ0.2.1 3 x0) + 2) σ))) [(7, .int (iI (220 * r + i))), (6, .int (iI i)), (3, .int (iI x0)), (4, .int (iI g)), (0, .ref b), (1, .int (iI r)), (2, .int (iI k0))] [] _
                  refine tm_aload_n dX12_rebind_355 rfl 4 rfl ?_
                  refine tm_get (k := 47) (v := .ref (b + 1 + 25)) lay_12 dX12_rebind_356 (by decide) fl12_91 rfl ?_
                  refine tm_iload dX12_rebind_359 1 rfl ?_
                  refine tm_iconst dX12_rebind_361 ?_
                  refine tm_zast (z := i) (v := 0) dX12_rebind_362 (show mT[25]? = some (47, 2, 221) from rfl) (by omega) (by omega) (by decide) (by omega) ?_
                  refine tm_iinc (q0 := 1) (L' := [(6, .int (iI (i + 1))), (7, .int (iI (220 * r + i))), (3, .int (iI x0)), (4, .int (iI g)), (0, .ref b), (1, .int (iI r)), (2, .int (iI k0))]) dX12_rebind_363 rfl (by decide) rfl ?_
                  refine tm_goto (tgt := 170) dX12_rebind_366 (by decide) ?_
                  exact tm_sub [0, 2, 3, 4, 5, 6] rfl (ih _ (by omega) (i + 1) (sA 47 (i) (0) (fArg (220 * r + i) (1) ((fArg (220 * r + i) (0) (σ.2.1 7 (4 * x0)) (σ.2.1 8 (4 * x0)) (sA 6 (220 * r + i) ((σ0.2.1 3 x0) + 2) σ)).2.1 7 ((4 * x0) + 1)) ((fArg (220 * r + i) (0) (σ.2.1 7 (4 * x0)) (σ.2.1 8 (4 * x0)) (sA 6 (220 * r + i) ((σ0.2.1 3 x0) + 2) σ)).2.1 8 ((4 * x0) + 1)) (fArg (220 * r + i) (0) (σ.2.1 7 (4 * x0)) (σ.2.1 8 (4 * x0)) (sA 6 (220 * r + i) ((σ0.2.1 3 x0) + 2) σ)))) (((((Fr.rfl.trans (Fr.sub hF (by decide) (by decide) (by decide))).A (by decide)).trans (Fr.sub fArg_fr (by decide) (by decide) (by decide))).trans (Fr.sub fArg_fr (by decide) (by decide) (by decide))).A (by decide)) ((((hR.A (by omega)).arg (by omega) (by omega)).arg (by omega) (by omega)).A (by omega)) (by omega) (BO.A (hbo.fr (show Fr [] [6, 7, 8] [] σ _ from (((Fr.rfl.A (by decide)).trans (Fr.sub fArg_fr (by decide) (by decide) (by decide))).trans (Fr.sub fArg_fr (by decide) (by decide) (by decide)))) (by decide)) (by omega)) (OKS.fr (takB_off.oks hok (oki_takB (hok i (by omega) (by omega)) (by rw [q3]; omega) (by omega) (by omega) (by omega) (by omega) (by omega) (by omega))) ((Fr.rfl (ss := []) (ks := [47]) (js := [])).A (by decide)) (by decide)) ((hxo.trans (takB_off.xo (by omega) (by omega))).trans (XO.fr ((Fr.rfl (ss := []) (ks := [47]) (js := [])).A (by decide)) (by decide))) rfl)
              · refine tm_aload_n dX12_rebind_276 rfl 4 rfl ?_
                refine tm_get (k := 7) (v := .ref (b + 1 + 5)) lay_12 dX12_rebind_277 (by decide) fl12_26 rfl ?_
                refine tm_iconst dX12_rebind_280 ?_
                refine tm_iload_n dX12_rebind_281 rfl 2 rfl ?_
                refine tm_imul dX12_rebind_282 ?_
                refine tm_iald (z := 4 * x0) (v := σ.2.1 7 (4 * x0)) dX12_rebind_283 (show mT[5]? = some (7, 0, 11440) from rfl) (by omega) (by omega) (by decide) (rfl) ?_
                have g34 := RG.a hR 7 (4 * x0)
                refine tm_goto (tgt := 295) dX12_rebind_284 (by decide) ?_
                refine tm_iast (z := 220 * r + i) (v := σ.2.1 7 (4 * x0)) dX12_rebind_295 (show mT[4]? = some (6, 0, 2860) from rfl) (by omega) (by omega) (by decide) ?_
                refine tm_aload_n dX12_rebind_296 rfl 4 rfl ?_
                refine tm_iload dX12_rebind_297 0 rfl ?_
                refine tm_iconst dX12_rebind_299 ?_
                refine tm_aload_n dX12_rebind_300 rfl 4 rfl ?_
                refine tm_get (k := 7) (v := .ref (b + 1 + 5)) lay_12 dX12_rebind_301 (by decide) fl12_26 rfl ?_
                refine tm_iconst dX12_rebind_304 ?_
                refine tm_iload_n dX12_rebind_305 rfl 2 rfl ?_
                refine tm_imul dX12_rebind_306 ?_
                refine tm_iald (z := 4 * x0) (v := σ.2.1 7 (4 * x0)) dX12_rebind_307 (show mT[5]? = some (7, 0, 11440) from rfl) (by omega) (by omega) (by decide) (ra_o (by decide) (rfl)) ?_
                have g35 := RG.a hR 7 (4 * x0)
                refine tm_aload_n dX12_rebind_308 rfl 4 rfl ?_
                refine tm_get (k := 8) (v := .ref (b + 1 + 6)) lay_12 dX12_rebind_309 (by decide) fl12_29 rfl ?_
                refine tm_iconst dX12_rebind_312 ?_
                refine tm_iload_n dX12_rebind_313 rfl 2 rfl ?_
                refine tm_imul dX12_rebind_314 ?_
                refine tm_iald (z := 4 * x0) (v := σ.2.1 8 (4 * x0)) dX12_rebind_315 (show mT[6]? = some (8, 0, 11440) from rfl) (by omega) (by omega) (by decide) (ra_o (by decide) (rfl)) ?_
                have g36 := RG.a hR 8 (4 * x0)
                refine tm_callV (M := m_X12_rebind) (pc := 316) (ix := 298) (M' := m_X12_setArg) (As := [.int (iI (220 * r + i)), .int (iI 0), .int (iI (σ.2.1 7 (4 * x0))), .int (iI (σ.2.1 8 (4 * x0)))]) (rest := []) dX12_rebind_316 ok_X12_setArg im_X12_setArg se_X12_setArg ml12_298 np_X12_setArg rfl rfl (Nat.le_of_ble_eq_true rfl) (Nat.le_of_ble_eq_true rfl) rfl (c_X12_setArg (d) (σ := (sA 6 (220 * r + i) (σ.2.1 7 (4 * x0)) σ)) (x := 220 * r + i) (i := 0) (k := σ.2.1 7 (4 * x0)) (w := σ.2.1 8 (4 * x0)) (by omega)) (fun r37 σ38 hp => ?_)
                obtain ⟨rfl, f40⟩ := hp
                subst f40
                show Tm _ _ 319 b (fArg (220 * r + i) (0) (σ.2.1 7 (4 * x0)) (σ.2.1 8 (4 * x0)) (sA 6 (220 * r + i) (σ.2.1 7 (4 * x0)) σ)) [(7, .int (iI (220 * r + i))), (6, .int (iI i)), (3, .int (iI x0)), (4, .int (iI g)), (0, .ref b), (1, .int (iI r)), (2, .int (iI k0))] [] _
                refine tm_aload_n dX12_rebind_319 rfl 4 rfl ?_
                refine tm_get (k := 3) (v := .ref (b + 1 + 1)) lay_12 dX12_rebind_320 (by decide) fl12_13 rfl ?_
                refine tm_iload_n dX12_rebind_323 rfl 2 rfl ?_
                refine tm_iald (z := x0) (v := σ0.2.1 3 x0) dX12_rebind_324 (show mT[1]? = some (3, 0, 2860) from rfl) (by omega) (by omega) (by decide) (ra_F fArg_fr (by decide) (ra_o (by decide) (ra_F hF (by decide) (rfl)))) ?_
                have g41 := RG.a hR0 3 (x0)
                refine tm_if_eq (tgt := 355) dX12_rebind_325 (by decide) ⟨by omega, by omega⟩ (fun h42 => ?_) (fun h42 => ?_)
                · refine tm_aload_n dX12_rebind_355 rfl 4 rfl ?_
                  refine tm_get (k := 47) (v := .ref (b + 1 + 25)) lay_12 dX12_rebind_356 (by decide) fl12_91 rfl ?_
                  refine tm_iload dX12_rebind_359 1 rfl ?_
                  refine tm_iconst dX12_rebind_361 ?_
                  refine tm_zast (z := i) (v := 0) dX12_rebind_362 (show mT[25]? = some (47, 2, 221) from rfl) (by omega) (by omega) (by decide) (by omega) ?_
                  refine tm_iinc (q0 := 1) (L' := [(6, .int (iI (i + 1))), (7, .int (iI (220 * r + i))), (3, .int (iI x0)), (4, .int (iI g)), (0, .ref b), (1, .int (iI r)), (2, .int (iI k0))]) dX12_rebind_363 rfl (by decide) rfl ?_
                  refine tm_goto (tgt := 170) dX12_rebind_366 (by decide) ?_
                  exact tm_sub [0, 2, 3, 4, 5, 6] rfl (ih _ (by omega) (i + 1) (sA 47 (i) (0) (fArg (220 * r + i) (0) (σ.2.1 7 (4 * x0)) (σ.2.1 8 (4 * x0)) (sA 6 (220 * r + i) (σ.2.1 7 (4 * x0)) σ))) ((((Fr.rfl.trans (Fr.sub hF (by decide) (by decide) (by decide))).A (by decide)).trans (Fr.sub fArg_fr (by decide) (by decide) (by decide))).A (by decide)) (((hR.A (by omega)).arg (by omega) (by omega)).A (by omega)) (by omega) (BO.A (hbo.fr (show Fr [] [6, 7, 8] [] σ _ from ((Fr.rfl.A (by decide)).trans (Fr.sub fArg_fr (by decide) (by decide) (by decide)))) (by decide)) (by omega)) (OKS.fr (takA_off.oks hok (oki_takA (hok i (by omega) (by omega)) (by rw [q3]; omega) (by omega) (by omega) (by omega))) ((Fr.rfl (ss := []) (ks := [47]) (js := [])).A (by decide)) (by decide)) ((hxo.trans (takA_off.xo (by omega) (by omega))).trans (XO.fr ((Fr.rfl (ss := []) (ks := [47]) (js := [])).A (by decide)) (by decide))) rfl)
                · exact absurd h42 (by omega)
      · refine tm_aload_n dX12_rebind_198 rfl 3 rfl ?_
        refine tm_get (k := 3) (v := .ref (b + 1 + 1)) lay_12 dX12_rebind_199 (by decide) fl12_13 rfl ?_
        refine tm_aload_n dX12_rebind_202 rfl 3 rfl ?_
        refine tm_iload_n dX12_rebind_203 rfl 4 rfl ?_
        refine tm_iload dX12_rebind_204 0 rfl ?_
        refine tm_callV (M := m_X12_rebind) (pc := 206) (ix := 203) (M' := m_X12_at) (As := [.int (iI r), .int (iI i)]) (rest := [.ref (b + 1 + 1)]) dX12_rebind_206 ok_X12_at im_X12_at se_X12_at ml12_203 np_X12_at rfl rfl (Nat.le_of_ble_eq_true rfl) (Nat.le_of_ble_eq_true rfl) rfl (c_X12_at (d) (σ := σ) (x := r) (k := i) ) (fun r43 σ44 hp => ?_)
        obtain ⟨v45, rfl, rfl, f46⟩ := hp
        subst f46
        show Tm _ _ 209 b σ [(6, .int (iI i)), (3, .int (iI x0)), (4, .int (iI g)), (0, .ref b), (1, .int (iI r)), (2, .int (iI k0))] [.int (iI (220 * r + i)), .ref (b + 1 + 1)] _
        refine tm_iald (z := 220 * r + i) (v := σ0.2.1 3 (220 * r + i)) dX12_rebind_209 (show mT[1]? = some (3, 0, 2860) from rfl) (by omega) (by omega) (by decide) (ra_F hF (by decide) (rfl)) ?_
        have g47 := RG.a hR0 3 (220 * r + i)
        refine tm_bipush dX12_rebind_210 (by decide) ?_
        refine tm_icmp_ne (tgt := 369) dX12_rebind_212 (by decide) ⟨by omega, by omega⟩ ⟨by decide, by decide⟩ (fun h48 => ?_) (fun h48 => ?_)
        · exact tm_sub [0, 1, 2, 3, 4, 5] rfl (hx_369 (i) σ (Fr.rfl.trans (Fr.sub hF (by decide) (by decide) (by decide))) hR hbo hok hxo)
        · refine tm_aload_n dX12_rebind_215 rfl 3 rfl ?_
          refine tm_iload_n dX12_rebind_216 rfl 4 rfl ?_
          refine tm_iload dX12_rebind_217 0 rfl ?_
          refine tm_callV (M := m_X12_rebind) (pc := 219) (ix := 203) (M' := m_X12_at) (As := [.int (iI r), .int (iI i)]) (rest := []) dX12_rebind_219 ok_X12_at im_X12_at se_X12_at ml12_203 np_X12_at rfl rfl (Nat.le_of_ble_eq_true rfl) (Nat.le_of_ble_eq_true rfl) rfl (c_X12_at (d) (σ := σ) (x := r) (k := i) ) (fun r49 σ50 hp => ?_)
          obtain ⟨v51, rfl, rfl, f52⟩ := hp
          subst f52
          show Tm _ _ 222 b σ [(6, .int (iI i)), (3, .int (iI x0)), (4, .int (iI g)), (0, .ref b), (1, .int (iI r)), (2, .int (iI k0))] [.int (iI (220 * r + i))] _
          refine tm_istore (L' := [(7, .int (iI (220 * r + i))), (6, .int (iI i)), (3, .int (iI x0)), (4, .int (iI g)), (0, .ref b), (1, .int (iI r)), (2, .int (iI k0))]) dX12_rebind_222 (by decide) rfl ?_
          refine tm_aload_n dX12_rebind_224 rfl 4 rfl ?_
          refine tm_get (k := 3) (v := .ref (b + 1 + 1)) lay_12 dX12_rebind_225 (by decide) fl12_13 rfl ?_
          refine tm_iload dX12_rebind_228 0 rfl ?_
          refine tm_iald (z := 220 * r + i) (v := σ0.2.1 3 (220 * r + i)) dX12_rebind_230 (show mT[1]? = some (3, 0, 2860) from rfl) (by omega) (by omega) (by decide) (ra_F hF (by decide) (rfl)) ?_
          have g53 := RG.a hR0 3 (220 * r + i)
          refine tm_bipush dX12_rebind_231 (by decide) ?_
          refine tm_icmp_ne (tgt := 363) dX12_rebind_233 (by decide) ⟨by omega, by omega⟩ ⟨by decide, by decide⟩ (fun h54 => ?_) (fun h54 => ?_)
          · exact absurd h54 (by omega)
          · refine tm_aload_n dX12_rebind_236 rfl 4 rfl ?_
            refine tm_get (k := 6) (v := .ref (b + 1 + 4)) lay_12 dX12_rebind_237 (by decide) fl12_23 rfl ?_
            refine tm_iload dX12_rebind_240 0 rfl ?_
            refine tm_iald (z := 220 * r + i) (v := σ.2.1 6 (220 * r + i)) dX12_rebind_242 (show mT[4]? = some (6, 0, 2860) from rfl) (by omega) (by omega) (by decide) (rfl) ?_
            have g55 := RG.a hR 6 (220 * r + i)
            refine tm_iconst dX12_rebind_243 ?_
            refine tm_icmp_ne (tgt := 363) dX12_rebind_244 (by decide) ⟨by omega, by omega⟩ ⟨by decide, by decide⟩ (fun h56 => ?_) (fun h56 => ?_)
            · refine tm_iinc (q0 := 1) (L' := [(6, .int (iI (i + 1))), (7, .int (iI (220 * r + i))), (3, .int (iI x0)), (4, .int (iI g)), (0, .ref b), (1, .int (iI r)), (2, .int (iI k0))]) dX12_rebind_363 rfl (by decide) rfl ?_
              refine tm_goto (tgt := 170) dX12_rebind_366 (by decide) ?_
              exact tm_sub [0, 2, 3, 4, 5, 6] rfl (ih _ (by omega) (i + 1) σ (Fr.rfl.trans (Fr.sub hF (by decide) (by decide) (by decide))) hR (by omega) hbo hok hxo rfl)
            · refine tm_aload_n dX12_rebind_247 rfl 4 rfl ?_
              refine tm_get (k := 8) (v := .ref (b + 1 + 6)) lay_12 dX12_rebind_248 (by decide) fl12_29 rfl ?_
              refine tm_iconst dX12_rebind_251 ?_
              refine tm_iload dX12_rebind_252 0 rfl ?_
              refine tm_imul dX12_rebind_254 ?_
              refine tm_iald (z := 4 * (220 * r + i)) (v := σ.2.1 8 (4 * (220 * r + i))) dX12_rebind_255 (show mT[6]? = some (8, 0, 11440) from rfl) (by omega) (by omega) (by decide) (rfl) ?_
              have g57 := RG.a hR 8 (4 * (220 * r + i))
              refine tm_iload dX12_rebind_256 3 rfl ?_
              refine tm_icmp_ne (tgt := 363) dX12_rebind_258 (by decide) ⟨by omega, by omega⟩ ⟨by omega, by omega⟩ (fun h58 => ?_) (fun h58 => ?_)
              · refine tm_iinc (q0 := 1) (L' := [(6, .int (iI (i + 1))), (7, .int (iI (220 * r + i))), (3, .int (iI x0)), (4, .int (iI g)), (0, .ref b), (1, .int (iI r)), (2, .int (iI k0))]) dX12_rebind_363 rfl (by decide) rfl ?_
                refine tm_goto (tgt := 170) dX12_rebind_366 (by decide) ?_
                exact tm_sub [0, 2, 3, 4, 5, 6] rfl (ih _ (by omega) (i + 1) σ (Fr.rfl.trans (Fr.sub hF (by decide) (by decide) (by decide))) hR (by omega) hbo hok hxo rfl)
              · refine tm_aload_n dX12_rebind_261 rfl 4 rfl ?_
                refine tm_get (k := 6) (v := .ref (b + 1 + 4)) lay_12 dX12_rebind_262 (by decide) fl12_23 rfl ?_
                refine tm_iload dX12_rebind_265 0 rfl ?_
                refine tm_aload_n dX12_rebind_267 rfl 4 rfl ?_
                refine tm_get (k := 3) (v := .ref (b + 1 + 1)) lay_12 dX12_rebind_268 (by decide) fl12_13 rfl ?_
                refine tm_iload_n dX12_rebind_271 rfl 2 rfl ?_
                refine tm_iald (z := x0) (v := σ0.2.1 3 x0) dX12_rebind_272 (show mT[1]? = some (3, 0, 2860) from rfl) (by omega) (by omega) (by decide) (ra_F hF (by decide) (rfl)) ?_
                have g59 := RG.a hR0 3 (x0)
                refine tm_if_ne (tgt := 287) dX12_rebind_273 (by decide) ⟨by omega, by omega⟩ (fun h60 => ?_) (fun h60 => ?_)
                · refine tm_aload_n dX12_rebind_287 rfl 4 rfl ?_
                  refine tm_get (k := 3) (v := .ref (b + 1 + 1)) lay_12 dX12_rebind_288 (by decide) fl12_13 rfl ?_
                  refine tm_iload_n dX12_rebind_291 rfl 2 rfl ?_
                  refine tm_iald (z := x0) (v := σ0.2.1 3 x0) dX12_rebind_292 (show mT[1]? = some (3, 0, 2860) from rfl) (by omega) (by omega) (by decide) (ra_F hF (by decide) (rfl)) ?_
                  have g61 := RG.a hR0 3 (x0)
                  refine tm_iconst dX12_rebind_293 ?_
                  refine tm_iadd dX12_rebind_294 ?_
                  refine tm_iast (z := 220 * r + i) (v := (σ0.2.1 3 x0) + 2) dX12_rebind_295 (show mT[4]? = some (6, 0, 2860) from rfl) (by omega) (by omega) (by decide) ?_
                  refine tm_aload_n dX12_rebind_296 rfl 4 rfl ?_
                  refine tm_iload dX12_rebind_297 0 rfl ?_
                  refine tm_iconst dX12_rebind_299 ?_
                  refine tm_aload_n dX12_rebind_300 rfl 4 rfl ?_
                  refine tm_get (k := 7) (v := .ref (b + 1 + 5)) lay_12 dX12_rebind_301 (by decide) fl12_26 rfl ?_
                  refine tm_iconst dX12_rebind_304 ?_
                  refine tm_iload_n dX12_rebind_305 rfl 2 rfl ?_
                  refine tm_imul dX12_rebind_306 ?_
                  refine tm_iald (z := 4 * x0) (v := σ.2.1 7 (4 * x0)) dX12_rebind_307 (show mT[5]? = some (7, 0, 11440) from rfl) (by omega) (by omega) (by decide) (ra_o (by decide) (rfl)) ?_
                  have g62 := RG.a hR 7 (4 * x0)
                  refine tm_aload_n dX12_rebind_308 rfl 4 rfl ?_
                  refine tm_get (k := 8) (v := .ref (b + 1 + 6)) lay_12 dX12_rebind_309 (by decide) fl12_29 rfl ?_
                  refine tm_iconst dX12_rebind_312 ?_
                  refine tm_iload_n dX12_rebind_313 rfl 2 rfl ?_
                  refine tm_imul dX12_rebind_314 ?_
                  refine tm_iald (z := 4 * x0) (v := σ.2.1 8 (4 * x0)) dX12_rebind_315 (show mT[6]? = some (8, 0, 11440) from rfl) (by omega) (by omega) (by decide) (ra_o (by decide) (rfl)) ?_
                  have g63 := RG.a hR 8 (4 * x0)
                  refine tm_callV (M := m_X12_rebind) (pc := 316) (ix := 298) (M' := m_X12_setArg) (As := [.int (iI (220 * r + i)), .int (iI 0), .int (iI (σ.2.1 7 (4 * x0))), .int (iI (σ.2.1 8 (4 * x0)))]) (rest := []) dX12_rebind_316 ok_X12_setArg im_X12_setArg se_X12_setArg ml12_298 np_X12_setArg rfl rfl (Nat.le_of_ble_eq_true rfl) (Nat.le_of_ble_eq_true rfl) rfl (c_X12_setArg (d) (σ := (sA 6 (220 * r + i) ((σ0.2.1 3 x0) + 2) σ)) (x := 220 * r + i) (i := 0) (k := σ.2.1 7 (4 * x0)) (w := σ.2.1 8 (4 * x0)) (by omega)) (fun r64 σ65 hp => ?_)
                  obtain ⟨rfl, f67⟩ := hp
                  subst f67
                  show Tm _ _ 319 b (fArg (220 * r + i) (0) (σ.2.1 7 (4 * x0)) (σ.2.1 8 (4 * x0)) (sA 6 (220 * r + i) ((σ0.2.1 3 x0) + 2) σ)) [(7, .int (iI (220 * r + i))), (6, .int (iI i)), (3, .int (iI x0)), (4, .int (iI g)), (0, .ref b), (1, .int (iI r)), (2, .int (iI k0))] [] _
                  refine tm_aload_n dX12_rebind_319 rfl 4 rfl ?_
                  refine tm_get (k := 3) (v := .ref (b + 1 + 1)) lay_12 dX12_rebind_320 (by decide) fl12_13 rfl ?_
                  refine tm_iload_n dX12_rebind_323 rfl 2 rfl ?_
                  refine tm_iald (z := x0) (v := σ0.2.1 3 x0) dX12_rebind_324 (show mT[1]? = some (3, 0, 2860) from rfl) (by omega) (by omega) (by decide) (ra_F fArg_fr (by decide) (ra_o (by decide) (ra_F hF (by decide) (rfl)))) ?_
                  have g68 := RG.a hR0 3 (x0)
                  refine tm_if_eq (tgt := 355) dX12_rebind_325 (by decide) ⟨by omega, by omega⟩ (fun h69 => ?_) (fun h69 => ?_)
                  · exact absurd h69 (by omega)
                  · refine tm_aload_n dX12_rebind_328 rfl 4 rfl ?_
                    refine tm_iload dX12_rebind_329 0 rfl ?_
                    refine tm_iconst dX12_rebind_331 ?_
                    refine tm_aload_n dX12_rebind_332 rfl 4 rfl ?_
                    refine tm_get (k := 7) (v := .ref (b + 1 + 5)) lay_12 dX12_rebind_333 (by decide) fl12_26 rfl ?_
                    refine tm_iconst dX12_rebind_336 ?_
                    refine tm_iload_n dX12_rebind_337 rfl 2 rfl ?_
                    refine tm_imul dX12_rebind_338 ?_
                    refine tm_iconst dX12_rebind_339 ?_
                    refine tm_iadd dX12_rebind_340 ?_
                    refine tm_iald (z := (4 * x0) + 1) (v := (fArg (220 * r + i) (0) (σ.2.1 7 (4 * x0)) (σ.2.1 8 (4 * x0)) (sA 6 (220 * r + i) ((σ0.2.1 3 x0) + 2) σ)).2.1 7 ((4 * x0) + 1)) dX12_rebind_341 (show mT[5]? = some (7, 0, 11440) from rfl) (by omega) (by omega) (by decide) (rfl) ?_
                    have : (fArg (220 * r + i) (0) (σ.2.1 7 (4 * x0)) (σ.2.1 8 (4 * x0)) (sA 6 (220 * r + i) ((σ0.2.1 3 x0) + 2) σ)).2.1 7 ((4 * x0) + 1) = σ.2.1 7 ((4 * x0) + 1) := ra_o (by decide) (ra_ne (by omega) (ra_o (by decide) rfl))
                    refine tm_aload_n dX12_rebind_342 rfl 4 rfl ?_
                    refine tm_get (k := 8) (v := .ref (b + 1 + 6)) lay_12 dX12_rebind_343 (by decide) fl12_29 rfl ?_
                    refine tm_iconst dX12_rebind_346 ?_
                    refine tm_iload_n dX12_rebind_347 rfl 2 rfl ?_
                    refine tm_imul dX12_rebind_348 ?_
                    refine tm_iconst dX12_rebind_349 ?_
                    refine tm_iadd dX12_rebind_350 ?_
                    refine tm_iald (z := (4 * x0) + 1) (v := (fArg (220 * r + i) (0) (σ.2.1 7 (4 * x0)) (σ.2.1 8 (4 * x0)) (sA 6 (220 * r + i) ((σ0.2.1 3 x0) + 2) σ)).2.1 8 ((4 * x0) + 1)) dX12_rebind_351 (show mT[6]? = some (8, 0, 11440) from rfl) (by omega) (by omega) (by decide) (rfl) ?_
                    have : (fArg (220 * r + i) (0) (σ.2.1 7 (4 * x0)) (σ.2.1 8 (4 * x0)) (sA 6 (220 * r + i) ((σ0.2.1 3 x0) + 2) σ)).2.1 8 ((4 * x0) + 1) = σ.2.1 8 ((4 * x0) + 1) := ra_ne (by omega) (ra_o (by decide) (ra_o (by decide) rfl))
                    refine tm_callV (M := m_X12_rebind) (pc := 352) (ix := 298) (M' := m_X12_setArg) (As := [.int (iI (220 * r + i)), .int (iI 1), .int (iI ((fArg (220 * r + i) (0) (σ.2.1 7 (4 * x0)) (σ.2.1 8 (4 * x0)) (sA 6 (220 * r + i) ((σ0.2.1 3 x0) + 2) σ)).2.1 7 ((4 * x0) + 1))), .int (iI ((fArg (220 * r + i) (0) (σ.2.1 7 (4 * x0)) (σ.2.1 8 (4 * x0)) (sA 6 (220 * r + i) ((σ0.2.1 3 x0) + 2) σ)).2.1 8 ((4 * x0) + 1)))]) (rest := []) dX12_rebind_352 ok_X12_setArg im_X12_setArg se_X12_setArg ml12_298 np_X12_setArg rfl rfl (Nat.le_of_ble_eq_true rfl) (Nat.le_of_ble_eq_true rfl) rfl (c_X12_setArg (d) (σ := (fArg (220 * r + i) (0) (σ.2.1 7 (4 * x0)) (σ.2.1 8 (4 * x0)) (sA 6 (220 * r + i) ((σ0.2.1 3 x0) + 2) σ))) (x := 220 * r + i) (i := 1) (k := (fArg (220 * r + i) (0) (σ.2.1 7 (4 * x0)) (σ.2.1 8 (4 * x0)) (sA 6 (220 * r + i) ((σ0.2.1 3 x0) + 2) σ)).2.1 7 ((4 * x0) + 1)) (w := (fArg (220 * r + i) (0) (σ.2.1 7 (4 * x0)) (σ.2.1 8 (4 * x0)) (sA 6 (220 * r + i) ((σ0.2.1 3 x0) + 2) σ)).2.1 8 ((4 * x0) + 1)) (by omega)) (fun r70 σ71 hp => ?_)
                    obtain ⟨rfl, f73⟩ := hp
                    subst f73
                    show Tm _ _ 355 b (fArg (220 * r + i) (1) ((fArg (220 * r + i) (0) (σ.2.1 7 (4 * x0)) (σ.2.1 8 (4 * x0)) (sA 6 (220 * r + i) ((σ0.2.1 3 x0) + 2) σ)).2.1 7 ((4 * x0) + 1)) ((fArg (220 * r + i) (0) (σ.2.1 7 (4 * x0)) (σ.2.1 8 (4 * x0)) (sA 6 (220 * r + i) ((σ0.2.1 3 x0) + 2) σ)).2.1 8 ((4 * x0) + 1)) (fArg (220 * r + i) (0) (σ.2.1 7 (4 * x0)) (σ.2.1 8 (4 * x0)) (sA 6 (220 * r + i) ((σ0.2.1 3 x0) + 2) σ))) [(7, .int (iI (220 * r + i))), (6, .int (iI i)), (3, .int (iI x0)), (4, .int (iI g)), (0, .ref b), (1, .int (iI r)), (2, .int (iI k0))] [] _
                    refine tm_aload_n dX12_rebind_355 rfl 4 rfl ?_
                    refine tm_get (k := 47) (v := .ref (b + 1 + 25)) lay_12 dX12_rebind_356 (by decide) fl12_91 rfl ?_
                    refine tm_iload dX12_rebind_359 1 rfl ?_
                    refine tm_iconst dX12_rebind_361 ?_
                    refine tm_zast (z := i) (v := 0) dX12_rebind_362 (show mT[25]? = some (47, 2, 221) from rfl) (by omega) (by omega) (by decide) (by omega) ?_
                    refine tm_iinc (q0 := 1) (L' := [(6, .int (iI (i + 1))), (7, .int (iI (220 * r + i))), (3, .int (iI x0)), (4, .int (iI g)), (0, .ref b), (1, .int (iI r)), (2, .int (iI k0))]) dX12_rebind_363 rfl (by decide) rfl ?_
                    refine tm_goto (tgt := 170) dX12_rebind_366 (by decide) ?_
                    exact tm_sub [0, 2, 3, 4, 5, 6] rfl (ih _ (by omega) (i + 1) (sA 47 (i) (0) (fArg (220 * r + i) (1) ((fArg (220 * r + i) (0) (σ.2.1 7 (4 * x0)) (σ.2.1 8 (4 * x0)) (sA 6 (220 * r + i) ((σ0.2.1 3 x0) + 2) σ)).2.1 7 ((4 * x0) + 1)) ((fArg (220 * r + i) (0) (σ.2.1 7 (4 * x0)) (σ.2.1 8 (4 * x0)) (sA 6 (220 * r + i) ((σ0.2.1 3 x0) + 2) σ)).2.1 8 ((4 * x0) + 1)) (fArg (220 * r + i) (0) (σ.2.1 7 (4 * x0)) (σ.2.1 8 (4 * x0)) (sA 6 (220 * r + i) ((σ0.2.1 3 x0) + 2) σ)))) (((((Fr.rfl.trans (Fr.sub hF (by decide) (by decide) (by decide))).A (by decide)).trans (Fr.sub fArg_fr (by decide) (by decide) (by decide))).trans (Fr.sub fArg_fr (by decide) (by decide) (by decide))).A (by decide)) ((((hR.A (by omega)).arg (by omega) (by omega)).arg (by omega) (by omega)).A (by omega)) (by omega) (BO.A (hbo.fr (show Fr [] [6, 7, 8] [] σ _ from (((Fr.rfl.A (by decide)).trans (Fr.sub fArg_fr (by decide) (by decide) (by decide))).trans (Fr.sub fArg_fr (by decide) (by decide) (by decide)))) (by decide)) (by omega)) (OKS.fr (takB_off.oks hok (oki_takB (hok i (by omega) (by omega)) (by rw [q3]; omega) (by omega) (by omega) (by omega) (by omega) (by omega) (by omega))) ((Fr.rfl (ss := []) (ks := [47]) (js := [])).A (by decide)) (by decide)) ((hxo.trans (takB_off.xo (by omega) (by omega))).trans (XO.fr ((Fr.rfl (ss := []) (ks := [47]) (js := [])).A (by decide)) (by decide))) rfl)
                · refine tm_aload_n dX12_rebind_276 rfl 4 rfl ?_
                  refine tm_get (k := 7) (v := .ref (b + 1 + 5)) lay_12 dX12_rebind_277 (by decide) fl12_26 rfl ?_
                  refine tm_iconst dX12_rebind_280 ?_
                  refine tm_iload_n dX12_rebind_281 rfl 2 rfl ?_
                  refine tm_imul dX12_rebind_282 ?_
                  refine tm_iald (z := 4 * x0) (v := σ.2.1 7 (4 * x0)) dX12_rebind_283 (show mT[5]? = some (7, 0, 11440) from rfl) (by omega) (by omega) (by decide) (rfl) ?_
                  have g74 := RG.a hR 7 (4 * x0)
                  refine tm_goto (tgt := 295) dX12_rebind_284 (by decide) ?_
                  refine tm_iast (z := 220 * r + i) (v := σ.2.1 7 (4 * x0)) dX12_rebind_295 (show mT[4]? = some (6, 0, 2860) from rfl) (by omega) (by omega) (by decide) ?_
                  refine tm_aload_n dX12_rebind_296 rfl 4 rfl ?_
                  refine tm_iload dX12_rebind_297 0 rfl ?_
                  refine tm_iconst dX12_rebind_299 ?_
                  refine tm_aload_n dX12_rebind_300 rfl 4 rfl ?_
                  refine tm_get (k := 7) (v := .ref (b + 1 + 5)) lay_12 dX12_rebind_301 (by decide) fl12_26 rfl ?_
                  refine tm_iconst dX12_rebind_304 ?_
                  refine tm_iload_n dX12_rebind_305 rfl 2 rfl ?_
                  refine tm_imul dX12_rebind_306 ?_
                  refine tm_iald (z := 4 * x0) (v := σ.2.1 7 (4 * x0)) dX12_rebind_307 (show mT[5]? = some (7, 0, 11440) from rfl) (by omega) (by omega) (by decide) (ra_o (by decide) (rfl)) ?_
                  have g75 := RG.a hR 7 (4 * x0)
                  refine tm_aload_n dX12_rebind_308 rfl 4 rfl ?_
                  refine tm_get (k := 8) (v := .ref (b + 1 + 6)) lay_12 dX12_rebind_309 (by decide) fl12_29 rfl ?_
                  refine tm_iconst dX12_rebind_312 ?_
                  refine tm_iload_n dX12_rebind_313 rfl 2 rfl ?_
                  refine tm_imul dX12_rebind_314 ?_
                  refine tm_iald (z := 4 * x0) (v := σ.2.1 8 (4 * x0)) dX12_rebind_315 (show mT[6]? = some (8, 0, 11440) from rfl) (by omega) (by omega) (by decide) (ra_o (by decide) (rfl)) ?_
                  have g76 := RG.a hR 8 (4 * x0)
                  refine tm_callV (M := m_X12_rebind) (pc := 316) (ix := 298) (M' := m_X12_setArg) (As := [.int (iI (220 * r + i)), .int (iI 0), .int (iI (σ.2.1 7 (4 * x0))), .int (iI (σ.2.1 8 (4 * x0)))]) (rest := []) dX12_rebind_316 ok_X12_setArg im_X12_setArg se_X12_setArg ml12_298 np_X12_setArg rfl rfl (Nat.le_of_ble_eq_true rfl) (Nat.le_of_ble_eq_true rfl) rfl (c_X12_setArg (d) (σ := (sA 6 (220 * r + i) (σ.2.1 7 (4 * x0)) σ)) (x := 220 * r + i) (i := 0) (k := σ.2.1 7 (4 * x0)) (w := σ.2.1 8 (4 * x0)) (by omega)) (fun r77 σ78 hp => ?_)
                  obtain ⟨rfl, f80⟩ := hp
                  subst f80
                  show Tm _ _ 319 b (fArg (220 * r + i) (0) (σ.2.1 7 (4 * x0)) (σ.2.1 8 (4 * x0)) (sA 6 (220 * r + i) (σ.2.1 7 (4 * x0)) σ)) [(7, .int (iI (220 * r + i))), (6, .int (iI i)), (3, .int (iI x0)), (4, .int (iI g)), (0, .ref b), (1, .int (iI r)), (2, .int (iI k0))] [] _
                  refine tm_aload_n dX12_rebind_319 rfl 4 rfl ?_
                  refine tm_get (k := 3) (v := .ref (b + 1 + 1)) lay_12 dX12_rebind_320 (by decide) fl12_13 rfl ?_
                  refine tm_iload_n dX12_rebind_323 rfl 2 rfl ?_
                  refine tm_iald (z := x0) (v := σ0.2.1 3 x0) dX12_rebind_324 (show mT[1]? = some (3, 0, 2860) from rfl) (by omega) (by omega) (by decide) (ra_F fArg_fr (by decide) (ra_o (by decide) (ra_F hF (by decide) (rfl)))) ?_
                  have g81 := RG.a hR0 3 (x0)
                  refine tm_if_eq (tgt := 355) dX12_rebind_325 (by decide) ⟨by omega, by omega⟩ (fun h82 => ?_) (fun h82 => ?_)
                  · refine tm_aload_n dX12_rebind_355 rfl 4 rfl ?_
                    refine tm_get (k := 47) (v := .ref (b + 1 + 25)) lay_12 dX12_rebind_356 (by decide) fl12_91 rfl ?_
                    refine tm_iload dX12_rebind_359 1 rfl ?_
                    refine tm_iconst dX12_rebind_361 ?_
                    refine tm_zast (z := i) (v := 0) dX12_rebind_362 (show mT[25]? = some (47, 2, 221) from rfl) (by omega) (by omega) (by decide) (by omega) ?_
                    refine tm_iinc (q0 := 1) (L' := [(6, .int (iI (i + 1))), (7, .int (iI (220 * r + i))), (3, .int (iI x0)), (4, .int (iI g)), (0, .ref b), (1, .int (iI r)), (2, .int (iI k0))]) dX12_rebind_363 rfl (by decide) rfl ?_
                    refine tm_goto (tgt := 170) dX12_rebind_366 (by decide) ?_
                    exact tm_sub [0, 2, 3, 4, 5, 6] rfl (ih _ (by omega) (i + 1) (sA 47 (i) (0) (fArg (220 * r + i) (0) (σ.2.1 7 (4 * x0)) (σ.2.1 8 (4 * x0)) (sA 6 (220 * r + i) (σ.2.1 7 (4 * x0)) σ))) ((((Fr.rfl.trans (Fr.sub hF (by decide) (by decide) (by decide))).A (by decide)).trans (Fr.sub fArg_fr (by decide) (by decide) (by decide))).A (by decide)) (((hR.A (by omega)).arg (by omega) (by omega)).A (by omega)) (by omega) (BO.A (hbo.fr (show Fr [] [6, 7, 8] [] σ _ from ((Fr.rfl.A (by decide)).trans (Fr.sub fArg_fr (by decide) (by decide) (by decide)))) (by decide)) (by omega)) (OKS.fr (takA_off.oks hok (oki_takA (hok i (by omega) (by omega)) (by rw [q3]; omega) (by omega) (by omega) (by omega))) ((Fr.rfl (ss := []) (ks := [47]) (js := [])).A (by decide)) (by decide)) ((hxo.trans (takA_off.xo (by omega) (by omega))).trans (XO.fr ((Fr.rfl (ss := []) (ks := [47]) (js := [])).A (by decide)) (by decide))) rfl)
                  · exact absurd h82 (by omega)
theorem dX12_rebind_0 : decode cX12_rebind 0 = .ok (.aload_n 0, 1) := by decide +kernel
theorem dX12_rebind_1 : decode cX12_rebind 1 = .ok (.iload_n 1, 1) := by decide +kernel
theorem dX12_rebind_2 : decode cX12_rebind 2 = .ok (.iload_n 2, 1) := by decide +kernel
theorem dX12_rebind_3 : decode cX12_rebind 3 = .ok (.invokevirtual 203, 3) := by decide +kernel
theorem dX12_rebind_6 : decode cX12_rebind 6 = .ok (.istore_n 3, 1) := by decide +kernel
theorem dX12_rebind_7 : decode cX12_rebind 7 = .ok (.aload_n 0, 1) := by decide +kernel
theorem dX12_rebind_8 : decode cX12_rebind 8 = .ok (.getfield 17, 3) := by decide +kernel
theorem dX12_rebind_11 : decode cX12_rebind 11 = .ok (.iload_n 3, 1) := by decide +kernel
theorem dX12_rebind_12 : decode cX12_rebind 12 = .ok (.iaload, 1) := by decide +kernel
theorem dX12_rebind_13 : decode cX12_rebind 13 = .ok (.istore 4, 2) := by decide +kernel
theorem dX12_rebind_15 : decode cX12_rebind 15 = .ok (.iconst 0, 1) := by decide +kernel
theorem dX12_rebind_16 : decode cX12_rebind 16 = .ok (.istore 5, 2) := by decide +kernel
theorem dX12_rebind_43 : decode cX12_rebind 43 = .ok (.aload_n 0, 1) := by decide +kernel
theorem dX12_rebind_44 : decode cX12_rebind 44 = .ok (.getfield 91, 3) := by decide +kernel
theorem dX12_rebind_47 : decode cX12_rebind 47 = .ok (.iload_n 2, 1) := by decide +kernel
theorem dX12_rebind_48 : decode cX12_rebind 48 = .ok (.iconst 1, 1) := by decide +kernel
theorem dX12_rebind_49 : decode cX12_rebind 49 = .ok (.iadd, 1) := by decide +kernel
theorem dX12_rebind_50 : decode cX12_rebind 50 = .ok (.iconst 1, 1) := by decide +kernel
theorem dX12_rebind_51 : decode cX12_rebind 51 = .ok (.bastore, 1) := by decide +kernel
theorem dX12_rebind_52 : decode cX12_rebind 52 = .ok (.iconst 1, 1) := by decide +kernel
theorem dX12_rebind_53 : decode cX12_rebind 53 = .ok (.istore 5, 2) := by decide +kernel
theorem dX12_rebind_165 : decode cX12_rebind 165 = .ok (.iload_n 2, 1) := by decide +kernel
theorem dX12_rebind_166 : decode cX12_rebind 166 = .ok (.iconst 1, 1) := by decide +kernel
theorem dX12_rebind_167 : decode cX12_rebind 167 = .ok (.iadd, 1) := by decide +kernel
theorem dX12_rebind_168 : decode cX12_rebind 168 = .ok (.istore 6, 2) := by decide +kernel
theorem dX12_rebind_369 : decode cX12_rebind 369 = .ok (.iconst 0, 1) := by decide +kernel
theorem dX12_rebind_370 : decode cX12_rebind 370 = .ok (.istore 6, 2) := by decide +kernel
theorem dX12_rebind_458 : decode cX12_rebind 458 = .ok (.return_, 1) := by decide +kernel
set_option maxHeartbeats 4000000 in
set_option maxRecDepth 20000 in
theorem c_X12_rebind (d : Nat) {b : Nat} {σ : MS} {r : Int} {k0 : Int} {F : Int} (hr : 0 ≤ r ∧ r < 6) (hR : RG σ) (hit : ITM σ) (hpar : PAR σ) (hok : OKS σ F r) (htg : TGT σ r) (hbo : BO 47 σ) (hk : 0 ≤ k0 ∧ k0 < σ.2.1 9 r) (hk5 : σ.2.1 3 (220 * r + k0) ≤ 5) : Tm (d + 6) m_X12_rebind 0 b σ [(0, .ref b), (1, .int (iI r)), (2, .int (iI k0))] [] (fun ro σ2 => ro = none ∧ (Fr [] [6, 7, 8, 47] [] σ σ2) ∧ (RG σ2) ∧ (OKS σ2 F r) ∧ (XO r σ σ2) ∧ (BO 47 σ2)) := by
  have q1 := hit r (by omega) (by omega)
  have hgd := hok.dest (k := k0) (by omega) (by omega) (Or.inl hk5)
  refine tm_aload_n dX12_rebind_0 rfl 0 rfl ?_
  refine tm_iload_n dX12_rebind_1 rfl 1 rfl ?_
  refine tm_iload_n dX12_rebind_2 rfl 2 rfl ?_
  refine tm_callV (M := m_X12_rebind) (pc := 3) (ix := 203) (M' := m_X12_at) (As := [.int (iI r), .int (iI k0)]) (rest := []) dX12_rebind_3 ok_X12_at im_X12_at se_X12_at ml12_203 np_X12_at rfl rfl (Nat.le_of_ble_eq_true rfl) (Nat.le_of_ble_eq_true rfl) rfl (c_X12_at (d + 4) (σ := σ) (x := r) (k := k0) ) (fun r1 σ2 hp => ?_)
  obtain ⟨v3, rfl, rfl, f4⟩ := hp
  subst f4
  show Tm _ _ 6 b σ [(0, .ref b), (1, .int (iI r)), (2, .int (iI k0))] [.int (iI (220 * r + k0))] _
  refine tm_istore_n (L' := [(3, .int (iI (220 * r + k0))), (0, .ref b), (1, .int (iI r)), (2, .int (iI k0))]) dX12_rebind_6 rfl (by decide) rfl ?_
  refine tm_aload_n dX12_rebind_7 rfl 1 rfl ?_
  refine tm_get (k := 4) (v := .ref (b + 1 + 2)) lay_12 dX12_rebind_8 (by decide) fl12_17 rfl ?_
  refine tm_iload_n dX12_rebind_11 rfl 0 rfl ?_
  refine tm_iald (z := 220 * r + k0) (v := σ.2.1 4 (220 * r + k0)) dX12_rebind_12 (show mT[2]? = some (4, 0, 2860) from rfl) (by omega) (by omega) (by decide) (rfl) ?_
  have g5 := RG.a hR 4 (220 * r + k0)
  refine tm_istore (L' := [(4, .int (iI (σ.2.1 4 (220 * r + k0)))), (3, .int (iI (220 * r + k0))), (0, .ref b), (1, .int (iI r)), (2, .int (iI k0))]) dX12_rebind_13 (by decide) rfl ?_
  refine tm_iconst dX12_rebind_15 ?_
  refine tm_istore (L' := [(5, .int (iI 0)), (4, .int (iI (σ.2.1 4 (220 * r + k0)))), (3, .int (iI (220 * r + k0))), (0, .ref b), (1, .int (iI r)), (2, .int (iI k0))]) dX12_rebind_16 (by decide) rfl ?_
  refine tm_sub [0, 2, 1, 3, 4, 5] rfl (l_reb1 (d + 5) (σ0 := σ) (r := r) (g := σ.2.1 4 (220 * r + k0)) (k0 := k0) (x0 := 220 * r + k0) hr hR q1 (fun k11 σ12 F8 R9 f10 => ?_) _ (0) σ Fr.rfl hR (by omega) hbo rfl)
  show Tm _ _ 43 b σ12 [(5, .int (iI k11)), (3, .int (iI (220 * r + k0))), (4, .int (iI (σ.2.1 4 (220 * r + k0)))), (0, .ref b), (1, .int (iI r)), (2, .int (iI k0))] [] _
  have hbo1 := f10
  refine tm_aload_n dX12_rebind_43 rfl 3 rfl ?_
  refine tm_get (k := 47) (v := .ref (b + 1 + 25)) lay_12 dX12_rebind_44 (by decide) fl12_91 rfl ?_
  refine tm_iload_n dX12_rebind_47 rfl 5 rfl ?_
  refine tm_iconst dX12_rebind_48 ?_
  refine tm_iadd dX12_rebind_49 ?_
  refine tm_iconst dX12_rebind_50 ?_
  refine tm_zast (z := k0 + 1) (v := 1) dX12_rebind_51 (show mT[25]? = some (47, 2, 221) from rfl) (by omega) (by omega) (by decide) (by omega) ?_
  refine tm_iconst dX12_rebind_52 ?_
  refine tm_istore (L' := [(5, .int (iI 1)), (3, .int (iI (220 * r + k0))), (4, .int (iI (σ.2.1 4 (220 * r + k0)))), (0, .ref b), (1, .int (iI r)), (2, .int (iI k0))]) dX12_rebind_53 (by decide) rfl ?_
  refine tm_sub [0, 1, 2, 3, 4, 5] rfl (l_reb2 (d + 3) (σ0 := (sA 47 (k0 + 1) (1) σ12)) (r := r) (g := σ.2.1 4 (220 * r + k0)) (k0 := k0) (x0 := 220 * r + k0) (m := (σ.2.1 9 r)) hr (R9.A (by omega)) (hit.fr (show Fr [] [47] [] σ (sA 47 (k0 + 1) (1) σ12) from ((Fr.rfl.trans (Fr.sub F8 (by decide) (by decide) (by decide))).A (by decide))) (by decide)) (hok.jmp.fr (show Fr [] [47] [] σ (sA 47 (k0 + 1) (1) σ12) from ((Fr.rfl.trans (Fr.sub F8 (by decide) (by decide) (by decide))).A (by decide))) (by decide)) (htg.fr (show Fr [] [47] [] σ (sA 47 (k0 + 1) (1) σ12) from ((Fr.rfl.trans (Fr.sub F8 (by decide) (by decide) (by decide))).A (by decide))) (by decide)) (by rw [((show Fr [] [47] [] σ (sA 47 (k0 + 1) (1) σ12) from ((Fr.rfl.trans (Fr.sub F8 (by decide) (by decide) (by decide))).A (by decide)))).2.1 9 (by decide)]) (by omega) (fun w18 σ19 F15 R16 f17 => ?_) _ (1) (sA 47 (k0 + 1) (1) σ12) Fr.rfl (R9.A (by omega)) (by omega) (BO.A hbo1 (by omega)) rfl)
  show Tm _ _ 165 b σ19 [(5, .int (iI w18)), (3, .int (iI (220 * r + k0))), (4, .int (iI (σ.2.1 4 (220 * r + k0)))), (0, .ref b), (1, .int (iI r)), (2, .int (iI k0))] [] _
  have hbo2 := f17
  have hx2 : XO r σ σ19 := XO.fr (show Fr [] [47] [] σ σ19 from (((Fr.rfl.trans (Fr.sub F8 (by decide) (by decide) (by decide))).A (by decide)).trans (Fr.sub F15 (by decide) (by decide) (by decide)))) (by decide)
  refine tm_iload_n dX12_rebind_165 rfl 5 rfl ?_
  refine tm_iconst dX12_rebind_166 ?_
  refine tm_iadd dX12_rebind_167 ?_
  refine tm_istore (L' := [(6, .int (iI (k0 + 1))), (5, .int (iI w18)), (3, .int (iI (220 * r + k0))), (4, .int (iI (σ.2.1 4 (220 * r + k0)))), (0, .ref b), (1, .int (iI r)), (2, .int (iI k0))]) dX12_rebind_168 (by decide) rfl ?_
  refine tm_sub [0, 2, 3, 4, 5, 6] rfl (l_reb5 (d + 4) (σ0 := σ19) (r := r) (g := σ.2.1 4 (220 * r + k0)) (k0 := k0) (x0 := 220 * r + k0) (F := F) hr R16 (by rw [((show Fr [] [47] [] σ σ19 from (((Fr.rfl.trans (Fr.sub F8 (by decide) (by decide) (by decide))).A (by decide)).trans (Fr.sub F15 (by decide) (by decide) (by decide))))).2.1 9 (by decide)]; exact q1) (by rw [((show Fr [] [47] [] σ σ19 from (((Fr.rfl.trans (Fr.sub F8 (by decide) (by decide) (by decide))).A (by decide)).trans (Fr.sub F15 (by decide) (by decide) (by decide))))).2.1 9 (by decide)]; omega) (by rw [((show Fr [] [47] [] σ σ19 from (((Fr.rfl.trans (Fr.sub F8 (by decide) (by decide) (by decide))).A (by decide)).trans (Fr.sub F15 (by decide) (by decide) (by decide))))).2.1 3 (by decide)]; exact hk5) (by omega) (fun i27 σ28 F22 R23 f24 f25 f26 => ?_) _ (k0 + 1) σ19 Fr.rfl R16 (by rw [((show Fr [] [47] [] σ σ19 from (((Fr.rfl.trans (Fr.sub F8 (by decide) (by decide) (by decide))).A (by decide)).trans (Fr.sub F15 (by decide) (by decide) (by decide))))).2.1 9 (by decide)]; omega) hbo2 (hok.fr (show Fr [] [47] [] σ σ19 from (((Fr.rfl.trans (Fr.sub F8 (by decide) (by decide) (by decide))).A (by decide)).trans (Fr.sub F15 (by decide) (by decide) (by decide)))) (by decide)) XO.rfl rfl)
  show Tm _ _ 369 b σ28 [(6, .int (iI i27)), (3, .int (iI (220 * r + k0))), (4, .int (iI (σ.2.1 4 (220 * r + k0)))), (0, .ref b), (1, .int (iI r)), (2, .int (iI k0))] [] _
  have hbo3 := f24
  have hok3 := f25
  have hx3 := hx2.trans f26
  refine tm_iconst dX12_rebind_369 ?_
  refine tm_istore (L' := [(6, .int (iI 0)), (3, .int (iI (220 * r + k0))), (4, .int (iI (σ.2.1 4 (220 * r + k0)))), (0, .ref b), (1, .int (iI r)), (2, .int (iI k0))]) dX12_rebind_370 (by decide) rfl ?_
  refine tm_sub [0, 2, 3, 4] rfl (l_reb6 (d + 1) (σ0 := σ28) (r := r) (g := σ.2.1 4 (220 * r + k0)) (F := F) hr R23 (hit.fr (show Fr [] [6, 7, 8, 47] [] σ σ28 from ((((Fr.rfl.trans (Fr.sub F8 (by decide) (by decide) (by decide))).A (by decide)).trans (Fr.sub F15 (by decide) (by decide) (by decide))).trans (Fr.sub F22 (by decide) (by decide) (by decide)))) (by decide)) (hpar.fr (show Fr [] [6, 7, 8, 47] [] σ σ28 from ((((Fr.rfl.trans (Fr.sub F8 (by decide) (by decide) (by decide))).A (by decide)).trans (Fr.sub F15 (by decide) (by decide) (by decide))).trans (Fr.sub F22 (by decide) (by decide) (by decide)))) (by decide)) hbo3 (by omega) (fun k35 σ36 F31 R32 f33 f34 => ?_) _ (0) σ28 Fr.rfl R23 (by rw [((show Fr [] [6, 7, 8, 47] [] σ σ28 from ((((Fr.rfl.trans (Fr.sub F8 (by decide) (by decide) (by decide))).A (by decide)).trans (Fr.sub F15 (by decide) (by decide) (by decide))).trans (Fr.sub F22 (by decide) (by decide) (by decide))))).2.1 9 (by decide)]; omega) hok3 XO.rfl rfl)
  show Tm _ _ 458 b σ36 [(6, .int (iI k35)), (4, .int (iI (σ.2.1 4 (220 * r + k0)))), (0, .ref b), (1, .int (iI r))] [] _
  exact tm_vret rfl dX12_rebind_458 (⟨rfl, (((((Fr.rfl.trans (Fr.sub F8 (by decide) (by decide) (by decide))).A (by decide)).trans (Fr.sub F15 (by decide) (by decide) (by decide))).trans (Fr.sub F22 (by decide) (by decide) (by decide))).trans (Fr.sub F31 (by decide) (by decide) (by decide))), R32, f33, hx3.trans f34, hbo3.fr F31 (by decide)⟩)
end
section
def CW (n F R : Int) (K D O FI fr lf : Int → Int) : Prop :=
  fr 0 = 0 ∧ (∀ k, 0 ≤ k → k < n → 0 ≤ fr k ∧ fr k < F) ∧
  (∀ k, 0 ≤ k → k < n → K k ≠ 7 → K k ≠ 8 → k + 1 < n ∧ (K k = 14 → FI (D k) = fr k ∧ fr (k + 1) = D k ∧ 1 ≤ D k) ∧ (K k = 15 → D k = fr k ∧ 1 ≤ D k ∧ fr (k + 1) = FI (D k)) ∧ (K k ≠ 14 → K k ≠ 15 → fr (k + 1) = fr k)) ∧
  (∀ k, 0 ≤ k → k < n → ((K k = 8 ∨ K k = 9 ∨ K k = 13) → lf (D k) = fr k) ∧ (K k = 7 → fr k = 0)) ∧
  (∀ k, 0 ≤ k → k < n → K k = 10 → O k < R ∧ ∃ j, 0 ≤ j ∧ j < k ∧ K j = 11 ∧ O j = fr k ∧ ∀ i, j < i → i < k → K i ≤ 5)
def CM (n t : Int) (K D O K' D' O' s : Int → Int) (SK : Int → Prop) : Prop :=
  (∀ j, 0 ≤ j → j < t → (0 ≤ s j ∧ s j < n) ∧ ¬ SK (s j) ∧ (K' j = K (s j) ∨ ((1 ≤ K (s j) ∧ K (s j) ≤ 5) ∧ K' j = 0) ∨ (K (s j) = 9 ∧ K' j = 8)) ∧ D' j = D (s j) ∧ O' j = O (s j)) ∧
  (∀ i j, 0 ≤ i → i < j → j < t → s i < s j) ∧
  (∀ i, 0 ≤ i → i < n → SK i ∨ ∃ j, 0 ≤ j ∧ j < t ∧ s j = i)
def SKK (n : Int) (K : Int → Int) (SK : Int → Prop) : Prop :=
  (∀ i, 0 ≤ i → i < n → SK i → K i = 9 ∨ (0 ≤ K i ∧ K i ≤ 5)) ∨ (¬ SK 0 ∧ ∀ i, 0 ≤ i → i + 1 < n → SK (i + 1) → SK i ∨ K i = 7 ∨ K i = 8)
theorem CW.last {n F R : Int} {K D O FI fr lf : Int → Int} (h : CW n F R K D O FI fr lf) (hn : 1 ≤ n) : K (n - 1) = 7 ∨ K (n - 1) = 8 := by
  by_cases a : K (n - 1) = 7
  · exact Or.inl a
  · by_cases b : K (n - 1) = 8
    · exact Or.inr b
    · have := (h.2.2.1 (n - 1) (by omega) (by omega) a b).1; omega
theorem CW.run {n F R : Int} {K D O FI fr lf : Int → Int} (h : CW n F R K D O FI fr lf) {SK : Int → Prop} (hk : ∀ i, 0 ≤ i → i < n → SK i → K i = 9 ∨ (0 ≤ K i ∧ K i ≤ 5)) : ∀ (m : Nat) (a : Int), 0 ≤ a → a + m ≤ n → (∀ i, a ≤ i → i < a + m → SK i) → a + m < n ∨ m = 0 ∧ a = n := by
  intro m a h0 h1 h2
  by_cases e : a + m < n
  · exact Or.inl e
  · cases m with
    | zero => exact Or.inr ⟨rfl, by omega⟩
    | succ m =>
      have hs := h2 (n - 1) (by omega) (by omega)
      have hl := h.last (by omega)
      have := hk (n - 1) (by omega) (by omega) hs
      omega
theorem CW.run2 {n F R : Int} {K D O FI fr lf : Int → Int} (h : CW n F R K D O FI fr lf) {SK : Int → Prop} (hk : ∀ i, 0 ≤ i → i < n → SK i → K i = 9 ∨ (0 ≤ K i ∧ K i ≤ 5)) : ∀ (m : Nat) (a : Int), 0 ≤ a → a + m ≤ n → (∀ i, a ≤ i → i < a + m → SK i) → fr (a + m) = fr a := by
  intro m
  induction m with
  | zero => intro a _ _ _; simp
  | succ m ih =>
    intro a h0 h1 h2
    have e := ih a h0 (by omega) (fun i x y => h2 i x (by omega))
    have hs := h2 (a + m) (by omega) (by omega)
    have q := hk (a + m) (by omega) (by omega) hs
    have f := (h.2.2.1 (a + m) (by omega) (by omega) (by omega) (by omega)).2.2.2 (by omega) (by omega)
    rw [← e, ← f]; congr 1; omega
theorem CM.nx {n t F R : Int} {K D O K' D' O' s FI fr lf : Int → Int} {SK : Int → Prop} (c : CM n t K D O K' D' O' s SK) (h : CW n F R K D O FI fr lf) (hs : SKK n K SK) {k : Int} (h0 : 0 ≤ k) (h1 : k < t) (h7 : K (s k) ≠ 7) (h8 : K (s k) ≠ 8) : k + 1 < t ∧ fr (s (k + 1)) = fr (s k + 1) := by
  obtain ⟨c1, c2, c3⟩ := c
  have b := (c1 k h0 h1).1
  have fl := (h.2.2.1 (s k) b.1 b.2 h7 h8).1
  have gap : ∀ e, e ≤ n → (∀ j, k < j → j < t → e ≤ s j) → ∀ i, s k + 1 ≤ i → i < e → SK i := fun e he hj i x y => by
    rcases c3 i (by omega) (by omega) with q | ⟨j, j0, j1, j2⟩
    · exact q
    · exfalso
      by_cases z : k < j
      · have := hj j z j1; omega
      · by_cases z2 : j = k
        · subst z2; omega
        · have := c2 j k j0 (by omega) h1; omega
  by_cases e : k + 1 < t
  · refine ⟨e, ?_⟩
    have b2 := (c1 (k + 1) (by omega) e).1
    have lt := c2 k (k + 1) h0 (by omega) e
    have g := gap (s (k + 1)) (by omega) (fun j x y => by
      by_cases z : j = k + 1
      · subst z; omega
      · have := c2 (k + 1) j (by omega) (by omega) y; omega)
    rcases hs with q | ⟨q0, q⟩
    · have := h.run2 q (s (k + 1) - (s k + 1)).toNat (s k + 1) (by omega) (by omega) (fun i x y => g i x (by omega))
      rw [← this]; congr 1; omega
    · by_cases z : s (k + 1) = s k + 1
      · rw [z]
      · exfalso
        have := q (s k) b.1 fl (g (s k + 1) (by omega) (by omega))
        have w := (c1 k h0 h1).2.1
        rcases this with u | u | u
        · exact w u
        · exact h7 u
        · exact h8 u
  · exfalso
    have g := gap n (by omega) (fun j x y => by omega)
    have sl := g (n - 1) (by omega) (by omega)
    have hl := h.last (by omega)
    rcases hs with q | ⟨q0, q⟩
    · have := q (n - 1) (by omega) (by omega) sl; omega
    · have := q (s k) b.1 fl (g (s k + 1) (by omega) (by omega))
      have w := (c1 k h0 h1).2.1
      rcases this with u | u | u
      · exact w u
      · exact h7 u
      · exact h8 u
theorem CM.st {n t F R : Int} {K D O K' D' O' s FI fr lf : Int → Int} {SK : Int → Prop} (c : CM n t K D O K' D' O' s SK) (h : CW n F R K D O FI fr lf) (hn : 1 ≤ n) (hs : SKK n K SK) : 1 ≤ t ∧ fr (s 0) = 0 := by
  obtain ⟨c1, c2, c3⟩ := c
  have t1 : 1 ≤ t := by
    by_cases e : 1 ≤ t
    · exact e
    · exfalso
      have al : ∀ i, 0 ≤ i → i < n → SK i := fun i x y => by
        rcases c3 i x y with q | ⟨j, j0, j1, _⟩
        · exact q
        · omega
      rcases hs with q | ⟨q0, q⟩
      · have := q (n - 1) (by omega) (by omega) (al _ (by omega) (by omega))
        have hl := h.last (by omega)
        omega
      · exact q0 (al 0 (by omega) (by omega))
  refine ⟨t1, ?_⟩
  have b := (c1 0 (by omega) (by omega)).1
  have g : ∀ i, 0 ≤ i → i < s 0 → SK i := fun i x y => by
    rcases c3 i x (by omega) with q | ⟨j, j0, j1, j2⟩
    · exact q
    · exfalso
      by_cases z : j = 0
      · subst z; omega
      · have := c2 0 j (by omega) (by omega) j1; omega
  rcases hs with q | ⟨q0, q⟩
  · have := h.run2 q (s 0).toNat 0 (by omega) (by omega) (fun i x y => g i x (by omega))
    have e : s 0 = 0 + ((s 0).toNat : Int) := by omega
    rw [e]; exact this.trans h.1
  · by_cases z : s 0 = 0
    · rw [z]; exact h.1
    · exact absurd (g 0 (by omega) (by omega)) q0
theorem CM.cw {n t F R : Int} {K D O K' D' O' s FI fr lf : Int → Int} {SK : Int → Prop} (c : CM n t K D O K' D' O' s SK) (h : CW n F R K D O FI fr lf) (hn : 1 ≤ n) (hs : SKK n K SK)
    (hL : ∀ j k, 0 ≤ j → j < k → k < n → K j = 11 → K k = 10 → (∀ i, j < i → i < k → K i ≤ 5) → ¬ SK k → ¬ SK j) : CW t F R K' D' O' FI (fun k => fr (s k)) lf := by
  have c0 := c
  obtain ⟨c1, c2, c3⟩ := c
  refine ⟨(c0.st h hn hs).2, fun k a b => h.2.1 _ (c1 k a b).1.1 (c1 k a b).1.2, fun k a b x7 x8 => ?_, fun k a b => ?_, fun k a b e => ?_⟩
  · obtain ⟨w1, w2, w3, w4, w5⟩ := c1 k a b
    have h7 : K (s k) ≠ 7 := by omega
    have h8 : K (s k) ≠ 8 := by omega
    have nx := c0.nx h hs a b h7 h8
    have f := h.2.2.1 (s k) w1.1 w1.2 h7 h8
    refine ⟨nx.1, fun e => ?_, fun e => ?_, fun e1 e2 => ?_⟩
    · have := f.2.1 (by omega); rw [w4]; exact ⟨this.1, nx.2.trans this.2.1, this.2.2⟩
    · have := f.2.2.1 (by omega); rw [w4]; exact ⟨this.1, this.2.1, nx.2.trans this.2.2⟩
    · have := f.2.2.2 (by omega) (by omega); exact nx.2.trans this
  · obtain ⟨w1, w2, w3, w4, w5⟩ := c1 k a b
    rw [w4]; exact ⟨fun e => (h.2.2.2.1 (s k) w1.1 w1.2).1 (by omega), fun e => (h.2.2.2.1 (s k) w1.1 w1.2).2 (by omega)⟩
  · obtain ⟨w1, w2, w3, w4, w5⟩ := c1 k a b
    obtain ⟨jr, j, j0, j1, j2, j3, j4⟩ := h.2.2.2.2 (s k) w1.1 w1.2 (by omega)
    have nj := hL j (s k) j0 j1 w1.2 j2 (by omega) j4 w2
    rcases c3 j j0 (by omega) with q | ⟨i, i0, i1, i2⟩
    · exact absurd q nj
    · have ik : i < k := by
        by_cases z : i < k
        · exact z
        · exfalso
          by_cases z2 : i = k
          · subst z2; omega
          · have := c2 k i a (by omega) i1; omega
      have wi := c1 i i0 i1
      rw [i2] at wi
      refine ⟨by rw [w5]; exact jr, i, i0, ik, by omega, by rw [wi.2.2.2.2]; exact j3, fun u x y => ?_⟩
      have := c2 i u i0 x (by omega)
      have z2 := c2 u k (by omega) y b
      have z3 := j4 (s u) (by omega) (by omega)
      have wu := (c1 u (by omega) (by omega)).2.2.1
      omega
def LX (n : Int) (K D : Int → Int) : Prop := ∀ k, 0 ≤ k → k < n → (K k = 8 ∨ K k = 9) → ∃ j, 0 ≤ j ∧ j < n ∧ K j = 13 ∧ D j = D k
theorem CM.lx {n t : Int} {K D O K' D' O' s : Int → Int} {SK : Int → Prop} (c : CM n t K D O K' D' O' s SK)
    (hl : ∀ k, 0 ≤ k → k < n → ¬ SK k → (K k = 8 ∨ K k = 9) → ∃ j, 0 ≤ j ∧ j < n ∧ K j = 13 ∧ D j = D k ∧ ¬ SK j) : LX t K' D' := fun k a b e => by
  obtain ⟨c1, c2, c3⟩ := c
  obtain ⟨w1, w2, w3, w4, w5⟩ := c1 k a b
  obtain ⟨j, j0, j1, j2, j3, j4⟩ := hl (s k) w1.1 w1.2 w2 (by omega)
  rcases c3 j j0 j1 with q | ⟨i, i0, i1, i2⟩
  · exact absurd q j4
  · have wi := c1 i i0 i1
    rw [i2] at wi
    exact ⟨i, i0, i1, by omega, by rw [wi.2.2.2.1, j3, w4]⟩
def RO (n p k : Int) (K K' : Int → Int) : Prop := (∀ i, 0 ≤ i → i < p → K' i = K i) ∧ K' p = K k ∧ (∀ i, p < i → i ≤ k → K' i = K (i - 1)) ∧ (∀ i, k < i → i < n → K' i = K i)
theorem CW.rot {n p q F R : Int} {K D O K' D' O' FI fr lf : Int → Int} (h : CW n F R K D O FI fr lf) (hp : 0 ≤ p ∧ p < q ∧ q < n) (h13 : K p = 13) (h5 : K q ≤ 5) (rk : RO n p q K K') (rd : RO n p q D D') (ro : RO n p q O O') :
    ∃ fr', CW n F R K' D' O' FI fr' lf := by
  obtain ⟨fr', hf1, hf2, hf3⟩ : ∃ fr' : Int → Int, (∀ i, i ≤ p → fr' i = fr i) ∧ (∀ i, p < i → i ≤ q → fr' i = fr (i - 1)) ∧ (∀ i, p < i → q < i → fr' i = fr i) := ⟨fun i => if i ≤ p then fr i else if i ≤ q then fr (i - 1) else fr i, fun i a => if_pos a, fun i a b => (if_neg (by omega)).trans (if_pos b), fun i a b => (if_neg (by omega)).trans (if_neg (by omega))⟩
  refine ⟨fr', ?_⟩
  have fq := h.2.2.1 q (by omega) (by omega) (by omega) (by omega)
  have fq2 := fq.2.2.2 (by omega) (by omega)
  obtain ⟨k1, k2, k3, k4⟩ := rk
  obtain ⟨d1, d2, d3, d4⟩ := rd
  obtain ⟨o1, o2, o3, o4⟩ := ro
  refine ⟨by rw [hf1 0 (by omega)]; exact h.1, fun k a b => ?_, fun k a b x7 x8 => ?_, fun k a b => ?_, fun k a b e => ?_⟩
  · by_cases z1 : k ≤ p
    · rw [hf1 k z1]; exact h.2.1 k a b
    · by_cases z2 : k ≤ q
      · rw [hf2 k (by omega) z2]; exact h.2.1 (k - 1) (by omega) (by omega)
      · rw [hf3 k (by omega) (by omega)]; exact h.2.1 k a b
  · by_cases z1 : k < p
    · rw [k1 k a z1] at x7 x8 ⊢
      rw [d1 k a z1]
      have f := h.2.2.1 k a b x7 x8
      rw [hf1 k (by omega), hf1 (k + 1) (by omega)]
      exact f
    · by_cases z2 : k = p
      · subst z2
        rw [k2] at x7 x8 ⊢
        rw [hf2 (k + 1) (by omega) (by omega), hf1 k (by omega)]
        exact ⟨by omega, fun e => by omega, fun e => by omega, fun _ _ => by congr 1; omega⟩
      · by_cases z3 : k ≤ q
        · rw [k3 k (by omega) z3] at x7 x8 ⊢
          rw [d3 k (by omega) z3]
          have f := h.2.2.1 (k - 1) (by omega) (by omega) x7 x8
          rw [show k - 1 + 1 = k by omega] at f
          rw [hf2 k (by omega) z3]
          by_cases z4 : k = q
          · subst z4
            rw [hf3 (k + 1) (by omega) (by omega), fq2]
            exact ⟨fq.1, f.2⟩
          · rw [hf2 (k + 1) (by omega) (by omega), show k + 1 - 1 = k by omega]
            exact ⟨by omega, f.2⟩
        · rw [k4 k (by omega) b] at x7 x8 ⊢
          rw [d4 k (by omega) b]
          rw [hf3 k (by omega) (by omega), hf3 (k + 1) (by omega) (by omega)]
          exact h.2.2.1 k a b x7 x8
  · by_cases z1 : k < p
    · rw [k1 k a z1, d1 k a z1, hf1 k (by omega)]
      exact h.2.2.2.1 k a b
    · by_cases z2 : k = p
      · subst z2; rw [k2]; exact ⟨fun e => by omega, fun e => by omega⟩
      · by_cases z3 : k ≤ q
        · rw [k3 k (by omega) z3, d3 k (by omega) z3, hf2 k (by omega) z3]
          exact h.2.2.2.1 (k - 1) (by omega) (by omega)
        · rw [k4 k (by omega) b, d4 k (by omega) b, hf3 k (by omega) (by omega)]
          exact h.2.2.2.1 k a b
  · have key : ∀ c, 0 ≤ c → c < n → K c = 10 → O c < R ∧ ∃ j, 0 ≤ j ∧ j < c ∧ K j = 11 ∧ O j = fr c ∧ (p < j ∨ c < p) ∧ ∀ i, j < i → i < c → K i ≤ 5 := fun c x y w => by
      obtain ⟨jr, j, j0, j1, j2, j3, j4⟩ := h.2.2.2.2 c x y w
      refine ⟨jr, j, j0, j1, j2, j3, ?_, j4⟩
      by_cases z : p < j
      · exact Or.inl z
      · by_cases z2 : c < p
        · exact Or.inr z2
        · exfalso
          by_cases z3 : p = j
          · subst z3; omega
          · by_cases z4 : p = c
            · subst z4; omega
            · have := j4 p (by omega) (by omega); omega
    have tail : ∀ c j, 0 ≤ j → j < c → c < n → p < j → K j = 11 → c ≠ q → (∀ i, j < i → i < c → K i ≤ 5) → ∃ j', 0 ≤ j' ∧ j' < (if c ≤ q then c + 1 else c) ∧ K' j' = 11 ∧ O' j' = O j ∧ ∀ i, j' < i → i < (if c ≤ q then c + 1 else c) → K' i ≤ 5 := fun c j j0 j1 x jp j2 cq j4 => by
      have jq : j ≠ q := fun w => by subst w; omega
      refine ⟨if j ≤ q then j + 1 else j, by split <;> omega, by split <;> split <;> omega, ?_, ?_, fun i y w => ?_⟩
      · split
        · rw [k3 (j + 1) (by omega) (by omega), show j + 1 - 1 = j by omega]; exact j2
        · rw [k4 j (by omega) (by omega)]; exact j2
      · split
        · rw [o3 (j + 1) (by omega) (by omega), show j + 1 - 1 = j by omega]
        · rw [o4 j (by omega) (by omega)]
      · by_cases u : i ≤ q
        · rw [k3 i (by split at y <;> omega) u]
          exact j4 (i - 1) (by split at y <;> omega) (by split at w <;> omega)
        · rw [k4 i (by omega) (by split at w <;> omega)]
          exact j4 i (by split at y <;> omega) (by split at w <;> omega)
    by_cases z1 : k < p
    · rw [k1 k a z1] at e
      obtain ⟨jr, j, j0, j1, j2, j3, j5, j4⟩ := key k a b e
      refine ⟨by rw [o1 k a z1]; exact jr, j, j0, j1, by rw [k1 j j0 (by omega)]; exact j2, by rw [o1 j j0 (by omega), hf1 k (by omega)]; exact j3, fun i x y => ?_⟩
      rw [k1 i (by omega) (by omega)]; exact j4 i x y
    · by_cases z2 : k = p
      · subst z2; rw [k2] at e; omega
      · by_cases z3 : k ≤ q
        · rw [k3 k (by omega) z3] at e
          obtain ⟨jr, j, j0, j1, j2, j3, j5, j4⟩ := key (k - 1) (by omega) (by omega) e
          have t := tail (k - 1) j j0 j1 (by omega) (by omega) j2 (by omega) j4
          rw [if_pos (show k - 1 ≤ q by omega), show k - 1 + 1 = k by omega] at t
          obtain ⟨u, u0, u1, u2, u3, u4⟩ := t
          refine ⟨by rw [o3 k (by omega) z3]; exact jr, u, u0, u1, u2, ?_, u4⟩
          rw [hf2 k (by omega) z3, u3]; exact j3
        · rw [k4 k (by omega) b] at e
          obtain ⟨jr, j, j0, j1, j2, j3, j5, j4⟩ := key k a b e
          have t := tail k j j0 j1 (by omega) (by omega) j2 (by omega) j4
          rw [if_neg (show ¬ k ≤ q by omega)] at t
          obtain ⟨u, u0, u1, u2, u3, u4⟩ := t
          refine ⟨by rw [o4 k (by omega) b]; exact jr, u, u0, u1, u2, ?_, u4⟩
          rw [hf3 k (by omega) (by omega), u3]; exact j3
theorem LX.rot {n p q : Int} {K D K' D' : Int → Int} (h : LX n K D) (hp : 0 ≤ p ∧ p < q ∧ q < n) (h5 : K q ≤ 5) (rk : RO n p q K K') (rd : RO n p q D D') : LX n K' D' := by
  obtain ⟨k1, k2, k3, k4⟩ := rk
  obtain ⟨d1, d2, d3, d4⟩ := rd
  have to : ∀ c, 0 ≤ c → c < n → c ≠ q → ∃ c', 0 ≤ c' ∧ c' < n ∧ K' c' = K c ∧ D' c' = D c := fun c x y z => by
    by_cases z1 : c < p
    · exact ⟨c, x, y, k1 c x z1, d1 c x z1⟩
    · by_cases z2 : c < q
      · exact ⟨c + 1, by omega, by omega, by rw [k3 (c + 1) (by omega) (by omega), show c + 1 - 1 = c by omega], by rw [d3 (c + 1) (by omega) (by omega), show c + 1 - 1 = c by omega]⟩
      · exact ⟨c, x, y, k4 c (by omega) y, d4 c (by omega) y⟩
  have ofN : ∀ c', 0 ≤ c' → c' < n → ∃ c, 0 ≤ c ∧ c < n ∧ K' c' = K c ∧ D' c' = D c := fun c x y => by
    by_cases z1 : c < p
    · exact ⟨c, x, y, k1 c x z1, d1 c x z1⟩
    · by_cases z2 : c = p
      · subst z2; exact ⟨q, by omega, by omega, k2, d2⟩
      · by_cases z3 : c ≤ q
        · exact ⟨c - 1, by omega, by omega, k3 c (by omega) z3, d3 c (by omega) z3⟩
        · exact ⟨c, x, y, k4 c (by omega) y, d4 c (by omega) y⟩
  intro k a b e
  obtain ⟨c, c0, c1, c2, c3⟩ := ofN k a b
  obtain ⟨j, j0, j1, j2, j3⟩ := h c c0 c1 (by omega)
  obtain ⟨u, u0, u1, u2, u3⟩ := to j j0 j1 (fun w => by subst w; omega)
  exact ⟨u, u0, u1, by omega, by rw [u3, j3, c3]⟩
def SEG (a g0 g1 F : Int) (K D FI fr lf : Int → Int) : Prop :=
  fr 0 = g0 ∧ fr a = g1 ∧ (∀ i, 0 ≤ i → i < a → 0 ≤ fr i ∧ fr i < F) ∧
  (∀ i, 0 ≤ i → i < a → K i ≠ 8 → (K i = 14 → FI (D i) = fr i ∧ fr (i + 1) = D i ∧ 1 ≤ D i) ∧ (K i = 15 → D i = fr i ∧ 1 ≤ D i ∧ fr (i + 1) = FI (D i)) ∧ (K i ≠ 14 → K i ≠ 15 → fr (i + 1) = fr i)) ∧
  (∀ i, 0 ≤ i → i < a → ((K i = 8 ∨ K i = 9 ∨ K i = 13) → lf (D i) = fr i) ∧ K i ≠ 7 ∧ K i ≠ 10)
theorem SEG.add {a g0 g g' F : Int} {K D K' D' FI fr lf : Int → Int} (h : SEG a g0 g F K D FI fr lf) (ha : 0 ≤ a) (hg : 0 ≤ g ∧ g < F) (hk : ∀ i, 0 ≤ i → i < a → K' i = K i ∧ D' i = D i) (h7 : K' a ≠ 7) (h10 : K' a ≠ 10)
    (hl : (K' a = 8 ∨ K' a = 9 ∨ K' a = 13) → lf (D' a) = g) (hx : K' a ≠ 8 → (K' a = 14 → FI (D' a) = g ∧ g' = D' a ∧ 1 ≤ D' a) ∧ (K' a = 15 → D' a = g ∧ 1 ≤ D' a ∧ g' = FI (D' a)) ∧ (K' a ≠ 14 → K' a ≠ 15 → g' = g)) : ∃ fr', SEG (a + 1) g0 g' F K' D' FI fr' lf := by
  obtain ⟨h1, h2, h3, h4, h5⟩ := h
  obtain ⟨fr', e1, e2⟩ : ∃ fr' : Int → Int, (∀ i, i ≤ a → fr' i = fr i) ∧ fr' (a + 1) = g' := ⟨fun i => if i ≤ a then fr i else g', fun i q => if_pos q, if_neg (by omega)⟩
  refine ⟨fr', by rw [e1 0 (by omega)]; exact h1, e2, fun i x y => ?_, fun i x y => ?_, fun i x y => ?_⟩
  · rw [e1 i (by omega)]
    by_cases z : i = a
    · subst z; rw [h2]; exact hg
    · exact h3 i x (by omega)
  · by_cases z : i = a
    · subst z; rw [e1 i (by omega), e2, h2]; exact hx
    · rw [e1 i (by omega), e1 (i + 1) (by omega), (hk i x (by omega)).1, (hk i x (by omega)).2]
      exact h4 i x (by omega)
  · rw [e1 i (by omega)]
    by_cases z : i = a
    · subst z; rw [h2]; exact ⟨hl, h7, h10⟩
    · rw [(hk i x (by omega)).1, (hk i x (by omega)).2]; exact h5 i x (by omega)
theorem CW.splice {n F F' R k a LB : Int} {K D O K' D' O' KA DA FI FI' fr lf frA lfA : Int → Int} (h : CW n F R K D O FI fr lf) (hk : 0 ≤ k ∧ k < n) (h10 : K k = 10) (ha : 1 ≤ a) (g : SEG a (fr k) (fr k) F' KA DA FI' frA lfA) (hF : F ≤ F') (hFI : ∀ f, 1 ≤ f → f < F → FI' f = FI f)
    (hd : ∀ i, 0 ≤ i → i < n → (K i = 14 ∨ K i = 15) → D i < F) (hl : ∀ i, 0 ≤ i → i < n → (K i = 8 ∨ K i = 9 ∨ K i = 13) → D i < LB) (hla : ∀ i, 0 ≤ i → i < a → (KA i = 8 ∨ KA i = 9 ∨ KA i = 13) → LB ≤ DA i)
    (r1 : ∀ i, 0 ≤ i → i < k → K' i = K i ∧ D' i = D i ∧ O' i = O i) (r2 : ∀ i, 0 ≤ i → i < a → K' (k + i) = KA i ∧ D' (k + i) = DA i) (r3 : ∀ i, k < i → i < n → K' (i + (a - 1)) = K i ∧ D' (i + (a - 1)) = D i ∧ O' (i + (a - 1)) = O i) :
    ∃ fr' lf', CW (n + (a - 1)) F' R K' D' O' FI' fr' lf' := by
  obtain ⟨fr', f1, f2, f3⟩ : ∃ fr' : Int → Int, (∀ i, i < k → fr' i = fr i) ∧ (∀ i, k ≤ i → i < k + a → fr' i = frA (i - k)) ∧ (∀ i, k + a ≤ i → fr' i = fr (i - (a - 1))) := ⟨fun i => if i < k then fr i else if i < k + a then frA (i - k) else fr (i - (a - 1)), fun i x => if_pos x, fun i x y => (if_neg (by omega)).trans (if_pos y), fun i x => (if_neg (by omega)).trans (if_neg (by omega))⟩
  obtain ⟨g1, g2, g3, g4, g5⟩ := g
  have fk := h.2.2.1 k hk.1 hk.2 (by omega) (by omega)
  have fk2 := fk.2.2.2 (by omega) (by omega)
  have fk0 : fr' k = fr k := by rw [f2 k (by omega) (by omega), show k - k = 0 by omega]; exact g1
  have fle : ∀ i, i ≤ k → fr' i = fr i := fun i x => by
    by_cases z : i = k
    · rw [z]; exact fk0
    · exact f1 i (by omega)
  have fge : ∀ i, k < i → fr' (i + (a - 1)) = fr i := fun i x => by rw [f3 (i + (a - 1)) (by omega)]; congr 1; omega
  have fsg : ∀ i, 0 ≤ i → i ≤ a → fr' (k + i) = frA i := fun i x y => by
    by_cases z : i = a
    · subst z; rw [f3 (k + i) (by omega), g2, show k + i - (i - 1) = k + 1 by omega]; exact fk2
    · rw [f2 (k + i) (by omega) (by omega)]; congr 1; omega
  have old : ∀ i, 0 ≤ i → i < n → ∀ e u v, e = K i → u = fr i → v = fr (i + 1) → e ≠ 7 → e ≠ 8 → (e = 14 → FI' (D i) = u ∧ v = D i ∧ 1 ≤ D i) ∧ (e = 15 → D i = u ∧ 1 ≤ D i ∧ v = FI' (D i)) ∧ (e ≠ 14 → e ≠ 15 → v = u) := fun i x y e u v he hu hv x7 x8 => by
    subst he; subst hu; subst hv
    have f := h.2.2.1 i x y x7 x8
    refine ⟨fun e => ?_, fun e => ?_, f.2.2.2⟩
    · have q := f.2.1 e
      have qd := hd i x y (Or.inl e)
      rw [hFI _ q.2.2 qd]; exact q
    · have q := f.2.2.1 e
      have qd := hd i x y (Or.inr e)
      rw [hFI _ q.2.1 qd]; exact q
  obtain ⟨lf', l1, l2⟩ : ∃ lf' : Int → Int, (∀ l, l < LB → lf' l = lf l) ∧ (∀ l, LB ≤ l → lf' l = lfA l) := ⟨fun l => if l < LB then lf l else lfA l, fun l x => if_pos x, fun l x => if_neg (by omega)⟩
  have split3 : ∀ i, 0 ≤ i → i < n + (a - 1) → i < k ∨ (∃ j, 0 ≤ j ∧ j < a ∧ i = k + j) ∨ (∃ j, k < j ∧ j < n ∧ i = j + (a - 1)) := fun i x y => by
    by_cases z : i < k
    · exact Or.inl z
    · by_cases z2 : i < k + a
      · exact Or.inr (Or.inl ⟨i - k, by omega, by omega, by omega⟩)
      · exact Or.inr (Or.inr ⟨i - (a - 1), by omega, by omega, by omega⟩)
  refine ⟨fr', lf', by rw [fle 0 (by omega)]; exact h.1, fun i x y => ?_, fun i x y x7 x8 => ?_, fun i x y => ?_, fun i x y e => ?_⟩
  · rcases split3 i x y with z | ⟨j, j0, j1, z⟩ | ⟨j, j0, j1, z⟩
    · rw [f1 i z]; have := h.2.1 i x (by omega); omega
    · rw [z, fsg j j0 (by omega)]; exact g3 j j0 j1
    · rw [z, fge j j0]; have := h.2.1 j (by omega) j1; omega
  · rcases split3 i x y with z | ⟨j, j0, j1, z⟩ | ⟨j, j0, j1, z⟩
    · rw [(r1 i x z).2.1]
      have e := (r1 i x z).1
      have := old i x (by omega) (K' i) (fr' i) (fr' (i + 1)) e (f1 i z) (fle (i + 1) (by omega)) x7 x8
      exact ⟨by omega, this⟩
    · subst z
      rw [(r2 j j0 j1).1] at x7 x8 ⊢
      rw [(r2 j j0 j1).2, fsg j j0 (by omega), show k + j + 1 = k + (j + 1) by omega, fsg (j + 1) (by omega) (by omega)]
      exact ⟨by omega, g4 j j0 j1 x8⟩
    · subst z
      have e := (r3 j j0 j1).1
      rw [(r3 j j0 j1).2.1]
      have := old j (by omega) j1 (K' (j + (a - 1))) (fr' (j + (a - 1))) (fr' (j + (a - 1) + 1)) e (fge j j0) (by rw [show j + (a - 1) + 1 = (j + 1) + (a - 1) by omega]; exact fge (j + 1) (by omega)) x7 x8
      have fl := (h.2.2.1 j (by omega) j1 (by omega) (by omega)).1
      exact ⟨by omega, this⟩
  · rcases split3 i x y with z | ⟨j, j0, j1, z⟩ | ⟨j, j0, j1, z⟩
    · rw [(r1 i x z).1, (r1 i x z).2.1, f1 i z]
      have q := h.2.2.2.1 i x (by omega)
      exact ⟨fun e => by rw [l1 _ (hl i x (by omega) e)]; exact q.1 e, q.2⟩
    · subst z
      rw [(r2 j j0 j1).1, (r2 j j0 j1).2, fsg j j0 (by omega)]
      have q := g5 j j0 j1
      exact ⟨fun e => by rw [l2 _ (hla j j0 j1 e)]; exact q.1 e, fun e => absurd e q.2.1⟩
    · subst z
      rw [(r3 j j0 j1).1, (r3 j j0 j1).2.1, fge j j0]
      have q := h.2.2.2.1 j (by omega) j1
      exact ⟨fun e => by rw [l1 _ (hl j (by omega) j1 e)]; exact q.1 e, q.2⟩
  · rcases split3 i x y with z | ⟨j, j0, j1, z⟩ | ⟨j, j0, j1, z⟩
    · rw [(r1 i x z).1] at e
      obtain ⟨jr, j, j0, j1, j2, j3, j4⟩ := h.2.2.2.2 i x (by omega) e
      refine ⟨by rw [(r1 i x z).2.2]; exact jr, j, j0, j1, by rw [(r1 j j0 (by omega)).1]; exact j2, by rw [(r1 j j0 (by omega)).2.2, f1 i z]; exact j3, fun u p q => ?_⟩
      rw [(r1 u (by omega) (by omega)).1]; exact j4 u p q
    · subst z; rw [(r2 j j0 j1).1] at e; exact absurd e (g5 j j0 j1).2.2
    · subst z
      rw [(r3 j j0 j1).1] at e
      obtain ⟨ur, u, u0, u1, u2, u3, u4⟩ := h.2.2.2.2 j (by omega) j1 e
      have uk : k < u := by
        by_cases z : k < u
        · exact z
        · exfalso
          by_cases z2 : u = k
          · subst z2; omega
          · have := u4 k (by omega) j0; omega
      refine ⟨by rw [(r3 j j0 j1).2.2]; exact ur, u + (a - 1), by omega, by omega, by rw [(r3 u uk (by omega)).1]; exact u2, by rw [(r3 u uk (by omega)).2.2, fge j j0]; exact u3, fun w p q => ?_⟩
      have := r3 (w - (a - 1)) (by omega) (by omega)
      rw [show w - (a - 1) + (a - 1) = w by omega] at this
      rw [this.1]; exact u4 _ (by omega) (by omega)
theorem LX.splice {n k a : Int} {K D K' D' KA DA : Int → Int} (h : LX n K D) (hk : 0 ≤ k ∧ k < n) (h10 : K k = 10) (ha : 1 ≤ a) (g : LX a KA DA)
    (r1 : ∀ i, 0 ≤ i → i < k → K' i = K i ∧ D' i = D i) (r2 : ∀ i, 0 ≤ i → i < a → K' (k + i) = KA i ∧ D' (k + i) = DA i) (r3 : ∀ i, k < i → i < n → K' (i + (a - 1)) = K i ∧ D' (i + (a - 1)) = D i) : LX (n + (a - 1)) K' D' := by
  have up : ∀ j, 0 ≤ j → j < n → j ≠ k → ∃ i, 0 ≤ i ∧ i < n + (a - 1) ∧ K' i = K j ∧ D' i = D j := fun j x y z => by
    by_cases w : j < k
    · exact ⟨j, x, by omega, (r1 j x w).1, (r1 j x w).2⟩
    · exact ⟨j + (a - 1), by omega, by omega, (r3 j (by omega) y).1, (r3 j (by omega) y).2⟩
  intro i x y e
  by_cases z : i < k
  · obtain ⟨j, j0, j1, j2, j3⟩ := h i x (by omega) (by rw [(r1 i x z).1] at e; exact e)
    obtain ⟨u, u0, u1, u2, u3⟩ := up j j0 j1 (fun w => by subst w; omega)
    exact ⟨u, u0, u1, by omega, by rw [u3, j3, (r1 i x z).2]⟩
  · by_cases z2 : i < k + a
    · have q := r2 (i - k) (by omega) (by omega)
      rw [show k + (i - k) = i by omega] at q
      obtain ⟨j, j0, j1, j2, j3⟩ := g (i - k) (by omega) (by omega) (by rw [q.1] at e; exact e)
      exact ⟨k + j, by omega, by omega, by rw [(r2 j j0 j1).1]; exact j2, by rw [(r2 j j0 j1).2, j3, q.2]⟩
    · have q := r3 (i - (a - 1)) (by omega) (by omega)
      rw [show i - (a - 1) + (a - 1) = i by omega] at q
      obtain ⟨j, j0, j1, j2, j3⟩ := h (i - (a - 1)) (by omega) (by omega) (by rw [q.1] at e; exact e)
      obtain ⟨u, u0, u1, u2, u3⟩ := up j j0 j1 (fun w => by subst w; omega)
      exact ⟨u, u0, u1, by omega, by rw [u3, j3, q.2]⟩
abbrev iK (σ : MS) (r : Int) : Int → Int := fun k => σ.2.1 3 (220 * r + k)
abbrev iD (σ : MS) (r : Int) : Int → Int := fun k => σ.2.1 4 (220 * r + k)
abbrev iO (σ : MS) (r : Int) : Int → Int := fun k => σ.2.1 5 (220 * r + k)
abbrev iF (σ : MS) (r : Int) : Int → Int := fun f => σ.2.1 16 (12 * r + f)
def CODE (σ : MS) (r : Int) : Prop := ∃ fr lf, CW (σ.2.1 9 r) (σ.2.1 14 r) (σ.1 10) (iK σ r) (iD σ r) (iO σ r) (iF σ r) fr lf
def FRI (σ : MS) (r : Int) : Prop := σ.2.1 16 (12 * r + 0) = -1 ∧ ∀ f, 1 ≤ f → f < σ.2.1 14 r → 0 ≤ σ.2.1 16 (12 * r + f) ∧ σ.2.1 16 (12 * r + f) < f
def LBM (σ : MS) (r : Int) : Prop := ∀ k, 0 ≤ k → k < σ.2.1 9 r → (σ.2.1 3 (220 * r + k) = 8 ∨ σ.2.1 3 (220 * r + k) = 9 ∨ σ.2.1 3 (220 * r + k) = 13) → σ.2.1 4 (220 * r + k) + 2 ≤ 121 * σ.2.1 14 r
theorem CODE.fr {ss ks js : List Nat} {σ τ : MS} {r : Int} (h : CODE σ r) (f : Fr ss ks js σ τ) (hs : 10 ∉ ss) (hk : ∀ k ∈ [3, 4, 5, 9, 14, 16], k ∉ ks) : CODE τ r := by
  obtain ⟨fr, lf, h⟩ := h
  refine ⟨fr, lf, ?_⟩
  unfold iK iD iO iF at h ⊢
  rw [f.q hk (k := 3) (by decide), f.q hk (k := 4) (by decide), f.q hk (k := 5) (by decide), f.q hk (k := 9) (by decide), f.q hk (k := 14) (by decide), f.q hk (k := 16) (by decide), f.1 10 hs]
  exact h
theorem FRI.fr {ss ks js : List Nat} {σ τ : MS} {r : Int} (h : FRI σ r) (f : Fr ss ks js σ τ) (hk : ∀ k ∈ [14, 16], k ∉ ks) : FRI τ r := by
  unfold FRI; rw [f.q hk (k := 14) (by decide), f.q hk (k := 16) (by decide)]; exact h
theorem LBM.fr {ss ks js : List Nat} {σ τ : MS} {r : Int} (h : LBM σ r) (f : Fr ss ks js σ τ) (hk : ∀ k ∈ [3, 4, 9, 14], k ∉ ks) : LBM τ r := by
  unfold LBM; rw [f.q hk (k := 3) (by decide), f.q hk (k := 4) (by decide), f.q hk (k := 9) (by decide), f.q hk (k := 14) (by decide)]; exact h
def KR (a b : Int) : Prop := b = a ∨ ((1 ≤ a ∧ a ≤ 5) ∧ b = 0) ∨ (a = 9 ∧ b = 8)
def CMP (σ0 σ : MS) (r F k t : Int) (SK : Int → Prop) : Prop := ∃ s : Int → Int,
  (∀ j, 0 ≤ j → j < t → ((0 ≤ s j ∧ s j < k) ∧ ¬ SK (s j)) ∧ KR (σ0.2.1 3 (220 * r + s j)) (σ.2.1 3 (220 * r + j)) ∧ σ.2.1 4 (220 * r + j) = σ0.2.1 4 (220 * r + s j) ∧ σ.2.1 5 (220 * r + j) = σ0.2.1 5 (220 * r + s j) ∧ OKI σ F (220 * r + j)) ∧
  (∀ i j, 0 ≤ i → i < j → j < t → s i < s j) ∧ (∀ i, 0 ≤ i → i < k → SK i ∨ ∃ j, 0 ≤ j ∧ j < t ∧ s j = i)
theorem CMP.start {σ0 σ : MS} {r F : Int} {SK : Int → Prop} : CMP σ0 σ r F 0 0 SK := ⟨id, fun j a b => by omega, fun i j a b c => by omega, fun i a b => by omega⟩
theorem CMP.keep {σ0 σ τ : MS} {r F k t : Int} {SK : Int → Prop} (h : CMP σ0 σ r F k t SK) (h0 : 0 ≤ k ∧ 0 ≤ t) (hlo : ∀ j, 0 ≤ j → j < t → IEQ σ (220 * r + j) τ (220 * r + j)) (hp : τ.2.1 11 = σ.2.1 11) (hk : ¬ SK k) (h3 : KR (σ0.2.1 3 (220 * r + k)) (τ.2.1 3 (220 * r + t))) (h4 : τ.2.1 4 (220 * r + t) = σ0.2.1 4 (220 * r + k)) (h5 : τ.2.1 5 (220 * r + t) = σ0.2.1 5 (220 * r + k)) (ho : OKI τ F (220 * r + t)) : CMP σ0 τ r F (k + 1) (t + 1) SK := by
  obtain ⟨s, c1, c2, c3⟩ := h
  obtain ⟨s', e1, e2⟩ : ∃ s' : Int → Int, (∀ j, j < t → s' j = s j) ∧ s' t = k := ⟨fun j => if j < t then s j else k, fun j q => if_pos q, if_neg (by omega)⟩
  refine ⟨s', fun j a b => ?_, fun i j a b c => ?_, fun i a b => ?_⟩
  · by_cases z : j = t
    · subst z; rw [e2]; exact ⟨⟨by omega, hk⟩, h3, h4, h5, ho⟩
    · have q := c1 j a (by omega)
      have w := hlo j a (by omega)
      rw [e1 j (by omega), w.1, w.2.1, w.2.2.1]
      exact ⟨⟨by omega, q.1.2⟩, q.2.1, q.2.2.1, q.2.2.2.1, w.oki hp q.2.2.2.2⟩
  · by_cases z : j = t
    · subst z; rw [e2, e1 i (by omega)]; exact (c1 i a (by omega)).1.1.2
    · rw [e1 i (by omega), e1 j (by omega)]; exact c2 i j a b (by omega)
  · by_cases z : i = k
    · subst z; exact Or.inr ⟨t, by omega, by omega, e2⟩
    · rcases c3 i a (by omega) with q | ⟨j, j0, j1, j2⟩
      · exact Or.inl q
      · exact Or.inr ⟨j, j0, by omega, by rw [e1 j j1]; exact j2⟩
theorem CMP.skip {σ0 σ τ : MS} {r F k t : Int} {SK SK' : Int → Prop} (h : CMP σ0 σ r F k t SK) (hlo : ∀ j, 0 ≤ j → j < t → IEQ σ (220 * r + j) τ (220 * r + j)) (hp : τ.2.1 11 = σ.2.1 11) (hk : SK' k) (hs : ∀ i, 0 ≤ i → i < k → (SK' i ↔ SK i)) : CMP σ0 τ r F (k + 1) t SK' := by
  obtain ⟨s, c1, c2, c3⟩ := h
  refine ⟨s, fun j a b => ?_, c2, fun i a b => ?_⟩
  · have q := c1 j a (by omega)
    have w := hlo j a (by omega)
    rw [w.1, w.2.1, w.2.2.1]
    exact ⟨⟨by omega, fun x => q.1.2 ((hs _ q.1.1.1 q.1.1.2).mp x)⟩, q.2.1, q.2.2.1, q.2.2.2.1, w.oki hp q.2.2.2.2⟩
  · by_cases z : i = k
    · subst z; exact Or.inl hk
    · rcases c3 i a (by omega) with q | q
      · exact Or.inl ((hs i a (by omega)).mpr q)
      · exact Or.inr q
theorem CMP.cm {σ0 σ : MS} {r F n t : Int} {SK : Int → Prop} (h : CMP σ0 σ r F n t SK) : ∃ s, CM n t (iK σ0 r) (iD σ0 r) (iO σ0 r) (iK σ r) (iD σ r) (iO σ r) s SK := by
  obtain ⟨s, c1, c2, c3⟩ := h
  exact ⟨s, fun j a b => ⟨(c1 j a b).1.1, (c1 j a b).1.2, (c1 j a b).2.1, (c1 j a b).2.2.1, (c1 j a b).2.2.2.1⟩, c2, c3⟩
theorem CMP.oks {σ0 σ τ : MS} {r F n t : Int} {SK : Int → Prop} (h : CMP σ0 σ r F n t SK) (ht : τ.2.1 9 r = t) (he : ∀ F x, OKI σ F x → OKI τ F x) : OKS τ F r := fun k a b => by
  obtain ⟨s, c1, c2, c3⟩ := h
  exact he _ _ (c1 k a (by omega)).2.2.2.2
theorem CMP.code {σ0 σ τ : MS} {r F n t : Int} {SK : Int → Prop} (h : CMP σ0 σ r F n t SK) (hc : CODE σ0 r) (hn : n = σ0.2.1 9 r ∧ 1 ≤ n) (hs : SKK n (iK σ0 r) SK)
    (hL : ∀ j k, 0 ≤ j → j < k → k < n → σ0.2.1 3 (220 * r + j) = 11 → σ0.2.1 3 (220 * r + k) = 10 → (∀ i, j < i → i < k → σ0.2.1 3 (220 * r + i) ≤ 5) → ¬ SK k → ¬ SK j)
    (ht : τ.2.1 9 r = t) (h14 : τ.2.1 14 r = σ0.2.1 14 r) (h10 : τ.1 10 = σ0.1 10) (h16 : τ.2.1 16 = σ0.2.1 16) (h3 : τ.2.1 3 = σ.2.1 3) (h4 : τ.2.1 4 = σ.2.1 4) (h5 : τ.2.1 5 = σ.2.1 5) : CODE τ r ∧ 1 ≤ t := by
  obtain ⟨fr, lf, hc⟩ := hc
  obtain ⟨s, c⟩ := h.cm
  obtain ⟨e, hn1⟩ := hn
  subst e
  have st := c.st hc hn1 hs
  refine ⟨⟨fun k => fr (s k), lf, ?_⟩, st.1⟩
  have := c.cw hc hn1 hs hL
  unfold iK iD iO iF at this ⊢
  rw [ht, h14, h10, h16, h3, h4, h5]
  exact this
theorem CMP.lex {σ0 σ τ : MS} {r F n t : Int} {SK : Int → Prop} (h : CMP σ0 σ r F n t SK)
    (hl : ∀ k, 0 ≤ k → k < n → ¬ SK k → (σ0.2.1 3 (220 * r + k) = 8 ∨ σ0.2.1 3 (220 * r + k) = 9) → ∃ j, 0 ≤ j ∧ j < n ∧ σ0.2.1 3 (220 * r + j) = 13 ∧ σ0.2.1 4 (220 * r + j) = σ0.2.1 4 (220 * r + k) ∧ ¬ SK j) (ht : τ.2.1 9 r = t) (h3 : τ.2.1 3 = σ.2.1 3) (h4 : τ.2.1 4 = σ.2.1 4) : LEX τ r := by
  obtain ⟨s, c⟩ := h.cm
  have := c.lx hl
  unfold LEX
  rw [ht, h3, h4]
  exact this
theorem CMP.lbm {σ0 σ τ : MS} {r F n t : Int} {SK : Int → Prop} (h : CMP σ0 σ r F n t SK) (hb : LBM σ0 r) (hn : n = σ0.2.1 9 r) (ht : τ.2.1 9 r = t) (h14 : τ.2.1 14 r = σ0.2.1 14 r) (h3 : τ.2.1 3 = σ.2.1 3) (h4 : τ.2.1 4 = σ.2.1 4) : LBM τ r := fun k a b e => by
  obtain ⟨s, c1, c2, c3⟩ := h
  rw [ht] at b
  rw [h3] at e
  rw [h4, h14]
  obtain ⟨q1, q2, q3, q4⟩ := c1 k a b
  unfold KR at q2
  rw [q3]
  exact hb (s k) q1.1.1 (by omega) (by omega)
theorem CODE.kc {σ τ : MS} {r : Int} (h : CODE σ r) (hn : 1 ≤ σ.2.1 9 r) (hk : KC σ τ) (h4 : τ.2.1 4 = σ.2.1 4) (h5 : τ.2.1 5 = σ.2.1 5) (h9 : τ.2.1 9 = σ.2.1 9) (h14 : τ.2.1 14 = σ.2.1 14) (h16 : τ.2.1 16 = σ.2.1 16) (h10 : τ.1 10 = σ.1 10) : CODE τ r := by
  obtain ⟨fr, lf, h⟩ := h
  have c : CM (σ.2.1 9 r) (σ.2.1 9 r) (iK σ r) (iD σ r) (iO σ r) (iK τ r) (iD τ r) (iO τ r) id (fun _ => False) := by
    refine ⟨fun j a b => ⟨⟨a, b⟩, fun q => q, ?_, by simp only [iD, id]; rw [h4], by simp only [iO, id]; rw [h5]⟩, fun i j _ q _ => q, fun i a b => Or.inr ⟨i, a, b, rfl⟩⟩
    rcases hk (220 * r + j) with q | q
    · exact Or.inl q
    · exact Or.inr (Or.inl q)
  have := c.cw h hn (Or.inr ⟨fun q => q, fun _ _ _ q => q.elim⟩) (fun _ _ _ _ _ _ _ _ _ q => q)
  refine ⟨fr, lf, ?_⟩
  unfold iK iD iO iF at this ⊢
  rw [h9, h14, h16, h10]
  exact this
theorem LEX.kc {σ τ : MS} {r : Int} (h : LEX σ r) (hk : KC σ τ) (h4 : τ.2.1 4 = σ.2.1 4) (h9 : τ.2.1 9 = σ.2.1 9) : LEX τ r := fun k a b e => by
  rw [h9] at b
  have q1 := hk (220 * r + k)
  obtain ⟨j, j0, j1, j2, j3⟩ := h k a b (by omega)
  have q2 := hk (220 * r + j)
  exact ⟨j, j0, by rw [h9]; exact j1, by omega, by rw [h4]; exact j3⟩
theorem LBM.kc {σ τ : MS} {r : Int} (h : LBM σ r) (hk : KC σ τ) (h4 : τ.2.1 4 = σ.2.1 4) (h9 : τ.2.1 9 = σ.2.1 9) (h14 : τ.2.1 14 = σ.2.1 14) : LBM τ r := fun k a b e => by
  rw [h9] at b
  have q1 := hk (220 * r + k)
  rw [h4, h14]
  exact h k a b (by omega)
theorem CODE.dk {σ τ : MS} {r : Int} (h : CODE σ r) (hk : DK σ τ) (h3 : τ.2.1 3 = σ.2.1 3) (h5 : τ.2.1 5 = σ.2.1 5) (h9 : τ.2.1 9 = σ.2.1 9) (h14 : τ.2.1 14 = σ.2.1 14) (h16 : τ.2.1 16 = σ.2.1 16) (h10 : τ.1 10 = σ.1 10) : CODE τ r := by
  obtain ⟨fr, lf, h⟩ := h
  refine ⟨fr, lf, ?_⟩
  have e3 : iK τ r = iK σ r := by unfold iK; rw [h3]
  have e5 : iO τ r = iO σ r := by unfold iO; rw [h5]
  have e6 : iF τ r = iF σ r := by unfold iF; rw [h16]
  rw [e3, e5, e6, h9, h14, h10]
  have d : ∀ k, iK σ r k = 8 ∨ iK σ r k = 9 ∨ iK σ r k = 13 ∨ iK σ r k = 14 ∨ iK σ r k = 15 → iD τ r k = iD σ r k := fun k q => hk _ (by simp only [iK] at q; omega)
  obtain ⟨a1, a2, a3, a4, a5⟩ := h
  refine ⟨a1, a2, fun k x y x7 x8 => ?_, fun k x y => ?_, a5⟩
  · obtain ⟨b1, b2, b3, b4⟩ := a3 k x y x7 x8
    refine ⟨b1, fun e => ?_, fun e => ?_, b4⟩
    · rw [d k (by omega)]; exact b2 e
    · rw [d k (by omega)]; exact b3 e
  · obtain ⟨b1, b2⟩ := a4 k x y
    exact ⟨fun e => by rw [d k (by omega)]; exact b1 e, b2⟩
theorem LEX.dk {σ τ : MS} {r : Int} (h : LEX σ r) (hk : DK σ τ) (h3 : τ.2.1 3 = σ.2.1 3) (h9 : τ.2.1 9 = σ.2.1 9) : LEX τ r := fun k a b e => by
  rw [h9] at b
  rw [h3] at e
  obtain ⟨j, j0, j1, j2, j3⟩ := h k a b e
  exact ⟨j, j0, by rw [h9]; exact j1, by rw [h3]; exact j2, by rw [hk _ (by omega), hk _ (by omega)]; exact j3⟩
theorem LBM.dk {σ τ : MS} {r : Int} (h : LBM σ r) (hk : DK σ τ) (h3 : τ.2.1 3 = σ.2.1 3) (h9 : τ.2.1 9 = σ.2.1 9) (h14 : τ.2.1 14 = σ.2.1 14) : LBM τ r := fun k a b e => by
  rw [h9] at b
  rw [h3] at e
  rw [h14, hk _ (by omega)]
  exact h k a b e
theorem oki_jump {σ : MS} {F x : Int} (ho : OKI σ F x) (h9 : σ.2.1 3 x = 9) : OKI (fArg x 0 0 0 (sA 3 x 8 σ)) F x := by
  obtain ⟨o1, o2, o3, o4, o5, o6, o7, o8, o9⟩ := ho
  have e3 : (fArg x 0 0 0 (sA 3 x 8 σ)).2.1 3 x = 8 := ra_o (by decide) (ra_o (by decide) ra_eq)
  have hn : nArgs σ x = 1 := by unfold nArgs; rw [h9]; rfl
  have hm : nArgs (fArg x 0 0 0 (sA 3 x 8 σ)) x = 0 := by unfold nArgs; rw [e3]; rfl
  unfold OKI
  rw [hm, e3]
  refine ⟨by decide, fun q => by omega, fun _ => o3 (by omega), fun q => by omega, fun q => by omega, fun q => by omega, fun q => by omega, fun i c e => ?_, fun q => by omega⟩
  by_cases hi : i = 0
  · subst hi
    rw [show (fArg x 0 0 0 (sA 3 x 8 σ)).2.1 7 (4 * x + 0) = 0 from ra_o (by decide) ra_eq]
    exact ⟨by decide, fun q => by omega⟩
  · rw [show (fArg x 0 0 0 (sA 3 x 8 σ)).2.1 7 (4 * x + i) = σ.2.1 7 (4 * x + i) from ra_o (by decide) (ra_ne (by omega) (ra_o (by decide) rfl))]
    have := o8 i c e
    rw [hn] at this
    exact ⟨this.1, fun q => by have := (this.2 q).2; omega⟩
theorem jump_off {σ : MS} {x : Int} : OFF x σ (fArg x 0 0 0 (sA 3 x 8 σ)) := (OFF.A (by decide)).trans (OFF.arg (by decide) (by decide))
def CMZ (σ0 σ : MS) (r F k t : Int) : Prop := ∃ SK : Int → Prop, CMP σ0 σ r F k t SK ∧ ∀ i, SK i → (0 ≤ i ∧ i < k) ∧ σ0.2.1 3 (220 * r + i) = 9
def FLP (σ0 σ : MS) (r F k t : Int) : Prop := CMZ σ0 σ r F k t ∧ (∀ j, k ≤ j → j < 220 → IEQ σ0 (220 * r + j) σ (220 * r + j)) ∧ XO r σ0 σ ∧ σ.2.1 11 = σ0.2.1 11
def FWK (σ0 σ : MS) (r F k t : Int) : Prop := CMZ σ0 σ r F k t ∧ (∀ j, k < j → j < 220 → IEQ σ0 (220 * r + j) σ (220 * r + j)) ∧ XO r σ0 σ ∧ σ.2.1 11 = σ0.2.1 11 ∧ KR (σ0.2.1 3 (220 * r + k)) (σ.2.1 3 (220 * r + k)) ∧ σ.2.1 4 (220 * r + k) = σ0.2.1 4 (220 * r + k) ∧ σ.2.1 5 (220 * r + k) = σ0.2.1 5 (220 * r + k) ∧ OKI σ F (220 * r + k)
theorem IEQ.fr {ss ks js : List Nat} {σ τ : MS} {x : Int} (f : Fr ss ks js σ τ) (h : ∀ k ∈ [3, 4, 5, 6, 7, 8], k ∉ ks) : IEQ σ x τ x := by
  unfold IEQ
  rw [f.q h (k := 3) (by decide), f.q h (k := 4) (by decide), f.q h (k := 5) (by decide), f.q h (k := 6) (by decide), f.q h (k := 7) (by decide), f.q h (k := 8) (by decide)]
  exact ⟨Eq.refl _, Eq.refl _, Eq.refl _, Eq.refl _, fun _ _ _ => ⟨Eq.refl _, Eq.refl _⟩⟩
theorem CMP.same {σ0 σ τ : MS} {r F k t : Int} {SK : Int → Prop} (h : CMP σ0 σ r F k t SK) (hlo : ∀ j, 0 ≤ j → j < t → IEQ σ (220 * r + j) τ (220 * r + j)) (hp : τ.2.1 11 = σ.2.1 11) : CMP σ0 τ r F k t SK := by
  obtain ⟨s, c1, c2, c3⟩ := h
  refine ⟨s, fun j a b => ?_, c2, c3⟩
  have q := c1 j a (by omega)
  have w := hlo j a (by omega)
  rw [w.1, w.2.1, w.2.2.1]
  exact ⟨q.1, q.2.1, q.2.2.1, q.2.2.2.1, w.oki hp q.2.2.2.2⟩
theorem FLP.start {σ : MS} {r F : Int} : FLP σ σ r F 0 0 := ⟨⟨fun _ => False, CMP.start, fun _ q => q.elim⟩, fun _ _ _ => IEQ.rfl, XO.rfl, rfl⟩
theorem FLP.wk {σ0 σ : MS} {r F k t : Int} (h : FLP σ0 σ r F k t) (hk : 0 ≤ k ∧ k < 220) (ho : OKI σ0 F (220 * r + k)) : FWK σ0 σ r F k t := by
  obtain ⟨h1, h2, h3, h4⟩ := h
  have q := h2 k (by omega) hk.2
  exact ⟨h1, fun j a b => h2 j (by omega) b, h3, h4, Or.inl q.1, q.2.1, q.2.2.1, q.oki h4 ho⟩
theorem FWK.off {σ0 σ τ : MS} {r F k t : Int} (h : FWK σ0 σ r F k t) (hk : 0 ≤ k ∧ k < 220 ∧ t ≤ k) (f : OFF (220 * r + k) σ τ) (h3 : KR (σ0.2.1 3 (220 * r + k)) (τ.2.1 3 (220 * r + k))) (h4 : τ.2.1 4 (220 * r + k) = σ.2.1 4 (220 * r + k)) (h5 : τ.2.1 5 (220 * r + k) = σ.2.1 5 (220 * r + k)) (ho : OKI τ F (220 * r + k)) : FWK σ0 τ r F k t := by
  obtain ⟨⟨SK, c, cs⟩, g2, g3, g4, g5, g6, g7, g8⟩ := h
  exact ⟨⟨SK, c.same (fun j a b => f.ieq (by omega)) f.2.2.2, cs⟩, fun j a b => (g2 j a b).trans (f.ieq (by omega)), g3.trans (f.xo hk.1 hk.2.1), f.2.2.2.trans g4, h3, h4.trans g6, h5.trans g7, ho⟩
theorem FWK.fr {ss ks js : List Nat} {σ0 σ τ : MS} {r F k t : Int} (h : FWK σ0 σ r F k t) (f : Fr ss ks js σ τ) (hk : ∀ k ∈ [3, 4, 5, 6, 7, 8, 9, 11], k ∉ ks) : FWK σ0 τ r F k t := by
  have sub : ∀ l : List Nat, (∀ k ∈ l, k ∈ [3, 4, 5, 6, 7, 8, 9, 11]) → ∀ k ∈ l, k ∉ ks := fun l hl k q => hk k (hl k q)
  obtain ⟨⟨SK, c, cs⟩, g2, g3, g4, g5, g6, g7, g8⟩ := h
  have e : ∀ x, IEQ σ x τ x := fun x => IEQ.fr f (sub _ (by decide))
  have e11 : τ.2.1 11 = σ.2.1 11 := f.q hk (k := 11) (by decide)
  refine ⟨⟨SK, c.same (fun j a b => e _) e11, cs⟩, fun j a b => (g2 j a b).trans (e _), g3.trans (XO.fr f (sub _ (by decide))), e11.trans g4, ?_, ?_, ?_, (e _).oki e11 g8⟩
  · rw [f.q hk (k := 3) (by decide)]; exact g5
  · rw [f.q hk (k := 4) (by decide)]; exact g6
  · rw [f.q hk (k := 5) (by decide)]; exact g7
theorem FWK.keep {σ0 σ : MS} {r F k t : Int} (h : FWK σ0 σ r F k t) (hk : 0 ≤ k ∧ k < 220 ∧ 0 ≤ t ∧ t ≤ k) : FLP σ0 (fCopy (220 * r + k) (220 * r + t) σ) r F (k + 1) (t + 1) := by
  obtain ⟨⟨SK, c, cs⟩, g2, g3, g4, g5, g6, g7, g8⟩ := h
  have i := fCopy_ieq (f := 220 * r + k) (t := 220 * r + t) (σ := σ)
  have o := fCopy_off (f := 220 * r + k) (t := 220 * r + t) (σ := σ)
  refine ⟨⟨SK, c.keep ⟨hk.1, hk.2.2.1⟩ (fun j a b => o.ieq (by omega)) o.2.2.2 (fun q => by have := (cs _ q).1; omega) (by rw [i.1]; exact g5) (by rw [i.2.1]; exact g6) (by rw [i.2.2.1]; exact g7) (i.oki o.2.2.2 g8), fun j q => ⟨by have := (cs _ q).1; omega, (cs _ q).2⟩⟩, fun j a b => (g2 j (by omega) b).trans (o.ieq (by omega)), g3.trans (o.xo hk.2.2.1 (by omega)), o.2.2.2.trans g4⟩
theorem FWK.skip {σ0 σ : MS} {r F k t : Int} (h : FWK σ0 σ r F k t) (hk : 0 ≤ k) (h9 : σ0.2.1 3 (220 * r + k) = 9) : FLP σ0 σ r F (k + 1) t := by
  obtain ⟨⟨SK, c, cs⟩, g2, g3, g4, g5, g6, g7, g8⟩ := h
  refine ⟨⟨fun i => SK i ∨ i = k, c.skip (fun j a b => IEQ.rfl) rfl (Or.inr rfl) (fun i a b => ⟨fun q => q.elim id (fun e => by omega), Or.inl⟩), fun j q => ?_⟩, fun j a b => g2 j (by omega) b, g3, g4⟩
  rcases q with q | q
  · exact ⟨by have := (cs _ q).1; omega, (cs _ q).2⟩
  · subst q; exact ⟨by omega, h9⟩
theorem FLP.fin {σ0 σ : MS} {r F n t : Int} (h : FLP σ0 σ r F n t) (hn : n = σ0.2.1 9 r ∧ 1 ≤ n) (f : Fr [] [3, 4, 5, 6, 7, 8, 60, 61] [] σ0 σ) (hc : CODE σ0 r) (hl : LEX σ0 r) (hb : LBM σ0 r) :
    CODE (sA 9 r t σ) r ∧ 1 ≤ t ∧ LEX (sA 9 r t σ) r ∧ LBM (sA 9 r t σ) r ∧ OKS (sA 9 r t σ) F r := by
  obtain ⟨⟨SK, c, cs⟩, g2, g3, g4⟩ := h
  have e14 : (sA 9 r t σ).2.1 14 = σ0.2.1 14 := f.2.1 14 (by decide)
  have e16 : (sA 9 r t σ).2.1 16 = σ0.2.1 16 := f.2.1 16 (by decide)
  have e10 : (sA 9 r t σ).1 10 = σ0.1 10 := f.1 10 (by decide)
  have nS : ∀ i, σ0.2.1 3 (220 * r + i) ≠ 9 → ¬ SK i := fun i q w => q (cs i w).2
  have cc := c.code (τ := sA 9 r t σ) hc hn (Or.inl fun i a b q => Or.inl (cs i q).2) (fun j k _ _ _ e _ _ _ => nS j (by omega)) ra_eq (by rw [e14]) e10 e16 rfl rfl rfl
  refine ⟨cc.1, cc.2, c.lex (fun k a b _ e => ?_) ra_eq rfl rfl, c.lbm hb hn.1 ra_eq (by rw [e14]) rfl rfl, c.oks ra_eq (fun F x q => ?_)⟩
  · obtain ⟨j, j0, j1, j2, j3⟩ := hl k a (by omega) e
    exact ⟨j, j0, by omega, j2, j3, nS j (by omega)⟩
  · exact (IEQ.fr ((Fr.rfl (ss := []) (ks := [9]) (js := [])).A (by decide)) (by decide)).oki rfl q
theorem FWK.z9 {σ0 σ : MS} {r F k t : Int} (h : FWK σ0 σ r F k t) (e : σ.2.1 3 (220 * r + k) = 9) : σ0.2.1 3 (220 * r + k) = 9 := by
  have := h.2.2.2.2.1; unfold KR at this; omega
theorem FWK.ok {σ0 σ : MS} {r F k t : Int} (h : FWK σ0 σ r F k t) : OKI σ F (220 * r + k) := h.2.2.2.2.2.2.2
theorem FWK.jump {σ0 σ : MS} {r F k t : Int} (h : FWK σ0 σ r F k t) (hk : 0 ≤ k ∧ k < 220 ∧ t ≤ k) (e : σ.2.1 3 (220 * r + k) = 9) : FWK σ0 (fArg (220 * r + k) 0 0 0 (sA 3 (220 * r + k) 8 σ)) r F k t :=
  h.off hk jump_off (Or.inr (Or.inr ⟨h.z9 e, ra_o (by decide) (ra_o (by decide) ra_eq)⟩)) rfl rfl (oki_jump h.ok e)
theorem FWK.cpy {σ0 σ : MS} {r F k t v : Int} (h : FWK σ0 σ r F k t) (hk : 0 ≤ k ∧ k < 220 ∧ t ≤ k) (e : 1 ≤ σ.2.1 3 (220 * r + k) ∧ σ.2.1 3 (220 * r + k) ≤ 5) : FWK σ0 (fCpy (220 * r + k) 1 v σ) r F k t :=
  h.off hk fCpy_off (Or.inr (Or.inl ⟨by have := h.2.2.2.2.1; unfold KR at this; omega, ra_o (by decide) (ra_o (by decide) (ra_o (by decide) (ra_o (by decide) ra_eq)))⟩)) rfl rfl (fCpy_oki h.ok e (by decide) (fun q => by omega))
theorem FWK.bind {σ0 σ : MS} {r F k t v : Int} (h : FWK σ0 σ r F k t) (hk : 0 ≤ k ∧ k < 220 ∧ t ≤ k) (e : σ.2.1 3 (220 * r + k) = 12) (e2 : σ.2.1 6 (220 * r + k) = 2) : FWK σ0 (fArg (220 * r + k) 0 1 v (sA 6 (220 * r + k) 1 σ)) r F k t :=
  h.off hk takA_off h.2.2.2.2.1 rfl rfl (oki_takA h.ok e e2 (by decide) (fun q => by omega))
theorem FWK.puts {σ0 σ τ : MS} {r F k t : Int} (h : FWK σ0 σ r F k t) (hk : 0 ≤ k ∧ k < 220 ∧ t ≤ k) (o : OFF (220 * r + k) σ τ) (f : Fr [] [7, 8] [] σ τ) (ho : OKI τ F (220 * r + k)) : FWK σ0 τ r F k t :=
  h.off hk o (by rw [f.2.1 3 (by decide)]; exact h.2.2.2.2.1) (by rw [f.2.1 4 (by decide)]) (by rw [f.2.1 5 (by decide)]) ho
end
section
set_option maxHeartbeats 1000000 in
set_option maxRecDepth 20000 in
theorem l_forget2 (d : Nat) {b : Nat} {σ0 : MS} {post : Option Value → MS → Prop} (hx_22 : ∀ (g : Int) (σ : MS) , (Fr [] [60] [] σ0 σ) → (RG σ) → (KNW σ) → Tm (d + 1) m_X12_forgetAll 22 b σ [(1, .int (iI g)), (0, .ref b)] [] post) : ∀ (n : Nat) (g : Int) (σ : MS) , (Fr [] [60] [] σ0 σ) → (RG σ) → (0 ≤ g ∧ g ≤ 192) → (KNW σ) → (192 - g).toNat = n → Tm (d + 1) m_X12_forgetAll 2 b σ [(1, .int (iI g)), (0, .ref b)] [] post := by
  intro n
  induction n using Nat.strongRecOn with
  | _ n ih =>
    intro g σ hF hR h0 hkn hm
    refine tm_iload_n dX12_forgetAll_2 rfl 0 rfl ?_
    refine tm_sipush dX12_forgetAll_3 (by decide) ?_
    refine tm_icmp_ge (tgt := 22) dX12_forgetAll_6 (by decide) ⟨by omega, by omega⟩ ⟨by decide, by decide⟩ (fun h1 => ?_) (fun h1 => ?_)
    · exact tm_sub [0, 1] rfl (hx_22 (g) σ (Fr.rfl.trans (Fr.sub hF (by decide) (by decide) (by decide))) hR hkn)
    · refine tm_aload_n dX12_forgetAll_9 rfl 1 rfl ?_
      refine tm_get (k := 60) (v := .ref (b + 1 + 38)) lay_12 dX12_forgetAll_10 (by decide) fl12_133 rfl ?_
      refine tm_iload_n dX12_forgetAll_13 rfl 0 rfl ?_
      refine tm_iconst dX12_forgetAll_14 ?_
      refine tm_iast (z := g) (v := 0) dX12_forgetAll_15 (show mT[38]? = some (60, 0, 192) from rfl) (by omega) (by omega) (by decide) ?_
      refine tm_iinc (q0 := 0) (L' := [(1, .int (iI (g + 1))), (0, .ref b)]) dX12_forgetAll_16 rfl (by decide) rfl ?_
      refine tm_goto (tgt := 2) dX12_forgetAll_19 (by decide) ?_
      exact tm_sub [0, 1] rfl (ih _ (by omega) (g + 1) (sA 60 (g) (0) σ) ((Fr.rfl.trans (Fr.sub hF (by decide) (by decide) (by decide))).A (by decide)) (hR.A (by omega)) (by omega) (hkn.z (Or.inl rfl)) rfl)
set_option maxHeartbeats 1000000 in
set_option maxRecDepth 20000 in
theorem c2_X12_forgetAll (d : Nat) {b : Nat} {σ : MS} (hR : RG σ) (hkn : KNW σ) : Tm (d + 1) m_X12_forgetAll 0 b σ [(0, .ref b)] [] (fun ro σ2 => ro = none ∧ (Fr [] [60] [] σ σ2) ∧ (RG σ2) ∧ (KNW σ2)) := by
  refine tm_iconst dX12_forgetAll_0 ?_
  refine tm_istore_n (L' := [(1, .int (iI 0)), (0, .ref b)]) dX12_forgetAll_1 rfl (by decide) rfl ?_
  refine tm_sub [0, 1] rfl (l_forget2 (d) (σ0 := σ)  (fun g6 σ7 F3 R4 f5 => ?_) _ (0) σ Fr.rfl hR (by omega) hkn rfl)
  show Tm _ _ 22 b σ7 [(1, .int (iI g6)), (0, .ref b)] [] _
  exact tm_vret rfl dX12_forgetAll_22 (⟨rfl, (Fr.rfl.trans (Fr.sub F3 (by decide) (by decide) (by decide))), R4, f5⟩)
theorem dX12_fold_335 : decode cX12_fold 335 = .ok (.iload 6, 2) := by decide +kernel
theorem dX12_fold_337 : decode cX12_fold 337 = .ok (.ifCond .ne 18, 3) := by decide +kernel
theorem dX12_fold_340 : decode cX12_fold 340 = .ok (.aload_n 0, 1) := by decide +kernel
theorem dX12_fold_341 : decode cX12_fold 341 = .ok (.iload 5, 2) := by decide +kernel
theorem dX12_fold_343 : decode cX12_fold 343 = .ok (.aload_n 0, 1) := by decide +kernel
theorem dX12_fold_344 : decode cX12_fold 344 = .ok (.iload_n 1, 1) := by decide +kernel
theorem dX12_fold_345 : decode cX12_fold 345 = .ok (.iload_n 3, 1) := by decide +kernel
theorem dX12_fold_346 : decode cX12_fold 346 = .ok (.invokevirtual 203, 3) := by decide +kernel
theorem dX12_fold_349 : decode cX12_fold 349 = .ok (.invokevirtual 394, 3) := by decide +kernel
theorem dX12_fold_352 : decode cX12_fold 352 = .ok (.iinc 3 1, 3) := by decide +kernel
set_option maxHeartbeats 1000000 in
set_option maxRecDepth 20000 in
theorem b_fold335 (d : Nat) {b : Nat} {σ0 : MS} {r : Int} {F : Int} {k : Int} {w : Int} {gs : Int} {ρ : MS} {post : Option Value → MS → Prop} (hr : 0 ≤ r ∧ r < 6) (hg : (gs = 0 ∨ gs = 1) ∧ (gs = 1 → ρ.2.1 3 (220 * r + k) = 9)) (hk : 0 ≤ k ∧ k < 220) (hx_355 : ∀ (t : Int) (σ : MS) , (Fr [] [3, 4, 5, 6, 7, 8] [] σ0 σ) → (RG σ) → (0 ≤ t ∧ t ≤ k + 1) → (FLP ρ σ r F (k + 1) t) → (KNW σ) → Tm (d + 2) m_X12_fold 355 b σ [(6, .int (iI gs)), (5, .int (iI (220 * r + k))), (4, .int (iI k)), (3, .int (iI t)), (2, .int (iI w)), (0, .ref b), (1, .int (iI r))] [] post) : ∀ (n : Nat) (t : Int) (σ : MS) , (Fr [] [3, 4, 5, 6, 7, 8] [] σ0 σ) → (RG σ) → (0 ≤ t ∧ t ≤ k) → (FWK ρ σ r F k t) → (KNW σ) → ((0 : Int)).toNat = n → Tm (d + 2) m_X12_fold 335 b σ [(6, .int (iI gs)), (5, .int (iI (220 * r + k))), (4, .int (iI k)), (3, .int (iI t)), (2, .int (iI w)), (0, .ref b), (1, .int (iI r))] [] post := by
  intro n
  induction n using Nat.strongRecOn with
  | _ n ih =>
    intro t σ hF hR h0 hw hkn hm
    refine tm_iload dX12_fold_335 0 rfl ?_
    refine tm_if_ne (tgt := 355) dX12_fold_337 (by decide) ⟨by omega, by omega⟩ (fun h1 => ?_) (fun h1 => ?_)
    · exact tm_sub [0, 1, 2, 3, 4, 5, 6] rfl (hx_355 (t) σ (Fr.rfl.trans (Fr.sub hF (by decide) (by decide) (by decide))) hR (by omega) (hw.skip hk.1 (hg.2 (by omega))) hkn)
    · refine tm_aload_n dX12_fold_340 rfl 5 rfl ?_
      refine tm_iload dX12_fold_341 1 rfl ?_
      refine tm_aload_n dX12_fold_343 rfl 5 rfl ?_
      refine tm_iload_n dX12_fold_344 rfl 6 rfl ?_
      refine tm_iload_n dX12_fold_345 rfl 3 rfl ?_
      refine tm_callV (M := m_X12_fold) (pc := 346) (ix := 203) (M' := m_X12_at) (As := [.int (iI r), .int (iI t)]) (rest := [.int (iI (220 * r + k)), .ref b]) dX12_fold_346 ok_X12_at im_X12_at se_X12_at ml12_203 np_X12_at rfl rfl (Nat.le_of_ble_eq_true rfl) (Nat.le_of_ble_eq_true rfl) rfl (c_X12_at (d) (σ := σ) (x := r) (k := t) ) (fun r2 σ3 hp => ?_)
      obtain ⟨v4, rfl, rfl, f5⟩ := hp
      subst f5
      show Tm _ _ 349 b σ [(6, .int (iI gs)), (5, .int (iI (220 * r + k))), (4, .int (iI k)), (3, .int (iI t)), (2, .int (iI w)), (0, .ref b), (1, .int (iI r))] [.int (iI (220 * r + t)), .int (iI (220 * r + k)), .ref b] _
      refine tm_callV (M := m_X12_fold) (pc := 349) (ix := 394) (M' := m_X12_copyItem) (As := [.int (iI (220 * r + k)), .int (iI (220 * r + t))]) (rest := []) dX12_fold_349 ok_X12_copyItem im_X12_copyItem se_X12_copyItem ml12_394 np_X12_copyItem rfl rfl (Nat.le_of_ble_eq_true rfl) (Nat.le_of_ble_eq_true rfl) rfl (c_X12_copyItem (d) (σ := σ) (f := 220 * r + k) (t := 220 * r + t) (by omega) (by omega)) (fun r6 σ7 hp => ?_)
      obtain ⟨rfl, f9⟩ := hp
      subst f9
      show Tm _ _ 352 b (fCopy (220 * r + k) (220 * r + t) σ) [(6, .int (iI gs)), (5, .int (iI (220 * r + k))), (4, .int (iI k)), (3, .int (iI t)), (2, .int (iI w)), (0, .ref b), (1, .int (iI r))] [] _
      refine tm_iinc (q0 := 3) (L' := [(3, .int (iI (t + 1))), (6, .int (iI gs)), (5, .int (iI (220 * r + k))), (4, .int (iI k)), (2, .int (iI w)), (0, .ref b), (1, .int (iI r))]) dX12_fold_352 rfl (by decide) rfl ?_
      exact tm_sub [1, 2, 3, 0, 4, 5, 6] rfl (hx_355 (t + 1) (fCopy (220 * r + k) (220 * r + t) σ) ((Fr.rfl.trans (Fr.sub hF (by decide) (by decide) (by decide))).trans (Fr.sub fCopy_fr (by decide) (by decide) (by decide))) (hR.copy) (by omega) (hw.keep (by omega)) (hkn.fr fCopy_fr (by decide)))
theorem ml12_469 : Cond.methodLink RX12 469 yX12_learn ∈ pWW := pw9 (List.mem_of_getElem? (i := 117) rfl) rfl
theorem dX12_fold_251 : decode cX12_fold 251 = .ok (.aload_n 0, 1) := by decide +kernel
theorem dX12_fold_252 : decode cX12_fold 252 = .ok (.getfield 13, 3) := by decide +kernel
theorem dX12_fold_255 : decode cX12_fold 255 = .ok (.iload 5, 2) := by decide +kernel
theorem dX12_fold_257 : decode cX12_fold 257 = .ok (.iaload, 1) := by decide +kernel
theorem dX12_fold_258 : decode cX12_fold 258 = .ok (.bipush 9, 2) := by decide +kernel
theorem dX12_fold_260 : decode cX12_fold 260 = .ok (.if_icmp .ne 56, 3) := by decide +kernel
theorem dX12_fold_316 : decode cX12_fold 316 = .ok (.iload_n 2, 1) := by decide +kernel
theorem dX12_fold_317 : decode cX12_fold 317 = .ok (.iload 7, 2) := by decide +kernel
theorem dX12_fold_319 : decode cX12_fold 319 = .ok (.ifCond .eq 7, 3) := by decide +kernel
theorem dX12_fold_326 : decode cX12_fold 326 = .ok (.iconst 0, 1) := by decide +kernel
theorem dX12_fold_327 : decode cX12_fold 327 = .ok (.iadd, 1) := by decide +kernel
theorem dX12_fold_328 : decode cX12_fold 328 = .ok (.istore_n 2, 1) := by decide +kernel
theorem dX12_fold_329 : decode cX12_fold 329 = .ok (.aload_n 0, 1) := by decide +kernel
theorem dX12_fold_330 : decode cX12_fold 330 = .ok (.iload 5, 2) := by decide +kernel
theorem dX12_fold_332 : decode cX12_fold 332 = .ok (.invokevirtual 469, 3) := by decide +kernel
theorem dX12_fold_322 : decode cX12_fold 322 = .ok (.iconst 1, 1) := by decide +kernel
theorem dX12_fold_323 : decode cX12_fold 323 = .ok (.goto 4, 3) := by decide +kernel
theorem dX12_fold_263 : decode cX12_fold 263 = .ok (.aload_n 0, 1) := by decide +kernel
theorem dX12_fold_264 : decode cX12_fold 264 = .ok (.getfield 26, 3) := by decide +kernel
theorem dX12_fold_267 : decode cX12_fold 267 = .ok (.iconst 4, 1) := by decide +kernel
theorem dX12_fold_268 : decode cX12_fold 268 = .ok (.iload 5, 2) := by decide +kernel
theorem dX12_fold_270 : decode cX12_fold 270 = .ok (.imul, 1) := by decide +kernel
theorem dX12_fold_271 : decode cX12_fold 271 = .ok (.iaload, 1) := by decide +kernel
theorem dX12_fold_272 : decode cX12_fold 272 = .ok (.iconst 1, 1) := by decide +kernel
theorem dX12_fold_273 : decode cX12_fold 273 = .ok (.if_icmp .ne 43, 3) := by decide +kernel
theorem dX12_fold_276 : decode cX12_fold 276 = .ok (.aload_n 0, 1) := by decide +kernel
theorem dX12_fold_277 : decode cX12_fold 277 = .ok (.getfield 29, 3) := by decide +kernel
theorem dX12_fold_280 : decode cX12_fold 280 = .ok (.iconst 4, 1) := by decide +kernel
theorem dX12_fold_281 : decode cX12_fold 281 = .ok (.iload 5, 2) := by decide +kernel
theorem dX12_fold_283 : decode cX12_fold 283 = .ok (.imul, 1) := by decide +kernel
theorem dX12_fold_284 : decode cX12_fold 284 = .ok (.iaload, 1) := by decide +kernel
theorem dX12_fold_285 : decode cX12_fold 285 = .ok (.ifCond .eq 7, 3) := by decide +kernel
theorem dX12_fold_292 : decode cX12_fold 292 = .ok (.iconst 0, 1) := by decide +kernel
theorem dX12_fold_293 : decode cX12_fold 293 = .ok (.istore 6, 2) := by decide +kernel
theorem dX12_fold_295 : decode cX12_fold 295 = .ok (.aload_n 0, 1) := by decide +kernel
theorem dX12_fold_296 : decode cX12_fold 296 = .ok (.getfield 13, 3) := by decide +kernel
theorem dX12_fold_299 : decode cX12_fold 299 = .ok (.iload 5, 2) := by decide +kernel
theorem dX12_fold_301 : decode cX12_fold 301 = .ok (.bipush 8, 2) := by decide +kernel
theorem dX12_fold_303 : decode cX12_fold 303 = .ok (.iastore, 1) := by decide +kernel
theorem dX12_fold_304 : decode cX12_fold 304 = .ok (.aload_n 0, 1) := by decide +kernel
theorem dX12_fold_305 : decode cX12_fold 305 = .ok (.iload 5, 2) := by decide +kernel
theorem dX12_fold_307 : decode cX12_fold 307 = .ok (.iconst 0, 1) := by decide +kernel
theorem dX12_fold_308 : decode cX12_fold 308 = .ok (.iconst 0, 1) := by decide +kernel
theorem dX12_fold_309 : decode cX12_fold 309 = .ok (.iconst 0, 1) := by decide +kernel
theorem dX12_fold_310 : decode cX12_fold 310 = .ok (.invokevirtual 298, 3) := by decide +kernel
theorem dX12_fold_313 : decode cX12_fold 313 = .ok (.iconst 1, 1) := by decide +kernel
theorem dX12_fold_314 : decode cX12_fold 314 = .ok (.istore 7, 2) := by decide +kernel
theorem dX12_fold_288 : decode cX12_fold 288 = .ok (.iconst 1, 1) := by decide +kernel
theorem dX12_fold_289 : decode cX12_fold 289 = .ok (.goto 4, 3) := by decide +kernel
set_option maxHeartbeats 1000000 in
set_option maxRecDepth 20000 in
theorem b_fold251 (d : Nat) {b : Nat} {σ0 : MS} {r : Int} {F : Int} {k : Int} {ρ : MS} {post : Option Value → MS → Prop} (hr : 0 ≤ r ∧ r < 6) (hR0 : RG σ0) (hk : 0 ≤ k ∧ k < 220) (hx_355 : ∀ (ce : Int) (w : Int) (gs : Int) (t : Int) (σ : MS) , (Fr [] [3, 4, 5, 6, 7, 8, 60, 61] [] σ0 σ) → (RG σ) → (0 ≤ w ∧ w ≤ k + 1) → (0 ≤ t ∧ t ≤ k + 1) → (FLP ρ σ r F (k + 1) t) → (KNW σ) → Tm (d + 3) m_X12_fold 355 b σ [(6, .int (iI gs)), (5, .int (iI (220 * r + k))), (4, .int (iI k)), (3, .int (iI t)), (2, .int (iI w)), (0, .ref b), (1, .int (iI r))] [] post) : ∀ (n : Nat) (ce : Int) (w : Int) (gs : Int) (t : Int) (σ : MS) , (Fr [] [3, 4, 5, 6, 7, 8, 60, 61] [] σ0 σ) → (RG σ) → (0 ≤ t ∧ t ≤ k ∧ (ce = 0 ∨ ce = 1) ∧ gs = 0 ∧ 0 ≤ w ∧ w ≤ k) → (FWK ρ σ r F k t) → (KNW σ) → ((0 : Int)).toNat = n → Tm (d + 3) m_X12_fold 251 b σ [(7, .int (iI ce)), (6, .int (iI gs)), (5, .int (iI (220 * r + k))), (4, .int (iI k)), (3, .int (iI t)), (2, .int (iI w)), (0, .ref b), (1, .int (iI r))] [] post := by
  intro n
  induction n using Nat.strongRecOn with
  | _ n ih =>
    intro ce w gs t σ hF hR h0 hw hkn hm
    have hok := hw.ok
    have hok1 := hok.1
    have ho8 := hok.2.2.2.2.2.2.2.1 0 (by decide) (by decide)
    rw [Int.add_zero] at ho8
    refine tm_aload_n dX12_fold_251 rfl 6 rfl ?_
    refine tm_get (k := 3) (v := .ref (b + 1 + 1)) lay_12 dX12_fold_252 (by decide) fl12_13 rfl ?_
    refine tm_iload dX12_fold_255 2 rfl ?_
    refine tm_iald (z := 220 * r + k) (v := σ.2.1 3 (220 * r + k)) dX12_fold_257 (show mT[1]? = some (3, 0, 2860) from rfl) (by omega) (by omega) (by decide) (rfl) ?_
    have g1 := RG.a hR 3 (220 * r + k)
    refine tm_bipush dX12_fold_258 (by decide) ?_
    refine tm_icmp_ne (tgt := 316) dX12_fold_260 (by decide) ⟨by omega, by omega⟩ ⟨by decide, by decide⟩ (fun h2 => ?_) (fun h2 => ?_)
    · have hwN := hw
      refine tm_iload_n dX12_fold_316 rfl 5 rfl ?_
      refine tm_iload dX12_fold_317 0 rfl ?_
      refine tm_if_eq (tgt := 326) dX12_fold_319 (by decide) ⟨by omega, by omega⟩ (fun h3 => ?_) (fun h3 => ?_)
      · refine tm_iconst dX12_fold_326 ?_
        refine tm_iadd dX12_fold_327 ?_
        refine tm_istore_n (L' := [(2, .int (iI (w + 0))), (7, .int (iI ce)), (6, .int (iI gs)), (5, .int (iI (220 * r + k))), (4, .int (iI k)), (3, .int (iI t)), (0, .ref b), (1, .int (iI r))]) dX12_fold_328 rfl (by decide) rfl ?_
        refine tm_aload_n dX12_fold_329 rfl 6 rfl ?_
        refine tm_iload dX12_fold_330 3 rfl ?_
        refine tm_callV (M := m_X12_fold) (pc := 332) (ix := 469) (M' := m_X12_learn) (As := [.int (iI (220 * r + k))]) (rest := []) dX12_fold_332 ok_X12_learn im_X12_learn se_X12_learn ml12_469 np_X12_learn rfl rfl (Nat.le_of_ble_eq_true rfl) (Nat.le_of_ble_eq_true rfl) rfl (c_X12_learn (d) (σ := σ) (x := 220 * r + k) (F := F) (by omega) hR hkn hwN.ok) (fun r4 σ5 hp => ?_)
        obtain ⟨rfl, f7, f8, f9⟩ := hp
        show Tm _ _ 335 b σ5 [(2, .int (iI (w + 0))), (7, .int (iI ce)), (6, .int (iI gs)), (5, .int (iI (220 * r + k))), (4, .int (iI k)), (3, .int (iI t)), (0, .ref b), (1, .int (iI r))] [] _
        refine tm_sub [2, 3, 4, 5, 0, 6, 7] rfl (b_fold335 (d + 1) (σ0 := σ5) (r := r) (k := k) (w := w + 0) (gs := gs) (F := F) (ρ := ρ) hr (by omega) (by omega) (fun t17 σ18 F12 R13 f14 f15 f16 => ?_) _ (t) σ5 Fr.rfl f8 (by omega) (hwN.fr f7 (by decide)) (by assumption) rfl)
        show Tm _ _ 355 b σ18 [(6, .int (iI gs)), (5, .int (iI (220 * r + k))), (4, .int (iI k)), (3, .int (iI t17)), (2, .int (iI (w + 0))), (0, .ref b), (1, .int (iI r))] [] _
        exact tm_sub [0, 1, 2, 3, 4, 5, 6] rfl (hx_355 (0) (w + 0) (gs) (t17) σ18 (((Fr.rfl.trans (Fr.sub hF (by decide) (by decide) (by decide))).trans (Fr.sub f7 (by decide) (by decide) (by decide))).trans (Fr.sub F12 (by decide) (by decide) (by decide))) R13 (by omega) (by omega) f15 f16)
      · refine tm_iconst dX12_fold_322 ?_
        refine tm_goto (tgt := 327) dX12_fold_323 (by decide) ?_
        refine tm_iadd dX12_fold_327 ?_
        refine tm_istore_n (L' := [(2, .int (iI (w + 1))), (7, .int (iI ce)), (6, .int (iI gs)), (5, .int (iI (220 * r + k))), (4, .int (iI k)), (3, .int (iI t)), (0, .ref b), (1, .int (iI r))]) dX12_fold_328 rfl (by decide) rfl ?_
        refine tm_aload_n dX12_fold_329 rfl 6 rfl ?_
        refine tm_iload dX12_fold_330 3 rfl ?_
        refine tm_callV (M := m_X12_fold) (pc := 332) (ix := 469) (M' := m_X12_learn) (As := [.int (iI (220 * r + k))]) (rest := []) dX12_fold_332 ok_X12_learn im_X12_learn se_X12_learn ml12_469 np_X12_learn rfl rfl (Nat.le_of_ble_eq_true rfl) (Nat.le_of_ble_eq_true rfl) rfl (c_X12_learn (d) (σ := σ) (x := 220 * r + k) (F := F) (by omega) hR hkn hwN.ok) (fun r19 σ20 hp => ?_)
        obtain ⟨rfl, f22, f23, f24⟩ := hp
        show Tm _ _ 335 b σ20 [(2, .int (iI (w + 1))), (7, .int (iI ce)), (6, .int (iI gs)), (5, .int (iI (220 * r + k))), (4, .int (iI k)), (3, .int (iI t)), (0, .ref b), (1, .int (iI r))] [] _
        refine tm_sub [2, 3, 4, 5, 0, 6, 7] rfl (b_fold335 (d + 1) (σ0 := σ20) (r := r) (k := k) (w := w + 1) (gs := gs) (F := F) (ρ := ρ) hr (by omega) (by omega) (fun t32 σ33 F27 R28 f29 f30 f31 => ?_) _ (t) σ20 Fr.rfl f23 (by omega) (hwN.fr f22 (by decide)) (by assumption) rfl)
        show Tm _ _ 355 b σ33 [(6, .int (iI gs)), (5, .int (iI (220 * r + k))), (4, .int (iI k)), (3, .int (iI t32)), (2, .int (iI (w + 1))), (0, .ref b), (1, .int (iI r))] [] _
        exact tm_sub [0, 1, 2, 3, 4, 5, 6] rfl (hx_355 (0) (w + 1) (gs) (t32) σ33 (((Fr.rfl.trans (Fr.sub hF (by decide) (by decide) (by decide))).trans (Fr.sub f22 (by decide) (by decide) (by decide))).trans (Fr.sub F27 (by decide) (by decide) (by decide))) R28 (by omega) (by omega) f30 f31)
    · refine tm_aload_n dX12_fold_263 rfl 6 rfl ?_
      refine tm_get (k := 7) (v := .ref (b + 1 + 5)) lay_12 dX12_fold_264 (by decide) fl12_26 rfl ?_
      refine tm_iconst dX12_fold_267 ?_
      refine tm_iload dX12_fold_268 2 rfl ?_
      refine tm_imul dX12_fold_270 ?_
      refine tm_iald (z := 4 * (220 * r + k)) (v := σ.2.1 7 (4 * (220 * r + k))) dX12_fold_271 (show mT[5]? = some (7, 0, 11440) from rfl) (by omega) (by omega) (by decide) (rfl) ?_
      have g34 := RG.a hR 7 (4 * (220 * r + k))
      refine tm_iconst dX12_fold_272 ?_
      refine tm_icmp_ne (tgt := 316) dX12_fold_273 (by decide) ⟨by omega, by omega⟩ ⟨by decide, by decide⟩ (fun h35 => ?_) (fun h35 => ?_)
      · have hwN := hw
        refine tm_iload_n dX12_fold_316 rfl 5 rfl ?_
        refine tm_iload dX12_fold_317 0 rfl ?_
        refine tm_if_eq (tgt := 326) dX12_fold_319 (by decide) ⟨by omega, by omega⟩ (fun h36 => ?_) (fun h36 => ?_)
        · refine tm_iconst dX12_fold_326 ?_
          refine tm_iadd dX12_fold_327 ?_
          refine tm_istore_n (L' := [(2, .int (iI (w + 0))), (7, .int (iI ce)), (6, .int (iI gs)), (5, .int (iI (220 * r + k))), (4, .int (iI k)), (3, .int (iI t)), (0, .ref b), (1, .int (iI r))]) dX12_fold_328 rfl (by decide) rfl ?_
          refine tm_aload_n dX12_fold_329 rfl 6 rfl ?_
          refine tm_iload dX12_fold_330 3 rfl ?_
          refine tm_callV (M := m_X12_fold) (pc := 332) (ix := 469) (M' := m_X12_learn) (As := [.int (iI (220 * r + k))]) (rest := []) dX12_fold_332 ok_X12_learn im_X12_learn se_X12_learn ml12_469 np_X12_learn rfl rfl (Nat.le_of_ble_eq_true rfl) (Nat.le_of_ble_eq_true rfl) rfl (c_X12_learn (d) (σ := σ) (x := 220 * r + k) (F := F) (by omega) hR hkn hwN.ok) (fun r37 σ38 hp => ?_)
          obtain ⟨rfl, f40, f41, f42⟩ := hp
          show Tm _ _ 335 b σ38 [(2, .int (iI (w + 0))), (7, .int (iI ce)), (6, .int (iI gs)), (5, .int (iI (220 * r + k))), (4, .int (iI k)), (3, .int (iI t)), (0, .ref b), (1, .int (iI r))] [] _
          refine tm_sub [2, 3, 4, 5, 0, 6, 7] rfl (b_fold335 (d + 1) (σ0 := σ38) (r := r) (k := k) (w := w + 0) (gs := gs) (F := F) (ρ := ρ) hr (by omega) (by omega) (fun t50 σ51 F45 R46 f47 f48 f49 => ?_) _ (t) σ38 Fr.rfl f41 (by omega) (hwN.fr f40 (by decide)) (by assumption) rfl)
          show Tm _ _ 355 b σ51 [(6, .int (iI gs)), (5, .int (iI (220 * r + k))), (4, .int (iI k)), (3, .int (iI t50)), (2, .int (iI (w + 0))), (0, .ref b), (1, .int (iI r))] [] _
          exact tm_sub [0, 1, 2, 3, 4, 5, 6] rfl (hx_355 (0) (w + 0) (gs) (t50) σ51 (((Fr.rfl.trans (Fr.sub hF (by decide) (by decide) (by decide))).trans (Fr.sub f40 (by decide) (by decide) (by decide))).trans (Fr.sub F45 (by decide) (by decide) (by decide))) R46 (by omega) (by omega) f48 f49)
        · refine tm_iconst dX12_fold_322 ?_
          refine tm_goto (tgt := 327) dX12_fold_323 (by decide) ?_
          refine tm_iadd dX12_fold_327 ?_
          refine tm_istore_n (L' := [(2, .int (iI (w + 1))), (7, .int (iI ce)), (6, .int (iI gs)), (5, .int (iI (220 * r + k))), (4, .int (iI k)), (3, .int (iI t)), (0, .ref b), (1, .int (iI r))]) dX12_fold_328 rfl (by decide) rfl ?_
          refine tm_aload_n dX12_fold_329 rfl 6 rfl ?_
          refine tm_iload dX12_fold_330 3 rfl ?_
          refine tm_callV (M := m_X12_fold) (pc := 332) (ix := 469) (M' := m_X12_learn) (As := [.int (iI (220 * r + k))]) (rest := []) dX12_fold_332 ok_X12_learn im_X12_learn se_X12_learn ml12_469 np_X12_learn rfl rfl (Nat.le_of_ble_eq_true rfl) (Nat.le_of_ble_eq_true rfl) rfl (c_X12_learn (d) (σ := σ) (x := 220 * r + k) (F := F) (by omega) hR hkn hwN.ok) (fun r52 σ53 hp => ?_)
          obtain ⟨rfl, f55, f56, f57⟩ := hp
          show Tm _ _ 335 b σ53 [(2, .int (iI (w + 1))), (7, .int (iI ce)), (6, .int (iI gs)), (5, .int (iI (220 * r + k))), (4, .int (iI k)), (3, .int (iI t)), (0, .ref b), (1, .int (iI r))] [] _
          refine tm_sub [2, 3, 4, 5, 0, 6, 7] rfl (b_fold335 (d + 1) (σ0 := σ53) (r := r) (k := k) (w := w + 1) (gs := gs) (F := F) (ρ := ρ) hr (by omega) (by omega) (fun t65 σ66 F60 R61 f62 f63 f64 => ?_) _ (t) σ53 Fr.rfl f56 (by omega) (hwN.fr f55 (by decide)) (by assumption) rfl)
          show Tm _ _ 355 b σ66 [(6, .int (iI gs)), (5, .int (iI (220 * r + k))), (4, .int (iI k)), (3, .int (iI t65)), (2, .int (iI (w + 1))), (0, .ref b), (1, .int (iI r))] [] _
          exact tm_sub [0, 1, 2, 3, 4, 5, 6] rfl (hx_355 (0) (w + 1) (gs) (t65) σ66 (((Fr.rfl.trans (Fr.sub hF (by decide) (by decide) (by decide))).trans (Fr.sub f55 (by decide) (by decide) (by decide))).trans (Fr.sub F60 (by decide) (by decide) (by decide))) R61 (by omega) (by omega) f63 f64)
      · refine tm_aload_n dX12_fold_276 rfl 6 rfl ?_
        refine tm_get (k := 8) (v := .ref (b + 1 + 6)) lay_12 dX12_fold_277 (by decide) fl12_29 rfl ?_
        refine tm_iconst dX12_fold_280 ?_
        refine tm_iload dX12_fold_281 2 rfl ?_
        refine tm_imul dX12_fold_283 ?_
        refine tm_iald (z := 4 * (220 * r + k)) (v := σ.2.1 8 (4 * (220 * r + k))) dX12_fold_284 (show mT[6]? = some (8, 0, 11440) from rfl) (by omega) (by omega) (by decide) (rfl) ?_
        have g67 := RG.a hR 8 (4 * (220 * r + k))
        refine tm_if_eq (tgt := 292) dX12_fold_285 (by decide) ⟨by omega, by omega⟩ (fun h68 => ?_) (fun h68 => ?_)
        · refine tm_iconst dX12_fold_292 ?_
          refine tm_istore (L' := [(6, .int (iI 0)), (7, .int (iI ce)), (5, .int (iI (220 * r + k))), (4, .int (iI k)), (3, .int (iI t)), (2, .int (iI w)), (0, .ref b), (1, .int (iI r))]) dX12_fold_293 (by decide) rfl ?_
          refine tm_aload_n dX12_fold_295 rfl 6 rfl ?_
          refine tm_get (k := 3) (v := .ref (b + 1 + 1)) lay_12 dX12_fold_296 (by decide) fl12_13 rfl ?_
          refine tm_iload dX12_fold_299 2 rfl ?_
          refine tm_bipush dX12_fold_301 (by decide) ?_
          refine tm_iast (z := 220 * r + k) (v := 8) dX12_fold_303 (show mT[1]? = some (3, 0, 2860) from rfl) (by omega) (by omega) (by decide) ?_
          refine tm_aload_n dX12_fold_304 rfl 6 rfl ?_
          refine tm_iload dX12_fold_305 2 rfl ?_
          refine tm_iconst dX12_fold_307 ?_
          refine tm_iconst dX12_fold_308 ?_
          refine tm_iconst dX12_fold_309 ?_
          refine tm_callV (M := m_X12_fold) (pc := 310) (ix := 298) (M' := m_X12_setArg) (As := [.int (iI (220 * r + k)), .int (iI 0), .int (iI 0), .int (iI 0)]) (rest := []) dX12_fold_310 ok_X12_setArg im_X12_setArg se_X12_setArg ml12_298 np_X12_setArg rfl rfl (Nat.le_of_ble_eq_true rfl) (Nat.le_of_ble_eq_true rfl) rfl (c_X12_setArg (d + 1) (σ := (sA 3 (220 * r + k) (8) σ)) (x := 220 * r + k) (i := 0) (k := 0) (w := 0) (by omega)) (fun r69 σ70 hp => ?_)
          obtain ⟨rfl, f72⟩ := hp
          subst f72
          show Tm _ _ 313 b (fArg (220 * r + k) (0) (0) (0) (sA 3 (220 * r + k) (8) σ)) [(6, .int (iI 0)), (7, .int (iI ce)), (5, .int (iI (220 * r + k))), (4, .int (iI k)), (3, .int (iI t)), (2, .int (iI w)), (0, .ref b), (1, .int (iI r))] [] _
          refine tm_iconst dX12_fold_313 ?_
          refine tm_istore (L' := [(7, .int (iI 1)), (6, .int (iI 0)), (5, .int (iI (220 * r + k))), (4, .int (iI k)), (3, .int (iI t)), (2, .int (iI w)), (0, .ref b), (1, .int (iI r))]) dX12_fold_314 (by decide) rfl ?_
          have hwN := hw.jump (by omega) (by omega)
          have hz9 := hw.z9 (by omega)
          refine tm_iload_n dX12_fold_316 rfl 5 rfl ?_
          refine tm_iload dX12_fold_317 0 rfl ?_
          refine tm_if_eq (tgt := 326) dX12_fold_319 (by decide) ⟨by decide, by decide⟩ (fun h => absurd h (by decide)) (fun _ => ?_)
          refine tm_iconst dX12_fold_322 ?_
          refine tm_goto (tgt := 327) dX12_fold_323 (by decide) ?_
          refine tm_iadd dX12_fold_327 ?_
          refine tm_istore_n (L' := [(2, .int (iI (w + 1))), (7, .int (iI 1)), (6, .int (iI 0)), (5, .int (iI (220 * r + k))), (4, .int (iI k)), (3, .int (iI t)), (0, .ref b), (1, .int (iI r))]) dX12_fold_328 rfl (by decide) rfl ?_
          refine tm_aload_n dX12_fold_329 rfl 6 rfl ?_
          refine tm_iload dX12_fold_330 3 rfl ?_
          refine tm_callV (M := m_X12_fold) (pc := 332) (ix := 469) (M' := m_X12_learn) (As := [.int (iI (220 * r + k))]) (rest := []) dX12_fold_332 ok_X12_learn im_X12_learn se_X12_learn ml12_469 np_X12_learn rfl rfl (Nat.le_of_ble_eq_true rfl) (Nat.le_of_ble_eq_true rfl) rfl (c_X12_learn (d) (σ := (fArg (220 * r + k) (0) (0) (0) (sA 3 (220 * r + k) (8) σ))) (x := 220 * r + k) (F := F) (by omega) ((hR.A (by omega)).arg (by omega) (by omega)) (hkn.fr (Fr.trans (Fr.A (Fr.rfl (ss := []) (ks := [3, 7, 8]) (js := [])) (by decide)) (fArg_fr.sub (by decide) (by decide) (by decide))) (by decide)) hwN.ok) (fun r74 σ75 hp => ?_)
          obtain ⟨rfl, f77, f78, f79⟩ := hp
          show Tm _ _ 335 b σ75 [(2, .int (iI (w + 1))), (7, .int (iI 1)), (6, .int (iI 0)), (5, .int (iI (220 * r + k))), (4, .int (iI k)), (3, .int (iI t)), (0, .ref b), (1, .int (iI r))] [] _
          refine tm_sub [2, 3, 4, 5, 0, 6, 7] rfl (b_fold335 (d + 1) (σ0 := σ75) (r := r) (k := k) (w := w + 1) (gs := 0) (F := F) (ρ := ρ) hr (by omega) (by omega) (fun t87 σ88 F82 R83 f84 f85 f86 => ?_) _ (t) σ75 Fr.rfl f78 (by omega) (hwN.fr f77 (by decide)) (by assumption) rfl)
          show Tm _ _ 355 b σ88 [(6, .int (iI 0)), (5, .int (iI (220 * r + k))), (4, .int (iI k)), (3, .int (iI t87)), (2, .int (iI (w + 1))), (0, .ref b), (1, .int (iI r))] [] _
          exact tm_sub [0, 1, 2, 3, 4, 5, 6] rfl (hx_355 (0) (w + 1) (0) (t87) σ88 (((((Fr.rfl.trans (Fr.sub hF (by decide) (by decide) (by decide))).A (by decide)).trans (Fr.sub fArg_fr (by decide) (by decide) (by decide))).trans (Fr.sub f77 (by decide) (by decide) (by decide))).trans (Fr.sub F82 (by decide) (by decide) (by decide))) R83 (by omega) (by omega) f85 f86)
        · refine tm_iconst dX12_fold_288 ?_
          refine tm_goto (tgt := 293) dX12_fold_289 (by decide) ?_
          refine tm_istore (L' := [(6, .int (iI 1)), (7, .int (iI ce)), (5, .int (iI (220 * r + k))), (4, .int (iI k)), (3, .int (iI t)), (2, .int (iI w)), (0, .ref b), (1, .int (iI r))]) dX12_fold_293 (by decide) rfl ?_
          refine tm_aload_n dX12_fold_295 rfl 6 rfl ?_
          refine tm_get (k := 3) (v := .ref (b + 1 + 1)) lay_12 dX12_fold_296 (by decide) fl12_13 rfl ?_
          refine tm_iload dX12_fold_299 2 rfl ?_
          refine tm_bipush dX12_fold_301 (by decide) ?_
          refine tm_iast (z := 220 * r + k) (v := 8) dX12_fold_303 (show mT[1]? = some (3, 0, 2860) from rfl) (by omega) (by omega) (by decide) ?_
          refine tm_aload_n dX12_fold_304 rfl 6 rfl ?_
          refine tm_iload dX12_fold_305 2 rfl ?_
          refine tm_iconst dX12_fold_307 ?_
          refine tm_iconst dX12_fold_308 ?_
          refine tm_iconst dX12_fold_309 ?_
          refine tm_callV (M := m_X12_fold) (pc := 310) (ix := 298) (M' := m_X12_setArg) (As := [.int (iI (220 * r + k)), .int (iI 0), .int (iI 0), .int (iI 0)]) (rest := []) dX12_fold_310 ok_X12_setArg im_X12_setArg se_X12_setArg ml12_298 np_X12_setArg rfl rfl (Nat.le_of_ble_eq_true rfl) (Nat.le_of_ble_eq_true rfl) rfl (c_X12_setArg (d + 1) (σ := (sA 3 (220 * r + k) (8) σ)) (x := 220 * r + k) (i := 0) (k := 0) (w := 0) (by omega)) (fun r89 σ90 hp => ?_)
          obtain ⟨rfl, f92⟩ := hp
          subst f92
          show Tm _ _ 313 b (fArg (220 * r + k) (0) (0) (0) (sA 3 (220 * r + k) (8) σ)) [(6, .int (iI 1)), (7, .int (iI ce)), (5, .int (iI (220 * r + k))), (4, .int (iI k)), (3, .int (iI t)), (2, .int (iI w)), (0, .ref b), (1, .int (iI r))] [] _
          refine tm_iconst dX12_fold_313 ?_
          refine tm_istore (L' := [(7, .int (iI 1)), (6, .int (iI 1)), (5, .int (iI (220 * r + k))), (4, .int (iI k)), (3, .int (iI t)), (2, .int (iI w)), (0, .ref b), (1, .int (iI r))]) dX12_fold_314 (by decide) rfl ?_
          have hwN := hw.jump (by omega) (by omega)
          have hz9 := hw.z9 (by omega)
          refine tm_iload_n dX12_fold_316 rfl 5 rfl ?_
          refine tm_iload dX12_fold_317 0 rfl ?_
          refine tm_if_eq (tgt := 326) dX12_fold_319 (by decide) ⟨by decide, by decide⟩ (fun h => absurd h (by decide)) (fun _ => ?_)
          refine tm_iconst dX12_fold_322 ?_
          refine tm_goto (tgt := 327) dX12_fold_323 (by decide) ?_
          refine tm_iadd dX12_fold_327 ?_
          refine tm_istore_n (L' := [(2, .int (iI (w + 1))), (7, .int (iI 1)), (6, .int (iI 1)), (5, .int (iI (220 * r + k))), (4, .int (iI k)), (3, .int (iI t)), (0, .ref b), (1, .int (iI r))]) dX12_fold_328 rfl (by decide) rfl ?_
          refine tm_aload_n dX12_fold_329 rfl 6 rfl ?_
          refine tm_iload dX12_fold_330 3 rfl ?_
          refine tm_callV (M := m_X12_fold) (pc := 332) (ix := 469) (M' := m_X12_learn) (As := [.int (iI (220 * r + k))]) (rest := []) dX12_fold_332 ok_X12_learn im_X12_learn se_X12_learn ml12_469 np_X12_learn rfl rfl (Nat.le_of_ble_eq_true rfl) (Nat.le_of_ble_eq_true rfl) rfl (c_X12_learn (d) (σ := (fArg (220 * r + k) (0) (0) (0) (sA 3 (220 * r + k) (8) σ))) (x := 220 * r + k) (F := F) (by omega) ((hR.A (by omega)).arg (by omega) (by omega)) (hkn.fr (Fr.trans (Fr.A (Fr.rfl (ss := []) (ks := [3, 7, 8]) (js := [])) (by decide)) (fArg_fr.sub (by decide) (by decide) (by decide))) (by decide)) hwN.ok) (fun r94 σ95 hp => ?_)
          obtain ⟨rfl, f97, f98, f99⟩ := hp
          show Tm _ _ 335 b σ95 [(2, .int (iI (w + 1))), (7, .int (iI 1)), (6, .int (iI 1)), (5, .int (iI (220 * r + k))), (4, .int (iI k)), (3, .int (iI t)), (0, .ref b), (1, .int (iI r))] [] _
          refine tm_sub [2, 3, 4, 5, 0, 6, 7] rfl (b_fold335 (d + 1) (σ0 := σ95) (r := r) (k := k) (w := w + 1) (gs := 1) (F := F) (ρ := ρ) hr (by omega) (by omega) (fun t107 σ108 F102 R103 f104 f105 f106 => ?_) _ (t) σ95 Fr.rfl f98 (by omega) (hwN.fr f97 (by decide)) (by assumption) rfl)
          show Tm _ _ 355 b σ108 [(6, .int (iI 1)), (5, .int (iI (220 * r + k))), (4, .int (iI k)), (3, .int (iI t107)), (2, .int (iI (w + 1))), (0, .ref b), (1, .int (iI r))] [] _
          exact tm_sub [0, 1, 2, 3, 4, 5, 6] rfl (hx_355 (0) (w + 1) (1) (t107) σ108 (((((Fr.rfl.trans (Fr.sub hF (by decide) (by decide) (by decide))).A (by decide)).trans (Fr.sub fArg_fr (by decide) (by decide) (by decide))).trans (Fr.sub f97 (by decide) (by decide) (by decide))).trans (Fr.sub F102 (by decide) (by decide) (by decide))) R103 (by omega) (by omega) f105 f106)
theorem ml12_463 : Cond.methodLink RX12 463 yX12_putsIn ∈ pWW := pw9 (List.mem_of_getElem? (i := 110) rfl) rfl
theorem dX12_fold_127 : decode cX12_fold 127 = .ok (.aload_n 0, 1) := by decide +kernel
theorem dX12_fold_128 : decode cX12_fold 128 = .ok (.getfield 13, 3) := by decide +kernel
theorem dX12_fold_131 : decode cX12_fold 131 = .ok (.iload 5, 2) := by decide +kernel
theorem dX12_fold_133 : decode cX12_fold 133 = .ok (.iaload, 1) := by decide +kernel
theorem dX12_fold_134 : decode cX12_fold 134 = .ok (.invokestatic 401, 3) := by decide +kernel
theorem dX12_fold_137 : decode cX12_fold 137 = .ok (.ifCond .eq 198, 3) := by decide +kernel
theorem dX12_fold_140 : decode cX12_fold 140 = .ok (.aload_n 0, 1) := by decide +kernel
theorem dX12_fold_141 : decode cX12_fold 141 = .ok (.iload 5, 2) := by decide +kernel
theorem dX12_fold_143 : decode cX12_fold 143 = .ok (.invokevirtual 463, 3) := by decide +kernel
theorem dX12_fold_146 : decode cX12_fold 146 = .ok (.istore 7, 2) := by decide +kernel
theorem dX12_fold_148 : decode cX12_fold 148 = .ok (.aload_n 0, 1) := by decide +kernel
theorem dX12_fold_149 : decode cX12_fold 149 = .ok (.getfield 13, 3) := by decide +kernel
theorem dX12_fold_152 : decode cX12_fold 152 = .ok (.iload 5, 2) := by decide +kernel
theorem dX12_fold_154 : decode cX12_fold 154 = .ok (.iaload, 1) := by decide +kernel
theorem dX12_fold_155 : decode cX12_fold 155 = .ok (.invokestatic 196, 3) := by decide +kernel
theorem dX12_fold_158 : decode cX12_fold 158 = .ok (.ifCond .eq 93, 3) := by decide +kernel
theorem dX12_fold_161 : decode cX12_fold 161 = .ok (.aload_n 0, 1) := by decide +kernel
theorem dX12_fold_162 : decode cX12_fold 162 = .ok (.getfield 26, 3) := by decide +kernel
theorem dX12_fold_165 : decode cX12_fold 165 = .ok (.iconst 4, 1) := by decide +kernel
theorem dX12_fold_166 : decode cX12_fold 166 = .ok (.iload 5, 2) := by decide +kernel
theorem dX12_fold_168 : decode cX12_fold 168 = .ok (.imul, 1) := by decide +kernel
theorem dX12_fold_169 : decode cX12_fold 169 = .ok (.iaload, 1) := by decide +kernel
theorem dX12_fold_170 : decode cX12_fold 170 = .ok (.iconst 1, 1) := by decide +kernel
theorem dX12_fold_171 : decode cX12_fold 171 = .ok (.if_icmp .ne 80, 3) := by decide +kernel
theorem dX12_fold_174 : decode cX12_fold 174 = .ok (.aload_n 0, 1) := by decide +kernel
theorem dX12_fold_175 : decode cX12_fold 175 = .ok (.getfield 26, 3) := by decide +kernel
theorem dX12_fold_178 : decode cX12_fold 178 = .ok (.iconst 4, 1) := by decide +kernel
theorem dX12_fold_179 : decode cX12_fold 179 = .ok (.iload 5, 2) := by decide +kernel
theorem dX12_fold_181 : decode cX12_fold 181 = .ok (.imul, 1) := by decide +kernel
theorem dX12_fold_182 : decode cX12_fold 182 = .ok (.iconst 1, 1) := by decide +kernel
theorem dX12_fold_183 : decode cX12_fold 183 = .ok (.iadd, 1) := by decide +kernel
theorem dX12_fold_184 : decode cX12_fold 184 = .ok (.iaload, 1) := by decide +kernel
theorem dX12_fold_185 : decode cX12_fold 185 = .ok (.iconst 1, 1) := by decide +kernel
theorem dX12_fold_186 : decode cX12_fold 186 = .ok (.if_icmp .ne 65, 3) := by decide +kernel
theorem dX12_fold_189 : decode cX12_fold 189 = .ok (.aload_n 0, 1) := by decide +kernel
theorem dX12_fold_190 : decode cX12_fold 190 = .ok (.getfield 13, 3) := by decide +kernel
theorem dX12_fold_193 : decode cX12_fold 193 = .ok (.iload 5, 2) := by decide +kernel
theorem dX12_fold_195 : decode cX12_fold 195 = .ok (.iaload, 1) := by decide +kernel
theorem dX12_fold_196 : decode cX12_fold 196 = .ok (.aload_n 0, 1) := by decide +kernel
theorem dX12_fold_197 : decode cX12_fold 197 = .ok (.getfield 29, 3) := by decide +kernel
theorem dX12_fold_200 : decode cX12_fold 200 = .ok (.iconst 4, 1) := by decide +kernel
theorem dX12_fold_201 : decode cX12_fold 201 = .ok (.iload 5, 2) := by decide +kernel
theorem dX12_fold_203 : decode cX12_fold 203 = .ok (.imul, 1) := by decide +kernel
theorem dX12_fold_204 : decode cX12_fold 204 = .ok (.iaload, 1) := by decide +kernel
theorem dX12_fold_205 : decode cX12_fold 205 = .ok (.aload_n 0, 1) := by decide +kernel
theorem dX12_fold_206 : decode cX12_fold 206 = .ok (.getfield 29, 3) := by decide +kernel
theorem dX12_fold_209 : decode cX12_fold 209 = .ok (.iconst 4, 1) := by decide +kernel
theorem dX12_fold_210 : decode cX12_fold 210 = .ok (.iload 5, 2) := by decide +kernel
theorem dX12_fold_212 : decode cX12_fold 212 = .ok (.imul, 1) := by decide +kernel
theorem dX12_fold_213 : decode cX12_fold 213 = .ok (.iconst 1, 1) := by decide +kernel
theorem dX12_fold_214 : decode cX12_fold 214 = .ok (.iadd, 1) := by decide +kernel
theorem dX12_fold_215 : decode cX12_fold 215 = .ok (.iaload, 1) := by decide +kernel
theorem dX12_fold_216 : decode cX12_fold 216 = .ok (.invokestatic 466, 3) := by decide +kernel
theorem dX12_fold_219 : decode cX12_fold 219 = .ok (.istore 8, 2) := by decide +kernel
theorem dX12_fold_221 : decode cX12_fold 221 = .ok (.aload_n 0, 1) := by decide +kernel
theorem dX12_fold_222 : decode cX12_fold 222 = .ok (.getfield 13, 3) := by decide +kernel
theorem dX12_fold_225 : decode cX12_fold 225 = .ok (.iload 5, 2) := by decide +kernel
theorem dX12_fold_227 : decode cX12_fold 227 = .ok (.iconst 0, 1) := by decide +kernel
theorem dX12_fold_228 : decode cX12_fold 228 = .ok (.iastore, 1) := by decide +kernel
theorem dX12_fold_229 : decode cX12_fold 229 = .ok (.aload_n 0, 1) := by decide +kernel
theorem dX12_fold_230 : decode cX12_fold 230 = .ok (.iload 5, 2) := by decide +kernel
theorem dX12_fold_232 : decode cX12_fold 232 = .ok (.iconst 0, 1) := by decide +kernel
theorem dX12_fold_233 : decode cX12_fold 233 = .ok (.iconst 1, 1) := by decide +kernel
theorem dX12_fold_234 : decode cX12_fold 234 = .ok (.iload 8, 2) := by decide +kernel
theorem dX12_fold_236 : decode cX12_fold 236 = .ok (.invokevirtual 298, 3) := by decide +kernel
theorem dX12_fold_239 : decode cX12_fold 239 = .ok (.aload_n 0, 1) := by decide +kernel
theorem dX12_fold_240 : decode cX12_fold 240 = .ok (.iload 5, 2) := by decide +kernel
theorem dX12_fold_242 : decode cX12_fold 242 = .ok (.iconst 1, 1) := by decide +kernel
theorem dX12_fold_243 : decode cX12_fold 243 = .ok (.iconst 0, 1) := by decide +kernel
theorem dX12_fold_244 : decode cX12_fold 244 = .ok (.iconst 0, 1) := by decide +kernel
theorem dX12_fold_245 : decode cX12_fold 245 = .ok (.invokevirtual 298, 3) := by decide +kernel
theorem dX12_fold_248 : decode cX12_fold 248 = .ok (.iconst 1, 1) := by decide +kernel
theorem dX12_fold_249 : decode cX12_fold 249 = .ok (.istore 7, 2) := by decide +kernel
set_option maxHeartbeats 1000000 in
set_option maxRecDepth 20000 in
theorem b_fold127 (d : Nat) {b : Nat} {σ0 : MS} {r : Int} {F : Int} {k : Int} {ρ : MS} {post : Option Value → MS → Prop} (hr : 0 ≤ r ∧ r < 6) (hR0 : RG σ0) (hpar : PAR σ0) (hk : 0 ≤ k ∧ k < 220) (hx_355 : ∀ (w : Int) (gs : Int) (t : Int) (σ : MS) , (Fr [] [3, 4, 5, 6, 7, 8, 60, 61] [] σ0 σ) → (RG σ) → (0 ≤ w ∧ w ≤ k + 1) → (0 ≤ t ∧ t ≤ k + 1) → (FLP ρ σ r F (k + 1) t) → (KNW σ) → Tm (d + 5) m_X12_fold 355 b σ [(6, .int (iI gs)), (5, .int (iI (220 * r + k))), (4, .int (iI k)), (3, .int (iI t)), (2, .int (iI w)), (0, .ref b), (1, .int (iI r))] [] post) : ∀ (n : Nat) (w : Int) (gs : Int) (t : Int) (σ : MS) , (Fr [] [3, 4, 5, 6, 7, 8, 60, 61] [] σ0 σ) → (RG σ) → (0 ≤ t ∧ t ≤ k ∧ gs = 0 ∧ 0 ≤ w ∧ w ≤ k) → (FWK ρ σ r F k t) → (KNW σ) → ((0 : Int)).toNat = n → Tm (d + 5) m_X12_fold 127 b σ [(6, .int (iI gs)), (5, .int (iI (220 * r + k))), (4, .int (iI k)), (3, .int (iI t)), (2, .int (iI w)), (0, .ref b), (1, .int (iI r))] [] post := by
  intro n
  induction n using Nat.strongRecOn with
  | _ n ih =>
    intro w gs t σ hF hR h0 hw hkn hm
    have hok := hw.ok
    have hok1 := hok.1
    refine tm_aload_n dX12_fold_127 rfl 5 rfl ?_
    refine tm_get (k := 3) (v := .ref (b + 1 + 1)) lay_12 dX12_fold_128 (by decide) fl12_13 rfl ?_
    refine tm_iload dX12_fold_131 1 rfl ?_
    refine tm_iald (z := 220 * r + k) (v := σ.2.1 3 (220 * r + k)) dX12_fold_133 (show mT[1]? = some (3, 0, 2860) from rfl) (by omega) (by omega) (by decide) (rfl) ?_
    have g1 := RG.a hR 3 (220 * r + k)
    refine tm_callS (M := m_X12_fold) (pc := 134) (ix := 401) (M' := m_X12_isAct) (As := [.int (iI (σ.2.1 3 (220 * r + k)))]) (rest := []) dX12_fold_134 ok_X12_isAct stt_X12_isAct ml12_401 np_X12_isAct rfl (Nat.le_of_ble_eq_true rfl) (Nat.le_of_ble_eq_true rfl) rfl (c_X12_isAct (d + 3) (σ := σ) (x := σ.2.1 3 (220 * r + k)) (by omega)) (fun r2 σ3 hp => ?_)
    obtain ⟨v4, rfl, rfl, f5, f6⟩ := hp
    show Tm _ _ 137 b σ [(6, .int (iI gs)), (5, .int (iI (220 * r + k))), (4, .int (iI k)), (3, .int (iI t)), (2, .int (iI w)), (0, .ref b), (1, .int (iI r))] [.int (iI v4)] _
    refine tm_if_eq (tgt := 335) dX12_fold_137 (by decide) ⟨by omega, by omega⟩ (fun h7 => ?_) (fun h7 => ?_)
    · refine tm_sub [0, 1, 2, 3, 4, 5, 6] rfl (b_fold335 (d + 3) (σ0 := σ) (r := r) (k := k) (w := w) (gs := gs) (F := F) (ρ := ρ) hr (by omega) (by omega) (fun t15 σ16 F10 R11 f12 f13 f14 => ?_) _ (t) σ Fr.rfl hR (by omega) hw hkn rfl)
      show Tm _ _ 355 b σ16 [(6, .int (iI gs)), (5, .int (iI (220 * r + k))), (4, .int (iI k)), (3, .int (iI t15)), (2, .int (iI w)), (0, .ref b), (1, .int (iI r))] [] _
      exact tm_sub [0, 1, 2, 3, 4, 5, 6] rfl (hx_355 (w) (gs) (t15) σ16 ((Fr.rfl.trans (Fr.sub hF (by decide) (by decide) (by decide))).trans (Fr.sub F10 (by decide) (by decide) (by decide))) R11 (by omega) (by omega) f13 f14)
    · refine tm_aload_n dX12_fold_140 rfl 5 rfl ?_
      refine tm_iload dX12_fold_141 1 rfl ?_
      refine tm_callV (M := m_X12_fold) (pc := 143) (ix := 463) (M' := m_X12_putsIn) (As := [.int (iI (220 * r + k))]) (rest := []) dX12_fold_143 ok_X12_putsIn im_X12_putsIn se_X12_putsIn ml12_463 np_X12_putsIn rfl rfl (Nat.le_of_ble_eq_true rfl) (Nat.le_of_ble_eq_true rfl) rfl (c_X12_putsIn (d) (σ := σ) (x := 220 * r + k) (F := F) (by omega) hR (hpar.fr hF (by decide)) hkn (by omega) hok) (fun r17 σ18 hp => ?_)
      obtain ⟨v19, rfl, f20, f21, f22, f23, f24⟩ := hp
      show Tm _ _ 146 b σ18 [(6, .int (iI gs)), (5, .int (iI (220 * r + k))), (4, .int (iI k)), (3, .int (iI t)), (2, .int (iI w)), (0, .ref b), (1, .int (iI r))] [.int (iI v19)] _
      have hw1 := hw.puts (by omega) f24 f21 f23
      have hkn1 := hkn.fr f21 (by decide)
      have e3p : σ18.2.1 3 = σ.2.1 3 := f21.2.1 3 (by decide)
      have hq8 := hw1.ok.2.2.2.2.2.2.2.1 0 (by decide) (by decide)
      have hq1 := hw1.ok.2.2.2.2.2.2.2.1 1 (by decide) (by decide)
      rw [Int.add_zero] at hq8
      refine tm_istore (L' := [(7, .int (iI v19)), (6, .int (iI gs)), (5, .int (iI (220 * r + k))), (4, .int (iI k)), (3, .int (iI t)), (2, .int (iI w)), (0, .ref b), (1, .int (iI r))]) dX12_fold_146 (by decide) rfl ?_
      refine tm_aload_n dX12_fold_148 rfl 6 rfl ?_
      refine tm_get (k := 3) (v := .ref (b + 1 + 1)) lay_12 dX12_fold_149 (by decide) fl12_13 rfl ?_
      refine tm_iload dX12_fold_152 2 rfl ?_
      refine tm_iald (z := 220 * r + k) (v := σ.2.1 3 (220 * r + k)) dX12_fold_154 (show mT[1]? = some (3, 0, 2860) from rfl) (by omega) (by omega) (by decide) (ra_F f21 (by decide) (rfl)) ?_
      have g25 := RG.a hR 3 (220 * r + k)
      refine tm_callS (M := m_X12_fold) (pc := 155) (ix := 196) (M' := m_X12_isFive) (As := [.int (iI (σ.2.1 3 (220 * r + k)))]) (rest := []) dX12_fold_155 ok_X12_isFive stt_X12_isFive ml12_196 np_X12_isFive rfl (Nat.le_of_ble_eq_true rfl) (Nat.le_of_ble_eq_true rfl) rfl (c_X12_isFive (d + 2) (σ := σ18) (x := σ.2.1 3 (220 * r + k)) (by omega)) (fun r26 σ27 hp => ?_)
      obtain ⟨v28, rfl, rfl, f29, f30⟩ := hp
      show Tm _ _ 158 b σ18 [(7, .int (iI v19)), (6, .int (iI gs)), (5, .int (iI (220 * r + k))), (4, .int (iI k)), (3, .int (iI t)), (2, .int (iI w)), (0, .ref b), (1, .int (iI r))] [.int (iI v28)] _
      refine tm_if_eq (tgt := 251) dX12_fold_158 (by decide) ⟨by omega, by omega⟩ (fun h31 => ?_) (fun h31 => ?_)
      · refine tm_sub [0, 1, 2, 3, 4, 5, 6, 7] rfl (b_fold251 (d + 2) (σ0 := σ18) (r := r) (k := k) (F := F) (ρ := ρ) hr f22 (by omega) (fun ce43 w44 gs45 t46 σ47 F37 R38 f39 f40 f41 f42 => ?_) _ (v19) (w) (gs) (t) σ18 Fr.rfl f22 (by omega) hw1 hkn1 rfl)
        show Tm _ _ 355 b σ47 [(6, .int (iI gs45)), (5, .int (iI (220 * r + k))), (4, .int (iI k)), (3, .int (iI t46)), (2, .int (iI w44)), (0, .ref b), (1, .int (iI r))] [] _
        exact tm_sub [0, 1, 2, 3, 4, 5, 6] rfl (hx_355 (w44) (gs45) (t46) σ47 (((Fr.rfl.trans (Fr.sub hF (by decide) (by decide) (by decide))).trans (Fr.sub f21 (by decide) (by decide) (by decide))).trans (Fr.sub F37 (by decide) (by decide) (by decide))) R38 (by omega) (by omega) f41 f42)
      · refine tm_aload_n dX12_fold_161 rfl 6 rfl ?_
        refine tm_get (k := 7) (v := .ref (b + 1 + 5)) lay_12 dX12_fold_162 (by decide) fl12_26 rfl ?_
        refine tm_iconst dX12_fold_165 ?_
        refine tm_iload dX12_fold_166 2 rfl ?_
        refine tm_imul dX12_fold_168 ?_
        refine tm_iald (z := 4 * (220 * r + k)) (v := σ18.2.1 7 (4 * (220 * r + k))) dX12_fold_169 (show mT[5]? = some (7, 0, 11440) from rfl) (by omega) (by omega) (by decide) (rfl) ?_
        have g48 := RG.a f22 7 (4 * (220 * r + k))
        refine tm_iconst dX12_fold_170 ?_
        refine tm_icmp_ne (tgt := 251) dX12_fold_171 (by decide) ⟨by omega, by omega⟩ ⟨by decide, by decide⟩ (fun h49 => ?_) (fun h49 => ?_)
        · refine tm_sub [0, 1, 2, 3, 4, 5, 6, 7] rfl (b_fold251 (d + 2) (σ0 := σ18) (r := r) (k := k) (F := F) (ρ := ρ) hr f22 (by omega) (fun ce61 w62 gs63 t64 σ65 F55 R56 f57 f58 f59 f60 => ?_) _ (v19) (w) (gs) (t) σ18 Fr.rfl f22 (by omega) hw1 hkn1 rfl)
          show Tm _ _ 355 b σ65 [(6, .int (iI gs63)), (5, .int (iI (220 * r + k))), (4, .int (iI k)), (3, .int (iI t64)), (2, .int (iI w62)), (0, .ref b), (1, .int (iI r))] [] _
          exact tm_sub [0, 1, 2, 3, 4, 5, 6] rfl (hx_355 (w62) (gs63) (t64) σ65 (((Fr.rfl.trans (Fr.sub hF (by decide) (by decide) (by decide))).trans (Fr.sub f21 (by decide) (by decide) (by decide))).trans (Fr.sub F55 (by decide) (by decide) (by decide))) R56 (by omega) (by omega) f59 f60)
        · refine tm_aload_n dX12_fold_174 rfl 6 rfl ?_
          refine tm_get (k := 7) (v := .ref (b + 1 + 5)) lay_12 dX12_fold_175 (by decide) fl12_26 rfl ?_
          refine tm_iconst dX12_fold_178 ?_
          refine tm_iload dX12_fold_179 2 rfl ?_
          refine tm_imul dX12_fold_181 ?_
          refine tm_iconst dX12_fold_182 ?_
          refine tm_iadd dX12_fold_183 ?_
          refine tm_iald (z := (4 * (220 * r + k)) + 1) (v := σ18.2.1 7 ((4 * (220 * r + k)) + 1)) dX12_fold_184 (show mT[5]? = some (7, 0, 11440) from rfl) (by omega) (by omega) (by decide) (rfl) ?_
          have g66 := RG.a f22 7 ((4 * (220 * r + k)) + 1)
          refine tm_iconst dX12_fold_185 ?_
          refine tm_icmp_ne (tgt := 251) dX12_fold_186 (by decide) ⟨by omega, by omega⟩ ⟨by decide, by decide⟩ (fun h67 => ?_) (fun h67 => ?_)
          · refine tm_sub [0, 1, 2, 3, 4, 5, 6, 7] rfl (b_fold251 (d + 2) (σ0 := σ18) (r := r) (k := k) (F := F) (ρ := ρ) hr f22 (by omega) (fun ce79 w80 gs81 t82 σ83 F73 R74 f75 f76 f77 f78 => ?_) _ (v19) (w) (gs) (t) σ18 Fr.rfl f22 (by omega) hw1 hkn1 rfl)
            show Tm _ _ 355 b σ83 [(6, .int (iI gs81)), (5, .int (iI (220 * r + k))), (4, .int (iI k)), (3, .int (iI t82)), (2, .int (iI w80)), (0, .ref b), (1, .int (iI r))] [] _
            exact tm_sub [0, 1, 2, 3, 4, 5, 6] rfl (hx_355 (w80) (gs81) (t82) σ83 (((Fr.rfl.trans (Fr.sub hF (by decide) (by decide) (by decide))).trans (Fr.sub f21 (by decide) (by decide) (by decide))).trans (Fr.sub F73 (by decide) (by decide) (by decide))) R74 (by omega) (by omega) f77 f78)
          · refine tm_aload_n dX12_fold_189 rfl 6 rfl ?_
            refine tm_get (k := 3) (v := .ref (b + 1 + 1)) lay_12 dX12_fold_190 (by decide) fl12_13 rfl ?_
            refine tm_iload dX12_fold_193 2 rfl ?_
            refine tm_iald (z := 220 * r + k) (v := σ.2.1 3 (220 * r + k)) dX12_fold_195 (show mT[1]? = some (3, 0, 2860) from rfl) (by omega) (by omega) (by decide) (ra_F f21 (by decide) (rfl)) ?_
            have g84 := RG.a hR 3 (220 * r + k)
            refine tm_aload_n dX12_fold_196 rfl 6 rfl ?_
            refine tm_get (k := 8) (v := .ref (b + 1 + 6)) lay_12 dX12_fold_197 (by decide) fl12_29 rfl ?_
            refine tm_iconst dX12_fold_200 ?_
            refine tm_iload dX12_fold_201 2 rfl ?_
            refine tm_imul dX12_fold_203 ?_
            refine tm_iald (z := 4 * (220 * r + k)) (v := σ18.2.1 8 (4 * (220 * r + k))) dX12_fold_204 (show mT[6]? = some (8, 0, 11440) from rfl) (by omega) (by omega) (by decide) (rfl) ?_
            have g85 := RG.a f22 8 (4 * (220 * r + k))
            refine tm_aload_n dX12_fold_205 rfl 6 rfl ?_
            refine tm_get (k := 8) (v := .ref (b + 1 + 6)) lay_12 dX12_fold_206 (by decide) fl12_29 rfl ?_
            refine tm_iconst dX12_fold_209 ?_
            refine tm_iload dX12_fold_210 2 rfl ?_
            refine tm_imul dX12_fold_212 ?_
            refine tm_iconst dX12_fold_213 ?_
            refine tm_iadd dX12_fold_214 ?_
            refine tm_iald (z := (4 * (220 * r + k)) + 1) (v := σ18.2.1 8 ((4 * (220 * r + k)) + 1)) dX12_fold_215 (show mT[6]? = some (8, 0, 11440) from rfl) (by omega) (by omega) (by decide) (rfl) ?_
            have g86 := RG.a f22 8 ((4 * (220 * r + k)) + 1)
            refine tm_callS (M := m_X12_fold) (pc := 216) (ix := 466) (M' := m_X12_worked) (As := [.int (iI (σ.2.1 3 (220 * r + k))), .int (iI (σ18.2.1 8 (4 * (220 * r + k)))), .int (iI (σ18.2.1 8 ((4 * (220 * r + k)) + 1)))]) (rest := []) dX12_fold_216 ok_X12_worked stt_X12_worked ml12_466 np_X12_worked rfl (Nat.le_of_ble_eq_true rfl) (Nat.le_of_ble_eq_true rfl) rfl (c_X12_worked (d + 3) (σ := σ18) (k := σ.2.1 3 (220 * r + k)) (x := σ18.2.1 8 (4 * (220 * r + k))) (y := σ18.2.1 8 ((4 * (220 * r + k)) + 1)) (by omega) (by omega) (by omega)) (fun r87 σ88 hp => ?_)
            obtain ⟨v89, rfl, rfl, f90⟩ := hp
            show Tm _ _ 219 b σ18 [(7, .int (iI v19)), (6, .int (iI gs)), (5, .int (iI (220 * r + k))), (4, .int (iI k)), (3, .int (iI t)), (2, .int (iI w)), (0, .ref b), (1, .int (iI r))] [.int (iI v89)] _
            refine tm_istore (L' := [(8, .int (iI v89)), (7, .int (iI v19)), (6, .int (iI gs)), (5, .int (iI (220 * r + k))), (4, .int (iI k)), (3, .int (iI t)), (2, .int (iI w)), (0, .ref b), (1, .int (iI r))]) dX12_fold_219 (by decide) rfl ?_
            refine tm_aload_n dX12_fold_221 rfl 7 rfl ?_
            refine tm_get (k := 3) (v := .ref (b + 1 + 1)) lay_12 dX12_fold_222 (by decide) fl12_13 rfl ?_
            refine tm_iload dX12_fold_225 3 rfl ?_
            refine tm_iconst dX12_fold_227 ?_
            refine tm_iast (z := 220 * r + k) (v := 0) dX12_fold_228 (show mT[1]? = some (3, 0, 2860) from rfl) (by omega) (by omega) (by decide) ?_
            refine tm_aload_n dX12_fold_229 rfl 7 rfl ?_
            refine tm_iload dX12_fold_230 3 rfl ?_
            refine tm_iconst dX12_fold_232 ?_
            refine tm_iconst dX12_fold_233 ?_
            refine tm_iload dX12_fold_234 0 rfl ?_
            refine tm_callV (M := m_X12_fold) (pc := 236) (ix := 298) (M' := m_X12_setArg) (As := [.int (iI (220 * r + k)), .int (iI 0), .int (iI 1), .int (iI v89)]) (rest := []) dX12_fold_236 ok_X12_setArg im_X12_setArg se_X12_setArg ml12_298 np_X12_setArg rfl rfl (Nat.le_of_ble_eq_true rfl) (Nat.le_of_ble_eq_true rfl) rfl (c_X12_setArg (d + 3) (σ := (sA 3 (220 * r + k) (0) σ18)) (x := 220 * r + k) (i := 0) (k := 1) (w := v89) (by omega)) (fun r91 σ92 hp => ?_)
            obtain ⟨rfl, f94⟩ := hp
            subst f94
            show Tm _ _ 239 b (fArg (220 * r + k) (0) (1) (v89) (sA 3 (220 * r + k) (0) σ18)) [(8, .int (iI v89)), (7, .int (iI v19)), (6, .int (iI gs)), (5, .int (iI (220 * r + k))), (4, .int (iI k)), (3, .int (iI t)), (2, .int (iI w)), (0, .ref b), (1, .int (iI r))] [] _
            refine tm_aload_n dX12_fold_239 rfl 7 rfl ?_
            refine tm_iload dX12_fold_240 3 rfl ?_
            refine tm_iconst dX12_fold_242 ?_
            refine tm_iconst dX12_fold_243 ?_
            refine tm_iconst dX12_fold_244 ?_
            refine tm_callV (M := m_X12_fold) (pc := 245) (ix := 298) (M' := m_X12_setArg) (As := [.int (iI (220 * r + k)), .int (iI 1), .int (iI 0), .int (iI 0)]) (rest := []) dX12_fold_245 ok_X12_setArg im_X12_setArg se_X12_setArg ml12_298 np_X12_setArg rfl rfl (Nat.le_of_ble_eq_true rfl) (Nat.le_of_ble_eq_true rfl) rfl (c_X12_setArg (d + 3) (σ := (fArg (220 * r + k) (0) (1) (v89) (sA 3 (220 * r + k) (0) σ18))) (x := 220 * r + k) (i := 1) (k := 0) (w := 0) (by omega)) (fun r95 σ96 hp => ?_)
            obtain ⟨rfl, f98⟩ := hp
            subst f98
            show Tm _ _ 248 b (fArg (220 * r + k) (1) (0) (0) (fArg (220 * r + k) (0) (1) (v89) (sA 3 (220 * r + k) (0) σ18))) [(8, .int (iI v89)), (7, .int (iI v19)), (6, .int (iI gs)), (5, .int (iI (220 * r + k))), (4, .int (iI k)), (3, .int (iI t)), (2, .int (iI w)), (0, .ref b), (1, .int (iI r))] [] _
            refine tm_iconst dX12_fold_248 ?_
            refine tm_istore (L' := [(7, .int (iI 1)), (8, .int (iI v89)), (6, .int (iI gs)), (5, .int (iI (220 * r + k))), (4, .int (iI k)), (3, .int (iI t)), (2, .int (iI w)), (0, .ref b), (1, .int (iI r))]) dX12_fold_249 (by decide) rfl ?_
            refine tm_sub [0, 2, 3, 4, 5, 6, 7, 8] rfl (b_fold251 (d + 2) (σ0 := (fArg (220 * r + k) (1) (0) (0) (fArg (220 * r + k) (0) (1) (v89) (sA 3 (220 * r + k) (0) σ18)))) (r := r) (k := k) (F := F) (ρ := ρ) hr (((f22.A (by omega)).arg (by omega) (by omega)).arg (by omega) (by omega)) (by omega) (fun ce110 w111 gs112 t113 σ114 F104 R105 f106 f107 f108 f109 => ?_) _ (1) (w) (gs) (t) (fArg (220 * r + k) (1) (0) (0) (fArg (220 * r + k) (0) (1) (v89) (sA 3 (220 * r + k) (0) σ18))) Fr.rfl (((f22.A (by omega)).arg (by omega) (by omega)).arg (by omega) (by omega)) (by omega) (hw1.cpy (by omega) (by rw [e3p]; omega)) (hkn1.fr (show Fr [] [3, 7, 8] [] _ (fCpy _ _ _ _) from Fr.trans (Fr.trans (Fr.A Fr.rfl (by decide)) (fArg_fr.sub (by decide) (by decide) (by decide))) (fArg_fr.sub (by decide) (by decide) (by decide))) (by decide)) rfl)
            show Tm _ _ 355 b σ114 [(6, .int (iI gs112)), (5, .int (iI (220 * r + k))), (4, .int (iI k)), (3, .int (iI t113)), (2, .int (iI w111)), (0, .ref b), (1, .int (iI r))] [] _
            exact tm_sub [0, 1, 2, 3, 4, 5, 6] rfl (hx_355 (w111) (gs112) (t113) σ114 ((((((Fr.rfl.trans (Fr.sub hF (by decide) (by decide) (by decide))).trans (Fr.sub f21 (by decide) (by decide) (by decide))).A (by decide)).trans (Fr.sub fArg_fr (by decide) (by decide) (by decide))).trans (Fr.sub fArg_fr (by decide) (by decide) (by decide))).trans (Fr.sub F104 (by decide) (by decide) (by decide))) R105 (by omega) (by omega) f108 f109)
theorem ml12_460 : Cond.methodLink RX12 460 yX12_forgetAll ∈ pWW := pw9 (List.mem_of_getElem? (i := 106) rfl) rfl
theorem dX12_fold_11 : decode cX12_fold 11 = .ok (.iload 4, 2) := by decide +kernel
theorem dX12_fold_13 : decode cX12_fold 13 = .ok (.aload_n 0, 1) := by decide +kernel
theorem dX12_fold_14 : decode cX12_fold 14 = .ok (.getfield 32, 3) := by decide +kernel
theorem dX12_fold_17 : decode cX12_fold 17 = .ok (.iload_n 1, 1) := by decide +kernel
theorem dX12_fold_18 : decode cX12_fold 18 = .ok (.iaload, 1) := by decide +kernel
theorem dX12_fold_19 : decode cX12_fold 19 = .ok (.if_icmp .ge 342, 3) := by decide +kernel
theorem dX12_fold_22 : decode cX12_fold 22 = .ok (.aload_n 0, 1) := by decide +kernel
theorem dX12_fold_23 : decode cX12_fold 23 = .ok (.iload_n 1, 1) := by decide +kernel
theorem dX12_fold_24 : decode cX12_fold 24 = .ok (.iload 4, 2) := by decide +kernel
theorem dX12_fold_26 : decode cX12_fold 26 = .ok (.invokevirtual 203, 3) := by decide +kernel
theorem dX12_fold_29 : decode cX12_fold 29 = .ok (.istore 5, 2) := by decide +kernel
theorem dX12_fold_31 : decode cX12_fold 31 = .ok (.iconst 0, 1) := by decide +kernel
theorem dX12_fold_32 : decode cX12_fold 32 = .ok (.istore 6, 2) := by decide +kernel
theorem dX12_fold_34 : decode cX12_fold 34 = .ok (.aload_n 0, 1) := by decide +kernel
theorem dX12_fold_35 : decode cX12_fold 35 = .ok (.getfield 13, 3) := by decide +kernel
theorem dX12_fold_38 : decode cX12_fold 38 = .ok (.iload 5, 2) := by decide +kernel
theorem dX12_fold_40 : decode cX12_fold 40 = .ok (.iaload, 1) := by decide +kernel
theorem dX12_fold_41 : decode cX12_fold 41 = .ok (.bipush 13, 2) := by decide +kernel
theorem dX12_fold_43 : decode cX12_fold 43 = .ok (.if_icmp .ne 10, 3) := by decide +kernel
theorem dX12_fold_53 : decode cX12_fold 53 = .ok (.aload_n 0, 1) := by decide +kernel
theorem dX12_fold_54 : decode cX12_fold 54 = .ok (.getfield 13, 3) := by decide +kernel
theorem dX12_fold_57 : decode cX12_fold 57 = .ok (.iload 5, 2) := by decide +kernel
theorem dX12_fold_59 : decode cX12_fold 59 = .ok (.iaload, 1) := by decide +kernel
theorem dX12_fold_60 : decode cX12_fold 60 = .ok (.bipush 12, 2) := by decide +kernel
theorem dX12_fold_62 : decode cX12_fold 62 = .ok (.if_icmp .ne 65, 3) := by decide +kernel
theorem dX12_fold_355 : decode cX12_fold 355 = .ok (.iinc 4 1, 3) := by decide +kernel
theorem dX12_fold_358 : decode cX12_fold 358 = .ok (.goto (-347), 3) := by decide +kernel
theorem dX12_fold_65 : decode cX12_fold 65 = .ok (.aload_n 0, 1) := by decide +kernel
theorem dX12_fold_66 : decode cX12_fold 66 = .ok (.getfield 23, 3) := by decide +kernel
theorem dX12_fold_69 : decode cX12_fold 69 = .ok (.iload 5, 2) := by decide +kernel
theorem dX12_fold_71 : decode cX12_fold 71 = .ok (.iaload, 1) := by decide +kernel
theorem dX12_fold_72 : decode cX12_fold 72 = .ok (.iconst 2, 1) := by decide +kernel
theorem dX12_fold_73 : decode cX12_fold 73 = .ok (.if_icmp .ne 54, 3) := by decide +kernel
theorem dX12_fold_76 : decode cX12_fold 76 = .ok (.aload_n 0, 1) := by decide +kernel
theorem dX12_fold_77 : decode cX12_fold 77 = .ok (.getfield 133, 3) := by decide +kernel
theorem dX12_fold_80 : decode cX12_fold 80 = .ok (.aload_n 0, 1) := by decide +kernel
theorem dX12_fold_81 : decode cX12_fold 81 = .ok (.getfield 29, 3) := by decide +kernel
theorem dX12_fold_84 : decode cX12_fold 84 = .ok (.iconst 4, 1) := by decide +kernel
theorem dX12_fold_85 : decode cX12_fold 85 = .ok (.iload 5, 2) := by decide +kernel
theorem dX12_fold_87 : decode cX12_fold 87 = .ok (.imul, 1) := by decide +kernel
theorem dX12_fold_88 : decode cX12_fold 88 = .ok (.iaload, 1) := by decide +kernel
theorem dX12_fold_89 : decode cX12_fold 89 = .ok (.iaload, 1) := by decide +kernel
theorem dX12_fold_90 : decode cX12_fold 90 = .ok (.iconst 1, 1) := by decide +kernel
theorem dX12_fold_91 : decode cX12_fold 91 = .ok (.if_icmp .ne 36, 3) := by decide +kernel
theorem dX12_fold_94 : decode cX12_fold 94 = .ok (.aload_n 0, 1) := by decide +kernel
theorem dX12_fold_95 : decode cX12_fold 95 = .ok (.getfield 23, 3) := by decide +kernel
theorem dX12_fold_98 : decode cX12_fold 98 = .ok (.iload 5, 2) := by decide +kernel
theorem dX12_fold_100 : decode cX12_fold 100 = .ok (.iconst 1, 1) := by decide +kernel
theorem dX12_fold_101 : decode cX12_fold 101 = .ok (.iastore, 1) := by decide +kernel
theorem dX12_fold_102 : decode cX12_fold 102 = .ok (.aload_n 0, 1) := by decide +kernel
theorem dX12_fold_103 : decode cX12_fold 103 = .ok (.iload 5, 2) := by decide +kernel
theorem dX12_fold_105 : decode cX12_fold 105 = .ok (.iconst 0, 1) := by decide +kernel
theorem dX12_fold_106 : decode cX12_fold 106 = .ok (.iconst 1, 1) := by decide +kernel
theorem dX12_fold_107 : decode cX12_fold 107 = .ok (.aload_n 0, 1) := by decide +kernel
theorem dX12_fold_108 : decode cX12_fold 108 = .ok (.getfield 136, 3) := by decide +kernel
theorem dX12_fold_111 : decode cX12_fold 111 = .ok (.aload_n 0, 1) := by decide +kernel
theorem dX12_fold_112 : decode cX12_fold 112 = .ok (.getfield 29, 3) := by decide +kernel
theorem dX12_fold_115 : decode cX12_fold 115 = .ok (.iconst 4, 1) := by decide +kernel
theorem dX12_fold_116 : decode cX12_fold 116 = .ok (.iload 5, 2) := by decide +kernel
theorem dX12_fold_118 : decode cX12_fold 118 = .ok (.imul, 1) := by decide +kernel
theorem dX12_fold_119 : decode cX12_fold 119 = .ok (.iaload, 1) := by decide +kernel
theorem dX12_fold_120 : decode cX12_fold 120 = .ok (.iaload, 1) := by decide +kernel
theorem dX12_fold_121 : decode cX12_fold 121 = .ok (.invokevirtual 298, 3) := by decide +kernel
theorem dX12_fold_124 : decode cX12_fold 124 = .ok (.goto 211, 3) := by decide +kernel
theorem dX12_fold_46 : decode cX12_fold 46 = .ok (.aload_n 0, 1) := by decide +kernel
theorem dX12_fold_47 : decode cX12_fold 47 = .ok (.invokevirtual 460, 3) := by decide +kernel
theorem dX12_fold_50 : decode cX12_fold 50 = .ok (.goto 285, 3) := by decide +kernel
set_option maxHeartbeats 1000000 in
set_option maxRecDepth 20000 in
theorem l_fold (d : Nat) {b : Nat} {σ0 : MS} {r : Int} {F : Int} {post : Option Value → MS → Prop} (hr : 0 ≤ r ∧ r < 6) (hR0 : RG σ0) (hit : ITM σ0) (hpar : PAR σ0) (hok : OKS σ0 F r) (hx_361 : ∀ (w : Int) (t : Int) (k : Int) (σ : MS) , (Fr [] [3, 4, 5, 6, 7, 8, 60, 61] [] σ0 σ) → (RG σ) → (0 ≤ t ∧ t ≤ σ0.2.1 9 r ∧ 0 ≤ w ∧ w ≤ 220) → (FLP σ0 σ r F (σ0.2.1 9 r) t) → (KNW σ) → Tm (d + 6) m_X12_fold 361 b σ [(4, .int (iI k)), (3, .int (iI t)), (2, .int (iI w)), (0, .ref b), (1, .int (iI r))] [] post) : ∀ (n : Nat) (w : Int) (t : Int) (k : Int) (σ : MS) , (Fr [] [3, 4, 5, 6, 7, 8, 60, 61] [] σ0 σ) → (RG σ) → (0 ≤ t ∧ t ≤ k ∧ k ≤ σ0.2.1 9 r ∧ 0 ≤ w ∧ w ≤ k) → (FLP σ0 σ r F k t) → (KNW σ) → (220 - k).toNat = n → Tm (d + 6) m_X12_fold 11 b σ [(4, .int (iI k)), (3, .int (iI t)), (2, .int (iI w)), (0, .ref b), (1, .int (iI r))] [] post := by
  intro n
  induction n using Nat.strongRecOn with
  | _ n ih =>
    intro w t k σ hF hR h0 hlp hkn hm
    have q1 := hit r (by omega) (by omega)
    have q9 : σ.2.1 9 r = σ0.2.1 9 r := by rw [hF.2.1 9 (by decide)]
    refine tm_iload dX12_fold_11 0 rfl ?_
    refine tm_aload_n dX12_fold_13 rfl 3 rfl ?_
    refine tm_get (k := 9) (v := .ref (b + 1 + 7)) lay_12 dX12_fold_14 (by decide) fl12_32 rfl ?_
    refine tm_iload_n dX12_fold_17 rfl 4 rfl ?_
    refine tm_iald (z := r) (v := σ0.2.1 9 r) dX12_fold_18 (show mT[7]? = some (9, 0, 13) from rfl) (by omega) (by omega) (by decide) (ra_F hF (by decide) (rfl)) ?_
    have g1 := RG.a hR0 9 (r)
    refine tm_icmp_ge (tgt := 361) dX12_fold_19 (by decide) ⟨by omega, by omega⟩ ⟨by omega, by omega⟩ (fun h2 => ?_) (fun h2 => ?_)
    · exact tm_sub [0, 1, 2, 3, 4] rfl (hx_361 (w) (t) (k) σ (Fr.rfl.trans (Fr.sub hF (by decide) (by decide) (by decide))) hR (by omega) (by rw [show σ0.2.1 9 r = k by omega]; exact hlp) hkn)
    · have hw := hlp.wk (by omega) (hok k (by omega) (by omega))
      have hok1 := hw.ok.1
      have ho8 := hw.ok.2.2.2.2.2.2.2.1 0 (by decide) (by decide)
      have ho9 := hw.ok.2.2.2.2.2.2.2.2
      rw [Int.add_zero] at ho8 ho9
      refine tm_aload_n dX12_fold_22 rfl 3 rfl ?_
      refine tm_iload_n dX12_fold_23 rfl 4 rfl ?_
      refine tm_iload dX12_fold_24 0 rfl ?_
      refine tm_callV (M := m_X12_fold) (pc := 26) (ix := 203) (M' := m_X12_at) (As := [.int (iI r), .int (iI k)]) (rest := []) dX12_fold_26 ok_X12_at im_X12_at se_X12_at ml12_203 np_X12_at rfl rfl (Nat.le_of_ble_eq_true rfl) (Nat.le_of_ble_eq_true rfl) rfl (c_X12_at (d + 4) (σ := σ) (x := r) (k := k) ) (fun r3 σ4 hp => ?_)
      obtain ⟨v5, rfl, rfl, f6⟩ := hp
      subst f6
      show Tm _ _ 29 b σ [(4, .int (iI k)), (3, .int (iI t)), (2, .int (iI w)), (0, .ref b), (1, .int (iI r))] [.int (iI (220 * r + k))] _
      refine tm_istore (L' := [(5, .int (iI (220 * r + k))), (4, .int (iI k)), (3, .int (iI t)), (2, .int (iI w)), (0, .ref b), (1, .int (iI r))]) dX12_fold_29 (by decide) rfl ?_
      refine tm_iconst dX12_fold_31 ?_
      refine tm_istore (L' := [(6, .int (iI 0)), (5, .int (iI (220 * r + k))), (4, .int (iI k)), (3, .int (iI t)), (2, .int (iI w)), (0, .ref b), (1, .int (iI r))]) dX12_fold_32 (by decide) rfl ?_
      refine tm_aload_n dX12_fold_34 rfl 5 rfl ?_
      refine tm_get (k := 3) (v := .ref (b + 1 + 1)) lay_12 dX12_fold_35 (by decide) fl12_13 rfl ?_
      refine tm_iload dX12_fold_38 1 rfl ?_
      refine tm_iald (z := 220 * r + k) (v := σ.2.1 3 (220 * r + k)) dX12_fold_40 (show mT[1]? = some (3, 0, 2860) from rfl) (by omega) (by omega) (by decide) (rfl) ?_
      have g7 := RG.a hR 3 (220 * r + k)
      refine tm_bipush dX12_fold_41 (by decide) ?_
      refine tm_icmp_ne (tgt := 53) dX12_fold_43 (by decide) ⟨by omega, by omega⟩ ⟨by decide, by decide⟩ (fun h8 => ?_) (fun h8 => ?_)
      · refine tm_aload_n dX12_fold_53 rfl 5 rfl ?_
        refine tm_get (k := 3) (v := .ref (b + 1 + 1)) lay_12 dX12_fold_54 (by decide) fl12_13 rfl ?_
        refine tm_iload dX12_fold_57 1 rfl ?_
        refine tm_iald (z := 220 * r + k) (v := σ.2.1 3 (220 * r + k)) dX12_fold_59 (show mT[1]? = some (3, 0, 2860) from rfl) (by omega) (by omega) (by decide) (rfl) ?_
        have g9 := RG.a hR 3 (220 * r + k)
        refine tm_bipush dX12_fold_60 (by decide) ?_
        refine tm_icmp_ne (tgt := 127) dX12_fold_62 (by decide) ⟨by omega, by omega⟩ ⟨by decide, by decide⟩ (fun h10 => ?_) (fun h10 => ?_)
        · refine tm_sub [0, 1, 2, 3, 4, 5, 6] rfl (b_fold127 (d + 1) (σ0 := σ) (r := r) (k := k) (F := F) (ρ := σ0) hr hR (hpar.fr hF (by decide)) (by omega) (fun w21 gs22 t23 σ24 F15 R16 f17 f18 f19 f20 => ?_) _ (w) (0) (t) σ Fr.rfl hR (by omega) hw hkn rfl)
          show Tm _ _ 355 b σ24 [(6, .int (iI gs22)), (5, .int (iI (220 * r + k))), (4, .int (iI k)), (3, .int (iI t23)), (2, .int (iI w21)), (0, .ref b), (1, .int (iI r))] [] _
          refine tm_iinc (q0 := 2) (L' := [(4, .int (iI (k + 1))), (6, .int (iI gs22)), (5, .int (iI (220 * r + k))), (3, .int (iI t23)), (2, .int (iI w21)), (0, .ref b), (1, .int (iI r))]) dX12_fold_355 rfl (by decide) rfl ?_
          refine tm_goto (tgt := 11) dX12_fold_358 (by decide) ?_
          exact tm_sub [0, 3, 4, 5, 6] rfl (ih _ (by omega) (w21) (t23) (k + 1) σ24 ((Fr.rfl.trans (Fr.sub hF (by decide) (by decide) (by decide))).trans (Fr.sub F15 (by decide) (by decide) (by decide))) R16 (by omega) f19 f20 rfl)
        · refine tm_aload_n dX12_fold_65 rfl 5 rfl ?_
          refine tm_get (k := 6) (v := .ref (b + 1 + 4)) lay_12 dX12_fold_66 (by decide) fl12_23 rfl ?_
          refine tm_iload dX12_fold_69 1 rfl ?_
          refine tm_iald (z := 220 * r + k) (v := σ.2.1 6 (220 * r + k)) dX12_fold_71 (show mT[4]? = some (6, 0, 2860) from rfl) (by omega) (by omega) (by decide) (rfl) ?_
          have g25 := RG.a hR 6 (220 * r + k)
          refine tm_iconst dX12_fold_72 ?_
          refine tm_icmp_ne (tgt := 127) dX12_fold_73 (by decide) ⟨by omega, by omega⟩ ⟨by decide, by decide⟩ (fun h26 => ?_) (fun h26 => ?_)
          · refine tm_sub [0, 1, 2, 3, 4, 5, 6] rfl (b_fold127 (d + 1) (σ0 := σ) (r := r) (k := k) (F := F) (ρ := σ0) hr hR (hpar.fr hF (by decide)) (by omega) (fun w37 gs38 t39 σ40 F31 R32 f33 f34 f35 f36 => ?_) _ (w) (0) (t) σ Fr.rfl hR (by omega) hw hkn rfl)
            show Tm _ _ 355 b σ40 [(6, .int (iI gs38)), (5, .int (iI (220 * r + k))), (4, .int (iI k)), (3, .int (iI t39)), (2, .int (iI w37)), (0, .ref b), (1, .int (iI r))] [] _
            refine tm_iinc (q0 := 2) (L' := [(4, .int (iI (k + 1))), (6, .int (iI gs38)), (5, .int (iI (220 * r + k))), (3, .int (iI t39)), (2, .int (iI w37)), (0, .ref b), (1, .int (iI r))]) dX12_fold_355 rfl (by decide) rfl ?_
            refine tm_goto (tgt := 11) dX12_fold_358 (by decide) ?_
            exact tm_sub [0, 3, 4, 5, 6] rfl (ih _ (by omega) (w37) (t39) (k + 1) σ40 ((Fr.rfl.trans (Fr.sub hF (by decide) (by decide) (by decide))).trans (Fr.sub F31 (by decide) (by decide) (by decide))) R32 (by omega) f35 f36 rfl)
          · have hkk := ho9 (by omega) (by omega)
            refine tm_aload_n dX12_fold_76 rfl 5 rfl ?_
            refine tm_get (k := 60) (v := .ref (b + 1 + 38)) lay_12 dX12_fold_77 (by decide) fl12_133 rfl ?_
            refine tm_aload_n dX12_fold_80 rfl 5 rfl ?_
            refine tm_get (k := 8) (v := .ref (b + 1 + 6)) lay_12 dX12_fold_81 (by decide) fl12_29 rfl ?_
            refine tm_iconst dX12_fold_84 ?_
            refine tm_iload dX12_fold_85 1 rfl ?_
            refine tm_imul dX12_fold_87 ?_
            refine tm_iald (z := 4 * (220 * r + k)) (v := σ.2.1 8 (4 * (220 * r + k))) dX12_fold_88 (show mT[6]? = some (8, 0, 11440) from rfl) (by omega) (by omega) (by decide) (rfl) ?_
            have g41 := RG.a hR 8 (4 * (220 * r + k))
            refine tm_iald (z := σ.2.1 8 (4 * (220 * r + k))) (v := σ.2.1 60 (σ.2.1 8 (4 * (220 * r + k)))) dX12_fold_89 (show mT[38]? = some (60, 0, 192) from rfl) (by omega) (by omega) (by decide) (rfl) ?_
            have g42 := RG.a hR 60 (σ.2.1 8 (4 * (220 * r + k)))
            have := hkn (σ.2.1 8 (4 * (220 * r + k)))
            refine tm_iconst dX12_fold_90 ?_
            refine tm_icmp_ne (tgt := 127) dX12_fold_91 (by decide) ⟨by omega, by omega⟩ ⟨by decide, by decide⟩ (fun h43 => ?_) (fun h43 => ?_)
            · refine tm_sub [0, 1, 2, 3, 4, 5, 6] rfl (b_fold127 (d + 1) (σ0 := σ) (r := r) (k := k) (F := F) (ρ := σ0) hr hR (hpar.fr hF (by decide)) (by omega) (fun w54 gs55 t56 σ57 F48 R49 f50 f51 f52 f53 => ?_) _ (w) (0) (t) σ Fr.rfl hR (by omega) hw hkn rfl)
              show Tm _ _ 355 b σ57 [(6, .int (iI gs55)), (5, .int (iI (220 * r + k))), (4, .int (iI k)), (3, .int (iI t56)), (2, .int (iI w54)), (0, .ref b), (1, .int (iI r))] [] _
              refine tm_iinc (q0 := 2) (L' := [(4, .int (iI (k + 1))), (6, .int (iI gs55)), (5, .int (iI (220 * r + k))), (3, .int (iI t56)), (2, .int (iI w54)), (0, .ref b), (1, .int (iI r))]) dX12_fold_355 rfl (by decide) rfl ?_
              refine tm_goto (tgt := 11) dX12_fold_358 (by decide) ?_
              exact tm_sub [0, 3, 4, 5, 6] rfl (ih _ (by omega) (w54) (t56) (k + 1) σ57 ((Fr.rfl.trans (Fr.sub hF (by decide) (by decide) (by decide))).trans (Fr.sub F48 (by decide) (by decide) (by decide))) R49 (by omega) f52 f53 rfl)
            · refine tm_aload_n dX12_fold_94 rfl 5 rfl ?_
              refine tm_get (k := 6) (v := .ref (b + 1 + 4)) lay_12 dX12_fold_95 (by decide) fl12_23 rfl ?_
              refine tm_iload dX12_fold_98 1 rfl ?_
              refine tm_iconst dX12_fold_100 ?_
              refine tm_iast (z := 220 * r + k) (v := 1) dX12_fold_101 (show mT[4]? = some (6, 0, 2860) from rfl) (by omega) (by omega) (by decide) ?_
              refine tm_aload_n dX12_fold_102 rfl 5 rfl ?_
              refine tm_iload dX12_fold_103 1 rfl ?_
              refine tm_iconst dX12_fold_105 ?_
              refine tm_iconst dX12_fold_106 ?_
              refine tm_aload_n dX12_fold_107 rfl 5 rfl ?_
              refine tm_get (k := 61) (v := .ref (b + 1 + 39)) lay_12 dX12_fold_108 (by decide) fl12_136 rfl ?_
              refine tm_aload_n dX12_fold_111 rfl 5 rfl ?_
              refine tm_get (k := 8) (v := .ref (b + 1 + 6)) lay_12 dX12_fold_112 (by decide) fl12_29 rfl ?_
              refine tm_iconst dX12_fold_115 ?_
              refine tm_iload dX12_fold_116 1 rfl ?_
              refine tm_imul dX12_fold_118 ?_
              refine tm_iald (z := 4 * (220 * r + k)) (v := σ.2.1 8 (4 * (220 * r + k))) dX12_fold_119 (show mT[6]? = some (8, 0, 11440) from rfl) (by omega) (by omega) (by decide) (ra_o (by decide) (rfl)) ?_
              have g58 := RG.a hR 8 (4 * (220 * r + k))
              refine tm_iald (z := σ.2.1 8 (4 * (220 * r + k))) (v := σ.2.1 61 (σ.2.1 8 (4 * (220 * r + k)))) dX12_fold_120 (show mT[39]? = some (61, 0, 192) from rfl) (by omega) (by omega) (by decide) (ra_o (by decide) (rfl)) ?_
              have g59 := RG.a hR 61 (σ.2.1 8 (4 * (220 * r + k)))
              refine tm_callV (M := m_X12_fold) (pc := 121) (ix := 298) (M' := m_X12_setArg) (As := [.int (iI (220 * r + k)), .int (iI 0), .int (iI 1), .int (iI (σ.2.1 61 (σ.2.1 8 (4 * (220 * r + k)))))]) (rest := []) dX12_fold_121 ok_X12_setArg im_X12_setArg se_X12_setArg ml12_298 np_X12_setArg rfl rfl (Nat.le_of_ble_eq_true rfl) (Nat.le_of_ble_eq_true rfl) rfl (c_X12_setArg (d + 4) (σ := (sA 6 (220 * r + k) (1) σ)) (x := 220 * r + k) (i := 0) (k := 1) (w := σ.2.1 61 (σ.2.1 8 (4 * (220 * r + k)))) (by omega)) (fun r60 σ61 hp => ?_)
              obtain ⟨rfl, f63⟩ := hp
              subst f63
              show Tm _ _ 124 b (fArg (220 * r + k) (0) (1) (σ.2.1 61 (σ.2.1 8 (4 * (220 * r + k)))) (sA 6 (220 * r + k) (1) σ)) [(6, .int (iI 0)), (5, .int (iI (220 * r + k))), (4, .int (iI k)), (3, .int (iI t)), (2, .int (iI w)), (0, .ref b), (1, .int (iI r))] [] _
              refine tm_goto (tgt := 335) dX12_fold_124 (by decide) ?_
              refine tm_sub [0, 1, 2, 3, 4, 5, 6] rfl (b_fold335 (d + 4) (σ0 := (fArg (220 * r + k) (0) (1) (σ.2.1 61 (σ.2.1 8 (4 * (220 * r + k)))) (sA 6 (220 * r + k) (1) σ))) (r := r) (k := k) (w := w) (gs := 0) (F := F) (ρ := σ0) hr (by omega) (by omega) (fun t71 σ72 F66 R67 f68 f69 f70 => ?_) _ (t) (fArg (220 * r + k) (0) (1) (σ.2.1 61 (σ.2.1 8 (4 * (220 * r + k)))) (sA 6 (220 * r + k) (1) σ)) Fr.rfl ((hR.A (by omega)).arg (by omega) (by omega)) (by omega) (hw.bind (by omega) (by omega) (by omega)) (hkn.fr (show Fr [] [6, 7, 8] [] _ _ from Fr.trans (Fr.A Fr.rfl (by decide)) (fArg_fr.sub (by decide) (by decide) (by decide))) (by decide)) rfl)
              show Tm _ _ 355 b σ72 [(6, .int (iI 0)), (5, .int (iI (220 * r + k))), (4, .int (iI k)), (3, .int (iI t71)), (2, .int (iI w)), (0, .ref b), (1, .int (iI r))] [] _
              refine tm_iinc (q0 := 2) (L' := [(4, .int (iI (k + 1))), (6, .int (iI 0)), (5, .int (iI (220 * r + k))), (3, .int (iI t71)), (2, .int (iI w)), (0, .ref b), (1, .int (iI r))]) dX12_fold_355 rfl (by decide) rfl ?_
              refine tm_goto (tgt := 11) dX12_fold_358 (by decide) ?_
              exact tm_sub [0, 3, 4, 5, 6] rfl (ih _ (by omega) (w) (t71) (k + 1) σ72 ((((Fr.rfl.trans (Fr.sub hF (by decide) (by decide) (by decide))).A (by decide)).trans (Fr.sub fArg_fr (by decide) (by decide) (by decide))).trans (Fr.sub F66 (by decide) (by decide) (by decide))) R67 (by omega) f69 f70 rfl)
      · refine tm_aload_n dX12_fold_46 rfl 5 rfl ?_
        refine tm_callV (M := m_X12_fold) (pc := 47) (ix := 460) (M' := m_X12_forgetAll) (As := []) (rest := []) dX12_fold_47 ok_X12_forgetAll im_X12_forgetAll se_X12_forgetAll ml12_460 np_X12_forgetAll rfl rfl (Nat.le_of_ble_eq_true rfl) (Nat.le_of_ble_eq_true rfl) rfl (c2_X12_forgetAll (d + 4) (σ := σ)  hR hkn) (fun r73 σ74 hp => ?_)
        obtain ⟨rfl, f76, f77, f78⟩ := hp
        show Tm _ _ 50 b σ74 [(6, .int (iI 0)), (5, .int (iI (220 * r + k))), (4, .int (iI k)), (3, .int (iI t)), (2, .int (iI w)), (0, .ref b), (1, .int (iI r))] [] _
        refine tm_goto (tgt := 335) dX12_fold_50 (by decide) ?_
        refine tm_sub [0, 1, 2, 3, 4, 5, 6] rfl (b_fold335 (d + 4) (σ0 := σ74) (r := r) (k := k) (w := w) (gs := 0) (F := F) (ρ := σ0) hr (by omega) (by omega) (fun t86 σ87 F81 R82 f83 f84 f85 => ?_) _ (t) σ74 Fr.rfl f77 (by omega) (hw.fr f76 (by decide)) f78 rfl)
        show Tm _ _ 355 b σ87 [(6, .int (iI 0)), (5, .int (iI (220 * r + k))), (4, .int (iI k)), (3, .int (iI t86)), (2, .int (iI w)), (0, .ref b), (1, .int (iI r))] [] _
        refine tm_iinc (q0 := 2) (L' := [(4, .int (iI (k + 1))), (6, .int (iI 0)), (5, .int (iI (220 * r + k))), (3, .int (iI t86)), (2, .int (iI w)), (0, .ref b), (1, .int (iI r))]) dX12_fold_355 rfl (by decide) rfl ?_
        refine tm_goto (tgt := 11) dX12_fold_358 (by decide) ?_
        exact tm_sub [0, 3, 4, 5, 6] rfl (ih _ (by omega) (w) (t86) (k + 1) σ87 (((Fr.rfl.trans (Fr.sub hF (by decide) (by decide) (by decide))).trans (Fr.sub f76 (by decide) (by decide) (by decide))).trans (Fr.sub F81 (by decide) (by decide) (by decide))) R82 (by omega) f84 f85 rfl)
end
section
theorem dX12_fold_0 : decode cX12_fold 0 = .ok (.iconst 0, 1) := by decide +kernel
theorem dX12_fold_1 : decode cX12_fold 1 = .ok (.istore_n 2, 1) := by decide +kernel
theorem dX12_fold_2 : decode cX12_fold 2 = .ok (.iconst 0, 1) := by decide +kernel
theorem dX12_fold_3 : decode cX12_fold 3 = .ok (.istore_n 3, 1) := by decide +kernel
theorem dX12_fold_4 : decode cX12_fold 4 = .ok (.aload_n 0, 1) := by decide +kernel
theorem dX12_fold_5 : decode cX12_fold 5 = .ok (.invokevirtual 460, 3) := by decide +kernel
theorem dX12_fold_8 : decode cX12_fold 8 = .ok (.iconst 0, 1) := by decide +kernel
theorem dX12_fold_9 : decode cX12_fold 9 = .ok (.istore 4, 2) := by decide +kernel
theorem dX12_fold_361 : decode cX12_fold 361 = .ok (.aload_n 0, 1) := by decide +kernel
theorem dX12_fold_362 : decode cX12_fold 362 = .ok (.getfield 32, 3) := by decide +kernel
theorem dX12_fold_365 : decode cX12_fold 365 = .ok (.iload_n 1, 1) := by decide +kernel
theorem dX12_fold_366 : decode cX12_fold 366 = .ok (.iload_n 3, 1) := by decide +kernel
theorem dX12_fold_367 : decode cX12_fold 367 = .ok (.iastore, 1) := by decide +kernel
theorem dX12_fold_368 : decode cX12_fold 368 = .ok (.iload_n 2, 1) := by decide +kernel
theorem dX12_fold_369 : decode cX12_fold 369 = .ok (.ireturn, 1) := by decide +kernel
set_option maxHeartbeats 1000000 in
set_option maxRecDepth 20000 in
theorem c_X12_fold (d : Nat) {b : Nat} {σ : MS} {r : Int} {F : Int} (hr : 0 ≤ r ∧ r < 6) (hR : RG σ) (hit : ITM σ) (hpar : PAR σ) (hok : OKS σ F r) (hkn : KNW σ) (hn : 1 ≤ σ.2.1 9 r) (hcd : CODE σ r) (hlex : LEX σ r) (hlm : LBM σ r) : Tm (d + 6) m_X12_fold 0 b σ [(0, .ref b), (1, .int (iI r))] [] (fun ro σ2 => ∃ v : Int, ro = some (.int (iI v)) ∧ (Fr [] [3, 4, 5, 6, 7, 8, 9, 60, 61] [] σ σ2) ∧ (RG σ2) ∧ ((1 ≤ σ2.2.1 9 r ∧ σ2.2.1 9 r ≤ σ.2.1 9 r) ∧ ∀ j, j ≠ r → σ2.2.1 9 j = σ.2.1 9 j) ∧ (XO r σ σ2) ∧ (OKS σ2 F r) ∧ (CODE σ2 r) ∧ (LEX σ2 r) ∧ (LBM σ2 r) ∧ (KNW σ2)) := by
  have q1 := hit r (by omega) (by omega)
  refine tm_iconst dX12_fold_0 ?_
  refine tm_istore_n (L' := [(2, .int (iI 0)), (0, .ref b), (1, .int (iI r))]) dX12_fold_1 rfl (by decide) rfl ?_
  refine tm_iconst dX12_fold_2 ?_
  refine tm_istore_n (L' := [(3, .int (iI 0)), (2, .int (iI 0)), (0, .ref b), (1, .int (iI r))]) dX12_fold_3 rfl (by decide) rfl ?_
  refine tm_aload_n dX12_fold_4 rfl 2 rfl ?_
  refine tm_callV (M := m_X12_fold) (pc := 5) (ix := 460) (M' := m_X12_forgetAll) (As := []) (rest := []) dX12_fold_5 ok_X12_forgetAll im_X12_forgetAll se_X12_forgetAll ml12_460 np_X12_forgetAll rfl rfl (Nat.le_of_ble_eq_true rfl) (Nat.le_of_ble_eq_true rfl) rfl (c2_X12_forgetAll (d + 4) (σ := σ)  hR hkn) (fun r1 σ2 hp => ?_)
  obtain ⟨rfl, f4, f5, f6⟩ := hp
  show Tm _ _ 8 b σ2 [(3, .int (iI 0)), (2, .int (iI 0)), (0, .ref b), (1, .int (iI r))] [] _
  refine tm_iconst dX12_fold_8 ?_
  refine tm_istore (L' := [(4, .int (iI 0)), (3, .int (iI 0)), (2, .int (iI 0)), (0, .ref b), (1, .int (iI r))]) dX12_fold_9 (by decide) rfl ?_
  refine tm_sub [0, 1, 2, 3, 4] rfl (l_fold (d) (σ0 := σ2) (r := r) (F := F) hr f5 (hit.fr (show Fr [] [60] [] σ σ2 from (Fr.rfl.trans (Fr.sub f4 (by decide) (by decide) (by decide)))) (by decide)) (hpar.fr (show Fr [] [60] [] σ σ2 from (Fr.rfl.trans (Fr.sub f4 (by decide) (by decide) (by decide)))) (by decide)) (hok.fr (show Fr [] [60] [] σ σ2 from (Fr.rfl.trans (Fr.sub f4 (by decide) (by decide) (by decide)))) (by decide)) (fun w16 t17 k18 σ19 F11 R12 f13 f14 f15 => ?_) _ (0) (0) (0) σ2 Fr.rfl f5 (by rw [((show Fr [] [60] [] σ σ2 from (Fr.rfl.trans (Fr.sub f4 (by decide) (by decide) (by decide))))).2.1 9 (by decide)]; omega) FLP.start f6 rfl)
  show Tm _ _ 361 b σ19 [(4, .int (iI k18)), (3, .int (iI t17)), (2, .int (iI w16)), (0, .ref b), (1, .int (iI r))] [] _
  have e9 : σ2.2.1 9 r = σ.2.1 9 r := by rw [((show Fr [] [60] [] σ σ2 from (Fr.rfl.trans (Fr.sub f4 (by decide) (by decide) (by decide))))).2.1 9 (by decide)]
  have hfin := FLP.fin f14 ⟨rfl, by omega⟩ F11 (hcd.fr (show Fr [] [60] [] σ σ2 from (Fr.rfl.trans (Fr.sub f4 (by decide) (by decide) (by decide)))) (by decide) (by decide)) (hlex.fr (show Fr [] [60] [] σ σ2 from (Fr.rfl.trans (Fr.sub f4 (by decide) (by decide) (by decide)))) (by decide)) (hlm.fr (show Fr [] [60] [] σ σ2 from (Fr.rfl.trans (Fr.sub f4 (by decide) (by decide) (by decide)))) (by decide))
  have hxo := (XO.fr (r := r) (show Fr [] [60] [] σ σ2 from (Fr.rfl.trans (Fr.sub f4 (by decide) (by decide) (by decide)))) (by decide)).trans f14.2.2.1
  have hkn2 := f15
  refine tm_aload_n dX12_fold_361 rfl 3 rfl ?_
  refine tm_get (k := 9) (v := .ref (b + 1 + 7)) lay_12 dX12_fold_362 (by decide) fl12_32 rfl ?_
  refine tm_iload_n dX12_fold_365 rfl 4 rfl ?_
  refine tm_iload_n dX12_fold_366 rfl 1 rfl ?_
  refine tm_iast (z := r) (v := t17) dX12_fold_367 (show mT[7]? = some (9, 0, 13) from rfl) (by omega) (by omega) (by decide) ?_
  refine tm_iload_n dX12_fold_368 rfl 2 rfl ?_
  exact tm_iret rfl dX12_fold_369 (⟨_, rfl, (((Fr.rfl.trans (Fr.sub f4 (by decide) (by decide) (by decide))).trans (Fr.sub F11 (by decide) (by decide) (by decide))).A (by decide)), (R12.A (by omega)), ⟨by rw [show (sA 9 (r) (t17) σ19).2.1 9 r = t17 from ra_eq]; omega, fun j hj => ra_ne hj (by rw [((show Fr [] [3, 4, 5, 6, 7, 8, 60, 61] [] σ σ19 from ((Fr.rfl.trans (Fr.sub f4 (by decide) (by decide) (by decide))).trans (Fr.sub F11 (by decide) (by decide) (by decide))))).2.1 9 (by decide)])⟩, hxo.trans (XO.fr ((Fr.rfl (ss := []) (ks := [9]) (js := [])).A (by decide)) (by decide)), hfin.2.2.2.2, hfin.1, hfin.2.2.1, hfin.2.2.2.1, hkn2.fr ((Fr.rfl (ss := []) (ks := [9]) (js := [])).A (by decide)) (by decide)⟩)
end
