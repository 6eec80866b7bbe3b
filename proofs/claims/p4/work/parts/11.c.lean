theorem oki_takA {σ : MS} {F y k v : Int} (ho : OKI σ F y) (h12 : σ.2.1 3 y = 12) (h2 : σ.2.1 6 y = 2) (hk : 0 ≤ k ∧ k ≤ 2) (hv : k = 2 → 0 ≤ v ∧ v < 192) : OKI (fArg y 0 k v (sA 6 y k σ)) F y := by
  obtain ⟨o1, o2, o3, o4, o5, o6, o7, o8, o9⟩ := ho
  have e6 : (fArg y 0 k v (sA 6 y k σ)).2.1 6 y = k := ra_o (by decide) (ra_o (by decide) ra_eq)
  have e3 : (fArg y 0 k v (sA 6 y k σ)).2.1 3 = σ.2.1 3 := rfl
  have hn : nArgs σ y = 1 := by unfold nArgs; rw [h12, h2]; rfl
  have hm : nArgs (fArg y 0 k v (sA 6 y k σ)) y = 1 := by
    unfold nArgs; rw [e6, e3, h12, if_neg (by decide), if_pos rfl, if_neg (by omega), if_neg (by omega)]
  unfold OKI
  rw [hm, e6]
  refine ⟨o1, o2, o3, o4, o5, o6, o7, fun i c e => ?_, fun _ q => (ra_o (by decide) ra_eq).trans q⟩
  by_cases hi : i = 0
  · subst hi
    rw [show (fArg y 0 k v (sA 6 y k σ)).2.1 7 (4 * y + 0) = k from ra_o (by decide) ra_eq, show (fArg y 0 k v (sA 6 y k σ)).2.1 8 (4 * y + 0) = v from ra_eq]
    exact ⟨hk, fun q => ⟨hv q, by decide⟩⟩
  · rw [show (fArg y 0 k v (sA 6 y k σ)).2.1 7 (4 * y + i) = σ.2.1 7 (4 * y + i) from ra_o (by decide) (ra_ne (by omega) (ra_o (by decide) rfl))]
    have := o8 i c e
    rw [hn] at this
    exact ⟨this.1, fun q => by have := (this.2 q).2; omega⟩
theorem oki_takB {σ : MS} {F y w k v k2 v2 : Int} (ho : OKI σ F y) (h12 : σ.2.1 3 y = 12) (h2 : σ.2.1 6 y = 2) (hw : 3 ≤ w ∧ w ≤ 7) (hk : 0 ≤ k ∧ k ≤ 2) (hv : k = 2 → 0 ≤ v ∧ v < 192) (hk2 : 0 ≤ k2 ∧ k2 ≤ 2) (hv2 : k2 = 2 → 0 ≤ v2 ∧ v2 < 192) : OKI (fArg y 1 k2 v2 (fArg y 0 k v (sA 6 y w σ))) F y := by
  obtain ⟨o1, o2, o3, o4, o5, o6, o7, o8, o9⟩ := ho
  have e6 : (fArg y 1 k2 v2 (fArg y 0 k v (sA 6 y w σ))).2.1 6 y = w := ra_o (by decide) (ra_o (by decide) (ra_o (by decide) (ra_o (by decide) ra_eq)))
  have e3 : (fArg y 1 k2 v2 (fArg y 0 k v (sA 6 y w σ))).2.1 3 = σ.2.1 3 := rfl
  have hn : nArgs σ y = 1 := by unfold nArgs; rw [h12, h2]; rfl
  have hm : nArgs (fArg y 1 k2 v2 (fArg y 0 k v (sA 6 y w σ))) y = 2 := by
    unfold nArgs; rw [e6, e3, h12, if_neg (by decide), if_pos rfl, if_neg (by omega), if_pos (by omega)]
  unfold OKI
  rw [hm, e6]
  refine ⟨o1, o2, o3, o4, o5, o6, o7, fun i c e => ?_, fun _ q => by omega⟩
  by_cases hi : i = 0
  · subst hi
    rw [show (fArg y 1 k2 v2 (fArg y 0 k v (sA 6 y w σ))).2.1 7 (4 * y + 0) = k from ra_o (by decide) (ra_ne (by omega) (ra_o (by decide) ra_eq)), show (fArg y 1 k2 v2 (fArg y 0 k v (sA 6 y w σ))).2.1 8 (4 * y + 0) = v from ra_ne (by omega) (ra_o (by decide) ra_eq)]
    exact ⟨hk, fun q => ⟨hv q, by decide⟩⟩
  · by_cases hi1 : i = 1
    · subst hi1
      rw [show (fArg y 1 k2 v2 (fArg y 0 k v (sA 6 y w σ))).2.1 7 (4 * y + 1) = k2 from ra_o (by decide) ra_eq, show (fArg y 1 k2 v2 (fArg y 0 k v (sA 6 y w σ))).2.1 8 (4 * y + 1) = v2 from ra_eq]
      exact ⟨hk2, fun q => ⟨hv2 q, by decide⟩⟩
    · rw [show (fArg y 1 k2 v2 (fArg y 0 k v (sA 6 y w σ))).2.1 7 (4 * y + i) = σ.2.1 7 (4 * y + i) from ra_o (by decide) (ra_ne (by omega) (ra_o (by decide) (ra_ne (by omega) (ra_o (by decide) rfl))))]
      have := o8 i c e
      rw [hn] at this
      exact ⟨this.1, fun q => by have := (this.2 q).2; omega⟩
theorem takA_off {σ : MS} {y w k v : Int} : OFF y σ (fArg y 0 k v (sA 6 y w σ)) := (OFF.A (by decide)).trans (OFF.arg (by decide) (by decide))
theorem takB_off {σ : MS} {y w k v k2 v2 : Int} : OFF y σ (fArg y 1 k2 v2 (fArg y 0 k v (sA 6 y w σ))) := takA_off.trans (OFF.arg (by decide) (by decide))

theorem dX12_rebind_170 : decode cX12_rebind 170 = .ok (.iload 6, 2) := by decide +kernel
theorem dX12_rebind_172 : decode cX12_rebind 172 = .ok (.aload_n 0, 1) := by decide +kernel
theorem dX12_rebind_173 : decode cX12_rebind 173 = .ok (.getfield 32, 3) := by decide +kernel
theorem dX12_rebind_176 : decode cX12_rebind 176 = .ok (.iload_n 1, 1) := by decide +kernel
theorem dX12_rebind_177 : decode cX12_rebind 177 = .ok (.iaload, 1) := by decide +kernel
theorem dX12_rebind_178 : decode cX12_rebind 178 = .ok (.if_icmp .ge 191, 3) := by decide +kernel
theorem dX12_rebind_181 : decode cX12_rebind 181 = .ok (.aload_n 0, 1) := by decide +kernel
theorem dX12_rebind_182 : decode cX12_rebind 182 = .ok (.getfield 13, 3) := by decide +kernel
theorem dX12_rebind_185 : decode cX12_rebind 185 = .ok (.aload_n 0, 1) := by decide +kernel
theorem dX12_rebind_186 : decode cX12_rebind 186 = .ok (.iload_n 1, 1) := by decide +kernel
theorem dX12_rebind_187 : decode cX12_rebind 187 = .ok (.iload 6, 2) := by decide +kernel
theorem dX12_rebind_189 : decode cX12_rebind 189 = .ok (.invokevirtual 203, 3) := by decide +kernel
theorem dX12_rebind_192 : decode cX12_rebind 192 = .ok (.iaload, 1) := by decide +kernel
theorem dX12_rebind_193 : decode cX12_rebind 193 = .ok (.bipush 11, 2) := by decide +kernel
theorem dX12_rebind_195 : decode cX12_rebind 195 = .ok (.if_icmp .eq 20, 3) := by decide +kernel
theorem dX12_rebind_215 : decode cX12_rebind 215 = .ok (.aload_n 0, 1) := by decide +kernel
theorem dX12_rebind_216 : decode cX12_rebind 216 = .ok (.iload_n 1, 1) := by decide +kernel
theorem dX12_rebind_217 : decode cX12_rebind 217 = .ok (.iload 6, 2) := by decide +kernel
theorem dX12_rebind_219 : decode cX12_rebind 219 = .ok (.invokevirtual 203, 3) := by decide +kernel
theorem dX12_rebind_222 : decode cX12_rebind 222 = .ok (.istore 7, 2) := by decide +kernel
theorem dX12_rebind_224 : decode cX12_rebind 224 = .ok (.aload_n 0, 1) := by decide +kernel
theorem dX12_rebind_225 : decode cX12_rebind 225 = .ok (.getfield 13, 3) := by decide +kernel
theorem dX12_rebind_228 : decode cX12_rebind 228 = .ok (.iload 7, 2) := by decide +kernel
theorem dX12_rebind_230 : decode cX12_rebind 230 = .ok (.iaload, 1) := by decide +kernel
theorem dX12_rebind_231 : decode cX12_rebind 231 = .ok (.bipush 12, 2) := by decide +kernel
theorem dX12_rebind_233 : decode cX12_rebind 233 = .ok (.if_icmp .ne 130, 3) := by decide +kernel
theorem dX12_rebind_363 : decode cX12_rebind 363 = .ok (.iinc 6 1, 3) := by decide +kernel
theorem dX12_rebind_366 : decode cX12_rebind 366 = .ok (.goto (-196), 3) := by decide +kernel
theorem dX12_rebind_236 : decode cX12_rebind 236 = .ok (.aload_n 0, 1) := by decide +kernel
theorem dX12_rebind_237 : decode cX12_rebind 237 = .ok (.getfield 23, 3) := by decide +kernel
theorem dX12_rebind_240 : decode cX12_rebind 240 = .ok (.iload 7, 2) := by decide +kernel
theorem dX12_rebind_242 : decode cX12_rebind 242 = .ok (.iaload, 1) := by decide +kernel
theorem dX12_rebind_243 : decode cX12_rebind 243 = .ok (.iconst 2, 1) := by decide +kernel
theorem dX12_rebind_244 : decode cX12_rebind 244 = .ok (.if_icmp .ne 119, 3) := by decide +kernel
theorem dX12_rebind_247 : decode cX12_rebind 247 = .ok (.aload_n 0, 1) := by decide +kernel
theorem dX12_rebind_248 : decode cX12_rebind 248 = .ok (.getfield 29, 3) := by decide +kernel
theorem dX12_rebind_251 : decode cX12_rebind 251 = .ok (.iconst 4, 1) := by decide +kernel
theorem dX12_rebind_252 : decode cX12_rebind 252 = .ok (.iload 7, 2) := by decide +kernel
theorem dX12_rebind_254 : decode cX12_rebind 254 = .ok (.imul, 1) := by decide +kernel
theorem dX12_rebind_255 : decode cX12_rebind 255 = .ok (.iaload, 1) := by decide +kernel
theorem dX12_rebind_256 : decode cX12_rebind 256 = .ok (.iload 4, 2) := by decide +kernel
theorem dX12_rebind_258 : decode cX12_rebind 258 = .ok (.if_icmp .ne 105, 3) := by decide +kernel
theorem dX12_rebind_261 : decode cX12_rebind 261 = .ok (.aload_n 0, 1) := by decide +kernel
theorem dX12_rebind_262 : decode cX12_rebind 262 = .ok (.getfield 23, 3) := by decide +kernel
theorem dX12_rebind_265 : decode cX12_rebind 265 = .ok (.iload 7, 2) := by decide +kernel
theorem dX12_rebind_267 : decode cX12_rebind 267 = .ok (.aload_n 0, 1) := by decide +kernel
theorem dX12_rebind_268 : decode cX12_rebind 268 = .ok (.getfield 13, 3) := by decide +kernel
theorem dX12_rebind_271 : decode cX12_rebind 271 = .ok (.iload_n 3, 1) := by decide +kernel
theorem dX12_rebind_272 : decode cX12_rebind 272 = .ok (.iaload, 1) := by decide +kernel
theorem dX12_rebind_273 : decode cX12_rebind 273 = .ok (.ifCond .ne 14, 3) := by decide +kernel
theorem dX12_rebind_287 : decode cX12_rebind 287 = .ok (.aload_n 0, 1) := by decide +kernel
theorem dX12_rebind_288 : decode cX12_rebind 288 = .ok (.getfield 13, 3) := by decide +kernel
theorem dX12_rebind_291 : decode cX12_rebind 291 = .ok (.iload_n 3, 1) := by decide +kernel
theorem dX12_rebind_292 : decode cX12_rebind 292 = .ok (.iaload, 1) := by decide +kernel
theorem dX12_rebind_293 : decode cX12_rebind 293 = .ok (.iconst 2, 1) := by decide +kernel
theorem dX12_rebind_294 : decode cX12_rebind 294 = .ok (.iadd, 1) := by decide +kernel
theorem dX12_rebind_295 : decode cX12_rebind 295 = .ok (.iastore, 1) := by decide +kernel
theorem dX12_rebind_296 : decode cX12_rebind 296 = .ok (.aload_n 0, 1) := by decide +kernel
theorem dX12_rebind_297 : decode cX12_rebind 297 = .ok (.iload 7, 2) := by decide +kernel
theorem dX12_rebind_299 : decode cX12_rebind 299 = .ok (.iconst 0, 1) := by decide +kernel
theorem dX12_rebind_300 : decode cX12_rebind 300 = .ok (.aload_n 0, 1) := by decide +kernel
theorem dX12_rebind_301 : decode cX12_rebind 301 = .ok (.getfield 26, 3) := by decide +kernel
theorem dX12_rebind_304 : decode cX12_rebind 304 = .ok (.iconst 4, 1) := by decide +kernel
theorem dX12_rebind_305 : decode cX12_rebind 305 = .ok (.iload_n 3, 1) := by decide +kernel
theorem dX12_rebind_306 : decode cX12_rebind 306 = .ok (.imul, 1) := by decide +kernel
theorem dX12_rebind_307 : decode cX12_rebind 307 = .ok (.iaload, 1) := by decide +kernel
theorem dX12_rebind_308 : decode cX12_rebind 308 = .ok (.aload_n 0, 1) := by decide +kernel
theorem dX12_rebind_309 : decode cX12_rebind 309 = .ok (.getfield 29, 3) := by decide +kernel
theorem dX12_rebind_312 : decode cX12_rebind 312 = .ok (.iconst 4, 1) := by decide +kernel
theorem dX12_rebind_313 : decode cX12_rebind 313 = .ok (.iload_n 3, 1) := by decide +kernel
theorem dX12_rebind_314 : decode cX12_rebind 314 = .ok (.imul, 1) := by decide +kernel
theorem dX12_rebind_315 : decode cX12_rebind 315 = .ok (.iaload, 1) := by decide +kernel
theorem dX12_rebind_316 : decode cX12_rebind 316 = .ok (.invokevirtual 298, 3) := by decide +kernel
theorem dX12_rebind_319 : decode cX12_rebind 319 = .ok (.aload_n 0, 1) := by decide +kernel
theorem dX12_rebind_320 : decode cX12_rebind 320 = .ok (.getfield 13, 3) := by decide +kernel
theorem dX12_rebind_323 : decode cX12_rebind 323 = .ok (.iload_n 3, 1) := by decide +kernel
theorem dX12_rebind_324 : decode cX12_rebind 324 = .ok (.iaload, 1) := by decide +kernel
theorem dX12_rebind_325 : decode cX12_rebind 325 = .ok (.ifCond .eq 30, 3) := by decide +kernel
theorem dX12_rebind_328 : decode cX12_rebind 328 = .ok (.aload_n 0, 1) := by decide +kernel
theorem dX12_rebind_329 : decode cX12_rebind 329 = .ok (.iload 7, 2) := by decide +kernel
theorem dX12_rebind_331 : decode cX12_rebind 331 = .ok (.iconst 1, 1) := by decide +kernel
theorem dX12_rebind_332 : decode cX12_rebind 332 = .ok (.aload_n 0, 1) := by decide +kernel
theorem dX12_rebind_333 : decode cX12_rebind 333 = .ok (.getfield 26, 3) := by decide +kernel
theorem dX12_rebind_336 : decode cX12_rebind 336 = .ok (.iconst 4, 1) := by decide +kernel
theorem dX12_rebind_337 : decode cX12_rebind 337 = .ok (.iload_n 3, 1) := by decide +kernel
theorem dX12_rebind_338 : decode cX12_rebind 338 = .ok (.imul, 1) := by decide +kernel
theorem dX12_rebind_339 : decode cX12_rebind 339 = .ok (.iconst 1, 1) := by decide +kernel
theorem dX12_rebind_340 : decode cX12_rebind 340 = .ok (.iadd, 1) := by decide +kernel
theorem dX12_rebind_341 : decode cX12_rebind 341 = .ok (.iaload, 1) := by decide +kernel
theorem dX12_rebind_342 : decode cX12_rebind 342 = .ok (.aload_n 0, 1) := by decide +kernel
theorem dX12_rebind_343 : decode cX12_rebind 343 = .ok (.getfield 29, 3) := by decide +kernel
theorem dX12_rebind_346 : decode cX12_rebind 346 = .ok (.iconst 4, 1) := by decide +kernel
theorem dX12_rebind_347 : decode cX12_rebind 347 = .ok (.iload_n 3, 1) := by decide +kernel
theorem dX12_rebind_348 : decode cX12_rebind 348 = .ok (.imul, 1) := by decide +kernel
theorem dX12_rebind_349 : decode cX12_rebind 349 = .ok (.iconst 1, 1) := by decide +kernel
theorem dX12_rebind_350 : decode cX12_rebind 350 = .ok (.iadd, 1) := by decide +kernel
theorem dX12_rebind_351 : decode cX12_rebind 351 = .ok (.iaload, 1) := by decide +kernel
theorem dX12_rebind_352 : decode cX12_rebind 352 = .ok (.invokevirtual 298, 3) := by decide +kernel
theorem dX12_rebind_355 : decode cX12_rebind 355 = .ok (.aload_n 0, 1) := by decide +kernel
theorem dX12_rebind_356 : decode cX12_rebind 356 = .ok (.getfield 91, 3) := by decide +kernel
theorem dX12_rebind_359 : decode cX12_rebind 359 = .ok (.iload 6, 2) := by decide +kernel
theorem dX12_rebind_361 : decode cX12_rebind 361 = .ok (.iconst 0, 1) := by decide +kernel
theorem dX12_rebind_362 : decode cX12_rebind 362 = .ok (.bastore, 1) := by decide +kernel
theorem dX12_rebind_276 : decode cX12_rebind 276 = .ok (.aload_n 0, 1) := by decide +kernel
theorem dX12_rebind_277 : decode cX12_rebind 277 = .ok (.getfield 26, 3) := by decide +kernel
theorem dX12_rebind_280 : decode cX12_rebind 280 = .ok (.iconst 4, 1) := by decide +kernel
theorem dX12_rebind_281 : decode cX12_rebind 281 = .ok (.iload_n 3, 1) := by decide +kernel
theorem dX12_rebind_282 : decode cX12_rebind 282 = .ok (.imul, 1) := by decide +kernel
theorem dX12_rebind_283 : decode cX12_rebind 283 = .ok (.iaload, 1) := by decide +kernel
theorem dX12_rebind_284 : decode cX12_rebind 284 = .ok (.goto 11, 3) := by decide +kernel
theorem dX12_rebind_198 : decode cX12_rebind 198 = .ok (.aload_n 0, 1) := by decide +kernel
theorem dX12_rebind_199 : decode cX12_rebind 199 = .ok (.getfield 13, 3) := by decide +kernel
theorem dX12_rebind_202 : decode cX12_rebind 202 = .ok (.aload_n 0, 1) := by decide +kernel
theorem dX12_rebind_203 : decode cX12_rebind 203 = .ok (.iload_n 1, 1) := by decide +kernel
theorem dX12_rebind_204 : decode cX12_rebind 204 = .ok (.iload 6, 2) := by decide +kernel
theorem dX12_rebind_206 : decode cX12_rebind 206 = .ok (.invokevirtual 203, 3) := by decide +kernel
theorem dX12_rebind_209 : decode cX12_rebind 209 = .ok (.iaload, 1) := by decide +kernel
theorem dX12_rebind_210 : decode cX12_rebind 210 = .ok (.bipush 12, 2) := by decide +kernel
theorem dX12_rebind_212 : decode cX12_rebind 212 = .ok (.if_icmp .ne 157, 3) := by decide +kernel
set_option maxHeartbeats 4000000 in
set_option maxRecDepth 20000 in
theorem l_reb5 (d : Nat) {b : Nat} {σ0 : MS} {r : Int} {F : Int} {g : Int} {k0 : Int} {x0 : Int} {post : Option Value → MS → Prop} (hr : 0 ≤ r ∧ r < 6) (hR0 : RG σ0) (hit : 0 ≤ σ0.2.1 9 r ∧ σ0.2.1 9 r ≤ 220) (hx0 : x0 = 220 * r + k0 ∧ 0 ≤ k0 ∧ k0 < σ0.2.1 9 r) (hk5 : σ0.2.1 3 x0 ≤ 5) (h_g : -2147483648 ≤ g ∧ g ≤ 2147483647) (hx_369 : ∀ (i : Int) (σ : MS) , (Fr [] [6, 7, 8, 47] [] σ0 σ) → (RG σ) → (BO 47 σ) → (OKS σ F r) → (XO r σ0 σ) → Tm (d + 2) m_X12_rebind 369 b σ [(6, .int (iI i)), (3, .int (iI x0)), (4, .int (iI g)), (0, .ref b), (1, .int (iI r)), (2, .int (iI k0))] [] post) : ∀ (n : Nat) (i : Int) (σ : MS) , (Fr [] [6, 7, 8, 47] [] σ0 σ) → (RG σ) → (k0 < i ∧ i ≤ σ0.2.1 9 r) → (BO 47 σ) → (OKS σ F r) → (XO r σ0 σ) → (220 - i).toNat = n → Tm (d + 2) m_X12_rebind 170 b σ [(6, .int (iI i)), (3, .int (iI x0)), (4, .int (iI g)), (0, .ref b), (1, .int (iI r)), (2, .int (iI k0))] [] post := by
  intro n
  induction n using Nat.strongRecOn with
  | _ n ih =>
    intro i σ hF hR h0 hbo hok hxo hm
    obtain ⟨hx0, hk0, hk1⟩ := hx0
    have q9 : σ.2.1 9 r = σ0.2.1 9 r := by rw [hF.2.1 9 (by decide)]
    have q3 : σ.2.1 3 = σ0.2.1 3 := hF.2.1 3 (by decide)
    have hkx : σ.2.1 3 x0 ≤ 5 := by rw [q3]; exact hk5
    have ho := hok k0 (by omega) (by omega)
    rw [← hx0] at ho
    have ho1 := ho.1
    rw [q3] at ho1
    have ho8 := ho.2.2.2.2.2.2.2.1 0 (by decide) (by decide)
    have ho81 := ho.2.2.2.2.2.2.2.1 1 (by decide) (by decide)
    rw [Int.add_zero] at ho8
    have hra1 := RG.a hR 8 (4 * x0 + 1)
    refine tm_iload dX12_rebind_170 0 rfl ?_
    refine tm_aload_n dX12_rebind_172 rfl 3 rfl ?_
    refine tm_get (k := 9) (v := .ref (b + 1 + 7)) lay_12 dX12_rebind_173 (by decide) fl12_32 rfl ?_
    refine tm_iload_n dX12_rebind_176 rfl 4 rfl ?_
    refine tm_iald (z := r) (v := σ0.2.1 9 r) dX12_rebind_177 (show mT[7]? = some (9, 0, 13) from rfl) (by omega) (by omega) (by decide) (ra_F hF (by decide) (rfl)) ?_
    have g1 := RG.a hR0 9 (r)
    refine tm_icmp_ge (tgt := 369) dX12_rebind_178 (by decide) ⟨by omega, by omega⟩ ⟨by omega, by omega⟩ (fun h2 => ?_) (fun h2 => ?_)
    · exact tm_sub [0, 1, 2, 3, 4, 5] rfl (hx_369 (i) σ (Fr.rfl.trans (Fr.sub hF (by decide) (by decide) (by decide))) hR hbo hok hxo)
    · refine tm_aload_n dX12_rebind_181 rfl 3 rfl ?_
      refine tm_get (k := 3) (v := .ref (b + 1 + 1)) lay_12 dX12_rebind_182 (by decide) fl12_13 rfl ?_
      refine tm_aload_n dX12_rebind_185 rfl 3 rfl ?_
      refine tm_iload_n dX12_rebind_186 rfl 4 rfl ?_
      refine tm_iload dX12_rebind_187 0 rfl ?_
      refine tm_callV (M := m_X12_rebind) (pc := 189) (ix := 203) (M' := m_X12_at) (As := [.int (iI r), .int (iI i)]) (rest := [.ref (b + 1 + 1)]) dX12_rebind_189 ok_X12_at im_X12_at se_X12_at ml12_203 np_X12_at rfl rfl (Nat.le_of_ble_eq_true rfl) (Nat.le_of_ble_eq_true rfl) rfl (c_X12_at (d) (σ := σ) (x := r) (k := i) ) (fun r3 σ4 hp => ?_)
      obtain ⟨v5, rfl, rfl, f6⟩ := hp
      subst f6
      show Tm _ _ 192 b σ [(6, .int (iI i)), (3, .int (iI x0)), (4, .int (iI g)), (0, .ref b), (1, .int (iI r)), (2, .int (iI k0))] [.int (iI (220 * r + i)), .ref (b + 1 + 1)] _
      refine tm_iald (z := 220 * r + i) (v := σ0.2.1 3 (220 * r + i)) dX12_rebind_192 (show mT[1]? = some (3, 0, 2860) from rfl) (by omega) (by omega) (by decide) (ra_F hF (by decide) (rfl)) ?_
      have g7 := RG.a hR0 3 (220 * r + i)
      refine tm_bipush dX12_rebind_193 (by decide) ?_
      refine tm_icmp_eq (tgt := 215) dX12_rebind_195 (by decide) ⟨by omega, by omega⟩ ⟨by decide, by decide⟩ (fun h8 => ?_) (fun h8 => ?_)
      · refine tm_aload_n dX12_rebind_215 rfl 3 rfl ?_
        refine tm_iload_n dX12_rebind_216 rfl 4 rfl ?_
        refine tm_iload dX12_rebind_217 0 rfl ?_
        refine tm_callV (M := m_X12_rebind) (pc := 219) (ix := 203) (M' := m_X12_at) (As := [.int (iI r), .int (iI i)]) (rest := []) dX12_rebind_219 ok_X12_at im_X12_at se_X12_at ml12_203 np_X12_at rfl rfl (Nat.le_of_ble_eq_true rfl) (Nat.le_of_ble_eq_true rfl) rfl (c_X12_at (d) (σ := σ) (x := r) (k := i) ) (fun r9 σ10 hp => ?_)
        obtain ⟨v11, rfl, rfl, f12⟩ := hp
        subst f12
        show Tm _ _ 222 b σ [(6, .int (iI i)), (3, .int (iI x0)), (4, .int (iI g)), (0, .ref b), (1, .int (iI r)), (2, .int (iI k0))] [.int (iI (220 * r + i))] _
        refine tm_istore (L' := [(7, .int (iI (220 * r + i))), (6, .int (iI i)), (3, .int (iI x0)), (4, .int (iI g)), (0, .ref b), (1, .int (iI r)), (2, .int (iI k0))]) dX12_rebind_222 (by decide) rfl ?_
        refine tm_aload_n dX12_rebind_224 rfl 4 rfl ?_
        refine tm_get (k := 3) (v := .ref (b + 1 + 1)) lay_12 dX12_rebind_225 (by decide) fl12_13 rfl ?_
        refine tm_iload dX12_rebind_228 0 rfl ?_
        refine tm_iald (z := 220 * r + i) (v := σ0.2.1 3 (220 * r + i)) dX12_rebind_230 (show mT[1]? = some (3, 0, 2860) from rfl) (by omega) (by omega) (by decide) (ra_F hF (by decide) (rfl)) ?_
        have g13 := RG.a hR0 3 (220 * r + i)
        refine tm_bipush dX12_rebind_231 (by decide) ?_
        refine tm_icmp_ne (tgt := 363) dX12_rebind_233 (by decide) ⟨by omega, by omega⟩ ⟨by decide, by decide⟩ (fun h14 => ?_) (fun h14 => ?_)
        · refine tm_iinc (q0 := 1) (L' := [(6, .int (iI (i + 1))), (7, .int (iI (220 * r + i))), (3, .int (iI x0)), (4, .int (iI g)), (0, .ref b), (1, .int (iI r)), (2, .int (iI k0))]) dX12_rebind_363 rfl (by decide) rfl ?_
          refine tm_goto (tgt := 170) dX12_rebind_366 (by decide) ?_
          exact tm_sub [0, 2, 3, 4, 5, 6] rfl (ih _ (by omega) (i + 1) σ (Fr.rfl.trans (Fr.sub hF (by decide) (by decide) (by decide))) hR (by omega) hbo hok hxo rfl)
        · refine tm_aload_n dX12_rebind_236 rfl 4 rfl ?_
          refine tm_get (k := 6) (v := .ref (b + 1 + 4)) lay_12 dX12_rebind_237 (by decide) fl12_23 rfl ?_
          refine tm_iload dX12_rebind_240 0 rfl ?_
          refine tm_iald (z := 220 * r + i) (v := σ.2.1 6 (220 * r + i)) dX12_rebind_242 (show mT[4]? = some (6, 0, 2860) from rfl) (by omega) (by omega) (by decide) (rfl) ?_
          have g15 := RG.a hR 6 (220 * r + i)
          refine tm_iconst dX12_rebind_243 ?_
          refine tm_icmp_ne (tgt := 363) dX12_rebind_244 (by decide) ⟨by omega, by omega⟩ ⟨by decide, by decide⟩ (fun h16 => ?_) (fun h16 => ?_)
          · refine tm_iinc (q0 := 1) (L' := [(6, .int (iI (i + 1))), (7, .int (iI (220 * r + i))), (3, .int (iI x0)), (4, .int (iI g)), (0, .ref b), (1, .int (iI r)), (2, .int (iI k0))]) dX12_rebind_363 rfl (by decide) rfl ?_
            refine tm_goto (tgt := 170) dX12_rebind_366 (by decide) ?_
            exact tm_sub [0, 2, 3, 4, 5, 6] rfl (ih _ (by omega) (i + 1) σ (Fr.rfl.trans (Fr.sub hF (by decide) (by decide) (by decide))) hR (by omega) hbo hok hxo rfl)
          · refine tm_aload_n dX12_rebind_247 rfl 4 rfl ?_
            refine tm_get (k := 8) (v := .ref (b + 1 + 6)) lay_12 dX12_rebind_248 (by decide) fl12_29 rfl ?_
            refine tm_iconst dX12_rebind_251 ?_
            refine tm_iload dX12_rebind_252 0 rfl ?_
            refine tm_imul dX12_rebind_254 ?_
            refine tm_iald (z := 4 * (220 * r + i)) (v := σ.2.1 8 (4 * (220 * r + i))) dX12_rebind_255 (show mT[6]? = some (8, 0, 11440) from rfl) (by omega) (by omega) (by decide) (rfl) ?_
            have g17 := RG.a hR 8 (4 * (220 * r + i))
            refine tm_iload dX12_rebind_256 3 rfl ?_
            refine tm_icmp_ne (tgt := 363) dX12_rebind_258 (by decide) ⟨by omega, by omega⟩ ⟨by omega, by omega⟩ (fun h18 => ?_) (fun h18 => ?_)
            · refine tm_iinc (q0 := 1) (L' := [(6, .int (iI (i + 1))), (7, .int (iI (220 * r + i))), (3, .int (iI x0)), (4, .int (iI g)), (0, .ref b), (1, .int (iI r)), (2, .int (iI k0))]) dX12_rebind_363 rfl (by decide) rfl ?_
              refine tm_goto (tgt := 170) dX12_rebind_366 (by decide) ?_
              exact tm_sub [0, 2, 3, 4, 5, 6] rfl (ih _ (by omega) (i + 1) σ (Fr.rfl.trans (Fr.sub hF (by decide) (by decide) (by decide))) hR (by omega) hbo hok hxo rfl)
            · refine tm_aload_n dX12_rebind_261 rfl 4 rfl ?_
              refine tm_get (k := 6) (v := .ref (b + 1 + 4)) lay_12 dX12_rebind_262 (by decide) fl12_23 rfl ?_
              refine tm_iload dX12_rebind_265 0 rfl ?_
              refine tm_aload_n dX12_rebind_267 rfl 4 rfl ?_
              refine tm_get (k := 3) (v := .ref (b + 1 + 1)) lay_12 dX12_rebind_268 (by decide) fl12_13 rfl ?_
              refine tm_iload_n dX12_rebind_271 rfl 2 rfl ?_
              refine tm_iald (z := x0) (v := σ0.2.1 3 x0) dX12_rebind_272 (show mT[1]? = some (3, 0, 2860) from rfl) (by omega) (by omega) (by decide) (ra_F hF (by decide) (rfl)) ?_
              have g19 := RG.a hR0 3 (x0)
              refine tm_if_ne (tgt := 287) dX12_rebind_273 (by decide) ⟨by omega, by omega⟩ (fun h20 => ?_) (fun h20 => ?_)
              · refine tm_aload_n dX12_rebind_287 rfl 4 rfl ?_
                refine tm_get (k := 3) (v := .ref (b + 1 + 1)) lay_12 dX12_rebind_288 (by decide) fl12_13 rfl ?_
                refine tm_iload_n dX12_rebind_291 rfl 2 rfl ?_
                refine tm_iald (z := x0) (v := σ0.2.1 3 x0) dX12_rebind_292 (show mT[1]? = some (3, 0, 2860) from rfl) (by omega) (by omega) (by decide) (ra_F hF (by decide) (rfl)) ?_
                have g21 := RG.a hR0 3 (x0)
                refine tm_iconst dX12_rebind_293 ?_
                refine tm_iadd dX12_rebind_294 ?_
                refine tm_iast (z := 220 * r + i) (v := (σ0.2.1 3 x0) + 2) dX12_rebind_295 (show mT[4]? = some (6, 0, 2860) from rfl) (by omega) (by omega) (by decide) ?_
                refine tm_aload_n dX12_rebind_296 rfl 4 rfl ?_
                refine tm_iload dX12_rebind_297 0 rfl ?_
                refine tm_iconst dX12_rebind_299 ?_
                refine tm_aload_n dX12_rebind_300 rfl 4 rfl ?_
                refine tm_get (k := 7) (v := .ref (b + 1 + 5)) lay_12 dX12_rebind_301 (by decide) fl12_26 rfl ?_
                refine tm_iconst dX12_rebind_304 ?_
                refine tm_iload_n dX12_rebind_305 rfl 2 rfl ?_
                refine tm_imul dX12_rebind_306 ?_
                refine tm_iald (z := 4 * x0) (v := σ.2.1 7 (4 * x0)) dX12_rebind_307 (show mT[5]? = some (7, 0, 11440) from rfl) (by omega) (by omega) (by decide) (ra_o (by decide) (rfl)) ?_
                have g22 := RG.a hR 7 (4 * x0)
                refine tm_aload_n dX12_rebind_308 rfl 4 rfl ?_
                refine tm_get (k := 8) (v := .ref (b + 1 + 6)) lay_12 dX12_rebind_309 (by decide) fl12_29 rfl ?_
                refine tm_iconst dX12_rebind_312 ?_
                refine tm_iload_n dX12_rebind_313 rfl 2 rfl ?_
                refine tm_imul dX12_rebind_314 ?_
                refine tm_iald (z := 4 * x0) (v := σ.2.1 8 (4 * x0)) dX12_rebind_315 (show mT[6]? = some (8, 0, 11440) from rfl) (by omega) (by omega) (by decide) (ra_o (by decide) (rfl)) ?_
                have g23 := RG.a hR 8 (4 * x0)
                refine tm_callV (M := m_X12_rebind) (pc := 316) (ix := 298) (M' := m_X12_setArg) (As := [.int (iI (220 * r + i)), .int (iI 0), .int (iI (σ.2.1 7 (4 * x0))), .int (iI (σ.2.1 8 (4 * x0)))]) (rest := []) dX12_rebind_316 ok_X12_setArg im_X12_setArg se_X12_setArg ml12_298 np_X12_setArg rfl rfl (Nat.le_of_ble_eq_true rfl) (Nat.le_of_ble_eq_true rfl) rfl (c_X12_setArg (d) (σ := (sA 6 (220 * r + i) ((σ0.2.1 3 x0) + 2) σ)) (x := 220 * r + i) (i := 0) (k := σ.2.1 7 (4 * x0)) (w := σ.2.1 8 (4 * x0)) (by omega)) (fun r24 σ25 hp => ?_)
                obtain ⟨rfl, f27⟩ := hp
                subst f27
                show Tm _ _ 319 b (fArg (220 * r + i) (0) (σ.2.1 7 (4 * x0)) (σ.2.1 8 (4 * x0)) (sA 6 (220 * r + i) ((σ0.2.1 3 x0) + 2) σ)) [(7, .int (iI (220 * r + i))), (6, .int (iI i)), (3, .int (iI x0)), (4, .int (iI g)), (0, .ref b), (1, .int (iI r)), (2, .int (iI k0))] [] _
                refine tm_aload_n dX12_rebind_319 rfl 4 rfl ?_
                refine tm_get (k := 3) (v := .ref (b + 1 + 1)) lay_12 dX12_rebind_320 (by decide) fl12_13 rfl ?_
                refine tm_iload_n dX12_rebind_323 rfl 2 rfl ?_
                refine tm_iald (z := x0) (v := σ0.2.1 3 x0) dX12_rebind_324 (show mT[1]? = some (3, 0, 2860) from rfl) (by omega) (by omega) (by decide) (ra_F fArg_fr (by decide) (ra_o (by decide) (ra_F hF (by decide) (rfl)))) ?_
                have g28 := RG.a hR0 3 (x0)
                refine tm_if_eq (tgt := 355) dX12_rebind_325 (by decide) ⟨by omega, by omega⟩ (fun h29 => ?_) (fun h29 => ?_)
                · exact absurd h29 (by omega)
                · refine tm_aload_n dX12_rebind_328 rfl 4 rfl ?_
                  refine tm_iload dX12_rebind_329 0 rfl ?_
                  refine tm_iconst dX12_rebind_331 ?_
                  refine tm_aload_n dX12_rebind_332 rfl 4 rfl ?_
                  refine tm_get (k := 7) (v := .ref (b + 1 + 5)) lay_12 dX12_rebind_333 (by decide) fl12_26 rfl ?_
                  refine tm_iconst dX12_rebind_336 ?_
                  refine tm_iload_n dX12_rebind_337 rfl 2 rfl ?_
                  refine tm_imul dX12_rebind_338 ?_
                  refine tm_iconst dX12_rebind_339 ?_
                  refine tm_iadd dX12_rebind_340 ?_
                  refine tm_iald (z := (4 * x0) + 1) (v := (fArg (220 * r + i) (0) (σ.2.1 7 (4 * x0)) (σ.2.1 8 (4 * x0)) (sA 6 (220 * r + i) ((σ0.2.1 3 x0) + 2) σ)).2.1 7 ((4 * x0) + 1)) dX12_rebind_341 (show mT[5]? = some (7, 0, 11440) from rfl) (by omega) (by omega) (by decide) (rfl) ?_
                  have : (fArg (220 * r + i) (0) (σ.2.1 7 (4 * x0)) (σ.2.1 8 (4 * x0)) (sA 6 (220 * r + i) ((σ0.2.1 3 x0) + 2) σ)).2.1 7 ((4 * x0) + 1) = σ.2.1 7 ((4 * x0) + 1) := ra_o (by decide) (ra_ne (by omega) (ra_o (by decide) rfl))
                  refine tm_aload_n dX12_rebind_342 rfl 4 rfl ?_
                  refine tm_get (k := 8) (v := .ref (b + 1 + 6)) lay_12 dX12_rebind_343 (by decide) fl12_29 rfl ?_
                  refine tm_iconst dX12_rebind_346 ?_
                  refine tm_iload_n dX12_rebind_347 rfl 2 rfl ?_
                  refine tm_imul dX12_rebind_348 ?_
                  refine tm_iconst dX12_rebind_349 ?_
                  refine tm_iadd dX12_rebind_350 ?_
                  refine tm_iald (z := (4 * x0) + 1) (v := (fArg (220 * r + i) (0) (σ.2.1 7 (4 * x0)) (σ.2.1 8 (4 * x0)) (sA 6 (220 * r + i) ((σ0.2.1 3 x0) + 2) σ)).2.1 8 ((4 * x0) + 1)) dX12_rebind_351 (show mT[6]? = some (8, 0, 11440) from rfl) (by omega) (by omega) (by decide) (rfl) ?_
                  have : (fArg (220 * r + i) (0) (σ.2.1 7 (4 * x0)) (σ.2.1 8 (4 * x0)) (sA 6 (220 * r + i) ((σ0.2.1 3 x0) + 2) σ)).2.1 8 ((4 * x0) + 1) = σ.2.1 8 ((4 * x0) + 1) := ra_ne (by omega) (ra_o (by decide) (ra_o (by decide) rfl))
                  refine tm_callV (M := m_X12_rebind) (pc := 352) (ix := 298) (M' := m_X12_setArg) (As := [.int (iI (220 * r + i)), .int (iI 1), .int (iI ((fArg (220 * r + i) (0) (σ.2.1 7 (4 * x0)) (σ.2.1 8 (4 * x0)) (sA 6 (220 * r + i) ((σ0.2.1 3 x0) + 2) σ)).2.1 7 ((4 * x0) + 1))), .int (iI ((fArg (220 * r + i) (0) (σ.2.1 7 (4 * x0)) (σ.2.1 8 (4 * x0)) (sA 6 (220 * r + i) ((σ0.2.1 3 x0) + 2) σ)).2.1 8 ((4 * x0) + 1)))]) (rest := []) dX12_rebind_352 ok_X12_setArg im_X12_setArg se_X12_setArg ml12_298 np_X12_setArg rfl rfl (Nat.le_of_ble_eq_true rfl) (Nat.le_of_ble_eq_true rfl) rfl (c_X12_setArg (d) (σ := (fArg (220 * r + i) (0) (σ.2.1 7 (4 * x0)) (σ.2.1 8 (4 * x0)) (sA 6 (220 * r + i) ((σ0.2.1 3 x0) + 2) σ))) (x := 220 * r + i) (i := 1) (k := (fArg (220 * r + i) (0) (σ.2.1 7 (4 * x0)) (σ.2.1 8 (4 * x0)) (sA 6 (220 * r + i) ((σ0.2.1 3 x0) + 2) σ)).2.1 7 ((4 * x0) + 1)) (w := (fArg (220 * r + i) (0) (σ.2.1 7 (4 * x0)) (σ.2.1 8 (4 * x0)) (sA 6 (220 * r + i) ((σ0.2.1 3 x0) + 2) σ)).2.1 8 ((4 * x0) + 1)) (by omega)) (fun r30 σ31 hp => ?_)
                  obtain ⟨rfl, f33⟩ := hp
                  subst f33
                  show Tm _ _ 355 b (fArg (220 * r + i) (1) ((fArg (220 * r + i) (0) (σ.2.1 7 (4 * x0)) (σ.2.1 8 (4 * x0)) (sA 6 (220 * r + i) ((σ0.2.1 3 x0) + 2) σ)).2.1 7 ((4 * x0) + 1)) ((fArg (220 * r + i) (0) (σ.2.1 7 (4 * x0)) (σ.2.1 8 (4 * x0)) (sA 6 (220 * r + i) ((σ0.2.1 3 x0) + 2) σ)).2.1 8 ((4 * x0) + 1)) (fArg (220 * r + i) (0) (σ.2.1 7 (4 * x0)) (σ.2.1 8 (4 * x0)) (sA 6 (220 * r + i) ((σ0.2.1 3 x0) + 2) σ))) [(7, .int (iI (220 * r + i))), (6, .int (iI i)), (3, .int (iI x0)), (4, .int (iI g)), (0, .ref b), (1, .int (iI r)), (2, .int (iI k0))] [] _
                  refine tm_aload_n dX12_rebind_355 rfl 4 rfl ?_
                  refine tm_get (k := 47) (v := .ref (b + 1 + 25)) lay_12 dX12_rebind_356 (by decide) fl12_91 rfl ?_
                  refine tm_iload dX12_rebind_359 1 rfl ?_
                  refine tm_iconst dX12_rebind_361 ?_
                  refine tm_zast (z := i) (v := 0) dX12_rebind_362 (show mT[25]? = some (47, 2, 221) from rfl) (by omega) (by omega) (by decide) (by omega) ?_
                  refine tm_iinc (q0 := 1) (L' := [(6, .int (iI (i + 1))), (7, .int (iI (220 * r + i))), (3, .int (iI x0)), (4, .int (iI g)), (0, .ref b), (1, .int (iI r)), (2, .int (iI k0))]) dX12_rebind_363 rfl (by decide) rfl ?_
                  refine tm_goto (tgt := 170) dX12_rebind_366 (by decide) ?_
                  exact tm_sub [0, 2, 3, 4, 5, 6] rfl (ih _ (by omega) (i + 1) (sA 47 (i) (0) (fArg (220 * r + i) (1) ((fArg (220 * r + i) (0) (σ.2.1 7 (4 * x0)) (σ.2.1 8 (4 * x0)) (sA 6 (220 * r + i) ((σ0.2.1 3 x0) + 2) σ)).2.1 7 ((4 * x0) + 1)) ((fArg (220 * r + i) (0) (σ.2.1 7 (4 * x0)) (σ.2.1 8 (4 * x0)) (sA 6 (220 * r + i) ((σ0.2.1 3 x0) + 2) σ)).2.1 8 ((4 * x0) + 1)) (fArg (220 * r + i) (0) (σ.2.1 7 (4 * x0)) (σ.2.1 8 (4 * x0)) (sA 6 (220 * r + i) ((σ0.2.1 3 x0) + 2) σ)))) (((((Fr.rfl.trans (Fr.sub hF (by decide) (by decide) (by decide))).A (by decide)).trans (Fr.sub fArg_fr (by decide) (by decide) (by decide))).trans (Fr.sub fArg_fr (by decide) (by decide) (by decide))).A (by decide)) ((((hR.A (by omega)).arg (by omega) (by omega)).arg (by omega) (by omega)).A (by omega)) (by omega) (BO.A (hbo.fr (show Fr [] [6, 7, 8] [] σ _ from (((Fr.rfl.A (by decide)).trans (Fr.sub fArg_fr (by decide) (by decide) (by decide))).trans (Fr.sub fArg_fr (by decide) (by decide) (by decide)))) (by decide)) (by omega)) (OKS.fr (takB_off.oks hok (oki_takB (hok i (by omega) (by omega)) (by rw [q3]; omega) (by omega) (by omega) (by omega) (by omega) (by omega) (by omega))) ((Fr.rfl (ss := []) (ks := [47]) (js := [])).A (by decide)) (by decide)) ((hxo.trans (takB_off.xo (by omega) (by omega))).trans (XO.fr ((Fr.rfl (ss := []) (ks := [47]) (js := [])).A (by decide)) (by decide))) rfl)
              · refine tm_aload_n dX12_rebind_276 rfl 4 rfl ?_
                refine tm_get (k := 7) (v := .ref (b + 1 + 5)) lay_12 dX12_rebind_277 (by decide) fl12_26 rfl ?_
                refine tm_iconst dX12_rebind_280 ?_
                refine tm_iload_n dX12_rebind_281 rfl 2 rfl ?_
                refine tm_imul dX12_rebind_282 ?_
                refine tm_iald (z := 4 * x0) (v := σ.2.1 7 (4 * x0)) dX12_rebind_283 (show mT[5]? = some (7, 0, 11440) from rfl) (by omega) (by omega) (by decide) (rfl) ?_
                have g34 := RG.a hR 7 (4 * x0)
                refine tm_goto (tgt := 295) dX12_rebind_284 (by decide) ?_
                refine tm_iast (z := 220 * r + i) (v := σ.2.1 7 (4 * x0)) dX12_rebind_295 (show mT[4]? = some (6, 0, 2860) from rfl) (by omega) (by omega) (by decide) ?_
                refine tm_aload_n dX12_rebind_296 rfl 4 rfl ?_
                refine tm_iload dX12_rebind_297 0 rfl ?_
                refine tm_iconst dX12_rebind_299 ?_
                refine tm_aload_n dX12_rebind_300 rfl 4 rfl ?_
                refine tm_get (k := 7) (v := .ref (b + 1 + 5)) lay_12 dX12_rebind_301 (by decide) fl12_26 rfl ?_
                refine tm_iconst dX12_rebind_304 ?_
                refine tm_iload_n dX12_rebind_305 rfl 2 rfl ?_
                refine tm_imul dX12_rebind_306 ?_
                refine tm_iald (z := 4 * x0) (v := σ.2.1 7 (4 * x0)) dX12_rebind_307 (show mT[5]? = some (7, 0, 11440) from rfl) (by omega) (by omega) (by decide) (ra_o (by decide) (rfl)) ?_
                have g35 := RG.a hR 7 (4 * x0)
                refine tm_aload_n dX12_rebind_308 rfl 4 rfl ?_
                refine tm_get (k := 8) (v := .ref (b + 1 + 6)) lay_12 dX12_rebind_309 (by decide) fl12_29 rfl ?_
                refine tm_iconst dX12_rebind_312 ?_
                refine tm_iload_n dX12_rebind_313 rfl 2 rfl ?_
                refine tm_imul dX12_rebind_314 ?_
                refine tm_iald (z := 4 * x0) (v := σ.2.1 8 (4 * x0)) dX12_rebind_315 (show mT[6]? = some (8, 0, 11440) from rfl) (by omega) (by omega) (by decide) (ra_o (by decide) (rfl)) ?_
                have g36 := RG.a hR 8 (4 * x0)
                refine tm_callV (M := m_X12_rebind) (pc := 316) (ix := 298) (M' := m_X12_setArg) (As := [.int (iI (220 * r + i)), .int (iI 0), .int (iI (σ.2.1 7 (4 * x0))), .int (iI (σ.2.1 8 (4 * x0)))]) (rest := []) dX12_rebind_316 ok_X12_setArg im_X12_setArg se_X12_setArg ml12_298 np_X12_setArg rfl rfl (Nat.le_of_ble_eq_true rfl) (Nat.le_of_ble_eq_true rfl) rfl (c_X12_setArg (d) (σ := (sA 6 (220 * r + i) (σ.2.1 7 (4 * x0)) σ)) (x := 220 * r + i) (i := 0) (k := σ.2.1 7 (4 * x0)) (w := σ.2.1 8 (4 * x0)) (by omega)) (fun r37 σ38 hp => ?_)
                obtain ⟨rfl, f40⟩ := hp
                subst f40
                show Tm _ _ 319 b (fArg (220 * r + i) (0) (σ.2.1 7 (4 * x0)) (σ.2.1 8 (4 * x0)) (sA 6 (220 * r + i) (σ.2.1 7 (4 * x0)) σ)) [(7, .int (iI (220 * r + i))), (6, .int (iI i)), (3, .int (iI x0)), (4, .int (iI g)), (0, .ref b), (1, .int (iI r)), (2, .int (iI k0))] [] _
                refine tm_aload_n dX12_rebind_319 rfl 4 rfl ?_
                refine tm_get (k := 3) (v := .ref (b + 1 + 1)) lay_12 dX12_rebind_320 (by decide) fl12_13 rfl ?_
                refine tm_iload_n dX12_rebind_323 rfl 2 rfl ?_
                refine tm_iald (z := x0) (v := σ0.2.1 3 x0) dX12_rebind_324 (show mT[1]? = some (3, 0, 2860) from rfl) (by omega) (by omega) (by decide) (ra_F fArg_fr (by decide) (ra_o (by decide) (ra_F hF (by decide) (rfl)))) ?_
                have g41 := RG.a hR0 3 (x0)
                refine tm_if_eq (tgt := 355) dX12_rebind_325 (by decide) ⟨by omega, by omega⟩ (fun h42 => ?_) (fun h42 => ?_)
                · refine tm_aload_n dX12_rebind_355 rfl 4 rfl ?_
                  refine tm_get (k := 47) (v := .ref (b + 1 + 25)) lay_12 dX12_rebind_356 (by decide) fl12_91 rfl ?_
                  refine tm_iload dX12_rebind_359 1 rfl ?_
                  refine tm_iconst dX12_rebind_361 ?_
                  refine tm_zast (z := i) (v := 0) dX12_rebind_362 (show mT[25]? = some (47, 2, 221) from rfl) (by omega) (by omega) (by decide) (by omega) ?_
                  refine tm_iinc (q0 := 1) (L' := [(6, .int (iI (i + 1))), (7, .int (iI (220 * r + i))), (3, .int (iI x0)), (4, .int (iI g)), (0, .ref b), (1, .int (iI r)), (2, .int (iI k0))]) dX12_rebind_363 rfl (by decide) rfl ?_
                  refine tm_goto (tgt := 170) dX12_rebind_366 (by decide) ?_
                  exact tm_sub [0, 2, 3, 4, 5, 6] rfl (ih _ (by omega) (i + 1) (sA 47 (i) (0) (fArg (220 * r + i) (0) (σ.2.1 7 (4 * x0)) (σ.2.1 8 (4 * x0)) (sA 6 (220 * r + i) (σ.2.1 7 (4 * x0)) σ))) ((((Fr.rfl.trans (Fr.sub hF (by decide) (by decide) (by decide))).A (by decide)).trans (Fr.sub fArg_fr (by decide) (by decide) (by decide))).A (by decide)) (((hR.A (by omega)).arg (by omega) (by omega)).A (by omega)) (by omega) (BO.A (hbo.fr (show Fr [] [6, 7, 8] [] σ _ from ((Fr.rfl.A (by decide)).trans (Fr.sub fArg_fr (by decide) (by decide) (by decide)))) (by decide)) (by omega)) (OKS.fr (takA_off.oks hok (oki_takA (hok i (by omega) (by omega)) (by rw [q3]; omega) (by omega) (by omega) (by omega))) ((Fr.rfl (ss := []) (ks := [47]) (js := [])).A (by decide)) (by decide)) ((hxo.trans (takA_off.xo (by omega) (by omega))).trans (XO.fr ((Fr.rfl (ss := []) (ks := [47]) (js := [])).A (by decide)) (by decide))) rfl)
                · exact absurd h42 (by omega)
      · refine tm_aload_n dX12_rebind_198 rfl 3 rfl ?_
        refine tm_get (k := 3) (v := .ref (b + 1 + 1)) lay_12 dX12_rebind_199 (by decide) fl12_13 rfl ?_
        refine tm_aload_n dX12_rebind_202 rfl 3 rfl ?_
        refine tm_iload_n dX12_rebind_203 rfl 4 rfl ?_
        refine tm_iload dX12_rebind_204 0 rfl ?_
        refine tm_callV (M := m_X12_rebind) (pc := 206) (ix := 203) (M' := m_X12_at) (As := [.int (iI r), .int (iI i)]) (rest := [.ref (b + 1 + 1)]) dX12_rebind_206 ok_X12_at im_X12_at se_X12_at ml12_203 np_X12_at rfl rfl (Nat.le_of_ble_eq_true rfl) (Nat.le_of_ble_eq_true rfl) rfl (c_X12_at (d) (σ := σ) (x := r) (k := i) ) (fun r43 σ44 hp => ?_)
        obtain ⟨v45, rfl, rfl, f46⟩ := hp
        subst f46
        show Tm _ _ 209 b σ [(6, .int (iI i)), (3, .int (iI x0)), (4, .int (iI g)), (0, .ref b), (1, .int (iI r)), (2, .int (iI k0))] [.int (iI (220 * r + i)), .ref (b + 1 + 1)] _
        refine tm_iald (z := 220 * r + i) (v := σ0.2.1 3 (220 * r + i)) dX12_rebind_209 (show mT[1]? = some (3, 0, 2860) from rfl) (by omega) (by omega) (by decide) (ra_F hF (by decide) (rfl)) ?_
        have g47 := RG.a hR0 3 (220 * r + i)
        refine tm_bipush dX12_rebind_210 (by decide) ?_
        refine tm_icmp_ne (tgt := 369) dX12_rebind_212 (by decide) ⟨by omega, by omega⟩ ⟨by decide, by decide⟩ (fun h48 => ?_) (fun h48 => ?_)
        · exact tm_sub [0, 1, 2, 3, 4, 5] rfl (hx_369 (i) σ (Fr.rfl.trans (Fr.sub hF (by decide) (by decide) (by decide))) hR hbo hok hxo)
        · refine tm_aload_n dX12_rebind_215 rfl 3 rfl ?_
          refine tm_iload_n dX12_rebind_216 rfl 4 rfl ?_
          refine tm_iload dX12_rebind_217 0 rfl ?_
          refine tm_callV (M := m_X12_rebind) (pc := 219) (ix := 203) (M' := m_X12_at) (As := [.int (iI r), .int (iI i)]) (rest := []) dX12_rebind_219 ok_X12_at im_X12_at se_X12_at ml12_203 np_X12_at rfl rfl (Nat.le_of_ble_eq_true rfl) (Nat.le_of_ble_eq_true rfl) rfl (c_X12_at (d) (σ := σ) (x := r) (k := i) ) (fun r49 σ50 hp => ?_)
          obtain ⟨v51, rfl, rfl, f52⟩ := hp
          subst f52
          show Tm _ _ 222 b σ [(6, .int (iI i)), (3, .int (iI x0)), (4, .int (iI g)), (0, .ref b), (1, .int (iI r)), (2, .int (iI k0))] [.int (iI (220 * r + i))] _
          refine tm_istore (L' := [(7, .int (iI (220 * r + i))), (6, .int (iI i)), (3, .int (iI x0)), (4, .int (iI g)), (0, .ref b), (1, .int (iI r)), (2, .int (iI k0))]) dX12_rebind_222 (by decide) rfl ?_
          refine tm_aload_n dX12_rebind_224 rfl 4 rfl ?_
          refine tm_get (k := 3) (v := .ref (b + 1 + 1)) lay_12 dX12_rebind_225 (by decide) fl12_13 rfl ?_
          refine tm_iload dX12_rebind_228 0 rfl ?_
          refine tm_iald (z := 220 * r + i) (v := σ0.2.1 3 (220 * r + i)) dX12_rebind_230 (show mT[1]? = some (3, 0, 2860) from rfl) (by omega) (by omega) (by decide) (ra_F hF (by decide) (rfl)) ?_
          have g53 := RG.a hR0 3 (220 * r + i)
          refine tm_bipush dX12_rebind_231 (by decide) ?_
          refine tm_icmp_ne (tgt := 363) dX12_rebind_233 (by decide) ⟨by omega, by omega⟩ ⟨by decide, by decide⟩ (fun h54 => ?_) (fun h54 => ?_)
          · exact absurd h54 (by omega)
          · refine tm_aload_n dX12_rebind_236 rfl 4 rfl ?_
            refine tm_get (k := 6) (v := .ref (b + 1 + 4)) lay_12 dX12_rebind_237 (by decide) fl12_23 rfl ?_
            refine tm_iload dX12_rebind_240 0 rfl ?_
            refine tm_iald (z := 220 * r + i) (v := σ.2.1 6 (220 * r + i)) dX12_rebind_242 (show mT[4]? = some (6, 0, 2860) from rfl) (by omega) (by omega) (by decide) (rfl) ?_
            have g55 := RG.a hR 6 (220 * r + i)
            refine tm_iconst dX12_rebind_243 ?_
            refine tm_icmp_ne (tgt := 363) dX12_rebind_244 (by decide) ⟨by omega, by omega⟩ ⟨by decide, by decide⟩ (fun h56 => ?_) (fun h56 => ?_)
            · refine tm_iinc (q0 := 1) (L' := [(6, .int (iI (i + 1))), (7, .int (iI (220 * r + i))), (3, .int (iI x0)), (4, .int (iI g)), (0, .ref b), (1, .int (iI r)), (2, .int (iI k0))]) dX12_rebind_363 rfl (by decide) rfl ?_
              refine tm_goto (tgt := 170) dX12_rebind_366 (by decide) ?_
              exact tm_sub [0, 2, 3, 4, 5, 6] rfl (ih _ (by omega) (i + 1) σ (Fr.rfl.trans (Fr.sub hF (by decide) (by decide) (by decide))) hR (by omega) hbo hok hxo rfl)
            · refine tm_aload_n dX12_rebind_247 rfl 4 rfl ?_
              refine tm_get (k := 8) (v := .ref (b + 1 + 6)) lay_12 dX12_rebind_248 (by decide) fl12_29 rfl ?_
              refine tm_iconst dX12_rebind_251 ?_
              refine tm_iload dX12_rebind_252 0 rfl ?_
              refine tm_imul dX12_rebind_254 ?_
              refine tm_iald (z := 4 * (220 * r + i)) (v := σ.2.1 8 (4 * (220 * r + i))) dX12_rebind_255 (show mT[6]? = some (8, 0, 11440) from rfl) (by omega) (by omega) (by decide) (rfl) ?_
              have g57 := RG.a hR 8 (4 * (220 * r + i))
              refine tm_iload dX12_rebind_256 3 rfl ?_
              refine tm_icmp_ne (tgt := 363) dX12_rebind_258 (by decide) ⟨by omega, by omega⟩ ⟨by omega, by omega⟩ (fun h58 => ?_) (fun h58 => ?_)
              · refine tm_iinc (q0 := 1) (L' := [(6, .int (iI (i + 1))), (7, .int (iI (220 * r + i))), (3, .int (iI x0)), (4, .int (iI g)), (0, .ref b), (1, .int (iI r)), (2, .int (iI k0))]) dX12_rebind_363 rfl (by decide) rfl ?_
                refine tm_goto (tgt := 170) dX12_rebind_366 (by decide) ?_
                exact tm_sub [0, 2, 3, 4, 5, 6] rfl (ih _ (by omega) (i + 1) σ (Fr.rfl.trans (Fr.sub hF (by decide) (by decide) (by decide))) hR (by omega) hbo hok hxo rfl)
              · refine tm_aload_n dX12_rebind_261 rfl 4 rfl ?_
                refine tm_get (k := 6) (v := .ref (b + 1 + 4)) lay_12 dX12_rebind_262 (by decide) fl12_23 rfl ?_
                refine tm_iload dX12_rebind_265 0 rfl ?_
                refine tm_aload_n dX12_rebind_267 rfl 4 rfl ?_
                refine tm_get (k := 3) (v := .ref (b + 1 + 1)) lay_12 dX12_rebind_268 (by decide) fl12_13 rfl ?_
                refine tm_iload_n dX12_rebind_271 rfl 2 rfl ?_
                refine tm_iald (z := x0) (v := σ0.2.1 3 x0) dX12_rebind_272 (show mT[1]? = some (3, 0, 2860) from rfl) (by omega) (by omega) (by decide) (ra_F hF (by decide) (rfl)) ?_
                have g59 := RG.a hR0 3 (x0)
                refine tm_if_ne (tgt := 287) dX12_rebind_273 (by decide) ⟨by omega, by omega⟩ (fun h60 => ?_) (fun h60 => ?_)
                · refine tm_aload_n dX12_rebind_287 rfl 4 rfl ?_
                  refine tm_get (k := 3) (v := .ref (b + 1 + 1)) lay_12 dX12_rebind_288 (by decide) fl12_13 rfl ?_
                  refine tm_iload_n dX12_rebind_291 rfl 2 rfl ?_
                  refine tm_iald (z := x0) (v := σ0.2.1 3 x0) dX12_rebind_292 (show mT[1]? = some (3, 0, 2860) from rfl) (by omega) (by omega) (by decide) (ra_F hF (by decide) (rfl)) ?_
                  have g61 := RG.a hR0 3 (x0)
                  refine tm_iconst dX12_rebind_293 ?_
                  refine tm_iadd dX12_rebind_294 ?_
                  refine tm_iast (z := 220 * r + i) (v := (σ0.2.1 3 x0) + 2) dX12_rebind_295 (show mT[4]? = some (6, 0, 2860) from rfl) (by omega) (by omega) (by decide) ?_
                  refine tm_aload_n dX12_rebind_296 rfl 4 rfl ?_
                  refine tm_iload dX12_rebind_297 0 rfl ?_
                  refine tm_iconst dX12_rebind_299 ?_
                  refine tm_aload_n dX12_rebind_300 rfl 4 rfl ?_
                  refine tm_get (k := 7) (v := .ref (b + 1 + 5)) lay_12 dX12_rebind_301 (by decide) fl12_26 rfl ?_
                  refine tm_iconst dX12_rebind_304 ?_
                  refine tm_iload_n dX12_rebind_305 rfl 2 rfl ?_
                  refine tm_imul dX12_rebind_306 ?_
                  refine tm_iald (z := 4 * x0) (v := σ.2.1 7 (4 * x0)) dX12_rebind_307 (show mT[5]? = some (7, 0, 11440) from rfl) (by omega) (by omega) (by decide) (ra_o (by decide) (rfl)) ?_
                  have g62 := RG.a hR 7 (4 * x0)
                  refine tm_aload_n dX12_rebind_308 rfl 4 rfl ?_
                  refine tm_get (k := 8) (v := .ref (b + 1 + 6)) lay_12 dX12_rebind_309 (by decide) fl12_29 rfl ?_
                  refine tm_iconst dX12_rebind_312 ?_
                  refine tm_iload_n dX12_rebind_313 rfl 2 rfl ?_
                  refine tm_imul dX12_rebind_314 ?_
                  refine tm_iald (z := 4 * x0) (v := σ.2.1 8 (4 * x0)) dX12_rebind_315 (show mT[6]? = some (8, 0, 11440) from rfl) (by omega) (by omega) (by decide) (ra_o (by decide) (rfl)) ?_
                  have g63 := RG.a hR 8 (4 * x0)
                  refine tm_callV (M := m_X12_rebind) (pc := 316) (ix := 298) (M' := m_X12_setArg) (As := [.int (iI (220 * r + i)), .int (iI 0), .int (iI (σ.2.1 7 (4 * x0))), .int (iI (σ.2.1 8 (4 * x0)))]) (rest := []) dX12_rebind_316 ok_X12_setArg im_X12_setArg se_X12_setArg ml12_298 np_X12_setArg rfl rfl (Nat.le_of_ble_eq_true rfl) (Nat.le_of_ble_eq_true rfl) rfl (c_X12_setArg (d) (σ := (sA 6 (220 * r + i) ((σ0.2.1 3 x0) + 2) σ)) (x := 220 * r + i) (i := 0) (k := σ.2.1 7 (4 * x0)) (w := σ.2.1 8 (4 * x0)) (by omega)) (fun r64 σ65 hp => ?_)
                  obtain ⟨rfl, f67⟩ := hp
                  subst f67
                  show Tm _ _ 319 b (fArg (220 * r + i) (0) (σ.2.1 7 (4 * x0)) (σ.2.1 8 (4 * x0)) (sA 6 (220 * r + i) ((σ0.2.1 3 x0) + 2) σ)) [(7, .int (iI (220 * r + i))), (6, .int (iI i)), (3, .int (iI x0)), (4, .int (iI g)), (0, .ref b), (1, .int (iI r)), (2, .int (iI k0))] [] _
                  refine tm_aload_n dX12_rebind_319 rfl 4 rfl ?_
                  refine tm_get (k := 3) (v := .ref (b + 1 + 1)) lay_12 dX12_rebind_320 (by decide) fl12_13 rfl ?_
                  refine tm_iload_n dX12_rebind_323 rfl 2 rfl ?_
                  refine tm_iald (z := x0) (v := σ0.2.1 3 x0) dX12_rebind_324 (show mT[1]? = some (3, 0, 2860) from rfl) (by omega) (by omega) (by decide) (ra_F fArg_fr (by decide) (ra_o (by decide) (ra_F hF (by decide) (rfl)))) ?_
                  have g68 := RG.a hR0 3 (x0)
                  refine tm_if_eq (tgt := 355) dX12_rebind_325 (by decide) ⟨by omega, by omega⟩ (fun h69 => ?_) (fun h69 => ?_)
                  · exact absurd h69 (by omega)
                  · refine tm_aload_n dX12_rebind_328 rfl 4 rfl ?_
                    refine tm_iload dX12_rebind_329 0 rfl ?_
                    refine tm_iconst dX12_rebind_331 ?_
                    refine tm_aload_n dX12_rebind_332 rfl 4 rfl ?_
                    refine tm_get (k := 7) (v := .ref (b + 1 + 5)) lay_12 dX12_rebind_333 (by decide) fl12_26 rfl ?_
                    refine tm_iconst dX12_rebind_336 ?_
                    refine tm_iload_n dX12_rebind_337 rfl 2 rfl ?_
                    refine tm_imul dX12_rebind_338 ?_
                    refine tm_iconst dX12_rebind_339 ?_
                    refine tm_iadd dX12_rebind_340 ?_
                    refine tm_iald (z := (4 * x0) + 1) (v := (fArg (220 * r + i) (0) (σ.2.1 7 (4 * x0)) (σ.2.1 8 (4 * x0)) (sA 6 (220 * r + i) ((σ0.2.1 3 x0) + 2) σ)).2.1 7 ((4 * x0) + 1)) dX12_rebind_341 (show mT[5]? = some (7, 0, 11440) from rfl) (by omega) (by omega) (by decide) (rfl) ?_
                    have : (fArg (220 * r + i) (0) (σ.2.1 7 (4 * x0)) (σ.2.1 8 (4 * x0)) (sA 6 (220 * r + i) ((σ0.2.1 3 x0) + 2) σ)).2.1 7 ((4 * x0) + 1) = σ.2.1 7 ((4 * x0) + 1) := ra_o (by decide) (ra_ne (by omega) (ra_o (by decide) rfl))
                    refine tm_aload_n dX12_rebind_342 rfl 4 rfl ?_
                    refine tm_get (k := 8) (v := .ref (b + 1 + 6)) lay_12 dX12_rebind_343 (by decide) fl12_29 rfl ?_
                    refine tm_iconst dX12_rebind_346 ?_
                    refine tm_iload_n dX12_rebind_347 rfl 2 rfl ?_
                    refine tm_imul dX12_rebind_348 ?_
                    refine tm_iconst dX12_rebind_349 ?_
                    refine tm_iadd dX12_rebind_350 ?_
                    refine tm_iald (z := (4 * x0) + 1) (v := (fArg (220 * r + i) (0) (σ.2.1 7 (4 * x0)) (σ.2.1 8 (4 * x0)) (sA 6 (220 * r + i) ((σ0.2.1 3 x0) + 2) σ)).2.1 8 ((4 * x0) + 1)) dX12_rebind_351 (show mT[6]? = some (8, 0, 11440) from rfl) (by omega) (by omega) (by decide) (rfl) ?_
                    have : (fArg (220 * r + i) (0) (σ.2.1 7 (4 * x0)) (σ.2.1 8 (4 * x0)) (sA 6 (220 * r + i) ((σ0.2.1 3 x0) + 2) σ)).2.1 8 ((4 * x0) + 1) = σ.2.1 8 ((4 * x0) + 1) := ra_ne (by omega) (ra_o (by decide) (ra_o (by decide) rfl))
                    refine tm_callV (M := m_X12_rebind) (pc := 352) (ix := 298) (M' := m_X12_setArg) (As := [.int (iI (220 * r + i)), .int (iI 1), .int (iI ((fArg (220 * r + i) (0) (σ.2.1 7 (4 * x0)) (σ.2.1 8 (4 * x0)) (sA 6 (220 * r + i) ((σ0.2.1 3 x0) + 2) σ)).2.1 7 ((4 * x0) + 1))), .int (iI ((fArg (220 * r + i) (0) (σ.2.1 7 (4 * x0)) (σ.2.1 8 (4 * x0)) (sA 6 (220 * r + i) ((σ0.2.1 3 x0) + 2) σ)).2.1 8 ((4 * x0) + 1)))]) (rest := []) dX12_rebind_352 ok_X12_setArg im_X12_setArg se_X12_setArg ml12_298 np_X12_setArg rfl rfl (Nat.le_of_ble_eq_true rfl) (Nat.le_of_ble_eq_true rfl) rfl (c_X12_setArg (d) (σ := (fArg (220 * r + i) (0) (σ.2.1 7 (4 * x0)) (σ.2.1 8 (4 * x0)) (sA 6 (220 * r + i) ((σ0.2.1 3 x0) + 2) σ))) (x := 220 * r + i) (i := 1) (k := (fArg (220 * r + i) (0) (σ.2.1 7 (4 * x0)) (σ.2.1 8 (4 * x0)) (sA 6 (220 * r + i) ((σ0.2.1 3 x0) + 2) σ)).2.1 7 ((4 * x0) + 1)) (w := (fArg (220 * r + i) (0) (σ.2.1 7 (4 * x0)) (σ.2.1 8 (4 * x0)) (sA 6 (220 * r + i) ((σ0.2.1 3 x0) + 2) σ)).2.1 8 ((4 * x0) + 1)) (by omega)) (fun r70 σ71 hp => ?_)
                    obtain ⟨rfl, f73⟩ := hp
                    subst f73
                    show Tm _ _ 355 b (fArg (220 * r + i) (1) ((fArg (220 * r + i) (0) (σ.2.1 7 (4 * x0)) (σ.2.1 8 (4 * x0)) (sA 6 (220 * r + i) ((σ0.2.1 3 x0) + 2) σ)).2.1 7 ((4 * x0) + 1)) ((fArg (220 * r + i) (0) (σ.2.1 7 (4 * x0)) (σ.2.1 8 (4 * x0)) (sA 6 (220 * r + i) ((σ0.2.1 3 x0) + 2) σ)).2.1 8 ((4 * x0) + 1)) (fArg (220 * r + i) (0) (σ.2.1 7 (4 * x0)) (σ.2.1 8 (4 * x0)) (sA 6 (220 * r + i) ((σ0.2.1 3 x0) + 2) σ))) [(7, .int (iI (220 * r + i))), (6, .int (iI i)), (3, .int (iI x0)), (4, .int (iI g)), (0, .ref b), (1, .int (iI r)), (2, .int (iI k0))] [] _
                    refine tm_aload_n dX12_rebind_355 rfl 4 rfl ?_
                    refine tm_get (k := 47) (v := .ref (b + 1 + 25)) lay_12 dX12_rebind_356 (by decide) fl12_91 rfl ?_
                    refine tm_iload dX12_rebind_359 1 rfl ?_
                    refine tm_iconst dX12_rebind_361 ?_
                    refine tm_zast (z := i) (v := 0) dX12_rebind_362 (show mT[25]? = some (47, 2, 221) from rfl) (by omega) (by omega) (by decide) (by omega) ?_
                    refine tm_iinc (q0 := 1) (L' := [(6, .int (iI (i + 1))), (7, .int (iI (220 * r + i))), (3, .int (iI x0)), (4, .int (iI g)), (0, .ref b), (1, .int (iI r)), (2, .int (iI k0))]) dX12_rebind_363 rfl (by decide) rfl ?_
                    refine tm_goto (tgt := 170) dX12_rebind_366 (by decide) ?_
                    exact tm_sub [0, 2, 3, 4, 5, 6] rfl (ih _ (by omega) (i + 1) (sA 47 (i) (0) (fArg (220 * r + i) (1) ((fArg (220 * r + i) (0) (σ.2.1 7 (4 * x0)) (σ.2.1 8 (4 * x0)) (sA 6 (220 * r + i) ((σ0.2.1 3 x0) + 2) σ)).2.1 7 ((4 * x0) + 1)) ((fArg (220 * r + i) (0) (σ.2.1 7 (4 * x0)) (σ.2.1 8 (4 * x0)) (sA 6 (220 * r + i) ((σ0.2.1 3 x0) + 2) σ)).2.1 8 ((4 * x0) + 1)) (fArg (220 * r + i) (0) (σ.2.1 7 (4 * x0)) (σ.2.1 8 (4 * x0)) (sA 6 (220 * r + i) ((σ0.2.1 3 x0) + 2) σ)))) (((((Fr.rfl.trans (Fr.sub hF (by decide) (by decide) (by decide))).A (by decide)).trans (Fr.sub fArg_fr (by decide) (by decide) (by decide))).trans (Fr.sub fArg_fr (by decide) (by decide) (by decide))).A (by decide)) ((((hR.A (by omega)).arg (by omega) (by omega)).arg (by omega) (by omega)).A (by omega)) (by omega) (BO.A (hbo.fr (show Fr [] [6, 7, 8] [] σ _ from (((Fr.rfl.A (by decide)).trans (Fr.sub fArg_fr (by decide) (by decide) (by decide))).trans (Fr.sub fArg_fr (by decide) (by decide) (by decide)))) (by decide)) (by omega)) (OKS.fr (takB_off.oks hok (oki_takB (hok i (by omega) (by omega)) (by rw [q3]; omega) (by omega) (by omega) (by omega) (by omega) (by omega) (by omega))) ((Fr.rfl (ss := []) (ks := [47]) (js := [])).A (by decide)) (by decide)) ((hxo.trans (takB_off.xo (by omega) (by omega))).trans (XO.fr ((Fr.rfl (ss := []) (ks := [47]) (js := [])).A (by decide)) (by decide))) rfl)
                · refine tm_aload_n dX12_rebind_276 rfl 4 rfl ?_
                  refine tm_get (k := 7) (v := .ref (b + 1 + 5)) lay_12 dX12_rebind_277 (by decide) fl12_26 rfl ?_
                  refine tm_iconst dX12_rebind_280 ?_
                  refine tm_iload_n dX12_rebind_281 rfl 2 rfl ?_
                  refine tm_imul dX12_rebind_282 ?_
                  refine tm_iald (z := 4 * x0) (v := σ.2.1 7 (4 * x0)) dX12_rebind_283 (show mT[5]? = some (7, 0, 11440) from rfl) (by omega) (by omega) (by decide) (rfl) ?_
                  have g74 := RG.a hR 7 (4 * x0)
                  refine tm_goto (tgt := 295) dX12_rebind_284 (by decide) ?_
                  refine tm_iast (z := 220 * r + i) (v := σ.2.1 7 (4 * x0)) dX12_rebind_295 (show mT[4]? = some (6, 0, 2860) from rfl) (by omega) (by omega) (by decide) ?_
                  refine tm_aload_n dX12_rebind_296 rfl 4 rfl ?_
                  refine tm_iload dX12_rebind_297 0 rfl ?_
                  refine tm_iconst dX12_rebind_299 ?_
                  refine tm_aload_n dX12_rebind_300 rfl 4 rfl ?_
                  refine tm_get (k := 7) (v := .ref (b + 1 + 5)) lay_12 dX12_rebind_301 (by decide) fl12_26 rfl ?_
                  refine tm_iconst dX12_rebind_304 ?_
                  refine tm_iload_n dX12_rebind_305 rfl 2 rfl ?_
                  refine tm_imul dX12_rebind_306 ?_
                  refine tm_iald (z := 4 * x0) (v := σ.2.1 7 (4 * x0)) dX12_rebind_307 (show mT[5]? = some (7, 0, 11440) from rfl) (by omega) (by omega) (by decide) (ra_o (by decide) (rfl)) ?_
                  have g75 := RG.a hR 7 (4 * x0)
                  refine tm_aload_n dX12_rebind_308 rfl 4 rfl ?_
                  refine tm_get (k := 8) (v := .ref (b + 1 + 6)) lay_12 dX12_rebind_309 (by decide) fl12_29 rfl ?_
                  refine tm_iconst dX12_rebind_312 ?_
                  refine tm_iload_n dX12_rebind_313 rfl 2 rfl ?_
                  refine tm_imul dX12_rebind_314 ?_
                  refine tm_iald (z := 4 * x0) (v := σ.2.1 8 (4 * x0)) dX12_rebind_315 (show mT[6]? = some (8, 0, 11440) from rfl) (by omega) (by omega) (by decide) (ra_o (by decide) (rfl)) ?_
                  have g76 := RG.a hR 8 (4 * x0)
                  refine tm_callV (M := m_X12_rebind) (pc := 316) (ix := 298) (M' := m_X12_setArg) (As := [.int (iI (220 * r + i)), .int (iI 0), .int (iI (σ.2.1 7 (4 * x0))), .int (iI (σ.2.1 8 (4 * x0)))]) (rest := []) dX12_rebind_316 ok_X12_setArg im_X12_setArg se_X12_setArg ml12_298 np_X12_setArg rfl rfl (Nat.le_of_ble_eq_true rfl) (Nat.le_of_ble_eq_true rfl) rfl (c_X12_setArg (d) (σ := (sA 6 (220 * r + i) (σ.2.1 7 (4 * x0)) σ)) (x := 220 * r + i) (i := 0) (k := σ.2.1 7 (4 * x0)) (w := σ.2.1 8 (4 * x0)) (by omega)) (fun r77 σ78 hp => ?_)
                  obtain ⟨rfl, f80⟩ := hp
                  subst f80
                  show Tm _ _ 319 b (fArg (220 * r + i) (0) (σ.2.1 7 (4 * x0)) (σ.2.1 8 (4 * x0)) (sA 6 (220 * r + i) (σ.2.1 7 (4 * x0)) σ)) [(7, .int (iI (220 * r + i))), (6, .int (iI i)), (3, .int (iI x0)), (4, .int (iI g)), (0, .ref b), (1, .int (iI r)), (2, .int (iI k0))] [] _
                  refine tm_aload_n dX12_rebind_319 rfl 4 rfl ?_
                  refine tm_get (k := 3) (v := .ref (b + 1 + 1)) lay_12 dX12_rebind_320 (by decide) fl12_13 rfl ?_
                  refine tm_iload_n dX12_rebind_323 rfl 2 rfl ?_
                  refine tm_iald (z := x0) (v := σ0.2.1 3 x0) dX12_rebind_324 (show mT[1]? = some (3, 0, 2860) from rfl) (by omega) (by omega) (by decide) (ra_F fArg_fr (by decide) (ra_o (by decide) (ra_F hF (by decide) (rfl)))) ?_
                  have g81 := RG.a hR0 3 (x0)
                  refine tm_if_eq (tgt := 355) dX12_rebind_325 (by decide) ⟨by omega, by omega⟩ (fun h82 => ?_) (fun h82 => ?_)
                  · refine tm_aload_n dX12_rebind_355 rfl 4 rfl ?_
                    refine tm_get (k := 47) (v := .ref (b + 1 + 25)) lay_12 dX12_rebind_356 (by decide) fl12_91 rfl ?_
                    refine tm_iload dX12_rebind_359 1 rfl ?_
                    refine tm_iconst dX12_rebind_361 ?_
                    refine tm_zast (z := i) (v := 0) dX12_rebind_362 (show mT[25]? = some (47, 2, 221) from rfl) (by omega) (by omega) (by decide) (by omega) ?_
                    refine tm_iinc (q0 := 1) (L' := [(6, .int (iI (i + 1))), (7, .int (iI (220 * r + i))), (3, .int (iI x0)), (4, .int (iI g)), (0, .ref b), (1, .int (iI r)), (2, .int (iI k0))]) dX12_rebind_363 rfl (by decide) rfl ?_
                    refine tm_goto (tgt := 170) dX12_rebind_366 (by decide) ?_
                    exact tm_sub [0, 2, 3, 4, 5, 6] rfl (ih _ (by omega) (i + 1) (sA 47 (i) (0) (fArg (220 * r + i) (0) (σ.2.1 7 (4 * x0)) (σ.2.1 8 (4 * x0)) (sA 6 (220 * r + i) (σ.2.1 7 (4 * x0)) σ))) ((((Fr.rfl.trans (Fr.sub hF (by decide) (by decide) (by decide))).A (by decide)).trans (Fr.sub fArg_fr (by decide) (by decide) (by decide))).A (by decide)) (((hR.A (by omega)).arg (by omega) (by omega)).A (by omega)) (by omega) (BO.A (hbo.fr (show Fr [] [6, 7, 8] [] σ _ from ((Fr.rfl.A (by decide)).trans (Fr.sub fArg_fr (by decide) (by decide) (by decide)))) (by decide)) (by omega)) (OKS.fr (takA_off.oks hok (oki_takA (hok i (by omega) (by omega)) (by rw [q3]; omega) (by omega) (by omega) (by omega))) ((Fr.rfl (ss := []) (ks := [47]) (js := [])).A (by decide)) (by decide)) ((hxo.trans (takA_off.xo (by omega) (by omega))).trans (XO.fr ((Fr.rfl (ss := []) (ks := [47]) (js := [])).A (by decide)) (by decide))) rfl)
                  · exact absurd h82 (by omega)
theorem dX12_rebind_0 : decode cX12_rebind 0 = .ok (.aload_n 0, 1) := by decide +kernel
theorem dX12_rebind_1 : decode cX12_rebind 1 = .ok (.iload_n 1, 1) := by decide +kernel
theorem dX12_rebind_2 : decode cX12_rebind 2 = .ok (.iload_n 2, 1) := by decide +kernel
theorem dX12_rebind_3 : decode cX12_rebind 3 = .ok (.invokevirtual 203, 3) := by decide +kernel
theorem dX12_rebind_6 : decode cX12_rebind 6 = .ok (.istore_n 3, 1) := by decide +kernel
theorem dX12_rebind_7 : decode cX12_rebind 7 = .ok (.aload_n 0, 1) := by decide +kernel
theorem dX12_rebind_8 : decode cX12_rebind 8 = .ok (.getfield 17, 3) := by decide +kernel
theorem dX12_rebind_11 : decode cX12_rebind 11 = .ok (.iload_n 3, 1) := by decide +kernel
theorem dX12_rebind_12 : decode cX12_rebind 12 = .ok (.iaload, 1) := by decide +kernel
theorem dX12_rebind_13 : decode cX12_rebind 13 = .ok (.istore 4, 2) := by decide +kernel
theorem dX12_rebind_15 : decode cX12_rebind 15 = .ok (.iconst 0, 1) := by decide +kernel
theorem dX12_rebind_16 : decode cX12_rebind 16 = .ok (.istore 5, 2) := by decide +kernel
theorem dX12_rebind_43 : decode cX12_rebind 43 = .ok (.aload_n 0, 1) := by decide +kernel
theorem dX12_rebind_44 : decode cX12_rebind 44 = .ok (.getfield 91, 3) := by decide +kernel
theorem dX12_rebind_47 : decode cX12_rebind 47 = .ok (.iload_n 2, 1) := by decide +kernel
theorem dX12_rebind_48 : decode cX12_rebind 48 = .ok (.iconst 1, 1) := by decide +kernel
theorem dX12_rebind_49 : decode cX12_rebind 49 = .ok (.iadd, 1) := by decide +kernel
theorem dX12_rebind_50 : decode cX12_rebind 50 = .ok (.iconst 1, 1) := by decide +kernel
theorem dX12_rebind_51 : decode cX12_rebind 51 = .ok (.bastore, 1) := by decide +kernel
theorem dX12_rebind_52 : decode cX12_rebind 52 = .ok (.iconst 1, 1) := by decide +kernel
theorem dX12_rebind_53 : decode cX12_rebind 53 = .ok (.istore 5, 2) := by decide +kernel
theorem dX12_rebind_165 : decode cX12_rebind 165 = .ok (.iload_n 2, 1) := by decide +kernel
theorem dX12_rebind_166 : decode cX12_rebind 166 = .ok (.iconst 1, 1) := by decide +kernel
theorem dX12_rebind_167 : decode cX12_rebind 167 = .ok (.iadd, 1) := by decide +kernel
theorem dX12_rebind_168 : decode cX12_rebind 168 = .ok (.istore 6, 2) := by decide +kernel
theorem dX12_rebind_369 : decode cX12_rebind 369 = .ok (.iconst 0, 1) := by decide +kernel
theorem dX12_rebind_370 : decode cX12_rebind 370 = .ok (.istore 6, 2) := by decide +kernel
theorem dX12_rebind_458 : decode cX12_rebind 458 = .ok (.return_, 1) := by decide +kernel
set_option maxHeartbeats 4000000 in
set_option maxRecDepth 20000 in
theorem c_X12_rebind (d : Nat) {b : Nat} {σ : MS} {r : Int} {k0 : Int} {F : Int} (hr : 0 ≤ r ∧ r < 6) (hR : RG σ) (hit : ITM σ) (hpar : PAR σ) (hok : OKS σ F r) (htg : TGT σ r) (hbo : BO 47 σ) (hk : 0 ≤ k0 ∧ k0 < σ.2.1 9 r) (hk5 : σ.2.1 3 (220 * r + k0) ≤ 5) : Tm (d + 6) m_X12_rebind 0 b σ [(0, .ref b), (1, .int (iI r)), (2, .int (iI k0))] [] (fun ro σ2 => ro = none ∧ (Fr [] [6, 7, 8, 47] [] σ σ2) ∧ (RG σ2) ∧ (OKS σ2 F r) ∧ (XO r σ σ2) ∧ (BO 47 σ2)) := by
  have q1 := hit r (by omega) (by omega)
  have hgd := hok.dest (k := k0) (by omega) (by omega) (Or.inl hk5)
  refine tm_aload_n dX12_rebind_0 rfl 0 rfl ?_
  refine tm_iload_n dX12_rebind_1 rfl 1 rfl ?_
  refine tm_iload_n dX12_rebind_2 rfl 2 rfl ?_
  refine tm_callV (M := m_X12_rebind) (pc := 3) (ix := 203) (M' := m_X12_at) (As := [.int (iI r), .int (iI k0)]) (rest := []) dX12_rebind_3 ok_X12_at im_X12_at se_X12_at ml12_203 np_X12_at rfl rfl (Nat.le_of_ble_eq_true rfl) (Nat.le_of_ble_eq_true rfl) rfl (c_X12_at (d + 4) (σ := σ) (x := r) (k := k0) ) (fun r1 σ2 hp => ?_)
  obtain ⟨v3, rfl, rfl, f4⟩ := hp
  subst f4
  show Tm _ _ 6 b σ [(0, .ref b), (1, .int (iI r)), (2, .int (iI k0))] [.int (iI (220 * r + k0))] _
  refine tm_istore_n (L' := [(3, .int (iI (220 * r + k0))), (0, .ref b), (1, .int (iI r)), (2, .int (iI k0))]) dX12_rebind_6 rfl (by decide) rfl ?_
  refine tm_aload_n dX12_rebind_7 rfl 1 rfl ?_
  refine tm_get (k := 4) (v := .ref (b + 1 + 2)) lay_12 dX12_rebind_8 (by decide) fl12_17 rfl ?_
  refine tm_iload_n dX12_rebind_11 rfl 0 rfl ?_
  refine tm_iald (z := 220 * r + k0) (v := σ.2.1 4 (220 * r + k0)) dX12_rebind_12 (show mT[2]? = some (4, 0, 2860) from rfl) (by omega) (by omega) (by decide) (rfl) ?_
  have g5 := RG.a hR 4 (220 * r + k0)
  refine tm_istore (L' := [(4, .int (iI (σ.2.1 4 (220 * r + k0)))), (3, .int (iI (220 * r + k0))), (0, .ref b), (1, .int (iI r)), (2, .int (iI k0))]) dX12_rebind_13 (by decide) rfl ?_
  refine tm_iconst dX12_rebind_15 ?_
  refine tm_istore (L' := [(5, .int (iI 0)), (4, .int (iI (σ.2.1 4 (220 * r + k0)))), (3, .int (iI (220 * r + k0))), (0, .ref b), (1, .int (iI r)), (2, .int (iI k0))]) dX12_rebind_16 (by decide) rfl ?_
  refine tm_sub [0, 2, 1, 3, 4, 5] rfl (l_reb1 (d + 5) (σ0 := σ) (r := r) (g := σ.2.1 4 (220 * r + k0)) (k0 := k0) (x0 := 220 * r + k0) hr hR q1 (fun k11 σ12 F8 R9 f10 => ?_) _ (0) σ Fr.rfl hR (by omega) hbo rfl)
  show Tm _ _ 43 b σ12 [(5, .int (iI k11)), (3, .int (iI (220 * r + k0))), (4, .int (iI (σ.2.1 4 (220 * r + k0)))), (0, .ref b), (1, .int (iI r)), (2, .int (iI k0))] [] _
  have hbo1 := f10
  refine tm_aload_n dX12_rebind_43 rfl 3 rfl ?_
  refine tm_get (k := 47) (v := .ref (b + 1 + 25)) lay_12 dX12_rebind_44 (by decide) fl12_91 rfl ?_
  refine tm_iload_n dX12_rebind_47 rfl 5 rfl ?_
  refine tm_iconst dX12_rebind_48 ?_
  refine tm_iadd dX12_rebind_49 ?_
  refine tm_iconst dX12_rebind_50 ?_
  refine tm_zast (z := k0 + 1) (v := 1) dX12_rebind_51 (show mT[25]? = some (47, 2, 221) from rfl) (by omega) (by omega) (by decide) (by omega) ?_
  refine tm_iconst dX12_rebind_52 ?_
  refine tm_istore (L' := [(5, .int (iI 1)), (3, .int (iI (220 * r + k0))), (4, .int (iI (σ.2.1 4 (220 * r + k0)))), (0, .ref b), (1, .int (iI r)), (2, .int (iI k0))]) dX12_rebind_53 (by decide) rfl ?_
  refine tm_sub [0, 1, 2, 3, 4, 5] rfl (l_reb2 (d + 3) (σ0 := (sA 47 (k0 + 1) (1) σ12)) (r := r) (g := σ.2.1 4 (220 * r + k0)) (k0 := k0) (x0 := 220 * r + k0) (m := (σ.2.1 9 r)) hr (R9.A (by omega)) (hit.fr (show Fr [] [47] [] σ (sA 47 (k0 + 1) (1) σ12) from ((Fr.rfl.trans (Fr.sub F8 (by decide) (by decide) (by decide))).A (by decide))) (by decide)) (hok.jmp.fr (show Fr [] [47] [] σ (sA 47 (k0 + 1) (1) σ12) from ((Fr.rfl.trans (Fr.sub F8 (by decide) (by decide) (by decide))).A (by decide))) (by decide)) (htg.fr (show Fr [] [47] [] σ (sA 47 (k0 + 1) (1) σ12) from ((Fr.rfl.trans (Fr.sub F8 (by decide) (by decide) (by decide))).A (by decide))) (by decide)) (by rw [((show Fr [] [47] [] σ (sA 47 (k0 + 1) (1) σ12) from ((Fr.rfl.trans (Fr.sub F8 (by decide) (by decide) (by decide))).A (by decide)))).2.1 9 (by decide)]) (by omega) (fun w18 σ19 F15 R16 f17 => ?_) _ (1) (sA 47 (k0 + 1) (1) σ12) Fr.rfl (R9.A (by omega)) (by omega) (BO.A hbo1 (by omega)) rfl)
  show Tm _ _ 165 b σ19 [(5, .int (iI w18)), (3, .int (iI (220 * r + k0))), (4, .int (iI (σ.2.1 4 (220 * r + k0)))), (0, .ref b), (1, .int (iI r)), (2, .int (iI k0))] [] _
  have hbo2 := f17
  have hx2 : XO r σ σ19 := XO.fr (show Fr [] [47] [] σ σ19 from (((Fr.rfl.trans (Fr.sub F8 (by decide) (by decide) (by decide))).A (by decide)).trans (Fr.sub F15 (by decide) (by decide) (by decide)))) (by decide)
  refine tm_iload_n dX12_rebind_165 rfl 5 rfl ?_
  refine tm_iconst dX12_rebind_166 ?_
  refine tm_iadd dX12_rebind_167 ?_
  refine tm_istore (L' := [(6, .int (iI (k0 + 1))), (5, .int (iI w18)), (3, .int (iI (220 * r + k0))), (4, .int (iI (σ.2.1 4 (220 * r + k0)))), (0, .ref b), (1, .int (iI r)), (2, .int (iI k0))]) dX12_rebind_168 (by decide) rfl ?_
  refine tm_sub [0, 2, 3, 4, 5, 6] rfl (l_reb5 (d + 4) (σ0 := σ19) (r := r) (g := σ.2.1 4 (220 * r + k0)) (k0 := k0) (x0 := 220 * r + k0) (F := F) hr R16 (by rw [((show Fr [] [47] [] σ σ19 from (((Fr.rfl.trans (Fr.sub F8 (by decide) (by decide) (by decide))).A (by decide)).trans (Fr.sub F15 (by decide) (by decide) (by decide))))).2.1 9 (by decide)]; exact q1) (by rw [((show Fr [] [47] [] σ σ19 from (((Fr.rfl.trans (Fr.sub F8 (by decide) (by decide) (by decide))).A (by decide)).trans (Fr.sub F15 (by decide) (by decide) (by decide))))).2.1 9 (by decide)]; omega) (by rw [((show Fr [] [47] [] σ σ19 from (((Fr.rfl.trans (Fr.sub F8 (by decide) (by decide) (by decide))).A (by decide)).trans (Fr.sub F15 (by decide) (by decide) (by decide))))).2.1 3 (by decide)]; exact hk5) (by omega) (fun i27 σ28 F22 R23 f24 f25 f26 => ?_) _ (k0 + 1) σ19 Fr.rfl R16 (by rw [((show Fr [] [47] [] σ σ19 from (((Fr.rfl.trans (Fr.sub F8 (by decide) (by decide) (by decide))).A (by decide)).trans (Fr.sub F15 (by decide) (by decide) (by decide))))).2.1 9 (by decide)]; omega) hbo2 (hok.fr (show Fr [] [47] [] σ σ19 from (((Fr.rfl.trans (Fr.sub F8 (by decide) (by decide) (by decide))).A (by decide)).trans (Fr.sub F15 (by decide) (by decide) (by decide)))) (by decide)) XO.rfl rfl)
  show Tm _ _ 369 b σ28 [(6, .int (iI i27)), (3, .int (iI (220 * r + k0))), (4, .int (iI (σ.2.1 4 (220 * r + k0)))), (0, .ref b), (1, .int (iI r)), (2, .int (iI k0))] [] _
  have hbo3 := f24
  have hok3 := f25
  have hx3 := hx2.trans f26
  refine tm_iconst dX12_rebind_369 ?_
  refine tm_istore (L' := [(6, .int (iI 0)), (3, .int (iI (220 * r + k0))), (4, .int (iI (σ.2.1 4 (220 * r + k0)))), (0, .ref b), (1, .int (iI r)), (2, .int (iI k0))]) dX12_rebind_370 (by decide) rfl ?_
  refine tm_sub [0, 2, 3, 4] rfl (l_reb6 (d + 1) (σ0 := σ28) (r := r) (g := σ.2.1 4 (220 * r + k0)) (F := F) hr R23 (hit.fr (show Fr [] [6, 7, 8, 47] [] σ σ28 from ((((Fr.rfl.trans (Fr.sub F8 (by decide) (by decide) (by decide))).A (by decide)).trans (Fr.sub F15 (by decide) (by decide) (by decide))).trans (Fr.sub F22 (by decide) (by decide) (by decide)))) (by decide)) (hpar.fr (show Fr [] [6, 7, 8, 47] [] σ σ28 from ((((Fr.rfl.trans (Fr.sub F8 (by decide) (by decide) (by decide))).A (by decide)).trans (Fr.sub F15 (by decide) (by decide) (by decide))).trans (Fr.sub F22 (by decide) (by decide) (by decide)))) (by decide)) hbo3 (by omega) (fun k35 σ36 F31 R32 f33 f34 => ?_) _ (0) σ28 Fr.rfl R23 (by rw [((show Fr [] [6, 7, 8, 47] [] σ σ28 from ((((Fr.rfl.trans (Fr.sub F8 (by decide) (by decide) (by decide))).A (by decide)).trans (Fr.sub F15 (by decide) (by decide) (by decide))).trans (Fr.sub F22 (by decide) (by decide) (by decide))))).2.1 9 (by decide)]; omega) hok3 XO.rfl rfl)
  show Tm _ _ 458 b σ36 [(6, .int (iI k35)), (4, .int (iI (σ.2.1 4 (220 * r + k0)))), (0, .ref b), (1, .int (iI r))] [] _
  exact tm_vret rfl dX12_rebind_458 (⟨rfl, (((((Fr.rfl.trans (Fr.sub F8 (by decide) (by decide) (by decide))).A (by decide)).trans (Fr.sub F15 (by decide) (by decide) (by decide))).trans (Fr.sub F22 (by decide) (by decide) (by decide))).trans (Fr.sub F31 (by decide) (by decide) (by decide))), R32, f33, hx3.trans f34, hbo3.fr F31 (by decide)⟩)
