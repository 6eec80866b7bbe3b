theorem cd_X7_step : Cond.code yX7_step cX7_step 4 (some .boolean) ∈ pWW := pw6 (List.mem_of_getElem? (i := 59) rfl) rfl
abbrev m_X7_step : MT := (yX7_step, cX7_step, 4, (some .boolean))
theorem ok_X7_step : pOk m_X7_step := ⟨⟨cd_X7_step, ini_7⟩, by decide +kernel, ⟨by decide +kernel, by decide +kernel⟩, Nat.le_of_ble_eq_true rfl⟩
theorem np_X7_step : (parseMethodDescriptor yX7_step.desc).map (fun d => d.parameters.length) = some 0 := by decide +kernel
theorem im_X7_step : Cond.instanceMethod yX7_step ∈ pWW := pw6 (List.mem_of_getElem? (i := 57) rfl) rfl
theorem se_X7_step : Cond.selects RX7 yX7_step yX7_step ∈ pWW := pw6 (List.mem_of_getElem? (i := 58) rfl) rfl
theorem ml7_123 : Cond.methodLink RX7 123 yX7_giveBack ∈ pWW := pw6 (List.mem_of_getElem? (i := 79) rfl) rfl
theorem ml7_107 : Cond.methodLink RX7 107 yX1_kindAt ∈ pWW := pw6 (List.mem_of_getElem? (i := 65) rfl) rfl
theorem ml7_129 : Cond.methodLink RX7 129 yX7_reckonAt ∈ pWW := pw6 (List.mem_of_getElem? (i := 87) rfl) rfl
theorem ml7_113 : Cond.methodLink RX7 113 yX7_emit ∈ pWW := pw6 (List.mem_of_getElem? (i := 71) rfl) rfl
theorem ml7_120 : Cond.methodLink RX7 120 yX7_callFrom ∈ pWW := pw6 (List.mem_of_getElem? (i := 75) rfl) rfl
theorem dX7_step_0 : decode cX7_step 0 = .ok (.aload_n 0, 1) := by decide +kernel
theorem dX7_step_1 : decode cX7_step 1 = .ok (.invokevirtual 103, 3) := by decide +kernel
theorem dX7_step_4 : decode cX7_step 4 = .ok (.istore_n 1, 1) := by decide +kernel
theorem dX7_step_5 : decode cX7_step 5 = .ok (.aload_n 0, 1) := by decide +kernel
theorem dX7_step_6 : decode cX7_step 6 = .ok (.getfield 72, 3) := by decide +kernel
theorem dX7_step_9 : decode cX7_step 9 = .ok (.ifnonnull 7, 3) := by decide +kernel
theorem dX7_step_12 : decode cX7_step 12 = .ok (.iconst (-1), 1) := by decide +kernel
theorem dX7_step_13 : decode cX7_step 13 = .ok (.goto 11, 3) := by decide +kernel
theorem dX7_step_24 : decode cX7_step 24 = .ok (.istore_n 2, 1) := by decide +kernel
theorem dX7_step_25 : decode cX7_step 25 = .ok (.iload_n 2, 1) := by decide +kernel
theorem dX7_step_26 : decode cX7_step 26 = .ok (.bipush 10, 2) := by decide +kernel
theorem dX7_step_28 : decode cX7_step 28 = .ok (.if_icmp .eq 9, 3) := by decide +kernel
theorem dX7_step_31 : decode cX7_step 31 = .ok (.iload_n 2, 1) := by decide +kernel
theorem dX7_step_32 : decode cX7_step 32 = .ok (.bipush 14, 2) := by decide +kernel
theorem dX7_step_34 : decode cX7_step 34 = .ok (.if_icmp .ne 19, 3) := by decide +kernel
theorem dX7_step_53 : decode cX7_step 53 = .ok (.aload_n 0, 1) := by decide +kernel
theorem dX7_step_54 : decode cX7_step 54 = .ok (.dup, 1) := by decide +kernel
theorem dX7_step_55 : decode cX7_step 55 = .ok (.getfield 47, 3) := by decide +kernel
theorem dX7_step_58 : decode cX7_step 58 = .ok (.iconst 1, 1) := by decide +kernel
theorem dX7_step_59 : decode cX7_step 59 = .ok (.iadd, 1) := by decide +kernel
theorem dX7_step_60 : decode cX7_step 60 = .ok (.putfield 47, 3) := by decide +kernel
theorem dX7_step_63 : decode cX7_step 63 = .ok (.iload_n 1, 1) := by decide +kernel
theorem dX7_step_64 : decode cX7_step 64 = .ok (.iconst 1, 1) := by decide +kernel
theorem dX7_step_65 : decode cX7_step 65 = .ok (.iadd, 1) := by decide +kernel
theorem dX7_step_66 : decode cX7_step 66 = .ok (.istore_n 3, 1) := by decide +kernel
theorem dX7_step_67 : decode cX7_step 67 = .ok (.iload_n 2, 1) := by decide +kernel
theorem dX7_step_68 : decode cX7_step 68 = .ok (.tableswitch 301 (-1) 15 #[294, 301, 301, 301, 301, 301, 301, 84, 145, 97, 111, 138, 157, 301, 301, 193, 251], 84) := by decide +kernel
theorem dX7_step_362 : decode cX7_step 362 = .ok (.aload_n 0, 1) := by decide +kernel
theorem dX7_step_363 : decode cX7_step 363 = .ok (.iconst 0, 1) := by decide +kernel
theorem dX7_step_364 : decode cX7_step 364 = .ok (.invokevirtual 123, 3) := by decide +kernel
theorem dX7_step_367 : decode cX7_step 367 = .ok (.iconst 0, 1) := by decide +kernel
theorem dX7_step_368 : decode cX7_step 368 = .ok (.ireturn, 1) := by decide +kernel
theorem dX7_step_16 : decode cX7_step 16 = .ok (.aload_n 0, 1) := by decide +kernel
theorem dX7_step_17 : decode cX7_step 17 = .ok (.getfield 72, 3) := by decide +kernel
theorem dX7_step_20 : decode cX7_step 20 = .ok (.iload_n 1, 1) := by decide +kernel
theorem dX7_step_21 : decode cX7_step 21 = .ok (.invokevirtual 107, 3) := by decide +kernel
theorem dX7_step_37 : decode cX7_step 37 = .ok (.aload_n 0, 1) := by decide +kernel
theorem dX7_step_38 : decode cX7_step 38 = .ok (.getfield 38, 3) := by decide +kernel
theorem dX7_step_41 : decode cX7_step 41 = .ok (.bipush 8, 2) := by decide +kernel
theorem dX7_step_43 : decode cX7_step 43 = .ok (.if_icmp .le 10, 3) := by decide +kernel
theorem dX7_step_369 : decode cX7_step 369 = .ok (.aload_n 0, 1) := by decide +kernel
theorem dX7_step_370 : decode cX7_step 370 = .ok (.iload_n 1, 1) := by decide +kernel
theorem dX7_step_371 : decode cX7_step 371 = .ok (.iload_n 2, 1) := by decide +kernel
theorem dX7_step_372 : decode cX7_step 372 = .ok (.invokevirtual 129, 3) := by decide +kernel
theorem dX7_step_375 : decode cX7_step 375 = .ok (.aload_n 0, 1) := by decide +kernel
theorem dX7_step_376 : decode cX7_step 376 = .ok (.getfield 15, 3) := by decide +kernel
theorem dX7_step_379 : decode cX7_step 379 = .ok (.aload_n 0, 1) := by decide +kernel
theorem dX7_step_380 : decode cX7_step 380 = .ok (.getfield 65, 3) := by decide +kernel
theorem dX7_step_383 : decode cX7_step 383 = .ok (.iload_n 3, 1) := by decide +kernel
theorem dX7_step_384 : decode cX7_step 384 = .ok (.invokestatic 61, 3) := by decide +kernel
theorem dX7_step_387 : decode cX7_step 387 = .ok (.iload_n 2, 1) := by decide +kernel
theorem dX7_step_388 : decode cX7_step 388 = .ok (.bipush 11, 2) := by decide +kernel
theorem dX7_step_390 : decode cX7_step 390 = .ok (.if_icmp .ne 7, 3) := by decide +kernel
theorem dX7_step_397 : decode cX7_step 397 = .ok (.iconst 0, 1) := by decide +kernel
theorem dX7_step_398 : decode cX7_step 398 = .ok (.ireturn, 1) := by decide +kernel
theorem dX7_step_152 : decode cX7_step 152 = .ok (.aload_n 0, 1) := by decide +kernel
theorem dX7_step_153 : decode cX7_step 153 = .ok (.aload_n 0, 1) := by decide +kernel
theorem dX7_step_154 : decode cX7_step 154 = .ok (.iload_n 1, 1) := by decide +kernel
theorem dX7_step_155 : decode cX7_step 155 = .ok (.iconst 3, 1) := by decide +kernel
theorem dX7_step_156 : decode cX7_step 156 = .ok (.invokevirtual 110, 3) := by decide +kernel
theorem dX7_step_159 : decode cX7_step 159 = .ok (.invokevirtual 113, 3) := by decide +kernel
theorem dX7_step_162 : decode cX7_step 162 = .ok (.goto 213, 3) := by decide +kernel
theorem dX7_step_213 : decode cX7_step 213 = .ok (.aload_n 0, 1) := by decide +kernel
theorem dX7_step_214 : decode cX7_step 214 = .ok (.aload_n 0, 1) := by decide +kernel
theorem dX7_step_215 : decode cX7_step 215 = .ok (.iload_n 1, 1) := by decide +kernel
theorem dX7_step_216 : decode cX7_step 216 = .ok (.iconst 3, 1) := by decide +kernel
theorem dX7_step_217 : decode cX7_step 217 = .ok (.invokevirtual 110, 3) := by decide +kernel
theorem dX7_step_220 : decode cX7_step 220 = .ok (.invokevirtual 123, 3) := by decide +kernel
theorem dX7_step_223 : decode cX7_step 223 = .ok (.iconst 0, 1) := by decide +kernel
theorem dX7_step_224 : decode cX7_step 224 = .ok (.ireturn, 1) := by decide +kernel
theorem dX7_step_165 : decode cX7_step 165 = .ok (.aload_n 0, 1) := by decide +kernel
theorem dX7_step_166 : decode cX7_step 166 = .ok (.getfield 72, 3) := by decide +kernel
theorem dX7_step_169 : decode cX7_step 169 = .ok (.iload_n 1, 1) := by decide +kernel
theorem dX7_step_170 : decode cX7_step 170 = .ok (.bipush 12, 2) := by decide +kernel
theorem dX7_step_172 : decode cX7_step 172 = .ok (.invokevirtual 117, 3) := by decide +kernel
theorem dX7_step_175 : decode cX7_step 175 = .ok (.istore_n 3, 1) := by decide +kernel
theorem dX7_step_176 : decode cX7_step 176 = .ok (.goto 199, 3) := by decide +kernel
theorem dX7_step_179 : decode cX7_step 179 = .ok (.aload_n 0, 1) := by decide +kernel
theorem dX7_step_180 : decode cX7_step 180 = .ok (.iload_n 1, 1) := by decide +kernel
theorem dX7_step_181 : decode cX7_step 181 = .ok (.iconst 3, 1) := by decide +kernel
theorem dX7_step_182 : decode cX7_step 182 = .ok (.invokevirtual 110, 3) := by decide +kernel
theorem dX7_step_185 : decode cX7_step 185 = .ok (.ifCond .ne 16, 3) := by decide +kernel
theorem dX7_step_201 : decode cX7_step 201 = .ok (.iload_n 3, 1) := by decide +kernel
theorem dX7_step_202 : decode cX7_step 202 = .ok (.istore_n 3, 1) := by decide +kernel
theorem dX7_step_203 : decode cX7_step 203 = .ok (.goto 172, 3) := by decide +kernel
theorem dX7_step_188 : decode cX7_step 188 = .ok (.aload_n 0, 1) := by decide +kernel
theorem dX7_step_189 : decode cX7_step 189 = .ok (.getfield 72, 3) := by decide +kernel
theorem dX7_step_192 : decode cX7_step 192 = .ok (.iload_n 1, 1) := by decide +kernel
theorem dX7_step_193 : decode cX7_step 193 = .ok (.bipush 12, 2) := by decide +kernel
theorem dX7_step_195 : decode cX7_step 195 = .ok (.invokevirtual 117, 3) := by decide +kernel
theorem dX7_step_198 : decode cX7_step 198 = .ok (.goto 4, 3) := by decide +kernel
theorem dX7_step_206 : decode cX7_step 206 = .ok (.aload_n 0, 1) := by decide +kernel
theorem dX7_step_207 : decode cX7_step 207 = .ok (.iload_n 1, 1) := by decide +kernel
theorem dX7_step_208 : decode cX7_step 208 = .ok (.invokevirtual 120, 3) := by decide +kernel
theorem dX7_step_211 : decode cX7_step 211 = .ok (.iconst 0, 1) := by decide +kernel
theorem dX7_step_212 : decode cX7_step 212 = .ok (.ireturn, 1) := by decide +kernel
theorem dX7_step_225 : decode cX7_step 225 = .ok (.aload_n 0, 1) := by decide +kernel
theorem dX7_step_226 : decode cX7_step 226 = .ok (.getfield 21, 3) := by decide +kernel
theorem dX7_step_229 : decode cX7_step 229 = .ok (.aload_n 0, 1) := by decide +kernel
theorem dX7_step_230 : decode cX7_step 230 = .ok (.getfield 65, 3) := by decide +kernel
theorem dX7_step_233 : decode cX7_step 233 = .ok (.bipush 12, 2) := by decide +kernel
theorem dX7_step_235 : decode cX7_step 235 = .ok (.imul, 1) := by decide +kernel
theorem dX7_step_236 : decode cX7_step 236 = .ok (.aload_n 0, 1) := by decide +kernel
theorem dX7_step_237 : decode cX7_step 237 = .ok (.getfield 72, 3) := by decide +kernel
theorem dX7_step_240 : decode cX7_step 240 = .ok (.iload_n 1, 1) := by decide +kernel
theorem dX7_step_241 : decode cX7_step 241 = .ok (.iconst 2, 1) := by decide +kernel
theorem dX7_step_242 : decode cX7_step 242 = .ok (.invokevirtual 117, 3) := by decide +kernel
theorem dX7_step_245 : decode cX7_step 245 = .ok (.iadd, 1) := by decide +kernel
theorem dX7_step_246 : decode cX7_step 246 = .ok (.aload_n 0, 1) := by decide +kernel
theorem dX7_step_247 : decode cX7_step 247 = .ok (.getfield 72, 3) := by decide +kernel
theorem dX7_step_250 : decode cX7_step 250 = .ok (.iload_n 1, 1) := by decide +kernel
theorem dX7_step_251 : decode cX7_step 251 = .ok (.iconst 1, 1) := by decide +kernel
theorem dX7_step_252 : decode cX7_step 252 = .ok (.invokevirtual 117, 3) := by decide +kernel
theorem dX7_step_255 : decode cX7_step 255 = .ok (.invokestatic 61, 3) := by decide +kernel
theorem dX7_step_258 : decode cX7_step 258 = .ok (.goto 117, 3) := by decide +kernel
theorem dX7_step_393 : decode cX7_step 393 = .ok (.iconst 1, 1) := by decide +kernel
theorem dX7_step_394 : decode cX7_step 394 = .ok (.goto 4, 3) := by decide +kernel
theorem dX7_step_261 : decode cX7_step 261 = .ok (.aload_n 0, 1) := by decide +kernel
theorem dX7_step_262 : decode cX7_step 262 = .ok (.dup, 1) := by decide +kernel
theorem dX7_step_263 : decode cX7_step 263 = .ok (.getfield 38, 3) := by decide +kernel
theorem dX7_step_266 : decode cX7_step 266 = .ok (.iconst 1, 1) := by decide +kernel
theorem dX7_step_267 : decode cX7_step 267 = .ok (.iadd, 1) := by decide +kernel
theorem dX7_step_268 : decode cX7_step 268 = .ok (.putfield 38, 3) := by decide +kernel
theorem dX7_step_271 : decode cX7_step 271 = .ok (.aload_n 0, 1) := by decide +kernel
theorem dX7_step_272 : decode cX7_step 272 = .ok (.getfield 18, 3) := by decide +kernel
theorem dX7_step_275 : decode cX7_step 275 = .ok (.aload_n 0, 1) := by decide +kernel
theorem dX7_step_276 : decode cX7_step 276 = .ok (.getfield 65, 3) := by decide +kernel
theorem dX7_step_279 : decode cX7_step 279 = .ok (.aload_n 0, 1) := by decide +kernel
theorem dX7_step_280 : decode cX7_step 280 = .ok (.getfield 72, 3) := by decide +kernel
theorem dX7_step_283 : decode cX7_step 283 = .ok (.iload_n 1, 1) := by decide +kernel
theorem dX7_step_284 : decode cX7_step 284 = .ok (.iconst 1, 1) := by decide +kernel
theorem dX7_step_285 : decode cX7_step 285 = .ok (.invokevirtual 117, 3) := by decide +kernel
theorem dX7_step_288 : decode cX7_step 288 = .ok (.invokestatic 61, 3) := by decide +kernel
theorem dX7_step_291 : decode cX7_step 291 = .ok (.aload_n 0, 1) := by decide +kernel
theorem dX7_step_292 : decode cX7_step 292 = .ok (.getfield 21, 3) := by decide +kernel
theorem dX7_step_295 : decode cX7_step 295 = .ok (.aload_n 0, 1) := by decide +kernel
theorem dX7_step_296 : decode cX7_step 296 = .ok (.getfield 65, 3) := by decide +kernel
theorem dX7_step_299 : decode cX7_step 299 = .ok (.bipush 12, 2) := by decide +kernel
theorem dX7_step_301 : decode cX7_step 301 = .ok (.imul, 1) := by decide +kernel
theorem dX7_step_302 : decode cX7_step 302 = .ok (.aload_n 0, 1) := by decide +kernel
theorem dX7_step_303 : decode cX7_step 303 = .ok (.getfield 72, 3) := by decide +kernel
theorem dX7_step_306 : decode cX7_step 306 = .ok (.iload_n 1, 1) := by decide +kernel
theorem dX7_step_307 : decode cX7_step 307 = .ok (.iconst 1, 1) := by decide +kernel
theorem dX7_step_308 : decode cX7_step 308 = .ok (.invokevirtual 117, 3) := by decide +kernel
theorem dX7_step_311 : decode cX7_step 311 = .ok (.iadd, 1) := by decide +kernel
theorem dX7_step_312 : decode cX7_step 312 = .ok (.iconst 0, 1) := by decide +kernel
theorem dX7_step_313 : decode cX7_step 313 = .ok (.invokestatic 61, 3) := by decide +kernel
theorem dX7_step_316 : decode cX7_step 316 = .ok (.goto 59, 3) := by decide +kernel
theorem dX7_step_319 : decode cX7_step 319 = .ok (.aload_n 0, 1) := by decide +kernel
theorem dX7_step_320 : decode cX7_step 320 = .ok (.dup, 1) := by decide +kernel
theorem dX7_step_321 : decode cX7_step 321 = .ok (.getfield 38, 3) := by decide +kernel
theorem dX7_step_324 : decode cX7_step 324 = .ok (.iconst 1, 1) := by decide +kernel
theorem dX7_step_325 : decode cX7_step 325 = .ok (.isub, 1) := by decide +kernel
theorem dX7_step_326 : decode cX7_step 326 = .ok (.putfield 38, 3) := by decide +kernel
theorem dX7_step_329 : decode cX7_step 329 = .ok (.aload_n 0, 1) := by decide +kernel
theorem dX7_step_330 : decode cX7_step 330 = .ok (.getfield 18, 3) := by decide +kernel
theorem dX7_step_333 : decode cX7_step 333 = .ok (.aload_n 0, 1) := by decide +kernel
theorem dX7_step_334 : decode cX7_step 334 = .ok (.getfield 65, 3) := by decide +kernel
theorem dX7_step_337 : decode cX7_step 337 = .ok (.aload_n 0, 1) := by decide +kernel
theorem dX7_step_338 : decode cX7_step 338 = .ok (.getfield 72, 3) := by decide +kernel
theorem dX7_step_341 : decode cX7_step 341 = .ok (.getfield 126, 3) := by decide +kernel
theorem dX7_step_344 : decode cX7_step 344 = .ok (.aload_n 0, 1) := by decide +kernel
theorem dX7_step_345 : decode cX7_step 345 = .ok (.getfield 72, 3) := by decide +kernel
theorem dX7_step_348 : decode cX7_step 348 = .ok (.iload_n 1, 1) := by decide +kernel
theorem dX7_step_349 : decode cX7_step 349 = .ok (.iconst 1, 1) := by decide +kernel
theorem dX7_step_350 : decode cX7_step 350 = .ok (.invokevirtual 117, 3) := by decide +kernel
theorem dX7_step_353 : decode cX7_step 353 = .ok (.invokestatic 91, 3) := by decide +kernel
theorem dX7_step_356 : decode cX7_step 356 = .ok (.invokestatic 61, 3) := by decide +kernel
theorem dX7_step_359 : decode cX7_step 359 = .ok (.goto 16, 3) := by decide +kernel
theorem dX7_step_46 : decode cX7_step 46 = .ok (.aload_n 0, 1) := by decide +kernel
theorem dX7_step_47 : decode cX7_step 47 = .ok (.iconst 3, 1) := by decide +kernel
theorem dX7_step_48 : decode cX7_step 48 = .ok (.putfield 34, 3) := by decide +kernel
theorem dX7_step_51 : decode cX7_step 51 = .ok (.iconst 0, 1) := by decide +kernel
theorem dX7_step_52 : decode cX7_step 52 = .ok (.ireturn, 1) := by decide +kernel
set_option maxRecDepth 20000 in
theorem k_X7_step (d : Nat) {T : CT} {σ : MS} {a : Nat} (ha : OB T a 7) (hta : (T a).1 = 37) (hw : WT T σ) (h8 : σ.2.1 57 a ≤ 11184799) : Tn (d + 5) m_X7_step 0 T σ [(0, .ref a)] [] (fun ro T2 σ2 => ∃ v : Int, ro = some (.int (iI v)) ∧ T = T2 ∧ WT T2 σ2 ∧ FrC T [56, 57, 58, 65, 66, 67, 68, 69, 515] σ σ2 ∧ (v = 0 ∨ v = 1) ∧ (σ2.2.1 57 a ≤ σ.2.1 57 a + 1) ∧ (FA a σ σ2)) := by
  refine tn_aload_n dX7_step_0 rfl 0 rfl ?_
  refine tn_callV (M := m_X7_step) (pc := 1) (ix := 103) (ci := 7) (M' := m_X7_place) (As := []) (rest := []) dX7_step_1 ok_X7_place im_X7_place se_X7_place ml7_103 np_X7_place rfl rfl ha rfl (Nat.le_of_ble_eq_true rfl) (Nat.le_of_ble_eq_true rfl) rfl (k_X7_place (d + 2) (T := T) (σ := σ) (a := a) ha hw ) (fun r1 T3 σ2 gt4 hp => ?_)
  obtain ⟨v6, rfl, rfl, rfl, f5⟩ := hp
  clear gt4
  show Tn _ _ 4 T σ [(0, .ref a)] [.int (iI v6)] _
  refine tn_istore_n (L' := [(1, .int (iI v6)), (0, .ref a)]) dX7_step_4 rfl (by decide) rfl ?_
  refine tn_aload_n dX7_step_5 rfl 1 rfl ?_
  rcases wf_69 hw ha with hx7 | ⟨x8, hx7, hk9a, hk9b⟩
  · refine tn_getN (ci := 7) (i := 14) (n := 69) dX7_step_6 rfl lay_7 (by decide) fl7_72 ha rfl rfl (Int.lt_of_le_of_lt (Int.le_of_eq (Eq.refl _)) hx7) ?_
    refine tn_ifnonnullN dX7_step_9 ?_
    refine tn_iconst dX7_step_12 ?_
    refine tn_goto (tgt := 24) dX7_step_13 (by decide) ?_
    refine tn_istore_n (L' := [(2, .int (iI (-1))), (1, .int (iI v6)), (0, .ref a)]) dX7_step_24 rfl (by decide) rfl ?_
    refine tn_iload_n dX7_step_25 rfl 0 rfl ?_
    refine tn_bipush dX7_step_26 (by decide) ?_
    refine tn_icmp_eq (tgt := 37) dX7_step_28 (by decide) ⟨by decide, by decide⟩ ⟨by decide, by decide⟩ (fun h => absurd h (by decide)) (fun _ => ?_)
    refine tn_iload_n dX7_step_31 rfl 0 rfl ?_
    refine tn_bipush dX7_step_32 (by decide) ?_
    refine tn_icmp_ne (tgt := 53) dX7_step_34 (by decide) ⟨by decide, by decide⟩ ⟨by decide, by decide⟩ (fun _ => ?_) (fun h => absurd h (by decide))
    refine tn_aload_n dX7_step_53 rfl 2 rfl ?_
    refine tn_dup dX7_step_54 rfl ?_
    refine tn_getI (ci := 7) (i := 12) (n := 67) (t := σ.2.1 67 a) dX7_step_55 rfl lay_7 (by decide) fl7_47 ha rfl rfl (rfl) ?_
    have g13 : ((-2147483648 : Int) ≤ σ.2.1 67 a ∧ σ.2.1 67 a ≤ 2147483647) := wf_67 hw ha
    refine tn_iconst dX7_step_58 ?_
    refine tn_iadd dX7_step_59 ?_
    refine tn_any (fun z14 g15 => ?_)
    have g15r : -2147483648 ≤ z14 ∧ z14 ≤ 2147483647 := g15
    refine tn_putV (ci := 7) (i := 12) (n := 67) (r := false) (v := z14) tyX7 tyX7_ok nmX7 dX7_step_60 rfl lay_7 (by decide) fl7_47 rfl (tyX7_ok 12 (by decide)) rfl rfl rfl ha rfl rfl ?_
    refine tn_iload_n dX7_step_63 rfl 1 rfl ?_
    refine tn_iconst dX7_step_64 ?_
    refine tn_iadd dX7_step_65 ?_
    refine tn_any (fun z16 g17 => ?_)
    have g17r : -2147483648 ≤ z16 ∧ z16 ≤ 2147483647 := g17
    refine tn_istore_n (L' := [(3, .int (iI z16)), (2, .int (iI (-1))), (1, .int (iI v6)), (0, .ref a)]) dX7_step_66 rfl (by decide) rfl ?_
    refine tn_iload_n dX7_step_67 rfl 1 rfl ?_
    refine tn_tableIn (tgt := 362) dX7_step_68 (x := -1) ⟨by decide, by decide⟩ (by decide) (by decide) rfl (by decide) ?_
    refine tn_aload_n dX7_step_362 rfl 3 rfl ?_
    refine tn_iconst dX7_step_363 ?_
    have q22 : (sA 67 a (z14) σ).2.1 57 a = σ.2.1 57 a := rc_o (by decide) (rfl)
    refine tn_callV (M := m_X7_step) (pc := 364) (ix := 123) (ci := 7) (M' := m_X7_giveBack) (As := [.int (iI 0)]) (rest := []) dX7_step_364 ok_X7_giveBack im_X7_giveBack se_X7_giveBack ml7_123 np_X7_giveBack rfl rfl ha rfl (Nat.le_of_ble_eq_true rfl) (Nat.le_of_ble_eq_true rfl) rfl (k_X7_giveBack (d + 1) (T := T) (σ := (sA 67 a (z14) σ)) (a := a) (n := 0) ha hta (by decide) (hw.put (by decide) (by decide) (fo_67 (by omega))) ) (fun r18 T20 σ19 gt21 hp => ?_)
    obtain ⟨rfl, rfl, w26, F27, f23, f24⟩ := hp
    clear gt21
    show Tn _ _ 367 T σ19 [(3, .int (iI z16)), (2, .int (iI (-1))), (1, .int (iI v6)), (0, .ref a)] [] _
    refine tn_iconst dX7_step_367 ?_
    have q28 : σ19.2.1 57 a = σ19.2.1 57 a := rfl
    exact tn_zret (v := 0) rfl (by decide) dX7_step_368 ⟨_, rfl, rfl, w26, ((FrC.rfl.put (by decide) (by decide)).trans (FrC.sub F27 (by decide))), by omega, by omega, ((FA.rfl.put).trans f24)⟩
  · have hk9 : (T x8).1 = 50 := hk9b (by omega)
    have hk9o : OB T x8 1 := ⟨by omega, by rw [hk9]; rfl, by omega⟩
    refine tn_getR (ci := 7) (i := 14) (n := 69) (x := x8) dX7_step_6 rfl lay_7 (by decide) fl7_72 ha rfl rfl (hx7) ?_
    refine tn_ifnonnull (tgt := 16) dX7_step_9 (by decide) ?_
    refine tn_aload_n dX7_step_16 rfl 1 rfl ?_
    refine tn_getR (ci := 7) (i := 14) (n := 69) (x := x8) dX7_step_17 rfl lay_7 (by decide) fl7_72 ha rfl rfl (hx7) ?_
    refine tn_iload_n dX7_step_20 rfl 0 rfl ?_
    refine tn_callV (M := m_X7_step) (pc := 21) (ix := 107) (ci := 1) (M' := m_X1_kindAt) (As := [.int (iI v6)]) (rest := []) dX7_step_21 ok_X1_kindAt im_X1_kindAt se_X1_kindAt ml7_107 np_X1_kindAt rfl rfl hk9o rfl (Nat.le_of_ble_eq_true rfl) (Nat.le_of_ble_eq_true rfl) rfl (k_X1_kindAt (d + 3) (T := T) (σ := σ) (a := x8) (k := v6) hk9o (by omega) hw ) (fun r29 T31 σ30 gt32 hp => ?_)
    obtain ⟨v35, rfl, rfl, rfl, f33, f34⟩ := hp
    clear gt32
    clear f34
    show Tn _ _ 24 T σ [(1, .int (iI v6)), (0, .ref a)] [.int (iI v35)] _
    refine tn_istore_n (L' := [(2, .int (iI v35)), (1, .int (iI v6)), (0, .ref a)]) dX7_step_24 rfl (by decide) rfl ?_
    refine tn_iload_n dX7_step_25 rfl 0 rfl ?_
    refine tn_bipush dX7_step_26 (by decide) ?_
    refine tn_icmp_eq (tgt := 37) dX7_step_28 (by decide) ⟨by omega, by omega⟩ ⟨by decide, by decide⟩ (fun h36 => ?_) (fun h36 => ?_)
    · refine tn_aload_n dX7_step_37 rfl 2 rfl ?_
      refine tn_getI (ci := 7) (i := 3) (n := 58) (t := σ.2.1 58 a) dX7_step_38 rfl lay_7 (by decide) fl7_38 ha rfl rfl (rfl) ?_
      have g37 : ((-2147483648 : Int) ≤ σ.2.1 58 a ∧ σ.2.1 58 a ≤ 2147483647) := wf_58 hw ha
      refine tn_bipush dX7_step_41 (by decide) ?_
      refine tn_icmp_le (tgt := 53) dX7_step_43 (by decide) ⟨by omega, by omega⟩ ⟨by decide, by decide⟩ (fun h38 => ?_) (fun h38 => ?_)
      · refine tn_aload_n dX7_step_53 rfl 2 rfl ?_
        refine tn_dup dX7_step_54 rfl ?_
        refine tn_getI (ci := 7) (i := 12) (n := 67) (t := σ.2.1 67 a) dX7_step_55 rfl lay_7 (by decide) fl7_47 ha rfl rfl (rfl) ?_
        have g39 : ((-2147483648 : Int) ≤ σ.2.1 67 a ∧ σ.2.1 67 a ≤ 2147483647) := wf_67 hw ha
        refine tn_iconst dX7_step_58 ?_
        refine tn_iadd dX7_step_59 ?_
        refine tn_any (fun z40 g41 => ?_)
        have g41r : -2147483648 ≤ z40 ∧ z40 ≤ 2147483647 := g41
        refine tn_putV (ci := 7) (i := 12) (n := 67) (r := false) (v := z40) tyX7 tyX7_ok nmX7 dX7_step_60 rfl lay_7 (by decide) fl7_47 rfl (tyX7_ok 12 (by decide)) rfl rfl rfl ha rfl rfl ?_
        refine tn_iload_n dX7_step_63 rfl 1 rfl ?_
        refine tn_iconst dX7_step_64 ?_
        refine tn_iadd dX7_step_65 ?_
        refine tn_any (fun z42 g43 => ?_)
        have g43r : -2147483648 ≤ z42 ∧ z42 ≤ 2147483647 := g43
        refine tn_istore_n (L' := [(3, .int (iI z42)), (2, .int (iI v35)), (1, .int (iI v6)), (0, .ref a)]) dX7_step_66 rfl (by decide) rfl ?_
        refine tn_iload_n dX7_step_67 rfl 1 rfl ?_
        by_cases h44 : v35 < -1 ∨ 15 < v35
        · refine tn_tableOut (tgt := 369) dX7_step_68 (x := v35) ⟨by omega, by omega⟩ h44 (by decide) ?_
          refine tn_aload_n dX7_step_369 rfl 3 rfl ?_
          refine tn_iload_n dX7_step_370 rfl 2 rfl ?_
          refine tn_iload_n dX7_step_371 rfl 1 rfl ?_
          refine tn_callV (M := m_X7_step) (pc := 372) (ix := 129) (ci := 7) (M' := m_X7_reckonAt) (As := [.int (iI v6), .int (iI v35)]) (rest := []) dX7_step_372 ok_X7_reckonAt im_X7_reckonAt se_X7_reckonAt ml7_129 np_X7_reckonAt rfl rfl ha rfl (Nat.le_of_ble_eq_true rfl) (Nat.le_of_ble_eq_true rfl) rfl (k_X7_reckonAt (d + 1) (T := T) (σ := (sA 67 a (z40) σ)) (a := a) (k := v6) (e := v35) ha (by omega) (by omega) (hw.put (by decide) (by decide) (fo_67 (by omega))) (by rw [show (sA 67 a (z40) σ).2.1 69 a = _ from rc_o (by decide) (hx7)]; omega)) (fun r45 T47 σ46 gt48 hp => ?_)
          obtain ⟨rfl, rfl, w50, F51⟩ := hp
          clear gt48
          show Tn _ _ 375 T σ46 [(3, .int (iI z42)), (2, .int (iI v35)), (1, .int (iI v6)), (0, .ref a)] [] _
          refine tn_aload_n dX7_step_375 rfl 3 rfl ?_
          obtain ⟨x52, hx53, hk54, hl55⟩ : ∃ x : Nat, σ.2.1 60 a = (x : Int) ∧ AR T x 1 9 9 := wf_60 hw ha
          have hk54i : IA T x52 := by unfold IA; omega
          refine tn_getR (ci := 7) (i := 5) (n := 60) (x := x52) dX7_step_376 rfl lay_7 (by decide) fl7_15 ha rfl rfl (rc_F F51 (Or.inl (by decide)) (by decide) (rc_o (by decide) (hx53))) ?_
          refine tn_aload_n dX7_step_379 rfl 3 rfl ?_
          refine tn_getI (ci := 7) (i := 2) (n := 57) (t := σ.2.1 57 a) dX7_step_380 rfl lay_7 (by decide) fl7_65 ha rfl rfl (rc_F F51 (Or.inl (by decide)) (by decide) (rc_o (by decide) (rfl))) ?_
          have g56 : ((0 : Int) ≤ σ.2.1 57 a ∧ σ.2.1 57 a ≤ 11184800) ∧ ((T a).1 = 57 → σ.2.1 57 a ≤ 8) := wf_57 hw ha
          have g56x := g56.2
          replace g56 := g56.1
          clear g56x
          refine tn_iload_n dX7_step_383 rfl 0 rfl ?_
          refine tn_callSN (M := m_X7_step) (pc := 384) (ix := 61) (M' := m_X11_put) (As := [.ref x52, .int (iI (σ.2.1 57 a)), .int (iI z42)]) (rest := []) dX7_step_384 ok_X11_put stt_X11_put nl7_61 np_X11_put rfl (Nat.le_of_ble_eq_true rfl) (Nat.le_of_ble_eq_true rfl) rfl (k_X11_put (d + 3) (T := T) (σ := σ46) (x := x52) (i := σ.2.1 57 a) (y := z42) hk54i (by omega) (by omega) (by omega) w50 (nh_k hk54 (by unfold HT; omega)) (vok_1 (by have q9 := hk54; omega) (by omega))) (fun r57 T59 σ58 gt60 hp => ?_)
          obtain ⟨rfl, rfl, w62, F63⟩ := hp
          clear gt60
          show Tn _ _ 387 T σ58 [(3, .int (iI z42)), (2, .int (iI v35)), (1, .int (iI v6)), (0, .ref a)] [] _
          refine tn_iload_n dX7_step_387 rfl 1 rfl ?_
          refine tn_bipush dX7_step_388 (by decide) ?_
          refine tn_icmp_ne (tgt := 397) dX7_step_390 (by decide) ⟨by omega, by omega⟩ ⟨by decide, by decide⟩ (fun h64 => ?_) (fun h64 => absurd h64 (by omega))
          refine tn_iconst dX7_step_397 ?_
          have q65 : σ58.2.1 57 a = σ.2.1 57 a := rc_F F63 (Or.inl (by decide)) (by decide) (rc_F F51 (Or.inl (by decide)) (by decide) (rc_o (by decide) (rfl)))
          exact tn_zret (v := 0) rfl (by decide) dX7_step_398 ⟨_, rfl, rfl, w62, (((FrC.rfl.put (by decide) (by decide)).trans (FrC.sub F51 (by decide))).trans (FrC.sub F63 (by decide))), by omega, by omega, (((FA.rfl.put).trans (FA.of F51 (by decide))).trans (FA.of F63 (by decide)))⟩
        · have h66 : v35 = -1 ∨ v35 = 0 ∨ v35 = 1 ∨ v35 = 2 ∨ v35 = 3 ∨ v35 = 4 ∨ v35 = 5 ∨ v35 = 6 ∨ v35 = 7 ∨ v35 = 8 ∨ v35 = 9 ∨ v35 = 10 ∨ v35 = 11 ∨ v35 = 12 ∨ v35 = 13 ∨ v35 = 14 ∨ v35 = 15 := by omega
          rcases h66 with h66 | h66 | h66 | h66 | h66 | h66 | h66 | h66 | h66 | h66 | h66 | h66 | h66 | h66 | h66 | h66 | h66
          · refine tn_tableIn (tgt := 362) (off := 294) dX7_step_68 (x := v35) ⟨by omega, by omega⟩ (by omega) (by omega) (by rw [h66]; rfl) (by decide) ?_
            refine tn_aload_n dX7_step_362 rfl 3 rfl ?_
            refine tn_iconst dX7_step_363 ?_
            have q71 : (sA 67 a (z40) σ).2.1 57 a = σ.2.1 57 a := rc_o (by decide) (rfl)
            refine tn_callV (M := m_X7_step) (pc := 364) (ix := 123) (ci := 7) (M' := m_X7_giveBack) (As := [.int (iI 0)]) (rest := []) dX7_step_364 ok_X7_giveBack im_X7_giveBack se_X7_giveBack ml7_123 np_X7_giveBack rfl rfl ha rfl (Nat.le_of_ble_eq_true rfl) (Nat.le_of_ble_eq_true rfl) rfl (k_X7_giveBack (d + 1) (T := T) (σ := (sA 67 a (z40) σ)) (a := a) (n := 0) ha hta (by decide) (hw.put (by decide) (by decide) (fo_67 (by omega))) ) (fun r67 T69 σ68 gt70 hp => ?_)
            obtain ⟨rfl, rfl, w75, F76, f72, f73⟩ := hp
            clear gt70
            show Tn _ _ 367 T σ68 [(3, .int (iI z42)), (2, .int (iI v35)), (1, .int (iI v6)), (0, .ref a)] [] _
            refine tn_iconst dX7_step_367 ?_
            have q77 : σ68.2.1 57 a = σ68.2.1 57 a := rfl
            exact tn_zret (v := 0) rfl (by decide) dX7_step_368 ⟨_, rfl, rfl, w75, ((FrC.rfl.put (by decide) (by decide)).trans (FrC.sub F76 (by decide))), by omega, by omega, ((FA.rfl.put).trans f73)⟩
          · refine tn_tableIn (tgt := 369) (off := 301) dX7_step_68 (x := v35) ⟨by omega, by omega⟩ (by omega) (by omega) (by rw [h66]; rfl) (by decide) ?_
            refine tn_aload_n dX7_step_369 rfl 3 rfl ?_
            refine tn_iload_n dX7_step_370 rfl 2 rfl ?_
            refine tn_iload_n dX7_step_371 rfl 1 rfl ?_
            refine tn_callV (M := m_X7_step) (pc := 372) (ix := 129) (ci := 7) (M' := m_X7_reckonAt) (As := [.int (iI v6), .int (iI v35)]) (rest := []) dX7_step_372 ok_X7_reckonAt im_X7_reckonAt se_X7_reckonAt ml7_129 np_X7_reckonAt rfl rfl ha rfl (Nat.le_of_ble_eq_true rfl) (Nat.le_of_ble_eq_true rfl) rfl (k_X7_reckonAt (d + 1) (T := T) (σ := (sA 67 a (z40) σ)) (a := a) (k := v6) (e := v35) ha (by omega) (by omega) (hw.put (by decide) (by decide) (fo_67 (by omega))) (by rw [show (sA 67 a (z40) σ).2.1 69 a = _ from rc_o (by decide) (hx7)]; omega)) (fun r78 T80 σ79 gt81 hp => ?_)
            obtain ⟨rfl, rfl, w83, F84⟩ := hp
            clear gt81
            show Tn _ _ 375 T σ79 [(3, .int (iI z42)), (2, .int (iI v35)), (1, .int (iI v6)), (0, .ref a)] [] _
            refine tn_aload_n dX7_step_375 rfl 3 rfl ?_
            obtain ⟨x85, hx86, hk87, hl88⟩ : ∃ x : Nat, σ.2.1 60 a = (x : Int) ∧ AR T x 1 9 9 := wf_60 hw ha
            have hk87i : IA T x85 := by unfold IA; omega
            refine tn_getR (ci := 7) (i := 5) (n := 60) (x := x85) dX7_step_376 rfl lay_7 (by decide) fl7_15 ha rfl rfl (rc_F F84 (Or.inl (by decide)) (by decide) (rc_o (by decide) (hx86))) ?_
            refine tn_aload_n dX7_step_379 rfl 3 rfl ?_
            refine tn_getI (ci := 7) (i := 2) (n := 57) (t := σ.2.1 57 a) dX7_step_380 rfl lay_7 (by decide) fl7_65 ha rfl rfl (rc_F F84 (Or.inl (by decide)) (by decide) (rc_o (by decide) (rfl))) ?_
            have g89 : ((0 : Int) ≤ σ.2.1 57 a ∧ σ.2.1 57 a ≤ 11184800) ∧ ((T a).1 = 57 → σ.2.1 57 a ≤ 8) := wf_57 hw ha
            have g89x := g89.2
            replace g89 := g89.1
            clear g89x
            refine tn_iload_n dX7_step_383 rfl 0 rfl ?_
            refine tn_callSN (M := m_X7_step) (pc := 384) (ix := 61) (M' := m_X11_put) (As := [.ref x85, .int (iI (σ.2.1 57 a)), .int (iI z42)]) (rest := []) dX7_step_384 ok_X11_put stt_X11_put nl7_61 np_X11_put rfl (Nat.le_of_ble_eq_true rfl) (Nat.le_of_ble_eq_true rfl) rfl (k_X11_put (d + 3) (T := T) (σ := σ79) (x := x85) (i := σ.2.1 57 a) (y := z42) hk87i (by omega) (by omega) (by omega) w83 (nh_k hk87 (by unfold HT; omega)) (vok_1 (by have q9 := hk87; omega) (by omega))) (fun r90 T92 σ91 gt93 hp => ?_)
            obtain ⟨rfl, rfl, w95, F96⟩ := hp
            clear gt93
            show Tn _ _ 387 T σ91 [(3, .int (iI z42)), (2, .int (iI v35)), (1, .int (iI v6)), (0, .ref a)] [] _
            refine tn_iload_n dX7_step_387 rfl 1 rfl ?_
            refine tn_bipush dX7_step_388 (by decide) ?_
            refine tn_icmp_ne (tgt := 397) dX7_step_390 (by decide) ⟨by omega, by omega⟩ ⟨by decide, by decide⟩ (fun h97 => ?_) (fun h97 => absurd h97 (by omega))
            refine tn_iconst dX7_step_397 ?_
            have q98 : σ91.2.1 57 a = σ.2.1 57 a := rc_F F96 (Or.inl (by decide)) (by decide) (rc_F F84 (Or.inl (by decide)) (by decide) (rc_o (by decide) (rfl)))
            exact tn_zret (v := 0) rfl (by decide) dX7_step_398 ⟨_, rfl, rfl, w95, (((FrC.rfl.put (by decide) (by decide)).trans (FrC.sub F84 (by decide))).trans (FrC.sub F96 (by decide))), by omega, by omega, (((FA.rfl.put).trans (FA.of F84 (by decide))).trans (FA.of F96 (by decide)))⟩
          · refine tn_tableIn (tgt := 369) (off := 301) dX7_step_68 (x := v35) ⟨by omega, by omega⟩ (by omega) (by omega) (by rw [h66]; rfl) (by decide) ?_
            refine tn_aload_n dX7_step_369 rfl 3 rfl ?_
            refine tn_iload_n dX7_step_370 rfl 2 rfl ?_
            refine tn_iload_n dX7_step_371 rfl 1 rfl ?_
            refine tn_callV (M := m_X7_step) (pc := 372) (ix := 129) (ci := 7) (M' := m_X7_reckonAt) (As := [.int (iI v6), .int (iI v35)]) (rest := []) dX7_step_372 ok_X7_reckonAt im_X7_reckonAt se_X7_reckonAt ml7_129 np_X7_reckonAt rfl rfl ha rfl (Nat.le_of_ble_eq_true rfl) (Nat.le_of_ble_eq_true rfl) rfl (k_X7_reckonAt (d + 1) (T := T) (σ := (sA 67 a (z40) σ)) (a := a) (k := v6) (e := v35) ha (by omega) (by omega) (hw.put (by decide) (by decide) (fo_67 (by omega))) (by rw [show (sA 67 a (z40) σ).2.1 69 a = _ from rc_o (by decide) (hx7)]; omega)) (fun r99 T101 σ100 gt102 hp => ?_)
            obtain ⟨rfl, rfl, w104, F105⟩ := hp
            clear gt102
            show Tn _ _ 375 T σ100 [(3, .int (iI z42)), (2, .int (iI v35)), (1, .int (iI v6)), (0, .ref a)] [] _
            refine tn_aload_n dX7_step_375 rfl 3 rfl ?_
            obtain ⟨x106, hx107, hk108, hl109⟩ : ∃ x : Nat, σ.2.1 60 a = (x : Int) ∧ AR T x 1 9 9 := wf_60 hw ha
            have hk108i : IA T x106 := by unfold IA; omega
            refine tn_getR (ci := 7) (i := 5) (n := 60) (x := x106) dX7_step_376 rfl lay_7 (by decide) fl7_15 ha rfl rfl (rc_F F105 (Or.inl (by decide)) (by decide) (rc_o (by decide) (hx107))) ?_
            refine tn_aload_n dX7_step_379 rfl 3 rfl ?_
            refine tn_getI (ci := 7) (i := 2) (n := 57) (t := σ.2.1 57 a) dX7_step_380 rfl lay_7 (by decide) fl7_65 ha rfl rfl (rc_F F105 (Or.inl (by decide)) (by decide) (rc_o (by decide) (rfl))) ?_
            have g110 : ((0 : Int) ≤ σ.2.1 57 a ∧ σ.2.1 57 a ≤ 11184800) ∧ ((T a).1 = 57 → σ.2.1 57 a ≤ 8) := wf_57 hw ha
            have g110x := g110.2
            replace g110 := g110.1
            clear g110x
            refine tn_iload_n dX7_step_383 rfl 0 rfl ?_
            refine tn_callSN (M := m_X7_step) (pc := 384) (ix := 61) (M' := m_X11_put) (As := [.ref x106, .int (iI (σ.2.1 57 a)), .int (iI z42)]) (rest := []) dX7_step_384 ok_X11_put stt_X11_put nl7_61 np_X11_put rfl (Nat.le_of_ble_eq_true rfl) (Nat.le_of_ble_eq_true rfl) rfl (k_X11_put (d + 3) (T := T) (σ := σ100) (x := x106) (i := σ.2.1 57 a) (y := z42) hk108i (by omega) (by omega) (by omega) w104 (nh_k hk108 (by unfold HT; omega)) (vok_1 (by have q9 := hk108; omega) (by omega))) (fun r111 T113 σ112 gt114 hp => ?_)
            obtain ⟨rfl, rfl, w116, F117⟩ := hp
            clear gt114
            show Tn _ _ 387 T σ112 [(3, .int (iI z42)), (2, .int (iI v35)), (1, .int (iI v6)), (0, .ref a)] [] _
            refine tn_iload_n dX7_step_387 rfl 1 rfl ?_
            refine tn_bipush dX7_step_388 (by decide) ?_
            refine tn_icmp_ne (tgt := 397) dX7_step_390 (by decide) ⟨by omega, by omega⟩ ⟨by decide, by decide⟩ (fun h118 => ?_) (fun h118 => absurd h118 (by omega))
            refine tn_iconst dX7_step_397 ?_
            have q119 : σ112.2.1 57 a = σ.2.1 57 a := rc_F F117 (Or.inl (by decide)) (by decide) (rc_F F105 (Or.inl (by decide)) (by decide) (rc_o (by decide) (rfl)))
            exact tn_zret (v := 0) rfl (by decide) dX7_step_398 ⟨_, rfl, rfl, w116, (((FrC.rfl.put (by decide) (by decide)).trans (FrC.sub F105 (by decide))).trans (FrC.sub F117 (by decide))), by omega, by omega, (((FA.rfl.put).trans (FA.of F105 (by decide))).trans (FA.of F117 (by decide)))⟩
          · refine tn_tableIn (tgt := 369) (off := 301) dX7_step_68 (x := v35) ⟨by omega, by omega⟩ (by omega) (by omega) (by rw [h66]; rfl) (by decide) ?_
            refine tn_aload_n dX7_step_369 rfl 3 rfl ?_
            refine tn_iload_n dX7_step_370 rfl 2 rfl ?_
            refine tn_iload_n dX7_step_371 rfl 1 rfl ?_
            refine tn_callV (M := m_X7_step) (pc := 372) (ix := 129) (ci := 7) (M' := m_X7_reckonAt) (As := [.int (iI v6), .int (iI v35)]) (rest := []) dX7_step_372 ok_X7_reckonAt im_X7_reckonAt se_X7_reckonAt ml7_129 np_X7_reckonAt rfl rfl ha rfl (Nat.le_of_ble_eq_true rfl) (Nat.le_of_ble_eq_true rfl) rfl (k_X7_reckonAt (d + 1) (T := T) (σ := (sA 67 a (z40) σ)) (a := a) (k := v6) (e := v35) ha (by omega) (by omega) (hw.put (by decide) (by decide) (fo_67 (by omega))) (by rw [show (sA 67 a (z40) σ).2.1 69 a = _ from rc_o (by decide) (hx7)]; omega)) (fun r120 T122 σ121 gt123 hp => ?_)
            obtain ⟨rfl, rfl, w125, F126⟩ := hp
            clear gt123
            show Tn _ _ 375 T σ121 [(3, .int (iI z42)), (2, .int (iI v35)), (1, .int (iI v6)), (0, .ref a)] [] _
            refine tn_aload_n dX7_step_375 rfl 3 rfl ?_
            obtain ⟨x127, hx128, hk129, hl130⟩ : ∃ x : Nat, σ.2.1 60 a = (x : Int) ∧ AR T x 1 9 9 := wf_60 hw ha
            have hk129i : IA T x127 := by unfold IA; omega
            refine tn_getR (ci := 7) (i := 5) (n := 60) (x := x127) dX7_step_376 rfl lay_7 (by decide) fl7_15 ha rfl rfl (rc_F F126 (Or.inl (by decide)) (by decide) (rc_o (by decide) (hx128))) ?_
            refine tn_aload_n dX7_step_379 rfl 3 rfl ?_
            refine tn_getI (ci := 7) (i := 2) (n := 57) (t := σ.2.1 57 a) dX7_step_380 rfl lay_7 (by decide) fl7_65 ha rfl rfl (rc_F F126 (Or.inl (by decide)) (by decide) (rc_o (by decide) (rfl))) ?_
            have g131 : ((0 : Int) ≤ σ.2.1 57 a ∧ σ.2.1 57 a ≤ 11184800) ∧ ((T a).1 = 57 → σ.2.1 57 a ≤ 8) := wf_57 hw ha
            have g131x := g131.2
            replace g131 := g131.1
            clear g131x
            refine tn_iload_n dX7_step_383 rfl 0 rfl ?_
            refine tn_callSN (M := m_X7_step) (pc := 384) (ix := 61) (M' := m_X11_put) (As := [.ref x127, .int (iI (σ.2.1 57 a)), .int (iI z42)]) (rest := []) dX7_step_384 ok_X11_put stt_X11_put nl7_61 np_X11_put rfl (Nat.le_of_ble_eq_true rfl) (Nat.le_of_ble_eq_true rfl) rfl (k_X11_put (d + 3) (T := T) (σ := σ121) (x := x127) (i := σ.2.1 57 a) (y := z42) hk129i (by omega) (by omega) (by omega) w125 (nh_k hk129 (by unfold HT; omega)) (vok_1 (by have q9 := hk129; omega) (by omega))) (fun r132 T134 σ133 gt135 hp => ?_)
            obtain ⟨rfl, rfl, w137, F138⟩ := hp
            clear gt135
            show Tn _ _ 387 T σ133 [(3, .int (iI z42)), (2, .int (iI v35)), (1, .int (iI v6)), (0, .ref a)] [] _
            refine tn_iload_n dX7_step_387 rfl 1 rfl ?_
            refine tn_bipush dX7_step_388 (by decide) ?_
            refine tn_icmp_ne (tgt := 397) dX7_step_390 (by decide) ⟨by omega, by omega⟩ ⟨by decide, by decide⟩ (fun h139 => ?_) (fun h139 => absurd h139 (by omega))
            refine tn_iconst dX7_step_397 ?_
            have q140 : σ133.2.1 57 a = σ.2.1 57 a := rc_F F138 (Or.inl (by decide)) (by decide) (rc_F F126 (Or.inl (by decide)) (by decide) (rc_o (by decide) (rfl)))
            exact tn_zret (v := 0) rfl (by decide) dX7_step_398 ⟨_, rfl, rfl, w137, (((FrC.rfl.put (by decide) (by decide)).trans (FrC.sub F126 (by decide))).trans (FrC.sub F138 (by decide))), by omega, by omega, (((FA.rfl.put).trans (FA.of F126 (by decide))).trans (FA.of F138 (by decide)))⟩
          · refine tn_tableIn (tgt := 369) (off := 301) dX7_step_68 (x := v35) ⟨by omega, by omega⟩ (by omega) (by omega) (by rw [h66]; rfl) (by decide) ?_
            refine tn_aload_n dX7_step_369 rfl 3 rfl ?_
            refine tn_iload_n dX7_step_370 rfl 2 rfl ?_
            refine tn_iload_n dX7_step_371 rfl 1 rfl ?_
            refine tn_callV (M := m_X7_step) (pc := 372) (ix := 129) (ci := 7) (M' := m_X7_reckonAt) (As := [.int (iI v6), .int (iI v35)]) (rest := []) dX7_step_372 ok_X7_reckonAt im_X7_reckonAt se_X7_reckonAt ml7_129 np_X7_reckonAt rfl rfl ha rfl (Nat.le_of_ble_eq_true rfl) (Nat.le_of_ble_eq_true rfl) rfl (k_X7_reckonAt (d + 1) (T := T) (σ := (sA 67 a (z40) σ)) (a := a) (k := v6) (e := v35) ha (by omega) (by omega) (hw.put (by decide) (by decide) (fo_67 (by omega))) (by rw [show (sA 67 a (z40) σ).2.1 69 a = _ from rc_o (by decide) (hx7)]; omega)) (fun r141 T143 σ142 gt144 hp => ?_)
            obtain ⟨rfl, rfl, w146, F147⟩ := hp
            clear gt144
            show Tn _ _ 375 T σ142 [(3, .int (iI z42)), (2, .int (iI v35)), (1, .int (iI v6)), (0, .ref a)] [] _
            refine tn_aload_n dX7_step_375 rfl 3 rfl ?_
            obtain ⟨x148, hx149, hk150, hl151⟩ : ∃ x : Nat, σ.2.1 60 a = (x : Int) ∧ AR T x 1 9 9 := wf_60 hw ha
            have hk150i : IA T x148 := by unfold IA; omega
            refine tn_getR (ci := 7) (i := 5) (n := 60) (x := x148) dX7_step_376 rfl lay_7 (by decide) fl7_15 ha rfl rfl (rc_F F147 (Or.inl (by decide)) (by decide) (rc_o (by decide) (hx149))) ?_
            refine tn_aload_n dX7_step_379 rfl 3 rfl ?_
            refine tn_getI (ci := 7) (i := 2) (n := 57) (t := σ.2.1 57 a) dX7_step_380 rfl lay_7 (by decide) fl7_65 ha rfl rfl (rc_F F147 (Or.inl (by decide)) (by decide) (rc_o (by decide) (rfl))) ?_
            have g152 : ((0 : Int) ≤ σ.2.1 57 a ∧ σ.2.1 57 a ≤ 11184800) ∧ ((T a).1 = 57 → σ.2.1 57 a ≤ 8) := wf_57 hw ha
            have g152x := g152.2
            replace g152 := g152.1
            clear g152x
            refine tn_iload_n dX7_step_383 rfl 0 rfl ?_
            refine tn_callSN (M := m_X7_step) (pc := 384) (ix := 61) (M' := m_X11_put) (As := [.ref x148, .int (iI (σ.2.1 57 a)), .int (iI z42)]) (rest := []) dX7_step_384 ok_X11_put stt_X11_put nl7_61 np_X11_put rfl (Nat.le_of_ble_eq_true rfl) (Nat.le_of_ble_eq_true rfl) rfl (k_X11_put (d + 3) (T := T) (σ := σ142) (x := x148) (i := σ.2.1 57 a) (y := z42) hk150i (by omega) (by omega) (by omega) w146 (nh_k hk150 (by unfold HT; omega)) (vok_1 (by have q9 := hk150; omega) (by omega))) (fun r153 T155 σ154 gt156 hp => ?_)
            obtain ⟨rfl, rfl, w158, F159⟩ := hp
            clear gt156
            show Tn _ _ 387 T σ154 [(3, .int (iI z42)), (2, .int (iI v35)), (1, .int (iI v6)), (0, .ref a)] [] _
            refine tn_iload_n dX7_step_387 rfl 1 rfl ?_
            refine tn_bipush dX7_step_388 (by decide) ?_
            refine tn_icmp_ne (tgt := 397) dX7_step_390 (by decide) ⟨by omega, by omega⟩ ⟨by decide, by decide⟩ (fun h160 => ?_) (fun h160 => absurd h160 (by omega))
            refine tn_iconst dX7_step_397 ?_
            have q161 : σ154.2.1 57 a = σ.2.1 57 a := rc_F F159 (Or.inl (by decide)) (by decide) (rc_F F147 (Or.inl (by decide)) (by decide) (rc_o (by decide) (rfl)))
            exact tn_zret (v := 0) rfl (by decide) dX7_step_398 ⟨_, rfl, rfl, w158, (((FrC.rfl.put (by decide) (by decide)).trans (FrC.sub F147 (by decide))).trans (FrC.sub F159 (by decide))), by omega, by omega, (((FA.rfl.put).trans (FA.of F147 (by decide))).trans (FA.of F159 (by decide)))⟩
          · refine tn_tableIn (tgt := 369) (off := 301) dX7_step_68 (x := v35) ⟨by omega, by omega⟩ (by omega) (by omega) (by rw [h66]; rfl) (by decide) ?_
            refine tn_aload_n dX7_step_369 rfl 3 rfl ?_
            refine tn_iload_n dX7_step_370 rfl 2 rfl ?_
            refine tn_iload_n dX7_step_371 rfl 1 rfl ?_
            refine tn_callV (M := m_X7_step) (pc := 372) (ix := 129) (ci := 7) (M' := m_X7_reckonAt) (As := [.int (iI v6), .int (iI v35)]) (rest := []) dX7_step_372 ok_X7_reckonAt im_X7_reckonAt se_X7_reckonAt ml7_129 np_X7_reckonAt rfl rfl ha rfl (Nat.le_of_ble_eq_true rfl) (Nat.le_of_ble_eq_true rfl) rfl (k_X7_reckonAt (d + 1) (T := T) (σ := (sA 67 a (z40) σ)) (a := a) (k := v6) (e := v35) ha (by omega) (by omega) (hw.put (by decide) (by decide) (fo_67 (by omega))) (by rw [show (sA 67 a (z40) σ).2.1 69 a = _ from rc_o (by decide) (hx7)]; omega)) (fun r162 T164 σ163 gt165 hp => ?_)
            obtain ⟨rfl, rfl, w167, F168⟩ := hp
            clear gt165
            show Tn _ _ 375 T σ163 [(3, .int (iI z42)), (2, .int (iI v35)), (1, .int (iI v6)), (0, .ref a)] [] _
            refine tn_aload_n dX7_step_375 rfl 3 rfl ?_
            obtain ⟨x169, hx170, hk171, hl172⟩ : ∃ x : Nat, σ.2.1 60 a = (x : Int) ∧ AR T x 1 9 9 := wf_60 hw ha
            have hk171i : IA T x169 := by unfold IA; omega
            refine tn_getR (ci := 7) (i := 5) (n := 60) (x := x169) dX7_step_376 rfl lay_7 (by decide) fl7_15 ha rfl rfl (rc_F F168 (Or.inl (by decide)) (by decide) (rc_o (by decide) (hx170))) ?_
            refine tn_aload_n dX7_step_379 rfl 3 rfl ?_
            refine tn_getI (ci := 7) (i := 2) (n := 57) (t := σ.2.1 57 a) dX7_step_380 rfl lay_7 (by decide) fl7_65 ha rfl rfl (rc_F F168 (Or.inl (by decide)) (by decide) (rc_o (by decide) (rfl))) ?_
            have g173 : ((0 : Int) ≤ σ.2.1 57 a ∧ σ.2.1 57 a ≤ 11184800) ∧ ((T a).1 = 57 → σ.2.1 57 a ≤ 8) := wf_57 hw ha
            have g173x := g173.2
            replace g173 := g173.1
            clear g173x
            refine tn_iload_n dX7_step_383 rfl 0 rfl ?_
            refine tn_callSN (M := m_X7_step) (pc := 384) (ix := 61) (M' := m_X11_put) (As := [.ref x169, .int (iI (σ.2.1 57 a)), .int (iI z42)]) (rest := []) dX7_step_384 ok_X11_put stt_X11_put nl7_61 np_X11_put rfl (Nat.le_of_ble_eq_true rfl) (Nat.le_of_ble_eq_true rfl) rfl (k_X11_put (d + 3) (T := T) (σ := σ163) (x := x169) (i := σ.2.1 57 a) (y := z42) hk171i (by omega) (by omega) (by omega) w167 (nh_k hk171 (by unfold HT; omega)) (vok_1 (by have q9 := hk171; omega) (by omega))) (fun r174 T176 σ175 gt177 hp => ?_)
            obtain ⟨rfl, rfl, w179, F180⟩ := hp
            clear gt177
            show Tn _ _ 387 T σ175 [(3, .int (iI z42)), (2, .int (iI v35)), (1, .int (iI v6)), (0, .ref a)] [] _
            refine tn_iload_n dX7_step_387 rfl 1 rfl ?_
            refine tn_bipush dX7_step_388 (by decide) ?_
            refine tn_icmp_ne (tgt := 397) dX7_step_390 (by decide) ⟨by omega, by omega⟩ ⟨by decide, by decide⟩ (fun h181 => ?_) (fun h181 => absurd h181 (by omega))
            refine tn_iconst dX7_step_397 ?_
            have q182 : σ175.2.1 57 a = σ.2.1 57 a := rc_F F180 (Or.inl (by decide)) (by decide) (rc_F F168 (Or.inl (by decide)) (by decide) (rc_o (by decide) (rfl)))
            exact tn_zret (v := 0) rfl (by decide) dX7_step_398 ⟨_, rfl, rfl, w179, (((FrC.rfl.put (by decide) (by decide)).trans (FrC.sub F168 (by decide))).trans (FrC.sub F180 (by decide))), by omega, by omega, (((FA.rfl.put).trans (FA.of F168 (by decide))).trans (FA.of F180 (by decide)))⟩
          · refine tn_tableIn (tgt := 369) (off := 301) dX7_step_68 (x := v35) ⟨by omega, by omega⟩ (by omega) (by omega) (by rw [h66]; rfl) (by decide) ?_
            refine tn_aload_n dX7_step_369 rfl 3 rfl ?_
            refine tn_iload_n dX7_step_370 rfl 2 rfl ?_
            refine tn_iload_n dX7_step_371 rfl 1 rfl ?_
            refine tn_callV (M := m_X7_step) (pc := 372) (ix := 129) (ci := 7) (M' := m_X7_reckonAt) (As := [.int (iI v6), .int (iI v35)]) (rest := []) dX7_step_372 ok_X7_reckonAt im_X7_reckonAt se_X7_reckonAt ml7_129 np_X7_reckonAt rfl rfl ha rfl (Nat.le_of_ble_eq_true rfl) (Nat.le_of_ble_eq_true rfl) rfl (k_X7_reckonAt (d + 1) (T := T) (σ := (sA 67 a (z40) σ)) (a := a) (k := v6) (e := v35) ha (by omega) (by omega) (hw.put (by decide) (by decide) (fo_67 (by omega))) (by rw [show (sA 67 a (z40) σ).2.1 69 a = _ from rc_o (by decide) (hx7)]; omega)) (fun r183 T185 σ184 gt186 hp => ?_)
            obtain ⟨rfl, rfl, w188, F189⟩ := hp
            clear gt186
            show Tn _ _ 375 T σ184 [(3, .int (iI z42)), (2, .int (iI v35)), (1, .int (iI v6)), (0, .ref a)] [] _
            refine tn_aload_n dX7_step_375 rfl 3 rfl ?_
            obtain ⟨x190, hx191, hk192, hl193⟩ : ∃ x : Nat, σ.2.1 60 a = (x : Int) ∧ AR T x 1 9 9 := wf_60 hw ha
            have hk192i : IA T x190 := by unfold IA; omega
            refine tn_getR (ci := 7) (i := 5) (n := 60) (x := x190) dX7_step_376 rfl lay_7 (by decide) fl7_15 ha rfl rfl (rc_F F189 (Or.inl (by decide)) (by decide) (rc_o (by decide) (hx191))) ?_
            refine tn_aload_n dX7_step_379 rfl 3 rfl ?_
            refine tn_getI (ci := 7) (i := 2) (n := 57) (t := σ.2.1 57 a) dX7_step_380 rfl lay_7 (by decide) fl7_65 ha rfl rfl (rc_F F189 (Or.inl (by decide)) (by decide) (rc_o (by decide) (rfl))) ?_
            have g194 : ((0 : Int) ≤ σ.2.1 57 a ∧ σ.2.1 57 a ≤ 11184800) ∧ ((T a).1 = 57 → σ.2.1 57 a ≤ 8) := wf_57 hw ha
            have g194x := g194.2
            replace g194 := g194.1
            clear g194x
            refine tn_iload_n dX7_step_383 rfl 0 rfl ?_
            refine tn_callSN (M := m_X7_step) (pc := 384) (ix := 61) (M' := m_X11_put) (As := [.ref x190, .int (iI (σ.2.1 57 a)), .int (iI z42)]) (rest := []) dX7_step_384 ok_X11_put stt_X11_put nl7_61 np_X11_put rfl (Nat.le_of_ble_eq_true rfl) (Nat.le_of_ble_eq_true rfl) rfl (k_X11_put (d + 3) (T := T) (σ := σ184) (x := x190) (i := σ.2.1 57 a) (y := z42) hk192i (by omega) (by omega) (by omega) w188 (nh_k hk192 (by unfold HT; omega)) (vok_1 (by have q9 := hk192; omega) (by omega))) (fun r195 T197 σ196 gt198 hp => ?_)
            obtain ⟨rfl, rfl, w200, F201⟩ := hp
            clear gt198
            show Tn _ _ 387 T σ196 [(3, .int (iI z42)), (2, .int (iI v35)), (1, .int (iI v6)), (0, .ref a)] [] _
            refine tn_iload_n dX7_step_387 rfl 1 rfl ?_
            refine tn_bipush dX7_step_388 (by decide) ?_
            refine tn_icmp_ne (tgt := 397) dX7_step_390 (by decide) ⟨by omega, by omega⟩ ⟨by decide, by decide⟩ (fun h202 => ?_) (fun h202 => absurd h202 (by omega))
            refine tn_iconst dX7_step_397 ?_
            have q203 : σ196.2.1 57 a = σ.2.1 57 a := rc_F F201 (Or.inl (by decide)) (by decide) (rc_F F189 (Or.inl (by decide)) (by decide) (rc_o (by decide) (rfl)))
            exact tn_zret (v := 0) rfl (by decide) dX7_step_398 ⟨_, rfl, rfl, w200, (((FrC.rfl.put (by decide) (by decide)).trans (FrC.sub F189 (by decide))).trans (FrC.sub F201 (by decide))), by omega, by omega, (((FA.rfl.put).trans (FA.of F189 (by decide))).trans (FA.of F201 (by decide)))⟩
          · refine tn_tableIn (tgt := 152) (off := 84) dX7_step_68 (x := v35) ⟨by omega, by omega⟩ (by omega) (by omega) (by rw [h66]; rfl) (by decide) ?_
            refine tn_aload_n dX7_step_152 rfl 3 rfl ?_
            refine tn_aload_n dX7_step_153 rfl 3 rfl ?_
            refine tn_iload_n dX7_step_154 rfl 2 rfl ?_
            refine tn_iconst dX7_step_155 ?_
            refine tn_callV (M := m_X7_step) (pc := 156) (ix := 110) (ci := 7) (M' := m_X7_operand) (As := [.int (iI v6), .int (iI 3)]) (rest := [.ref a]) dX7_step_156 ok_X7_operand im_X7_operand se_X7_operand ml7_110 np_X7_operand rfl rfl ha rfl (Nat.le_of_ble_eq_true rfl) (Nat.le_of_ble_eq_true rfl) rfl (k_X7_operand (d + 2) (T := T) (σ := (sA 67 a (z40) σ)) (a := a) (k := v6) (c := 3) ha (by omega) (by decide) (hw.put (by decide) (by decide) (fo_67 (by omega))) (by rw [show (sA 67 a (z40) σ).2.1 69 a = _ from rc_o (by decide) (hx7)]; omega) (by omega)) (fun r204 T206 σ205 gt207 hp => ?_)
            obtain ⟨v209, rfl, rfl, rfl, f208⟩ := hp
            clear gt207
            show Tn _ _ 159 T (sA 67 a (z40) σ) [(3, .int (iI z42)), (2, .int (iI v35)), (1, .int (iI v6)), (0, .ref a)] [.int (iI v209), .ref a] _
            refine tn_callV (M := m_X7_step) (pc := 159) (ix := 113) (ci := 7) (M' := m_X7_emit) (As := [.int (iI v209)]) (rest := []) dX7_step_159 ok_X7_emit im_X7_emit se_X7_emit ml7_113 np_X7_emit rfl rfl ha rfl (Nat.le_of_ble_eq_true rfl) (Nat.le_of_ble_eq_true rfl) rfl (k_X7_emit (d + 2) (T := T) (σ := (sA 67 a (z40) σ)) (a := a) (p1 := v209) ha (by omega) (hw.put (by decide) (by decide) (fo_67 (by omega))) ) (fun r210 T212 σ211 gt213 hp => ?_)
            obtain ⟨rfl, rfl, w216, F217, f214⟩ := hp
            clear gt213
            show Tn _ _ 162 T σ211 [(3, .int (iI z42)), (2, .int (iI v35)), (1, .int (iI v6)), (0, .ref a)] [] _
            refine tn_goto (tgt := 375) dX7_step_162 (by decide) ?_
            refine tn_aload_n dX7_step_375 rfl 3 rfl ?_
            obtain ⟨x218, hx219, hk220, hl221⟩ : ∃ x : Nat, σ.2.1 60 a = (x : Int) ∧ AR T x 1 9 9 := wf_60 hw ha
            have hk220i : IA T x218 := by unfold IA; omega
            refine tn_getR (ci := 7) (i := 5) (n := 60) (x := x218) dX7_step_376 rfl lay_7 (by decide) fl7_15 ha rfl rfl (rc_F F217 (Or.inl (by decide)) (by decide) (rc_o (by decide) (hx219))) ?_
            refine tn_aload_n dX7_step_379 rfl 3 rfl ?_
            refine tn_getI (ci := 7) (i := 2) (n := 57) (t := σ.2.1 57 a) dX7_step_380 rfl lay_7 (by decide) fl7_65 ha rfl rfl (rc_F F217 (Or.inl (by decide)) (by decide) (rc_o (by decide) (rfl))) ?_
            have g222 : ((0 : Int) ≤ σ.2.1 57 a ∧ σ.2.1 57 a ≤ 11184800) ∧ ((T a).1 = 57 → σ.2.1 57 a ≤ 8) := wf_57 hw ha
            have g222x := g222.2
            replace g222 := g222.1
            clear g222x
            refine tn_iload_n dX7_step_383 rfl 0 rfl ?_
            refine tn_callSN (M := m_X7_step) (pc := 384) (ix := 61) (M' := m_X11_put) (As := [.ref x218, .int (iI (σ.2.1 57 a)), .int (iI z42)]) (rest := []) dX7_step_384 ok_X11_put stt_X11_put nl7_61 np_X11_put rfl (Nat.le_of_ble_eq_true rfl) (Nat.le_of_ble_eq_true rfl) rfl (k_X11_put (d + 3) (T := T) (σ := σ211) (x := x218) (i := σ.2.1 57 a) (y := z42) hk220i (by omega) (by omega) (by omega) w216 (nh_k hk220 (by unfold HT; omega)) (vok_1 (by have q9 := hk220; omega) (by omega))) (fun r223 T225 σ224 gt226 hp => ?_)
            obtain ⟨rfl, rfl, w228, F229⟩ := hp
            clear gt226
            show Tn _ _ 387 T σ224 [(3, .int (iI z42)), (2, .int (iI v35)), (1, .int (iI v6)), (0, .ref a)] [] _
            refine tn_iload_n dX7_step_387 rfl 1 rfl ?_
            refine tn_bipush dX7_step_388 (by decide) ?_
            refine tn_icmp_ne (tgt := 397) dX7_step_390 (by decide) ⟨by omega, by omega⟩ ⟨by decide, by decide⟩ (fun h230 => ?_) (fun h230 => absurd h230 (by omega))
            refine tn_iconst dX7_step_397 ?_
            have q231 : σ224.2.1 57 a = σ.2.1 57 a := rc_F F229 (Or.inl (by decide)) (by decide) (rc_F F217 (Or.inl (by decide)) (by decide) (rc_o (by decide) (rfl)))
            exact tn_zret (v := 0) rfl (by decide) dX7_step_398 ⟨_, rfl, rfl, w228, (((FrC.rfl.put (by decide) (by decide)).trans (FrC.sub F217 (by decide))).trans (FrC.sub F229 (by decide))), by omega, by omega, (((FA.rfl.put).trans f214).trans (FA.of F229 (by decide)))⟩
          · refine tn_tableIn (tgt := 213) (off := 145) dX7_step_68 (x := v35) ⟨by omega, by omega⟩ (by omega) (by omega) (by rw [h66]; rfl) (by decide) ?_
            refine tn_aload_n dX7_step_213 rfl 3 rfl ?_
            refine tn_aload_n dX7_step_214 rfl 3 rfl ?_
            refine tn_iload_n dX7_step_215 rfl 2 rfl ?_
            refine tn_iconst dX7_step_216 ?_
            refine tn_callV (M := m_X7_step) (pc := 217) (ix := 110) (ci := 7) (M' := m_X7_operand) (As := [.int (iI v6), .int (iI 3)]) (rest := [.ref a]) dX7_step_217 ok_X7_operand im_X7_operand se_X7_operand ml7_110 np_X7_operand rfl rfl ha rfl (Nat.le_of_ble_eq_true rfl) (Nat.le_of_ble_eq_true rfl) rfl (k_X7_operand (d + 2) (T := T) (σ := (sA 67 a (z40) σ)) (a := a) (k := v6) (c := 3) ha (by omega) (by decide) (hw.put (by decide) (by decide) (fo_67 (by omega))) (by rw [show (sA 67 a (z40) σ).2.1 69 a = _ from rc_o (by decide) (hx7)]; omega) (by omega)) (fun r232 T234 σ233 gt235 hp => ?_)
            obtain ⟨v237, rfl, rfl, rfl, f236⟩ := hp
            clear gt235
            show Tn _ _ 220 T (sA 67 a (z40) σ) [(3, .int (iI z42)), (2, .int (iI v35)), (1, .int (iI v6)), (0, .ref a)] [.int (iI v237), .ref a] _
            have q242 : (sA 67 a (z40) σ).2.1 57 a = σ.2.1 57 a := rc_o (by decide) (rfl)
            refine tn_callV (M := m_X7_step) (pc := 220) (ix := 123) (ci := 7) (M' := m_X7_giveBack) (As := [.int (iI v237)]) (rest := []) dX7_step_220 ok_X7_giveBack im_X7_giveBack se_X7_giveBack ml7_123 np_X7_giveBack rfl rfl ha rfl (Nat.le_of_ble_eq_true rfl) (Nat.le_of_ble_eq_true rfl) rfl (k_X7_giveBack (d + 1) (T := T) (σ := (sA 67 a (z40) σ)) (a := a) (n := v237) ha hta (by omega) (hw.put (by decide) (by decide) (fo_67 (by omega))) ) (fun r238 T240 σ239 gt241 hp => ?_)
            obtain ⟨rfl, rfl, w246, F247, f243, f244⟩ := hp
            clear gt241
            show Tn _ _ 223 T σ239 [(3, .int (iI z42)), (2, .int (iI v35)), (1, .int (iI v6)), (0, .ref a)] [] _
            refine tn_iconst dX7_step_223 ?_
            have q248 : σ239.2.1 57 a = σ239.2.1 57 a := rfl
            exact tn_zret (v := 0) rfl (by decide) dX7_step_224 ⟨_, rfl, rfl, w246, ((FrC.rfl.put (by decide) (by decide)).trans (FrC.sub F247 (by decide))), by omega, by omega, ((FA.rfl.put).trans f244)⟩
          · refine tn_tableIn (tgt := 165) (off := 97) dX7_step_68 (x := v35) ⟨by omega, by omega⟩ (by omega) (by omega) (by rw [h66]; rfl) (by decide) ?_
            refine tn_aload_n dX7_step_165 rfl 3 rfl ?_
            refine tn_getR (ci := 7) (i := 14) (n := 69) (x := x8) dX7_step_166 rfl lay_7 (by decide) fl7_72 ha rfl rfl (rc_o (by decide) (hx7)) ?_
            refine tn_iload_n dX7_step_169 rfl 2 rfl ?_
            refine tn_bipush dX7_step_170 (by decide) ?_
            refine tn_callV (M := m_X7_step) (pc := 172) (ix := 117) (ci := 1) (M' := m_X1_get) (As := [.int (iI v6), .int (iI 12)]) (rest := []) dX7_step_172 ok_X1_get im_X1_get se_X1_get ml7_117 np_X1_get rfl rfl hk9o rfl (Nat.le_of_ble_eq_true rfl) (Nat.le_of_ble_eq_true rfl) rfl (k_X1_get (d + 3) (T := T) (σ := (sA 67 a (z40) σ)) (a := x8) (k := v6) (c := 12) hk9o (by omega) (by decide) (hw.put (by decide) (by decide) (fo_67 (by omega))) (by omega)) (fun r249 T251 σ250 gt252 hp => ?_)
            obtain ⟨v254, rfl, rfl, rfl, f253⟩ := hp
            clear gt252
            show Tn _ _ 175 T (sA 67 a (z40) σ) [(3, .int (iI z42)), (2, .int (iI v35)), (1, .int (iI v6)), (0, .ref a)] [.int (iI v254)] _
            refine tn_istore_n (L' := [(3, .int (iI v254)), (2, .int (iI v35)), (1, .int (iI v6)), (0, .ref a)]) dX7_step_175 rfl (by decide) rfl ?_
            refine tn_goto (tgt := 375) dX7_step_176 (by decide) ?_
            refine tn_aload_n dX7_step_375 rfl 3 rfl ?_
            obtain ⟨x255, hx256, hk257, hl258⟩ : ∃ x : Nat, σ.2.1 60 a = (x : Int) ∧ AR T x 1 9 9 := wf_60 hw ha
            have hk257i : IA T x255 := by unfold IA; omega
            refine tn_getR (ci := 7) (i := 5) (n := 60) (x := x255) dX7_step_376 rfl lay_7 (by decide) fl7_15 ha rfl rfl (rc_o (by decide) (hx256)) ?_
            refine tn_aload_n dX7_step_379 rfl 3 rfl ?_
            refine tn_getI (ci := 7) (i := 2) (n := 57) (t := σ.2.1 57 a) dX7_step_380 rfl lay_7 (by decide) fl7_65 ha rfl rfl (rc_o (by decide) (rfl)) ?_
            have g259 : ((0 : Int) ≤ σ.2.1 57 a ∧ σ.2.1 57 a ≤ 11184800) ∧ ((T a).1 = 57 → σ.2.1 57 a ≤ 8) := wf_57 hw ha
            have g259x := g259.2
            replace g259 := g259.1
            clear g259x
            refine tn_iload_n dX7_step_383 rfl 0 rfl ?_
            refine tn_callSN (M := m_X7_step) (pc := 384) (ix := 61) (M' := m_X11_put) (As := [.ref x255, .int (iI (σ.2.1 57 a)), .int (iI v254)]) (rest := []) dX7_step_384 ok_X11_put stt_X11_put nl7_61 np_X11_put rfl (Nat.le_of_ble_eq_true rfl) (Nat.le_of_ble_eq_true rfl) rfl (k_X11_put (d + 3) (T := T) (σ := (sA 67 a (z40) σ)) (x := x255) (i := σ.2.1 57 a) (y := v254) hk257i (by omega) (by omega) (by omega) (hw.put (by decide) (by decide) (fo_67 (by omega))) (nh_k hk257 (by unfold HT; omega)) (vok_1 (by have q9 := hk257; omega) (by omega))) (fun r260 T262 σ261 gt263 hp => ?_)
            obtain ⟨rfl, rfl, w265, F266⟩ := hp
            clear gt263
            show Tn _ _ 387 T σ261 [(3, .int (iI v254)), (2, .int (iI v35)), (1, .int (iI v6)), (0, .ref a)] [] _
            refine tn_iload_n dX7_step_387 rfl 1 rfl ?_
            refine tn_bipush dX7_step_388 (by decide) ?_
            refine tn_icmp_ne (tgt := 397) dX7_step_390 (by decide) ⟨by omega, by omega⟩ ⟨by decide, by decide⟩ (fun h267 => ?_) (fun h267 => absurd h267 (by omega))
            refine tn_iconst dX7_step_397 ?_
            have q268 : σ261.2.1 57 a = σ.2.1 57 a := rc_F F266 (Or.inl (by decide)) (by decide) (rc_o (by decide) (rfl))
            exact tn_zret (v := 0) rfl (by decide) dX7_step_398 ⟨_, rfl, rfl, w265, ((FrC.rfl.put (by decide) (by decide)).trans (FrC.sub F266 (by decide))), by omega, by omega, ((FA.rfl.put).trans (FA.of F266 (by decide)))⟩
          · refine tn_tableIn (tgt := 179) (off := 111) dX7_step_68 (x := v35) ⟨by omega, by omega⟩ (by omega) (by omega) (by rw [h66]; rfl) (by decide) ?_
            refine tn_aload_n dX7_step_179 rfl 3 rfl ?_
            refine tn_iload_n dX7_step_180 rfl 2 rfl ?_
            refine tn_iconst dX7_step_181 ?_
            refine tn_callV (M := m_X7_step) (pc := 182) (ix := 110) (ci := 7) (M' := m_X7_operand) (As := [.int (iI v6), .int (iI 3)]) (rest := []) dX7_step_182 ok_X7_operand im_X7_operand se_X7_operand ml7_110 np_X7_operand rfl rfl ha rfl (Nat.le_of_ble_eq_true rfl) (Nat.le_of_ble_eq_true rfl) rfl (k_X7_operand (d + 2) (T := T) (σ := (sA 67 a (z40) σ)) (a := a) (k := v6) (c := 3) ha (by omega) (by decide) (hw.put (by decide) (by decide) (fo_67 (by omega))) (by rw [show (sA 67 a (z40) σ).2.1 69 a = _ from rc_o (by decide) (hx7)]; omega) (by omega)) (fun r269 T271 σ270 gt272 hp => ?_)
            obtain ⟨v274, rfl, rfl, rfl, f273⟩ := hp
            clear gt272
            show Tn _ _ 185 T (sA 67 a (z40) σ) [(3, .int (iI z42)), (2, .int (iI v35)), (1, .int (iI v6)), (0, .ref a)] [.int (iI v274)] _
            refine tn_if_ne (tgt := 201) dX7_step_185 (by decide) ⟨by omega, by omega⟩ (fun h275 => ?_) (fun h275 => ?_)
            · refine tn_iload_n dX7_step_201 rfl 0 rfl ?_
              refine tn_istore_n (L' := [(3, .int (iI z42)), (2, .int (iI v35)), (1, .int (iI v6)), (0, .ref a)]) dX7_step_202 rfl (by decide) rfl ?_
              refine tn_goto (tgt := 375) dX7_step_203 (by decide) ?_
              refine tn_aload_n dX7_step_375 rfl 3 rfl ?_
              obtain ⟨x276, hx277, hk278, hl279⟩ : ∃ x : Nat, σ.2.1 60 a = (x : Int) ∧ AR T x 1 9 9 := wf_60 hw ha
              have hk278i : IA T x276 := by unfold IA; omega
              refine tn_getR (ci := 7) (i := 5) (n := 60) (x := x276) dX7_step_376 rfl lay_7 (by decide) fl7_15 ha rfl rfl (rc_o (by decide) (hx277)) ?_
              refine tn_aload_n dX7_step_379 rfl 3 rfl ?_
              refine tn_getI (ci := 7) (i := 2) (n := 57) (t := σ.2.1 57 a) dX7_step_380 rfl lay_7 (by decide) fl7_65 ha rfl rfl (rc_o (by decide) (rfl)) ?_
              have g280 : ((0 : Int) ≤ σ.2.1 57 a ∧ σ.2.1 57 a ≤ 11184800) ∧ ((T a).1 = 57 → σ.2.1 57 a ≤ 8) := wf_57 hw ha
              have g280x := g280.2
              replace g280 := g280.1
              clear g280x
              refine tn_iload_n dX7_step_383 rfl 0 rfl ?_
              refine tn_callSN (M := m_X7_step) (pc := 384) (ix := 61) (M' := m_X11_put) (As := [.ref x276, .int (iI (σ.2.1 57 a)), .int (iI z42)]) (rest := []) dX7_step_384 ok_X11_put stt_X11_put nl7_61 np_X11_put rfl (Nat.le_of_ble_eq_true rfl) (Nat.le_of_ble_eq_true rfl) rfl (k_X11_put (d + 3) (T := T) (σ := (sA 67 a (z40) σ)) (x := x276) (i := σ.2.1 57 a) (y := z42) hk278i (by omega) (by omega) (by omega) (hw.put (by decide) (by decide) (fo_67 (by omega))) (nh_k hk278 (by unfold HT; omega)) (vok_1 (by have q9 := hk278; omega) (by omega))) (fun r281 T283 σ282 gt284 hp => ?_)
              obtain ⟨rfl, rfl, w286, F287⟩ := hp
              clear gt284
              show Tn _ _ 387 T σ282 [(3, .int (iI z42)), (2, .int (iI v35)), (1, .int (iI v6)), (0, .ref a)] [] _
              refine tn_iload_n dX7_step_387 rfl 1 rfl ?_
              refine tn_bipush dX7_step_388 (by decide) ?_
              refine tn_icmp_ne (tgt := 397) dX7_step_390 (by decide) ⟨by omega, by omega⟩ ⟨by decide, by decide⟩ (fun h288 => ?_) (fun h288 => absurd h288 (by omega))
              refine tn_iconst dX7_step_397 ?_
              have q289 : σ282.2.1 57 a = σ.2.1 57 a := rc_F F287 (Or.inl (by decide)) (by decide) (rc_o (by decide) (rfl))
              exact tn_zret (v := 0) rfl (by decide) dX7_step_398 ⟨_, rfl, rfl, w286, ((FrC.rfl.put (by decide) (by decide)).trans (FrC.sub F287 (by decide))), by omega, by omega, ((FA.rfl.put).trans (FA.of F287 (by decide)))⟩
            · refine tn_aload_n dX7_step_188 rfl 3 rfl ?_
              refine tn_getR (ci := 7) (i := 14) (n := 69) (x := x8) dX7_step_189 rfl lay_7 (by decide) fl7_72 ha rfl rfl (rc_o (by decide) (hx7)) ?_
              refine tn_iload_n dX7_step_192 rfl 2 rfl ?_
              refine tn_bipush dX7_step_193 (by decide) ?_
              refine tn_callV (M := m_X7_step) (pc := 195) (ix := 117) (ci := 1) (M' := m_X1_get) (As := [.int (iI v6), .int (iI 12)]) (rest := []) dX7_step_195 ok_X1_get im_X1_get se_X1_get ml7_117 np_X1_get rfl rfl hk9o rfl (Nat.le_of_ble_eq_true rfl) (Nat.le_of_ble_eq_true rfl) rfl (k_X1_get (d + 3) (T := T) (σ := (sA 67 a (z40) σ)) (a := x8) (k := v6) (c := 12) hk9o (by omega) (by decide) (hw.put (by decide) (by decide) (fo_67 (by omega))) (by omega)) (fun r290 T292 σ291 gt293 hp => ?_)
              obtain ⟨v295, rfl, rfl, rfl, f294⟩ := hp
              clear gt293
              show Tn _ _ 198 T (sA 67 a (z40) σ) [(3, .int (iI z42)), (2, .int (iI v35)), (1, .int (iI v6)), (0, .ref a)] [.int (iI v295)] _
              refine tn_goto (tgt := 202) dX7_step_198 (by decide) ?_
              refine tn_istore_n (L' := [(3, .int (iI v295)), (2, .int (iI v35)), (1, .int (iI v6)), (0, .ref a)]) dX7_step_202 rfl (by decide) rfl ?_
              refine tn_goto (tgt := 375) dX7_step_203 (by decide) ?_
              refine tn_aload_n dX7_step_375 rfl 3 rfl ?_
              obtain ⟨x296, hx297, hk298, hl299⟩ : ∃ x : Nat, σ.2.1 60 a = (x : Int) ∧ AR T x 1 9 9 := wf_60 hw ha
              have hk298i : IA T x296 := by unfold IA; omega
              refine tn_getR (ci := 7) (i := 5) (n := 60) (x := x296) dX7_step_376 rfl lay_7 (by decide) fl7_15 ha rfl rfl (rc_o (by decide) (hx297)) ?_
              refine tn_aload_n dX7_step_379 rfl 3 rfl ?_
              refine tn_getI (ci := 7) (i := 2) (n := 57) (t := σ.2.1 57 a) dX7_step_380 rfl lay_7 (by decide) fl7_65 ha rfl rfl (rc_o (by decide) (rfl)) ?_
              have g300 : ((0 : Int) ≤ σ.2.1 57 a ∧ σ.2.1 57 a ≤ 11184800) ∧ ((T a).1 = 57 → σ.2.1 57 a ≤ 8) := wf_57 hw ha
              have g300x := g300.2
              replace g300 := g300.1
              clear g300x
              refine tn_iload_n dX7_step_383 rfl 0 rfl ?_
              refine tn_callSN (M := m_X7_step) (pc := 384) (ix := 61) (M' := m_X11_put) (As := [.ref x296, .int (iI (σ.2.1 57 a)), .int (iI v295)]) (rest := []) dX7_step_384 ok_X11_put stt_X11_put nl7_61 np_X11_put rfl (Nat.le_of_ble_eq_true rfl) (Nat.le_of_ble_eq_true rfl) rfl (k_X11_put (d + 3) (T := T) (σ := (sA 67 a (z40) σ)) (x := x296) (i := σ.2.1 57 a) (y := v295) hk298i (by omega) (by omega) (by omega) (hw.put (by decide) (by decide) (fo_67 (by omega))) (nh_k hk298 (by unfold HT; omega)) (vok_1 (by have q9 := hk298; omega) (by omega))) (fun r301 T303 σ302 gt304 hp => ?_)
              obtain ⟨rfl, rfl, w306, F307⟩ := hp
              clear gt304
              show Tn _ _ 387 T σ302 [(3, .int (iI v295)), (2, .int (iI v35)), (1, .int (iI v6)), (0, .ref a)] [] _
              refine tn_iload_n dX7_step_387 rfl 1 rfl ?_
              refine tn_bipush dX7_step_388 (by decide) ?_
              refine tn_icmp_ne (tgt := 397) dX7_step_390 (by decide) ⟨by omega, by omega⟩ ⟨by decide, by decide⟩ (fun h308 => ?_) (fun h308 => absurd h308 (by omega))
              refine tn_iconst dX7_step_397 ?_
              have q309 : σ302.2.1 57 a = σ.2.1 57 a := rc_F F307 (Or.inl (by decide)) (by decide) (rc_o (by decide) (rfl))
              exact tn_zret (v := 0) rfl (by decide) dX7_step_398 ⟨_, rfl, rfl, w306, ((FrC.rfl.put (by decide) (by decide)).trans (FrC.sub F307 (by decide))), by omega, by omega, ((FA.rfl.put).trans (FA.of F307 (by decide)))⟩
          · refine tn_tableIn (tgt := 206) (off := 138) dX7_step_68 (x := v35) ⟨by omega, by omega⟩ (by omega) (by omega) (by rw [h66]; rfl) (by decide) ?_
            refine tn_aload_n dX7_step_206 rfl 3 rfl ?_
            refine tn_iload_n dX7_step_207 rfl 2 rfl ?_
            have q314 : (sA 67 a (z40) σ).2.1 57 a = σ.2.1 57 a := rc_o (by decide) (rfl)
            refine tn_callV (M := m_X7_step) (pc := 208) (ix := 120) (ci := 7) (M' := m_X7_callFrom) (As := [.int (iI v6)]) (rest := []) dX7_step_208 ok_X7_callFrom im_X7_callFrom se_X7_callFrom ml7_120 np_X7_callFrom rfl rfl ha rfl (Nat.le_of_ble_eq_true rfl) (Nat.le_of_ble_eq_true rfl) rfl (k_X7_callFrom (d) (T := T) (σ := (sA 67 a (z40) σ)) (a := a) (k := v6) ha hta (by omega) (hw.put (by decide) (by decide) (fo_67 (by omega))) (by rw [show (sA 67 a (z40) σ).2.1 69 a = _ from rc_o (by decide) (hx7)]; omega) (by rw [show (sA 67 a (z40) σ).2.1 57 a = σ.2.1 57 a from rc_o (by decide) (rfl)]; omega)) (fun r310 T312 σ311 gt313 hp => ?_)
            obtain ⟨rfl, rfl, w318, F319, f315, f316⟩ := hp
            clear gt313
            show Tn _ _ 211 T σ311 [(3, .int (iI z42)), (2, .int (iI v35)), (1, .int (iI v6)), (0, .ref a)] [] _
            refine tn_iconst dX7_step_211 ?_
            have q320 : σ311.2.1 57 a = σ311.2.1 57 a := rfl
            exact tn_zret (v := 0) rfl (by decide) dX7_step_212 ⟨_, rfl, rfl, w318, ((FrC.rfl.put (by decide) (by decide)).trans (FrC.sub F319 (by decide))), by omega, by omega, ((FA.rfl.put).trans f316)⟩
          · refine tn_tableIn (tgt := 225) (off := 157) dX7_step_68 (x := v35) ⟨by omega, by omega⟩ (by omega) (by omega) (by rw [h66]; rfl) (by decide) ?_
            refine tn_aload_n dX7_step_225 rfl 3 rfl ?_
            obtain ⟨x321, hx322, hk323, hl324⟩ : ∃ x : Nat, σ.2.1 62 a = (x : Int) ∧ AR T x 1 108 108 := wf_62 hw ha
            have hk323i : IA T x321 := by unfold IA; omega
            refine tn_getR (ci := 7) (i := 7) (n := 62) (x := x321) dX7_step_226 rfl lay_7 (by decide) fl7_21 ha rfl rfl (rc_o (by decide) (hx322)) ?_
            refine tn_aload_n dX7_step_229 rfl 3 rfl ?_
            refine tn_getI (ci := 7) (i := 2) (n := 57) (t := σ.2.1 57 a) dX7_step_230 rfl lay_7 (by decide) fl7_65 ha rfl rfl (rc_o (by decide) (rfl)) ?_
            have g325 : ((0 : Int) ≤ σ.2.1 57 a ∧ σ.2.1 57 a ≤ 11184800) ∧ ((T a).1 = 57 → σ.2.1 57 a ≤ 8) := wf_57 hw ha
            have g325x := g325.2
            replace g325 := g325.1
            clear g325x
            refine tn_bipush dX7_step_233 (by decide) ?_
            refine tn_imul dX7_step_235 ?_
            refine tn_aload_n dX7_step_236 rfl 3 rfl ?_
            refine tn_getR (ci := 7) (i := 14) (n := 69) (x := x8) dX7_step_237 rfl lay_7 (by decide) fl7_72 ha rfl rfl (rc_o (by decide) (hx7)) ?_
            refine tn_iload_n dX7_step_240 rfl 2 rfl ?_
            refine tn_iconst dX7_step_241 ?_
            refine tn_callV (M := m_X7_step) (pc := 242) (ix := 117) (ci := 1) (M' := m_X1_get) (As := [.int (iI v6), .int (iI 2)]) (rest := [.int (iI ((σ.2.1 57 a) * 12)), .ref x321]) dX7_step_242 ok_X1_get im_X1_get se_X1_get ml7_117 np_X1_get rfl rfl hk9o rfl (Nat.le_of_ble_eq_true rfl) (Nat.le_of_ble_eq_true rfl) rfl (k_X1_get (d + 3) (T := T) (σ := (sA 67 a (z40) σ)) (a := x8) (k := v6) (c := 2) hk9o (by omega) (by decide) (hw.put (by decide) (by decide) (fo_67 (by omega))) (by omega)) (fun r326 T328 σ327 gt329 hp => ?_)
            obtain ⟨v331, rfl, rfl, rfl, f330⟩ := hp
            clear gt329
            show Tn _ _ 245 T (sA 67 a (z40) σ) [(3, .int (iI z42)), (2, .int (iI v35)), (1, .int (iI v6)), (0, .ref a)] [.int (iI v331), .int (iI ((σ.2.1 57 a) * 12)), .ref x321] _
            refine tn_iadd dX7_step_245 ?_
            refine tn_any (fun z332 g333 => ?_)
            have g333r : -2147483648 ≤ z332 ∧ z332 ≤ 2147483647 := g333
            refine tn_aload_n dX7_step_246 rfl 3 rfl ?_
            refine tn_getR (ci := 7) (i := 14) (n := 69) (x := x8) dX7_step_247 rfl lay_7 (by decide) fl7_72 ha rfl rfl (rc_o (by decide) (hx7)) ?_
            refine tn_iload_n dX7_step_250 rfl 2 rfl ?_
            refine tn_iconst dX7_step_251 ?_
            refine tn_callV (M := m_X7_step) (pc := 252) (ix := 117) (ci := 1) (M' := m_X1_get) (As := [.int (iI v6), .int (iI 1)]) (rest := [.int (iI z332), .ref x321]) dX7_step_252 ok_X1_get im_X1_get se_X1_get ml7_117 np_X1_get rfl rfl hk9o rfl (Nat.le_of_ble_eq_true rfl) (Nat.le_of_ble_eq_true rfl) rfl (k_X1_get (d + 3) (T := T) (σ := (sA 67 a (z40) σ)) (a := x8) (k := v6) (c := 1) hk9o (by omega) (by decide) (hw.put (by decide) (by decide) (fo_67 (by omega))) (by omega)) (fun r334 T336 σ335 gt337 hp => ?_)
            obtain ⟨v339, rfl, rfl, rfl, f338⟩ := hp
            clear gt337
            show Tn _ _ 255 T (sA 67 a (z40) σ) [(3, .int (iI z42)), (2, .int (iI v35)), (1, .int (iI v6)), (0, .ref a)] [.int (iI v339), .int (iI z332), .ref x321] _
            refine tn_callSN (M := m_X7_step) (pc := 255) (ix := 61) (M' := m_X11_put) (As := [.ref x321, .int (iI z332), .int (iI v339)]) (rest := []) dX7_step_255 ok_X11_put stt_X11_put nl7_61 np_X11_put rfl (Nat.le_of_ble_eq_true rfl) (Nat.le_of_ble_eq_true rfl) rfl (k_X11_put (d + 3) (T := T) (σ := (sA 67 a (z40) σ)) (x := x321) (i := z332) (y := v339) hk323i (by omega) (by omega) (by omega) (hw.put (by decide) (by decide) (fo_67 (by omega))) (nh_k hk323 (by unfold HT; omega)) (vok_1 (by have q9 := hk323; omega) (by omega))) (fun r340 T342 σ341 gt343 hp => ?_)
            obtain ⟨rfl, rfl, w345, F346⟩ := hp
            clear gt343
            show Tn _ _ 258 T σ341 [(3, .int (iI z42)), (2, .int (iI v35)), (1, .int (iI v6)), (0, .ref a)] [] _
            refine tn_goto (tgt := 375) dX7_step_258 (by decide) ?_
            refine tn_aload_n dX7_step_375 rfl 3 rfl ?_
            obtain ⟨x347, hx348, hk349, hl350⟩ : ∃ x : Nat, σ.2.1 60 a = (x : Int) ∧ AR T x 1 9 9 := wf_60 hw ha
            have hk349i : IA T x347 := by unfold IA; omega
            refine tn_getR (ci := 7) (i := 5) (n := 60) (x := x347) dX7_step_376 rfl lay_7 (by decide) fl7_15 ha rfl rfl (rc_F F346 (Or.inl (by decide)) (by decide) (rc_o (by decide) (hx348))) ?_
            refine tn_aload_n dX7_step_379 rfl 3 rfl ?_
            refine tn_getI (ci := 7) (i := 2) (n := 57) (t := σ.2.1 57 a) dX7_step_380 rfl lay_7 (by decide) fl7_65 ha rfl rfl (rc_F F346 (Or.inl (by decide)) (by decide) (rc_o (by decide) (rfl))) ?_
            refine tn_iload_n dX7_step_383 rfl 0 rfl ?_
            refine tn_callSN (M := m_X7_step) (pc := 384) (ix := 61) (M' := m_X11_put) (As := [.ref x347, .int (iI (σ.2.1 57 a)), .int (iI z42)]) (rest := []) dX7_step_384 ok_X11_put stt_X11_put nl7_61 np_X11_put rfl (Nat.le_of_ble_eq_true rfl) (Nat.le_of_ble_eq_true rfl) rfl (k_X11_put (d + 3) (T := T) (σ := σ341) (x := x347) (i := σ.2.1 57 a) (y := z42) hk349i (by omega) (by omega) (by omega) w345 (nh_k hk349 (by unfold HT; omega)) (vok_1 (by have q9 := hk349; omega) (by omega))) (fun r351 T353 σ352 gt354 hp => ?_)
            obtain ⟨rfl, rfl, w356, F357⟩ := hp
            clear gt354
            show Tn _ _ 387 T σ352 [(3, .int (iI z42)), (2, .int (iI v35)), (1, .int (iI v6)), (0, .ref a)] [] _
            refine tn_iload_n dX7_step_387 rfl 1 rfl ?_
            refine tn_bipush dX7_step_388 (by decide) ?_
            refine tn_icmp_ne (tgt := 397) dX7_step_390 (by decide) ⟨by omega, by omega⟩ ⟨by decide, by decide⟩ (fun h358 => absurd h358 (by omega)) (fun h358 => ?_)
            refine tn_iconst dX7_step_393 ?_
            refine tn_goto (tgt := 398) dX7_step_394 (by decide) ?_
            have q359 : σ352.2.1 57 a = σ.2.1 57 a := rc_F F357 (Or.inl (by decide)) (by decide) (rc_F F346 (Or.inl (by decide)) (by decide) (rc_o (by decide) (rfl)))
            exact tn_zret (v := 1) rfl (by decide) dX7_step_398 ⟨_, rfl, rfl, w356, (((FrC.rfl.put (by decide) (by decide)).trans (FrC.sub F346 (by decide))).trans (FrC.sub F357 (by decide))), by omega, by omega, (((FA.rfl.put).trans (FA.of F346 (by decide))).trans (FA.of F357 (by decide)))⟩
          · refine tn_tableIn (tgt := 369) (off := 301) dX7_step_68 (x := v35) ⟨by omega, by omega⟩ (by omega) (by omega) (by rw [h66]; rfl) (by decide) ?_
            refine tn_aload_n dX7_step_369 rfl 3 rfl ?_
            refine tn_iload_n dX7_step_370 rfl 2 rfl ?_
            refine tn_iload_n dX7_step_371 rfl 1 rfl ?_
            refine tn_callV (M := m_X7_step) (pc := 372) (ix := 129) (ci := 7) (M' := m_X7_reckonAt) (As := [.int (iI v6), .int (iI v35)]) (rest := []) dX7_step_372 ok_X7_reckonAt im_X7_reckonAt se_X7_reckonAt ml7_129 np_X7_reckonAt rfl rfl ha rfl (Nat.le_of_ble_eq_true rfl) (Nat.le_of_ble_eq_true rfl) rfl (k_X7_reckonAt (d + 1) (T := T) (σ := (sA 67 a (z40) σ)) (a := a) (k := v6) (e := v35) ha (by omega) (by omega) (hw.put (by decide) (by decide) (fo_67 (by omega))) (by rw [show (sA 67 a (z40) σ).2.1 69 a = _ from rc_o (by decide) (hx7)]; omega)) (fun r360 T362 σ361 gt363 hp => ?_)
            obtain ⟨rfl, rfl, w365, F366⟩ := hp
            clear gt363
            show Tn _ _ 375 T σ361 [(3, .int (iI z42)), (2, .int (iI v35)), (1, .int (iI v6)), (0, .ref a)] [] _
            refine tn_aload_n dX7_step_375 rfl 3 rfl ?_
            obtain ⟨x367, hx368, hk369, hl370⟩ : ∃ x : Nat, σ.2.1 60 a = (x : Int) ∧ AR T x 1 9 9 := wf_60 hw ha
            have hk369i : IA T x367 := by unfold IA; omega
            refine tn_getR (ci := 7) (i := 5) (n := 60) (x := x367) dX7_step_376 rfl lay_7 (by decide) fl7_15 ha rfl rfl (rc_F F366 (Or.inl (by decide)) (by decide) (rc_o (by decide) (hx368))) ?_
            refine tn_aload_n dX7_step_379 rfl 3 rfl ?_
            refine tn_getI (ci := 7) (i := 2) (n := 57) (t := σ.2.1 57 a) dX7_step_380 rfl lay_7 (by decide) fl7_65 ha rfl rfl (rc_F F366 (Or.inl (by decide)) (by decide) (rc_o (by decide) (rfl))) ?_
            have g371 : ((0 : Int) ≤ σ.2.1 57 a ∧ σ.2.1 57 a ≤ 11184800) ∧ ((T a).1 = 57 → σ.2.1 57 a ≤ 8) := wf_57 hw ha
            have g371x := g371.2
            replace g371 := g371.1
            clear g371x
            refine tn_iload_n dX7_step_383 rfl 0 rfl ?_
            refine tn_callSN (M := m_X7_step) (pc := 384) (ix := 61) (M' := m_X11_put) (As := [.ref x367, .int (iI (σ.2.1 57 a)), .int (iI z42)]) (rest := []) dX7_step_384 ok_X11_put stt_X11_put nl7_61 np_X11_put rfl (Nat.le_of_ble_eq_true rfl) (Nat.le_of_ble_eq_true rfl) rfl (k_X11_put (d + 3) (T := T) (σ := σ361) (x := x367) (i := σ.2.1 57 a) (y := z42) hk369i (by omega) (by omega) (by omega) w365 (nh_k hk369 (by unfold HT; omega)) (vok_1 (by have q9 := hk369; omega) (by omega))) (fun r372 T374 σ373 gt375 hp => ?_)
            obtain ⟨rfl, rfl, w377, F378⟩ := hp
            clear gt375
            show Tn _ _ 387 T σ373 [(3, .int (iI z42)), (2, .int (iI v35)), (1, .int (iI v6)), (0, .ref a)] [] _
            refine tn_iload_n dX7_step_387 rfl 1 rfl ?_
            refine tn_bipush dX7_step_388 (by decide) ?_
            refine tn_icmp_ne (tgt := 397) dX7_step_390 (by decide) ⟨by omega, by omega⟩ ⟨by decide, by decide⟩ (fun h379 => ?_) (fun h379 => absurd h379 (by omega))
            refine tn_iconst dX7_step_397 ?_
            have q380 : σ373.2.1 57 a = σ.2.1 57 a := rc_F F378 (Or.inl (by decide)) (by decide) (rc_F F366 (Or.inl (by decide)) (by decide) (rc_o (by decide) (rfl)))
            exact tn_zret (v := 0) rfl (by decide) dX7_step_398 ⟨_, rfl, rfl, w377, (((FrC.rfl.put (by decide) (by decide)).trans (FrC.sub F366 (by decide))).trans (FrC.sub F378 (by decide))), by omega, by omega, (((FA.rfl.put).trans (FA.of F366 (by decide))).trans (FA.of F378 (by decide)))⟩
          · refine tn_tableIn (tgt := 369) (off := 301) dX7_step_68 (x := v35) ⟨by omega, by omega⟩ (by omega) (by omega) (by rw [h66]; rfl) (by decide) ?_
            refine tn_aload_n dX7_step_369 rfl 3 rfl ?_
            refine tn_iload_n dX7_step_370 rfl 2 rfl ?_
            refine tn_iload_n dX7_step_371 rfl 1 rfl ?_
            refine tn_callV (M := m_X7_step) (pc := 372) (ix := 129) (ci := 7) (M' := m_X7_reckonAt) (As := [.int (iI v6), .int (iI v35)]) (rest := []) dX7_step_372 ok_X7_reckonAt im_X7_reckonAt se_X7_reckonAt ml7_129 np_X7_reckonAt rfl rfl ha rfl (Nat.le_of_ble_eq_true rfl) (Nat.le_of_ble_eq_true rfl) rfl (k_X7_reckonAt (d + 1) (T := T) (σ := (sA 67 a (z40) σ)) (a := a) (k := v6) (e := v35) ha (by omega) (by omega) (hw.put (by decide) (by decide) (fo_67 (by omega))) (by rw [show (sA 67 a (z40) σ).2.1 69 a = _ from rc_o (by decide) (hx7)]; omega)) (fun r381 T383 σ382 gt384 hp => ?_)
            obtain ⟨rfl, rfl, w386, F387⟩ := hp
            clear gt384
            show Tn _ _ 375 T σ382 [(3, .int (iI z42)), (2, .int (iI v35)), (1, .int (iI v6)), (0, .ref a)] [] _
            refine tn_aload_n dX7_step_375 rfl 3 rfl ?_
            obtain ⟨x388, hx389, hk390, hl391⟩ : ∃ x : Nat, σ.2.1 60 a = (x : Int) ∧ AR T x 1 9 9 := wf_60 hw ha
            have hk390i : IA T x388 := by unfold IA; omega
            refine tn_getR (ci := 7) (i := 5) (n := 60) (x := x388) dX7_step_376 rfl lay_7 (by decide) fl7_15 ha rfl rfl (rc_F F387 (Or.inl (by decide)) (by decide) (rc_o (by decide) (hx389))) ?_
            refine tn_aload_n dX7_step_379 rfl 3 rfl ?_
            refine tn_getI (ci := 7) (i := 2) (n := 57) (t := σ.2.1 57 a) dX7_step_380 rfl lay_7 (by decide) fl7_65 ha rfl rfl (rc_F F387 (Or.inl (by decide)) (by decide) (rc_o (by decide) (rfl))) ?_
            have g392 : ((0 : Int) ≤ σ.2.1 57 a ∧ σ.2.1 57 a ≤ 11184800) ∧ ((T a).1 = 57 → σ.2.1 57 a ≤ 8) := wf_57 hw ha
            have g392x := g392.2
            replace g392 := g392.1
            clear g392x
            refine tn_iload_n dX7_step_383 rfl 0 rfl ?_
            refine tn_callSN (M := m_X7_step) (pc := 384) (ix := 61) (M' := m_X11_put) (As := [.ref x388, .int (iI (σ.2.1 57 a)), .int (iI z42)]) (rest := []) dX7_step_384 ok_X11_put stt_X11_put nl7_61 np_X11_put rfl (Nat.le_of_ble_eq_true rfl) (Nat.le_of_ble_eq_true rfl) rfl (k_X11_put (d + 3) (T := T) (σ := σ382) (x := x388) (i := σ.2.1 57 a) (y := z42) hk390i (by omega) (by omega) (by omega) w386 (nh_k hk390 (by unfold HT; omega)) (vok_1 (by have q9 := hk390; omega) (by omega))) (fun r393 T395 σ394 gt396 hp => ?_)
            obtain ⟨rfl, rfl, w398, F399⟩ := hp
            clear gt396
            show Tn _ _ 387 T σ394 [(3, .int (iI z42)), (2, .int (iI v35)), (1, .int (iI v6)), (0, .ref a)] [] _
            refine tn_iload_n dX7_step_387 rfl 1 rfl ?_
            refine tn_bipush dX7_step_388 (by decide) ?_
            refine tn_icmp_ne (tgt := 397) dX7_step_390 (by decide) ⟨by omega, by omega⟩ ⟨by decide, by decide⟩ (fun h400 => ?_) (fun h400 => absurd h400 (by omega))
            refine tn_iconst dX7_step_397 ?_
            have q401 : σ394.2.1 57 a = σ.2.1 57 a := rc_F F399 (Or.inl (by decide)) (by decide) (rc_F F387 (Or.inl (by decide)) (by decide) (rc_o (by decide) (rfl)))
            exact tn_zret (v := 0) rfl (by decide) dX7_step_398 ⟨_, rfl, rfl, w398, (((FrC.rfl.put (by decide) (by decide)).trans (FrC.sub F387 (by decide))).trans (FrC.sub F399 (by decide))), by omega, by omega, (((FA.rfl.put).trans (FA.of F387 (by decide))).trans (FA.of F399 (by decide)))⟩
          · refine tn_tableIn (tgt := 261) (off := 193) dX7_step_68 (x := v35) ⟨by omega, by omega⟩ (by omega) (by omega) (by rw [h66]; rfl) (by decide) ?_
            refine tn_aload_n dX7_step_261 rfl 3 rfl ?_
            refine tn_dup dX7_step_262 rfl ?_
            refine tn_getI (ci := 7) (i := 3) (n := 58) (t := σ.2.1 58 a) dX7_step_263 rfl lay_7 (by decide) fl7_38 ha rfl rfl (rc_o (by decide) (rfl)) ?_
            refine tn_iconst dX7_step_266 ?_
            refine tn_iadd dX7_step_267 ?_
            refine tn_putV (ci := 7) (i := 3) (n := 58) (r := false) (v := (σ.2.1 58 a) + 1) tyX7 tyX7_ok nmX7 dX7_step_268 rfl lay_7 (by decide) fl7_38 rfl (tyX7_ok 3 (by decide)) rfl rfl rfl ha rfl rfl ?_
            refine tn_aload_n dX7_step_271 rfl 3 rfl ?_
            obtain ⟨x402, hx403, hl405, hk404a, hk404b⟩ := wf_61 hw ha
            have hk404 : (T x402).1 = 1 := hk404b (by omega)
            clear hk404a hk404b
            have hk404i : IA T x402 := by unfold IA; omega
            refine tn_getR (ci := 7) (i := 6) (n := 61) (x := x402) dX7_step_272 rfl lay_7 (by decide) fl7_18 ha rfl rfl (rc_o (by decide) (rc_o (by decide) (hx403))) ?_
            refine tn_aload_n dX7_step_275 rfl 3 rfl ?_
            refine tn_getI (ci := 7) (i := 2) (n := 57) (t := σ.2.1 57 a) dX7_step_276 rfl lay_7 (by decide) fl7_65 ha rfl rfl (rc_o (by decide) (rc_o (by decide) (rfl))) ?_
            have g406 : ((0 : Int) ≤ σ.2.1 57 a ∧ σ.2.1 57 a ≤ 11184800) ∧ ((T a).1 = 57 → σ.2.1 57 a ≤ 8) := wf_57 hw ha
            have g406x := g406.2
            replace g406 := g406.1
            clear g406x
            refine tn_aload_n dX7_step_279 rfl 3 rfl ?_
            refine tn_getR (ci := 7) (i := 14) (n := 69) (x := x8) dX7_step_280 rfl lay_7 (by decide) fl7_72 ha rfl rfl (rc_o (by decide) (rc_o (by decide) (hx7))) ?_
            refine tn_iload_n dX7_step_283 rfl 2 rfl ?_
            refine tn_iconst dX7_step_284 ?_
            refine tn_callV (M := m_X7_step) (pc := 285) (ix := 117) (ci := 1) (M' := m_X1_get) (As := [.int (iI v6), .int (iI 1)]) (rest := [.int (iI (σ.2.1 57 a)), .ref x402]) dX7_step_285 ok_X1_get im_X1_get se_X1_get ml7_117 np_X1_get rfl rfl hk9o rfl (Nat.le_of_ble_eq_true rfl) (Nat.le_of_ble_eq_true rfl) rfl (k_X1_get (d + 3) (T := T) (σ := (sA 58 a ((σ.2.1 58 a) + 1) (sA 67 a (z40) σ))) (a := x8) (k := v6) (c := 1) hk9o (by omega) (by decide) ((hw.put (by decide) (by decide) (fo_67 (by omega))).put (by decide) (by decide) (fo_58 (by omega))) (by omega)) (fun r407 T409 σ408 gt410 hp => ?_)
            obtain ⟨v412, rfl, rfl, rfl, f411⟩ := hp
            clear gt410
            show Tn _ _ 288 T (sA 58 a ((σ.2.1 58 a) + 1) (sA 67 a (z40) σ)) [(3, .int (iI z42)), (2, .int (iI v35)), (1, .int (iI v6)), (0, .ref a)] [.int (iI v412), .int (iI (σ.2.1 57 a)), .ref x402] _
            refine tn_callSN (M := m_X7_step) (pc := 288) (ix := 61) (M' := m_X11_put) (As := [.ref x402, .int (iI (σ.2.1 57 a)), .int (iI v412)]) (rest := []) dX7_step_288 ok_X11_put stt_X11_put nl7_61 np_X11_put rfl (Nat.le_of_ble_eq_true rfl) (Nat.le_of_ble_eq_true rfl) rfl (k_X11_put (d + 3) (T := T) (σ := (sA 58 a ((σ.2.1 58 a) + 1) (sA 67 a (z40) σ))) (x := x402) (i := σ.2.1 57 a) (y := v412) hk404i (by omega) (by omega) (by omega) ((hw.put (by decide) (by decide) (fo_67 (by omega))).put (by decide) (by decide) (fo_58 (by omega))) (nh_k hk404 (by unfold HT; omega)) (vok_1 (by have q9 := hk404; omega) (by omega))) (fun r413 T415 σ414 gt416 hp => ?_)
            obtain ⟨rfl, rfl, w418, F419⟩ := hp
            clear gt416
            show Tn _ _ 291 T σ414 [(3, .int (iI z42)), (2, .int (iI v35)), (1, .int (iI v6)), (0, .ref a)] [] _
            refine tn_aload_n dX7_step_291 rfl 3 rfl ?_
            obtain ⟨x420, hx421, hk422, hl423⟩ : ∃ x : Nat, σ.2.1 62 a = (x : Int) ∧ AR T x 1 108 108 := wf_62 hw ha
            have hk422i : IA T x420 := by unfold IA; omega
            refine tn_getR (ci := 7) (i := 7) (n := 62) (x := x420) dX7_step_292 rfl lay_7 (by decide) fl7_21 ha rfl rfl (rc_F F419 (Or.inl (by decide)) (by decide) (rc_o (by decide) (rc_o (by decide) (hx421)))) ?_
            refine tn_aload_n dX7_step_295 rfl 3 rfl ?_
            refine tn_getI (ci := 7) (i := 2) (n := 57) (t := σ.2.1 57 a) dX7_step_296 rfl lay_7 (by decide) fl7_65 ha rfl rfl (rc_F F419 (Or.inl (by decide)) (by decide) (rc_o (by decide) (rc_o (by decide) (rfl)))) ?_
            refine tn_bipush dX7_step_299 (by decide) ?_
            refine tn_imul dX7_step_301 ?_
            refine tn_aload_n dX7_step_302 rfl 3 rfl ?_
            refine tn_getR (ci := 7) (i := 14) (n := 69) (x := x8) dX7_step_303 rfl lay_7 (by decide) fl7_72 ha rfl rfl (rc_F F419 (Or.inl (by decide)) (by decide) (rc_o (by decide) (rc_o (by decide) (hx7)))) ?_
            refine tn_iload_n dX7_step_306 rfl 2 rfl ?_
            refine tn_iconst dX7_step_307 ?_
            refine tn_callV (M := m_X7_step) (pc := 308) (ix := 117) (ci := 1) (M' := m_X1_get) (As := [.int (iI v6), .int (iI 1)]) (rest := [.int (iI ((σ.2.1 57 a) * 12)), .ref x420]) dX7_step_308 ok_X1_get im_X1_get se_X1_get ml7_117 np_X1_get rfl rfl hk9o rfl (Nat.le_of_ble_eq_true rfl) (Nat.le_of_ble_eq_true rfl) rfl (k_X1_get (d + 3) (T := T) (σ := σ414) (a := x8) (k := v6) (c := 1) hk9o (by omega) (by decide) w418 (by omega)) (fun r424 T426 σ425 gt427 hp => ?_)
            obtain ⟨v429, rfl, rfl, rfl, f428⟩ := hp
            clear gt427
            show Tn _ _ 311 T σ414 [(3, .int (iI z42)), (2, .int (iI v35)), (1, .int (iI v6)), (0, .ref a)] [.int (iI v429), .int (iI ((σ.2.1 57 a) * 12)), .ref x420] _
            refine tn_iadd dX7_step_311 ?_
            refine tn_any (fun z430 g431 => ?_)
            have g431r : -2147483648 ≤ z430 ∧ z430 ≤ 2147483647 := g431
            refine tn_iconst dX7_step_312 ?_
            refine tn_callSN (M := m_X7_step) (pc := 313) (ix := 61) (M' := m_X11_put) (As := [.ref x420, .int (iI z430), .int (iI 0)]) (rest := []) dX7_step_313 ok_X11_put stt_X11_put nl7_61 np_X11_put rfl (Nat.le_of_ble_eq_true rfl) (Nat.le_of_ble_eq_true rfl) rfl (k_X11_put (d + 3) (T := T) (σ := σ414) (x := x420) (i := z430) (y := 0) hk422i (by omega) (by omega) (by decide) w418 (nh_k hk422 (by unfold HT; omega)) vok_0) (fun r432 T434 σ433 gt435 hp => ?_)
            obtain ⟨rfl, rfl, w437, F438⟩ := hp
            clear gt435
            show Tn _ _ 316 T σ433 [(3, .int (iI z42)), (2, .int (iI v35)), (1, .int (iI v6)), (0, .ref a)] [] _
            refine tn_goto (tgt := 375) dX7_step_316 (by decide) ?_
            refine tn_aload_n dX7_step_375 rfl 3 rfl ?_
            obtain ⟨x439, hx440, hk441, hl442⟩ : ∃ x : Nat, σ.2.1 60 a = (x : Int) ∧ AR T x 1 9 9 := wf_60 hw ha
            have hk441i : IA T x439 := by unfold IA; omega
            refine tn_getR (ci := 7) (i := 5) (n := 60) (x := x439) dX7_step_376 rfl lay_7 (by decide) fl7_15 ha rfl rfl (rc_F F438 (Or.inl (by decide)) (by decide) (rc_F F419 (Or.inl (by decide)) (by decide) (rc_o (by decide) (rc_o (by decide) (hx440))))) ?_
            refine tn_aload_n dX7_step_379 rfl 3 rfl ?_
            refine tn_getI (ci := 7) (i := 2) (n := 57) (t := σ.2.1 57 a) dX7_step_380 rfl lay_7 (by decide) fl7_65 ha rfl rfl (rc_F F438 (Or.inl (by decide)) (by decide) (rc_F F419 (Or.inl (by decide)) (by decide) (rc_o (by decide) (rc_o (by decide) (rfl))))) ?_
            refine tn_iload_n dX7_step_383 rfl 0 rfl ?_
            refine tn_callSN (M := m_X7_step) (pc := 384) (ix := 61) (M' := m_X11_put) (As := [.ref x439, .int (iI (σ.2.1 57 a)), .int (iI z42)]) (rest := []) dX7_step_384 ok_X11_put stt_X11_put nl7_61 np_X11_put rfl (Nat.le_of_ble_eq_true rfl) (Nat.le_of_ble_eq_true rfl) rfl (k_X11_put (d + 3) (T := T) (σ := σ433) (x := x439) (i := σ.2.1 57 a) (y := z42) hk441i (by omega) (by omega) (by omega) w437 (nh_k hk441 (by unfold HT; omega)) (vok_1 (by have q9 := hk441; omega) (by omega))) (fun r443 T445 σ444 gt446 hp => ?_)
            obtain ⟨rfl, rfl, w448, F449⟩ := hp
            clear gt446
            show Tn _ _ 387 T σ444 [(3, .int (iI z42)), (2, .int (iI v35)), (1, .int (iI v6)), (0, .ref a)] [] _
            refine tn_iload_n dX7_step_387 rfl 1 rfl ?_
            refine tn_bipush dX7_step_388 (by decide) ?_
            refine tn_icmp_ne (tgt := 397) dX7_step_390 (by decide) ⟨by omega, by omega⟩ ⟨by decide, by decide⟩ (fun h450 => ?_) (fun h450 => absurd h450 (by omega))
            refine tn_iconst dX7_step_397 ?_
            have q451 : σ444.2.1 57 a = σ.2.1 57 a := rc_F F449 (Or.inl (by decide)) (by decide) (rc_F F438 (Or.inl (by decide)) (by decide) (rc_F F419 (Or.inl (by decide)) (by decide) (rc_o (by decide) (rc_o (by decide) (rfl)))))
            exact tn_zret (v := 0) rfl (by decide) dX7_step_398 ⟨_, rfl, rfl, w448, (((((FrC.rfl.put (by decide) (by decide)).put (by decide) (by decide)).trans (FrC.sub F419 (by decide))).trans (FrC.sub F438 (by decide))).trans (FrC.sub F449 (by decide))), by omega, by omega, (((((FA.rfl.put).put).trans (FA.of F419 (by decide))).trans (FA.of F438 (by decide))).trans (FA.of F449 (by decide)))⟩
          · refine tn_tableIn (tgt := 319) (off := 251) dX7_step_68 (x := v35) ⟨by omega, by omega⟩ (by omega) (by omega) (by rw [h66]; rfl) (by decide) ?_
            refine tn_aload_n dX7_step_319 rfl 3 rfl ?_
            refine tn_dup dX7_step_320 rfl ?_
            refine tn_getI (ci := 7) (i := 3) (n := 58) (t := σ.2.1 58 a) dX7_step_321 rfl lay_7 (by decide) fl7_38 ha rfl rfl (rc_o (by decide) (rfl)) ?_
            refine tn_iconst dX7_step_324 ?_
            refine tn_isub dX7_step_325 ?_
            refine tn_any (fun z452 g453 => ?_)
            have g453r : -2147483648 ≤ z452 ∧ z452 ≤ 2147483647 := g453
            refine tn_putV (ci := 7) (i := 3) (n := 58) (r := false) (v := z452) tyX7 tyX7_ok nmX7 dX7_step_326 rfl lay_7 (by decide) fl7_38 rfl (tyX7_ok 3 (by decide)) rfl rfl rfl ha rfl rfl ?_
            refine tn_aload_n dX7_step_329 rfl 3 rfl ?_
            obtain ⟨x454, hx455, hl457, hk456a, hk456b⟩ := wf_61 hw ha
            have hk456 : (T x454).1 = 1 := hk456b (by omega)
            clear hk456a hk456b
            have hk456i : IA T x454 := by unfold IA; omega
            refine tn_getR (ci := 7) (i := 6) (n := 61) (x := x454) dX7_step_330 rfl lay_7 (by decide) fl7_18 ha rfl rfl (rc_o (by decide) (rc_o (by decide) (hx455))) ?_
            refine tn_aload_n dX7_step_333 rfl 3 rfl ?_
            refine tn_getI (ci := 7) (i := 2) (n := 57) (t := σ.2.1 57 a) dX7_step_334 rfl lay_7 (by decide) fl7_65 ha rfl rfl (rc_o (by decide) (rc_o (by decide) (rfl))) ?_
            have g458 : ((0 : Int) ≤ σ.2.1 57 a ∧ σ.2.1 57 a ≤ 11184800) ∧ ((T a).1 = 57 → σ.2.1 57 a ≤ 8) := wf_57 hw ha
            have g458x := g458.2
            replace g458 := g458.1
            clear g458x
            refine tn_aload_n dX7_step_337 rfl 3 rfl ?_
            refine tn_getR (ci := 7) (i := 14) (n := 69) (x := x8) dX7_step_338 rfl lay_7 (by decide) fl7_72 ha rfl rfl (rc_o (by decide) (rc_o (by decide) (hx7))) ?_
            obtain ⟨x459, hx460, hk461, hl462⟩ : ∃ x : Nat, σ.2.1 12 x8 = (x : Int) ∧ AR T x 1 12 12 := wf_12 hw hk9o
            have hk461i : IA T x459 := by unfold IA; omega
            refine tn_getR (ci := 1) (i := 7) (n := 12) (x := x459) dX7_step_341 rfl lay_1 (by decide) fl7_126 hk9o rfl rfl (rc_o (by decide) (rc_o (by decide) (hx460))) ?_
            refine tn_aload_n dX7_step_344 rfl 3 rfl ?_
            refine tn_getR (ci := 7) (i := 14) (n := 69) (x := x8) dX7_step_345 rfl lay_7 (by decide) fl7_72 ha rfl rfl (rc_o (by decide) (rc_o (by decide) (hx7))) ?_
            refine tn_iload_n dX7_step_348 rfl 2 rfl ?_
            refine tn_iconst dX7_step_349 ?_
            refine tn_callV (M := m_X7_step) (pc := 350) (ix := 117) (ci := 1) (M' := m_X1_get) (As := [.int (iI v6), .int (iI 1)]) (rest := [.ref x459, .int (iI (σ.2.1 57 a)), .ref x454]) dX7_step_350 ok_X1_get im_X1_get se_X1_get ml7_117 np_X1_get rfl rfl hk9o rfl (Nat.le_of_ble_eq_true rfl) (Nat.le_of_ble_eq_true rfl) rfl (k_X1_get (d + 3) (T := T) (σ := (sA 58 a (z452) (sA 67 a (z40) σ))) (a := x8) (k := v6) (c := 1) hk9o (by omega) (by decide) ((hw.put (by decide) (by decide) (fo_67 (by omega))).put (by decide) (by decide) (fo_58 (by omega))) (by omega)) (fun r463 T465 σ464 gt466 hp => ?_)
            obtain ⟨v468, rfl, rfl, rfl, f467⟩ := hp
            clear gt466
            show Tn _ _ 353 T (sA 58 a (z452) (sA 67 a (z40) σ)) [(3, .int (iI z42)), (2, .int (iI v35)), (1, .int (iI v6)), (0, .ref a)] [.int (iI v468), .ref x459, .int (iI (σ.2.1 57 a)), .ref x454] _
            refine tn_callSN (M := m_X7_step) (pc := 353) (ix := 91) (M' := m_X11_at) (As := [.ref x459, .int (iI v468)]) (rest := [.int (iI (σ.2.1 57 a)), .ref x454]) dX7_step_353 ok_X11_at stt_X11_at nl7_91 np_X11_at rfl (Nat.le_of_ble_eq_true rfl) (Nat.le_of_ble_eq_true rfl) rfl (k_X11_at (d + 3) (T := T) (σ := (sA 58 a (z452) (sA 67 a (z40) σ))) (x := x459) (i := v468) hk461i (by omega) (by omega) ((hw.put (by decide) (by decide) (fo_67 (by omega))).put (by decide) (by decide) (fo_58 (by omega))) ) (fun r469 T471 σ470 gt472 hp => ?_)
            obtain ⟨v476, rfl, rfl, rfl, f473, f474, f475⟩ := hp
            clear gt472
            clear f474 f475
            show Tn _ _ 356 T (sA 58 a (z452) (sA 67 a (z40) σ)) [(3, .int (iI z42)), (2, .int (iI v35)), (1, .int (iI v6)), (0, .ref a)] [.int (iI v476), .int (iI (σ.2.1 57 a)), .ref x454] _
            refine tn_callSN (M := m_X7_step) (pc := 356) (ix := 61) (M' := m_X11_put) (As := [.ref x454, .int (iI (σ.2.1 57 a)), .int (iI v476)]) (rest := []) dX7_step_356 ok_X11_put stt_X11_put nl7_61 np_X11_put rfl (Nat.le_of_ble_eq_true rfl) (Nat.le_of_ble_eq_true rfl) rfl (k_X11_put (d + 3) (T := T) (σ := (sA 58 a (z452) (sA 67 a (z40) σ))) (x := x454) (i := σ.2.1 57 a) (y := v476) hk456i (by omega) (by omega) (by omega) ((hw.put (by decide) (by decide) (fo_67 (by omega))).put (by decide) (by decide) (fo_58 (by omega))) (nh_k hk456 (by unfold HT; omega)) (vok_1 (by have q9 := hk456; omega) (by omega))) (fun r477 T479 σ478 gt480 hp => ?_)
            obtain ⟨rfl, rfl, w482, F483⟩ := hp
            clear gt480
            show Tn _ _ 359 T σ478 [(3, .int (iI z42)), (2, .int (iI v35)), (1, .int (iI v6)), (0, .ref a)] [] _
            refine tn_goto (tgt := 375) dX7_step_359 (by decide) ?_
            refine tn_aload_n dX7_step_375 rfl 3 rfl ?_
            obtain ⟨x484, hx485, hk486, hl487⟩ : ∃ x : Nat, σ.2.1 60 a = (x : Int) ∧ AR T x 1 9 9 := wf_60 hw ha
            have hk486i : IA T x484 := by unfold IA; omega
            refine tn_getR (ci := 7) (i := 5) (n := 60) (x := x484) dX7_step_376 rfl lay_7 (by decide) fl7_15 ha rfl rfl (rc_F F483 (Or.inl (by decide)) (by decide) (rc_o (by decide) (rc_o (by decide) (hx485)))) ?_
            refine tn_aload_n dX7_step_379 rfl 3 rfl ?_
            refine tn_getI (ci := 7) (i := 2) (n := 57) (t := σ.2.1 57 a) dX7_step_380 rfl lay_7 (by decide) fl7_65 ha rfl rfl (rc_F F483 (Or.inl (by decide)) (by decide) (rc_o (by decide) (rc_o (by decide) (rfl)))) ?_
            refine tn_iload_n dX7_step_383 rfl 0 rfl ?_
            refine tn_callSN (M := m_X7_step) (pc := 384) (ix := 61) (M' := m_X11_put) (As := [.ref x484, .int (iI (σ.2.1 57 a)), .int (iI z42)]) (rest := []) dX7_step_384 ok_X11_put stt_X11_put nl7_61 np_X11_put rfl (Nat.le_of_ble_eq_true rfl) (Nat.le_of_ble_eq_true rfl) rfl (k_X11_put (d + 3) (T := T) (σ := σ478) (x := x484) (i := σ.2.1 57 a) (y := z42) hk486i (by omega) (by omega) (by omega) w482 (nh_k hk486 (by unfold HT; omega)) (vok_1 (by have q9 := hk486; omega) (by omega))) (fun r488 T490 σ489 gt491 hp => ?_)
            obtain ⟨rfl, rfl, w493, F494⟩ := hp
            clear gt491
            show Tn _ _ 387 T σ489 [(3, .int (iI z42)), (2, .int (iI v35)), (1, .int (iI v6)), (0, .ref a)] [] _
            refine tn_iload_n dX7_step_387 rfl 1 rfl ?_
            refine tn_bipush dX7_step_388 (by decide) ?_
            refine tn_icmp_ne (tgt := 397) dX7_step_390 (by decide) ⟨by omega, by omega⟩ ⟨by decide, by decide⟩ (fun h495 => ?_) (fun h495 => absurd h495 (by omega))
            refine tn_iconst dX7_step_397 ?_
            have q496 : σ489.2.1 57 a = σ.2.1 57 a := rc_F F494 (Or.inl (by decide)) (by decide) (rc_F F483 (Or.inl (by decide)) (by decide) (rc_o (by decide) (rc_o (by decide) (rfl))))
            exact tn_zret (v := 0) rfl (by decide) dX7_step_398 ⟨_, rfl, rfl, w493, ((((FrC.rfl.put (by decide) (by decide)).put (by decide) (by decide)).trans (FrC.sub F483 (by decide))).trans (FrC.sub F494 (by decide))), by omega, by omega, ((((FA.rfl.put).put).trans (FA.of F483 (by decide))).trans (FA.of F494 (by decide)))⟩
      · refine tn_aload_n dX7_step_46 rfl 2 rfl ?_
        refine tn_iconst dX7_step_47 ?_
        refine tn_putV (ci := 7) (i := 1) (n := 56) (r := false) (v := 3) tyX7 tyX7_ok nmX7 dX7_step_48 rfl lay_7 (by decide) fl7_34 rfl (tyX7_ok 1 (by decide)) rfl rfl rfl ha rfl rfl ?_
        refine tn_iconst dX7_step_51 ?_
        have q497 : (sA 56 a (3) σ).2.1 57 a = σ.2.1 57 a := rc_o (by decide) (rfl)
        exact tn_zret (v := 0) rfl (by decide) dX7_step_52 ⟨_, rfl, rfl, (hw.put (by decide) (by decide) (fo_56 (by omega))), (FrC.rfl.put (by decide) (by decide)), by omega, by omega, (FA.rfl.put)⟩
    · refine tn_iload_n dX7_step_31 rfl 0 rfl ?_
      refine tn_bipush dX7_step_32 (by decide) ?_
      refine tn_icmp_ne (tgt := 53) dX7_step_34 (by decide) ⟨by omega, by omega⟩ ⟨by decide, by decide⟩ (fun h498 => ?_) (fun h498 => ?_)
      · refine tn_aload_n dX7_step_53 rfl 2 rfl ?_
        refine tn_dup dX7_step_54 rfl ?_
        refine tn_getI (ci := 7) (i := 12) (n := 67) (t := σ.2.1 67 a) dX7_step_55 rfl lay_7 (by decide) fl7_47 ha rfl rfl (rfl) ?_
        have g499 : ((-2147483648 : Int) ≤ σ.2.1 67 a ∧ σ.2.1 67 a ≤ 2147483647) := wf_67 hw ha
        refine tn_iconst dX7_step_58 ?_
        refine tn_iadd dX7_step_59 ?_
        refine tn_any (fun z500 g501 => ?_)
        have g501r : -2147483648 ≤ z500 ∧ z500 ≤ 2147483647 := g501
        refine tn_putV (ci := 7) (i := 12) (n := 67) (r := false) (v := z500) tyX7 tyX7_ok nmX7 dX7_step_60 rfl lay_7 (by decide) fl7_47 rfl (tyX7_ok 12 (by decide)) rfl rfl rfl ha rfl rfl ?_
        refine tn_iload_n dX7_step_63 rfl 1 rfl ?_
        refine tn_iconst dX7_step_64 ?_
        refine tn_iadd dX7_step_65 ?_
        refine tn_any (fun z502 g503 => ?_)
        have g503r : -2147483648 ≤ z502 ∧ z502 ≤ 2147483647 := g503
        refine tn_istore_n (L' := [(3, .int (iI z502)), (2, .int (iI v35)), (1, .int (iI v6)), (0, .ref a)]) dX7_step_66 rfl (by decide) rfl ?_
        refine tn_iload_n dX7_step_67 rfl 1 rfl ?_
        by_cases h504 : v35 < -1 ∨ 15 < v35
        · refine tn_tableOut (tgt := 369) dX7_step_68 (x := v35) ⟨by omega, by omega⟩ h504 (by decide) ?_
          refine tn_aload_n dX7_step_369 rfl 3 rfl ?_
          refine tn_iload_n dX7_step_370 rfl 2 rfl ?_
          refine tn_iload_n dX7_step_371 rfl 1 rfl ?_
          refine tn_callV (M := m_X7_step) (pc := 372) (ix := 129) (ci := 7) (M' := m_X7_reckonAt) (As := [.int (iI v6), .int (iI v35)]) (rest := []) dX7_step_372 ok_X7_reckonAt im_X7_reckonAt se_X7_reckonAt ml7_129 np_X7_reckonAt rfl rfl ha rfl (Nat.le_of_ble_eq_true rfl) (Nat.le_of_ble_eq_true rfl) rfl (k_X7_reckonAt (d + 1) (T := T) (σ := (sA 67 a (z500) σ)) (a := a) (k := v6) (e := v35) ha (by omega) (by omega) (hw.put (by decide) (by decide) (fo_67 (by omega))) (by rw [show (sA 67 a (z500) σ).2.1 69 a = _ from rc_o (by decide) (hx7)]; omega)) (fun r505 T507 σ506 gt508 hp => ?_)
          obtain ⟨rfl, rfl, w510, F511⟩ := hp
          clear gt508
          show Tn _ _ 375 T σ506 [(3, .int (iI z502)), (2, .int (iI v35)), (1, .int (iI v6)), (0, .ref a)] [] _
          refine tn_aload_n dX7_step_375 rfl 3 rfl ?_
          obtain ⟨x512, hx513, hk514, hl515⟩ : ∃ x : Nat, σ.2.1 60 a = (x : Int) ∧ AR T x 1 9 9 := wf_60 hw ha
          have hk514i : IA T x512 := by unfold IA; omega
          refine tn_getR (ci := 7) (i := 5) (n := 60) (x := x512) dX7_step_376 rfl lay_7 (by decide) fl7_15 ha rfl rfl (rc_F F511 (Or.inl (by decide)) (by decide) (rc_o (by decide) (hx513))) ?_
          refine tn_aload_n dX7_step_379 rfl 3 rfl ?_
          refine tn_getI (ci := 7) (i := 2) (n := 57) (t := σ.2.1 57 a) dX7_step_380 rfl lay_7 (by decide) fl7_65 ha rfl rfl (rc_F F511 (Or.inl (by decide)) (by decide) (rc_o (by decide) (rfl))) ?_
          have g516 : ((0 : Int) ≤ σ.2.1 57 a ∧ σ.2.1 57 a ≤ 11184800) ∧ ((T a).1 = 57 → σ.2.1 57 a ≤ 8) := wf_57 hw ha
          have g516x := g516.2
          replace g516 := g516.1
          clear g516x
          refine tn_iload_n dX7_step_383 rfl 0 rfl ?_
          refine tn_callSN (M := m_X7_step) (pc := 384) (ix := 61) (M' := m_X11_put) (As := [.ref x512, .int (iI (σ.2.1 57 a)), .int (iI z502)]) (rest := []) dX7_step_384 ok_X11_put stt_X11_put nl7_61 np_X11_put rfl (Nat.le_of_ble_eq_true rfl) (Nat.le_of_ble_eq_true rfl) rfl (k_X11_put (d + 3) (T := T) (σ := σ506) (x := x512) (i := σ.2.1 57 a) (y := z502) hk514i (by omega) (by omega) (by omega) w510 (nh_k hk514 (by unfold HT; omega)) (vok_1 (by have q9 := hk514; omega) (by omega))) (fun r517 T519 σ518 gt520 hp => ?_)
          obtain ⟨rfl, rfl, w522, F523⟩ := hp
          clear gt520
          show Tn _ _ 387 T σ518 [(3, .int (iI z502)), (2, .int (iI v35)), (1, .int (iI v6)), (0, .ref a)] [] _
          refine tn_iload_n dX7_step_387 rfl 1 rfl ?_
          refine tn_bipush dX7_step_388 (by decide) ?_
          refine tn_icmp_ne (tgt := 397) dX7_step_390 (by decide) ⟨by omega, by omega⟩ ⟨by decide, by decide⟩ (fun h524 => ?_) (fun h524 => ?_)
          · refine tn_iconst dX7_step_397 ?_
            have q525 : σ518.2.1 57 a = σ.2.1 57 a := rc_F F523 (Or.inl (by decide)) (by decide) (rc_F F511 (Or.inl (by decide)) (by decide) (rc_o (by decide) (rfl)))
            exact tn_zret (v := 0) rfl (by decide) dX7_step_398 ⟨_, rfl, rfl, w522, (((FrC.rfl.put (by decide) (by decide)).trans (FrC.sub F511 (by decide))).trans (FrC.sub F523 (by decide))), by omega, by omega, (((FA.rfl.put).trans (FA.of F511 (by decide))).trans (FA.of F523 (by decide)))⟩
          · refine tn_iconst dX7_step_393 ?_
            refine tn_goto (tgt := 398) dX7_step_394 (by decide) ?_
            have q526 : σ518.2.1 57 a = σ.2.1 57 a := rc_F F523 (Or.inl (by decide)) (by decide) (rc_F F511 (Or.inl (by decide)) (by decide) (rc_o (by decide) (rfl)))
            exact tn_zret (v := 1) rfl (by decide) dX7_step_398 ⟨_, rfl, rfl, w522, (((FrC.rfl.put (by decide) (by decide)).trans (FrC.sub F511 (by decide))).trans (FrC.sub F523 (by decide))), by omega, by omega, (((FA.rfl.put).trans (FA.of F511 (by decide))).trans (FA.of F523 (by decide)))⟩
        · have h527 : v35 = -1 ∨ v35 = 0 ∨ v35 = 1 ∨ v35 = 2 ∨ v35 = 3 ∨ v35 = 4 ∨ v35 = 5 ∨ v35 = 6 ∨ v35 = 7 ∨ v35 = 8 ∨ v35 = 9 ∨ v35 = 10 ∨ v35 = 11 ∨ v35 = 12 ∨ v35 = 13 ∨ v35 = 14 ∨ v35 = 15 := by omega
          rcases h527 with h527 | h527 | h527 | h527 | h527 | h527 | h527 | h527 | h527 | h527 | h527 | h527 | h527 | h527 | h527 | h527 | h527
          · refine tn_tableIn (tgt := 362) (off := 294) dX7_step_68 (x := v35) ⟨by omega, by omega⟩ (by omega) (by omega) (by rw [h527]; rfl) (by decide) ?_
            refine tn_aload_n dX7_step_362 rfl 3 rfl ?_
            refine tn_iconst dX7_step_363 ?_
            have q532 : (sA 67 a (z500) σ).2.1 57 a = σ.2.1 57 a := rc_o (by decide) (rfl)
            refine tn_callV (M := m_X7_step) (pc := 364) (ix := 123) (ci := 7) (M' := m_X7_giveBack) (As := [.int (iI 0)]) (rest := []) dX7_step_364 ok_X7_giveBack im_X7_giveBack se_X7_giveBack ml7_123 np_X7_giveBack rfl rfl ha rfl (Nat.le_of_ble_eq_true rfl) (Nat.le_of_ble_eq_true rfl) rfl (k_X7_giveBack (d + 1) (T := T) (σ := (sA 67 a (z500) σ)) (a := a) (n := 0) ha hta (by decide) (hw.put (by decide) (by decide) (fo_67 (by omega))) ) (fun r528 T530 σ529 gt531 hp => ?_)
            obtain ⟨rfl, rfl, w536, F537, f533, f534⟩ := hp
            clear gt531
            show Tn _ _ 367 T σ529 [(3, .int (iI z502)), (2, .int (iI v35)), (1, .int (iI v6)), (0, .ref a)] [] _
            refine tn_iconst dX7_step_367 ?_
            have q538 : σ529.2.1 57 a = σ529.2.1 57 a := rfl
            exact tn_zret (v := 0) rfl (by decide) dX7_step_368 ⟨_, rfl, rfl, w536, ((FrC.rfl.put (by decide) (by decide)).trans (FrC.sub F537 (by decide))), by omega, by omega, ((FA.rfl.put).trans f534)⟩
          · refine tn_tableIn (tgt := 369) (off := 301) dX7_step_68 (x := v35) ⟨by omega, by omega⟩ (by omega) (by omega) (by rw [h527]; rfl) (by decide) ?_
            refine tn_aload_n dX7_step_369 rfl 3 rfl ?_
            refine tn_iload_n dX7_step_370 rfl 2 rfl ?_
            refine tn_iload_n dX7_step_371 rfl 1 rfl ?_
            refine tn_callV (M := m_X7_step) (pc := 372) (ix := 129) (ci := 7) (M' := m_X7_reckonAt) (As := [.int (iI v6), .int (iI v35)]) (rest := []) dX7_step_372 ok_X7_reckonAt im_X7_reckonAt se_X7_reckonAt ml7_129 np_X7_reckonAt rfl rfl ha rfl (Nat.le_of_ble_eq_true rfl) (Nat.le_of_ble_eq_true rfl) rfl (k_X7_reckonAt (d + 1) (T := T) (σ := (sA 67 a (z500) σ)) (a := a) (k := v6) (e := v35) ha (by omega) (by omega) (hw.put (by decide) (by decide) (fo_67 (by omega))) (by rw [show (sA 67 a (z500) σ).2.1 69 a = _ from rc_o (by decide) (hx7)]; omega)) (fun r539 T541 σ540 gt542 hp => ?_)
            obtain ⟨rfl, rfl, w544, F545⟩ := hp
            clear gt542
            show Tn _ _ 375 T σ540 [(3, .int (iI z502)), (2, .int (iI v35)), (1, .int (iI v6)), (0, .ref a)] [] _
            refine tn_aload_n dX7_step_375 rfl 3 rfl ?_
            obtain ⟨x546, hx547, hk548, hl549⟩ : ∃ x : Nat, σ.2.1 60 a = (x : Int) ∧ AR T x 1 9 9 := wf_60 hw ha
            have hk548i : IA T x546 := by unfold IA; omega
            refine tn_getR (ci := 7) (i := 5) (n := 60) (x := x546) dX7_step_376 rfl lay_7 (by decide) fl7_15 ha rfl rfl (rc_F F545 (Or.inl (by decide)) (by decide) (rc_o (by decide) (hx547))) ?_
            refine tn_aload_n dX7_step_379 rfl 3 rfl ?_
            refine tn_getI (ci := 7) (i := 2) (n := 57) (t := σ.2.1 57 a) dX7_step_380 rfl lay_7 (by decide) fl7_65 ha rfl rfl (rc_F F545 (Or.inl (by decide)) (by decide) (rc_o (by decide) (rfl))) ?_
            have g550 : ((0 : Int) ≤ σ.2.1 57 a ∧ σ.2.1 57 a ≤ 11184800) ∧ ((T a).1 = 57 → σ.2.1 57 a ≤ 8) := wf_57 hw ha
            have g550x := g550.2
            replace g550 := g550.1
            clear g550x
            refine tn_iload_n dX7_step_383 rfl 0 rfl ?_
            refine tn_callSN (M := m_X7_step) (pc := 384) (ix := 61) (M' := m_X11_put) (As := [.ref x546, .int (iI (σ.2.1 57 a)), .int (iI z502)]) (rest := []) dX7_step_384 ok_X11_put stt_X11_put nl7_61 np_X11_put rfl (Nat.le_of_ble_eq_true rfl) (Nat.le_of_ble_eq_true rfl) rfl (k_X11_put (d + 3) (T := T) (σ := σ540) (x := x546) (i := σ.2.1 57 a) (y := z502) hk548i (by omega) (by omega) (by omega) w544 (nh_k hk548 (by unfold HT; omega)) (vok_1 (by have q9 := hk548; omega) (by omega))) (fun r551 T553 σ552 gt554 hp => ?_)
            obtain ⟨rfl, rfl, w556, F557⟩ := hp
            clear gt554
            show Tn _ _ 387 T σ552 [(3, .int (iI z502)), (2, .int (iI v35)), (1, .int (iI v6)), (0, .ref a)] [] _
            refine tn_iload_n dX7_step_387 rfl 1 rfl ?_
            refine tn_bipush dX7_step_388 (by decide) ?_
            refine tn_icmp_ne (tgt := 397) dX7_step_390 (by decide) ⟨by omega, by omega⟩ ⟨by decide, by decide⟩ (fun h558 => ?_) (fun h558 => absurd h558 (by omega))
            refine tn_iconst dX7_step_397 ?_
            have q559 : σ552.2.1 57 a = σ.2.1 57 a := rc_F F557 (Or.inl (by decide)) (by decide) (rc_F F545 (Or.inl (by decide)) (by decide) (rc_o (by decide) (rfl)))
            exact tn_zret (v := 0) rfl (by decide) dX7_step_398 ⟨_, rfl, rfl, w556, (((FrC.rfl.put (by decide) (by decide)).trans (FrC.sub F545 (by decide))).trans (FrC.sub F557 (by decide))), by omega, by omega, (((FA.rfl.put).trans (FA.of F545 (by decide))).trans (FA.of F557 (by decide)))⟩
          · refine tn_tableIn (tgt := 369) (off := 301) dX7_step_68 (x := v35) ⟨by omega, by omega⟩ (by omega) (by omega) (by rw [h527]; rfl) (by decide) ?_
            refine tn_aload_n dX7_step_369 rfl 3 rfl ?_
            refine tn_iload_n dX7_step_370 rfl 2 rfl ?_
            refine tn_iload_n dX7_step_371 rfl 1 rfl ?_
            refine tn_callV (M := m_X7_step) (pc := 372) (ix := 129) (ci := 7) (M' := m_X7_reckonAt) (As := [.int (iI v6), .int (iI v35)]) (rest := []) dX7_step_372 ok_X7_reckonAt im_X7_reckonAt se_X7_reckonAt ml7_129 np_X7_reckonAt rfl rfl ha rfl (Nat.le_of_ble_eq_true rfl) (Nat.le_of_ble_eq_true rfl) rfl (k_X7_reckonAt (d + 1) (T := T) (σ := (sA 67 a (z500) σ)) (a := a) (k := v6) (e := v35) ha (by omega) (by omega) (hw.put (by decide) (by decide) (fo_67 (by omega))) (by rw [show (sA 67 a (z500) σ).2.1 69 a = _ from rc_o (by decide) (hx7)]; omega)) (fun r560 T562 σ561 gt563 hp => ?_)
            obtain ⟨rfl, rfl, w565, F566⟩ := hp
            clear gt563
            show Tn _ _ 375 T σ561 [(3, .int (iI z502)), (2, .int (iI v35)), (1, .int (iI v6)), (0, .ref a)] [] _
            refine tn_aload_n dX7_step_375 rfl 3 rfl ?_
            obtain ⟨x567, hx568, hk569, hl570⟩ : ∃ x : Nat, σ.2.1 60 a = (x : Int) ∧ AR T x 1 9 9 := wf_60 hw ha
            have hk569i : IA T x567 := by unfold IA; omega
            refine tn_getR (ci := 7) (i := 5) (n := 60) (x := x567) dX7_step_376 rfl lay_7 (by decide) fl7_15 ha rfl rfl (rc_F F566 (Or.inl (by decide)) (by decide) (rc_o (by decide) (hx568))) ?_
            refine tn_aload_n dX7_step_379 rfl 3 rfl ?_
            refine tn_getI (ci := 7) (i := 2) (n := 57) (t := σ.2.1 57 a) dX7_step_380 rfl lay_7 (by decide) fl7_65 ha rfl rfl (rc_F F566 (Or.inl (by decide)) (by decide) (rc_o (by decide) (rfl))) ?_
            have g571 : ((0 : Int) ≤ σ.2.1 57 a ∧ σ.2.1 57 a ≤ 11184800) ∧ ((T a).1 = 57 → σ.2.1 57 a ≤ 8) := wf_57 hw ha
            have g571x := g571.2
            replace g571 := g571.1
            clear g571x
            refine tn_iload_n dX7_step_383 rfl 0 rfl ?_
            refine tn_callSN (M := m_X7_step) (pc := 384) (ix := 61) (M' := m_X11_put) (As := [.ref x567, .int (iI (σ.2.1 57 a)), .int (iI z502)]) (rest := []) dX7_step_384 ok_X11_put stt_X11_put nl7_61 np_X11_put rfl (Nat.le_of_ble_eq_true rfl) (Nat.le_of_ble_eq_true rfl) rfl (k_X11_put (d + 3) (T := T) (σ := σ561) (x := x567) (i := σ.2.1 57 a) (y := z502) hk569i (by omega) (by omega) (by omega) w565 (nh_k hk569 (by unfold HT; omega)) (vok_1 (by have q9 := hk569; omega) (by omega))) (fun r572 T574 σ573 gt575 hp => ?_)
            obtain ⟨rfl, rfl, w577, F578⟩ := hp
            clear gt575
            show Tn _ _ 387 T σ573 [(3, .int (iI z502)), (2, .int (iI v35)), (1, .int (iI v6)), (0, .ref a)] [] _
            refine tn_iload_n dX7_step_387 rfl 1 rfl ?_
            refine tn_bipush dX7_step_388 (by decide) ?_
            refine tn_icmp_ne (tgt := 397) dX7_step_390 (by decide) ⟨by omega, by omega⟩ ⟨by decide, by decide⟩ (fun h579 => ?_) (fun h579 => absurd h579 (by omega))
            refine tn_iconst dX7_step_397 ?_
            have q580 : σ573.2.1 57 a = σ.2.1 57 a := rc_F F578 (Or.inl (by decide)) (by decide) (rc_F F566 (Or.inl (by decide)) (by decide) (rc_o (by decide) (rfl)))
            exact tn_zret (v := 0) rfl (by decide) dX7_step_398 ⟨_, rfl, rfl, w577, (((FrC.rfl.put (by decide) (by decide)).trans (FrC.sub F566 (by decide))).trans (FrC.sub F578 (by decide))), by omega, by omega, (((FA.rfl.put).trans (FA.of F566 (by decide))).trans (FA.of F578 (by decide)))⟩
          · refine tn_tableIn (tgt := 369) (off := 301) dX7_step_68 (x := v35) ⟨by omega, by omega⟩ (by omega) (by omega) (by rw [h527]; rfl) (by decide) ?_
            refine tn_aload_n dX7_step_369 rfl 3 rfl ?_
            refine tn_iload_n dX7_step_370 rfl 2 rfl ?_
            refine tn_iload_n dX7_step_371 rfl 1 rfl ?_
            refine tn_callV (M := m_X7_step) (pc := 372) (ix := 129) (ci := 7) (M' := m_X7_reckonAt) (As := [.int (iI v6), .int (iI v35)]) (rest := []) dX7_step_372 ok_X7_reckonAt im_X7_reckonAt se_X7_reckonAt ml7_129 np_X7_reckonAt rfl rfl ha rfl (Nat.le_of_ble_eq_true rfl) (Nat.le_of_ble_eq_true rfl) rfl (k_X7_reckonAt (d + 1) (T := T) (σ := (sA 67 a (z500) σ)) (a := a) (k := v6) (e := v35) ha (by omega) (by omega) (hw.put (by decide) (by decide) (fo_67 (by omega))) (by rw [show (sA 67 a (z500) σ).2.1 69 a = _ from rc_o (by decide) (hx7)]; omega)) (fun r581 T583 σ582 gt584 hp => ?_)
            obtain ⟨rfl, rfl, w586, F587⟩ := hp
            clear gt584
            show Tn _ _ 375 T σ582 [(3, .int (iI z502)), (2, .int (iI v35)), (1, .int (iI v6)), (0, .ref a)] [] _
            refine tn_aload_n dX7_step_375 rfl 3 rfl ?_
            obtain ⟨x588, hx589, hk590, hl591⟩ : ∃ x : Nat, σ.2.1 60 a = (x : Int) ∧ AR T x 1 9 9 := wf_60 hw ha
            have hk590i : IA T x588 := by unfold IA; omega
            refine tn_getR (ci := 7) (i := 5) (n := 60) (x := x588) dX7_step_376 rfl lay_7 (by decide) fl7_15 ha rfl rfl (rc_F F587 (Or.inl (by decide)) (by decide) (rc_o (by decide) (hx589))) ?_
            refine tn_aload_n dX7_step_379 rfl 3 rfl ?_
            refine tn_getI (ci := 7) (i := 2) (n := 57) (t := σ.2.1 57 a) dX7_step_380 rfl lay_7 (by decide) fl7_65 ha rfl rfl (rc_F F587 (Or.inl (by decide)) (by decide) (rc_o (by decide) (rfl))) ?_
            have g592 : ((0 : Int) ≤ σ.2.1 57 a ∧ σ.2.1 57 a ≤ 11184800) ∧ ((T a).1 = 57 → σ.2.1 57 a ≤ 8) := wf_57 hw ha
            have g592x := g592.2
            replace g592 := g592.1
            clear g592x
            refine tn_iload_n dX7_step_383 rfl 0 rfl ?_
            refine tn_callSN (M := m_X7_step) (pc := 384) (ix := 61) (M' := m_X11_put) (As := [.ref x588, .int (iI (σ.2.1 57 a)), .int (iI z502)]) (rest := []) dX7_step_384 ok_X11_put stt_X11_put nl7_61 np_X11_put rfl (Nat.le_of_ble_eq_true rfl) (Nat.le_of_ble_eq_true rfl) rfl (k_X11_put (d + 3) (T := T) (σ := σ582) (x := x588) (i := σ.2.1 57 a) (y := z502) hk590i (by omega) (by omega) (by omega) w586 (nh_k hk590 (by unfold HT; omega)) (vok_1 (by have q9 := hk590; omega) (by omega))) (fun r593 T595 σ594 gt596 hp => ?_)
            obtain ⟨rfl, rfl, w598, F599⟩ := hp
            clear gt596
            show Tn _ _ 387 T σ594 [(3, .int (iI z502)), (2, .int (iI v35)), (1, .int (iI v6)), (0, .ref a)] [] _
            refine tn_iload_n dX7_step_387 rfl 1 rfl ?_
            refine tn_bipush dX7_step_388 (by decide) ?_
            refine tn_icmp_ne (tgt := 397) dX7_step_390 (by decide) ⟨by omega, by omega⟩ ⟨by decide, by decide⟩ (fun h600 => ?_) (fun h600 => absurd h600 (by omega))
            refine tn_iconst dX7_step_397 ?_
            have q601 : σ594.2.1 57 a = σ.2.1 57 a := rc_F F599 (Or.inl (by decide)) (by decide) (rc_F F587 (Or.inl (by decide)) (by decide) (rc_o (by decide) (rfl)))
            exact tn_zret (v := 0) rfl (by decide) dX7_step_398 ⟨_, rfl, rfl, w598, (((FrC.rfl.put (by decide) (by decide)).trans (FrC.sub F587 (by decide))).trans (FrC.sub F599 (by decide))), by omega, by omega, (((FA.rfl.put).trans (FA.of F587 (by decide))).trans (FA.of F599 (by decide)))⟩
          · refine tn_tableIn (tgt := 369) (off := 301) dX7_step_68 (x := v35) ⟨by omega, by omega⟩ (by omega) (by omega) (by rw [h527]; rfl) (by decide) ?_
            refine tn_aload_n dX7_step_369 rfl 3 rfl ?_
            refine tn_iload_n dX7_step_370 rfl 2 rfl ?_
            refine tn_iload_n dX7_step_371 rfl 1 rfl ?_
            refine tn_callV (M := m_X7_step) (pc := 372) (ix := 129) (ci := 7) (M' := m_X7_reckonAt) (As := [.int (iI v6), .int (iI v35)]) (rest := []) dX7_step_372 ok_X7_reckonAt im_X7_reckonAt se_X7_reckonAt ml7_129 np_X7_reckonAt rfl rfl ha rfl (Nat.le_of_ble_eq_true rfl) (Nat.le_of_ble_eq_true rfl) rfl (k_X7_reckonAt (d + 1) (T := T) (σ := (sA 67 a (z500) σ)) (a := a) (k := v6) (e := v35) ha (by omega) (by omega) (hw.put (by decide) (by decide) (fo_67 (by omega))) (by rw [show (sA 67 a (z500) σ).2.1 69 a = _ from rc_o (by decide) (hx7)]; omega)) (fun r602 T604 σ603 gt605 hp => ?_)
            obtain ⟨rfl, rfl, w607, F608⟩ := hp
            clear gt605
            show Tn _ _ 375 T σ603 [(3, .int (iI z502)), (2, .int (iI v35)), (1, .int (iI v6)), (0, .ref a)] [] _
            refine tn_aload_n dX7_step_375 rfl 3 rfl ?_
            obtain ⟨x609, hx610, hk611, hl612⟩ : ∃ x : Nat, σ.2.1 60 a = (x : Int) ∧ AR T x 1 9 9 := wf_60 hw ha
            have hk611i : IA T x609 := by unfold IA; omega
            refine tn_getR (ci := 7) (i := 5) (n := 60) (x := x609) dX7_step_376 rfl lay_7 (by decide) fl7_15 ha rfl rfl (rc_F F608 (Or.inl (by decide)) (by decide) (rc_o (by decide) (hx610))) ?_
            refine tn_aload_n dX7_step_379 rfl 3 rfl ?_
            refine tn_getI (ci := 7) (i := 2) (n := 57) (t := σ.2.1 57 a) dX7_step_380 rfl lay_7 (by decide) fl7_65 ha rfl rfl (rc_F F608 (Or.inl (by decide)) (by decide) (rc_o (by decide) (rfl))) ?_
            have g613 : ((0 : Int) ≤ σ.2.1 57 a ∧ σ.2.1 57 a ≤ 11184800) ∧ ((T a).1 = 57 → σ.2.1 57 a ≤ 8) := wf_57 hw ha
            have g613x := g613.2
            replace g613 := g613.1
            clear g613x
            refine tn_iload_n dX7_step_383 rfl 0 rfl ?_
            refine tn_callSN (M := m_X7_step) (pc := 384) (ix := 61) (M' := m_X11_put) (As := [.ref x609, .int (iI (σ.2.1 57 a)), .int (iI z502)]) (rest := []) dX7_step_384 ok_X11_put stt_X11_put nl7_61 np_X11_put rfl (Nat.le_of_ble_eq_true rfl) (Nat.le_of_ble_eq_true rfl) rfl (k_X11_put (d + 3) (T := T) (σ := σ603) (x := x609) (i := σ.2.1 57 a) (y := z502) hk611i (by omega) (by omega) (by omega) w607 (nh_k hk611 (by unfold HT; omega)) (vok_1 (by have q9 := hk611; omega) (by omega))) (fun r614 T616 σ615 gt617 hp => ?_)
            obtain ⟨rfl, rfl, w619, F620⟩ := hp
            clear gt617
            show Tn _ _ 387 T σ615 [(3, .int (iI z502)), (2, .int (iI v35)), (1, .int (iI v6)), (0, .ref a)] [] _
            refine tn_iload_n dX7_step_387 rfl 1 rfl ?_
            refine tn_bipush dX7_step_388 (by decide) ?_
            refine tn_icmp_ne (tgt := 397) dX7_step_390 (by decide) ⟨by omega, by omega⟩ ⟨by decide, by decide⟩ (fun h621 => ?_) (fun h621 => absurd h621 (by omega))
            refine tn_iconst dX7_step_397 ?_
            have q622 : σ615.2.1 57 a = σ.2.1 57 a := rc_F F620 (Or.inl (by decide)) (by decide) (rc_F F608 (Or.inl (by decide)) (by decide) (rc_o (by decide) (rfl)))
            exact tn_zret (v := 0) rfl (by decide) dX7_step_398 ⟨_, rfl, rfl, w619, (((FrC.rfl.put (by decide) (by decide)).trans (FrC.sub F608 (by decide))).trans (FrC.sub F620 (by decide))), by omega, by omega, (((FA.rfl.put).trans (FA.of F608 (by decide))).trans (FA.of F620 (by decide)))⟩
          · refine tn_tableIn (tgt := 369) (off := 301) dX7_step_68 (x := v35) ⟨by omega, by omega⟩ (by omega) (by omega) (by rw [h527]; rfl) (by decide) ?_
            refine tn_aload_n dX7_step_369 rfl 3 rfl ?_
            refine tn_iload_n dX7_step_370 rfl 2 rfl ?_
            refine tn_iload_n dX7_step_371 rfl 1 rfl ?_
            refine tn_callV (M := m_X7_step) (pc := 372) (ix := 129) (ci := 7) (M' := m_X7_reckonAt) (As := [.int (iI v6), .int (iI v35)]) (rest := []) dX7_step_372 ok_X7_reckonAt im_X7_reckonAt se_X7_reckonAt ml7_129 np_X7_reckonAt rfl rfl ha rfl (Nat.le_of_ble_eq_true rfl) (Nat.le_of_ble_eq_true rfl) rfl (k_X7_reckonAt (d + 1) (T := T) (σ := (sA 67 a (z500) σ)) (a := a) (k := v6) (e := v35) ha (by omega) (by omega) (hw.put (by decide) (by decide) (fo_67 (by omega))) (by rw [show (sA 67 a (z500) σ).2.1 69 a = _ from rc_o (by decide) (hx7)]; omega)) (fun r623 T625 σ624 gt626 hp => ?_)
            obtain ⟨rfl, rfl, w628, F629⟩ := hp
            clear gt626
            show Tn _ _ 375 T σ624 [(3, .int (iI z502)), (2, .int (iI v35)), (1, .int (iI v6)), (0, .ref a)] [] _
            refine tn_aload_n dX7_step_375 rfl 3 rfl ?_
            obtain ⟨x630, hx631, hk632, hl633⟩ : ∃ x : Nat, σ.2.1 60 a = (x : Int) ∧ AR T x 1 9 9 := wf_60 hw ha
            have hk632i : IA T x630 := by unfold IA; omega
            refine tn_getR (ci := 7) (i := 5) (n := 60) (x := x630) dX7_step_376 rfl lay_7 (by decide) fl7_15 ha rfl rfl (rc_F F629 (Or.inl (by decide)) (by decide) (rc_o (by decide) (hx631))) ?_
            refine tn_aload_n dX7_step_379 rfl 3 rfl ?_
            refine tn_getI (ci := 7) (i := 2) (n := 57) (t := σ.2.1 57 a) dX7_step_380 rfl lay_7 (by decide) fl7_65 ha rfl rfl (rc_F F629 (Or.inl (by decide)) (by decide) (rc_o (by decide) (rfl))) ?_
            have g634 : ((0 : Int) ≤ σ.2.1 57 a ∧ σ.2.1 57 a ≤ 11184800) ∧ ((T a).1 = 57 → σ.2.1 57 a ≤ 8) := wf_57 hw ha
            have g634x := g634.2
            replace g634 := g634.1
            clear g634x
            refine tn_iload_n dX7_step_383 rfl 0 rfl ?_
            refine tn_callSN (M := m_X7_step) (pc := 384) (ix := 61) (M' := m_X11_put) (As := [.ref x630, .int (iI (σ.2.1 57 a)), .int (iI z502)]) (rest := []) dX7_step_384 ok_X11_put stt_X11_put nl7_61 np_X11_put rfl (Nat.le_of_ble_eq_true rfl) (Nat.le_of_ble_eq_true rfl) rfl (k_X11_put (d + 3) (T := T) (σ := σ624) (x := x630) (i := σ.2.1 57 a) (y := z502) hk632i (by omega) (by omega) (by omega) w628 (nh_k hk632 (by unfold HT; omega)) (vok_1 (by have q9 := hk632; omega) (by omega))) (fun r635 T637 σ636 gt638 hp => ?_)
            obtain ⟨rfl, rfl, w640, F641⟩ := hp
            clear gt638
            show Tn _ _ 387 T σ636 [(3, .int (iI z502)), (2, .int (iI v35)), (1, .int (iI v6)), (0, .ref a)] [] _
            refine tn_iload_n dX7_step_387 rfl 1 rfl ?_
            refine tn_bipush dX7_step_388 (by decide) ?_
            refine tn_icmp_ne (tgt := 397) dX7_step_390 (by decide) ⟨by omega, by omega⟩ ⟨by decide, by decide⟩ (fun h642 => ?_) (fun h642 => absurd h642 (by omega))
            refine tn_iconst dX7_step_397 ?_
            have q643 : σ636.2.1 57 a = σ.2.1 57 a := rc_F F641 (Or.inl (by decide)) (by decide) (rc_F F629 (Or.inl (by decide)) (by decide) (rc_o (by decide) (rfl)))
            exact tn_zret (v := 0) rfl (by decide) dX7_step_398 ⟨_, rfl, rfl, w640, (((FrC.rfl.put (by decide) (by decide)).trans (FrC.sub F629 (by decide))).trans (FrC.sub F641 (by decide))), by omega, by omega, (((FA.rfl.put).trans (FA.of F629 (by decide))).trans (FA.of F641 (by decide)))⟩
          · refine tn_tableIn (tgt := 369) (off := 301) dX7_step_68 (x := v35) ⟨by omega, by omega⟩ (by omega) (by omega) (by rw [h527]; rfl) (by decide) ?_
            refine tn_aload_n dX7_step_369 rfl 3 rfl ?_
            refine tn_iload_n dX7_step_370 rfl 2 rfl ?_
            refine tn_iload_n dX7_step_371 rfl 1 rfl ?_
            refine tn_callV (M := m_X7_step) (pc := 372) (ix := 129) (ci := 7) (M' := m_X7_reckonAt) (As := [.int (iI v6), .int (iI v35)]) (rest := []) dX7_step_372 ok_X7_reckonAt im_X7_reckonAt se_X7_reckonAt ml7_129 np_X7_reckonAt rfl rfl ha rfl (Nat.le_of_ble_eq_true rfl) (Nat.le_of_ble_eq_true rfl) rfl (k_X7_reckonAt (d + 1) (T := T) (σ := (sA 67 a (z500) σ)) (a := a) (k := v6) (e := v35) ha (by omega) (by omega) (hw.put (by decide) (by decide) (fo_67 (by omega))) (by rw [show (sA 67 a (z500) σ).2.1 69 a = _ from rc_o (by decide) (hx7)]; omega)) (fun r644 T646 σ645 gt647 hp => ?_)
            obtain ⟨rfl, rfl, w649, F650⟩ := hp
            clear gt647
            show Tn _ _ 375 T σ645 [(3, .int (iI z502)), (2, .int (iI v35)), (1, .int (iI v6)), (0, .ref a)] [] _
            refine tn_aload_n dX7_step_375 rfl 3 rfl ?_
            obtain ⟨x651, hx652, hk653, hl654⟩ : ∃ x : Nat, σ.2.1 60 a = (x : Int) ∧ AR T x 1 9 9 := wf_60 hw ha
            have hk653i : IA T x651 := by unfold IA; omega
            refine tn_getR (ci := 7) (i := 5) (n := 60) (x := x651) dX7_step_376 rfl lay_7 (by decide) fl7_15 ha rfl rfl (rc_F F650 (Or.inl (by decide)) (by decide) (rc_o (by decide) (hx652))) ?_
            refine tn_aload_n dX7_step_379 rfl 3 rfl ?_
            refine tn_getI (ci := 7) (i := 2) (n := 57) (t := σ.2.1 57 a) dX7_step_380 rfl lay_7 (by decide) fl7_65 ha rfl rfl (rc_F F650 (Or.inl (by decide)) (by decide) (rc_o (by decide) (rfl))) ?_
            have g655 : ((0 : Int) ≤ σ.2.1 57 a ∧ σ.2.1 57 a ≤ 11184800) ∧ ((T a).1 = 57 → σ.2.1 57 a ≤ 8) := wf_57 hw ha
            have g655x := g655.2
            replace g655 := g655.1
            clear g655x
            refine tn_iload_n dX7_step_383 rfl 0 rfl ?_
            refine tn_callSN (M := m_X7_step) (pc := 384) (ix := 61) (M' := m_X11_put) (As := [.ref x651, .int (iI (σ.2.1 57 a)), .int (iI z502)]) (rest := []) dX7_step_384 ok_X11_put stt_X11_put nl7_61 np_X11_put rfl (Nat.le_of_ble_eq_true rfl) (Nat.le_of_ble_eq_true rfl) rfl (k_X11_put (d + 3) (T := T) (σ := σ645) (x := x651) (i := σ.2.1 57 a) (y := z502) hk653i (by omega) (by omega) (by omega) w649 (nh_k hk653 (by unfold HT; omega)) (vok_1 (by have q9 := hk653; omega) (by omega))) (fun r656 T658 σ657 gt659 hp => ?_)
            obtain ⟨rfl, rfl, w661, F662⟩ := hp
            clear gt659
            show Tn _ _ 387 T σ657 [(3, .int (iI z502)), (2, .int (iI v35)), (1, .int (iI v6)), (0, .ref a)] [] _
            refine tn_iload_n dX7_step_387 rfl 1 rfl ?_
            refine tn_bipush dX7_step_388 (by decide) ?_
            refine tn_icmp_ne (tgt := 397) dX7_step_390 (by decide) ⟨by omega, by omega⟩ ⟨by decide, by decide⟩ (fun h663 => ?_) (fun h663 => absurd h663 (by omega))
            refine tn_iconst dX7_step_397 ?_
            have q664 : σ657.2.1 57 a = σ.2.1 57 a := rc_F F662 (Or.inl (by decide)) (by decide) (rc_F F650 (Or.inl (by decide)) (by decide) (rc_o (by decide) (rfl)))
            exact tn_zret (v := 0) rfl (by decide) dX7_step_398 ⟨_, rfl, rfl, w661, (((FrC.rfl.put (by decide) (by decide)).trans (FrC.sub F650 (by decide))).trans (FrC.sub F662 (by decide))), by omega, by omega, (((FA.rfl.put).trans (FA.of F650 (by decide))).trans (FA.of F662 (by decide)))⟩
          · refine tn_tableIn (tgt := 152) (off := 84) dX7_step_68 (x := v35) ⟨by omega, by omega⟩ (by omega) (by omega) (by rw [h527]; rfl) (by decide) ?_
            refine tn_aload_n dX7_step_152 rfl 3 rfl ?_
            refine tn_aload_n dX7_step_153 rfl 3 rfl ?_
            refine tn_iload_n dX7_step_154 rfl 2 rfl ?_
            refine tn_iconst dX7_step_155 ?_
            refine tn_callV (M := m_X7_step) (pc := 156) (ix := 110) (ci := 7) (M' := m_X7_operand) (As := [.int (iI v6), .int (iI 3)]) (rest := [.ref a]) dX7_step_156 ok_X7_operand im_X7_operand se_X7_operand ml7_110 np_X7_operand rfl rfl ha rfl (Nat.le_of_ble_eq_true rfl) (Nat.le_of_ble_eq_true rfl) rfl (k_X7_operand (d + 2) (T := T) (σ := (sA 67 a (z500) σ)) (a := a) (k := v6) (c := 3) ha (by omega) (by decide) (hw.put (by decide) (by decide) (fo_67 (by omega))) (by rw [show (sA 67 a (z500) σ).2.1 69 a = _ from rc_o (by decide) (hx7)]; omega) (by omega)) (fun r665 T667 σ666 gt668 hp => ?_)
            obtain ⟨v670, rfl, rfl, rfl, f669⟩ := hp
            clear gt668
            show Tn _ _ 159 T (sA 67 a (z500) σ) [(3, .int (iI z502)), (2, .int (iI v35)), (1, .int (iI v6)), (0, .ref a)] [.int (iI v670), .ref a] _
            refine tn_callV (M := m_X7_step) (pc := 159) (ix := 113) (ci := 7) (M' := m_X7_emit) (As := [.int (iI v670)]) (rest := []) dX7_step_159 ok_X7_emit im_X7_emit se_X7_emit ml7_113 np_X7_emit rfl rfl ha rfl (Nat.le_of_ble_eq_true rfl) (Nat.le_of_ble_eq_true rfl) rfl (k_X7_emit (d + 2) (T := T) (σ := (sA 67 a (z500) σ)) (a := a) (p1 := v670) ha (by omega) (hw.put (by decide) (by decide) (fo_67 (by omega))) ) (fun r671 T673 σ672 gt674 hp => ?_)
            obtain ⟨rfl, rfl, w677, F678, f675⟩ := hp
            clear gt674
            show Tn _ _ 162 T σ672 [(3, .int (iI z502)), (2, .int (iI v35)), (1, .int (iI v6)), (0, .ref a)] [] _
            refine tn_goto (tgt := 375) dX7_step_162 (by decide) ?_
            refine tn_aload_n dX7_step_375 rfl 3 rfl ?_
            obtain ⟨x679, hx680, hk681, hl682⟩ : ∃ x : Nat, σ.2.1 60 a = (x : Int) ∧ AR T x 1 9 9 := wf_60 hw ha
            have hk681i : IA T x679 := by unfold IA; omega
            refine tn_getR (ci := 7) (i := 5) (n := 60) (x := x679) dX7_step_376 rfl lay_7 (by decide) fl7_15 ha rfl rfl (rc_F F678 (Or.inl (by decide)) (by decide) (rc_o (by decide) (hx680))) ?_
            refine tn_aload_n dX7_step_379 rfl 3 rfl ?_
            refine tn_getI (ci := 7) (i := 2) (n := 57) (t := σ.2.1 57 a) dX7_step_380 rfl lay_7 (by decide) fl7_65 ha rfl rfl (rc_F F678 (Or.inl (by decide)) (by decide) (rc_o (by decide) (rfl))) ?_
            have g683 : ((0 : Int) ≤ σ.2.1 57 a ∧ σ.2.1 57 a ≤ 11184800) ∧ ((T a).1 = 57 → σ.2.1 57 a ≤ 8) := wf_57 hw ha
            have g683x := g683.2
            replace g683 := g683.1
            clear g683x
            refine tn_iload_n dX7_step_383 rfl 0 rfl ?_
            refine tn_callSN (M := m_X7_step) (pc := 384) (ix := 61) (M' := m_X11_put) (As := [.ref x679, .int (iI (σ.2.1 57 a)), .int (iI z502)]) (rest := []) dX7_step_384 ok_X11_put stt_X11_put nl7_61 np_X11_put rfl (Nat.le_of_ble_eq_true rfl) (Nat.le_of_ble_eq_true rfl) rfl (k_X11_put (d + 3) (T := T) (σ := σ672) (x := x679) (i := σ.2.1 57 a) (y := z502) hk681i (by omega) (by omega) (by omega) w677 (nh_k hk681 (by unfold HT; omega)) (vok_1 (by have q9 := hk681; omega) (by omega))) (fun r684 T686 σ685 gt687 hp => ?_)
            obtain ⟨rfl, rfl, w689, F690⟩ := hp
            clear gt687
            show Tn _ _ 387 T σ685 [(3, .int (iI z502)), (2, .int (iI v35)), (1, .int (iI v6)), (0, .ref a)] [] _
            refine tn_iload_n dX7_step_387 rfl 1 rfl ?_
            refine tn_bipush dX7_step_388 (by decide) ?_
            refine tn_icmp_ne (tgt := 397) dX7_step_390 (by decide) ⟨by omega, by omega⟩ ⟨by decide, by decide⟩ (fun h691 => ?_) (fun h691 => absurd h691 (by omega))
            refine tn_iconst dX7_step_397 ?_
            have q692 : σ685.2.1 57 a = σ.2.1 57 a := rc_F F690 (Or.inl (by decide)) (by decide) (rc_F F678 (Or.inl (by decide)) (by decide) (rc_o (by decide) (rfl)))
            exact tn_zret (v := 0) rfl (by decide) dX7_step_398 ⟨_, rfl, rfl, w689, (((FrC.rfl.put (by decide) (by decide)).trans (FrC.sub F678 (by decide))).trans (FrC.sub F690 (by decide))), by omega, by omega, (((FA.rfl.put).trans f675).trans (FA.of F690 (by decide)))⟩
          · refine tn_tableIn (tgt := 213) (off := 145) dX7_step_68 (x := v35) ⟨by omega, by omega⟩ (by omega) (by omega) (by rw [h527]; rfl) (by decide) ?_
            refine tn_aload_n dX7_step_213 rfl 3 rfl ?_
            refine tn_aload_n dX7_step_214 rfl 3 rfl ?_
            refine tn_iload_n dX7_step_215 rfl 2 rfl ?_
            refine tn_iconst dX7_step_216 ?_
            refine tn_callV (M := m_X7_step) (pc := 217) (ix := 110) (ci := 7) (M' := m_X7_operand) (As := [.int (iI v6), .int (iI 3)]) (rest := [.ref a]) dX7_step_217 ok_X7_operand im_X7_operand se_X7_operand ml7_110 np_X7_operand rfl rfl ha rfl (Nat.le_of_ble_eq_true rfl) (Nat.le_of_ble_eq_true rfl) rfl (k_X7_operand (d + 2) (T := T) (σ := (sA 67 a (z500) σ)) (a := a) (k := v6) (c := 3) ha (by omega) (by decide) (hw.put (by decide) (by decide) (fo_67 (by omega))) (by rw [show (sA 67 a (z500) σ).2.1 69 a = _ from rc_o (by decide) (hx7)]; omega) (by omega)) (fun r693 T695 σ694 gt696 hp => ?_)
            obtain ⟨v698, rfl, rfl, rfl, f697⟩ := hp
            clear gt696
            show Tn _ _ 220 T (sA 67 a (z500) σ) [(3, .int (iI z502)), (2, .int (iI v35)), (1, .int (iI v6)), (0, .ref a)] [.int (iI v698), .ref a] _
            have q703 : (sA 67 a (z500) σ).2.1 57 a = σ.2.1 57 a := rc_o (by decide) (rfl)
            refine tn_callV (M := m_X7_step) (pc := 220) (ix := 123) (ci := 7) (M' := m_X7_giveBack) (As := [.int (iI v698)]) (rest := []) dX7_step_220 ok_X7_giveBack im_X7_giveBack se_X7_giveBack ml7_123 np_X7_giveBack rfl rfl ha rfl (Nat.le_of_ble_eq_true rfl) (Nat.le_of_ble_eq_true rfl) rfl (k_X7_giveBack (d + 1) (T := T) (σ := (sA 67 a (z500) σ)) (a := a) (n := v698) ha hta (by omega) (hw.put (by decide) (by decide) (fo_67 (by omega))) ) (fun r699 T701 σ700 gt702 hp => ?_)
            obtain ⟨rfl, rfl, w707, F708, f704, f705⟩ := hp
            clear gt702
            show Tn _ _ 223 T σ700 [(3, .int (iI z502)), (2, .int (iI v35)), (1, .int (iI v6)), (0, .ref a)] [] _
            refine tn_iconst dX7_step_223 ?_
            have q709 : σ700.2.1 57 a = σ700.2.1 57 a := rfl
            exact tn_zret (v := 0) rfl (by decide) dX7_step_224 ⟨_, rfl, rfl, w707, ((FrC.rfl.put (by decide) (by decide)).trans (FrC.sub F708 (by decide))), by omega, by omega, ((FA.rfl.put).trans f705)⟩
          · refine tn_tableIn (tgt := 165) (off := 97) dX7_step_68 (x := v35) ⟨by omega, by omega⟩ (by omega) (by omega) (by rw [h527]; rfl) (by decide) ?_
            refine tn_aload_n dX7_step_165 rfl 3 rfl ?_
            refine tn_getR (ci := 7) (i := 14) (n := 69) (x := x8) dX7_step_166 rfl lay_7 (by decide) fl7_72 ha rfl rfl (rc_o (by decide) (hx7)) ?_
            refine tn_iload_n dX7_step_169 rfl 2 rfl ?_
            refine tn_bipush dX7_step_170 (by decide) ?_
            refine tn_callV (M := m_X7_step) (pc := 172) (ix := 117) (ci := 1) (M' := m_X1_get) (As := [.int (iI v6), .int (iI 12)]) (rest := []) dX7_step_172 ok_X1_get im_X1_get se_X1_get ml7_117 np_X1_get rfl rfl hk9o rfl (Nat.le_of_ble_eq_true rfl) (Nat.le_of_ble_eq_true rfl) rfl (k_X1_get (d + 3) (T := T) (σ := (sA 67 a (z500) σ)) (a := x8) (k := v6) (c := 12) hk9o (by omega) (by decide) (hw.put (by decide) (by decide) (fo_67 (by omega))) (by omega)) (fun r710 T712 σ711 gt713 hp => ?_)
            obtain ⟨v715, rfl, rfl, rfl, f714⟩ := hp
            clear gt713
            show Tn _ _ 175 T (sA 67 a (z500) σ) [(3, .int (iI z502)), (2, .int (iI v35)), (1, .int (iI v6)), (0, .ref a)] [.int (iI v715)] _
            refine tn_istore_n (L' := [(3, .int (iI v715)), (2, .int (iI v35)), (1, .int (iI v6)), (0, .ref a)]) dX7_step_175 rfl (by decide) rfl ?_
            refine tn_goto (tgt := 375) dX7_step_176 (by decide) ?_
            refine tn_aload_n dX7_step_375 rfl 3 rfl ?_
            obtain ⟨x716, hx717, hk718, hl719⟩ : ∃ x : Nat, σ.2.1 60 a = (x : Int) ∧ AR T x 1 9 9 := wf_60 hw ha
            have hk718i : IA T x716 := by unfold IA; omega
            refine tn_getR (ci := 7) (i := 5) (n := 60) (x := x716) dX7_step_376 rfl lay_7 (by decide) fl7_15 ha rfl rfl (rc_o (by decide) (hx717)) ?_
            refine tn_aload_n dX7_step_379 rfl 3 rfl ?_
            refine tn_getI (ci := 7) (i := 2) (n := 57) (t := σ.2.1 57 a) dX7_step_380 rfl lay_7 (by decide) fl7_65 ha rfl rfl (rc_o (by decide) (rfl)) ?_
            have g720 : ((0 : Int) ≤ σ.2.1 57 a ∧ σ.2.1 57 a ≤ 11184800) ∧ ((T a).1 = 57 → σ.2.1 57 a ≤ 8) := wf_57 hw ha
            have g720x := g720.2
            replace g720 := g720.1
            clear g720x
            refine tn_iload_n dX7_step_383 rfl 0 rfl ?_
            refine tn_callSN (M := m_X7_step) (pc := 384) (ix := 61) (M' := m_X11_put) (As := [.ref x716, .int (iI (σ.2.1 57 a)), .int (iI v715)]) (rest := []) dX7_step_384 ok_X11_put stt_X11_put nl7_61 np_X11_put rfl (Nat.le_of_ble_eq_true rfl) (Nat.le_of_ble_eq_true rfl) rfl (k_X11_put (d + 3) (T := T) (σ := (sA 67 a (z500) σ)) (x := x716) (i := σ.2.1 57 a) (y := v715) hk718i (by omega) (by omega) (by omega) (hw.put (by decide) (by decide) (fo_67 (by omega))) (nh_k hk718 (by unfold HT; omega)) (vok_1 (by have q9 := hk718; omega) (by omega))) (fun r721 T723 σ722 gt724 hp => ?_)
            obtain ⟨rfl, rfl, w726, F727⟩ := hp
            clear gt724
            show Tn _ _ 387 T σ722 [(3, .int (iI v715)), (2, .int (iI v35)), (1, .int (iI v6)), (0, .ref a)] [] _
            refine tn_iload_n dX7_step_387 rfl 1 rfl ?_
            refine tn_bipush dX7_step_388 (by decide) ?_
            refine tn_icmp_ne (tgt := 397) dX7_step_390 (by decide) ⟨by omega, by omega⟩ ⟨by decide, by decide⟩ (fun h728 => ?_) (fun h728 => absurd h728 (by omega))
            refine tn_iconst dX7_step_397 ?_
            have q729 : σ722.2.1 57 a = σ.2.1 57 a := rc_F F727 (Or.inl (by decide)) (by decide) (rc_o (by decide) (rfl))
            exact tn_zret (v := 0) rfl (by decide) dX7_step_398 ⟨_, rfl, rfl, w726, ((FrC.rfl.put (by decide) (by decide)).trans (FrC.sub F727 (by decide))), by omega, by omega, ((FA.rfl.put).trans (FA.of F727 (by decide)))⟩
          · refine tn_tableIn (tgt := 179) (off := 111) dX7_step_68 (x := v35) ⟨by omega, by omega⟩ (by omega) (by omega) (by rw [h527]; rfl) (by decide) ?_
            refine tn_aload_n dX7_step_179 rfl 3 rfl ?_
            refine tn_iload_n dX7_step_180 rfl 2 rfl ?_
            refine tn_iconst dX7_step_181 ?_
            refine tn_callV (M := m_X7_step) (pc := 182) (ix := 110) (ci := 7) (M' := m_X7_operand) (As := [.int (iI v6), .int (iI 3)]) (rest := []) dX7_step_182 ok_X7_operand im_X7_operand se_X7_operand ml7_110 np_X7_operand rfl rfl ha rfl (Nat.le_of_ble_eq_true rfl) (Nat.le_of_ble_eq_true rfl) rfl (k_X7_operand (d + 2) (T := T) (σ := (sA 67 a (z500) σ)) (a := a) (k := v6) (c := 3) ha (by omega) (by decide) (hw.put (by decide) (by decide) (fo_67 (by omega))) (by rw [show (sA 67 a (z500) σ).2.1 69 a = _ from rc_o (by decide) (hx7)]; omega) (by omega)) (fun r730 T732 σ731 gt733 hp => ?_)
            obtain ⟨v735, rfl, rfl, rfl, f734⟩ := hp
            clear gt733
            show Tn _ _ 185 T (sA 67 a (z500) σ) [(3, .int (iI z502)), (2, .int (iI v35)), (1, .int (iI v6)), (0, .ref a)] [.int (iI v735)] _
            refine tn_if_ne (tgt := 201) dX7_step_185 (by decide) ⟨by omega, by omega⟩ (fun h736 => ?_) (fun h736 => ?_)
            · refine tn_iload_n dX7_step_201 rfl 0 rfl ?_
              refine tn_istore_n (L' := [(3, .int (iI z502)), (2, .int (iI v35)), (1, .int (iI v6)), (0, .ref a)]) dX7_step_202 rfl (by decide) rfl ?_
              refine tn_goto (tgt := 375) dX7_step_203 (by decide) ?_
              refine tn_aload_n dX7_step_375 rfl 3 rfl ?_
              obtain ⟨x737, hx738, hk739, hl740⟩ : ∃ x : Nat, σ.2.1 60 a = (x : Int) ∧ AR T x 1 9 9 := wf_60 hw ha
              have hk739i : IA T x737 := by unfold IA; omega
              refine tn_getR (ci := 7) (i := 5) (n := 60) (x := x737) dX7_step_376 rfl lay_7 (by decide) fl7_15 ha rfl rfl (rc_o (by decide) (hx738)) ?_
              refine tn_aload_n dX7_step_379 rfl 3 rfl ?_
              refine tn_getI (ci := 7) (i := 2) (n := 57) (t := σ.2.1 57 a) dX7_step_380 rfl lay_7 (by decide) fl7_65 ha rfl rfl (rc_o (by decide) (rfl)) ?_
              have g741 : ((0 : Int) ≤ σ.2.1 57 a ∧ σ.2.1 57 a ≤ 11184800) ∧ ((T a).1 = 57 → σ.2.1 57 a ≤ 8) := wf_57 hw ha
              have g741x := g741.2
              replace g741 := g741.1
              clear g741x
              refine tn_iload_n dX7_step_383 rfl 0 rfl ?_
              refine tn_callSN (M := m_X7_step) (pc := 384) (ix := 61) (M' := m_X11_put) (As := [.ref x737, .int (iI (σ.2.1 57 a)), .int (iI z502)]) (rest := []) dX7_step_384 ok_X11_put stt_X11_put nl7_61 np_X11_put rfl (Nat.le_of_ble_eq_true rfl) (Nat.le_of_ble_eq_true rfl) rfl (k_X11_put (d + 3) (T := T) (σ := (sA 67 a (z500) σ)) (x := x737) (i := σ.2.1 57 a) (y := z502) hk739i (by omega) (by omega) (by omega) (hw.put (by decide) (by decide) (fo_67 (by omega))) (nh_k hk739 (by unfold HT; omega)) (vok_1 (by have q9 := hk739; omega) (by omega))) (fun r742 T744 σ743 gt745 hp => ?_)
              obtain ⟨rfl, rfl, w747, F748⟩ := hp
              clear gt745
              show Tn _ _ 387 T σ743 [(3, .int (iI z502)), (2, .int (iI v35)), (1, .int (iI v6)), (0, .ref a)] [] _
              refine tn_iload_n dX7_step_387 rfl 1 rfl ?_
              refine tn_bipush dX7_step_388 (by decide) ?_
              refine tn_icmp_ne (tgt := 397) dX7_step_390 (by decide) ⟨by omega, by omega⟩ ⟨by decide, by decide⟩ (fun h749 => ?_) (fun h749 => absurd h749 (by omega))
              refine tn_iconst dX7_step_397 ?_
              have q750 : σ743.2.1 57 a = σ.2.1 57 a := rc_F F748 (Or.inl (by decide)) (by decide) (rc_o (by decide) (rfl))
              exact tn_zret (v := 0) rfl (by decide) dX7_step_398 ⟨_, rfl, rfl, w747, ((FrC.rfl.put (by decide) (by decide)).trans (FrC.sub F748 (by decide))), by omega, by omega, ((FA.rfl.put).trans (FA.of F748 (by decide)))⟩
            · refine tn_aload_n dX7_step_188 rfl 3 rfl ?_
              refine tn_getR (ci := 7) (i := 14) (n := 69) (x := x8) dX7_step_189 rfl lay_7 (by decide) fl7_72 ha rfl rfl (rc_o (by decide) (hx7)) ?_
              refine tn_iload_n dX7_step_192 rfl 2 rfl ?_
              refine tn_bipush dX7_step_193 (by decide) ?_
              refine tn_callV (M := m_X7_step) (pc := 195) (ix := 117) (ci := 1) (M' := m_X1_get) (As := [.int (iI v6), .int (iI 12)]) (rest := []) dX7_step_195 ok_X1_get im_X1_get se_X1_get ml7_117 np_X1_get rfl rfl hk9o rfl (Nat.le_of_ble_eq_true rfl) (Nat.le_of_ble_eq_true rfl) rfl (k_X1_get (d + 3) (T := T) (σ := (sA 67 a (z500) σ)) (a := x8) (k := v6) (c := 12) hk9o (by omega) (by decide) (hw.put (by decide) (by decide) (fo_67 (by omega))) (by omega)) (fun r751 T753 σ752 gt754 hp => ?_)
              obtain ⟨v756, rfl, rfl, rfl, f755⟩ := hp
              clear gt754
              show Tn _ _ 198 T (sA 67 a (z500) σ) [(3, .int (iI z502)), (2, .int (iI v35)), (1, .int (iI v6)), (0, .ref a)] [.int (iI v756)] _
              refine tn_goto (tgt := 202) dX7_step_198 (by decide) ?_
              refine tn_istore_n (L' := [(3, .int (iI v756)), (2, .int (iI v35)), (1, .int (iI v6)), (0, .ref a)]) dX7_step_202 rfl (by decide) rfl ?_
              refine tn_goto (tgt := 375) dX7_step_203 (by decide) ?_
              refine tn_aload_n dX7_step_375 rfl 3 rfl ?_
              obtain ⟨x757, hx758, hk759, hl760⟩ : ∃ x : Nat, σ.2.1 60 a = (x : Int) ∧ AR T x 1 9 9 := wf_60 hw ha
              have hk759i : IA T x757 := by unfold IA; omega
              refine tn_getR (ci := 7) (i := 5) (n := 60) (x := x757) dX7_step_376 rfl lay_7 (by decide) fl7_15 ha rfl rfl (rc_o (by decide) (hx758)) ?_
              refine tn_aload_n dX7_step_379 rfl 3 rfl ?_
              refine tn_getI (ci := 7) (i := 2) (n := 57) (t := σ.2.1 57 a) dX7_step_380 rfl lay_7 (by decide) fl7_65 ha rfl rfl (rc_o (by decide) (rfl)) ?_
              have g761 : ((0 : Int) ≤ σ.2.1 57 a ∧ σ.2.1 57 a ≤ 11184800) ∧ ((T a).1 = 57 → σ.2.1 57 a ≤ 8) := wf_57 hw ha
              have g761x := g761.2
              replace g761 := g761.1
              clear g761x
              refine tn_iload_n dX7_step_383 rfl 0 rfl ?_
              refine tn_callSN (M := m_X7_step) (pc := 384) (ix := 61) (M' := m_X11_put) (As := [.ref x757, .int (iI (σ.2.1 57 a)), .int (iI v756)]) (rest := []) dX7_step_384 ok_X11_put stt_X11_put nl7_61 np_X11_put rfl (Nat.le_of_ble_eq_true rfl) (Nat.le_of_ble_eq_true rfl) rfl (k_X11_put (d + 3) (T := T) (σ := (sA 67 a (z500) σ)) (x := x757) (i := σ.2.1 57 a) (y := v756) hk759i (by omega) (by omega) (by omega) (hw.put (by decide) (by decide) (fo_67 (by omega))) (nh_k hk759 (by unfold HT; omega)) (vok_1 (by have q9 := hk759; omega) (by omega))) (fun r762 T764 σ763 gt765 hp => ?_)
              obtain ⟨rfl, rfl, w767, F768⟩ := hp
              clear gt765
              show Tn _ _ 387 T σ763 [(3, .int (iI v756)), (2, .int (iI v35)), (1, .int (iI v6)), (0, .ref a)] [] _
              refine tn_iload_n dX7_step_387 rfl 1 rfl ?_
              refine tn_bipush dX7_step_388 (by decide) ?_
              refine tn_icmp_ne (tgt := 397) dX7_step_390 (by decide) ⟨by omega, by omega⟩ ⟨by decide, by decide⟩ (fun h769 => ?_) (fun h769 => absurd h769 (by omega))
              refine tn_iconst dX7_step_397 ?_
              have q770 : σ763.2.1 57 a = σ.2.1 57 a := rc_F F768 (Or.inl (by decide)) (by decide) (rc_o (by decide) (rfl))
              exact tn_zret (v := 0) rfl (by decide) dX7_step_398 ⟨_, rfl, rfl, w767, ((FrC.rfl.put (by decide) (by decide)).trans (FrC.sub F768 (by decide))), by omega, by omega, ((FA.rfl.put).trans (FA.of F768 (by decide)))⟩
          · refine tn_tableIn (tgt := 206) (off := 138) dX7_step_68 (x := v35) ⟨by omega, by omega⟩ (by omega) (by omega) (by rw [h527]; rfl) (by decide) ?_
            refine tn_aload_n dX7_step_206 rfl 3 rfl ?_
            refine tn_iload_n dX7_step_207 rfl 2 rfl ?_
            have q775 : (sA 67 a (z500) σ).2.1 57 a = σ.2.1 57 a := rc_o (by decide) (rfl)
            refine tn_callV (M := m_X7_step) (pc := 208) (ix := 120) (ci := 7) (M' := m_X7_callFrom) (As := [.int (iI v6)]) (rest := []) dX7_step_208 ok_X7_callFrom im_X7_callFrom se_X7_callFrom ml7_120 np_X7_callFrom rfl rfl ha rfl (Nat.le_of_ble_eq_true rfl) (Nat.le_of_ble_eq_true rfl) rfl (k_X7_callFrom (d) (T := T) (σ := (sA 67 a (z500) σ)) (a := a) (k := v6) ha hta (by omega) (hw.put (by decide) (by decide) (fo_67 (by omega))) (by rw [show (sA 67 a (z500) σ).2.1 69 a = _ from rc_o (by decide) (hx7)]; omega) (by rw [show (sA 67 a (z500) σ).2.1 57 a = σ.2.1 57 a from rc_o (by decide) (rfl)]; omega)) (fun r771 T773 σ772 gt774 hp => ?_)
            obtain ⟨rfl, rfl, w779, F780, f776, f777⟩ := hp
            clear gt774
            show Tn _ _ 211 T σ772 [(3, .int (iI z502)), (2, .int (iI v35)), (1, .int (iI v6)), (0, .ref a)] [] _
            refine tn_iconst dX7_step_211 ?_
            have q781 : σ772.2.1 57 a = σ772.2.1 57 a := rfl
            exact tn_zret (v := 0) rfl (by decide) dX7_step_212 ⟨_, rfl, rfl, w779, ((FrC.rfl.put (by decide) (by decide)).trans (FrC.sub F780 (by decide))), by omega, by omega, ((FA.rfl.put).trans f777)⟩
          · refine tn_tableIn (tgt := 225) (off := 157) dX7_step_68 (x := v35) ⟨by omega, by omega⟩ (by omega) (by omega) (by rw [h527]; rfl) (by decide) ?_
            refine tn_aload_n dX7_step_225 rfl 3 rfl ?_
            obtain ⟨x782, hx783, hk784, hl785⟩ : ∃ x : Nat, σ.2.1 62 a = (x : Int) ∧ AR T x 1 108 108 := wf_62 hw ha
            have hk784i : IA T x782 := by unfold IA; omega
            refine tn_getR (ci := 7) (i := 7) (n := 62) (x := x782) dX7_step_226 rfl lay_7 (by decide) fl7_21 ha rfl rfl (rc_o (by decide) (hx783)) ?_
            refine tn_aload_n dX7_step_229 rfl 3 rfl ?_
            refine tn_getI (ci := 7) (i := 2) (n := 57) (t := σ.2.1 57 a) dX7_step_230 rfl lay_7 (by decide) fl7_65 ha rfl rfl (rc_o (by decide) (rfl)) ?_
            have g786 : ((0 : Int) ≤ σ.2.1 57 a ∧ σ.2.1 57 a ≤ 11184800) ∧ ((T a).1 = 57 → σ.2.1 57 a ≤ 8) := wf_57 hw ha
            have g786x := g786.2
            replace g786 := g786.1
            clear g786x
            refine tn_bipush dX7_step_233 (by decide) ?_
            refine tn_imul dX7_step_235 ?_
            refine tn_aload_n dX7_step_236 rfl 3 rfl ?_
            refine tn_getR (ci := 7) (i := 14) (n := 69) (x := x8) dX7_step_237 rfl lay_7 (by decide) fl7_72 ha rfl rfl (rc_o (by decide) (hx7)) ?_
            refine tn_iload_n dX7_step_240 rfl 2 rfl ?_
            refine tn_iconst dX7_step_241 ?_
            refine tn_callV (M := m_X7_step) (pc := 242) (ix := 117) (ci := 1) (M' := m_X1_get) (As := [.int (iI v6), .int (iI 2)]) (rest := [.int (iI ((σ.2.1 57 a) * 12)), .ref x782]) dX7_step_242 ok_X1_get im_X1_get se_X1_get ml7_117 np_X1_get rfl rfl hk9o rfl (Nat.le_of_ble_eq_true rfl) (Nat.le_of_ble_eq_true rfl) rfl (k_X1_get (d + 3) (T := T) (σ := (sA 67 a (z500) σ)) (a := x8) (k := v6) (c := 2) hk9o (by omega) (by decide) (hw.put (by decide) (by decide) (fo_67 (by omega))) (by omega)) (fun r787 T789 σ788 gt790 hp => ?_)
            obtain ⟨v792, rfl, rfl, rfl, f791⟩ := hp
            clear gt790
            show Tn _ _ 245 T (sA 67 a (z500) σ) [(3, .int (iI z502)), (2, .int (iI v35)), (1, .int (iI v6)), (0, .ref a)] [.int (iI v792), .int (iI ((σ.2.1 57 a) * 12)), .ref x782] _
            refine tn_iadd dX7_step_245 ?_
            refine tn_any (fun z793 g794 => ?_)
            have g794r : -2147483648 ≤ z793 ∧ z793 ≤ 2147483647 := g794
            refine tn_aload_n dX7_step_246 rfl 3 rfl ?_
            refine tn_getR (ci := 7) (i := 14) (n := 69) (x := x8) dX7_step_247 rfl lay_7 (by decide) fl7_72 ha rfl rfl (rc_o (by decide) (hx7)) ?_
            refine tn_iload_n dX7_step_250 rfl 2 rfl ?_
            refine tn_iconst dX7_step_251 ?_
            refine tn_callV (M := m_X7_step) (pc := 252) (ix := 117) (ci := 1) (M' := m_X1_get) (As := [.int (iI v6), .int (iI 1)]) (rest := [.int (iI z793), .ref x782]) dX7_step_252 ok_X1_get im_X1_get se_X1_get ml7_117 np_X1_get rfl rfl hk9o rfl (Nat.le_of_ble_eq_true rfl) (Nat.le_of_ble_eq_true rfl) rfl (k_X1_get (d + 3) (T := T) (σ := (sA 67 a (z500) σ)) (a := x8) (k := v6) (c := 1) hk9o (by omega) (by decide) (hw.put (by decide) (by decide) (fo_67 (by omega))) (by omega)) (fun r795 T797 σ796 gt798 hp => ?_)
            obtain ⟨v800, rfl, rfl, rfl, f799⟩ := hp
            clear gt798
            show Tn _ _ 255 T (sA 67 a (z500) σ) [(3, .int (iI z502)), (2, .int (iI v35)), (1, .int (iI v6)), (0, .ref a)] [.int (iI v800), .int (iI z793), .ref x782] _
            refine tn_callSN (M := m_X7_step) (pc := 255) (ix := 61) (M' := m_X11_put) (As := [.ref x782, .int (iI z793), .int (iI v800)]) (rest := []) dX7_step_255 ok_X11_put stt_X11_put nl7_61 np_X11_put rfl (Nat.le_of_ble_eq_true rfl) (Nat.le_of_ble_eq_true rfl) rfl (k_X11_put (d + 3) (T := T) (σ := (sA 67 a (z500) σ)) (x := x782) (i := z793) (y := v800) hk784i (by omega) (by omega) (by omega) (hw.put (by decide) (by decide) (fo_67 (by omega))) (nh_k hk784 (by unfold HT; omega)) (vok_1 (by have q9 := hk784; omega) (by omega))) (fun r801 T803 σ802 gt804 hp => ?_)
            obtain ⟨rfl, rfl, w806, F807⟩ := hp
            clear gt804
            show Tn _ _ 258 T σ802 [(3, .int (iI z502)), (2, .int (iI v35)), (1, .int (iI v6)), (0, .ref a)] [] _
            refine tn_goto (tgt := 375) dX7_step_258 (by decide) ?_
            refine tn_aload_n dX7_step_375 rfl 3 rfl ?_
            obtain ⟨x808, hx809, hk810, hl811⟩ : ∃ x : Nat, σ.2.1 60 a = (x : Int) ∧ AR T x 1 9 9 := wf_60 hw ha
            have hk810i : IA T x808 := by unfold IA; omega
            refine tn_getR (ci := 7) (i := 5) (n := 60) (x := x808) dX7_step_376 rfl lay_7 (by decide) fl7_15 ha rfl rfl (rc_F F807 (Or.inl (by decide)) (by decide) (rc_o (by decide) (hx809))) ?_
            refine tn_aload_n dX7_step_379 rfl 3 rfl ?_
            refine tn_getI (ci := 7) (i := 2) (n := 57) (t := σ.2.1 57 a) dX7_step_380 rfl lay_7 (by decide) fl7_65 ha rfl rfl (rc_F F807 (Or.inl (by decide)) (by decide) (rc_o (by decide) (rfl))) ?_
            refine tn_iload_n dX7_step_383 rfl 0 rfl ?_
            refine tn_callSN (M := m_X7_step) (pc := 384) (ix := 61) (M' := m_X11_put) (As := [.ref x808, .int (iI (σ.2.1 57 a)), .int (iI z502)]) (rest := []) dX7_step_384 ok_X11_put stt_X11_put nl7_61 np_X11_put rfl (Nat.le_of_ble_eq_true rfl) (Nat.le_of_ble_eq_true rfl) rfl (k_X11_put (d + 3) (T := T) (σ := σ802) (x := x808) (i := σ.2.1 57 a) (y := z502) hk810i (by omega) (by omega) (by omega) w806 (nh_k hk810 (by unfold HT; omega)) (vok_1 (by have q9 := hk810; omega) (by omega))) (fun r812 T814 σ813 gt815 hp => ?_)
            obtain ⟨rfl, rfl, w817, F818⟩ := hp
            clear gt815
            show Tn _ _ 387 T σ813 [(3, .int (iI z502)), (2, .int (iI v35)), (1, .int (iI v6)), (0, .ref a)] [] _
            refine tn_iload_n dX7_step_387 rfl 1 rfl ?_
            refine tn_bipush dX7_step_388 (by decide) ?_
            refine tn_icmp_ne (tgt := 397) dX7_step_390 (by decide) ⟨by omega, by omega⟩ ⟨by decide, by decide⟩ (fun h819 => absurd h819 (by omega)) (fun h819 => ?_)
            refine tn_iconst dX7_step_393 ?_
            refine tn_goto (tgt := 398) dX7_step_394 (by decide) ?_
            have q820 : σ813.2.1 57 a = σ.2.1 57 a := rc_F F818 (Or.inl (by decide)) (by decide) (rc_F F807 (Or.inl (by decide)) (by decide) (rc_o (by decide) (rfl)))
            exact tn_zret (v := 1) rfl (by decide) dX7_step_398 ⟨_, rfl, rfl, w817, (((FrC.rfl.put (by decide) (by decide)).trans (FrC.sub F807 (by decide))).trans (FrC.sub F818 (by decide))), by omega, by omega, (((FA.rfl.put).trans (FA.of F807 (by decide))).trans (FA.of F818 (by decide)))⟩
          · refine tn_tableIn (tgt := 369) (off := 301) dX7_step_68 (x := v35) ⟨by omega, by omega⟩ (by omega) (by omega) (by rw [h527]; rfl) (by decide) ?_
            refine tn_aload_n dX7_step_369 rfl 3 rfl ?_
            refine tn_iload_n dX7_step_370 rfl 2 rfl ?_
            refine tn_iload_n dX7_step_371 rfl 1 rfl ?_
            refine tn_callV (M := m_X7_step) (pc := 372) (ix := 129) (ci := 7) (M' := m_X7_reckonAt) (As := [.int (iI v6), .int (iI v35)]) (rest := []) dX7_step_372 ok_X7_reckonAt im_X7_reckonAt se_X7_reckonAt ml7_129 np_X7_reckonAt rfl rfl ha rfl (Nat.le_of_ble_eq_true rfl) (Nat.le_of_ble_eq_true rfl) rfl (k_X7_reckonAt (d + 1) (T := T) (σ := (sA 67 a (z500) σ)) (a := a) (k := v6) (e := v35) ha (by omega) (by omega) (hw.put (by decide) (by decide) (fo_67 (by omega))) (by rw [show (sA 67 a (z500) σ).2.1 69 a = _ from rc_o (by decide) (hx7)]; omega)) (fun r821 T823 σ822 gt824 hp => ?_)
            obtain ⟨rfl, rfl, w826, F827⟩ := hp
            clear gt824
            show Tn _ _ 375 T σ822 [(3, .int (iI z502)), (2, .int (iI v35)), (1, .int (iI v6)), (0, .ref a)] [] _
            refine tn_aload_n dX7_step_375 rfl 3 rfl ?_
            obtain ⟨x828, hx829, hk830, hl831⟩ : ∃ x : Nat, σ.2.1 60 a = (x : Int) ∧ AR T x 1 9 9 := wf_60 hw ha
            have hk830i : IA T x828 := by unfold IA; omega
            refine tn_getR (ci := 7) (i := 5) (n := 60) (x := x828) dX7_step_376 rfl lay_7 (by decide) fl7_15 ha rfl rfl (rc_F F827 (Or.inl (by decide)) (by decide) (rc_o (by decide) (hx829))) ?_
            refine tn_aload_n dX7_step_379 rfl 3 rfl ?_
            refine tn_getI (ci := 7) (i := 2) (n := 57) (t := σ.2.1 57 a) dX7_step_380 rfl lay_7 (by decide) fl7_65 ha rfl rfl (rc_F F827 (Or.inl (by decide)) (by decide) (rc_o (by decide) (rfl))) ?_
            have g832 : ((0 : Int) ≤ σ.2.1 57 a ∧ σ.2.1 57 a ≤ 11184800) ∧ ((T a).1 = 57 → σ.2.1 57 a ≤ 8) := wf_57 hw ha
            have g832x := g832.2
            replace g832 := g832.1
            clear g832x
            refine tn_iload_n dX7_step_383 rfl 0 rfl ?_
            refine tn_callSN (M := m_X7_step) (pc := 384) (ix := 61) (M' := m_X11_put) (As := [.ref x828, .int (iI (σ.2.1 57 a)), .int (iI z502)]) (rest := []) dX7_step_384 ok_X11_put stt_X11_put nl7_61 np_X11_put rfl (Nat.le_of_ble_eq_true rfl) (Nat.le_of_ble_eq_true rfl) rfl (k_X11_put (d + 3) (T := T) (σ := σ822) (x := x828) (i := σ.2.1 57 a) (y := z502) hk830i (by omega) (by omega) (by omega) w826 (nh_k hk830 (by unfold HT; omega)) (vok_1 (by have q9 := hk830; omega) (by omega))) (fun r833 T835 σ834 gt836 hp => ?_)
            obtain ⟨rfl, rfl, w838, F839⟩ := hp
            clear gt836
            show Tn _ _ 387 T σ834 [(3, .int (iI z502)), (2, .int (iI v35)), (1, .int (iI v6)), (0, .ref a)] [] _
            refine tn_iload_n dX7_step_387 rfl 1 rfl ?_
            refine tn_bipush dX7_step_388 (by decide) ?_
            refine tn_icmp_ne (tgt := 397) dX7_step_390 (by decide) ⟨by omega, by omega⟩ ⟨by decide, by decide⟩ (fun h840 => ?_) (fun h840 => absurd h840 (by omega))
            refine tn_iconst dX7_step_397 ?_
            have q841 : σ834.2.1 57 a = σ.2.1 57 a := rc_F F839 (Or.inl (by decide)) (by decide) (rc_F F827 (Or.inl (by decide)) (by decide) (rc_o (by decide) (rfl)))
            exact tn_zret (v := 0) rfl (by decide) dX7_step_398 ⟨_, rfl, rfl, w838, (((FrC.rfl.put (by decide) (by decide)).trans (FrC.sub F827 (by decide))).trans (FrC.sub F839 (by decide))), by omega, by omega, (((FA.rfl.put).trans (FA.of F827 (by decide))).trans (FA.of F839 (by decide)))⟩
          · refine tn_tableIn (tgt := 369) (off := 301) dX7_step_68 (x := v35) ⟨by omega, by omega⟩ (by omega) (by omega) (by rw [h527]; rfl) (by decide) ?_
            refine tn_aload_n dX7_step_369 rfl 3 rfl ?_
            refine tn_iload_n dX7_step_370 rfl 2 rfl ?_
            refine tn_iload_n dX7_step_371 rfl 1 rfl ?_
            refine tn_callV (M := m_X7_step) (pc := 372) (ix := 129) (ci := 7) (M' := m_X7_reckonAt) (As := [.int (iI v6), .int (iI v35)]) (rest := []) dX7_step_372 ok_X7_reckonAt im_X7_reckonAt se_X7_reckonAt ml7_129 np_X7_reckonAt rfl rfl ha rfl (Nat.le_of_ble_eq_true rfl) (Nat.le_of_ble_eq_true rfl) rfl (k_X7_reckonAt (d + 1) (T := T) (σ := (sA 67 a (z500) σ)) (a := a) (k := v6) (e := v35) ha (by omega) (by omega) (hw.put (by decide) (by decide) (fo_67 (by omega))) (by rw [show (sA 67 a (z500) σ).2.1 69 a = _ from rc_o (by decide) (hx7)]; omega)) (fun r842 T844 σ843 gt845 hp => ?_)
            obtain ⟨rfl, rfl, w847, F848⟩ := hp
            clear gt845
            show Tn _ _ 375 T σ843 [(3, .int (iI z502)), (2, .int (iI v35)), (1, .int (iI v6)), (0, .ref a)] [] _
            refine tn_aload_n dX7_step_375 rfl 3 rfl ?_
            obtain ⟨x849, hx850, hk851, hl852⟩ : ∃ x : Nat, σ.2.1 60 a = (x : Int) ∧ AR T x 1 9 9 := wf_60 hw ha
            have hk851i : IA T x849 := by unfold IA; omega
            refine tn_getR (ci := 7) (i := 5) (n := 60) (x := x849) dX7_step_376 rfl lay_7 (by decide) fl7_15 ha rfl rfl (rc_F F848 (Or.inl (by decide)) (by decide) (rc_o (by decide) (hx850))) ?_
            refine tn_aload_n dX7_step_379 rfl 3 rfl ?_
            refine tn_getI (ci := 7) (i := 2) (n := 57) (t := σ.2.1 57 a) dX7_step_380 rfl lay_7 (by decide) fl7_65 ha rfl rfl (rc_F F848 (Or.inl (by decide)) (by decide) (rc_o (by decide) (rfl))) ?_
            have g853 : ((0 : Int) ≤ σ.2.1 57 a ∧ σ.2.1 57 a ≤ 11184800) ∧ ((T a).1 = 57 → σ.2.1 57 a ≤ 8) := wf_57 hw ha
            have g853x := g853.2
            replace g853 := g853.1
            clear g853x
            refine tn_iload_n dX7_step_383 rfl 0 rfl ?_
            refine tn_callSN (M := m_X7_step) (pc := 384) (ix := 61) (M' := m_X11_put) (As := [.ref x849, .int (iI (σ.2.1 57 a)), .int (iI z502)]) (rest := []) dX7_step_384 ok_X11_put stt_X11_put nl7_61 np_X11_put rfl (Nat.le_of_ble_eq_true rfl) (Nat.le_of_ble_eq_true rfl) rfl (k_X11_put (d + 3) (T := T) (σ := σ843) (x := x849) (i := σ.2.1 57 a) (y := z502) hk851i (by omega) (by omega) (by omega) w847 (nh_k hk851 (by unfold HT; omega)) (vok_1 (by have q9 := hk851; omega) (by omega))) (fun r854 T856 σ855 gt857 hp => ?_)
            obtain ⟨rfl, rfl, w859, F860⟩ := hp
            clear gt857
            show Tn _ _ 387 T σ855 [(3, .int (iI z502)), (2, .int (iI v35)), (1, .int (iI v6)), (0, .ref a)] [] _
            refine tn_iload_n dX7_step_387 rfl 1 rfl ?_
            refine tn_bipush dX7_step_388 (by decide) ?_
            refine tn_icmp_ne (tgt := 397) dX7_step_390 (by decide) ⟨by omega, by omega⟩ ⟨by decide, by decide⟩ (fun h861 => ?_) (fun h861 => absurd h861 (by omega))
            refine tn_iconst dX7_step_397 ?_
            have q862 : σ855.2.1 57 a = σ.2.1 57 a := rc_F F860 (Or.inl (by decide)) (by decide) (rc_F F848 (Or.inl (by decide)) (by decide) (rc_o (by decide) (rfl)))
            exact tn_zret (v := 0) rfl (by decide) dX7_step_398 ⟨_, rfl, rfl, w859, (((FrC.rfl.put (by decide) (by decide)).trans (FrC.sub F848 (by decide))).trans (FrC.sub F860 (by decide))), by omega, by omega, (((FA.rfl.put).trans (FA.of F848 (by decide))).trans (FA.of F860 (by decide)))⟩
          · refine tn_tableIn (tgt := 261) (off := 193) dX7_step_68 (x := v35) ⟨by omega, by omega⟩ (by omega) (by omega) (by rw [h527]; rfl) (by decide) ?_
            refine tn_aload_n dX7_step_261 rfl 3 rfl ?_
            refine tn_dup dX7_step_262 rfl ?_
            refine tn_getI (ci := 7) (i := 3) (n := 58) (t := σ.2.1 58 a) dX7_step_263 rfl lay_7 (by decide) fl7_38 ha rfl rfl (rc_o (by decide) (rfl)) ?_
            have g863 : ((-2147483648 : Int) ≤ σ.2.1 58 a ∧ σ.2.1 58 a ≤ 2147483647) := wf_58 hw ha
            refine tn_iconst dX7_step_266 ?_
            refine tn_iadd dX7_step_267 ?_
            refine tn_any (fun z864 g865 => ?_)
            have g865r : -2147483648 ≤ z864 ∧ z864 ≤ 2147483647 := g865
            refine tn_putV (ci := 7) (i := 3) (n := 58) (r := false) (v := z864) tyX7 tyX7_ok nmX7 dX7_step_268 rfl lay_7 (by decide) fl7_38 rfl (tyX7_ok 3 (by decide)) rfl rfl rfl ha rfl rfl ?_
            refine tn_aload_n dX7_step_271 rfl 3 rfl ?_
            obtain ⟨x866, hx867, hl869, hk868a, hk868b⟩ := wf_61 hw ha
            have hk868 : (T x866).1 = 1 := hk868b (by omega)
            clear hk868a hk868b
            have hk868i : IA T x866 := by unfold IA; omega
            refine tn_getR (ci := 7) (i := 6) (n := 61) (x := x866) dX7_step_272 rfl lay_7 (by decide) fl7_18 ha rfl rfl (rc_o (by decide) (rc_o (by decide) (hx867))) ?_
            refine tn_aload_n dX7_step_275 rfl 3 rfl ?_
            refine tn_getI (ci := 7) (i := 2) (n := 57) (t := σ.2.1 57 a) dX7_step_276 rfl lay_7 (by decide) fl7_65 ha rfl rfl (rc_o (by decide) (rc_o (by decide) (rfl))) ?_
            have g870 : ((0 : Int) ≤ σ.2.1 57 a ∧ σ.2.1 57 a ≤ 11184800) ∧ ((T a).1 = 57 → σ.2.1 57 a ≤ 8) := wf_57 hw ha
            have g870x := g870.2
            replace g870 := g870.1
            clear g870x
            refine tn_aload_n dX7_step_279 rfl 3 rfl ?_
            refine tn_getR (ci := 7) (i := 14) (n := 69) (x := x8) dX7_step_280 rfl lay_7 (by decide) fl7_72 ha rfl rfl (rc_o (by decide) (rc_o (by decide) (hx7))) ?_
            refine tn_iload_n dX7_step_283 rfl 2 rfl ?_
            refine tn_iconst dX7_step_284 ?_
            refine tn_callV (M := m_X7_step) (pc := 285) (ix := 117) (ci := 1) (M' := m_X1_get) (As := [.int (iI v6), .int (iI 1)]) (rest := [.int (iI (σ.2.1 57 a)), .ref x866]) dX7_step_285 ok_X1_get im_X1_get se_X1_get ml7_117 np_X1_get rfl rfl hk9o rfl (Nat.le_of_ble_eq_true rfl) (Nat.le_of_ble_eq_true rfl) rfl (k_X1_get (d + 3) (T := T) (σ := (sA 58 a (z864) (sA 67 a (z500) σ))) (a := x8) (k := v6) (c := 1) hk9o (by omega) (by decide) ((hw.put (by decide) (by decide) (fo_67 (by omega))).put (by decide) (by decide) (fo_58 (by omega))) (by omega)) (fun r871 T873 σ872 gt874 hp => ?_)
            obtain ⟨v876, rfl, rfl, rfl, f875⟩ := hp
            clear gt874
            show Tn _ _ 288 T (sA 58 a (z864) (sA 67 a (z500) σ)) [(3, .int (iI z502)), (2, .int (iI v35)), (1, .int (iI v6)), (0, .ref a)] [.int (iI v876), .int (iI (σ.2.1 57 a)), .ref x866] _
            refine tn_callSN (M := m_X7_step) (pc := 288) (ix := 61) (M' := m_X11_put) (As := [.ref x866, .int (iI (σ.2.1 57 a)), .int (iI v876)]) (rest := []) dX7_step_288 ok_X11_put stt_X11_put nl7_61 np_X11_put rfl (Nat.le_of_ble_eq_true rfl) (Nat.le_of_ble_eq_true rfl) rfl (k_X11_put (d + 3) (T := T) (σ := (sA 58 a (z864) (sA 67 a (z500) σ))) (x := x866) (i := σ.2.1 57 a) (y := v876) hk868i (by omega) (by omega) (by omega) ((hw.put (by decide) (by decide) (fo_67 (by omega))).put (by decide) (by decide) (fo_58 (by omega))) (nh_k hk868 (by unfold HT; omega)) (vok_1 (by have q9 := hk868; omega) (by omega))) (fun r877 T879 σ878 gt880 hp => ?_)
            obtain ⟨rfl, rfl, w882, F883⟩ := hp
            clear gt880
            show Tn _ _ 291 T σ878 [(3, .int (iI z502)), (2, .int (iI v35)), (1, .int (iI v6)), (0, .ref a)] [] _
            refine tn_aload_n dX7_step_291 rfl 3 rfl ?_
            obtain ⟨x884, hx885, hk886, hl887⟩ : ∃ x : Nat, σ.2.1 62 a = (x : Int) ∧ AR T x 1 108 108 := wf_62 hw ha
            have hk886i : IA T x884 := by unfold IA; omega
            refine tn_getR (ci := 7) (i := 7) (n := 62) (x := x884) dX7_step_292 rfl lay_7 (by decide) fl7_21 ha rfl rfl (rc_F F883 (Or.inl (by decide)) (by decide) (rc_o (by decide) (rc_o (by decide) (hx885)))) ?_
            refine tn_aload_n dX7_step_295 rfl 3 rfl ?_
            refine tn_getI (ci := 7) (i := 2) (n := 57) (t := σ.2.1 57 a) dX7_step_296 rfl lay_7 (by decide) fl7_65 ha rfl rfl (rc_F F883 (Or.inl (by decide)) (by decide) (rc_o (by decide) (rc_o (by decide) (rfl)))) ?_
            refine tn_bipush dX7_step_299 (by decide) ?_
            refine tn_imul dX7_step_301 ?_
            refine tn_aload_n dX7_step_302 rfl 3 rfl ?_
            refine tn_getR (ci := 7) (i := 14) (n := 69) (x := x8) dX7_step_303 rfl lay_7 (by decide) fl7_72 ha rfl rfl (rc_F F883 (Or.inl (by decide)) (by decide) (rc_o (by decide) (rc_o (by decide) (hx7)))) ?_
            refine tn_iload_n dX7_step_306 rfl 2 rfl ?_
            refine tn_iconst dX7_step_307 ?_
            refine tn_callV (M := m_X7_step) (pc := 308) (ix := 117) (ci := 1) (M' := m_X1_get) (As := [.int (iI v6), .int (iI 1)]) (rest := [.int (iI ((σ.2.1 57 a) * 12)), .ref x884]) dX7_step_308 ok_X1_get im_X1_get se_X1_get ml7_117 np_X1_get rfl rfl hk9o rfl (Nat.le_of_ble_eq_true rfl) (Nat.le_of_ble_eq_true rfl) rfl (k_X1_get (d + 3) (T := T) (σ := σ878) (a := x8) (k := v6) (c := 1) hk9o (by omega) (by decide) w882 (by omega)) (fun r888 T890 σ889 gt891 hp => ?_)
            obtain ⟨v893, rfl, rfl, rfl, f892⟩ := hp
            clear gt891
            show Tn _ _ 311 T σ878 [(3, .int (iI z502)), (2, .int (iI v35)), (1, .int (iI v6)), (0, .ref a)] [.int (iI v893), .int (iI ((σ.2.1 57 a) * 12)), .ref x884] _
            refine tn_iadd dX7_step_311 ?_
            refine tn_any (fun z894 g895 => ?_)
            have g895r : -2147483648 ≤ z894 ∧ z894 ≤ 2147483647 := g895
            refine tn_iconst dX7_step_312 ?_
            refine tn_callSN (M := m_X7_step) (pc := 313) (ix := 61) (M' := m_X11_put) (As := [.ref x884, .int (iI z894), .int (iI 0)]) (rest := []) dX7_step_313 ok_X11_put stt_X11_put nl7_61 np_X11_put rfl (Nat.le_of_ble_eq_true rfl) (Nat.le_of_ble_eq_true rfl) rfl (k_X11_put (d + 3) (T := T) (σ := σ878) (x := x884) (i := z894) (y := 0) hk886i (by omega) (by omega) (by decide) w882 (nh_k hk886 (by unfold HT; omega)) vok_0) (fun r896 T898 σ897 gt899 hp => ?_)
            obtain ⟨rfl, rfl, w901, F902⟩ := hp
            clear gt899
            show Tn _ _ 316 T σ897 [(3, .int (iI z502)), (2, .int (iI v35)), (1, .int (iI v6)), (0, .ref a)] [] _
            refine tn_goto (tgt := 375) dX7_step_316 (by decide) ?_
            refine tn_aload_n dX7_step_375 rfl 3 rfl ?_
            obtain ⟨x903, hx904, hk905, hl906⟩ : ∃ x : Nat, σ.2.1 60 a = (x : Int) ∧ AR T x 1 9 9 := wf_60 hw ha
            have hk905i : IA T x903 := by unfold IA; omega
            refine tn_getR (ci := 7) (i := 5) (n := 60) (x := x903) dX7_step_376 rfl lay_7 (by decide) fl7_15 ha rfl rfl (rc_F F902 (Or.inl (by decide)) (by decide) (rc_F F883 (Or.inl (by decide)) (by decide) (rc_o (by decide) (rc_o (by decide) (hx904))))) ?_
            refine tn_aload_n dX7_step_379 rfl 3 rfl ?_
            refine tn_getI (ci := 7) (i := 2) (n := 57) (t := σ.2.1 57 a) dX7_step_380 rfl lay_7 (by decide) fl7_65 ha rfl rfl (rc_F F902 (Or.inl (by decide)) (by decide) (rc_F F883 (Or.inl (by decide)) (by decide) (rc_o (by decide) (rc_o (by decide) (rfl))))) ?_
            refine tn_iload_n dX7_step_383 rfl 0 rfl ?_
            refine tn_callSN (M := m_X7_step) (pc := 384) (ix := 61) (M' := m_X11_put) (As := [.ref x903, .int (iI (σ.2.1 57 a)), .int (iI z502)]) (rest := []) dX7_step_384 ok_X11_put stt_X11_put nl7_61 np_X11_put rfl (Nat.le_of_ble_eq_true rfl) (Nat.le_of_ble_eq_true rfl) rfl (k_X11_put (d + 3) (T := T) (σ := σ897) (x := x903) (i := σ.2.1 57 a) (y := z502) hk905i (by omega) (by omega) (by omega) w901 (nh_k hk905 (by unfold HT; omega)) (vok_1 (by have q9 := hk905; omega) (by omega))) (fun r907 T909 σ908 gt910 hp => ?_)
            obtain ⟨rfl, rfl, w912, F913⟩ := hp
            clear gt910
            show Tn _ _ 387 T σ908 [(3, .int (iI z502)), (2, .int (iI v35)), (1, .int (iI v6)), (0, .ref a)] [] _
            refine tn_iload_n dX7_step_387 rfl 1 rfl ?_
            refine tn_bipush dX7_step_388 (by decide) ?_
            refine tn_icmp_ne (tgt := 397) dX7_step_390 (by decide) ⟨by omega, by omega⟩ ⟨by decide, by decide⟩ (fun h914 => ?_) (fun h914 => absurd h914 (by omega))
            refine tn_iconst dX7_step_397 ?_
            have q915 : σ908.2.1 57 a = σ.2.1 57 a := rc_F F913 (Or.inl (by decide)) (by decide) (rc_F F902 (Or.inl (by decide)) (by decide) (rc_F F883 (Or.inl (by decide)) (by decide) (rc_o (by decide) (rc_o (by decide) (rfl)))))
            exact tn_zret (v := 0) rfl (by decide) dX7_step_398 ⟨_, rfl, rfl, w912, (((((FrC.rfl.put (by decide) (by decide)).put (by decide) (by decide)).trans (FrC.sub F883 (by decide))).trans (FrC.sub F902 (by decide))).trans (FrC.sub F913 (by decide))), by omega, by omega, (((((FA.rfl.put).put).trans (FA.of F883 (by decide))).trans (FA.of F902 (by decide))).trans (FA.of F913 (by decide)))⟩
          · refine tn_tableIn (tgt := 319) (off := 251) dX7_step_68 (x := v35) ⟨by omega, by omega⟩ (by omega) (by omega) (by rw [h527]; rfl) (by decide) ?_
            refine tn_aload_n dX7_step_319 rfl 3 rfl ?_
            refine tn_dup dX7_step_320 rfl ?_
            refine tn_getI (ci := 7) (i := 3) (n := 58) (t := σ.2.1 58 a) dX7_step_321 rfl lay_7 (by decide) fl7_38 ha rfl rfl (rc_o (by decide) (rfl)) ?_
            have g916 : ((-2147483648 : Int) ≤ σ.2.1 58 a ∧ σ.2.1 58 a ≤ 2147483647) := wf_58 hw ha
            refine tn_iconst dX7_step_324 ?_
            refine tn_isub dX7_step_325 ?_
            refine tn_any (fun z917 g918 => ?_)
            have g918r : -2147483648 ≤ z917 ∧ z917 ≤ 2147483647 := g918
            refine tn_putV (ci := 7) (i := 3) (n := 58) (r := false) (v := z917) tyX7 tyX7_ok nmX7 dX7_step_326 rfl lay_7 (by decide) fl7_38 rfl (tyX7_ok 3 (by decide)) rfl rfl rfl ha rfl rfl ?_
            refine tn_aload_n dX7_step_329 rfl 3 rfl ?_
            obtain ⟨x919, hx920, hl922, hk921a, hk921b⟩ := wf_61 hw ha
            have hk921 : (T x919).1 = 1 := hk921b (by omega)
            clear hk921a hk921b
            have hk921i : IA T x919 := by unfold IA; omega
            refine tn_getR (ci := 7) (i := 6) (n := 61) (x := x919) dX7_step_330 rfl lay_7 (by decide) fl7_18 ha rfl rfl (rc_o (by decide) (rc_o (by decide) (hx920))) ?_
            refine tn_aload_n dX7_step_333 rfl 3 rfl ?_
            refine tn_getI (ci := 7) (i := 2) (n := 57) (t := σ.2.1 57 a) dX7_step_334 rfl lay_7 (by decide) fl7_65 ha rfl rfl (rc_o (by decide) (rc_o (by decide) (rfl))) ?_
            have g923 : ((0 : Int) ≤ σ.2.1 57 a ∧ σ.2.1 57 a ≤ 11184800) ∧ ((T a).1 = 57 → σ.2.1 57 a ≤ 8) := wf_57 hw ha
            have g923x := g923.2
            replace g923 := g923.1
            clear g923x
            refine tn_aload_n dX7_step_337 rfl 3 rfl ?_
            refine tn_getR (ci := 7) (i := 14) (n := 69) (x := x8) dX7_step_338 rfl lay_7 (by decide) fl7_72 ha rfl rfl (rc_o (by decide) (rc_o (by decide) (hx7))) ?_
            obtain ⟨x924, hx925, hk926, hl927⟩ : ∃ x : Nat, σ.2.1 12 x8 = (x : Int) ∧ AR T x 1 12 12 := wf_12 hw hk9o
            have hk926i : IA T x924 := by unfold IA; omega
            refine tn_getR (ci := 1) (i := 7) (n := 12) (x := x924) dX7_step_341 rfl lay_1 (by decide) fl7_126 hk9o rfl rfl (rc_o (by decide) (rc_o (by decide) (hx925))) ?_
            refine tn_aload_n dX7_step_344 rfl 3 rfl ?_
            refine tn_getR (ci := 7) (i := 14) (n := 69) (x := x8) dX7_step_345 rfl lay_7 (by decide) fl7_72 ha rfl rfl (rc_o (by decide) (rc_o (by decide) (hx7))) ?_
            refine tn_iload_n dX7_step_348 rfl 2 rfl ?_
            refine tn_iconst dX7_step_349 ?_
            refine tn_callV (M := m_X7_step) (pc := 350) (ix := 117) (ci := 1) (M' := m_X1_get) (As := [.int (iI v6), .int (iI 1)]) (rest := [.ref x924, .int (iI (σ.2.1 57 a)), .ref x919]) dX7_step_350 ok_X1_get im_X1_get se_X1_get ml7_117 np_X1_get rfl rfl hk9o rfl (Nat.le_of_ble_eq_true rfl) (Nat.le_of_ble_eq_true rfl) rfl (k_X1_get (d + 3) (T := T) (σ := (sA 58 a (z917) (sA 67 a (z500) σ))) (a := x8) (k := v6) (c := 1) hk9o (by omega) (by decide) ((hw.put (by decide) (by decide) (fo_67 (by omega))).put (by decide) (by decide) (fo_58 (by omega))) (by omega)) (fun r928 T930 σ929 gt931 hp => ?_)
            obtain ⟨v933, rfl, rfl, rfl, f932⟩ := hp
            clear gt931
            show Tn _ _ 353 T (sA 58 a (z917) (sA 67 a (z500) σ)) [(3, .int (iI z502)), (2, .int (iI v35)), (1, .int (iI v6)), (0, .ref a)] [.int (iI v933), .ref x924, .int (iI (σ.2.1 57 a)), .ref x919] _
            refine tn_callSN (M := m_X7_step) (pc := 353) (ix := 91) (M' := m_X11_at) (As := [.ref x924, .int (iI v933)]) (rest := [.int (iI (σ.2.1 57 a)), .ref x919]) dX7_step_353 ok_X11_at stt_X11_at nl7_91 np_X11_at rfl (Nat.le_of_ble_eq_true rfl) (Nat.le_of_ble_eq_true rfl) rfl (k_X11_at (d + 3) (T := T) (σ := (sA 58 a (z917) (sA 67 a (z500) σ))) (x := x924) (i := v933) hk926i (by omega) (by omega) ((hw.put (by decide) (by decide) (fo_67 (by omega))).put (by decide) (by decide) (fo_58 (by omega))) ) (fun r934 T936 σ935 gt937 hp => ?_)
            obtain ⟨v941, rfl, rfl, rfl, f938, f939, f940⟩ := hp
            clear gt937
            clear f939 f940
            show Tn _ _ 356 T (sA 58 a (z917) (sA 67 a (z500) σ)) [(3, .int (iI z502)), (2, .int (iI v35)), (1, .int (iI v6)), (0, .ref a)] [.int (iI v941), .int (iI (σ.2.1 57 a)), .ref x919] _
            refine tn_callSN (M := m_X7_step) (pc := 356) (ix := 61) (M' := m_X11_put) (As := [.ref x919, .int (iI (σ.2.1 57 a)), .int (iI v941)]) (rest := []) dX7_step_356 ok_X11_put stt_X11_put nl7_61 np_X11_put rfl (Nat.le_of_ble_eq_true rfl) (Nat.le_of_ble_eq_true rfl) rfl (k_X11_put (d + 3) (T := T) (σ := (sA 58 a (z917) (sA 67 a (z500) σ))) (x := x919) (i := σ.2.1 57 a) (y := v941) hk921i (by omega) (by omega) (by omega) ((hw.put (by decide) (by decide) (fo_67 (by omega))).put (by decide) (by decide) (fo_58 (by omega))) (nh_k hk921 (by unfold HT; omega)) (vok_1 (by have q9 := hk921; omega) (by omega))) (fun r942 T944 σ943 gt945 hp => ?_)
            obtain ⟨rfl, rfl, w947, F948⟩ := hp
            clear gt945
            show Tn _ _ 359 T σ943 [(3, .int (iI z502)), (2, .int (iI v35)), (1, .int (iI v6)), (0, .ref a)] [] _
            refine tn_goto (tgt := 375) dX7_step_359 (by decide) ?_
            refine tn_aload_n dX7_step_375 rfl 3 rfl ?_
            obtain ⟨x949, hx950, hk951, hl952⟩ : ∃ x : Nat, σ.2.1 60 a = (x : Int) ∧ AR T x 1 9 9 := wf_60 hw ha
            have hk951i : IA T x949 := by unfold IA; omega
            refine tn_getR (ci := 7) (i := 5) (n := 60) (x := x949) dX7_step_376 rfl lay_7 (by decide) fl7_15 ha rfl rfl (rc_F F948 (Or.inl (by decide)) (by decide) (rc_o (by decide) (rc_o (by decide) (hx950)))) ?_
            refine tn_aload_n dX7_step_379 rfl 3 rfl ?_
            refine tn_getI (ci := 7) (i := 2) (n := 57) (t := σ.2.1 57 a) dX7_step_380 rfl lay_7 (by decide) fl7_65 ha rfl rfl (rc_F F948 (Or.inl (by decide)) (by decide) (rc_o (by decide) (rc_o (by decide) (rfl)))) ?_
            refine tn_iload_n dX7_step_383 rfl 0 rfl ?_
            refine tn_callSN (M := m_X7_step) (pc := 384) (ix := 61) (M' := m_X11_put) (As := [.ref x949, .int (iI (σ.2.1 57 a)), .int (iI z502)]) (rest := []) dX7_step_384 ok_X11_put stt_X11_put nl7_61 np_X11_put rfl (Nat.le_of_ble_eq_true rfl) (Nat.le_of_ble_eq_true rfl) rfl (k_X11_put (d + 3) (T := T) (σ := σ943) (x := x949) (i := σ.2.1 57 a) (y := z502) hk951i (by omega) (by omega) (by omega) w947 (nh_k hk951 (by unfold HT; omega)) (vok_1 (by have q9 := hk951; omega) (by omega))) (fun r953 T955 σ954 gt956 hp => ?_)
            obtain ⟨rfl, rfl, w958, F959⟩ := hp
            clear gt956
            show Tn _ _ 387 T σ954 [(3, .int (iI z502)), (2, .int (iI v35)), (1, .int (iI v6)), (0, .ref a)] [] _
            refine tn_iload_n dX7_step_387 rfl 1 rfl ?_
            refine tn_bipush dX7_step_388 (by decide) ?_
            refine tn_icmp_ne (tgt := 397) dX7_step_390 (by decide) ⟨by omega, by omega⟩ ⟨by decide, by decide⟩ (fun h960 => ?_) (fun h960 => absurd h960 (by omega))
            refine tn_iconst dX7_step_397 ?_
            have q961 : σ954.2.1 57 a = σ.2.1 57 a := rc_F F959 (Or.inl (by decide)) (by decide) (rc_F F948 (Or.inl (by decide)) (by decide) (rc_o (by decide) (rc_o (by decide) (rfl))))
            exact tn_zret (v := 0) rfl (by decide) dX7_step_398 ⟨_, rfl, rfl, w958, ((((FrC.rfl.put (by decide) (by decide)).put (by decide) (by decide)).trans (FrC.sub F948 (by decide))).trans (FrC.sub F959 (by decide))), by omega, by omega, ((((FA.rfl.put).put).trans (FA.of F948 (by decide))).trans (FA.of F959 (by decide)))⟩
      · refine tn_aload_n dX7_step_37 rfl 2 rfl ?_
        refine tn_getI (ci := 7) (i := 3) (n := 58) (t := σ.2.1 58 a) dX7_step_38 rfl lay_7 (by decide) fl7_38 ha rfl rfl (rfl) ?_
        have g962 : ((-2147483648 : Int) ≤ σ.2.1 58 a ∧ σ.2.1 58 a ≤ 2147483647) := wf_58 hw ha
        refine tn_bipush dX7_step_41 (by decide) ?_
        refine tn_icmp_le (tgt := 53) dX7_step_43 (by decide) ⟨by omega, by omega⟩ ⟨by decide, by decide⟩ (fun h963 => ?_) (fun h963 => ?_)
        · refine tn_aload_n dX7_step_53 rfl 2 rfl ?_
          refine tn_dup dX7_step_54 rfl ?_
          refine tn_getI (ci := 7) (i := 12) (n := 67) (t := σ.2.1 67 a) dX7_step_55 rfl lay_7 (by decide) fl7_47 ha rfl rfl (rfl) ?_
          have g964 : ((-2147483648 : Int) ≤ σ.2.1 67 a ∧ σ.2.1 67 a ≤ 2147483647) := wf_67 hw ha
          refine tn_iconst dX7_step_58 ?_
          refine tn_iadd dX7_step_59 ?_
          refine tn_any (fun z965 g966 => ?_)
          have g966r : -2147483648 ≤ z965 ∧ z965 ≤ 2147483647 := g966
          refine tn_putV (ci := 7) (i := 12) (n := 67) (r := false) (v := z965) tyX7 tyX7_ok nmX7 dX7_step_60 rfl lay_7 (by decide) fl7_47 rfl (tyX7_ok 12 (by decide)) rfl rfl rfl ha rfl rfl ?_
          refine tn_iload_n dX7_step_63 rfl 1 rfl ?_
          refine tn_iconst dX7_step_64 ?_
          refine tn_iadd dX7_step_65 ?_
          refine tn_any (fun z967 g968 => ?_)
          have g968r : -2147483648 ≤ z967 ∧ z967 ≤ 2147483647 := g968
          refine tn_istore_n (L' := [(3, .int (iI z967)), (2, .int (iI v35)), (1, .int (iI v6)), (0, .ref a)]) dX7_step_66 rfl (by decide) rfl ?_
          refine tn_iload_n dX7_step_67 rfl 1 rfl ?_
          by_cases h969 : v35 < -1 ∨ 15 < v35
          · refine tn_tableOut (tgt := 369) dX7_step_68 (x := v35) ⟨by omega, by omega⟩ h969 (by decide) ?_
            refine tn_aload_n dX7_step_369 rfl 3 rfl ?_
            refine tn_iload_n dX7_step_370 rfl 2 rfl ?_
            refine tn_iload_n dX7_step_371 rfl 1 rfl ?_
            refine tn_callV (M := m_X7_step) (pc := 372) (ix := 129) (ci := 7) (M' := m_X7_reckonAt) (As := [.int (iI v6), .int (iI v35)]) (rest := []) dX7_step_372 ok_X7_reckonAt im_X7_reckonAt se_X7_reckonAt ml7_129 np_X7_reckonAt rfl rfl ha rfl (Nat.le_of_ble_eq_true rfl) (Nat.le_of_ble_eq_true rfl) rfl (k_X7_reckonAt (d + 1) (T := T) (σ := (sA 67 a (z965) σ)) (a := a) (k := v6) (e := v35) ha (by omega) (by omega) (hw.put (by decide) (by decide) (fo_67 (by omega))) (by rw [show (sA 67 a (z965) σ).2.1 69 a = _ from rc_o (by decide) (hx7)]; omega)) (fun r970 T972 σ971 gt973 hp => ?_)
            obtain ⟨rfl, rfl, w975, F976⟩ := hp
            clear gt973
            show Tn _ _ 375 T σ971 [(3, .int (iI z967)), (2, .int (iI v35)), (1, .int (iI v6)), (0, .ref a)] [] _
            refine tn_aload_n dX7_step_375 rfl 3 rfl ?_
            obtain ⟨x977, hx978, hk979, hl980⟩ : ∃ x : Nat, σ.2.1 60 a = (x : Int) ∧ AR T x 1 9 9 := wf_60 hw ha
            have hk979i : IA T x977 := by unfold IA; omega
            refine tn_getR (ci := 7) (i := 5) (n := 60) (x := x977) dX7_step_376 rfl lay_7 (by decide) fl7_15 ha rfl rfl (rc_F F976 (Or.inl (by decide)) (by decide) (rc_o (by decide) (hx978))) ?_
            refine tn_aload_n dX7_step_379 rfl 3 rfl ?_
            refine tn_getI (ci := 7) (i := 2) (n := 57) (t := σ.2.1 57 a) dX7_step_380 rfl lay_7 (by decide) fl7_65 ha rfl rfl (rc_F F976 (Or.inl (by decide)) (by decide) (rc_o (by decide) (rfl))) ?_
            have g981 : ((0 : Int) ≤ σ.2.1 57 a ∧ σ.2.1 57 a ≤ 11184800) ∧ ((T a).1 = 57 → σ.2.1 57 a ≤ 8) := wf_57 hw ha
            have g981x := g981.2
            replace g981 := g981.1
            clear g981x
            refine tn_iload_n dX7_step_383 rfl 0 rfl ?_
            refine tn_callSN (M := m_X7_step) (pc := 384) (ix := 61) (M' := m_X11_put) (As := [.ref x977, .int (iI (σ.2.1 57 a)), .int (iI z967)]) (rest := []) dX7_step_384 ok_X11_put stt_X11_put nl7_61 np_X11_put rfl (Nat.le_of_ble_eq_true rfl) (Nat.le_of_ble_eq_true rfl) rfl (k_X11_put (d + 3) (T := T) (σ := σ971) (x := x977) (i := σ.2.1 57 a) (y := z967) hk979i (by omega) (by omega) (by omega) w975 (nh_k hk979 (by unfold HT; omega)) (vok_1 (by have q9 := hk979; omega) (by omega))) (fun r982 T984 σ983 gt985 hp => ?_)
            obtain ⟨rfl, rfl, w987, F988⟩ := hp
            clear gt985
            show Tn _ _ 387 T σ983 [(3, .int (iI z967)), (2, .int (iI v35)), (1, .int (iI v6)), (0, .ref a)] [] _
            refine tn_iload_n dX7_step_387 rfl 1 rfl ?_
            refine tn_bipush dX7_step_388 (by decide) ?_
            refine tn_icmp_ne (tgt := 397) dX7_step_390 (by decide) ⟨by omega, by omega⟩ ⟨by decide, by decide⟩ (fun h989 => ?_) (fun h989 => absurd h989 (by omega))
            refine tn_iconst dX7_step_397 ?_
            have q990 : σ983.2.1 57 a = σ.2.1 57 a := rc_F F988 (Or.inl (by decide)) (by decide) (rc_F F976 (Or.inl (by decide)) (by decide) (rc_o (by decide) (rfl)))
            exact tn_zret (v := 0) rfl (by decide) dX7_step_398 ⟨_, rfl, rfl, w987, (((FrC.rfl.put (by decide) (by decide)).trans (FrC.sub F976 (by decide))).trans (FrC.sub F988 (by decide))), by omega, by omega, (((FA.rfl.put).trans (FA.of F976 (by decide))).trans (FA.of F988 (by decide)))⟩
          · have h991 : v35 = -1 ∨ v35 = 0 ∨ v35 = 1 ∨ v35 = 2 ∨ v35 = 3 ∨ v35 = 4 ∨ v35 = 5 ∨ v35 = 6 ∨ v35 = 7 ∨ v35 = 8 ∨ v35 = 9 ∨ v35 = 10 ∨ v35 = 11 ∨ v35 = 12 ∨ v35 = 13 ∨ v35 = 14 ∨ v35 = 15 := by omega
            rcases h991 with h991 | h991 | h991 | h991 | h991 | h991 | h991 | h991 | h991 | h991 | h991 | h991 | h991 | h991 | h991 | h991 | h991
            · refine tn_tableIn (tgt := 362) (off := 294) dX7_step_68 (x := v35) ⟨by omega, by omega⟩ (by omega) (by omega) (by rw [h991]; rfl) (by decide) ?_
              refine tn_aload_n dX7_step_362 rfl 3 rfl ?_
              refine tn_iconst dX7_step_363 ?_
              have q996 : (sA 67 a (z965) σ).2.1 57 a = σ.2.1 57 a := rc_o (by decide) (rfl)
              refine tn_callV (M := m_X7_step) (pc := 364) (ix := 123) (ci := 7) (M' := m_X7_giveBack) (As := [.int (iI 0)]) (rest := []) dX7_step_364 ok_X7_giveBack im_X7_giveBack se_X7_giveBack ml7_123 np_X7_giveBack rfl rfl ha rfl (Nat.le_of_ble_eq_true rfl) (Nat.le_of_ble_eq_true rfl) rfl (k_X7_giveBack (d + 1) (T := T) (σ := (sA 67 a (z965) σ)) (a := a) (n := 0) ha hta (by decide) (hw.put (by decide) (by decide) (fo_67 (by omega))) ) (fun r992 T994 σ993 gt995 hp => ?_)
              obtain ⟨rfl, rfl, w1000, F1001, f997, f998⟩ := hp
              clear gt995
              show Tn _ _ 367 T σ993 [(3, .int (iI z967)), (2, .int (iI v35)), (1, .int (iI v6)), (0, .ref a)] [] _
              refine tn_iconst dX7_step_367 ?_
              have q1002 : σ993.2.1 57 a = σ993.2.1 57 a := rfl
              exact tn_zret (v := 0) rfl (by decide) dX7_step_368 ⟨_, rfl, rfl, w1000, ((FrC.rfl.put (by decide) (by decide)).trans (FrC.sub F1001 (by decide))), by omega, by omega, ((FA.rfl.put).trans f998)⟩
            · refine tn_tableIn (tgt := 369) (off := 301) dX7_step_68 (x := v35) ⟨by omega, by omega⟩ (by omega) (by omega) (by rw [h991]; rfl) (by decide) ?_
              refine tn_aload_n dX7_step_369 rfl 3 rfl ?_
              refine tn_iload_n dX7_step_370 rfl 2 rfl ?_
              refine tn_iload_n dX7_step_371 rfl 1 rfl ?_
              refine tn_callV (M := m_X7_step) (pc := 372) (ix := 129) (ci := 7) (M' := m_X7_reckonAt) (As := [.int (iI v6), .int (iI v35)]) (rest := []) dX7_step_372 ok_X7_reckonAt im_X7_reckonAt se_X7_reckonAt ml7_129 np_X7_reckonAt rfl rfl ha rfl (Nat.le_of_ble_eq_true rfl) (Nat.le_of_ble_eq_true rfl) rfl (k_X7_reckonAt (d + 1) (T := T) (σ := (sA 67 a (z965) σ)) (a := a) (k := v6) (e := v35) ha (by omega) (by omega) (hw.put (by decide) (by decide) (fo_67 (by omega))) (by rw [show (sA 67 a (z965) σ).2.1 69 a = _ from rc_o (by decide) (hx7)]; omega)) (fun r1003 T1005 σ1004 gt1006 hp => ?_)
              obtain ⟨rfl, rfl, w1008, F1009⟩ := hp
              clear gt1006
              show Tn _ _ 375 T σ1004 [(3, .int (iI z967)), (2, .int (iI v35)), (1, .int (iI v6)), (0, .ref a)] [] _
              refine tn_aload_n dX7_step_375 rfl 3 rfl ?_
              obtain ⟨x1010, hx1011, hk1012, hl1013⟩ : ∃ x : Nat, σ.2.1 60 a = (x : Int) ∧ AR T x 1 9 9 := wf_60 hw ha
              have hk1012i : IA T x1010 := by unfold IA; omega
              refine tn_getR (ci := 7) (i := 5) (n := 60) (x := x1010) dX7_step_376 rfl lay_7 (by decide) fl7_15 ha rfl rfl (rc_F F1009 (Or.inl (by decide)) (by decide) (rc_o (by decide) (hx1011))) ?_
              refine tn_aload_n dX7_step_379 rfl 3 rfl ?_
              refine tn_getI (ci := 7) (i := 2) (n := 57) (t := σ.2.1 57 a) dX7_step_380 rfl lay_7 (by decide) fl7_65 ha rfl rfl (rc_F F1009 (Or.inl (by decide)) (by decide) (rc_o (by decide) (rfl))) ?_
              have g1014 : ((0 : Int) ≤ σ.2.1 57 a ∧ σ.2.1 57 a ≤ 11184800) ∧ ((T a).1 = 57 → σ.2.1 57 a ≤ 8) := wf_57 hw ha
              have g1014x := g1014.2
              replace g1014 := g1014.1
              clear g1014x
              refine tn_iload_n dX7_step_383 rfl 0 rfl ?_
              refine tn_callSN (M := m_X7_step) (pc := 384) (ix := 61) (M' := m_X11_put) (As := [.ref x1010, .int (iI (σ.2.1 57 a)), .int (iI z967)]) (rest := []) dX7_step_384 ok_X11_put stt_X11_put nl7_61 np_X11_put rfl (Nat.le_of_ble_eq_true rfl) (Nat.le_of_ble_eq_true rfl) rfl (k_X11_put (d + 3) (T := T) (σ := σ1004) (x := x1010) (i := σ.2.1 57 a) (y := z967) hk1012i (by omega) (by omega) (by omega) w1008 (nh_k hk1012 (by unfold HT; omega)) (vok_1 (by have q9 := hk1012; omega) (by omega))) (fun r1015 T1017 σ1016 gt1018 hp => ?_)
              obtain ⟨rfl, rfl, w1020, F1021⟩ := hp
              clear gt1018
              show Tn _ _ 387 T σ1016 [(3, .int (iI z967)), (2, .int (iI v35)), (1, .int (iI v6)), (0, .ref a)] [] _
              refine tn_iload_n dX7_step_387 rfl 1 rfl ?_
              refine tn_bipush dX7_step_388 (by decide) ?_
              refine tn_icmp_ne (tgt := 397) dX7_step_390 (by decide) ⟨by omega, by omega⟩ ⟨by decide, by decide⟩ (fun h1022 => ?_) (fun h1022 => absurd h1022 (by omega))
              refine tn_iconst dX7_step_397 ?_
              have q1023 : σ1016.2.1 57 a = σ.2.1 57 a := rc_F F1021 (Or.inl (by decide)) (by decide) (rc_F F1009 (Or.inl (by decide)) (by decide) (rc_o (by decide) (rfl)))
              exact tn_zret (v := 0) rfl (by decide) dX7_step_398 ⟨_, rfl, rfl, w1020, (((FrC.rfl.put (by decide) (by decide)).trans (FrC.sub F1009 (by decide))).trans (FrC.sub F1021 (by decide))), by omega, by omega, (((FA.rfl.put).trans (FA.of F1009 (by decide))).trans (FA.of F1021 (by decide)))⟩
            · refine tn_tableIn (tgt := 369) (off := 301) dX7_step_68 (x := v35) ⟨by omega, by omega⟩ (by omega) (by omega) (by rw [h991]; rfl) (by decide) ?_
              refine tn_aload_n dX7_step_369 rfl 3 rfl ?_
              refine tn_iload_n dX7_step_370 rfl 2 rfl ?_
              refine tn_iload_n dX7_step_371 rfl 1 rfl ?_
              refine tn_callV (M := m_X7_step) (pc := 372) (ix := 129) (ci := 7) (M' := m_X7_reckonAt) (As := [.int (iI v6), .int (iI v35)]) (rest := []) dX7_step_372 ok_X7_reckonAt im_X7_reckonAt se_X7_reckonAt ml7_129 np_X7_reckonAt rfl rfl ha rfl (Nat.le_of_ble_eq_true rfl) (Nat.le_of_ble_eq_true rfl) rfl (k_X7_reckonAt (d + 1) (T := T) (σ := (sA 67 a (z965) σ)) (a := a) (k := v6) (e := v35) ha (by omega) (by omega) (hw.put (by decide) (by decide) (fo_67 (by omega))) (by rw [show (sA 67 a (z965) σ).2.1 69 a = _ from rc_o (by decide) (hx7)]; omega)) (fun r1024 T1026 σ1025 gt1027 hp => ?_)
              obtain ⟨rfl, rfl, w1029, F1030⟩ := hp
              clear gt1027
              show Tn _ _ 375 T σ1025 [(3, .int (iI z967)), (2, .int (iI v35)), (1, .int (iI v6)), (0, .ref a)] [] _
              refine tn_aload_n dX7_step_375 rfl 3 rfl ?_
              obtain ⟨x1031, hx1032, hk1033, hl1034⟩ : ∃ x : Nat, σ.2.1 60 a = (x : Int) ∧ AR T x 1 9 9 := wf_60 hw ha
              have hk1033i : IA T x1031 := by unfold IA; omega
              refine tn_getR (ci := 7) (i := 5) (n := 60) (x := x1031) dX7_step_376 rfl lay_7 (by decide) fl7_15 ha rfl rfl (rc_F F1030 (Or.inl (by decide)) (by decide) (rc_o (by decide) (hx1032))) ?_
              refine tn_aload_n dX7_step_379 rfl 3 rfl ?_
              refine tn_getI (ci := 7) (i := 2) (n := 57) (t := σ.2.1 57 a) dX7_step_380 rfl lay_7 (by decide) fl7_65 ha rfl rfl (rc_F F1030 (Or.inl (by decide)) (by decide) (rc_o (by decide) (rfl))) ?_
              have g1035 : ((0 : Int) ≤ σ.2.1 57 a ∧ σ.2.1 57 a ≤ 11184800) ∧ ((T a).1 = 57 → σ.2.1 57 a ≤ 8) := wf_57 hw ha
              have g1035x := g1035.2
              replace g1035 := g1035.1
              clear g1035x
              refine tn_iload_n dX7_step_383 rfl 0 rfl ?_
              refine tn_callSN (M := m_X7_step) (pc := 384) (ix := 61) (M' := m_X11_put) (As := [.ref x1031, .int (iI (σ.2.1 57 a)), .int (iI z967)]) (rest := []) dX7_step_384 ok_X11_put stt_X11_put nl7_61 np_X11_put rfl (Nat.le_of_ble_eq_true rfl) (Nat.le_of_ble_eq_true rfl) rfl (k_X11_put (d + 3) (T := T) (σ := σ1025) (x := x1031) (i := σ.2.1 57 a) (y := z967) hk1033i (by omega) (by omega) (by omega) w1029 (nh_k hk1033 (by unfold HT; omega)) (vok_1 (by have q9 := hk1033; omega) (by omega))) (fun r1036 T1038 σ1037 gt1039 hp => ?_)
              obtain ⟨rfl, rfl, w1041, F1042⟩ := hp
              clear gt1039
              show Tn _ _ 387 T σ1037 [(3, .int (iI z967)), (2, .int (iI v35)), (1, .int (iI v6)), (0, .ref a)] [] _
              refine tn_iload_n dX7_step_387 rfl 1 rfl ?_
              refine tn_bipush dX7_step_388 (by decide) ?_
              refine tn_icmp_ne (tgt := 397) dX7_step_390 (by decide) ⟨by omega, by omega⟩ ⟨by decide, by decide⟩ (fun h1043 => ?_) (fun h1043 => absurd h1043 (by omega))
              refine tn_iconst dX7_step_397 ?_
              have q1044 : σ1037.2.1 57 a = σ.2.1 57 a := rc_F F1042 (Or.inl (by decide)) (by decide) (rc_F F1030 (Or.inl (by decide)) (by decide) (rc_o (by decide) (rfl)))
              exact tn_zret (v := 0) rfl (by decide) dX7_step_398 ⟨_, rfl, rfl, w1041, (((FrC.rfl.put (by decide) (by decide)).trans (FrC.sub F1030 (by decide))).trans (FrC.sub F1042 (by decide))), by omega, by omega, (((FA.rfl.put).trans (FA.of F1030 (by decide))).trans (FA.of F1042 (by decide)))⟩
            · refine tn_tableIn (tgt := 369) (off := 301) dX7_step_68 (x := v35) ⟨by omega, by omega⟩ (by omega) (by omega) (by rw [h991]; rfl) (by decide) ?_
              refine tn_aload_n dX7_step_369 rfl 3 rfl ?_
              refine tn_iload_n dX7_step_370 rfl 2 rfl ?_
              refine tn_iload_n dX7_step_371 rfl 1 rfl ?_
              refine tn_callV (M := m_X7_step) (pc := 372) (ix := 129) (ci := 7) (M' := m_X7_reckonAt) (As := [.int (iI v6), .int (iI v35)]) (rest := []) dX7_step_372 ok_X7_reckonAt im_X7_reckonAt se_X7_reckonAt ml7_129 np_X7_reckonAt rfl rfl ha rfl (Nat.le_of_ble_eq_true rfl) (Nat.le_of_ble_eq_true rfl) rfl (k_X7_reckonAt (d + 1) (T := T) (σ := (sA 67 a (z965) σ)) (a := a) (k := v6) (e := v35) ha (by omega) (by omega) (hw.put (by decide) (by decide) (fo_67 (by omega))) (by rw [show (sA 67 a (z965) σ).2.1 69 a = _ from rc_o (by decide) (hx7)]; omega)) (fun r1045 T1047 σ1046 gt1048 hp => ?_)
              obtain ⟨rfl, rfl, w1050, F1051⟩ := hp
              clear gt1048
              show Tn _ _ 375 T σ1046 [(3, .int (iI z967)), (2, .int (iI v35)), (1, .int (iI v6)), (0, .ref a)] [] _
              refine tn_aload_n dX7_step_375 rfl 3 rfl ?_
              obtain ⟨x1052, hx1053, hk1054, hl1055⟩ : ∃ x : Nat, σ.2.1 60 a = (x : Int) ∧ AR T x 1 9 9 := wf_60 hw ha
              have hk1054i : IA T x1052 := by unfold IA; omega
              refine tn_getR (ci := 7) (i := 5) (n := 60) (x := x1052) dX7_step_376 rfl lay_7 (by decide) fl7_15 ha rfl rfl (rc_F F1051 (Or.inl (by decide)) (by decide) (rc_o (by decide) (hx1053))) ?_
              refine tn_aload_n dX7_step_379 rfl 3 rfl ?_
              refine tn_getI (ci := 7) (i := 2) (n := 57) (t := σ.2.1 57 a) dX7_step_380 rfl lay_7 (by decide) fl7_65 ha rfl rfl (rc_F F1051 (Or.inl (by decide)) (by decide) (rc_o (by decide) (rfl))) ?_
              have g1056 : ((0 : Int) ≤ σ.2.1 57 a ∧ σ.2.1 57 a ≤ 11184800) ∧ ((T a).1 = 57 → σ.2.1 57 a ≤ 8) := wf_57 hw ha
              have g1056x := g1056.2
              replace g1056 := g1056.1
              clear g1056x
              refine tn_iload_n dX7_step_383 rfl 0 rfl ?_
              refine tn_callSN (M := m_X7_step) (pc := 384) (ix := 61) (M' := m_X11_put) (As := [.ref x1052, .int (iI (σ.2.1 57 a)), .int (iI z967)]) (rest := []) dX7_step_384 ok_X11_put stt_X11_put nl7_61 np_X11_put rfl (Nat.le_of_ble_eq_true rfl) (Nat.le_of_ble_eq_true rfl) rfl (k_X11_put (d + 3) (T := T) (σ := σ1046) (x := x1052) (i := σ.2.1 57 a) (y := z967) hk1054i (by omega) (by omega) (by omega) w1050 (nh_k hk1054 (by unfold HT; omega)) (vok_1 (by have q9 := hk1054; omega) (by omega))) (fun r1057 T1059 σ1058 gt1060 hp => ?_)
              obtain ⟨rfl, rfl, w1062, F1063⟩ := hp
              clear gt1060
              show Tn _ _ 387 T σ1058 [(3, .int (iI z967)), (2, .int (iI v35)), (1, .int (iI v6)), (0, .ref a)] [] _
              refine tn_iload_n dX7_step_387 rfl 1 rfl ?_
              refine tn_bipush dX7_step_388 (by decide) ?_
              refine tn_icmp_ne (tgt := 397) dX7_step_390 (by decide) ⟨by omega, by omega⟩ ⟨by decide, by decide⟩ (fun h1064 => ?_) (fun h1064 => absurd h1064 (by omega))
              refine tn_iconst dX7_step_397 ?_
              have q1065 : σ1058.2.1 57 a = σ.2.1 57 a := rc_F F1063 (Or.inl (by decide)) (by decide) (rc_F F1051 (Or.inl (by decide)) (by decide) (rc_o (by decide) (rfl)))
              exact tn_zret (v := 0) rfl (by decide) dX7_step_398 ⟨_, rfl, rfl, w1062, (((FrC.rfl.put (by decide) (by decide)).trans (FrC.sub F1051 (by decide))).trans (FrC.sub F1063 (by decide))), by omega, by omega, (((FA.rfl.put).trans (FA.of F1051 (by decide))).trans (FA.of F1063 (by decide)))⟩
            · refine tn_tableIn (tgt := 369) (off := 301) dX7_step_68 (x := v35) ⟨by omega, by omega⟩ (by omega) (by omega) (by rw [h991]; rfl) (by decide) ?_
              refine tn_aload_n dX7_step_369 rfl 3 rfl ?_
              refine tn_iload_n dX7_step_370 rfl 2 rfl ?_
              refine tn_iload_n dX7_step_371 rfl 1 rfl ?_
              refine tn_callV (M := m_X7_step) (pc := 372) (ix := 129) (ci := 7) (M' := m_X7_reckonAt) (As := [.int (iI v6), .int (iI v35)]) (rest := []) dX7_step_372 ok_X7_reckonAt im_X7_reckonAt se_X7_reckonAt ml7_129 np_X7_reckonAt rfl rfl ha rfl (Nat.le_of_ble_eq_true rfl) (Nat.le_of_ble_eq_true rfl) rfl (k_X7_reckonAt (d + 1) (T := T) (σ := (sA 67 a (z965) σ)) (a := a) (k := v6) (e := v35) ha (by omega) (by omega) (hw.put (by decide) (by decide) (fo_67 (by omega))) (by rw [show (sA 67 a (z965) σ).2.1 69 a = _ from rc_o (by decide) (hx7)]; omega)) (fun r1066 T1068 σ1067 gt1069 hp => ?_)
              obtain ⟨rfl, rfl, w1071, F1072⟩ := hp
              clear gt1069
              show Tn _ _ 375 T σ1067 [(3, .int (iI z967)), (2, .int (iI v35)), (1, .int (iI v6)), (0, .ref a)] [] _
              refine tn_aload_n dX7_step_375 rfl 3 rfl ?_
              obtain ⟨x1073, hx1074, hk1075, hl1076⟩ : ∃ x : Nat, σ.2.1 60 a = (x : Int) ∧ AR T x 1 9 9 := wf_60 hw ha
              have hk1075i : IA T x1073 := by unfold IA; omega
              refine tn_getR (ci := 7) (i := 5) (n := 60) (x := x1073) dX7_step_376 rfl lay_7 (by decide) fl7_15 ha rfl rfl (rc_F F1072 (Or.inl (by decide)) (by decide) (rc_o (by decide) (hx1074))) ?_
              refine tn_aload_n dX7_step_379 rfl 3 rfl ?_
              refine tn_getI (ci := 7) (i := 2) (n := 57) (t := σ.2.1 57 a) dX7_step_380 rfl lay_7 (by decide) fl7_65 ha rfl rfl (rc_F F1072 (Or.inl (by decide)) (by decide) (rc_o (by decide) (rfl))) ?_
              have g1077 : ((0 : Int) ≤ σ.2.1 57 a ∧ σ.2.1 57 a ≤ 11184800) ∧ ((T a).1 = 57 → σ.2.1 57 a ≤ 8) := wf_57 hw ha
              have g1077x := g1077.2
              replace g1077 := g1077.1
              clear g1077x
              refine tn_iload_n dX7_step_383 rfl 0 rfl ?_
              refine tn_callSN (M := m_X7_step) (pc := 384) (ix := 61) (M' := m_X11_put) (As := [.ref x1073, .int (iI (σ.2.1 57 a)), .int (iI z967)]) (rest := []) dX7_step_384 ok_X11_put stt_X11_put nl7_61 np_X11_put rfl (Nat.le_of_ble_eq_true rfl) (Nat.le_of_ble_eq_true rfl) rfl (k_X11_put (d + 3) (T := T) (σ := σ1067) (x := x1073) (i := σ.2.1 57 a) (y := z967) hk1075i (by omega) (by omega) (by omega) w1071 (nh_k hk1075 (by unfold HT; omega)) (vok_1 (by have q9 := hk1075; omega) (by omega))) (fun r1078 T1080 σ1079 gt1081 hp => ?_)
              obtain ⟨rfl, rfl, w1083, F1084⟩ := hp
              clear gt1081
              show Tn _ _ 387 T σ1079 [(3, .int (iI z967)), (2, .int (iI v35)), (1, .int (iI v6)), (0, .ref a)] [] _
              refine tn_iload_n dX7_step_387 rfl 1 rfl ?_
              refine tn_bipush dX7_step_388 (by decide) ?_
              refine tn_icmp_ne (tgt := 397) dX7_step_390 (by decide) ⟨by omega, by omega⟩ ⟨by decide, by decide⟩ (fun h1085 => ?_) (fun h1085 => absurd h1085 (by omega))
              refine tn_iconst dX7_step_397 ?_
              have q1086 : σ1079.2.1 57 a = σ.2.1 57 a := rc_F F1084 (Or.inl (by decide)) (by decide) (rc_F F1072 (Or.inl (by decide)) (by decide) (rc_o (by decide) (rfl)))
              exact tn_zret (v := 0) rfl (by decide) dX7_step_398 ⟨_, rfl, rfl, w1083, (((FrC.rfl.put (by decide) (by decide)).trans (FrC.sub F1072 (by decide))).trans (FrC.sub F1084 (by decide))), by omega, by omega, (((FA.rfl.put).trans (FA.of F1072 (by decide))).trans (FA.of F1084 (by decide)))⟩
            · refine tn_tableIn (tgt := 369) (off := 301) dX7_step_68 (x := v35) ⟨by omega, by omega⟩ (by omega) (by omega) (by rw [h991]; rfl) (by decide) ?_
              refine tn_aload_n dX7_step_369 rfl 3 rfl ?_
              refine tn_iload_n dX7_step_370 rfl 2 rfl ?_
              refine tn_iload_n dX7_step_371 rfl 1 rfl ?_
              refine tn_callV (M := m_X7_step) (pc := 372) (ix := 129) (ci := 7) (M' := m_X7_reckonAt) (As := [.int (iI v6), .int (iI v35)]) (rest := []) dX7_step_372 ok_X7_reckonAt im_X7_reckonAt se_X7_reckonAt ml7_129 np_X7_reckonAt rfl rfl ha rfl (Nat.le_of_ble_eq_true rfl) (Nat.le_of_ble_eq_true rfl) rfl (k_X7_reckonAt (d + 1) (T := T) (σ := (sA 67 a (z965) σ)) (a := a) (k := v6) (e := v35) ha (by omega) (by omega) (hw.put (by decide) (by decide) (fo_67 (by omega))) (by rw [show (sA 67 a (z965) σ).2.1 69 a = _ from rc_o (by decide) (hx7)]; omega)) (fun r1087 T1089 σ1088 gt1090 hp => ?_)
              obtain ⟨rfl, rfl, w1092, F1093⟩ := hp
              clear gt1090
              show Tn _ _ 375 T σ1088 [(3, .int (iI z967)), (2, .int (iI v35)), (1, .int (iI v6)), (0, .ref a)] [] _
              refine tn_aload_n dX7_step_375 rfl 3 rfl ?_
              obtain ⟨x1094, hx1095, hk1096, hl1097⟩ : ∃ x : Nat, σ.2.1 60 a = (x : Int) ∧ AR T x 1 9 9 := wf_60 hw ha
              have hk1096i : IA T x1094 := by unfold IA; omega
              refine tn_getR (ci := 7) (i := 5) (n := 60) (x := x1094) dX7_step_376 rfl lay_7 (by decide) fl7_15 ha rfl rfl (rc_F F1093 (Or.inl (by decide)) (by decide) (rc_o (by decide) (hx1095))) ?_
              refine tn_aload_n dX7_step_379 rfl 3 rfl ?_
              refine tn_getI (ci := 7) (i := 2) (n := 57) (t := σ.2.1 57 a) dX7_step_380 rfl lay_7 (by decide) fl7_65 ha rfl rfl (rc_F F1093 (Or.inl (by decide)) (by decide) (rc_o (by decide) (rfl))) ?_
              have g1098 : ((0 : Int) ≤ σ.2.1 57 a ∧ σ.2.1 57 a ≤ 11184800) ∧ ((T a).1 = 57 → σ.2.1 57 a ≤ 8) := wf_57 hw ha
              have g1098x := g1098.2
              replace g1098 := g1098.1
              clear g1098x
              refine tn_iload_n dX7_step_383 rfl 0 rfl ?_
              refine tn_callSN (M := m_X7_step) (pc := 384) (ix := 61) (M' := m_X11_put) (As := [.ref x1094, .int (iI (σ.2.1 57 a)), .int (iI z967)]) (rest := []) dX7_step_384 ok_X11_put stt_X11_put nl7_61 np_X11_put rfl (Nat.le_of_ble_eq_true rfl) (Nat.le_of_ble_eq_true rfl) rfl (k_X11_put (d + 3) (T := T) (σ := σ1088) (x := x1094) (i := σ.2.1 57 a) (y := z967) hk1096i (by omega) (by omega) (by omega) w1092 (nh_k hk1096 (by unfold HT; omega)) (vok_1 (by have q9 := hk1096; omega) (by omega))) (fun r1099 T1101 σ1100 gt1102 hp => ?_)
              obtain ⟨rfl, rfl, w1104, F1105⟩ := hp
              clear gt1102
              show Tn _ _ 387 T σ1100 [(3, .int (iI z967)), (2, .int (iI v35)), (1, .int (iI v6)), (0, .ref a)] [] _
              refine tn_iload_n dX7_step_387 rfl 1 rfl ?_
              refine tn_bipush dX7_step_388 (by decide) ?_
              refine tn_icmp_ne (tgt := 397) dX7_step_390 (by decide) ⟨by omega, by omega⟩ ⟨by decide, by decide⟩ (fun h1106 => ?_) (fun h1106 => absurd h1106 (by omega))
              refine tn_iconst dX7_step_397 ?_
              have q1107 : σ1100.2.1 57 a = σ.2.1 57 a := rc_F F1105 (Or.inl (by decide)) (by decide) (rc_F F1093 (Or.inl (by decide)) (by decide) (rc_o (by decide) (rfl)))
              exact tn_zret (v := 0) rfl (by decide) dX7_step_398 ⟨_, rfl, rfl, w1104, (((FrC.rfl.put (by decide) (by decide)).trans (FrC.sub F1093 (by decide))).trans (FrC.sub F1105 (by decide))), by omega, by omega, (((FA.rfl.put).trans (FA.of F1093 (by decide))).trans (FA.of F1105 (by decide)))⟩
            · refine tn_tableIn (tgt := 369) (off := 301) dX7_step_68 (x := v35) ⟨by omega, by omega⟩ (by omega) (by omega) (by rw [h991]; rfl) (by decide) ?_
              refine tn_aload_n dX7_step_369 rfl 3 rfl ?_
              refine tn_iload_n dX7_step_370 rfl 2 rfl ?_
              refine tn_iload_n dX7_step_371 rfl 1 rfl ?_
              refine tn_callV (M := m_X7_step) (pc := 372) (ix := 129) (ci := 7) (M' := m_X7_reckonAt) (As := [.int (iI v6), .int (iI v35)]) (rest := []) dX7_step_372 ok_X7_reckonAt im_X7_reckonAt se_X7_reckonAt ml7_129 np_X7_reckonAt rfl rfl ha rfl (Nat.le_of_ble_eq_true rfl) (Nat.le_of_ble_eq_true rfl) rfl (k_X7_reckonAt (d + 1) (T := T) (σ := (sA 67 a (z965) σ)) (a := a) (k := v6) (e := v35) ha (by omega) (by omega) (hw.put (by decide) (by decide) (fo_67 (by omega))) (by rw [show (sA 67 a (z965) σ).2.1 69 a = _ from rc_o (by decide) (hx7)]; omega)) (fun r1108 T1110 σ1109 gt1111 hp => ?_)
              obtain ⟨rfl, rfl, w1113, F1114⟩ := hp
              clear gt1111
              show Tn _ _ 375 T σ1109 [(3, .int (iI z967)), (2, .int (iI v35)), (1, .int (iI v6)), (0, .ref a)] [] _
              refine tn_aload_n dX7_step_375 rfl 3 rfl ?_
              obtain ⟨x1115, hx1116, hk1117, hl1118⟩ : ∃ x : Nat, σ.2.1 60 a = (x : Int) ∧ AR T x 1 9 9 := wf_60 hw ha
              have hk1117i : IA T x1115 := by unfold IA; omega
              refine tn_getR (ci := 7) (i := 5) (n := 60) (x := x1115) dX7_step_376 rfl lay_7 (by decide) fl7_15 ha rfl rfl (rc_F F1114 (Or.inl (by decide)) (by decide) (rc_o (by decide) (hx1116))) ?_
              refine tn_aload_n dX7_step_379 rfl 3 rfl ?_
              refine tn_getI (ci := 7) (i := 2) (n := 57) (t := σ.2.1 57 a) dX7_step_380 rfl lay_7 (by decide) fl7_65 ha rfl rfl (rc_F F1114 (Or.inl (by decide)) (by decide) (rc_o (by decide) (rfl))) ?_
              have g1119 : ((0 : Int) ≤ σ.2.1 57 a ∧ σ.2.1 57 a ≤ 11184800) ∧ ((T a).1 = 57 → σ.2.1 57 a ≤ 8) := wf_57 hw ha
              have g1119x := g1119.2
              replace g1119 := g1119.1
              clear g1119x
              refine tn_iload_n dX7_step_383 rfl 0 rfl ?_
              refine tn_callSN (M := m_X7_step) (pc := 384) (ix := 61) (M' := m_X11_put) (As := [.ref x1115, .int (iI (σ.2.1 57 a)), .int (iI z967)]) (rest := []) dX7_step_384 ok_X11_put stt_X11_put nl7_61 np_X11_put rfl (Nat.le_of_ble_eq_true rfl) (Nat.le_of_ble_eq_true rfl) rfl (k_X11_put (d + 3) (T := T) (σ := σ1109) (x := x1115) (i := σ.2.1 57 a) (y := z967) hk1117i (by omega) (by omega) (by omega) w1113 (nh_k hk1117 (by unfold HT; omega)) (vok_1 (by have q9 := hk1117; omega) (by omega))) (fun r1120 T1122 σ1121 gt1123 hp => ?_)
              obtain ⟨rfl, rfl, w1125, F1126⟩ := hp
              clear gt1123
              show Tn _ _ 387 T σ1121 [(3, .int (iI z967)), (2, .int (iI v35)), (1, .int (iI v6)), (0, .ref a)] [] _
              refine tn_iload_n dX7_step_387 rfl 1 rfl ?_
              refine tn_bipush dX7_step_388 (by decide) ?_
              refine tn_icmp_ne (tgt := 397) dX7_step_390 (by decide) ⟨by omega, by omega⟩ ⟨by decide, by decide⟩ (fun h1127 => ?_) (fun h1127 => absurd h1127 (by omega))
              refine tn_iconst dX7_step_397 ?_
              have q1128 : σ1121.2.1 57 a = σ.2.1 57 a := rc_F F1126 (Or.inl (by decide)) (by decide) (rc_F F1114 (Or.inl (by decide)) (by decide) (rc_o (by decide) (rfl)))
              exact tn_zret (v := 0) rfl (by decide) dX7_step_398 ⟨_, rfl, rfl, w1125, (((FrC.rfl.put (by decide) (by decide)).trans (FrC.sub F1114 (by decide))).trans (FrC.sub F1126 (by decide))), by omega, by omega, (((FA.rfl.put).trans (FA.of F1114 (by decide))).trans (FA.of F1126 (by decide)))⟩
            · refine tn_tableIn (tgt := 152) (off := 84) dX7_step_68 (x := v35) ⟨by omega, by omega⟩ (by omega) (by omega) (by rw [h991]; rfl) (by decide) ?_
              refine tn_aload_n dX7_step_152 rfl 3 rfl ?_
              refine tn_aload_n dX7_step_153 rfl 3 rfl ?_
              refine tn_iload_n dX7_step_154 rfl 2 rfl ?_
              refine tn_iconst dX7_step_155 ?_
              refine tn_callV (M := m_X7_step) (pc := 156) (ix := 110) (ci := 7) (M' := m_X7_operand) (As := [.int (iI v6), .int (iI 3)]) (rest := [.ref a]) dX7_step_156 ok_X7_operand im_X7_operand se_X7_operand ml7_110 np_X7_operand rfl rfl ha rfl (Nat.le_of_ble_eq_true rfl) (Nat.le_of_ble_eq_true rfl) rfl (k_X7_operand (d + 2) (T := T) (σ := (sA 67 a (z965) σ)) (a := a) (k := v6) (c := 3) ha (by omega) (by decide) (hw.put (by decide) (by decide) (fo_67 (by omega))) (by rw [show (sA 67 a (z965) σ).2.1 69 a = _ from rc_o (by decide) (hx7)]; omega) (by omega)) (fun r1129 T1131 σ1130 gt1132 hp => ?_)
              obtain ⟨v1134, rfl, rfl, rfl, f1133⟩ := hp
              clear gt1132
              show Tn _ _ 159 T (sA 67 a (z965) σ) [(3, .int (iI z967)), (2, .int (iI v35)), (1, .int (iI v6)), (0, .ref a)] [.int (iI v1134), .ref a] _
              refine tn_callV (M := m_X7_step) (pc := 159) (ix := 113) (ci := 7) (M' := m_X7_emit) (As := [.int (iI v1134)]) (rest := []) dX7_step_159 ok_X7_emit im_X7_emit se_X7_emit ml7_113 np_X7_emit rfl rfl ha rfl (Nat.le_of_ble_eq_true rfl) (Nat.le_of_ble_eq_true rfl) rfl (k_X7_emit (d + 2) (T := T) (σ := (sA 67 a (z965) σ)) (a := a) (p1 := v1134) ha (by omega) (hw.put (by decide) (by decide) (fo_67 (by omega))) ) (fun r1135 T1137 σ1136 gt1138 hp => ?_)
              obtain ⟨rfl, rfl, w1141, F1142, f1139⟩ := hp
              clear gt1138
              show Tn _ _ 162 T σ1136 [(3, .int (iI z967)), (2, .int (iI v35)), (1, .int (iI v6)), (0, .ref a)] [] _
              refine tn_goto (tgt := 375) dX7_step_162 (by decide) ?_
              refine tn_aload_n dX7_step_375 rfl 3 rfl ?_
              obtain ⟨x1143, hx1144, hk1145, hl1146⟩ : ∃ x : Nat, σ.2.1 60 a = (x : Int) ∧ AR T x 1 9 9 := wf_60 hw ha
              have hk1145i : IA T x1143 := by unfold IA; omega
              refine tn_getR (ci := 7) (i := 5) (n := 60) (x := x1143) dX7_step_376 rfl lay_7 (by decide) fl7_15 ha rfl rfl (rc_F F1142 (Or.inl (by decide)) (by decide) (rc_o (by decide) (hx1144))) ?_
              refine tn_aload_n dX7_step_379 rfl 3 rfl ?_
              refine tn_getI (ci := 7) (i := 2) (n := 57) (t := σ.2.1 57 a) dX7_step_380 rfl lay_7 (by decide) fl7_65 ha rfl rfl (rc_F F1142 (Or.inl (by decide)) (by decide) (rc_o (by decide) (rfl))) ?_
              have g1147 : ((0 : Int) ≤ σ.2.1 57 a ∧ σ.2.1 57 a ≤ 11184800) ∧ ((T a).1 = 57 → σ.2.1 57 a ≤ 8) := wf_57 hw ha
              have g1147x := g1147.2
              replace g1147 := g1147.1
              clear g1147x
              refine tn_iload_n dX7_step_383 rfl 0 rfl ?_
              refine tn_callSN (M := m_X7_step) (pc := 384) (ix := 61) (M' := m_X11_put) (As := [.ref x1143, .int (iI (σ.2.1 57 a)), .int (iI z967)]) (rest := []) dX7_step_384 ok_X11_put stt_X11_put nl7_61 np_X11_put rfl (Nat.le_of_ble_eq_true rfl) (Nat.le_of_ble_eq_true rfl) rfl (k_X11_put (d + 3) (T := T) (σ := σ1136) (x := x1143) (i := σ.2.1 57 a) (y := z967) hk1145i (by omega) (by omega) (by omega) w1141 (nh_k hk1145 (by unfold HT; omega)) (vok_1 (by have q9 := hk1145; omega) (by omega))) (fun r1148 T1150 σ1149 gt1151 hp => ?_)
              obtain ⟨rfl, rfl, w1153, F1154⟩ := hp
              clear gt1151
              show Tn _ _ 387 T σ1149 [(3, .int (iI z967)), (2, .int (iI v35)), (1, .int (iI v6)), (0, .ref a)] [] _
              refine tn_iload_n dX7_step_387 rfl 1 rfl ?_
              refine tn_bipush dX7_step_388 (by decide) ?_
              refine tn_icmp_ne (tgt := 397) dX7_step_390 (by decide) ⟨by omega, by omega⟩ ⟨by decide, by decide⟩ (fun h1155 => ?_) (fun h1155 => absurd h1155 (by omega))
              refine tn_iconst dX7_step_397 ?_
              have q1156 : σ1149.2.1 57 a = σ.2.1 57 a := rc_F F1154 (Or.inl (by decide)) (by decide) (rc_F F1142 (Or.inl (by decide)) (by decide) (rc_o (by decide) (rfl)))
              exact tn_zret (v := 0) rfl (by decide) dX7_step_398 ⟨_, rfl, rfl, w1153, (((FrC.rfl.put (by decide) (by decide)).trans (FrC.sub F1142 (by decide))).trans (FrC.sub F1154 (by decide))), by omega, by omega, (((FA.rfl.put).trans f1139).trans (FA.of F1154 (by decide)))⟩
            · refine tn_tableIn (tgt := 213) (off := 145) dX7_step_68 (x := v35) ⟨by omega, by omega⟩ (by omega) (by omega) (by rw [h991]; rfl) (by decide) ?_
              refine tn_aload_n dX7_step_213 rfl 3 rfl ?_
              refine tn_aload_n dX7_step_214 rfl 3 rfl ?_
              refine tn_iload_n dX7_step_215 rfl 2 rfl ?_
              refine tn_iconst dX7_step_216 ?_
              refine tn_callV (M := m_X7_step) (pc := 217) (ix := 110) (ci := 7) (M' := m_X7_operand) (As := [.int (iI v6), .int (iI 3)]) (rest := [.ref a]) dX7_step_217 ok_X7_operand im_X7_operand se_X7_operand ml7_110 np_X7_operand rfl rfl ha rfl (Nat.le_of_ble_eq_true rfl) (Nat.le_of_ble_eq_true rfl) rfl (k_X7_operand (d + 2) (T := T) (σ := (sA 67 a (z965) σ)) (a := a) (k := v6) (c := 3) ha (by omega) (by decide) (hw.put (by decide) (by decide) (fo_67 (by omega))) (by rw [show (sA 67 a (z965) σ).2.1 69 a = _ from rc_o (by decide) (hx7)]; omega) (by omega)) (fun r1157 T1159 σ1158 gt1160 hp => ?_)
              obtain ⟨v1162, rfl, rfl, rfl, f1161⟩ := hp
              clear gt1160
              show Tn _ _ 220 T (sA 67 a (z965) σ) [(3, .int (iI z967)), (2, .int (iI v35)), (1, .int (iI v6)), (0, .ref a)] [.int (iI v1162), .ref a] _
              have q1167 : (sA 67 a (z965) σ).2.1 57 a = σ.2.1 57 a := rc_o (by decide) (rfl)
              refine tn_callV (M := m_X7_step) (pc := 220) (ix := 123) (ci := 7) (M' := m_X7_giveBack) (As := [.int (iI v1162)]) (rest := []) dX7_step_220 ok_X7_giveBack im_X7_giveBack se_X7_giveBack ml7_123 np_X7_giveBack rfl rfl ha rfl (Nat.le_of_ble_eq_true rfl) (Nat.le_of_ble_eq_true rfl) rfl (k_X7_giveBack (d + 1) (T := T) (σ := (sA 67 a (z965) σ)) (a := a) (n := v1162) ha hta (by omega) (hw.put (by decide) (by decide) (fo_67 (by omega))) ) (fun r1163 T1165 σ1164 gt1166 hp => ?_)
              obtain ⟨rfl, rfl, w1171, F1172, f1168, f1169⟩ := hp
              clear gt1166
              show Tn _ _ 223 T σ1164 [(3, .int (iI z967)), (2, .int (iI v35)), (1, .int (iI v6)), (0, .ref a)] [] _
              refine tn_iconst dX7_step_223 ?_
              have q1173 : σ1164.2.1 57 a = σ1164.2.1 57 a := rfl
              exact tn_zret (v := 0) rfl (by decide) dX7_step_224 ⟨_, rfl, rfl, w1171, ((FrC.rfl.put (by decide) (by decide)).trans (FrC.sub F1172 (by decide))), by omega, by omega, ((FA.rfl.put).trans f1169)⟩
            · refine tn_tableIn (tgt := 165) (off := 97) dX7_step_68 (x := v35) ⟨by omega, by omega⟩ (by omega) (by omega) (by rw [h991]; rfl) (by decide) ?_
              refine tn_aload_n dX7_step_165 rfl 3 rfl ?_
              refine tn_getR (ci := 7) (i := 14) (n := 69) (x := x8) dX7_step_166 rfl lay_7 (by decide) fl7_72 ha rfl rfl (rc_o (by decide) (hx7)) ?_
              refine tn_iload_n dX7_step_169 rfl 2 rfl ?_
              refine tn_bipush dX7_step_170 (by decide) ?_
              refine tn_callV (M := m_X7_step) (pc := 172) (ix := 117) (ci := 1) (M' := m_X1_get) (As := [.int (iI v6), .int (iI 12)]) (rest := []) dX7_step_172 ok_X1_get im_X1_get se_X1_get ml7_117 np_X1_get rfl rfl hk9o rfl (Nat.le_of_ble_eq_true rfl) (Nat.le_of_ble_eq_true rfl) rfl (k_X1_get (d + 3) (T := T) (σ := (sA 67 a (z965) σ)) (a := x8) (k := v6) (c := 12) hk9o (by omega) (by decide) (hw.put (by decide) (by decide) (fo_67 (by omega))) (by omega)) (fun r1174 T1176 σ1175 gt1177 hp => ?_)
              obtain ⟨v1179, rfl, rfl, rfl, f1178⟩ := hp
              clear gt1177
              show Tn _ _ 175 T (sA 67 a (z965) σ) [(3, .int (iI z967)), (2, .int (iI v35)), (1, .int (iI v6)), (0, .ref a)] [.int (iI v1179)] _
              refine tn_istore_n (L' := [(3, .int (iI v1179)), (2, .int (iI v35)), (1, .int (iI v6)), (0, .ref a)]) dX7_step_175 rfl (by decide) rfl ?_
              refine tn_goto (tgt := 375) dX7_step_176 (by decide) ?_
              refine tn_aload_n dX7_step_375 rfl 3 rfl ?_
              obtain ⟨x1180, hx1181, hk1182, hl1183⟩ : ∃ x : Nat, σ.2.1 60 a = (x : Int) ∧ AR T x 1 9 9 := wf_60 hw ha
              have hk1182i : IA T x1180 := by unfold IA; omega
              refine tn_getR (ci := 7) (i := 5) (n := 60) (x := x1180) dX7_step_376 rfl lay_7 (by decide) fl7_15 ha rfl rfl (rc_o (by decide) (hx1181)) ?_
              refine tn_aload_n dX7_step_379 rfl 3 rfl ?_
              refine tn_getI (ci := 7) (i := 2) (n := 57) (t := σ.2.1 57 a) dX7_step_380 rfl lay_7 (by decide) fl7_65 ha rfl rfl (rc_o (by decide) (rfl)) ?_
              have g1184 : ((0 : Int) ≤ σ.2.1 57 a ∧ σ.2.1 57 a ≤ 11184800) ∧ ((T a).1 = 57 → σ.2.1 57 a ≤ 8) := wf_57 hw ha
              have g1184x := g1184.2
              replace g1184 := g1184.1
              clear g1184x
              refine tn_iload_n dX7_step_383 rfl 0 rfl ?_
              refine tn_callSN (M := m_X7_step) (pc := 384) (ix := 61) (M' := m_X11_put) (As := [.ref x1180, .int (iI (σ.2.1 57 a)), .int (iI v1179)]) (rest := []) dX7_step_384 ok_X11_put stt_X11_put nl7_61 np_X11_put rfl (Nat.le_of_ble_eq_true rfl) (Nat.le_of_ble_eq_true rfl) rfl (k_X11_put (d + 3) (T := T) (σ := (sA 67 a (z965) σ)) (x := x1180) (i := σ.2.1 57 a) (y := v1179) hk1182i (by omega) (by omega) (by omega) (hw.put (by decide) (by decide) (fo_67 (by omega))) (nh_k hk1182 (by unfold HT; omega)) (vok_1 (by have q9 := hk1182; omega) (by omega))) (fun r1185 T1187 σ1186 gt1188 hp => ?_)
              obtain ⟨rfl, rfl, w1190, F1191⟩ := hp
              clear gt1188
              show Tn _ _ 387 T σ1186 [(3, .int (iI v1179)), (2, .int (iI v35)), (1, .int (iI v6)), (0, .ref a)] [] _
              refine tn_iload_n dX7_step_387 rfl 1 rfl ?_
              refine tn_bipush dX7_step_388 (by decide) ?_
              refine tn_icmp_ne (tgt := 397) dX7_step_390 (by decide) ⟨by omega, by omega⟩ ⟨by decide, by decide⟩ (fun h1192 => ?_) (fun h1192 => absurd h1192 (by omega))
              refine tn_iconst dX7_step_397 ?_
              have q1193 : σ1186.2.1 57 a = σ.2.1 57 a := rc_F F1191 (Or.inl (by decide)) (by decide) (rc_o (by decide) (rfl))
              exact tn_zret (v := 0) rfl (by decide) dX7_step_398 ⟨_, rfl, rfl, w1190, ((FrC.rfl.put (by decide) (by decide)).trans (FrC.sub F1191 (by decide))), by omega, by omega, ((FA.rfl.put).trans (FA.of F1191 (by decide)))⟩
            · refine tn_tableIn (tgt := 179) (off := 111) dX7_step_68 (x := v35) ⟨by omega, by omega⟩ (by omega) (by omega) (by rw [h991]; rfl) (by decide) ?_
              refine tn_aload_n dX7_step_179 rfl 3 rfl ?_
              refine tn_iload_n dX7_step_180 rfl 2 rfl ?_
              refine tn_iconst dX7_step_181 ?_
              refine tn_callV (M := m_X7_step) (pc := 182) (ix := 110) (ci := 7) (M' := m_X7_operand) (As := [.int (iI v6), .int (iI 3)]) (rest := []) dX7_step_182 ok_X7_operand im_X7_operand se_X7_operand ml7_110 np_X7_operand rfl rfl ha rfl (Nat.le_of_ble_eq_true rfl) (Nat.le_of_ble_eq_true rfl) rfl (k_X7_operand (d + 2) (T := T) (σ := (sA 67 a (z965) σ)) (a := a) (k := v6) (c := 3) ha (by omega) (by decide) (hw.put (by decide) (by decide) (fo_67 (by omega))) (by rw [show (sA 67 a (z965) σ).2.1 69 a = _ from rc_o (by decide) (hx7)]; omega) (by omega)) (fun r1194 T1196 σ1195 gt1197 hp => ?_)
              obtain ⟨v1199, rfl, rfl, rfl, f1198⟩ := hp
              clear gt1197
              show Tn _ _ 185 T (sA 67 a (z965) σ) [(3, .int (iI z967)), (2, .int (iI v35)), (1, .int (iI v6)), (0, .ref a)] [.int (iI v1199)] _
              refine tn_if_ne (tgt := 201) dX7_step_185 (by decide) ⟨by omega, by omega⟩ (fun h1200 => ?_) (fun h1200 => ?_)
              · refine tn_iload_n dX7_step_201 rfl 0 rfl ?_
                refine tn_istore_n (L' := [(3, .int (iI z967)), (2, .int (iI v35)), (1, .int (iI v6)), (0, .ref a)]) dX7_step_202 rfl (by decide) rfl ?_
                refine tn_goto (tgt := 375) dX7_step_203 (by decide) ?_
                refine tn_aload_n dX7_step_375 rfl 3 rfl ?_
                obtain ⟨x1201, hx1202, hk1203, hl1204⟩ : ∃ x : Nat, σ.2.1 60 a = (x : Int) ∧ AR T x 1 9 9 := wf_60 hw ha
                have hk1203i : IA T x1201 := by unfold IA; omega
                refine tn_getR (ci := 7) (i := 5) (n := 60) (x := x1201) dX7_step_376 rfl lay_7 (by decide) fl7_15 ha rfl rfl (rc_o (by decide) (hx1202)) ?_
                refine tn_aload_n dX7_step_379 rfl 3 rfl ?_
                refine tn_getI (ci := 7) (i := 2) (n := 57) (t := σ.2.1 57 a) dX7_step_380 rfl lay_7 (by decide) fl7_65 ha rfl rfl (rc_o (by decide) (rfl)) ?_
                have g1205 : ((0 : Int) ≤ σ.2.1 57 a ∧ σ.2.1 57 a ≤ 11184800) ∧ ((T a).1 = 57 → σ.2.1 57 a ≤ 8) := wf_57 hw ha
                have g1205x := g1205.2
                replace g1205 := g1205.1
                clear g1205x
                refine tn_iload_n dX7_step_383 rfl 0 rfl ?_
                refine tn_callSN (M := m_X7_step) (pc := 384) (ix := 61) (M' := m_X11_put) (As := [.ref x1201, .int (iI (σ.2.1 57 a)), .int (iI z967)]) (rest := []) dX7_step_384 ok_X11_put stt_X11_put nl7_61 np_X11_put rfl (Nat.le_of_ble_eq_true rfl) (Nat.le_of_ble_eq_true rfl) rfl (k_X11_put (d + 3) (T := T) (σ := (sA 67 a (z965) σ)) (x := x1201) (i := σ.2.1 57 a) (y := z967) hk1203i (by omega) (by omega) (by omega) (hw.put (by decide) (by decide) (fo_67 (by omega))) (nh_k hk1203 (by unfold HT; omega)) (vok_1 (by have q9 := hk1203; omega) (by omega))) (fun r1206 T1208 σ1207 gt1209 hp => ?_)
                obtain ⟨rfl, rfl, w1211, F1212⟩ := hp
                clear gt1209
                show Tn _ _ 387 T σ1207 [(3, .int (iI z967)), (2, .int (iI v35)), (1, .int (iI v6)), (0, .ref a)] [] _
                refine tn_iload_n dX7_step_387 rfl 1 rfl ?_
                refine tn_bipush dX7_step_388 (by decide) ?_
                refine tn_icmp_ne (tgt := 397) dX7_step_390 (by decide) ⟨by omega, by omega⟩ ⟨by decide, by decide⟩ (fun h1213 => ?_) (fun h1213 => absurd h1213 (by omega))
                refine tn_iconst dX7_step_397 ?_
                have q1214 : σ1207.2.1 57 a = σ.2.1 57 a := rc_F F1212 (Or.inl (by decide)) (by decide) (rc_o (by decide) (rfl))
                exact tn_zret (v := 0) rfl (by decide) dX7_step_398 ⟨_, rfl, rfl, w1211, ((FrC.rfl.put (by decide) (by decide)).trans (FrC.sub F1212 (by decide))), by omega, by omega, ((FA.rfl.put).trans (FA.of F1212 (by decide)))⟩
              · refine tn_aload_n dX7_step_188 rfl 3 rfl ?_
                refine tn_getR (ci := 7) (i := 14) (n := 69) (x := x8) dX7_step_189 rfl lay_7 (by decide) fl7_72 ha rfl rfl (rc_o (by decide) (hx7)) ?_
                refine tn_iload_n dX7_step_192 rfl 2 rfl ?_
                refine tn_bipush dX7_step_193 (by decide) ?_
                refine tn_callV (M := m_X7_step) (pc := 195) (ix := 117) (ci := 1) (M' := m_X1_get) (As := [.int (iI v6), .int (iI 12)]) (rest := []) dX7_step_195 ok_X1_get im_X1_get se_X1_get ml7_117 np_X1_get rfl rfl hk9o rfl (Nat.le_of_ble_eq_true rfl) (Nat.le_of_ble_eq_true rfl) rfl (k_X1_get (d + 3) (T := T) (σ := (sA 67 a (z965) σ)) (a := x8) (k := v6) (c := 12) hk9o (by omega) (by decide) (hw.put (by decide) (by decide) (fo_67 (by omega))) (by omega)) (fun r1215 T1217 σ1216 gt1218 hp => ?_)
                obtain ⟨v1220, rfl, rfl, rfl, f1219⟩ := hp
                clear gt1218
                show Tn _ _ 198 T (sA 67 a (z965) σ) [(3, .int (iI z967)), (2, .int (iI v35)), (1, .int (iI v6)), (0, .ref a)] [.int (iI v1220)] _
                refine tn_goto (tgt := 202) dX7_step_198 (by decide) ?_
                refine tn_istore_n (L' := [(3, .int (iI v1220)), (2, .int (iI v35)), (1, .int (iI v6)), (0, .ref a)]) dX7_step_202 rfl (by decide) rfl ?_
                refine tn_goto (tgt := 375) dX7_step_203 (by decide) ?_
                refine tn_aload_n dX7_step_375 rfl 3 rfl ?_
                obtain ⟨x1221, hx1222, hk1223, hl1224⟩ : ∃ x : Nat, σ.2.1 60 a = (x : Int) ∧ AR T x 1 9 9 := wf_60 hw ha
                have hk1223i : IA T x1221 := by unfold IA; omega
                refine tn_getR (ci := 7) (i := 5) (n := 60) (x := x1221) dX7_step_376 rfl lay_7 (by decide) fl7_15 ha rfl rfl (rc_o (by decide) (hx1222)) ?_
                refine tn_aload_n dX7_step_379 rfl 3 rfl ?_
                refine tn_getI (ci := 7) (i := 2) (n := 57) (t := σ.2.1 57 a) dX7_step_380 rfl lay_7 (by decide) fl7_65 ha rfl rfl (rc_o (by decide) (rfl)) ?_
                have g1225 : ((0 : Int) ≤ σ.2.1 57 a ∧ σ.2.1 57 a ≤ 11184800) ∧ ((T a).1 = 57 → σ.2.1 57 a ≤ 8) := wf_57 hw ha
                have g1225x := g1225.2
                replace g1225 := g1225.1
                clear g1225x
                refine tn_iload_n dX7_step_383 rfl 0 rfl ?_
                refine tn_callSN (M := m_X7_step) (pc := 384) (ix := 61) (M' := m_X11_put) (As := [.ref x1221, .int (iI (σ.2.1 57 a)), .int (iI v1220)]) (rest := []) dX7_step_384 ok_X11_put stt_X11_put nl7_61 np_X11_put rfl (Nat.le_of_ble_eq_true rfl) (Nat.le_of_ble_eq_true rfl) rfl (k_X11_put (d + 3) (T := T) (σ := (sA 67 a (z965) σ)) (x := x1221) (i := σ.2.1 57 a) (y := v1220) hk1223i (by omega) (by omega) (by omega) (hw.put (by decide) (by decide) (fo_67 (by omega))) (nh_k hk1223 (by unfold HT; omega)) (vok_1 (by have q9 := hk1223; omega) (by omega))) (fun r1226 T1228 σ1227 gt1229 hp => ?_)
                obtain ⟨rfl, rfl, w1231, F1232⟩ := hp
                clear gt1229
                show Tn _ _ 387 T σ1227 [(3, .int (iI v1220)), (2, .int (iI v35)), (1, .int (iI v6)), (0, .ref a)] [] _
                refine tn_iload_n dX7_step_387 rfl 1 rfl ?_
                refine tn_bipush dX7_step_388 (by decide) ?_
                refine tn_icmp_ne (tgt := 397) dX7_step_390 (by decide) ⟨by omega, by omega⟩ ⟨by decide, by decide⟩ (fun h1233 => ?_) (fun h1233 => absurd h1233 (by omega))
                refine tn_iconst dX7_step_397 ?_
                have q1234 : σ1227.2.1 57 a = σ.2.1 57 a := rc_F F1232 (Or.inl (by decide)) (by decide) (rc_o (by decide) (rfl))
                exact tn_zret (v := 0) rfl (by decide) dX7_step_398 ⟨_, rfl, rfl, w1231, ((FrC.rfl.put (by decide) (by decide)).trans (FrC.sub F1232 (by decide))), by omega, by omega, ((FA.rfl.put).trans (FA.of F1232 (by decide)))⟩
            · refine tn_tableIn (tgt := 206) (off := 138) dX7_step_68 (x := v35) ⟨by omega, by omega⟩ (by omega) (by omega) (by rw [h991]; rfl) (by decide) ?_
              refine tn_aload_n dX7_step_206 rfl 3 rfl ?_
              refine tn_iload_n dX7_step_207 rfl 2 rfl ?_
              have q1239 : (sA 67 a (z965) σ).2.1 57 a = σ.2.1 57 a := rc_o (by decide) (rfl)
              refine tn_callV (M := m_X7_step) (pc := 208) (ix := 120) (ci := 7) (M' := m_X7_callFrom) (As := [.int (iI v6)]) (rest := []) dX7_step_208 ok_X7_callFrom im_X7_callFrom se_X7_callFrom ml7_120 np_X7_callFrom rfl rfl ha rfl (Nat.le_of_ble_eq_true rfl) (Nat.le_of_ble_eq_true rfl) rfl (k_X7_callFrom (d) (T := T) (σ := (sA 67 a (z965) σ)) (a := a) (k := v6) ha hta (by omega) (hw.put (by decide) (by decide) (fo_67 (by omega))) (by rw [show (sA 67 a (z965) σ).2.1 69 a = _ from rc_o (by decide) (hx7)]; omega) (by rw [show (sA 67 a (z965) σ).2.1 57 a = σ.2.1 57 a from rc_o (by decide) (rfl)]; omega)) (fun r1235 T1237 σ1236 gt1238 hp => ?_)
              obtain ⟨rfl, rfl, w1243, F1244, f1240, f1241⟩ := hp
              clear gt1238
              show Tn _ _ 211 T σ1236 [(3, .int (iI z967)), (2, .int (iI v35)), (1, .int (iI v6)), (0, .ref a)] [] _
              refine tn_iconst dX7_step_211 ?_
              have q1245 : σ1236.2.1 57 a = σ1236.2.1 57 a := rfl
              exact tn_zret (v := 0) rfl (by decide) dX7_step_212 ⟨_, rfl, rfl, w1243, ((FrC.rfl.put (by decide) (by decide)).trans (FrC.sub F1244 (by decide))), by omega, by omega, ((FA.rfl.put).trans f1241)⟩
            · refine tn_tableIn (tgt := 225) (off := 157) dX7_step_68 (x := v35) ⟨by omega, by omega⟩ (by omega) (by omega) (by rw [h991]; rfl) (by decide) ?_
              refine tn_aload_n dX7_step_225 rfl 3 rfl ?_
              obtain ⟨x1246, hx1247, hk1248, hl1249⟩ : ∃ x : Nat, σ.2.1 62 a = (x : Int) ∧ AR T x 1 108 108 := wf_62 hw ha
              have hk1248i : IA T x1246 := by unfold IA; omega
              refine tn_getR (ci := 7) (i := 7) (n := 62) (x := x1246) dX7_step_226 rfl lay_7 (by decide) fl7_21 ha rfl rfl (rc_o (by decide) (hx1247)) ?_
              refine tn_aload_n dX7_step_229 rfl 3 rfl ?_
              refine tn_getI (ci := 7) (i := 2) (n := 57) (t := σ.2.1 57 a) dX7_step_230 rfl lay_7 (by decide) fl7_65 ha rfl rfl (rc_o (by decide) (rfl)) ?_
              have g1250 : ((0 : Int) ≤ σ.2.1 57 a ∧ σ.2.1 57 a ≤ 11184800) ∧ ((T a).1 = 57 → σ.2.1 57 a ≤ 8) := wf_57 hw ha
              have g1250x := g1250.2
              replace g1250 := g1250.1
              clear g1250x
              refine tn_bipush dX7_step_233 (by decide) ?_
              refine tn_imul dX7_step_235 ?_
              refine tn_aload_n dX7_step_236 rfl 3 rfl ?_
              refine tn_getR (ci := 7) (i := 14) (n := 69) (x := x8) dX7_step_237 rfl lay_7 (by decide) fl7_72 ha rfl rfl (rc_o (by decide) (hx7)) ?_
              refine tn_iload_n dX7_step_240 rfl 2 rfl ?_
              refine tn_iconst dX7_step_241 ?_
              refine tn_callV (M := m_X7_step) (pc := 242) (ix := 117) (ci := 1) (M' := m_X1_get) (As := [.int (iI v6), .int (iI 2)]) (rest := [.int (iI ((σ.2.1 57 a) * 12)), .ref x1246]) dX7_step_242 ok_X1_get im_X1_get se_X1_get ml7_117 np_X1_get rfl rfl hk9o rfl (Nat.le_of_ble_eq_true rfl) (Nat.le_of_ble_eq_true rfl) rfl (k_X1_get (d + 3) (T := T) (σ := (sA 67 a (z965) σ)) (a := x8) (k := v6) (c := 2) hk9o (by omega) (by decide) (hw.put (by decide) (by decide) (fo_67 (by omega))) (by omega)) (fun r1251 T1253 σ1252 gt1254 hp => ?_)
              obtain ⟨v1256, rfl, rfl, rfl, f1255⟩ := hp
              clear gt1254
              show Tn _ _ 245 T (sA 67 a (z965) σ) [(3, .int (iI z967)), (2, .int (iI v35)), (1, .int (iI v6)), (0, .ref a)] [.int (iI v1256), .int (iI ((σ.2.1 57 a) * 12)), .ref x1246] _
              refine tn_iadd dX7_step_245 ?_
              refine tn_any (fun z1257 g1258 => ?_)
              have g1258r : -2147483648 ≤ z1257 ∧ z1257 ≤ 2147483647 := g1258
              refine tn_aload_n dX7_step_246 rfl 3 rfl ?_
              refine tn_getR (ci := 7) (i := 14) (n := 69) (x := x8) dX7_step_247 rfl lay_7 (by decide) fl7_72 ha rfl rfl (rc_o (by decide) (hx7)) ?_
              refine tn_iload_n dX7_step_250 rfl 2 rfl ?_
              refine tn_iconst dX7_step_251 ?_
              refine tn_callV (M := m_X7_step) (pc := 252) (ix := 117) (ci := 1) (M' := m_X1_get) (As := [.int (iI v6), .int (iI 1)]) (rest := [.int (iI z1257), .ref x1246]) dX7_step_252 ok_X1_get im_X1_get se_X1_get ml7_117 np_X1_get rfl rfl hk9o rfl (Nat.le_of_ble_eq_true rfl) (Nat.le_of_ble_eq_true rfl) rfl (k_X1_get (d + 3) (T := T) (σ := (sA 67 a (z965) σ)) (a := x8) (k := v6) (c := 1) hk9o (by omega) (by decide) (hw.put (by decide) (by decide) (fo_67 (by omega))) (by omega)) (fun r1259 T1261 σ1260 gt1262 hp => ?_)
              obtain ⟨v1264, rfl, rfl, rfl, f1263⟩ := hp
              clear gt1262
              show Tn _ _ 255 T (sA 67 a (z965) σ) [(3, .int (iI z967)), (2, .int (iI v35)), (1, .int (iI v6)), (0, .ref a)] [.int (iI v1264), .int (iI z1257), .ref x1246] _
              refine tn_callSN (M := m_X7_step) (pc := 255) (ix := 61) (M' := m_X11_put) (As := [.ref x1246, .int (iI z1257), .int (iI v1264)]) (rest := []) dX7_step_255 ok_X11_put stt_X11_put nl7_61 np_X11_put rfl (Nat.le_of_ble_eq_true rfl) (Nat.le_of_ble_eq_true rfl) rfl (k_X11_put (d + 3) (T := T) (σ := (sA 67 a (z965) σ)) (x := x1246) (i := z1257) (y := v1264) hk1248i (by omega) (by omega) (by omega) (hw.put (by decide) (by decide) (fo_67 (by omega))) (nh_k hk1248 (by unfold HT; omega)) (vok_1 (by have q9 := hk1248; omega) (by omega))) (fun r1265 T1267 σ1266 gt1268 hp => ?_)
              obtain ⟨rfl, rfl, w1270, F1271⟩ := hp
              clear gt1268
              show Tn _ _ 258 T σ1266 [(3, .int (iI z967)), (2, .int (iI v35)), (1, .int (iI v6)), (0, .ref a)] [] _
              refine tn_goto (tgt := 375) dX7_step_258 (by decide) ?_
              refine tn_aload_n dX7_step_375 rfl 3 rfl ?_
              obtain ⟨x1272, hx1273, hk1274, hl1275⟩ : ∃ x : Nat, σ.2.1 60 a = (x : Int) ∧ AR T x 1 9 9 := wf_60 hw ha
              have hk1274i : IA T x1272 := by unfold IA; omega
              refine tn_getR (ci := 7) (i := 5) (n := 60) (x := x1272) dX7_step_376 rfl lay_7 (by decide) fl7_15 ha rfl rfl (rc_F F1271 (Or.inl (by decide)) (by decide) (rc_o (by decide) (hx1273))) ?_
              refine tn_aload_n dX7_step_379 rfl 3 rfl ?_
              refine tn_getI (ci := 7) (i := 2) (n := 57) (t := σ.2.1 57 a) dX7_step_380 rfl lay_7 (by decide) fl7_65 ha rfl rfl (rc_F F1271 (Or.inl (by decide)) (by decide) (rc_o (by decide) (rfl))) ?_
              refine tn_iload_n dX7_step_383 rfl 0 rfl ?_
              refine tn_callSN (M := m_X7_step) (pc := 384) (ix := 61) (M' := m_X11_put) (As := [.ref x1272, .int (iI (σ.2.1 57 a)), .int (iI z967)]) (rest := []) dX7_step_384 ok_X11_put stt_X11_put nl7_61 np_X11_put rfl (Nat.le_of_ble_eq_true rfl) (Nat.le_of_ble_eq_true rfl) rfl (k_X11_put (d + 3) (T := T) (σ := σ1266) (x := x1272) (i := σ.2.1 57 a) (y := z967) hk1274i (by omega) (by omega) (by omega) w1270 (nh_k hk1274 (by unfold HT; omega)) (vok_1 (by have q9 := hk1274; omega) (by omega))) (fun r1276 T1278 σ1277 gt1279 hp => ?_)
              obtain ⟨rfl, rfl, w1281, F1282⟩ := hp
              clear gt1279
              show Tn _ _ 387 T σ1277 [(3, .int (iI z967)), (2, .int (iI v35)), (1, .int (iI v6)), (0, .ref a)] [] _
              refine tn_iload_n dX7_step_387 rfl 1 rfl ?_
              refine tn_bipush dX7_step_388 (by decide) ?_
              refine tn_icmp_ne (tgt := 397) dX7_step_390 (by decide) ⟨by omega, by omega⟩ ⟨by decide, by decide⟩ (fun h1283 => absurd h1283 (by omega)) (fun h1283 => ?_)
              refine tn_iconst dX7_step_393 ?_
              refine tn_goto (tgt := 398) dX7_step_394 (by decide) ?_
              have q1284 : σ1277.2.1 57 a = σ.2.1 57 a := rc_F F1282 (Or.inl (by decide)) (by decide) (rc_F F1271 (Or.inl (by decide)) (by decide) (rc_o (by decide) (rfl)))
              exact tn_zret (v := 1) rfl (by decide) dX7_step_398 ⟨_, rfl, rfl, w1281, (((FrC.rfl.put (by decide) (by decide)).trans (FrC.sub F1271 (by decide))).trans (FrC.sub F1282 (by decide))), by omega, by omega, (((FA.rfl.put).trans (FA.of F1271 (by decide))).trans (FA.of F1282 (by decide)))⟩
            · refine tn_tableIn (tgt := 369) (off := 301) dX7_step_68 (x := v35) ⟨by omega, by omega⟩ (by omega) (by omega) (by rw [h991]; rfl) (by decide) ?_
              refine tn_aload_n dX7_step_369 rfl 3 rfl ?_
              refine tn_iload_n dX7_step_370 rfl 2 rfl ?_
              refine tn_iload_n dX7_step_371 rfl 1 rfl ?_
              refine tn_callV (M := m_X7_step) (pc := 372) (ix := 129) (ci := 7) (M' := m_X7_reckonAt) (As := [.int (iI v6), .int (iI v35)]) (rest := []) dX7_step_372 ok_X7_reckonAt im_X7_reckonAt se_X7_reckonAt ml7_129 np_X7_reckonAt rfl rfl ha rfl (Nat.le_of_ble_eq_true rfl) (Nat.le_of_ble_eq_true rfl) rfl (k_X7_reckonAt (d + 1) (T := T) (σ := (sA 67 a (z965) σ)) (a := a) (k := v6) (e := v35) ha (by omega) (by omega) (hw.put (by decide) (by decide) (fo_67 (by omega))) (by rw [show (sA 67 a (z965) σ).2.1 69 a = _ from rc_o (by decide) (hx7)]; omega)) (fun r1285 T1287 σ1286 gt1288 hp => ?_)
              obtain ⟨rfl, rfl, w1290, F1291⟩ := hp
              clear gt1288
              show Tn _ _ 375 T σ1286 [(3, .int (iI z967)), (2, .int (iI v35)), (1, .int (iI v6)), (0, .ref a)] [] _
              refine tn_aload_n dX7_step_375 rfl 3 rfl ?_
              obtain ⟨x1292, hx1293, hk1294, hl1295⟩ : ∃ x : Nat, σ.2.1 60 a = (x : Int) ∧ AR T x 1 9 9 := wf_60 hw ha
              have hk1294i : IA T x1292 := by unfold IA; omega
              refine tn_getR (ci := 7) (i := 5) (n := 60) (x := x1292) dX7_step_376 rfl lay_7 (by decide) fl7_15 ha rfl rfl (rc_F F1291 (Or.inl (by decide)) (by decide) (rc_o (by decide) (hx1293))) ?_
              refine tn_aload_n dX7_step_379 rfl 3 rfl ?_
              refine tn_getI (ci := 7) (i := 2) (n := 57) (t := σ.2.1 57 a) dX7_step_380 rfl lay_7 (by decide) fl7_65 ha rfl rfl (rc_F F1291 (Or.inl (by decide)) (by decide) (rc_o (by decide) (rfl))) ?_
              have g1296 : ((0 : Int) ≤ σ.2.1 57 a ∧ σ.2.1 57 a ≤ 11184800) ∧ ((T a).1 = 57 → σ.2.1 57 a ≤ 8) := wf_57 hw ha
              have g1296x := g1296.2
              replace g1296 := g1296.1
              clear g1296x
              refine tn_iload_n dX7_step_383 rfl 0 rfl ?_
              refine tn_callSN (M := m_X7_step) (pc := 384) (ix := 61) (M' := m_X11_put) (As := [.ref x1292, .int (iI (σ.2.1 57 a)), .int (iI z967)]) (rest := []) dX7_step_384 ok_X11_put stt_X11_put nl7_61 np_X11_put rfl (Nat.le_of_ble_eq_true rfl) (Nat.le_of_ble_eq_true rfl) rfl (k_X11_put (d + 3) (T := T) (σ := σ1286) (x := x1292) (i := σ.2.1 57 a) (y := z967) hk1294i (by omega) (by omega) (by omega) w1290 (nh_k hk1294 (by unfold HT; omega)) (vok_1 (by have q9 := hk1294; omega) (by omega))) (fun r1297 T1299 σ1298 gt1300 hp => ?_)
              obtain ⟨rfl, rfl, w1302, F1303⟩ := hp
              clear gt1300
              show Tn _ _ 387 T σ1298 [(3, .int (iI z967)), (2, .int (iI v35)), (1, .int (iI v6)), (0, .ref a)] [] _
              refine tn_iload_n dX7_step_387 rfl 1 rfl ?_
              refine tn_bipush dX7_step_388 (by decide) ?_
              refine tn_icmp_ne (tgt := 397) dX7_step_390 (by decide) ⟨by omega, by omega⟩ ⟨by decide, by decide⟩ (fun h1304 => ?_) (fun h1304 => absurd h1304 (by omega))
              refine tn_iconst dX7_step_397 ?_
              have q1305 : σ1298.2.1 57 a = σ.2.1 57 a := rc_F F1303 (Or.inl (by decide)) (by decide) (rc_F F1291 (Or.inl (by decide)) (by decide) (rc_o (by decide) (rfl)))
              exact tn_zret (v := 0) rfl (by decide) dX7_step_398 ⟨_, rfl, rfl, w1302, (((FrC.rfl.put (by decide) (by decide)).trans (FrC.sub F1291 (by decide))).trans (FrC.sub F1303 (by decide))), by omega, by omega, (((FA.rfl.put).trans (FA.of F1291 (by decide))).trans (FA.of F1303 (by decide)))⟩
            · refine tn_tableIn (tgt := 369) (off := 301) dX7_step_68 (x := v35) ⟨by omega, by omega⟩ (by omega) (by omega) (by rw [h991]; rfl) (by decide) ?_
              refine tn_aload_n dX7_step_369 rfl 3 rfl ?_
              refine tn_iload_n dX7_step_370 rfl 2 rfl ?_
              refine tn_iload_n dX7_step_371 rfl 1 rfl ?_
              refine tn_callV (M := m_X7_step) (pc := 372) (ix := 129) (ci := 7) (M' := m_X7_reckonAt) (As := [.int (iI v6), .int (iI v35)]) (rest := []) dX7_step_372 ok_X7_reckonAt im_X7_reckonAt se_X7_reckonAt ml7_129 np_X7_reckonAt rfl rfl ha rfl (Nat.le_of_ble_eq_true rfl) (Nat.le_of_ble_eq_true rfl) rfl (k_X7_reckonAt (d + 1) (T := T) (σ := (sA 67 a (z965) σ)) (a := a) (k := v6) (e := v35) ha (by omega) (by omega) (hw.put (by decide) (by decide) (fo_67 (by omega))) (by rw [show (sA 67 a (z965) σ).2.1 69 a = _ from rc_o (by decide) (hx7)]; omega)) (fun r1306 T1308 σ1307 gt1309 hp => ?_)
              obtain ⟨rfl, rfl, w1311, F1312⟩ := hp
              clear gt1309
              show Tn _ _ 375 T σ1307 [(3, .int (iI z967)), (2, .int (iI v35)), (1, .int (iI v6)), (0, .ref a)] [] _
              refine tn_aload_n dX7_step_375 rfl 3 rfl ?_
              obtain ⟨x1313, hx1314, hk1315, hl1316⟩ : ∃ x : Nat, σ.2.1 60 a = (x : Int) ∧ AR T x 1 9 9 := wf_60 hw ha
              have hk1315i : IA T x1313 := by unfold IA; omega
              refine tn_getR (ci := 7) (i := 5) (n := 60) (x := x1313) dX7_step_376 rfl lay_7 (by decide) fl7_15 ha rfl rfl (rc_F F1312 (Or.inl (by decide)) (by decide) (rc_o (by decide) (hx1314))) ?_
              refine tn_aload_n dX7_step_379 rfl 3 rfl ?_
              refine tn_getI (ci := 7) (i := 2) (n := 57) (t := σ.2.1 57 a) dX7_step_380 rfl lay_7 (by decide) fl7_65 ha rfl rfl (rc_F F1312 (Or.inl (by decide)) (by decide) (rc_o (by decide) (rfl))) ?_
              have g1317 : ((0 : Int) ≤ σ.2.1 57 a ∧ σ.2.1 57 a ≤ 11184800) ∧ ((T a).1 = 57 → σ.2.1 57 a ≤ 8) := wf_57 hw ha
              have g1317x := g1317.2
              replace g1317 := g1317.1
              clear g1317x
              refine tn_iload_n dX7_step_383 rfl 0 rfl ?_
              refine tn_callSN (M := m_X7_step) (pc := 384) (ix := 61) (M' := m_X11_put) (As := [.ref x1313, .int (iI (σ.2.1 57 a)), .int (iI z967)]) (rest := []) dX7_step_384 ok_X11_put stt_X11_put nl7_61 np_X11_put rfl (Nat.le_of_ble_eq_true rfl) (Nat.le_of_ble_eq_true rfl) rfl (k_X11_put (d + 3) (T := T) (σ := σ1307) (x := x1313) (i := σ.2.1 57 a) (y := z967) hk1315i (by omega) (by omega) (by omega) w1311 (nh_k hk1315 (by unfold HT; omega)) (vok_1 (by have q9 := hk1315; omega) (by omega))) (fun r1318 T1320 σ1319 gt1321 hp => ?_)
              obtain ⟨rfl, rfl, w1323, F1324⟩ := hp
              clear gt1321
              show Tn _ _ 387 T σ1319 [(3, .int (iI z967)), (2, .int (iI v35)), (1, .int (iI v6)), (0, .ref a)] [] _
              refine tn_iload_n dX7_step_387 rfl 1 rfl ?_
              refine tn_bipush dX7_step_388 (by decide) ?_
              refine tn_icmp_ne (tgt := 397) dX7_step_390 (by decide) ⟨by omega, by omega⟩ ⟨by decide, by decide⟩ (fun h1325 => ?_) (fun h1325 => absurd h1325 (by omega))
              refine tn_iconst dX7_step_397 ?_
              have q1326 : σ1319.2.1 57 a = σ.2.1 57 a := rc_F F1324 (Or.inl (by decide)) (by decide) (rc_F F1312 (Or.inl (by decide)) (by decide) (rc_o (by decide) (rfl)))
              exact tn_zret (v := 0) rfl (by decide) dX7_step_398 ⟨_, rfl, rfl, w1323, (((FrC.rfl.put (by decide) (by decide)).trans (FrC.sub F1312 (by decide))).trans (FrC.sub F1324 (by decide))), by omega, by omega, (((FA.rfl.put).trans (FA.of F1312 (by decide))).trans (FA.of F1324 (by decide)))⟩
            · refine tn_tableIn (tgt := 261) (off := 193) dX7_step_68 (x := v35) ⟨by omega, by omega⟩ (by omega) (by omega) (by rw [h991]; rfl) (by decide) ?_
              refine tn_aload_n dX7_step_261 rfl 3 rfl ?_
              refine tn_dup dX7_step_262 rfl ?_
              refine tn_getI (ci := 7) (i := 3) (n := 58) (t := σ.2.1 58 a) dX7_step_263 rfl lay_7 (by decide) fl7_38 ha rfl rfl (rc_o (by decide) (rfl)) ?_
              refine tn_iconst dX7_step_266 ?_
              refine tn_iadd dX7_step_267 ?_
              refine tn_putV (ci := 7) (i := 3) (n := 58) (r := false) (v := (σ.2.1 58 a) + 1) tyX7 tyX7_ok nmX7 dX7_step_268 rfl lay_7 (by decide) fl7_38 rfl (tyX7_ok 3 (by decide)) rfl rfl rfl ha rfl rfl ?_
              refine tn_aload_n dX7_step_271 rfl 3 rfl ?_
              obtain ⟨x1327, hx1328, hl1330, hk1329a, hk1329b⟩ := wf_61 hw ha
              have hk1329 : (T x1327).1 = 1 := hk1329b (by omega)
              clear hk1329a hk1329b
              have hk1329i : IA T x1327 := by unfold IA; omega
              refine tn_getR (ci := 7) (i := 6) (n := 61) (x := x1327) dX7_step_272 rfl lay_7 (by decide) fl7_18 ha rfl rfl (rc_o (by decide) (rc_o (by decide) (hx1328))) ?_
              refine tn_aload_n dX7_step_275 rfl 3 rfl ?_
              refine tn_getI (ci := 7) (i := 2) (n := 57) (t := σ.2.1 57 a) dX7_step_276 rfl lay_7 (by decide) fl7_65 ha rfl rfl (rc_o (by decide) (rc_o (by decide) (rfl))) ?_
              have g1331 : ((0 : Int) ≤ σ.2.1 57 a ∧ σ.2.1 57 a ≤ 11184800) ∧ ((T a).1 = 57 → σ.2.1 57 a ≤ 8) := wf_57 hw ha
              have g1331x := g1331.2
              replace g1331 := g1331.1
              clear g1331x
              refine tn_aload_n dX7_step_279 rfl 3 rfl ?_
              refine tn_getR (ci := 7) (i := 14) (n := 69) (x := x8) dX7_step_280 rfl lay_7 (by decide) fl7_72 ha rfl rfl (rc_o (by decide) (rc_o (by decide) (hx7))) ?_
              refine tn_iload_n dX7_step_283 rfl 2 rfl ?_
              refine tn_iconst dX7_step_284 ?_
              refine tn_callV (M := m_X7_step) (pc := 285) (ix := 117) (ci := 1) (M' := m_X1_get) (As := [.int (iI v6), .int (iI 1)]) (rest := [.int (iI (σ.2.1 57 a)), .ref x1327]) dX7_step_285 ok_X1_get im_X1_get se_X1_get ml7_117 np_X1_get rfl rfl hk9o rfl (Nat.le_of_ble_eq_true rfl) (Nat.le_of_ble_eq_true rfl) rfl (k_X1_get (d + 3) (T := T) (σ := (sA 58 a ((σ.2.1 58 a) + 1) (sA 67 a (z965) σ))) (a := x8) (k := v6) (c := 1) hk9o (by omega) (by decide) ((hw.put (by decide) (by decide) (fo_67 (by omega))).put (by decide) (by decide) (fo_58 (by omega))) (by omega)) (fun r1332 T1334 σ1333 gt1335 hp => ?_)
              obtain ⟨v1337, rfl, rfl, rfl, f1336⟩ := hp
              clear gt1335
              show Tn _ _ 288 T (sA 58 a ((σ.2.1 58 a) + 1) (sA 67 a (z965) σ)) [(3, .int (iI z967)), (2, .int (iI v35)), (1, .int (iI v6)), (0, .ref a)] [.int (iI v1337), .int (iI (σ.2.1 57 a)), .ref x1327] _
              refine tn_callSN (M := m_X7_step) (pc := 288) (ix := 61) (M' := m_X11_put) (As := [.ref x1327, .int (iI (σ.2.1 57 a)), .int (iI v1337)]) (rest := []) dX7_step_288 ok_X11_put stt_X11_put nl7_61 np_X11_put rfl (Nat.le_of_ble_eq_true rfl) (Nat.le_of_ble_eq_true rfl) rfl (k_X11_put (d + 3) (T := T) (σ := (sA 58 a ((σ.2.1 58 a) + 1) (sA 67 a (z965) σ))) (x := x1327) (i := σ.2.1 57 a) (y := v1337) hk1329i (by omega) (by omega) (by omega) ((hw.put (by decide) (by decide) (fo_67 (by omega))).put (by decide) (by decide) (fo_58 (by omega))) (nh_k hk1329 (by unfold HT; omega)) (vok_1 (by have q9 := hk1329; omega) (by omega))) (fun r1338 T1340 σ1339 gt1341 hp => ?_)
              obtain ⟨rfl, rfl, w1343, F1344⟩ := hp
              clear gt1341
              show Tn _ _ 291 T σ1339 [(3, .int (iI z967)), (2, .int (iI v35)), (1, .int (iI v6)), (0, .ref a)] [] _
              refine tn_aload_n dX7_step_291 rfl 3 rfl ?_
              obtain ⟨x1345, hx1346, hk1347, hl1348⟩ : ∃ x : Nat, σ.2.1 62 a = (x : Int) ∧ AR T x 1 108 108 := wf_62 hw ha
              have hk1347i : IA T x1345 := by unfold IA; omega
              refine tn_getR (ci := 7) (i := 7) (n := 62) (x := x1345) dX7_step_292 rfl lay_7 (by decide) fl7_21 ha rfl rfl (rc_F F1344 (Or.inl (by decide)) (by decide) (rc_o (by decide) (rc_o (by decide) (hx1346)))) ?_
              refine tn_aload_n dX7_step_295 rfl 3 rfl ?_
              refine tn_getI (ci := 7) (i := 2) (n := 57) (t := σ.2.1 57 a) dX7_step_296 rfl lay_7 (by decide) fl7_65 ha rfl rfl (rc_F F1344 (Or.inl (by decide)) (by decide) (rc_o (by decide) (rc_o (by decide) (rfl)))) ?_
              refine tn_bipush dX7_step_299 (by decide) ?_
              refine tn_imul dX7_step_301 ?_
              refine tn_aload_n dX7_step_302 rfl 3 rfl ?_
              refine tn_getR (ci := 7) (i := 14) (n := 69) (x := x8) dX7_step_303 rfl lay_7 (by decide) fl7_72 ha rfl rfl (rc_F F1344 (Or.inl (by decide)) (by decide) (rc_o (by decide) (rc_o (by decide) (hx7)))) ?_
              refine tn_iload_n dX7_step_306 rfl 2 rfl ?_
              refine tn_iconst dX7_step_307 ?_
              refine tn_callV (M := m_X7_step) (pc := 308) (ix := 117) (ci := 1) (M' := m_X1_get) (As := [.int (iI v6), .int (iI 1)]) (rest := [.int (iI ((σ.2.1 57 a) * 12)), .ref x1345]) dX7_step_308 ok_X1_get im_X1_get se_X1_get ml7_117 np_X1_get rfl rfl hk9o rfl (Nat.le_of_ble_eq_true rfl) (Nat.le_of_ble_eq_true rfl) rfl (k_X1_get (d + 3) (T := T) (σ := σ1339) (a := x8) (k := v6) (c := 1) hk9o (by omega) (by decide) w1343 (by omega)) (fun r1349 T1351 σ1350 gt1352 hp => ?_)
              obtain ⟨v1354, rfl, rfl, rfl, f1353⟩ := hp
              clear gt1352
              show Tn _ _ 311 T σ1339 [(3, .int (iI z967)), (2, .int (iI v35)), (1, .int (iI v6)), (0, .ref a)] [.int (iI v1354), .int (iI ((σ.2.1 57 a) * 12)), .ref x1345] _
              refine tn_iadd dX7_step_311 ?_
              refine tn_any (fun z1355 g1356 => ?_)
              have g1356r : -2147483648 ≤ z1355 ∧ z1355 ≤ 2147483647 := g1356
              refine tn_iconst dX7_step_312 ?_
              refine tn_callSN (M := m_X7_step) (pc := 313) (ix := 61) (M' := m_X11_put) (As := [.ref x1345, .int (iI z1355), .int (iI 0)]) (rest := []) dX7_step_313 ok_X11_put stt_X11_put nl7_61 np_X11_put rfl (Nat.le_of_ble_eq_true rfl) (Nat.le_of_ble_eq_true rfl) rfl (k_X11_put (d + 3) (T := T) (σ := σ1339) (x := x1345) (i := z1355) (y := 0) hk1347i (by omega) (by omega) (by decide) w1343 (nh_k hk1347 (by unfold HT; omega)) vok_0) (fun r1357 T1359 σ1358 gt1360 hp => ?_)
              obtain ⟨rfl, rfl, w1362, F1363⟩ := hp
              clear gt1360
              show Tn _ _ 316 T σ1358 [(3, .int (iI z967)), (2, .int (iI v35)), (1, .int (iI v6)), (0, .ref a)] [] _
              refine tn_goto (tgt := 375) dX7_step_316 (by decide) ?_
              refine tn_aload_n dX7_step_375 rfl 3 rfl ?_
              obtain ⟨x1364, hx1365, hk1366, hl1367⟩ : ∃ x : Nat, σ.2.1 60 a = (x : Int) ∧ AR T x 1 9 9 := wf_60 hw ha
              have hk1366i : IA T x1364 := by unfold IA; omega
              refine tn_getR (ci := 7) (i := 5) (n := 60) (x := x1364) dX7_step_376 rfl lay_7 (by decide) fl7_15 ha rfl rfl (rc_F F1363 (Or.inl (by decide)) (by decide) (rc_F F1344 (Or.inl (by decide)) (by decide) (rc_o (by decide) (rc_o (by decide) (hx1365))))) ?_
              refine tn_aload_n dX7_step_379 rfl 3 rfl ?_
              refine tn_getI (ci := 7) (i := 2) (n := 57) (t := σ.2.1 57 a) dX7_step_380 rfl lay_7 (by decide) fl7_65 ha rfl rfl (rc_F F1363 (Or.inl (by decide)) (by decide) (rc_F F1344 (Or.inl (by decide)) (by decide) (rc_o (by decide) (rc_o (by decide) (rfl))))) ?_
              refine tn_iload_n dX7_step_383 rfl 0 rfl ?_
              refine tn_callSN (M := m_X7_step) (pc := 384) (ix := 61) (M' := m_X11_put) (As := [.ref x1364, .int (iI (σ.2.1 57 a)), .int (iI z967)]) (rest := []) dX7_step_384 ok_X11_put stt_X11_put nl7_61 np_X11_put rfl (Nat.le_of_ble_eq_true rfl) (Nat.le_of_ble_eq_true rfl) rfl (k_X11_put (d + 3) (T := T) (σ := σ1358) (x := x1364) (i := σ.2.1 57 a) (y := z967) hk1366i (by omega) (by omega) (by omega) w1362 (nh_k hk1366 (by unfold HT; omega)) (vok_1 (by have q9 := hk1366; omega) (by omega))) (fun r1368 T1370 σ1369 gt1371 hp => ?_)
              obtain ⟨rfl, rfl, w1373, F1374⟩ := hp
              clear gt1371
              show Tn _ _ 387 T σ1369 [(3, .int (iI z967)), (2, .int (iI v35)), (1, .int (iI v6)), (0, .ref a)] [] _
              refine tn_iload_n dX7_step_387 rfl 1 rfl ?_
              refine tn_bipush dX7_step_388 (by decide) ?_
              refine tn_icmp_ne (tgt := 397) dX7_step_390 (by decide) ⟨by omega, by omega⟩ ⟨by decide, by decide⟩ (fun h1375 => ?_) (fun h1375 => absurd h1375 (by omega))
              refine tn_iconst dX7_step_397 ?_
              have q1376 : σ1369.2.1 57 a = σ.2.1 57 a := rc_F F1374 (Or.inl (by decide)) (by decide) (rc_F F1363 (Or.inl (by decide)) (by decide) (rc_F F1344 (Or.inl (by decide)) (by decide) (rc_o (by decide) (rc_o (by decide) (rfl)))))
              exact tn_zret (v := 0) rfl (by decide) dX7_step_398 ⟨_, rfl, rfl, w1373, (((((FrC.rfl.put (by decide) (by decide)).put (by decide) (by decide)).trans (FrC.sub F1344 (by decide))).trans (FrC.sub F1363 (by decide))).trans (FrC.sub F1374 (by decide))), by omega, by omega, (((((FA.rfl.put).put).trans (FA.of F1344 (by decide))).trans (FA.of F1363 (by decide))).trans (FA.of F1374 (by decide)))⟩
            · refine tn_tableIn (tgt := 319) (off := 251) dX7_step_68 (x := v35) ⟨by omega, by omega⟩ (by omega) (by omega) (by rw [h991]; rfl) (by decide) ?_
              refine tn_aload_n dX7_step_319 rfl 3 rfl ?_
              refine tn_dup dX7_step_320 rfl ?_
              refine tn_getI (ci := 7) (i := 3) (n := 58) (t := σ.2.1 58 a) dX7_step_321 rfl lay_7 (by decide) fl7_38 ha rfl rfl (rc_o (by decide) (rfl)) ?_
              refine tn_iconst dX7_step_324 ?_
              refine tn_isub dX7_step_325 ?_
              refine tn_any (fun z1377 g1378 => ?_)
              have g1378r : -2147483648 ≤ z1377 ∧ z1377 ≤ 2147483647 := g1378
              refine tn_putV (ci := 7) (i := 3) (n := 58) (r := false) (v := z1377) tyX7 tyX7_ok nmX7 dX7_step_326 rfl lay_7 (by decide) fl7_38 rfl (tyX7_ok 3 (by decide)) rfl rfl rfl ha rfl rfl ?_
              refine tn_aload_n dX7_step_329 rfl 3 rfl ?_
              obtain ⟨x1379, hx1380, hl1382, hk1381a, hk1381b⟩ := wf_61 hw ha
              have hk1381 : (T x1379).1 = 1 := hk1381b (by omega)
              clear hk1381a hk1381b
              have hk1381i : IA T x1379 := by unfold IA; omega
              refine tn_getR (ci := 7) (i := 6) (n := 61) (x := x1379) dX7_step_330 rfl lay_7 (by decide) fl7_18 ha rfl rfl (rc_o (by decide) (rc_o (by decide) (hx1380))) ?_
              refine tn_aload_n dX7_step_333 rfl 3 rfl ?_
              refine tn_getI (ci := 7) (i := 2) (n := 57) (t := σ.2.1 57 a) dX7_step_334 rfl lay_7 (by decide) fl7_65 ha rfl rfl (rc_o (by decide) (rc_o (by decide) (rfl))) ?_
              have g1383 : ((0 : Int) ≤ σ.2.1 57 a ∧ σ.2.1 57 a ≤ 11184800) ∧ ((T a).1 = 57 → σ.2.1 57 a ≤ 8) := wf_57 hw ha
              have g1383x := g1383.2
              replace g1383 := g1383.1
              clear g1383x
              refine tn_aload_n dX7_step_337 rfl 3 rfl ?_
              refine tn_getR (ci := 7) (i := 14) (n := 69) (x := x8) dX7_step_338 rfl lay_7 (by decide) fl7_72 ha rfl rfl (rc_o (by decide) (rc_o (by decide) (hx7))) ?_
              obtain ⟨x1384, hx1385, hk1386, hl1387⟩ : ∃ x : Nat, σ.2.1 12 x8 = (x : Int) ∧ AR T x 1 12 12 := wf_12 hw hk9o
              have hk1386i : IA T x1384 := by unfold IA; omega
              refine tn_getR (ci := 1) (i := 7) (n := 12) (x := x1384) dX7_step_341 rfl lay_1 (by decide) fl7_126 hk9o rfl rfl (rc_o (by decide) (rc_o (by decide) (hx1385))) ?_
              refine tn_aload_n dX7_step_344 rfl 3 rfl ?_
              refine tn_getR (ci := 7) (i := 14) (n := 69) (x := x8) dX7_step_345 rfl lay_7 (by decide) fl7_72 ha rfl rfl (rc_o (by decide) (rc_o (by decide) (hx7))) ?_
              refine tn_iload_n dX7_step_348 rfl 2 rfl ?_
              refine tn_iconst dX7_step_349 ?_
              refine tn_callV (M := m_X7_step) (pc := 350) (ix := 117) (ci := 1) (M' := m_X1_get) (As := [.int (iI v6), .int (iI 1)]) (rest := [.ref x1384, .int (iI (σ.2.1 57 a)), .ref x1379]) dX7_step_350 ok_X1_get im_X1_get se_X1_get ml7_117 np_X1_get rfl rfl hk9o rfl (Nat.le_of_ble_eq_true rfl) (Nat.le_of_ble_eq_true rfl) rfl (k_X1_get (d + 3) (T := T) (σ := (sA 58 a (z1377) (sA 67 a (z965) σ))) (a := x8) (k := v6) (c := 1) hk9o (by omega) (by decide) ((hw.put (by decide) (by decide) (fo_67 (by omega))).put (by decide) (by decide) (fo_58 (by omega))) (by omega)) (fun r1388 T1390 σ1389 gt1391 hp => ?_)
              obtain ⟨v1393, rfl, rfl, rfl, f1392⟩ := hp
              clear gt1391
              show Tn _ _ 353 T (sA 58 a (z1377) (sA 67 a (z965) σ)) [(3, .int (iI z967)), (2, .int (iI v35)), (1, .int (iI v6)), (0, .ref a)] [.int (iI v1393), .ref x1384, .int (iI (σ.2.1 57 a)), .ref x1379] _
              refine tn_callSN (M := m_X7_step) (pc := 353) (ix := 91) (M' := m_X11_at) (As := [.ref x1384, .int (iI v1393)]) (rest := [.int (iI (σ.2.1 57 a)), .ref x1379]) dX7_step_353 ok_X11_at stt_X11_at nl7_91 np_X11_at rfl (Nat.le_of_ble_eq_true rfl) (Nat.le_of_ble_eq_true rfl) rfl (k_X11_at (d + 3) (T := T) (σ := (sA 58 a (z1377) (sA 67 a (z965) σ))) (x := x1384) (i := v1393) hk1386i (by omega) (by omega) ((hw.put (by decide) (by decide) (fo_67 (by omega))).put (by decide) (by decide) (fo_58 (by omega))) ) (fun r1394 T1396 σ1395 gt1397 hp => ?_)
              obtain ⟨v1401, rfl, rfl, rfl, f1398, f1399, f1400⟩ := hp
              clear gt1397
              clear f1399 f1400
              show Tn _ _ 356 T (sA 58 a (z1377) (sA 67 a (z965) σ)) [(3, .int (iI z967)), (2, .int (iI v35)), (1, .int (iI v6)), (0, .ref a)] [.int (iI v1401), .int (iI (σ.2.1 57 a)), .ref x1379] _
              refine tn_callSN (M := m_X7_step) (pc := 356) (ix := 61) (M' := m_X11_put) (As := [.ref x1379, .int (iI (σ.2.1 57 a)), .int (iI v1401)]) (rest := []) dX7_step_356 ok_X11_put stt_X11_put nl7_61 np_X11_put rfl (Nat.le_of_ble_eq_true rfl) (Nat.le_of_ble_eq_true rfl) rfl (k_X11_put (d + 3) (T := T) (σ := (sA 58 a (z1377) (sA 67 a (z965) σ))) (x := x1379) (i := σ.2.1 57 a) (y := v1401) hk1381i (by omega) (by omega) (by omega) ((hw.put (by decide) (by decide) (fo_67 (by omega))).put (by decide) (by decide) (fo_58 (by omega))) (nh_k hk1381 (by unfold HT; omega)) (vok_1 (by have q9 := hk1381; omega) (by omega))) (fun r1402 T1404 σ1403 gt1405 hp => ?_)
              obtain ⟨rfl, rfl, w1407, F1408⟩ := hp
              clear gt1405
              show Tn _ _ 359 T σ1403 [(3, .int (iI z967)), (2, .int (iI v35)), (1, .int (iI v6)), (0, .ref a)] [] _
              refine tn_goto (tgt := 375) dX7_step_359 (by decide) ?_
              refine tn_aload_n dX7_step_375 rfl 3 rfl ?_
              obtain ⟨x1409, hx1410, hk1411, hl1412⟩ : ∃ x : Nat, σ.2.1 60 a = (x : Int) ∧ AR T x 1 9 9 := wf_60 hw ha
              have hk1411i : IA T x1409 := by unfold IA; omega
              refine tn_getR (ci := 7) (i := 5) (n := 60) (x := x1409) dX7_step_376 rfl lay_7 (by decide) fl7_15 ha rfl rfl (rc_F F1408 (Or.inl (by decide)) (by decide) (rc_o (by decide) (rc_o (by decide) (hx1410)))) ?_
              refine tn_aload_n dX7_step_379 rfl 3 rfl ?_
              refine tn_getI (ci := 7) (i := 2) (n := 57) (t := σ.2.1 57 a) dX7_step_380 rfl lay_7 (by decide) fl7_65 ha rfl rfl (rc_F F1408 (Or.inl (by decide)) (by decide) (rc_o (by decide) (rc_o (by decide) (rfl)))) ?_
              refine tn_iload_n dX7_step_383 rfl 0 rfl ?_
              refine tn_callSN (M := m_X7_step) (pc := 384) (ix := 61) (M' := m_X11_put) (As := [.ref x1409, .int (iI (σ.2.1 57 a)), .int (iI z967)]) (rest := []) dX7_step_384 ok_X11_put stt_X11_put nl7_61 np_X11_put rfl (Nat.le_of_ble_eq_true rfl) (Nat.le_of_ble_eq_true rfl) rfl (k_X11_put (d + 3) (T := T) (σ := σ1403) (x := x1409) (i := σ.2.1 57 a) (y := z967) hk1411i (by omega) (by omega) (by omega) w1407 (nh_k hk1411 (by unfold HT; omega)) (vok_1 (by have q9 := hk1411; omega) (by omega))) (fun r1413 T1415 σ1414 gt1416 hp => ?_)
              obtain ⟨rfl, rfl, w1418, F1419⟩ := hp
              clear gt1416
              show Tn _ _ 387 T σ1414 [(3, .int (iI z967)), (2, .int (iI v35)), (1, .int (iI v6)), (0, .ref a)] [] _
              refine tn_iload_n dX7_step_387 rfl 1 rfl ?_
              refine tn_bipush dX7_step_388 (by decide) ?_
              refine tn_icmp_ne (tgt := 397) dX7_step_390 (by decide) ⟨by omega, by omega⟩ ⟨by decide, by decide⟩ (fun h1420 => ?_) (fun h1420 => absurd h1420 (by omega))
              refine tn_iconst dX7_step_397 ?_
              have q1421 : σ1414.2.1 57 a = σ.2.1 57 a := rc_F F1419 (Or.inl (by decide)) (by decide) (rc_F F1408 (Or.inl (by decide)) (by decide) (rc_o (by decide) (rc_o (by decide) (rfl))))
              exact tn_zret (v := 0) rfl (by decide) dX7_step_398 ⟨_, rfl, rfl, w1418, ((((FrC.rfl.put (by decide) (by decide)).put (by decide) (by decide)).trans (FrC.sub F1408 (by decide))).trans (FrC.sub F1419 (by decide))), by omega, by omega, ((((FA.rfl.put).put).trans (FA.of F1408 (by decide))).trans (FA.of F1419 (by decide)))⟩
        · refine tn_aload_n dX7_step_46 rfl 2 rfl ?_
          refine tn_iconst dX7_step_47 ?_
          refine tn_putV (ci := 7) (i := 1) (n := 56) (r := false) (v := 3) tyX7 tyX7_ok nmX7 dX7_step_48 rfl lay_7 (by decide) fl7_34 rfl (tyX7_ok 1 (by decide)) rfl rfl rfl ha rfl rfl ?_
          refine tn_iconst dX7_step_51 ?_
          have q1422 : (sA 56 a (3) σ).2.1 57 a = σ.2.1 57 a := rc_o (by decide) (rfl)
          exact tn_zret (v := 0) rfl (by decide) dX7_step_52 ⟨_, rfl, rfl, (hw.put (by decide) (by decide) (fo_56 (by omega))), (FrC.rfl.put (by decide) (by decide)), by omega, by omega, (FA.rfl.put)⟩
