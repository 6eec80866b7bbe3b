section
theorem fSt_w {n w ka a kb c : Int} {σ : MS} : (fSt n w ka a kb c σ).2.1 49 = fun q => if q = n then w else σ.2.1 49 q := by
  funext q
  simp only [fSt, sA, if_true, show ¬ (49 = 53) by decide, show ¬ (49 = 52) by decide, show ¬ (49 = 51) by decide, show ¬ (49 = 50) by decide, if_false]
def CST (σ τ : MS) (R y n : Int) : Prop := (R ≠ 0 → τ = fSt y 14 0 0 0 0 σ) ∧ (R = 0 → τ = fSt y (σ.2.1 54 n) (σ.2.1 55 n) (σ.2.1 56 n) (σ.2.1 57 n) (σ.2.1 58 n) σ)
theorem CST.ssa {σ τ : MS} {R y n : Int} (h : CST σ τ R y n) (hs : SSA σ) (hc : SCA σ) : SSA τ := by
  by_cases e : R = 0
  · rw [h.2 e]; exact hs.put (hc n).1 (hc n).2
  · rw [h.1 e]; exact hs.put (fun q => absurd q (by decide)) (fun q => absurd q (by decide))
theorem CST.at {σ τ : MS} {R y n z : Int} (h : CST σ τ R y n) (hz : z ≠ y) : τ.2.1 49 z = σ.2.1 49 z := by
  by_cases e : R = 0
  · rw [h.2 e, fSt_w]; exact if_neg hz
  · rw [h.1 e, fSt_w]; exact if_neg hz
theorem CST.cw {σ τ : MS} {R y n lo : Int} {N : Nat} (h : CST σ τ R y n) (h0 : lo ≤ y) (h1 : y < lo + N) (hf : σ.2.1 49 y ≠ 14) : (R ≠ 0 → cw (τ.2.1 49) lo N + 1 = cw (σ.2.1 49) lo N) ∧ (R = 0 → cw (τ.2.1 49) lo N ≤ cw (σ.2.1 49) lo N) := by
  refine ⟨fun e => ?_, fun e => ?_⟩
  · rw [h.1 e, fSt_w]
    have := cw_upd (f := σ.2.1 49) (lo := lo) (z := y) (v := 14) (n := N) h0 h1 hf
    rw [if_pos rfl] at this
    exact this
  · rw [h.2 e, fSt_w]
    have := cw_upd (f := σ.2.1 49) (lo := lo) (z := y) (v := σ.2.1 54 n) (n := N) h0 h1 hf
    omega
def UNR (σ : MS) (r m : Int) : Prop := ∀ k, 0 ≤ k → k ≤ m → σ.2.1 47 k = 0 → ∀ n, 0 ≤ n → n < 144 → σ.2.1 49 (31824 * r + 144 * k + n) = 11
def LEX (σ : MS) (r : Int) : Prop := ∀ k, 0 ≤ k → k < σ.2.1 9 r → (σ.2.1 3 (220 * r + k) = 8 ∨ σ.2.1 3 (220 * r + k) = 9) → ∃ j, 0 ≤ j ∧ j < σ.2.1 9 r ∧ σ.2.1 3 (220 * r + j) = 13 ∧ σ.2.1 4 (220 * r + j) = σ.2.1 4 (220 * r + k)
theorem LEX.to {σ τ : MS} {r : Int} (h : LEX σ r) (f : LFN σ τ r (σ.2.1 9 r)) {k : Int} (a : 0 ≤ k) (b : k < σ.2.1 9 r) (c : σ.2.1 3 (220 * r + k) = 8 ∨ σ.2.1 3 (220 * r + k) = 9) : 0 ≤ τ.2.1 46 (σ.2.1 4 (220 * r + k)) ∧ τ.2.1 46 (σ.2.1 4 (220 * r + k)) < σ.2.1 9 r ∧ σ.2.1 3 (220 * r + τ.2.1 46 (σ.2.1 4 (220 * r + k))) = 13 := by
  obtain ⟨j, h1, h2, h3, h4⟩ := h k a b c
  have := f j h1 h2 h3
  rw [h4] at this
  exact ⟨this.1, this.2.1, this.2.2.1⟩

theorem fl12_91 : Cond.fieldLink RX12 91 (TX12 47).1 (TX12 47).2.1 (TX12 47).2.2.1 ∈ pWW := pw7 (List.mem_of_getElem? (i := 54) rfl) rfl
theorem dX12_comes_172 : decode cX12_comes 172 = .ok (.iconst 1, 1) := by decide +kernel
theorem dX12_comes_173 : decode cX12_comes 173 = .ok (.istore_n 3, 1) := by decide +kernel
theorem dX12_comes_174 : decode cX12_comes 174 = .ok (.aload_n 0, 1) := by decide +kernel
theorem dX12_comes_175 : decode cX12_comes 175 = .ok (.getfield 91, 3) := by decide +kernel
theorem dX12_comes_178 : decode cX12_comes 178 = .ok (.iload_n 2, 1) := by decide +kernel
theorem dX12_comes_179 : decode cX12_comes 179 = .ok (.baload, 1) := by decide +kernel
theorem dX12_comes_180 : decode cX12_comes 180 = .ok (.istore 7, 2) := by decide +kernel
theorem dX12_comes_182 : decode cX12_comes 182 = .ok (.aload_n 0, 1) := by decide +kernel
theorem dX12_comes_183 : decode cX12_comes 183 = .ok (.getfield 99, 3) := by decide +kernel
theorem dX12_comes_186 : decode cX12_comes 186 = .ok (.iload 5, 2) := by decide +kernel
theorem dX12_comes_188 : decode cX12_comes 188 = .ok (.iload 7, 2) := by decide +kernel
theorem dX12_comes_190 : decode cX12_comes 190 = .ok (.ifCond .eq 8, 3) := by decide +kernel
theorem dX12_comes_198 : decode cX12_comes 198 = .ok (.aload_n 0, 1) := by decide +kernel
theorem dX12_comes_199 : decode cX12_comes 199 = .ok (.getfield 114, 3) := by decide +kernel
theorem dX12_comes_202 : decode cX12_comes 202 = .ok (.iload 4, 2) := by decide +kernel
theorem dX12_comes_204 : decode cX12_comes 204 = .ok (.iaload, 1) := by decide +kernel
theorem dX12_comes_205 : decode cX12_comes 205 = .ok (.iastore, 1) := by decide +kernel
theorem dX12_comes_206 : decode cX12_comes 206 = .ok (.aload_n 0, 1) := by decide +kernel
theorem dX12_comes_207 : decode cX12_comes 207 = .ok (.getfield 102, 3) := by decide +kernel
theorem dX12_comes_210 : decode cX12_comes 210 = .ok (.iload 5, 2) := by decide +kernel
theorem dX12_comes_212 : decode cX12_comes 212 = .ok (.iload 7, 2) := by decide +kernel
theorem dX12_comes_214 : decode cX12_comes 214 = .ok (.ifCond .eq 7, 3) := by decide +kernel
theorem dX12_comes_221 : decode cX12_comes 221 = .ok (.aload_n 0, 1) := by decide +kernel
theorem dX12_comes_222 : decode cX12_comes 222 = .ok (.getfield 117, 3) := by decide +kernel
theorem dX12_comes_225 : decode cX12_comes 225 = .ok (.iload 4, 2) := by decide +kernel
theorem dX12_comes_227 : decode cX12_comes 227 = .ok (.iaload, 1) := by decide +kernel
theorem dX12_comes_228 : decode cX12_comes 228 = .ok (.iastore, 1) := by decide +kernel
theorem dX12_comes_229 : decode cX12_comes 229 = .ok (.aload_n 0, 1) := by decide +kernel
theorem dX12_comes_230 : decode cX12_comes 230 = .ok (.getfield 105, 3) := by decide +kernel
theorem dX12_comes_233 : decode cX12_comes 233 = .ok (.iload 5, 2) := by decide +kernel
theorem dX12_comes_235 : decode cX12_comes 235 = .ok (.iload 7, 2) := by decide +kernel
theorem dX12_comes_237 : decode cX12_comes 237 = .ok (.ifCond .eq 7, 3) := by decide +kernel
theorem dX12_comes_244 : decode cX12_comes 244 = .ok (.aload_n 0, 1) := by decide +kernel
theorem dX12_comes_245 : decode cX12_comes 245 = .ok (.getfield 120, 3) := by decide +kernel
theorem dX12_comes_248 : decode cX12_comes 248 = .ok (.iload 4, 2) := by decide +kernel
theorem dX12_comes_250 : decode cX12_comes 250 = .ok (.iaload, 1) := by decide +kernel
theorem dX12_comes_251 : decode cX12_comes 251 = .ok (.iastore, 1) := by decide +kernel
theorem dX12_comes_252 : decode cX12_comes 252 = .ok (.aload_n 0, 1) := by decide +kernel
theorem dX12_comes_253 : decode cX12_comes 253 = .ok (.getfield 108, 3) := by decide +kernel
theorem dX12_comes_256 : decode cX12_comes 256 = .ok (.iload 5, 2) := by decide +kernel
theorem dX12_comes_258 : decode cX12_comes 258 = .ok (.iload 7, 2) := by decide +kernel
theorem dX12_comes_260 : decode cX12_comes 260 = .ok (.ifCond .eq 7, 3) := by decide +kernel
theorem dX12_comes_267 : decode cX12_comes 267 = .ok (.aload_n 0, 1) := by decide +kernel
theorem dX12_comes_268 : decode cX12_comes 268 = .ok (.getfield 123, 3) := by decide +kernel
theorem dX12_comes_271 : decode cX12_comes 271 = .ok (.iload 4, 2) := by decide +kernel
theorem dX12_comes_273 : decode cX12_comes 273 = .ok (.iaload, 1) := by decide +kernel
theorem dX12_comes_274 : decode cX12_comes 274 = .ok (.iastore, 1) := by decide +kernel
theorem dX12_comes_275 : decode cX12_comes 275 = .ok (.aload_n 0, 1) := by decide +kernel
theorem dX12_comes_276 : decode cX12_comes 276 = .ok (.getfield 111, 3) := by decide +kernel
theorem dX12_comes_279 : decode cX12_comes 279 = .ok (.iload 5, 2) := by decide +kernel
theorem dX12_comes_281 : decode cX12_comes 281 = .ok (.iload 7, 2) := by decide +kernel
theorem dX12_comes_283 : decode cX12_comes 283 = .ok (.ifCond .eq 7, 3) := by decide +kernel
theorem dX12_comes_290 : decode cX12_comes 290 = .ok (.aload_n 0, 1) := by decide +kernel
theorem dX12_comes_291 : decode cX12_comes 291 = .ok (.getfield 126, 3) := by decide +kernel
theorem dX12_comes_294 : decode cX12_comes 294 = .ok (.iload 4, 2) := by decide +kernel
theorem dX12_comes_296 : decode cX12_comes 296 = .ok (.iaload, 1) := by decide +kernel
theorem dX12_comes_297 : decode cX12_comes 297 = .ok (.iastore, 1) := by decide +kernel
theorem dX12_comes_193 : decode cX12_comes 193 = .ok (.bipush 14, 2) := by decide +kernel
theorem dX12_comes_195 : decode cX12_comes 195 = .ok (.goto 10, 3) := by decide +kernel
theorem dX12_comes_217 : decode cX12_comes 217 = .ok (.iconst 0, 1) := by decide +kernel
theorem dX12_comes_218 : decode cX12_comes 218 = .ok (.goto 10, 3) := by decide +kernel
theorem dX12_comes_240 : decode cX12_comes 240 = .ok (.iconst 0, 1) := by decide +kernel
theorem dX12_comes_241 : decode cX12_comes 241 = .ok (.goto 10, 3) := by decide +kernel
theorem dX12_comes_263 : decode cX12_comes 263 = .ok (.iconst 0, 1) := by decide +kernel
theorem dX12_comes_264 : decode cX12_comes 264 = .ok (.goto 10, 3) := by decide +kernel
theorem dX12_comes_286 : decode cX12_comes 286 = .ok (.iconst 0, 1) := by decide +kernel
theorem dX12_comes_287 : decode cX12_comes 287 = .ok (.goto 10, 3) := by decide +kernel
set_option maxHeartbeats 40000000 in
set_option maxRecDepth 20000 in
theorem b_comes (d : Nat) {b : Nat} {σ0 : MS} {r : Int} {to : Int} {n1 : Int} {post : Option Value → MS → Prop} (hr : 0 ≤ r ∧ r < 6) (hR0 : RG σ0) (hto : 0 ≤ to ∧ to ≤ 220 ∧ 0 ≤ n1 ∧ n1 < 144) (hx_298 : ∀ (w : Int) (σ : MS) , (Fr [] [49, 50, 51, 52, 53] [] σ0 σ) → (RG σ) → (w = 1) → (CST σ0 σ (σ0.2.1 47 to) (31824 * r + 144 * to + n1) n1) → Tm (d + 1) m_X12_comes 298 b σ [(5, .int (iI (31824 * r + 144 * to + n1))), (4, .int (iI n1)), (3, .int (iI w)), (0, .ref b), (1, .int (iI r)), (2, .int (iI to))] [] post) : ∀ (n : Nat) (w : Int) (σ : MS) , (Fr [] [49, 50, 51, 52, 53] [] σ0 σ) → (RG σ) → (σ = σ0) → ((0 : Int)).toNat = n → Tm (d + 1) m_X12_comes 172 b σ [(5, .int (iI (31824 * r + 144 * to + n1))), (4, .int (iI n1)), (3, .int (iI w)), (0, .ref b), (1, .int (iI r)), (2, .int (iI to))] [] post := by
  intro n
  induction n using Nat.strongRecOn with
  | _ n ih =>
    intro w σ hF hR hs hm
    refine tm_iconst dX12_comes_172 ?_
    refine tm_istore_n (L' := [(3, .int (iI 1)), (5, .int (iI (31824 * r + 144 * to + n1))), (4, .int (iI n1)), (0, .ref b), (1, .int (iI r)), (2, .int (iI to))]) dX12_comes_173 rfl (by decide) rfl ?_
    refine tm_aload_n dX12_comes_174 rfl 3 rfl ?_
    refine tm_get (k := 47) (v := .ref (b + 1 + 25)) lay_12 dX12_comes_175 (by decide) fl12_91 rfl ?_
    refine tm_iload_n dX12_comes_178 rfl 5 rfl ?_
    refine tm_zald (z := to) (v := σ0.2.1 47 to) dX12_comes_179 (show mT[25]? = some (47, 2, 221) from rfl) (by omega) (by omega) (by decide) (ra_F hF (by decide) (rfl)) ?_
    have g1 := RG.a hR0 47 (to)
    refine tm_istore (L' := [(7, .int (iI (σ0.2.1 47 to))), (3, .int (iI 1)), (5, .int (iI (31824 * r + 144 * to + n1))), (4, .int (iI n1)), (0, .ref b), (1, .int (iI r)), (2, .int (iI to))]) dX12_comes_180 (by decide) rfl ?_
    refine tm_aload_n dX12_comes_182 rfl 4 rfl ?_
    refine tm_get (k := 49) (v := .ref (b + 1 + 27)) lay_12 dX12_comes_183 (by decide) fl12_99 rfl ?_
    refine tm_iload dX12_comes_186 2 rfl ?_
    refine tm_iload dX12_comes_188 0 rfl ?_
    refine tm_if_eq (tgt := 198) dX12_comes_190 (by decide) ⟨by omega, by omega⟩ (fun h2 => ?_) (fun h2 => ?_)
    · refine tm_aload_n dX12_comes_198 rfl 4 rfl ?_
      refine tm_get (k := 54) (v := .ref (b + 1 + 32)) lay_12 dX12_comes_199 (by decide) fl12_114 rfl ?_
      refine tm_iload dX12_comes_202 3 rfl ?_
      refine tm_iald (z := n1) (v := σ0.2.1 54 n1) dX12_comes_204 (show mT[32]? = some (54, 0, 144) from rfl) (by omega) (by omega) (by decide) (ra_F hF (by decide) (rfl)) ?_
      have g3 := RG.a hR0 54 (n1)
      refine tm_iast (z := 31824 * r + 144 * to + n1) (v := σ0.2.1 54 n1) dX12_comes_205 (show mT[27]? = some (49, 0, 190944) from rfl) (by omega) (by omega) (by decide) ?_
      refine tm_aload_n dX12_comes_206 rfl 4 rfl ?_
      refine tm_get (k := 50) (v := .ref (b + 1 + 28)) lay_12 dX12_comes_207 (by decide) fl12_102 rfl ?_
      refine tm_iload dX12_comes_210 2 rfl ?_
      refine tm_iload dX12_comes_212 0 rfl ?_
      refine tm_if_eq (tgt := 221) dX12_comes_214 (by decide) ⟨by omega, by omega⟩ (fun h4 => ?_) (fun h4 => ?_)
      · refine tm_aload_n dX12_comes_221 rfl 4 rfl ?_
        refine tm_get (k := 55) (v := .ref (b + 1 + 33)) lay_12 dX12_comes_222 (by decide) fl12_117 rfl ?_
        refine tm_iload dX12_comes_225 3 rfl ?_
        refine tm_iald (z := n1) (v := σ0.2.1 55 n1) dX12_comes_227 (show mT[33]? = some (55, 0, 144) from rfl) (by omega) (by omega) (by decide) (ra_o (by decide) (ra_F hF (by decide) (rfl))) ?_
        have g5 := RG.a hR0 55 (n1)
        refine tm_iast (z := 31824 * r + 144 * to + n1) (v := σ0.2.1 55 n1) dX12_comes_228 (show mT[28]? = some (50, 0, 190944) from rfl) (by omega) (by omega) (by decide) ?_
        refine tm_aload_n dX12_comes_229 rfl 4 rfl ?_
        refine tm_get (k := 51) (v := .ref (b + 1 + 29)) lay_12 dX12_comes_230 (by decide) fl12_105 rfl ?_
        refine tm_iload dX12_comes_233 2 rfl ?_
        refine tm_iload dX12_comes_235 0 rfl ?_
        refine tm_if_eq (tgt := 244) dX12_comes_237 (by decide) ⟨by omega, by omega⟩ (fun h6 => ?_) (fun h6 => ?_)
        · refine tm_aload_n dX12_comes_244 rfl 4 rfl ?_
          refine tm_get (k := 56) (v := .ref (b + 1 + 34)) lay_12 dX12_comes_245 (by decide) fl12_120 rfl ?_
          refine tm_iload dX12_comes_248 3 rfl ?_
          refine tm_iald (z := n1) (v := σ0.2.1 56 n1) dX12_comes_250 (show mT[34]? = some (56, 0, 144) from rfl) (by omega) (by omega) (by decide) (ra_o (by decide) (ra_o (by decide) (ra_F hF (by decide) (rfl)))) ?_
          have g7 := RG.a hR0 56 (n1)
          refine tm_iast (z := 31824 * r + 144 * to + n1) (v := σ0.2.1 56 n1) dX12_comes_251 (show mT[29]? = some (51, 0, 190944) from rfl) (by omega) (by omega) (by decide) ?_
          refine tm_aload_n dX12_comes_252 rfl 4 rfl ?_
          refine tm_get (k := 52) (v := .ref (b + 1 + 30)) lay_12 dX12_comes_253 (by decide) fl12_108 rfl ?_
          refine tm_iload dX12_comes_256 2 rfl ?_
          refine tm_iload dX12_comes_258 0 rfl ?_
          refine tm_if_eq (tgt := 267) dX12_comes_260 (by decide) ⟨by omega, by omega⟩ (fun h8 => ?_) (fun h8 => ?_)
          · refine tm_aload_n dX12_comes_267 rfl 4 rfl ?_
            refine tm_get (k := 57) (v := .ref (b + 1 + 35)) lay_12 dX12_comes_268 (by decide) fl12_123 rfl ?_
            refine tm_iload dX12_comes_271 3 rfl ?_
            refine tm_iald (z := n1) (v := σ0.2.1 57 n1) dX12_comes_273 (show mT[35]? = some (57, 0, 144) from rfl) (by omega) (by omega) (by decide) (ra_o (by decide) (ra_o (by decide) (ra_o (by decide) (ra_F hF (by decide) (rfl))))) ?_
            have g9 := RG.a hR0 57 (n1)
            refine tm_iast (z := 31824 * r + 144 * to + n1) (v := σ0.2.1 57 n1) dX12_comes_274 (show mT[30]? = some (52, 0, 190944) from rfl) (by omega) (by omega) (by decide) ?_
            refine tm_aload_n dX12_comes_275 rfl 4 rfl ?_
            refine tm_get (k := 53) (v := .ref (b + 1 + 31)) lay_12 dX12_comes_276 (by decide) fl12_111 rfl ?_
            refine tm_iload dX12_comes_279 2 rfl ?_
            refine tm_iload dX12_comes_281 0 rfl ?_
            refine tm_if_eq (tgt := 290) dX12_comes_283 (by decide) ⟨by omega, by omega⟩ (fun h10 => ?_) (fun h10 => ?_)
            · refine tm_aload_n dX12_comes_290 rfl 4 rfl ?_
              refine tm_get (k := 58) (v := .ref (b + 1 + 36)) lay_12 dX12_comes_291 (by decide) fl12_126 rfl ?_
              refine tm_iload dX12_comes_294 3 rfl ?_
              refine tm_iald (z := n1) (v := σ0.2.1 58 n1) dX12_comes_296 (show mT[36]? = some (58, 0, 144) from rfl) (by omega) (by omega) (by decide) (ra_o (by decide) (ra_o (by decide) (ra_o (by decide) (ra_o (by decide) (ra_F hF (by decide) (rfl)))))) ?_
              have g11 := RG.a hR0 58 (n1)
              refine tm_iast (z := 31824 * r + 144 * to + n1) (v := σ0.2.1 58 n1) dX12_comes_297 (show mT[31]? = some (53, 0, 190944) from rfl) (by omega) (by omega) (by decide) ?_
              exact tm_sub [2, 3, 1, 4, 5, 6] rfl (hx_298 (1) (sA 53 (31824 * r + 144 * to + n1) (σ0.2.1 58 n1) (sA 52 (31824 * r + 144 * to + n1) (σ0.2.1 57 n1) (sA 51 (31824 * r + 144 * to + n1) (σ0.2.1 56 n1) (sA 50 (31824 * r + 144 * to + n1) (σ0.2.1 55 n1) (sA 49 (31824 * r + 144 * to + n1) (σ0.2.1 54 n1) σ))))) ((((((Fr.rfl.trans (Fr.sub hF (by decide) (by decide) (by decide))).A (by decide)).A (by decide)).A (by decide)).A (by decide)).A (by decide)) (((((hR.A (by omega)).A (by omega)).A (by omega)).A (by omega)).A (by omega)) (by omega) (by subst hs; refine ⟨fun e => ?_, fun e => ?_⟩ <;> first | rfl | exact absurd e (by omega)))
            · exact absurd h10 (by omega)
          · exact absurd h8 (by omega)
        · exact absurd h6 (by omega)
      · exact absurd h4 (by omega)
    · refine tm_bipush dX12_comes_193 (by decide) ?_
      refine tm_goto (tgt := 205) dX12_comes_195 (by decide) ?_
      refine tm_iast (z := 31824 * r + 144 * to + n1) (v := 14) dX12_comes_205 (show mT[27]? = some (49, 0, 190944) from rfl) (by omega) (by omega) (by decide) ?_
      refine tm_aload_n dX12_comes_206 rfl 4 rfl ?_
      refine tm_get (k := 50) (v := .ref (b + 1 + 28)) lay_12 dX12_comes_207 (by decide) fl12_102 rfl ?_
      refine tm_iload dX12_comes_210 2 rfl ?_
      refine tm_iload dX12_comes_212 0 rfl ?_
      refine tm_if_eq (tgt := 221) dX12_comes_214 (by decide) ⟨by omega, by omega⟩ (fun h12 => ?_) (fun h12 => ?_)
      · exact absurd h12 (by omega)
      · refine tm_iconst dX12_comes_217 ?_
        refine tm_goto (tgt := 228) dX12_comes_218 (by decide) ?_
        refine tm_iast (z := 31824 * r + 144 * to + n1) (v := 0) dX12_comes_228 (show mT[28]? = some (50, 0, 190944) from rfl) (by omega) (by omega) (by decide) ?_
        refine tm_aload_n dX12_comes_229 rfl 4 rfl ?_
        refine tm_get (k := 51) (v := .ref (b + 1 + 29)) lay_12 dX12_comes_230 (by decide) fl12_105 rfl ?_
        refine tm_iload dX12_comes_233 2 rfl ?_
        refine tm_iload dX12_comes_235 0 rfl ?_
        refine tm_if_eq (tgt := 244) dX12_comes_237 (by decide) ⟨by omega, by omega⟩ (fun h13 => ?_) (fun h13 => ?_)
        · exact absurd h13 (by omega)
        · refine tm_iconst dX12_comes_240 ?_
          refine tm_goto (tgt := 251) dX12_comes_241 (by decide) ?_
          refine tm_iast (z := 31824 * r + 144 * to + n1) (v := 0) dX12_comes_251 (show mT[29]? = some (51, 0, 190944) from rfl) (by omega) (by omega) (by decide) ?_
          refine tm_aload_n dX12_comes_252 rfl 4 rfl ?_
          refine tm_get (k := 52) (v := .ref (b + 1 + 30)) lay_12 dX12_comes_253 (by decide) fl12_108 rfl ?_
          refine tm_iload dX12_comes_256 2 rfl ?_
          refine tm_iload dX12_comes_258 0 rfl ?_
          refine tm_if_eq (tgt := 267) dX12_comes_260 (by decide) ⟨by omega, by omega⟩ (fun h14 => ?_) (fun h14 => ?_)
          · exact absurd h14 (by omega)
          · refine tm_iconst dX12_comes_263 ?_
            refine tm_goto (tgt := 274) dX12_comes_264 (by decide) ?_
            refine tm_iast (z := 31824 * r + 144 * to + n1) (v := 0) dX12_comes_274 (show mT[30]? = some (52, 0, 190944) from rfl) (by omega) (by omega) (by decide) ?_
            refine tm_aload_n dX12_comes_275 rfl 4 rfl ?_
            refine tm_get (k := 53) (v := .ref (b + 1 + 31)) lay_12 dX12_comes_276 (by decide) fl12_111 rfl ?_
            refine tm_iload dX12_comes_279 2 rfl ?_
            refine tm_iload dX12_comes_281 0 rfl ?_
            refine tm_if_eq (tgt := 290) dX12_comes_283 (by decide) ⟨by omega, by omega⟩ (fun h15 => ?_) (fun h15 => ?_)
            · exact absurd h15 (by omega)
            · refine tm_iconst dX12_comes_286 ?_
              refine tm_goto (tgt := 297) dX12_comes_287 (by decide) ?_
              refine tm_iast (z := 31824 * r + 144 * to + n1) (v := 0) dX12_comes_297 (show mT[31]? = some (53, 0, 190944) from rfl) (by omega) (by omega) (by decide) ?_
              exact tm_sub [2, 3, 1, 4, 5, 6] rfl (hx_298 (1) (sA 53 (31824 * r + 144 * to + n1) (0) (sA 52 (31824 * r + 144 * to + n1) (0) (sA 51 (31824 * r + 144 * to + n1) (0) (sA 50 (31824 * r + 144 * to + n1) (0) (sA 49 (31824 * r + 144 * to + n1) (14) σ))))) ((((((Fr.rfl.trans (Fr.sub hF (by decide) (by decide) (by decide))).A (by decide)).A (by decide)).A (by decide)).A (by decide)).A (by decide)) (((((hR.A (by omega)).A (by omega)).A (by omega)).A (by omega)).A (by omega)) (by omega) (by subst hs; refine ⟨fun e => ?_, fun e => ?_⟩ <;> first | rfl | exact absurd e (by omega)))
theorem dX12_comes_18 : decode cX12_comes 18 = .ok (.iload 4, 2) := by decide +kernel
theorem dX12_comes_20 : decode cX12_comes 20 = .ok (.sipush 144, 3) := by decide +kernel
theorem dX12_comes_23 : decode cX12_comes 23 = .ok (.if_icmp .ge 281, 3) := by decide +kernel
theorem dX12_comes_26 : decode cX12_comes 26 = .ok (.sipush 31824, 3) := by decide +kernel
theorem dX12_comes_29 : decode cX12_comes 29 = .ok (.iload_n 1, 1) := by decide +kernel
theorem dX12_comes_30 : decode cX12_comes 30 = .ok (.imul, 1) := by decide +kernel
theorem dX12_comes_31 : decode cX12_comes 31 = .ok (.sipush 144, 3) := by decide +kernel
theorem dX12_comes_34 : decode cX12_comes 34 = .ok (.iload_n 2, 1) := by decide +kernel
theorem dX12_comes_35 : decode cX12_comes 35 = .ok (.imul, 1) := by decide +kernel
theorem dX12_comes_36 : decode cX12_comes 36 = .ok (.iadd, 1) := by decide +kernel
theorem dX12_comes_37 : decode cX12_comes 37 = .ok (.iload 4, 2) := by decide +kernel
theorem dX12_comes_39 : decode cX12_comes 39 = .ok (.iadd, 1) := by decide +kernel
theorem dX12_comes_40 : decode cX12_comes 40 = .ok (.istore 5, 2) := by decide +kernel
theorem dX12_comes_42 : decode cX12_comes 42 = .ok (.aload_n 0, 1) := by decide +kernel
theorem dX12_comes_43 : decode cX12_comes 43 = .ok (.getfield 91, 3) := by decide +kernel
theorem dX12_comes_46 : decode cX12_comes 46 = .ok (.iload_n 2, 1) := by decide +kernel
theorem dX12_comes_47 : decode cX12_comes 47 = .ok (.baload, 1) := by decide +kernel
theorem dX12_comes_48 : decode cX12_comes 48 = .ok (.ifCond .eq 92, 3) := by decide +kernel
theorem dX12_comes_140 : decode cX12_comes 140 = .ok (.iconst 0, 1) := by decide +kernel
theorem dX12_comes_141 : decode cX12_comes 141 = .ok (.istore 6, 2) := by decide +kernel
theorem dX12_comes_143 : decode cX12_comes 143 = .ok (.iload 6, 2) := by decide +kernel
theorem dX12_comes_145 : decode cX12_comes 145 = .ok (.ifCond .ne 153, 3) := by decide +kernel
theorem dX12_comes_148 : decode cX12_comes 148 = .ok (.aload_n 0, 1) := by decide +kernel
theorem dX12_comes_149 : decode cX12_comes 149 = .ok (.getfield 91, 3) := by decide +kernel
theorem dX12_comes_152 : decode cX12_comes 152 = .ok (.iload_n 2, 1) := by decide +kernel
theorem dX12_comes_153 : decode cX12_comes 153 = .ok (.baload, 1) := by decide +kernel
theorem dX12_comes_154 : decode cX12_comes 154 = .ok (.ifCond .eq 18, 3) := by decide +kernel
theorem dX12_comes_298 : decode cX12_comes 298 = .ok (.iinc 4 1, 3) := by decide +kernel
theorem dX12_comes_301 : decode cX12_comes 301 = .ok (.goto (-283), 3) := by decide +kernel
theorem dX12_comes_51 : decode cX12_comes 51 = .ok (.aload_n 0, 1) := by decide +kernel
theorem dX12_comes_52 : decode cX12_comes 52 = .ok (.getfield 99, 3) := by decide +kernel
theorem dX12_comes_55 : decode cX12_comes 55 = .ok (.iload 5, 2) := by decide +kernel
theorem dX12_comes_57 : decode cX12_comes 57 = .ok (.iaload, 1) := by decide +kernel
theorem dX12_comes_58 : decode cX12_comes 58 = .ok (.aload_n 0, 1) := by decide +kernel
theorem dX12_comes_59 : decode cX12_comes 59 = .ok (.getfield 114, 3) := by decide +kernel
theorem dX12_comes_62 : decode cX12_comes 62 = .ok (.iload 4, 2) := by decide +kernel
theorem dX12_comes_64 : decode cX12_comes 64 = .ok (.iaload, 1) := by decide +kernel
theorem dX12_comes_65 : decode cX12_comes 65 = .ok (.if_icmp .ne 75, 3) := by decide +kernel
theorem dX12_comes_157 : decode cX12_comes 157 = .ok (.aload_n 0, 1) := by decide +kernel
theorem dX12_comes_158 : decode cX12_comes 158 = .ok (.getfield 99, 3) := by decide +kernel
theorem dX12_comes_161 : decode cX12_comes 161 = .ok (.iload 5, 2) := by decide +kernel
theorem dX12_comes_163 : decode cX12_comes 163 = .ok (.iaload, 1) := by decide +kernel
theorem dX12_comes_164 : decode cX12_comes 164 = .ok (.bipush 14, 2) := by decide +kernel
theorem dX12_comes_166 : decode cX12_comes 166 = .ok (.if_icmp .ne 6, 3) := by decide +kernel
theorem dX12_comes_169 : decode cX12_comes 169 = .ok (.goto 129, 3) := by decide +kernel
theorem dX12_comes_68 : decode cX12_comes 68 = .ok (.aload_n 0, 1) := by decide +kernel
theorem dX12_comes_69 : decode cX12_comes 69 = .ok (.getfield 102, 3) := by decide +kernel
theorem dX12_comes_72 : decode cX12_comes 72 = .ok (.iload 5, 2) := by decide +kernel
theorem dX12_comes_74 : decode cX12_comes 74 = .ok (.iaload, 1) := by decide +kernel
theorem dX12_comes_75 : decode cX12_comes 75 = .ok (.aload_n 0, 1) := by decide +kernel
theorem dX12_comes_76 : decode cX12_comes 76 = .ok (.getfield 117, 3) := by decide +kernel
theorem dX12_comes_79 : decode cX12_comes 79 = .ok (.iload 4, 2) := by decide +kernel
theorem dX12_comes_81 : decode cX12_comes 81 = .ok (.iaload, 1) := by decide +kernel
theorem dX12_comes_82 : decode cX12_comes 82 = .ok (.if_icmp .ne 58, 3) := by decide +kernel
theorem dX12_comes_85 : decode cX12_comes 85 = .ok (.aload_n 0, 1) := by decide +kernel
theorem dX12_comes_86 : decode cX12_comes 86 = .ok (.getfield 105, 3) := by decide +kernel
theorem dX12_comes_89 : decode cX12_comes 89 = .ok (.iload 5, 2) := by decide +kernel
theorem dX12_comes_91 : decode cX12_comes 91 = .ok (.iaload, 1) := by decide +kernel
theorem dX12_comes_92 : decode cX12_comes 92 = .ok (.aload_n 0, 1) := by decide +kernel
theorem dX12_comes_93 : decode cX12_comes 93 = .ok (.getfield 120, 3) := by decide +kernel
theorem dX12_comes_96 : decode cX12_comes 96 = .ok (.iload 4, 2) := by decide +kernel
theorem dX12_comes_98 : decode cX12_comes 98 = .ok (.iaload, 1) := by decide +kernel
theorem dX12_comes_99 : decode cX12_comes 99 = .ok (.if_icmp .ne 41, 3) := by decide +kernel
theorem dX12_comes_102 : decode cX12_comes 102 = .ok (.aload_n 0, 1) := by decide +kernel
theorem dX12_comes_103 : decode cX12_comes 103 = .ok (.getfield 108, 3) := by decide +kernel
theorem dX12_comes_106 : decode cX12_comes 106 = .ok (.iload 5, 2) := by decide +kernel
theorem dX12_comes_108 : decode cX12_comes 108 = .ok (.iaload, 1) := by decide +kernel
theorem dX12_comes_109 : decode cX12_comes 109 = .ok (.aload_n 0, 1) := by decide +kernel
theorem dX12_comes_110 : decode cX12_comes 110 = .ok (.getfield 123, 3) := by decide +kernel
theorem dX12_comes_113 : decode cX12_comes 113 = .ok (.iload 4, 2) := by decide +kernel
theorem dX12_comes_115 : decode cX12_comes 115 = .ok (.iaload, 1) := by decide +kernel
theorem dX12_comes_116 : decode cX12_comes 116 = .ok (.if_icmp .ne 24, 3) := by decide +kernel
theorem dX12_comes_119 : decode cX12_comes 119 = .ok (.aload_n 0, 1) := by decide +kernel
theorem dX12_comes_120 : decode cX12_comes 120 = .ok (.getfield 111, 3) := by decide +kernel
theorem dX12_comes_123 : decode cX12_comes 123 = .ok (.iload 5, 2) := by decide +kernel
theorem dX12_comes_125 : decode cX12_comes 125 = .ok (.iaload, 1) := by decide +kernel
theorem dX12_comes_126 : decode cX12_comes 126 = .ok (.aload_n 0, 1) := by decide +kernel
theorem dX12_comes_127 : decode cX12_comes 127 = .ok (.getfield 126, 3) := by decide +kernel
theorem dX12_comes_130 : decode cX12_comes 130 = .ok (.iload 4, 2) := by decide +kernel
theorem dX12_comes_132 : decode cX12_comes 132 = .ok (.iaload, 1) := by decide +kernel
theorem dX12_comes_133 : decode cX12_comes 133 = .ok (.if_icmp .ne 7, 3) := by decide +kernel
theorem dX12_comes_136 : decode cX12_comes 136 = .ok (.iconst 1, 1) := by decide +kernel
theorem dX12_comes_137 : decode cX12_comes 137 = .ok (.goto 4, 3) := by decide +kernel
set_option maxHeartbeats 40000000 in
set_option maxRecDepth 20000 in
theorem l_comes (d : Nat) {b : Nat} {σ0 : MS} {r : Int} {to : Int} {C0 : Int} {post : Option Value → MS → Prop} (hr : 0 ≤ r ∧ r < 6) (hR0 : RG σ0) (hto : 0 ≤ to ∧ to ≤ 220) (hbo : BO 47 σ0) (hsc : SCA σ0) (hx_304 : ∀ (w : Int) (n1 : Int) (σ : MS) , (Fr [] [49, 50, 51, 52, 53] [] σ0 σ) → (RG σ) → ((w = 0 ∨ w = 1) ∧ (σ0.2.1 47 to = 0 → w = 1)) → (SSA σ) → ((σ0.2.1 47 to = 1 → (cw (σ.2.1 49) (31824 * r) 31824 : Int) + w ≤ C0) ∧ (σ0.2.1 47 to = 0 → (cw (σ.2.1 49) (31824 * r) 31824 : Int) ≤ C0)) → (∀ y, (y < 31824 * r + 144 * to ∨ 31824 * r + 144 * to + 144 ≤ y) → σ.2.1 49 y = σ0.2.1 49 y) → Tm (d + 1) m_X12_comes 304 b σ [(4, .int (iI n1)), (3, .int (iI w)), (0, .ref b), (1, .int (iI r)), (2, .int (iI to))] [] post) : ∀ (n : Nat) (w : Int) (n1 : Int) (σ : MS) , (Fr [] [49, 50, 51, 52, 53] [] σ0 σ) → (RG σ) → (0 ≤ n1 ∧ n1 ≤ 144 ∧ (w = 0 ∨ w = 1) ∧ (σ0.2.1 47 to = 0 → w = 1)) → (SSA σ) → ((σ0.2.1 47 to = 1 → (cw (σ.2.1 49) (31824 * r) 31824 : Int) + w ≤ C0) ∧ (σ0.2.1 47 to = 0 → (cw (σ.2.1 49) (31824 * r) 31824 : Int) ≤ C0)) → (σ0.2.1 47 to = 0 → ∀ n, n1 ≤ n → n < 144 → σ.2.1 49 (31824 * r + 144 * to + n) = 11) → (∀ y, (y < 31824 * r + 144 * to ∨ 31824 * r + 144 * to + 144 ≤ y) → σ.2.1 49 y = σ0.2.1 49 y) → (144 - n1).toNat = n → Tm (d + 1) m_X12_comes 18 b σ [(4, .int (iI n1)), (3, .int (iI w)), (0, .ref b), (1, .int (iI r)), (2, .int (iI to))] [] post := by
  intro n
  induction n using Nat.strongRecOn with
  | _ n ih =>
    intro w n1 σ hF hR h0 hss hcw hun hre hm
    refine tm_iload dX12_comes_18 0 rfl ?_
    refine tm_sipush dX12_comes_20 (by decide) ?_
    refine tm_icmp_ge (tgt := 304) dX12_comes_23 (by decide) ⟨by omega, by omega⟩ ⟨by decide, by decide⟩ (fun h1 => ?_) (fun h1 => ?_)
    · exact tm_sub [0, 1, 2, 3, 4] rfl (hx_304 (w) (n1) σ (Fr.rfl.trans (Fr.sub hF (by decide) (by decide) (by decide))) hR (by omega) hss hcw hre)
    · have hu0 : σ0.2.1 47 to = 0 → σ.2.1 49 (31824 * r + 144 * to + n1) = 11 := fun e => hun e n1 (by omega) (by omega)
      have e47 : σ.2.1 47 to = σ0.2.1 47 to := by rw [hF.2.1 47 (by decide)]
      refine tm_sipush dX12_comes_26 (by decide) ?_
      refine tm_iload_n dX12_comes_29 rfl 3 rfl ?_
      refine tm_imul dX12_comes_30 ?_
      refine tm_sipush dX12_comes_31 (by decide) ?_
      refine tm_iload_n dX12_comes_34 rfl 4 rfl ?_
      refine tm_imul dX12_comes_35 ?_
      refine tm_iadd dX12_comes_36 ?_
      refine tm_iload dX12_comes_37 0 rfl ?_
      refine tm_iadd dX12_comes_39 ?_
      refine tm_istore (L' := [(5, .int (iI (((31824 * r) + (144 * to)) + n1))), (4, .int (iI n1)), (3, .int (iI w)), (0, .ref b), (1, .int (iI r)), (2, .int (iI to))]) dX12_comes_40 (by decide) rfl ?_
      refine tm_aload_n dX12_comes_42 rfl 3 rfl ?_
      refine tm_get (k := 47) (v := .ref (b + 1 + 25)) lay_12 dX12_comes_43 (by decide) fl12_91 rfl ?_
      refine tm_iload_n dX12_comes_46 rfl 5 rfl ?_
      refine tm_zald (z := to) (v := σ0.2.1 47 to) dX12_comes_47 (show mT[25]? = some (47, 2, 221) from rfl) (by omega) (by omega) (by decide) (ra_F hF (by decide) (rfl)) ?_
      have g2 := RG.a hR0 47 (to)
      have := hbo (to)
      refine tm_if_eq (tgt := 140) dX12_comes_48 (by decide) ⟨by omega, by omega⟩ (fun h3 => ?_) (fun h3 => ?_)
      · refine tm_iconst dX12_comes_140 ?_
        refine tm_istore (L' := [(6, .int (iI 0)), (5, .int (iI (((31824 * r) + (144 * to)) + n1))), (4, .int (iI n1)), (3, .int (iI w)), (0, .ref b), (1, .int (iI r)), (2, .int (iI to))]) dX12_comes_141 (by decide) rfl ?_
        refine tm_iload dX12_comes_143 0 rfl ?_
        refine tm_if_ne (tgt := 298) dX12_comes_145 (by decide) ⟨by decide, by decide⟩ (fun h => absurd h (by decide)) (fun _ => ?_)
        refine tm_aload_n dX12_comes_148 rfl 4 rfl ?_
        refine tm_get (k := 47) (v := .ref (b + 1 + 25)) lay_12 dX12_comes_149 (by decide) fl12_91 rfl ?_
        refine tm_iload_n dX12_comes_152 rfl 6 rfl ?_
        refine tm_zald (z := to) (v := σ0.2.1 47 to) dX12_comes_153 (show mT[25]? = some (47, 2, 221) from rfl) (by omega) (by omega) (by decide) (ra_F hF (by decide) (rfl)) ?_
        have g5 := RG.a hR0 47 (to)
        have := hbo (to)
        refine tm_if_eq (tgt := 172) dX12_comes_154 (by decide) ⟨by omega, by omega⟩ (fun h6 => ?_) (fun h6 => ?_)
        · refine tm_sub [1, 2, 3, 4, 5, 6] rfl (b_comes (d) (σ0 := σ) (r := r) (to := to) (n1 := n1) (by omega) hR (by omega) (fun w13 σ14 F9 R10 f11 f12 => ?_) _ (w) σ Fr.rfl hR rfl rfl)
          show Tm _ _ 298 b σ14 [(5, .int (iI (31824 * r + 144 * to + n1))), (4, .int (iI n1)), (3, .int (iI w13)), (0, .ref b), (1, .int (iI r)), (2, .int (iI to))] [] _
          have hcs := f12
          rw [e47] at hcs
          have hcw2 := hcs.cw (lo := 31824 * r) (N := 31824) (by omega) (by omega) (by omega)
          refine tm_iinc (q0 := 1) (L' := [(4, .int (iI (n1 + 1))), (5, .int (iI (31824 * r + 144 * to + n1))), (3, .int (iI w13)), (0, .ref b), (1, .int (iI r)), (2, .int (iI to))]) dX12_comes_298 rfl (by decide) rfl ?_
          refine tm_goto (tgt := 18) dX12_comes_301 (by decide) ?_
          exact tm_sub [0, 2, 3, 4, 5] rfl (ih _ (by omega) (w13) (n1 + 1) σ14 ((Fr.rfl.trans (Fr.sub hF (by decide) (by decide) (by decide))).trans (Fr.sub F9 (by decide) (by decide) (by decide))) R10 (by omega) (by first | exact hss | exact hcs.ssa hss (hsc.fr hF (by decide))) (by omega) (fun e n a c => by first | exact hun e n (by omega) c | (rw [hcs.at (by omega)]; exact hun e n (by omega) c)) (fun y c => by first | exact hre y c | (rw [hcs.at (by omega)]; exact hre y c)) rfl)
        · exact absurd h6 (by omega)
      · refine tm_aload_n dX12_comes_51 rfl 3 rfl ?_
        refine tm_get (k := 49) (v := .ref (b + 1 + 27)) lay_12 dX12_comes_52 (by decide) fl12_99 rfl ?_
        refine tm_iload dX12_comes_55 0 rfl ?_
        refine tm_iald (z := ((31824 * r) + (144 * to)) + n1) (v := σ.2.1 49 (((31824 * r) + (144 * to)) + n1)) dX12_comes_57 (show mT[27]? = some (49, 0, 190944) from rfl) (by omega) (by omega) (by decide) (rfl) ?_
        have g15 := RG.a hR 49 (((31824 * r) + (144 * to)) + n1)
        refine tm_aload_n dX12_comes_58 rfl 3 rfl ?_
        refine tm_get (k := 54) (v := .ref (b + 1 + 32)) lay_12 dX12_comes_59 (by decide) fl12_114 rfl ?_
        refine tm_iload dX12_comes_62 1 rfl ?_
        refine tm_iald (z := n1) (v := σ0.2.1 54 n1) dX12_comes_64 (show mT[32]? = some (54, 0, 144) from rfl) (by omega) (by omega) (by decide) (ra_F hF (by decide) (rfl)) ?_
        have g16 := RG.a hR0 54 (n1)
        refine tm_icmp_ne (tgt := 140) dX12_comes_65 (by decide) ⟨by omega, by omega⟩ ⟨by omega, by omega⟩ (fun h17 => ?_) (fun h17 => ?_)
        · refine tm_iconst dX12_comes_140 ?_
          refine tm_istore (L' := [(6, .int (iI 0)), (5, .int (iI (((31824 * r) + (144 * to)) + n1))), (4, .int (iI n1)), (3, .int (iI w)), (0, .ref b), (1, .int (iI r)), (2, .int (iI to))]) dX12_comes_141 (by decide) rfl ?_
          refine tm_iload dX12_comes_143 0 rfl ?_
          refine tm_if_ne (tgt := 298) dX12_comes_145 (by decide) ⟨by decide, by decide⟩ (fun h => absurd h (by decide)) (fun _ => ?_)
          refine tm_aload_n dX12_comes_148 rfl 4 rfl ?_
          refine tm_get (k := 47) (v := .ref (b + 1 + 25)) lay_12 dX12_comes_149 (by decide) fl12_91 rfl ?_
          refine tm_iload_n dX12_comes_152 rfl 6 rfl ?_
          refine tm_zald (z := to) (v := σ0.2.1 47 to) dX12_comes_153 (show mT[25]? = some (47, 2, 221) from rfl) (by omega) (by omega) (by decide) (ra_F hF (by decide) (rfl)) ?_
          have g19 := RG.a hR0 47 (to)
          have := hbo (to)
          refine tm_if_eq (tgt := 172) dX12_comes_154 (by decide) ⟨by omega, by omega⟩ (fun h20 => ?_) (fun h20 => ?_)
          · exact absurd h20 (by omega)
          · refine tm_aload_n dX12_comes_157 rfl 4 rfl ?_
            refine tm_get (k := 49) (v := .ref (b + 1 + 27)) lay_12 dX12_comes_158 (by decide) fl12_99 rfl ?_
            refine tm_iload dX12_comes_161 1 rfl ?_
            refine tm_iald (z := ((31824 * r) + (144 * to)) + n1) (v := σ.2.1 49 (((31824 * r) + (144 * to)) + n1)) dX12_comes_163 (show mT[27]? = some (49, 0, 190944) from rfl) (by omega) (by omega) (by decide) (rfl) ?_
            have g21 := RG.a hR 49 (((31824 * r) + (144 * to)) + n1)
            refine tm_bipush dX12_comes_164 (by decide) ?_
            refine tm_icmp_ne (tgt := 172) dX12_comes_166 (by decide) ⟨by omega, by omega⟩ ⟨by decide, by decide⟩ (fun h22 => ?_) (fun h22 => ?_)
            · refine tm_sub [1, 2, 3, 4, 5, 6] rfl (b_comes (d) (σ0 := σ) (r := r) (to := to) (n1 := n1) (by omega) hR (by omega) (fun w29 σ30 F25 R26 f27 f28 => ?_) _ (w) σ Fr.rfl hR rfl rfl)
              show Tm _ _ 298 b σ30 [(5, .int (iI (31824 * r + 144 * to + n1))), (4, .int (iI n1)), (3, .int (iI w29)), (0, .ref b), (1, .int (iI r)), (2, .int (iI to))] [] _
              have hcs := f28
              rw [e47] at hcs
              have hcw2 := hcs.cw (lo := 31824 * r) (N := 31824) (by omega) (by omega) (by omega)
              refine tm_iinc (q0 := 1) (L' := [(4, .int (iI (n1 + 1))), (5, .int (iI (31824 * r + 144 * to + n1))), (3, .int (iI w29)), (0, .ref b), (1, .int (iI r)), (2, .int (iI to))]) dX12_comes_298 rfl (by decide) rfl ?_
              refine tm_goto (tgt := 18) dX12_comes_301 (by decide) ?_
              exact tm_sub [0, 2, 3, 4, 5] rfl (ih _ (by omega) (w29) (n1 + 1) σ30 ((Fr.rfl.trans (Fr.sub hF (by decide) (by decide) (by decide))).trans (Fr.sub F25 (by decide) (by decide) (by decide))) R26 (by omega) (by first | exact hss | exact hcs.ssa hss (hsc.fr hF (by decide))) (by omega) (fun e n a c => by first | exact hun e n (by omega) c | (rw [hcs.at (by omega)]; exact hun e n (by omega) c)) (fun y c => by first | exact hre y c | (rw [hcs.at (by omega)]; exact hre y c)) rfl)
            · refine tm_goto (tgt := 298) dX12_comes_169 (by decide) ?_
              refine tm_iinc (q0 := 2) (L' := [(4, .int (iI (n1 + 1))), (6, .int (iI 0)), (5, .int (iI (((31824 * r) + (144 * to)) + n1))), (3, .int (iI w)), (0, .ref b), (1, .int (iI r)), (2, .int (iI to))]) dX12_comes_298 rfl (by decide) rfl ?_
              refine tm_goto (tgt := 18) dX12_comes_301 (by decide) ?_
              exact tm_sub [0, 3, 4, 5, 6] rfl (ih _ (by omega) (w) (n1 + 1) σ (Fr.rfl.trans (Fr.sub hF (by decide) (by decide) (by decide))) hR (by omega) (by first | exact hss | exact hcs.ssa hss (hsc.fr hF (by decide))) (by omega) (fun e n a c => by first | exact hun e n (by omega) c | (rw [hcs.at (by omega)]; exact hun e n (by omega) c)) (fun y c => by first | exact hre y c | (rw [hcs.at (by omega)]; exact hre y c)) rfl)
        · refine tm_aload_n dX12_comes_68 rfl 3 rfl ?_
          refine tm_get (k := 50) (v := .ref (b + 1 + 28)) lay_12 dX12_comes_69 (by decide) fl12_102 rfl ?_
          refine tm_iload dX12_comes_72 0 rfl ?_
          refine tm_iald (z := ((31824 * r) + (144 * to)) + n1) (v := σ.2.1 50 (((31824 * r) + (144 * to)) + n1)) dX12_comes_74 (show mT[28]? = some (50, 0, 190944) from rfl) (by omega) (by omega) (by decide) (rfl) ?_
          have g31 := RG.a hR 50 (((31824 * r) + (144 * to)) + n1)
          refine tm_aload_n dX12_comes_75 rfl 3 rfl ?_
          refine tm_get (k := 55) (v := .ref (b + 1 + 33)) lay_12 dX12_comes_76 (by decide) fl12_117 rfl ?_
          refine tm_iload dX12_comes_79 1 rfl ?_
          refine tm_iald (z := n1) (v := σ0.2.1 55 n1) dX12_comes_81 (show mT[33]? = some (55, 0, 144) from rfl) (by omega) (by omega) (by decide) (ra_F hF (by decide) (rfl)) ?_
          have g32 := RG.a hR0 55 (n1)
          refine tm_icmp_ne (tgt := 140) dX12_comes_82 (by decide) ⟨by omega, by omega⟩ ⟨by omega, by omega⟩ (fun h33 => ?_) (fun h33 => ?_)
          · refine tm_iconst dX12_comes_140 ?_
            refine tm_istore (L' := [(6, .int (iI 0)), (5, .int (iI (((31824 * r) + (144 * to)) + n1))), (4, .int (iI n1)), (3, .int (iI w)), (0, .ref b), (1, .int (iI r)), (2, .int (iI to))]) dX12_comes_141 (by decide) rfl ?_
            refine tm_iload dX12_comes_143 0 rfl ?_
            refine tm_if_ne (tgt := 298) dX12_comes_145 (by decide) ⟨by decide, by decide⟩ (fun h => absurd h (by decide)) (fun _ => ?_)
            refine tm_aload_n dX12_comes_148 rfl 4 rfl ?_
            refine tm_get (k := 47) (v := .ref (b + 1 + 25)) lay_12 dX12_comes_149 (by decide) fl12_91 rfl ?_
            refine tm_iload_n dX12_comes_152 rfl 6 rfl ?_
            refine tm_zald (z := to) (v := σ0.2.1 47 to) dX12_comes_153 (show mT[25]? = some (47, 2, 221) from rfl) (by omega) (by omega) (by decide) (ra_F hF (by decide) (rfl)) ?_
            have g35 := RG.a hR0 47 (to)
            have := hbo (to)
            refine tm_if_eq (tgt := 172) dX12_comes_154 (by decide) ⟨by omega, by omega⟩ (fun h36 => ?_) (fun h36 => ?_)
            · exact absurd h36 (by omega)
            · refine tm_aload_n dX12_comes_157 rfl 4 rfl ?_
              refine tm_get (k := 49) (v := .ref (b + 1 + 27)) lay_12 dX12_comes_158 (by decide) fl12_99 rfl ?_
              refine tm_iload dX12_comes_161 1 rfl ?_
              refine tm_iald (z := ((31824 * r) + (144 * to)) + n1) (v := σ.2.1 49 (((31824 * r) + (144 * to)) + n1)) dX12_comes_163 (show mT[27]? = some (49, 0, 190944) from rfl) (by omega) (by omega) (by decide) (rfl) ?_
              have g37 := RG.a hR 49 (((31824 * r) + (144 * to)) + n1)
              refine tm_bipush dX12_comes_164 (by decide) ?_
              refine tm_icmp_ne (tgt := 172) dX12_comes_166 (by decide) ⟨by omega, by omega⟩ ⟨by decide, by decide⟩ (fun h38 => ?_) (fun h38 => ?_)
              · refine tm_sub [1, 2, 3, 4, 5, 6] rfl (b_comes (d) (σ0 := σ) (r := r) (to := to) (n1 := n1) (by omega) hR (by omega) (fun w45 σ46 F41 R42 f43 f44 => ?_) _ (w) σ Fr.rfl hR rfl rfl)
                show Tm _ _ 298 b σ46 [(5, .int (iI (31824 * r + 144 * to + n1))), (4, .int (iI n1)), (3, .int (iI w45)), (0, .ref b), (1, .int (iI r)), (2, .int (iI to))] [] _
                have hcs := f44
                rw [e47] at hcs
                have hcw2 := hcs.cw (lo := 31824 * r) (N := 31824) (by omega) (by omega) (by omega)
                refine tm_iinc (q0 := 1) (L' := [(4, .int (iI (n1 + 1))), (5, .int (iI (31824 * r + 144 * to + n1))), (3, .int (iI w45)), (0, .ref b), (1, .int (iI r)), (2, .int (iI to))]) dX12_comes_298 rfl (by decide) rfl ?_
                refine tm_goto (tgt := 18) dX12_comes_301 (by decide) ?_
                exact tm_sub [0, 2, 3, 4, 5] rfl (ih _ (by omega) (w45) (n1 + 1) σ46 ((Fr.rfl.trans (Fr.sub hF (by decide) (by decide) (by decide))).trans (Fr.sub F41 (by decide) (by decide) (by decide))) R42 (by omega) (by first | exact hss | exact hcs.ssa hss (hsc.fr hF (by decide))) (by omega) (fun e n a c => by first | exact hun e n (by omega) c | (rw [hcs.at (by omega)]; exact hun e n (by omega) c)) (fun y c => by first | exact hre y c | (rw [hcs.at (by omega)]; exact hre y c)) rfl)
              · refine tm_goto (tgt := 298) dX12_comes_169 (by decide) ?_
                refine tm_iinc (q0 := 2) (L' := [(4, .int (iI (n1 + 1))), (6, .int (iI 0)), (5, .int (iI (((31824 * r) + (144 * to)) + n1))), (3, .int (iI w)), (0, .ref b), (1, .int (iI r)), (2, .int (iI to))]) dX12_comes_298 rfl (by decide) rfl ?_
                refine tm_goto (tgt := 18) dX12_comes_301 (by decide) ?_
                exact tm_sub [0, 3, 4, 5, 6] rfl (ih _ (by omega) (w) (n1 + 1) σ (Fr.rfl.trans (Fr.sub hF (by decide) (by decide) (by decide))) hR (by omega) (by first | exact hss | exact hcs.ssa hss (hsc.fr hF (by decide))) (by omega) (fun e n a c => by first | exact hun e n (by omega) c | (rw [hcs.at (by omega)]; exact hun e n (by omega) c)) (fun y c => by first | exact hre y c | (rw [hcs.at (by omega)]; exact hre y c)) rfl)
          · refine tm_aload_n dX12_comes_85 rfl 3 rfl ?_
            refine tm_get (k := 51) (v := .ref (b + 1 + 29)) lay_12 dX12_comes_86 (by decide) fl12_105 rfl ?_
            refine tm_iload dX12_comes_89 0 rfl ?_
            refine tm_iald (z := ((31824 * r) + (144 * to)) + n1) (v := σ.2.1 51 (((31824 * r) + (144 * to)) + n1)) dX12_comes_91 (show mT[29]? = some (51, 0, 190944) from rfl) (by omega) (by omega) (by decide) (rfl) ?_
            have g47 := RG.a hR 51 (((31824 * r) + (144 * to)) + n1)
            refine tm_aload_n dX12_comes_92 rfl 3 rfl ?_
            refine tm_get (k := 56) (v := .ref (b + 1 + 34)) lay_12 dX12_comes_93 (by decide) fl12_120 rfl ?_
            refine tm_iload dX12_comes_96 1 rfl ?_
            refine tm_iald (z := n1) (v := σ0.2.1 56 n1) dX12_comes_98 (show mT[34]? = some (56, 0, 144) from rfl) (by omega) (by omega) (by decide) (ra_F hF (by decide) (rfl)) ?_
            have g48 := RG.a hR0 56 (n1)
            refine tm_icmp_ne (tgt := 140) dX12_comes_99 (by decide) ⟨by omega, by omega⟩ ⟨by omega, by omega⟩ (fun h49 => ?_) (fun h49 => ?_)
            · refine tm_iconst dX12_comes_140 ?_
              refine tm_istore (L' := [(6, .int (iI 0)), (5, .int (iI (((31824 * r) + (144 * to)) + n1))), (4, .int (iI n1)), (3, .int (iI w)), (0, .ref b), (1, .int (iI r)), (2, .int (iI to))]) dX12_comes_141 (by decide) rfl ?_
              refine tm_iload dX12_comes_143 0 rfl ?_
              refine tm_if_ne (tgt := 298) dX12_comes_145 (by decide) ⟨by decide, by decide⟩ (fun h => absurd h (by decide)) (fun _ => ?_)
              refine tm_aload_n dX12_comes_148 rfl 4 rfl ?_
              refine tm_get (k := 47) (v := .ref (b + 1 + 25)) lay_12 dX12_comes_149 (by decide) fl12_91 rfl ?_
              refine tm_iload_n dX12_comes_152 rfl 6 rfl ?_
              refine tm_zald (z := to) (v := σ0.2.1 47 to) dX12_comes_153 (show mT[25]? = some (47, 2, 221) from rfl) (by omega) (by omega) (by decide) (ra_F hF (by decide) (rfl)) ?_
              have g51 := RG.a hR0 47 (to)
              have := hbo (to)
              refine tm_if_eq (tgt := 172) dX12_comes_154 (by decide) ⟨by omega, by omega⟩ (fun h52 => ?_) (fun h52 => ?_)
              · exact absurd h52 (by omega)
              · refine tm_aload_n dX12_comes_157 rfl 4 rfl ?_
                refine tm_get (k := 49) (v := .ref (b + 1 + 27)) lay_12 dX12_comes_158 (by decide) fl12_99 rfl ?_
                refine tm_iload dX12_comes_161 1 rfl ?_
                refine tm_iald (z := ((31824 * r) + (144 * to)) + n1) (v := σ.2.1 49 (((31824 * r) + (144 * to)) + n1)) dX12_comes_163 (show mT[27]? = some (49, 0, 190944) from rfl) (by omega) (by omega) (by decide) (rfl) ?_
                have g53 := RG.a hR 49 (((31824 * r) + (144 * to)) + n1)
                refine tm_bipush dX12_comes_164 (by decide) ?_
                refine tm_icmp_ne (tgt := 172) dX12_comes_166 (by decide) ⟨by omega, by omega⟩ ⟨by decide, by decide⟩ (fun h54 => ?_) (fun h54 => ?_)
                · refine tm_sub [1, 2, 3, 4, 5, 6] rfl (b_comes (d) (σ0 := σ) (r := r) (to := to) (n1 := n1) (by omega) hR (by omega) (fun w61 σ62 F57 R58 f59 f60 => ?_) _ (w) σ Fr.rfl hR rfl rfl)
                  show Tm _ _ 298 b σ62 [(5, .int (iI (31824 * r + 144 * to + n1))), (4, .int (iI n1)), (3, .int (iI w61)), (0, .ref b), (1, .int (iI r)), (2, .int (iI to))] [] _
                  have hcs := f60
                  rw [e47] at hcs
                  have hcw2 := hcs.cw (lo := 31824 * r) (N := 31824) (by omega) (by omega) (by omega)
                  refine tm_iinc (q0 := 1) (L' := [(4, .int (iI (n1 + 1))), (5, .int (iI (31824 * r + 144 * to + n1))), (3, .int (iI w61)), (0, .ref b), (1, .int (iI r)), (2, .int (iI to))]) dX12_comes_298 rfl (by decide) rfl ?_
                  refine tm_goto (tgt := 18) dX12_comes_301 (by decide) ?_
                  exact tm_sub [0, 2, 3, 4, 5] rfl (ih _ (by omega) (w61) (n1 + 1) σ62 ((Fr.rfl.trans (Fr.sub hF (by decide) (by decide) (by decide))).trans (Fr.sub F57 (by decide) (by decide) (by decide))) R58 (by omega) (by first | exact hss | exact hcs.ssa hss (hsc.fr hF (by decide))) (by omega) (fun e n a c => by first | exact hun e n (by omega) c | (rw [hcs.at (by omega)]; exact hun e n (by omega) c)) (fun y c => by first | exact hre y c | (rw [hcs.at (by omega)]; exact hre y c)) rfl)
                · refine tm_goto (tgt := 298) dX12_comes_169 (by decide) ?_
                  refine tm_iinc (q0 := 2) (L' := [(4, .int (iI (n1 + 1))), (6, .int (iI 0)), (5, .int (iI (((31824 * r) + (144 * to)) + n1))), (3, .int (iI w)), (0, .ref b), (1, .int (iI r)), (2, .int (iI to))]) dX12_comes_298 rfl (by decide) rfl ?_
                  refine tm_goto (tgt := 18) dX12_comes_301 (by decide) ?_
                  exact tm_sub [0, 3, 4, 5, 6] rfl (ih _ (by omega) (w) (n1 + 1) σ (Fr.rfl.trans (Fr.sub hF (by decide) (by decide) (by decide))) hR (by omega) (by first | exact hss | exact hcs.ssa hss (hsc.fr hF (by decide))) (by omega) (fun e n a c => by first | exact hun e n (by omega) c | (rw [hcs.at (by omega)]; exact hun e n (by omega) c)) (fun y c => by first | exact hre y c | (rw [hcs.at (by omega)]; exact hre y c)) rfl)
            · refine tm_aload_n dX12_comes_102 rfl 3 rfl ?_
              refine tm_get (k := 52) (v := .ref (b + 1 + 30)) lay_12 dX12_comes_103 (by decide) fl12_108 rfl ?_
              refine tm_iload dX12_comes_106 0 rfl ?_
              refine tm_iald (z := ((31824 * r) + (144 * to)) + n1) (v := σ.2.1 52 (((31824 * r) + (144 * to)) + n1)) dX12_comes_108 (show mT[30]? = some (52, 0, 190944) from rfl) (by omega) (by omega) (by decide) (rfl) ?_
              have g63 := RG.a hR 52 (((31824 * r) + (144 * to)) + n1)
              refine tm_aload_n dX12_comes_109 rfl 3 rfl ?_
              refine tm_get (k := 57) (v := .ref (b + 1 + 35)) lay_12 dX12_comes_110 (by decide) fl12_123 rfl ?_
              refine tm_iload dX12_comes_113 1 rfl ?_
              refine tm_iald (z := n1) (v := σ0.2.1 57 n1) dX12_comes_115 (show mT[35]? = some (57, 0, 144) from rfl) (by omega) (by omega) (by decide) (ra_F hF (by decide) (rfl)) ?_
              have g64 := RG.a hR0 57 (n1)
              refine tm_icmp_ne (tgt := 140) dX12_comes_116 (by decide) ⟨by omega, by omega⟩ ⟨by omega, by omega⟩ (fun h65 => ?_) (fun h65 => ?_)
              · refine tm_iconst dX12_comes_140 ?_
                refine tm_istore (L' := [(6, .int (iI 0)), (5, .int (iI (((31824 * r) + (144 * to)) + n1))), (4, .int (iI n1)), (3, .int (iI w)), (0, .ref b), (1, .int (iI r)), (2, .int (iI to))]) dX12_comes_141 (by decide) rfl ?_
                refine tm_iload dX12_comes_143 0 rfl ?_
                refine tm_if_ne (tgt := 298) dX12_comes_145 (by decide) ⟨by decide, by decide⟩ (fun h => absurd h (by decide)) (fun _ => ?_)
                refine tm_aload_n dX12_comes_148 rfl 4 rfl ?_
                refine tm_get (k := 47) (v := .ref (b + 1 + 25)) lay_12 dX12_comes_149 (by decide) fl12_91 rfl ?_
                refine tm_iload_n dX12_comes_152 rfl 6 rfl ?_
                refine tm_zald (z := to) (v := σ0.2.1 47 to) dX12_comes_153 (show mT[25]? = some (47, 2, 221) from rfl) (by omega) (by omega) (by decide) (ra_F hF (by decide) (rfl)) ?_
                have g67 := RG.a hR0 47 (to)
                have := hbo (to)
                refine tm_if_eq (tgt := 172) dX12_comes_154 (by decide) ⟨by omega, by omega⟩ (fun h68 => ?_) (fun h68 => ?_)
                · exact absurd h68 (by omega)
                · refine tm_aload_n dX12_comes_157 rfl 4 rfl ?_
                  refine tm_get (k := 49) (v := .ref (b + 1 + 27)) lay_12 dX12_comes_158 (by decide) fl12_99 rfl ?_
                  refine tm_iload dX12_comes_161 1 rfl ?_
                  refine tm_iald (z := ((31824 * r) + (144 * to)) + n1) (v := σ.2.1 49 (((31824 * r) + (144 * to)) + n1)) dX12_comes_163 (show mT[27]? = some (49, 0, 190944) from rfl) (by omega) (by omega) (by decide) (rfl) ?_
                  have g69 := RG.a hR 49 (((31824 * r) + (144 * to)) + n1)
                  refine tm_bipush dX12_comes_164 (by decide) ?_
                  refine tm_icmp_ne (tgt := 172) dX12_comes_166 (by decide) ⟨by omega, by omega⟩ ⟨by decide, by decide⟩ (fun h70 => ?_) (fun h70 => ?_)
                  · refine tm_sub [1, 2, 3, 4, 5, 6] rfl (b_comes (d) (σ0 := σ) (r := r) (to := to) (n1 := n1) (by omega) hR (by omega) (fun w77 σ78 F73 R74 f75 f76 => ?_) _ (w) σ Fr.rfl hR rfl rfl)
                    show Tm _ _ 298 b σ78 [(5, .int (iI (31824 * r + 144 * to + n1))), (4, .int (iI n1)), (3, .int (iI w77)), (0, .ref b), (1, .int (iI r)), (2, .int (iI to))] [] _
                    have hcs := f76
                    rw [e47] at hcs
                    have hcw2 := hcs.cw (lo := 31824 * r) (N := 31824) (by omega) (by omega) (by omega)
                    refine tm_iinc (q0 := 1) (L' := [(4, .int (iI (n1 + 1))), (5, .int (iI (31824 * r + 144 * to + n1))), (3, .int (iI w77)), (0, .ref b), (1, .int (iI r)), (2, .int (iI to))]) dX12_comes_298 rfl (by decide) rfl ?_
                    refine tm_goto (tgt := 18) dX12_comes_301 (by decide) ?_
                    exact tm_sub [0, 2, 3, 4, 5] rfl (ih _ (by omega) (w77) (n1 + 1) σ78 ((Fr.rfl.trans (Fr.sub hF (by decide) (by decide) (by decide))).trans (Fr.sub F73 (by decide) (by decide) (by decide))) R74 (by omega) (by first | exact hss | exact hcs.ssa hss (hsc.fr hF (by decide))) (by omega) (fun e n a c => by first | exact hun e n (by omega) c | (rw [hcs.at (by omega)]; exact hun e n (by omega) c)) (fun y c => by first | exact hre y c | (rw [hcs.at (by omega)]; exact hre y c)) rfl)
                  · refine tm_goto (tgt := 298) dX12_comes_169 (by decide) ?_
                    refine tm_iinc (q0 := 2) (L' := [(4, .int (iI (n1 + 1))), (6, .int (iI 0)), (5, .int (iI (((31824 * r) + (144 * to)) + n1))), (3, .int (iI w)), (0, .ref b), (1, .int (iI r)), (2, .int (iI to))]) dX12_comes_298 rfl (by decide) rfl ?_
                    refine tm_goto (tgt := 18) dX12_comes_301 (by decide) ?_
                    exact tm_sub [0, 3, 4, 5, 6] rfl (ih _ (by omega) (w) (n1 + 1) σ (Fr.rfl.trans (Fr.sub hF (by decide) (by decide) (by decide))) hR (by omega) (by first | exact hss | exact hcs.ssa hss (hsc.fr hF (by decide))) (by omega) (fun e n a c => by first | exact hun e n (by omega) c | (rw [hcs.at (by omega)]; exact hun e n (by omega) c)) (fun y c => by first | exact hre y c | (rw [hcs.at (by omega)]; exact hre y c)) rfl)
              · refine tm_aload_n dX12_comes_119 rfl 3 rfl ?_
                refine tm_get (k := 53) (v := .ref (b + 1 + 31)) lay_12 dX12_comes_120 (by decide) fl12_111 rfl ?_
                refine tm_iload dX12_comes_123 0 rfl ?_
                refine tm_iald (z := ((31824 * r) + (144 * to)) + n1) (v := σ.2.1 53 (((31824 * r) + (144 * to)) + n1)) dX12_comes_125 (show mT[31]? = some (53, 0, 190944) from rfl) (by omega) (by omega) (by decide) (rfl) ?_
                have g79 := RG.a hR 53 (((31824 * r) + (144 * to)) + n1)
                refine tm_aload_n dX12_comes_126 rfl 3 rfl ?_
                refine tm_get (k := 58) (v := .ref (b + 1 + 36)) lay_12 dX12_comes_127 (by decide) fl12_126 rfl ?_
                refine tm_iload dX12_comes_130 1 rfl ?_
                refine tm_iald (z := n1) (v := σ0.2.1 58 n1) dX12_comes_132 (show mT[36]? = some (58, 0, 144) from rfl) (by omega) (by omega) (by decide) (ra_F hF (by decide) (rfl)) ?_
                have g80 := RG.a hR0 58 (n1)
                refine tm_icmp_ne (tgt := 140) dX12_comes_133 (by decide) ⟨by omega, by omega⟩ ⟨by omega, by omega⟩ (fun h81 => ?_) (fun h81 => ?_)
                · refine tm_iconst dX12_comes_140 ?_
                  refine tm_istore (L' := [(6, .int (iI 0)), (5, .int (iI (((31824 * r) + (144 * to)) + n1))), (4, .int (iI n1)), (3, .int (iI w)), (0, .ref b), (1, .int (iI r)), (2, .int (iI to))]) dX12_comes_141 (by decide) rfl ?_
                  refine tm_iload dX12_comes_143 0 rfl ?_
                  refine tm_if_ne (tgt := 298) dX12_comes_145 (by decide) ⟨by decide, by decide⟩ (fun h => absurd h (by decide)) (fun _ => ?_)
                  refine tm_aload_n dX12_comes_148 rfl 4 rfl ?_
                  refine tm_get (k := 47) (v := .ref (b + 1 + 25)) lay_12 dX12_comes_149 (by decide) fl12_91 rfl ?_
                  refine tm_iload_n dX12_comes_152 rfl 6 rfl ?_
                  refine tm_zald (z := to) (v := σ0.2.1 47 to) dX12_comes_153 (show mT[25]? = some (47, 2, 221) from rfl) (by omega) (by omega) (by decide) (ra_F hF (by decide) (rfl)) ?_
                  have g83 := RG.a hR0 47 (to)
                  have := hbo (to)
                  refine tm_if_eq (tgt := 172) dX12_comes_154 (by decide) ⟨by omega, by omega⟩ (fun h84 => ?_) (fun h84 => ?_)
                  · exact absurd h84 (by omega)
                  · refine tm_aload_n dX12_comes_157 rfl 4 rfl ?_
                    refine tm_get (k := 49) (v := .ref (b + 1 + 27)) lay_12 dX12_comes_158 (by decide) fl12_99 rfl ?_
                    refine tm_iload dX12_comes_161 1 rfl ?_
                    refine tm_iald (z := ((31824 * r) + (144 * to)) + n1) (v := σ.2.1 49 (((31824 * r) + (144 * to)) + n1)) dX12_comes_163 (show mT[27]? = some (49, 0, 190944) from rfl) (by omega) (by omega) (by decide) (rfl) ?_
                    have g85 := RG.a hR 49 (((31824 * r) + (144 * to)) + n1)
                    refine tm_bipush dX12_comes_164 (by decide) ?_
                    refine tm_icmp_ne (tgt := 172) dX12_comes_166 (by decide) ⟨by omega, by omega⟩ ⟨by decide, by decide⟩ (fun h86 => ?_) (fun h86 => ?_)
                    · refine tm_sub [1, 2, 3, 4, 5, 6] rfl (b_comes (d) (σ0 := σ) (r := r) (to := to) (n1 := n1) (by omega) hR (by omega) (fun w93 σ94 F89 R90 f91 f92 => ?_) _ (w) σ Fr.rfl hR rfl rfl)
                      show Tm _ _ 298 b σ94 [(5, .int (iI (31824 * r + 144 * to + n1))), (4, .int (iI n1)), (3, .int (iI w93)), (0, .ref b), (1, .int (iI r)), (2, .int (iI to))] [] _
                      have hcs := f92
                      rw [e47] at hcs
                      have hcw2 := hcs.cw (lo := 31824 * r) (N := 31824) (by omega) (by omega) (by omega)
                      refine tm_iinc (q0 := 1) (L' := [(4, .int (iI (n1 + 1))), (5, .int (iI (31824 * r + 144 * to + n1))), (3, .int (iI w93)), (0, .ref b), (1, .int (iI r)), (2, .int (iI to))]) dX12_comes_298 rfl (by decide) rfl ?_
                      refine tm_goto (tgt := 18) dX12_comes_301 (by decide) ?_
                      exact tm_sub [0, 2, 3, 4, 5] rfl (ih _ (by omega) (w93) (n1 + 1) σ94 ((Fr.rfl.trans (Fr.sub hF (by decide) (by decide) (by decide))).trans (Fr.sub F89 (by decide) (by decide) (by decide))) R90 (by omega) (by first | exact hss | exact hcs.ssa hss (hsc.fr hF (by decide))) (by omega) (fun e n a c => by first | exact hun e n (by omega) c | (rw [hcs.at (by omega)]; exact hun e n (by omega) c)) (fun y c => by first | exact hre y c | (rw [hcs.at (by omega)]; exact hre y c)) rfl)
                    · refine tm_goto (tgt := 298) dX12_comes_169 (by decide) ?_
                      refine tm_iinc (q0 := 2) (L' := [(4, .int (iI (n1 + 1))), (6, .int (iI 0)), (5, .int (iI (((31824 * r) + (144 * to)) + n1))), (3, .int (iI w)), (0, .ref b), (1, .int (iI r)), (2, .int (iI to))]) dX12_comes_298 rfl (by decide) rfl ?_
                      refine tm_goto (tgt := 18) dX12_comes_301 (by decide) ?_
                      exact tm_sub [0, 3, 4, 5, 6] rfl (ih _ (by omega) (w) (n1 + 1) σ (Fr.rfl.trans (Fr.sub hF (by decide) (by decide) (by decide))) hR (by omega) (by first | exact hss | exact hcs.ssa hss (hsc.fr hF (by decide))) (by omega) (fun e n a c => by first | exact hun e n (by omega) c | (rw [hcs.at (by omega)]; exact hun e n (by omega) c)) (fun y c => by first | exact hre y c | (rw [hcs.at (by omega)]; exact hre y c)) rfl)
                · refine tm_iconst dX12_comes_136 ?_
                  refine tm_goto (tgt := 141) dX12_comes_137 (by decide) ?_
                  refine tm_istore (L' := [(6, .int (iI 1)), (5, .int (iI (((31824 * r) + (144 * to)) + n1))), (4, .int (iI n1)), (3, .int (iI w)), (0, .ref b), (1, .int (iI r)), (2, .int (iI to))]) dX12_comes_141 (by decide) rfl ?_
                  refine tm_iload dX12_comes_143 0 rfl ?_
                  refine tm_if_ne (tgt := 298) dX12_comes_145 (by decide) ⟨by decide, by decide⟩ (fun _ => ?_) (fun h => absurd h (by decide))
                  refine tm_iinc (q0 := 2) (L' := [(4, .int (iI (n1 + 1))), (6, .int (iI 1)), (5, .int (iI (((31824 * r) + (144 * to)) + n1))), (3, .int (iI w)), (0, .ref b), (1, .int (iI r)), (2, .int (iI to))]) dX12_comes_298 rfl (by decide) rfl ?_
                  refine tm_goto (tgt := 18) dX12_comes_301 (by decide) ?_
                  exact tm_sub [0, 3, 4, 5, 6] rfl (ih _ (by omega) (w) (n1 + 1) σ (Fr.rfl.trans (Fr.sub hF (by decide) (by decide) (by decide))) hR (by omega) (by first | exact hss | exact hcs.ssa hss (hsc.fr hF (by decide))) (by omega) (fun e n a c => by first | exact hun e n (by omega) c | (rw [hcs.at (by omega)]; exact hun e n (by omega) c)) (fun y c => by first | exact hre y c | (rw [hcs.at (by omega)]; exact hre y c)) rfl)
theorem dX12_comes_0 : decode cX12_comes 0 = .ok (.aload_n 0, 1) := by decide +kernel
theorem dX12_comes_1 : decode cX12_comes 1 = .ok (.getfield 91, 3) := by decide +kernel
theorem dX12_comes_4 : decode cX12_comes 4 = .ok (.iload_n 2, 1) := by decide +kernel
theorem dX12_comes_5 : decode cX12_comes 5 = .ok (.baload, 1) := by decide +kernel
theorem dX12_comes_6 : decode cX12_comes 6 = .ok (.ifCond .ne 7, 3) := by decide +kernel
theorem dX12_comes_13 : decode cX12_comes 13 = .ok (.iconst 0, 1) := by decide +kernel
theorem dX12_comes_14 : decode cX12_comes 14 = .ok (.istore_n 3, 1) := by decide +kernel
theorem dX12_comes_15 : decode cX12_comes 15 = .ok (.iconst 0, 1) := by decide +kernel
theorem dX12_comes_16 : decode cX12_comes 16 = .ok (.istore 4, 2) := by decide +kernel
theorem dX12_comes_304 : decode cX12_comes 304 = .ok (.aload_n 0, 1) := by decide +kernel
theorem dX12_comes_305 : decode cX12_comes 305 = .ok (.getfield 91, 3) := by decide +kernel
theorem dX12_comes_308 : decode cX12_comes 308 = .ok (.iload_n 2, 1) := by decide +kernel
theorem dX12_comes_309 : decode cX12_comes 309 = .ok (.iconst 1, 1) := by decide +kernel
theorem dX12_comes_310 : decode cX12_comes 310 = .ok (.bastore, 1) := by decide +kernel
theorem dX12_comes_311 : decode cX12_comes 311 = .ok (.iload_n 3, 1) := by decide +kernel
theorem dX12_comes_312 : decode cX12_comes 312 = .ok (.ireturn, 1) := by decide +kernel
theorem dX12_comes_9 : decode cX12_comes 9 = .ok (.iconst 1, 1) := by decide +kernel
theorem dX12_comes_10 : decode cX12_comes 10 = .ok (.goto 4, 3) := by decide +kernel
set_option maxHeartbeats 40000000 in
set_option maxRecDepth 20000 in
theorem c_X12_comes (d : Nat) {b : Nat} {σ : MS} {r : Int} {to : Int} {m : Int} (hr : 0 ≤ r ∧ r < 6) (hR : RG σ) (hbo : BO 47 σ) (hsc : SCA σ) (hss : SSA σ) (hto : 0 ≤ to ∧ to ≤ m ∧ m ≤ 220) (hun : UNR σ r m) : Tm (d + 1) m_X12_comes 0 b σ [(0, .ref b), (1, .int (iI r)), (2, .int (iI to))] [] (fun ro σ2 => ∃ v : Int, ro = some (.int (iI v)) ∧ ((v = 0 ∨ v = 1)) ∧ (Fr [] [47, 49, 50, 51, 52, 53] [] σ σ2) ∧ (RG σ2) ∧ (BO 47 σ2) ∧ (SSA σ2) ∧ (UNR σ2 r m) ∧ ((cz (σ2.2.1 47) 221 : Int) + (cw (σ2.2.1 49) (31824 * r) 31824 : Int) + v ≤ (cz (σ.2.1 47) 221 : Int) + (cw (σ.2.1 49) (31824 * r) 31824 : Int)) ∧ (σ2.2.1 47 to = 1) ∧ (∀ k, σ.2.1 47 k = 1 → σ2.2.1 47 k = 1)) := by
  refine tm_aload_n dX12_comes_0 rfl 0 rfl ?_
  refine tm_get (k := 47) (v := .ref (b + 1 + 25)) lay_12 dX12_comes_1 (by decide) fl12_91 rfl ?_
  refine tm_iload_n dX12_comes_4 rfl 2 rfl ?_
  refine tm_zald (z := to) (v := σ.2.1 47 to) dX12_comes_5 (show mT[25]? = some (47, 2, 221) from rfl) (by omega) (by omega) (by decide) (rfl) ?_
  have g1 := RG.a hR 47 (to)
  have := hbo (to)
  refine tm_if_ne (tgt := 13) dX12_comes_6 (by decide) ⟨by omega, by omega⟩ (fun h2 => ?_) (fun h2 => ?_)
  · refine tm_iconst dX12_comes_13 ?_
    refine tm_istore_n (L' := [(3, .int (iI 0)), (0, .ref b), (1, .int (iI r)), (2, .int (iI to))]) dX12_comes_14 rfl (by decide) rfl ?_
    refine tm_iconst dX12_comes_15 ?_
    refine tm_istore (L' := [(4, .int (iI 0)), (3, .int (iI 0)), (0, .ref b), (1, .int (iI r)), (2, .int (iI to))]) dX12_comes_16 (by decide) rfl ?_
    refine tm_sub [0, 1, 2, 3, 4] rfl (l_comes (d) (σ0 := σ) (r := r) (to := to) (C0 := (cw (σ.2.1 49) (31824 * r) 31824 : Int)) (by omega) hR (by omega) hbo hsc (fun w12 n113 σ14 F6 R7 f8 f9 f10 f11 => ?_) _ (0) (0) σ Fr.rfl hR (by omega) hss (by omega) (fun e n a c => hun to (by omega) (by omega) e n a c) (fun y _ => rfl) rfl)
    show Tm _ _ 304 b σ14 [(4, .int (iI n113)), (3, .int (iI w12)), (0, .ref b), (1, .int (iI r)), (2, .int (iI to))] [] _
    refine tm_aload_n dX12_comes_304 rfl 2 rfl ?_
    refine tm_get (k := 47) (v := .ref (b + 1 + 25)) lay_12 dX12_comes_305 (by decide) fl12_91 rfl ?_
    refine tm_iload_n dX12_comes_308 rfl 4 rfl ?_
    refine tm_iconst dX12_comes_309 ?_
    refine tm_zast (z := to) (v := 1) dX12_comes_310 (show mT[25]? = some (47, 2, 221) from rfl) (by omega) (by omega) (by decide) (by omega) ?_
    refine tm_iload_n dX12_comes_311 rfl 1 rfl ?_
    exact tm_zret (v := w12) rfl (by omega) dX12_comes_312 (⟨_, rfl, by omega, ((Fr.rfl.trans (Fr.sub F6 (by decide) (by decide) (by decide))).A (by decide)), (R7.A (by omega)), BO.A (hbo.fr F6 (by decide)) (by omega), SSA.fr f9 ((Fr.rfl (ss := []) (ks := [47]) (js := [])).A (by decide)) (by decide), fun k a c e n g i => by
      by_cases q : k = to
      · subst q; exact absurd (e.symm.trans ra_eq) (by decide)
      · have e2 : σ.2.1 47 k = 0 := by rw [← F6.2.1 47 (by decide)]; exact (ra_ne q rfl).symm.trans e
        exact ra_o (by decide) ((f11 _ (by omega)).trans (hun k a c e2 n g i)), by
      have e9 : cw ((sA 47 to 1 σ14).2.1 49) (31824 * r) 31824 = cw (σ14.2.1 49) (31824 * r) 31824 := rfl
      have e8 := cz_fr (n := 221) F6 (k := 47) (by decide)
      have e7 : σ14.2.1 47 to = σ.2.1 47 to := by rw [F6.2.1 47 (by decide)]
      rcases hbo to with e | e
      · have := cz_sA (σ := σ14) (k := 47) (n := 221) (z := to) (v := 1) (by omega) (by omega) (by omega) (by decide)
        omega
      · have e6 : cz ((sA 47 to 1 σ14).2.1 47) 221 = cz (σ14.2.1 47) 221 := cz_ext _ (fun j a c => by
          by_cases q : j = to
          · subst q; rw [e7, e]; exact ra_eq
          · exact ra_ne q rfl)
        omega, ra_eq, fun k e => by
      by_cases q : k = to
      · subst q; exact ra_eq
      · exact ra_ne q (by rw [F6.2.1 47 (by decide)]; exact e)⟩)
  · refine tm_iconst dX12_comes_9 ?_
    refine tm_goto (tgt := 14) dX12_comes_10 (by decide) ?_
    refine tm_istore_n (L' := [(3, .int (iI 1)), (0, .ref b), (1, .int (iI r)), (2, .int (iI to))]) dX12_comes_14 rfl (by decide) rfl ?_
    refine tm_iconst dX12_comes_15 ?_
    refine tm_istore (L' := [(4, .int (iI 0)), (3, .int (iI 1)), (0, .ref b), (1, .int (iI r)), (2, .int (iI to))]) dX12_comes_16 (by decide) rfl ?_
    refine tm_sub [0, 1, 2, 3, 4] rfl (l_comes (d) (σ0 := σ) (r := r) (to := to) (C0 := (cw (σ.2.1 49) (31824 * r) 31824 : Int)) (by omega) hR (by omega) hbo hsc (fun w24 n125 σ26 F18 R19 f20 f21 f22 f23 => ?_) _ (1) (0) σ Fr.rfl hR (by omega) hss (by omega) (fun e n a c => hun to (by omega) (by omega) e n a c) (fun y _ => rfl) rfl)
    show Tm _ _ 304 b σ26 [(4, .int (iI n125)), (3, .int (iI w24)), (0, .ref b), (1, .int (iI r)), (2, .int (iI to))] [] _
    refine tm_aload_n dX12_comes_304 rfl 2 rfl ?_
    refine tm_get (k := 47) (v := .ref (b + 1 + 25)) lay_12 dX12_comes_305 (by decide) fl12_91 rfl ?_
    refine tm_iload_n dX12_comes_308 rfl 4 rfl ?_
    refine tm_iconst dX12_comes_309 ?_
    refine tm_zast (z := to) (v := 1) dX12_comes_310 (show mT[25]? = some (47, 2, 221) from rfl) (by omega) (by omega) (by decide) (by omega) ?_
    refine tm_iload_n dX12_comes_311 rfl 1 rfl ?_
    exact tm_zret (v := w24) rfl (by omega) dX12_comes_312 (⟨_, rfl, by omega, ((Fr.rfl.trans (Fr.sub F18 (by decide) (by decide) (by decide))).A (by decide)), (R19.A (by omega)), BO.A (hbo.fr F18 (by decide)) (by omega), SSA.fr f21 ((Fr.rfl (ss := []) (ks := [47]) (js := [])).A (by decide)) (by decide), fun k a c e n g i => by
      by_cases q : k = to
      · subst q; exact absurd (e.symm.trans ra_eq) (by decide)
      · have e2 : σ.2.1 47 k = 0 := by rw [← F18.2.1 47 (by decide)]; exact (ra_ne q rfl).symm.trans e
        exact ra_o (by decide) ((f23 _ (by omega)).trans (hun k a c e2 n g i)), by
      have e9 : cw ((sA 47 to 1 σ26).2.1 49) (31824 * r) 31824 = cw (σ26.2.1 49) (31824 * r) 31824 := rfl
      have e8 := cz_fr (n := 221) F18 (k := 47) (by decide)
      have e7 : σ26.2.1 47 to = σ.2.1 47 to := by rw [F18.2.1 47 (by decide)]
      rcases hbo to with e | e
      · have := cz_sA (σ := σ26) (k := 47) (n := 221) (z := to) (v := 1) (by omega) (by omega) (by omega) (by decide)
        omega
      · have e6 : cz ((sA 47 to 1 σ26).2.1 47) 221 = cz (σ26.2.1 47) 221 := cz_ext _ (fun j a c => by
          by_cases q : j = to
          · subst q; rw [e7, e]; exact ra_eq
          · exact ra_ne q rfl)
        omega, ra_eq, fun k e => by
      by_cases q : k = to
      · subst q; exact ra_eq
      · exact ra_ne q (by rw [F18.2.1 47 (by decide)]; exact e)⟩)
end
section
def TGT (σ : MS) (r : Int) : Prop := ∀ k, 0 ≤ k → k < σ.2.1 9 r → (σ.2.1 3 (220 * r + k) = 8 ∨ σ.2.1 3 (220 * r + k) = 9) → 0 ≤ σ.2.1 46 (σ.2.1 4 (220 * r + k)) ∧ σ.2.1 46 (σ.2.1 4 (220 * r + k)) < σ.2.1 9 r ∧ σ.2.1 3 (220 * r + σ.2.1 46 (σ.2.1 4 (220 * r + k))) = 13
theorem TGT.fr {ss ks js : List Nat} {σ τ : MS} {r : Int} (h : TGT σ r) (f : Fr ss ks js σ τ) (hk : ∀ k ∈ [3, 4, 9, 46], k ∉ ks) : TGT τ r := by
  unfold TGT
  rw [f.q hk (k := 3) (by decide), f.q hk (k := 4) (by decide), f.q hk (k := 9) (by decide), f.q hk (k := 46) (by decide)]
  exact h
theorem LEX.tgt {σ τ : MS} {r : Int} (h : LEX σ r) (f : LFN σ τ r (σ.2.1 9 r)) (g : Fr [] [46] [] σ τ) : TGT τ r := fun k a b c => by
  rw [g.2.1 9 (by decide)] at b ⊢
  rw [g.2.1 3 (by decide)] at c ⊢
  rw [g.2.1 4 (by decide)]
  exact h.to f a b c
def FR0 (σ : MS) (r : Int) : Prop := σ.2.1 15 (12 * r + 0) = r

theorem dX12_findStates_43 : decode cX12_findStates 43 = .ok (.iload_n 3, 1) := by decide +kernel
theorem dX12_findStates_44 : decode cX12_findStates 44 = .ok (.sipush 144, 3) := by decide +kernel
theorem dX12_findStates_47 : decode cX12_findStates 47 = .ok (.if_icmp .ge 65, 3) := by decide +kernel
theorem dX12_findStates_50 : decode cX12_findStates 50 = .ok (.sipush 31824, 3) := by decide +kernel
theorem dX12_findStates_53 : decode cX12_findStates 53 = .ok (.iload_n 1, 1) := by decide +kernel
theorem dX12_findStates_54 : decode cX12_findStates 54 = .ok (.imul, 1) := by decide +kernel
theorem dX12_findStates_55 : decode cX12_findStates 55 = .ok (.sipush 144, 3) := by decide +kernel
theorem dX12_findStates_58 : decode cX12_findStates 58 = .ok (.iload_n 2, 1) := by decide +kernel
theorem dX12_findStates_59 : decode cX12_findStates 59 = .ok (.imul, 1) := by decide +kernel
theorem dX12_findStates_60 : decode cX12_findStates 60 = .ok (.iadd, 1) := by decide +kernel
theorem dX12_findStates_61 : decode cX12_findStates 61 = .ok (.iload_n 3, 1) := by decide +kernel
theorem dX12_findStates_62 : decode cX12_findStates 62 = .ok (.iadd, 1) := by decide +kernel
theorem dX12_findStates_63 : decode cX12_findStates 63 = .ok (.istore 4, 2) := by decide +kernel
theorem dX12_findStates_65 : decode cX12_findStates 65 = .ok (.aload_n 0, 1) := by decide +kernel
theorem dX12_findStates_66 : decode cX12_findStates 66 = .ok (.getfield 99, 3) := by decide +kernel
theorem dX12_findStates_69 : decode cX12_findStates 69 = .ok (.iload 4, 2) := by decide +kernel
theorem dX12_findStates_71 : decode cX12_findStates 71 = .ok (.bipush 11, 2) := by decide +kernel
theorem dX12_findStates_73 : decode cX12_findStates 73 = .ok (.iastore, 1) := by decide +kernel
theorem dX12_findStates_74 : decode cX12_findStates 74 = .ok (.aload_n 0, 1) := by decide +kernel
theorem dX12_findStates_75 : decode cX12_findStates 75 = .ok (.getfield 102, 3) := by decide +kernel
theorem dX12_findStates_78 : decode cX12_findStates 78 = .ok (.iload 4, 2) := by decide +kernel
theorem dX12_findStates_80 : decode cX12_findStates 80 = .ok (.iconst 0, 1) := by decide +kernel
theorem dX12_findStates_81 : decode cX12_findStates 81 = .ok (.iastore, 1) := by decide +kernel
theorem dX12_findStates_82 : decode cX12_findStates 82 = .ok (.aload_n 0, 1) := by decide +kernel
theorem dX12_findStates_83 : decode cX12_findStates 83 = .ok (.getfield 105, 3) := by decide +kernel
theorem dX12_findStates_86 : decode cX12_findStates 86 = .ok (.iload 4, 2) := by decide +kernel
theorem dX12_findStates_88 : decode cX12_findStates 88 = .ok (.iconst 0, 1) := by decide +kernel
theorem dX12_findStates_89 : decode cX12_findStates 89 = .ok (.iastore, 1) := by decide +kernel
theorem dX12_findStates_90 : decode cX12_findStates 90 = .ok (.aload_n 0, 1) := by decide +kernel
theorem dX12_findStates_91 : decode cX12_findStates 91 = .ok (.getfield 108, 3) := by decide +kernel
theorem dX12_findStates_94 : decode cX12_findStates 94 = .ok (.iload 4, 2) := by decide +kernel
theorem dX12_findStates_96 : decode cX12_findStates 96 = .ok (.iconst 0, 1) := by decide +kernel
theorem dX12_findStates_97 : decode cX12_findStates 97 = .ok (.iastore, 1) := by decide +kernel
theorem dX12_findStates_98 : decode cX12_findStates 98 = .ok (.aload_n 0, 1) := by decide +kernel
theorem dX12_findStates_99 : decode cX12_findStates 99 = .ok (.getfield 111, 3) := by decide +kernel
theorem dX12_findStates_102 : decode cX12_findStates 102 = .ok (.iload 4, 2) := by decide +kernel
theorem dX12_findStates_104 : decode cX12_findStates 104 = .ok (.iconst 0, 1) := by decide +kernel
theorem dX12_findStates_105 : decode cX12_findStates 105 = .ok (.iastore, 1) := by decide +kernel
theorem dX12_findStates_106 : decode cX12_findStates 106 = .ok (.iinc 3 1, 3) := by decide +kernel
theorem dX12_findStates_109 : decode cX12_findStates 109 = .ok (.goto (-66), 3) := by decide +kernel
set_option maxHeartbeats 2000000 in
set_option maxRecDepth 20000 in
theorem l_states2 (d : Nat) {b : Nat} {σ0 : MS} {r : Int} {k : Int} {post : Option Value → MS → Prop} (hr : 0 ≤ r ∧ r < 6) (hk : 0 ≤ k ∧ k ≤ 220) (hx_112 : ∀ (n1 : Int) (σ : MS) , (Fr [] [49, 50, 51, 52, 53] [] σ0 σ) → (RG σ) → (SSA σ) → (∀ n, 0 ≤ n → n < 144 → σ.2.1 49 (31824 * r + 144 * k + n) = 11) → (∀ y, y < 31824 * r + 144 * k → σ.2.1 49 y = σ0.2.1 49 y) → Tm (d + 1) m_X12_findStates 112 b σ [(3, .int (iI n1)), (2, .int (iI k)), (0, .ref b), (1, .int (iI r))] [] post) : ∀ (n : Nat) (n1 : Int) (σ : MS) , (Fr [] [49, 50, 51, 52, 53] [] σ0 σ) → (RG σ) → (0 ≤ n1 ∧ n1 ≤ 144) → (SSA σ) → (∀ n, 0 ≤ n → n < n1 → σ.2.1 49 (31824 * r + 144 * k + n) = 11) → (∀ y, y < 31824 * r + 144 * k → σ.2.1 49 y = σ0.2.1 49 y) → (144 - n1).toNat = n → Tm (d + 1) m_X12_findStates 43 b σ [(3, .int (iI n1)), (2, .int (iI k)), (0, .ref b), (1, .int (iI r))] [] post := by
  intro n
  induction n using Nat.strongRecOn with
  | _ n ih =>
    intro n1 σ hF hR h0 hss hun hre hm
    refine tm_iload_n dX12_findStates_43 rfl 0 rfl ?_
    refine tm_sipush dX12_findStates_44 (by decide) ?_
    refine tm_icmp_ge (tgt := 112) dX12_findStates_47 (by decide) ⟨by omega, by omega⟩ ⟨by decide, by decide⟩ (fun h1 => ?_) (fun h1 => ?_)
    · exact tm_sub [0, 1, 2, 3] rfl (hx_112 (n1) σ (Fr.rfl.trans (Fr.sub hF (by decide) (by decide) (by decide))) hR hss (fun n a c => hun n a (by omega)) hre)
    · refine tm_sipush dX12_findStates_50 (by decide) ?_
      refine tm_iload_n dX12_findStates_53 rfl 3 rfl ?_
      refine tm_imul dX12_findStates_54 ?_
      refine tm_sipush dX12_findStates_55 (by decide) ?_
      refine tm_iload_n dX12_findStates_58 rfl 1 rfl ?_
      refine tm_imul dX12_findStates_59 ?_
      refine tm_iadd dX12_findStates_60 ?_
      refine tm_iload_n dX12_findStates_61 rfl 0 rfl ?_
      refine tm_iadd dX12_findStates_62 ?_
      refine tm_istore (L' := [(4, .int (iI (((31824 * r) + (144 * k)) + n1))), (3, .int (iI n1)), (2, .int (iI k)), (0, .ref b), (1, .int (iI r))]) dX12_findStates_63 (by decide) rfl ?_
      refine tm_aload_n dX12_findStates_65 rfl 3 rfl ?_
      refine tm_get (k := 49) (v := .ref (b + 1 + 27)) lay_12 dX12_findStates_66 (by decide) fl12_99 rfl ?_
      refine tm_iload dX12_findStates_69 0 rfl ?_
      refine tm_bipush dX12_findStates_71 (by decide) ?_
      refine tm_iast (z := ((31824 * r) + (144 * k)) + n1) (v := 11) dX12_findStates_73 (show mT[27]? = some (49, 0, 190944) from rfl) (by omega) (by omega) (by decide) ?_
      refine tm_aload_n dX12_findStates_74 rfl 3 rfl ?_
      refine tm_get (k := 50) (v := .ref (b + 1 + 28)) lay_12 dX12_findStates_75 (by decide) fl12_102 rfl ?_
      refine tm_iload dX12_findStates_78 0 rfl ?_
      refine tm_iconst dX12_findStates_80 ?_
      refine tm_iast (z := ((31824 * r) + (144 * k)) + n1) (v := 0) dX12_findStates_81 (show mT[28]? = some (50, 0, 190944) from rfl) (by omega) (by omega) (by decide) ?_
      refine tm_aload_n dX12_findStates_82 rfl 3 rfl ?_
      refine tm_get (k := 51) (v := .ref (b + 1 + 29)) lay_12 dX12_findStates_83 (by decide) fl12_105 rfl ?_
      refine tm_iload dX12_findStates_86 0 rfl ?_
      refine tm_iconst dX12_findStates_88 ?_
      refine tm_iast (z := ((31824 * r) + (144 * k)) + n1) (v := 0) dX12_findStates_89 (show mT[29]? = some (51, 0, 190944) from rfl) (by omega) (by omega) (by decide) ?_
      refine tm_aload_n dX12_findStates_90 rfl 3 rfl ?_
      refine tm_get (k := 52) (v := .ref (b + 1 + 30)) lay_12 dX12_findStates_91 (by decide) fl12_108 rfl ?_
      refine tm_iload dX12_findStates_94 0 rfl ?_
      refine tm_iconst dX12_findStates_96 ?_
      refine tm_iast (z := ((31824 * r) + (144 * k)) + n1) (v := 0) dX12_findStates_97 (show mT[30]? = some (52, 0, 190944) from rfl) (by omega) (by omega) (by decide) ?_
      refine tm_aload_n dX12_findStates_98 rfl 3 rfl ?_
      refine tm_get (k := 53) (v := .ref (b + 1 + 31)) lay_12 dX12_findStates_99 (by decide) fl12_111 rfl ?_
      refine tm_iload dX12_findStates_102 0 rfl ?_
      refine tm_iconst dX12_findStates_104 ?_
      refine tm_iast (z := ((31824 * r) + (144 * k)) + n1) (v := 0) dX12_findStates_105 (show mT[31]? = some (53, 0, 190944) from rfl) (by omega) (by omega) (by decide) ?_
      refine tm_iinc (q0 := 1) (L' := [(3, .int (iI (n1 + 1))), (4, .int (iI (((31824 * r) + (144 * k)) + n1))), (2, .int (iI k)), (0, .ref b), (1, .int (iI r))]) dX12_findStates_106 rfl (by decide) rfl ?_
      refine tm_goto (tgt := 43) dX12_findStates_109 (by decide) ?_
      exact tm_sub [0, 2, 3, 4] rfl (ih _ (by omega) (n1 + 1) (sA 53 (((31824 * r) + (144 * k)) + n1) (0) (sA 52 (((31824 * r) + (144 * k)) + n1) (0) (sA 51 (((31824 * r) + (144 * k)) + n1) (0) (sA 50 (((31824 * r) + (144 * k)) + n1) (0) (sA 49 (((31824 * r) + (144 * k)) + n1) (11) σ))))) ((((((Fr.rfl.trans (Fr.sub hF (by decide) (by decide) (by decide))).A (by decide)).A (by decide)).A (by decide)).A (by decide)).A (by decide)) (((((hR.A (by omega)).A (by omega)).A (by omega)).A (by omega)).A (by omega)) (by omega) (hss.put (n := 31824 * r + 144 * k + n1) (w := 11) (ka := 0) (a := 0) (kb := 0) (c := 0) (by omega) (by omega)) (fun n a c => (congrFun (fSt_w (n := 31824 * r + 144 * k + n1) (w := 11) (ka := 0) (a := 0) (kb := 0) (c := 0) (σ := σ)) _).trans (by
          by_cases q : n = n1
          · exact if_pos (by omega)
          · exact (if_neg (by omega)).trans (hun n a (by omega)))) (fun y c => (congrFun (fSt_w (n := 31824 * r + 144 * k + n1) (w := 11) (ka := 0) (a := 0) (kb := 0) (c := 0) (σ := σ)) _).trans ((if_neg (by omega)).trans (hre y c))) rfl)
theorem dX12_findStates_24 : decode cX12_findStates 24 = .ok (.iload_n 2, 1) := by decide +kernel
theorem dX12_findStates_25 : decode cX12_findStates 25 = .ok (.aload_n 0, 1) := by decide +kernel
theorem dX12_findStates_26 : decode cX12_findStates 26 = .ok (.getfield 32, 3) := by decide +kernel
theorem dX12_findStates_29 : decode cX12_findStates 29 = .ok (.iload_n 1, 1) := by decide +kernel
theorem dX12_findStates_30 : decode cX12_findStates 30 = .ok (.iaload, 1) := by decide +kernel
theorem dX12_findStates_31 : decode cX12_findStates 31 = .ok (.if_icmp .gt 87, 3) := by decide +kernel
theorem dX12_findStates_34 : decode cX12_findStates 34 = .ok (.aload_n 0, 1) := by decide +kernel
theorem dX12_findStates_35 : decode cX12_findStates 35 = .ok (.getfield 91, 3) := by decide +kernel
theorem dX12_findStates_38 : decode cX12_findStates 38 = .ok (.iload_n 2, 1) := by decide +kernel
theorem dX12_findStates_39 : decode cX12_findStates 39 = .ok (.iconst 0, 1) := by decide +kernel
theorem dX12_findStates_40 : decode cX12_findStates 40 = .ok (.bastore, 1) := by decide +kernel
theorem dX12_findStates_41 : decode cX12_findStates 41 = .ok (.iconst 0, 1) := by decide +kernel
theorem dX12_findStates_42 : decode cX12_findStates 42 = .ok (.istore_n 3, 1) := by decide +kernel
theorem dX12_findStates_112 : decode cX12_findStates 112 = .ok (.iinc 2 1, 3) := by decide +kernel
theorem dX12_findStates_115 : decode cX12_findStates 115 = .ok (.goto (-91), 3) := by decide +kernel
set_option maxHeartbeats 2000000 in
set_option maxRecDepth 20000 in
theorem l_states1 (d : Nat) {b : Nat} {σ0 : MS} {r : Int} {post : Option Value → MS → Prop} (hr : 0 ≤ r ∧ r < 6) (hR0 : RG σ0) (hit : 0 ≤ σ0.2.1 9 r ∧ σ0.2.1 9 r ≤ 220) (hx_118 : ∀ (k : Int) (σ : MS) , (Fr [] [47, 49, 50, 51, 52, 53] [] σ0 σ) → (RG σ) → (BO 47 σ) → (SSA σ) → (UNR σ r (σ0.2.1 9 r)) → Tm (d + 1) m_X12_findStates 118 b σ [(2, .int (iI k)), (0, .ref b), (1, .int (iI r))] [] post) : ∀ (n : Nat) (k : Int) (σ : MS) , (Fr [] [47, 49, 50, 51, 52, 53] [] σ0 σ) → (RG σ) → (0 ≤ k ∧ k ≤ 221) → (BO 47 σ) → (SSA σ) → (∀ j, 0 ≤ j → j < k → ∀ n, 0 ≤ n → n < 144 → σ.2.1 49 (31824 * r + 144 * j + n) = 11) → (221 - k).toNat = n → Tm (d + 1) m_X12_findStates 24 b σ [(2, .int (iI k)), (0, .ref b), (1, .int (iI r))] [] post := by
  intro n
  induction n using Nat.strongRecOn with
  | _ n ih =>
    intro k σ hF hR h0 hbo hss hun hm
    refine tm_iload_n dX12_findStates_24 rfl 0 rfl ?_
    refine tm_aload_n dX12_findStates_25 rfl 1 rfl ?_
    refine tm_get (k := 9) (v := .ref (b + 1 + 7)) lay_12 dX12_findStates_26 (by decide) fl12_32 rfl ?_
    refine tm_iload_n dX12_findStates_29 rfl 2 rfl ?_
    refine tm_iald (z := r) (v := σ0.2.1 9 r) dX12_findStates_30 (show mT[7]? = some (9, 0, 13) from rfl) (by omega) (by omega) (by decide) (ra_F hF (by decide) (rfl)) ?_
    have g1 := RG.a hR0 9 (r)
    refine tm_icmp_gt (tgt := 118) dX12_findStates_31 (by decide) ⟨by omega, by omega⟩ ⟨by omega, by omega⟩ (fun h2 => ?_) (fun h2 => ?_)
    · exact tm_sub [0, 1, 2] rfl (hx_118 (k) σ (Fr.rfl.trans (Fr.sub hF (by decide) (by decide) (by decide))) hR hbo hss (fun j a c e n g i => hun j a (by omega) n g i))
    · refine tm_aload_n dX12_findStates_34 rfl 1 rfl ?_
      refine tm_get (k := 47) (v := .ref (b + 1 + 25)) lay_12 dX12_findStates_35 (by decide) fl12_91 rfl ?_
      refine tm_iload_n dX12_findStates_38 rfl 0 rfl ?_
      refine tm_iconst dX12_findStates_39 ?_
      refine tm_zast (z := k) (v := 0) dX12_findStates_40 (show mT[25]? = some (47, 2, 221) from rfl) (by omega) (by omega) (by decide) (by omega) ?_
      refine tm_iconst dX12_findStates_41 ?_
      refine tm_istore_n (L' := [(3, .int (iI 0)), (2, .int (iI k)), (0, .ref b), (1, .int (iI r))]) dX12_findStates_42 rfl (by decide) rfl ?_
      refine tm_sub [0, 1, 2, 3] rfl (l_states2 (d) (σ0 := (sA 47 (k) (0) σ)) (r := r) (k := k) (by omega) (by omega) (fun n110 σ11 F5 R6 f7 f8 f9 => ?_) _ (0) (sA 47 (k) (0) σ) Fr.rfl (hR.A (by omega)) (by omega) hss (fun n a c => by omega) (fun y _ => rfl) rfl)
      show Tm _ _ 112 b σ11 [(3, .int (iI n110)), (2, .int (iI k)), (0, .ref b), (1, .int (iI r))] [] _
      refine tm_iinc (q0 := 1) (L' := [(2, .int (iI (k + 1))), (3, .int (iI n110)), (0, .ref b), (1, .int (iI r))]) dX12_findStates_112 rfl (by decide) rfl ?_
      refine tm_goto (tgt := 24) dX12_findStates_115 (by decide) ?_
      exact tm_sub [0, 2, 3] rfl (ih _ (by omega) (k + 1) σ11 (((Fr.rfl.trans (Fr.sub hF (by decide) (by decide) (by decide))).A (by decide)).trans (Fr.sub F5 (by decide) (by decide) (by decide))) R6 (by omega) ((hbo.A (by omega)).fr F5 (by decide)) f7 (fun j a c n g i => by
          by_cases q : j = k
          · subst q; exact f8 n g i
          · exact (f9 _ (by omega)).trans (hun j a (by omega) n g i)) rfl)
theorem dX12_findStates_120 : decode cX12_findStates 120 = .ok (.iload_n 2, 1) := by decide +kernel
theorem dX12_findStates_121 : decode cX12_findStates 121 = .ok (.sipush 144, 3) := by decide +kernel
theorem dX12_findStates_124 : decode cX12_findStates 124 = .ok (.if_icmp .ge 93, 3) := by decide +kernel
theorem dX12_findStates_127 : decode cX12_findStates 127 = .ok (.aload_n 0, 1) := by decide +kernel
theorem dX12_findStates_128 : decode cX12_findStates 128 = .ok (.iload_n 2, 1) := by decide +kernel
theorem dX12_findStates_129 : decode cX12_findStates 129 = .ok (.bipush 11, 2) := by decide +kernel
theorem dX12_findStates_131 : decode cX12_findStates 131 = .ok (.iconst 0, 1) := by decide +kernel
theorem dX12_findStates_132 : decode cX12_findStates 132 = .ok (.iconst 0, 1) := by decide +kernel
theorem dX12_findStates_133 : decode cX12_findStates 133 = .ok (.iconst 0, 1) := by decide +kernel
theorem dX12_findStates_134 : decode cX12_findStates 134 = .ok (.iconst 0, 1) := by decide +kernel
theorem dX12_findStates_135 : decode cX12_findStates 135 = .ok (.invokevirtual 416, 3) := by decide +kernel
theorem dX12_findStates_138 : decode cX12_findStates 138 = .ok (.iload_n 2, 1) := by decide +kernel
theorem dX12_findStates_139 : decode cX12_findStates 139 = .ok (.aload_n 0, 1) := by decide +kernel
theorem dX12_findStates_140 : decode cX12_findStates 140 = .ok (.getfield 38, 3) := by decide +kernel
theorem dX12_findStates_143 : decode cX12_findStates 143 = .ok (.iload_n 1, 1) := by decide +kernel
theorem dX12_findStates_144 : decode cX12_findStates 144 = .ok (.iaload, 1) := by decide +kernel
theorem dX12_findStates_145 : decode cX12_findStates 145 = .ok (.if_icmp .ge 66, 3) := by decide +kernel
theorem dX12_findStates_211 : decode cX12_findStates 211 = .ok (.iinc 2 1, 3) := by decide +kernel
theorem dX12_findStates_214 : decode cX12_findStates 214 = .ok (.goto (-94), 3) := by decide +kernel
theorem dX12_findStates_148 : decode cX12_findStates 148 = .ok (.aload_n 0, 1) := by decide +kernel
theorem dX12_findStates_149 : decode cX12_findStates 149 = .ok (.iload_n 2, 1) := by decide +kernel
theorem dX12_findStates_150 : decode cX12_findStates 150 = .ok (.iload_n 2, 1) := by decide +kernel
theorem dX12_findStates_151 : decode cX12_findStates 151 = .ok (.aload_n 0, 1) := by decide +kernel
theorem dX12_findStates_152 : decode cX12_findStates 152 = .ok (.getfield 35, 3) := by decide +kernel
theorem dX12_findStates_155 : decode cX12_findStates 155 = .ok (.iload_n 1, 1) := by decide +kernel
theorem dX12_findStates_156 : decode cX12_findStates 156 = .ok (.iaload, 1) := by decide +kernel
theorem dX12_findStates_157 : decode cX12_findStates 157 = .ok (.if_icmp .ge 7, 3) := by decide +kernel
theorem dX12_findStates_164 : decode cX12_findStates 164 = .ok (.iconst 1, 1) := by decide +kernel
theorem dX12_findStates_165 : decode cX12_findStates 165 = .ok (.iload_n 2, 1) := by decide +kernel
theorem dX12_findStates_166 : decode cX12_findStates 166 = .ok (.aload_n 0, 1) := by decide +kernel
theorem dX12_findStates_167 : decode cX12_findStates 167 = .ok (.getfield 35, 3) := by decide +kernel
theorem dX12_findStates_170 : decode cX12_findStates 170 = .ok (.iload_n 1, 1) := by decide +kernel
theorem dX12_findStates_171 : decode cX12_findStates 171 = .ok (.iaload, 1) := by decide +kernel
theorem dX12_findStates_172 : decode cX12_findStates 172 = .ok (.if_icmp .ge 7, 3) := by decide +kernel
theorem dX12_findStates_179 : decode cX12_findStates 179 = .ok (.iconst 1, 1) := by decide +kernel
theorem dX12_findStates_180 : decode cX12_findStates 180 = .ok (.iload_n 2, 1) := by decide +kernel
theorem dX12_findStates_181 : decode cX12_findStates 181 = .ok (.aload_n 0, 1) := by decide +kernel
theorem dX12_findStates_182 : decode cX12_findStates 182 = .ok (.getfield 35, 3) := by decide +kernel
theorem dX12_findStates_185 : decode cX12_findStates 185 = .ok (.iload_n 1, 1) := by decide +kernel
theorem dX12_findStates_186 : decode cX12_findStates 186 = .ok (.iaload, 1) := by decide +kernel
theorem dX12_findStates_187 : decode cX12_findStates 187 = .ok (.if_icmp .ge 18, 3) := by decide +kernel
theorem dX12_findStates_205 : decode cX12_findStates 205 = .ok (.iconst 0, 1) := by decide +kernel
theorem dX12_findStates_206 : decode cX12_findStates 206 = .ok (.iconst 0, 1) := by decide +kernel
theorem dX12_findStates_207 : decode cX12_findStates 207 = .ok (.iconst 0, 1) := by decide +kernel
theorem dX12_findStates_208 : decode cX12_findStates 208 = .ok (.invokevirtual 416, 3) := by decide +kernel
theorem dX12_findStates_160 : decode cX12_findStates 160 = .ok (.iconst 2, 1) := by decide +kernel
theorem dX12_findStates_161 : decode cX12_findStates 161 = .ok (.goto 4, 3) := by decide +kernel
theorem dX12_findStates_175 : decode cX12_findStates 175 = .ok (.iconst 2, 1) := by decide +kernel
theorem dX12_findStates_176 : decode cX12_findStates 176 = .ok (.goto 4, 3) := by decide +kernel
theorem dX12_findStates_190 : decode cX12_findStates 190 = .ok (.aload_n 0, 1) := by decide +kernel
theorem dX12_findStates_191 : decode cX12_findStates 191 = .ok (.getfield 56, 3) := by decide +kernel
theorem dX12_findStates_194 : decode cX12_findStates 194 = .ok (.sipush 144, 3) := by decide +kernel
theorem dX12_findStates_197 : decode cX12_findStates 197 = .ok (.iload_n 1, 1) := by decide +kernel
theorem dX12_findStates_198 : decode cX12_findStates 198 = .ok (.imul, 1) := by decide +kernel
theorem dX12_findStates_199 : decode cX12_findStates 199 = .ok (.iload_n 2, 1) := by decide +kernel
theorem dX12_findStates_200 : decode cX12_findStates 200 = .ok (.iadd, 1) := by decide +kernel
theorem dX12_findStates_201 : decode cX12_findStates 201 = .ok (.iaload, 1) := by decide +kernel
theorem dX12_findStates_202 : decode cX12_findStates 202 = .ok (.goto 4, 3) := by decide +kernel
set_option maxHeartbeats 2000000 in
set_option maxRecDepth 20000 in
theorem l_states3 (d : Nat) {b : Nat} {σ0 : MS} {r : Int} {post : Option Value → MS → Prop} (hr : 0 ≤ r ∧ r < 6) (hR0 : RG σ0) (hpm : 0 ≤ σ0.2.1 12 r ∧ σ0.2.1 12 r ≤ 12 ∧ 0 ≤ σ0.2.1 11 r ∧ σ0.2.1 11 r ≤ 4) (hnm : ∀ n, 0 ≤ n → n < σ0.2.1 12 r → 0 ≤ σ0.2.1 18 (144 * r + n) ∧ σ0.2.1 18 (144 * r + n) < 192) (hx_217 : ∀ (n1 : Int) (σ : MS) , (Fr [] [54, 55, 56, 57, 58] [] σ0 σ) → (RG σ) → (SCA σ) → Tm (d + 2) m_X12_findStates 217 b σ [(2, .int (iI n1)), (0, .ref b), (1, .int (iI r))] [] post) : ∀ (n : Nat) (n1 : Int) (σ : MS) , (Fr [] [54, 55, 56, 57, 58] [] σ0 σ) → (RG σ) → (0 ≤ n1 ∧ n1 ≤ 144) → (SCA σ) → (144 - n1).toNat = n → Tm (d + 2) m_X12_findStates 120 b σ [(2, .int (iI n1)), (0, .ref b), (1, .int (iI r))] [] post := by
  intro n
  induction n using Nat.strongRecOn with
  | _ n ih =>
    intro n1 σ hF hR h0 hsc hm
    refine tm_iload_n dX12_findStates_120 rfl 0 rfl ?_
    refine tm_sipush dX12_findStates_121 (by decide) ?_
    refine tm_icmp_ge (tgt := 217) dX12_findStates_124 (by decide) ⟨by omega, by omega⟩ ⟨by decide, by decide⟩ (fun h1 => ?_) (fun h1 => ?_)
    · exact tm_sub [0, 1, 2] rfl (hx_217 (n1) σ (Fr.rfl.trans (Fr.sub hF (by decide) (by decide) (by decide))) hR hsc)
    · refine tm_aload_n dX12_findStates_127 rfl 1 rfl ?_
      refine tm_iload_n dX12_findStates_128 rfl 0 rfl ?_
      refine tm_bipush dX12_findStates_129 (by decide) ?_
      refine tm_iconst dX12_findStates_131 ?_
      refine tm_iconst dX12_findStates_132 ?_
      refine tm_iconst dX12_findStates_133 ?_
      refine tm_iconst dX12_findStates_134 ?_
      refine tm_callV (M := m_X12_findStates) (pc := 135) (ix := 416) (M' := m_X12_setNow) (As := [.int (iI n1), .int (iI 11), .int (iI 0), .int (iI 0), .int (iI 0), .int (iI 0)]) (rest := []) dX12_findStates_135 ok_X12_setNow im_X12_setNow se_X12_setNow ml12_416 np_X12_setNow rfl rfl (Nat.le_of_ble_eq_true rfl) (Nat.le_of_ble_eq_true rfl) rfl (c_X12_setNow (d) (σ := σ) (n := n1) (w := 11) (ka := 0) (a := 0) (kb := 0) (c := 0) (by omega)) (fun r2 σ3 hp => ?_)
      obtain ⟨rfl, f5⟩ := hp
      subst f5
      show Tm _ _ 138 b (fNow (n1) (11) (0) (0) (0) (0) σ) [(2, .int (iI n1)), (0, .ref b), (1, .int (iI r))] [] _
      refine tm_iload_n dX12_findStates_138 rfl 0 rfl ?_
      refine tm_aload_n dX12_findStates_139 rfl 1 rfl ?_
      refine tm_get (k := 12) (v := .ref (b + 1 + 9)) lay_12 dX12_findStates_140 (by decide) fl12_38 rfl ?_
      refine tm_iload_n dX12_findStates_143 rfl 2 rfl ?_
      refine tm_iald (z := r) (v := σ0.2.1 12 r) dX12_findStates_144 (show mT[9]? = some (12, 0, 6) from rfl) (by omega) (by omega) (by decide) (ra_F fNow_fr (by decide) (ra_F hF (by decide) (rfl))) ?_
      have g6 := RG.a hR0 12 (r)
      refine tm_icmp_ge (tgt := 211) dX12_findStates_145 (by decide) ⟨by omega, by omega⟩ ⟨by omega, by omega⟩ (fun h7 => ?_) (fun h7 => ?_)
      · refine tm_iinc (q0 := 0) (L' := [(2, .int (iI (n1 + 1))), (0, .ref b), (1, .int (iI r))]) dX12_findStates_211 rfl (by decide) rfl ?_
        refine tm_goto (tgt := 120) dX12_findStates_214 (by decide) ?_
        exact tm_sub [0, 1, 2] rfl (ih _ (by omega) (n1 + 1) (fNow (n1) (11) (0) (0) (0) (0) σ) ((Fr.rfl.trans (Fr.sub hF (by decide) (by decide) (by decide))).trans (Fr.sub fNow_fr (by decide) (by decide) (by decide))) (hR.now (by omega)) (by omega) (hsc.put (by omega) (by omega)) rfl)
      · have hq := hnm n1 (by omega) (by omega)
        refine tm_aload_n dX12_findStates_148 rfl 1 rfl ?_
        refine tm_iload_n dX12_findStates_149 rfl 0 rfl ?_
        refine tm_iload_n dX12_findStates_150 rfl 0 rfl ?_
        refine tm_aload_n dX12_findStates_151 rfl 1 rfl ?_
        refine tm_get (k := 11) (v := .ref (b + 1 + 8)) lay_12 dX12_findStates_152 (by decide) fl12_35 rfl ?_
        refine tm_iload_n dX12_findStates_155 rfl 2 rfl ?_
        refine tm_iald (z := r) (v := σ0.2.1 11 r) dX12_findStates_156 (show mT[8]? = some (11, 0, 6) from rfl) (by omega) (by omega) (by decide) (ra_F fNow_fr (by decide) (ra_F hF (by decide) (rfl))) ?_
        have g8 := RG.a hR0 11 (r)
        refine tm_icmp_ge (tgt := 164) dX12_findStates_157 (by decide) ⟨by omega, by omega⟩ ⟨by omega, by omega⟩ (fun h9 => ?_) (fun h9 => ?_)
        · refine tm_iconst dX12_findStates_164 ?_
          refine tm_iload_n dX12_findStates_165 rfl 0 rfl ?_
          refine tm_aload_n dX12_findStates_166 rfl 1 rfl ?_
          refine tm_get (k := 11) (v := .ref (b + 1 + 8)) lay_12 dX12_findStates_167 (by decide) fl12_35 rfl ?_
          refine tm_iload_n dX12_findStates_170 rfl 2 rfl ?_
          refine tm_iald (z := r) (v := σ0.2.1 11 r) dX12_findStates_171 (show mT[8]? = some (11, 0, 6) from rfl) (by omega) (by omega) (by decide) (ra_F fNow_fr (by decide) (ra_F hF (by decide) (rfl))) ?_
          have g10 := RG.a hR0 11 (r)
          refine tm_icmp_ge (tgt := 179) dX12_findStates_172 (by decide) ⟨by omega, by omega⟩ ⟨by omega, by omega⟩ (fun h11 => ?_) (fun h11 => ?_)
          · refine tm_iconst dX12_findStates_179 ?_
            refine tm_iload_n dX12_findStates_180 rfl 0 rfl ?_
            refine tm_aload_n dX12_findStates_181 rfl 1 rfl ?_
            refine tm_get (k := 11) (v := .ref (b + 1 + 8)) lay_12 dX12_findStates_182 (by decide) fl12_35 rfl ?_
            refine tm_iload_n dX12_findStates_185 rfl 2 rfl ?_
            refine tm_iald (z := r) (v := σ0.2.1 11 r) dX12_findStates_186 (show mT[8]? = some (11, 0, 6) from rfl) (by omega) (by omega) (by decide) (ra_F fNow_fr (by decide) (ra_F hF (by decide) (rfl))) ?_
            have g12 := RG.a hR0 11 (r)
            refine tm_icmp_ge (tgt := 205) dX12_findStates_187 (by decide) ⟨by omega, by omega⟩ ⟨by omega, by omega⟩ (fun h13 => ?_) (fun h13 => ?_)
            · refine tm_iconst dX12_findStates_205 ?_
              refine tm_iconst dX12_findStates_206 ?_
              refine tm_iconst dX12_findStates_207 ?_
              refine tm_callV (M := m_X12_findStates) (pc := 208) (ix := 416) (M' := m_X12_setNow) (As := [.int (iI n1), .int (iI 1), .int (iI 1), .int (iI 0), .int (iI 0), .int (iI 0)]) (rest := []) dX12_findStates_208 ok_X12_setNow im_X12_setNow se_X12_setNow ml12_416 np_X12_setNow rfl rfl (Nat.le_of_ble_eq_true rfl) (Nat.le_of_ble_eq_true rfl) rfl (c_X12_setNow (d) (σ := (fNow (n1) (11) (0) (0) (0) (0) σ)) (n := n1) (w := 1) (ka := 1) (a := 0) (kb := 0) (c := 0) (by omega)) (fun r14 σ15 hp => ?_)
              obtain ⟨rfl, f17⟩ := hp
              subst f17
              show Tm _ _ 211 b (fNow (n1) (1) (1) (0) (0) (0) (fNow (n1) (11) (0) (0) (0) (0) σ)) [(2, .int (iI n1)), (0, .ref b), (1, .int (iI r))] [] _
              refine tm_iinc (q0 := 0) (L' := [(2, .int (iI (n1 + 1))), (0, .ref b), (1, .int (iI r))]) dX12_findStates_211 rfl (by decide) rfl ?_
              refine tm_goto (tgt := 120) dX12_findStates_214 (by decide) ?_
              exact tm_sub [0, 1, 2] rfl (ih _ (by omega) (n1 + 1) (fNow (n1) (1) (1) (0) (0) (0) (fNow (n1) (11) (0) (0) (0) (0) σ)) (((Fr.rfl.trans (Fr.sub hF (by decide) (by decide) (by decide))).trans (Fr.sub fNow_fr (by decide) (by decide) (by decide))).trans (Fr.sub fNow_fr (by decide) (by decide) (by decide))) ((hR.now (by omega)).now (by omega)) (by omega) (SCA.put (hsc.put (by omega) (by omega)) (by omega) (by omega)) rfl)
            · exact absurd h13 (by omega)
          · exact absurd h11 (by omega)
        · refine tm_iconst dX12_findStates_160 ?_
          refine tm_goto (tgt := 165) dX12_findStates_161 (by decide) ?_
          refine tm_iload_n dX12_findStates_165 rfl 0 rfl ?_
          refine tm_aload_n dX12_findStates_166 rfl 1 rfl ?_
          refine tm_get (k := 11) (v := .ref (b + 1 + 8)) lay_12 dX12_findStates_167 (by decide) fl12_35 rfl ?_
          refine tm_iload_n dX12_findStates_170 rfl 2 rfl ?_
          refine tm_iald (z := r) (v := σ0.2.1 11 r) dX12_findStates_171 (show mT[8]? = some (11, 0, 6) from rfl) (by omega) (by omega) (by decide) (ra_F fNow_fr (by decide) (ra_F hF (by decide) (rfl))) ?_
          have g18 := RG.a hR0 11 (r)
          refine tm_icmp_ge (tgt := 179) dX12_findStates_172 (by decide) ⟨by omega, by omega⟩ ⟨by omega, by omega⟩ (fun h19 => ?_) (fun h19 => ?_)
          · exact absurd h19 (by omega)
          · refine tm_iconst dX12_findStates_175 ?_
            refine tm_goto (tgt := 180) dX12_findStates_176 (by decide) ?_
            refine tm_iload_n dX12_findStates_180 rfl 0 rfl ?_
            refine tm_aload_n dX12_findStates_181 rfl 1 rfl ?_
            refine tm_get (k := 11) (v := .ref (b + 1 + 8)) lay_12 dX12_findStates_182 (by decide) fl12_35 rfl ?_
            refine tm_iload_n dX12_findStates_185 rfl 2 rfl ?_
            refine tm_iald (z := r) (v := σ0.2.1 11 r) dX12_findStates_186 (show mT[8]? = some (11, 0, 6) from rfl) (by omega) (by omega) (by decide) (ra_F fNow_fr (by decide) (ra_F hF (by decide) (rfl))) ?_
            have g20 := RG.a hR0 11 (r)
            refine tm_icmp_ge (tgt := 205) dX12_findStates_187 (by decide) ⟨by omega, by omega⟩ ⟨by omega, by omega⟩ (fun h21 => ?_) (fun h21 => ?_)
            · exact absurd h21 (by omega)
            · refine tm_aload_n dX12_findStates_190 rfl 1 rfl ?_
              refine tm_get (k := 18) (v := .ref (b + 1 + 15)) lay_12 dX12_findStates_191 (by decide) fl12_56 rfl ?_
              refine tm_sipush dX12_findStates_194 (by decide) ?_
              refine tm_iload_n dX12_findStates_197 rfl 2 rfl ?_
              refine tm_imul dX12_findStates_198 ?_
              refine tm_iload_n dX12_findStates_199 rfl 0 rfl ?_
              refine tm_iadd dX12_findStates_200 ?_
              refine tm_iald (z := (144 * r) + n1) (v := σ0.2.1 18 ((144 * r) + n1)) dX12_findStates_201 (show mT[15]? = some (18, 0, 864) from rfl) (by omega) (by omega) (by decide) (ra_F fNow_fr (by decide) (ra_F hF (by decide) (rfl))) ?_
              have g22 := RG.a hR0 18 ((144 * r) + n1)
              refine tm_goto (tgt := 206) dX12_findStates_202 (by decide) ?_
              refine tm_iconst dX12_findStates_206 ?_
              refine tm_iconst dX12_findStates_207 ?_
              refine tm_callV (M := m_X12_findStates) (pc := 208) (ix := 416) (M' := m_X12_setNow) (As := [.int (iI n1), .int (iI 2), .int (iI 2), .int (iI (σ0.2.1 18 ((144 * r) + n1))), .int (iI 0), .int (iI 0)]) (rest := []) dX12_findStates_208 ok_X12_setNow im_X12_setNow se_X12_setNow ml12_416 np_X12_setNow rfl rfl (Nat.le_of_ble_eq_true rfl) (Nat.le_of_ble_eq_true rfl) rfl (c_X12_setNow (d) (σ := (fNow (n1) (11) (0) (0) (0) (0) σ)) (n := n1) (w := 2) (ka := 2) (a := σ0.2.1 18 ((144 * r) + n1)) (kb := 0) (c := 0) (by omega)) (fun r23 σ24 hp => ?_)
              obtain ⟨rfl, f26⟩ := hp
              subst f26
              show Tm _ _ 211 b (fNow (n1) (2) (2) (σ0.2.1 18 ((144 * r) + n1)) (0) (0) (fNow (n1) (11) (0) (0) (0) (0) σ)) [(2, .int (iI n1)), (0, .ref b), (1, .int (iI r))] [] _
              refine tm_iinc (q0 := 0) (L' := [(2, .int (iI (n1 + 1))), (0, .ref b), (1, .int (iI r))]) dX12_findStates_211 rfl (by decide) rfl ?_
              refine tm_goto (tgt := 120) dX12_findStates_214 (by decide) ?_
              exact tm_sub [0, 1, 2] rfl (ih _ (by omega) (n1 + 1) (fNow (n1) (2) (2) (σ0.2.1 18 ((144 * r) + n1)) (0) (0) (fNow (n1) (11) (0) (0) (0) (0) σ)) (((Fr.rfl.trans (Fr.sub hF (by decide) (by decide) (by decide))).trans (Fr.sub fNow_fr (by decide) (by decide) (by decide))).trans (Fr.sub fNow_fr (by decide) (by decide) (by decide))) ((hR.now (by omega)).now (by omega)) (by omega) (SCA.put (hsc.put (by omega) (by omega)) (by omega) (by omega)) rfl)
theorem ml12_423 : Cond.methodLink RX12 423 yX12_comes ∈ pWW := pw9 (List.mem_of_getElem? (i := 86) rfl) rfl
theorem dX12_findStates_263 : decode cX12_findStates 263 = .ok (.iload 4, 2) := by decide +kernel
theorem dX12_findStates_265 : decode cX12_findStates 265 = .ok (.iconst 2, 1) := by decide +kernel
theorem dX12_findStates_266 : decode cX12_findStates 266 = .ok (.if_icmp .ge 43, 3) := by decide +kernel
theorem dX12_findStates_269 : decode cX12_findStates 269 = .ok (.aload_n 0, 1) := by decide +kernel
theorem dX12_findStates_270 : decode cX12_findStates 270 = .ok (.iload_n 1, 1) := by decide +kernel
theorem dX12_findStates_271 : decode cX12_findStates 271 = .ok (.iload_n 3, 1) := by decide +kernel
theorem dX12_findStates_272 : decode cX12_findStates 272 = .ok (.iload 4, 2) := by decide +kernel
theorem dX12_findStates_274 : decode cX12_findStates 274 = .ok (.invokevirtual 413, 3) := by decide +kernel
theorem dX12_findStates_277 : decode cX12_findStates 277 = .ok (.istore 5, 2) := by decide +kernel
theorem dX12_findStates_279 : decode cX12_findStates 279 = .ok (.iload_n 2, 1) := by decide +kernel
theorem dX12_findStates_280 : decode cX12_findStates 280 = .ok (.iload 5, 2) := by decide +kernel
theorem dX12_findStates_282 : decode cX12_findStates 282 = .ok (.iconst (-1), 1) := by decide +kernel
theorem dX12_findStates_283 : decode cX12_findStates 283 = .ok (.if_icmp .eq 17, 3) := by decide +kernel
theorem dX12_findStates_300 : decode cX12_findStates 300 = .ok (.iconst 0, 1) := by decide +kernel
theorem dX12_findStates_301 : decode cX12_findStates 301 = .ok (.ior, 1) := by decide +kernel
theorem dX12_findStates_302 : decode cX12_findStates 302 = .ok (.istore_n 2, 1) := by decide +kernel
theorem dX12_findStates_303 : decode cX12_findStates 303 = .ok (.iinc 4 1, 3) := by decide +kernel
theorem dX12_findStates_306 : decode cX12_findStates 306 = .ok (.goto (-43), 3) := by decide +kernel
theorem dX12_findStates_286 : decode cX12_findStates 286 = .ok (.aload_n 0, 1) := by decide +kernel
theorem dX12_findStates_287 : decode cX12_findStates 287 = .ok (.iload_n 1, 1) := by decide +kernel
theorem dX12_findStates_288 : decode cX12_findStates 288 = .ok (.iload 5, 2) := by decide +kernel
theorem dX12_findStates_290 : decode cX12_findStates 290 = .ok (.invokevirtual 423, 3) := by decide +kernel
theorem dX12_findStates_293 : decode cX12_findStates 293 = .ok (.ifCond .eq 7, 3) := by decide +kernel
theorem dX12_findStates_296 : decode cX12_findStates 296 = .ok (.iconst 1, 1) := by decide +kernel
theorem dX12_findStates_297 : decode cX12_findStates 297 = .ok (.goto 4, 3) := by decide +kernel
set_option maxHeartbeats 2000000 in
set_option maxRecDepth 20000 in
theorem l_states6 (d : Nat) {b : Nat} {σ0 : MS} {r : Int} {F : Int} {m : Int} {k : Int} {C0 : Int} {post : Option Value → MS → Prop} (hr : 0 ≤ r ∧ r < 6) (hR0 : RG σ0) (hit : ITM σ0) (hpar : PAR σ0) (hok : OKS σ0 F r) (hF12 : 1 ≤ F ∧ F ≤ 12) (htg : TGT σ0 r) (hm : m = σ0.2.1 9 r) (hk : 0 ≤ k ∧ k < m) (hx_309 : ∀ (w : Int) (i : Int) (σ : MS) , (Fr [] [47, 49, 50, 51, 52, 53] [] σ0 σ) → (RG σ) → (w = 0 ∨ w = 1) → (BO 47 σ) → (SSA σ) → (SCA σ) → (UNR σ r m) → ((cz (σ.2.1 47) 221 : Int) + (cw (σ.2.1 49) (31824 * r) 31824 : Int) + w ≤ C0) → Tm (d + 4) m_X12_findStates 309 b σ [(4, .int (iI i)), (3, .int (iI k)), (2, .int (iI w)), (0, .ref b), (1, .int (iI r))] [] post) : ∀ (n : Nat) (w : Int) (i : Int) (σ : MS) , (Fr [] [47, 49, 50, 51, 52, 53] [] σ0 σ) → (RG σ) → ((w = 0 ∨ w = 1) ∧ 0 ≤ i ∧ i ≤ 2) → (BO 47 σ) → (SSA σ) → (SCA σ) → (UNR σ r m) → ((cz (σ.2.1 47) 221 : Int) + (cw (σ.2.1 49) (31824 * r) 31824 : Int) + w ≤ C0) → (2 - i).toNat = n → Tm (d + 4) m_X12_findStates 263 b σ [(4, .int (iI i)), (3, .int (iI k)), (2, .int (iI w)), (0, .ref b), (1, .int (iI r))] [] post := by
  intro n
  induction n using Nat.strongRecOn with
  | _ n ih =>
    intro w i σ hF hR h0 hbo hss hsc hun hcn hm
    have hit1 := hit.fr hF (by decide)
    have hpar1 := hpar.fr hF (by decide)
    have hok1 := hok.fr hF (by decide)
    have htg1 := htg.fr hF (by decide)
    have q1 := hit r (by omega) (by omega)
    have q9 : σ.2.1 9 r = σ0.2.1 9 r := by rw [hF.2.1 9 (by decide)]
    have q5 := htg1 k (by omega) (by omega)
    refine tm_iload dX12_findStates_263 0 rfl ?_
    refine tm_iconst dX12_findStates_265 ?_
    refine tm_icmp_ge (tgt := 309) dX12_findStates_266 (by decide) ⟨by omega, by omega⟩ ⟨by decide, by decide⟩ (fun h1 => ?_) (fun h1 => ?_)
    · exact tm_sub [0, 1, 2, 3, 4] rfl (hx_309 (w) (i) σ (Fr.rfl.trans (Fr.sub hF (by decide) (by decide) (by decide))) hR (by omega) hbo hss hsc hun hcn)
    · refine tm_aload_n dX12_findStates_269 rfl 3 rfl ?_
      refine tm_iload_n dX12_findStates_270 rfl 4 rfl ?_
      refine tm_iload_n dX12_findStates_271 rfl 1 rfl ?_
      refine tm_iload dX12_findStates_272 0 rfl ?_
      refine tm_callV (M := m_X12_findStates) (pc := 274) (ix := 413) (M' := m_X12_goesOn) (As := [.int (iI r), .int (iI k), .int (iI i)]) (rest := []) dX12_findStates_274 ok_X12_goesOn im_X12_goesOn se_X12_goesOn ml12_413 np_X12_goesOn rfl rfl (Nat.le_of_ble_eq_true rfl) (Nat.le_of_ble_eq_true rfl) rfl (c_X12_goesOn (d + 1) (σ := σ) (r := r) (k := k) (how := i) (by omega) hR (by omega) (fun q => hok1.jmp _ (by omega) (by omega) (by omega)) (by omega)) (fun r2 σ3 hp => ?_)
      obtain ⟨v4, rfl, rfl, f5, f6, f7, f8⟩ := hp
      show Tm _ _ 277 b σ [(4, .int (iI i)), (3, .int (iI k)), (2, .int (iI w)), (0, .ref b), (1, .int (iI r))] [.int (iI v4)] _
      refine tm_istore (L' := [(5, .int (iI v4)), (4, .int (iI i)), (3, .int (iI k)), (2, .int (iI w)), (0, .ref b), (1, .int (iI r))]) dX12_findStates_277 (by decide) rfl ?_
      refine tm_iload_n dX12_findStates_279 rfl 3 rfl ?_
      refine tm_iload dX12_findStates_280 0 rfl ?_
      refine tm_iconst dX12_findStates_282 ?_
      refine tm_icmp_eq (tgt := 300) dX12_findStates_283 (by decide) ⟨by omega, by omega⟩ ⟨by decide, by decide⟩ (fun h9 => ?_) (fun h9 => ?_)
      · refine tm_iconst dX12_findStates_300 ?_
        refine tm_iorZ (x := w) (y := 0) dX12_findStates_301 (by omega) (by omega) (fun c10 g11 => ?_)
        refine tm_istore_n (L' := [(2, .int (iI c10)), (5, .int (iI v4)), (4, .int (iI i)), (3, .int (iI k)), (0, .ref b), (1, .int (iI r))]) dX12_findStates_302 rfl (by decide) rfl ?_
        refine tm_iinc (q0 := 2) (L' := [(4, .int (iI (i + 1))), (2, .int (iI c10)), (5, .int (iI v4)), (3, .int (iI k)), (0, .ref b), (1, .int (iI r))]) dX12_findStates_303 rfl (by decide) rfl ?_
        refine tm_goto (tgt := 263) dX12_findStates_306 (by decide) ?_
        exact tm_sub [0, 3, 1, 4, 5] rfl (ih _ (by omega) (c10) (i + 1) σ (Fr.rfl.trans (Fr.sub hF (by decide) (by decide) (by decide))) hR (by omega) (by assumption) (by assumption) (by first | exact hsc | exact hsc.fr (by assumption) (by decide)) (by assumption) (by omega) rfl)
      · refine tm_aload_n dX12_findStates_286 rfl 4 rfl ?_
        refine tm_iload_n dX12_findStates_287 rfl 5 rfl ?_
        refine tm_iload dX12_findStates_288 0 rfl ?_
        refine tm_callV (M := m_X12_findStates) (pc := 290) (ix := 423) (M' := m_X12_comes) (As := [.int (iI r), .int (iI v4)]) (rest := [.int (iI w)]) dX12_findStates_290 ok_X12_comes im_X12_comes se_X12_comes ml12_423 np_X12_comes rfl rfl (Nat.le_of_ble_eq_true rfl) (Nat.le_of_ble_eq_true rfl) rfl (c_X12_comes (d + 2) (σ := σ) (r := r) (to := v4) (m := m) (by omega) hR hbo hsc hss (by omega) hun) (fun r12 σ13 hp => ?_)
        obtain ⟨v14, rfl, f15, f16, f17, f18, f19, f20, f21, f22, f23⟩ := hp
        show Tm _ _ 293 b σ13 [(5, .int (iI v4)), (4, .int (iI i)), (3, .int (iI k)), (2, .int (iI w)), (0, .ref b), (1, .int (iI r))] [.int (iI v14), .int (iI w)] _
        refine tm_if_eq (tgt := 300) dX12_findStates_293 (by decide) ⟨by omega, by omega⟩ (fun h24 => ?_) (fun h24 => ?_)
        · refine tm_iconst dX12_findStates_300 ?_
          refine tm_iorZ (x := w) (y := 0) dX12_findStates_301 (by omega) (by omega) (fun c25 g26 => ?_)
          refine tm_istore_n (L' := [(2, .int (iI c25)), (5, .int (iI v4)), (4, .int (iI i)), (3, .int (iI k)), (0, .ref b), (1, .int (iI r))]) dX12_findStates_302 rfl (by decide) rfl ?_
          refine tm_iinc (q0 := 2) (L' := [(4, .int (iI (i + 1))), (2, .int (iI c25)), (5, .int (iI v4)), (3, .int (iI k)), (0, .ref b), (1, .int (iI r))]) dX12_findStates_303 rfl (by decide) rfl ?_
          refine tm_goto (tgt := 263) dX12_findStates_306 (by decide) ?_
          exact tm_sub [0, 3, 1, 4, 5] rfl (ih _ (by omega) (c25) (i + 1) σ13 ((Fr.rfl.trans (Fr.sub hF (by decide) (by decide) (by decide))).trans (Fr.sub f16 (by decide) (by decide) (by decide))) f17 (by omega) (by assumption) (by assumption) (by first | exact hsc | exact hsc.fr (by assumption) (by decide)) (by assumption) (by omega) rfl)
        · refine tm_iconst dX12_findStates_296 ?_
          refine tm_goto (tgt := 301) dX12_findStates_297 (by decide) ?_
          refine tm_iorZ (x := w) (y := 1) dX12_findStates_301 (by omega) (by omega) (fun c27 g28 => ?_)
          refine tm_istore_n (L' := [(2, .int (iI c27)), (5, .int (iI v4)), (4, .int (iI i)), (3, .int (iI k)), (0, .ref b), (1, .int (iI r))]) dX12_findStates_302 rfl (by decide) rfl ?_
          refine tm_iinc (q0 := 2) (L' := [(4, .int (iI (i + 1))), (2, .int (iI c27)), (5, .int (iI v4)), (3, .int (iI k)), (0, .ref b), (1, .int (iI r))]) dX12_findStates_303 rfl (by decide) rfl ?_
          refine tm_goto (tgt := 263) dX12_findStates_306 (by decide) ?_
          exact tm_sub [0, 3, 1, 4, 5] rfl (ih _ (by omega) (c27) (i + 1) σ13 ((Fr.rfl.trans (Fr.sub hF (by decide) (by decide) (by decide))).trans (Fr.sub f16 (by decide) (by decide) (by decide))) f17 (by omega) (by assumption) (by assumption) (by first | exact hsc | exact hsc.fr (by assumption) (by decide)) (by assumption) (by omega) rfl)
theorem ml12_427 : Cond.methodLink RX12 427 yX12_behindItem ∈ pWW := pw9 (List.mem_of_getElem? (i := 90) rfl) rfl
theorem dX12_findStates_232 : decode cX12_findStates 232 = .ok (.iload_n 3, 1) := by decide +kernel
theorem dX12_findStates_233 : decode cX12_findStates 233 = .ok (.aload_n 0, 1) := by decide +kernel
theorem dX12_findStates_234 : decode cX12_findStates 234 = .ok (.getfield 32, 3) := by decide +kernel
theorem dX12_findStates_237 : decode cX12_findStates 237 = .ok (.iload_n 1, 1) := by decide +kernel
theorem dX12_findStates_238 : decode cX12_findStates 238 = .ok (.iaload, 1) := by decide +kernel
theorem dX12_findStates_239 : decode cX12_findStates 239 = .ok (.if_icmp .ge 76, 3) := by decide +kernel
theorem dX12_findStates_242 : decode cX12_findStates 242 = .ok (.aload_n 0, 1) := by decide +kernel
theorem dX12_findStates_243 : decode cX12_findStates 243 = .ok (.getfield 91, 3) := by decide +kernel
theorem dX12_findStates_246 : decode cX12_findStates 246 = .ok (.iload_n 3, 1) := by decide +kernel
theorem dX12_findStates_247 : decode cX12_findStates 247 = .ok (.baload, 1) := by decide +kernel
theorem dX12_findStates_248 : decode cX12_findStates 248 = .ok (.ifCond .ne 6, 3) := by decide +kernel
theorem dX12_findStates_254 : decode cX12_findStates 254 = .ok (.aload_n 0, 1) := by decide +kernel
theorem dX12_findStates_255 : decode cX12_findStates 255 = .ok (.iload_n 1, 1) := by decide +kernel
theorem dX12_findStates_256 : decode cX12_findStates 256 = .ok (.iload_n 3, 1) := by decide +kernel
theorem dX12_findStates_257 : decode cX12_findStates 257 = .ok (.invokevirtual 427, 3) := by decide +kernel
theorem dX12_findStates_260 : decode cX12_findStates 260 = .ok (.iconst 0, 1) := by decide +kernel
theorem dX12_findStates_261 : decode cX12_findStates 261 = .ok (.istore 4, 2) := by decide +kernel
theorem dX12_findStates_309 : decode cX12_findStates 309 = .ok (.iinc 3 1, 3) := by decide +kernel
theorem dX12_findStates_312 : decode cX12_findStates 312 = .ok (.goto (-80), 3) := by decide +kernel
theorem dX12_findStates_251 : decode cX12_findStates 251 = .ok (.goto 58, 3) := by decide +kernel
set_option maxHeartbeats 2000000 in
set_option maxRecDepth 20000 in
theorem l_states5 (d : Nat) {b : Nat} {σ0 : MS} {r : Int} {F : Int} {m : Int} {C0 : Int} {post : Option Value → MS → Prop} (hr : 0 ≤ r ∧ r < 6) (hR0 : RG σ0) (hit : ITM σ0) (hpar : PAR σ0) (hok : OKS σ0 F r) (hF12 : 1 ≤ F ∧ F ≤ 12) (htg : TGT σ0 r) (hm : m = σ0.2.1 9 r) (hx_315 : ∀ (w : Int) (k : Int) (σ : MS) , (Fr [] [47, 49, 50, 51, 52, 53, 54, 55, 56, 57, 58] [] σ0 σ) → (RG σ) → (w = 0 ∨ w = 1) → (BO 47 σ) → (SSA σ) → (SCA σ) → (UNR σ r m) → ((cz (σ.2.1 47) 221 : Int) + (cw (σ.2.1 49) (31824 * r) 31824 : Int) + w ≤ C0) → Tm (d + 5) m_X12_findStates 315 b σ [(3, .int (iI k)), (2, .int (iI w)), (0, .ref b), (1, .int (iI r))] [] post) : ∀ (n : Nat) (w : Int) (k : Int) (σ : MS) , (Fr [] [47, 49, 50, 51, 52, 53, 54, 55, 56, 57, 58] [] σ0 σ) → (RG σ) → ((w = 0 ∨ w = 1) ∧ 0 ≤ k ∧ k ≤ m) → (BO 47 σ) → (SSA σ) → (SCA σ) → (UNR σ r m) → ((cz (σ.2.1 47) 221 : Int) + (cw (σ.2.1 49) (31824 * r) 31824 : Int) + w ≤ C0) → (m - k).toNat = n → Tm (d + 5) m_X12_findStates 232 b σ [(3, .int (iI k)), (2, .int (iI w)), (0, .ref b), (1, .int (iI r))] [] post := by
  intro n
  induction n using Nat.strongRecOn with
  | _ n ih =>
    intro w k σ hF hR h0 hbo hss hsc hun hcn hm
    have hit1 := hit.fr hF (by decide)
    have hpar1 := hpar.fr hF (by decide)
    have hok1 := hok.fr hF (by decide)
    have htg1 := htg.fr hF (by decide)
    have q1 := hit r (by omega) (by omega)
    have q9 : σ.2.1 9 r = σ0.2.1 9 r := by rw [hF.2.1 9 (by decide)]
    refine tm_iload_n dX12_findStates_232 rfl 0 rfl ?_
    refine tm_aload_n dX12_findStates_233 rfl 2 rfl ?_
    refine tm_get (k := 9) (v := .ref (b + 1 + 7)) lay_12 dX12_findStates_234 (by decide) fl12_32 rfl ?_
    refine tm_iload_n dX12_findStates_237 rfl 3 rfl ?_
    refine tm_iald (z := r) (v := σ0.2.1 9 r) dX12_findStates_238 (show mT[7]? = some (9, 0, 13) from rfl) (by omega) (by omega) (by decide) (ra_F hF (by decide) (rfl)) ?_
    have g1 := RG.a hR0 9 (r)
    refine tm_icmp_ge (tgt := 315) dX12_findStates_239 (by decide) ⟨by omega, by omega⟩ ⟨by omega, by omega⟩ (fun h2 => ?_) (fun h2 => ?_)
    · exact tm_sub [0, 1, 2, 3] rfl (hx_315 (w) (k) σ (Fr.rfl.trans (Fr.sub hF (by decide) (by decide) (by decide))) hR (by omega) hbo hss hsc hun hcn)
    · refine tm_aload_n dX12_findStates_242 rfl 2 rfl ?_
      refine tm_get (k := 47) (v := .ref (b + 1 + 25)) lay_12 dX12_findStates_243 (by decide) fl12_91 rfl ?_
      refine tm_iload_n dX12_findStates_246 rfl 0 rfl ?_
      refine tm_zald (z := k) (v := σ.2.1 47 k) dX12_findStates_247 (show mT[25]? = some (47, 2, 221) from rfl) (by omega) (by omega) (by decide) (rfl) ?_
      have g3 := RG.a hR 47 (k)
      have := hbo (k)
      refine tm_if_ne (tgt := 254) dX12_findStates_248 (by decide) ⟨by omega, by omega⟩ (fun h4 => ?_) (fun h4 => ?_)
      · refine tm_aload_n dX12_findStates_254 rfl 2 rfl ?_
        refine tm_iload_n dX12_findStates_255 rfl 3 rfl ?_
        refine tm_iload_n dX12_findStates_256 rfl 0 rfl ?_
        refine tm_callV (M := m_X12_findStates) (pc := 257) (ix := 427) (M' := m_X12_behindItem) (As := [.int (iI r), .int (iI k)]) (rest := []) dX12_findStates_257 ok_X12_behindItem im_X12_behindItem se_X12_behindItem ml12_427 np_X12_behindItem rfl rfl (Nat.le_of_ble_eq_true rfl) (Nat.le_of_ble_eq_true rfl) rfl (c_X12_behindItem (d) (σ := σ) (r := r) (k := k) (F := F) (by omega) hR hit1 hpar1 hok1 hF12 hss hsc (by omega)) (fun r5 σ6 hp => ?_)
        obtain ⟨rfl, f8, f9, f10⟩ := hp
        show Tm _ _ 260 b σ6 [(3, .int (iI k)), (2, .int (iI w)), (0, .ref b), (1, .int (iI r))] [] _
        refine tm_iconst dX12_findStates_260 ?_
        refine tm_istore (L' := [(4, .int (iI 0)), (3, .int (iI k)), (2, .int (iI w)), (0, .ref b), (1, .int (iI r))]) dX12_findStates_261 (by decide) rfl ?_
        refine tm_sub [0, 1, 2, 3, 4] rfl (l_states6 (d + 1) (σ0 := σ6) (r := r) (k := k) (F := F) (m := m) (C0 := C0) hr f9 (hit1.fr f8 (by decide)) (hpar1.fr f8 (by decide)) (hok1.fr f8 (by decide)) hF12 (htg1.fr f8 (by decide)) (by rw [(f8).2.1 9 (by decide)]; omega) (by omega) (fun w22 i23 σ24 F14 R15 f16 f17 f18 f19 f20 f21 => ?_) _ (w) (0) σ6 Fr.rfl f9 (by omega) (hbo.fr f8 (by decide)) (hss.fr f8 (by decide)) (by assumption) (by unfold UNR; rw [(f8).2.1 47 (by decide), (f8).2.1 49 (by decide)]; exact hun) (by rw [(f8).2.1 47 (by decide), (f8).2.1 49 (by decide)]; omega) rfl)
        show Tm _ _ 309 b σ24 [(4, .int (iI i23)), (3, .int (iI k)), (2, .int (iI w22)), (0, .ref b), (1, .int (iI r))] [] _
        refine tm_iinc (q0 := 1) (L' := [(3, .int (iI (k + 1))), (4, .int (iI i23)), (2, .int (iI w22)), (0, .ref b), (1, .int (iI r))]) dX12_findStates_309 rfl (by decide) rfl ?_
        refine tm_goto (tgt := 232) dX12_findStates_312 (by decide) ?_
        exact tm_sub [0, 2, 3, 4] rfl (ih _ (by omega) (w22) (k + 1) σ24 (((Fr.rfl.trans (Fr.sub hF (by decide) (by decide) (by decide))).trans (Fr.sub f8 (by decide) (by decide) (by decide))).trans (Fr.sub F14 (by decide) (by decide) (by decide))) R15 (by omega) (by assumption) (by assumption) (by assumption) (by assumption) (by omega) rfl)
      · refine tm_goto (tgt := 309) dX12_findStates_251 (by decide) ?_
        refine tm_iinc (q0 := 0) (L' := [(3, .int (iI (k + 1))), (2, .int (iI w)), (0, .ref b), (1, .int (iI r))]) dX12_findStates_309 rfl (by decide) rfl ?_
        refine tm_goto (tgt := 232) dX12_findStates_312 (by decide) ?_
        exact tm_sub [0, 1, 2, 3] rfl (ih _ (by omega) (w) (k + 1) σ (Fr.rfl.trans (Fr.sub hF (by decide) (by decide) (by decide))) hR (by omega) (by assumption) (by assumption) (by assumption) (by assumption) (by omega) rfl)
theorem dX12_findStates_224 : decode cX12_findStates 224 = .ok (.iload_n 2, 1) := by decide +kernel
theorem dX12_findStates_225 : decode cX12_findStates 225 = .ok (.ifCond .eq 93, 3) := by decide +kernel
theorem dX12_findStates_228 : decode cX12_findStates 228 = .ok (.iconst 0, 1) := by decide +kernel
theorem dX12_findStates_229 : decode cX12_findStates 229 = .ok (.istore_n 2, 1) := by decide +kernel
theorem dX12_findStates_230 : decode cX12_findStates 230 = .ok (.iconst 0, 1) := by decide +kernel
theorem dX12_findStates_231 : decode cX12_findStates 231 = .ok (.istore_n 3, 1) := by decide +kernel
theorem dX12_findStates_315 : decode cX12_findStates 315 = .ok (.goto (-91), 3) := by decide +kernel
set_option maxHeartbeats 2000000 in
set_option maxRecDepth 20000 in
theorem l_states4 (d : Nat) {b : Nat} {σ0 : MS} {r : Int} {F : Int} {m : Int} {post : Option Value → MS → Prop} (hr : 0 ≤ r ∧ r < 6) (hR0 : RG σ0) (hit : ITM σ0) (hpar : PAR σ0) (hok : OKS σ0 F r) (hF12 : 1 ≤ F ∧ F ≤ 12) (htg : TGT σ0 r) (hm : m = σ0.2.1 9 r) (hx_318 : ∀ (w : Int) (σ : MS) , (Fr [] [47, 49, 50, 51, 52, 53, 54, 55, 56, 57, 58] [] σ0 σ) → (RG σ) → (BO 47 σ) → (SSA σ) → (SCA σ) → Tm (d + 5) m_X12_findStates 318 b σ [(2, .int (iI w)), (0, .ref b), (1, .int (iI r))] [] post) : ∀ (n : Nat) (w : Int) (σ : MS) , (Fr [] [47, 49, 50, 51, 52, 53, 54, 55, 56, 57, 58] [] σ0 σ) → (RG σ) → (w = 0 ∨ w = 1) → (BO 47 σ) → (SSA σ) → (SCA σ) → (UNR σ r m) → ((cz (σ.2.1 47) 221 : Int) + (cw (σ.2.1 49) (31824 * r) 31824 : Int) + w).toNat = n → Tm (d + 5) m_X12_findStates 224 b σ [(2, .int (iI w)), (0, .ref b), (1, .int (iI r))] [] post := by
  intro n
  induction n using Nat.strongRecOn with
  | _ n ih =>
    intro w σ hF hR h0 hbo hss hsc hun hm
    have hit1 := hit.fr hF (by decide)
    have hpar1 := hpar.fr hF (by decide)
    have hok1 := hok.fr hF (by decide)
    have htg1 := htg.fr hF (by decide)
    have q1 := hit r (by omega) (by omega)
    have q9 : σ.2.1 9 r = σ0.2.1 9 r := by rw [hF.2.1 9 (by decide)]
    refine tm_iload_n dX12_findStates_224 rfl 0 rfl ?_
    refine tm_if_eq (tgt := 318) dX12_findStates_225 (by decide) ⟨by omega, by omega⟩ (fun h1 => ?_) (fun h1 => ?_)
    · exact tm_sub [0, 1, 2] rfl (hx_318 (w) σ (Fr.rfl.trans (Fr.sub hF (by decide) (by decide) (by decide))) hR hbo hss hsc)
    · refine tm_iconst dX12_findStates_228 ?_
      refine tm_istore_n (L' := [(2, .int (iI 0)), (0, .ref b), (1, .int (iI r))]) dX12_findStates_229 rfl (by decide) rfl ?_
      refine tm_iconst dX12_findStates_230 ?_
      refine tm_istore_n (L' := [(3, .int (iI 0)), (2, .int (iI 0)), (0, .ref b), (1, .int (iI r))]) dX12_findStates_231 rfl (by decide) rfl ?_
      refine tm_sub [0, 1, 2, 3] rfl (l_states5 (d) (σ0 := σ) (r := r) (F := F) (m := m) (C0 := ((cz (σ.2.1 47) 221 : Int) + (cw (σ.2.1 49) (31824 * r) 31824 : Int))) hr hR hit1 hpar1 hok1 hF12 htg1 (by omega) (fun w13 k14 σ15 F5 R6 f7 f8 f9 f10 f11 f12 => ?_) _ (0) (0) σ Fr.rfl hR (by omega) hbo hss hsc hun (by omega) rfl)
      show Tm _ _ 315 b σ15 [(3, .int (iI k14)), (2, .int (iI w13)), (0, .ref b), (1, .int (iI r))] [] _
      refine tm_goto (tgt := 224) dX12_findStates_315 (by decide) ?_
      exact tm_sub [1, 2, 3] rfl (ih _ (by omega) (w13) σ15 ((Fr.rfl.trans (Fr.sub hF (by decide) (by decide) (by decide))).trans (Fr.sub F5 (by decide) (by decide) (by decide))) R6 (by omega) (by assumption) (by assumption) (by assumption) (by assumption) rfl)
end
section
theorem LEX.fr {ss ks js : List Nat} {σ τ : MS} {r : Int} (h : LEX σ r) (f : Fr ss ks js σ τ) (hk : ∀ k ∈ [3, 4, 9], k ∉ ks) : LEX τ r := by
  unfold LEX
  rw [f.q hk (k := 3) (by decide), f.q hk (k := 4) (by decide), f.q hk (k := 9) (by decide)]
  exact h

theorem fl12_95 : Cond.fieldLink RX12 95 (TX12 48).1 (TX12 48).2.1 (TX12 48).2.2.1 ∈ pWW := pw7 (List.mem_of_getElem? (i := 55) rfl) rfl
theorem dX12_findStates_0 : decode cX12_findStates 0 = .ok (.aload_n 0, 1) := by decide +kernel
theorem dX12_findStates_1 : decode cX12_findStates 1 = .ok (.getfield 95, 3) := by decide +kernel
theorem dX12_findStates_4 : decode cX12_findStates 4 = .ok (.iload_n 1, 1) := by decide +kernel
theorem dX12_findStates_5 : decode cX12_findStates 5 = .ok (.baload, 1) := by decide +kernel
theorem dX12_findStates_6 : decode cX12_findStates 6 = .ok (.ifCond .eq 4, 3) := by decide +kernel
theorem dX12_findStates_10 : decode cX12_findStates 10 = .ok (.aload_n 0, 1) := by decide +kernel
theorem dX12_findStates_11 : decode cX12_findStates 11 = .ok (.getfield 95, 3) := by decide +kernel
theorem dX12_findStates_14 : decode cX12_findStates 14 = .ok (.iload_n 1, 1) := by decide +kernel
theorem dX12_findStates_15 : decode cX12_findStates 15 = .ok (.iconst 1, 1) := by decide +kernel
theorem dX12_findStates_16 : decode cX12_findStates 16 = .ok (.bastore, 1) := by decide +kernel
theorem dX12_findStates_17 : decode cX12_findStates 17 = .ok (.aload_n 0, 1) := by decide +kernel
theorem dX12_findStates_18 : decode cX12_findStates 18 = .ok (.iload_n 1, 1) := by decide +kernel
theorem dX12_findStates_19 : decode cX12_findStates 19 = .ok (.invokevirtual 420, 3) := by decide +kernel
theorem dX12_findStates_22 : decode cX12_findStates 22 = .ok (.iconst 0, 1) := by decide +kernel
theorem dX12_findStates_23 : decode cX12_findStates 23 = .ok (.istore_n 2, 1) := by decide +kernel
theorem dX12_findStates_118 : decode cX12_findStates 118 = .ok (.iconst 0, 1) := by decide +kernel
theorem dX12_findStates_119 : decode cX12_findStates 119 = .ok (.istore_n 2, 1) := by decide +kernel
theorem dX12_findStates_217 : decode cX12_findStates 217 = .ok (.aload_n 0, 1) := by decide +kernel
theorem dX12_findStates_218 : decode cX12_findStates 218 = .ok (.iload_n 1, 1) := by decide +kernel
theorem dX12_findStates_219 : decode cX12_findStates 219 = .ok (.iconst 0, 1) := by decide +kernel
theorem dX12_findStates_220 : decode cX12_findStates 220 = .ok (.invokevirtual 423, 3) := by decide +kernel
theorem dX12_findStates_223 : decode cX12_findStates 223 = .ok (.istore_n 2, 1) := by decide +kernel
theorem dX12_findStates_318 : decode cX12_findStates 318 = .ok (.return_, 1) := by decide +kernel
theorem dX12_findStates_9 : decode cX12_findStates 9 = .ok (.return_, 1) := by decide +kernel
set_option maxHeartbeats 2000000 in
set_option maxRecDepth 20000 in
theorem c_X12_findStates (d : Nat) {b : Nat} {σ : MS} {r : Int} {F : Int} (hr : 0 ≤ r ∧ r < 6) (hR : RG σ) (hit : ITM σ) (hpar : PAR σ) (hnam : NAM σ) (hok : OKS σ F r) (hF12 : 1 ≤ F ∧ F ≤ 12) (hof : OKF σ r) (hf0 : FR0 σ r) (hl : LAB σ) (hbo : BO 47 σ) (hbh : BO 48 σ) (hss : SSA σ) (hsc : SCA σ) (hlex : LEX σ r) : Tm (d + 5) m_X12_findStates 0 b σ [(0, .ref b), (1, .int (iI r))] [] (fun ro σ2 => ro = none ∧ (Fr [] [46, 47, 48, 49, 50, 51, 52, 53, 54, 55, 56, 57, 58] [] σ σ2) ∧ (RG σ2) ∧ (LAB σ2) ∧ (BO 47 σ2) ∧ (BO 48 σ2) ∧ (SSA σ2) ∧ (SCA σ2)) := by
  have q1 := hit r (by omega) (by omega)
  have q2 := hpar r (by omega) (by omega)
  have q3 := hnam r (by omega) (by omega)
  have q4 := hof.1
  have q5 := (hof.2 0 (by omega) (by omega)).2
  unfold FR0 at hf0
  rw [hf0] at q5
  simp only [Int.mul_zero, Int.add_zero] at q5
  refine tm_aload_n dX12_findStates_0 rfl 0 rfl ?_
  refine tm_get (k := 48) (v := .ref (b + 1 + 26)) lay_12 dX12_findStates_1 (by decide) fl12_95 rfl ?_
  refine tm_iload_n dX12_findStates_4 rfl 1 rfl ?_
  refine tm_zald (z := r) (v := σ.2.1 48 r) dX12_findStates_5 (show mT[26]? = some (48, 2, 6) from rfl) (by omega) (by omega) (by decide) (rfl) ?_
  have g1 := RG.a hR 48 (r)
  have := hbh (r)
  refine tm_if_eq (tgt := 10) dX12_findStates_6 (by decide) ⟨by omega, by omega⟩ (fun h2 => ?_) (fun h2 => ?_)
  · refine tm_aload_n dX12_findStates_10 rfl 0 rfl ?_
    refine tm_get (k := 48) (v := .ref (b + 1 + 26)) lay_12 dX12_findStates_11 (by decide) fl12_95 rfl ?_
    refine tm_iload_n dX12_findStates_14 rfl 1 rfl ?_
    refine tm_iconst dX12_findStates_15 ?_
    refine tm_zast (z := r) (v := 1) dX12_findStates_16 (show mT[26]? = some (48, 2, 6) from rfl) (by omega) (by omega) (by decide) (by omega) ?_
    refine tm_aload_n dX12_findStates_17 rfl 0 rfl ?_
    refine tm_iload_n dX12_findStates_18 rfl 1 rfl ?_
    refine tm_callV (M := m_X12_findStates) (pc := 19) (ix := 420) (M' := m_X12_findLabels) (As := [.int (iI r)]) (rest := []) dX12_findStates_19 ok_X12_findLabels im_X12_findLabels se_X12_findLabels ml12_420 np_X12_findLabels rfl rfl (Nat.le_of_ble_eq_true rfl) (Nat.le_of_ble_eq_true rfl) rfl (c_X12_findLabels (d + 2) (σ := (sA 48 (r) (1) σ)) (r := r) (by omega) (hR.A (by omega)) (hit.fr (show Fr [] [48] [] σ (sA 48 (r) (1) σ) from (Fr.rfl.A (by decide))) (by decide)) (LBR.fr hok.jmp.lbr (show Fr [] [48] [] σ (sA 48 (r) (1) σ) from (Fr.rfl.A (by decide))) (by decide)) (hl.fr (show Fr [] [48] [] σ (sA 48 (r) (1) σ) from (Fr.rfl.A (by decide))) (by decide))) (fun r3 σ4 hp => ?_)
    obtain ⟨rfl, f6, f7, f8, f9⟩ := hp
    show Tm _ _ 22 b σ4 [(0, .ref b), (1, .int (iI r))] [] _
    have htg1 := LEX.tgt (hlex.fr (show Fr [] [48] [] σ (sA 48 (r) (1) σ) from (Fr.rfl.A (by decide))) (by decide)) f9 f6
    have hlab1 := f8
    refine tm_iconst dX12_findStates_22 ?_
    refine tm_istore_n (L' := [(2, .int (iI 0)), (0, .ref b), (1, .int (iI r))]) dX12_findStates_23 rfl (by decide) rfl ?_
    refine tm_sub [0, 1, 2] rfl (l_states1 (d + 4) (σ0 := σ4) (r := r) (by omega) f7 (by rw [((show Fr [] [46, 48] [] σ σ4 from ((Fr.rfl.A (by decide)).trans (Fr.sub f6 (by decide) (by decide) (by decide))))).2.1 9 (by decide)]; exact q1) (fun k17 σ18 F12 R13 f14 f15 f16 => ?_) _ (0) σ4 Fr.rfl f7 (by omega) (hbo.fr (show Fr [] [46, 48] [] σ σ4 from ((Fr.rfl.A (by decide)).trans (Fr.sub f6 (by decide) (by decide) (by decide)))) (by decide)) (hss.fr (show Fr [] [46, 48] [] σ σ4 from ((Fr.rfl.A (by decide)).trans (Fr.sub f6 (by decide) (by decide) (by decide)))) (by decide)) (fun j a c => by omega) rfl)
    show Tm _ _ 118 b σ18 [(2, .int (iI k17)), (0, .ref b), (1, .int (iI r))] [] _
    have hun1 : UNR σ18 r (σ.2.1 9 r) := by have h := f16; rw [((show Fr [] [46, 48] [] σ σ4 from ((Fr.rfl.A (by decide)).trans (Fr.sub f6 (by decide) (by decide) (by decide))))).2.1 9 (by decide)] at h; exact h
    have hbo1 := f14
    have hss1 := f15
    refine tm_iconst dX12_findStates_118 ?_
    refine tm_istore_n (L' := [(2, .int (iI 0)), (0, .ref b), (1, .int (iI r))]) dX12_findStates_119 rfl (by decide) rfl ?_
    refine tm_sub [0, 1, 2] rfl (l_states3 (d + 3) (σ0 := σ18) (r := r) (by omega) R13 (by rw [((show Fr [] [46, 47, 48, 49, 50, 51, 52, 53] [] σ σ18 from (((Fr.rfl.A (by decide)).trans (Fr.sub f6 (by decide) (by decide) (by decide))).trans (Fr.sub F12 (by decide) (by decide) (by decide))))).2.1 12 (by decide), ((show Fr [] [46, 47, 48, 49, 50, 51, 52, 53] [] σ σ18 from (((Fr.rfl.A (by decide)).trans (Fr.sub f6 (by decide) (by decide) (by decide))).trans (Fr.sub F12 (by decide) (by decide) (by decide))))).2.1 11 (by decide)]; omega) (by rw [((show Fr [] [46, 47, 48, 49, 50, 51, 52, 53] [] σ σ18 from (((Fr.rfl.A (by decide)).trans (Fr.sub f6 (by decide) (by decide) (by decide))).trans (Fr.sub F12 (by decide) (by decide) (by decide))))).2.1 12 (by decide), ((show Fr [] [46, 47, 48, 49, 50, 51, 52, 53] [] σ σ18 from (((Fr.rfl.A (by decide)).trans (Fr.sub f6 (by decide) (by decide) (by decide))).trans (Fr.sub F12 (by decide) (by decide) (by decide))))).2.1 18 (by decide)]; exact q5) (fun n124 σ25 F21 R22 f23 => ?_) _ (0) σ18 Fr.rfl R13 (by omega) (hsc.fr (show Fr [] [46, 47, 48, 49, 50, 51, 52, 53] [] σ σ18 from (((Fr.rfl.A (by decide)).trans (Fr.sub f6 (by decide) (by decide) (by decide))).trans (Fr.sub F12 (by decide) (by decide) (by decide)))) (by decide)) rfl)
    show Tm _ _ 217 b σ25 [(2, .int (iI n124)), (0, .ref b), (1, .int (iI r))] [] _
    have hun2 : UNR σ25 r (σ.2.1 9 r) := by unfold UNR; rw [F21.2.1 47 (by decide), F21.2.1 49 (by decide)]; exact hun1
    have hbo2 := hbo1.fr F21 (by decide)
    have hss2 := hss1.fr F21 (by decide)
    have hsc2 := f23
    refine tm_aload_n dX12_findStates_217 rfl 1 rfl ?_
    refine tm_iload_n dX12_findStates_218 rfl 2 rfl ?_
    refine tm_iconst dX12_findStates_219 ?_
    refine tm_callV (M := m_X12_findStates) (pc := 220) (ix := 423) (M' := m_X12_comes) (As := [.int (iI r), .int (iI 0)]) (rest := []) dX12_findStates_220 ok_X12_comes im_X12_comes se_X12_comes ml12_423 np_X12_comes rfl rfl (Nat.le_of_ble_eq_true rfl) (Nat.le_of_ble_eq_true rfl) rfl (c_X12_comes (d + 3) (σ := σ25) (r := r) (to := 0) (m := σ.2.1 9 r) (by omega) R22 hbo2 hsc2 hss2 (by omega) hun2) (fun r26 σ27 hp => ?_)
    obtain ⟨v28, rfl, f29, f30, f31, f32, f33, f34, f35, f36, f37⟩ := hp
    show Tm _ _ 223 b σ27 [(2, .int (iI n124)), (0, .ref b), (1, .int (iI r))] [.int (iI v28)] _
    have htg4 := ((htg1.fr F12 (by decide)).fr F21 (by decide)).fr f30 (by decide)
    have hsc4 := hsc2.fr f30 (by decide)
    have hk3_4 := f32
    have hk4_4 := f33
    have hk5_4 := f34
    refine tm_istore_n (L' := [(2, .int (iI v28)), (0, .ref b), (1, .int (iI r))]) dX12_findStates_223 rfl (by decide) rfl ?_
    refine tm_sub [0, 1, 2] rfl (l_states4 (d) (σ0 := σ27) (r := r) (F := F) (m := σ.2.1 9 r) hr f31 (hit.fr (show Fr [] [46, 47, 48, 49, 50, 51, 52, 53, 54, 55, 56, 57, 58] [] σ σ27 from (((((Fr.rfl.A (by decide)).trans (Fr.sub f6 (by decide) (by decide) (by decide))).trans (Fr.sub F12 (by decide) (by decide) (by decide))).trans (Fr.sub F21 (by decide) (by decide) (by decide))).trans (Fr.sub f30 (by decide) (by decide) (by decide)))) (by decide)) (hpar.fr (show Fr [] [46, 47, 48, 49, 50, 51, 52, 53, 54, 55, 56, 57, 58] [] σ σ27 from (((((Fr.rfl.A (by decide)).trans (Fr.sub f6 (by decide) (by decide) (by decide))).trans (Fr.sub F12 (by decide) (by decide) (by decide))).trans (Fr.sub F21 (by decide) (by decide) (by decide))).trans (Fr.sub f30 (by decide) (by decide) (by decide)))) (by decide)) (hok.fr (show Fr [] [46, 47, 48, 49, 50, 51, 52, 53, 54, 55, 56, 57, 58] [] σ σ27 from (((((Fr.rfl.A (by decide)).trans (Fr.sub f6 (by decide) (by decide) (by decide))).trans (Fr.sub F12 (by decide) (by decide) (by decide))).trans (Fr.sub F21 (by decide) (by decide) (by decide))).trans (Fr.sub f30 (by decide) (by decide) (by decide)))) (by decide)) hF12 htg4 (by rw [((show Fr [] [46, 47, 48, 49, 50, 51, 52, 53, 54, 55, 56, 57, 58] [] σ σ27 from (((((Fr.rfl.A (by decide)).trans (Fr.sub f6 (by decide) (by decide) (by decide))).trans (Fr.sub F12 (by decide) (by decide) (by decide))).trans (Fr.sub F21 (by decide) (by decide) (by decide))).trans (Fr.sub f30 (by decide) (by decide) (by decide))))).2.1 9 (by decide)]) (fun w45 σ46 F40 R41 f42 f43 f44 => ?_) _ (v28) σ27 Fr.rfl f31 (by omega) hk3_4 hk4_4 hsc4 hk5_4 rfl)
    show Tm _ _ 318 b σ46 [(2, .int (iI w45)), (0, .ref b), (1, .int (iI r))] [] _
    exact tm_vret rfl dX12_findStates_318 (⟨rfl, ((((((Fr.rfl.A (by decide)).trans (Fr.sub f6 (by decide) (by decide) (by decide))).trans (Fr.sub F12 (by decide) (by decide) (by decide))).trans (Fr.sub F21 (by decide) (by decide) (by decide))).trans (Fr.sub f30 (by decide) (by decide) (by decide))).trans (Fr.sub F40 (by decide) (by decide) (by decide))), R41, ((((LAB.fr hlab1 F12 (by decide)).fr F21 (by decide)).fr f30 (by decide)).fr F40 (by decide)), f42, (((((BO.A hbh (by omega)).fr f6 (by decide)).fr F12 (by decide)).fr F21 (by decide)).fr f30 (by decide)).fr F40 (by decide), f43, f44⟩)
  · exact tm_vret rfl dX12_findStates_9 (⟨rfl, Fr.rfl, hR, hl, hbo, hbh, hss, hsc⟩)
end
section
theorem RB (x : Int32) : -2147483648 ≤ x.toInt ∧ x.toInt ≤ 2147483647 := inR_toInt x

theorem fl12_7 : Cond.fieldLink RX12 7 (TX12 1).1 (TX12 1).2.1 (TX12 1).2.2.1 ∈ pWW := pw7 (List.mem_of_getElem? (i := 8) rfl) rfl
theorem fl12_382 : Cond.fieldLink RX12 382 (TX12 2).1 (TX12 2).2.1 (TX12 2).2.2.1 ∈ pWW := pw7 (List.mem_of_getElem? (i := 9) rfl) rfl
theorem dX12_four_0 : decode cX12_four 0 = .ok (.bipush 24, 2) := by decide +kernel
theorem dX12_four_2 : decode cX12_four 2 = .ok (.istore_n 2, 1) := by decide +kernel
theorem dX12_four_3 : decode cX12_four 3 = .ok (.iload_n 2, 1) := by decide +kernel
theorem dX12_four_4 : decode cX12_four 4 = .ok (.ifCond .lt 32, 3) := by decide +kernel
theorem dX12_four_7 : decode cX12_four 7 = .ok (.aload_n 0, 1) := by decide +kernel
theorem dX12_four_8 : decode cX12_four 8 = .ok (.getfield 7, 3) := by decide +kernel
theorem dX12_four_11 : decode cX12_four 11 = .ok (.aload_n 0, 1) := by decide +kernel
theorem dX12_four_12 : decode cX12_four 12 = .ok (.getfield 382, 3) := by decide +kernel
theorem dX12_four_15 : decode cX12_four 15 = .ok (.iload_n 1, 1) := by decide +kernel
theorem dX12_four_16 : decode cX12_four 16 = .ok (.iload_n 2, 1) := by decide +kernel
theorem dX12_four_17 : decode cX12_four 17 = .ok (.ishr, 1) := by decide +kernel
theorem dX12_four_18 : decode cX12_four 18 = .ok (.i2b, 1) := by decide +kernel
theorem dX12_four_19 : decode cX12_four 19 = .ok (.bastore, 1) := by decide +kernel
theorem dX12_four_20 : decode cX12_four 20 = .ok (.aload_n 0, 1) := by decide +kernel
theorem dX12_four_21 : decode cX12_four 21 = .ok (.dup, 1) := by decide +kernel
theorem dX12_four_22 : decode cX12_four 22 = .ok (.getfield 382, 3) := by decide +kernel
theorem dX12_four_25 : decode cX12_four 25 = .ok (.iconst 1, 1) := by decide +kernel
theorem dX12_four_26 : decode cX12_four 26 = .ok (.iadd, 1) := by decide +kernel
theorem dX12_four_27 : decode cX12_four 27 = .ok (.putfield 382, 3) := by decide +kernel
theorem dX12_four_30 : decode cX12_four 30 = .ok (.iinc 2 (-8), 3) := by decide +kernel
theorem dX12_four_33 : decode cX12_four 33 = .ok (.goto (-30), 3) := by decide +kernel
theorem dX12_four_36 : decode cX12_four 36 = .ok (.return_, 1) := by decide +kernel
set_option maxHeartbeats 4000000 in
set_option maxRecDepth 20000 in
theorem c_X12_four (d : Nat) {b : Nat} {σ : MS} {x : Int} (hR : RG σ) (hsz : 0 ≤ σ.1 2 ∧ σ.1 2 + 4 ≤ 1200) : Tm (d + 1) m_X12_four 0 b σ [(0, .ref b), (1, .int (iI x))] [] (fun ro σ2 => ro = none ∧ (Fr [2] [1] [] σ σ2) ∧ (RG σ2) ∧ (σ2.1 2 = σ.1 2 + 4)) := by
  refine tm_bipush dX12_four_0 (by decide) ?_
  refine tm_istore_n (L' := [(2, .int (iI 24)), (0, .ref b), (1, .int (iI x))]) dX12_four_2 rfl (by decide) rfl ?_
  refine tm_iload_n dX12_four_3 rfl 0 rfl ?_
  refine tm_if_lt (tgt := 36) dX12_four_4 (by decide) ⟨by decide, by decide⟩ (fun h => absurd h (by decide)) (fun _ => ?_)
  refine tm_aload_n dX12_four_7 rfl 1 rfl ?_
  refine tm_get (k := 1) (v := .ref (b + 1 + 0)) lay_12 dX12_four_8 (by decide) fl12_7 rfl ?_
  refine tm_aload_n dX12_four_11 rfl 1 rfl ?_
  refine tm_getS (k := 2) (t := σ.1 2) dX12_four_12 (by decide) fl12_382 rfl (rfl) ?_
  have g2 := RG.s hR 2
  refine tm_iload_n dX12_four_15 rfl 2 rfl ?_
  refine tm_iload_n dX12_four_16 rfl 0 rfl ?_
  refine tm_ishr dX12_four_17 ?_
  refine tm_i2b dX12_four_18 ?_
  have g3 := RB (vp_nar .byte (((iI x) >>> ((iI 24) &&& 31)).toInt8.toInt32))
  refine tm_bast (z := σ.1 2) (v := (vp_nar .byte (((iI x) >>> ((iI 24) &&& 31)).toInt8.toInt32)).toInt) dX12_four_19 (show mT[0]? = some (1, 1, 1200) from rfl) (by omega) (by omega) (by decide) (iI_self _).symm ?_
  refine tm_aload_n dX12_four_20 rfl 1 rfl ?_
  refine tm_dup dX12_four_21 rfl ?_
  refine tm_getS (k := 2) (t := σ.1 2) dX12_four_22 (by decide) fl12_382 rfl (rs_A (rfl)) ?_
  have g4 := RG.s hR 2
  refine tm_iconst dX12_four_25 ?_
  refine tm_iadd dX12_four_26 ?_
  refine tm_putS (k := 2) (v := (σ.1 2) + 1) lay_12 dX12_four_27 (by decide) fl12_382 rfl (tyX12_ok 2 (by decide)) rfl rfl rfl ?_
  refine tm_iinc (q0 := 0) (L' := [(2, .int (iI 16)), (0, .ref b), (1, .int (iI x))]) dX12_four_30 rfl (by decide) rfl ?_
  refine tm_goto (tgt := 3) dX12_four_33 (by decide) ?_
  refine tm_iload_n dX12_four_3 rfl 0 rfl ?_
  refine tm_if_lt (tgt := 36) dX12_four_4 (by decide) ⟨by decide, by decide⟩ (fun h => absurd h (by decide)) (fun _ => ?_)
  refine tm_aload_n dX12_four_7 rfl 1 rfl ?_
  refine tm_get (k := 1) (v := .ref (b + 1 + 0)) lay_12 dX12_four_8 (by decide) fl12_7 rfl ?_
  refine tm_aload_n dX12_four_11 rfl 1 rfl ?_
  refine tm_getS (k := 2) (t := (σ.1 2) + 1) dX12_four_12 (by decide) fl12_382 rfl (rs_eq) ?_
  refine tm_iload_n dX12_four_15 rfl 2 rfl ?_
  refine tm_iload_n dX12_four_16 rfl 0 rfl ?_
  refine tm_ishr dX12_four_17 ?_
  refine tm_i2b dX12_four_18 ?_
  have g6 := RB (vp_nar .byte (((iI x) >>> ((iI 16) &&& 31)).toInt8.toInt32))
  refine tm_bast (z := (σ.1 2) + 1) (v := (vp_nar .byte (((iI x) >>> ((iI 16) &&& 31)).toInt8.toInt32)).toInt) dX12_four_19 (show mT[0]? = some (1, 1, 1200) from rfl) (by omega) (by omega) (by decide) (iI_self _).symm ?_
  refine tm_aload_n dX12_four_20 rfl 1 rfl ?_
  refine tm_dup dX12_four_21 rfl ?_
  refine tm_getS (k := 2) (t := (σ.1 2) + 1) dX12_four_22 (by decide) fl12_382 rfl (rs_A (rs_eq)) ?_
  refine tm_iconst dX12_four_25 ?_
  refine tm_iadd dX12_four_26 ?_
  refine tm_putS (k := 2) (v := ((σ.1 2) + 1) + 1) lay_12 dX12_four_27 (by decide) fl12_382 rfl (tyX12_ok 2 (by decide)) rfl rfl rfl ?_
  refine tm_iinc (q0 := 0) (L' := [(2, .int (iI 8)), (0, .ref b), (1, .int (iI x))]) dX12_four_30 rfl (by decide) rfl ?_
  refine tm_goto (tgt := 3) dX12_four_33 (by decide) ?_
  refine tm_iload_n dX12_four_3 rfl 0 rfl ?_
  refine tm_if_lt (tgt := 36) dX12_four_4 (by decide) ⟨by decide, by decide⟩ (fun h => absurd h (by decide)) (fun _ => ?_)
  refine tm_aload_n dX12_four_7 rfl 1 rfl ?_
  refine tm_get (k := 1) (v := .ref (b + 1 + 0)) lay_12 dX12_four_8 (by decide) fl12_7 rfl ?_
  refine tm_aload_n dX12_four_11 rfl 1 rfl ?_
  refine tm_getS (k := 2) (t := ((σ.1 2) + 1) + 1) dX12_four_12 (by decide) fl12_382 rfl (rs_eq) ?_
  refine tm_iload_n dX12_four_15 rfl 2 rfl ?_
  refine tm_iload_n dX12_four_16 rfl 0 rfl ?_
  refine tm_ishr dX12_four_17 ?_
  refine tm_i2b dX12_four_18 ?_
  have g8 := RB (vp_nar .byte (((iI x) >>> ((iI 8) &&& 31)).toInt8.toInt32))
  refine tm_bast (z := ((σ.1 2) + 1) + 1) (v := (vp_nar .byte (((iI x) >>> ((iI 8) &&& 31)).toInt8.toInt32)).toInt) dX12_four_19 (show mT[0]? = some (1, 1, 1200) from rfl) (by omega) (by omega) (by decide) (iI_self _).symm ?_
  refine tm_aload_n dX12_four_20 rfl 1 rfl ?_
  refine tm_dup dX12_four_21 rfl ?_
  refine tm_getS (k := 2) (t := ((σ.1 2) + 1) + 1) dX12_four_22 (by decide) fl12_382 rfl (rs_A (rs_eq)) ?_
  refine tm_iconst dX12_four_25 ?_
  refine tm_iadd dX12_four_26 ?_
  refine tm_putS (k := 2) (v := (((σ.1 2) + 1) + 1) + 1) lay_12 dX12_four_27 (by decide) fl12_382 rfl (tyX12_ok 2 (by decide)) rfl rfl rfl ?_
  refine tm_iinc (q0 := 0) (L' := [(2, .int (iI 0)), (0, .ref b), (1, .int (iI x))]) dX12_four_30 rfl (by decide) rfl ?_
  refine tm_goto (tgt := 3) dX12_four_33 (by decide) ?_
  refine tm_iload_n dX12_four_3 rfl 0 rfl ?_
  refine tm_if_lt (tgt := 36) dX12_four_4 (by decide) ⟨by decide, by decide⟩ (fun h => absurd h (by decide)) (fun _ => ?_)
  refine tm_aload_n dX12_four_7 rfl 1 rfl ?_
  refine tm_get (k := 1) (v := .ref (b + 1 + 0)) lay_12 dX12_four_8 (by decide) fl12_7 rfl ?_
  refine tm_aload_n dX12_four_11 rfl 1 rfl ?_
  refine tm_getS (k := 2) (t := (((σ.1 2) + 1) + 1) + 1) dX12_four_12 (by decide) fl12_382 rfl (rs_eq) ?_
  refine tm_iload_n dX12_four_15 rfl 2 rfl ?_
  refine tm_iload_n dX12_four_16 rfl 0 rfl ?_
  refine tm_ishr dX12_four_17 ?_
  refine tm_i2b dX12_four_18 ?_
  have g10 := RB (vp_nar .byte (((iI x) >>> ((iI 0) &&& 31)).toInt8.toInt32))
  refine tm_bast (z := (((σ.1 2) + 1) + 1) + 1) (v := (vp_nar .byte (((iI x) >>> ((iI 0) &&& 31)).toInt8.toInt32)).toInt) dX12_four_19 (show mT[0]? = some (1, 1, 1200) from rfl) (by omega) (by omega) (by decide) (iI_self _).symm ?_
  refine tm_aload_n dX12_four_20 rfl 1 rfl ?_
  refine tm_dup dX12_four_21 rfl ?_
  refine tm_getS (k := 2) (t := (((σ.1 2) + 1) + 1) + 1) dX12_four_22 (by decide) fl12_382 rfl (rs_A (rs_eq)) ?_
  refine tm_iconst dX12_four_25 ?_
  refine tm_iadd dX12_four_26 ?_
  refine tm_putS (k := 2) (v := ((((σ.1 2) + 1) + 1) + 1) + 1) lay_12 dX12_four_27 (by decide) fl12_382 rfl (tyX12_ok 2 (by decide)) rfl rfl rfl ?_
  refine tm_iinc (q0 := 0) (L' := [(2, .int (iI (-8))), (0, .ref b), (1, .int (iI x))]) dX12_four_30 rfl (by decide) rfl ?_
  refine tm_goto (tgt := 3) dX12_four_33 (by decide) ?_
  refine tm_iload_n dX12_four_3 rfl 0 rfl ?_
  refine tm_if_lt (tgt := 36) dX12_four_4 (by decide) ⟨by decide, by decide⟩ (fun _ => ?_) (fun h => absurd h (by decide))
  exact tm_vret rfl dX12_four_36 (⟨rfl, ((((((((Fr.rfl.A (by decide)).S (by decide)).A (by decide)).S (by decide)).A (by decide)).S (by decide)).A (by decide)).S (by decide)), ((((((((hR.A (by omega)).S (by omega)).A (by omega)).S (by omega)).A (by omega)).S (by omega)).A (by omega)).S (by omega)), (rs_eq : (sS 2 (((((σ.1 2) + 1) + 1) + 1) + 1) (sA 1 ((((σ.1 2) + 1) + 1) + 1) ((vp_nar .byte (((iI x) >>> ((iI 0) &&& 31)).toInt8.toInt32)).toInt) (sS 2 ((((σ.1 2) + 1) + 1) + 1) (sA 1 (((σ.1 2) + 1) + 1) ((vp_nar .byte (((iI x) >>> ((iI 8) &&& 31)).toInt8.toInt32)).toInt) (sS 2 (((σ.1 2) + 1) + 1) (sA 1 ((σ.1 2) + 1) ((vp_nar .byte (((iI x) >>> ((iI 16) &&& 31)).toInt8.toInt32)).toInt) (sS 2 ((σ.1 2) + 1) (sA 1 (σ.1 2) ((vp_nar .byte (((iI x) >>> ((iI 24) &&& 31)).toInt8.toInt32)).toInt) σ)))))))).1 2 = ((((σ.1 2) + 1) + 1) + 1) + 1).trans (by omega)⟩)
theorem fl12_185 : Cond.fieldLink RX12 185 (TX12 0).1 (TX12 0).2.1 (TX12 0).2.2.1 ∈ pWW := pw7 (List.mem_of_getElem? (i := 7) rfl) rfl
theorem ml12_385 : Cond.methodLink RX12 385 yX12_four ∈ pWW := pw8 (List.mem_of_getElem? (i := 32) rfl) rfl
theorem dX12_feed_0 : decode cX12_feed 0 = .ok (.aload_n 0, 1) := by decide +kernel
theorem dX12_feed_1 : decode cX12_feed 1 = .ok (.iconst 0, 1) := by decide +kernel
theorem dX12_feed_2 : decode cX12_feed 2 = .ok (.putfield 185, 3) := by decide +kernel
theorem dX12_feed_5 : decode cX12_feed 5 = .ok (.aload_n 0, 1) := by decide +kernel
theorem dX12_feed_6 : decode cX12_feed 6 = .ok (.getfield 382, 3) := by decide +kernel
theorem dX12_feed_9 : decode cX12_feed 9 = .ok (.bipush 20, 2) := by decide +kernel
theorem dX12_feed_11 : decode cX12_feed 11 = .ok (.iadd, 1) := by decide +kernel
theorem dX12_feed_12 : decode cX12_feed 12 = .ok (.sipush 1200, 3) := by decide +kernel
theorem dX12_feed_15 : decode cX12_feed 15 = .ok (.if_icmp .le 5, 3) := by decide +kernel
theorem dX12_feed_20 : decode cX12_feed 20 = .ok (.aload_n 0, 1) := by decide +kernel
theorem dX12_feed_21 : decode cX12_feed 21 = .ok (.iload_n 1, 1) := by decide +kernel
theorem dX12_feed_22 : decode cX12_feed 22 = .ok (.invokevirtual 385, 3) := by decide +kernel
theorem dX12_feed_25 : decode cX12_feed 25 = .ok (.aload_n 0, 1) := by decide +kernel
theorem dX12_feed_26 : decode cX12_feed 26 = .ok (.iload_n 2, 1) := by decide +kernel
theorem dX12_feed_27 : decode cX12_feed 27 = .ok (.invokevirtual 385, 3) := by decide +kernel
theorem dX12_feed_30 : decode cX12_feed 30 = .ok (.aload_n 0, 1) := by decide +kernel
theorem dX12_feed_31 : decode cX12_feed 31 = .ok (.iload_n 3, 1) := by decide +kernel
theorem dX12_feed_32 : decode cX12_feed 32 = .ok (.invokevirtual 385, 3) := by decide +kernel
theorem dX12_feed_35 : decode cX12_feed 35 = .ok (.aload_n 0, 1) := by decide +kernel
theorem dX12_feed_36 : decode cX12_feed 36 = .ok (.iload 4, 2) := by decide +kernel
theorem dX12_feed_38 : decode cX12_feed 38 = .ok (.invokevirtual 385, 3) := by decide +kernel
theorem dX12_feed_41 : decode cX12_feed 41 = .ok (.aload_n 0, 1) := by decide +kernel
theorem dX12_feed_42 : decode cX12_feed 42 = .ok (.iload 5, 2) := by decide +kernel
theorem dX12_feed_44 : decode cX12_feed 44 = .ok (.invokevirtual 385, 3) := by decide +kernel
theorem dX12_feed_47 : decode cX12_feed 47 = .ok (.aload_n 0, 1) := by decide +kernel
theorem dX12_feed_48 : decode cX12_feed 48 = .ok (.getfield 382, 3) := by decide +kernel
theorem dX12_feed_51 : decode cX12_feed 51 = .ok (.ireturn, 1) := by decide +kernel
theorem dX12_feed_18 : decode cX12_feed 18 = .ok (.iconst (-1), 1) := by decide +kernel
theorem dX12_feed_19 : decode cX12_feed 19 = .ok (.ireturn, 1) := by decide +kernel
set_option maxHeartbeats 4000000 in
set_option maxRecDepth 20000 in
theorem c_X12_feed (d : Nat) {b : Nat} {σ : MS} {x1 : Int} {x2 : Int} {x3 : Int} {x4 : Int} {x5 : Int} (hR : RG σ) (hsz : 0 ≤ σ.1 2 ∧ σ.1 2 ≤ 1200) : Tm (d + 2) m_X12_feed 0 b σ [(0, .ref b), (1, .int (iI x1)), (2, .int (iI x2)), (3, .int (iI x3)), (4, .int (iI x4)), (5, .int (iI x5))] [] (fun ro σ2 => ∃ v : Int, ro = some (.int (iI v)) ∧ (Fr [0, 2] [1] [] σ σ2) ∧ (RG σ2) ∧ (σ.1 2 ≤ 1180 → v = σ.1 2 + 20 ∧ σ2.1 2 = σ.1 2 + 20) ∧ (1180 < σ.1 2 → v = -1 ∧ σ2.1 2 = σ.1 2)) := by
  refine tm_aload_n dX12_feed_0 rfl 0 rfl ?_
  refine tm_iconst dX12_feed_1 ?_
  refine tm_putS (k := 0) (v := 0) lay_12 dX12_feed_2 (by decide) fl12_185 rfl (tyX12_ok 0 (by decide)) rfl rfl rfl ?_
  refine tm_aload_n dX12_feed_5 rfl 0 rfl ?_
  refine tm_getS (k := 2) (t := σ.1 2) dX12_feed_6 (by decide) fl12_382 rfl (rs_o (by decide) (rfl)) ?_
  have g1 := RG.s hR 2
  refine tm_bipush dX12_feed_9 (by decide) ?_
  refine tm_iadd dX12_feed_11 ?_
  refine tm_sipush dX12_feed_12 (by decide) ?_
  refine tm_icmp_le (tgt := 20) dX12_feed_15 (by decide) ⟨by omega, by omega⟩ ⟨by decide, by decide⟩ (fun h2 => ?_) (fun h2 => ?_)
  · refine tm_aload_n dX12_feed_20 rfl 0 rfl ?_
    refine tm_iload_n dX12_feed_21 rfl 1 rfl ?_
    refine tm_callV (M := m_X12_feed) (pc := 22) (ix := 385) (M' := m_X12_four) (As := [.int (iI x1)]) (rest := []) dX12_feed_22 ok_X12_four im_X12_four se_X12_four ml12_385 np_X12_four rfl rfl (Nat.le_of_ble_eq_true rfl) (Nat.le_of_ble_eq_true rfl) rfl (c_X12_four (d) (σ := (sS 0 0 σ)) (x := x1) (hR.S (by omega)) (by have := (rs_o (by decide) (rfl) : (sS 0 0 σ).1 2 = σ.1 2); omega)) (fun r3 σ4 hp => ?_)
    obtain ⟨rfl, f6, f7, f8⟩ := hp
    show Tm _ _ 25 b σ4 [(0, .ref b), (1, .int (iI x1)), (2, .int (iI x2)), (3, .int (iI x3)), (4, .int (iI x4)), (5, .int (iI x5))] [] _
    have e0 : (sS 0 0 σ).1 2 = σ.1 2 := rfl
    refine tm_aload_n dX12_feed_25 rfl 0 rfl ?_
    refine tm_iload_n dX12_feed_26 rfl 2 rfl ?_
    refine tm_callV (M := m_X12_feed) (pc := 27) (ix := 385) (M' := m_X12_four) (As := [.int (iI x2)]) (rest := []) dX12_feed_27 ok_X12_four im_X12_four se_X12_four ml12_385 np_X12_four rfl rfl (Nat.le_of_ble_eq_true rfl) (Nat.le_of_ble_eq_true rfl) rfl (c_X12_four (d) (σ := σ4) (x := x2) f7 (by have := (rfl : σ4.1 2 = σ4.1 2); omega)) (fun r9 σ10 hp => ?_)
    obtain ⟨rfl, f12, f13, f14⟩ := hp
    show Tm _ _ 30 b σ10 [(0, .ref b), (1, .int (iI x1)), (2, .int (iI x2)), (3, .int (iI x3)), (4, .int (iI x4)), (5, .int (iI x5))] [] _
    refine tm_aload_n dX12_feed_30 rfl 0 rfl ?_
    refine tm_iload_n dX12_feed_31 rfl 3 rfl ?_
    refine tm_callV (M := m_X12_feed) (pc := 32) (ix := 385) (M' := m_X12_four) (As := [.int (iI x3)]) (rest := []) dX12_feed_32 ok_X12_four im_X12_four se_X12_four ml12_385 np_X12_four rfl rfl (Nat.le_of_ble_eq_true rfl) (Nat.le_of_ble_eq_true rfl) rfl (c_X12_four (d) (σ := σ10) (x := x3) f13 (by have := (rfl : σ10.1 2 = σ10.1 2); omega)) (fun r15 σ16 hp => ?_)
    obtain ⟨rfl, f18, f19, f20⟩ := hp
    show Tm _ _ 35 b σ16 [(0, .ref b), (1, .int (iI x1)), (2, .int (iI x2)), (3, .int (iI x3)), (4, .int (iI x4)), (5, .int (iI x5))] [] _
    refine tm_aload_n dX12_feed_35 rfl 0 rfl ?_
    refine tm_iload dX12_feed_36 4 rfl ?_
    refine tm_callV (M := m_X12_feed) (pc := 38) (ix := 385) (M' := m_X12_four) (As := [.int (iI x4)]) (rest := []) dX12_feed_38 ok_X12_four im_X12_four se_X12_four ml12_385 np_X12_four rfl rfl (Nat.le_of_ble_eq_true rfl) (Nat.le_of_ble_eq_true rfl) rfl (c_X12_four (d) (σ := σ16) (x := x4) f19 (by have := (rfl : σ16.1 2 = σ16.1 2); omega)) (fun r21 σ22 hp => ?_)
    obtain ⟨rfl, f24, f25, f26⟩ := hp
    show Tm _ _ 41 b σ22 [(0, .ref b), (1, .int (iI x1)), (2, .int (iI x2)), (3, .int (iI x3)), (4, .int (iI x4)), (5, .int (iI x5))] [] _
    refine tm_aload_n dX12_feed_41 rfl 0 rfl ?_
    refine tm_iload dX12_feed_42 5 rfl ?_
    refine tm_callV (M := m_X12_feed) (pc := 44) (ix := 385) (M' := m_X12_four) (As := [.int (iI x5)]) (rest := []) dX12_feed_44 ok_X12_four im_X12_four se_X12_four ml12_385 np_X12_four rfl rfl (Nat.le_of_ble_eq_true rfl) (Nat.le_of_ble_eq_true rfl) rfl (c_X12_four (d) (σ := σ22) (x := x5) f25 (by have := (rfl : σ22.1 2 = σ22.1 2); omega)) (fun r27 σ28 hp => ?_)
    obtain ⟨rfl, f30, f31, f32⟩ := hp
    show Tm _ _ 47 b σ28 [(0, .ref b), (1, .int (iI x1)), (2, .int (iI x2)), (3, .int (iI x3)), (4, .int (iI x4)), (5, .int (iI x5))] [] _
    refine tm_aload_n dX12_feed_47 rfl 0 rfl ?_
    refine tm_getS (k := 2) (t := σ28.1 2) dX12_feed_48 (by decide) fl12_382 rfl (rfl) ?_
    have g33 := RG.s f31 2
    exact tm_iret rfl dX12_feed_51 (⟨_, rfl, ((((((Fr.rfl.S (by decide)).trans (Fr.sub f6 (by decide) (by decide) (by decide))).trans (Fr.sub f12 (by decide) (by decide) (by decide))).trans (Fr.sub f18 (by decide) (by decide) (by decide))).trans (Fr.sub f24 (by decide) (by decide) (by decide))).trans (Fr.sub f30 (by decide) (by decide) (by decide))), f31, by have := (rfl : σ28.1 2 = σ28.1 2); omega, by have := (rfl : σ28.1 2 = σ28.1 2); omega⟩)
  · refine tm_iconst dX12_feed_18 ?_
    exact tm_iret rfl dX12_feed_19 (⟨_, rfl, (Fr.rfl.S (by decide)), (hR.S (by omega)), by have := (rs_o (by decide) (rfl) : (sS 0 0 σ).1 2 = σ.1 2); omega, by have := (rs_o (by decide) (rfl) : (sS 0 0 σ).1 2 = σ.1 2); omega⟩)
theorem dX12_end_0 : decode cX12_end 0 = .ok (.aload_n 0, 1) := by decide +kernel
theorem dX12_end_1 : decode cX12_end 1 = .ok (.iconst 0, 1) := by decide +kernel
theorem dX12_end_2 : decode cX12_end 2 = .ok (.putfield 185, 3) := by decide +kernel
theorem dX12_end_5 : decode cX12_end 5 = .ok (.iload_n 1, 1) := by decide +kernel
theorem dX12_end_6 : decode cX12_end 6 = .ok (.iconst 0, 1) := by decide +kernel
theorem dX12_end_7 : decode cX12_end 7 = .ok (.aload_n 0, 1) := by decide +kernel
theorem dX12_end_8 : decode cX12_end 8 = .ok (.getfield 382, 3) := by decide +kernel
theorem dX12_end_11 : decode cX12_end 11 = .ok (.invokestatic 188, 3) := by decide +kernel
theorem dX12_end_14 : decode cX12_end 14 = .ok (.ifCond .ne 5, 3) := by decide +kernel
theorem dX12_end_19 : decode cX12_end 19 = .ok (.aload_n 0, 1) := by decide +kernel
theorem dX12_end_20 : decode cX12_end 20 = .ok (.iload_n 1, 1) := by decide +kernel
theorem dX12_end_21 : decode cX12_end 21 = .ok (.putfield 382, 3) := by decide +kernel
theorem dX12_end_24 : decode cX12_end 24 = .ok (.iload_n 1, 1) := by decide +kernel
theorem dX12_end_25 : decode cX12_end 25 = .ok (.ireturn, 1) := by decide +kernel
theorem dX12_end_17 : decode cX12_end 17 = .ok (.iconst (-1), 1) := by decide +kernel
theorem dX12_end_18 : decode cX12_end 18 = .ok (.ireturn, 1) := by decide +kernel
set_option maxHeartbeats 4000000 in
set_option maxRecDepth 20000 in
theorem c_X12_end (d : Nat) {b : Nat} {σ : MS} {x : Int} (hR : RG σ) (hsz : 0 ≤ σ.1 2 ∧ σ.1 2 ≤ 1200) (h_x : -2147483648 ≤ x ∧ x ≤ 2147483647) : Tm (d + 2) m_X12_end 0 b σ [(0, .ref b), (1, .int (iI x))] [] (fun ro σ2 => ∃ v : Int, ro = some (.int (iI v)) ∧ (Fr [0, 2] [] [] σ σ2) ∧ (RG σ2) ∧ ((0 ≤ x ∧ x ≤ σ.1 2) → v = x ∧ σ2.1 2 = x) ∧ (¬ (0 ≤ x ∧ x ≤ σ.1 2) → v = -1 ∧ σ2.1 2 = σ.1 2)) := by
  refine tm_aload_n dX12_end_0 rfl 0 rfl ?_
  refine tm_iconst dX12_end_1 ?_
  refine tm_putS (k := 0) (v := 0) lay_12 dX12_end_2 (by decide) fl12_185 rfl (tyX12_ok 0 (by decide)) rfl rfl rfl ?_
  refine tm_iload_n dX12_end_5 rfl 1 rfl ?_
  refine tm_iconst dX12_end_6 ?_
  refine tm_aload_n dX12_end_7 rfl 0 rfl ?_
  refine tm_getS (k := 2) (t := σ.1 2) dX12_end_8 (by decide) fl12_382 rfl (rs_o (by decide) (rfl)) ?_
  have g1 := RG.s hR 2
  refine tm_callS (M := m_X12_end) (pc := 11) (ix := 188) (M' := m_X12_in) (As := [.int (iI x), .int (iI 0), .int (iI (σ.1 2))]) (rest := []) dX12_end_11 ok_X12_in stt_X12_in ml12_188 np_X12_in rfl (Nat.le_of_ble_eq_true rfl) (Nat.le_of_ble_eq_true rfl) rfl (c_X12_in (d) (σ := (sS 0 0 σ)) (x := x) (lo := 0) (hi := σ.1 2) (by omega) (by omega) (by omega)) (fun r2 σ3 hp => ?_)
  obtain ⟨v4, rfl, rfl, f5, f6⟩ := hp
  show Tm _ _ 14 b (sS 0 0 σ) [(0, .ref b), (1, .int (iI x))] [.int (iI v4)] _
  refine tm_if_ne (tgt := 19) dX12_end_14 (by decide) ⟨by omega, by omega⟩ (fun h7 => ?_) (fun h7 => ?_)
  · refine tm_aload_n dX12_end_19 rfl 0 rfl ?_
    refine tm_iload_n dX12_end_20 rfl 1 rfl ?_
    refine tm_putS (k := 2) (v := x) lay_12 dX12_end_21 (by decide) fl12_382 rfl (tyX12_ok 2 (by decide)) rfl rfl rfl ?_
    refine tm_iload_n dX12_end_24 rfl 1 rfl ?_
    exact tm_iret rfl dX12_end_25 (⟨_, rfl, ((Fr.rfl.S (by decide)).S (by decide)), ((hR.S (by omega)).S (by omega)), by have := (rs_eq : (sS 2 x (sS 0 0 σ)).1 2 = x); omega, by have := (rs_eq : (sS 2 x (sS 0 0 σ)).1 2 = x); omega⟩)
  · refine tm_iconst dX12_end_17 ?_
    exact tm_iret rfl dX12_end_18 (⟨_, rfl, (Fr.rfl.S (by decide)), (hR.S (by omega)), by have := (rs_o (by decide) (rfl) : (sS 0 0 σ).1 2 = σ.1 2); omega, by have := (rs_o (by decide) (rfl) : (sS 0 0 σ).1 2 = σ.1 2); omega⟩)
theorem fl12_59 : Cond.fieldLink RX12 59 (TX12 27).1 (TX12 27).2.1 (TX12 27).2.2.1 ∈ pWW := pw7 (List.mem_of_getElem? (i := 34) rfl) rfl
theorem fl12_252 : Cond.fieldLink RX12 252 (TX12 26).1 (TX12 26).2.1 (TX12 26).2.2.1 ∈ pWW := pw7 (List.mem_of_getElem? (i := 33) rfl) rfl
theorem dX12_fault_0 : decode cX12_fault 0 = .ok (.aload_n 0, 1) := by decide +kernel
theorem dX12_fault_1 : decode cX12_fault 1 = .ok (.iconst 0, 1) := by decide +kernel
theorem dX12_fault_2 : decode cX12_fault 2 = .ok (.putfield 185, 3) := by decide +kernel
theorem dX12_fault_5 : decode cX12_fault 5 = .ok (.iload_n 1, 1) := by decide +kernel
theorem dX12_fault_6 : decode cX12_fault 6 = .ok (.ifCond .ne 10, 3) := by decide +kernel
theorem dX12_fault_16 : decode cX12_fault 16 = .ok (.iload_n 1, 1) := by decide +kernel
theorem dX12_fault_17 : decode cX12_fault 17 = .ok (.iconst 1, 1) := by decide +kernel
theorem dX12_fault_18 : decode cX12_fault 18 = .ok (.if_icmp .ne 10, 3) := by decide +kernel
theorem dX12_fault_28 : decode cX12_fault 28 = .ok (.iconst (-1), 1) := by decide +kernel
theorem dX12_fault_29 : decode cX12_fault 29 = .ok (.ireturn, 1) := by decide +kernel
theorem dX12_fault_21 : decode cX12_fault 21 = .ok (.aload_n 0, 1) := by decide +kernel
theorem dX12_fault_22 : decode cX12_fault 22 = .ok (.getfield 59, 3) := by decide +kernel
theorem dX12_fault_25 : decode cX12_fault 25 = .ok (.goto 4, 3) := by decide +kernel
theorem dX12_fault_9 : decode cX12_fault 9 = .ok (.aload_n 0, 1) := by decide +kernel
theorem dX12_fault_10 : decode cX12_fault 10 = .ok (.getfield 252, 3) := by decide +kernel
theorem dX12_fault_13 : decode cX12_fault 13 = .ok (.goto 16, 3) := by decide +kernel
set_option maxHeartbeats 4000000 in
set_option maxRecDepth 20000 in
theorem c_X12_fault (d : Nat) {b : Nat} {σ : MS} {x : Int} (hR : RG σ) (h_x : -2147483648 ≤ x ∧ x ≤ 2147483647) : Tm (d + 1) m_X12_fault 0 b σ [(0, .ref b), (1, .int (iI x))] [] (fun ro σ2 => ∃ v : Int, ro = some (.int (iI v)) ∧ (Fr [0] [] [] σ σ2) ∧ (RG σ2)) := by
  refine tm_aload_n dX12_fault_0 rfl 0 rfl ?_
  refine tm_iconst dX12_fault_1 ?_
  refine tm_putS (k := 0) (v := 0) lay_12 dX12_fault_2 (by decide) fl12_185 rfl (tyX12_ok 0 (by decide)) rfl rfl rfl ?_
  refine tm_iload_n dX12_fault_5 rfl 1 rfl ?_
  refine tm_if_ne (tgt := 16) dX12_fault_6 (by decide) ⟨by omega, by omega⟩ (fun h1 => ?_) (fun h1 => ?_)
  · refine tm_iload_n dX12_fault_16 rfl 1 rfl ?_
    refine tm_iconst dX12_fault_17 ?_
    refine tm_icmp_ne (tgt := 28) dX12_fault_18 (by decide) ⟨by omega, by omega⟩ ⟨by decide, by decide⟩ (fun h2 => ?_) (fun h2 => ?_)
    · refine tm_iconst dX12_fault_28 ?_
      exact tm_iret rfl dX12_fault_29 (⟨_, rfl, (Fr.rfl.S (by decide)), (hR.S (by omega))⟩)
    · refine tm_aload_n dX12_fault_21 rfl 0 rfl ?_
      refine tm_getS (k := 27) (t := σ.1 27) dX12_fault_22 (by decide) fl12_59 rfl (rs_o (by decide) (rfl)) ?_
      have g3 := RG.s hR 27
      refine tm_goto (tgt := 29) dX12_fault_25 (by decide) ?_
      exact tm_iret rfl dX12_fault_29 (⟨_, rfl, (Fr.rfl.S (by decide)), (hR.S (by omega))⟩)
  · refine tm_aload_n dX12_fault_9 rfl 0 rfl ?_
    refine tm_getS (k := 26) (t := σ.1 26) dX12_fault_10 (by decide) fl12_252 rfl (rs_o (by decide) (rfl)) ?_
    have g4 := RG.s hR 26
    refine tm_goto (tgt := 29) dX12_fault_13 (by decide) ?_
    exact tm_iret rfl dX12_fault_29 (⟨_, rfl, (Fr.rfl.S (by decide)), (hR.S (by omega))⟩)
theorem fl12_596 : Cond.fieldLink RX12 596 (TX12 85).1 (TX12 85).2.1 (TX12 85).2.2.1 ∈ pWW := pw7 (List.mem_of_getElem? (i := 90) rfl) rfl
theorem fl12_182 : Cond.fieldLink RX12 182 (TX12 86).1 (TX12 86).2.1 (TX12 86).2.2.1 ∈ pWW := pw7 (List.mem_of_getElem? (i := 91) rfl) rfl
theorem dX12_compared_0 : decode cX12_compared 0 = .ok (.aload_n 0, 1) := by decide +kernel
theorem dX12_compared_1 : decode cX12_compared 1 = .ok (.iconst 0, 1) := by decide +kernel
theorem dX12_compared_2 : decode cX12_compared 2 = .ok (.putfield 185, 3) := by decide +kernel
theorem dX12_compared_5 : decode cX12_compared 5 = .ok (.aload_n 0, 1) := by decide +kernel
theorem dX12_compared_6 : decode cX12_compared 6 = .ok (.getfield 596, 3) := by decide +kernel
theorem dX12_compared_9 : decode cX12_compared 9 = .ok (.ifCond .eq 21, 3) := by decide +kernel
theorem dX12_compared_30 : decode cX12_compared 30 = .ok (.iconst (-1), 1) := by decide +kernel
theorem dX12_compared_31 : decode cX12_compared 31 = .ok (.ireturn, 1) := by decide +kernel
theorem dX12_compared_12 : decode cX12_compared 12 = .ok (.iload_n 1, 1) := by decide +kernel
theorem dX12_compared_13 : decode cX12_compared 13 = .ok (.iconst 0, 1) := by decide +kernel
theorem dX12_compared_14 : decode cX12_compared 14 = .ok (.iconst 2, 1) := by decide +kernel
theorem dX12_compared_15 : decode cX12_compared 15 = .ok (.invokestatic 188, 3) := by decide +kernel
theorem dX12_compared_18 : decode cX12_compared 18 = .ok (.ifCond .eq 12, 3) := by decide +kernel
theorem dX12_compared_21 : decode cX12_compared 21 = .ok (.aload_n 0, 1) := by decide +kernel
theorem dX12_compared_22 : decode cX12_compared 22 = .ok (.getfield 182, 3) := by decide +kernel
theorem dX12_compared_25 : decode cX12_compared 25 = .ok (.iload_n 1, 1) := by decide +kernel
theorem dX12_compared_26 : decode cX12_compared 26 = .ok (.iaload, 1) := by decide +kernel
theorem dX12_compared_27 : decode cX12_compared 27 = .ok (.goto 4, 3) := by decide +kernel
set_option maxHeartbeats 4000000 in
set_option maxRecDepth 20000 in
theorem c_X12_compared (d : Nat) {b : Nat} {σ : MS} {x : Int} (hR : RG σ) (h_x : -2147483648 ≤ x ∧ x ≤ 2147483647) : Tm (d + 2) m_X12_compared 0 b σ [(0, .ref b), (1, .int (iI x))] [] (fun ro σ2 => ∃ v : Int, ro = some (.int (iI v)) ∧ (Fr [0] [] [] σ σ2) ∧ (RG σ2)) := by
  refine tm_aload_n dX12_compared_0 rfl 0 rfl ?_
  refine tm_iconst dX12_compared_1 ?_
  refine tm_putS (k := 0) (v := 0) lay_12 dX12_compared_2 (by decide) fl12_185 rfl (tyX12_ok 0 (by decide)) rfl rfl rfl ?_
  refine tm_aload_n dX12_compared_5 rfl 0 rfl ?_
  refine tm_getS (k := 85) (t := σ.1 85) dX12_compared_6 (by decide) fl12_596 rfl (rs_o (by decide) (rfl)) ?_
  have g1 := RG.s hR 85
  refine tm_if_eq (tgt := 30) dX12_compared_9 (by decide) ⟨by omega, by omega⟩ (fun h2 => ?_) (fun h2 => ?_)
  · refine tm_iconst dX12_compared_30 ?_
    exact tm_iret rfl dX12_compared_31 (⟨_, rfl, (Fr.rfl.S (by decide)), (hR.S (by omega))⟩)
  · refine tm_iload_n dX12_compared_12 rfl 1 rfl ?_
    refine tm_iconst dX12_compared_13 ?_
    refine tm_iconst dX12_compared_14 ?_
    refine tm_callS (M := m_X12_compared) (pc := 15) (ix := 188) (M' := m_X12_in) (As := [.int (iI x), .int (iI 0), .int (iI 2)]) (rest := []) dX12_compared_15 ok_X12_in stt_X12_in ml12_188 np_X12_in rfl (Nat.le_of_ble_eq_true rfl) (Nat.le_of_ble_eq_true rfl) rfl (c_X12_in (d) (σ := (sS 0 0 σ)) (x := x) (lo := 0) (hi := 2) (by omega) (by omega) (by omega)) (fun r3 σ4 hp => ?_)
    obtain ⟨v5, rfl, rfl, f6, f7⟩ := hp
    show Tm _ _ 18 b (sS 0 0 σ) [(0, .ref b), (1, .int (iI x))] [.int (iI v5)] _
    refine tm_if_eq (tgt := 30) dX12_compared_18 (by decide) ⟨by omega, by omega⟩ (fun h8 => ?_) (fun h8 => ?_)
    · refine tm_iconst dX12_compared_30 ?_
      exact tm_iret rfl dX12_compared_31 (⟨_, rfl, (Fr.rfl.S (by decide)), (hR.S (by omega))⟩)
    · refine tm_aload_n dX12_compared_21 rfl 0 rfl ?_
      refine tm_get (k := 86) (v := .ref (b + 1 + 54)) lay_12 dX12_compared_22 (by decide) fl12_182 rfl ?_
      refine tm_iload_n dX12_compared_25 rfl 1 rfl ?_
      refine tm_iald (z := x) (v := σ.2.1 86 x) dX12_compared_26 (show mT[54]? = some (86, 0, 3) from rfl) (by omega) (by omega) (by decide) (ra_S (rfl)) ?_
      have g9 := RG.a hR 86 (x)
      refine tm_goto (tgt := 31) dX12_compared_27 (by decide) ?_
      exact tm_iret rfl dX12_compared_31 (⟨_, rfl, (Fr.rfl.S (by decide)), (hR.S (by omega))⟩)
theorem fl12_397 : Cond.fieldLink RX12 397 (TX12 67).1 (TX12 67).2.1 (TX12 67).2.2.1 ∈ pWW := pw7 (List.mem_of_getElem? (i := 74) rfl) rfl
theorem fl12_161 : Cond.fieldLink RX12 161 (TX12 76).1 (TX12 76).2.1 (TX12 76).2.2.1 ∈ pWW := pw7 (List.mem_of_getElem? (i := 81) rfl) rfl
theorem fl12_164 : Cond.fieldLink RX12 164 (TX12 77).1 (TX12 77).2.1 (TX12 77).2.2.1 ∈ pWW := pw7 (List.mem_of_getElem? (i := 82) rfl) rfl
theorem dX12_printed_0 : decode cX12_printed 0 = .ok (.aload_n 0, 1) := by decide +kernel
theorem dX12_printed_1 : decode cX12_printed 1 = .ok (.iconst 0, 1) := by decide +kernel
theorem dX12_printed_2 : decode cX12_printed 2 = .ok (.putfield 185, 3) := by decide +kernel
theorem dX12_printed_5 : decode cX12_printed 5 = .ok (.aload_n 0, 1) := by decide +kernel
theorem dX12_printed_6 : decode cX12_printed 6 = .ok (.getfield 397, 3) := by decide +kernel
theorem dX12_printed_9 : decode cX12_printed 9 = .ok (.ifCond .eq 33, 3) := by decide +kernel
theorem dX12_printed_42 : decode cX12_printed 42 = .ok (.iconst 0, 1) := by decide +kernel
theorem dX12_printed_43 : decode cX12_printed 43 = .ok (.ireturn, 1) := by decide +kernel
theorem dX12_printed_12 : decode cX12_printed 12 = .ok (.iload_n 1, 1) := by decide +kernel
theorem dX12_printed_13 : decode cX12_printed 13 = .ok (.ifCond .lt 29, 3) := by decide +kernel
theorem dX12_printed_16 : decode cX12_printed 16 = .ok (.iload_n 1, 1) := by decide +kernel
theorem dX12_printed_17 : decode cX12_printed 17 = .ok (.sipush 200, 3) := by decide +kernel
theorem dX12_printed_20 : decode cX12_printed 20 = .ok (.if_icmp .ge 22, 3) := by decide +kernel
theorem dX12_printed_23 : decode cX12_printed 23 = .ok (.iload_n 1, 1) := by decide +kernel
theorem dX12_printed_24 : decode cX12_printed 24 = .ok (.aload_n 0, 1) := by decide +kernel
theorem dX12_printed_25 : decode cX12_printed 25 = .ok (.getfield 161, 3) := by decide +kernel
theorem dX12_printed_28 : decode cX12_printed 28 = .ok (.iconst 0, 1) := by decide +kernel
theorem dX12_printed_29 : decode cX12_printed 29 = .ok (.iaload, 1) := by decide +kernel
theorem dX12_printed_30 : decode cX12_printed 30 = .ok (.if_icmp .ge 12, 3) := by decide +kernel
theorem dX12_printed_33 : decode cX12_printed 33 = .ok (.aload_n 0, 1) := by decide +kernel
theorem dX12_printed_34 : decode cX12_printed 34 = .ok (.getfield 164, 3) := by decide +kernel
theorem dX12_printed_37 : decode cX12_printed 37 = .ok (.iload_n 1, 1) := by decide +kernel
theorem dX12_printed_38 : decode cX12_printed 38 = .ok (.iaload, 1) := by decide +kernel
theorem dX12_printed_39 : decode cX12_printed 39 = .ok (.goto 4, 3) := by decide +kernel
set_option maxHeartbeats 4000000 in
set_option maxRecDepth 20000 in
theorem c_X12_printed (d : Nat) {b : Nat} {σ : MS} {x : Int} (hR : RG σ) (h_x : -2147483648 ≤ x ∧ x ≤ 2147483647) : Tm (d + 1) m_X12_printed 0 b σ [(0, .ref b), (1, .int (iI x))] [] (fun ro σ2 => ∃ v : Int, ro = some (.int (iI v)) ∧ (Fr [0] [] [] σ σ2) ∧ (RG σ2)) := by
  refine tm_aload_n dX12_printed_0 rfl 0 rfl ?_
  refine tm_iconst dX12_printed_1 ?_
  refine tm_putS (k := 0) (v := 0) lay_12 dX12_printed_2 (by decide) fl12_185 rfl (tyX12_ok 0 (by decide)) rfl rfl rfl ?_
  refine tm_aload_n dX12_printed_5 rfl 0 rfl ?_
  refine tm_getS (k := 67) (t := σ.1 67) dX12_printed_6 (by decide) fl12_397 rfl (rs_o (by decide) (rfl)) ?_
  have g1 := RG.s hR 67
  refine tm_if_eq (tgt := 42) dX12_printed_9 (by decide) ⟨by omega, by omega⟩ (fun h2 => ?_) (fun h2 => ?_)
  · refine tm_iconst dX12_printed_42 ?_
    exact tm_iret rfl dX12_printed_43 (⟨_, rfl, (Fr.rfl.S (by decide)), (hR.S (by omega))⟩)
  · refine tm_iload_n dX12_printed_12 rfl 1 rfl ?_
    refine tm_if_lt (tgt := 42) dX12_printed_13 (by decide) ⟨by omega, by omega⟩ (fun h3 => ?_) (fun h3 => ?_)
    · refine tm_iconst dX12_printed_42 ?_
      exact tm_iret rfl dX12_printed_43 (⟨_, rfl, (Fr.rfl.S (by decide)), (hR.S (by omega))⟩)
    · refine tm_iload_n dX12_printed_16 rfl 1 rfl ?_
      refine tm_sipush dX12_printed_17 (by decide) ?_
      refine tm_icmp_ge (tgt := 42) dX12_printed_20 (by decide) ⟨by omega, by omega⟩ ⟨by decide, by decide⟩ (fun h4 => ?_) (fun h4 => ?_)
      · refine tm_iconst dX12_printed_42 ?_
        exact tm_iret rfl dX12_printed_43 (⟨_, rfl, (Fr.rfl.S (by decide)), (hR.S (by omega))⟩)
      · refine tm_iload_n dX12_printed_23 rfl 1 rfl ?_
        refine tm_aload_n dX12_printed_24 rfl 0 rfl ?_
        refine tm_get (k := 76) (v := .ref (b + 1 + 47)) lay_12 dX12_printed_25 (by decide) fl12_161 rfl ?_
        refine tm_iconst dX12_printed_28 ?_
        refine tm_iald (z := 0) (v := σ.2.1 76 0) dX12_printed_29 (show mT[47]? = some (76, 0, 3) from rfl) (by omega) (by omega) (by decide) (ra_S (rfl)) ?_
        have g5 := RG.a hR 76 (0)
        refine tm_icmp_ge (tgt := 42) dX12_printed_30 (by decide) ⟨by omega, by omega⟩ ⟨by omega, by omega⟩ (fun h6 => ?_) (fun h6 => ?_)
        · refine tm_iconst dX12_printed_42 ?_
          exact tm_iret rfl dX12_printed_43 (⟨_, rfl, (Fr.rfl.S (by decide)), (hR.S (by omega))⟩)
        · refine tm_aload_n dX12_printed_33 rfl 0 rfl ?_
          refine tm_get (k := 77) (v := .ref (b + 1 + 48)) lay_12 dX12_printed_34 (by decide) fl12_164 rfl ?_
          refine tm_iload_n dX12_printed_37 rfl 1 rfl ?_
          refine tm_iald (z := x) (v := σ.2.1 77 x) dX12_printed_38 (show mT[48]? = some (77, 0, 600) from rfl) (by omega) (by omega) (by decide) (ra_S (rfl)) ?_
          have g7 := RG.a hR 77 (x)
          refine tm_goto (tgt := 43) dX12_printed_39 (by decide) ?_
          exact tm_iret rfl dX12_printed_43 (⟨_, rfl, (Fr.rfl.S (by decide)), (hR.S (by omega))⟩)
theorem fl12_176 : Cond.fieldLink RX12 176 (TX12 81).1 (TX12 81).2.1 (TX12 81).2.2.1 ∈ pWW := pw7 (List.mem_of_getElem? (i := 86) rfl) rfl
theorem dX12_enterCall_46 : decode cX12_enterCall 46 = .ok (.iload 4, 2) := by decide +kernel
theorem dX12_enterCall_48 : decode cX12_enterCall 48 = .ok (.bipush 12, 2) := by decide +kernel
theorem dX12_enterCall_50 : decode cX12_enterCall 50 = .ok (.if_icmp .ge 22, 3) := by decide +kernel
theorem dX12_enterCall_53 : decode cX12_enterCall 53 = .ok (.aload_n 0, 1) := by decide +kernel
theorem dX12_enterCall_54 : decode cX12_enterCall 54 = .ok (.getfield 176, 3) := by decide +kernel
theorem dX12_enterCall_57 : decode cX12_enterCall 57 = .ok (.bipush 12, 2) := by decide +kernel
theorem dX12_enterCall_59 : decode cX12_enterCall 59 = .ok (.iload_n 3, 1) := by decide +kernel
theorem dX12_enterCall_60 : decode cX12_enterCall 60 = .ok (.imul, 1) := by decide +kernel
theorem dX12_enterCall_61 : decode cX12_enterCall 61 = .ok (.iload 4, 2) := by decide +kernel
theorem dX12_enterCall_63 : decode cX12_enterCall 63 = .ok (.iadd, 1) := by decide +kernel
theorem dX12_enterCall_64 : decode cX12_enterCall 64 = .ok (.iconst 0, 1) := by decide +kernel
theorem dX12_enterCall_65 : decode cX12_enterCall 65 = .ok (.iastore, 1) := by decide +kernel
theorem dX12_enterCall_66 : decode cX12_enterCall 66 = .ok (.iinc 4 1, 3) := by decide +kernel
theorem dX12_enterCall_69 : decode cX12_enterCall 69 = .ok (.goto (-23), 3) := by decide +kernel
set_option maxHeartbeats 4000000 in
set_option maxRecDepth 20000 in
theorem l_enter1 (d : Nat) {b : Nat} {σ0 : MS} {m : Int} {r : Int} {c : Int} {post : Option Value → MS → Prop} (hc : 0 ≤ c ∧ c < 27) (hx_72 : ∀ (f : Int) (σ : MS) , (Fr [] [81] [] σ0 σ) → (RG σ) → Tm (d + 1) m_X12_enterCall 72 b σ [(4, .int (iI f)), (3, .int (iI c)), (0, .ref b), (1, .int (iI m)), (2, .int (iI r))] [] post) : ∀ (n : Nat) (f : Int) (σ : MS) , (Fr [] [81] [] σ0 σ) → (RG σ) → (0 ≤ f ∧ f ≤ 12) → (12 - f).toNat = n → Tm (d + 1) m_X12_enterCall 46 b σ [(4, .int (iI f)), (3, .int (iI c)), (0, .ref b), (1, .int (iI m)), (2, .int (iI r))] [] post := by
  intro n
  induction n using Nat.strongRecOn with
  | _ n ih =>
    intro f σ hF hR h0 hm
    refine tm_iload dX12_enterCall_46 0 rfl ?_
    refine tm_bipush dX12_enterCall_48 (by decide) ?_
    refine tm_icmp_ge (tgt := 72) dX12_enterCall_50 (by decide) ⟨by omega, by omega⟩ ⟨by decide, by decide⟩ (fun h1 => ?_) (fun h1 => ?_)
    · exact tm_sub [0, 1, 2, 3, 4] rfl (hx_72 (f) σ (Fr.rfl.trans (Fr.sub hF (by decide) (by decide) (by decide))) hR)
    · refine tm_aload_n dX12_enterCall_53 rfl 2 rfl ?_
      refine tm_get (k := 81) (v := .ref (b + 1 + 52)) lay_12 dX12_enterCall_54 (by decide) fl12_176 rfl ?_
      refine tm_bipush dX12_enterCall_57 (by decide) ?_
      refine tm_iload_n dX12_enterCall_59 rfl 1 rfl ?_
      refine tm_imul dX12_enterCall_60 ?_
      refine tm_iload dX12_enterCall_61 0 rfl ?_
      refine tm_iadd dX12_enterCall_63 ?_
      refine tm_iconst dX12_enterCall_64 ?_
      refine tm_iast (z := (12 * c) + f) (v := 0) dX12_enterCall_65 (show mT[52]? = some (81, 0, 324) from rfl) (by omega) (by omega) (by decide) ?_
      refine tm_iinc (q0 := 0) (L' := [(4, .int (iI (f + 1))), (3, .int (iI c)), (0, .ref b), (1, .int (iI m)), (2, .int (iI r))]) dX12_enterCall_66 rfl (by decide) rfl ?_
      refine tm_goto (tgt := 46) dX12_enterCall_69 (by decide) ?_
      exact tm_sub [0, 1, 2, 3, 4] rfl (ih _ (by omega) (f + 1) (sA 81 ((12 * c) + f) (0) σ) ((Fr.rfl.trans (Fr.sub hF (by decide) (by decide) (by decide))).A (by decide)) (hR.A (by omega)) (by omega) rfl)
theorem dX12_enterCall_75 : decode cX12_enterCall 75 = .ok (.iload 4, 2) := by decide +kernel
theorem dX12_enterCall_77 : decode cX12_enterCall 77 = .ok (.sipush 192, 3) := by decide +kernel
theorem dX12_enterCall_80 : decode cX12_enterCall 80 = .ok (.if_icmp .ge 23, 3) := by decide +kernel
theorem dX12_enterCall_83 : decode cX12_enterCall 83 = .ok (.aload_n 0, 1) := by decide +kernel
theorem dX12_enterCall_84 : decode cX12_enterCall 84 = .ok (.getfield 179, 3) := by decide +kernel
theorem dX12_enterCall_87 : decode cX12_enterCall 87 = .ok (.sipush 192, 3) := by decide +kernel
theorem dX12_enterCall_90 : decode cX12_enterCall 90 = .ok (.iload_n 3, 1) := by decide +kernel
theorem dX12_enterCall_91 : decode cX12_enterCall 91 = .ok (.imul, 1) := by decide +kernel
theorem dX12_enterCall_92 : decode cX12_enterCall 92 = .ok (.iload 4, 2) := by decide +kernel
theorem dX12_enterCall_94 : decode cX12_enterCall 94 = .ok (.iadd, 1) := by decide +kernel
theorem dX12_enterCall_95 : decode cX12_enterCall 95 = .ok (.iconst 0, 1) := by decide +kernel
theorem dX12_enterCall_96 : decode cX12_enterCall 96 = .ok (.iastore, 1) := by decide +kernel
theorem dX12_enterCall_97 : decode cX12_enterCall 97 = .ok (.iinc 4 1, 3) := by decide +kernel
theorem dX12_enterCall_100 : decode cX12_enterCall 100 = .ok (.goto (-25), 3) := by decide +kernel
set_option maxHeartbeats 4000000 in
set_option maxRecDepth 20000 in
theorem l_enter2 (d : Nat) {b : Nat} {σ0 : MS} {m : Int} {r : Int} {c : Int} {post : Option Value → MS → Prop} (hc : 0 ≤ c ∧ c < 27) (hx_103 : ∀ (f : Int) (σ : MS) , (Fr [] [82] [] σ0 σ) → (RG σ) → Tm (d + 1) m_X12_enterCall 103 b σ [(4, .int (iI f)), (3, .int (iI c)), (0, .ref b), (1, .int (iI m)), (2, .int (iI r))] [] post) : ∀ (n : Nat) (f : Int) (σ : MS) , (Fr [] [82] [] σ0 σ) → (RG σ) → (0 ≤ f ∧ f ≤ 192) → (192 - f).toNat = n → Tm (d + 1) m_X12_enterCall 75 b σ [(4, .int (iI f)), (3, .int (iI c)), (0, .ref b), (1, .int (iI m)), (2, .int (iI r))] [] post := by
  intro n
  induction n using Nat.strongRecOn with
  | _ n ih =>
    intro f σ hF hR h0 hm
    refine tm_iload dX12_enterCall_75 0 rfl ?_
    refine tm_sipush dX12_enterCall_77 (by decide) ?_
    refine tm_icmp_ge (tgt := 103) dX12_enterCall_80 (by decide) ⟨by omega, by omega⟩ ⟨by decide, by decide⟩ (fun h1 => ?_) (fun h1 => ?_)
    · exact tm_sub [0, 1, 2, 3, 4] rfl (hx_103 (f) σ (Fr.rfl.trans (Fr.sub hF (by decide) (by decide) (by decide))) hR)
    · refine tm_aload_n dX12_enterCall_83 rfl 2 rfl ?_
      refine tm_get (k := 82) (v := .ref (b + 1 + 53)) lay_12 dX12_enterCall_84 (by decide) fl12_179 rfl ?_
      refine tm_sipush dX12_enterCall_87 (by decide) ?_
      refine tm_iload_n dX12_enterCall_90 rfl 1 rfl ?_
      refine tm_imul dX12_enterCall_91 ?_
      refine tm_iload dX12_enterCall_92 0 rfl ?_
      refine tm_iadd dX12_enterCall_94 ?_
      refine tm_iconst dX12_enterCall_95 ?_
      refine tm_iast (z := (192 * c) + f) (v := 0) dX12_enterCall_96 (show mT[53]? = some (82, 0, 5184) from rfl) (by omega) (by omega) (by decide) ?_
      refine tm_iinc (q0 := 0) (L' := [(4, .int (iI (f + 1))), (3, .int (iI c)), (0, .ref b), (1, .int (iI m)), (2, .int (iI r))]) dX12_enterCall_97 rfl (by decide) rfl ?_
      refine tm_goto (tgt := 75) dX12_enterCall_100 (by decide) ?_
      exact tm_sub [0, 1, 2, 3, 4] rfl (ih _ (by omega) (f + 1) (sA 82 ((192 * c) + f) (0) σ) ((Fr.rfl.trans (Fr.sub hF (by decide) (by decide) (by decide))).A (by decide)) (hR.A (by omega)) (by omega) rfl)
theorem fl12_152 : Cond.fieldLink RX12 152 (TX12 73).1 (TX12 73).2.1 (TX12 73).2.2.1 ∈ pWW := pw7 (List.mem_of_getElem? (i := 78) rfl) rfl
theorem fl12_167 : Cond.fieldLink RX12 167 (TX12 78).1 (TX12 78).2.1 (TX12 78).2.2.1 ∈ pWW := pw7 (List.mem_of_getElem? (i := 83) rfl) rfl
theorem fl12_170 : Cond.fieldLink RX12 170 (TX12 79).1 (TX12 79).2.1 (TX12 79).2.2.1 ∈ pWW := pw7 (List.mem_of_getElem? (i := 84) rfl) rfl
theorem fl12_173 : Cond.fieldLink RX12 173 (TX12 80).1 (TX12 80).2.1 (TX12 80).2.2.1 ∈ pWW := pw7 (List.mem_of_getElem? (i := 85) rfl) rfl
theorem dX12_enterCall_0 : decode cX12_enterCall 0 = .ok (.bipush 9, 2) := by decide +kernel
theorem dX12_enterCall_2 : decode cX12_enterCall 2 = .ok (.iload_n 1, 1) := by decide +kernel
theorem dX12_enterCall_3 : decode cX12_enterCall 3 = .ok (.imul, 1) := by decide +kernel
theorem dX12_enterCall_4 : decode cX12_enterCall 4 = .ok (.aload_n 0, 1) := by decide +kernel
theorem dX12_enterCall_5 : decode cX12_enterCall 5 = .ok (.getfield 152, 3) := by decide +kernel
theorem dX12_enterCall_8 : decode cX12_enterCall 8 = .ok (.iload_n 1, 1) := by decide +kernel
theorem dX12_enterCall_9 : decode cX12_enterCall 9 = .ok (.iaload, 1) := by decide +kernel
theorem dX12_enterCall_10 : decode cX12_enterCall 10 = .ok (.iadd, 1) := by decide +kernel
theorem dX12_enterCall_11 : decode cX12_enterCall 11 = .ok (.istore_n 3, 1) := by decide +kernel
theorem dX12_enterCall_12 : decode cX12_enterCall 12 = .ok (.aload_n 0, 1) := by decide +kernel
theorem dX12_enterCall_13 : decode cX12_enterCall 13 = .ok (.getfield 152, 3) := by decide +kernel
theorem dX12_enterCall_16 : decode cX12_enterCall 16 = .ok (.iload_n 1, 1) := by decide +kernel
theorem dX12_enterCall_17 : decode cX12_enterCall 17 = .ok (.dup2, 1) := by decide +kernel
theorem dX12_enterCall_18 : decode cX12_enterCall 18 = .ok (.iaload, 1) := by decide +kernel
theorem dX12_enterCall_19 : decode cX12_enterCall 19 = .ok (.iconst 1, 1) := by decide +kernel
theorem dX12_enterCall_20 : decode cX12_enterCall 20 = .ok (.iadd, 1) := by decide +kernel
theorem dX12_enterCall_21 : decode cX12_enterCall 21 = .ok (.iastore, 1) := by decide +kernel
theorem dX12_enterCall_22 : decode cX12_enterCall 22 = .ok (.aload_n 0, 1) := by decide +kernel
theorem dX12_enterCall_23 : decode cX12_enterCall 23 = .ok (.getfield 167, 3) := by decide +kernel
theorem dX12_enterCall_26 : decode cX12_enterCall 26 = .ok (.iload_n 3, 1) := by decide +kernel
theorem dX12_enterCall_27 : decode cX12_enterCall 27 = .ok (.iload_n 2, 1) := by decide +kernel
theorem dX12_enterCall_28 : decode cX12_enterCall 28 = .ok (.iastore, 1) := by decide +kernel
theorem dX12_enterCall_29 : decode cX12_enterCall 29 = .ok (.aload_n 0, 1) := by decide +kernel
theorem dX12_enterCall_30 : decode cX12_enterCall 30 = .ok (.getfield 170, 3) := by decide +kernel
theorem dX12_enterCall_33 : decode cX12_enterCall 33 = .ok (.iload_n 3, 1) := by decide +kernel
theorem dX12_enterCall_34 : decode cX12_enterCall 34 = .ok (.iconst 0, 1) := by decide +kernel
theorem dX12_enterCall_35 : decode cX12_enterCall 35 = .ok (.iastore, 1) := by decide +kernel
theorem dX12_enterCall_36 : decode cX12_enterCall 36 = .ok (.aload_n 0, 1) := by decide +kernel
theorem dX12_enterCall_37 : decode cX12_enterCall 37 = .ok (.getfield 173, 3) := by decide +kernel
theorem dX12_enterCall_40 : decode cX12_enterCall 40 = .ok (.iload_n 3, 1) := by decide +kernel
theorem dX12_enterCall_41 : decode cX12_enterCall 41 = .ok (.iconst 0, 1) := by decide +kernel
theorem dX12_enterCall_42 : decode cX12_enterCall 42 = .ok (.iastore, 1) := by decide +kernel
theorem dX12_enterCall_43 : decode cX12_enterCall 43 = .ok (.iconst 0, 1) := by decide +kernel
theorem dX12_enterCall_44 : decode cX12_enterCall 44 = .ok (.istore 4, 2) := by decide +kernel
theorem dX12_enterCall_72 : decode cX12_enterCall 72 = .ok (.iconst 0, 1) := by decide +kernel
theorem dX12_enterCall_73 : decode cX12_enterCall 73 = .ok (.istore 4, 2) := by decide +kernel
theorem dX12_enterCall_103 : decode cX12_enterCall 103 = .ok (.return_, 1) := by decide +kernel
set_option maxHeartbeats 4000000 in
set_option maxRecDepth 20000 in
theorem c_X12_enterCall (d : Nat) {b : Nat} {σ : MS} {m : Int} {r : Int} (hR : RG σ) (hm : 0 ≤ m ∧ m ≤ 2) (hc : 0 ≤ σ.2.1 73 m ∧ σ.2.1 73 m ≤ 8) (h_r : -2147483648 ≤ r ∧ r ≤ 2147483647) : Tm (d + 1) m_X12_enterCall 0 b σ [(0, .ref b), (1, .int (iI m)), (2, .int (iI r))] [] (fun ro σ2 => ro = none ∧ (Fr [] [73, 78, 79, 80, 81, 82] [] σ σ2) ∧ (RG σ2) ∧ (σ2.2.1 73 m = σ.2.1 73 m + 1) ∧ (σ2.2.1 78 (9 * m + σ.2.1 73 m) = r ∧ σ2.2.1 79 (9 * m + σ.2.1 73 m) = 0 ∧ σ2.2.1 80 (9 * m + σ.2.1 73 m) = 0) ∧ (∀ j, j ≠ m → σ2.2.1 73 j = σ.2.1 73 j) ∧ (∀ j, j ≠ 9 * m + σ.2.1 73 m → σ2.2.1 78 j = σ.2.1 78 j ∧ σ2.2.1 79 j = σ.2.1 79 j ∧ σ2.2.1 80 j = σ.2.1 80 j)) := by
  refine tm_bipush dX12_enterCall_0 (by decide) ?_
  refine tm_iload_n dX12_enterCall_2 rfl 1 rfl ?_
  refine tm_imul dX12_enterCall_3 ?_
  refine tm_aload_n dX12_enterCall_4 rfl 0 rfl ?_
  refine tm_get (k := 73) (v := .ref (b + 1 + 44)) lay_12 dX12_enterCall_5 (by decide) fl12_152 rfl ?_
  refine tm_iload_n dX12_enterCall_8 rfl 1 rfl ?_
  refine tm_iald (z := m) (v := σ.2.1 73 m) dX12_enterCall_9 (show mT[44]? = some (73, 0, 3) from rfl) (by omega) (by omega) (by decide) (rfl) ?_
  have g1 := RG.a hR 73 (m)
  refine tm_iadd dX12_enterCall_10 ?_
  refine tm_istore_n (L' := [(3, .int (iI ((9 * m) + (σ.2.1 73 m)))), (0, .ref b), (1, .int (iI m)), (2, .int (iI r))]) dX12_enterCall_11 rfl (by decide) rfl ?_
  refine tm_aload_n dX12_enterCall_12 rfl 1 rfl ?_
  refine tm_get (k := 73) (v := .ref (b + 1 + 44)) lay_12 dX12_enterCall_13 (by decide) fl12_152 rfl ?_
  refine tm_iload_n dX12_enterCall_16 rfl 2 rfl ?_
  refine tm_dup2 dX12_enterCall_17 rfl rfl ?_
  refine tm_iald (z := m) (v := σ.2.1 73 m) dX12_enterCall_18 (show mT[44]? = some (73, 0, 3) from rfl) (by omega) (by omega) (by decide) (rfl) ?_
  have g2 := RG.a hR 73 (m)
  refine tm_iconst dX12_enterCall_19 ?_
  refine tm_iadd dX12_enterCall_20 ?_
  refine tm_iast (z := m) (v := (σ.2.1 73 m) + 1) dX12_enterCall_21 (show mT[44]? = some (73, 0, 3) from rfl) (by omega) (by omega) (by decide) ?_
  refine tm_aload_n dX12_enterCall_22 rfl 1 rfl ?_
  refine tm_get (k := 78) (v := .ref (b + 1 + 49)) lay_12 dX12_enterCall_23 (by decide) fl12_167 rfl ?_
  refine tm_iload_n dX12_enterCall_26 rfl 0 rfl ?_
  refine tm_iload_n dX12_enterCall_27 rfl 3 rfl ?_
  refine tm_iast (z := (9 * m) + (σ.2.1 73 m)) (v := r) dX12_enterCall_28 (show mT[49]? = some (78, 0, 27) from rfl) (by omega) (by omega) (by decide) ?_
  refine tm_aload_n dX12_enterCall_29 rfl 1 rfl ?_
  refine tm_get (k := 79) (v := .ref (b + 1 + 50)) lay_12 dX12_enterCall_30 (by decide) fl12_170 rfl ?_
  refine tm_iload_n dX12_enterCall_33 rfl 0 rfl ?_
  refine tm_iconst dX12_enterCall_34 ?_
  refine tm_iast (z := (9 * m) + (σ.2.1 73 m)) (v := 0) dX12_enterCall_35 (show mT[50]? = some (79, 0, 27) from rfl) (by omega) (by omega) (by decide) ?_
  refine tm_aload_n dX12_enterCall_36 rfl 1 rfl ?_
  refine tm_get (k := 80) (v := .ref (b + 1 + 51)) lay_12 dX12_enterCall_37 (by decide) fl12_173 rfl ?_
  refine tm_iload_n dX12_enterCall_40 rfl 0 rfl ?_
  refine tm_iconst dX12_enterCall_41 ?_
  refine tm_iast (z := (9 * m) + (σ.2.1 73 m)) (v := 0) dX12_enterCall_42 (show mT[51]? = some (80, 0, 27) from rfl) (by omega) (by omega) (by decide) ?_
  refine tm_iconst dX12_enterCall_43 ?_
  refine tm_istore (L' := [(4, .int (iI 0)), (3, .int (iI ((9 * m) + (σ.2.1 73 m)))), (0, .ref b), (1, .int (iI m)), (2, .int (iI r))]) dX12_enterCall_44 (by decide) rfl ?_
  refine tm_sub [0, 1, 2, 3, 4] rfl (l_enter1 (d) (σ0 := (sA 80 ((9 * m) + (σ.2.1 73 m)) (0) (sA 79 ((9 * m) + (σ.2.1 73 m)) (0) (sA 78 ((9 * m) + (σ.2.1 73 m)) (r) (sA 73 (m) ((σ.2.1 73 m) + 1) σ))))) (m := m) (r := r) (c := (9 * m) + (σ.2.1 73 m)) (by omega) (fun f7 σ8 F5 R6 => ?_) _ (0) (sA 80 ((9 * m) + (σ.2.1 73 m)) (0) (sA 79 ((9 * m) + (σ.2.1 73 m)) (0) (sA 78 ((9 * m) + (σ.2.1 73 m)) (r) (sA 73 (m) ((σ.2.1 73 m) + 1) σ)))) Fr.rfl ((((hR.A (by omega)).A (by omega)).A (by omega)).A (by omega)) (by omega) rfl)
  show Tm _ _ 72 b σ8 [(4, .int (iI f7)), (3, .int (iI ((9 * m) + (σ.2.1 73 m)))), (0, .ref b), (1, .int (iI m)), (2, .int (iI r))] [] _
  refine tm_iconst dX12_enterCall_72 ?_
  refine tm_istore (L' := [(4, .int (iI 0)), (3, .int (iI ((9 * m) + (σ.2.1 73 m)))), (0, .ref b), (1, .int (iI m)), (2, .int (iI r))]) dX12_enterCall_73 (by decide) rfl ?_
  refine tm_sub [0, 1, 2, 3, 4] rfl (l_enter2 (d) (σ0 := σ8) (m := m) (r := r) (c := (9 * m) + (σ.2.1 73 m)) (by omega) (fun f13 σ14 F11 R12 => ?_) _ (0) σ8 Fr.rfl R6 (by omega) rfl)
  show Tm _ _ 103 b σ14 [(4, .int (iI f13)), (3, .int (iI ((9 * m) + (σ.2.1 73 m)))), (0, .ref b), (1, .int (iI m)), (2, .int (iI r))] [] _
  exact tm_vret rfl dX12_enterCall_103 (⟨rfl, ((((((Fr.rfl.A (by decide)).A (by decide)).A (by decide)).A (by decide)).trans (Fr.sub F5 (by decide) (by decide) (by decide))).trans (Fr.sub F11 (by decide) (by decide) (by decide))), R12, ra_F F11 (by decide) (ra_F F5 (by decide) (ra_o (by decide) (ra_o (by decide) (ra_o (by decide) (ra_eq))))), ⟨(ra_F F11 (by decide) (ra_F F5 (by decide) (ra_o (by decide) (ra_o (by decide) (ra_eq))))), (ra_F F11 (by decide) (ra_F F5 (by decide) (ra_o (by decide) (ra_eq)))), (ra_F F11 (by decide) (ra_F F5 (by decide) (ra_eq)))⟩, fun j hj => ra_F F11 (by decide) (ra_F F5 (by decide) (ra_o (by decide) (ra_o (by decide) (ra_o (by decide) (ra_ne hj (rfl)))))), fun j hj => ⟨ra_F F11 (by decide) (ra_F F5 (by decide) (ra_o (by decide) (ra_o (by decide) (ra_ne hj (ra_o (by decide) (rfl)))))), ra_F F11 (by decide) (ra_F F5 (by decide) (ra_o (by decide) (ra_ne hj (ra_o (by decide) (ra_o (by decide) (rfl)))))), ra_F F11 (by decide) (ra_F F5 (by decide) (ra_ne hj (ra_o (by decide) (ra_o (by decide) (ra_o (by decide) (rfl))))))⟩⟩)
end
