theorem fSt_fr {n w ka a kb c : Int} {σ : MS} : Fr [] [49, 50, 51, 52, 53] [] σ (fSt n w ka a kb c σ) := ((((Fr.rfl.A (by decide)).A (by decide)).A (by decide)).A (by decide)).A (by decide)
theorem fSt_w {n w ka a kb c : Int} {σ : MS} : (fSt n w ka a kb c σ).2.1 49 = fun q => if q = n then w else σ.2.1 49 q := by
  funext q
  simp only [fSt, sA, if_true, show ¬ (49 = 53) by decide, show ¬ (49 = 52) by decide, show ¬ (49 = 51) by decide, show ¬ (49 = 50) by decide, if_false]
/-- what 'comes' puts at one place -/
def CST (σ τ : MS) (R y n : Int) : Prop := (R ≠ 0 → τ = fSt y 14 0 0 0 0 σ) ∧ (R = 0 → τ = fSt y (σ.2.1 54 n) (σ.2.1 55 n) (σ.2.1 56 n) (σ.2.1 57 n) (σ.2.1 58 n) σ)
theorem CST.ssa {σ τ : MS} {R y n : Int} (h : CST σ τ R y n) (hs : SSA σ) (hc : SCA σ) : SSA τ := by
  by_cases e : R = 0
  · rw [h.2 e]; exact hs.put (hc n).1 (hc n).2
  · rw [h.1 e]; exact hs.put (fun q => absurd q (by decide)) (fun q => absurd q (by decide))
theorem CST.at {σ τ : MS} {R y n z : Int} (h : CST σ τ R y n) (hz : z ≠ y) : τ.2.1 49 z = σ.2.1 49 z := by
  by_cases e : R = 0
  · rw [h.2 e, fSt_w]; exact if_neg hz
  · rw [h.1 e, fSt_w]; exact if_neg hz
theorem CST.cw {σ τ : MS} {R y n lo : Int} {N : Nat} (h : CST σ τ R y n) (h0 : lo ≤ y) (h1 : y < lo + N) (hf : σ.2.1 49 y ≠ 14) : (R ≠ 0 → cw (τ.2.1 49) lo N + 1 = cw (σ.2.1 49) lo N) ∧ (R = 0 → cw (τ.2.1 49) lo N ≤ cw (σ.2.1 49) lo N) := by
  refine ⟨fun e => ?_, fun e => ?_⟩
  · rw [h.1 e, fSt_w]
    have := cw_upd (f := σ.2.1 49) (lo := lo) (z := y) (v := 14) (n := N) h0 h1 hf
    rw [if_pos rfl] at this
    exact this
  · rw [h.2 e, fSt_w]
    have := cw_upd (f := σ.2.1 49) (lo := lo) (z := y) (v := σ.2.1 54 n) (n := N) h0 h1 hf
    omega
def UNR (σ : MS) (r m : Int) : Prop := ∀ k, 0 ≤ k → k ≤ m → σ.2.1 47 k = 0 → ∀ n, 0 ≤ n → n < 144 → σ.2.1 49 (31824 * r + 144 * k + n) = 11
def LEX (σ : MS) (r : Int) : Prop := ∀ k, 0 ≤ k → k < σ.2.1 9 r → (σ.2.1 3 (220 * r + k) = 8 ∨ σ.2.1 3 (220 * r + k) = 9) → ∃ j, 0 ≤ j ∧ j < σ.2.1 9 r ∧ σ.2.1 3 (220 * r + j) = 13 ∧ σ.2.1 4 (220 * r + j) = σ.2.1 4 (220 * r + k)
theorem LEX.to {σ τ : MS} {r : Int} (h : LEX σ r) (f : LFN σ τ r (σ.2.1 9 r)) {k : Int} (a : 0 ≤ k) (b : k < σ.2.1 9 r) (c : σ.2.1 3 (220 * r + k) = 8 ∨ σ.2.1 3 (220 * r + k) = 9) : 0 ≤ τ.2.1 46 (σ.2.1 4 (220 * r + k)) ∧ τ.2.1 46 (σ.2.1 4 (220 * r + k)) < σ.2.1 9 r ∧ σ.2.1 3 (220 * r + τ.2.1 46 (σ.2.1 4 (220 * r + k))) = 13 := by
  obtain ⟨j, h1, h2, h3, h4⟩ := h k a b c
  have := f j h1 h2 h3
  rw [h4] at this
  exact ⟨this.1, this.2.1, this.2.2.1⟩

theorem fl12_91 : Cond.fieldLink RX12 91 (TX12 47).1 (TX12 47).2.1 (TX12 47).2.2.1 ∈ pWW := pw7 (List.mem_of_getElem? (i := 54) rfl) rfl
theorem dX12_comes_172 : decode cX12_comes 172 = .ok (.iconst 1, 1) := by decide +kernel
theorem dX12_comes_173 : decode cX12_comes 173 = .ok (.istore_n 3, 1) := by decide +kernel
theorem dX12_comes_174 : decode cX12_comes 174 = .ok (.aload_n 0, 1) := by decide +kernel
theorem dX12_comes_175 : decode cX12_comes 175 = .ok (.getfield 91, 3) := by decide +kernel
theorem dX12_comes_178 : decode cX12_comes 178 = .ok (.iload_n 2, 1) := by decide +kernel
theorem dX12_comes_179 : decode cX12_comes 179 = .ok (.baload, 1) := by decide +kernel
theorem dX12_comes_180 : decode cX12_comes 180 = .ok (.istore 7, 2) := by decide +kernel
theorem dX12_comes_182 : decode cX12_comes 182 = .ok (.aload_n 0, 1) := by decide +kernel
theorem dX12_comes_183 : decode cX12_comes 183 = .ok (.getfield 99, 3) := by decide +kernel
theorem dX12_comes_186 : decode cX12_comes 186 = .ok (.iload 5, 2) := by decide +kernel
theorem dX12_comes_188 : decode cX12_comes 188 = .ok (.iload 7, 2) := by decide +kernel
theorem dX12_comes_190 : decode cX12_comes 190 = .ok (.ifCond .eq 8, 3) := by decide +kernel
theorem dX12_comes_198 : decode cX12_comes 198 = .ok (.aload_n 0, 1) := by decide +kernel
theorem dX12_comes_199 : decode cX12_comes 199 = .ok (.getfield 114, 3) := by decide +kernel
theorem dX12_comes_202 : decode cX12_comes 202 = .ok (.iload 4, 2) := by decide +kernel
theorem dX12_comes_204 : decode cX12_comes 204 = .ok (.iaload, 1) := by decide +kernel
theorem dX12_comes_205 : decode cX12_comes 205 = .ok (.iastore, 1) := by decide +kernel
theorem dX12_comes_206 : decode cX12_comes 206 = .ok (.aload_n 0, 1) := by decide +kernel
theorem dX12_comes_207 : decode cX12_comes 207 = .ok (.getfield 102, 3) := by decide +kernel
theorem dX12_comes_210 : decode cX12_comes 210 = .ok (.iload 5, 2) := by decide +kernel
theorem dX12_comes_212 : decode cX12_comes 212 = .ok (.iload 7, 2) := by decide +kernel
theorem dX12_comes_214 : decode cX12_comes 214 = .ok (.ifCond .eq 7, 3) := by decide +kernel
theorem dX12_comes_221 : decode cX12_comes 221 = .ok (.aload_n 0, 1) := by decide +kernel
theorem dX12_comes_222 : decode cX12_comes 222 = .ok (.getfield 117, 3) := by decide +kernel
theorem dX12_comes_225 : decode cX12_comes 225 = .ok (.iload 4, 2) := by decide +kernel
theorem dX12_comes_227 : decode cX12_comes 227 = .ok (.iaload, 1) := by decide +kernel
theorem dX12_comes_228 : decode cX12_comes 228 = .ok (.iastore, 1) := by decide +kernel
theorem dX12_comes_229 : decode cX12_comes 229 = .ok (.aload_n 0, 1) := by decide +kernel
theorem dX12_comes_230 : decode cX12_comes 230 = .ok (.getfield 105, 3) := by decide +kernel
theorem dX12_comes_233 : decode cX12_comes 233 = .ok (.iload 5, 2) := by decide +kernel
theorem dX12_comes_235 : decode cX12_comes 235 = .ok (.iload 7, 2) := by decide +kernel
theorem dX12_comes_237 : decode cX12_comes 237 = .ok (.ifCond .eq 7, 3) := by decide +kernel
theorem dX12_comes_244 : decode cX12_comes 244 = .ok (.aload_n 0, 1) := by decide +kernel
theorem dX12_comes_245 : decode cX12_comes 245 = .ok (.getfield 120, 3) := by decide +kernel
theorem dX12_comes_248 : decode cX12_comes 248 = .ok (.iload 4, 2) := by decide +kernel
theorem dX12_comes_250 : decode cX12_comes 250 = .ok (.iaload, 1) := by decide +kernel
theorem dX12_comes_251 : decode cX12_comes 251 = .ok (.iastore, 1) := by decide +kernel
theorem dX12_comes_252 : decode cX12_comes 252 = .ok (.aload_n 0, 1) := by decide +kernel
theorem dX12_comes_253 : decode cX12_comes 253 = .ok (.getfield 108, 3) := by decide +kernel
theorem dX12_comes_256 : decode cX12_comes 256 = .ok (.iload 5, 2) := by decide +kernel
theorem dX12_comes_258 : decode cX12_comes 258 = .ok (.iload 7, 2) := by decide +kernel
theorem dX12_comes_260 : decode cX12_comes 260 = .ok (.ifCond .eq 7, 3) := by decide +kernel
theorem dX12_comes_267 : decode cX12_comes 267 = .ok (.aload_n 0, 1) := by decide +kernel
theorem dX12_comes_268 : decode cX12_comes 268 = .ok (.getfield 123, 3) := by decide +kernel
theorem dX12_comes_271 : decode cX12_comes 271 = .ok (.iload 4, 2) := by decide +kernel
theorem dX12_comes_273 : decode cX12_comes 273 = .ok (.iaload, 1) := by decide +kernel
theorem dX12_comes_274 : decode cX12_comes 274 = .ok (.iastore, 1) := by decide +kernel
theorem dX12_comes_275 : decode cX12_comes 275 = .ok (.aload_n 0, 1) := by decide +kernel
theorem dX12_comes_276 : decode cX12_comes 276 = .ok (.getfield 111, 3) := by decide +kernel
theorem dX12_comes_279 : decode cX12_comes 279 = .ok (.iload 5, 2) := by decide +kernel
theorem dX12_comes_281 : decode cX12_comes 281 = .ok (.iload 7, 2) := by decide +kernel
theorem dX12_comes_283 : decode cX12_comes 283 = .ok (.ifCond .eq 7, 3) := by decide +kernel
theorem dX12_comes_290 : decode cX12_comes 290 = .ok (.aload_n 0, 1) := by decide +kernel
theorem dX12_comes_291 : decode cX12_comes 291 = .ok (.getfield 126, 3) := by decide +kernel
theorem dX12_comes_294 : decode cX12_comes 294 = .ok (.iload 4, 2) := by decide +kernel
theorem dX12_comes_296 : decode cX12_comes 296 = .ok (.iaload, 1) := by decide +kernel
theorem dX12_comes_297 : decode cX12_comes 297 = .ok (.iastore, 1) := by decide +kernel
theorem dX12_comes_193 : decode cX12_comes 193 = .ok (.bipush 14, 2) := by decide +kernel
theorem dX12_comes_195 : decode cX12_comes 195 = .ok (.goto 10, 3) := by decide +kernel
theorem dX12_comes_217 : decode cX12_comes 217 = .ok (.iconst 0, 1) := by decide +kernel
theorem dX12_comes_218 : decode cX12_comes 218 = .ok (.goto 10, 3) := by decide +kernel
theorem dX12_comes_240 : decode cX12_comes 240 = .ok (.iconst 0, 1) := by decide +kernel
theorem dX12_comes_241 : decode cX12_comes 241 = .ok (.goto 10, 3) := by decide +kernel
theorem dX12_comes_263 : decode cX12_comes 263 = .ok (.iconst 0, 1) := by decide +kernel
theorem dX12_comes_264 : decode cX12_comes 264 = .ok (.goto 10, 3) := by decide +kernel
theorem dX12_comes_286 : decode cX12_comes 286 = .ok (.iconst 0, 1) := by decide +kernel
theorem dX12_comes_287 : decode cX12_comes 287 = .ok (.goto 10, 3) := by decide +kernel
set_option maxHeartbeats 40000000 in
set_option maxRecDepth 20000 in
theorem b_comes (d : Nat) {b : Nat} {σ0 : MS} {r : Int} {to : Int} {n1 : Int} {post : Option Value → MS → Prop} (hr : 0 ≤ r ∧ r < 6) (hR0 : RG σ0) (hto : 0 ≤ to ∧ to ≤ 220 ∧ 0 ≤ n1 ∧ n1 < 144) (hx_298 : ∀ (w : Int) (σ : MS) , (Fr [] [49, 50, 51, 52, 53] [] σ0 σ) → (RG σ) → (w = 1) → (CST σ0 σ (σ0.2.1 47 to) (31824 * r + 144 * to + n1) n1) → Tm (d + 1) m_X12_comes 298 b σ [(5, .int (iI (31824 * r + 144 * to + n1))), (4, .int (iI n1)), (3, .int (iI w)), (0, .ref b), (1, .int (iI r)), (2, .int (iI to))] [] post) : ∀ (n : Nat) (w : Int) (σ : MS) , (Fr [] [49, 50, 51, 52, 53] [] σ0 σ) → (RG σ) → (σ = σ0) → ((0 : Int)).toNat = n → Tm (d + 1) m_X12_comes 172 b σ [(5, .int (iI (31824 * r + 144 * to + n1))), (4, .int (iI n1)), (3, .int (iI w)), (0, .ref b), (1, .int (iI r)), (2, .int (iI to))] [] post := by
  intro n
  induction n using Nat.strongRecOn with
  | _ n ih =>
    intro w σ hF hR hs hm
    refine tm_iconst dX12_comes_172 ?_
    refine tm_istore_n (L' := [(3, .int (iI 1)), (5, .int (iI (31824 * r + 144 * to + n1))), (4, .int (iI n1)), (0, .ref b), (1, .int (iI r)), (2, .int (iI to))]) dX12_comes_173 rfl (by decide) rfl ?_
    refine tm_aload_n dX12_comes_174 rfl 3 rfl ?_
    refine tm_get (k := 47) (v := .ref (b + 1 + 25)) lay_12 dX12_comes_175 (by decide) fl12_91 rfl ?_
    refine tm_iload_n dX12_comes_178 rfl 5 rfl ?_
    refine tm_zald (z := to) (v := σ0.2.1 47 to) dX12_comes_179 (show mT[25]? = some (47, 2, 221) from rfl) (by omega) (by omega) (by decide) (ra_F hF (by decide) (rfl)) ?_
    have g1 := RG.a hR0 47 (to)
    refine tm_istore (L' := [(7, .int (iI (σ0.2.1 47 to))), (3, .int (iI 1)), (5, .int (iI (31824 * r + 144 * to + n1))), (4, .int (iI n1)), (0, .ref b), (1, .int (iI r)), (2, .int (iI to))]) dX12_comes_180 (by decide) rfl ?_
    refine tm_aload_n dX12_comes_182 rfl 4 rfl ?_
    refine tm_get (k := 49) (v := .ref (b + 1 + 27)) lay_12 dX12_comes_183 (by decide) fl12_99 rfl ?_
    refine tm_iload dX12_comes_186 2 rfl ?_
    refine tm_iload dX12_comes_188 0 rfl ?_
    refine tm_if_eq (tgt := 198) dX12_comes_190 (by decide) ⟨by omega, by omega⟩ (fun h2 => ?_) (fun h2 => ?_)
    · refine tm_aload_n dX12_comes_198 rfl 4 rfl ?_
      refine tm_get (k := 54) (v := .ref (b + 1 + 32)) lay_12 dX12_comes_199 (by decide) fl12_114 rfl ?_
      refine tm_iload dX12_comes_202 3 rfl ?_
      refine tm_iald (z := n1) (v := σ0.2.1 54 n1) dX12_comes_204 (show mT[32]? = some (54, 0, 144) from rfl) (by omega) (by omega) (by decide) (ra_F hF (by decide) (rfl)) ?_
      have g3 := RG.a hR0 54 (n1)
      refine tm_iast (z := 31824 * r + 144 * to + n1) (v := σ0.2.1 54 n1) dX12_comes_205 (show mT[27]? = some (49, 0, 190944) from rfl) (by omega) (by omega) (by decide) ?_
      refine tm_aload_n dX12_comes_206 rfl 4 rfl ?_
      refine tm_get (k := 50) (v := .ref (b + 1 + 28)) lay_12 dX12_comes_207 (by decide) fl12_102 rfl ?_
      refine tm_iload dX12_comes_210 2 rfl ?_
      refine tm_iload dX12_comes_212 0 rfl ?_
      refine tm_if_eq (tgt := 221) dX12_comes_214 (by decide) ⟨by omega, by omega⟩ (fun h4 => ?_) (fun h4 => ?_)
      · refine tm_aload_n dX12_comes_221 rfl 4 rfl ?_
        refine tm_get (k := 55) (v := .ref (b + 1 + 33)) lay_12 dX12_comes_222 (by decide) fl12_117 rfl ?_
        refine tm_iload dX12_comes_225 3 rfl ?_
        refine tm_iald (z := n1) (v := σ0.2.1 55 n1) dX12_comes_227 (show mT[33]? = some (55, 0, 144) from rfl) (by omega) (by omega) (by decide) (ra_o (by decide) (ra_F hF (by decide) (rfl))) ?_
        have g5 := RG.a hR0 55 (n1)
        refine tm_iast (z := 31824 * r + 144 * to + n1) (v := σ0.2.1 55 n1) dX12_comes_228 (show mT[28]? = some (50, 0, 190944) from rfl) (by omega) (by omega) (by decide) ?_
        refine tm_aload_n dX12_comes_229 rfl 4 rfl ?_
        refine tm_get (k := 51) (v := .ref (b + 1 + 29)) lay_12 dX12_comes_230 (by decide) fl12_105 rfl ?_
        refine tm_iload dX12_comes_233 2 rfl ?_
        refine tm_iload dX12_comes_235 0 rfl ?_
        refine tm_if_eq (tgt := 244) dX12_comes_237 (by decide) ⟨by omega, by omega⟩ (fun h6 => ?_) (fun h6 => ?_)
        · refine tm_aload_n dX12_comes_244 rfl 4 rfl ?_
          refine tm_get (k := 56) (v := .ref (b + 1 + 34)) lay_12 dX12_comes_245 (by decide) fl12_120 rfl ?_
          refine tm_iload dX12_comes_248 3 rfl ?_
          refine tm_iald (z := n1) (v := σ0.2.1 56 n1) dX12_comes_250 (show mT[34]? = some (56, 0, 144) from rfl) (by omega) (by omega) (by decide) (ra_o (by decide) (ra_o (by decide) (ra_F hF (by decide) (rfl)))) ?_
          have g7 := RG.a hR0 56 (n1)
          refine tm_iast (z := 31824 * r + 144 * to + n1) (v := σ0.2.1 56 n1) dX12_comes_251 (show mT[29]? = some (51, 0, 190944) from rfl) (by omega) (by omega) (by decide) ?_
          refine tm_aload_n dX12_comes_252 rfl 4 rfl ?_
          refine tm_get (k := 52) (v := .ref (b + 1 + 30)) lay_12 dX12_comes_253 (by decide) fl12_108 rfl ?_
          refine tm_iload dX12_comes_256 2 rfl ?_
          refine tm_iload dX12_comes_258 0 rfl ?_
          refine tm_if_eq (tgt := 267) dX12_comes_260 (by decide) ⟨by omega, by omega⟩ (fun h8 => ?_) (fun h8 => ?_)
          · refine tm_aload_n dX12_comes_267 rfl 4 rfl ?_
            refine tm_get (k := 57) (v := .ref (b + 1 + 35)) lay_12 dX12_comes_268 (by decide) fl12_123 rfl ?_
            refine tm_iload dX12_comes_271 3 rfl ?_
            refine tm_iald (z := n1) (v := σ0.2.1 57 n1) dX12_comes_273 (show mT[35]? = some (57, 0, 144) from rfl) (by omega) (by omega) (by decide) (ra_o (by decide) (ra_o (by decide) (ra_o (by decide) (ra_F hF (by decide) (rfl))))) ?_
            have g9 := RG.a hR0 57 (n1)
            refine tm_iast (z := 31824 * r + 144 * to + n1) (v := σ0.2.1 57 n1) dX12_comes_274 (show mT[30]? = some (52, 0, 190944) from rfl) (by omega) (by omega) (by decide) ?_
            refine tm_aload_n dX12_comes_275 rfl 4 rfl ?_
            refine tm_get (k := 53) (v := .ref (b + 1 + 31)) lay_12 dX12_comes_276 (by decide) fl12_111 rfl ?_
            refine tm_iload dX12_comes_279 2 rfl ?_
            refine tm_iload dX12_comes_281 0 rfl ?_
            refine tm_if_eq (tgt := 290) dX12_comes_283 (by decide) ⟨by omega, by omega⟩ (fun h10 => ?_) (fun h10 => ?_)
            · refine tm_aload_n dX12_comes_290 rfl 4 rfl ?_
              refine tm_get (k := 58) (v := .ref (b + 1 + 36)) lay_12 dX12_comes_291 (by decide) fl12_126 rfl ?_
              refine tm_iload dX12_comes_294 3 rfl ?_
              refine tm_iald (z := n1) (v := σ0.2.1 58 n1) dX12_comes_296 (show mT[36]? = some (58, 0, 144) from rfl) (by omega) (by omega) (by decide) (ra_o (by decide) (ra_o (by decide) (ra_o (by decide) (ra_o (by decide) (ra_F hF (by decide) (rfl)))))) ?_
              have g11 := RG.a hR0 58 (n1)
              refine tm_iast (z := 31824 * r + 144 * to + n1) (v := σ0.2.1 58 n1) dX12_comes_297 (show mT[31]? = some (53, 0, 190944) from rfl) (by omega) (by omega) (by decide) ?_
              exact tm_sub [2, 3, 1, 4, 5, 6] rfl (hx_298 (1) (sA 53 (31824 * r + 144 * to + n1) (σ0.2.1 58 n1) (sA 52 (31824 * r + 144 * to + n1) (σ0.2.1 57 n1) (sA 51 (31824 * r + 144 * to + n1) (σ0.2.1 56 n1) (sA 50 (31824 * r + 144 * to + n1) (σ0.2.1 55 n1) (sA 49 (31824 * r + 144 * to + n1) (σ0.2.1 54 n1) σ))))) ((((((Fr.rfl.trans (Fr.sub hF (by decide) (by decide) (by decide))).A (by decide)).A (by decide)).A (by decide)).A (by decide)).A (by decide)) (((((hR.A (by omega)).A (by omega)).A (by omega)).A (by omega)).A (by omega)) (by omega) (by subst hs; refine ⟨fun e => ?_, fun e => ?_⟩ <;> first | rfl | exact absurd e (by omega)))
            · exact absurd h10 (by omega)
          · exact absurd h8 (by omega)
        · exact absurd h6 (by omega)
      · exact absurd h4 (by omega)
    · refine tm_bipush dX12_comes_193 (by decide) ?_
      refine tm_goto (tgt := 205) dX12_comes_195 (by decide) ?_
      refine tm_iast (z := 31824 * r + 144 * to + n1) (v := 14) dX12_comes_205 (show mT[27]? = some (49, 0, 190944) from rfl) (by omega) (by omega) (by decide) ?_
      refine tm_aload_n dX12_comes_206 rfl 4 rfl ?_
      refine tm_get (k := 50) (v := .ref (b + 1 + 28)) lay_12 dX12_comes_207 (by decide) fl12_102 rfl ?_
      refine tm_iload dX12_comes_210 2 rfl ?_
      refine tm_iload dX12_comes_212 0 rfl ?_
      refine tm_if_eq (tgt := 221) dX12_comes_214 (by decide) ⟨by omega, by omega⟩ (fun h12 => ?_) (fun h12 => ?_)
      · exact absurd h12 (by omega)
      · refine tm_iconst dX12_comes_217 ?_
        refine tm_goto (tgt := 228) dX12_comes_218 (by decide) ?_
        refine tm_iast (z := 31824 * r + 144 * to + n1) (v := 0) dX12_comes_228 (show mT[28]? = some (50, 0, 190944) from rfl) (by omega) (by omega) (by decide) ?_
        refine tm_aload_n dX12_comes_229 rfl 4 rfl ?_
        refine tm_get (k := 51) (v := .ref (b + 1 + 29)) lay_12 dX12_comes_230 (by decide) fl12_105 rfl ?_
        refine tm_iload dX12_comes_233 2 rfl ?_
        refine tm_iload dX12_comes_235 0 rfl ?_
        refine tm_if_eq (tgt := 244) dX12_comes_237 (by decide) ⟨by omega, by omega⟩ (fun h13 => ?_) (fun h13 => ?_)
        · exact absurd h13 (by omega)
        · refine tm_iconst dX12_comes_240 ?_
          refine tm_goto (tgt := 251) dX12_comes_241 (by decide) ?_
          refine tm_iast (z := 31824 * r + 144 * to + n1) (v := 0) dX12_comes_251 (show mT[29]? = some (51, 0, 190944) from rfl) (by omega) (by omega) (by decide) ?_
          refine tm_aload_n dX12_comes_252 rfl 4 rfl ?_
          refine tm_get (k := 52) (v := .ref (b + 1 + 30)) lay_12 dX12_comes_253 (by decide) fl12_108 rfl ?_
          refine tm_iload dX12_comes_256 2 rfl ?_
          refine tm_iload dX12_comes_258 0 rfl ?_
          refine tm_if_eq (tgt := 267) dX12_comes_260 (by decide) ⟨by omega, by omega⟩ (fun h14 => ?_) (fun h14 => ?_)
          · exact absurd h14 (by omega)
          · refine tm_iconst dX12_comes_263 ?_
            refine tm_goto (tgt := 274) dX12_comes_264 (by decide) ?_
            refine tm_iast (z := 31824 * r + 144 * to + n1) (v := 0) dX12_comes_274 (show mT[30]? = some (52, 0, 190944) from rfl) (by omega) (by omega) (by decide) ?_
            refine tm_aload_n dX12_comes_275 rfl 4 rfl ?_
            refine tm_get (k := 53) (v := .ref (b + 1 + 31)) lay_12 dX12_comes_276 (by decide) fl12_111 rfl ?_
            refine tm_iload dX12_comes_279 2 rfl ?_
            refine tm_iload dX12_comes_281 0 rfl ?_
            refine tm_if_eq (tgt := 290) dX12_comes_283 (by decide) ⟨by omega, by omega⟩ (fun h15 => ?_) (fun h15 => ?_)
            · exact absurd h15 (by omega)
            · refine tm_iconst dX12_comes_286 ?_
              refine tm_goto (tgt := 297) dX12_comes_287 (by decide) ?_
              refine tm_iast (z := 31824 * r + 144 * to + n1) (v := 0) dX12_comes_297 (show mT[31]? = some (53, 0, 190944) from rfl) (by omega) (by omega) (by decide) ?_
              exact tm_sub [2, 3, 1, 4, 5, 6] rfl (hx_298 (1) (sA 53 (31824 * r + 144 * to + n1) (0) (sA 52 (31824 * r + 144 * to + n1) (0) (sA 51 (31824 * r + 144 * to + n1) (0) (sA 50 (31824 * r + 144 * to + n1) (0) (sA 49 (31824 * r + 144 * to + n1) (14) σ))))) ((((((Fr.rfl.trans (Fr.sub hF (by decide) (by decide) (by decide))).A (by decide)).A (by decide)).A (by decide)).A (by decide)).A (by decide)) (((((hR.A (by omega)).A (by omega)).A (by omega)).A (by omega)).A (by omega)) (by omega) (by subst hs; refine ⟨fun e => ?_, fun e => ?_⟩ <;> first | rfl | exact absurd e (by omega)))
theorem dX12_comes_18 : decode cX12_comes 18 = .ok (.iload 4, 2) := by decide +kernel
theorem dX12_comes_20 : decode cX12_comes 20 = .ok (.sipush 144, 3) := by decide +kernel
theorem dX12_comes_23 : decode cX12_comes 23 = .ok (.if_icmp .ge 281, 3) := by decide +kernel
theorem dX12_comes_26 : decode cX12_comes 26 = .ok (.sipush 31824, 3) := by decide +kernel
theorem dX12_comes_29 : decode cX12_comes 29 = .ok (.iload_n 1, 1) := by decide +kernel
theorem dX12_comes_30 : decode cX12_comes 30 = .ok (.imul, 1) := by decide +kernel
theorem dX12_comes_31 : decode cX12_comes 31 = .ok (.sipush 144, 3) := by decide +kernel
theorem dX12_comes_34 : decode cX12_comes 34 = .ok (.iload_n 2, 1) := by decide +kernel
theorem dX12_comes_35 : decode cX12_comes 35 = .ok (.imul, 1) := by decide +kernel
theorem dX12_comes_36 : decode cX12_comes 36 = .ok (.iadd, 1) := by decide +kernel
theorem dX12_comes_37 : decode cX12_comes 37 = .ok (.iload 4, 2) := by decide +kernel
theorem dX12_comes_39 : decode cX12_comes 39 = .ok (.iadd, 1) := by decide +kernel
theorem dX12_comes_40 : decode cX12_comes 40 = .ok (.istore 5, 2) := by decide +kernel
theorem dX12_comes_42 : decode cX12_comes 42 = .ok (.aload_n 0, 1) := by decide +kernel
theorem dX12_comes_43 : decode cX12_comes 43 = .ok (.getfield 91, 3) := by decide +kernel
theorem dX12_comes_46 : decode cX12_comes 46 = .ok (.iload_n 2, 1) := by decide +kernel
theorem dX12_comes_47 : decode cX12_comes 47 = .ok (.baload, 1) := by decide +kernel
theorem dX12_comes_48 : decode cX12_comes 48 = .ok (.ifCond .eq 92, 3) := by decide +kernel
theorem dX12_comes_140 : decode cX12_comes 140 = .ok (.iconst 0, 1) := by decide +kernel
theorem dX12_comes_141 : decode cX12_comes 141 = .ok (.istore 6, 2) := by decide +kernel
theorem dX12_comes_143 : decode cX12_comes 143 = .ok (.iload 6, 2) := by decide +kernel
theorem dX12_comes_145 : decode cX12_comes 145 = .ok (.ifCond .ne 153, 3) := by decide +kernel
theorem dX12_comes_148 : decode cX12_comes 148 = .ok (.aload_n 0, 1) := by decide +kernel
theorem dX12_comes_149 : decode cX12_comes 149 = .ok (.getfield 91, 3) := by decide +kernel
theorem dX12_comes_152 : decode cX12_comes 152 = .ok (.iload_n 2, 1) := by decide +kernel
theorem dX12_comes_153 : decode cX12_comes 153 = .ok (.baload, 1) := by decide +kernel
theorem dX12_comes_154 : decode cX12_comes 154 = .ok (.ifCond .eq 18, 3) := by decide +kernel
theorem dX12_comes_298 : decode cX12_comes 298 = .ok (.iinc 4 1, 3) := by decide +kernel
theorem dX12_comes_301 : decode cX12_comes 301 = .ok (.goto (-283), 3) := by decide +kernel
theorem dX12_comes_51 : decode cX12_comes 51 = .ok (.aload_n 0, 1) := by decide +kernel
theorem dX12_comes_52 : decode cX12_comes 52 = .ok (.getfield 99, 3) := by decide +kernel
theorem dX12_comes_55 : decode cX12_comes 55 = .ok (.iload 5, 2) := by decide +kernel
theorem dX12_comes_57 : decode cX12_comes 57 = .ok (.iaload, 1) := by decide +kernel
theorem dX12_comes_58 : decode cX12_comes 58 = .ok (.aload_n 0, 1) := by decide +kernel
theorem dX12_comes_59 : decode cX12_comes 59 = .ok (.getfield 114, 3) := by decide +kernel
theorem dX12_comes_62 : decode cX12_comes 62 = .ok (.iload 4, 2) := by decide +kernel
theorem dX12_comes_64 : decode cX12_comes 64 = .ok (.iaload, 1) := by decide +kernel
theorem dX12_comes_65 : decode cX12_comes 65 = .ok (.if_icmp .ne 75, 3) := by decide +kernel
theorem dX12_comes_157 : decode cX12_comes 157 = .ok (.aload_n 0, 1) := by decide +kernel
theorem dX12_comes_158 : decode cX12_comes 158 = .ok (.getfield 99, 3) := by decide +kernel
theorem dX12_comes_161 : decode cX12_comes 161 = .ok (.iload 5, 2) := by decide +kernel
theorem dX12_comes_163 : decode cX12_comes 163 = .ok (.iaload, 1) := by decide +kernel
theorem dX12_comes_164 : decode cX12_comes 164 = .ok (.bipush 14, 2) := by decide +kernel
theorem dX12_comes_166 : decode cX12_comes 166 = .ok (.if_icmp .ne 6, 3) := by decide +kernel
theorem dX12_comes_169 : decode cX12_comes 169 = .ok (.goto 129, 3) := by decide +kernel
theorem dX12_comes_68 : decode cX12_comes 68 = .ok (.aload_n 0, 1) := by decide +kernel
theorem dX12_comes_69 : decode cX12_comes 69 = .ok (.getfield 102, 3) := by decide +kernel
theorem dX12_comes_72 : decode cX12_comes 72 = .ok (.iload 5, 2) := by decide +kernel
theorem dX12_comes_74 : decode cX12_comes 74 = .ok (.iaload, 1) := by decide +kernel
theorem dX12_comes_75 : decode cX12_comes 75 = .ok (.aload_n 0, 1) := by decide +kernel
theorem dX12_comes_76 : decode cX12_comes 76 = .ok (.getfield 117, 3) := by decide +kernel
theorem dX12_comes_79 : decode cX12_comes 79 = .ok (.iload 4, 2) := by decide +kernel
theorem dX12_comes_81 : decode cX12_comes 81 = .ok (.iaload, 1) := by decide +kernel
theorem dX12_comes_82 : decode cX12_comes 82 = .ok (.if_icmp .ne 58, 3) := by decide +kernel
theorem dX12_comes_85 : decode cX12_comes 85 = .ok (.aload_n 0, 1) := by decide +kernel
theorem dX12_comes_86 : decode cX12_comes 86 = .ok (.getfield 105, 3) := by decide +kernel
theorem dX12_comes_89 : decode cX12_comes 89 = .ok (.iload 5, 2) := by decide +kernel
theorem dX12_comes_91 : decode cX12_comes 91 = .ok (.iaload, 1) := by decide +kernel
theorem dX12_comes_92 : decode cX12_comes 92 = .ok (.aload_n 0, 1) := by decide +kernel
theorem dX12_comes_93 : decode cX12_comes 93 = .ok (.getfield 120, 3) := by decide +kernel
theorem dX12_comes_96 : decode cX12_comes 96 = .ok (.iload 4, 2) := by decide +kernel
theorem dX12_comes_98 : decode cX12_comes 98 = .ok (.iaload, 1) := by decide +kernel
theorem dX12_comes_99 : decode cX12_comes 99 = .ok (.if_icmp .ne 41, 3) := by decide +kernel
theorem dX12_comes_102 : decode cX12_comes 102 = .ok (.aload_n 0, 1) := by decide +kernel
theorem dX12_comes_103 : decode cX12_comes 103 = .ok (.getfield 108, 3) := by decide +kernel
theorem dX12_comes_106 : decode cX12_comes 106 = .ok (.iload 5, 2) := by decide +kernel
theorem dX12_comes_108 : decode cX12_comes 108 = .ok (.iaload, 1) := by decide +kernel
theorem dX12_comes_109 : decode cX12_comes 109 = .ok (.aload_n 0, 1) := by decide +kernel
theorem dX12_comes_110 : decode cX12_comes 110 = .ok (.getfield 123, 3) := by decide +kernel
theorem dX12_comes_113 : decode cX12_comes 113 = .ok (.iload 4, 2) := by decide +kernel
theorem dX12_comes_115 : decode cX12_comes 115 = .ok (.iaload, 1) := by decide +kernel
theorem dX12_comes_116 : decode cX12_comes 116 = .ok (.if_icmp .ne 24, 3) := by decide +kernel
theorem dX12_comes_119 : decode cX12_comes 119 = .ok (.aload_n 0, 1) := by decide +kernel
theorem dX12_comes_120 : decode cX12_comes 120 = .ok (.getfield 111, 3) := by decide +kernel
theorem dX12_comes_123 : decode cX12_comes 123 = .ok (.iload 5, 2) := by decide +kernel
theorem dX12_comes_125 : decode cX12_comes 125 = .ok (.iaload, 1) := by decide +kernel
theorem dX12_comes_126 : decode cX12_comes 126 = .ok (.aload_n 0, 1) := by decide +kernel
theorem dX12_comes_127 : decode cX12_comes 127 = .ok (.getfield 126, 3) := by decide +kernel
theorem dX12_comes_130 : decode cX12_comes 130 = .ok (.iload 4, 2) := by decide +kernel
theorem dX12_comes_132 : decode cX12_comes 132 = .ok (.iaload, 1) := by decide +kernel
theorem dX12_comes_133 : decode cX12_comes 133 = .ok (.if_icmp .ne 7, 3) := by decide +kernel
theorem dX12_comes_136 : decode cX12_comes 136 = .ok (.iconst 1, 1) := by decide +kernel
theorem dX12_comes_137 : decode cX12_comes 137 = .ok (.goto 4, 3) := by decide +kernel
set_option maxHeartbeats 40000000 in
set_option maxRecDepth 20000 in
theorem l_comes (d : Nat) {b : Nat} {σ0 : MS} {r : Int} {to : Int} {C0 : Int} {post : Option Value → MS → Prop} (hr : 0 ≤ r ∧ r < 6) (hR0 : RG σ0) (hto : 0 ≤ to ∧ to ≤ 220) (hbo : BO 47 σ0) (hsc : SCA σ0) (hx_304 : ∀ (w : Int) (n1 : Int) (σ : MS) , (Fr [] [49, 50, 51, 52, 53] [] σ0 σ) → (RG σ) → ((w = 0 ∨ w = 1) ∧ (σ0.2.1 47 to = 0 → w = 1)) → (SSA σ) → ((σ0.2.1 47 to = 1 → (cw (σ.2.1 49) (31824 * r) 31824 : Int) + w ≤ C0) ∧ (σ0.2.1 47 to = 0 → (cw (σ.2.1 49) (31824 * r) 31824 : Int) ≤ C0)) → (∀ y, (y < 31824 * r + 144 * to ∨ 31824 * r + 144 * to + 144 ≤ y) → σ.2.1 49 y = σ0.2.1 49 y) → Tm (d + 1) m_X12_comes 304 b σ [(4, .int (iI n1)), (3, .int (iI w)), (0, .ref b), (1, .int (iI r)), (2, .int (iI to))] [] post) : ∀ (n : Nat) (w : Int) (n1 : Int) (σ : MS) , (Fr [] [49, 50, 51, 52, 53] [] σ0 σ) → (RG σ) → (0 ≤ n1 ∧ n1 ≤ 144 ∧ (w = 0 ∨ w = 1) ∧ (σ0.2.1 47 to = 0 → w = 1)) → (SSA σ) → ((σ0.2.1 47 to = 1 → (cw (σ.2.1 49) (31824 * r) 31824 : Int) + w ≤ C0) ∧ (σ0.2.1 47 to = 0 → (cw (σ.2.1 49) (31824 * r) 31824 : Int) ≤ C0)) → (σ0.2.1 47 to = 0 → ∀ n, n1 ≤ n → n < 144 → σ.2.1 49 (31824 * r + 144 * to + n) = 11) → (∀ y, (y < 31824 * r + 144 * to ∨ 31824 * r + 144 * to + 144 ≤ y) → σ.2.1 49 y = σ0.2.1 49 y) → (144 - n1).toNat = n → Tm (d + 1) m_X12_comes 18 b σ [(4, .int (iI n1)), (3, .int (iI w)), (0, .ref b), (1, .int (iI r)), (2, .int (iI to))] [] post := by
  intro n
  induction n using Nat.strongRecOn with
  | _ n ih =>
    intro w n1 σ hF hR h0 hss hcw hun hre hm
    refine tm_iload dX12_comes_18 0 rfl ?_
    refine tm_sipush dX12_comes_20 (by decide) ?_
    refine tm_icmp_ge (tgt := 304) dX12_comes_23 (by decide) ⟨by omega, by omega⟩ ⟨by decide, by decide⟩ (fun h1 => ?_) (fun h1 => ?_)
    · exact tm_sub [0, 1, 2, 3, 4] rfl (hx_304 (w) (n1) σ (Fr.rfl.trans (Fr.sub hF (by decide) (by decide) (by decide))) hR (by omega) hss hcw hre)
    · have hu0 : σ0.2.1 47 to = 0 → σ.2.1 49 (31824 * r + 144 * to + n1) = 11 := fun e => hun e n1 (by omega) (by omega)
      have e47 : σ.2.1 47 to = σ0.2.1 47 to := by rw [hF.2.1 47 (by decide)]
      refine tm_sipush dX12_comes_26 (by decide) ?_
      refine tm_iload_n dX12_comes_29 rfl 3 rfl ?_
      refine tm_imul dX12_comes_30 ?_
      refine tm_sipush dX12_comes_31 (by decide) ?_
      refine tm_iload_n dX12_comes_34 rfl 4 rfl ?_
      refine tm_imul dX12_comes_35 ?_
      refine tm_iadd dX12_comes_36 ?_
      refine tm_iload dX12_comes_37 0 rfl ?_
      refine tm_iadd dX12_comes_39 ?_
      refine tm_istore (L' := [(5, .int (iI (((31824 * r) + (144 * to)) + n1))), (4, .int (iI n1)), (3, .int (iI w)), (0, .ref b), (1, .int (iI r)), (2, .int (iI to))]) dX12_comes_40 (by decide) rfl ?_
      refine tm_aload_n dX12_comes_42 rfl 3 rfl ?_
      refine tm_get (k := 47) (v := .ref (b + 1 + 25)) lay_12 dX12_comes_43 (by decide) fl12_91 rfl ?_
      refine tm_iload_n dX12_comes_46 rfl 5 rfl ?_
      refine tm_zald (z := to) (v := σ0.2.1 47 to) dX12_comes_47 (show mT[25]? = some (47, 2, 221) from rfl) (by omega) (by omega) (by decide) (ra_F hF (by decide) (rfl)) ?_
      have g2 := RG.a hR0 47 (to)
      have := hbo (to)
      refine tm_if_eq (tgt := 140) dX12_comes_48 (by decide) ⟨by omega, by omega⟩ (fun h3 => ?_) (fun h3 => ?_)
      · refine tm_iconst dX12_comes_140 ?_
        refine tm_istore (L' := [(6, .int (iI 0)), (5, .int (iI (((31824 * r) + (144 * to)) + n1))), (4, .int (iI n1)), (3, .int (iI w)), (0, .ref b), (1, .int (iI r)), (2, .int (iI to))]) dX12_comes_141 (by decide) rfl ?_
        refine tm_iload dX12_comes_143 0 rfl ?_
        refine tm_if_ne (tgt := 298) dX12_comes_145 (by decide) ⟨by decide, by decide⟩ (fun h => absurd h (by decide)) (fun _ => ?_)
        refine tm_aload_n dX12_comes_148 rfl 4 rfl ?_
        refine tm_get (k := 47) (v := .ref (b + 1 + 25)) lay_12 dX12_comes_149 (by decide) fl12_91 rfl ?_
        refine tm_iload_n dX12_comes_152 rfl 6 rfl ?_
        refine tm_zald (z := to) (v := σ0.2.1 47 to) dX12_comes_153 (show mT[25]? = some (47, 2, 221) from rfl) (by omega) (by omega) (by decide) (ra_F hF (by decide) (rfl)) ?_
        have g5 := RG.a hR0 47 (to)
        have := hbo (to)
        refine tm_if_eq (tgt := 172) dX12_comes_154 (by decide) ⟨by omega, by omega⟩ (fun h6 => ?_) (fun h6 => ?_)
        · refine tm_sub [1, 2, 3, 4, 5, 6] rfl (b_comes (d) (σ0 := σ) (r := r) (to := to) (n1 := n1) (by omega) hR (by omega) (fun w13 σ14 F9 R10 f11 f12 => ?_) _ (w) σ Fr.rfl hR rfl rfl)
          show Tm _ _ 298 b σ14 [(5, .int (iI (31824 * r + 144 * to + n1))), (4, .int (iI n1)), (3, .int (iI w13)), (0, .ref b), (1, .int (iI r)), (2, .int (iI to))] [] _
          have hcs := f12
          rw [e47] at hcs
          have hcw2 := hcs.cw (lo := 31824 * r) (N := 31824) (by omega) (by omega) (by omega)
          refine tm_iinc (q0 := 1) (L' := [(4, .int (iI (n1 + 1))), (5, .int (iI (31824 * r + 144 * to + n1))), (3, .int (iI w13)), (0, .ref b), (1, .int (iI r)), (2, .int (iI to))]) dX12_comes_298 rfl (by decide) rfl ?_
          refine tm_goto (tgt := 18) dX12_comes_301 (by decide) ?_
          exact tm_sub [0, 2, 3, 4, 5] rfl (ih _ (by omega) (w13) (n1 + 1) σ14 ((Fr.rfl.trans (Fr.sub hF (by decide) (by decide) (by decide))).trans (Fr.sub F9 (by decide) (by decide) (by decide))) R10 (by omega) (by first | exact hss | exact hcs.ssa hss (hsc.fr hF (by decide))) (by omega) (fun e n a c => by first | exact hun e n (by omega) c | (rw [hcs.at (by omega)]; exact hun e n (by omega) c)) (fun y c => by first | exact hre y c | (rw [hcs.at (by omega)]; exact hre y c)) rfl)
        · exact absurd h6 (by omega)
      · refine tm_aload_n dX12_comes_51 rfl 3 rfl ?_
        refine tm_get (k := 49) (v := .ref (b + 1 + 27)) lay_12 dX12_comes_52 (by decide) fl12_99 rfl ?_
        refine tm_iload dX12_comes_55 0 rfl ?_
        refine tm_iald (z := ((31824 * r) + (144 * to)) + n1) (v := σ.2.1 49 (((31824 * r) + (144 * to)) + n1)) dX12_comes_57 (show mT[27]? = some (49, 0, 190944) from rfl) (by omega) (by omega) (by decide) (rfl) ?_
        have g15 := RG.a hR 49 (((31824 * r) + (144 * to)) + n1)
        refine tm_aload_n dX12_comes_58 rfl 3 rfl ?_
        refine tm_get (k := 54) (v := .ref (b + 1 + 32)) lay_12 dX12_comes_59 (by decide) fl12_114 rfl ?_
        refine tm_iload dX12_comes_62 1 rfl ?_
        refine tm_iald (z := n1) (v := σ0.2.1 54 n1) dX12_comes_64 (show mT[32]? = some (54, 0, 144) from rfl) (by omega) (by omega) (by decide) (ra_F hF (by decide) (rfl)) ?_
        have g16 := RG.a hR0 54 (n1)
        refine tm_icmp_ne (tgt := 140) dX12_comes_65 (by decide) ⟨by omega, by omega⟩ ⟨by omega, by omega⟩ (fun h17 => ?_) (fun h17 => ?_)
        · refine tm_iconst dX12_comes_140 ?_
          refine tm_istore (L' := [(6, .int (iI 0)), (5, .int (iI (((31824 * r) + (144 * to)) + n1))), (4, .int (iI n1)), (3, .int (iI w)), (0, .ref b), (1, .int (iI r)), (2, .int (iI to))]) dX12_comes_141 (by decide) rfl ?_
          refine tm_iload dX12_comes_143 0 rfl ?_
          refine tm_if_ne (tgt := 298) dX12_comes_145 (by decide) ⟨by decide, by decide⟩ (fun h => absurd h (by decide)) (fun _ => ?_)
          refine tm_aload_n dX12_comes_148 rfl 4 rfl ?_
          refine tm_get (k := 47) (v := .ref (b + 1 + 25)) lay_12 dX12_comes_149 (by decide) fl12_91 rfl ?_
          refine tm_iload_n dX12_comes_152 rfl 6 rfl ?_
          refine tm_zald (z := to) (v := σ0.2.1 47 to) dX12_comes_153 (show mT[25]? = some (47, 2, 221) from rfl) (by omega) (by omega) (by decide) (ra_F hF (by decide) (rfl)) ?_
          have g19 := RG.a hR0 47 (to)
          have := hbo (to)
          refine tm_if_eq (tgt := 172) dX12_comes_154 (by decide) ⟨by omega, by omega⟩ (fun h20 => ?_) (fun h20 => ?_)
          · exact absurd h20 (by omega)
          · refine tm_aload_n dX12_comes_157 rfl 4 rfl ?_
            refine tm_get (k := 49) (v := .ref (b + 1 + 27)) lay_12 dX12_comes_158 (by decide) fl12_99 rfl ?_
            refine tm_iload dX12_comes_161 1 rfl ?_
            refine tm_iald (z := ((31824 * r) + (144 * to)) + n1) (v := σ.2.1 49 (((31824 * r) + (144 * to)) + n1)) dX12_comes_163 (show mT[27]? = some (49, 0, 190944) from rfl) (by omega) (by omega) (by decide) (rfl) ?_
            have g21 := RG.a hR 49 (((31824 * r) + (144 * to)) + n1)
            refine tm_bipush dX12_comes_164 (by decide) ?_
            refine tm_icmp_ne (tgt := 172) dX12_comes_166 (by decide) ⟨by omega, by omega⟩ ⟨by decide, by decide⟩ (fun h22 => ?_) (fun h22 => ?_)
            · refine tm_sub [1, 2, 3, 4, 5, 6] rfl (b_comes (d) (σ0 := σ) (r := r) (to := to) (n1 := n1) (by omega) hR (by omega) (fun w29 σ30 F25 R26 f27 f28 => ?_) _ (w) σ Fr.rfl hR rfl rfl)
              show Tm _ _ 298 b σ30 [(5, .int (iI (31824 * r + 144 * to + n1))), (4, .int (iI n1)), (3, .int (iI w29)), (0, .ref b), (1, .int (iI r)), (2, .int (iI to))] [] _
              have hcs := f28
              rw [e47] at hcs
              have hcw2 := hcs.cw (lo := 31824 * r) (N := 31824) (by omega) (by omega) (by omega)
              refine tm_iinc (q0 := 1) (L' := [(4, .int (iI (n1 + 1))), (5, .int (iI (31824 * r + 144 * to + n1))), (3, .int (iI w29)), (0, .ref b), (1, .int (iI r)), (2, .int (iI to))]) dX12_comes_298 rfl (by decide) rfl ?_
              refine tm_goto (tgt := 18) dX12_comes_301 (by decide) ?_
              exact tm_sub [0, 2, 3, 4, 5] rfl (ih _ (by omega) (w29) (n1 + 1) σ30 ((Fr.rfl.trans (Fr.sub hF (by decide) (by decide) (by decide))).trans (Fr.sub F25 (by decide) (by decide) (by decide))) R26 (by omega) (by first | exact hss | exact hcs.ssa hss (hsc.fr hF (by decide))) (by omega) (fun e n a c => by first | exact hun e n (by omega) c | (rw [hcs.at (by omega)]; exact hun e n (by omega) c)) (fun y c => by first | exact hre y c | (rw [hcs.at (by omega)]; exact hre y c)) rfl)
            · refine tm_goto (tgt := 298) dX12_comes_169 (by decide) ?_
              refine tm_iinc (q0 := 2) (L' := [(4, .int (iI (n1 + 1))), (6, .int (iI 0)), (5, .int (iI (((31824 * r) + (144 * to)) + n1))), (3, .int (iI w)), (0, .ref b), (1, .int (iI r)), (2, .int (iI to))]) dX12_comes_298 rfl (by decide) rfl ?_
              refine tm_goto (tgt := 18) dX12_comes_301 (by decide) ?_
              exact tm_sub [0, 3, 4, 5, 6] rfl (ih _ (by omega) (w) (n1 + 1) σ (Fr.rfl.trans (Fr.sub hF (by decide) (by decide) (by decide))) hR (by omega) (by first | exact hss | exact hcs.ssa hss (hsc.fr hF (by decide))) (by omega) (fun e n a c => by first | exact hun e n (by omega) c | (rw [hcs.at (by omega)]; exact hun e n (by omega) c)) (fun y c => by first | exact hre y c | (rw [hcs.at (by omega)]; exact hre y c)) rfl)
        · refine tm_aload_n dX12_comes_68 rfl 3 rfl ?_
          refine tm_get (k := 50) (v := .ref (b + 1 + 28)) lay_12 dX12_comes_69 (by decide) fl12_102 rfl ?_
          refine tm_iload dX12_comes_72 0 rfl ?_
          refine tm_iald (z := ((31824 * r) + (144 * to)) + n1) (v := σ.2.1 50 (((31824 * r) + (144 * to)) + n1)) dX12_comes_74 (show mT[28]? = some (50, 0, 190944) from rfl) (by omega) (by omega) (by decide) (rfl) ?_
          have g31 := RG.a hR 50 (((31824 * r) + (144 * to)) + n1)
          refine tm_aload_n dX12_comes_75 rfl 3 rfl ?_
          refine tm_get (k := 55) (v := .ref (b + 1 + 33)) lay_12 dX12_comes_76 (by decide) fl12_117 rfl ?_
          refine tm_iload dX12_comes_79 1 rfl ?_
          refine tm_iald (z := n1) (v := σ0.2.1 55 n1) dX12_comes_81 (show mT[33]? = some (55, 0, 144) from rfl) (by omega) (by omega) (by decide) (ra_F hF (by decide) (rfl)) ?_
          have g32 := RG.a hR0 55 (n1)
          refine tm_icmp_ne (tgt := 140) dX12_comes_82 (by decide) ⟨by omega, by omega⟩ ⟨by omega, by omega⟩ (fun h33 => ?_) (fun h33 => ?_)
          · refine tm_iconst dX12_comes_140 ?_
            refine tm_istore (L' := [(6, .int (iI 0)), (5, .int (iI (((31824 * r) + (144 * to)) + n1))), (4, .int (iI n1)), (3, .int (iI w)), (0, .ref b), (1, .int (iI r)), (2, .int (iI to))]) dX12_comes_141 (by decide) rfl ?_
            refine tm_iload dX12_comes_143 0 rfl ?_
            refine tm_if_ne (tgt := 298) dX12_comes_145 (by decide) ⟨by decide, by decide⟩ (fun h => absurd h (by decide)) (fun _ => ?_)
            refine tm_aload_n dX12_comes_148 rfl 4 rfl ?_
            refine tm_get (k := 47) (v := .ref (b + 1 + 25)) lay_12 dX12_comes_149 (by decide) fl12_91 rfl ?_
            refine tm_iload_n dX12_comes_152 rfl 6 rfl ?_
            refine tm_zald (z := to) (v := σ0.2.1 47 to) dX12_comes_153 (show mT[25]? = some (47, 2, 221) from rfl) (by omega) (by omega) (by decide) (ra_F hF (by decide) (rfl)) ?_
            have g35 := RG.a hR0 47 (to)
            have := hbo (to)
            refine tm_if_eq (tgt := 172) dX12_comes_154 (by decide) ⟨by omega, by omega⟩ (fun h36 => ?_) (fun h36 => ?_)
            · exact absurd h36 (by omega)
            · refine tm_aload_n dX12_comes_157 rfl 4 rfl ?_
              refine tm_get (k := 49) (v := .ref (b + 1 + 27)) lay_12 dX12_comes_158 (by decide) fl12_99 rfl ?_
              refine tm_iload dX12_comes_161 1 rfl ?_
              refine tm_iald (z := ((31824 * r) + (144 * to)) + n1) (v := σ.2.1 49 (((31824 * r) + (144 * to)) + n1)) dX12_comes_163 (show mT[27]? = some (49, 0, 190944) from rfl) (by omega) (by omega) (by decide) (rfl) ?_
              have g37 := RG.a hR 49 (((31824 * r) + (144 * to)) + n1)
              refine tm_bipush dX12_comes_164 (by decide) ?_
              refine tm_icmp_ne (tgt := 172) dX12_comes_166 (by decide) ⟨by omega, by omega⟩ ⟨by decide, by decide⟩ (fun h38 => ?_) (fun h38 => ?_)
              · refine tm_sub [1, 2, 3, 4, 5, 6] rfl (b_comes (d) (σ0 := σ) (r := r) (to := to) (n1 := n1) (by omega) hR (by omega) (fun w45 σ46 F41 R42 f43 f44 => ?_) _ (w) σ Fr.rfl hR rfl rfl)
                show Tm _ _ 298 b σ46 [(5, .int (iI (31824 * r + 144 * to + n1))), (4, .int (iI n1)), (3, .int (iI w45)), (0, .ref b), (1, .int (iI r)), (2, .int (iI to))] [] _
                have hcs := f44
                rw [e47] at hcs
                have hcw2 := hcs.cw (lo := 31824 * r) (N := 31824) (by omega) (by omega) (by omega)
                refine tm_iinc (q0 := 1) (L' := [(4, .int (iI (n1 + 1))), (5, .int (iI (31824 * r + 144 * to + n1))), (3, .int (iI w45)), (0, .ref b), (1, .int (iI r)), (2, .int (iI to))]) dX12_comes_298 rfl (by decide) rfl ?_
                refine tm_goto (tgt := 18) dX12_comes_301 (by decide) ?_
                exact tm_sub [0, 2, 3, 4, 5] rfl (ih _ (by omega) (w45) (n1 + 1) σ46 ((Fr.rfl.trans (Fr.sub hF (by decide) (by decide) (by decide))).trans (Fr.sub F41 (by decide) (by decide) (by decide))) R42 (by omega) (by first | exact hss | exact hcs.ssa hss (hsc.fr hF (by decide))) (by omega) (fun e n a c => by first | exact hun e n (by omega) c | (rw [hcs.at (by omega)]; exact hun e n (by omega) c)) (fun y c => by first | exact hre y c | (rw [hcs.at (by omega)]; exact hre y c)) rfl)
              · refine tm_goto (tgt := 298) dX12_comes_169 (by decide) ?_
                refine tm_iinc (q0 := 2) (L' := [(4, .int (iI (n1 + 1))), (6, .int (iI 0)), (5, .int (iI (((31824 * r) + (144 * to)) + n1))), (3, .int (iI w)), (0, .ref b), (1, .int (iI r)), (2, .int (iI to))]) dX12_comes_298 rfl (by decide) rfl ?_
                refine tm_goto (tgt := 18) dX12_comes_301 (by decide) ?_
                exact tm_sub [0, 3, 4, 5, 6] rfl (ih _ (by omega) (w) (n1 + 1) σ (Fr.rfl.trans (Fr.sub hF (by decide) (by decide) (by decide))) hR (by omega) (by first | exact hss | exact hcs.ssa hss (hsc.fr hF (by decide))) (by omega) (fun e n a c => by first | exact hun e n (by omega) c | (rw [hcs.at (by omega)]; exact hun e n (by omega) c)) (fun y c => by first | exact hre y c | (rw [hcs.at (by omega)]; exact hre y c)) rfl)
          · refine tm_aload_n dX12_comes_85 rfl 3 rfl ?_
            refine tm_get (k := 51) (v := .ref (b + 1 + 29)) lay_12 dX12_comes_86 (by decide) fl12_105 rfl ?_
            refine tm_iload dX12_comes_89 0 rfl ?_
            refine tm_iald (z := ((31824 * r) + (144 * to)) + n1) (v := σ.2.1 51 (((31824 * r) + (144 * to)) + n1)) dX12_comes_91 (show mT[29]? = some (51, 0, 190944) from rfl) (by omega) (by omega) (by decide) (rfl) ?_
            have g47 := RG.a hR 51 (((31824 * r) + (144 * to)) + n1)
            refine tm_aload_n dX12_comes_92 rfl 3 rfl ?_
            refine tm_get (k := 56) (v := .ref (b + 1 + 34)) lay_12 dX12_comes_93 (by decide) fl12_120 rfl ?_
            refine tm_iload dX12_comes_96 1 rfl ?_
            refine tm_iald (z := n1) (v := σ0.2.1 56 n1) dX12_comes_98 (show mT[34]? = some (56, 0, 144) from rfl) (by omega) (by omega) (by decide) (ra_F hF (by decide) (rfl)) ?_
            have g48 := RG.a hR0 56 (n1)
            refine tm_icmp_ne (tgt := 140) dX12_comes_99 (by decide) ⟨by omega, by omega⟩ ⟨by omega, by omega⟩ (fun h49 => ?_) (fun h49 => ?_)
            · refine tm_iconst dX12_comes_140 ?_
              refine tm_istore (L' := [(6, .int (iI 0)), (5, .int (iI (((31824 * r) + (144 * to)) + n1))), (4, .int (iI n1)), (3, .int (iI w)), (0, .ref b), (1, .int (iI r)), (2, .int (iI to))]) dX12_comes_141 (by decide) rfl ?_
              refine tm_iload dX12_comes_143 0 rfl ?_
              refine tm_if_ne (tgt := 298) dX12_comes_145 (by decide) ⟨by decide, by decide⟩ (fun h => absurd h (by decide)) (fun _ => ?_)
              refine tm_aload_n dX12_comes_148 rfl 4 rfl ?_
              refine tm_get (k := 47) (v := .ref (b + 1 + 25)) lay_12 dX12_comes_149 (by decide) fl12_91 rfl ?_
              refine tm_iload_n dX12_comes_152 rfl 6 rfl ?_
              refine tm_zald (z := to) (v := σ0.2.1 47 to) dX12_comes_153 (show mT[25]? = some (47, 2, 221) from rfl) (by omega) (by omega) (by decide) (ra_F hF (by decide) (rfl)) ?_
              have g51 := RG.a hR0 47 (to)
              have := hbo (to)
              refine tm_if_eq (tgt := 172) dX12_comes_154 (by decide) ⟨by omega, by omega⟩ (fun h52 => ?_) (fun h52 => ?_)
              · exact absurd h52 (by omega)
              · refine tm_aload_n dX12_comes_157 rfl 4 rfl ?_
                refine tm_get (k := 49) (v := .ref (b + 1 + 27)) lay_12 dX12_comes_158 (by decide) fl12_99 rfl ?_
                refine tm_iload dX12_comes_161 1 rfl ?_
                refine tm_iald (z := ((31824 * r) + (144 * to)) + n1) (v := σ.2.1 49 (((31824 * r) + (144 * to)) + n1)) dX12_comes_163 (show mT[27]? = some (49, 0, 190944) from rfl) (by omega) (by omega) (by decide) (rfl) ?_
                have g53 := RG.a hR 49 (((31824 * r) + (144 * to)) + n1)
                refine tm_bipush dX12_comes_164 (by decide) ?_
                refine tm_icmp_ne (tgt := 172) dX12_comes_166 (by decide) ⟨by omega, by omega⟩ ⟨by decide, by decide⟩ (fun h54 => ?_) (fun h54 => ?_)
                · refine tm_sub [1, 2, 3, 4, 5, 6] rfl (b_comes (d) (σ0 := σ) (r := r) (to := to) (n1 := n1) (by omega) hR (by omega) (fun w61 σ62 F57 R58 f59 f60 => ?_) _ (w) σ Fr.rfl hR rfl rfl)
                  show Tm _ _ 298 b σ62 [(5, .int (iI (31824 * r + 144 * to + n1))), (4, .int (iI n1)), (3, .int (iI w61)), (0, .ref b), (1, .int (iI r)), (2, .int (iI to))] [] _
                  have hcs := f60
                  rw [e47] at hcs
                  have hcw2 := hcs.cw (lo := 31824 * r) (N := 31824) (by omega) (by omega) (by omega)
                  refine tm_iinc (q0 := 1) (L' := [(4, .int (iI (n1 + 1))), (5, .int (iI (31824 * r + 144 * to + n1))), (3, .int (iI w61)), (0, .ref b), (1, .int (iI r)), (2, .int (iI to))]) dX12_comes_298 rfl (by decide) rfl ?_
                  refine tm_goto (tgt := 18) dX12_comes_301 (by decide) ?_
                  exact tm_sub [0, 2, 3, 4, 5] rfl (ih _ (by omega) (w61) (n1 + 1) σ62 ((Fr.rfl.trans (Fr.sub hF (by decide) (by decide) (by decide))).trans (Fr.sub F57 (by decide) (by decide) (by decide))) R58 (by omega) (by first | exact hss | exact hcs.ssa hss (hsc.fr hF (by decide))) (by omega) (fun e n a c => by first | exact hun e n (by omega) c | (rw [hcs.at (by omega)]; exact hun e n (by omega) c)) (fun y c => by first | exact hre y c | (rw [hcs.at (by omega)]; exact hre y c)) rfl)
                · refine tm_goto (tgt := 298) dX12_comes_169 (by decide) ?_
                  refine tm_iinc (q0 := 2) (L' := [(4, .int (iI (n1 + 1))), (6, .int (iI 0)), (5, .int (iI (((31824 * r) + (144 * to)) + n1))), (3, .int (iI w)), (0, .ref b), (1, .int (iI r)), (2, .int (iI to))]) dX12_comes_298 rfl (by decide) rfl ?_
                  refine tm_goto (tgt := 18) dX12_comes_301 (by decide) ?_
                  exact tm_sub [0, 3, 4, 5, 6] rfl (ih _ (by omega) (w) (n1 + 1) σ (Fr.rfl.trans (Fr.sub hF (by decide) (by decide) (by decide))) hR (by omega) (by first | exact hss | exact hcs.ssa hss (hsc.fr hF (by decide))) (by omega) (fun e n a c => by first | exact hun e n (by omega) c | (rw [hcs.at (by omega)]; exact hun e n (by omega) c)) (fun y c => by first | exact hre y c | (rw [hcs.at (by omega)]; exact hre y c)) rfl)
            · refine tm_aload_n dX12_comes_102 rfl 3 rfl ?_
              refine tm_get (k := 52) (v := .ref (b + 1 + 30)) lay_12 dX12_comes_103 (by decide) fl12_108 rfl ?_
              refine tm_iload dX12_comes_106 0 rfl ?_
              refine tm_iald (z := ((31824 * r) + (144 * to)) + n1) (v := σ.2.1 52 (((31824 * r) + (144 * to)) + n1)) dX12_comes_108 (show mT[30]? = some (52, 0, 190944) from rfl) (by omega) (by omega) (by decide) (rfl) ?_
              have g63 := RG.a hR 52 (((31824 * r) + (144 * to)) + n1)
              refine tm_aload_n dX12_comes_109 rfl 3 rfl ?_
              refine tm_get (k := 57) (v := .ref (b + 1 + 35)) lay_12 dX12_comes_110 (by decide) fl12_123 rfl ?_
              refine tm_iload dX12_comes_113 1 rfl ?_
              refine tm_iald (z := n1) (v := σ0.2.1 57 n1) dX12_comes_115 (show mT[35]? = some (57, 0, 144) from rfl) (by omega) (by omega) (by decide) (ra_F hF (by decide) (rfl)) ?_
              have g64 := RG.a hR0 57 (n1)
              refine tm_icmp_ne (tgt := 140) dX12_comes_116 (by decide) ⟨by omega, by omega⟩ ⟨by omega, by omega⟩ (fun h65 => ?_) (fun h65 => ?_)
              · refine tm_iconst dX12_comes_140 ?_
                refine tm_istore (L' := [(6, .int (iI 0)), (5, .int (iI (((31824 * r) + (144 * to)) + n1))), (4, .int (iI n1)), (3, .int (iI w)), (0, .ref b), (1, .int (iI r)), (2, .int (iI to))]) dX12_comes_141 (by decide) rfl ?_
                refine tm_iload dX12_comes_143 0 rfl ?_
                refine tm_if_ne (tgt := 298) dX12_comes_145 (by decide) ⟨by decide, by decide⟩ (fun h => absurd h (by decide)) (fun _ => ?_)
                refine tm_aload_n dX12_comes_148 rfl 4 rfl ?_
                refine tm_get (k := 47) (v := .ref (b + 1 + 25)) lay_12 dX12_comes_149 (by decide) fl12_91 rfl ?_
                refine tm_iload_n dX12_comes_152 rfl 6 rfl ?_
                refine tm_zald (z := to) (v := σ0.2.1 47 to) dX12_comes_153 (show mT[25]? = some (47, 2, 221) from rfl) (by omega) (by omega) (by decide) (ra_F hF (by decide) (rfl)) ?_
                have g67 := RG.a hR0 47 (to)
                have := hbo (to)
                refine tm_if_eq (tgt := 172) dX12_comes_154 (by decide) ⟨by omega, by omega⟩ (fun h68 => ?_) (fun h68 => ?_)
                · exact absurd h68 (by omega)
                · refine tm_aload_n dX12_comes_157 rfl 4 rfl ?_
                  refine tm_get (k := 49) (v := .ref (b + 1 + 27)) lay_12 dX12_comes_158 (by decide) fl12_99 rfl ?_
                  refine tm_iload dX12_comes_161 1 rfl ?_
                  refine tm_iald (z := ((31824 * r) + (144 * to)) + n1) (v := σ.2.1 49 (((31824 * r) + (144 * to)) + n1)) dX12_comes_163 (show mT[27]? = some (49, 0, 190944) from rfl) (by omega) (by omega) (by decide) (rfl) ?_
                  have g69 := RG.a hR 49 (((31824 * r) + (144 * to)) + n1)
                  refine tm_bipush dX12_comes_164 (by decide) ?_
                  refine tm_icmp_ne (tgt := 172) dX12_comes_166 (by decide) ⟨by omega, by omega⟩ ⟨by decide, by decide⟩ (fun h70 => ?_) (fun h70 => ?_)
                  · refine tm_sub [1, 2, 3, 4, 5, 6] rfl (b_comes (d) (σ0 := σ) (r := r) (to := to) (n1 := n1) (by omega) hR (by omega) (fun w77 σ78 F73 R74 f75 f76 => ?_) _ (w) σ Fr.rfl hR rfl rfl)
                    show Tm _ _ 298 b σ78 [(5, .int (iI (31824 * r + 144 * to + n1))), (4, .int (iI n1)), (3, .int (iI w77)), (0, .ref b), (1, .int (iI r)), (2, .int (iI to))] [] _
                    have hcs := f76
                    rw [e47] at hcs
                    have hcw2 := hcs.cw (lo := 31824 * r) (N := 31824) (by omega) (by omega) (by omega)
                    refine tm_iinc (q0 := 1) (L' := [(4, .int (iI (n1 + 1))), (5, .int (iI (31824 * r + 144 * to + n1))), (3, .int (iI w77)), (0, .ref b), (1, .int (iI r)), (2, .int (iI to))]) dX12_comes_298 rfl (by decide) rfl ?_
                    refine tm_goto (tgt := 18) dX12_comes_301 (by decide) ?_
                    exact tm_sub [0, 2, 3, 4, 5] rfl (ih _ (by omega) (w77) (n1 + 1) σ78 ((Fr.rfl.trans (Fr.sub hF (by decide) (by decide) (by decide))).trans (Fr.sub F73 (by decide) (by decide) (by decide))) R74 (by omega) (by first | exact hss | exact hcs.ssa hss (hsc.fr hF (by decide))) (by omega) (fun e n a c => by first | exact hun e n (by omega) c | (rw [hcs.at (by omega)]; exact hun e n (by omega) c)) (fun y c => by first | exact hre y c | (rw [hcs.at (by omega)]; exact hre y c)) rfl)
                  · refine tm_goto (tgt := 298) dX12_comes_169 (by decide) ?_
                    refine tm_iinc (q0 := 2) (L' := [(4, .int (iI (n1 + 1))), (6, .int (iI 0)), (5, .int (iI (((31824 * r) + (144 * to)) + n1))), (3, .int (iI w)), (0, .ref b), (1, .int (iI r)), (2, .int (iI to))]) dX12_comes_298 rfl (by decide) rfl ?_
                    refine tm_goto (tgt := 18) dX12_comes_301 (by decide) ?_
                    exact tm_sub [0, 3, 4, 5, 6] rfl (ih _ (by omega) (w) (n1 + 1) σ (Fr.rfl.trans (Fr.sub hF (by decide) (by decide) (by decide))) hR (by omega) (by first | exact hss | exact hcs.ssa hss (hsc.fr hF (by decide))) (by omega) (fun e n a c => by first | exact hun e n (by omega) c | (rw [hcs.at (by omega)]; exact hun e n (by omega) c)) (fun y c => by first | exact hre y c | (rw [hcs.at (by omega)]; exact hre y c)) rfl)
              · refine tm_aload_n dX12_comes_119 rfl 3 rfl ?_
                refine tm_get (k := 53) (v := .ref (b + 1 + 31)) lay_12 dX12_comes_120 (by decide) fl12_111 rfl ?_
                refine tm_iload dX12_comes_123 0 rfl ?_
                refine tm_iald (z := ((31824 * r) + (144 * to)) + n1) (v := σ.2.1 53 (((31824 * r) + (144 * to)) + n1)) dX12_comes_125 (show mT[31]? = some (53, 0, 190944) from rfl) (by omega) (by omega) (by decide) (rfl) ?_
                have g79 := RG.a hR 53 (((31824 * r) + (144 * to)) + n1)
                refine tm_aload_n dX12_comes_126 rfl 3 rfl ?_
                refine tm_get (k := 58) (v := .ref (b + 1 + 36)) lay_12 dX12_comes_127 (by decide) fl12_126 rfl ?_
                refine tm_iload dX12_comes_130 1 rfl ?_
                refine tm_iald (z := n1) (v := σ0.2.1 58 n1) dX12_comes_132 (show mT[36]? = some (58, 0, 144) from rfl) (by omega) (by omega) (by decide) (ra_F hF (by decide) (rfl)) ?_
                have g80 := RG.a hR0 58 (n1)
                refine tm_icmp_ne (tgt := 140) dX12_comes_133 (by decide) ⟨by omega, by omega⟩ ⟨by omega, by omega⟩ (fun h81 => ?_) (fun h81 => ?_)
                · refine tm_iconst dX12_comes_140 ?_
                  refine tm_istore (L' := [(6, .int (iI 0)), (5, .int (iI (((31824 * r) + (144 * to)) + n1))), (4, .int (iI n1)), (3, .int (iI w)), (0, .ref b), (1, .int (iI r)), (2, .int (iI to))]) dX12_comes_141 (by decide) rfl ?_
                  refine tm_iload dX12_comes_143 0 rfl ?_
                  refine tm_if_ne (tgt := 298) dX12_comes_145 (by decide) ⟨by decide, by decide⟩ (fun h => absurd h (by decide)) (fun _ => ?_)
                  refine tm_aload_n dX12_comes_148 rfl 4 rfl ?_
                  refine tm_get (k := 47) (v := .ref (b + 1 + 25)) lay_12 dX12_comes_149 (by decide) fl12_91 rfl ?_
                  refine tm_iload_n dX12_comes_152 rfl 6 rfl ?_
                  refine tm_zald (z := to) (v := σ0.2.1 47 to) dX12_comes_153 (show mT[25]? = some (47, 2, 221) from rfl) (by omega) (by omega) (by decide) (ra_F hF (by decide) (rfl)) ?_
                  have g83 := RG.a hR0 47 (to)
                  have := hbo (to)
                  refine tm_if_eq (tgt := 172) dX12_comes_154 (by decide) ⟨by omega, by omega⟩ (fun h84 => ?_) (fun h84 => ?_)
                  · exact absurd h84 (by omega)
                  · refine tm_aload_n dX12_comes_157 rfl 4 rfl ?_
                    refine tm_get (k := 49) (v := .ref (b + 1 + 27)) lay_12 dX12_comes_158 (by decide) fl12_99 rfl ?_
                    refine tm_iload dX12_comes_161 1 rfl ?_
                    refine tm_iald (z := ((31824 * r) + (144 * to)) + n1) (v := σ.2.1 49 (((31824 * r) + (144 * to)) + n1)) dX12_comes_163 (show mT[27]? = some (49, 0, 190944) from rfl) (by omega) (by omega) (by decide) (rfl) ?_
                    have g85 := RG.a hR 49 (((31824 * r) + (144 * to)) + n1)
                    refine tm_bipush dX12_comes_164 (by decide) ?_
                    refine tm_icmp_ne (tgt := 172) dX12_comes_166 (by decide) ⟨by omega, by omega⟩ ⟨by decide, by decide⟩ (fun h86 => ?_) (fun h86 => ?_)
                    · refine tm_sub [1, 2, 3, 4, 5, 6] rfl (b_comes (d) (σ0 := σ) (r := r) (to := to) (n1 := n1) (by omega) hR (by omega) (fun w93 σ94 F89 R90 f91 f92 => ?_) _ (w) σ Fr.rfl hR rfl rfl)
                      show Tm _ _ 298 b σ94 [(5, .int (iI (31824 * r + 144 * to + n1))), (4, .int (iI n1)), (3, .int (iI w93)), (0, .ref b), (1, .int (iI r)), (2, .int (iI to))] [] _
                      have hcs := f92
                      rw [e47] at hcs
                      have hcw2 := hcs.cw (lo := 31824 * r) (N := 31824) (by omega) (by omega) (by omega)
                      refine tm_iinc (q0 := 1) (L' := [(4, .int (iI (n1 + 1))), (5, .int (iI (31824 * r + 144 * to + n1))), (3, .int (iI w93)), (0, .ref b), (1, .int (iI r)), (2, .int (iI to))]) dX12_comes_298 rfl (by decide) rfl ?_
                      refine tm_goto (tgt := 18) dX12_comes_301 (by decide) ?_
                      exact tm_sub [0, 2, 3, 4, 5] rfl (ih _ (by omega) (w93) (n1 + 1) σ94 ((Fr.rfl.trans (Fr.sub hF (by decide) (by decide) (by decide))).trans (Fr.sub F89 (by decide) (by decide) (by decide))) R90 (by omega) (by first | exact hss | exact hcs.ssa hss (hsc.fr hF (by decide))) (by omega) (fun e n a c => by first | exact hun e n (by omega) c | (rw [hcs.at (by omega)]; exact hun e n (by omega) c)) (fun y c => by first | exact hre y c | (rw [hcs.at (by omega)]; exact hre y c)) rfl)
                    · refine tm_goto (tgt := 298) dX12_comes_169 (by decide) ?_
                      refine tm_iinc (q0 := 2) (L' := [(4, .int (iI (n1 + 1))), (6, .int (iI 0)), (5, .int (iI (((31824 * r) + (144 * to)) + n1))), (3, .int (iI w)), (0, .ref b), (1, .int (iI r)), (2, .int (iI to))]) dX12_comes_298 rfl (by decide) rfl ?_
                      refine tm_goto (tgt := 18) dX12_comes_301 (by decide) ?_
                      exact tm_sub [0, 3, 4, 5, 6] rfl (ih _ (by omega) (w) (n1 + 1) σ (Fr.rfl.trans (Fr.sub hF (by decide) (by decide) (by decide))) hR (by omega) (by first | exact hss | exact hcs.ssa hss (hsc.fr hF (by decide))) (by omega) (fun e n a c => by first | exact hun e n (by omega) c | (rw [hcs.at (by omega)]; exact hun e n (by omega) c)) (fun y c => by first | exact hre y c | (rw [hcs.at (by omega)]; exact hre y c)) rfl)
                · refine tm_iconst dX12_comes_136 ?_
                  refine tm_goto (tgt := 141) dX12_comes_137 (by decide) ?_
                  refine tm_istore (L' := [(6, .int (iI 1)), (5, .int (iI (((31824 * r) + (144 * to)) + n1))), (4, .int (iI n1)), (3, .int (iI w)), (0, .ref b), (1, .int (iI r)), (2, .int (iI to))]) dX12_comes_141 (by decide) rfl ?_
                  refine tm_iload dX12_comes_143 0 rfl ?_
                  refine tm_if_ne (tgt := 298) dX12_comes_145 (by decide) ⟨by decide, by decide⟩ (fun _ => ?_) (fun h => absurd h (by decide))
                  refine tm_iinc (q0 := 2) (L' := [(4, .int (iI (n1 + 1))), (6, .int (iI 1)), (5, .int (iI (((31824 * r) + (144 * to)) + n1))), (3, .int (iI w)), (0, .ref b), (1, .int (iI r)), (2, .int (iI to))]) dX12_comes_298 rfl (by decide) rfl ?_
                  refine tm_goto (tgt := 18) dX12_comes_301 (by decide) ?_
                  exact tm_sub [0, 3, 4, 5, 6] rfl (ih _ (by omega) (w) (n1 + 1) σ (Fr.rfl.trans (Fr.sub hF (by decide) (by decide) (by decide))) hR (by omega) (by first | exact hss | exact hcs.ssa hss (hsc.fr hF (by decide))) (by omega) (fun e n a c => by first | exact hun e n (by omega) c | (rw [hcs.at (by omega)]; exact hun e n (by omega) c)) (fun y c => by first | exact hre y c | (rw [hcs.at (by omega)]; exact hre y c)) rfl)
theorem dX12_comes_0 : decode cX12_comes 0 = .ok (.aload_n 0, 1) := by decide +kernel
theorem dX12_comes_1 : decode cX12_comes 1 = .ok (.getfield 91, 3) := by decide +kernel
theorem dX12_comes_4 : decode cX12_comes 4 = .ok (.iload_n 2, 1) := by decide +kernel
theorem dX12_comes_5 : decode cX12_comes 5 = .ok (.baload, 1) := by decide +kernel
theorem dX12_comes_6 : decode cX12_comes 6 = .ok (.ifCond .ne 7, 3) := by decide +kernel
theorem dX12_comes_13 : decode cX12_comes 13 = .ok (.iconst 0, 1) := by decide +kernel
theorem dX12_comes_14 : decode cX12_comes 14 = .ok (.istore_n 3, 1) := by decide +kernel
theorem dX12_comes_15 : decode cX12_comes 15 = .ok (.iconst 0, 1) := by decide +kernel
theorem dX12_comes_16 : decode cX12_comes 16 = .ok (.istore 4, 2) := by decide +kernel
theorem dX12_comes_304 : decode cX12_comes 304 = .ok (.aload_n 0, 1) := by decide +kernel
theorem dX12_comes_305 : decode cX12_comes 305 = .ok (.getfield 91, 3) := by decide +kernel
theorem dX12_comes_308 : decode cX12_comes 308 = .ok (.iload_n 2, 1) := by decide +kernel
theorem dX12_comes_309 : decode cX12_comes 309 = .ok (.iconst 1, 1) := by decide +kernel
theorem dX12_comes_310 : decode cX12_comes 310 = .ok (.bastore, 1) := by decide +kernel
theorem dX12_comes_311 : decode cX12_comes 311 = .ok (.iload_n 3, 1) := by decide +kernel
theorem dX12_comes_312 : decode cX12_comes 312 = .ok (.ireturn, 1) := by decide +kernel
theorem dX12_comes_9 : decode cX12_comes 9 = .ok (.iconst 1, 1) := by decide +kernel
theorem dX12_comes_10 : decode cX12_comes 10 = .ok (.goto 4, 3) := by decide +kernel
set_option maxHeartbeats 40000000 in
set_option maxRecDepth 20000 in
theorem c_X12_comes (d : Nat) {b : Nat} {σ : MS} {r : Int} {to : Int} {m : Int} (hr : 0 ≤ r ∧ r < 6) (hR : RG σ) (hbo : BO 47 σ) (hsc : SCA σ) (hss : SSA σ) (hto : 0 ≤ to ∧ to ≤ m ∧ m ≤ 220) (hun : UNR σ r m) : Tm (d + 1) m_X12_comes 0 b σ [(0, .ref b), (1, .int (iI r)), (2, .int (iI to))] [] (fun ro σ2 => ∃ v : Int, ro = some (.int (iI v)) ∧ ((v = 0 ∨ v = 1)) ∧ (Fr [] [47, 49, 50, 51, 52, 53] [] σ σ2) ∧ (RG σ2) ∧ (BO 47 σ2) ∧ (SSA σ2) ∧ (UNR σ2 r m) ∧ ((cz (σ2.2.1 47) 221 : Int) + (cw (σ2.2.1 49) (31824 * r) 31824 : Int) + v ≤ (cz (σ.2.1 47) 221 : Int) + (cw (σ.2.1 49) (31824 * r) 31824 : Int)) ∧ (σ2.2.1 47 to = 1) ∧ (∀ k, σ.2.1 47 k = 1 → σ2.2.1 47 k = 1)) := by
  refine tm_aload_n dX12_comes_0 rfl 0 rfl ?_
  refine tm_get (k := 47) (v := .ref (b + 1 + 25)) lay_12 dX12_comes_1 (by decide) fl12_91 rfl ?_
  refine tm_iload_n dX12_comes_4 rfl 2 rfl ?_
  refine tm_zald (z := to) (v := σ.2.1 47 to) dX12_comes_5 (show mT[25]? = some (47, 2, 221) from rfl) (by omega) (by omega) (by decide) (rfl) ?_
  have g1 := RG.a hR 47 (to)
  have := hbo (to)
  refine tm_if_ne (tgt := 13) dX12_comes_6 (by decide) ⟨by omega, by omega⟩ (fun h2 => ?_) (fun h2 => ?_)
  · refine tm_iconst dX12_comes_13 ?_
    refine tm_istore_n (L' := [(3, .int (iI 0)), (0, .ref b), (1, .int (iI r)), (2, .int (iI to))]) dX12_comes_14 rfl (by decide) rfl ?_
    refine tm_iconst dX12_comes_15 ?_
    refine tm_istore (L' := [(4, .int (iI 0)), (3, .int (iI 0)), (0, .ref b), (1, .int (iI r)), (2, .int (iI to))]) dX12_comes_16 (by decide) rfl ?_
    refine tm_sub [0, 1, 2, 3, 4] rfl (l_comes (d) (σ0 := σ) (r := r) (to := to) (C0 := (cw (σ.2.1 49) (31824 * r) 31824 : Int)) (by omega) hR (by omega) hbo hsc (fun w12 n113 σ14 F6 R7 f8 f9 f10 f11 => ?_) _ (0) (0) σ Fr.rfl hR (by omega) hss (by omega) (fun e n a c => hun to (by omega) (by omega) e n a c) (fun y _ => rfl) rfl)
    show Tm _ _ 304 b σ14 [(4, .int (iI n113)), (3, .int (iI w12)), (0, .ref b), (1, .int (iI r)), (2, .int (iI to))] [] _
    refine tm_aload_n dX12_comes_304 rfl 2 rfl ?_
    refine tm_get (k := 47) (v := .ref (b + 1 + 25)) lay_12 dX12_comes_305 (by decide) fl12_91 rfl ?_
    refine tm_iload_n dX12_comes_308 rfl 4 rfl ?_
    refine tm_iconst dX12_comes_309 ?_
    refine tm_zast (z := to) (v := 1) dX12_comes_310 (show mT[25]? = some (47, 2, 221) from rfl) (by omega) (by omega) (by decide) (by omega) ?_
    refine tm_iload_n dX12_comes_311 rfl 1 rfl ?_
    exact tm_zret (v := w12) rfl (by omega) dX12_comes_312 (⟨_, rfl, by omega, ((Fr.rfl.trans (Fr.sub F6 (by decide) (by decide) (by decide))).A (by decide)), (R7.A (by omega)), BO.A (hbo.fr F6 (by decide)) (by omega), SSA.fr f9 ((Fr.rfl (ss := []) (ks := [47]) (js := [])).A (by decide)) (by decide), fun k a c e n g i => by
      by_cases q : k = to
      · subst q; exact absurd (e.symm.trans ra_eq) (by decide)
      · have e2 : σ.2.1 47 k = 0 := by rw [← F6.2.1 47 (by decide)]; exact (ra_ne q rfl).symm.trans e
        exact ra_o (by decide) ((f11 _ (by omega)).trans (hun k a c e2 n g i)), by
      have e9 : cw ((sA 47 to 1 σ14).2.1 49) (31824 * r) 31824 = cw (σ14.2.1 49) (31824 * r) 31824 := rfl
      have e8 := cz_fr (n := 221) F6 (k := 47) (by decide)
      have e7 : σ14.2.1 47 to = σ.2.1 47 to := by rw [F6.2.1 47 (by decide)]
      rcases hbo to with e | e
      · have := cz_sA (σ := σ14) (k := 47) (n := 221) (z := to) (v := 1) (by omega) (by omega) (by omega) (by decide)
        omega
      · have e6 : cz ((sA 47 to 1 σ14).2.1 47) 221 = cz (σ14.2.1 47) 221 := cz_ext _ (fun j a c => by
          by_cases q : j = to
          · subst q; rw [e7, e]; exact ra_eq
          · exact ra_ne q rfl)
        omega, ra_eq, fun k e => by
      by_cases q : k = to
      · subst q; exact ra_eq
      · exact ra_ne q (by rw [F6.2.1 47 (by decide)]; exact e)⟩)
  · refine tm_iconst dX12_comes_9 ?_
    refine tm_goto (tgt := 14) dX12_comes_10 (by decide) ?_
    refine tm_istore_n (L' := [(3, .int (iI 1)), (0, .ref b), (1, .int (iI r)), (2, .int (iI to))]) dX12_comes_14 rfl (by decide) rfl ?_
    refine tm_iconst dX12_comes_15 ?_
    refine tm_istore (L' := [(4, .int (iI 0)), (3, .int (iI 1)), (0, .ref b), (1, .int (iI r)), (2, .int (iI to))]) dX12_comes_16 (by decide) rfl ?_
    refine tm_sub [0, 1, 2, 3, 4] rfl (l_comes (d) (σ0 := σ) (r := r) (to := to) (C0 := (cw (σ.2.1 49) (31824 * r) 31824 : Int)) (by omega) hR (by omega) hbo hsc (fun w24 n125 σ26 F18 R19 f20 f21 f22 f23 => ?_) _ (1) (0) σ Fr.rfl hR (by omega) hss (by omega) (fun e n a c => hun to (by omega) (by omega) e n a c) (fun y _ => rfl) rfl)
    show Tm _ _ 304 b σ26 [(4, .int (iI n125)), (3, .int (iI w24)), (0, .ref b), (1, .int (iI r)), (2, .int (iI to))] [] _
    refine tm_aload_n dX12_comes_304 rfl 2 rfl ?_
    refine tm_get (k := 47) (v := .ref (b + 1 + 25)) lay_12 dX12_comes_305 (by decide) fl12_91 rfl ?_
    refine tm_iload_n dX12_comes_308 rfl 4 rfl ?_
    refine tm_iconst dX12_comes_309 ?_
    refine tm_zast (z := to) (v := 1) dX12_comes_310 (show mT[25]? = some (47, 2, 221) from rfl) (by omega) (by omega) (by decide) (by omega) ?_
    refine tm_iload_n dX12_comes_311 rfl 1 rfl ?_
    exact tm_zret (v := w24) rfl (by omega) dX12_comes_312 (⟨_, rfl, by omega, ((Fr.rfl.trans (Fr.sub F18 (by decide) (by decide) (by decide))).A (by decide)), (R19.A (by omega)), BO.A (hbo.fr F18 (by decide)) (by omega), SSA.fr f21 ((Fr.rfl (ss := []) (ks := [47]) (js := [])).A (by decide)) (by decide), fun k a c e n g i => by
      by_cases q : k = to
      · subst q; exact absurd (e.symm.trans ra_eq) (by decide)
      · have e2 : σ.2.1 47 k = 0 := by rw [← F18.2.1 47 (by decide)]; exact (ra_ne q rfl).symm.trans e
        exact ra_o (by decide) ((f23 _ (by omega)).trans (hun k a c e2 n g i)), by
      have e9 : cw ((sA 47 to 1 σ26).2.1 49) (31824 * r) 31824 = cw (σ26.2.1 49) (31824 * r) 31824 := rfl
      have e8 := cz_fr (n := 221) F18 (k := 47) (by decide)
      have e7 : σ26.2.1 47 to = σ.2.1 47 to := by rw [F18.2.1 47 (by decide)]
      rcases hbo to with e | e
      · have := cz_sA (σ := σ26) (k := 47) (n := 221) (z := to) (v := 1) (by omega) (by omega) (by omega) (by decide)
        omega
      · have e6 : cz ((sA 47 to 1 σ26).2.1 47) 221 = cz (σ26.2.1 47) 221 := cz_ext _ (fun j a c => by
          by_cases q : j = to
          · subst q; rw [e7, e]; exact ra_eq
          · exact ra_ne q rfl)
        omega, ra_eq, fun k e => by
      by_cases q : k = to
      · subst q; exact ra_eq
      · exact ra_ne q (by rw [F18.2.1 47 (by decide)]; exact e)⟩)
