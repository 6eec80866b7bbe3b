/-! start, run, printed: both alike -/
section START7
variable {T : CT} {σ σ2 τ τ2 : MS} {a xa xb xc xd xe xf y : Nat} {C : Int → Nat} {x v v2 w i u0 u1 u2 u3 : Int}
theorem start7 (hw : RWF T σ a xa xb xc xd xe xf y C τ) (gx : GDX τ) (hb : JBG T σ a xa xb xc xd xe y x u0 u1 u2 u3 σ2) (fr : Fr [0, 67, 68, 69, 70] [73, 74, 75, 76, 78, 79, 80, 81, 82] [] τ τ2) (hs : STS τ x u0 u1 u2 u3 1 τ2) : L7R σ2 a xa xb xc xd xe xf C τ2 := by
  rcases hs with ⟨h, -⟩ | ⟨-, x0, ⟨t67, t68, t69, t70⟩, ⟨t73, ⟨t78, t79, t80⟩, t76⟩, ⟨m82, m81, m75, -⟩⟩
  · omega
  obtain ⟨s0, oc, pw⟩ := hb
  have t6 := gx.1.1
  obtain ⟨s, es⟩ : ∃ s, s = sA 68 a 0 (sA 67 a 0 (sA 66 a 0 (sA 65 a 0 (sA 58 a 0 (sA 56 a 1 σ))))) := ⟨_, rfl⟩
  rw [← es] at oc
  have chs : CHX (RNL a) [xa, xb, xc, xd, xe, xf] [] σ s := by
    rw [es]
    exact (((((CHX.rfl.fld (by simp) (by decide)).fld (by simp) (by decide)).fld (by simp) (by decide)).fld (by simp) (by decide)).fld (by simp) (by decide)).fld (by simp) (by decide)
  have s58 : s.2.1 58 a = 0 := by rw [es, sA_k (by decide), sA_k (by decide), sA_k (by decide), sA_k (by decide)]; exact ra_eq
  have s56 : s.2.1 56 a = 1 := by rw [es, sA_k (by decide), sA_k (by decide), sA_k (by decide), sA_k (by decide), sA_k (by decide)]; exact ra_eq
  have s65 : s.2.1 65 a = 0 := by rw [es, sA_k (by decide), sA_k (by decide), sA_k (by decide)]; exact ra_eq
  have s67 : s.2.1 67 a = 0 := by rw [es, sA_k (by decide)]; exact ra_eq
  have s68 : s.2.1 68 a = 0 := by rw [es]; exact ra_eq
  have hws := hw.chx chs
  have on := JOC.of hws (by omega) (by decide) (by omega) oc
  have ks : CHX (RNL a) [xa, xb, xc, xd, xe, xf] [] s s0 := CHX.sub on.2.2.2.2.2.2 (by simp) (by simp) (by simp)
  have gq := gx.1.2 x x0.1 x0.2
  have pq := gx.2.1 x x0.1 (by omega)
  have pc := JPW.of (hws.chx ks) gq x0 (by decide) on.1.1 on.1.2.2 rfl pq pw
  have fl : ∀ f : Nat, f < 1000 → f ≠ 57 → f ≠ 58 → f ≠ 69 → σ2.2.1 f (a : Int) = s.2.1 f a := fun f f0 f1 f2 f3 => by
    rw [pc.2.1 f a f0 (fun z hz => by simp at hz)]
    exact on.2.2.2.2.2.2.1 f a f0 (fun z hz e => by
      simp only [List.mem_cons, List.not_mem_nil, or_false] at hz
      rcases hz with z | z | z <;> rw [z] at e <;> omega)
  have d16 : prm τ 0 x 0 = -1 := by
    show (if (0 : Int) = 2 then -1 else τ.2.1 16 (12 * x + 0)) = -1
    rw [if_neg (by decide)]
    exact gq.2.2.2.2.2.2.1.1
  have hd : dpt τ2 0 = 1 := by
    rw [dpt_dsum, t73]
    show 0 + dp τ2 0 (τ2.2.1 78 (9 * 0 + ((0 : Nat) : Int))) (τ2.2.1 80 (9 * 0 + ((0 : Nat) : Int))) = 1
    rw [show (9 : Int) * 0 + ((0 : Nat) : Int) = 0 by decide, t78, t80, dp_fr fr (by decide), dp_0 ((gx.1.bka (by decide)).2 x x0.1 x0.2)]
    rfl
  have fr0 : Fr [0, 67, 68, 69, 70] [73, 74, 75, 76, 78, 79, 80, 81, 82] [] (sA 73 0 0 τ) τ2 := ⟨fun k h => fr.1 k h, fun k h => by rw [fr.2.1 k h, sA_k (by intro z; subst z; exact h (by decide))], fun k h => fr.2.2 k h⟩
  have rx : RXC σ2 a xa xb xc xd xe C τ2 := by
    unfold DX at *
    refine RXC.push' (τ := sA 73 0 0 τ) (N := 0) ra_eq.symm (by decide) (fun c c0 c1 => by omega) on pc.2 hw.1 (by
        funext u f
        unfold prm
        rw [fr.2.1 16 (by decide), sA_k (by decide)]) (by rw [t73]; rfl) ⟨t78, t79, t80⟩ (fun c c0 c1 => by omega) ⟨fun j j0 j1 => by omega, by have z := m81 0 (by decide) (by decide); exact z⟩ (fun j j0 j1 => by omega) (fun j j0 j1 => by omega) (fun g g0 g1 => ?_) (by
        show (if (0 : Int) = 2 then -1 else (sA 73 0 0 τ).2.1 16 (12 * x + 0)) = -1
        rw [sA_k (by decide)]
        exact d16) (by rw [s58, hd]; rfl)
    rw [pc.1 _, if_pos (by omega), show (192 : Int) * 0 + g = 192 * (9 * 0) + g by omega, m82 g g0 g1, show (0 : Int) * 192 + g - 0 * 192 = g by omega]
    refine pwR_c (fun i i0 i1 => ⟨?_, rfl⟩) ?_
    · show τ.2.1 18 (144 * x + i) = hmP τ 0 x i
      unfold hmP
      rw [if_neg (by decide)]
    · show s0.2.1 (1000 + xe) (0 * 192 + g) = 0
      rw [on.2.2.2.2.2.1 _, if_pos (by omega)]
  refine Or.inr ⟨by omega, ⟨by rw [fl 65 (by decide) (by decide) (by decide) (by decide), s65, t76], fun i i0 i1 i2 => by omega, by rw [fl 68 (by decide) (by decide) (by decide) (by decide), s68, m75]⟩, by rw [fl 67 (by decide) (by decide) (by decide) (by decide), s67, t70], Or.inl ⟨by rw [fl 56 (by decide) (by decide) (by decide) (by decide)]; exact s56, t68, t69, rx⟩⟩
theorem run7 (h : L7R σ a xa xb xc xd xe xf C τ) (lb : (T xb).2 = 9) (hc : RNB T σ a xb w v) (hm : RNA τ w v2) : v = v2 := by
  rcases h with ⟨h1, h2⟩ | ⟨h1, hq, hg, h⟩
  · rcases hc with c | c
    · rcases hm with m | m
      · omega
      · have := m.1; omega
    · have := c.1; omega
  · have q1 := hq.1
    have q3 := hq.2.2
    have hm := (hm.resolve_left (fun m => h1 m.1)).2
    have hs : σ.2.1 56 a ≠ 0 := by rcases h with h | h | h <;> (have := h.1; omega)
    have hc := (hc.resolve_left (fun c => hs c.1)).2
    have pl : σ.2.1 56 a ≠ 2 → σ.2.1 58 a = dpt τ 0 ∧ jA T xb (σ.2.1 57 a) σ = τ.2.1 79 (τ.2.1 73 0 - 1) ∧ τ.1 68 = 0 := fun z => by
      have k : τ.1 68 = 0 ∧ RXC σ a xa xb xc xd xe C τ := by
        rcases h with h | h | h
        · exact ⟨h.2.1, h.2.2.2⟩
        · exact ⟨h.2.1, h.2.2.2⟩
        · exact absurd h.1 z
      have h73 := k.2.1.1
      have h57 := k.2.1.2
      refine ⟨k.2.2.1, ?_, k.1⟩
      rw [h57, jA_in (by omega)]
      exact (k.2.2.2.2 _ (by omega) (by omega)).1.2.1
    have ov : σ.2.1 56 a = 2 → τ.1 68 ≠ 0 ∧ σ.2.1 58 a = 0 := fun z => by
      rcases h with h | h | h
      · have := h.1; omega
      · have := h.1; omega
      · exact ⟨h.2.1, h.2.2.2⟩
    have fa : σ.2.1 56 a = 3 ↔ τ.1 69 ≠ 0 := by
      rcases h with h | h | h
      · have := h.1; have := h.2.2.1; omega
      · have := h.1; have := h.2.2.1; omega
      · have := h.1; have := h.2.2.1; omega
    by_cases e2 : σ.2.1 56 a = 2
    · have k := ov e2
      rcases hc with c | c | c | c | c | c | c | c | c <;> rcases hm with m | m | m | m | m | m | m | m | m | m <;> omega
    · have k := pl e2
      rcases hc with c | c | c | c | c | c | c | c | c <;> rcases hm with m | m | m | m | m | m | m | m | m | m <;> omega
theorem prin7 (h : L7R σ a xa xb xc xd xe xf C τ) (lf : (T xf).2 = 200) (hc : PRB T σ a xf i v) (hm : PRA τ i v2) : v = v2 := by
  rcases h with ⟨h1, h2⟩ | ⟨h1, hq, hg, h⟩
  · rcases hc with c | c
    · have := c.1.1; omega
    · rcases hm with m | m
      · have := m.1.1; omega
      · omega
  · have hs : σ.2.1 56 a ≠ 0 := by rcases h with h | h | h <;> (have := h.1; omega)
    have q1 := hq.1
    rcases hm with ⟨m1, m2⟩ | ⟨m1, m2⟩
    · rcases hc with ⟨c1, c2⟩ | ⟨c1, c2⟩
      · rw [c2, m2, jA_in (by omega)]
        exact hq.2.1 i m1.2.1 m1.2.2.1 m1.2.2.2
      · exact absurd ⟨hs, m1.2.1, by omega⟩ c1
    · rcases hc with ⟨c1, c2⟩ | ⟨c1, c2⟩
      · have n2 : ¬ i < 200 := fun z => m1 ⟨h1, c1.2.1, z, by omega⟩
        rw [c2, m2]
        unfold jA
        rw [if_neg (by omega)]
      · omega
end START7

