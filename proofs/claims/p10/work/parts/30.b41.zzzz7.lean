/-! RETURN, and one step as a whole -/
section RET7
variable {T : CT} {σ σ2 s0 τ τ2 : MS} {a xa xb xc xd xe xf y : Nat} {C : Int → Nat} {t r p q c n u v : Int}
theorem run_c (hr : RUN τ 0) (c0 : 0 ≤ c) (c1 : c < τ.2.1 73 0) : (0 ≤ τ.2.1 78 c ∧ τ.2.1 78 c < τ.1 10) ∧ (0 ≤ τ.2.1 79 c ∧ τ.2.1 79 c < τ.2.1 9 (τ.2.1 78 c)) ∧ 0 ≤ τ.2.1 80 c ∧ τ.2.1 80 c < τ.2.1 14 (τ.2.1 78 c) := by
  have h := hr.2.1 c (by omega) (by omega)
  have h2 := h.2.1
  rw [b0] at h2
  have h3 := h.rng
  have e : fm τ 0 (τ.2.1 78 c) = τ.2.1 14 (τ.2.1 78 c) := if_neg (by decide)
  rw [e] at h3
  exact ⟨h.1, h2, h3⟩
theorem par7 (hc : RCX T σ τ a xa xb xc xd xe xf (C r) r) {f : Int} (f0 : 0 ≤ f) (f1 : f < τ.2.1 14 r) : rwF σ 12 (C r) f = τ.2.1 16 (12 * r + f) := by
  have e := hc.2.1.1
  have eF : σ.2.1 10 (C r) = τ.2.1 14 r := congrArg RTS.F e
  have ei := congrFun (congrArg RTS.fi e) f
  have ei : (if 0 ≤ f ∧ f < σ.2.1 10 (C r) then rwF σ 12 (C r) f else 0) = (if 0 ≤ f ∧ f < τ.2.1 14 r then τ.2.1 16 (12 * r + f) else 0) := ei
  rw [if_pos ⟨f0, by omega⟩, if_pos ⟨f0, f1⟩] at ei
  exact ei
theorem jCV.of (hx : RXC σ a xa xb xc xd xe C τ) (hw : RWF T σ a xa xb xc xd xe xf y C τ) (gd : GDA τ) (hr : RUN τ 0) (c0 : 0 ≤ c) (c1 : c < τ.2.1 73 0) : jCV T σ xa xc y c = dp τ 0 (τ.2.1 78 c) (τ.2.1 80 c) := by
  have h73 := hx.1.1
  have l := hw.2.1
  have rc := run_c hr c0 c1
  have t6 := gd.1
  have k := (hx.2.2.2 c c0 c1).1
  have hc := hw.2.2.2 _ rc.1.1 rc.1.2
  have ea : jA T xa c σ = τ.2.1 78 c := by rw [jA_in (by omega)]; exact k.1
  have ec : jC σ y (τ.2.1 78 c) = (C (τ.2.1 78 c) : Int) := by unfold jC; rw [if_pos (by omega)]; exact hw.2.2.1.1 _ rc.1.1 (by omega)
  have ef : jA T xc c σ = τ.2.1 80 c := by rw [jA_in (by omega)]; exact k.2.2
  unfold jCV
  rw [ea, ec, if_neg (by omega), ef, show ((C (τ.2.1 78 c) : Int)).toNat = C (τ.2.1 78 c) from rfl]
  have gr := gd.2 _ rc.1.1 rc.1.2
  have fi := gr.2.2.2.2.2.2.1
  have F12 := gr.2.1.1
  have l12 := hc.2.2.2.2.1.2.1
  have pm : ∀ f, prm τ 0 (τ.2.1 78 c) f = τ.2.1 16 (12 * τ.2.1 78 c + f) := fun f => if_neg (by decide)
  rw [jL_ch (Q := prm τ 0 (τ.2.1 78 c)) (F := τ.2.1 14 (τ.2.1 78 c)) (by omega) (fun f f0 f1 => by
      rw [pm]
      by_cases z : f = 0
      · rw [z, fi.1]; omega
      · have := fi.2 f (by omega) f1; omega) (by rw [pm]; exact fi.1) (fun f f0 f1 => by rw [pm]; exact (fi.2 f f0 f1).1) (fun f f0 f1 => by
      show jA T (adN σ 12 (C (τ.2.1 78 c))) f σ = _
      rw [jA_in (by omega), pm]
      exact par7 hc (by omega) f1) 12 (τ.2.1 80 c) 1 rc.2.2.1 rc.2.2.2 (by omega) (by decide) (by omega)]
  show 1 - 1 + ch (prm τ 0 (τ.2.1 78 c)) 13 (τ.2.1 80 c) = ch (prm τ 0 (τ.2.1 78 c)) 13 (τ.2.1 80 c)
  omega
/-- the top call goes -/
theorem RXC.pop (hx : RXC σ a xa xb xc xd xe C τ) (h2 : 2 ≤ τ.2.1 73 0) : RXC (sA 69 a (C (τ.2.1 78 (τ.2.1 73 0 - 2)) : Int) (sA 57 a (τ.2.1 73 0 - 2) (sA 58 a (σ.2.1 58 a - dp τ 0 (τ.2.1 78 (τ.2.1 73 0 - 1)) (τ.2.1 80 (τ.2.1 73 0 - 1))) σ))) a xa xb xc xd xe C (sA 73 0 (τ.2.1 73 0 - 1) τ) := by
  obtain ⟨h1, h58, h3, h4⟩ := hx
  have fr : Fr [] [73] [] τ (sA 73 0 (τ.2.1 73 0 - 1) τ) := Fr.rfl.A (by decide)
  have e73 : (sA 73 0 (τ.2.1 73 0 - 1) τ).2.1 73 0 = τ.2.1 73 0 - 1 := ra_eq
  have hd := dpt_pop fr (by decide) (by omega) e73 (fun c _ _ => ⟨rfl, rfl⟩)
  refine ⟨⟨by rw [e73]; omega, ?_⟩, ?_, ?_, fun c x0 x1 => ?_⟩
  · rw [sA_k (by decide), ra_eq, e73]; omega
  · rw [sA_k (by decide), sA_k (by decide), ra_eq]; omega
  · rw [ra_eq, e73, show τ.2.1 73 0 - 1 - 1 = τ.2.1 73 0 - 2 by omega]; rfl
  · rw [e73] at x1
    rw [sA_k (by omega), sA_k (by omega), sA_k (by omega), sA_k (show 1000 + xb ≠ 69 by omega), sA_k (show 1000 + xb ≠ 57 by omega), sA_k (show 1000 + xb ≠ 58 by omega), sA_k (show 1000 + xc ≠ 69 by omega), sA_k (show 1000 + xc ≠ 57 by omega), sA_k (show 1000 + xc ≠ 58 by omega), sA_k (show 1000 + xd ≠ 69 by omega), sA_k (show 1000 + xd ≠ 57 by omega), sA_k (show 1000 + xd ≠ 58 by omega), sA_k (show 1000 + xe ≠ 69 by omega), sA_k (show 1000 + xe ≠ 57 by omega), sA_k (show 1000 + xe ≠ 58 by omega)]
    exact h4 c x0 (by omega)
theorem sim_ret (hx : RXC σ a xa xb xc xd xe C τ) (hq : RPQ σ a xf τ) (hw : RWF T σ a xa xb xc xd xe xf y C τ) (gd : GDA τ) (hr : RUN τ 0) (ht : t = τ.2.1 73 0 - 1) (h : JGB T σ a xa xb xc xe y n σ2) (hs : RTX τ 0 t n u τ2) : (u = 2 ∧ (σ2.2.1 56 a = 2 ∧ σ2.2.1 58 a = 0 ∧ σ2.2.1 67 a = σ.2.1 67 a) ∧ RPQ σ2 a xf τ2) ∨ (u = 0 ∧ (σ2.2.1 56 a = σ.2.1 56 a ∧ σ2.2.1 67 a = σ.2.1 67 a) ∧ RXC σ2 a xa xb xc xd xe C τ2 ∧ RPQ σ2 a xf τ2) := by
  have h73 := hx.1.1
  have h57 := hx.1.2
  have h58 := hx.2.1
  have dd := hr.2.2.2
  have dg := hr.ge
  have d := hw.1
  have l := hw.2.1
  unfold DX at d
  have ev := jCV.of hx hw gd hr (c := t) (by omega) (by omega)
  have dp1 : 0 ≤ dp τ 0 (τ.2.1 78 t) (τ.2.1 80 t) ∧ dp τ 0 (τ.2.1 78 t) (τ.2.1 80 t) ≤ 13 := ch_rng 13 _
  unfold JGB at h
  rw [h57, ← ht, ev, w32_id (by omega)] at h
  rcases h with ⟨z, e⟩ | ⟨z, w, s, s1, es, jw, m, e⟩
  · refine Or.inl ?_
    rcases hs with ⟨e1, -, e2⟩ | ⟨-, e2, -⟩
    · rw [e, e2]
      refine ⟨e1, ⟨?_, ra_eq, ?_⟩, ?_, ?_, ?_⟩
      · rw [sA_k (by decide), sA_k (by decide)]; exact ra_eq
      · rw [sA_k (by decide), sA_k (by decide), sA_k (by decide), sA_k (by decide)]
      · rw [sA_k (by decide), sA_k (by decide), sA_k (by decide), sA_k (by decide)]; exact hq.1
      · rw [sA_k (by omega), sA_k (by omega), sA_k (by omega), sA_k (by omega), sA_k (by omega), sA_k (by omega)]; exact hq.2.1
      · rw [sA_k (by decide), ra_eq]; exact ra_eq.symm
    · omega
  · refine Or.inr ?_
    rcases hs with ⟨-, e2, -⟩ | ⟨e1, e2, e3⟩
    · clear m e es jw
      omega
    have rc := run_c hr (c := t - 1) (by omega) (by omega)
    have t6 := gd.1
    have k1 := (hx.2.2.2 (t - 1) (by omega) (by omega)).1
    have ea : jA T xa (t - 1) (sA 57 a (t - 1) (sA 58 a (σ.2.1 58 a - dp τ 0 (τ.2.1 78 t) (τ.2.1 80 t)) σ)) = τ.2.1 78 (t - 1) := by
      rw [jA_in (by omega), sA_k (by omega), sA_k (by omega)]; exact k1.1
    have ec : jC (sA 57 a (t - 1) (sA 58 a (σ.2.1 58 a - dp τ 0 (τ.2.1 78 t) (τ.2.1 80 t)) σ)) y (τ.2.1 78 (t - 1)) = (C (τ.2.1 78 (t - 1)) : Int) := by
      unfold jC
      rw [if_pos (by omega), sA_k (by omega), sA_k (by omega)]
      exact hw.2.2.1.1 _ rc.1.1 (by omega)
    rw [ea, ec] at jw
    have ew : w = (C (τ.2.1 78 (t - 1)) : Int) := by
      rcases jw with e | ⟨e, -⟩
      · exact e
      · omega
    subst ew
    have m := m.resolve_left (fun z => by have := z.1; omega)
    obtain ⟨cc, x, m1, m2, m3⟩ := m
    have ecc : cc = C (τ.2.1 78 (t - 1)) := by omega
    subst ecc
    have px := hx.pop (by omega)
    rw [show τ.2.1 73 0 - 2 = t - 1 by omega, ← ht, ← es] at px
    have chs : CHX (RNL a) [xa, xb, xc, xd, xe, xf] [] σ s := by
      rw [es]
      exact ((CHX.rfl.fld (by simp) (by decide)).fld (by simp) (by decide)).fld (by simp) (by decide)
    have hws := hw.chx chs
    have hc := hws.2.2.2 _ rc.1.1 rc.1.2
    have s57 : s.2.1 57 a = t - 1 := by rw [es, sA_k (by decide)]; exact ra_eq
    have sb : s.2.1 (1000 + xb) = σ.2.1 (1000 + xb) := by rw [es, sA_k (by omega), sA_k (by omega), sA_k (by omega)]
    have s5 : s.2.1 5 (C (τ.2.1 78 (t - 1)) : Int) = σ.2.1 5 (C (τ.2.1 78 (t - 1))) := by rw [es, sA_k (by decide), sA_k (by decide), sA_k (by decide)]
    have ex : x = adN s 5 (C (τ.2.1 78 (t - 1))) := (adN_of (s5.trans m2)).symm
    subst ex
    have kk := hr.2.2.1 (t - 1) (by omega) (by omega)
    unfold kdm at kk
    rw [b0] at kk
    have c0 : cdW s (C (τ.2.1 78 (t - 1))) (τ.2.1 79 (t - 1)) 0 = τ.2.1 3 (220 * τ.2.1 78 (t - 1) + τ.2.1 79 (t - 1)) := hc.cel rc.2.1.1 rc.2.1.2 (by decide) (by decide)
    have c1 : cdW s (C (τ.2.1 78 (t - 1))) (τ.2.1 79 (t - 1)) 1 = τ.2.1 4 (220 * τ.2.1 78 (t - 1) + τ.2.1 79 (t - 1)) := hc.cel rc.2.1.1 rc.2.1.2 (by decide) (by decide)
    have d1 := (hc.2.2.1.1 _ rc.2.1.1 (by rw [hc.n]; exact rc.2.1.2)).2.1 (Or.inr (by rw [c0]; exact kk))
    rw [c1] at d1
    rw [s57, jA_in (by omega), sb, k1.2.1, hc.g rc.2.1.1 rc.2.1.2 (by decide), c1, w32_id (by omega), jP_in (by omega)] at m3
    have gr := gd.2 _ rc.1.1 rc.1.2
    have n200 := gr.1
    have s1b : s1.2.1 (1000 + xb) = σ.2.1 (1000 + xb) := by rw [m3, sA_k (by omega), sb]
    have s157 : s1.2.1 57 a = t - 1 := by rw [m3, sA_k (by omega), s57]
    rw [s157, jA_in (by omega), s1b, k1.2.1, w32_id (by omega), jP_in (by omega)] at e
    rw [b0] at e3
    have px2 := px.reg (xf := xf) (t := t - 1) (v := n) d d1
    rw [← m3] at px2
    have px3 := px2.place (xf := xf) (t := t - 1) (p := τ.2.1 79 (t - 1) + 1) d (by
      show t - 1 = (sA 82 _ _ (sA 73 0 t τ)).2.1 73 0 - 1
      rw [sA_k (by decide), ra_eq])
    have e4 : τ2 = sA 79 (t - 1) (τ.2.1 79 (t - 1) + 1) (sA 82 (192 * (t - 1) + τ.2.1 4 (220 * τ.2.1 78 (t - 1) + τ.2.1 79 (t - 1))) n (sA 73 0 t τ)) := by rw [e3, ht]
    rw [e, e4]
    refine ⟨e1, ⟨?_, ?_⟩, px3, hq.cg ⟨?_, ?_, ?_⟩ ⟨?_, ?_, ?_⟩⟩
    · rw [sA_k (by omega), m3, sA_k (by omega), es, sA_k (by decide), sA_k (by decide), sA_k (by decide)]
    · rw [sA_k (by omega), m3, sA_k (by omega), es, sA_k (by decide), sA_k (by decide), sA_k (by decide)]
    · rw [sA_k (by omega), m3, sA_k (by omega), es, sA_k (by decide), sA_k (by decide), sA_k (by decide)]
    · rw [sA_k (by omega), m3, sA_k (by omega), es, sA_k (by decide), sA_k (by decide), sA_k (by decide)]
    · rw [sA_k (by omega), m3, sA_k (by omega), es, sA_k (by omega), sA_k (by omega), sA_k (by omega)]
    · rw [sA_k (by decide), sA_k (by decide), sA_k (by decide)]
    · rw [sA_k (by decide), sA_k (by decide), sA_k (by decide)]
    · rw [sA_k (by decide), sA_k (by decide), sA_k (by decide)]
end RET7

