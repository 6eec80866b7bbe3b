/-! class's run and reference's run, side by side -/
def inF (P : Int → Int) (f0 f : Int) : Prop := 0 ≤ f ∧ ∃ i : Nat, itU P i f0 = f
theorem inF.up {P : Int → Int} {d f : Int} (h : inF P (P d) f) (h0 : 0 ≤ d) : inF P d f := by
  obtain ⟨a, i, e⟩ := h
  refine ⟨a, i + 1, ?_⟩
  show (if d < 0 then d else itU P i (P d)) = f
  rw [if_neg (by omega)]
  exact e
theorem inF.dn {P : Int → Int} {d f : Int} (h : inF P d f) (h0 : 0 ≤ d) : f = d ∨ inF P (P d) f := by
  obtain ⟨a, i, e⟩ := h
  cases i with
  | zero => exact Or.inl e.symm
  | succ i =>
    have e : (if d < 0 then d else itU P i (P d)) = f := e
    rw [if_neg (by omega)] at e
    exact Or.inr ⟨a, i, e⟩
/-- rows of a run apart -/
def DX (xa xb xc xd xe xf : Nat) : Prop := (xa ≠ xb ∧ xa ≠ xc ∧ xa ≠ xd ∧ xa ≠ xe ∧ xa ≠ xf) ∧ (xb ≠ xc ∧ xb ≠ xd ∧ xb ≠ xe ∧ xb ≠ xf) ∧ (xc ≠ xd ∧ xc ≠ xe ∧ xc ≠ xf) ∧ (xd ≠ xe ∧ xd ≠ xf) ∧ xe ≠ xf
/-- calls alike -/
def RXC (σ : MS) (a xa xb xc xd xe : Nat) (C : Int → Nat) (τ : MS) : Prop :=
  ((1 ≤ τ.2.1 73 0 ∧ τ.2.1 73 0 ≤ 9) ∧ σ.2.1 57 a = τ.2.1 73 0 - 1) ∧ σ.2.1 58 a = dpt τ 0 ∧ σ.2.1 69 a = (C (τ.2.1 78 (τ.2.1 73 0 - 1)) : Int) ∧
  ∀ c, 0 ≤ c → c < τ.2.1 73 0 → (σ.2.1 (1000 + xa) c = τ.2.1 78 c ∧ σ.2.1 (1000 + xb) c = τ.2.1 79 c ∧ σ.2.1 (1000 + xc) c = τ.2.1 80 c) ∧ (∀ g, 0 ≤ g → g < 192 → σ.2.1 (1000 + xe) (c * 192 + g) = τ.2.1 82 (192 * c + g)) ∧ ∀ f, f < 12 → inF (prm τ 0 (τ.2.1 78 c)) (τ.2.1 80 c) f → σ.2.1 (1000 + xd) (c * 12 + f) = τ.2.1 81 (12 * c + f)
section RXS
variable {σ σ2 τ : MS} {a xa xb xc xd xe xf : Nat} {C : Int → Nat}
theorem RXC.cg (h : RXC σ a xa xb xc xd xe C τ) (e : σ2.2.1 57 a = σ.2.1 57 a ∧ σ2.2.1 58 a = σ.2.1 58 a ∧ σ2.2.1 69 a = σ.2.1 69 a) (r : σ2.2.1 (1000 + xa) = σ.2.1 (1000 + xa) ∧ σ2.2.1 (1000 + xb) = σ.2.1 (1000 + xb) ∧ σ2.2.1 (1000 + xc) = σ.2.1 (1000 + xc) ∧ σ2.2.1 (1000 + xd) = σ.2.1 (1000 + xd) ∧ σ2.2.1 (1000 + xe) = σ.2.1 (1000 + xe)) : RXC σ2 a xa xb xc xd xe C τ := by
  unfold RXC
  rw [e.1, e.2.1, e.2.2, r.1, r.2.1, r.2.2.1, r.2.2.2.1, r.2.2.2.2]
  exact h
theorem RXC.fld {n : Nat} {v : Int} (h : RXC σ a xa xb xc xd xe C τ) (hn : n ≠ 57 ∧ n ≠ 58 ∧ n ≠ 69 ∧ n < 1000) : RXC (sA n a v σ) a xa xb xc xd xe C τ :=
  h.cg ⟨by rw [sA_k (by omega)], by rw [sA_k (by omega)], by rw [sA_k (by omega)]⟩ ⟨sA_k (by omega), sA_k (by omega), sA_k (by omega), sA_k (by omega), sA_k (by omega)⟩
/-- the reference's state where only fields that calls do not show change -/
theorem RXC.tc {τ2 : MS} (h : RXC σ a xa xb xc xd xe C τ) (e : τ2.2.1 73 = τ.2.1 73 ∧ τ2.2.1 78 = τ.2.1 78 ∧ τ2.2.1 79 = τ.2.1 79 ∧ τ2.2.1 80 = τ.2.1 80 ∧ τ2.2.1 81 = τ.2.1 81 ∧ τ2.2.1 82 = τ.2.1 82 ∧ τ2.2.1 16 = τ.2.1 16) : RXC σ a xa xb xc xd xe C τ2 := by
  have ed : dpt τ2 0 = dpt τ 0 := by unfold dpt dch pr; rw [e.1, e.2.1, e.2.2.2.1, e.2.2.2.2.2.2]
  have ep : prm τ2 0 = prm τ 0 := by funext r f; unfold prm; rw [e.2.2.2.2.2.2]
  unfold RXC
  rw [ed, ep, e.1, e.2.1, e.2.2.1, e.2.2.2.1, e.2.2.2.2.1, e.2.2.2.2.2.1]
  exact h
theorem RXC.place {t p : Int} (h : RXC σ a xa xb xc xd xe C τ) (d : DX xa xb xc xd xe xf) (ht : t = τ.2.1 73 0 - 1) : RXC (sA (1000 + xb) t p σ) a xa xb xc xd xe C (sA 79 t p τ) := by
  obtain ⟨h1, h2, h3, h4⟩ := h
  unfold DX at d
  refine ⟨⟨h1.1, by rw [sA_k (by omega)]; exact h1.2⟩, by rw [sA_k (by omega)]; exact h2, by rw [sA_k (by omega)]; exact h3, fun c x y => ?_⟩
  have q := h4 c x y
  rw [sA_k (show 1000 + xa ≠ 1000 + xb by omega), sA_k (show 1000 + xc ≠ 1000 + xb by omega), sA_k (show 1000 + xd ≠ 1000 + xb by omega), sA_k (show 1000 + xe ≠ 1000 + xb by omega)]
  refine ⟨⟨q.1.1, ?_, q.1.2.2⟩, q.2.1, q.2.2⟩
  by_cases z : c = t
  · rw [z, ra_eq, ra_eq]
  · rw [ra_ne z rfl, ra_ne z rfl]; exact q.1.2.1
theorem RXC.reg {t g v : Int} (h : RXC σ a xa xb xc xd xe C τ) (d : DX xa xb xc xd xe xf) (g0 : 0 ≤ g ∧ g < 192) : RXC (sA (1000 + xe) (t * 192 + g) v σ) a xa xb xc xd xe C (sA 82 (192 * t + g) v τ) := by
  obtain ⟨h1, h2, h3, h4⟩ := h
  unfold DX at d
  refine ⟨⟨h1.1, by rw [sA_k (by omega)]; exact h1.2⟩, by rw [sA_k (by omega)]; exact h2, by rw [sA_k (by omega)]; exact h3, fun c x y => ?_⟩
  have q := h4 c x y
  rw [sA_k (show 1000 + xa ≠ 1000 + xe by omega), sA_k (show 1000 + xb ≠ 1000 + xe by omega), sA_k (show 1000 + xc ≠ 1000 + xe by omega), sA_k (show 1000 + xd ≠ 1000 + xe by omega)]
  refine ⟨q.1, fun u u0 u1 => ?_, q.2.2⟩
  by_cases z : c * 192 + u = t * 192 + g
  · rw [z, ra_eq, show 192 * c + u = 192 * t + g by omega, ra_eq]
  · rw [ra_ne z rfl, ra_ne (show 192 * c + u ≠ 192 * t + g by omega) rfl]; exact q.2.1 u u0 u1
theorem RXC.line {t g v : Int} (h : RXC σ a xa xb xc xd xe C τ) (d : DX xa xb xc xd xe xf) : RXC (sA (1000 + xd) (t * 12 + g) v σ) a xa xb xc xd xe C (sA 81 (12 * t + g) v τ) := by
  obtain ⟨h1, h2, h3, h4⟩ := h
  unfold DX at d
  refine ⟨⟨h1.1, by rw [sA_k (by omega)]; exact h1.2⟩, by rw [sA_k (by omega)]; exact h2, by rw [sA_k (by omega)]; exact h3, fun c x y => ?_⟩
  have q := h4 c x y
  rw [sA_k (show 1000 + xa ≠ 1000 + xd by omega), sA_k (show 1000 + xb ≠ 1000 + xd by omega), sA_k (show 1000 + xc ≠ 1000 + xd by omega), sA_k (show 1000 + xe ≠ 1000 + xd by omega)]
  refine ⟨q.1, q.2.1, fun u u1 hu => ?_⟩
  by_cases z : c * 12 + u = t * 12 + g
  · rw [z, ra_eq, show 12 * c + u = 12 * t + g by omega, ra_eq]
  · rw [ra_ne z rfl, ra_ne (show 12 * c + u ≠ 12 * t + g by omega) rfl]; exact q.2.2 u u1 hu
/-- ENTER: the top call's frame becomes g, whose line is nought; g stands in the frame that was -/
theorem RXC.ent {t g : Int} (h : RXC σ a xa xb xc xd xe C τ) (d : DX xa xb xc xd xe xf) (ht : t = τ.2.1 73 0 - 1) (g0 : 0 ≤ g) (hp : prm τ 0 (τ.2.1 78 t) g = τ.2.1 80 t) (hd : dpt (sA 81 (12 * t + g) 0 (sA 80 t g τ)) 0 = dpt τ 0 + 1) : RXC (sA (1000 + xd) (t * 12 + g) 0 (sA (1000 + xc) t g (sA 58 a (σ.2.1 58 a + 1) σ))) a xa xb xc xd xe C (sA 81 (12 * t + g) 0 (sA 80 t g τ)) := by
  obtain ⟨h1, h2, h3, h4⟩ := h
  unfold DX at d
  refine ⟨⟨h1.1, ?_⟩, ?_, ?_, fun c x y => ?_⟩
  · rw [sA_k (by omega), sA_k (by omega), sA_k (by omega)]; exact h1.2
  · rw [sA_k (by omega), sA_k (by omega), ra_eq, hd, h2]
  · rw [sA_k (by omega), sA_k (by omega), sA_k (by omega)]; exact h3
  have q := h4 c x y
  rw [sA_k (show 1000 + xa ≠ 1000 + xd by omega), sA_k (show 1000 + xa ≠ 1000 + xc by omega), sA_k (show 1000 + xa ≠ 58 by omega), sA_k (show 1000 + xb ≠ 1000 + xd by omega), sA_k (show 1000 + xb ≠ 1000 + xc by omega), sA_k (show 1000 + xb ≠ 58 by omega), sA_k (show 1000 + xc ≠ 1000 + xd by omega), sA_k (show 1000 + xe ≠ 1000 + xd by omega), sA_k (show 1000 + xe ≠ 1000 + xc by omega), sA_k (show 1000 + xe ≠ 58 by omega)]
  have e80 : ∀ c, (sA 81 (12 * t + g) 0 (sA 80 t g τ)).2.1 80 c = if c = t then g else τ.2.1 80 c := fun c => by
    by_cases z : c = t
    · rw [if_pos z, z]; exact ra_o (by decide) ra_eq
    · rw [if_neg z]; exact ra_o (by decide) (ra_ne z rfl)
  refine ⟨⟨q.1.1, q.1.2.1, ?_⟩, q.2.1, fun u u1 hu => ?_⟩
  · rw [e80]
    by_cases z : c = t
    · rw [if_pos z, z]; exact ra_eq
    · rw [if_neg z, ra_ne z rfl, sA_k (show 1000 + xc ≠ 58 by omega)]; exact q.1.2.2
  · rw [e80] at hu
    by_cases z : c * 12 + u = t * 12 + g
    · rw [z, ra_eq, show 12 * c + u = 12 * t + g by omega, ra_eq]
    · rw [ra_ne z rfl, sA_k (show 1000 + xd ≠ 1000 + xc by omega), sA_k (show 1000 + xd ≠ 58 by omega), ra_ne (show 12 * c + u ≠ 12 * t + g by omega) rfl]
      refine q.2.2 u u1 ?_
      by_cases w : c = t
      · rw [if_pos w] at hu
        have hu : inF (prm τ 0 (τ.2.1 78 c)) g u := hu
        rcases hu.dn g0 with e | e
        · rw [w, e] at z; exact absurd rfl z
        · rw [w] at e ⊢
          rw [hp] at e
          exact e
      · rw [if_neg w] at hu; exact hu
/-- LEAVE: the top call's frame becomes the one that it stood in -/
theorem RXC.lea {t g : Int} (h : RXC σ a xa xb xc xd xe C τ) (d : DX xa xb xc xd xe xf) (ht : t = τ.2.1 73 0 - 1) (f0 : 0 ≤ τ.2.1 80 t) (hg : prm τ 0 (τ.2.1 78 t) (τ.2.1 80 t) = g) (hd : dpt (sA 80 t g τ) 0 = dpt τ 0 - 1) : RXC (sA (1000 + xc) t g (sA 58 a (σ.2.1 58 a - 1) σ)) a xa xb xc xd xe C (sA 80 t g τ) := by
  obtain ⟨h1, h2, h3, h4⟩ := h
  unfold DX at d
  refine ⟨⟨h1.1, ?_⟩, ?_, ?_, fun c x y => ?_⟩
  · rw [sA_k (by omega), sA_k (by omega)]; exact h1.2
  · rw [sA_k (by omega), ra_eq, hd, h2]
  · rw [sA_k (by omega), sA_k (by omega)]; exact h3
  have q := h4 c x y
  rw [sA_k (show 1000 + xa ≠ 1000 + xc by omega), sA_k (show 1000 + xa ≠ 58 by omega), sA_k (show 1000 + xb ≠ 1000 + xc by omega), sA_k (show 1000 + xb ≠ 58 by omega), sA_k (show 1000 + xd ≠ 1000 + xc by omega), sA_k (show 1000 + xd ≠ 58 by omega), sA_k (show 1000 + xe ≠ 1000 + xc by omega), sA_k (show 1000 + xe ≠ 58 by omega)]
  have e80 : ∀ c, (sA 80 t g τ).2.1 80 c = if c = t then g else τ.2.1 80 c := fun c => by
    by_cases z : c = t
    · rw [if_pos z, z]; exact ra_eq
    · rw [if_neg z]; exact ra_ne z rfl
  refine ⟨⟨q.1.1, q.1.2.1, ?_⟩, q.2.1, fun u u1 hu => ?_⟩
  · rw [e80]
    by_cases z : c = t
    · rw [if_pos z, z]; exact ra_eq
    · rw [if_neg z, ra_ne z rfl, sA_k (show 1000 + xc ≠ 58 by omega)]; exact q.1.2.2
  · rw [e80] at hu
    refine q.2.2 u u1 ?_
    by_cases w : c = t
    · rw [if_pos w] at hu
      have hu : inF (prm τ 0 (τ.2.1 78 c)) g u := hu
      rw [w] at hu ⊢
      rw [← hg] at hu
      exact hu.up f0
    · rw [if_neg w] at hu; exact hu
end RXS

