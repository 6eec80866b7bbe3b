/-! one step of both runs -/
theorem b0 {r : Int} : bkm 0 + r = r := by show (0 : Int) + r = r; omega
/-- prints and what was given back alike -/
def RPQ (σ : MS) (a xf : Nat) (τ : MS) : Prop := σ.2.1 65 a = τ.2.1 76 0 ∧ (∀ i, 0 ≤ i → i < 200 → i < τ.2.1 76 0 → σ.2.1 (1000 + xf) i = τ.2.1 77 i) ∧ σ.2.1 68 a = τ.2.1 75 0
theorem RPQ.cg {σ σ2 τ τ2 : MS} {a xf : Nat} (h : RPQ σ a xf τ) (e : σ2.2.1 65 a = σ.2.1 65 a ∧ σ2.2.1 68 a = σ.2.1 68 a ∧ σ2.2.1 (1000 + xf) = σ.2.1 (1000 + xf)) (f : τ2.2.1 76 = τ.2.1 76 ∧ τ2.2.1 77 = τ.2.1 77 ∧ τ2.2.1 75 = τ.2.1 75) : RPQ σ2 a xf τ2 := by
  unfold RPQ
  rw [e.1, e.2.1, e.2.2, f.1, f.2.1, f.2.2]
  exact h
def SIO (σ : MS) (a xa xb xc xd xe xf : Nat) (C : Int → Nat) (σ2 τ τ2 : MS) (u v : Int) : Prop :=
  (u = 3 ∧ v = 0 ∧ τ2 = τ ∧ σ2 = sA 56 a 3 σ) ∨
  (u = 2 ∧ v = 0 ∧ (σ2.2.1 56 a = 2 ∧ σ2.2.1 58 a = 0 ∧ σ2.2.1 67 a = σ.2.1 67 a + 1) ∧ RPQ σ2 a xf τ2) ∨
  ((u = 0 ∨ u = 1) ∧ v = u ∧ (σ2.2.1 56 a = 1 ∧ σ2.2.1 67 a = σ.2.1 67 a + 1) ∧ RXC σ2 a xa xb xc xd xe C τ2 ∧ RPQ σ2 a xf τ2)
section STEP7
variable {T : CT} {σ σ2 τ τ2 : MS} {a xa xb xc xd xe xf y : Nat} {C : Int → Nat} {t r p j v w g : Int}
/-- an operand -/
theorem JOP.w7 (hx : RXC σ a xa xb xc xd xe C τ) (hw : RWF T σ a xa xb xc xd xe xf y C τ) (ht : t = τ.2.1 73 0 - 1) (hr : r = τ.2.1 78 t) (r0 : 0 ≤ r ∧ r < τ.1 10) (p0 : 0 ≤ p ∧ p < τ.2.1 9 r) (j0 : 0 ≤ j ∧ j < 4) (k : τ.2.1 3 (220 * r + p) ≠ 12) (h : JOP T σ a xe p (3 + 2 * j) v) : v = wA τ t (220 * r + p) j := by
  obtain ⟨cc, x, e1, e2, h⟩ := h
  have hc := hw.2.2.2 r r0.1 r0.2
  have e69 := hx.2.2.1
  rw [← ht, ← hr] at e69
  have ecc : cc = C r := by omega
  subst ecc
  have ex : x = adN σ 5 (C r) := (adN_of e2).symm
  subst ex
  have l := hw.2.1
  have wk := hc.2.2.1.1 p p0.1 (by rw [hc.n]; exact p0.2)
  have a12 : cdW σ (C r) p (3 + 2 * j) = τ.2.1 7 (4 * (220 * r + p) + j) ∧ cdW σ (C r) p (4 + 2 * j) = τ.2.1 8 (4 * (220 * r + p) + j) := by
    have q : j = 0 ∨ j = 1 ∨ j = 2 ∨ j = 3 := by omega
    rcases q with z | z | z | z
    · subst z; exact ⟨hc.c3 p0.1 p0.2 k, hc.cel (e := 4) p0.1 p0.2 (by decide) (by decide)⟩
    · subst z; exact ⟨hc.cel (e := 5) p0.1 p0.2 (by decide) (by decide), hc.cel (e := 6) p0.1 p0.2 (by decide) (by decide)⟩
    · subst z; exact ⟨hc.cel (e := 7) p0.1 p0.2 (by decide) (by decide), hc.cel (e := 8) p0.1 p0.2 (by decide) (by decide)⟩
    · subst z; exact ⟨hc.cel (e := 9) p0.1 p0.2 (by decide) (by decide), hc.cel (e := 10) p0.1 p0.2 (by decide) (by decide)⟩
  rw [hc.g p0.1 p0.2 (by omega), hc.g p0.1 p0.2 (by omega), show 3 + 2 * j + 1 = 4 + 2 * j by omega] at h
  have w2 := (wk.2.2.1 j j0.1 j0.2).2
  rw [a12.1, a12.2] at h w2
  unfold wA wth
  rcases h with ⟨n, e⟩ | ⟨n, e⟩
  · rw [if_neg n]; exact e
  · have g2 := w2 n
    have h57 := hx.1.2
    have h73 := hx.1.1
    rw [if_pos n, e, h57, ← ht, w32_id (by omega), jA_in (by omega)]
    exact ((hx.2.2.2 t (by omega) (by omega)).2.1 _ g2.1 g2.2)
/-- behind it the next place -/
theorem RXC.nxt {s τ1 : MS} (hx : RXC s a xa xb xc xd xe C τ1) (d : DX xa xb xc xd xe xf) (l : (T xb).2 = 9) (ht : t = τ1.2.1 73 0 - 1) (hp : 0 ≤ p ∧ p ≤ 1000) : RXC (jP T xb t (w32 (p + 1)) s) a xa xb xc xd xe C (sA 79 t (p + 1) τ1) := by
  have h73 := hx.1.1
  rw [w32_id (by omega), jP_in (by omega)]
  exact hx.place d ht
/-- how an item's end is told -/
theorem sio_n {s τ1 : MS} {n : Int} (d : DX xa xb xc xd xe xf) (l : (T xb).2 = 9) (hx : RXC s a xa xb xc xd xe C τ1) (hq : RPQ s a xf τ1) (ht : t = τ1.2.1 73 0 - 1) (hn : 0 ≤ n ∧ n ≤ 2000) (e : s.2.1 56 a = 1 ∧ s.2.1 67 a = σ.2.1 67 a + 1) (hv : v = 0 ∨ v = 1) : SIO σ a xa xb xc xd xe xf C (jP T xb t n s) τ (sA 79 t n τ1) v v := by
  have h73 := hx.1.1
  unfold DX at d
  rw [jP_in (by omega)]
  refine Or.inr (Or.inr ⟨hv, rfl, ⟨by rw [sA_k (by omega)]; exact e.1, by rw [sA_k (by omega)]; exact e.2⟩, hx.place (xf := xf) d ht, hq.cg ⟨by rw [sA_k (by omega)], by rw [sA_k (by omega)], sA_k (by omega)⟩ ⟨sA_k (by decide), sA_k (by decide), sA_k (by decide)⟩⟩)
/-- pure items -/
theorem sim_pure {K : Int} {s1 : MS} (hx : RXC σ a xa xb xc xd xe C τ) (hq : RPQ σ a xf τ) (hw : RWF T σ a xa xb xc xd xe xf y C τ) (ht : t = τ.2.1 73 0 - 1) (hr : r = τ.2.1 78 t) (hp : p = τ.2.1 79 t) (r0 : 0 ≤ r ∧ r < τ.1 10) (p0 : 0 ≤ p ∧ p < τ.2.1 9 r) (pl : p ≤ 200) (e56 : σ.2.1 56 a = 1) (hK : K = τ.2.1 3 (220 * r + p)) (h5 : 0 ≤ K ∧ K ≤ 5) (h : JRK T σ a xe p K s1) :
    ∃ z, s1 = sA (1000 + xe) (t * 192 + τ.2.1 4 (220 * r + p)) z σ ∧ (0 ≤ τ.2.1 4 (220 * r + p) ∧ τ.2.1 4 (220 * r + p) < 192) ∧ ((K = 0 ∧ z = wA τ t (220 * r + p) 0) ∨ (1 ≤ K ∧ z = wkd K (wA τ t (220 * r + p) 0) (wA τ t (220 * r + p) 1))) := by
  rcases h with ⟨n, -⟩ | ⟨-, cc, x, u, b, e1, e2, hu, hb, e⟩
  · exact absurd h5 n
  have hc := hw.2.2.2 r r0.1 r0.2
  have e69 := hx.2.2.1
  rw [← ht, ← hr] at e69
  have ecc : cc = C r := by omega
  subst ecc
  have ex : x = adN σ 5 (C r) := (adN_of e2).symm
  subst ex
  have l := hw.2.1
  have wk := hc.2.2.1.1 p p0.1 (by rw [hc.n]; exact p0.2)
  have c0 : cdW σ (C r) p 0 = τ.2.1 3 (220 * r + p) := hc.cel p0.1 p0.2 (by decide) (by decide)
  have c1 : cdW σ (C r) p 1 = τ.2.1 4 (220 * r + p) := hc.cel p0.1 p0.2 (by decide) (by decide)
  have d1 := wk.2.1 (Or.inl (by rw [c0]; omega))
  rw [c1] at d1
  have h57 := hx.1.2
  have h73 := hx.1.1
  rw [hc.g p0.1 p0.2 (by decide), c1, h57, ← ht, w32_id (by omega), jP_in (by omega)] at e
  have eu := JOP.w7 (j := 0) hx hw ht hr r0 p0 (by decide) (by omega) hu
  refine ⟨_, e, d1, ?_⟩
  unfold rkn
  by_cases z : K = 0
  · refine Or.inl ⟨z, ?_⟩
    rw [if_neg (by omega)]; exact eu
  · refine Or.inr ⟨by omega, ?_⟩
    have eb := JOP.w7 (j := 1) hx hw ht hr r0 p0 (by decide) (by omega) ((hb.resolve_left (fun q => z q.1)).2)
    rw [if_pos (by omega), eu, eb]
/-- targets -/
theorem tgt7 (hc : RCX T σ τ a xa xb xc xd xe xf (C r) r) (un : UNQ (rV τ r) (τ.2.1 9 r)) (p0 : 0 ≤ p ∧ p < τ.2.1 9 r) (k : τ.2.1 3 (220 * r + p) = 8 ∨ τ.2.1 3 (220 * r + p) = 9) (j0 : 0 ≤ j ∧ j < τ.2.1 9 r) (h13 : τ.2.1 3 (220 * r + j) = 13) (h4 : τ.2.1 4 (220 * r + j) = τ.2.1 4 (220 * r + p)) : jG T σ (C r) (adN σ 5 (C r)) p 12 = j := by
  have c0 : cdW σ (C r) p 0 = τ.2.1 3 (220 * r + p) := hc.cel p0.1 p0.2 (by decide) (by decide)
  have c1 : cdW σ (C r) p 1 = τ.2.1 4 (220 * r + p) := hc.cel p0.1 p0.2 (by decide) (by decide)
  have i0 : cdW σ (C r) j 0 = τ.2.1 3 (220 * r + j) := hc.cel j0.1 j0.2 (by decide) (by decide)
  have i1 : cdW σ (C r) j 1 = τ.2.1 4 (220 * r + j) := hc.cel j0.1 j0.2 (by decide) (by decide)
  rw [hc.g p0.1 p0.2 (by decide)]
  have q := hc.2.2.1.2.1 p p0.1 (by rw [hc.n]; exact p0.2) (by rw [c0]; exact k)
  rw [c1, hc.n] at q
  rcases q with ⟨-, q⟩ | ⟨v0, ⟨v1, v2⟩, -⟩
  · exact absurd ⟨i0.trans h13, i1.trans h4⟩ (q j j0.1 j0.2)
  · have w0 : cdW σ (C r) (cdW σ (C r) p 12) 0 = τ.2.1 3 (220 * r + cdW σ (C r) p 12) := hc.cel v0.1 v0.2 (by decide) (by decide)
    have w1 : cdW σ (C r) (cdW σ (C r) p 12) 1 = τ.2.1 4 (220 * r + cdW σ (C r) p 12) := hc.cel v0.1 v0.2 (by decide) (by decide)
    refine un _ _ v0.1 v0.2 j0.1 j0.2 ?_ ?_ ?_
    · rw [rv_in v0.1 v0.2]; show τ.2.1 3 _ = 13; rw [← w0]; exact v1
    · rw [rv_in j0.1 j0.2]; exact h13
    · rw [rv_in v0.1 v0.2, rv_in j0.1 j0.2]; show τ.2.1 4 _ = τ.2.1 4 _; rw [← w1, v2]; exact h4.symm
end STEP7

