theorem LNP.vw0 {ρ σ : MS} (h : LNP 0 ρ σ) : vw σ = vw ρ := by
  obtain ⟨-, -, f, -, e, -⟩ := h
  have e34 : σ.1 34 = ρ.1 34 := by omega
  unfold vw tks xs
  rw [sv_fr f (by decide) (by decide), f.1 19 (by decide), f.1 20 (by decide), f.1 22 (by decide), f.1 23 (by decide), f.1 28 (by decide), f.1 29 (by decide), e34, f.2.2 24 (by decide)]
theorem LNP.px {ρ σ : MS} (h : LNP 0 ρ σ) : PXx σ = PXx ρ := by
  obtain ⟨-, -, f, -, e, -⟩ := h
  have e34 : σ.1 34 = ρ.1 34 := by omega
  unfold PXx
  rw [f.1 25 (by decide), f.1 30 (by decide), e34]
theorem LNP.line {ρ σ τ : MS} (h : LNP 0 ρ σ) (f : Fr [34] [3, 4, 5, 6, 7, 8] [] σ τ) (e : τ.1 34 = σ.1 34 + 1) (pb : PBF σ τ) : LNP 1 ρ τ := by
  obtain ⟨h1, h2, h3, h4, h5, h6⟩ := h
  refine ⟨h1, h2, h3.trans (Fr.sub f (by decide) (by decide) (by decide)), h4.trans pb, ⟨by omega, ?_⟩, h6⟩
  rw [f.1 31 (by decide)]
  exact h5.2
theorem LNP.lin {ρ σ : MS} {k : Nat} (h : LNP 1 ρ σ) (g : GOS [20] ρ (0, 0) [51, k] ρ (0, 0) []) : GOS [20] ρ (0, 0) [k] σ (0, 0) [] := g.then ((g51 (CHG.put h.2.2.1 (by decide) (by decide) (by decide) h.2.2.2.2.1.1) : GOS [51] ρ (0, 0) [] σ (0, 0) []).more [k])
theorem GOS.at0 {ρ σ : MS} {k : Nat} (h : LNP 0 ρ σ) (g : GOS [20] ρ (0, 0) [k] ρ (0, 0) []) : GOS [20] ρ (0, 0) [k] σ (0, 0) [] := g.last h.vw0

