theorem LNP.vw0 {ρ σ : MS} (h : LNP 0 ρ σ) : vw σ = vw ρ := by
  obtain ⟨-, -, f, -, e, -⟩ := h
  have e34 : σ.1 34 = ρ.1 34 := by omega
  unfold vw tks xs
  rw [sv_fr f (by decide) (by decide), f.1 19 (by decide), f.1 20 (by decide), f.1 22 (by decide), f.1 23 (by decide), f.1 28 (by decide), f.1 29 (by decide), e34, f.2.2 24 (by decide)]
theorem LNP.px {ρ σ : MS} (h : LNP 0 ρ σ) : PXx σ = PXx ρ := by
  obtain ⟨-, -, f, -, e, -⟩ := h
  have e34 : σ.1 34 = ρ.1 34 := by omega
  unfold PXx
  rw [f.1 25 (by decide), f.1 30 (by decide), e34]
theorem LNP.line {ρ σ τ : MS} (h : LNP 0 ρ σ) (f : Fr [34] [3, 4, 5, 6, 7, 8] [] σ τ) (e : τ.1 34 = σ.1 34 + 1) (pb : PBF σ τ) : LNP 1 ρ τ := by
  obtain ⟨h1, h2, h3, h4, h5, h6, h7⟩ := h
  refine ⟨h1, h2, h3.trans (Fr.sub f (by decide) (by decide) (by decide)), h4.trans pb, ⟨by omega, ?_⟩, h6, (srt_fr f (by decide) (by decide) (by decide)).trans h7⟩
  rw [f.1 31 (by decide)]
  exact h5.2
theorem LNP.sam {ρ σ : MS} (h : LNP 0 ρ σ) : SAM ρ σ := by
  have e := h.vw0
  unfold vw at e
  exact ⟨congrArg Prod.fst e, congrArg (fun z => z.2.1) e, congrArg (fun z => z.2.2) e⟩
theorem LNP.eff {j : Int} {ρ σ : MS} (h : LNP j ρ σ) : EFF [(5, ρ.1 19, 0, 0)] ρ σ := EFF.line h.2.2.2.2.2.2
theorem LNP.lin {ρ σ τ : MS} {k : Nat} (_ : LNP 0 ρ σ) (f : Fr [34] [3, 4, 5, 6, 7, 8] [] σ τ) (e : τ.1 34 = σ.1 34 + 1) (g : ∀ c : Int, GOS [20] ρ (qq c) [51, k] σ (qq c) []) : ∀ c : Int, GOS [20] ρ (qq c) [k] τ (qq c) [] := fun c => (g c).then ((g51 (CHG.put f (by decide) (by decide) (by decide) e) : GOS [51] σ (qq c) [] τ (qq c) []).more [k])

