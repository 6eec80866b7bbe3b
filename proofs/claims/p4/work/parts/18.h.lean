/-- ZERO, a piece, LABEL -/
theorem SGF.ifs {σ τ υ ω : MS} {lg : List EV} (h1 : τ.1 34 = σ.1 34 + 1 ∧ τ.1 33 = σ.1 33 + 1) (z : τ.2.1 3 (PXx σ) = 9 ∧ τ.2.1 4 (PXx σ) = σ.1 33) (oz : σ.1 25 = 3 → σ.1 30 < 6 → σ.1 34 < 180 → OKI τ 1 (PXx σ)) (p1 : PBF σ τ) (b : SGF τ υ lg) (p2 : PBF τ υ)
    (h3 : ω.1 34 = υ.1 34 + 1 ∧ ω.1 33 = υ.1 33) (l : ω.2.1 3 (PXx υ) = 13 ∧ ω.2.1 4 (PXx υ) = σ.1 33) (ol : υ.1 25 = 3 → υ.1 30 < 6 → υ.1 34 < 180 → OKI ω 1 (PXx υ)) (p3 : PBF υ ω) (t1 : TBm σ τ) (t2 : TBm τ υ) (t3 : TBm υ ω) (h0 : 0 ≤ σ.1 30 ∧ 0 ≤ σ.1 34) : SGF σ ω lg := fun a r c d => by
  have q6 := p2.2.2.2.2.2.1
  have e25 : τ.1 25 = σ.1 25 ∧ υ.1 25 = τ.1 25 := ⟨p1.2.2.2.2.2.2.1, p2.2.2.2.2.2.2.1⟩
  have e30 : τ.1 30 = σ.1 30 ∧ υ.1 30 = τ.1 30 := ⟨p1.2.2.2.2.2.2.2, p2.2.2.2.2.2.2.2⟩
  have xσ : PXx σ = 220 * σ.1 30 + σ.1 34 := by unfold PXx; rw [if_pos (by omega)]
  have xυ : PXx υ = 220 * σ.1 30 + υ.1 34 := by unfold PXx; rw [if_pos (by omega)]; omega
  have oz2 := oz a r (by omega)
  have ol2 := ol (by omega) (by omega) (by omega)
  rw [xσ] at z oz2
  rw [xυ] at l ol2
  have B := b (by omega) (by omega) (by omega) (fun e x => (d e x).tb t1)
  rw [e30.1, t1.1, h1.1, h1.2] at B
  have i3 : ∀ k, 0 ≤ k → k < υ.1 34 → IEQ υ (220 * σ.1 30 + k) ω (220 * σ.1 30 + k) := fun k x y => p3.1 _ (by omega) (by omega)
  have i2 : IEQ τ (220 * σ.1 30 + σ.1 34) ω (220 * σ.1 30 + σ.1 34) := (p2.1 _ (by omega) (by omega)).trans (i3 _ h0.2 (by omega))
  refine ⟨fun k x y => ?_, ?_⟩
  · by_cases k1 : k = σ.1 34
    · rw [k1]; exact i2.oki (t3.2.1.trans t2.2.1) oz2
    · by_cases k2 : k = υ.1 34
      · rw [k2]; exact ol2
      · exact (i3 k (by omega) (by omega)).oki t3.2.1 (B.1 k (by omega) (by omega))
  · rw [h3.1, h3.2]
    refine WS.ifs (B.2.ext (fun k x y => ?_)) ⟨?_, ?_⟩ ⟨l.1, l.2⟩
    · have := i3 k (by omega) y
      exact ⟨this.1, this.2.1, this.2.2.1⟩
    · exact i2.1.trans z.1
    · exact i2.2.1.trans z.2

