/-- LABEL, LINE, numbers, ZERO, a piece, JUMP, LABEL -/
theorem SGF.whl {σ τ υ φ χ ω : MS} {lg : List EV} (h1 : τ.1 34 = σ.1 34 + 2 ∧ τ.1 33 = σ.1 33 + 1) (z : σ.1 25 = 3 → σ.1 30 < 6 → σ.1 34 + 1 < 180 → ((τ.2.1 3 (220 * σ.1 30 + σ.1 34) = 13 ∧ τ.2.1 4 (220 * σ.1 30 + σ.1 34) = σ.1 33) ∧ τ.2.1 3 (220 * σ.1 30 + (σ.1 34 + 1)) = 11) ∧ OKI τ 1 (220 * σ.1 30 + σ.1 34) ∧ OKI τ 1 (220 * σ.1 30 + (σ.1 34 + 1))) (p1 : PBF σ τ)
    (ac : AC τ υ) (p2 : PBF τ υ) (h2 : υ.1 33 = τ.1 33)
    (h3 : φ.1 34 = υ.1 34 + 1 ∧ φ.1 33 = υ.1 33 + 1) (y : υ.1 25 = 3 → υ.1 30 < 6 → υ.1 34 < 180 → (φ.2.1 3 (220 * υ.1 30 + υ.1 34) = 9 ∧ φ.2.1 4 (220 * υ.1 30 + υ.1 34) = υ.1 33) ∧ OKI φ 1 (220 * υ.1 30 + υ.1 34)) (p3 : PBF υ φ)
    (b : SGF φ χ lg) (p4 : PBF φ χ)
    (h5 : ω.1 34 = χ.1 34 + 2 ∧ ω.1 33 = χ.1 33) (x : χ.1 25 = 3 → χ.1 30 < 6 → χ.1 34 + 1 < 180 → ((ω.2.1 3 (220 * χ.1 30 + χ.1 34) = 8 ∧ ω.2.1 4 (220 * χ.1 30 + χ.1 34) = σ.1 33) ∧ ω.2.1 3 (220 * χ.1 30 + (χ.1 34 + 1)) = 13 ∧ ω.2.1 4 (220 * χ.1 30 + (χ.1 34 + 1)) = σ.1 33 + 1) ∧ OKI ω 1 (220 * χ.1 30 + χ.1 34) ∧ OKI ω 1 (220 * χ.1 30 + (χ.1 34 + 1))) (p5 : PBF χ ω)
    (t1 : TBm σ τ) (t2 : TBm τ υ) (t3 : TBm υ φ) (t4 : TBm φ χ) (t5 : TBm χ ω) (h0 : 0 ≤ σ.1 30 ∧ 0 ≤ σ.1 34) : SGF σ ω lg := fun a r c d => by
  have m2 := p2.2.2.2.2.2.1
  have m4 := p4.2.2.2.2.2.1
  have e25 : τ.1 25 = σ.1 25 ∧ υ.1 25 = τ.1 25 ∧ φ.1 25 = υ.1 25 ∧ χ.1 25 = φ.1 25 := ⟨p1.2.2.2.2.2.2.1, p2.2.2.2.2.2.2.1, p3.2.2.2.2.2.2.1, p4.2.2.2.2.2.2.1⟩
  have e30 : τ.1 30 = σ.1 30 ∧ υ.1 30 = τ.1 30 ∧ φ.1 30 = υ.1 30 ∧ χ.1 30 = φ.1 30 := ⟨p1.2.2.2.2.2.2.2, p2.2.2.2.2.2.2.2, p3.2.2.2.2.2.2.2, p4.2.2.2.2.2.2.2⟩
  have Z := z a r (by omega)
  have Y := y (by omega) (by omega) (by omega)
  have X := x (by omega) (by omega) (by omega)
  have u30 : υ.1 30 = σ.1 30 := by omega
  have f30 : φ.1 30 = σ.1 30 := by omega
  have x30 : χ.1 30 = σ.1 30 := by omega
  rw [u30] at Y
  rw [x30] at X
  have B := b (by omega) (by omega) (by omega) (fun e w => (d e w).tb (t1.trans (t2.trans t3)))
  rw [f30, (t1.trans (t2.trans t3)).1] at B
  have i5 : ∀ k, 0 ≤ k → k < χ.1 34 → IEQ χ (220 * σ.1 30 + k) ω (220 * σ.1 30 + k) := fun k u w => p5.1 _ (by omega) (by omega)
  have i4 : ∀ k, 0 ≤ k → k < φ.1 34 → IEQ φ (220 * σ.1 30 + k) ω (220 * σ.1 30 + k) := fun k u w => (p4.1 _ (by omega) (by omega)).trans (i5 k u (by omega))
  have i3 : ∀ k, 0 ≤ k → k < υ.1 34 → IEQ υ (220 * σ.1 30 + k) ω (220 * σ.1 30 + k) := fun k u w => (p3.1 _ (by omega) (by omega)).trans (i4 k u (by omega))
  have i2 : ∀ k, 0 ≤ k → k < τ.1 34 → IEQ τ (220 * σ.1 30 + k) ω (220 * σ.1 30 + k) := fun k u w => (p2.1 _ (by omega) (by omega)).trans (i3 k u (by omega))
  have A := SGF.ac (lg := []) ac p2 (by omega) (by omega) (by omega) (by omega) (fun e w => absurd w (List.not_mem_nil))
  rw [e30.1] at A
  have ak : ∀ k, τ.1 34 ≤ k → k < υ.1 34 → 1 ≤ υ.2.1 3 (220 * σ.1 30 + k) ∧ υ.2.1 3 (220 * σ.1 30 + k) ≤ 5 := fun k u w => by
    have := (ac (by omega) (by omega) k u w (by omega)).1
    rw [e30.1] at this
    exact this
  have q3 := t5.2.1
  have q4 := q3.trans t4.2.1
  refine ⟨fun k u w => ?_, ?_⟩
  · by_cases k1 : k < τ.1 34
    · by_cases k0 : k = σ.1 34
      · rw [k0]; exact (i2 _ h0.2 (by omega)).oki (q4.trans (t3.2.1.trans t2.2.1)) Z.2.1
      · rw [show k = σ.1 34 + 1 by omega]; exact (i2 _ (by omega) (by omega)).oki (q4.trans (t3.2.1.trans t2.2.1)) Z.2.2
    · by_cases k2 : k < υ.1 34
      · exact (i3 k (by omega) k2).oki (q4.trans t3.2.1) (A.1 k (by omega) k2)
      · by_cases k3 : k = υ.1 34
        · rw [k3]; exact (i4 _ (by omega) (by omega)).oki q4 Y.2
        · by_cases k4 : k < χ.1 34
          · exact (i5 k (by omega) k4).oki q3 (B.1 k (by omega) k4)
          · by_cases k5 : k = χ.1 34
            · rw [k5]; exact X.2.1
            · rw [show k = χ.1 34 + 1 by omega]; exact X.2.2
  · rw [h5.1, h5.2]
    refine WS.whl (m := υ.1 34) (l1 := χ.1 33) ?_ (by omega) ⟨?_, ?_⟩ ?_ (fun k u w => ?_) ⟨?_, ?_⟩ ⟨X.1.1.1, X.1.1.2⟩ ⟨X.1.2.1, X.1.2.2⟩
    · have g := B.2.ext (K' := iK ω (σ.1 30)) (D' := iD ω (σ.1 30)) (O' := iO ω (σ.1 30)) (fun k u w => ⟨(i5 k (by omega) w).1, (i5 k (by omega) w).2.1, (i5 k (by omega) w).2.2.1⟩)
      rw [h3.1, h3.2, h2, h1.2, show σ.1 33 + 1 + 1 = σ.1 33 + 2 by omega] at g
      exact g
    · exact (i2 _ h0.2 (by omega)).1.trans Z.1.1.1
    · exact (i2 _ h0.2 (by omega)).2.1.trans Z.1.1.2
    · exact (i2 _ (by omega) (by omega)).1.trans Z.1.2
    · have := ak k (by omega) w
      have e := (i3 k (by omega) w).1
      show 0 ≤ ω.2.1 3 (220 * σ.1 30 + k) ∧ ω.2.1 3 (220 * σ.1 30 + k) ≤ 5
      rw [e]; omega
    · exact (i4 _ (by omega) (by omega)).1.trans Y.1.1
    · exact ((i4 _ (by omega) (by omega)).2.1.trans Y.1.2).trans (by omega)

