/-- ZERO, a piece, JUMP, LABEL, a piece, LABEL -/
theorem SGF.ife {σ τ υ φ χ ω : MS} {l1 l2 : List EV} (h1 : τ.1 34 = σ.1 34 + 1 ∧ τ.1 33 = σ.1 33 + 1) (z : σ.1 25 = 3 → σ.1 30 < 6 → σ.1 34 < 180 → (τ.2.1 3 (220 * σ.1 30 + σ.1 34) = 9 ∧ τ.2.1 4 (220 * σ.1 30 + σ.1 34) = σ.1 33) ∧ OKI τ 1 (220 * σ.1 30 + σ.1 34)) (p1 : PBF σ τ)
    (b1 : SGF τ υ l1) (p2 : PBF τ υ)
    (h3 : φ.1 34 = υ.1 34 + 2 ∧ φ.1 33 = υ.1 33 + 1) (y : υ.1 25 = 3 → υ.1 30 < 6 → υ.1 34 + 1 < 180 → ((φ.2.1 3 (220 * υ.1 30 + υ.1 34) = 8 ∧ φ.2.1 4 (220 * υ.1 30 + υ.1 34) = υ.1 33) ∧ φ.2.1 3 (220 * υ.1 30 + (υ.1 34 + 1)) = 13 ∧ φ.2.1 4 (220 * υ.1 30 + (υ.1 34 + 1)) = σ.1 33) ∧ OKI φ 1 (220 * υ.1 30 + υ.1 34) ∧ OKI φ 1 (220 * υ.1 30 + (υ.1 34 + 1))) (p3 : PBF υ φ)
    (b2 : SGF φ χ l2) (p4 : PBF φ χ)
    (h5 : ω.1 34 = χ.1 34 + 1 ∧ ω.1 33 = χ.1 33) (x : χ.1 25 = 3 → χ.1 30 < 6 → χ.1 34 < 180 → (ω.2.1 3 (220 * χ.1 30 + χ.1 34) = 13 ∧ ω.2.1 4 (220 * χ.1 30 + χ.1 34) = υ.1 33) ∧ OKI ω 1 (220 * χ.1 30 + χ.1 34)) (p5 : PBF χ ω)
    (t1 : TBm σ τ) (t2 : TBm τ υ) (t3 : TBm υ φ) (t4 : TBm φ χ) (t5 : TBm χ ω) (h0 : 0 ≤ σ.1 30 ∧ 0 ≤ σ.1 34) : SGF σ ω (l1 ++ l2) := fun a r c d => by
  have m2 := p2.2.2.2.2.2.1
  have m4 := p4.2.2.2.2.2.1
  have e25 : τ.1 25 = σ.1 25 ∧ υ.1 25 = τ.1 25 ∧ φ.1 25 = υ.1 25 ∧ χ.1 25 = φ.1 25 := ⟨p1.2.2.2.2.2.2.1, p2.2.2.2.2.2.2.1, p3.2.2.2.2.2.2.1, p4.2.2.2.2.2.2.1⟩
  have e30 : τ.1 30 = σ.1 30 ∧ υ.1 30 = τ.1 30 ∧ φ.1 30 = υ.1 30 ∧ χ.1 30 = φ.1 30 := ⟨p1.2.2.2.2.2.2.2, p2.2.2.2.2.2.2.2, p3.2.2.2.2.2.2.2, p4.2.2.2.2.2.2.2⟩
  have Z := z a r (by omega)
  have Y := y (by omega) (by omega) (by omega)
  have X := x (by omega) (by omega) (by omega)
  have u30 : υ.1 30 = σ.1 30 := by omega
  have f30 : φ.1 30 = σ.1 30 := by omega
  have x30 : χ.1 30 = σ.1 30 := by omega
  rw [u30] at Y
  rw [x30] at X
  have A := b1 (by omega) (by omega) (by omega) (fun e w => (d e (List.mem_append_left _ w)).tb t1)
  rw [e30.1, t1.1] at A
  have B := b2 (by omega) (by omega) (by omega) (fun e w => (d e (List.mem_append_right _ w)).tb (t1.trans (t2.trans t3)))
  rw [f30, (t1.trans (t2.trans t3)).1] at B
  have i5 : ∀ k, 0 ≤ k → k < χ.1 34 → IEQ χ (220 * σ.1 30 + k) ω (220 * σ.1 30 + k) := fun k u w => p5.1 _ (by omega) (by omega)
  have i4 : ∀ k, 0 ≤ k → k < φ.1 34 → IEQ φ (220 * σ.1 30 + k) ω (220 * σ.1 30 + k) := fun k u w => (p4.1 _ (by omega) (by omega)).trans (i5 k u (by omega))
  have i3 : ∀ k, 0 ≤ k → k < υ.1 34 → IEQ υ (220 * σ.1 30 + k) ω (220 * σ.1 30 + k) := fun k u w => (p3.1 _ (by omega) (by omega)).trans (i4 k u (by omega))
  have i2 : ∀ k, 0 ≤ k → k < τ.1 34 → IEQ τ (220 * σ.1 30 + k) ω (220 * σ.1 30 + k) := fun k u w => (p2.1 _ (by omega) (by omega)).trans (i3 k u (by omega))
  have q3 := t5.2.1
  have q4 := q3.trans t4.2.1
  refine ⟨fun k u w => ?_, ?_⟩
  · by_cases k1 : k = σ.1 34
    · rw [k1]; exact (i2 _ h0.2 (by omega)).oki (q4.trans (t3.2.1.trans t2.2.1)) Z.2
    · by_cases k2 : k < υ.1 34
      · exact (i3 k (by omega) k2).oki (q4.trans t3.2.1) (A.1 k (by omega) k2)
      · by_cases k3 : k = υ.1 34
        · rw [k3]; exact (i4 _ (by omega) (by omega)).oki q4 Y.2.1
        · by_cases k4 : k = υ.1 34 + 1
          · rw [k4]; exact (i4 _ (by omega) (by omega)).oki q4 Y.2.2
          · by_cases k5 : k < χ.1 34
            · exact (i5 k (by omega) k5).oki q3 (B.1 k (by omega) k5)
            · rw [show k = χ.1 34 by omega]; exact X.2
  · rw [h5.1, h5.2]
    refine WS.ife (b := υ.1 34) (l1 := υ.1 33) ?_ ?_ ⟨?_, ?_⟩ ⟨?_, ?_⟩ ⟨?_, ?_⟩ ⟨X.1.1, X.1.2⟩
    · have g := A.2.ext (K' := iK ω (σ.1 30)) (D' := iD ω (σ.1 30)) (O' := iO ω (σ.1 30)) (fun k u w => ⟨(i3 k (by omega) w).1, (i3 k (by omega) w).2.1, (i3 k (by omega) w).2.2.1⟩)
      rw [h1.1, h1.2] at g
      exact g
    · have g := B.2.ext (K' := iK ω (σ.1 30)) (D' := iD ω (σ.1 30)) (O' := iO ω (σ.1 30)) (fun k u w => ⟨(i5 k (by omega) w).1, (i5 k (by omega) w).2.1, (i5 k (by omega) w).2.2.1⟩)
      rw [h3.1, h3.2] at g
      exact g
    · exact (i2 _ h0.2 (by omega)).1.trans Z.1.1
    · exact (i2 _ h0.2 (by omega)).2.1.trans Z.1.2
    · exact (i4 _ (by omega) (by omega)).1.trans Y.1.1.1
    · exact (i4 _ (by omega) (by omega)).2.1.trans Y.1.1.2
    · exact (i4 _ (by omega) (by omega)).1.trans Y.1.2.1
    · exact (i4 _ (by omega) (by omega)).2.1.trans Y.1.2.2

