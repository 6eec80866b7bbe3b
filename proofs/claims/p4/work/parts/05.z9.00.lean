/-- the pair's torn run is another than the keeper's -/
def SEP (σ : MS) (a : Nat) : Prop := ∀ p : Nat, σ.2.1 110 a = (p : Int) → σ.2.1 0 p ≠ σ.2.1 103 a
theorem SEP.frc {T : CT} {ks : List Nat} {σ τ : MS} {a : Nat} (h : SEP σ a) (f : FrC T ks σ τ) (h0 : 0 ∉ ks) (h1 : 103 ∉ ks) (h2 : 110 ∉ ks) : SEP τ a := fun p q => by
  rw [f.1 110 (by omega) h2] at q
  rw [f.1 0 (by omega) h0, f.1 103 (by omega) h1]
  exact h p q
theorem TR.fa {σ τ : MS} {a x : Nat} {B : Int} (h : TR σ a B) (f : FA x σ τ) (hx : ∀ t : Nat, σ.2.1 103 a = (t : Int) → t ≠ x) (h3 : τ.2.1 103 a = σ.2.1 103 a) : TR τ a B := fun t q => by
  rw [h3] at q
  rw [f 57 t (by decide) (hx t q)]
  exact h t q
theorem TR.f57 {σ τ : MS} {a p t0 p0 : Nat} {B : Int} (h : TR σ a B) (f : F57 p σ τ) (h0 : σ.2.1 0 p = (t0 : Int)) (h1 : σ.2.1 1 p = (p0 : Int)) (hx : ∀ t : Nat, σ.2.1 103 a = (t : Int) → t ≠ t0 ∧ t ≠ p0) (h3 : τ.2.1 103 a = σ.2.1 103 a) : TR τ a B := fun t q => by
  rw [h3] at q
  obtain ⟨q1, q2⟩ := hx t q
  rw [f t t0 p0 h0 h1 q1 q2]
  exact h t q

