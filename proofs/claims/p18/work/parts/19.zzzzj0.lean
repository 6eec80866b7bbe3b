section
def JSN9 (T : CT) (a xa xb xc xd xe xf y : Nat) : Nat → MS → MS → Prop
  | 0, σ, τ => τ = σ
  | t + 1, σ, τ => ∃ τ1 : MS, JSN9 T a xa xb xc xd xe xf y t σ τ1 ∧ CHX (RNL a) [xa, xb, xc, xd, xe, xf] [] σ τ1 ∧ τ1.2.1 56 a = 1 ∧ JST T τ1 a xa xb xc xd xe xf y 0 τ
theorem JSN9.st {T : CT} {a xa xb xc xd xe xf y : Nat} {i v : Int} {σ τ1 τ : MS} (h : JSN9 T a xa xb xc xd xe xf y i.toNat σ τ1) (i0 : 0 ≤ i) (hc : CHX (RNL a) [xa, xb, xc, xd, xe, xf] [] σ τ1) (h1 : τ1.2.1 56 a = 1) (s : JST T τ1 a xa xb xc xd xe xf y v τ) (hv : v = 0) : JSN9 T a xa xb xc xd xe xf y (i + 1).toNat σ τ := by
  rw [show (i + 1).toNat = i.toNat + 1 by omega]
  exact ⟨τ1, h, hc, h1, by rw [← hv]; exact s⟩
def JPL9 (T : CT) (σ : MS) (a xa xb xc xd xe xf y : Nat) (v : Int) (σ2 : MS) : Prop := ∃ (t : Nat) (τ : MS), JSN9 T a xa xb xc xd xe xf y t σ τ ∧ CHX (RNL a) [xa, xb, xc, xd, xe, xf] [] σ τ ∧ ((v = 1 ∧ τ.2.1 56 a = 1 ∧ (t : Int) < 1000000 ∧ JST T τ a xa xb xc xd xe xf y 1 σ2) ∨ (v = 0 ∧ σ2 = τ ∧ ¬ ((t : Int) < 1000000 ∧ τ.2.1 56 a = 1)))
end
