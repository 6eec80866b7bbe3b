/-- the run's calls -/
def TR (σ : MS) (a : Nat) (B : Int) : Prop := ∀ t : Nat, σ.2.1 103 a = (t : Int) → σ.2.1 57 t ≤ B
theorem TR.of {σ : MS} {a x : Nat} {B : Int} (hx : σ.2.1 103 a = (x : Int)) (h : σ.2.1 57 x ≤ B) : TR σ a B := fun t q => by
  have e : t = x := by omega
  rw [e]; exact h
theorem TR.up {σ : MS} {a : Nat} {B C : Int} (h : TR σ a B) (hc : B ≤ C) : TR σ a C := fun t q => Int.le_trans (h t q) hc
theorem TR.frc {T : CT} {ks : List Nat} {σ τ : MS} {a : Nat} {B : Int} (h : TR σ a B) (f : FrC T ks σ τ) (h0 : 103 ∉ ks) (h1 : 57 ∉ ks) : TR τ a B := fun t q => by
  rw [f.1 57 (by omega) h1]; exact h t (by rw [← f.1 103 (by omega) h0]; exact q)
