theorem FA.to {x : Nat} {z : Int} {σ τ : MS} (h : z = (x : Int)) (f : FA z.toNat σ τ) : FA x σ τ := by
  rw [h] at f; exact f
/-- of runs only the pair's own went on -/
def F57 (a : Nat) (σ τ : MS) : Prop := ∀ b t p : Nat, σ.2.1 0 a = (t : Int) → σ.2.1 1 a = (p : Int) → b ≠ t → b ≠ p → τ.2.1 57 b = σ.2.1 57 b
section F57S
variable {T : CT} {a x n : Nat} {σ τ υ : MS} {ks : List Nat} {z v : Int}
theorem F57.rfl : F57 a σ σ := fun _ _ _ _ _ _ _ => Eq.refl _
theorem F57.frc (h : F57 a σ τ) (f : FrC T ks τ υ) (h1 : 57 ∉ ks) : F57 a σ υ := fun b t p q r s u => by rw [f.1 57 (by omega) h1]; exact h b t p q r s u
theorem F57.put (h : F57 a σ τ) (hn : n ≠ 57) : F57 a σ (sA n z v τ) := fun b t p q r s u => by rw [sA_k (by omega)]; exact h b t p q r s u
theorem F57.fa (h : F57 a σ τ) (hx : σ.2.1 0 a = (x : Int) ∨ σ.2.1 1 a = (x : Int)) (f : FA x τ υ) : F57 a σ υ := fun b t p q r s u => by
  rw [f 57 b (by decide) (fun e => by rw [e] at s u; omega)]; exact h b t p q r s u
theorem F57.pre (f : FrC T ks σ τ) (h0 : 0 ∉ ks) (h1 : 1 ∉ ks) (h2 : 57 ∉ ks) (h : F57 a τ υ) : F57 a σ υ := fun b t p q r s u => by
  rw [h b t p (by rw [f.1 0 (by omega) h0]; exact q) (by rw [f.1 1 (by omega) h1]; exact r) s u, f.1 57 (by omega) h2]
end F57S

