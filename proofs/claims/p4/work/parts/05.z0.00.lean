theorem FA.at {x : Nat} {z : Int} {σ τ : MS} (h : z = (x : Int)) (f : FA x σ τ) : FA z.toNat σ τ := by
  rw [h]; exact f
/-- of a pair: the torn run's calls -/
def TB (σ : MS) (a : Nat) (i : Int) : Prop := ∀ t : Nat, σ.2.1 0 a = (t : Int) → σ.2.1 57 t ≤ i
theorem TB.of {σ : MS} {a x : Nat} {i : Int} (hx : σ.2.1 0 a = (x : Int)) (h : σ.2.1 57 x ≤ i) : TB σ a i := fun p q => by
  have e : p = x := by omega
  rw [e]; exact h
theorem TB.frc {T : CT} {ks : List Nat} {σ τ : MS} {a : Nat} {i : Int} (h : TB σ a i) (f : FrC T ks σ τ) (h0 : 0 ∉ ks) (h1 : 57 ∉ ks) : TB τ a i := fun p q => by
  rw [f.1 57 (by omega) h1]; exact h p (by rw [← f.1 0 (by omega) h0]; exact q)
theorem TB.up {σ : MS} {a : Nat} {i j : Int} (h : TB σ a i) (hj : i ≤ j) : TB σ a j := fun p q => Int.le_trans (h p q) hj
/-- the plain run went on: the torn one stands -/
theorem TB.plain {T : CT} {ks : List Nat} {σ τ : MS} {a t p : Nat} {i : Int} (h : TB σ a i) (ht : σ.2.1 0 a = (t : Int)) (hp : σ.2.1 1 a = (p : Int)) (hne : t ≠ p) (f : FA (σ.2.1 1 a).toNat σ τ) (g : FrC T ks σ τ) (h0 : 0 ∉ ks) : TB τ a i := by
  refine TB.of (x := t) ((congrFun (g.1 0 (by omega) h0) _).trans ht) ?_
  rw [hp] at f
  rw [f 57 t (by decide) hne]
  exact h t ht
/-- the torn run went on: the plain one stands -/
theorem PB.torn {T : CT} {ks : List Nat} {σ τ : MS} {a t p : Nat} (h : PB σ a) (hp : σ.2.1 1 a = (p : Int)) (hne : t ≠ p) (f : FA t σ τ) (g : FrC T ks σ τ) (h0 : 1 ∉ ks) : PB τ a :=
  PB.of ((congrFun (g.1 1 (by omega) h0) _).trans hp) ((h p hp).keep f (Ne.symm hne))

