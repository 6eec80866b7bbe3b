/-! what each field may hold -/
def cls (n : Nat) : Nat := if n < 5 then 0 else if n < 17 then 1 else if n < 18 then 2 else if n < 23 then 3 else if n < 33 then 4 else if n < 52 then 5 else if n < 55 then 6 else if n < 72 then 7 else if n < 81 then 8 else if n < 88 then 9 else if n < 95 then 10 else if n < 111 then 11 else 99
def AR (T : CT) (x k : Nat) (lo hi : Nat) : Prop := (T x).1 = k ∧ lo ≤ (T x).2 ∧ (T x).2 ≤ hi
def FO (n : Nat) (T : CT) (v : Int) : Prop := match n with
  | 0 => ∃ x : Nat, v = (x : Int) ∧ ((T x).1 = 37)
  | 1 => ∃ x : Nat, v = (x : Int) ∧ ((T x).1 = 37)
  | 5 => ∃ x : Nat, v = (x : Int) ∧ (AR T x 1 208 2600)
  | 6 => (0 : Int) ≤ v ∧ v ≤ 5000
  | 7 => (0 : Int) ≤ v ∧ v ≤ 12
  | 8 => (0 : Int) ≤ v ∧ v ≤ 4
  | 10 => (0 : Int) ≤ v ∧ v ≤ 12
  | 11 => ∃ x : Nat, v = (x : Int) ∧ (AR T x 1 12 12)
  | 12 => ∃ x : Nat, v = (x : Int) ∧ (AR T x 1 12 12)
  | 13 => ∃ x : Nat, v = (x : Int) ∧ (AR T x 1 12 12)
  | 14 => ∃ x : Nat, v = (x : Int) ∧ (AR T x 11 12 12)
  | 15 => ∃ x : Nat, v = (x : Int) ∧ (AR T x 1 144 144)
  | 16 => ∃ x : Nat, v = (x : Int) ∧ (AR T x 1 13 13)
  | 17 => ∃ x : Nat, v = (x : Int) ∧ ((T x).1 = 33)
  | 18 => ∃ x : Nat, v = (x : Int) ∧ (AR T x 3 603 603)
  | 19 => ∃ x : Nat, v = (x : Int) ∧ (AR T x 3 3 3)
  | 20 => ∃ x : Nat, v = (x : Int) ∧ (AR T x 1 201 201)
  | 21 => ∃ x : Nat, v = (x : Int) ∧ (AR T x 1 201 201)
  | 23 => ∃ x : Nat, v = (x : Int) ∧ ((T x).1 = 33)
  | 24 => ∃ x : Nat, v = (x : Int) ∧ (AR T x 1 8 8)
  | 25 => v < 0 ∨ ∃ x : Nat, v = (x : Int) ∧ ((T x).1 = 50)
  | 26 => v < 0 ∨ ∃ x : Nat, v = (x : Int) ∧ ((T x).1 = 50)
  | 33 => ∃ x : Nat, v = (x : Int) ∧ ((T x).1 = 39)
  | 34 => ∃ x : Nat, v = (x : Int) ∧ (AR T x 4 7 7)
  | 35 => ∃ x : Nat, v = (x : Int) ∧ ((T x).1 = 31)
  | 36 => ∃ x : Nat, v = (x : Int) ∧ (AR T x 1 256 256)
  | 37 => ∃ x : Nat, v = (x : Int) ∧ (AR T x 1 256 256)
  | 38 => (0 : Int) ≤ v ∧ v ≤ 256
  | 39 => ∃ x : Nat, v = (x : Int) ∧ (AR T x 1 256 256)
  | 40 => ∃ x : Nat, v = (x : Int) ∧ (AR T x 1 256 256)
  | 41 => ∃ x : Nat, v = (x : Int) ∧ (AR T x 1 256 256)
  | 42 => (0 : Int) ≤ v ∧ v ≤ 256
  | 48 => ∃ x : Nat, v = (x : Int) ∧ (AR T x 1 12 12)
  | 49 => ∃ x : Nat, v = (x : Int) ∧ (AR T x 1 8 8)
  | 52 => ∃ x : Nat, v = (x : Int) ∧ (AR T x 1 192 192)
  | 53 => ∃ x : Nat, v = (x : Int) ∧ (AR T x 1 192 192)
  | 54 => ∃ x : Nat, v = (x : Int) ∧ (AR T x 3 3 3)
  | 55 => ∃ x : Nat, v = (x : Int) ∧ (AR T x 4 6 6 ∨ AR T x 5 6 6)
  | 59 => ∃ x : Nat, v = (x : Int) ∧ (AR T x 1 9 9)
  | 60 => ∃ x : Nat, v = (x : Int) ∧ (AR T x 1 9 9)
  | 61 => ∃ x : Nat, v = (x : Int) ∧ (AR T x 1 9 9)
  | 62 => ∃ x : Nat, v = (x : Int) ∧ (AR T x 1 108 108)
  | 63 => ∃ x : Nat, v = (x : Int) ∧ (AR T x 1 1728 1728)
  | 64 => ∃ x : Nat, v = (x : Int) ∧ (AR T x 1 200 200)
  | 69 => v < 0 ∨ ∃ x : Nat, v = (x : Int) ∧ ((T x).1 = 31 ∨ (T x).1 = 50)
  | 72 => ∃ x : Nat, v = (x : Int) ∧ ((T x).1 = 33)
  | 73 => ∃ x : Nat, v = (x : Int) ∧ (AR T x 3 576 576)
  | 74 => ∃ x : Nat, v = (x : Int) ∧ (AR T x 3 3 3)
  | 75 => ∃ x : Nat, v = (x : Int) ∧ (AR T x 1 192 192)
  | 76 => ∃ x : Nat, v = (x : Int) ∧ (AR T x 3 576 576)
  | 77 => ∃ x : Nat, v = (x : Int) ∧ (AR T x 3 603 603)
  | 78 => ∃ x : Nat, v = (x : Int) ∧ (AR T x 1 201 201)
  | 79 => ∃ x : Nat, v = (x : Int) ∧ (AR T x 3 3 3)
  | 80 => (0 : Int) ≤ v ∧ v ≤ 1
  | 81 => ∃ x : Nat, v = (x : Int) ∧ (AR T x 1 1201 1201)
  | 82 => ∃ x : Nat, v = (x : Int) ∧ (AR T x 1 1201 1201)
  | 83 => ∃ x : Nat, v = (x : Int) ∧ (AR T x 1 1201 1201)
  | 84 => (-1 : Int) ≤ v ∧ v ≤ 1200
  | 88 => ∃ x : Nat, v = (x : Int) ∧ (AR T x 7 6 6)
  | 89 => ∃ x : Nat, v = (x : Int) ∧ (AR T x 1 6 6)
  | 90 => ∃ x : Nat, v = (x : Int) ∧ (AR T x 1 200 200)
  | 91 => ∃ x : Nat, v = (x : Int) ∧ (AR T x 1 145 145)
  | 92 => v < 0 ∨ ∃ x : Nat, v = (x : Int) ∧ (AR T x 1 0 32788)
  | 93 => (0 : Int) ≤ v ∧ v ≤ 145
  | 94 => (0 : Int) ≤ v ∧ v ≤ 1
  | 95 => ∃ x : Nat, v = (x : Int) ∧ (AR T x 2 1200 1200)
  | 96 => (0 : Int) ≤ v ∧ v ≤ 1200
  | 97 => (0 : Int) ≤ v ∧ v ≤ 6
  | 98 => ∃ x : Nat, v = (x : Int) ∧ (AR T x 4 6 6)
  | 99 => ∃ x : Nat, v = (x : Int) ∧ (AR T x 5 6 6)
  | 100 => ∃ x : Nat, v = (x : Int) ∧ ((T x).1 = 35)
  | 101 => ∃ x : Nat, v = (x : Int) ∧ ((T x).1 = 33)
  | 102 => ∃ x : Nat, v = (x : Int) ∧ ((T x).1 = 40)
  | 103 => ∃ x : Nat, v = (x : Int) ∧ ((T x).1 = 37)
  | 106 => ∃ x : Nat, v = (x : Int) ∧ ((T x).1 = 36)
  | 107 => ∃ x : Nat, v = (x : Int) ∧ ((T x).1 = 32)
  | 108 => ∃ x : Nat, v = (x : Int) ∧ ((T x).1 = 34)
  | 109 => ∃ x : Nat, v = (x : Int) ∧ ((T x).1 = 38)
  | 110 => v < 0 ∨ ∃ x : Nat, v = (x : Int) ∧ ((T x).1 = 30)
  | _ => True
/-- small numbers, rows of codes, tables -/
def WTA (T : CT) (σ : MS) : Prop := (∀ a, (T a).1 = 11 → ∀ i, 0 ≤ σ.2.1 (1000 + a) i ∧ σ.2.1 (1000 + a) i ≤ 12) ∧ (∀ a, (T a).1 = 4 → ∀ i, 0 ≤ i → i < ((T a).2 : Int) → ∃ x : Nat, σ.2.1 (1000 + a) i = (x : Int) ∧ (T x).1 = 31) ∧ (∀ a, (T a).1 = 5 → ∀ i, 0 ≤ i → i < ((T a).2 : Int) → ∃ x : Nat, σ.2.1 (1000 + a) i = (x : Int) ∧ (T x).1 = 50) ∧ (∀ i, 0 ≤ i → i < 6 → σ.2.1 900 i < 0 ∨ ∃ x : Nat, σ.2.1 900 i = (x : Int) ∧ AR T x 1 0 32788)
def WT (T : CT) (σ : MS) : Prop := (∀ n a, n < 111 → OB T a (cls n) → FO n T (σ.2.1 n a)) ∧ (∀ a, (T a).1 = 50 → σ.2.1 6 a ≤ 200) ∧ WTA T σ ∧ RG σ
section WTS
variable {T : CT} {σ τ : MS} {n a : Nat} {v z : Int}
theorem WTA.fld (h : WTA T σ) (hn : n < 200) : WTA T (sA n z v σ) := by
  obtain ⟨h1, h2, h3, h4⟩ := h
  refine ⟨fun b q => ?_, fun b q => ?_, fun b q => ?_, ?_⟩
  · rw [sA_k (by omega)]; exact h1 b q
  · rw [sA_k (by omega)]; exact h2 b q
  · rw [sA_k (by omega)]; exact h3 b q
  · rw [sA_k (by omega)]; exact h4
/-- a field is written -/
theorem WT.put (h : WT T σ) (hn : n < 111) (hv : FO n T v) (hr : inR v) (h6 : n = 6 → (T a).1 = 50 → v ≤ 200) : WT T (sA n a v σ) := by
  obtain ⟨h1, h2, h3, h4⟩ := h
  refine ⟨fun m b q w => ?_, fun b q => ?_, h3.fld (by omega), h4.A hr⟩
  · by_cases e : m = n
    · by_cases f : b = a
      · rw [e, f, show (sA n a v σ).2.1 n a = v from ra_eq]; exact hv
      · rw [sA_ne (by omega)]; exact h1 m b q w
    · rw [sA_k e]; exact h1 m b q w
  · by_cases e : 6 = n
    · by_cases f : b = a
      · rw [← e, f, show (sA 6 a v σ).2.1 6 a = v from ra_eq]; exact h6 e.symm (by rw [← f]; exact q)
      · rw [sA_ne (by omega)]; exact h2 b q
    · rw [sA_k e]; exact h2 b q
/-- a number of an array is written -/
theorem WT.arr (h : WT T σ) (ha : (T a).1 = 1 ∨ (T a).1 = 11 ∨ (T a).1 = 2) (hv : (T a).1 = 11 → 0 ≤ v ∧ v ≤ 12) (hr : inR v) : WT T (sA (1000 + a) z v σ) := by
  obtain ⟨h1, h2, ⟨h3, h5, h6, h7⟩, h4⟩ := h
  refine ⟨fun m b q w => by rw [sA_k (by omega)]; exact h1 m b q w, fun b q => by rw [sA_k (by omega)]; exact h2 b q, ⟨fun b q i => ?_, fun b q => ?_, fun b q => ?_, by rw [sA_k (by omega)]; exact h7⟩, h4.A hr⟩
  · by_cases f : b = a
    · by_cases g : i = z
      · rw [f, g, show (sA (1000 + a) z v σ).2.1 (1000 + a) z = v from ra_eq]; exact hv (by rw [← f]; exact q)
      · rw [sA_ne g]; exact h3 b q i
    · rw [sA_k (by omega)]; exact h3 b q i
  · have hb : b ≠ a := fun e => by rw [e] at q; omega
    rw [sA_k (by omega)]; exact h5 b q
  · have hb : b ≠ a := fun e => by rw [e] at q; omega
    rw [sA_k (by omega)]; exact h6 b q
theorem WT.lng {w : Int64} (h : WT T σ) : WT T (sJ n z w σ) := h
end WTS
/-- of the fields only these were written -/
def FrC (ks : List Nat) (σ τ : MS) : Prop := ∀ k, (k < 200 ∨ k = 900) → k ∉ ks → τ.2.1 k = σ.2.1 k
section FRC
variable {ks ls : List Nat} {σ τ υ : MS} {k : Nat}
theorem FrC.rfl : FrC ks σ σ := fun _ _ _ => Eq.refl _
theorem FrC.trans (h : FrC ks σ τ) (g : FrC ks τ υ) : FrC ks σ υ := fun k a b => (g k a b).trans (h k a b)
theorem FrC.sub (h : FrC ks σ τ) (e : ∀ k ∈ ks, k ∈ ls) : FrC ls σ τ := fun k a b => h k a (fun q => b (e k q))
theorem FrC.put {z v : Int} (h : FrC ks σ τ) (hk : k ∈ ks) : FrC ks σ (sA k z v τ) := fun j a b => by
  rw [sA_k (fun e => b (by rw [e]; exact hk))]
  exact h j a b
theorem FrC.arr {a : Nat} {z v : Int} (h : FrC ks σ τ) : FrC ks σ (sA (1000 + a) z v τ) := fun j q b => by
  rw [sA_k (by omega)]
  exact h j q b
theorem FrC.lng {a : Nat} {z : Int} {v : Int64} (h : FrC ks σ τ) : FrC ks σ (sJ a z v τ) := h
theorem rc_F {z v : Int} (f : FrC ks σ τ) (h : k < 200 ∨ k = 900) (g : k ∉ ks) (e : σ.2.1 k z = v) : τ.2.1 k z = v := by
  rw [f k h g]; exact e
theorem rc_o {j : Nat} {z i w v : Int} (h : k ≠ j) (e : σ.2.1 k z = v) : (sA j i w σ).2.1 k z = v := ra_o h e
theorem rc_a {a : Nat} {z i w v : Int} (h : k < 200 ∨ k = 900) (e : σ.2.1 k z = v) : (sA (1000 + a) i w σ).2.1 k z = v := ra_o (by omega) e
end FRC

