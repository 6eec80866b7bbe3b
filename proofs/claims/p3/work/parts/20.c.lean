/-! what each field may hold -/
def cls (n : Nat) : Nat := if n < 5 then 0 else if n < 17 then 1 else if n < 18 then 2 else if n < 23 then 3 else if n < 33 then 4 else if n < 52 then 5 else if n < 55 then 6 else if n < 72 then 7 else if n < 81 then 8 else if n < 88 then 9 else if n < 95 then 10 else if n < 111 then 11 else 99
def AR (T : CT) (x k : Nat) (lo hi : Nat) : Prop := (T x).1 = k ∧ lo ≤ (T x).2 ∧ (T x).2 ≤ hi
def FOL : List (CT → Int → Prop) := [
  (fun T v => ∃ x : Nat, v = (x : Int) ∧ ((T x).1 = 37)),
  (fun T v => ∃ x : Nat, v = (x : Int) ∧ ((T x).1 = 37)),
  (fun _ _ => True),
  (fun _ _ => True),
  (fun _ _ => True),
  (fun T v => ∃ x : Nat, v = (x : Int) ∧ (AR T x 1 208 2600)),
  (fun T v => (0 : Int) ≤ v ∧ v ≤ 5000),
  (fun T v => (0 : Int) ≤ v ∧ v ≤ 12),
  (fun T v => (0 : Int) ≤ v ∧ v ≤ 4),
  (fun _ _ => True),
  (fun T v => (0 : Int) ≤ v ∧ v ≤ 12),
  (fun T v => ∃ x : Nat, v = (x : Int) ∧ (AR T x 1 12 12)),
  (fun T v => ∃ x : Nat, v = (x : Int) ∧ (AR T x 1 12 12)),
  (fun T v => ∃ x : Nat, v = (x : Int) ∧ (AR T x 1 12 12)),
  (fun T v => ∃ x : Nat, v = (x : Int) ∧ (AR T x 11 12 12)),
  (fun T v => ∃ x : Nat, v = (x : Int) ∧ (AR T x 1 144 144)),
  (fun T v => ∃ x : Nat, v = (x : Int) ∧ (AR T x 1 13 13)),
  (fun T v => ∃ x : Nat, v = (x : Int) ∧ ((T x).1 = 33)),
  (fun T v => ∃ x : Nat, v = (x : Int) ∧ (AR T x 3 603 603)),
  (fun T v => ∃ x : Nat, v = (x : Int) ∧ (AR T x 3 3 3)),
  (fun T v => ∃ x : Nat, v = (x : Int) ∧ (AR T x 1 201 201)),
  (fun T v => ∃ x : Nat, v = (x : Int) ∧ (AR T x 1 201 201)),
  (fun _ _ => True),
  (fun T v => ∃ x : Nat, v = (x : Int) ∧ ((T x).1 = 33)),
  (fun T v => ∃ x : Nat, v = (x : Int) ∧ (AR T x 1 8 8)),
  (fun T v => v < 0 ∨ ∃ x : Nat, v = (x : Int) ∧ ((T x).1 = 50)),
  (fun T v => v < 0 ∨ ∃ x : Nat, v = (x : Int) ∧ ((T x).1 = 50)),
  (fun _ _ => True),
  (fun _ _ => True),
  (fun _ _ => True),
  (fun _ _ => True),
  (fun _ _ => True),
  (fun _ _ => True),
  (fun T v => ∃ x : Nat, v = (x : Int) ∧ ((T x).1 = 39)),
  (fun T v => ∃ x : Nat, v = (x : Int) ∧ (AR T x 4 7 7)),
  (fun T v => ∃ x : Nat, v = (x : Int) ∧ ((T x).1 = 31)),
  (fun T v => ∃ x : Nat, v = (x : Int) ∧ (AR T x 1 256 256)),
  (fun T v => ∃ x : Nat, v = (x : Int) ∧ (AR T x 1 256 256)),
  (fun T v => (0 : Int) ≤ v ∧ v ≤ 256),
  (fun T v => ∃ x : Nat, v = (x : Int) ∧ (AR T x 1 256 256)),
  (fun T v => ∃ x : Nat, v = (x : Int) ∧ (AR T x 1 256 256)),
  (fun T v => ∃ x : Nat, v = (x : Int) ∧ (AR T x 1 256 256)),
  (fun T v => (0 : Int) ≤ v ∧ v ≤ 256),
  (fun _ _ => True),
  (fun _ _ => True),
  (fun _ _ => True),
  (fun _ _ => True),
  (fun _ _ => True),
  (fun T v => ∃ x : Nat, v = (x : Int) ∧ (AR T x 1 12 12)),
  (fun T v => ∃ x : Nat, v = (x : Int) ∧ (AR T x 1 8 8)),
  (fun _ _ => True),
  (fun _ _ => True),
  (fun T v => ∃ x : Nat, v = (x : Int) ∧ (AR T x 1 192 192)),
  (fun T v => ∃ x : Nat, v = (x : Int) ∧ (AR T x 1 192 192)),
  (fun T v => ∃ x : Nat, v = (x : Int) ∧ (AR T x 3 3 3)),
  (fun T v => ∃ x : Nat, v = (x : Int) ∧ (AR T x 4 6 6 ∨ AR T x 5 6 6)),
  (fun _ _ => True),
  (fun _ _ => True),
  (fun _ _ => True),
  (fun T v => ∃ x : Nat, v = (x : Int) ∧ (AR T x 1 9 9)),
  (fun T v => ∃ x : Nat, v = (x : Int) ∧ (AR T x 1 9 9)),
  (fun T v => ∃ x : Nat, v = (x : Int) ∧ (AR T x 1 9 9)),
  (fun T v => ∃ x : Nat, v = (x : Int) ∧ (AR T x 1 108 108)),
  (fun T v => ∃ x : Nat, v = (x : Int) ∧ (AR T x 1 1728 1728)),
  (fun T v => ∃ x : Nat, v = (x : Int) ∧ (AR T x 1 200 200)),
  (fun _ _ => True),
  (fun _ _ => True),
  (fun _ _ => True),
  (fun _ _ => True),
  (fun T v => v < 0 ∨ ∃ x : Nat, v = (x : Int) ∧ ((T x).1 = 31 ∨ (T x).1 = 50)),
  (fun _ _ => True),
  (fun _ _ => True),
  (fun T v => ∃ x : Nat, v = (x : Int) ∧ ((T x).1 = 33)),
  (fun T v => ∃ x : Nat, v = (x : Int) ∧ (AR T x 3 576 576)),
  (fun T v => ∃ x : Nat, v = (x : Int) ∧ (AR T x 3 3 3)),
  (fun T v => ∃ x : Nat, v = (x : Int) ∧ (AR T x 1 192 192)),
  (fun T v => ∃ x : Nat, v = (x : Int) ∧ (AR T x 3 576 576)),
  (fun T v => ∃ x : Nat, v = (x : Int) ∧ (AR T x 3 603 603)),
  (fun T v => ∃ x : Nat, v = (x : Int) ∧ (AR T x 1 201 201)),
  (fun T v => ∃ x : Nat, v = (x : Int) ∧ (AR T x 3 3 3)),
  (fun T v => (0 : Int) ≤ v ∧ v ≤ 1),
  (fun T v => ∃ x : Nat, v = (x : Int) ∧ (AR T x 1 1201 1201)),
  (fun T v => ∃ x : Nat, v = (x : Int) ∧ (AR T x 1 1201 1201)),
  (fun T v => ∃ x : Nat, v = (x : Int) ∧ (AR T x 1 1201 1201)),
  (fun T v => (-1 : Int) ≤ v ∧ v ≤ 1200),
  (fun _ _ => True),
  (fun _ _ => True),
  (fun _ _ => True),
  (fun T v => ∃ x : Nat, v = (x : Int) ∧ (AR T x 7 6 6)),
  (fun T v => ∃ x : Nat, v = (x : Int) ∧ (AR T x 1 6 6)),
  (fun T v => ∃ x : Nat, v = (x : Int) ∧ (AR T x 1 200 200)),
  (fun T v => ∃ x : Nat, v = (x : Int) ∧ (AR T x 1 145 145)),
  (fun T v => v < 0 ∨ ∃ x : Nat, v = (x : Int) ∧ (AR T x 1 0 32788)),
  (fun T v => (0 : Int) ≤ v ∧ v ≤ 145),
  (fun T v => (0 : Int) ≤ v ∧ v ≤ 1),
  (fun T v => ∃ x : Nat, v = (x : Int) ∧ (AR T x 2 1200 1200)),
  (fun T v => (0 : Int) ≤ v ∧ v ≤ 1200),
  (fun T v => (0 : Int) ≤ v ∧ v ≤ 6),
  (fun T v => ∃ x : Nat, v = (x : Int) ∧ (AR T x 4 6 6)),
  (fun T v => ∃ x : Nat, v = (x : Int) ∧ (AR T x 5 6 6)),
  (fun T v => ∃ x : Nat, v = (x : Int) ∧ ((T x).1 = 35)),
  (fun T v => ∃ x : Nat, v = (x : Int) ∧ ((T x).1 = 33)),
  (fun T v => ∃ x : Nat, v = (x : Int) ∧ ((T x).1 = 40)),
  (fun T v => ∃ x : Nat, v = (x : Int) ∧ ((T x).1 = 37)),
  (fun _ _ => True),
  (fun _ _ => True),
  (fun T v => ∃ x : Nat, v = (x : Int) ∧ ((T x).1 = 36)),
  (fun T v => ∃ x : Nat, v = (x : Int) ∧ ((T x).1 = 32)),
  (fun T v => ∃ x : Nat, v = (x : Int) ∧ ((T x).1 = 34)),
  (fun T v => ∃ x : Nat, v = (x : Int) ∧ ((T x).1 = 38)),
  (fun T v => v < 0 ∨ ∃ x : Nat, v = (x : Int) ∧ ((T x).1 = 30))]
def FO (n : Nat) (T : CT) (v : Int) : Prop := (FOL.getD n (fun _ _ => True)) T v
/-- small numbers, rows of codes, tables -/
def WTA (T : CT) (σ : MS) : Prop := (∀ a, (T a).1 = 11 → ∀ i, 0 ≤ σ.2.1 (1000 + a) i ∧ σ.2.1 (1000 + a) i ≤ 12) ∧ (∀ a, (T a).1 = 4 → ∀ i, 0 ≤ i → i < ((T a).2 : Int) → ∃ x : Nat, σ.2.1 (1000 + a) i = (x : Int) ∧ (T x).1 = 31) ∧ (∀ a, (T a).1 = 5 → ∀ i, 0 ≤ i → i < ((T a).2 : Int) → ∃ x : Nat, σ.2.1 (1000 + a) i = (x : Int) ∧ (T x).1 = 50) ∧ (∀ i, 0 ≤ i → i < 6 → σ.2.1 900 i < 0 ∨ ∃ x : Nat, σ.2.1 900 i = (x : Int) ∧ AR T x 1 0 32788)
def WT (T : CT) (σ : MS) : Prop := (∀ n a, n < 111 → OB T a (cls n) → FO n T (σ.2.1 n a)) ∧ (∀ a, (T a).1 = 50 → σ.2.1 6 a ≤ 200) ∧ WTA T σ ∧ RG σ
section WTS
variable {T : CT} {σ τ : MS} {n a : Nat} {v z : Int}
theorem WTA.fld (h : WTA T σ) (hn : n < 200) : WTA T (sA n z v σ) := by
  obtain ⟨h1, h2, h3, h4⟩ := h
  refine ⟨fun b q => ?_, fun b q => ?_, fun b q => ?_, ?_⟩
  · rw [sA_k (by omega)]; exact h1 b q
  · rw [sA_k (by omega)]; exact h2 b q
  · rw [sA_k (by omega)]; exact h3 b q
  · rw [sA_k (by omega)]; exact h4
/-- a field is written -/
theorem WT.put (h : WT T σ) (hn : n < 111) (hv : FO n T v) (hr : inR v) (h6 : n = 6 → (T a).1 = 50 → v ≤ 200) : WT T (sA n a v σ) := by
  obtain ⟨h1, h2, h3, h4⟩ := h
  refine ⟨fun m b q w => ?_, fun b q => ?_, h3.fld (by omega), h4.A hr⟩
  · by_cases e : m = n
    · by_cases f : b = a
      · rw [e, f, show (sA n a v σ).2.1 n a = v from ra_eq]; exact hv
      · rw [sA_ne (by omega)]; exact h1 m b q w
    · rw [sA_k e]; exact h1 m b q w
  · by_cases e : 6 = n
    · by_cases f : b = a
      · rw [← e, f, show (sA 6 a v σ).2.1 6 a = v from ra_eq]; exact h6 e.symm (by rw [← f]; exact q)
      · rw [sA_ne (by omega)]; exact h2 b q
    · rw [sA_k e]; exact h2 b q
/-- a number of an array is written -/
theorem WT.arr (h : WT T σ) (ha : (T a).1 = 1 ∨ (T a).1 = 11 ∨ (T a).1 = 2) (hv : (T a).1 = 11 → 0 ≤ v ∧ v ≤ 12) (hr : inR v) : WT T (sA (1000 + a) z v σ) := by
  obtain ⟨h1, h2, ⟨h3, h5, h6, h7⟩, h4⟩ := h
  refine ⟨fun m b q w => by rw [sA_k (by omega)]; exact h1 m b q w, fun b q => by rw [sA_k (by omega)]; exact h2 b q, ⟨fun b q i => ?_, fun b q => ?_, fun b q => ?_, by rw [sA_k (by omega)]; exact h7⟩, h4.A hr⟩
  · by_cases f : b = a
    · by_cases g : i = z
      · rw [f, g, show (sA (1000 + a) z v σ).2.1 (1000 + a) z = v from ra_eq]; exact hv (by rw [← f]; exact q)
      · rw [sA_ne g]; exact h3 b q i
    · rw [sA_k (by omega)]; exact h3 b q i
  · have hb : b ≠ a := fun e => by rw [e] at q; omega
    rw [sA_k (by omega)]; exact h5 b q
  · have hb : b ≠ a := fun e => by rw [e] at q; omega
    rw [sA_k (by omega)]; exact h6 b q
theorem WT.lng {w : Int64} (h : WT T σ) : WT T (sJ n z w σ) := h
end WTS
/-- of the fields only these were written -/
def FrC (ks : List Nat) (σ τ : MS) : Prop := ∀ k, (k < 200 ∨ k = 900) → k ∉ ks → τ.2.1 k = σ.2.1 k
section FRC
variable {ks ls : List Nat} {σ τ υ : MS} {k : Nat}
theorem FrC.rfl : FrC ks σ σ := fun _ _ _ => Eq.refl _
theorem FrC.trans (h : FrC ks σ τ) (g : FrC ks τ υ) : FrC ks σ υ := fun k a b => (g k a b).trans (h k a b)
theorem FrC.sub (h : FrC ks σ τ) (e : ∀ k ∈ ks, k ∈ ls) : FrC ls σ τ := fun k a b => h k a (fun q => b (e k q))
theorem FrC.put {z v : Int} (h : FrC ks σ τ) (hk : k ∈ ks) : FrC ks σ (sA k z v τ) := fun j a b => by
  rw [sA_k (fun e => b (by rw [e]; exact hk))]
  exact h j a b
theorem FrC.arr {a : Nat} {z v : Int} (h : FrC ks σ τ) : FrC ks σ (sA (1000 + a) z v τ) := fun j q b => by
  rw [sA_k (by omega)]
  exact h j q b
theorem FrC.lng {a : Nat} {z : Int} {v : Int64} (h : FrC ks σ τ) : FrC ks σ (sJ a z v τ) := h
theorem rc_F {z v : Int} (f : FrC ks σ τ) (h : k < 200 ∨ k = 900) (g : k ∉ ks) (e : σ.2.1 k z = v) : τ.2.1 k z = v := by
  rw [f k h g]; exact e
theorem rc_o {j : Nat} {z i w v : Int} (h : k ≠ j) (e : σ.2.1 k z = v) : (sA j i w σ).2.1 k z = v := ra_o h e
theorem rc_a {a : Nat} {z i w v : Int} (h : k < 200 ∨ k = 900) (e : σ.2.1 k z = v) : (sA (1000 + a) i w σ).2.1 k z = v := ra_o (by omega) e
end FRC

section WFS
variable {T : CT} {σ : MS} {a : Nat} {v : Int}
theorem wf_0 (h : WT T σ) (ha : OB T a 0) : ∃ x : Nat, σ.2.1 0 a = (x : Int) ∧ ((T x).1 = 37) := h.1 0 a (by decide) ha
theorem fo_0 (h : ∃ x : Nat, v = (x : Int) ∧ ((T x).1 = 37)) : FO 0 T v := h
theorem wf_1 (h : WT T σ) (ha : OB T a 0) : ∃ x : Nat, σ.2.1 1 a = (x : Int) ∧ ((T x).1 = 37) := h.1 1 a (by decide) ha
theorem fo_1 (h : ∃ x : Nat, v = (x : Int) ∧ ((T x).1 = 37)) : FO 1 T v := h
theorem fo_2 : FO 2 T v := trivial
theorem fo_3 : FO 3 T v := trivial
theorem fo_4 : FO 4 T v := trivial
theorem wf_5 (h : WT T σ) (ha : OB T a 1) : ∃ x : Nat, σ.2.1 5 a = (x : Int) ∧ (AR T x 1 208 2600) := h.1 5 a (by decide) ha
theorem fo_5 (h : ∃ x : Nat, v = (x : Int) ∧ (AR T x 1 208 2600)) : FO 5 T v := h
theorem wf_6 (h : WT T σ) (ha : OB T a 1) : (0 : Int) ≤ σ.2.1 6 a ∧ σ.2.1 6 a ≤ 5000 := h.1 6 a (by decide) ha
theorem fo_6 (h : (0 : Int) ≤ v ∧ v ≤ 5000) : FO 6 T v := h
theorem wf_7 (h : WT T σ) (ha : OB T a 1) : (0 : Int) ≤ σ.2.1 7 a ∧ σ.2.1 7 a ≤ 12 := h.1 7 a (by decide) ha
theorem fo_7 (h : (0 : Int) ≤ v ∧ v ≤ 12) : FO 7 T v := h
theorem wf_8 (h : WT T σ) (ha : OB T a 1) : (0 : Int) ≤ σ.2.1 8 a ∧ σ.2.1 8 a ≤ 4 := h.1 8 a (by decide) ha
theorem fo_8 (h : (0 : Int) ≤ v ∧ v ≤ 4) : FO 8 T v := h
theorem fo_9 : FO 9 T v := trivial
theorem wf_10 (h : WT T σ) (ha : OB T a 1) : (0 : Int) ≤ σ.2.1 10 a ∧ σ.2.1 10 a ≤ 12 := h.1 10 a (by decide) ha
theorem fo_10 (h : (0 : Int) ≤ v ∧ v ≤ 12) : FO 10 T v := h
theorem wf_11 (h : WT T σ) (ha : OB T a 1) : ∃ x : Nat, σ.2.1 11 a = (x : Int) ∧ (AR T x 1 12 12) := h.1 11 a (by decide) ha
theorem fo_11 (h : ∃ x : Nat, v = (x : Int) ∧ (AR T x 1 12 12)) : FO 11 T v := h
theorem wf_12 (h : WT T σ) (ha : OB T a 1) : ∃ x : Nat, σ.2.1 12 a = (x : Int) ∧ (AR T x 1 12 12) := h.1 12 a (by decide) ha
theorem fo_12 (h : ∃ x : Nat, v = (x : Int) ∧ (AR T x 1 12 12)) : FO 12 T v := h
theorem wf_13 (h : WT T σ) (ha : OB T a 1) : ∃ x : Nat, σ.2.1 13 a = (x : Int) ∧ (AR T x 1 12 12) := h.1 13 a (by decide) ha
theorem fo_13 (h : ∃ x : Nat, v = (x : Int) ∧ (AR T x 1 12 12)) : FO 13 T v := h
theorem wf_14 (h : WT T σ) (ha : OB T a 1) : ∃ x : Nat, σ.2.1 14 a = (x : Int) ∧ (AR T x 11 12 12) := h.1 14 a (by decide) ha
theorem fo_14 (h : ∃ x : Nat, v = (x : Int) ∧ (AR T x 11 12 12)) : FO 14 T v := h
theorem wf_15 (h : WT T σ) (ha : OB T a 1) : ∃ x : Nat, σ.2.1 15 a = (x : Int) ∧ (AR T x 1 144 144) := h.1 15 a (by decide) ha
theorem fo_15 (h : ∃ x : Nat, v = (x : Int) ∧ (AR T x 1 144 144)) : FO 15 T v := h
theorem wf_16 (h : WT T σ) (ha : OB T a 1) : ∃ x : Nat, σ.2.1 16 a = (x : Int) ∧ (AR T x 1 13 13) := h.1 16 a (by decide) ha
theorem fo_16 (h : ∃ x : Nat, v = (x : Int) ∧ (AR T x 1 13 13)) : FO 16 T v := h
theorem wf_17 (h : WT T σ) (ha : OB T a 2) : ∃ x : Nat, σ.2.1 17 a = (x : Int) ∧ ((T x).1 = 33) := h.1 17 a (by decide) ha
theorem fo_17 (h : ∃ x : Nat, v = (x : Int) ∧ ((T x).1 = 33)) : FO 17 T v := h
theorem wf_18 (h : WT T σ) (ha : OB T a 3) : ∃ x : Nat, σ.2.1 18 a = (x : Int) ∧ (AR T x 3 603 603) := h.1 18 a (by decide) ha
theorem fo_18 (h : ∃ x : Nat, v = (x : Int) ∧ (AR T x 3 603 603)) : FO 18 T v := h
theorem wf_19 (h : WT T σ) (ha : OB T a 3) : ∃ x : Nat, σ.2.1 19 a = (x : Int) ∧ (AR T x 3 3 3) := h.1 19 a (by decide) ha
theorem fo_19 (h : ∃ x : Nat, v = (x : Int) ∧ (AR T x 3 3 3)) : FO 19 T v := h
theorem wf_20 (h : WT T σ) (ha : OB T a 3) : ∃ x : Nat, σ.2.1 20 a = (x : Int) ∧ (AR T x 1 201 201) := h.1 20 a (by decide) ha
theorem fo_20 (h : ∃ x : Nat, v = (x : Int) ∧ (AR T x 1 201 201)) : FO 20 T v := h
theorem wf_21 (h : WT T σ) (ha : OB T a 3) : ∃ x : Nat, σ.2.1 21 a = (x : Int) ∧ (AR T x 1 201 201) := h.1 21 a (by decide) ha
theorem fo_21 (h : ∃ x : Nat, v = (x : Int) ∧ (AR T x 1 201 201)) : FO 21 T v := h
theorem fo_22 : FO 22 T v := trivial
theorem wf_23 (h : WT T σ) (ha : OB T a 4) : ∃ x : Nat, σ.2.1 23 a = (x : Int) ∧ ((T x).1 = 33) := h.1 23 a (by decide) ha
theorem fo_23 (h : ∃ x : Nat, v = (x : Int) ∧ ((T x).1 = 33)) : FO 23 T v := h
theorem wf_24 (h : WT T σ) (ha : OB T a 4) : ∃ x : Nat, σ.2.1 24 a = (x : Int) ∧ (AR T x 1 8 8) := h.1 24 a (by decide) ha
theorem fo_24 (h : ∃ x : Nat, v = (x : Int) ∧ (AR T x 1 8 8)) : FO 24 T v := h
theorem wf_25 (h : WT T σ) (ha : OB T a 4) : σ.2.1 25 a < 0 ∨ ∃ x : Nat, σ.2.1 25 a = (x : Int) ∧ ((T x).1 = 50) := h.1 25 a (by decide) ha
theorem fo_25 (h : v < 0 ∨ ∃ x : Nat, v = (x : Int) ∧ ((T x).1 = 50)) : FO 25 T v := h
theorem wf_26 (h : WT T σ) (ha : OB T a 4) : σ.2.1 26 a < 0 ∨ ∃ x : Nat, σ.2.1 26 a = (x : Int) ∧ ((T x).1 = 50) := h.1 26 a (by decide) ha
theorem fo_26 (h : v < 0 ∨ ∃ x : Nat, v = (x : Int) ∧ ((T x).1 = 50)) : FO 26 T v := h
theorem fo_27 : FO 27 T v := trivial
theorem fo_28 : FO 28 T v := trivial
theorem fo_29 : FO 29 T v := trivial
theorem fo_30 : FO 30 T v := trivial
theorem fo_31 : FO 31 T v := trivial
theorem fo_32 : FO 32 T v := trivial
theorem wf_33 (h : WT T σ) (ha : OB T a 5) : ∃ x : Nat, σ.2.1 33 a = (x : Int) ∧ ((T x).1 = 39) := h.1 33 a (by decide) ha
theorem fo_33 (h : ∃ x : Nat, v = (x : Int) ∧ ((T x).1 = 39)) : FO 33 T v := h
theorem wf_34 (h : WT T σ) (ha : OB T a 5) : ∃ x : Nat, σ.2.1 34 a = (x : Int) ∧ (AR T x 4 7 7) := h.1 34 a (by decide) ha
theorem fo_34 (h : ∃ x : Nat, v = (x : Int) ∧ (AR T x 4 7 7)) : FO 34 T v := h
theorem wf_35 (h : WT T σ) (ha : OB T a 5) : ∃ x : Nat, σ.2.1 35 a = (x : Int) ∧ ((T x).1 = 31) := h.1 35 a (by decide) ha
theorem fo_35 (h : ∃ x : Nat, v = (x : Int) ∧ ((T x).1 = 31)) : FO 35 T v := h
theorem wf_36 (h : WT T σ) (ha : OB T a 5) : ∃ x : Nat, σ.2.1 36 a = (x : Int) ∧ (AR T x 1 256 256) := h.1 36 a (by decide) ha
theorem fo_36 (h : ∃ x : Nat, v = (x : Int) ∧ (AR T x 1 256 256)) : FO 36 T v := h
theorem wf_37 (h : WT T σ) (ha : OB T a 5) : ∃ x : Nat, σ.2.1 37 a = (x : Int) ∧ (AR T x 1 256 256) := h.1 37 a (by decide) ha
theorem fo_37 (h : ∃ x : Nat, v = (x : Int) ∧ (AR T x 1 256 256)) : FO 37 T v := h
theorem wf_38 (h : WT T σ) (ha : OB T a 5) : (0 : Int) ≤ σ.2.1 38 a ∧ σ.2.1 38 a ≤ 256 := h.1 38 a (by decide) ha
theorem fo_38 (h : (0 : Int) ≤ v ∧ v ≤ 256) : FO 38 T v := h
theorem wf_39 (h : WT T σ) (ha : OB T a 5) : ∃ x : Nat, σ.2.1 39 a = (x : Int) ∧ (AR T x 1 256 256) := h.1 39 a (by decide) ha
theorem fo_39 (h : ∃ x : Nat, v = (x : Int) ∧ (AR T x 1 256 256)) : FO 39 T v := h
theorem wf_40 (h : WT T σ) (ha : OB T a 5) : ∃ x : Nat, σ.2.1 40 a = (x : Int) ∧ (AR T x 1 256 256) := h.1 40 a (by decide) ha
theorem fo_40 (h : ∃ x : Nat, v = (x : Int) ∧ (AR T x 1 256 256)) : FO 40 T v := h
theorem wf_41 (h : WT T σ) (ha : OB T a 5) : ∃ x : Nat, σ.2.1 41 a = (x : Int) ∧ (AR T x 1 256 256) := h.1 41 a (by decide) ha
theorem fo_41 (h : ∃ x : Nat, v = (x : Int) ∧ (AR T x 1 256 256)) : FO 41 T v := h
theorem wf_42 (h : WT T σ) (ha : OB T a 5) : (0 : Int) ≤ σ.2.1 42 a ∧ σ.2.1 42 a ≤ 256 := h.1 42 a (by decide) ha
theorem fo_42 (h : (0 : Int) ≤ v ∧ v ≤ 256) : FO 42 T v := h
theorem fo_43 : FO 43 T v := trivial
theorem fo_44 : FO 44 T v := trivial
theorem fo_45 : FO 45 T v := trivial
theorem fo_46 : FO 46 T v := trivial
theorem fo_47 : FO 47 T v := trivial
theorem wf_48 (h : WT T σ) (ha : OB T a 5) : ∃ x : Nat, σ.2.1 48 a = (x : Int) ∧ (AR T x 1 12 12) := h.1 48 a (by decide) ha
theorem fo_48 (h : ∃ x : Nat, v = (x : Int) ∧ (AR T x 1 12 12)) : FO 48 T v := h
theorem wf_49 (h : WT T σ) (ha : OB T a 5) : ∃ x : Nat, σ.2.1 49 a = (x : Int) ∧ (AR T x 1 8 8) := h.1 49 a (by decide) ha
theorem fo_49 (h : ∃ x : Nat, v = (x : Int) ∧ (AR T x 1 8 8)) : FO 49 T v := h
theorem fo_50 : FO 50 T v := trivial
theorem fo_51 : FO 51 T v := trivial
theorem wf_52 (h : WT T σ) (ha : OB T a 6) : ∃ x : Nat, σ.2.1 52 a = (x : Int) ∧ (AR T x 1 192 192) := h.1 52 a (by decide) ha
theorem fo_52 (h : ∃ x : Nat, v = (x : Int) ∧ (AR T x 1 192 192)) : FO 52 T v := h
theorem wf_53 (h : WT T σ) (ha : OB T a 6) : ∃ x : Nat, σ.2.1 53 a = (x : Int) ∧ (AR T x 1 192 192) := h.1 53 a (by decide) ha
theorem fo_53 (h : ∃ x : Nat, v = (x : Int) ∧ (AR T x 1 192 192)) : FO 53 T v := h
theorem wf_54 (h : WT T σ) (ha : OB T a 6) : ∃ x : Nat, σ.2.1 54 a = (x : Int) ∧ (AR T x 3 3 3) := h.1 54 a (by decide) ha
theorem fo_54 (h : ∃ x : Nat, v = (x : Int) ∧ (AR T x 3 3 3)) : FO 54 T v := h
theorem wf_55 (h : WT T σ) (ha : OB T a 7) : ∃ x : Nat, σ.2.1 55 a = (x : Int) ∧ (AR T x 4 6 6 ∨ AR T x 5 6 6) := h.1 55 a (by decide) ha
theorem fo_55 (h : ∃ x : Nat, v = (x : Int) ∧ (AR T x 4 6 6 ∨ AR T x 5 6 6)) : FO 55 T v := h
theorem fo_56 : FO 56 T v := trivial
theorem fo_57 : FO 57 T v := trivial
theorem fo_58 : FO 58 T v := trivial
theorem wf_59 (h : WT T σ) (ha : OB T a 7) : ∃ x : Nat, σ.2.1 59 a = (x : Int) ∧ (AR T x 1 9 9) := h.1 59 a (by decide) ha
theorem fo_59 (h : ∃ x : Nat, v = (x : Int) ∧ (AR T x 1 9 9)) : FO 59 T v := h
theorem wf_60 (h : WT T σ) (ha : OB T a 7) : ∃ x : Nat, σ.2.1 60 a = (x : Int) ∧ (AR T x 1 9 9) := h.1 60 a (by decide) ha
theorem fo_60 (h : ∃ x : Nat, v = (x : Int) ∧ (AR T x 1 9 9)) : FO 60 T v := h
theorem wf_61 (h : WT T σ) (ha : OB T a 7) : ∃ x : Nat, σ.2.1 61 a = (x : Int) ∧ (AR T x 1 9 9) := h.1 61 a (by decide) ha
theorem fo_61 (h : ∃ x : Nat, v = (x : Int) ∧ (AR T x 1 9 9)) : FO 61 T v := h
theorem wf_62 (h : WT T σ) (ha : OB T a 7) : ∃ x : Nat, σ.2.1 62 a = (x : Int) ∧ (AR T x 1 108 108) := h.1 62 a (by decide) ha
theorem fo_62 (h : ∃ x : Nat, v = (x : Int) ∧ (AR T x 1 108 108)) : FO 62 T v := h
theorem wf_63 (h : WT T σ) (ha : OB T a 7) : ∃ x : Nat, σ.2.1 63 a = (x : Int) ∧ (AR T x 1 1728 1728) := h.1 63 a (by decide) ha
theorem fo_63 (h : ∃ x : Nat, v = (x : Int) ∧ (AR T x 1 1728 1728)) : FO 63 T v := h
theorem wf_64 (h : WT T σ) (ha : OB T a 7) : ∃ x : Nat, σ.2.1 64 a = (x : Int) ∧ (AR T x 1 200 200) := h.1 64 a (by decide) ha
theorem fo_64 (h : ∃ x : Nat, v = (x : Int) ∧ (AR T x 1 200 200)) : FO 64 T v := h
theorem fo_65 : FO 65 T v := trivial
theorem fo_66 : FO 66 T v := trivial
theorem fo_67 : FO 67 T v := trivial
theorem fo_68 : FO 68 T v := trivial
theorem wf_69 (h : WT T σ) (ha : OB T a 7) : σ.2.1 69 a < 0 ∨ ∃ x : Nat, σ.2.1 69 a = (x : Int) ∧ ((T x).1 = 31 ∨ (T x).1 = 50) := h.1 69 a (by decide) ha
theorem fo_69 (h : v < 0 ∨ ∃ x : Nat, v = (x : Int) ∧ ((T x).1 = 31 ∨ (T x).1 = 50)) : FO 69 T v := h
theorem fo_70 : FO 70 T v := trivial
theorem fo_71 : FO 71 T v := trivial
theorem wf_72 (h : WT T σ) (ha : OB T a 8) : ∃ x : Nat, σ.2.1 72 a = (x : Int) ∧ ((T x).1 = 33) := h.1 72 a (by decide) ha
theorem fo_72 (h : ∃ x : Nat, v = (x : Int) ∧ ((T x).1 = 33)) : FO 72 T v := h
theorem wf_73 (h : WT T σ) (ha : OB T a 8) : ∃ x : Nat, σ.2.1 73 a = (x : Int) ∧ (AR T x 3 576 576) := h.1 73 a (by decide) ha
theorem fo_73 (h : ∃ x : Nat, v = (x : Int) ∧ (AR T x 3 576 576)) : FO 73 T v := h
theorem wf_74 (h : WT T σ) (ha : OB T a 8) : ∃ x : Nat, σ.2.1 74 a = (x : Int) ∧ (AR T x 3 3 3) := h.1 74 a (by decide) ha
theorem fo_74 (h : ∃ x : Nat, v = (x : Int) ∧ (AR T x 3 3 3)) : FO 74 T v := h
theorem wf_75 (h : WT T σ) (ha : OB T a 8) : ∃ x : Nat, σ.2.1 75 a = (x : Int) ∧ (AR T x 1 192 192) := h.1 75 a (by decide) ha
theorem fo_75 (h : ∃ x : Nat, v = (x : Int) ∧ (AR T x 1 192 192)) : FO 75 T v := h
theorem wf_76 (h : WT T σ) (ha : OB T a 8) : ∃ x : Nat, σ.2.1 76 a = (x : Int) ∧ (AR T x 3 576 576) := h.1 76 a (by decide) ha
theorem fo_76 (h : ∃ x : Nat, v = (x : Int) ∧ (AR T x 3 576 576)) : FO 76 T v := h
theorem wf_77 (h : WT T σ) (ha : OB T a 8) : ∃ x : Nat, σ.2.1 77 a = (x : Int) ∧ (AR T x 3 603 603) := h.1 77 a (by decide) ha
theorem fo_77 (h : ∃ x : Nat, v = (x : Int) ∧ (AR T x 3 603 603)) : FO 77 T v := h
theorem wf_78 (h : WT T σ) (ha : OB T a 8) : ∃ x : Nat, σ.2.1 78 a = (x : Int) ∧ (AR T x 1 201 201) := h.1 78 a (by decide) ha
theorem fo_78 (h : ∃ x : Nat, v = (x : Int) ∧ (AR T x 1 201 201)) : FO 78 T v := h
theorem wf_79 (h : WT T σ) (ha : OB T a 8) : ∃ x : Nat, σ.2.1 79 a = (x : Int) ∧ (AR T x 3 3 3) := h.1 79 a (by decide) ha
theorem fo_79 (h : ∃ x : Nat, v = (x : Int) ∧ (AR T x 3 3 3)) : FO 79 T v := h
theorem wf_80 (h : WT T σ) (ha : OB T a 8) : (0 : Int) ≤ σ.2.1 80 a ∧ σ.2.1 80 a ≤ 1 := h.1 80 a (by decide) ha
theorem fo_80 (h : (0 : Int) ≤ v ∧ v ≤ 1) : FO 80 T v := h
theorem wf_81 (h : WT T σ) (ha : OB T a 9) : ∃ x : Nat, σ.2.1 81 a = (x : Int) ∧ (AR T x 1 1201 1201) := h.1 81 a (by decide) ha
theorem fo_81 (h : ∃ x : Nat, v = (x : Int) ∧ (AR T x 1 1201 1201)) : FO 81 T v := h
theorem wf_82 (h : WT T σ) (ha : OB T a 9) : ∃ x : Nat, σ.2.1 82 a = (x : Int) ∧ (AR T x 1 1201 1201) := h.1 82 a (by decide) ha
theorem fo_82 (h : ∃ x : Nat, v = (x : Int) ∧ (AR T x 1 1201 1201)) : FO 82 T v := h
theorem wf_83 (h : WT T σ) (ha : OB T a 9) : ∃ x : Nat, σ.2.1 83 a = (x : Int) ∧ (AR T x 1 1201 1201) := h.1 83 a (by decide) ha
theorem fo_83 (h : ∃ x : Nat, v = (x : Int) ∧ (AR T x 1 1201 1201)) : FO 83 T v := h
theorem wf_84 (h : WT T σ) (ha : OB T a 9) : (-1 : Int) ≤ σ.2.1 84 a ∧ σ.2.1 84 a ≤ 1200 := h.1 84 a (by decide) ha
theorem fo_84 (h : (-1 : Int) ≤ v ∧ v ≤ 1200) : FO 84 T v := h
theorem fo_85 : FO 85 T v := trivial
theorem fo_86 : FO 86 T v := trivial
theorem fo_87 : FO 87 T v := trivial
theorem wf_88 (h : WT T σ) (ha : OB T a 10) : ∃ x : Nat, σ.2.1 88 a = (x : Int) ∧ (AR T x 7 6 6) := h.1 88 a (by decide) ha
theorem fo_88 (h : ∃ x : Nat, v = (x : Int) ∧ (AR T x 7 6 6)) : FO 88 T v := h
theorem wf_89 (h : WT T σ) (ha : OB T a 10) : ∃ x : Nat, σ.2.1 89 a = (x : Int) ∧ (AR T x 1 6 6) := h.1 89 a (by decide) ha
theorem fo_89 (h : ∃ x : Nat, v = (x : Int) ∧ (AR T x 1 6 6)) : FO 89 T v := h
theorem wf_90 (h : WT T σ) (ha : OB T a 10) : ∃ x : Nat, σ.2.1 90 a = (x : Int) ∧ (AR T x 1 200 200) := h.1 90 a (by decide) ha
theorem fo_90 (h : ∃ x : Nat, v = (x : Int) ∧ (AR T x 1 200 200)) : FO 90 T v := h
theorem wf_91 (h : WT T σ) (ha : OB T a 10) : ∃ x : Nat, σ.2.1 91 a = (x : Int) ∧ (AR T x 1 145 145) := h.1 91 a (by decide) ha
theorem fo_91 (h : ∃ x : Nat, v = (x : Int) ∧ (AR T x 1 145 145)) : FO 91 T v := h
theorem wf_92 (h : WT T σ) (ha : OB T a 10) : σ.2.1 92 a < 0 ∨ ∃ x : Nat, σ.2.1 92 a = (x : Int) ∧ (AR T x 1 0 32788) := h.1 92 a (by decide) ha
theorem fo_92 (h : v < 0 ∨ ∃ x : Nat, v = (x : Int) ∧ (AR T x 1 0 32788)) : FO 92 T v := h
theorem wf_93 (h : WT T σ) (ha : OB T a 10) : (0 : Int) ≤ σ.2.1 93 a ∧ σ.2.1 93 a ≤ 145 := h.1 93 a (by decide) ha
theorem fo_93 (h : (0 : Int) ≤ v ∧ v ≤ 145) : FO 93 T v := h
theorem wf_94 (h : WT T σ) (ha : OB T a 10) : (0 : Int) ≤ σ.2.1 94 a ∧ σ.2.1 94 a ≤ 1 := h.1 94 a (by decide) ha
theorem fo_94 (h : (0 : Int) ≤ v ∧ v ≤ 1) : FO 94 T v := h
theorem wf_95 (h : WT T σ) (ha : OB T a 11) : ∃ x : Nat, σ.2.1 95 a = (x : Int) ∧ (AR T x 2 1200 1200) := h.1 95 a (by decide) ha
theorem fo_95 (h : ∃ x : Nat, v = (x : Int) ∧ (AR T x 2 1200 1200)) : FO 95 T v := h
theorem wf_96 (h : WT T σ) (ha : OB T a 11) : (0 : Int) ≤ σ.2.1 96 a ∧ σ.2.1 96 a ≤ 1200 := h.1 96 a (by decide) ha
theorem fo_96 (h : (0 : Int) ≤ v ∧ v ≤ 1200) : FO 96 T v := h
theorem wf_97 (h : WT T σ) (ha : OB T a 11) : (0 : Int) ≤ σ.2.1 97 a ∧ σ.2.1 97 a ≤ 6 := h.1 97 a (by decide) ha
theorem fo_97 (h : (0 : Int) ≤ v ∧ v ≤ 6) : FO 97 T v := h
theorem wf_98 (h : WT T σ) (ha : OB T a 11) : ∃ x : Nat, σ.2.1 98 a = (x : Int) ∧ (AR T x 4 6 6) := h.1 98 a (by decide) ha
theorem fo_98 (h : ∃ x : Nat, v = (x : Int) ∧ (AR T x 4 6 6)) : FO 98 T v := h
theorem wf_99 (h : WT T σ) (ha : OB T a 11) : ∃ x : Nat, σ.2.1 99 a = (x : Int) ∧ (AR T x 5 6 6) := h.1 99 a (by decide) ha
theorem fo_99 (h : ∃ x : Nat, v = (x : Int) ∧ (AR T x 5 6 6)) : FO 99 T v := h
theorem wf_100 (h : WT T σ) (ha : OB T a 11) : ∃ x : Nat, σ.2.1 100 a = (x : Int) ∧ ((T x).1 = 35) := h.1 100 a (by decide) ha
theorem fo_100 (h : ∃ x : Nat, v = (x : Int) ∧ ((T x).1 = 35)) : FO 100 T v := h
theorem wf_101 (h : WT T σ) (ha : OB T a 11) : ∃ x : Nat, σ.2.1 101 a = (x : Int) ∧ ((T x).1 = 33) := h.1 101 a (by decide) ha
theorem fo_101 (h : ∃ x : Nat, v = (x : Int) ∧ ((T x).1 = 33)) : FO 101 T v := h
theorem wf_102 (h : WT T σ) (ha : OB T a 11) : ∃ x : Nat, σ.2.1 102 a = (x : Int) ∧ ((T x).1 = 40) := h.1 102 a (by decide) ha
theorem fo_102 (h : ∃ x : Nat, v = (x : Int) ∧ ((T x).1 = 40)) : FO 102 T v := h
theorem wf_103 (h : WT T σ) (ha : OB T a 11) : ∃ x : Nat, σ.2.1 103 a = (x : Int) ∧ ((T x).1 = 37) := h.1 103 a (by decide) ha
theorem fo_103 (h : ∃ x : Nat, v = (x : Int) ∧ ((T x).1 = 37)) : FO 103 T v := h
theorem fo_104 : FO 104 T v := trivial
theorem fo_105 : FO 105 T v := trivial
theorem wf_106 (h : WT T σ) (ha : OB T a 11) : ∃ x : Nat, σ.2.1 106 a = (x : Int) ∧ ((T x).1 = 36) := h.1 106 a (by decide) ha
theorem fo_106 (h : ∃ x : Nat, v = (x : Int) ∧ ((T x).1 = 36)) : FO 106 T v := h
theorem wf_107 (h : WT T σ) (ha : OB T a 11) : ∃ x : Nat, σ.2.1 107 a = (x : Int) ∧ ((T x).1 = 32) := h.1 107 a (by decide) ha
theorem fo_107 (h : ∃ x : Nat, v = (x : Int) ∧ ((T x).1 = 32)) : FO 107 T v := h
theorem wf_108 (h : WT T σ) (ha : OB T a 11) : ∃ x : Nat, σ.2.1 108 a = (x : Int) ∧ ((T x).1 = 34) := h.1 108 a (by decide) ha
theorem fo_108 (h : ∃ x : Nat, v = (x : Int) ∧ ((T x).1 = 34)) : FO 108 T v := h
theorem wf_109 (h : WT T σ) (ha : OB T a 11) : ∃ x : Nat, σ.2.1 109 a = (x : Int) ∧ ((T x).1 = 38) := h.1 109 a (by decide) ha
theorem fo_109 (h : ∃ x : Nat, v = (x : Int) ∧ ((T x).1 = 38)) : FO 109 T v := h
theorem wf_110 (h : WT T σ) (ha : OB T a 11) : σ.2.1 110 a < 0 ∨ ∃ x : Nat, σ.2.1 110 a = (x : Int) ∧ ((T x).1 = 30) := h.1 110 a (by decide) ha
theorem fo_110 (h : v < 0 ∨ ∃ x : Nat, v = (x : Int) ∧ ((T x).1 = 30)) : FO 110 T v := h
end WFS
