theorem vok_12 {i v : Int} (hv : -2147483648 ≤ v ∧ v ≤ 2147483647) (h : i = 1200 → v = 0 ∨ v = 263 ∨ v = 264) : VOK 12 i v := ⟨hv, fun e => by omega, fun _ => h, fun e => by omega, fun e => by omega⟩
/-- at the last place there is no token -/
def TKI (σ : MS) (t : Nat) : Prop := σ.2.1 84 t = 1200 → σ.2.1 85 t = 0 ∨ σ.2.1 85 t = 263 ∨ σ.2.1 85 t = 264
/-- a token is taken -/
def ADV (σ τ : MS) (t : Nat) : Prop := σ.2.1 85 t ≠ 0 → σ.2.1 85 t ≠ 263 → σ.2.1 85 t ≠ 264 → τ.2.1 84 t = σ.2.1 84 t + 1
def CAT (r v : Int) : Prop := (0 ≤ v ∧ 0 ≤ r ∧ r ≤ 5) ∨ (v < 0 ∧ (r < 0 ∨ 5 < r))
/-- whose code the found frame goes by -/
def FRV (T : CT) (σ : MS) (a : Nat) : Int := ATV T σ (σ.2.1 59 a).toNat (σ.2.1 70 a)
theorem frv_of {T : CT} {σ : MS} {a x : Nat} {v i : Int} (hx : σ.2.1 59 a = (x : Int)) (hi : σ.2.1 70 a = i) (hv : v = ATV T σ x i) : v = FRV T σ a := by
  unfold FRV; rw [hx, hi]; exact hv
theorem FRV.keep {T T2 : CT} {σ τ : MS} {a : Nat} {ks : List Nat} (hw : WT T σ) (ha : OB T a 7) (g : GT T T2) (f : FrC T ks σ τ) (h1 : 59 ∉ ks) (h2 : 70 ∉ ks) (h3 : 515 ∉ ks) : FRV T2 τ a = FRV T σ a := by
  obtain ⟨x, hx, hk, -⟩ := wf_59 hw ha
  unfold FRV
  rw [f.1 59 (by omega) h1, f.1 70 (by omega) h2, hx]
  show ATV T2 τ x _ = ATV T σ x _
  unfold ATV
  rw [g x (by omega) (by omega), f.2 x (by rw [hk]; unfold HT; omega) (by rw [hk]; exact h3)]
theorem RC.ob {T : CT} {a x : Nat} (h : RC T a x) : OB T x 1 := by
  by_cases q : (T a).1 = 57
  · have w := h.1 q; exact ⟨by omega, by rw [w]; rfl, by omega⟩
  · have w := h.2 q; exact ⟨by omega, by rw [w]; rfl, by omega⟩
/-- the plain run's depth -/
def PIv (σ : MS) (a : Nat) : Prop := σ.2.1 56 a = 1 → σ.2.1 58 a = σ.2.1 57 a + 1
/-- of objects only a was written -/
def FA (a : Nat) (σ τ : MS) : Prop := ∀ (k b : Nat), k < 200 → b ≠ a → τ.2.1 k (b : Int) = σ.2.1 k b
section FAS
variable {a k x : Nat} {σ τ υ : MS} {z v : Int}
theorem FA.rfl : FA a σ σ := fun _ _ _ _ => Eq.refl _
theorem FA.trans (h : FA a σ τ) (g : FA a τ υ) : FA a σ υ := fun k b p q => (g k b p q).trans (h k b p q)
theorem FA.put (h : FA a σ τ) : FA a σ (sA k a v τ) := fun j b p q => by rw [sA_ne (by omega)]; exact h j b p q
theorem FA.arr (h : FA a σ τ) : FA a σ (sA (1000 + x) z v τ) := fun j b p q => by rw [sA_k (by omega)]; exact h j b p q
theorem FA.row {f : Int → Int} (h : FA a σ τ) : FA a σ (rowS (1000 + x) f τ) := fun j b p q => by rw [rowS_ne (by omega)]; exact h j b p q
theorem FA.of {T : CT} {ks : List Nat} (h : FrC T ks σ τ) (hk : ∀ k ∈ ks, 200 ≤ k) : FA a σ τ := fun j b p q => by rw [h.1 j (Or.inl p) (fun w => by have := hk j w; omega)]
end FAS
/-- of a pair: the plain run's depth -/
def PB (σ : MS) (a : Nat) : Prop := ∀ p : Nat, σ.2.1 1 a = (p : Int) → PIv σ p
theorem PB.of {σ : MS} {a x : Nat} (hx : σ.2.1 1 a = (x : Int)) (h : PIv σ x) : PB σ a := fun p q => by
  have e : p = x := by omega
  rw [e]; exact h
theorem PIv.keep {σ τ : MS} {p b : Nat} (h : PIv σ p) (f : FA b σ τ) (hb : p ≠ b) : PIv τ p := by
  unfold PIv; rw [f 56 p (by decide) hb, f 57 p (by decide) hb, f 58 p (by decide) hb]; exact h
theorem PIv.frc {T : CT} {ks : List Nat} {σ τ : MS} {p : Nat} (h : PIv σ p) (f : FrC T ks σ τ) (h1 : 56 ∉ ks) (h2 : 57 ∉ ks) (h3 : 58 ∉ ks) : PIv τ p := by
  unfold PIv; rw [f.1 56 (by omega) h1, f.1 57 (by omega) h2, f.1 58 (by omega) h3]; exact h
theorem PB.frc {T : CT} {ks : List Nat} {σ τ : MS} {a : Nat} (h : PB σ a) (f : FrC T ks σ τ) (h0 : 1 ∉ ks) (h1 : 56 ∉ ks) (h2 : 57 ∉ ks) (h3 : 58 ∉ ks) : PB τ a := fun p q => (h p (by rw [← f.1 1 (by omega) h0]; exact q)).frc f h1 h2 h3

