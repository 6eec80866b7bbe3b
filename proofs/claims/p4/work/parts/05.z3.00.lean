/-- the reader: what was made is paid by tokens -/
def RP (σ : MS) (a : Nat) (k : Int) : Prop := ∀ t c : Nat, σ.2.1 33 a = (t : Int) → σ.2.1 35 a = (c : Int) → TKI σ t ∧ σ.2.1 6 c ≤ 4 * σ.2.1 84 t + k
section RPS
variable {T : CT} {σ τ : MS} {a t c n x : Nat} {k j z v : Int} {ks : List Nat}
theorem RP.up (h : RP σ a k) (hj : k ≤ j) : RP σ a j := fun t c q r => ⟨(h t c q r).1, by have := (h t c q r).2; omega⟩
theorem RP.frc (h : RP σ a k) (f : FrC T ks σ τ) (h1 : 33 ∉ ks) (h2 : 35 ∉ ks) (h3 : 6 ∉ ks) (h4 : 84 ∉ ks) (h5 : 85 ∉ ks) : RP τ a k := fun t c q r => by
  rw [f.1 33 (by omega) h1] at q
  rw [f.1 35 (by omega) h2] at r
  obtain ⟨w1, w2⟩ := h t c q r
  unfold TKI at *
  rw [f.1 84 (by omega) h4, f.1 85 (by omega) h5, f.1 6 (by omega) h3]
  exact ⟨w1, w2⟩
theorem RP.put (h : RP σ a k) (hn : n ≠ 33 ∧ n ≠ 35 ∧ n ≠ 6 ∧ n ≠ 84 ∧ n ≠ 85) : RP (sA n z v σ) a k := fun t c q r => by
  rw [sA_k (by omega)] at q
  rw [sA_k (by omega)] at r
  obtain ⟨w1, w2⟩ := h t c q r
  unfold TKI at *
  rw [sA_k (by omega), sA_k (by omega), sA_k (by omega)]
  exact ⟨w1, w2⟩
theorem RP.row {f : Int → Int} (h : RP σ a k) : RP (rowS (1000 + x) f σ) a k := fun t c q r => by
  rw [rowS_ne (by omega)] at q
  rw [rowS_ne (by omega)] at r
  obtain ⟨w1, w2⟩ := h t c q r
  unfold TKI at *
  rw [rowS_ne (by omega), rowS_ne (by omega), rowS_ne (by omega)]
  exact ⟨w1, w2⟩
theorem RP.arr (h : RP σ a k) : RP (sA (1000 + x) z v σ) a k := by rw [sA_row]; exact h.row
theorem RP.next (h : RP σ a k) (ht : σ.2.1 33 a = (t : Int)) (f : FrC T ks σ τ) (h1 : 33 ∉ ks) (h2 : 35 ∉ ks) (h3 : 6 ∉ ks) (hT : TKI τ t) (hle : σ.2.1 84 t ≤ τ.2.1 84 t) : RP τ a k := fun t2 c q r => by
  rw [f.1 33 (by omega) h1] at q
  rw [f.1 35 (by omega) h2] at r
  have e : t2 = t := by omega
  subst e
  obtain ⟨w1, w2⟩ := h t2 c q r
  rw [f.1 6 (by omega) h3]
  exact ⟨hT, by omega⟩
theorem RP.next4 (h : RP σ a k) (ht : σ.2.1 33 a = (t : Int)) (f : FrC T ks σ τ) (h1 : 33 ∉ ks) (h2 : 35 ∉ ks) (h3 : 6 ∉ ks) (hT : TKI τ t) (hA : ADV σ τ t) (hk : σ.2.1 85 t ≠ 0 ∧ σ.2.1 85 t ≠ 263 ∧ σ.2.1 85 t ≠ 264) : RP τ a (k - 4) := fun t2 c q r => by
  rw [f.1 33 (by omega) h1] at q
  rw [f.1 35 (by omega) h2] at r
  have e : t2 = t := by omega
  subst e
  obtain ⟨w1, w2⟩ := h t2 c q r
  have w3 := hA hk.1 hk.2.1 hk.2.2
  rw [f.1 6 (by omega) h3]
  exact ⟨hT, by omega⟩
theorem RP.app (h : RP σ a k) (hc : σ.2.1 35 a = (c : Int)) (f : FrC T ks σ τ) (h1 : 33 ∉ ks) (h2 : 35 ∉ ks) (h3 : 84 ∉ ks) (h4 : 85 ∉ ks) (h6 : τ.2.1 6 c = σ.2.1 6 c + 1) : RP τ a (k + 1) := fun t c2 q r => by
  rw [f.1 33 (by omega) h1] at q
  rw [f.1 35 (by omega) h2] at r
  have e : c2 = c := by omega
  subst e
  obtain ⟨w1, w2⟩ := h t c2 q r
  unfold TKI at *
  rw [f.1 84 (by omega) h3, f.1 85 (by omega) h4, h6]
  exact ⟨w1, by omega⟩
theorem RP.tk (h : RP σ a k) (hw : WT T σ) (ha : OB T a 5) (ht : σ.2.1 33 a = (t : Int)) : TKI σ t := by
  obtain ⟨c, hc, -⟩ := wf_35 hw ha
  exact (h t c ht hc).1
theorem RP.cnt (h : RP σ a k) (hw : WT T σ) (ha : OB T a 5) (hc : σ.2.1 35 a = (c : Int)) (hk : k ≤ 190) : σ.2.1 6 c ≤ 4999 := by
  obtain ⟨t, ht, hk2⟩ := wf_33 hw ha
  have ob : OB T t 9 := ⟨by omega, by rw [hk2]; rfl, by omega⟩
  have w := (h t c ht hc).2
  have q := wf_84 hw ob
  omega
end RPS

