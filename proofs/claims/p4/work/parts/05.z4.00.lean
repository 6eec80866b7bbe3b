/-- the tokens stand well -/
def RT (σ : MS) (a : Nat) : Prop := ∀ t : Nat, σ.2.1 33 a = (t : Int) → TKI σ t
section RTS
variable {T : CT} {σ τ : MS} {a t c : Nat} {k : Int} {ks : List Nat}
theorem RT.of (ht : σ.2.1 33 a = (t : Int)) (h : TKI σ t) : RT σ a := fun t2 q => by
  have e : t2 = t := by omega
  rw [e]; exact h
theorem RP.rt (h : RP σ a k) (hw : WT T σ) (ha : OB T a 5) : RT σ a := fun t q => h.tk hw ha q
theorem RT.frc (h : RT σ a) (f : FrC T ks σ τ) (h1 : 33 ∉ ks) (h4 : 84 ∉ ks) (h5 : 85 ∉ ks) : RT τ a := fun t q => by
  rw [f.1 33 (by omega) h1] at q
  have w := h t q
  unfold TKI at *
  rw [f.1 84 (by omega) h4, f.1 85 (by omega) h5]
  exact w
theorem RP.new (ht : RT σ a) (hw : WT T σ) (ha : OB T a 5) (hc : σ.2.1 35 a = (c : Int)) (h6 : σ.2.1 6 c = 0) : RP σ a 4 := fun t c2 q r => by
  have e : c2 = c := by omega
  rw [e, h6]
  refine ⟨ht t q, ?_⟩
  obtain ⟨t2, ht2, hk2⟩ := wf_33 hw ha
  have e2 : t2 = t := by omega
  rw [e2] at hk2
  have ob : OB T t 9 := ⟨by omega, by rw [hk2]; rfl, by omega⟩
  have w := wf_84 hw ob
  omega
end RTS

