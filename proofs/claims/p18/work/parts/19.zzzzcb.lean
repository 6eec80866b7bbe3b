section
def gdD (d : DT) : Prop := (1 ≤ d.1 ∧ d.1 ≤ 7) ∨ (11 ≤ d.1 ∧ d.1 ≤ 14)
noncomputable def gdF (φ : Int → Option DT) (j : Int) : Option DT := @ite _ (∀ d, φ j = some d → gdD d) (Classical.propDecidable _) (φ j) none
def WHB9 (V : Int → It) (n : Int) : Prop := ∀ k, 0 ≤ k → k < n → V k 0 = 12 → (1 ≤ V k 11 ∧ V k 11 ≤ 7) ∨ (11 ≤ V k 11 ∧ V k 11 ≤ 14)
section GDDS
variable {V : Int → It} {n k F m : Int} {b d : DT} {φ : Int → Option DT} {σ σ2 : MS} {r N : Int} {B : Int → DT}
theorem gd_tp : gdD topD := Or.inr ⟨by decide, by decide⟩
theorem gd_tr (w : WHB9 V n) (k0 : 0 ≤ k) (k1 : k < n) (h : gdD d) : gdD (trD F m (V k) d) := by
  unfold trD
  by_cases a : V k 0 = 12
  · rw [if_pos a]
    by_cases b : V k 2 = F ∧ V k 1 = m
    · rw [if_pos b]
      have z := w k k0 k1 a
      unfold whD
      by_cases c : 10 ≤ V k 11
      · rw [if_pos c]; exact Or.inr (show 11 ≤ V k 11 ∧ V k 11 ≤ 14 by omega)
      · rw [if_neg c]
        have q : 1 ≤ V k 11 ∧ V k 11 ≤ 7 := by omega
        by_cases e : 2 < V k 11
        · rw [if_pos e]; exact Or.inl q
        · rw [if_neg e]; exact Or.inl q
    · rw [if_neg b]; exact h
  · rw [if_neg a]
    by_cases b : V k 0 = 15
    · rw [if_pos b]
      by_cases c : V k 1 = F
      · rw [if_pos c]; exact Or.inr ⟨by decide, by decide⟩
      · rw [if_neg c]; exact h
    · rw [if_neg b]
      by_cases c : (V k 0 ≤ 5 ∨ V k 0 = 10) ∧ lnD d (V k 1)
      · rw [if_pos c]; exact Or.inr ⟨by decide, by decide⟩
      · rw [if_neg c]; exact h
theorem gdF_y {j : Int} (h : ∀ d, φ j = some d → gdD d) : gdF φ j = φ j := @if_pos _ (Classical.propDecidable _) h _ _ _
theorem gdF_n {j : Int} (h : ¬ ∀ d, φ j = some d → gdD d) : gdF φ j = none := @if_neg _ (Classical.propDecidable _) h _ _ _
theorem LFD.gd (h : LFD V n b F m φ) (w : WHB9 V n) (gb : gdD b) (k0 : 0 ≤ k) (k1 : k ≤ n) (e : φ k = some d) : gdD d := by
  apply Classical.byContradiction
  intro bad
  have cl : ClD V n b F m (gdF φ) := by
    refine ⟨?_, fun j t d j0 j1 ed pj => ?_⟩
    · have z := h.1.1
      have g0 : ∀ d, φ 0 = some d → gdD d := fun d q => by
        rcases z with z | z | z
        · exact absurd z (by simp)
        · rw [z] at q; rw [← Option.some.inj q]; exact gb
        · rw [z] at q; rw [← Option.some.inj q]; exact gd_tp
      rw [gdF_y g0]; exact z
    · have gj : ∀ d, φ j = some d → gdD d := Classical.byContradiction (fun q => by rw [gdF_n q] at pj; exact absurd pj (by simp))
      rw [gdF_y gj] at pj
      have z := h.1.2 j t d j0 j1 ed pj
      have gt : ∀ d, φ t = some d → gdD d := fun d2 q => by
        rcases z with z | z | z
        · exact absurd z (by simp)
        · rw [z] at q; rw [← Option.some.inj q]; exact gd_tr w j0 j1 (gj d pj)
        · rw [z] at q; rw [← Option.some.inj q]; exact gd_tp
      rw [gdF_y gt]; exact z
  have s := h.2 (gdF φ) cl k k0 k1
  rw [gdF_n (fun q => bad (q d e)), e] at s
  rcases s with s | s | s <;> exact absurd s (by simp)
theorem gd_bg {P N : Int} {H : Int → Int} {F m : Int} : gdD (bgD P N H F m) := by
  unfold bgD
  by_cases a : F = 0 ∧ m < N
  · rw [if_pos a]
    by_cases b : m < P
    · rw [if_pos b]; exact Or.inl (show (1 : Int) ≤ 2 ∧ (2 : Int) ≤ 7 from ⟨by decide, by decide⟩)
    · rw [if_neg b]; exact Or.inl ⟨by decide, by decide⟩
  · rw [if_neg a]; exact Or.inr ⟨by decide, by decide⟩
theorem gd_sh {x : Option DT} (h : ∀ d, x = some d → gdD d) : gdD (shD x) := by
  cases x with
  | none => exact Or.inr ⟨by decide, by decide⟩
  | some d => exact h d rfl
theorem HSD.gd (h : HSD σ r V N B) (w : WHB9 V N) (gb : ∀ n, gdD (B n)) (n0 : 0 ≤ n) (n1 : n < 144) (k0 : 0 ≤ k) (k1 : k ≤ N) : gdD (sDT σ (31824 * r + 144 * k + n)) := by
  obtain ⟨φ, l, e⟩ := h n n0 n1
  rw [e k k0 k1]
  exact gd_sh (fun d q => l.gd w (gb n) k0 k1 q)
theorem gd_lo {y : Int} (h : gdD (sDT σ y)) (l : σ.2.1 49 y < 11) : σ.2.1 49 y ≤ 7 ∧ σ.2.1 49 y < 10 := by
  have h : (1 ≤ σ.2.1 49 y ∧ σ.2.1 49 y ≤ 7) ∨ (11 ≤ σ.2.1 49 y ∧ σ.2.1 49 y ≤ 14) := h
  omega
end GDDS
def VLR (σ : MS) (k n v : Int) : Prop := (v = 0 ∧ (σ.1 67 = 0 ∨ σ.1 68 ≠ 0 ∨ k < 0 ∨ dpt σ 0 ≤ k)) ∨ ((σ.1 67 ≠ 0 ∧ σ.1 68 = 0 ∧ 0 ≤ k) ∧ ∃ c f, FNDS σ 0 k c f ∧ ((v = 0 ∧ ¬ (0 ≤ n ∧ n < σ.2.1 12 (σ.2.1 15 (12 * σ.2.1 78 c + f)))) ∨ ((0 ≤ n ∧ n < σ.2.1 12 (σ.2.1 15 (12 * σ.2.1 78 c + f))) ∧ ∃ d, TLD σ (σ.2.1 78 c) (σ.2.1 79 c) f n d ∧ v = if d.1 < 10 then wrD (fun g => σ.2.1 82 (192 * c + g)) d else 0)))
end
