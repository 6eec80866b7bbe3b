section
def BG2 (R0 R : Int → Int) (i : Int) : Prop := ∀ z, R z = if 0 ≤ z ∧ z < i then 1 else R0 z
def BG3 (R0 R : Int → Int) (P i : Int) : Prop := ∀ z, R z = if 1 ≤ z ∧ z < 1 + i then (if z - 1 < P then 6 + (z - 1) else 5) else R0 z
theorem BG2.z {R : Int → Int} : BG2 R R 0 := fun z => (if_neg (by omega)).symm
theorem BG3.z {R : Int → Int} {P : Int} : BG3 R R P 0 := fun z => (if_neg (by omega)).symm
theorem BG2.put {R0 R R2 : Int → Int} {i : Int} (h : BG2 R0 R i) (h0 : 0 ≤ i) (e : R2 = uZ R i 1) : BG2 R0 R2 (i + 1) := fun z => by
  rw [e]
  by_cases q : z = i
  · rw [q, uZ_eq, if_pos (by omega)]
  · rw [uZ_ne q, h z]
    by_cases w : 0 ≤ z ∧ z < i
    · rw [if_pos w, if_pos (by omega)]
    · rw [if_neg w, if_neg (by omega)]
theorem BG3.put {R0 R R2 : Int → Int} {P i u v : Int} (h : BG3 R0 R P i) (h0 : 0 ≤ i) (hu : u = 1 + i) (hv : (i < P ∧ v = 6 + i) ∨ (¬ i < P ∧ v = 5)) (e : R2 = uZ R u v) : BG3 R0 R2 P (i + 1) := fun z => by
  rw [e, hu]
  by_cases q : z = 1 + i
  · rw [q, uZ_eq, if_pos (by omega)]
    rcases hv with hv | hv
    · rw [if_pos (by omega), hv.2]; omega
    · rw [if_neg (by omega), hv.2]
  · rw [uZ_ne q, h z]
    by_cases w : 1 ≤ z ∧ z < 1 + i
    · rw [if_pos w, if_pos (show 1 ≤ z ∧ z < 1 + (i + 1) by omega)]
    · rw [if_neg w, if_neg (show ¬ (1 ≤ z ∧ z < 1 + (i + 1)) by omega)]
def BGX (N P wd : Int) (R R2 : Int → Int) : Prop := ∃ R1, BG2 R R1 wd ∧ BG3 R1 R2 P N
def CM2 (R0 R S : Int → Int) (b i c0 ch : Int) : Prop := (∀ z, R z = if b ≤ z ∧ z < b + i then cjI (R0 z) (S (z - b)) else R0 z) ∧ (ch = 1 ∨ (ch = c0 ∧ R = R0)) ∧ (R = R0 ∨ ch = 1) ∧ (ch = c0 ∨ ∃ z, (b ≤ z ∧ z < b + i) ∧ R z ≠ R0 z)
theorem CM2.z {R S : Int → Int} {b c0 : Int} : CM2 R R S b 0 c0 c0 := ⟨fun z => (if_neg (by omega)).symm, Or.inr ⟨rfl, rfl⟩, Or.inl rfl, Or.inl rfl⟩
theorem CM2.skip {R0 R S : Int → Int} {b i c0 ch w v : Int} (h : CM2 R0 R S b i c0 ch) (h0 : 0 ≤ i) (hw : w = R (b + i)) (hv : v = S i) (q : w = v ∨ w = 4) : CM2 R0 R S b (i + 1) c0 ch := ⟨fun z => by
  by_cases e : z = b + i
  · have r := h.1 (b + i)
    rw [if_neg (by omega)] at r
    rw [e, if_pos (by omega), show b + i - b = i by omega, ← r, ← hw, ← hv]
    unfold cjI
    rw [if_pos q]
  · rw [h.1 z]
    by_cases y : b ≤ z ∧ z < b + i
    · rw [if_pos y, if_pos (by omega)]
    · rw [if_neg y, if_neg (by omega)], h.2.1, h.2.2.1, h.2.2.2.imp id (fun ⟨z, a, c⟩ => ⟨z, by omega, c⟩)⟩
theorem CM2.put {R0 R R2 S : Int → Int} {b i c0 ch w v y u : Int} (h : CM2 R0 R S b i c0 ch) (h0 : 0 ≤ i) (hw : w = R (b + i)) (hv : v = S i) (q : ¬ (w = v ∨ w = 4)) (hy : (w = 0 ∧ y = v) ∨ (w ≠ 0 ∧ y = 4)) (hu : u = b + i) (e : R2 = uZ R u y) : CM2 R0 R2 S b (i + 1) c0 1 := ⟨fun z => by
  rw [e, hu]
  by_cases r : z = b + i
  · have r0 := h.1 (b + i)
    rw [if_neg (by omega)] at r0
    rw [r, uZ_eq, if_pos (by omega), show b + i - b = i by omega, ← r0, ← hw, ← hv]
    unfold cjI
    rw [if_neg q]
    rcases hy with hy | hy
    · rw [if_pos hy.1, hy.2]
    · rw [if_neg hy.1, hy.2]
  · rw [uZ_ne r, h.1 z]
    by_cases y : b ≤ z ∧ z < b + i
    · rw [if_pos y, if_pos (by omega)]
    · rw [if_neg y, if_neg (by omega)], Or.inl rfl, Or.inr rfl, Or.inr ⟨b + i, by omega, by
  have r0 := h.1 (b + i)
  rw [if_neg (by omega)] at r0
  rw [e, hu, uZ_eq, ← r0, ← hw]
  omega⟩⟩
def CMT (n wd k : Int) (R0 R S : Int → Int) (c0 ch : Int) : Prop := (¬ (0 ≤ k ∧ k ≤ n) ∧ R = R0 ∧ ch = c0) ∨ ((0 ≤ k ∧ k ≤ n) ∧ CM2 R0 R S (k * wd) wd c0 ch)
end
