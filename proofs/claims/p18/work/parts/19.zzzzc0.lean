section
abbrev DT : Type := Int × Int × Int × Int × Int
def topD : DT := (14, 0, 0, 0, 0)
def leD (x y : Option DT) : Prop := x = none ∨ y = x ∨ y = some topD
theorem leD.rfl {x : Option DT} : leD x x := Or.inr (Or.inl (Eq.refl x))
theorem leD.top {x : Option DT} : leD x (some topD) := Or.inr (Or.inr (Eq.refl _))
theorem leD.trans {x y z : Option DT} (h : leD x y) (g : leD y z) : leD x z := by
  rcases h with h | h | h
  · exact Or.inl h
  · rw [← h]; exact g
  · rw [h] at g
    rcases g with g | g | g
    · exact absurd g (by simp)
    · exact Or.inr (Or.inr g)
    · exact Or.inr (Or.inr g)
theorem leD.anti {x y : Option DT} (h : leD x y) (g : leD y x) : x = y := by
  rcases h with h | h | h
  · rcases g with g | g | g
    · exact h.trans g.symm
    · exact g
    · exact absurd (h.symm.trans g) (by simp)
  · exact h.symm
  · rcases g with g | g | g
    · exact absurd (h.symm.trans g) (by simp)
    · exact g
    · exact g.trans h.symm
theorem leD.join {a b : DT} {u : Option DT} (h : leD (some a) u) (g : leD (some b) u) (n : a ≠ b) : u = some topD := by
  rcases h with h | h | h
  · exact absurd h (by simp)
  · rcases g with g | g | g
    · exact absurd g (by simp)
    · exact absurd (Option.some.inj (h.symm.trans g)) n
    · exact g
  · exact h
def whD (i : It) : DT := if 10 ≤ i 11 then (i 11, 0, 0, 0, 0) else if 2 < i 11 then (i 11, i 3, i 4, i 5, i 6) else (i 11, i 3, i 4, 0, 0)
abbrev lnD (d : DT) (g : Int) : Prop := (d.2.1 = 2 ∧ d.2.2.1 = g) ∨ (d.2.2.2.1 = 2 ∧ d.2.2.2.2 = g)
def trD (F m : Int) (i : It) (d : DT) : DT := if i 0 = 12 then (if i 2 = F ∧ i 1 = m then whD i else d) else if i 0 = 15 then (if i 1 = F then (11, 0, 0, 0, 0) else d) else if (i 0 ≤ 5 ∨ i 0 = 10) ∧ lnD d (i 1) then (13, 0, 0, 0, 0) else d
def bgD (P N : Int) (H : Int → Int) (F m : Int) : DT := if F = 0 ∧ m < N then (if m < P then (2, 2, H m, 0, 0) else (1, 1, 0, 0, 0)) else (11, 0, 0, 0, 0)
theorem lnD.top {g : Int} : ¬ lnD topD g := fun h => h.elim (fun h => absurd h.1 (by decide)) (fun h => absurd h.1 (by decide))
theorem trD.top {F m : Int} {i : It} : trD F m i topD = topD ∨ ∀ d, trD F m i d = trD F m i topD := by
  unfold trD
  by_cases a : i 0 = 12
  · by_cases b : i 2 = F ∧ i 1 = m
    · exact Or.inr (fun d => by rw [if_pos a, if_pos b, if_pos a, if_pos b])
    · exact Or.inl (by rw [if_pos a, if_neg b])
  · by_cases b : i 0 = 15
    · by_cases c : i 1 = F
      · exact Or.inr (fun d => by rw [if_neg a, if_pos b, if_pos c, if_neg a, if_pos b, if_pos c])
      · exact Or.inl (by rw [if_neg a, if_pos b, if_neg c])
    · exact Or.inl (by rw [if_neg a, if_neg b, if_neg (fun h => lnD.top h.2)])
def ClD (V : Int → It) (n : Int) (b : DT) (F m : Int) (φ : Int → Option DT) : Prop := leD (some b) (φ 0) ∧ ∀ k t d, 0 ≤ k → k < n → EDv V n k t → φ k = some d → leD (some (trD F m (V k) d)) (φ t)
def SND (V : Int → It) (n : Int) (b : DT) (F m : Int) (φ : Int → Option DT) : Prop := ∀ ψ, ClD V n b F m ψ → ∀ k, 0 ≤ k → k ≤ n → leD (φ k) (ψ k)
def LFD (V : Int → It) (n : Int) (b : DT) (F m : Int) (φ : Int → Option DT) : Prop := ClD V n b F m φ ∧ SND V n b F m φ
section LFS
variable {V : Int → It} {n F m k t : Int} {b d : DT} {φ ψ : Int → Option DT}
theorem LFD.det (h : LFD V n b F m φ) (g : LFD V n b F m ψ) (h0 : 0 ≤ k) (h1 : k ≤ n) : φ k = ψ k := (h.2 ψ g.1 k h0 h1).anti (g.2 φ h.1 k h0 h1)
theorem ClD.step (c : ClD V n b F m ψ) (h0 : 0 ≤ k) (h1 : k < n) (e : EDv V n k t) (l : leD (some d) (ψ k)) : leD (some (trD F m (V k) d)) (ψ t) := by
  rcases l with l | l | l
  · exact absurd l (by simp)
  · exact c.2 k t d h0 h1 e l
  · have q := c.2 k t topD h0 h1 e l
    rcases trD.top (F := F) (m := m) (i := V k) with w | w
    · rw [w] at q
      rcases q with q | q | q
      · exact absurd q (by simp)
      · rw [q]; exact leD.top
      · rw [q]; exact leD.top
    · rw [w d]; exact q
theorem SND.put {x : Option DT} (h : SND V n b F m φ) (hx : ∀ ψ, ClD V n b F m ψ → leD x (ψ t)) : SND V n b F m (fun k => if k = t then x else φ k) := fun ψ c k a e => by
  by_cases q : k = t
  · show leD (if k = t then x else φ k) (ψ k)
    rw [if_pos q, q]; exact hx ψ c
  · show leD (if k = t then x else φ k) (ψ k)
    rw [if_neg q]; exact h ψ c k a e
theorem SND.of (h : SND V n b F m φ) (e : ∀ k, 0 ≤ k → k ≤ n → ψ k = φ k) : SND V n b F m ψ := fun χ c k a q => by
  rw [e k a q]; exact h χ c k a q
theorem LFD.of (h : LFD V n b F m φ) (hn : 0 ≤ n) (ht : ∀ k t, 0 ≤ k → k < n → EDv V n k t → 0 ≤ t ∧ t ≤ n) (e : ∀ k, 0 ≤ k → k ≤ n → ψ k = φ k) : LFD V n b F m ψ := by
  refine ⟨⟨by rw [e 0 (by omega) hn]; exact h.1.1, fun k t d a c q w => ?_⟩, h.2.of e⟩
  rw [e t (ht k t a c q).1 (ht k t a c q).2]
  exact h.1.2 k t d a c q (by rw [← e k a (by omega)]; exact w)
end LFS
theorem EDv.in {V : Int → It} {n k t : Int} (h : EDv V n k t) (h0 : 0 ≤ k) (h1 : k < n) : 0 ≤ t ∧ t ≤ n := by
  rcases h with h | h
  · have := h.2; omega
  · have := h.2.1; have := h.2.2.1; omega
def shD (x : Option DT) : DT := x.elim (11, 0, 0, 0, 0) id
end
