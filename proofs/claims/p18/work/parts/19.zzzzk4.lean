section
section EVL
variable {τ : MS} {x : Int} {W : Int → Int} {L L1 L2 : List E8} {s s1 s2 : List F8} {Gs : Int → RTS} {PM : Int → Int} {e e2 : E8}
theorem tail9 {X Y B : List E8} (h : X ++ Y = B ++ [e]) : Y = [] ∨ ∃ Y0 : List E8, Y = Y0 ++ [e] := by
  rcases List.eq_nil_or_concat Y with z | ⟨Y0, e', z⟩
  · exact Or.inl z
  · rw [List.concat_eq_append] at z
    rw [z, ← List.append_assoc] at h
    have q := List.append_inj' h rfl
    have q2 : e' = e := by have := q.2; simpa using this
    exact Or.inr ⟨Y0, by rw [z, q2]⟩
theorem stp_nil9 (h : stp8 Gs PM [] e s2) : False := by
  obtain ⟨r, k, R, d, rest, h1, -⟩ := h
  exact absurd h1 (by simp)
theorem run_nil {n : Nat} (h : run8 Gs PM n [] L s2) : L = [] ∧ s2 = [] := by
  cases n with
  | zero => exact h
  | succ n =>
    obtain ⟨e, s1, L1, h1, -⟩ := h
    exact (stp_nil9 h1).elim
theorem ist_e {H : RTS} {k d k2 d2 : Int} {R R2 : G8} (h : ist H k R d e k2 R2 d2) : e.1 = 0 ∨ e.1 = 1 ∨ e.1 = 2 := by
  rcases h.2 with h | h | h | h | h | h | h
  · exact Or.inl (by rw [h.2.1])
  · exact Or.inr (Or.inl (by rw [h.2.1]))
  · exact Or.inl (by rw [h.2.1])
  · exact Or.inl (by rw [h.2.1])
  · exact Or.inr (Or.inr (by rw [h.2.1]))
  · exact Or.inl (by rw [h.2.2.1])
  · exact Or.inl (by rw [h.2.1])
theorem stp_end (h : stp8 Gs PM s e s2) (he : e.1 = 3 ∨ e.1 = 4) : s2 = [] := by
  obtain ⟨r, k, R, d, rest, -, h⟩ := h
  rcases h with ⟨k2, R2, d2, h, -⟩ | ⟨-, ⟨-, -, h, -⟩ | ⟨-, -, -, h⟩ | ⟨-, ⟨-, -, h⟩ | ⟨r1, k1, R1, d1, rest1, -, h, -⟩⟩⟩
  · have := ist_e h; omega
  · rw [h] at he
    rcases he with z | z <;> exact absurd z (by show ¬ ((0 : Int) = _); decide)
  · exact h
  · exact h
  · rw [h] at he
    rcases he with z | z <;> exact absurd z (by show ¬ ((0 : Int) = _); decide)
theorem run_end {n : Nat} {B : List E8} (h : run8 Gs PM n s (B ++ [e]) s2) (he : e.1 = 3 ∨ e.1 = 4) : s2 = [] := by
  induction n generalizing s B with
  | zero => exact absurd h.1 (by simp)
  | succ n ih =>
    obtain ⟨e1, s1, L1, h1, h2, h3⟩ := h
    by_cases z : e1.1 = 3 ∨ e1.1 = 4
    · have e0 := stp_end h1 z
      rw [e0] at h2
      exact (run_nil h2).2
    · rcases tail9 h3.symm with q | ⟨Y0, q⟩
      · rw [q, List.append_nil] at h3
        unfold ev8 at h3
        split at h3
        · exact absurd h3 (by simp)
        · have k := List.append_inj' (show B ++ [e] = [] ++ [e1] from h3) rfl
          have k2 : e = e1 := by have := k.2; simpa using this
          rw [← k2] at z
          exact absurd he z
      · rw [q] at h2
        exact ih h2
theorem nl_snoc {B : List E8} (he : e.1 = 2) : 1 ≤ nl8 (B ++ [e]) := by
  rw [nl8_app]
  show 1 ≤ nl8 B + ((if e.1 = 2 then 1 else 0) + 0)
  rw [if_pos he]
  omega
theorem unq_gs (u : UNA τ) (q : Int) : UNQ (prg8 τ 1 q).V (prg8 τ 1 q).n := by
  unfold prg8
  rw [if_neg (by decide)]
  unfold gsT
  by_cases z : 0 ≤ q ∧ q < τ.1 10
  · rw [if_pos z]; exact u q z.1 z.2
  · rw [if_neg z]
    intro i j _ _ _ _ h
    exact absurd h (by show ¬ ((10 : Int) = 13); decide)
theorem bea_p (b : BEA τ) (h : RN8 τ 2 x W L s) : ∃ s', RN8 τ 1 x W L s' := by
  obtain ⟨n, hn⟩ := h
  obtain ⟨m, s', hm⟩ := b x W L ⟨n, s, hn⟩
  exact ⟨s', m, hm⟩
theorem two9 (u : UNA τ) (h1 : RN8 τ 1 x W L1 s1) (h2 : RN8 τ 1 x W L2 s2) : (∃ L3 n, L2 = L1 ++ L3 ∧ run8 (prg8 τ 1) (pM8 τ) n s1 L3 s2) ∨ ∃ L3 n, L1 = L2 ++ L3 ∧ run8 (prg8 τ 1) (pM8 τ) n s2 L3 s1 := by
  obtain ⟨n1, a1⟩ := h1
  obtain ⟨n2, a2⟩ := h2
  rcases Nat.le_total n1 n2 with q | q
  · obtain ⟨d, hd⟩ := Nat.le.dest q
    rw [← hd] at a2
    obtain ⟨L3, k1, k2⟩ := run_det (unq_gs u) a1 a2
    exact Or.inl ⟨L3, d, k1, k2⟩
  · obtain ⟨d, hd⟩ := Nat.le.dest q
    rw [← hd] at a1
    obtain ⟨L3, k1, k2⟩ := run_det (unq_gs u) a2 a1
    exact Or.inr ⟨L3, d, k1, k2⟩
theorem line9 (u : UNA τ) (b : BEA τ) {A B : List E8} (h1 : RN8 τ 1 x W L1 s1) (h2 : RN8 τ 2 x W L2 s2) (e1 : L1 = A ++ [(2, 0)]) (e2 : L2 = B ++ [(2, 0)]) (en : nl8 L1 = nl8 L2) : L1 = L2 := by
  obtain ⟨s', k⟩ := bea_p b h2
  have no : ∀ L3 B : List E8, ∀ Lx Ly : List E8, Lx = Ly ++ L3 → Lx = B ++ [(2, 0)] → nl8 Lx = nl8 Ly → Lx = Ly := fun L3 B Lx Ly a c d => by
    rw [a] at c
    rcases tail9 c with z | ⟨Y, z⟩
    · rw [a, z, List.append_nil]
    · rw [a, nl8_app, z] at d
      have := nl_snoc (B := Y) (e := (2, 0)) rfl
      omega
  rcases two9 u h1 k with ⟨L3, n, a, -⟩ | ⟨L3, n, a, -⟩
  · exact (no L3 B L2 L1 a e2 en.symm).symm
  · exact no L3 A L1 L2 a e1 en
theorem end9 (u : UNA τ) (b : BEA τ) {B : List E8} (h1 : RN8 τ 1 x W L1 []) (h2 : RN8 τ 2 x W L2 s2) (e2 : L2 = B ++ [e]) (he : ((e.1 = 3 ∨ e.1 = 4) ∧ nl8 L2 = nl8 L1) ∨ (e.1 = 2 ∧ nl8 L2 = nl8 L1 + 1)) : L1 = L2 ∧ (e.1 = 3 ∨ e.1 = 4) := by
  obtain ⟨s', k⟩ := bea_p b h2
  rcases two9 u h1 k with ⟨L3, n, a, r⟩ | ⟨L3, n, a, r⟩
  · have z := (run_nil r).1
    rw [z, List.append_nil] at a
    rcases he with he | ⟨-, he⟩
    · exact ⟨a.symm, he.1⟩
    · rw [a] at he; omega
  · rcases he with ⟨h3, -⟩ | ⟨-, h4⟩
    · obtain ⟨n9, k9⟩ := k
      rw [e2] at k9
      have z := run_end k9 h3
      rw [z] at r
      have z2 := (run_nil r).1
      exact ⟨by rw [a, z2, List.append_nil], h3⟩
    · rw [a, nl8_app] at h4
      omega
end EVL
end
