section
def ALN (σ : MS) (c f p j : Int) : Prop := ∃ d, TLD σ (σ.2.1 78 c) (σ.2.1 79 c) f j d ∧ (d.1 < 10 → wrD (fun g => σ.2.1 82 (192 * c + g)) d = σ.2.1 82 (192 * p + j))
def NAN (σ : MS) (c f p j : Int) : Prop := ∃ d, TLD σ (σ.2.1 78 c) (σ.2.1 79 c) f j d ∧ d.1 < 10 ∧ wrD (fun g => σ.2.1 82 (192 * c + g)) d ≠ σ.2.1 82 (192 * p + j)
def AL9 (σ : MS) (c f p A0 n a : Int) : Prop := (a = 1 ∧ A0 = 1 ∧ ∀ j, 0 ≤ j → j < n → ALN σ c f p j) ∨ (a = 0 ∧ (A0 = 0 ∨ ∃ j, (0 ≤ j ∧ j < n) ∧ NAN σ c f p j))
def nmK (σ : MS) (c f : Int) : Int := σ.2.1 12 (σ.2.1 15 (12 * σ.2.1 78 c + f))
def FAL (σ : MS) (k : Int) : Prop := ∃ c f p fp, FNDS σ 1 k c f ∧ FNDS σ 2 k p fp ∧ σ.2.1 78 p = σ.2.1 15 (12 * σ.2.1 78 c + f) ∧ σ.2.1 81 (12 * p) = σ.2.1 81 (12 * c + f) ∧ ∀ j, 0 ≤ j → j < nmK σ c f → ALN σ c f p j
def NFA (σ : MS) (k : Int) : Prop := ∃ c f, FNDS σ 1 k c f ∧ ((k < 0 ∨ dpt σ 2 ≤ k) ∨ ∃ p fp, FNDS σ 2 k p fp ∧ (σ.2.1 78 p ≠ σ.2.1 15 (12 * σ.2.1 78 c + f) ∨ σ.2.1 81 (12 * p) ≠ σ.2.1 81 (12 * c + f) ∨ ∃ j, (0 ≤ j ∧ j < nmK σ c f) ∧ NAN σ c f p j))
def AF9 (σ : MS) (A0 k a : Int) : Prop := (a = 1 ∧ A0 = 1 ∧ ∀ j, 0 ≤ j → j < k → FAL σ j) ∨ (a = 0 ∧ (A0 = 0 ∨ ∃ j, 0 ≤ j ∧ NFA σ j))
def PAQ (σ : MS) (v : Int) : Prop := (v = 1 ∧ σ.2.1 76 1 = σ.2.1 76 2 ∧ ∀ i, 0 ≤ i → i < 200 → i < σ.2.1 76 1 → σ.2.1 77 (200 + i) = σ.2.1 77 (400 + i)) ∨ (v = 0 ∧ (σ.2.1 76 1 ≠ σ.2.1 76 2 ∨ ∃ i, (0 ≤ i ∧ i < 200 ∧ i < σ.2.1 76 1) ∧ σ.2.1 77 (200 + i) ≠ σ.2.1 77 (400 + i)))
def PA9 (σ : MS) (W0 i w : Int) : Prop := (w = 1 ∧ W0 = 1 ∧ ∀ j, 0 ≤ j → j < i → σ.2.1 77 (200 + j) = σ.2.1 77 (400 + j)) ∨ (w = 0 ∧ (W0 = 0 ∨ ∃ j, (0 ≤ j ∧ j < 200 ∧ j < σ.2.1 76 1) ∧ σ.2.1 77 (200 + j) ≠ σ.2.1 77 (400 + j)))
def AAQ (σ : MS) (v : Int) : Prop := (v = 1 ∧ dpt σ 1 = dpt σ 2 ∧ PAQ σ 1 ∧ ∀ j, 0 ≤ j → j < dpt σ 1 → FAL σ j) ∨ (v = 0 ∧ (dpt σ 1 ≠ dpt σ 2 ∨ PAQ σ 0 ∨ ∃ j, 0 ≤ j ∧ NFA σ j))
section ALS
variable {σ τ : MS} {c f p A0 n a a2 k j m W0 i w v N : Int} {d : DT} {ss ks js : List Nat}
theorem AL9.z (h : a = 0 ∨ a = 1) (e : A0 = a) : AL9 σ c f p A0 0 a := by
  rcases h with h | h
  · exact Or.inr ⟨h, Or.inl (e.trans h)⟩
  · exact Or.inl ⟨h, e.trans h, fun j x y => absurd y (by omega)⟩
theorem AL9.s (h : AL9 σ c f p A0 n a) (ha : a ≠ 0) (n0 : 0 ≤ n) (td : TLD σ (σ.2.1 78 c) (σ.2.1 79 c) f n d) (e : (a2 = 1 ∧ (d.1 < 10 → wrD (fun g => σ.2.1 82 (192 * c + g)) d = σ.2.1 82 (192 * p + n))) ∨ (a2 = 0 ∧ d.1 < 10 ∧ wrD (fun g => σ.2.1 82 (192 * c + g)) d ≠ σ.2.1 82 (192 * p + n))) : AL9 σ c f p A0 (n + 1) a2 := by
  rcases h with ⟨h1, h2, h3⟩ | ⟨h1, -⟩
  · rcases e with ⟨e1, e2⟩ | ⟨e1, e2⟩
    · refine Or.inl ⟨e1, h2, fun j x y => ?_⟩
      by_cases z : j = n
      · rw [z]; exact ⟨d, td, e2⟩
      · exact h3 j x (by omega)
    · exact Or.inr ⟨e1, Or.inr ⟨n, ⟨n0, by omega⟩, d, td, e2⟩⟩
  · exact absurd h1 ha
theorem AL9.x (h : AL9 σ c f p A0 n a) (hn : n ≤ N) (e : a = 0 ∨ N ≤ n) : AL9 σ c f p A0 N a := by
  rcases h with ⟨h1, h2, h3⟩ | ⟨h1, h2⟩
  · exact Or.inl ⟨h1, h2, fun j x y => h3 j x (by omega)⟩
  · exact Or.inr ⟨h1, h2.imp id (fun ⟨j, x, y⟩ => ⟨j, by omega, y⟩)⟩
theorem fnds_fr (g : Fr ss ks js σ τ) (hk : ∀ k ∈ [16, 73, 78, 80], k ∉ ks) : FNDS τ m = FNDS σ m := by
  have e73 : τ.2.1 73 = σ.2.1 73 := g.2.1 73 (hk 73 (by decide))
  have e78 : τ.2.1 78 = σ.2.1 78 := g.2.1 78 (hk 78 (by decide))
  have e80 : τ.2.1 80 = σ.2.1 80 := g.2.1 80 (hk 80 (by decide))
  have e16 : τ.2.1 16 = σ.2.1 16 := g.2.1 16 (hk 16 (by decide))
  have ep : pr τ m = pr σ m := by funext c f; unfold pr; rw [e78, e16]
  have ed : dch τ m = dch σ m := by funext c; unfold dch; rw [ep, e80]
  have et : dpt τ m = dpt σ m := by unfold dpt; rw [ed, e73]
  have ea : AB τ m = AB σ m := by
    funext c
    unfold AB
    rw [et, e78, e80, dsum_fr g (hk 16 (by decide))]
  funext k c f
  unfold FNDS
  rw [e73, ea, ed, ep, e80]
theorem dpt_fr9 (g : Fr ss ks js σ τ) (hk : ∀ k ∈ [16, 73, 78, 80], k ∉ ks) : dpt τ m = dpt σ m := by
  have e73 : τ.2.1 73 = σ.2.1 73 := g.2.1 73 (hk 73 (by decide))
  have e78 : τ.2.1 78 = σ.2.1 78 := g.2.1 78 (hk 78 (by decide))
  have e80 : τ.2.1 80 = σ.2.1 80 := g.2.1 80 (hk 80 (by decide))
  have e16 : τ.2.1 16 = σ.2.1 16 := g.2.1 16 (hk 16 (by decide))
  have ep : pr τ m = pr σ m := by funext c f; unfold pr; rw [e78, e16]
  have ed : dch τ m = dch σ m := by funext c; unfold dch; rw [ep, e80]
  unfold dpt; rw [ed, e73]
theorem tld_fr {q F : Int} (g : Fr ss ks js σ τ) (hk : ∀ k ∈ [3, 4, 5, 6, 7, 8, 9, 11, 12, 18], k ∉ ks) : TLD τ q k F m d = TLD σ q k F m d := by
  have sub : ∀ l : List Nat, (∀ k ∈ l, k ∈ [3, 4, 5, 6, 7, 8, 9, 11, 12, 18]) → ∀ k ∈ l, k ∉ ks := fun l hl k q => hk k (hl k q)
  unfold TLD
  rw [rv_fr g (sub _ (by decide)), g.2.1 9 (hk 9 (by decide)), bgT.fr g (sub _ (by decide))]
theorem al9_fr (g : Fr ss ks js σ τ) (hk : ∀ k ∈ [3, 4, 5, 6, 7, 8, 9, 11, 12, 18, 78, 79, 82], k ∉ ks) (h : AL9 τ c f p A0 n a) : AL9 σ c f p A0 n a := by
  have sub : ∀ k ∈ [3, 4, 5, 6, 7, 8, 9, 11, 12, 18], k ∉ ks := fun k q => hk k ((by decide : ∀ k ∈ [3, 4, 5, 6, 7, 8, 9, 11, 12, 18], k ∈ [3, 4, 5, 6, 7, 8, 9, 11, 12, 18, 78, 79, 82]) k q)
  have e78 : τ.2.1 78 = σ.2.1 78 := g.2.1 78 (hk 78 (by decide))
  have e79 : τ.2.1 79 = σ.2.1 79 := g.2.1 79 (hk 79 (by decide))
  have e82 : τ.2.1 82 = σ.2.1 82 := g.2.1 82 (hk 82 (by decide))
  have ea : ∀ j, ALN τ c f p j → ALN σ c f p j := fun j z => by
    obtain ⟨d, z1, z2⟩ := z
    rw [tld_fr g sub, e78, e79] at z1
    rw [e82] at z2
    exact ⟨d, z1, z2⟩
  have en : ∀ j, NAN τ c f p j → NAN σ c f p j := fun j z => by
    obtain ⟨d, z1, z2⟩ := z
    rw [tld_fr g sub, e78, e79] at z1
    rw [e82] at z2
    exact ⟨d, z1, z2⟩
  rcases h with ⟨h1, h2, h3⟩ | ⟨h1, h2⟩
  · exact Or.inl ⟨h1, h2, fun j x y => ea j (h3 j x y)⟩
  · exact Or.inr ⟨h1, h2.imp id (fun ⟨j, x, y⟩ => ⟨j, x, en j y⟩)⟩
theorem AF9.z (h : a = 0 ∨ a = 1) (e : A0 = a) : AF9 σ A0 0 a := by
  rcases h with h | h
  · exact Or.inr ⟨h, Or.inl (e.trans h)⟩
  · exact Or.inl ⟨h, e.trans h, fun j x y => absurd y (by omega)⟩
theorem AF9.s {b : Int} (h : AF9 σ A0 k a) (ha : a ≠ 0) (k0 : 0 ≤ k) (h1 : FNDS σ 1 k c f) (hb : (b = 1 ∧ ∃ fp, FNDS σ 2 k p fp ∧ σ.2.1 78 p = σ.2.1 15 (12 * σ.2.1 78 c + f) ∧ σ.2.1 81 (12 * p) = σ.2.1 81 (12 * c + f)) ∨ (b = 0 ∧ ((k < 0 ∨ dpt σ 2 ≤ k) ∨ ∃ p fp, FNDS σ 2 k p fp ∧ (σ.2.1 78 p ≠ σ.2.1 15 (12 * σ.2.1 78 c + f) ∨ σ.2.1 81 (12 * p) ≠ σ.2.1 81 (12 * c + f))))) (hx : AL9 σ c f p b (nmK σ c f) a2) : AF9 σ A0 (k + 1) a2 := by
  rcases h with ⟨h2, h3, h4⟩ | ⟨h2, -⟩
  · rcases hx with ⟨x1, x2, x3⟩ | ⟨x1, x2⟩
    · refine Or.inl ⟨x1, h3, fun j y z => ?_⟩
      by_cases e : j = k
      · rw [e]
        rcases hb with ⟨-, fp, b1, b2, b3⟩ | ⟨b0, -⟩
        · exact ⟨c, f, p, fp, h1, b1, b2, b3, x3⟩
        · omega
      · exact h4 j y (by omega)
    · refine Or.inr ⟨x1, Or.inr ⟨k, k0, c, f, h1, ?_⟩⟩
      rcases hb with ⟨b0, fp, b1, b2, b3⟩ | ⟨-, b1⟩
      · rcases x2 with x2 | x2
        · omega
        · exact Or.inr ⟨p, fp, b1, Or.inr (Or.inr x2)⟩
      · rcases b1 with b1 | ⟨p, fp, b1, b2⟩
        · exact Or.inl b1
        · exact Or.inr ⟨p, fp, b1, b2.imp id Or.inl⟩
  · exact absurd h2 ha
theorem AF9.x (h : AF9 σ A0 k a) (e : a = 0 ∨ k < 0 ∨ dpt σ 1 ≤ k) (k0 : 0 ≤ k) : (a = 1 ∧ A0 = 1 ∧ ∀ j, 0 ≤ j → j < dpt σ 1 → FAL σ j) ∨ (a = 0 ∧ (A0 = 0 ∨ ∃ j, 0 ≤ j ∧ NFA σ j)) := by
  rcases h with ⟨h1, h2, h3⟩ | h
  · exact Or.inl ⟨h1, h2, fun j x y => h3 j x (by omega)⟩
  · exact Or.inr h
theorem PA9.z (h : w = 0 ∨ w = 1) (e : W0 = w) : PA9 σ W0 0 w := by
  rcases h with h | h
  · exact Or.inr ⟨h, Or.inl (e.trans h)⟩
  · exact Or.inl ⟨h, e.trans h, fun j x y => absurd y (by omega)⟩
theorem PA9.s {w2 : Int} (h : PA9 σ W0 i w) (hw : w ≠ 0) (i0 : 0 ≤ i ∧ i < 200 ∧ i < σ.2.1 76 1) (e : (w2 = 1 ∧ σ.2.1 77 (200 + i) = σ.2.1 77 (400 + i)) ∨ (w2 = 0 ∧ σ.2.1 77 (200 + i) ≠ σ.2.1 77 (400 + i))) : PA9 σ W0 (i + 1) w2 := by
  rcases h with ⟨h1, h2, h3⟩ | ⟨h1, -⟩
  · rcases e with ⟨e1, e2⟩ | ⟨e1, e2⟩
    · refine Or.inl ⟨e1, h2, fun j x y => ?_⟩
      by_cases z : j = i
      · rw [z]; exact e2
      · exact h3 j x (by omega)
    · exact Or.inr ⟨e1, Or.inr ⟨i, i0, e2⟩⟩
  · exact absurd h1 hw
theorem PA9.x (h : PA9 σ W0 i w) (e : w = 0 ∨ 200 ≤ i ∨ σ.2.1 76 1 ≤ i) (hw : (W0 = 1 ∧ σ.2.1 76 1 = σ.2.1 76 2) ∨ (W0 = 0 ∧ σ.2.1 76 1 ≠ σ.2.1 76 2)) : PAQ σ w := by
  rcases h with ⟨h1, h2, h3⟩ | ⟨h1, h2⟩
  · refine Or.inl ⟨h1, by omega, fun j x y z => h3 j x (by omega)⟩
  · refine Or.inr ⟨h1, ?_⟩
    rcases h2 with h2 | h2
    · exact Or.inl (by omega)
    · exact Or.inr h2
theorem PAQ.b (h : PAQ σ v) : v = 0 ∨ v = 1 := h.elim (fun z => Or.inr z.1) (fun z => Or.inl z.1)
theorem AAQ.mk (h : (v = 1 ∧ A0 = 1 ∧ ∀ j, 0 ≤ j → j < dpt σ 1 → FAL σ j) ∨ (v = 0 ∧ (A0 = 0 ∨ ∃ j, 0 ≤ j ∧ NFA σ j))) (e : (A0 = 1 ∧ dpt σ 1 = dpt σ 2 ∧ PAQ σ 1) ∨ (A0 = 0 ∧ (dpt σ 1 ≠ dpt σ 2 ∨ PAQ σ 0))) : AAQ σ v := by
  rcases h with ⟨h1, h2, h3⟩ | ⟨h1, h2⟩
  · rcases e with ⟨-, e1, e2⟩ | ⟨e0, -⟩
    · exact Or.inl ⟨h1, e1, e2, h3⟩
    · omega
  · refine Or.inr ⟨h1, ?_⟩
    rcases h2 with h2 | h2
    · rcases e with ⟨e0, -⟩ | ⟨-, e1⟩
      · omega
      · exact e1.elim Or.inl (fun z => Or.inr (Or.inl z))
    · exact Or.inr (Or.inr h2)
end ALS
section ALT
variable {σ τ : MS} {c f k m : Int} {ss ks js : List Nat}
theorem fnds_rng (h : FNDS σ m k c f) : 0 ≤ k ∧ k < dpt σ m := by
  obtain ⟨g1, j, g2, g3, -⟩ := h
  have q := AB.nx (σ := σ) (m := m) (c := c) (by omega)
  have b := AB.le (σ := σ) (m := m) (c := c - 1) (c - 9 * m).toNat (by omega)
  rw [show c - 1 - ((c - 9 * m).toNat : Int) = 9 * m - 1 by omega, AB.bot (σ := σ) (m := m) (c := 9 * m - 1) (by omega)] at b
  have tp := AB.top (σ := σ) (m := m) (c := 9 * m + σ.2.1 73 m - 1) (by omega) (by omega)
  have a := AB.le (σ := σ) (m := m) (c := 9 * m + σ.2.1 73 m - 1) (9 * m + σ.2.1 73 m - 1 - c).toNat (by omega)
  rw [show 9 * m + σ.2.1 73 m - 1 - ((9 * m + σ.2.1 73 m - 1 - c).toNat : Int) = c by omega] at a
  omega
theorem nmk_fr (g : Fr ss ks js σ τ) (hk : ∀ k ∈ [12, 15, 78], k ∉ ks) : nmK τ c f = nmK σ c f := by
  unfold nmK
  rw [g.2.1 12 (hk 12 (by decide)), g.2.1 15 (hk 15 (by decide)), g.2.1 78 (hk 78 (by decide))]
theorem whb_fr (g : Fr ss ks js σ τ) (hs : 10 ∉ ss) (hk : ∀ k ∈ [3, 4, 5, 6, 7, 8, 9], k ∉ ks) (h : ∀ r, 0 ≤ r → r < σ.1 10 → WHB9 (rV σ r) (σ.2.1 9 r)) : ∀ r, 0 ≤ r → r < τ.1 10 → WHB9 (rV τ r) (τ.2.1 9 r) := fun r a b => by
  rw [g.1 10 hs] at b
  rw [rv_fr g hk, g.2.1 9 (hk 9 (by decide))]
  exact h r a b
end ALT
end
