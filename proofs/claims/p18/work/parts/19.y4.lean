section
section NRM
variable {W : Int → It} {i : It} {k c : Int}
theorem nrm_ne (h : c ≠ 3) (h2 : c ≠ 12) : nrm i c = i c := by unfold nrm; rw [if_neg (fun q => h q.1), if_neg h2]
theorem vW_ne (h : c ≠ 3) (h2 : c ≠ 12) : vW W k c = W k c := nrm_ne h h2
theorem nrm_3 (h : i 0 ≠ 12) : nrm i 3 = i 3 := by unfold nrm; rw [if_neg (fun q => h q.2.1), if_neg (by decide)]
theorem vW_3 (h : W k 0 ≠ 12) : vW W k 3 = W k 3 := nrm_3 h
theorem nrm_b (h : i 0 = 12) (h2 : i 11 = 1 ∨ i 11 = 2) : nrm i 3 = i 11 := by unfold nrm; rw [if_pos ⟨rfl, h, h2⟩]
theorem nrm_12 : nrm i 12 = 0 := by unfold nrm; rw [if_neg (fun q => absurd q.1 (by decide)), if_pos rfl]
theorem vW_0 : vW W k 0 = W k 0 := vW_ne (by decide) (by decide)
theorem vW_1 : vW W k 1 = W k 1 := vW_ne (by decide) (by decide)
theorem wrT_v {g : Int} : wrT (vW W k) g ↔ wrT (W k) g := by unfold wrT; rw [vW_0, vW_1]
theorem vW_put {i : It} : vW (uZ W k i) = uZ (vW W) k (nrm i) := by
  funext q
  by_cases e : q = k
  · rw [e, uZ_eq]; show nrm (uZ W k i k) = _; rw [uZ_eq]
  · rw [uZ_ne e]; show nrm (uZ W k i q) = _; rw [uZ_ne e]; rfl
end NRM
def iOK (i : It) : Prop := (0 ≤ i 0 ∧ i 0 ≤ 15) ∧ ((i 0 ≤ 5 ∨ i 0 = 10) → 0 ≤ i 1 ∧ i 1 < 192) ∧ (∀ j, 0 ≤ j → j < 4 → (0 ≤ i (3 + 2 * j) ∧ i (3 + 2 * j) ≤ 2) ∧ (i (3 + 2 * j) = 2 → 0 ≤ i (4 + 2 * j) ∧ i (4 + 2 * j) < 192)) ∧ (i 0 ≠ 10 → i 7 ≠ 2 ∧ i 9 ≠ 2) ∧ (i 0 = 12 → (i 11 = 1 ∨ i 11 = 2) → i 3 = 0 ∧ i 5 = 0 ∧ i 6 = 0 ∧ (i 11 = 2 → 0 ≤ i 4 ∧ i 4 < 192))
def WOK (W : Int → It) (n : Int) : Prop := ∀ k, 0 ≤ k → k < n → iOK (W k)
section WOKS
variable {W : Int → It} {n k : Int} {i : It}
theorem WOK.put (h : WOK W n) (hi : iOK i) : WOK (uZ W k i) n := fun q a b => by
  by_cases e : q = k
  · rw [e, uZ_eq]; exact hi
  · rw [uZ_ne e]; exact h q a b
theorem iOK.op (h : iOK i) {c : Int} (hc : c = 3 ∨ c = 5 ∨ c = 7 ∨ c = 9) (e : i c = 2) : 0 ≤ i (c + 1) ∧ i (c + 1) < 192 := by
  have q := h.2.2.1
  rcases hc with rfl | rfl | rfl | rfl
  · exact (q 0 (by decide) (by decide)).2 e
  · exact (q 1 (by decide) (by decide)).2 e
  · exact (q 2 (by decide) (by decide)).2 e
  · exact (q 3 (by decide) (by decide)).2 e
theorem iOK.kd (h : iOK i) {c : Int} (hc : c = 3 ∨ c = 5 ∨ c = 7 ∨ c = 9) : 0 ≤ i c ∧ i c ≤ 2 := by
  have q := h.2.2.1
  rcases hc with rfl | rfl | rfl | rfl
  · exact (q 0 (by decide) (by decide)).1
  · exact (q 1 (by decide) (by decide)).1
  · exact (q 2 (by decide) (by decide)).1
  · exact (q 3 (by decide) (by decide)).1
theorem iOK.ops {i : It} (h3 : (0 ≤ i 3 ∧ i 3 ≤ 2) ∧ (i 3 = 2 → 0 ≤ i 4 ∧ i 4 < 192)) (h5 : (0 ≤ i 5 ∧ i 5 ≤ 2) ∧ (i 5 = 2 → 0 ≤ i 6 ∧ i 6 < 192)) (h7 : (0 ≤ i 7 ∧ i 7 ≤ 2) ∧ (i 7 = 2 → 0 ≤ i 8 ∧ i 8 < 192)) (h9 : (0 ≤ i 9 ∧ i 9 ≤ 2) ∧ (i 9 = 2 → 0 ≤ i 10 ∧ i 10 < 192)) : ∀ j, 0 ≤ j → j < 4 → (0 ≤ i (3 + 2 * j) ∧ i (3 + 2 * j) ≤ 2) ∧ (i (3 + 2 * j) = 2 → 0 ≤ i (4 + 2 * j) ∧ i (4 + 2 * j) < 192) := fun j a b => by
  have : j = 0 ∨ j = 1 ∨ j = 2 ∨ j = 3 := by omega
  rcases this with rfl | rfl | rfl | rfl
  · exact h3
  · exact h5
  · exact h7
  · exact h9
theorem rdI_iff {g : Int} : rdI i g ↔ (i 3 = 2 ∧ i 4 = g) ∨ (i 5 = 2 ∧ i 6 = g) ∨ (i 7 = 2 ∧ i 8 = g) ∨ (i 9 = 2 ∧ i 10 = g) := by
  constructor
  · rintro ⟨j, a, b, c, d⟩
    have : j = 0 ∨ j = 1 ∨ j = 2 ∨ j = 3 := by omega
    rcases this with rfl | rfl | rfl | rfl
    · exact Or.inl ⟨c, d⟩
    · exact Or.inr (Or.inl ⟨c, d⟩)
    · exact Or.inr (Or.inr (Or.inl ⟨c, d⟩))
    · exact Or.inr (Or.inr (Or.inr ⟨c, d⟩))
  · rintro (⟨c, d⟩ | ⟨c, d⟩ | ⟨c, d⟩ | ⟨c, d⟩)
    · exact ⟨0, by decide, by decide, c, d⟩
    · exact ⟨1, by decide, by decide, c, d⟩
    · exact ⟨2, by decide, by decide, c, d⟩
    · exact ⟨3, by decide, by decide, c, d⟩
theorem rdI_v {g : Int} (h : W k 0 ≠ 12) : rdI (vW W k) g ↔ rdI (W k) g := by
  rw [rdI_iff, rdI_iff, vW_3 h, vW_ne (c := 4) (by decide) (by decide), vW_ne (c := 5) (by decide) (by decide), vW_ne (c := 6) (by decide) (by decide), vW_ne (c := 7) (by decide) (by decide), vW_ne (c := 8) (by decide) (by decide), vW_ne (c := 9) (by decide) (by decide), vW_ne (c := 10) (by decide) (by decide)]
theorem lnW_iff {g : Int} (h : iOK (W k)) (hk : 0 ≤ k ∧ k < n) : lnW W n k g ↔ W k 0 = 12 ∧ rdI (vW W k) g := by
  unfold lnW
  constructor
  · rintro ⟨-, h0, q⟩
    refine ⟨h0, rdI_iff.mpr ?_⟩
    rcases q with ⟨a, b⟩ | ⟨a, q⟩
    · refine Or.inl ⟨?_, by rw [vW_ne (by decide) (by decide)]; exact b⟩
      show nrm (W k) 3 = 2
      rw [nrm_b h0 (Or.inr a)]; exact a
    · by_cases e : W k 11 = 1
      · have z := h.2.2.2.2 h0 (Or.inl e)
        rcases q with q | q
        · exact absurd q.1 (by omega)
        · exact absurd q.1 (by omega)
      · have e3 : vW W k 3 = W k 3 := by
          show nrm (W k) 3 = _
          unfold nrm
          rw [if_neg (fun w => w.2.2.elim e a), if_neg (by decide)]
        rcases q with q | q
        · exact Or.inl ⟨e3.trans q.1, by rw [vW_ne (by decide) (by decide)]; exact q.2⟩
        · exact Or.inr (Or.inl ⟨by rw [vW_ne (by decide) (by decide)]; exact q.1, by rw [vW_ne (by decide) (by decide)]; exact q.2⟩)
  · rintro ⟨h0, q⟩
    refine ⟨hk, h0, ?_⟩
    have z4 := h.2.2.2.1 (by omega)
    rw [rdI_iff, vW_ne (c := 4) (by decide) (by decide), vW_ne (c := 5) (by decide) (by decide), vW_ne (c := 6) (by decide) (by decide), vW_ne (c := 7) (by decide) (by decide), vW_ne (c := 9) (by decide) (by decide)] at q
    by_cases e2 : W k 11 = 2
    · have z := h.2.2.2.2 h0 (Or.inr e2)
      rcases q with q | q | q | q
      · exact Or.inl ⟨e2, q.2⟩
      · exact absurd q.1 (by omega)
      · exact absurd q.1 z4.1
      · exact absurd q.1 z4.2
    · refine Or.inr ⟨e2, ?_⟩
      by_cases e : W k 11 = 1
      · have z := h.2.2.2.2 h0 (Or.inl e)
        have e3 : vW W k 3 = 1 := by show nrm (W k) 3 = 1; rw [nrm_b h0 (Or.inl e)]; exact e
        rcases q with q | q | q | q
        · exact absurd q.1 (by omega)
        · exact absurd q.1 (by omega)
        · exact absurd q.1 z4.1
        · exact absurd q.1 z4.2
      · have e3 : vW W k 3 = W k 3 := by
          show nrm (W k) 3 = _
          unfold nrm
          rw [if_neg (fun w => w.2.2.elim e e2), if_neg (by decide)]
        rw [e3] at q
        rcases q with q | q | q | q
        · exact Or.inl q
        · exact Or.inr q
        · exact absurd q.1 z4.1
        · exact absurd q.1 z4.2
end WOKS
def WRS (W : Int → It) (k i : Int) (L : Int → Int64) : Prop := ∀ g, bT L 0 g ↔ ∃ u, i < u ∧ u < k ∧ wrT (W u) g
def NTW (W : Int → It) (k i : Int) : Prop := ∀ u, i < u → u < k → W u 0 ≠ 13 ∧ ¬ twn (vW W) k u
def SSQ (W : Int → It) (L : Int → Int64) (k v : Int) : Prop := (v = 1 ∧ ¬ (W k 3 = 2 ∧ bT L 0 (W k 4)) ∧ ¬ (W k 5 = 2 ∧ bT L 0 (W k 6))) ∨ (v = 0 ∧ ((W k 3 = 2 ∧ bT L 0 (W k 4)) ∨ (W k 5 = 2 ∧ bT L 0 (W k 6))))
section ALK
variable {W : Int → It} {n k i r : Int} {L L2 : Int → Int64}
theorem WRS.nil (h : ∀ g, ¬ bT L 0 g) : WRS W k (k - 1) L := fun g => ⟨fun q => absurd q (h g), fun ⟨u, a, b, _⟩ => by omega⟩
theorem wb_wr {g : Int} (hw : iOK (W i)) (hi : 0 ≤ i ∧ i < n) (h : WBQ W n i r) : (g = r ∧ 0 ≤ r ∧ r < 192) ↔ wrT (W i) g := by
  unfold WBQ at h
  unfold wrT
  have h0 := hw.1
  have h1 := hw.2.1
  constructor
  · rintro ⟨e, a, b⟩
    rcases h with ⟨-, c, d⟩ | ⟨c, d⟩
    · exact ⟨by omega, by omega⟩
    · omega
  · rintro ⟨a, b⟩
    have := h1 a
    rcases h with ⟨-, c, d⟩ | ⟨c, d⟩
    · omega
    · exact absurd ⟨hi, by omega⟩ c
theorem WRS.step (h : WRS W k i L) (hw : WOK W n) (hi : 0 ≤ i ∧ i < k) (hk : k ≤ n) (hb : WBQ W n i r) (e : BTI L L2 0 r) : WRS W k (i - 1) L2 := fun g => by
  have q := e 0 g
  have w := wb_wr (g := g) (hw i hi.1 (by omega)) ⟨hi.1, by omega⟩ hb
  rw [q, h g]
  constructor
  · rintro (⟨u, a, b, c⟩ | ⟨-, c⟩)
    · exact ⟨u, by omega, b, c⟩
    · exact ⟨i, by omega, hi.2, w.mp c⟩
  · rintro ⟨u, a, b, c⟩
    by_cases y : u = i
    · subst y; exact Or.inr ⟨rfl, w.mpr c⟩
    · exact Or.inl ⟨u, by omega, b, c⟩
theorem WRS.nw (h : WRS W k i L) {g : Int} (q : ¬ bT L 0 g) : nwB (vW W) (i + 1) (k - 1) g := fun u a b c => q ((h g).mpr ⟨u, by omega, by omega, wrT_v.mp c⟩)
theorem WRS.wn (h : WRS W k i L) {g : Int} (q : nwB (vW W) (i + 1) (k - 1) g) : ¬ bT L 0 g := fun c => by
  obtain ⟨u, a, b, d⟩ := (h g).mp c
  exact q u (by omega) (by omega) (wrT_v.mpr d)
theorem tw_iff (h : WRS W k i L) (hw : WOK W n) (hi : 0 ≤ i ∧ i < k) (hk : k < n) (hf : 1 ≤ W k 0 ∧ W k 0 ≤ 5) (hb : WBQ W n i r) (e : BTI L L2 0 r) : twn (vW W) k i ↔ (W i 0 = W k 0 ∧ ¬ bT L 0 r ∧ (W i 3 = W k 3 ∧ W i 4 = W k 4 ∧ W i 5 = W k 5 ∧ W i 6 = W k 6) ∧ ¬ (W i 3 = 2 ∧ bT L2 0 (W i 4)) ∧ ¬ (W i 5 = 2 ∧ bT L2 0 (W i 6))) := by
  have wi := hw i hi.1 (by omega)
  have ki : W k 0 ≠ 12 := by omega
  constructor
  · rintro ⟨⟨a0, a3, a4, a5, a6⟩, b, c, d3, d5⟩
    rw [vW_0, vW_0] at a0
    have ii : W i 0 ≠ 12 := by omega
    rw [vW_3 ii, vW_3 ki] at a3
    rw [vW_ne (by decide) (by decide), vW_ne (by decide) (by decide)] at a4 a5 a6
    have er : r = W i 1 := by unfold WBQ at hb; omega
    rw [rdI_v ii, vW_1] at b
    rw [vW_1] at c
    rw [vW_3 ii, vW_ne (c := 4) (by decide) (by decide)] at d3
    rw [vW_ne (c := 5) (by decide) (by decide), vW_ne (c := 6) (by decide) (by decide)] at d5
    refine ⟨a0, by rw [er]; exact h.wn c, ⟨a3, a4, a5, a6⟩, fun q => ?_, fun q => ?_⟩
    · rcases (e 0 (W i 4)).mp q.2 with z | z
      · exact h.wn (d3 q.1) z
      · exact b (rdI_iff.mpr (Or.inl ⟨q.1, z.2.1.trans er⟩))
    · rcases (e 0 (W i 6)).mp q.2 with z | z
      · exact h.wn (d5 q.1) z
      · exact b (rdI_iff.mpr (Or.inr (Or.inl ⟨q.1, z.2.1.trans er⟩)))
  · rintro ⟨a0, c, ⟨a3, a4, a5, a6⟩, d3, d5⟩
    have ii : W i 0 ≠ 12 := by omega
    have er : r = W i 1 := by unfold WBQ at hb; omega
    have rr := wi.2.1 (by omega)
    have z7 := wi.2.2.2.1 (by omega)
    refine ⟨⟨by rw [vW_0, vW_0]; exact a0, by rw [vW_3 ii, vW_3 ki]; exact a3, by rw [vW_ne (by decide) (by decide), vW_ne (by decide) (by decide)]; exact a4, by rw [vW_ne (by decide) (by decide), vW_ne (by decide) (by decide)]; exact a5, by rw [vW_ne (by decide) (by decide), vW_ne (by decide) (by decide)]; exact a6⟩, ?_, ?_, fun q => ?_, fun q => ?_⟩
    · rw [rdI_v ii, vW_1, rdI_iff]
      rintro (q | q | q | q)
      · exact d3 ⟨q.1, (e 0 _).mpr (Or.inr ⟨rfl, by omega⟩)⟩
      · exact d5 ⟨q.1, (e 0 _).mpr (Or.inr ⟨rfl, by omega⟩)⟩
      · exact z7.1 q.1
      · exact z7.2 q.1
    · rw [vW_1, ← er]; exact h.nw c
    · rw [vW_3 ii] at q
      rw [vW_ne (by decide) (by decide)]
      exact h.nw (fun z => d3 ⟨q, (e 0 _).mpr (Or.inl z)⟩)
    · rw [vW_ne (by decide) (by decide)] at q ⊢
      exact h.nw (fun z => d5 ⟨q, (e 0 _).mpr (Or.inl z)⟩)
theorem NTW.nil : NTW W k (k - 1) := fun u a b => by omega
theorem NTW.step (h : NTW W k i) (hl : W i 0 ≠ 13) (ht : ¬ twn (vW W) k i) : NTW W k (i - 1) := fun u a b => by
  by_cases e : u = i
  · subst e; exact ⟨hl, ht⟩
  · exact h u (by omega) b
def LTQ (W : Int → It) (k v : Int) : Prop := (v = -1 ∧ ∀ j, ¬ TWF (vW W) k j) ∨ (TWF (vW W) k v)
theorem LTQ.none (h : NTW W k i) (hi : i < 0 ∨ W i 0 = 13) (y2 : i < k) : LTQ W k (-1) := Or.inl ⟨rfl, fun j q => by
  obtain ⟨a, b, c, d, e⟩ := q
  rcases Int.lt_trichotomy j i with z | z | z
  · rcases hi with y | y
    · omega
    · exact (e i z y2).1 (by rw [vW_0]; exact y)
  · subst z
    rcases hi with y | y
    · omega
    · exact c (by rw [vW_0]; exact y)
  · exact (h j z b).2 d⟩
theorem LTQ.some (h : NTW W k i) (hi : 0 ≤ i ∧ i < k) (hl : W i 0 ≠ 13) (ht : twn (vW W) k i) : LTQ W k i := Or.inr ⟨hi.1, hi.2, by rw [vW_0]; exact hl, ht, fun u a b => ⟨by rw [vW_0]; exact (h u a b).1, (h u a b).2⟩⟩
end ALK
section ALK2
variable {W W2 V : Int → It} {n k j w v : Int}
theorem als_no (h : ALS k.toNat V (vW W) w) (h0 : 0 ≤ k) (hW : W2 = W) (hn : (1 ≤ W k 0 ∧ W k 0 ≤ 5) → ∀ j, ¬ TWF (vW W) k j) : ALS (k + 1).toNat V (vW W2) w := by
  have q := h.s h0 (V2 := vW W2) (d := 0) (Or.inr ⟨fun f => hn (by unfold isF at f; rw [vW_0] at f; exact f), by rw [hW], rfl⟩)
  rw [Int.add_zero] at q
  exact q
theorem nrm_cpy {i : It} {v : Int} : nrm (cpyI i 2 v) = cpyI (nrm i) 2 v := by
  have z0 : cpyI i 2 v 0 = 0 := rfl
  funext c
  by_cases h12 : c = 12
  · subst h12
    rw [nrm_12]
    show 0 = nrm i 12
    rw [nrm_12]
  by_cases h3 : c = 3
  · subst h3
    rw [nrm_3 (by rw [z0]; decide)]
    rfl
  rw [nrm_ne h3 h12]
  unfold cpyI uZ
  by_cases h6 : c = 6
  · rw [if_pos h6, if_pos h6]
  rw [if_neg h6, if_neg h6]
  by_cases h5 : c = 5
  · rw [if_pos h5, if_pos h5]
  rw [if_neg h5, if_neg h5]
  by_cases h4 : c = 4
  · rw [if_pos h4, if_pos h4]
  rw [if_neg h4, if_neg h4, if_neg h3, if_neg h3]
  by_cases hz : c = 0
  · rw [if_pos hz, if_pos hz]
  rw [if_neg hz, if_neg hz, nrm_ne h3 h12]
theorem als_yes (h : ALS k.toNat V (vW W) w) (h0 : 0 ≤ k) (hf : 1 ≤ W k 0 ∧ W k 0 ≤ 5) (ht : TWF (vW W) k j) (hv : v = W j 1) (hW : W2 = uZ W k (cpyI (W k) 2 v)) : ALS (k + 1).toNat V (vW W2) (w + 1) := by
  refine h.s h0 (Or.inl ⟨j, by unfold isF; rw [vW_0]; exact hf, ht, ?_, rfl⟩)
  rw [hW, vW_put, hv, vW_1, nrm_cpy]
  rfl
theorem iOK_cpy {i : It} {v : Int} (h : iOK i) (hk : 1 ≤ i 0 ∧ i 0 ≤ 5) (hv : 0 ≤ v ∧ v < 192) : iOK (cpyI i 2 v) := by
  have z0 : cpyI i 2 v 0 = 0 := rfl
  have z7 := h.2.2.2.1 (by omega)
  refine ⟨by rw [z0]; decide, fun _ => h.2.1 (by omega), iOK.ops ⟨(by decide : (0 : Int) ≤ 2 ∧ (2 : Int) ≤ 2), fun _ => hv⟩ ⟨(by decide : (0 : Int) ≤ 0 ∧ (0 : Int) ≤ 2), fun c => absurd c (show ¬ (0 : Int) = 2 by decide)⟩ (h.2.2.1 2 (by decide) (by decide)) (h.2.2.1 3 (by decide) (by decide)), fun _ => z7, fun q => by rw [z0] at q; omega⟩
end ALK2
theorem als_end {V V2 : Int → It} {n k w : Int} (h : ALS k.toNat V V2 w) (e : k = n) : ALS n.toNat V V2 w := by rw [← e]; exact h
end
section
set_option maxHeartbeats 1000000 in
set_option maxRecDepth 20000 in
theorem k_X6_standsStill_x (d : Nat) {T : CT} {σ : MS} {a : Nat} {p1 : Nat} {p2 : Int} {x : Nat} {n : Int} {W : Int → It} {xw : Nat} {Lw : Int → Int64} (ha : OB T a 6) (h_p1 : OB T p1 1) (t_p1 : (T p1).1 = 50) (h_p2 : -2147483648 ≤ p2 ∧ p2 ≤ 2147483647) (hw : WT T σ) (hx : σ.2.1 5 p1 = (x : Int)) (hn : σ.2.1 6 p1 = n) (hW : cW σ x n = W) (hxw : σ.2.1 54 a = (xw : Int)) (hLw : σ.2.2 xw = Lw) (hN : n ≤ 200) : Tn (d + 3) m_X6_standsStill 0 T σ [(0, .ref a), (1, .ref p1), (2, .int (iI p2))] [] (fun ro T2 σ2 => ∃ v : Int, ro = some (.int (iI v)) ∧ T = T2 ∧ σ = σ2 ∧ (v = 0 ∨ v = 1) ∧ (SSQ W Lw p2 v)) := by
  refine tn_aload_n dX6_standsStill_0 rfl 1 rfl ?_
  refine tn_iload_n dX6_standsStill_1 rfl 2 rfl ?_
  refine tn_iconst dX6_standsStill_2 ?_
  obtain ⟨hl4, hk3a, hk3b⟩ := cel_of (wf_5 hw h_p1) hx
  have hk3 : (T x).1 = 1 := hk3a (by omega)
  clear hk3a hk3b
  have hk3i : IA T x := by unfold IA; omega
  refine tn_callV (M := m_X6_standsStill) (pc := 3) (ix := 34) (ci := 1) (M' := m_X1_get) (As := [.int (iI p2), .int (iI 3)]) (rest := []) dX6_standsStill_3 ok_X1_get im_X1_get se_X1_get ml6_34 np_X1_get rfl rfl h_p1 rfl (Nat.le_of_ble_eq_true rfl) (Nat.le_of_ble_eq_true rfl) rfl (k_X1_get_x (d + 1) (T := T) (σ := σ) (a := p1) (k := p2) (c := 3) (x := x) (n := n) (W := W) h_p1 (by omega) (by decide) hw (hx) (hn) hW (by omega) (by omega)) (fun r5 T7 σ6 gt8 hp => ?_)
  obtain ⟨v11, rfl, rfl, rfl, f9, f10⟩ := hp
  clear gt8
  show Tn _ _ 6 T σ [(0, .ref a), (1, .ref p1), (2, .int (iI p2))] [.int (iI v11)] _
  refine tn_iconst dX6_standsStill_6 ?_
  refine tn_icmp_ne (tgt := 27) dX6_standsStill_7 (by decide) ⟨by omega, by omega⟩ ⟨by decide, by decide⟩ (fun h12 => ?_) (fun h12 => ?_)
  · refine tn_aload_n dX6_standsStill_27 rfl 1 rfl ?_
    refine tn_iload_n dX6_standsStill_28 rfl 2 rfl ?_
    refine tn_iconst dX6_standsStill_29 ?_
    refine tn_callV (M := m_X6_standsStill) (pc := 30) (ix := 34) (ci := 1) (M' := m_X1_get) (As := [.int (iI p2), .int (iI 5)]) (rest := []) dX6_standsStill_30 ok_X1_get im_X1_get se_X1_get ml6_34 np_X1_get rfl rfl h_p1 rfl (Nat.le_of_ble_eq_true rfl) (Nat.le_of_ble_eq_true rfl) rfl (k_X1_get_x (d + 1) (T := T) (σ := σ) (a := p1) (k := p2) (c := 5) (x := x) (n := n) (W := W) h_p1 (by omega) (by decide) hw (hx) (hn) hW (by omega) (by omega)) (fun r13 T15 σ14 gt16 hp => ?_)
    obtain ⟨v19, rfl, rfl, rfl, f17, f18⟩ := hp
    clear gt16
    show Tn _ _ 33 T σ [(0, .ref a), (1, .ref p1), (2, .int (iI p2))] [.int (iI v19)] _
    refine tn_iconst dX6_standsStill_33 ?_
    refine tn_icmp_ne (tgt := 55) dX6_standsStill_34 (by decide) ⟨by omega, by omega⟩ ⟨by decide, by decide⟩ (fun h20 => ?_) (fun h20 => ?_)
    · refine tn_iconst dX6_standsStill_55 ?_
      refine tn_goto (tgt := 60) dX6_standsStill_56 (by decide) ?_
      exact tn_zret (v := 1) rfl (by decide) dX6_standsStill_60 ⟨_, rfl, rfl, rfl, by omega, by unfold SSQ; grind⟩
    · refine tn_aload_n dX6_standsStill_37 rfl 0 rfl ?_
      obtain ⟨hk23, hl24⟩ : AR T xw 3 3 3 := ar_of (wf_54 hw ha) hxw
      refine tn_getR (ci := 6) (i := 2) (n := 54) (x := xw) dX6_standsStill_38 rfl lay_6 (by decide) fl6_18 ha rfl rfl (hxw) ?_
      refine tn_iconst dX6_standsStill_41 ?_
      refine tn_aload_n dX6_standsStill_42 rfl 1 rfl ?_
      refine tn_iload_n dX6_standsStill_43 rfl 2 rfl ?_
      refine tn_bipush dX6_standsStill_44 (by decide) ?_
      refine tn_callV (M := m_X6_standsStill) (pc := 46) (ix := 34) (ci := 1) (M' := m_X1_get) (As := [.int (iI p2), .int (iI 6)]) (rest := [.int (iI 0), .ref xw]) dX6_standsStill_46 ok_X1_get im_X1_get se_X1_get ml6_34 np_X1_get rfl rfl h_p1 rfl (Nat.le_of_ble_eq_true rfl) (Nat.le_of_ble_eq_true rfl) rfl (k_X1_get_x (d + 1) (T := T) (σ := σ) (a := p1) (k := p2) (c := 6) (x := x) (n := n) (W := W) h_p1 (by omega) (by decide) hw (hx) (hn) hW (by omega) (by omega)) (fun r25 T27 σ26 gt28 hp => ?_)
      obtain ⟨v31, rfl, rfl, rfl, f29, f30⟩ := hp
      clear gt28
      show Tn _ _ 49 T σ [(0, .ref a), (1, .ref p1), (2, .int (iI p2))] [.int (iI v31), .int (iI 0), .ref xw] _
      refine tn_callSN (M := m_X6_standsStill) (pc := 49) (ix := 131) (M' := m_X11_has) (As := [.ref xw, .int (iI 0), .int (iI v31)]) (rest := []) dX6_standsStill_49 ok_X11_has stt_X11_has nl6_131 np_X11_has rfl (Nat.le_of_ble_eq_true rfl) (Nat.le_of_ble_eq_true rfl) rfl (k_X11_has_x (d) (T := T) (σ := σ) (x := xw) (k := 0) (r := v31) (L := Lw) hk23 (by omega) (by decide) (by omega) hw hLw (by omega)) (fun r32 T34 σ33 gt35 hp => ?_)
      obtain ⟨v38, rfl, rfl, rfl, f36, f37⟩ := hp
      clear gt35
      show Tn _ _ 52 T σ [(0, .ref a), (1, .ref p1), (2, .int (iI p2))] [.int (iI v38)] _
      refine tn_if_ne (tgt := 59) dX6_standsStill_52 (by decide) ⟨by omega, by omega⟩ (fun h39 => ?_) (fun h39 => ?_)
      · refine tn_iconst dX6_standsStill_59 ?_
        exact tn_zret (v := 0) rfl (by decide) dX6_standsStill_60 ⟨_, rfl, rfl, rfl, by omega, by unfold SSQ; grind⟩
      · refine tn_iconst dX6_standsStill_55 ?_
        refine tn_goto (tgt := 60) dX6_standsStill_56 (by decide) ?_
        exact tn_zret (v := 1) rfl (by decide) dX6_standsStill_60 ⟨_, rfl, rfl, rfl, by omega, by unfold SSQ; grind⟩
  · refine tn_aload_n dX6_standsStill_10 rfl 0 rfl ?_
    obtain ⟨hk42, hl43⟩ : AR T xw 3 3 3 := ar_of (wf_54 hw ha) hxw
    refine tn_getR (ci := 6) (i := 2) (n := 54) (x := xw) dX6_standsStill_11 rfl lay_6 (by decide) fl6_18 ha rfl rfl (hxw) ?_
    refine tn_iconst dX6_standsStill_14 ?_
    refine tn_aload_n dX6_standsStill_15 rfl 1 rfl ?_
    refine tn_iload_n dX6_standsStill_16 rfl 2 rfl ?_
    refine tn_iconst dX6_standsStill_17 ?_
    refine tn_callV (M := m_X6_standsStill) (pc := 18) (ix := 34) (ci := 1) (M' := m_X1_get) (As := [.int (iI p2), .int (iI 4)]) (rest := [.int (iI 0), .ref xw]) dX6_standsStill_18 ok_X1_get im_X1_get se_X1_get ml6_34 np_X1_get rfl rfl h_p1 rfl (Nat.le_of_ble_eq_true rfl) (Nat.le_of_ble_eq_true rfl) rfl (k_X1_get_x (d + 1) (T := T) (σ := σ) (a := p1) (k := p2) (c := 4) (x := x) (n := n) (W := W) h_p1 (by omega) (by decide) hw (hx) (hn) hW (by omega) (by omega)) (fun r44 T46 σ45 gt47 hp => ?_)
    obtain ⟨v50, rfl, rfl, rfl, f48, f49⟩ := hp
    clear gt47
    show Tn _ _ 21 T σ [(0, .ref a), (1, .ref p1), (2, .int (iI p2))] [.int (iI v50), .int (iI 0), .ref xw] _
    refine tn_callSN (M := m_X6_standsStill) (pc := 21) (ix := 131) (M' := m_X11_has) (As := [.ref xw, .int (iI 0), .int (iI v50)]) (rest := []) dX6_standsStill_21 ok_X11_has stt_X11_has nl6_131 np_X11_has rfl (Nat.le_of_ble_eq_true rfl) (Nat.le_of_ble_eq_true rfl) rfl (k_X11_has_x (d) (T := T) (σ := σ) (x := xw) (k := 0) (r := v50) (L := Lw) hk42 (by omega) (by decide) (by omega) hw hLw (by omega)) (fun r51 T53 σ52 gt54 hp => ?_)
    obtain ⟨v57, rfl, rfl, rfl, f55, f56⟩ := hp
    clear gt54
    show Tn _ _ 24 T σ [(0, .ref a), (1, .ref p1), (2, .int (iI p2))] [.int (iI v57)] _
    refine tn_if_ne (tgt := 59) dX6_standsStill_24 (by decide) ⟨by omega, by omega⟩ (fun h58 => ?_) (fun h58 => ?_)
    · refine tn_iconst dX6_standsStill_59 ?_
      exact tn_zret (v := 0) rfl (by decide) dX6_standsStill_60 ⟨_, rfl, rfl, rfl, by omega, by unfold SSQ; grind⟩
    · refine tn_aload_n dX6_standsStill_27 rfl 1 rfl ?_
      refine tn_iload_n dX6_standsStill_28 rfl 2 rfl ?_
      refine tn_iconst dX6_standsStill_29 ?_
      refine tn_callV (M := m_X6_standsStill) (pc := 30) (ix := 34) (ci := 1) (M' := m_X1_get) (As := [.int (iI p2), .int (iI 5)]) (rest := []) dX6_standsStill_30 ok_X1_get im_X1_get se_X1_get ml6_34 np_X1_get rfl rfl h_p1 rfl (Nat.le_of_ble_eq_true rfl) (Nat.le_of_ble_eq_true rfl) rfl (k_X1_get_x (d + 1) (T := T) (σ := σ) (a := p1) (k := p2) (c := 5) (x := x) (n := n) (W := W) h_p1 (by omega) (by decide) hw (hx) (hn) hW (by omega) (by omega)) (fun r59 T61 σ60 gt62 hp => ?_)
      obtain ⟨v65, rfl, rfl, rfl, f63, f64⟩ := hp
      clear gt62
      show Tn _ _ 33 T σ [(0, .ref a), (1, .ref p1), (2, .int (iI p2))] [.int (iI v65)] _
      refine tn_iconst dX6_standsStill_33 ?_
      refine tn_icmp_ne (tgt := 55) dX6_standsStill_34 (by decide) ⟨by omega, by omega⟩ ⟨by decide, by decide⟩ (fun h66 => ?_) (fun h66 => ?_)
      · refine tn_iconst dX6_standsStill_55 ?_
        refine tn_goto (tgt := 60) dX6_standsStill_56 (by decide) ?_
        exact tn_zret (v := 1) rfl (by decide) dX6_standsStill_60 ⟨_, rfl, rfl, rfl, by omega, by unfold SSQ; grind⟩
      · refine tn_aload_n dX6_standsStill_37 rfl 0 rfl ?_
        refine tn_getR (ci := 6) (i := 2) (n := 54) (x := xw) dX6_standsStill_38 rfl lay_6 (by decide) fl6_18 ha rfl rfl (hxw) ?_
        refine tn_iconst dX6_standsStill_41 ?_
        refine tn_aload_n dX6_standsStill_42 rfl 1 rfl ?_
        refine tn_iload_n dX6_standsStill_43 rfl 2 rfl ?_
        refine tn_bipush dX6_standsStill_44 (by decide) ?_
        refine tn_callV (M := m_X6_standsStill) (pc := 46) (ix := 34) (ci := 1) (M' := m_X1_get) (As := [.int (iI p2), .int (iI 6)]) (rest := [.int (iI 0), .ref xw]) dX6_standsStill_46 ok_X1_get im_X1_get se_X1_get ml6_34 np_X1_get rfl rfl h_p1 rfl (Nat.le_of_ble_eq_true rfl) (Nat.le_of_ble_eq_true rfl) rfl (k_X1_get_x (d + 1) (T := T) (σ := σ) (a := p1) (k := p2) (c := 6) (x := x) (n := n) (W := W) h_p1 (by omega) (by decide) hw (hx) (hn) hW (by omega) (by omega)) (fun r67 T69 σ68 gt70 hp => ?_)
        obtain ⟨v73, rfl, rfl, rfl, f71, f72⟩ := hp
        clear gt70
        show Tn _ _ 49 T σ [(0, .ref a), (1, .ref p1), (2, .int (iI p2))] [.int (iI v73), .int (iI 0), .ref xw] _
        refine tn_callSN (M := m_X6_standsStill) (pc := 49) (ix := 131) (M' := m_X11_has) (As := [.ref xw, .int (iI 0), .int (iI v73)]) (rest := []) dX6_standsStill_49 ok_X11_has stt_X11_has nl6_131 np_X11_has rfl (Nat.le_of_ble_eq_true rfl) (Nat.le_of_ble_eq_true rfl) rfl (k_X11_has_x (d) (T := T) (σ := σ) (x := xw) (k := 0) (r := v73) (L := Lw) hk42 (by omega) (by decide) (by omega) hw hLw (by omega)) (fun r74 T76 σ75 gt77 hp => ?_)
        obtain ⟨v80, rfl, rfl, rfl, f78, f79⟩ := hp
        clear gt77
        show Tn _ _ 52 T σ [(0, .ref a), (1, .ref p1), (2, .int (iI p2))] [.int (iI v80)] _
        refine tn_if_ne (tgt := 59) dX6_standsStill_52 (by decide) ⟨by omega, by omega⟩ (fun h81 => ?_) (fun h81 => ?_)
        · refine tn_iconst dX6_standsStill_59 ?_
          exact tn_zret (v := 0) rfl (by decide) dX6_standsStill_60 ⟨_, rfl, rfl, rfl, by omega, by unfold SSQ; grind⟩
        · refine tn_iconst dX6_standsStill_55 ?_
          refine tn_goto (tgt := 60) dX6_standsStill_56 (by decide) ?_
          exact tn_zret (v := 1) rfl (by decide) dX6_standsStill_60 ⟨_, rfl, rfl, rfl, by omega, by unfold SSQ; grind⟩
end
section
set_option maxHeartbeats 1000000 in
set_option maxRecDepth 20000 in
theorem l_X6_latestTwin_x_12 (d : Nat) {T : CT} {σ0 : MS} {a : Nat} {rx1 : Nat} {c2 : Int} {x : Nat} {n : Int} {W : Int → It} {xw : Nat} {post : Option Value → CT → MS → Prop} (h_a : OB T a 6) (h_rx1 : OB T rx1 1) (t_rx1 : (T rx1).1 = 50) (r_c2 : 0 ≤ c2 ∧ c2 ≤ 200) (hw0 : WT T σ0) (hk : 0 ≤ c2 ∧ c2 < n) (hf : 1 ≤ W c2 0 ∧ W c2 0 ≤ 5) (hx : σ0.2.1 5 rx1 = (x : Int)) (hn : σ0.2.1 6 rx1 = n) (hW : cW σ0 x n = W) (hxw : σ0.2.1 54 a = (xw : Int)) (hN : n ≤ 200) (hwok : WOK W n) (hx_102 : ∀ (i3 : Int) (σ : MS) , (WT T σ) → (FrC T [] σ0 σ) → (-1 ≤ i3 ∧ i3 ≤ 199) → (CHX [] [] [xw] σ0 σ) → (True) → (True) → (True) → (LTQ W c2 i3) → Tn (d + 4) m_X6_latestTwin 102 T σ [(0, .ref a), (1, .ref rx1), (2, .int (iI c2)), (3, .int (iI i3))] [] post) (hx_110 : ∀ (i3 : Int) (σ : MS) , (WT T σ) → (FrC T [] σ0 σ) → (-1 ≤ i3 ∧ i3 ≤ 199) → (CHX [] [] [xw] σ0 σ) → (True) → (True) → (True) → (LTQ W c2 (-1)) → Tn (d + 4) m_X6_latestTwin 110 T σ [(0, .ref a), (1, .ref rx1), (2, .int (iI c2)), (3, .int (iI i3))] [] post) : ∀ (nq9 : Nat) (i3 : Int) (σ : MS) , (WT T σ) → (FrC T [] σ0 σ) → (-1 ≤ i3 ∧ i3 ≤ 199) → (CHX [] [] [xw] σ0 σ) → (WRS W c2 i3 (σ.2.2 xw)) → (NTW W c2 i3) → (i3 < c2 ∧ -1 ≤ i3) → (i3 + 20).toNat = nq9 → Tn (d + 4) m_X6_latestTwin 12 T σ [(0, .ref a), (1, .ref rx1), (2, .int (iI c2)), (3, .int (iI i3))] [] post := by
  intro nq9
  induction nq9 using Nat.strongRecOn with
  | _ nq9 ih =>
    intro i3 σ hw hF r_i3 hC hB hT h3 hm
    refine tn_iload_n dX6_latestTwin_12 rfl 3 rfl ?_
    refine tn_if_lt (tgt := 110) dX6_latestTwin_13 (by decide) ⟨by omega, by omega⟩ (fun h1 => ?_) (fun h1 => ?_)
    · exact tn_sub [0, 1, 2, 3] rfl (hx_110 (i3) σ hw (FrC.rfl.trans (FrC.sub hF (by decide))) (by omega) hC True.intro True.intro True.intro (LTQ.none hT (by omega) (by omega)))
    · refine tn_aload_n dX6_latestTwin_16 rfl 1 rfl ?_
      refine tn_iload_n dX6_latestTwin_17 rfl 3 rfl ?_
      refine tn_iconst dX6_latestTwin_18 ?_
      obtain ⟨hl5, hk4a, hk4b⟩ := cel_of (wf_5 hw0 h_rx1) hx
      have hk4 : (T x).1 = 1 := hk4a (by omega)
      clear hk4a hk4b
      have hk4i : IA T x := by unfold IA; omega
      have cv6 : cW σ x n = W := (cW_row (CHX.r hC (by first | (simp; done) | (simp only [List.mem_cons, List.not_mem_nil, or_false, not_or]; omega)))).trans (hW)
      refine tn_callV (M := m_X6_latestTwin) (pc := 19) (ix := 34) (ci := 1) (M' := m_X1_get) (As := [.int (iI i3), .int (iI 0)]) (rest := []) dX6_latestTwin_19 ok_X1_get im_X1_get se_X1_get ml6_34 np_X1_get rfl rfl h_rx1 rfl (Nat.le_of_ble_eq_true rfl) (Nat.le_of_ble_eq_true rfl) rfl (k_X1_get_x (d + 2) (T := T) (σ := σ) (a := rx1) (k := i3) (c := 0) (x := x) (n := n) (W := W) h_rx1 (by omega) (by decide) hw (rc_F hF (Or.inl (by decide)) (by decide) (hx)) (rc_F hF (Or.inl (by decide)) (by decide) (hn)) cv6 (by omega) (by omega)) (fun r7 T9 σ8 gt10 hp => ?_)
      obtain ⟨v13, rfl, rfl, rfl, f11, f12⟩ := hp
      clear gt10
      show Tn _ _ 22 T σ [(0, .ref a), (1, .ref rx1), (2, .int (iI c2)), (3, .int (iI i3))] [.int (iI v13)] _
      refine tn_bipush dX6_latestTwin_22 (by decide) ?_
      refine tn_icmp_eq (tgt := 110) dX6_latestTwin_24 (by decide) ⟨by omega, by omega⟩ ⟨by decide, by decide⟩ (fun h14 => ?_) (fun h14 => ?_)
      · exact tn_sub [0, 1, 2, 3] rfl (hx_110 (i3) σ hw (FrC.rfl.trans (FrC.sub hF (by decide))) (by omega) hC True.intro True.intro True.intro (LTQ.none hT (by omega) (by omega)))
      · refine tn_aload_n dX6_latestTwin_27 rfl 1 rfl ?_
        refine tn_iload_n dX6_latestTwin_28 rfl 3 rfl ?_
        refine tn_callV (M := m_X6_latestTwin) (pc := 29) (ix := 84) (ci := 1) (M' := m_X1_writtenBy) (As := [.int (iI i3)]) (rest := []) dX6_latestTwin_29 ok_X1_writtenBy im_X1_writtenBy se_X1_writtenBy ml6_84 np_X1_writtenBy rfl rfl h_rx1 rfl (Nat.le_of_ble_eq_true rfl) (Nat.le_of_ble_eq_true rfl) rfl (k_X1_writtenBy_x (d + 1) (T := T) (σ := σ) (a := rx1) (k := i3) (x := x) (n := n) (W := W) h_rx1 (by omega) hw (rc_F hF (Or.inl (by decide)) (by decide) (hx)) (rc_F hF (Or.inl (by decide)) (by decide) (hn)) cv6 (by omega)) (fun r15 T17 σ16 gt18 hp => ?_)
        obtain ⟨v21, rfl, rfl, rfl, f19, f20⟩ := hp
        clear gt18
        show Tn _ _ 32 T σ [(0, .ref a), (1, .ref rx1), (2, .int (iI c2)), (3, .int (iI i3))] [.int (iI v21)] _
        refine tn_istore (L' := [(4, .int (iI v21)), (0, .ref a), (1, .ref rx1), (2, .int (iI c2)), (3, .int (iI i3))]) dX6_latestTwin_32 (by decide) rfl ?_
        refine tn_aload_n dX6_latestTwin_34 rfl 1 rfl ?_
        obtain ⟨hk24, hl25⟩ : AR T xw 3 3 3 := ar_of (wf_54 hw0 h_a) hxw
        refine tn_getR (ci := 6) (i := 2) (n := 54) (x := xw) dX6_latestTwin_35 rfl lay_6 (by decide) fl6_18 h_a rfl rfl (rc_F hF (Or.inl (by decide)) (by decide) (hxw)) ?_
        refine tn_iconst dX6_latestTwin_38 ?_
        refine tn_iload dX6_latestTwin_39 0 rfl ?_
        refine tn_callSN (M := m_X6_latestTwin) (pc := 41) (ix := 131) (M' := m_X11_has) (As := [.ref xw, .int (iI 0), .int (iI v21)]) (rest := []) dX6_latestTwin_41 ok_X11_has stt_X11_has nl6_131 np_X11_has rfl (Nat.le_of_ble_eq_true rfl) (Nat.le_of_ble_eq_true rfl) rfl (k_X11_has_x (d + 1) (T := T) (σ := σ) (x := xw) (k := 0) (r := v21) (L := σ.2.2 xw) hk24 (by omega) (by decide) (by omega) hw rfl (by omega)) (fun r26 T28 σ27 gt29 hp => ?_)
        obtain ⟨v32, rfl, rfl, rfl, f30, f31⟩ := hp
        clear gt29
        show Tn _ _ 44 T σ [(4, .int (iI v21)), (0, .ref a), (1, .ref rx1), (2, .int (iI c2)), (3, .int (iI i3))] [.int (iI v32)] _
        refine tn_if_ne (tgt := 51) dX6_latestTwin_44 (by decide) ⟨by omega, by omega⟩ (fun h33 => ?_) (fun h33 => ?_)
        · refine tn_iconst dX6_latestTwin_51 ?_
          refine tn_istore (L' := [(5, .int (iI 0)), (4, .int (iI v21)), (0, .ref a), (1, .ref rx1), (2, .int (iI c2)), (3, .int (iI i3))]) dX6_latestTwin_52 (by decide) rfl ?_
          refine tn_aload_n dX6_latestTwin_54 rfl 2 rfl ?_
          refine tn_getR (ci := 6) (i := 2) (n := 54) (x := xw) dX6_latestTwin_55 rfl lay_6 (by decide) fl6_18 h_a rfl rfl (rc_F hF (Or.inl (by decide)) (by decide) (hxw)) ?_
          refine tn_iconst dX6_latestTwin_58 ?_
          refine tn_iload dX6_latestTwin_59 1 rfl ?_
          refine tn_callSN (M := m_X6_latestTwin) (pc := 61) (ix := 127) (M' := m_X11_include) (As := [.ref xw, .int (iI 0), .int (iI v21)]) (rest := []) dX6_latestTwin_61 ok_X11_include stt_X11_include nl6_127 np_X11_include rfl (Nat.le_of_ble_eq_true rfl) (Nat.le_of_ble_eq_true rfl) rfl (k_X11_include_x (d + 1) (T := T) (σ := σ) (x := xw) (k := 0) (r := v21) (L := σ.2.2 xw) hk24 (by omega) (by decide) (by omega) hw rfl (by omega)) (fun r34 T36 σ35 gt37 hp => ?_)
          obtain ⟨rfl, rfl, w41, F42, f38, f39⟩ := hp
          clear gt37
          show Tn _ _ 64 T σ35 [(5, .int (iI 0)), (4, .int (iI v21)), (0, .ref a), (1, .ref rx1), (2, .int (iI c2)), (3, .int (iI i3))] [] _
          refine tn_iload dX6_latestTwin_64 0 rfl ?_
          refine tn_if_eq (tgt := 104) dX6_latestTwin_66 (by decide) ⟨by decide, by decide⟩ (fun _ => ?_) (fun h => absurd h (by decide))
          refine tn_iinc (q0 := 5) (L' := [(3, .int (iI (i3 + (-1)))), (5, .int (iI 0)), (4, .int (iI v21)), (0, .ref a), (1, .ref rx1), (2, .int (iI c2))]) dX6_latestTwin_104 rfl (by decide) rfl ?_
          refine tn_goto (tgt := 12) dX6_latestTwin_107 (by decide) ?_
          exact tn_sub [3, 4, 5, 0] rfl (ih _ (by omega) (i3 + (-1)) σ35 w41 ((FrC.rfl.trans (FrC.sub hF (by decide))).trans (FrC.sub F42 (by decide))) (by omega) (hC.trans (CHX.sub f38 (by simp) (by simp) (by simp))) (hB.step hwok ⟨by omega, by omega⟩ (by omega) f20 f39) (hT.step (by omega) (fun q => by have z := (tw_iff hB hwok ⟨by omega, by omega⟩ (by omega) hf f20 f39).mp q; first | exact absurd z.1 (by omega) | exact absurd (f31.mp (by omega)) z.2.1)) (by omega) rfl)
        · refine tn_iconst dX6_latestTwin_47 ?_
          refine tn_goto (tgt := 52) dX6_latestTwin_48 (by decide) ?_
          refine tn_istore (L' := [(5, .int (iI 1)), (4, .int (iI v21)), (0, .ref a), (1, .ref rx1), (2, .int (iI c2)), (3, .int (iI i3))]) dX6_latestTwin_52 (by decide) rfl ?_
          refine tn_aload_n dX6_latestTwin_54 rfl 2 rfl ?_
          refine tn_getR (ci := 6) (i := 2) (n := 54) (x := xw) dX6_latestTwin_55 rfl lay_6 (by decide) fl6_18 h_a rfl rfl (rc_F hF (Or.inl (by decide)) (by decide) (hxw)) ?_
          refine tn_iconst dX6_latestTwin_58 ?_
          refine tn_iload dX6_latestTwin_59 1 rfl ?_
          refine tn_callSN (M := m_X6_latestTwin) (pc := 61) (ix := 127) (M' := m_X11_include) (As := [.ref xw, .int (iI 0), .int (iI v21)]) (rest := []) dX6_latestTwin_61 ok_X11_include stt_X11_include nl6_127 np_X11_include rfl (Nat.le_of_ble_eq_true rfl) (Nat.le_of_ble_eq_true rfl) rfl (k_X11_include_x (d + 1) (T := T) (σ := σ) (x := xw) (k := 0) (r := v21) (L := σ.2.2 xw) hk24 (by omega) (by decide) (by omega) hw rfl (by omega)) (fun r44 T46 σ45 gt47 hp => ?_)
          obtain ⟨rfl, rfl, w51, F52, f48, f49⟩ := hp
          clear gt47
          show Tn _ _ 64 T σ45 [(5, .int (iI 1)), (4, .int (iI v21)), (0, .ref a), (1, .ref rx1), (2, .int (iI c2)), (3, .int (iI i3))] [] _
          refine tn_iload dX6_latestTwin_64 0 rfl ?_
          refine tn_if_eq (tgt := 104) dX6_latestTwin_66 (by decide) ⟨by decide, by decide⟩ (fun h => absurd h (by decide)) (fun _ => ?_)
          refine tn_aload_n dX6_latestTwin_69 rfl 3 rfl ?_
          refine tn_iload_n dX6_latestTwin_70 rfl 5 rfl ?_
          refine tn_iconst dX6_latestTwin_71 ?_
          have cv54 : cW σ45 x n = W := (cW_row (CHX.r f48 (by first | (simp; done) | (simp only [List.mem_cons, List.not_mem_nil, or_false, not_or]; omega)))).trans (cv6)
          refine tn_callV (M := m_X6_latestTwin) (pc := 72) (ix := 34) (ci := 1) (M' := m_X1_get) (As := [.int (iI i3), .int (iI 0)]) (rest := []) dX6_latestTwin_72 ok_X1_get im_X1_get se_X1_get ml6_34 np_X1_get rfl rfl h_rx1 rfl (Nat.le_of_ble_eq_true rfl) (Nat.le_of_ble_eq_true rfl) rfl (k_X1_get_x (d + 2) (T := T) (σ := σ45) (a := rx1) (k := i3) (c := 0) (x := x) (n := n) (W := W) h_rx1 (by omega) (by decide) w51 (rc_F F52 (Or.inl (by decide)) (by decide) (rc_F hF (Or.inl (by decide)) (by decide) (hx))) (rc_F F52 (Or.inl (by decide)) (by decide) (rc_F hF (Or.inl (by decide)) (by decide) (hn))) cv54 (by omega) (by omega)) (fun r55 T57 σ56 gt58 hp => ?_)
          obtain ⟨v61, rfl, rfl, rfl, f59, f60⟩ := hp
          clear gt58
          show Tn _ _ 75 T σ45 [(5, .int (iI 1)), (4, .int (iI v21)), (0, .ref a), (1, .ref rx1), (2, .int (iI c2)), (3, .int (iI i3))] [.int (iI v61)] _
          refine tn_aload_n dX6_latestTwin_75 rfl 3 rfl ?_
          refine tn_iload_n dX6_latestTwin_76 rfl 4 rfl ?_
          refine tn_iconst dX6_latestTwin_77 ?_
          refine tn_callV (M := m_X6_latestTwin) (pc := 78) (ix := 34) (ci := 1) (M' := m_X1_get) (As := [.int (iI c2), .int (iI 0)]) (rest := [.int (iI v61)]) dX6_latestTwin_78 ok_X1_get im_X1_get se_X1_get ml6_34 np_X1_get rfl rfl h_rx1 rfl (Nat.le_of_ble_eq_true rfl) (Nat.le_of_ble_eq_true rfl) rfl (k_X1_get_x (d + 2) (T := T) (σ := σ45) (a := rx1) (k := c2) (c := 0) (x := x) (n := n) (W := W) h_rx1 (by omega) (by decide) w51 (rc_F F52 (Or.inl (by decide)) (by decide) (rc_F hF (Or.inl (by decide)) (by decide) (hx))) (rc_F F52 (Or.inl (by decide)) (by decide) (rc_F hF (Or.inl (by decide)) (by decide) (hn))) cv54 (by omega) (by omega)) (fun r62 T64 σ63 gt65 hp => ?_)
          obtain ⟨v68, rfl, rfl, rfl, f66, f67⟩ := hp
          clear gt65
          show Tn _ _ 81 T σ45 [(5, .int (iI 1)), (4, .int (iI v21)), (0, .ref a), (1, .ref rx1), (2, .int (iI c2)), (3, .int (iI i3))] [.int (iI v68), .int (iI v61)] _
          refine tn_icmp_ne (tgt := 104) dX6_latestTwin_81 (by decide) ⟨by omega, by omega⟩ ⟨by omega, by omega⟩ (fun h69 => ?_) (fun h69 => ?_)
          · refine tn_iinc (q0 := 5) (L' := [(3, .int (iI (i3 + (-1)))), (5, .int (iI 1)), (4, .int (iI v21)), (0, .ref a), (1, .ref rx1), (2, .int (iI c2))]) dX6_latestTwin_104 rfl (by decide) rfl ?_
            refine tn_goto (tgt := 12) dX6_latestTwin_107 (by decide) ?_
            exact tn_sub [3, 4, 5, 0] rfl (ih _ (by omega) (i3 + (-1)) σ45 w51 ((FrC.rfl.trans (FrC.sub hF (by decide))).trans (FrC.sub F52 (by decide))) (by omega) (hC.trans (CHX.sub f48 (by simp) (by simp) (by simp))) (hB.step hwok ⟨by omega, by omega⟩ (by omega) f20 f49) (hT.step (by omega) (fun q => by have z := (tw_iff hB hwok ⟨by omega, by omega⟩ (by omega) hf f20 f49).mp q; first | exact absurd z.1 (by omega) | exact absurd (f31.mp (by omega)) z.2.1)) (by omega) rfl)
          · refine tn_aload_n dX6_latestTwin_84 rfl 3 rfl ?_
            refine tn_iload_n dX6_latestTwin_85 rfl 5 rfl ?_
            refine tn_iload_n dX6_latestTwin_86 rfl 4 rfl ?_
            refine tn_callV (M := m_X6_latestTwin) (pc := 87) (ix := 138) (ci := 1) (M' := m_X1_sameOperands) (As := [.int (iI i3), .int (iI c2)]) (rest := []) dX6_latestTwin_87 ok_X1_sameOperands im_X1_sameOperands se_X1_sameOperands ml6_138 np_X1_sameOperands rfl rfl h_rx1 rfl (Nat.le_of_ble_eq_true rfl) (Nat.le_of_ble_eq_true rfl) rfl (k_X1_sameOperands_x (d + 1) (T := T) (σ := σ45) (a := rx1) (k := i3) (j := c2) (x := x) (n := n) (W := W) h_rx1 (by omega) (by omega) w51 (rc_F F52 (Or.inl (by decide)) (by decide) (rc_F hF (Or.inl (by decide)) (by decide) (hx))) (rc_F F52 (Or.inl (by decide)) (by decide) (rc_F hF (Or.inl (by decide)) (by decide) (hn))) cv54 (by omega)) (fun r70 T72 σ71 gt73 hp => ?_)
            obtain ⟨v76, rfl, rfl, rfl, f74, f75⟩ := hp
            clear gt73
            show Tn _ _ 90 T σ45 [(5, .int (iI 1)), (4, .int (iI v21)), (0, .ref a), (1, .ref rx1), (2, .int (iI c2)), (3, .int (iI i3))] [.int (iI v76)] _
            refine tn_if_eq (tgt := 104) dX6_latestTwin_90 (by decide) ⟨by omega, by omega⟩ (fun h77 => ?_) (fun h77 => ?_)
            · refine tn_iinc (q0 := 5) (L' := [(3, .int (iI (i3 + (-1)))), (5, .int (iI 1)), (4, .int (iI v21)), (0, .ref a), (1, .ref rx1), (2, .int (iI c2))]) dX6_latestTwin_104 rfl (by decide) rfl ?_
              refine tn_goto (tgt := 12) dX6_latestTwin_107 (by decide) ?_
              exact tn_sub [3, 4, 5, 0] rfl (ih _ (by omega) (i3 + (-1)) σ45 w51 ((FrC.rfl.trans (FrC.sub hF (by decide))).trans (FrC.sub F52 (by decide))) (by omega) (hC.trans (CHX.sub f48 (by simp) (by simp) (by simp))) (hB.step hwok ⟨by omega, by omega⟩ (by omega) f20 f49) (hT.step (by omega) (fun q => by have z := (tw_iff hB hwok ⟨by omega, by omega⟩ (by omega) hf f20 f49).mp q; first | (have y := f75; unfold SMQ at y; omega))) (by omega) rfl)
            · refine tn_aload_n dX6_latestTwin_93 rfl 2 rfl ?_
              refine tn_aload_n dX6_latestTwin_94 rfl 3 rfl ?_
              refine tn_iload_n dX6_latestTwin_95 rfl 5 rfl ?_
              refine tn_callV (M := m_X6_latestTwin) (pc := 96) (ix := 114) (ci := 6) (M' := m_X6_standsStill) (As := [.ref rx1, .int (iI i3)]) (rest := []) dX6_latestTwin_96 ok_X6_standsStill im_X6_standsStill se_X6_standsStill ml6_114 np_X6_standsStill rfl rfl h_a rfl (Nat.le_of_ble_eq_true rfl) (Nat.le_of_ble_eq_true rfl) rfl (k_X6_standsStill_x (d) (T := T) (σ := σ45) (a := a) (p1 := rx1) (p2 := i3) (x := x) (n := n) (W := W) (xw := xw) (Lw := σ45.2.2 xw) h_a h_rx1 t_rx1 (by omega) w51 (rc_F F52 (Or.inl (by decide)) (by decide) (rc_F hF (Or.inl (by decide)) (by decide) (hx))) (rc_F F52 (Or.inl (by decide)) (by decide) (rc_F hF (Or.inl (by decide)) (by decide) (hn))) cv54 (rc_F F52 (Or.inl (by decide)) (by decide) (rc_F hF (Or.inl (by decide)) (by decide) (hxw))) rfl (by omega)) (fun r78 T80 σ79 gt81 hp => ?_)
              obtain ⟨v84, rfl, rfl, rfl, f82, f83⟩ := hp
              clear gt81
              show Tn _ _ 99 T σ45 [(5, .int (iI 1)), (4, .int (iI v21)), (0, .ref a), (1, .ref rx1), (2, .int (iI c2)), (3, .int (iI i3))] [.int (iI v84)] _
              refine tn_if_eq (tgt := 104) dX6_latestTwin_99 (by decide) ⟨by omega, by omega⟩ (fun h85 => ?_) (fun h85 => ?_)
              · refine tn_iinc (q0 := 5) (L' := [(3, .int (iI (i3 + (-1)))), (5, .int (iI 1)), (4, .int (iI v21)), (0, .ref a), (1, .ref rx1), (2, .int (iI c2))]) dX6_latestTwin_104 rfl (by decide) rfl ?_
                refine tn_goto (tgt := 12) dX6_latestTwin_107 (by decide) ?_
                exact tn_sub [3, 4, 5, 0] rfl (ih _ (by omega) (i3 + (-1)) σ45 w51 ((FrC.rfl.trans (FrC.sub hF (by decide))).trans (FrC.sub F52 (by decide))) (by omega) (hC.trans (CHX.sub f48 (by simp) (by simp) (by simp))) (hB.step hwok ⟨by omega, by omega⟩ (by omega) f20 f49) (hT.step (by omega) (fun q => by have z := (tw_iff hB hwok ⟨by omega, by omega⟩ (by omega) hf f20 f49).mp q; first | exact (f83.resolve_left (fun q => absurd q.1 (by omega))).2.elim z.2.2.2.1 z.2.2.2.2)) (by omega) rfl)
              · exact tn_sub [2, 3, 4, 5] rfl (hx_102 (i3) σ45 w51 ((FrC.rfl.trans (FrC.sub hF (by decide))).trans (FrC.sub F52 (by decide))) (by omega) (hC.trans (CHX.sub f48 (by simp) (by simp) (by simp))) True.intro True.intro True.intro (LTQ.some hT ⟨by omega, by omega⟩ (by omega) ((tw_iff hB hwok ⟨by omega, by omega⟩ (by omega) hf f20 f49).mpr ⟨by omega, fun q => absurd (f31.mpr q) (by omega), by have z := f75; unfold SMQ at z; omega, (f83.resolve_right (fun q => absurd q.1 (by omega))).2⟩)))
set_option maxHeartbeats 1000000 in
set_option maxRecDepth 20000 in
theorem k_X6_latestTwin_x (d : Nat) {T : CT} {σ : MS} {a : Nat} {p1 : Nat} {p2 : Int} {x : Nat} {n : Int} {W : Int → It} {xw : Nat} (ha : OB T a 6) (h_p1 : OB T p1 1) (t_p1 : (T p1).1 = 50) (h_p2 : -2147483648 ≤ p2 ∧ p2 ≤ 2147483647) (hw : WT T σ) (hx : σ.2.1 5 p1 = (x : Int)) (hn : σ.2.1 6 p1 = n) (hW : cW σ x n = W) (hxw : σ.2.1 54 a = (xw : Int)) (hN : n ≤ 200) (hwok : WOK W n) (hk : 0 ≤ p2 ∧ p2 < n) (hf : 1 ≤ W p2 0 ∧ W p2 0 ≤ 5) : Tn (d + 4) m_X6_latestTwin 0 T σ [(0, .ref a), (1, .ref p1), (2, .int (iI p2))] [] (fun ro T2 σ2 => ∃ v : Int, ro = some (.int (iI v)) ∧ T = T2 ∧ WT T2 σ2 ∧ FrC T [] σ σ2 ∧ (-2147483648 ≤ v ∧ v ≤ 2147483647) ∧ (CHX [] [] [xw] σ σ2) ∧ (LTQ W p2 v)) := by
  refine tn_aload_n dX6_latestTwin_0 rfl 0 rfl ?_
  obtain ⟨hk3, hl4⟩ : AR T xw 3 3 3 := ar_of (wf_54 hw ha) hxw
  refine tn_getR (ci := 6) (i := 2) (n := 54) (x := xw) dX6_latestTwin_1 rfl lay_6 (by decide) fl6_18 ha rfl rfl (hxw) ?_
  refine tn_iconst dX6_latestTwin_4 ?_
  refine tn_callSN (M := m_X6_latestTwin) (pc := 5) (ix := 123) (M' := m_X11_clear) (As := [.ref xw, .int (iI 3)]) (rest := []) dX6_latestTwin_5 ok_X11_clear stt_X11_clear nl6_123 np_X11_clear rfl (Nat.le_of_ble_eq_true rfl) (Nat.le_of_ble_eq_true rfl) rfl (k_X11_clear_x (d) (T := T) (σ := σ) (x := xw) (n := 3) hk3 (by omega) (by decide) hw (by omega)) (fun r5 T7 σ6 gt8 hp => ?_)
  obtain ⟨rfl, rfl, w12, F13, f9, f10⟩ := hp
  clear gt8
  show Tn _ _ 8 T σ6 [(0, .ref a), (1, .ref p1), (2, .int (iI p2))] [] _
  refine tn_iload_n dX6_latestTwin_8 rfl 2 rfl ?_
  refine tn_iconst dX6_latestTwin_9 ?_
  refine tn_isub dX6_latestTwin_10 ?_
  refine tn_istore_n (L' := [(3, .int (iI (p2 - 1))), (0, .ref a), (1, .ref p1), (2, .int (iI p2))]) dX6_latestTwin_11 rfl (by decide) rfl ?_
  have cv14 : cW σ6 x n = W := (cW_row (CHX.r f9 (by first | (simp; done) | (simp only [List.mem_cons, List.not_mem_nil, or_false, not_or]; omega)))).trans (hW)
  refine tn_sub [1, 2, 3, 0] rfl (l_X6_latestTwin_x_12 (d) (T := T) (σ0 := σ6) (a := a) (rx1 := p1) (c2 := p2) (x := x) (n := n) (W := (W)) (xw := xw) ha h_p1 t_p1 (by omega) w12 (by omega) hf (rc_F F13 (Or.inl (by decide)) (by decide) (hx)) (rc_F F13 (Or.inl (by decide)) (by decide) (hn)) cv14 (rc_F F13 (Or.inl (by decide)) (by decide) (hxw)) hN hwok (fun i315 σ16 w19 F20 r21 f22 f23 f24 f25 f26 => ?_) (fun i327 σ28 w31 F32 r33 f34 f35 f36 f37 f38 => ?_) _ (p2 - 1) σ6 w12 FrC.rfl (by omega) CHX.rfl (WRS.nil (fun g => bT_z (fun i a b => f10.z (by omega) (by omega)))) NTW.nil (by omega) rfl)
  · show Tn _ _ 102 T σ16 [(0, .ref a), (1, .ref p1), (2, .int (iI p2)), (3, .int (iI i315))] [] _
    refine tn_iload_n dX6_latestTwin_102 rfl 3 rfl ?_
    exact tn_iret rfl dX6_latestTwin_103 ⟨_, rfl, rfl, w19, ((FrC.rfl.trans (FrC.sub F13 (by decide))).trans (FrC.sub F20 (by decide))), by omega, ((CHX.rfl.trans (CHX.sub f9 (by simp) (by simp) (by simp))).trans (CHX.sub f22 (by simp) (by simp) (by simp))), f26⟩
  · show Tn _ _ 110 T σ28 [(0, .ref a), (1, .ref p1), (2, .int (iI p2)), (3, .int (iI i327))] [] _
    refine tn_iconst dX6_latestTwin_110 ?_
    exact tn_iret rfl dX6_latestTwin_111 ⟨_, rfl, rfl, w31, ((FrC.rfl.trans (FrC.sub F13 (by decide))).trans (FrC.sub F32 (by decide))), by omega, ((CHX.rfl.trans (CHX.sub f9 (by simp) (by simp) (by simp))).trans (CHX.sub f34 (by simp) (by simp) (by simp))), f38⟩
end
section
set_option maxHeartbeats 1000000 in
set_option maxRecDepth 20000 in
theorem l_X6_alike_x_4 (d : Nat) {T : CT} {σ0 : MS} {a : Nat} {rx1 : Nat} {x : Nat} {n : Int} {W : Int → It} {xw : Nat} {post : Option Value → CT → MS → Prop} (h_a : OB T a 6) (h_rx1 : OB T rx1 1) (t_rx1 : (T rx1).1 = 50) (hw0 : WT T σ0) (hx : σ0.2.1 5 rx1 = (x : Int)) (hn : σ0.2.1 6 rx1 = n) (hxw : σ0.2.1 54 a = (xw : Int)) (hN : n ≤ 200) (hx_64 : ∀ (i2 : Int) (i3 : Int) (σ : MS) , (WT T σ) → (FrC T [] σ0 σ) → (0 ≤ i2 ∧ i2 ≤ 200) → (0 ≤ i3 ∧ i3 ≤ 200) → (CHX [] [x] [xw] σ0 σ) → (ALS i3.toNat (vW W) (vW (cW σ x n)) i2) → (WOK (cW σ x n) n) → (0 ≤ i3 ∧ i3 ≤ n ∧ 0 ≤ i2 ∧ i2 ≤ i3) → (n ≤ i3) → Tn (d + 5) m_X6_alike 64 T σ [(0, .ref a), (1, .ref rx1), (2, .int (iI i2)), (3, .int (iI i3))] [] post) : ∀ (nq9 : Nat) (i2 : Int) (i3 : Int) (σ : MS) , (WT T σ) → (FrC T [] σ0 σ) → (0 ≤ i2 ∧ i2 ≤ 200) → (0 ≤ i3 ∧ i3 ≤ 200) → (CHX [] [x] [xw] σ0 σ) → (ALS i3.toNat (vW W) (vW (cW σ x n)) i2) → (WOK (cW σ x n) n) → (0 ≤ i3 ∧ i3 ≤ n ∧ 0 ≤ i2 ∧ i2 ≤ i3) → (2147483700 - i3).toNat = nq9 → Tn (d + 5) m_X6_alike 4 T σ [(0, .ref a), (1, .ref rx1), (2, .int (iI i2)), (3, .int (iI i3))] [] post := by
  intro nq9
  induction nq9 using Nat.strongRecOn with
  | _ nq9 ih =>
    intro i2 i3 σ hw hF r_i2 r_i3 hC hA hwk h3 hm
    refine tn_iload_n dX6_alike_4 rfl 3 rfl ?_
    refine tn_aload_n dX6_alike_5 rfl 1 rfl ?_
    refine tn_getI (ci := 1) (i := 1) (n := 6) (t := σ0.2.1 6 rx1) dX6_alike_6 rfl lay_1 (by decide) fl6_22 h_rx1 rfl rfl (rc_F hF (Or.inl (by decide)) (by decide) (rfl)) ?_
    have g1 : ((0 : Int) ≤ σ0.2.1 6 rx1 ∧ σ0.2.1 6 rx1 ≤ 5000) ∧ ((T rx1).1 = 50 → σ0.2.1 6 rx1 ≤ 200) := wf_6 hw0 h_rx1
    have g1x := g1.2
    replace g1 := g1.1
    have g1x := g1x t_rx1
    refine tn_icmp_ge (tgt := 64) dX6_alike_9 (by decide) ⟨by omega, by omega⟩ ⟨by omega, by omega⟩ (fun h2 => ?_) (fun h2 => ?_)
    · exact tn_sub [0, 1, 2, 3] rfl (hx_64 (i2) (i3) σ hw (FrC.rfl.trans (FrC.sub hF (by decide))) (by omega) (by omega) hC hA hwk (by omega) (by omega))
    · refine tn_aload_n dX6_alike_12 rfl 1 rfl ?_
      refine tn_iload_n dX6_alike_13 rfl 3 rfl ?_
      refine tn_iconst dX6_alike_14 ?_
      obtain ⟨hl6, hk5a, hk5b⟩ := cel_of (wf_5 hw0 h_rx1) hx
      have hk5 : (T x).1 = 1 := hk5a (by omega)
      clear hk5a hk5b
      have hk5i : IA T x := by unfold IA; omega
      refine tn_callV (M := m_X6_alike) (pc := 15) (ix := 34) (ci := 1) (M' := m_X1_get) (As := [.int (iI i3), .int (iI 0)]) (rest := []) dX6_alike_15 ok_X1_get im_X1_get se_X1_get ml6_34 np_X1_get rfl rfl h_rx1 rfl (Nat.le_of_ble_eq_true rfl) (Nat.le_of_ble_eq_true rfl) rfl (k_X1_get_x (d + 3) (T := T) (σ := σ) (a := rx1) (k := i3) (c := 0) (x := x) (n := n) (W := cW σ x n) h_rx1 (by omega) (by decide) hw (rc_F hF (Or.inl (by decide)) (by decide) (hx)) (rc_F hF (Or.inl (by decide)) (by decide) (hn)) rfl (by omega) (by omega)) (fun r7 T9 σ8 gt10 hp => ?_)
      obtain ⟨v13, rfl, rfl, rfl, f11, f12⟩ := hp
      clear gt10
      show Tn _ _ 18 T σ [(0, .ref a), (1, .ref rx1), (2, .int (iI i2)), (3, .int (iI i3))] [.int (iI v13)] _
      refine tn_callSN (M := m_X6_alike) (pc := 18) (ix := 74) (M' := m_X11_isFive) (As := [.int (iI v13)]) (rest := []) dX6_alike_18 ok_X11_isFive stt_X11_isFive nl6_74 np_X11_isFive rfl (Nat.le_of_ble_eq_true rfl) (Nat.le_of_ble_eq_true rfl) rfl (k_X11_isFive_x (d + 3) (T := T) (σ := σ) (k := v13) (by omega) hw ) (fun r14 T16 σ15 gt17 hp => ?_)
      obtain ⟨v20, rfl, rfl, rfl, f18, f19⟩ := hp
      clear gt17
      show Tn _ _ 21 T σ [(0, .ref a), (1, .ref rx1), (2, .int (iI i2)), (3, .int (iI i3))] [.int (iI v20)] _
      refine tn_if_eq (tgt := 33) dX6_alike_21 (by decide) ⟨by omega, by omega⟩ (fun h21 => ?_) (fun h21 => ?_)
      · refine tn_iconst dX6_alike_33 ?_
        refine tn_istore (L' := [(4, .int (iI (-1))), (0, .ref a), (1, .ref rx1), (2, .int (iI i2)), (3, .int (iI i3))]) dX6_alike_34 (by decide) rfl ?_
        refine tn_iload dX6_alike_36 0 rfl ?_
        refine tn_iconst dX6_alike_38 ?_
        refine tn_icmp_eq (tgt := 58) dX6_alike_39 (by decide) ⟨by decide, by decide⟩ ⟨by decide, by decide⟩ (fun _ => ?_) (fun h => absurd h (by decide))
        refine tn_iinc (q0 := 4) (L' := [(3, .int (iI (i3 + 1))), (4, .int (iI (-1))), (0, .ref a), (1, .ref rx1), (2, .int (iI i2))]) dX6_alike_58 rfl (by decide) rfl ?_
        refine tn_goto (tgt := 4) dX6_alike_61 (by decide) ?_
        exact tn_sub [2, 3, 4, 0] rfl (ih _ (by omega) (i2) (i3 + 1) σ hw (FrC.rfl.trans (FrC.sub hF (by decide))) (by omega) (by omega) hC (als_no hA (by omega) rfl (fun q => absurd q (by omega))) hwk (by omega) rfl)
      · refine tn_aload_n dX6_alike_24 rfl 0 rfl ?_
        refine tn_aload_n dX6_alike_25 rfl 1 rfl ?_
        refine tn_iload_n dX6_alike_26 rfl 3 rfl ?_
        obtain ⟨hk25, hl26⟩ : AR T xw 3 3 3 := ar_of (wf_54 hw0 h_a) hxw
        refine tn_callV (M := m_X6_alike) (pc := 27) (ix := 135) (ci := 6) (M' := m_X6_latestTwin) (As := [.ref rx1, .int (iI i3)]) (rest := []) dX6_alike_27 ok_X6_latestTwin im_X6_latestTwin se_X6_latestTwin ml6_135 np_X6_latestTwin rfl rfl h_a rfl (Nat.le_of_ble_eq_true rfl) (Nat.le_of_ble_eq_true rfl) rfl (k_X6_latestTwin_x (d) (T := T) (σ := σ) (a := a) (p1 := rx1) (p2 := i3) (x := x) (n := n) (W := cW σ x n) (xw := xw) h_a h_rx1 t_rx1 (by omega) hw (rc_F hF (Or.inl (by decide)) (by decide) (hx)) (rc_F hF (Or.inl (by decide)) (by decide) (hn)) rfl (rc_F hF (Or.inl (by decide)) (by decide) (hxw)) (by omega) hwk (by omega) (by omega)) (fun r27 T29 σ28 gt30 hp => ?_)
        obtain ⟨v34, rfl, rfl, w35, F36, f31, f32, f33⟩ := hp
        clear gt30
        show Tn _ _ 30 T σ28 [(0, .ref a), (1, .ref rx1), (2, .int (iI i2)), (3, .int (iI i3))] [.int (iI v34)] _
        refine tn_goto (tgt := 34) dX6_alike_30 (by decide) ?_
        refine tn_istore (L' := [(4, .int (iI v34)), (0, .ref a), (1, .ref rx1), (2, .int (iI i2)), (3, .int (iI i3))]) dX6_alike_34 (by decide) rfl ?_
        refine tn_iload dX6_alike_36 0 rfl ?_
        refine tn_iconst dX6_alike_38 ?_
        refine tn_icmp_eq (tgt := 58) dX6_alike_39 (by decide) ⟨by omega, by omega⟩ ⟨by decide, by decide⟩ (fun h37 => ?_) (fun h37 => ?_)
        · refine tn_iinc (q0 := 4) (L' := [(3, .int (iI (i3 + 1))), (4, .int (iI v34)), (0, .ref a), (1, .ref rx1), (2, .int (iI i2))]) dX6_alike_58 rfl (by decide) rfl ?_
          refine tn_goto (tgt := 4) dX6_alike_61 (by decide) ?_
          have cv38 : cW σ28 x n = cW σ x n := (cW_row (CHX.r f32 (by first | (simp; done) | (simp only [List.mem_cons, List.not_mem_nil, or_false, not_or]; omega)))).trans (rfl)
          exact tn_sub [2, 3, 4, 0] rfl (ih _ (by omega) (i2) (i3 + 1) σ28 w35 ((FrC.rfl.trans (FrC.sub hF (by decide))).trans (FrC.sub F36 (by decide))) (by omega) (by omega) (hC.trans (CHX.sub f32 (by simp) (by simp) (by simp))) (als_no hA (by omega) cv38 (fun q => (f33.resolve_right (fun q => absurd q.1 (by omega))).2)) (by rw [cv38]; exact hwk) (by omega) rfl)
        · refine tn_aload_n dX6_alike_42 rfl 2 rfl ?_
          refine tn_iload_n dX6_alike_43 rfl 4 rfl ?_
          refine tn_iconst dX6_alike_44 ?_
          refine tn_aload_n dX6_alike_45 rfl 2 rfl ?_
          refine tn_iload dX6_alike_46 0 rfl ?_
          refine tn_iconst dX6_alike_48 ?_
          have cv39 : cW σ28 x n = cW σ x n := (cW_row (CHX.r f32 (by first | (simp; done) | (simp only [List.mem_cons, List.not_mem_nil, or_false, not_or]; omega)))).trans (rfl)
          refine tn_callV (M := m_X6_alike) (pc := 49) (ix := 34) (ci := 1) (M' := m_X1_get) (As := [.int (iI v34), .int (iI 1)]) (rest := [.int (iI 2), .int (iI i3), .ref rx1]) dX6_alike_49 ok_X1_get im_X1_get se_X1_get ml6_34 np_X1_get rfl rfl h_rx1 rfl (Nat.le_of_ble_eq_true rfl) (Nat.le_of_ble_eq_true rfl) rfl (k_X1_get_x (d + 3) (T := T) (σ := σ28) (a := rx1) (k := v34) (c := 1) (x := x) (n := n) (W := cW σ x n) h_rx1 (by omega) (by decide) w35 (rc_F F36 (Or.inl (by decide)) (by decide) (rc_F hF (Or.inl (by decide)) (by decide) (hx))) (rc_F F36 (Or.inl (by decide)) (by decide) (rc_F hF (Or.inl (by decide)) (by decide) (hn))) cv39 (by omega) (by omega)) (fun r40 T42 σ41 gt43 hp => ?_)
          obtain ⟨v46, rfl, rfl, rfl, f44, f45⟩ := hp
          clear gt43
          show Tn _ _ 52 T σ28 [(4, .int (iI v34)), (0, .ref a), (1, .ref rx1), (2, .int (iI i2)), (3, .int (iI i3))] [.int (iI v46), .int (iI 2), .int (iI i3), .ref rx1] _
          refine tn_callV (M := m_X6_alike) (pc := 52) (ix := 81) (ci := 1) (M' := m_X1_becomeCopy) (As := [.int (iI i3), .int (iI 2), .int (iI v46)]) (rest := []) dX6_alike_52 ok_X1_becomeCopy im_X1_becomeCopy se_X1_becomeCopy ml6_81 np_X1_becomeCopy rfl rfl h_rx1 rfl (Nat.le_of_ble_eq_true rfl) (Nat.le_of_ble_eq_true rfl) rfl (k_X1_becomeCopy_x (d + 2) (T := T) (σ := σ28) (a := rx1) (k := i3) (y := 2) (z := v46) (x := x) (n := n) (W := cW σ x n) h_rx1 t_rx1 (by omega) (by decide) (by omega) w35 (rc_F F36 (Or.inl (by decide)) (by decide) (rc_F hF (Or.inl (by decide)) (by decide) (hx))) (rc_F F36 (Or.inl (by decide)) (by decide) (rc_F hF (Or.inl (by decide)) (by decide) (hn))) cv39 (by omega) (by omega)) (fun r47 T49 σ48 gt50 hp => ?_)
          obtain ⟨rfl, rfl, w54, F55, f51, f52⟩ := hp
          clear gt50
          show Tn _ _ 55 T σ48 [(4, .int (iI v34)), (0, .ref a), (1, .ref rx1), (2, .int (iI i2)), (3, .int (iI i3))] [] _
          refine tn_iinc (q0 := 3) (L' := [(2, .int (iI (i2 + 1))), (4, .int (iI v34)), (0, .ref a), (1, .ref rx1), (3, .int (iI i3))]) dX6_alike_55 rfl (by decide) rfl ?_
          refine tn_iinc (q0 := 4) (L' := [(3, .int (iI (i3 + 1))), (2, .int (iI (i2 + 1))), (4, .int (iI v34)), (0, .ref a), (1, .ref rx1)]) dX6_alike_58 rfl (by decide) rfl ?_
          refine tn_goto (tgt := 4) dX6_alike_61 (by decide) ?_
          exact tn_sub [3, 4, 1, 0] rfl (ih _ (by omega) (i2 + 1) (i3 + 1) σ48 w54 (((FrC.rfl.trans (FrC.sub hF (by decide))).trans (FrC.sub F36 (by decide))).trans (FrC.sub F55 (by decide))) (by omega) (by omega) ((hC.trans (CHX.sub f32 (by simp) (by simp) (by simp))).trans (CHX.sub f51 (by simp) (by simp) (by simp))) (als_yes hA (by omega) (by omega) (f33.resolve_left (fun q => absurd q.1 (by omega))) f45 f52) (by rw [f52]; exact hwk.put (iOK_cpy (hwk _ (by omega) (by omega)) (by omega) (by have z := (f33.resolve_left (fun q => absurd q.1 (by omega))); have z2 := z.2.2.2.1.1.1; rw [vW_0, vW_0] at z2; have z3 := (hwk _ z.1 (by have := z.2.1; omega)).2.1 (by omega); omega))) (by omega) rfl)
set_option maxHeartbeats 1000000 in
set_option maxRecDepth 20000 in
theorem k_X6_alike_x (d : Nat) {T : CT} {σ : MS} {a : Nat} {p1 : Nat} {x : Nat} {n : Int} {W : Int → It} {xw : Nat} (ha : OB T a 6) (h_p1 : OB T p1 1) (t_p1 : (T p1).1 = 50) (hw : WT T σ) (hx : σ.2.1 5 p1 = (x : Int)) (hn : σ.2.1 6 p1 = n) (hW : cW σ x n = W) (hxw : σ.2.1 54 a = (xw : Int)) (hN : n ≤ 200) (hwok : WOK W n) : Tn (d + 5) m_X6_alike 0 T σ [(0, .ref a), (1, .ref p1)] [] (fun ro T2 σ2 => ∃ v : Int, ro = some (.int (iI v)) ∧ T = T2 ∧ WT T2 σ2 ∧ FrC T [] σ σ2 ∧ (-2147483648 ≤ v ∧ v ≤ 2147483647) ∧ (CHX [] [x] [xw] σ σ2) ∧ (ALS n.toNat (vW W) (vW (cW σ2 x n)) v) ∧ (WOK (cW σ2 x n) n)) := by
  have h6 := wf_6 hw h_p1
  refine tn_iconst dX6_alike_0 ?_
  refine tn_istore_n (L' := [(2, .int (iI 0)), (0, .ref a), (1, .ref p1)]) dX6_alike_1 rfl (by decide) rfl ?_
  refine tn_iconst dX6_alike_2 ?_
  refine tn_istore_n (L' := [(3, .int (iI 0)), (2, .int (iI 0)), (0, .ref a), (1, .ref p1)]) dX6_alike_3 rfl (by decide) rfl ?_
  refine tn_sub [2, 3, 1, 0] rfl (l_X6_alike_x_4 (d) (T := T) (σ0 := σ) (a := a) (rx1 := p1) (x := x) (n := n) (W := W) (xw := xw) ha h_p1 t_p1 hw (hx) (hn) (hxw) hN (fun i21 i32 σ3 w6 F7 r8 r9 f10 f11 f12 f13 f14 => ?_) _ (0) (0) σ hw FrC.rfl (by omega) (by omega) CHX.rfl (by rw [hW]; exact ⟨rfl, rfl⟩) (by rw [hW]; exact hwok) (by omega) rfl)
  show Tn _ _ 64 T σ3 [(0, .ref a), (1, .ref p1), (2, .int (iI i21)), (3, .int (iI i32))] [] _
  refine tn_iload_n dX6_alike_64 rfl 2 rfl ?_
  exact tn_iret rfl dX6_alike_65 ⟨_, rfl, rfl, w6, (FrC.rfl.trans (FrC.sub F7 (by decide))), by omega, (CHX.rfl.trans (CHX.sub f10 (by simp) (by simp) (by simp))), (als_end f11 (by omega)), f12⟩
end
section
def kn2 (Rk Rv : Int → Int) : KN := fun g => if 0 ≤ g ∧ g < 192 ∧ Rk g ≠ 0 then (Rk g, Rv g) else (0, 0)
section KN2
variable {Rk Rv : Int → Int} {r v w N : Int}
theorem kn2_1 (h : ATQ Rk N r v) (hN : N = 192) : (kn2 Rk Rv r).1 = v := by
  unfold ATQ at h
  rw [hN] at h
  unfold kn2
  rcases h with ⟨a, b⟩ | ⟨a, b⟩
  · by_cases z : Rk r ≠ 0
    · rw [if_pos ⟨a.1, a.2, z⟩]; exact b.symm
    · rw [if_neg (fun q => z q.2.2)]
      show (0 : Int) = v
      omega
  · rw [if_neg (fun q => a ⟨q.1, q.2.1⟩)]; exact b.symm
theorem kn2_2 {N2 : Int} (h : ATQ Rk N r v) (hv : v ≠ 0) (g : ATQ Rv N2 r w) (hN : N = 192) (hN2 : N2 = 192) : (kn2 Rk Rv r).2 = w := by
  unfold ATQ at h g
  rw [hN] at h
  rw [hN2] at g
  unfold kn2
  rcases h with ⟨a, b⟩ | ⟨a, b⟩
  · rcases g with ⟨c, d⟩ | ⟨c, d⟩
    · rw [if_pos ⟨a.1, a.2, by omega⟩]; exact d.symm
    · exact absurd a c
  · exact absurd b hv
theorem kn2_z (h : ∀ j, 0 ≤ j → j < 192 → Rk j = 0) : kn2 Rk Rv = fun _ => (0, 0) := by
  funext g
  unfold kn2
  rw [if_neg (fun q => q.2.2 (h g q.1 q.2.1))]
end KN2
def KNO (K : KN) : Prop := ∀ g, ((K g).1 = 0 ∨ (K g).1 = 1 ∨ (K g).1 = 2) ∧ ((K g).1 = 2 → 0 ≤ (K g).2 ∧ (K g).2 < 192)
theorem KNO.z : KNO (fun _ => (0, 0)) := fun g => ⟨Or.inl rfl, fun q => absurd q (show ¬ (0 : Int) = 2 by decide)⟩
theorem nrm_u {i : It} {c y : Int} (hc : c ≠ 12) (h0 : i 0 ≠ 12) (h1 : uZ i c y 0 ≠ 12) : nrm (uZ i c y) = uZ (nrm i) c y := by
  funext q
  by_cases q12 : q = 12
  · subst q12
    rw [nrm_12, uZ_ne (fun e => hc e.symm), nrm_12]
  by_cases q3 : q = 3
  · subst q3
    rw [nrm_3 h1]
    unfold uZ
    by_cases e : (3 : Int) = c
    · rw [if_pos e, if_pos e]
    · rw [if_neg e, if_neg e, nrm_3 h0]
  rw [nrm_ne q3 q12]
  unfold uZ
  by_cases e : q = c
  · rw [if_pos e, if_pos e]
  · rw [if_neg e, if_neg e, nrm_ne q3 q12]
theorem uZ_0 {i : It} {c y : Int} (h : c ≠ 0) : uZ i c y 0 = i 0 := uZ_ne (fun e => h e.symm)
def fbI (K : KN) (i : It) : It := if i 11 = 2 ∧ (K (i 4)).1 = 1 then swI i 1 (K (i 4)).2 else i
theorem swI_0 {i : It} {w z : Int} : swI i w z 0 = i 0 := rfl
theorem swI_11 {i : It} {w z : Int} : swI i w z 11 = w := rfl
theorem nrm_sw {i : It} {w z : Int} (h0 : i 0 = 12) (hw : w = 1 ∨ w = 2) (h5 : i 5 = 0) (h6 : i 6 = 0) : nrm (swI i w z) = uZ (uZ (uZ (nrm i) 11 w) 3 w) 4 z := by
  funext c
  by_cases c12 : c = 12
  · subst c12
    rw [nrm_12]
    show 0 = nrm i 12
    rw [nrm_12]
  by_cases c3 : c = 3
  · subst c3
    rw [nrm_b (by rw [swI_0]; exact h0) (by rw [swI_11]; exact hw), swI_11]
    rfl
  rw [nrm_ne c3 c12]
  unfold swI uZ
  by_cases e6 : c = 6
  · rw [if_pos e6, if_neg (by omega), if_neg (by omega), if_neg (by omega), nrm_ne c3 c12, e6, h6]
  rw [if_neg e6]
  by_cases e5 : c = 5
  · rw [if_pos e5, if_neg (by omega), if_neg (by omega), if_neg (by omega), nrm_ne c3 c12, e5, h5]
  rw [if_neg e5]
  by_cases e4 : c = 4
  · rw [if_pos e4, if_pos e4]
  rw [if_neg e4, if_neg e4, if_neg c3, if_neg c3]
  by_cases e11 : c = 11
  · rw [if_pos e11, if_pos e11]
  rw [if_neg e11, if_neg e11, nrm_ne c3 c12]
theorem nrm_fb {K : KN} {i : It} (h : iOK i) (h0 : i 0 = 12) : nrm (fbI K i) = foB K (nrm i) := by
  unfold fbI foB
  rw [nrm_ne (c := 11) (by decide) (by decide), nrm_ne (c := 4) (by decide) (by decide)]
  by_cases q : i 11 = 2 ∧ (K (i 4)).1 = 1
  · rw [if_pos q, dI_y q]
    have z := h.2.2.2.2 h0 (Or.inr q.1)
    rw [nrm_sw h0 (Or.inl rfl) z.2.1 z.2.2.1]
  · rw [if_neg q, dI_n q]
theorem iOK_sw {i : It} {w z : Int} (h : iOK i) (h0 : i 0 = 12) (hw : w = 2 → 0 ≤ z ∧ z < 192) : iOK (swI i w z) := by
  have z7 := h.2.2.2.1 (by omega)
  refine ⟨h.1, fun q => ?_, iOK.ops ⟨(by decide : (0 : Int) ≤ 0 ∧ (0 : Int) ≤ 2), fun c => absurd c (show ¬ (0 : Int) = 2 by decide)⟩ ⟨(by decide : (0 : Int) ≤ 0 ∧ (0 : Int) ≤ 2), fun c => absurd c (show ¬ (0 : Int) = 2 by decide)⟩ (h.2.2.1 2 (by decide) (by decide)) (h.2.2.1 3 (by decide) (by decide)), fun _ => z7, fun _ _ => ⟨rfl, rfl, rfl, hw⟩⟩
  rw [swI_0] at q
  omega
theorem iOK_fb {K : KN} {i : It} (h : iOK i) (h0 : i 0 = 12) : iOK (fbI K i) := by
  unfold fbI
  by_cases q : i 11 = 2 ∧ (K (i 4)).1 = 1
  · rw [if_pos q]; exact iOK_sw h h0 (fun c => absurd c (by decide))
  · rw [if_neg q]; exact h
theorem foO_0c {K : KN} {i : It} {m : Int} : foO K i m 0 = i 0 := if_neg (by omega)
theorem foO_1c {K : KN} {i : It} {m : Int} : foO K i m 1 = i 1 := if_neg (by omega)
theorem nrm_foO {K : KN} {i : It} (h : i 0 ≠ 12) : nrm (foO K i 4) = foO K (nrm i) 4 := by
  have e3 : nrm i 3 = i 3 := nrm_3 h
  have ec : ∀ c, 3 ≤ c → c < 11 → nrm i c = i c := fun c a b => by
    by_cases z : c = 3
    · subst z; exact e3
    · exact nrm_ne z (by omega)
  funext c
  by_cases c12 : c = 12
  · subst c12
    rw [nrm_12]
    unfold foO
    rw [if_neg (by omega), nrm_12]
  have l : nrm (foO K i 4) c = foO K i 4 c := by
    by_cases c3 : c = 3
    · subst c3; exact nrm_3 (by rw [foO_0c]; exact h)
    · exact nrm_ne c3 c12
  rw [l]
  unfold foO
  by_cases q : 3 ≤ c ∧ c < 3 + 2 * 4
  · rw [ec (3 + 2 * ((c - 3) / 2)) (by omega) (by omega), ec (4 + 2 * ((c - 3) / 2)) (by omega) (by omega), ec c (by omega) (by omega)]
  · rw [if_neg (fun z => q ⟨z.1, z.2.1⟩), if_neg (fun z => q ⟨z.1, z.2.1⟩)]
    by_cases c3 : c = 3
    · omega
    · exact (nrm_ne c3 c12).symm
theorem foC_n {K : KN} {i : It} (h : i 0 ≠ 12) : foC K (nrm i) 4 ↔ foC K i 4 := by
  have ec : ∀ c, 3 ≤ c → c < 11 → nrm i c = i c := fun c a b => by
    by_cases z : c = 3
    · subst z; exact nrm_3 h
    · exact nrm_ne z (by omega)
  unfold foC
  constructor
  · rintro ⟨j, a, b, c, d⟩
    rw [ec _ (by omega) (by omega)] at c
    rw [ec _ (by omega) (by omega)] at d
    exact ⟨j, a, b, c, d⟩
  · rintro ⟨j, a, b, c, d⟩
    exact ⟨j, a, b, by rw [ec _ (by omega) (by omega)]; exact c, by rw [ec _ (by omega) (by omega)]; exact d⟩
def FOP (K : KN) (W Wc : Int → It) (k c u : Int) : Prop := ∃ m, c = 3 + 2 * m ∧ 0 ≤ m ∧ m ≤ 4 ∧ Wc = uZ W k (foO K (W k) m) ∧ (u = 1 ↔ foC K (W k) m)
theorem FOP.nil {K : KN} {W : Int → It} {k : Int} : FOP K W W k 3 0 := ⟨0, by decide, by decide, by decide, by rw [foO_0]; funext q; by_cases e : q = k; rw [e, uZ_eq]; rw [uZ_ne e], fun q => absurd q (by decide), fun q => absurd q foC_0⟩
theorem FOP.rd {K : KN} {W Wc : Int → It} {k c u : Int} (h : FOP K W Wc k c u) : Wc k c = W k c ∧ Wc k (c + 1) = W k (c + 1) := by
  obtain ⟨m, a, b, d, e, f⟩ := h
  rw [e, uZ_eq, a, foO_k b, show 3 + 2 * m + 1 = 4 + 2 * m by omega, foO_n b]
  exact ⟨rfl, rfl⟩
theorem FOP.no {K : KN} {W Wc W2 : Int → It} {k c u r : Int} (h : FOP K W Wc k c u) (hc : c < 11) (hr : r = Wc k (c + 1)) (q : ¬ (Wc k c = 2 ∧ (K r).1 ≠ 0)) (e2 : W2 = Wc) : FOP K W W2 k (c + 2) u := by
  have z := h.rd
  obtain ⟨m, a, b, d, e, f⟩ := h
  rw [hr, z.1, z.2] at q
  rw [a, show 3 + 2 * m + 1 = 4 + 2 * m by omega] at q
  refine ⟨m + 1, by omega, by omega, by omega, by rw [e2, e, foO_no b q], f.trans ?_⟩
  rw [foC_s]
  exact ⟨Or.inl, fun w => w.elim id (fun y => absurd ⟨y.2.1, y.2.2⟩ q)⟩
theorem FOP.yes {K : KN} {W Wc W1 W2 : Int → It} {k c u r y z : Int} (h : FOP K W Wc k c u) (hc : c < 11) (hr : r = Wc k (c + 1)) (q : Wc k c = 2) (qy : (K r).1 = y) (qn : y ≠ 0) (qz : (K r).2 = z) (e1 : W1 = uZ Wc k (uZ (Wc k) c y)) (e2 : W2 = uZ W1 k (uZ (W1 k) (c + 1) z)) : FOP K W W2 k (c + 2) 1 := by
  have zz := h.rd
  obtain ⟨m, a, b, d, e, f⟩ := h
  rw [zz.2] at hr
  rw [zz.1] at q
  rw [a, show 3 + 2 * m + 1 = 4 + 2 * m by omega] at hr
  rw [a] at q
  have hk : (K (W k (4 + 2 * m))).1 ≠ 0 := by rw [← hr, qy]; exact qn
  refine ⟨m + 1, by omega, by omega, by omega, ?_, fun _ => foC_s.mpr (Or.inr ⟨b, q, hk⟩), fun _ => rfl⟩
  rw [e2, e1, uZ_eq, uZ_uZ, e, uZ_eq, uZ_uZ, foO_y b q hk, ← hr, qy, qz, a, show 3 + 2 * m + 1 = 4 + 2 * m by omega]
theorem FOP.fin {K : KN} {W Wc : Int → It} {k c u : Int} (h : FOP K W Wc k c u) (hc : 11 ≤ c) : Wc = uZ W k (foO K (W k) 4) ∧ (u = 1 ↔ foC K (W k) 4) := by
  obtain ⟨m, a, b, d, e, f⟩ := h
  have : m = 4 := by omega
  subst this
  exact ⟨e, f⟩
def faI (i : It) : It := if 1 ≤ i 0 ∧ i 0 ≤ 5 ∧ i 3 = 1 ∧ i 5 = 1 then cpyI i 1 (wkd (i 0) (i 4) (i 6)) else if i 0 = 9 ∧ i 3 = 1 ∧ i 4 = 0 then uZ (uZ i 0 8) 3 0 else i
def FAQ (i : It) (v : Int) : Prop := (v = 1 ∧ ((1 ≤ i 0 ∧ i 0 ≤ 5 ∧ i 3 = 1 ∧ i 5 = 1) ∨ (i 0 = 9 ∧ i 3 = 1))) ∨ (v = 0 ∧ ¬ ((1 ≤ i 0 ∧ i 0 ≤ 5 ∧ i 3 = 1 ∧ i 5 = 1) ∨ (i 0 = 9 ∧ i 3 = 1)))
theorem fa_five {W W2 : Int → It} {k v a b c : Int} (h : 1 ≤ W k 0 ∧ W k 0 ≤ 5 ∧ W k 3 = 1 ∧ W k 5 = 1) (ha : a = W k 0) (hb : b = W k 4) (hc : c = W k 6) (hv : v = wkd a b c) (e : W2 = uZ W k (cpyI (W k) 1 v)) : W2 = uZ W k (faI (W k)) := by
  unfold faI; rw [if_pos h, e, hv, ha, hb, hc]
theorem fa_zero {W W1 W2 : Int → It} {k : Int} (h : W k 0 = 9 ∧ W k 3 = 1 ∧ W k 4 = 0) (e1 : W1 = uZ W k (uZ (W k) 0 8)) (e2 : W2 = uZ W1 k (uZ (W1 k) 3 0)) : W2 = uZ W k (faI (W k)) := by
  unfold faI
  rw [if_neg (by omega), if_pos h, e2, e1, uZ_eq, uZ_uZ]
theorem fa_no {W : Int → It} {k : Int} (h : ¬ (1 ≤ W k 0 ∧ W k 0 ≤ 5 ∧ W k 3 = 1 ∧ W k 5 = 1)) (h2 : ¬ (W k 0 = 9 ∧ W k 3 = 1 ∧ W k 4 = 0)) : W = uZ W k (faI (W k)) := by
  unfold faI
  rw [if_neg h, if_neg h2]
  funext q
  by_cases e : q = k
  · rw [e, uZ_eq]
  · rw [uZ_ne e]
end
section
section FAX
variable {K : KN} {i : It}
theorem nrm_cpyk {k v : Int} (h : i 0 ≠ 12) : nrm (cpyI i k v) = cpyI (nrm i) k v := by
  unfold cpyI
  have z : ∀ (j : It), j 0 = 0 → j 0 ≠ 12 := fun j q => by omega
  rw [nrm_u (by decide) (by rw [uZ_0 (by decide), uZ_0 (by decide), uZ_0 (by decide), uZ_eq]; decide) (by rw [uZ_0 (by decide), uZ_0 (by decide), uZ_0 (by decide), uZ_0 (by decide), uZ_eq]; decide),
    nrm_u (by decide) (by rw [uZ_0 (by decide), uZ_0 (by decide), uZ_eq]; decide) (by rw [uZ_0 (by decide), uZ_0 (by decide), uZ_0 (by decide), uZ_eq]; decide),
    nrm_u (by decide) (by rw [uZ_0 (by decide), uZ_eq]; decide) (by rw [uZ_0 (by decide), uZ_0 (by decide), uZ_eq]; decide),
    nrm_u (by decide) (by rw [uZ_eq]; decide) (by rw [uZ_0 (by decide), uZ_eq]; decide),
    nrm_u (by decide) h (by rw [uZ_eq]; decide)]
theorem cells_n (h : i 0 ≠ 12) : nrm i 0 = i 0 ∧ nrm i 3 = i 3 ∧ nrm i 4 = i 4 ∧ nrm i 5 = i 5 ∧ nrm i 6 = i 6 := ⟨nrm_ne (by decide) (by decide), nrm_3 h, nrm_ne (by decide) (by decide), nrm_ne (by decide) (by decide), nrm_ne (by decide) (by decide)⟩
theorem fa_keep (h : i 0 ≠ 12) (hz : ¬ (i 0 = 9 ∧ i 3 = 1 ∧ i 4 ≠ 0)) : nrm (faI i) = foZ (foA (nrm i)) := by
  obtain ⟨e0, e3, e4, e5, e6⟩ := cells_n h
  unfold faI foA five2
  rw [e0, e3, e4, e5, e6]
  by_cases q : 1 ≤ i 0 ∧ i 0 ≤ 5 ∧ i 3 = 1 ∧ i 5 = 1
  · rw [if_pos q, dI_y q]
    unfold foZ
    rw [dI_n (fun z => absurd (show (0 : Int) = 9 from z.1) (by decide)), nrm_cpyk h]
  · rw [if_neg q, dI_n q]
    unfold foZ zer1
    rw [e0, e3]
    by_cases w : i 0 = 9 ∧ i 3 = 1
    · rw [if_pos ⟨w.1, w.2, by omega⟩, dI_y w, nrm_u (by decide) (by rw [uZ_eq]; decide) (by rw [uZ_0 (by decide), uZ_eq]; decide), nrm_u (by decide) h (by rw [uZ_eq]; decide)]
      funext c
      by_cases c4 : c = 4
      · subst c4
        rw [uZ_eq, uZ_ne (by decide), uZ_ne (by decide), e4]
        omega
      · rw [uZ_ne c4]
    · rw [if_neg (fun z => w ⟨z.1, z.2.1⟩), dI_n w]
theorem fa_out (hz : i 0 = 9 ∧ i 3 = 1 ∧ i 4 ≠ 0) : faI i = i ∧ foA (nrm i) = nrm i := by
  have h : i 0 ≠ 12 := by omega
  obtain ⟨e0, e3, e4, e5, e6⟩ := cells_n h
  unfold faI foA five2
  rw [if_neg (by omega), if_neg (by omega), e0, dI_n (by omega)]
  exact ⟨rfl, rfl⟩
theorem fa_zer (h : i 0 ≠ 12) : zer1 (foA (nrm i)) ∧ foA (nrm i) 4 ≠ 0 ↔ i 0 = 9 ∧ i 3 = 1 ∧ i 4 ≠ 0 := by
  obtain ⟨e0, e3, e4, e5, e6⟩ := cells_n h
  unfold foA five2 zer1
  by_cases q : 1 ≤ nrm i 0 ∧ nrm i 0 ≤ 5 ∧ nrm i 3 = 1 ∧ nrm i 5 = 1
  · rw [dI_y q]
    rw [e0, e3, e5] at q
    constructor
    · intro z; exact absurd (show (0 : Int) = 9 from z.1.1) (by decide)
    · intro z; omega
  · rw [dI_n q, e0, e3, e4]
    exact ⟨fun z => ⟨z.1.1, z.1.2, z.2⟩, fun z => ⟨⟨z.1, z.2.1⟩, z.2.2⟩⟩
theorem fa_told (h : i 0 ≠ 12) : five2 (nrm i) ∨ zer1 (foA (nrm i)) ↔ (1 ≤ i 0 ∧ i 0 ≤ 5 ∧ i 3 = 1 ∧ i 5 = 1) ∨ (i 0 = 9 ∧ i 3 = 1) := by
  obtain ⟨e0, e3, e4, e5, e6⟩ := cells_n h
  unfold foA
  by_cases q : five2 (nrm i)
  · have q2 := q
    unfold five2 at q2
    rw [e0, e3, e5] at q2
    exact ⟨fun _ => Or.inl q2, fun _ => Or.inl q⟩
  · rw [dI_n q]
    have q2 := q
    unfold five2 at q2
    rw [e0, e3, e5] at q2
    unfold zer1
    rw [e0, e3]
    exact ⟨fun z => z.elim (fun y => absurd y q) Or.inr, fun z => z.elim (fun y => absurd y q2) Or.inr⟩
theorem lrn_n (h : i 0 ≠ 12) : lrn (nrm i) K = lrn i K := by
  obtain ⟨e0, e3, e4, e5, e6⟩ := cells_n h
  unfold lrn lrnF
  rw [e0, e3, e4, nrm_ne (c := 1) (by decide) (by decide)]
theorem foO_iOK (h : iOK i) (hK : KNO K) (hi : i 0 ≠ 12) : iOK (foO K i 4) := by
  have o : ∀ j, 0 ≤ j → j < 4 → (0 ≤ foO K i 4 (3 + 2 * j) ∧ foO K i 4 (3 + 2 * j) ≤ 2) ∧ (foO K i 4 (3 + 2 * j) = 2 → 0 ≤ foO K i 4 (4 + 2 * j) ∧ foO K i 4 (4 + 2 * j) < 192) := fun j a b => by
    have q := h.2.2.1 j a b
    have e1 : (3 + 2 * j - 3) / 2 = j := by omega
    have e2 : (4 + 2 * j - 3) / 2 = j := by omega
    have e3 : (3 + 2 * j - 3) % 2 = 0 := by omega
    have e4 : ¬ (4 + 2 * j - 3) % 2 = 0 := by omega
    by_cases z : i (3 + 2 * j) = 2 ∧ (K (i (4 + 2 * j))).1 ≠ 0
    · have y := hK (i (4 + 2 * j))
      have v3 : foO K i 4 (3 + 2 * j) = (K (i (4 + 2 * j))).1 := by
        unfold foO
        rw [e1, if_pos ⟨by omega, by omega, z.1, z.2⟩, if_pos e3]
      have v4 : foO K i 4 (4 + 2 * j) = (K (i (4 + 2 * j))).2 := by
        unfold foO
        rw [e2, if_pos ⟨by omega, by omega, z.1, z.2⟩, if_neg e4]
      rw [v3, v4]
      exact ⟨by omega, y.2⟩
    · have v3 : foO K i 4 (3 + 2 * j) = i (3 + 2 * j) := by
        unfold foO
        rw [e1, if_neg (fun w => z ⟨w.2.2.1, w.2.2.2⟩)]
      have v4 : foO K i 4 (4 + 2 * j) = i (4 + 2 * j) := by
        unfold foO
        rw [e2, if_neg (fun w => z ⟨w.2.2.1, w.2.2.2⟩)]
      rw [v3, v4]
      exact q
  refine ⟨by rw [foO_0c]; exact h.1, fun q => by rw [foO_0c] at q; rw [foO_1c]; exact h.2.1 q, o, fun q => ?_, fun q => absurd (by rw [foO_0c] at q; exact q) hi⟩
  rw [foO_0c] at q
  have z := h.2.2.2.1 q
  have n7 : foO K i 4 7 = i 7 := if_neg (fun w => z.1 w.2.2.1)
  have n9 : foO K i 4 9 = i 9 := if_neg (fun w => z.2 w.2.2.1)
  rw [n7, n9]; exact z
theorem faI_iOK (h : iOK i) (hi : i 0 ≠ 12) : iOK (faI i) := by
  unfold faI
  by_cases q : 1 ≤ i 0 ∧ i 0 ≤ 5 ∧ i 3 = 1 ∧ i 5 = 1
  · rw [if_pos q]
    have z7 := h.2.2.2.1 (by omega)
    exact ⟨(by decide : (0 : Int) ≤ 0 ∧ (0 : Int) ≤ 15), fun _ => h.2.1 (by omega), iOK.ops ⟨(by decide : (0 : Int) ≤ 1 ∧ (1 : Int) ≤ 2), fun c => absurd c (show ¬ (1 : Int) = 2 by decide)⟩ ⟨(by decide : (0 : Int) ≤ 0 ∧ (0 : Int) ≤ 2), fun c => absurd c (show ¬ (0 : Int) = 2 by decide)⟩ (h.2.2.1 2 (by decide) (by decide)) (h.2.2.1 3 (by decide) (by decide)), fun _ => z7, fun c => absurd c (show ¬ (0 : Int) = 12 by decide)⟩
  · rw [if_neg q]
    by_cases w : i 0 = 9 ∧ i 3 = 1 ∧ i 4 = 0
    · rw [if_pos w]
      have z7 := h.2.2.2.1 (by omega)
      exact ⟨(by decide : (0 : Int) ≤ 8 ∧ (8 : Int) ≤ 15), fun c => absurd c (show ¬ ((8 : Int) ≤ 5 ∨ (8 : Int) = 10) by decide), iOK.ops ⟨(by decide : (0 : Int) ≤ 0 ∧ (0 : Int) ≤ 2), fun c => absurd c (show ¬ (0 : Int) = 2 by decide)⟩ (h.2.2.1 1 (by decide) (by decide)) (h.2.2.1 2 (by decide) (by decide)) (h.2.2.1 3 (by decide) (by decide)), fun _ => z7, fun c => absurd c (show ¬ (8 : Int) = 12 by decide)⟩
    · rw [if_neg w]; exact h
theorem faI_12 (h : i 0 ≠ 12) : faI i 0 ≠ 12 := by
  unfold faI
  split
  · exact (show ¬ (0 : Int) = 12 by decide)
  · split
    · exact (show ¬ (8 : Int) = 12 by decide)
    · exact h
theorem KNO.lr (hK : KNO K) (h : iOK i) : KNO (lrn i K) := by
  unfold lrn
  by_cases q : i 0 ≤ 5 ∨ i 0 = 10
  · rw [dI_y q]
    intro g
    unfold lrnF
    by_cases e : g = i 1
    · rw [if_pos e]
      by_cases w : i 0 = 0 ∧ ¬ (i 3 = 2 ∧ i 4 = i 1) ∧ i 3 ≠ 0
      · rw [if_pos w]
        have a := h.kd (c := 3) (by omega)
        have b := h.op (c := 3) (by omega)
        exact ⟨by show i 3 = 0 ∨ i 3 = 1 ∨ i 3 = 2; omega, b⟩
      · rw [if_neg w]; exact KNO.z g
    · rw [if_neg e]
      by_cases w : K g = (2, i 1)
      · rw [if_pos w]; exact KNO.z g
      · rw [if_neg w]; exact hK g
  · rw [dI_n q]; exact hK
end FAX
def FI (V0 : Int → It) (N i k w : Int) (K : KN) (W : Int → It) (m : Int) : Prop := foS V0 i.toNat = (K, k, w, fun j => if 0 ≤ j ∧ j < k then vW W j else zI) ∧ m = k + (N - i) ∧ (0 ≤ k ∧ k ≤ i ∧ i ≤ N) ∧ (0 ≤ w ∧ w ≤ i) ∧ ∀ j, 0 ≤ j → j < N - i → vW W (k + j) = V0 (i + j)
section FIS
variable {V0 : Int → It} {N i k w w2 m : Int} {K K2 : KN} {W W2 W3 : Int → It} {t : It}
theorem FI.nil (h : V0 = vW W) (hN : 0 ≤ N) : FI V0 N 0 0 0 (fun _ => (0, 0)) W N := by
  refine ⟨?_, by omega, by omega, by omega, fun j a b => by rw [h, Int.zero_add]⟩
  show ((fun _ => (0, 0)), (0 : Int), (0 : Int), fun _ => zI) = _
  congr 3
  funext j
  rw [if_neg (by omega)]
theorem FI.at (h : FI V0 N i k w K W m) (hi : i < N) : V0 i = nrm (W k) := by
  have q := h.2.2.2.2 0 (by omega) (by omega)
  rw [Int.add_zero, Int.add_zero] at q
  exact q.symm
theorem FI.keep (h : FI V0 N i k w K W m) (hi : i < N) (hT : foT (K, k, w, fun j => if 0 ≤ j ∧ j < k then vW W j else zI) (nrm (W k)) = (K2, k + 1, w2, uZ (fun j => if 0 ≤ j ∧ j < k then vW W j else zI) k (nrm t))) (hw : w2 = w ∨ w2 = w + 1) (e : W2 = uZ W k t) : FI V0 N (i + 1) (k + 1) w2 K2 W2 m := by
  have a := h.at hi
  obtain ⟨h1, h2, h3, h4, h5⟩ := h
  refine ⟨?_, by omega, by omega, by omega, fun j x y => ?_⟩
  · rw [foS_s (by omega), h1, a, hT]
    congr 3
    funext j
    by_cases q : j = k
    · rw [q, uZ_eq, if_pos (by omega), e, vW_put, uZ_eq]
    · rw [uZ_ne q, e, vW_put, uZ_ne q]
      by_cases z : 0 ≤ j ∧ j < k
      · rw [if_pos z, if_pos (by omega)]
      · rw [if_neg z, if_neg (by omega)]
  · rw [e, vW_put, uZ_ne (by omega), show k + 1 + j = k + (1 + j) by omega, show i + 1 + j = i + (1 + j) by omega]
    exact h5 (1 + j) (by omega) (by omega)
theorem FI.out (h : FI V0 N i k w K W m) (hi : i < N) (hT : foT (K, k, w, fun j => if 0 ≤ j ∧ j < k then vW W j else zI) (nrm (W k)) = (K2, k, w2, fun j => if 0 ≤ j ∧ j < k then vW W j else zI)) (hw : w2 = w ∨ w2 = w + 1) (e : W2 = uZ W k t) (e2 : W3 = toV W2 k) : FI V0 N (i + 1) k w2 K2 W3 (m - 1) := by
  have a := h.at hi
  obtain ⟨h1, h2, h3, h4, h5⟩ := h
  have v3 : ∀ j, vW W3 j = if j < k then vW W2 j else vW W2 (j + 1) := fun j => by
    show nrm (W3 j) = _
    rw [e2]
    unfold toV
    by_cases z : j < k
    · rw [if_pos z, if_pos z]; rfl
    · rw [if_neg z, if_neg z]; rfl
  have v2 : ∀ j, j ≠ k → vW W2 j = vW W j := fun j q => by rw [e, vW_put, uZ_ne q]
  refine ⟨?_, by omega, by omega, by omega, fun j x y => ?_⟩
  · rw [foS_s (by omega), h1, a, hT]
    congr 3
    funext j
    by_cases z : 0 ≤ j ∧ j < k
    · rw [if_pos z, if_pos z, v3, if_pos z.2, v2 j (by omega)]
    · rw [if_neg z, if_neg z]
  · rw [v3, if_neg (by omega), v2 _ (by omega), show k + j + 1 = k + (1 + j) by omega, show i + 1 + j = i + (1 + j) by omega]
    exact h5 (1 + j) (by omega) (by omega)
theorem FI.label (h : FI V0 N i k w K W m) (hi : i < N) (h0 : W k 0 = 13) (e : W2 = W) : FI V0 N (i + 1) (k + 1) w (fun _ => (0, 0)) W2 m := by
  refine h.keep hi (t := W k) ?_ (Or.inl rfl) ?_
  · unfold foT
    rw [if_pos (by rw [nrm_ne (by decide) (by decide)]; exact h0)]
  · rw [e]; funext q; by_cases z : q = k
    · rw [z, uZ_eq]
    · rw [uZ_ne z]
theorem FI.bind (h : FI V0 N i k w K W m) (hi : i < N) (ho : iOK (W k)) (h0 : W k 0 = 12) (e : W2 = uZ W k (fbI K (W k))) : FI V0 N (i + 1) (k + 1) w K W2 m := by
  refine h.keep hi ?_ (Or.inl rfl) e
  unfold foT
  have z : nrm (W k) 0 = 12 := by rw [nrm_ne (by decide) (by decide)]; exact h0
  rw [if_neg (by omega), if_pos z, nrm_fb ho h0]
theorem FI.mark (h : FI V0 N i k w K W m) (hi : i < N) (h0 : 10 < W k 0 ∧ W k 0 ≠ 12 ∧ W k 0 ≠ 13) (e : W2 = W) : FI V0 N (i + 1) (k + 1) w K W2 m := by
  refine h.keep hi (t := W k) ?_ (Or.inl rfl) ?_
  · unfold foT
    have z : nrm (W k) 0 = W k 0 := nrm_ne (by decide) (by decide)
    rw [if_neg (by omega), if_neg (by omega), if_neg (by omega)]
  · rw [e]; funext q; by_cases z : q = k
    · rw [z, uZ_eq]
    · rw [uZ_ne z]
theorem FI.act (h : FI V0 N i k w K W m) (hi : i < N) (h0 : W k 0 ≤ 10) (hz : ¬ (foO K (W k) 4 0 = 9 ∧ foO K (W k) 4 3 = 1 ∧ foO K (W k) 4 4 ≠ 0)) (e : W2 = uZ W k (faI (foO K (W k) 4))) (hK : K2 = lrn (faI (foO K (W k) 4)) K) (hw : (w2 = w + 1 ∧ (foC K (W k) 4 ∨ (1 ≤ foO K (W k) 4 0 ∧ foO K (W k) 4 0 ≤ 5 ∧ foO K (W k) 4 3 = 1 ∧ foO K (W k) 4 5 = 1) ∨ (foO K (W k) 4 0 = 9 ∧ foO K (W k) 4 3 = 1))) ∨ (w2 = w ∧ ¬ (foC K (W k) 4 ∨ (1 ≤ foO K (W k) 4 0 ∧ foO K (W k) 4 0 ≤ 5 ∧ foO K (W k) 4 3 = 1 ∧ foO K (W k) 4 5 = 1) ∨ (foO K (W k) 4 0 = 9 ∧ foO K (W k) 4 3 = 1)))) : FI V0 N (i + 1) (k + 1) w2 K2 W2 m := by
  have ki : W k 0 ≠ 12 := by omega
  have kf : foO K (W k) 4 0 ≠ 12 := by rw [foO_0c]; exact ki
  refine h.keep hi ?_ (by omega) e
  unfold foT
  have z : nrm (W k) 0 = W k 0 := nrm_ne (by decide) (by decide)
  rw [if_neg (by omega), if_neg (by omega), if_pos (by omega)]
  unfold foX
  show (lrn (foZ (foA (foO K (nrm (W k)) 4))) K, dI (zer1 (foA (foO K (nrm (W k)) 4)) ∧ foA (foO K (nrm (W k)) 4) 4 ≠ 0) k (k + 1), dI (foC K (nrm (W k)) 4 ∨ five2 (foO K (nrm (W k)) 4) ∨ zer1 (foA (foO K (nrm (W k)) 4))) (w + 1) w, dI (zer1 (foA (foO K (nrm (W k)) 4)) ∧ foA (foO K (nrm (W k)) 4) 4 ≠ 0) _ _) = _
  rw [← nrm_foO ki, dI_n (fun q => hz ((fa_zer kf).mp q)), dI_n (fun q => hz ((fa_zer kf).mp q)), ← fa_keep kf hz, lrn_n (faI_12 kf), hK, foC_n ki]
  congr 2
  rcases hw with ⟨a, b⟩ | ⟨a, b⟩
  · rw [dI_y (b.imp id (fa_told kf).mpr), a]
  · rw [dI_n (fun q => b (q.imp id (fa_told kf).mp)), a]
theorem FI.actout (h : FI V0 N i k w K W m) (hi : i < N) (h0 : W k 0 ≤ 10) (hz : foO K (W k) 4 0 = 9 ∧ foO K (W k) 4 3 = 1 ∧ foO K (W k) 4 4 ≠ 0) (e : W2 = uZ W k (faI (foO K (W k) 4))) (hK : K2 = lrn (faI (foO K (W k) 4)) K) (hw : w2 = w + 1) (e2 : W3 = toV W2 k) : FI V0 N (i + 1) k w2 K2 W3 (m - 1) := by
  have ki : W k 0 ≠ 12 := by omega
  have kf : foO K (W k) 4 0 ≠ 12 := by rw [foO_0c]; exact ki
  refine h.out hi ?_ (Or.inr hw) e e2
  unfold foT
  have z : nrm (W k) 0 = W k 0 := nrm_ne (by decide) (by decide)
  rw [if_neg (by omega), if_neg (by omega), if_pos (by omega)]
  unfold foX
  show (lrn (foZ (foA (foO K (nrm (W k)) 4))) K, dI (zer1 (foA (foO K (nrm (W k)) 4)) ∧ foA (foO K (nrm (W k)) 4) 4 ≠ 0) k (k + 1), dI (foC K (nrm (W k)) 4 ∨ five2 (foO K (nrm (W k)) 4) ∨ zer1 (foA (foO K (nrm (W k)) 4))) (w + 1) w, dI (zer1 (foA (foO K (nrm (W k)) 4)) ∧ foA (foO K (nrm (W k)) 4) 4 ≠ 0) _ _) = _
  have y := (fa_zer kf).mpr hz
  rw [← nrm_foO ki, dI_y y, dI_y y, dI_y (Or.inr (Or.inr y.1)), hw]
  congr 1
  have n1 : lrn (foZ (foA (nrm (foO K (W k) 4)))) K = K := by
    unfold lrn foZ
    rw [dI_y y.1]
    exact dI_n (show ¬ ((8 : Int) ≤ 5 ∨ (8 : Int) = 10) by decide)
  have n2 : lrn (faI (foO K (W k) 4)) K = K := by
    rw [(fa_out hz).1]
    unfold lrn
    rw [hz.1]
    exact dI_n (by decide)
  rw [n1, hK, n2]
theorem FI.fin (h : FI V0 N i k w K W m) (hi : N ≤ i) (hW : ∀ j, ¬ (0 ≤ j ∧ j < m) → W j = fun _ => 0) : foS V0 N.toNat = (K, m, w, vW W) := by
  obtain ⟨h1, h2, h3, h4, h5⟩ := h
  have e : i = N := by omega
  have ek : k = m := by omega
  rw [← e, h1, ek]
  congr 3
  funext j
  by_cases z : 0 ≤ j ∧ j < m
  · rw [if_pos z]
  · rw [if_neg z]
    show zI = nrm (W j)
    rw [hW j z]
    funext c
    unfold nrm zI
    by_cases q : c = 12
    · rw [if_neg (fun w => absurd w.2.1 (by decide)), if_pos q]
    · rw [if_neg (fun w => absurd w.2.1 (by decide)), if_neg q]
end FIS
theorem cW_off {σ : MS} {x : Nat} {n j : Int} (h : ¬ (0 ≤ j ∧ j < n)) : cW σ x n j = fun _ => 0 := by
  funext c
  exact if_neg (fun q => h q.1)
theorem WOK.rem {W : Int → It} {n k : Int} (h : WOK W n) (hk : 0 ≤ k) : WOK (toV W k) (n - 1) := fun j a b => by
  unfold toV
  by_cases z : j < k
  · rw [if_pos z]; exact h j a (by omega)
  · rw [if_neg z]; exact h (j + 1) (by omega) (by omega)
section FBK
variable {W W2 : Int → It} {Rk Rv : Int → Int} {k r v1 v2 N : Int}
theorem uZ_self {f : Int → It} {k : Int} {t : It} (h : t = f k) : f = uZ f k t := by
  funext q
  by_cases e : q = k
  · rw [e, uZ_eq, h]
  · rw [uZ_ne e]
theorem fb_yes {N2 : Int} (hr : r = W k 4) (hw : W k 11 = 2) (a1 : ATQ Rk N r v1) (h1 : v1 = 1) (a2 : ATQ Rv N2 r v2) (hN : N = 192) (hN2 : N2 = 192) (e : W2 = uZ W k (swI (W k) 1 v2)) : W2 = uZ W k (fbI (kn2 Rk Rv) (W k)) := by
  have z1 := kn2_1 (Rv := Rv) a1 hN
  have z2 := kn2_2 a1 (by omega) a2 hN hN2
  unfold fbI
  rw [← hr, if_pos ⟨hw, by rw [z1]; exact h1⟩, z2, e]
theorem fb_no (h : W k 11 ≠ 2) : W = uZ W k (fbI (kn2 Rk Rv) (W k)) := uZ_self (if_neg (fun q => h q.1))
theorem fb_no2 (hr : r = W k 4) (a1 : ATQ Rk N r v1) (hN : N = 192) (h1 : v1 ≠ 1) : W = uZ W k (fbI (kn2 Rk Rv) (W k)) := uZ_self (if_neg (fun q => h1 (by
  have z1 := kn2_1 (Rv := Rv) a1 hN
  rw [← hr, z1] at q
  exact q.2)))
end FBK
def LNW (R1 Rv : Int → Int) (r i : Int) (R : Int → Int) : Prop := ∀ j, R j = if 0 ≤ j ∧ j < i ∧ R1 j = 2 ∧ Rv j = r then 0 else R1 j
section LNS
variable {R1 Rv R R2 Rk : Int → Int} {r i : Int} {σ : MS} {x : Nat} {t : It}
theorem LNW.nil : LNW R Rv r 0 R := fun j => by rw [if_neg (by omega)]
theorem LNW.no (h : LNW R1 Rv r i R) (q : ¬ (R i = 2 ∧ Rv i = r)) : LNW R1 Rv r (i + 1) R := fun j => by
  have hi := h i
  rw [if_neg (by omega)] at hi
  rw [h j]
  by_cases z : 0 ≤ j ∧ j < i ∧ R1 j = 2 ∧ Rv j = r
  · rw [if_pos z, if_pos ⟨z.1, by omega, z.2.2⟩]
  · rw [if_neg z, if_neg (fun w => ?_)]
    by_cases e : j = i
    · subst e; exact q ⟨by rw [hi]; exact w.2.2.1, w.2.2.2⟩
    · exact z ⟨w.1, by omega, w.2.2⟩
theorem LNW.yes (h : LNW R1 Rv r i R) (h0 : 0 ≤ i) (q : R i = 2) (q2 : Rv i = r) (e2 : R2 = uZ R i 0) : LNW R1 Rv r (i + 1) R2 := fun j => by
  have hi := h i
  rw [if_neg (by omega)] at hi
  rw [e2]
  by_cases e : j = i
  · rw [e, uZ_eq, if_pos ⟨h0, by omega, by rw [← hi]; exact q, q2⟩]
  · rw [uZ_ne e, h j]
    by_cases z : 0 ≤ j ∧ j < i ∧ R1 j = 2 ∧ Rv j = r
    · rw [if_pos z, if_pos ⟨z.1, by omega, z.2.2⟩]
    · rw [if_neg z, if_neg (fun w => z ⟨w.1, by omega, w.2.2⟩)]
theorem row_put {z v : Int} : (sA (1000 + x) z v σ).2.1 (1000 + x) = uZ (σ.2.1 (1000 + x)) z v := by
  funext q
  simp only [sA, if_true]
  rfl
theorem ptf_row {τ : MS} {N z v : Int} (f : τ = (if 0 ≤ z ∧ z < N then sA (1000 + x) z v σ else σ)) (h : 0 ≤ z ∧ z < N) : τ.2.1 (1000 + x) = uZ (σ.2.1 (1000 + x)) z v := by
  rw [f, if_pos h, row_put]
theorem lrn_no2 {K : KN} (h : ¬ (t 0 ≤ 5 ∨ t 0 = 10)) : K = lrn t K := by unfold lrn; rw [dI_n h]
theorem ln_ne {N g : Int} (e : g ≠ r) (e1 : R1 = uZ Rk r 0) (h : LNW R1 Rv r N R2) (hN : 192 ≤ N) : kn2 R2 Rv g = if kn2 Rk Rv g = (2, r) then (0, 0) else kn2 Rk Rv g := by
  have g1 : R1 g = Rk g := by rw [e1, uZ_ne e]
  by_cases z : 0 ≤ g ∧ g < 192
  · by_cases y : Rk g = 2 ∧ Rv g = r
    · have k1 : kn2 Rk Rv g = (2, r) := by unfold kn2; rw [if_pos ⟨z.1, z.2, by omega⟩, y.1, y.2]
      rw [if_pos k1]
      unfold kn2
      rw [if_neg (fun q => q.2.2 (by rw [h g, if_pos ⟨z.1, by omega, by rw [g1]; exact y.1, y.2⟩]))]
    · have hg : R2 g = Rk g := by rw [h g, if_neg (fun q => y ⟨by rw [← g1]; exact q.2.2.1, q.2.2.2⟩), g1]
      have k2 : kn2 R2 Rv g = kn2 Rk Rv g := by unfold kn2; rw [hg]
      rw [k2, if_neg]
      intro q
      unfold kn2 at q
      by_cases w : Rk g ≠ 0
      · rw [if_pos ⟨z.1, z.2, w⟩] at q
        exact y ⟨congrArg Prod.fst q, congrArg Prod.snd q⟩
      · rw [if_neg (fun p => w p.2.2)] at q
        exact absurd (congrArg Prod.fst q) (show ¬ (0 : Int) = 2 by decide)
  · have k2 : kn2 R2 Rv g = (0, 0) := by unfold kn2; rw [if_neg (fun q => z ⟨q.1, q.2.1⟩)]
    have k1 : kn2 Rk Rv g = (0, 0) := by unfold kn2; rw [if_neg (fun q => z ⟨q.1, q.2.1⟩)]
    rw [k2, k1, if_neg (fun q => absurd (congrArg Prod.fst q) (show ¬ (0 : Int) = 2 by decide))]
theorem ln_0 {N : Int} (hr : r = t 1 ∧ 0 ≤ r ∧ r < 192) (hw : t 0 ≤ 5 ∨ t 0 = 10) (e1 : R1 = uZ Rk r 0) (h : LNW R1 Rv r N R2) (hN : 192 ≤ N) (hc : ¬ (t 0 = 0 ∧ ¬ (t 3 = 2 ∧ t 4 = r))) : kn2 R2 Rv = lrn t (kn2 Rk Rv) := by
  unfold lrn
  rw [dI_y hw]
  funext g
  unfold lrnF
  rw [← hr.1]
  by_cases e : g = r
  · rw [if_pos e, if_neg (fun q => hc ⟨q.1, q.2.1⟩)]
    have z : R2 g = 0 := by
      rw [h g, e, e1, uZ_eq]
      exact if_neg (fun q => absurd q.2.2.1 (show ¬ (0 : Int) = 2 by decide))
    unfold kn2
    rw [if_neg (fun q => q.2.2 z)]
  · rw [if_neg e]
    exact ln_ne e e1 h hN
theorem ln_1 {N : Int} {R3 Rv3 : Int → Int} (hr : r = t 1 ∧ 0 ≤ r ∧ r < 192) (hw : t 0 = 0) (e1 : R1 = uZ Rk r 0) (h : LNW R1 Rv r N R2) (hN : 192 ≤ N) (hc : ¬ (t 3 = 2 ∧ t 4 = r)) (e3 : R3 = uZ R2 r (t 3)) (e4 : Rv3 = uZ Rv r (t 4)) : kn2 R3 Rv3 = lrn t (kn2 Rk Rv) := by
  unfold lrn
  rw [dI_y (Or.inl (by omega))]
  funext g
  unfold lrnF
  rw [← hr.1]
  by_cases e : g = r
  · rw [if_pos e]
    unfold kn2
    rw [e3, e4, e, uZ_eq, uZ_eq]
    by_cases w : t 3 ≠ 0
    · rw [if_pos ⟨hr.2.1, hr.2.2, w⟩, if_pos ⟨hw, hc, w⟩]
    · rw [if_neg (fun q => w q.2.2), if_neg (fun q => w q.2.2)]
  · rw [if_neg e]
    have : kn2 R3 Rv3 g = kn2 R2 Rv g := by
      unfold kn2
      rw [e3, e4, uZ_ne e, uZ_ne e]
    rw [this]
    exact ln_ne e e1 h hN
end LNS
section FIW
variable {V0 : Int → It} {N i k w w2 m m2 v1 v2 vb v3 : Int} {K K2 : KN} {W W1 W2 W3 : Int → It}
theorem FI.label2 (h : FI V0 N i k w K W m) (hi : i < N) (h0 : W k 0 = 13) (e : W2 = W) (eK : K2 = fun _ => (0, 0)) (em : m2 = m) : FI V0 N (i + 1) (k + 1) w K2 W2 m2 := by
  rw [eK, em]; exact h.label hi h0 e
theorem FI.bind2 (h : FI V0 N i k w K W m) (hi : i < N) (ho : iOK (W k)) (h0 : W k 0 = 12) (e : W2 = uZ W k (fbI K (W k))) (eK : K2 = K) (em : m2 = m) : FI V0 N (i + 1) (k + 1) w K2 W2 m2 := by
  rw [eK, em]; exact h.bind hi ho h0 e
theorem FI.mark2 (h : FI V0 N i k w K W m) (hi : i < N) (h0 : 10 < W k 0 ∧ W k 0 ≠ 12 ∧ W k 0 ≠ 13) (e : W2 = W) (eK : K2 = K) (em : m2 = m) : FI V0 N (i + 1) (k + 1) w K2 W2 m2 := by
  rw [eK, em]; exact h.mark hi h0 e
theorem fa_goes {t : It} : (faI t 0 = 9 ∧ faI t 3 = 1) ↔ (t 0 = 9 ∧ t 3 = 1 ∧ t 4 ≠ 0) := by
  unfold faI
  by_cases q : 1 ≤ t 0 ∧ t 0 ≤ 5 ∧ t 3 = 1 ∧ t 5 = 1
  · rw [if_pos q]
    exact ⟨fun z => absurd (show (0 : Int) = 9 from z.1) (by decide), fun z => by omega⟩
  · rw [if_neg q]
    by_cases y : t 0 = 9 ∧ t 3 = 1 ∧ t 4 = 0
    · rw [if_pos y]
      exact ⟨fun z => absurd (show (8 : Int) = 9 from z.1) (by decide), fun z => absurd y.2.2 z.2.2⟩
    · rw [if_neg y]
      exact ⟨fun z => ⟨z.1, z.2, fun u => y ⟨z.1, z.2, u⟩⟩, fun z => ⟨z.1, z.2.1⟩⟩
theorem two_it {t : It} (f1 : W1 = uZ W k t) (f2 : W2 = uZ W1 k (faI (W1 k))) : W2 = uZ W k (faI t) ∧ W1 k = t ∧ W2 k = faI t := by
  subst f1
  rw [uZ_eq, uZ_uZ] at f2
  exact ⟨f2, uZ_eq, by rw [f2, uZ_eq]⟩
theorem FI.act2 (h : FI V0 N i k w K W m) (hi : i < N) (h0 : W k 0 ≤ 10) (f1 : W1 = uZ W k (foO K (W k) 4)) (u1 : v1 = 1 ↔ foC K (W k) 4) (b1 : v1 = 0 ∨ v1 = 1) (f2 : W2 = uZ W1 k (faI (W1 k))) (u2 : FAQ (W1 k) v2) (hb : vb = 0 ↔ v1 = 0 ∧ v2 = 0) (fK : K2 = lrn (W2 k) K) (g : ¬ (W2 k 0 = 9 ∧ W2 k 3 = 1)) (hw : (w2 = w + 1 ∧ vb ≠ 0) ∨ (w2 = w ∧ vb = 0)) (e : W3 = W2) (em : m2 = m) : FI V0 N (i + 1) (k + 1) w2 K2 W3 m2 := by
  obtain ⟨e1, e2, e3⟩ := two_it f1 f2
  rw [e2] at u2
  rw [e3] at fK g
  rw [fa_goes] at g
  rw [em, e]
  refine h.act hi h0 g e1 fK ?_
  unfold FAQ at u2
  rcases hw with ⟨a, b⟩ | ⟨a, b⟩
  · refine Or.inl ⟨a, ?_⟩
    rcases u2 with ⟨c, d⟩ | ⟨c, d⟩
    · exact Or.inr d
    · exact Or.inl (u1.mp (by rcases b1 with y | y; exact absurd (hb.mpr ⟨y, c⟩) b; exact y))
  · have y := hb.mp b
    refine Or.inr ⟨a, fun z => ?_⟩
    rcases z with z | z
    · have := u1.mpr z; omega
    · rcases u2 with ⟨c, d⟩ | ⟨c, d⟩
      · omega
      · exact d z
theorem FI.actout2 (h : FI V0 N i k w K W m) (hi : i < N) (h0 : W k 0 ≤ 10) (f1 : W1 = uZ W k (foO K (W k) 4)) (b1 : v1 = 0 ∨ v1 = 1) (f2 : W2 = uZ W1 k (faI (W1 k))) (u2 : FAQ (W1 k) v2) (hb : vb = 0 ↔ v1 = 0 ∧ v2 = 0) (fK : K2 = lrn (W2 k) K) (g : W2 k 0 = 9 ∧ W2 k 3 = 1) (hw : (w2 = w + 1 ∧ vb ≠ 0) ∨ (w2 = w ∧ vb = 0)) (e : W3 = toV W2 k) (em : m2 = m - 1) : FI V0 N (i + 1) k w2 K2 W3 m2 := by
  obtain ⟨e1, e2, e3⟩ := two_it f1 f2
  rw [e2] at u2
  rw [e3] at fK g
  rw [fa_goes] at g
  rw [em]
  refine h.actout hi h0 g e1 fK ?_ e
  unfold FAQ at u2
  rcases hw with ⟨a, b⟩ | ⟨a, b⟩
  · exact a
  · have y := hb.mp b
    rcases u2 with ⟨c, d⟩ | ⟨c, d⟩
    · omega
    · exact absurd (Or.inr ⟨g.1, g.2.1⟩) d
theorem wk_act (h : WOK W m) (hk : 0 ≤ k ∧ k < m) (hK : KNO K) (h0 : W k 0 ≤ 10) (f1 : W1 = uZ W k (foO K (W k) 4)) (f2 : W2 = uZ W1 k (faI (W1 k))) (fK : K2 = lrn (W2 k) K) : WOK W2 m ∧ KNO K2 := by
  obtain ⟨e1, e2, e3⟩ := two_it f1 f2
  have ki : W k 0 ≠ 12 := by omega
  have o := faI_iOK (foO_iOK (h k hk.1 hk.2) hK ki) (by rw [foO_0c]; exact ki)
  refine ⟨by rw [e1]; exact h.put o, ?_⟩
  rw [fK, e3]
  exact hK.lr o
end FIW
end
section
theorem cW_n {σ : MS} {x : Nat} {a b : Int} {U : Int → It} (e : a = b) (f : cW σ x b = U) : cW σ x a = U := by rw [e]; exact f
theorem fb_0 {K : KN} {i : It} : fbI K i 0 = i 0 := by unfold fbI; split <;> rfl
theorem cW_rem {σ : MS} {x a : Nat} {n k sp dp m v : Int} (hk : 0 ≤ k ∧ k < n) (h1 : sp = 13 * (k + 1)) (h2 : dp = 13 * k) (h3 : m = 13 * (n - k - 1)) : cW (sA 6 a v (rowS (1000 + x) (cpZ (σ.2.1 (1000 + x)) (σ.2.1 (1000 + x)) sp dp m) σ)) x (n - 1) = toV (cW σ x n) k := by
  rw [cW_fld (by decide)]
  funext i c
  unfold toV cW
  rw [rowS_eq]
  unfold cpZ
  by_cases e : (0 ≤ i ∧ i < n - 1) ∧ 0 ≤ c ∧ c ≤ 12
  · rw [if_pos e]
    by_cases z : i < k
    · rw [if_pos z]
      show _ = if (0 ≤ i ∧ i < n) ∧ 0 ≤ c ∧ c ≤ 12 then _ else _
      rw [if_neg (by omega), if_pos (by omega)]
    · rw [if_neg z]
      show _ = if (0 ≤ i + 1 ∧ i + 1 < n) ∧ 0 ≤ c ∧ c ≤ 12 then _ else _
      rw [if_pos (by omega), if_pos (by omega), show sp + (13 * i + c - dp) = 13 * (i + 1) + c by omega]
  · rw [if_neg e]
    by_cases z : i < k
    · rw [if_pos z]
      show _ = if (0 ≤ i ∧ i < n) ∧ 0 ≤ c ∧ c ≤ 12 then _ else _
      rw [if_neg (by omega)]
    · rw [if_neg z]
      show _ = if (0 ≤ i + 1 ∧ i + 1 < n) ∧ 0 ≤ c ∧ c ≤ 12 then _ else _
      rw [if_neg (by omega)]
end
section
set_option maxHeartbeats 1000000 in
set_option maxRecDepth 20000 in
theorem k_X11_reckon_x (d : Nat) {T : CT} {σ : MS} {k : Int} {x : Int} {y : Int} (h_k : -2147483648 ≤ k ∧ k ≤ 2147483647) (h_x : -2147483648 ≤ x ∧ x ≤ 2147483647) (h_y : -2147483648 ≤ y ∧ y ≤ 2147483647) (hw : WT T σ) (hk5 : 1 ≤ k ∧ k ≤ 5) : Tn (d + 1) m_X11_reckon 0 T σ [(0, .int (iI k)), (1, .int (iI x)), (2, .int (iI y))] [] (fun ro T2 σ2 => ∃ v : Int, ro = some (.int (iI v)) ∧ T = T2 ∧ σ = σ2 ∧ (-2147483648 ≤ v ∧ v ≤ 2147483647) ∧ (v = wkd k x y)) := by
  refine tn_iload_n dX11_reckon_0 rfl 0 rfl ?_
  by_cases h1 : k < 1 ∨ 5 < k
  · refine tn_tableOut (tgt := 70) dX11_reckon_1 (x := k) ⟨by omega, by omega⟩ h1 (by decide) ?_
    refine tn_iload_n dX11_reckon_70 rfl 1 rfl ?_
    exact tn_iret rfl dX11_reckon_71 ⟨_, rfl, rfl, rfl, by omega, by unfold wkd; (first | (rw [if_pos (by omega)]; done) | (rw [if_neg (by omega), if_pos (by omega)]; done) | (rw [if_neg (by omega), if_neg (by omega), if_pos (by omega)]; done) | (rw [if_neg (by omega), if_neg (by omega), if_neg (by omega), if_pos (by omega), if_pos (by omega)]; done) | (rw [if_neg (by omega), if_neg (by omega), if_neg (by omega), if_pos (by omega), if_neg (by omega)]; done) | (rw [if_neg (by omega), if_neg (by omega), if_neg (by omega), if_neg (by omega), if_pos (by omega)]; done) | (rw [if_neg (by omega), if_neg (by omega), if_neg (by omega), if_neg (by omega), if_neg (by omega)]; done) | (exfalso; omega))⟩
  · have h2 : k = 1 ∨ k = 2 ∨ k = 3 ∨ k = 4 ∨ k = 5 := by omega
    rcases h2 with h2 | h2 | h2 | h2 | h2
    · refine tn_tableIn (tgt := 36) (off := 35) dX11_reckon_1 (x := k) ⟨by omega, by omega⟩ (by omega) (by omega) (by rw [h2]; rfl) (by decide) ?_
      refine tn_iload_n dX11_reckon_36 rfl 1 rfl ?_
      refine tn_iload_n dX11_reckon_37 rfl 2 rfl ?_
      refine tn_iadd dX11_reckon_38 ?_
      rw [show iI (x + y) = iI (w32 (x + y)) from (iI_self _).symm]
      have g3r : -2147483648 ≤ w32 (x + y) ∧ w32 (x + y) ≤ 2147483647 := inR_toInt _
      exact tn_iret rfl dX11_reckon_39 ⟨_, rfl, rfl, rfl, by omega, by unfold wkd; (first | (rw [if_pos (by omega)]; done) | (rw [if_neg (by omega), if_pos (by omega)]; done) | (rw [if_neg (by omega), if_neg (by omega), if_pos (by omega)]; done) | (rw [if_neg (by omega), if_neg (by omega), if_neg (by omega), if_pos (by omega), if_pos (by omega)]; done) | (rw [if_neg (by omega), if_neg (by omega), if_neg (by omega), if_pos (by omega), if_neg (by omega)]; done) | (rw [if_neg (by omega), if_neg (by omega), if_neg (by omega), if_neg (by omega), if_pos (by omega)]; done) | (rw [if_neg (by omega), if_neg (by omega), if_neg (by omega), if_neg (by omega), if_neg (by omega)]; done) | (exfalso; omega))⟩
    · refine tn_tableIn (tgt := 40) (off := 39) dX11_reckon_1 (x := k) ⟨by omega, by omega⟩ (by omega) (by omega) (by rw [h2]; rfl) (by decide) ?_
      refine tn_iload_n dX11_reckon_40 rfl 1 rfl ?_
      refine tn_iload_n dX11_reckon_41 rfl 2 rfl ?_
      refine tn_isub dX11_reckon_42 ?_
      rw [show iI (x - y) = iI (w32 (x - y)) from (iI_self _).symm]
      have g4r : -2147483648 ≤ w32 (x - y) ∧ w32 (x - y) ≤ 2147483647 := inR_toInt _
      exact tn_iret rfl dX11_reckon_43 ⟨_, rfl, rfl, rfl, by omega, by unfold wkd; (first | (rw [if_pos (by omega)]; done) | (rw [if_neg (by omega), if_pos (by omega)]; done) | (rw [if_neg (by omega), if_neg (by omega), if_pos (by omega)]; done) | (rw [if_neg (by omega), if_neg (by omega), if_neg (by omega), if_pos (by omega), if_pos (by omega)]; done) | (rw [if_neg (by omega), if_neg (by omega), if_neg (by omega), if_pos (by omega), if_neg (by omega)]; done) | (rw [if_neg (by omega), if_neg (by omega), if_neg (by omega), if_neg (by omega), if_pos (by omega)]; done) | (rw [if_neg (by omega), if_neg (by omega), if_neg (by omega), if_neg (by omega), if_neg (by omega)]; done) | (exfalso; omega))⟩
    · refine tn_tableIn (tgt := 44) (off := 43) dX11_reckon_1 (x := k) ⟨by omega, by omega⟩ (by omega) (by omega) (by rw [h2]; rfl) (by decide) ?_
      refine tn_iload_n dX11_reckon_44 rfl 1 rfl ?_
      refine tn_iload_n dX11_reckon_45 rfl 2 rfl ?_
      refine tn_imul dX11_reckon_46 ?_
      rw [show iI (x * y) = iI (w32 (x * y)) from (iI_self _).symm]
      have g5r : -2147483648 ≤ w32 (x * y) ∧ w32 (x * y) ≤ 2147483647 := inR_toInt _
      exact tn_iret rfl dX11_reckon_47 ⟨_, rfl, rfl, rfl, by omega, by unfold wkd; (first | (rw [if_pos (by omega)]; done) | (rw [if_neg (by omega), if_pos (by omega)]; done) | (rw [if_neg (by omega), if_neg (by omega), if_pos (by omega)]; done) | (rw [if_neg (by omega), if_neg (by omega), if_neg (by omega), if_pos (by omega), if_pos (by omega)]; done) | (rw [if_neg (by omega), if_neg (by omega), if_neg (by omega), if_pos (by omega), if_neg (by omega)]; done) | (rw [if_neg (by omega), if_neg (by omega), if_neg (by omega), if_neg (by omega), if_pos (by omega)]; done) | (rw [if_neg (by omega), if_neg (by omega), if_neg (by omega), if_neg (by omega), if_neg (by omega)]; done) | (exfalso; omega))⟩
    · refine tn_tableIn (tgt := 48) (off := 47) dX11_reckon_1 (x := k) ⟨by omega, by omega⟩ (by omega) (by omega) (by rw [h2]; rfl) (by decide) ?_
      refine tn_iload_n dX11_reckon_48 rfl 1 rfl ?_
      refine tn_iload_n dX11_reckon_49 rfl 2 rfl ?_
      refine tn_icmp_ne (tgt := 57) dX11_reckon_50 (by decide) ⟨by omega, by omega⟩ ⟨by omega, by omega⟩ (fun h6 => ?_) (fun h6 => ?_)
      · refine tn_iconst dX11_reckon_57 ?_
        exact tn_iret rfl dX11_reckon_58 ⟨_, rfl, rfl, rfl, by omega, by unfold wkd; (first | (rw [if_pos (by omega)]; done) | (rw [if_neg (by omega), if_pos (by omega)]; done) | (rw [if_neg (by omega), if_neg (by omega), if_pos (by omega)]; done) | (rw [if_neg (by omega), if_neg (by omega), if_neg (by omega), if_pos (by omega), if_pos (by omega)]; done) | (rw [if_neg (by omega), if_neg (by omega), if_neg (by omega), if_pos (by omega), if_neg (by omega)]; done) | (rw [if_neg (by omega), if_neg (by omega), if_neg (by omega), if_neg (by omega), if_pos (by omega)]; done) | (rw [if_neg (by omega), if_neg (by omega), if_neg (by omega), if_neg (by omega), if_neg (by omega)]; done) | (exfalso; omega))⟩
      · refine tn_iconst dX11_reckon_53 ?_
        refine tn_goto (tgt := 58) dX11_reckon_54 (by decide) ?_
        exact tn_iret rfl dX11_reckon_58 ⟨_, rfl, rfl, rfl, by omega, by unfold wkd; (first | (rw [if_pos (by omega)]; done) | (rw [if_neg (by omega), if_pos (by omega)]; done) | (rw [if_neg (by omega), if_neg (by omega), if_pos (by omega)]; done) | (rw [if_neg (by omega), if_neg (by omega), if_neg (by omega), if_pos (by omega), if_pos (by omega)]; done) | (rw [if_neg (by omega), if_neg (by omega), if_neg (by omega), if_pos (by omega), if_neg (by omega)]; done) | (rw [if_neg (by omega), if_neg (by omega), if_neg (by omega), if_neg (by omega), if_pos (by omega)]; done) | (rw [if_neg (by omega), if_neg (by omega), if_neg (by omega), if_neg (by omega), if_neg (by omega)]; done) | (exfalso; omega))⟩
    · refine tn_tableIn (tgt := 59) (off := 58) dX11_reckon_1 (x := k) ⟨by omega, by omega⟩ (by omega) (by omega) (by rw [h2]; rfl) (by decide) ?_
      refine tn_iload_n dX11_reckon_59 rfl 1 rfl ?_
      refine tn_iload_n dX11_reckon_60 rfl 2 rfl ?_
      refine tn_icmp_ge (tgt := 68) dX11_reckon_61 (by decide) ⟨by omega, by omega⟩ ⟨by omega, by omega⟩ (fun h7 => ?_) (fun h7 => ?_)
      · refine tn_iconst dX11_reckon_68 ?_
        exact tn_iret rfl dX11_reckon_69 ⟨_, rfl, rfl, rfl, by omega, by unfold wkd; (first | (rw [if_pos (by omega)]; done) | (rw [if_neg (by omega), if_pos (by omega)]; done) | (rw [if_neg (by omega), if_neg (by omega), if_pos (by omega)]; done) | (rw [if_neg (by omega), if_neg (by omega), if_neg (by omega), if_pos (by omega), if_pos (by omega)]; done) | (rw [if_neg (by omega), if_neg (by omega), if_neg (by omega), if_pos (by omega), if_neg (by omega)]; done) | (rw [if_neg (by omega), if_neg (by omega), if_neg (by omega), if_neg (by omega), if_pos (by omega)]; done) | (rw [if_neg (by omega), if_neg (by omega), if_neg (by omega), if_neg (by omega), if_neg (by omega)]; done) | (exfalso; omega))⟩
      · refine tn_iconst dX11_reckon_64 ?_
        refine tn_goto (tgt := 69) dX11_reckon_65 (by decide) ?_
        exact tn_iret rfl dX11_reckon_69 ⟨_, rfl, rfl, rfl, by omega, by unfold wkd; (first | (rw [if_pos (by omega)]; done) | (rw [if_neg (by omega), if_pos (by omega)]; done) | (rw [if_neg (by omega), if_neg (by omega), if_pos (by omega)]; done) | (rw [if_neg (by omega), if_neg (by omega), if_neg (by omega), if_pos (by omega), if_pos (by omega)]; done) | (rw [if_neg (by omega), if_neg (by omega), if_neg (by omega), if_pos (by omega), if_neg (by omega)]; done) | (rw [if_neg (by omega), if_neg (by omega), if_neg (by omega), if_neg (by omega), if_pos (by omega)]; done) | (rw [if_neg (by omega), if_neg (by omega), if_neg (by omega), if_neg (by omega), if_neg (by omega)]; done) | (exfalso; omega))⟩
end
section
set_option maxHeartbeats 1000000 in
set_option maxRecDepth 20000 in
theorem k_X1_removeRow_x (d : Nat) {T : CT} {σ : MS} {a : Nat} {k : Int} {x : Nat} {n : Int} {W : Int → It} (ha : OB T a 1) (hta : (T a).1 = 50) (h_k : -2147483648 ≤ k ∧ k ≤ 2147483647) (hw : WT T σ) (hx : σ.2.1 5 a = (x : Int)) (hn : σ.2.1 6 a = n) (hW : cW σ x n = W) (hN : n ≤ 200) (hkr : 0 ≤ k ∧ k < n) : Tn (d + 1) m_X1_removeRow 0 T σ [(0, .ref a), (1, .int (iI k))] [] (fun ro T2 σ2 => ro = none ∧ T = T2 ∧ WT T2 σ2 ∧ FrC T [6] σ σ2 ∧ (CHX [(6, a)] [x] [] σ σ2) ∧ (σ2.2.1 6 a = n - 1) ∧ (cW σ2 x (n - 1) = toV W k)) := by
  refine tn_iload_n dX1_removeRow_0 rfl 1 rfl ?_
  refine tn_if_lt (tgt := 69) dX1_removeRow_1 (by decide) ⟨by omega, by omega⟩ (fun h1 => ?_) (fun h1 => ?_)
  · exact tn_vret rfl dX1_removeRow_69 ⟨rfl, rfl, hw, FrC.rfl, CHX.rfl, False.elim (by omega), False.elim (by omega)⟩
  · refine tn_iload_n dX1_removeRow_4 rfl 1 rfl ?_
    refine tn_aload_n dX1_removeRow_5 rfl 0 rfl ?_
    refine tn_getI (ci := 1) (i := 1) (n := 6) (t := σ.2.1 6 a) dX1_removeRow_6 rfl lay_1 (by decide) fl1_33 ha rfl rfl (rfl) ?_
    have g2 : ((0 : Int) ≤ σ.2.1 6 a ∧ σ.2.1 6 a ≤ 5000) ∧ ((T a).1 = 50 → σ.2.1 6 a ≤ 200) := wf_6 hw ha
    have g2x := g2.2
    replace g2 := g2.1
    have g2x := g2x hta
    refine tn_icmp_ge (tgt := 69) dX1_removeRow_9 (by decide) ⟨by omega, by omega⟩ ⟨by omega, by omega⟩ (fun h3 => ?_) (fun h3 => ?_)
    · exact tn_vret rfl dX1_removeRow_69 ⟨rfl, rfl, hw, FrC.rfl, CHX.rfl, False.elim (by omega), False.elim (by omega)⟩
    · refine tn_aload_n dX1_removeRow_12 rfl 0 rfl ?_
      refine tn_getI (ci := 1) (i := 1) (n := 6) (t := σ.2.1 6 a) dX1_removeRow_13 rfl lay_1 (by decide) fl1_33 ha rfl rfl (rfl) ?_
      refine tn_bipush dX1_removeRow_16 (by decide) ?_
      refine tn_imul dX1_removeRow_18 ?_
      refine tn_aload_n dX1_removeRow_19 rfl 0 rfl ?_
      obtain ⟨hl7, hk6a, hk6b⟩ := cel_of (wf_5 hw ha) hx
      have hk6 : (T x).1 = 1 := hk6a (by omega)
      clear hk6a hk6b
      have hk6i : IA T x := by unfold IA; omega
      refine tn_getR (ci := 1) (i := 0) (n := 5) (x := x) dX1_removeRow_20 rfl lay_1 (by decide) fl1_9 ha rfl rfl (hx) ?_
      refine tn_alenX dX1_removeRow_23 (Or.inl hk6i) ?_
      refine tn_icmp_gt (tgt := 69) dX1_removeRow_24 (by decide) ⟨by omega, by omega⟩ ⟨by omega, by omega⟩ (fun h8 => ?_) (fun h8 => ?_)
      · have g9 : 13 * σ.2.1 6 a ≤ ((T x).2 : Int) ∨ 2600 ≤ (T x).2 := hw.2.1 a x ha hx
        exact tn_vret rfl dX1_removeRow_69 ⟨rfl, rfl, hw, FrC.rfl, CHX.rfl, False.elim (by omega), False.elim (by omega)⟩
      · refine tn_aload_n dX1_removeRow_27 rfl 0 rfl ?_
        refine tn_getR (ci := 1) (i := 0) (n := 5) (x := x) dX1_removeRow_28 rfl lay_1 (by decide) fl1_9 ha rfl rfl (hx) ?_
        refine tn_iload_n dX1_removeRow_31 rfl 1 rfl ?_
        refine tn_iconst dX1_removeRow_32 ?_
        refine tn_iadd dX1_removeRow_33 ?_
        refine tn_bipush dX1_removeRow_34 (by decide) ?_
        refine tn_imul dX1_removeRow_36 ?_
        refine tn_aload_n dX1_removeRow_37 rfl 0 rfl ?_
        refine tn_getR (ci := 1) (i := 0) (n := 5) (x := x) dX1_removeRow_38 rfl lay_1 (by decide) fl1_9 ha rfl rfl (hx) ?_
        refine tn_iload_n dX1_removeRow_41 rfl 1 rfl ?_
        refine tn_bipush dX1_removeRow_42 (by decide) ?_
        refine tn_imul dX1_removeRow_44 ?_
        refine tn_aload_n dX1_removeRow_45 rfl 0 rfl ?_
        refine tn_getI (ci := 1) (i := 1) (n := 6) (t := σ.2.1 6 a) dX1_removeRow_46 rfl lay_1 (by decide) fl1_33 ha rfl rfl (rfl) ?_
        refine tn_iload_n dX1_removeRow_49 rfl 1 rfl ?_
        refine tn_isub dX1_removeRow_50 ?_
        refine tn_iconst dX1_removeRow_51 ?_
        refine tn_isub dX1_removeRow_52 ?_
        refine tn_bipush dX1_removeRow_53 (by decide) ?_
        refine tn_imul dX1_removeRow_55 ?_
        refine tn_acopyI (a := x) (b := x) (sp := (k + 1) * 13) (dp := k * 13) (n := (((σ.2.1 6 a) - k) - 1) * 13) dX1_removeRow_56 mla1_80 acNat acSt acIni hk6i hk6i ⟨by omega, by omega⟩ (by omega) (by omega) (by omega) (by omega) (by omega) (by omega) (Nat.le_of_ble_eq_true rfl) ?_
        refine tn_aload_n dX1_removeRow_59 rfl 0 rfl ?_
        refine tn_dup dX1_removeRow_60 rfl ?_
        refine tn_getI (ci := 1) (i := 1) (n := 6) (t := σ.2.1 6 a) dX1_removeRow_61 rfl lay_1 (by decide) fl1_33 ha rfl rfl (rc_r (Or.inl (by decide)) (rfl)) ?_
        refine tn_iconst dX1_removeRow_64 ?_
        refine tn_isub dX1_removeRow_65 ?_
        refine tn_putV (ci := 1) (i := 1) (n := 6) (r := false) (v := (σ.2.1 6 a) - 1) tyX1 tyX1_ok nmX1 dX1_removeRow_66 rfl lay_1 (by decide) fl1_33 rfl (tyX1_ok 1 (by decide)) rfl rfl rfl ha rfl rfl ?_
        exact tn_vret rfl dX1_removeRow_69 ⟨rfl, rfl, ((hw.row (Or.inl hk6i) (vok_cp1 hw hk6i hk6i (by have q9 := hk6; omega))).put6 (rc_r (Or.inl (by decide)) (hx)) (fo_6 ⟨by omega, by omega⟩) (Or.inl (by omega))), ((FrC.rfl.row (hk_no (nh_k hk6 (by unfold HT; omega)))).put (by decide) (by decide)), ((CHX.rfl.row (by simp)).fld (by simp) (by decide)), (show _ = n - 1 by rw [← hn]; exact ra_eq), (by rw [← hW]; exact cW_rem ⟨by omega, by omega⟩ (by omega) (by omega) (by omega))⟩
end
section
set_option maxHeartbeats 1000000 in
set_option maxRecDepth 20000 in
theorem k_X6_foldBind_x (d : Nat) {T : CT} {σ : MS} {a : Nat} {p1 : Nat} {p2 : Int} {x : Nat} {n : Int} {W : Int → It} {xk : Nat} {xv : Nat} {Rk : Int → Int} {Rv : Int → Int} (ha : OB T a 6) (h_p1 : OB T p1 1) (t_p1 : (T p1).1 = 50) (h_p2 : -2147483648 ≤ p2 ∧ p2 ≤ 2147483647) (hw : WT T σ) (hx : σ.2.1 5 p1 = (x : Int)) (hn : σ.2.1 6 p1 = n) (hW : cW σ x n = W) (hxk : σ.2.1 52 a = (xk : Int)) (hxv : σ.2.1 53 a = (xv : Int)) (hRk : σ.2.1 (1000 + xk) = Rk) (hRv : σ.2.1 (1000 + xv) = Rv) (hN : n ≤ 200) (hne : xk ≠ x ∧ xv ≠ x ∧ xk ≠ xv) (hk : 0 ≤ p2 ∧ p2 < n) : Tn (d + 3) m_X6_foldBind 0 T σ [(0, .ref a), (1, .ref p1), (2, .int (iI p2))] [] (fun ro T2 σ2 => ro = none ∧ T = T2 ∧ WT T2 σ2 ∧ FrC T [] σ σ2 ∧ (CHX [] [x] [] σ σ2) ∧ (cW σ2 x n = uZ W p2 (fbI (kn2 Rk Rv) (W p2)))) := by
  refine tn_aload_n dX6_foldBind_0 rfl 1 rfl ?_
  refine tn_iload_n dX6_foldBind_1 rfl 2 rfl ?_
  refine tn_iconst dX6_foldBind_2 ?_
  obtain ⟨hl4, hk3a, hk3b⟩ := cel_of (wf_5 hw h_p1) hx
  have hk3 : (T x).1 = 1 := hk3a (by omega)
  clear hk3a hk3b
  have hk3i : IA T x := by unfold IA; omega
  refine tn_callV (M := m_X6_foldBind) (pc := 3) (ix := 34) (ci := 1) (M' := m_X1_get) (As := [.int (iI p2), .int (iI 4)]) (rest := []) dX6_foldBind_3 ok_X1_get im_X1_get se_X1_get ml6_34 np_X1_get rfl rfl h_p1 rfl (Nat.le_of_ble_eq_true rfl) (Nat.le_of_ble_eq_true rfl) rfl (k_X1_get_x (d + 1) (T := T) (σ := σ) (a := p1) (k := p2) (c := 4) (x := x) (n := n) (W := W) h_p1 (by omega) (by decide) hw (hx) (hn) hW (by omega) (by omega)) (fun r5 T7 σ6 gt8 hp => ?_)
  obtain ⟨v11, rfl, rfl, rfl, f9, f10⟩ := hp
  clear gt8
  show Tn _ _ 6 T σ [(0, .ref a), (1, .ref p1), (2, .int (iI p2))] [.int (iI v11)] _
  refine tn_istore_n (L' := [(3, .int (iI v11)), (0, .ref a), (1, .ref p1), (2, .int (iI p2))]) dX6_foldBind_6 rfl (by decide) rfl ?_
  refine tn_aload_n dX6_foldBind_7 rfl 2 rfl ?_
  refine tn_iload_n dX6_foldBind_8 rfl 3 rfl ?_
  refine tn_bipush dX6_foldBind_9 (by decide) ?_
  refine tn_callV (M := m_X6_foldBind) (pc := 11) (ix := 34) (ci := 1) (M' := m_X1_get) (As := [.int (iI p2), .int (iI 11)]) (rest := []) dX6_foldBind_11 ok_X1_get im_X1_get se_X1_get ml6_34 np_X1_get rfl rfl h_p1 rfl (Nat.le_of_ble_eq_true rfl) (Nat.le_of_ble_eq_true rfl) rfl (k_X1_get_x (d + 1) (T := T) (σ := σ) (a := p1) (k := p2) (c := 11) (x := x) (n := n) (W := W) h_p1 (by omega) (by decide) hw (hx) (hn) hW (by omega) (by omega)) (fun r12 T14 σ13 gt15 hp => ?_)
  obtain ⟨v18, rfl, rfl, rfl, f16, f17⟩ := hp
  clear gt15
  show Tn _ _ 14 T σ [(3, .int (iI v11)), (0, .ref a), (1, .ref p1), (2, .int (iI p2))] [.int (iI v18)] _
  refine tn_iconst dX6_foldBind_14 ?_
  refine tn_icmp_ne (tgt := 44) dX6_foldBind_15 (by decide) ⟨by omega, by omega⟩ ⟨by decide, by decide⟩ (fun h19 => ?_) (fun h19 => ?_)
  · exact tn_vret rfl dX6_foldBind_44 ⟨rfl, rfl, hw, FrC.rfl, CHX.rfl, (by rw [hW]; exact fb_no (by omega))⟩
  · refine tn_aload_n dX6_foldBind_18 rfl 1 rfl ?_
    obtain ⟨hk22, hl23⟩ : AR T xk 1 192 192 := ar_of (wf_52 hw ha) hxk
    have hk22i : IA T xk := by unfold IA; omega
    refine tn_getR (ci := 6) (i := 0) (n := 52) (x := xk) dX6_foldBind_19 rfl lay_6 (by decide) fl6_9 ha rfl rfl (hxk) ?_
    refine tn_iload_n dX6_foldBind_22 rfl 0 rfl ?_
    refine tn_callSN (M := m_X6_foldBind) (pc := 23) (ix := 63) (M' := m_X11_at) (As := [.ref xk, .int (iI v11)]) (rest := []) dX6_foldBind_23 ok_X11_at stt_X11_at nl6_63 np_X11_at rfl (Nat.le_of_ble_eq_true rfl) (Nat.le_of_ble_eq_true rfl) rfl (k_X11_at_x (d + 1) (T := T) (σ := σ) (x := xk) (i := v11) (R := Rk) hk22i (by omega) (by omega) hw hRk) (fun r24 T26 σ25 gt27 hp => ?_)
    obtain ⟨v31, rfl, rfl, rfl, f28, f29, f30⟩ := hp
    clear gt27
    clear f29
    have f30u := f30
    unfold ATQ at f30u
    show Tn _ _ 26 T σ [(3, .int (iI v11)), (0, .ref a), (1, .ref p1), (2, .int (iI p2))] [.int (iI v31)] _
    refine tn_iconst dX6_foldBind_26 ?_
    refine tn_icmp_ne (tgt := 44) dX6_foldBind_27 (by decide) ⟨by omega, by omega⟩ ⟨by decide, by decide⟩ (fun h32 => ?_) (fun h32 => ?_)
    · exact tn_vret rfl dX6_foldBind_44 ⟨rfl, rfl, hw, FrC.rfl, CHX.rfl, (by rw [hW]; exact fb_no2 f10 f30 (by omega) (by omega))⟩
    · refine tn_aload_n dX6_foldBind_30 rfl 2 rfl ?_
      refine tn_iload_n dX6_foldBind_31 rfl 3 rfl ?_
      refine tn_iconst dX6_foldBind_32 ?_
      refine tn_aload_n dX6_foldBind_33 rfl 1 rfl ?_
      obtain ⟨hk35, hl36⟩ : AR T xv 1 192 192 := ar_of (wf_53 hw ha) hxv
      have hk35i : IA T xv := by unfold IA; omega
      refine tn_getR (ci := 6) (i := 1) (n := 53) (x := xv) dX6_foldBind_34 rfl lay_6 (by decide) fl6_15 ha rfl rfl (hxv) ?_
      refine tn_iload_n dX6_foldBind_37 rfl 0 rfl ?_
      refine tn_callSN (M := m_X6_foldBind) (pc := 38) (ix := 63) (M' := m_X11_at) (As := [.ref xv, .int (iI v11)]) (rest := [.int (iI 1), .int (iI p2), .ref p1]) dX6_foldBind_38 ok_X11_at stt_X11_at nl6_63 np_X11_at rfl (Nat.le_of_ble_eq_true rfl) (Nat.le_of_ble_eq_true rfl) rfl (k_X11_at_x (d + 1) (T := T) (σ := σ) (x := xv) (i := v11) (R := Rv) hk35i (by omega) (by omega) hw hRv) (fun r37 T39 σ38 gt40 hp => ?_)
      obtain ⟨v44, rfl, rfl, rfl, f41, f42, f43⟩ := hp
      clear gt40
      clear f42
      have f43u := f43
      unfold ATQ at f43u
      show Tn _ _ 41 T σ [(3, .int (iI v11)), (0, .ref a), (1, .ref p1), (2, .int (iI p2))] [.int (iI v44), .int (iI 1), .int (iI p2), .ref p1] _
      refine tn_callV (M := m_X6_foldBind) (pc := 41) (ix := 67) (ci := 1) (M' := m_X1_setWhere) (As := [.int (iI p2), .int (iI 1), .int (iI v44)]) (rest := []) dX6_foldBind_41 ok_X1_setWhere im_X1_setWhere se_X1_setWhere ml6_67 np_X1_setWhere rfl rfl h_p1 rfl (Nat.le_of_ble_eq_true rfl) (Nat.le_of_ble_eq_true rfl) rfl (k_X1_setWhere_x (d) (T := T) (σ := σ) (a := p1) (k := p2) (y := 1) (z := v44) (x := x) (n := n) (W := W) h_p1 (by omega) (by decide) (by omega) hw (hx) (hn) hW (by omega) (by omega)) (fun r45 T47 σ46 gt48 hp => ?_)
      obtain ⟨rfl, rfl, w52, F53, f49, f50⟩ := hp
      clear gt48
      show Tn _ _ 44 T σ46 [(3, .int (iI v11)), (0, .ref a), (1, .ref p1), (2, .int (iI p2))] [] _
      exact tn_vret rfl dX6_foldBind_44 ⟨rfl, rfl, w52, (FrC.rfl.trans (FrC.sub F53 (by decide))), (CHX.rfl.trans (CHX.sub f49 (by simp) (by simp) (by simp))), (fb_yes f10 (by omega) f30 (by omega) f43 (by omega) (by omega) f50)⟩
end
section
set_option maxHeartbeats 1000000 in
set_option maxRecDepth 20000 in
theorem l_X6_foldOperands_x_5 (d : Nat) {T : CT} {σ0 : MS} {a : Nat} {rx1 : Nat} {c2 : Int} {x : Nat} {n : Int} {W : Int → It} {xk : Nat} {xv : Nat} {Rk : Int → Int} {Rv : Int → Int} {post : Option Value → CT → MS → Prop} (h_a : OB T a 6) (h_rx1 : OB T rx1 1) (t_rx1 : (T rx1).1 = 50) (r_c2 : 0 ≤ c2 ∧ c2 ≤ 200) (hw0 : WT T σ0) (hk : 0 ≤ c2 ∧ c2 < n) (hx : σ0.2.1 5 rx1 = (x : Int)) (hn : σ0.2.1 6 rx1 = n) (hxk : σ0.2.1 52 a = (xk : Int)) (hxv : σ0.2.1 53 a = (xv : Int)) (hRk : σ0.2.1 (1000 + xk) = Rk) (hRv : σ0.2.1 (1000 + xv) = Rv) (hN : n ≤ 200) (hne : xk ≠ x ∧ xv ≠ x ∧ xk ≠ xv) (hx_88 : ∀ (i3 : Int) (i4 : Int) (σ : MS) , (WT T σ) → (FrC T [] σ0 σ) → (0 ≤ i3 ∧ i3 ≤ 1) → (3 ≤ i4 ∧ i4 ≤ 11) → (CHX [] [x] [] σ0 σ) → (FOP (kn2 Rk Rv) W (cW σ x n) c2 i4 i3) → (3 ≤ i4 ∧ i4 ≤ 11 ∧ (i3 = 0 ∨ i3 = 1)) → (11 ≤ i4) → Tn (d + 2) m_X6_foldOperands 88 T σ [(0, .ref a), (1, .ref rx1), (2, .int (iI c2)), (3, .int (iI i3)), (4, .int (iI i4))] [] post) : ∀ (nq9 : Nat) (i3 : Int) (i4 : Int) (σ : MS) , (WT T σ) → (FrC T [] σ0 σ) → (0 ≤ i3 ∧ i3 ≤ 1) → (3 ≤ i4 ∧ i4 ≤ 11) → (CHX [] [x] [] σ0 σ) → (FOP (kn2 Rk Rv) W (cW σ x n) c2 i4 i3) → (3 ≤ i4 ∧ i4 ≤ 11 ∧ (i3 = 0 ∨ i3 = 1)) → (2147483700 - i4).toNat = nq9 → Tn (d + 2) m_X6_foldOperands 5 T σ [(0, .ref a), (1, .ref rx1), (2, .int (iI c2)), (3, .int (iI i3)), (4, .int (iI i4))] [] post := by
  intro nq9
  induction nq9 using Nat.strongRecOn with
  | _ nq9 ih =>
    intro i3 i4 σ hw hF r_i3 r_i4 hC hP h4 hm
    obtain ⟨mP, hP1, hP2, hP3, hP4⟩ := id hP
    clear hP4
    refine tn_iload dX6_foldOperands_5 4 rfl ?_
    refine tn_bipush dX6_foldOperands_7 (by decide) ?_
    refine tn_icmp_ge (tgt := 88) dX6_foldOperands_9 (by decide) ⟨by omega, by omega⟩ ⟨by decide, by decide⟩ (fun h1 => ?_) (fun h1 => ?_)
    · exact tn_sub [0, 1, 2, 3, 4] rfl (hx_88 (i3) (i4) σ hw (FrC.rfl.trans (FrC.sub hF (by decide))) (by omega) (by omega) hC hP (by omega) (by omega))
    · refine tn_aload_n dX6_foldOperands_12 rfl 1 rfl ?_
      refine tn_iload_n dX6_foldOperands_13 rfl 2 rfl ?_
      refine tn_iload dX6_foldOperands_14 4 rfl ?_
      refine tn_iconst dX6_foldOperands_16 ?_
      refine tn_iadd dX6_foldOperands_17 ?_
      obtain ⟨hl5, hk4a, hk4b⟩ := cel_of (wf_5 hw0 h_rx1) hx
      have hk4 : (T x).1 = 1 := hk4a (by omega)
      clear hk4a hk4b
      have hk4i : IA T x := by unfold IA; omega
      refine tn_callV (M := m_X6_foldOperands) (pc := 18) (ix := 34) (ci := 1) (M' := m_X1_get) (As := [.int (iI c2), .int (iI (i4 + 1))]) (rest := []) dX6_foldOperands_18 ok_X1_get im_X1_get se_X1_get ml6_34 np_X1_get rfl rfl h_rx1 rfl (Nat.le_of_ble_eq_true rfl) (Nat.le_of_ble_eq_true rfl) rfl (k_X1_get_x (d) (T := T) (σ := σ) (a := rx1) (k := c2) (c := i4 + 1) (x := x) (n := n) (W := cW σ x n) h_rx1 (by omega) (by omega) hw (rc_F hF (Or.inl (by decide)) (by decide) (hx)) (rc_F hF (Or.inl (by decide)) (by decide) (hn)) rfl (by omega) (by omega)) (fun r6 T8 σ7 gt9 hp => ?_)
      obtain ⟨v12, rfl, rfl, rfl, f10, f11⟩ := hp
      clear gt9
      show Tn _ _ 21 T σ [(0, .ref a), (1, .ref rx1), (2, .int (iI c2)), (3, .int (iI i3)), (4, .int (iI i4))] [.int (iI v12)] _
      refine tn_istore (L' := [(5, .int (iI v12)), (0, .ref a), (1, .ref rx1), (2, .int (iI c2)), (3, .int (iI i3)), (4, .int (iI i4))]) dX6_foldOperands_21 (by decide) rfl ?_
      refine tn_aload_n dX6_foldOperands_23 rfl 2 rfl ?_
      refine tn_iload_n dX6_foldOperands_24 rfl 3 rfl ?_
      refine tn_iload dX6_foldOperands_25 5 rfl ?_
      refine tn_callV (M := m_X6_foldOperands) (pc := 27) (ix := 34) (ci := 1) (M' := m_X1_get) (As := [.int (iI c2), .int (iI i4)]) (rest := []) dX6_foldOperands_27 ok_X1_get im_X1_get se_X1_get ml6_34 np_X1_get rfl rfl h_rx1 rfl (Nat.le_of_ble_eq_true rfl) (Nat.le_of_ble_eq_true rfl) rfl (k_X1_get_x (d) (T := T) (σ := σ) (a := rx1) (k := c2) (c := i4) (x := x) (n := n) (W := cW σ x n) h_rx1 (by omega) (by omega) hw (rc_F hF (Or.inl (by decide)) (by decide) (hx)) (rc_F hF (Or.inl (by decide)) (by decide) (hn)) rfl (by omega) (by omega)) (fun r13 T15 σ14 gt16 hp => ?_)
      obtain ⟨v19, rfl, rfl, rfl, f17, f18⟩ := hp
      clear gt16
      show Tn _ _ 30 T σ [(5, .int (iI v12)), (0, .ref a), (1, .ref rx1), (2, .int (iI c2)), (3, .int (iI i3)), (4, .int (iI i4))] [.int (iI v19)] _
      refine tn_iconst dX6_foldOperands_30 ?_
      refine tn_icmp_ne (tgt := 82) dX6_foldOperands_31 (by decide) ⟨by omega, by omega⟩ ⟨by decide, by decide⟩ (fun h20 => ?_) (fun h20 => ?_)
      · refine tn_iinc (q0 := 5) (L' := [(4, .int (iI (i4 + 2))), (5, .int (iI v12)), (0, .ref a), (1, .ref rx1), (2, .int (iI c2)), (3, .int (iI i3))]) dX6_foldOperands_82 rfl (by decide) rfl ?_
        refine tn_goto (tgt := 5) dX6_foldOperands_85 (by decide) ?_
        exact tn_sub [2, 3, 4, 5, 0] rfl (ih _ (by omega) (i3) (i4 + 2) σ hw (FrC.rfl.trans (FrC.sub hF (by decide))) (by omega) (by omega) hC (hP.no (by omega) f11 (fun q => by omega) rfl) (by omega) rfl)
      · refine tn_aload_n dX6_foldOperands_34 rfl 1 rfl ?_
        obtain ⟨hk23, hl24⟩ : AR T xk 1 192 192 := ar_of (wf_52 hw0 h_a) hxk
        have hk23i : IA T xk := by unfold IA; omega
        refine tn_getR (ci := 6) (i := 0) (n := 52) (x := xk) dX6_foldOperands_35 rfl lay_6 (by decide) fl6_9 h_a rfl rfl (rc_F hF (Or.inl (by decide)) (by decide) (hxk)) ?_
        refine tn_iload dX6_foldOperands_38 0 rfl ?_
        have cv25 : σ.2.1 (1000 + xk) = Rk := (CHX.r hC (by first | (simp; done) | (simp only [List.mem_cons, List.not_mem_nil, or_false, not_or]; omega))).trans (hRk)
        refine tn_callSN (M := m_X6_foldOperands) (pc := 40) (ix := 63) (M' := m_X11_at) (As := [.ref xk, .int (iI v12)]) (rest := []) dX6_foldOperands_40 ok_X11_at stt_X11_at nl6_63 np_X11_at rfl (Nat.le_of_ble_eq_true rfl) (Nat.le_of_ble_eq_true rfl) rfl (k_X11_at_x (d) (T := T) (σ := σ) (x := xk) (i := v12) (R := Rk) hk23i (by omega) (by omega) hw cv25) (fun r26 T28 σ27 gt29 hp => ?_)
        obtain ⟨v33, rfl, rfl, rfl, f30, f31, f32⟩ := hp
        clear gt29
        clear f31
        have f32u := f32
        unfold ATQ at f32u
        show Tn _ _ 43 T σ [(5, .int (iI v12)), (0, .ref a), (1, .ref rx1), (2, .int (iI c2)), (3, .int (iI i3)), (4, .int (iI i4))] [.int (iI v33)] _
        refine tn_if_eq (tgt := 82) dX6_foldOperands_43 (by decide) ⟨by omega, by omega⟩ (fun h34 => ?_) (fun h34 => ?_)
        · refine tn_iinc (q0 := 5) (L' := [(4, .int (iI (i4 + 2))), (5, .int (iI v12)), (0, .ref a), (1, .ref rx1), (2, .int (iI c2)), (3, .int (iI i3))]) dX6_foldOperands_82 rfl (by decide) rfl ?_
          refine tn_goto (tgt := 5) dX6_foldOperands_85 (by decide) ?_
          exact tn_sub [2, 3, 4, 5, 0] rfl (ih _ (by omega) (i3) (i4 + 2) σ hw (FrC.rfl.trans (FrC.sub hF (by decide))) (by omega) (by omega) hC (hP.no (by omega) f11 (fun q => by have z1 := kn2_1 (Rv := Rv) f32 (by omega); rw [z1] at q; omega) rfl) (by omega) rfl)
        · refine tn_aload_n dX6_foldOperands_46 rfl 2 rfl ?_
          refine tn_iload_n dX6_foldOperands_47 rfl 3 rfl ?_
          refine tn_iload dX6_foldOperands_48 5 rfl ?_
          refine tn_aload_n dX6_foldOperands_50 rfl 1 rfl ?_
          refine tn_getR (ci := 6) (i := 0) (n := 52) (x := xk) dX6_foldOperands_51 rfl lay_6 (by decide) fl6_9 h_a rfl rfl (rc_F hF (Or.inl (by decide)) (by decide) (hxk)) ?_
          refine tn_iload dX6_foldOperands_54 0 rfl ?_
          refine tn_callSN (M := m_X6_foldOperands) (pc := 56) (ix := 63) (M' := m_X11_at) (As := [.ref xk, .int (iI v12)]) (rest := [.int (iI i4), .int (iI c2), .ref rx1]) dX6_foldOperands_56 ok_X11_at stt_X11_at nl6_63 np_X11_at rfl (Nat.le_of_ble_eq_true rfl) (Nat.le_of_ble_eq_true rfl) rfl (k_X11_at_x (d) (T := T) (σ := σ) (x := xk) (i := v12) (R := Rk) hk23i (by omega) (by omega) hw cv25) (fun r35 T37 σ36 gt38 hp => ?_)
          obtain ⟨v42, rfl, rfl, rfl, f39, f40, f41⟩ := hp
          clear gt38
          clear f40
          have f41u := f41
          unfold ATQ at f41u
          show Tn _ _ 59 T σ [(5, .int (iI v12)), (0, .ref a), (1, .ref rx1), (2, .int (iI c2)), (3, .int (iI i3)), (4, .int (iI i4))] [.int (iI v42), .int (iI i4), .int (iI c2), .ref rx1] _
          refine tn_callV (M := m_X6_foldOperands) (pc := 59) (ix := 71) (ci := 1) (M' := m_X1_set) (As := [.int (iI c2), .int (iI i4), .int (iI v42)]) (rest := []) dX6_foldOperands_59 ok_X1_set im_X1_set se_X1_set ml6_71 np_X1_set rfl rfl h_rx1 rfl (Nat.le_of_ble_eq_true rfl) (Nat.le_of_ble_eq_true rfl) rfl (k_X1_set_x (d) (T := T) (σ := σ) (a := rx1) (k := c2) (c := i4) (y := v42) (x := x) (n := n) (W := cW σ x n) h_rx1 (by omega) (by omega) (by omega) hw (rc_F hF (Or.inl (by decide)) (by decide) (hx)) (rc_F hF (Or.inl (by decide)) (by decide) (hn)) rfl (by omega) (by omega) (by omega) (by omega)) (fun r43 T45 σ44 gt46 hp => ?_)
          obtain ⟨rfl, rfl, w50, F51, f47, f48⟩ := hp
          clear gt46
          show Tn _ _ 62 T σ44 [(5, .int (iI v12)), (0, .ref a), (1, .ref rx1), (2, .int (iI c2)), (3, .int (iI i3)), (4, .int (iI i4))] [] _
          refine tn_aload_n dX6_foldOperands_62 rfl 2 rfl ?_
          refine tn_iload_n dX6_foldOperands_63 rfl 3 rfl ?_
          refine tn_iload dX6_foldOperands_64 5 rfl ?_
          refine tn_iconst dX6_foldOperands_66 ?_
          refine tn_iadd dX6_foldOperands_67 ?_
          refine tn_aload_n dX6_foldOperands_68 rfl 1 rfl ?_
          obtain ⟨hk54, hl55⟩ : AR T xv 1 192 192 := ar_of (wf_53 hw0 h_a) hxv
          have hk54i : IA T xv := by unfold IA; omega
          refine tn_getR (ci := 6) (i := 1) (n := 53) (x := xv) dX6_foldOperands_69 rfl lay_6 (by decide) fl6_15 h_a rfl rfl (rc_F F51 (Or.inl (by decide)) (by decide) (rc_F hF (Or.inl (by decide)) (by decide) (hxv))) ?_
          refine tn_iload dX6_foldOperands_72 0 rfl ?_
          have cv56 : σ44.2.1 (1000 + xv) = Rv := (CHX.r f47 (by first | (simp; done) | (simp only [List.mem_cons, List.not_mem_nil, or_false, not_or]; omega))).trans ((CHX.r hC (by first | (simp; done) | (simp only [List.mem_cons, List.not_mem_nil, or_false, not_or]; omega))).trans (hRv))
          refine tn_callSN (M := m_X6_foldOperands) (pc := 74) (ix := 63) (M' := m_X11_at) (As := [.ref xv, .int (iI v12)]) (rest := [.int (iI (i4 + 1)), .int (iI c2), .ref rx1]) dX6_foldOperands_74 ok_X11_at stt_X11_at nl6_63 np_X11_at rfl (Nat.le_of_ble_eq_true rfl) (Nat.le_of_ble_eq_true rfl) rfl (k_X11_at_x (d) (T := T) (σ := σ44) (x := xv) (i := v12) (R := Rv) hk54i (by omega) (by omega) w50 cv56) (fun r57 T59 σ58 gt60 hp => ?_)
          obtain ⟨v64, rfl, rfl, rfl, f61, f62, f63⟩ := hp
          clear gt60
          clear f62
          have f63u := f63
          unfold ATQ at f63u
          show Tn _ _ 77 T σ44 [(5, .int (iI v12)), (0, .ref a), (1, .ref rx1), (2, .int (iI c2)), (3, .int (iI i3)), (4, .int (iI i4))] [.int (iI v64), .int (iI (i4 + 1)), .int (iI c2), .ref rx1] _
          refine tn_callV (M := m_X6_foldOperands) (pc := 77) (ix := 71) (ci := 1) (M' := m_X1_set) (As := [.int (iI c2), .int (iI (i4 + 1)), .int (iI v64)]) (rest := []) dX6_foldOperands_77 ok_X1_set im_X1_set se_X1_set ml6_71 np_X1_set rfl rfl h_rx1 rfl (Nat.le_of_ble_eq_true rfl) (Nat.le_of_ble_eq_true rfl) rfl (k_X1_set_x (d) (T := T) (σ := σ44) (a := rx1) (k := c2) (c := i4 + 1) (y := v64) (x := x) (n := n) (W := cW σ44 x n) h_rx1 (by omega) (by omega) (by omega) w50 (rc_F F51 (Or.inl (by decide)) (by decide) (rc_F hF (Or.inl (by decide)) (by decide) (hx))) (rc_F F51 (Or.inl (by decide)) (by decide) (rc_F hF (Or.inl (by decide)) (by decide) (hn))) rfl (by omega) (by omega) (by omega) (by omega)) (fun r65 T67 σ66 gt68 hp => ?_)
          obtain ⟨rfl, rfl, w72, F73, f69, f70⟩ := hp
          clear gt68
          show Tn _ _ 80 T σ66 [(5, .int (iI v12)), (0, .ref a), (1, .ref rx1), (2, .int (iI c2)), (3, .int (iI i3)), (4, .int (iI i4))] [] _
          refine tn_iconst dX6_foldOperands_80 ?_
          refine tn_istore_n (L' := [(3, .int (iI 1)), (5, .int (iI v12)), (0, .ref a), (1, .ref rx1), (2, .int (iI c2)), (4, .int (iI i4))]) dX6_foldOperands_81 rfl (by decide) rfl ?_
          refine tn_iinc (q0 := 5) (L' := [(4, .int (iI (i4 + 2))), (3, .int (iI 1)), (5, .int (iI v12)), (0, .ref a), (1, .ref rx1), (2, .int (iI c2))]) dX6_foldOperands_82 rfl (by decide) rfl ?_
          refine tn_goto (tgt := 5) dX6_foldOperands_85 (by decide) ?_
          exact tn_sub [3, 4, 5, 1, 0] rfl (ih _ (by omega) (1) (i4 + 2) σ66 w72 (((FrC.rfl.trans (FrC.sub hF (by decide))).trans (FrC.sub F51 (by decide))).trans (FrC.sub F73 (by decide))) (by decide) (by omega) ((hC.trans (CHX.sub f47 (by simp) (by simp) (by simp))).trans (CHX.sub f69 (by simp) (by simp) (by simp))) (hP.yes (by omega) f11 (by omega) (kn2_1 f32 (by omega)) (by omega) (kn2_2 f32 (by omega) f63 (by omega) (by omega)) (by rw [f48, show v42 = v33 by have z1 := kn2_1 (Rv := Rv) f32 (by omega); have z2 := kn2_1 (Rv := Rv) f41 (by omega); omega]) f70) (by omega) rfl)
set_option maxHeartbeats 1000000 in
set_option maxRecDepth 20000 in
theorem k_X6_foldOperands_x (d : Nat) {T : CT} {σ : MS} {a : Nat} {p1 : Nat} {p2 : Int} {x : Nat} {n : Int} {W : Int → It} {xk : Nat} {xv : Nat} {Rk : Int → Int} {Rv : Int → Int} (ha : OB T a 6) (h_p1 : OB T p1 1) (t_p1 : (T p1).1 = 50) (h_p2 : -2147483648 ≤ p2 ∧ p2 ≤ 2147483647) (hw : WT T σ) (hx : σ.2.1 5 p1 = (x : Int)) (hn : σ.2.1 6 p1 = n) (hW : cW σ x n = W) (hxk : σ.2.1 52 a = (xk : Int)) (hxv : σ.2.1 53 a = (xv : Int)) (hRk : σ.2.1 (1000 + xk) = Rk) (hRv : σ.2.1 (1000 + xv) = Rv) (hN : n ≤ 200) (hne : xk ≠ x ∧ xv ≠ x ∧ xk ≠ xv) (hk : 0 ≤ p2 ∧ p2 < n) : Tn (d + 2) m_X6_foldOperands 0 T σ [(0, .ref a), (1, .ref p1), (2, .int (iI p2))] [] (fun ro T2 σ2 => ∃ v : Int, ro = some (.int (iI v)) ∧ T = T2 ∧ WT T2 σ2 ∧ FrC T [] σ σ2 ∧ (v = 0 ∨ v = 1) ∧ (CHX [] [x] [] σ σ2) ∧ (cW σ2 x n = uZ W p2 (foO (kn2 Rk Rv) (W p2) 4)) ∧ (v = 1 ↔ foC (kn2 Rk Rv) (W p2) 4)) := by
  refine tn_iconst dX6_foldOperands_0 ?_
  refine tn_istore_n (L' := [(3, .int (iI 0)), (0, .ref a), (1, .ref p1), (2, .int (iI p2))]) dX6_foldOperands_1 rfl (by decide) rfl ?_
  refine tn_iconst dX6_foldOperands_2 ?_
  refine tn_istore (L' := [(4, .int (iI 3)), (3, .int (iI 0)), (0, .ref a), (1, .ref p1), (2, .int (iI p2))]) dX6_foldOperands_3 (by decide) rfl ?_
  refine tn_sub [2, 3, 4, 1, 0] rfl (l_X6_foldOperands_x_5 (d) (T := T) (σ0 := σ) (a := a) (rx1 := p1) (c2 := p2) (x := x) (n := n) (W := W) (xk := xk) (xv := xv) (Rk := (Rk)) (Rv := (Rv)) ha h_p1 t_p1 (by omega) hw (by omega) (hx) (hn) (hxk) (hxv) hRk hRv hN hne (fun i31 i42 σ3 w6 F7 r8 r9 f10 f11 f12 f13 => ?_) _ (0) (3) σ hw FrC.rfl (by omega) (by omega) CHX.rfl (by rw [hW]; exact FOP.nil) (by omega) rfl)
  show Tn _ _ 88 T σ3 [(0, .ref a), (1, .ref p1), (2, .int (iI p2)), (3, .int (iI i31)), (4, .int (iI i42))] [] _
  refine tn_iload_n dX6_foldOperands_88 rfl 3 rfl ?_
  exact tn_zret (v := i31) rfl (by omega) dX6_foldOperands_89 ⟨_, rfl, rfl, w6, (FrC.rfl.trans (FrC.sub F7 (by decide))), by omega, (CHX.rfl.trans (CHX.sub f10 (by simp) (by simp) (by simp))), (f11.fin (by omega)).1, (f11.fin (by omega)).2⟩
end
section
set_option maxHeartbeats 1000000 in
set_option maxRecDepth 20000 in
theorem k_X6_foldAct_x (d : Nat) {T : CT} {σ : MS} {a : Nat} {p1 : Nat} {p2 : Int} {x : Nat} {n : Int} {W : Int → It} (ha : OB T a 6) (h_p1 : OB T p1 1) (t_p1 : (T p1).1 = 50) (h_p2 : -2147483648 ≤ p2 ∧ p2 ≤ 2147483647) (hw : WT T σ) (hx : σ.2.1 5 p1 = (x : Int)) (hn : σ.2.1 6 p1 = n) (hW : cW σ x n = W) (hN : n ≤ 200) (hk : 0 ≤ p2 ∧ p2 < n) : Tn (d + 3) m_X6_foldAct 0 T σ [(0, .ref a), (1, .ref p1), (2, .int (iI p2))] [] (fun ro T2 σ2 => ∃ v : Int, ro = some (.int (iI v)) ∧ T = T2 ∧ WT T2 σ2 ∧ FrC T [] σ σ2 ∧ (v = 0 ∨ v = 1) ∧ (CHX [] [x] [] σ σ2) ∧ (cW σ2 x n = uZ W p2 (faI (W p2))) ∧ (FAQ (W p2) v)) := by
  refine tn_aload_n dX6_foldAct_0 rfl 1 rfl ?_
  refine tn_iload_n dX6_foldAct_1 rfl 2 rfl ?_
  refine tn_iconst dX6_foldAct_2 ?_
  obtain ⟨hl4, hk3a, hk3b⟩ := cel_of (wf_5 hw h_p1) hx
  have hk3 : (T x).1 = 1 := hk3a (by omega)
  clear hk3a hk3b
  have hk3i : IA T x := by unfold IA; omega
  refine tn_callV (M := m_X6_foldAct) (pc := 3) (ix := 34) (ci := 1) (M' := m_X1_get) (As := [.int (iI p2), .int (iI 0)]) (rest := []) dX6_foldAct_3 ok_X1_get im_X1_get se_X1_get ml6_34 np_X1_get rfl rfl h_p1 rfl (Nat.le_of_ble_eq_true rfl) (Nat.le_of_ble_eq_true rfl) rfl (k_X1_get_x (d + 1) (T := T) (σ := σ) (a := p1) (k := p2) (c := 0) (x := x) (n := n) (W := W) h_p1 (by omega) (by decide) hw (hx) (hn) hW (by omega) (by omega)) (fun r5 T7 σ6 gt8 hp => ?_)
  obtain ⟨v11, rfl, rfl, rfl, f9, f10⟩ := hp
  clear gt8
  show Tn _ _ 6 T σ [(0, .ref a), (1, .ref p1), (2, .int (iI p2))] [.int (iI v11)] _
  refine tn_istore_n (L' := [(3, .int (iI v11)), (0, .ref a), (1, .ref p1), (2, .int (iI p2))]) dX6_foldAct_6 rfl (by decide) rfl ?_
  refine tn_aload_n dX6_foldAct_7 rfl 2 rfl ?_
  refine tn_iload_n dX6_foldAct_8 rfl 3 rfl ?_
  refine tn_iconst dX6_foldAct_9 ?_
  refine tn_callV (M := m_X6_foldAct) (pc := 10) (ix := 34) (ci := 1) (M' := m_X1_get) (As := [.int (iI p2), .int (iI 3)]) (rest := []) dX6_foldAct_10 ok_X1_get im_X1_get se_X1_get ml6_34 np_X1_get rfl rfl h_p1 rfl (Nat.le_of_ble_eq_true rfl) (Nat.le_of_ble_eq_true rfl) rfl (k_X1_get_x (d + 1) (T := T) (σ := σ) (a := p1) (k := p2) (c := 3) (x := x) (n := n) (W := W) h_p1 (by omega) (by decide) hw (hx) (hn) hW (by omega) (by omega)) (fun r12 T14 σ13 gt15 hp => ?_)
  obtain ⟨v18, rfl, rfl, rfl, f16, f17⟩ := hp
  clear gt15
  show Tn _ _ 13 T σ [(3, .int (iI v11)), (0, .ref a), (1, .ref p1), (2, .int (iI p2))] [.int (iI v18)] _
  refine tn_iconst dX6_foldAct_13 ?_
  refine tn_icmp_eq (tgt := 19) dX6_foldAct_14 (by decide) ⟨by omega, by omega⟩ ⟨by decide, by decide⟩ (fun h19 => ?_) (fun h19 => ?_)
  · refine tn_iload_n dX6_foldAct_19 rfl 0 rfl ?_
    refine tn_callSN (M := m_X6_foldAct) (pc := 20) (ix := 74) (M' := m_X11_isFive) (As := [.int (iI v11)]) (rest := []) dX6_foldAct_20 ok_X11_isFive stt_X11_isFive nl6_74 np_X11_isFive rfl (Nat.le_of_ble_eq_true rfl) (Nat.le_of_ble_eq_true rfl) rfl (k_X11_isFive_x (d + 1) (T := T) (σ := σ) (k := v11) (by omega) hw ) (fun r20 T22 σ21 gt23 hp => ?_)
    obtain ⟨v26, rfl, rfl, rfl, f24, f25⟩ := hp
    clear gt23
    show Tn _ _ 23 T σ [(3, .int (iI v11)), (0, .ref a), (1, .ref p1), (2, .int (iI p2))] [.int (iI v26)] _
    refine tn_if_eq (tgt := 61) dX6_foldAct_23 (by decide) ⟨by omega, by omega⟩ (fun h27 => ?_) (fun h27 => ?_)
    · refine tn_iload_n dX6_foldAct_61 rfl 0 rfl ?_
      refine tn_bipush dX6_foldAct_62 (by decide) ?_
      refine tn_icmp_ne (tgt := 93) dX6_foldAct_64 (by decide) ⟨by omega, by omega⟩ ⟨by decide, by decide⟩ (fun h28 => ?_) (fun h28 => ?_)
      · refine tn_iload_n dX6_foldAct_93 rfl 0 rfl ?_
        refine tn_bipush dX6_foldAct_94 (by decide) ?_
        refine tn_icmp_ne (tgt := 103) dX6_foldAct_96 (by decide) ⟨by omega, by omega⟩ ⟨by decide, by decide⟩ (fun h29 => ?_) (fun h29 => absurd h29 (by omega))
        refine tn_iconst dX6_foldAct_103 ?_
        exact tn_zret (v := 0) rfl (by decide) dX6_foldAct_104 ⟨_, rfl, rfl, hw, FrC.rfl, by omega, CHX.rfl, (by rw [hW]; exact fa_no (by omega) (by omega)), by unfold FAQ; omega⟩
      · refine tn_aload_n dX6_foldAct_67 rfl 2 rfl ?_
        refine tn_iload_n dX6_foldAct_68 rfl 3 rfl ?_
        refine tn_iconst dX6_foldAct_69 ?_
        refine tn_callV (M := m_X6_foldAct) (pc := 70) (ix := 34) (ci := 1) (M' := m_X1_get) (As := [.int (iI p2), .int (iI 4)]) (rest := []) dX6_foldAct_70 ok_X1_get im_X1_get se_X1_get ml6_34 np_X1_get rfl rfl h_p1 rfl (Nat.le_of_ble_eq_true rfl) (Nat.le_of_ble_eq_true rfl) rfl (k_X1_get_x (d + 1) (T := T) (σ := σ) (a := p1) (k := p2) (c := 4) (x := x) (n := n) (W := W) h_p1 (by omega) (by decide) hw (hx) (hn) hW (by omega) (by omega)) (fun r30 T32 σ31 gt33 hp => ?_)
        obtain ⟨v36, rfl, rfl, rfl, f34, f35⟩ := hp
        clear gt33
        show Tn _ _ 73 T σ [(3, .int (iI v11)), (0, .ref a), (1, .ref p1), (2, .int (iI p2))] [.int (iI v36)] _
        refine tn_if_ne (tgt := 93) dX6_foldAct_73 (by decide) ⟨by omega, by omega⟩ (fun h37 => ?_) (fun h37 => ?_)
        · refine tn_iload_n dX6_foldAct_93 rfl 0 rfl ?_
          refine tn_bipush dX6_foldAct_94 (by decide) ?_
          refine tn_icmp_ne (tgt := 103) dX6_foldAct_96 (by decide) ⟨by omega, by omega⟩ ⟨by decide, by decide⟩ (fun h38 => absurd h38 (by omega)) (fun h38 => ?_)
          refine tn_iconst dX6_foldAct_99 ?_
          refine tn_goto (tgt := 104) dX6_foldAct_100 (by decide) ?_
          exact tn_zret (v := 1) rfl (by decide) dX6_foldAct_104 ⟨_, rfl, rfl, hw, FrC.rfl, by omega, CHX.rfl, (by rw [hW]; exact fa_no (by omega) (by omega)), by unfold FAQ; omega⟩
        · refine tn_aload_n dX6_foldAct_76 rfl 2 rfl ?_
          refine tn_iload_n dX6_foldAct_77 rfl 3 rfl ?_
          refine tn_iconst dX6_foldAct_78 ?_
          refine tn_bipush dX6_foldAct_79 (by decide) ?_
          refine tn_callV (M := m_X6_foldAct) (pc := 81) (ix := 71) (ci := 1) (M' := m_X1_set) (As := [.int (iI p2), .int (iI 0), .int (iI 8)]) (rest := []) dX6_foldAct_81 ok_X1_set im_X1_set se_X1_set ml6_71 np_X1_set rfl rfl h_p1 rfl (Nat.le_of_ble_eq_true rfl) (Nat.le_of_ble_eq_true rfl) rfl (k_X1_set_x (d + 1) (T := T) (σ := σ) (a := p1) (k := p2) (c := 0) (y := 8) (x := x) (n := n) (W := W) h_p1 (by omega) (by decide) (by decide) hw (hx) (hn) hW (by omega) (by omega) (by omega) (by omega)) (fun r39 T41 σ40 gt42 hp => ?_)
          obtain ⟨rfl, rfl, w46, F47, f43, f44⟩ := hp
          clear gt42
          show Tn _ _ 84 T σ40 [(3, .int (iI v11)), (0, .ref a), (1, .ref p1), (2, .int (iI p2))] [] _
          refine tn_aload_n dX6_foldAct_84 rfl 2 rfl ?_
          refine tn_iload_n dX6_foldAct_85 rfl 3 rfl ?_
          refine tn_iconst dX6_foldAct_86 ?_
          refine tn_iconst dX6_foldAct_87 ?_
          refine tn_callV (M := m_X6_foldAct) (pc := 88) (ix := 71) (ci := 1) (M' := m_X1_set) (As := [.int (iI p2), .int (iI 3), .int (iI 0)]) (rest := []) dX6_foldAct_88 ok_X1_set im_X1_set se_X1_set ml6_71 np_X1_set rfl rfl h_p1 rfl (Nat.le_of_ble_eq_true rfl) (Nat.le_of_ble_eq_true rfl) rfl (k_X1_set_x (d + 1) (T := T) (σ := σ40) (a := p1) (k := p2) (c := 3) (y := 0) (x := x) (n := n) (W := cW σ40 x n) h_p1 (by omega) (by decide) (by decide) w46 (rc_F F47 (Or.inl (by decide)) (by decide) (hx)) (rc_F F47 (Or.inl (by decide)) (by decide) (hn)) rfl (by omega) (by omega) (by omega) (by omega)) (fun r48 T50 σ49 gt51 hp => ?_)
          obtain ⟨rfl, rfl, w55, F56, f52, f53⟩ := hp
          clear gt51
          show Tn _ _ 91 T σ49 [(3, .int (iI v11)), (0, .ref a), (1, .ref p1), (2, .int (iI p2))] [] _
          refine tn_iconst dX6_foldAct_91 ?_
          exact tn_zret (v := 1) rfl (by decide) dX6_foldAct_92 ⟨_, rfl, rfl, w55, ((FrC.rfl.trans (FrC.sub F47 (by decide))).trans (FrC.sub F56 (by decide))), by omega, ((CHX.rfl.trans (CHX.sub f43 (by simp) (by simp) (by simp))).trans (CHX.sub f52 (by simp) (by simp) (by simp))), (fa_zero (by omega) f44 f53), by unfold FAQ; omega⟩
    · refine tn_aload_n dX6_foldAct_26 rfl 2 rfl ?_
      refine tn_iload_n dX6_foldAct_27 rfl 3 rfl ?_
      refine tn_iconst dX6_foldAct_28 ?_
      refine tn_callV (M := m_X6_foldAct) (pc := 29) (ix := 34) (ci := 1) (M' := m_X1_get) (As := [.int (iI p2), .int (iI 5)]) (rest := []) dX6_foldAct_29 ok_X1_get im_X1_get se_X1_get ml6_34 np_X1_get rfl rfl h_p1 rfl (Nat.le_of_ble_eq_true rfl) (Nat.le_of_ble_eq_true rfl) rfl (k_X1_get_x (d + 1) (T := T) (σ := σ) (a := p1) (k := p2) (c := 5) (x := x) (n := n) (W := W) h_p1 (by omega) (by decide) hw (hx) (hn) hW (by omega) (by omega)) (fun r57 T59 σ58 gt60 hp => ?_)
      obtain ⟨v63, rfl, rfl, rfl, f61, f62⟩ := hp
      clear gt60
      show Tn _ _ 32 T σ [(3, .int (iI v11)), (0, .ref a), (1, .ref p1), (2, .int (iI p2))] [.int (iI v63)] _
      refine tn_iconst dX6_foldAct_32 ?_
      refine tn_icmp_ne (tgt := 61) dX6_foldAct_33 (by decide) ⟨by omega, by omega⟩ ⟨by decide, by decide⟩ (fun h64 => ?_) (fun h64 => ?_)
      · refine tn_iload_n dX6_foldAct_61 rfl 0 rfl ?_
        refine tn_bipush dX6_foldAct_62 (by decide) ?_
        refine tn_icmp_ne (tgt := 93) dX6_foldAct_64 (by decide) ⟨by omega, by omega⟩ ⟨by decide, by decide⟩ (fun h65 => ?_) (fun h65 => ?_)
        · refine tn_iload_n dX6_foldAct_93 rfl 0 rfl ?_
          refine tn_bipush dX6_foldAct_94 (by decide) ?_
          refine tn_icmp_ne (tgt := 103) dX6_foldAct_96 (by decide) ⟨by omega, by omega⟩ ⟨by decide, by decide⟩ (fun h66 => ?_) (fun h66 => absurd h66 (by omega))
          refine tn_iconst dX6_foldAct_103 ?_
          exact tn_zret (v := 0) rfl (by decide) dX6_foldAct_104 ⟨_, rfl, rfl, hw, FrC.rfl, by omega, CHX.rfl, (by rw [hW]; exact fa_no (by omega) (by omega)), by unfold FAQ; omega⟩
        · refine tn_aload_n dX6_foldAct_67 rfl 2 rfl ?_
          refine tn_iload_n dX6_foldAct_68 rfl 3 rfl ?_
          refine tn_iconst dX6_foldAct_69 ?_
          refine tn_callV (M := m_X6_foldAct) (pc := 70) (ix := 34) (ci := 1) (M' := m_X1_get) (As := [.int (iI p2), .int (iI 4)]) (rest := []) dX6_foldAct_70 ok_X1_get im_X1_get se_X1_get ml6_34 np_X1_get rfl rfl h_p1 rfl (Nat.le_of_ble_eq_true rfl) (Nat.le_of_ble_eq_true rfl) rfl (k_X1_get_x (d + 1) (T := T) (σ := σ) (a := p1) (k := p2) (c := 4) (x := x) (n := n) (W := W) h_p1 (by omega) (by decide) hw (hx) (hn) hW (by omega) (by omega)) (fun r67 T69 σ68 gt70 hp => ?_)
          obtain ⟨v73, rfl, rfl, rfl, f71, f72⟩ := hp
          clear gt70
          show Tn _ _ 73 T σ [(3, .int (iI v11)), (0, .ref a), (1, .ref p1), (2, .int (iI p2))] [.int (iI v73)] _
          refine tn_if_ne (tgt := 93) dX6_foldAct_73 (by decide) ⟨by omega, by omega⟩ (fun h74 => ?_) (fun h74 => ?_)
          · refine tn_iload_n dX6_foldAct_93 rfl 0 rfl ?_
            refine tn_bipush dX6_foldAct_94 (by decide) ?_
            refine tn_icmp_ne (tgt := 103) dX6_foldAct_96 (by decide) ⟨by omega, by omega⟩ ⟨by decide, by decide⟩ (fun h75 => absurd h75 (by omega)) (fun h75 => ?_)
            refine tn_iconst dX6_foldAct_99 ?_
            refine tn_goto (tgt := 104) dX6_foldAct_100 (by decide) ?_
            exact tn_zret (v := 1) rfl (by decide) dX6_foldAct_104 ⟨_, rfl, rfl, hw, FrC.rfl, by omega, CHX.rfl, (by rw [hW]; exact fa_no (by omega) (by omega)), by unfold FAQ; omega⟩
          · refine tn_aload_n dX6_foldAct_76 rfl 2 rfl ?_
            refine tn_iload_n dX6_foldAct_77 rfl 3 rfl ?_
            refine tn_iconst dX6_foldAct_78 ?_
            refine tn_bipush dX6_foldAct_79 (by decide) ?_
            refine tn_callV (M := m_X6_foldAct) (pc := 81) (ix := 71) (ci := 1) (M' := m_X1_set) (As := [.int (iI p2), .int (iI 0), .int (iI 8)]) (rest := []) dX6_foldAct_81 ok_X1_set im_X1_set se_X1_set ml6_71 np_X1_set rfl rfl h_p1 rfl (Nat.le_of_ble_eq_true rfl) (Nat.le_of_ble_eq_true rfl) rfl (k_X1_set_x (d + 1) (T := T) (σ := σ) (a := p1) (k := p2) (c := 0) (y := 8) (x := x) (n := n) (W := W) h_p1 (by omega) (by decide) (by decide) hw (hx) (hn) hW (by omega) (by omega) (by omega) (by omega)) (fun r76 T78 σ77 gt79 hp => ?_)
            obtain ⟨rfl, rfl, w83, F84, f80, f81⟩ := hp
            clear gt79
            show Tn _ _ 84 T σ77 [(3, .int (iI v11)), (0, .ref a), (1, .ref p1), (2, .int (iI p2))] [] _
            refine tn_aload_n dX6_foldAct_84 rfl 2 rfl ?_
            refine tn_iload_n dX6_foldAct_85 rfl 3 rfl ?_
            refine tn_iconst dX6_foldAct_86 ?_
            refine tn_iconst dX6_foldAct_87 ?_
            refine tn_callV (M := m_X6_foldAct) (pc := 88) (ix := 71) (ci := 1) (M' := m_X1_set) (As := [.int (iI p2), .int (iI 3), .int (iI 0)]) (rest := []) dX6_foldAct_88 ok_X1_set im_X1_set se_X1_set ml6_71 np_X1_set rfl rfl h_p1 rfl (Nat.le_of_ble_eq_true rfl) (Nat.le_of_ble_eq_true rfl) rfl (k_X1_set_x (d + 1) (T := T) (σ := σ77) (a := p1) (k := p2) (c := 3) (y := 0) (x := x) (n := n) (W := cW σ77 x n) h_p1 (by omega) (by decide) (by decide) w83 (rc_F F84 (Or.inl (by decide)) (by decide) (hx)) (rc_F F84 (Or.inl (by decide)) (by decide) (hn)) rfl (by omega) (by omega) (by omega) (by omega)) (fun r85 T87 σ86 gt88 hp => ?_)
            obtain ⟨rfl, rfl, w92, F93, f89, f90⟩ := hp
            clear gt88
            show Tn _ _ 91 T σ86 [(3, .int (iI v11)), (0, .ref a), (1, .ref p1), (2, .int (iI p2))] [] _
            refine tn_iconst dX6_foldAct_91 ?_
            exact tn_zret (v := 1) rfl (by decide) dX6_foldAct_92 ⟨_, rfl, rfl, w92, ((FrC.rfl.trans (FrC.sub F84 (by decide))).trans (FrC.sub F93 (by decide))), by omega, ((CHX.rfl.trans (CHX.sub f80 (by simp) (by simp) (by simp))).trans (CHX.sub f89 (by simp) (by simp) (by simp))), (fa_zero (by omega) f81 f90), by unfold FAQ; omega⟩
      · refine tn_aload_n dX6_foldAct_36 rfl 2 rfl ?_
        refine tn_iload_n dX6_foldAct_37 rfl 3 rfl ?_
        refine tn_iconst dX6_foldAct_38 ?_
        refine tn_iload_n dX6_foldAct_39 rfl 0 rfl ?_
        refine tn_aload_n dX6_foldAct_40 rfl 2 rfl ?_
        refine tn_iload_n dX6_foldAct_41 rfl 3 rfl ?_
        refine tn_iconst dX6_foldAct_42 ?_
        refine tn_callV (M := m_X6_foldAct) (pc := 43) (ix := 34) (ci := 1) (M' := m_X1_get) (As := [.int (iI p2), .int (iI 4)]) (rest := [.int (iI v11), .int (iI 1), .int (iI p2), .ref p1]) dX6_foldAct_43 ok_X1_get im_X1_get se_X1_get ml6_34 np_X1_get rfl rfl h_p1 rfl (Nat.le_of_ble_eq_true rfl) (Nat.le_of_ble_eq_true rfl) rfl (k_X1_get_x (d + 1) (T := T) (σ := σ) (a := p1) (k := p2) (c := 4) (x := x) (n := n) (W := W) h_p1 (by omega) (by decide) hw (hx) (hn) hW (by omega) (by omega)) (fun r94 T96 σ95 gt97 hp => ?_)
        obtain ⟨v100, rfl, rfl, rfl, f98, f99⟩ := hp
        clear gt97
        show Tn _ _ 46 T σ [(3, .int (iI v11)), (0, .ref a), (1, .ref p1), (2, .int (iI p2))] [.int (iI v100), .int (iI v11), .int (iI 1), .int (iI p2), .ref p1] _
        refine tn_aload_n dX6_foldAct_46 rfl 2 rfl ?_
        refine tn_iload_n dX6_foldAct_47 rfl 3 rfl ?_
        refine tn_bipush dX6_foldAct_48 (by decide) ?_
        refine tn_callV (M := m_X6_foldAct) (pc := 50) (ix := 34) (ci := 1) (M' := m_X1_get) (As := [.int (iI p2), .int (iI 6)]) (rest := [.int (iI v100), .int (iI v11), .int (iI 1), .int (iI p2), .ref p1]) dX6_foldAct_50 ok_X1_get im_X1_get se_X1_get ml6_34 np_X1_get rfl rfl h_p1 rfl (Nat.le_of_ble_eq_true rfl) (Nat.le_of_ble_eq_true rfl) rfl (k_X1_get_x (d + 1) (T := T) (σ := σ) (a := p1) (k := p2) (c := 6) (x := x) (n := n) (W := W) h_p1 (by omega) (by decide) hw (hx) (hn) hW (by omega) (by omega)) (fun r101 T103 σ102 gt104 hp => ?_)
        obtain ⟨v107, rfl, rfl, rfl, f105, f106⟩ := hp
        clear gt104
        show Tn _ _ 53 T σ [(3, .int (iI v11)), (0, .ref a), (1, .ref p1), (2, .int (iI p2))] [.int (iI v107), .int (iI v100), .int (iI v11), .int (iI 1), .int (iI p2), .ref p1] _
        refine tn_callSN (M := m_X6_foldAct) (pc := 53) (ix := 77) (M' := m_X11_reckon) (As := [.int (iI v11), .int (iI v100), .int (iI v107)]) (rest := [.int (iI 1), .int (iI p2), .ref p1]) dX6_foldAct_53 ok_X11_reckon stt_X11_reckon nl6_77 np_X11_reckon rfl (Nat.le_of_ble_eq_true rfl) (Nat.le_of_ble_eq_true rfl) rfl (k_X11_reckon_x (d + 1) (T := T) (σ := σ) (k := v11) (x := v100) (y := v107) (by omega) (by omega) (by omega) hw (by omega)) (fun r108 T110 σ109 gt111 hp => ?_)
        obtain ⟨v114, rfl, rfl, rfl, f112, f113⟩ := hp
        clear gt111
        show Tn _ _ 56 T σ [(3, .int (iI v11)), (0, .ref a), (1, .ref p1), (2, .int (iI p2))] [.int (iI v114), .int (iI 1), .int (iI p2), .ref p1] _
        refine tn_callV (M := m_X6_foldAct) (pc := 56) (ix := 81) (ci := 1) (M' := m_X1_becomeCopy) (As := [.int (iI p2), .int (iI 1), .int (iI v114)]) (rest := []) dX6_foldAct_56 ok_X1_becomeCopy im_X1_becomeCopy se_X1_becomeCopy ml6_81 np_X1_becomeCopy rfl rfl h_p1 rfl (Nat.le_of_ble_eq_true rfl) (Nat.le_of_ble_eq_true rfl) rfl (k_X1_becomeCopy_x (d) (T := T) (σ := σ) (a := p1) (k := p2) (y := 1) (z := v114) (x := x) (n := n) (W := W) h_p1 t_p1 (by omega) (by decide) (by omega) hw (hx) (hn) hW (by omega) (by omega)) (fun r115 T117 σ116 gt118 hp => ?_)
        obtain ⟨rfl, rfl, w122, F123, f119, f120⟩ := hp
        clear gt118
        show Tn _ _ 59 T σ116 [(3, .int (iI v11)), (0, .ref a), (1, .ref p1), (2, .int (iI p2))] [] _
        refine tn_iconst dX6_foldAct_59 ?_
        exact tn_zret (v := 1) rfl (by decide) dX6_foldAct_60 ⟨_, rfl, rfl, w122, (FrC.rfl.trans (FrC.sub F123 (by decide))), by omega, (CHX.rfl.trans (CHX.sub f119 (by simp) (by simp) (by simp))), (fa_five (by omega) f10 f99 f106 f113 f120), by unfold FAQ; omega⟩
  · refine tn_iconst dX6_foldAct_17 ?_
    exact tn_zret (v := 0) rfl (by decide) dX6_foldAct_18 ⟨_, rfl, rfl, hw, FrC.rfl, by omega, CHX.rfl, (by rw [hW]; exact fa_no (by omega) (by omega)), by unfold FAQ; omega⟩
end
section
set_option maxHeartbeats 1000000 in
set_option maxRecDepth 20000 in
theorem k_X6_goesOut_x (d : Nat) {T : CT} {σ : MS} {a : Nat} {p1 : Nat} {p2 : Int} {x : Nat} {n : Int} {W : Int → It} (ha : OB T a 6) (h_p1 : OB T p1 1) (t_p1 : (T p1).1 = 50) (h_p2 : -2147483648 ≤ p2 ∧ p2 ≤ 2147483647) (hw : WT T σ) (hx : σ.2.1 5 p1 = (x : Int)) (hn : σ.2.1 6 p1 = n) (hW : cW σ x n = W) (hN : n ≤ 200) : Tn (d + 2) m_X6_goesOut 0 T σ [(0, .ref a), (1, .ref p1), (2, .int (iI p2))] [] (fun ro T2 σ2 => ∃ v : Int, ro = some (.int (iI v)) ∧ T = T2 ∧ σ = σ2 ∧ (v = 0 ∨ v = 1) ∧ ((v = 1 ∧ W p2 0 = 9 ∧ W p2 3 = 1) ∨ (v = 0 ∧ ¬ (W p2 0 = 9 ∧ W p2 3 = 1)))) := by
  refine tn_aload_n dX6_goesOut_0 rfl 1 rfl ?_
  refine tn_iload_n dX6_goesOut_1 rfl 2 rfl ?_
  refine tn_iconst dX6_goesOut_2 ?_
  obtain ⟨hl4, hk3a, hk3b⟩ := cel_of (wf_5 hw h_p1) hx
  have hk3 : (T x).1 = 1 := hk3a (by omega)
  clear hk3a hk3b
  have hk3i : IA T x := by unfold IA; omega
  refine tn_callV (M := m_X6_goesOut) (pc := 3) (ix := 34) (ci := 1) (M' := m_X1_get) (As := [.int (iI p2), .int (iI 0)]) (rest := []) dX6_goesOut_3 ok_X1_get im_X1_get se_X1_get ml6_34 np_X1_get rfl rfl h_p1 rfl (Nat.le_of_ble_eq_true rfl) (Nat.le_of_ble_eq_true rfl) rfl (k_X1_get_x (d) (T := T) (σ := σ) (a := p1) (k := p2) (c := 0) (x := x) (n := n) (W := W) h_p1 (by omega) (by decide) hw (hx) (hn) hW (by omega) (by omega)) (fun r5 T7 σ6 gt8 hp => ?_)
  obtain ⟨v11, rfl, rfl, rfl, f9, f10⟩ := hp
  clear gt8
  show Tn _ _ 6 T σ [(0, .ref a), (1, .ref p1), (2, .int (iI p2))] [.int (iI v11)] _
  refine tn_bipush dX6_goesOut_6 (by decide) ?_
  refine tn_icmp_ne (tgt := 25) dX6_goesOut_8 (by decide) ⟨by omega, by omega⟩ ⟨by decide, by decide⟩ (fun h12 => ?_) (fun h12 => ?_)
  · refine tn_iconst dX6_goesOut_25 ?_
    exact tn_zret (v := 0) rfl (by decide) dX6_goesOut_26 ⟨_, rfl, rfl, rfl, by omega, by omega⟩
  · refine tn_aload_n dX6_goesOut_11 rfl 1 rfl ?_
    refine tn_iload_n dX6_goesOut_12 rfl 2 rfl ?_
    refine tn_iconst dX6_goesOut_13 ?_
    refine tn_callV (M := m_X6_goesOut) (pc := 14) (ix := 34) (ci := 1) (M' := m_X1_get) (As := [.int (iI p2), .int (iI 3)]) (rest := []) dX6_goesOut_14 ok_X1_get im_X1_get se_X1_get ml6_34 np_X1_get rfl rfl h_p1 rfl (Nat.le_of_ble_eq_true rfl) (Nat.le_of_ble_eq_true rfl) rfl (k_X1_get_x (d) (T := T) (σ := σ) (a := p1) (k := p2) (c := 3) (x := x) (n := n) (W := W) h_p1 (by omega) (by decide) hw (hx) (hn) hW (by omega) (by omega)) (fun r13 T15 σ14 gt16 hp => ?_)
    obtain ⟨v19, rfl, rfl, rfl, f17, f18⟩ := hp
    clear gt16
    show Tn _ _ 17 T σ [(0, .ref a), (1, .ref p1), (2, .int (iI p2))] [.int (iI v19)] _
    refine tn_iconst dX6_goesOut_17 ?_
    refine tn_icmp_ne (tgt := 25) dX6_goesOut_18 (by decide) ⟨by omega, by omega⟩ ⟨by decide, by decide⟩ (fun h20 => ?_) (fun h20 => ?_)
    · refine tn_iconst dX6_goesOut_25 ?_
      exact tn_zret (v := 0) rfl (by decide) dX6_goesOut_26 ⟨_, rfl, rfl, rfl, by omega, by omega⟩
    · refine tn_iconst dX6_goesOut_21 ?_
      refine tn_goto (tgt := 26) dX6_goesOut_22 (by decide) ?_
      exact tn_zret (v := 1) rfl (by decide) dX6_goesOut_26 ⟨_, rfl, rfl, rfl, by omega, by omega⟩
end
section
set_option maxHeartbeats 1000000 in
set_option maxRecDepth 20000 in
theorem l_X6_learn_x_24 (d : Nat) {T : CT} {σ0 : MS} {a : Nat} {rx1 : Nat} {c2 : Int} {c3 : Int} {R1 : Int → Int} {x : Nat} {n : Int} {W : Int → It} {xk : Nat} {xv : Nat} {Rk : Int → Int} {Rv : Int → Int} {post : Option Value → CT → MS → Prop} (h_a : OB T a 6) (h_rx1 : OB T rx1 1) (t_rx1 : (T rx1).1 = 50) (r_c2 : 0 ≤ c2 ∧ c2 ≤ 200) (r_c3 : -2147483648 ≤ c3 ∧ c3 ≤ 2147483647) (hw0 : WT T σ0) (hx : σ0.2.1 5 rx1 = (x : Int)) (hn : σ0.2.1 6 rx1 = n) (hW : cW σ0 x n = W) (hxk : σ0.2.1 52 a = (xk : Int)) (hxv : σ0.2.1 53 a = (xv : Int)) (hRv : σ0.2.1 (1000 + xv) = Rv) (hN : n ≤ 200) (hne : xk ≠ x ∧ xv ≠ x ∧ xk ≠ xv) (hx_72 : ∀ (i4 : Int) (σ : MS) , (WT T σ) → (FrC T [] σ0 σ) → (0 ≤ i4 ∧ i4 ≤ 192) → (CHX [] [xk] [] σ0 σ) → (LNW R1 Rv c3 i4 (σ.2.1 (1000 + xk))) → (192 ≤ i4) → Tn (d + 3) m_X6_learn 72 T σ [(0, .ref a), (1, .ref rx1), (2, .int (iI c2)), (3, .int (iI c3)), (4, .int (iI i4))] [] post) : ∀ (nq9 : Nat) (i4 : Int) (σ : MS) , (WT T σ) → (FrC T [] σ0 σ) → (0 ≤ i4 ∧ i4 ≤ 192) → (CHX [] [xk] [] σ0 σ) → (LNW R1 Rv c3 i4 (σ.2.1 (1000 + xk))) → (2147483700 - i4).toNat = nq9 → Tn (d + 3) m_X6_learn 24 T σ [(0, .ref a), (1, .ref rx1), (2, .int (iI c2)), (3, .int (iI c3)), (4, .int (iI i4))] [] post := by
  intro nq9
  induction nq9 using Nat.strongRecOn with
  | _ nq9 ih =>
    intro i4 σ hw hF r_i4 hC hL hm
    refine tn_iload dX6_learn_24 4 rfl ?_
    refine tn_aload_n dX6_learn_26 rfl 0 rfl ?_
    obtain ⟨hk3, hl4⟩ : AR T xk 1 192 192 := ar_of (wf_52 hw0 h_a) hxk
    have hk3i : IA T xk := by unfold IA; omega
    refine tn_getR (ci := 6) (i := 0) (n := 52) (x := xk) dX6_learn_27 rfl lay_6 (by decide) fl6_9 h_a rfl rfl (rc_F hF (Or.inl (by decide)) (by decide) (hxk)) ?_
    refine tn_alenX dX6_learn_30 (Or.inl hk3i) ?_
    refine tn_icmp_ge (tgt := 72) dX6_learn_31 (by decide) ⟨by omega, by omega⟩ ⟨by omega, by omega⟩ (fun h5 => ?_) (fun h5 => ?_)
    · exact tn_sub [0, 1, 2, 3, 4] rfl (hx_72 (i4) σ hw (FrC.rfl.trans (FrC.sub hF (by decide))) (by omega) hC hL (by omega))
    · refine tn_aload_n dX6_learn_34 rfl 0 rfl ?_
      refine tn_getR (ci := 6) (i := 0) (n := 52) (x := xk) dX6_learn_35 rfl lay_6 (by decide) fl6_9 h_a rfl rfl (rc_F hF (Or.inl (by decide)) (by decide) (hxk)) ?_
      refine tn_iload dX6_learn_38 4 rfl ?_
      refine tn_ialdX (z := i4) hw dX6_learn_40 hk3i (by omega) (by omega) (by omega) (fun v6 g7q g7 g7k => ?_)
      have g7u := g7q
      clear g7k g7q
      refine tn_iconst dX6_learn_41 ?_
      refine tn_icmp_ne (tgt := 66) dX6_learn_42 (by decide) ⟨by omega, by omega⟩ ⟨by decide, by decide⟩ (fun h8 => ?_) (fun h8 => ?_)
      · refine tn_iinc (q0 := 4) (L' := [(4, .int (iI (i4 + 1))), (0, .ref a), (1, .ref rx1), (2, .int (iI c2)), (3, .int (iI c3))]) dX6_learn_66 rfl (by decide) rfl ?_
        refine tn_goto (tgt := 24) dX6_learn_69 (by decide) ?_
        exact tn_sub [1, 2, 3, 4, 0] rfl (ih _ (by omega) (i4 + 1) σ hw (FrC.rfl.trans (FrC.sub hF (by decide))) (by omega) hC (hL.no (fun q => by omega)) rfl)
      · refine tn_aload_n dX6_learn_45 rfl 0 rfl ?_
        obtain ⟨hk11, hl12⟩ : AR T xv 1 192 192 := ar_of (wf_53 hw0 h_a) hxv
        have hk11i : IA T xv := by unfold IA; omega
        refine tn_getR (ci := 6) (i := 1) (n := 53) (x := xv) dX6_learn_46 rfl lay_6 (by decide) fl6_15 h_a rfl rfl (rc_F hF (Or.inl (by decide)) (by decide) (hxv)) ?_
        refine tn_iload dX6_learn_49 4 rfl ?_
        have cv13 : σ.2.1 (1000 + xv) = Rv := (CHX.r hC (by first | (simp; done) | (simp only [List.mem_cons, List.not_mem_nil, or_false, not_or]; omega))).trans (hRv)
        refine tn_callSN (M := m_X6_learn) (pc := 51) (ix := 63) (M' := m_X11_at) (As := [.ref xv, .int (iI i4)]) (rest := []) dX6_learn_51 ok_X11_at stt_X11_at nl6_63 np_X11_at rfl (Nat.le_of_ble_eq_true rfl) (Nat.le_of_ble_eq_true rfl) rfl (k_X11_at_x (d + 1) (T := T) (σ := σ) (x := xv) (i := i4) (R := Rv) hk11i (by omega) (by omega) hw cv13) (fun r14 T16 σ15 gt17 hp => ?_)
        obtain ⟨v21, rfl, rfl, rfl, f18, f19, f20⟩ := hp
        clear gt17
        clear f19
        have f20u := f20
        unfold ATQ at f20u
        show Tn _ _ 54 T σ [(0, .ref a), (1, .ref rx1), (2, .int (iI c2)), (3, .int (iI c3)), (4, .int (iI i4))] [.int (iI v21)] _
        refine tn_iload_n dX6_learn_54 rfl 3 rfl ?_
        refine tn_icmp_ne (tgt := 66) dX6_learn_55 (by decide) ⟨by omega, by omega⟩ ⟨by omega, by omega⟩ (fun h22 => ?_) (fun h22 => ?_)
        · refine tn_iinc (q0 := 4) (L' := [(4, .int (iI (i4 + 1))), (0, .ref a), (1, .ref rx1), (2, .int (iI c2)), (3, .int (iI c3))]) dX6_learn_66 rfl (by decide) rfl ?_
          refine tn_goto (tgt := 24) dX6_learn_69 (by decide) ?_
          exact tn_sub [1, 2, 3, 4, 0] rfl (ih _ (by omega) (i4 + 1) σ hw (FrC.rfl.trans (FrC.sub hF (by decide))) (by omega) hC (hL.no (fun q => by have z := f20; unfold ATQ at z; omega)) rfl)
        · refine tn_aload_n dX6_learn_58 rfl 0 rfl ?_
          refine tn_getR (ci := 6) (i := 0) (n := 52) (x := xk) dX6_learn_59 rfl lay_6 (by decide) fl6_9 h_a rfl rfl (rc_F hF (Or.inl (by decide)) (by decide) (hxk)) ?_
          refine tn_iload dX6_learn_62 4 rfl ?_
          refine tn_iconst dX6_learn_64 ?_
          refine tn_iast (z := i4) (v := 0) dX6_learn_65 hk3i (by omega) (by omega) (by omega) ?_
          refine tn_iinc (q0 := 4) (L' := [(4, .int (iI (i4 + 1))), (0, .ref a), (1, .ref rx1), (2, .int (iI c2)), (3, .int (iI c3))]) dX6_learn_66 rfl (by decide) rfl ?_
          refine tn_goto (tgt := 24) dX6_learn_69 (by decide) ?_
          exact tn_sub [1, 2, 3, 4, 0] rfl (ih _ (by omega) (i4 + 1) (sA (1000 + xk) (i4) (0) σ) (hw.arr (Or.inl hk3i) vok_0) ((FrC.rfl.trans (FrC.sub hF (by decide))).arr (hk_no (nh_k hk3 (by unfold HT; omega)))) (by omega) (hC.arr (by simp)) (hL.yes (by omega) (by omega) (by have z := f20; unfold ATQ at z; omega) row_put) rfl)
set_option maxHeartbeats 1000000 in
set_option maxRecDepth 20000 in
theorem k_X6_learn_x (d : Nat) {T : CT} {σ : MS} {a : Nat} {p1 : Nat} {p2 : Int} {x : Nat} {n : Int} {W : Int → It} {xk : Nat} {xv : Nat} {Rk : Int → Int} {Rv : Int → Int} (ha : OB T a 6) (h_p1 : OB T p1 1) (t_p1 : (T p1).1 = 50) (h_p2 : -2147483648 ≤ p2 ∧ p2 ≤ 2147483647) (hw : WT T σ) (hx : σ.2.1 5 p1 = (x : Int)) (hn : σ.2.1 6 p1 = n) (hW : cW σ x n = W) (hxk : σ.2.1 52 a = (xk : Int)) (hxv : σ.2.1 53 a = (xv : Int)) (hRk : σ.2.1 (1000 + xk) = Rk) (hRv : σ.2.1 (1000 + xv) = Rv) (hN : n ≤ 200) (hne : xk ≠ x ∧ xv ≠ x ∧ xk ≠ xv) (hk : 0 ≤ p2 ∧ p2 < n) (hio : iOK (W p2)) : Tn (d + 3) m_X6_learn 0 T σ [(0, .ref a), (1, .ref p1), (2, .int (iI p2))] [] (fun ro T2 σ2 => ro = none ∧ T = T2 ∧ WT T2 σ2 ∧ FrC T [] σ σ2 ∧ (CHX [] [xk, xv] [] σ σ2) ∧ (kn2 (σ2.2.1 (1000 + xk)) (σ2.2.1 (1000 + xv)) = lrn (W p2) (kn2 Rk Rv))) := by
  refine tn_aload_n dX6_learn_0 rfl 1 rfl ?_
  refine tn_iload_n dX6_learn_1 rfl 2 rfl ?_
  obtain ⟨hl4, hk3a, hk3b⟩ := cel_of (wf_5 hw h_p1) hx
  have hk3 : (T x).1 = 1 := hk3a (by omega)
  clear hk3a hk3b
  have hk3i : IA T x := by unfold IA; omega
  refine tn_callV (M := m_X6_learn) (pc := 2) (ix := 84) (ci := 1) (M' := m_X1_writtenBy) (As := [.int (iI p2)]) (rest := []) dX6_learn_2 ok_X1_writtenBy im_X1_writtenBy se_X1_writtenBy ml6_84 np_X1_writtenBy rfl rfl h_p1 rfl (Nat.le_of_ble_eq_true rfl) (Nat.le_of_ble_eq_true rfl) rfl (k_X1_writtenBy_x (d) (T := T) (σ := σ) (a := p1) (k := p2) (x := x) (n := n) (W := W) h_p1 (by omega) hw (hx) (hn) hW (by omega)) (fun r5 T7 σ6 gt8 hp => ?_)
  obtain ⟨v11, rfl, rfl, rfl, f9, f10⟩ := hp
  clear gt8
  show Tn _ _ 5 T σ [(0, .ref a), (1, .ref p1), (2, .int (iI p2))] [.int (iI v11)] _
  refine tn_istore_n (L' := [(3, .int (iI v11)), (0, .ref a), (1, .ref p1), (2, .int (iI p2))]) dX6_learn_5 rfl (by decide) rfl ?_
  refine tn_iload_n dX6_learn_6 rfl 0 rfl ?_
  refine tn_iconst dX6_learn_7 ?_
  refine tn_icmp_ne (tgt := 12) dX6_learn_8 (by decide) ⟨by omega, by omega⟩ ⟨by decide, by decide⟩ (fun h12 => ?_) (fun h12 => ?_)
  · refine tn_aload_n dX6_learn_12 rfl 1 rfl ?_
    obtain ⟨hk15, hl16⟩ : AR T xk 1 192 192 := ar_of (wf_52 hw ha) hxk
    have hk15i : IA T xk := by unfold IA; omega
    refine tn_getR (ci := 6) (i := 0) (n := 52) (x := xk) dX6_learn_13 rfl lay_6 (by decide) fl6_9 ha rfl rfl (hxk) ?_
    refine tn_iload_n dX6_learn_16 rfl 0 rfl ?_
    refine tn_iconst dX6_learn_17 ?_
    refine tn_callSN (M := m_X6_learn) (pc := 18) (ix := 88) (M' := m_X11_put) (As := [.ref xk, .int (iI v11), .int (iI 0)]) (rest := []) dX6_learn_18 ok_X11_put stt_X11_put nl6_88 np_X11_put rfl (Nat.le_of_ble_eq_true rfl) (Nat.le_of_ble_eq_true rfl) rfl (k_X11_put_x (d + 1) (T := T) (σ := σ) (x := xk) (i := v11) (y := 0) hk15i (by omega) (by omega) (by decide) hw (nh_k hk15 (by unfold HT; omega)) vok_0) (fun r17 T19 σ18 gt20 hp => ?_)
    obtain ⟨rfl, rfl, w24, F25, f21, f22⟩ := hp
    clear gt20
    show Tn _ _ 21 T σ18 [(3, .int (iI v11)), (0, .ref a), (1, .ref p1), (2, .int (iI p2))] [] _
    refine tn_iconst dX6_learn_21 ?_
    refine tn_istore (L' := [(4, .int (iI 0)), (3, .int (iI v11)), (0, .ref a), (1, .ref p1), (2, .int (iI p2))]) dX6_learn_22 (by decide) rfl ?_
    have cv26 : cW σ18 x n = W := (cW_row (CHX.r f21 (by first | (simp; done) | (simp only [List.mem_cons, List.not_mem_nil, or_false, not_or]; omega)))).trans (hW)
    have cv27 : σ18.2.1 (1000 + xv) = Rv := (CHX.r f21 (by first | (simp; done) | (simp only [List.mem_cons, List.not_mem_nil, or_false, not_or]; omega))).trans (hRv)
    refine tn_sub [2, 3, 4, 1, 0] rfl (l_X6_learn_x_24 (d) (T := T) (σ0 := σ18) (a := a) (rx1 := p1) (c2 := p2) (c3 := v11) (x := x) (n := n) (W := (W)) (xk := xk) (xv := xv) (Rk := Rk) (Rv := (Rv)) (R1 := (σ18.2.1 (1000 + xk))) ha h_p1 t_p1 (by omega) (by omega) w24 (rc_F F25 (Or.inl (by decide)) (by decide) (hx)) (rc_F F25 (Or.inl (by decide)) (by decide) (hn)) cv26 (rc_F F25 (Or.inl (by decide)) (by decide) (hxk)) (rc_F F25 (Or.inl (by decide)) (by decide) (hxv)) cv27 hN hne (fun i428 σ29 w32 F33 r34 f35 f36 f37 => ?_) _ (0) σ18 w24 FrC.rfl (by omega) CHX.rfl LNW.nil rfl)
    show Tn _ _ 72 T σ29 [(0, .ref a), (1, .ref p1), (2, .int (iI p2)), (3, .int (iI v11)), (4, .int (iI i428))] [] _
    refine tn_aload_n dX6_learn_72 rfl 1 rfl ?_
    refine tn_iload_n dX6_learn_73 rfl 2 rfl ?_
    refine tn_iconst dX6_learn_74 ?_
    have cv38 : cW σ29 x n = W := (cW_row (CHX.r f35 (by first | (simp; done) | (simp only [List.mem_cons, List.not_mem_nil, or_false, not_or]; omega)))).trans (cv26)
    refine tn_callV (M := m_X6_learn) (pc := 75) (ix := 34) (ci := 1) (M' := m_X1_get) (As := [.int (iI p2), .int (iI 3)]) (rest := []) dX6_learn_75 ok_X1_get im_X1_get se_X1_get ml6_34 np_X1_get rfl rfl h_p1 rfl (Nat.le_of_ble_eq_true rfl) (Nat.le_of_ble_eq_true rfl) rfl (k_X1_get_x (d + 1) (T := T) (σ := σ29) (a := p1) (k := p2) (c := 3) (x := x) (n := n) (W := W) h_p1 (by omega) (by decide) w32 (rc_F F33 (Or.inl (by decide)) (by decide) (rc_F F25 (Or.inl (by decide)) (by decide) (hx))) (rc_F F33 (Or.inl (by decide)) (by decide) (rc_F F25 (Or.inl (by decide)) (by decide) (hn))) cv38 (by omega) (by omega)) (fun r39 T41 σ40 gt42 hp => ?_)
    obtain ⟨v45, rfl, rfl, rfl, f43, f44⟩ := hp
    clear gt42
    show Tn _ _ 78 T σ29 [(0, .ref a), (1, .ref p1), (2, .int (iI p2)), (3, .int (iI v11)), (4, .int (iI i428))] [.int (iI v45)] _
    refine tn_istore (L' := [(4, .int (iI v45)), (0, .ref a), (1, .ref p1), (2, .int (iI p2)), (3, .int (iI v11))]) dX6_learn_78 (by decide) rfl ?_
    refine tn_aload_n dX6_learn_80 rfl 2 rfl ?_
    refine tn_iload_n dX6_learn_81 rfl 3 rfl ?_
    refine tn_iconst dX6_learn_82 ?_
    refine tn_callV (M := m_X6_learn) (pc := 83) (ix := 34) (ci := 1) (M' := m_X1_get) (As := [.int (iI p2), .int (iI 4)]) (rest := []) dX6_learn_83 ok_X1_get im_X1_get se_X1_get ml6_34 np_X1_get rfl rfl h_p1 rfl (Nat.le_of_ble_eq_true rfl) (Nat.le_of_ble_eq_true rfl) rfl (k_X1_get_x (d + 1) (T := T) (σ := σ29) (a := p1) (k := p2) (c := 4) (x := x) (n := n) (W := W) h_p1 (by omega) (by decide) w32 (rc_F F33 (Or.inl (by decide)) (by decide) (rc_F F25 (Or.inl (by decide)) (by decide) (hx))) (rc_F F33 (Or.inl (by decide)) (by decide) (rc_F F25 (Or.inl (by decide)) (by decide) (hn))) cv38 (by omega) (by omega)) (fun r46 T48 σ47 gt49 hp => ?_)
    obtain ⟨v52, rfl, rfl, rfl, f50, f51⟩ := hp
    clear gt49
    show Tn _ _ 86 T σ29 [(4, .int (iI v45)), (0, .ref a), (1, .ref p1), (2, .int (iI p2)), (3, .int (iI v11))] [.int (iI v52)] _
    refine tn_istore (L' := [(5, .int (iI v52)), (4, .int (iI v45)), (0, .ref a), (1, .ref p1), (2, .int (iI p2)), (3, .int (iI v11))]) dX6_learn_86 (by decide) rfl ?_
    refine tn_aload_n dX6_learn_88 rfl 3 rfl ?_
    refine tn_iload_n dX6_learn_89 rfl 4 rfl ?_
    refine tn_iconst dX6_learn_90 ?_
    refine tn_callV (M := m_X6_learn) (pc := 91) (ix := 34) (ci := 1) (M' := m_X1_get) (As := [.int (iI p2), .int (iI 0)]) (rest := []) dX6_learn_91 ok_X1_get im_X1_get se_X1_get ml6_34 np_X1_get rfl rfl h_p1 rfl (Nat.le_of_ble_eq_true rfl) (Nat.le_of_ble_eq_true rfl) rfl (k_X1_get_x (d + 1) (T := T) (σ := σ29) (a := p1) (k := p2) (c := 0) (x := x) (n := n) (W := W) h_p1 (by omega) (by decide) w32 (rc_F F33 (Or.inl (by decide)) (by decide) (rc_F F25 (Or.inl (by decide)) (by decide) (hx))) (rc_F F33 (Or.inl (by decide)) (by decide) (rc_F F25 (Or.inl (by decide)) (by decide) (hn))) cv38 (by omega) (by omega)) (fun r53 T55 σ54 gt56 hp => ?_)
    obtain ⟨v59, rfl, rfl, rfl, f57, f58⟩ := hp
    clear gt56
    show Tn _ _ 94 T σ29 [(5, .int (iI v52)), (4, .int (iI v45)), (0, .ref a), (1, .ref p1), (2, .int (iI p2)), (3, .int (iI v11))] [.int (iI v59)] _
    refine tn_if_ne (tgt := 129) dX6_learn_94 (by decide) ⟨by omega, by omega⟩ (fun h60 => ?_) (fun h60 => ?_)
    · have cv61 : σ29.2.1 (1000 + xv) = Rv := (CHX.r f35 (by first | (simp; done) | (simp only [List.mem_cons, List.not_mem_nil, or_false, not_or]; omega))).trans (cv27)
      exact tn_vret rfl dX6_learn_129 ⟨rfl, rfl, w32, ((FrC.rfl.trans (FrC.sub F25 (by decide))).trans (FrC.sub F33 (by decide))), ((CHX.rfl.trans (CHX.sub f21 (by simp) (by simp) (by simp))).trans (CHX.sub f35 (by simp) (by simp) (by simp))), (by rw [cv61]; exact ln_0 (by have z := f10; unfold WBQ at z; have z2 := hio.2.1; omega) (by have z := f10; unfold WBQ at z; have z2 := hio.1; omega) (by rw [ptf_row f22 (by have z := f10; unfold WBQ at z; have z2 := hio.2.1; omega), hRk]) f36 (by omega) (by omega))⟩
    · refine tn_iload dX6_learn_97 1 rfl ?_
      refine tn_iconst dX6_learn_99 ?_
      refine tn_icmp_ne (tgt := 109) dX6_learn_100 (by decide) ⟨by omega, by omega⟩ ⟨by decide, by decide⟩ (fun h62 => ?_) (fun h62 => ?_)
      · refine tn_aload_n dX6_learn_109 rfl 2 rfl ?_
        refine tn_getR (ci := 6) (i := 0) (n := 52) (x := xk) dX6_learn_110 rfl lay_6 (by decide) fl6_9 ha rfl rfl (rc_F F33 (Or.inl (by decide)) (by decide) (rc_F F25 (Or.inl (by decide)) (by decide) (hxk))) ?_
        refine tn_iload_n dX6_learn_113 rfl 5 rfl ?_
        refine tn_iload dX6_learn_114 1 rfl ?_
        refine tn_callSN (M := m_X6_learn) (pc := 116) (ix := 88) (M' := m_X11_put) (As := [.ref xk, .int (iI v11), .int (iI v45)]) (rest := []) dX6_learn_116 ok_X11_put stt_X11_put nl6_88 np_X11_put rfl (Nat.le_of_ble_eq_true rfl) (Nat.le_of_ble_eq_true rfl) rfl (k_X11_put_x (d + 1) (T := T) (σ := σ29) (x := xk) (i := v11) (y := v45) hk15i (by omega) (by omega) (by omega) w32 (nh_k hk15 (by unfold HT; omega)) (vok_1 (by have q9 := hk15; omega) (by omega))) (fun r63 T65 σ64 gt66 hp => ?_)
        obtain ⟨rfl, rfl, w70, F71, f67, f68⟩ := hp
        clear gt66
        show Tn _ _ 119 T σ64 [(5, .int (iI v52)), (4, .int (iI v45)), (0, .ref a), (1, .ref p1), (2, .int (iI p2)), (3, .int (iI v11))] [] _
        have cv72 : σ64.2.1 (1000 + xv) = Rv := (CHX.r f67 (by first | (simp; done) | (simp only [List.mem_cons, List.not_mem_nil, or_false, not_or]; omega))).trans ((CHX.r f35 (by first | (simp; done) | (simp only [List.mem_cons, List.not_mem_nil, or_false, not_or]; omega))).trans (cv27))
        refine tn_aload_n dX6_learn_119 rfl 2 rfl ?_
        obtain ⟨hk75, hl76⟩ : AR T xv 1 192 192 := ar_of (wf_53 hw ha) hxv
        have hk75i : IA T xv := by unfold IA; omega
        refine tn_getR (ci := 6) (i := 1) (n := 53) (x := xv) dX6_learn_120 rfl lay_6 (by decide) fl6_15 ha rfl rfl (rc_F F71 (Or.inl (by decide)) (by decide) (rc_F F33 (Or.inl (by decide)) (by decide) (rc_F F25 (Or.inl (by decide)) (by decide) (hxv)))) ?_
        refine tn_iload_n dX6_learn_123 rfl 5 rfl ?_
        refine tn_iload dX6_learn_124 0 rfl ?_
        refine tn_callSN (M := m_X6_learn) (pc := 126) (ix := 88) (M' := m_X11_put) (As := [.ref xv, .int (iI v11), .int (iI v52)]) (rest := []) dX6_learn_126 ok_X11_put stt_X11_put nl6_88 np_X11_put rfl (Nat.le_of_ble_eq_true rfl) (Nat.le_of_ble_eq_true rfl) rfl (k_X11_put_x (d + 1) (T := T) (σ := σ64) (x := xv) (i := v11) (y := v52) hk75i (by omega) (by omega) (by omega) w70 (nh_k hk75 (by unfold HT; omega)) (vok_1 (by have q9 := hk75; omega) (by omega))) (fun r77 T79 σ78 gt80 hp => ?_)
        obtain ⟨rfl, rfl, w84, F85, f81, f82⟩ := hp
        clear gt80
        show Tn _ _ 129 T σ78 [(5, .int (iI v52)), (4, .int (iI v45)), (0, .ref a), (1, .ref p1), (2, .int (iI p2)), (3, .int (iI v11))] [] _
        have cv86 : σ78.2.1 (1000 + xk) = σ64.2.1 (1000 + xk) := (CHX.r f81 (by first | (simp; done) | (simp only [List.mem_cons, List.not_mem_nil, or_false, not_or]; omega))).trans (rfl)
        exact tn_vret rfl dX6_learn_129 ⟨rfl, rfl, w84, ((((FrC.rfl.trans (FrC.sub F25 (by decide))).trans (FrC.sub F33 (by decide))).trans (FrC.sub F71 (by decide))).trans (FrC.sub F85 (by decide))), ((((CHX.rfl.trans (CHX.sub f21 (by simp) (by simp) (by simp))).trans (CHX.sub f35 (by simp) (by simp) (by simp))).trans (CHX.sub f67 (by simp) (by simp) (by simp))).trans (CHX.sub f81 (by simp) (by simp) (by simp))), (ln_1 (by have z := f10; unfold WBQ at z; have z2 := hio.2.1; omega) (by omega) (by rw [ptf_row f22 (by have z := f10; unfold WBQ at z; have z2 := hio.2.1; omega), hRk]) f36 (by omega) (by omega) (by rw [cv86]; rw [ptf_row f68 (by have z := f10; unfold WBQ at z; have z2 := hio.2.1; omega), f44]) (by rw [ptf_row f82 (by have z := f10; unfold WBQ at z; have z2 := hio.2.1; omega), cv72, f51]))⟩
      · refine tn_iload dX6_learn_103 0 rfl ?_
        refine tn_iload_n dX6_learn_105 rfl 5 rfl ?_
        refine tn_icmp_eq (tgt := 129) dX6_learn_106 (by decide) ⟨by omega, by omega⟩ ⟨by omega, by omega⟩ (fun h87 => ?_) (fun h87 => ?_)
        · have cv88 : σ29.2.1 (1000 + xv) = Rv := (CHX.r f35 (by first | (simp; done) | (simp only [List.mem_cons, List.not_mem_nil, or_false, not_or]; omega))).trans (cv27)
          exact tn_vret rfl dX6_learn_129 ⟨rfl, rfl, w32, ((FrC.rfl.trans (FrC.sub F25 (by decide))).trans (FrC.sub F33 (by decide))), ((CHX.rfl.trans (CHX.sub f21 (by simp) (by simp) (by simp))).trans (CHX.sub f35 (by simp) (by simp) (by simp))), (by rw [cv88]; exact ln_0 (by have z := f10; unfold WBQ at z; have z2 := hio.2.1; omega) (by have z := f10; unfold WBQ at z; have z2 := hio.1; omega) (by rw [ptf_row f22 (by have z := f10; unfold WBQ at z; have z2 := hio.2.1; omega), hRk]) f36 (by omega) (by omega))⟩
        · refine tn_aload_n dX6_learn_109 rfl 2 rfl ?_
          refine tn_getR (ci := 6) (i := 0) (n := 52) (x := xk) dX6_learn_110 rfl lay_6 (by decide) fl6_9 ha rfl rfl (rc_F F33 (Or.inl (by decide)) (by decide) (rc_F F25 (Or.inl (by decide)) (by decide) (hxk))) ?_
          refine tn_iload_n dX6_learn_113 rfl 5 rfl ?_
          refine tn_iload dX6_learn_114 1 rfl ?_
          refine tn_callSN (M := m_X6_learn) (pc := 116) (ix := 88) (M' := m_X11_put) (As := [.ref xk, .int (iI v11), .int (iI v45)]) (rest := []) dX6_learn_116 ok_X11_put stt_X11_put nl6_88 np_X11_put rfl (Nat.le_of_ble_eq_true rfl) (Nat.le_of_ble_eq_true rfl) rfl (k_X11_put_x (d + 1) (T := T) (σ := σ29) (x := xk) (i := v11) (y := v45) hk15i (by omega) (by omega) (by omega) w32 (nh_k hk15 (by unfold HT; omega)) (vok_1 (by have q9 := hk15; omega) (by omega))) (fun r89 T91 σ90 gt92 hp => ?_)
          obtain ⟨rfl, rfl, w96, F97, f93, f94⟩ := hp
          clear gt92
          show Tn _ _ 119 T σ90 [(5, .int (iI v52)), (4, .int (iI v45)), (0, .ref a), (1, .ref p1), (2, .int (iI p2)), (3, .int (iI v11))] [] _
          have cv98 : σ90.2.1 (1000 + xv) = Rv := (CHX.r f93 (by first | (simp; done) | (simp only [List.mem_cons, List.not_mem_nil, or_false, not_or]; omega))).trans ((CHX.r f35 (by first | (simp; done) | (simp only [List.mem_cons, List.not_mem_nil, or_false, not_or]; omega))).trans (cv27))
          refine tn_aload_n dX6_learn_119 rfl 2 rfl ?_
          obtain ⟨hk101, hl102⟩ : AR T xv 1 192 192 := ar_of (wf_53 hw ha) hxv
          have hk101i : IA T xv := by unfold IA; omega
          refine tn_getR (ci := 6) (i := 1) (n := 53) (x := xv) dX6_learn_120 rfl lay_6 (by decide) fl6_15 ha rfl rfl (rc_F F97 (Or.inl (by decide)) (by decide) (rc_F F33 (Or.inl (by decide)) (by decide) (rc_F F25 (Or.inl (by decide)) (by decide) (hxv)))) ?_
          refine tn_iload_n dX6_learn_123 rfl 5 rfl ?_
          refine tn_iload dX6_learn_124 0 rfl ?_
          refine tn_callSN (M := m_X6_learn) (pc := 126) (ix := 88) (M' := m_X11_put) (As := [.ref xv, .int (iI v11), .int (iI v52)]) (rest := []) dX6_learn_126 ok_X11_put stt_X11_put nl6_88 np_X11_put rfl (Nat.le_of_ble_eq_true rfl) (Nat.le_of_ble_eq_true rfl) rfl (k_X11_put_x (d + 1) (T := T) (σ := σ90) (x := xv) (i := v11) (y := v52) hk101i (by omega) (by omega) (by omega) w96 (nh_k hk101 (by unfold HT; omega)) (vok_1 (by have q9 := hk101; omega) (by omega))) (fun r103 T105 σ104 gt106 hp => ?_)
          obtain ⟨rfl, rfl, w110, F111, f107, f108⟩ := hp
          clear gt106
          show Tn _ _ 129 T σ104 [(5, .int (iI v52)), (4, .int (iI v45)), (0, .ref a), (1, .ref p1), (2, .int (iI p2)), (3, .int (iI v11))] [] _
          have cv112 : σ104.2.1 (1000 + xk) = σ90.2.1 (1000 + xk) := (CHX.r f107 (by first | (simp; done) | (simp only [List.mem_cons, List.not_mem_nil, or_false, not_or]; omega))).trans (rfl)
          exact tn_vret rfl dX6_learn_129 ⟨rfl, rfl, w110, ((((FrC.rfl.trans (FrC.sub F25 (by decide))).trans (FrC.sub F33 (by decide))).trans (FrC.sub F97 (by decide))).trans (FrC.sub F111 (by decide))), ((((CHX.rfl.trans (CHX.sub f21 (by simp) (by simp) (by simp))).trans (CHX.sub f35 (by simp) (by simp) (by simp))).trans (CHX.sub f93 (by simp) (by simp) (by simp))).trans (CHX.sub f107 (by simp) (by simp) (by simp))), (ln_1 (by have z := f10; unfold WBQ at z; have z2 := hio.2.1; omega) (by omega) (by rw [ptf_row f22 (by have z := f10; unfold WBQ at z; have z2 := hio.2.1; omega), hRk]) f36 (by omega) (by omega) (by rw [cv112]; rw [ptf_row f94 (by have z := f10; unfold WBQ at z; have z2 := hio.2.1; omega), f44]) (by rw [ptf_row f108 (by have z := f10; unfold WBQ at z; have z2 := hio.2.1; omega), cv98, f51]))⟩
  · exact tn_vret rfl dX6_learn_11 ⟨rfl, rfl, hw, FrC.rfl, CHX.rfl, (by rw [hRk, hRv]; exact lrn_no2 (by have z := f10; unfold WBQ at z; have z2 := (hio).1; have z3 := hio.2.1; omega))⟩
end
