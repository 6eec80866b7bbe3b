/-! what stays between feeds and reads -/
def K4 (σ σ2 : MS) (a : Nat) : Prop := (σ2.2.1 95 (a : Int) = σ.2.1 95 a ∧ σ2.2.1 97 (a : Int) = σ.2.1 97 a ∧ σ2.2.1 104 (a : Int) = σ.2.1 104 a ∧ σ2.2.1 105 (a : Int) = σ.2.1 105 a) ∧ ∀ x : Nat, σ.2.1 95 a = (x : Int) → σ2.2.1 (1000 + x) = σ.2.1 (1000 + x)
theorem K4.rfl {σ : MS} {a : Nat} : K4 σ σ a := ⟨⟨Eq.refl _, Eq.refl _, Eq.refl _, Eq.refl _⟩, fun _ _ => Eq.refl _⟩
theorem K4.of {T : CT} {σ σ2 : MS} {a : Nat} {ks : List Nat} (f : FrC T ks σ σ2) (hw : WT T σ) (ha : OB T a 11) (h : ∀ k ∈ [95, 97, 104, 105, 502], k ∉ ks) : K4 σ σ2 a := by
  refine ⟨⟨by rw [f.1 95 (by decide) (h 95 (by decide))], by rw [f.1 97 (by decide) (h 97 (by decide))], by rw [f.1 104 (by decide) (h 104 (by decide))], by rw [f.1 105 (by decide) (h 105 (by decide))]⟩, fun x hx => ?_⟩
  obtain ⟨y, hy, ky⟩ := wf_95 hw ha
  have e : x = y := by omega
  rw [e]
  have k2 : (T y).1 = 2 := ky.1
  exact f.2 y (by rw [k2]; exact Or.inl (Eq.refl _)) (by rw [k2]; exact h 502 (by decide))
theorem K4.trans {σ σ1 σ2 : MS} {a : Nat} (h : K4 σ σ1 a) (g : K4 σ1 σ2 a) : K4 σ σ2 a := ⟨⟨g.1.1.trans h.1.1, g.1.2.1.trans h.1.2.1, g.1.2.2.1.trans h.1.2.2.1, g.1.2.2.2.trans h.1.2.2.2⟩, fun x hx => (g.2 x (h.1.1.trans hx)).trans (h.2 x hx)⟩
def K4m (τ τ2 : MS) : Prop := τ2.2.1 1 = τ.2.1 1 ∧ τ2.1 10 = τ.1 10 ∧ τ2.1 26 = τ.1 26 ∧ τ2.1 27 = τ.1 27
theorem K4m.of {ss ks js : List Nat} {τ τ2 : MS} (f : Fr ss ks js τ τ2) (hs : ∀ k ∈ [10, 26, 27], k ∉ ss) (hk : 1 ∉ ks) : K4m τ τ2 := ⟨f.2.1 1 hk, f.1 10 (hs 10 (by decide)), f.1 26 (hs 26 (by decide)), f.1 27 (hs 27 (by decide))⟩
/-- both keepers: tapes alike, as many routines -/
def L4 (σ τ : MS) (a : Nat) : Prop := (∀ x : Nat, σ.2.1 95 a = (x : Int) → TAL (σ.2.1 (1000 + x)) (τ.2.1 1) (σ.2.1 96 a)) ∧ σ.2.1 97 a = τ.1 10 ∧ σ.2.1 104 a = τ.1 26 ∧ σ.2.1 105 a = τ.1 27
theorem L4.keep {σ τ σ2 τ2 : MS} {a : Nat} (h : L4 σ τ a) (hx : K4 σ σ2 a) (hm : K4m τ τ2) (h96 : σ2.2.1 96 a ≤ σ.2.1 96 a) : L4 σ2 τ2 a := by
  refine ⟨fun x q => ?_, by rw [hx.1.2.1, hm.2.1]; exact h.2.1, by rw [hx.1.2.2.1, hm.2.2.1]; exact h.2.2.1, by rw [hx.1.2.2.2, hm.2.2.2]; exact h.2.2.2⟩
  have q2 : σ.2.1 95 a = (x : Int) := hx.1.1.symm.trans q
  rw [hx.2 x q2, hm.1]
  exact (h.1 x q2).sub h96
theorem L4.feed {σ τ σ2 τ2 : MS} {a : Nat} {p q r s t : Int} (h : L4 σ τ a) (e : σ2.2.1 95 (a : Int) = σ.2.1 95 a ∧ σ2.2.1 97 (a : Int) = σ.2.1 97 a ∧ σ2.2.1 104 (a : Int) = σ.2.1 104 a ∧ σ2.2.1 105 (a : Int) = σ.2.1 105 a) (hf : FWQ σ σ2 a p q r s t) (e96 : σ.2.1 96 a = τ.1 2) (h1 : τ.1 2 ≤ 1180 → σ2.2.1 96 a = σ.2.1 96 a + 20 ∧ τ2.2.1 1 = w20 (τ.2.1 1) (τ.1 2) p q r s t) (h2 : 1180 < τ.1 2 → σ2.2.1 96 a = σ.2.1 96 a ∧ τ2.2.1 1 = τ.2.1 1) (em : τ2.1 10 = τ.1 10 ∧ τ2.1 26 = τ.1 26 ∧ τ2.1 27 = τ.1 27) : L4 σ2 τ2 a := by
  refine ⟨fun x g => ?_, by rw [e.2.1, em.1]; exact h.2.1, by rw [e.2.2.1, em.2.1]; exact h.2.2.1, by rw [e.2.2.2, em.2.2]; exact h.2.2.2⟩
  have g2 : σ.2.1 95 a = (x : Int) := e.1.symm.trans g
  have h0 := h.1 x g2
  by_cases c : τ.1 2 ≤ 1180
  · obtain ⟨y1, y2⟩ := h1 c
    rw [(hf x g2).1 (by omega), y1, y2, ← e96]
    exact h0.w20
  · obtain ⟨y1, y2⟩ := h2 (by omega)
    rw [(hf x g2).2 (by omega), y1, y2]
    exact h0
theorem L4.read {σ2 τ2 : MS} {a : Nat} (h96 : σ2.2.1 96 a = 0) (h97 : σ2.2.1 97 a = τ2.1 10) (h4 : σ2.2.1 104 a = τ2.1 26) (h5 : σ2.2.1 105 a = τ2.1 27) : L4 σ2 τ2 a := ⟨fun x g => fun k k0 k1 => absurd k1 (by omega), h97, h4, h5⟩
/-! what stays of the codes -/
theorem K4.prq {T T2 : CT} {σ σ2 : MS} {a : Nat} (q : PRQ T σ T2 σ2 a) (hw : WT T σ) (ha : OB T a 11) : K4 σ σ2 a := by
  have na : (T a).1 ≠ 0 := by have := ha.1; omega
  have k : ∀ f : Nat, f < 200 → f ≠ 110 → σ2.2.1 f (a : Int) = σ.2.1 f a := fun f h1 h2 => q.1 f a h1 na (fun z => h2 z.1)
  refine ⟨⟨k 95 (by decide) (by decide), k 97 (by decide) (by decide), k 104 (by decide) (by decide), k 105 (by decide) (by decide)⟩, fun x hx => ?_⟩
  obtain ⟨y, hy, ky⟩ := wf_95 hw ha
  have e : x = y := by omega
  have k2 : (T y).1 = 2 := ky.1
  rw [e]
  exact q.2.1 y (by rw [k2]; decide)
/-- a quiet call: all that the law keeps stays, all codes are as they were -/
def Q6 (σ : MS) (T2 : CT) (σ2 : MS) (a : Nat) (C E M : Int → Nat) : Prop := ∃ S2, KB6 S2 T2 σ2 a C E M ∧ ∀ r, 0 ≤ r → r < 6 → CSM σ σ2 (C r)
def K6m (τ τ2 : MS) : Prop := (∀ j, rS τ2 j = rS τ j) ∧ τ2.2.1 11 = τ.2.1 11 ∧ τ2.2.1 12 = τ.2.1 12 ∧ τ2.2.1 13 = τ.2.1 13
theorem K6m.of {ss ks js : List Nat} {τ τ2 : MS} (f : Fr ss ks js τ τ2) (hk : ∀ k ∈ [3, 4, 5, 6, 7, 8, 9, 11, 12, 13, 14, 15, 16, 17, 18], k ∉ ks) : K6m τ τ2 := by
  refine ⟨fun j => ?_, f.2.1 11 (hk 11 (by decide)), f.2.1 12 (hk 12 (by decide)), f.2.1 13 (hk 13 (by decide))⟩
  unfold rS rV rI
  rw [f.2.1 3 (hk 3 (by decide)), f.2.1 4 (hk 4 (by decide)), f.2.1 5 (hk 5 (by decide)), f.2.1 6 (hk 6 (by decide)), f.2.1 7 (hk 7 (by decide)), f.2.1 8 (hk 8 (by decide)), f.2.1 9 (hk 9 (by decide)), f.2.1 12 (hk 12 (by decide)), f.2.1 14 (hk 14 (by decide)), f.2.1 15 (hk 15 (by decide)), f.2.1 16 (hk 16 (by decide)), f.2.1 17 (hk 17 (by decide)), f.2.1 18 (hk 18 (by decide))]
/-- both keepers: codes alike -/
def L6 (T : CT) (σ τ : MS) (a : Nat) : Prop := L4 σ τ a ∧ ∃ S C E M, KB6 S T σ a C E M ∧ CDA σ τ C ∧ CDB τ
theorem q6_next {T2 : CT} {σ σ2 τ τ2 : MS} {a : Nat} {C E M : Int → Nat} (q : Q6 σ T2 σ2 a C E M) (m : K6m τ τ2) (e10 : τ2.1 10 = τ.1 10) (hA : CDA σ τ C) (hB : CDB τ) (t6 : τ.1 10 ≤ 6) : ∃ S C E M, KB6 S T2 σ2 a C E M ∧ CDA σ2 τ2 C ∧ CDB τ2 := by
  obtain ⟨S2, k, c⟩ := q
  exact ⟨S2, C, E, M, k, quiet_6 hA hB t6 c m.1 e10 m.2.1 m.2.2.1 m.2.2.2⟩
/-- frame 0 stands in none -/
theorem fi_6 {σ τ : MS} {C : Int → Nat} {a : Nat} {r : Int} (hA : CDA σ τ C) (e97 : σ.2.1 97 a = τ.1 10) (g : GDA τ) (z : 0 ≤ r ∧ r < σ.2.1 97 a) : (cdS σ (C r)).fi 0 = -1 := by
  rw [e97] at z
  rw [(hA r z.1 z.2).1.1]
  have gr := g.2 r z.1 z.2
  have q := gr.2.2.2.2.2.2.1
  have f1 := gr.2.1.1.1
  show (if 0 ≤ (0 : Int) ∧ (0 : Int) < τ.2.1 14 r then τ.2.1 16 (12 * r + 0) else 0) = -1
  rw [if_pos ⟨by decide, by omega⟩]
  exact q.1
