/-! what stays between feeds and reads -/
def K4 (σ σ2 : MS) (a : Nat) : Prop := (σ2.2.1 95 (a : Int) = σ.2.1 95 a ∧ σ2.2.1 97 (a : Int) = σ.2.1 97 a ∧ σ2.2.1 104 (a : Int) = σ.2.1 104 a ∧ σ2.2.1 105 (a : Int) = σ.2.1 105 a) ∧ ∀ x : Nat, σ.2.1 95 a = (x : Int) → σ2.2.1 (1000 + x) = σ.2.1 (1000 + x)
theorem K4.rfl {σ : MS} {a : Nat} : K4 σ σ a := ⟨⟨Eq.refl _, Eq.refl _, Eq.refl _, Eq.refl _⟩, fun _ _ => Eq.refl _⟩
theorem K4.of {T : CT} {σ σ2 : MS} {a : Nat} {ks : List Nat} (f : FrC T ks σ σ2) (hw : WT T σ) (ha : OB T a 11) (h : ∀ k ∈ [95, 97, 104, 105, 502], k ∉ ks) : K4 σ σ2 a := by
  refine ⟨⟨by rw [f.1 95 (by decide) (h 95 (by decide))], by rw [f.1 97 (by decide) (h 97 (by decide))], by rw [f.1 104 (by decide) (h 104 (by decide))], by rw [f.1 105 (by decide) (h 105 (by decide))]⟩, fun x hx => ?_⟩
  obtain ⟨y, hy, ky⟩ := wf_95 hw ha
  have e : x = y := by omega
  rw [e]
  have k2 : (T y).1 = 2 := ky.1
  exact f.2 y (by rw [k2]; exact Or.inl (Eq.refl _)) (by rw [k2]; exact h 502 (by decide))
theorem K4.trans {σ σ1 σ2 : MS} {a : Nat} (h : K4 σ σ1 a) (g : K4 σ1 σ2 a) : K4 σ σ2 a := ⟨⟨g.1.1.trans h.1.1, g.1.2.1.trans h.1.2.1, g.1.2.2.1.trans h.1.2.2.1, g.1.2.2.2.trans h.1.2.2.2⟩, fun x hx => (g.2 x (h.1.1.trans hx)).trans (h.2 x hx)⟩
def K4m (τ τ2 : MS) : Prop := τ2.2.1 1 = τ.2.1 1 ∧ τ2.1 10 = τ.1 10 ∧ τ2.1 26 = τ.1 26 ∧ τ2.1 27 = τ.1 27
theorem K4m.of {ss ks js : List Nat} {τ τ2 : MS} (f : Fr ss ks js τ τ2) (hs : ∀ k ∈ [10, 26, 27], k ∉ ss) (hk : 1 ∉ ks) : K4m τ τ2 := ⟨f.2.1 1 hk, f.1 10 (hs 10 (by decide)), f.1 26 (hs 26 (by decide)), f.1 27 (hs 27 (by decide))⟩
/-- both keepers: tapes alike, as many routines -/
def L4 (σ τ : MS) (a : Nat) : Prop := (∀ x : Nat, σ.2.1 95 a = (x : Int) → TAL (σ.2.1 (1000 + x)) (τ.2.1 1) (σ.2.1 96 a)) ∧ σ.2.1 97 a = τ.1 10 ∧ σ.2.1 104 a = τ.1 26 ∧ σ.2.1 105 a = τ.1 27
theorem L4.keep {σ τ σ2 τ2 : MS} {a : Nat} (h : L4 σ τ a) (hx : K4 σ σ2 a) (hm : K4m τ τ2) (h96 : σ2.2.1 96 a ≤ σ.2.1 96 a) : L4 σ2 τ2 a := by
  refine ⟨fun x q => ?_, by rw [hx.1.2.1, hm.2.1]; exact h.2.1, by rw [hx.1.2.2.1, hm.2.2.1]; exact h.2.2.1, by rw [hx.1.2.2.2, hm.2.2.2]; exact h.2.2.2⟩
  have q2 : σ.2.1 95 a = (x : Int) := hx.1.1.symm.trans q
  rw [hx.2 x q2, hm.1]
  exact (h.1 x q2).sub h96
theorem L4.feed {σ τ σ2 τ2 : MS} {a : Nat} {p q r s t : Int} (h : L4 σ τ a) (e : σ2.2.1 95 (a : Int) = σ.2.1 95 a ∧ σ2.2.1 97 (a : Int) = σ.2.1 97 a ∧ σ2.2.1 104 (a : Int) = σ.2.1 104 a ∧ σ2.2.1 105 (a : Int) = σ.2.1 105 a) (hf : FWQ σ σ2 a p q r s t) (e96 : σ.2.1 96 a = τ.1 2) (h1 : τ.1 2 ≤ 1180 → σ2.2.1 96 a = σ.2.1 96 a + 20 ∧ τ2.2.1 1 = w20 (τ.2.1 1) (τ.1 2) p q r s t) (h2 : 1180 < τ.1 2 → σ2.2.1 96 a = σ.2.1 96 a ∧ τ2.2.1 1 = τ.2.1 1) (em : τ2.1 10 = τ.1 10 ∧ τ2.1 26 = τ.1 26 ∧ τ2.1 27 = τ.1 27) : L4 σ2 τ2 a := by
  refine ⟨fun x g => ?_, by rw [e.2.1, em.1]; exact h.2.1, by rw [e.2.2.1, em.2.1]; exact h.2.2.1, by rw [e.2.2.2, em.2.2]; exact h.2.2.2⟩
  have g2 : σ.2.1 95 a = (x : Int) := e.1.symm.trans g
  have h0 := h.1 x g2
  by_cases c : τ.1 2 ≤ 1180
  · obtain ⟨y1, y2⟩ := h1 c
    rw [(hf x g2).1 (by omega), y1, y2, ← e96]
    exact h0.w20
  · obtain ⟨y1, y2⟩ := h2 (by omega)
    rw [(hf x g2).2 (by omega), y1, y2]
    exact h0
theorem L4.read {σ2 τ2 : MS} {a : Nat} (h96 : σ2.2.1 96 a = 0) (h97 : σ2.2.1 97 a = τ2.1 10) (h4 : σ2.2.1 104 a = τ2.1 26) (h5 : σ2.2.1 105 a = τ2.1 27) : L4 σ2 τ2 a := ⟨fun x g => fun k k0 k1 => absurd k1 (by omega), h97, h4, h5⟩
/-! what stays of the codes -/
theorem K4.prq {T T2 : CT} {σ σ2 : MS} {a : Nat} (q : PRQ T σ T2 σ2 a) (hw : WT T σ) (ha : OB T a 11) : K4 σ σ2 a := by
  have na : (T a).1 ≠ 0 := by have := ha.1; omega
  have k : ∀ f : Nat, f < 200 → f ≠ 110 → σ2.2.1 f (a : Int) = σ.2.1 f a := fun f h1 h2 => q.1 f a h1 na (fun z => h2 z.1)
  refine ⟨⟨k 95 (by decide) (by decide), k 97 (by decide) (by decide), k 104 (by decide) (by decide), k 105 (by decide) (by decide)⟩, fun x hx => ?_⟩
  obtain ⟨y, hy, ky⟩ := wf_95 hw ha
  have e : x = y := by omega
  have k2 : (T y).1 = 2 := ky.1
  rw [e]
  exact q.2.1 y (by rw [k2]; decide)
/-- a quiet call: all that the law keeps stays, all codes are as they were -/
def Q6 (σ : MS) (T2 : CT) (σ2 : MS) (a : Nat) (C E M : Int → Nat) : Prop := ∃ S2, KB6 S2 T2 σ2 a C E M ∧ (∀ r, 0 ≤ r → r < 6 → CSM σ σ2 (C r) ∧ CSM σ σ2 (M r)) ∧ (PR5 σ a → PR5 σ2 a)
def K6m (τ τ2 : MS) : Prop := (∀ j, rS τ2 j = rS τ j) ∧ τ2.2.1 11 = τ.2.1 11 ∧ τ2.2.1 12 = τ.2.1 12 ∧ τ2.2.1 13 = τ.2.1 13
theorem K6m.of {ss ks js : List Nat} {τ τ2 : MS} (f : Fr ss ks js τ τ2) (hk : ∀ k ∈ [3, 4, 5, 6, 7, 8, 9, 11, 12, 13, 14, 15, 16, 17, 18], k ∉ ks) : K6m τ τ2 := by
  refine ⟨fun j => ?_, f.2.1 11 (hk 11 (by decide)), f.2.1 12 (hk 12 (by decide)), f.2.1 13 (hk 13 (by decide))⟩
  unfold rS rV rI
  rw [f.2.1 3 (hk 3 (by decide)), f.2.1 4 (hk 4 (by decide)), f.2.1 5 (hk 5 (by decide)), f.2.1 6 (hk 6 (by decide)), f.2.1 7 (hk 7 (by decide)), f.2.1 8 (hk 8 (by decide)), f.2.1 9 (hk 9 (by decide)), f.2.1 12 (hk 12 (by decide)), f.2.1 14 (hk 14 (by decide)), f.2.1 15 (hk 15 (by decide)), f.2.1 16 (hk 16 (by decide)), f.2.1 17 (hk 17 (by decide)), f.2.1 18 (hk 18 (by decide))]
/-- both keepers: codes alike -/
def L6 (T : CT) (σ τ : MS) (a : Nat) : Prop := L4 σ τ a ∧ ∃ S C E M, KB6 S T σ a C E M ∧ CDA σ τ C ∧ CDB τ
theorem q6_next {T2 : CT} {σ σ2 τ τ2 : MS} {a : Nat} {C E M : Int → Nat} (q : Q6 σ T2 σ2 a C E M) (m : K6m τ τ2) (e10 : τ2.1 10 = τ.1 10) (hA : CDA σ τ C) (hB : CDB τ) (t6 : τ.1 10 ≤ 6) : ∃ S C E M, KB6 S T2 σ2 a C E M ∧ CDA σ2 τ2 C ∧ CDB τ2 := by
  obtain ⟨S2, k, c, -⟩ := q
  exact ⟨S2, C, E, M, k, quiet_6 hA hB t6 (fun r x y => (c r x y).1) m.1 e10 m.2.1 m.2.2.1 m.2.2.2⟩
/-- frame 0 stands in none -/
theorem fi_6 {σ τ : MS} {C : Int → Nat} {a : Nat} {r : Int} (hA : CDA σ τ C) (e97 : σ.2.1 97 a = τ.1 10) (g : GDA τ) (z : 0 ≤ r ∧ r < σ.2.1 97 a) : (cdS σ (C r)).fi 0 = -1 := by
  rw [e97] at z
  rw [(hA r z.1 z.2).1.1]
  have gr := g.2 r z.1 z.2
  have q := gr.2.2.2.2.2.2.1
  have f1 := gr.2.1.1.1
  show (if 0 ≤ (0 : Int) ∧ (0 : Int) < τ.2.1 14 r then τ.2.1 16 (12 * r + 0) else 0) = -1
  rw [if_pos ⟨by decide, by omega⟩]
  exact q.1
/-! the run of the class and the run of the reference, between calls -/
section L7S
variable {T T2 : CT} {σ σ2 τ τ2 : MS} {a rn xa xb xc xd xe xf y : Nat} {C : Int → Nat} {S : Nat → Prop} {E M : Int → Nat} {v v2 w n k x : Int}
theorem L7R.rmq (h : L7R σ a xa xb xc xd xe xf C τ) (q : RQM τ τ2) : L7R σ a xa xb xc xd xe xf C τ2 := by
  have s := q.1.1
  unfold L7R
  rw [s.1, s.2.1, s.2.2.1, s.2.2.2]
  rcases h with h | ⟨h1, h2, h3, h⟩
  · exact Or.inl h
  · refine Or.inr ⟨h1, h2.rmq q, h3, ?_⟩
    rcases h with ⟨a1, a2, a3, a4⟩ | ⟨a1, a2, a3, a4⟩ | h
    · exact Or.inl ⟨a1, a2, a3, a4.rmq q⟩
    · exact Or.inr (Or.inl ⟨a1, a2, a3, a4.rmq q⟩)
    · exact Or.inr (Or.inr h)
/-- the class's run is as it was -/
theorem L7R.sig (h : L7R σ a xa xb xc xd xe xf C τ) (e : ∀ f : Nat, 55 ≤ f → f < 70 → σ2.2.1 f a = σ.2.1 f a) (r : ∀ z, z ∈ [xa, xb, xc, xd, xe, xf] → σ2.2.1 (1000 + z) = σ.2.1 (1000 + z)) : L7R σ2 a xa xb xc xd xe xf C τ := by
  have ra := r xa (by simp)
  have rb := r xb (by simp)
  have rc := r xc (by simp)
  have rd := r xd (by simp)
  have re := r xe (by simp)
  have rf := r xf (by simp)
  have cg : RXC σ a xa xb xc xd xe C τ → RXC σ2 a xa xb xc xd xe C τ := fun h => h.cg ⟨e 57 (by decide) (by decide), e 58 (by decide) (by decide), e 69 (by decide) (by decide)⟩ ⟨ra, rb, rc, rd, re⟩
  unfold L7R
  rw [e 56 (by decide) (by decide), e 67 (by decide) (by decide), e 58 (by decide) (by decide)]
  rcases h with h | ⟨h1, h2, h3, h⟩
  · exact Or.inl h
  · refine Or.inr ⟨h1, h2.cg ⟨e 65 (by decide) (by decide), e 68 (by decide) (by decide), rf⟩ ⟨rfl, rfl, rfl⟩, h3, ?_⟩
    rcases h with ⟨a1, a2, a3, a4⟩ | ⟨a1, a2, a3, a4⟩ | h
    · exact Or.inl ⟨a1, a2, a3, cg a4⟩
    · exact Or.inr (Or.inl ⟨a1, a2, a3, cg a4⟩)
    · exact Or.inr (Or.inr h)
/-- both runs stand alike; the class's goes by the kept codes -/
def L7A (σ τ : MS) (a : Nat) (C : Int → Nat) (rn y : Nat) : Prop := (σ.2.1 103 a = (rn : Int) ∧ σ.2.1 55 rn = (y : Int) ∧ σ.2.1 99 a = (y : Int)) ∧ L7R σ rn (adN σ 59 rn) (adN σ 60 rn) (adN σ 61 rn) (adN σ 62 rn) (adN σ 63 rn) (adN σ 64 rn) C τ
def L7X (σ τ : MS) (a : Nat) (C : Int → Nat) : Prop := EZA τ ∧ ∃ rn y : Nat, L7A σ τ a C rn y
def L7 (T : CT) (σ τ : MS) (a : Nat) : Prop := L4 σ τ a ∧ ∃ S C E M, KB6 S T σ a C E M ∧ CDA σ τ C ∧ CDB τ ∧ L7X σ τ a C
theorem L7A.quiet (h : L7A σ τ a C rn y) (k : RK7 σ σ2 a) (q : RQM τ τ2) : L7A σ2 τ2 a C rn y := by
  obtain ⟨⟨h1, h2, h3⟩, h4⟩ := h
  have z := k.2.2 rn h1
  have ad : ∀ f : Nat, f ∈ RN59 → adN σ2 f rn = adN σ f rn := fun f hf => by
    have f5 := (rn_lt hf).1
    unfold adN; rw [z.1 f (by omega) (by omega)]
  refine ⟨⟨k.1.trans h1, (z.1 55 (by decide) (by decide)).trans h2, k.2.1.trans h3⟩, ?_⟩
  rw [ad 59 (by decide), ad 60 (by decide), ad 61 (by decide), ad 62 (by decide), ad 63 (by decide), ad 64 (by decide)]
  refine (h4.sig z.1 (fun x hx => ?_)).rmq q
  simp only [List.mem_cons, List.not_mem_nil, or_false] at hx
  rcases hx with e | e | e | e | e | e <;> rw [e]
  · exact z.2 59 (by decide)
  · exact z.2 60 (by decide)
  · exact z.2 61 (by decide)
  · exact z.2 62 (by decide)
  · exact z.2 63 (by decide)
  · exact z.2 64 (by decide)
theorem EZA.q (h : EZA τ) (e : ∀ j, 0 ≤ j → j < τ.1 10 → rS τ2 j = rS τ j) (e10 : τ2.1 10 = τ.1 10) : EZA τ2 := fun q a b => by
  rw [e10] at b
  rw [show τ2.2.1 9 q = τ.2.1 9 q from congrArg RTS.n (e q a b), show rV τ2 q = rV τ q from congrArg RTS.V (e q a b)]
  exact h q a b
theorem L7X.quiet (h : L7X σ τ a C) (k : RK7 σ σ2 a) (q : RQM τ τ2) (m : K6m τ τ2) (e10 : τ2.1 10 = τ.1 10) : L7X σ2 τ2 a C := by
  obtain ⟨z, rn, y, l⟩ := h
  exact ⟨z.q (fun j _ _ => m.1 j) e10, rn, y, l.quiet k q⟩
/-- no run is left -/
theorem L7A.gone {ks : List Nat} (h : L7A σ τ a C rn y) (F : FrC T ks σ σ2) (hk : 103 ∉ ks ∧ 55 ∉ ks ∧ 99 ∉ ks) {r2 : Nat} (e : σ2.2.1 103 a = (r2 : Int)) (e56 : σ2.2.1 56 r2 = 0) (e67 : τ2.1 67 = 0) : L7A σ2 τ2 a C rn y := by
  obtain ⟨⟨h1, h2, h3⟩, -⟩ := h
  have k1 : σ2.2.1 103 (a : Int) = σ.2.1 103 a := congrFun (F.1 103 (Or.inl (by decide)) hk.1) _
  have er : r2 = rn := by omega
  subst er
  exact ⟨⟨k1.trans h1, (congrFun (F.1 55 (Or.inl (by decide)) hk.2.1) _).trans h2, (congrFun (F.1 99 (Or.inl (by decide)) hk.2.2) _).trans h3⟩, Or.inl ⟨e56, e67⟩⟩
/-- the class's rows and codes are as a run wants them -/
theorem rwf_of (hK : KB6 S T σ a C E M) (hw : WT T σ) (oa : OB T a 11) (gd : GDA τ) (hA : CDA σ τ C) (h1 : σ.2.1 103 a = (rn : Int)) (h2 : σ.2.1 55 rn = (y : Int)) (h3 : σ.2.1 99 a = (y : Int)) : RWF T σ rn (adN σ 59 rn) (adN σ 60 rn) (adN σ 61 rn) (adN σ 62 rn) (adN σ 63 rn) (adN σ 64 rn) y C τ := by
  have t37 := ob_of (wf_103 hw oa) h1
  have on : OB T rn 7 := ⟨by omega, by rw [t37]; rfl, by omega⟩
  have sn : S rn := by have z := hK.2.2; rw [adN_of h1] at z; exact z
  have hI : INJ S T σ := hK.1.1.1
  have k59 := (ad_ex (Q := fun x => AR T x 15 9 9) (wf_59 hw on)).2
  have k60 := (ad_ex (Q := fun x => AR T x 1 9 9) (wf_60 hw on)).2
  have k61 := (ad_ex (Q := fun x => (T x).2 = 9 ∧ ((T rn).1 = 57 → (T x).1 = 14) ∧ ((T rn).1 ≠ 57 → (T x).1 = 1)) (wf_61 hw on)).2
  have k62 := (ad_ex (Q := fun x => AR T x 1 108 108) (wf_62 hw on)).2
  have k63 := (ad_ex (Q := fun x => AR T x 1 1728 1728) (wf_63 hw on)).2
  have k64 := (ad_ex (Q := fun x => AR T x 1 200 200) (wf_64 hw on)).2
  have t61 := k61.2.2 (by omega)
  have ey : adN σ 99 a = y := adN_of h3
  have ky := (ad_ex (Q := fun x => AR T x 5 6 6) (wf_99 hw oa)).2
  rw [ey] at ky
  have ne : ∀ {f g : Nat}, f ∈ RN59 → g ∈ RN59 → f ≠ g → adN σ f rn ≠ adN σ g rn := fun hf hg h => hI.ne sn sn (by rw [(rn_lt hf).2.2]; exact on) (by rw [(rn_lt hg).2.2]; exact on) (rn_lt hf).2.1 (rn_lt hg).2.1 (Or.inl h)
  have t6 := gd.1
  refine ⟨⟨⟨ne (by decide) (by decide) (by decide), ne (by decide) (by decide) (by decide), ne (by decide) (by decide) (by decide), ne (by decide) (by decide) (by decide), ne (by decide) (by decide) (by decide)⟩, ⟨ne (by decide) (by decide) (by decide), ne (by decide) (by decide) (by decide), ne (by decide) (by decide) (by decide), ne (by decide) (by decide) (by decide)⟩, ⟨ne (by decide) (by decide) (by decide), ne (by decide) (by decide) (by decide), ne (by decide) (by decide) (by decide)⟩, ⟨ne (by decide) (by decide) (by decide), ne (by decide) (by decide) (by decide)⟩, ne (by decide) (by decide) (by decide)⟩, ?_, ⟨fun q q0 q1 => ?_, ?_⟩, fun q q0 q1 => ?_⟩
  · have z1 := k59.2
    have z2 := k60.2
    have z3 := k61.1
    have z4 := k62.2
    have z5 := k63.2
    have z6 := k64.2
    omega
  · rw [← ey]; exact (hK.1.2.1 q q0 q1).1.1
  · intro h
    have z0 := ky.1
    have z1 := k59.1
    have z2 := k60.1
    have z4 := k62.1
    have z5 := k63.1
    have z6 := k64.1
    simp only [List.mem_cons, List.not_mem_nil, or_false] at h
    rcases h with e | e | e | e | e | e <;> (rw [e] at z0; omega)
  · have kq := (hK.1.2.1 q q0 (by omega)).1
    have oc : OB T (C q) 1 := ob50 kq.2.2
    have A := hA q q0 q1
    have nc : C q ≠ rn := fun e => by have z := kq.2.2; rw [e] at z; omega
    have n9 := (gd.2 q q0 q1).1
    have e6 : σ.2.1 6 (C q) = τ.2.1 9 q := congrArg RTS.n A.1.1
    have w5 := ad_ex (wf_5 hw oc)
    have w12 := ad_ex (Q := fun x => AR T x 1 12 12) (wf_12 hw oc)
    have w15 := ad_ex (Q := fun x => AR T x 1 144 144) (wf_15 hw oc)
    refine ⟨nc, ⟨A.1.1, A.1.2.2.1⟩, A.2, ⟨w5.1, w12.1, w15.1⟩, ⟨?_, by have := w12.2.2; omega, by have := w15.2.2; omega⟩, fun f hf h => ?_⟩
    · rcases hw.2.1 (C q) (adN σ 5 (C q)) oc w5.1 with z | z <;> omega
    · have fc : f ∈ AFL ∧ cls f = 1 := by
        simp only [List.mem_cons, List.not_mem_nil, or_false] at hf
        rcases hf with e | e | e | e | e | e <;> rw [e] <;> exact ⟨by decide, rfl⟩
      have nn : ∀ {g : Nat}, g ∈ RN59 → adN σ f (C q) ≠ adN σ g rn := fun hg => hI.ne kq.2.1 sn (by rw [fc.2]; exact oc) (by rw [(rn_lt hg).2.2]; exact on) fc.1 (rn_lt hg).2.1 (Or.inr nc)
      simp only [List.mem_cons, List.not_mem_nil, or_false] at h
      rcases h with e | e | e | e | e | e
      · exact nn (by decide) e
      · exact nn (by decide) e
      · exact nn (by decide) e
      · exact nn (by decide) e
      · exact nn (by decide) e
      · exact nn (by decide) e
/-- a go that has nothing to do -/
theorem jad_no {n : Int} (h : JAD T σ a xa xb xc xd xe xf y w n v σ2) (h56 : σ.2.1 56 a ≠ 1) : σ2 = σ ∧ ((σ.2.1 56 a = 2 ∧ v = 0) ∨ (σ.2.1 56 a ≠ 2 ∧ v = 3)) := by
  obtain ⟨t, τ1, c, -, h⟩ := h
  have t0 : t = 0 := by
    cases t with
    | zero => rfl
    | succ t =>
      obtain ⟨σn, σ1, v1, d1, -, d3, -⟩ := c.cut (n := 0) (by omega)
      rw [show σn = σ from d1] at d3
      exact absurd d3 h56
  subst t0
  have e : τ1 = σ := c
  subst e
  rcases h with ⟨-, z, -⟩ | ⟨-, -, e2, z⟩
  · exact absurd z h56
  · refine ⟨e2, ?_⟩
    rcases z with z | z | z
    · exact absurd z.1 h56
    · exact Or.inl ⟨z.1, z.2⟩
    · exact Or.inr ⟨z.2.1, z.2.2⟩
/-- go, whatever stands -/
theorem go7a (h : L7R σ rn xa xb xc xd xe xf C τ) (hw : RWF T σ rn xa xb xc xd xe xf y C τ) (gx : GDX τ) (hc : (¬ ((0 ≤ w ∧ w ≤ 2) ∧ (1 ≤ n ∧ n ≤ 20000) ∧ σ.2.1 56 rn ≠ 0) ∧ v = -1 ∧ σ2 = σ) ∨ (((0 ≤ w ∧ w ≤ 2) ∧ (1 ≤ n ∧ n ≤ 20000) ∧ σ.2.1 56 rn ≠ 0) ∧ JAD T σ rn xa xb xc xd xe xf y w n v σ2)) (hm : GOF7 τ w n v2 τ2) : v = v2 ∧ L7R σ2 rn xa xb xc xd xe xf C τ2 := by
  have q0 : RQM τ (sS 0 0 τ) := RQM.of (ss := [0]) (ks := []) (js := []) (Fr.rfl.S (by decide)) (by decide) (by decide)
  have on : σ.2.1 56 rn ≠ 0 ↔ τ.1 67 ≠ 0 := by
    rcases h with h | ⟨h1, -, -, h⟩
    · omega
    · rcases h with h | h | h <;> (have := h.1; omega)
  rcases hc with ⟨c1, c2, c3⟩ | ⟨c1, c2⟩
  · rcases hm with ⟨m1, m2, m3⟩ | ⟨m1, -⟩
    · rw [c3, m3]; exact ⟨by omega, h.rmq q0⟩
    · exact absurd ⟨m1.2.1, ⟨m1.2.2.1, m1.2.2.2⟩, on.mpr m1.1⟩ c1
  · rcases hm with ⟨m1, -⟩ | ⟨m1, m⟩
    · exact absurd ⟨on.mp c1.2.2, c1.1, c1.2.1.1, c1.2.1.2⟩ m1
    · rcases h with ⟨h1, -⟩ | ⟨h1, hq, hg, h⟩
      · exact absurd h1 c1.2.2
      · rcases h with ⟨a1, a2, a3, a4⟩ | ⟨a1, a2, a3, a4⟩ | ⟨a1, a2, a3, a4⟩
        · rcases m with ⟨z, -⟩ | ⟨-, z, -⟩ | ⟨-, -, m⟩
          · exact absurd a3 z
          · exact absurd a2 z
          · exact go7 (τ := sS 0 0 τ) ⟨a1, a4.rmq q0, hq.rmq q0, hg⟩ (hw.tau (ss := [0]) (ks := []) (js := []) (Fr.rfl.S (by decide)) (by decide) (by decide)) ⟨gx.1.fr (ss := [0]) (ks := []) (js := []) (Fr.rfl.S (by decide)) (by decide) (by decide), gx.2.1.fr (ss := [0]) (ks := []) (js := []) (Fr.rfl.S (by decide)) (by decide), gx.2.2.1, gx.2.2.2⟩ ⟨h1, a2, a3⟩ c1.1 c1.2.1.1 c2 m
        · have z := jad_no c2 (by omega)
          rcases m with ⟨-, e1, e2⟩ | ⟨e, -⟩ | ⟨e, -⟩
          · rw [z.1, e2]
            exact ⟨by omega, L7R.rmq (Or.inr ⟨h1, hq, hg, Or.inr (Or.inl ⟨a1, a2, a3, a4⟩)⟩) q0⟩
          · exact absurd e a3
          · exact absurd e a3
        · have z := jad_no c2 (by omega)
          rcases m with ⟨e, -⟩ | ⟨-, -, e1, e2⟩ | ⟨-, e, -⟩
          · exact absurd a3 e
          · rw [z.1, e2]
            exact ⟨by omega, L7R.rmq (Or.inr ⟨h1, hq, hg, Or.inr (Or.inr ⟨a1, a2, a3, a4⟩)⟩) q0⟩
          · exact absurd e a2
end L7S
/-! the calls, in the law of runs -/
section L7T
variable {T T2 : CT} {σ σ2 τ τ2 : MS} {a rn y xt : Nat} {C : Int → Nat} {S : Nat → Prop} {E M : Int → Nat} {v v2 w n k x r : Int} {Sx : Int → Int}
theorem rn_tag (hw : WT T σ) (on : OB T rn 7) {f : Nat} (hf : f ∈ RN59) : (T (adN σ f rn)).1 = 15 ∨ (T (adN σ f rn)).1 = 1 ∨ (T (adN σ f rn)).1 = 14 := by
  simp only [List.mem_cons, List.not_mem_nil, or_false] at hf
  rcases hf with e | e | e | e | e | e <;> subst e
  · exact Or.inl ((ad_ex (Q := fun x => AR T x 15 9 9) (wf_59 hw on)).2).1
  · exact Or.inr (Or.inl ((ad_ex (Q := fun x => AR T x 1 9 9) (wf_60 hw on)).2).1)
  · have z := (ad_ex (Q := fun x => (T x).2 = 9 ∧ ((T rn).1 = 57 → (T x).1 = 14) ∧ ((T rn).1 ≠ 57 → (T x).1 = 1)) (wf_61 hw on)).2
    by_cases q : (T rn).1 = 57
    · exact Or.inr (Or.inr (z.2.1 q))
    · exact Or.inr (Or.inl (z.2.2 q))
  · exact Or.inr (Or.inl ((ad_ex (Q := fun x => AR T x 1 108 108) (wf_62 hw on)).2).1)
  · exact Or.inr (Or.inl ((ad_ex (Q := fun x => AR T x 1 1728 1728) (wf_63 hw on)).2).1)
  · exact Or.inr (Or.inl ((ad_ex (Q := fun x => AR T x 1 200 200) (wf_64 hw on)).2).1)
theorem rn_ob (oa : OB T a 11) (hw : WT T σ) : σ.2.1 103 a = (adN σ 103 a : Int) ∧ OB T (adN σ 103 a) 7 ∧ (T (adN σ 103 a)).1 = 37 := by
  have z := ad_ex (Q := fun x => (T x).1 = 37) (wf_103 hw oa)
  exact ⟨z.1, ⟨by omega, by rw [z.2]; rfl, by omega⟩, z.2⟩
theorem rk_tape (oa : OB T a 11) (hw : WT T σ) (hxt : σ.2.1 95 a = (xt : Int)) (ch : CHX [(96, a)] [xt] [] σ σ2) : RK7 σ σ2 a := by
  have o := rn_ob oa hw
  have tt : (T xt).1 = 2 := by
    have z := (ad_ex (Q := fun x => AR T x 2 1200 1200) (wf_95 hw oa)).2
    rw [adN_of hxt] at z
    exact z.1
  refine RK7.of o.1 ch (fun p hp => ?_) (fun x hx f hf e => ?_)
  · rw [List.mem_singleton.mp hp]
    exact ⟨⟨by show (96 : Nat) ≠ 103; decide, by show (96 : Nat) ≠ 99; decide⟩, fun _ => by show 70 ≤ 96; decide⟩
  · have z := rn_tag hw o.2.1 hf
    rw [← e, List.mem_singleton.mp hx] at z
    omega
theorem rk_fld (oa : OB T a 11) (hw : WT T σ) (ch : CHX [(96, a)] [] [] σ σ2) : RK7 σ σ2 a := by
  refine RK7.of (rn_ob oa hw).1 ch (fun p hp => ?_) (fun x hx => absurd hx (by simp))
  rw [List.mem_singleton.mp hp]
  exact ⟨⟨by show (96 : Nat) ≠ 103; decide, by show (96 : Nat) ≠ 99; decide⟩, fun _ => by show 70 ≤ 96; decide⟩
theorem rk_fnd (hrn : σ.2.1 103 a = (rn : Int)) (ch : CHX [(70, rn), (71, rn)] [] [] σ σ2) : RK7 σ σ2 a := by
  refine RK7.of hrn ch (fun p hp => ?_) (fun x hx => absurd hx (by simp))
  simp only [List.mem_cons, List.not_mem_nil, or_false] at hp
  rcases hp with rfl | rfl <;> simp
theorem rk_tlq (oa : OB T a 11) (hw : WT T σ) (hK : KB6 S T σ a C E M) (h : TLQ T σ σ2 a) : RK7 σ σ2 a := by
  rcases h with ⟨e1, e2⟩ | ⟨tl, xs, xb, xf, r, ⟨q1, q2, q3, q4⟩, q⟩
  · exact RK7.eq e1
  · have z := (ad_ex (Q := fun x => (T x).1 = 40) (wf_102 hw oa)).2
    rw [adN_of q1] at z
    have o := rn_ob oa hw
    exact hK.2.1.rfk hw q1 ⟨by omega, by rw [z]; rfl, by omega⟩ q2 q3 q4 o.1 hK.2.2 o.2.1 q
theorem rk_knq (oa : OB T a 11) (hw : WT T σ) (hK : KB6 S T σ a C E M) (h : KNQ T σ σ2 a) : RK7 σ σ2 a := by
  obtain ⟨σ1, rn, e, ch, hw1, q⟩ := h
  obtain ⟨S2, k2, -⟩ := L6Q.fnd oa hw ch S C E M hK
  exact (rk_fnd e ch).trans (rk_tlq oa hw1 k2 q)
/-- a run's call wrote its own things alone -/
theorem L7A.mv {l : List Nat} (h : σ.2.1 103 a = (rn : Int) ∧ σ.2.1 55 rn = (y : Int) ∧ σ.2.1 99 a = (y : Int)) (ch : CHX (RNL rn) l [] σ σ2) (k : L7R σ2 rn (adN σ 59 rn) (adN σ 60 rn) (adN σ 61 rn) (adN σ 62 rn) (adN σ 63 rn) (adN σ 64 rn) C τ2) : L7A σ2 τ2 a C rn y := by
  have f : ∀ (q : Nat) (b : Int), (59 ≤ q ∧ q ≤ 64) ∨ q = 55 ∨ q = 99 ∨ q = 103 → σ2.2.1 q b = σ.2.1 q b := fun q b hq => ch.1 q b (by omega) (fun p hp e => by
    simp only [List.mem_cons, List.not_mem_nil, or_false] at hp
    rcases hp with rfl | rfl | rfl | rfl | rfl | rfl | rfl | rfl | rfl | rfl <;> (simp only at e; omega))
  have ad : ∀ q : Nat, 59 ≤ q → q ≤ 64 → adN σ2 q rn = adN σ q rn := fun q h1 h2 => by unfold adN; rw [f q _ (Or.inl ⟨h1, h2⟩)]
  refine ⟨⟨(f 103 _ (by omega)).trans h.1, (f 55 _ (by omega)).trans h.2.1, (f 99 _ (by omega)).trans h.2.2⟩, ?_⟩
  rw [ad 59 (by decide) (by decide), ad 60 (by decide) (by decide), ad 61 (by decide) (by decide), ad 62 (by decide) (by decide), ad 63 (by decide) (by decide), ad 64 (by decide) (by decide)]
  exact k
theorem q00 : RQM τ (sS 0 0 τ) := RQM.of (ss := [0]) (ks := []) (js := []) (Fr.rfl.S (by decide)) (by decide) (by decide)
/-- read -/
theorem read7 {nm : Int → Int64 → Int} {z0 : MK} (h : L7X σ τ a C) (hw : WT T σ) (oa : OB T a 11) (hK : KB6 S T σ a C E M) (F : FrC T [5, 6, 7, 8, 9, 10, 35, 38, 42, 43, 44, 45, 46, 47, 50, 51, 56, 84, 85, 86, 87, 96, 97, 104, 105, 512, 516, 517, 518, 519, 520, 521, 522, 523] σ σ2) (hR : RDM S C nm z0 T σ T2 σ2 a Sx v) (h8 : RP8 σ σ2 a v) (hD : RD6 Sx τ τ2 v) (g : GDA τ) (g2 : GDA τ2) : L7X σ2 τ2 a C := by
  obtain ⟨z, rn, y, l⟩ := h
  rcases h8 with ⟨e, e56⟩ | ⟨e, r2, e1, e2⟩
  · have kp := hD.1 e
    have rr := (hR.2.1 e).2.1
    have e10 : τ2.1 10 = τ.1 10 := kp.2.1 10 (by decide)
    have o := rn_ob oa hw
    refine ⟨z.q (fun j a b => kp.rs a (by have := g.1; omega) (by have := (g.2 j a b).1; omega)) e10, rn, y, l.quiet ⟨congrFun (F.1 103 (Or.inl (by decide)) (by decide)) _, congrFun (F.1 99 (Or.inl (by decide)) (by decide)) _, fun r9 h9 => ⟨fun f f0 f1 => ?_, fun f hf => ?_⟩⟩ (RQM.of kp.2 (by decide) (by decide))⟩
    · by_cases q : f = 56
      · rw [q, e56]
      · exact congrFun (F.1 f (Or.inl (by omega)) (by simp only [List.mem_cons, List.not_mem_nil, or_false]; omega)) _
    · have er : adN σ 103 a = r9 := adN_of h9
      have sr := hK.2.2
      have t := o.2.2
      rw [er] at sr t
      exact (rr f r9 hf sr t).2
  · have m := hD.2 e
    exact ⟨fun q a b => ez_one (g2.2 q a b) (m.1.2.1 q a b).1.1, rn, y, l.gone F ⟨by decide, by decide, by decide⟩ e1 e2 m.2⟩
/-- pass -/
theorem pass7 {ks : List Nat} (h : L7X σ τ a C) (F : FrC T ks σ σ2) (hk : 103 ∉ ks ∧ 55 ∉ ks ∧ 99 ∉ ks) (h7 : RP7 σ σ2 a w r) (hm : RPM τ τ2 w r) (e97 : σ.2.1 97 a = τ.1 10) (hq : PSQ τ τ2 w r v) (g : GDA τ) (e10 : τ2.1 10 = τ.1 10) (hu : UNA τ) : L7X σ2 τ2 a C := by
  obtain ⟨z, rn, y, l⟩ := h
  refine ⟨EZA.step hq g e10 hu z, rn, y, ?_⟩
  rcases h7 with ⟨h1, h2⟩ | ⟨h1, r2, h2, h3⟩
  · rcases hm with ⟨-, m⟩ | ⟨m, -⟩
    · rw [h2, m]; exact l.quiet RK7.rf q00
    · omega
  · rcases hm with ⟨m, -⟩ | ⟨-, m⟩
    · omega
    · exact l.gone F hk h2 h3 m
/-- start -/
theorem start7x {u0 u1 u2 u3 : Int} (h : L7X σ τ a C) (hK : KB6 S T σ a C E M) (hw : WT T σ) (oa : OB T a 11) (gd : GDA τ) (pr : PAR τ) (un : UNA τ) (hA : CDA σ τ C) (hx : ∃ rn y : Nat, (σ.2.1 103 a = (rn : Int) ∧ σ.2.1 55 rn = (y : Int)) ∧ CHX (RNL rn) [adN σ 59 rn, adN σ 60 rn, adN σ 61 rn, adN σ 62 rn, adN σ 63 rn, adN σ 64 rn] [] σ σ2 ∧ ((v = 0 ∧ σ2 = σ) ∨ (v = 1 ∧ JBG T σ rn (adN σ 59 rn) (adN σ 60 rn) (adN σ 61 rn) (adN σ 62 rn) (adN σ 63 rn) y x u0 u1 u2 u3 σ2))) (hm : STS τ x u0 u1 u2 u3 v2 τ2) (fr : Fr [0, 67, 68, 69, 70] [73, 74, 75, 76, 78, 79, 80, 81, 82] [] τ τ2) (m6 : K6m τ τ2) (vv : v = v2) : L7X σ2 τ2 a C := by
  obtain ⟨z, rn, y, l⟩ := h
  obtain ⟨r2, y2, ⟨h1, h2⟩, ch, hc⟩ := hx
  have er : r2 = rn := by have := l.1.1; omega
  subst er
  have ey : y2 = y := by have := l.1.2.1; omega
  subst ey
  refine ⟨z.q (fun j _ _ => m6.1 j) (fr.1 10 (by decide)), r2, y2, ?_⟩
  subst vv
  rcases hc with ⟨e, e2⟩ | ⟨e, hb⟩
  · rcases hm with ⟨-, m⟩ | ⟨m, -⟩
    · rw [e2, m]; exact l.quiet RK7.rf q00
    · omega
  · subst e
    exact L7A.mv l.1 ch (start7 (rwf_of hK hw oa gd hA l.1.1 l.1.2.1 l.1.2.2) ⟨gd, pr, un, z⟩ hb fr hm)
/-- go -/
theorem go7x (h : L7X σ τ a C) (hK : KB6 S T σ a C E M) (hw : WT T σ) (oa : OB T a 11) (gd : GDA τ) (pr : PAR τ) (un : UNA τ) (hA : CDA σ τ C) (hx : ∃ rn y : Nat, (σ.2.1 103 a = (rn : Int) ∧ σ.2.1 55 rn = (y : Int)) ∧ CHX (RNL rn) [adN σ 59 rn, adN σ 60 rn, adN σ 61 rn, adN σ 62 rn, adN σ 63 rn, adN σ 64 rn] [] σ σ2 ∧ ((¬ ((0 ≤ w ∧ w ≤ 2) ∧ (1 ≤ n ∧ n ≤ 20000) ∧ σ.2.1 56 rn ≠ 0) ∧ v = -1 ∧ σ2 = σ) ∨ (((0 ≤ w ∧ w ≤ 2) ∧ (1 ≤ n ∧ n ≤ 20000) ∧ σ.2.1 56 rn ≠ 0) ∧ JAD T σ rn (adN σ 59 rn) (adN σ 60 rn) (adN σ 61 rn) (adN σ 62 rn) (adN σ 63 rn) (adN σ 64 rn) y w n v σ2))) (hm : GOF7 τ w n v2 τ2) (m6 : K6m τ τ2) (e10 : τ2.1 10 = τ.1 10) : v = v2 ∧ L7X σ2 τ2 a C := by
  obtain ⟨z, rn, y, l⟩ := h
  obtain ⟨r2, y2, ⟨h1, h2⟩, ch, hc⟩ := hx
  have er : r2 = rn := by have := l.1.1; omega
  subst er
  have ey : y2 = y := by have := l.1.2.1; omega
  subst ey
  have g := go7a l.2 (rwf_of hK hw oa gd hA l.1.1 l.1.2.1 l.1.2.2) ⟨gd, pr, un, z⟩ hc hm
  exact ⟨g.1, z.q (fun j _ _ => m6.1 j) e10, r2, y2, L7A.mv l.1 ch g.2⟩
/-- stack -/
theorem stack7x (h : L7X σ τ a C) (hK : KB6 S T σ a C E M) (hw : WT T σ) (oa : OB T a 11) (gd : GDA τ) (r7 : R7 τ) (hA : CDA σ τ C) (hx : ∃ rn y : Nat, (σ.2.1 103 a = (rn : Int) ∧ σ.2.1 55 rn = (y : Int)) ∧ CHX [(70, rn), (71, rn)] [] [] σ σ2 ∧ JSK T σ rn (adN σ 59 rn) (adN σ 61 rn) (adN σ 62 rn) y k w v σ2) (hm : SKA τ k w v2) : v = v2 := by
  obtain ⟨z, rn, y, l⟩ := h
  obtain ⟨r2, y2, ⟨h1, h2⟩, ch, hc⟩ := hx
  have er : r2 = rn := by have := l.1.1; omega
  subst er
  have ey : y2 = y := by have := l.1.2.1; omega
  subst ey
  exact stack7 l.2 (rwf_of hK hw oa gd hA l.1.1 l.1.2.1 l.1.2.2) gd r7 hw (fun q q0 q1 => ob50 (hK.co q0 q1).2) ch hc hm
theorem run7x (h : L7X σ τ a C) (hw : WT T σ) (oa : OB T a 11) (hx : ∃ rn : Nat, σ.2.1 103 a = (rn : Int) ∧ RNB T σ rn (adN σ 60 rn) w v) (hm : RNA τ w v2) : v = v2 := by
  obtain ⟨z, rn, y, l⟩ := h
  obtain ⟨r2, h1, hc⟩ := hx
  have er : r2 = rn := by have := l.1.1; omega
  subst er
  have o := rn_ob oa hw
  rw [adN_of h1] at o
  have k := (ad_ex (Q := fun x => AR T x 1 9 9) (wf_60 hw o.2.1)).2.2
  exact run7 l.2 (by omega) hc hm
theorem prin7x (h : L7X σ τ a C) (hw : WT T σ) (oa : OB T a 11) (hx : ∃ rn : Nat, σ.2.1 103 a = (rn : Int) ∧ PRB T σ rn (adN σ 64 rn) x v) (hm : PRA τ x v2) : v = v2 := by
  obtain ⟨z, rn, y, l⟩ := h
  obtain ⟨r2, h1, hc⟩ := hx
  have er : r2 = rn := by have := l.1.1; omega
  subst er
  have o := rn_ob oa hw
  rw [adN_of h1] at o
  have k := (ad_ex (Q := fun x => AR T x 1 200 200) (wf_64 hw o.2.1)).2.2
  exact prin7 l.2 (by omega) hc hm
end L7T
theorem q7_next {T2 : CT} {σ σ2 τ τ2 : MS} {a : Nat} {C E M : Int → Nat} (q : Q6 σ T2 σ2 a C E M) (m : K6m τ τ2) (e10 : τ2.1 10 = τ.1 10) (hA : CDA σ τ C) (hB : CDB τ) (t6 : τ.1 10 ≤ 6) (hx : L7X σ2 τ2 a C) : ∃ S C E M, KB6 S T2 σ2 a C E M ∧ CDA σ2 τ2 C ∧ CDB τ2 ∧ L7X σ2 τ2 a C := by
  obtain ⟨S2, k, c, -⟩ := q
  have w := quiet_6 hA hB t6 (fun r x y => (c r x y).1) m.1 e10 m.2.1 m.2.2.1 m.2.2.2
  exact ⟨S2, C, E, M, k, w.1, w.2, hx⟩
/-- the start: no run -/
theorem l7_first {σ τ : MS} {a : Nat} {C : Int → Nat} (h10 : τ.1 10 = 0) (h67 : τ.1 67 = 0) (h : RC55 σ a) : L7X σ τ a C := by
  obtain ⟨rn, y, e1, e2, e3, e4⟩ := h
  exact ⟨fun q a b => by omega, rn, y, ⟨e1, e2, e3⟩, Or.inl ⟨e4, h67⟩⟩
/-! THE LAW OF TELLINGS -/
def L8 (T : CT) (σ τ : MS) (a : Nat) : Prop := L4 σ τ a ∧ ∃ S C E M, KB6 S T σ a C E M ∧ CDA σ τ C ∧ CDB τ ∧ L7X σ τ a C ∧ TGK S T σ a C (τ.1 10) ∧ CDW τ ∧ SCH τ
section L8S
variable {T T2 : CT} {σ σ2 τ τ2 : MS} {a : Nat} {C E M E2 M2 : Int → Nat} {S : Nat → Prop} {v v2 u w r k m : Int}
/-- a quiet call -/
theorem q8_next (q : Q6 σ T2 σ2 a C E M) (mm : K6m τ τ2) (e10 : τ2.1 10 = τ.1 10) (hA : CDA σ τ C) (hB : CDB τ) (t6 : τ.1 10 ≤ 6) (hx : L7X σ2 τ2 a C) (ht : ∃ S2, TGK S2 T2 σ2 a C (τ.1 10)) (hW : CDW τ) (hs : SCH τ2) : ∃ S C E M, KB6 S T2 σ2 a C E M ∧ CDA σ2 τ2 C ∧ CDB τ2 ∧ L7X σ2 τ2 a C ∧ TGK S T2 σ2 a C (τ2.1 10) ∧ CDW τ2 ∧ SCH τ2 := by
  obtain ⟨S2, k2, c, -⟩ := q
  obtain ⟨S3, g⟩ := ht
  have w2 := quiet_6 hA hB t6 (fun r x y => (c r x y).1) mm.1 e10 mm.2.1 mm.2.2.1 mm.2.2.2
  exact ⟨S2, C, E, M, k2, w2.1, w2.2, hx, by rw [e10]; exact g.sw k2, hW.same (fun j _ _ => mm.1 j) e10 mm.2.1 mm.2.2.1, hs⟩
/-- what is given ahead of known and value -/
theorem kvh8x (hX : L7X σ τ a C) (hT : TGK S T σ a C (τ.1 10)) (hK : KB6 S T σ a C E M) (hw : WT T σ) (oa : OB T a 11) (gd : GDA τ) (h7 : R7 τ) (hA : CDA σ τ C) : ∀ rn tl y : Nat, σ.2.1 103 a = (rn : Int) → (T rn).1 = 37 → σ.2.1 102 a = (tl : Int) → σ.2.1 55 rn = (y : Int) → KVH T σ rn tl (adN σ 59 rn) (adN σ 60 rn) (adN σ 61 rn) y (adN σ 90 tl) (adN σ 91 tl) (adN σ 89 tl) k m := fun rn tl y e103 k37 e102 e55 => by
  obtain ⟨z, r2, y2, l⟩ := hX
  have er : r2 = rn := by have := l.1.1; omega
  subst er
  have ey : y2 = y := by have := l.1.2.1; omega
  subst ey
  exact kvh8 hT hK.2.1 hw oa rfl gd l.2 (rwf_of hK hw oa gd hA l.1.1 l.1.2.1 l.1.2.2) h7 (by have z9 := hK.2.2; rw [adN_of e103] at z9; exact z9) k37 e102 l.1.2.2
theorem L7A.on8 {rn y : Nat} (l : L7A σ τ a C rn y) (on : τ.1 67 ≠ 0 ∧ τ.1 68 = 0) : RXC σ rn (adN σ 59 rn) (adN σ 60 rn) (adN σ 61 rn) (adN σ 62 rn) (adN σ 63 rn) C τ := by
  rcases l.2 with ⟨-, h2⟩ | ⟨-, -, -, h⟩
  · exact absurd h2 on.1
  · rcases h with ⟨-, -, -, h5⟩ | ⟨-, -, -, h5⟩ | ⟨-, h3, -⟩
    · exact h5
    · exact h5
    · exact absurd on.2 h3
/-- known, value: one answer, the tables hold -/
theorem kv8x {z v0 : Int} {rn tl y : Nat} {V : MS → Nat → Int → Int} {W : Int → Int → DT → Int} (hz : z = v0) (hX : L7X σ τ a C) (hT : TGK S T σ a C (τ.1 10)) (hK : KB6 S T σ a C E M) (hw : WT T σ) (oa : OB T a 11) (gd : GDA τ) (np : PAR τ) (hW : CDW τ) (h7 : R7 τ) (hA : CDA σ τ C) (hB : CDB τ) (q6 : Q6 σ T2 σ2 a C E M) (rk : RK7 σ σ2 a) (hw2 : WT T2 σ2) (oa2 : OB T2 a 11) (e : (σ.2.1 103 a = (rn : Int) ∧ (T rn).1 = 37) ∧ σ.2.1 102 a = (tl : Int) ∧ σ.2.1 55 rn = (y : Int)) (gt : GT T T2)
    (hc : KVT T T2 σ σ2 rn tl (adN σ 59 rn) (adN σ 60 rn) (adN σ 61 rn) y (adN σ 90 tl) (adN σ 91 tl) (adN σ 89 tl) k m z v V)
    (hV : L7A σ2 τ a C rn y → RWF T2 σ2 rn (adN σ2 59 rn) (adN σ2 60 rn) (adN σ2 61 rn) (adN σ2 62 rn) (adN σ2 63 rn) (adN σ2 64 rn) y C τ → adN σ2 63 rn = adN σ 63 rn → ∀ q id c9, (τ.1 67 ≠ 0 ∧ τ.1 68 = 0) → 0 ≤ q → q < τ.1 10 → 0 ≤ c9 → c9 < τ.2.1 73 0 → σ2.2.1 70 rn = c9 → τ.2.1 78 c9 = q → VID (rV τ q) (τ.2.1 9 q) (τ.2.1 11 q) (rwF σ2 15 (C q)) id → V σ2 (C q) id = W c9 q (decD (rV τ q) (rwF σ2 15 (C q)) id))
    (hm : (v2 = v0 ∧ (τ.1 67 = 0 ∨ τ.1 68 ≠ 0 ∨ k < 0 ∨ dpt τ 0 ≤ k)) ∨ ((τ.1 67 ≠ 0 ∧ τ.1 68 = 0 ∧ 0 ≤ k) ∧ ∃ c f, FNDS τ 0 k c f ∧ ((v2 = v0 ∧ ¬ (0 ≤ m ∧ m < τ.2.1 12 (τ.2.1 15 (12 * τ.2.1 78 c + f)))) ∨ ((0 ≤ m ∧ m < τ.2.1 12 (τ.2.1 15 (12 * τ.2.1 78 c + f))) ∧ ∃ d, TLD τ (τ.2.1 78 c) (τ.2.1 79 c) f m d ∧ v2 = W c (τ.2.1 78 c) d)))) : v = v2 ∧ ∃ S2, TGK S2 T2 σ2 a C (τ.1 10) := by
  obtain ⟨z9, r2, y2, l⟩ := hX
  have er : r2 = rn := by have := l.1.1; have := e.1.1; omega
  subst er
  have ey : y2 = y := by have := l.1.2.1; have := e.2.2; omega
  subst ey
  obtain ⟨S2, k2, cs, -⟩ := q6
  have hA2 : CDA σ2 τ C := (quiet_6 hA hB gd.1.2 (fun r x y => (cs r x y).1) (fun _ => rfl) rfl rfl rfl rfl).1
  have l2 : L7A σ2 τ a C r2 y2 := l.quiet rk RQM.rfl
  have w2 := rwf_of k2 hw2 oa2 gd hA2 l2.1.1 l2.1.2.1 l2.1.2.2
  have e63 : adN σ2 63 r2 = adN σ 63 r2 := by unfold adN; rw [(rk.2.2 r2 e.1.1).1 63 (by decide) (by decide)]
  have kk := known8 hz hT hK.2.1 hw oa rfl gd np hW l.2 (rwf_of hK hw oa gd hA l.1.1 l.1.2.1 l.1.2.2) h7 (by have z8 := hK.2.2; rw [adN_of e.1.1] at z8; exact z8) e.1.2 e.2.1 l.1.2.2 gt hw2 hA2 w2 (hV l2 w2 e63) hc hm
  exact ⟨kk.1, S, kk.2⟩
theorem known8x (hX : L7X σ τ a C) (hT : TGK S T σ a C (τ.1 10)) (hK : KB6 S T σ a C E M) (hw : WT T σ) (oa : OB T a 11) (gd : GDA τ) (np : PAR τ) (hW : CDW τ) (h7 : R7 τ) (hA : CDA σ τ C) (hB : CDB τ) (q6 : Q6 σ T2 σ2 a C E M) (rk : RK7 σ σ2 a) (hw2 : WT T2 σ2) (oa2 : OB T2 a 11) (hc : ∃ rn tl y : Nat, ((σ.2.1 103 a = (rn : Int) ∧ (T rn).1 = 37) ∧ σ.2.1 102 a = (tl : Int) ∧ σ.2.1 55 rn = (y : Int)) ∧ GT T T2 ∧ KVT T T2 σ σ2 rn tl (adN σ 59 rn) (adN σ 60 rn) (adN σ 61 rn) y (adN σ 90 tl) (adN σ 91 tl) (adN σ 89 tl) k m (-1) v (fun s c9 i9 => jKW (jWO T2 s c9 (adN s 5 c9) i9))) (hm : KNR τ k m v2) : v = v2 ∧ ∃ S2, TGK S2 T2 σ2 a C (τ.1 10) := by
  obtain ⟨rn, tl, y, e, gt, hc⟩ := hc
  exact kv8x (W := fun _ _ d => if d.1 < 10 then 1 else d.1) rfl hX hT hK hw oa gd np hW h7 hA hB q6 rk hw2 oa2 e gt hc (fun _ w2 _ q id c9 _ q0 q1 _ _ _ _ hv => kn_id (wo_id (w2.2.2.2 q q0 q1) hv (np q q0 (by have := gd.1; omega)).2)) hm
theorem value8x (hX : L7X σ τ a C) (hT : TGK S T σ a C (τ.1 10)) (hK : KB6 S T σ a C E M) (hw : WT T σ) (oa : OB T a 11) (gd : GDA τ) (np : PAR τ) (hW : CDW τ) (h7 : R7 τ) (hA : CDA σ τ C) (hB : CDB τ) (q6 : Q6 σ T2 σ2 a C E M) (rk : RK7 σ σ2 a) (hw2 : WT T2 σ2) (oa2 : OB T2 a 11) (hc : ∃ rn tl y : Nat, ((σ.2.1 103 a = (rn : Int) ∧ (T rn).1 = 37) ∧ σ.2.1 102 a = (tl : Int) ∧ σ.2.1 55 rn = (y : Int)) ∧ GT T T2 ∧ KVT T T2 σ σ2 rn tl (adN σ 59 rn) (adN σ 60 rn) (adN σ 61 rn) y (adN σ 90 tl) (adN σ 91 tl) (adN σ 89 tl) k m 0 v (fun s c9 i9 => jFV T2 s rn c9 (adN s 5 c9) (adN s 15 c9) (adN σ 63 rn) i9)) (hm : VLR τ k m v2) : v = v2 ∧ ∃ S2, TGK S2 T2 σ2 a C (τ.1 10) := by
  obtain ⟨rn, tl, y, e, gt, hc⟩ := hc
  refine kv8x (W := fun c _ d => if d.1 < 10 then wrD (fun g => τ.2.1 82 (192 * c + g)) d else 0) rfl hX hT hK hw oa gd np hW h7 hA hB q6 rk hw2 oa2 e gt hc (fun l2 w2 e63 q id c9 on q0 q1 c0 c1 e70 _ hv => ?_) hm
  have gr := gd.2 q q0 q1
  have P4 := np q q0 (by have := gd.1; omega)
  have PN := gr.2.2.2.2.2.2.2.2
  have f0 : τ.2.1 15 (12 * q + 0) = q := gr.2.2.2.1
  show jFV T2 σ2 rn (C q) (adN σ2 5 (C q)) (adN σ2 15 (C q)) (adN σ 63 rn) id = _
  rw [← e63]
  refine fv_id (w2.2.2.2 q q0 q1) (l2.on8 on) w2.2.1.2.2.2.2.1 e70 c0 c1 hv (cdw_who hW q0 q1) P4.2 (fun i i0 i1 => ?_)
  have z := (gr.2.1.2 0 (Int.le_refl _) (by have := gr.2.1.1; omega)).2 i i0 (by rw [f0]; omega)
  rw [show 144 * q + 12 * 0 + i = 144 * q + i by omega] at z
  rw [eH8 (w2.2.2.2 q q0 q1) gr i0 (by omega)]
  exact z
/-- told -/
theorem tgk_ex {Cn : Int} (h : TGK S T2 σ2 a C Cn) : ∃ S2, TGK S2 T2 σ2 a C Cn := ⟨S, h⟩
/-- pass -/
theorem pass8 {ks : List Nat} {NM PM : Int → Int} (hT : TGK S T σ a C (τ.1 10)) (hK : KB6 S T σ a C E M) (hw : WT T σ) (oa : OB T a 11) (e97 : σ.2.1 97 a = τ.1 10) (hp : PAC S T σ T2 σ2 a C NM PM w r u) (fr : FrC T ks σ σ2) (h9 : 900 ∉ ks ∧ 102 ∉ ks ∧ 89 ∉ ks) (hK2 : KB6 S T2 σ2 a C E M) (hA2 : CDA σ2 τ2 C) (hB2 : CDB τ2) (hW : CDW τ) (g : GDA τ) (np : PAR τ) (hB : CDB τ) (q : PSQ τ τ2 w r v) (g2 : GDA τ2) (np2 : PAR τ2) (nn2 : NAM τ2) (e10 : τ2.1 10 = τ.1 10) (e11 : τ2.2.1 11 = τ.2.1 11) (e12 : τ2.2.1 12 = τ.2.1 12) (hs : SCA τ2) (hi : HSI τ2) : TGK S T2 σ2 a C (τ2.1 10) ∧ CDW τ2 ∧ SCH τ2 := by
  have w2 := hW.pass g np hB q e10 e11 e12
  refine ⟨?_, w2, hs, hi, fun j x y => (hB2 j x y).1⟩
  rw [e10]
  exact hT.pass hK hw oa e97 hp fr h9 hK2 (fun j j0 j1 => rtc_of hA2 hB2 w2 g2 np2 nn2 j0 (by omega))
/-- read -/
theorem read8 {Sx : Int → Int} {pk pv w1 w2 r0 : Int} (hT : TGK S T σ a C (τ.1 10)) (hK : KB6 S T σ a C E M) (hw : WT T σ) (oa : OB T a 11) (fr : FrC T [5, 6, 7, 8, 9, 10, 35, 38, 42, 43, 44, 45, 46, 47, 50, 51, 56, 84, 85, 86, 87, 96, 97, 104, 105, 512, 516, 517, 518, 519, 520, 521, 522, 523] σ σ2) (hR : RDM S C (nmQ6 Sx) (mk00 pk pv) T σ T2 σ2 a Sx u) (rq : RQ9 Sx u w1 w2 r0 (σ2.2.1 97 a)) (hs : SEN Sx) (rd : RD6 Sx τ τ2 v) (uv : u = v) (e97 : σ2.2.1 97 a = τ2.1 10) (hW : CDW τ) (g : GDA τ) (g2 : GDA τ2) (np2 : PAR τ2) (nn2 : NAM τ2) (hK2 : KB6 S T2 σ2 a C E2 M2) (hA2 : CDA σ2 τ2 C) (hB2 : CDB τ2) (sc : SCA τ2) (hi : HSI τ2) : TGK S T2 σ2 a C (τ2.1 10) ∧ CDW τ2 ∧ SCH τ2 := by
  obtain ⟨-, c1, c2, -, gt, fz, -⟩ := hR
  subst uv
  have un : UN6 τ2 := fun j x y => (hB2 j x y).1
  by_cases z : u = -1
  · have kp := rd.1 z
    have g6 := g.1
    have e10 : τ2.1 10 = τ.1 10 := kp.2.1 10 (by decide)
    have w2 : CDW τ2 := hW.same (fun j x y => kp.rs x (by omega) (by have := (g.2 j x y).1; omega)) e10 (kp.2.2.1 11 (by decide)) (kp.2.2.1 12 (by decide))
    refine ⟨?_, w2, sc, hi, un⟩
    rw [e10]
    exact hT.rdn hK hw oa gt (c1 z).1 (c1 z).2.2 fr (by decide) hK2
  · obtain ⟨i, es, N, mz, Pf, f, ⟨t1, t2, t3⟩, ⟨b1, b2, b3, b4⟩, hp, hx, hf, hc⟩ := c2 z
    obtain ⟨t, x, p, ρ, re⟩ := tr9_end t3 t1 t2
    have ra : (RA9 (es.foldl uC c00)).1 = 0 ∧ σ2.2.1 97 a = u := by
      rcases rq with ⟨-, -, -, q, -⟩ | ⟨es2, t', x', q', ρ', re2, q1, q2, q3⟩
      · exact absurd q z
      · have d := (RE.det re re2 rfl rfl evt_nil evt_nil).2
        subst d
        by_cases y : w1 = 0
        · exact ⟨q1.symm.trans y, (q2 y).2.2⟩
        · exact absurd (q3 y).1 z
    have md := (rd.2 z).1
    have e10 : τ2.1 10 = (es.foldl uC c00).rn := by omega
    have g6 := g2.1
    have w2 : CDW τ2 := cdw_read hs re ra.1 (by omega) hp hf md e10 (fun r x y => by
      have mk := makers hs t3 re ra.1 (by omega) hp hf hx t2 md e10 r x y
      have nn := nn2 r x (by omega)
      have pn := (g2.2 r x y).2.2.2.2.2.2.2.2
      exact ⟨mk.2.2.2.2.1, pn, nn.2⟩)
    refine ⟨?_, w2, sc, hi, un⟩
    exact hT.rdy gt fr (by decide) (fun q q0 q1 => fz z q q0 (by omega)) (by omega) hK2 (fun q q0 q1 => rtc_of hA2 hB2 w2 g2 np2 nn2 q0 q1)
/-- at first -/
theorem sch_first {z : MS} (h10 : z.1 10 = 0) (h48 : ∀ i, z.2.1 48 i = 0) (h49 : ∀ i, z.2.1 49 i = 0) (hs : SCA z) : SCH z := ⟨hs, ⟨fun y e => by rw [h49] at e; omega, fun q _ _ e => by rw [h48] at e; omega⟩, fun q a b => by omega⟩
end L8S
/-! the made codes, and what is kept for beside -/
section IV9
variable {S : Nat → Prop} {T T2 : CT} {σ σ2 τ τ2 : MS} {a c : Nat} {C E M E2 M2 : Int → Nat} {q r w u v n p s t v2 : Int}
/-- the text's own codes of two states are alike -/
def RB9 (τ τ2 : MS) : Prop := τ2.1 10 = τ.1 10 ∧ (τ2.2.1 11 = τ.2.1 11 ∧ τ2.2.1 12 = τ.2.1 12) ∧ ∀ q, 0 ≤ q → q < τ.1 10 → rV τ2 (6 + q) = rV τ (6 + q) ∧ τ2.2.1 9 (6 + q) = τ.2.1 9 (6 + q)
theorem RB9.k6 (m : K6m τ τ2) (e10 : τ2.1 10 = τ.1 10) : RB9 τ τ2 := ⟨e10, ⟨m.2.1, m.2.2.1⟩, fun q _ _ => ⟨congrArg RTS.V (m.1 (6 + q)), congrArg RTS.n (m.1 (6 + q))⟩⟩
theorem rv_6k (ie : ∀ y, 1320 ≤ y → y < 2640 → IEQ τ y τ2 y) (e9 : τ2.2.1 9 (6 + q) = τ.2.1 9 (6 + q)) (bk : BKA τ 2) (q0 : 0 ≤ q) (q1 : q < τ.1 10) : rV τ2 (6 + q) = rV τ (6 + q) := by
  have b := (bk.2 q q0 q1).1
  have b6 : bkm 2 = 6 := rfl
  rw [b6] at b
  have t6 := bk.1
  unfold rV
  rw [e9]
  funext k
  by_cases z : 0 ≤ k ∧ k < τ.2.1 9 (6 + q)
  · rw [if_pos z, if_pos z]; exact ri_ie2 (ie _ (by omega) (by omega))
  · rw [if_neg z, if_neg z]
theorem RB9.xp (x : XP τ τ2) (bk : BKA τ 2) (e10 : τ2.1 10 = τ.1 10) (e11 : τ2.2.1 11 = τ.2.1 11) (e12 : τ2.2.1 12 = τ.2.1 12) : RB9 τ τ2 := ⟨e10, ⟨e11, e12⟩, fun q q0 q1 => ⟨rv_6k x.1 (x.2 (6 + q) (by omega)) bk q0 q1, x.2 (6 + q) (by omega)⟩⟩
theorem RB9.rkp (x : RKP τ τ2) (bk : BKA τ 2) : RB9 τ τ2 := ⟨x.2.1 10 (by decide), ⟨x.2.2.1 11 (by decide), x.2.2.1 12 (by decide)⟩, fun q q0 q1 => ⟨rv_6k (fun y _ _ => x.1.1 y (by omega)) (by rw [x.1.2]) bk q0 q1, by rw [x.1.2]⟩⟩
theorem ms8_mv (eV : rV τ2 (6 + q) = rV τ (6 + q)) (e9 : τ2.2.1 9 (6 + q) = τ.2.1 9 (6 + q)) : mS8 τ2 q = mS8 τ q := by
  unfold mS8
  rw [eV, e9]
/-- codes of the text, as a bank -/
theorem vb_rs (eV : rV τ2 (6 + q) = rV τ (6 + q)) (e9 : τ2.2.1 9 (6 + q) = τ.2.1 9 (6 + q)) (e12 : τ2.2.1 12 = τ.2.1 12) : rS (vb τ2) q = rS (vb τ) q := by
  have h12 : (vb τ2).2.1 12 = (vb τ).2.1 12 := by rw [vb_o (Or.inl (by decide)), vb_o (Or.inl (by decide)), e12]
  have hV : rV (vb τ2) q = rV (vb τ) q := by rw [vb_rv, vb_rv, eV]
  have h9 : (vb τ2).2.1 9 q = (vb τ).2.1 9 q := by rw [vb_9, vb_9, e9]
  have h14 : (vb τ2).2.1 14 = (vb τ).2.1 14 := rfl
  have h15 : (vb τ2).2.1 15 = (vb τ).2.1 15 := rfl
  have h16 : (vb τ2).2.1 16 = (vb τ).2.1 16 := rfl
  have h17 : (vb τ2).2.1 17 = (vb τ).2.1 17 := rfl
  have h18 : (vb τ2).2.1 18 = (vb τ).2.1 18 := rfl
  unfold rS
  rw [hV, h9, h12, h14, h15, h16, h17, h18]
theorem vb_rd (d : DNR τ q) (d17 : τ.2.1 17 (12 * q) = 0) (h12 : 0 ≤ τ.2.1 12 q ∧ τ.2.1 12 q ≤ 12) : rS (vb τ) q = rS τ q := by
  have hV : rV (vb τ) q = rV τ q := by rw [vb_rv, rv_6 d]
  have h9 : (vb τ).2.1 9 q = τ.2.1 9 q := by rw [vb_9, d.2.2.2.2.1]
  have hF : (vb τ).2.1 14 q = τ.2.1 14 q := d.1.symm
  have b12 : (vb τ).2.1 12 = τ.2.1 12 := vb_o (Or.inl (by decide))
  have F1 := d.1
  have e15 : (vb τ).2.1 15 (12 * q + 0) = τ.2.1 15 (12 * q + 0) := by
    rw [vb_15, show 12 * q + 0 = 12 * q by omega, d.2.1]; omega
  have h15 : (fun f => if 0 ≤ f ∧ f < τ.2.1 14 q then (vb τ).2.1 15 (12 * q + f) else 0) = fun f => if 0 ≤ f ∧ f < τ.2.1 14 q then τ.2.1 15 (12 * q + f) else 0 := by
    funext f
    by_cases z : 0 ≤ f ∧ f < τ.2.1 14 q
    · rw [if_pos z, if_pos z]
      have f0 : f = 0 := by omega
      rw [f0]; exact e15
    · rw [if_neg z, if_neg z]
  have h16 : (fun f => if 0 ≤ f ∧ f < τ.2.1 14 q then (vb τ).2.1 16 (12 * q + f) else 0) = fun f => if 0 ≤ f ∧ f < τ.2.1 14 q then τ.2.1 16 (12 * q + f) else 0 := by
    funext f
    by_cases z : 0 ≤ f ∧ f < τ.2.1 14 q
    · rw [if_pos z, if_pos z]
      have f0 : f = 0 := by omega
      rw [f0, vb_16, show 12 * q + 0 = 12 * q by omega, d.2.2.1]
    · rw [if_neg z, if_neg z]
  have h17 : (fun f => if 0 ≤ f ∧ f < τ.2.1 14 q then (vb τ).2.1 17 (12 * q + f) else 0) = fun f => if 0 ≤ f ∧ f < τ.2.1 14 q then τ.2.1 17 (12 * q + f) else 0 := by
    funext f
    by_cases z : 0 ≤ f ∧ f < τ.2.1 14 q
    · rw [if_pos z, if_pos z]
      have f0 : f = 0 := by omega
      rw [f0, vb_17, show 12 * q + 0 = 12 * q by omega, d17]
    · rw [if_neg z, if_neg z]
  have h18 : (fun f m => if (0 ≤ f ∧ f < τ.2.1 14 q) ∧ 0 ≤ m ∧ m < τ.2.1 12 ((vb τ).2.1 15 (12 * q + f)) then (vb τ).2.1 18 (144 * q + 12 * f + m) else 0) = fun f m => if (0 ≤ f ∧ f < τ.2.1 14 q) ∧ 0 ≤ m ∧ m < τ.2.1 12 (τ.2.1 15 (12 * q + f)) then τ.2.1 18 (144 * q + 12 * f + m) else 0 := by
    funext f m
    by_cases z : 0 ≤ f ∧ f < τ.2.1 14 q
    · have f0 : f = 0 := by omega
      rw [f0, e15]
      have q15 : τ.2.1 15 (12 * q + 0) = q := by rw [show 12 * q + 0 = 12 * q by omega]; exact d.2.1
      rw [q15]
      by_cases y : (0 ≤ (0 : Int) ∧ (0 : Int) < τ.2.1 14 q) ∧ 0 ≤ m ∧ m < τ.2.1 12 q
      · rw [if_pos y, if_pos y, vb_18, show 144 * q + 12 * 0 + m = 144 * q + m by omega, d.2.2.2.1 m y.2.1 (by omega)]
        omega
      · rw [if_neg y, if_neg y]
    · rw [if_neg (fun y => z y.1), if_neg (fun y => z y.1)]
  unfold rS
  rw [hV, h9, b12, hF, h15, h16, h17, h18]
theorem LBT.mv (h : LBT τ r) (eV : rV τ2 (6 + r) = rV τ (6 + r)) (e9 : τ2.2.1 9 (6 + r) = τ.2.1 9 (6 + r)) : LBT τ2 r := fun k k0 k1 c => by
  have k2 : k < τ.2.1 9 (6 + r) := by rw [← e9]; exact k1
  have A := kd_rs (τ := τ2) (r := 6 + r) k0 k1
  have B := kd_rs (τ := τ) (r := 6 + r) k0 k2
  have e : (rS τ2 (6 + r)).V = (rS τ (6 + r)).V := eV
  rw [e] at A
  have a3 : τ2.2.1 3 (220 * (6 + r) + k) = τ.2.1 3 (220 * (6 + r) + k) := A.1.symm.trans B.1
  have a4 : τ2.2.1 4 (220 * (6 + r) + k) = τ.2.1 4 (220 * (6 + r) + k) := A.2.symm.trans B.2
  rw [a3] at c
  rw [a4]
  exact h k k0 k2 c
theorem VBI.mv (h : VBI τ) (b : RB9 τ τ2) : VBI τ2 := fun r r0 r1 => by
  rw [b.1] at r1
  have z := h r r0 r1
  have e := b.2.2 r r0 r1
  rw [e.1, e.2]
  exact ⟨z.1, z.2.1, z.2.2.mv e.1 e.2⟩
theorem KPA.mv (h : KPA τ) (b : BEA τ) (e : ∀ q, 0 ≤ q → q < τ.1 10 → rS τ2 q = rS τ q) (rb : RB9 τ τ2) : KPA τ2 ∧ BEA τ2 := by
  obtain ⟨e10, ⟨e11, e12⟩, e6⟩ := rb
  refine ⟨fun r r0 r1 => ?_, ?_⟩
  · rw [e10] at r1
    rw [e r r0 r1, e12]; exact h r r0 r1
  · have gr : gsT (τ2.1 10) (rS τ2) = gsT (τ.1 10) (rS τ) := by
      funext i
      unfold gsT
      rw [e10]
      by_cases c : 0 ≤ i ∧ i < τ.1 10
      · rw [if_pos c, if_pos c, e i c.1 c.2]
      · rw [if_neg c, if_neg c]
    have gm : gsT (τ2.1 10) (mS8 τ2) = gsT (τ.1 10) (mS8 τ) := by
      funext i
      unfold gsT
      rw [e10]
      by_cases c : 0 ≤ i ∧ i < τ.1 10
      · rw [if_pos c, if_pos c, ms8_mv (e6 i c.1 c.2).1 (e6 i c.1 c.2).2]
      · rw [if_neg c, if_neg c]
    have pm : pM8 τ2 = pM8 τ := by
      funext i
      unfold pM8
      rw [e11]
    intro q W L z
    rw [gm, pm] at z
    rw [gr, pm]
    exact b q W L z
/-- the made codes are the text's own -/
def MDA (σ τ : MS) (a : Nat) : Prop := ∀ (q : Int) (m : Nat), 0 ≤ q → q < τ.1 10 → σ.2.1 (1000 + adN σ 98 a) q = (m : Int) → (cdS σ m = rS (vb τ) q ∧ σ.2.1 8 m = τ.2.1 11 q) ∧ (WOK (cdW σ m) (σ.2.1 6 m) ∧ LNK (cdW σ m) (σ.2.1 6 m) ∧ RN9 σ m (τ.2.1 12))
/-- the made codes stay -/
def MQ9 (σ σ2 : MS) (a : Nat) : Prop := ∀ r, 0 ≤ r → r < 6 → ∃ m : Nat, σ.2.1 (1000 + adN σ 98 a) r = (m : Int) ∧ σ2.2.1 (1000 + adN σ2 98 a) r = (m : Int) ∧ CSM σ σ2 m
theorem RN9.csm {NM : Int → Int} (h : RN9 σ c NM) (cs : CSM σ σ2 c) : RN9 σ2 c NM := by
  unfold RN9 at h ⊢
  rw [cs.1 10 (by decide) (by decide), cs.rw (f := 11) (by decide) (by decide) (by decide), cs.rw (f := 14) (by decide) (by decide) (by decide)]
  exact h
theorem MDA.mv (h : MDA σ τ a) (k : MQ9 σ σ2 a) (t6 : τ.1 10 ≤ 6) (b : RB9 τ τ2) : MDA σ2 τ2 a := fun q m q0 q1 e => by
  rw [b.1] at q1
  obtain ⟨m', e1, e2, cs⟩ := k q q0 (by omega)
  have em : m = m' := by omega
  subst em
  have A := h q m q0 q1 e1
  have c6 := cs.1 6 (by decide) (by decide)
  have bq := b.2.2 q q0 q1
  rw [vb_rs bq.1 bq.2 b.2.1.2, b.2.1.1, b.2.1.2]
  exact ⟨⟨by rw [cs.s]; exact A.1.1, (cs.1 8 (by decide) (by decide)).trans A.1.2⟩, by rw [cs.w, c6]; exact A.2.1, by rw [cs.w, c6]; exact A.2.2.1, A.2.2.2.csm cs⟩
theorem mq_q6 (hK : KB6 S T σ a C E M) (hq : Q6 σ T2 σ2 a C E M) : MQ9 σ σ2 a ∧ (PR5 σ a → PR5 σ2 a) := by
  obtain ⟨S2, k2, c, p⟩ := hq
  exact ⟨fun r r0 r6 => ⟨M r, (hK.1.2.1 r r0 r6).2.1, (k2.1.2.1 r r0 r6).2.1, (c r r0 r6).2⟩, p⟩
/-- .. behind a read -/
theorem MDA.rdy (hA : CDA σ τ C) (hk : KB6 S T σ a C E M) (mk : ∀ (q : Int) (m c : Nat), 0 ≤ q → q < v → σ.2.1 (1000 + adN σ 98 a) q = (m : Int) → σ.2.1 (1000 + adN σ 99 a) q = (c : Int) → MKE σ m c) (ev : v = τ.1 10) (t6 : τ.1 10 ≤ 6) (hd : ∀ r, 0 ≤ r → r < τ.1 10 → DNR τ r ∧ τ.2.1 17 (12 * r) = 0) (nm : ∀ r, 0 ≤ r → r < τ.1 10 → 0 ≤ τ.2.1 12 r ∧ τ.2.1 12 r ≤ 12) : MDA σ τ a := fun q m q0 q1 e => by
  have kq := (hk.1.2.1 q q0 (by omega)).1.1
  obtain ⟨m1, m2, ⟨m6, m7, m8, m9⟩, m14⟩ := mk q m (C q) q0 (by omega) e kq
  obtain ⟨dn, d17⟩ := hd q q0 q1
  have A := hA q q0 q1
  have er := vb_rd dn d17 (nm q q0 q1)
  have eS : cdS σ m = rS τ q := m1.trans A.1.1
  have f10 : σ.2.1 10 m = 1 := (congrArg RTS.F eS).trans dn.1
  have c10 : σ.2.1 10 (C q) = 1 := (congrArg RTS.F A.1.1).trans dn.1
  have f11 : rwF σ 11 m 0 = rwF σ 11 (C q) 0 := by
    have z : (if (0 : Int) ≤ 0 ∧ (0 : Int) < σ.2.1 10 m then rwF σ 11 m 0 else 0) = (if (0 : Int) ≤ 0 ∧ (0 : Int) < σ.2.1 10 (C q) then rwF σ 11 (C q) 0 else 0) := congrFun (congrArg RTS.fo m1) 0
    rw [f10, c10, if_pos (by decide), if_pos (by decide)] at z
    exact z
  refine ⟨⟨eS.trans er.symm, m8.trans A.1.2.2.1⟩, ?_, ?_, fun f f0 f1 => ?_⟩
  · rw [m2, m6]; exact A.2.1
  · rw [m2, m6]; exact A.2.2.1
  · have z : f = 0 := by omega
    subst z
    have n9 := A.2.2.2 0 (Int.le_refl _) (by rw [c10]; decide)
    rw [m14, f11]; exact n9
theorem VBI.rdy (hB : CDB τ) (ez : EZA τ) (g : GDA τ) (hd : ∀ r, 0 ≤ r → r < τ.1 10 → DNR τ r ∧ τ.2.1 17 (12 * r) = 0) : VBI τ := fun r r0 r1 => by
  have d := (hd r r0 r1).1
  have e9 := d.2.2.2.2.1
  rw [rv_6 d, e9]
  refine ⟨(hB r r0 r1).1, ez r r0 r1, fun k k0 k1 c => ?_⟩
  rw [e9] at k1
  have i := d.2.2.2.2.2 k k0 k1
  have l := (g.2 r r0 r1).2.2.2.2.2.2.2.1 k k0 k1
  rw [d.1] at l
  rw [i.1] at c
  rw [i.2.1]
  have z := l c
  omega
/-- all that the law keeps for beside -/
def XI9 (σ τ : MS) (a : Nat) : Prop := MDA σ τ a ∧ PR5 σ a ∧ (KPA τ ∧ BEA τ) ∧ VBI τ
theorem XI9.quiet (h : XI9 σ τ a) (hK : KB6 S T σ a C E M) (hq : Q6 σ T2 σ2 a C E M) (m : K6m τ τ2) (e10 : τ2.1 10 = τ.1 10) (t6 : τ.1 10 ≤ 6) : XI9 σ2 τ2 a := by
  have rb := RB9.k6 m e10
  have z := mq_q6 hK hq
  exact ⟨h.1.mv z.1 t6 rb, z.2 h.2.1, h.2.2.1.1.mv h.2.2.1.2 (fun j _ _ => m.1 j) rb, h.2.2.2.mv rb⟩
theorem ob31 {b : Nat} (h : (T b).1 = 31) : OB T b 1 := ⟨by omega, by rw [h]; rfl, by omega⟩
theorem pass9 {ks : List Nat} {NM PM : Int → Int} (h : XI9 σ τ a) (hK : KB6 S T σ a C E M) (hK2 : KB6 S T2 σ2 a C E M) (e97 : σ.2.1 97 a = τ.1 10) (hp : PAC S T σ T2 σ2 a C NM PM w r u) (fr : FrC T ks σ σ2) (h9 : ∀ f ∈ [0, 1, 55, 98, 99, 110], f ∉ ks) (g : GDA τ) (np : PAR τ) (hB : CDB τ) (bk : BKA τ 2) (q : PSQ τ τ2 w r v) (x : XP τ τ2) (e10 : τ2.1 10 = τ.1 10) (e11 : τ2.2.1 11 = τ.2.1 11) (e12 : τ2.2.1 12 = τ.2.1 12) : XI9 σ2 τ2 a := by
  have rb := RB9.xp x bk e10 e11 e12
  have mq : MQ9 σ σ2 a := fun j j0 j6 => by
    have km := (hK.1.2.1 j j0 j6).2
    refine ⟨M j, km.1, (hK2.1.2.1 j j0 j6).2.1, ?_⟩
    rcases hp with ⟨-, -, -, e⟩ | ⟨y1, -, pf, -⟩
    · rw [e]; exact CSM.rf
    · refine pf.1 (M j) km.2.1 (ob31 km.2.2) (fun e => ?_)
      have g6 := g.1
      have kc := (hK.co y1.2.1 (by omega)).2
      have k3 := km.2.2
      rw [e, kc] at k3
      omega
  exact ⟨h.1.mv mq g.1.2 rb, h.2.1.frc fr h9, h.2.2.1.1.pass h.2.2.1.2 g np (fun j a b => (hB j a b).1) (fun j a b => cl_rs (g.2 j a b)) q e10 e11 e12 (fun j a b => ms8_mv (rb.2.2 j a b).1 (rb.2.2 j a b).2), h.2.2.2.mv rb⟩
theorem read9 {Sx : Int → Int} {pk pv w1 w2 r0 : Int} (h : XI9 σ τ a) (hK : KB6 S T σ a C E M) (fr : FrC T [5, 6, 7, 8, 9, 10, 35, 38, 42, 43, 44, 45, 46, 47, 50, 51, 56, 84, 85, 86, 87, 96, 97, 104, 105, 512, 516, 517, 518, 519, 520, 521, 522, 523] σ σ2) (hR : RDM S C (nmQ6 Sx) (mk00 pk pv) T σ T2 σ2 a Sx u) (rq : RQ9 Sx u w1 w2 r0 (σ2.2.1 97 a)) (hs : SEN Sx) (rd : RD6 Sx τ τ2 v) (uv : u = v) (e97 : σ2.2.1 97 a = τ2.1 10) (g : GDA τ) (bk : BKA τ 2) (g2 : GDA τ2) (nn2 : NAM τ2) (ez : EZA τ2) (hK2 : KB6 S T2 σ2 a C E2 M2) (hA2 : CDA σ2 τ2 C) (hB2 : CDB τ2) : XI9 σ2 τ2 a := by
  have p5 : PR5 σ2 a := h.2.1.frc fr (by decide)
  obtain ⟨-, c1, c2, -, gt, fz, mA, mB⟩ := hR
  subst uv
  by_cases z : u = -1
  · have kp := rd.1 z
    have g6 := g.1
    have rb := RB9.rkp kp bk
    exact ⟨h.1.mv (fun j j0 j6 => by
      have km := (hK.1.2.1 j j0 j6).2.1
      have y := mA z j (M j) j0 j6 km
      exact ⟨M j, km, y.2, y.1⟩) g6.2 rb, p5, h.2.2.1.1.mv h.2.2.1.2 (fun j x y => kp.rs x (by omega) (by have := (g.2 j x y).1; omega)) rb, h.2.2.2.mv rb⟩
  · obtain ⟨i, es, N, mz, Pf, f, ⟨t1, t2, t3⟩, ⟨b1, b2, b3, b4⟩, hp, hx, hf, hc⟩ := c2 z
    obtain ⟨t, x, p, ρ, re⟩ := tr9_end t3 t1 t2
    have ra : (RA9 (es.foldl uC c00)).1 = 0 ∧ σ2.2.1 97 a = u := by
      rcases rq with ⟨-, -, -, q, -⟩ | ⟨es2, t', x', q', ρ', re2, q1, q2, q3⟩
      · exact absurd q z
      · have d := (RE.det re re2 rfl rfl evt_nil evt_nil).2
        subst d
        by_cases y : w1 = 0
        · exact ⟨q1.symm.trans y, (q2 y).2.2⟩
        · exact absurd (q3 y).1 z
    have md := (rd.2 z).1
    have e10 : τ2.1 10 = (es.foldl uC c00).rn := by omega
    have g6 := g2.1
    have hd : ∀ r, 0 ≤ r → r < τ2.1 10 → DNR τ2 r ∧ τ2.2.1 17 (12 * r) = 0 := fun r x y => ⟨(md.2.1 r x y).1, (md.2.1 r x y).2.1⟩
    have kb := kpa_read hs re ra.1 (by omega) hp hf md e10 (fun r x y => by
      have mk := makers hs t3 re ra.1 (by omega) hp hf hx t2 md e10 r x y
      exact ⟨mk.2.2.2.2.1, (g2.2 r x y).2.2.2.2.2.2.2.2, (nn2 r x (by omega)).2⟩) g2
    exact ⟨MDA.rdy hA2 hK2 (fun q m c q0 q1 => mB z q m c q0 q1) (by omega) g6.2 hd (fun r x y => nn2 r x (by omega)), p5, kb, VBI.rdy hB2 ez g2 hd⟩
theorem xi9_first (h10 : τ.1 10 = 0) (h110 : σ.2.1 110 a < 0) : XI9 σ τ a := ⟨fun q m q0 q1 => absurd q1 (by omega), fun p hp => absurd hp (by omega), kpa_first h10, fun r r0 r1 => absurd r1 (by omega)⟩
end IV9
/-! beside of both keepers -/
section IW9
variable {S : Nat → Prop} {T T2 : CT} {σ σ2 τ : MS} {a : Nat} {C E M : Int → Nat} {r p q s t n v v2 Cn : Int}
/-- beside of the keeper, from the state of the call on -/
def BSV9 (σ : MS) (a : Nat) (C E M : Int → Nat) (Cn r p q s t n v : Int) : Prop := (¬ ((0 ≤ r ∧ r < Cn) ∧ 1 ≤ n ∧ n ≤ 20000) ∧ v = -1) ∨ (((0 ≤ r ∧ r < Cn) ∧ 1 ≤ n ∧ n ≤ 20000) ∧ ∃ (S : Nat → Prop) (T1 T2 : CT) (σ1 : MS), KB6 S T1 σ1 a C E M ∧ (WT T1 σ1 ∧ OB T1 a 11) ∧ (∀ j, 0 ≤ j → j < 6 → CSM σ σ1 (C j) ∧ CSM σ σ1 (M j)) ∧ PR5 σ1 a ∧ GT T1 T2 ∧ BSU9 S T1 T2 σ1 a C Cn r p q s t n v)
theorem cdx_c (hA : CDA σ τ C) (cs : ∀ j, 0 ≤ j → j < τ.1 10 → CSM σ σ2 (C j)) (so : ∀ j, 0 ≤ j → j < τ.1 10 → S (C j) ∧ OB T (C j) 1) : CDX S T σ2 τ C := fun j j0 j1 => by
  have A := hA j j0 j1
  have c := cs j j0 j1
  have c6 := c.1 6 (by decide) (by decide)
  exact ⟨so j j0 j1, ⟨by rw [c.s]; exact A.1.1, (c.1 8 (by decide) (by decide)).trans A.1.2.2.1⟩, by rw [c.w, c6]; exact A.2.1, by rw [c.w, c6]; exact A.2.2.1, A.2.2.2.csm c⟩
theorem cdx_m (hM : MDA σ τ a) (hm : ∀ j, 0 ≤ j → j < τ.1 10 → σ.2.1 (1000 + adN σ 98 a) j = (M j : Int)) (cs : ∀ j, 0 ≤ j → j < τ.1 10 → CSM σ σ2 (M j)) (so : ∀ j, 0 ≤ j → j < τ.1 10 → S (M j) ∧ OB T (M j) 1) : CDX S T σ2 (vb τ) M := fun j j0 j1 => by
  have A := hM j (M j) j0 j1 (hm j j0 j1)
  have c := cs j j0 j1
  have c6 := c.1 6 (by decide) (by decide)
  rw [vb_o (Or.inl (by decide)), vb_o (Or.inl (by decide))]
  exact ⟨so j j0 j1, ⟨by rw [c.s]; exact A.1.1, (c.1 8 (by decide) (by decide)).trans A.1.2⟩, by rw [c.w, c6]; exact A.2.1, by rw [c.w, c6]; exact A.2.2.1, A.2.2.2.csm c⟩
theorem beside9 (hx : XI9 σ τ a) (hK : KB6 S T σ a C E M) (hA : CDA σ τ C) (hB : CDB τ) (ez : EZA τ) (gd : GDA τ) (np : PAR τ) (nm : NAM τ) (bk : BKA τ 2) (hW : CDW τ) (row : BSV9 σ a C E M (τ.1 10) r p q s t n v) (rb : RBS9 τ r p q s t n v2) : v = v2 := by
  rcases row with ⟨z, rfl⟩ | ⟨⟨hr, hn⟩, S1, T1, T2, σ1, k1, ⟨w1, o1⟩, cs1, p5, gt, σA, qf, wA, bA, tA, fA, p9, to, pl, txa, txb, txc, txd, txe, txf, y, pxa, pxb, pxc, pxd, pxe, pxf, yy, s2, s3, ⟨e110, e0, e1⟩, ⟨t59, t60, t61, t62, t63, t64, t55⟩, ⟨u59, u60, u61, u62, u63, u64, u55⟩, ⟨jt, bt⟩, ⟨jp, bp⟩, B0, jb, wB, tg⟩
  · rcases rb with ⟨-, z2⟩ | ⟨z2, -⟩
    · exact z2.symm
    · exact absurd z2 z
  have t6 := gd.1.2
  have o2 : OB T2 a 11 := gt.ob o1
  have kA := (k1.q o1 w1 gt qf bA).1
  have csC : ∀ j, 0 ≤ j → j < τ.1 10 → CSM σ σA (C j) := fun j a b => (cs1 j a (by omega)).1.trans (CSM.q qf (k1.co a (by omega)).1 (ob50 (k1.co a (by omega)).2))
  have csM : ∀ j, 0 ≤ j → j < τ.1 10 → CSM σ σA (M j) := fun j a b => (cs1 j a (by omega)).2.trans (k1.csq qf a (by omega))
  have soC : ∀ j, 0 ≤ j → j < τ.1 10 → S1 (C j) ∧ OB T2 (C j) 1 := fun j a b => ⟨(kA.co a (by omega)).1, ob50 (kA.co a (by omega)).2⟩
  have soM : ∀ j, 0 ≤ j → j < τ.1 10 → S1 (M j) ∧ OB T2 (M j) 1 := fun j a b => ⟨(kA.1.2.1 j a (by omega)).2.2.1, ob31 (kA.1.2.1 j a (by omega)).2.2.2⟩
  have xC : CDX S1 T2 σA τ C := cdx_c hA csC soC
  have xM : CDX S1 T2 σA (vb τ) M := cdx_m hx.1 (fun j a b => (hK.1.2.1 j a (by omega)).2.1) csM soM
  have gx : GDX τ := ⟨gd, np, fun j a b => (hB j a b).1, ez⟩
  have gv : GDX (vb τ) := gdx_vb hx.2.2.2 bk np nm (fun j a b => (gd.2 j a b).2.2.2.2.2.2.2.2)
  have op : OB T2 p9 0 := by
    rcases wf_110 wA o2 with w | ⟨x, hx2, kx⟩
    · omega
    · have e : p9 = x := by omega
      rw [e]
      exact ⟨by omega, by rw [kx]; rfl, by omega⟩
  have k0 := (ad_ex (Q := fun x => (T2 x).1 = 37) (wf_0 wA op)).2
  have k2 := (ad_ex (Q := fun x => (T2 x).1 = 57) (wf_1 wA op)).2
  have sp := bA.2.2.2 p9 e110
  have pr := PR5.q qf p5 p9 e110
  rw [adN_of e0] at k0 sp pr
  rw [adN_of e1] at k2 sp pr
  have ot : OB T2 to 7 := ⟨by omega, by rw [k0]; rfl, by omega⟩
  have ol : OB T2 pl 7 := ⟨by omega, by rw [k2]; rfl, by omega⟩
  have ne : to ≠ pl := fun e => by
    rw [e, k2] at k0
    omega
  have y9 := (ad_ex (Q := fun x => AR T2 x 5 6 6) (wf_99 wA o2)).2
  have y8 := (ad_ex (Q := fun x => AR T2 x 4 6 6) (wf_98 wA o2)).2
  have ey : adN σA 99 a = y := by
    have z := pr.1
    rw [t55] at z
    exact adN_of z.symm
  have eyy : adN σA 98 a = yy := by
    have z := pr.2
    rw [u55] at z
    exact adN_of z.symm
  rw [ey] at y9
  rw [eyy] at y8
  have rwt := rwf_o (X := C) bA.1 sp.1 ot wA t6 (fun j a b => by have z := (gd.2 j a b).1; omega) (Or.inr y9.1) (fun j a b => by rw [← ey]; exact (kA.1.2.1 j a b).1.1) xC
  have rwp := rwf_o (X := M) (τ := vb τ) bA.1 sp.2 ol wA t6 (fun j a b => by have z := (gv.1.2 j a b).1; omega) (Or.inl y8.1) (fun j a b => by rw [← eyy]; exact (kA.1.2.1 j a b).2.1) xM
  have lsp := lsp_of (τ := τ) (C := C) (M := M) bA.1 bA.2.1 wA sp.1 sp.2 ot ol ne t6 (Or.inr y9.1 : (T2 y).1 = 4 ∨ (T2 y).1 = 5) (Or.inl y8.1 : (T2 yy).1 = 4 ∨ (T2 yy).1 = 5) soC soM
  rw [adN_of t59, adN_of t60, adN_of t61, adN_of t62, adN_of t63, adN_of t64] at rwt lsp
  rw [adN_of u59, adN_of u60, adN_of u61, adN_of u62, adN_of u63, adN_of u64] at rwp lsp
  have tl : TL9 T2 σA C τ := fun j a b => by
    obtain ⟨x, x1, x2, x3⟩ := tA.1.1 j a b (fA j a b)
    have o := (soC j a b).2
    exact ⟨⟨x, x1, x2, x3⟩, (tA.2.2 j a b).2, by have z := (ar_of (wf_14 wA o) ((ad_1 wA o) 14 (by decide))).2; omega, by have z := (ar_of (wf_11 wA o) ((ad_1 wA o) 11 (by decide))).2; omega, ((csC j a b).1 7 (by decide) (by decide)).trans (hA j a b).1.2.1⟩
  have L : LBO9 T2 σA to txa txb txc txd txe txf y pl pxa pxb pxc pxd pxe pxf yy C M τ := ⟨ne, rwt, rwp, ⟨gx, gv⟩, ⟨gd.bka (by decide), bk⟩, hx.2.2.1, hW, tl, fun j a b => (by have z := (ar_of (wf_11 wA (soM j a b).2) ((ad_1 wA (soM j a b).2) 11 (by decide))).2; omega), lsp⟩
  exact bes9 L jt bt jp bp jb tg hr hn rb
end IW9
/-! THE LAW OF BESIDE -/
def L9 (T : CT) (σ τ : MS) (a : Nat) : Prop := L8 T σ τ a ∧ XI9 σ τ a

