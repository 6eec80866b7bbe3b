/-! constructors: types without the budget -/
def WTn (T : CT) (σ : MS) : Prop := (∀ n a, n < 111 → OB T a (cls n) → FO n (T a).1 T (σ.2.1 n a)) ∧ WTC T σ ∧ WTA T σ ∧ WTQ T σ ∧ WTM T σ
theorem WT.n {T : CT} {σ : MS} (h : WT T σ) : WTn T σ := ⟨h.1, h.2.1, h.2.2.1, h.2.2.2.1, h.2.2.2.2.1⟩
/-- all that stood stands, but a -/
def KPx (a : Nat) (T : CT) (σ : MS) (T2 : CT) (σ2 : MS) : Prop := (∀ c, (T c).1 ≠ 0 → c ≠ a → T2 c = T c ∧ (∀ n, n < 200 → σ2.2.1 n (c : Int) = σ.2.1 n c) ∧ σ2.2.1 (1000 + c) = σ.2.1 (1000 + c)) ∧ σ2.2.1 900 = σ.2.1 900
/-- the codes -/
def CD (K : List Nat) (T : CT) : Prop := ∀ c, OB T c 1 ↔ c ∈ K
section CON
variable {T T2 T3 : CT} {σ σ2 σ3 : MS} {a x y k N n ci : Nat} {v z : Int} {K : List Nat}
theorem KPx.rfl : KPx a T σ T σ := ⟨fun _ _ _ => ⟨Eq.refl _, fun _ _ => Eq.refl _, Eq.refl _⟩, Eq.refl _⟩
theorem KPx.trans (h : KPx a T σ T2 σ2) (g : KPx a T2 σ2 T3 σ3) : KPx a T σ T3 σ3 := ⟨fun c p q => by
  obtain ⟨h1, h2, h3⟩ := h.1 c p q
  obtain ⟨g1, g2, g3⟩ := g.1 c (by rw [h1]; exact p) q
  exact ⟨g1.trans h1, fun n hn => (g2 n hn).trans (h2 n hn), g3.trans h3⟩, g.2.trans h.2⟩
theorem KPx.put (h : KPx a T σ T2 σ2) (hn : n < 200) : KPx a T σ T2 (sA n a v σ2) := ⟨fun c p q => by
  obtain ⟨h1, h2, h3⟩ := h.1 c p q
  exact ⟨h1, fun m hm => by rw [sA_ne (by omega)]; exact h2 m hm, by rw [sA_k (by omega)]; exact h3⟩, by rw [sA_k (by omega)]; exact h.2⟩
/-- something of another kind is made at x, where nothing stood -/
theorem WTn.new (h : WTn T σ) (hx : (T x).1 = 0) (hT : ∀ a, a ≠ x → T2 a = T a) (hf : ∀ n c, n < 200 → c ≠ x → σ2.2.1 n (c : Int) = σ.2.1 n c) (hr : ∀ c, c ≠ x → σ2.2.1 (1000 + c) = σ.2.1 (1000 + c)) (h9 : σ2.2.1 900 = σ.2.1 900) (hk : ((T2 x).1 < 30 ∨ 80 ≤ (T2 x).1) ∧ (T2 x).1 ≠ 4 ∧ (T2 x).1 ≠ 5) (h7 : (T2 x).1 = 7 → ∀ c, (T c).1 ≠ 7) (hv : (IA T2 x ∨ (T2 x).1 = 2) → ∀ i, VOK (T2 x).1 i (σ2.2.1 (1000 + x) i)) : WTn T2 σ2 := by
  obtain ⟨h1, h2, h3, h4, h5⟩ := h
  have g : ∀ c, (T c).1 ≠ 0 → T2 c = T c := fun c p => hT c (fun e => p (by rw [e]; exact hx))
  have gg : GT T T2 := fun c p _ => g c p
  have ob : ∀ c ci, OB T2 c ci → c ≠ x ∧ OB T c ci := fun c ci w => by
    have e : c ≠ x := fun e => by have w1 := w.1; have w2 := w.2.2; rw [e] at w1 w2; omega
    exact ⟨e, by unfold OB at w ⊢; rw [hT c e] at w; exact w⟩
  refine ⟨fun n c q w => ?_, fun c y q r => ?_, fun c q i => ?_, ⟨fun c q i i0 i1 => ?_, fun c q i i0 i1 => ?_⟩, ⟨fun c c' q q' => ?_, fun i i0 i1 => ?_⟩⟩
  · obtain ⟨e, w2⟩ := ob c _ w
    rw [hf n c (by omega) e, hT c e]
    exact fo_mono n q gg (h1 n c q w2)
  · obtain ⟨e, w2⟩ := ob c _ q
    rw [hf 5 c (by omega) e] at r
    rw [hf 6 c (by omega) e]
    obtain ⟨y2, e1, e2, -⟩ := cells_at h1 w2
    have e3 : y2 = y := by omega
    rw [g y (by rw [← e3]; omega)]
    exact h2 c y w2 r
  · by_cases e : c = x
    · rw [e] at q ⊢; exact hv q i
    · rw [hr c e, hT c e]; exact h3 c (by unfold IA at q ⊢; rw [hT c e] at q; exact q) i
  · have e : c ≠ x := fun e => by rw [e] at q; omega
    rw [hT c e] at q i1
    rw [hr c e]
    obtain ⟨y, w1, w2⟩ := h4.1 c q i i0 i1
    exact ⟨y, w1, by rw [g y (by omega)]; exact w2⟩
  · have e : c ≠ x := fun e => by rw [e] at q; omega
    rw [hT c e] at q i1
    rw [hr c e]
    obtain ⟨y, w1, w2⟩ := h4.2 c q i i0 i1
    exact ⟨y, w1, by rw [g y (by omega)]; exact w2⟩
  · by_cases e : c = x
    · by_cases e' : c' = x
      · rw [e, e']
      · rw [hT c' e'] at q'; rw [e] at q; exact absurd q' (h7 q c')
    · by_cases e' : c' = x
      · rw [hT c e] at q; rw [e'] at q'; exact absurd q (h7 q' c)
      · rw [hT c e] at q; rw [hT c' e'] at q'; exact h5.1 c c' q q'
  · rw [h9]
    rcases h5.2 i i0 i1 with q | ⟨y, q1, q2⟩
    · exact Or.inl q
    · exact Or.inr ⟨y, q1, by unfold AR; rw [g y (by have := q2.1; omega)]; exact q2⟩
/-- a raw object is written -/
theorem WTn.raw (h : WTn T σ) (hx : 80 ≤ (T x).1) (hn : n < 200) : WTn T (sA n x v σ) := by
  obtain ⟨h1, h2, h3, h4, h5⟩ := h
  have ob : ∀ c ci, OB T c ci → c ≠ x := fun c ci w e => by have := w.2.2; rw [e] at this; omega
  refine ⟨fun m c q w => ?_, fun c y q r => ?_, fun c q => ?_, ⟨fun c q => ?_, fun c q => ?_⟩, h5.1, ?_⟩
  · rw [sA_ne (by have := ob c _ w; omega)]; exact h1 m c q w
  · have e := ob c _ q
    rw [sA_ne (by omega)] at r
    rw [sA_ne (by omega)]
    exact h2 c y q r
  · rw [sA_k (by omega)]; exact h3 c q
  · rw [sA_k (by omega)]; exact h4.1 c q
  · rw [sA_k (by omega)]; exact h4.2 c q
  · rw [sA_k (by omega)]; exact h5.2
/-- a raw row of codes is written -/
theorem WTn.rawrow (h : WTn T σ) (hx : 80 ≤ (T x).1) : WTn T (sA (1000 + x) z v σ) := by
  obtain ⟨h1, h2, h3, h4, h5⟩ := h
  refine ⟨fun m c q w => ?_, fun c y q r => ?_, fun c q => ?_, ⟨fun c q => ?_, fun c q => ?_⟩, h5.1, ?_⟩
  · rw [sA_k (by omega)]; exact h1 m c q w
  · rw [sA_k (by omega)] at r; rw [sA_k (by omega)]; exact h2 c y q r
  · have e : c ≠ x := fun e => by unfold IA at q; rw [e] at q; omega
    rw [sA_k (by omega)]; exact h3 c q
  · have e : c ≠ x := fun e => by rw [e] at q; omega
    rw [sA_k (by omega)]; exact h4.1 c q
  · have e : c ≠ x := fun e => by rw [e] at q; omega
    rw [sA_k (by omega)]; exact h4.2 c q
  · rw [sA_k (by omega)]; exact h5.2
/-- an object is told finished -/
theorem WTn.tag (h : WTn T σ) (hx : T x = (80 + ci, N)) (hk : 30 ≤ k ∧ k < 80 ∧ kC k = ci) (hf : ∀ m, m < 111 → cls m = ci → FO m k T (σ.2.1 m x)) (hc : ci = 1 → ∀ y : Nat, σ.2.1 5 x = (y : Int) → 13 * σ.2.1 6 x ≤ ((T y).2 : Int) ∨ 2600 ≤ (T y).2) : WTn (tT T x k N) σ := by
  obtain ⟨h1, h2, h3, h4, h5⟩ := h
  have hx1 : (T x).1 = 80 + ci := by rw [hx]
  have g : GT T (tT T x k N) := fun c p r => tT_ne (fun e => by rw [e] at r; omega)
  have gk : ∀ c, (T c).1 < 80 → tT T x k N c = T c := fun c r => tT_ne (fun e => by rw [e] at r; omega)
  have bk : ∀ c, c ≠ x → tT T x k N c = T c := fun c e => tT_ne e
  have xt : tT T x k N x = (k, N) := tT_eq
  refine ⟨fun m c q w => ?_, fun c y q r => ?_, fun c q i => ?_, ⟨fun c q i i0 i1 => ?_, fun c q i i0 i1 => ?_⟩, ⟨fun c c' q q' => ?_, fun i i0 i1 => ?_⟩⟩
  · by_cases e : c = x
    · rw [e] at w ⊢
      have w2 := w.2.1
      rw [xt] at w2 ⊢
      exact fo_mono m q g (hf m q (by rw [← hk.2.2]; exact w2.symm))
    · rw [bk c e]
      exact fo_mono m q g (h1 m c q (by unfold OB at w ⊢; rw [bk c e] at w; exact w))
  · by_cases e : c = x
    · rw [e] at q r ⊢
      have w2 := q.2.1
      rw [xt] at w2
      have hci : ci = 1 := by rw [← hk.2.2]; exact w2
      obtain ⟨y2, e1, e2, e3, e4⟩ : FO 5 k T (σ.2.1 5 x) := hf 5 (by decide) (by rw [hci]; rfl)
      have e5 : y2 = y := by omega
      rw [gk y (by rw [← e5]; by_cases q9 : k = 50
                   · have := e3 q9; omega
                   · have := e4 q9; omega)]
      exact hc hci y r
    · have q2 : OB T c 1 := by unfold OB at q ⊢; rw [bk c e] at q; exact q
      obtain ⟨y2, e1, e2, -⟩ := cells_at h1 q2
      have e3 : y2 = y := by omega
      rw [gk y (by rw [← e3]; omega)]
      exact h2 c y q2 r
  · have e : c ≠ x := fun e => by unfold IA at q; rw [e, xt] at q; have := hk.1; simp only at q; omega
    rw [bk c e]
    exact h3 c (by unfold IA at q ⊢; rw [bk c e] at q; exact q) i
  · have e : c ≠ x := fun e => by rw [e, xt] at q; have q9 : k = 4 := q; omega
    rw [bk c e] at q i1
    obtain ⟨y, w1, w2⟩ := h4.1 c q i i0 i1
    exact ⟨y, w1, by rw [gk y (by omega)]; exact w2⟩
  · have e : c ≠ x := fun e => by rw [e, xt] at q; have q9 : k = 5 := q; omega
    rw [bk c e] at q i1
    obtain ⟨y, w1, w2⟩ := h4.2 c q i i0 i1
    exact ⟨y, w1, by rw [gk y (by omega)]; exact w2⟩
  · have e : ∀ c, (tT T x k N c).1 = 7 → (T c).1 = 7 := fun c q => by
      have e : c ≠ x := fun e => by rw [e, xt] at q; have q9 : k = 7 := q; omega
      rw [bk c e] at q; exact q
    exact h5.1 c c' (e c q) (e c' q')
  · rcases h5.2 i i0 i1 with q | ⟨y, q1, q2⟩
    · exact Or.inl q
    · exact Or.inr ⟨y, q1, by unfold AR; rw [gk y (by have := q2.1; omega)]; exact q2⟩
theorem CD.new (h : CD K T) (hT : ∀ a, a ≠ x → T2 a = T a) (hx : (T x).1 = 0) (hk : (T2 x).1 < 30 ∨ 80 ≤ (T2 x).1) : CD K T2 := fun c => by
  rw [← h c]
  constructor
  · intro w
    have e : c ≠ x := fun e => by have w1 := w.1; have w2 := w.2.2; rw [e] at w1 w2; omega
    unfold OB at w ⊢; rw [hT c e] at w; exact w
  · intro w
    have e : c ≠ x := fun e => by have w1 := w.1; rw [e] at w1; omega
    unfold OB at w ⊢; rw [hT c e]; exact w
theorem CD.tag (h : CD K T) (hx : 80 ≤ (T x).1) (hk : kC k ≠ 1) : CD K (tT T x k N) := fun c => by
  rw [← h c]
  by_cases e : c = x
  · constructor
    · intro w; rw [e] at w; have := w.2.1; rw [tT_eq] at this; exact absurd this hk
    · intro w; rw [e] at w; have := w.2.2; omega
  · unfold OB; rw [tT_ne e]
theorem CD.tagC (h : CD K T) (hk : k = 31 ∨ k = 50) : CD (x :: K) (tT T x k N) := fun c => by
  by_cases e : c = x
  · constructor
    · intro _; rw [e]; exact List.mem_cons_self ..
    · intro _; rw [e]; unfold OB; rw [tT_eq]; show 30 ≤ k ∧ kC k = 1 ∧ k < 80; rcases hk with h | h <;> rw [h] <;> decide
  · constructor
    · intro w; exact List.mem_cons_of_mem _ ((h c).mp (by unfold OB at w ⊢; rw [tT_ne e] at w; exact w))
    · intro w
      rcases List.mem_cons.mp w with q | q
      · exact absurd q e
      · have w2 := (h c).mpr q
        unfold OB at w2 ⊢; rw [tT_ne e]; exact w2
end CON
/-! a constructor under way: a is raw, of class ci -/
def CX (a ci : Nat) (K : List Nat) (G G1 : Nat) (T0 : CT) (σ0 : MS) (T : CT) (σ : MS) : Prop := T a = (80 + ci, 0) ∧ WTn T σ ∧ CD K T ∧ KPx a T0 σ0 T σ ∧ σ.1 0 = σ0.1 0 + G ∧ σ.1 1 = σ0.1 1 + G1
section CXS
variable {T T0 T2 : CT} {σ σ0 σ2 : MS} {a x y k N n ci cj G G1 H H1 : Nat} {v z : Int} {K K2 : List Nat}
theorem CX.begin (h1 : T a = (80 + ci, 0)) (h2 : WTn T σ) (h3 : CD K T) : CX a ci K 0 0 T σ T σ := ⟨h1, h2, h3, KPx.rfl, by omega, by omega⟩
theorem CX.r (h : CX a ci K G G1 T0 σ0 T σ) (hc : ci < 12) : OBr T a ci := by
  unfold OBr; rw [h.1]
  refine ⟨by show 30 ≤ 80 + ci; omega, ?_, by show 80 + ci < 94; omega⟩
  show kC (80 + ci) = ci
  unfold kC; rw [if_neg (by omega), if_neg (by omega), if_pos (by omega)]; omega
theorem CX.put (h : CX a ci K G G1 T0 σ0 T σ) (hn : n < 200) : CX a ci K G G1 T0 σ0 T (sA n a v σ) :=
  ⟨h.1, h.2.1.raw (by rw [h.1]; show 80 ≤ 80 + ci; omega) hn, h.2.2.1, h.2.2.2.1.put hn, h.2.2.2.2.1, h.2.2.2.2.2⟩
theorem CX.ne (h : CX a ci K G G1 T0 σ0 T σ) (hx : (T x).1 = 0) : a ≠ x := fun e => by rw [← e, h.1] at hx; have h9 : 80 + ci = 0 := hx; omega
/-- something is made -/
theorem CX.new (h : CX a ci K G G1 T0 σ0 T σ) (hx : (T x).1 = 0) (hT : ∀ a, a ≠ x → T2 a = T a) (hf : ∀ n c, n < 200 → c ≠ x → σ2.2.1 n (c : Int) = σ.2.1 n c) (hr : ∀ c, c ≠ x → σ2.2.1 (1000 + c) = σ.2.1 (1000 + c)) (h9 : σ2.2.1 900 = σ.2.1 900) (hk : ((T2 x).1 < 30 ∨ 80 ≤ (T2 x).1) ∧ (T2 x).1 ≠ 4 ∧ (T2 x).1 ≠ 5) (h7 : (T2 x).1 = 7 → ∀ c, (T c).1 ≠ 7) (hv : (IA T2 x ∨ (T2 x).1 = 2) → ∀ i, VOK (T2 x).1 i (σ2.2.1 (1000 + x) i)) (g0 : σ2.1 0 = σ.1 0 + N) (g1 : σ2.1 1 = σ.1 1 + 1) : CX a ci K (G + N) (G1 + 1) T0 σ0 T2 σ2 := by
  have hne := h.ne hx
  refine ⟨by rw [hT a hne]; exact h.1, h.2.1.new hx hT hf hr h9 hk h7 hv, h.2.2.1.new hT hx hk.1, ⟨fun c p q => ?_, h9.trans h.2.2.2.1.2⟩, by have := h.2.2.2.2.1; omega, by have := h.2.2.2.2.2; omega⟩
  obtain ⟨w1, w2, w3⟩ := h.2.2.2.1.1 c p q
  have e : c ≠ x := fun e => by rw [e] at w1 p; rw [← w1] at p; exact p hx
  exact ⟨(hT c e).trans w1, fun n hn => (hf n c hn e).trans (w2 n hn), (hr c e).trans w3⟩
theorem CX.newI (h : CX a ci K G G1 T0 σ0 T σ) (hx : (T x).1 = 0) (hk : k = 1 ∨ (11 ≤ k ∧ k ≤ 24)) : CX a ci K (G + N) (G1 + 1) T0 σ0 (tT T x k N) (rowS (1000 + x) (fun _ => 0) (gh N σ)) := by
  have e : (tT T x k N x).1 = k := by rw [tT_eq]
  exact h.new hx (fun a e => tT_ne e) (fun n c hn hc => by rw [rowS_ne (by omega)]; rfl) (fun c hc => by rw [rowS_ne (by omega)]; rfl) (by rw [rowS_ne (by omega)]; rfl) (by rw [e]; omega) (by rw [e]; omega) (fun _ i => by rw [rowS_eq]; exact vok_0) (by show σ.1 0 + (N : Int) = _; rfl) (by show σ.1 1 + 1 = _; rfl)
theorem CX.newB (h : CX a ci K G G1 T0 σ0 T σ) (hx : (T x).1 = 0) : CX a ci K (G + N) (G1 + 1) T0 σ0 (tT T x 2 N) (rowS (1000 + x) (fun _ => 0) (gh N σ)) := by
  have e : (tT T x 2 N x).1 = 2 := by rw [tT_eq]
  exact h.new hx (fun a e => tT_ne e) (fun n c hn hc => by rw [rowS_ne (by omega)]; rfl) (fun c hc => by rw [rowS_ne (by omega)]; rfl) (by rw [rowS_ne (by omega)]; rfl) (by rw [e]; omega) (by rw [e]; omega) (fun _ i => by rw [rowS_eq]; exact vok_0) (by show σ.1 0 + (N : Int) = _; rfl) (by show σ.1 1 + 1 = _; rfl)
theorem CX.newQ (h : CX a ci K G G1 T0 σ0 T σ) (hx : (T x).1 = 0) (hk : k = 94 ∨ k = 95) : CX a ci K (G + N) (G1 + 1) T0 σ0 (tT T x k N) (rowS (1000 + x) (fun _ => -1) (gh N σ)) := by
  have e : (tT T x k N x).1 = k := by rw [tT_eq]
  exact h.new hx (fun a e => tT_ne e) (fun n c hn hc => by rw [rowS_ne (by omega)]; rfl) (fun c hc => by rw [rowS_ne (by omega)]; rfl) (by rw [rowS_ne (by omega)]; rfl) (by rw [e]; omega) (by rw [e]; omega) (fun q => by unfold IA at q; rw [e] at q; omega) (by show σ.1 0 + (N : Int) = _; rfl) (by show σ.1 1 + 1 = _; rfl)
theorem CX.newJ (h : CX a ci K G G1 T0 σ0 T σ) (hx : (T x).1 = 0) : CX a ci K (G + N) (G1 + 1) T0 σ0 (tT T x 3 N) (rowL x (fun _ => 0) (gh N σ)) := by
  have e : (tT T x 3 N x).1 = 3 := by rw [tT_eq]
  exact h.new hx (fun a e => tT_ne e) (fun n c hn hc => rfl) (fun c hc => rfl) rfl (by rw [e]; omega) (by rw [e]; omega) (fun q => by unfold IA at q; rw [e] at q; omega) (by show σ.1 0 + (N : Int) = _; rfl) (by show σ.1 1 + 1 = _; rfl)
theorem CX.newO (h : CX a ci K G G1 T0 σ0 T σ) (hx : (T x).1 = 0) (hc : cj < 12) : CX a ci K (G + N) (G1 + 1) T0 σ0 (tT T x (80 + cj) 0) (objS x (gh N σ)) := by
  have e : (tT T x (80 + cj) 0 x).1 = 80 + cj := by rw [tT_eq]
  exact h.new hx (fun a e => tT_ne e) (fun n c hn hc => by rw [objS_ne (by omega)]; rfl) (fun c hc => by rw [objS_hi (by omega)]; rfl) (by rw [objS_hi (by omega)]; rfl) (by rw [e]; omega) (by rw [e]; omega) (fun q => by unfold IA at q; rw [e] at q; omega) (by show σ.1 0 + (N : Int) = _; rfl) (by show σ.1 1 + 1 = _; rfl)
/-- behind another's constructor -/
theorem CX.call (h : CX a ci K G G1 T0 σ0 T σ) (hx : a ≠ x) (h1 : WTn T2 σ2) (h2 : CD K2 T2) (h3 : KPx x T σ T2 σ2) (h4 : σ2.1 0 = σ.1 0 + H) (h5 : σ2.1 1 = σ.1 1 + H1) (h0 : (T0 x).1 = 0) : CX a ci K2 (G + H) (G1 + H1) T0 σ0 T2 σ2 := by
  have ha := h.1
  obtain ⟨w1, w2, w3⟩ := h3.1 a (by rw [ha]; show 80 + ci ≠ 0; omega) hx
  refine ⟨w1.trans ha, h1, h2, ⟨fun c p q => ?_, h3.2.trans h.2.2.2.1.2⟩, by have := h.2.2.2.2.1; omega, by have := h.2.2.2.2.2; omega⟩
  obtain ⟨u1, u2, u3⟩ := h.2.2.2.1.1 c p q
  obtain ⟨y1, y2, y3⟩ := h3.1 c (by rw [u1]; exact p) (fun e => by rw [e] at p; exact p h0)
  exact ⟨y1.trans u1, fun n hn => (y2 n hn).trans (u2 n hn), y3.trans u3⟩
theorem CX.fresh (h : CX a ci K G G1 T0 σ0 T σ) (hx : (T x).1 = 0) : (T0 x).1 = 0 ∨ x = a := by
  by_cases e : x = a
  · exact Or.inr e
  · by_cases q : (T0 x).1 = 0
    · exact Or.inl q
    · have w := (h.2.2.2.1.1 x q e).1
      rw [w] at hx
      exact absurd hx q
theorem tk_keep {m : Nat × Nat} (h : T y = m) (hm : m.1 ≠ 0) (hx : (T x).1 = 0) : tT T x k N y = m := by rw [tT_ne (fun e => by rw [e] at h; rw [h] at hx; exact hm hx)]; exact h
end CXS
section OBJ
variable {d : Nat} {M : MT} {pc : Nat} {T : CT} {σ : MS} {L : List (Nat × Value)} {st : List Value} {post : Option Value → CT → MS → Prop}
theorem tn_objInit {ix x : Nat} (hd : decode M.2.1 pc = .ok (.invokespecial ix, 3)) (h1 : Cond.methodLink M.1.cls ix objectInit ∈ pWW) (h2 : Cond.instanceMethod objectInit ∈ pWW) (h3 : Cond.code objectInit ⟨#[0xb1]⟩ 1 none ∈ pWW) (hd1 : 0 < d) (hcat : (st.map fun v => v.category).sum ≤ 8) (kk : Tn d M (pc + 3) T σ L st post) : Tn d M pc T σ L (.ref x :: st) post := fun P0 sz hs => by
  obtain ⟨r, T2, σ2, sz2, n9, w, hp⟩ := kk P0 sz hs
  exact ⟨r, T2, σ2, sz2, n9, wp_objInit hd h1 h2 h3 hd1 hcat w, hp⟩
end OBJ
/-- nothing new is tagged q -/
def NX (q a : Nat) (T0 T : CT) : Prop := ∀ c, (T0 c).1 = 0 → c ≠ a → (T c).1 ≠ q
section NXS
variable {q a x k N : Nat} {T T0 T2 : CT} {σ σ2 : MS}
theorem NX.begin (h : q ≠ 0) : NX q a T T := fun c p _ => by rw [p]; exact Ne.symm h
theorem NX.new (h : NX q a T0 T) (hT : ∀ a, a ≠ x → T2 a = T a) (hq : (T2 x).1 ≠ q) : NX q a T0 T2 := fun c p r => by
  by_cases e : c = x
  · rw [e]; exact hq
  · rw [hT c e]; exact h c p r
theorem NX.mk9 (h : NX q a T0 T) (hq : k ≠ q) : NX q a T0 (tT T x k N) := h.new (fun _ e => tT_ne e) (by rw [tT_eq]; exact hq)
theorem NX.call {m : Nat × Nat} (h : NX q a T0 T) (g : KPx x T σ T2 σ2) (hx : T2 x = m) (hq : m.1 ≠ q) (n : NX q x T T2) : NX q a T0 T2 := fun c p r => by
  by_cases e : c = x
  · rw [e, hx]; exact hq
  · by_cases z : (T c).1 = 0
    · exact n c z e
    · rw [(g.1 c z e).1]; exact h c p r
theorem NX.tag (h : NX q a T0 T) : NX q a T0 (tT T a k N) := fun c p r => by rw [tT_ne r]; exact h c p r
/-- the row of tables is made -/
theorem CX.newM {ci G G1 : Nat} {K : List Nat} {σ0 : MS} (h : CX a ci K G G1 T0 σ0 T σ) (hx : (T x).1 = 0) (h9 : σ.2.1 900 = fun _ => -1) (h7 : ∀ c, (T c).1 ≠ 7) : CX a ci K (G + N) (G1 + 1) T0 σ0 (tT T x 7 N) (rowS 900 (fun _ => -1) (gh N σ)) := by
  have e : (tT T x 7 N x).1 = 7 := by rw [tT_eq]
  exact h.new hx (fun a e => tT_ne e) (fun n c hn hc => by rw [rowS_ne (by omega)]; rfl) (fun c hc => by rw [rowS_ne (by omega)]; rfl) (by rw [rowS_eq, h9]) (by rw [e]; omega) (fun _ => h7) (fun q => by unfold IA at q; rw [e] at q; omega) (by show σ.1 0 + (N : Int) = _; rfl) (by show σ.1 1 + 1 = _; rfl)
end NXS

theorem clsR_0 : ∀ m, m < 111 → cls m = 0 → 0 ≤ m ∧ m ≤ 4 := by decide
theorem clsR_1 : ∀ m, m < 111 → cls m = 1 → 5 ≤ m ∧ m ≤ 16 := by decide
theorem clsR_2 : ∀ m, m < 111 → cls m = 2 → 17 ≤ m ∧ m ≤ 17 := by decide
theorem clsR_3 : ∀ m, m < 111 → cls m = 3 → 18 ≤ m ∧ m ≤ 22 := by decide
theorem clsR_4 : ∀ m, m < 111 → cls m = 4 → 23 ≤ m ∧ m ≤ 32 := by decide
theorem clsR_5 : ∀ m, m < 111 → cls m = 5 → 33 ≤ m ∧ m ≤ 51 := by decide
theorem clsR_6 : ∀ m, m < 111 → cls m = 6 → 52 ≤ m ∧ m ≤ 54 := by decide
theorem clsR_7 : ∀ m, m < 111 → cls m = 7 → 55 ≤ m ∧ m ≤ 71 := by decide
theorem clsR_8 : ∀ m, m < 111 → cls m = 8 → 72 ≤ m ∧ m ≤ 80 := by decide
theorem clsR_9 : ∀ m, m < 111 → cls m = 9 → 81 ≤ m ∧ m ≤ 87 := by decide
theorem clsR_10 : ∀ m, m < 111 → cls m = 10 → 88 ≤ m ∧ m ≤ 94 := by decide
theorem clsR_11 : ∀ m, m < 111 → cls m = 11 → 95 ≤ m ∧ m ≤ 110 := by decide
theorem AR.of {T : CT} {x k N lo hi : Nat} (h : T x = (k, N)) (h1 : lo ≤ N) (h2 : N ≤ hi) : AR T x k lo hi := by unfold AR; rw [h]; exact ⟨rfl, h1, h2⟩
theorem KPx.tag {a k N : Nat} {T T0 : CT} {σ σ0 : MS} (h : KPx a T0 σ0 T σ) : KPx a T0 σ0 (tT T a k N) σ := ⟨fun c p q => ⟨(tT_ne q).trans (h.1 c p q).1, (h.1 c p q).2⟩, h.2⟩
theorem ne_of {T : CT} {y x : Nat} {m m2 : Nat × Nat} (h1 : T y = m) (h2 : T x = m2) (h : m ≠ m2) : y ≠ x := fun e => h (by rw [← h1, ← h2, e])
theorem tg1 {T : CT} {x k N : Nat} (h : T x = (k, N)) : (T x).1 = k := by rw [h]
theorem oiI : Cond.instanceMethod objectInit ∈ pWW := pw1 (List.mem_of_getElem? (i := 28) rfl) rfl
theorem oiC : Cond.code objectInit ⟨#[0xb1]⟩ 1 none ∈ pWW := pw1 (List.mem_of_getElem? (i := 29) rfl) rfl

