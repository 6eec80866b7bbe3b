section TQ
variable {d : Nat} {M : MT} {pc : Nat} {T T0 : CT} {σ σ0 : MS} {L : List (Nat × Value)} {st : List Value} {post : Option Value → CT → MS → Prop} {a x k N ci G G1 : Nat} {K : List Nat} {v z : Int}
/-- a row of codes is told finished -/
theorem tn_tagQ (hx : T x = (k + 90, N)) (hk : k = 4 ∨ k = 5) (kk : Tn d M pc (tT T x k N) σ L st post) : Tn d M pc T σ L st post := fun P0 sz hs => by
  have hd2 : DOM (tT T x k N) sz := fun c hc => by
    by_cases e : c = x
    · rw [e]; exact hs x (by rw [hx]; show k + 90 ≠ 0; omega)
    · rw [tT_ne e] at hc; exact hs c hc
  obtain ⟨r, T2, σ2, sz2, n9, w, g, hp⟩ := kk P0 sz hd2
  have e : ovC (tT T x k N) σ P0 = ovC T σ P0 := by
    funext q
    by_cases hq : q = x
    · rw [hq, ovC_q (by rw [tT_eq]; show k = 4 ∨ k = 5 ∨ k = 94 ∨ k = 95; omega), ovC_q (by rw [hx]; show k + 90 = 4 ∨ k + 90 = 5 ∨ k + 90 = 94 ∨ k + 90 = 95; omega), tT_eq, hx]
    · unfold ovC; rw [tT_ne hq]
  rw [e] at w
  refine ⟨r, T2, σ2, sz2, n9, w, ⟨g.1, g.2.1, fun c q r => ?_, g.2.2.2.1, g.2.2.2.2⟩, hp⟩
  have hne : c ≠ x := fun h => by rw [h, hx] at r; have : k + 90 < 80 := r; omega
  have e4 : tT T x k N c = T c := tT_ne hne
  rw [g.2.2.1 c q (by rw [e4]; exact r), e4]
theorem CX.row (h : CX a ci K G G1 T0 σ0 T σ) (hx : 80 ≤ (T x).1) (hz : (T0 x).1 = 0) : CX a ci K G G1 T0 σ0 T (sA (1000 + x) z v σ) :=
  ⟨h.1, h.2.1.rawrow hx, h.2.2.1, ⟨fun c p q => by
    obtain ⟨w1, w2, w3⟩ := h.2.2.2.1.1 c p q
    have e : c ≠ x := fun e => p (by rw [e]; exact hz)
    exact ⟨w1, fun n hn => by rw [sA_k (by omega)]; exact w2 n hn, by rw [sA_k (by omega)]; exact w3⟩, by rw [sA_k (by omega)]; exact h.2.2.2.1.2⟩, h.2.2.2.2.1, h.2.2.2.2.2⟩
theorem CX.tagQ (h : CX a ci K G G1 T0 σ0 T σ) (hx : T x = (k + 90, N)) (hk : k = 4 ∨ k = 5) (hz : (T0 x).1 = 0) (hc : ci < 12) (he : ∀ i, 0 ≤ i → i < (N : Int) → ∃ y : Nat, σ.2.1 (1000 + x) i = (y : Int) ∧ T y = ((if k = 4 then 31 else 50), 0)) : CX a ci K G G1 T0 σ0 (tT T x k N) σ := by
  have hne : a ≠ x := fun e => by have w := h.1; rw [e, hx] at w; have w2 : k + 90 = 80 + ci := congrArg Prod.fst w; omega
  obtain ⟨h1, h2, h3, h4, h5⟩ := h.2.1
  have xk : (T x).1 = k + 90 := by rw [hx]
  have bk : ∀ c, c ≠ x → tT T x k N c = T c := fun c e => tT_ne e
  have gk : ∀ c, (T c).1 < 80 → tT T x k N c = T c := fun c r => tT_ne (fun e => by rw [e] at r; omega)
  have g : GT T (tT T x k N) := fun c _ r => gk c r
  have ob : ∀ c cj, OB (tT T x k N) c cj → c ≠ x ∧ OB T c cj := fun c cj w => by
    have e : c ≠ x := fun e => by have w1 := w.1; rw [e, tT_eq] at w1; have w2 : 30 ≤ k := w1; omega
    exact ⟨e, by unfold OB at w ⊢; rw [bk c e] at w; exact w⟩
  refine ⟨by rw [bk a hne]; exact h.1, ⟨fun m c q w => ?_, fun c y q r => ?_, fun c q i => ?_, ⟨fun c q i i0 i1 => ?_, fun c q i i0 i1 => ?_⟩, ⟨fun c c' q q' => ?_, fun i i0 i1 => ?_⟩⟩, fun c => ?_, ⟨fun c p q => ?_, h.2.2.2.1.2⟩, h.2.2.2.2.1, h.2.2.2.2.2⟩
  · obtain ⟨e, w2⟩ := ob c _ w
    rw [bk c e]; exact fo_mono m q g (h1 m c q w2)
  · obtain ⟨e, w2⟩ := ob c _ q
    obtain ⟨y2, e1, e2, -⟩ := cells_at h1 w2
    have e3 : y2 = y := by omega
    rw [gk y (by rw [← e3]; omega)]
    exact h2 c y w2 r
  · have e : c ≠ x := fun e => by unfold IA at q; rw [e, tT_eq] at q; simp only at q; omega
    rw [bk c e]; exact h3 c (by unfold IA at q ⊢; rw [bk c e] at q; exact q) i
  · by_cases e : c = x
    · rw [e] at q i1 ⊢
      rw [tT_eq] at q i1
      have q2 : k = 4 := q
      obtain ⟨y, w1, w2⟩ := he i i0 i1
      rw [if_pos q2] at w2
      exact ⟨y, w1, by rw [gk y (by rw [w2]; decide), w2]⟩
    · rw [bk c e] at q i1
      obtain ⟨y, w1, w2⟩ := h4.1 c q i i0 i1
      exact ⟨y, w1, by rw [gk y (by omega)]; exact w2⟩
  · by_cases e : c = x
    · rw [e] at q i1 ⊢
      rw [tT_eq] at q i1
      have q2 : k = 5 := q
      obtain ⟨y, w1, w2⟩ := he i i0 i1
      rw [if_neg (by omega)] at w2
      exact ⟨y, w1, by rw [gk y (by rw [w2]; decide), w2]⟩
    · rw [bk c e] at q i1
      obtain ⟨y, w1, w2⟩ := h4.2 c q i i0 i1
      exact ⟨y, w1, by rw [gk y (by omega)]; exact w2⟩
  · have e : ∀ c, (tT T x k N c).1 = 7 → (T c).1 = 7 := fun c q => by
      have e : c ≠ x := fun e => by rw [e, tT_eq] at q; have q9 : k = 7 := q; omega
      rw [bk c e] at q; exact q
    exact h5.1 c c' (e c q) (e c' q')
  · rcases h5.2 i i0 i1 with q | ⟨y, q1, q2⟩
    · exact Or.inl q
    · exact Or.inr ⟨y, q1, by unfold AR; rw [gk y (by have := q2.1; omega)]; exact q2⟩
  · rw [← h.2.2.1 c]
    constructor
    · intro w; exact (ob c _ w).2
    · intro w
      have e : c ≠ x := fun e => by have := w.2.2; rw [e] at this; omega
      unfold OB at w ⊢; rw [bk c e]; exact w
  · obtain ⟨w1, w2⟩ := h.2.2.2.1.1 c p q
    exact ⟨(bk c (fun e => p (by rw [e]; exact hz))).trans w1, w2⟩
theorem NX.tagQ {q : Nat} (h : NX q a T0 T) (hq : k ≠ q) : NX q a T0 (tT T x k N) := h.mk9 hq
theorem n7_now (h : NX 7 a T0 T) (g : KPx a T0 σ0 T σ) (ha : T a = (80 + ci, 0)) (hc : ci < 12) (h0 : ∀ c, (T0 c).1 ≠ 7) : ∀ c, (T c).1 ≠ 7 := fun c => by
  by_cases e : c = a
  · rw [e, ha]; show 80 + ci ≠ 7; omega
  · by_cases z : (T0 c).1 = 0
    · exact h c z e
    · rw [(g.1 c z e).1]; exact h0 c
end TQ

