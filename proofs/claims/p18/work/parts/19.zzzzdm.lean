section
section HSL
variable {τ τ2 : MS} {w r v : Int} {ss ks js : List Nat} {S : Int → Int}
theorem g14_e (h : G14s τ) (e : ∀ k, k ∈ [49, 50, 51, 52, 53] → τ2.2.1 k = τ.2.1 k) : G14s τ2 ∧ ∀ y, sDT τ2 y = sDT τ y := by
  have s : ∀ y, sDT τ2 y = sDT τ y := fun y => by
    unfold sDT
    rw [e 49 (by decide), e 50 (by decide), e 51 (by decide), e 52 (by decide), e 53 (by decide)]
  refine ⟨fun y q => ?_, s⟩
  rw [e 49 (by decide)] at q
  rw [s]; exact h y q
theorem bgT_rs (g : GDR τ r) (e : rS τ2 r = rS τ r) (e11 : τ2.2.1 11 = τ.2.1 11) (e12 : τ2.2.1 12 = τ.2.1 12) : bgT τ2 r = bgT τ r := by
  have F1 := g.2.1.1
  have f0 : τ.2.1 15 (12 * r + 0) = r := g.2.2.2.1
  have eF : τ2.2.1 14 r = τ.2.1 14 r := congrArg RTS.F e
  have PN := g.2.2.2.2.2.2.2.2
  have fo := congrFun (congrArg RTS.fo e) 0
  have fo : (if (0 : Int) ≤ 0 ∧ (0 : Int) < τ2.2.1 14 r then τ2.2.1 15 (12 * r + 0) else 0) = (if (0 : Int) ≤ 0 ∧ (0 : Int) < τ.2.1 14 r then τ.2.1 15 (12 * r + 0) else 0) := fo
  rw [if_pos ⟨Int.le_refl _, by omega⟩, if_pos ⟨Int.le_refl _, by omega⟩, f0] at fo
  funext n
  unfold bgT bgD
  rw [e11, e12]
  by_cases a : n / 12 = 0 ∧ n % 12 < τ.2.1 12 r
  · rw [if_pos a, if_pos a]
    by_cases b : n % 12 < τ.2.1 11 r
    · rw [if_pos b, if_pos b]
      have z := congrFun (congrFun (congrArg RTS.na e) 0) (n % 12)
      have z : (if ((0 : Int) ≤ 0 ∧ (0 : Int) < τ2.2.1 14 r) ∧ 0 ≤ n % 12 ∧ n % 12 < τ2.2.1 12 (τ2.2.1 15 (12 * r + 0)) then τ2.2.1 18 (144 * r + 12 * 0 + n % 12) else 0) = (if ((0 : Int) ≤ 0 ∧ (0 : Int) < τ.2.1 14 r) ∧ 0 ≤ n % 12 ∧ n % 12 < τ.2.1 12 (τ.2.1 15 (12 * r + 0)) then τ.2.1 18 (144 * r + 12 * 0 + n % 12) else 0) := z
      rw [fo, f0, e12, if_pos ⟨⟨Int.le_refl _, by omega⟩, by omega, by omega⟩, if_pos ⟨⟨Int.le_refl _, by omega⟩, by omega, by omega⟩, show 144 * r + 12 * 0 + n % 12 = 144 * r + n % 12 by omega] at z
      show ((2 : Int), (2 : Int), τ2.2.1 18 (144 * r + n % 12), (0 : Int), (0 : Int)) = (2, 2, τ.2.1 18 (144 * r + n % 12), 0, 0)
      rw [z]
    · rw [if_neg b, if_neg b]
  · rw [if_neg a, if_neg a]
theorem HSI.keep (h : HSI τ) (g : GDA τ) (it : ITM τ) (e5 : ∀ k, k ∈ [49, 50, 51, 52, 53] → τ2.2.1 k = τ.2.1 k) (e10 : τ2.1 10 = τ.1 10) (e11 : τ2.2.1 11 = τ.2.1 11) (e12 : τ2.2.1 12 = τ.2.1 12) (k8 : ∀ q, 0 ≤ q → q < 6 → τ2.2.1 48 q = 1 → τ.2.1 48 q = 1 ∧ rS τ2 q = rS τ q) : HSI τ2 := by
  have g5 := g14_e h.1 e5
  refine ⟨g5.1, fun q a b c => ?_⟩
  have k := k8 q a b c
  have z := h.2 q a b k.1
  rw [e10, show rV τ2 q = rV τ q from congrArg RTS.V k.2, show τ2.2.1 9 q = τ.2.1 9 q from congrArg RTS.n k.2, bgT_rs (g.2 q a z.1) k.2 e11 e12]
  exact ⟨z.1, z.2.of (it q a (by omega)).2 (fun y _ _ => g5.2 y)⟩
theorem HSI.pass (h : HSI τ) (g : GDA τ) (it : ITM τ) (f : Fr ss ks js τ τ2) (h5 : ∀ k, k ∈ [49, 50, 51, 52, 53] → k ∉ ks) (q : PSQ τ τ2 w r v) (f8 : HS8 τ τ2 w r) (e10 : τ2.1 10 = τ.1 10) (e11 : τ2.2.1 11 = τ.2.1 11) (e12 : τ2.2.1 12 = τ.2.1 12) : HSI τ2 := by
  refine h.keep g it (fun k hk => f.2.1 k (h5 k hk)) e10 e11 e12 (fun j a b c => ?_)
  rcases q with ⟨n, -, e⟩ | ⟨m1, px, po⟩
  · rcases f8 with ⟨-, e8⟩ | ⟨m2, -⟩
    · rw [e8] at c
      exact ⟨c, e j⟩
    · exact absurd m2 n
  · rcases f8 with ⟨n, -⟩ | ⟨-, e8⟩
    · exact absurd m1 n
    · rw [e8] at c
      by_cases z : j = r
      · rw [z, uZ_eq] at c
        exact absurd c (by decide)
      · rw [uZ_ne z] at c
        exact ⟨c, po j a (h.2 j a b c).1 z⟩
theorem HSI.read (h : HSI τ) (g : GDA τ) (it : ITM τ) (f : Fr ss ks js τ τ2) (h5 : ∀ k, k ∈ [49, 50, 51, 52, 53] → k ∉ ks) (rd : RD6 S τ τ2 v) (f8 : RD8 τ2 v) : HSI τ2 := by
  by_cases z : v = -1
  · have kp := rd.1 z
    refine h.keep g it (fun k hk => f.2.1 k (h5 k hk)) (kp.2.1 10 (by decide)) (kp.2.2.1 11 (by decide)) (kp.2.2.1 12 (by decide)) (fun j a b c => ?_)
    rw [kp.2.2.1 48 (by decide)] at c
    have w := it j a (by omega)
    exact ⟨c, kp.rs a b (by omega)⟩
  · have g5 := g14_e h.1 (fun k hk => f.2.1 k (h5 k hk))
    exact ⟨g5.1, fun q a b c => by
      rw [f8 z q a b] at c
      exact absurd c (by decide)⟩
end HSL
end
