section
theorem UNQ.map {V V' : Int → It} {n n' : Int} (h : UNQ V n) (s : Int → Int) (hs : ∀ i, 0 ≤ i → i < n' → V' i 0 = 13 → (0 ≤ s i ∧ s i < n) ∧ V (s i) 0 = 13 ∧ V (s i) 1 = V' i 1) (inj : ∀ i j, 0 ≤ i → i < n' → 0 ≤ j → j < n' → s i = s j → i = j) : UNQ V' n' := fun i j a b c d e f g => by
  obtain ⟨a1, a2, a3⟩ := hs i a b e
  obtain ⟨b1, b2, b3⟩ := hs j c d f
  exact inj i j a b c d (h _ _ a1.1 a1.2 b1.1 b1.2 a2 b2 (by rw [a3, b3, g]))
theorem UNQ.set {V : Int → It} {n k : Int} {x : It} (h : UNQ V n) (hx : x 0 ≠ 13) : UNQ (uZ V k x) n := by
  refine h.map (fun i => i) (fun i a b c => ?_) (fun i j _ _ _ _ e => e)
  have z : i ≠ k := fun e => by subst e; rw [uZ_eq] at c; exact hx c
  rw [uZ_ne z] at c ⊢
  exact ⟨⟨a, b⟩, c, rfl⟩
theorem UNQ.add {O : Int → It} {t : Int} {x : It} (h : UNQ O t) (hx : x 0 = 13 → ∀ i, 0 ≤ i → i < t → O i 0 = 13 → O i 1 ≠ x 1) : UNQ (uZ O t x) (t + 1) := fun i j a b c d e f g => by
  by_cases p : i = t <;> by_cases q : j = t
  · omega
  · subst p
    rw [uZ_eq] at e g; rw [uZ_ne q] at f g
    exact absurd g.symm (hx e j c (by omega) f)
  · subst q
    rw [uZ_eq] at f g; rw [uZ_ne p] at e g
    exact absurd g (hx f i a (by omega) e)
  · rw [uZ_ne p] at e g; rw [uZ_ne q] at f g
    exact h i j a (by omega) c (by omega) e f g
def fuI (V : Int → It) (n m : Int) (O : Int → It) : Prop := 0 ≤ m ∧ UNQ O m ∧ ∀ i, 0 ≤ i → i < m → O i 0 = 13 → ∃ s, (0 ≤ s ∧ s < n) ∧ V s 0 = 13 ∧ V s 1 = O i 1
theorem fuI.no {V : Int → It} {n m : Int} {O : Int → It} (h : fuI V n m O) : fuI V (n + 1) m O := ⟨h.1, h.2.1, fun i a b c => by
  obtain ⟨s, s1, s2⟩ := h.2.2 i a b c
  exact ⟨s, by omega, s2⟩⟩
theorem fuI.add {V : Int → It} {n m : Int} {O : Int → It} {x : It} (h : fuI V n m O) (hx : x 0 ≠ 13) : fuI V (n + 1) (m + 1) (uZ O m x) := by
  refine ⟨by have := h.1; omega, h.2.1.add (fun e => absurd e hx), fun i a b c => ?_⟩
  have z : i ≠ m := fun e => by subst e; rw [uZ_eq] at c; exact hx c
  rw [uZ_ne z] at c ⊢
  exact h.no.2.2 i a (by omega) c
theorem fuI.lab {V : Int → It} {n m N : Int} {O : Int → It} (h : fuI V n m O) (u : UNQ V N) (n0 : 0 ≤ n) (n1 : n < N) (hx : V n 0 = 13) : fuI V (n + 1) (m + 1) (uZ O m (V n)) := by
  refine ⟨by have := h.1; omega, h.2.1.add (fun e i a b c d => ?_), fun i a b c => ?_⟩
  · obtain ⟨s, s1, s2, s3⟩ := h.2.2 i a b c
    have := u s n s1.1 (by omega) n0 n1 s2 hx (s3.trans d)
    omega
  · by_cases z : i = m
    · subst z
      rw [uZ_eq] at c ⊢
      exact ⟨n, by omega, hx, rfl⟩
    · rw [uZ_ne z] at c ⊢
      exact h.no.2.2 i a (by omega) c
theorem fo_k {K : KN} {i : It} (h : i 0 ≤ 10) : foZ (foA (foO K i 4)) 0 ≠ 13 := by
  have e0 : foO K i 4 0 = i 0 := if_neg (by omega)
  have e1 : foA (foO K i 4) 0 ≤ 10 := by
    unfold foA
    by_cases a : five2 (foO K i 4)
    · rw [dI_y a]
      show uZ (uZ (uZ (uZ (uZ (foO K i 4) 0 0) 3 _) 4 _) 5 0) 6 0 0 ≤ 10
      rw [uZ_ne (by decide), uZ_ne (by decide), uZ_ne (by decide), uZ_ne (by decide), uZ_eq]
      decide
    · rw [dI_n a, e0]; exact h
  unfold foZ
  by_cases a : zer1 (foA (foO K i 4))
  · rw [dI_y a, uZ_ne (by decide), uZ_ne (by decide), uZ_eq]
    decide
  · rw [dI_n a]; omega
theorem fo_b {K : KN} {i : It} (h : i 0 = 12) : foB K i 0 ≠ 13 := by
  unfold foB
  by_cases a : i 11 = 2 ∧ (K (i 4)).1 = 1
  · rw [dI_y a, uZ_ne (by decide), uZ_ne (by decide), uZ_ne (by decide), h]; decide
  · rw [dI_n a, h]; decide
theorem UNQ.fold {V : Int → It} {N : Int} (u : UNQ V N) {n : Nat} (hn : (n : Int) ≤ N) : fuI V n (foS V n).2.1 (foS V n).2.2.2 := by
  induction n with
  | zero => exact ⟨Int.le_refl _, fun i j a b => absurd b (by show ¬ i < 0; omega), fun i a b => absurd b (by show ¬ i < 0; omega)⟩
  | succ n ih =>
    have h := ih (by omega)
    show fuI V ((n + 1 : Nat) : Int) (foT (foS V n) (V n)).2.1 (foT (foS V n) (V n)).2.2.2
    rw [show ((n + 1 : Nat) : Int) = (n : Int) + 1 by omega]
    unfold foT
    by_cases a : V n 0 = 13
    · rw [if_pos a]
      exact h.lab u (by omega) (by omega) a
    · rw [if_neg a]
      by_cases b : V n 0 = 12
      · rw [if_pos b]
        exact h.add (fo_b b)
      · rw [if_neg b]
        by_cases c : V n 0 ≤ 10
        · rw [if_pos c]
          unfold foX
          by_cases z : zer1 (foA (foO (foS V n).1 (V n) 4)) ∧ foA (foO (foS V n).1 (V n) 4) 4 ≠ 0
          · rw [dI_y z, dI_y z]; exact h.no
          · rw [dI_n z, dI_n z]; exact h.add (fo_k c)
        · rw [if_neg c]
          exact h.add a
theorem UNQ.drt {t : Nat} {V V' : Int → It} {n n' : Int} (u : UNQ V n) (h : DRT t V n V' n') : UNQ V' n' := by
  induction t generalizing V' n' with
  | zero => rw [h.1, h.2]; exact u
  | succ t ih =>
    obtain ⟨V1, n1, k, h1, h2, h3, h4⟩ := h
    rw [h3, h4]
    exact (ih h1).out
theorem UNQ.drop {V V' : Int → It} {n n' w : Int} (u : UNQ V n) (n0 : 0 ≤ n) (h : DRX V n V' n' w) : UNQ V' n' := by
  obtain ⟨t, h1, _⟩ := h
  exact (u.dr1 n0).drt h1
theorem UNQ.als {n : Nat} {N : Int} {V V' : Int → It} {w : Int} (u : UNQ V N) (h : ALS n V V' w) : UNQ V' N := by
  induction n generalizing V' w with
  | zero => rw [h.1]; exact u
  | succ n ih =>
    obtain ⟨V1, w1, d, h1, h2, h3⟩ := h
    rcases h2 with ⟨j, a, b, c, e⟩ | ⟨a, b, c⟩
    · rw [c]
      refine (ih h1).set ?_
      show uZ (uZ (uZ (uZ (uZ (V1 n) 0 0) 3 _) 4 _) 5 0) 6 0 0 ≠ 13
      rw [uZ_ne (by decide), uZ_ne (by decide), uZ_ne (by decide), uZ_ne (by decide), uZ_eq]
      decide
    · rw [b]; exact ih h1
theorem UNQ.li {V : Int → It} {n k p : Int} (u : UNQ V n) (h : 0 ≤ p ∧ p ≤ k ∧ k < n) : UNQ (liV V k p) n := by
  refine u.map (fun i => if i = p then k else if p < i ∧ i ≤ k then i - 1 else i) (fun i a b c => ?_) (fun i j a b c d e => ?_)
  · unfold liV at c ⊢
    by_cases x : i = p
    · rw [if_pos x] at c
      simp only [if_pos x]
      exact ⟨by omega, c, trivial⟩
    · by_cases y : p < i ∧ i ≤ k
      · rw [if_neg x, if_pos y] at c
        simp only [if_neg x, if_pos y]
        exact ⟨by omega, c, trivial⟩
      · rw [if_neg x, if_neg y] at c
        simp only [if_neg x, if_neg y]
        exact ⟨⟨a, b⟩, c, trivial⟩
  · have e : (if i = p then k else if p < i ∧ i ≤ k then i - 1 else i) = (if j = p then k else if p < j ∧ j ≤ k then j - 1 else j) := e
    by_cases x : i = p
    · rw [if_pos x] at e
      by_cases z : j = p
      · omega
      · rw [if_neg z] at e
        by_cases w : p < j ∧ j ≤ k
        · rw [if_pos w] at e; omega
        · rw [if_neg w] at e; omega
    · rw [if_neg x] at e
      by_cases y : p < i ∧ i ≤ k
      · rw [if_pos y] at e
        by_cases z : j = p
        · rw [if_pos z] at e; omega
        · rw [if_neg z] at e
          by_cases w : p < j ∧ j ≤ k
          · rw [if_pos w] at e; omega
          · rw [if_neg w] at e; omega
      · rw [if_neg y] at e
        by_cases z : j = p
        · rw [if_pos z] at e; omega
        · rw [if_neg z] at e
          by_cases w : p < j ∧ j ≤ k
          · rw [if_pos w] at e; omega
          · rw [if_neg w] at e; omega
theorem UNQ.mvt {H : Int → Prop} {n q p a : Int} {t : Nat} {V A : Int → It} (u : UNQ V n) (h : MVT H n q t V p A a) (h0 : 0 ≤ p) (h1 : q < n) : UNQ A n ∧ a = p + t := by
  induction t generalizing A a with
  | zero => rw [h.1, h.2]; exact ⟨u, by omega⟩
  | succ t ih =>
    obtain ⟨V1, p1, k, g1, g2, g3, g4⟩ := h
    obtain ⟨i1, i2⟩ := ih g1
    have z1 := g2.1
    have z2 := g2.2.1
    rw [g3, g4]
    exact ⟨i1.li (by omega), by omega⟩
theorem UNQ.mva {H : Int → Prop} {n w : Int} {t : Nat} {V V' : Int → It} (u : UNQ V n) (h : MVA H n t V V' w) (ht : (t : Int) ≤ n) : UNQ V' n := by
  induction t generalizing V' w with
  | zero => rw [h.1]; exact u
  | succ t ih =>
    obtain ⟨V1, w1, d, h1, h2, h3⟩ := h
    have i := ih h1 (by omega)
    rcases h2 with ⟨a, b, c⟩ | ⟨a, q, b, c⟩
    · rw [b]; exact i
    · rcases c with ⟨_, c, _⟩ | ⟨_, s, p', c, _⟩
      · rw [c]; exact i
      · exact (i.mvt c (by omega) b.2.1).1
theorem UNQ.sh {V : Int → It} {n : Int} {nb : Int → Int} {bg : Int → Prop} (u : UNQ V n) : UNQ (shV V n nb bg) n := by
  refine u.map (fun i => i) (fun i a b c => ?_) (fun i j _ _ _ _ e => e)
  have ek : ubV V n nb bg i 0 = V i 0 ∧ ubV V n nb bg i 1 = V i 1 := by
    unfold ubV
    by_cases z : (0 ≤ i ∧ i < n) ∧ V i 0 = 12 ∧ RCG V n 0 (fun _ => False) i ∧ ∃ u, rdI (V i) u ∧ lsV V n nb bg i u
    · rw [dI_y z]
      unfold goI
      rw [uZ_ne (by decide), uZ_ne (by decide), uZ_ne (by decide), uZ_ne (by decide), uZ_ne (by decide), uZ_ne (by decide), uZ_ne (by decide), uZ_ne (by decide), uZ_ne (by decide), uZ_ne (by decide)]
      exact ⟨rfl, rfl⟩
    · rw [dI_n z]; exact ⟨rfl, rfl⟩
  have e0 : shV V n nb bg i 0 = V i 0 := by
    unfold shV
    rw [if_pos ⟨a, b⟩]
    show (if (0 : Int) = 1 ∧ _ then _ else if ((0 : Int) = 4 ∨ (0 : Int) = 6 ∨ (0 : Int) = 8 ∨ (0 : Int) = 10) ∧ _ then _ else ubV V n nb bg i 0) = V i 0
    rw [if_neg (fun z => absurd z.1 (by decide)), if_neg (fun z => absurd z.1 (by decide)), ek.1]
  rw [e0] at c
  have e1 : shV V n nb bg i 1 = V i 1 := by
    unfold shV
    rw [if_pos ⟨a, b⟩]
    show (if (1 : Int) = 1 ∧ (ubV V n nb bg i 0 ≤ 5 ∨ ubV V n nb bg i 0 = 10) then _ else if ((1 : Int) = 4 ∨ (1 : Int) = 6 ∨ (1 : Int) = 8 ∨ (1 : Int) = 10) ∧ _ then _ else ubV V n nb bg i 1) = V i 1
    rw [if_neg (fun z => by have z2 := z.2; rw [ek.1, c] at z2; omega), if_neg (fun z => absurd z.1 (by decide)), ek.2]
  exact ⟨⟨a, b⟩, c, e1.symm⟩
end
section
def buI (V : Int → It) (lb k : Int) (s : BB) : Prop := 0 ≤ s.1 ∧ UNQ s.2 s.1 ∧ (∀ i, 0 ≤ i → i < s.1 → s.2 i 0 ≠ 10) ∧ ∀ i, 0 ≤ i → i < s.1 → s.2 i 0 = 13 → ∃ j, (0 ≤ j ∧ j < k) ∧ V j 0 = 13 ∧ V j 1 + lb = s.2 i 1
theorem buI.add {V : Int → It} {lb k : Int} {s : BB} {x : It} (h : buI V lb k s) (hx : x 0 ≠ 13) (hy : x 0 ≠ 10) : buI V lb k (bA s x) := by
  obtain ⟨h0, h1, h2, h3⟩ := h
  refine ⟨by show 0 ≤ s.1 + 1; omega, h1.add (fun e => absurd e hx), fun i a b => ?_, fun i a b c => ?_⟩
  · have b : i < s.1 + 1 := b
    show uZ s.2 s.1 x i 0 ≠ 10
    by_cases z : i = s.1
    · rw [z, uZ_eq]; exact hy
    · rw [uZ_ne z]; exact h2 i a (by omega)
  · have b : i < s.1 + 1 := b
    have c : uZ s.2 s.1 x i 0 = 13 := c
    have z : i ≠ s.1 := fun e => by rw [e, uZ_eq] at c; exact hx c
    rw [uZ_ne z] at c
    show ∃ j, (0 ≤ j ∧ j < k) ∧ V j 0 = 13 ∧ V j 1 + lb = uZ s.2 s.1 x i 1
    rw [uZ_ne z]
    exact h3 i a (by omega) c
theorem buI.up {V : Int → It} {lb k : Int} {s : BB} (h : buI V lb k s) : buI V lb (k + 1) s := ⟨h.1, h.2.1, h.2.2.1, fun i a b c => by
  obtain ⟨j, j1, j2⟩ := h.2.2.2 i a b c
  exact ⟨j, by omega, j2⟩⟩
theorem buI.lab {V : Int → It} {lb k n : Int} {s : BB} {x : It} (h : buI V lb k s) (u : UNQ V n) (k0 : 0 ≤ k) (k1 : k < n) (hk : V k 0 = 13) (hx : x 0 = 13) (h1 : x 1 = V k 1 + lb) : buI V lb (k + 1) (bA s x) := by
  obtain ⟨a0, a1, a2, a3⟩ := h
  refine ⟨by show 0 ≤ s.1 + 1; omega, a1.add (fun e i a b c d => ?_), fun i a b => ?_, fun i a b c => ?_⟩
  · obtain ⟨j, j1, j2, j3⟩ := a3 i a b c
    have := u j k j1.1 (by omega) k0 k1 j2 hk (by omega)
    omega
  · have b : i < s.1 + 1 := b
    show uZ s.2 s.1 x i 0 ≠ 10
    by_cases z : i = s.1
    · rw [z, uZ_eq, hx]; decide
    · rw [uZ_ne z]; exact a2 i a (by omega)
  · have b : i < s.1 + 1 := b
    have c : uZ s.2 s.1 x i 0 = 13 := c
    show ∃ j, (0 ≤ j ∧ j < k + 1) ∧ V j 0 = 13 ∧ V j 1 + lb = uZ s.2 s.1 x i 1
    by_cases z : i = s.1
    · rw [z, uZ_eq]
      exact ⟨k, by omega, hk, h1.symm⟩
    · rw [uZ_ne z] at c ⊢
      obtain ⟨j, j1, j2⟩ := a3 i a (by omega) c
      exact ⟨j, by omega, j2⟩
theorem mk_0 {k d o ak a w : Int} : mkI k d o ak a w 0 = k := rfl
theorem bu_1 {V : Int → It} {lb f base P : Int} {na : Int → Int} {x : It} {s : BB} {n : Nat} (h : buI V lb 0 s) : buI V lb 0 (mb1 f base P na x s n) := by
  induction n with
  | zero => exact h
  | succ n ih =>
    show buI V lb 0 (nmS f base P na x n (mb1 f base P na x s n))
    unfold nmS
    by_cases a : (n : Int) < P
    · rw [if_pos a]
      exact (ih.add (by rw [mk_0]; decide) (by rw [mk_0]; decide)).add (by rw [mk_0]; decide) (by rw [mk_0]; decide)
    · rw [if_neg a]
      exact ih.add (by rw [mk_0]; decide) (by rw [mk_0]; decide)
theorem bu_2 {V : Int → It} {lb base : Int} {lv : Int → Prop} {s : BB} {n : Nat} (h : buI V lb 0 s) : buI V lb 0 (mb2 base lv s n) := by
  induction n with
  | zero => exact h
  | succ n ih =>
    show buI V lb 0 (dI (lv n) (bA (mb2 base lv s n) _) (mb2 base lv s n))
    by_cases a : lv n
    · rw [dI_y a]
      exact ih.add (by rw [mk_0]; decide) (by rw [mk_0]; decide)
    · rw [dI_n a]; exact ih
theorem so_0 {base : Int} {i : It} : shO base i 0 = i 0 ∧ shO base i 1 = i 1 := ⟨if_neg (fun z => absurd z.1 (by decide)), if_neg (fun z => absurd z.1 (by decide))⟩
theorem ml_0 {f base lb : Int} {i : It} : mlI f base lb i 0 = i 0 := by
  unfold mlI
  by_cases a : i 0 = 8 ∨ i 0 = 9 ∨ i 0 = 13
  · rw [if_pos a, uZ_ne (by decide), so_0.1]
  · rw [if_neg a]
    by_cases b : i 0 = 11 ∨ i 0 = 12
    · rw [if_pos b, uZ_ne (by decide), so_0.1]
    · rw [if_neg b]
      by_cases c : i 0 = 14 ∨ i 0 = 15
      · rw [if_pos c, uZ_ne (by decide), so_0.1]
      · rw [if_neg c]
        by_cases d : i 0 = 6
        · rw [if_pos d, so_0.1]
        · rw [if_neg d, uZ_ne (by decide), so_0.1]
theorem bu_3 {V : Int → It} {f base lb to out n : Int} {s : BB} {k : Nat} (h : buI V lb 0 s) (u : UNQ V n) (hc : ∀ j, 0 ≤ j → j < n → V j 0 ≠ 10) (hk : (k : Int) ≤ n) : buI V lb k (mb3 f base lb to out V s k) := by
  induction k with
  | zero => exact h
  | succ k ih =>
    have i := ih (by omega)
    rw [show ((k + 1 : Nat) : Int) = (k : Int) + 1 by omega]
    show buI V lb ((k : Int) + 1) (if V k 0 = 7 then bA (bA (mb3 f base lb to out V s k) (uZ (uZ (shO base (V k)) 0 0) 1 to)) (mkI 8 out 0 0 0 0) else bA (mb3 f base lb to out V s k) (mlI f base lb (V k)))
    by_cases a : V k 0 = 7
    · rw [if_pos a]
      exact ((i.up).add (by rw [uZ_ne (by decide), uZ_eq]; decide) (by rw [uZ_ne (by decide), uZ_eq]; decide)).add (by rw [mk_0]; decide) (by rw [mk_0]; decide)
    · rw [if_neg a]
      by_cases b : V k 0 = 13
      · exact i.lab u (by omega) (by omega) b (by rw [ml_0]; exact b) (by rw [ml_lab (Or.inr (Or.inr b)), uZ_eq])
      · exact (i.up).add (by rw [ml_0]; exact b) (by rw [ml_0]; exact hc k (by omega) (by omega))
def LZ (V : Int → It) (n : Int) : Prop := ∀ i, 0 ≤ i → i < n → V i 0 = 13 → 0 ≤ V i 1
def CLQ (V : Int → It) (n C : Int) : Prop := ∀ i, 0 ≤ i → i < n → V i 0 = 10 → 0 ≤ V i 2 ∧ V i 2 < C
theorem bu_m {f base lb lq to P N nq : Int} {na : Int → Int} {x : It} {lv : Int → Prop} {V : Int → It} (u : UNQ V nq) (z : LZ V nq) (hn : 0 ≤ nq) (hc : ∀ j, 0 ≤ j → j < nq → V j 0 ≠ 10) (hl : lbV V nq lq) (l0 : 0 ≤ lq) : 0 ≤ (mkB f base lb (lb + lq) to P N nq na x lv V).1 ∧ UNQ (mkB f base lb (lb + lq) to P N nq na x lv V).2 (mkB f base lb (lb + lq) to P N nq na x lv V).1 ∧ ∀ i, 0 ≤ i → i < (mkB f base lb (lb + lq) to P N nq na x lv V).1 → (mkB f base lb (lb + lq) to P N nq na x lv V).2 i 0 ≠ 10 ∧ ((mkB f base lb (lb + lq) to P N nq na x lv V).2 i 0 = 13 → lb ≤ (mkB f base lb (lb + lq) to P N nq na x lv V).2 i 1) := by
  unfold mkB
  have b0 : buI V lb 0 (0, fun _ => zI) := ⟨Int.le_refl _, fun i j a b => absurd b (by show ¬ i < 0; omega), fun i a b => absurd b (by show ¬ i < 0; omega), fun i a b => absurd b (by show ¬ i < 0; omega)⟩
  have b3 := bu_3 (f := f) (base := base) (to := to) (out := lb + lq) (k := nq.toNat) (bu_2 (base := base) (lv := lv) (n := 192) (bu_1 (f := f) (base := base) (P := P) (na := na) (x := x) (n := N.toNat) (b0.add (x := mkI 14 f 0 0 0 0) (by rw [mk_0]; decide) (by rw [mk_0]; decide)))) u hc (by omega)
  generalize hs : mb3 f base lb to (lb + lq) V (mb2 base lv (mb1 f base P na x (bA (0, fun _ => zI) (mkI 14 f 0 0 0 0)) N.toNat) 192) nq.toNat = s at b3
  obtain ⟨c0, c1, c2, c3⟩ := b3
  have hi : ∀ i, 0 ≤ i → i < s.1 → s.2 i 0 = 13 → lb ≤ s.2 i 1 ∧ s.2 i 1 < lb + lq := fun i a b c => by
    obtain ⟨j, j1, j2, j3⟩ := c3 i a b c
    have z1 := z j j1.1 (by omega) j2
    have z2 := hl j j1.1 (by omega) (Or.inr (Or.inr j2))
    omega
  have u1 : UNQ (uZ s.2 s.1 (mkI 13 (lb + lq) 0 0 0 0)) (s.1 + 1) := c1.add (fun _ i a b c d => by have := hi i a b c; have e : mkI 13 (lb + lq) 0 0 0 0 1 = lb + lq := rfl; rw [e] at d; omega)
  have u2 : UNQ (uZ (uZ s.2 s.1 (mkI 13 (lb + lq) 0 0 0 0)) (s.1 + 1) (mkI 15 f 0 0 0 0)) (s.1 + 1 + 1) := u1.add (fun e => absurd e (by rw [mk_0]; decide))
  refine ⟨by show 0 ≤ s.1 + 1 + 1; omega, u2, fun i a b => ?_⟩
  have b : i < s.1 + 1 + 1 := b
  show uZ (uZ s.2 s.1 (mkI 13 (lb + lq) 0 0 0 0)) (s.1 + 1) (mkI 15 f 0 0 0 0) i 0 ≠ 10 ∧ (uZ (uZ s.2 s.1 (mkI 13 (lb + lq) 0 0 0 0)) (s.1 + 1) (mkI 15 f 0 0 0 0) i 0 = 13 → lb ≤ uZ (uZ s.2 s.1 (mkI 13 (lb + lq) 0 0 0 0)) (s.1 + 1) (mkI 15 f 0 0 0 0) i 1)
  by_cases p : i = s.1 + 1
  · rw [p, uZ_eq, mk_0]; exact ⟨by decide, fun e => absurd e (by decide)⟩
  · rw [uZ_ne p]
    by_cases q : i = s.1
    · rw [q, uZ_eq, mk_0]; exact ⟨by decide, fun _ => by show lb ≤ lb + lq; omega⟩
    · rw [uZ_ne q]
      exact ⟨c2 i a (by omega), fun e => (hi i a (by omega) e).1⟩
theorem UNQ.sp {V B : Int → It} {n k a lb : Int} (u : UNQ V n) (hl : lbV V n lb) (ub : UNQ B a) (hb : ∀ i, 0 ≤ i → i < a → B i 0 = 13 → lb ≤ B i 1) (hk : 0 ≤ k ∧ k < n) (a0 : 0 ≤ a) : UNQ (spV V k a B) (n + a - 1) := fun i j x1 x2 y1 y2 e f g => by
  have cls : ∀ i, 0 ≤ i → i < n + a - 1 → spV V k a B i 0 = 13 → (∃ s, (0 ≤ s ∧ s < n ∧ s ≠ k) ∧ V s 0 = 13 ∧ V s 1 = spV V k a B i 1 ∧ spV V k a B i 1 < lb ∧ i = (if s < k then s else s + a - 1)) ∨ (∃ s, (0 ≤ s ∧ s < a) ∧ B s 0 = 13 ∧ B s 1 = spV V k a B i 1 ∧ lb ≤ spV V k a B i 1 ∧ i = k + s) := fun i x1 x2 e => by
    unfold spV at e ⊢
    by_cases p : i < k
    · rw [if_pos p] at e
      refine Or.inl ⟨i, by omega, e, ?_⟩
      rw [if_pos p, if_pos p]
      exact ⟨rfl, hl i x1 (by omega) (Or.inr (Or.inr e)), rfl⟩
    · rw [if_neg p] at e
      by_cases q : i < k + a
      · rw [if_pos q] at e
        refine Or.inr ⟨i - k, by omega, e, ?_⟩
        rw [if_neg p, if_pos q]
        exact ⟨rfl, hb _ (by omega) (by omega) e, by omega⟩
      · rw [if_neg q] at e
        refine Or.inl ⟨i - a + 1, by omega, e, ?_⟩
        rw [if_neg p, if_neg q, if_neg (show ¬ i - a + 1 < k by omega)]
        exact ⟨rfl, hl _ (by omega) (by omega) (Or.inr (Or.inr e)), by omega⟩
  rcases cls i x1 x2 e with ⟨s, s1, s2, s3, s4, s5⟩ | ⟨s, s1, s2, s3, s4, s5⟩ <;> rcases cls j y1 y2 f with ⟨t, t1, t2, t3, t4, t5⟩ | ⟨t, t1, t2, t3, t4, t5⟩
  · have z := u s t s1.1 s1.2.1 t1.1 t1.2.1 s2 t2 (by rw [s3, t3, g])
    rw [s5, t5, z]
  · omega
  · omega
  · have z := ub s t s1.1 s1.2 t1.1 t1.2 s2 t2 (by rw [s3, t3, g])
    rw [s5, t5, z]
theorem CLQ.sp {V B : Int → It} {n k a C : Int} (u : CLQ V n C) (hb : ∀ i, 0 ≤ i → i < a → B i 0 ≠ 10) (hk : 0 ≤ k ∧ k < n) : CLQ (spV V k a B) (n + a - 1) C := fun i x1 x2 e => by
  unfold spV at e ⊢
  by_cases p : i < k
  · rw [if_pos p] at e ⊢
    exact u i x1 (by omega) e
  · rw [if_neg p] at e ⊢
    by_cases q : i < k + a
    · rw [if_pos q] at e
      exact absurd e (hb _ (by omega) (by omega))
    · rw [if_neg q] at e ⊢
      exact u _ (by omega) (by omega) e
theorem MLR.un {r C : Int} {Gs : Int → RTS} {PM NM : Int → Int} {t : Nat} {H H' : RTS} {k k' w : Int} (h : MLR r Gs PM NM t H k H' k' w) (k0 : 0 ≤ k) (u : UNQ H.V H.n) (c : CLQ H.V H.n C) (hg : ∀ q, 0 ≤ q → q < C → 0 ≤ (Gs q).n ∧ UNQ (Gs q).V (Gs q).n ∧ LZ (Gs q).V (Gs q).n) : 0 ≤ k' ∧ UNQ H'.V H'.n ∧ CLQ H'.V H'.n C := by
  induction t generalizing H' k' w with
  | zero => rw [h.1, h.2.1]; exact ⟨k0, u, c⟩
  | succ t ih =>
    obtain ⟨H1, k1, w1, d, h1, h2, h3, h4⟩ := h
    obtain ⟨i0, i1, i2⟩ := ih h1
    rcases h3 with ⟨base, lb, lq, j0, m, m1, m2, m3, m4, e1, e2, e3⟩ | ⟨m, e1, e2, e3⟩
    · have q := i2 k1 i0 h2 m.1
      obtain ⟨g0, g1, g2⟩ := hg _ q.1 q.2
      have b := bu_m (f := H1.F) (base := base) (lb := lb) (lq := lq) (to := H1.V k1 1) (P := PM (H1.V k1 2)) (N := NM (H1.V k1 2)) (na := (Gs (H1.V k1 2)).na 0) (x := H1.V k1) (lv := lvS (Gs (H1.V k1 2)) (PM (H1.V k1 2))) g1 g2 g0 m.2.2.1 m3.2.1 m3.1
      have b : 0 ≤ (mkS H1 (Gs (H1.V k1 2)) k1 base lb lq (PM (H1.V k1 2)) (NM (H1.V k1 2))).1 ∧ UNQ (mkS H1 (Gs (H1.V k1 2)) k1 base lb lq (PM (H1.V k1 2)) (NM (H1.V k1 2))).2 (mkS H1 (Gs (H1.V k1 2)) k1 base lb lq (PM (H1.V k1 2)) (NM (H1.V k1 2))).1 ∧ ∀ i, 0 ≤ i → i < (mkS H1 (Gs (H1.V k1 2)) k1 base lb lq (PM (H1.V k1 2)) (NM (H1.V k1 2))).1 → (mkS H1 (Gs (H1.V k1 2)) k1 base lb lq (PM (H1.V k1 2)) (NM (H1.V k1 2))).2 i 0 ≠ 10 ∧ ((mkS H1 (Gs (H1.V k1 2)) k1 base lb lq (PM (H1.V k1 2)) (NM (H1.V k1 2))).2 i 0 = 13 → lb ≤ (mkS H1 (Gs (H1.V k1 2)) k1 base lb lq (PM (H1.V k1 2)) (NM (H1.V k1 2))).2 i 1) := b
      rw [e1, e2]
      exact ⟨by omega, i1.sp m2.2.1 b.2.1 (fun i x y => (b.2.2 i x y).2) ⟨i0, h2⟩ b.1, i2.sp (fun i x y => (b.2.2 i x y).1) ⟨i0, h2⟩⟩
    · rw [e1, e2]
      exact ⟨by omega, i1, i2⟩
end
section
theorem MLP.det {r : Int} {Gs : Int → RTS} {PM NM : Int → Int} {H A B : RTS} {k a b d e : Int} (h : MLP r Gs PM NM H k A a d) (g : MLP r Gs PM NM H k B b e) : A = B ∧ a = b ∧ d = e := by
  rcases h with ⟨x1, x2, x3, x4, m, m1, m2, m3, m4, e1, e2, e3⟩ | ⟨m, e1, e2, e3⟩ <;> rcases g with ⟨y1, y2, y3, y4, n, n1, n2, n3, n4, f1, f2, f3⟩ | ⟨n, f1, f2, f3⟩
  · have z1 := m1.det n1
    have z2 := m2.det n2
    have z3 := m3.det n3
    have z4 := m4.det n4
    subst z1 z2 z3 z4
    exact ⟨e1.trans f1.symm, e2.trans f2.symm, e3.trans f3.symm⟩
  · exact absurd m n
  · exact absurd n m
  · exact ⟨e1.trans f1.symm, e2.trans f2.symm, e3.trans f3.symm⟩
theorem MLR.det {r : Int} {Gs : Int → RTS} {PM NM : Int → Int} {t : Nat} {H A B : RTS} {k a b d e : Int} (h : MLR r Gs PM NM t H k A a d) (g : MLR r Gs PM NM t H k B b e) : A = B ∧ a = b ∧ d = e := by
  induction t generalizing A B a b d e with
  | zero => exact ⟨h.1.trans g.1.symm, h.2.1.trans g.2.1.symm, h.2.2.trans g.2.2.symm⟩
  | succ t ih =>
    obtain ⟨H1, k1, w1, d1, h1, h2, h3, h4⟩ := h
    obtain ⟨H2, k2, w2, d2, g1, g2, g3, g4⟩ := g
    obtain ⟨z1, z2, z3⟩ := ih h1 g1
    subst z1 z2 z3
    obtain ⟨y1, y2, y3⟩ := h3.det g3
    subst y1 y2 y3
    exact ⟨rfl, rfl, h4.trans g4.symm⟩
theorem MLR.cut {r : Int} {Gs : Int → RTS} {PM NM : Int → Int} {s t : Nat} {H A : RTS} {k a d : Int} (h : MLR r Gs PM NM s H k A a d) (g : t < s) : ∃ B b e, MLR r Gs PM NM t H k B b e ∧ b < B.n := by
  induction s generalizing A a d with
  | zero => omega
  | succ s ih =>
    obtain ⟨H1, k1, w1, d1, h1, h2, h3, h4⟩ := h
    by_cases e : t = s
    · subst e; exact ⟨H1, k1, w1, h1, h2⟩
    · exact ih h1 (by omega)
theorem MLR.end {r : Int} {Gs : Int → RTS} {PM NM : Int → Int} {s t : Nat} {H A B : RTS} {k d e : Int} (h : MLR r Gs PM NM s H k A A.n d) (g : MLR r Gs PM NM t H k B B.n e) : A = B ∧ d = e := by
  have z : s = t := by
    by_cases x : s < t
    · obtain ⟨C, c, f, h1, h2⟩ := g.cut x
      obtain ⟨e1, e2, e3⟩ := h.det h1
      subst e1
      omega
    · by_cases y : t < s
      · obtain ⟨C, c, f, h1, h2⟩ := h.cut y
        obtain ⟨e1, e2, e3⟩ := g.det h1
        subst e1
        omega
      · omega
  subst z
  have q := h.det g
  exact ⟨q.1, q.2.2⟩
def RGK (H : RTS) (NM : Int → Int) : Prop := (∀ i, 0 ≤ i → i < H.n → (H.V i 0 ≤ 5 ∨ H.V i 0 = 10) → 0 ≤ H.V i 1 ∧ H.V i 1 < 192) ∧ (∀ i, 0 ≤ i → i < H.n → ∀ j, 0 ≤ j → j < 4 → H.V i (3 + 2 * j) = 2 → 0 ≤ H.V i (4 + 2 * j) ∧ H.V i (4 + 2 * j) < 192) ∧ ∀ f m, 0 ≤ f → f < H.F → 0 ≤ m → m < NM (H.fo f) → 0 ≤ H.na f m ∧ H.na f m < 192
theorem ub_c {V : Int → It} {n : Int} {f h : Int → Int} {bg : Int → Prop} (e : ∀ g, 0 ≤ g → g < 192 → f g = h g) (hw : ∀ i, 0 ≤ i → i < n → (V i 0 ≤ 5 ∨ V i 0 = 10) → 0 ≤ V i 1 ∧ V i 1 < 192) (hr : ∀ i, 0 ≤ i → i < n → ∀ j, 0 ≤ j → j < 4 → V i (3 + 2 * j) = 2 → 0 ≤ V i (4 + 2 * j) ∧ V i (4 + 2 * j) < 192) : ubV V n f bg = ubV V n h bg := by
  funext k
  unfold ubV
  refine dI_c ?_
  have rd : ∀ u, 0 ≤ k → k < n → rdI (V k) u → 0 ≤ u ∧ u < 192 := fun u a b z => by
    obtain ⟨j, j0, j1, j2, j3⟩ := z
    rw [← j3]; exact hr k a b j j0 j1 j2
  constructor
  · rintro ⟨a, b, c, u, d, q⟩
    have r := rd u a.1 a.2 d
    exact ⟨a, b, c, u, d, lsV.cong e hw r.1 r.2 q⟩
  · rintro ⟨a, b, c, u, d, q⟩
    have r := rd u a.1 a.2 d
    exact ⟨a, b, c, u, d, lsV.cong (fun g x y => (e g x y).symm) hw r.1 r.2 q⟩
theorem rn_c {f h : Int → Int} {i : It} (e : ∀ g, 0 ≤ g → g < 192 → f g = h g) (h1 : (i 0 ≤ 5 ∨ i 0 = 10) → 0 ≤ i 1 ∧ i 1 < 192) (h2 : ∀ j, 0 ≤ j → j < 4 → i (3 + 2 * j) = 2 → 0 ≤ i (4 + 2 * j) ∧ i (4 + 2 * j) < 192) : rnI f i = rnI h i := by
  funext c
  unfold rnI
  by_cases a : c = 1 ∧ (i 0 ≤ 5 ∨ i 0 = 10)
  · rw [if_pos a, if_pos a]
    have r := h1 a.2
    exact e _ r.1 r.2
  · rw [if_neg a, if_neg a]
    by_cases b : (c = 4 ∨ c = 6 ∨ c = 8 ∨ c = 10) ∧ i (c - 1) = 2
    · rw [if_pos b, if_pos b]
      obtain ⟨b1, b2⟩ := b
      have r : 0 ≤ i c ∧ i c < 192 := by
        rcases b1 with z | z | z | z <;> subst z
        · exact h2 0 (by decide) (by decide) b2
        · exact h2 1 (by decide) (by decide) b2
        · exact h2 2 (by decide) (by decide) b2
        · exact h2 3 (by decide) (by decide) b2
      exact e _ r.1 r.2
    · rw [if_neg b, if_neg b]
theorem sh_c {H : RTS} {P : Int} {NM f h : Int → Int} (e : ∀ g, 0 ≤ g → g < 192 → f g = h g) (k : RGK H NM) : shS H P NM f = shS H P NM h := by
  obtain ⟨k1, k2, k3⟩ := k
  unfold shS
  refine Prod.ext rfl (Prod.ext ?_ (Prod.ext rfl (Prod.ext rfl (Prod.ext rfl (Prod.ext rfl ?_)))))
  · show shV H.V H.n f (bgV H.V H.n (pmS H P)) = shV H.V H.n h (bgV H.V H.n (pmS H P))
    unfold shV
    rw [ub_c e k1 k2]
    funext i
    by_cases a : 0 ≤ i ∧ i < H.n
    · rw [if_pos a, if_pos a]
      unfold ubV
      by_cases z : (0 ≤ i ∧ i < H.n) ∧ H.V i 0 = 12 ∧ RCG H.V H.n 0 (fun _ => False) i ∧ ∃ u, rdI (H.V i) u ∧ lsV H.V H.n h (bgV H.V H.n (pmS H P)) i u
      · rw [dI_y z]
        unfold goI
        refine rn_c e (fun w => ?_) (fun j j0 j1 w => ?_)
        · rw [uZ_ne (by decide), uZ_ne (by decide), uZ_ne (by decide), uZ_ne (by decide), uZ_ne (by decide)] at w
          have := z.2.1; omega
        · by_cases j3 : j = 0
          · subst j3
            rw [uZ_ne (by decide), uZ_ne (by decide), uZ_ne (by decide), show (3 + 2 * 0 : Int) = 3 by decide, uZ_eq] at w
            exact absurd w (by decide)
          · by_cases j4 : j = 1
            · subst j4
              rw [uZ_ne (by decide), show (3 + 2 * 1 : Int) = 5 by decide, uZ_eq] at w
              exact absurd w (by decide)
            · rw [uZ_ne (by omega), uZ_ne (by omega), uZ_ne (by omega), uZ_ne (by omega), uZ_ne (by omega)] at w
              rw [uZ_ne (by omega), uZ_ne (by omega), uZ_ne (by omega), uZ_ne (by omega), uZ_ne (by omega)]
              exact k2 i a.1 a.2 j j0 j1 w
      · rw [dI_n z]
        exact rn_c e (k1 i a.1 a.2) (k2 i a.1 a.2)
    · rw [if_neg a, if_neg a]
  · funext y m
    show (if (0 ≤ y ∧ y < H.F) ∧ 0 ≤ m ∧ m < NM (H.fo y) then f (H.na y m) else 0) = if (0 ≤ y ∧ y < H.F) ∧ 0 ≤ m ∧ m < NM (H.fo y) then h (H.na y m) else 0
    by_cases a : (0 ≤ y ∧ y < H.F) ∧ 0 ≤ m ∧ m < NM (H.fo y)
    · rw [if_pos a, if_pos a]
      have r := k3 y m a.1.1 a.1.2 a.2.1 a.2.2
      exact e _ r.1 r.2
    · rw [if_neg a, if_neg a]
theorem RTS.ext3 {A B : RTS} (h1 : A.n = B.n) (h2 : A.V = B.V) (h3 : A.2.2 = B.2.2) : A = B := Prod.ext h1 (Prod.ext h2 h3)
theorem PSV.det {w r : Int} {Gs : Int → RTS} {PM NM : Int → Int} {H A B : RTS} {u v : Int} (k : RGK H NM) (h : PSV w r Gs PM NM H A u) (g : PSV w r Gs PM NM H B v) : A = B ∧ u = v := by
  rcases h with ⟨a, ⟨K, b⟩, c⟩ | ⟨a, b, c⟩ | ⟨a, b, c, d⟩ | ⟨a, b, c, d⟩ | ⟨a, t, b⟩ | ⟨a, nb, b, b1, b2, b3⟩ <;> rcases g with ⟨a', ⟨K', b'⟩, c'⟩ | ⟨a', b', c'⟩ | ⟨a', b', c', d'⟩ | ⟨a', b', c', d'⟩ | ⟨a', t', b'⟩ | ⟨a', nb', b', b1', b2', b3'⟩ <;> try omega
  · rw [b] at b'
    have z1 : A.n = B.n := congrArg (fun z : FOT => z.2.1) b'
    have z2 : u = v := congrArg (fun z : FOT => z.2.2.1) b'
    have z3 : A.V = B.V := congrArg (fun z : FOT => z.2.2.2) b'
    exact ⟨RTS.ext3 z1 z3 (c.trans c'.symm), z2⟩
  · obtain ⟨z1, z2, z3⟩ := b.det b'
    exact ⟨RTS.ext3 z2 z1 (c.trans c'.symm), z3⟩
  · obtain ⟨z1, z2⟩ := b.det b'
    exact ⟨RTS.ext3 (c.trans c'.symm) z1 (d.trans d'.symm), z2⟩
  · obtain ⟨z1, z2⟩ := b.det b'
    exact ⟨RTS.ext3 (c.trans c'.symm) z1 (d.trans d'.symm), z2⟩
  · exact b.end b'
  · have e : A = B := by rw [b2, b2']; exact sh_c (b.det b') k
    subst e
    exact ⟨rfl, b3.det b3'⟩
theorem PSV.un {w r v C : Int} {Gs : Int → RTS} {PM NM : Int → Int} {H H' : RTS} (h : PSV w r Gs PM NM H H' v) (n0 : 0 ≤ H.n) (u : UNQ H.V H.n) (c : CLQ H.V H.n C) (hg : ∀ q, 0 ≤ q → q < C → 0 ≤ (Gs q).n ∧ UNQ (Gs q).V (Gs q).n ∧ LZ (Gs q).V (Gs q).n) : UNQ H'.V H'.n := by
  rcases h with ⟨a, ⟨K, b⟩, _⟩ | ⟨a, b, _⟩ | ⟨a, b, d, _⟩ | ⟨a, b, d, _⟩ | ⟨a, t, b⟩ | ⟨a, nb, b, b1, b2, b3⟩
  · have z := u.fold (n := H.n.toNat) (by omega)
    rw [b] at z
    exact z.2.1
  · exact u.drop n0 b
  · rw [d]; exact u.mva b (by omega)
  · rw [d]; exact u.als b
  · exact (b.un (Int.le_refl 0) u c hg).2.1
  · rw [b2]; exact u.sh
end
section
def UNA (σ : MS) : Prop := ∀ q, 0 ≤ q → q < σ.1 10 → UNQ (rV σ q) (σ.2.1 9 q)
theorem cl_rs {σ : MS} {r : Int} (g : GDR σ r) : CLQ (rS σ r).V (rS σ r).n (σ.1 10) := fun i a b c => by
  have b : i < σ.2.1 9 r := b
  rw [rs_V, rv_at a b] at c ⊢
  exact g.call ⟨a, b⟩ c
theorem lz_rs {σ : MS} {r : Int} (g : GDR σ r) : LZ (rS σ r).V (rS σ r).n := fun i a b c => by
  have b : i < σ.2.1 9 r := b
  rw [rs_V, rv_at a b] at c ⊢
  exact (g.2.2.1.jmp.lbr i a b c).1
theorem rg_rs {σ : MS} {r : Int} (g : GDR σ r) : RGK (rS σ r) (σ.2.1 12) := by
  refine ⟨fun i a b c => ?_, fun i a b j j0 j1 c => ?_, fun f m f0 f1 m0 m1 => ?_⟩
  · have b : i < σ.2.1 9 r := b
    have o := g.2.2.1 i a b
    rw [rs_V, rv_at a b] at c
    rw [rs_V, rv_at a b]
    have c : σ.2.1 3 (220 * r + i) ≤ 5 ∨ σ.2.1 3 (220 * r + i) = 10 := c
    exact o.2.1 c
  · have b : i < σ.2.1 9 r := b
    have o := g.2.2.1 i a b
    rw [rs_V, rv_at a b] at c
    rw [rs_V, rv_at a b]
    have e : rI σ (220 * r + i) (3 + 2 * j) = σ.2.1 7 (4 * (220 * r + i) + j) ∧ rI σ (220 * r + i) (4 + 2 * j) = σ.2.1 8 (4 * (220 * r + i) + j) := by
      have q : j = 0 ∨ j = 1 ∨ j = 2 ∨ j = 3 := by omega
      rcases q with z | z | z | z <;> subst z <;> exact ⟨rfl, rfl⟩
    rw [e.1] at c
    rw [e.2]
    have z := (o.2.2.2.2.2.2.2.1 j j0 j1).2 c
    exact ⟨by omega, by omega⟩
  · have f1 : f < σ.2.1 14 r := f1
    rw [rs_fo ⟨f0, f1⟩] at m1
    rw [rs_na ⟨f0, f1⟩ ⟨m0, m1⟩]
    exact (g.2.1.2 f f0 f1).2 m m0 m1
theorem UNA.step {σ τ : MS} {w r v : Int} (h : PSQ σ τ w r v) (g : GDA σ) (e10 : τ.1 10 = σ.1 10) (u : UNA σ) : UNA τ := fun q q0 q1 => by
  rw [e10] at q1
  rcases h with ⟨_, _, h⟩ | ⟨hw, h1, h2⟩
  · have e := h q
    have z := u q q0 q1
    rw [show τ.2.1 9 q = σ.2.1 9 q from congrArg RTS.n e, show rV τ q = rV σ q from congrArg RTS.V e]
    exact z
  · by_cases e : q = r
    · subst e
      have gq := g.2 q q0 q1
      exact h1.un (C := σ.1 10) (by show 0 ≤ σ.2.1 9 q; have := gq.1; omega) (u q q0 q1) (cl_rs gq) (fun j a b => ⟨by show 0 ≤ σ.2.1 9 j; have := (g.2 j a b).1; omega, u j a b, lz_rs (g.2 j a b)⟩)
    · have e := h2 q q0 q1 e
      have z := u q q0 q1
      rw [show τ.2.1 9 q = σ.2.1 9 q from congrArg RTS.n e, show rV τ q = rV σ q from congrArg RTS.V e]
      exact z
end
section
def RTA (C : Int) (H : RTS) (P N L : Int) (NM : Int → Int) (r w v : Int) : Prop := (¬ (0 ≤ r ∧ r < C) ∧ v = -1) ∨ ((0 ≤ r ∧ r < C) ∧ ((w = 0 ∧ v = H.n) ∨ (w = 1 ∧ v = cN (fun j => H.V j 0 ≤ 10) 0 H.n.toNat) ∨ (w = 2 ∧ v = N) ∨ (w = 3 ∧ v = P) ∨ (w = 4 ∧ mxV (rgV H.V H.n (hmS H NM)) v) ∨ (w = 5 ∧ v = H.F) ∨ (w = 6 ∧ v = L) ∨ ((7 ≤ w ∧ w ≤ 6 + N) ∧ v = H.na 0 (w - 7)) ∨ ((w < 0 ∨ (7 ≤ w ∧ 6 + N < w)) ∧ v = -1)))
def nAr (PM : Int → Int) (i : It) : Int := if i 0 = 10 then PM (i 2) else if i 0 = 12 then (if 10 ≤ i 11 then 0 else if 2 < i 11 then 2 else 1) else if 1 ≤ i 0 ∧ i 0 ≤ 5 then 2 else if i 0 = 0 ∨ i 0 = 6 ∨ i 0 = 7 ∨ i 0 = 9 then 1 else 0
def FRA (C : Int) (H : RTS) (r f w v : Int) : Prop := (¬ ((0 ≤ r ∧ r < C) ∧ 0 ≤ f ∧ f < H.F) ∧ v = -1) ∨ (((0 ≤ r ∧ r < C) ∧ 0 ≤ f ∧ f < H.F) ∧ ((w = 0 ∧ v = H.fo f) ∨ (w = 1 ∧ v = H.fi f) ∨ (w = 2 ∧ v = H.fl f) ∨ ((w < 0 ∨ 2 < w) ∧ v = -1)))
section TLD
variable {σ : MS} {r k w v n : Int}
end TLD
end
section
set_option maxHeartbeats 1000000 in
set_option maxRecDepth 20000 in
theorem f_X12_routine (d : Nat) {b : Nat} {σ : MS} {x : Int} {w : Int} (hR : RG σ) (hit : ITM σ) (hpar : PAR σ) (hnam : NAM σ) (hrt : RTN σ) (h_x : -2147483648 ≤ x ∧ x ≤ 2147483647) (h_w : -2147483648 ≤ w ∧ w ≤ 2147483647) : Tm (d + 5) m_X12_routine 0 b σ [(0, .ref b), (1, .int (iI x)), (2, .int (iI w))] [] (fun ro σ2 => ∃ v : Int, ro = some (.int (iI v)) ∧ (Fr [0] [] [] σ σ2) ∧ (RG σ2) ∧ (RTA (σ.1 10) (rS σ x) (σ.2.1 11 x) (σ.2.1 12 x) (σ.2.1 13 x) (σ.2.1 12) x w v)) := by
  refine tm_aload_n dX12_routine_0 rfl 0 rfl ?_
  refine tm_iconst dX12_routine_1 ?_
  refine tm_putS (k := 0) (v := 0) lay_12 dX12_routine_2 (by decide) fl12_185 rfl (tyX12_ok 0 (by decide)) rfl rfl rfl ?_
  refine tm_aload_n dX12_routine_5 rfl 0 rfl ?_
  refine tm_iload_n dX12_routine_6 rfl 1 rfl ?_
  refine tm_callV (M := m_X12_routine) (pc := 7) (ix := 404) (M' := m_X12_isRoutine) (As := [.int (iI x)]) (rest := []) dX12_routine_7 ok_X12_isRoutine im_X12_isRoutine se_X12_isRoutine ml12_404 np_X12_isRoutine rfl rfl (Nat.le_of_ble_eq_true rfl) (Nat.le_of_ble_eq_true rfl) rfl (c_X12_isRoutine (d + 2) (σ := (sS 0 0 σ)) (x := x) (hR.S (by omega)) hrt.1 (by omega)) (fun r1 σ2 hp => ?_)
  obtain ⟨v3, rfl, rfl, f4, f5⟩ := hp
  show Tm _ _ 10 b (sS 0 0 σ) [(0, .ref b), (1, .int (iI x)), (2, .int (iI w))] [.int (iI v3)] _
  have e10 : (sS 0 0 σ).1 10 = σ.1 10 := rfl
  have hrt1 := hrt.1
  refine tm_if_ne (tgt := 15) dX12_routine_10 (by decide) ⟨by omega, by omega⟩ (fun h6 => ?_) (fun h6 => ?_)
  · have hri := hrt.2 x (by omega) (by omega)
    have hof := hri.2.1
    have hok := hri.2.2.1
    have q1 := hof.1
    have q2 := hnam x (by omega) (by omega)
    have q3 := hpar x (by omega) (by omega)
    refine tm_iload_n dX12_routine_15 rfl 2 rfl ?_
    by_cases h7 : w < 0 ∨ 6 < w
    · refine tm_tableOut (tgt := 107) dX12_routine_16 ⟨by omega, by omega⟩ h7 (by decide) ?_
      refine tm_iload_n dX12_routine_107 rfl 2 rfl ?_
      refine tm_bipush dX12_routine_108 (by decide) ?_
      refine tm_bipush dX12_routine_110 (by decide) ?_
      refine tm_aload_n dX12_routine_112 rfl 0 rfl ?_
      refine tm_get (k := 12) (v := .ref (b + 1 + 9)) lay_12 dX12_routine_113 (by decide) fl12_38 rfl ?_
      refine tm_iload_n dX12_routine_116 rfl 1 rfl ?_
      refine tm_iald (z := x) (v := σ.2.1 12 x) dX12_routine_117 (show mT[9]? = some (12, 0, 6) from rfl) (by omega) (by omega) (by decide) (ra_S (rfl)) ?_
      have g8 := RG.a hR 12 (x)
      refine tm_iadd dX12_routine_118 ?_
      refine tm_callS (M := m_X12_routine) (pc := 119) (ix := 188) (M' := m_X12_in) (As := [.int (iI w), .int (iI 7), .int (iI (6 + (σ.2.1 12 x)))]) (rest := []) dX12_routine_119 ok_X12_in stt_X12_in ml12_188 np_X12_in rfl (Nat.le_of_ble_eq_true rfl) (Nat.le_of_ble_eq_true rfl) rfl (c_X12_in (d + 3) (σ := (sS 0 0 σ)) (x := w) (lo := 7) (hi := 6 + (σ.2.1 12 x)) (by omega) (by omega) (by omega)) (fun r9 σ10 hp => ?_)
      obtain ⟨v11, rfl, rfl, f12, f13⟩ := hp
      show Tm _ _ 122 b (sS 0 0 σ) [(0, .ref b), (1, .int (iI x)), (2, .int (iI w))] [.int (iI v11)] _
      refine tm_if_eq (tgt := 143) dX12_routine_122 (by decide) ⟨by omega, by omega⟩ (fun h14 => ?_) (fun h14 => ?_)
      · refine tm_iconst dX12_routine_143 ?_
        exact tm_iret rfl dX12_routine_144 (⟨_, rfl, (Fr.rfl.S (by decide)), (hR.S (by omega)), by first | exact Or.inl ⟨by omega, rfl⟩ | exact Or.inr ⟨by omega, Or.inl (⟨by omega, rfl⟩)⟩ | exact Or.inr ⟨by omega, Or.inr (Or.inl (⟨by omega, f13.trans (ac_rs (σ := σ))⟩))⟩ | exact Or.inr ⟨by omega, Or.inr (Or.inr (Or.inl (⟨by omega, rfl⟩)))⟩ | exact Or.inr ⟨by omega, Or.inr (Or.inr (Or.inr (Or.inl (⟨by omega, rfl⟩))))⟩ | exact Or.inr ⟨by omega, Or.inr (Or.inr (Or.inr (Or.inr (Or.inl (⟨by omega, rfl⟩)))))⟩ | exact Or.inr ⟨by omega, Or.inr (Or.inr (Or.inr (Or.inr (Or.inr (Or.inl (⟨by omega, rfl⟩))))))⟩ | exact Or.inr ⟨by omega, Or.inr (Or.inr (Or.inr (Or.inr (Or.inr (Or.inr (Or.inl (⟨by omega, rfl⟩)))))))⟩ | exact Or.inr ⟨by omega, Or.inr (Or.inr (Or.inr (Or.inr (Or.inr (Or.inr (Or.inr (Or.inl (⟨by omega, (congrArg (σ.2.1 18) (show _ = 144 * x + (w - 7) by omega)).trans (na0_rs hri.2.2.2.1 hof.1.1 ⟨by omega, by omega⟩).symm⟩))))))))⟩ | exact Or.inr ⟨by omega, Or.inr (Or.inr (Or.inr (Or.inr (Or.inr (Or.inr (Or.inr (Or.inr (⟨by omega, rfl⟩))))))))⟩⟩)
      · refine tm_aload_n dX12_routine_125 rfl 0 rfl ?_
        refine tm_get (k := 18) (v := .ref (b + 1 + 15)) lay_12 dX12_routine_126 (by decide) fl12_56 rfl ?_
        refine tm_sipush dX12_routine_129 (by decide) ?_
        refine tm_iload_n dX12_routine_132 rfl 1 rfl ?_
        refine tm_imul dX12_routine_133 ?_
        refine tm_iload_n dX12_routine_134 rfl 2 rfl ?_
        refine tm_iadd dX12_routine_135 ?_
        refine tm_bipush dX12_routine_136 (by decide) ?_
        refine tm_isub dX12_routine_138 ?_
        refine tm_iald (z := ((144 * x) + w) - 7) (v := σ.2.1 18 (((144 * x) + w) - 7)) dX12_routine_139 (show mT[15]? = some (18, 0, 864) from rfl) (by omega) (by omega) (by decide) (ra_S (rfl)) ?_
        have g15 := RG.a hR 18 (((144 * x) + w) - 7)
        refine tm_goto (tgt := 144) dX12_routine_140 (by decide) ?_
        exact tm_iret rfl dX12_routine_144 (⟨_, rfl, (Fr.rfl.S (by decide)), (hR.S (by omega)), by first | exact Or.inl ⟨by omega, rfl⟩ | exact Or.inr ⟨by omega, Or.inl (⟨by omega, rfl⟩)⟩ | exact Or.inr ⟨by omega, Or.inr (Or.inl (⟨by omega, f13.trans (ac_rs (σ := σ))⟩))⟩ | exact Or.inr ⟨by omega, Or.inr (Or.inr (Or.inl (⟨by omega, rfl⟩)))⟩ | exact Or.inr ⟨by omega, Or.inr (Or.inr (Or.inr (Or.inl (⟨by omega, rfl⟩))))⟩ | exact Or.inr ⟨by omega, Or.inr (Or.inr (Or.inr (Or.inr (Or.inl (⟨by omega, rfl⟩)))))⟩ | exact Or.inr ⟨by omega, Or.inr (Or.inr (Or.inr (Or.inr (Or.inr (Or.inl (⟨by omega, rfl⟩))))))⟩ | exact Or.inr ⟨by omega, Or.inr (Or.inr (Or.inr (Or.inr (Or.inr (Or.inr (Or.inl (⟨by omega, rfl⟩)))))))⟩ | exact Or.inr ⟨by omega, Or.inr (Or.inr (Or.inr (Or.inr (Or.inr (Or.inr (Or.inr (Or.inl (⟨by omega, (congrArg (σ.2.1 18) (show _ = 144 * x + (w - 7) by omega)).trans (na0_rs hri.2.2.2.1 hof.1.1 ⟨by omega, by omega⟩).symm⟩))))))))⟩ | exact Or.inr ⟨by omega, Or.inr (Or.inr (Or.inr (Or.inr (Or.inr (Or.inr (Or.inr (Or.inr (⟨by omega, rfl⟩))))))))⟩⟩)
    · have h7c : w = 0 ∨ w = 1 ∨ w = 2 ∨ w = 3 ∨ w = 4 ∨ w = 5 ∨ w = 6 := by omega
      rcases h7c with h7v | h7v | h7v | h7v | h7v | h7v | h7v
      · refine tm_tableIn (tgt := 60) dX12_routine_16 ⟨by omega, by omega⟩ (by omega) (by omega) (show _ = some (44) by rw [h7v]; rfl) (by decide) ?_
        refine tm_aload_n dX12_routine_60 rfl 0 rfl ?_
        refine tm_get (k := 9) (v := .ref (b + 1 + 7)) lay_12 dX12_routine_61 (by decide) fl12_32 rfl ?_
        refine tm_iload_n dX12_routine_64 rfl 1 rfl ?_
        refine tm_iald (z := x) (v := σ.2.1 9 x) dX12_routine_65 (show mT[7]? = some (9, 0, 13) from rfl) (by omega) (by omega) (by decide) (ra_S (rfl)) ?_
        have g16 := RG.a hR 9 (x)
        exact tm_iret rfl dX12_routine_66 (⟨_, rfl, (Fr.rfl.S (by decide)), (hR.S (by omega)), by first | exact Or.inl ⟨by omega, rfl⟩ | exact Or.inr ⟨by omega, Or.inl (⟨by omega, rfl⟩)⟩ | exact Or.inr ⟨by omega, Or.inr (Or.inl (⟨by omega, f5.trans (ac_rs (σ := σ))⟩))⟩ | exact Or.inr ⟨by omega, Or.inr (Or.inr (Or.inl (⟨by omega, rfl⟩)))⟩ | exact Or.inr ⟨by omega, Or.inr (Or.inr (Or.inr (Or.inl (⟨by omega, rfl⟩))))⟩ | exact Or.inr ⟨by omega, Or.inr (Or.inr (Or.inr (Or.inr (Or.inl (⟨by omega, rfl⟩)))))⟩ | exact Or.inr ⟨by omega, Or.inr (Or.inr (Or.inr (Or.inr (Or.inr (Or.inl (⟨by omega, rfl⟩))))))⟩ | exact Or.inr ⟨by omega, Or.inr (Or.inr (Or.inr (Or.inr (Or.inr (Or.inr (Or.inl (⟨by omega, rfl⟩)))))))⟩ | exact Or.inr ⟨by omega, Or.inr (Or.inr (Or.inr (Or.inr (Or.inr (Or.inr (Or.inr (Or.inl (⟨by omega, (congrArg (σ.2.1 18) (show _ = 144 * x + (w - 7) by omega)).trans (na0_rs hri.2.2.2.1 hof.1.1 ⟨by omega, by omega⟩).symm⟩))))))))⟩ | exact Or.inr ⟨by omega, Or.inr (Or.inr (Or.inr (Or.inr (Or.inr (Or.inr (Or.inr (Or.inr (⟨by omega, rfl⟩))))))))⟩⟩)
      · refine tm_tableIn (tgt := 67) dX12_routine_16 ⟨by omega, by omega⟩ (by omega) (by omega) (show _ = some (51) by rw [h7v]; rfl) (by decide) ?_
        refine tm_aload_n dX12_routine_67 rfl 0 rfl ?_
        refine tm_iload_n dX12_routine_68 rfl 1 rfl ?_
        refine tm_callV (M := m_X12_routine) (pc := 69) (ix := 407) (M' := m_X12_acts) (As := [.int (iI x)]) (rest := []) dX12_routine_69 ok_X12_acts im_X12_acts se_X12_acts ml12_407 np_X12_acts rfl rfl (Nat.le_of_ble_eq_true rfl) (Nat.le_of_ble_eq_true rfl) rfl (f_X12_acts (d + 1) (σ := (sS 0 0 σ)) (r := x) (by omega) (hR.S (by omega)) (hit.fr (show Fr [0] [] [] σ (sS 0 0 σ) from (Fr.rfl.S (by decide))) (by decide))) (fun r17 σ18 hp => ?_)
        obtain ⟨v19, rfl, rfl, f20, f21⟩ := hp
        show Tm _ _ 72 b (sS 0 0 σ) [(0, .ref b), (1, .int (iI x)), (2, .int (iI w))] [.int (iI v19)] _
        exact tm_iret rfl dX12_routine_72 (⟨_, rfl, (Fr.rfl.S (by decide)), (hR.S (by omega)), by first | exact Or.inl ⟨by omega, rfl⟩ | exact Or.inr ⟨by omega, Or.inl (⟨by omega, rfl⟩)⟩ | exact Or.inr ⟨by omega, Or.inr (Or.inl (⟨by omega, f21.trans (ac_rs (σ := σ))⟩))⟩ | exact Or.inr ⟨by omega, Or.inr (Or.inr (Or.inl (⟨by omega, rfl⟩)))⟩ | exact Or.inr ⟨by omega, Or.inr (Or.inr (Or.inr (Or.inl (⟨by omega, rfl⟩))))⟩ | exact Or.inr ⟨by omega, Or.inr (Or.inr (Or.inr (Or.inr (Or.inl (⟨by omega, rfl⟩)))))⟩ | exact Or.inr ⟨by omega, Or.inr (Or.inr (Or.inr (Or.inr (Or.inr (Or.inl (⟨by omega, rfl⟩))))))⟩ | exact Or.inr ⟨by omega, Or.inr (Or.inr (Or.inr (Or.inr (Or.inr (Or.inr (Or.inl (⟨by omega, rfl⟩)))))))⟩ | exact Or.inr ⟨by omega, Or.inr (Or.inr (Or.inr (Or.inr (Or.inr (Or.inr (Or.inr (Or.inl (⟨by omega, (congrArg (σ.2.1 18) (show _ = 144 * x + (w - 7) by omega)).trans (na0_rs hri.2.2.2.1 hof.1.1 ⟨by omega, by omega⟩).symm⟩))))))))⟩ | exact Or.inr ⟨by omega, Or.inr (Or.inr (Or.inr (Or.inr (Or.inr (Or.inr (Or.inr (Or.inr (⟨by omega, rfl⟩))))))))⟩⟩)
      · refine tm_tableIn (tgt := 73) dX12_routine_16 ⟨by omega, by omega⟩ (by omega) (by omega) (show _ = some (57) by rw [h7v]; rfl) (by decide) ?_
        refine tm_aload_n dX12_routine_73 rfl 0 rfl ?_
        refine tm_get (k := 12) (v := .ref (b + 1 + 9)) lay_12 dX12_routine_74 (by decide) fl12_38 rfl ?_
        refine tm_iload_n dX12_routine_77 rfl 1 rfl ?_
        refine tm_iald (z := x) (v := σ.2.1 12 x) dX12_routine_78 (show mT[9]? = some (12, 0, 6) from rfl) (by omega) (by omega) (by decide) (ra_S (rfl)) ?_
        have g22 := RG.a hR 12 (x)
        exact tm_iret rfl dX12_routine_79 (⟨_, rfl, (Fr.rfl.S (by decide)), (hR.S (by omega)), by first | exact Or.inl ⟨by omega, rfl⟩ | exact Or.inr ⟨by omega, Or.inl (⟨by omega, rfl⟩)⟩ | exact Or.inr ⟨by omega, Or.inr (Or.inl (⟨by omega, f5.trans (ac_rs (σ := σ))⟩))⟩ | exact Or.inr ⟨by omega, Or.inr (Or.inr (Or.inl (⟨by omega, rfl⟩)))⟩ | exact Or.inr ⟨by omega, Or.inr (Or.inr (Or.inr (Or.inl (⟨by omega, rfl⟩))))⟩ | exact Or.inr ⟨by omega, Or.inr (Or.inr (Or.inr (Or.inr (Or.inl (⟨by omega, rfl⟩)))))⟩ | exact Or.inr ⟨by omega, Or.inr (Or.inr (Or.inr (Or.inr (Or.inr (Or.inl (⟨by omega, rfl⟩))))))⟩ | exact Or.inr ⟨by omega, Or.inr (Or.inr (Or.inr (Or.inr (Or.inr (Or.inr (Or.inl (⟨by omega, rfl⟩)))))))⟩ | exact Or.inr ⟨by omega, Or.inr (Or.inr (Or.inr (Or.inr (Or.inr (Or.inr (Or.inr (Or.inl (⟨by omega, (congrArg (σ.2.1 18) (show _ = 144 * x + (w - 7) by omega)).trans (na0_rs hri.2.2.2.1 hof.1.1 ⟨by omega, by omega⟩).symm⟩))))))))⟩ | exact Or.inr ⟨by omega, Or.inr (Or.inr (Or.inr (Or.inr (Or.inr (Or.inr (Or.inr (Or.inr (⟨by omega, rfl⟩))))))))⟩⟩)
      · refine tm_tableIn (tgt := 80) dX12_routine_16 ⟨by omega, by omega⟩ (by omega) (by omega) (show _ = some (64) by rw [h7v]; rfl) (by decide) ?_
        refine tm_aload_n dX12_routine_80 rfl 0 rfl ?_
        refine tm_get (k := 11) (v := .ref (b + 1 + 8)) lay_12 dX12_routine_81 (by decide) fl12_35 rfl ?_
        refine tm_iload_n dX12_routine_84 rfl 1 rfl ?_
        refine tm_iald (z := x) (v := σ.2.1 11 x) dX12_routine_85 (show mT[8]? = some (11, 0, 6) from rfl) (by omega) (by omega) (by decide) (ra_S (rfl)) ?_
        have g23 := RG.a hR 11 (x)
        exact tm_iret rfl dX12_routine_86 (⟨_, rfl, (Fr.rfl.S (by decide)), (hR.S (by omega)), by first | exact Or.inl ⟨by omega, rfl⟩ | exact Or.inr ⟨by omega, Or.inl (⟨by omega, rfl⟩)⟩ | exact Or.inr ⟨by omega, Or.inr (Or.inl (⟨by omega, f5.trans (ac_rs (σ := σ))⟩))⟩ | exact Or.inr ⟨by omega, Or.inr (Or.inr (Or.inl (⟨by omega, rfl⟩)))⟩ | exact Or.inr ⟨by omega, Or.inr (Or.inr (Or.inr (Or.inl (⟨by omega, rfl⟩))))⟩ | exact Or.inr ⟨by omega, Or.inr (Or.inr (Or.inr (Or.inr (Or.inl (⟨by omega, rfl⟩)))))⟩ | exact Or.inr ⟨by omega, Or.inr (Or.inr (Or.inr (Or.inr (Or.inr (Or.inl (⟨by omega, rfl⟩))))))⟩ | exact Or.inr ⟨by omega, Or.inr (Or.inr (Or.inr (Or.inr (Or.inr (Or.inr (Or.inl (⟨by omega, rfl⟩)))))))⟩ | exact Or.inr ⟨by omega, Or.inr (Or.inr (Or.inr (Or.inr (Or.inr (Or.inr (Or.inr (Or.inl (⟨by omega, (congrArg (σ.2.1 18) (show _ = 144 * x + (w - 7) by omega)).trans (na0_rs hri.2.2.2.1 hof.1.1 ⟨by omega, by omega⟩).symm⟩))))))))⟩ | exact Or.inr ⟨by omega, Or.inr (Or.inr (Or.inr (Or.inr (Or.inr (Or.inr (Or.inr (Or.inr (⟨by omega, rfl⟩))))))))⟩⟩)
      · refine tm_tableIn (tgt := 87) dX12_routine_16 ⟨by omega, by omega⟩ (by omega) (by omega) (show _ = some (71) by rw [h7v]; rfl) (by decide) ?_
        refine tm_aload_n dX12_routine_87 rfl 0 rfl ?_
        refine tm_iload_n dX12_routine_88 rfl 1 rfl ?_
        refine tm_callV (M := m_X12_routine) (pc := 89) (ix := 410) (M' := m_X12_registers) (As := [.int (iI x)]) (rest := []) dX12_routine_89 ok_X12_registers im_X12_registers se_X12_registers ml12_410 np_X12_registers rfl rfl (Nat.le_of_ble_eq_true rfl) (Nat.le_of_ble_eq_true rfl) rfl (f_X12_registers (d) (σ := (sS 0 0 σ)) (r := x) (F := σ.2.1 14 x) (by omega) (hR.S (by omega)) (hof.fr (show Fr [0] [] [] σ (sS 0 0 σ) from (Fr.rfl.S (by decide))) (by decide)) (hnam.fr (show Fr [0] [] [] σ (sS 0 0 σ) from (Fr.rfl.S (by decide))) (by decide)) (hit.fr (show Fr [0] [] [] σ (sS 0 0 σ) from (Fr.rfl.S (by decide))) (by decide)) (hpar.fr (show Fr [0] [] [] σ (sS 0 0 σ) from (Fr.rfl.S (by decide))) (by decide)) (hok.fr (show Fr [0] [] [] σ (sS 0 0 σ) from (Fr.rfl.S (by decide))) (by decide))) (fun r24 σ25 hp => ?_)
        obtain ⟨v26, rfl, rfl, f27, f28, f29, f30⟩ := hp
        show Tm _ _ 92 b (sS 0 0 σ) [(0, .ref b), (1, .int (iI x)), (2, .int (iI w))] [.int (iI v26)] _
        exact tm_iret rfl dX12_routine_92 (⟨_, rfl, (Fr.rfl.S (by decide)), (hR.S (by omega)), by first | exact Or.inl ⟨by omega, rfl⟩ | exact Or.inr ⟨by omega, Or.inl (⟨by omega, rfl⟩)⟩ | exact Or.inr ⟨by omega, Or.inr (Or.inl (⟨by omega, f28.trans (ac_rs (σ := σ))⟩))⟩ | exact Or.inr ⟨by omega, Or.inr (Or.inr (Or.inl (⟨by omega, rfl⟩)))⟩ | exact Or.inr ⟨by omega, Or.inr (Or.inr (Or.inr (Or.inl (⟨by omega, rfl⟩))))⟩ | exact Or.inr ⟨by omega, Or.inr (Or.inr (Or.inr (Or.inr (Or.inl (⟨by omega, mx_rs (σ := σ) (r := x) ⟨by omega, ⟨f28, f29⟩, f30⟩ hok hpar⟩)))))⟩ | exact Or.inr ⟨by omega, Or.inr (Or.inr (Or.inr (Or.inr (Or.inr (Or.inl (⟨by omega, rfl⟩))))))⟩ | exact Or.inr ⟨by omega, Or.inr (Or.inr (Or.inr (Or.inr (Or.inr (Or.inr (Or.inl (⟨by omega, rfl⟩)))))))⟩ | exact Or.inr ⟨by omega, Or.inr (Or.inr (Or.inr (Or.inr (Or.inr (Or.inr (Or.inr (Or.inl (⟨by omega, (congrArg (σ.2.1 18) (show _ = 144 * x + (w - 7) by omega)).trans (na0_rs hri.2.2.2.1 hof.1.1 ⟨by omega, by omega⟩).symm⟩))))))))⟩ | exact Or.inr ⟨by omega, Or.inr (Or.inr (Or.inr (Or.inr (Or.inr (Or.inr (Or.inr (Or.inr (⟨by omega, rfl⟩))))))))⟩⟩)
      · refine tm_tableIn (tgt := 93) dX12_routine_16 ⟨by omega, by omega⟩ (by omega) (by omega) (show _ = some (77) by rw [h7v]; rfl) (by decide) ?_
        refine tm_aload_n dX12_routine_93 rfl 0 rfl ?_
        refine tm_get (k := 14) (v := .ref (b + 1 + 11)) lay_12 dX12_routine_94 (by decide) fl12_44 rfl ?_
        refine tm_iload_n dX12_routine_97 rfl 1 rfl ?_
        refine tm_iald (z := x) (v := σ.2.1 14 x) dX12_routine_98 (show mT[11]? = some (14, 0, 6) from rfl) (by omega) (by omega) (by decide) (ra_S (rfl)) ?_
        have g31 := RG.a hR 14 (x)
        exact tm_iret rfl dX12_routine_99 (⟨_, rfl, (Fr.rfl.S (by decide)), (hR.S (by omega)), by first | exact Or.inl ⟨by omega, rfl⟩ | exact Or.inr ⟨by omega, Or.inl (⟨by omega, rfl⟩)⟩ | exact Or.inr ⟨by omega, Or.inr (Or.inl (⟨by omega, f5.trans (ac_rs (σ := σ))⟩))⟩ | exact Or.inr ⟨by omega, Or.inr (Or.inr (Or.inl (⟨by omega, rfl⟩)))⟩ | exact Or.inr ⟨by omega, Or.inr (Or.inr (Or.inr (Or.inl (⟨by omega, rfl⟩))))⟩ | exact Or.inr ⟨by omega, Or.inr (Or.inr (Or.inr (Or.inr (Or.inl (⟨by omega, rfl⟩)))))⟩ | exact Or.inr ⟨by omega, Or.inr (Or.inr (Or.inr (Or.inr (Or.inr (Or.inl (⟨by omega, rfl⟩))))))⟩ | exact Or.inr ⟨by omega, Or.inr (Or.inr (Or.inr (Or.inr (Or.inr (Or.inr (Or.inl (⟨by omega, rfl⟩)))))))⟩ | exact Or.inr ⟨by omega, Or.inr (Or.inr (Or.inr (Or.inr (Or.inr (Or.inr (Or.inr (Or.inl (⟨by omega, (congrArg (σ.2.1 18) (show _ = 144 * x + (w - 7) by omega)).trans (na0_rs hri.2.2.2.1 hof.1.1 ⟨by omega, by omega⟩).symm⟩))))))))⟩ | exact Or.inr ⟨by omega, Or.inr (Or.inr (Or.inr (Or.inr (Or.inr (Or.inr (Or.inr (Or.inr (⟨by omega, rfl⟩))))))))⟩⟩)
      · refine tm_tableIn (tgt := 100) dX12_routine_16 ⟨by omega, by omega⟩ (by omega) (by omega) (show _ = some (84) by rw [h7v]; rfl) (by decide) ?_
        refine tm_aload_n dX12_routine_100 rfl 0 rfl ?_
        refine tm_get (k := 13) (v := .ref (b + 1 + 10)) lay_12 dX12_routine_101 (by decide) fl12_41 rfl ?_
        refine tm_iload_n dX12_routine_104 rfl 1 rfl ?_
        refine tm_iald (z := x) (v := σ.2.1 13 x) dX12_routine_105 (show mT[10]? = some (13, 0, 6) from rfl) (by omega) (by omega) (by decide) (ra_S (rfl)) ?_
        have g32 := RG.a hR 13 (x)
        exact tm_iret rfl dX12_routine_106 (⟨_, rfl, (Fr.rfl.S (by decide)), (hR.S (by omega)), by first | exact Or.inl ⟨by omega, rfl⟩ | exact Or.inr ⟨by omega, Or.inl (⟨by omega, rfl⟩)⟩ | exact Or.inr ⟨by omega, Or.inr (Or.inl (⟨by omega, f5.trans (ac_rs (σ := σ))⟩))⟩ | exact Or.inr ⟨by omega, Or.inr (Or.inr (Or.inl (⟨by omega, rfl⟩)))⟩ | exact Or.inr ⟨by omega, Or.inr (Or.inr (Or.inr (Or.inl (⟨by omega, rfl⟩))))⟩ | exact Or.inr ⟨by omega, Or.inr (Or.inr (Or.inr (Or.inr (Or.inl (⟨by omega, rfl⟩)))))⟩ | exact Or.inr ⟨by omega, Or.inr (Or.inr (Or.inr (Or.inr (Or.inr (Or.inl (⟨by omega, rfl⟩))))))⟩ | exact Or.inr ⟨by omega, Or.inr (Or.inr (Or.inr (Or.inr (Or.inr (Or.inr (Or.inl (⟨by omega, rfl⟩)))))))⟩ | exact Or.inr ⟨by omega, Or.inr (Or.inr (Or.inr (Or.inr (Or.inr (Or.inr (Or.inr (Or.inl (⟨by omega, (congrArg (σ.2.1 18) (show _ = 144 * x + (w - 7) by omega)).trans (na0_rs hri.2.2.2.1 hof.1.1 ⟨by omega, by omega⟩).symm⟩))))))))⟩ | exact Or.inr ⟨by omega, Or.inr (Or.inr (Or.inr (Or.inr (Or.inr (Or.inr (Or.inr (Or.inr (⟨by omega, rfl⟩))))))))⟩⟩)
  · refine tm_iconst dX12_routine_13 ?_
    exact tm_iret rfl dX12_routine_14 (⟨_, rfl, (Fr.rfl.S (by decide)), (hR.S (by omega)), by first | exact Or.inl ⟨by omega, rfl⟩ | exact Or.inr ⟨by omega, Or.inl (⟨by omega, rfl⟩)⟩ | exact Or.inr ⟨by omega, Or.inr (Or.inl (⟨by omega, f5.trans (ac_rs (σ := σ))⟩))⟩ | exact Or.inr ⟨by omega, Or.inr (Or.inr (Or.inl (⟨by omega, rfl⟩)))⟩ | exact Or.inr ⟨by omega, Or.inr (Or.inr (Or.inr (Or.inl (⟨by omega, rfl⟩))))⟩ | exact Or.inr ⟨by omega, Or.inr (Or.inr (Or.inr (Or.inr (Or.inl (⟨by omega, rfl⟩)))))⟩ | exact Or.inr ⟨by omega, Or.inr (Or.inr (Or.inr (Or.inr (Or.inr (Or.inl (⟨by omega, rfl⟩))))))⟩ | exact Or.inr ⟨by omega, Or.inr (Or.inr (Or.inr (Or.inr (Or.inr (Or.inr (Or.inl (⟨by omega, rfl⟩)))))))⟩ | exact Or.inr ⟨by omega, Or.inr (Or.inr (Or.inr (Or.inr (Or.inr (Or.inr (Or.inr (Or.inl (⟨by omega, (congrArg (σ.2.1 18) (show _ = 144 * x + (w - 7) by omega)).trans (na0_rs hri.2.2.2.1 hof.1.1 ⟨by omega, by omega⟩).symm⟩))))))))⟩ | exact Or.inr ⟨by omega, Or.inr (Or.inr (Or.inr (Or.inr (Or.inr (Or.inr (Or.inr (Or.inr (⟨by omega, rfl⟩))))))))⟩⟩)
end
section
set_option maxHeartbeats 1000000 in
set_option maxRecDepth 20000 in
theorem f_X12_frame (d : Nat) {b : Nat} {σ : MS} {x : Int} {f : Int} {w : Int} (hR : RG σ) (hit : ITM σ) (hpar : PAR σ) (hnam : NAM σ) (hrt : RTN σ) (h_x : -2147483648 ≤ x ∧ x ≤ 2147483647) (h_f : -2147483648 ≤ f ∧ f ≤ 2147483647) (h_w : -2147483648 ≤ w ∧ w ≤ 2147483647) : Tm (d + 4) m_X12_frame 0 b σ [(0, .ref b), (1, .int (iI x)), (2, .int (iI f)), (3, .int (iI w))] [] (fun ro σ2 => ∃ v : Int, ro = some (.int (iI v)) ∧ (Fr [0] [] [] σ σ2) ∧ (RG σ2) ∧ (FRA (σ.1 10) (rS σ x) x f w v)) := by
  refine tm_aload_n dX12_frame_0 rfl 0 rfl ?_
  refine tm_iconst dX12_frame_1 ?_
  refine tm_putS (k := 0) (v := 0) lay_12 dX12_frame_2 (by decide) fl12_185 rfl (tyX12_ok 0 (by decide)) rfl rfl rfl ?_
  refine tm_aload_n dX12_frame_5 rfl 0 rfl ?_
  refine tm_iload_n dX12_frame_6 rfl 1 rfl ?_
  refine tm_callV (M := m_X12_frame) (pc := 7) (ix := 404) (M' := m_X12_isRoutine) (As := [.int (iI x)]) (rest := []) dX12_frame_7 ok_X12_isRoutine im_X12_isRoutine se_X12_isRoutine ml12_404 np_X12_isRoutine rfl rfl (Nat.le_of_ble_eq_true rfl) (Nat.le_of_ble_eq_true rfl) rfl (c_X12_isRoutine (d + 1) (σ := (sS 0 0 σ)) (x := x) (hR.S (by omega)) hrt.1 (by omega)) (fun r1 σ2 hp => ?_)
  obtain ⟨v3, rfl, rfl, f4, f5⟩ := hp
  show Tm _ _ 10 b (sS 0 0 σ) [(0, .ref b), (1, .int (iI x)), (2, .int (iI f)), (3, .int (iI w))] [.int (iI v3)] _
  have e10 : (sS 0 0 σ).1 10 = σ.1 10 := rfl
  have hrt1 := hrt.1
  refine tm_if_eq (tgt := 29) dX12_frame_10 (by decide) ⟨by omega, by omega⟩ (fun h6 => ?_) (fun h6 => ?_)
  · refine tm_iconst dX12_frame_29 ?_
    exact tm_iret rfl dX12_frame_30 (⟨_, rfl, (Fr.rfl.S (by decide)), (hR.S (by omega)), by first | exact Or.inl ⟨fun z => by have z1 : f < σ.2.1 14 x := z.2.2; omega, rfl⟩ | exact Or.inr ⟨⟨by omega, by omega, by show f < σ.2.1 14 x; omega⟩, Or.inl (⟨by omega, (rs_fo ⟨by omega, by omega⟩).symm⟩)⟩ | exact Or.inr ⟨⟨by omega, by omega, by show f < σ.2.1 14 x; omega⟩, Or.inr (Or.inl (⟨by omega, (if_pos ⟨by omega, by omega⟩).symm⟩))⟩ | exact Or.inr ⟨⟨by omega, by omega, by show f < σ.2.1 14 x; omega⟩, Or.inr (Or.inr (Or.inl (⟨by omega, (if_pos ⟨by omega, by omega⟩).symm⟩)))⟩ | exact Or.inr ⟨⟨by omega, by omega, by show f < σ.2.1 14 x; omega⟩, Or.inr (Or.inr (Or.inr (⟨by omega, rfl⟩)))⟩⟩)
  · have hri := hrt.2 x (by omega) (by omega)
    have hof := hri.2.1
    have hok := hri.2.2.1
    have q1 := hof.1
    have q2 := hnam x (by omega) (by omega)
    have q3 := hpar x (by omega) (by omega)
    refine tm_iload_n dX12_frame_13 rfl 2 rfl ?_
    refine tm_iconst dX12_frame_14 ?_
    refine tm_aload_n dX12_frame_15 rfl 0 rfl ?_
    refine tm_get (k := 14) (v := .ref (b + 1 + 11)) lay_12 dX12_frame_16 (by decide) fl12_44 rfl ?_
    refine tm_iload_n dX12_frame_19 rfl 1 rfl ?_
    refine tm_iald (z := x) (v := σ.2.1 14 x) dX12_frame_20 (show mT[11]? = some (14, 0, 6) from rfl) (by omega) (by omega) (by decide) (ra_S (rfl)) ?_
    have g7 := RG.a hR 14 (x)
    refine tm_iconst dX12_frame_21 ?_
    refine tm_isub dX12_frame_22 ?_
    refine tm_callS (M := m_X12_frame) (pc := 23) (ix := 188) (M' := m_X12_in) (As := [.int (iI f), .int (iI 0), .int (iI ((σ.2.1 14 x) - 1))]) (rest := []) dX12_frame_23 ok_X12_in stt_X12_in ml12_188 np_X12_in rfl (Nat.le_of_ble_eq_true rfl) (Nat.le_of_ble_eq_true rfl) rfl (c_X12_in (d + 2) (σ := (sS 0 0 σ)) (x := f) (lo := 0) (hi := (σ.2.1 14 x) - 1) (by omega) (by omega) (by omega)) (fun r8 σ9 hp => ?_)
    obtain ⟨v10, rfl, rfl, f11, f12⟩ := hp
    show Tm _ _ 26 b (sS 0 0 σ) [(0, .ref b), (1, .int (iI x)), (2, .int (iI f)), (3, .int (iI w))] [.int (iI v10)] _
    refine tm_if_ne (tgt := 31) dX12_frame_26 (by decide) ⟨by omega, by omega⟩ (fun h13 => ?_) (fun h13 => ?_)
    · refine tm_bipush dX12_frame_31 (by decide) ?_
      refine tm_iload_n dX12_frame_33 rfl 1 rfl ?_
      refine tm_imul dX12_frame_34 ?_
      refine tm_iload_n dX12_frame_35 rfl 2 rfl ?_
      refine tm_iadd dX12_frame_36 ?_
      refine tm_istore (L' := [(4, .int (iI ((12 * x) + f))), (0, .ref b), (1, .int (iI x)), (2, .int (iI f)), (3, .int (iI w))]) dX12_frame_37 (by decide) rfl ?_
      refine tm_iload_n dX12_frame_39 rfl 4 rfl ?_
      refine tm_if_ne (tgt := 53) dX12_frame_40 (by decide) ⟨by omega, by omega⟩ (fun h14 => ?_) (fun h14 => ?_)
      · refine tm_iload_n dX12_frame_53 rfl 4 rfl ?_
        refine tm_iconst dX12_frame_54 ?_
        refine tm_icmp_ne (tgt := 68) dX12_frame_55 (by decide) ⟨by omega, by omega⟩ ⟨by decide, by decide⟩ (fun h15 => ?_) (fun h15 => ?_)
        · refine tm_iload_n dX12_frame_68 rfl 4 rfl ?_
          refine tm_iconst dX12_frame_69 ?_
          refine tm_icmp_ne (tgt := 83) dX12_frame_70 (by decide) ⟨by omega, by omega⟩ ⟨by decide, by decide⟩ (fun h16 => ?_) (fun h16 => ?_)
          · refine tm_iconst dX12_frame_83 ?_
            exact tm_iret rfl dX12_frame_84 (⟨_, rfl, (Fr.rfl.S (by decide)), (hR.S (by omega)), by first | exact Or.inl ⟨fun z => by have z1 : f < σ.2.1 14 x := z.2.2; omega, rfl⟩ | exact Or.inr ⟨⟨by omega, by omega, by show f < σ.2.1 14 x; omega⟩, Or.inl (⟨by omega, (rs_fo ⟨by omega, by omega⟩).symm⟩)⟩ | exact Or.inr ⟨⟨by omega, by omega, by show f < σ.2.1 14 x; omega⟩, Or.inr (Or.inl (⟨by omega, (if_pos ⟨by omega, by omega⟩).symm⟩))⟩ | exact Or.inr ⟨⟨by omega, by omega, by show f < σ.2.1 14 x; omega⟩, Or.inr (Or.inr (Or.inl (⟨by omega, (if_pos ⟨by omega, by omega⟩).symm⟩)))⟩ | exact Or.inr ⟨⟨by omega, by omega, by show f < σ.2.1 14 x; omega⟩, Or.inr (Or.inr (Or.inr (⟨by omega, rfl⟩)))⟩⟩)
          · refine tm_aload_n dX12_frame_73 rfl 1 rfl ?_
            refine tm_get (k := 17) (v := .ref (b + 1 + 14)) lay_12 dX12_frame_74 (by decide) fl12_53 rfl ?_
            refine tm_iload dX12_frame_77 0 rfl ?_
            refine tm_iald (z := (12 * x) + f) (v := σ.2.1 17 ((12 * x) + f)) dX12_frame_79 (show mT[14]? = some (17, 0, 72) from rfl) (by omega) (by omega) (by decide) (ra_S (rfl)) ?_
            have g17 := RG.a hR 17 ((12 * x) + f)
            refine tm_goto (tgt := 84) dX12_frame_80 (by decide) ?_
            exact tm_iret rfl dX12_frame_84 (⟨_, rfl, (Fr.rfl.S (by decide)), (hR.S (by omega)), by first | exact Or.inl ⟨fun z => by have z1 : f < σ.2.1 14 x := z.2.2; omega, rfl⟩ | exact Or.inr ⟨⟨by omega, by omega, by show f < σ.2.1 14 x; omega⟩, Or.inl (⟨by omega, (rs_fo ⟨by omega, by omega⟩).symm⟩)⟩ | exact Or.inr ⟨⟨by omega, by omega, by show f < σ.2.1 14 x; omega⟩, Or.inr (Or.inl (⟨by omega, (if_pos ⟨by omega, by omega⟩).symm⟩))⟩ | exact Or.inr ⟨⟨by omega, by omega, by show f < σ.2.1 14 x; omega⟩, Or.inr (Or.inr (Or.inl (⟨by omega, (if_pos ⟨by omega, by omega⟩).symm⟩)))⟩ | exact Or.inr ⟨⟨by omega, by omega, by show f < σ.2.1 14 x; omega⟩, Or.inr (Or.inr (Or.inr (⟨by omega, rfl⟩)))⟩⟩)
        · refine tm_aload_n dX12_frame_58 rfl 1 rfl ?_
          refine tm_get (k := 16) (v := .ref (b + 1 + 13)) lay_12 dX12_frame_59 (by decide) fl12_50 rfl ?_
          refine tm_iload dX12_frame_62 0 rfl ?_
          refine tm_iald (z := (12 * x) + f) (v := σ.2.1 16 ((12 * x) + f)) dX12_frame_64 (show mT[13]? = some (16, 0, 72) from rfl) (by omega) (by omega) (by decide) (ra_S (rfl)) ?_
          have g18 := RG.a hR 16 ((12 * x) + f)
          refine tm_goto (tgt := 84) dX12_frame_65 (by decide) ?_
          exact tm_iret rfl dX12_frame_84 (⟨_, rfl, (Fr.rfl.S (by decide)), (hR.S (by omega)), by first | exact Or.inl ⟨fun z => by have z1 : f < σ.2.1 14 x := z.2.2; omega, rfl⟩ | exact Or.inr ⟨⟨by omega, by omega, by show f < σ.2.1 14 x; omega⟩, Or.inl (⟨by omega, (rs_fo ⟨by omega, by omega⟩).symm⟩)⟩ | exact Or.inr ⟨⟨by omega, by omega, by show f < σ.2.1 14 x; omega⟩, Or.inr (Or.inl (⟨by omega, (if_pos ⟨by omega, by omega⟩).symm⟩))⟩ | exact Or.inr ⟨⟨by omega, by omega, by show f < σ.2.1 14 x; omega⟩, Or.inr (Or.inr (Or.inl (⟨by omega, (if_pos ⟨by omega, by omega⟩).symm⟩)))⟩ | exact Or.inr ⟨⟨by omega, by omega, by show f < σ.2.1 14 x; omega⟩, Or.inr (Or.inr (Or.inr (⟨by omega, rfl⟩)))⟩⟩)
      · refine tm_aload_n dX12_frame_43 rfl 1 rfl ?_
        refine tm_get (k := 15) (v := .ref (b + 1 + 12)) lay_12 dX12_frame_44 (by decide) fl12_47 rfl ?_
        refine tm_iload dX12_frame_47 0 rfl ?_
        refine tm_iald (z := (12 * x) + f) (v := σ.2.1 15 ((12 * x) + f)) dX12_frame_49 (show mT[12]? = some (15, 0, 72) from rfl) (by omega) (by omega) (by decide) (ra_S (rfl)) ?_
        have g19 := RG.a hR 15 ((12 * x) + f)
        refine tm_goto (tgt := 84) dX12_frame_50 (by decide) ?_
        exact tm_iret rfl dX12_frame_84 (⟨_, rfl, (Fr.rfl.S (by decide)), (hR.S (by omega)), by first | exact Or.inl ⟨fun z => by have z1 : f < σ.2.1 14 x := z.2.2; omega, rfl⟩ | exact Or.inr ⟨⟨by omega, by omega, by show f < σ.2.1 14 x; omega⟩, Or.inl (⟨by omega, (rs_fo ⟨by omega, by omega⟩).symm⟩)⟩ | exact Or.inr ⟨⟨by omega, by omega, by show f < σ.2.1 14 x; omega⟩, Or.inr (Or.inl (⟨by omega, (if_pos ⟨by omega, by omega⟩).symm⟩))⟩ | exact Or.inr ⟨⟨by omega, by omega, by show f < σ.2.1 14 x; omega⟩, Or.inr (Or.inr (Or.inl (⟨by omega, (if_pos ⟨by omega, by omega⟩).symm⟩)))⟩ | exact Or.inr ⟨⟨by omega, by omega, by show f < σ.2.1 14 x; omega⟩, Or.inr (Or.inr (Or.inr (⟨by omega, rfl⟩)))⟩⟩)
    · refine tm_iconst dX12_frame_29 ?_
      exact tm_iret rfl dX12_frame_30 (⟨_, rfl, (Fr.rfl.S (by decide)), (hR.S (by omega)), by first | exact Or.inl ⟨fun z => by have z1 : f < σ.2.1 14 x := z.2.2; omega, rfl⟩ | exact Or.inr ⟨⟨by omega, by omega, by show f < σ.2.1 14 x; omega⟩, Or.inl (⟨by omega, (rs_fo ⟨by omega, by omega⟩).symm⟩)⟩ | exact Or.inr ⟨⟨by omega, by omega, by show f < σ.2.1 14 x; omega⟩, Or.inr (Or.inl (⟨by omega, (if_pos ⟨by omega, by omega⟩).symm⟩))⟩ | exact Or.inr ⟨⟨by omega, by omega, by show f < σ.2.1 14 x; omega⟩, Or.inr (Or.inr (Or.inl (⟨by omega, (if_pos ⟨by omega, by omega⟩).symm⟩)))⟩ | exact Or.inr ⟨⟨by omega, by omega, by show f < σ.2.1 14 x; omega⟩, Or.inr (Or.inr (Or.inr (⟨by omega, rfl⟩)))⟩⟩)
end
section
def pnd (e : ME) : List Int := if e.1 = 3 ∨ e.1 = 4 then [e.2.1] else if e.1 = 7 then [e.2.2.1] else []
def LBI (n : Int) (V : Int → It) (lab : Int) (L : List Int) : Prop := 0 ≤ n ∧ UNQ V n ∧ (∀ i, 0 ≤ i → i < n → V i 0 = 13 → V i 1 < lab) ∧ (∀ l ∈ L, l < lab ∧ ∀ i, 0 ≤ i → i < n → V i 0 = 13 → V i 1 ≠ l) ∧ L.Nodup
section LBS
variable {n lab l : Int} {V : Int → It} {L : List Int} {x : It} {m : MK} {e : ME} {S : List ME}
theorem LBI.put (h : LBI n V lab L) (hx : x 0 ≠ 13) : LBI (n + 1) (uZ V n x) lab L := by
  obtain ⟨h0, h1, h2, h3, h4⟩ := h
  have z : ∀ i, 0 ≤ i → i < n + 1 → uZ V n x i 0 = 13 → i < n ∧ uZ V n x i = V i := fun i a b c => by
    by_cases e : i = n
    · rw [e, uZ_eq] at c; exact absurd c hx
    · exact ⟨by omega, uZ_ne e⟩
  refine ⟨by omega, h1.add (fun e => absurd e hx), fun i a b c => ?_, fun l q => ⟨(h3 l q).1, fun i a b c => ?_⟩, h4⟩
  · obtain ⟨z1, z2⟩ := z i a b c
    rw [z2] at c ⊢; exact h2 i a z1 c
  · obtain ⟨z1, z2⟩ := z i a b c
    rw [z2] at c ⊢; exact (h3 l q).2 i a z1 c
theorem LBI.lbl (h : LBI n V lab (l :: L)) (hx : x 0 = 13) (h1 : x 1 = l) : LBI (n + 1) (uZ V n x) lab L := by
  obtain ⟨h0, u, h2, h3, h4⟩ := h
  have hl := h3 l List.mem_cons_self
  have nd := List.nodup_cons.mp h4
  refine ⟨by omega, u.add (fun _ i a b c => by rw [h1]; exact hl.2 i a b c), fun i a b c => ?_, fun k q => ⟨(h3 k (List.mem_cons_of_mem _ q)).1, fun i a b c => ?_⟩, nd.2⟩
  · by_cases e : i = n
    · rw [e, uZ_eq, h1]; exact hl.1
    · rw [uZ_ne e] at c ⊢; exact h2 i a (by omega) c
  · by_cases e : i = n
    · rw [e, uZ_eq, h1]; exact fun w => nd.1 (by rw [w]; exact q)
    · rw [uZ_ne e] at c ⊢; exact (h3 k (List.mem_cons_of_mem _ q)).2 i a (by omega) c
theorem LBI.new (h : LBI n V lab L) : LBI n V (lab + 1) (lab :: L) := by
  obtain ⟨h0, u, h2, h3, h4⟩ := h
  refine ⟨h0, u, fun i a b c => by have := h2 i a b c; omega, fun k q => ?_, List.nodup_cons.mpr ⟨fun q => by have := (h3 _ q).1; omega, h4⟩⟩
  rcases List.mem_cons.mp q with q | q
  · exact ⟨by omega, fun i a b c => by have := h2 i a b c; omega⟩
  · exact ⟨by have := (h3 k q).1; omega, (h3 k q).2⟩
def MKI (m : MK) : Prop := LBI m.n m.V m.lab (m.S.flatMap pnd) ∧ ∀ r, UNQ (m.2.2.2.2.1 r).2 (m.2.2.2.2.1 r).1
theorem p_0 {a b : Int} {as : List (Int × Int)} {t : Int} (h : t ≠ 3 ∧ t ≠ 4 ∧ t ≠ 7) : pnd (t, a, b, as) = [] := by
  unfold pnd
  rw [if_neg (fun z => by have z : t = 3 ∨ t = 4 := z; omega), if_neg h.2.2]
theorem p_n (h : e.1 ≠ 3 ∧ e.1 ≠ 4 ∧ e.1 ≠ 7) : pnd e = [] := p_0 h
theorem fmX : (e :: S).flatMap pnd = pnd e ++ S.flatMap pnd := List.flatMap_cons
theorem MKI.push (h : MKI m) (he : pnd e = []) : MKI (m.push e) := by
  refine ⟨?_, h.2⟩
  show LBI m.n m.V m.lab ((e :: m.S).flatMap pnd)
  rw [fmX, he]; exact h.1
theorem MKI.top {f : ME → ME} (h : MKI m) (hf : ∀ e, pnd (f e) = pnd e) : MKI (m.top f) := by
  unfold MK.top
  cases hs : m.S with
  | nil => exact h
  | cons e S =>
    refine ⟨?_, h.2⟩
    have h1 := h.1
    rw [hs, fmX] at h1
    show LBI m.n m.V m.lab ((f e :: S).flatMap pnd)
    rw [fmX, hf]; exact h1
theorem MKI.one {tb : Int → Int} (h : MKI m) : MKI (m.one tb) := by
  unfold MK.one
  cases hs : m.S with
  | nil => exact h
  | cons e S =>
    have h1 := h.1
    rw [hs, fmX] at h1
    show MKI (if e.1 = 0 then _ else if e.1 = 1 then _ else if e.1 = 2 then _ else if e.1 = 3 then _ else if e.1 = 6 then _ else if e.1 = 10 then _ else if e.1 = 11 then _ else m)
    by_cases a0 : e.1 = 0
    · rw [if_pos a0]; rw [p_n (by omega)] at h1
      exact ⟨h1.put (by show (if e.2.1 < 6 then e.2.1 else 5) ≠ 13; split <;> omega), h.2⟩
    · rw [if_neg a0]
      by_cases a1 : e.1 = 1
      · rw [if_pos a1]; rw [p_n (by omega)] at h1
        exact ⟨h1.put (by rw [mk_0]; decide), h.2⟩
      · rw [if_neg a1]
        by_cases a2 : e.1 = 2
        · rw [if_pos a2]; rw [p_n (by omega)] at h1
          exact ⟨(h1.put (x := mkI 9 m.lab 0 m.pk m.pv 0) (by rw [mk_0]; decide)).new, h.2⟩
        · rw [if_neg a2]
          by_cases a3 : e.1 = 3
          · rw [if_pos a3]
            rw [show pnd e = [e.2.1] from if_pos (Or.inl a3)] at h1
            exact ⟨h1.lbl rfl rfl, h.2⟩
          · rw [if_neg a3]
            by_cases a6 : e.1 = 6
            · rw [if_pos a6]; rw [p_n (by omega)] at h1
              exact ⟨(h1.put (x := mkI 9 m.lab 0 m.pk m.pv 0) (by rw [mk_0]; decide)).new, h.2⟩
            · rw [if_neg a6]
              by_cases a10 : e.1 = 10
              · rw [if_pos a10]; rw [p_n (by omega)] at h1
                exact ⟨h1.put (by rw [mk_0]; split <;> decide), h.2⟩
              · rw [if_neg a10]
                by_cases a11 : e.1 = 11
                · rw [if_pos a11]; rw [p_n (by omega)] at h1
                  exact ⟨h1.put (by rw [mk_0]; decide), h.2⟩
                · rw [if_neg a11]; exact h
theorem MKI.two (h : MKI m) : MKI m.two := by
  unfold MK.two
  cases hs : m.S with
  | nil => exact h
  | cons e S =>
    have h1 := h.1
    rw [hs, fmX] at h1
    show MKI (if e.1 = 8 then _ else if e.1 = 5 then _ else if e.1 = 4 then _ else if e.1 = 7 then _ else m)
    by_cases a0 : e.1 = 8
    · rw [if_pos a0]; rw [p_n (by omega)] at h1
      exact ⟨(h1.put (x := mkI 0 e.2.1 0 m.pk m.pv 0) (by rw [mk_0]; decide)).put (x := bndI e.2.1) (by show (12 : Int) ≠ 13; decide), h.2⟩
    · rw [if_neg a0]
      by_cases a1 : e.1 = 5
      · rw [if_pos a1]; rw [p_n (by omega)] at h1
        exact ⟨(h1.new.lbl (x := mkI 13 m.lab 0 0 0 0) rfl rfl).put (x := mkI 11 m.ln 0 0 0 0) (by rw [mk_0]; decide), h.2⟩
      · rw [if_neg a1]
        by_cases a2 : e.1 = 4
        · rw [if_pos a2]
          rw [show pnd e = [e.2.1] from if_pos (Or.inr a2)] at h1
          exact ⟨((h1.put (x := mkI 8 m.lab 0 0 0 0) (by rw [mk_0]; decide)).lbl (x := mkI 13 e.2.1 0 0 0 0) rfl rfl).new, h.2⟩
        · rw [if_neg a2]
          by_cases a3 : e.1 = 7
          · rw [if_pos a3]
            rw [show pnd e = [e.2.2.1] by unfold pnd; rw [if_neg (by omega), if_pos a3]] at h1
            exact ⟨(h1.put (x := mkI 8 e.2.1 0 0 0 0) (by rw [mk_0]; decide)).lbl (x := mkI 13 e.2.2.1 0 0 0 0) rfl rfl, h.2⟩
          · rw [if_neg a3]; exact h
theorem MKI.cal {rn : Int64 → Int} {w : Int64} (h : MKI m) : MKI (m.cal rn w) := by
  unfold MK.cal
  cases hs : m.S with
  | nil => exact h
  | cons e S =>
    have h1 := h.1
    rw [hs, fmX] at h1
    show MKI (if e.1 = 9 then _ else m)
    by_cases a0 : e.1 = 9
    · rw [if_pos a0]; rw [p_n (by omega)] at h1
      exact ⟨(h1.put (x := itC e.2.1 (rn w) e.2.2.2) (by show (10 : Int) ≠ 13; decide)).put (x := bndI e.2.1) (by show (12 : Int) ≠ 13; decide), h.2⟩
    · rw [if_neg a0]; exact h
end LBS
end
section
section MKR
variable {s : Int → Int} {nm : Int → Int64 → Int} {rn : Int64 → Int} {tb : Int → Int} {a b : PCf} {m m1 : MK}
theorem mki_k {k : Nat} {t : TK} {q : QR} (h : MKI m) : MKI (mkk s nm rn tb k t q m) := by
  unfold mkk
  split
  · split
    · exact h.push (p_0 (by decide))
    · exact h
  · split
    · exact h
    · split
      · exact h
      · exact h
  · split
    · exact h.push (p_0 (by decide))
    · split
      · exact h.push (p_0 (by decide))
      · exact h
  · split
    · exact h.push (p_0 (by decide))
    · split
      · exact h.push (p_0 (by decide))
      · exact h
  · split
    · exact h.push (p_0 (by decide))
    · exact h
  · split
    · exact h
    · exact MKI.push (m := m.stm) h (p_0 (by decide))
  · exact h.push (p_0 (by decide))
  · exact h.push (p_0 (by decide))
  · exact h.push (p_0 (by decide))
  · split
    · refine h.top (fun e => ?_)
      by_cases z : e.1 = 3
      · rw [if_pos z]
        show pnd (4, e.2.1, 0, []) = pnd e
        rw [show pnd e = [e.2.1] from if_pos (Or.inl z)]
        rfl
      · rw [if_neg z]
    · exact h
  · split
    · refine h.top (fun e => ?_)
      by_cases z : e.1 = 8
      · rw [if_pos z, p_0 (by decide), p_n (by omega)]
      · rw [if_neg z]
    · exact h
  · refine h.top (fun e => ?_)
    by_cases z : e.1 = 9
    · rw [if_pos z, p_0 (by decide), p_n (by omega)]
    · rw [if_neg z]
  · refine ⟨h.1, fun r => ?_⟩
    show UNQ (uZ m.2.2.2.2.1 m.rt (m.n, m.V) r).2 (uZ m.2.2.2.2.1 m.rt (m.n, m.V) r).1
    by_cases z : r = m.rt
    · rw [z, uZ_eq]; exact h.1.2.1
    · rw [uZ_ne z]; exact h.2 r
  · refine ⟨⟨Int.le_refl _, fun i j x y => absurd y (by show ¬ i < 0; omega), fun i x y => absurd y (by show ¬ i < 0; omega), fun l q => ?_, ?_⟩, h.2⟩
    · exact absurd q (by show ¬ l ∈ (([] : List Int)); simp)
    · exact List.nodup_nil
  · exact h.cal
  · split
    · exact h.push (p_0 (by decide))
    · exact h.push (p_0 (by decide))
  · exact h.one
  · exact h.two
  · exact h
theorem mki_t (h : MKI m) : MKI (mkt s nm rn tb a m) := by
  unfold mkt
  split
  · exact h
  · split
    · exact h
    · exact mki_k h
theorem RM.mki (r : RM s nm rn tb a m b m1) (h : MKI m) : MKI m1 := by
  obtain ⟨n, e0, e⟩ := r
  subst e
  clear e0
  induction n generalizing a m with
  | zero => exact h
  | succ n ih => exact ih (mki_t h)
end MKR
end
section
def CHX (ks : List (Nat × Nat)) (rs ls : List Nat) (σ τ : MS) : Prop := (∀ (j : Nat) (b : Int), j < 1000 → (∀ p, p ∈ ks → p.1 = j → (p.2 : Int) ≠ b) → τ.2.1 j b = σ.2.1 j b) ∧ (∀ x, x ∉ rs → τ.2.1 (1000 + x) = σ.2.1 (1000 + x)) ∧ ∀ x, x ∉ ls → τ.2.2 x = σ.2.2 x
section CHGS
variable {ks ks2 : List (Nat × Nat)} {rs ls rs2 ls2 : List Nat} {σ τ υ : MS} {x n a : Nat} {z v : Int}
theorem CHX.rfl : CHX ks rs ls σ σ := ⟨fun _ _ _ _ => Eq.refl _, fun _ _ => Eq.refl _, fun _ _ => Eq.refl _⟩
theorem CHX.trans (h : CHX ks rs ls σ τ) (g : CHX ks rs ls τ υ) : CHX ks rs ls σ υ := ⟨fun j b a c => (g.1 j b a c).trans (h.1 j b a c), fun x a => (g.2.1 x a).trans (h.2.1 x a), fun x a => (g.2.2 x a).trans (h.2.2 x a)⟩
theorem CHX.sub (h : CHX ks rs ls σ τ) (a : ∀ p, p ∈ ks → p ∈ ks2) (b : ∀ x, x ∈ rs → x ∈ rs2) (c : ∀ x, x ∈ ls → x ∈ ls2) : CHX ks2 rs2 ls2 σ τ := ⟨fun j y i k => h.1 j y i (fun p q => k p (a p q)), fun x q => h.2.1 x (fun w => q (b x w)), fun x q => h.2.2 x (fun w => q (c x w))⟩
theorem CHX.fld (h : CHX ks rs ls σ τ) (m : (n, a) ∈ ks) (hn : n < 1000) : CHX ks rs ls σ (sA n a v τ) := ⟨fun j b i k => by
  by_cases e : j = n
  · rw [sA_ne (fun q => k (n, a) m e.symm q.symm)]; exact h.1 j b i k
  · rw [sA_k e]; exact h.1 j b i k, fun x q => by rw [sA_k (by omega)]; exact h.2.1 x q, h.2.2⟩
theorem CHX.arr (h : CHX ks rs ls σ τ) (m : x ∈ rs) : CHX ks rs ls σ (sA (1000 + x) z v τ) := ⟨fun j b i k => by rw [sA_k (by omega)]; exact h.1 j b i k, fun y q => by
  have e : y ≠ x := fun e => q (by rw [e]; exact m)
  rw [sA_k (by omega)]; exact h.2.1 y q, h.2.2⟩
theorem CHX.row {f : Int → Int} (h : CHX ks rs ls σ τ) (m : x ∈ rs) : CHX ks rs ls σ (rowS (1000 + x) f τ) := ⟨fun j b i k => by rw [rowS_ne (by omega)]; exact h.1 j b i k, fun y q => by
  have e : y ≠ x := fun e => q (by rw [e]; exact m)
  rw [rowS_ne (by omega)]; exact h.2.1 y q, h.2.2⟩
theorem CHX.lng {w : Int64} (h : CHX ks rs ls σ τ) (m : x ∈ ls) : CHX ks rs ls σ (sJ x z w τ) := ⟨h.1, h.2.1, fun y q => by
  have e : y ≠ x := fun e => q (by rw [e]; exact m)
  show (if y = x then _ else τ.2.2 y) = _
  rw [if_neg e]; exact h.2.2 y q⟩
theorem CHX.rowL {f : Int → Int64} (h : CHX ks rs ls σ τ) (m : x ∈ ls) : CHX ks rs ls σ (rowL x f τ) := ⟨h.1, h.2.1, fun y q => by
  have e : y ≠ x := fun e => q (by rw [e]; exact m)
  show (if y = x then _ else τ.2.2 y) = _
  rw [if_neg e]; exact h.2.2 y q⟩
theorem CHX.f (h : CHX ks rs ls σ τ) (hn : n < 1000) (hk : (n, a) ∉ ks) : τ.2.1 n a = σ.2.1 n a := h.1 n a hn (fun p q e w => hk (by
  have e2 : p = (n, a) := by
    obtain ⟨p1, p2⟩ := p
    have w' : (p2 : Int) = (a : Int) := w
    have e' : p1 = n := e
    have w2 : p2 = a := by omega
    rw [e', w2]
  rw [← e2]; exact q))
theorem CHX.r (h : CHX ks rs ls σ τ) (hx : x ∉ rs) : τ.2.1 (1000 + x) = σ.2.1 (1000 + x) := h.2.1 x hx
theorem CHX.l (h : CHX ks rs ls σ τ) (hx : x ∉ ls) : τ.2.2 x = σ.2.2 x := h.2.2 x hx
end CHGS
theorem ar_of {T : CT} {v : Int} {g k lo hi : Nat} (h : ∃ x : Nat, v = (x : Int) ∧ AR T x k lo hi) (e : v = (g : Int)) : AR T g k lo hi := by
  obtain ⟨x, h1, h2⟩ := h
  have : x = g := by omega
  rw [← this]; exact h2
theorem ob_of {T : CT} {v : Int} {g k : Nat} (h : ∃ x : Nat, v = (x : Int) ∧ (T x).1 = k) (e : v = (g : Int)) : (T g).1 = k := by
  obtain ⟨x, h1, h2⟩ := h
  have : x = g := by omega
  rw [← this]; exact h2
theorem cel_of {T : CT} {v : Int} {g q : Nat} (h : ∃ x : Nat, v = (x : Int) ∧ (208 ≤ (T x).2 ∧ (T x).2 ≤ 2600) ∧ (q = 50 → (T x).1 = 1) ∧ (q ≠ 50 → (T x).1 = 13)) (e : v = (g : Int)) : (208 ≤ (T g).2 ∧ (T g).2 ≤ 2600) ∧ (q = 50 → (T g).1 = 1) ∧ (q ≠ 50 → (T g).1 = 13) := by
  obtain ⟨x, h1, h2⟩ := h
  have : x = g := by omega
  rw [← this]; exact h2
def cW (σ : MS) (x : Nat) (n : Int) : Int → It := fun k c => if (0 ≤ k ∧ k < n) ∧ 0 ≤ c ∧ c ≤ 12 then σ.2.1 (1000 + x) (13 * k + c) else 0
def uW (W : Int → It) (n k c y : Int) : Int → It := fun k' c' => if k' = k ∧ c' = c ∧ 0 ≤ k ∧ k < n then y else W k' c'
section CWS
variable {σ τ : MS} {x : Nat} {n k c y z v : Int} {W : Int → It}
theorem cW_in (hk : 0 ≤ k ∧ k < n) (hc : 0 ≤ c ∧ c ≤ 12) (hz : z = 13 * k + c) (h : v = σ.2.1 (1000 + x) z) : v = cW σ x n k c := by
  unfold cW; rw [if_pos ⟨hk, hc⟩, h, hz]
theorem cW_out (hk : ¬ (0 ≤ k ∧ k < n)) : (0 : Int) = cW σ x n k c := by unfold cW; rw [if_neg (fun q => hk q.1)]
theorem cW_row (h : τ.2.1 (1000 + x) = σ.2.1 (1000 + x)) : cW τ x n = cW σ x n := by unfold cW; rw [h]
theorem cW_set (hk : 0 ≤ k ∧ k < n) (hc : 0 ≤ c ∧ c ≤ 12) (hz : z = 13 * k + c) : cW (sA (1000 + x) z y σ) x n = uW (cW σ x n) n k c y := by
  funext k' c'
  unfold uW cW
  by_cases e : (0 ≤ k' ∧ k' < n) ∧ 0 ≤ c' ∧ c' ≤ 12
  · rw [if_pos e, if_pos e]
    by_cases w : k' = k ∧ c' = c
    · rw [if_pos ⟨w.1, w.2, hk⟩, hz, w.1, w.2]; exact ra_eq
    · rw [if_neg (fun q => w ⟨q.1, q.2.1⟩)]
      exact sA_ne (by omega)
  · rw [if_neg e, if_neg (fun q => e (by rw [q.1, q.2.1]; exact ⟨hk, hc⟩)), if_neg e]
theorem uW_in {k' c' : Int} (hk : 0 ≤ k ∧ k < n) : uW W n k c y k' c' = if k' = k ∧ c' = c then y else W k' c' := by
  unfold uW
  by_cases e : k' = k ∧ c' = c
  · rw [if_pos ⟨e.1, e.2, hk⟩, if_pos e]
  · rw [if_neg (fun q => e ⟨q.1, q.2.1⟩), if_neg e]
end CWS
theorem sh6 {r : Int} (h : 0 ≤ r ∧ r < 192) : iI r >>> (iI 6 &&& 31) = iI (r / 64) := by
  have z : ∀ q : Fin 192, Int32.ofInt (q.val : Int) >>> (Int32.ofInt 6 &&& 31) = Int32.ofInt ((q.val : Int) / 64) := by decide +kernel
  have w := z ⟨r.toNat, by omega⟩
  have e : ((⟨r.toNat, by omega⟩ : Fin 192).val : Int) = r := by show ((r.toNat : Nat) : Int) = r; omega
  rw [e] at w; exact w
theorem an63 {r : Int} (h : 0 ≤ r ∧ r < 192) : iI r &&& iI 63 = iI (r % 64) := by
  have z : ∀ q : Fin 192, Int32.ofInt (q.val : Int) &&& Int32.ofInt 63 = Int32.ofInt ((q.val : Int) % 64) := by decide +kernel
  have w := z ⟨r.toNat, by omega⟩
  have e : ((⟨r.toNat, by omega⟩ : Fin 192).val : Int) = r := by show ((r.toNat : Nat) : Int) = r; omega
  rw [e] at w; exact w
section XRW
variable {d : Nat} {M : MT} {pc : Nat} {T : CT} {σ : MS} {L : List (Nat × Value)} {st : List Value} {post : Option Value → CT → MS → Prop}
theorem tn_borX {x y : Int} (hx : x = 0 ∨ x = 1) (hy : y = 0 ∨ y = 1) (kk : ∀ z, (z = 0 ∨ z = 1) → (z = 0 ↔ x = 0 ∧ y = 0) → Tn d M pc T σ L (.int (iI z) :: st) post) : Tn d M pc T σ L (.int (iI x ||| iI y) :: st) post := by
  rcases hx with rfl | rfl <;> rcases hy with rfl | rfl
  · exact kk 0 (Or.inl rfl) (by decide)
  · exact kk 1 (Or.inr rfl) (by decide)
  · exact kk 1 (Or.inr rfl) (by decide)
  · exact kk 1 (Or.inr rfl) (by decide)
theorem tn_bandX {x y : Int} (hx : x = 0 ∨ x = 1) (hy : y = 0 ∨ y = 1) (kk : ∀ z, (z = 0 ∨ z = 1) → (z = 1 ↔ x = 1 ∧ y = 1) → Tn d M pc T σ L (.int (iI z) :: st) post) : Tn d M pc T σ L (.int (iI x &&& iI y) :: st) post := by
  rcases hx with rfl | rfl <;> rcases hy with rfl | rfl
  · exact kk 0 (Or.inl rfl) (by decide)
  · exact kk 0 (Or.inl rfl) (by decide)
  · exact kk 0 (Or.inl rfl) (by decide)
  · exact kk 1 (Or.inr rfl) (by decide)
end XRW
theorem lcI_r (x y : Int64) : -1 ≤ lcI x y ∧ lcI x y ≤ 1 := by
  unfold lcI
  split
  · exact ⟨by decide, by decide⟩
  · split
    · exact ⟨by decide, by decide⟩
    · exact ⟨by decide, by decide⟩
theorem tn_lcmpE {d : Nat} {M : MT} {pc : Nat} {T : CT} {σ : MS} {L : List (Nat × Value)} {st : List Value} {post : Option Value → CT → MS → Prop} {x y : Int64} (kk : ∀ z, (-1 ≤ z ∧ z ≤ 1) → (z = 0 ↔ x = y) → Tn d M pc T σ L (.int (iI z) :: st) post) : Tn d M pc T σ L (.int (lg_cmp x y) :: st) post := by
  rw [lcI_c]
  exact kk _ (lcI_r x y) lcI_0
section VWS
variable {σ : MS} {x y j : Nat} {n a v z : Int} {f : Int → Int} {g : Int → Int64} {w : Int64}
theorem cW_fld (h : j < 1000) : cW (sA j a v σ) x n = cW σ x n := cW_row (sA_k (by omega))
theorem rv_fld (h : j < 1000) : (sA j a v σ).2.1 (1000 + x) = σ.2.1 (1000 + x) := sA_k (by omega)
theorem rv_arr (h : x ≠ y) : (sA (1000 + y) z v σ).2.1 (1000 + x) = σ.2.1 (1000 + x) := sA_k (by omega)
theorem lv_fld (h : j < 1000) : (sA j a v σ).2.2 x = σ.2.2 x := rfl
theorem lv_rl (h : x ≠ y) : (rowL y g σ).2.2 x = σ.2.2 x := if_neg h
end VWS
end
section
def bT (L : Int → Int64) (k r : Int) : Prop := (0 ≤ r ∧ r < 192) ∧ (L (3 * k + r / 64)).toBitVec.getLsbD (r % 64).toNat = true
section BTS
variable {w : Int64} {j : Nat}
theorem sh1 (h : j < 64) : ((1 : Int64) <<< ((iI (j : Int)).toInt64 &&& 63)).toBitVec = BitVec.twoPow 64 j := by
  have z : ∀ q : Fin 64, ((1 : Int64) <<< ((Int32.ofInt (q.val : Int)).toInt64 &&& 63)).toBitVec = BitVec.twoPow 64 q.val := by decide +kernel
  exact z ⟨j, h⟩
theorem shm (h : j < 64) : (iI (j : Int)).toInt64.toUInt64 &&& Int64.toUInt64 63 = UInt64.ofNat j := by
  have z : ∀ q : Fin 64, (Int32.ofInt (q.val : Int)).toInt64.toUInt64 &&& Int64.toUInt64 63 = UInt64.ofNat q.val := by decide +kernel
  exact z ⟨j, h⟩
theorem sh_r (h : j < 64) : ((w.toUInt64 >>> ((iI (j : Int)).toInt64.toUInt64 &&& Int64.toUInt64 63)).toInt64).toBitVec = w.toBitVec >>> j := by
  rw [shm h]
  show (w.toUInt64 >>> UInt64.ofNat j).toBitVec = _
  rw [UInt64.toBitVec_shiftRight]
  show w.toBitVec >>> (BitVec.ofNat 64 j % 64) = _
  rw [BitVec.ushiftRight_eq']
  congr 1
  rw [BitVec.toNat_umod, BitVec.toNat_ofNat]
  show j % 2 ^ 64 % 64 = j
  omega
theorem has_b (h : j < 64) : ((w.toUInt64 >>> ((iI (j : Int)).toInt64.toUInt64 &&& Int64.toUInt64 63)).toInt64 &&& 1 = 0) ↔ w.toBitVec.getLsbD j = false := by
  have e : ((w.toUInt64 >>> ((iI (j : Int)).toInt64.toUInt64 &&& Int64.toUInt64 63)).toInt64 &&& 1).toBitVec = (w.toBitVec >>> j) &&& 1#64 := by
    show _ &&& _ = _
    rw [sh_r h]; rfl
  have b : ∀ i, ((w.toBitVec >>> j) &&& 1#64).getLsbD i = (w.toBitVec.getLsbD (j + i) && decide (i = 0)) := fun i => by
    rw [BitVec.getLsbD_and, BitVec.getLsbD_ushiftRight, BitVec.getLsbD_one]
    simp
  constructor
  · intro q
    have q2 := congrArg Int64.toBitVec q
    rw [e] at q2
    have q3 := congrArg (fun x => BitVec.getLsbD x 0) q2
    simp only [b] at q3
    simpa using q3
  · intro q
    apply Int64.toBitVec_inj.mp
    rw [e]
    apply BitVec.eq_of_getLsbD_eq
    intro i hi
    rw [b]
    by_cases z : i = 0
    · rw [z, Nat.add_zero, q]; rfl
    · simp [z]
theorem or_b {i : Nat} (h : j < 64) : (w ||| ((1 : Int64) <<< ((iI (j : Int)).toInt64 &&& 63))).toBitVec.getLsbD i = (w.toBitVec.getLsbD i || decide (i = j)) := by
  show (w.toBitVec ||| ((1 : Int64) <<< ((iI (j : Int)).toInt64 &&& 63)).toBitVec).getLsbD i = _
  rw [sh1 h, BitVec.getLsbD_or, BitVec.getLsbD_twoPow]
  by_cases z : i = j
  · subst z; simp [h]
  · have z2 : ¬ j = i := fun q => z q.symm
    simp [z, z2]
theorem an_b {i : Nat} (h : j < 64) (hi : i < 64) : (w &&& (((1 : Int64) <<< ((iI (j : Int)).toInt64 &&& 63)) ^^^ (-1))).toBitVec.getLsbD i = (w.toBitVec.getLsbD i && !decide (i = j)) := by
  show (w.toBitVec &&& (((1 : Int64) <<< ((iI (j : Int)).toInt64 &&& 63)).toBitVec ^^^ (-1 : Int64).toBitVec)).getLsbD i = _
  rw [sh1 h, BitVec.getLsbD_and, BitVec.getLsbD_xor, BitVec.getLsbD_twoPow]
  have e : (-1 : Int64).toBitVec = BitVec.allOnes 64 := by decide
  rw [e, BitVec.getLsbD_allOnes]
  by_cases z : i = j
  · subst z; simp [h]
  · have z2 : ¬ j = i := fun q => z q.symm
    simp [z, z2, hi]
end BTS
section BTL
variable {L L2 : Int → Int64} {k r q k2 : Int}
theorem md64 (r : Int) (h : 0 ≤ r) : ((r % 64).toNat : Int) = r % 64 ∧ (r % 64).toNat < 64 := by omega
theorem bT_inc (h : 0 ≤ r ∧ r < 192) : bT (fun z => if z = 3 * k + r / 64 then L (3 * k + r / 64) ||| ((1 : Int64) <<< ((iI (r % 64)).toInt64 &&& 63)) else L z) k2 q ↔ bT L k2 q ∨ (k2 = k ∧ q = r) := by
  have m := md64 r h.1
  unfold bT
  dsimp only
  by_cases hq : 0 ≤ q ∧ q < 192
  · have mq := md64 q hq.1
    have e := or_b (w := L (3 * k + r / 64)) (i := (q % 64).toNat) m.2
    rw [m.1] at e
    by_cases z : 3 * k2 + q / 64 = 3 * k + r / 64
    · rw [if_pos z, e, z]
      constructor
      · intro ⟨_, w⟩
        rcases Bool.or_eq_true_iff.mp w with w | w
        · exact Or.inl ⟨hq, w⟩
        · have w2 := of_decide_eq_true w
          exact Or.inr (by omega)
      · intro w
        refine ⟨hq, ?_⟩
        rcases w with w | w
        · rw [w.2]; rfl
        · have : (q % 64).toNat = (r % 64).toNat := by rw [w.2]
          simp [this]
    · rw [if_neg z]
      constructor
      · intro w; exact Or.inl w
      · intro w
        rcases w with w | w
        · exact w
        · exact absurd (by rw [w.1, w.2]) z
  · constructor
    · intro w; exact absurd w.1 hq
    · intro w
      rcases w with w | w
      · exact absurd w.1 hq
      · exact absurd (by rw [w.2]; exact h) hq
theorem bT_exc (h : 0 ≤ r ∧ r < 192) : bT (fun z => if z = 3 * k + r / 64 then L (3 * k + r / 64) &&& (((1 : Int64) <<< ((iI (r % 64)).toInt64 &&& 63)) ^^^ (-1)) else L z) k2 q ↔ bT L k2 q ∧ ¬ (k2 = k ∧ q = r) := by
  have m := md64 r h.1
  unfold bT
  dsimp only
  by_cases hq : 0 ≤ q ∧ q < 192
  · have mq := md64 q hq.1
    have e := an_b (w := L (3 * k + r / 64)) (i := (q % 64).toNat) m.2 mq.2
    rw [m.1] at e
    by_cases z : 3 * k2 + q / 64 = 3 * k + r / 64
    · rw [if_pos z, e, z]
      constructor
      · intro ⟨_, w⟩
        have w2 := Bool.and_eq_true_iff.mp w
        refine ⟨⟨hq, w2.1⟩, fun y => ?_⟩
        have : (q % 64).toNat = (r % 64).toNat := by rw [y.2]
        simp [this] at w2
      · intro ⟨w, y⟩
        refine ⟨hq, Bool.and_eq_true_iff.mpr ⟨w.2, ?_⟩⟩
        have : ¬ (q % 64).toNat = (r % 64).toNat := fun c => y (by omega)
        simp [this]
    · rw [if_neg z]
      constructor
      · intro w; exact ⟨w, fun y => z (by rw [y.1, y.2])⟩
      · intro w; exact w.1
  · constructor
    · intro w; exact absurd w.1 hq
    · intro w; exact absurd w.1.1 hq
theorem bT_w (h0 : L2 (3 * k2 + 0) = L (3 * k + 0)) (h1 : L2 (3 * k2 + 1) = L (3 * k + 1)) (h2 : L2 (3 * k2 + 2) = L (3 * k + 2)) : bT L2 k2 r ↔ bT L k r := by
  unfold bT
  by_cases hr : 0 ≤ r ∧ r < 192
  · have : r / 64 = 0 ∨ r / 64 = 1 ∨ r / 64 = 2 := by omega
    rcases this with e | e | e
    · rw [e, h0]
    · rw [e, h1]
    · rw [e, h2]
  · exact ⟨fun w => absurd w.1 hr, fun w => absurd w.1 hr⟩
theorem bT_ext (i : Nat) (hi : i < 3) (h : ∀ r, bT L2 k2 r ↔ bT L k r) : L2 (3 * k2 + (i : Int)) = L (3 * k + (i : Int)) := by
  apply Int64.toBitVec_inj.mp
  apply BitVec.eq_of_getLsbD_eq
  intro j hj
  have e := h (64 * i + j)
  unfold bT at e
  have e1 : (64 * (i : Int) + j) / 64 = i := by omega
  have e2 : ((64 * (i : Int) + j) % 64).toNat = j := by omega
  rw [e1, e2] at e
  have r : 0 ≤ (64 * (i : Int) + j) ∧ (64 * (i : Int) + j) < 192 := by omega
  have e3 : (L2 (3 * k2 + (i : Int))).toBitVec.getLsbD j = true ↔ (L (3 * k + (i : Int))).toBitVec.getLsbD j = true := ⟨fun w => (e.mp ⟨r, w⟩).2, fun w => (e.mpr ⟨r, w⟩).2⟩
  cases h1 : (L2 (3 * k2 + (i : Int))).toBitVec.getLsbD j
  · cases h2 : (L (3 * k + (i : Int))).toBitVec.getLsbD j
    · rfl
    · rw [h1, h2] at e3; simp at e3
  · cases h2 : (L (3 * k + (i : Int))).toBitVec.getLsbD j
    · rw [h1, h2] at e3; simp at e3
    · rfl
theorem bT_z (h : ∀ i, 0 ≤ i → i < 3 → L (3 * k + i) = 0) : ¬ bT L k r := fun w => by
  have e := h (r / 64) (by have := w.1; omega) (by have := w.1; omega)
  have w2 := w.2
  rw [e] at w2
  simp at w2
end BTL
end
section
set_option maxHeartbeats 1000000 in
set_option maxRecDepth 20000 in
theorem k_X11_isFive_x (d : Nat) {T : CT} {σ : MS} {k : Int} (h_k : -2147483648 ≤ k ∧ k ≤ 2147483647) (hw : WT T σ) : Tn (d + 1) m_X11_isFive 0 T σ [(0, .int (iI k))] [] (fun ro T2 σ2 => ∃ v : Int, ro = some (.int (iI v)) ∧ T = T2 ∧ σ = σ2 ∧ (v = 0 ∨ v = 1) ∧ ((v = 1 ∧ 1 ≤ k ∧ k ≤ 5) ∨ (v = 0 ∧ (k < 1 ∨ 5 < k)))) := by
  refine tn_iload_n dX11_isFive_0 rfl 0 rfl ?_
  refine tn_iconst dX11_isFive_1 ?_
  refine tn_icmp_lt (tgt := 14) dX11_isFive_2 (by decide) ⟨by omega, by omega⟩ ⟨by decide, by decide⟩ (fun h1 => ?_) (fun h1 => ?_)
  · refine tn_iconst dX11_isFive_14 ?_
    exact tn_zret (v := 0) rfl (by decide) dX11_isFive_15 ⟨_, rfl, rfl, rfl, by omega, by omega⟩
  · refine tn_iload_n dX11_isFive_5 rfl 0 rfl ?_
    refine tn_iconst dX11_isFive_6 ?_
    refine tn_icmp_gt (tgt := 14) dX11_isFive_7 (by decide) ⟨by omega, by omega⟩ ⟨by decide, by decide⟩ (fun h2 => ?_) (fun h2 => ?_)
    · refine tn_iconst dX11_isFive_14 ?_
      exact tn_zret (v := 0) rfl (by decide) dX11_isFive_15 ⟨_, rfl, rfl, rfl, by omega, by omega⟩
    · refine tn_iconst dX11_isFive_10 ?_
      refine tn_goto (tgt := 15) dX11_isFive_11 (by decide) ?_
      exact tn_zret (v := 1) rfl (by decide) dX11_isFive_15 ⟨_, rfl, rfl, rfl, by omega, by omega⟩
set_option maxHeartbeats 1000000 in
set_option maxRecDepth 20000 in
theorem k_X11_isPure_x (d : Nat) {T : CT} {σ : MS} {k : Int} (h_k : -2147483648 ≤ k ∧ k ≤ 2147483647) (hw : WT T σ) : Tn (d + 1) m_X11_isPure 0 T σ [(0, .int (iI k))] [] (fun ro T2 σ2 => ∃ v : Int, ro = some (.int (iI v)) ∧ T = T2 ∧ σ = σ2 ∧ (v = 0 ∨ v = 1) ∧ ((v = 1 ∧ 0 ≤ k ∧ k ≤ 5) ∨ (v = 0 ∧ (k < 0 ∨ 5 < k)))) := by
  refine tn_iload_n dX11_isPure_0 rfl 0 rfl ?_
  refine tn_if_lt (tgt := 13) dX11_isPure_1 (by decide) ⟨by omega, by omega⟩ (fun h1 => ?_) (fun h1 => ?_)
  · refine tn_iconst dX11_isPure_13 ?_
    exact tn_zret (v := 0) rfl (by decide) dX11_isPure_14 ⟨_, rfl, rfl, rfl, by omega, by omega⟩
  · refine tn_iload_n dX11_isPure_4 rfl 0 rfl ?_
    refine tn_iconst dX11_isPure_5 ?_
    refine tn_icmp_gt (tgt := 13) dX11_isPure_6 (by decide) ⟨by omega, by omega⟩ ⟨by decide, by decide⟩ (fun h2 => ?_) (fun h2 => ?_)
    · refine tn_iconst dX11_isPure_13 ?_
      exact tn_zret (v := 0) rfl (by decide) dX11_isPure_14 ⟨_, rfl, rfl, rfl, by omega, by omega⟩
    · refine tn_iconst dX11_isPure_9 ?_
      refine tn_goto (tgt := 14) dX11_isPure_10 (by decide) ?_
      exact tn_zret (v := 1) rfl (by decide) dX11_isPure_14 ⟨_, rfl, rfl, rfl, by omega, by omega⟩
set_option maxHeartbeats 1000000 in
set_option maxRecDepth 20000 in
theorem k_X11_isAct_x (d : Nat) {T : CT} {σ : MS} {k : Int} (h_k : -2147483648 ≤ k ∧ k ≤ 2147483647) (hw : WT T σ) : Tn (d + 1) m_X11_isAct 0 T σ [(0, .int (iI k))] [] (fun ro T2 σ2 => ∃ v : Int, ro = some (.int (iI v)) ∧ T = T2 ∧ σ = σ2 ∧ (v = 0 ∨ v = 1) ∧ ((v = 1 ∧ 0 ≤ k ∧ k ≤ 10) ∨ (v = 0 ∧ (k < 0 ∨ 10 < k)))) := by
  refine tn_iload_n dX11_isAct_0 rfl 0 rfl ?_
  refine tn_if_lt (tgt := 14) dX11_isAct_1 (by decide) ⟨by omega, by omega⟩ (fun h1 => ?_) (fun h1 => ?_)
  · refine tn_iconst dX11_isAct_14 ?_
    exact tn_zret (v := 0) rfl (by decide) dX11_isAct_15 ⟨_, rfl, rfl, rfl, by omega, by omega⟩
  · refine tn_iload_n dX11_isAct_4 rfl 0 rfl ?_
    refine tn_bipush dX11_isAct_5 (by decide) ?_
    refine tn_icmp_gt (tgt := 14) dX11_isAct_7 (by decide) ⟨by omega, by omega⟩ ⟨by decide, by decide⟩ (fun h2 => ?_) (fun h2 => ?_)
    · refine tn_iconst dX11_isAct_14 ?_
      exact tn_zret (v := 0) rfl (by decide) dX11_isAct_15 ⟨_, rfl, rfl, rfl, by omega, by omega⟩
    · refine tn_iconst dX11_isAct_10 ?_
      refine tn_goto (tgt := 15) dX11_isAct_11 (by decide) ?_
      exact tn_zret (v := 1) rfl (by decide) dX11_isAct_15 ⟨_, rfl, rfl, rfl, by omega, by omega⟩
set_option maxHeartbeats 1000000 in
set_option maxRecDepth 20000 in
theorem k_X11_put_x (d : Nat) {T : CT} {σ : MS} {x : Nat} {i : Int} {y : Int} (h_x : IA T x) (l_x : (T x).2 ≤ 1000000) (h_i : -2147483648 ≤ i ∧ i ≤ 2147483647) (h_y : -2147483648 ≤ y ∧ y ≤ 2147483647) (hw : WT T σ) (n_x : NH T x) (k_x : VOK (T x).1 i y) : Tn (d + 1) m_X11_put 0 T σ [(0, .ref x), (1, .int (iI i)), (2, .int (iI y))] [] (fun ro T2 σ2 => ro = none ∧ T = T2 ∧ WT T2 σ2 ∧ FrC T [] σ σ2 ∧ (CHX [] [x] [] σ σ2) ∧ (σ2 = (if 0 ≤ i ∧ i < ((T x).2 : Int) then sA (1000 + x) i y σ else σ))) := by
  refine tn_aload_n dX11_put_0 rfl 0 rfl ?_
  refine tn_ifnull dX11_put_1 ?_
  refine tn_iload_n dX11_put_4 rfl 1 rfl ?_
  refine tn_if_lt (tgt := 18) dX11_put_5 (by decide) ⟨by omega, by omega⟩ (fun h1 => ?_) (fun h1 => ?_)
  · exact tn_vret rfl dX11_put_18 ⟨rfl, rfl, hw, FrC.rfl, CHX.rfl, (if_neg (by omega)).symm⟩
  · refine tn_iload_n dX11_put_8 rfl 1 rfl ?_
    refine tn_aload_n dX11_put_9 rfl 0 rfl ?_
    refine tn_alenX dX11_put_10 (Or.inl h_x) ?_
    refine tn_icmp_ge (tgt := 18) dX11_put_11 (by decide) ⟨by omega, by omega⟩ ⟨by omega, by omega⟩ (fun h2 => ?_) (fun h2 => ?_)
    · exact tn_vret rfl dX11_put_18 ⟨rfl, rfl, hw, FrC.rfl, CHX.rfl, (if_neg (by omega)).symm⟩
    · refine tn_aload_n dX11_put_14 rfl 0 rfl ?_
      refine tn_iload_n dX11_put_15 rfl 1 rfl ?_
      refine tn_iload_n dX11_put_16 rfl 2 rfl ?_
      refine tn_iast (z := i) (v := y) dX11_put_17 h_x (by omega) (by omega) (by omega) ?_
      exact tn_vret rfl dX11_put_18 ⟨rfl, rfl, (hw.arr (Or.inl h_x) k_x), (FrC.rfl.arr (hk_no n_x)), (CHX.rfl.arr (by simp)), (if_pos ⟨by omega, by omega⟩).symm⟩
def ATQ (R : Int → Int) (N i v : Int) : Prop := ((0 ≤ i ∧ i < N) ∧ v = R i) ∨ (¬ (0 ≤ i ∧ i < N) ∧ v = 0)
set_option maxHeartbeats 1000000 in
set_option maxRecDepth 20000 in
theorem k_X11_at_x (d : Nat) {T : CT} {σ : MS} {x : Nat} {i : Int} {R : Int → Int} (h_x : IA T x) (l_x : (T x).2 ≤ 1000000) (h_i : -2147483648 ≤ i ∧ i ≤ 2147483647) (hw : WT T σ) (hR : σ.2.1 (1000 + x) = R) : Tn (d + 1) m_X11_at 0 T σ [(0, .ref x), (1, .int (iI i))] [] (fun ro T2 σ2 => ∃ v : Int, ro = some (.int (iI v)) ∧ T = T2 ∧ σ = σ2 ∧ (-2147483648 ≤ v ∧ v ≤ 2147483647) ∧ (VOK (T x).1 i v) ∧ (ATQ R ((T x).2 : Int) i v)) := by
  refine tn_aload_n dX11_at_0 rfl 0 rfl ?_
  refine tn_ifnull dX11_at_1 ?_
  refine tn_iload_n dX11_at_4 rfl 1 rfl ?_
  refine tn_if_lt (tgt := 20) dX11_at_5 (by decide) ⟨by omega, by omega⟩ (fun h1 => ?_) (fun h1 => ?_)
  · refine tn_iconst dX11_at_20 ?_
    exact tn_iret rfl dX11_at_21 ⟨_, rfl, rfl, rfl, by omega, vok_0, Or.inr ⟨by omega, rfl⟩⟩
  · refine tn_iload_n dX11_at_8 rfl 1 rfl ?_
    refine tn_aload_n dX11_at_9 rfl 0 rfl ?_
    refine tn_alenX dX11_at_10 (Or.inl h_x) ?_
    refine tn_icmp_ge (tgt := 20) dX11_at_11 (by decide) ⟨by omega, by omega⟩ ⟨by omega, by omega⟩ (fun h2 => ?_) (fun h2 => ?_)
    · refine tn_iconst dX11_at_20 ?_
      exact tn_iret rfl dX11_at_21 ⟨_, rfl, rfl, rfl, by omega, vok_0, Or.inr ⟨by omega, rfl⟩⟩
    · refine tn_aload_n dX11_at_14 rfl 0 rfl ?_
      refine tn_iload_n dX11_at_15 rfl 1 rfl ?_
      refine tn_ialdX (z := i) hw dX11_at_16 h_x (by omega) (by omega) (by omega) (fun v3 g4q g4 g4k => ?_)
      have g4u := g4k
      have g4w := g4q
      clear g4k g4q
      refine tn_goto (tgt := 21) dX11_at_17 (by decide) ?_
      exact tn_iret rfl dX11_at_21 ⟨_, rfl, rfl, rfl, by omega, by assumption, Or.inl ⟨⟨by omega, by omega⟩, by rw [← hR]; assumption⟩⟩
def LTV (T : CT) (σ : MS) (x : Nat) (i : Int) : Int64 := if 0 ≤ i ∧ i < ((T x).2 : Int) then σ.2.2 x i else 0
end
section
set_option maxHeartbeats 1000000 in
set_option maxRecDepth 20000 in
theorem k_X11_bitsAt_x (d : Nat) {T : CT} {σ : MS} {x : Nat} {i : Int} (h_x : (T x).1 = 3) (l_x : (T x).2 ≤ 1000000) (h_i : -2147483648 ≤ i ∧ i ≤ 2147483647) (hw : WT T σ) : Tn (d + 1) m_X11_bitsAt 0 T σ [(0, .ref x), (1, .int (iI i))] [] (fun ro T2 σ2 => ∃ v : Int64, ro = some (.long v) ∧ T = T2 ∧ σ = σ2 ∧ (v = LTV T σ x i)) := by
  refine tn_aload_n dX11_bitsAt_0 rfl 0 rfl ?_
  refine tn_ifnull dX11_bitsAt_1 ?_
  refine tn_iload_n dX11_bitsAt_4 rfl 1 rfl ?_
  refine tn_if_lt (tgt := 20) dX11_bitsAt_5 (by decide) ⟨by omega, by omega⟩ (fun h1 => ?_) (fun h1 => ?_)
  · refine tn_lconst (v := 0) dX11_bitsAt_20 rfl ?_
    exact tn_lret rfl dX11_bitsAt_21 ⟨_, rfl, rfl, rfl, by unfold LTV; rw [if_neg (by omega)]⟩
  · refine tn_iload_n dX11_bitsAt_8 rfl 1 rfl ?_
    refine tn_aload_n dX11_bitsAt_9 rfl 0 rfl ?_
    refine tn_alenX dX11_bitsAt_10 (Or.inr (Or.inr (Or.inl h_x))) ?_
    refine tn_icmp_ge (tgt := 20) dX11_bitsAt_11 (by decide) ⟨by omega, by omega⟩ ⟨by omega, by omega⟩ (fun h2 => ?_) (fun h2 => ?_)
    · refine tn_lconst (v := 0) dX11_bitsAt_20 rfl ?_
      exact tn_lret rfl dX11_bitsAt_21 ⟨_, rfl, rfl, rfl, by unfold LTV; rw [if_neg (by omega)]⟩
    · refine tn_aload_n dX11_bitsAt_14 rfl 0 rfl ?_
      refine tn_iload_n dX11_bitsAt_15 rfl 1 rfl ?_
      refine tn_lald (z := i) dX11_bitsAt_16 h_x (by omega) (by omega) (by omega) rfl ?_
      refine tn_goto (tgt := 21) dX11_bitsAt_17 (by decide) ?_
      exact tn_lret rfl dX11_bitsAt_21 ⟨_, rfl, rfl, rfl, by unfold LTV; rw [if_pos ⟨by omega, by omega⟩]⟩
set_option maxHeartbeats 1000000 in
set_option maxRecDepth 20000 in
theorem k_X11_putBits_x (d : Nat) {T : CT} {σ : MS} {x : Nat} {i : Int} {w : Int64} (h_x : (T x).1 = 3) (l_x : (T x).2 ≤ 1000000) (h_i : -2147483648 ≤ i ∧ i ≤ 2147483647) (hw : WT T σ) : Tn (d + 1) m_X11_putBits 0 T σ [(0, .ref x), (1, .int (iI i)), (2, .long (w))] [] (fun ro T2 σ2 => ro = none ∧ T = T2 ∧ WT T2 σ2 ∧ FrC T [] σ σ2 ∧ (CHX [] [] [x] σ σ2) ∧ (σ2 = (if 0 ≤ i ∧ i < ((T x).2 : Int) then sJ x i w σ else σ))) := by
  refine tn_aload_n dX11_putBits_0 rfl 0 rfl ?_
  refine tn_ifnull dX11_putBits_1 ?_
  refine tn_iload_n dX11_putBits_4 rfl 1 rfl ?_
  refine tn_if_lt (tgt := 18) dX11_putBits_5 (by decide) ⟨by omega, by omega⟩ (fun h1 => ?_) (fun h1 => ?_)
  · exact tn_vret rfl dX11_putBits_18 ⟨rfl, rfl, hw, FrC.rfl, CHX.rfl, (if_neg (by omega)).symm⟩
  · refine tn_iload_n dX11_putBits_8 rfl 1 rfl ?_
    refine tn_aload_n dX11_putBits_9 rfl 0 rfl ?_
    refine tn_alenX dX11_putBits_10 (Or.inr (Or.inr (Or.inl h_x))) ?_
    refine tn_icmp_ge (tgt := 18) dX11_putBits_11 (by decide) ⟨by omega, by omega⟩ ⟨by omega, by omega⟩ (fun h2 => ?_) (fun h2 => ?_)
    · exact tn_vret rfl dX11_putBits_18 ⟨rfl, rfl, hw, FrC.rfl, CHX.rfl, (if_neg (by omega)).symm⟩
    · refine tn_aload_n dX11_putBits_14 rfl 0 rfl ?_
      refine tn_iload_n dX11_putBits_15 rfl 1 rfl ?_
      refine tn_lload_n dX11_putBits_16 rfl 2 rfl ?_
      refine tn_last (z := i) (v := w) dX11_putBits_17 h_x (by omega) (by omega) (by omega) ?_
      exact tn_vret rfl dX11_putBits_18 ⟨rfl, rfl, (hw.lng), (FrC.rfl.lng), (CHX.rfl.lng (by simp)), (if_pos ⟨by omega, by omega⟩).symm⟩
theorem has_fin {T : CT} {σ : MS} {x : Nat} {k r z u i : Int} {w : Int64} (hr : 0 ≤ r ∧ r < 192) (hb : 0 ≤ k ∧ 3 * k + 2 < ((T x).2 : Int)) (e : w = LTV T σ x i) (hi : i = k * 3 + r / 64) (g : z = 0 ↔ (w.toUInt64 >>> ((iI (r % 64)).toInt64.toUInt64 &&& Int64.toUInt64 63)).toInt64 &&& 1 = 0) (hv : (u = 1 ∧ z ≠ 0) ∨ (u = 0 ∧ z = 0)) : u = 1 ↔ bT (σ.2.2 x) k r := by
  have m := md64 r hr.1
  have h := has_b (w := w) m.2
  rw [m.1] at h
  rw [h] at g
  unfold LTV at e
  rw [if_pos ⟨by omega, by omega⟩, hi, show k * 3 + r / 64 = 3 * k + r / 64 by omega] at e
  unfold bT
  rw [← e]
  rcases hv with ⟨h1, h2⟩ | ⟨h1, h2⟩
  · refine ⟨fun _ => ⟨hr, ?_⟩, fun _ => h1⟩
    cases b : w.toBitVec.getLsbD (r % 64).toNat
    · exact absurd (g.mpr b) h2
    · rfl
  · refine ⟨fun q => absurd q (by omega), fun q => ?_⟩
    rw [g.mp h2] at q
    exact absurd q.2 (by decide)
def BTI (L L2 : Int → Int64) (k r : Int) : Prop := ∀ k2 q, bT L2 k2 q ↔ bT L k2 q ∨ (k2 = k ∧ q = r ∧ 0 ≤ r ∧ r < 192)
def BTE (L L2 : Int → Int64) (k r : Int) : Prop := ∀ k2 q, bT L2 k2 q ↔ bT L k2 q ∧ ¬ (k2 = k ∧ q = r)
theorem BTI.no {L : Int → Int64} {k r : Int} (h : ¬ (0 ≤ r ∧ r < 192)) : BTI L L k r := fun k2 q => ⟨Or.inl, fun w => w.elim id (fun y => absurd y.2.2 h)⟩
theorem BTE.no {L : Int → Int64} {k r : Int} (h : ¬ (0 ≤ r ∧ r < 192)) : BTE L L k r := fun k2 q => ⟨fun w => ⟨w, fun y => h (by rw [← y.2]; exact w.1)⟩, fun w => w.1⟩
theorem sJ_row {x : Nat} {z : Int} {w : Int64} {σ : MS} : (sJ x z w σ).2.2 x = fun q => if q = z then w else σ.2.2 x q := by
  funext q
  simp only [sJ, if_true]
theorem inc_fin {T : CT} {σ τ : MS} {x : Nat} {k r i : Int} {w : Int64} (hr : 0 ≤ r ∧ r < 192) (hb : 0 ≤ k ∧ 3 * k + 2 < ((T x).2 : Int)) (e : w = LTV T σ x i) (hi : i = k * 3 + r / 64) (f : τ = (if 0 ≤ i ∧ i < ((T x).2 : Int) then sJ x i (w ||| ((1 : Int64) <<< ((iI (r % 64)).toInt64 &&& 63))) σ else σ)) : BTI (σ.2.2 x) (τ.2.2 x) k r := by
  have ii : i = 3 * k + r / 64 := by omega
  unfold LTV at e
  rw [if_pos ⟨by omega, by omega⟩] at e f
  rw [ii] at e f
  rw [f, sJ_row, e]
  intro k2 q
  rw [bT_inc hr]
  exact ⟨fun y => y.elim Or.inl (fun y => Or.inr ⟨y.1, y.2, hr⟩), fun y => y.elim Or.inl (fun y => Or.inr ⟨y.1, y.2.1⟩)⟩
theorem exc_fin {T : CT} {σ τ : MS} {x : Nat} {k r i : Int} {w : Int64} (hr : 0 ≤ r ∧ r < 192) (hb : 0 ≤ k ∧ 3 * k + 2 < ((T x).2 : Int)) (e : w = LTV T σ x i) (hi : i = k * 3 + r / 64) (f : τ = (if 0 ≤ i ∧ i < ((T x).2 : Int) then sJ x i (w &&& (((1 : Int64) <<< ((iI (r % 64)).toInt64 &&& 63)) ^^^ (-1))) σ else σ)) : BTE (σ.2.2 x) (τ.2.2 x) k r := by
  have ii : i = 3 * k + r / 64 := by omega
  unfold LTV at e
  rw [if_pos ⟨by omega, by omega⟩] at e f
  rw [ii] at e f
  rw [f, sJ_row, e]
  intro k2 q
  exact bT_exc hr
end
section
set_option maxHeartbeats 1000000 in
set_option maxRecDepth 20000 in
theorem k_X11_has_x (d : Nat) {T : CT} {σ : MS} {x : Nat} {k : Int} {r : Int} {L : Int → Int64} (h_x : (T x).1 = 3) (l_x : (T x).2 ≤ 1000000) (h_k : -2147483648 ≤ k ∧ k ≤ 2147483647) (h_r : -2147483648 ≤ r ∧ r ≤ 2147483647) (hw : WT T σ) (hL : σ.2.2 x = L) (hb : 0 ≤ k ∧ 3 * k + 2 < ((T x).2 : Int)) : Tn (d + 2) m_X11_has 0 T σ [(0, .ref x), (1, .int (iI k)), (2, .int (iI r))] [] (fun ro T2 σ2 => ∃ v : Int, ro = some (.int (iI v)) ∧ T = T2 ∧ σ = σ2 ∧ (v = 0 ∨ v = 1) ∧ (v = 1 ↔ bT L k r)) := by
  refine tn_iload_n dX11_has_0 rfl 2 rfl ?_
  refine tn_if_lt (tgt := 39) dX11_has_1 (by decide) ⟨by omega, by omega⟩ (fun h1 => ?_) (fun h1 => ?_)
  · refine tn_iconst dX11_has_39 ?_
    exact tn_zret (v := 0) rfl (by decide) dX11_has_40 ⟨_, rfl, rfl, rfl, by omega, ⟨fun q => absurd q (by omega), fun q => absurd q.1 (by omega)⟩⟩
  · refine tn_iload_n dX11_has_4 rfl 2 rfl ?_
    refine tn_sipush dX11_has_5 (by decide) ?_
    refine tn_icmp_ge (tgt := 39) dX11_has_8 (by decide) ⟨by omega, by omega⟩ ⟨by decide, by decide⟩ (fun h2 => ?_) (fun h2 => ?_)
    · refine tn_iconst dX11_has_39 ?_
      exact tn_zret (v := 0) rfl (by decide) dX11_has_40 ⟨_, rfl, rfl, rfl, by omega, ⟨fun q => absurd q (by omega), fun q => absurd q.1 (by omega)⟩⟩
    · refine tn_aload_n dX11_has_11 rfl 0 rfl ?_
      refine tn_iload_n dX11_has_12 rfl 1 rfl ?_
      refine tn_iconst dX11_has_13 ?_
      refine tn_imul dX11_has_14 ?_
      refine tn_iload_n dX11_has_15 rfl 2 rfl ?_
      refine tn_bipush dX11_has_16 (by decide) ?_
      refine tn_ishr dX11_has_18 ?_
      rw [sh6 (by omega)]
      refine tn_iadd dX11_has_19 ?_
      refine tn_callS (M := m_X11_has) (pc := 20) (ix := 313) (M' := m_X11_bitsAt) (As := [.ref x, .int (iI ((k * 3) + (r / 64)))]) (rest := []) dX11_has_20 ok_X11_bitsAt stt_X11_bitsAt ml11_313 np_X11_bitsAt rfl (Nat.le_of_ble_eq_true rfl) (Nat.le_of_ble_eq_true rfl) rfl (k_X11_bitsAt_x (d) (T := T) (σ := σ) (x := x) (i := (k * 3) + (r / 64)) h_x (by omega) (by omega) hw ) (fun r3 T5 σ4 gt6 hp => ?_)
      obtain ⟨v8, rfl, rfl, rfl, f7⟩ := hp
      clear gt6
      show Tn _ _ 23 T σ [(0, .ref x), (1, .int (iI k)), (2, .int (iI r))] [.long (v8)] _
      refine tn_iload_n dX11_has_23 rfl 2 rfl ?_
      refine tn_bipush dX11_has_24 (by decide) ?_
      refine tn_iand dX11_has_26 ?_
      rw [an63 (by omega)]
      refine tn_lushr dX11_has_27 ?_
      refine tn_lconst (v := 1) dX11_has_28 rfl ?_
      refine tn_land dX11_has_29 ?_
      refine tn_lconst (v := 0) dX11_has_30 rfl ?_
      refine tn_lcmpX dX11_has_31 ?_
      refine tn_lcmpE (fun z9 g10 g10w => ?_)
      refine tn_if_eq (tgt := 39) dX11_has_32 (by decide) ⟨by omega, by omega⟩ (fun h11 => ?_) (fun h11 => ?_)
      · refine tn_iconst dX11_has_39 ?_
        exact tn_zret (v := 0) rfl (by decide) dX11_has_40 ⟨_, rfl, rfl, rfl, by omega, by rw [← hL]; exact has_fin (by omega) hb f7 (by omega) g10w (by omega)⟩
      · refine tn_iconst dX11_has_35 ?_
        refine tn_goto (tgt := 40) dX11_has_36 (by decide) ?_
        exact tn_zret (v := 1) rfl (by decide) dX11_has_40 ⟨_, rfl, rfl, rfl, by omega, by rw [← hL]; exact has_fin (by omega) hb f7 (by omega) g10w (by omega)⟩
set_option maxHeartbeats 1000000 in
set_option maxRecDepth 20000 in
theorem k_X11_include_x (d : Nat) {T : CT} {σ : MS} {x : Nat} {k : Int} {r : Int} {L : Int → Int64} (h_x : (T x).1 = 3) (l_x : (T x).2 ≤ 1000000) (h_k : -2147483648 ≤ k ∧ k ≤ 2147483647) (h_r : -2147483648 ≤ r ∧ r ≤ 2147483647) (hw : WT T σ) (hL : σ.2.2 x = L) (hb : 0 ≤ k ∧ 3 * k + 2 < ((T x).2 : Int)) : Tn (d + 2) m_X11_include 0 T σ [(0, .ref x), (1, .int (iI k)), (2, .int (iI r))] [] (fun ro T2 σ2 => ro = none ∧ T = T2 ∧ WT T2 σ2 ∧ FrC T [] σ σ2 ∧ (CHX [] [] [x] σ σ2) ∧ (BTI L (σ2.2.2 x) k r)) := by
  refine tn_iload_n dX11_include_0 rfl 2 rfl ?_
  refine tn_if_lt (tgt := 37) dX11_include_1 (by decide) ⟨by omega, by omega⟩ (fun h1 => ?_) (fun h1 => ?_)
  · exact tn_vret rfl dX11_include_37 ⟨rfl, rfl, hw, FrC.rfl, CHX.rfl, by rw [hL]; exact BTI.no (by omega)⟩
  · refine tn_iload_n dX11_include_4 rfl 2 rfl ?_
    refine tn_sipush dX11_include_5 (by decide) ?_
    refine tn_icmp_ge (tgt := 37) dX11_include_8 (by decide) ⟨by omega, by omega⟩ ⟨by decide, by decide⟩ (fun h2 => ?_) (fun h2 => ?_)
    · exact tn_vret rfl dX11_include_37 ⟨rfl, rfl, hw, FrC.rfl, CHX.rfl, by rw [hL]; exact BTI.no (by omega)⟩
    · refine tn_iload_n dX11_include_11 rfl 1 rfl ?_
      refine tn_iconst dX11_include_12 ?_
      refine tn_imul dX11_include_13 ?_
      refine tn_iload_n dX11_include_14 rfl 2 rfl ?_
      refine tn_bipush dX11_include_15 (by decide) ?_
      refine tn_ishr dX11_include_17 ?_
      rw [sh6 (by omega)]
      refine tn_iadd dX11_include_18 ?_
      refine tn_istore_n (L' := [(3, .int (iI ((k * 3) + (r / 64)))), (0, .ref x), (1, .int (iI k)), (2, .int (iI r))]) dX11_include_19 rfl (by decide) rfl ?_
      refine tn_aload_n dX11_include_20 rfl 1 rfl ?_
      refine tn_iload_n dX11_include_21 rfl 0 rfl ?_
      refine tn_aload_n dX11_include_22 rfl 1 rfl ?_
      refine tn_iload_n dX11_include_23 rfl 0 rfl ?_
      refine tn_callS (M := m_X11_include) (pc := 24) (ix := 313) (M' := m_X11_bitsAt) (As := [.ref x, .int (iI ((k * 3) + (r / 64)))]) (rest := [.int (iI ((k * 3) + (r / 64))), .ref x]) dX11_include_24 ok_X11_bitsAt stt_X11_bitsAt ml11_313 np_X11_bitsAt rfl (Nat.le_of_ble_eq_true rfl) (Nat.le_of_ble_eq_true rfl) rfl (k_X11_bitsAt_x (d) (T := T) (σ := σ) (x := x) (i := (k * 3) + (r / 64)) h_x (by omega) (by omega) hw ) (fun r3 T5 σ4 gt6 hp => ?_)
      obtain ⟨v8, rfl, rfl, rfl, f7⟩ := hp
      clear gt6
      show Tn _ _ 27 T σ [(3, .int (iI ((k * 3) + (r / 64)))), (0, .ref x), (1, .int (iI k)), (2, .int (iI r))] [.long (v8), .int (iI ((k * 3) + (r / 64))), .ref x] _
      refine tn_lconst (v := 1) dX11_include_27 rfl ?_
      refine tn_iload_n dX11_include_28 rfl 3 rfl ?_
      refine tn_bipush dX11_include_29 (by decide) ?_
      refine tn_iand dX11_include_31 ?_
      rw [an63 (by omega)]
      refine tn_lshl dX11_include_32 ?_
      refine tn_lor dX11_include_33 ?_
      refine tn_callS (M := m_X11_include) (pc := 34) (ix := 317) (M' := m_X11_putBits) (As := [.ref x, .int (iI ((k * 3) + (r / 64))), .long ((v8) ||| ((1) <<< ((iI (r % 64)).toInt64 &&& 63)))]) (rest := []) dX11_include_34 ok_X11_putBits stt_X11_putBits ml11_317 np_X11_putBits rfl (Nat.le_of_ble_eq_true rfl) (Nat.le_of_ble_eq_true rfl) rfl (k_X11_putBits_x (d) (T := T) (σ := σ) (x := x) (i := (k * 3) + (r / 64)) (w := (v8) ||| ((1) <<< ((iI (r % 64)).toInt64 &&& 63))) h_x (by omega) (by omega) hw ) (fun r9 T11 σ10 gt12 hp => ?_)
      obtain ⟨rfl, rfl, w16, F17, f13, f14⟩ := hp
      clear gt12
      show Tn _ _ 37 T σ10 [(3, .int (iI ((k * 3) + (r / 64)))), (0, .ref x), (1, .int (iI k)), (2, .int (iI r))] [] _
      exact tn_vret rfl dX11_include_37 ⟨rfl, rfl, w16, (FrC.rfl.trans (FrC.sub F17 (by decide))), (CHX.rfl.trans (CHX.sub f13 (by simp) (by simp) (by simp))), by rw [← hL]; exact inc_fin (by omega) hb f7 (by omega) f14⟩
set_option maxHeartbeats 1000000 in
set_option maxRecDepth 20000 in
theorem k_X11_exclude_x (d : Nat) {T : CT} {σ : MS} {x : Nat} {k : Int} {r : Int} {L : Int → Int64} (h_x : (T x).1 = 3) (l_x : (T x).2 ≤ 1000000) (h_k : -2147483648 ≤ k ∧ k ≤ 2147483647) (h_r : -2147483648 ≤ r ∧ r ≤ 2147483647) (hw : WT T σ) (hL : σ.2.2 x = L) (hb : 0 ≤ k ∧ 3 * k + 2 < ((T x).2 : Int)) : Tn (d + 2) m_X11_exclude 0 T σ [(0, .ref x), (1, .int (iI k)), (2, .int (iI r))] [] (fun ro T2 σ2 => ro = none ∧ T = T2 ∧ WT T2 σ2 ∧ FrC T [] σ σ2 ∧ (CHX [] [] [x] σ σ2) ∧ (BTE L (σ2.2.2 x) k r)) := by
  refine tn_iload_n dX11_exclude_0 rfl 2 rfl ?_
  refine tn_if_lt (tgt := 41) dX11_exclude_1 (by decide) ⟨by omega, by omega⟩ (fun h1 => ?_) (fun h1 => ?_)
  · exact tn_vret rfl dX11_exclude_41 ⟨rfl, rfl, hw, FrC.rfl, CHX.rfl, by rw [hL]; exact BTE.no (by omega)⟩
  · refine tn_iload_n dX11_exclude_4 rfl 2 rfl ?_
    refine tn_sipush dX11_exclude_5 (by decide) ?_
    refine tn_icmp_ge (tgt := 41) dX11_exclude_8 (by decide) ⟨by omega, by omega⟩ ⟨by decide, by decide⟩ (fun h2 => ?_) (fun h2 => ?_)
    · exact tn_vret rfl dX11_exclude_41 ⟨rfl, rfl, hw, FrC.rfl, CHX.rfl, by rw [hL]; exact BTE.no (by omega)⟩
    · refine tn_iload_n dX11_exclude_11 rfl 1 rfl ?_
      refine tn_iconst dX11_exclude_12 ?_
      refine tn_imul dX11_exclude_13 ?_
      refine tn_iload_n dX11_exclude_14 rfl 2 rfl ?_
      refine tn_bipush dX11_exclude_15 (by decide) ?_
      refine tn_ishr dX11_exclude_17 ?_
      rw [sh6 (by omega)]
      refine tn_iadd dX11_exclude_18 ?_
      refine tn_istore_n (L' := [(3, .int (iI ((k * 3) + (r / 64)))), (0, .ref x), (1, .int (iI k)), (2, .int (iI r))]) dX11_exclude_19 rfl (by decide) rfl ?_
      refine tn_aload_n dX11_exclude_20 rfl 1 rfl ?_
      refine tn_iload_n dX11_exclude_21 rfl 0 rfl ?_
      refine tn_aload_n dX11_exclude_22 rfl 1 rfl ?_
      refine tn_iload_n dX11_exclude_23 rfl 0 rfl ?_
      refine tn_callS (M := m_X11_exclude) (pc := 24) (ix := 313) (M' := m_X11_bitsAt) (As := [.ref x, .int (iI ((k * 3) + (r / 64)))]) (rest := [.int (iI ((k * 3) + (r / 64))), .ref x]) dX11_exclude_24 ok_X11_bitsAt stt_X11_bitsAt ml11_313 np_X11_bitsAt rfl (Nat.le_of_ble_eq_true rfl) (Nat.le_of_ble_eq_true rfl) rfl (k_X11_bitsAt_x (d) (T := T) (σ := σ) (x := x) (i := (k * 3) + (r / 64)) h_x (by omega) (by omega) hw ) (fun r3 T5 σ4 gt6 hp => ?_)
      obtain ⟨v8, rfl, rfl, rfl, f7⟩ := hp
      clear gt6
      show Tn _ _ 27 T σ [(3, .int (iI ((k * 3) + (r / 64)))), (0, .ref x), (1, .int (iI k)), (2, .int (iI r))] [.long (v8), .int (iI ((k * 3) + (r / 64))), .ref x] _
      refine tn_lconst (v := 1) dX11_exclude_27 rfl ?_
      refine tn_iload_n dX11_exclude_28 rfl 3 rfl ?_
      refine tn_bipush dX11_exclude_29 (by decide) ?_
      refine tn_iand dX11_exclude_31 ?_
      rw [an63 (by omega)]
      refine tn_lshl dX11_exclude_32 ?_
      refine tn_ldc2 dX11_exclude_33 cst11_321 ?_
      refine tn_lxor dX11_exclude_36 ?_
      refine tn_land dX11_exclude_37 ?_
      refine tn_callS (M := m_X11_exclude) (pc := 38) (ix := 317) (M' := m_X11_putBits) (As := [.ref x, .int (iI ((k * 3) + (r / 64))), .long ((v8) &&& (((1) <<< ((iI (r % 64)).toInt64 &&& 63)) ^^^ (-1)))]) (rest := []) dX11_exclude_38 ok_X11_putBits stt_X11_putBits ml11_317 np_X11_putBits rfl (Nat.le_of_ble_eq_true rfl) (Nat.le_of_ble_eq_true rfl) rfl (k_X11_putBits_x (d) (T := T) (σ := σ) (x := x) (i := (k * 3) + (r / 64)) (w := (v8) &&& (((1) <<< ((iI (r % 64)).toInt64 &&& 63)) ^^^ (-1))) h_x (by omega) (by omega) hw ) (fun r9 T11 σ10 gt12 hp => ?_)
      obtain ⟨rfl, rfl, w16, F17, f13, f14⟩ := hp
      clear gt12
      show Tn _ _ 41 T σ10 [(3, .int (iI ((k * 3) + (r / 64)))), (0, .ref x), (1, .int (iI k)), (2, .int (iI r))] [] _
      exact tn_vret rfl dX11_exclude_41 ⟨rfl, rfl, w16, (FrC.rfl.trans (FrC.sub F17 (by decide))), (CHX.rfl.trans (CHX.sub f13 (by simp) (by simp) (by simp))), by rw [← hL]; exact exc_fin (by omega) hb f7 (by omega) f14⟩
def FLR (σ τ : MS) (x : Nat) (f t y : Int) : Prop := ∀ j, τ.2.1 (1000 + x) j = if f ≤ j ∧ j < t then y else σ.2.1 (1000 + x) j
def FLL (σ τ : MS) (x : Nat) (f t : Int) (w : Int64) : Prop := ∀ j, τ.2.2 x j = if f ≤ j ∧ j < t then w else σ.2.2 x j
section FLS
variable {σ τ : MS} {x : Nat} {f t t2 y : Int} {w : Int64}
theorem FLR.nil (h : t ≤ f) : FLR σ σ x f t y := fun j => by rw [if_neg (by omega)]
theorem FLL.nil (h : t ≤ f) : FLL σ σ x f t w := fun j => by rw [if_neg (by omega)]
theorem FLR.step (h : FLR σ τ x f t y) (ht : f ≤ t) : FLR σ (sA (1000 + x) t y τ) x f (t + 1) y := fun j => by
  by_cases e : j = t
  · rw [e, if_pos (by omega)]; exact ra_eq
  · rw [sA_ne e, h j]
    by_cases q : f ≤ j ∧ j < t
    · rw [if_pos q, if_pos (by omega)]
    · rw [if_neg q, if_neg (by omega)]
theorem FLL.step (h : FLL σ τ x f t w) (ht : f ≤ t) : FLL σ (sJ x t w τ) x f (t + 1) w := fun j => by
  rw [sJ_row]
  show (if j = t then w else τ.2.2 x j) = _
  by_cases e : j = t
  · rw [if_pos e, if_pos (by omega)]
  · rw [if_neg e, h j]
    by_cases q : f ≤ j ∧ j < t
    · rw [if_pos q, if_pos (by omega)]
    · rw [if_neg q, if_neg (by omega)]
theorem FLR.to (h : FLR σ τ x f t y) (e : t = t2) : FLR σ τ x f t2 y := by rw [← e]; exact h
theorem FLL.to (h : FLL σ τ x f t w) (e : t = t2) : FLL σ τ x f t2 w := by rw [← e]; exact h
theorem FLR.z (h : FLR σ τ x f t y) {j : Int} (a : f ≤ j) (b : j < t) : τ.2.1 (1000 + x) j = y := by rw [h j, if_pos ⟨a, b⟩]
theorem FLL.z (h : FLL σ τ x f t w) {j : Int} (a : f ≤ j) (b : j < t) : τ.2.2 x j = w := by rw [h j, if_pos ⟨a, b⟩]
end FLS
end
section
set_option maxHeartbeats 1000000 in
set_option maxRecDepth 20000 in
theorem l_J7_fill_53178_x_5 (d : Nat) {T : CT} {σ0 : MS} {rx0 : Nat} {c1 : Int} {c3 : Int} {post : Option Value → CT → MS → Prop} (h_rx0 : IA T rx0) (l_rx0 : (T rx0).2 ≤ 1000000) (r_c1 : 0 ≤ c1 ∧ c1 ≤ 0) (r_c3 : 0 ≤ c3 ∧ c3 ≤ 1000000) (hw0 : WT T σ0) (n_rx0 : NH T rx0) (hc3 : c3 ≤ ((T rx0).2 : Int)) (hx_20 : ∀ (i2 : Int) (σ : MS) , (WT T σ) → (FrC T [] σ0 σ) → (0 ≤ i2 ∧ i2 ≤ 2147483647) → (CHX [] [rx0] [] σ0 σ) → (FLR σ0 σ rx0 0 i2 c1) → (i2 ≤ c3) → (c3 ≤ i2) → Tn (d + 1) m_J7_fill_53178 20 T σ [(0, .ref rx0), (1, .int (iI c1)), (2, .int (iI i2)), (3, .int (iI c3))] [] post) : ∀ (nq9 : Nat) (i2 : Int) (σ : MS) , (WT T σ) → (FrC T [] σ0 σ) → (0 ≤ i2 ∧ i2 ≤ 2147483647) → (CHX [] [rx0] [] σ0 σ) → (FLR σ0 σ rx0 0 i2 c1) → (i2 ≤ c3) → (2147483700 - i2).toNat = nq9 → Tn (d + 1) m_J7_fill_53178 5 T σ [(0, .ref rx0), (1, .int (iI c1)), (2, .int (iI i2)), (3, .int (iI c3))] [] post := by
  intro nq9
  induction nq9 using Nat.strongRecOn with
  | _ nq9 ih =>
    intro i2 σ hw hF r_i2 hC hL h0 hm
    refine tn_iload_n dJ7_fill_53178_5 rfl 2 rfl ?_
    refine tn_iload_n dJ7_fill_53178_6 rfl 3 rfl ?_
    refine tn_icmp_ge (tgt := 20) dJ7_fill_53178_7 (by decide) ⟨by omega, by omega⟩ ⟨by omega, by omega⟩ (fun h1 => ?_) (fun h1 => ?_)
    · exact tn_sub [0, 1, 2, 3] rfl (hx_20 (i2) σ hw (FrC.rfl.trans (FrC.sub hF (by decide))) (by omega) hC hL (by omega) (by omega))
    · refine tn_aload_n dJ7_fill_53178_10 rfl 0 rfl ?_
      refine tn_iload_n dJ7_fill_53178_11 rfl 2 rfl ?_
      refine tn_iload_n dJ7_fill_53178_12 rfl 1 rfl ?_
      refine tn_iast (z := i2) (v := c1) dJ7_fill_53178_13 h_rx0 (by omega) (by omega) (by omega) ?_
      refine tn_iinc (q0 := 2) (L' := [(2, .int (iI (i2 + 1))), (0, .ref rx0), (1, .int (iI c1)), (3, .int (iI c3))]) dJ7_fill_53178_14 rfl (by decide) rfl ?_
      refine tn_goto (tgt := 5) dJ7_fill_53178_17 (by decide) ?_
      exact tn_sub [1, 2, 0, 3] rfl (ih _ (by omega) (i2 + 1) (sA (1000 + rx0) (i2) (c1) σ) (hw.arr (Or.inl h_rx0) (vok_z (by omega))) ((FrC.rfl.trans (FrC.sub hF (by decide))).arr (hk_no n_rx0)) (by omega) (hC.arr (by simp)) (hL.step (by omega)) (by omega) rfl)
set_option maxHeartbeats 1000000 in
set_option maxRecDepth 20000 in
theorem k_J7_fill_53178_x (d : Nat) {T : CT} {σ : MS} {x : Nat} {y : Int} (h_x : IA T x) (l_x : (T x).2 ≤ 1000000) (h_y : -2147483648 ≤ y ∧ y ≤ 2147483647) (hw : WT T σ) (n_x : NH T x) (hy : y = 0) : Tn (d + 1) m_J7_fill_53178 0 T σ [(0, .ref x), (1, .int (iI y))] [] (fun ro T2 σ2 => ro = none ∧ T = T2 ∧ WT T2 σ2 ∧ FrC T [] σ σ2 ∧ (CHX [] [x] [] σ σ2) ∧ (FLR σ σ2 x 0 ((T x).2 : Int) y)) := by
  refine tn_iconst dJ7_fill_53178_0 ?_
  refine tn_istore_n (L' := [(2, .int (iI 0)), (0, .ref x), (1, .int (iI y))]) dJ7_fill_53178_1 rfl (by decide) rfl ?_
  refine tn_aload_n dJ7_fill_53178_2 rfl 1 rfl ?_
  refine tn_alenX dJ7_fill_53178_3 (Or.inl h_x) ?_
  refine tn_istore_n (L' := [(3, .int (iI (((T x).2 : Int)))), (2, .int (iI 0)), (0, .ref x), (1, .int (iI y))]) dJ7_fill_53178_4 rfl (by decide) rfl ?_
  refine tn_sub [2, 3, 1, 0] rfl (l_J7_fill_53178_x_5 (d) (T := T) (σ0 := σ) (rx0 := x) (c1 := y) (c3 := ((T x).2 : Int)) h_x (by omega) (by omega) (by omega) hw n_x (by omega) (fun i21 σ2 w5 F6 r7 f8 f9 f10 f11 => ?_) _ (0) σ hw FrC.rfl (by omega) CHX.rfl (FLR.nil (by omega)) (by omega) rfl)
  show Tn _ _ 20 T σ2 [(0, .ref x), (1, .int (iI y)), (2, .int (iI i21)), (3, .int (iI (((T x).2 : Int))))] [] _
  exact tn_vret rfl dJ7_fill_53178_20 ⟨rfl, rfl, w5, (FrC.rfl.trans (FrC.sub F6 (by decide))), (CHX.rfl.trans (CHX.sub f8 (by simp) (by simp) (by simp))), f9.to (by omega)⟩
set_option maxHeartbeats 1000000 in
set_option maxRecDepth 20000 in
theorem l_J7_fill_fda19_x_10 (d : Nat) {T : CT} {σ0 : MS} {rx0 : Nat} {c2 : Int} {c3 : Int} {f0 : Int} {post : Option Value → CT → MS → Prop} (h_rx0 : IA T rx0) (l_rx0 : (T rx0).2 ≤ 1000000) (r_c2 : -2147483648 ≤ c2 ∧ c2 ≤ 2147483647) (r_c3 : 0 ≤ c3 ∧ c3 ≤ 0) (hw0 : WT T σ0) (n_rx0 : NH T rx0) (hc2 : c2 ≤ ((T rx0).2 : Int)) (hx_27 : ∀ (i4 : Int) (σ : MS) , (WT T σ) → (FrC T [] σ0 σ) → (0 ≤ i4 ∧ i4 ≤ 2147483647) → (CHX [] [rx0] [] σ0 σ) → (FLR σ0 σ rx0 f0 i4 c3) → (i4 ≤ c2 ∧ f0 ≤ i4) → (c2 ≤ i4) → Tn (d + 2) m_J7_fill_fda19 27 T σ [(0, .ref rx0), (2, .int (iI c2)), (3, .int (iI c3)), (4, .int (iI i4))] [] post) : ∀ (nq9 : Nat) (i4 : Int) (σ : MS) , (WT T σ) → (FrC T [] σ0 σ) → (0 ≤ i4 ∧ i4 ≤ 2147483647) → (CHX [] [rx0] [] σ0 σ) → (FLR σ0 σ rx0 f0 i4 c3) → (i4 ≤ c2 ∧ f0 ≤ i4) → (2147483700 - i4).toNat = nq9 → Tn (d + 2) m_J7_fill_fda19 10 T σ [(0, .ref rx0), (2, .int (iI c2)), (3, .int (iI c3)), (4, .int (iI i4))] [] post := by
  intro nq9
  induction nq9 using Nat.strongRecOn with
  | _ nq9 ih =>
    intro i4 σ hw hF r_i4 hC hL h0 hm
    refine tn_iload dJ7_fill_fda19_10 3 rfl ?_
    refine tn_iload_n dJ7_fill_fda19_12 rfl 1 rfl ?_
    refine tn_icmp_ge (tgt := 27) dJ7_fill_fda19_13 (by decide) ⟨by omega, by omega⟩ ⟨by omega, by omega⟩ (fun h1 => ?_) (fun h1 => ?_)
    · exact tn_sub [0, 1, 2, 3] rfl (hx_27 (i4) σ hw (FrC.rfl.trans (FrC.sub hF (by decide))) (by omega) hC hL (by omega) (by omega))
    · refine tn_aload_n dJ7_fill_fda19_16 rfl 0 rfl ?_
      refine tn_iload dJ7_fill_fda19_17 3 rfl ?_
      refine tn_iload_n dJ7_fill_fda19_19 rfl 2 rfl ?_
      refine tn_iast (z := i4) (v := c3) dJ7_fill_fda19_20 h_rx0 (by omega) (by omega) (by omega) ?_
      refine tn_iinc (q0 := 3) (L' := [(4, .int (iI (i4 + 1))), (0, .ref rx0), (2, .int (iI c2)), (3, .int (iI c3))]) dJ7_fill_fda19_21 rfl (by decide) rfl ?_
      refine tn_goto (tgt := 10) dJ7_fill_fda19_24 (by decide) ?_
      exact tn_sub [1, 2, 3, 0] rfl (ih _ (by omega) (i4 + 1) (sA (1000 + rx0) (i4) (c3) σ) (hw.arr (Or.inl h_rx0) (vok_z (by omega))) ((FrC.rfl.trans (FrC.sub hF (by decide))).arr (hk_no n_rx0)) (by omega) (hC.arr (by simp)) (hL.step (by omega)) (by omega) rfl)
set_option maxHeartbeats 1000000 in
set_option maxRecDepth 20000 in
theorem k_J7_fill_fda19_x (d : Nat) {T : CT} {σ : MS} {x : Nat} {f : Int} {t : Int} {y : Int} (h_x : IA T x) (l_x : (T x).2 ≤ 1000000) (h_f : -2147483648 ≤ f ∧ f ≤ 2147483647) (h_t : -2147483648 ≤ t ∧ t ≤ 2147483647) (h_y : -2147483648 ≤ y ∧ y ≤ 2147483647) (hw : WT T σ) (n_x : NH T x) (hy : y = 0) (hf : 0 ≤ f ∧ f ≤ t ∧ t ≤ ((T x).2 : Int)) : Tn (d + 2) m_J7_fill_fda19 0 T σ [(0, .ref x), (1, .int (iI f)), (2, .int (iI t)), (3, .int (iI y))] [] (fun ro T2 σ2 => ro = none ∧ T = T2 ∧ WT T2 σ2 ∧ FrC T [] σ σ2 ∧ (CHX [] [x] [] σ σ2) ∧ (FLR σ σ2 x f t y)) := by
  refine tn_aload_n dJ7_fill_fda19_0 rfl 0 rfl ?_
  refine tn_alenX dJ7_fill_fda19_1 (Or.inl h_x) ?_
  refine tn_iload_n dJ7_fill_fda19_2 rfl 1 rfl ?_
  refine tn_iload_n dJ7_fill_fda19_3 rfl 2 rfl ?_
  refine tn_callS (M := m_J7_fill_fda19) (pc := 4) (ix := 13) (M' := m_J7_rangeCheck_23922) (As := [.int (iI (((T x).2 : Int))), .int (iI f), .int (iI t)]) (rest := []) dJ7_fill_fda19_4 ok_J7_rangeCheck_23922 stt_J7_rangeCheck_23922 mlJ7_13 np_J7_rangeCheck_23922 rfl (Nat.le_of_ble_eq_true rfl) (Nat.le_of_ble_eq_true rfl) rfl (k_J7_rangeCheck_23922 (d) (T := T) (σ := σ) (n := ((T x).2 : Int)) (f := f) (t := t) (by omega) (by omega) (by omega) hw (by omega)) (fun r1 T3 σ2 gt4 hp => ?_)
  obtain ⟨rfl, rfl, rfl⟩ := hp
  clear gt4
  show Tn _ _ 7 T σ [(0, .ref x), (1, .int (iI f)), (2, .int (iI t)), (3, .int (iI y))] [] _
  refine tn_iload_n dJ7_fill_fda19_7 rfl 1 rfl ?_
  refine tn_istore (L' := [(4, .int (iI f)), (0, .ref x), (1, .int (iI f)), (2, .int (iI t)), (3, .int (iI y))]) dJ7_fill_fda19_8 (by decide) rfl ?_
  refine tn_sub [1, 3, 4, 0] rfl (l_J7_fill_fda19_x_10 (d) (T := T) (σ0 := σ) (rx0 := x) (c2 := t) (c3 := y) (f0 := f) h_x (by omega) (by omega) (by omega) hw n_x (by omega) (fun i46 σ7 w10 F11 r12 f13 f14 f15 f16 => ?_) _ (f) σ hw FrC.rfl (by omega) CHX.rfl (FLR.nil (by omega)) (by omega) rfl)
  show Tn _ _ 27 T σ7 [(0, .ref x), (2, .int (iI t)), (3, .int (iI y)), (4, .int (iI i46))] [] _
  exact tn_vret rfl dJ7_fill_fda19_27 ⟨rfl, rfl, w10, (FrC.rfl.trans (FrC.sub F11 (by decide))), (CHX.rfl.trans (CHX.sub f13 (by simp) (by simp) (by simp))), f14.to (by omega)⟩
set_option maxHeartbeats 1000000 in
set_option maxRecDepth 20000 in
theorem l_J7_fill_bad5a_x_10 (d : Nat) {T : CT} {σ0 : MS} {rx0 : Nat} {c2 : Int} {j3 : Int64} {f0 : Int} {post : Option Value → CT → MS → Prop} (h_rx0 : (T rx0).1 = 3) (l_rx0 : (T rx0).2 ≤ 1000000) (r_c2 : -2147483648 ≤ c2 ∧ c2 ≤ 2147483647) (hw0 : WT T σ0) (hc2 : c2 ≤ ((T rx0).2 : Int)) (hx_27 : ∀ (i5 : Int) (σ : MS) , (WT T σ) → (FrC T [] σ0 σ) → (0 ≤ i5 ∧ i5 ≤ 2147483647) → (CHX [] [] [rx0] σ0 σ) → (FLL σ0 σ rx0 f0 i5 j3) → (i5 ≤ c2 ∧ f0 ≤ i5) → (c2 ≤ i5) → Tn (d + 2) m_J7_fill_bad5a 27 T σ [(0, .ref rx0), (2, .int (iI c2)), (3, .long (j3)), (5, .int (iI i5))] [] post) : ∀ (nq9 : Nat) (i5 : Int) (σ : MS) , (WT T σ) → (FrC T [] σ0 σ) → (0 ≤ i5 ∧ i5 ≤ 2147483647) → (CHX [] [] [rx0] σ0 σ) → (FLL σ0 σ rx0 f0 i5 j3) → (i5 ≤ c2 ∧ f0 ≤ i5) → (2147483700 - i5).toNat = nq9 → Tn (d + 2) m_J7_fill_bad5a 10 T σ [(0, .ref rx0), (2, .int (iI c2)), (3, .long (j3)), (5, .int (iI i5))] [] post := by
  intro nq9
  induction nq9 using Nat.strongRecOn with
  | _ nq9 ih =>
    intro i5 σ hw hF r_i5 hC hL h0 hm
    refine tn_iload dJ7_fill_bad5a_10 3 rfl ?_
    refine tn_iload_n dJ7_fill_bad5a_12 rfl 1 rfl ?_
    refine tn_icmp_ge (tgt := 27) dJ7_fill_bad5a_13 (by decide) ⟨by omega, by omega⟩ ⟨by omega, by omega⟩ (fun h1 => ?_) (fun h1 => ?_)
    · exact tn_sub [0, 1, 2, 3] rfl (hx_27 (i5) σ hw (FrC.rfl.trans (FrC.sub hF (by decide))) (by omega) hC hL (by omega) (by omega))
    · refine tn_aload_n dJ7_fill_bad5a_16 rfl 0 rfl ?_
      refine tn_iload dJ7_fill_bad5a_17 3 rfl ?_
      refine tn_lload_n dJ7_fill_bad5a_19 rfl 2 rfl ?_
      refine tn_last (z := i5) (v := j3) dJ7_fill_bad5a_20 h_rx0 (by omega) (by omega) (by omega) ?_
      refine tn_iinc (q0 := 3) (L' := [(5, .int (iI (i5 + 1))), (0, .ref rx0), (2, .int (iI c2)), (3, .long (j3))]) dJ7_fill_bad5a_21 rfl (by decide) rfl ?_
      refine tn_goto (tgt := 10) dJ7_fill_bad5a_24 (by decide) ?_
      exact tn_sub [1, 2, 3, 0] rfl (ih _ (by omega) (i5 + 1) (sJ rx0 (i5) (j3) σ) (hw.lng) ((FrC.rfl.trans (FrC.sub hF (by decide))).lng) (by omega) (hC.lng (by simp)) (hL.step (by omega)) (by omega) rfl)
set_option maxHeartbeats 1000000 in
set_option maxRecDepth 20000 in
theorem k_J7_fill_bad5a_x (d : Nat) {T : CT} {σ : MS} {x : Nat} {f : Int} {t : Int} {w : Int64} (h_x : (T x).1 = 3) (l_x : (T x).2 ≤ 1000000) (h_f : -2147483648 ≤ f ∧ f ≤ 2147483647) (h_t : -2147483648 ≤ t ∧ t ≤ 2147483647) (hw : WT T σ) (hf : 0 ≤ f ∧ f ≤ t ∧ t ≤ ((T x).2 : Int)) : Tn (d + 2) m_J7_fill_bad5a 0 T σ [(0, .ref x), (1, .int (iI f)), (2, .int (iI t)), (3, .long (w))] [] (fun ro T2 σ2 => ro = none ∧ T = T2 ∧ WT T2 σ2 ∧ FrC T [] σ σ2 ∧ (CHX [] [] [x] σ σ2) ∧ (FLL σ σ2 x f t w)) := by
  refine tn_aload_n dJ7_fill_bad5a_0 rfl 0 rfl ?_
  refine tn_alenX dJ7_fill_bad5a_1 (Or.inr (Or.inr (Or.inl h_x))) ?_
  refine tn_iload_n dJ7_fill_bad5a_2 rfl 1 rfl ?_
  refine tn_iload_n dJ7_fill_bad5a_3 rfl 2 rfl ?_
  refine tn_callS (M := m_J7_fill_bad5a) (pc := 4) (ix := 13) (M' := m_J7_rangeCheck_23922) (As := [.int (iI (((T x).2 : Int))), .int (iI f), .int (iI t)]) (rest := []) dJ7_fill_bad5a_4 ok_J7_rangeCheck_23922 stt_J7_rangeCheck_23922 mlJ7_13 np_J7_rangeCheck_23922 rfl (Nat.le_of_ble_eq_true rfl) (Nat.le_of_ble_eq_true rfl) rfl (k_J7_rangeCheck_23922 (d) (T := T) (σ := σ) (n := ((T x).2 : Int)) (f := f) (t := t) (by omega) (by omega) (by omega) hw (by omega)) (fun r1 T3 σ2 gt4 hp => ?_)
  obtain ⟨rfl, rfl, rfl⟩ := hp
  clear gt4
  show Tn _ _ 7 T σ [(0, .ref x), (1, .int (iI f)), (2, .int (iI t)), (3, .long (w))] [] _
  refine tn_iload_n dJ7_fill_bad5a_7 rfl 1 rfl ?_
  refine tn_istore (L' := [(5, .int (iI f)), (0, .ref x), (1, .int (iI f)), (2, .int (iI t)), (3, .long (w))]) dJ7_fill_bad5a_8 (by decide) rfl ?_
  refine tn_sub [1, 3, 4, 0] rfl (l_J7_fill_bad5a_x_10 (d) (T := T) (σ0 := σ) (rx0 := x) (c2 := t) (j3 := w) (f0 := f) h_x (by omega) (by omega) hw (by omega) (fun i56 σ7 w10 F11 r12 f13 f14 f15 f16 => ?_) _ (f) σ hw FrC.rfl (by omega) CHX.rfl (FLL.nil (by omega)) (by omega) rfl)
  show Tn _ _ 27 T σ7 [(0, .ref x), (2, .int (iI t)), (3, .long (w)), (5, .int (iI i56))] [] _
  exact tn_vret rfl dJ7_fill_bad5a_27 ⟨rfl, rfl, w10, (FrC.rfl.trans (FrC.sub F11 (by decide))), (CHX.rfl.trans (CHX.sub f13 (by simp) (by simp) (by simp))), f14.to (by omega)⟩
set_option maxHeartbeats 1000000 in
set_option maxRecDepth 20000 in
theorem k_X11_clear_x (d : Nat) {T : CT} {σ : MS} {x : Nat} {n : Int} (h_x : (T x).1 = 3) (l_x : (T x).2 ≤ 1000000) (h_n : -2147483648 ≤ n ∧ n ≤ 2147483647) (hw : WT T σ) (hn : 0 ≤ n ∧ n ≤ ((T x).2 : Int)) : Tn (d + 3) m_X11_clear 0 T σ [(0, .ref x), (1, .int (iI n))] [] (fun ro T2 σ2 => ro = none ∧ T = T2 ∧ WT T2 σ2 ∧ FrC T [] σ σ2 ∧ (CHX [] [] [x] σ σ2) ∧ (FLL σ σ2 x 0 n 0)) := by
  refine tn_aload_n dX11_clear_0 rfl 0 rfl ?_
  refine tn_iconst dX11_clear_1 ?_
  refine tn_iconst dX11_clear_2 ?_
  refine tn_iload_n dX11_clear_3 rfl 1 rfl ?_
  refine tn_aload_n dX11_clear_4 rfl 0 rfl ?_
  refine tn_alenX dX11_clear_5 (Or.inr (Or.inr (Or.inl h_x))) ?_
  refine tn_mmin (x := n) (y := ((T x).2 : Int)) dX11_clear_6 mlm11_110 stM_min iniM cdM_min (by omega) (Nat.le_of_ble_eq_true rfl) ⟨by omega, by omega⟩ ⟨by omega, by omega⟩ (fun z1 g2 => ?_)
  refine tn_mmax (x := 0) (y := z1) dX11_clear_9 mlm11_323 stM_max iniM cdM_max (by omega) (Nat.le_of_ble_eq_true rfl) ⟨by omega, by omega⟩ ⟨by omega, by omega⟩ (fun z3 g4 => ?_)
  refine tn_lconst (v := 0) dX11_clear_12 rfl ?_
  refine tn_callS (M := m_X11_clear) (pc := 13) (ix := 326) (M' := m_J7_fill_bad5a) (As := [.ref x, .int (iI 0), .int (iI z3), .long (0)]) (rest := []) dX11_clear_13 ok_J7_fill_bad5a stt_J7_fill_bad5a ml11_326 np_J7_fill_bad5a rfl (Nat.le_of_ble_eq_true rfl) (Nat.le_of_ble_eq_true rfl) rfl (k_J7_fill_bad5a_x (d) (T := T) (σ := σ) (x := x) (f := 0) (t := z3) (w := 0) h_x (by omega) (by decide) (by omega) hw (by omega)) (fun r5 T7 σ6 gt8 hp => ?_)
  obtain ⟨rfl, rfl, w12, F13, f9, f10⟩ := hp
  clear gt8
  show Tn _ _ 16 T σ6 [(0, .ref x), (1, .int (iI n))] [] _
  exact tn_vret rfl dX11_clear_16 ⟨rfl, rfl, w12, (FrC.rfl.trans (FrC.sub F13 (by decide))), (CHX.rfl.trans (CHX.sub f9 (by simp) (by simp) (by simp))), f10.to (by omega)⟩
end
section
def KDQ (W : Int → It) (n k v : Int) : Prop := ((0 ≤ k ∧ k < n) ∧ v = W k 0) ∨ (¬ (0 ≤ k ∧ k < n) ∧ v = -1)
def WBQ (W : Int → It) (n k v : Int) : Prop := ((0 ≤ k ∧ k < n) ∧ ((0 ≤ W k 0 ∧ W k 0 ≤ 5) ∨ W k 0 = 10) ∧ v = W k 1) ∨ (¬ ((0 ≤ k ∧ k < n) ∧ ((0 ≤ W k 0 ∧ W k 0 ≤ 5) ∨ W k 0 = 10)) ∧ v = -1)
def FLQ (W : Int → It) (n k v : Int) : Prop := (v = 0 ∧ (0 ≤ k ∧ k < n) ∧ (W k 0 = 8 ∨ W k 0 = 7)) ∨ (v = 1 ∧ ¬ ((0 ≤ k ∧ k < n) ∧ (W k 0 = 8 ∨ W k 0 = 7)))
def TGQ (W : Int → It) (n k v : Int) : Prop := ((0 ≤ k ∧ k < n) ∧ (W k 0 = 8 ∨ W k 0 = 9) ∧ v = W k 12) ∨ (¬ ((0 ≤ k ∧ k < n) ∧ (W k 0 = 8 ∨ W k 0 = 9)) ∧ v = -1)
def lnW (W : Int → It) (n k r : Int) : Prop := (0 ≤ k ∧ k < n) ∧ W k 0 = 12 ∧ ((W k 11 = 2 ∧ W k 4 = r) ∨ (W k 11 ≠ 2 ∧ ((W k 3 = 2 ∧ W k 4 = r) ∨ (W k 5 = 2 ∧ W k 6 = r))))
def LNQ (W : Int → It) (n k r v : Int) : Prop := (v = 1 ∧ lnW W n k r) ∨ (v = 0 ∧ ¬ lnW W n k r)
def SMQ (W : Int → It) (k j v : Int) : Prop := (v = 1 ∧ W k 3 = W j 3 ∧ W k 4 = W j 4 ∧ W k 5 = W j 5 ∧ W k 6 = W j 6) ∨ (v = 0 ∧ ¬ (W k 3 = W j 3 ∧ W k 4 = W j 4 ∧ W k 5 = W j 5 ∧ W k 6 = W j 6))
def nrm (i : It) : It := fun c => if c = 3 ∧ i 0 = 12 ∧ (i 11 = 1 ∨ i 11 = 2) then i 11 else if c = 12 then 0 else i c
def vW (W : Int → It) : Int → It := fun k => nrm (W k)
def swI (i : It) (w z : Int) : It := uZ (uZ (uZ (uZ (uZ i 11 w) 3 0) 4 z) 5 0) 6 0
theorem cW_put {σ : MS} {x : Nat} {n k c y z : Int} (hk : 0 ≤ k ∧ k < n) (hc : 0 ≤ c ∧ c ≤ 12) (hz : z = 13 * k + c) : cW (sA (1000 + x) z y σ) x n = uZ (cW σ x n) k (uZ (cW σ x n k) c y) := by
  rw [cW_set hk hc hz]
  funext k' c'
  rw [uW_in hk]
  unfold uZ
  by_cases e : k' = k
  · rw [if_pos e]
    by_cases q : c' = c
    · rw [if_pos ⟨e, q⟩, if_pos q]
    · rw [if_neg (fun w => q w.2), if_neg q, e]
  · rw [if_neg e, if_neg (fun w => e w.1)]
theorem uZ_uZ {α : Type} {f : Int → α} {z : Int} {v w : α} : uZ (uZ f z v) z w = uZ f z w := by
  funext q; unfold uZ; by_cases e : q = z
  · rw [if_pos e, if_pos e]
  · rw [if_neg e, if_neg e, if_neg e]
theorem it_5 {W0 W1 W2 W3 W4 W5 : Int → It} {k c1 c2 c3 c4 c5 y1 y2 y3 y4 y5 : Int} (h1 : W1 = uZ W0 k (uZ (W0 k) c1 y1)) (h2 : W2 = uZ W1 k (uZ (W1 k) c2 y2)) (h3 : W3 = uZ W2 k (uZ (W2 k) c3 y3)) (h4 : W4 = uZ W3 k (uZ (W3 k) c4 y4)) (h5 : W5 = uZ W4 k (uZ (W4 k) c5 y5)) : W5 = uZ W0 k (uZ (uZ (uZ (uZ (uZ (W0 k) c1 y1) c2 y2) c3 y3) c4 y4) c5 y5) := by
  subst h1
  rw [uZ_eq, uZ_uZ] at h2
  subst h2
  rw [uZ_eq, uZ_uZ] at h3
  subst h3
  rw [uZ_eq, uZ_uZ] at h4
  subst h4
  rw [uZ_eq, uZ_uZ] at h5
  exact h5
end
section
set_option maxHeartbeats 1000000 in
set_option maxRecDepth 20000 in
theorem k_X1_get_x (d : Nat) {T : CT} {σ : MS} {a : Nat} {k : Int} {c : Int} {x : Nat} {n : Int} {W : Int → It} (ha : OB T a 1) (h_k : -2147483648 ≤ k ∧ k ≤ 2147483647) (h_c : -2147483648 ≤ c ∧ c ≤ 2147483647) (hw : WT T σ) (hx : σ.2.1 5 a = (x : Int)) (hn : σ.2.1 6 a = n) (hW : cW σ x n = W) (hN : n ≤ 200) (hc : 0 ≤ c ∧ c ≤ 12) : Tn (d + 1) m_X1_get 0 T σ [(0, .ref a), (1, .int (iI k)), (2, .int (iI c))] [] (fun ro T2 σ2 => ∃ v : Int, ro = some (.int (iI v)) ∧ T = T2 ∧ σ = σ2 ∧ (-2147483648 ≤ v ∧ v ≤ 2147483647) ∧ (v = W k c)) := by
  refine tn_iload_n dX1_get_0 rfl 1 rfl ?_
  refine tn_bipush dX1_get_1 (by decide) ?_
  refine tn_imul dX1_get_3 ?_
  refine tn_iload_n dX1_get_4 rfl 2 rfl ?_
  refine tn_iadd dX1_get_5 ?_
  refine tn_istore_n (L' := [(3, .int (iI ((k * 13) + c))), (0, .ref a), (1, .int (iI k)), (2, .int (iI c))]) dX1_get_6 rfl (by decide) rfl ?_
  refine tn_iload_n dX1_get_7 rfl 2 rfl ?_
  refine tn_if_lt (tgt := 41) dX1_get_8 (by decide) ⟨by omega, by omega⟩ (fun h1 => ?_) (fun h1 => ?_)
  · refine tn_iconst dX1_get_41 ?_
    exact tn_iret rfl dX1_get_42 ⟨_, rfl, rfl, rfl, by omega, by rw [← hW]; exact cW_out (by omega)⟩
  · refine tn_iload_n dX1_get_11 rfl 2 rfl ?_
    refine tn_aload_n dX1_get_12 rfl 1 rfl ?_
    refine tn_getI (ci := 1) (i := 1) (n := 6) (t := σ.2.1 6 a) dX1_get_13 rfl lay_1 (by decide) fl1_33 ha rfl rfl (rfl) ?_
    have g2 : ((0 : Int) ≤ σ.2.1 6 a ∧ σ.2.1 6 a ≤ 5000) ∧ ((T a).1 = 50 → σ.2.1 6 a ≤ 200) := wf_6 hw ha
    have g2x := g2.2
    replace g2 := g2.1
    clear g2x
    refine tn_icmp_ge (tgt := 41) dX1_get_16 (by decide) ⟨by omega, by omega⟩ ⟨by omega, by omega⟩ (fun h3 => ?_) (fun h3 => ?_)
    · refine tn_iconst dX1_get_41 ?_
      exact tn_iret rfl dX1_get_42 ⟨_, rfl, rfl, rfl, by omega, by rw [← hW]; exact cW_out (by omega)⟩
    · refine tn_iload_n dX1_get_19 rfl 0 rfl ?_
      refine tn_if_lt (tgt := 41) dX1_get_20 (by decide) ⟨by omega, by omega⟩ (fun h4 => ?_) (fun h4 => ?_)
      · refine tn_iconst dX1_get_41 ?_
        exact tn_iret rfl dX1_get_42 ⟨_, rfl, rfl, rfl, by omega, by rw [← hW]; exact cW_out (by omega)⟩
      · refine tn_iload_n dX1_get_23 rfl 0 rfl ?_
        refine tn_aload_n dX1_get_24 rfl 1 rfl ?_
        obtain ⟨hl8, hk7a, hk7b⟩ := cel_of (wf_5 hw ha) hx
        have hk7i : IA T x := by unfold IA; omega
        have hk7c : CELL T a x := ⟨hk7a, hk7b⟩
        clear hk7a hk7b
        refine tn_getR (ci := 1) (i := 0) (n := 5) (x := x) dX1_get_25 rfl lay_1 (by decide) fl1_9 ha rfl rfl (hx) ?_
        refine tn_alenX dX1_get_28 (Or.inl hk7i) ?_
        refine tn_icmp_ge (tgt := 41) dX1_get_29 (by decide) ⟨by omega, by omega⟩ ⟨by omega, by omega⟩ (fun h9 => ?_) (fun h9 => ?_)
        · refine tn_iconst dX1_get_41 ?_
          have g10 : 13 * σ.2.1 6 a ≤ ((T x).2 : Int) ∨ 2600 ≤ (T x).2 := hw.2.1 a x ha hx
          exact tn_iret rfl dX1_get_42 ⟨_, rfl, rfl, rfl, by omega, by rw [← hW]; exact cW_out (by omega)⟩
        · refine tn_aload_n dX1_get_32 rfl 1 rfl ?_
          refine tn_getR (ci := 1) (i := 0) (n := 5) (x := x) dX1_get_33 rfl lay_1 (by decide) fl1_9 ha rfl rfl (hx) ?_
          refine tn_iload_n dX1_get_36 rfl 0 rfl ?_
          refine tn_ialdX (z := (k * 13) + c) hw dX1_get_37 hk7i (by omega) (by omega) (by omega) (fun v11 g12q g12 g12k => ?_)
          have g12u := g12q
          clear g12k g12q
          refine tn_goto (tgt := 42) dX1_get_38 (by decide) ?_
          exact tn_iret rfl dX1_get_42 ⟨_, rfl, rfl, rfl, by omega, by rw [← hW]; exact cW_in ⟨by omega, by omega⟩ hc (by omega) g12u⟩
end
section
set_option maxHeartbeats 1000000 in
set_option maxRecDepth 20000 in
theorem k_X1_kindAt_x (d : Nat) {T : CT} {σ : MS} {a : Nat} {k : Int} {x : Nat} {n : Int} {W : Int → It} (ha : OB T a 1) (h_k : -2147483648 ≤ k ∧ k ≤ 2147483647) (hw : WT T σ) (hx : σ.2.1 5 a = (x : Int)) (hn : σ.2.1 6 a = n) (hW : cW σ x n = W) (hN : n ≤ 200) : Tn (d + 1) m_X1_kindAt 0 T σ [(0, .ref a), (1, .int (iI k))] [] (fun ro T2 σ2 => ∃ v : Int, ro = some (.int (iI v)) ∧ T = T2 ∧ σ = σ2 ∧ (-2147483648 ≤ v ∧ v ≤ 2147483647) ∧ (KDQ W n k v)) := by
  refine tn_iload_n dX1_kindAt_0 rfl 1 rfl ?_
  refine tn_if_lt (tgt := 36) dX1_kindAt_1 (by decide) ⟨by omega, by omega⟩ (fun h1 => ?_) (fun h1 => ?_)
  · refine tn_iconst dX1_kindAt_36 ?_
    exact tn_iret rfl dX1_kindAt_37 ⟨_, rfl, rfl, rfl, by omega, Or.inr ⟨by omega, rfl⟩⟩
  · refine tn_iload_n dX1_kindAt_4 rfl 1 rfl ?_
    refine tn_aload_n dX1_kindAt_5 rfl 0 rfl ?_
    refine tn_getI (ci := 1) (i := 1) (n := 6) (t := σ.2.1 6 a) dX1_kindAt_6 rfl lay_1 (by decide) fl1_33 ha rfl rfl (rfl) ?_
    have g2 : ((0 : Int) ≤ σ.2.1 6 a ∧ σ.2.1 6 a ≤ 5000) ∧ ((T a).1 = 50 → σ.2.1 6 a ≤ 200) := wf_6 hw ha
    have g2x := g2.2
    replace g2 := g2.1
    clear g2x
    refine tn_icmp_ge (tgt := 36) dX1_kindAt_9 (by decide) ⟨by omega, by omega⟩ ⟨by omega, by omega⟩ (fun h3 => ?_) (fun h3 => ?_)
    · refine tn_iconst dX1_kindAt_36 ?_
      exact tn_iret rfl dX1_kindAt_37 ⟨_, rfl, rfl, rfl, by omega, Or.inr ⟨by omega, rfl⟩⟩
    · refine tn_iload_n dX1_kindAt_12 rfl 1 rfl ?_
      refine tn_bipush dX1_kindAt_13 (by decide) ?_
      refine tn_imul dX1_kindAt_15 ?_
      refine tn_aload_n dX1_kindAt_16 rfl 0 rfl ?_
      obtain ⟨hl7, hk6a, hk6b⟩ := cel_of (wf_5 hw ha) hx
      have hk6i : IA T x := by unfold IA; omega
      have hk6c : CELL T a x := ⟨hk6a, hk6b⟩
      clear hk6a hk6b
      refine tn_getR (ci := 1) (i := 0) (n := 5) (x := x) dX1_kindAt_17 rfl lay_1 (by decide) fl1_9 ha rfl rfl (hx) ?_
      refine tn_alenX dX1_kindAt_20 (Or.inl hk6i) ?_
      refine tn_icmp_ge (tgt := 36) dX1_kindAt_21 (by decide) ⟨by omega, by omega⟩ ⟨by omega, by omega⟩ (fun h8 => ?_) (fun h8 => ?_)
      · refine tn_iconst dX1_kindAt_36 ?_
        have g9 : 13 * σ.2.1 6 a ≤ ((T x).2 : Int) ∨ 2600 ≤ (T x).2 := hw.2.1 a x ha hx
        exact tn_iret rfl dX1_kindAt_37 ⟨_, rfl, rfl, rfl, by omega, Or.inr ⟨by omega, rfl⟩⟩
      · refine tn_aload_n dX1_kindAt_24 rfl 0 rfl ?_
        refine tn_getR (ci := 1) (i := 0) (n := 5) (x := x) dX1_kindAt_25 rfl lay_1 (by decide) fl1_9 ha rfl rfl (hx) ?_
        refine tn_iload_n dX1_kindAt_28 rfl 1 rfl ?_
        refine tn_bipush dX1_kindAt_29 (by decide) ?_
        refine tn_imul dX1_kindAt_31 ?_
        refine tn_ialdX (z := k * 13) hw dX1_kindAt_32 hk6i (by omega) (by omega) (by omega) (fun v10 g11q g11 g11k => ?_)
        have g11u := g11q
        clear g11k g11q
        refine tn_goto (tgt := 37) dX1_kindAt_33 (by decide) ?_
        exact tn_iret rfl dX1_kindAt_37 ⟨_, rfl, rfl, rfl, by omega, Or.inl ⟨⟨by omega, by omega⟩, by rw [← hW]; exact cW_in ⟨by omega, by omega⟩ (by decide) (by omega) g11u⟩⟩
end
section
set_option maxHeartbeats 1000000 in
set_option maxRecDepth 20000 in
theorem k_X1_set_x (d : Nat) {T : CT} {σ : MS} {a : Nat} {k : Int} {c : Int} {y : Int} {x : Nat} {n : Int} {W : Int → It} (ha : OB T a 1) (h_k : -2147483648 ≤ k ∧ k ≤ 2147483647) (h_c : -2147483648 ≤ c ∧ c ≤ 2147483647) (h_y : -2147483648 ≤ y ∧ y ≤ 2147483647) (hw : WT T σ) (hx : σ.2.1 5 a = (x : Int)) (hn : σ.2.1 6 a = n) (hW : cW σ x n = W) (hN : n ≤ 200) (hc : 0 ≤ c ∧ c ≤ 12) (hk : (T a).1 ≠ 50 → 1 ≤ c) (hkr : 0 ≤ k ∧ k < n) : Tn (d + 1) m_X1_set 0 T σ [(0, .ref a), (1, .int (iI k)), (2, .int (iI c)), (3, .int (iI y))] [] (fun ro T2 σ2 => ro = none ∧ T = T2 ∧ WT T2 σ2 ∧ FrC T [] σ σ2 ∧ (CHX [] [x] [] σ σ2) ∧ (cW σ2 x n = uZ W k (uZ (W k) c y))) := by
  refine tn_iload_n dX1_set_0 rfl 1 rfl ?_
  refine tn_bipush dX1_set_1 (by decide) ?_
  refine tn_imul dX1_set_3 ?_
  refine tn_iload_n dX1_set_4 rfl 2 rfl ?_
  refine tn_iadd dX1_set_5 ?_
  refine tn_istore (L' := [(4, .int (iI ((k * 13) + c))), (0, .ref a), (1, .int (iI k)), (2, .int (iI c)), (3, .int (iI y))]) dX1_set_6 (by decide) rfl ?_
  refine tn_iload_n dX1_set_8 rfl 2 rfl ?_
  refine tn_if_lt (tgt := 43) dX1_set_9 (by decide) ⟨by omega, by omega⟩ (fun h1 => ?_) (fun h1 => ?_)
  · exact tn_vret rfl dX1_set_43 ⟨rfl, rfl, hw, FrC.rfl, CHX.rfl, False.elim (by omega)⟩
  · refine tn_iload_n dX1_set_12 rfl 2 rfl ?_
    refine tn_aload_n dX1_set_13 rfl 1 rfl ?_
    refine tn_getI (ci := 1) (i := 1) (n := 6) (t := σ.2.1 6 a) dX1_set_14 rfl lay_1 (by decide) fl1_33 ha rfl rfl (rfl) ?_
    have g2 : ((0 : Int) ≤ σ.2.1 6 a ∧ σ.2.1 6 a ≤ 5000) ∧ ((T a).1 = 50 → σ.2.1 6 a ≤ 200) := wf_6 hw ha
    have g2x := g2.2
    replace g2 := g2.1
    clear g2x
    refine tn_icmp_ge (tgt := 43) dX1_set_17 (by decide) ⟨by omega, by omega⟩ ⟨by omega, by omega⟩ (fun h3 => ?_) (fun h3 => ?_)
    · exact tn_vret rfl dX1_set_43 ⟨rfl, rfl, hw, FrC.rfl, CHX.rfl, False.elim (by omega)⟩
    · refine tn_iload dX1_set_20 0 rfl ?_
      refine tn_if_lt (tgt := 43) dX1_set_22 (by decide) ⟨by omega, by omega⟩ (fun h4 => ?_) (fun h4 => ?_)
      · exact tn_vret rfl dX1_set_43 ⟨rfl, rfl, hw, FrC.rfl, CHX.rfl, False.elim (by omega)⟩
      · refine tn_iload dX1_set_25 0 rfl ?_
        refine tn_aload_n dX1_set_27 rfl 1 rfl ?_
        obtain ⟨hl8, hk7a, hk7b⟩ := cel_of (wf_5 hw ha) hx
        have hk7i : IA T x := by unfold IA; omega
        have hk7c : CELL T a x := ⟨hk7a, hk7b⟩
        clear hk7a hk7b
        refine tn_getR (ci := 1) (i := 0) (n := 5) (x := x) dX1_set_28 rfl lay_1 (by decide) fl1_9 ha rfl rfl (hx) ?_
        refine tn_alenX dX1_set_31 (Or.inl hk7i) ?_
        refine tn_icmp_ge (tgt := 43) dX1_set_32 (by decide) ⟨by omega, by omega⟩ ⟨by omega, by omega⟩ (fun h9 => ?_) (fun h9 => ?_)
        · have g10 : 13 * σ.2.1 6 a ≤ ((T x).2 : Int) ∨ 2600 ≤ (T x).2 := hw.2.1 a x ha hx
          exact tn_vret rfl dX1_set_43 ⟨rfl, rfl, hw, FrC.rfl, CHX.rfl, False.elim (by omega)⟩
        · refine tn_aload_n dX1_set_35 rfl 1 rfl ?_
          refine tn_getR (ci := 1) (i := 0) (n := 5) (x := x) dX1_set_36 rfl lay_1 (by decide) fl1_9 ha rfl rfl (hx) ?_
          refine tn_iload dX1_set_39 0 rfl ?_
          refine tn_iload_n dX1_set_41 rfl 4 rfl ?_
          refine tn_iast (z := (k * 13) + c) (v := y) dX1_set_42 hk7i (by omega) (by omega) (by omega) ?_
          exact tn_vret rfl dX1_set_43 ⟨rfl, rfl, (hw.arr (Or.inl hk7i) (hk7c.vok (by omega) (fun q r => by have q8 := hk q; omega))), (FrC.rfl.arr (hk_no (CELL.nh hk7c))), (CHX.rfl.arr (by simp)), by rw [← hW]; exact cW_put ⟨by omega, by omega⟩ hc (by omega)⟩
end
section
set_option maxHeartbeats 1000000 in
set_option maxRecDepth 20000 in
theorem k_X1_homeOf_x (d : Nat) {T : CT} {σ : MS} {a : Nat} {f : Int} {m : Int} {xh : Nat} {Rh : Int → Int} (ha : OB T a 1) (h_f : -2147483648 ≤ f ∧ f ≤ 2147483647) (h_m : -2147483648 ≤ m ∧ m ≤ 2147483647) (hw : WT T σ) (hxh : σ.2.1 15 a = (xh : Int)) (hRh : σ.2.1 (1000 + xh) = Rh) (hfm : (-10000 ≤ f ∧ f ≤ 10000) ∧ -10000 ≤ m ∧ m ≤ 10000) : Tn (d + 2) m_X1_homeOf 0 T σ [(0, .ref a), (1, .int (iI f)), (2, .int (iI m))] [] (fun ro T2 σ2 => ∃ v : Int, ro = some (.int (iI v)) ∧ T = T2 ∧ σ = σ2 ∧ (-2147483648 ≤ v ∧ v ≤ 2147483647) ∧ (ATQ Rh 144 (12 * f + m) v)) := by
  refine tn_aload_n dX1_homeOf_0 rfl 0 rfl ?_
  obtain ⟨hk3, hl4⟩ : AR T xh 1 144 144 := ar_of (wf_15 hw ha) hxh
  have hk3i : IA T xh := by unfold IA; omega
  refine tn_getR (ci := 1) (i := 10) (n := 15) (x := xh) dX1_homeOf_1 rfl lay_1 (by decide) fl1_27 ha rfl rfl (hxh) ?_
  refine tn_iload_n dX1_homeOf_4 rfl 1 rfl ?_
  refine tn_bipush dX1_homeOf_5 (by decide) ?_
  refine tn_imul dX1_homeOf_7 ?_
  refine tn_iload_n dX1_homeOf_8 rfl 2 rfl ?_
  refine tn_iadd dX1_homeOf_9 ?_
  refine tn_callSN (M := m_X1_homeOf) (pc := 10) (ix := 53) (M' := m_X11_at) (As := [.ref xh, .int (iI ((f * 12) + m))]) (rest := []) dX1_homeOf_10 ok_X11_at stt_X11_at nl1_53 np_X11_at rfl (Nat.le_of_ble_eq_true rfl) (Nat.le_of_ble_eq_true rfl) rfl (k_X11_at_x (d) (T := T) (σ := σ) (x := xh) (i := (f * 12) + m) (R := Rh) hk3i (by omega) (by omega) hw hRh) (fun r5 T7 σ6 gt8 hp => ?_)
  obtain ⟨v12, rfl, rfl, rfl, f9, f10, f11⟩ := hp
  clear gt8
  clear f10
  have f11u := f11
  unfold ATQ at f11u
  show Tn _ _ 13 T σ [(0, .ref a), (1, .int (iI f)), (2, .int (iI m))] [.int (iI v12)] _
  exact tn_iret rfl dX1_homeOf_13 ⟨_, rfl, rfl, rfl, by omega, by have z := f11; unfold ATQ at z ⊢; rw [show 12 * f + m = f * 12 + m by omega]; omega⟩
end
section
set_option maxHeartbeats 1000000 in
set_option maxRecDepth 20000 in
theorem k_X1_writtenBy_x (d : Nat) {T : CT} {σ : MS} {a : Nat} {k : Int} {x : Nat} {n : Int} {W : Int → It} (ha : OB T a 1) (h_k : -2147483648 ≤ k ∧ k ≤ 2147483647) (hw : WT T σ) (hx : σ.2.1 5 a = (x : Int)) (hn : σ.2.1 6 a = n) (hW : cW σ x n = W) (hN : n ≤ 200) : Tn (d + 2) m_X1_writtenBy 0 T σ [(0, .ref a), (1, .int (iI k))] [] (fun ro T2 σ2 => ∃ v : Int, ro = some (.int (iI v)) ∧ T = T2 ∧ σ = σ2 ∧ (-2147483648 ≤ v ∧ v ≤ 2147483647) ∧ (WBQ W n k v)) := by
  refine tn_aload_n dX1_writtenBy_0 rfl 0 rfl ?_
  refine tn_iload_n dX1_writtenBy_1 rfl 1 rfl ?_
  obtain ⟨hl4, hk3a, hk3b⟩ := cel_of (wf_5 hw ha) hx
  have hk3i : IA T x := by unfold IA; omega
  have hk3c : CELL T a x := ⟨hk3a, hk3b⟩
  clear hk3a hk3b
  refine tn_callV (M := m_X1_writtenBy) (pc := 2) (ix := 97) (ci := 1) (M' := m_X1_kindAt) (As := [.int (iI k)]) (rest := []) dX1_writtenBy_2 ok_X1_kindAt im_X1_kindAt se_X1_kindAt ml1_97 np_X1_kindAt rfl rfl ha rfl (Nat.le_of_ble_eq_true rfl) (Nat.le_of_ble_eq_true rfl) rfl (k_X1_kindAt_x (d) (T := T) (σ := σ) (a := a) (k := k) (x := x) (n := n) (W := W) ha (by omega) hw (hx) (hn) hW (by omega)) (fun r5 T7 σ6 gt8 hp => ?_)
  obtain ⟨v11, rfl, rfl, rfl, f9, f10⟩ := hp
  clear gt8
  have f10u := f10
  unfold KDQ at f10u
  show Tn _ _ 5 T σ [(0, .ref a), (1, .int (iI k))] [.int (iI v11)] _
  refine tn_istore_n (L' := [(2, .int (iI v11)), (0, .ref a), (1, .int (iI k))]) dX1_writtenBy_5 rfl (by decide) rfl ?_
  refine tn_iload_n dX1_writtenBy_6 rfl 0 rfl ?_
  refine tn_callSN (M := m_X1_writtenBy) (pc := 7) (ix := 100) (M' := m_X11_isPure) (As := [.int (iI v11)]) (rest := []) dX1_writtenBy_7 ok_X11_isPure stt_X11_isPure nl1_100 np_X11_isPure rfl (Nat.le_of_ble_eq_true rfl) (Nat.le_of_ble_eq_true rfl) rfl (k_X11_isPure_x (d) (T := T) (σ := σ) (k := v11) (by omega) hw ) (fun r12 T14 σ13 gt15 hp => ?_)
  obtain ⟨v18, rfl, rfl, rfl, f16, f17⟩ := hp
  clear gt15
  show Tn _ _ 10 T σ [(2, .int (iI v11)), (0, .ref a), (1, .int (iI k))] [.int (iI v18)] _
  refine tn_if_ne (tgt := 19) dX1_writtenBy_10 (by decide) ⟨by omega, by omega⟩ (fun h19 => ?_) (fun h19 => ?_)
  · refine tn_aload_n dX1_writtenBy_19 rfl 1 rfl ?_
    refine tn_iload_n dX1_writtenBy_20 rfl 2 rfl ?_
    refine tn_iconst dX1_writtenBy_21 ?_
    refine tn_callV (M := m_X1_writtenBy) (pc := 22) (ix := 86) (ci := 1) (M' := m_X1_get) (As := [.int (iI k), .int (iI 1)]) (rest := []) dX1_writtenBy_22 ok_X1_get im_X1_get se_X1_get ml1_86 np_X1_get rfl rfl ha rfl (Nat.le_of_ble_eq_true rfl) (Nat.le_of_ble_eq_true rfl) rfl (k_X1_get_x (d) (T := T) (σ := σ) (a := a) (k := k) (c := 1) (x := x) (n := n) (W := W) ha (by omega) (by decide) hw (hx) (hn) hW (by omega) (by omega)) (fun r20 T22 σ21 gt23 hp => ?_)
    obtain ⟨v26, rfl, rfl, rfl, f24, f25⟩ := hp
    clear gt23
    show Tn _ _ 25 T σ [(2, .int (iI v11)), (0, .ref a), (1, .int (iI k))] [.int (iI v26)] _
    refine tn_goto (tgt := 29) dX1_writtenBy_25 (by decide) ?_
    exact tn_iret rfl dX1_writtenBy_29 ⟨_, rfl, rfl, rfl, by omega, by unfold WBQ; omega⟩
  · refine tn_iload_n dX1_writtenBy_13 rfl 0 rfl ?_
    refine tn_bipush dX1_writtenBy_14 (by decide) ?_
    refine tn_icmp_ne (tgt := 28) dX1_writtenBy_16 (by decide) ⟨by omega, by omega⟩ ⟨by decide, by decide⟩ (fun h27 => ?_) (fun h27 => ?_)
    · refine tn_iconst dX1_writtenBy_28 ?_
      exact tn_iret rfl dX1_writtenBy_29 ⟨_, rfl, rfl, rfl, by omega, by unfold WBQ; omega⟩
    · refine tn_aload_n dX1_writtenBy_19 rfl 1 rfl ?_
      refine tn_iload_n dX1_writtenBy_20 rfl 2 rfl ?_
      refine tn_iconst dX1_writtenBy_21 ?_
      refine tn_callV (M := m_X1_writtenBy) (pc := 22) (ix := 86) (ci := 1) (M' := m_X1_get) (As := [.int (iI k), .int (iI 1)]) (rest := []) dX1_writtenBy_22 ok_X1_get im_X1_get se_X1_get ml1_86 np_X1_get rfl rfl ha rfl (Nat.le_of_ble_eq_true rfl) (Nat.le_of_ble_eq_true rfl) rfl (k_X1_get_x (d) (T := T) (σ := σ) (a := a) (k := k) (c := 1) (x := x) (n := n) (W := W) ha (by omega) (by decide) hw (hx) (hn) hW (by omega) (by omega)) (fun r28 T30 σ29 gt31 hp => ?_)
      obtain ⟨v34, rfl, rfl, rfl, f32, f33⟩ := hp
      clear gt31
      show Tn _ _ 25 T σ [(2, .int (iI v11)), (0, .ref a), (1, .int (iI k))] [.int (iI v34)] _
      refine tn_goto (tgt := 29) dX1_writtenBy_25 (by decide) ?_
      exact tn_iret rfl dX1_writtenBy_29 ⟨_, rfl, rfl, rfl, by omega, by unfold WBQ; omega⟩
end
section
set_option maxHeartbeats 1000000 in
set_option maxRecDepth 20000 in
theorem k_X1_fallsOn_x (d : Nat) {T : CT} {σ : MS} {a : Nat} {k : Int} {x : Nat} {n : Int} {W : Int → It} (ha : OB T a 1) (h_k : -2147483648 ≤ k ∧ k ≤ 2147483647) (hw : WT T σ) (hx : σ.2.1 5 a = (x : Int)) (hn : σ.2.1 6 a = n) (hW : cW σ x n = W) (hN : n ≤ 200) : Tn (d + 2) m_X1_fallsOn 0 T σ [(0, .ref a), (1, .int (iI k))] [] (fun ro T2 σ2 => ∃ v : Int, ro = some (.int (iI v)) ∧ T = T2 ∧ σ = σ2 ∧ (v = 0 ∨ v = 1) ∧ (FLQ W n k v)) := by
  refine tn_aload_n dX1_fallsOn_0 rfl 0 rfl ?_
  refine tn_iload_n dX1_fallsOn_1 rfl 1 rfl ?_
  obtain ⟨hl4, hk3a, hk3b⟩ := cel_of (wf_5 hw ha) hx
  have hk3i : IA T x := by unfold IA; omega
  have hk3c : CELL T a x := ⟨hk3a, hk3b⟩
  clear hk3a hk3b
  refine tn_callV (M := m_X1_fallsOn) (pc := 2) (ix := 97) (ci := 1) (M' := m_X1_kindAt) (As := [.int (iI k)]) (rest := []) dX1_fallsOn_2 ok_X1_kindAt im_X1_kindAt se_X1_kindAt ml1_97 np_X1_kindAt rfl rfl ha rfl (Nat.le_of_ble_eq_true rfl) (Nat.le_of_ble_eq_true rfl) rfl (k_X1_kindAt_x (d) (T := T) (σ := σ) (a := a) (k := k) (x := x) (n := n) (W := W) ha (by omega) hw (hx) (hn) hW (by omega)) (fun r5 T7 σ6 gt8 hp => ?_)
  obtain ⟨v11, rfl, rfl, rfl, f9, f10⟩ := hp
  clear gt8
  have f10u := f10
  unfold KDQ at f10u
  show Tn _ _ 5 T σ [(0, .ref a), (1, .int (iI k))] [.int (iI v11)] _
  refine tn_istore_n (L' := [(2, .int (iI v11)), (0, .ref a), (1, .int (iI k))]) dX1_fallsOn_5 rfl (by decide) rfl ?_
  refine tn_iload_n dX1_fallsOn_6 rfl 0 rfl ?_
  refine tn_bipush dX1_fallsOn_7 (by decide) ?_
  refine tn_icmp_eq (tgt := 22) dX1_fallsOn_9 (by decide) ⟨by omega, by omega⟩ ⟨by decide, by decide⟩ (fun h12 => ?_) (fun h12 => ?_)
  · refine tn_iconst dX1_fallsOn_22 ?_
    exact tn_zret (v := 0) rfl (by decide) dX1_fallsOn_23 ⟨_, rfl, rfl, rfl, by omega, by unfold FLQ; omega⟩
  · refine tn_iload_n dX1_fallsOn_12 rfl 0 rfl ?_
    refine tn_bipush dX1_fallsOn_13 (by decide) ?_
    refine tn_icmp_eq (tgt := 22) dX1_fallsOn_15 (by decide) ⟨by omega, by omega⟩ ⟨by decide, by decide⟩ (fun h13 => ?_) (fun h13 => ?_)
    · refine tn_iconst dX1_fallsOn_22 ?_
      exact tn_zret (v := 0) rfl (by decide) dX1_fallsOn_23 ⟨_, rfl, rfl, rfl, by omega, by unfold FLQ; omega⟩
    · refine tn_iconst dX1_fallsOn_18 ?_
      refine tn_goto (tgt := 23) dX1_fallsOn_19 (by decide) ?_
      exact tn_zret (v := 1) rfl (by decide) dX1_fallsOn_23 ⟨_, rfl, rfl, rfl, by omega, by unfold FLQ; omega⟩
end
section
set_option maxHeartbeats 1000000 in
set_option maxRecDepth 20000 in
theorem k_X1_targetOf_x (d : Nat) {T : CT} {σ : MS} {a : Nat} {k : Int} {x : Nat} {n : Int} {W : Int → It} (ha : OB T a 1) (h_k : -2147483648 ≤ k ∧ k ≤ 2147483647) (hw : WT T σ) (hx : σ.2.1 5 a = (x : Int)) (hn : σ.2.1 6 a = n) (hW : cW σ x n = W) (hN : n ≤ 200) : Tn (d + 2) m_X1_targetOf 0 T σ [(0, .ref a), (1, .int (iI k))] [] (fun ro T2 σ2 => ∃ v : Int, ro = some (.int (iI v)) ∧ T = T2 ∧ σ = σ2 ∧ (-2147483648 ≤ v ∧ v ≤ 2147483647) ∧ (TGQ W n k v)) := by
  refine tn_aload_n dX1_targetOf_0 rfl 0 rfl ?_
  refine tn_iload_n dX1_targetOf_1 rfl 1 rfl ?_
  obtain ⟨hl4, hk3a, hk3b⟩ := cel_of (wf_5 hw ha) hx
  have hk3i : IA T x := by unfold IA; omega
  have hk3c : CELL T a x := ⟨hk3a, hk3b⟩
  clear hk3a hk3b
  refine tn_callV (M := m_X1_targetOf) (pc := 2) (ix := 97) (ci := 1) (M' := m_X1_kindAt) (As := [.int (iI k)]) (rest := []) dX1_targetOf_2 ok_X1_kindAt im_X1_kindAt se_X1_kindAt ml1_97 np_X1_kindAt rfl rfl ha rfl (Nat.le_of_ble_eq_true rfl) (Nat.le_of_ble_eq_true rfl) rfl (k_X1_kindAt_x (d) (T := T) (σ := σ) (a := a) (k := k) (x := x) (n := n) (W := W) ha (by omega) hw (hx) (hn) hW (by omega)) (fun r5 T7 σ6 gt8 hp => ?_)
  obtain ⟨v11, rfl, rfl, rfl, f9, f10⟩ := hp
  clear gt8
  have f10u := f10
  unfold KDQ at f10u
  show Tn _ _ 5 T σ [(0, .ref a), (1, .int (iI k))] [.int (iI v11)] _
  refine tn_istore_n (L' := [(2, .int (iI v11)), (0, .ref a), (1, .int (iI k))]) dX1_targetOf_5 rfl (by decide) rfl ?_
  refine tn_iload_n dX1_targetOf_6 rfl 0 rfl ?_
  refine tn_bipush dX1_targetOf_7 (by decide) ?_
  refine tn_icmp_eq (tgt := 18) dX1_targetOf_9 (by decide) ⟨by omega, by omega⟩ ⟨by decide, by decide⟩ (fun h12 => ?_) (fun h12 => ?_)
  · refine tn_aload_n dX1_targetOf_18 rfl 1 rfl ?_
    refine tn_iload_n dX1_targetOf_19 rfl 2 rfl ?_
    refine tn_bipush dX1_targetOf_20 (by decide) ?_
    refine tn_callV (M := m_X1_targetOf) (pc := 22) (ix := 86) (ci := 1) (M' := m_X1_get) (As := [.int (iI k), .int (iI 12)]) (rest := []) dX1_targetOf_22 ok_X1_get im_X1_get se_X1_get ml1_86 np_X1_get rfl rfl ha rfl (Nat.le_of_ble_eq_true rfl) (Nat.le_of_ble_eq_true rfl) rfl (k_X1_get_x (d) (T := T) (σ := σ) (a := a) (k := k) (c := 12) (x := x) (n := n) (W := W) ha (by omega) (by decide) hw (hx) (hn) hW (by omega) (by omega)) (fun r13 T15 σ14 gt16 hp => ?_)
    obtain ⟨v19, rfl, rfl, rfl, f17, f18⟩ := hp
    clear gt16
    show Tn _ _ 25 T σ [(2, .int (iI v11)), (0, .ref a), (1, .int (iI k))] [.int (iI v19)] _
    refine tn_goto (tgt := 29) dX1_targetOf_25 (by decide) ?_
    exact tn_iret rfl dX1_targetOf_29 ⟨_, rfl, rfl, rfl, by omega, by unfold TGQ; omega⟩
  · refine tn_iload_n dX1_targetOf_12 rfl 0 rfl ?_
    refine tn_bipush dX1_targetOf_13 (by decide) ?_
    refine tn_icmp_ne (tgt := 28) dX1_targetOf_15 (by decide) ⟨by omega, by omega⟩ ⟨by decide, by decide⟩ (fun h20 => ?_) (fun h20 => ?_)
    · refine tn_iconst dX1_targetOf_28 ?_
      exact tn_iret rfl dX1_targetOf_29 ⟨_, rfl, rfl, rfl, by omega, by unfold TGQ; omega⟩
    · refine tn_aload_n dX1_targetOf_18 rfl 1 rfl ?_
      refine tn_iload_n dX1_targetOf_19 rfl 2 rfl ?_
      refine tn_bipush dX1_targetOf_20 (by decide) ?_
      refine tn_callV (M := m_X1_targetOf) (pc := 22) (ix := 86) (ci := 1) (M' := m_X1_get) (As := [.int (iI k), .int (iI 12)]) (rest := []) dX1_targetOf_22 ok_X1_get im_X1_get se_X1_get ml1_86 np_X1_get rfl rfl ha rfl (Nat.le_of_ble_eq_true rfl) (Nat.le_of_ble_eq_true rfl) rfl (k_X1_get_x (d) (T := T) (σ := σ) (a := a) (k := k) (c := 12) (x := x) (n := n) (W := W) ha (by omega) (by decide) hw (hx) (hn) hW (by omega) (by omega)) (fun r21 T23 σ22 gt24 hp => ?_)
      obtain ⟨v27, rfl, rfl, rfl, f25, f26⟩ := hp
      clear gt24
      show Tn _ _ 25 T σ [(2, .int (iI v11)), (0, .ref a), (1, .int (iI k))] [.int (iI v27)] _
      refine tn_goto (tgt := 29) dX1_targetOf_25 (by decide) ?_
      exact tn_iret rfl dX1_targetOf_29 ⟨_, rfl, rfl, rfl, by omega, by unfold TGQ; omega⟩
end
section
set_option maxHeartbeats 1000000 in
set_option maxRecDepth 20000 in
theorem k_X1_leansOn_x (d : Nat) {T : CT} {σ : MS} {a : Nat} {k : Int} {r : Int} {x : Nat} {n : Int} {W : Int → It} (ha : OB T a 1) (h_k : -2147483648 ≤ k ∧ k ≤ 2147483647) (h_r : -2147483648 ≤ r ∧ r ≤ 2147483647) (hw : WT T σ) (hx : σ.2.1 5 a = (x : Int)) (hn : σ.2.1 6 a = n) (hW : cW σ x n = W) (hN : n ≤ 200) : Tn (d + 2) m_X1_leansOn 0 T σ [(0, .ref a), (1, .int (iI k)), (2, .int (iI r))] [] (fun ro T2 σ2 => ∃ v : Int, ro = some (.int (iI v)) ∧ T = T2 ∧ σ = σ2 ∧ (v = 0 ∨ v = 1) ∧ (LNQ W n k r v)) := by
  refine tn_aload_n dX1_leansOn_0 rfl 0 rfl ?_
  refine tn_iload_n dX1_leansOn_1 rfl 1 rfl ?_
  obtain ⟨hl4, hk3a, hk3b⟩ := cel_of (wf_5 hw ha) hx
  have hk3i : IA T x := by unfold IA; omega
  have hk3c : CELL T a x := ⟨hk3a, hk3b⟩
  clear hk3a hk3b
  refine tn_callV (M := m_X1_leansOn) (pc := 2) (ix := 97) (ci := 1) (M' := m_X1_kindAt) (As := [.int (iI k)]) (rest := []) dX1_leansOn_2 ok_X1_kindAt im_X1_kindAt se_X1_kindAt ml1_97 np_X1_kindAt rfl rfl ha rfl (Nat.le_of_ble_eq_true rfl) (Nat.le_of_ble_eq_true rfl) rfl (k_X1_kindAt_x (d) (T := T) (σ := σ) (a := a) (k := k) (x := x) (n := n) (W := W) ha (by omega) hw (hx) (hn) hW (by omega)) (fun r5 T7 σ6 gt8 hp => ?_)
  obtain ⟨v11, rfl, rfl, rfl, f9, f10⟩ := hp
  clear gt8
  have f10u := f10
  unfold KDQ at f10u
  show Tn _ _ 5 T σ [(0, .ref a), (1, .int (iI k)), (2, .int (iI r))] [.int (iI v11)] _
  refine tn_bipush dX1_leansOn_5 (by decide) ?_
  refine tn_icmp_eq (tgt := 12) dX1_leansOn_7 (by decide) ⟨by omega, by omega⟩ ⟨by decide, by decide⟩ (fun h12 => ?_) (fun h12 => ?_)
  · refine tn_aload_n dX1_leansOn_12 rfl 0 rfl ?_
    refine tn_iload_n dX1_leansOn_13 rfl 1 rfl ?_
    refine tn_bipush dX1_leansOn_14 (by decide) ?_
    refine tn_callV (M := m_X1_leansOn) (pc := 16) (ix := 86) (ci := 1) (M' := m_X1_get) (As := [.int (iI k), .int (iI 11)]) (rest := []) dX1_leansOn_16 ok_X1_get im_X1_get se_X1_get ml1_86 np_X1_get rfl rfl ha rfl (Nat.le_of_ble_eq_true rfl) (Nat.le_of_ble_eq_true rfl) rfl (k_X1_get_x (d) (T := T) (σ := σ) (a := a) (k := k) (c := 11) (x := x) (n := n) (W := W) ha (by omega) (by decide) hw (hx) (hn) hW (by omega) (by omega)) (fun r13 T15 σ14 gt16 hp => ?_)
    obtain ⟨v19, rfl, rfl, rfl, f17, f18⟩ := hp
    clear gt16
    show Tn _ _ 19 T σ [(0, .ref a), (1, .int (iI k)), (2, .int (iI r))] [.int (iI v19)] _
    refine tn_istore_n (L' := [(3, .int (iI v19)), (0, .ref a), (1, .int (iI k)), (2, .int (iI r))]) dX1_leansOn_19 rfl (by decide) rfl ?_
    refine tn_iload_n dX1_leansOn_20 rfl 0 rfl ?_
    refine tn_iconst dX1_leansOn_21 ?_
    refine tn_icmp_ne (tgt := 41) dX1_leansOn_22 (by decide) ⟨by omega, by omega⟩ ⟨by decide, by decide⟩ (fun h20 => ?_) (fun h20 => ?_)
    · refine tn_aload_n dX1_leansOn_41 rfl 1 rfl ?_
      refine tn_iload_n dX1_leansOn_42 rfl 2 rfl ?_
      refine tn_iconst dX1_leansOn_43 ?_
      refine tn_callV (M := m_X1_leansOn) (pc := 44) (ix := 86) (ci := 1) (M' := m_X1_get) (As := [.int (iI k), .int (iI 3)]) (rest := []) dX1_leansOn_44 ok_X1_get im_X1_get se_X1_get ml1_86 np_X1_get rfl rfl ha rfl (Nat.le_of_ble_eq_true rfl) (Nat.le_of_ble_eq_true rfl) rfl (k_X1_get_x (d) (T := T) (σ := σ) (a := a) (k := k) (c := 3) (x := x) (n := n) (W := W) ha (by omega) (by decide) hw (hx) (hn) hW (by omega) (by omega)) (fun r21 T23 σ22 gt24 hp => ?_)
      obtain ⟨v27, rfl, rfl, rfl, f25, f26⟩ := hp
      clear gt24
      show Tn _ _ 47 T σ [(3, .int (iI v19)), (0, .ref a), (1, .int (iI k)), (2, .int (iI r))] [.int (iI v27)] _
      refine tn_iconst dX1_leansOn_47 ?_
      refine tn_icmp_ne (tgt := 61) dX1_leansOn_48 (by decide) ⟨by omega, by omega⟩ ⟨by decide, by decide⟩ (fun h28 => ?_) (fun h28 => ?_)
      · refine tn_aload_n dX1_leansOn_61 rfl 1 rfl ?_
        refine tn_iload_n dX1_leansOn_62 rfl 2 rfl ?_
        refine tn_iconst dX1_leansOn_63 ?_
        refine tn_callV (M := m_X1_leansOn) (pc := 64) (ix := 86) (ci := 1) (M' := m_X1_get) (As := [.int (iI k), .int (iI 5)]) (rest := []) dX1_leansOn_64 ok_X1_get im_X1_get se_X1_get ml1_86 np_X1_get rfl rfl ha rfl (Nat.le_of_ble_eq_true rfl) (Nat.le_of_ble_eq_true rfl) rfl (k_X1_get_x (d) (T := T) (σ := σ) (a := a) (k := k) (c := 5) (x := x) (n := n) (W := W) ha (by omega) (by decide) hw (hx) (hn) hW (by omega) (by omega)) (fun r29 T31 σ30 gt32 hp => ?_)
        obtain ⟨v35, rfl, rfl, rfl, f33, f34⟩ := hp
        clear gt32
        show Tn _ _ 67 T σ [(3, .int (iI v19)), (0, .ref a), (1, .int (iI k)), (2, .int (iI r))] [.int (iI v35)] _
        refine tn_iconst dX1_leansOn_67 ?_
        refine tn_icmp_ne (tgt := 86) dX1_leansOn_68 (by decide) ⟨by omega, by omega⟩ ⟨by decide, by decide⟩ (fun h36 => ?_) (fun h36 => ?_)
        · refine tn_iconst dX1_leansOn_86 ?_
          exact tn_zret (v := 0) rfl (by decide) dX1_leansOn_87 ⟨_, rfl, rfl, rfl, by omega, by unfold LNQ lnW; omega⟩
        · refine tn_aload_n dX1_leansOn_71 rfl 1 rfl ?_
          refine tn_iload_n dX1_leansOn_72 rfl 2 rfl ?_
          refine tn_bipush dX1_leansOn_73 (by decide) ?_
          refine tn_callV (M := m_X1_leansOn) (pc := 75) (ix := 86) (ci := 1) (M' := m_X1_get) (As := [.int (iI k), .int (iI 6)]) (rest := []) dX1_leansOn_75 ok_X1_get im_X1_get se_X1_get ml1_86 np_X1_get rfl rfl ha rfl (Nat.le_of_ble_eq_true rfl) (Nat.le_of_ble_eq_true rfl) rfl (k_X1_get_x (d) (T := T) (σ := σ) (a := a) (k := k) (c := 6) (x := x) (n := n) (W := W) ha (by omega) (by decide) hw (hx) (hn) hW (by omega) (by omega)) (fun r37 T39 σ38 gt40 hp => ?_)
          obtain ⟨v43, rfl, rfl, rfl, f41, f42⟩ := hp
          clear gt40
          show Tn _ _ 78 T σ [(3, .int (iI v19)), (0, .ref a), (1, .int (iI k)), (2, .int (iI r))] [.int (iI v43)] _
          refine tn_iload_n dX1_leansOn_78 rfl 3 rfl ?_
          refine tn_icmp_ne (tgt := 86) dX1_leansOn_79 (by decide) ⟨by omega, by omega⟩ ⟨by omega, by omega⟩ (fun h44 => ?_) (fun h44 => ?_)
          · refine tn_iconst dX1_leansOn_86 ?_
            exact tn_zret (v := 0) rfl (by decide) dX1_leansOn_87 ⟨_, rfl, rfl, rfl, by omega, by unfold LNQ lnW; omega⟩
          · refine tn_iconst dX1_leansOn_82 ?_
            refine tn_goto (tgt := 87) dX1_leansOn_83 (by decide) ?_
            exact tn_zret (v := 1) rfl (by decide) dX1_leansOn_87 ⟨_, rfl, rfl, rfl, by omega, by unfold LNQ lnW; omega⟩
      · refine tn_aload_n dX1_leansOn_51 rfl 1 rfl ?_
        refine tn_iload_n dX1_leansOn_52 rfl 2 rfl ?_
        refine tn_iconst dX1_leansOn_53 ?_
        refine tn_callV (M := m_X1_leansOn) (pc := 54) (ix := 86) (ci := 1) (M' := m_X1_get) (As := [.int (iI k), .int (iI 4)]) (rest := []) dX1_leansOn_54 ok_X1_get im_X1_get se_X1_get ml1_86 np_X1_get rfl rfl ha rfl (Nat.le_of_ble_eq_true rfl) (Nat.le_of_ble_eq_true rfl) rfl (k_X1_get_x (d) (T := T) (σ := σ) (a := a) (k := k) (c := 4) (x := x) (n := n) (W := W) ha (by omega) (by decide) hw (hx) (hn) hW (by omega) (by omega)) (fun r45 T47 σ46 gt48 hp => ?_)
        obtain ⟨v51, rfl, rfl, rfl, f49, f50⟩ := hp
        clear gt48
        show Tn _ _ 57 T σ [(3, .int (iI v19)), (0, .ref a), (1, .int (iI k)), (2, .int (iI r))] [.int (iI v51)] _
        refine tn_iload_n dX1_leansOn_57 rfl 3 rfl ?_
        refine tn_icmp_eq (tgt := 82) dX1_leansOn_58 (by decide) ⟨by omega, by omega⟩ ⟨by omega, by omega⟩ (fun h52 => ?_) (fun h52 => ?_)
        · refine tn_iconst dX1_leansOn_82 ?_
          refine tn_goto (tgt := 87) dX1_leansOn_83 (by decide) ?_
          exact tn_zret (v := 1) rfl (by decide) dX1_leansOn_87 ⟨_, rfl, rfl, rfl, by omega, by unfold LNQ lnW; omega⟩
        · refine tn_aload_n dX1_leansOn_61 rfl 1 rfl ?_
          refine tn_iload_n dX1_leansOn_62 rfl 2 rfl ?_
          refine tn_iconst dX1_leansOn_63 ?_
          refine tn_callV (M := m_X1_leansOn) (pc := 64) (ix := 86) (ci := 1) (M' := m_X1_get) (As := [.int (iI k), .int (iI 5)]) (rest := []) dX1_leansOn_64 ok_X1_get im_X1_get se_X1_get ml1_86 np_X1_get rfl rfl ha rfl (Nat.le_of_ble_eq_true rfl) (Nat.le_of_ble_eq_true rfl) rfl (k_X1_get_x (d) (T := T) (σ := σ) (a := a) (k := k) (c := 5) (x := x) (n := n) (W := W) ha (by omega) (by decide) hw (hx) (hn) hW (by omega) (by omega)) (fun r53 T55 σ54 gt56 hp => ?_)
          obtain ⟨v59, rfl, rfl, rfl, f57, f58⟩ := hp
          clear gt56
          show Tn _ _ 67 T σ [(3, .int (iI v19)), (0, .ref a), (1, .int (iI k)), (2, .int (iI r))] [.int (iI v59)] _
          refine tn_iconst dX1_leansOn_67 ?_
          refine tn_icmp_ne (tgt := 86) dX1_leansOn_68 (by decide) ⟨by omega, by omega⟩ ⟨by decide, by decide⟩ (fun h60 => ?_) (fun h60 => ?_)
          · refine tn_iconst dX1_leansOn_86 ?_
            exact tn_zret (v := 0) rfl (by decide) dX1_leansOn_87 ⟨_, rfl, rfl, rfl, by omega, by unfold LNQ lnW; omega⟩
          · refine tn_aload_n dX1_leansOn_71 rfl 1 rfl ?_
            refine tn_iload_n dX1_leansOn_72 rfl 2 rfl ?_
            refine tn_bipush dX1_leansOn_73 (by decide) ?_
            refine tn_callV (M := m_X1_leansOn) (pc := 75) (ix := 86) (ci := 1) (M' := m_X1_get) (As := [.int (iI k), .int (iI 6)]) (rest := []) dX1_leansOn_75 ok_X1_get im_X1_get se_X1_get ml1_86 np_X1_get rfl rfl ha rfl (Nat.le_of_ble_eq_true rfl) (Nat.le_of_ble_eq_true rfl) rfl (k_X1_get_x (d) (T := T) (σ := σ) (a := a) (k := k) (c := 6) (x := x) (n := n) (W := W) ha (by omega) (by decide) hw (hx) (hn) hW (by omega) (by omega)) (fun r61 T63 σ62 gt64 hp => ?_)
            obtain ⟨v67, rfl, rfl, rfl, f65, f66⟩ := hp
            clear gt64
            show Tn _ _ 78 T σ [(3, .int (iI v19)), (0, .ref a), (1, .int (iI k)), (2, .int (iI r))] [.int (iI v67)] _
            refine tn_iload_n dX1_leansOn_78 rfl 3 rfl ?_
            refine tn_icmp_ne (tgt := 86) dX1_leansOn_79 (by decide) ⟨by omega, by omega⟩ ⟨by omega, by omega⟩ (fun h68 => ?_) (fun h68 => ?_)
            · refine tn_iconst dX1_leansOn_86 ?_
              exact tn_zret (v := 0) rfl (by decide) dX1_leansOn_87 ⟨_, rfl, rfl, rfl, by omega, by unfold LNQ lnW; omega⟩
            · refine tn_iconst dX1_leansOn_82 ?_
              refine tn_goto (tgt := 87) dX1_leansOn_83 (by decide) ?_
              exact tn_zret (v := 1) rfl (by decide) dX1_leansOn_87 ⟨_, rfl, rfl, rfl, by omega, by unfold LNQ lnW; omega⟩
    · refine tn_aload_n dX1_leansOn_25 rfl 1 rfl ?_
      refine tn_iload_n dX1_leansOn_26 rfl 2 rfl ?_
      refine tn_iconst dX1_leansOn_27 ?_
      refine tn_callV (M := m_X1_leansOn) (pc := 28) (ix := 86) (ci := 1) (M' := m_X1_get) (As := [.int (iI k), .int (iI 4)]) (rest := []) dX1_leansOn_28 ok_X1_get im_X1_get se_X1_get ml1_86 np_X1_get rfl rfl ha rfl (Nat.le_of_ble_eq_true rfl) (Nat.le_of_ble_eq_true rfl) rfl (k_X1_get_x (d) (T := T) (σ := σ) (a := a) (k := k) (c := 4) (x := x) (n := n) (W := W) ha (by omega) (by decide) hw (hx) (hn) hW (by omega) (by omega)) (fun r69 T71 σ70 gt72 hp => ?_)
      obtain ⟨v75, rfl, rfl, rfl, f73, f74⟩ := hp
      clear gt72
      show Tn _ _ 31 T σ [(3, .int (iI v19)), (0, .ref a), (1, .int (iI k)), (2, .int (iI r))] [.int (iI v75)] _
      refine tn_iload_n dX1_leansOn_31 rfl 3 rfl ?_
      refine tn_icmp_ne (tgt := 39) dX1_leansOn_32 (by decide) ⟨by omega, by omega⟩ ⟨by omega, by omega⟩ (fun h76 => ?_) (fun h76 => ?_)
      · refine tn_iconst dX1_leansOn_39 ?_
        exact tn_zret (v := 0) rfl (by decide) dX1_leansOn_40 ⟨_, rfl, rfl, rfl, by omega, by unfold LNQ lnW; omega⟩
      · refine tn_iconst dX1_leansOn_35 ?_
        refine tn_goto (tgt := 40) dX1_leansOn_36 (by decide) ?_
        exact tn_zret (v := 1) rfl (by decide) dX1_leansOn_40 ⟨_, rfl, rfl, rfl, by omega, by unfold LNQ lnW; omega⟩
  · refine tn_iconst dX1_leansOn_10 ?_
    exact tn_zret (v := 0) rfl (by decide) dX1_leansOn_11 ⟨_, rfl, rfl, rfl, by omega, by unfold LNQ lnW; omega⟩
end
section
set_option maxHeartbeats 1000000 in
set_option maxRecDepth 20000 in
theorem k_X1_sameOperands_x (d : Nat) {T : CT} {σ : MS} {a : Nat} {k : Int} {j : Int} {x : Nat} {n : Int} {W : Int → It} (ha : OB T a 1) (h_k : -2147483648 ≤ k ∧ k ≤ 2147483647) (h_j : -2147483648 ≤ j ∧ j ≤ 2147483647) (hw : WT T σ) (hx : σ.2.1 5 a = (x : Int)) (hn : σ.2.1 6 a = n) (hW : cW σ x n = W) (hN : n ≤ 200) : Tn (d + 2) m_X1_sameOperands 0 T σ [(0, .ref a), (1, .int (iI k)), (2, .int (iI j))] [] (fun ro T2 σ2 => ∃ v : Int, ro = some (.int (iI v)) ∧ T = T2 ∧ σ = σ2 ∧ (v = 0 ∨ v = 1) ∧ (SMQ W k j v)) := by
  refine tn_aload_n dX1_sameOperands_0 rfl 0 rfl ?_
  refine tn_iload_n dX1_sameOperands_1 rfl 1 rfl ?_
  refine tn_iconst dX1_sameOperands_2 ?_
  obtain ⟨hl4, hk3a, hk3b⟩ := cel_of (wf_5 hw ha) hx
  have hk3i : IA T x := by unfold IA; omega
  have hk3c : CELL T a x := ⟨hk3a, hk3b⟩
  clear hk3a hk3b
  refine tn_callV (M := m_X1_sameOperands) (pc := 3) (ix := 86) (ci := 1) (M' := m_X1_get) (As := [.int (iI k), .int (iI 3)]) (rest := []) dX1_sameOperands_3 ok_X1_get im_X1_get se_X1_get ml1_86 np_X1_get rfl rfl ha rfl (Nat.le_of_ble_eq_true rfl) (Nat.le_of_ble_eq_true rfl) rfl (k_X1_get_x (d) (T := T) (σ := σ) (a := a) (k := k) (c := 3) (x := x) (n := n) (W := W) ha (by omega) (by decide) hw (hx) (hn) hW (by omega) (by omega)) (fun r5 T7 σ6 gt8 hp => ?_)
  obtain ⟨v11, rfl, rfl, rfl, f9, f10⟩ := hp
  clear gt8
  show Tn _ _ 6 T σ [(0, .ref a), (1, .int (iI k)), (2, .int (iI j))] [.int (iI v11)] _
  refine tn_aload_n dX1_sameOperands_6 rfl 0 rfl ?_
  refine tn_iload_n dX1_sameOperands_7 rfl 2 rfl ?_
  refine tn_iconst dX1_sameOperands_8 ?_
  refine tn_callV (M := m_X1_sameOperands) (pc := 9) (ix := 86) (ci := 1) (M' := m_X1_get) (As := [.int (iI j), .int (iI 3)]) (rest := [.int (iI v11)]) dX1_sameOperands_9 ok_X1_get im_X1_get se_X1_get ml1_86 np_X1_get rfl rfl ha rfl (Nat.le_of_ble_eq_true rfl) (Nat.le_of_ble_eq_true rfl) rfl (k_X1_get_x (d) (T := T) (σ := σ) (a := a) (k := j) (c := 3) (x := x) (n := n) (W := W) ha (by omega) (by decide) hw (hx) (hn) hW (by omega) (by omega)) (fun r12 T14 σ13 gt15 hp => ?_)
  obtain ⟨v18, rfl, rfl, rfl, f16, f17⟩ := hp
  clear gt15
  show Tn _ _ 12 T σ [(0, .ref a), (1, .int (iI k)), (2, .int (iI j))] [.int (iI v18), .int (iI v11)] _
  refine tn_icmp_ne (tgt := 66) dX1_sameOperands_12 (by decide) ⟨by omega, by omega⟩ ⟨by omega, by omega⟩ (fun h19 => ?_) (fun h19 => ?_)
  · refine tn_iconst dX1_sameOperands_66 ?_
    exact tn_zret (v := 0) rfl (by decide) dX1_sameOperands_67 ⟨_, rfl, rfl, rfl, by omega, by unfold SMQ; omega⟩
  · refine tn_aload_n dX1_sameOperands_15 rfl 0 rfl ?_
    refine tn_iload_n dX1_sameOperands_16 rfl 1 rfl ?_
    refine tn_iconst dX1_sameOperands_17 ?_
    refine tn_callV (M := m_X1_sameOperands) (pc := 18) (ix := 86) (ci := 1) (M' := m_X1_get) (As := [.int (iI k), .int (iI 4)]) (rest := []) dX1_sameOperands_18 ok_X1_get im_X1_get se_X1_get ml1_86 np_X1_get rfl rfl ha rfl (Nat.le_of_ble_eq_true rfl) (Nat.le_of_ble_eq_true rfl) rfl (k_X1_get_x (d) (T := T) (σ := σ) (a := a) (k := k) (c := 4) (x := x) (n := n) (W := W) ha (by omega) (by decide) hw (hx) (hn) hW (by omega) (by omega)) (fun r20 T22 σ21 gt23 hp => ?_)
    obtain ⟨v26, rfl, rfl, rfl, f24, f25⟩ := hp
    clear gt23
    show Tn _ _ 21 T σ [(0, .ref a), (1, .int (iI k)), (2, .int (iI j))] [.int (iI v26)] _
    refine tn_aload_n dX1_sameOperands_21 rfl 0 rfl ?_
    refine tn_iload_n dX1_sameOperands_22 rfl 2 rfl ?_
    refine tn_iconst dX1_sameOperands_23 ?_
    refine tn_callV (M := m_X1_sameOperands) (pc := 24) (ix := 86) (ci := 1) (M' := m_X1_get) (As := [.int (iI j), .int (iI 4)]) (rest := [.int (iI v26)]) dX1_sameOperands_24 ok_X1_get im_X1_get se_X1_get ml1_86 np_X1_get rfl rfl ha rfl (Nat.le_of_ble_eq_true rfl) (Nat.le_of_ble_eq_true rfl) rfl (k_X1_get_x (d) (T := T) (σ := σ) (a := a) (k := j) (c := 4) (x := x) (n := n) (W := W) ha (by omega) (by decide) hw (hx) (hn) hW (by omega) (by omega)) (fun r27 T29 σ28 gt30 hp => ?_)
    obtain ⟨v33, rfl, rfl, rfl, f31, f32⟩ := hp
    clear gt30
    show Tn _ _ 27 T σ [(0, .ref a), (1, .int (iI k)), (2, .int (iI j))] [.int (iI v33), .int (iI v26)] _
    refine tn_icmp_ne (tgt := 66) dX1_sameOperands_27 (by decide) ⟨by omega, by omega⟩ ⟨by omega, by omega⟩ (fun h34 => ?_) (fun h34 => ?_)
    · refine tn_iconst dX1_sameOperands_66 ?_
      exact tn_zret (v := 0) rfl (by decide) dX1_sameOperands_67 ⟨_, rfl, rfl, rfl, by omega, by unfold SMQ; omega⟩
    · refine tn_aload_n dX1_sameOperands_30 rfl 0 rfl ?_
      refine tn_iload_n dX1_sameOperands_31 rfl 1 rfl ?_
      refine tn_iconst dX1_sameOperands_32 ?_
      refine tn_callV (M := m_X1_sameOperands) (pc := 33) (ix := 86) (ci := 1) (M' := m_X1_get) (As := [.int (iI k), .int (iI 5)]) (rest := []) dX1_sameOperands_33 ok_X1_get im_X1_get se_X1_get ml1_86 np_X1_get rfl rfl ha rfl (Nat.le_of_ble_eq_true rfl) (Nat.le_of_ble_eq_true rfl) rfl (k_X1_get_x (d) (T := T) (σ := σ) (a := a) (k := k) (c := 5) (x := x) (n := n) (W := W) ha (by omega) (by decide) hw (hx) (hn) hW (by omega) (by omega)) (fun r35 T37 σ36 gt38 hp => ?_)
      obtain ⟨v41, rfl, rfl, rfl, f39, f40⟩ := hp
      clear gt38
      show Tn _ _ 36 T σ [(0, .ref a), (1, .int (iI k)), (2, .int (iI j))] [.int (iI v41)] _
      refine tn_aload_n dX1_sameOperands_36 rfl 0 rfl ?_
      refine tn_iload_n dX1_sameOperands_37 rfl 2 rfl ?_
      refine tn_iconst dX1_sameOperands_38 ?_
      refine tn_callV (M := m_X1_sameOperands) (pc := 39) (ix := 86) (ci := 1) (M' := m_X1_get) (As := [.int (iI j), .int (iI 5)]) (rest := [.int (iI v41)]) dX1_sameOperands_39 ok_X1_get im_X1_get se_X1_get ml1_86 np_X1_get rfl rfl ha rfl (Nat.le_of_ble_eq_true rfl) (Nat.le_of_ble_eq_true rfl) rfl (k_X1_get_x (d) (T := T) (σ := σ) (a := a) (k := j) (c := 5) (x := x) (n := n) (W := W) ha (by omega) (by decide) hw (hx) (hn) hW (by omega) (by omega)) (fun r42 T44 σ43 gt45 hp => ?_)
      obtain ⟨v48, rfl, rfl, rfl, f46, f47⟩ := hp
      clear gt45
      show Tn _ _ 42 T σ [(0, .ref a), (1, .int (iI k)), (2, .int (iI j))] [.int (iI v48), .int (iI v41)] _
      refine tn_icmp_ne (tgt := 66) dX1_sameOperands_42 (by decide) ⟨by omega, by omega⟩ ⟨by omega, by omega⟩ (fun h49 => ?_) (fun h49 => ?_)
      · refine tn_iconst dX1_sameOperands_66 ?_
        exact tn_zret (v := 0) rfl (by decide) dX1_sameOperands_67 ⟨_, rfl, rfl, rfl, by omega, by unfold SMQ; omega⟩
      · refine tn_aload_n dX1_sameOperands_45 rfl 0 rfl ?_
        refine tn_iload_n dX1_sameOperands_46 rfl 1 rfl ?_
        refine tn_bipush dX1_sameOperands_47 (by decide) ?_
        refine tn_callV (M := m_X1_sameOperands) (pc := 49) (ix := 86) (ci := 1) (M' := m_X1_get) (As := [.int (iI k), .int (iI 6)]) (rest := []) dX1_sameOperands_49 ok_X1_get im_X1_get se_X1_get ml1_86 np_X1_get rfl rfl ha rfl (Nat.le_of_ble_eq_true rfl) (Nat.le_of_ble_eq_true rfl) rfl (k_X1_get_x (d) (T := T) (σ := σ) (a := a) (k := k) (c := 6) (x := x) (n := n) (W := W) ha (by omega) (by decide) hw (hx) (hn) hW (by omega) (by omega)) (fun r50 T52 σ51 gt53 hp => ?_)
        obtain ⟨v56, rfl, rfl, rfl, f54, f55⟩ := hp
        clear gt53
        show Tn _ _ 52 T σ [(0, .ref a), (1, .int (iI k)), (2, .int (iI j))] [.int (iI v56)] _
        refine tn_aload_n dX1_sameOperands_52 rfl 0 rfl ?_
        refine tn_iload_n dX1_sameOperands_53 rfl 2 rfl ?_
        refine tn_bipush dX1_sameOperands_54 (by decide) ?_
        refine tn_callV (M := m_X1_sameOperands) (pc := 56) (ix := 86) (ci := 1) (M' := m_X1_get) (As := [.int (iI j), .int (iI 6)]) (rest := [.int (iI v56)]) dX1_sameOperands_56 ok_X1_get im_X1_get se_X1_get ml1_86 np_X1_get rfl rfl ha rfl (Nat.le_of_ble_eq_true rfl) (Nat.le_of_ble_eq_true rfl) rfl (k_X1_get_x (d) (T := T) (σ := σ) (a := a) (k := j) (c := 6) (x := x) (n := n) (W := W) ha (by omega) (by decide) hw (hx) (hn) hW (by omega) (by omega)) (fun r57 T59 σ58 gt60 hp => ?_)
        obtain ⟨v63, rfl, rfl, rfl, f61, f62⟩ := hp
        clear gt60
        show Tn _ _ 59 T σ [(0, .ref a), (1, .int (iI k)), (2, .int (iI j))] [.int (iI v63), .int (iI v56)] _
        refine tn_icmp_ne (tgt := 66) dX1_sameOperands_59 (by decide) ⟨by omega, by omega⟩ ⟨by omega, by omega⟩ (fun h64 => ?_) (fun h64 => ?_)
        · refine tn_iconst dX1_sameOperands_66 ?_
          exact tn_zret (v := 0) rfl (by decide) dX1_sameOperands_67 ⟨_, rfl, rfl, rfl, by omega, by unfold SMQ; omega⟩
        · refine tn_iconst dX1_sameOperands_62 ?_
          refine tn_goto (tgt := 67) dX1_sameOperands_63 (by decide) ?_
          exact tn_zret (v := 1) rfl (by decide) dX1_sameOperands_67 ⟨_, rfl, rfl, rfl, by omega, by unfold SMQ; omega⟩
end
section
set_option maxHeartbeats 1000000 in
set_option maxRecDepth 20000 in
theorem k_X1_setWhere_x (d : Nat) {T : CT} {σ : MS} {a : Nat} {k : Int} {y : Int} {z : Int} {x : Nat} {n : Int} {W : Int → It} (ha : OB T a 1) (h_k : -2147483648 ≤ k ∧ k ≤ 2147483647) (h_y : -2147483648 ≤ y ∧ y ≤ 2147483647) (h_z : -2147483648 ≤ z ∧ z ≤ 2147483647) (hw : WT T σ) (hx : σ.2.1 5 a = (x : Int)) (hn : σ.2.1 6 a = n) (hW : cW σ x n = W) (hN : n ≤ 200) (hkr : 0 ≤ k ∧ k < n) : Tn (d + 2) m_X1_setWhere 0 T σ [(0, .ref a), (1, .int (iI k)), (2, .int (iI y)), (3, .int (iI z))] [] (fun ro T2 σ2 => ro = none ∧ T = T2 ∧ WT T2 σ2 ∧ FrC T [] σ σ2 ∧ (CHX [] [x] [] σ σ2) ∧ (cW σ2 x n = uZ W k (swI (W k) y z))) := by
  refine tn_aload_n dX1_setWhere_0 rfl 0 rfl ?_
  refine tn_iload_n dX1_setWhere_1 rfl 1 rfl ?_
  refine tn_bipush dX1_setWhere_2 (by decide) ?_
  refine tn_iload_n dX1_setWhere_4 rfl 2 rfl ?_
  obtain ⟨hl4, hk3a, hk3b⟩ := cel_of (wf_5 hw ha) hx
  have hk3i : IA T x := by unfold IA; omega
  have hk3c : CELL T a x := ⟨hk3a, hk3b⟩
  clear hk3a hk3b
  refine tn_callV (M := m_X1_setWhere) (pc := 5) (ix := 93) (ci := 1) (M' := m_X1_set) (As := [.int (iI k), .int (iI 11), .int (iI y)]) (rest := []) dX1_setWhere_5 ok_X1_set im_X1_set se_X1_set ml1_93 np_X1_set rfl rfl ha rfl (Nat.le_of_ble_eq_true rfl) (Nat.le_of_ble_eq_true rfl) rfl (k_X1_set_x (d) (T := T) (σ := σ) (a := a) (k := k) (c := 11) (y := y) (x := x) (n := n) (W := W) ha (by omega) (by decide) (by omega) hw (hx) (hn) hW (by omega) (by omega) (by omega) (by omega)) (fun r5 T7 σ6 gt8 hp => ?_)
  obtain ⟨rfl, rfl, w12, F13, f9, f10⟩ := hp
  clear gt8
  show Tn _ _ 8 T σ6 [(0, .ref a), (1, .int (iI k)), (2, .int (iI y)), (3, .int (iI z))] [] _
  refine tn_aload_n dX1_setWhere_8 rfl 0 rfl ?_
  refine tn_iload_n dX1_setWhere_9 rfl 1 rfl ?_
  refine tn_iconst dX1_setWhere_10 ?_
  refine tn_iconst dX1_setWhere_11 ?_
  refine tn_callV (M := m_X1_setWhere) (pc := 12) (ix := 93) (ci := 1) (M' := m_X1_set) (As := [.int (iI k), .int (iI 3), .int (iI 0)]) (rest := []) dX1_setWhere_12 ok_X1_set im_X1_set se_X1_set ml1_93 np_X1_set rfl rfl ha rfl (Nat.le_of_ble_eq_true rfl) (Nat.le_of_ble_eq_true rfl) rfl (k_X1_set_x (d) (T := T) (σ := σ6) (a := a) (k := k) (c := 3) (y := 0) (x := x) (n := n) (W := cW σ6 x n) ha (by omega) (by decide) (by decide) w12 (rc_F F13 (Or.inl (by decide)) (by decide) (hx)) (rc_F F13 (Or.inl (by decide)) (by decide) (hn)) rfl (by omega) (by omega) (by omega) (by omega)) (fun r14 T16 σ15 gt17 hp => ?_)
  obtain ⟨rfl, rfl, w21, F22, f18, f19⟩ := hp
  clear gt17
  show Tn _ _ 15 T σ15 [(0, .ref a), (1, .int (iI k)), (2, .int (iI y)), (3, .int (iI z))] [] _
  refine tn_aload_n dX1_setWhere_15 rfl 0 rfl ?_
  refine tn_iload_n dX1_setWhere_16 rfl 1 rfl ?_
  refine tn_iconst dX1_setWhere_17 ?_
  refine tn_iload_n dX1_setWhere_18 rfl 3 rfl ?_
  refine tn_callV (M := m_X1_setWhere) (pc := 19) (ix := 93) (ci := 1) (M' := m_X1_set) (As := [.int (iI k), .int (iI 4), .int (iI z)]) (rest := []) dX1_setWhere_19 ok_X1_set im_X1_set se_X1_set ml1_93 np_X1_set rfl rfl ha rfl (Nat.le_of_ble_eq_true rfl) (Nat.le_of_ble_eq_true rfl) rfl (k_X1_set_x (d) (T := T) (σ := σ15) (a := a) (k := k) (c := 4) (y := z) (x := x) (n := n) (W := cW σ15 x n) ha (by omega) (by decide) (by omega) w21 (rc_F F22 (Or.inl (by decide)) (by decide) (rc_F F13 (Or.inl (by decide)) (by decide) (hx))) (rc_F F22 (Or.inl (by decide)) (by decide) (rc_F F13 (Or.inl (by decide)) (by decide) (hn))) rfl (by omega) (by omega) (by omega) (by omega)) (fun r23 T25 σ24 gt26 hp => ?_)
  obtain ⟨rfl, rfl, w30, F31, f27, f28⟩ := hp
  clear gt26
  show Tn _ _ 22 T σ24 [(0, .ref a), (1, .int (iI k)), (2, .int (iI y)), (3, .int (iI z))] [] _
  refine tn_aload_n dX1_setWhere_22 rfl 0 rfl ?_
  refine tn_iload_n dX1_setWhere_23 rfl 1 rfl ?_
  refine tn_iconst dX1_setWhere_24 ?_
  refine tn_iconst dX1_setWhere_25 ?_
  refine tn_callV (M := m_X1_setWhere) (pc := 26) (ix := 93) (ci := 1) (M' := m_X1_set) (As := [.int (iI k), .int (iI 5), .int (iI 0)]) (rest := []) dX1_setWhere_26 ok_X1_set im_X1_set se_X1_set ml1_93 np_X1_set rfl rfl ha rfl (Nat.le_of_ble_eq_true rfl) (Nat.le_of_ble_eq_true rfl) rfl (k_X1_set_x (d) (T := T) (σ := σ24) (a := a) (k := k) (c := 5) (y := 0) (x := x) (n := n) (W := cW σ24 x n) ha (by omega) (by decide) (by decide) w30 (rc_F F31 (Or.inl (by decide)) (by decide) (rc_F F22 (Or.inl (by decide)) (by decide) (rc_F F13 (Or.inl (by decide)) (by decide) (hx)))) (rc_F F31 (Or.inl (by decide)) (by decide) (rc_F F22 (Or.inl (by decide)) (by decide) (rc_F F13 (Or.inl (by decide)) (by decide) (hn)))) rfl (by omega) (by omega) (by omega) (by omega)) (fun r32 T34 σ33 gt35 hp => ?_)
  obtain ⟨rfl, rfl, w39, F40, f36, f37⟩ := hp
  clear gt35
  show Tn _ _ 29 T σ33 [(0, .ref a), (1, .int (iI k)), (2, .int (iI y)), (3, .int (iI z))] [] _
  refine tn_aload_n dX1_setWhere_29 rfl 0 rfl ?_
  refine tn_iload_n dX1_setWhere_30 rfl 1 rfl ?_
  refine tn_bipush dX1_setWhere_31 (by decide) ?_
  refine tn_iconst dX1_setWhere_33 ?_
  refine tn_callV (M := m_X1_setWhere) (pc := 34) (ix := 93) (ci := 1) (M' := m_X1_set) (As := [.int (iI k), .int (iI 6), .int (iI 0)]) (rest := []) dX1_setWhere_34 ok_X1_set im_X1_set se_X1_set ml1_93 np_X1_set rfl rfl ha rfl (Nat.le_of_ble_eq_true rfl) (Nat.le_of_ble_eq_true rfl) rfl (k_X1_set_x (d) (T := T) (σ := σ33) (a := a) (k := k) (c := 6) (y := 0) (x := x) (n := n) (W := cW σ33 x n) ha (by omega) (by decide) (by decide) w39 (rc_F F40 (Or.inl (by decide)) (by decide) (rc_F F31 (Or.inl (by decide)) (by decide) (rc_F F22 (Or.inl (by decide)) (by decide) (rc_F F13 (Or.inl (by decide)) (by decide) (hx))))) (rc_F F40 (Or.inl (by decide)) (by decide) (rc_F F31 (Or.inl (by decide)) (by decide) (rc_F F22 (Or.inl (by decide)) (by decide) (rc_F F13 (Or.inl (by decide)) (by decide) (hn))))) rfl (by omega) (by omega) (by omega) (by omega)) (fun r41 T43 σ42 gt44 hp => ?_)
  obtain ⟨rfl, rfl, w48, F49, f45, f46⟩ := hp
  clear gt44
  show Tn _ _ 37 T σ42 [(0, .ref a), (1, .int (iI k)), (2, .int (iI y)), (3, .int (iI z))] [] _
  exact tn_vret rfl dX1_setWhere_37 ⟨rfl, rfl, w48, (((((FrC.rfl.trans (FrC.sub F13 (by decide))).trans (FrC.sub F22 (by decide))).trans (FrC.sub F31 (by decide))).trans (FrC.sub F40 (by decide))).trans (FrC.sub F49 (by decide))), (((((CHX.rfl.trans (CHX.sub f9 (by simp) (by simp) (by simp))).trans (CHX.sub f18 (by simp) (by simp) (by simp))).trans (CHX.sub f27 (by simp) (by simp) (by simp))).trans (CHX.sub f36 (by simp) (by simp) (by simp))).trans (CHX.sub f45 (by simp) (by simp) (by simp))), it_5 f10 f19 f28 f37 f46⟩
end
section
set_option maxHeartbeats 1000000 in
set_option maxRecDepth 20000 in
theorem k_X1_becomeCopy_x (d : Nat) {T : CT} {σ : MS} {a : Nat} {k : Int} {y : Int} {z : Int} {x : Nat} {n : Int} {W : Int → It} (ha : OB T a 1) (hta : (T a).1 = 50) (h_k : -2147483648 ≤ k ∧ k ≤ 2147483647) (h_y : -2147483648 ≤ y ∧ y ≤ 2147483647) (h_z : -2147483648 ≤ z ∧ z ≤ 2147483647) (hw : WT T σ) (hx : σ.2.1 5 a = (x : Int)) (hn : σ.2.1 6 a = n) (hW : cW σ x n = W) (hN : n ≤ 200) (hkr : 0 ≤ k ∧ k < n) : Tn (d + 2) m_X1_becomeCopy 0 T σ [(0, .ref a), (1, .int (iI k)), (2, .int (iI y)), (3, .int (iI z))] [] (fun ro T2 σ2 => ro = none ∧ T = T2 ∧ WT T2 σ2 ∧ FrC T [] σ σ2 ∧ (CHX [] [x] [] σ σ2) ∧ (cW σ2 x n = uZ W k (cpyI (W k) y z))) := by
  refine tn_aload_n dX1_becomeCopy_0 rfl 0 rfl ?_
  refine tn_iload_n dX1_becomeCopy_1 rfl 1 rfl ?_
  refine tn_iconst dX1_becomeCopy_2 ?_
  refine tn_iconst dX1_becomeCopy_3 ?_
  obtain ⟨hl4, hk3a, hk3b⟩ := cel_of (wf_5 hw ha) hx
  have hk3 : (T x).1 = 1 := hk3a (by omega)
  clear hk3a hk3b
  have hk3i : IA T x := by unfold IA; omega
  refine tn_callV (M := m_X1_becomeCopy) (pc := 4) (ix := 93) (ci := 1) (M' := m_X1_set) (As := [.int (iI k), .int (iI 0), .int (iI 0)]) (rest := []) dX1_becomeCopy_4 ok_X1_set im_X1_set se_X1_set ml1_93 np_X1_set rfl rfl ha rfl (Nat.le_of_ble_eq_true rfl) (Nat.le_of_ble_eq_true rfl) rfl (k_X1_set_x (d) (T := T) (σ := σ) (a := a) (k := k) (c := 0) (y := 0) (x := x) (n := n) (W := W) ha (by omega) (by decide) (by decide) hw (hx) (hn) hW (by omega) (by omega) (by omega) (by omega)) (fun r5 T7 σ6 gt8 hp => ?_)
  obtain ⟨rfl, rfl, w12, F13, f9, f10⟩ := hp
  clear gt8
  show Tn _ _ 7 T σ6 [(0, .ref a), (1, .int (iI k)), (2, .int (iI y)), (3, .int (iI z))] [] _
  refine tn_aload_n dX1_becomeCopy_7 rfl 0 rfl ?_
  refine tn_iload_n dX1_becomeCopy_8 rfl 1 rfl ?_
  refine tn_iconst dX1_becomeCopy_9 ?_
  refine tn_iload_n dX1_becomeCopy_10 rfl 2 rfl ?_
  refine tn_callV (M := m_X1_becomeCopy) (pc := 11) (ix := 93) (ci := 1) (M' := m_X1_set) (As := [.int (iI k), .int (iI 3), .int (iI y)]) (rest := []) dX1_becomeCopy_11 ok_X1_set im_X1_set se_X1_set ml1_93 np_X1_set rfl rfl ha rfl (Nat.le_of_ble_eq_true rfl) (Nat.le_of_ble_eq_true rfl) rfl (k_X1_set_x (d) (T := T) (σ := σ6) (a := a) (k := k) (c := 3) (y := y) (x := x) (n := n) (W := cW σ6 x n) ha (by omega) (by decide) (by omega) w12 (rc_F F13 (Or.inl (by decide)) (by decide) (hx)) (rc_F F13 (Or.inl (by decide)) (by decide) (hn)) rfl (by omega) (by omega) (by omega) (by omega)) (fun r14 T16 σ15 gt17 hp => ?_)
  obtain ⟨rfl, rfl, w21, F22, f18, f19⟩ := hp
  clear gt17
  show Tn _ _ 14 T σ15 [(0, .ref a), (1, .int (iI k)), (2, .int (iI y)), (3, .int (iI z))] [] _
  refine tn_aload_n dX1_becomeCopy_14 rfl 0 rfl ?_
  refine tn_iload_n dX1_becomeCopy_15 rfl 1 rfl ?_
  refine tn_iconst dX1_becomeCopy_16 ?_
  refine tn_iload_n dX1_becomeCopy_17 rfl 3 rfl ?_
  refine tn_callV (M := m_X1_becomeCopy) (pc := 18) (ix := 93) (ci := 1) (M' := m_X1_set) (As := [.int (iI k), .int (iI 4), .int (iI z)]) (rest := []) dX1_becomeCopy_18 ok_X1_set im_X1_set se_X1_set ml1_93 np_X1_set rfl rfl ha rfl (Nat.le_of_ble_eq_true rfl) (Nat.le_of_ble_eq_true rfl) rfl (k_X1_set_x (d) (T := T) (σ := σ15) (a := a) (k := k) (c := 4) (y := z) (x := x) (n := n) (W := cW σ15 x n) ha (by omega) (by decide) (by omega) w21 (rc_F F22 (Or.inl (by decide)) (by decide) (rc_F F13 (Or.inl (by decide)) (by decide) (hx))) (rc_F F22 (Or.inl (by decide)) (by decide) (rc_F F13 (Or.inl (by decide)) (by decide) (hn))) rfl (by omega) (by omega) (by omega) (by omega)) (fun r23 T25 σ24 gt26 hp => ?_)
  obtain ⟨rfl, rfl, w30, F31, f27, f28⟩ := hp
  clear gt26
  show Tn _ _ 21 T σ24 [(0, .ref a), (1, .int (iI k)), (2, .int (iI y)), (3, .int (iI z))] [] _
  refine tn_aload_n dX1_becomeCopy_21 rfl 0 rfl ?_
  refine tn_iload_n dX1_becomeCopy_22 rfl 1 rfl ?_
  refine tn_iconst dX1_becomeCopy_23 ?_
  refine tn_iconst dX1_becomeCopy_24 ?_
  refine tn_callV (M := m_X1_becomeCopy) (pc := 25) (ix := 93) (ci := 1) (M' := m_X1_set) (As := [.int (iI k), .int (iI 5), .int (iI 0)]) (rest := []) dX1_becomeCopy_25 ok_X1_set im_X1_set se_X1_set ml1_93 np_X1_set rfl rfl ha rfl (Nat.le_of_ble_eq_true rfl) (Nat.le_of_ble_eq_true rfl) rfl (k_X1_set_x (d) (T := T) (σ := σ24) (a := a) (k := k) (c := 5) (y := 0) (x := x) (n := n) (W := cW σ24 x n) ha (by omega) (by decide) (by decide) w30 (rc_F F31 (Or.inl (by decide)) (by decide) (rc_F F22 (Or.inl (by decide)) (by decide) (rc_F F13 (Or.inl (by decide)) (by decide) (hx)))) (rc_F F31 (Or.inl (by decide)) (by decide) (rc_F F22 (Or.inl (by decide)) (by decide) (rc_F F13 (Or.inl (by decide)) (by decide) (hn)))) rfl (by omega) (by omega) (by omega) (by omega)) (fun r32 T34 σ33 gt35 hp => ?_)
  obtain ⟨rfl, rfl, w39, F40, f36, f37⟩ := hp
  clear gt35
  show Tn _ _ 28 T σ33 [(0, .ref a), (1, .int (iI k)), (2, .int (iI y)), (3, .int (iI z))] [] _
  refine tn_aload_n dX1_becomeCopy_28 rfl 0 rfl ?_
  refine tn_iload_n dX1_becomeCopy_29 rfl 1 rfl ?_
  refine tn_bipush dX1_becomeCopy_30 (by decide) ?_
  refine tn_iconst dX1_becomeCopy_32 ?_
  refine tn_callV (M := m_X1_becomeCopy) (pc := 33) (ix := 93) (ci := 1) (M' := m_X1_set) (As := [.int (iI k), .int (iI 6), .int (iI 0)]) (rest := []) dX1_becomeCopy_33 ok_X1_set im_X1_set se_X1_set ml1_93 np_X1_set rfl rfl ha rfl (Nat.le_of_ble_eq_true rfl) (Nat.le_of_ble_eq_true rfl) rfl (k_X1_set_x (d) (T := T) (σ := σ33) (a := a) (k := k) (c := 6) (y := 0) (x := x) (n := n) (W := cW σ33 x n) ha (by omega) (by decide) (by decide) w39 (rc_F F40 (Or.inl (by decide)) (by decide) (rc_F F31 (Or.inl (by decide)) (by decide) (rc_F F22 (Or.inl (by decide)) (by decide) (rc_F F13 (Or.inl (by decide)) (by decide) (hx))))) (rc_F F40 (Or.inl (by decide)) (by decide) (rc_F F31 (Or.inl (by decide)) (by decide) (rc_F F22 (Or.inl (by decide)) (by decide) (rc_F F13 (Or.inl (by decide)) (by decide) (hn))))) rfl (by omega) (by omega) (by omega) (by omega)) (fun r41 T43 σ42 gt44 hp => ?_)
  obtain ⟨rfl, rfl, w48, F49, f45, f46⟩ := hp
  clear gt44
  show Tn _ _ 36 T σ42 [(0, .ref a), (1, .int (iI k)), (2, .int (iI y)), (3, .int (iI z))] [] _
  exact tn_vret rfl dX1_becomeCopy_36 ⟨rfl, rfl, w48, (((((FrC.rfl.trans (FrC.sub F13 (by decide))).trans (FrC.sub F22 (by decide))).trans (FrC.sub F31 (by decide))).trans (FrC.sub F40 (by decide))).trans (FrC.sub F49 (by decide))), (((((CHX.rfl.trans (CHX.sub f9 (by simp) (by simp) (by simp))).trans (CHX.sub f18 (by simp) (by simp) (by simp))).trans (CHX.sub f27 (by simp) (by simp) (by simp))).trans (CHX.sub f36 (by simp) (by simp) (by simp))).trans (CHX.sub f45 (by simp) (by simp) (by simp))), it_5 f10 f19 f28 f37 f46⟩
end
