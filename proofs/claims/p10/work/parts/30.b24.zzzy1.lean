/-! ENTER stands behind a LINE, as CALL does: kept by every pass -/
def EZ (V : Int → It) (n : Int) : Prop := ∀ k, 0 ≤ k → k < n → V k 0 = 14 → ∃ j, lnA V k j
theorem lnA.cg {V W : Int → It} {k j : Int} (h : lnA V k j) (e : ∀ i, 0 ≤ i → i < k → W i 0 = V i 0) : lnA W k j := by
  obtain ⟨h0, h1, h2, h3⟩ := h
  exact ⟨h0, h1, by rw [e j h0 h1]; exact h2, fun i a b => by rw [e i (by omega) b]; exact h3 i a b⟩
theorem EZ.cg {V W : Int → It} {n : Int} (h : EZ V n) (e : ∀ i, 0 ≤ i → i < n → W i 0 = V i 0) : EZ W n := fun k a b c => by
  rw [e k a b] at c
  obtain ⟨j, q⟩ := h k a b c
  exact ⟨j, q.cg (fun i x y => e i x (by omega))⟩
theorem EZ.add {O : Int → It} {m : Int} {x : It} (h : EZ O m) (hx : x 0 = 14 → ∃ j, lnA O m j) : EZ (uZ O m x) (m + 1) := fun k a b e => by
  by_cases z : k = m
  · subst z
    rw [uZ_eq] at e
    obtain ⟨j, q⟩ := hx e
    exact ⟨j, q.cg (fun i c d => by rw [uZ_ne (by omega)])⟩
  · rw [uZ_ne z] at e
    obtain ⟨j, q⟩ := h k a (by omega) e
    exact ⟨j, q.cg (fun i c d => by rw [uZ_ne (by omega)])⟩
theorem ln_line {O : Int → It} {m : Int} {x : It} (m0 : 0 ≤ m) (hx : x 0 = 11) : ∃ j, lnA (uZ O m x) (m + 1) j := ⟨m, m0, by omega, by rw [uZ_eq]; exact hx, fun i a b => by omega⟩
theorem ln_pure {O : Int → It} {m : Int} {x : It} (hx : x 0 ≤ 5) (h : ∃ j, lnA O m j) : ∃ j, lnA (uZ O m x) (m + 1) j := by
  obtain ⟨j, h0, h1, h2, h3⟩ := h
  refine ⟨j, h0, by omega, by rw [uZ_ne (by omega)]; exact h2, fun i a b => ?_⟩
  by_cases z : i = m
  · rw [z, uZ_eq]; exact hx
  · rw [uZ_ne z]; exact h3 i a (by omega)
/-- what stands ahead of n: the item there, and on -/
theorem ln_back {V : Int → It} {n : Int} (h : ∃ j, lnA V (n + 1) j) : V n 0 = 11 ∨ (V n 0 ≤ 5 ∧ ∃ j, lnA V n j) := by
  obtain ⟨j, h0, h1, h2, h3⟩ := h
  by_cases z : j = n
  · rw [z] at h2; exact Or.inl h2
  · exact Or.inr ⟨h3 n (by omega) (by omega), j, h0, by omega, h2, fun i a b => h3 i a (by omega)⟩
/-- built out of V: n items of it are told, m stand -/
def fzI (V : Int → It) (n m : Int) (O : Int → It) : Prop := 0 ≤ m ∧ EZ O m ∧ ((∃ j, lnA V n j) → ∃ j, lnA O m j)
theorem fzI.add {V O : Int → It} {n m N : Int} {x : It} (h : fzI V n m O) (u : EZ V N) (n0 : 0 ≤ n) (n1 : n < N) (k1 : x 0 = 14 → V n 0 = 14) (k2 : V n 0 = 11 → x 0 = 11) (k3 : V n 0 ≤ 5 → x 0 ≤ 5) : fzI V (n + 1) (m + 1) (uZ O m x) := by
  obtain ⟨h0, h1, h2⟩ := h
  refine ⟨by omega, h1.add (fun e => h2 (u n n0 n1 (k1 e))), fun q => ?_⟩
  rcases ln_back q with q | ⟨q, z⟩
  · exact ln_line h0 (k2 q)
  · exact ln_pure (k3 q) (h2 z)
theorem fzI.no {V O : Int → It} {n m : Int} (h : fzI V n m O) (k1 : V n 0 ≠ 11) (k2 : ¬ V n 0 ≤ 5) : fzI V (n + 1) m O := by
  obtain ⟨h0, h1, h2⟩ := h
  refine ⟨h0, h1, fun q => ?_⟩
  rcases ln_back q with q | ⟨q, z⟩
  · exact absurd q k1
  · exact absurd q k2
/-- FOLD -/
theorem fo_z {K : KN} {i : It} (h : i 0 ≤ 10) : foZ (foA (foO K i 4)) 0 ≤ 10 ∧ (i 0 ≤ 5 → foZ (foA (foO K i 4)) 0 ≤ 5) ∧ (zer1 (foA (foO K i 4)) → i 0 = 9) := by
  have e0 : foO K i 4 0 = i 0 := if_neg (by omega)
  have e1 : foA (foO K i 4) 0 = i 0 ∨ (foA (foO K i 4) 0 = 0 ∧ i 0 ≤ 5) := by
    unfold foA
    by_cases a : five2 (foO K i 4)
    · rw [dI_y a]
      refine Or.inr ⟨?_, ?_⟩
      · show uZ (uZ (uZ (uZ (uZ (foO K i 4) 0 0) 3 _) 4 _) 5 0) 6 0 0 = 0
        rw [uZ_ne (by decide), uZ_ne (by decide), uZ_ne (by decide), uZ_ne (by decide), uZ_eq]
      · have := a.2.1; omega
    · rw [dI_n a]; exact Or.inl e0
  have e2 : foZ (foA (foO K i 4)) 0 = foA (foO K i 4) 0 ∨ (foZ (foA (foO K i 4)) 0 = 8 ∧ foA (foO K i 4) 0 = 9) := by
    unfold foZ
    by_cases a : zer1 (foA (foO K i 4))
    · rw [dI_y a, uZ_ne (by decide), uZ_ne (by decide), uZ_eq]
      exact Or.inr ⟨rfl, a.1⟩
    · rw [dI_n a]; exact Or.inl rfl
  refine ⟨by omega, fun q => by omega, fun q => ?_⟩
  have := q.1
  omega
theorem fo_b0 {K : KN} {i : It} (h : i 0 = 12) : foB K i 0 = 12 := by
  unfold foB
  by_cases a : i 11 = 2 ∧ (K (i 4)).1 = 1
  · rw [dI_y a, uZ_ne (by decide), uZ_ne (by decide), uZ_ne (by decide), h]
  · rw [dI_n a, h]
theorem EZ.fold {V : Int → It} {N : Int} (u : EZ V N) {n : Nat} (hn : (n : Int) ≤ N) : fzI V n (foS V n).2.1 (foS V n).2.2.2 := by
  induction n with
  | zero => exact ⟨Int.le_refl _, fun k a b => absurd b (by show ¬ k < 0; omega), fun ⟨j, q⟩ => by have := q.1; have := q.2.1; omega⟩
  | succ n ih =>
    have h := ih (by omega)
    show fzI V ((n + 1 : Nat) : Int) (foT (foS V n) (V n)).2.1 (foT (foS V n) (V n)).2.2.2
    rw [show ((n + 1 : Nat) : Int) = (n : Int) + 1 by omega]
    unfold foT
    by_cases a : V n 0 = 13
    · rw [if_pos a]
      exact h.add u (by omega) (by omega) (fun e => e) (fun e => e) (fun e => e)
    · rw [if_neg a]
      by_cases b : V n 0 = 12
      · rw [if_pos b]
        have q := fo_b0 (K := (foS V n).1) b
        exact h.add u (by omega) (by omega) (fun e => by omega) (fun e => by omega) (fun e => by omega)
      · rw [if_neg b]
        by_cases c : V n 0 ≤ 10
        · rw [if_pos c]
          have q := fo_z (K := (foS V n).1) c
          unfold foX
          by_cases z : zer1 (foA (foO (foS V n).1 (V n) 4)) ∧ foA (foO (foS V n).1 (V n) 4) 4 ≠ 0
          · rw [dI_y z, dI_y z]
            have z9 := q.2.2 z.1
            exact h.no (by omega) (by omega)
          · rw [dI_n z, dI_n z]
            exact h.add u (by omega) (by omega) (fun e => by omega) (fun e => by omega) q.2.1
        · rw [if_neg c]
          exact h.add u (by omega) (by omega) (fun e => e) (fun e => e) (fun e => e)
/-- DROP -/
theorem RCG.back {V : Int → It} {n k : Int} (h : RCG V n 0 (fun _ => False) (k + 1)) (k0 : 0 ≤ k) (h13 : V (k + 1) 0 ≠ 13) : RCG V n 0 (fun _ => False) k := by
  have q := h (fun i => RCG V n 0 (fun _ => False) i ∧ (i = k + 1 → RCG V n 0 (fun _ => False) k)) ⟨RCG.z, fun e => by omega⟩ (fun i t a b c d e => ⟨c.1.s a b d e, fun z => by
    rcases e with ⟨_, e⟩ | ⟨_, e⟩
    · have w : i = k := by omega
      rw [← w]; exact c.1
    · rw [z] at e; exact absurd e.2.2.1 h13⟩)
  exact q.2 rfl
def dzI (V : Int → It) (N n m : Int) (O : Int → It) : Prop := 0 ≤ m ∧ EZ O m ∧ (RCG V N 0 (fun _ => False) n → V n 0 ≠ 13 → (∃ j, lnA V n j) → ∃ j, lnA O m j)
theorem EZ.unr {V : Int → It} {N : Int} (u : EZ V N) {n : Nat} (hn : (n : Int) ≤ N) : dzI V N n (dr1 V N n).1 (dr1 V N n).2.2 := by
  induction n with
  | zero => exact ⟨Int.le_refl _, fun k a b => absurd b (by show ¬ k < 0; omega), fun _ _ ⟨j, q⟩ => by have := q.1; have := q.2.1; omega⟩
  | succ n ih =>
    obtain ⟨h0, h1, h2⟩ := ih (by omega)
    show dzI V N ((n + 1 : Nat) : Int) (dI (RCG V N 0 (fun _ => False) n) ((dr1 V N n).1 + 1, (dr1 V N n).2.1, uZ (dr1 V N n).2.2 (dr1 V N n).1 (V n)) ((dr1 V N n).1, (dr1 V N n).2.1 + (if V n 0 ≤ 10 then 1 else 0), (dr1 V N n).2.2)).1 (dI (RCG V N 0 (fun _ => False) n) ((dr1 V N n).1 + 1, (dr1 V N n).2.1, uZ (dr1 V N n).2.2 (dr1 V N n).1 (V n)) ((dr1 V N n).1, (dr1 V N n).2.1 + (if V n 0 ≤ 10 then 1 else 0), (dr1 V N n).2.2)).2.2
    rw [show ((n + 1 : Nat) : Int) = (n : Int) + 1 by omega]
    by_cases r : RCG V N 0 (fun _ => False) n
    · rw [dI_y r]
      refine ⟨by show 0 ≤ (dr1 V N n).1 + 1; omega, h1.add (fun e => h2 r (by omega) (u n (by omega) (by omega) e)), fun x y z => ?_⟩
      rcases ln_back z with q | ⟨q, z⟩
      · exact ln_line h0 q
      · exact ln_pure q (h2 r (by omega) z)
    · rw [dI_n r]
      exact ⟨h0, h1, fun x y _ => absurd (x.back (by omega) y) r⟩
theorem EZ.out {V : Int → It} {n k : Int} (h : EZ V n) (k0 : 0 ≤ k) (h5 : V k 0 ≤ 5) : EZ (toV (rbV V n k) k) (n - 1) := by
  have e0 : ∀ i, toV (rbV V n k) k i 0 = V (if i < k then i else i + 1) 0 := fun i => by
    unfold toV
    by_cases x : i < k
    · rw [if_pos x, if_pos x]; exact rb_13.1
    · rw [if_neg x, if_neg x]; exact rb_13.1
  intro e a b c
  rw [e0] at c
  by_cases x : e < k
  · rw [if_pos x] at c
    obtain ⟨j, q⟩ := h e a (by omega) c
    refine ⟨j, q.cg (fun i y z => by rw [e0, if_pos (by omega)])⟩
  · rw [if_neg x] at c
    obtain ⟨j, q0, q1, q2, q3⟩ := h (e + 1) (by omega) (by omega) c
    have jk : j ≠ k := fun z => by rw [z] at q2; omega
    by_cases y : j < k
    · refine ⟨j, q0, by omega, by rw [e0, if_pos y]; exact q2, fun i s t => ?_⟩
      rw [e0]
      by_cases z : i < k
      · rw [if_pos z]; exact q3 i s (by omega)
      · rw [if_neg z]; exact q3 (i + 1) (by omega) (by omega)
    · refine ⟨j - 1, by omega, by omega, by rw [e0, if_neg (by omega), show j - 1 + 1 = j by omega]; exact q2, fun i s t => ?_⟩
      rw [e0, if_neg (by omega)]
      exact q3 (i + 1) (by omega) (by omega)
theorem EZ.drt {t : Nat} {V V' : Int → It} {n n' : Int} (u : EZ V n) (h : DRT t V n V' n') : EZ V' n' := by
  induction t generalizing V' n' with
  | zero => rw [h.1, h.2]; exact u
  | succ t ih =>
    obtain ⟨V1, n1, k, h1, h2, h3, h4⟩ := h
    rw [h3, h4]
    exact (ih h1).out h2.1 h2.2.2.1.1
theorem EZ.drop {V V' : Int → It} {n n' w : Int} (u : EZ V n) (n0 : 0 ≤ n) (h : DRX V n V' n' w) : EZ V' n' := by
  obtain ⟨t, h1, _⟩ := h
  exact (u.unr (n := n.toNat) (by omega)).2.1.drt h1
/-- ALIKE -/
theorem EZ.set {V : Int → It} {n k : Int} {x : It} (h : EZ V n) (h5 : V k 0 ≤ 5) (hx : x 0 ≤ 5) : EZ (uZ V k x) n := fun e a b c => by
  have z : e ≠ k := fun z => by rw [z, uZ_eq] at c; omega
  rw [uZ_ne z] at c
  obtain ⟨j, q0, q1, q2, q3⟩ := h e a b c
  have jk : j ≠ k := fun z => by rw [z] at q2; omega
  refine ⟨j, q0, q1, by rw [uZ_ne jk]; exact q2, fun i s t => ?_⟩
  by_cases y : i = k
  · rw [y, uZ_eq]; exact hx
  · rw [uZ_ne y]; exact q3 i s t
theorem EZ.als {n : Nat} {N : Int} {V V' : Int → It} {w : Int} (u : EZ V N) (h : ALS n V V' w) : EZ V' N := by
  induction n generalizing V' w with
  | zero => rw [h.1]; exact u
  | succ n ih =>
    obtain ⟨V1, w1, d, h1, h2, h3⟩ := h
    rcases h2 with ⟨j, a, b, c, e⟩ | ⟨a, b, c⟩
    · rw [c]
      refine (ih h1).set a.2 ?_
      show uZ (uZ (uZ (uZ (uZ (V1 n) 0 0) 3 _) 4 _) 5 0) 6 0 0 ≤ 5
      rw [uZ_ne (by decide), uZ_ne (by decide), uZ_ne (by decide), uZ_ne (by decide), uZ_eq]
      decide
    · rw [b]; exact ih h1
/-- MOVE -/
theorem EZ.li {V : Int → It} {n k p : Int} (h : EZ V n) (h5 : V k 0 ≤ 5) (hp : 0 ≤ p ∧ p ≤ k ∧ k < n) : EZ (liV V k p) n := by
  have lp : ∀ i, i = p → liV V k p i 0 = V k 0 := fun i z => by unfold liV; rw [if_pos z]
  have lm : ∀ i, p < i → i ≤ k → liV V k p i 0 = V (i - 1) 0 := fun i y z => by unfold liV; rw [if_neg (by omega), if_pos ⟨y, z⟩]
  have lo : ∀ i, (i < p ∨ k < i) → liV V k p i 0 = V i 0 := fun i y => by unfold liV; rw [if_neg (by omega), if_neg (by omega)]
  have chain : ∀ e e' j j', lnA V e j → (e' = e ∧ (e < p ∨ k < e) ∨ e' = e + 1 ∧ p ≤ e ∧ e < k) → (j' = j ∧ (j < p ∨ k < j) ∨ j' = j + 1 ∧ p ≤ j ∧ j < k) → lnA (liV V k p) e' j' := fun e e' j j' q he hj => by
    obtain ⟨q0, q1, q2, q3⟩ := q
    refine ⟨by omega, by omega, ?_, fun i s t => ?_⟩
    · rcases hj with ⟨z1, z2⟩ | ⟨z1, z2⟩
      · rw [z1, lo j z2]; exact q2
      · rw [z1, lm (j + 1) (by omega) (by omega), show j + 1 - 1 = j by omega]; exact q2
    · by_cases x : i = p
      · rw [lp i x]; exact h5
      · by_cases y : p < i ∧ i ≤ k
        · rw [lm i y.1 y.2]; exact q3 (i - 1) (by omega) (by omega)
        · rw [lo i (by omega)]; exact q3 i (by omega) (by omega)
  intro e a b c
  by_cases x : e = p
  · rw [lp e x] at c; omega
  · by_cases y : p < e ∧ e ≤ k
    · rw [lm e y.1 y.2] at c
      obtain ⟨j, q⟩ := h (e - 1) (by omega) (by omega) c
      have jk : j ≠ k := fun z => by have := q.2.1; omega
      by_cases w : j < p ∨ k < j
      · exact ⟨j, chain (e - 1) e j j q (Or.inr (by omega)) (Or.inl ⟨rfl, w⟩)⟩
      · exact ⟨j + 1, chain (e - 1) e j (j + 1) q (Or.inr (by omega)) (Or.inr (by omega))⟩
    · rw [lo e (by omega)] at c
      obtain ⟨j, q⟩ := h e a b c
      have jk : j ≠ k := fun z => by have z2 := q.2.2.1; rw [z] at z2; omega
      by_cases w : j < p ∨ k < j
      · exact ⟨j, chain e e j j q (Or.inl (by omega)) (Or.inl ⟨rfl, w⟩)⟩
      · exact ⟨j + 1, chain e e j (j + 1) q (Or.inl (by omega)) (Or.inr (by omega))⟩
theorem EZ.mvt {H : Int → Prop} {n q p a : Int} {t : Nat} {V A : Int → It} (u : EZ V n) (h : MVT H n q t V p A a) (h0 : 0 ≤ p) (h1 : q < n) : EZ A n ∧ a = p + t := by
  induction t generalizing A a with
  | zero => rw [h.1, h.2]; exact ⟨u, by omega⟩
  | succ t ih =>
    obtain ⟨V1, p1, k, g1, g2, g3, g4⟩ := h
    obtain ⟨i1, i2⟩ := ih g1
    have z1 := g2.1
    have z2 := g2.2.1
    rw [g3, g4]
    exact ⟨i1.li g2.2.2.1.1 (by omega), by omega⟩
theorem EZ.mva {H : Int → Prop} {n w : Int} {t : Nat} {V V' : Int → It} (u : EZ V n) (h : MVA H n t V V' w) (ht : (t : Int) ≤ n) : EZ V' n := by
  induction t generalizing V' w with
  | zero => rw [h.1]; exact u
  | succ t ih =>
    obtain ⟨V1, w1, d, h1, h2, h3⟩ := h
    have i := ih h1 (by omega)
    rcases h2 with ⟨a, b, c⟩ | ⟨a, q, b, c⟩
    · rw [b]; exact i
    · rcases c with ⟨_, c, _⟩ | ⟨_, s, p', c, _⟩
      · rw [c]; exact i
      · exact (i.mvt c (by omega) b.2.1).1
/-- SHARE -/
theorem EZ.sh {V : Int → It} {n : Int} {nb : Int → Int} {bg : Int → Prop} (u : EZ V n) : EZ (shV V n nb bg) n := by
  refine u.cg (fun i a b => ?_)
  have ek : ubV V n nb bg i 0 = V i 0 := by
    unfold ubV
    by_cases z : (0 ≤ i ∧ i < n) ∧ V i 0 = 12 ∧ RCG V n 0 (fun _ => False) i ∧ ∃ u, rdI (V i) u ∧ lsV V n nb bg i u
    · rw [dI_y z]
      unfold goI
      rw [uZ_ne (by decide), uZ_ne (by decide), uZ_ne (by decide), uZ_ne (by decide), uZ_ne (by decide)]
    · rw [dI_n z]
  unfold shV
  rw [if_pos ⟨a, b⟩]
  show (if (0 : Int) = 1 ∧ _ then _ else if ((0 : Int) = 4 ∨ (0 : Int) = 6 ∨ (0 : Int) = 8 ∨ (0 : Int) = 10) ∧ _ then _ else ubV V n nb bg i 0) = V i 0
  rw [if_neg (fun z => absurd z.1 (by decide)), if_neg (fun z => absurd z.1 (by decide)), ek]
/-- MELT -/
def EZ1 (O : Int → It) (m : Int) : Prop := ∀ k, 0 ≤ k → k < m → O k 0 = 14 → k = 0 ∨ ∃ j, lnA O k j
def bzI (V : Int → It) (k : Int) (s : BB) : Prop := 1 ≤ s.1 ∧ EZ1 s.2 s.1 ∧ ((∃ j, lnA V k j) → ∃ j, lnA s.2 s.1 j)
theorem EZ1.add {O : Int → It} {m : Int} {x : It} (h : EZ1 O m) (hx : x 0 = 14 → ∃ j, lnA O m j) : EZ1 (uZ O m x) (m + 1) := fun k a b e => by
  by_cases z : k = m
  · subst z
    rw [uZ_eq] at e
    obtain ⟨j, q⟩ := hx e
    exact Or.inr ⟨j, q.cg (fun i c d => by rw [uZ_ne (by omega)])⟩
  · rw [uZ_ne z] at e
    rcases h k a (by omega) e with q | ⟨j, q⟩
    · exact Or.inl q
    · exact Or.inr ⟨j, q.cg (fun i c d => by rw [uZ_ne (by omega)])⟩
theorem ln_no {V : Int → It} : ¬ ∃ j, lnA V 0 j := fun ⟨j, q⟩ => by have := q.1; have := q.2.1; omega
theorem bzI.add0 {V : Int → It} {s : BB} {x : It} (h : bzI V 0 s) (hx : x 0 ≠ 14) : bzI V 0 (bA s x) := ⟨by have := h.1; show 1 ≤ s.1 + 1; omega, h.2.1.add (fun e => absurd e hx), fun q => absurd q ln_no⟩
theorem bz_1 {V : Int → It} {f base P : Int} {na : Int → Int} {x : It} {s : BB} {n : Nat} (h : bzI V 0 s) : bzI V 0 (mb1 f base P na x s n) := by
  induction n with
  | zero => exact h
  | succ n ih =>
    show bzI V 0 (nmS f base P na x n (mb1 f base P na x s n))
    unfold nmS
    by_cases a : (n : Int) < P
    · rw [if_pos a]
      exact (ih.add0 (by rw [mk_0]; decide)).add0 (by rw [mk_0]; decide)
    · rw [if_neg a]
      exact ih.add0 (by rw [mk_0]; decide)
theorem bz_2 {V : Int → It} {base : Int} {lv : Int → Prop} {s : BB} {n : Nat} (h : bzI V 0 s) : bzI V 0 (mb2 base lv s n) := by
  induction n with
  | zero => exact h
  | succ n ih =>
    show bzI V 0 (dI (lv n) (bA (mb2 base lv s n) _) (mb2 base lv s n))
    by_cases a : lv n
    · rw [dI_y a]
      exact ih.add0 (by rw [mk_0]; decide)
    · rw [dI_n a]; exact ih
theorem bz_3 {V : Int → It} {f base lb to out n : Int} {s : BB} {k : Nat} (h : bzI V 0 s) (u : EZ V n) (hk : (k : Int) ≤ n) : bzI V k (mb3 f base lb to out V s k) := by
  induction k with
  | zero => exact h
  | succ k ih =>
    obtain ⟨i0, i1, i2⟩ := ih (by omega)
    rw [show ((k + 1 : Nat) : Int) = (k : Int) + 1 by omega]
    show bzI V ((k : Int) + 1) (if V k 0 = 7 then bA (bA (mb3 f base lb to out V s k) (uZ (uZ (shO base (V k)) 0 0) 1 to)) (mkI 8 out 0 0 0 0) else bA (mb3 f base lb to out V s k) (mlI f base lb (V k)))
    by_cases a : V k 0 = 7
    · rw [if_pos a]
      refine ⟨by show 1 ≤ (mb3 f base lb to out V s k).1 + 1 + 1; omega, (i1.add (fun e => absurd e (by rw [uZ_ne (by decide), uZ_eq]; decide))).add (fun e => absurd e (by rw [mk_0]; decide)), fun q => ?_⟩
      rcases ln_back q with q | ⟨q, -⟩
      · omega
      · omega
    · rw [if_neg a]
      refine ⟨by show 1 ≤ (mb3 f base lb to out V s k).1 + 1; omega, i1.add (fun e => i2 (u k (by omega) (by omega) (by rw [ml_0] at e; exact e))), fun q => ?_⟩
      rcases ln_back q with q | ⟨q, z⟩
      · exact ln_line (by omega) (by rw [ml_0]; exact q)
      · exact ln_pure (by rw [ml_0]; exact q) (i2 z)
theorem bz_m {f base lb out to P N nq : Int} {na : Int → Int} {x : It} {lv : Int → Prop} {V : Int → It} (u : EZ V nq) (hn : 0 ≤ nq) : 1 ≤ (mkB f base lb out to P N nq na x lv V).1 ∧ EZ1 (mkB f base lb out to P N nq na x lv V).2 (mkB f base lb out to P N nq na x lv V).1 := by
  unfold mkB
  have b0 : bzI V 0 (bA (0, fun _ => zI) (mkI 14 f 0 0 0 0)) := ⟨by show (1 : Int) ≤ 0 + 1; decide, fun k a b e => Or.inl (by have b : k < 0 + 1 := b; omega), fun q => absurd q ln_no⟩
  have b3 := bz_3 (f := f) (base := base) (lb := lb) (to := to) (out := out) (k := nq.toNat) (bz_2 (base := base) (lv := lv) (n := 192) (bz_1 (f := f) (base := base) (P := P) (na := na) (x := x) (n := N.toNat) b0)) u (by omega)
  obtain ⟨c0, c1, c2⟩ := b3
  exact ⟨by show 1 ≤ (mb3 f base lb to out V (mb2 base lv (mb1 f base P na x (bA (0, fun _ => zI) (mkI 14 f 0 0 0 0)) N.toNat) 192) nq.toNat).1 + 1 + 1; omega, (c1.add (fun e => absurd e (by rw [mk_0]; decide))).add (fun e => absurd e (by rw [mk_0]; decide))⟩
theorem EZ.sp {V B : Int → It} {n k a j0 : Int} (u : EZ V n) (h10 : V k 0 = 10) (hl : lnA V k j0) (ub : EZ1 B a) (hk : 0 ≤ k ∧ k < n) (a0 : 1 ≤ a) : EZ (spV V k a B) (n + a - 1) := by
  have s1 : ∀ i, i < k → spV V k a B i 0 = V i 0 := fun i z => by unfold spV; rw [if_pos z]
  have s2 : ∀ i, k ≤ i → i < k + a → spV V k a B i 0 = B (i - k) 0 := fun i y z => by unfold spV; rw [if_neg (by omega), if_pos z]
  have s3 : ∀ i, k + a ≤ i → spV V k a B i 0 = V (i - a + 1) 0 := fun i z => by unfold spV; rw [if_neg (by omega), if_neg (by omega)]
  intro e x y c
  by_cases p : e < k
  · rw [s1 e p] at c
    obtain ⟨j, q⟩ := u e x (by omega) c
    exact ⟨j, q.cg (fun i _ z => s1 i (by omega))⟩
  · by_cases r : e < k + a
    · rw [s2 e (by omega) r] at c
      rcases ub (e - k) (by omega) (by omega) c with q | ⟨j, q0, q1, q2, q3⟩
      · rw [show e = k by omega]
        exact ⟨j0, hl.cg (fun i _ z => s1 i z)⟩
      · refine ⟨k + j, by omega, by omega, by rw [s2 _ (by omega) (by omega), show k + j - k = j by omega]; exact q2, fun i s t => ?_⟩
        rw [s2 i (by omega) (by omega)]
        exact q3 (i - k) (by omega) (by omega)
    · rw [s3 e (by omega)] at c
      obtain ⟨j, q0, q1, q2, q3⟩ := u (e - a + 1) (by omega) (by omega) c
      have jk : k < j := by
        by_cases w : k < j
        · exact w
        · by_cases w2 : j = k
          · rw [w2] at q2; omega
          · have := q3 k (by omega) (by omega); omega
      refine ⟨j + a - 1, by omega, by omega, by rw [s3 _ (by omega), show j + a - 1 - a + 1 = j by omega]; exact q2, fun i s t => ?_⟩
      rw [s3 i (by omega)]
      exact q3 _ (by omega) (by omega)
theorem MLR.ez {r C : Int} {Gs : Int → RTS} {PM NM : Int → Int} {t : Nat} {H H' : RTS} {k k' w : Int} (h : MLR r Gs PM NM t H k H' k' w) (k0 : 0 ≤ k) (u : UNQ H.V H.n) (c : CLQ H.V H.n C) (hg : ∀ q, 0 ≤ q → q < C → 0 ≤ (Gs q).n ∧ UNQ (Gs q).V (Gs q).n ∧ LZ (Gs q).V (Gs q).n) (z : EZ H.V H.n) (hz : ∀ q, 0 ≤ q → q < C → EZ (Gs q).V (Gs q).n) : EZ H'.V H'.n := by
  induction t generalizing H' k' w with
  | zero => rw [h.1]; exact z
  | succ t ih =>
    obtain ⟨H1, k1, w1, d, h1, h2, h3, h4⟩ := h
    obtain ⟨i0, i1, i2⟩ := h1.un k0 u c hg
    have i3 := ih h1
    rcases h3 with ⟨base, lb, lq, j0, m, m1, m2, m3, m4, e1, e2, e3⟩ | ⟨m, e1, e2, e3⟩
    · have q := i2 k1 i0 h2 m.1
      have b := bz_m (f := H1.F) (base := base) (lb := lb) (out := lb + lq) (to := H1.V k1 1) (P := PM (H1.V k1 2)) (N := NM (H1.V k1 2)) (na := (Gs (H1.V k1 2)).na 0) (x := H1.V k1) (lv := lvS (Gs (H1.V k1 2)) (PM (H1.V k1 2))) (hz _ q.1 q.2) (hg _ q.1 q.2).1
      rw [e1]
      exact i3.sp m.1 m4 b.2 ⟨i0, h2⟩ b.1
    · rw [e1]; exact i3
/-- of all passes -/
theorem PSV.ez {w r C : Int} {Gs : Int → RTS} {PM NM : Int → Int} {H H' : RTS} {v : Int} (h : PSV w r Gs PM NM H H' v) (n0 : 0 ≤ H.n) (u : UNQ H.V H.n) (c : CLQ H.V H.n C) (hg : ∀ q, 0 ≤ q → q < C → 0 ≤ (Gs q).n ∧ UNQ (Gs q).V (Gs q).n ∧ LZ (Gs q).V (Gs q).n) (z : EZ H.V H.n) (hz : ∀ q, 0 ≤ q → q < C → EZ (Gs q).V (Gs q).n) : EZ H'.V H'.n := by
  rcases h with ⟨-, ⟨K, e⟩, -⟩ | ⟨-, h, -⟩ | ⟨-, h, e, -⟩ | ⟨-, h, e, -⟩ | ⟨-, t, h⟩ | ⟨-, nb, -, -, e, -⟩
  · have q := (z.fold (n := H.n.toNat) (by omega)).2.1
    rw [e] at q
    exact q
  · exact z.drop n0 h
  · rw [e]; exact z.mva h (by omega)
  · rw [e]; exact z.als h
  · exact h.ez (Int.le_refl 0) u c hg z hz
  · rw [e]; exact z.sh
def EZA (σ : MS) : Prop := ∀ q, 0 ≤ q → q < σ.1 10 → EZ (rV σ q) (σ.2.1 9 q)
theorem EZA.step {σ τ : MS} {w r v : Int} (h : PSQ σ τ w r v) (g : GDA σ) (e10 : τ.1 10 = σ.1 10) (u : UNA σ) (z : EZA σ) : EZA τ := fun q q0 q1 => by
  rw [e10] at q1
  have oth : rS τ q = rS σ q → EZ (rV τ q) (τ.2.1 9 q) := fun e => by
    rw [show τ.2.1 9 q = σ.2.1 9 q from congrArg RTS.n e, show rV τ q = rV σ q from congrArg RTS.V e]
    exact z q q0 q1
  rcases h with ⟨_, _, h⟩ | ⟨hw, h1, h2⟩
  · exact oth (h q)
  · by_cases e : q = r
    · subst e
      have gq := g.2 q q0 q1
      exact h1.ez (C := σ.1 10) (by show 0 ≤ σ.2.1 9 q; have := gq.1; omega) (u q q0 q1) (cl_rs gq) (fun j a b => ⟨by show 0 ≤ σ.2.1 9 j; have := (g.2 j a b).1; omega, u j a b, lz_rs (g.2 j a b)⟩) (z q q0 q1) (fun j a b => z j a b)
    · exact oth (h2 q q0 q1 e)
/-- a code of one FRAME has no ENTER -/
theorem ez_one {σ : MS} {r : Int} (g : GDR σ r) (h1 : σ.2.1 14 r = 1) : EZ (rV σ r) (σ.2.1 9 r) := fun k a b c => by
  rw [rv_at a b] at c
  obtain ⟨fr, lf, q⟩ := g.2.2.2.2.2.1
  have c : iK σ r k = 14 := c
  have e := q.2.2.1 k a b (by omega) (by omega)
  have e2 := e.2.1 c
  have e3 := q.2.1 (k + 1) (by omega) e.1
  rw [h1] at e3
  omega

