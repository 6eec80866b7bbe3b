section
def EZ (V : Int → It) (n : Int) : Prop := ∀ k, 0 ≤ k → k < n → V k 0 = 14 → ∃ j, lnA V k j
theorem lnA.cg {V W : Int → It} {k j : Int} (h : lnA V k j) (e : ∀ i, 0 ≤ i → i < k → W i 0 = V i 0) : lnA W k j := by
  obtain ⟨h0, h1, h2, h3⟩ := h
  exact ⟨h0, h1, by rw [e j h0 h1]; exact h2, fun i a b => by rw [e i (by omega) b]; exact h3 i a b⟩
theorem EZ.cg {V W : Int → It} {n : Int} (h : EZ V n) (e : ∀ i, 0 ≤ i → i < n → W i 0 = V i 0) : EZ W n := fun k a b c => by
  rw [e k a b] at c
  obtain ⟨j, q⟩ := h k a b c
  exact ⟨j, q.cg (fun i x y => e i x (by omega))⟩
theorem EZ.add {O : Int → It} {m : Int} {x : It} (h : EZ O m) (hx : x 0 = 14 → ∃ j, lnA O m j) : EZ (uZ O m x) (m + 1) := fun k a b e => by
  by_cases z : k = m
  · subst z
    rw [uZ_eq] at e
    obtain ⟨j, q⟩ := hx e
    exact ⟨j, q.cg (fun i c d => by rw [uZ_ne (by omega)])⟩
  · rw [uZ_ne z] at e
    obtain ⟨j, q⟩ := h k a (by omega) e
    exact ⟨j, q.cg (fun i c d => by rw [uZ_ne (by omega)])⟩
theorem ln_line {O : Int → It} {m : Int} {x : It} (m0 : 0 ≤ m) (hx : x 0 = 11) : ∃ j, lnA (uZ O m x) (m + 1) j := ⟨m, m0, by omega, by rw [uZ_eq]; exact hx, fun i a b => by omega⟩
theorem ln_pure {O : Int → It} {m : Int} {x : It} (hx : x 0 ≤ 5) (h : ∃ j, lnA O m j) : ∃ j, lnA (uZ O m x) (m + 1) j := by
  obtain ⟨j, h0, h1, h2, h3⟩ := h
  refine ⟨j, h0, by omega, by rw [uZ_ne (by omega)]; exact h2, fun i a b => ?_⟩
  by_cases z : i = m
  · rw [z, uZ_eq]; exact hx
  · rw [uZ_ne z]; exact h3 i a (by omega)
theorem ln_back {V : Int → It} {n : Int} (h : ∃ j, lnA V (n + 1) j) : V n 0 = 11 ∨ (V n 0 ≤ 5 ∧ ∃ j, lnA V n j) := by
  obtain ⟨j, h0, h1, h2, h3⟩ := h
  by_cases z : j = n
  · rw [z] at h2; exact Or.inl h2
  · exact Or.inr ⟨h3 n (by omega) (by omega), j, h0, by omega, h2, fun i a b => h3 i a (by omega)⟩
def fzI (V : Int → It) (n m : Int) (O : Int → It) : Prop := 0 ≤ m ∧ EZ O m ∧ ((∃ j, lnA V n j) → ∃ j, lnA O m j)
theorem fzI.add {V O : Int → It} {n m N : Int} {x : It} (h : fzI V n m O) (u : EZ V N) (n0 : 0 ≤ n) (n1 : n < N) (k1 : x 0 = 14 → V n 0 = 14) (k2 : V n 0 = 11 → x 0 = 11) (k3 : V n 0 ≤ 5 → x 0 ≤ 5) : fzI V (n + 1) (m + 1) (uZ O m x) := by
  obtain ⟨h0, h1, h2⟩ := h
  refine ⟨by omega, h1.add (fun e => h2 (u n n0 n1 (k1 e))), fun q => ?_⟩
  rcases ln_back q with q | ⟨q, z⟩
  · exact ln_line h0 (k2 q)
  · exact ln_pure (k3 q) (h2 z)
theorem fzI.no {V O : Int → It} {n m : Int} (h : fzI V n m O) (k1 : V n 0 ≠ 11) (k2 : ¬ V n 0 ≤ 5) : fzI V (n + 1) m O := by
  obtain ⟨h0, h1, h2⟩ := h
  refine ⟨h0, h1, fun q => ?_⟩
  rcases ln_back q with q | ⟨q, z⟩
  · exact absurd q k1
  · exact absurd q k2
theorem fo_z {K : KN} {i : It} (h : i 0 ≤ 10) : foZ (foA (foO K i 4)) 0 ≤ 10 ∧ (i 0 ≤ 5 → foZ (foA (foO K i 4)) 0 ≤ 5) ∧ (zer1 (foA (foO K i 4)) → i 0 = 9) := by
  have e0 : foO K i 4 0 = i 0 := if_neg (by omega)
  have e1 : foA (foO K i 4) 0 = i 0 ∨ (foA (foO K i 4) 0 = 0 ∧ i 0 ≤ 5) := by
    unfold foA
    by_cases a : five2 (foO K i 4)
    · rw [dI_y a]
      refine Or.inr ⟨?_, ?_⟩
      · show uZ (uZ (uZ (uZ (uZ (foO K i 4) 0 0) 3 _) 4 _) 5 0) 6 0 0 = 0
        rw [uZ_ne (by decide), uZ_ne (by decide), uZ_ne (by decide), uZ_ne (by decide), uZ_eq]
      · have := a.2.1; omega
    · rw [dI_n a]; exact Or.inl e0
  have e2 : foZ (foA (foO K i 4)) 0 = foA (foO K i 4) 0 ∨ (foZ (foA (foO K i 4)) 0 = 8 ∧ foA (foO K i 4) 0 = 9) := by
    unfold foZ
    by_cases a : zer1 (foA (foO K i 4))
    · rw [dI_y a, uZ_ne (by decide), uZ_ne (by decide), uZ_eq]
      exact Or.inr ⟨rfl, a.1⟩
    · rw [dI_n a]; exact Or.inl rfl
  refine ⟨by omega, fun q => by omega, fun q => ?_⟩
  have := q.1
  omega
theorem fo_b0 {K : KN} {i : It} (h : i 0 = 12) : foB K i 0 = 12 := by
  unfold foB
  by_cases a : i 11 = 2 ∧ (K (i 4)).1 = 1
  · rw [dI_y a, uZ_ne (by decide), uZ_ne (by decide), uZ_ne (by decide), h]
  · rw [dI_n a, h]
theorem EZ.fold {V : Int → It} {N : Int} (u : EZ V N) {n : Nat} (hn : (n : Int) ≤ N) : fzI V n (foS V n).2.1 (foS V n).2.2.2 := by
  induction n with
  | zero => exact ⟨Int.le_refl _, fun k a b => absurd b (by show ¬ k < 0; omega), fun ⟨j, q⟩ => by have := q.1; have := q.2.1; omega⟩
  | succ n ih =>
    have h := ih (by omega)
    show fzI V ((n + 1 : Nat) : Int) (foT (foS V n) (V n)).2.1 (foT (foS V n) (V n)).2.2.2
    rw [show ((n + 1 : Nat) : Int) = (n : Int) + 1 by omega]
    unfold foT
    by_cases a : V n 0 = 13
    · rw [if_pos a]
      exact h.add u (by omega) (by omega) (fun e => e) (fun e => e) (fun e => e)
    · rw [if_neg a]
      by_cases b : V n 0 = 12
      · rw [if_pos b]
        have q := fo_b0 (K := (foS V n).1) b
        exact h.add u (by omega) (by omega) (fun e => by omega) (fun e => by omega) (fun e => by omega)
      · rw [if_neg b]
        by_cases c : V n 0 ≤ 10
        · rw [if_pos c]
          have q := fo_z (K := (foS V n).1) c
          unfold foX
          by_cases z : zer1 (foA (foO (foS V n).1 (V n) 4)) ∧ foA (foO (foS V n).1 (V n) 4) 4 ≠ 0
          · rw [dI_y z, dI_y z]
            have z9 := q.2.2 z.1
            exact h.no (by omega) (by omega)
          · rw [dI_n z, dI_n z]
            exact h.add u (by omega) (by omega) (fun e => by omega) (fun e => by omega) q.2.1
        · rw [if_neg c]
          exact h.add u (by omega) (by omega) (fun e => e) (fun e => e) (fun e => e)
theorem RCG.back {V : Int → It} {n k : Int} (h : RCG V n 0 (fun _ => False) (k + 1)) (k0 : 0 ≤ k) (h13 : V (k + 1) 0 ≠ 13) : RCG V n 0 (fun _ => False) k := by
  have q := h (fun i => RCG V n 0 (fun _ => False) i ∧ (i = k + 1 → RCG V n 0 (fun _ => False) k)) ⟨RCG.z, fun e => by omega⟩ (fun i t a b c d e => ⟨c.1.s a b d e, fun z => by
    rcases e with ⟨_, e⟩ | ⟨_, e⟩
    · have w : i = k := by omega
      rw [← w]; exact c.1
    · rw [z] at e; exact absurd e.2.2.1 h13⟩)
  exact q.2 rfl
def dzI (V : Int → It) (N n m : Int) (O : Int → It) : Prop := 0 ≤ m ∧ EZ O m ∧ (RCG V N 0 (fun _ => False) n → V n 0 ≠ 13 → (∃ j, lnA V n j) → ∃ j, lnA O m j)
theorem EZ.unr {V : Int → It} {N : Int} (u : EZ V N) {n : Nat} (hn : (n : Int) ≤ N) : dzI V N n (dr1 V N n).1 (dr1 V N n).2.2 := by
  induction n with
  | zero => exact ⟨Int.le_refl _, fun k a b => absurd b (by show ¬ k < 0; omega), fun _ _ ⟨j, q⟩ => by have := q.1; have := q.2.1; omega⟩
  | succ n ih =>
    obtain ⟨h0, h1, h2⟩ := ih (by omega)
    show dzI V N ((n + 1 : Nat) : Int) (dI (RCG V N 0 (fun _ => False) n) ((dr1 V N n).1 + 1, (dr1 V N n).2.1, uZ (dr1 V N n).2.2 (dr1 V N n).1 (V n)) ((dr1 V N n).1, (dr1 V N n).2.1 + (if V n 0 ≤ 10 then 1 else 0), (dr1 V N n).2.2)).1 (dI (RCG V N 0 (fun _ => False) n) ((dr1 V N n).1 + 1, (dr1 V N n).2.1, uZ (dr1 V N n).2.2 (dr1 V N n).1 (V n)) ((dr1 V N n).1, (dr1 V N n).2.1 + (if V n 0 ≤ 10 then 1 else 0), (dr1 V N n).2.2)).2.2
    rw [show ((n + 1 : Nat) : Int) = (n : Int) + 1 by omega]
    by_cases r : RCG V N 0 (fun _ => False) n
    · rw [dI_y r]
      refine ⟨by show 0 ≤ (dr1 V N n).1 + 1; omega, h1.add (fun e => h2 r (by omega) (u n (by omega) (by omega) e)), fun x y z => ?_⟩
      rcases ln_back z with q | ⟨q, z⟩
      · exact ln_line h0 q
      · exact ln_pure q (h2 r (by omega) z)
    · rw [dI_n r]
      exact ⟨h0, h1, fun x y _ => absurd (x.back (by omega) y) r⟩
theorem EZ.out {V : Int → It} {n k : Int} (h : EZ V n) (k0 : 0 ≤ k) (h5 : V k 0 ≤ 5) : EZ (toV (rbV V n k) k) (n - 1) := by
  have e0 : ∀ i, toV (rbV V n k) k i 0 = V (if i < k then i else i + 1) 0 := fun i => by
    unfold toV
    by_cases x : i < k
    · rw [if_pos x, if_pos x]; exact rb_13.1
    · rw [if_neg x, if_neg x]; exact rb_13.1
  intro e a b c
  rw [e0] at c
  by_cases x : e < k
  · rw [if_pos x] at c
    obtain ⟨j, q⟩ := h e a (by omega) c
    refine ⟨j, q.cg (fun i y z => by rw [e0, if_pos (by omega)])⟩
  · rw [if_neg x] at c
    obtain ⟨j, q0, q1, q2, q3⟩ := h (e + 1) (by omega) (by omega) c
    have jk : j ≠ k := fun z => by rw [z] at q2; omega
    by_cases y : j < k
    · refine ⟨j, q0, by omega, by rw [e0, if_pos y]; exact q2, fun i s t => ?_⟩
      rw [e0]
      by_cases z : i < k
      · rw [if_pos z]; exact q3 i s (by omega)
      · rw [if_neg z]; exact q3 (i + 1) (by omega) (by omega)
    · refine ⟨j - 1, by omega, by omega, by rw [e0, if_neg (by omega), show j - 1 + 1 = j by omega]; exact q2, fun i s t => ?_⟩
      rw [e0, if_neg (by omega)]
      exact q3 (i + 1) (by omega) (by omega)
theorem EZ.drt {t : Nat} {V V' : Int → It} {n n' : Int} (u : EZ V n) (h : DRT t V n V' n') : EZ V' n' := by
  induction t generalizing V' n' with
  | zero => rw [h.1, h.2]; exact u
  | succ t ih =>
    obtain ⟨V1, n1, k, h1, h2, h3, h4⟩ := h
    rw [h3, h4]
    exact (ih h1).out h2.1 h2.2.2.1.1
theorem EZ.drop {V V' : Int → It} {n n' w : Int} (u : EZ V n) (n0 : 0 ≤ n) (h : DRX V n V' n' w) : EZ V' n' := by
  obtain ⟨t, h1, _⟩ := h
  exact (u.unr (n := n.toNat) (by omega)).2.1.drt h1
theorem EZ.set {V : Int → It} {n k : Int} {x : It} (h : EZ V n) (h5 : V k 0 ≤ 5) (hx : x 0 ≤ 5) : EZ (uZ V k x) n := fun e a b c => by
  have z : e ≠ k := fun z => by rw [z, uZ_eq] at c; omega
  rw [uZ_ne z] at c
  obtain ⟨j, q0, q1, q2, q3⟩ := h e a b c
  have jk : j ≠ k := fun z => by rw [z] at q2; omega
  refine ⟨j, q0, q1, by rw [uZ_ne jk]; exact q2, fun i s t => ?_⟩
  by_cases y : i = k
  · rw [y, uZ_eq]; exact hx
  · rw [uZ_ne y]; exact q3 i s t
theorem EZ.als {n : Nat} {N : Int} {V V' : Int → It} {w : Int} (u : EZ V N) (h : ALS n V V' w) : EZ V' N := by
  induction n generalizing V' w with
  | zero => rw [h.1]; exact u
  | succ n ih =>
    obtain ⟨V1, w1, d, h1, h2, h3⟩ := h
    rcases h2 with ⟨j, a, b, c, e⟩ | ⟨a, b, c⟩
    · rw [c]
      refine (ih h1).set a.2 ?_
      show uZ (uZ (uZ (uZ (uZ (V1 n) 0 0) 3 _) 4 _) 5 0) 6 0 0 ≤ 5
      rw [uZ_ne (by decide), uZ_ne (by decide), uZ_ne (by decide), uZ_ne (by decide), uZ_eq]
      decide
    · rw [b]; exact ih h1
theorem EZ.li {V : Int → It} {n k p : Int} (h : EZ V n) (h5 : V k 0 ≤ 5) (hp : 0 ≤ p ∧ p ≤ k ∧ k < n) : EZ (liV V k p) n := by
  have lp : ∀ i, i = p → liV V k p i 0 = V k 0 := fun i z => by unfold liV; rw [if_pos z]
  have lm : ∀ i, p < i → i ≤ k → liV V k p i 0 = V (i - 1) 0 := fun i y z => by unfold liV; rw [if_neg (by omega), if_pos ⟨y, z⟩]
  have lo : ∀ i, (i < p ∨ k < i) → liV V k p i 0 = V i 0 := fun i y => by unfold liV; rw [if_neg (by omega), if_neg (by omega)]
  have chain : ∀ e e' j j', lnA V e j → (e' = e ∧ (e < p ∨ k < e) ∨ e' = e + 1 ∧ p ≤ e ∧ e < k) → (j' = j ∧ (j < p ∨ k < j) ∨ j' = j + 1 ∧ p ≤ j ∧ j < k) → lnA (liV V k p) e' j' := fun e e' j j' q he hj => by
    obtain ⟨q0, q1, q2, q3⟩ := q
    refine ⟨by omega, by omega, ?_, fun i s t => ?_⟩
    · rcases hj with ⟨z1, z2⟩ | ⟨z1, z2⟩
      · rw [z1, lo j z2]; exact q2
      · rw [z1, lm (j + 1) (by omega) (by omega), show j + 1 - 1 = j by omega]; exact q2
    · by_cases x : i = p
      · rw [lp i x]; exact h5
      · by_cases y : p < i ∧ i ≤ k
        · rw [lm i y.1 y.2]; exact q3 (i - 1) (by omega) (by omega)
        · rw [lo i (by omega)]; exact q3 i (by omega) (by omega)
  intro e a b c
  by_cases x : e = p
  · rw [lp e x] at c; omega
  · by_cases y : p < e ∧ e ≤ k
    · rw [lm e y.1 y.2] at c
      obtain ⟨j, q⟩ := h (e - 1) (by omega) (by omega) c
      have jk : j ≠ k := fun z => by have := q.2.1; omega
      by_cases w : j < p ∨ k < j
      · exact ⟨j, chain (e - 1) e j j q (Or.inr (by omega)) (Or.inl ⟨rfl, w⟩)⟩
      · exact ⟨j + 1, chain (e - 1) e j (j + 1) q (Or.inr (by omega)) (Or.inr (by omega))⟩
    · rw [lo e (by omega)] at c
      obtain ⟨j, q⟩ := h e a b c
      have jk : j ≠ k := fun z => by have z2 := q.2.2.1; rw [z] at z2; omega
      by_cases w : j < p ∨ k < j
      · exact ⟨j, chain e e j j q (Or.inl (by omega)) (Or.inl ⟨rfl, w⟩)⟩
      · exact ⟨j + 1, chain e e j (j + 1) q (Or.inl (by omega)) (Or.inr (by omega))⟩
theorem EZ.mvt {H : Int → Prop} {n q p a : Int} {t : Nat} {V A : Int → It} (u : EZ V n) (h : MVT H n q t V p A a) (h0 : 0 ≤ p) (h1 : q < n) : EZ A n ∧ a = p + t := by
  induction t generalizing A a with
  | zero => rw [h.1, h.2]; exact ⟨u, by omega⟩
  | succ t ih =>
    obtain ⟨V1, p1, k, g1, g2, g3, g4⟩ := h
    obtain ⟨i1, i2⟩ := ih g1
    have z1 := g2.1
    have z2 := g2.2.1
    rw [g3, g4]
    exact ⟨i1.li g2.2.2.1.1 (by omega), by omega⟩
theorem EZ.mva {H : Int → Prop} {n w : Int} {t : Nat} {V V' : Int → It} (u : EZ V n) (h : MVA H n t V V' w) (ht : (t : Int) ≤ n) : EZ V' n := by
  induction t generalizing V' w with
  | zero => rw [h.1]; exact u
  | succ t ih =>
    obtain ⟨V1, w1, d, h1, h2, h3⟩ := h
    have i := ih h1 (by omega)
    rcases h2 with ⟨a, b, c⟩ | ⟨a, q, b, c⟩
    · rw [b]; exact i
    · rcases c with ⟨_, c, _⟩ | ⟨_, s, p', c, _⟩
      · rw [c]; exact i
      · exact (i.mvt c (by omega) b.2.1).1
theorem EZ.sh {V : Int → It} {n : Int} {nb : Int → Int} {bg : Int → Prop} (u : EZ V n) : EZ (shV V n nb bg) n := by
  refine u.cg (fun i a b => ?_)
  have ek : ubV V n nb bg i 0 = V i 0 := by
    unfold ubV
    by_cases z : (0 ≤ i ∧ i < n) ∧ V i 0 = 12 ∧ RCG V n 0 (fun _ => False) i ∧ ∃ u, rdI (V i) u ∧ lsV V n nb bg i u
    · rw [dI_y z]
      unfold goI
      rw [uZ_ne (by decide), uZ_ne (by decide), uZ_ne (by decide), uZ_ne (by decide), uZ_ne (by decide)]
    · rw [dI_n z]
  unfold shV
  rw [if_pos ⟨a, b⟩]
  show (if (0 : Int) = 1 ∧ _ then _ else if ((0 : Int) = 4 ∨ (0 : Int) = 6 ∨ (0 : Int) = 8 ∨ (0 : Int) = 10) ∧ _ then _ else ubV V n nb bg i 0) = V i 0
  rw [if_neg (fun z => absurd z.1 (by decide)), if_neg (fun z => absurd z.1 (by decide)), ek]
def EZ1 (O : Int → It) (m : Int) : Prop := ∀ k, 0 ≤ k → k < m → O k 0 = 14 → k = 0 ∨ ∃ j, lnA O k j
def bzI (V : Int → It) (k : Int) (s : BB) : Prop := 1 ≤ s.1 ∧ EZ1 s.2 s.1 ∧ ((∃ j, lnA V k j) → ∃ j, lnA s.2 s.1 j)
theorem EZ1.add {O : Int → It} {m : Int} {x : It} (h : EZ1 O m) (hx : x 0 = 14 → ∃ j, lnA O m j) : EZ1 (uZ O m x) (m + 1) := fun k a b e => by
  by_cases z : k = m
  · subst z
    rw [uZ_eq] at e
    obtain ⟨j, q⟩ := hx e
    exact Or.inr ⟨j, q.cg (fun i c d => by rw [uZ_ne (by omega)])⟩
  · rw [uZ_ne z] at e
    rcases h k a (by omega) e with q | ⟨j, q⟩
    · exact Or.inl q
    · exact Or.inr ⟨j, q.cg (fun i c d => by rw [uZ_ne (by omega)])⟩
theorem ln_no {V : Int → It} : ¬ ∃ j, lnA V 0 j := fun ⟨j, q⟩ => by have := q.1; have := q.2.1; omega
theorem bzI.add0 {V : Int → It} {s : BB} {x : It} (h : bzI V 0 s) (hx : x 0 ≠ 14) : bzI V 0 (bA s x) := ⟨by have := h.1; show 1 ≤ s.1 + 1; omega, h.2.1.add (fun e => absurd e hx), fun q => absurd q ln_no⟩
theorem bz_1 {V : Int → It} {f base P : Int} {na : Int → Int} {x : It} {s : BB} {n : Nat} (h : bzI V 0 s) : bzI V 0 (mb1 f base P na x s n) := by
  induction n with
  | zero => exact h
  | succ n ih =>
    show bzI V 0 (nmS f base P na x n (mb1 f base P na x s n))
    unfold nmS
    by_cases a : (n : Int) < P
    · rw [if_pos a]
      exact (ih.add0 (by rw [mk_0]; decide)).add0 (by rw [mk_0]; decide)
    · rw [if_neg a]
      exact ih.add0 (by rw [mk_0]; decide)
theorem bz_2 {V : Int → It} {base : Int} {lv : Int → Prop} {s : BB} {n : Nat} (h : bzI V 0 s) : bzI V 0 (mb2 base lv s n) := by
  induction n with
  | zero => exact h
  | succ n ih =>
    show bzI V 0 (dI (lv n) (bA (mb2 base lv s n) _) (mb2 base lv s n))
    by_cases a : lv n
    · rw [dI_y a]
      exact ih.add0 (by rw [mk_0]; decide)
    · rw [dI_n a]; exact ih
theorem bz_3 {V : Int → It} {f base lb to out n : Int} {s : BB} {k : Nat} (h : bzI V 0 s) (u : EZ V n) (hk : (k : Int) ≤ n) : bzI V k (mb3 f base lb to out V s k) := by
  induction k with
  | zero => exact h
  | succ k ih =>
    obtain ⟨i0, i1, i2⟩ := ih (by omega)
    rw [show ((k + 1 : Nat) : Int) = (k : Int) + 1 by omega]
    show bzI V ((k : Int) + 1) (if V k 0 = 7 then bA (bA (mb3 f base lb to out V s k) (uZ (uZ (shO base (V k)) 0 0) 1 to)) (mkI 8 out 0 0 0 0) else bA (mb3 f base lb to out V s k) (mlI f base lb (V k)))
    by_cases a : V k 0 = 7
    · rw [if_pos a]
      refine ⟨by show 1 ≤ (mb3 f base lb to out V s k).1 + 1 + 1; omega, (i1.add (fun e => absurd e (by rw [uZ_ne (by decide), uZ_eq]; decide))).add (fun e => absurd e (by rw [mk_0]; decide)), fun q => ?_⟩
      rcases ln_back q with q | ⟨q, -⟩
      · omega
      · omega
    · rw [if_neg a]
      refine ⟨by show 1 ≤ (mb3 f base lb to out V s k).1 + 1; omega, i1.add (fun e => i2 (u k (by omega) (by omega) (by rw [ml_0] at e; exact e))), fun q => ?_⟩
      rcases ln_back q with q | ⟨q, z⟩
      · exact ln_line (by omega) (by rw [ml_0]; exact q)
      · exact ln_pure (by rw [ml_0]; exact q) (i2 z)
theorem bz_m {f base lb out to P N nq : Int} {na : Int → Int} {x : It} {lv : Int → Prop} {V : Int → It} (u : EZ V nq) (hn : 0 ≤ nq) : 1 ≤ (mkB f base lb out to P N nq na x lv V).1 ∧ EZ1 (mkB f base lb out to P N nq na x lv V).2 (mkB f base lb out to P N nq na x lv V).1 := by
  unfold mkB
  have b0 : bzI V 0 (bA (0, fun _ => zI) (mkI 14 f 0 0 0 0)) := ⟨by show (1 : Int) ≤ 0 + 1; decide, fun k a b e => Or.inl (by have b : k < 0 + 1 := b; omega), fun q => absurd q ln_no⟩
  have b3 := bz_3 (f := f) (base := base) (lb := lb) (to := to) (out := out) (k := nq.toNat) (bz_2 (base := base) (lv := lv) (n := 192) (bz_1 (f := f) (base := base) (P := P) (na := na) (x := x) (n := N.toNat) b0)) u (by omega)
  obtain ⟨c0, c1, c2⟩ := b3
  exact ⟨by show 1 ≤ (mb3 f base lb to out V (mb2 base lv (mb1 f base P na x (bA (0, fun _ => zI) (mkI 14 f 0 0 0 0)) N.toNat) 192) nq.toNat).1 + 1 + 1; omega, (c1.add (fun e => absurd e (by rw [mk_0]; decide))).add (fun e => absurd e (by rw [mk_0]; decide))⟩
theorem EZ.sp {V B : Int → It} {n k a j0 : Int} (u : EZ V n) (h10 : V k 0 = 10) (hl : lnA V k j0) (ub : EZ1 B a) (hk : 0 ≤ k ∧ k < n) (a0 : 1 ≤ a) : EZ (spV V k a B) (n + a - 1) := by
  have s1 : ∀ i, i < k → spV V k a B i 0 = V i 0 := fun i z => by unfold spV; rw [if_pos z]
  have s2 : ∀ i, k ≤ i → i < k + a → spV V k a B i 0 = B (i - k) 0 := fun i y z => by unfold spV; rw [if_neg (by omega), if_pos z]
  have s3 : ∀ i, k + a ≤ i → spV V k a B i 0 = V (i - a + 1) 0 := fun i z => by unfold spV; rw [if_neg (by omega), if_neg (by omega)]
  intro e x y c
  by_cases p : e < k
  · rw [s1 e p] at c
    obtain ⟨j, q⟩ := u e x (by omega) c
    exact ⟨j, q.cg (fun i _ z => s1 i (by omega))⟩
  · by_cases r : e < k + a
    · rw [s2 e (by omega) r] at c
      rcases ub (e - k) (by omega) (by omega) c with q | ⟨j, q0, q1, q2, q3⟩
      · rw [show e = k by omega]
        exact ⟨j0, hl.cg (fun i _ z => s1 i z)⟩
      · refine ⟨k + j, by omega, by omega, by rw [s2 _ (by omega) (by omega), show k + j - k = j by omega]; exact q2, fun i s t => ?_⟩
        rw [s2 i (by omega) (by omega)]
        exact q3 (i - k) (by omega) (by omega)
    · rw [s3 e (by omega)] at c
      obtain ⟨j, q0, q1, q2, q3⟩ := u (e - a + 1) (by omega) (by omega) c
      have jk : k < j := by
        by_cases w : k < j
        · exact w
        · by_cases w2 : j = k
          · rw [w2] at q2; omega
          · have := q3 k (by omega) (by omega); omega
      refine ⟨j + a - 1, by omega, by omega, by rw [s3 _ (by omega), show j + a - 1 - a + 1 = j by omega]; exact q2, fun i s t => ?_⟩
      rw [s3 i (by omega)]
      exact q3 _ (by omega) (by omega)
theorem MLR.ez {r C : Int} {Gs : Int → RTS} {PM NM : Int → Int} {t : Nat} {H H' : RTS} {k k' w : Int} (h : MLR r Gs PM NM t H k H' k' w) (k0 : 0 ≤ k) (u : UNQ H.V H.n) (c : CLQ H.V H.n C) (hg : ∀ q, 0 ≤ q → q < C → 0 ≤ (Gs q).n ∧ UNQ (Gs q).V (Gs q).n ∧ LZ (Gs q).V (Gs q).n) (z : EZ H.V H.n) (hz : ∀ q, 0 ≤ q → q < C → EZ (Gs q).V (Gs q).n) : EZ H'.V H'.n := by
  induction t generalizing H' k' w with
  | zero => rw [h.1]; exact z
  | succ t ih =>
    obtain ⟨H1, k1, w1, d, h1, h2, h3, h4⟩ := h
    obtain ⟨i0, i1, i2⟩ := h1.un k0 u c hg
    have i3 := ih h1
    rcases h3 with ⟨base, lb, lq, j0, m, m1, m2, m3, m4, e1, e2, e3⟩ | ⟨m, e1, e2, e3⟩
    · have q := i2 k1 i0 h2 m.1
      have b := bz_m (f := H1.F) (base := base) (lb := lb) (out := lb + lq) (to := H1.V k1 1) (P := PM (H1.V k1 2)) (N := NM (H1.V k1 2)) (na := (Gs (H1.V k1 2)).na 0) (x := H1.V k1) (lv := lvS (Gs (H1.V k1 2)) (PM (H1.V k1 2))) (hz _ q.1 q.2) (hg _ q.1 q.2).1
      rw [e1]
      exact i3.sp m.1 m4 b.2 ⟨i0, h2⟩ b.1
    · rw [e1]; exact i3
theorem PSV.ez {w r C : Int} {Gs : Int → RTS} {PM NM : Int → Int} {H H' : RTS} {v : Int} (h : PSV w r Gs PM NM H H' v) (n0 : 0 ≤ H.n) (u : UNQ H.V H.n) (c : CLQ H.V H.n C) (hg : ∀ q, 0 ≤ q → q < C → 0 ≤ (Gs q).n ∧ UNQ (Gs q).V (Gs q).n ∧ LZ (Gs q).V (Gs q).n) (z : EZ H.V H.n) (hz : ∀ q, 0 ≤ q → q < C → EZ (Gs q).V (Gs q).n) : EZ H'.V H'.n := by
  rcases h with ⟨-, ⟨K, e⟩, -⟩ | ⟨-, h, -⟩ | ⟨-, h, e, -⟩ | ⟨-, h, e, -⟩ | ⟨-, t, h⟩ | ⟨-, nb, -, -, e, -⟩
  · have q := (z.fold (n := H.n.toNat) (by omega)).2.1
    rw [e] at q
    exact q
  · exact z.drop n0 h
  · rw [e]; exact z.mva h (by omega)
  · rw [e]; exact z.als h
  · exact h.ez (Int.le_refl 0) u c hg z hz
  · rw [e]; exact z.sh
def EZA (σ : MS) : Prop := ∀ q, 0 ≤ q → q < σ.1 10 → EZ (rV σ q) (σ.2.1 9 q)
theorem EZA.step {σ τ : MS} {w r v : Int} (h : PSQ σ τ w r v) (g : GDA σ) (e10 : τ.1 10 = σ.1 10) (u : UNA σ) (z : EZA σ) : EZA τ := fun q q0 q1 => by
  rw [e10] at q1
  have oth : rS τ q = rS σ q → EZ (rV τ q) (τ.2.1 9 q) := fun e => by
    rw [show τ.2.1 9 q = σ.2.1 9 q from congrArg RTS.n e, show rV τ q = rV σ q from congrArg RTS.V e]
    exact z q q0 q1
  rcases h with ⟨_, _, h⟩ | ⟨hw, h1, h2⟩
  · exact oth (h q)
  · by_cases e : q = r
    · subst e
      have gq := g.2 q q0 q1
      exact h1.ez (C := σ.1 10) (by show 0 ≤ σ.2.1 9 q; have := gq.1; omega) (u q q0 q1) (cl_rs gq) (fun j a b => ⟨by show 0 ≤ σ.2.1 9 j; have := (g.2 j a b).1; omega, u j a b, lz_rs (g.2 j a b)⟩) (z q q0 q1) (fun j a b => z j a b)
    · exact oth (h2 q q0 q1 e)
theorem ez_one {σ : MS} {r : Int} (g : GDR σ r) (h1 : σ.2.1 14 r = 1) : EZ (rV σ r) (σ.2.1 9 r) := fun k a b c => by
  rw [rv_at a b] at c
  obtain ⟨fr, lf, q⟩ := g.2.2.2.2.2.1
  have c : iK σ r k = 14 := c
  have e := q.2.2.1 k a b (by omega) (by omega)
  have e2 := e.2.1 c
  have e3 := q.2.1 (k + 1) (by omega) e.1
  rw [h1] at e3
  omega
end
section
def wth (σ : MS) (c k v : Int) : Int := if k = 2 then σ.2.1 82 (192 * c + v) else v
def wA (σ : MS) (t x n : Int) : Int := wth σ t (σ.2.1 7 (4 * x + n)) (σ.2.1 8 (4 * x + n))
theorem wA_0 {σ : MS} {t x v : Int} (h : v = wth σ t (σ.2.1 7 (4 * x)) (σ.2.1 8 (4 * x))) : v = wA σ t x 0 := by
  unfold wA
  rw [Int.add_zero]
  exact h
def ZR (k : Nat) (a b : Int) (σ τ : MS) : Prop := ∀ j, τ.2.1 k j = if a ≤ j ∧ j < b then 0 else σ.2.1 k j
theorem ZR.z {k : Nat} {a b : Int} {σ : MS} (e : b = a) : ZR k a b σ σ := fun j => by rw [if_neg (by omega)]
theorem ZR.put {k : Nat} {a b b2 : Int} {σ τ : MS} (h : ZR k a b σ τ) (hb : a ≤ b) (e : b2 = b + 1) : ZR k a b2 σ (sA k b 0 τ) := fun j => by
  by_cases z : j = b
  · rw [z, show (sA k b 0 τ).2.1 k b = 0 from ra_eq, if_pos ⟨hb, by omega⟩]
  · rw [show (sA k b 0 τ).2.1 k j = τ.2.1 k j from ra_ne z rfl, h j]
    by_cases y : a ≤ j ∧ j < b
    · rw [if_pos y, if_pos ⟨y.1, by omega⟩]
    · rw [if_neg y, if_neg (by omega)]
theorem ZR.l {k : Nat} {a b : Int} {σ σ1 τ : MS} (h : ZR k a b σ1 τ) (e : σ1.2.1 k = σ.2.1 k) : ZR k a b σ τ := fun j => by rw [h j, e]
theorem ZR.r {k : Nat} {a b : Int} {σ τ τ2 : MS} (h : ZR k a b σ τ) (e : τ2.2.1 k = τ.2.1 k) : ZR k a b σ τ2 := fun j => by rw [e]; exact h j
def pwR (H W : Int → Int) : Nat → (Int → Int) → Int → Int
  | 0, R => R
  | n + 1, R => uZ (pwR H W n R) (H n) (W n)
theorem pwR_c {H H2 W W2 R R2 : Int → Int} {n : Nat} (h : ∀ i : Int, 0 ≤ i → i < (n : Int) → H i = H2 i ∧ W i = W2 i) {g : Int} (hr : R g = R2 g) : pwR H W n R g = pwR H2 W2 n R2 g := by
  induction n with
  | zero => exact hr
  | succ n ih =>
    have q := h n (by omega) (by omega)
    show uZ (pwR H W n R) (H n) (W n) g = uZ (pwR H2 W2 n R2) (H2 n) (W2 n) g
    unfold uZ
    rw [q.1, q.2, ih (fun i a b => h i a (by omega))]
def hmP (σ : MS) (m q n : Int) : Int := if m = 2 then n else σ.2.1 18 (144 * q + n)
theorem hmp_of {σ : MS} {m q n v : Int} (h1 : m = 2 → v = n) (h2 : m ≠ 2 → v = σ.2.1 18 (144 * q + n)) : v = hmP σ m q n := by
  unfold hmP
  by_cases e : m = 2
  · rw [if_pos e]; exact h1 e
  · rw [if_neg e]; exact h2 e
theorem hmp_r {σ : MS} {m q n : Int} (hn : 0 ≤ n ∧ n < 192) (h : m ≠ 2 → 0 ≤ σ.2.1 18 (144 * q + n) ∧ σ.2.1 18 (144 * q + n) < 192) : 0 ≤ hmP σ m q n ∧ hmP σ m q n < 192 := by
  unfold hmP
  by_cases e : m = 2
  · rw [if_pos e]; exact hn
  · rw [if_neg e]; exact h e
def PWG (H W : Int → Int) (B : Int) (σ : MS) (n : Int) (τ : MS) : Prop := ∀ j, τ.2.1 82 j = if B ≤ j ∧ j < B + 192 then pwR H W n.toNat (fun g => σ.2.1 82 (B + g)) (j - B) else σ.2.1 82 j
theorem PWG.z {H W : Int → Int} {B : Int} {σ : MS} : PWG H W B σ 0 σ := fun j => by
  by_cases y : B ≤ j ∧ j < B + 192
  · rw [if_pos y]
    show σ.2.1 82 j = σ.2.1 82 (B + (j - B))
    rw [show B + (j - B) = j by omega]
  · rw [if_neg y]
theorem PWG.put {H W : Int → Int} {B n i w : Int} {σ τ : MS} (h : PWG H W B σ n τ) (n0 : 0 ≤ n) (hr : 0 ≤ H n ∧ H n < 192) (hi : i = B + H n) (hw : w = W n) : PWG H W B σ (n + 1) (sA 82 i w τ) := fun j => by
  have e : (n + 1).toNat = n.toNat + 1 := by omega
  have e2 : ((n.toNat : Nat) : Int) = n := by omega
  rw [e]
  have un : pwR H W (n.toNat + 1) (fun g => σ.2.1 82 (B + g)) = uZ (pwR H W n.toNat (fun g => σ.2.1 82 (B + g))) (H n) (W n) := by
    show uZ (pwR H W n.toNat (fun g => σ.2.1 82 (B + g))) (H ((n.toNat : Nat) : Int)) (W ((n.toNat : Nat) : Int)) = _
    rw [e2]
  rw [un]
  by_cases z : j = i
  · rw [z, show (sA 82 i w τ).2.1 82 i = w from ra_eq, if_pos (by omega), show i - B = H n by omega, uZ_eq]
    exact hw
  · rw [show (sA 82 i w τ).2.1 82 j = τ.2.1 82 j from ra_ne z rfl, h j]
    by_cases y : B ≤ j ∧ j < B + 192
    · rw [if_pos y, if_pos y, uZ_ne (by omega)]
    · rw [if_neg y, if_neg y]
theorem PWG.w {H W : Int → Int} {c n k v : Int} {σ τ : MS} (h : PWG H W (192 * c + 192) σ n τ) (hv : k = 2 → 0 ≤ v ∧ v < 192) : wth τ c k v = wth σ c k v := by
  unfold wth
  by_cases e : k = 2
  · have q := hv e
    rw [if_pos e, if_pos e, h (192 * c + v), if_neg (by omega)]
  · rw [if_neg e, if_neg e]
def ECX (σ : MS) (m q : Int) (τ : MS) : Prop := Fr [] [73, 78, 79, 80, 81, 82] [] σ τ ∧ τ.2.1 73 m = σ.2.1 73 m + 1 ∧ (τ.2.1 78 (9 * m + σ.2.1 73 m) = q ∧ τ.2.1 79 (9 * m + σ.2.1 73 m) = 0 ∧ τ.2.1 80 (9 * m + σ.2.1 73 m) = 0) ∧ (∀ j, j ≠ m → τ.2.1 73 j = σ.2.1 73 j) ∧ (∀ j, j ≠ 9 * m + σ.2.1 73 m → τ.2.1 78 j = σ.2.1 78 j ∧ τ.2.1 79 j = σ.2.1 79 j ∧ τ.2.1 80 j = σ.2.1 80 j) ∧ (ZR 81 (12 * (9 * m + σ.2.1 73 m)) (12 * (9 * m + σ.2.1 73 m) + 12) σ τ ∧ ZR 82 (192 * (9 * m + σ.2.1 73 m)) (192 * (9 * m + σ.2.1 73 m) + 192) σ τ)
def CLX7 (σ : MS) (m t x : Int) (σ2 : MS) : Prop := ∃ τ, ECX σ m (σ.2.1 5 x) τ ∧ Fr [] [82] [] τ σ2 ∧ PWG (hmP τ m (σ.2.1 5 x)) (wA τ t x) (192 * t + 192) τ (σ.2.1 11 (σ.2.1 5 x)) σ2
def RTX (σ : MS) (m c w v : Int) (σ2 : MS) : Prop :=
  (v = 2 ∧ σ.2.1 73 m = 1 ∧ σ2 = sA 75 m w (sA 73 m (σ.2.1 73 m - 1) σ)) ∨
  (v = 0 ∧ 2 ≤ σ.2.1 73 m ∧ σ2 = sA 79 (c - 1) (σ.2.1 79 (c - 1) + 1) (sA 82 (192 * (c - 1) + σ.2.1 4 (220 * (bkm m + σ.2.1 78 (c - 1)) + σ.2.1 79 (c - 1))) w (sA 73 m (σ.2.1 73 m - 1) σ)))
def JTO (σ : MS) (m t x j : Int) : Prop := (0 ≤ j ∧ j < σ.2.1 9 (bkm m + σ.2.1 78 t)) ∧ σ.2.1 3 (220 * (bkm m + σ.2.1 78 t) + j) = 13 ∧ σ.2.1 4 (220 * (bkm m + σ.2.1 78 t) + j) = σ.2.1 4 x
def STX (σ : MS) (m t x v : Int) (σ2 : MS) : Prop :=
  (v = 3 ∧ (σ.2.1 3 x = 10 ∨ σ.2.1 3 x = 14) ∧ dpt σ m = 9 ∧ σ2 = σ) ∨
  (σ.2.1 3 x = 7 ∧ RTX σ m t (wA σ t x 0) v σ2) ∨
  (σ.2.1 3 x = 0 ∧ v = 0 ∧ σ2 = sA 79 t (σ.2.1 79 t + 1) (sA 82 (192 * t + σ.2.1 4 x) (wA σ t x 0) σ)) ∨
  ((1 ≤ σ.2.1 3 x ∧ σ.2.1 3 x ≤ 5) ∧ v = 0 ∧ σ2 = sA 79 t (σ.2.1 79 t + 1) (sA 82 (192 * t + σ.2.1 4 x) (wkd (σ.2.1 3 x) (wA σ t x 0) (wA σ t x 1)) σ)) ∨
  (σ.2.1 3 x = 6 ∧ v = 0 ∧ σ2 = sA 79 t (σ.2.1 79 t + 1) (sA 76 m (σ.2.1 76 m + 1) (if σ.2.1 76 m < 200 then sA 77 (200 * m + σ.2.1 76 m) (wA σ t x 0) σ else σ))) ∨
  ((σ.2.1 3 x = 8 ∨ (σ.2.1 3 x = 9 ∧ wA σ t x 0 = 0)) ∧ v = 0 ∧ ∃ j, JTO σ m t x j ∧ σ2 = sA 79 t j σ) ∨
  (((σ.2.1 3 x = 9 ∧ wA σ t x 0 ≠ 0) ∨ σ.2.1 3 x = 12 ∨ σ.2.1 3 x = 13) ∧ v = 0 ∧ σ2 = sA 79 t (σ.2.1 79 t + 1) σ) ∨
  (σ.2.1 3 x = 11 ∧ v = 1 ∧ σ2 = sA 79 t (σ.2.1 79 t + 1) (sA 81 (12 * t + σ.2.1 5 x) (σ.2.1 4 x) σ)) ∨
  (σ.2.1 3 x = 14 ∧ v = 0 ∧ dpt σ m ≠ 9 ∧ σ2 = sA 79 t (σ.2.1 79 t + 1) (sA 81 (12 * t + σ.2.1 4 x) 0 (sA 80 t (σ.2.1 4 x) σ))) ∨
  (σ.2.1 3 x = 15 ∧ v = 0 ∧ σ2 = sA 79 t (σ.2.1 79 t + 1) (sA 80 t (σ.2.1 16 (12 * σ.2.1 78 t + σ.2.1 4 x)) σ)) ∨
  (σ.2.1 3 x = 10 ∧ v = 0 ∧ dpt σ m ≠ 9 ∧ CLX7 σ m t x σ2)
def STQ (σ : MS) (m v : Int) (σ2 : MS) : Prop := STX σ m (9 * m + σ.2.1 73 m - 1) (220 * (bkm m + σ.2.1 78 (9 * m + σ.2.1 73 m - 1)) + σ.2.1 79 (9 * m + σ.2.1 73 m - 1)) v σ2
def gST (w q v d e : Int) : Prop := v = 1 ∧ (w = 0 ∨ (w = 1 ∧ d ≤ q) ∨ (w = 2 ∧ e = 1))
def GWY (σ τ : MS) : Prop := RUN τ 0 ∧ Fr [68, 69, 70] [73, 75, 76, 77, 78, 79, 80, 81, 82] [] σ τ ∧ (0 ≤ τ.2.1 76 0 ∧ τ.2.1 76 0 ≤ 1000000000) ∧ 0 ≤ τ.1 70 ∧ τ.1 70 ≤ 1500000000
def RCH (w q : Int) : Nat → MS → Int → MS → Prop
  | 0, σ, e, τ => τ = σ ∧ e = 0
  | t + 1, σ, e, τ => ∃ e1 τ1 v τ2, RCH w q t σ e1 τ1 ∧ GWY σ τ1 ∧ STQ τ1 0 v τ2 ∧ (v = 0 ∨ v = 1) ∧ τ = sS 70 (τ1.1 70 + 1) τ2 ∧ ((e = 0 ∨ e = 1) ∧ (e = 1 ↔ e1 = 1 ∨ dpt τ 0 < q)) ∧ ¬ gST w q v (dpt τ 0) e
theorem RCH.s {w q i e e2 v : Int} {σ τ1 τ2 : MS} (h : RCH w q i.toNat σ e τ1) (i0 : 0 ≤ i) (gw : GWY σ τ1) (s : STQ τ1 0 v τ2) (hv : v = 0 ∨ v = 1) (he : (e2 = 0 ∨ e2 = 1) ∧ (e2 = 1 ↔ e = 1 ∨ dpt (sS 70 (τ1.1 70 + 1) τ2) 0 < q)) (hn : ¬ gST w q v (dpt (sS 70 (τ1.1 70 + 1) τ2) 0) e2) : RCH w q (i + 1).toNat σ e2 (sS 70 (τ1.1 70 + 1) τ2) := by
  rw [show (i + 1).toNat = i.toNat + 1 by omega]
  exact ⟨e, τ1, v, τ2, h, gw, s, hv, rfl, he, hn⟩
def GOE (w q nn : Int) (σ : MS) (v : Int) (σ2 : MS) : Prop := ∃ (t : Nat) (e : Int) (τ : MS), RCH w q t σ e τ ∧ GWY σ τ ∧ (((t : Int) = nn ∧ v = 2 ∧ σ2 = τ) ∨ ((t : Int) < nn ∧ ∃ k τ2, STQ τ 0 k τ2 ∧ ((k = 3 ∧ v = 3 ∧ σ2 = sS 69 1 τ2) ∨ (k = 2 ∧ v = 0 ∧ σ2 = sS 68 1 (sS 70 (τ.1 70 + 1) τ2)) ∨ (v = 1 ∧ σ2 = sS 70 (τ.1 70 + 1) τ2 ∧ ∃ e2, ((e2 = 0 ∨ e2 = 1) ∧ (e2 = 1 ↔ e = 1 ∨ dpt σ2 0 < q)) ∧ gST w q k (dpt σ2 0) e2))))
def GOF7 (σ : MS) (w nn v : Int) (σ2 : MS) : Prop :=
  (¬ (σ.1 67 ≠ 0 ∧ (0 ≤ w ∧ w ≤ 2) ∧ 1 ≤ nn ∧ nn ≤ 20000) ∧ v = -1 ∧ σ2 = sS 0 0 σ) ∨
  ((σ.1 67 ≠ 0 ∧ (0 ≤ w ∧ w ≤ 2) ∧ 1 ≤ nn ∧ nn ≤ 20000) ∧ ((σ.1 69 ≠ 0 ∧ v = 3 ∧ σ2 = sS 0 0 σ) ∨ (σ.1 69 = 0 ∧ σ.1 68 ≠ 0 ∧ v = 0 ∧ σ2 = sS 0 0 σ) ∨ (σ.1 69 = 0 ∧ σ.1 68 = 0 ∧ GOE w (dpt σ 0) nn (sS 0 0 σ) v σ2)))
def prW (a b c d n : Int) : Int := if n = 0 then a else if n = 1 then b else if n = 2 then c else d
def SMQ7 (σ : MS) (m x a b c d : Int) (τ : MS) : Prop := (∀ g, 0 ≤ g → g < 192 → τ.2.1 82 (192 * (9 * m) + g) = pwR (hmP σ m x) (prW a b c d) (σ.2.1 11 x).toNat (fun _ => 0) g) ∧ (∀ f, 0 ≤ f → f < 12 → τ.2.1 81 (12 * (9 * m) + f) = 0) ∧ τ.2.1 75 m = 0 ∧ (∀ j, (j < 192 * (9 * m) ∨ 192 * (9 * m) + 192 ≤ j) → τ.2.1 82 j = σ.2.1 82 j) ∧ (∀ j, (j < 12 * (9 * m) ∨ 12 * (9 * m) + 12 ≤ j) → τ.2.1 81 j = σ.2.1 81 j) ∧ ∀ j, j ≠ m → τ.2.1 75 j = σ.2.1 75 j
theorem smq_of {σ s σE σ2 : MS} {m x a b c d : Int} (e73 : s.2.1 73 m = 0) (z : ZR 81 (12 * (9 * m + s.2.1 73 m)) (12 * (9 * m + s.2.1 73 m) + 12) s σE ∧ ZR 82 (192 * (9 * m + s.2.1 73 m)) (192 * (9 * m + s.2.1 73 m) + 192) s σE) (p : PWG (hmP σE m x) (prW a b c d) (1728 * m) σE (σE.2.1 11 x) σ2) (fE : Fr [] [73, 78, 79, 80, 81, 82] [] s σE) (f2 : Fr [] [82] [] σE σ2) (e : (s.2.1 81 = σ.2.1 81 ∧ s.2.1 82 = σ.2.1 82) ∧ s.2.1 11 = σ.2.1 11 ∧ s.2.1 18 = σ.2.1 18) (h75 : s.2.1 75 m = 0 ∧ ∀ j, j ≠ m → s.2.1 75 j = σ.2.1 75 j) : SMQ7 σ m x a b c d σ2 := by
  obtain ⟨z1, z2⟩ := z
  rw [e73, show 9 * m + 0 = 9 * m by omega] at z1 z2
  have e11 : σE.2.1 11 = σ.2.1 11 := (fE.2.1 11 (by decide)).trans e.2.1
  have e18 : σE.2.1 18 = σ.2.1 18 := (fE.2.1 18 (by decide)).trans e.2.2
  have eh : hmP σE m x = hmP σ m x := by unfold hmP; rw [e18]
  rw [eh, e11] at p
  have f81 : σ2.2.1 81 = σE.2.1 81 := f2.2.1 81 (by decide)
  have f75 : σ2.2.1 75 = s.2.1 75 := (f2.2.1 75 (by decide)).trans (fE.2.1 75 (by decide))
  refine ⟨fun g g0 g1 => ?_, fun f f0 f1 => ?_, by rw [f75]; exact h75.1, fun j hj => ?_, fun j hj => ?_, fun j hj => by rw [f75]; exact h75.2 j hj⟩
  · rw [p (192 * (9 * m) + g), if_pos (by omega), show 192 * (9 * m) + g - 1728 * m = g by omega]
    refine pwR_c (fun i _ _ => ⟨rfl, rfl⟩) ?_
    show σE.2.1 82 (1728 * m + g) = 0
    rw [z2 _, if_pos (by omega)]
  · rw [f81, z1 _, if_pos (by omega)]
  · rw [p j, if_neg (by omega), z2 j, if_neg (by omega), e.1.2]
  · rw [f81, z1 j, if_neg (by omega), e.1.1]
def STS (σ : MS) (x a b c d v : Int) (τ : MS) : Prop := (v = 0 ∧ τ = sS 0 0 σ) ∨ (v = 1 ∧ (0 ≤ x ∧ x < σ.1 10) ∧ (τ.1 67 = 1 ∧ τ.1 68 = 0 ∧ τ.1 69 = 0 ∧ τ.1 70 = 0) ∧ (τ.2.1 73 0 = 1 ∧ (τ.2.1 78 0 = x ∧ τ.2.1 79 0 = 0 ∧ τ.2.1 80 0 = 0) ∧ τ.2.1 76 0 = 0) ∧ SMQ7 σ 0 x a b c d τ)
def RNA (σ : MS) (w v : Int) : Prop := (σ.1 67 = 0 ∧ v = -1) ∨ (σ.1 67 ≠ 0 ∧ ((w = 0 ∧ σ.1 68 ≠ 0 ∧ v = -1) ∨ (w = 0 ∧ σ.1 68 = 0 ∧ v = σ.2.1 79 (σ.2.1 73 0 - 1)) ∨ (w = 1 ∧ v = σ.2.1 76 0) ∨ (w = 2 ∧ v = σ.1 70) ∨ (w = 3 ∧ v = σ.2.1 75 0) ∨ (w = 4 ∧ σ.1 68 ≠ 0 ∧ v = 0) ∨ (w = 4 ∧ σ.1 68 = 0 ∧ v = dpt σ 0) ∨ (w = 5 ∧ σ.1 69 ≠ 0 ∧ v = 1) ∨ (w = 5 ∧ σ.1 69 = 0 ∧ v = 0) ∨ ((w < 0 ∨ 5 < w) ∧ v = -1)))
def PRA (σ : MS) (x v : Int) : Prop := ((σ.1 67 ≠ 0 ∧ 0 ≤ x ∧ x < 200 ∧ x < σ.2.1 76 0) ∧ v = σ.2.1 77 x) ∨ (¬ (σ.1 67 ≠ 0 ∧ 0 ≤ x ∧ x < 200 ∧ x < σ.2.1 76 0) ∧ v = 0)
end
section
set_option maxHeartbeats 4000000 in
set_option maxRecDepth 20000 in
theorem f_X12_worth (d : Nat) {b : Nat} {σ : MS} {c : Int} {k : Int} {w : Int} (hk : k = 2 → 0 ≤ 192 * c + w ∧ 192 * c + w < 5184) (hR : RG σ) (h_k : -2147483648 ≤ k ∧ k ≤ 2147483647) (h_w : -2147483648 ≤ w ∧ w ≤ 2147483647) : Tm (d + 1) m_X12_worth 0 b σ [(0, .ref b), (1, .int (iI c)), (2, .int (iI k)), (3, .int (iI w))] [] (fun ro σ2 => ∃ v : Int, ro = some (.int (iI v)) ∧ σ = σ2 ∧ (-2147483648 ≤ v ∧ v ≤ 2147483647) ∧ (v = wth σ c k w)) := by
  refine tm_iload_n dX12_worth_0 rfl 2 rfl ?_
  refine tm_iconst dX12_worth_1 ?_
  refine tm_icmp_ne (tgt := 20) dX12_worth_2 (by decide) ⟨by omega, by omega⟩ ⟨by decide, by decide⟩ (fun h1 => ?_) (fun h1 => ?_)
  · refine tm_iload_n dX12_worth_20 rfl 3 rfl ?_
    exact tm_iret rfl dX12_worth_21 (⟨_, rfl, rfl, by omega, by unfold wth; split <;> first | rfl | omega⟩)
  · refine tm_aload_n dX12_worth_5 rfl 0 rfl ?_
    refine tm_get (k := 82) (v := .ref (b + 1 + 53)) lay_12 dX12_worth_6 (by decide) fl12_179 rfl ?_
    refine tm_sipush dX12_worth_9 (by decide) ?_
    refine tm_iload_n dX12_worth_12 rfl 1 rfl ?_
    refine tm_imul dX12_worth_13 ?_
    refine tm_iload_n dX12_worth_14 rfl 3 rfl ?_
    refine tm_iadd dX12_worth_15 ?_
    refine tm_iald (z := (192 * c) + w) (v := σ.2.1 82 ((192 * c) + w)) dX12_worth_16 (show mT[53]? = some (82, 0, 5184) from rfl) (by omega) (by omega) (by decide) (rfl) ?_
    have g2 := RG.a hR 82 ((192 * c) + w)
    refine tm_goto (tgt := 21) dX12_worth_17 (by decide) ?_
    exact tm_iret rfl dX12_worth_21 (⟨_, rfl, rfl, by omega, by unfold wth; split <;> first | rfl | omega⟩)
set_option maxHeartbeats 4000000 in
set_option maxRecDepth 20000 in
theorem f_enter1 (d : Nat) {b : Nat} {σ0 : MS} {m : Int} {r : Int} {c : Int} {post : Option Value → MS → Prop} (hc : 0 ≤ c ∧ c < 27) (hx_72 : ∀ (f : Int) (σ : MS) , (Fr [] [81] [] σ0 σ) → (RG σ) → (ZR 81 (12 * c) (12 * c + 12) σ0 σ) → Tm (d + 1) m_X12_enterCall 72 b σ [(4, .int (iI f)), (3, .int (iI c)), (0, .ref b), (1, .int (iI m)), (2, .int (iI r))] [] post) : ∀ (n : Nat) (f : Int) (σ : MS) , (Fr [] [81] [] σ0 σ) → (RG σ) → (0 ≤ f ∧ f ≤ 12) → (ZR 81 (12 * c) (12 * c + f) σ0 σ) → (12 - f).toNat = n → Tm (d + 1) m_X12_enterCall 46 b σ [(4, .int (iI f)), (3, .int (iI c)), (0, .ref b), (1, .int (iI m)), (2, .int (iI r))] [] post := by
  intro n
  induction n using Nat.strongRecOn with
  | _ n ih =>
    intro f σ hF hR h0 hz hm
    refine tm_iload dX12_enterCall_46 0 rfl ?_
    refine tm_bipush dX12_enterCall_48 (by decide) ?_
    refine tm_icmp_ge (tgt := 72) dX12_enterCall_50 (by decide) ⟨by omega, by omega⟩ ⟨by decide, by decide⟩ (fun h1 => ?_) (fun h1 => ?_)
    · exact tm_sub [0, 1, 2, 3, 4] rfl (hx_72 (f) σ (Fr.rfl.trans (Fr.sub hF (by decide) (by decide) (by decide))) hR (by rw [show 12 * c + 12 = 12 * c + f by omega]; exact hz))
    · refine tm_aload_n dX12_enterCall_53 rfl 2 rfl ?_
      refine tm_get (k := 81) (v := .ref (b + 1 + 52)) lay_12 dX12_enterCall_54 (by decide) fl12_176 rfl ?_
      refine tm_bipush dX12_enterCall_57 (by decide) ?_
      refine tm_iload_n dX12_enterCall_59 rfl 1 rfl ?_
      refine tm_imul dX12_enterCall_60 ?_
      refine tm_iload dX12_enterCall_61 0 rfl ?_
      refine tm_iadd dX12_enterCall_63 ?_
      refine tm_iconst dX12_enterCall_64 ?_
      refine tm_iast (z := (12 * c) + f) (v := 0) dX12_enterCall_65 (show mT[52]? = some (81, 0, 324) from rfl) (by omega) (by omega) (by decide) ?_
      refine tm_iinc (q0 := 0) (L' := [(4, .int (iI (f + 1))), (3, .int (iI c)), (0, .ref b), (1, .int (iI m)), (2, .int (iI r))]) dX12_enterCall_66 rfl (by decide) rfl ?_
      refine tm_goto (tgt := 46) dX12_enterCall_69 (by decide) ?_
      exact tm_sub [0, 1, 2, 3, 4] rfl (ih _ (by omega) (f + 1) (sA 81 ((12 * c) + f) (0) σ) ((Fr.rfl.trans (Fr.sub hF (by decide) (by decide) (by decide))).A (by decide)) (hR.A (by omega)) (by omega) (hz.put (by omega) (by omega)) rfl)
set_option maxHeartbeats 4000000 in
set_option maxRecDepth 20000 in
theorem f_enter2 (d : Nat) {b : Nat} {σ0 : MS} {m : Int} {r : Int} {c : Int} {post : Option Value → MS → Prop} (hc : 0 ≤ c ∧ c < 27) (hx_103 : ∀ (f : Int) (σ : MS) , (Fr [] [82] [] σ0 σ) → (RG σ) → (ZR 82 (192 * c) (192 * c + 192) σ0 σ) → Tm (d + 1) m_X12_enterCall 103 b σ [(4, .int (iI f)), (3, .int (iI c)), (0, .ref b), (1, .int (iI m)), (2, .int (iI r))] [] post) : ∀ (n : Nat) (f : Int) (σ : MS) , (Fr [] [82] [] σ0 σ) → (RG σ) → (0 ≤ f ∧ f ≤ 192) → (ZR 82 (192 * c) (192 * c + f) σ0 σ) → (192 - f).toNat = n → Tm (d + 1) m_X12_enterCall 75 b σ [(4, .int (iI f)), (3, .int (iI c)), (0, .ref b), (1, .int (iI m)), (2, .int (iI r))] [] post := by
  intro n
  induction n using Nat.strongRecOn with
  | _ n ih =>
    intro f σ hF hR h0 hz hm
    refine tm_iload dX12_enterCall_75 0 rfl ?_
    refine tm_sipush dX12_enterCall_77 (by decide) ?_
    refine tm_icmp_ge (tgt := 103) dX12_enterCall_80 (by decide) ⟨by omega, by omega⟩ ⟨by decide, by decide⟩ (fun h1 => ?_) (fun h1 => ?_)
    · exact tm_sub [0, 1, 2, 3, 4] rfl (hx_103 (f) σ (Fr.rfl.trans (Fr.sub hF (by decide) (by decide) (by decide))) hR (by rw [show 192 * c + 192 = 192 * c + f by omega]; exact hz))
    · refine tm_aload_n dX12_enterCall_83 rfl 2 rfl ?_
      refine tm_get (k := 82) (v := .ref (b + 1 + 53)) lay_12 dX12_enterCall_84 (by decide) fl12_179 rfl ?_
      refine tm_sipush dX12_enterCall_87 (by decide) ?_
      refine tm_iload_n dX12_enterCall_90 rfl 1 rfl ?_
      refine tm_imul dX12_enterCall_91 ?_
      refine tm_iload dX12_enterCall_92 0 rfl ?_
      refine tm_iadd dX12_enterCall_94 ?_
      refine tm_iconst dX12_enterCall_95 ?_
      refine tm_iast (z := (192 * c) + f) (v := 0) dX12_enterCall_96 (show mT[53]? = some (82, 0, 5184) from rfl) (by omega) (by omega) (by decide) ?_
      refine tm_iinc (q0 := 0) (L' := [(4, .int (iI (f + 1))), (3, .int (iI c)), (0, .ref b), (1, .int (iI m)), (2, .int (iI r))]) dX12_enterCall_97 rfl (by decide) rfl ?_
      refine tm_goto (tgt := 75) dX12_enterCall_100 (by decide) ?_
      exact tm_sub [0, 1, 2, 3, 4] rfl (ih _ (by omega) (f + 1) (sA 82 ((192 * c) + f) (0) σ) ((Fr.rfl.trans (Fr.sub hF (by decide) (by decide) (by decide))).A (by decide)) (hR.A (by omega)) (by omega) (hz.put (by omega) (by omega)) rfl)
set_option maxHeartbeats 4000000 in
set_option maxRecDepth 20000 in
theorem f_X12_enterCall (d : Nat) {b : Nat} {σ : MS} {m : Int} {r : Int} (hR : RG σ) (hm : 0 ≤ m ∧ m ≤ 2) (hc : 0 ≤ σ.2.1 73 m ∧ σ.2.1 73 m ≤ 8) (h_r : -2147483648 ≤ r ∧ r ≤ 2147483647) : Tm (d + 1) m_X12_enterCall 0 b σ [(0, .ref b), (1, .int (iI m)), (2, .int (iI r))] [] (fun ro σ2 => ro = none ∧ (Fr [] [73, 78, 79, 80, 81, 82] [] σ σ2) ∧ (RG σ2) ∧ (σ2.2.1 73 m = σ.2.1 73 m + 1) ∧ (σ2.2.1 78 (9 * m + σ.2.1 73 m) = r ∧ σ2.2.1 79 (9 * m + σ.2.1 73 m) = 0 ∧ σ2.2.1 80 (9 * m + σ.2.1 73 m) = 0) ∧ (∀ j, j ≠ m → σ2.2.1 73 j = σ.2.1 73 j) ∧ (∀ j, j ≠ 9 * m + σ.2.1 73 m → σ2.2.1 78 j = σ.2.1 78 j ∧ σ2.2.1 79 j = σ.2.1 79 j ∧ σ2.2.1 80 j = σ.2.1 80 j) ∧ (ZR 81 (12 * (9 * m + σ.2.1 73 m)) (12 * (9 * m + σ.2.1 73 m) + 12) σ σ2 ∧ ZR 82 (192 * (9 * m + σ.2.1 73 m)) (192 * (9 * m + σ.2.1 73 m) + 192) σ σ2)) := by
  refine tm_bipush dX12_enterCall_0 (by decide) ?_
  refine tm_iload_n dX12_enterCall_2 rfl 1 rfl ?_
  refine tm_imul dX12_enterCall_3 ?_
  refine tm_aload_n dX12_enterCall_4 rfl 0 rfl ?_
  refine tm_get (k := 73) (v := .ref (b + 1 + 44)) lay_12 dX12_enterCall_5 (by decide) fl12_152 rfl ?_
  refine tm_iload_n dX12_enterCall_8 rfl 1 rfl ?_
  refine tm_iald (z := m) (v := σ.2.1 73 m) dX12_enterCall_9 (show mT[44]? = some (73, 0, 3) from rfl) (by omega) (by omega) (by decide) (rfl) ?_
  have g1 := RG.a hR 73 (m)
  refine tm_iadd dX12_enterCall_10 ?_
  refine tm_istore_n (L' := [(3, .int (iI ((9 * m) + (σ.2.1 73 m)))), (0, .ref b), (1, .int (iI m)), (2, .int (iI r))]) dX12_enterCall_11 rfl (by decide) rfl ?_
  refine tm_aload_n dX12_enterCall_12 rfl 1 rfl ?_
  refine tm_get (k := 73) (v := .ref (b + 1 + 44)) lay_12 dX12_enterCall_13 (by decide) fl12_152 rfl ?_
  refine tm_iload_n dX12_enterCall_16 rfl 2 rfl ?_
  refine tm_dup2 dX12_enterCall_17 rfl rfl ?_
  refine tm_iald (z := m) (v := σ.2.1 73 m) dX12_enterCall_18 (show mT[44]? = some (73, 0, 3) from rfl) (by omega) (by omega) (by decide) (rfl) ?_
  have g2 := RG.a hR 73 (m)
  refine tm_iconst dX12_enterCall_19 ?_
  refine tm_iadd dX12_enterCall_20 ?_
  refine tm_iast (z := m) (v := (σ.2.1 73 m) + 1) dX12_enterCall_21 (show mT[44]? = some (73, 0, 3) from rfl) (by omega) (by omega) (by decide) ?_
  refine tm_aload_n dX12_enterCall_22 rfl 1 rfl ?_
  refine tm_get (k := 78) (v := .ref (b + 1 + 49)) lay_12 dX12_enterCall_23 (by decide) fl12_167 rfl ?_
  refine tm_iload_n dX12_enterCall_26 rfl 0 rfl ?_
  refine tm_iload_n dX12_enterCall_27 rfl 3 rfl ?_
  refine tm_iast (z := (9 * m) + (σ.2.1 73 m)) (v := r) dX12_enterCall_28 (show mT[49]? = some (78, 0, 27) from rfl) (by omega) (by omega) (by decide) ?_
  refine tm_aload_n dX12_enterCall_29 rfl 1 rfl ?_
  refine tm_get (k := 79) (v := .ref (b + 1 + 50)) lay_12 dX12_enterCall_30 (by decide) fl12_170 rfl ?_
  refine tm_iload_n dX12_enterCall_33 rfl 0 rfl ?_
  refine tm_iconst dX12_enterCall_34 ?_
  refine tm_iast (z := (9 * m) + (σ.2.1 73 m)) (v := 0) dX12_enterCall_35 (show mT[50]? = some (79, 0, 27) from rfl) (by omega) (by omega) (by decide) ?_
  refine tm_aload_n dX12_enterCall_36 rfl 1 rfl ?_
  refine tm_get (k := 80) (v := .ref (b + 1 + 51)) lay_12 dX12_enterCall_37 (by decide) fl12_173 rfl ?_
  refine tm_iload_n dX12_enterCall_40 rfl 0 rfl ?_
  refine tm_iconst dX12_enterCall_41 ?_
  refine tm_iast (z := (9 * m) + (σ.2.1 73 m)) (v := 0) dX12_enterCall_42 (show mT[51]? = some (80, 0, 27) from rfl) (by omega) (by omega) (by decide) ?_
  refine tm_iconst dX12_enterCall_43 ?_
  refine tm_istore (L' := [(4, .int (iI 0)), (3, .int (iI ((9 * m) + (σ.2.1 73 m)))), (0, .ref b), (1, .int (iI m)), (2, .int (iI r))]) dX12_enterCall_44 (by decide) rfl ?_
  refine tm_sub [0, 1, 2, 3, 4] rfl (f_enter1 (d) (σ0 := (sA 80 ((9 * m) + (σ.2.1 73 m)) (0) (sA 79 ((9 * m) + (σ.2.1 73 m)) (0) (sA 78 ((9 * m) + (σ.2.1 73 m)) (r) (sA 73 (m) ((σ.2.1 73 m) + 1) σ))))) (m := m) (r := r) (c := (9 * m) + (σ.2.1 73 m)) (by omega) (fun f8 σ9 F5 R6 f7 => ?_) _ (0) (sA 80 ((9 * m) + (σ.2.1 73 m)) (0) (sA 79 ((9 * m) + (σ.2.1 73 m)) (0) (sA 78 ((9 * m) + (σ.2.1 73 m)) (r) (sA 73 (m) ((σ.2.1 73 m) + 1) σ)))) Fr.rfl ((((hR.A (by omega)).A (by omega)).A (by omega)).A (by omega)) (by omega) (ZR.z (by omega)) rfl)
  show Tm _ _ 72 b σ9 [(4, .int (iI f8)), (3, .int (iI ((9 * m) + (σ.2.1 73 m)))), (0, .ref b), (1, .int (iI m)), (2, .int (iI r))] [] _
  have z81 := f7
  refine tm_iconst dX12_enterCall_72 ?_
  refine tm_istore (L' := [(4, .int (iI 0)), (3, .int (iI ((9 * m) + (σ.2.1 73 m)))), (0, .ref b), (1, .int (iI m)), (2, .int (iI r))]) dX12_enterCall_73 (by decide) rfl ?_
  refine tm_sub [0, 1, 2, 3, 4] rfl (f_enter2 (d) (σ0 := σ9) (m := m) (r := r) (c := (9 * m) + (σ.2.1 73 m)) (by omega) (fun f15 σ16 F12 R13 f14 => ?_) _ (0) σ9 Fr.rfl R6 (by omega) (ZR.z (by omega)) rfl)
  show Tm _ _ 103 b σ16 [(4, .int (iI f15)), (3, .int (iI ((9 * m) + (σ.2.1 73 m)))), (0, .ref b), (1, .int (iI m)), (2, .int (iI r))] [] _
  exact tm_vret rfl dX12_enterCall_103 (⟨rfl, ((((((Fr.rfl.A (by decide)).A (by decide)).A (by decide)).A (by decide)).trans (Fr.sub F5 (by decide) (by decide) (by decide))).trans (Fr.sub F12 (by decide) (by decide) (by decide))), R13, ra_F F12 (by decide) (ra_F F5 (by decide) (ra_o (by decide) (ra_o (by decide) (ra_o (by decide) (ra_eq))))), ⟨(ra_F F12 (by decide) (ra_F F5 (by decide) (ra_o (by decide) (ra_o (by decide) (ra_eq))))), (ra_F F12 (by decide) (ra_F F5 (by decide) (ra_o (by decide) (ra_eq)))), (ra_F F12 (by decide) (ra_F F5 (by decide) (ra_eq)))⟩, fun j hj => ra_F F12 (by decide) (ra_F F5 (by decide) (ra_o (by decide) (ra_o (by decide) (ra_o (by decide) (ra_ne hj (rfl)))))), fun j hj => ⟨ra_F F12 (by decide) (ra_F F5 (by decide) (ra_o (by decide) (ra_o (by decide) (ra_ne hj (ra_o (by decide) (rfl)))))), ra_F F12 (by decide) (ra_F F5 (by decide) (ra_o (by decide) (ra_ne hj (ra_o (by decide) (ra_o (by decide) (rfl)))))), ra_F F12 (by decide) (ra_F F5 (by decide) (ra_ne hj (ra_o (by decide) (ra_o (by decide) (ra_o (by decide) (rfl))))))⟩, ⟨(z81.l rfl).r (F12.2.1 81 (by decide)), f14.l (F5.2.1 82 (by decide))⟩⟩)
set_option maxHeartbeats 4000000 in
set_option maxRecDepth 20000 in
theorem f_X12_returns (d : Nat) {b : Nat} {σ : MS} {m : Int} {c : Int} {w : Int} (hR : RG σ) (hm2 : 0 ≤ m ∧ m ≤ 2) (hrun : RUN σ m) (hbka : BKA σ m) (hc : c = 9 * m + σ.2.1 73 m - 1) (h_w : -2147483648 ≤ w ∧ w ≤ 2147483647) : Tm (d + 2) m_X12_returns 0 b σ [(0, .ref b), (1, .int (iI m)), (2, .int (iI c)), (3, .int (iI w))] [] (fun ro σ2 => ∃ v : Int, ro = some (.int (iI v)) ∧ (Fr [] [73, 75, 79, 82] [] σ σ2) ∧ (RG σ2) ∧ ((v = 2 ∧ σ2.2.1 73 m = 0) ∨ (v = 0 ∧ RUN σ2 m)) ∧ (XM m σ σ2) ∧ (v = 0 → σ2.2.1 73 m = σ.2.1 73 m - 1 ∧ 2 ≤ σ.2.1 73 m ∧ (∀ z, σ2.2.1 78 z = σ.2.1 78 z) ∧ (∀ z, z ≠ c - 1 → σ2.2.1 79 z = σ.2.1 79 z) ∧ σ2.2.1 79 (c - 1) = σ.2.1 79 (c - 1) + 1) ∧ (RTX σ m c w v σ2)) := by
  have h1 := hrun.1
  have hR6 := hbka.1
  refine tm_aload_n dX12_returns_0 rfl 0 rfl ?_
  refine tm_get (k := 73) (v := .ref (b + 1 + 44)) lay_12 dX12_returns_1 (by decide) fl12_152 rfl ?_
  refine tm_iload_n dX12_returns_4 rfl 1 rfl ?_
  refine tm_dup2 dX12_returns_5 rfl rfl ?_
  refine tm_iald (z := m) (v := σ.2.1 73 m) dX12_returns_6 (show mT[44]? = some (73, 0, 3) from rfl) (by omega) (by omega) (by decide) (rfl) ?_
  have g1 := RG.a hR 73 (m)
  refine tm_iconst dX12_returns_7 ?_
  refine tm_isub dX12_returns_8 ?_
  refine tm_iast (z := m) (v := (σ.2.1 73 m) - 1) dX12_returns_9 (show mT[44]? = some (73, 0, 3) from rfl) (by omega) (by omega) (by decide) ?_
  refine tm_aload_n dX12_returns_10 rfl 0 rfl ?_
  refine tm_get (k := 73) (v := .ref (b + 1 + 44)) lay_12 dX12_returns_11 (by decide) fl12_152 rfl ?_
  refine tm_iload_n dX12_returns_14 rfl 1 rfl ?_
  refine tm_iald (z := m) (v := (σ.2.1 73 m) - 1) dX12_returns_15 (show mT[44]? = some (73, 0, 3) from rfl) (by omega) (by omega) (by decide) (ra_eq) ?_
  refine tm_if_ne (tgt := 28) dX12_returns_16 (by decide) ⟨by omega, by omega⟩ (fun h2 => ?_) (fun h2 => ?_)
  · have hp := hrun.2.1 (c - 1) (by omega) (by omega)
    have hk10 := hrun.2.2.1 (c - 1) (by omega) (by omega)
    have hbg := hbka.2 _ hp.1.1 hp.1.2
    have hp1 := hp.1
    have hp2 := hp.2.1
    have hb9 := hbg.1
    have hoki := hbg.2.1 _ hp.2.1.1 hp.2.1.2
    have hdd := hoki.2.1 (Or.inr hk10)
    refine tm_iload_n dX12_returns_28 rfl 2 rfl ?_
    refine tm_iconst dX12_returns_29 ?_
    refine tm_isub dX12_returns_30 ?_
    refine tm_istore (L' := [(4, .int (iI (c - 1))), (0, .ref b), (1, .int (iI m)), (2, .int (iI c)), (3, .int (iI w))]) dX12_returns_31 (by decide) rfl ?_
    refine tm_aload_n dX12_returns_33 rfl 1 rfl ?_
    refine tm_aload_n dX12_returns_34 rfl 1 rfl ?_
    refine tm_iload_n dX12_returns_35 rfl 2 rfl ?_
    refine tm_callV (M := m_X12_returns) (pc := 36) (ix := 542) (M' := m_X12_bank) (As := [.int (iI m)]) (rest := [.ref b]) dX12_returns_36 ok_X12_bank im_X12_bank se_X12_bank ml12_542 np_X12_bank rfl rfl (Nat.le_of_ble_eq_true rfl) (Nat.le_of_ble_eq_true rfl) rfl (c_X12_bank (d) (σ := (sA 73 (m) ((σ.2.1 73 m) - 1) σ)) (m := m) (by omega)) (fun r3 σ4 hp => ?_)
    obtain ⟨v5, rfl, rfl, f6, f7, f8⟩ := hp
    show Tm _ _ 39 b (sA 73 (m) ((σ.2.1 73 m) - 1) σ) [(4, .int (iI (c - 1))), (0, .ref b), (1, .int (iI m)), (2, .int (iI c)), (3, .int (iI w))] [.int (iI v5), .ref b] _
    have hbv : v5 = bkm m := bkm_2 f7 f8
    rw [← hbv] at hp2 hb9 hdd
    refine tm_aload_n dX12_returns_39 rfl 1 rfl ?_
    refine tm_get (k := 78) (v := .ref (b + 1 + 49)) lay_12 dX12_returns_40 (by decide) fl12_167 rfl ?_
    refine tm_iload dX12_returns_43 0 rfl ?_
    refine tm_iald (z := c - 1) (v := σ.2.1 78 (c - 1)) dX12_returns_45 (show mT[49]? = some (78, 0, 27) from rfl) (by omega) (by omega) (by decide) (ra_o (by decide) (rfl)) ?_
    have g9 := RG.a hR 78 (c - 1)
    refine tm_iadd dX12_returns_46 ?_
    refine tm_aload_n dX12_returns_47 rfl 1 rfl ?_
    refine tm_get (k := 79) (v := .ref (b + 1 + 50)) lay_12 dX12_returns_48 (by decide) fl12_170 rfl ?_
    refine tm_iload dX12_returns_51 0 rfl ?_
    refine tm_iald (z := c - 1) (v := σ.2.1 79 (c - 1)) dX12_returns_53 (show mT[50]? = some (79, 0, 27) from rfl) (by omega) (by omega) (by decide) (ra_o (by decide) (rfl)) ?_
    have g10 := RG.a hR 79 (c - 1)
    refine tm_callV (M := m_X12_returns) (pc := 54) (ix := 203) (M' := m_X12_at) (As := [.int (iI (v5 + (σ.2.1 78 (c - 1)))), .int (iI (σ.2.1 79 (c - 1)))]) (rest := []) dX12_returns_54 ok_X12_at im_X12_at se_X12_at ml12_203 np_X12_at rfl rfl (Nat.le_of_ble_eq_true rfl) (Nat.le_of_ble_eq_true rfl) rfl (c_X12_at (d) (σ := (sA 73 (m) ((σ.2.1 73 m) - 1) σ)) (x := v5 + (σ.2.1 78 (c - 1))) (k := σ.2.1 79 (c - 1)) ) (fun r11 σ12 hp => ?_)
    obtain ⟨v13, rfl, rfl, f14⟩ := hp
    subst f14
    show Tm _ _ 57 b (sA 73 (m) ((σ.2.1 73 m) - 1) σ) [(4, .int (iI (c - 1))), (0, .ref b), (1, .int (iI m)), (2, .int (iI c)), (3, .int (iI w))] [.int (iI (220 * (v5 + (σ.2.1 78 (c - 1))) + (σ.2.1 79 (c - 1))))] _
    refine tm_istore (L' := [(5, .int (iI (220 * (v5 + (σ.2.1 78 (c - 1))) + (σ.2.1 79 (c - 1))))), (4, .int (iI (c - 1))), (0, .ref b), (1, .int (iI m)), (2, .int (iI c)), (3, .int (iI w))]) dX12_returns_57 (by decide) rfl ?_
    refine tm_aload_n dX12_returns_59 rfl 2 rfl ?_
    refine tm_get (k := 82) (v := .ref (b + 1 + 53)) lay_12 dX12_returns_60 (by decide) fl12_179 rfl ?_
    refine tm_sipush dX12_returns_63 (by decide) ?_
    refine tm_iload dX12_returns_66 1 rfl ?_
    refine tm_imul dX12_returns_68 ?_
    refine tm_aload_n dX12_returns_69 rfl 2 rfl ?_
    refine tm_get (k := 4) (v := .ref (b + 1 + 2)) lay_12 dX12_returns_70 (by decide) fl12_17 rfl ?_
    refine tm_iload dX12_returns_73 0 rfl ?_
    refine tm_iald (z := 220 * (v5 + (σ.2.1 78 (c - 1))) + (σ.2.1 79 (c - 1))) (v := σ.2.1 4 (220 * (v5 + (σ.2.1 78 (c - 1))) + (σ.2.1 79 (c - 1)))) dX12_returns_75 (show mT[2]? = some (4, 0, 2860) from rfl) (by omega) (by omega) (by decide) (ra_o (by decide) (rfl)) ?_
    have g15 := RG.a hR 4 (220 * (v5 + (σ.2.1 78 (c - 1))) + (σ.2.1 79 (c - 1)))
    refine tm_iadd dX12_returns_76 ?_
    refine tm_iload_n dX12_returns_77 rfl 5 rfl ?_
    refine tm_iast (z := (192 * (c - 1)) + (σ.2.1 4 (220 * (v5 + (σ.2.1 78 (c - 1))) + (σ.2.1 79 (c - 1))))) (v := w) dX12_returns_78 (show mT[53]? = some (82, 0, 5184) from rfl) (by omega) (by omega) (by decide) ?_
    refine tm_aload_n dX12_returns_79 rfl 2 rfl ?_
    refine tm_get (k := 79) (v := .ref (b + 1 + 50)) lay_12 dX12_returns_80 (by decide) fl12_170 rfl ?_
    refine tm_iload dX12_returns_83 1 rfl ?_
    refine tm_dup2 dX12_returns_85 rfl rfl ?_
    refine tm_iald (z := c - 1) (v := σ.2.1 79 (c - 1)) dX12_returns_86 (show mT[50]? = some (79, 0, 27) from rfl) (by omega) (by omega) (by decide) (ra_o (by decide) (ra_o (by decide) (rfl))) ?_
    have g16 := RG.a hR 79 (c - 1)
    refine tm_iconst dX12_returns_87 ?_
    refine tm_iadd dX12_returns_88 ?_
    refine tm_iast (z := c - 1) (v := (σ.2.1 79 (c - 1)) + 1) dX12_returns_89 (show mT[50]? = some (79, 0, 27) from rfl) (by omega) (by omega) (by decide) ?_
    refine tm_iconst dX12_returns_90 ?_
    exact tm_iret rfl dX12_returns_91 (⟨_, rfl, (((Fr.rfl.A (by decide)).A (by decide)).A (by decide)), (((hR.A (by omega)).A (by omega)).A (by omega)), Or.inr ⟨rfl, hrun.pop (d := c - 1) (by omega) (by omega) (show Fr [] [73, 79, 82] [] σ (sA 79 (c - 1) ((σ.2.1 79 (c - 1)) + 1) (sA 82 ((192 * (c - 1)) + (σ.2.1 4 (220 * (v5 + (σ.2.1 78 (c - 1))) + (σ.2.1 79 (c - 1))))) (w) (sA 73 (m) ((σ.2.1 73 m) - 1) σ))) from (((Fr.rfl.A (by decide)).A (by decide)).A (by decide))) (by decide) (by decide) (ra_o (by decide) (ra_o (by decide) ra_eq)) (fun _ => rfl) (fun _ => rfl) (fun z hz => ra_ne hz rfl) ra_eq⟩, ⟨fun j hj => ⟨ra_o (by decide) (ra_o (by decide) (ra_ne hj rfl)), rfl⟩, fun z hz => ⟨rfl, ra_ne (by omega) rfl, rfl⟩⟩, fun _ => ⟨ra_o (by decide) (ra_o (by decide) ra_eq), (by omega), (fun _ => rfl), (fun z hz => ra_ne hz rfl), ra_eq⟩, Or.inr ⟨rfl, by omega, by rw [← hbv]⟩⟩)
  · refine tm_aload_n dX12_returns_19 rfl 0 rfl ?_
    refine tm_get (k := 75) (v := .ref (b + 1 + 46)) lay_12 dX12_returns_20 (by decide) fl12_158 rfl ?_
    refine tm_iload_n dX12_returns_23 rfl 1 rfl ?_
    refine tm_iload_n dX12_returns_24 rfl 3 rfl ?_
    refine tm_iast (z := m) (v := w) dX12_returns_25 (show mT[46]? = some (75, 0, 3) from rfl) (by omega) (by omega) (by decide) ?_
    refine tm_iconst dX12_returns_26 ?_
    exact tm_iret rfl dX12_returns_27 (⟨_, rfl, ((Fr.rfl.A (by decide)).A (by decide)), ((hR.A (by omega)).A (by omega)), Or.inl ⟨rfl, ra_o (by decide) (ra_eq.trans (by omega))⟩, ⟨fun j hj => ⟨ra_o (by decide) (ra_ne hj rfl), rfl⟩, fun z hz => ⟨rfl, rfl, rfl⟩⟩, fun q => absurd q (by decide), Or.inl ⟨rfl, by omega, rfl⟩⟩)
end
