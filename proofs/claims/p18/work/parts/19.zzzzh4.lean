section
def TLV (V : Int → It) (n k g : Int) : Prop := ∀ S : Int → Int → Prop, (∀ i g, 0 ≤ i → i < n → ((V i 0 ≠ 12 ∧ rdI (V i) g ∧ (5 < V i 0 ∨ S (i + 1) (V i 1))) ∨ (¬ wrT (V i) g ∧ ∃ t, EDv V n i t ∧ S t g)) → S i g) → S k g
def S2T (V : Int → It) (n : Int) (N : Int → Prop) : Prop := ∀ g, TLV V n 0 g → N g
def JE8 (V : Int → It) (n s l : Int) : Prop := (0 ≤ s ∧ s < n) ∧ (V s 0 = 8 ∨ V s 0 = 9) ∧ TGv V n s l
def NBK (V : Int → It) (n : Int) : Prop := (∀ s l, JE8 V n s l → l < s → V s 0 = 8) ∧ ∀ s l s2 l2, JE8 V n s l → JE8 V n s2 l2 → l2 ≤ s2 → l2 ≤ l → l ≤ s2 → l2 ≤ s ∧ (l = l2 ∨ s ≤ s2)
section TLS
variable {V V' : Int → It} {n n' k g t x : Int} {N : Int → Prop}
theorem TLV.us (h0 : 0 ≤ k) (h1 : k < n) (h : V k 0 ≠ 12) (hr : rdI (V k) g) (h5 : 5 < V k 0) : TLV V n k g := fun _ b => b k g h0 h1 (Or.inl ⟨h, hr, Or.inl h5⟩)
theorem TLV.th (h0 : 0 ≤ k) (h1 : k < n) (h : V k 0 ≠ 12) (hr : rdI (V k) g) (h5 : TLV V n (k + 1) (V k 1)) : TLV V n k g := fun S b => b k g h0 h1 (Or.inl ⟨h, hr, Or.inr (h5 S b)⟩)
theorem TLV.on (h0 : 0 ≤ k) (h1 : k < n) (hw : ¬ wrT (V k) g) (e : EDv V n k t) (h : TLV V n t g) : TLV V n k g := fun S b => b k g h0 h1 (Or.inr ⟨hw, t, e, h S b⟩)
theorem TLV.ind {P : Int → Int → Prop} (h : TLV V n k g) (hp : ∀ i g, 0 ≤ i → i < n → ((V i 0 ≠ 12 ∧ rdI (V i) g ∧ (5 < V i 0 ∨ P (i + 1) (V i 1))) ∨ (¬ wrT (V i) g ∧ ∃ t, EDv V n i t ∧ P t g)) → P i g) : P k g := h P hp
theorem TLV.lv (h : TLV V n k g) : LVV V n k g := h.ind (fun i g i0 i1 q => by
  rcases q with ⟨a, b, -⟩ | ⟨a, t, b, c⟩
  · exact LVV.rd i0 i1 a b
  · exact LVV.on i0 i1 a b c)
theorem NBK.emb {Φ : Int → Int → Prop} (h : NBK V n)
    (h1 : ∀ i, 0 ≤ i → i < n' → (V' i 0 = 8 ∨ V' i 0 = 9 ∨ V' i 0 = 13) → ∃ j, Φ i j ∧ (0 ≤ j ∧ j < n) ∧ V j 1 = V' i 1 ∧ (V' i 0 = 13 → V j 0 = 13) ∧ (V' i 0 = 9 → V j 0 = 9) ∧ (V' i 0 = 8 → V j 0 = 8 ∨ V j 0 = 9))
    (h2 : ∀ i j i2 j2, Φ i j → Φ i2 j2 → (i < i2 ↔ j < j2)) : NBK V' n' := by
  have ed : ∀ s l, JE8 V' n' s l → ∃ s0 l0, Φ s s0 ∧ Φ l l0 ∧ JE8 V n s0 l0 ∧ (V' s 0 = 9 → V s0 0 = 9) := fun s l a => by
    obtain ⟨⟨a0, a1⟩, a2, a3, a4, a5, a6⟩ := a
    obtain ⟨s0, b1, b2, b3, b4, b5, b6⟩ := h1 s a0 a1 (by rcases a2 with z | z; exact Or.inl z; exact Or.inr (Or.inl z))
    obtain ⟨l0, c1, c2, c3, c4, -, -⟩ := h1 l a3 a4 (Or.inr (Or.inr a5))
    refine ⟨s0, l0, b1, c1, ⟨b2, ?_, c2.1, c2.2, c4 a5, by rw [c3, b3]; exact a6⟩, b5⟩
    rcases a2 with z | z
    · exact b6 z
    · exact Or.inr (b5 z)
  refine ⟨fun s l a b => ?_, fun s l s2 l2 a b c d e => ?_⟩
  · obtain ⟨s0, l0, b1, b2, b3, b4⟩ := ed s l a
    have q := h.1 s0 l0 b3 ((h2 l l0 s s0 b2 b1).mp b)
    rcases a.2.1 with z | z
    · exact z
    · have := b4 z; omega
  · obtain ⟨s0, l0, b1, b2, b3, -⟩ := ed s l a
    obtain ⟨s3, l3, c1, c2, c3, -⟩ := ed s2 l2 b
    have m1 := h2 s2 s3 l2 l3 c1 c2
    have m2 := h2 l l0 l2 l3 b2 c2
    have m3 := h2 s2 s3 l l0 c1 b2
    have m4 := h2 s s0 l2 l3 b1 c2
    have m5 := h2 l2 l3 l l0 c2 b2
    have m6 := h2 s2 s3 s s0 c1 b1
    obtain ⟨q1, q2⟩ := h.2 s0 l0 s3 l3 b3 c3 (by omega) (by omega) (by omega)
    refine ⟨by omega, ?_⟩
    rcases q2 with z | z
    · exact Or.inl (by omega)
    · exact Or.inr (by omega)
theorem NBK.same (h : NBK V n) (hs : ∀ i, 0 ≤ i → i < n → (V' i 0 = 8 ∨ V' i 0 = 9 ∨ V' i 0 = 13) → V i 0 = V' i 0 ∧ V i 1 = V' i 1) : NBK V' n := by
  refine h.emb (Φ := fun i j => i = j) (fun i a b c => ?_) (fun i j i2 j2 a b => by omega)
  obtain ⟨q0, q1⟩ := hs i a b c
  exact ⟨i, rfl, ⟨a, b⟩, q1, fun z => by omega, fun z => by omega, fun z => by omega⟩
end TLS
section FOT8
variable {V : Int → It} {n g h : Int} {t s : Nat} {K : KN} {i : It} {N : Int → Prop}
theorem fo_ex {m : Int} (h0 : 0 ≤ m) (h1 : m < (foS V s).2.1) : ∃ t : Nat, t < s ∧ ¬ fOut (foS V t).1 (V t) ∧ (foS V t).2.1 = m := by
  induction s with
  | zero => exact absurd h1 (by show ¬ m < 0; omega)
  | succ s ih =>
    rcases fo_st (V := V) (t := s) with z | z
    · rw [z.2.1] at h1
      obtain ⟨t, a, b⟩ := ih h1
      exact ⟨t, by omega, b⟩
    · rw [z.2.1] at h1
      by_cases e : m = (foS V s).2.1
      · exact ⟨s, by omega, z.1, e.symm⟩
      · obtain ⟨t, a, b⟩ := ih (by omega)
        exact ⟨t, by omega, b⟩
theorem fo_lt (ht : ¬ fOut (foS V t).1 (V t)) (hs : ¬ fOut (foS V s).1 (V s)) : (foS V t).2.1 < (foS V s).2.1 ↔ t < s := by
  constructor
  · intro a
    by_cases c : t < s
    · exact c
    · obtain ⟨u, e⟩ : ∃ u, t = s + u := ⟨t - s, by omega⟩
      have q := fo_mo (V := V) (t := s) u
      rw [e] at a; omega
  · intro a; exact (fo_at a ht).1
theorem fIt_k (h : fIt K i 0 = 8 ∨ fIt K i 0 = 9 ∨ fIt K i 0 = 13) : i 1 = fIt K i 1 ∧ (fIt K i 0 = 13 → i 0 = 13) ∧ (fIt K i 0 = 9 → i 0 = 9) ∧ (fIt K i 0 = 8 → i 0 = 8 ∨ i 0 = 9) := by
  unfold fIt at h ⊢
  by_cases a : i 0 = 13
  · rw [if_pos a] at h ⊢; exact ⟨rfl, fun z => z, fun z => z, fun z => Or.inl z⟩
  · rw [if_neg a] at h ⊢
    by_cases b : i 0 = 12
    · rw [if_pos b, foB_0] at h; omega
    · rw [if_neg b] at h ⊢
      by_cases c : i 0 ≤ 10
      · rw [if_pos c] at h ⊢
        by_cases c5 : i 0 ≤ 5
        · exfalso
          have z : foZ (foA (foO K i 4)) = foA (foO K i 4) := by
            unfold foZ
            rw [dI_n (fun y => by have := zer9 y; omega)]
          rw [z, foA_0] at h
          by_cases d : five2 (foO K i 4)
          · rw [dI_y d] at h; omega
          · rw [dI_n d, foO_lo (by decide)] at h; omega
        · by_cases d : zer1 (foA (foO K i 4))
          · have q := fo8z d
            have q9 := zer9 d
            exact ⟨q.2.symm, fun z => by omega, fun z => by omega, fun z => Or.inr q9⟩
          · rw [fo_o (by omega) d, foO_lo (by decide)] at h
            rw [fo_o (by omega) d, foO_lo (by decide), foO_lo (by decide)]
            exact ⟨rfl, fun z => z, fun z => z, fun z => Or.inl z⟩
      · rw [if_neg c] at h ⊢; exact ⟨rfl, fun z => z, fun z => z, fun z => Or.inl z⟩
theorem NBK.fold (h : NBK V n) (h0 : 0 ≤ n) : NBK (foS V n.toNat).2.2.2 (foS V n.toNat).2.1 := by
  refine h.emb (Φ := fun m j => ∃ t : Nat, (t : Int) = j ∧ ¬ fOut (foS V t).1 (V t) ∧ (foS V t).2.1 = m) (fun m a b c => ?_) (fun i j i2 j2 a b => ?_)
  · obtain ⟨t, t1, t2, t3⟩ := fo_ex a b
    have q := (fo_at t1 t2).2
    rw [t3] at q
    rw [q] at c ⊢
    obtain ⟨k1, k2, k3, k4⟩ := fIt_k c
    exact ⟨t, ⟨t, rfl, t2, t3⟩, by omega, k1, k2, k3, k4⟩
  · obtain ⟨t, a1, a2, a3⟩ := a
    obtain ⟨u, b1, b2, b3⟩ := b
    rw [← a1, ← b1, ← a3, ← b3, fo_lt a2 b2]
    omega
theorem foO_rd (h : rdI (foO K i 4) g) : rdI i g ∨ ∃ r, K r = (2, g) ∧ rdI i r := by
  obtain ⟨j, j0, j4, e3, e4⟩ := h
  rw [foO_kk j0 j4] at e3
  rw [foO_kv j0 j4] at e4
  by_cases c : i (3 + 2 * j) = 2 ∧ (K (i (4 + 2 * j))).1 ≠ 0
  · rw [if_pos c] at e3 e4
    exact Or.inr ⟨i (4 + 2 * j), Prod.ext e3 e4, j, j0, j4, c.1, rfl⟩
  · rw [if_neg c] at e3 e4
    exact Or.inl ⟨j, j0, j4, e3, e4⟩
theorem fIt_rd (h12 : i 0 ≠ 12) (h : rdI (fIt K i) g) : rdI i g ∨ ∃ r, K r = (2, g) ∧ rdI i r ∧ i 0 ≤ 10 := by
  unfold fIt at h
  by_cases a : i 0 = 13
  · rw [if_pos a] at h; exact Or.inl h
  · rw [if_neg a, if_neg h12] at h
    by_cases c : i 0 ≤ 10
    · rw [if_pos c] at h
      have q : rdI (foO K i 4) g := by
        have q1 : rdI (foA (foO K i 4)) g := by
          unfold foZ at h
          by_cases d : zer1 (foA (foO K i 4))
          · rw [dI_y d] at h
            obtain ⟨j, j0, j4, e3, e4⟩ := h
            by_cases z : j = 0
            · rw [z] at e3; rw [show (3 : Int) + 2 * 0 = 3 by decide, uZ_ne (by decide), uZ_eq] at e3; omega
            · exact ⟨j, j0, j4, by rw [uZ_ne (by omega), uZ_ne (by omega), uZ_ne (by omega)] at e3; exact e3, by rw [uZ_ne (by omega), uZ_ne (by omega), uZ_ne (by omega)] at e4; exact e4⟩
          · rw [dI_n d] at h; exact h
        unfold foA at q1
        by_cases d : five2 (foO K i 4)
        · rw [dI_y d] at q1
          obtain ⟨j, j0, j4, e3, e4⟩ := q1
          have f3 : ∀ v u c, 6 < c → cpyI (foO K i 4) v u c = foO K i 4 c := fun v u c hc => by
            show uZ (uZ (uZ (uZ (uZ (foO K i 4) 0 0) 3 v) 4 u) 5 0) 6 0 c = _
            rw [uZ_ne (by omega), uZ_ne (by omega), uZ_ne (by omega), uZ_ne (by omega), uZ_ne (by omega)]
          by_cases z : j = 0
          · rw [z] at e3
            have := (cpy_c (i := foO K i 4) 1 (wkd (foO K i 4 0) (foO K i 4 4) (foO K i 4 6))).2.2.1
            rw [show (3 : Int) + 2 * 0 = 3 by decide, this] at e3; omega
          · by_cases y : j = 1
            · rw [y] at e3
              have : cpyI (foO K i 4) 1 (wkd (foO K i 4 0) (foO K i 4 4) (foO K i 4 6)) 5 = 0 := by
                show uZ (uZ (uZ (uZ (uZ (foO K i 4) 0 0) 3 1) 4 _) 5 0) 6 0 5 = 0
                rw [uZ_ne (by decide), uZ_eq]
              rw [show (3 : Int) + 2 * 1 = 5 by decide, this] at e3; omega
            · rw [f3 _ _ _ (by omega)] at e3 e4
              exact ⟨j, j0, j4, e3, e4⟩
        · rw [dI_n d] at q1; exact q1
      rcases foO_rd q with z | ⟨r, z1, z2⟩
      · exact Or.inl z
      · exact Or.inr ⟨r, z1, z2, c⟩
    · rw [if_neg c] at h; exact Or.inl h
theorem fIt_w (h5 : i 0 ≤ 5) : fIt K i 0 ≤ 5 ∧ fIt K i 1 = i 1 := by
  have z : foZ (foA (foO K i 4)) = foA (foO K i 4) := by
    unfold foZ
    rw [dI_n (fun y => by have := zer9 y; omega)]
  unfold fIt
  rw [if_neg (by omega), if_neg (by omega), if_pos (by omega), z]
  unfold foA
  by_cases d : five2 (foO K i 4)
  · rw [dI_y d]
    obtain ⟨c0, c1, -, -⟩ := cpy_c (i := foO K i 4) 1 (wkd (foO K i 4 0) (foO K i 4 4) (foO K i 4 6))
    exact ⟨by rw [c0]; decide, by rw [c1]; exact foO_lo (by decide)⟩
  · rw [dI_n d]
    exact ⟨by rw [foO_lo (by decide)]; exact h5, foO_lo (by decide)⟩
theorem fIt_h (h5 : 5 < i 0) : 5 < fIt K i 0 ∧ (fIt K i 0 = 10 ↔ i 0 = 10) ∧ (i 0 = 10 → fIt K i 1 = i 1) := by
  unfold fIt
  by_cases a : i 0 = 13
  · rw [if_pos a]; exact ⟨h5, Iff.rfl, fun _ => rfl⟩
  · rw [if_neg a]
    by_cases b : i 0 = 12
    · rw [if_pos b, foB_0]; exact ⟨h5, Iff.rfl, fun z => by omega⟩
    · rw [if_neg b]
      by_cases c : i 0 ≤ 10
      · rw [if_pos c]
        by_cases d : zer1 (foA (foO K i 4))
        · have q := fo8z d
          have q9 := zer9 d
          rw [q.1]; exact ⟨by decide, ⟨fun z => by omega, fun z => by omega⟩, fun z => by omega⟩
        · rw [fo_o h5 d, foO_lo (by decide), foO_lo (by decide)]; exact ⟨h5, Iff.rfl, fun _ => rfl⟩
      · rw [if_neg c]; exact ⟨h5, Iff.rfl, fun _ => rfl⟩
def FQ8 (V : Int → It) (n : Int) (t : Nat) (h : Int) : Prop := TLV V n t h ∨ (V t 0 ≠ 13 ∧ ∃ r, (foS V t).1 r = (2, h) ∧ TLV V n t r)
theorem fq_back {d : Int} (ht : (t : Int) < n) (hn8 : ¬ (V t 0 = 8 ∨ V t 0 = 7)) (q : FQ8 V n (t + 1) d) (hw : ¬ wrT (V t) d) : FQ8 V n t d := by
  have ed : EDv V n t (t + 1) := Or.inl ⟨hn8, rfl⟩
  rcases q with q | ⟨q0, r, q1, q2⟩
  · exact Or.inl (TLV.on (by omega) ht hw ed (by have z := q; rw [show ((t + 1 : Nat) : Int) = t + 1 by omega] at z; exact z))
  · rw [show ((t + 1 : Nat) : Int) = t + 1 by omega] at q2 q0
    by_cases a : V t 0 = 13
    · rw [fo8k, if_pos a] at q1
      have : (0 : Int) = 2 := congrArg Prod.fst q1
      omega
    · rw [fo8k, if_neg a] at q1
      by_cases b : V t 0 ≤ 10
      · rw [if_pos b] at q1
        by_cases c : V t 0 ≤ 5 ∨ V t 0 = 10
        · -- it writes
          have y0 : foZ (foA (foO (foS V t).1 (V t) 4)) 0 ≤ 5 ∨ foZ (foA (foO (foS V t).1 (V t) 4)) 0 = 10 := by
            rcases c with c | c
            · have := (fIt_w (K := (foS V t).1) c).1
              unfold fIt at this
              rw [if_neg a, if_neg (by omega), if_pos b] at this
              exact Or.inl this
            · have := (fIt_h (K := (foS V t).1) (i := V t) (by omega)).2.1.mpr c
              unfold fIt at this
              rw [if_neg a, if_neg (by omega), if_pos b] at this
              exact Or.inr this
          have y1 : foZ (foA (foO (foS V t).1 (V t) 4)) 1 = V t 1 := by
            rcases c with c | c
            · have := (fIt_w (K := (foS V t).1) c).2
              unfold fIt at this
              rw [if_neg a, if_neg (by omega), if_pos b] at this
              exact this
            · have := (fIt_h (K := (foS V t).1) (i := V t) (by omega)).2.2 c
              unfold fIt at this
              rw [if_neg a, if_neg (by omega), if_pos b] at this
              exact this
          have el : lrn (foZ (foA (foO (foS V t).1 (V t) 4))) (foS V t).1 = lrnF (foZ (foA (foO (foS V t).1 (V t) 4))) (foS V t).1 := by unfold lrn; rw [dI_y y0]
          rw [el] at q1
          by_cases e1 : r = V t 1
          · -- it is learned here: COPY of it
            have e2 : lrnF (foZ (foA (foO (foS V t).1 (V t) 4))) (foS V t).1 r = if foZ (foA (foO (foS V t).1 (V t) 4)) 0 = 0 ∧ ¬ (foZ (foA (foO (foS V t).1 (V t) 4)) 3 = 2 ∧ foZ (foA (foO (foS V t).1 (V t) 4)) 4 = foZ (foA (foO (foS V t).1 (V t) 4)) 1) ∧ foZ (foA (foO (foS V t).1 (V t) 4)) 3 ≠ 0 then (foZ (foA (foO (foS V t).1 (V t) 4)) 3, foZ (foA (foO (foS V t).1 (V t) 4)) 4) else (0, 0) := if_pos (by rw [y1]; exact e1)
            rw [q1] at e2
            by_cases e3 : foZ (foA (foO (foS V t).1 (V t) 4)) 0 = 0 ∧ ¬ (foZ (foA (foO (foS V t).1 (V t) 4)) 3 = 2 ∧ foZ (foA (foO (foS V t).1 (V t) 4)) 4 = foZ (foA (foO (foS V t).1 (V t) 4)) 1) ∧ foZ (foA (foO (foS V t).1 (V t) 4)) 3 ≠ 0
            · rw [if_pos e3] at e2
              have f3 : (2 : Int) = foZ (foA (foO (foS V t).1 (V t) 4)) 3 := congrArg Prod.fst e2
              have f4 : d = foZ (foA (foO (foS V t).1 (V t) 4)) 4 := congrArg Prod.snd e2
              have c5 : V t 0 ≤ 5 := by
                rcases c with c | c
                · exact c
                · have := (fIt_h (K := (foS V t).1) (i := V t) (by omega)).2.1.mpr c
                  unfold fIt at this
                  rw [if_neg a, if_neg (by omega), if_pos b] at this
                  omega
              have rd : rdI (fIt (foS V t).1 (V t)) d := by
                refine ⟨0, by decide, by decide, ?_, ?_⟩
                · unfold fIt; rw [if_neg a, if_neg (by omega), if_pos b]; exact f3.symm
                · unfold fIt; rw [if_neg a, if_neg (by omega), if_pos b]; exact f4.symm
              rw [e1] at q2
              rcases fIt_rd (by omega) rd with z | ⟨r2, z1, z2, -⟩
              · exact Or.inl (TLV.th (by omega) ht (by omega) z q2)
              · exact Or.inr ⟨a, r2, z1, TLV.th (by omega) ht (by omega) z2 q2⟩
            · rw [if_neg e3] at e2
              have : (2 : Int) = 0 := congrArg Prod.fst e2
              omega
          · have e2 : lrnF (foZ (foA (foO (foS V t).1 (V t) 4))) (foS V t).1 r = if (foS V t).1 r = (2, foZ (foA (foO (foS V t).1 (V t) 4)) 1) then (0, 0) else (foS V t).1 r := if_neg (by rw [y1]; exact e1)
            rw [q1] at e2
            by_cases e3 : (foS V t).1 r = (2, foZ (foA (foO (foS V t).1 (V t) 4)) 1)
            · rw [if_pos e3] at e2
              have : (2 : Int) = 0 := congrArg Prod.fst e2
              omega
            · rw [if_neg e3] at e2
              exact Or.inr ⟨a, r, e2.symm, TLV.on (by omega) ht (fun z => e1 z.2.symm) ed q2⟩
        · have y0 : ¬ (foZ (foA (foO (foS V t).1 (V t) 4)) 0 ≤ 5 ∨ foZ (foA (foO (foS V t).1 (V t) 4)) 0 = 10) := by
            have w := fIt_h (K := (foS V t).1) (i := V t) (by omega)
            unfold fIt at w
            rw [if_neg a, if_neg (by omega), if_pos b] at w
            have := w.2.1
            omega
          rw [kvd_no y0] at q1
          exact Or.inr ⟨a, r, q1, TLV.on (by omega) ht (fun z => c z.1) ed q2⟩
      · rw [if_neg b] at q1
        exact Or.inr ⟨a, r, q1, TLV.on (by omega) ht (fun z => by have := z.1; omega) ed q2⟩
theorem fq_dst (q : FQ8 V n (t + 1) (V t 1)) (hk : V t 0 ≤ 5) : TLV V n (t + 1) (V t 1) := by
  rcases q with q | ⟨-, r, q1, -⟩
  · have z := q; rw [show ((t + 1 : Nat) : Int) = t + 1 by omega] at z; exact z
  · exfalso
    have w := fIt_w (K := (foS V t).1) hk
    unfold fIt at w
    rw [if_neg (by omega), if_neg (by omega), if_pos (by omega)] at w
    rw [fo8k, if_neg (by omega), if_pos (by omega)] at q1
    have el : lrn (foZ (foA (foO (foS V t).1 (V t) 4))) (foS V t).1 = lrnF (foZ (foA (foO (foS V t).1 (V t) 4))) (foS V t).1 := by unfold lrn; rw [dI_y (Or.inl w.1)]
    rw [el] at q1
    by_cases e1 : r = V t 1
    · have e2 : lrnF (foZ (foA (foO (foS V t).1 (V t) 4))) (foS V t).1 r = if foZ (foA (foO (foS V t).1 (V t) 4)) 0 = 0 ∧ ¬ (foZ (foA (foO (foS V t).1 (V t) 4)) 3 = 2 ∧ foZ (foA (foO (foS V t).1 (V t) 4)) 4 = foZ (foA (foO (foS V t).1 (V t) 4)) 1) ∧ foZ (foA (foO (foS V t).1 (V t) 4)) 3 ≠ 0 then (foZ (foA (foO (foS V t).1 (V t) 4)) 3, foZ (foA (foO (foS V t).1 (V t) 4)) 4) else (0, 0) := if_pos (by rw [w.2]; exact e1)
      rw [q1] at e2
      by_cases e3 : foZ (foA (foO (foS V t).1 (V t) 4)) 0 = 0 ∧ ¬ (foZ (foA (foO (foS V t).1 (V t) 4)) 3 = 2 ∧ foZ (foA (foO (foS V t).1 (V t) 4)) 4 = foZ (foA (foO (foS V t).1 (V t) 4)) 1) ∧ foZ (foA (foO (foS V t).1 (V t) 4)) 3 ≠ 0
      · rw [if_pos e3] at e2
        exact e3.2.1 ⟨(congrArg Prod.fst e2).symm, (congrArg Prod.snd e2).symm.trans w.2.symm⟩
      · rw [if_neg e3] at e2
        have : (2 : Int) = 0 := congrArg Prod.fst e2
        omega
    · have e2 : lrnF (foZ (foA (foO (foS V t).1 (V t) 4))) (foS V t).1 r = if (foS V t).1 r = (2, foZ (foA (foO (foS V t).1 (V t) 4)) 1) then (0, 0) else (foS V t).1 r := if_neg (by rw [w.2]; exact e1)
      rw [q1] at e2
      by_cases e3 : (foS V t).1 r = (2, foZ (foA (foO (foS V t).1 (V t) 4)) 1)
      · rw [if_pos e3] at e2
        have : (2 : Int) = 0 := congrArg Prod.fst e2
        omega
      · rw [if_neg e3] at e2
        rw [← e2, w.2] at e3
        exact e3 rfl
theorem fq_down (u : Nat) (hs : ((t + u : Nat) : Int) < n) (e : (foS V (t + u)).2.1 = (foS V t).2.1) (q : FQ8 V n (t + u) h) : FQ8 V n t h := by
  induction u with
  | zero => exact q
  | succ u ih =>
    have m1 := fo_mo (V := V) (t := t) u
    have e1 : (foS V (t + u + 1)).2.1 = (foS V t).2.1 := e
    rcases fo_st (V := V) (t := t + u) with z | z
    · refine ih (by omega) (by rw [← e1]; exact z.2.1.symm) (fq_back (by omega) (by have := z.1.1; omega) q ?_)
      intro y
      have := z.1.1
      have := y.1
      omega
    · rw [z.2.1] at e1; omega
theorem fo_tl (hn : 0 ≤ n) {m : Int} (hl : TLV (foS V n.toNat).2.2.2 (foS V n.toNat).2.1 m g) : ∀ t : Nat, (t : Int) ≤ n → (foS V t).2.1 = m → FQ8 V n t g := by
  refine hl.ind (P := fun m g => ∀ t : Nat, (t : Int) ≤ n → (foS V t).2.1 = m → FQ8 V n t g) (fun m g m0 m1 q t tn em => ?_)
  obtain ⟨s, s1, s2, s3⟩ := fo_ex m0 m1
  have hy := (fo_at s1 s2).2
  rw [s3] at hy
  have ts : t ≤ s := by
    by_cases c : t ≤ s
    · exact c
    · obtain ⟨u, rfl⟩ : ∃ u, t = s + 1 + u := ⟨t - (s + 1), by omega⟩
      have m2 := fo_mo (V := V) (t := s + 1) u
      rcases fo_st (V := V) (t := s) with z | z
      · exact absurd z.1 s2
      · omega
  obtain ⟨u, rfl⟩ : ∃ u, s = t + u := ⟨s - t, by omega⟩
  have sn : ((t + u : Nat) : Int) < n := by omega
  refine fq_down u sn (by rw [s3, em]) ?_
  have eS : (foS V (t + u + 1)).2.1 = m + 1 := by
    rcases fo_st (V := V) (t := t + u) with z | z
    · exact absurd z.1 s2
    · rw [z.2.1, s3]
  rw [hy] at q
  rcases q with ⟨q1, q2, q3⟩ | ⟨q1, l, q2, q3⟩
  · have k12 : V ((t + u : Nat) : Int) 0 ≠ 12 := fun z => by
      apply q1
      unfold fIt
      rw [if_neg (by omega), if_pos z, foB_0]; exact z
    have tl : ∀ r, rdI (V ((t + u : Nat) : Int)) r → TLV V n ((t + u : Nat) : Int) r := fun r hr => by
      by_cases c5 : V ((t + u : Nat) : Int) 0 ≤ 5
      · have w := fIt_w (K := (foS V (t + u)).1) c5
        rcases q3 with z | z
        · omega
        · have zz := z (t + u + 1) (by omega) eS
          rw [w.2] at zz
          exact TLV.th (by omega) sn k12 hr (fq_dst zz c5)
      · exact TLV.us (by omega) sn k12 hr (by omega)
    rcases fIt_rd k12 q2 with z | ⟨r, z1, z2, z3⟩
    · exact Or.inl (tl g z)
    · by_cases c : V ((t + u : Nat) : Int) 0 = 13
      · omega
      · exact Or.inr ⟨c, r, z1, tl r z2⟩
  · have nw : ¬ wrT (V ((t + u : Nat) : Int)) g := fun z => by
      apply q1
      rcases z.1 with y | y
      · have w := fIt_w (K := (foS V (t + u)).1) y
        exact ⟨Or.inl w.1, w.2.trans z.2⟩
      · have w := fIt_h (K := (foS V (t + u)).1) (i := V ((t + u : Nat) : Int)) (by omega)
        exact ⟨Or.inr (w.2.1.mpr y), (w.2.2 y).trans z.2⟩
    rcases q2 with ⟨a, b⟩ | ⟨a, b⟩
    · -- on
      rw [hy] at a
      have n8 : ¬ (V ((t + u : Nat) : Int) 0 = 8 ∨ V ((t + u : Nat) : Int) 0 = 7) := fun z => a (by
        unfold fIt
        rw [if_neg (by omega), if_neg (by omega), if_pos (by omega), fo_o (by omega) (fun y => by have := zer9 y; omega), foO_lo (by decide)]
        exact z)
      exact fq_back sn n8 (q3 (t + u + 1) (by omega) (by rw [eS, b])) nw
    · -- a jump
      rw [hy] at a
      have k := fIt_k (K := (foS V (t + u)).1) (i := V ((t + u : Nat) : Int)) (by omega)
      obtain ⟨b0, b1, b2, b3⟩ := b
      obtain ⟨v, v1, v2, v3⟩ := fo_ex b0 b1
      have hv := (fo_at v1 v2).2
      rw [v3] at hv
      rw [hv] at b2 b3
      have kv := fIt_k (K := (foS V v).1) (i := V v) (by omega)
      rw [hy] at b3
      have k13 := kv.2.1 b2
      have ed : EDv V n ((t + u : Nat) : Int) v := Or.inr ⟨by
        rcases a with z | z
        · exact k.2.2.2 z
        · exact Or.inr (k.2.2.1 z), by omega, by omega, k13, by rw [kv.1, k.1]; exact b3⟩
      have w := q3 v (by omega) v3
      rcases w with w | w
      · exact Or.inl (TLV.on (by omega) sn nw ed w)
      · exact absurd k13 w.1
theorem S2T.fold (h : S2T V n N) (hn : 0 ≤ n) : S2T (foS V n.toNat).2.2.2 (foS V n.toNat).2.1 N := fun g a => by
  rcases fo_tl hn a 0 (by omega) rfl with z | ⟨-, r, z, -⟩
  · exact h g z
  · have : (0 : Int) = 2 := congrArg Prod.fst z
    omega
end FOT8
end
