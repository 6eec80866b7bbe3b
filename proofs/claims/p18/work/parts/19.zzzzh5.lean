section
section DRT8
variable {V V' : Int → It} {n n' m g x : Int} {t s : Nat} {N : Int → Prop}
theorem dr_ex (h0 : 0 ≤ m) (h1 : m < (dr1 V n s).1) : ∃ t : Nat, t < s ∧ RCG V n 0 (fun _ => False) t ∧ (dr1 V n t).1 = m := by
  induction s with
  | zero => exact absurd h1 (by show ¬ m < 0; omega)
  | succ s ih =>
    rcases dr_st (V := V) (n := n) (t := s) with z | z
    · rw [z.2.1] at h1
      by_cases e : m = (dr1 V n s).1
      · exact ⟨s, by omega, z.1, e.symm⟩
      · obtain ⟨t, a, b⟩ := ih (by omega)
        exact ⟨t, by omega, b⟩
    · rw [z.2.1] at h1
      obtain ⟨t, a, b⟩ := ih h1
      exact ⟨t, by omega, b⟩
theorem dr_lt (ht : RCG V n 0 (fun _ => False) t) (hs : RCG V n 0 (fun _ => False) s) : (dr1 V n t).1 < (dr1 V n s).1 ↔ t < s := by
  constructor
  · intro a
    by_cases c : t < s
    · exact c
    · obtain ⟨u, e⟩ : ∃ u, t = s + u := ⟨t - s, by omega⟩
      have q := dr_mo (V := V) (n := n) (t := s) u
      rw [e] at a; omega
  · intro a; exact (dr_at a ht).1
theorem NBK.dr1k (h : NBK V n) (hn : 0 ≤ n) : NBK (dr1 V n n.toNat).2.2 (dr1 V n n.toNat).1 := by
  refine h.emb (Φ := fun m j => ∃ t : Nat, (t : Int) = j ∧ RCG V n 0 (fun _ => False) t ∧ (dr1 V n t).1 = m) (fun m a b _ => ?_) (fun i j i2 j2 a b => ?_)
  · obtain ⟨t, t1, t2, t3⟩ := dr_ex a b
    have q := (dr_at t1 t2).2
    rw [t3] at q
    rw [q]
    exact ⟨t, ⟨t, rfl, t2, t3⟩, by omega, rfl, fun z => z, fun z => z, fun z => Or.inl z⟩
  · obtain ⟨t, a1, a2, a3⟩ := a
    obtain ⟨u, b1, b2, b3⟩ := b
    rw [← a1, ← b1, ← a3, ← b3, dr_lt a2 b2]
    omega
theorem S2T.dr1k (h : S2T V n N) (hn : 0 ≤ n) : S2T (dr1 V n n.toNat).2.2 (dr1 V n n.toNat).1 N := fun g a => by
  have q : ∀ t : Nat, RCG V n 0 (fun _ => False) t → (dr1 V n t).1 = 0 → TLV V n t g := by
    refine a.ind (P := fun m g => ∀ t : Nat, RCG V n 0 (fun _ => False) t → (dr1 V n t).1 = m → TLV V n t g) (fun m g m0 m1 q t rt em => ?_)
    obtain ⟨s, s1, s2, s3⟩ := dr_ex m0 m1
    have e : s = t := by
      by_cases c : s = t
      · exact c
      · have c1 := dr_lt s2 rt
        have c2 := dr_lt rt s2
        omega
    subst e
    have hy := (dr_at s1 s2).2
    rw [s3] at hy
    have eS : (dr1 V n (s + 1)).1 = m + 1 := by
      rcases dr_st (V := V) (n := n) (t := s) with z | z
      · rw [z.2.1, s3]
      · exact absurd s2 z.1
    have sn : (s : Int) < n := by omega
    have nx : ¬ (V s 0 = 8 ∨ V s 0 = 7) → RCG V n 0 (fun _ => False) ((s + 1 : Nat) : Int) := fun z => by
      rw [show ((s + 1 : Nat) : Int) = s + 1 by omega]
      exact s2.s (by omega) sn (fun y => y) (Or.inl ⟨z, rfl⟩)
    rw [hy] at q
    rcases q with ⟨q1, q2, q3⟩ | ⟨q1, l, q2, q3⟩
    · rcases q3 with z | z
      · exact TLV.us (by omega) sn q1 q2 z
      · by_cases c : 5 < V s 0
        · exact TLV.us (by omega) sn q1 q2 c
        · have w := z (s + 1) (nx (by omega)) eS
          rw [show ((s + 1 : Nat) : Int) = s + 1 by omega] at w
          exact TLV.th (by omega) sn q1 q2 w
    · rcases q2 with ⟨b1, b2⟩ | ⟨b1, b0, b2, b3, b4⟩
      · rw [hy] at b1
        have w := q3 (s + 1) (nx b1) (by rw [eS, b2])
        rw [show ((s + 1 : Nat) : Int) = s + 1 by omega] at w
        exact TLV.on (by omega) sn q1 (Or.inl ⟨b1, rfl⟩) w
      · rw [hy] at b1 b4
        obtain ⟨v, v1, v2, v3⟩ := dr_ex b0 b2
        have hv := (dr_at v1 v2).2
        rw [v3] at hv
        rw [hv] at b3 b4
        exact TLV.on (by omega) sn q1 (Or.inr ⟨b1, by omega, by omega, b3, b4⟩) (q3 v v2 v3)
  exact h g (q 0 RCG.z rfl)
theorem NBK.drL (h : NBK V n) (hx : lastD V n x) : NBK (toV (rbV V n x) x) (n - 1) := by
  obtain ⟨x0, xn, ⟨x5, -⟩, -⟩ := hx
  refine h.emb (Φ := fun m j => j ≠ x ∧ m = if j ≤ x then j else j - 1) (fun m a b c => ?_) (fun i j i2 j2 a b => ?_)
  · have e : toV (rbV V n x) x m = rbV V n x (if m < x then m else m + 1) := by
      unfold toV
      by_cases c : m < x
      · rw [if_pos c, if_pos c]
      · rw [if_neg c, if_neg c]
    rw [e, rb_0 0 (by decide)] at c
    rw [e, rb_0 0 (by decide), rb_0 1 (by decide)]
    refine ⟨if m < x then m else m + 1, ?_, ?_, rfl, fun z => z, fun z => z, fun z => Or.inl z⟩
    · by_cases d : m < x
      · rw [if_pos d]; exact ⟨by omega, by rw [if_pos (by omega)]⟩
      · rw [if_neg d]; exact ⟨by omega, by rw [if_neg (by omega)]; omega⟩
    · by_cases d : m < x
      · rw [if_pos d]; omega
      · rw [if_neg d]; omega
  · obtain ⟨a1, a2⟩ := a
    obtain ⟨b1, b2⟩ := b
    rw [a2, b2]
    by_cases c : j ≤ x
    · rw [if_pos c]
      by_cases d : j2 ≤ x
      · rw [if_pos d]
      · rw [if_neg d]; omega
    · rw [if_neg c]
      by_cases d : j2 ≤ x
      · rw [if_pos d]; omega
      · rw [if_neg d]; omega
theorem S2T.drL (h : S2T V n N) (hx : lastD V n x) : S2T (toV (rbV V n x) x) (n - 1) N := fun g a => by
  obtain ⟨x0, xn, ⟨x5, xd⟩, -⟩ := hx
  have bk : ∀ g, TLV V n (x + 1) g → TLV V n x g := fun g a => TLV.on x0 xn (fun z => xd (by rw [z.2]; exact a.lv)) (Or.inl ⟨by omega, rfl⟩) a
  have q : ∀ k, (0 : Int) = (if k ≤ x then k else k - 1) → TLV V n k g := by
    refine a.ind (P := fun m g => ∀ k, m = (if k ≤ x then k else k - 1) → TLV V n k g) (fun m g m0 m1 q k ek => ?_)
    -- the item itself first
    have main : ∀ k, k ≠ x → m = (if k ≤ x then k else k - 1) → TLV V n k g := fun k kx ek => by
      have hk : 0 ≤ k ∧ k < n := by
        by_cases d : k ≤ x
        · rw [if_pos d] at ek; omega
        · rw [if_neg d] at ek; omega
      have e : toV (rbV V n x) x m = rbV V n x k := by
        unfold toV
        by_cases d : k ≤ x
        · rw [if_pos d] at ek; rw [if_pos (by omega), ek]
        · rw [if_neg d] at ek; rw [if_neg (by omega), ek, show k - 1 + 1 = k by omega]
      have nx : m + 1 = (if k + 1 ≤ x then k + 1 else k + 1 - 1) := by
        by_cases d : k ≤ x
        · rw [if_pos d] at ek; rw [if_pos (by omega)]; omega
        · rw [if_neg d] at ek; rw [if_neg (by omega)]; omega
      rw [e] at q
      rcases q with ⟨q1, q2, q3⟩ | ⟨q1, l, q2, q3⟩
      · rw [rb_0 0 (by decide)] at q1 q3
        rw [rb_n q1] at q2
        rw [rb_0 1 (by decide)] at q3
        rcases q3 with z | z
        · exact TLV.us hk.1 hk.2 q1 q2 z
        · exact TLV.th hk.1 hk.2 q1 q2 (z (k + 1) nx)
      · have nw : ¬ wrT (V k) g := fun z => q1 ⟨by rw [rb_0 0 (by decide)]; exact z.1, by rw [rb_0 1 (by decide)]; exact z.2⟩
        rcases q2 with ⟨b1, b2⟩ | ⟨b1, b0, b2, b3, b4⟩
        · rw [e, rb_0 0 (by decide)] at b1
          exact TLV.on hk.1 hk.2 nw (Or.inl ⟨b1, rfl⟩) (q3 (k + 1) (by rw [b2]; exact nx))
        · rw [e, rb_0 0 (by decide)] at b1
          rw [e, rb_0 1 (by decide)] at b4
          have el : toV (rbV V n x) x l = rbV V n x (if l < x then l else l + 1) := by
            unfold toV
            by_cases c : l < x
            · rw [if_pos c, if_pos c]
            · rw [if_neg c, if_neg c]
          rw [el, rb_0 0 (by decide)] at b3
          rw [el, rb_0 1 (by decide)] at b4
          refine TLV.on hk.1 hk.2 nw (Or.inr ⟨b1, ?_, ?_, b3, b4⟩) (q3 _ ?_)
          · by_cases d : l < x
            · rw [if_pos d]; exact b0
            · rw [if_neg d]; omega
          · by_cases d : l < x
            · rw [if_pos d]; omega
            · rw [if_neg d]; omega
          · by_cases d : l < x
            · rw [if_pos d, if_pos (by omega)]
            · rw [if_neg d, if_neg (by omega)]; omega
    by_cases kx : k = x
    · rw [kx] at ek ⊢
      exact bk g (main (x + 1) (by omega) (by rw [ek, if_pos (by omega), if_neg (by omega)]; omega))
    · exact main k kx ek
  exact h g (q 0 (by rw [if_pos x0]))
theorem DRT.kp {H : Int → Prop} {t : Nat} (h : NBK V n) (h2 : S2T V n H) (g : DRT t V n V' n') : NBK V' n' ∧ S2T V' n' H := by
  induction t generalizing V' n' with
  | zero => rw [g.1, g.2]; exact ⟨h, h2⟩
  | succ t ih =>
    obtain ⟨V1, n1, k, g1, g2, g3, g4⟩ := g
    obtain ⟨i1, i2⟩ := ih g1
    rw [g3, g4]
    exact ⟨i1.drL g2, i2.drL g2⟩
theorem DRX.kp {H : Int → Prop} {w : Int} (hn : 0 ≤ n) (h : NBK V n) (h2 : S2T V n H) (g : DRX V n V' n' w) : NBK V' n' ∧ S2T V' n' H := by
  obtain ⟨t, g1, -, -⟩ := g
  exact DRT.kp (h.dr1k hn) (h2.dr1k hn) g1
end DRT8
def AR8 (V : Int → It) (n : Int) : Prop := ∀ i, 0 ≤ i → i < n → V i 0 ≠ 10 → V i 7 ≠ 2 ∧ V i 9 ≠ 2
section ALT8
variable {V V' : Int → It} {n g x j k : Int} {N : Int → Prop} {i : It}
theorem rd_two (h : i 7 ≠ 2 ∧ i 9 ≠ 2) (hr : rdI i g) : (i 3 = 2 ∧ i 4 = g) ∨ (i 5 = 2 ∧ i 6 = g) := by
  rcases rdI_iff.mp hr with z | z | z | z
  · exact Or.inl z
  · exact Or.inr z
  · exact absurd z.1 h.1
  · exact absurd z.1 h.2
theorem NBK.ali (h : NBK V n) (hf : isF (V x)) : NBK (uZ V x (cpyI (V x) 2 (V j 1))) n := by
  refine h.same (fun i _ _ c => ?_)
  by_cases e : i = x
  · rw [e, uZ_eq, (cpy_c 2 (V j 1)).1] at c; omega
  · rw [uZ_ne e]; exact ⟨rfl, rfl⟩
theorem S2T.ali (h : S2T V n N) (ha : AR8 V n) (hx : 0 ≤ x ∧ x < n) (hf : isF (V x)) (ht : TWF V x j) : S2T (uZ V x (cpyI (V x) 2 (V j 1))) n N := fun g a => by
  obtain ⟨j0, jx, j13, ⟨⟨t0, t3, t4, t5, t6⟩, tn, tw, tr3, tr5⟩, tl⟩ := ht
  have q : TLV V n 0 g ∨ ((j < 0 ∧ (0 : Int) ≤ x) ∧ g = V j 1 ∧ (V j 3 = 2 → TLV V n 0 (V j 4)) ∧ (V j 5 = 2 → TLV V n 0 (V j 6))) := by
    refine a.ind (P := fun k g => TLV V n k g ∨ ((j < k ∧ k ≤ x) ∧ g = V j 1 ∧ (V j 3 = 2 → TLV V n k (V j 4)) ∧ (V j 5 = 2 → TLV V n k (V j 6)))) (fun k g k0 kn q => ?_)
    have jmp : ∀ l, V l 0 = 13 → ¬ (j < l ∧ l ≤ x) := fun l a b => by
      by_cases c : l = x
      · rw [c] at a; have := hf.2; omega
      · exact (tl l b.1 (by omega)).1 a
    obtain ⟨c0, c1, c3, c4⟩ := cpy_c (i := V x) 2 (V j 1)
    by_cases ex : k = x
    · rw [ex, uZ_eq] at q
      rcases q with ⟨q1, q2, q3⟩ | ⟨q1, l, q2, q3⟩
      · -- it reads what stands ahead
        rw [c0, c1] at q3
        have d1 : TLV V n (x + 1) (V x 1) := by
          rcases q3 with z | z
          · omega
          · rcases z with z | z
            · exact z
            · have := z.1.2; omega
        have hr : ∀ b, rdI (V x) b → TLV V n x b := fun b hb => TLV.th hx.1 hx.2 (by have := hf.2; omega) hb d1
        have g1 : g = V j 1 ∨ rdI (V x) g := by
          obtain ⟨m, m0, m4, e3, e4⟩ := q2
          have hi : ∀ c, 6 < c → cpyI (V x) 2 (V j 1) c = V x c := fun c hc => by
            show uZ (uZ (uZ (uZ (uZ (V x) 0 0) 3 2) 4 _) 5 0) 6 0 c = _
            rw [uZ_ne (by omega), uZ_ne (by omega), uZ_ne (by omega), uZ_ne (by omega), uZ_ne (by omega)]
          by_cases z : m = 0
          · rw [z] at e4
            rw [show (4 : Int) + 2 * 0 = 4 by decide, c4] at e4
            exact Or.inl e4.symm
          · by_cases y : m = 1
            · rw [y] at e3
              have : cpyI (V x) 2 (V j 1) 5 = 0 := by
                show uZ (uZ (uZ (uZ (uZ (V x) 0 0) 3 2) 4 _) 5 0) 6 0 5 = 0
                rw [uZ_ne (by decide), uZ_eq]
              rw [show (3 : Int) + 2 * 1 = 5 by decide, this] at e3; omega
            · rw [hi _ (by omega)] at e3 e4
              exact Or.inr ⟨m, m0, m4, e3, e4⟩
        rw [ex]
        rcases g1 with z | z
        · refine Or.inr ⟨⟨jx, Int.le_refl _⟩, z, fun y => hr _ ?_, fun y => hr _ ?_⟩
          · exact ⟨0, by decide, by decide, t3.symm.trans y, t4.symm⟩
          · exact ⟨1, by decide, by decide, t5.symm.trans y, t6.symm⟩
        · exact Or.inl (hr g z)
      · -- on
        have nw : ¬ wrT (V x) g := fun z => q1 ⟨Or.inl (by rw [c0]; decide), c1.trans z.2⟩
        have el : l = x + 1 := by
          rcases q2 with z | z
          · exact z.2
          · have := z.1; rw [uZ_eq, c0] at this; omega
        rw [el] at q3
        rw [ex]
        rcases q3 with z | z
        · exact Or.inl (TLV.on hx.1 hx.2 nw (Or.inl ⟨by have := hf.2; omega, rfl⟩) z)
        · have := z.1.2; omega
    · rw [uZ_ne ex] at q
      -- the operands of j, one item back
      have bk : ∀ b, j < k → k < x → TLV V n (k + 1) b → ¬ wrT (V k) b → ¬ (V k 0 = 8 ∨ V k 0 = 7) → TLV V n k b := fun b _ _ z w u => TLV.on k0 kn w (Or.inl ⟨u, rfl⟩) z
      rcases q with ⟨q1, q2, q3⟩ | ⟨q1, l, q2, q3⟩
      · rcases q3 with z | z
        · exact Or.inl (TLV.us k0 kn q1 q2 z)
        · by_cases c : 5 < V k 0
          · exact Or.inl (TLV.us k0 kn q1 q2 c)
          · rcases z with z | ⟨z1, z2, z3, z4⟩
            · exact Or.inl (TLV.th k0 kn q1 q2 z)
            · -- its r is j's
              have ej : k = j := by
                by_cases e : k = j
                · exact e
                · exact absurd (tw k (by omega) (by omega) ⟨Or.inl (by omega), z2⟩) (fun y => y)
              rw [ej] at q2 k0 kn ⊢
              have rd := rd_two (ha j k0 kn (by rw [t0]; have := hf.2; omega)) q2
              rw [ej] at z3 z4
              refine Or.inl ?_
              rcases rd with y | y
              · rw [← y.2]
                refine TLV.on k0 kn (fun w => tn ⟨0, by decide, by decide, y.1, w.2.symm⟩) (Or.inl ⟨by rw [t0]; have := hf.2; omega, rfl⟩) (z3 y.1)
              · rw [← y.2]
                refine TLV.on k0 kn (fun w => tn ⟨1, by decide, by decide, y.1, w.2.symm⟩) (Or.inl ⟨by rw [t0]; have := hf.2; omega, rfl⟩) (z4 y.1)
      · have ed : EDv V n k l := by
          rcases q2 with z | z
          · exact Or.inl ⟨by rw [uZ_ne ex] at z; exact z.1, z.2⟩
          · obtain ⟨a1, b0, b1, b2, b3⟩ := z
            rw [uZ_ne ex] at a1 b3
            have lx : l ≠ x := fun w => by rw [w, uZ_eq, c0] at b2; omega
            rw [uZ_ne lx] at b2 b3
            exact Or.inr ⟨a1, b0, b1, b2, b3⟩
        rcases q3 with z | ⟨z1, z2, z3, z4⟩
        · exact Or.inl (TLV.on k0 kn q1 ed z)
        · -- k + 1 stands between
          rcases ed with ⟨u1, u2⟩ | ⟨-, u2⟩
          · rw [u2] at z1 z3 z4
            have kj : k ≠ j := fun w => q1 ⟨by rw [w, t0]; have := hf.2; omega, by rw [w, z2]⟩
            refine Or.inr ⟨⟨by omega, by omega⟩, z2, fun y => ?_, fun y => ?_⟩
            · exact bk _ (by omega) (by omega) (z3 y) (tr3 y k (by omega) (by omega)) u1
            · exact bk _ (by omega) (by omega) (z4 y) (tr5 y k (by omega) (by omega)) u1
          · exact absurd z1 (jmp l u2.2.2.1)
  rcases q with z | z
  · exact h g z
  · have := z.1.1; omega
theorem AR8.ali (ha : AR8 V n) (hf : isF (V x)) : AR8 (uZ V x (cpyI (V x) 2 (V j 1))) n := fun i i0 i1 i10 => by
  by_cases e : i = x
  · rw [e, uZ_eq]
    have hi : ∀ c, 6 < c → cpyI (V x) 2 (V j 1) c = V x c := fun c hc => by
      show uZ (uZ (uZ (uZ (uZ (V x) 0 0) 3 2) 4 _) 5 0) 6 0 c = _
      rw [uZ_ne (by omega), uZ_ne (by omega), uZ_ne (by omega), uZ_ne (by omega), uZ_ne (by omega)]
    rw [hi 7 (by decide), hi 9 (by decide)]
    exact ha x (by omega) (by omega) (by have := hf.2; omega)
  · rw [uZ_ne e] at i10 ⊢; exact ha i i0 i1 i10
theorem ALS.kp {H : Int → Prop} {w : Int} {t : Nat} (ht : (t : Int) ≤ n) (h : NBK V n) (h2 : S2T V n H) (ha : AR8 V n) (g : ALS t V V' w) : NBK V' n ∧ S2T V' n H ∧ AR8 V' n := by
  induction t generalizing V' w with
  | zero => rw [g.1]; exact ⟨h, h2, ha⟩
  | succ t ih =>
    obtain ⟨V1, w1, d, g1, g2, g3⟩ := g
    obtain ⟨i1, i2, i3⟩ := ih (by omega) g1
    rcases g2 with ⟨j, a, b, c, e⟩ | ⟨a, b, c⟩
    · rw [c]; exact ⟨i1.ali a, i2.ali i3 ⟨by omega, by omega⟩ a b, i3.ali a⟩
    · rw [b]; exact ⟨i1, i2, i3⟩
end ALT8
section SHT8
variable {V : Int → It} {n g k : Int} {nb : Int → Int} {Q bg N N' : Int → Prop} {i : It}
theorem rn_rd (h : rdI (rnI nb i) g) : ∃ b, nb b = g ∧ rdI i b := by
  obtain ⟨m, m0, m4, e3, e4⟩ := h
  have f3 : rnI nb i (3 + 2 * m) = i (3 + 2 * m) := by
    show (if 3 + 2 * m = 1 ∧ (i 0 ≤ 5 ∨ i 0 = 10) then nb (i 1) else if (3 + 2 * m = 4 ∨ 3 + 2 * m = 6 ∨ 3 + 2 * m = 8 ∨ 3 + 2 * m = 10) ∧ i (3 + 2 * m - 1) = 2 then nb (i (3 + 2 * m)) else i (3 + 2 * m)) = _
    rw [if_neg (fun z => by omega), if_neg (fun z => by omega)]
  have f4 : rnI nb i (4 + 2 * m) = if i (3 + 2 * m) = 2 then nb (i (4 + 2 * m)) else i (4 + 2 * m) := by
    show (if 4 + 2 * m = 1 ∧ (i 0 ≤ 5 ∨ i 0 = 10) then nb (i 1) else if (4 + 2 * m = 4 ∨ 4 + 2 * m = 6 ∨ 4 + 2 * m = 8 ∨ 4 + 2 * m = 10) ∧ i (4 + 2 * m - 1) = 2 then nb (i (4 + 2 * m)) else i (4 + 2 * m)) = _
    rw [if_neg (fun z => by omega), show 4 + 2 * m - 1 = 3 + 2 * m by omega]
    by_cases c : i (3 + 2 * m) = 2
    · rw [if_pos c, if_pos ⟨by omega, c⟩]
    · rw [if_neg c, if_neg (fun z => c z.2)]
  rw [f3] at e3
  rw [f4, if_pos e3] at e4
  exact ⟨_, e4, m, m0, m4, e3, rfl⟩
theorem sv_0 (k0 : 0 ≤ k) (kn : k < n) : shV V n nb bg k 0 = V k 0 := by rw [sv_k k0 kn, rn_lo (by decide) (by decide), ub8c (by decide)]
theorem sv_1 (k0 : 0 ≤ k) (kn : k < n) : shV V n nb bg k 1 = if V k 0 ≤ 5 ∨ V k 0 = 10 then nb (V k 1) else V k 1 := by rw [sv_k k0 kn, rn_1, ub8c (by decide), ub8c (by decide)]
theorem NBK.shr (h : NBK V n) : NBK (shV V n nb bg) n := by
  refine h.same (fun i a b c => ?_)
  rw [sv_0 a b] at c
  rw [sv_0 a b, sv_1 a b, if_neg (by omega)]
  exact ⟨rfl, rfl⟩
theorem S2T.shr (h : S2T V n N) (hr : RG8 V n) (hn : nbV (odV V n Q) 192 nb) (hN : ∀ g, N g → N' (nb g)) : S2T (shV V n nb bg) n N' := fun g a => by
  have q : ∃ b, nb b = g ∧ TLV V n 0 b := by
    refine a.ind (P := fun k g => ∃ b, nb b = g ∧ TLV V n k b) (fun k g k0 kn q => ?_)
    rw [sv_0 k0 kn, sv_1 k0 kn] at q
    rcases q with ⟨q1, q2, q3⟩ | ⟨q1, l, q2, q3⟩
    · rw [sv_k k0 kn, ub8n q1] at q2
      obtain ⟨b, b1, b2⟩ := rn_rd q2
      refine ⟨b, b1, ?_⟩
      by_cases c : 5 < V k 0
      · exact TLV.us k0 kn q1 b2 c
      · rcases q3 with z | ⟨h, z1, z2⟩
        · exact absurd z c
        · rw [if_pos (by omega)] at z1
          refine TLV.th k0 kn q1 b2 ?_
          by_cases e : V k 1 = h
          · rw [e]; exact z2
          · have w := nb_ne hn (fun _ _ => od_s) (hr.1 k k0 kn (by omega)) (lv_rg hr z2.lv) e ⟨e, Or.inr (Or.inl ⟨k, k0, kn, ⟨by omega, rfl⟩, z2.lv⟩)⟩
            exact absurd z1.symm w
    · obtain ⟨b, b1, b2⟩ := q3
      refine ⟨b, b1, TLV.on k0 kn (fun z => q1 ⟨by rw [sv_0 k0 kn]; exact z.1, ?_⟩) ?_ b2⟩
      · rw [sv_1 k0 kn, if_pos z.1, z.2]; exact b1
      · rcases q2 with ⟨u1, u2⟩ | ⟨u1, u0, u2, u3, u4⟩
        · rw [sv_0 k0 kn] at u1; exact Or.inl ⟨u1, u2⟩
        · rw [sv_0 k0 kn] at u1
          rw [sv_0 u0 u2] at u3
          rw [sv_1 u0 u2, sv_1 k0 kn, if_neg (by omega), if_neg (by omega)] at u4
          exact Or.inr ⟨u1, u0, u2, u3, u4⟩
  obtain ⟨b, b1, b2⟩ := q
  rw [← b1]; exact hN b (h b b2)
end SHT8
end
