section
def MV8 (V : Int → It) (n p q x : Int) : Prop := (0 ≤ p ∧ p < x ∧ x ≤ q ∧ q < n) ∧ (V p 0 = 13 ∧ V q 0 = 8 ∧ V q 1 = V p 1 ∧ ∀ i, q < i → i < n → ¬ (V i 0 = 8 ∧ V i 1 = V p 1)) ∧ V x 0 ≤ 5 ∧ (∀ i, 0 ≤ i → i < n → i ≠ x → ¬ wrT (V i) (V x 1)) ∧ ∀ b, rdI (V x) b → ∀ i, p ≤ i → i ≤ q → ¬ wrT (V i) b
def mvP (p x k : Int) : Int := if k < p then k else if k ≤ x then k + 1 else k
def rhM (V : Int → It) (n p q x k : Int) (R : G8) (k' : Int) (R' : G8) : Prop := RCG V n 0 (fun _ => False) k ∧ (∀ h, TLV V n k h → R' h = R h) ∧ ((k' = mvP p x k ∧ (p ≤ k → k ≤ q → R' (V x 1) = val8 R' (V x))) ∨ (k = p ∧ k' = p))
section MOV8
variable {V : Int → It} {n p q x k t h l i : Int} {R R' : G8} {N : Int → Prop}
theorem MV8.ent (m : MV8 V n p q x) (b : NBK V n) (e : EDv V n i t) (i0 : 0 ≤ i) (i1 : i < n) (ht : p ≤ t ∧ t ≤ q) (hi : ¬ (p ≤ i ∧ i ≤ q)) : t = p ∧ i = p - 1 ∧ t = i + 1 := by
  obtain ⟨⟨m0, m1, m2, m3⟩, ⟨l1, l2, l3, l4⟩, -⟩ := m
  rcases e with ⟨-, e⟩ | ⟨e1, e2⟩
  · omega
  · exfalso
    have jq : JE8 V n q p := ⟨⟨by omega, m3⟩, Or.inl l2, m0, by omega, l1, l3.symm⟩
    obtain ⟨c1, c2⟩ := b.2 i t q p ⟨⟨i0, i1⟩, e1, e2⟩ jq (by omega) ht.1 ht.2
    rcases c2 with c2 | c2
    · have il : V i 1 = V p 1 := by rw [← c2]; exact e2.2.2.2.symm
      have k8 : V i 0 = 8 := by
        rcases e1 with z | z
        · exact z
        · refine b.1 i t ⟨⟨i0, i1⟩, Or.inr z, e2⟩ ?_
          rw [c2]
          have : i ≠ p := fun y => by rw [y, l1] at z; omega
          omega
      by_cases c : q < i
      · exact l4 i c i1 ⟨k8, il⟩
      · exact hi ⟨c1, by omega⟩
    · exact hi ⟨c1, c2⟩
theorem MV8.dead (m : MV8 V n p q x) (b : NBK V n) (s : ¬ TLV V n 0 (V x 1)) (r : RCG V n 0 (fun _ => False) p) : ¬ TLV V n p (V x 1) := by
  have f : (p ≤ p ∧ p ≤ q → (TLV V n p (V x 1) → TLV V n 0 (V x 1))) ∧ (¬ (p ≤ p ∧ p ≤ q) → (TLV V n p (V x 1) → TLV V n 0 (V x 1)) ∨ (TLV V n p (V x 1) → TLV V n 0 (V x 1))) := by
    refine r (fun i => (p ≤ i ∧ i ≤ q → (TLV V n p (V x 1) → TLV V n 0 (V x 1))) ∧ (¬ (p ≤ i ∧ i ≤ q) → (TLV V n i (V x 1) → TLV V n 0 (V x 1)) ∨ (TLV V n p (V x 1) → TLV V n 0 (V x 1)))) ⟨fun a z => ?_, fun _ => Or.inl (fun z => z)⟩ (fun i t i0 i1 hs _ e => ?_)
    · have : p = 0 := by have := m.1.1; omega
      rw [this] at z; exact z
    · by_cases ci : p ≤ i ∧ i ≤ q
      · exact ⟨fun _ => hs.1 ci, fun _ => Or.inr (hs.1 ci)⟩
      · have nw : ¬ wrT (V i) (V x 1) := m.2.2.2.1 i i0 i1 (fun z => ci (by have := m.1; omega))
        refine ⟨fun ht z => ?_, fun _ => ?_⟩
        · obtain ⟨e1, -, -⟩ := m.ent b e i0 i1 ht ci
          rcases hs.2 ci with w | w
          · exact w (TLV.on i0 i1 nw e (by rw [e1]; exact z))
          · exact w z
        · rcases hs.2 ci with w | w
          · exact Or.inl (fun z => w (TLV.on i0 i1 nw e z))
          · exact Or.inr w
  exact fun z => s (f.1 ⟨Int.le_refl _, by have := m.1; omega⟩ z)
theorem li_p : liV V x p p = V x := if_pos rfl
theorem li_at (m : p < x) (e : k ≠ x) : liV V x p (mvP p x k) = V k := by
  unfold liV mvP
  by_cases a : k < p
  · rw [if_pos a, if_neg (by omega), if_neg (by omega)]
  · rw [if_neg a]
    by_cases b : k ≤ x
    · rw [if_pos b, if_neg (by omega), if_pos (by omega), show k + 1 - 1 = k by omega]
    · rw [if_neg b, if_neg (by omega), if_neg (by omega)]
theorem mvP_n (e1 : k + 1 ≠ p) (ex : k ≠ x) : mvP p x (k + 1) = mvP p x k + 1 := by
  unfold mvP
  by_cases a : k < p
  · rw [if_pos a, if_pos (by omega)]
  · rw [if_neg a, if_neg (by omega)]
    by_cases b : k ≤ x
    · rw [if_pos b, if_pos (by omega)]
    · rw [if_neg b, if_neg (by omega)]
theorem tl_op (h : ∀ g, TLV V n k g → R' g = R g) (k0 : 0 ≤ k) (kn : k < n) (h12 : V k 0 ≠ 12) (hd : 5 < V k 0 ∨ TLV V n (k + 1) (V k 1)) {j : Int} (j0 : 0 ≤ j) (j4 : j < 4) : opv R' (V k) j = opv R (V k) j := by
  unfold opv
  by_cases c : V k (3 + 2 * j) = 2
  · rw [if_pos c, if_pos c]
    rcases hd with z | z
    · exact h _ (TLV.us k0 kn h12 ⟨j, j0, j4, c, rfl⟩ z)
    · exact h _ (TLV.th k0 kn h12 ⟨j, j0, j4, c, rfl⟩ z)
  · rw [if_neg c, if_neg c]
theorem tl_val (h : ∀ g, TLV V n k g → R' g = R g) (k0 : 0 ≤ k) (kn : k < n) (h5 : V k 0 ≤ 5) (hd : TLV V n (k + 1) (V k 1)) : val8 R' (V k) = val8 R (V k) := by
  unfold val8
  rw [tl_op h k0 kn (by omega) (Or.inr hd) (by decide) (by decide), tl_op h k0 kn (by omega) (Or.inr hd) (by decide) (by decide)]
end MOV8
theorem ls_mov {H : RTS} {p q x : Int} (m : MV8 H.V H.n p q x) (b : NBK H.V H.n) (s : ¬ TLV H.V H.n 0 (H.V x 1)) : LS8 H (H.n, liV H.V x p, H.2.2) (rhM H.V H.n p q x) := by
  intro k R k' R' hr k0 kn
  obtain ⟨hc, hl, hp⟩ := hr
  have m' := m
  obtain ⟨⟨m0, m1, m2, m3⟩, ⟨l1, l2, l3, l4⟩, w1, w2, w3⟩ := m
  have self : ¬ rdI (H.V x) (H.V x 1) := fun z => w3 _ z x (by omega) (by omega) ⟨Or.inl w1, rfl⟩
  -- alike behind an item that writes
  have al : (H.V k 0 ≤ 5 ∨ H.V k 0 = 10) → ∀ v v', (TLV H.V H.n (k + 1) (H.V k 1) → v' = v) → ∀ h, TLV H.V H.n (k + 1) h → uZ R' (H.V k 1) v' h = uZ R (H.V k 1) v h := fun a v v' ev h z => by
    by_cases e : h = H.V k 1
    · rw [e, uZ_eq, uZ_eq]; rw [e] at z; exact ev z
    · rw [uZ_ne e, uZ_ne e]
      exact hl h (TLV.on k0 kn (fun y => e y.2.symm) (Or.inl ⟨by omega, rfl⟩) z)
  have nx : ¬ (H.V k 0 = 8 ∨ H.V k 0 = 7) → RCG H.V H.n 0 (fun _ => False) (k + 1) := fun a => hc.s k0 kn (fun z => z) (Or.inl ⟨a, rfl⟩)
  by_cases a2 : k = p ∧ k' = p
  · -- from ahead: the item that was moved, then the LABEL
    obtain ⟨ek, ek'⟩ := a2
    rw [ek'] at hp ⊢
    rw [ek] at hc hl al nx ⊢
    have dd := m'.dead b s hc
    have hv : val8 (uZ R' (H.V x 1) (val8 R' (H.V x))) (H.V x) = val8 R' (H.V x) := val_ne self
    have li1 : liV H.V x p (p + 1) = H.V p := by
      have z := li_at (V := H.V) (k := p) m1 (by omega)
      unfold mvP at z
      rw [if_neg (by omega), if_pos (by omega)] at z
      exact z
    refine ls8_s1 (k1 := p + 1) (R1 := uZ R' (H.V x 1) (val8 R' (H.V x))) (fun d => ⟨⟨m0, by show p < H.n; omega⟩, Or.inl ⟨?_, rfl, rfl, ?_, rfl⟩⟩) ?_
    · show liV H.V x p p 0 ≤ 5
      rw [li_p]; exact w1
    · show _ = uZ R' (liV H.V x p p 1) (val8 R' (liV H.V x p p))
      rw [li_p]
    · have y0 : liV H.V x p (p + 1) 0 = H.V p 0 := by rw [li1]
      refine sc8 (H2 := (H.n, liV H.V x p, H.2.2)) ⟨by omega, by show p + 1 < H.n; omega⟩ (Or.inl y0) (fun z => by omega) (fun z => by omega) (fun _ _ _ _ _ => ?_) (fun z => by omega) (fun z => by omega) (fun z => by omega)
      refine ⟨nx (by omega), fun h z => ?_, Or.inl ⟨?_, fun _ _ => ?_⟩⟩
      · have tp : TLV H.V H.n p h := TLV.on m0 (by omega) (fun y => by have := y.1; omega) (Or.inl ⟨by omega, rfl⟩) z
        rw [uZ_ne (fun y => dd (by rw [← y]; exact tp))]
        exact hl h tp
      · unfold mvP; rw [if_neg (by omega), if_pos (by omega)]
      · rw [uZ_eq, hv]
  · have hp1 : k' = mvP p x k ∧ (p ≤ k → k ≤ q → R' (H.V x 1) = val8 R' (H.V x)) := by
      rcases hp with z | z
      · exact z
      · exact absurd z a2
    obtain ⟨e2, hg⟩ := hp1
    by_cases ex : k = x
    · -- the item is gone here
      rw [ex] at hc hl al nx e2 hg ⊢
      have e3 : k' = x + 1 := by rw [e2]; unfold mvP; rw [if_neg (by omega), if_pos (by omega)]
      refine ls8_si (si5 w1 ⟨nx (by omega), fun h z => ?_, Or.inl ⟨?_, fun _ _ => hg (by omega) (by omega)⟩⟩)
      · by_cases e : h = H.V x 1
        · rw [e, uZ_eq, hg (by omega) (by omega)]
          rw [e] at z
          exact tl_val hl (by omega) (by omega) w1 z
        · rw [uZ_ne e]
          exact hl h (TLV.on (by omega) (by omega) (fun y => e y.2.symm) (Or.inl ⟨by omega, rfl⟩) z)
      · rw [e3]; unfold mvP; rw [if_neg (by omega), if_neg (by omega)]
    · have ey : liV H.V x p k' = H.V k := by rw [e2]; exact li_at m1 ex
      have hb : 0 ≤ k' ∧ k' < H.n := by
        rw [e2]; unfold mvP
        by_cases c : k < p
        · rw [if_pos c]; omega
        · rw [if_neg c]
          by_cases d : k ≤ x
          · rw [if_pos d]; omega
          · rw [if_neg d]; omega
      -- the next item
      have on : ¬ (H.V k 0 = 8 ∨ H.V k 0 = 7) → ∀ R2 R3, (∀ h, TLV H.V H.n (k + 1) h → R3 h = R2 h) → (p ≤ k → k ≤ q → R3 (H.V x 1) = val8 R3 (H.V x)) → rhM H.V H.n p q x (k + 1) R2 (k' + 1) R3 := fun a R2 R3 c d => by
        refine ⟨nx a, c, ?_⟩
        by_cases e1 : k + 1 = p
        · refine Or.inr ⟨e1, ?_⟩
          rw [e2]; unfold mvP; rw [if_pos (by omega)]; exact e1
        · refine Or.inl ⟨by rw [e2, mvP_n e1 ex], fun y z => d (by omega) (by omega)⟩
      -- what it writes is not what the loop's item tells
      have gk : ∀ g v, wrT (H.V k) g → p ≤ k → k ≤ q → uZ R' g v (H.V x 1) = val8 (uZ R' g v) (H.V x) := fun g v a c d => by
        have g1 : H.V x 1 ≠ g := fun z => w2 k k0 kn ex (by rw [z]; exact a)
        have g2 : ¬ rdI (H.V x) g := fun z => w3 g z k c d a
        rw [uZ_ne g1, val_ne g2]
        exact hg c d
      refine ls8_sc (sc8 (H2 := (H.n, liV H.V x p, H.2.2)) hb (Or.inl ?_) (fun a => ?_) (fun a => ⟨?_, fun j j0 j4 => ?_⟩) (fun a c d e _ => ?_) (fun a => ?_) (fun a v => ?_) (fun a l hl2 => ?_))
      · show liV H.V x p k' 0 = _; rw [ey]
      · show opv R' (liV H.V x p k') 0 = _
        rw [ey]; exact tl_op hl k0 kn (by omega) (Or.inl (by omega)) (by decide) (by decide)
      · show liV H.V x p k' 2 = _; rw [ey]
      · show opv R' (liV H.V x p k') j = _
        rw [ey]; exact tl_op hl k0 kn (by omega) (Or.inl (by omega)) j0 j4
      · exact on (by omega) R R' (fun h z => hl h (TLV.on k0 kn (fun y => by have := y.1; omega) (Or.inl ⟨by omega, rfl⟩) z)) hg
      · show rhM H.V H.n p q x (k + 1) _ _ (uZ R' (liV H.V x p k' 1) (val8 R' (liV H.V x p k')))
        rw [ey]
        exact on (by omega) _ _ (al (Or.inl a) _ _ (fun z => tl_val hl k0 kn a z)) (gk _ _ ⟨Or.inl a, rfl⟩)
      · show rhM H.V H.n p q x (k + 1) _ _ (uZ R' (liV H.V x p k' 1) v)
        rw [ey]
        exact on (by omega) _ _ (al (Or.inr a) _ _ (fun _ => rfl)) (gk _ _ ⟨Or.inr a, rfl⟩)
      · have hk : H.V k 0 = 8 ∨ H.V k 0 = 9 := a.elim Or.inl (fun z => Or.inr z.1)
        have ed : EDv H.V H.n k l := Or.inr ⟨hk, hl2⟩
        have lx : l ≠ x := fun z => by have := hl2.2.2.1; rw [z] at this; omega
        have el := li_at (V := H.V) (p := p) m1 lx
        have l0 := hl2.1
        have ln := hl2.2.1
        refine ⟨mvP p x l, ⟨?_, ?_, ?_, ?_⟩, hc.s k0 kn (fun z => z) ed, fun h z => hl h (TLV.on k0 kn (fun y => by have := y.1; omega) ed z), Or.inl ⟨rfl, fun y z => ?_⟩⟩
        · unfold mvP
          by_cases c : l < p
          · rw [if_pos c]; exact l0
          · rw [if_neg c]
            by_cases d : l ≤ x
            · rw [if_pos d]; omega
            · rw [if_neg d]; exact l0
        · show mvP p x l < H.n
          unfold mvP
          by_cases c : l < p
          · rw [if_pos c]; exact ln
          · rw [if_neg c]
            by_cases d : l ≤ x
            · rw [if_pos d]; omega
            · rw [if_neg d]; exact ln
        · show liV H.V x p (mvP p x l) 0 = 13
          rw [el]; exact hl2.2.2.1
        · show liV H.V x p (mvP p x l) 1 = liV H.V x p k' 1
          rw [el, ey]; exact hl2.2.2.2
        · by_cases c : p ≤ k ∧ k ≤ q
          · exact hg c.1 c.2
          · have := m'.ent b ed k0 kn ⟨y, z⟩ c
            have g8 : l = k + 1 := this.2.2
            exfalso
            -- a jump into the loop from without: there is none
            have e3 : l = p := this.1
            have e4 : k = p - 1 := this.2.1
            have jq : JE8 H.V H.n q p := ⟨⟨by omega, m3⟩, Or.inl l2, m0, by omega, l1, l3.symm⟩
            have w := (b.2 k l q p ⟨⟨k0, kn⟩, hk, hl2⟩ jq (by omega) (by omega) (by omega)).1
            omega
theorem st_mov {H H2 : RTS} {p q x P : Int} (hp : 0 ≤ p) (e : H2.2.2 = H.2.2) : ST8 H H2 P (rhM H.V H.n p q x) := fun W => by
  refine ⟨RCG.z, fun h _ => ?_, ?_⟩
  · unfold cal8
    rw [show H2.na = H.na by unfold RTS.na; rw [e]]
  · by_cases c : p = 0
    · exact Or.inr ⟨c.symm, c.symm⟩
    · refine Or.inl ⟨?_, fun z => by omega⟩
      unfold mvP; rw [if_pos (by omega)]
section MVK8
variable {V V' : Int → It} {n p p' q x g w : Int} {N : Int → Prop} {t : Nat}
theorem NBK.mov (b : NBK V n) (m : MV8 V n p q x) : NBK (liV V x p) n := by
  obtain ⟨⟨m0, m1, m2, m3⟩, -, w1, -⟩ := m
  refine b.emb (Φ := fun i j => j ≠ x ∧ i = mvP p x j) (fun i a c d => ?_) (fun i j i2 j2 a c => ?_)
  · have ip : i ≠ p := fun z => by rw [z, li_p] at d; omega
    have e : i = mvP p x (if p < i ∧ i ≤ x then i - 1 else i) ∧ (if p < i ∧ i ≤ x then i - 1 else i) ≠ x ∧ 0 ≤ (if p < i ∧ i ≤ x then i - 1 else i) ∧ (if p < i ∧ i ≤ x then i - 1 else i) < n := by
      by_cases c1 : p < i ∧ i ≤ x
      · rw [if_pos c1]; unfold mvP; rw [if_neg (by omega), if_pos (by omega)]; omega
      · rw [if_neg c1]; unfold mvP
        by_cases c2 : i < p
        · rw [if_pos c2]; omega
        · rw [if_neg c2, if_neg (by omega)]; omega
    have el := li_at (V := V) (p := p) m1 e.2.1
    rw [← e.1] at el
    rw [el] at d ⊢
    exact ⟨_, ⟨e.2.1, e.1⟩, e.2.2, rfl, fun z => z, fun z => z, fun z => Or.inl z⟩
  · obtain ⟨a1, a2⟩ := a
    obtain ⟨c1, c2⟩ := c
    rw [a2, c2]; unfold mvP
    by_cases e1 : j < p
    · rw [if_pos e1]
      by_cases e2 : j2 < p
      · rw [if_pos e2]
      · rw [if_neg e2]
        by_cases e3 : j2 ≤ x
        · rw [if_pos e3]; omega
        · rw [if_neg e3]
    · rw [if_neg e1]
      by_cases e4 : j ≤ x
      · rw [if_pos e4]
        by_cases e2 : j2 < p
        · rw [if_pos e2]; omega
        · rw [if_neg e2]
          by_cases e3 : j2 ≤ x
          · rw [if_pos e3]; omega
          · rw [if_neg e3]; omega
      · rw [if_neg e4]
        by_cases e2 : j2 < p
        · rw [if_pos e2]
        · rw [if_neg e2]
          by_cases e3 : j2 ≤ x
          · rw [if_pos e3]; omega
          · rw [if_neg e3]
theorem MV8.tl (m : MV8 V n p q x) (b : NBK V n) (s : ¬ TLV V n 0 (V x 1)) {i g : Int} (a : TLV (liV V x p) n i g) : ∀ k, RCG V n 0 (fun _ => False) k →
    ((i = mvP p x k → (¬ (p ≤ k ∧ k ≤ q) ∨ g ≠ V x 1 → TLV V n k g) ∧ (p ≤ k ∧ k ≤ q → TLV V n k g ∨ ∀ o, rdI (V x) o → TLV V n k o)) ∧ (k = p → i = p → TLV V n p g)) := by
  have m' := m
  obtain ⟨⟨m0, m1, m2, m3⟩, ⟨l1, l2, l3, l4⟩, w1, w2, w3⟩ := m
  have self : ¬ rdI (V x) (V x 1) := fun z => w3 _ z x (by omega) (by omega) ⟨Or.inl w1, rfl⟩
  refine a.ind (P := fun i g => ∀ k, RCG V n 0 (fun _ => False) k →
    ((i = mvP p x k → (¬ (p ≤ k ∧ k ≤ q) ∨ g ≠ V x 1 → TLV V n k g) ∧ (p ≤ k ∧ k ≤ q → TLV V n k g ∨ ∀ o, rdI (V x) o → TLV V n k o)) ∧ (k = p → i = p → TLV V n p g))) (fun i g i0 i1 h k rk => ?_)
  -- an item that stands as it stood
  have main : ∀ k, RCG V n 0 (fun _ => False) k → k ≠ x → i = mvP p x k → (¬ (p ≤ k ∧ k ≤ q) ∨ g ≠ V x 1 → TLV V n k g) ∧ (p ≤ k ∧ k ≤ q → TLV V n k g ∨ ∀ o, rdI (V x) o → TLV V n k o) := fun k rk kx ek => by
    have hk : 0 ≤ k ∧ k < n := by
      unfold mvP at ek
      by_cases c : k < p
      · rw [if_pos c] at ek; omega
      · rw [if_neg c] at ek
        by_cases d : k ≤ x
        · rw [if_pos d] at ek; omega
        · rw [if_neg d] at ek; omega
    have ey : liV V x p i = V k := by rw [ek]; exact li_at m1 kx
    rw [ey] at h
    -- the next one
    have nx : ¬ (V k 0 = 8 ∨ V k 0 = 7) → ∀ g, (∀ k2, RCG V n 0 (fun _ => False) k2 → ((i + 1 = mvP p x k2 → (¬ (p ≤ k2 ∧ k2 ≤ q) ∨ g ≠ V x 1 → TLV V n k2 g) ∧ (p ≤ k2 ∧ k2 ≤ q → TLV V n k2 g ∨ ∀ o, rdI (V x) o → TLV V n k2 o)) ∧ (k2 = p → i + 1 = p → TLV V n p g))) → (¬ (p ≤ k ∧ k ≤ q) ∨ g ≠ V x 1 → TLV V n (k + 1) g) ∧ (p ≤ k ∧ k ≤ q → TLV V n (k + 1) g ∨ ∀ o, rdI (V x) o → TLV V n (k + 1) o) := fun a g z => by
      have r1 := rk.s hk.1 hk.2 (fun y => y) (Or.inl ⟨a, rfl⟩ : EDv V n k (k + 1))
      obtain ⟨z1, z2⟩ := z (k + 1) r1
      by_cases e1 : k + 1 = p
      · have e2 : i + 1 = p := by rw [ek]; unfold mvP; rw [if_pos (by omega)]; exact e1
        exact ⟨fun _ => by rw [e1]; exact z2 e1 e2, fun y => by omega⟩
      · obtain ⟨z3, z4⟩ := z1 (by rw [ek, mvP_n e1 kx])
        refine ⟨fun y => z3 ?_, fun y => ?_⟩
        · rcases y with y | y
          · exact Or.inl (by omega)
          · exact Or.inr y
        · by_cases c : k + 1 ≤ q
          · exact z4 ⟨by omega, c⟩
          · exact Or.inl (z3 (Or.inl (by omega)))
    rcases h with ⟨q1, q2, q3⟩ | ⟨q1, t, q2, q3⟩
    · -- read here
      have tl : TLV V n k g := by
        by_cases c : 5 < V k 0
        · exact TLV.us hk.1 hk.2 q1 q2 c
        · rcases q3 with z | z
          · exact absurd z c
          · refine TLV.th hk.1 hk.2 q1 q2 ((nx (by omega) _ z).1 (Or.inr (fun y => w2 k hk.1 hk.2 kx ⟨Or.inl (by omega), y⟩)))
      exact ⟨fun _ => tl, fun _ => Or.inl tl⟩
    · rcases q2 with ⟨u1, u2⟩ | ⟨u1, u0, u2, u3, u4⟩
      · rw [ey] at u1
        rw [u2] at q3
        obtain ⟨z1, z2⟩ := nx u1 g q3
        have ed : EDv V n k (k + 1) := Or.inl ⟨u1, rfl⟩
        refine ⟨fun y => TLV.on hk.1 hk.2 q1 ed (z1 y), fun y => ?_⟩
        rcases z2 y with z | z
        · exact Or.inl (TLV.on hk.1 hk.2 q1 ed z)
        · exact Or.inr (fun o ho => TLV.on hk.1 hk.2 (w3 o ho k y.1 y.2) ed (z o ho))
      · rw [ey] at u1 u4
        have tp : t ≠ p := fun z => by rw [z, li_p] at u3; omega
        -- the LABEL's place of old
        obtain ⟨l, e1, e2, e3⟩ : ∃ l, t = mvP p x l ∧ l ≠ x ∧ 0 ≤ l ∧ l < n := by
          refine ⟨if p < t ∧ t ≤ x then t - 1 else t, ?_⟩
          by_cases c1 : p < t ∧ t ≤ x
          · rw [if_pos c1]; unfold mvP; rw [if_neg (by omega), if_pos (by omega)]; omega
          · rw [if_neg c1]; unfold mvP
            by_cases c2 : t < p
            · rw [if_pos c2]; omega
            · rw [if_neg c2, if_neg (by omega)]; omega
        have el := li_at (V := V) (p := p) m1 e2
        rw [← e1] at el
        rw [el] at u3 u4
        have ed : EDv V n k l := Or.inr ⟨u1, e3.1, e3.2, u3, u4⟩
        have r1 := rk.s hk.1 hk.2 (fun y => y) ed
        obtain ⟨z1, z2⟩ := (q3 l r1).1 e1
        have inn : p ≤ l ∧ l ≤ q → p ≤ k ∧ k ≤ q := fun c => by
          by_cases d : p ≤ k ∧ k ≤ q
          · exact d
          · exfalso
            have g3 := m'.ent b ed hk.1 hk.2 c d
            have jq : JE8 V n q p := ⟨⟨by omega, m3⟩, Or.inl l2, m0, by omega, l1, l3.symm⟩
            have w := (b.2 k l q p ⟨⟨hk.1, hk.2⟩, u1, e3.1, e3.2, u3, u4⟩ jq (by omega) (by omega) (by omega)).1
            omega
        refine ⟨fun y => TLV.on hk.1 hk.2 q1 ed (z1 ?_), fun y => ?_⟩
        · rcases y with y | y
          · exact Or.inl (fun c => y (inn c))
          · exact Or.inr y
        · by_cases c : p ≤ l ∧ l ≤ q
          · rcases z2 c with z | z
            · exact Or.inl (TLV.on hk.1 hk.2 q1 ed z)
            · exact Or.inr (fun o ho => TLV.on hk.1 hk.2 (w3 o ho k y.1 y.2) ed (z o ho))
          · exact Or.inl (TLV.on hk.1 hk.2 q1 ed (z1 (Or.inl c)))
  refine ⟨fun ek => ?_, fun kp ip => ?_⟩
  · by_cases kx : k = x
    · -- the item that went: the next one has its place
      rw [kx] at ek rk ⊢
      have e3 : i = mvP p x (x + 1) := by rw [ek]; unfold mvP; rw [if_neg (by omega), if_pos (by omega), if_neg (by omega), if_neg (by omega)]
      have xq : x + 1 ≤ q := by
        have : x ≠ q := fun z => by rw [z, l2] at w1; omega
        omega
      have ed : EDv V n x (x + 1) := Or.inl ⟨by omega, rfl⟩
      obtain ⟨z1, z2⟩ := main (x + 1) (rk.s (by omega) (by omega) (fun y => y) ed) (by omega) e3
      refine ⟨fun y => ?_, fun _ => ?_⟩
      · have gx : g ≠ V x 1 := by
          rcases y with y | y
          · exact absurd ⟨by omega, by omega⟩ y
          · exact y
        exact TLV.on (by omega) (by omega) (fun c => gx c.2.symm) ed (z1 (Or.inr gx))
      · rcases z2 ⟨by omega, xq⟩ with z | z
        · by_cases gx : g = V x 1
          · rw [gx] at z
            exact Or.inr (fun o ho => TLV.th (by omega) (by omega) (by omega) ho z)
          · exact Or.inl (TLV.on (by omega) (by omega) (fun c => gx c.2.symm) ed z)
        · exact Or.inr (fun o ho => TLV.on (by omega) (by omega) (w3 o ho x (by omega) (by omega)) ed (z o ho))
    · exact main k rk kx ek
  · -- from ahead
    rw [kp] at rk
    rw [ip, li_p] at h
    have dd := m'.dead b s rk
    have e3 : p + 1 = mvP p x p := by unfold mvP; rw [if_neg (by omega), if_pos (by omega)]
    rcases h with ⟨q1, q2, q3⟩ | ⟨q1, t, q2, q3⟩
    · rcases q3 with z | z
      · omega
      · rcases ((z p rk).1 e3).2 ⟨by omega, by omega⟩ with y | y
        · exact absurd y dd
        · exact y g q2
    · have et : t = p + 1 := by
        rcases q2 with ⟨u1, u2⟩ | ⟨u1, -⟩
        · exact u2
        · rw [li_p] at u1; omega
      rw [et] at q3
      exact ((q3 p rk).1 e3).1 (Or.inr (fun y => q1 ⟨Or.inl w1, y.symm⟩))
theorem S2T.mov (h : S2T V n N) (m : MV8 V n p q x) (b : NBK V n) (hx : ¬ N (V x 1)) : S2T (liV V x p) n N := fun g a => by
  have z := m.tl b (fun y => hx (h _ y)) a 0 RCG.z
  by_cases c : p = 0
  · have w := z.2 c.symm c.symm
    rw [c] at w
    exact h g w
  · exact h g ((z.1 (by unfold mvP; rw [if_pos (by have := m.1; omega)])).1 (Or.inl (by have := m.1; omega)))
theorem rd_c (h : rdI (V x) g) : ∃ u, (0 ≤ u ∧ u < 4) ∧ V x (3 + 2 * u) = 2 ∧ V x (4 + 2 * u) = g := by
  obtain ⟨u, u0, u4, a, b⟩ := h
  exact ⟨u, ⟨u0, u4⟩, a, b⟩
theorem AR8.mov (ha : AR8 V n) (m : MV8 V n p q x) : AR8 (liV V x p) n := fun i i0 i1 i10 => by
  obtain ⟨⟨m0, m1, m2, m3⟩, -⟩ := m
  unfold liV at i10 ⊢
  by_cases c : i = p
  · rw [if_pos c] at i10 ⊢; exact ha x (by omega) (by omega) i10
  · rw [if_neg c] at i10 ⊢
    by_cases d : p < i ∧ i ≤ x
    · rw [if_pos d] at i10 ⊢; exact ha (i - 1) (by omega) (by omega) i10
    · rw [if_neg d] at i10 ⊢; exact ha i i0 i1 i10
end MVK8
def KP8 (V : Int → It) (n : Int) (N : Int → Prop) : Prop := NBK V n ∧ S2T V n N ∧ AR8 V n
section TRM8
variable {PM : Int → Int} {r n q w : Int} {N : Int → Prop} {V V' : Int → It} {X : Int × (Int → Int) × (Int → Int) × (Int → Int) × (Int → Int → Int)}
theorem TRN8.mvt (hP : ∀ q, PM q ≤ 4) {p p' : Int} {t : Nat} (k : KP8 V n N) (h0 : 0 ≤ p) (hp : p < q) (hq : q < n) (l1 : V p 0 = 13) (l2 : V q 0 = 8) (l3 : V q 1 = V p 1) (l4 : ∀ i, q < i → i < n → ¬ (V i 0 = 8 ∧ V i 1 = V p 1)) (h : MVT N n q t V p V' p') : TRN8 PM r (n, V, X) (n, V', X) ∧ KP8 V' n N ∧ (p ≤ p' ∧ p' < q) ∧ V' p' 0 = 13 ∧ V' q 0 = 8 ∧ V' q 1 = V' p' 1 ∧ ∀ i, q < i → i < n → ¬ (V' i 0 = 8 ∧ V' i 1 = V' p' 1) := by
  induction t generalizing V' p' with
  | zero => rw [h.1, h.2]; exact ⟨TRN8.rf, k, ⟨Int.le_refl _, hp⟩, l1, l2, l3, l4⟩
  | succ t ih =>
    obtain ⟨V1, p1, x, g1, g2, g3, g4⟩ := h
    obtain ⟨i1, i2, i3, i4, i5, i6, i7⟩ := ih g1
    obtain ⟨x0, x1, ⟨x2, x3, x4, x5⟩, -⟩ := g2
    have xp : p1 ≠ x := fun z => by rw [z] at i4; omega
    have xq : x ≠ q := fun z => by rw [z] at x2; omega
    have m : MV8 V1 n p1 q x := ⟨⟨by omega, by omega, x1, hq⟩, ⟨i4, i5, i6, i7⟩, x2, x4, fun b hb i a c => by
      obtain ⟨u, u0, u1, u2⟩ := rd_c hb
      rw [← u2]; exact x5 u u0.1 u0.2 u1 i a c⟩
    have n1 : liV V1 x p1 (p1 + 1) = V1 p1 := by
      unfold liV; rw [if_neg (by omega), if_pos (by omega), show p1 + 1 - 1 = p1 by omega]
    have nhi : ∀ i, x < i → liV V1 x p1 i = V1 i := fun i a => by
      unfold liV; rw [if_neg (by omega), if_neg (by omega)]
    rw [g3, g4]
    refine ⟨i1.trans (TRN8.of hP (ls_mov (H := (n, V1, X)) m i2.1 (fun z => x3 (i2.2.1 _ z))) (st_mov (H := (n, V1, X)) m.1.1 rfl)), ⟨i2.1.mov m, i2.2.1.mov m i2.1 x3, i2.2.2.mov m⟩, ⟨by omega, by omega⟩, by rw [n1]; exact i4, by rw [nhi q (by omega)]; exact i5, by rw [nhi q (by omega), n1]; exact i6, fun i a c => ?_⟩
    rw [nhi i (by omega), n1]; exact i7 i a c
theorem TRN8.mva (hP : ∀ q, PM q ≤ 4) {t : Nat} (ht : (t : Int) ≤ n) (k : KP8 V n N) (h : MVA N n t V V' w) : TRN8 PM r (n, V, X) (n, V', X) ∧ KP8 V' n N := by
  induction t generalizing V' w with
  | zero => rw [h.1]; exact ⟨TRN8.rf, k⟩
  | succ t ih =>
    obtain ⟨V1, w1, d, h1, h2, h3⟩ := h
    obtain ⟨i1, i2⟩ := ih (by omega) h1
    rcases h2 with ⟨a, b, c⟩ | ⟨a, q, b, ⟨c, d, e⟩ | ⟨c, t2, p, d, e, f⟩⟩
    · rw [b]; exact ⟨i1, i2⟩
    · rw [d]; exact ⟨i1, i2⟩
    · obtain ⟨b1, b2, b3, b4⟩ := b
      obtain ⟨j1, j2, -⟩ := TRN8.mvt (PM := PM) (r := r) (X := X) hP i2 (by omega) c b2 a (b3 c).1 (b3 c).2 b4 d
      exact ⟨i1.trans j1, j2⟩
end TRM8
end
