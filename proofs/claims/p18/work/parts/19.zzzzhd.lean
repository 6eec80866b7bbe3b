section
def hd9 (V : Int → It) (n a t : Int) : Prop := (0 ≤ t ∧ t < n) ∧ V t 0 = 13 ∧ V t 1 = a
def sr9 (V : Int → It) (n a s : Int) : Prop := (0 ≤ s ∧ s < n) ∧ (V s 0 = 8 ∨ V s 0 = 9) ∧ V s 1 = a
def lpo9 (e : ME) (a : Int) : Prop := (e.1 = 6 ∨ e.1 = 7) ∧ e.2.1 = a
def pn9 (e : ME) (a : Int) : Prop := ((e.1 = 3 ∨ e.1 = 4) ∧ e.2.1 = a) ∨ (e.1 = 7 ∧ e.2.2.1 = a)
def PB9 (V : Int → It) (n : Int) : List ME → Prop
  | [] => True
  | e :: S => ((∀ a s, pn9 e a → sr9 V n a s → (∀ b t, lpo9 e b → hd9 V n b t → t ≤ s) ∧ ∀ e' ∈ S, ∀ b t, lpo9 e' b → hd9 V n b t → t ≤ s) ∧
    ∀ b t, lpo9 e b → hd9 V n b t → ∀ e' ∈ S, ∀ b' t', lpo9 e' b' → hd9 V n b' t' → t' < t) ∧ PB9 V n S
def NB9 (V : Int → It) (n lab : Int) (S : List ME) : Prop := NBK V n ∧ (∀ a s, sr9 V n a s → a < lab) ∧ PB9 V n S ∧
  ∀ e ∈ S, ∀ b, lpo9 e b → (∃ t, hd9 V n b t) ∧ ∀ t, hd9 V n b t → (∀ l s, t ≤ l → hd9 V n (V l 1) l → sr9 V n (V l 1) s → t ≤ s) ∧ ∀ s2 l2, JE8 V n s2 l2 → l2 ≤ s2 → s2 < t ∨ t < l2
section NBS
variable {V V' : Int → It} {n n' lab a b t s : Int} {S : List ME} {e e' : ME} {x : It} {L : List Int}
theorem je9 : JE8 V n s t ↔ ∃ a, sr9 V n a s ∧ hd9 V n a t := by
  constructor
  · rintro ⟨a, b, c, d, e, f⟩
    exact ⟨V s 1, ⟨a, b, rfl⟩, ⟨c, d⟩, e, f⟩
  · rintro ⟨y, ⟨a, b, c⟩, ⟨d1, d2⟩, e, f⟩
    exact ⟨a, b, d1, d2, e, f.trans c.symm⟩
theorem PB9.cg (h : PB9 V n S) (hh : ∀ e ∈ S, ∀ b t, lpo9 e b → hd9 V' n' b t → hd9 V n b t) (hs : ∀ e ∈ S, ∀ a s, pn9 e a → sr9 V' n' a s → sr9 V n a s) : PB9 V' n' S := by
  induction S with
  | nil => trivial
  | cons e S ih =>
    obtain ⟨⟨h1, h2⟩, h3⟩ := h
    have m0 : e ∈ e :: S := List.mem_cons_self
    have m1 : ∀ y, y ∈ S → y ∈ e :: S := fun y hy => List.mem_cons_of_mem _ hy
    refine ⟨⟨fun a s p q => ?_, fun b t p q e' me b' t' p' q' => ?_⟩, ih h3 (fun y hy => hh y (m1 y hy)) (fun y hy => hs y (m1 y hy))⟩
    · obtain ⟨g1, g2⟩ := h1 a s p (hs e m0 a s p q)
      exact ⟨fun b t u v => g1 b t u (hh e m0 b t u v), fun e' me b t u v => g2 e' me b t u (hh e' (m1 e' me) b t u v)⟩
    · exact h2 b t p (hh e m0 b t p q) e' me b' t' p' (hh e' (m1 e' me) b' t' p' q')
theorem hd_u (hx : x 0 ≠ 13) : hd9 (uZ V n x) (n + 1) b t ↔ hd9 V n b t := by
  constructor
  · rintro ⟨⟨a1, a2⟩, a3, a4⟩
    by_cases e : t = n
    · rw [e, uZ_eq] at a3; exact absurd a3 hx
    · rw [uZ_ne e] at a3 a4; exact ⟨⟨a1, by omega⟩, a3, a4⟩
  · rintro ⟨⟨a1, a2⟩, a3, a4⟩
    exact ⟨⟨a1, by omega⟩, by rw [uZ_ne (by omega)]; exact a3, by rw [uZ_ne (by omega)]; exact a4⟩
theorem sr_u (hx : x 0 ≠ 8 ∧ x 0 ≠ 9) : sr9 (uZ V n x) (n + 1) a s ↔ sr9 V n a s := by
  constructor
  · rintro ⟨⟨a1, a2⟩, a3, a4⟩
    by_cases e : s = n
    · rw [e, uZ_eq] at a3; omega
    · rw [uZ_ne e] at a3 a4; exact ⟨⟨a1, by omega⟩, a3, a4⟩
  · rintro ⟨⟨a1, a2⟩, a3, a4⟩
    exact ⟨⟨a1, by omega⟩, by rw [uZ_ne (by omega)]; exact a3, by rw [uZ_ne (by omega)]; exact a4⟩
theorem NBK.put (h : NBK V n) (h0 : 0 ≤ n) (hx : x 0 ≠ 8 ∧ x 0 ≠ 9 ∧ x 0 ≠ 13) : NBK (uZ V n x) (n + 1) := by
  refine h.emb (Φ := fun i j => i = j) (fun i a b c => ?_) (fun i j i2 j2 a b => by omega)
  by_cases e : i = n
  · rw [e, uZ_eq] at c; omega
  · rw [uZ_ne e]
    exact ⟨i, rfl, ⟨a, by omega⟩, rfl, fun z => z, fun z => z, fun z => Or.inl z⟩
theorem NB9.put (h : NB9 V n lab S) (h0 : 0 ≤ n) (hx : x 0 ≠ 8 ∧ x 0 ≠ 9 ∧ x 0 ≠ 13) : NB9 (uZ V n x) (n + 1) lab S := by
  have hh : ∀ b t, hd9 (uZ V n x) (n + 1) b t ↔ hd9 V n b t := fun b t => hd_u hx.2.2
  have hs : ∀ a s, sr9 (uZ V n x) (n + 1) a s ↔ sr9 V n a s := fun a s => sr_u ⟨hx.1, hx.2.1⟩
  have hj : ∀ s l, JE8 (uZ V n x) (n + 1) s l ↔ JE8 V n s l := fun s l => by
    rw [je9, je9]
    exact ⟨fun ⟨a, p, q⟩ => ⟨a, (hs a s).mp p, (hh a l).mp q⟩, fun ⟨a, p, q⟩ => ⟨a, (hs a s).mpr p, (hh a l).mpr q⟩⟩
  obtain ⟨h1, h2, h3, h4⟩ := h
  refine ⟨h1.put h0 hx, fun a s q => h2 a s ((hs a s).mp q), h3.cg (fun _ _ b t _ q => (hh b t).mp q) (fun _ _ a s _ q => (hs a s).mp q), fun e me b p => ?_⟩
  obtain ⟨⟨t, g1⟩, g2⟩ := h4 e me b p
  refine ⟨⟨t, (hh b t).mpr g1⟩, fun t q => ?_⟩
  obtain ⟨k1, k2⟩ := g2 t ((hh b t).mp q)
  refine ⟨fun l s a u v => ?_, fun s2 l2 u v => k2 s2 l2 ((hj s2 l2).mp u) v⟩
  have u2 := (hh _ l).mp u
  have ln : l ≠ n := by have := u2.1.2; omega
  rw [uZ_ne ln] at u2 v
  exact k1 l s a u2 ((hs _ s).mp v)
theorem NB9.tl (h : NB9 V n lab (e :: S)) : NB9 V n lab S := ⟨h.1, h.2.1, h.2.2.1.2, fun y hy => h.2.2.2 y (List.mem_cons_of_mem _ hy)⟩
theorem NB9.rep (h : NB9 V n lab (e :: S)) (hl : ∀ b, lpo9 e' b → lpo9 e b) (hp : ∀ a s, pn9 e' a → sr9 V n a s → (∀ b t, lpo9 e' b → hd9 V n b t → t ≤ s) ∧ ∀ y ∈ S, ∀ b t, lpo9 y b → hd9 V n b t → t ≤ s) : NB9 V n lab (e' :: S) := by
  obtain ⟨h1, h2, ⟨⟨h3, h5⟩, h6⟩, h4⟩ := h
  refine ⟨h1, h2, ⟨⟨hp, fun b t p q => h5 b t (hl b p) q⟩, h6⟩, fun y my b p => ?_⟩
  rcases List.mem_cons.mp my with z | z
  · rw [z] at p; exact h4 e List.mem_cons_self b (hl b p)
  · exact h4 y (List.mem_cons_of_mem _ z) b p
theorem NB9.psh (h : NB9 V n lab S) (hl : ∀ b, ¬ lpo9 e b) (hp : ∀ a s, pn9 e a → sr9 V n a s → ∀ y ∈ S, ∀ b t, lpo9 y b → hd9 V n b t → t ≤ s) : NB9 V n lab (e :: S) := by
  obtain ⟨h1, h2, h3, h4⟩ := h
  refine ⟨h1, h2, ⟨⟨fun a s p q => ⟨fun b _ u => absurd u (hl b), hp a s p q⟩, fun b _ u => absurd u (hl b)⟩, h3⟩, fun y my b p => ?_⟩
  rcases List.mem_cons.mp my with z | z
  · rw [z] at p; exact absurd p (hl b)
  · exact h4 y z b p
theorem NB9.labl (h : NB9 V n lab S) {l2 : Int} (hl : lab ≤ l2) : NB9 V n l2 S := ⟨h.1, fun a s q => by have := h.2.1 a s q; omega, h.2.2⟩
theorem NB9.jmp (h : NB9 V n lab S) (h0 : 0 ≤ n) (hl : ∀ i, 0 ≤ i → i < n → V i 0 = 13 → V i 1 < lab) (hp : ∀ e ∈ S, ∀ a, pn9 e a → a < lab) (hx : x 0 = 8 ∨ x 0 = 9) (h1 : x 1 = lab) : NB9 (uZ V n x) (n + 1) (lab + 1) S ∧ (∀ s, sr9 (uZ V n x) (n + 1) lab s → s = n) ∧ ∀ b t, hd9 (uZ V n x) (n + 1) b t → t < n := by
  have hh : ∀ b t, hd9 (uZ V n x) (n + 1) b t ↔ hd9 V n b t := fun b t => hd_u (by omega)
  have hs : ∀ a s, sr9 (uZ V n x) (n + 1) a s → s ≠ n → sr9 V n a s := fun a s ⟨⟨a1, a2⟩, a3, a4⟩ e => by
    rw [uZ_ne e] at a3 a4; exact ⟨⟨a1, by omega⟩, a3, a4⟩
  have hn : ∀ a, sr9 (uZ V n x) (n + 1) a n → a = lab := fun a ⟨_, _, a4⟩ => by rw [uZ_eq] at a4; omega
  have sa : ∀ a s, a ≠ lab → sr9 (uZ V n x) (n + 1) a s → sr9 V n a s := fun a s z q => hs a s q (fun e => z (hn a (by rw [e] at q; exact q)))
  have hj : ∀ s l, JE8 (uZ V n x) (n + 1) s l → JE8 V n s l := fun s l q => by
    obtain ⟨a, p, w⟩ := je9.mp q
    have w2 := (hh a l).mp w
    have al : a ≠ lab := by have := hl l w2.1.1 w2.1.2 w2.2.1; rw [w2.2.2] at this; omega
    exact je9.mpr ⟨a, sa a s al p, w2⟩
  obtain ⟨g1, g2, g3, g4⟩ := h
  refine ⟨⟨⟨fun s l q b => ?_, fun s l s2 l2 q b => g1.2 s l s2 l2 (hj s l q) (hj s2 l2 b)⟩, fun a s q => ?_, g3.cg (fun _ _ b t _ q => (hh b t).mp q) (fun e me a s p q => sa a s (by have := hp e me a p; omega) q), fun e me b p => ?_⟩, fun s q => ?_, fun b t q => ((hh b t).mp q).1.2⟩
  · have j := hj s l q
    rw [uZ_ne (by have := j.1.2; omega)]; exact g1.1 s l j b
  · by_cases e : s = n
    · rw [e] at q; have := hn a q; omega
    · have := g2 a s (hs a s q e); omega
  · obtain ⟨⟨t, k1⟩, k2⟩ := g4 e me b p
    refine ⟨⟨t, (hh b t).mpr k1⟩, fun t q => ?_⟩
    obtain ⟨k3, k4⟩ := k2 t ((hh b t).mp q)
    refine ⟨fun l s y u v => ?_, fun s2 l2 u v => k4 s2 l2 (hj s2 l2 u) v⟩
    have u2 := (hh _ l).mp u
    have ln : l ≠ n := by have := u2.1.2; omega
    rw [uZ_ne ln] at u2 v
    exact k3 l s y u2 (sa _ s (by have := hl l u2.1.1 u2.1.2 u2.2.1; omega) v)
  · by_cases e : s = n
    · exact e
    · have := g2 lab s (hs lab s q e); omega
theorem NB9.lbl (h : NB9 V n lab S) (h0 : 0 ≤ n) (hna : ∀ i, 0 ≤ i → i < n → V i 0 = 13 → V i 1 ≠ a) (hx : x 0 = 13) (h1 : x 1 = a) (hs : ∀ s, sr9 V n a s → ∀ y ∈ S, ∀ b t, lpo9 y b → hd9 V n b t → t ≤ s) : NB9 (uZ V n x) (n + 1) lab S := by
  have sr : ∀ a s, sr9 (uZ V n x) (n + 1) a s ↔ sr9 V n a s := fun a s => sr_u (by omega)
  have ho : ∀ b t, hd9 (uZ V n x) (n + 1) b t → t ≠ n → hd9 V n b t := fun b t ⟨⟨a1, a2⟩, a3, a4⟩ e => by
    rw [uZ_ne e] at a3 a4; exact ⟨⟨a1, by omega⟩, a3, a4⟩
  have hn : ∀ b, hd9 (uZ V n x) (n + 1) b n → b = a := fun b ⟨_, _, a4⟩ => by rw [uZ_eq] at a4; omega
  have hi : ∀ b t, hd9 V n b t → hd9 (uZ V n x) (n + 1) b t := fun b t ⟨⟨a1, a2⟩, a3, a4⟩ => ⟨⟨a1, by omega⟩, by rw [uZ_ne (by omega)]; exact a3, by rw [uZ_ne (by omega)]; exact a4⟩
  obtain ⟨g1, g2, g3, g4⟩ := h
  -- the head of a loop is no other LABEL
  have hb : ∀ y ∈ S, ∀ b t, lpo9 y b → hd9 (uZ V n x) (n + 1) b t → hd9 V n b t := fun y my b t p q => by
    by_cases e : t = n
    · exfalso
      rw [e] at q
      obtain ⟨⟨t0, w⟩, -⟩ := g4 y my b p
      have := hna t0 w.1.1 w.1.2 w.2.1
      exact this (w.2.2.trans (hn b q))
    · exact ho b t q e
  have hj : ∀ s l, JE8 (uZ V n x) (n + 1) s l → (l = n ∧ s < n ∧ sr9 V n a s) ∨ JE8 V n s l := fun s l q => by
    obtain ⟨y, p, w⟩ := je9.mp q
    have p2 := (sr y s).mp p
    by_cases e : l = n
    · rw [e] at w
      rw [hn y w] at p2
      exact Or.inl ⟨e, p2.1.2, p2⟩
    · exact Or.inr (je9.mpr ⟨y, p2, ho y l w e⟩)
  refine ⟨⟨fun s l q b => ?_, fun s l s2 l2 q b c d e => ?_⟩, fun y s q => g2 y s ((sr y s).mp q), g3.cg (fun y my b t p q => hb y my b t p q) (fun _ _ y s _ q => (sr y s).mp q), fun y my b p => ?_⟩
  · rcases hj s l q with z | z
    · omega
    · rw [uZ_ne (by have := z.1.2; omega)]; exact g1.1 s l z b
  · rcases hj s2 l2 b with z | z
    · omega
    · have := z.1.2
      rcases hj s l q with w | w
      · omega
      · exact g1.2 s l s2 l2 w z c d e
  · obtain ⟨⟨t, k1⟩, k2⟩ := g4 y my b p
    refine ⟨⟨t, hi b t k1⟩, fun t q => ?_⟩
    have q2 := hb y my b t p q
    obtain ⟨k3, k4⟩ := k2 t q2
    refine ⟨fun l s w u v => ?_, fun s2 l2 u v => ?_⟩
    · have v2 := (sr _ s).mp v
      by_cases e : l = n
      · rw [e, uZ_eq, h1] at v2
        exact hs s v2 y my b t p q2
      · have u2 := ho _ l u e
        rw [uZ_ne e] at u2 v2
        exact k3 l s w u2 v2
    · rcases hj s2 l2 u with z | z
      · omega
      · exact k4 s2 l2 z v
theorem NB9.bck (h : NB9 V n lab (e :: S)) (h0 : 0 ≤ n) (hp : lpo9 e a) (hu : ∀ t t', hd9 V n a t → hd9 V n a t' → t' = t) (hla : a < lab) (hpa : ∀ y ∈ S, ∀ b, pn9 y b → b ≠ a) (hx : x 0 = 8) (h1 : x 1 = a) : NB9 (uZ V n x) (n + 1) lab S := by
  have hh : ∀ b t, hd9 (uZ V n x) (n + 1) b t ↔ hd9 V n b t := fun b t => hd_u (by omega)
  have hs : ∀ a s, sr9 (uZ V n x) (n + 1) a s → s ≠ n → sr9 V n a s := fun a s ⟨⟨a1, a2⟩, a3, a4⟩ e => by
    rw [uZ_ne e] at a3 a4; exact ⟨⟨a1, by omega⟩, a3, a4⟩
  have hn : ∀ b, sr9 (uZ V n x) (n + 1) b n → b = a := fun b ⟨_, _, a4⟩ => by rw [uZ_eq] at a4; omega
  obtain ⟨g1, g2, ⟨⟨-, g5⟩, g3⟩, g4⟩ := h
  obtain ⟨⟨t0, ht⟩, k0⟩ := g4 e List.mem_cons_self a hp
  obtain ⟨kc, ke⟩ := k0 t0 ht
  have lo : ∀ y ∈ S, ∀ b t, lpo9 y b → hd9 V n b t → t < t0 := fun y my b t p q => g5 a t0 hp ht y my b t p q
  have hj : ∀ s l, JE8 (uZ V n x) (n + 1) s l → (s = n ∧ l = t0) ∨ JE8 V n s l := fun s l q => by
    obtain ⟨y, p, w⟩ := je9.mp q
    have w2 := (hh y l).mp w
    by_cases ez : s = n
    · rw [ez] at p
      rw [hn y p] at w2
      exact Or.inl ⟨ez, hu t0 l ht w2⟩
    · exact Or.inr (je9.mpr ⟨y, hs y s p ez, w2⟩)
  have t1 := ht.1.2
  refine ⟨⟨fun s l q b => ?_, fun s l s2 l2 q b c d f => ?_⟩, fun y s q => ?_, g3.cg (fun _ _ b t _ q => (hh b t).mp q) ?_, fun y my b p => ?_⟩
  · rcases hj s l q with z | z
    · rw [z.1, uZ_eq]; exact hx
    · rw [uZ_ne (by have := z.1.2; omega)]; exact g1.1 s l z b
  · rcases hj s2 l2 b with z | z
    · rcases hj s l q with w | w
      · omega
      · obtain ⟨y, p, u⟩ := je9.mp w
        have := w.1.2
        refine ⟨?_, Or.inr (by omega)⟩
        have u2 : hd9 V n (V l 1) l := ⟨u.1, u.2.1, rfl⟩
        have := kc l s (by omega) u2 (by rw [u.2.2]; exact p)
        omega
    · rcases hj s l q with w | w
      · exfalso
        have := ke s2 l2 z c
        omega
      · exact g1.2 s l s2 l2 w z c d f
  · by_cases ez : s = n
    · rw [ez] at q
      rw [hn y q]; exact hla
    · exact g2 y s (hs y s q ez)
  · exact fun y my b s p q => hs b s q (fun ez => hpa y my b p (hn b (by rw [ez] at q; exact q)))
  · obtain ⟨⟨t, k1⟩, k2⟩ := g4 y (List.mem_cons_of_mem _ my) b p
    refine ⟨⟨t, (hh b t).mpr k1⟩, fun t q => ?_⟩
    have q2 := (hh b t).mp q
    obtain ⟨k3, k4⟩ := k2 t q2
    have l9 := lo y my b t p q2
    refine ⟨fun l s w u v => ?_, fun s2 l2 u v => ?_⟩
    · have u2 := (hh _ l).mp u
      by_cases ez : s = n
      · omega
      · have ln : l ≠ n := by have := u2.1.2; omega
        rw [uZ_ne ln] at u2 v
        exact k3 l s w u2 (hs _ s v ez)
    · rcases hj s2 l2 u with z | z
      · omega
      · exact k4 s2 l2 z v
theorem NB9.hed (h : NB9 V n lab S) (h0 : 0 ≤ n) (hl : ∀ i, 0 ≤ i → i < n → V i 0 = 13 → V i 1 < lab) (hx : x 0 = 13) (h1 : x 1 = lab) : NB9 (uZ V n x) (n + 1) (lab + 1) ((6, lab, 0, []) :: S) := by
  have ns : ∀ s, ¬ sr9 V n lab s := fun s q => by have := h.2.1 lab s q; omega
  have sr : ∀ a s, sr9 (uZ V n x) (n + 1) a s ↔ sr9 V n a s := fun a s => sr_u (by omega)
  have ho : ∀ b t, hd9 (uZ V n x) (n + 1) b t → (t = n ∧ b = lab) ∨ (t < n ∧ hd9 V n b t) := fun b t ⟨⟨a1, a2⟩, a3, a4⟩ => by
    by_cases e : t = n
    · rw [e, uZ_eq] at a4; exact Or.inl ⟨e, by omega⟩
    · rw [uZ_ne e] at a3 a4; exact Or.inr ⟨by omega, ⟨a1, by omega⟩, a3, a4⟩
  obtain ⟨g1, g2, g3, g4⟩ := (h.lbl h0 (a := lab) (fun i a b c => by have := hl i a b c; omega) hx h1 (fun s q => absurd q (ns s))).labl (l2 := lab + 1) (by omega)
  have lpe : ∀ b, lpo9 ((6, lab, 0, []) : ME) b → b = lab := fun b q => q.2.symm
  have hdn : ∀ t, hd9 (uZ V n x) (n + 1) lab t → t = n := fun t q => by
    rcases ho lab t q with z | ⟨-, z⟩
    · exact z.1
    · have := hl t z.1.1 z.1.2 z.2.1; rw [z.2.2] at this; omega
  refine ⟨g1, g2, ⟨⟨fun a s p => ?_, fun b t p q y my b' t' p' q' => ?_⟩, g3⟩, fun y my b p => ?_⟩
  · exfalso
    rcases p with ⟨p, -⟩ | ⟨p, -⟩
    · have p : (6 : Int) = 3 ∨ (6 : Int) = 4 := p; omega
    · have p : (6 : Int) = 7 := p; omega
  · rw [lpe b p] at q
    rw [hdn t q]
    rcases ho b' t' q' with z | z
    · exfalso
      obtain ⟨⟨t0, w⟩, -⟩ := h.2.2.2 y my b' p'
      have := hl t0 w.1.1 w.1.2 w.2.1
      rw [w.2.2] at this; omega
    · exact z.1
  · rcases List.mem_cons.mp my with z | z
    · rw [z] at p
      rw [lpe b p]
      refine ⟨⟨n, ⟨h0, by omega⟩, by rw [uZ_eq]; exact hx, by rw [uZ_eq]; exact h1⟩, fun t q => ?_⟩
      rw [hdn t q]
      refine ⟨fun l s a u v => ?_, fun s2 l2 u v => ?_⟩
      · have ln : l = n := by have := u.1.2; omega
        rw [ln, uZ_eq, h1] at v
        exact absurd ((sr lab s).mp v) (ns s)
      · obtain ⟨y2, p2, -⟩ := je9.mp u
        have := ((sr y2 s2).mp p2).1.2
        exact Or.inl this
    · exact g4 y z b p
end NBS
def JL9 (m : MK) : Prop := NB9 m.V m.n m.lab m.S
section JLS
variable {m : MK} {e : ME} {S0 : List ME} {tb : Int → Int} {rn : Int64 → Int} {w : Int64}
theorem pn_mem {S : List ME} {a : Int} (he : e ∈ S) (h : pn9 e a) : a ∈ S.flatMap pnd := by
  refine List.mem_flatMap.mpr ⟨e, he, ?_⟩
  unfold pnd
  rcases h with ⟨h1, h2⟩ | ⟨h1, h2⟩
  · rw [if_pos h1, h2]; exact List.mem_singleton.mpr rfl
  · rw [if_neg (by omega), if_pos h1, h2]; exact List.mem_singleton.mpr rfl
theorem JL9.one (h : JL9 m) (k : MKI m) : JL9 (m.one tb) := by
  cases hs : m.S with
  | nil => rw [show m.one tb = m by unfold MK.one; rw [hs]]; exact h
  | cons e S0 =>
    obtain ⟨n0, un, hl, hp, -⟩ := k.1
    have h1 : NB9 m.V m.n m.lab (e :: S0) := by have z := h; unfold JL9 at z; rw [hs] at z; exact z
    have pl : ∀ y ∈ e :: S0, ∀ a, pn9 y a → a < m.lab := fun y my a p => (hp a (by rw [hs]; exact pn_mem my p)).1
    rcases one_fx (tb := tb) hs with ⟨a, b⟩ | ⟨a, b⟩ | ⟨a, b⟩ | ⟨a, b⟩ | ⟨a, b⟩ | ⟨a, b⟩ | ⟨a, b⟩ | ⟨a, b⟩
    · rw [b]
      refine NB9.put (V := m.V) (n := m.n) (x := it2 (if e.2.1 < 6 then e.2.1 else 5) (tb m.rt + m.tmp) e.2.2.1 ((e.2.2.2.headD (0, 0)).1) m.pk m.pv) h1.tl n0 ?_
      have z : it2 (if e.2.1 < 6 then e.2.1 else 5) (tb m.rt + m.tmp) e.2.2.1 ((e.2.2.2.headD (0, 0)).1) m.pk m.pv 0 = if e.2.1 < 6 then e.2.1 else 5 := rfl
      rw [z]
      split <;> omega
    · rw [b]
      exact NB9.put (V := m.V) (n := m.n) (x := mkI 11 m.ln 0 0 0 0) h1.tl n0 ⟨show (11 : Int) ≠ 8 by decide, show (11 : Int) ≠ 9 by decide, show (11 : Int) ≠ 13 by decide⟩
    · rw [b]
      obtain ⟨j1, j2, j3⟩ := NB9.jmp (x := mkI 9 m.lab 0 m.pk m.pv 0) h1 n0 hl pl (Or.inr rfl) rfl
      refine NB9.psh (V := uZ m.V m.n (mkI 9 m.lab 0 m.pk m.pv 0)) (n := m.n + 1) (lab := m.lab + 1) (S := S0) (e := (3, m.lab, 0, [])) j1.tl (fun b q => ?_) (fun a s p q y my b t u v => ?_)
      · have q1 : (3 : Int) = 6 ∨ (3 : Int) = 7 := q.1; omega
      · rcases p with ⟨-, p⟩ | ⟨p, -⟩
        · have p : m.lab = a := p
          rw [← p] at q
          have := j2 s q
          have := j3 b t v
          omega
        · have p : (3 : Int) = 7 := p; omega
    · rw [b]
      have pe : pn9 e e.2.1 := Or.inl ⟨Or.inl a, rfl⟩
      exact NB9.lbl (V := m.V) (n := m.n) (x := mkI 13 e.2.1 0 0 0 0) (a := e.2.1) h1.tl n0 (hp e.2.1 (by rw [hs]; exact pn_mem List.mem_cons_self pe)).2 rfl rfl (fun s q => (h1.2.2.1.1.1 e.2.1 s pe q).2)
    · rw [b]
      obtain ⟨j1, j2, j3⟩ := NB9.jmp (x := mkI 9 m.lab 0 m.pk m.pv 0) h1 n0 hl pl (Or.inr rfl) rfl
      refine NB9.rep (V := uZ m.V m.n (mkI 9 m.lab 0 m.pk m.pv 0)) (n := m.n + 1) (lab := m.lab + 1) (S := S0) (e' := (7, e.2.1, m.lab, [])) j1 (fun b q => ⟨Or.inl a, q.2⟩) (fun a s p q => ?_)
      rcases p with ⟨p, -⟩ | ⟨-, p⟩
      · have p : (7 : Int) = 3 ∨ (7 : Int) = 4 := p; omega
      · have p : m.lab = a := p
        rw [← p] at q
        have e1 := j2 s q
        exact ⟨fun b t _ v => by have := j3 b t v; omega, fun y _ b t _ v => by have := j3 b t v; omega⟩
    · rw [b]
      refine NB9.put (V := m.V) (n := m.n) (x := mkI (if e.2.1 = 6 then 6 else 7) 0 0 m.pk m.pv 0) h1.tl n0 ?_
      have z : mkI (if e.2.1 = 6 then 6 else 7) 0 0 m.pk m.pv 0 0 = if e.2.1 = 6 then 6 else 7 := rfl
      rw [z]
      split <;> omega
    · rw [b]
      exact NB9.put (V := m.V) (n := m.n) (x := mkI 7 0 0 1 0 0) h1.tl n0 ⟨show (7 : Int) ≠ 8 by decide, show (7 : Int) ≠ 9 by decide, show (7 : Int) ≠ 13 by decide⟩
    · rw [b]; exact h
theorem JL9.two (h : JL9 m) (k : MKI m) : JL9 m.two := by
  cases hs : m.S with
  | nil => rw [show m.two = m by unfold MK.two; rw [hs]]; exact h
  | cons e S0 =>
    obtain ⟨n0, un, hl, hp, nd⟩ := k.1
    have h1 : NB9 m.V m.n m.lab (e :: S0) := by have z := h; unfold JL9 at z; rw [hs] at z; exact z
    have pl : ∀ y ∈ e :: S0, ∀ a, pn9 y a → a < m.lab := fun y my a p => (hp a (by rw [hs]; exact pn_mem my p)).1
    have bnd : ∀ d, bndI d 0 = 12 := fun _ => rfl
    rcases two_fx hs with ⟨a, b⟩ | ⟨a, b⟩ | ⟨a, b⟩ | ⟨a, b⟩ | ⟨a, b⟩
    · rw [b]
      have z := NB9.put (V := m.V) (n := m.n) (x := mkI 0 e.2.1 0 m.pk m.pv 0) h1.tl n0 ⟨show (0 : Int) ≠ 8 by decide, show (0 : Int) ≠ 9 by decide, show (0 : Int) ≠ 13 by decide⟩
      exact NB9.put (x := bndI e.2.1) z (show 0 ≤ m.n + 1 by omega) (by rw [bnd]; decide)
    · rw [b]
      have z := NB9.hed (V := m.V) (n := m.n) (lab := m.lab) (x := mkI 13 m.lab 0 0 0 0) h1.tl n0 hl rfl rfl
      exact NB9.put (x := mkI 11 m.ln 0 0 0 0) z (show 0 ≤ m.n + 1 by omega) ⟨show (11 : Int) ≠ 8 by decide, show (11 : Int) ≠ 9 by decide, show (11 : Int) ≠ 13 by decide⟩
    · rw [b]
      have pe : pn9 e e.2.1 := Or.inl ⟨Or.inr a, rfl⟩
      obtain ⟨p1, p2⟩ := hp e.2.1 (by rw [hs]; exact pn_mem List.mem_cons_self pe)
      obtain ⟨j1, j2, j3⟩ := NB9.jmp (x := mkI 8 m.lab 0 0 0 0) h1 n0 hl pl (Or.inl rfl) rfl
      have c1 := j1.2.2.1.1.1 e.2.1
      have l1 := NB9.lbl (x := mkI 13 e.2.1 0 0 0 0) (a := e.2.1) j1.tl (by omega) (fun i i0 i1 i13 => by
        by_cases z : i = m.n
        · rw [z, uZ_eq] at i13
          have i13 : (8 : Int) = 13 := i13
          omega
        · rw [uZ_ne z] at i13 ⊢; exact p2 i i0 (by omega) i13) rfl rfl (fun s q => (c1 s pe q).2)
      refine NB9.psh (V := uZ (uZ m.V m.n (mkI 8 m.lab 0 0 0 0)) (m.n + 1) (mkI 13 e.2.1 0 0 0 0)) (n := m.n + 1 + 1) (lab := m.lab + 1) (S := S0) (e := (3, m.lab, 0, [])) l1 (fun b q => ?_) (fun a2 s p q y my b t u v => ?_)
      · have q1 : (3 : Int) = 6 ∨ (3 : Int) = 7 := q.1; omega
      · have ea : a2 = m.lab := by
          rcases p with ⟨-, p⟩ | ⟨p, -⟩
          · exact p.symm
          · have p : (3 : Int) = 7 := p; omega
        rw [ea] at q
        have q2 : sr9 (uZ m.V m.n (mkI 8 m.lab 0 0 0 0)) (m.n + 1) m.lab s := (sr_u (by show ¬ _ ∧ ¬ _; exact ⟨show ¬ (13 : Int) = 8 by decide, show ¬ (13 : Int) = 9 by decide⟩)).mp q
        have e1 := j2 s q2
        by_cases tn : t = m.n + 1
        · exfalso
          have v4 := v.2.2
          rw [tn, uZ_eq] at v4
          have v4 : e.2.1 = b := v4
          obtain ⟨⟨t0, w0⟩, -⟩ := h1.tl.2.2.2 y my b u
          exact p2 t0 w0.1.1 w0.1.2 w0.2.1 (by rw [w0.2.2, v4])
        · have := v.1.2
          omega
    · rw [b]
      have pe : pn9 e e.2.2.1 := Or.inr ⟨a, rfl⟩
      have le : lpo9 e e.2.1 := ⟨Or.inr a, rfl⟩
      obtain ⟨p1, p2⟩ := hp e.2.2.1 (by rw [hs]; exact pn_mem List.mem_cons_self pe)
      have hu : ∀ t t', hd9 m.V m.n e.2.1 t → hd9 m.V m.n e.2.1 t' → t' = t := fun t t' u v => un t' t v.1.1 v.1.2 u.1.1 u.1.2 v.2.1 u.2.1 (v.2.2.trans u.2.2.symm)
      obtain ⟨⟨t0, w0⟩, -⟩ := h1.2.2.2 e List.mem_cons_self e.2.1 le
      have la : e.2.1 < m.lab := by have := hl t0 w0.1.1 w0.1.2 w0.2.1; rw [w0.2.2] at this; exact this
      have bk := NB9.bck (x := mkI 8 e.2.1 0 0 0 0) h1 n0 le hu la (fun y my b p => fun z => (hp b (by rw [hs]; exact pn_mem (List.mem_cons_of_mem _ my) p)).2 t0 w0.1.1 w0.1.2 w0.2.1 (w0.2.2.trans z.symm)) rfl rfl
      have hne : e.2.2.1 ≠ e.2.1 := fun z => p2 t0 w0.1.1 w0.1.2 w0.2.1 (w0.2.2.trans z.symm)
      refine NB9.lbl (V := uZ m.V m.n (mkI 8 e.2.1 0 0 0 0)) (n := m.n + 1) (x := mkI 13 e.2.2.1 0 0 0 0) (a := e.2.2.1) bk (by omega) (fun i i0 i1 i13 => ?_) rfl rfl (fun s q y my b t u v => ?_)
      · by_cases z : i = m.n
        · rw [z, uZ_eq] at i13
          have i13 : (8 : Int) = 13 := i13
          omega
        · rw [uZ_ne z] at i13 ⊢; exact p2 i i0 (by omega) i13
      · have v2 : hd9 m.V m.n b t := (hd_u (show ¬ (8 : Int) = 13 by decide)).mp v
        by_cases z : s = m.n
        · have := v2.1.2; omega
        · have q2 : sr9 m.V m.n e.2.2.1 s := by
            obtain ⟨⟨a1, a2⟩, a3, a4⟩ := q
            rw [uZ_ne z] at a3 a4
            exact ⟨⟨a1, by omega⟩, a3, a4⟩
          exact (h1.2.2.1.1.1 e.2.2.1 s pe q2).2 y my b t u v2
    · rw [b]; exact h
theorem JL9.cal (h : JL9 m) (k : MKI m) : JL9 (m.cal rn w) := by
  cases hs : m.S with
  | nil => rw [show m.cal rn w = m by unfold MK.cal; rw [hs]]; exact h
  | cons e S0 =>
    have n0 := k.1.1
    have h1 : NB9 m.V m.n m.lab (e :: S0) := by have z := h; unfold JL9 at z; rw [hs] at z; exact z
    rcases cal_fx (rn := rn) (w := w) hs with ⟨a, b⟩ | ⟨a, b⟩
    · rw [b]
      have z := NB9.put (V := m.V) (n := m.n) (x := itC e.2.1 (rn w) e.2.2.2) h1.tl n0 ⟨show (10 : Int) ≠ 8 by decide, show (10 : Int) ≠ 9 by decide, show (10 : Int) ≠ 13 by decide⟩
      exact NB9.put (x := bndI e.2.1) z (show 0 ≤ m.n + 1 by omega) ⟨show (12 : Int) ≠ 8 by decide, show (12 : Int) ≠ 9 by decide, show (12 : Int) ≠ 13 by decide⟩
    · rw [b]; exact h
end JLS
def JD9 (m : MK) : Prop := JL9 m ∧ ∀ y, NBK (m.dn y).2 (m.dn y).1
section JDS
variable {s : Int → Int} {nm : Int → Int64 → Int} {rn : Int64 → Int} {tb : Int → Int} {k : Nat} {t : TK} {q : QR} {m m1 : MK} {a b : PCf} {e : ME}
theorem JL9.push (h : JL9 m) (hl : e.1 ≠ 6 ∧ e.1 ≠ 7) (hp : e.1 ≠ 3 ∧ e.1 ≠ 4) : JL9 (m.push e) := by
  refine NB9.psh (V := m.V) (n := m.n) (lab := m.lab) h (fun b q => by have := q.1; omega) (fun a s p => ?_)
  rcases p with ⟨p, -⟩ | ⟨p, -⟩
  · omega
  · omega
theorem JL9.top {f : ME → ME} (h : JL9 m) (hl : ∀ e b, lpo9 (f e) b → lpo9 e b) (hp : ∀ e a, pn9 (f e) a → pn9 e a) : JL9 (m.top f) := by
  unfold MK.top
  cases hs : m.S with
  | nil => exact h
  | cons e S =>
    have h1 : NB9 m.V m.n m.lab (e :: S) := by have z := h; unfold JL9 at z; rw [hs] at z; exact z
    exact NB9.rep (V := m.V) (n := m.n) (lab := m.lab) h1 (hl e) (fun a s p q => by
      obtain ⟨g1, g2⟩ := h1.2.2.1.1.1 a s (hp e a p) q
      exact ⟨fun b t u v => g1 b t (hl e b u) v, g2⟩)
theorem jd_k (h : JD9 m) (i : MKI m) : JD9 (mkk s nm rn tb k t q m) := by
  unfold mkk
  split
  · split
    · exact ⟨h.1.push (by simp) (by simp), h.2⟩
    · exact h
  · split
    · exact h
    · split
      · exact h
      · exact h
  · split
    · exact ⟨h.1.push (by simp) (by simp), h.2⟩
    · split
      · exact ⟨h.1.push (by simp) (by simp), h.2⟩
      · exact h
  · split
    · exact ⟨h.1.push (by simp) (by simp), h.2⟩
    · split
      · exact ⟨h.1.push (by simp) (by simp), h.2⟩
      · exact h
  · split
    · exact ⟨h.1.push (by simp) (by simp), h.2⟩
    · exact h
  · split
    · exact h
    · exact ⟨JL9.push (m := m.stm) h.1 (by decide) (by decide), h.2⟩
  · exact ⟨h.1.push (by simp) (by simp), h.2⟩
  · exact ⟨h.1.push (by simp) (by simp), h.2⟩
  · exact ⟨h.1.push (by simp) (by simp), h.2⟩
  · split
    · refine ⟨h.1.top (fun e b z => ?_) (fun e a z => ?_), ?_⟩
      · by_cases c : e.1 = 3
        · rw [if_pos c] at z
          have z1 : (4 : Int) = 6 ∨ (4 : Int) = 7 := z.1
          omega
        · rw [if_neg c] at z; exact z
      · by_cases c : e.1 = 3
        · rw [if_pos c] at z
          rcases z with ⟨-, z⟩ | ⟨z, -⟩
          · exact Or.inl ⟨Or.inl c, z⟩
          · have z1 : (4 : Int) = 7 := z
            omega
        · rw [if_neg c] at z; exact z
      · unfold MK.top
        split
        · exact h.2
        · exact h.2
    · exact h
  · split
    · refine ⟨h.1.top (fun e b z => ?_) (fun e a z => ?_), ?_⟩
      · by_cases c : e.1 = 8
        · rw [if_pos c] at z
          have z1 : (9 : Int) = 6 ∨ (9 : Int) = 7 := z.1
          omega
        · rw [if_neg c] at z; exact z
      · by_cases c : e.1 = 8
        · rw [if_pos c] at z
          rcases z with ⟨z, -⟩ | ⟨z, -⟩
          · have z1 : (9 : Int) = 3 ∨ (9 : Int) = 4 := z
            omega
          · have z1 : (9 : Int) = 7 := z
            omega
        · rw [if_neg c] at z; exact z
      · unfold MK.top
        split
        · exact h.2
        · exact h.2
    · exact h
  · refine ⟨h.1.top (fun e b z => ?_) (fun e a z => ?_), ?_⟩
    · by_cases c : e.1 = 9
      · rw [if_pos c] at z
        have z1 : (9 : Int) = 6 ∨ (9 : Int) = 7 := z.1
        omega
      · rw [if_neg c] at z; exact z
    · by_cases c : e.1 = 9
      · rw [if_pos c] at z
        rcases z with ⟨z, -⟩ | ⟨z, -⟩
        · have z1 : (9 : Int) = 3 ∨ (9 : Int) = 4 := z
          omega
        · have z1 : (9 : Int) = 7 := z
          omega
      · rw [if_neg c] at z; exact z
    · unfold MK.top
      split
      · exact h.2
      · exact h.2
  · refine ⟨h.1, fun y => ?_⟩
    show NBK (uZ m.2.2.2.2.1 m.rt (m.n, m.V) y).2 (uZ m.2.2.2.2.1 m.rt (m.n, m.V) y).1
    by_cases z : y = m.rt
    · rw [z, uZ_eq]; exact h.1.1
    · rw [uZ_ne z]; exact h.2 y
  · refine ⟨?_, h.2⟩
    show NB9 (fun _ => zI) 0 0 [(11, 0, 0, [])]
    refine ⟨⟨fun s l z => absurd z.1.2 (by have := z.1.1; omega), fun s l s2 l2 z => absurd z.1.2 (by have := z.1.1; omega)⟩, fun a s z => absurd z.1.2 (by have := z.1.1; omega), ⟨⟨fun a s _ z => absurd z.1.2 (by have := z.1.1; omega), fun b t _ z => absurd z.1.2 (by have := z.1.1; omega)⟩, trivial⟩, fun e me b p => ?_⟩
    rw [List.mem_singleton.mp me] at p
    have p1 : (11 : Int) = 6 ∨ (11 : Int) = 7 := p.1
    omega
  · exact ⟨h.1.cal i, by rw [show (m.cal rn q.1).dn = m.dn from congrArg Prod.fst (cal_q (m := m)).1]; exact h.2⟩
  · split
    · exact ⟨h.1.push (by simp) (by simp), h.2⟩
    · exact ⟨h.1.push (by simp) (by simp), h.2⟩
  · exact ⟨h.1.one i, by rw [show (m.one tb).dn = m.dn from congrArg Prod.fst (one_q (m := m)).1]; exact h.2⟩
  · exact ⟨h.1.two i, by rw [show m.two.dn = m.dn from congrArg Prod.fst (two_q (m := m)).1]; exact h.2⟩
  · exact h
theorem jd_t (h : JD9 m) (i : MKI m) : JD9 (mkt s nm rn tb a m) := by
  unfold mkt
  split
  · exact h
  · split
    · exact h
    · exact jd_k h i
theorem RM.jd (r : RM s nm rn tb a m b m1) (h : JD9 m) (i : MKI m) : JD9 m1 := by
  obtain ⟨n, e0, e⟩ := r
  subst e
  clear e0
  induction n generalizing a m with
  | zero => exact h
  | succ n ih => exact ih (jd_t h i) (mki_t i)
end JDS
end
