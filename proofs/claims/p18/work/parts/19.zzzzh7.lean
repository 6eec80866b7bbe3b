section
def plM (k A i : Int) : Int := if i ≤ k then i else i + A - 1
def AG8 (base : Int) (R R' : G8) : Prop := ∀ x, x < base → R' x = R x
def BI8 (base : Int) (i i2 : It) : Prop := i2 0 = i 0 ∧ ((i 0 ≤ 5) → i2 1 = i 1 + base) ∧ ∀ m, 0 ≤ m → m < 4 → i2 (3 + 2 * m) = i (3 + 2 * m) ∧ i2 (4 + 2 * m) = if i (3 + 2 * m) = 2 then i (4 + 2 * m) + base else i (4 + 2 * m)
def MSH (H G H2 : RTS) (k base A P : Int) (bp lv : Int → Int) : Prop :=
  ((0 ≤ k ∧ k < H.n) ∧ H.V k 0 = 10 ∧ 0 ≤ G.n ∧ H2.n = H.n + A - 1 ∧ 1 ≤ A) ∧
  ((∀ i, i < k → H2.V i = H.V i) ∧ ∀ i, k < i → H2.V (i + A - 1) = H.V i) ∧
  (H2.V k 0 = 14 ∧ ∀ d R, ∃ n R2, sil H2 d n (k + 1) R (bp 0) R2 ∧ AG8 base R R2 ∧ ∀ g, 0 ≤ g → LVV G.V G.n 0 g → R2 (base + g) = cal8 G P (opv R (H.V k)) g) ∧
  ((∀ j, 0 ≤ j → j < G.n → G.V j 0 ≠ 7 → bp (j + 1) = bp j + 1 ∧ BI8 base (G.V j) (H2.V (bp j))) ∧
   (∀ j, 0 ≤ j → j < G.n → (G.V j 0 = 8 ∨ G.V j 0 = 9) → ∀ l, TGv G.V G.n j l → H2.V (bp l) 1 = H2.V (bp j) 1) ∧
   (∀ j, 0 ≤ j → j < G.n → G.V j 0 = 7 → (H2.V (bp j) 0 = 0 ∧ H2.V (bp j) 1 = H.V k 1 ∧ (H2.V (bp j) 3 = G.V j 3 ∧ H2.V (bp j) 4 = if G.V j 3 = 2 then G.V j 4 + base else G.V j 4)) ∧ H2.V (bp j + 1) 0 = 8 ∧ H2.V (bp G.n) 1 = H2.V (bp j + 1) 1) ∧
   (∀ j, 0 ≤ j → j < G.n → k < bp j ∧ bp j + 1 < H2.n)) ∧
  ((H2.V (bp G.n) 0 = 13 ∧ H2.V (bp G.n + 1) 0 = 15) ∧ bp G.n + 2 = k + A ∧ k < bp G.n ∧ k + A ≤ H2.n) ∧
  ((∀ g, 0 ≤ g → H2.na 0 g = H.na 0 g) ∧ (∀ j, 0 ≤ j → j < G.n → G.V j 0 ≠ 10)) ∧
  (lv 0 = 1 ∧ (∀ j, 0 ≤ j → j < G.n → G.V j 0 = 7 → lv j = 1) ∧ ∀ j t, 0 ≤ j → j < G.n → EDv G.V G.n j t → lv t = if G.V j 0 = 14 then lv j + 1 else if G.V j 0 = 15 then lv j - 1 else lv j) ∧
  ((∀ i, 0 ≤ i → i < H.n → ∀ g, wrT (H.V i) g ∨ rdI (H.V i) g → g < base) ∧ (∀ i, 0 ≤ i → i < G.n → ∀ g, rdI (G.V i) g → 0 ≤ g) ∧ ∀ i, 0 ≤ i → i < G.n → (G.V i 0 ≤ 5) → 0 ≤ G.V i 1)
def wtm (r k A base : Int) : List F8 → List F8 → Prop
  | [], t => t = []
  | (q, k0, R, d) :: s, t => ∃ k' R' t', t = (q, k', R', d) :: t' ∧ ((q ≠ r ∧ k' = k0 ∧ R' = R) ∨ (q = r ∧ (0 ≤ k0 ∧ k0 ≠ k) ∧ k' = plM k A k0 ∧ AG8 base R R')) ∧ wtm r k A base s t'
def ml8 (G : RTS) (r q k A base : Int) (bp lv : Int → Int) (s t : List F8) : Prop := (s = [] ∧ t = []) ∨
  (∃ q0 k0 R d rest k' R' rest', s = (q0, k0, R, d) :: rest ∧ t = (q0, k', R', d) :: rest' ∧ ((q0 ≠ r ∧ k' = k0 ∧ R' = R) ∨ (q0 = r ∧ k' = plM k A k0 ∧ AG8 base R R')) ∧ wtm r k A base rest rest') ∨
  ∃ j R dr Rr rest R' rest', s = (q, j, R, dr + lv j) :: (r, k, Rr, dr) :: rest ∧ t = (r, bp j, R', dr + lv j) :: rest' ∧ AG8 base Rr R' ∧ (∀ g, 0 ≤ g → LVV G.V G.n j g → R' (base + g) = R g) ∧ wtm r k A base rest rest'
section MEL8
variable {H G H2 : RTS} {k base A P r q k0 g v x m : Int} {bp lv : Int → Int} {R R' R2 : G8} {i i2 : It}
theorem AG8.up (h : AG8 base R R') (v : Int) : AG8 base (uZ R g v) (uZ R' g v) := fun x a => by
  by_cases e : x = g
  · rw [e, uZ_eq, uZ_eq]
  · rw [uZ_ne e, uZ_ne e]; exact h x a
theorem AG8.hi (h : AG8 base R R') (hg : base ≤ g) : AG8 base R (uZ R' g v) := fun x a => by rw [uZ_ne (by omega)]; exact h x a
theorem AG8.op (h : AG8 base R R') (hr : ∀ g, rdI i g → g < base) (m0 : 0 ≤ m) (m4 : m < 4) : opv R' i m = opv R i m := by
  unfold opv
  by_cases c : i (3 + 2 * m) = 2
  · rw [if_pos c, if_pos c]; exact h _ (hr _ ⟨m, m0, m4, c, rfl⟩)
  · rw [if_neg c, if_neg c]
theorem AG8.val (h : AG8 base R R') (hr : ∀ g, rdI i g → g < base) : val8 R' i = val8 R i := by
  unfold val8
  rw [h.op hr (by decide) (by decide), h.op hr (by decide) (by decide)]
theorem bi_op (b : BI8 base i i2) (h : ∀ g, rdI i g → R' (base + g) = R g) (m0 : 0 ≤ m) (m4 : m < 4) : opv R' i2 m = opv R i m := by
  obtain ⟨e3, e4⟩ := b.2.2 m m0 m4
  unfold opv
  rw [e3, e4]
  by_cases c : i (3 + 2 * m) = 2
  · rw [if_pos c, if_pos c, if_pos c, show i (4 + 2 * m) + base = base + i (4 + 2 * m) by omega]; exact h _ ⟨m, m0, m4, c, rfl⟩
  · rw [if_neg c, if_neg c, if_neg c]
theorem pl_n (h : k0 ≠ k) : plM k A (k0 + 1) = plM k A k0 + 1 := by
  unfold plM
  by_cases c : k0 ≤ k
  · rw [if_pos c, if_pos (by omega)]
  · rw [if_neg c, if_neg (by omega)]; omega
theorem pl_v (s : MSH H G H2 k base A P bp lv) (h : k0 ≠ k) : H2.V (plM k A k0) = H.V k0 := by
  unfold plM
  by_cases c : k0 ≤ k
  · rw [if_pos c]; exact s.2.1.1 k0 (by omega)
  · rw [if_neg c]; exact s.2.1.2 k0 (by omega)
theorem pl_b (s : MSH H G H2 k base A P bp lv) (h0 : 0 ≤ k0) (h1 : k0 < H.n) : 0 ≤ plM k A k0 ∧ plM k A k0 < H2.n := by
  obtain ⟨⟨-, -, -, a, b⟩, -⟩ := s
  unfold plM
  by_cases c : k0 ≤ k
  · rw [if_pos c]; omega
  · rw [if_neg c]; omega
theorem ml_own (s : MSH H G H2 k base A P bp lv) (hk : k0 ≠ k) (ag : AG8 base R R') {d d2 : Int} {e : E8} {k2 : Int} (h : ist H k0 R d e k2 R2 d2) : ∃ R3, ist H2 (plM k A k0) R' d e (plM k A k2) R3 d2 ∧ AG8 base R2 R3 := by
  have ev := pl_v s hk
  obtain ⟨hb, h⟩ := h
  have pb := pl_b s hb.1 hb.2
  have rd : ∀ g, rdI (H.V k0) g → g < base := fun g a => s.2.2.2.2.2.2.2.1 k0 hb.1 hb.2 g (Or.inr a)
  have n1 := pl_n (A := A) hk
  rcases h with ⟨a, e1, e2, e3, e4⟩ | ⟨a, e1, e2, e3, e4⟩ | ⟨a, e1, e2, e3, e4⟩ | ⟨a, e1, e2, e3, e4⟩ | ⟨a, e1, e2, e3, e4⟩ | ⟨a, a8, e1, e2, e3, e4⟩ | ⟨a, e1, e2, e3, e4⟩
  · rw [e1, e2, e3, e4, n1]
    refine ⟨uZ R' (H.V k0 1) (val8 R (H.V k0)), ⟨pb, Or.inl ⟨by rw [ev]; exact a, rfl, rfl, ?_, rfl⟩⟩, ag.up _⟩
    rw [ev, ag.val rd]
  · rw [e1, e2, e3, e4, n1]
    exact ⟨R', ⟨pb, Or.inr (Or.inl ⟨by rw [ev]; exact a, by rw [ev, ag.op rd (by decide) (by decide)], rfl, rfl, rfl⟩)⟩, ag⟩
  · rw [e1, e3, e4]
    have lk : k2 ≠ k := fun z => by
      have w := e2.2.2.1
      rw [z] at w
      have := s.1.2.1
      omega
    have el := pl_v s lk
    have lb := pl_b s e2.1 e2.2.1
    refine ⟨R', ⟨pb, Or.inr (Or.inr (Or.inl ⟨?_, rfl, ⟨lb.1, lb.2, by rw [el]; exact e2.2.2.1, by rw [el, ev]; exact e2.2.2.2⟩, rfl, rfl⟩))⟩, ag⟩
    rw [ev]
    rcases a with z | z
    · exact Or.inl z
    · exact Or.inr ⟨z.1, by rw [ag.op rd (by decide) (by decide)]; exact z.2⟩
  · rw [e1, e2, e3, e4, n1]
    refine ⟨R', ⟨pb, Or.inr (Or.inr (Or.inr (Or.inl ⟨?_, rfl, rfl, rfl, rfl⟩)))⟩, ag⟩
    rw [ev]
    rcases a with z | z
    · exact Or.inl ⟨z.1, by rw [ag.op rd (by decide) (by decide)]; exact z.2⟩
    · exact Or.inr z
  · rw [e1, e2, e3, e4, n1]
    exact ⟨R', ⟨pb, Or.inr (Or.inr (Or.inr (Or.inr (Or.inl ⟨by rw [ev]; exact a, rfl, rfl, rfl, rfl⟩))))⟩, ag⟩
  · rw [e1, e2, e3, e4, n1]
    exact ⟨R', ⟨pb, Or.inr (Or.inr (Or.inr (Or.inr (Or.inr (Or.inl ⟨by rw [ev]; exact a, a8, rfl, rfl, rfl, rfl⟩)))))⟩, ag⟩
  · rw [e1, e2, e3, e4, n1]
    exact ⟨R', ⟨pb, Or.inr (Or.inr (Or.inr (Or.inr (Or.inr (Or.inr ⟨by rw [ev]; exact a, rfl, rfl, rfl, rfl⟩)))))⟩, ag⟩
end MEL8
section MEM8
variable {Gs Gs2 : Int → RTS} {PM : Int → Int} {G : RTS} {k base A r q : Int} {bp lv : Int → Int} {s s2 t : List F8} {e : E8}
theorem sim_ml (hG : ∀ q, q ≠ r → Gs2 q = Gs q) (hP : ∀ q, PM q ≤ 4) (hq : q ≠ r ∧ (Gs r).V k 2 = q) (hS : MSH (Gs r) (Gs q) (Gs2 r) k base A (PM q) bp lv) (h : ml8 (Gs q) r q k A base bp lv s t) (st : stp8 Gs PM s e s2) : ∃ n t2, run8 Gs2 PM n t (ev8 e) t2 ∧ ml8 (Gs q) r q k A base bp lv s2 t2 := by
  obtain ⟨q0, k0, R, d, rest, es, st⟩ := st
  have hS' := hS
  obtain ⟨⟨hk, k10, gn, n2, a1⟩, -, ⟨ent, hdr⟩, ⟨b1, b2, b3, b4⟩, ⟨⟨c1, c2⟩, c3, c4, c5⟩, ⟨na, nc⟩, ⟨lv0, lv7, lvs⟩, g1, g2, g3⟩ := hS
  have cal : ∀ c W W2, (∀ j, 0 ≤ j → j < 4 → W2 j = W j) → cal8 (Gs2 c) (PM c) W2 = cal8 (Gs c) (PM c) W := fun c W W2 hj => by
    by_cases ec : c = r
    · rw [ec]
      funext g
      exact pwR_c (fun i a b => ⟨na i a, hj i a (by have := hP r; omega)⟩) rfl
    · rw [hG c ec]; exact cal8_c hj (hP c)
  rcases h with ⟨h1, -⟩ | ⟨q1, k1, R1, d1, rest1, k', R', rest', h1, rfl, hr, hw⟩ | ⟨j, Rq, dr, Rr, rest1, R', rest', h1, rfl, ag, lq, hw⟩
  · rw [h1] at es
    exact absurd es (by simp)
  · rw [h1] at es
    simp only [List.cons.injEq, Prod.mk.injEq] at es
    obtain ⟨⟨rfl, rfl, rfl, rfl⟩, rfl⟩ := es
    -- a call that returns to one that waits, or to none
    have back : ∀ (kk : Int) (v : Int) (RR : G8), (Gs2 q1).V kk 0 = 7 → (0 ≤ kk ∧ kk < (Gs2 q1).n) → opv RR ((Gs2 q1).V kk) 0 = v → ((rest1 = [] ∧ e = (3, v) ∧ s2 = []) ∨ ∃ (r1 k1 : Int) (R1 : G8) (d1 : Int) (rest2 : List F8), rest1 = (r1, k1, R1, d1) :: rest2 ∧ e = (0, 0) ∧ s2 = (r1, k1 + 1, uZ R1 ((Gs r1).V k1 1) v, d1) :: rest2) → ∃ n t2, run8 Gs2 PM n ((q1, kk, RR, d1) :: rest') (ev8 e) t2 ∧ ml8 (Gs q) r q k A base bp lv s2 t2 := fun kk v RR x7 xb xv hc => by
      rcases hc with ⟨rfl, rfl, rfl⟩ | ⟨r2, k2, R2, d2, rest2, rfl, rfl, rfl⟩
      · have e1 : rest' = [] := hw
        subst e1
        exact ⟨1, [], run8.one ⟨q1, kk, RR, d1, [], rfl, Or.inr ⟨xb, Or.inr (Or.inr ⟨x7, Or.inl ⟨rfl, by rw [xv], rfl⟩⟩)⟩⟩, Or.inl ⟨rfl, rfl⟩⟩
      · obtain ⟨k9, R9, t9, rfl, h9, hw9⟩ := hw
        refine ⟨1, _, run8.one ⟨q1, kk, RR, d1, _, rfl, Or.inr ⟨xb, Or.inr (Or.inr ⟨x7, Or.inr ⟨r2, k9, R9, d2, t9, rfl, rfl, rfl⟩⟩)⟩⟩, Or.inr (Or.inl ⟨_, _, _, _, _, _, _, _, rfl, rfl, ?_, hw9⟩)⟩
        rw [xv]
        rcases h9 with ⟨n9, rfl, rfl⟩ | ⟨e9, ⟨k20, k2k⟩, rfl, ag9⟩
        · exact Or.inl ⟨n9, rfl, by rw [hG r2 n9]⟩
        · refine Or.inr ⟨e9, (pl_n k2k).symm, ?_⟩
          rw [e9, pl_v hS' k2k]; exact ag9.up _
    rcases hr with ⟨hr, rfl, rfl⟩ | ⟨rfl, rfl, ag⟩
    · -- another routine
      have eG := hG q1 hr
      rcases st with ⟨k2, R2, d2, hi, rfl⟩ | ⟨hb, hc | hf | ⟨h7, hc⟩⟩
      · exact ⟨1, _, run8.one (ist.stp (Gs := Gs2) (by rw [eG]; exact hi)), Or.inr (Or.inl ⟨q1, k2, R2, d2, rest1, k2, R2, rest', rfl, rfl, Or.inl ⟨hr, rfl, rfl⟩, hw⟩)⟩
      · obtain ⟨x1, x2, rfl, rfl⟩ := hc
        refine ⟨1, _, run8.one ⟨q1, k', R', d1, rest', rfl, Or.inr ⟨by rw [eG]; exact hb, Or.inl ⟨by rw [eG]; exact x1, x2, rfl, rfl⟩⟩⟩, Or.inr (Or.inl ⟨_, _, _, _, _, 0, cal8 (Gs2 ((Gs q1).V k' 2)) (PM ((Gs q1).V k' 2)) (opv R' ((Gs2 q1).V k')), (q1, k', R', d1) :: rest', rfl, ?_, ?_, ⟨k', R', rest', rfl, Or.inl ⟨hr, rfl, rfl⟩, hw⟩⟩)⟩
        · rw [eG]
        · have ec := cal ((Gs q1).V k' 2) (opv R' ((Gs q1).V k')) (opv R' ((Gs2 q1).V k')) (fun j _ _ => by rw [eG])
          by_cases z : (Gs q1).V k' 2 = r
          · exact Or.inr ⟨z, by unfold plM; rw [if_pos hk.1], by rw [ec]; exact fun _ _ => rfl⟩
          · exact Or.inl ⟨z, rfl, ec⟩
      · obtain ⟨x1, x2, rfl, rfl⟩ := hf
        exact ⟨1, [], run8.one ⟨q1, k', R', d1, rest', rfl, Or.inr ⟨by rw [eG]; exact hb, Or.inr (Or.inl ⟨by rw [eG]; exact x1, x2, rfl, rfl⟩)⟩⟩, Or.inl ⟨rfl, rfl⟩⟩
      · exact back k' _ R' (by rw [eG]; exact h7) (by rw [eG]; exact hb) (by rw [eG]) hc
    · -- the routine itself
      by_cases ek : k1 = k
      · -- at the CALL
        subst ek
        have ep : plM k1 A k1 = k1 := by unfold plM; rw [if_pos (by omega)]
        rw [ep]
        rcases st with ⟨k2, R2, d2, hi, rfl⟩ | ⟨hb, hc | hf | ⟨h7, hc⟩⟩
        · exfalso
          obtain ⟨-, hi⟩ := hi
          rcases hi with ⟨a, -⟩ | ⟨a, -⟩ | ⟨a, -⟩ | ⟨a, -⟩ | ⟨a, -⟩ | ⟨a, -⟩ | ⟨a, -⟩ <;> omega
        · obtain ⟨x1, x2, rfl, rfl⟩ := hc
          obtain ⟨n, R2, r1, r2, r3⟩ := hdr (d1 + 1) R'
          have en : ist (Gs2 q1) k1 R' d1 (0, 0) (k1 + 1) R' (d1 + 1) := ⟨⟨hk.1, by omega⟩, Or.inr (Or.inr (Or.inr (Or.inr (Or.inr (Or.inl ⟨ent, x2, rfl, rfl, rfl, rfl⟩)))))⟩
          refine ⟨1 + n, (q1, bp 0, R2, d1 + lv 0) :: rest', ?_, Or.inr (Or.inr ⟨0, cal8 (Gs ((Gs q1).V k1 2)) (PM ((Gs q1).V k1 2)) (opv R1 ((Gs q1).V k1)), d1, R1, rest1, R2, rest', ?_, rfl, fun x a => (r2 x a).trans (ag x a), fun g a b => ?_, hw⟩)⟩
          · rw [lv0]
            have z := (run8.one (PM := PM) (ist.stp (Gs := Gs2) (rest := rest') en)).trans (r1.run (rest := rest'))
            rw [List.append_nil] at z
            exact z
          · rw [hq.2, lv0]
          · rw [r3 g a b, hq.2]
            exact congrFun (cal8_c (fun j j0 j4 => ag.op (fun g a => g1 k1 hk.1 hk.2 g (Or.inr a)) j0 j4) (hP q)) g
        · obtain ⟨x1, x2, rfl, rfl⟩ := hf
          exact ⟨1, [], run8.one ⟨q1, k1, R', d1, rest', rfl, Or.inr ⟨⟨hk.1, by omega⟩, Or.inr (Or.inl ⟨Or.inr ent, x2, rfl, rfl⟩)⟩⟩, Or.inl ⟨rfl, rfl⟩⟩
        · omega
      · have ev := pl_v hS' ek
        rcases st with ⟨k2, R2, d2, hi, rfl⟩ | ⟨hb, hc | hf | ⟨h7, hc⟩⟩
        · obtain ⟨R3, y1, y2⟩ := ml_own hS' ek ag hi
          exact ⟨1, _, run8.one (ist.stp (Gs := Gs2) y1), Or.inr (Or.inl ⟨q1, k2, R2, d2, rest1, _, R3, rest', rfl, rfl, Or.inr ⟨rfl, rfl, y2⟩, hw⟩)⟩
        · obtain ⟨x1, x2, rfl, rfl⟩ := hc
          have pb := pl_b hS' hb.1 hb.2
          refine ⟨1, _, run8.one ⟨q1, plM k A k1, R', d1, rest', rfl, Or.inr ⟨pb, Or.inl ⟨by rw [ev]; exact x1, x2, rfl, rfl⟩⟩⟩, Or.inr (Or.inl ⟨_, _, _, _, _, 0, cal8 (Gs2 ((Gs q1).V k1 2)) (PM ((Gs q1).V k1 2)) (opv R' ((Gs2 q1).V (plM k A k1))), (q1, plM k A k1, R', d1) :: rest', rfl, ?_, ?_, ⟨_, R', rest', rfl, Or.inr ⟨rfl, ⟨hb.1, ek⟩, rfl, ag⟩, hw⟩⟩)⟩
          · rw [ev]
          · have ec := cal ((Gs q1).V k1 2) (opv R1 ((Gs q1).V k1)) (opv R' ((Gs2 q1).V (plM k A k1))) (fun j j0 j4 => by rw [ev]; exact ag.op (fun g a => g1 k1 hb.1 hb.2 g (Or.inr a)) j0 j4)
            by_cases z : (Gs q1).V k1 2 = q1
            · exact Or.inr ⟨z, by unfold plM; rw [if_pos hk.1], by rw [ec]; exact fun _ _ => rfl⟩
            · exact Or.inl ⟨z, rfl, ec⟩
        · obtain ⟨x1, x2, rfl, rfl⟩ := hf
          exact ⟨1, [], run8.one ⟨q1, plM k A k1, R', d1, rest', rfl, Or.inr ⟨pl_b hS' hb.1 hb.2, Or.inr (Or.inl ⟨by rw [ev]; exact x1, x2, rfl, rfl⟩)⟩⟩, Or.inl ⟨rfl, rfl⟩⟩
        · exact back (plM k A k1) _ R' (by rw [ev]; exact h7) (pl_b hS' hb.1 hb.2) (by rw [ev]; exact ag.op (fun g a => g1 k1 hb.1 hb.2 g (Or.inr a)) (by decide) (by decide)) hc
  · -- within what was melted in
    rw [h1] at es
    simp only [List.cons.injEq, Prod.mk.injEq] at es
    obtain ⟨⟨rfl, rfl, rfl, rfl⟩, rfl⟩ := es
    rcases st with ⟨k2, R2, d2, hi, rfl⟩ | ⟨hb, hc | hf | ⟨h7, hc⟩⟩
    · have hb := hi.1
      have hi0 := hi
      obtain ⟨-, hi⟩ := hi
      obtain ⟨p1, p2⟩ := b4 j hb.1 hb.2
      have n7 : (Gs q).V j 0 ≠ 7 := fun z => by
        rcases hi with ⟨a, -⟩ | ⟨a, -⟩ | ⟨a, -⟩ | ⟨a, -⟩ | ⟨a, -⟩ | ⟨a, -⟩ | ⟨a, -⟩ <;> omega
      obtain ⟨e1, bi⟩ := b1 j hb.1 hb.2 n7
      have bb : 0 ≤ bp j ∧ bp j < (Gs2 r).n := by omega
      have rdl : (Gs q).V j 0 ≠ 12 → ∀ g, rdI ((Gs q).V j) g → R' (base + g) = Rq g := fun a g b => lq g (g2 j hb.1 hb.2 g b) (LVV.rd hb.1 hb.2 a b)
      have edn : ¬ ((Gs q).V j 0 = 8 ∨ (Gs q).V j 0 = 7) → EDv (Gs q).V (Gs q).n j (j + 1) := fun a => Or.inl ⟨a, rfl⟩
      have lon : ∀ t, EDv (Gs q).V (Gs q).n j t → 5 < (Gs q).V j 0 → ∀ g, 0 ≤ g → LVV (Gs q).V (Gs q).n t g → R' (base + g) = Rq g := fun t a b g c d => lq g c (LVV.on hb.1 hb.2 (fun z => by have := z.1; have := nc j hb.1 hb.2; omega) a d)
      have fin : ∀ (k3 d3 : Int) (R3 R4 : G8), ist (Gs2 r) (bp j) R' (dr + lv j) e (bp k3) R4 d3 → k2 = k3 → R2 = R3 → d2 = d3 → AG8 base Rr R4 → d3 = dr + lv k3 → (∀ g, 0 ≤ g → LVV (Gs q).V (Gs q).n k3 g → R4 (base + g) = R3 g) → ∃ n t2, run8 Gs2 PM n ((r, bp j, R', dr + lv j) :: rest') (ev8 e) t2 ∧ ml8 (Gs q) r q k A base bp lv ((q, k2, R2, d2) :: (r, k, Rr, dr) :: rest1) t2 := fun k3 d3 R3 R4 a b1 b2 b3 c d l => by
        refine ⟨1, _, run8.one (ist.stp (Gs := Gs2) a), Or.inr (Or.inr ⟨k3, R3, dr, Rr, rest1, R4, rest', ?_, ?_, c, l, hw⟩)⟩
        · rw [b1, b2, b3, d]
        · rw [d]
      rcases hi with ⟨a, e1', e2, e3, e4⟩ | ⟨a, e1', e2, e3, e4⟩ | ⟨a, e1', e2, e3, e4⟩ | ⟨a, e1', e2, e3, e4⟩ | ⟨a, e1', e2, e3, e4⟩ | ⟨a, a8, e1', e2, e3, e4⟩ | ⟨a, e1', e2, e3, e4⟩
      · have ed := edn (by omega)
        have el := lvs j _ hb.1 hb.2 ed
        rw [if_neg (by omega), if_neg (by omega)] at el
        have ew : val8 R' ((Gs2 r).V (bp j)) = val8 Rq ((Gs q).V j) := by
          unfold val8
          rw [bi.1, bi_op bi (rdl (by omega)) (by decide) (by decide), bi_op bi (rdl (by omega)) (by decide) (by decide)]
        have g0 := g3 j hb.1 hb.2 a
        refine fin (j + 1) (dr + lv j) _ (uZ R' ((Gs q).V j 1 + base) (val8 Rq ((Gs q).V j))) ?_ e2 e3 e4 (ag.hi (by omega)) (by rw [el]) (fun g c l => ?_)
        · rw [e1, e1']
          exact ⟨bb, Or.inl ⟨by rw [bi.1]; exact a, rfl, rfl, by rw [ew, bi.2.1 a], rfl⟩⟩
        · by_cases z : g = (Gs q).V j 1
          · rw [z, uZ_eq, show base + (Gs q).V j 1 = (Gs q).V j 1 + base by omega, uZ_eq]
          · rw [uZ_ne z, uZ_ne (by omega)]
            exact lq g c (LVV.on hb.1 hb.2 (fun y => z y.2.symm) ed l)
      · have ed := edn (by omega)
        have el := lvs j _ hb.1 hb.2 ed
        rw [if_neg (by omega), if_neg (by omega)] at el
        refine fin (j + 1) (dr + lv j) Rq R' ?_ e2 e3 e4 ag (by rw [el]) (lon _ ed (by omega))
        rw [e1, e1']
        exact ⟨bb, Or.inr (Or.inl ⟨by rw [bi.1]; exact a, by rw [bi_op bi (rdl (by omega)) (by decide) (by decide)], rfl, rfl, rfl⟩)⟩
      · have hk2 : (Gs q).V j 0 = 8 ∨ (Gs q).V j 0 = 9 := a.elim Or.inl (fun z => Or.inr z.1)
        have ed : EDv (Gs q).V (Gs q).n j k2 := Or.inr ⟨hk2, e2⟩
        have el := lvs j _ hb.1 hb.2 ed
        rw [if_neg (by omega), if_neg (by omega)] at el
        obtain ⟨l1, l2⟩ := b4 k2 e2.1 e2.2.1
        have lb := b1 k2 e2.1 e2.2.1 (by have := e2.2.2.1; omega)
        refine fin k2 (dr + lv j) Rq R' ?_ rfl e3 e4 ag (by rw [el]) (lon _ ed (by omega))
        rw [e1']
        refine ⟨bb, Or.inr (Or.inr (Or.inl ⟨?_, rfl, ⟨by omega, by omega, by rw [lb.2.1]; exact e2.2.2.1, b2 j hb.1 hb.2 hk2 k2 e2⟩, rfl, rfl⟩))⟩
        rw [bi.1]
        rcases a with z | z
        · exact Or.inl z
        · exact Or.inr ⟨z.1, by rw [bi_op bi (rdl (by omega)) (by decide) (by decide)]; exact z.2⟩
      · have ed := edn (by rcases a with z | z | z <;> omega)
        have el := lvs j _ hb.1 hb.2 ed
        rw [if_neg (by rcases a with z | z | z <;> omega), if_neg (by rcases a with z | z | z <;> omega)] at el
        refine fin (j + 1) (dr + lv j) Rq R' ?_ e2 e3 e4 ag (by rw [el]) (lon _ ed (by rcases a with z | z | z <;> omega))
        rw [e1, e1']
        refine ⟨bb, Or.inr (Or.inr (Or.inr (Or.inl ⟨?_, rfl, rfl, rfl, rfl⟩)))⟩
        rw [bi.1]
        rcases a with z | z
        · exact Or.inl ⟨z.1, by rw [bi_op bi (rdl (by omega)) (by decide) (by decide)]; exact z.2⟩
        · exact Or.inr z
      · have ed := edn (by omega)
        have el := lvs j _ hb.1 hb.2 ed
        rw [if_neg (by omega), if_neg (by omega)] at el
        refine fin (j + 1) (dr + lv j) Rq R' ?_ e2 e3 e4 ag (by rw [el]) (lon _ ed (by omega))
        rw [e1, e1']
        exact ⟨bb, Or.inr (Or.inr (Or.inr (Or.inr (Or.inl ⟨by rw [bi.1]; exact a, rfl, rfl, rfl, rfl⟩))))⟩
      · have ed := edn (by omega)
        have el := lvs j _ hb.1 hb.2 ed
        rw [if_pos a] at el
        refine fin (j + 1) (dr + lv j + 1) Rq R' ?_ e2 e3 e4 ag (by rw [el]; omega) (lon _ ed (by omega))
        rw [e1, e1']
        exact ⟨bb, Or.inr (Or.inr (Or.inr (Or.inr (Or.inr (Or.inl ⟨by rw [bi.1]; exact a, a8, rfl, rfl, rfl, rfl⟩)))))⟩
      · have ed := edn (by omega)
        have el := lvs j _ hb.1 hb.2 ed
        rw [if_neg (by omega), if_pos a] at el
        refine fin (j + 1) (dr + lv j - 1) Rq R' ?_ e2 e3 e4 ag (by rw [el]; omega) (lon _ ed (by omega))
        rw [e1, e1']
        exact ⟨bb, Or.inr (Or.inr (Or.inr (Or.inr (Or.inr (Or.inr ⟨by rw [bi.1]; exact a, rfl, rfl, rfl, rfl⟩)))))⟩
    · exact absurd hc.1 (nc j hb.1 hb.2)
    · obtain ⟨x1, x2, rfl, rfl⟩ := hf
      have x14 : (Gs q).V j 0 = 14 := x1.elim (fun z => absurd z (nc j hb.1 hb.2)) id
      obtain ⟨p1, p2⟩ := b4 j hb.1 hb.2
      obtain ⟨-, bi⟩ := b1 j hb.1 hb.2 (by omega)
      exact ⟨1, [], run8.one ⟨r, bp j, R', _, rest', rfl, Or.inr ⟨by omega, Or.inr (Or.inl ⟨Or.inr (by rw [bi.1]; exact x14), x2, rfl, rfl⟩)⟩⟩, Or.inl ⟨rfl, rfl⟩⟩
    · -- RETURN: COPY, JUMP, LABEL, LEAVE
      obtain ⟨p1, p2⟩ := b4 j hb.1 hb.2
      obtain ⟨⟨y0, y1, y3, y4⟩, z0, z1⟩ := b3 j hb.1 hb.2 h7
      rcases hc with ⟨e9, -, -⟩ | ⟨r1, k1, R1, d1, rest2, e9, rfl, rfl⟩
      · exact absurd e9 (by simp)
      · simp only [List.cons.injEq, Prod.mk.injEq] at e9
        obtain ⟨⟨rfl, rfl, rfl, rfl⟩, rfl⟩ := e9
        have ew : val8 R' ((Gs2 r).V (bp j)) = opv Rq ((Gs q).V j) 0 := by
          unfold val8
          rw [if_pos y0, opv_0, opv_0, y3, y4]
          by_cases c : (Gs q).V j 3 = 2
          · rw [if_pos c, if_pos c, if_pos c, show (Gs q).V j 4 + base = base + (Gs q).V j 4 by omega]
            have rd : rdI ((Gs q).V j) ((Gs q).V j 4) := ⟨0, by decide, by decide, c, rfl⟩
            exact lq _ (g2 j hb.1 hb.2 _ rd) (LVV.rd hb.1 hb.2 (by omega) rd)
          · rw [if_neg c, if_neg c, if_neg c]
        have i1 : ist (Gs2 r) (bp j) R' (dr + lv j) (0, 0) (bp j + 1) (uZ R' ((Gs r).V k 1) (opv Rq ((Gs q).V j) 0)) (dr + lv j) := ⟨by omega, Or.inl ⟨by omega, rfl, rfl, by rw [ew, y1], rfl⟩⟩
        have i2 : ist (Gs2 r) (bp j + 1) (uZ R' ((Gs r).V k 1) (opv Rq ((Gs q).V j) 0)) (dr + lv j) (0, 0) (bp (Gs q).n) (uZ R' ((Gs r).V k 1) (opv Rq ((Gs q).V j) 0)) (dr + lv j) := ⟨by omega, Or.inr (Or.inr (Or.inl ⟨Or.inl z0, rfl, ⟨by omega, by omega, c1, z1⟩, rfl, rfl⟩))⟩
        have i3 : ist (Gs2 r) (bp (Gs q).n) (uZ R' ((Gs r).V k 1) (opv Rq ((Gs q).V j) 0)) (dr + lv j) (0, 0) (bp (Gs q).n + 1) (uZ R' ((Gs r).V k 1) (opv Rq ((Gs q).V j) 0)) (dr + lv j) := ⟨by omega, Or.inr (Or.inr (Or.inr (Or.inl ⟨Or.inr (Or.inr c1), rfl, rfl, rfl, rfl⟩)))⟩
        have i4 : ist (Gs2 r) (bp (Gs q).n + 1) (uZ R' ((Gs r).V k 1) (opv Rq ((Gs q).V j) 0)) (dr + lv j) (0, 0) (bp (Gs q).n + 1 + 1) (uZ R' ((Gs r).V k 1) (opv Rq ((Gs q).V j) 0)) (dr + lv j - 1) := ⟨by omega, Or.inr (Or.inr (Or.inr (Or.inr (Or.inr (Or.inr ⟨c2, rfl, rfl, rfl, rfl⟩)))))⟩
        have rr := (((run8.one (PM := PM) (ist.stp (Gs := Gs2) (rest := rest') i1)).trans (run8.one (ist.stp (Gs := Gs2) (rest := rest') i2))).trans (run8.one (ist.stp (Gs := Gs2) (rest := rest') i3))).trans (run8.one (ist.stp (Gs := Gs2) (rest := rest') i4))
        rw [ev8_z, List.append_nil, List.append_nil, List.append_nil] at rr
        rw [ev8_z]
        refine ⟨_, _, rr, Or.inr (Or.inl ⟨r, k + 1, _, dr, rest1, _, _, rest', rfl, ?_, Or.inr ⟨rfl, rfl, ag.up _⟩, hw⟩)⟩
        rw [lv7 j hb.1 hb.2 h7]
        have e1 : bp (Gs q).n + 1 + 1 = plM k A (k + 1) := by unfold plM; rw [if_neg (by omega)]; omega
        rw [e1, show dr + 1 - 1 = dr by omega]
theorem sim_ml.runs {n : Nat} {L : List E8} (hG : ∀ q, q ≠ r → Gs2 q = Gs q) (hP : ∀ q, PM q ≤ 4) (hq : q ≠ r ∧ (Gs r).V k 2 = q) (hS : MSH (Gs r) (Gs q) (Gs2 r) k base A (PM q) bp lv) (h : ml8 (Gs q) r q k A base bp lv s t) (g : run8 Gs PM n s L s2) : ∃ m t2, run8 Gs2 PM m t L t2 ∧ ml8 (Gs q) r q k A base bp lv s2 t2 := by
  induction n generalizing s t L with
  | zero =>
    obtain ⟨e1, e2⟩ := g
    rw [e1, e2]
    exact ⟨0, t, ⟨rfl, rfl⟩, h⟩
  | succ n ih =>
    obtain ⟨e, x, L1, g1, g2, rfl⟩ := g
    obtain ⟨m, y, h1, h2⟩ := sim_ml hG hP hq hS h g1
    obtain ⟨m2, z, h3, h4⟩ := ih h2 g2
    exact ⟨m + m2, z, h1.trans h3, h4⟩
theorem sim_ml.beh {W : Int → Int} {p : Int} {L : List E8} (hG : ∀ q, q ≠ r → Gs2 q = Gs q) (hP : ∀ q, PM q ≤ 4) (hq : q ≠ r ∧ (Gs r).V k 2 = q) (hS : MSH (Gs r) (Gs q) (Gs2 r) k base A (PM q) bp lv) (h : beh8 Gs PM p W L) : beh8 Gs2 PM p W L := by
  obtain ⟨n, s2, g⟩ := h
  have ec : cal8 (Gs2 p) (PM p) W = cal8 (Gs p) (PM p) W := by
    by_cases c : p = r
    · rw [c]
      funext g
      exact pwR_c (fun i a b => ⟨hS.2.2.2.2.2.1.1 i a, rfl⟩) rfl
    · rw [hG p c]
  obtain ⟨m, t2, w, -⟩ := sim_ml.runs (t := [(p, 0, cal8 (Gs2 p) (PM p) W, 1)]) hG hP hq hS (Or.inr (Or.inl ⟨p, 0, _, 1, [], 0, _, [], rfl, rfl, by
    by_cases c : p = r
    · exact Or.inr ⟨c, by unfold plM; rw [if_pos hS.1.1.1], by rw [ec]; exact fun _ _ => rfl⟩
    · exact Or.inl ⟨c, rfl, ec⟩, rfl⟩)) g
  exact ⟨m, t2, w⟩
end MEM8
end
