/-! stack: both alike -/
theorem AB.le {σ : MS} {m c : Int} : ∀ n : Nat, 9 * m - 1 ≤ c - n → AB σ m c ≤ AB σ m (c - n) := by
  intro n
  induction n with
  | zero => intro _; rw [show c - ((0 : Nat) : Int) = c by omega]; exact Int.le_refl _
  | succ n ih =>
    intro h
    have q := ih (by omega)
    have s := AB.nx (σ := σ) (m := m) (c := c - n) (by omega)
    have r := (ch_rng (p := pr σ m (c - n)) 13 (σ.2.1 80 (c - n))).1
    rw [show c - ((n + 1 : Nat) : Int) = c - n - 1 by omega, s]
    unfold dch
    omega
theorem fnd_lt {σ : MS} {m k c c' i j : Int} (h1 : k = AB σ m c + i) (i0 : 0 ≤ i) (h2 : k = AB σ m c' + j) (j1 : j < dch σ m c') (c0 : 9 * m ≤ c) : ¬ c < c' := fun z => by
  have q := AB.le (σ := σ) (m := m) (c := c' - 1) (c' - 1 - c).toNat (by omega)
  rw [show c' - 1 - ((c' - 1 - c).toNat : Int) = c by omega, AB.nx (by omega)] at q
  omega
theorem fnd_one {σ : MS} {m k c c' i j : Int} (h1 : k = AB σ m c + i) (i0 : 0 ≤ i) (i1 : i < dch σ m c) (h2 : k = AB σ m c' + j) (j0 : 0 ≤ j) (j1 : j < dch σ m c') (c0 : 9 * m ≤ c) (c1 : 9 * m ≤ c') : c = c' ∧ i = j := by
  have a := fnd_lt h1 i0 h2 j1 c0
  have b := fnd_lt h2 j0 h1 i1 c1
  have e : c = c' := by omega
  refine ⟨e, ?_⟩
  rw [e] at h1
  omega
theorem jU_it {P Q : Int → Int} {F : Int} (hF : F ≤ 12) (hp : ∀ f, 0 ≤ f → f < F → -1 ≤ Q f ∧ Q f < f) (e : ∀ f, 0 ≤ f → f < F → P f = Q f) : ∀ (i : Nat) (f : Int), -1 ≤ f → f < F → (i : Int) < ch Q 13 f → jU P i f = itU Q i f ∧ 0 ≤ itU Q i f ∧ itU Q i f < F := by
  have cs : ∀ f, 0 ≤ f → f < F → ch Q 13 f = 1 + ch Q 13 (Q f) := fun f a b => by
    have q := hp f a b
    rw [show ch Q 13 f = 1 + ch Q 12 (Q f) by
      show (if f = -1 then 0 else 1 + ch Q 12 (Q f)) = _
      rw [if_neg (by omega)], ch_fuel hp 12 13 (Q f) q.1 (by omega) (by omega) (by omega)]
  intro i
  induction i with
  | zero =>
    intro f a b d
    have f0 : 0 ≤ f := by
      by_cases z : f = -1
      · rw [z, ch_m1] at d; omega
      · omega
    exact ⟨rfl, f0, b⟩
  | succ i ih =>
    intro f a b d
    have f0 : 0 ≤ f := by
      by_cases z : f = -1
      · rw [z, ch_m1] at d; omega
      · omega
    have q := hp f f0 b
    have s := cs f f0 b
    have z := ih (Q f) q.1 (by omega) (by omega)
    show jU P i (P f) = (if f < 0 then f else itU Q i (Q f)) ∧ 0 ≤ (if f < 0 then f else itU Q i (Q f)) ∧ (if f < 0 then f else itU Q i (Q f)) < F
    rw [if_neg (by omega), e f f0 b]
    exact z
section STK7
variable {T : CT} {σ σ2 τ : MS} {a xa xb xc xd xe xf y : Nat} {C : Int → Nat} {k v v2 w u r : Int}
theorem of7 (hc : RCX T σ τ a xa xb xc xd xe xf (C r) r) {f : Int} (f0 : 0 ≤ f) (f1 : f < τ.2.1 14 r) : rwF σ 11 (C r) f = τ.2.1 15 (12 * r + f) := by
  have e := hc.2.1.1
  have eF : σ.2.1 10 (C r) = τ.2.1 14 r := congrArg RTS.F e
  have ei := congrFun (congrArg RTS.fo e) f
  have ei : (if 0 ≤ f ∧ f < σ.2.1 10 (C r) then rwF σ 11 (C r) f else 0) = (if 0 ≤ f ∧ f < τ.2.1 14 r then τ.2.1 15 (12 * r + f) else 0) := ei
  rw [if_pos ⟨f0, by omega⟩, if_pos ⟨f0, f1⟩] at ei
  exact ei
theorem nm7 (hc : RCX T σ τ a xa xb xc xd xe xf (C r) r) {f : Int} (f0 : 0 ≤ f) (f1 : f < τ.2.1 14 r) : rwF σ 14 (C r) f = τ.2.1 12 (τ.2.1 15 (12 * r + f)) := by
  have eF : σ.2.1 10 (C r) = τ.2.1 14 r := congrArg RTS.F hc.2.1.1
  have q := (hc.2.2.1.2.2 f f0 (by omega)).2
  rw [← q, of7 hc f0 f1]
theorem jFD_of {n : Int → Int} (hn : ∀ c, 0 ≤ c → c < τ.2.1 73 0 → n c = dch τ 0 c) (hk : k < dpt τ 0) : ∀ (t : Nat) (c l : Int), c + 1 = (t : Int) → c < τ.2.1 73 0 → 0 ≤ l → l = k - AB τ 0 c → ∃ c' l', jFD n t c l = (c', l') ∧ (0 ≤ c' ∧ c' < τ.2.1 73 0) ∧ l' = k - AB τ 0 c' ∧ 0 ≤ l' ∧ l' < dch τ 0 c' := by
  intro t
  induction t with
  | zero =>
    intro c l a b d e
    have q := AB.bot (σ := τ) (m := 0) (c := c) (by omega)
    omega
  | succ t ih =>
    intro c l a b d e
    have q := hn c (by omega) b
    show ∃ c' l', (if c < 0 then (-1, l) else if l < n c then (c, l) else jFD n t (c - 1) (l - n c)) = (c', l') ∧ _
    rw [if_neg (by omega)]
    by_cases z : l < n c
    · rw [if_pos z]; exact ⟨c, l, rfl, ⟨by omega, b⟩, e, d, by omega⟩
    · rw [if_neg z]
      have s := AB.nx (σ := τ) (m := 0) (c := c) (by omega)
      exact ih (c - 1) (l - n c) (by omega) (by omega) (by omega) (by omega)
/-- a frame is found -/
def FD7 (T : CT) (σ2 : MS) (a xa y : Nat) (C : Int → Nat) (τ : MS) (k : Int) : Prop := ∃ (c : Int) (i : Nat), (0 ≤ c ∧ c < τ.2.1 73 0) ∧ k = AB τ 0 c + i ∧ (i : Int) < dch τ 0 c ∧ σ2.2.1 70 a = c ∧ σ2.2.1 71 a = itU (pr τ 0 c) i (τ.2.1 80 c) ∧ (0 ≤ σ2.2.1 71 a ∧ σ2.2.1 71 a < τ.2.1 14 (τ.2.1 78 c)) ∧ jC σ2 y (jA T xa (σ2.2.1 70 a) σ2) = (C (τ.2.1 78 c) : Int)
theorem FD7.one {c f : Int} (h : FD7 T σ2 a xa y C τ k) (g : FNDS τ 0 k c f) : σ2.2.1 70 a = c ∧ σ2.2.1 71 a = f ∧ (0 ≤ c ∧ c < τ.2.1 73 0) ∧ (∃ i : Nat, itU (pr τ 0 c) i (τ.2.1 80 c) = f) ∧ (0 ≤ f ∧ f < τ.2.1 14 (τ.2.1 78 c)) ∧ jC σ2 y (jA T xa c σ2) = (C (τ.2.1 78 c) : Int) := by
  obtain ⟨c1, i, h1, h2, h3, h4, h5, h6, h7⟩ := h
  obtain ⟨g1, j, g2, g3, g4⟩ := g
  have q := fnd_one h2 (by omega) h3 g2 (by omega) g3 (by omega) (by omega)
  have ei : i = j := by omega
  obtain ⟨q, -⟩ := q
  subst q
  subst ei
  rw [h4] at h7
  rw [← g4] at h5
  rw [h5] at h6
  exact ⟨h4, h5, h1, ⟨i, g4.symm⟩, h6, h7⟩
theorem find7 (hx : RXC σ a xa xb xc xd xe C τ) (hw : RWF T σ a xa xb xc xd xe xf y C τ) (gd : GDA τ) (hr : RUN τ 0) (st : σ.2.1 56 a = 1 ∨ σ.2.1 56 a = 3) (ch : CHX [(70, a), (71, a)] [] [] σ σ2) (hj : JFN T σ a xa xc y k u σ2) : (u = 0 ∧ (k < 0 ∨ dpt τ 0 ≤ k)) ∨ (u = 1 ∧ (0 ≤ k ∧ k < dpt τ 0) ∧ FD7 T σ2 a xa y C τ k) := by
  have h73 := hx.1.1
  have h57 := hx.1.2
  have h58 := hx.2.1
  have l := hw.2.1
  have t6 := gd.1
  have rw0 : ∀ x : Nat, σ2.2.1 (1000 + x) = σ.2.1 (1000 + x) := fun x => ch.r (by simp)
  have hn : ∀ c, 0 ≤ c → c < τ.2.1 73 0 → jCV T σ xa xc y c = dch τ 0 c := fun c a b => (jCV.of hx hw gd hr a b).trans dch_dp.symm
  have ea : ∀ c, 0 ≤ c → c < τ.2.1 73 0 → jA T xa c σ = τ.2.1 78 c ∧ jC σ y (jA T xa c σ) = (C (τ.2.1 78 c) : Int) ∧ jA T xc c σ = τ.2.1 80 c := fun c c0 c1 => by
    have k := (hx.2.2.2 c c0 c1).1
    have rc := run_c hr c0 c1
    have e : jA T xa c σ = τ.2.1 78 c := by rw [jA_in (by omega)]; exact k.1
    refine ⟨e, ?_, by rw [jA_in (by omega)]; exact k.2.2⟩
    rw [e]
    unfold jC
    rw [if_pos (by omega)]
    exact hw.2.2.1.1 _ rc.1.1 (by omega)
  by_cases kk : 0 ≤ k ∧ k < dpt τ 0
  · have tp := AB.top (σ := τ) (m := 0) (c := σ.2.1 57 a) (by omega) (by omega)
    obtain ⟨c, l', e0, c0, e1, e2, e3⟩ := jFD_of (τ := τ) (n := jCV T σ xa xc y) hn kk.2 (σ.2.1 57 a + 1).toNat (σ.2.1 57 a) k (by omega) (by omega) kk.1 (by omega)
    have w := ea c c0.1 c0.2
    rcases hj with ⟨j1, j2⟩ | ⟨j1, -, -, c2, l2, cc, j4, j5, j6, j7, j8⟩
    · rw [e0] at j2
      rcases j2 with j2 | j2 | j2
      · omega
      · have j2 : c < 0 := j2
        omega
      · have j2 : jC σ y (jA T xa c σ) < 0 := j2
        omega
    · rw [e0] at j4
      have ec : c2 = c := (congrArg Prod.fst j4).symm
      have el : l2 = l' := (congrArg Prod.snd j4).symm
      subst ec
      subst el
      have rc := run_c hr c0.1 c0.2
      have hc := hw.2.2.2 _ rc.1.1 rc.1.2
      have gr := gd.2 _ rc.1.1 rc.1.2
      have F12 := gr.2.1.1
      have l12 := hc.2.2.2.2.1.2.1
      have ecc : cc = C (τ.2.1 78 c2) := by omega
      rw [w.2.2, ecc] at j8
      have de := RUN.dec hr (gd.bka (m := 0) (by decide)).2 t6.2 c2 (by omega) (by omega)
      have fn0 : fn τ 0 c2 = τ.2.1 14 (τ.2.1 78 c2) := if_neg (by decide)
      rw [fn0] at de
      have it := jU_it (P := fun f => jA T (adN σ 12 (C (τ.2.1 78 c2))) f σ) (Q := pr τ 0 c2) (F := τ.2.1 14 (τ.2.1 78 c2)) (by omega) de.2.2 (fun f f0 f1 => by
        show jA T (adN σ 12 (C (τ.2.1 78 c2))) f σ = _
        rw [jA_in (by omega)]
        exact (par7 hc f0 f1).trans (if_neg (by decide)).symm) l2.toNat (τ.2.1 80 c2) de.2.1.1 de.2.1.2.1 (by unfold dch at e3; omega)
      rw [it.1] at j8
      refine Or.inr ⟨j1, kk, c2, l2.toNat, c0, by omega, by omega, j6, j8, by rw [j8]; exact it.2, ?_⟩
      rw [j6]
      unfold jC
      rw [rw0, jA_cg (rw0 xa)]
      exact w.2.1
  · rcases hj with ⟨j1, -⟩ | ⟨j1, j2, -⟩
    · exact Or.inl ⟨j1, by omega⟩
    · omega
theorem stack7 (h : L7R σ a xa xb xc xd xe xf C τ) (hw : RWF T σ a xa xb xc xd xe xf y C τ) (gd : GDA τ) (hr : τ.1 67 ≠ 0 → τ.1 68 = 0 → RUN τ 0) (wt : WT T σ) (ob : ∀ r, 0 ≤ r → r < 6 → OB T (C r) 1) (ch : CHX [(70, a), (71, a)] [] [] σ σ2) (hc : JSK T σ a xa xc xd y k w v σ2) (hm : SKA τ k w v2) : v = v2 := by
  have no : ¬ (σ.2.1 56 a = 1 ∨ σ.2.1 56 a = 3) → (τ.1 67 = 0 ∨ τ.1 68 ≠ 0) → v = v2 := fun h1 h2 => by
    have e1 : v = -1 := by
      rcases hc with ⟨-, c⟩ | ⟨-, u, c1, c2⟩
      · exact c
      · rcases c2 with c2 | c2
        · exact c2.2
        · rcases c1 with c1 | c1
          · omega
          · exact absurd c1.2.2.1 h1
    rcases hm with m | m
    · rw [e1, m.1]
    · have := m.1; omega
  have go : (σ.2.1 56 a = 1 ∨ σ.2.1 56 a = 3) → τ.1 67 ≠ 0 → τ.1 68 = 0 → RXC σ a xa xb xc xd xe C τ → v = v2 := fun s5 t67 t68 rx => by
    have r := hr t67 t68
    rcases hc with ⟨c1, c2⟩ | ⟨c1, u, c2, c3⟩
    · rcases hm with m | ⟨-, c, f, -, m⟩
      · rw [c2, m.1]
      · rcases m with m | m | m | m
        · omega
        · omega
        · omega
        · rw [c2, m.2]
    · rcases find7 rx hw gd r s5 ch c2 with ⟨u0, nk⟩ | ⟨u1, kk, fd⟩
      · have e1 : v = -1 := by
          rcases c3 with c3 | c3
          · exact c3.2
          · omega
        rcases hm with m | ⟨-, c, f, fn, m⟩
        · rw [e1, m.1]
        · have k1 : 0 ≤ k ∧ k < dpt τ 0 := by
            obtain ⟨g1, j, g2, g3, -⟩ := fn
            have q := AB.nx (σ := τ) (m := 0) (c := c) (by omega)
            have b := AB.le (σ := τ) (m := 0) (c := c - 1) c.toNat (by omega)
            rw [show c - 1 - (c.toNat : Int) = -1 by omega, AB.bot (σ := τ) (m := 0) (c := -1) (by decide)] at b
            have tp := AB.top (σ := τ) (m := 0) (c := τ.2.1 73 0 - 1) (by omega) (by omega)
            have a := AB.le (σ := τ) (m := 0) (c := τ.2.1 73 0 - 1) (τ.2.1 73 0 - 1 - c).toNat (by omega)
            rw [show τ.2.1 73 0 - 1 - ((τ.2.1 73 0 - 1 - c).toNat : Int) = c by omega] at a
            omega
          omega
      · rcases hm with ⟨-, m⟩ | ⟨-, c, f, fn, m⟩
        · omega
        · obtain ⟨e70, e71, cc, ⟨i, hi⟩, ff, jc⟩ := fd.one fn
          have rc := run_c r cc.1 cc.2
          have t6 := gd.1
          have hcx := hw.2.2.2 _ rc.1.1 rc.1.2
          have F12 := (gd.2 _ rc.1.1 rc.1.2).2.1.1
          have oc := ob _ rc.1.1 (by omega)
          have rw0 : ∀ x : Nat, σ2.2.1 (1000 + x) = σ.2.1 (1000 + x) := fun x => ch.r (by simp)
          have fd0 : ∀ n : Nat, n < 70 → ∀ b : Nat, σ2.2.1 n (b : Int) = σ.2.1 n b := fun n hn b => ch.1 n b (by omega) (fun p hp e => by
            simp only [List.mem_cons, List.not_mem_nil, or_false] at hp
            rcases hp with rfl | rfl <;> (have e : (_ : Nat) = n := e; omega))
          have l := hw.2.1
          have jr : ∀ (n : Nat) (z x9 : Int), n < 70 → JFR T σ2 a xa y n z x9 → ∃ x : Nat, σ.2.1 n (C (τ.2.1 78 c)) = (x : Int) ∧ x9 = jA T x f σ := fun n z x9 hn q => by
            rcases q with q | ⟨c9, x, q1, q2, q3⟩
            · rw [e70] at q; omega
            · rw [e70] at q1
              have e9 : c9 = C (τ.2.1 78 c) := by omega
              rw [e9, fd0 n hn] at q2
              rw [e71, jA_cg (rw0 x)] at q3
              exact ⟨x, q2, q3⟩
          rcases c3 with c3 | ⟨-, c3⟩
          · omega
          · rcases c3 with ⟨w0, c3⟩ | ⟨w1, c3⟩ | ⟨w2, c3⟩
            · obtain ⟨x, x1, x2⟩ := jr 11 _ _ (by decide) c3
              have k11 := ex_at (wf_11 wt oc) x1
              have e := of7 hcx ff.1 ff.2
              unfold rwF at e
              rw [adN_of x1] at e
              rw [x2, jA_in (by have := k11.2; omega), e]
              rcases m with m | m | m | m
              · exact m.2.symm
              · omega
              · omega
              · omega
            · have hln := (rx.2.2.2 c cc.1 cc.2).2.2 f (by omega) ⟨ff.1, i, hi⟩
              rw [e70, e71, w32_id (show -2147483648 ≤ c * 12 ∧ c * 12 ≤ 2147483647 by have := r.1; omega), w32_id (by have := r.1; omega), jA_cg (rw0 xd), jA_in (by have := r.1; omega), hln] at c3
              rcases m with m | m | m | m
              · omega
              · rw [c3]; exact m.2.symm
              · omega
              · omega
            · obtain ⟨x, x1, x2⟩ := jr 14 _ _ (by decide) c3
              have k14 := ex_at (wf_14 wt oc) x1
              have e := nm7 hcx ff.1 ff.2
              unfold rwF at e
              rw [adN_of x1] at e
              rw [x2, jA_in (by have := k14.2; omega), e]
              rcases m with m | m | m | m
              · omega
              · omega
              · exact m.2.symm
              · omega
  rcases h with ⟨h1, h2⟩ | ⟨h1, -, -, h⟩
  · exact no (by omega) (Or.inl h2)
  · rcases h with ⟨h2, h3, h4, h5⟩ | ⟨h2, h3, h4, h5⟩ | ⟨h2, h3, -⟩
    · exact go (Or.inl h2) h1 h3 h5
    · exact go (Or.inr h2) h1 h3 h5
    · exact no (by omega) (Or.inr h3)
end STK7

