section
def mS8 (τ : MS) (q : Int) : RTS := (τ.2.1 9 (6 + q), rV τ (6 + q), 1, fun _ => q, fun _ => 0, fun _ => 0, fun _ m => m)
def pM8 (τ : MS) (q : Int) : Int := if 0 ≤ q ∧ q < 6 then τ.2.1 11 q else 0
def KPA (τ : MS) : Prop := ∀ r, 0 ≤ r → r < τ.1 10 → KP8 (rS τ r).V (rS τ r).n (hmS (rS τ r) (τ.2.1 12))
def BEA (τ : MS) : Prop := ∀ q W L, beh8 (gsT (τ.1 10) (mS8 τ)) (pM8 τ) q W L → beh8 (gsT (τ.1 10) (rS τ)) (pM8 τ) q W L
section BEAS
variable {τ τ2 : MS} {r q w v : Int}
theorem ch_1 {p : Int → Int} {F f : Int} (hp : ∀ f, 0 ≤ f → f < F → -1 ≤ p f ∧ p f < f) (f0 : 0 ≤ f) (f1 : f < F) (hF : F ≤ 12) : ch p 13 f = 1 + ch p 13 (p f) := by
  have e : ch p 13 f = if f = -1 then 0 else 1 + ch p 12 (p f) := rfl
  have z := hp f f0 f1
  rw [e, if_neg (by omega), ch_fuel hp 12 13 (p f) z.1 (by omega) (by omega) (by omega)]
theorem ch_n {p : Int → Int} : ch p 13 (-1) = 0 := rfl
theorem kd_rs {k : Int} (k0 : 0 ≤ k) (k1 : k < τ.2.1 9 r) : (rS τ r).V k 0 = τ.2.1 3 (220 * r + k) ∧ (rS τ r).V k 1 = τ.2.1 4 (220 * r + k) := by
  have e : (rS τ r).V k = rI τ (220 * r + k) := if_pos ⟨k0, k1⟩
  rw [e]; exact ⟨rfl, rfl⟩
theorem rw8_of (g : GDR τ r) (np : PAR τ) (r6 : 0 ≤ r ∧ r < 6) : RW8 (τ.2.1 12) (τ.2.1 11) r (rS τ r) := by
  obtain ⟨A, B, -⟩ := rg_rs g
  obtain ⟨e1, ⟨e2, e3⟩, e4⟩ := fo0_r g
  have lz := lz_rs g
  obtain ⟨n1, gF, -, -, lex, ⟨fr, lf, cw⟩, fri, -, pn⟩ := g
  obtain ⟨c1, c2, c3, c4, -⟩ := cw
  have pp := np r r6.1 r6.2
  have hp : ∀ f, 0 ≤ f → f < τ.2.1 14 r → -1 ≤ iF τ r f ∧ iF τ r f < f := fun f f0 f1 => by
    by_cases z : f = 0
    · rw [z]
      have : iF τ r 0 = -1 := fri.1
      rw [this]; omega
    · have w : 0 ≤ iF τ r f ∧ iF τ r f < f := fri.2 f (by omega) f1
      exact ⟨by omega, w.2⟩
  have f12 := gF.1.2
  have c1s : ∀ f, 0 ≤ f → f < τ.2.1 14 r → ch (iF τ r) 13 f = 1 + ch (iF τ r) 13 (iF τ r f) := fun f a b => ch_1 hp a b f12
  have z0 : ch (iF τ r) 13 0 = 1 := by
    rw [c1s 0 (Int.le_refl _) (by omega), show iF τ r 0 = -1 from fri.1, ch_n]; rfl
  refine ⟨⟨n1.1, by rw [e1]; omega⟩, ⟨A, B⟩, ⟨⟨pp.1, pp.2, pn⟩, e3, fun m a b => e4 m a (by omega)⟩, ⟨fun k => ch (iF τ r) 13 (fr k), ?_, fun j j0 j1 j7 => ?_, fun j t j0 j1 e => ?_⟩, fun j j0 j1 j7 j8 => ?_, fun j j0 j1 jk => ?_⟩
  · show ch (iF τ r) 13 (fr 0) = 1
    rw [c1]; exact z0
  · show ch (iF τ r) 13 (fr j) = 1
    have k := kd_rs (τ := τ) (r := r) j0 j1
    rw [k.1] at j7
    rw [(c4 j j0 j1).2 j7]; exact z0
  · show ch (iF τ r) 13 (fr t) = if (rS τ r).V j 0 = 14 then ch (iF τ r) 13 (fr j) + 1 else if (rS τ r).V j 0 = 15 then ch (iF τ r) 13 (fr j) - 1 else ch (iF τ r) 13 (fr j)
    have k := kd_rs (τ := τ) (r := r) j0 j1
    have fj := c2 j j0 j1
    rcases e with ⟨a, b⟩ | ⟨a, b⟩
    · rw [k.1] at a ⊢
      obtain ⟨d1, d2, d3, d4⟩ := c3 j j0 j1 (fun z => a (Or.inr z)) (fun z => a (Or.inl z))
      have ft := c2 (j + 1) (by omega) d1
      rw [b]
      by_cases k14 : τ.2.1 3 (220 * r + j) = 14
      · obtain ⟨u1, u2, u3⟩ := d2 k14
        rw [if_pos k14, u2, c1s _ (by omega) (by rw [← u2]; exact ft.2), u1]
        omega
      · rw [if_neg k14]
        by_cases k15 : τ.2.1 3 (220 * r + j) = 15
        · obtain ⟨u1, u2, u3⟩ := d3 k15
          rw [if_pos k15, u3, c1s (fr j) fj.1 fj.2, ← u1]
          omega
        · rw [if_neg k15, d4 k14 k15]
    · obtain ⟨b0, b1, b2, b3⟩ := b
      have kt := kd_rs (τ := τ) (r := r) b0 b1
      rw [kt.1] at b2
      rw [kt.2, k.2] at b3
      rw [k.1] at a ⊢
      have h1 := (c4 j j0 j1).1 (by rcases a with z | z; exact Or.inl z; exact Or.inr (Or.inl z))
      have h2 := (c4 t b0 b1).1 (Or.inr (Or.inr b2))
      have eq : fr t = fr j := by rw [← h1, ← h2]; exact congrArg lf b3
      rw [if_neg (by omega), if_neg (by omega), eq]
  · have k := kd_rs (τ := τ) (r := r) j0 j1
    rw [k.1] at j7 j8
    exact (c3 j j0 j1 j7 j8).1
  · by_cases z : (rS τ r).V j 0 = 13
    · exact lz j j0 j1 z
    · have k := kd_rs (τ := τ) (r := r) j0 j1
      obtain ⟨l, l0, l1, l2, l3⟩ := lex j j0 j1 (by rw [k.1] at jk z; omega)
      have kl := kd_rs (τ := τ) (r := r) l0 l1
      have w := lz l l0 l1 (by rw [kl.1]; exact l2)
      rw [kl.2, l3, ← k.2] at w
      exact w
theorem gs_uz {Cn : Int} {G : Int → RTS} (hr : 0 ≤ r ∧ r < Cn) : uZ (gsT Cn G) r (G r) = gsT Cn G := by
  funext i
  by_cases c : i = r
  · rw [c, uZ_eq, gsT_y hr]
  · rw [uZ_ne c]
theorem KPA.pass (h : KPA τ) (b : BEA τ) (g : GDA τ) (np : PAR τ) (un : UNA τ) (cl : ∀ q, 0 ≤ q → q < τ.1 10 → CLQ (rV τ q) (τ.2.1 9 q) (τ.1 10)) (q : PSQ τ τ2 w r v) (e10 : τ2.1 10 = τ.1 10) (e11 : τ2.2.1 11 = τ.2.1 11) (e12 : τ2.2.1 12 = τ.2.1 12) (em : ∀ q, 0 ≤ q → q < τ.1 10 → mS8 τ2 q = mS8 τ q) : KPA τ2 ∧ BEA τ2 := by
  have g6 := g.1
  have pm : pM8 τ2 = pM8 τ := by funext i; unfold pM8; rw [e11]
  have gm : gsT (τ.1 10) (mS8 τ2) = gsT (τ.1 10) (mS8 τ) := by
    funext i
    unfold gsT
    by_cases c : 0 ≤ i ∧ i < τ.1 10
    · rw [if_pos c, if_pos c, em i c.1 c.2]
    · rw [if_neg c, if_neg c]
  -- where the codes are the same
  have same : (∀ j, 0 ≤ j → j < τ.1 10 → rS τ2 j = rS τ j) → KPA τ2 ∧ BEA τ2 := fun e => by
    refine ⟨fun j j0 j1 => ?_, ?_⟩
    · rw [e10] at j1
      rw [e j j0 j1, e12]; exact h j j0 j1
    · have gr : gsT (τ.1 10) (rS τ2) = gsT (τ.1 10) (rS τ) := by
        funext i
        unfold gsT
        by_cases c : 0 ≤ i ∧ i < τ.1 10
        · rw [if_pos c, if_pos c, e i c.1 c.2]
        · rw [if_neg c, if_neg c]
      unfold BEA
      rw [e10, pm, gm, gr]; exact b
  rcases q with ⟨-, -, e⟩ | ⟨m1, px, po⟩
  · exact same (fun j _ _ => e j)
  · have r0 := m1.2.2.1
    have r1 := m1.2.2.2
    have hz : ∀ q, 0 ≤ q → q < τ.1 10 → 0 ≤ (rS τ q).n ∧ UNQ (rS τ q).V (rS τ q).n ∧ LZ (rS τ q).V (rS τ q).n := fun q a b => ⟨by have := (g.2 q a b).1.1; exact Int.le_trans (by decide) this, un q a b, lz_rs (g.2 q a b)⟩
    have px2 := px.cong (Gt := gsT (τ.1 10) (rS τ)) (un r r0 r1) (cl r r0 r1) hz (fun q a b => (gsT_y ⟨a, b⟩).symm)
    have ey : gsT (τ.1 10) (rS τ) r = rS τ r := gsT_y ⟨r0, r1⟩
    have hw : ∀ q, 0 ≤ q → q < τ.1 10 → RW8 (τ.2.1 12) (τ.2.1 11) q (gsT (τ.1 10) (rS τ) q) ∧ KP8 (gsT (τ.1 10) (rS τ) q).V (gsT (τ.1 10) (rS τ) q).n (hmS (gsT (τ.1 10) (rS τ) q) (τ.2.1 12)) := fun q a b => by
      rw [gsT_y ⟨a, b⟩]
      exact ⟨rw8_of (g.2 q a b) np ⟨a, by omega⟩, h q a b⟩
    have hu : ∀ q, 0 ≤ q → q < τ.1 10 → UNQ (gsT (τ.1 10) (rS τ) q).V (gsT (τ.1 10) (rS τ) q).n := fun q a b => by rw [gsT_y ⟨a, b⟩]; exact un q a b
    have hP : ∀ q, pM8 τ q ≤ 4 := fun q => by
      unfold pM8
      by_cases c : 0 ≤ q ∧ q < 6
      · rw [if_pos c]; exact (np q c.1 c.2).2
      · rw [if_neg c]; decide
    have hV : ∀ q, 0 ≤ q → q < τ.1 10 → pM8 τ q = τ.2.1 11 q := fun q a b => if_pos ⟨a, by omega⟩
    have main := TRG.psv (Gs := gsT (τ.1 10) (rS τ)) (PM := pM8 τ) (C := τ.1 10) (r := r) hP hV (by rw [ey]; exact px2) ⟨r0, r1⟩ (hu r r0 r1) (by rw [ey]; exact cl r r0 r1) hu hw
    obtain ⟨m2, m3⟩ := main
    have gr : uZ (gsT (τ.1 10) (rS τ)) r (rS τ2 r) = gsT (τ.1 10) (rS τ2) := by
      funext i
      by_cases c : i = r
      · rw [c, uZ_eq, gsT_y ⟨r0, r1⟩]
      · rw [uZ_ne c]
        unfold gsT
        by_cases d : 0 ≤ i ∧ i < τ.1 10
        · rw [if_pos d, if_pos d, po i d.1 d.2 c]
        · rw [if_neg d, if_neg d]
    refine ⟨fun j j0 j1 => ?_, fun q W L z => ?_⟩
    · rw [e10] at j1
      rw [e12]
      by_cases c : j = r
      · rw [c]; exact m3
      · rw [po j j0 j1 c]; exact h j j0 j1
    · rw [e10, pm, gm] at z
      rw [e10, pm]
      have z2 := b q W L z
      have z3 := m2 q W L (by rw [ey, gs_uz ⟨r0, r1⟩]; exact z2)
      rw [gr] at z3
      exact z3
end BEAS
section DET8
variable {Gs : Int → RTS} {PM : Int → Int} {H : RTS} {k k2 k3 d d2 d3 : Int} {R R2 R3 : G8} {e e2 : E8} {s s1 s2 s3 : List F8} {L L2 : List E8}
theorem tg_det (u : UNQ H.V H.n) (h : TGv H.V H.n k k2) (g : TGv H.V H.n k k3) : k2 = k3 := u k2 k3 h.1 h.2.1 g.1 g.2.1 h.2.2.1 g.2.2.1 (h.2.2.2.trans g.2.2.2.symm)
theorem ist_det (u : UNQ H.V H.n) (h : ist H k R d e k2 R2 d2) (g : ist H k R d e2 k3 R3 d3) : e = e2 ∧ k2 = k3 ∧ R2 = R3 ∧ d2 = d3 := by
  obtain ⟨-, h⟩ := h
  obtain ⟨-, g⟩ := g
  rcases h with ⟨a, h1, h2, h3, h4⟩ | ⟨a, h1, h2, h3, h4⟩ | ⟨a, h1, h2, h3, h4⟩ | ⟨a, h1, h2, h3, h4⟩ | ⟨a, h1, h2, h3, h4⟩ | ⟨a, a2, h1, h2, h3, h4⟩ | ⟨a, h1, h2, h3, h4⟩
  · rcases g with ⟨b, g1, g2, g3, g4⟩ | ⟨b, -⟩ | ⟨b, -⟩ | ⟨b, -⟩ | ⟨b, -⟩ | ⟨b, -⟩ | ⟨b, -⟩
    · rw [h1, h2, h3, h4, g1, g2, g3, g4]; exact ⟨rfl, rfl, rfl, rfl⟩
    all_goals omega
  · rcases g with ⟨b, -⟩ | ⟨b, g1, g2, g3, g4⟩ | ⟨b, -⟩ | ⟨b, -⟩ | ⟨b, -⟩ | ⟨b, -⟩ | ⟨b, -⟩
    · omega
    · rw [h1, h2, h3, h4, g1, g2, g3, g4]; exact ⟨rfl, rfl, rfl, rfl⟩
    all_goals omega
  · rcases g with ⟨b, -⟩ | ⟨b, -⟩ | ⟨b, g1, g2, g3, g4⟩ | ⟨b, -⟩ | ⟨b, -⟩ | ⟨b, -⟩ | ⟨b, -⟩
    · omega
    · omega
    · rw [h1, h3, h4, g1, g3, g4]; exact ⟨rfl, tg_det u h2 g2, rfl, rfl⟩
    all_goals omega
  · rcases g with ⟨b, -⟩ | ⟨b, -⟩ | ⟨b, -⟩ | ⟨b, g1, g2, g3, g4⟩ | ⟨b, -⟩ | ⟨b, -⟩ | ⟨b, -⟩
    · omega
    · omega
    · omega
    · rw [h1, h2, h3, h4, g1, g2, g3, g4]; exact ⟨rfl, rfl, rfl, rfl⟩
    all_goals omega
  · rcases g with ⟨b, -⟩ | ⟨b, -⟩ | ⟨b, -⟩ | ⟨b, -⟩ | ⟨b, g1, g2, g3, g4⟩ | ⟨b, -⟩ | ⟨b, -⟩
    · omega
    · omega
    · omega
    · omega
    · rw [h1, h2, h3, h4, g1, g2, g3, g4]; exact ⟨rfl, rfl, rfl, rfl⟩
    all_goals omega
  · rcases g with ⟨b, -⟩ | ⟨b, -⟩ | ⟨b, -⟩ | ⟨b, -⟩ | ⟨b, -⟩ | ⟨b, -, g1, g2, g3, g4⟩ | ⟨b, -⟩
    · omega
    · omega
    · omega
    · omega
    · omega
    · rw [h1, h2, h3, h4, g1, g2, g3, g4]; exact ⟨rfl, rfl, rfl, rfl⟩
    · omega
  · rcases g with ⟨b, -⟩ | ⟨b, -⟩ | ⟨b, -⟩ | ⟨b, -⟩ | ⟨b, -⟩ | ⟨b, -⟩ | ⟨b, g1, g2, g3, g4⟩
    · omega
    · omega
    · omega
    · omega
    · omega
    · omega
    · rw [h1, h2, h3, h4, g1, g2, g3, g4]; exact ⟨rfl, rfl, rfl, rfl⟩
theorem ist_no (h : ist H k R d e k2 R2 d2) : H.V k 0 ≠ 10 ∧ H.V k 0 ≠ 7 ∧ ¬ (H.V k 0 = 14 ∧ 9 ≤ d) := by
  obtain ⟨-, h⟩ := h
  rcases h with ⟨a, -⟩ | ⟨a, -⟩ | ⟨a, -⟩ | ⟨a, -⟩ | ⟨a, -⟩ | ⟨a, b, -⟩ | ⟨a, -⟩ <;> omega
theorem stp_det (u : ∀ q, UNQ (Gs q).V (Gs q).n) (h : stp8 Gs PM s e s2) (g : stp8 Gs PM s e2 s3) : e = e2 ∧ s2 = s3 := by
  obtain ⟨r, k, R, d, rest, es, h⟩ := h
  obtain ⟨r', k', R', d', rest', es', g⟩ := g
  rw [es] at es'
  simp only [List.cons.injEq, Prod.mk.injEq] at es'
  obtain ⟨⟨rfl, rfl, rfl, rfl⟩, rfl⟩ := es'
  rcases h with ⟨k2, R2, d2, hi, rfl⟩ | ⟨hb, h⟩
  · have no := ist_no hi
    rcases g with ⟨k3, R3, d3, gi, rfl⟩ | ⟨gb, g⟩
    · obtain ⟨e1, e2, e3, e4⟩ := ist_det (u r) hi gi
      exact ⟨e1, by rw [e2, e3, e4]⟩
    · exfalso
      rcases g with ⟨a, -⟩ | ⟨a, b, -⟩ | ⟨a, -⟩
      · exact no.1 a
      · rcases a with a | a
        · exact no.1 a
        · exact no.2.2 ⟨a, b⟩
      · exact no.2.1 a
  · rcases g with ⟨k3, R3, d3, gi, rfl⟩ | ⟨gb, g⟩
    · exfalso
      have no := ist_no gi
      rcases h with ⟨a, -⟩ | ⟨a, b, -⟩ | ⟨a, -⟩
      · exact no.1 a
      · rcases a with a | a
        · exact no.1 a
        · exact no.2.2 ⟨a, b⟩
      · exact no.2.1 a
    · rcases h with ⟨a, a2, a3, a4⟩ | ⟨a, a2, a3, a4⟩ | ⟨a, h⟩
      · rcases g with ⟨b, b2, b3, b4⟩ | ⟨b, b2, -⟩ | ⟨b, -⟩
        · exact ⟨a3.trans b3.symm, a4.trans b4.symm⟩
        · omega
        · omega
      · rcases g with ⟨b, b2, -⟩ | ⟨b, b2, b3, b4⟩ | ⟨b, -⟩
        · omega
        · exact ⟨a3.trans b3.symm, a4.trans b4.symm⟩
        · omega
      · rcases g with ⟨b, -⟩ | ⟨b, -⟩ | ⟨b, g⟩
        · omega
        · omega
        · rcases h with ⟨h1, h2, h3⟩ | ⟨r1, k1, R1, d1, t1, h1, h2, h3⟩
          · rcases g with ⟨g1, g2, g3⟩ | ⟨r2, k2, R2, d2, t2, g1, g2, g3⟩
            · exact ⟨h2.trans g2.symm, h3.trans g3.symm⟩
            · rw [h1] at g1; exact absurd g1 (by simp)
          · rcases g with ⟨g1, g2, g3⟩ | ⟨r2, k2, R2, d2, t2, g1, g2, g3⟩
            · rw [h1] at g1; exact absurd g1 (by simp)
            · rw [h1] at g1
              simp only [List.cons.injEq, Prod.mk.injEq] at g1
              obtain ⟨⟨rfl, rfl, rfl, rfl⟩, rfl⟩ := g1
              exact ⟨h2.trans g2.symm, h3.trans g3.symm⟩
theorem run_det (u : ∀ q, UNQ (Gs q).V (Gs q).n) {m n : Nat} (h : run8 Gs PM m s L s1) (g : run8 Gs PM (m + n) s L2 s2) : ∃ L3, L2 = L ++ L3 ∧ run8 Gs PM n s1 L3 s2 := by
  induction m generalizing s L L2 with
  | zero =>
    obtain ⟨e1, e2⟩ := h
    rw [Nat.zero_add] at g
    exact ⟨L2, by rw [e1]; rfl, by rw [e2]; exact g⟩
  | succ m ih =>
    rw [show m + 1 + n = m + n + 1 by omega] at g
    obtain ⟨e, x, L1, h1, h2, h3⟩ := h
    obtain ⟨e2, y, L4, g1, g2, g3⟩ := g
    obtain ⟨q1, q2⟩ := stp_det u h1 g1
    rw [← q2] at g2
    obtain ⟨L3, z1, z2⟩ := ih h2 g2
    exact ⟨L3, by rw [g3, h3, z1, q1, List.append_assoc], z2⟩
end DET8
end
