section
section KNV8
variable {S S2 : Nat → Prop} {T T2 : CT} {σ σ1 σ2 τ : MS} {a rn tl xa xb xc xd xe xf y : Nat} {C E M : Int → Nat} {Cn k m v v2 u : Int}
def FND8 (T : CT) (σ1 : MS) (rn xa xb y : Nat) (C : Int → Nat) (τ : MS) (k cc f : Int) : Prop := ((0 ≤ cc ∧ cc < τ.2.1 73 0) ∧ FNDS τ 0 k cc f) ∧ (σ1.2.1 70 rn = cc ∧ σ1.2.1 71 rn = f ∧ 0 ≤ f ∧ f < τ.2.1 14 (τ.2.1 78 cc)) ∧ (jA T xa cc σ1 = τ.2.1 78 cc ∧ jA T xb cc σ1 = τ.2.1 79 cc) ∧ jC σ1 y (τ.2.1 78 cc) = (C (τ.2.1 78 cc) : Int)
theorem on8 (h : L7R σ rn xa xb xc xd xe xf C τ) (h7 : τ.1 67 ≠ 0 → τ.1 68 = 0 → RUN τ 0) (s5 : σ.2.1 56 rn = 1 ∨ σ.2.1 56 rn = 3) : (τ.1 67 ≠ 0 ∧ τ.1 68 = 0) ∧ RXC σ rn xa xb xc xd xe C τ ∧ RUN τ 0 := by
  rcases h with ⟨h1, h2⟩ | ⟨h1, -, -, h⟩
  · omega
  · rcases h with ⟨h2, h3, h4, h5⟩ | ⟨h2, h3, h4, h5⟩ | ⟨h2, h3, -⟩
    · exact ⟨⟨h1, h3⟩, h5, h7 h1 h3⟩
    · exact ⟨⟨h1, h3⟩, h5, h7 h1 h3⟩
    · omega
theorem off8 (h : L7R σ rn xa xb xc xd xe xf C τ) (s5 : ¬ (σ.2.1 56 rn = 1 ∨ σ.2.1 56 rn = 3)) : τ.1 67 = 0 ∨ τ.1 68 ≠ 0 := by
  rcases h with ⟨h1, h2⟩ | ⟨h1, -, -, h⟩
  · exact Or.inl h2
  · rcases h with ⟨h2, h3, h4, h5⟩ | ⟨h2, h3, h4, h5⟩ | ⟨h2, h3, -⟩
    · exact absurd (Or.inl h2) s5
    · exact absurd (Or.inr h2) s5
    · exact Or.inr h3
theorem found8 (hx : L7R σ rn xa xb xc xd xe xf C τ) (hwf : RWF T σ rn xa xb xc xd xe xf y C τ) (gd : GDA τ) (h7 : τ.1 67 ≠ 0 → τ.1 68 = 0 → RUN τ 0) (ch : CHX [(70, rn), (71, rn)] [] [] σ σ1) (hj : JFN T σ rn xa xc y k 1 σ1) : ∃ cc f, FND8 T σ1 rn xa xb y C τ k cc f ∧ (τ.1 67 ≠ 0 ∧ τ.1 68 = 0) ∧ RXC σ rn xa xb xc xd xe C τ ∧ RUN τ 0 ∧ (0 ≤ k ∧ k < dpt τ 0) := by
  have s5 : σ.2.1 56 rn = 1 ∨ σ.2.1 56 rn = 3 := by
    rcases hj with ⟨e, -⟩ | ⟨-, -, s5, -⟩
    · omega
    · exact s5
  obtain ⟨on, rx, ru⟩ := on8 hx h7 s5
  rcases find7 rx hwf gd ru s5 ch hj with ⟨u0, -⟩ | ⟨-, kk, cc, i, c1, c2, c3, c4, c5, c6, c7⟩
  · omega
  · have rc := run_c ru c1.1 c1.2
    have l := hwf.2.1
    have t9 := ru.1
    have ra : jA T xa cc σ1 = τ.2.1 78 cc := by
      rw [jA_cg (σ := σ) (ch.r (by simp)), jA_in (by omega)]
      exact (rx.2.2.2 cc c1.1 c1.2).1.1
    have rb : jA T xb cc σ1 = τ.2.1 79 cc := by
      rw [jA_cg (σ := σ) (ch.r (by simp)), jA_in (by omega)]
      exact (rx.2.2.2 cc c1.1 c1.2).1.2.1
    rw [c4, ra] at c7
    exact ⟨cc, σ1.2.1 71 rn, ⟨⟨c1, ⟨by omega, by omega⟩, i, c2, c3, c5⟩, ⟨c4, rfl, c6⟩, ⟨ra, rb⟩, c7⟩, on, rx, ru, kk⟩
theorem rft_ro {c : Nat} {r : Int} {xb9 xs9 xf9 x : Nat} (hw : WT T σ1) (q : RFT T T2 σ1 σ2 tl c r xs9 xb9 xf9) (hr : 0 ≤ r ∧ r < 6) (kx : (T x).1 ≠ 0 ∧ (T x).1 < 80) (n1 : x ≠ xb9 ∧ x ≠ xs9 ∧ x ≠ xf9) (n2 : ∀ t : Nat, σ1.2.1 900 r = (t : Int) → x ≠ t) : σ2.2.1 (1000 + x) = σ1.2.1 (1000 + x) := by
  rcases q with ⟨-, q1, -⟩ | ⟨-, t, ht, -, ch, -⟩
  · rw [q1]
  · refine ch.r kx (fun m => ?_)
    simp only [List.mem_cons, List.not_mem_nil, or_false] at m
    rcases m with m | m | m | m
    · rcases ht with w | w
      · exact n2 t w m
      · rw [← m] at w; exact kx.1 w
    · exact n1.2.1 m
    · exact n1.1 m
    · exact n1.2.2 m
theorem rft_f {c : Nat} {r : Int} {xb9 xs9 xf9 : Nat} (q : RFT T T2 σ1 σ2 tl c r xs9 xb9 xf9) (n : Nat) (hn : n < 900 ∧ n ≠ 92 ∧ n ≠ 93 ∧ n ≠ 94) (b : Nat) : σ2.2.1 n (b : Int) = σ1.2.1 n b := by
  rcases q with ⟨-, q1, -⟩ | ⟨-, t, ht, -, ch, -⟩
  · rw [q1]
  · exact ch.f (by omega) (by simp only [List.mem_cons, List.not_mem_nil, or_false, Prod.mk.injEq]; omega)
theorem tel8 (hT : TGK S T σ1 a C Cn) (hb : BSQ S T σ1 a) (hw : WT T σ1) (oa : OB T a 11) (eC : Cn = τ.1 10) (gt : GT T T2) (hw2 : WT T2 σ2) (sr : S rn) (kr : (T rn).1 = 37) (e102 : σ1.2.1 102 a = (tl : Int)) (e99 : σ1.2.1 99 a = (y : Int)) (hxa : xa = adN σ1 59 rn) (hxb : xb = adN σ1 60 rn) {cc f : Int} (hf : FND8 T σ1 rn xa xb y C τ k cc f) (rq : 0 ≤ τ.2.1 78 cc ∧ τ.2.1 78 cc < τ.1 10) (q : RFT T T2 σ1 σ2 tl (C (τ.2.1 78 cc)) (τ.2.1 78 cc) (adN σ1 91 tl) (adN σ1 90 tl) (adN σ1 89 tl)) : (TGK S T2 σ2 a C Cn ∧ (∀ j, 0 ≤ j → j < Cn → CSM σ1 σ2 (C j))) ∧ (σ2.2.1 70 rn = cc ∧ σ2.2.1 71 rn = f) ∧ (jA T2 xa cc σ2 = τ.2.1 78 cc ∧ jA T2 xb cc σ2 = τ.2.1 79 cc ∧ jC σ2 y (τ.2.1 78 cc) = (C (τ.2.1 78 cc) : Int)) ∧ ∃ t : Nat, σ2.2.1 900 (τ.2.1 78 cc) = (t : Int) ∧ TKC σ2 (C (τ.2.1 78 cc)) (σ2.2.1 (1000 + t)) ∧ (σ2.2.1 6 (C (τ.2.1 78 cc)) + 1) * slF (rwF σ2 14 (C (τ.2.1 78 cc))) (σ2.2.1 10 (C (τ.2.1 78 cc))) ≤ ((T2 t).2 : Int) := by
  have c6 := hT.2.1
  have ot : OB T tl 10 := by have z := (KEM.xs hw oa).2.2.2.2; rw [adN_of e102] at z; exact z
  have or : OB T rn 7 := ⟨by omega, by rw [kr]; rfl, by omega⟩
  have st : S tl := by have z := hb.2.2.1; rw [adN_of e102] at z; exact z
  have k90 := (ad_ex (Q := fun x => AR T x 1 200 200) (wf_90 hw ot)).1
  have k91 := (ad_ex (Q := fun x => AR T x 1 145 145) (wf_91 hw ot)).1
  have k89 := (ad_ex (Q := fun x => AR T x 1 6 6) (wf_89 hw ot)).1
  have w := hT.rf hb hw hw2 oa gt e102 ot k90 k91 k89 q rfl ⟨rq.1, by omega⟩
  have f7 := rft_f q
  have row : ∀ g, g ∈ RN59 → σ2.2.1 (1000 + adN σ1 g rn) = σ1.2.1 (1000 + adN σ1 g rn) := fun g hg => by
    obtain ⟨-, fa, fc⟩ := rn_lt hg
    have ob : OB T rn (cls g) := by rw [fc]; exact or
    have nt : ∀ h, h ∈ [89, 90, 91] → adN σ1 g rn ≠ adN σ1 h tl := fun h hh => by
      have ha : h ∈ AFL ∧ cls h = 10 := by
        simp only [List.mem_cons, List.not_mem_nil, or_false] at hh
        rcases hh with rfl | rfl | rfl <;> exact ⟨by decide, rfl⟩
      exact hb.1.ne sr st ob (by rw [ha.2]; exact ot) fa ha.1 (Or.inl (by
        have := (rn_lt hg).1
        simp only [List.mem_cons, List.not_mem_nil, or_false] at hh
        omega))
    exact rft_ro hw q ⟨rq.1, by omega⟩ (afk_t hw fa ob) ⟨nt 90 (by decide), nt 91 (by decide), nt 89 (by decide)⟩ (fun t ht e => hb.2.1 _ t rq.1 (by omega) ht g rn fa sr ob e.symm)
  have ky := (KEM.xs hw oa).2.2.1
  rw [adN_of e99] at ky
  have t0 := (ar_of (wf_90 hw ot) k90).1
  have t1 := (ar_of (wf_91 hw ot) k91).1
  have t2 := (ar_of (wf_89 hw ot) k89).1
  have ry : σ2.2.1 (1000 + y) = σ1.2.1 (1000 + y) := rft_ro hw q ⟨rq.1, by omega⟩ (by omega) ⟨fun e => by rw [e] at ky; omega, fun e => by rw [e] at ky; omega, fun e => by rw [e] at ky; omega⟩ (fun t ht e => by
    have z := tab_k hw rq.1 (by omega) ht
    rw [e] at ky
    omega)
  have T2r : ∀ g, g ∈ RN59 → T2 (adN σ1 g rn) = T (adN σ1 g rn) := fun g hg => by
    obtain ⟨-, fa, fc⟩ := rn_lt hg
    have z := afk_t hw fa (show OB T rn (cls g) by rw [fc]; exact or)
    exact gt _ z.1 z.2
  have ja : ∀ g, g ∈ RN59 → jA T2 (adN σ1 g rn) cc σ2 = jA T (adN σ1 g rn) cc σ1 := fun g hg => by
    unfold jA
    rw [T2r g hg, row g hg]
  obtain ⟨-, ⟨h70, h71, -⟩, ⟨ha, hb2⟩, hc⟩ := hf
  refine ⟨⟨w.1, w.2.1⟩, ⟨(f7 70 (by decide) rn).trans h70, (f7 71 (by decide) rn).trans h71⟩, ⟨by rw [hxa, ja 59 (by decide), ← hxa]; exact ha, by rw [hxb, ja 60 (by decide), ← hxb]; exact hb2, ?_⟩, ?_⟩
  · unfold jC at hc ⊢
    rw [ry]; exact hc
  · have e2 : adN σ2 102 a = tl := by unfold adN; rw [f7 102 (by decide) a, e102]; rfl
    have g := w.1.1.1
    rw [e2] at g
    exact g _ rq.1 (by omega) w.2.2
theorem jid8 {c : Nat} {q kk f wd fm : Int} {t : Nat} (e70 : σ2.2.1 70 rn = u) (e71 : σ2.2.1 71 rn = f) (ra : jA T2 xa u σ2 = q) (rb : jA T2 xb u σ2 = kk) (q6 : 0 ≤ q ∧ q < 6) (ht : σ2.2.1 900 q = (t : Int)) (hwd : wd = slF (rwF σ2 14 c) (σ2.2.1 10 c)) (hfm : fm = slF (rwF σ2 14 c) f) (hl : 0 ≤ kk * wd + (fm + m) ∧ kk * wd + (fm + m) < ((T2 t).2 : Int)) : jID T2 σ2 rn xa xb c m = if σ2.2.1 (1000 + t) (kk * wd + (fm + m)) = 0 then 1 else σ2.2.1 (1000 + t) (kk * wd + (fm + m)) := by
  unfold jID jI
  rw [e70, e71, ra, rb, ← hwd, ← hfm, if_pos ⟨q6, by omega⟩, show (σ2.2.1 900 q).toNat = t by omega, show kk * wd + fm + m = kk * wd + (fm + m) by omega, jA_in hl]
theorem rw_in8 {kk n wd x : Int} (h : kk ≤ n) (w0 : 0 ≤ wd) (k0 : 0 ≤ kk) (x0 : 0 ≤ x) (x1 : x < wd) : 0 ≤ kk * wd + x ∧ kk * wd + x < (n + 1) * wd := by
  have a : kk * wd ≤ n * wd := Int.mul_le_mul_of_nonneg_right h w0
  have b : 0 ≤ kk * wd := Int.mul_nonneg k0 w0
  rw [Int.add_mul, Int.one_mul]
  omega
theorem fnds_lt {c f : Int} (ru : RUN τ 0) (h : FNDS τ 0 k c f) : 0 ≤ k ∧ k < dpt τ 0 := by
  obtain ⟨g1, j, g2, g3, -⟩ := h
  have t9 := ru.1
  have q := AB.nx (σ := τ) (m := 0) (c := c) (by omega)
  have b := AB.le (σ := τ) (m := 0) (c := c - 1) c.toNat (by omega)
  rw [show c - 1 - (c.toNat : Int) = -1 by omega, AB.bot (σ := τ) (m := 0) (c := -1) (by decide)] at b
  have tp := AB.top (σ := τ) (m := 0) (c := τ.2.1 73 0 - 1) (by omega) (by omega)
  have a := AB.le (σ := τ) (m := 0) (c := τ.2.1 73 0 - 1) (τ.2.1 73 0 - 1 - c).toNat (by omega)
  rw [show τ.2.1 73 0 - 1 - ((τ.2.1 73 0 - 1 - c).toNat : Int) = c by omega] at a
  omega
theorem fnds_one {c f c2 f2 : Int} (h : FNDS τ 0 k c f) (g : FNDS τ 0 k c2 f2) : c = c2 ∧ f = f2 := by
  obtain ⟨h1, i, h2, h3, h4⟩ := h
  obtain ⟨g1, j, g2, g3, g4⟩ := g
  have q := fnd_one h2 (by omega) h3 g2 (by omega) g3 (by omega) (by omega)
  have ei : i = j := by omega
  obtain ⟨q, -⟩ := q
  subst q
  subst ei
  exact ⟨rfl, h4.trans g4.symm⟩
theorem eH8 {q i : Int} (hc : RCX T σ1 τ rn xa xb xc xd xe xf (C q) q) (g : GDR τ q) (i0 : 0 ≤ i) (i1 : i < τ.2.1 12 q) : rwF σ1 15 (C q) i = τ.2.1 18 (144 * q + i) := by
  have e := hc.2.1.1
  have eF : σ1.2.1 10 (C q) = τ.2.1 14 q := congrArg (fun H : RTS => H.2.2.1) e
  have F1 := g.2.1.1
  have f0 : τ.2.1 15 (12 * q + 0) = q := g.2.2.2.1
  have n0 := nm7 hc (f := 0) (Int.le_refl _) (by omega)
  rw [f0] at n0
  have z := congrFun (congrFun (congrArg (fun H : RTS => H.2.2.2.2.2.2) e) 0) i
  have z : (if ((0 : Int) ≤ 0 ∧ (0 : Int) < σ1.2.1 10 (C q)) ∧ 0 ≤ i ∧ i < rwF σ1 14 (C q) 0 then rwF σ1 15 (C q) (12 * 0 + i) else 0) = (if ((0 : Int) ≤ 0 ∧ (0 : Int) < τ.2.1 14 q) ∧ 0 ≤ i ∧ i < τ.2.1 12 (τ.2.1 15 (12 * q + 0)) then τ.2.1 18 (144 * q + 12 * 0 + i) else 0) := z
  rw [if_pos ⟨⟨Int.le_refl _, by omega⟩, i0, by omega⟩, if_pos ⟨⟨Int.le_refl _, by omega⟩, i0, by rw [f0]; exact i1⟩, show 12 * 0 + i = i by omega, show 144 * q + 12 * 0 + i = 144 * q + i by omega] at z
  exact z
theorem kvh8 (hT : TGK S T σ a C Cn) (hb : BSQ S T σ a) (hw : WT T σ) (oa : OB T a 11) (eC : Cn = τ.1 10) (gd : GDA τ) (hx : L7R σ rn (adN σ 59 rn) (adN σ 60 rn) (adN σ 61 rn) xd xe xf C τ) (hwf : RWF T σ rn (adN σ 59 rn) (adN σ 60 rn) (adN σ 61 rn) xd xe xf y C τ) (h7 : τ.1 67 ≠ 0 → τ.1 68 = 0 → RUN τ 0) (sr : S rn) (kr : (T rn).1 = 37) (e102 : σ.2.1 102 a = (tl : Int)) (e99 : σ.2.1 99 a = (y : Int)) : KVH T σ rn tl (adN σ 59 rn) (adN σ 60 rn) (adN σ 61 rn) y (adN σ 90 tl) (adN σ 91 tl) (adN σ 89 tl) k m := by
  intro σ1 c ch hw1 hj hc
  obtain ⟨cc, f, hf, on, rx, ru, kk⟩ := found8 hx hwf gd h7 ch hj
  have rc := run_c ru hf.1.1.1 hf.1.1.2
  obtain ⟨m1, b1⟩ := kv_mid hT hb hw oa ch
  have gr := gd.2 _ rc.1.1 rc.1.2
  have F12 := gr.2.1.1
  have n200 := gr.1
  have fd : ∀ n : Nat, n < 1000 → n ≠ 70 → n ≠ 71 → ∀ b : Nat, σ1.2.1 n (b : Int) = σ.2.1 n b := fun n h1 h2 h3 b => ch.f h1 (by simp only [List.mem_cons, List.not_mem_nil, or_false, Prod.mk.injEq]; omega)
  have ad : ∀ n : Nat, n < 1000 → n ≠ 70 → n ≠ 71 → ∀ b : Nat, adN σ1 n b = adN σ n b := fun n h1 h2 h3 b => by unfold adN; rw [fd n h1 h2 h3 b]
  have e70 := hf.2.1.1
  rw [e70, hf.2.2.1.1, hf.2.2.2] at hc
  have ec : c = C (τ.2.1 78 cc) := by omega
  subst ec
  have e1 : σ1.2.1 102 a = (tl : Int) := (fd 102 (by decide) (by decide) (by decide) a).trans e102
  have ot : OB T tl 10 := by have z := (KEM.xs hw oa).2.2.2.2; rw [adN_of e102] at z; exact z
  have st : S tl := by have z := hb.2.2.1; rw [adN_of e102] at z; exact z
  have kq := m1.2.2 _ rc.1.1 (by omega)
  rw [e70, hf.2.2.1.1, hf.2.2.1.2, hf.2.1.2.1]
  rw [← ad 90 (by decide) (by decide) (by decide), ← ad 91 (by decide) (by decide) (by decide), ← ad 89 (by decide) (by decide) (by decide), ← ad 59 (by decide) (by decide) (by decide), ← ad 60 (by decide) (by decide) (by decide)]
  have hf2 := hf
  rw [← ad 59 (by decide) (by decide) (by decide), ← ad 60 (by decide) (by decide) (by decide)] at hf2
  refine ⟨⟨kq.2, rfa_of b1.1 b1.2.1 st ot kq.1.2.1 (ob50 kq.1.2.2) rc.1.1 (by have := gd.1; omega)⟩, ⟨hf.2.1.2.2.1, by have := hf.2.1.2.2.2; omega⟩, ⟨rc.2.1.1, by omega⟩, fun T2 σ2 nn gt hw2 rft jfr m0 m9 => ?_⟩
  have t8 := tel8 m1 b1 hw1 oa eC gt hw2 sr kr e1 ((fd 99 (by decide) (by decide) (by decide) a).trans e99) rfl rfl hf2 rc.1 rft
  obtain ⟨⟨tg, cs⟩, ⟨s70, s71⟩, ⟨ra, rb, rj⟩, t, t9, tk, tm⟩ := t8
  have cq := cs _ rc.1.1 (by omega)
  have rt := (tg.2.2 _ rc.1.1 (by omega)).2
  obtain ⟨r1, ⟨rn12, rF, -, -⟩, -⟩ := rt
  -- how many names
  have eF : σ2.2.1 10 (C (τ.2.1 78 cc)) = τ.2.1 14 (τ.2.1 78 cc) := (cq.1 10 (by decide) (by decide)).trans ((fd 10 (by decide) (by decide) (by decide) _).trans (congrArg (fun H : RTS => H.2.2.1) (hwf.2.2.2 _ rc.1.1 rc.1.2).2.1.1))
  have f0 := hf.2.1.2.2.1
  have f1 := hf.2.1.2.2.2
  have nb := rn12 f f0 (by omega)
  have nm : nn = rwF σ2 14 (C (τ.2.1 78 cc)) f := by
    rcases jfr with ⟨z, -⟩ | ⟨c9, x, q1, q2, q3⟩
    · rw [e70, hf2.2.2.1.1, hf2.2.2.2] at z
      omega
    · rw [e70, hf2.2.2.1.1, hf2.2.2.2] at q1
      have ec : c9 = C (τ.2.1 78 cc) := by omega
      rw [ec] at q2
      have l := (ex_at (wf_14 hw1 (ob50 kq.1.2.2)) q2).2
      rw [q3, hf.2.1.2.1, jA_in (by omega), cq.rw (f := 14) (by decide) (by decide) (by decide)]
      unfold rwF
      rw [adN_of q2]
  have en : σ2.2.1 6 (C (τ.2.1 78 cc)) = τ.2.1 9 (τ.2.1 78 cc) := (cq.1 6 (by decide) (by decide)).trans ((fd 6 (by decide) (by decide) (by decide) _).trans (congrArg (fun H : RTS => H.1) (hwf.2.2.2 _ rc.1.1 rc.1.2).2.1.1))
  have hn : ∀ q, 0 ≤ q → q < σ2.2.1 10 (C (τ.2.1 78 cc)) → 0 ≤ rwF σ2 14 (C (τ.2.1 78 cc)) q := fun q a b => (rn12 q a b).1
  have sl := slF_lt hn f0 (show f < σ2.2.1 10 (C (τ.2.1 78 cc)) by omega) (Int.le_refl _)
  have sp := slF_pos hn f0 (show f ≤ σ2.2.1 10 (C (τ.2.1 78 cc)) by omega)
  have ri := rw_in8 (kk := τ.2.1 79 cc) (n := σ2.2.1 6 (C (τ.2.1 78 cc))) (wd := slF (rwF σ2 14 (C (τ.2.1 78 cc))) (σ2.2.1 10 (C (τ.2.1 78 cc)))) (x := slF (rwF σ2 14 (C (τ.2.1 78 cc))) f + m) (by omega) (by omega) rc.2.1.1 (by omega) (by omega)
  have ji := jid8 (m := m) (c := C (τ.2.1 78 cc)) s70 s71 ra rb ⟨rc.1.1, by have := gd.1; omega⟩ t9 rfl rfl ⟨ri.1, by omega⟩
  have id9 := (tk f m f0 (by omega) m0 (by omega)).1 (τ.2.1 79 cc) rc.2.1.1 (by omega)
  have id9 : σ2.2.1 (1000 + t) (τ.2.1 79 cc * slF (rwF σ2 14 (C (τ.2.1 78 cc))) (σ2.2.1 10 (C (τ.2.1 78 cc))) + (slF (rwF σ2 14 (C (τ.2.1 78 cc))) f + m)) = 0 ∨ VID (vW (cdW σ2 (C (τ.2.1 78 cc)))) (σ2.2.1 6 (C (τ.2.1 78 cc))) (σ2.2.1 8 (C (τ.2.1 78 cc))) (rwF σ2 15 (C (τ.2.1 78 cc))) (σ2.2.1 (1000 + t) (τ.2.1 79 cc * slF (rwF σ2 14 (C (τ.2.1 78 cc))) (σ2.2.1 10 (C (τ.2.1 78 cc))) + (slF (rwF σ2 14 (C (τ.2.1 78 cc))) f + m))) := id9
  have P4 := r1.2.2.2.1
  refine ⟨by rw [s70, ra]; exact rj, ⟨by omega, by omega⟩, ⟨by rw [s70, rb]; exact rc.2.1.1, by rw [s70, rb]; omega⟩, by omega, ?_⟩
  rw [ji]
  generalize σ2.2.1 (1000 + t) (τ.2.1 79 cc * slF (rwF σ2 14 (C (τ.2.1 78 cc))) (σ2.2.1 10 (C (τ.2.1 78 cc))) + (slF (rwF σ2 14 (C (τ.2.1 78 cc))) f + m)) = id at *
  by_cases z : id = 0
  · rw [if_pos z]; exact ⟨by decide, by decide⟩
  · rw [if_neg z]
    rcases id9.resolve_left z with w | w | w
    · omega
    · omega
    · have := w.1; omega
theorem known8 {z v0 : Int} {V : MS → Nat → Int → Int} {W : Int → Int → DT → Int} (hz : z = v0) (hT : TGK S T σ a C Cn) (hb : BSQ S T σ a) (hw : WT T σ) (oa : OB T a 11) (eC : Cn = τ.1 10) (gd : GDA τ) (np : PAR τ) (hW : CDW τ) (hx : L7R σ rn (adN σ 59 rn) (adN σ 60 rn) (adN σ 61 rn) xd xe xf C τ) (hwf : RWF T σ rn (adN σ 59 rn) (adN σ 60 rn) (adN σ 61 rn) xd xe xf y C τ) (h7 : τ.1 67 ≠ 0 → τ.1 68 = 0 → RUN τ 0) (sr : S rn) (kr : (T rn).1 = 37) (e102 : σ.2.1 102 a = (tl : Int)) (e99 : σ.2.1 99 a = (y : Int)) (gt : GT T T2) (hw2 : WT T2 σ2) (hA2 : CDA σ2 τ C) (hwf2 : RWF T2 σ2 rn (adN σ2 59 rn) (adN σ2 60 rn) (adN σ2 61 rn) (adN σ2 62 rn) (adN σ2 63 rn) (adN σ2 64 rn) y C τ)
    (hV : ∀ q id c9, (τ.1 67 ≠ 0 ∧ τ.1 68 = 0) → 0 ≤ q → q < τ.1 10 → 0 ≤ c9 → c9 < τ.2.1 73 0 → σ2.2.1 70 rn = c9 → τ.2.1 78 c9 = q → VID (rV τ q) (τ.2.1 9 q) (τ.2.1 11 q) (rwF σ2 15 (C q)) id → V σ2 (C q) id = W c9 q (decD (rV τ q) (rwF σ2 15 (C q)) id))
    (hc : KVT T T2 σ σ2 rn tl (adN σ 59 rn) (adN σ 60 rn) (adN σ 61 rn) y (adN σ 90 tl) (adN σ 91 tl) (adN σ 89 tl) k m z v V)
    (hm : (v2 = v0 ∧ (τ.1 67 = 0 ∨ τ.1 68 ≠ 0 ∨ k < 0 ∨ dpt τ 0 ≤ k)) ∨ ((τ.1 67 ≠ 0 ∧ τ.1 68 = 0 ∧ 0 ≤ k) ∧ ∃ c f, FNDS τ 0 k c f ∧ ((v2 = v0 ∧ ¬ (0 ≤ m ∧ m < τ.2.1 12 (τ.2.1 15 (12 * τ.2.1 78 c + f)))) ∨ ((0 ≤ m ∧ m < τ.2.1 12 (τ.2.1 15 (12 * τ.2.1 78 c + f))) ∧ ∃ d, TLD τ (τ.2.1 78 c) (τ.2.1 79 c) f m d ∧ v2 = W c (τ.2.1 78 c) d)))) : v = v2 ∧ TGK S T2 σ2 a C Cn := by
  obtain ⟨σ1, u, ch, hw1, hj, hc⟩ := hc
  obtain ⟨m1, b1⟩ := kv_mid hT hb hw oa ch
  have fd : ∀ n : Nat, n < 1000 → n ≠ 70 → n ≠ 71 → ∀ b : Nat, σ1.2.1 n (b : Int) = σ.2.1 n b := fun n h1 h2 h3 b => ch.f h1 (by simp only [List.mem_cons, List.not_mem_nil, or_false, Prod.mk.injEq]; omega)
  have ad : ∀ n : Nat, n < 1000 → n ≠ 70 → n ≠ 71 → ∀ b : Nat, adN σ1 n b = adN σ n b := fun n h1 h2 h3 b => by unfold adN; rw [fd n h1 h2 h3 b]
  have e1 : σ1.2.1 102 a = (tl : Int) := (fd 102 (by decide) (by decide) (by decide) a).trans e102
  have same : σ2.2.1 = σ1.2.1 → σ2.2.2 = σ1.2.2 → TGK S T2 σ2 a C Cn := fun q1 q2 => m1.tl0 b1 hw1 oa gt q1
  rcases hc with ⟨u0, v1, q1, q2⟩ | ⟨u1, hc⟩
  · refine ⟨?_, same q1 q2⟩
    -- nothing found: the reference finds nothing
    rcases hm with ⟨m2, -⟩ | ⟨⟨o1, o2, o3⟩, c, f, fn, -⟩
    · omega
    · exfalso
      by_cases s5 : σ.2.1 56 rn = 1 ∨ σ.2.1 56 rn = 3
      · obtain ⟨-, rx, ru⟩ := on8 hx h7 s5
        have kl := fnds_lt ru fn
        rcases find7 rx hwf gd ru s5 ch hj with ⟨-, nk⟩ | ⟨w, -⟩
        · omega
        · omega
      · have := off8 hx s5
        omega
  · subst u1
    obtain ⟨cc, f, hf, on, rx, ru, kk⟩ := found8 hx hwf gd h7 ch hj
    have rc := run_c ru hf.1.1.1 hf.1.1.2
    have gr := gd.2 _ rc.1.1 rc.1.2
    have F12 := gr.2.1.1
    have t6 := gd.1
    have f0 := hf.2.1.2.2.1
    have f1 := hf.2.1.2.2.2
    have hcx := hwf.2.2.2 _ rc.1.1 rc.1.2
    have kq := m1.2.2 _ rc.1.1 (by omega)
    have nn9 : ∀ nn, JFR T σ1 rn (adN σ 59 rn) y 14 0 nn → nn = τ.2.1 12 (τ.2.1 15 (12 * τ.2.1 78 cc + f)) := fun nn jf => by
      rcases jf with ⟨z9, -⟩ | ⟨c9, x, q1, q2, q3⟩
      · rw [hf.2.1.1, hf.2.2.1.1, hf.2.2.2] at z9
        omega
      · rw [hf.2.1.1, hf.2.2.1.1, hf.2.2.2] at q1
        have ec : c9 = C (τ.2.1 78 cc) := by omega
        rw [ec, fd 14 (by decide) (by decide) (by decide)] at q2
        have l := (ex_at (wf_14 hw (ob50 (hT.2.2 _ rc.1.1 (by omega)).1.2.2)) q2).2
        rw [q3, hf.2.1.2.1, jA_cg (σ := σ) (ch.r (by simp)), jA_in (by omega), ← nm7 hcx f0 f1]
        unfold rwF
        rw [adN_of q2]
    rcases hm with ⟨-, m2⟩ | ⟨-, c2, f2, fn, hm⟩
    · omega
    · obtain ⟨e1c, e2f⟩ := fnds_one hf.1.2 fn
      subst e1c
      subst e2f
      rcases hc with ⟨v1, mr, q1, q2⟩ | ⟨m0, nn, c, jf, mn, jc, rft, hv⟩
      · refine ⟨?_, same q1 q2⟩
        rcases hm with ⟨m2, -⟩ | ⟨m2, -⟩
        · omega
        · rcases mr with mr | ⟨nn, jf, mr⟩
          · omega
          · have := nn9 nn jf
            omega
      · have en := nn9 nn jf
        rcases hm with ⟨-, m2⟩ | ⟨m2, d, td, hd⟩
        · omega
        · rw [hf.2.1.1, hf.2.2.1.1, hf.2.2.2] at jc
          have ec : c = C (τ.2.1 78 cc) := by omega
          subst ec
          rw [hf.2.1.1, hf.2.2.1.1] at rft
          rw [← ad 90 (by decide) (by decide) (by decide), ← ad 91 (by decide) (by decide) (by decide), ← ad 89 (by decide) (by decide) (by decide)] at rft
          have hf2 := hf
          rw [← ad 59 (by decide) (by decide) (by decide), ← ad 60 (by decide) (by decide) (by decide)] at hf2
          have t8 := tel8 m1 b1 hw1 oa eC gt hw2 sr kr e1 ((fd 99 (by decide) (by decide) (by decide) a).trans e99) rfl rfl hf2 rc.1 rft
          obtain ⟨⟨tg, cs⟩, ⟨s70, s71⟩, ⟨ra, rb, rj⟩, t, t9, tk, tm⟩ := t8
          refine ⟨?_, tg⟩
          have h2 := hwf2.2.2.2 _ rc.1.1 rc.1.2
          have a2 := (hA2 _ rc.1.1 rc.1.2).1
          have eF : σ2.2.1 10 (C (τ.2.1 78 cc)) = τ.2.1 14 (τ.2.1 78 cc) := congrArg (fun H : RTS => H.2.2.1) h2.2.1.1
          have rt := (tg.2.2 _ rc.1.1 (by omega)).2
          obtain ⟨r1, ⟨rn12, rF, -, -⟩, -⟩ := rt
          have nb := rn12 f f0 (by omega)
          have w14 : rwF σ2 14 (C (τ.2.1 78 cc)) f = τ.2.1 12 (τ.2.1 15 (12 * τ.2.1 78 cc + f)) := nm7 h2 f0 f1
          have P4 := np _ rc.1.1 (by omega)
          have PN := gr.2.2.2.2.2.2.2.2
          have te := tel_one (f := f) (m := m) tk (congrArg (fun H : RTS => H.2.1) h2.2.1.1) h2.n h2.2.1.2 a2.2.1 (fun i i0 i1 => eH8 h2 gr i0 (by omega)) ⟨⟨f0, by omega⟩, by omega⟩ ⟨⟨m0, by omega⟩, by omega⟩ rc.2.1.1 (by omega) td
          have hn : ∀ q, 0 ≤ q → q < σ2.2.1 10 (C (τ.2.1 78 cc)) → 0 ≤ rwF σ2 14 (C (τ.2.1 78 cc)) q := fun q a b => (rn12 q a b).1
          have sl := slF_lt hn f0 (show f < σ2.2.1 10 (C (τ.2.1 78 cc)) by omega) (Int.le_refl _)
          have sp := slF_pos hn f0 (show f ≤ σ2.2.1 10 (C (τ.2.1 78 cc)) by omega)
          have ri := rw_in8 (kk := τ.2.1 79 cc) (n := σ2.2.1 6 (C (τ.2.1 78 cc))) (wd := slF (rwF σ2 14 (C (τ.2.1 78 cc))) (σ2.2.1 10 (C (τ.2.1 78 cc)))) (x := slF (rwF σ2 14 (C (τ.2.1 78 cc))) f + m) (by rw [h2.n]; omega) (by omega) rc.2.1.1 (by omega) (by omega)
          have ji := jid8 (m := m) (c := C (τ.2.1 78 cc)) s70 s71 ra rb ⟨rc.1.1, by omega⟩ t9 rfl rfl ⟨ri.1, by omega⟩
          rw [ad 59 (by decide) (by decide) (by decide), ad 60 (by decide) (by decide) (by decide)] at ji
          rw [hv, ji, hV _ _ cc on rc.1.1 rc.1.2 hf.1.1.1 hf.1.1.2 s70 rfl te.1, hd, te.2]
end KNV8
end
