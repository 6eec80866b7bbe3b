section
section BEH9
variable {Gs Gs2 : Int → RTS} {PM : Int → Int} {H H2 : RTS} {s s2 : List F8} {e : E8} {L : List E8} {k k2 d d2 q : Int} {R R2 : G8} {W : Int → Int}
theorem ist_cg (en : H2.n = H.n) (ev : H2.V = H.V) (h : ist H k R d e k2 R2 d2) : ist H2 k R d e k2 R2 d2 := by
  unfold ist at h ⊢
  rw [en, ev]; exact h
theorem stp_cg (hc : ∀ q, (Gs2 q).n = (Gs q).n ∧ (Gs2 q).V = (Gs q).V ∧ ∀ W, cal8 (Gs2 q) (PM q) W = cal8 (Gs q) (PM q) W) (h : stp8 Gs PM s e s2) : stp8 Gs2 PM s e s2 := by
  obtain ⟨r, k, R, d, rest, es, h⟩ := h
  refine ⟨r, k, R, d, rest, es, ?_⟩
  obtain ⟨en, ev, -⟩ := hc r
  rcases h with ⟨k2, R2, d2, hi, e2⟩ | ⟨hb, h⟩
  · exact Or.inl ⟨k2, R2, d2, ist_cg en ev hi, e2⟩
  · refine Or.inr ⟨by rw [en]; exact hb, ?_⟩
    rw [ev]
    rcases h with ⟨a, a2, a3, a4⟩ | h | ⟨a, h⟩
    · exact Or.inl ⟨a, a2, a3, by rw [a4, (hc _).2.2]⟩
    · exact Or.inr (Or.inl h)
    · refine Or.inr (Or.inr ⟨a, ?_⟩)
      rcases h with h | ⟨r1, k1, R1, d1, t1, h1, h2, h3⟩
      · exact Or.inl h
      · exact Or.inr ⟨r1, k1, R1, d1, t1, h1, h2, by rw [h3, (hc r1).2.1]⟩
theorem run_cg (hc : ∀ q, (Gs2 q).n = (Gs q).n ∧ (Gs2 q).V = (Gs q).V ∧ ∀ W, cal8 (Gs2 q) (PM q) W = cal8 (Gs q) (PM q) W) {n : Nat} (h : run8 Gs PM n s L s2) : run8 Gs2 PM n s L s2 := by
  induction n generalizing s L with
  | zero => exact h
  | succ n ih =>
    obtain ⟨e, x, L1, h1, h2, h3⟩ := h
    exact ⟨e, x, L1, stp_cg hc h1, ih h2, h3⟩
theorem beh_cg (hc : ∀ q, (Gs2 q).n = (Gs q).n ∧ (Gs2 q).V = (Gs q).V ∧ ∀ W, cal8 (Gs2 q) (PM q) W = cal8 (Gs q) (PM q) W) (h : beh8 Gs PM q W L) : beh8 Gs2 PM q W L := by
  obtain ⟨n, s2, g⟩ := h
  exact ⟨n, s2, by rw [(hc q).2.2]; exact run_cg hc g⟩
end BEH9
section KPR8
variable {S : Int → Int} {τ : MS} {es : List EW} {t : TK} {x : Int × Int × Int} {p : QR} {ρ : List EV} {Pf : Int → List EW} {f : Int → Int} {r k : Int}
theorem ri_ieq {x y : Int} (h : IEQ τ x τ y) : rI τ y = rI τ x := by
  obtain ⟨a3, a4, a5, a6, ar⟩ := h
  have r0 := ar 0 (by decide) (by decide)
  have r1 := ar 1 (by decide) (by decide)
  have r2 := ar 2 (by decide) (by decide)
  have r3 := ar 3 (by decide) (by decide)
  funext c
  unfold rI
  rw [a3, a4, a5, a6, r0.1, r0.2, r1.1, r1.2, r2.1, r2.2, r3.1, r3.2]
theorem rv_6 (d : DNR τ r) : rV τ (6 + r) = rV τ r := by
  funext k
  unfold rV
  rw [d.2.2.2.2.1]
  by_cases c : 0 ≤ k ∧ k < τ.2.1 9 r
  · rw [if_pos c, if_pos c]; exact ri_ieq (d.2.2.2.2.2 k c.1 c.2)
  · rw [if_neg c, if_neg c]
theorem jd_0 {k v : Int} : JD9 (mk00 k v) := by
  refine ⟨?_, fun y => ⟨fun s l z => absurd z.1.2 (by have := z.1.1; show ¬ s < 0; omega), fun s l s2 l2 z => absurd z.1.2 (by have := z.1.1; show ¬ s < 0; omega)⟩⟩
  exact ⟨⟨fun s l z => absurd z.1.2 (by have := z.1.1; show ¬ s < 0; omega), fun s l s2 l2 z => absurd z.1.2 (by have := z.1.1; show ¬ s < 0; omega)⟩, fun a s z => absurd z.1.2 (by have := z.1.1; show ¬ s < 0; omega), trivial, fun e me => absurd me List.not_mem_nil⟩
theorem kpa_read (hs : SEN S) (re : RE S ([36], advT S 0, (0, 0, 0), qq 0, []) es ([], t, x, p, ρ)) (r9 : (RA9 (es.foldl uC c00)).1 = 0) (r6 : (es.foldl uC c00).rn ≤ 6) (hp : PFX es Pf) (hf : RFC (es.foldl uC c00) f) (hm : MDE S τ) (e10 : τ.1 10 = (es.foldl uC c00).rn) (hPN : ∀ r, 0 ≤ r → r < τ.1 10 → τ.2.1 11 r = (es.foldl uC c00).rp r ∧ τ.2.1 11 r ≤ τ.2.1 12 r ∧ τ.2.1 12 r ≤ 12) (g : GDA τ) : KPA τ ∧ BEA τ := by
  have hm0 := hm
  obtain ⟨⟨pk2, pv2, mr⟩, hd, es2, t2, x2, q2, ρ2, A, re2, sA, tnn, tnw, ttn, ttw, ttm⟩ := hm
  have d := (RE.det re re2 rfl rfl evt_nil evt_nil).2
  subst d
  have sh := re.shp hs
  have st : ST0 (absR A) := sA
  have nf := NFQ.fold es (show NFQ (absR A) ((absR A).1, (0, -1), (absR A).2.2) from ⟨rfl, rfl⟩)
  obtain ⟨pc, lo, k1⟩ := K1.run es (K1.ini (r := ((absR A).1, (0, -1), (absR A).2.2)) st rfl) sh
  have etn : (es.foldl uR (absR A)).tn = (es.foldl uC c00).rn := (congrArg (fun z => z.2.2.1) nf.2).trans k1.tn
  have etw : ∀ j, 0 ≤ j → j < (es.foldl uC c00).rn → (es.foldl uR (absR A)).tw j = (es.foldl uC c00).rk j := fun j a b => (congrFun (congrArg (fun z => z.2.2.2.1) nf.2) j).trans (k1.tw j a b)
  have fa : FITA (nmQ6 S) (rnR τ) (fun r => τ.2.1 35 r) τ := fun r r0 r6 => by
    refine ⟨fun w v h => ?_, fun w v h => rnR_at (rnv_30 h), rfl⟩
    show nmQ6 S r w = v
    by_cases z : r < (es.foldl uC c00).rn
    · refine nmQ6_at hs re st hp r0 z r6 ?_
      unfold NLK
      rw [tnn, tnw]
      exact h
    · have y := nmQ6_hi (w := w) hs re st (show (es.foldl uC c00).rn ≤ r by omega) r6
      rw [y.1]
      have y2 := y.2
      rw [tnn] at y2
      rcases h with ⟨a1, a2, -⟩ | ⟨-, a2⟩
      · have a3 : v < τ.2.1 35 r := a2
        omega
      · exact a2.symm
  obtain ⟨t4, x4, l4, m', rm1, dm⟩ := mr _ _ _ fa (mk00 pk2 pv2) rfl rfl rfl
  have nb := (rm1.jd jd_0 mki_0).2
  have hN : ∀ y w, ((0 ≤ y ∧ y < (es.foldl uC c00).rn) ∧ KNF (es.foldl uR (absR A)) y w) → nmQ6 S y w < τ.2.1 35 y := fun y w ⟨⟨a, b⟩, i, i0, i1, i2⟩ => by
    obtain ⟨v, v0, v1, v2, v3⟩ := fst_ex (f := fun j => (es.foldl uR (absR A)).nw (12 * y + j)) (w := w) (n := (es.foldl uR (absR A)).nn y) ⟨i, i0.1, i1, i2⟩
    rw [nmQ6_at hs re st hp a b (by omega) (Or.inl ⟨v0, v1, v2, v3⟩), ← tnn]
    exact v1
  have gd := JO8.fin (NN := fun y => τ.2.1 35 y) hN rm1 re (nok_text st sh r9 r6 hf (re.kw hs) (fun r a b => (hPN r a (by omega)).1))
  refine ⟨fun r a b => ?_, fun q W L z => beh_cg (fun i => ?_) z⟩
  · obtain ⟨dn, d17, d12, d11⟩ := hd r a b
    have er : m'.dn r = (τ.2.1 9 r, rV τ r) := (dm r a b).1
    have g1 := gd r
    have n1 := nb r
    rw [er] at g1 n1
    obtain ⟨g14, g15, g16, g18, -, -⟩ := dn
    have f0 : (rS τ r).fo 0 = r := by
      show (if (0 : Int) ≤ 0 ∧ (0 : Int) < τ.2.1 14 r then τ.2.1 15 (12 * r + 0) else 0) = r
      rw [g14, if_pos (by decide), show 12 * r + 0 = 12 * r by omega, g15]
    have rg := rg_rs (g.2 r a b)
    have hb := hPN r a b
    refine ⟨n1, S2T.made g1.1 (fun gg l lt => ?_), g1.2⟩
    have l0 := lv_rg (V := (rS τ r).V) (n := (rS τ r).n) ⟨rg.1, rg.2.1⟩ l
    have lt : gg < τ.2.1 35 r := lt
    refine ⟨0, Int.le_refl _, by show 0 < τ.2.1 14 r; omega, gg, l0.1, by rw [f0, d12]; exact lt, ?_⟩
    show (if ((0 : Int) ≤ 0 ∧ (0 : Int) < τ.2.1 14 r) ∧ 0 ≤ gg ∧ gg < τ.2.1 12 (τ.2.1 15 (12 * r + 0)) then τ.2.1 18 (144 * r + 12 * 0 + gg) else 0) = gg
    rw [g14, show 12 * r + 0 = 12 * r by omega, g15, if_pos ⟨⟨Int.le_refl _, by decide⟩, l0.1, by rw [d12]; exact lt⟩, show 144 * r + 12 * 0 + gg = 144 * r + gg by omega]
    exact g18 gg l0.1 (by omega)
  · unfold gsT
    by_cases c : 0 ≤ i ∧ i < τ.1 10
    · rw [if_pos c, if_pos c]
      obtain ⟨dn, d17, d12, d11⟩ := hd i c.1 c.2
      have e6 := rv_6 dn
      have e9 := dn.2.2.2.2.1
      refine ⟨e9.symm, e6.symm, fun W => ?_⟩
      have hb := hPN i c.1 c.2
      unfold cal8
      have pm : pM8 τ i = τ.2.1 11 i := if_pos ⟨c.1, by have := g.1; omega⟩
      rw [pm]
      funext gg
      refine pwR_c (fun m m0 m1 => ⟨?_, rfl⟩) rfl
      show (if ((0 : Int) ≤ 0 ∧ (0 : Int) < τ.2.1 14 i) ∧ 0 ≤ m ∧ m < τ.2.1 12 (τ.2.1 15 (12 * i + 0)) then τ.2.1 18 (144 * i + 12 * 0 + m) else 0) = m
      rw [dn.1, show 12 * i + 0 = 12 * i by omega, dn.2.1, if_pos ⟨⟨Int.le_refl _, by decide⟩, m0, by omega⟩, show 144 * i + 12 * 0 + m = 144 * i + m by omega]
      exact dn.2.2.2.1 m m0 (by omega)
    · rw [if_neg c, if_neg c]; exact ⟨rfl, rfl, fun _ => rfl⟩
theorem kpa_first (h : τ.1 10 = 0) : KPA τ ∧ BEA τ := by
  refine ⟨fun r a b => absurd b (by omega), fun q W L z => ?_⟩
  have e : gsT (τ.1 10) (mS8 τ) = gsT (τ.1 10) (rS τ) := by
    funext i
    unfold gsT
    rw [if_neg (by omega), if_neg (by omega)]
  rw [e] at z; exact z
theorem KPA.fr {ss ks js : List Nat} {τ2 : MS} (h : KPA τ) (b : BEA τ) (F : Fr ss ks js τ τ2) (hs : 10 ∉ ss) (hk : ∀ k ∈ [3, 4, 5, 6, 7, 8, 9, 11, 12, 14, 15, 16, 17, 18], k ∉ ks) : KPA τ2 ∧ BEA τ2 := by
  have e := fun k hm => F.2.1 k (hk k hm)
  have e10 := F.1 10 hs
  have er : ∀ q, rV τ2 q = rV τ q := fun q => by
    have ri : ∀ y, rI τ2 y = rI τ y := fun y => by
      funext c
      unfold rI
      rw [e 3 (by decide), e 4 (by decide), e 5 (by decide), e 6 (by decide), e 7 (by decide), e 8 (by decide)]
    funext k
    unfold rV
    rw [e 9 (by decide), ri]
  have es : rS τ2 = rS τ := by
    funext q
    unfold rS
    rw [er, e 9 (by decide), e 12 (by decide), e 14 (by decide), e 15 (by decide), e 16 (by decide), e 17 (by decide), e 18 (by decide)]
  have em : mS8 τ2 = mS8 τ := by
    funext q
    unfold mS8
    rw [er, e 9 (by decide)]
  have ep : pM8 τ2 = pM8 τ := by
    funext q
    unfold pM8
    rw [e 11 (by decide)]
  refine ⟨fun r a c => ?_, ?_⟩
  · rw [e10] at c
    rw [es, e 12 (by decide)]; exact h r a c
  · unfold BEA
    rw [e10, es, em, ep]; exact b
end KPR8
end
