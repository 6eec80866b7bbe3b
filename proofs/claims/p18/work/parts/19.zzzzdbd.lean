section
def CDW (τ : MS) : Prop := ∀ r, 0 ≤ r → r < τ.1 10 → WHN (τ.2.1 11) (rS τ r).V (rS τ r).n ∧ BNR (τ.2.1 12) (rS τ r) ∧ PMD ((rS τ r).na 0) (τ.2.1 11 r)
def gsT (Cn : Int) (Gs : Int → RTS) (q : Int) : RTS := if 0 ≤ q ∧ q < Cn then Gs q else (1, fun _ => mkI 10 0 0 0 0 0, 0, fun _ => 0, fun _ => 0, fun _ => 0, fun _ _ => 0)
section CDWS
variable {S : Int → Int} {τ τ2 : MS} {es : List EW} {t : TK} {x : Int × Int × Int} {p : QR} {ρ : List EV} {Pf : Int → List EW} {f : Int → Int} {Cn q w r v : Int} {Gs : Int → RTS}
theorem gsT_y (h : 0 ≤ q ∧ q < Cn) : gsT Cn Gs q = Gs q := if_pos h
theorem gsT_n (h : ¬ (0 ≤ q ∧ q < Cn)) (n : NCL (gsT Cn Gs q)) : False := by
  have e : gsT Cn Gs q = (1, fun _ => mkI 10 0 0 0 0 0, 0, fun _ => 0, fun _ => 0, fun _ => 0, fun _ _ => 0) := if_neg h
  rw [e] at n
  exact n 0 (Int.le_refl _) (by show (0 : Int) < 1; decide) rfl
theorem CDW.same (h : CDW τ) (e : ∀ j, 0 ≤ j → j < τ.1 10 → rS τ2 j = rS τ j) (e10 : τ2.1 10 = τ.1 10) (e11 : τ2.2.1 11 = τ.2.1 11) (e12 : τ2.2.1 12 = τ.2.1 12) : CDW τ2 := fun j x y => by
  rw [e10] at y
  rw [e j x y, e11, e12]
  exact h j x y
theorem fo0_r (g : GDR τ r) : (rS τ r).F = τ.2.1 14 r ∧ (1 ≤ τ.2.1 14 r ∧ (rS τ r).fo 0 = r) ∧ ∀ m, 0 ≤ m → m < τ.2.1 12 r → 0 ≤ (rS τ r).na 0 m ∧ (rS τ r).na 0 m < 192 := by
  have F := g.2.1
  have f0 : τ.2.1 15 (12 * r + 0) = r := g.2.2.2.1
  have e : (if (0 : Int) ≤ 0 ∧ (0 : Int) < τ.2.1 14 r then τ.2.1 15 (12 * r + 0) else 0) = r := by
    rw [if_pos ⟨Int.le_refl _, by have := F.1.1; omega⟩]; exact f0
  refine ⟨rfl, ⟨F.1.1, e⟩, fun m a b => ?_⟩
  have z := (F.2 0 (Int.le_refl _) (by have := F.1.1; omega)).2 m a (by rw [f0]; exact b)
  have en : (rS τ r).na 0 m = τ.2.1 18 (144 * r + 12 * 0 + m) := if_pos ⟨⟨Int.le_refl _, by have := F.1.1; omega⟩, a, by rw [f0]; exact b⟩
  rw [en]; exact z
theorem CDW.pass (h : CDW τ) (g : GDA τ) (np : PAR τ) (hB : CDB τ) (q : PSQ τ τ2 w r v) (e10 : τ2.1 10 = τ.1 10) (e11 : τ2.2.1 11 = τ.2.1 11) (e12 : τ2.2.1 12 = τ.2.1 12) : CDW τ2 := by
  have g6 := g.1
  rcases q with ⟨-, -, e⟩ | ⟨m1, px, po⟩
  · exact h.same (fun j _ _ => e j) e10 e11 e12
  · have r0 := m1.2.2.1
    have r1 := m1.2.2.2
    have gr := g.2 r r0 r1
    have un : UNA τ := fun j x y => (hB j x y).1
    have hg : ∀ j, 0 ≤ j → j < τ.1 10 → 0 ≤ (rS τ j).n ∧ UNQ (rS τ j).V (rS τ j).n ∧ LZ (rS τ j).V (rS τ j).n := fun j x y => ⟨by show 0 ≤ τ.2.1 9 j; have := (g.2 j x y).1; omega, un j x y, lz_rs (g.2 j x y)⟩
    have pc := px.cong (Gt := gsT (τ.1 10) (rS τ)) (Cn := τ.1 10) (un r r0 r1) (cl_rs gr) hg (fun j x y => (gsT_y ⟨x, y⟩).symm)
    intro j x y
    rw [e10] at y
    by_cases z : j = r
    · subst z
      obtain ⟨hW, hN, hP⟩ := h j x y
      have n0 : 0 ≤ (rS τ j).n := (hg j x y).1
      obtain ⟨-, ⟨F1, fo⟩, fr⟩ := fo0_r gr
      have rng : ∀ q, NCL (gsT (τ.1 10) (rS τ) q) → 0 ≤ q ∧ q < τ.1 10 := fun q n => by
        apply Classical.byContradiction
        exact fun c => gsT_n c n
      rw [e11, e12]
      refine ⟨pc.wh hW n0 (fun q n => ?_), pc.bn hN n0 (by show 0 ≤ τ.2.1 14 j; omega) (fun q n => ?_), pc.pmd hP (by show 0 < τ.2.1 14 j; omega) ?_ (fun m a b => ?_) (fun q n => ?_)⟩
      · have c := rng q n
        rw [gsT_y c]
        exact ⟨⟨(hg q c.1 c.2).1, (h q c.1 c.2).1⟩, (np q c.1 (by omega)).2⟩
      · have c := rng q n
        have w := fo0_r (g.2 q c.1 c.2)
        rw [gsT_y c]
        exact ⟨⟨⟨(hg q c.1 c.2).1, by show 0 < τ.2.1 14 q; omega⟩, (h q c.1 c.2).2.1⟩, w.2.1.2⟩
      · rw [fo]; exact gr.2.2.2.2.2.2.2.2
      · exact fr m a (by have := gr.2.2.2.2.2.2.2.2; omega)
      · have c := rng q n
        have w := fo0_r (g.2 q c.1 c.2)
        rw [gsT_y c]
        show 0 ≤ τ.2.1 14 q
        omega
    · rw [po j x y z, e11, e12]
      exact h j x y
theorem cdw_read (hs : SEN S) (re : RE S ([36], advT S 0, (0, 0, 0), qq 0, []) es ([], t, x, p, ρ)) (r9 : (RA9 (es.foldl uC c00)).1 = 0) (r6 : (es.foldl uC c00).rn ≤ 6) (hp : PFX es Pf) (hf : RFC (es.foldl uC c00) f) (hm : MDE S τ) (e10 : τ.1 10 = (es.foldl uC c00).rn) (hPN : ∀ r, 0 ≤ r → r < τ.1 10 → τ.2.1 11 r = (es.foldl uC c00).rp r ∧ τ.2.1 11 r ≤ τ.2.1 12 r ∧ τ.2.1 12 r ≤ 12) : CDW τ := by
  obtain ⟨⟨pk2, pv2, mr⟩, hd, es2, t2, x2, q2, ρ2, A, re2, sA, tnn, tnw, ttn, ttw, ttm⟩ := hm
  have d := (RE.det re re2 rfl rfl evt_nil evt_nil).2
  subst d
  have sh := re.shp hs
  have st : ST0 (absR A) := sA
  have nf := NFQ.fold es (show NFQ (absR A) ((absR A).1, (0, -1), (absR A).2.2) from ⟨rfl, rfl⟩)
  obtain ⟨pc, lo, k1⟩ := K1.run es (K1.ini (r := ((absR A).1, (0, -1), (absR A).2.2)) st rfl) sh
  have etn : (es.foldl uR (absR A)).tn = (es.foldl uC c00).rn := (congrArg (fun z => z.2.2.1) nf.2).trans k1.tn
  have etw : ∀ j, 0 ≤ j → j < (es.foldl uC c00).rn → (es.foldl uR (absR A)).tw j = (es.foldl uC c00).rk j := fun j a b => (congrFun (congrArg (fun z => z.2.2.2.1) nf.2) j).trans (k1.tw j a b)
  have fa : FITA (nmQ6 S) (rnR τ) (fun r => τ.2.1 35 r) τ := fun r r0 r6 => by
    refine ⟨fun w v h => ?_, fun w v h => rnR_at (rnv_30 h), rfl⟩
    show nmQ6 S r w = v
    by_cases z : r < (es.foldl uC c00).rn
    · refine nmQ6_at hs re st hp r0 z r6 ?_
      unfold NLK
      rw [tnn, tnw]
      exact h
    · have y := nmQ6_hi (w := w) hs re st (show (es.foldl uC c00).rn ≤ r by omega) r6
      rw [y.1]
      have y2 := y.2
      rw [tnn] at y2
      rcases h with ⟨a1, a2, -⟩ | ⟨-, a2⟩
      · have a3 : v < τ.2.1 35 r := a2
        omega
      · exact a2.symm
  obtain ⟨t4, x4, l4, m', rm1, dm⟩ := mr _ _ _ fa (mk00 pk2 pv2) rfl rfl rfl
  have cg : ∀ e ∈ es, e.1 = 1 → rnR τ e.2.2.2 = f (rnQ e.2.2.2) := fun e he k9 => by
    have kw := rnQ_kw (re.kw hs e he k9)
    have fd := ((hf _ _ kw).1 (call_found sh r9 e he k9))
    refine rnR_at (Or.inl ⟨f (rnQ e.2.2.2), ⟨fd.1.1, ?_, ?_, fun j a b => ?_⟩, (if_pos (by omega)).symm⟩)
    · rw [← ttn, etn]; exact fd.1.2
    · rw [← ttw, etw _ fd.1.1 fd.1.2]; exact fd.2.1
    · rw [← ttw, etw j a (by omega)]; exact fd.2.2 j a b
  have rm2 := RM.cong (rn2 := fun w => f (rnQ w)) rm1 re rfl evt_nil rfl evt_nil cg
  have hN : ∀ y w, ((0 ≤ y ∧ y < (es.foldl uC c00).rn) ∧ KNF (es.foldl uR (absR A)) y w) → 0 ≤ nmQ6 S y w ∧ nmQ6 S y w < τ.2.1 35 y := fun y w ⟨⟨a, b⟩, i, i0, i1, i2⟩ => by
    obtain ⟨v, v0, v1, v2, v3⟩ := fst_ex (f := fun j => (es.foldl uR (absR A)).nw (12 * y + j)) (w := w) (n := (es.foldl uR (absR A)).nn y) ⟨i, i0.1, i1, i2⟩
    rw [nmQ6_at hs re st hp a b (by omega) (Or.inl ⟨v0, v1, v2, v3⟩), ← tnn]
    exact ⟨v0, v1⟩
  have bd := JM.fin (PM := τ.2.1 11) (NN := fun y => τ.2.1 35 y) (nmQ6_lt S) hN (fun e h => h) rm2 re (nok_text st sh r9 r6 hf (re.kw hs) (fun r a b => (hPN r a (by omega)).1))
  intro r a b
  have bd := bd r
  obtain ⟨dn, d17, d12, d11⟩ := hd r a b
  have hb := hPN r a b
  rw [show m'.dn r = (τ.2.1 9 r, rV τ r) from (dm r a b).1] at bd
  obtain ⟨-, wh, bn⟩ := bd
  obtain ⟨g14, g15, g16, g18, -, -⟩ := dn
  have f0 : (rS τ r).fo 0 = r := by
    show (if (0 : Int) ≤ 0 ∧ (0 : Int) < τ.2.1 14 r then τ.2.1 15 (12 * r + 0) else 0) = r
    rw [g14, if_pos (by decide), show 12 * r + 0 = 12 * r by omega, g15]
  refine ⟨wh, ?_, ?_⟩
  · show BNN (bnB (τ.2.1 12) (rS τ r)) (rV τ r) (τ.2.1 9 r)
    refine bn.up (fun f m q => ?_)
    obtain ⟨q1, q2, q3⟩ := q
    have F1 : (rS τ r).F = 1 := g14
    have q3 : m < τ.2.1 35 r := q3
    unfold bnB
    rw [q1, F1, f0, d12]
    exact ⟨⟨Int.le_refl _, by decide⟩, q2, q3⟩
  · intro i j i0 i1 j0 j1 e
    have na : ∀ m, 0 ≤ m → m < τ.2.1 11 r → (rS τ r).na 0 m = m := fun m m0 m1 => by
      show (if ((0 : Int) ≤ 0 ∧ (0 : Int) < τ.2.1 14 r) ∧ 0 ≤ m ∧ m < τ.2.1 12 (τ.2.1 15 (12 * r + 0)) then τ.2.1 18 (144 * r + 12 * 0 + m) else 0) = m
      rw [g14, show 12 * r + 0 = 12 * r by omega, g15, if_pos ⟨⟨Int.le_refl _, by decide⟩, m0, by omega⟩, show 144 * r + 12 * 0 + m = 144 * r + m by omega]
      exact g18 m m0 (by omega)
    rw [na i i0 i1, na j j0 j1] at e
    exact e
theorem cdw_first {τ : MS} (h : τ.1 10 = 0) : CDW τ := fun r x y => absurd y (by omega)
end CDWS
end
