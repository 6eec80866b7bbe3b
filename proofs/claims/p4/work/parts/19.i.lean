/-! the reader as a whole -/
theorem CW.ext {n F R : Int} {K D O K' D' O' FI fr lf : Int → Int} (h : CW n F R K D O FI fr lf) (e : ∀ k, 0 ≤ k → k < n → K' k = K k ∧ D' k = D k ∧ O' k = O k) : CW n F R K' D' O' FI fr lf := by
  obtain ⟨c1, c2, c3, c4, c5⟩ := h
  refine ⟨c1, c2, fun k a b x7 x8 => ?_, fun k a b => ?_, fun k a b z => ?_⟩
  · rw [(e k a b).1] at x7 x8 ⊢
    rw [(e k a b).2.1]
    exact c3 k a b x7 x8
  · rw [(e k a b).1, (e k a b).2.1]; exact c4 k a b
  · rw [(e k a b).1] at z
    obtain ⟨d0, j, d1, d2, d3, d4, d5⟩ := c5 k a b z
    exact ⟨by rw [(e k a b).2.2]; exact d0, j, d1, d2, by rw [(e j d1 (by omega)).1]; exact d3, by rw [(e j d1 (by omega)).2.2]; exact d4, fun i x y => by rw [(e i (by omega) (by omega)).1]; exact d5 i x y⟩
/-- all items but the new one stay -/
def KPR (σ τ : MS) : Prop := (∀ x, x ≠ 2640 → IEQ σ x τ x) ∧ τ.2.1 9 = σ.2.1 9
theorem KPR.trans {σ τ υ : MS} (h : KPR σ τ) (g : KPR τ υ) : KPR σ υ := ⟨fun x a => (h.1 x a).trans (g.1 x a), g.2.trans h.2⟩
theorem KPR.xr {σ τ : MS} (h : KPR σ τ) : XR 12 σ τ := ⟨fun y _ b => ⟨(h.1 y (by omega)).1, (h.1 y (by omega)).2.1, (h.1 y (by omega)).2.2.1, (h.1 y (by omega)).2.2.2.1⟩, fun z _ b => by
  by_cases n0 : 0 ≤ z
  · have q := (h.1 (z / 4) (by omega)).2.2.2.2 (z % 4) (by omega) (by omega)
    rw [show 4 * (z / 4) + z % 4 = z by omega] at q
    exact q
  · have q := (h.1 (z / 4) (by omega)).2.2.2.2 (z % 4) (by omega) (by omega)
    rw [show 4 * (z / 4) + z % 4 = z by omega] at q
    exact q⟩
section KP
variable {ss ks js : List Nat} {σ τ : MS}
theorem GDA.kpr (h : GDA σ) (hn : NAM σ) (x : KPR σ τ) (f : Fr ss ks js σ τ) (hs : 10 ∉ ss) (hk : ∀ k ∈ [11, 12, 14, 15, 16, 18], k ∉ ks) : GDA τ := by
  refine ⟨by rw [f.1 10 hs]; exact h.1, fun r a b => ?_⟩
  rw [f.1 10 hs] at b
  have r6 := h.1.2
  exact (h.2 r a b).oth (r := 12) ⟨a, by omega, by omega⟩ hn x.xr (by rw [x.2]) (by rw [f.q hk (k := 14) (by decide)]) (f.q hk (k := 11) (by decide)) (f.q hk (k := 12) (by decide)) (f.1 10 hs) (fun y _ => by rw [f.q hk (k := 15) (by decide), f.q hk (k := 16) (by decide)]; exact ⟨rfl, rfl⟩) (fun z _ => by rw [f.q hk (k := 18) (by decide)])
theorem PLC.kpr {m r p f : Int} (h : PLC σ m r p f) (x : KPR σ τ) (g : Fr ss ks js σ τ) (hs : 10 ∉ ss) (hk : ∀ k ∈ [14, 16], k ∉ ks) (hb : 0 ≤ bkm m + r ∧ bkm m + r < 12) (h9 : σ.2.1 9 (bkm m + r) ≤ 220) : PLC τ m r p f := by
  obtain ⟨h1, h2, fr, lf, c, e⟩ := h
  refine ⟨by rw [g.1 10 hs]; exact h1, by rw [x.2]; exact h2, fr, lf, ?_, e⟩
  rw [g.1 10 hs, x.2, fm_fr g (hk 14 (by decide)), prm_fr g (hk 16 (by decide))]
  have r0 := hb
  refine c.ext (fun k a b => ?_)
  have q := x.1 (220 * (bkm m + r) + k) (by omega)
  exact ⟨q.1, q.2.1, q.2.2.1⟩
theorem BKG.kpr {m r : Int} (h : BKG σ m r) (x : KPR σ τ) (g : Fr ss ks js σ τ) (hs : 10 ∉ ss) (hk : ∀ k ∈ [11, 14, 16, 18], k ∉ ks) (hb : 0 ≤ bkm m + r ∧ bkm m + r < 12) : BKG τ m r := by
  obtain ⟨h1, h2, h3, ⟨fr, lf, h4⟩, h5, h6, h7⟩ := h
  have q : ∀ k, 0 ≤ k → k < 220 → IEQ σ (220 * (bkm m + r) + k) τ (220 * (bkm m + r) + k) := fun k a b => x.1 _ (by omega)
  unfold BKG
  rw [fm_fr g (hk 14 (by decide)), prm_fr g (hk 16 (by decide)), g.q hk (k := 18) (by decide), g.q hk (k := 11) (by decide), g.1 10 hs, x.2]
  refine ⟨h1, fun k a b => ?_, fun k a b e => ?_, ⟨fr, lf, h4.ext (fun k a b => ⟨(q k a (by omega)).1, (q k a (by omega)).2.1, (q k a (by omega)).2.2.1⟩)⟩, h5, h6, h7⟩
  · rw [x.2] at b
    exact (q k a (by omega)).oki (g.q hk (k := 11) (by decide)) (h2 k a b)
  · rw [x.2] at b
    rw [(q k a (by omega)).1] at e
    obtain ⟨j, j0, j1, j2, j3⟩ := h3 k a b e
    exact ⟨j, j0, by rw [x.2]; exact j1, by rw [(q j j0 (by omega)).1]; exact j2, by rw [(q j j0 (by omega)).2.1, (q k a (by omega)).2.1]; exact j3⟩
theorem PLA.kpr (h : PLA σ) (x : KPR σ τ) (g : Fr ss ks js σ τ) (hs : 10 ∉ ss) (hk : ∀ k ∈ [11, 14, 16, 18], k ∉ ks) : PLA τ := by
  obtain ⟨⟨h1, h2⟩, h3⟩ := h
  have b2 : bkm 2 = 6 := rfl
  refine ⟨⟨by rw [g.1 10 hs]; exact h1, fun r a b => ?_⟩, fun r a b => ?_⟩
  · rw [g.1 10 hs] at b
    exact (h2 r a b).kpr x g hs hk (by rw [b2]; omega)
  · rw [g.1 10 hs] at b
    have q9 := (h2 r a b).1
    rw [b2] at q9
    have q : ∀ k, 0 ≤ k → k < 220 → IEQ σ (220 * (6 + r) + k) τ (220 * (6 + r) + k) := fun k a b => x.1 _ (by omega)
    have p := h3 r a b
    unfold PLN kdm dsm at p ⊢
    rw [b2] at p ⊢
    rw [x.2]
    refine ⟨?_, fun p0 j c1 c2 c3 c4 c5 c6 c7 => ?_⟩
    · rw [(q 0 (by omega) (by omega)).1, (q 1 (by omega) (by omega)).1]; exact p.1
    · rw [(q p0 c1 (by omega)).1] at c5
      rw [(q j c3 (by omega)).1] at c6
      rw [(q j c3 (by omega)).2.1, (q p0 c1 (by omega)).2.1] at c7
      rcases p.2 p0 j c1 c2 c3 c4 c5 c6 c7 with y | y
      · exact Or.inl y
      · exact Or.inr (by rw [(q (j + 1) (by omega) (by omega)).1]; exact y)
theorem RUN.kpr (h : RUN σ 0) (gd : GDA σ) (x : KPR σ τ) (g : Fr ss ks js σ τ) (hs : 10 ∉ ss) (hk : ∀ k ∈ [14, 16, 73, 78, 79, 80], k ∉ ks) : RUN τ 0 := by
  obtain ⟨h1, h2, h3, h4⟩ := h
  have e73 := g.q hk (k := 73) (by decide)
  have e78 := g.q hk (k := 78) (by decide)
  have e79 := g.q hk (k := 79) (by decide)
  have e80 := g.q hk (k := 80) (by decide)
  have b0 : bkm 0 = 0 := rfl
  have key : ∀ c, 9 * 0 ≤ c → c < 9 * 0 + σ.2.1 73 0 → (0 ≤ σ.2.1 78 c ∧ σ.2.1 78 c < 6) ∧ (0 ≤ σ.2.1 79 c ∧ σ.2.1 79 c < 220) ∧ σ.2.1 9 (σ.2.1 78 c) ≤ 200 := fun c a b => by
    have p := h2 c a b
    have p1 := p.1
    have p2 := p.2.1
    have q := (gd.2 _ p1.1 p1.2).1
    have r6 := gd.1.2
    rw [b0, Int.zero_add] at p2
    omega
  refine ⟨by rw [e73]; exact h1, fun c a b => ?_, fun c a b => ?_, ?_⟩
  · rw [e73] at b
    rw [e78, e79, e80]
    have k := key c a b
    exact (h2 c a b).kpr x g hs (fun k q => hk k (by revert k q; decide)) (by rw [b0]; omega) (by rw [b0, Int.zero_add]; omega)
  · rw [e73] at b
    rw [e78, e79]
    have k := key c a (by omega)
    have z := h3 c a b
    unfold kdm at z ⊢
    rw [b0] at z ⊢
    rw [(x.1 _ (by omega)).1]
    exact z
  · rw [dpt_dsum] at h4 ⊢
    rw [e73, e78, e80, dsum_fr g (hk 16 (by decide))]
    exact h4
end KP
/-- what stands behind a read -/
def RDQ (σ τ : MS) : Prop := GDA τ ∧ PLA τ ∧ ITM τ ∧ PAR τ ∧ NAM τ ∧ BO 48 τ ∧ (τ.1 67 = 0 ∨ (τ.1 67 = σ.1 67 ∧ τ.1 68 = σ.1 68 ∧ (RUN σ 0 → RUN τ 0)))
def RDH (σ : MS) : Prop := GDA σ ∧ PLA σ ∧ ITM σ ∧ PAR σ ∧ NAM σ ∧ BO 48 σ
theorem RDQ.keep {σ τ : MS} (h : RDH σ) (x : KPR σ τ) (f : Fr [0, 2, 19, 20, 21, 22, 23, 25, 26, 27, 28, 29, 30, 31, 32, 33, 34, 39, 40, 43] [3, 4, 5, 6, 7, 8, 9, 35, 36, 37, 41, 42, 45] [24, 38, 44] σ τ) : RDQ σ τ := by
  obtain ⟨h1, h2, h3, h4, h5, h6⟩ := h
  refine ⟨h1.kpr h5 x f (by decide) (by decide), h2.kpr x f (by decide) (by decide), fun r a b => by rw [x.2]; exact h3 r a b, fun r a b => by rw [f.2.1 11 (by decide)]; exact h4 r a b, fun r a b => by rw [f.2.1 12 (by decide)]; exact h5 r a b, h6.fr f (by decide), Or.inr ⟨f.1 67 (by decide), f.1 68 (by decide), fun r => r.kpr h1 x f (by decide) (by decide)⟩⟩
theorem GKP.kpr {w : Int} {σ τ : MS} (h : GKP w σ τ) (hw : w ≠ 3) : KPR σ τ := h.1 hw
/-- tables of routine r as the reader lays them -/
def DNR (σ : MS) (r : Int) : Prop := σ.2.1 14 r = 1 ∧ σ.2.1 15 (12 * r) = r ∧ σ.2.1 16 (12 * r) = -1 ∧ (∀ n, 0 ≤ n → n < 12 → σ.2.1 18 (144 * r + n) = n) ∧ σ.2.1 9 (6 + r) = σ.2.1 9 r ∧ ∀ k, 0 ≤ k → k < σ.2.1 9 r → IEQ σ (220 * r + k) σ (220 * (6 + r) + k)
theorem PLI.cw {σ : MS} {r F R : Int} {FI : Int → Int} (h : PLI σ r) (hF : 1 ≤ F) (hR : σ.1 43 ≤ R) : CW (σ.2.1 9 r) F R (iK σ r) (iD σ r) (iO σ r) FI (fun _ => 0) (fun _ => 0) := by
  obtain ⟨h1, h2, ⟨l, h3, w0, w1, w2, w3, w4⟩, h5, h6⟩ := h
  have lt : ∀ k, 0 ≤ k → k < σ.2.1 9 r → iK σ r k ≠ 7 → k < σ.2.1 9 r - 1 := fun k a b c => by
    by_cases z : k = σ.2.1 9 r - 1
    · rw [z] at c; exact absurd h5 c
    · omega
  refine ⟨rfl, fun _ _ _ => ⟨Int.le_refl _, show (0 : Int) < F by omega⟩, fun k a b x7 x8 => ?_, fun k _ _ => ⟨fun _ => rfl, fun _ => rfl⟩, fun k a b e => ?_⟩
  · have y := lt k a b x7
    have q := w1 k a y
    exact ⟨by omega, fun z => absurd z q.1, fun z => absurd z q.2.1, fun _ _ => rfl⟩
  · have y := lt k a b (by omega)
    obtain ⟨q, j, j0, j1, j2, j3, j4⟩ := w4 k a y e
    exact ⟨by omega, j, j0, j1, j2, j3, fun i x z => (j4 i x z).2⟩
theorem PLI.lex {σ : MS} {r : Int} (h : PLI σ r) : LEX σ r := fun k a b e => by
  obtain ⟨h1, h2, ⟨l, h3, w0, w1, w2, w3, w4⟩, h5, h6⟩ := h
  have y : k < σ.2.1 9 r - 1 := by
    by_cases z : k = σ.2.1 9 r - 1
    · rw [z] at e
      simp only [iK] at h5
      omega
    · omega
  obtain ⟨j, j0, j1, j2, j3⟩ := w2 k a y e
  exact ⟨j, j0, by omega, j2, j3⟩
theorem GDR.plain {σ : MS} {r : Int} (h : PLI σ r) (d : DNR σ r) (hr : 0 ≤ r ∧ r < 6) (e43 : σ.1 43 = σ.1 10) (hn : 0 ≤ σ.2.1 12 r ∧ σ.2.1 12 r ≤ 12) (hp : σ.2.1 11 r ≤ σ.2.1 12 r) : GDR σ r := by
  have lx := h.lex
  have cw := h.cw (F := σ.2.1 14 r) (R := σ.1 10) (FI := iF σ r) (by rw [d.1]; decide) (by omega)
  obtain ⟨d1, d2, d3, d4, d5, d6⟩ := d
  obtain ⟨h1, h2, ⟨l, h3, w0, w1, w2, w3, w4⟩, h5, h6⟩ := h
  have z0 : (12 : Int) * r + 0 = 12 * r := by omega
  refine ⟨by omega, ⟨by rw [d1]; decide, fun f a b => ?_⟩, fun k a b => by rw [d1]; exact h2 k a b, by unfold FR0; rw [z0]; exact d2, lx, ⟨_, _, cw⟩, ⟨by rw [z0]; exact d3, fun f a b => by rw [d1] at b; omega⟩, fun k a b e => ?_, hp⟩
  · have f0 : f = 0 := by rw [d1] at b; omega
    rw [f0, z0, d2]
    refine ⟨hr, fun n x y => ?_⟩
    rw [show 144 * r + 12 * 0 + n = 144 * r + n by omega, d4 n x (by omega)]
    omega
  · rw [d1]
    have y : k < σ.2.1 9 r - 1 := by
      by_cases z : k = σ.2.1 9 r - 1
      · rw [z] at e
        simp only [iK] at h5
        omega
      · omega
    have q := (w1 k a y).2.2 e
    simp only [iD] at q
    omega
theorem BKG.plain {σ : MS} {r : Int} (h : PLI σ r) (d : DNR σ r) (hr : 0 ≤ r ∧ r < 6) (e43 : σ.1 43 = σ.1 10) : BKG σ 2 r ∧ PLN σ r := by
  have lx := h.lex
  have cw := h.cw (F := 1) (R := σ.1 10) (FI := prm σ 2 r) (by decide) (by omega)
  obtain ⟨d1, d2, d3, d4, d5, d6⟩ := d
  obtain ⟨h1, h2, ⟨l, h3, w0, w1, w2, w3, w4⟩, h5, h6⟩ := h
  have b2 : bkm 2 = 6 := rfl
  have f2 : fm σ 2 r = 1 := rfl
  unfold BKG PLN kdm dsm
  rw [b2, f2, d5]
  refine ⟨⟨by omega, fun k a b => ?_, fun k a b e => ?_, ⟨_, _, cw.ext (fun k a b => ⟨(d6 k a b).1, (d6 k a b).2.1, (d6 k a b).2.2.1⟩)⟩, by decide, fun f a b => ?_, fun n _ _ z => absurd rfl z⟩, ?_, fun p j c1 c2 c3 c4 c5 c6 c7 => ?_⟩
  · rw [d5] at b
    exact (d6 k a b).oki rfl (h2 k a b)
  · rw [d5] at b
    rw [(d6 k a b).1] at e
    obtain ⟨j, j0, j1, j2, j3⟩ := lx k a b e
    exact ⟨j, j0, by rw [d5]; exact j1, by rw [(d6 j j0 j1).1]; exact j2, by rw [(d6 j j0 j1).2.1, (d6 k a b).2.1]; exact j3⟩
  · show -1 ≤ (-1 : Int) ∧ (-1 : Int) < f
    omega
  · rw [(d6 0 (by omega) (by omega)).1]
    rcases h6 with e | e | e
    · exact Or.inl e
    · exact Or.inr (Or.inl e)
    · by_cases z : σ.2.1 9 r = 1
      · rw [z] at h5
        have y : iK σ r 0 = 7 := h5
        exact Or.inr (Or.inl y)
      · rw [(d6 1 (by omega) (by omega)).1]
        exact Or.inr (Or.inr e)
  · have lt : ∀ k, 0 ≤ k → k < σ.2.1 9 r → iK σ r k ≠ 7 → k < σ.2.1 9 r - 1 := fun k a b c => by
      by_cases z : k = σ.2.1 9 r - 1
      · rw [z] at c; exact absurd h5 c
      · omega
    rw [(d6 p c1 c2).1] at c5
    rw [(d6 j c3 c4).1] at c6
    rw [(d6 j c3 c4).2.1, (d6 p c1 c2).2.1] at c7
    have y1 := lt p c1 c2 (by simp only [iK]; omega)
    have y2 := lt j c3 c4 (by simp only [iK]; omega)
    rcases w3 p j c1 y1 c3 y2 c5 c6 c7 with q | q
    · exact Or.inl q
    · exact Or.inr (by rw [(d6 (j + 1) (by omega) (by omega)).1]; exact q.1)
/-- one go's events are good for the last -/
theorem E2.e3 {σ τ : MS} {e : EV} (h : E2 σ e) (e43 : τ.1 43 = σ.1 43) (e44 : τ.2.2 44 = σ.2.2 44) (h6 : σ.1 43 ≤ 6) (h11 : ∀ v, 0 ≤ v → v < σ.1 43 → τ.2.1 11 v = σ.2.1 45 v) : E3 τ e := ⟨h.1, fun z => by
  obtain ⟨v, a, b, c⟩ := h.2 z
  refine ⟨v, by rw [e43]; exact a, by omega, ?_, by rw [h11 v a.1 a.2]; exact c⟩
  unfold RBY; rw [e43, e44]; exact b⟩
theorem IEQ.symm {σ τ : MS} {x y : Int} (h : IEQ σ x τ y) : IEQ τ y σ x := ⟨h.1.symm, h.2.1.symm, h.2.2.1.symm, h.2.2.2.1.symm, fun i a b => ⟨(h.2.2.2.2 i a b).1.symm, (h.2.2.2.2 i a b).2.symm⟩⟩
theorem DNR.oth {σ τ : MS} {j : Int} (h : DNR σ j) (e14 : τ.2.1 14 j = σ.2.1 14 j) (e15 : τ.2.1 15 (12 * j) = σ.2.1 15 (12 * j)) (e16 : τ.2.1 16 (12 * j) = σ.2.1 16 (12 * j)) (e18 : ∀ n, 0 ≤ n → n < 12 → τ.2.1 18 (144 * j + n) = σ.2.1 18 (144 * j + n)) (e9 : τ.2.1 9 j = σ.2.1 9 j) (e96 : τ.2.1 9 (6 + j) = σ.2.1 9 (6 + j)) (h220 : σ.2.1 9 j ≤ 220) (ia : ∀ k, 0 ≤ k → k < 220 → IEQ σ (220 * j + k) τ (220 * j + k)) (ib : ∀ k, 0 ≤ k → k < 220 → IEQ σ (220 * (6 + j) + k) τ (220 * (6 + j) + k)) : DNR τ j := by
  obtain ⟨d1, d2, d3, d4, d5, d6⟩ := h
  refine ⟨e14.trans d1, e15.trans d2, e16.trans d3, fun n a b => (e18 n a b).trans (d4 n a b), by rw [e9, e96]; exact d5, fun k a b => ?_⟩
  rw [e9] at b
  exact (ia k a (by omega)).symm.trans ((d6 k a b).trans (ib k a (by omega)))
theorem PLI.mv {σ τ : MS} {r : Int} (h : PLI σ r) (ie : ∀ k, 0 ≤ k → k < 220 → IEQ σ (220 * r + k) τ (220 * r + k)) (e9 : τ.2.1 9 r = σ.2.1 9 r) (e43 : τ.1 43 = σ.1 43) (e11 : τ.2.1 11 = σ.2.1 11) : PLI τ r := by
  obtain ⟨h1, h2, ⟨l, h4, h5⟩, h6, h7⟩ := h
  unfold PLI
  rw [e9]
  refine ⟨h1, fun k a b => (ie k a (by omega)).oki e11 (h2 k a b), ⟨l, h4, ?_⟩, (ie _ (by omega) (by omega)).1.trans h6, ?_⟩
  · rw [e43]
    exact h5.ext (fun k a b => ⟨(ie k a (by omega)).1, (ie k a (by omega)).2.1, (ie k a (by omega)).2.2.1⟩)
  · have a0 : iK τ r 0 = iK σ r 0 := (ie 0 (by omega) (by omega)).1
    have a1 : iK τ r 1 = iK σ r 1 := (ie 1 (by omega) (by omega)).1
    rw [a0, a1]; exact h7
theorem KPR.fr {ss ks js : List Nat} {σ τ : MS} (f : Fr ss ks js σ τ) (hk : ∀ k ∈ [3, 4, 5, 6, 7, 8, 9], k ∉ ks) : KPR σ τ := ⟨fun _ _ => IEQ.of f (fun k q => hk k (by revert k q; decide)), f.2.1 9 (hk 9 (by decide))⟩
theorem GQ1.det {w u : Int} {α β γ δ : MS} (h : GQ1 w α β) (g : GQ1 u γ δ) (e : sv γ = sv α) : δ.1 30 = β.1 30 := by
  obtain ⟨t1, x1, l1, e1, ⟨r1, -⟩, n1, -⟩ := h
  obtain ⟨t2, x2, l2, e2, ⟨r2, -⟩, n2, -⟩ := g
  rw [e] at r2
  have z := RCm.det r1.rc r2.rc rfl rfl
  have y : l1 = l2 := congrArg (fun q => q.2.2.2.2) z
  rw [← n1, ← n2, y]

