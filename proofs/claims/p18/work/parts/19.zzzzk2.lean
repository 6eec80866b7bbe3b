section
section SDES
variable {T : CT} {σ σ2 τ τ2 : MS} {o p xa xb xc xd xe xf y : Nat} {C : Int → Nat} {m u v g x : Int} {W : Int → Int} {L : List E8} {e : E8}
theorem k15_no (b : BKA τ 2) {r k : Int} (hr : 0 ≤ r ∧ r < τ.1 10) (hk : 0 ≤ k ∧ k < τ.2.1 9 (bkm 2 + r)) : τ.2.1 3 (220 * (bkm 2 + r) + k) ≠ 15 := fun z => by
  obtain ⟨-, -, -, ⟨fr, lf, cw⟩, -⟩ := b.2 r hr.1 hr.2
  have f1 : fm τ 2 r = 1 := rfl
  rw [f1] at cw
  have a := cw.2.1 k hk.1 hk.2
  have q : iK τ (bkm 2 + r) k = 15 := z
  have c := (cw.2.2.1 k hk.1 hk.2 (by omega) (by omega)).2.2.1 q
  omega
theorem vw_stq2 (hr : RUN τ m) (hb : BKA τ m) (np : PAR τ) (hs : STQ τ m v τ2) : STQ (vwm m g τ) 0 v (vwm m g τ2) := by
  have h73 := hr.1
  have pl := hr.2.1 (9 * m + τ.2.1 73 m - 1) (by omega) (by omega)
  have ok := (hb.2 _ pl.1.1 pl.1.2).2.1 _ pl.2.1.1 pl.2.1.2
  refine vw_stq np (fun z => ?_) (fun z => ok.2.2.2.2.2.2.1 z) hs
  subst z
  exact k15_no hb pl.1 pl.2.1
theorem ev_n (h : e.1 ≠ 0) : ev8 e = [e] := if_neg (fun q => h (by rw [q]))
theorem lpn_0 (h : e.1 ≠ 1) (z : Int) : lpn8 (L ++ ev8 e) z = lpn8 L z := by
  rw [lpn8_app]
  by_cases q : e.1 = 0
  · unfold ev8
    split
    · rfl
    · show (if e.1 = 1 then e.2 else lpn8 L z) = lpn8 L z
      rw [if_neg h]
  · rw [ev_n q]
    show (if e.1 = 1 then e.2 else lpn8 L z) = lpn8 L z
    rw [if_neg h]
theorem lpn_1 {n : Int} (z : Int) : lpn8 (L ++ ev8 (1, n)) z = n := by
  rw [lpn8_app, ev_n (by show (1 : Int) ≠ 0; decide)]
  rfl
theorem nl_0 (h : e.1 ≠ 2) : nl8 (L ++ ev8 e) = nl8 L := by
  rw [nl8_app]
  by_cases q : e.1 = 0
  · unfold ev8
    split
    · rfl
    · show nl8 L + ((if e.1 = 2 then 1 else 0) + 0) = nl8 L
      rw [if_neg h]; rfl
  · rw [ev_n q]
    show nl8 L + ((if e.1 = 2 then 1 else 0) + 0) = nl8 L
    rw [if_neg h]; rfl
def SDE (σ : MS) (o xa xb xc xd xe xf : Nat) (C : Int → Nat) (m : Int) (τ : MS) (x : Int) (W : Int → Int) (L : List E8) : Prop := RGG σ o xa xb xc xd xe xf C (vwm m (σ.2.1 67 o) τ) ∧ EVR τ m x W L ∧ σ.2.1 66 o = lpn8 L 0 ∧ τ.2.1 75 m = 0
def SDD (σ : MS) (o : Nat) (m : Int) (τ : MS) (x : Int) (W : Int → Int) (L : List E8) (u : Int) : Prop := RN8 τ m x W L [] ∧ PRT8 τ m (pnm L) ∧ (σ.2.1 65 o = τ.2.1 76 m ∧ σ.2.1 66 o = lpn8 L 0 ∧ σ.2.1 68 o = τ.2.1 75 m) ∧ ∃ L0 : List E8, (u = 2 ∧ σ.2.1 56 o = 2 ∧ L = L0 ++ [(3, τ.2.1 75 m)]) ∨ (u = 3 ∧ σ.2.1 56 o = 3 ∧ L = L0 ++ [(4, 0)] ∧ τ.2.1 75 m = 0)
theorem sde_st (S : SDE σ o xa xb xc xd xe xf C m τ x W L) (hw : RWF T σ o xa xb xc xd xe xf y C (vwm m (σ.2.1 67 o) τ)) (gx : GDX (vwm m (σ.2.1 67 o) τ)) (hr : RUN τ m) (hb : BKA τ m) (np : PAR τ) (gd : m ≠ 2 → GDA τ) (bp : 0 ≤ τ.2.1 76 m ∧ τ.2.1 76 m ≤ 1000000000) (bg : 0 ≤ σ.2.1 67 o ∧ σ.2.1 67 o ≤ 1500000000) (hj : JST T σ o xa xb xc xd xe xf y v σ2) (hs : STQ τ m u τ2) :
    ∃ L2, ((u = 1 → nl8 L2 = nl8 L + 1 ∧ ∃ L0 : List E8, L2 = L0 ++ [(2, 0)]) ∧ (u ≠ 1 → nl8 L2 = nl8 L)) ∧ (((u = 0 ∨ u = 1) ∧ v = u ∧ SDE σ2 o xa xb xc xd xe xf C m τ2 x W L2 ∧ σ2.2.1 67 o = σ.2.1 67 o + 1) ∨ ((u = 2 ∨ u = 3) ∧ v = 0 ∧ SDD σ2 o m τ2 x W L2 u)) := by
  obtain ⟨s1, s2, s3, s4⟩ := S
  have hsv := vw_stq2 (g := σ.2.1 67 o) hr hb np hs
  have io := step7 s1 hw gx (vw_run hr) (by rw [vw_76]; exact bp) bg hj hsv
  obtain ⟨e, sh, rn, pt⟩ := s2.st hr hb np gd hs
  obtain ⟨t, et⟩ : ∃ t, t = τ.2.1 73 m - 1 := ⟨_, rfl⟩
  have c9 : 9 * m + τ.2.1 73 m - 1 = 9 * m + t := by omega
  obtain ⟨q, eq⟩ : ∃ q, q = 220 * τ.2.1 78 (9 * m + t) + τ.2.1 79 (9 * m + t) := ⟨_, rfl⟩
  have q66 := sim66 s1.2.1 hw gx.1 (vw_run hr) bg hj (t := t) (q := q) (by rw [vw_73]; exact et) (by rw [vw_78, vw_79]; exact eq)
  obtain ⟨X, eX⟩ : ∃ X, X = 220 * (bkm m + τ.2.1 78 (9 * m + τ.2.1 73 m - 1)) + τ.2.1 79 (9 * m + τ.2.1 73 m - 1) := ⟨_, rfl⟩
  have eXq : X = 220 * bkm m + q := by rw [eX, eq, c9]; omega
  rw [vw_i (k := 3) (by decide) eXq, vw_wa (c := 9 * m + t) rfl eXq] at q66
  have h66 : σ2.2.1 66 o = lpn8 (L ++ ev8 e) 0 := by
    have no : τ2.2.1 76 = τ.2.1 76 → e.1 ≠ 1 → σ2.2.1 66 o = lpn8 (L ++ ev8 e) 0 := fun h6 he => by
      rw [lpn_0 he, ← s3]
      rcases q66 with ⟨k6, -⟩ | ⟨-, k⟩
      · have z := stq_out hs (by rw [← eX]; exact k6)
        rw [h6] at z
        omega
      · exact k
    rcases sh with ⟨-, e1, h6, -⟩ | ⟨-, e1, h6, -⟩ | ⟨-, e1, h6, -⟩ | ⟨-, e1, h6, -⟩ | ⟨-, z, e1, ⟨o1, o2⟩, -⟩
    · exact no h6 (by rw [e1]; decide)
    · exact no h6 (by rw [e1]; show (3 : Int) ≠ 1; decide)
    · exact no h6 (by rw [e1]; decide)
    · exact no h6 (by rw [e1]; decide)
    · rw [e1, lpn_1]
      rw [← eX] at o1 o2
      rcases q66 with ⟨-, k⟩ | ⟨k6, -⟩
      · rw [k, o2, c9]
      · exact absurd o1 k6
  have hl : (u = 1 → nl8 (L ++ ev8 e) = nl8 L + 1 ∧ ∃ L0 : List E8, L ++ ev8 e = L0 ++ [(2, 0)]) ∧ (u ≠ 1 → nl8 (L ++ ev8 e) = nl8 L) := by
    rcases sh with ⟨h1, e1, -⟩ | ⟨h1, e1, -⟩ | ⟨h1, e1, -⟩ | ⟨h1, e1, -⟩ | ⟨h1, z, e1, -⟩
    · exact ⟨fun z => by omega, fun _ => nl_0 (by rw [e1]; decide)⟩
    · exact ⟨fun z => by omega, fun _ => nl_0 (by rw [e1]; show (3 : Int) ≠ 2; decide)⟩
    · refine ⟨fun _ => ⟨?_, L, by rw [e1, ev_n (by decide)]⟩, fun z => absurd h1 z⟩
      rw [e1, ev_n (by decide), nl8_app]
      rfl
    · exact ⟨fun z => by omega, fun _ => nl_0 (by rw [e1]; decide)⟩
    · exact ⟨fun z => by omega, fun _ => nl_0 (by rw [e1]; show (1 : Int) ≠ 2; decide)⟩
  refine ⟨L ++ ev8 e, hl, ?_⟩
  rcases io with ⟨u3, v0, et2, es2⟩ | ⟨u2, v0, ⟨h56, -, -⟩, hq⟩ | ⟨hu, hv, ⟨h56, h67⟩, hx2, hq⟩
  · refine Or.inr ⟨Or.inr u3, v0, ?_⟩
    rw [if_pos (Or.inr u3)] at rn
    have e1 : e = (4, 0) ∧ τ2.2.1 76 = τ.2.1 76 := by
      rcases sh with ⟨h1, e1, h6, -⟩ | ⟨h1, -⟩ | ⟨h1, -⟩ | ⟨h1, -⟩ | ⟨h1, -⟩
      · exact ⟨e1, h6⟩
      all_goals omega
    have e75 := stq_75 hs (by omega)
    have rq := s1.2.2.1
    refine ⟨rn, pt, ⟨?_, h66, ?_⟩, L, Or.inr ⟨u3, by rw [es2]; exact ra_eq, by rw [e1.1, ev_n (by decide)], e75.trans s4⟩⟩
    · rw [es2, sA_k (by decide), rq.1, vw_76, e1.2]
    · rw [es2, sA_k (by decide), rq.2.2, vw_75, e75]
  · refine Or.inr ⟨Or.inl u2, v0, ?_⟩
    rw [if_pos (Or.inl u2)] at rn
    have e1 : e = (3, τ2.2.1 75 m) := by
      rcases sh with ⟨h1, -⟩ | ⟨h1, e1, -⟩ | ⟨h1, -⟩ | ⟨h1, -⟩ | ⟨h1, -⟩
      · omega
      · exact e1
      all_goals omega
    refine ⟨rn, pt, ⟨by rw [hq.1, vw_76], h66, by rw [hq.2.2, vw_75]⟩, L, Or.inl ⟨u2, h56, ?_⟩⟩
    rw [e1, ev_n (by show (3 : Int) ≠ 0; decide)]
  · refine Or.inl ⟨hu, hv, ⟨⟨h56, hx2.tc ⟨rfl, rfl, rfl, rfl, rfl, rfl, rfl⟩, hq.cg ⟨rfl, rfl, rfl⟩ ⟨rfl, rfl, rfl⟩, rfl⟩, ⟨?_, pt⟩, h66, (stq_75 hs (by omega)).trans s4⟩, h67⟩
    rw [if_neg (by omega)] at rn
    exact rn
theorem SDE.chx {l : List (Nat × Nat)} {xs : List Nat} (S : SDE σ o xa xb xc xd xe xf C m τ x W L) (c : CHX l xs [] σ σ2) (hl : ∀ f, (56 ≤ f ∧ f ≤ 69) → (f, o) ∉ l) (hx : xa ∉ xs ∧ xb ∉ xs ∧ xc ∉ xs ∧ xd ∉ xs ∧ xe ∉ xs ∧ xf ∉ xs) : SDE σ2 o xa xb xc xd xe xf C m τ x W L := by
  obtain ⟨⟨r1, r2, r3, r4⟩, s2, s3, s4⟩ := S
  have f : ∀ f : Nat, (56 ≤ f ∧ f ≤ 69) → σ2.2.1 f (o : Int) = σ.2.1 f o := fun n hn => c.f (by omega) (hl n hn)
  refine ⟨⟨(f 56 (by decide)).trans r1, ?_, ?_, rfl⟩, s2, (f 66 (by decide)).trans s3, s4⟩
  · rw [f 67 (by decide)]
    exact r2.cg ⟨f 57 (by decide), f 58 (by decide), f 69 (by decide)⟩ ⟨c.r hx.1, c.r hx.2.1, c.r hx.2.2.1, c.r hx.2.2.2.1, c.r hx.2.2.2.2.1⟩
  · rw [f 67 (by decide)]
    exact r3.cg ⟨f 65 (by decide), f 68 (by decide), c.r hx.2.2.2.2.2⟩ ⟨rfl, rfl, rfl⟩
theorem SDE.xj {ss ks js : List Nat} (S : SDE σ o xa xb xc xd xe xf C m τ x W L) (z : 0 ≤ τ.2.1 73 m ∧ τ.2.1 73 m ≤ 9) (xj : XJ m τ τ2) (F : Fr ss ks js τ τ2) (hs : 10 ∉ ss) (hk : ∀ k ∈ [3, 4, 5, 6, 7, 8, 9, 11, 12, 14, 15, 16, 17, 18], k ∉ ks) : SDE σ o xa xb xc xd xe xf C m τ2 x W L := by
  obtain ⟨⟨r1, r2, r3, r4⟩, s2, s3, s4⟩ := S
  have q := vw_rqm (g := σ.2.1 67 o) xj (F.2.1 16 (hk 16 (by decide)))
  exact ⟨⟨r1, r2.rmq q, r3.rmq q, rfl⟩, s2.xj z xj F hs hk, s3, xj.2.1.trans s4⟩
theorem SDD.chx {l : List (Nat × Nat)} {xs : List Nat} (S : SDD σ o m τ x W L u) (c : CHX l xs [] σ σ2) (hl : ∀ f, (56 ≤ f ∧ f ≤ 69) → (f, o) ∉ l) : SDD σ2 o m τ x W L u := by
  have f : ∀ f : Nat, (56 ≤ f ∧ f ≤ 69) → σ2.2.1 f (o : Int) = σ.2.1 f o := fun n hn => c.f (by omega) (hl n hn)
  unfold SDD at S ⊢
  rw [f 65 (by decide), f 66 (by decide), f 68 (by decide), f 56 (by decide)]
  exact S
theorem SDD.xj {ss ks js : List Nat} (S : SDD σ o m τ x W L u) (xj : XJ m τ τ2) (F : Fr ss ks js τ τ2) (hs : 10 ∉ ss) (hk : ∀ k ∈ [3, 4, 5, 6, 7, 8, 9, 11, 12, 14, 15, 16, 17, 18], k ∉ ks) : SDD σ o m τ2 x W L u := by
  obtain ⟨h1, h2, h3, h4⟩ := S
  refine ⟨h1.fr F hs hk, h2.cg xj.1.1.2 xj.2.2.1, ?_, ?_⟩
  · rw [xj.1.1.2, xj.2.1]; exact h3
  · rw [xj.2.1]; exact h4
end SDES
end
