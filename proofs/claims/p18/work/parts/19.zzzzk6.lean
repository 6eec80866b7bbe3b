section
section SS9S
variable {T : CT} {σ σ1 σ2 σ3 τ : MS} {o a to pl txa txb txc txd txe txf pxa pxb pxc pxd pxe pxf y yy xa xb xc xd xe xf : Nat} {C M : Int → Nat} {k w s g g2 m n e v : Int}
def SQ7 (σ σ2 : MS) : Prop := ∀ k : Nat, k ≠ 2 → k ≠ 3 → k ≠ 70 → k ≠ 71 → σ2.2.1 k = σ.2.1 k
theorem SQ7.of {l : List (Nat × Nat)} (h : CHX l [] [] σ σ2) (hl : ∀ p, p ∈ l → p.1 = 2 ∨ p.1 = 3 ∨ p.1 = 70 ∨ p.1 = 71) : SQ7 σ σ2 := fun k h2 h3 h4 h5 => by
  by_cases z : k < 1000
  · funext i
    exact h.1 k i z (fun q hq e => by
      have w := hl q hq
      have e' : q.1 = k := e
      omega)
  · rw [show k = 1000 + (k - 1000) by omega]
    exact h.2.1 (k - 1000) List.not_mem_nil
theorem SQ7.csm (h : SQ7 σ σ2) {c : Nat} : CSM σ σ2 c := ⟨fun f f0 f1 => by rw [h f (by omega) (by omega) (by omega) (by omega)], fun f hf => h _ (by omega) (by omega) (by omega) (by omega)⟩
theorem SQ7.ad (h : SQ7 σ σ2) {f c : Nat} (hf : f ≠ 2 ∧ f ≠ 3 ∧ f ≠ 70 ∧ f ≠ 71) : adN σ2 f c = adN σ f c := by
  unfold adN
  rw [h f hf.1 hf.2.1 hf.2.2.1 hf.2.2.2]
theorem SQ7.rw (h : SQ7 σ σ2) (x : Nat) : σ2.2.1 (1000 + x) = σ.2.1 (1000 + x) := h _ (by omega) (by omega) (by omega) (by omega)
theorem RCX.csm {c : Nat} {q : Int} (h : RCX T σ τ o xa xb xc xd xe xf c q) (cs : CSM σ σ2 c) : RCX T σ2 τ o xa xb xc xd xe xf c q := by
  obtain ⟨h1, h2, h3, h4, h5, h6⟩ := h
  have fe : ∀ f : Nat, 5 ≤ f → f ≤ 16 → σ2.2.1 f (c : Int) = σ.2.1 f c := fun f f0 f1 => cs.1 f f0 f1
  have ad : ∀ f : Nat, 5 ≤ f → f ≤ 16 → adN σ2 f c = adN σ f c := fun f f0 f1 => cs.ad f0 f1
  refine ⟨h1, ⟨by rw [cs.s]; exact h2.1, by rw [fe 8 (by decide) (by decide)]; exact h2.2⟩, ⟨by rw [cs.w, fe 6 (by decide) (by decide)]; exact h3.1, by rw [cs.w, fe 6 (by decide) (by decide)]; exact h3.2.1, fun f f0 f1 => ?_⟩, ⟨by rw [ad 5 (by decide) (by decide), fe 5 (by decide) (by decide)]; exact h4.1, by rw [ad 12 (by decide) (by decide), fe 12 (by decide) (by decide)]; exact h4.2.1, by rw [ad 15 (by decide) (by decide), fe 15 (by decide) (by decide)]; exact h4.2.2⟩, ⟨by rw [ad 5 (by decide) (by decide), fe 6 (by decide) (by decide)]; exact h5.1, by rw [ad 12 (by decide) (by decide)]; exact h5.2.1, by rw [ad 15 (by decide) (by decide)]; exact h5.2.2⟩, fun f hf => ?_⟩
  · rw [fe 10 (by decide) (by decide)] at f1
    rw [cs.rw (f := 14) (by decide) (by decide) (by decide), cs.rw (f := 11) (by decide) (by decide) (by decide)]
    exact h3.2.2 f f0 f1
  · have f1 : 5 ≤ f ∧ f ≤ 16 := (by decide : ∀ f ∈ AF6, 5 ≤ f ∧ f ≤ 16) f hf
    rw [ad f f1.1 f1.2]
    exact h6 f hf
theorem RWF.csm (h : RWF T σ o xa xb xc xd xe xf y C τ) (cs : ∀ q, 0 ≤ q → q < τ.1 10 → CSM σ σ2 (C q)) (ey : σ2.2.1 (1000 + y) = σ.2.1 (1000 + y)) : RWF T σ2 o xa xb xc xd xe xf y C τ :=
  ⟨h.1, h.2.1, ⟨fun q a b => by rw [ey]; exact h.2.2.1.1 q a b, h.2.2.1.2⟩, fun q a b => (h.2.2.2 q a b).csm (cs q a b)⟩
def SY9 (T : CT) (σ : MS) (o xa xb xc xd xe xf : Nat) (C : Int → Nat) (y : Nat) (τ : MS) : Prop := σ.2.1 56 o = 1 ∧ RXC σ o xa xb xc xd xe C τ ∧ RWF T σ o xa xb xc xd xe xf y C τ ∧ GDA τ ∧ RUN τ 0
theorem SY9.sq (h : SY9 T σ o xa xb xc xd xe xf C y τ) (q : SQ7 σ σ2) : SY9 T σ2 o xa xb xc xd xe xf C y τ := by
  obtain ⟨h1, h2, h3, h4, h5⟩ := h
  have f : ∀ f : Nat, f ≠ 2 → f ≠ 3 → f ≠ 70 → f ≠ 71 → σ2.2.1 f (o : Int) = σ.2.1 f o := fun n a b c d => by rw [q n a b c d]
  exact ⟨(f 56 (by decide) (by decide) (by decide) (by decide)).trans h1, h2.cg ⟨f 57 (by decide) (by decide) (by decide) (by decide), f 58 (by decide) (by decide) (by decide) (by decide), f 69 (by decide) (by decide) (by decide) (by decide)⟩ ⟨q.rw _, q.rw _, q.rw _, q.rw _, q.rw _⟩, h3.csm (fun _ _ _ => q.csm) (q.rw _), h4, h5⟩
def TL9 (T : CT) (σ : MS) (C : Int → Nat) (τ : MS) : Prop := ∀ q, 0 ≤ q → q < τ.1 10 → TLX9 T σ (C q) q ∧ RTC σ (C q) ∧ (T (adN σ 14 (C q))).2 = 12 ∧ (T (adN σ 11 (C q))).2 = 12 ∧ σ.2.1 7 (C q) = τ.2.1 12 q
theorem TL9.sq (h : TL9 T σ C τ) (q : SQ7 σ σ2) : TL9 T σ2 C τ := fun r r0 r1 => by
  obtain ⟨⟨t, t1, t2, t3⟩, h2, h3, h4, h5⟩ := h r r0 r1
  have cs : CSM σ σ2 (C r) := q.csm
  refine ⟨⟨t, by rw [q 900 (by decide) (by decide) (by decide) (by decide)]; exact t1, by rw [q.rw]; exact tkc_m cs t2, ?_⟩, rtc_m cs h2, by rw [cs.ad (by decide) (by decide)]; exact h3, by rw [cs.ad (by decide) (by decide)]; exact h4, (cs.1 7 (by decide) (by decide)).trans h5⟩
  rw [cs.1 6 (by decide) (by decide), cs.1 10 (by decide) (by decide), cs.rw (f := 14) (by decide) (by decide) (by decide)]
  exact t3
theorem vw1_k {k : Nat} (h : k ∉ GWK) : (vwm 1 g τ).2.1 k = τ.2.1 k := by
  rw [vw_k h]
  unfold bk2
  rw [if_neg (by decide)]
theorem vw2_14 {j : Int} : (vwm 2 g τ).2.1 14 j = 1 := by
  rw [vw_k (by decide)]
  unfold bk2
  rw [if_pos rfl, vb_14]
theorem vw2_15 {j : Int} : (vwm 2 g τ).2.1 15 j = j / 12 := by
  rw [vw_k (by decide)]
  unfold bk2
  rw [if_pos rfl, vb_15]
theorem vw1_tld {q K F : Int} {d : DT} : TLD (vwm 1 g τ) q K F m d = TLD τ q K F m d := by
  have f : Fr [67, 68, 69, 70] GWK [] (bk2 1 τ) (vwm 1 g τ) := vwm_fr
  rw [show bk2 1 τ = τ from if_neg (by decide)] at f
  exact tld_fr f (by decide)
theorem rnd9 (tp : to ≠ pl) (A : SY9 T σ1 to txa txb txc txd txe txf C y (vwm 1 g τ)) (B : SY9 T σ1 pl pxa pxb pxc pxd pxe pxf M yy (vwm 2 g2 τ)) (tl : TL9 T σ1 C τ) (tm : ∀ q, 0 ≤ q → q < τ.1 10 → (T (adN σ1 11 (M q))).2 = 12) (np : PAR τ) (hW : CDW (vwm 1 g τ)) (hk : 0 ≤ k ∧ k < dpt τ 1) (h : SSR9 T σ1 a to pl txa txb txc txd txe y pxa pxc pxd pxe yy k s w σ3) : (FAL τ k → (w = 1 ↔ s = 1)) ∧ (NFA τ k → w = 0) := by
  obtain ⟨b, v, σ2, ⟨σa, u, ch1, jf1, -, h⟩, -, sn, iff, wor⟩ := h
  have q1 : SQ7 σ1 σa := SQ7.of ch1 (fun p hp => by
    simp only [List.mem_cons, List.not_mem_nil, or_false] at hp
    rcases hp with rfl | rfl <;> simp)
  have npv : PAR (vwm 1 g τ) := fun r r0 r1 => by rw [vw1_k (by decide)]; exact np r r0 r1
  have d1 : dpt (vwm 1 g τ) 0 = dpt τ 1 := vw_dpt
  have d2 : dpt (vwm 2 g2 τ) 0 = dpt τ 2 := vw_dpt
  rcases find7 A.2.1 A.2.2.1 A.2.2.2.1 A.2.2.2.2 (Or.inl A.1) ch1 jf1 with ⟨-, z⟩ | ⟨u1, -, fd⟩
  · rw [d1] at z; omega
  rcases h with ⟨u0, -⟩ | ⟨-, u2, ch2, jf2, -, hb⟩
  · omega
  have q2 : SQ7 σa σ2 := SQ7.of ch2 (fun p hp => by
    simp only [List.mem_cons, List.not_mem_nil, or_false] at hp
    rcases hp with rfl | rfl <;> simp)
  have q12 : SQ7 σ1 σ2 := fun k a b c d => (q2 k a b c d).trans (q1 k a b c d)
  have A2 := A.sq q12
  have B2 := B.sq q12
  have tl2 := tl.sq q12
  have Ba := B.sq q1
  have t70 : σ2.2.1 70 to = σa.2.1 70 to := ch2.f (by decide) (by simp [tp])
  have t71 : σ2.2.1 71 to = σa.2.1 71 to := ch2.f (by decide) (by simp [tp])
  -- the torn frame
  have torn : ∀ c f, FNDS τ 1 k c f → (0 ≤ c - 9 ∧ c - 9 < τ.2.1 73 1) ∧ (σ2.2.1 70 to = c - 9 ∧ σ2.2.1 71 to = f) ∧ (0 ≤ f ∧ f < (vwm 1 g τ).2.1 14 (τ.2.1 78 c)) ∧ (∃ i : Nat, itU (pr (vwm 1 g τ) 0 (c - 9)) i ((vwm 1 g τ).2.1 80 (c - 9)) = f) := fun c f hf => by
    have z := vw_fnds (g := g) hf
    rw [show c - 9 * 1 = c - 9 by omega] at z
    obtain ⟨e70, e71, cc, hi, ff, -⟩ := fd.one z
    rw [vw_73] at cc
    rw [vw_78, show 9 * 1 + (c - 9) = c by omega] at ff
    exact ⟨cc, ⟨t70.trans e70, t71.trans e71⟩, ff, hi⟩
  have v78 : ∀ c, (vwm 1 g τ).2.1 78 (c - 9) = τ.2.1 78 c := fun c => by rw [vw_78, show 9 * 1 + (c - 9) = c by omega]
  have v79 : ∀ c, (vwm 1 g τ).2.1 79 (c - 9) = τ.2.1 79 c := fun c => by rw [vw_79, show 9 * 1 + (c - 9) = c by omega]
  have trn2 : ∀ c f, FNDS τ 1 k c f → SNG9 T σ2 to txa txb (C (τ.2.1 78 c)) y ∧ SNN9 T σ2 to (C (τ.2.1 78 c)) = nmK τ c f ∧ (∀ (m : Int) (d : DT), 0 ≤ m → m < nmK τ c f → TLD τ (τ.2.1 78 c) (τ.2.1 79 c) f m d → jWO T σ2 (C (τ.2.1 78 c)) (adN σ2 5 (C (τ.2.1 78 c))) (jID T σ2 to txa txb (C (τ.2.1 78 c)) m) = d.1 ∧ (d.1 < 10 → jFV T σ2 to (C (τ.2.1 78 c)) (adN σ2 5 (C (τ.2.1 78 c))) (adN σ2 15 (C (τ.2.1 78 c))) txe (jID T σ2 to txa txb (C (τ.2.1 78 c)) m) = wrD (fun g => τ.2.1 82 (192 * c + g)) d)) ∧ ∀ w1, JFR T σ2 to txa y 11 (-1) w1 → w1 = τ.2.1 15 (12 * τ.2.1 78 c + f) ∧ jLN T σ2 to txd = τ.2.1 81 (12 * c + f) := fun c f hf => by
    obtain ⟨cc, ⟨e70, e71⟩, ff, hi⟩ := torn c f hf
    have rc := run_c A.2.2.2.2 cc.1 (by rw [vw_73]; exact cc.2)
    rw [v78] at rc
    have r10 : (vwm 1 g τ).1 10 = τ.1 10 := vw_10
    have tq := tl2 (τ.2.1 78 c) rc.1.1 (by rw [← r10]; exact rc.1.2)
    have N := nam9 (τ := vwm 1 g τ) (q := τ.2.1 78 c) (cc := c - 9) (f := f) tq.1 tq.2.1 (by rw [vw1_k (by decide)]; exact tq.2.2.2.2) A2.2.2.1 A2.2.1 A.2.2.2.1 npv hW A.2.2.2.2 tq.2.2.1 (by rw [vw_73]; exact cc) (v78 c).symm e70 e71 ff
    have v82 : (fun g9 => (vwm 1 g τ).2.1 82 (192 * (c - 9) + g9)) = (fun g9 => τ.2.1 82 (192 * c + g9)) := funext (fun g9 => by rw [vw_82, show 1728 * 1 + (192 * (c - 9) + g9) = 192 * c + g9 by omega])
    have v12 : (vwm 1 g τ).2.1 12 ((vwm 1 g τ).2.1 15 (12 * τ.2.1 78 c + f)) = nmK τ c f := by rw [vw1_k (by decide), vw1_k (by decide)]; rfl
    rw [v12, v79, v82] at N
    refine ⟨N.1, N.2.1, fun m d m0 m1 td => N.2.2 m d m0 m1 (by rw [vw1_tld]; exact td), fun w1 j => ?_⟩
    have R := rt9 (τ := vwm 1 g τ) (q := τ.2.1 78 c) (cc := c - 9) (f := f) A2.2.2.1 A2.2.1 A.2.2.2.1 A.2.2.2.2 tq.2.2.2.1 (by rw [vw_73]; exact cc) (v78 c).symm e70 e71 ff hi j
    rw [vw1_k (by decide), vw_81, show 108 * 1 + (12 * (c - 9) + f) = 12 * c + f by omega] at R
    exact R
  rcases find7 Ba.2.1 Ba.2.2.1 B.2.2.2.1 B.2.2.2.2 (Or.inl Ba.1) ch2 jf2 with ⟨u20, z⟩ | ⟨u21, kk2, fd2⟩
  · have b0 : b = 0 := by
      rcases hb with hb | hb
      · exact hb.2
      · have := hb.1; omega
    rw [d2] at z
    refine ⟨fun fa => ?_, fun _ => by omega⟩
    obtain ⟨c, f, p, fp, -, f2, -⟩ := fa
    have := fnds_rng f2
    omega
  · rw [d2] at kk2
    rcases hb with ⟨hb, -⟩ | ⟨-, w1, w2, j1, j2, hb⟩
    · omega
    -- the plain frame
    have plain : ∀ p fp, FNDS τ 2 k p fp → w2 = τ.2.1 78 p ∧ jLN T σ2 pl pxd = τ.2.1 81 (12 * p) ∧ ∀ m, 0 ≤ m → m < 192 → jRG T σ2 pl pxe m = τ.2.1 82 (192 * p + m) := fun p fp hf => by
      have z := vw_fnds (g := g2) hf
      rw [show p - 9 * 2 = p - 18 by omega] at z
      obtain ⟨e70, e71, cc, hi, ff, -⟩ := fd2.one z
      have e78 : (vwm 2 g2 τ).2.1 78 (p - 18) = τ.2.1 78 p := by rw [vw_78, show 9 * 2 + (p - 18) = p by omega]
      have rc := run_c B.2.2.2.2 cc.1 cc.2
      rw [e78] at rc ff
      rw [vw2_14] at ff
      have r10 : (vwm 2 g2 τ).1 10 = τ.1 10 := vw_10
      have k11 : (T (adN σ2 11 (M (τ.2.1 78 p)))).2 = 12 := by rw [q12.ad (by decide)]; exact tm _ rc.1.1 (by rw [← r10]; exact rc.1.2)
      have R := rt9 (τ := vwm 2 g2 τ) (q := τ.2.1 78 p) (cc := p - 18) (f := fp) B2.2.2.1 B2.2.1 B.2.2.2.1 B.2.2.2.2 k11 cc e78.symm e70 e71 (by rw [vw2_14]; exact ff) hi j2
      rw [vw2_15, vw_81, show 108 * 2 + (12 * (p - 18) + fp) = 12 * p by omega] at R
      refine ⟨by have := R.1; omega, R.2, fun m m0 m1 => ?_⟩
      rw [rg_id (cc := 0) (p := 0) B2.2.1 B2.2.2.1.2.1.2.2.2.2.1 e70 cc.1 cc.2 m0 m1, vw_82, show 1728 * 2 + (192 * (p - 18) + m) = 192 * p + m by omega]
    refine ⟨fun fa => ?_, fun nf => ?_⟩
    · obtain ⟨c, f, p, fp, f1, f2, e15, e81, al⟩ := fa
      obtain ⟨sg, nn, nm, rt⟩ := trn2 c f f1
      obtain ⟨p1, p2, p3⟩ := plain p fp f2
      obtain ⟨r1, r2⟩ := rt w1 j1
      have b1 : b = 1 := by
        rcases hb with hb | hb
        · exact hb.1
        · exact absurd ⟨by rw [r1, p1, e15], by rw [r2, p2, e81]⟩ hb.2
      have v1 : v = 1 := by
        rcases sn _ sg with z | ⟨-, m, m0, m1⟩
        · exact z.1
        · rw [nn] at m0
          obtain ⟨d, td, hd⟩ := al m m0.1 m0.2
          obtain ⟨n1, n2⟩ := nm m d m0.1 m0.2 td
          refine absurd (fun z => ?_) m1
          rw [n1] at z
          have nb : nmK τ c f ≤ 12 := by rw [← nn]; exact sg.2.2.2.1.2
          rw [n2 z, p3 m m0.1 (by omega)]
          exact hd z
      omega
    · obtain ⟨c, f, f1, nf⟩ := nf
      obtain ⟨sg, nn, nm, rt⟩ := trn2 c f f1
      rcases nf with nf | ⟨p, fp, f2, nf⟩
      · omega
      · obtain ⟨p1, p2, p3⟩ := plain p fp f2
        obtain ⟨r1, r2⟩ := rt w1 j1
        rcases nf with nf | nf | ⟨j, j0, d, td, d10, ne⟩
        · have b0 : b = 0 := by
            rcases hb with hb | hb
            · exact absurd (by rw [← p1, ← r1]; exact hb.2.1.symm) nf
            · exact hb.1
          omega
        · have b0 : b = 0 := by
            rcases hb with hb | hb
            · exact absurd (by rw [← p2, ← r2]; exact hb.2.2.symm) nf
            · exact hb.1
          omega
        · have v0 : v = 0 := by
            rcases sn _ sg with ⟨-, z⟩ | z
            · rw [nn] at z
              have nb : nmK τ c f ≤ 12 := by rw [← nn]; exact sg.2.2.2.1.2
              obtain ⟨n1, n2⟩ := nm j d j0.1 j0.2 td
              have q := z j j0.1 j0.2 (by rw [n1]; exact d10)
              rw [n2 d10, p3 j j0.1 (by omega)] at q
              exact absurd q ne
            · exact z.1
          omega
theorem ssc9 {s0 : Int} (tp : to ≠ pl) (A : SY9 T σ to txa txb txc txd txe txf C y (vwm 1 g τ)) (B : SY9 T σ pl pxa pxb pxc pxd pxe pxf M yy (vwm 2 g2 τ)) (tl : TL9 T σ C τ) (tm : ∀ q, 0 ≤ q → q < τ.1 10 → (T (adN σ 11 (M q))).2 = 12) (np : PAR τ) (hW : CDW (vwm 1 g τ)) : ∀ (n : Nat) (s : Int) (σ2 : MS), (n : Int) ≤ dpt τ 1 → SSC9 T σ a to pl txa txb txc txd txe y pxa pxc pxd pxe yy s0 n s σ2 → ((∀ j : Int, 0 ≤ j → j < n → FAL τ j) → (s = 1 ↔ s0 = 1)) ∧ ((s0 ≠ 1 ∨ ∃ j : Int, (0 ≤ j ∧ j < n) ∧ NFA τ j) → s ≠ 1) := by
  intro n
  induction n with
  | zero =>
    intro s σ2 _ h
    rw [h.1]
    exact ⟨fun _ => Iff.rfl, fun z => z.elim id (fun ⟨j, hj, _⟩ => by omega)⟩
  | succ n ih =>
    intro s σ2 hn h
    obtain ⟨s1, σ1, h1, -, h3, h4⟩ := h
    have q : SQ7 σ σ1 := SQ7.of h3 (fun p hp => by
      simp only [List.mem_cons, List.not_mem_nil, or_false] at hp
      rcases hp with rfl | rfl | rfl | rfl | rfl | rfl <;> simp)
    obtain ⟨i1, i2⟩ := ih s1 σ1 (by omega) h1
    have r := rnd9 tp (A.sq q) (B.sq q) (tl.sq q) (fun r r0 r1 => by rw [q.ad (by decide)]; exact tm r r0 r1) np hW ⟨by omega, by omega⟩ h4
    obtain ⟨b, v, σb, -, -, -, iff, -⟩ := h4
    refine ⟨fun z => (r.1 (z n (by omega) (by omega))).trans (i1 (fun j j0 j1 => z j j0 (by omega))), fun z w => ?_⟩
    rcases z with z | ⟨j, j0, hj⟩
    · exact i2 (Or.inl z) (iff.mp w).1
    · by_cases jn : j = n
      · rw [jn] at hj
        have := r.2 hj
        omega
      · exact i2 (Or.inr ⟨j, by omega, hj⟩) (iff.mp w).1
theorem ss9 (tp : to ≠ pl) (A : SY9 T σ to txa txb txc txd txe txf C y (vwm 1 g τ)) (B : SY9 T σ pl pxa pxb pxc pxd pxe pxf M yy (vwm 2 g2 τ)) (tl : TL9 T σ C τ) (tm : ∀ q, 0 ≤ q → q < τ.1 10 → (T (adN σ 11 (M q))).2 = 12) (np : PAR τ) (hW : CDW (vwm 1 g τ)) (pq : ¬ PAQ τ 0) (h : SS9 T σ a to pl txa txb txc txd txe y pxa pxc pxd pxe yy e σ2) (al : AAQ τ w) : e = 1 ↔ w = 1 := by
  obtain ⟨s0, hs, h⟩ := h
  have d1 : dpt (vwm 1 g τ) 0 = dpt τ 1 := vw_dpt
  have d2 : dpt (vwm 2 g2 τ) 0 = dpt τ 2 := vw_dpt
  have e1 := A.2.1.2.1
  have e2 := B.2.1.2.1
  rw [d1] at e1
  rw [d2] at e2
  have d0 : 0 ≤ dpt τ 1 := by
    have := A.2.2.2.2.ge
    rw [d1, vw_73] at this
    have := A.2.2.2.2.1
    rw [vw_73] at this
    omega
  rw [e1] at h
  obtain ⟨i1, i2⟩ := ssc9 tp A B tl tm np hW (dpt τ 1).toNat e σ2 (by omega) h
  rw [e1, e2] at hs
  rcases al with ⟨w1, dd, -, fa⟩ | ⟨w0, z⟩
  · have := i1 (fun j j0 j1 => fa j j0 (by omega))
    omega
  · have n1 : e ≠ 1 := by
      rcases z with z | z | ⟨j, j0, nf⟩
      · exact i2 (Or.inl (by omega))
      · exact absurd z pq
      · refine i2 (Or.inr ⟨j, ⟨j0, ?_⟩, nf⟩)
        obtain ⟨c, f, f1, -⟩ := nf
        have := fnds_rng f1
        omega
    omega
end SS9S
end
