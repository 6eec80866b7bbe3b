/-! a go over the text -/
def GST (s : Int → Int) : PCf := ([36], advT s 0, (0, 0, 0), qq 0, [])
/-- phase 1 so far -/
def IV1 (σ : MS) : Prop := σ.1 26 = 0 → σ.1 30 ≤ 6 ∧ ∀ v, 0 ≤ v → v < σ.1 30 → σ.2.1 45 v = σ.2.1 36 v ∧ (0 ≤ σ.2.1 36 v ∧ σ.2.1 36 v ≤ 4) ∧ σ.2.1 36 v ≤ σ.2.1 35 v
theorem IV1.step {σ τ : MS} (h : IV1 σ) (p : P1O σ τ) (fl : FLT σ τ) (e : τ.1 30 = σ.1 30 + 1) (e43 : σ.1 43 = σ.1 30) (h0 : 0 ≤ σ.1 30) : IV1 τ := fun a => by
  obtain ⟨p1, p2, p3, p4⟩ := p
  have z : σ.1 26 = 0 := Classical.byContradiction (fun y => fl.1 y a)
  have H := h z
  have q := p4 a
  refine ⟨by omega, fun v b c => ?_⟩
  by_cases y : v = σ.1 30
  · have w := q.2 (by omega)
    rw [e43] at w
    rw [y]; exact w
  · rw [p3 v (by omega), (p2 v y).1, (p2 v y).2]
    exact H.2 v b (by omega)
/-- what a go keeps -/
def PGO (σ τ : MS) : Prop := (σ.1 25 ≠ 3 → (∀ x, x ≠ 2640 → IEQ σ x τ x) ∧ τ.2.1 9 = σ.2.1 9) ∧ (σ.1 25 ≠ 1 → τ.2.1 35 = σ.2.1 35 ∧ τ.2.2 38 = σ.2.2 38 ∧ τ.2.1 36 = σ.2.1 36 ∧ TBm σ τ) ∧ NN τ ∧ FLT σ τ ∧ τ.1 25 = σ.1 25 ∧ (0 ≤ τ.1 43 ∧ τ.1 43 ≤ 260)
theorem PGO.step {ρ σ τ : MS} (h : PGO ρ σ) (p : PBO σ τ) : PGO ρ τ := by
  obtain ⟨h1, h2, h3, h4, h5, h6⟩ := h
  obtain ⟨p1, p2, p3, p4, p5, p6, p7⟩ := p
  refine ⟨fun a => ⟨fun x b => ((h1 a).1 x b).trans (p1 x b (by omega)), ?_⟩, fun a => ?_, p3, h4.trans p4, p5.trans h5, p7⟩
  · rw [← (h1 a).2]
    exact funext (fun j => p6 j (Or.inr (by omega)))
  · have q := h2 a
    have w := p2 (by omega)
    exact ⟨w.1.trans q.1, w.2.1.trans q.2.1, w.2.2.1.trans q.2.2.1, q.2.2.2.trans w.2.2.2⟩
theorem PGO.rfl {σ : MS} (hn : NN σ) (h : 0 ≤ σ.1 43 ∧ σ.1 43 ≤ 260) : PGO σ σ := ⟨fun _ => ⟨fun _ _ => ⟨_root_.rfl, _root_.rfl, _root_.rfl, _root_.rfl, fun _ _ _ => ⟨_root_.rfl, _root_.rfl⟩⟩, _root_.rfl⟩, fun _ => ⟨_root_.rfl, _root_.rfl, _root_.rfl, _root_.rfl, _root_.rfl, _root_.rfl, _root_.rfl⟩, hn, FLT.eq _root_.rfl, _root_.rfl, h⟩
theorem PLI.oth {σ τ : MS} {r : Int} (h : PLI σ r) (hr : 0 ≤ r ∧ r < 6) (p : PBO σ τ) (ne : r < σ.1 30) (h3 : σ.1 25 = 3) : PLI τ r := by
  obtain ⟨p1, p2, p3, p4, p5, p6, p7⟩ := p
  obtain ⟨h1, h2, ⟨l, h4, h5⟩, h6, h7⟩ := h
  have tb := (p2 (by omega)).2.2.2
  have e9 : τ.2.1 9 r = σ.2.1 9 r := p6 r (Or.inl (by omega))
  have ie : ∀ k, 0 ≤ k → k < 220 → IEQ σ (220 * r + k) τ (220 * r + k) := fun k a b => p1 _ (by omega) (by omega)
  unfold PLI
  rw [e9]
  refine ⟨h1, fun k a b => (ie k a (by omega)).oki tb.2.1 (h2 k a b), ⟨l, h4, ?_⟩, (ie _ (by omega) (by omega)).1.trans h6, ?_⟩
  · rw [tb.1]
    exact h5.ext (fun k a b => ⟨(ie k a (by omega)).1, (ie k a (by omega)).2.1, (ie k a (by omega)).2.2.1⟩)
  · have a0 : iK τ r 0 = iK σ r 0 := (ie 0 (by omega) (by omega)).1
    have a1 : iK τ r 1 = iK σ r 1 := (ie 1 (by omega) (by omega)).1
    rw [a0, a1]; exact h7
/-- the end of a go that is known -/
def GEN (s : Int → Int) (σ : MS) : Prop := ∃ t x lg, RCm s (GST s) ([], t, x, qq 0, lg) ∧ nR lg ≤ 6 ∧ ∀ e ∈ lg, E3 σ e
/-- the road so far -/
def GRD (σ0 σ : MS) (lg : List EV) : Prop := ∃ x, GOS [36] (sS 34 0 σ0) (qq 0) [36] (sS 34 x σ) (qq 0) lg
theorem GRD.rc {σ0 σ : MS} {lg : List EV} (g : ∃ x, GOS [36] (sS 34 0 σ0) (qq 0) [36] (sS 34 x σ) (qq 0) lg) (e1 : tks σ0 = advT (sv σ0) 0) (e2 : σ0.1 28 = 0 ∧ σ0.1 29 = 0) : ∃ x, RCm (sv σ0) (GST (sv σ0)) (cfg [36] (sS 34 x σ) (qq 0) lg) := by
  obtain ⟨x, g⟩ := g
  refine ⟨x, ?_⟩
  have h := g.rc [] []
  have e : cfg ([36] ++ []) (sS 34 0 σ0) (qq 0) [] = GST (sv σ0) := by
    show ([36], tks σ0, (σ0.1 28, σ0.1 29, (0 : Int)), qq 0, ([] : List EV)) = _
    rw [e1, e2.1, e2.2]; rfl
  rw [e] at h
  exact h
theorem HQR.mk {σ0 σ : MS} {lg : List EV} (g : GRD σ0 σ lg) (e1 : tks σ0 = advT (sv σ0) 0) (e2 : σ0.1 28 = 0 ∧ σ0.1 29 = 0) (hn : nR lg = σ.1 30) (he : σ.1 25 = 3 → GEN (sv σ0) σ0) (tb : σ.1 25 = 3 → TBm σ0 σ) (h22 : σ.1 22 ≠ 0) : HQR σ := fun a τ l2 h => by
  obtain ⟨t, xx, lF, rF, nF, eF⟩ := he a
  obtain ⟨x, g⟩ := g
  have g2 : GOS [36] (sS 34 0 σ0) (qq 0) [36] τ (qq 0) (lg ++ l2) := g.trans ((g36n (σ := sS 34 x σ) h22).then ((h x).more [36]))
  have r2 := g2.rc [] []
  have e : cfg ([36] ++ []) (sS 34 0 σ0) (qq 0) [] = GST (sv σ0) := by
    show ([36], tks σ0, (σ0.1 28, σ0.1 29, (0 : Int)), qq 0, ([] : List EV)) = _
    rw [e1, e2.1, e2.2]; rfl
  rw [e] at r2
  have r3 := RCm.mid r2 rF rfl
  obtain ⟨l3, h3⟩ := RCm.log r3 (fun z => absurd (show ([] : List Nat) = [999] from congrArg Prod.fst z) (by decide))
  have e3 : lF = (lg ++ l2) ++ l3 := h3
  rw [e3, nR_app, nR_app, hn] at nF
  refine ⟨fun z => ?_, fun e w => (eF e ?_).tb (tb a)⟩
  · have := nR_0 l3
    omega
  · rw [e3]; exact List.mem_append_left _ (List.mem_append_right _ w)
theorem GRD.step {σ0 σ τ : MS} {lg l2 : List EV} (g : GRD σ0 σ lg) (h22 : σ.1 22 ≠ 0) (h : ∀ x, GOS [30] (sS 34 x σ) (qq 0) [] τ (qq 0) l2) : GRD σ0 τ (lg ++ l2) := by
  obtain ⟨x, g⟩ := g
  exact ⟨τ.1 34, (g.trans ((g36n (σ := sS 34 x σ) h22).then ((h x).more [36]))).last rfl rfl⟩
/-- no text goes on: where, and what the reference says of it in its first go -/
def GFL (σ0 τ : MS) : Prop := ∃ es p, RE (sv σ0) (GST (sv σ0)) (es ++ [(9, p, 0, 0)]) pF ∧ (σ0.1 25 = 0 → σ0.1 26 = 0 → τ.1 26 = 1 ∧ τ.1 27 = p)
theorem GFL.rc {σ0 τ : MS} (h : GFL σ0 τ) : RCm (sv σ0) (GST (sv σ0)) pF := by
  obtain ⟨es, p, h, -⟩ := h
  exact h.rc
theorem GRD.fail {σ0 σ τ : MS} {lg : List EV} (g : GRD σ0 σ lg) (e1 : tks σ0 = advT (sv σ0) 0) (e2 : σ0.1 28 = 0 ∧ σ0.1 29 = 0) (h22 : σ.1 22 ≠ 0) (h : ∀ x, GOF [30] (sS 34 x σ) (qq 0) τ) : GFL σ0 τ := by
  obtain ⟨x, g⟩ := g
  obtain ⟨es, p, f, w⟩ : GOF [36] (sS 34 0 σ0) (qq 0) τ := g.fail ((g36n (σ := sS 34 x σ) h22).fail ((h x).more [36]))
  have r2 := f [] []
  have e : cfg ([36] ++ []) (sS 34 0 σ0) (qq 0) [] = GST (sv σ0) := by
    show ([36], tks σ0, (σ0.1 28, σ0.1 29, (0 : Int)), qq 0, ([] : List EV)) = _
    rw [e1, e2.1, e2.2]; rfl
  rw [e] at r2
  exact ⟨es, p, r2, w⟩
theorem GRD.fin {σ0 σ : MS} {lg : List EV} (g : GRD σ0 σ lg) (e1 : tks σ0 = advT (sv σ0) 0) (e2 : σ0.1 28 = 0 ∧ σ0.1 29 = 0) (h22 : σ.1 22 = 0) : ∃ t x es, RE (sv σ0) (GST (sv σ0)) es ([], t, x, qq 0, lg) ∧ EFF es σ0 σ := by
  obtain ⟨x, g⟩ := g
  obtain ⟨-, es, f, w⟩ : GOS [36] (sS 34 0 σ0) (qq 0) [] (sS 34 x σ) (qq 0) lg := g.and (g36y (σ := sS 34 x σ) h22)
  have r2 := f [] []
  have e : cfg ([36] ++ []) (sS 34 0 σ0) (qq 0) [] = GST (sv σ0) := by
    show ([36], tks σ0, (σ0.1 28, σ0.1 29, (0 : Int)), qq 0, ([] : List EV)) = _
    rw [e1, e2.1, e2.2]; rfl
  rw [e] at r2
  exact ⟨_, _, es, r2, w⟩
/-- how a go begins -/
def IGO (w : Int) (ρ A : MS) : Prop := (A.1 25 = w ∧ A.1 26 = ρ.1 26 ∧ A.1 27 = ρ.1 27 ∧ A.1 30 = 0 ∧ A.1 31 = 0) ∧ (w = 1 → A.1 43 = 0 ∧ ∀ r, 0 ≤ r → r < 6 → A.2.1 35 r = 0) ∧ (w ≠ 1 → A.1 43 = ρ.1 43 ∧ A.2.1 35 = ρ.2.1 35) ∧ A.2.1 45 = ρ.2.1 45 ∧ A.2.2 38 = ρ.2.2 38 ∧ A.2.2 44 = ρ.2.2 44
/-- how a go ends -/
def GQ1 (w : Int) (σ τ : MS) : Prop := ∃ t x lg es, (RE (sv σ) (GST (sv σ)) es ([], t, x, qq 0, lg) ∧ ∃ A, IGO w σ A ∧ EFF es A τ) ∧ nR lg = τ.1 30 ∧ (w = 2 → τ.1 26 = 0 → ∀ e ∈ lg, E2 σ e) ∧ (w = 1 → τ.1 43 = τ.1 30 ∧ IV1 τ) ∧ (w = 3 → (∀ r, 0 ≤ r → r < τ.1 30 → PLI τ r) ∧ ∀ j, τ.1 30 ≤ j → τ.2.1 9 j = σ.2.1 9 j)
def GKP (w : Int) (σ τ : MS) : Prop := (w ≠ 3 → (∀ x, x ≠ 2640 → IEQ σ x τ x) ∧ τ.2.1 9 = σ.2.1 9) ∧ (w ≠ 1 → τ.2.1 35 = σ.2.1 35 ∧ τ.2.2 38 = σ.2.2 38 ∧ τ.2.1 36 = σ.2.1 36 ∧ TBm σ τ) ∧ NN τ ∧ FLT σ τ ∧ (0 ≤ τ.1 43 ∧ τ.1 43 ≤ 260)
/-- the go's beginning -/
def GBG (w : Int) (ρ σ : MS) : Prop := Fr [20, 25, 28, 29, 30, 31, 43] [35, 36, 37] [] ρ σ ∧ (σ.1 25 = w ∧ σ.1 20 = 0 ∧ σ.1 28 = 0 ∧ σ.1 29 = 0 ∧ σ.1 30 = 0 ∧ σ.1 31 = 0) ∧ NN σ ∧ (w = 1 → σ.1 43 = 0 ∧ ∀ r, 0 ≤ r → r < 6 → σ.2.1 35 r = 0) ∧ (w ≠ 1 → σ.1 43 = ρ.1 43 ∧ σ.2.1 35 = ρ.2.1 35 ∧ σ.2.1 36 = ρ.2.1 36) ∧ (0 ≤ σ.1 43 ∧ σ.1 43 ≤ 260)
theorem GBG.kp {w : Int} {ρ σ α τ : MS} (h : GBG w ρ σ) (f : Fr [19, 20, 22, 23] [] [24] σ α) (p : PGO α τ) : GKP w ρ τ := by
  obtain ⟨h1, h2, h3, h4, h5, h6⟩ := h
  obtain ⟨p1, p2, p3, p4, p5, p6⟩ := p
  have e25 : α.1 25 = w := (f.1 25 (by decide)).trans h2.1
  refine ⟨fun a => ⟨fun x b => (IEQ.of h1 (by decide)).trans ((IEQ.of f (by decide)).trans ((p1 (by omega)).1 x b)), (p1 (by omega)).2.trans ((f.2.1 9 (by decide)).trans (h1.2.1 9 (by decide)))⟩, fun a => ?_, p3, (FLT.eq ((f.1 26 (by decide)).trans (h1.1 26 (by decide)))).trans p4, p6⟩
  have q := p2 (by omega)
  have w := h5 a
  have tb : TBm ρ σ := ⟨w.1, h1.2.1 11 (by decide), h1.2.1 45 (by decide), h1.2.2 44 (by decide)⟩
  exact ⟨q.1.trans ((f.2.1 35 (by decide)).trans w.2.1), q.2.1.trans ((f.2.2 38 (by decide)).trans (h1.2.2 38 (by decide))), q.2.2.1.trans ((f.2.1 36 (by decide)).trans w.2.2), tb.trans ((TBm.of f (by decide) (by decide) (by decide) (by decide)).trans q.2.2.2)⟩
theorem GBG.igo {w : Int} {ρ σ α : MS} (h : GBG w ρ σ) (f : Fr [19, 20, 22, 23] [] [24] σ α) : IGO w ρ α := by
  obtain ⟨h1, h2, h3, h4, h5, h6⟩ := h
  refine ⟨⟨(f.1 25 (by decide)).trans h2.1, (f.1 26 (by decide)).trans (h1.1 26 (by decide)), (f.1 27 (by decide)).trans (h1.1 27 (by decide)), (f.1 30 (by decide)).trans h2.2.2.2.2.1, (f.1 31 (by decide)).trans h2.2.2.2.2.2⟩, fun a => ⟨(f.1 43 (by decide)).trans (h4 a).1, fun r b c => by rw [f.2.1 35 (by decide)]; exact (h4 a).2 r b c⟩, fun a => ⟨(f.1 43 (by decide)).trans (h5 a).1, (f.2.1 35 (by decide)).trans (h5 a).2.1⟩, (f.2.1 45 (by decide)).trans (h1.2.1 45 (by decide)), (f.2.2 38 (by decide)).trans (h1.2.2 38 (by decide)), (f.2.2 44 (by decide)).trans (h1.2.2 44 (by decide))⟩

