section
def GST (s : Int → Int) : PCf := ([36], advT s 0, (0, 0, 0), qq 0, [])
def IV1 (σ : MS) : Prop := σ.1 26 = 0 → σ.1 30 ≤ 6 ∧ ∀ v, 0 ≤ v → v < σ.1 30 → σ.2.1 45 v = σ.2.1 36 v ∧ (0 ≤ σ.2.1 36 v ∧ σ.2.1 36 v ≤ 4) ∧ σ.2.1 36 v ≤ σ.2.1 35 v
theorem IV1.step {σ τ : MS} (h : IV1 σ) (p : P1O σ τ) (fl : FLT σ τ) (e : τ.1 30 = σ.1 30 + 1) (e43 : σ.1 43 = σ.1 30) (h0 : 0 ≤ σ.1 30) : IV1 τ := fun a => by
  obtain ⟨p1, p2, p3, p4⟩ := p
  have z : σ.1 26 = 0 := Classical.byContradiction (fun y => fl.1 y a)
  have H := h z
  have q := p4 a
  refine ⟨by omega, fun v b c => ?_⟩
  by_cases y : v = σ.1 30
  · have w := q.2 (by omega)
    rw [e43] at w
    rw [y]; exact w
  · rw [p3 v (by omega), (p2 v y).1, (p2 v y).2]
    exact H.2 v b (by omega)
def PGO (σ τ : MS) : Prop := (σ.1 25 ≠ 3 → (∀ x, x ≠ 2640 → IEQ σ x τ x) ∧ τ.2.1 9 = σ.2.1 9) ∧ (σ.1 25 ≠ 1 → τ.2.1 35 = σ.2.1 35 ∧ τ.2.2 38 = σ.2.2 38 ∧ τ.2.1 36 = σ.2.1 36 ∧ TBm σ τ) ∧ NN τ ∧ FLT σ τ ∧ τ.1 25 = σ.1 25 ∧ (0 ≤ τ.1 43 ∧ τ.1 43 ≤ 260)
theorem PGO.step {ρ σ τ : MS} (h : PGO ρ σ) (p : PBO σ τ) : PGO ρ τ := by
  obtain ⟨h1, h2, h3, h4, h5, h6⟩ := h
  obtain ⟨p1, p2, p3, p4, p5, p6, p7⟩ := p
  refine ⟨fun a => ⟨fun x b => ((h1 a).1 x b).trans (p1 x b (by omega)), ?_⟩, fun a => ?_, p3, h4.trans p4, p5.trans h5, p7⟩
  · rw [← (h1 a).2]
    exact funext (fun j => p6 j (Or.inr (by omega)))
  · have q := h2 a
    have w := p2 (by omega)
    exact ⟨w.1.trans q.1, w.2.1.trans q.2.1, w.2.2.1.trans q.2.2.1, q.2.2.2.trans w.2.2.2⟩
theorem PGO.rfl {σ : MS} (hn : NN σ) (h : 0 ≤ σ.1 43 ∧ σ.1 43 ≤ 260) : PGO σ σ := ⟨fun _ => ⟨fun _ _ => ⟨_root_.rfl, _root_.rfl, _root_.rfl, _root_.rfl, fun _ _ _ => ⟨_root_.rfl, _root_.rfl⟩⟩, _root_.rfl⟩, fun _ => ⟨_root_.rfl, _root_.rfl, _root_.rfl, _root_.rfl, _root_.rfl, _root_.rfl, _root_.rfl⟩, hn, FLT.eq _root_.rfl, _root_.rfl, h⟩
theorem PLI.oth {σ τ : MS} {r : Int} (h : PLI σ r) (hr : 0 ≤ r ∧ r < 6) (p : PBO σ τ) (ne : r < σ.1 30) (h3 : σ.1 25 = 3) : PLI τ r := by
  obtain ⟨p1, p2, p3, p4, p5, p6, p7⟩ := p
  obtain ⟨h1, h2, ⟨l, h4, h5⟩, h6, h7⟩ := h
  have tb := (p2 (by omega)).2.2.2
  have e9 : τ.2.1 9 r = σ.2.1 9 r := p6 r (Or.inl (by omega))
  have ie : ∀ k, 0 ≤ k → k < 220 → IEQ σ (220 * r + k) τ (220 * r + k) := fun k a b => p1 _ (by omega) (by omega)
  unfold PLI
  rw [e9]
  refine ⟨h1, fun k a b => (ie k a (by omega)).oki tb.2.1 (h2 k a b), ⟨l, h4, ?_⟩, (ie _ (by omega) (by omega)).1.trans h6, ?_⟩
  · rw [tb.1]
    exact h5.ext (fun k a b => ⟨(ie k a (by omega)).1, (ie k a (by omega)).2.1, (ie k a (by omega)).2.2.1⟩)
  · have a0 : iK τ r 0 = iK σ r 0 := (ie 0 (by omega) (by omega)).1
    have a1 : iK τ r 1 = iK σ r 1 := (ie 1 (by omega) (by omega)).1
    rw [a0, a1]; exact h7
def GEN (s : Int → Int) (σ : MS) : Prop := ∃ t x lg, RCm s (GST s) ([], t, x, qq 0, lg) ∧ nR lg ≤ 6 ∧ ∀ e ∈ lg, E3 σ e
def GRD (σ0 σ : MS) (lg : List EV) : Prop := ∃ x, GOS [36] (sS 34 0 σ0) (qq 0) [36] (sS 34 x σ) (qq 0) lg
theorem GRD.rc {σ0 σ : MS} {lg : List EV} (g : ∃ x, GOS [36] (sS 34 0 σ0) (qq 0) [36] (sS 34 x σ) (qq 0) lg) (e1 : tks σ0 = advT (sv σ0) 0) (e2 : σ0.1 28 = 0 ∧ σ0.1 29 = 0) : ∃ x, RCm (sv σ0) (GST (sv σ0)) (cfg [36] (sS 34 x σ) (qq 0) lg) := by
  obtain ⟨x, g⟩ := g
  refine ⟨x, ?_⟩
  have h := g.rc [] []
  have e : cfg ([36] ++ []) (sS 34 0 σ0) (qq 0) [] = GST (sv σ0) := by
    show ([36], tks σ0, (σ0.1 28, σ0.1 29, (0 : Int)), qq 0, ([] : List EV)) = _
    rw [e1, e2.1, e2.2]; rfl
  rw [e] at h
  exact h
theorem HQR.mk {σ0 σ : MS} {lg : List EV} (g : GRD σ0 σ lg) (e1 : tks σ0 = advT (sv σ0) 0) (e2 : σ0.1 28 = 0 ∧ σ0.1 29 = 0) (hn : nR lg = σ.1 30) (he : σ.1 25 = 3 → GEN (sv σ0) σ0) (tb : σ.1 25 = 3 → TBm σ0 σ) (h22 : σ.1 22 ≠ 0) : HQR σ := fun a τ l2 h => by
  obtain ⟨t, xx, lF, rF, nF, eF⟩ := he a
  obtain ⟨x, g⟩ := g
  have g2 : GOS [36] (sS 34 0 σ0) (qq 0) [36] τ (qq 0) (lg ++ l2) := g.trans ((g36n (σ := sS 34 x σ) h22).then ((h x).more [36]))
  have r2 := g2.rc [] []
  have e : cfg ([36] ++ []) (sS 34 0 σ0) (qq 0) [] = GST (sv σ0) := by
    show ([36], tks σ0, (σ0.1 28, σ0.1 29, (0 : Int)), qq 0, ([] : List EV)) = _
    rw [e1, e2.1, e2.2]; rfl
  rw [e] at r2
  have r3 := RCm.mid r2 rF rfl
  obtain ⟨l3, h3⟩ := RCm.log r3 (fun z => absurd (show ([] : List Nat) = [999] from congrArg Prod.fst z) (by decide))
  have e3 : lF = (lg ++ l2) ++ l3 := h3
  rw [e3, nR_app, nR_app, hn] at nF
  refine ⟨fun z => ?_, fun e w => (eF e ?_).tb (tb a)⟩
  · have := nR_0 l3
    omega
  · rw [e3]; exact List.mem_append_left _ (List.mem_append_right _ w)
theorem GRD.step {σ0 σ τ : MS} {lg l2 : List EV} (g : GRD σ0 σ lg) (h22 : σ.1 22 ≠ 0) (h : ∀ x, GOS [30] (sS 34 x σ) (qq 0) [] τ (qq 0) l2) : GRD σ0 τ (lg ++ l2) := by
  obtain ⟨x, g⟩ := g
  exact ⟨τ.1 34, (g.trans ((g36n (σ := sS 34 x σ) h22).then ((h x).more [36]))).last rfl rfl⟩
def GFL (σ0 τ : MS) : Prop := ∃ es p, RE (sv σ0) (GST (sv σ0)) (es ++ [(9, p, 0, 0)]) pF ∧ (σ0.1 25 = 0 → σ0.1 26 = 0 → τ.1 26 = 1 ∧ τ.1 27 = p)
theorem GFL.rc {σ0 τ : MS} (h : GFL σ0 τ) : RCm (sv σ0) (GST (sv σ0)) pF := by
  obtain ⟨es, p, h, -⟩ := h
  exact h.rc
theorem GRD.fail {σ0 σ τ : MS} {lg : List EV} (g : GRD σ0 σ lg) (e1 : tks σ0 = advT (sv σ0) 0) (e2 : σ0.1 28 = 0 ∧ σ0.1 29 = 0) (h22 : σ.1 22 ≠ 0) (h : ∀ x, GOF [30] (sS 34 x σ) (qq 0) τ) : GFL σ0 τ := by
  obtain ⟨x, g⟩ := g
  obtain ⟨es, p, f, w⟩ : GOF [36] (sS 34 0 σ0) (qq 0) τ := g.fail ((g36n (σ := sS 34 x σ) h22).fail ((h x).more [36]))
  have r2 := f [] []
  have e : cfg ([36] ++ []) (sS 34 0 σ0) (qq 0) [] = GST (sv σ0) := by
    show ([36], tks σ0, (σ0.1 28, σ0.1 29, (0 : Int)), qq 0, ([] : List EV)) = _
    rw [e1, e2.1, e2.2]; rfl
  rw [e] at r2
  exact ⟨es, p, r2, w⟩
theorem GRD.fin {σ0 σ : MS} {lg : List EV} (g : GRD σ0 σ lg) (e1 : tks σ0 = advT (sv σ0) 0) (e2 : σ0.1 28 = 0 ∧ σ0.1 29 = 0) (h22 : σ.1 22 = 0) : ∃ t x es, RE (sv σ0) (GST (sv σ0)) es ([], t, x, qq 0, lg) ∧ EFF es σ0 σ := by
  obtain ⟨x, g⟩ := g
  obtain ⟨-, es, f, w⟩ : GOS [36] (sS 34 0 σ0) (qq 0) [] (sS 34 x σ) (qq 0) lg := g.and (g36y (σ := sS 34 x σ) h22)
  have r2 := f [] []
  have e : cfg ([36] ++ []) (sS 34 0 σ0) (qq 0) [] = GST (sv σ0) := by
    show ([36], tks σ0, (σ0.1 28, σ0.1 29, (0 : Int)), qq 0, ([] : List EV)) = _
    rw [e1, e2.1, e2.2]; rfl
  rw [e] at r2
  exact ⟨_, _, es, r2, w⟩
def IGO (w : Int) (ρ A : MS) : Prop := (A.1 25 = w ∧ A.1 26 = ρ.1 26 ∧ A.1 27 = ρ.1 27 ∧ A.1 30 = 0 ∧ A.1 31 = 0) ∧ (w = 1 → A.1 43 = 0 ∧ ∀ r, 0 ≤ r → r < 6 → A.2.1 35 r = 0) ∧ (w ≠ 1 → A.1 43 = ρ.1 43 ∧ A.2.1 35 = ρ.2.1 35) ∧ A.2.1 45 = ρ.2.1 45 ∧ A.2.2 38 = ρ.2.2 38 ∧ A.2.2 44 = ρ.2.2 44
def GQ1 (w : Int) (σ τ : MS) : Prop := ∃ t x lg es, (RE (sv σ) (GST (sv σ)) es ([], t, x, qq 0, lg) ∧ ∃ A, IGO w σ A ∧ EFF es A τ) ∧ nR lg = τ.1 30 ∧ (w = 2 → τ.1 26 = 0 → ∀ e ∈ lg, E2 σ e) ∧ (w = 1 → τ.1 43 = τ.1 30 ∧ IV1 τ) ∧ (w = 3 → (∀ r, 0 ≤ r → r < τ.1 30 → PLI τ r) ∧ ∀ j, τ.1 30 ≤ j → τ.2.1 9 j = σ.2.1 9 j) ∧ (w = 3 → GM3 σ τ)
def GKP (w : Int) (σ τ : MS) : Prop := (w ≠ 3 → (∀ x, x ≠ 2640 → IEQ σ x τ x) ∧ τ.2.1 9 = σ.2.1 9) ∧ (w ≠ 1 → τ.2.1 35 = σ.2.1 35 ∧ τ.2.2 38 = σ.2.2 38 ∧ τ.2.1 36 = σ.2.1 36 ∧ TBm σ τ) ∧ NN τ ∧ FLT σ τ ∧ (0 ≤ τ.1 43 ∧ τ.1 43 ≤ 260)
def GBG (w : Int) (ρ σ : MS) : Prop := Fr [20, 25, 28, 29, 30, 31, 43] [35, 36, 37] [] ρ σ ∧ (σ.1 25 = w ∧ σ.1 20 = 0 ∧ σ.1 28 = 0 ∧ σ.1 29 = 0 ∧ σ.1 30 = 0 ∧ σ.1 31 = 0) ∧ NN σ ∧ (w = 1 → σ.1 43 = 0 ∧ ∀ r, 0 ≤ r → r < 6 → σ.2.1 35 r = 0) ∧ (w ≠ 1 → σ.1 43 = ρ.1 43 ∧ σ.2.1 35 = ρ.2.1 35 ∧ σ.2.1 36 = ρ.2.1 36) ∧ (0 ≤ σ.1 43 ∧ σ.1 43 ≤ 260)
theorem GBG.kp {w : Int} {ρ σ α τ : MS} (h : GBG w ρ σ) (f : Fr [19, 20, 22, 23] [] [24] σ α) (p : PGO α τ) : GKP w ρ τ := by
  obtain ⟨h1, h2, h3, h4, h5, h6⟩ := h
  obtain ⟨p1, p2, p3, p4, p5, p6⟩ := p
  have e25 : α.1 25 = w := (f.1 25 (by decide)).trans h2.1
  refine ⟨fun a => ⟨fun x b => (IEQ.of h1 (by decide)).trans ((IEQ.of f (by decide)).trans ((p1 (by omega)).1 x b)), (p1 (by omega)).2.trans ((f.2.1 9 (by decide)).trans (h1.2.1 9 (by decide)))⟩, fun a => ?_, p3, (FLT.eq ((f.1 26 (by decide)).trans (h1.1 26 (by decide)))).trans p4, p6⟩
  have q := p2 (by omega)
  have w := h5 a
  have tb : TBm ρ σ := ⟨w.1, h1.2.1 11 (by decide), h1.2.1 45 (by decide), h1.2.2 44 (by decide)⟩
  exact ⟨q.1.trans ((f.2.1 35 (by decide)).trans w.2.1), q.2.1.trans ((f.2.2 38 (by decide)).trans (h1.2.2 38 (by decide))), q.2.2.1.trans ((f.2.1 36 (by decide)).trans w.2.2), tb.trans ((TBm.of f (by decide) (by decide) (by decide) (by decide)).trans q.2.2.2)⟩
theorem GBG.igo {w : Int} {ρ σ α : MS} (h : GBG w ρ σ) (f : Fr [19, 20, 22, 23] [] [24] σ α) : IGO w ρ α := by
  obtain ⟨h1, h2, h3, h4, h5, h6⟩ := h
  refine ⟨⟨(f.1 25 (by decide)).trans h2.1, (f.1 26 (by decide)).trans (h1.1 26 (by decide)), (f.1 27 (by decide)).trans (h1.1 27 (by decide)), (f.1 30 (by decide)).trans h2.2.2.2.2.1, (f.1 31 (by decide)).trans h2.2.2.2.2.2⟩, fun a => ⟨(f.1 43 (by decide)).trans (h4 a).1, fun r b c => by rw [f.2.1 35 (by decide)]; exact (h4 a).2 r b c⟩, fun a => ⟨(f.1 43 (by decide)).trans (h5 a).1, (f.2.1 35 (by decide)).trans (h5 a).2.1⟩, (f.2.1 45 (by decide)).trans (h1.2.1 45 (by decide)), (f.2.2 38 (by decide)).trans (h1.2.2 38 (by decide)), (f.2.2 44 (by decide)).trans (h1.2.2 44 (by decide))⟩
end
section
theorem dX12_goOver_42 : decode cX12_goOver 42 = .ok (.iload_n 2, 1) := by decide +kernel
theorem dX12_goOver_43 : decode cX12_goOver 43 = .ok (.bipush 6, 2) := by decide +kernel
theorem dX12_goOver_45 : decode cX12_goOver 45 = .ok (.if_icmp .ge 23, 3) := by decide +kernel
theorem dX12_goOver_48 : decode cX12_goOver 48 = .ok (.aload_n 0, 1) := by decide +kernel
theorem dX12_goOver_49 : decode cX12_goOver 49 = .ok (.getfield 63, 3) := by decide +kernel
theorem dX12_goOver_52 : decode cX12_goOver 52 = .ok (.iload_n 2, 1) := by decide +kernel
theorem dX12_goOver_53 : decode cX12_goOver 53 = .ok (.iconst 0, 1) := by decide +kernel
theorem dX12_goOver_54 : decode cX12_goOver 54 = .ok (.iastore, 1) := by decide +kernel
theorem dX12_goOver_55 : decode cX12_goOver 55 = .ok (.aload_n 0, 1) := by decide +kernel
theorem dX12_goOver_56 : decode cX12_goOver 56 = .ok (.getfield 66, 3) := by decide +kernel
theorem dX12_goOver_59 : decode cX12_goOver 59 = .ok (.iload_n 2, 1) := by decide +kernel
theorem dX12_goOver_60 : decode cX12_goOver 60 = .ok (.iconst 0, 1) := by decide +kernel
theorem dX12_goOver_61 : decode cX12_goOver 61 = .ok (.iastore, 1) := by decide +kernel
theorem dX12_goOver_62 : decode cX12_goOver 62 = .ok (.iinc 2 1, 3) := by decide +kernel
theorem dX12_goOver_65 : decode cX12_goOver 65 = .ok (.goto (-23), 3) := by decide +kernel
set_option maxHeartbeats 4000000 in
set_option maxRecDepth 20000 in
theorem l_go42 (d : Nat) {b : Nat} {σ0 : MS} {w : Int} {post : Option Value → MS → Prop} (hR0 : RG σ0) (hx_68 : ∀ (i : Int) (σ : MS) , (Fr [] [35, 36] [] σ0 σ) → (RG σ) → (NN σ) → (∀ r, 0 ≤ r → r < 6 → σ.2.1 35 r = 0) → Tm (d + 1) m_X12_goOver 68 b σ [(2, .int (iI i)), (1, .int (iI w)), (0, .ref b)] [] post) : ∀ (n : Nat) (i : Int) (σ : MS) , (Fr [] [35, 36] [] σ0 σ) → (RG σ) → (0 ≤ i ∧ i ≤ 6) → (∀ r, 0 ≤ r → r < i → σ.2.1 35 r = 0) → (6 - i).toNat = n → Tm (d + 1) m_X12_goOver 42 b σ [(2, .int (iI i)), (1, .int (iI w)), (0, .ref b)] [] post := by
  intro n
  induction n using Nat.strongRecOn with
  | _ n ih =>
    intro i σ hF hR h0 hz hm
    refine tm_iload_n dX12_goOver_42 rfl 0 rfl ?_
    refine tm_bipush dX12_goOver_43 (by decide) ?_
    refine tm_icmp_ge (tgt := 68) dX12_goOver_45 (by decide) ⟨by omega, by omega⟩ ⟨by decide, by decide⟩ (fun h1 => ?_) (fun h1 => ?_)
    · exact tm_sub [0, 1, 2] rfl (hx_68 (i) σ (Fr.rfl.trans (Fr.sub hF (by decide) (by decide) (by decide))) hR (fun r a c => by rw [hz r a (by omega)]; decide) (fun r a c => hz r a (by omega)))
    · refine tm_aload_n dX12_goOver_48 rfl 2 rfl ?_
      refine tm_get (k := 35) (v := .ref (b + 1 + 16)) lay_12 dX12_goOver_49 (by decide) fl12_63 rfl ?_
      refine tm_iload_n dX12_goOver_52 rfl 0 rfl ?_
      refine tm_iconst dX12_goOver_53 ?_
      refine tm_iast (z := i) (v := 0) dX12_goOver_54 (show mT[16]? = some (35, 0, 6) from rfl) (by omega) (by omega) (by decide) ?_
      refine tm_aload_n dX12_goOver_55 rfl 2 rfl ?_
      refine tm_get (k := 36) (v := .ref (b + 1 + 17)) lay_12 dX12_goOver_56 (by decide) fl12_66 rfl ?_
      refine tm_iload_n dX12_goOver_59 rfl 0 rfl ?_
      refine tm_iconst dX12_goOver_60 ?_
      refine tm_iast (z := i) (v := 0) dX12_goOver_61 (show mT[17]? = some (36, 0, 6) from rfl) (by omega) (by omega) (by decide) ?_
      refine tm_iinc (q0 := 0) (L' := [(2, .int (iI (i + 1))), (1, .int (iI w)), (0, .ref b)]) dX12_goOver_62 rfl (by decide) rfl ?_
      refine tm_goto (tgt := 42) dX12_goOver_65 (by decide) ?_
      exact tm_sub [0, 1, 2] rfl (ih _ (by omega) (i + 1) (sA 36 (i) (0) (sA 35 (i) (0) σ)) (((Fr.rfl.trans (Fr.sub hF (by decide) (by decide) (by decide))).A (by decide)).A (by decide)) ((hR.A (by omega)).A (by omega)) (by omega) (fun r a c => (Classical.em (r = i)).elim (fun z => by rw [z]; exact ra_o (by decide) ra_eq) (fun z => (show _ = σ.2.1 35 r from ra_o (by decide) (ra_ne z rfl)).trans (hz r a (by omega)))) rfl)
theorem dX12_goOver_70 : decode cX12_goOver 70 = .ok (.iload_n 2, 1) := by decide +kernel
theorem dX12_goOver_71 : decode cX12_goOver 71 = .ok (.bipush 6, 2) := by decide +kernel
theorem dX12_goOver_73 : decode cX12_goOver 73 = .ok (.if_icmp .ge 16, 3) := by decide +kernel
theorem dX12_goOver_76 : decode cX12_goOver 76 = .ok (.aload_n 0, 1) := by decide +kernel
theorem dX12_goOver_77 : decode cX12_goOver 77 = .ok (.getfield 69, 3) := by decide +kernel
theorem dX12_goOver_80 : decode cX12_goOver 80 = .ok (.iload_n 2, 1) := by decide +kernel
theorem dX12_goOver_81 : decode cX12_goOver 81 = .ok (.iconst 0, 1) := by decide +kernel
theorem dX12_goOver_82 : decode cX12_goOver 82 = .ok (.iastore, 1) := by decide +kernel
theorem dX12_goOver_83 : decode cX12_goOver 83 = .ok (.iinc 2 1, 3) := by decide +kernel
theorem dX12_goOver_86 : decode cX12_goOver 86 = .ok (.goto (-16), 3) := by decide +kernel
set_option maxHeartbeats 4000000 in
set_option maxRecDepth 20000 in
theorem l_go70 (d : Nat) {b : Nat} {σ0 : MS} {w : Int} {post : Option Value → MS → Prop} (hR0 : RG σ0) (hx_89 : ∀ (i : Int) (σ : MS) , (Fr [] [37] [] σ0 σ) → (RG σ) → (∀ r, 0 ≤ r → r < 6 → σ.2.1 37 r = 0) → Tm (d + 1) m_X12_goOver 89 b σ [(2, .int (iI i)), (1, .int (iI w)), (0, .ref b)] [] post) : ∀ (n : Nat) (i : Int) (σ : MS) , (Fr [] [37] [] σ0 σ) → (RG σ) → (0 ≤ i ∧ i ≤ 6) → (∀ r, 0 ≤ r → r < i → σ.2.1 37 r = 0) → (6 - i).toNat = n → Tm (d + 1) m_X12_goOver 70 b σ [(2, .int (iI i)), (1, .int (iI w)), (0, .ref b)] [] post := by
  intro n
  induction n using Nat.strongRecOn with
  | _ n ih =>
    intro i σ hF hR h0 hz hm
    refine tm_iload_n dX12_goOver_70 rfl 0 rfl ?_
    refine tm_bipush dX12_goOver_71 (by decide) ?_
    refine tm_icmp_ge (tgt := 89) dX12_goOver_73 (by decide) ⟨by omega, by omega⟩ ⟨by decide, by decide⟩ (fun h1 => ?_) (fun h1 => ?_)
    · exact tm_sub [0, 1, 2] rfl (hx_89 (i) σ (Fr.rfl.trans (Fr.sub hF (by decide) (by decide) (by decide))) hR (fun r a c => hz r a (by omega)))
    · refine tm_aload_n dX12_goOver_76 rfl 2 rfl ?_
      refine tm_get (k := 37) (v := .ref (b + 1 + 18)) lay_12 dX12_goOver_77 (by decide) fl12_69 rfl ?_
      refine tm_iload_n dX12_goOver_80 rfl 0 rfl ?_
      refine tm_iconst dX12_goOver_81 ?_
      refine tm_iast (z := i) (v := 0) dX12_goOver_82 (show mT[18]? = some (37, 0, 6) from rfl) (by omega) (by omega) (by decide) ?_
      refine tm_iinc (q0 := 0) (L' := [(2, .int (iI (i + 1))), (1, .int (iI w)), (0, .ref b)]) dX12_goOver_83 rfl (by decide) rfl ?_
      refine tm_goto (tgt := 70) dX12_goOver_86 (by decide) ?_
      exact tm_sub [0, 1, 2] rfl (ih _ (by omega) (i + 1) (sA 37 (i) (0) σ) ((Fr.rfl.trans (Fr.sub hF (by decide) (by decide) (by decide))).A (by decide)) (hR.A (by omega)) (by omega) (fun r a c => (Classical.em (r = i)).elim (fun z => by rw [z]; exact ra_eq) (fun z => (show _ = σ.2.1 37 r from ra_ne z rfl).trans (hz r a (by omega)))) rfl)
theorem ml12_379 : Cond.methodLink RX12 379 yX12_oneRoutine ∈ pWW := pw8 (List.mem_of_getElem? (i := 148) rfl) rfl
theorem dX12_goOver_93 : decode cX12_goOver 93 = .ok (.aload_n 0, 1) := by decide +kernel
theorem dX12_goOver_94 : decode cX12_goOver 94 = .ok (.getfield 226, 3) := by decide +kernel
theorem dX12_goOver_97 : decode cX12_goOver 97 = .ok (.ifCond .eq 12, 3) := by decide +kernel
theorem dX12_goOver_109 : decode cX12_goOver 109 = .ok (.iconst 1, 1) := by decide +kernel
theorem dX12_goOver_110 : decode cX12_goOver 110 = .ok (.ireturn, 1) := by decide +kernel
theorem dX12_goOver_100 : decode cX12_goOver 100 = .ok (.aload_n 0, 1) := by decide +kernel
theorem dX12_goOver_101 : decode cX12_goOver 101 = .ok (.invokevirtual 379, 3) := by decide +kernel
theorem dX12_goOver_104 : decode cX12_goOver 104 = .ok (.ifCond .ne (-11), 3) := by decide +kernel
theorem dX12_goOver_107 : decode cX12_goOver 107 = .ok (.iconst 0, 1) := by decide +kernel
theorem dX12_goOver_108 : decode cX12_goOver 108 = .ok (.ireturn, 1) := by decide +kernel
set_option maxHeartbeats 4000000 in
set_option maxRecDepth 20000 in
theorem l_go93 (d : Nat) {b : Nat} {σ0 : MS} {w : Int} {ρ : MS} {σa : MS} {post : Option Value → MS → Prop} (hR0 : RG σ0) (hw : 0 ≤ w ∧ w ≤ 3) (hbg : GBG w ρ σa) (hfa : Fr [19, 20, 22, 23] [] [24] σa σ0) (e1 : tks σ0 = advT (sv σ0) 0) (e2 : σ0.1 28 = 0 ∧ σ0.1 29 = 0) (hen : w = 3 → GEN (sv σ0) σ0) (h25 : σ0.1 25 = w) (ha : σ0.1 30 = 0 ∧ σ0.1 31 = 0) (svr : sv σ0 = sv ρ) (tbr : w ≠ 1 → TBm ρ σ0) (hret : ∀ (v : Int) (τ : MS), Fr [19, 20, 22, 23, 25, 26, 27, 28, 29, 30, 31, 32, 33, 34, 39, 40, 43] [3, 4, 5, 6, 7, 8, 9, 35, 36, 37, 41, 42, 45] [24, 38, 44] σ0 τ → RG τ → (v = 0 ∨ v = 1) → GKP w ρ τ → (v = 1 → GQ1 w ρ τ) → (v = 0 → GFL (sS 25 w ρ) τ) → post (some (.int (iI v))) τ) : ∀ (n : Nat) (σ : MS) , (Fr [19, 20, 22, 23, 25, 26, 27, 28, 29, 30, 31, 32, 33, 34, 39, 40, 43] [3, 4, 5, 6, 7, 8, 9, 35, 36, 37, 41, 42, 45] [24, 38, 44] σ0 σ) → (RG σ) → (∃ lg, GRD σ0 σ lg ∧ nR lg = σ.1 30 ∧ (w = 2 → σ.1 26 = 0 → ∀ e ∈ lg, E2 σ0 e) ∧ (w = 3 → GRM σ0 σ lg)) → (TOK σ) → (0 ≤ σ.1 30 ∧ 5 * σ.1 30 ≤ σ.1 19) → (0 ≤ σ.1 31 ∧ σ.1 31 ≤ σ.1 19) → (σ.1 28 = 0 ∧ σ.1 29 = 0) → (w = 1 → σ.1 43 = σ.1 30) → (PGO σ0 σ) → (w = 1 → IV1 σ) → (w = 3 → (∀ r, 0 ≤ r → r < σ.1 30 → PLI σ r) ∧ ∀ j, σ.1 30 ≤ j → σ.2.1 9 j = σ0.2.1 9 j) → (1300 - σ.1 19).toNat = n → Tm (d + 64) m_X12_goOver 93 b σ [(1, .int (iI w)), (0, .ref b)] [] post := by
  intro n
  induction n using Nat.strongRecOn with
  | _ n ih =>
    intro  σ hF hR hI htk h30 h31 h28 h43 hpg hv1 hv3 hm
    obtain ⟨lg, gr, gn, g2, gm⟩ := hI
    have tk := htk.1
    have e25 : σ.1 25 = w := hpg.2.2.2.2.1.trans h25
    have fsv : sv σ = sv σ0 := sv_fr hF (by decide) (by decide)
    refine tm_aload_n dX12_goOver_93 rfl 1 rfl ?_
    refine tm_getS (k := 22) (t := σ.1 22) dX12_goOver_94 (by decide) fl12_226 rfl (rfl) ?_
    have g1 := RG.s hR 22
    refine tm_if_eq (tgt := 109) dX12_goOver_97 (by decide) ⟨by omega, by omega⟩ (fun h2 => ?_) (fun h2 => ?_)
    · refine tm_iconst dX12_goOver_109 ?_
      obtain ⟨t9, x9, e9, r9, f9⟩ := gr.fin e1 e2 (by omega)
      exact tm_zret (v := 1) rfl (by decide) dX12_goOver_110 (hret _ _ (Fr.rfl.trans (Fr.sub hF (by decide) (by decide) (by decide))) hR (by omega) (hbg.kp hfa hpg) (fun _ => ⟨t9, x9, lg, e9, ⟨by rw [← svr]; exact r9, σ0, hbg.igo hfa, f9⟩, gn, fun z1 z2 e he => (g2 z1 z2 e he).bt (tbr (by omega)), fun z => ⟨h43 z, hv1 z⟩, fun z => ⟨(hv3 z).1, fun j c => ((hv3 z).2 j c).trans (congrFun ((hfa.2.1 9 (by decide)).trans (hbg.1.2.1 9 (by decide))) j)⟩, fun z => (gm z).fin e1 e2 (by omega) fsv svr ha.1 ha.2 ((hfa.1 39 (by decide)).trans (hbg.1.1 39 (by decide))) ((hfa.1 40 (by decide)).trans (hbg.1.1 40 (by decide))) ((hfa.2.1 35 (by decide)).trans (hbg.2.2.2.2.1 (by omega)).2.1) ((hfa.2.2 38 (by decide)).trans (hbg.1.2.2 38 (by decide))) ((hfa.1 43 (by decide)).trans (hbg.2.2.2.2.1 (by omega)).1) ((hfa.2.2 44 (by decide)).trans (hbg.1.2.2 44 (by decide)))⟩) (fun q => absurd q (by decide)))
    · have tb0 : w ≠ 1 → TBm σ0 σ := fun z => (hpg.2.1 (by rw [h25]; exact z)).2.2.2
      have hoh : ORH σ := ⟨htk, by omega, h30, h31, h28, hpg.2.2.1, ⟨hpg.2.2.2.2.2, fun z => h43 (by omega)⟩, HQR.mk gr e1 e2 gn (fun z => hen (by omega)) (fun z => tb0 (by omega)) (by omega)⟩
      refine tm_aload_n dX12_goOver_100 rfl 1 rfl ?_
      refine tm_callV (M := m_X12_goOver) (pc := 101) (ix := 379) (M' := m_X12_oneRoutine) (As := []) (rest := []) dX12_goOver_101 ok_X12_oneRoutine im_X12_oneRoutine se_X12_oneRoutine ml12_379 np_X12_oneRoutine rfl rfl (Nat.le_of_ble_eq_true rfl) (Nat.le_of_ble_eq_true rfl) rfl (c_X12_oneRoutine (d) (σ := σ)  hR hoh) (fun r3 σ4 hp => ?_)
      obtain ⟨v5, rfl, f6, f7, f8, f9, f10, f11⟩ := hp
      show Tm _ _ 104 b σ4 [(1, .int (iI w)), (0, .ref b)] [.int (iI v5)] _
      have on0 := f6
      have on1 := f7
      have on2 := f8
      have on3 := f9
      have on4 := f10
      have on5 := f11
      refine tm_if_ne (tgt := 93) dX12_goOver_104 (by decide) ⟨by omega, by omega⟩ (fun h12 => ?_) (fun h12 => ?_)
      · have oq := on4 (by omega)
        obtain ⟨l2, q1, q2, qm, q3, q4, q5⟩ := oq.2.2
        have r6 : w = 3 → σ.1 30 < 6 := fun z => (hoh.2.2.2.2.2.2.2 (by omega) _ _ q1).1 (by rw [q2]; decide)
        have tkz := oq.1.1
        have plz := oq.2.1.2.1
        exact tm_sub [0, 1] rfl (ih _ (by omega)  σ4 ((Fr.rfl.trans (Fr.sub hF (by decide) (by decide) (by decide))).trans (Fr.sub f7 (by decide) (by decide) (by decide))) f8 (⟨lg ++ l2, gr.step (by omega) q1, by rw [nR_app, gn, q2, oq.2.1.1], fun z1 z2 e he => by have y1 : σ.1 26 = 0 := Classical.byContradiction (fun y => on3.2.2.2.1.1 y z2); rcases List.mem_append.mp he with y | y; exact g2 z1 y1 e y; exact (q3 (by omega) z2 e y).bt (tb0 (by omega)), fun z => (gm z).step (by omega) fsv (qm (by omega)) (fun x y1 y2 => on3.1 x y1 (by omega)) (fun j y => on3.2.2.2.2.2.1 j (Or.inl y)) (fun r y1 y2 => by have z5 := ((hv3 z).1 r y1 y2).1; omega) h30.1 (r6 z) oq.2.1.1 (hpg.2.1 (by omega)).1 (hpg.2.1 (by omega)).2.1 (tb0 (by omega)).1 (tb0 (by omega)).2.2.2⟩) (oq.1) ((by have z := oq.2.1; omega)) (oq.2.1.2.2.1) (⟨oq.2.1.2.2.2.1, oq.2.1.2.2.2.2⟩) ((fun z => by have z1 := (q4 (by omega)).1; have z2 := h43 z; have z3 := oq.2.1.1; omega)) ((hpg.step on3)) ((fun z => (hv1 z).step (q4 (by omega)) on3.2.2.2.1 oq.2.1.1 (h43 z) h30.1)) ((fun z => ⟨fun r a c => (Classical.em (r = σ.1 30)).elim (fun y => by rw [y]; exact q5 (by omega)) (fun y => ((hv3 z).1 r a (by have z3 := oq.2.1.1; omega)).oth ⟨a, by have z3 := oq.2.1.1; have z4 := r6 z; omega⟩ on3 (by have z3 := oq.2.1.1; omega) (by omega)), fun j c => (on3.2.2.2.2.2.1 j (Or.inl (by have z3 := oq.2.1.1; omega))).trans ((hv3 z).2 j (by have z3 := oq.2.1.1; omega))⟩)) rfl)
      · refine tm_iconst dX12_goOver_107 ?_
        exact tm_zret (v := 0) rfl (by decide) dX12_goOver_108 (hret _ _ ((Fr.rfl.trans (Fr.sub hF (by decide) (by decide) (by decide))).trans (Fr.sub f7 (by decide) (by decide) (by decide))) f8 (by omega) (hbg.kp hfa (hpg.step on3)) (fun q => absurd q (by decide)) (fun _ => by obtain ⟨es, p, z1, z2⟩ := gr.fail e1 e2 (by omega) (on5 (by omega)); exact ⟨es, p, by show RE (sv ρ) (GST (sv ρ)) _ _; rw [← svr]; exact z1, fun y1 y2 => z2 (by rw [h25]; exact y1) (by rw [hfa.1 26 (by decide), hbg.1.1 26 (by decide)]; exact y2)⟩))
theorem dX12_goOver_68 : decode cX12_goOver 68 = .ok (.iconst 0, 1) := by decide +kernel
theorem dX12_goOver_69 : decode cX12_goOver 69 = .ok (.istore_n 2, 1) := by decide +kernel
theorem dX12_goOver_89 : decode cX12_goOver 89 = .ok (.aload_n 0, 1) := by decide +kernel
theorem dX12_goOver_90 : decode cX12_goOver 90 = .ok (.invokevirtual 265, 3) := by decide +kernel
set_option maxHeartbeats 4000000 in
set_option maxRecDepth 20000 in
theorem b_go68 (d : Nat) {b : Nat} {σ : MS} {w : Int} {ρ : MS} {post : Option Value → MS → Prop} (hR : RG σ) (hw : 0 ≤ w ∧ w ≤ 3) (hbg : GBG w ρ σ) (hlen : 0 ≤ ρ.1 21 ∧ ρ.1 21 ≤ 1200) (hq3 : w = 3 → GEN (sv ρ) ρ) (hret : ∀ (v : Int) (τ : MS), Fr [19, 20, 22, 23, 25, 26, 27, 28, 29, 30, 31, 32, 33, 34, 39, 40, 43] [3, 4, 5, 6, 7, 8, 9, 35, 36, 37, 41, 42, 45] [24, 38, 44] σ τ → RG τ → (v = 0 ∨ v = 1) → GKP w ρ τ → (v = 1 → GQ1 w ρ τ) → (v = 0 → GFL (sS 25 w ρ) τ) → post (some (.int (iI v))) τ) : ∀ (n : Nat) , ((0 : Int)).toNat = n → Tm (d + 64) m_X12_goOver 68 b σ [(1, .int (iI w)), (0, .ref b)] [] post := by
  intro n
  induction n using Nat.strongRecOn with
  | _ n ih =>
    intro   hm
    have hb2 := hbg.2.1
    have hb1 := hbg.1
    refine tm_iconst dX12_goOver_68 ?_
    refine tm_istore_n (L' := [(2, .int (iI 0)), (1, .int (iI w)), (0, .ref b)]) dX12_goOver_69 rfl (by decide) rfl ?_
    refine tm_sub [0, 1, 2] rfl (l_go70 (d + 63) (σ0 := σ) (w := w) hR (fun i6 σ7 F3 R4 f5 => ?_) _ (0) σ Fr.rfl hR (by omega) (fun r a c => absurd c (by omega)) rfl)
    show Tm _ _ 89 b σ7 [(2, .int (iI i6)), (1, .int (iI w)), (0, .ref b)] [] _
    have hz9 := f5
    have hbg9 : GBG w ρ σ7 := ⟨hb1.trans (Fr.sub F3 (by decide) (by decide) (by decide)), by rw [F3.1 25 (by decide), F3.1 20 (by decide), F3.1 28 (by decide), F3.1 29 (by decide), F3.1 30 (by decide), F3.1 31 (by decide)]; exact hb2, hbg.2.2.1.fr F3 (by decide), fun z => by rw [F3.1 43 (by decide), F3.2.1 35 (by decide)]; exact hbg.2.2.2.1 z, fun z => by rw [F3.1 43 (by decide), F3.2.1 35 (by decide), F3.2.1 36 (by decide)]; exact hbg.2.2.2.2.1 z, by rw [F3.1 43 (by decide)]; exact hbg.2.2.2.2.2⟩
    have e219 : σ7.1 21 = ρ.1 21 := hbg9.1.1 21 (by decide)
    have b20 := hbg9.2.1
    have R89 := R4
    refine tm_aload_n dX12_goOver_89 rfl 2 rfl ?_
    refine tm_callV (M := m_X12_goOver) (pc := 90) (ix := 265) (M' := m_X12_advance) (As := []) (rest := []) dX12_goOver_90 ok_X12_advance im_X12_advance se_X12_advance ml12_265 np_X12_advance rfl rfl (Nat.le_of_ble_eq_true rfl) (Nat.le_of_ble_eq_true rfl) rfl (c_X12_advance (d + 58) (σ := σ7)  R89 (by rw [e219]; omega)) (fun r8 σ9 hp => ?_)
    obtain ⟨rfl, f11, f12, f13, f14, f15⟩ := hp
    show Tm _ _ 93 b σ9 [(2, .int (iI i6)), (1, .int (iI w)), (0, .ref b)] [] _
    have ad0 := f11
    have ad1 := f12
    have ad2 := f13
    have ad3 := f14
    have ad4 := f15
    have sv1 : sv σ9 = sv σ7 := ad0.2.2.1
    have svr : sv σ9 = sv ρ := sv1.trans (sv_fr hbg9.1 (by decide) (by decide))
    have tbb : w ≠ 1 → TBm ρ σ7 := fun z => ⟨(hbg9.2.2.2.2.1 z).1, hbg9.1.2.1 11 (by decide), hbg9.1.2.1 45 (by decide), hbg9.1.2.2 44 (by decide)⟩
    have tka := ad3.1
    have tbr : w ≠ 1 → TBm ρ σ9 := fun z => (tbb z).trans (TBm.of ad1 (by decide) (by decide) (by decide) (by decide))
    have nna : NN σ9 := hbg9.2.2.1.fr ad1 (by decide)
    have a25 : σ9.1 25 = w := (ad1.1 25 (by decide)).trans b20.1
    have a28 : σ9.1 28 = 0 ∧ σ9.1 29 = 0 := ⟨(ad1.1 28 (by decide)).trans b20.2.2.1, (ad1.1 29 (by decide)).trans b20.2.2.2.1⟩
    have a30 : σ9.1 30 = 0 := (ad1.1 30 (by decide)).trans b20.2.2.2.2.1
    have a31 : σ9.1 31 = 0 := (ad1.1 31 (by decide)).trans b20.2.2.2.2.2
    have a43 : σ9.1 43 = σ7.1 43 := ad1.1 43 (by decide)
    have ae1 : tks σ9 = advT (sv σ9) 0 := by rw [sv1, ad0.1, b20.2.1]
    refine tm_sub [1, 2] rfl (l_go93 (d) (σ0 := σ9) (w := w) (ρ := ρ) (σa := σ7) f13 hw hbg9 ad1 ae1 a28 (fun z => by obtain ⟨t, x, l, r1, r2, r3⟩ := hq3 z; exact ⟨t, x, l, by rw [svr]; exact r1, r2, fun e he => (r3 e he).tb (tbr (by omega))⟩) a25 ⟨a30, a31⟩ svr tbr (fun v τ z1 z2 z3 z4 z5 z6 => hret v τ ((show Fr [19, 20, 22, 23, 25, 26, 27, 28, 29, 30, 31, 32, 33, 34, 39, 40, 43] [3, 4, 5, 6, 7, 8, 9, 35, 36, 37, 41, 42, 45] [24, 38, 44] σ σ9 from ((Fr.rfl.trans (Fr.sub F3 (by decide) (by decide) (by decide))).trans (Fr.sub f12 (by decide) (by decide) (by decide)))).trans z1) z2 z3 z4 z5 z6) _ σ9 Fr.rfl f13 ⟨[], ⟨0, GOS.nop rfl rfl⟩, a30.symm, fun _ _ e he => absurd he (List.not_mem_nil), fun _ => GRM.begin a30 (fun r y1 y2 => (congrFun (ad1.2.1 37 (by decide)) r).trans (hz9 r y1 y2))⟩ ad3 (by omega) (by omega) a28 (fun z => by rw [a43, a30]; exact (hbg9.2.2.2.1 z).1) (PGO.rfl nna (by rw [a43]; exact hbg9.2.2.2.2.2)) (fun _ _ => ⟨by omega, fun v z1 z2 => absurd z2 (by omega)⟩) (fun _ => ⟨fun r z1 z2 => absurd z2 (by omega), fun _ _ => rfl⟩) rfl)
theorem dX12_goOver_0 : decode cX12_goOver 0 = .ok (.aload_n 0, 1) := by decide +kernel
theorem dX12_goOver_1 : decode cX12_goOver 1 = .ok (.iload_n 1, 1) := by decide +kernel
theorem dX12_goOver_2 : decode cX12_goOver 2 = .ok (.putfield 255, 3) := by decide +kernel
theorem dX12_goOver_5 : decode cX12_goOver 5 = .ok (.aload_n 0, 1) := by decide +kernel
theorem dX12_goOver_6 : decode cX12_goOver 6 = .ok (.iconst 0, 1) := by decide +kernel
theorem dX12_goOver_7 : decode cX12_goOver 7 = .ok (.putfield 210, 3) := by decide +kernel
theorem dX12_goOver_10 : decode cX12_goOver 10 = .ok (.aload_n 0, 1) := by decide +kernel
theorem dX12_goOver_11 : decode cX12_goOver 11 = .ok (.iconst 0, 1) := by decide +kernel
theorem dX12_goOver_12 : decode cX12_goOver 12 = .ok (.putfield 268, 3) := by decide +kernel
theorem dX12_goOver_15 : decode cX12_goOver 15 = .ok (.aload_n 0, 1) := by decide +kernel
theorem dX12_goOver_16 : decode cX12_goOver 16 = .ok (.iconst 0, 1) := by decide +kernel
theorem dX12_goOver_17 : decode cX12_goOver 17 = .ok (.putfield 343, 3) := by decide +kernel
theorem dX12_goOver_20 : decode cX12_goOver 20 = .ok (.aload_n 0, 1) := by decide +kernel
theorem dX12_goOver_21 : decode cX12_goOver 21 = .ok (.iconst 0, 1) := by decide +kernel
theorem dX12_goOver_22 : decode cX12_goOver 22 = .ok (.putfield 304, 3) := by decide +kernel
theorem dX12_goOver_25 : decode cX12_goOver 25 = .ok (.aload_n 0, 1) := by decide +kernel
theorem dX12_goOver_26 : decode cX12_goOver 26 = .ok (.iconst 0, 1) := by decide +kernel
theorem dX12_goOver_27 : decode cX12_goOver 27 = .ok (.putfield 333, 3) := by decide +kernel
theorem dX12_goOver_30 : decode cX12_goOver 30 = .ok (.iload_n 1, 1) := by decide +kernel
theorem dX12_goOver_31 : decode cX12_goOver 31 = .ok (.iconst 1, 1) := by decide +kernel
theorem dX12_goOver_32 : decode cX12_goOver 32 = .ok (.if_icmp .ne 36, 3) := by decide +kernel
theorem dX12_goOver_35 : decode cX12_goOver 35 = .ok (.aload_n 0, 1) := by decide +kernel
theorem dX12_goOver_36 : decode cX12_goOver 36 = .ok (.iconst 0, 1) := by decide +kernel
theorem dX12_goOver_37 : decode cX12_goOver 37 = .ok (.putfield 376, 3) := by decide +kernel
theorem dX12_goOver_40 : decode cX12_goOver 40 = .ok (.iconst 0, 1) := by decide +kernel
theorem dX12_goOver_41 : decode cX12_goOver 41 = .ok (.istore_n 2, 1) := by decide +kernel
set_option maxHeartbeats 4000000 in
set_option maxRecDepth 20000 in
theorem c_X12_goOver (d : Nat) {b : Nat} {σ : MS} {w : Int} (hR : RG σ) (hw : 0 ≤ w ∧ w ≤ 3) (hlen : 0 ≤ σ.1 21 ∧ σ.1 21 ≤ 1200) (hnn : NN σ) (h43 : 0 ≤ σ.1 43 ∧ σ.1 43 ≤ 260) (hq3 : w = 3 → GEN (sv σ) σ) : Tm (d + 64) m_X12_goOver 0 b σ [(0, .ref b), (1, .int (iI w))] [] (fun ro σ2 => ∃ v : Int, ro = some (.int (iI v)) ∧ ((v = 0 ∨ v = 1)) ∧ (Fr [19, 20, 22, 23, 25, 26, 27, 28, 29, 30, 31, 32, 33, 34, 39, 40, 43] [3, 4, 5, 6, 7, 8, 9, 35, 36, 37, 41, 42, 45] [24, 38, 44] σ σ2) ∧ (RG σ2) ∧ (GKP w σ σ2) ∧ (Im v 1 (GQ1 w σ σ2)) ∧ (Im v 0 (GFL (sS 25 w σ) σ2))) := by
  refine tm_aload_n dX12_goOver_0 rfl 0 rfl ?_
  refine tm_iload_n dX12_goOver_1 rfl 1 rfl ?_
  refine tm_putS (k := 25) (v := w) lay_12 dX12_goOver_2 (by decide) fl12_255 rfl (tyX12_ok 25 (by decide)) rfl rfl rfl ?_
  refine tm_aload_n dX12_goOver_5 rfl 0 rfl ?_
  refine tm_iconst dX12_goOver_6 ?_
  refine tm_putS (k := 20) (v := 0) lay_12 dX12_goOver_7 (by decide) fl12_210 rfl (tyX12_ok 20 (by decide)) rfl rfl rfl ?_
  refine tm_aload_n dX12_goOver_10 rfl 0 rfl ?_
  refine tm_iconst dX12_goOver_11 ?_
  refine tm_putS (k := 30) (v := 0) lay_12 dX12_goOver_12 (by decide) fl12_268 rfl (tyX12_ok 30 (by decide)) rfl rfl rfl ?_
  refine tm_aload_n dX12_goOver_15 rfl 0 rfl ?_
  refine tm_iconst dX12_goOver_16 ?_
  refine tm_putS (k := 31) (v := 0) lay_12 dX12_goOver_17 (by decide) fl12_343 rfl (tyX12_ok 31 (by decide)) rfl rfl rfl ?_
  refine tm_aload_n dX12_goOver_20 rfl 0 rfl ?_
  refine tm_iconst dX12_goOver_21 ?_
  refine tm_putS (k := 28) (v := 0) lay_12 dX12_goOver_22 (by decide) fl12_304 rfl (tyX12_ok 28 (by decide)) rfl rfl rfl ?_
  refine tm_aload_n dX12_goOver_25 rfl 0 rfl ?_
  refine tm_iconst dX12_goOver_26 ?_
  refine tm_putS (k := 29) (v := 0) lay_12 dX12_goOver_27 (by decide) fl12_333 rfl (tyX12_ok 29 (by decide)) rfl rfl rfl ?_
  refine tm_iload_n dX12_goOver_30 rfl 1 rfl ?_
  refine tm_iconst dX12_goOver_31 ?_
  refine tm_icmp_ne (tgt := 68) dX12_goOver_32 (by decide) ⟨by omega, by omega⟩ ⟨by decide, by decide⟩ (fun h1 => ?_) (fun h1 => ?_)
  · refine tm_sub [1, 0] rfl (b_go68 (d) (σ := (sS 29 0 (sS 28 0 (sS 31 0 (sS 30 0 (sS 20 0 (sS 25 w σ))))))) (w := w) (ρ := σ) ((((((hR.S (by omega)).S (by omega)).S (by omega)).S (by omega)).S (by omega)).S (by omega)) hw ⟨((((((Fr.rfl.S (by decide)).S (by decide)).S (by decide)).S (by decide)).S (by decide)).S (by decide)), ⟨rs_o (by decide) (rs_o (by decide) (rs_o (by decide) (rs_o (by decide) (rs_o (by decide) (rs_eq))))), rs_o (by decide) (rs_o (by decide) (rs_o (by decide) (rs_o (by decide) (rs_eq)))), rs_o (by decide) (rs_eq), rs_eq, rs_o (by decide) (rs_o (by decide) (rs_o (by decide) (rs_eq))), rs_o (by decide) (rs_o (by decide) (rs_eq))⟩, hnn, fun z => absurd z (by omega), fun _ => ⟨rfl, rfl, rfl⟩, h43⟩ hlen hq3 (fun v τ z1 z2 z3 z4 z5 z6 => ⟨_, rfl, z3, (show Fr [19, 20, 22, 23, 25, 26, 27, 28, 29, 30, 31, 32, 33, 34, 39, 40, 43] [3, 4, 5, 6, 7, 8, 9, 35, 36, 37, 41, 42, 45] [24, 38, 44] σ (sS 29 0 (sS 28 0 (sS 31 0 (sS 30 0 (sS 20 0 (sS 25 w σ)))))) from ((((((Fr.rfl.S (by decide)).S (by decide)).S (by decide)).S (by decide)).S (by decide)).S (by decide))).trans z1, z2, z4, z5, z6⟩) _  rfl)
  · refine tm_aload_n dX12_goOver_35 rfl 0 rfl ?_
    refine tm_iconst dX12_goOver_36 ?_
    refine tm_putS (k := 43) (v := 0) lay_12 dX12_goOver_37 (by decide) fl12_376 rfl (tyX12_ok 43 (by decide)) rfl rfl rfl ?_
    refine tm_iconst dX12_goOver_40 ?_
    refine tm_istore_n (L' := [(2, .int (iI 0)), (0, .ref b), (1, .int (iI w))]) dX12_goOver_41 rfl (by decide) rfl ?_
    refine tm_sub [0, 2, 1] rfl (l_go42 (d + 63) (σ0 := (sS 43 0 (sS 29 0 (sS 28 0 (sS 31 0 (sS 30 0 (sS 20 0 (sS 25 w σ)))))))) (w := w) (((((((hR.S (by omega)).S (by omega)).S (by omega)).S (by omega)).S (by omega)).S (by omega)).S (by omega)) (fun i8 σ9 F4 R5 f6 f7 => ?_) _ (0) (sS 43 0 (sS 29 0 (sS 28 0 (sS 31 0 (sS 30 0 (sS 20 0 (sS 25 w σ))))))) Fr.rfl (((((((hR.S (by omega)).S (by omega)).S (by omega)).S (by omega)).S (by omega)).S (by omega)).S (by omega)) (by omega) (fun r a c => absurd c (by omega)) rfl)
    show Tm _ _ 68 b σ9 [(2, .int (iI i8)), (1, .int (iI w)), (0, .ref b)] [] _
    refine tm_sub [1, 2] rfl (b_go68 (d) (σ := σ9) (w := w) (ρ := σ) R5 hw ⟨((((((((Fr.rfl.S (by decide)).S (by decide)).S (by decide)).S (by decide)).S (by decide)).S (by decide)).S (by decide)).trans (Fr.sub F4 (by decide) (by decide) (by decide))), ⟨rs_F F4 (by decide) (rs_o (by decide) (rs_o (by decide) (rs_o (by decide) (rs_o (by decide) (rs_o (by decide) (rs_o (by decide) (rs_eq))))))), rs_F F4 (by decide) (rs_o (by decide) (rs_o (by decide) (rs_o (by decide) (rs_o (by decide) (rs_o (by decide) (rs_eq)))))), rs_F F4 (by decide) (rs_o (by decide) (rs_o (by decide) (rs_eq))), rs_F F4 (by decide) (rs_o (by decide) (rs_eq)), rs_F F4 (by decide) (rs_o (by decide) (rs_o (by decide) (rs_o (by decide) (rs_o (by decide) (rs_eq))))), rs_F F4 (by decide) (rs_o (by decide) (rs_o (by decide) (rs_o (by decide) (rs_eq))))⟩, f6, fun _ => ⟨(show σ9.1 43 = 0 from rs_F F4 (by decide) (rs_eq)), f7⟩, fun z => absurd (by omega) z, by rw [(show σ9.1 43 = 0 from rs_F F4 (by decide) (rs_eq))]; decide⟩ hlen hq3 (fun v τ z1 z2 z3 z4 z5 z6 => ⟨_, rfl, z3, (show Fr [19, 20, 22, 23, 25, 26, 27, 28, 29, 30, 31, 32, 33, 34, 39, 40, 43] [3, 4, 5, 6, 7, 8, 9, 35, 36, 37, 41, 42, 45] [24, 38, 44] σ σ9 from ((((((((Fr.rfl.S (by decide)).S (by decide)).S (by decide)).S (by decide)).S (by decide)).S (by decide)).S (by decide)).trans (Fr.sub F4 (by decide) (by decide) (by decide)))).trans z1, z2, z4, z5, z6⟩) _  rfl)
end
section
theorem CW.ext {n F R : Int} {K D O K' D' O' FI fr lf : Int → Int} (h : CW n F R K D O FI fr lf) (e : ∀ k, 0 ≤ k → k < n → K' k = K k ∧ D' k = D k ∧ O' k = O k) : CW n F R K' D' O' FI fr lf := by
  obtain ⟨c1, c2, c3, c4, c5⟩ := h
  refine ⟨c1, c2, fun k a b x7 x8 => ?_, fun k a b => ?_, fun k a b z => ?_⟩
  · rw [(e k a b).1] at x7 x8 ⊢
    rw [(e k a b).2.1]
    exact c3 k a b x7 x8
  · rw [(e k a b).1, (e k a b).2.1]; exact c4 k a b
  · rw [(e k a b).1] at z
    obtain ⟨d0, j, d1, d2, d3, d4, d5⟩ := c5 k a b z
    exact ⟨by rw [(e k a b).2.2]; exact d0, j, d1, d2, by rw [(e j d1 (by omega)).1]; exact d3, by rw [(e j d1 (by omega)).2.2]; exact d4, fun i x y => by rw [(e i (by omega) (by omega)).1]; exact d5 i x y⟩
def KPR (σ τ : MS) : Prop := (∀ x, x ≠ 2640 → IEQ σ x τ x) ∧ τ.2.1 9 = σ.2.1 9
theorem KPR.trans {σ τ υ : MS} (h : KPR σ τ) (g : KPR τ υ) : KPR σ υ := ⟨fun x a => (h.1 x a).trans (g.1 x a), g.2.trans h.2⟩
theorem KPR.xr {σ τ : MS} (h : KPR σ τ) : XR 12 σ τ := ⟨fun y _ b => ⟨(h.1 y (by omega)).1, (h.1 y (by omega)).2.1, (h.1 y (by omega)).2.2.1, (h.1 y (by omega)).2.2.2.1⟩, fun z _ b => by
  by_cases n0 : 0 ≤ z
  · have q := (h.1 (z / 4) (by omega)).2.2.2.2 (z % 4) (by omega) (by omega)
    rw [show 4 * (z / 4) + z % 4 = z by omega] at q
    exact q
  · have q := (h.1 (z / 4) (by omega)).2.2.2.2 (z % 4) (by omega) (by omega)
    rw [show 4 * (z / 4) + z % 4 = z by omega] at q
    exact q⟩
section KP
variable {ss ks js : List Nat} {σ τ : MS}
theorem GDA.kpr (h : GDA σ) (hn : NAM σ) (x : KPR σ τ) (f : Fr ss ks js σ τ) (hs : 10 ∉ ss) (hk : ∀ k ∈ [11, 12, 14, 15, 16, 18], k ∉ ks) : GDA τ := by
  refine ⟨by rw [f.1 10 hs]; exact h.1, fun r a b => ?_⟩
  rw [f.1 10 hs] at b
  have r6 := h.1.2
  exact (h.2 r a b).oth (r := 12) ⟨a, by omega, by omega⟩ hn x.xr (by rw [x.2]) (by rw [f.q hk (k := 14) (by decide)]) (f.q hk (k := 11) (by decide)) (f.q hk (k := 12) (by decide)) (f.1 10 hs) (fun y _ => by rw [f.q hk (k := 15) (by decide), f.q hk (k := 16) (by decide)]; exact ⟨rfl, rfl⟩) (fun z _ => by rw [f.q hk (k := 18) (by decide)])
theorem PLC.kpr {m r p f : Int} (h : PLC σ m r p f) (x : KPR σ τ) (g : Fr ss ks js σ τ) (hs : 10 ∉ ss) (hk : ∀ k ∈ [14, 16], k ∉ ks) (hb : 0 ≤ bkm m + r ∧ bkm m + r < 12) (h9 : σ.2.1 9 (bkm m + r) ≤ 220) : PLC τ m r p f := by
  obtain ⟨h1, h2, fr, lf, c, e⟩ := h
  refine ⟨by rw [g.1 10 hs]; exact h1, by rw [x.2]; exact h2, fr, lf, ?_, e⟩
  rw [g.1 10 hs, x.2, fm_fr g (hk 14 (by decide)), prm_fr g (hk 16 (by decide))]
  have r0 := hb
  refine c.ext (fun k a b => ?_)
  have q := x.1 (220 * (bkm m + r) + k) (by omega)
  exact ⟨q.1, q.2.1, q.2.2.1⟩
theorem BKG.kpr {m r : Int} (h : BKG σ m r) (x : KPR σ τ) (g : Fr ss ks js σ τ) (hs : 10 ∉ ss) (hk : ∀ k ∈ [11, 14, 16, 18], k ∉ ks) (hb : 0 ≤ bkm m + r ∧ bkm m + r < 12) : BKG τ m r := by
  obtain ⟨h1, h2, h3, ⟨fr, lf, h4⟩, h5, h6, h7⟩ := h
  have q : ∀ k, 0 ≤ k → k < 220 → IEQ σ (220 * (bkm m + r) + k) τ (220 * (bkm m + r) + k) := fun k a b => x.1 _ (by omega)
  unfold BKG
  rw [fm_fr g (hk 14 (by decide)), prm_fr g (hk 16 (by decide)), g.q hk (k := 18) (by decide), g.q hk (k := 11) (by decide), g.1 10 hs, x.2]
  refine ⟨h1, fun k a b => ?_, fun k a b e => ?_, ⟨fr, lf, h4.ext (fun k a b => ⟨(q k a (by omega)).1, (q k a (by omega)).2.1, (q k a (by omega)).2.2.1⟩)⟩, h5, h6, h7⟩
  · rw [x.2] at b
    exact (q k a (by omega)).oki (g.q hk (k := 11) (by decide)) (h2 k a b)
  · rw [x.2] at b
    rw [(q k a (by omega)).1] at e
    obtain ⟨j, j0, j1, j2, j3⟩ := h3 k a b e
    exact ⟨j, j0, by rw [x.2]; exact j1, by rw [(q j j0 (by omega)).1]; exact j2, by rw [(q j j0 (by omega)).2.1, (q k a (by omega)).2.1]; exact j3⟩
theorem PLA.kpr (h : PLA σ) (x : KPR σ τ) (g : Fr ss ks js σ τ) (hs : 10 ∉ ss) (hk : ∀ k ∈ [11, 14, 16, 18], k ∉ ks) : PLA τ := by
  obtain ⟨⟨h1, h2⟩, h3⟩ := h
  have b2 : bkm 2 = 6 := rfl
  refine ⟨⟨by rw [g.1 10 hs]; exact h1, fun r a b => ?_⟩, fun r a b => ?_⟩
  · rw [g.1 10 hs] at b
    exact (h2 r a b).kpr x g hs hk (by rw [b2]; omega)
  · rw [g.1 10 hs] at b
    have q9 := (h2 r a b).1
    rw [b2] at q9
    have q : ∀ k, 0 ≤ k → k < 220 → IEQ σ (220 * (6 + r) + k) τ (220 * (6 + r) + k) := fun k a b => x.1 _ (by omega)
    have p := h3 r a b
    unfold PLN kdm dsm at p ⊢
    rw [b2] at p ⊢
    rw [x.2]
    refine ⟨?_, fun p0 j c1 c2 c3 c4 c5 c6 c7 => ?_⟩
    · rw [(q 0 (by omega) (by omega)).1, (q 1 (by omega) (by omega)).1]; exact p.1
    · rw [(q p0 c1 (by omega)).1] at c5
      rw [(q j c3 (by omega)).1] at c6
      rw [(q j c3 (by omega)).2.1, (q p0 c1 (by omega)).2.1] at c7
      rcases p.2 p0 j c1 c2 c3 c4 c5 c6 c7 with y | y
      · exact Or.inl y
      · exact Or.inr (by rw [(q (j + 1) (by omega) (by omega)).1]; exact y)
theorem RUN.kpr (h : RUN σ 0) (gd : GDA σ) (x : KPR σ τ) (g : Fr ss ks js σ τ) (hs : 10 ∉ ss) (hk : ∀ k ∈ [14, 16, 73, 78, 79, 80], k ∉ ks) : RUN τ 0 := by
  obtain ⟨h1, h2, h3, h4⟩ := h
  have e73 := g.q hk (k := 73) (by decide)
  have e78 := g.q hk (k := 78) (by decide)
  have e79 := g.q hk (k := 79) (by decide)
  have e80 := g.q hk (k := 80) (by decide)
  have b0 : bkm 0 = 0 := rfl
  have key : ∀ c, 9 * 0 ≤ c → c < 9 * 0 + σ.2.1 73 0 → (0 ≤ σ.2.1 78 c ∧ σ.2.1 78 c < 6) ∧ (0 ≤ σ.2.1 79 c ∧ σ.2.1 79 c < 220) ∧ σ.2.1 9 (σ.2.1 78 c) ≤ 200 := fun c a b => by
    have p := h2 c a b
    have p1 := p.1
    have p2 := p.2.1
    have q := (gd.2 _ p1.1 p1.2).1
    have r6 := gd.1.2
    rw [b0, Int.zero_add] at p2
    omega
  refine ⟨by rw [e73]; exact h1, fun c a b => ?_, fun c a b => ?_, ?_⟩
  · rw [e73] at b
    rw [e78, e79, e80]
    have k := key c a b
    exact (h2 c a b).kpr x g hs (fun k q => hk k (by revert k q; decide)) (by rw [b0]; omega) (by rw [b0, Int.zero_add]; omega)
  · rw [e73] at b
    rw [e78, e79]
    have k := key c a (by omega)
    have z := h3 c a b
    unfold kdm at z ⊢
    rw [b0] at z ⊢
    rw [(x.1 _ (by omega)).1]
    exact z
  · rw [dpt_dsum] at h4 ⊢
    rw [e73, e78, e80, dsum_fr g (hk 16 (by decide))]
    exact h4
end KP
def RDQ (σ τ : MS) : Prop := GDA τ ∧ PLA τ ∧ ITM τ ∧ PAR τ ∧ NAM τ ∧ BO 48 τ ∧ (τ.1 67 = 0 ∨ (τ.1 67 = σ.1 67 ∧ τ.1 68 = σ.1 68 ∧ (RUN σ 0 → RUN τ 0)))
def RDH (σ : MS) : Prop := GDA σ ∧ PLA σ ∧ ITM σ ∧ PAR σ ∧ NAM σ ∧ BO 48 σ
theorem RDQ.keep {σ τ : MS} (h : RDH σ) (x : KPR σ τ) (f : Fr [0, 2, 19, 20, 21, 22, 23, 25, 26, 27, 28, 29, 30, 31, 32, 33, 34, 39, 40, 43] [3, 4, 5, 6, 7, 8, 9, 35, 36, 37, 41, 42, 45] [24, 38, 44] σ τ) : RDQ σ τ := by
  obtain ⟨h1, h2, h3, h4, h5, h6⟩ := h
  refine ⟨h1.kpr h5 x f (by decide) (by decide), h2.kpr x f (by decide) (by decide), fun r a b => by rw [x.2]; exact h3 r a b, fun r a b => by rw [f.2.1 11 (by decide)]; exact h4 r a b, fun r a b => by rw [f.2.1 12 (by decide)]; exact h5 r a b, h6.fr f (by decide), Or.inr ⟨f.1 67 (by decide), f.1 68 (by decide), fun r => r.kpr h1 x f (by decide) (by decide)⟩⟩
theorem GKP.kpr {w : Int} {σ τ : MS} (h : GKP w σ τ) (hw : w ≠ 3) : KPR σ τ := h.1 hw
def DNR (σ : MS) (r : Int) : Prop := σ.2.1 14 r = 1 ∧ σ.2.1 15 (12 * r) = r ∧ σ.2.1 16 (12 * r) = -1 ∧ (∀ n, 0 ≤ n → n < 12 → σ.2.1 18 (144 * r + n) = n) ∧ σ.2.1 9 (6 + r) = σ.2.1 9 r ∧ ∀ k, 0 ≤ k → k < σ.2.1 9 r → IEQ σ (220 * r + k) σ (220 * (6 + r) + k)
theorem PLI.cw {σ : MS} {r F R : Int} {FI : Int → Int} (h : PLI σ r) (hF : 1 ≤ F) (hR : σ.1 43 ≤ R) : CW (σ.2.1 9 r) F R (iK σ r) (iD σ r) (iO σ r) FI (fun _ => 0) (fun _ => 0) := by
  obtain ⟨h1, h2, ⟨l, h3, w0, w1, w2, w3, w4⟩, h5, h6⟩ := h
  have lt : ∀ k, 0 ≤ k → k < σ.2.1 9 r → iK σ r k ≠ 7 → k < σ.2.1 9 r - 1 := fun k a b c => by
    by_cases z : k = σ.2.1 9 r - 1
    · rw [z] at c; exact absurd h5 c
    · omega
  refine ⟨rfl, fun _ _ _ => ⟨Int.le_refl _, show (0 : Int) < F by omega⟩, fun k a b x7 x8 => ?_, fun k _ _ => ⟨fun _ => rfl, fun _ => rfl⟩, fun k a b e => ?_⟩
  · have y := lt k a b x7
    have q := w1 k a y
    exact ⟨by omega, fun z => absurd z q.1, fun z => absurd z q.2.1, fun _ _ => rfl⟩
  · have y := lt k a b (by omega)
    obtain ⟨q, j, j0, j1, j2, j3, j4⟩ := w4 k a y e
    exact ⟨by omega, j, j0, j1, j2, j3, fun i x z => (j4 i x z).2⟩
theorem PLI.lex {σ : MS} {r : Int} (h : PLI σ r) : LEX σ r := fun k a b e => by
  obtain ⟨h1, h2, ⟨l, h3, w0, w1, w2, w3, w4⟩, h5, h6⟩ := h
  have y : k < σ.2.1 9 r - 1 := by
    by_cases z : k = σ.2.1 9 r - 1
    · rw [z] at e
      simp only [iK] at h5
      omega
    · omega
  obtain ⟨j, j0, j1, j2, j3⟩ := w2 k a y e
  exact ⟨j, j0, by omega, j2, j3⟩
theorem GDR.plain {σ : MS} {r : Int} (h : PLI σ r) (d : DNR σ r) (hr : 0 ≤ r ∧ r < 6) (e43 : σ.1 43 = σ.1 10) (hn : 0 ≤ σ.2.1 12 r ∧ σ.2.1 12 r ≤ 12) (hp : σ.2.1 11 r ≤ σ.2.1 12 r) : GDR σ r := by
  have lx := h.lex
  have cw := h.cw (F := σ.2.1 14 r) (R := σ.1 10) (FI := iF σ r) (by rw [d.1]; decide) (by omega)
  obtain ⟨d1, d2, d3, d4, d5, d6⟩ := d
  obtain ⟨h1, h2, ⟨l, h3, w0, w1, w2, w3, w4⟩, h5, h6⟩ := h
  have z0 : (12 : Int) * r + 0 = 12 * r := by omega
  refine ⟨by omega, ⟨by rw [d1]; decide, fun f a b => ?_⟩, fun k a b => by rw [d1]; exact h2 k a b, by unfold FR0; rw [z0]; exact d2, lx, ⟨_, _, cw⟩, ⟨by rw [z0]; exact d3, fun f a b => by rw [d1] at b; omega⟩, fun k a b e => ?_, hp⟩
  · have f0 : f = 0 := by rw [d1] at b; omega
    rw [f0, z0, d2]
    refine ⟨hr, fun n x y => ?_⟩
    rw [show 144 * r + 12 * 0 + n = 144 * r + n by omega, d4 n x (by omega)]
    omega
  · rw [d1]
    have y : k < σ.2.1 9 r - 1 := by
      by_cases z : k = σ.2.1 9 r - 1
      · rw [z] at e
        simp only [iK] at h5
        omega
      · omega
    have q := (w1 k a y).2.2 e
    simp only [iD] at q
    omega
theorem BKG.plain {σ : MS} {r : Int} (h : PLI σ r) (d : DNR σ r) (hr : 0 ≤ r ∧ r < 6) (e43 : σ.1 43 = σ.1 10) : BKG σ 2 r ∧ PLN σ r := by
  have lx := h.lex
  have cw := h.cw (F := 1) (R := σ.1 10) (FI := prm σ 2 r) (by decide) (by omega)
  obtain ⟨d1, d2, d3, d4, d5, d6⟩ := d
  obtain ⟨h1, h2, ⟨l, h3, w0, w1, w2, w3, w4⟩, h5, h6⟩ := h
  have b2 : bkm 2 = 6 := rfl
  have f2 : fm σ 2 r = 1 := rfl
  unfold BKG PLN kdm dsm
  rw [b2, f2, d5]
  refine ⟨⟨by omega, fun k a b => ?_, fun k a b e => ?_, ⟨_, _, cw.ext (fun k a b => ⟨(d6 k a b).1, (d6 k a b).2.1, (d6 k a b).2.2.1⟩)⟩, by decide, fun f a b => ?_, fun n _ _ z => absurd rfl z⟩, ?_, fun p j c1 c2 c3 c4 c5 c6 c7 => ?_⟩
  · rw [d5] at b
    exact (d6 k a b).oki rfl (h2 k a b)
  · rw [d5] at b
    rw [(d6 k a b).1] at e
    obtain ⟨j, j0, j1, j2, j3⟩ := lx k a b e
    exact ⟨j, j0, by rw [d5]; exact j1, by rw [(d6 j j0 j1).1]; exact j2, by rw [(d6 j j0 j1).2.1, (d6 k a b).2.1]; exact j3⟩
  · show -1 ≤ (-1 : Int) ∧ (-1 : Int) < f
    omega
  · rw [(d6 0 (by omega) (by omega)).1]
    rcases h6 with e | e | e
    · exact Or.inl e
    · exact Or.inr (Or.inl e)
    · by_cases z : σ.2.1 9 r = 1
      · rw [z] at h5
        have y : iK σ r 0 = 7 := h5
        exact Or.inr (Or.inl y)
      · rw [(d6 1 (by omega) (by omega)).1]
        exact Or.inr (Or.inr e)
  · have lt : ∀ k, 0 ≤ k → k < σ.2.1 9 r → iK σ r k ≠ 7 → k < σ.2.1 9 r - 1 := fun k a b c => by
      by_cases z : k = σ.2.1 9 r - 1
      · rw [z] at c; exact absurd h5 c
      · omega
    rw [(d6 p c1 c2).1] at c5
    rw [(d6 j c3 c4).1] at c6
    rw [(d6 j c3 c4).2.1, (d6 p c1 c2).2.1] at c7
    have y1 := lt p c1 c2 (by simp only [iK]; omega)
    have y2 := lt j c3 c4 (by simp only [iK]; omega)
    rcases w3 p j c1 y1 c3 y2 c5 c6 c7 with q | q
    · exact Or.inl q
    · exact Or.inr (by rw [(d6 (j + 1) (by omega) (by omega)).1]; exact q.1)
theorem E2.e3 {σ τ : MS} {e : EV} (h : E2 σ e) (e43 : τ.1 43 = σ.1 43) (e44 : τ.2.2 44 = σ.2.2 44) (h6 : σ.1 43 ≤ 6) (h11 : ∀ v, 0 ≤ v → v < σ.1 43 → τ.2.1 11 v = σ.2.1 45 v) : E3 τ e := ⟨h.1, fun z => by
  obtain ⟨v, a, b, c⟩ := h.2 z
  refine ⟨v, by rw [e43]; exact a, by omega, ?_, by rw [h11 v a.1 a.2]; exact c⟩
  unfold RBY; rw [e43, e44]; exact b⟩
theorem IEQ.symm {σ τ : MS} {x y : Int} (h : IEQ σ x τ y) : IEQ τ y σ x := ⟨h.1.symm, h.2.1.symm, h.2.2.1.symm, h.2.2.2.1.symm, fun i a b => ⟨(h.2.2.2.2 i a b).1.symm, (h.2.2.2.2 i a b).2.symm⟩⟩
theorem DNR.oth {σ τ : MS} {j : Int} (h : DNR σ j) (e14 : τ.2.1 14 j = σ.2.1 14 j) (e15 : τ.2.1 15 (12 * j) = σ.2.1 15 (12 * j)) (e16 : τ.2.1 16 (12 * j) = σ.2.1 16 (12 * j)) (e18 : ∀ n, 0 ≤ n → n < 12 → τ.2.1 18 (144 * j + n) = σ.2.1 18 (144 * j + n)) (e9 : τ.2.1 9 j = σ.2.1 9 j) (e96 : τ.2.1 9 (6 + j) = σ.2.1 9 (6 + j)) (h220 : σ.2.1 9 j ≤ 220) (ia : ∀ k, 0 ≤ k → k < 220 → IEQ σ (220 * j + k) τ (220 * j + k)) (ib : ∀ k, 0 ≤ k → k < 220 → IEQ σ (220 * (6 + j) + k) τ (220 * (6 + j) + k)) : DNR τ j := by
  obtain ⟨d1, d2, d3, d4, d5, d6⟩ := h
  refine ⟨e14.trans d1, e15.trans d2, e16.trans d3, fun n a b => (e18 n a b).trans (d4 n a b), by rw [e9, e96]; exact d5, fun k a b => ?_⟩
  rw [e9] at b
  exact (ia k a (by omega)).symm.trans ((d6 k a b).trans (ib k a (by omega)))
theorem PLI.mv {σ τ : MS} {r : Int} (h : PLI σ r) (ie : ∀ k, 0 ≤ k → k < 220 → IEQ σ (220 * r + k) τ (220 * r + k)) (e9 : τ.2.1 9 r = σ.2.1 9 r) (e43 : τ.1 43 = σ.1 43) (e11 : τ.2.1 11 = σ.2.1 11) : PLI τ r := by
  obtain ⟨h1, h2, ⟨l, h4, h5⟩, h6, h7⟩ := h
  unfold PLI
  rw [e9]
  refine ⟨h1, fun k a b => (ie k a (by omega)).oki e11 (h2 k a b), ⟨l, h4, ?_⟩, (ie _ (by omega) (by omega)).1.trans h6, ?_⟩
  · rw [e43]
    exact h5.ext (fun k a b => ⟨(ie k a (by omega)).1, (ie k a (by omega)).2.1, (ie k a (by omega)).2.2.1⟩)
  · have a0 : iK τ r 0 = iK σ r 0 := (ie 0 (by omega) (by omega)).1
    have a1 : iK τ r 1 = iK σ r 1 := (ie 1 (by omega) (by omega)).1
    rw [a0, a1]; exact h7
theorem KPR.fr {ss ks js : List Nat} {σ τ : MS} (f : Fr ss ks js σ τ) (hk : ∀ k ∈ [3, 4, 5, 6, 7, 8, 9], k ∉ ks) : KPR σ τ := ⟨fun _ _ => IEQ.of f (fun k q => hk k (by revert k q; decide)), f.2.1 9 (hk 9 (by decide))⟩
theorem GQ1.det {w u : Int} {α β γ δ : MS} (h : GQ1 w α β) (g : GQ1 u γ δ) (e : sv γ = sv α) : δ.1 30 = β.1 30 := by
  obtain ⟨t1, x1, l1, e1, ⟨r1, -⟩, n1, -⟩ := h
  obtain ⟨t2, x2, l2, e2, ⟨r2, -⟩, n2, -⟩ := g
  rw [e] at r2
  have z := RCm.det r1.rc r2.rc rfl rfl
  have y : l1 = l2 := congrArg (fun q => q.2.2.2.2) z
  rw [← n1, ← n2, y]
end
section
def DN2 (σ τ : MS) (r : Int) : Prop := τ.2.1 13 r = σ.2.1 37 r ∧ τ.2.1 17 (12 * r) = 0
theorem DNR.fr9 {ss ks js : List Nat} {σ τ : MS} {r : Int} (h : DNR σ r) (f : Fr ss ks js σ τ) (hk : ∀ k ∈ [3, 4, 5, 6, 7, 8, 9, 14, 15, 16, 18], k ∉ ks) : DNR τ r := by
  obtain ⟨a, b, c, d, e, g⟩ := h
  unfold DNR
  rw [f.2.1 14 (hk 14 (by decide)), f.2.1 15 (hk 15 (by decide)), f.2.1 16 (hk 16 (by decide)), f.2.1 18 (hk 18 (by decide)), f.2.1 9 (hk 9 (by decide))]
  have ie : ∀ x, IEQ σ x τ x := fun x => IEQ.of f (fun k q => hk k (by revert k q; decide))
  exact ⟨a, b, c, d, e, fun k y1 y2 => (ie _).symm.trans ((g k y1 y2).trans (ie _))⟩
def TBQ (S : Int → Int) (τ : MS) : Prop := ∃ es t x q ρ A, RE S ([36], advT S 0, (0, 0, 0), qq 0, []) es ([], t, x, q, ρ) ∧ ((absR A).ph = 1 ∧ (absR A).rt = 0 ∧ (absR A).ln = 0 ∧ (absR A).tn = 0 ∧ ∀ r, 0 ≤ r → r < 6 → (absR A).nn r = 0) ∧ (es.foldl uR (absR A)).nn = τ.2.1 35 ∧ (es.foldl uR (absR A)).nw = τ.2.2 38 ∧ (es.foldl uR (absR A)).tn = τ.1 43 ∧ (es.foldl uR (absR A)).tw = τ.2.2 44 ∧ ∀ r, 0 ≤ r → r < τ.1 10 → (es.foldl uR (absR A)).tm r = τ.2.1 11 r
theorem absR_srt6 {A B : MS} (h : srt A = srt B) : absR A = absR B := by
  unfold absR
  rw [srt_25 h, srt_26 h, srt_27 h, srt_30 h, srt_31 h, srt_43 h, srt_44 h, srt_45 h, srt_35 h, srt_38 h]
theorem EFF.ab6 {es : List EW} {A τ : MS} (h : EFF es A τ) (h0 : 0 < A.1 25) : absR τ = es.foldl uR (absR A) := by
  rw [← abs_fold es h0]
  exact (absR_srt6 (h A rfl)).symm
theorem TBQ.mk {S : Int → Int} {σa σb τ : MS} (g : GQ1 1 σa σb) (hS : sv σa = S) (e35 : τ.2.1 35 = σb.2.1 35) (e38 : τ.2.2 38 = σb.2.2 38) (e43 : τ.1 43 = σb.1 43) (e44 : τ.2.2 44 = σb.2.2 44) (ht : ∀ r, 0 ≤ r → r < τ.1 10 → τ.2.1 11 r = σb.2.1 45 r) : TBQ S τ := by
  obtain ⟨t, x, lg, es, ⟨re, A, ia, ef⟩, -⟩ := g
  rw [hS] at re
  have ab := ef.ab6 (by rw [ia.1.1]; decide)
  refine ⟨es, t, x, qq 0, lg, A, re, ⟨ia.1.1, ia.1.2.2.2.1, ia.1.2.2.2.2, (ia.2.1 rfl).1, (ia.2.1 rfl).2⟩, ?_, ?_, ?_, ?_, fun r a b => ?_⟩
  · rw [← ab, e35]; rfl
  · rw [← ab, e38]; rfl
  · rw [← ab, e43]; rfl
  · rw [← ab, e44]; rfl
  · rw [← ab, ht r a b]; rfl
def MDE (S : Int → Int) (τ : MS) : Prop := (∃ pk pv, ∀ nm rn tb, FITA nm rn tb τ → ∀ m0 : MK, m0.rt = 0 → m0.ln = 0 → m0.2.2.1 = (pk, pv) → ∃ t x lg m, RM S nm rn tb ([36], advT S 0, (0, 0, 0), qq 0, []) m0 ([], t, x, qq 0, lg) m ∧ ∀ r, 0 ≤ r → r < τ.1 10 → m.2.2.2.2.1 r = (τ.2.1 9 r, rV τ r) ∧ m.2.2.2.2.2 r = τ.2.1 13 r) ∧ (∀ r, 0 ≤ r → r < τ.1 10 → DNR τ r ∧ τ.2.1 17 (12 * r) = 0 ∧ τ.2.1 12 r = τ.2.1 35 r ∧ τ.2.1 11 r = τ.2.1 36 r) ∧ TBQ S τ
theorem MDE.mk {S : Int → Int} {d e τ : MS} (g : GM3 d e) (hS : sv d = S) (e10 : τ.1 10 = e.1 30) (h6 : e.1 30 ≤ 6) (h9 : ∀ j, j < 6 → τ.2.1 9 j = e.2.1 9 j) (hb : ∀ r, 0 ≤ r → r < e.1 30 → e.2.1 9 r ≤ 220) (hi : ∀ x, x < 1320 → IEQ e x τ x) (e35 : τ.2.1 35 = d.2.1 35) (e38 : τ.2.2 38 = d.2.2 38) (e43 : τ.1 43 = d.1 43) (e44 : τ.2.2 44 = d.2.2 44) (h13 : ∀ r, 0 ≤ r → r < τ.1 10 → DN2 e τ r) (dn : ∀ r, 0 ≤ r → r < τ.1 10 → DNR τ r) (tab : ∀ r, 0 ≤ r → r < τ.1 10 → τ.2.1 12 r = τ.2.1 35 r ∧ τ.2.1 11 r = τ.2.1 36 r) (tb9 : TBQ S τ) : MDE S τ := by
  refine ⟨⟨d.1 39, d.1 40, fun nm rn tb f m0 b1 b2 b3 => ?_⟩, fun r a b => ⟨dn r a b, (h13 r a b).2, tab r a b⟩, tb9⟩
  obtain ⟨t, x, lg, m, r1, d1⟩ := g nm rn tb (fun r r0 r6 => f.fit (τ := sS 30 r d) r0 r6 e35.symm e38.symm e43.symm e44.symm) m0 b1 b2 b3
  rw [hS] at r1
  refine ⟨t, x, lg, m, r1, fun r a b => ?_⟩
  have q := d1 r a (by omega)
  have b9 := hb r a (by omega)
  have ev : rV τ r = rV e r := by
    unfold rV
    rw [h9 r (by omega)]
    funext k
    by_cases z : 0 ≤ k ∧ k < e.2.1 9 r
    · rw [if_pos z, if_pos z]
      exact (hi (220 * r + k) (by omega)).ri
    · rw [if_neg z, if_neg z]
  rw [h9 r (by omega), ev, (h13 r a b).1]
  exact q
def RKP (σ τ : MS) : Prop := KPR σ τ ∧ Fr [0, 2, 19, 20, 21, 22, 23, 25, 26, 27, 28, 29, 30, 31, 32, 33, 34, 39, 40, 43] [3, 4, 5, 6, 7, 8, 9, 35, 36, 37, 41, 42, 45] [24, 38, 44] σ τ
def RD6 (S : Int → Int) (σ τ : MS) (v : Int) : Prop := (v = -1 → RKP σ τ) ∧ (v ≠ -1 → MDE S τ ∧ τ.1 67 = 0)
end
section
theorem dX12_read_81 : decode cX12_read 81 = .ok (.iload_n 2, 1) := by decide +kernel
theorem dX12_read_82 : decode cX12_read 82 = .ok (.aload_n 0, 1) := by decide +kernel
theorem dX12_read_83 : decode cX12_read 83 = .ok (.getfield 391, 3) := by decide +kernel
theorem dX12_read_86 : decode cX12_read 86 = .ok (.if_icmp .ge 33, 3) := by decide +kernel
theorem dX12_read_89 : decode cX12_read 89 = .ok (.aload_n 0, 1) := by decide +kernel
theorem dX12_read_90 : decode cX12_read 90 = .ok (.getfield 38, 3) := by decide +kernel
theorem dX12_read_93 : decode cX12_read 93 = .ok (.iload_n 2, 1) := by decide +kernel
theorem dX12_read_94 : decode cX12_read 94 = .ok (.aload_n 0, 1) := by decide +kernel
theorem dX12_read_95 : decode cX12_read 95 = .ok (.getfield 63, 3) := by decide +kernel
theorem dX12_read_98 : decode cX12_read 98 = .ok (.iload_n 2, 1) := by decide +kernel
theorem dX12_read_99 : decode cX12_read 99 = .ok (.iaload, 1) := by decide +kernel
theorem dX12_read_100 : decode cX12_read 100 = .ok (.iastore, 1) := by decide +kernel
theorem dX12_read_101 : decode cX12_read 101 = .ok (.aload_n 0, 1) := by decide +kernel
theorem dX12_read_102 : decode cX12_read 102 = .ok (.getfield 35, 3) := by decide +kernel
theorem dX12_read_105 : decode cX12_read 105 = .ok (.iload_n 2, 1) := by decide +kernel
theorem dX12_read_106 : decode cX12_read 106 = .ok (.aload_n 0, 1) := by decide +kernel
theorem dX12_read_107 : decode cX12_read 107 = .ok (.getfield 66, 3) := by decide +kernel
theorem dX12_read_110 : decode cX12_read 110 = .ok (.iload_n 2, 1) := by decide +kernel
theorem dX12_read_111 : decode cX12_read 111 = .ok (.iaload, 1) := by decide +kernel
theorem dX12_read_112 : decode cX12_read 112 = .ok (.iastore, 1) := by decide +kernel
theorem dX12_read_113 : decode cX12_read 113 = .ok (.iinc 2 1, 3) := by decide +kernel
theorem dX12_read_116 : decode cX12_read 116 = .ok (.goto (-35), 3) := by decide +kernel
set_option maxHeartbeats 4000000 in
set_option maxRecDepth 20000 in
theorem l_rd81 (d : Nat) {b : Nat} {σ0 : MS} {c1 : Int} {post : Option Value → MS → Prop} (hR0 : RG σ0) (hN : 0 ≤ σ0.1 10 ∧ σ0.1 10 ≤ 6) (hx_119 : ∀ (i : Int) (σ : MS) , (Fr [] [11, 12] [] σ0 σ) → (RG σ) → (∀ r, 0 ≤ r → r < σ0.1 10 → σ.2.1 12 r = σ0.2.1 35 r ∧ σ.2.1 11 r = σ0.2.1 36 r) → (∀ r, σ0.1 10 ≤ r → σ.2.1 12 r = σ0.2.1 12 r ∧ σ.2.1 11 r = σ0.2.1 11 r) → Tm (d + 1) m_X12_read 119 b σ [(2, .int (iI i)), (1, .int (iI c1)), (0, .ref b)] [] post) : ∀ (n : Nat) (i : Int) (σ : MS) , (Fr [] [11, 12] [] σ0 σ) → (RG σ) → (0 ≤ i ∧ i ≤ σ0.1 10) → (∀ r, 0 ≤ r → r < i → σ.2.1 12 r = σ0.2.1 35 r ∧ σ.2.1 11 r = σ0.2.1 36 r) → (∀ r, i ≤ r → σ.2.1 12 r = σ0.2.1 12 r ∧ σ.2.1 11 r = σ0.2.1 11 r) → (6 - i).toNat = n → Tm (d + 1) m_X12_read 81 b σ [(2, .int (iI i)), (1, .int (iI c1)), (0, .ref b)] [] post := by
  intro n
  induction n using Nat.strongRecOn with
  | _ n ih =>
    intro i σ hF hR h0 hz ho hm
    refine tm_iload_n dX12_read_81 rfl 0 rfl ?_
    refine tm_aload_n dX12_read_82 rfl 2 rfl ?_
    refine tm_getS (k := 10) (t := σ0.1 10) dX12_read_83 (by decide) fl12_391 rfl (rs_F hF (by decide) (rfl)) ?_
    have g1 := RG.s hR0 10
    refine tm_icmp_ge (tgt := 119) dX12_read_86 (by decide) ⟨by omega, by omega⟩ ⟨by omega, by omega⟩ (fun h2 => ?_) (fun h2 => ?_)
    · exact tm_sub [0, 1, 2] rfl (hx_119 (i) σ (Fr.rfl.trans (Fr.sub hF (by decide) (by decide) (by decide))) hR (fun r a c => hz r a (by omega)) (fun r a => ho r (by omega)))
    · refine tm_aload_n dX12_read_89 rfl 2 rfl ?_
      refine tm_get (k := 12) (v := .ref (b + 1 + 9)) lay_12 dX12_read_90 (by decide) fl12_38 rfl ?_
      refine tm_iload_n dX12_read_93 rfl 0 rfl ?_
      refine tm_aload_n dX12_read_94 rfl 2 rfl ?_
      refine tm_get (k := 35) (v := .ref (b + 1 + 16)) lay_12 dX12_read_95 (by decide) fl12_63 rfl ?_
      refine tm_iload_n dX12_read_98 rfl 0 rfl ?_
      refine tm_iald (z := i) (v := σ0.2.1 35 i) dX12_read_99 (show mT[16]? = some (35, 0, 6) from rfl) (by omega) (by omega) (by decide) (ra_F hF (by decide) (rfl)) ?_
      have g3 := RG.a hR0 35 (i)
      refine tm_iast (z := i) (v := σ0.2.1 35 i) dX12_read_100 (show mT[9]? = some (12, 0, 6) from rfl) (by omega) (by omega) (by decide) ?_
      refine tm_aload_n dX12_read_101 rfl 2 rfl ?_
      refine tm_get (k := 11) (v := .ref (b + 1 + 8)) lay_12 dX12_read_102 (by decide) fl12_35 rfl ?_
      refine tm_iload_n dX12_read_105 rfl 0 rfl ?_
      refine tm_aload_n dX12_read_106 rfl 2 rfl ?_
      refine tm_get (k := 36) (v := .ref (b + 1 + 17)) lay_12 dX12_read_107 (by decide) fl12_66 rfl ?_
      refine tm_iload_n dX12_read_110 rfl 0 rfl ?_
      refine tm_iald (z := i) (v := σ0.2.1 36 i) dX12_read_111 (show mT[17]? = some (36, 0, 6) from rfl) (by omega) (by omega) (by decide) (ra_o (by decide) (ra_F hF (by decide) (rfl))) ?_
      have g4 := RG.a hR0 36 (i)
      refine tm_iast (z := i) (v := σ0.2.1 36 i) dX12_read_112 (show mT[8]? = some (11, 0, 6) from rfl) (by omega) (by omega) (by decide) ?_
      refine tm_iinc (q0 := 0) (L' := [(2, .int (iI (i + 1))), (1, .int (iI c1)), (0, .ref b)]) dX12_read_113 rfl (by decide) rfl ?_
      refine tm_goto (tgt := 81) dX12_read_116 (by decide) ?_
      exact tm_sub [0, 1, 2] rfl (ih _ (by omega) (i + 1) (sA 11 (i) (σ0.2.1 36 i) (sA 12 (i) (σ0.2.1 35 i) σ)) (((Fr.rfl.trans (Fr.sub hF (by decide) (by decide) (by decide))).A (by decide)).A (by decide)) ((hR.A (by omega)).A (by omega)) (by omega) (fun r a c => (Classical.em (r = i)).elim (fun z => by rw [z]; exact ⟨ra_o (by decide) ra_eq, ra_eq⟩) (fun z => ⟨(ra_o (by decide) (ra_ne z rfl)).trans (hz r a (by omega)).1, (ra_ne z (ra_o (by decide) rfl)).trans (hz r a (by omega)).2⟩)) (fun r a => ⟨(ra_o (by decide) (ra_ne (by omega) rfl)).trans (ho r (by omega)).1, (ra_ne (by omega) (ra_o (by decide) rfl)).trans (ho r (by omega)).2⟩) rfl)
theorem dX12_read_228 : decode cX12_read 228 = .ok (.iload_n 3, 1) := by decide +kernel
theorem dX12_read_229 : decode cX12_read 229 = .ok (.aload_n 0, 1) := by decide +kernel
theorem dX12_read_230 : decode cX12_read 230 = .ok (.getfield 32, 3) := by decide +kernel
theorem dX12_read_233 : decode cX12_read 233 = .ok (.iload_n 2, 1) := by decide +kernel
theorem dX12_read_234 : decode cX12_read 234 = .ok (.iaload, 1) := by decide +kernel
theorem dX12_read_235 : decode cX12_read 235 = .ok (.if_icmp .ge 28, 3) := by decide +kernel
theorem dX12_read_238 : decode cX12_read 238 = .ok (.aload_n 0, 1) := by decide +kernel
theorem dX12_read_239 : decode cX12_read 239 = .ok (.aload_n 0, 1) := by decide +kernel
theorem dX12_read_240 : decode cX12_read 240 = .ok (.iload_n 2, 1) := by decide +kernel
theorem dX12_read_241 : decode cX12_read 241 = .ok (.iload_n 3, 1) := by decide +kernel
theorem dX12_read_242 : decode cX12_read 242 = .ok (.invokevirtual 203, 3) := by decide +kernel
theorem dX12_read_245 : decode cX12_read 245 = .ok (.aload_n 0, 1) := by decide +kernel
theorem dX12_read_246 : decode cX12_read 246 = .ok (.bipush 6, 2) := by decide +kernel
theorem dX12_read_248 : decode cX12_read 248 = .ok (.iload_n 2, 1) := by decide +kernel
theorem dX12_read_249 : decode cX12_read 249 = .ok (.iadd, 1) := by decide +kernel
theorem dX12_read_250 : decode cX12_read 250 = .ok (.iload_n 3, 1) := by decide +kernel
theorem dX12_read_251 : decode cX12_read 251 = .ok (.invokevirtual 203, 3) := by decide +kernel
theorem dX12_read_254 : decode cX12_read 254 = .ok (.invokevirtual 394, 3) := by decide +kernel
theorem dX12_read_257 : decode cX12_read 257 = .ok (.iinc 3 1, 3) := by decide +kernel
theorem dX12_read_260 : decode cX12_read 260 = .ok (.goto (-32), 3) := by decide +kernel
set_option maxHeartbeats 4000000 in
set_option maxRecDepth 20000 in
theorem l_rd228 (d : Nat) {b : Nat} {σ0 : MS} {c1 : Int} {r : Int} {post : Option Value → MS → Prop} (hR0 : RG σ0) (hr : 0 ≤ r ∧ r < 6) (h9 : 0 ≤ σ0.2.1 9 r ∧ σ0.2.1 9 r ≤ 220) (hx_263 : ∀ (k : Int) (σ : MS) , (Fr [] [3, 4, 5, 6, 7, 8] [] σ0 σ) → (RG σ) → (∀ x, (x < 220 * (6 + r) ∨ 220 * (6 + r) + 220 ≤ x) → IEQ σ0 x σ x) → (∀ j, 0 ≤ j → j < σ0.2.1 9 r → IEQ σ0 (220 * r + j) σ (220 * (6 + r) + j)) → Tm (d + 2) m_X12_read 263 b σ [(3, .int (iI k)), (2, .int (iI r)), (1, .int (iI c1)), (0, .ref b)] [] post) : ∀ (n : Nat) (k : Int) (σ : MS) , (Fr [] [3, 4, 5, 6, 7, 8] [] σ0 σ) → (RG σ) → (0 ≤ k ∧ k ≤ 220) → (∀ x, (x < 220 * (6 + r) ∨ 220 * (6 + r) + 220 ≤ x) → IEQ σ0 x σ x) → (∀ j, 0 ≤ j → j < k → IEQ σ0 (220 * r + j) σ (220 * (6 + r) + j)) → (221 - k).toNat = n → Tm (d + 2) m_X12_read 228 b σ [(3, .int (iI k)), (2, .int (iI r)), (1, .int (iI c1)), (0, .ref b)] [] post := by
  intro n
  induction n using Nat.strongRecOn with
  | _ n ih =>
    intro k σ hF hR h0 hlo hcp hm
    refine tm_iload_n dX12_read_228 rfl 0 rfl ?_
    refine tm_aload_n dX12_read_229 rfl 3 rfl ?_
    refine tm_get (k := 9) (v := .ref (b + 1 + 7)) lay_12 dX12_read_230 (by decide) fl12_32 rfl ?_
    refine tm_iload_n dX12_read_233 rfl 1 rfl ?_
    refine tm_iald (z := r) (v := σ0.2.1 9 r) dX12_read_234 (show mT[7]? = some (9, 0, 13) from rfl) (by omega) (by omega) (by decide) (ra_F hF (by decide) (rfl)) ?_
    have g1 := RG.a hR0 9 (r)
    refine tm_icmp_ge (tgt := 263) dX12_read_235 (by decide) ⟨by omega, by omega⟩ ⟨by omega, by omega⟩ (fun h2 => ?_) (fun h2 => ?_)
    · exact tm_sub [0, 1, 2, 3] rfl (hx_263 (k) σ (Fr.rfl.trans (Fr.sub hF (by decide) (by decide) (by decide))) hR hlo (fun j a c => hcp j a (by omega)))
    · refine tm_aload_n dX12_read_238 rfl 3 rfl ?_
      refine tm_aload_n dX12_read_239 rfl 3 rfl ?_
      refine tm_iload_n dX12_read_240 rfl 1 rfl ?_
      refine tm_iload_n dX12_read_241 rfl 0 rfl ?_
      refine tm_callV (M := m_X12_read) (pc := 242) (ix := 203) (M' := m_X12_at) (As := [.int (iI r), .int (iI k)]) (rest := [.ref b]) dX12_read_242 ok_X12_at im_X12_at se_X12_at ml12_203 np_X12_at rfl rfl (Nat.le_of_ble_eq_true rfl) (Nat.le_of_ble_eq_true rfl) rfl (c_X12_at (d) (σ := σ) (x := r) (k := k) ) (fun r3 σ4 hp => ?_)
      obtain ⟨v5, rfl, rfl, f6⟩ := hp
      subst f6
      show Tm _ _ 245 b σ [(3, .int (iI k)), (2, .int (iI r)), (1, .int (iI c1)), (0, .ref b)] [.int (iI (220 * r + k)), .ref b] _
      refine tm_aload_n dX12_read_245 rfl 3 rfl ?_
      refine tm_bipush dX12_read_246 (by decide) ?_
      refine tm_iload_n dX12_read_248 rfl 1 rfl ?_
      refine tm_iadd dX12_read_249 ?_
      refine tm_iload_n dX12_read_250 rfl 0 rfl ?_
      refine tm_callV (M := m_X12_read) (pc := 251) (ix := 203) (M' := m_X12_at) (As := [.int (iI (6 + r)), .int (iI k)]) (rest := [.int (iI (220 * r + k)), .ref b]) dX12_read_251 ok_X12_at im_X12_at se_X12_at ml12_203 np_X12_at rfl rfl (Nat.le_of_ble_eq_true rfl) (Nat.le_of_ble_eq_true rfl) rfl (c_X12_at (d) (σ := σ) (x := 6 + r) (k := k) ) (fun r7 σ8 hp => ?_)
      obtain ⟨v9, rfl, rfl, f10⟩ := hp
      subst f10
      show Tm _ _ 254 b σ [(3, .int (iI k)), (2, .int (iI r)), (1, .int (iI c1)), (0, .ref b)] [.int (iI (220 * (6 + r) + k)), .int (iI (220 * r + k)), .ref b] _
      refine tm_callV (M := m_X12_read) (pc := 254) (ix := 394) (M' := m_X12_copyItem) (As := [.int (iI (220 * r + k)), .int (iI (220 * (6 + r) + k))]) (rest := []) dX12_read_254 ok_X12_copyItem im_X12_copyItem se_X12_copyItem ml12_394 np_X12_copyItem rfl rfl (Nat.le_of_ble_eq_true rfl) (Nat.le_of_ble_eq_true rfl) rfl (c_X12_copyItem (d) (σ := σ) (f := 220 * r + k) (t := 220 * (6 + r) + k) (by omega) (by omega)) (fun r11 σ12 hp => ?_)
      obtain ⟨rfl, f14⟩ := hp
      subst f14
      show Tm _ _ 257 b (fCopy (220 * r + k) (220 * (6 + r) + k) σ) [(3, .int (iI k)), (2, .int (iI r)), (1, .int (iI c1)), (0, .ref b)] [] _
      refine tm_iinc (q0 := 0) (L' := [(3, .int (iI (k + 1))), (2, .int (iI r)), (1, .int (iI c1)), (0, .ref b)]) dX12_read_257 rfl (by decide) rfl ?_
      refine tm_goto (tgt := 228) dX12_read_260 (by decide) ?_
      exact tm_sub [0, 1, 2, 3] rfl (ih _ (by omega) (k + 1) (fCopy (220 * r + k) (220 * (6 + r) + k) σ) ((Fr.rfl.trans (Fr.sub hF (by decide) (by decide) (by decide))).trans (Fr.sub fCopy_fr (by decide) (by decide) (by decide))) (hR.copy) (by omega) (fun x a => (hlo x a).trans (fCopy_off.ieq (by omega))) (fun j a c => (Classical.em (j = k)).elim (fun z => by rw [z]; exact (hlo _ (by omega)).trans fCopy_ieq) (fun z => (hcp j a (by omega)).trans (fCopy_off.ieq (by omega)))) rfl)
theorem dX12_read_186 : decode cX12_read 186 = .ok (.iload_n 3, 1) := by decide +kernel
theorem dX12_read_187 : decode cX12_read 187 = .ok (.bipush 12, 2) := by decide +kernel
theorem dX12_read_189 : decode cX12_read 189 = .ok (.if_icmp .ge 22, 3) := by decide +kernel
theorem dX12_read_192 : decode cX12_read 192 = .ok (.aload_n 0, 1) := by decide +kernel
theorem dX12_read_193 : decode cX12_read 193 = .ok (.getfield 56, 3) := by decide +kernel
theorem dX12_read_196 : decode cX12_read 196 = .ok (.sipush 144, 3) := by decide +kernel
theorem dX12_read_199 : decode cX12_read 199 = .ok (.iload_n 2, 1) := by decide +kernel
theorem dX12_read_200 : decode cX12_read 200 = .ok (.imul, 1) := by decide +kernel
theorem dX12_read_201 : decode cX12_read 201 = .ok (.iload_n 3, 1) := by decide +kernel
theorem dX12_read_202 : decode cX12_read 202 = .ok (.iadd, 1) := by decide +kernel
theorem dX12_read_203 : decode cX12_read 203 = .ok (.iload_n 3, 1) := by decide +kernel
theorem dX12_read_204 : decode cX12_read 204 = .ok (.iastore, 1) := by decide +kernel
theorem dX12_read_205 : decode cX12_read 205 = .ok (.iinc 3 1, 3) := by decide +kernel
theorem dX12_read_208 : decode cX12_read 208 = .ok (.goto (-22), 3) := by decide +kernel
set_option maxHeartbeats 4000000 in
set_option maxRecDepth 20000 in
theorem l_rd186 (d : Nat) {b : Nat} {σ0 : MS} {c1 : Int} {r : Int} {post : Option Value → MS → Prop} (hR0 : RG σ0) (hr : 0 ≤ r ∧ r < 6) (hx_211 : ∀ (i : Int) (σ : MS) , (Fr [] [18] [] σ0 σ) → (RG σ) → (∀ j, 0 ≤ j → j < 12 → σ.2.1 18 (144 * r + j) = j) → (∀ z, (z < 144 * r ∨ 144 * r + 144 ≤ z) → σ.2.1 18 z = σ0.2.1 18 z) → Tm (d + 1) m_X12_read 211 b σ [(3, .int (iI i)), (2, .int (iI r)), (1, .int (iI c1)), (0, .ref b)] [] post) : ∀ (n : Nat) (i : Int) (σ : MS) , (Fr [] [18] [] σ0 σ) → (RG σ) → (0 ≤ i ∧ i ≤ 12) → (∀ j, 0 ≤ j → j < i → σ.2.1 18 (144 * r + j) = j) → (∀ z, (z < 144 * r ∨ 144 * r + 144 ≤ z) → σ.2.1 18 z = σ0.2.1 18 z) → (12 - i).toNat = n → Tm (d + 1) m_X12_read 186 b σ [(3, .int (iI i)), (2, .int (iI r)), (1, .int (iI c1)), (0, .ref b)] [] post := by
  intro n
  induction n using Nat.strongRecOn with
  | _ n ih =>
    intro i σ hF hR h0 hz ho hm
    refine tm_iload_n dX12_read_186 rfl 0 rfl ?_
    refine tm_bipush dX12_read_187 (by decide) ?_
    refine tm_icmp_ge (tgt := 211) dX12_read_189 (by decide) ⟨by omega, by omega⟩ ⟨by decide, by decide⟩ (fun h1 => ?_) (fun h1 => ?_)
    · exact tm_sub [0, 1, 2, 3] rfl (hx_211 (i) σ (Fr.rfl.trans (Fr.sub hF (by decide) (by decide) (by decide))) hR (fun j a c => hz j a (by omega)) ho)
    · refine tm_aload_n dX12_read_192 rfl 3 rfl ?_
      refine tm_get (k := 18) (v := .ref (b + 1 + 15)) lay_12 dX12_read_193 (by decide) fl12_56 rfl ?_
      refine tm_sipush dX12_read_196 (by decide) ?_
      refine tm_iload_n dX12_read_199 rfl 1 rfl ?_
      refine tm_imul dX12_read_200 ?_
      refine tm_iload_n dX12_read_201 rfl 0 rfl ?_
      refine tm_iadd dX12_read_202 ?_
      refine tm_iload_n dX12_read_203 rfl 0 rfl ?_
      refine tm_iast (z := (144 * r) + i) (v := i) dX12_read_204 (show mT[15]? = some (18, 0, 864) from rfl) (by omega) (by omega) (by decide) ?_
      refine tm_iinc (q0 := 0) (L' := [(3, .int (iI (i + 1))), (2, .int (iI r)), (1, .int (iI c1)), (0, .ref b)]) dX12_read_205 rfl (by decide) rfl ?_
      refine tm_goto (tgt := 186) dX12_read_208 (by decide) ?_
      exact tm_sub [0, 1, 2, 3] rfl (ih _ (by omega) (i + 1) (sA 18 ((144 * r) + i) (i) σ) ((Fr.rfl.trans (Fr.sub hF (by decide) (by decide) (by decide))).A (by decide)) (hR.A (by omega)) (by omega) (fun j a c => (Classical.em (j = i)).elim (fun z => by rw [z]; exact ra_eq) (fun z => (ra_ne (by omega) rfl).trans (hz j a (by omega)))) (fun z a => (ra_ne (by omega) rfl).trans (ho z a)) rfl)
theorem dX12_read_127 : decode cX12_read 127 = .ok (.iload_n 2, 1) := by decide +kernel
theorem dX12_read_128 : decode cX12_read 128 = .ok (.aload_n 0, 1) := by decide +kernel
theorem dX12_read_129 : decode cX12_read 129 = .ok (.getfield 391, 3) := by decide +kernel
theorem dX12_read_132 : decode cX12_read 132 = .ok (.if_icmp .ge 137, 3) := by decide +kernel
theorem dX12_read_135 : decode cX12_read 135 = .ok (.aload_n 0, 1) := by decide +kernel
theorem dX12_read_136 : decode cX12_read 136 = .ok (.getfield 41, 3) := by decide +kernel
theorem dX12_read_139 : decode cX12_read 139 = .ok (.iload_n 2, 1) := by decide +kernel
theorem dX12_read_140 : decode cX12_read 140 = .ok (.aload_n 0, 1) := by decide +kernel
theorem dX12_read_141 : decode cX12_read 141 = .ok (.getfield 69, 3) := by decide +kernel
theorem dX12_read_144 : decode cX12_read 144 = .ok (.iload_n 2, 1) := by decide +kernel
theorem dX12_read_145 : decode cX12_read 145 = .ok (.iaload, 1) := by decide +kernel
theorem dX12_read_146 : decode cX12_read 146 = .ok (.iastore, 1) := by decide +kernel
theorem dX12_read_147 : decode cX12_read 147 = .ok (.aload_n 0, 1) := by decide +kernel
theorem dX12_read_148 : decode cX12_read 148 = .ok (.getfield 44, 3) := by decide +kernel
theorem dX12_read_151 : decode cX12_read 151 = .ok (.iload_n 2, 1) := by decide +kernel
theorem dX12_read_152 : decode cX12_read 152 = .ok (.iconst 1, 1) := by decide +kernel
theorem dX12_read_153 : decode cX12_read 153 = .ok (.iastore, 1) := by decide +kernel
theorem dX12_read_154 : decode cX12_read 154 = .ok (.aload_n 0, 1) := by decide +kernel
theorem dX12_read_155 : decode cX12_read 155 = .ok (.getfield 47, 3) := by decide +kernel
theorem dX12_read_158 : decode cX12_read 158 = .ok (.bipush 12, 2) := by decide +kernel
theorem dX12_read_160 : decode cX12_read 160 = .ok (.iload_n 2, 1) := by decide +kernel
theorem dX12_read_161 : decode cX12_read 161 = .ok (.imul, 1) := by decide +kernel
theorem dX12_read_162 : decode cX12_read 162 = .ok (.iload_n 2, 1) := by decide +kernel
theorem dX12_read_163 : decode cX12_read 163 = .ok (.iastore, 1) := by decide +kernel
theorem dX12_read_164 : decode cX12_read 164 = .ok (.aload_n 0, 1) := by decide +kernel
theorem dX12_read_165 : decode cX12_read 165 = .ok (.getfield 50, 3) := by decide +kernel
theorem dX12_read_168 : decode cX12_read 168 = .ok (.bipush 12, 2) := by decide +kernel
theorem dX12_read_170 : decode cX12_read 170 = .ok (.iload_n 2, 1) := by decide +kernel
theorem dX12_read_171 : decode cX12_read 171 = .ok (.imul, 1) := by decide +kernel
theorem dX12_read_172 : decode cX12_read 172 = .ok (.iconst (-1), 1) := by decide +kernel
theorem dX12_read_173 : decode cX12_read 173 = .ok (.iastore, 1) := by decide +kernel
theorem dX12_read_174 : decode cX12_read 174 = .ok (.aload_n 0, 1) := by decide +kernel
theorem dX12_read_175 : decode cX12_read 175 = .ok (.getfield 53, 3) := by decide +kernel
theorem dX12_read_178 : decode cX12_read 178 = .ok (.bipush 12, 2) := by decide +kernel
theorem dX12_read_180 : decode cX12_read 180 = .ok (.iload_n 2, 1) := by decide +kernel
theorem dX12_read_181 : decode cX12_read 181 = .ok (.imul, 1) := by decide +kernel
theorem dX12_read_182 : decode cX12_read 182 = .ok (.iconst 0, 1) := by decide +kernel
theorem dX12_read_183 : decode cX12_read 183 = .ok (.iastore, 1) := by decide +kernel
theorem dX12_read_184 : decode cX12_read 184 = .ok (.iconst 0, 1) := by decide +kernel
theorem dX12_read_185 : decode cX12_read 185 = .ok (.istore_n 3, 1) := by decide +kernel
theorem dX12_read_211 : decode cX12_read 211 = .ok (.aload_n 0, 1) := by decide +kernel
theorem dX12_read_212 : decode cX12_read 212 = .ok (.getfield 32, 3) := by decide +kernel
theorem dX12_read_215 : decode cX12_read 215 = .ok (.bipush 6, 2) := by decide +kernel
theorem dX12_read_217 : decode cX12_read 217 = .ok (.iload_n 2, 1) := by decide +kernel
theorem dX12_read_218 : decode cX12_read 218 = .ok (.iadd, 1) := by decide +kernel
theorem dX12_read_219 : decode cX12_read 219 = .ok (.aload_n 0, 1) := by decide +kernel
theorem dX12_read_220 : decode cX12_read 220 = .ok (.getfield 32, 3) := by decide +kernel
theorem dX12_read_223 : decode cX12_read 223 = .ok (.iload_n 2, 1) := by decide +kernel
theorem dX12_read_224 : decode cX12_read 224 = .ok (.iaload, 1) := by decide +kernel
theorem dX12_read_225 : decode cX12_read 225 = .ok (.iastore, 1) := by decide +kernel
theorem dX12_read_226 : decode cX12_read 226 = .ok (.iconst 0, 1) := by decide +kernel
theorem dX12_read_227 : decode cX12_read 227 = .ok (.istore_n 3, 1) := by decide +kernel
theorem dX12_read_263 : decode cX12_read 263 = .ok (.iinc 2 1, 3) := by decide +kernel
theorem dX12_read_266 : decode cX12_read 266 = .ok (.goto (-139), 3) := by decide +kernel
set_option maxHeartbeats 4000000 in
set_option maxRecDepth 20000 in
theorem l_rd127 (d : Nat) {b : Nat} {σ0 : MS} {c1 : Int} {post : Option Value → MS → Prop} (hR0 : RG σ0) (hN : 0 ≤ σ0.1 10 ∧ σ0.1 10 ≤ 6) (hpl : ∀ r, 0 ≤ r → r < σ0.1 10 → PLI σ0 r) (hx_269 : ∀ (r : Int) (σ : MS) , (Fr [] [3, 4, 5, 6, 7, 8, 9, 13, 14, 15, 16, 17, 18] [] σ0 σ) → (RG σ) → (∀ j, 0 ≤ j → j < σ0.1 10 → DNR σ j) → (∀ x, x < 1320 → IEQ σ0 x σ x) → (∀ j, j < 6 → σ.2.1 9 j = σ0.2.1 9 j) → (ITM σ) → (∀ j, 0 ≤ j → j < σ0.1 10 → DN2 σ0 σ j) → Tm (d + 3) m_X12_read 269 b σ [(2, .int (iI r)), (1, .int (iI c1)), (0, .ref b)] [] post) : ∀ (n : Nat) (r : Int) (σ : MS) , (Fr [] [3, 4, 5, 6, 7, 8, 9, 13, 14, 15, 16, 17, 18] [] σ0 σ) → (RG σ) → (0 ≤ r ∧ r ≤ σ0.1 10) → (∀ j, 0 ≤ j → j < r → DNR σ j) → (∀ x, x < 1320 → IEQ σ0 x σ x) → (∀ j, j < 6 → σ.2.1 9 j = σ0.2.1 9 j) → (ITM σ) → (∀ j, 0 ≤ j → j < r → DN2 σ0 σ j) → (6 - r).toNat = n → Tm (d + 3) m_X12_read 127 b σ [(2, .int (iI r)), (1, .int (iI c1)), (0, .ref b)] [] post := by
  intro n
  induction n using Nat.strongRecOn with
  | _ n ih =>
    intro r σ hF hR h0 hdn hbk h9 hit hd2 hm
    have e10 : σ.1 10 = σ0.1 10 := hF.1 10 (by decide)
    refine tm_iload_n dX12_read_127 rfl 0 rfl ?_
    refine tm_aload_n dX12_read_128 rfl 2 rfl ?_
    refine tm_getS (k := 10) (t := σ0.1 10) dX12_read_129 (by decide) fl12_391 rfl (rs_F hF (by decide) (rfl)) ?_
    have g1 := RG.s hR0 10
    refine tm_icmp_ge (tgt := 269) dX12_read_132 (by decide) ⟨by omega, by omega⟩ ⟨by omega, by omega⟩ (fun h2 => ?_) (fun h2 => ?_)
    · exact tm_sub [0, 1, 2] rfl (hx_269 (r) σ (Fr.rfl.trans (Fr.sub hF (by decide) (by decide) (by decide))) hR (fun j a c => hdn j a (by omega)) hbk h9 hit (fun j a c => hd2 j a (by omega)))
    · have p9 := (hpl r h0.1 (by omega)).1
      have q9 := h9 r (by omega)
      refine tm_aload_n dX12_read_135 rfl 2 rfl ?_
      refine tm_get (k := 13) (v := .ref (b + 1 + 10)) lay_12 dX12_read_136 (by decide) fl12_41 rfl ?_
      refine tm_iload_n dX12_read_139 rfl 0 rfl ?_
      refine tm_aload_n dX12_read_140 rfl 2 rfl ?_
      refine tm_get (k := 37) (v := .ref (b + 1 + 18)) lay_12 dX12_read_141 (by decide) fl12_69 rfl ?_
      refine tm_iload_n dX12_read_144 rfl 0 rfl ?_
      refine tm_iald (z := r) (v := σ0.2.1 37 r) dX12_read_145 (show mT[18]? = some (37, 0, 6) from rfl) (by omega) (by omega) (by decide) (ra_F hF (by decide) (rfl)) ?_
      have g3 := RG.a hR0 37 (r)
      refine tm_iast (z := r) (v := σ0.2.1 37 r) dX12_read_146 (show mT[10]? = some (13, 0, 6) from rfl) (by omega) (by omega) (by decide) ?_
      refine tm_aload_n dX12_read_147 rfl 2 rfl ?_
      refine tm_get (k := 14) (v := .ref (b + 1 + 11)) lay_12 dX12_read_148 (by decide) fl12_44 rfl ?_
      refine tm_iload_n dX12_read_151 rfl 0 rfl ?_
      refine tm_iconst dX12_read_152 ?_
      refine tm_iast (z := r) (v := 1) dX12_read_153 (show mT[11]? = some (14, 0, 6) from rfl) (by omega) (by omega) (by decide) ?_
      refine tm_aload_n dX12_read_154 rfl 2 rfl ?_
      refine tm_get (k := 15) (v := .ref (b + 1 + 12)) lay_12 dX12_read_155 (by decide) fl12_47 rfl ?_
      refine tm_bipush dX12_read_158 (by decide) ?_
      refine tm_iload_n dX12_read_160 rfl 0 rfl ?_
      refine tm_imul dX12_read_161 ?_
      refine tm_iload_n dX12_read_162 rfl 0 rfl ?_
      refine tm_iast (z := 12 * r) (v := r) dX12_read_163 (show mT[12]? = some (15, 0, 72) from rfl) (by omega) (by omega) (by decide) ?_
      refine tm_aload_n dX12_read_164 rfl 2 rfl ?_
      refine tm_get (k := 16) (v := .ref (b + 1 + 13)) lay_12 dX12_read_165 (by decide) fl12_50 rfl ?_
      refine tm_bipush dX12_read_168 (by decide) ?_
      refine tm_iload_n dX12_read_170 rfl 0 rfl ?_
      refine tm_imul dX12_read_171 ?_
      refine tm_iconst dX12_read_172 ?_
      refine tm_iast (z := 12 * r) (v := -1) dX12_read_173 (show mT[13]? = some (16, 0, 72) from rfl) (by omega) (by omega) (by decide) ?_
      refine tm_aload_n dX12_read_174 rfl 2 rfl ?_
      refine tm_get (k := 17) (v := .ref (b + 1 + 14)) lay_12 dX12_read_175 (by decide) fl12_53 rfl ?_
      refine tm_bipush dX12_read_178 (by decide) ?_
      refine tm_iload_n dX12_read_180 rfl 0 rfl ?_
      refine tm_imul dX12_read_181 ?_
      refine tm_iconst dX12_read_182 ?_
      refine tm_iast (z := 12 * r) (v := 0) dX12_read_183 (show mT[14]? = some (17, 0, 72) from rfl) (by omega) (by omega) (by decide) ?_
      refine tm_iconst dX12_read_184 ?_
      refine tm_istore_n (L' := [(3, .int (iI 0)), (2, .int (iI r)), (1, .int (iI c1)), (0, .ref b)]) dX12_read_185 rfl (by decide) rfl ?_
      refine tm_sub [0, 1, 2, 3] rfl (l_rd186 (d + 2) (σ0 := (sA 17 (12 * r) (0) (sA 16 (12 * r) (-1) (sA 15 (12 * r) (r) (sA 14 (r) (1) (sA 13 (r) (σ0.2.1 37 r) σ)))))) (c1 := c1) (r := r) (((((hR.A (by omega)).A (by omega)).A (by omega)).A (by omega)).A (by omega)) (by omega) (fun i10 σ11 F6 R7 f8 f9 => ?_) _ (0) (sA 17 (12 * r) (0) (sA 16 (12 * r) (-1) (sA 15 (12 * r) (r) (sA 14 (r) (1) (sA 13 (r) (σ0.2.1 37 r) σ))))) Fr.rfl (((((hR.A (by omega)).A (by omega)).A (by omega)).A (by omega)).A (by omega)) (by omega) (fun j a c => absurd c (by omega)) (fun z a => rfl) rfl)
      show Tm _ _ 211 b σ11 [(3, .int (iI i10)), (2, .int (iI r)), (1, .int (iI c1)), (0, .ref b)] [] _
      have n0_ := f8
      have n1_ := f9
      refine tm_aload_n dX12_read_211 rfl 3 rfl ?_
      refine tm_get (k := 9) (v := .ref (b + 1 + 7)) lay_12 dX12_read_212 (by decide) fl12_32 rfl ?_
      refine tm_bipush dX12_read_215 (by decide) ?_
      refine tm_iload_n dX12_read_217 rfl 1 rfl ?_
      refine tm_iadd dX12_read_218 ?_
      refine tm_aload_n dX12_read_219 rfl 3 rfl ?_
      refine tm_get (k := 9) (v := .ref (b + 1 + 7)) lay_12 dX12_read_220 (by decide) fl12_32 rfl ?_
      refine tm_iload_n dX12_read_223 rfl 1 rfl ?_
      refine tm_iald (z := r) (v := σ.2.1 9 r) dX12_read_224 (show mT[7]? = some (9, 0, 13) from rfl) (by omega) (by omega) (by decide) (ra_F F6 (by decide) (ra_o (by decide) (ra_o (by decide) (ra_o (by decide) (ra_o (by decide) (ra_o (by decide) (rfl))))))) ?_
      have g12 := RG.a hR 9 (r)
      refine tm_iast (z := 6 + r) (v := σ.2.1 9 r) dX12_read_225 (show mT[7]? = some (9, 0, 13) from rfl) (by omega) (by omega) (by decide) ?_
      refine tm_iconst dX12_read_226 ?_
      refine tm_istore_n (L' := [(3, .int (iI 0)), (2, .int (iI r)), (1, .int (iI c1)), (0, .ref b)]) dX12_read_227 rfl (by decide) rfl ?_
      refine tm_sub [0, 1, 2, 3] rfl (l_rd228 (d + 1) (σ0 := (sA 9 (6 + r) (σ.2.1 9 r) σ11)) (c1 := c1) (r := r) (R7.A (by omega)) (by omega) (by rw [show (sA 9 (6 + r) (σ.2.1 9 r) σ11).2.1 9 r = σ.2.1 9 r from ra_ne (by omega) (ra_F F6 (by decide) (ra_o (by decide) (ra_o (by decide) (ra_o (by decide) (ra_o (by decide) (ra_o (by decide) (rfl)))))))]; omega) (fun k19 σ20 F15 R16 f17 f18 => ?_) _ (0) (sA 9 (6 + r) (σ.2.1 9 r) σ11) Fr.rfl (R7.A (by omega)) (by omega) (fun x a => ⟨rfl, rfl, rfl, rfl, fun _ _ _ => ⟨rfl, rfl⟩⟩) (fun j a c => absurd c (by omega)) rfl)
      show Tm _ _ 263 b σ20 [(3, .int (iI k19)), (2, .int (iI r)), (1, .int (iI c1)), (0, .ref b)] [] _
      have f28 := (show Fr [] [9, 13, 14, 15, 16, 17, 18] [] σ (sA 9 (6 + r) (σ.2.1 9 r) σ11) from (((((((Fr.rfl.A (by decide)).A (by decide)).A (by decide)).A (by decide)).A (by decide)).trans (Fr.sub F6 (by decide) (by decide) (by decide))).A (by decide)))
      have e928 : (sA 9 (6 + r) (σ.2.1 9 r) σ11).2.1 9 r = σ.2.1 9 r := ra_ne (by omega) (ra_F F6 (by decide) (ra_o (by decide) (ra_o (by decide) (ra_o (by decide) (ra_o (by decide) (ra_o (by decide) (rfl)))))))
      have c0_ : ∀ x, (x < 220 * (6 + r) ∨ 220 * (6 + r) + 220 ≤ x) → IEQ σ x σ20 x := fun x a => (IEQ.of f28 (by decide)).trans (f17 x a)
      have c1_ : ∀ j, 0 ≤ j → j < σ.2.1 9 r → IEQ σ (220 * r + j) σ20 (220 * (6 + r) + j) := fun j a c => (IEQ.of f28 (by decide)).trans (f18 j a (by rw [e928]; exact c))
      refine tm_iinc (q0 := 1) (L' := [(2, .int (iI (r + 1))), (3, .int (iI k19)), (1, .int (iI c1)), (0, .ref b)]) dX12_read_263 rfl (by decide) rfl ?_
      refine tm_goto (tgt := 127) dX12_read_266 (by decide) ?_
      exact tm_sub [0, 2, 3] rfl (ih _ (by omega) (r + 1) σ20 (((((((((Fr.rfl.trans (Fr.sub hF (by decide) (by decide) (by decide))).A (by decide)).A (by decide)).A (by decide)).A (by decide)).A (by decide)).trans (Fr.sub F6 (by decide) (by decide) (by decide))).A (by decide)).trans (Fr.sub F15 (by decide) (by decide) (by decide))) R16 (by omega) (fun j a c => (Classical.em (j = r)).elim (fun z => by rw [z]; exact ⟨ra_F F15 (by decide) (ra_o (by decide) (ra_F F6 (by decide) (ra_o (by decide) (ra_o (by decide) (ra_o (by decide) (ra_eq)))))), ra_F F15 (by decide) (ra_o (by decide) (ra_F F6 (by decide) (ra_o (by decide) (ra_o (by decide) (ra_eq))))), ra_F F15 (by decide) (ra_o (by decide) (ra_F F6 (by decide) (ra_o (by decide) (ra_eq)))), fun n y1 y2 => (show σ20.2.1 18 (144 * r + n) = σ11.2.1 18 (144 * r + n) from ra_F F15 (by decide) (ra_o (by decide) (rfl))).trans (n0_ n y1 y2), (show σ20.2.1 9 (6 + r) = σ.2.1 9 r from ra_F F15 (by decide) (ra_eq)).trans ((show σ20.2.1 9 r = σ.2.1 9 r from ra_F F15 (by decide) (ra_ne (by omega) (ra_F F6 (by decide) (ra_o (by decide) (ra_o (by decide) (ra_o (by decide) (ra_o (by decide) (ra_o (by decide) (rfl))))))))).symm), fun k y1 y2 => by rw [show σ20.2.1 9 r = σ.2.1 9 r from ra_F F15 (by decide) (ra_ne (by omega) (ra_F F6 (by decide) (ra_o (by decide) (ra_o (by decide) (ra_o (by decide) (ra_o (by decide) (ra_o (by decide) (rfl))))))))] at y2; exact (c0_ (220 * r + k) (by omega)).symm.trans (c1_ k y1 y2)⟩) (fun z => (hdn j a (by omega)).oth (ra_F F15 (by decide) (ra_o (by decide) (ra_F F6 (by decide) (ra_o (by decide) (ra_o (by decide) (ra_o (by decide) (ra_ne (by omega) (ra_o (by decide) (rfl))))))))) (ra_F F15 (by decide) (ra_o (by decide) (ra_F F6 (by decide) (ra_o (by decide) (ra_o (by decide) (ra_ne (by omega) (ra_o (by decide) (ra_o (by decide) (rfl))))))))) (ra_F F15 (by decide) (ra_o (by decide) (ra_F F6 (by decide) (ra_o (by decide) (ra_ne (by omega) (ra_o (by decide) (ra_o (by decide) (ra_o (by decide) (rfl))))))))) (fun n y1 y2 => (show σ20.2.1 18 (144 * j + n) = σ11.2.1 18 (144 * j + n) from ra_F F15 (by decide) (ra_o (by decide) (rfl))).trans ((n1_ _ (by omega)).trans (ra_o (by decide) (ra_o (by decide) (ra_o (by decide) (ra_o (by decide) (ra_o (by decide) (rfl)))))))) (ra_F F15 (by decide) (ra_ne (by omega) (ra_F F6 (by decide) (ra_o (by decide) (ra_o (by decide) (ra_o (by decide) (ra_o (by decide) (ra_o (by decide) (rfl))))))))) (ra_F F15 (by decide) (ra_ne (by omega) (ra_F F6 (by decide) (ra_o (by decide) (ra_o (by decide) (ra_o (by decide) (ra_o (by decide) (ra_o (by decide) (rfl))))))))) (by rw [h9 j (by omega)]; have z := (hpl j a (by omega)).1; omega) (fun k y1 y2 => c0_ _ (by omega)) (fun k y1 y2 => c0_ _ (by omega)))) (fun x a => (hbk x a).trans (c0_ x (by omega))) (fun j a => (ra_F F15 (by decide) (ra_ne (by omega) (ra_F F6 (by decide) (ra_o (by decide) (ra_o (by decide) (ra_o (by decide) (ra_o (by decide) (ra_o (by decide) (rfl)))))))) : σ20.2.1 9 j = σ.2.1 9 j).trans (h9 j a)) (fun j a c => (Classical.em (j = 6 + r)).elim (fun z => by rw [z, show σ20.2.1 9 (6 + r) = σ.2.1 9 r from ra_F F15 (by decide) (ra_eq)]; omega) (fun z => by rw [show σ20.2.1 9 j = σ.2.1 9 j from ra_F F15 (by decide) (ra_ne (by omega) (ra_F F6 (by decide) (ra_o (by decide) (ra_o (by decide) (ra_o (by decide) (ra_o (by decide) (ra_o (by decide) (rfl))))))))]; exact hit j a c)) (fun j a c9 => (Classical.em (j = r)).elim (fun z => by rw [z]; exact ⟨ra_F F15 (by decide) (ra_o (by decide) (ra_F F6 (by decide) (ra_o (by decide) (ra_o (by decide) (ra_o (by decide) (ra_o (by decide) (ra_eq))))))), ra_F F15 (by decide) (ra_o (by decide) (ra_F F6 (by decide) (ra_eq)))⟩) (fun z => ⟨(show σ20.2.1 13 j = σ.2.1 13 j from ra_F F15 (by decide) (ra_o (by decide) (ra_F F6 (by decide) (ra_o (by decide) (ra_o (by decide) (ra_o (by decide) (ra_o (by decide) (ra_ne (by omega) (rfl))))))))).trans (hd2 j a (by omega)).1, (show σ20.2.1 17 (12 * j) = σ.2.1 17 (12 * j) from ra_F F15 (by decide) (ra_o (by decide) (ra_F F6 (by decide) (ra_ne (by omega) (ra_o (by decide) (ra_o (by decide) (ra_o (by decide) (ra_o (by decide) (rfl))))))))).trans (hd2 j a (by omega)).2⟩)) rfl)
theorem dX12_read_271 : decode cX12_read 271 = .ok (.iload_n 2, 1) := by decide +kernel
theorem dX12_read_272 : decode cX12_read 272 = .ok (.bipush 6, 2) := by decide +kernel
theorem dX12_read_274 : decode cX12_read 274 = .ok (.if_icmp .ge 16, 3) := by decide +kernel
theorem dX12_read_277 : decode cX12_read 277 = .ok (.aload_n 0, 1) := by decide +kernel
theorem dX12_read_278 : decode cX12_read 278 = .ok (.getfield 95, 3) := by decide +kernel
theorem dX12_read_281 : decode cX12_read 281 = .ok (.iload_n 2, 1) := by decide +kernel
theorem dX12_read_282 : decode cX12_read 282 = .ok (.iconst 0, 1) := by decide +kernel
theorem dX12_read_283 : decode cX12_read 283 = .ok (.bastore, 1) := by decide +kernel
theorem dX12_read_284 : decode cX12_read 284 = .ok (.iinc 2 1, 3) := by decide +kernel
theorem dX12_read_287 : decode cX12_read 287 = .ok (.goto (-16), 3) := by decide +kernel
set_option maxHeartbeats 4000000 in
set_option maxRecDepth 20000 in
theorem l_rd271 (d : Nat) {b : Nat} {σ0 : MS} {c1 : Int} {post : Option Value → MS → Prop} (hR0 : RG σ0) (hx_290 : ∀ (i : Int) (σ : MS) , (Fr [] [48] [] σ0 σ) → (RG σ) → (BO 48 σ) → Tm (d + 1) m_X12_read 290 b σ [(2, .int (iI i)), (1, .int (iI c1)), (0, .ref b)] [] post) : ∀ (n : Nat) (i : Int) (σ : MS) , (Fr [] [48] [] σ0 σ) → (RG σ) → (0 ≤ i ∧ i ≤ 6) → (BO 48 σ) → (6 - i).toNat = n → Tm (d + 1) m_X12_read 271 b σ [(2, .int (iI i)), (1, .int (iI c1)), (0, .ref b)] [] post := by
  intro n
  induction n using Nat.strongRecOn with
  | _ n ih =>
    intro i σ hF hR h0 hb hm
    refine tm_iload_n dX12_read_271 rfl 0 rfl ?_
    refine tm_bipush dX12_read_272 (by decide) ?_
    refine tm_icmp_ge (tgt := 290) dX12_read_274 (by decide) ⟨by omega, by omega⟩ ⟨by decide, by decide⟩ (fun h1 => ?_) (fun h1 => ?_)
    · exact tm_sub [0, 1, 2] rfl (hx_290 (i) σ (Fr.rfl.trans (Fr.sub hF (by decide) (by decide) (by decide))) hR hb)
    · refine tm_aload_n dX12_read_277 rfl 2 rfl ?_
      refine tm_get (k := 48) (v := .ref (b + 1 + 26)) lay_12 dX12_read_278 (by decide) fl12_95 rfl ?_
      refine tm_iload_n dX12_read_281 rfl 0 rfl ?_
      refine tm_iconst dX12_read_282 ?_
      refine tm_zast (z := i) (v := 0) dX12_read_283 (show mT[26]? = some (48, 2, 6) from rfl) (by omega) (by omega) (by decide) (by omega) ?_
      refine tm_iinc (q0 := 0) (L' := [(2, .int (iI (i + 1))), (1, .int (iI c1)), (0, .ref b)]) dX12_read_284 rfl (by decide) rfl ?_
      refine tm_goto (tgt := 271) dX12_read_287 (by decide) ?_
      exact tm_sub [0, 1, 2] rfl (ih _ (by omega) (i + 1) (sA 48 (i) (0) σ) ((Fr.rfl.trans (Fr.sub hF (by decide) (by decide) (by decide))).A (by decide)) (hR.A (by omega)) (by omega) (hb.A (Or.inl rfl)) rfl)
end
section
theorem upR_27 (A : MS) (e : EW) (h : A.1 25 = 0) : (upR A e).1 27 = A.1 27 := by
  have h1 : ¬ A.1 25 = 1 := by omega
  have h2 : ¬ A.1 25 = 2 := by omega
  unfold upR
  split
  · unfold rnP; rw [ifP_f h1]
  split
  · unfold paP; rw [ifP_f h1]
  split
  · unfold peP; rw [ifP_f h1]
  split
  · unfold nmP
    rw [ntP_0 h, ifP_f h1]
    by_cases c1 : A.1 30 < 6
    · rw [ifP_t c1]
      by_cases c2 : NFD A e.2.2.2
      · rw [ifP_t c2]
      · rw [ifP_f c2]
        by_cases c3 : A.2.1 35 (A.1 30) = 12
        · rw [ifP_t c3]
        · rw [ifP_f c3]
    · rw [ifP_f c1]
  split
  · unfold lnP
    split
    · rw [ntP_0 (show (sS 31 (A.1 31 + 1) A).1 25 = 0 from h)]; rfl
    · rfl
  split
  · unfold clP; rw [ifP_f h2]
  split
  · unfold reP; rw [if_neg (by omega)]; rfl
  rfl
theorem fold_27 (es : List EW) (A : MS) (h : A.1 25 = 0) : (es.foldl upR A).1 27 = A.1 27 := by
  induction es generalizing A with
  | nil => rfl
  | cons e es ih => rw [List.foldl_cons, ih _ (by rw [upR_25]; exact h), upR_27 A e h]
theorem EFF.p27 {es : List EW} {σ τ : MS} (h : EFF es σ τ) (h0 : σ.1 25 = 0) : τ.1 27 = σ.1 27 := (srt_27 (h σ rfl)).symm.trans (fold_27 es σ h0)
theorem absR_srt {A B : MS} (h : srt A = srt B) : absR A = absR B := by
  unfold absR
  rw [srt_25 h, srt_26 h, srt_27 h, srt_30 h, srt_31 h, srt_43 h, srt_44 h, srt_45 h, srt_35 h, srt_38 h]
theorem EFF.ab {es : List EW} {A τ : MS} (h : EFF es A τ) (h0 : 0 < A.1 25) : absR τ = es.foldl uR (absR A) := by
  rw [← abs_fold es h0]
  exact (absR_srt (h A rfl)).symm
def FZ (A : MS) : Prop := A.1 26 = 0 → A.1 27 = -1
theorem ntP_z {f p : Int} {A : MS} (h : FZ A) (hf : f ≠ 0) : FZ (ntP f p A) := by
  unfold ntP
  split
  · exact fun q => absurd (show f = 0 from q) hf
  · exact h
theorem ifz {p : Prop} {a b : MS} (h1 : FZ a) (h2 : FZ b) : FZ (ifP p a b) := by
  by_cases c : p
  · rw [ifP_t c]; exact h1
  · rw [ifP_f c]; exact h2
theorem nmP_z {w : Int64} {p : Int} {B : MS} (h : FZ B) : FZ (nmP w p B) := by
  unfold nmP
  exact ifz (ifz h (ifz (ntP_z h (by decide)) (ifz h h))) h
theorem upR_z {A : MS} (h : FZ A) (e : EW) : FZ (upR A e) := by
  unfold upR
  split
  · unfold rnP
    refine ifz ?_ h
    have q : FZ (ifP (A.1 30 = 6) (ntP 5 e.2.1 A) A) := ifz (ntP_z h (by decide)) h
    have w : FZ (ifP (∃ q, RFD A e.2.2.2 q) (ntP 2 e.2.1 (ifP (A.1 30 = 6) (ntP 5 e.2.1 A) A)) (ifP (A.1 30 = 6) (ntP 5 e.2.1 A) A)) := ifz (ntP_z q (by decide)) q
    exact w
  split
  · unfold paP
    refine ifz (nmP_z ?_) h
    have q : FZ (ifP (e.2.2.1 = 4) (ntP 5 e.2.1 A) A) := ifz (ntP_z h (by decide)) h
    exact ifz (ntP_z q (by decide)) q
  split
  · unfold peP
    exact ifz (ifz h h) h
  split
  · exact nmP_z h
  split
  · unfold lnP
    split
    · exact ntP_z (show FZ (sS 31 (A.1 31 + 1) A) from h) (by decide)
    · exact h
  split
  · unfold clP
    exact ifz (ifz (ifz (ntP_z h (by decide)) h) (ntP_z h (by decide))) h
  split
  · unfold reP
    split
    · exact (show FZ (ntP 5 e.2.1 A) from ntP_z h (by decide))
    · exact h
  exact h
theorem fold_z : ∀ (es : List EW) {A : MS}, FZ A → FZ (es.foldl upR A)
  | [], _, h => h
  | e :: es, _, h => fold_z es (upR_z h e)
theorem EFF.fz {es : List EW} {A τ : MS} (h : EFF es A τ) (hz : FZ A) : FZ τ := fun q => by
  have w := h A rfl
  have z := fold_z es hz
  rw [← srt_27 w]
  exact z (by rw [srt_26 w]; exact q)
noncomputable def RA9 (c : CS) : FP := cnts (cSs c c.cn.toNat) c.fp
def RQ9 (S : Int → Int) (v f p r0 r : Int) : Prop := (∃ es pl, RE S ([36], advT S 0, (0, 0, 0), qq 0, []) (es ++ [(9, pl, 0, 0)]) pF ∧ v = -1 ∧ f = 1 ∧ p = pl ∧ r = r0) ∨ ∃ es t x q ρ, RE S ([36], advT S 0, (0, 0, 0), qq 0, []) es ([], t, x, q, ρ) ∧ f = (RA9 (es.foldl uC c00)).1 ∧ (f = 0 → v = (if (es.foldl uC c00).rn ≤ 6 then (es.foldl uC c00).rn else 6) ∧ p = -1 ∧ r = v) ∧ (f ≠ 0 → v = -1 ∧ p = (RA9 (es.foldl uC c00)).2 ∧ r = r0)
theorem RQ9.one {S : Int → Int} {v f p r0 r v' f' p' r' : Int} (h : RQ9 S v f p r0 r) (g : RQ9 S v' f' p' r0 r') : v = v' ∧ f = f' ∧ p = p' ∧ r = r' := by
  rcases h with ⟨es, pl, h1, h2, h3, h4, h5⟩ | ⟨es, t, x, q, ρ, h1, h2, h3, h4⟩
  · rcases g with ⟨es', pl', g1, g2, g3, g4, g5⟩ | ⟨es', t', x', q', ρ', g1, g2, g3, g4⟩
    · have w := (RE.det h1 g1 (stp_pF _) (stp_pF _) evt_pF evt_pF).2
      have e := List.append_inj_right' w rfl
      have e2 : pl = pl' := by
        have := (List.cons.inj e).1
        exact congrArg (fun z : EW => z.2.1) this
      omega
    · have w := (RE.det h1 g1 (stp_pF _) rfl evt_pF rfl).1
      exact absurd (show ([999] : List Nat) = [] from congrArg Prod.fst w) (by decide)
  · rcases g with ⟨es', pl', g1, g2, g3, g4, g5⟩ | ⟨es', t', x', q', ρ', g1, g2, g3, g4⟩
    · have w := (RE.det h1 g1 rfl (stp_pF _) rfl evt_pF).1
      exact absurd (show ([] : List Nat) = [999] from congrArg Prod.fst w) (by decide)
    · have w := (RE.det h1 g1 rfl rfl rfl rfl).2
      rw [← w] at g2 g3 g4
      have ef : f = f' := h2.trans g2.symm
      subst ef
      by_cases z : f = 0
      · obtain ⟨a1, a2, a3⟩ := h3 z
        obtain ⟨b1, b2, b3⟩ := g3 z
        exact ⟨a1.trans b1.symm, rfl, a2.trans b2.symm, by rw [a3, b3, a1, b1]⟩
      · obtain ⟨a1, a2, a3⟩ := h4 z
        obtain ⟨b1, b2, b3⟩ := g4 z
        exact ⟨a1.trans b1.symm, rfl, a2.trans b2.symm, a3.trans b3.symm⟩
theorem RM9 {σ0 σa σb σc : MS} (hl : σ0.1 21 ≤ 1200) (h26 : σ0.1 26 = 0) (h27 : σ0.1 27 = -1) (sa : sv σa = sv σ0) (sb : sv σb = sv σ0) (ga : GQ1 0 σ0 σa) (gb : GQ1 1 σa σb) (gc : GQ1 2 σb σc) : ∃ es t x q ρ, RE (sv σ0) ([36], advT (sv σ0) 0, (0, 0, 0), qq 0, []) es ([], t, x, q, ρ) ∧ (σc.1 26, σc.1 27) = RA9 (es.foldl uC c00) ∧ σc.1 30 = (es.foldl uC c00).rn ∧ FZ σc := by
  obtain ⟨t0, x0, l0, es, ⟨r0, A0, i0, f0⟩, -⟩ := ga
  obtain ⟨t1, x1, l1, e1, ⟨r1, A1, i1, f1⟩, -⟩ := gb
  obtain ⟨t2, x2, l2, e2, ⟨r2, A2, i2, f2⟩, -⟩ := gc
  rw [sa] at r1
  rw [sb] at r2
  have d1 : e1 = es := (RE.det r1 r0 rfl rfl rfl rfl).2
  have d2 : e2 = es := (RE.det r2 r0 rfl rfl rfl rfl).2
  subst d1
  subst d2
  have hS : SEN (sv σ0) := fun k hk => by
    unfold sv
    rw [if_neg (by omega)]; decide
  have a26 : σa.1 26 = 0 := (f0.p26 i0.1.1).trans (i0.1.2.1.trans h26)
  have a27 : σa.1 27 = -1 := (f0.p27 i0.1.1).trans (i0.1.2.2.1.trans h27)
  have b1 := f1.ab (by rw [i1.1.1]; decide)
  have b2 := f2.ab (by rw [i2.1.1]; decide)
  have w1 := i1.2.1 rfl
  have w2 := i2.2.2.1 (by decide)
  have k := READERS (es := e2) (r := absR A1) (b := absR A2) (c := c00) (RE.shp hS r0) i1.1.1 (show (A1.1 26, A1.1 27) = ((0, -1) : FP) by rw [i1.1.2.1, i1.1.2.2.1, a26, a27]) i1.1.2.2.2.1 i1.1.2.2.2.2 w1.1 w1.2 rfl rfl rfl (by decide) rfl i2.1.1
    (by rw [← b1]; show (A2.1 26, A2.1 27) = (σb.1 26, σb.1 27); rw [i2.1.2.1, i2.1.2.2.1]) i2.1.2.2.2.1 i2.1.2.2.2.2 (by rw [← b1]; exact w2.1) (by rw [← b1]; exact i2.2.2.2.2.2) (by rw [← b1]; exact i2.2.2.2.1) (by rw [← b1]; exact w2.2) (by rw [← b1]; exact i2.2.2.2.2.1)
  rw [← b2] at k
  have zb : FZ σb := f1.fz (fun q => by rw [i1.1.2.2.1]; exact a27)
  have zc : FZ σc := f2.fz (fun q => by rw [i2.1.2.2.1]; exact zb (by rw [← i2.1.2.1]; exact q))
  exact ⟨e2, t0, x0, qq 0, l0, r0, k.1, k.2, zc⟩
theorem RM9.fl {σ0 σa : MS} {r0 : Int} (h26 : σ0.1 26 = 0) (g : GFL (sS 25 0 σ0) σa) : RQ9 (sv σ0) (-1) (σa.1 26) (σa.1 27) r0 r0 := by
  obtain ⟨es, p, h1, h2⟩ := g
  obtain ⟨q1, q2⟩ := h2 rfl h26
  exact Or.inl ⟨es, p, h1, rfl, q1, q2, rfl⟩
theorem GQ1.nofl {w w2 : Int} {σ0 σa σ1 σb : MS} (ga : GQ1 w σ0 σa) (e : sv σ1 = sv σ0) (g : GFL (sS 25 w2 σ1) σb) : False := by
  obtain ⟨t0, x0, l0, es, ⟨r0, -⟩, -⟩ := ga
  obtain ⟨e2, p, h1, -⟩ := g
  have h1' : RE (sv σ1) (GST (sv σ1)) (e2 ++ [(9, p, 0, 0)]) pF := h1
  rw [e] at h1'
  have w := (RE.det h1' r0 (stp_pF _) rfl evt_pF rfl).1
  exact absurd (show ([999] : List Nat) = [] from congrArg Prod.fst w) (by decide)
theorem RM9.bad {σ0 σa σb σc : MS} {r0 : Int} (hl : σ0.1 21 ≤ 1200) (h26 : σ0.1 26 = 0) (h27 : σ0.1 27 = -1) (sa : sv σa = sv σ0) (sb : sv σb = sv σ0) (ga : GQ1 0 σ0 σa) (gb : GQ1 1 σa σb) (gc : GQ1 2 σb σc) (hf : σc.1 26 ≠ 0) : RQ9 (sv σ0) (-1) (σc.1 26) (σc.1 27) r0 r0 := by
  obtain ⟨es, t, x, q, ρ, k1, k2, k3, k4⟩ := RM9 hl h26 h27 sa sb ga gb gc
  exact Or.inr ⟨es, t, x, q, ρ, k1, congrArg Prod.fst k2, fun z => absurd z hf, fun _ => ⟨rfl, congrArg Prod.snd k2, rfl⟩⟩
theorem RM9.good {σ0 σa σb σc : MS} {r0 r p : Int} (hl : σ0.1 21 ≤ 1200) (h26 : σ0.1 26 = 0) (h27 : σ0.1 27 = -1) (sa : sv σa = sv σ0) (sb : sv σb = sv σ0) (ga : GQ1 0 σ0 σa) (gb : GQ1 1 σa σb) (gc : GQ1 2 σb σc) (hf : σc.1 26 = 0) (hr : r = σc.1 30) (h6 : σc.1 30 ≤ 6) (hp : p = σc.1 27) : RQ9 (sv σ0) r (σc.1 26) p r0 r := by
  obtain ⟨es, t, x, q, ρ, k1, k2, k3, k4⟩ := RM9 hl h26 h27 sa sb ga gb gc
  refine Or.inr ⟨es, t, x, q, ρ, k1, congrArg Prod.fst k2, fun _ => ⟨?_, hp.trans (k4 hf), rfl⟩, fun z => absurd hf z⟩
  rw [← k3, if_pos h6]; exact hr
theorem cntN_z {f p : Int} {a : FP} (hf : f ≠ 0) (h : (cntN f p a).1 = 0) : False := by
  unfold cntN at h
  by_cases c : a.1 = 0 ∨ p < a.2 ∨ (p = a.2 ∧ f < a.1)
  · rw [if_pos c] at h; exact hf h
  · rw [if_neg c] at h; exact c (Or.inl h)
theorem cnts_z : ∀ (M : List NT) {a : FP}, (∀ n ∈ M, n.2 ≠ 0) → (cnts M a).1 = 0 → M = [] ∧ a.1 = 0
  | [], _, _, h => ⟨rfl, h⟩
  | n :: M, a, g, h => by
    have q := cnts_z M (a := cntN n.2 n.1 a) (fun m w => g m (List.mem_cons_of_mem _ w)) h
    exact (cntN_z (g n List.mem_cons_self) q.2).elim
def N3 (r b : RS) : Prop := r.ph = 2 ∧ b.ph = 3 ∧ r.rt = b.rt ∧ r.ln = b.ln ∧ r.nn = b.nn ∧ r.nw = b.nw
theorem nNm_3 {r b : RS} (h : N3 r b) (w : Int64) (p : Int) : nNm b w p = nNm r w p := by
  unfold nNm fndN
  rw [h.2.2.1, h.2.2.2.2.1, h.2.2.2.2.2]
theorem sNm_3 {r : RS} (h : r.ph ≠ 1) (w : Int64) : sNm r w = r := by
  unfold sNm
  rw [ifP_f (fun q => h q.1)]
theorem ifP_nz {p : Prop} {l m : List NT} (h : ∀ n ∈ l, n.2 ≠ 0) (g : ∀ n ∈ m, n.2 ≠ 0) : ∀ n ∈ ifP p l m, n.2 ≠ 0 := by
  by_cases c : p
  · rw [ifP_t c]; exact h
  · rw [ifP_f c]; exact g
theorem one_nz {p f : Int} (h : f ≠ 0) : ∀ n ∈ ([(p, f)] : List NT), n.2 ≠ 0 := fun n q => by
  rw [List.mem_singleton.mp q]; exact h
theorem nil_nz : ∀ n ∈ ([] : List NT), n.2 ≠ 0 := fun n q => absurd q (by simp)
theorem nRf_nz {r : RS} (h : r.ph = 2) (e : EW) : ∀ n ∈ nRf r e, n.2 ≠ 0 := by
  have h1 : ¬ r.ph = 1 := by omega
  unfold nRf
  split
  · unfold nRn; rw [ifP_f h1]; exact nil_nz
  split
  · unfold nPa; rw [ifP_f h1]; exact nil_nz
  split
  · exact nil_nz
  split
  · unfold nNm; exact ifP_nz (one_nz (by decide)) nil_nz
  split
  · exact ifP_nz (one_nz (by decide)) nil_nz
  split
  · unfold nCl; exact ifP_nz (ifP_nz (ifP_nz (one_nz (by decide)) nil_nz) (one_nz (by decide))) nil_nz
  split
  · exact ifP_nz (one_nz (by decide)) nil_nz
  exact nil_nz
theorem nRf_3 {r b : RS} (h : N3 r b) (e : EW) (g : nRf r e = []) : nRf b e = [] := by
  have h1 : ¬ b.ph = 1 := by have := h.2.1; omega
  have h2 : ¬ b.ph = 2 := by have := h.2.1; omega
  unfold nRf at g ⊢
  by_cases c2 : e.1 = 2
  · rw [if_pos c2]; unfold nRn; rw [ifP_f h1]
  rw [if_neg c2] at g ⊢
  by_cases c3 : e.1 = 3
  · rw [if_pos c3]; unfold nPa; rw [ifP_f h1]
  rw [if_neg c3] at g ⊢
  by_cases c7 : e.1 = 7
  · rw [if_pos c7]
  rw [if_neg c7] at g ⊢
  by_cases c4 : e.1 = 4
  · rw [if_pos c4] at g ⊢; rw [nNm_3 h]; exact g
  rw [if_neg c4] at g ⊢
  by_cases c5 : e.1 = 5
  · rw [if_pos c5] at g ⊢; rw [← h.2.2.2.1]; exact g
  rw [if_neg c5]
  by_cases c1 : e.1 = 1
  · rw [if_pos c1]; unfold nCl; rw [ifP_f h2]
  rw [if_neg c1]
  by_cases c0 : e.1 = 0
  · rw [if_pos c0, ifP_f (fun q => h2 q.1)]
  rw [if_neg c0]
theorem sR_3 {r b : RS} (h : N3 r b) (e : EW) : N3 (sR r e) (sR b e) := by
  have h1 : ¬ b.ph = 1 := by have := h.2.1; omega
  have h2 : ¬ r.ph = 1 := by have := h.1; omega
  unfold sR
  by_cases c2 : e.1 = 2
  · rw [if_pos c2, if_pos c2, ifP_f h1, ifP_f h2]; exact h
  rw [if_neg c2, if_neg c2]
  by_cases c3 : e.1 = 3
  · rw [if_pos c3, if_pos c3, ifP_f h1, ifP_f h2]; exact h
  rw [if_neg c3, if_neg c3]
  by_cases c7 : e.1 = 7
  · rw [if_pos c7, if_pos c7, ifP_f h1, ifP_f h2]; exact h
  rw [if_neg c7, if_neg c7]
  by_cases c4 : e.1 = 4
  · rw [if_pos c4, if_pos c4, sNm_3 h1, sNm_3 h2]; exact h
  rw [if_neg c4, if_neg c4]
  by_cases c5 : e.1 = 5
  · rw [if_pos c5, if_pos c5]; exact ⟨h.1, h.2.1, h.2.2.1, by show r.ln + 1 = b.ln + 1; rw [h.2.2.2.1], h.2.2.2.2.1, h.2.2.2.2.2⟩
  rw [if_neg c5, if_neg c5]
  by_cases c1 : e.1 = 1
  · rw [if_pos c1, if_pos c1]; exact h
  rw [if_neg c1, if_neg c1]
  by_cases c0 : e.1 = 0
  · rw [if_pos c0, if_pos c0]; exact ⟨h.1, h.2.1, by show r.rt + 1 = b.rt + 1; rw [h.2.2.1], h.2.2.2.1, h.2.2.2.2.1, h.2.2.2.2.2⟩
  rw [if_neg c0, if_neg c0]; exact h
theorem fold_nz : ∀ (es : List EW) {r b : RS}, N3 r b → (es.foldl uR r).fp.1 = 0 → r.fp.1 = 0 ∧ (es.foldl uR b).fp = b.fp
  | [], _, _, _, h => ⟨h, rfl⟩
  | e :: es, r, b, n, h => by
    rw [List.foldl_cons] at h
    have s3 := sR_3 n e
    have n2 : N3 (uR r e) (uR b e) := s3
    have q := fold_nz es n2 h
    have z : (cnts (nRf r e) r.fp).1 = 0 := q.1
    have w := cnts_z _ (nRf_nz n.1 e) z
    refine ⟨w.2, ?_⟩
    rw [List.foldl_cons, q.2]
    show cnts (nRf b e) b.fp = b.fp
    rw [nRf_3 n e w.1]
    rfl
theorem RM9.three {σb σc σd σe : MS} (gc : GQ1 2 σb σc) (gd : GQ1 3 σd σe) (es : sv σd = sv σb) (hf : σc.1 26 = 0) (h5 : σd.2.1 35 = σb.2.1 35) (h8 : σd.2.2 38 = σb.2.2 38) : σe.1 26 = σd.1 26 ∧ σe.1 27 = σd.1 27 := by
  obtain ⟨t2, x2, l2, e2, ⟨r2, A2, i2, f2⟩, -⟩ := gc
  obtain ⟨t3, x3, l3, e3, ⟨r3, A3, i3, f3⟩, -⟩ := gd
  rw [es] at r3
  have d : e3 = e2 := (RE.det r3 r2 rfl rfl rfl rfl).2
  subst d
  have b2 := f2.ab (by rw [i2.1.1]; decide)
  have b3 := f3.ab (by rw [i3.1.1]; decide)
  have n : N3 (absR A2) (absR A3) := by
    refine ⟨i2.1.1, i3.1.1, ?_, ?_, ?_, ?_⟩
    · show A2.1 30 = A3.1 30; rw [i2.1.2.2.2.1, i3.1.2.2.2.1]
    · show A2.1 31 = A3.1 31; rw [i2.1.2.2.2.2, i3.1.2.2.2.2]
    · show A2.2.1 35 = A3.2.1 35; rw [(i2.2.2.1 (by decide)).2, (i3.2.2.1 (by decide)).2, h5]
    · show A2.2.2 38 = A3.2.2 38; rw [i2.2.2.2.2.1, i3.2.2.2.2.1, h8]
  have z : (e3.foldl uR (absR A2)).fp.1 = 0 := by rw [← b2]; exact hf
  have w := (fold_nz e3 n z).2
  rw [← b3] at w
  have w1 : (σe.1 26, σe.1 27) = (A3.1 26, A3.1 27) := w
  exact ⟨(congrArg Prod.fst w1).trans i3.1.2.1, (congrArg Prod.snd w1).trans i3.1.2.2.1⟩
end
section
theorem ml12_388 : Cond.methodLink RX12 388 yX12_goOver ∈ pWW := pw8 (List.mem_of_getElem? (i := 47) rfl) rfl
theorem dX12_read_0 : decode cX12_read 0 = .ok (.aload_n 0, 1) := by decide +kernel
theorem dX12_read_1 : decode cX12_read 1 = .ok (.iconst 0, 1) := by decide +kernel
theorem dX12_read_2 : decode cX12_read 2 = .ok (.putfield 185, 3) := by decide +kernel
theorem dX12_read_5 : decode cX12_read 5 = .ok (.aload_n 0, 1) := by decide +kernel
theorem dX12_read_6 : decode cX12_read 6 = .ok (.aload_n 0, 1) := by decide +kernel
theorem dX12_read_7 : decode cX12_read 7 = .ok (.getfield 382, 3) := by decide +kernel
theorem dX12_read_10 : decode cX12_read 10 = .ok (.putfield 207, 3) := by decide +kernel
theorem dX12_read_13 : decode cX12_read 13 = .ok (.aload_n 0, 1) := by decide +kernel
theorem dX12_read_14 : decode cX12_read 14 = .ok (.iconst 0, 1) := by decide +kernel
theorem dX12_read_15 : decode cX12_read 15 = .ok (.putfield 382, 3) := by decide +kernel
theorem dX12_read_18 : decode cX12_read 18 = .ok (.aload_n 0, 1) := by decide +kernel
theorem dX12_read_19 : decode cX12_read 19 = .ok (.iconst 0, 1) := by decide +kernel
theorem dX12_read_20 : decode cX12_read 20 = .ok (.putfield 252, 3) := by decide +kernel
theorem dX12_read_23 : decode cX12_read 23 = .ok (.aload_n 0, 1) := by decide +kernel
theorem dX12_read_24 : decode cX12_read 24 = .ok (.iconst (-1), 1) := by decide +kernel
theorem dX12_read_25 : decode cX12_read 25 = .ok (.putfield 59, 3) := by decide +kernel
theorem dX12_read_28 : decode cX12_read 28 = .ok (.aload_n 0, 1) := by decide +kernel
theorem dX12_read_29 : decode cX12_read 29 = .ok (.iconst 0, 1) := by decide +kernel
theorem dX12_read_30 : decode cX12_read 30 = .ok (.invokevirtual 388, 3) := by decide +kernel
theorem dX12_read_33 : decode cX12_read 33 = .ok (.ifCond .eq 23, 3) := by decide +kernel
theorem dX12_read_56 : decode cX12_read 56 = .ok (.iconst 0, 1) := by decide +kernel
theorem dX12_read_57 : decode cX12_read 57 = .ok (.istore_n 1, 1) := by decide +kernel
theorem dX12_read_58 : decode cX12_read 58 = .ok (.aload_n 0, 1) := by decide +kernel
theorem dX12_read_59 : decode cX12_read 59 = .ok (.getfield 252, 3) := by decide +kernel
theorem dX12_read_62 : decode cX12_read 62 = .ok (.ifCond .gt 7, 3) := by decide +kernel
theorem dX12_read_69 : decode cX12_read 69 = .ok (.iconst (-1), 1) := by decide +kernel
theorem dX12_read_70 : decode cX12_read 70 = .ok (.ireturn, 1) := by decide +kernel
theorem dX12_read_65 : decode cX12_read 65 = .ok (.iload_n 1, 1) := by decide +kernel
theorem dX12_read_66 : decode cX12_read 66 = .ok (.ifCond .ne 5, 3) := by decide +kernel
theorem dX12_read_36 : decode cX12_read 36 = .ok (.aload_n 0, 1) := by decide +kernel
theorem dX12_read_37 : decode cX12_read 37 = .ok (.iconst 1, 1) := by decide +kernel
theorem dX12_read_38 : decode cX12_read 38 = .ok (.invokevirtual 388, 3) := by decide +kernel
theorem dX12_read_41 : decode cX12_read 41 = .ok (.ifCond .eq 15, 3) := by decide +kernel
theorem dX12_read_44 : decode cX12_read 44 = .ok (.aload_n 0, 1) := by decide +kernel
theorem dX12_read_45 : decode cX12_read 45 = .ok (.iconst 2, 1) := by decide +kernel
theorem dX12_read_46 : decode cX12_read 46 = .ok (.invokevirtual 388, 3) := by decide +kernel
theorem dX12_read_49 : decode cX12_read 49 = .ok (.ifCond .eq 7, 3) := by decide +kernel
theorem dX12_read_52 : decode cX12_read 52 = .ok (.iconst 1, 1) := by decide +kernel
theorem dX12_read_53 : decode cX12_read 53 = .ok (.goto 4, 3) := by decide +kernel
theorem dX12_read_71 : decode cX12_read 71 = .ok (.aload_n 0, 1) := by decide +kernel
theorem dX12_read_72 : decode cX12_read 72 = .ok (.aload_n 0, 1) := by decide +kernel
theorem dX12_read_73 : decode cX12_read 73 = .ok (.getfield 268, 3) := by decide +kernel
theorem dX12_read_76 : decode cX12_read 76 = .ok (.putfield 391, 3) := by decide +kernel
theorem dX12_read_79 : decode cX12_read 79 = .ok (.iconst 0, 1) := by decide +kernel
theorem dX12_read_80 : decode cX12_read 80 = .ok (.istore_n 2, 1) := by decide +kernel
theorem dX12_read_119 : decode cX12_read 119 = .ok (.aload_n 0, 1) := by decide +kernel
theorem dX12_read_120 : decode cX12_read 120 = .ok (.iconst 3, 1) := by decide +kernel
theorem dX12_read_121 : decode cX12_read 121 = .ok (.invokevirtual 388, 3) := by decide +kernel
theorem dX12_read_124 : decode cX12_read 124 = .ok (.istore_n 1, 1) := by decide +kernel
theorem dX12_read_125 : decode cX12_read 125 = .ok (.iconst 0, 1) := by decide +kernel
theorem dX12_read_126 : decode cX12_read 126 = .ok (.istore_n 2, 1) := by decide +kernel
theorem dX12_read_269 : decode cX12_read 269 = .ok (.iconst 0, 1) := by decide +kernel
theorem dX12_read_270 : decode cX12_read 270 = .ok (.istore_n 2, 1) := by decide +kernel
theorem dX12_read_290 : decode cX12_read 290 = .ok (.aload_n 0, 1) := by decide +kernel
theorem dX12_read_291 : decode cX12_read 291 = .ok (.iconst 0, 1) := by decide +kernel
theorem dX12_read_292 : decode cX12_read 292 = .ok (.putfield 397, 3) := by decide +kernel
theorem dX12_read_295 : decode cX12_read 295 = .ok (.aload_n 0, 1) := by decide +kernel
theorem dX12_read_296 : decode cX12_read 296 = .ok (.getfield 391, 3) := by decide +kernel
theorem dX12_read_299 : decode cX12_read 299 = .ok (.ireturn, 1) := by decide +kernel
set_option maxHeartbeats 4000000 in
set_option maxRecDepth 20000 in
theorem c_X12_read (d : Nat) {b : Nat} {σ : MS} (hR : RG σ) (hsz : 0 ≤ σ.1 2 ∧ σ.1 2 ≤ 1200) (hnn : NN σ) (h43 : 0 ≤ σ.1 43 ∧ σ.1 43 ≤ 260) (hrh : RDH σ) : Tm (d + 65) m_X12_read 0 b σ [(0, .ref b)] [] (fun ro σ2 => ∃ v : Int, ro = some (.int (iI v)) ∧ (Fr [0, 2, 10, 19, 20, 21, 22, 23, 25, 26, 27, 28, 29, 30, 31, 32, 33, 34, 39, 40, 43, 67] [3, 4, 5, 6, 7, 8, 9, 11, 12, 13, 14, 15, 16, 17, 18, 35, 36, 37, 41, 42, 45, 48] [24, 38, 44] σ σ2) ∧ (RG σ2) ∧ (σ2.1 2 = 0) ∧ (NN σ2) ∧ (0 ≤ σ2.1 43 ∧ σ2.1 43 ≤ 260) ∧ (RDQ σ σ2) ∧ (RQ9 (sv (sS 21 (σ.1 2) σ)) v (σ2.1 26) (σ2.1 27) (σ.1 10) (σ2.1 10)) ∧ (RD6 (sv (sS 21 (σ.1 2) σ)) σ σ2 v)) := by
  refine tm_aload_n dX12_read_0 rfl 0 rfl ?_
  refine tm_iconst dX12_read_1 ?_
  refine tm_putS (k := 0) (v := 0) lay_12 dX12_read_2 (by decide) fl12_185 rfl (tyX12_ok 0 (by decide)) rfl rfl rfl ?_
  refine tm_aload_n dX12_read_5 rfl 0 rfl ?_
  refine tm_aload_n dX12_read_6 rfl 0 rfl ?_
  refine tm_getS (k := 2) (t := σ.1 2) dX12_read_7 (by decide) fl12_382 rfl (rs_o (by decide) (rfl)) ?_
  have g1 := RG.s hR 2
  refine tm_putS (k := 21) (v := σ.1 2) lay_12 dX12_read_10 (by decide) fl12_207 rfl (tyX12_ok 21 (by decide)) rfl rfl rfl ?_
  refine tm_aload_n dX12_read_13 rfl 0 rfl ?_
  refine tm_iconst dX12_read_14 ?_
  refine tm_putS (k := 2) (v := 0) lay_12 dX12_read_15 (by decide) fl12_382 rfl (tyX12_ok 2 (by decide)) rfl rfl rfl ?_
  refine tm_aload_n dX12_read_18 rfl 0 rfl ?_
  refine tm_iconst dX12_read_19 ?_
  refine tm_putS (k := 26) (v := 0) lay_12 dX12_read_20 (by decide) fl12_252 rfl (tyX12_ok 26 (by decide)) rfl rfl rfl ?_
  refine tm_aload_n dX12_read_23 rfl 0 rfl ?_
  refine tm_iconst dX12_read_24 ?_
  refine tm_putS (k := 27) (v := -1) lay_12 dX12_read_25 (by decide) fl12_59 rfl (tyX12_ok 27 (by decide)) rfl rfl rfl ?_
  have k0 : KPR σ (sS 27 (-1) (sS 26 0 (sS 2 0 (sS 21 (σ.1 2) (sS 0 0 σ))))) := KPR.fr (show Fr [0, 2, 21, 26, 27] [] [] σ (sS 27 (-1) (sS 26 0 (sS 2 0 (sS 21 (σ.1 2) (sS 0 0 σ))))) from (((((Fr.rfl.S (by decide)).S (by decide)).S (by decide)).S (by decide)).S (by decide))) (by decide)
  have e21 : (sS 27 (-1) (sS 26 0 (sS 2 0 (sS 21 (σ.1 2) (sS 0 0 σ))))).1 21 = σ.1 2 := rfl
  refine tm_aload_n dX12_read_28 rfl 0 rfl ?_
  refine tm_iconst dX12_read_29 ?_
  refine tm_callV (M := m_X12_read) (pc := 30) (ix := 388) (M' := m_X12_goOver) (As := [.int (iI 0)]) (rest := []) dX12_read_30 ok_X12_goOver im_X12_goOver se_X12_goOver ml12_388 np_X12_goOver rfl rfl (Nat.le_of_ble_eq_true rfl) (Nat.le_of_ble_eq_true rfl) rfl (c_X12_goOver (d) (σ := (sS 27 (-1) (sS 26 0 (sS 2 0 (sS 21 (σ.1 2) (sS 0 0 σ)))))) (w := 0) (((((hR.S (by omega)).S (by omega)).S (by omega)).S (by omega)).S (by omega)) (by decide) (by rw [e21]; omega) hnn h43 (fun q => absurd q (by decide))) (fun r2 σ3 hp => ?_)
  obtain ⟨v4, rfl, f5, f6, f7, f8, f9, f10⟩ := hp
  show Tm _ _ 33 b σ3 [(0, .ref b)] [.int (iI v4)] _
  have ga0 := f5
  have ga1 := f6
  have ga2 := f7
  have ga3 := f8
  have ga4 := f9
  have ga5 := f10
  have k1 : KPR σ σ3 := k0.trans (ga3.kpr (by decide))
  have R1_ := f7
  have e211 : σ3.1 21 = σ.1 2 := (ga1.1 21 (by decide)).trans e21
  have g261 := RG.s R1_ 26
  refine tm_if_eq (tgt := 56) dX12_read_33 (by decide) ⟨by omega, by omega⟩ (fun h11 => ?_) (fun h11 => ?_)
  · refine tm_iconst dX12_read_56 ?_
    refine tm_istore_n (L' := [(1, .int (iI 0)), (0, .ref b)]) dX12_read_57 rfl (by decide) rfl ?_
    refine tm_aload_n dX12_read_58 rfl 1 rfl ?_
    refine tm_getS (k := 26) (t := σ3.1 26) dX12_read_59 (by decide) fl12_252 rfl (rfl) ?_
    have g12 := RG.s f7 26
    refine tm_if_gt (tgt := 69) dX12_read_62 (by decide) ⟨by omega, by omega⟩ (fun h13 => ?_) (fun h13 => ?_)
    · refine tm_iconst dX12_read_69 ?_
      have rq14s : sv (sS 27 (-1) (sS 26 0 (sS 2 0 (sS 21 (σ.1 2) (sS 0 0 σ))))) = sv (sS 21 (σ.1 2) σ) := rfl
      have rq14 : RQ9 (sv (sS 27 (-1) (sS 26 0 (sS 2 0 (sS 21 (σ.1 2) (sS 0 0 σ)))))) (-1) (σ3.1 26) (σ3.1 27) (σ.1 10) (σ.1 10) := RM9.fl rfl (ga5 (by omega))
      exact tm_iret rfl dX12_read_70 (⟨_, rfl, ((((((Fr.rfl.S (by decide)).S (by decide)).S (by decide)).S (by decide)).S (by decide)).trans (Fr.sub f6 (by decide) (by decide) (by decide))), f7, rs_F f6 (by decide) (rs_o (by decide) (rs_o (by decide) (rs_eq))), ga3.2.2.1, ga3.2.2.2.2, RDQ.keep hrh k1 (show Fr [0, 2, 19, 20, 21, 22, 23, 25, 26, 27, 28, 29, 30, 31, 32, 33, 34, 39, 40, 43] [3, 4, 5, 6, 7, 8, 9, 35, 36, 37, 41, 42, 45] [24, 38, 44] σ σ3 from ((((((Fr.rfl.S (by decide)).S (by decide)).S (by decide)).S (by decide)).S (by decide)).trans (Fr.sub f6 (by decide) (by decide) (by decide)))), by rw [(show σ3.1 10 = σ.1 10 from rs_F f6 (by decide) (rs_o (by decide) (rs_o (by decide) (rs_o (by decide) (rs_o (by decide) (rs_o (by decide) (rfl))))))), ← rq14s]; exact rq14, ⟨fun _ => ⟨k1, (show Fr [0, 2, 19, 20, 21, 22, 23, 25, 26, 27, 28, 29, 30, 31, 32, 33, 34, 39, 40, 43] [3, 4, 5, 6, 7, 8, 9, 35, 36, 37, 41, 42, 45] [24, 38, 44] σ σ3 from ((((((Fr.rfl.S (by decide)).S (by decide)).S (by decide)).S (by decide)).S (by decide)).trans (Fr.sub f6 (by decide) (by decide) (by decide))))⟩, fun z => absurd rfl z⟩⟩)
    · refine tm_iload_n dX12_read_65 rfl 0 rfl ?_
      refine tm_if_ne (tgt := 71) dX12_read_66 (by decide) ⟨by decide, by decide⟩ (fun h => absurd h (by decide)) (fun _ => ?_)
      refine tm_iconst dX12_read_69 ?_
      have rq16s : sv (sS 27 (-1) (sS 26 0 (sS 2 0 (sS 21 (σ.1 2) (sS 0 0 σ))))) = sv (sS 21 (σ.1 2) σ) := rfl
      have rq16 : RQ9 (sv (sS 27 (-1) (sS 26 0 (sS 2 0 (sS 21 (σ.1 2) (sS 0 0 σ)))))) (-1) (σ3.1 26) (σ3.1 27) (σ.1 10) (σ.1 10) := RM9.fl rfl (ga5 (by omega))
      exact tm_iret rfl dX12_read_70 (⟨_, rfl, ((((((Fr.rfl.S (by decide)).S (by decide)).S (by decide)).S (by decide)).S (by decide)).trans (Fr.sub f6 (by decide) (by decide) (by decide))), f7, rs_F f6 (by decide) (rs_o (by decide) (rs_o (by decide) (rs_eq))), ga3.2.2.1, ga3.2.2.2.2, RDQ.keep hrh k1 (show Fr [0, 2, 19, 20, 21, 22, 23, 25, 26, 27, 28, 29, 30, 31, 32, 33, 34, 39, 40, 43] [3, 4, 5, 6, 7, 8, 9, 35, 36, 37, 41, 42, 45] [24, 38, 44] σ σ3 from ((((((Fr.rfl.S (by decide)).S (by decide)).S (by decide)).S (by decide)).S (by decide)).trans (Fr.sub f6 (by decide) (by decide) (by decide)))), by rw [(show σ3.1 10 = σ.1 10 from rs_F f6 (by decide) (rs_o (by decide) (rs_o (by decide) (rs_o (by decide) (rs_o (by decide) (rs_o (by decide) (rfl))))))), ← rq16s]; exact rq16, ⟨fun _ => ⟨k1, (show Fr [0, 2, 19, 20, 21, 22, 23, 25, 26, 27, 28, 29, 30, 31, 32, 33, 34, 39, 40, 43] [3, 4, 5, 6, 7, 8, 9, 35, 36, 37, 41, 42, 45] [24, 38, 44] σ σ3 from ((((((Fr.rfl.S (by decide)).S (by decide)).S (by decide)).S (by decide)).S (by decide)).trans (Fr.sub f6 (by decide) (by decide) (by decide))))⟩, fun z => absurd rfl z⟩⟩)
  · refine tm_aload_n dX12_read_36 rfl 0 rfl ?_
    refine tm_iconst dX12_read_37 ?_
    refine tm_callV (M := m_X12_read) (pc := 38) (ix := 388) (M' := m_X12_goOver) (As := [.int (iI 1)]) (rest := []) dX12_read_38 ok_X12_goOver im_X12_goOver se_X12_goOver ml12_388 np_X12_goOver rfl rfl (Nat.le_of_ble_eq_true rfl) (Nat.le_of_ble_eq_true rfl) rfl (c_X12_goOver (d) (σ := σ3) (w := 1) R1_ (by decide) (by rw [e211]; omega) ga3.2.2.1 ga3.2.2.2.2 (fun q => absurd q (by decide))) (fun r17 σ18 hp => ?_)
    obtain ⟨v19, rfl, f20, f21, f22, f23, f24, f25⟩ := hp
    show Tm _ _ 41 b σ18 [(0, .ref b)] [.int (iI v19)] _
    have gb0 := f20
    have gb1 := f21
    have gb2 := f22
    have gb3 := f23
    have gb4 := f24
    have gb5 := f25
    have k2 : KPR σ σ18 := k1.trans (gb3.kpr (by decide))
    have R2_ := f22
    have e212 : σ18.1 21 = σ.1 2 := (gb1.1 21 (by decide)).trans e211
    have g262 := RG.s R2_ 26
    refine tm_if_eq (tgt := 56) dX12_read_41 (by decide) ⟨by omega, by omega⟩ (fun h32 => ?_) (fun h32 => ?_)
    · refine tm_iconst dX12_read_56 ?_
      refine tm_istore_n (L' := [(1, .int (iI 0)), (0, .ref b)]) dX12_read_57 rfl (by decide) rfl ?_
      refine tm_aload_n dX12_read_58 rfl 1 rfl ?_
      refine tm_getS (k := 26) (t := σ18.1 26) dX12_read_59 (by decide) fl12_252 rfl (rfl) ?_
      have g33 := RG.s f22 26
      refine tm_if_gt (tgt := 69) dX12_read_62 (by decide) ⟨by omega, by omega⟩ (fun h34 => ?_) (fun h34 => ?_)
      · refine tm_iconst dX12_read_69 ?_
        have rq35s : sv (sS 27 (-1) (sS 26 0 (sS 2 0 (sS 21 (σ.1 2) (sS 0 0 σ))))) = sv (sS 21 (σ.1 2) σ) := rfl
        have rq35 : RQ9 (sv (sS 27 (-1) (sS 26 0 (sS 2 0 (sS 21 (σ.1 2) (sS 0 0 σ)))))) (-1) (σ18.1 26) (σ18.1 27) (σ.1 10) (σ.1 10) := (GQ1.nofl (ga4 (by omega)) (sv_fr ga1 (by decide) (by decide)) (gb5 (by omega))).elim
        exact tm_iret rfl dX12_read_70 (⟨_, rfl, (((((((Fr.rfl.S (by decide)).S (by decide)).S (by decide)).S (by decide)).S (by decide)).trans (Fr.sub f6 (by decide) (by decide) (by decide))).trans (Fr.sub f21 (by decide) (by decide) (by decide))), f22, rs_F f21 (by decide) (rs_F f6 (by decide) (rs_o (by decide) (rs_o (by decide) (rs_eq)))), gb3.2.2.1, gb3.2.2.2.2, RDQ.keep hrh k2 (show Fr [0, 2, 19, 20, 21, 22, 23, 25, 26, 27, 28, 29, 30, 31, 32, 33, 34, 39, 40, 43] [3, 4, 5, 6, 7, 8, 9, 35, 36, 37, 41, 42, 45] [24, 38, 44] σ σ18 from (((((((Fr.rfl.S (by decide)).S (by decide)).S (by decide)).S (by decide)).S (by decide)).trans (Fr.sub f6 (by decide) (by decide) (by decide))).trans (Fr.sub f21 (by decide) (by decide) (by decide)))), by rw [(show σ18.1 10 = σ.1 10 from rs_F f21 (by decide) (rs_F f6 (by decide) (rs_o (by decide) (rs_o (by decide) (rs_o (by decide) (rs_o (by decide) (rs_o (by decide) (rfl)))))))), ← rq35s]; exact rq35, ⟨fun _ => ⟨k2, (show Fr [0, 2, 19, 20, 21, 22, 23, 25, 26, 27, 28, 29, 30, 31, 32, 33, 34, 39, 40, 43] [3, 4, 5, 6, 7, 8, 9, 35, 36, 37, 41, 42, 45] [24, 38, 44] σ σ18 from (((((((Fr.rfl.S (by decide)).S (by decide)).S (by decide)).S (by decide)).S (by decide)).trans (Fr.sub f6 (by decide) (by decide) (by decide))).trans (Fr.sub f21 (by decide) (by decide) (by decide))))⟩, fun z => absurd rfl z⟩⟩)
      · refine tm_iload_n dX12_read_65 rfl 0 rfl ?_
        refine tm_if_ne (tgt := 71) dX12_read_66 (by decide) ⟨by decide, by decide⟩ (fun h => absurd h (by decide)) (fun _ => ?_)
        refine tm_iconst dX12_read_69 ?_
        have rq37s : sv (sS 27 (-1) (sS 26 0 (sS 2 0 (sS 21 (σ.1 2) (sS 0 0 σ))))) = sv (sS 21 (σ.1 2) σ) := rfl
        have rq37 : RQ9 (sv (sS 27 (-1) (sS 26 0 (sS 2 0 (sS 21 (σ.1 2) (sS 0 0 σ)))))) (-1) (σ18.1 26) (σ18.1 27) (σ.1 10) (σ.1 10) := (GQ1.nofl (ga4 (by omega)) (sv_fr ga1 (by decide) (by decide)) (gb5 (by omega))).elim
        exact tm_iret rfl dX12_read_70 (⟨_, rfl, (((((((Fr.rfl.S (by decide)).S (by decide)).S (by decide)).S (by decide)).S (by decide)).trans (Fr.sub f6 (by decide) (by decide) (by decide))).trans (Fr.sub f21 (by decide) (by decide) (by decide))), f22, rs_F f21 (by decide) (rs_F f6 (by decide) (rs_o (by decide) (rs_o (by decide) (rs_eq)))), gb3.2.2.1, gb3.2.2.2.2, RDQ.keep hrh k2 (show Fr [0, 2, 19, 20, 21, 22, 23, 25, 26, 27, 28, 29, 30, 31, 32, 33, 34, 39, 40, 43] [3, 4, 5, 6, 7, 8, 9, 35, 36, 37, 41, 42, 45] [24, 38, 44] σ σ18 from (((((((Fr.rfl.S (by decide)).S (by decide)).S (by decide)).S (by decide)).S (by decide)).trans (Fr.sub f6 (by decide) (by decide) (by decide))).trans (Fr.sub f21 (by decide) (by decide) (by decide)))), by rw [(show σ18.1 10 = σ.1 10 from rs_F f21 (by decide) (rs_F f6 (by decide) (rs_o (by decide) (rs_o (by decide) (rs_o (by decide) (rs_o (by decide) (rs_o (by decide) (rfl)))))))), ← rq37s]; exact rq37, ⟨fun _ => ⟨k2, (show Fr [0, 2, 19, 20, 21, 22, 23, 25, 26, 27, 28, 29, 30, 31, 32, 33, 34, 39, 40, 43] [3, 4, 5, 6, 7, 8, 9, 35, 36, 37, 41, 42, 45] [24, 38, 44] σ σ18 from (((((((Fr.rfl.S (by decide)).S (by decide)).S (by decide)).S (by decide)).S (by decide)).trans (Fr.sub f6 (by decide) (by decide) (by decide))).trans (Fr.sub f21 (by decide) (by decide) (by decide))))⟩, fun z => absurd rfl z⟩⟩)
    · refine tm_aload_n dX12_read_44 rfl 0 rfl ?_
      refine tm_iconst dX12_read_45 ?_
      refine tm_callV (M := m_X12_read) (pc := 46) (ix := 388) (M' := m_X12_goOver) (As := [.int (iI 2)]) (rest := []) dX12_read_46 ok_X12_goOver im_X12_goOver se_X12_goOver ml12_388 np_X12_goOver rfl rfl (Nat.le_of_ble_eq_true rfl) (Nat.le_of_ble_eq_true rfl) rfl (c_X12_goOver (d) (σ := σ18) (w := 2) R2_ (by decide) (by rw [e212]; omega) gb3.2.2.1 gb3.2.2.2.2 (fun q => absurd q (by decide))) (fun r38 σ39 hp => ?_)
      obtain ⟨v40, rfl, f41, f42, f43, f44, f45, f46⟩ := hp
      show Tm _ _ 49 b σ39 [(0, .ref b)] [.int (iI v40)] _
      have gc0 := f41
      have gc1 := f42
      have gc2 := f43
      have gc3 := f44
      have gc4 := f45
      have gc5 := f46
      have k3 : KPR σ σ39 := k2.trans (gc3.kpr (by decide))
      have R3_ := f43
      have e213 : σ39.1 21 = σ.1 2 := (gc1.1 21 (by decide)).trans e212
      have g263 := RG.s R3_ 26
      refine tm_if_eq (tgt := 56) dX12_read_49 (by decide) ⟨by omega, by omega⟩ (fun h47 => ?_) (fun h47 => ?_)
      · refine tm_iconst dX12_read_56 ?_
        refine tm_istore_n (L' := [(1, .int (iI 0)), (0, .ref b)]) dX12_read_57 rfl (by decide) rfl ?_
        refine tm_aload_n dX12_read_58 rfl 1 rfl ?_
        refine tm_getS (k := 26) (t := σ39.1 26) dX12_read_59 (by decide) fl12_252 rfl (rfl) ?_
        have g48 := RG.s f43 26
        refine tm_if_gt (tgt := 69) dX12_read_62 (by decide) ⟨by omega, by omega⟩ (fun h49 => ?_) (fun h49 => ?_)
        · refine tm_iconst dX12_read_69 ?_
          have rq50s : sv (sS 27 (-1) (sS 26 0 (sS 2 0 (sS 21 (σ.1 2) (sS 0 0 σ))))) = sv (sS 21 (σ.1 2) σ) := rfl
          have rq50 : RQ9 (sv (sS 27 (-1) (sS 26 0 (sS 2 0 (sS 21 (σ.1 2) (sS 0 0 σ)))))) (-1) (σ39.1 26) (σ39.1 27) (σ.1 10) (σ.1 10) := by
            rcases gc0 with z9 | z9
            · exact (GQ1.nofl (ga4 (by omega)) ((sv_fr gb1 (by decide) (by decide)).trans (sv_fr ga1 (by decide) (by decide))) (gc5 z9)).elim
            · exact RM9.bad (by show σ.1 2 ≤ 1200; omega) rfl rfl (sv_fr ga1 (by decide) (by decide)) ((sv_fr gb1 (by decide) (by decide)).trans (sv_fr ga1 (by decide) (by decide))) (ga4 (by omega)) (gb4 (by omega)) (gc4 z9) (by omega)
          exact tm_iret rfl dX12_read_70 (⟨_, rfl, ((((((((Fr.rfl.S (by decide)).S (by decide)).S (by decide)).S (by decide)).S (by decide)).trans (Fr.sub f6 (by decide) (by decide) (by decide))).trans (Fr.sub f21 (by decide) (by decide) (by decide))).trans (Fr.sub f42 (by decide) (by decide) (by decide))), f43, rs_F f42 (by decide) (rs_F f21 (by decide) (rs_F f6 (by decide) (rs_o (by decide) (rs_o (by decide) (rs_eq))))), gc3.2.2.1, gc3.2.2.2.2, RDQ.keep hrh k3 (show Fr [0, 2, 19, 20, 21, 22, 23, 25, 26, 27, 28, 29, 30, 31, 32, 33, 34, 39, 40, 43] [3, 4, 5, 6, 7, 8, 9, 35, 36, 37, 41, 42, 45] [24, 38, 44] σ σ39 from ((((((((Fr.rfl.S (by decide)).S (by decide)).S (by decide)).S (by decide)).S (by decide)).trans (Fr.sub f6 (by decide) (by decide) (by decide))).trans (Fr.sub f21 (by decide) (by decide) (by decide))).trans (Fr.sub f42 (by decide) (by decide) (by decide)))), by rw [(show σ39.1 10 = σ.1 10 from rs_F f42 (by decide) (rs_F f21 (by decide) (rs_F f6 (by decide) (rs_o (by decide) (rs_o (by decide) (rs_o (by decide) (rs_o (by decide) (rs_o (by decide) (rfl))))))))), ← rq50s]; exact rq50, ⟨fun _ => ⟨k3, (show Fr [0, 2, 19, 20, 21, 22, 23, 25, 26, 27, 28, 29, 30, 31, 32, 33, 34, 39, 40, 43] [3, 4, 5, 6, 7, 8, 9, 35, 36, 37, 41, 42, 45] [24, 38, 44] σ σ39 from ((((((((Fr.rfl.S (by decide)).S (by decide)).S (by decide)).S (by decide)).S (by decide)).trans (Fr.sub f6 (by decide) (by decide) (by decide))).trans (Fr.sub f21 (by decide) (by decide) (by decide))).trans (Fr.sub f42 (by decide) (by decide) (by decide))))⟩, fun z => absurd rfl z⟩⟩)
        · refine tm_iload_n dX12_read_65 rfl 0 rfl ?_
          refine tm_if_ne (tgt := 71) dX12_read_66 (by decide) ⟨by decide, by decide⟩ (fun h => absurd h (by decide)) (fun _ => ?_)
          refine tm_iconst dX12_read_69 ?_
          have rq52s : sv (sS 27 (-1) (sS 26 0 (sS 2 0 (sS 21 (σ.1 2) (sS 0 0 σ))))) = sv (sS 21 (σ.1 2) σ) := rfl
          have rq52 : RQ9 (sv (sS 27 (-1) (sS 26 0 (sS 2 0 (sS 21 (σ.1 2) (sS 0 0 σ)))))) (-1) (σ39.1 26) (σ39.1 27) (σ.1 10) (σ.1 10) := by
            rcases gc0 with z9 | z9
            · exact (GQ1.nofl (ga4 (by omega)) ((sv_fr gb1 (by decide) (by decide)).trans (sv_fr ga1 (by decide) (by decide))) (gc5 z9)).elim
            · exact RM9.bad (by show σ.1 2 ≤ 1200; omega) rfl rfl (sv_fr ga1 (by decide) (by decide)) ((sv_fr gb1 (by decide) (by decide)).trans (sv_fr ga1 (by decide) (by decide))) (ga4 (by omega)) (gb4 (by omega)) (gc4 z9) (by omega)
          exact tm_iret rfl dX12_read_70 (⟨_, rfl, ((((((((Fr.rfl.S (by decide)).S (by decide)).S (by decide)).S (by decide)).S (by decide)).trans (Fr.sub f6 (by decide) (by decide) (by decide))).trans (Fr.sub f21 (by decide) (by decide) (by decide))).trans (Fr.sub f42 (by decide) (by decide) (by decide))), f43, rs_F f42 (by decide) (rs_F f21 (by decide) (rs_F f6 (by decide) (rs_o (by decide) (rs_o (by decide) (rs_eq))))), gc3.2.2.1, gc3.2.2.2.2, RDQ.keep hrh k3 (show Fr [0, 2, 19, 20, 21, 22, 23, 25, 26, 27, 28, 29, 30, 31, 32, 33, 34, 39, 40, 43] [3, 4, 5, 6, 7, 8, 9, 35, 36, 37, 41, 42, 45] [24, 38, 44] σ σ39 from ((((((((Fr.rfl.S (by decide)).S (by decide)).S (by decide)).S (by decide)).S (by decide)).trans (Fr.sub f6 (by decide) (by decide) (by decide))).trans (Fr.sub f21 (by decide) (by decide) (by decide))).trans (Fr.sub f42 (by decide) (by decide) (by decide)))), by rw [(show σ39.1 10 = σ.1 10 from rs_F f42 (by decide) (rs_F f21 (by decide) (rs_F f6 (by decide) (rs_o (by decide) (rs_o (by decide) (rs_o (by decide) (rs_o (by decide) (rs_o (by decide) (rfl))))))))), ← rq52s]; exact rq52, ⟨fun _ => ⟨k3, (show Fr [0, 2, 19, 20, 21, 22, 23, 25, 26, 27, 28, 29, 30, 31, 32, 33, 34, 39, 40, 43] [3, 4, 5, 6, 7, 8, 9, 35, 36, 37, 41, 42, 45] [24, 38, 44] σ σ39 from ((((((((Fr.rfl.S (by decide)).S (by decide)).S (by decide)).S (by decide)).S (by decide)).trans (Fr.sub f6 (by decide) (by decide) (by decide))).trans (Fr.sub f21 (by decide) (by decide) (by decide))).trans (Fr.sub f42 (by decide) (by decide) (by decide))))⟩, fun z => absurd rfl z⟩⟩)
      · refine tm_iconst dX12_read_52 ?_
        refine tm_goto (tgt := 57) dX12_read_53 (by decide) ?_
        refine tm_istore_n (L' := [(1, .int (iI 1)), (0, .ref b)]) dX12_read_57 rfl (by decide) rfl ?_
        refine tm_aload_n dX12_read_58 rfl 1 rfl ?_
        refine tm_getS (k := 26) (t := σ39.1 26) dX12_read_59 (by decide) fl12_252 rfl (rfl) ?_
        have g53 := RG.s f43 26
        refine tm_if_gt (tgt := 69) dX12_read_62 (by decide) ⟨by omega, by omega⟩ (fun h54 => ?_) (fun h54 => ?_)
        · refine tm_iconst dX12_read_69 ?_
          have rq55s : sv (sS 27 (-1) (sS 26 0 (sS 2 0 (sS 21 (σ.1 2) (sS 0 0 σ))))) = sv (sS 21 (σ.1 2) σ) := rfl
          have rq55 : RQ9 (sv (sS 27 (-1) (sS 26 0 (sS 2 0 (sS 21 (σ.1 2) (sS 0 0 σ)))))) (-1) (σ39.1 26) (σ39.1 27) (σ.1 10) (σ.1 10) := by
            rcases gc0 with z9 | z9
            · exact (GQ1.nofl (ga4 (by omega)) ((sv_fr gb1 (by decide) (by decide)).trans (sv_fr ga1 (by decide) (by decide))) (gc5 z9)).elim
            · exact RM9.bad (by show σ.1 2 ≤ 1200; omega) rfl rfl (sv_fr ga1 (by decide) (by decide)) ((sv_fr gb1 (by decide) (by decide)).trans (sv_fr ga1 (by decide) (by decide))) (ga4 (by omega)) (gb4 (by omega)) (gc4 z9) (by omega)
          exact tm_iret rfl dX12_read_70 (⟨_, rfl, ((((((((Fr.rfl.S (by decide)).S (by decide)).S (by decide)).S (by decide)).S (by decide)).trans (Fr.sub f6 (by decide) (by decide) (by decide))).trans (Fr.sub f21 (by decide) (by decide) (by decide))).trans (Fr.sub f42 (by decide) (by decide) (by decide))), f43, rs_F f42 (by decide) (rs_F f21 (by decide) (rs_F f6 (by decide) (rs_o (by decide) (rs_o (by decide) (rs_eq))))), gc3.2.2.1, gc3.2.2.2.2, RDQ.keep hrh k3 (show Fr [0, 2, 19, 20, 21, 22, 23, 25, 26, 27, 28, 29, 30, 31, 32, 33, 34, 39, 40, 43] [3, 4, 5, 6, 7, 8, 9, 35, 36, 37, 41, 42, 45] [24, 38, 44] σ σ39 from ((((((((Fr.rfl.S (by decide)).S (by decide)).S (by decide)).S (by decide)).S (by decide)).trans (Fr.sub f6 (by decide) (by decide) (by decide))).trans (Fr.sub f21 (by decide) (by decide) (by decide))).trans (Fr.sub f42 (by decide) (by decide) (by decide)))), by rw [(show σ39.1 10 = σ.1 10 from rs_F f42 (by decide) (rs_F f21 (by decide) (rs_F f6 (by decide) (rs_o (by decide) (rs_o (by decide) (rs_o (by decide) (rs_o (by decide) (rs_o (by decide) (rfl))))))))), ← rq55s]; exact rq55, ⟨fun _ => ⟨k3, (show Fr [0, 2, 19, 20, 21, 22, 23, 25, 26, 27, 28, 29, 30, 31, 32, 33, 34, 39, 40, 43] [3, 4, 5, 6, 7, 8, 9, 35, 36, 37, 41, 42, 45] [24, 38, 44] σ σ39 from ((((((((Fr.rfl.S (by decide)).S (by decide)).S (by decide)).S (by decide)).S (by decide)).trans (Fr.sub f6 (by decide) (by decide) (by decide))).trans (Fr.sub f21 (by decide) (by decide) (by decide))).trans (Fr.sub f42 (by decide) (by decide) (by decide))))⟩, fun z => absurd rfl z⟩⟩)
        · refine tm_iload_n dX12_read_65 rfl 0 rfl ?_
          refine tm_if_ne (tgt := 71) dX12_read_66 (by decide) ⟨by decide, by decide⟩ (fun _ => ?_) (fun h => absurd h (by decide))
          have f26 : σ39.1 26 = 0 := by have z := ((ga3.2.2.2.1.trans gb3.2.2.2.1).trans gc3.2.2.2.1).2 (show (0 : Int) ≤ 0 by decide); omega
          have f26b : σ18.1 26 = 0 := Classical.byContradiction (fun y => gc3.2.2.2.1.1 y f26)
          have svb : sv σ18 = sv σ3 := sv_fr gb1 (by decide) (by decide)
          have svc : sv σ39 = sv σ18 := sv_fr gc1 (by decide) (by decide)
          have n30 : σ39.1 30 = σ18.1 30 := GQ1.det (gb4 (by omega)) (gc4 (by omega)) svb
          obtain ⟨t1, x1, l1, es1, ⟨ra, -⟩, na, -, ea, -⟩ := gb4 (by omega)
          obtain ⟨t2, x2, l2, es2, ⟨rb, -⟩, nb, eb, -, -⟩ := gc4 (by omega)
          have ea1 := (ea rfl).1
          have ea2 := (ea rfl).2 f26b
          have n0_ := nR_0 l2
          have gk := gc3.2.1 (by decide)
          have gq2 := gc4 (by omega)
          refine tm_aload_n dX12_read_71 rfl 1 rfl ?_
          refine tm_aload_n dX12_read_72 rfl 1 rfl ?_
          refine tm_getS (k := 30) (t := σ39.1 30) dX12_read_73 (by decide) fl12_268 rfl (rfl) ?_
          have g57 := RG.s f43 30
          refine tm_putS (k := 10) (v := σ39.1 30) lay_12 dX12_read_76 (by decide) fl12_391 rfl (tyX12_ok 10 (by decide)) rfl rfl rfl ?_
          refine tm_iconst dX12_read_79 ?_
          refine tm_istore_n (L' := [(2, .int (iI 0)), (1, .int (iI 1)), (0, .ref b)]) dX12_read_80 rfl (by decide) rfl ?_
          refine tm_sub [0, 1, 2] rfl (l_rd81 (d + 64) (σ0 := (sS 10 (σ39.1 30) σ39)) (c1 := 1) (f43.S (by omega)) (show 0 ≤ σ39.1 30 ∧ σ39.1 30 ≤ 6 by have z := ea2.1; omega) (fun i64 σ65 F60 R61 f62 f63 => ?_) _ (0) (sS 10 (σ39.1 30) σ39) Fr.rfl (f43.S (by omega)) (show (0 : Int) ≤ 0 ∧ (0 : Int) ≤ σ39.1 30 by omega) (fun r a c => absurd c (by omega)) (fun r a => ⟨rfl, rfl⟩) rfl)
          show Tm _ _ 119 b σ65 [(2, .int (iI i64)), (1, .int (iI 1)), (0, .ref b)] [] _
          have la := f62
          have lb := f63
          have R119 := R61
          have fd := (show Fr [10] [11, 12] [] σ39 σ65 from ((Fr.rfl.S (by decide)).trans (Fr.sub F60 (by decide) (by decide) (by decide))))
          have d10 : σ65.1 10 = σ39.1 30 := rs_F F60 (by decide) (rs_eq)
          have svd : sv σ65 = sv σ18 := (sv_fr fd (by decide) (by decide)).trans svc
          have gen : GEN (sv σ65) σ65 := ⟨t2, x2, l2, by rw [svd]; exact rb.rc, by rw [nb, n30]; exact ea2.1, fun e he => (eb rfl f26 e he).e3 ((fd.1 43 (by decide)).trans gk.2.2.2.1) ((fd.2.2 44 (by decide)).trans gk.2.2.2.2.2.2) (by rw [ea1]; exact ea2.1) (fun v y1 y2 => by rw [(la v y1 (by show v < σ39.1 30; omega)).2]; show σ39.2.1 36 v = _; rw [gk.2.2.1]; exact (ea2.2 v y1 (by omega)).1.symm)⟩
          have nnd : NN σ65 := gc3.2.2.1.fr fd (by decide)
          have h43d : 0 ≤ σ65.1 43 ∧ σ65.1 43 ≤ 260 := by rw [fd.1 43 (by decide)]; exact gc3.2.2.2.2
          have e21d : σ65.1 21 = σ.1 2 := (fd.1 21 (by decide)).trans e213
          refine tm_aload_n dX12_read_119 rfl 2 rfl ?_
          refine tm_iconst dX12_read_120 ?_
          refine tm_callV (M := m_X12_read) (pc := 121) (ix := 388) (M' := m_X12_goOver) (As := [.int (iI 3)]) (rest := []) dX12_read_121 ok_X12_goOver im_X12_goOver se_X12_goOver ml12_388 np_X12_goOver rfl rfl (Nat.le_of_ble_eq_true rfl) (Nat.le_of_ble_eq_true rfl) rfl (c_X12_goOver (d) (σ := σ65) (w := 3) R119 (by decide) (by rw [e21d]; omega) nnd h43d (fun _ => gen)) (fun r66 σ67 hp => ?_)
          obtain ⟨v68, rfl, f69, f70, f71, f72, f73, f74⟩ := hp
          show Tm _ _ 124 b σ67 [(2, .int (iI i64)), (1, .int (iI 1)), (0, .ref b)] [.int (iI v68)] _
          have gd0 := f69
          have gd1 := f70
          have gd2 := f71
          have gd3 := f72
          have gd4 := f73
          have gd5 := f74
          have vd : v68 = 1 := by
            rcases gd0 with z | z
            · obtain ⟨t, x, l, r1, r2, r3⟩ := gen
              exact absurd (show ([999] : List Nat) = [] from congrArg Prod.fst (RCm.det (gd5 z).rc r1 (stp_pF _) rfl)) (by decide)
            · exact z
          have gq4 := gd4 vd
          have gq4c := gd4 vd
          have n304 : σ67.1 30 = σ39.1 30 := GQ1.det gq2 gq4 svd
          obtain ⟨t4, x4, l4, es4, ⟨rd_, -⟩, nd, -, -, ed, gm3⟩ := gq4
          have ed1 := (ed rfl).1
          have ed2 := (ed rfl).2
          have e104 : σ67.1 10 = σ67.1 30 := by rw [gd1.1 10 (by decide), d10, n304]
          have gk4 := gd3.2.1 (by decide)
          have R125 := f71
          refine tm_istore_n (L' := [(1, .int (iI v68)), (2, .int (iI i64)), (0, .ref b)]) dX12_read_124 rfl (by decide) rfl ?_
          refine tm_iconst dX12_read_125 ?_
          refine tm_istore_n (L' := [(2, .int (iI 0)), (1, .int (iI v68)), (0, .ref b)]) dX12_read_126 rfl (by decide) rfl ?_
          refine tm_sub [0, 1, 2] rfl (l_rd127 (d + 62) (σ0 := σ67) (c1 := v68) f71 (by have z := ea2.1; omega) (fun r a c => ed1 r a (by omega)) (fun r84 σ85 F77 R78 f79 f80 f81 f82 f83 => ?_) _ (0) σ67 Fr.rfl f71 (by have z := ea2.1; omega) (fun j a c => absurd c (by omega)) (fun x a => ⟨rfl, rfl, rfl, rfl, fun _ _ _ => ⟨rfl, rfl⟩⟩) (fun j a => rfl) (fun j a e => by by_cases z : j < σ67.1 30; have q := (ed1 j a z).1; omega; rw [ed2 j (by omega), show σ65.2.1 9 = _ from (fd.2.1 9 (by decide)).trans k3.2]; exact hrh.2.2.1 j a e) (fun j a c => absurd c (by omega)) rfl)
          show Tm _ _ 269 b σ85 [(2, .int (iI r84)), (1, .int (iI v68)), (0, .ref b)] [] _
          have lr4 := f83
          have lr0 := f79
          have lr1 := f80
          have lr2 := f81
          have lr3 := f82
          have R269 := R78
          have e43f : σ85.1 43 = σ85.1 10 := by rw [F77.1 43 (by decide), F77.1 10 (by decide), gk4.2.2.2.1, fd.1 43 (by decide), gk.2.2.2.1, e104, n304, n30]; exact ea1
          have e10f : σ85.1 10 = σ67.1 30 := by rw [F77.1 10 (by decide)]; exact e104
          have e11f : σ85.2.1 11 = σ65.2.1 11 := (F77.2.1 11 (by decide)).trans (gd1.2.1 11 (by decide))
          have e12f : σ85.2.1 12 = σ65.2.1 12 := (F77.2.1 12 (by decide)).trans (gd1.2.1 12 (by decide))
          have tab : ∀ r, 0 ≤ r → r < σ85.1 10 → σ85.2.1 12 r = σ18.2.1 35 r ∧ σ85.2.1 11 r = σ18.2.1 36 r := fun r a b => by rw [e11f, e12f, (la r a (by show r < σ39.1 30; omega)).1, (la r a (by show r < σ39.1 30; omega)).2]; exact ⟨congrFun gk.1 r, congrFun gk.2.2.1 r⟩
          have hN : 0 ≤ σ85.1 10 ∧ σ85.1 10 ≤ 6 := by have z := ea2.1; omega
          have nnb := gb3.2.2.1
          have plr : ∀ r, 0 ≤ r → r < σ85.1 10 → PLI σ85 r := fun r a b => (ed1 r a (by omega)).mv (fun k y1 y2 => lr1 _ (by omega)) (lr2 r (by omega)) (F77.1 43 (by decide)) (F77.2.1 11 (by decide))
          have dnr : ∀ r, 0 ≤ r → r < σ85.1 10 → DNR σ85 r := fun r a b => lr0 r a (by rw [← F77.1 10 (by decide)]; exact b)
          have gdf : GDA σ85 := ⟨hN, fun r a b => GDR.plain (plr r a b) (dnr r a b) ⟨a, by omega⟩ e43f (by rw [(tab r a b).1]; exact nnb r a (by omega)) (by rw [(tab r a b).1, (tab r a b).2]; exact (ea2.2 r a (by omega)).2.2)⟩
          have plf : PLA σ85 := ⟨⟨hN, fun r a b => (BKG.plain (plr r a b) (dnr r a b) ⟨a, by omega⟩ e43f).1⟩, fun r a b => (BKG.plain (plr r a b) (dnr r a b) ⟨a, by omega⟩ e43f).2⟩
          have nnf : NN σ85 := gd3.2.2.1.fr F77 (by decide)
          have h43f : 0 ≤ σ85.1 43 ∧ σ85.1 43 ≤ 260 := by rw [F77.1 43 (by decide)]; exact gd3.2.2.2.2
          have f0d : ∀ r, σ65.2.1 10 r = σ65.2.1 10 r := fun _ => rfl
          have o11 : ∀ r, σ85.1 10 ≤ r → σ85.2.1 11 r = σ.2.1 11 r ∧ σ85.2.1 12 r = σ.2.1 12 r := fun r a => by rw [e11f, e12f, (lb r (by show σ39.1 30 ≤ r; omega)).1, (lb r (by show σ39.1 30 ≤ r; omega)).2]; exact ⟨congrFun ((gc1.2.1 11 (by decide)).trans ((gb1.2.1 11 (by decide)).trans (ga1.2.1 11 (by decide)))) r, congrFun ((gc1.2.1 12 (by decide)).trans ((gb1.2.1 12 (by decide)).trans (ga1.2.1 12 (by decide)))) r⟩
          have parf : PAR σ85 := fun r a b => by by_cases z : r < σ85.1 10; rw [(tab r a z).2]; exact (ea2.2 r a (by omega)).2.1; rw [(o11 r (by omega)).1]; exact hrh.2.2.2.1 r a b
          have namf : NAM σ85 := fun r a b => by by_cases z : r < σ85.1 10; rw [(tab r a z).1]; exact nnb r a b; rw [(o11 r (by omega)).2]; exact hrh.2.2.2.2.1 r a b
          have bof : BO 48 σ85 := hrh.2.2.2.2.2.fr (show Fr [0, 2, 10, 19, 20, 21, 22, 23, 25, 26, 27, 28, 29, 30, 31, 32, 33, 34, 39, 40, 43, 67] [3, 4, 5, 6, 7, 8, 9, 11, 12, 13, 14, 15, 16, 17, 18, 35, 36, 37, 41, 42, 45] [24, 38, 44] σ σ85 from ((((((((((((Fr.rfl.S (by decide)).S (by decide)).S (by decide)).S (by decide)).S (by decide)).trans (Fr.sub f6 (by decide) (by decide) (by decide))).trans (Fr.sub f21 (by decide) (by decide) (by decide))).trans (Fr.sub f42 (by decide) (by decide) (by decide))).S (by decide)).trans (Fr.sub F60 (by decide) (by decide) (by decide))).trans (Fr.sub f70 (by decide) (by decide) (by decide))).trans (Fr.sub F77 (by decide) (by decide) (by decide)))) (by decide)
          refine tm_iconst dX12_read_269 ?_
          refine tm_istore_n (L' := [(2, .int (iI 0)), (1, .int (iI v68)), (0, .ref b)]) dX12_read_270 rfl (by decide) rfl ?_
          refine tm_sub [0, 1, 2] rfl (l_rd271 (d + 64) (σ0 := σ85) (c1 := v68) R78 (fun i91 σ92 F88 R89 f90 => ?_) _ (0) σ85 Fr.rfl R78 (by omega) bof rfl)
          show Tm _ _ 290 b σ92 [(2, .int (iI i91)), (1, .int (iI v68)), (0, .ref b)] [] _
          have hbz := f90
          refine tm_aload_n dX12_read_290 rfl 2 rfl ?_
          refine tm_iconst dX12_read_291 ?_
          refine tm_putS (k := 67) (v := 0) lay_12 dX12_read_292 (by decide) fl12_397 rfl (tyX12_ok 67 (by decide)) rfl rfl rfl ?_
          refine tm_aload_n dX12_read_295 rfl 2 rfl ?_
          refine tm_getS (k := 10) (t := σ39.1 30) dX12_read_296 (by decide) fl12_391 rfl (rs_o (by decide) (rs_F F88 (by decide) (rs_F F77 (by decide) (rs_F f70 (by decide) (rs_F F60 (by decide) (rs_eq)))))) ?_
          have fz := (show Fr [67] [48] [] σ85 (sS 67 0 σ92) from ((Fr.rfl.trans (Fr.sub F88 (by decide) (by decide) (by decide))).S (by decide)))
          have nnz : NN (sS 67 0 σ92) := nnf.fr fz (by decide)
          have gdz : GDA (sS 67 0 σ92) := gdf.fr fz (by decide) (by decide)
          have plz : PLA (sS 67 0 σ92) := plf.fr fz (by decide) (by decide)
          have boz : BO 48 (sS 67 0 σ92) := hbz
          have rq93 : RQ9 (sv (sS 27 (-1) (sS 26 0 (sS 2 0 (sS 21 (σ.1 2) (sS 0 0 σ)))))) (σ39.1 30) (σ39.1 26) (σ39.1 27) (σ.1 10) (σ39.1 30) := RM9.good (by show σ.1 2 ≤ 1200; omega) rfl rfl (sv_fr ga1 (by decide) (by decide)) ((sv_fr gb1 (by decide) (by decide)).trans (sv_fr ga1 (by decide) (by decide))) (ga4 (by omega)) (gb4 (by omega)) gq2 f26 rfl (by have z := ea2.1; omega) rfl
          have rq93s : sv (sS 27 (-1) (sS 26 0 (sS 2 0 (sS 21 (σ.1 2) (sS 0 0 σ))))) = sv (sS 21 (σ.1 2) σ) := rfl
          have rq930 : (sS 67 0 σ92).1 10 = σ39.1 30 := rs_o (by decide) (rs_F F88 (by decide) (rs_F F77 (by decide) (rs_F f70 (by decide) (rs_F F60 (by decide) (rs_eq)))))
          have rq93t : σ67.1 26 = σ65.1 26 ∧ σ67.1 27 = σ65.1 27 := RM9.three gq2 gq4c svd f26 ((fd.2.1 35 (by decide)).trans gk.1) ((fd.2.2 38 (by decide)).trans gk.2.1)
          have rq936 : (sS 67 0 σ92).1 26 = σ39.1 26 := (show (sS 67 0 σ92).1 26 = σ67.1 26 from rs_o (by decide) (rs_F F88 (by decide) (rs_F F77 (by decide) (rfl)))).trans (rq93t.1.trans (fd.1 26 (by decide)))
          have rq937 : (sS 67 0 σ92).1 27 = σ39.1 27 := (show (sS 67 0 σ92).1 27 = σ67.1 27 from rs_o (by decide) (rs_F F88 (by decide) (rs_F F77 (by decide) (rfl)))).trans (rq93t.2.trans (fd.1 27 (by decide)))
          exact tm_iret rfl dX12_read_299 (⟨_, rfl, ((((((((((((((Fr.rfl.S (by decide)).S (by decide)).S (by decide)).S (by decide)).S (by decide)).trans (Fr.sub f6 (by decide) (by decide) (by decide))).trans (Fr.sub f21 (by decide) (by decide) (by decide))).trans (Fr.sub f42 (by decide) (by decide) (by decide))).S (by decide)).trans (Fr.sub F60 (by decide) (by decide) (by decide))).trans (Fr.sub f70 (by decide) (by decide) (by decide))).trans (Fr.sub F77 (by decide) (by decide) (by decide))).trans (Fr.sub F88 (by decide) (by decide) (by decide))).S (by decide)), (R89.S (by omega)), rs_o (by decide) (rs_F F88 (by decide) (rs_F F77 (by decide) (rs_F f70 (by decide) (rs_F F60 (by decide) (rs_o (by decide) (rs_F f42 (by decide) (rs_F f21 (by decide) (rs_F f6 (by decide) (rs_o (by decide) (rs_o (by decide) (rs_eq))))))))))), nnz, by rw [fz.1 43 (by decide)]; exact h43f, ⟨gdz, plz, fun r a c => by rw [fz.2.1 9 (by decide)]; exact lr3 r a c, fun r a c => by rw [fz.2.1 11 (by decide)]; exact parf r a c, fun r a c => by rw [fz.2.1 12 (by decide)]; exact namf r a c, boz, Or.inl rs_eq⟩, (by rw [rq930, rq936, rq937, ← rq93s]; exact rq93), ⟨fun z => absurd z (by omega), fun _ => ⟨MDE.mk (d := σ65) (e := σ67) (τ := (sS 67 0 σ92)) (gm3 rfl) ((svd.trans ((sv_fr gb1 (by decide) (by decide)).trans (sv_fr ga1 (by decide) (by decide)))).trans rfl) ((fz.1 10 (by decide)).trans e10f) (by omega) (fun j y => (congrFun (fz.2.1 9 (by decide)) j).trans (lr2 j y)) (fun r y1 y2 => by have z := (ed1 r y1 y2).1; omega) (fun x y => (lr1 x y).trans (IEQ.of fz (by decide))) ((fz.2.1 35 (by decide)).trans ((F77.2.1 35 (by decide)).trans gk4.1)) ((fz.2.2 38 (by decide)).trans ((F77.2.2 38 (by decide)).trans gk4.2.1)) ((fz.1 43 (by decide)).trans ((F77.1 43 (by decide)).trans gk4.2.2.2.1)) ((fz.2.2 44 (by decide)).trans ((F77.2.2 44 (by decide)).trans gk4.2.2.2.2.2.2)) (fun r y1 y2 => by have z := lr4 r y1 (by have z7 := fz.1 10 (by decide); have z6 := F77.1 10 (by decide); omega); unfold DN2 at *; rw [fz.2.1 13 (by decide), fz.2.1 17 (by decide)]; exact z) (fun r y1 y2 => (dnr r y1 (by have z7 := fz.1 10 (by decide); omega)).fr9 fz (by decide)) (fun r y1 y2 => by rw [fz.2.1 12 (by decide), fz.2.1 11 (by decide), fz.2.1 35 (by decide), fz.2.1 36 (by decide), F77.2.1 35 (by decide), F77.2.1 36 (by decide), gk4.1, gk4.2.2.1, fd.2.1 35 (by decide), fd.2.1 36 (by decide), e11f, e12f]; exact la r y1 (by show r < σ39.1 30; have z8 : (sS 67 0 σ92).1 10 = _ := (fz.1 10 (by decide)).trans e10f; omega)) (TBQ.mk (gb4 (by omega)) ((sv_fr ga1 (by decide) (by decide)).trans rfl) (((fz.2.1 35 (by decide)).trans ((F77.2.1 35 (by decide)).trans gk4.1)).trans ((fd.2.1 35 (by decide)).trans gk.1)) (((fz.2.2 38 (by decide)).trans ((F77.2.2 38 (by decide)).trans gk4.2.1)).trans ((fd.2.2 38 (by decide)).trans gk.2.1)) (((fz.1 43 (by decide)).trans ((F77.1 43 (by decide)).trans gk4.2.2.2.1)).trans ((fd.1 43 (by decide)).trans gk.2.2.2.1)) (((fz.2.2 44 (by decide)).trans ((F77.2.2 44 (by decide)).trans gk4.2.2.2.2.2.2)).trans ((fd.2.2 44 (by decide)).trans gk.2.2.2.2.2.2)) (fun r y1 y2 => by have z8 : (sS 67 0 σ92).1 10 = _ := (fz.1 10 (by decide)).trans e10f; rw [fz.2.1 11 (by decide), (tab r y1 (by have z7 := fz.1 10 (by decide); omega)).2]; exact (ea2.2 r y1 (by omega)).1.symm)), rs_eq⟩⟩⟩)
end
section
def lrnF (i : It) (K : KN) : KN := fun g => if g = i 1 then (if i 0 = 0 ∧ ¬ (i 3 = 2 ∧ i 4 = i 1) ∧ i 3 ≠ 0 then (i 3, i 4) else (0, 0)) else if K g = (2, i 1) then (0, 0) else K g
noncomputable def lrn (i : It) (K : KN) : KN := dI (i 0 ≤ 5 ∨ i 0 = 10) (lrnF i K) K
def foO (K : KN) (i : It) (m : Int) : It := fun c => if 3 ≤ c ∧ c < 3 + 2 * m ∧ i (3 + 2 * ((c - 3) / 2)) = 2 ∧ (K (i (4 + 2 * ((c - 3) / 2)))).1 ≠ 0 then (if (c - 3) % 2 = 0 then (K (i (4 + 2 * ((c - 3) / 2)))).1 else (K (i (4 + 2 * ((c - 3) / 2)))).2) else i c
def foC (K : KN) (i : It) (m : Int) : Prop := ∃ j, 0 ≤ j ∧ j < m ∧ i (3 + 2 * j) = 2 ∧ (K (i (4 + 2 * j))).1 ≠ 0
def cpyI (i : It) (k v : Int) : It := uZ (uZ (uZ (uZ (uZ i 0 0) 3 k) 4 v) 5 0) 6 0
def w32 (z : Int) : Int := (iI z).toInt
def wkd (k a b : Int) : Int := if k = 1 then w32 (a + b) else if k = 2 then w32 (a - b) else if k = 3 then w32 (a * b) else if k = 4 then (if a = b then 1 else 0) else (if a < b then 1 else 0)
def five2 (i : It) : Prop := 1 ≤ i 0 ∧ i 0 ≤ 5 ∧ i 3 = 1 ∧ i 5 = 1
noncomputable def foA (i : It) : It := dI (five2 i) (cpyI i 1 (wkd (i 0) (i 4) (i 6))) i
def zer1 (i : It) : Prop := i 0 = 9 ∧ i 3 = 1
noncomputable def foZ (i : It) : It := dI (zer1 i) (uZ (uZ (uZ i 0 8) 3 0) 4 0) i
noncomputable def foB (K : KN) (i : It) : It := dI (i 11 = 2 ∧ (K (i 4)).1 = 1) (uZ (uZ (uZ i 11 1) 3 1) 4 (K (i 4)).2) i
abbrev FOT : Type := KN × Int × Int × (Int → It)
noncomputable def foX (s : FOT) (i : It) : FOT :=
  (lrn (foZ (foA (foO s.1 i 4))) s.1,
   dI (zer1 (foA (foO s.1 i 4)) ∧ foA (foO s.1 i 4) 4 ≠ 0) s.2.1 (s.2.1 + 1),
   dI (foC s.1 i 4 ∨ five2 (foO s.1 i 4) ∨ zer1 (foA (foO s.1 i 4))) (s.2.2.1 + 1) s.2.2.1,
   dI (zer1 (foA (foO s.1 i 4)) ∧ foA (foO s.1 i 4) 4 ≠ 0) s.2.2.2 (uZ s.2.2.2 s.2.1 (foZ (foA (foO s.1 i 4)))))
noncomputable def foT (s : FOT) (i : It) : FOT :=
  if i 0 = 13 then (fun _ => (0, 0), s.2.1 + 1, s.2.2.1, uZ s.2.2.2 s.2.1 i)
  else if i 0 = 12 then (s.1, s.2.1 + 1, s.2.2.1, uZ s.2.2.2 s.2.1 (foB s.1 i))
  else if i 0 ≤ 10 then foX s i
  else (s.1, s.2.1 + 1, s.2.2.1, uZ s.2.2.2 s.2.1 i)
noncomputable def foS (V : Int → It) : Nat → FOT
  | 0 => (fun _ => (0, 0), 0, 0, fun _ => zI)
  | n + 1 => foT (foS V n) (V n)
theorem foS_s {V : Int → It} {k : Int} (h : 0 ≤ k) : foS V (k + 1).toNat = foT (foS V k.toNat) (V k) := by
  rw [show (k + 1).toNat = k.toNat + 1 by omega]
  show foT (foS V k.toNat) (V ((k.toNat : Nat) : Int)) = _
  rw [show ((k.toNat : Nat) : Int) = k by omega]
section FOO
variable {K : KN} {i : It} {m : Int}
theorem foO_0 : foO K i 0 = i := by
  funext c
  exact if_neg (by omega)
theorem foO_k (h : 0 ≤ m) : foO K i m (3 + 2 * m) = i (3 + 2 * m) := if_neg (by omega)
theorem foO_n (h : 0 ≤ m) : foO K i m (4 + 2 * m) = i (4 + 2 * m) := if_neg (by omega)
theorem foO_y (h0 : 0 ≤ m) (h : i (3 + 2 * m) = 2) (hk : (K (i (4 + 2 * m))).1 ≠ 0) : foO K i (m + 1) = uZ (uZ (foO K i m) (3 + 2 * m) (K (i (4 + 2 * m))).1) (4 + 2 * m) (K (i (4 + 2 * m))).2 := by
  funext c
  by_cases e : c = 4 + 2 * m
  · rw [e, uZ_eq]
    unfold foO
    rw [show (4 + 2 * m - 3) / 2 = m by omega, if_pos ⟨by omega, by omega, h, hk⟩, if_neg (by omega)]
  · rw [uZ_ne e]
    by_cases e2 : c = 3 + 2 * m
    · rw [e2, uZ_eq]
      unfold foO
      rw [show (3 + 2 * m - 3) / 2 = m by omega, if_pos ⟨by omega, by omega, h, hk⟩, if_pos (by omega)]
    · rw [uZ_ne e2]
      unfold foO
      by_cases q : 3 ≤ c ∧ c < 3 + 2 * m
      · by_cases w : i (3 + 2 * ((c - 3) / 2)) = 2 ∧ (K (i (4 + 2 * ((c - 3) / 2)))).1 ≠ 0
        · exact (if_pos ⟨q.1, by omega, w.1, w.2⟩).trans (if_pos ⟨q.1, q.2, w.1, w.2⟩).symm
        · rw [if_neg (fun z => w ⟨z.2.2.1, z.2.2.2⟩), if_neg (fun z => w ⟨z.2.2.1, z.2.2.2⟩)]
      · rw [if_neg (fun z => by omega), if_neg (fun z => q ⟨z.1, z.2.1⟩)]
theorem foO_no (h0 : 0 ≤ m) (h : ¬ (i (3 + 2 * m) = 2 ∧ (K (i (4 + 2 * m))).1 ≠ 0)) : foO K i (m + 1) = foO K i m := by
  funext c
  unfold foO
  by_cases q : 3 ≤ c ∧ c < 3 + 2 * m
  · by_cases w : i (3 + 2 * ((c - 3) / 2)) = 2 ∧ (K (i (4 + 2 * ((c - 3) / 2)))).1 ≠ 0
    · exact (if_pos ⟨q.1, by omega, w.1, w.2⟩).trans (if_pos ⟨q.1, q.2, w.1, w.2⟩).symm
    · rw [if_neg (fun z => w ⟨z.2.2.1, z.2.2.2⟩), if_neg (fun z => w ⟨z.2.2.1, z.2.2.2⟩)]
  · rw [if_neg (fun z => ?_), if_neg (fun z => q ⟨z.1, z.2.1⟩)]
    obtain ⟨z1, z2, z3, z4⟩ := z
    have e : (c - 3) / 2 = m := by omega
    rw [e] at z3 z4
    exact h ⟨z3, z4⟩
theorem foC_s : foC K i (m + 1) ↔ foC K i m ∨ (0 ≤ m ∧ i (3 + 2 * m) = 2 ∧ (K (i (4 + 2 * m))).1 ≠ 0) := by
  constructor
  · rintro ⟨j, a, b, c, e⟩
    by_cases q : j = m
    · subst q; exact Or.inr ⟨a, c, e⟩
    · exact Or.inl ⟨j, a, by omega, c, e⟩
  · rintro (⟨j, a, b, c, e⟩ | ⟨a, c, e⟩)
    · exact ⟨j, a, by omega, c, e⟩
    · exact ⟨m, a, by omega, c, e⟩
theorem foC_0 : ¬ foC K i 0 := fun ⟨j, a, b, _⟩ => by omega
theorem foO_up {n : Nat} (h0 : 0 ≤ m) (h : ∀ j, m ≤ j → j < m + n → i (3 + 2 * j) ≠ 2) : foO K i (m + n) = foO K i m ∧ (foC K i (m + n) ↔ foC K i m) := by
  induction n with
  | zero => exact ⟨by rw [show m + ((0 : Nat) : Int) = m by omega], by rw [show m + ((0 : Nat) : Int) = m by omega]⟩
  | succ n ih =>
    have q := ih (fun j a b => h j a (by omega))
    have w : i (3 + 2 * (m + n)) ≠ 2 := h (m + n) (by omega) (by omega)
    rw [show m + ((n + 1 : Nat) : Int) = (m + n) + 1 by omega]
    exact ⟨(foO_no (by omega) (fun z => w z.1)).trans q.1, foC_s.trans ⟨fun z => z.elim q.2.mp (fun z => absurd z.2.1 w), fun z => Or.inl (q.2.mpr z)⟩⟩
theorem foO_4 (h0 : 0 ≤ m) (h4 : m ≤ 4) (h : ∀ j, m ≤ j → j < 4 → i (3 + 2 * j) ≠ 2) : foO K i 4 = foO K i m ∧ (foC K i 4 ↔ foC K i m) := by
  have q := foO_up (K := K) (i := i) (m := m) (n := (4 - m).toNat) h0 (fun j a b => h j a (by omega))
  rw [show m + (((4 - m).toNat : Nat) : Int) = 4 by omega] at q
  exact q
end FOO
def knA (σ : MS) : KN := fun g => if 0 ≤ g ∧ g < 192 ∧ σ.2.1 60 g ≠ 0 then (σ.2.1 60 g, σ.2.1 61 g) else (0, 0)
section KNA
variable {σ τ : MS} {g : Int}
theorem Fr.kn {ss ks js : List Nat} (f : Fr ss ks js σ τ) (h : ∀ k ∈ [60, 61], k ∉ ks) : knA τ = knA σ := by
  funext g
  unfold knA
  rw [f.2.1 60 (h 60 (by decide)), f.2.1 61 (h 61 (by decide))]
theorem kn_1 (h0 : 0 ≤ g) (h1 : g < 192) : (knA σ g).1 = σ.2.1 60 g := by
  unfold knA
  by_cases e : σ.2.1 60 g = 0
  · rw [if_neg (fun z => z.2.2 e)]; exact e.symm
  · rw [if_pos ⟨h0, h1, e⟩]
theorem kn_2 (h0 : 0 ≤ g) (h1 : g < 192) (h : σ.2.1 60 g ≠ 0) : (knA σ g).2 = σ.2.1 61 g := by
  unfold knA
  rw [if_pos ⟨h0, h1, h⟩]
theorem kn_z (h : ∀ g, 0 ≤ g → g < 192 → σ.2.1 60 g = 0) : knA σ = fun _ => (0, 0) := by
  funext g
  exact if_neg (fun z => z.2.2 (h g z.1 z.2.1))
def LNG (σ0 σ : MS) (w g : Int) : Prop := ∀ j, 0 ≤ j → j < 192 → σ.2.1 60 j = (if j < g ∧ σ0.2.1 60 j = 2 ∧ σ0.2.1 61 j = w then 0 else σ0.2.1 60 j)
theorem LNG.put {σ0 : MS} {w v : Int} (h : LNG σ0 σ w g) (h0 : 0 ≤ g ∧ g < 192) (hv : (σ.2.1 60 g = 2 ∧ σ0.2.1 61 g = w → v = 0) ∧ (¬ (σ.2.1 60 g = 2 ∧ σ0.2.1 61 g = w) → v = σ.2.1 60 g)) : LNG σ0 (sA 60 g v σ) w (g + 1) := fun j a b => by
  have hg := h g h0.1 h0.2
  rw [if_neg (by omega)] at hg
  by_cases e : j = g
  · subst e
    rw [show (sA 60 j v σ).2.1 60 j = v from ra_eq]
    by_cases q : σ0.2.1 60 j = 2 ∧ σ0.2.1 61 j = w
    · rw [if_pos ⟨by omega, q⟩]; exact hv.1 ⟨by omega, q.2⟩
    · rw [if_neg (fun z => q z.2)]; rw [hv.2 (fun z => q ⟨by omega, z.2⟩)]; exact hg
  · rw [show (sA 60 g v σ).2.1 60 j = σ.2.1 60 j from ra_ne e rfl, h j a b]
    by_cases q : j < g ∧ σ0.2.1 60 j = 2 ∧ σ0.2.1 61 j = w
    · rw [if_pos q, if_pos ⟨by omega, q.2⟩]
    · rw [if_neg q, if_neg (fun z => q ⟨by omega, z.2⟩)]
theorem LNG.start {σ0 : MS} {w : Int} : LNG σ0 σ0 w 0 := fun j a b => by rw [if_neg (by omega)]
theorem lrn_no {x : Int} (h : ¬ (σ.2.1 3 x ≤ 5 ∨ σ.2.1 3 x = 10)) : knA σ = lrn (rI σ x) (knA σ) := by
  unfold lrn
  rw [dI_n (show ¬ (rI σ x 0 ≤ 5 ∨ rI σ x 0 = 10) from h)]
theorem lrn_fg {x w : Int} (hl : LNG (sA 60 w 0 σ) τ w 192) (h61 : τ.2.1 61 = σ.2.1 61) (hw : (σ.2.1 3 x ≤ 5 ∨ σ.2.1 3 x = 10) ∧ σ.2.1 4 x = w ∧ 0 ≤ w ∧ w < 192) {j : Int} (hj : j ≠ w) : knA τ j = lrn (rI σ x) (knA σ) j := by
  unfold lrn
  rw [dI_y (show rI σ x 0 ≤ 5 ∨ rI σ x 0 = 10 from hw.1)]
  unfold lrnF
  rw [ri1, hw.2.1, if_neg hj]
  unfold knA
  by_cases b : 0 ≤ j ∧ j < 192
  · have q := hl j b.1 b.2
    rw [show (sA 60 w 0 σ).2.1 60 j = σ.2.1 60 j from ra_ne hj rfl, show (sA 60 w 0 σ).2.1 61 j = σ.2.1 61 j from rfl] at q
    rw [q, h61]
    by_cases z : σ.2.1 60 j = 0
    · rw [if_neg (show ¬ (j < 192 ∧ σ.2.1 60 j = 2 ∧ σ.2.1 61 j = w) by omega), if_neg (show ¬ (0 ≤ j ∧ j < 192 ∧ σ.2.1 60 j ≠ 0) from fun y => y.2.2 z), if_neg (show ¬ ((0, 0) : Int × Int) = (2, w) from fun y => by injection y with y1 y2; omega)]
    · rw [if_pos (show 0 ≤ j ∧ j < 192 ∧ σ.2.1 60 j ≠ 0 from ⟨b.1, b.2, z⟩)]
      by_cases p : σ.2.1 60 j = 2 ∧ σ.2.1 61 j = w
      · rw [if_pos (show j < 192 ∧ σ.2.1 60 j = 2 ∧ σ.2.1 61 j = w from ⟨b.2, p⟩), if_neg (by simp), if_pos (show (σ.2.1 60 j, σ.2.1 61 j) = (2, w) by rw [p.1, p.2])]
      · rw [if_neg (show ¬ (j < 192 ∧ σ.2.1 60 j = 2 ∧ σ.2.1 61 j = w) from fun y => p y.2), if_pos (show 0 ≤ j ∧ j < 192 ∧ σ.2.1 60 j ≠ 0 from ⟨b.1, b.2, z⟩), if_neg (fun y => p (by injection y with y1 y2; exact ⟨y1, y2⟩))]
  · rw [if_neg (fun y => b ⟨y.1, y.2.1⟩), if_neg (show ¬ (0 ≤ j ∧ j < 192 ∧ σ.2.1 60 j ≠ 0) from fun y => b ⟨y.1, y.2.1⟩), if_neg (show ¬ ((0, 0) : Int × Int) = (2, w) from fun y => by injection y with y1 y2; omega)]
theorem lrn_w0 {x w : Int} (hl : LNG (sA 60 w 0 σ) τ w 192) (h61 : τ.2.1 61 = σ.2.1 61) (hw : (σ.2.1 3 x ≤ 5 ∨ σ.2.1 3 x = 10) ∧ σ.2.1 4 x = w ∧ 0 ≤ w ∧ w < 192) (hn : ¬ (σ.2.1 3 x = 0 ∧ ¬ (σ.2.1 7 (4 * x) = 2 ∧ σ.2.1 8 (4 * x) = w))) : knA τ = lrn (rI σ x) (knA σ) := by
  funext j
  by_cases e : j = w
  · have q := hl w hw.2.2.1 hw.2.2.2
    rw [show (sA 60 w 0 σ).2.1 60 w = 0 from ra_eq, if_neg (by omega)] at q
    unfold lrn
    rw [dI_y (show rI σ x 0 ≤ 5 ∨ rI σ x 0 = 10 from hw.1)]
    unfold lrnF
    rw [ri0, ri1, ri3, ri4, hw.2.1, if_pos e, e, Int.add_zero]
    unfold knA
    rw [if_neg (fun y => y.2.2 q), if_neg (fun y => hn ⟨y.1, y.2.1⟩)]
  · exact lrn_fg hl h61 hw e
theorem lrn_kv {x w k v : Int} (hl : LNG (sA 60 w 0 σ) τ w 192) (h61 : τ.2.1 61 = σ.2.1 61) (hw : (σ.2.1 3 x ≤ 5 ∨ σ.2.1 3 x = 10) ∧ σ.2.1 4 x = w ∧ 0 ≤ w ∧ w < 192) (hc : σ.2.1 3 x = 0) (hk : σ.2.1 7 (4 * x) = k ∧ σ.2.1 8 (4 * x) = v) (hn : ¬ (k = 2 ∧ v = w)) : knA (sA 61 w v (sA 60 w k τ)) = lrn (rI σ x) (knA σ) := by
  funext j
  by_cases e : j = w
  · unfold lrn
    rw [dI_y (show rI σ x 0 ≤ 5 ∨ rI σ x 0 = 10 from hw.1)]
    unfold lrnF
    rw [ri0, ri1, ri3, ri4, hw.2.1, if_pos e, e, Int.add_zero, hk.1, hk.2]
    unfold knA
    rw [show (sA 61 w v (sA 60 w k τ)).2.1 60 w = k from ra_o (by decide) ra_eq, show (sA 61 w v (sA 60 w k τ)).2.1 61 w = v from ra_eq]
    by_cases q : k = 0
    · rw [if_neg (fun y => y.2.2 q), if_neg (fun y => y.2.2 q)]
    · rw [if_pos ⟨hw.2.2.1, hw.2.2.2, q⟩, if_pos ⟨hc, hn, q⟩]
  · rw [← lrn_fg hl h61 hw e]
    unfold knA
    rw [show (sA 61 w v (sA 60 w k τ)).2.1 60 j = τ.2.1 60 j from ra_o (by decide) (ra_ne e rfl), show (sA 61 w v (sA 60 w k τ)).2.1 61 j = τ.2.1 61 j from ra_ne e rfl]
end KNA
end
section
section PI
variable {σ0 σ : MS} {K : KN} {x i w : Int}
theorem foO_hk {t : It} {m j : Int} (h : m ≤ j) (h2 : 0 ≤ m) : foO K t m (3 + 2 * j) = t (3 + 2 * j) := if_neg (by omega)
theorem foO_hn {t : It} {m j : Int} (h : m ≤ j) (h2 : 0 ≤ m) : foO K t m (4 + 2 * j) = t (4 + 2 * j) := if_neg (by omega)
theorem pi_at (h : rI σ x = foO K (rI σ0 x) i) (h0 : 0 ≤ i) {j : Int} (a : i ≤ j) (b : j < 4) : rI σ0 x (3 + 2 * j) = σ.2.1 7 (4 * x + j) ∧ rI σ0 x (4 + 2 * j) = σ.2.1 8 (4 * x + j) := by
  have e1 := congrFun h (3 + 2 * j)
  have e2 := congrFun h (4 + 2 * j)
  rw [foO_hk a h0, riK (by omega) b] at e1
  rw [foO_hn a h0, riN (by omega) b] at e2
  exact ⟨e1.symm, e2.symm⟩
theorem pi_no (h : rI σ x = foO K (rI σ0 x) i ∧ (w = 1 ↔ foC K (rI σ0 x) i)) (h0 : 0 ≤ i) (h4 : i < 4) (hn : ¬ (σ.2.1 7 (4 * x + i) = 2 ∧ (K (σ.2.1 8 (4 * x + i))).1 ≠ 0)) : rI σ x = foO K (rI σ0 x) (i + 1) ∧ (w = 1 ↔ foC K (rI σ0 x) (i + 1)) := by
  have e := pi_at h.1 h0 (Int.le_refl i) h4
  rw [← e.1, ← e.2] at hn
  refine ⟨h.1.trans (foO_no h0 hn).symm, h.2.trans ⟨fun q => foC_s.mpr (Or.inl q), fun q => ?_⟩⟩
  rcases foC_s.mp q with q | q
  · exact q
  · exact absurd ⟨q.2.1, q.2.2⟩ hn
theorem pi_yes (h : rI σ x = foO (knA σ0) (rI σ0 x) i ∧ (w = 1 ↔ foC (knA σ0) (rI σ0 x) i)) (h0 : 0 ≤ i) (h4 : i < 4) (hy : σ.2.1 7 (4 * x + i) = 2) (hg : 0 ≤ σ.2.1 8 (4 * x + i) ∧ σ.2.1 8 (4 * x + i) < 192) (hk : σ0.2.1 60 (σ.2.1 8 (4 * x + i)) ≠ 0) : rI (fArg x i (σ0.2.1 60 (σ.2.1 8 (4 * x + i))) (σ0.2.1 61 (σ.2.1 8 (4 * x + i))) σ) x = foO (knA σ0) (rI σ0 x) (i + 1) ∧ ((1 : Int) = 1 ↔ foC (knA σ0) (rI σ0 x) (i + 1)) := by
  have e := pi_at h.1 h0 (Int.le_refl i) h4
  have k1 := kn_1 (σ := σ0) hg.1 hg.2
  have k2 := kn_2 (σ := σ0) hg.1 hg.2 hk
  have c1 : rI σ0 x (3 + 2 * i) = 2 := e.1.trans hy
  have c2 : (knA σ0 (rI σ0 x (4 + 2 * i))).1 ≠ 0 := by rw [e.2, k1]; exact hk
  refine ⟨?_, fun _ => foC_s.mpr (Or.inr ⟨h0, c1, c2⟩), fun _ => rfl⟩
  rw [foO_y h0 c1 c2, ri_arg h0 h4, h.1, e.2, k1, k2]
theorem pi_end (h : rI σ x = foO K (rI σ0 x) i ∧ (w = 1 ↔ foC K (rI σ0 x) i)) (h0 : 0 ≤ i) (h4 : i ≤ 4) (hn : ∀ j, i ≤ j → j < 4 → σ.2.1 7 (4 * x + j) ≠ 2) : rI σ x = foO K (rI σ0 x) 4 ∧ (w = 1 ↔ foC K (rI σ0 x) 4) := by
  have q := foO_4 (K := K) (i := rI σ0 x) h0 h4 (fun j a b => by rw [(pi_at h.1 h0 a b).1]; exact hn j a b)
  exact ⟨h.1.trans q.1.symm, h.2.trans q.2.symm⟩
end PI
def FOY (ρ σ : MS) (r k t w : Int) : Prop := foS (rV ρ r) k.toNat = (knA σ, t, w, oV σ r t)
def FOX (ρ σ : MS) (r k t w gs : Int) : Prop := foS (rV ρ r) (k + 1).toNat = (knA σ, t + (1 - gs), w, if gs = 0 then uZ (oV σ r t) t (rI σ (220 * r + k)) else oV σ r t)
def FOI (ρ σ : MS) (r k ce : Int) : Prop := rI σ (220 * r + k) = foA (foO (knA σ) (rV ρ r k) 4) ∧ (ce = 1 ↔ foC (knA σ) (rV ρ r k) 4 ∨ five2 (foO (knA σ) (rV ρ r k) 4)) ∧ rV ρ r k 0 ≤ 10
section FOYS
variable {ρ σ τ : MS} {r k t w gs ce : Int}
theorem FOX.skip (h : FOX ρ σ r k t w gs) (e : gs = 1) : FOY ρ σ r (k + 1) t w := by
  unfold FOX at h
  unfold FOY
  rw [h, e, if_neg (by decide), show t + (1 - 1) = t by omega]
theorem FOX.keep (h : FOX ρ σ r k t w gs) (e : gs = 0) (h0 : 0 ≤ t) : FOY ρ (fCopy (220 * r + k) (220 * r + t) σ) r (k + 1) (t + 1) w := by
  unfold FOX at h
  unfold FOY
  rw [h, e, if_pos rfl, ov_copy h0, fCopy_fr.kn (by decide), show t + (1 - 0) = t + 1 by omega]
theorem ov_off {x : Int} (o : OFF x σ τ) (hx : 220 * r + t ≤ x) : oV τ r t = oV σ r t := ov_ext (fun j a b => o.ri (by omega))
theorem ov_fr {ss ks js : List Nat} (f : Fr ss ks js σ τ) (h : ∀ k ∈ [3, 4, 5, 6, 7, 8], k ∉ ks) : oV τ r t = oV σ r t := ov_ext (fun j a b => by rw [f.ri h])
theorem rv_fr {ss ks js : List Nat} (f : Fr ss ks js σ τ) (h : ∀ k ∈ [3, 4, 5, 6, 7, 8, 9], k ∉ ks) : rV τ r = rV σ r := by
  rw [rv_ov, rv_ov, f.q h (k := 9) (by decide)]
  exact ov_fr f (fun k q => h k (by simp at q ⊢; omega))
theorem FOY.off (h : FOY ρ σ r k t w) (o : OFF (220 * r + k) σ τ) (ht : t ≤ k) (hk : knA τ = knA σ) : FOY ρ τ r k t w := by
  unfold FOY at h ⊢
  rw [h, hk, ov_off o (by omega)]
theorem FOX.of (h : FOY ρ σ r k t w) (h0 : 0 ≤ k) {s : FOT} {w' : Int} (e : foT (knA σ, t, w, oV σ r t) (rV ρ r k) = s) (hs : s = (knA τ, t + (1 - gs), w', if gs = 0 then uZ (oV τ r t) t (rI τ (220 * r + k)) else oV τ r t)) : FOX ρ τ r k t w' gs := by
  unfold FOY at h
  unfold FOX
  rw [foS_s h0, h, e, hs]
theorem FOX.lab {ss ks js : List Nat} (h : FOY ρ σ r k t w) (h0 : 0 ≤ k) (hi : rI σ (220 * r + k) = rV ρ r k) (h13 : σ.2.1 3 (220 * r + k) = 13) (f : Fr ss ks js σ τ) (hf : ∀ k ∈ [3, 4, 5, 6, 7, 8], k ∉ ks) (hz : ∀ g, 0 ≤ g → g < 192 → τ.2.1 60 g = 0) : FOX ρ τ r k t w 0 := by
  have e0 : rV ρ r k 0 = 13 := by rw [← hi]; exact h13
  refine FOX.of h h0 rfl ?_
  unfold foT
  rw [if_pos e0, kn_z hz, if_pos rfl, ov_fr f hf, f.ri hf, hi]
  rfl
theorem FOX.oth (h : FOY ρ σ r k t w) (h0 : 0 ≤ k) (hi : rI σ (220 * r + k) = rV ρ r k) (h10 : 10 < σ.2.1 3 (220 * r + k)) (h13 : σ.2.1 3 (220 * r + k) ≠ 13) (hb : σ.2.1 3 (220 * r + k) = 12 → σ.2.1 6 (220 * r + k) = 2 → (knA σ (σ.2.1 8 (4 * (220 * r + k)))).1 ≠ 1) : FOX ρ σ r k t w 0 := by
  have e0 : rV ρ r k 0 = σ.2.1 3 (220 * r + k) := by rw [← hi]; rfl
  refine FOX.of h h0 rfl ?_
  unfold foT
  rw [e0, if_neg h13, if_pos rfl, ← hi]
  by_cases q : σ.2.1 3 (220 * r + k) = 12
  · rw [if_pos q]
    have e : foB (knA σ) (rI σ (220 * r + k)) = rI σ (220 * r + k) := by
      unfold foB
      refine dI_n (fun z => hb q z.1 ?_)
      have := z.2
      rw [ri4, Int.add_zero] at this
      exact this
    rw [show (knA σ, t, w, oV σ r t).1 = knA σ from rfl, e]
    rfl
  · rw [if_neg q, if_neg (by omega)]
    rfl
theorem FOX.bind (h : FOY ρ σ r k t w) (h0 : 0 ≤ k) (ht : t ≤ k) (hi : rI σ (220 * r + k) = rV ρ r k) (h12 : σ.2.1 3 (220 * r + k) = 12) (h2 : σ.2.1 6 (220 * r + k) = 2) {g : Int} (hg : σ.2.1 8 (4 * (220 * r + k)) = g) (hg2 : 0 ≤ g ∧ g < 192) (h1 : σ.2.1 60 g = 1) : FOX ρ (fArg (220 * r + k) 0 1 (σ.2.1 61 g) (sA 6 (220 * r + k) 1 σ)) r k t w 0 := by
  have e0 : rV ρ r k 0 = 12 := by rw [← hi]; exact h12
  have k1 := kn_1 (σ := σ) hg2.1 hg2.2
  have k2 := kn_2 (σ := σ) hg2.1 hg2.2 (by omega)
  have f9 : Fr [] [6, 7, 8] [] σ (fArg (220 * r + k) 0 1 (σ.2.1 61 g) (sA 6 (220 * r + k) 1 σ)) := Fr.trans (Fr.A Fr.rfl (by decide)) (fArg_fr.sub (by decide) (by decide) (by decide))
  refine FOX.of h h0 rfl ?_
  unfold foT
  rw [e0, if_neg (by decide), if_pos rfl, if_pos rfl, f9.kn (by decide), ov_off ((OFF.A (by decide)).trans (OFF.arg (by decide) (by decide))) (by omega), ri_arg0, ri_A6, ← hi]
  have e : foB (knA σ) (rI σ (220 * r + k)) = uZ (uZ (uZ (rI σ (220 * r + k)) 11 1) 3 1) 4 (σ.2.1 61 g) := by
    unfold foB
    rw [ri4, ri11, Int.add_zero, hg, k1, dI_y ⟨h2, h1⟩, k2]
  rw [show (knA σ, t, w, oV σ r t).1 = knA σ from rfl, e]
  rfl
theorem zer_ri {x : Int} : zer1 (rI σ x) ↔ σ.2.1 3 x = 9 ∧ σ.2.1 7 (4 * x) = 1 := by
  unfold zer1
  rw [ri0, ri3, Int.add_zero]
theorem FOX.no {w' : Int} (h : FOY ρ σ r k t w) (hi : FOI ρ σ r k ce) (h0 : 0 ≤ k) (hz : ¬ (σ.2.1 3 (220 * r + k) = 9 ∧ σ.2.1 7 (4 * (220 * r + k)) = 1)) (f : Fr [] [60, 61] [] σ τ) (hl : knA τ = lrn (rI σ (220 * r + k)) (knA σ)) (hc : (ce = 0 ∨ ce = 1) ∧ w' = w + ce) (h13 : rV ρ r k 0 ≠ 13 ∧ rV ρ r k 0 ≠ 12) : FOX ρ τ r k t w' 0 := by
  obtain ⟨i1, i2, i3⟩ := hi
  have nz : ¬ zer1 (rI σ (220 * r + k)) := fun q => hz (zer_ri.mp q)
  refine FOX.of h h0 rfl ?_
  unfold foT
  rw [if_neg h13.1, if_neg h13.2, if_pos i3, if_pos rfl]
  unfold foX
  simp only []
  rw [← i1, show foZ (rI σ (220 * r + k)) = rI σ (220 * r + k) from dI_n nz, dI_n (show ¬ (zer1 (rI σ (220 * r + k)) ∧ rI σ (220 * r + k) 4 ≠ 0) from fun z => nz z.1), dI_n (show ¬ (zer1 (rI σ (220 * r + k)) ∧ rI σ (220 * r + k) 4 ≠ 0) from fun z => nz z.1), hl, f.ri (by decide), ov_fr f (by decide)]
  have e : dI (foC (knA σ) (rV ρ r k) 4 ∨ five2 (foO (knA σ) (rV ρ r k) 4) ∨ zer1 (rI σ (220 * r + k))) (w + 1) w = w' := by
    rcases hc with ⟨q | q, e⟩
    · rw [dI_n (fun z => ?_)]
      · omega
      · have : ¬ ce = 1 := by omega
        rcases z with z | z | z
        · exact this (i2.mpr (Or.inl z))
        · exact this (i2.mpr (Or.inr z))
        · exact nz z
    · rw [dI_y ?_]
      · omega
      · rcases i2.mp q with z | z
        · exact Or.inl z
        · exact Or.inr (Or.inl z)
  rw [e]
  rfl
theorem FOX.yes (h : FOY ρ σ r k t w) (hi : FOI ρ σ r k ce) (h0 : 0 ≤ k) (ht : t ≤ k) (hz : σ.2.1 3 (220 * r + k) = 9 ∧ σ.2.1 7 (4 * (220 * r + k)) = 1) (f : Fr [] [60, 61] [] (fArg (220 * r + k) 0 0 0 (sA 3 (220 * r + k) 8 σ)) τ) (hl : knA τ = lrn (rI (fArg (220 * r + k) 0 0 0 (sA 3 (220 * r + k) 8 σ)) (220 * r + k)) (knA (fArg (220 * r + k) 0 0 0 (sA 3 (220 * r + k) 8 σ)))) (hg : (gs = 0 ∧ σ.2.1 8 (4 * (220 * r + k)) = 0) ∨ (gs = 1 ∧ σ.2.1 8 (4 * (220 * r + k)) ≠ 0)) (h13 : rV ρ r k 0 ≠ 13 ∧ rV ρ r k 0 ≠ 12) : FOX ρ τ r k t (w + 1) gs := by
  obtain ⟨i1, i2, i3⟩ := hi
  have yz : zer1 (rI σ (220 * r + k)) := zer_ri.mpr hz
  have f9 : Fr [] [3, 7, 8] [] σ (fArg (220 * r + k) 0 0 0 (sA 3 (220 * r + k) 8 σ)) := Fr.trans (Fr.A Fr.rfl (by decide)) (fArg_fr.sub (by decide) (by decide) (by decide))
  have ez : rI (fArg (220 * r + k) 0 0 0 (sA 3 (220 * r + k) 8 σ)) (220 * r + k) = foZ (rI σ (220 * r + k)) := by
    rw [ri_arg0, ri_A3]
    exact (dI_y yz).symm
  refine FOX.of h h0 rfl ?_
  unfold foT
  rw [if_neg h13.1, if_neg h13.2, if_pos i3]
  unfold foX
  simp only []
  rw [← i1, dI_y (Or.inr (Or.inr yz)), hl, ez, f9.kn (by decide), f.ri (by decide), ez, ov_fr f (by decide), ov_off ((OFF.A (by decide)).trans (OFF.arg (by decide) (by decide))) (by omega)]
  have e4 : rI σ (220 * r + k) 4 = σ.2.1 8 (4 * (220 * r + k)) := by rw [ri4, Int.add_zero]
  rcases hg with ⟨q, e⟩ | ⟨q, e⟩
  · rw [q, if_pos rfl, dI_n (show ¬ (zer1 (rI σ (220 * r + k)) ∧ rI σ (220 * r + k) 4 ≠ 0) from fun z => z.2 (by rw [e4]; exact e)), dI_n (show ¬ (zer1 (rI σ (220 * r + k)) ∧ rI σ (220 * r + k) 4 ≠ 0) from fun z => z.2 (by rw [e4]; exact e))]
    rfl
  · rw [q, if_neg (by decide), dI_y (show zer1 (rI σ (220 * r + k)) ∧ rI σ (220 * r + k) 4 ≠ 0 from ⟨yz, by rw [e4]; exact e⟩), dI_y (show zer1 (rI σ (220 * r + k)) ∧ rI σ (220 * r + k) 4 ≠ 0 from ⟨yz, by rw [e4]; exact e⟩), show t + (1 - 1) = t by omega]
theorem cpy_ri {x v : Int} : rI (fCpy x 1 v σ) x = cpyI (rI σ x) 1 v := by
  unfold fCpy cpyI
  rw [ri_arg1, ri_arg0, ri_A3]
theorem fCpy_fr {x v : Int} : Fr [] [3, 7, 8] [] σ (fCpy x 1 v σ) := Fr.trans (Fr.trans (Fr.A Fr.rfl (by decide)) (fArg_fr.sub (by decide) (by decide) (by decide))) (fArg_fr.sub (by decide) (by decide) (by decide))
theorem five_ri {x : Int} : five2 (rI σ x) ↔ 1 ≤ σ.2.1 3 x ∧ σ.2.1 3 x ≤ 5 ∧ σ.2.1 7 (4 * x) = 1 ∧ σ.2.1 7 (4 * x + 1) = 1 := by
  unfold five2
  rw [ri0, ri3, ri5, Int.add_zero]
theorem FOI.no (hi : rI σ (220 * r + k) = rV ρ r k) (h10 : σ.2.1 3 (220 * r + k) ≤ 10) (f : Fr [] [7, 8] [] σ τ) (hp : rI τ (220 * r + k) = foO (knA σ) (rI σ (220 * r + k)) 4 ∧ (ce = 1 ↔ foC (knA σ) (rI σ (220 * r + k)) 4)) (h5 : ¬ (1 ≤ τ.2.1 3 (220 * r + k) ∧ τ.2.1 3 (220 * r + k) ≤ 5 ∧ τ.2.1 7 (4 * (220 * r + k)) = 1 ∧ τ.2.1 7 (4 * (220 * r + k) + 1) = 1)) : FOI ρ τ r k ce := by
  have e := f.kn (by decide)
  have n5 : ¬ five2 (foO (knA σ) (rV ρ r k) 4) := fun q => h5 (five_ri.mp (by rw [hp.1, hi]; exact q))
  unfold FOI
  rw [e, hp.1, hi]
  refine ⟨(dI_n n5).symm, ?_, by rw [← hi]; exact h10⟩
  rw [hp.2, hi]
  exact ⟨Or.inl, fun q => q.elim id (fun z => absurd z n5)⟩
theorem FOI.yes {u v : Int} (hi : rI σ (220 * r + k) = rV ρ r k) (h10 : σ.2.1 3 (220 * r + k) ≤ 10) (f : Fr [] [7, 8] [] σ τ) (hp : rI τ (220 * r + k) = foO (knA σ) (rI σ (220 * r + k)) 4 ∧ (u = 1 ↔ foC (knA σ) (rI σ (220 * r + k)) 4)) (h5 : 1 ≤ τ.2.1 3 (220 * r + k) ∧ τ.2.1 3 (220 * r + k) ≤ 5 ∧ τ.2.1 7 (4 * (220 * r + k)) = 1 ∧ τ.2.1 7 (4 * (220 * r + k) + 1) = 1) (hv : v = wkd (τ.2.1 3 (220 * r + k)) (τ.2.1 8 (4 * (220 * r + k))) (τ.2.1 8 (4 * (220 * r + k) + 1))) : FOI ρ (fCpy (220 * r + k) 1 v τ) r k 1 := by
  have e := f.kn (by decide)
  have y5 : five2 (foO (knA σ) (rV ρ r k) 4) := by rw [← hi, ← hp.1]; exact five_ri.mpr h5
  unfold FOI
  rw [fCpy_fr.kn (by decide), e, cpy_ri, hv]
  refine ⟨?_, ⟨fun _ => Or.inr y5, fun _ => rfl⟩, by rw [← hi]; exact h10⟩
  unfold foA
  rw [dI_y y5, ← hi, ← hp.1, ri0, ri4, ri6, Int.add_zero]
end FOYS
theorem FOY.start {σ : MS} {r : Int} (hz : ∀ g, 0 ≤ g → g < 192 → σ.2.1 60 g = 0) : FOY σ σ r 0 0 0 := by
  unfold FOY
  rw [kn_z hz, ov_0]
  rfl
theorem FOY.fin {σ σ1 τ : MS} {r n t w : Int} (h : FOY σ1 τ r n t w) (e : rV σ1 r = rV σ r) (hn : n = σ.2.1 9 r) : ∃ K, foS (rV σ r) (σ.2.1 9 r).toNat = (K, (sA 9 r t τ).2.1 9 r, w, rV (sA 9 r t τ) r) := by
  refine ⟨knA τ, ?_⟩
  unfold FOY at h
  rw [e, hn] at h
  rw [h, show (sA 9 r t τ).2.1 9 r = t from ra_eq, rv_ov, show (sA 9 r t τ).2.1 9 r = t from ra_eq]
  rfl
end
