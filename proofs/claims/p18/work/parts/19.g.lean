section
def GST (s : Int → Int) : PCf := ([36], advT s 0, (0, 0, 0), qq 0, [])
def IV1 (σ : MS) : Prop := σ.1 26 = 0 → σ.1 30 ≤ 6 ∧ ∀ v, 0 ≤ v → v < σ.1 30 → σ.2.1 45 v = σ.2.1 36 v ∧ (0 ≤ σ.2.1 36 v ∧ σ.2.1 36 v ≤ 4) ∧ σ.2.1 36 v ≤ σ.2.1 35 v
theorem IV1.step {σ τ : MS} (h : IV1 σ) (p : P1O σ τ) (fl : FLT σ τ) (e : τ.1 30 = σ.1 30 + 1) (e43 : σ.1 43 = σ.1 30) (h0 : 0 ≤ σ.1 30) : IV1 τ := fun a => by
  obtain ⟨p1, p2, p3, p4⟩ := p
  have z : σ.1 26 = 0 := Classical.byContradiction (fun y => fl.1 y a)
  have H := h z
  have q := p4 a
  refine ⟨by omega, fun v b c => ?_⟩
  by_cases y : v = σ.1 30
  · have w := q.2 (by omega)
    rw [e43] at w
    rw [y]; exact w
  · rw [p3 v (by omega), (p2 v y).1, (p2 v y).2]
    exact H.2 v b (by omega)
def PGO (σ τ : MS) : Prop := (σ.1 25 ≠ 3 → (∀ x, x ≠ 2640 → IEQ σ x τ x) ∧ τ.2.1 9 = σ.2.1 9) ∧ (σ.1 25 ≠ 1 → τ.2.1 35 = σ.2.1 35 ∧ τ.2.2 38 = σ.2.2 38 ∧ τ.2.1 36 = σ.2.1 36 ∧ TBm σ τ) ∧ NN τ ∧ FLT σ τ ∧ τ.1 25 = σ.1 25 ∧ (0 ≤ τ.1 43 ∧ τ.1 43 ≤ 260)
theorem PGO.step {ρ σ τ : MS} (h : PGO ρ σ) (p : PBO σ τ) : PGO ρ τ := by
  obtain ⟨h1, h2, h3, h4, h5, h6⟩ := h
  obtain ⟨p1, p2, p3, p4, p5, p6, p7⟩ := p
  refine ⟨fun a => ⟨fun x b => ((h1 a).1 x b).trans (p1 x b (by omega)), ?_⟩, fun a => ?_, p3, h4.trans p4, p5.trans h5, p7⟩
  · rw [← (h1 a).2]
    exact funext (fun j => p6 j (Or.inr (by omega)))
  · have q := h2 a
    have w := p2 (by omega)
    exact ⟨w.1.trans q.1, w.2.1.trans q.2.1, w.2.2.1.trans q.2.2.1, q.2.2.2.trans w.2.2.2⟩
theorem PGO.rfl {σ : MS} (hn : NN σ) (h : 0 ≤ σ.1 43 ∧ σ.1 43 ≤ 260) : PGO σ σ := ⟨fun _ => ⟨fun _ _ => ⟨_root_.rfl, _root_.rfl, _root_.rfl, _root_.rfl, fun _ _ _ => ⟨_root_.rfl, _root_.rfl⟩⟩, _root_.rfl⟩, fun _ => ⟨_root_.rfl, _root_.rfl, _root_.rfl, _root_.rfl, _root_.rfl, _root_.rfl, _root_.rfl⟩, hn, FLT.eq _root_.rfl, _root_.rfl, h⟩
theorem PLI.oth {σ τ : MS} {r : Int} (h : PLI σ r) (hr : 0 ≤ r ∧ r < 6) (p : PBO σ τ) (ne : r < σ.1 30) (h3 : σ.1 25 = 3) : PLI τ r := by
  obtain ⟨p1, p2, p3, p4, p5, p6, p7⟩ := p
  obtain ⟨h1, h2, ⟨l, h4, h5⟩, h6, h7⟩ := h
  have tb := (p2 (by omega)).2.2.2
  have e9 : τ.2.1 9 r = σ.2.1 9 r := p6 r (Or.inl (by omega))
  have ie : ∀ k, 0 ≤ k → k < 220 → IEQ σ (220 * r + k) τ (220 * r + k) := fun k a b => p1 _ (by omega) (by omega)
  unfold PLI
  rw [e9]
  refine ⟨h1, fun k a b => (ie k a (by omega)).oki tb.2.1 (h2 k a b), ⟨l, h4, ?_⟩, (ie _ (by omega) (by omega)).1.trans h6, ?_⟩
  · rw [tb.1]
    exact h5.ext (fun k a b => ⟨(ie k a (by omega)).1, (ie k a (by omega)).2.1, (ie k a (by omega)).2.2.1⟩)
  · have a0 : iK τ r 0 = iK σ r 0 := (ie 0 (by omega) (by omega)).1
    have a1 : iK τ r 1 = iK σ r 1 := (ie 1 (by omega) (by omega)).1
    rw [a0, a1]; exact h7
def GEN (s : Int → Int) (σ : MS) : Prop := ∃ t x lg, RCm s (GST s) ([], t, x, qq 0, lg) ∧ nR lg ≤ 6 ∧ ∀ e ∈ lg, E3 σ e
def GRD (σ0 σ : MS) (lg : List EV) : Prop := ∃ x, GOS [36] (sS 34 0 σ0) (qq 0) [36] (sS 34 x σ) (qq 0) lg
theorem GRD.rc {σ0 σ : MS} {lg : List EV} (g : ∃ x, GOS [36] (sS 34 0 σ0) (qq 0) [36] (sS 34 x σ) (qq 0) lg) (e1 : tks σ0 = advT (sv σ0) 0) (e2 : σ0.1 28 = 0 ∧ σ0.1 29 = 0) : ∃ x, RCm (sv σ0) (GST (sv σ0)) (cfg [36] (sS 34 x σ) (qq 0) lg) := by
  obtain ⟨x, g⟩ := g
  refine ⟨x, ?_⟩
  have h := g.rc [] []
  have e : cfg ([36] ++ []) (sS 34 0 σ0) (qq 0) [] = GST (sv σ0) := by
    show ([36], tks σ0, (σ0.1 28, σ0.1 29, (0 : Int)), qq 0, ([] : List EV)) = _
    rw [e1, e2.1, e2.2]; rfl
  rw [e] at h
  exact h
theorem HQR.mk {σ0 σ : MS} {lg : List EV} (g : GRD σ0 σ lg) (e1 : tks σ0 = advT (sv σ0) 0) (e2 : σ0.1 28 = 0 ∧ σ0.1 29 = 0) (hn : nR lg = σ.1 30) (he : σ.1 25 = 3 → GEN (sv σ0) σ0) (tb : σ.1 25 = 3 → TBm σ0 σ) (h22 : σ.1 22 ≠ 0) : HQR σ := fun a τ l2 h => by
  obtain ⟨t, xx, lF, rF, nF, eF⟩ := he a
  obtain ⟨x, g⟩ := g
  have g2 : GOS [36] (sS 34 0 σ0) (qq 0) [36] τ (qq 0) (lg ++ l2) := g.trans ((g36n (σ := sS 34 x σ) h22).then ((h x).more [36]))
  have r2 := g2.rc [] []
  have e : cfg ([36] ++ []) (sS 34 0 σ0) (qq 0) [] = GST (sv σ0) := by
    show ([36], tks σ0, (σ0.1 28, σ0.1 29, (0 : Int)), qq 0, ([] : List EV)) = _
    rw [e1, e2.1, e2.2]; rfl
  rw [e] at r2
  have r3 := RCm.mid r2 rF rfl
  obtain ⟨l3, h3⟩ := RCm.log r3 (fun z => absurd (show ([] : List Nat) = [999] from congrArg Prod.fst z) (by decide))
  have e3 : lF = (lg ++ l2) ++ l3 := h3
  rw [e3, nR_app, nR_app, hn] at nF
  refine ⟨fun z => ?_, fun e w => (eF e ?_).tb (tb a)⟩
  · have := nR_0 l3
    omega
  · rw [e3]; exact List.mem_append_left _ (List.mem_append_right _ w)
theorem GRD.step {σ0 σ τ : MS} {lg l2 : List EV} (g : GRD σ0 σ lg) (h22 : σ.1 22 ≠ 0) (h : ∀ x, GOS [30] (sS 34 x σ) (qq 0) [] τ (qq 0) l2) : GRD σ0 τ (lg ++ l2) := by
  obtain ⟨x, g⟩ := g
  exact ⟨τ.1 34, (g.trans ((g36n (σ := sS 34 x σ) h22).then ((h x).more [36]))).last rfl rfl⟩
def GFL (σ0 τ : MS) : Prop := ∃ es p, RE (sv σ0) (GST (sv σ0)) (es ++ [(9, p, 0, 0)]) pF ∧ (σ0.1 25 = 0 → σ0.1 26 = 0 → τ.1 26 = 1 ∧ τ.1 27 = p)
theorem GFL.rc {σ0 τ : MS} (h : GFL σ0 τ) : RCm (sv σ0) (GST (sv σ0)) pF := by
  obtain ⟨es, p, h, -⟩ := h
  exact h.rc
theorem GRD.fail {σ0 σ τ : MS} {lg : List EV} (g : GRD σ0 σ lg) (e1 : tks σ0 = advT (sv σ0) 0) (e2 : σ0.1 28 = 0 ∧ σ0.1 29 = 0) (h22 : σ.1 22 ≠ 0) (h : ∀ x, GOF [30] (sS 34 x σ) (qq 0) τ) : GFL σ0 τ := by
  obtain ⟨x, g⟩ := g
  obtain ⟨es, p, f, w⟩ : GOF [36] (sS 34 0 σ0) (qq 0) τ := g.fail ((g36n (σ := sS 34 x σ) h22).fail ((h x).more [36]))
  have r2 := f [] []
  have e : cfg ([36] ++ []) (sS 34 0 σ0) (qq 0) [] = GST (sv σ0) := by
    show ([36], tks σ0, (σ0.1 28, σ0.1 29, (0 : Int)), qq 0, ([] : List EV)) = _
    rw [e1, e2.1, e2.2]; rfl
  rw [e] at r2
  exact ⟨es, p, r2, w⟩
theorem GRD.fin {σ0 σ : MS} {lg : List EV} (g : GRD σ0 σ lg) (e1 : tks σ0 = advT (sv σ0) 0) (e2 : σ0.1 28 = 0 ∧ σ0.1 29 = 0) (h22 : σ.1 22 = 0) : ∃ t x es, RE (sv σ0) (GST (sv σ0)) es ([], t, x, qq 0, lg) ∧ EFF es σ0 σ := by
  obtain ⟨x, g⟩ := g
  obtain ⟨-, es, f, w⟩ : GOS [36] (sS 34 0 σ0) (qq 0) [] (sS 34 x σ) (qq 0) lg := g.and (g36y (σ := sS 34 x σ) h22)
  have r2 := f [] []
  have e : cfg ([36] ++ []) (sS 34 0 σ0) (qq 0) [] = GST (sv σ0) := by
    show ([36], tks σ0, (σ0.1 28, σ0.1 29, (0 : Int)), qq 0, ([] : List EV)) = _
    rw [e1, e2.1, e2.2]; rfl
  rw [e] at r2
  exact ⟨_, _, es, r2, w⟩
def IGO (w : Int) (ρ A : MS) : Prop := (A.1 25 = w ∧ A.1 26 = ρ.1 26 ∧ A.1 27 = ρ.1 27 ∧ A.1 30 = 0 ∧ A.1 31 = 0) ∧ (w = 1 → A.1 43 = 0 ∧ ∀ r, 0 ≤ r → r < 6 → A.2.1 35 r = 0) ∧ (w ≠ 1 → A.1 43 = ρ.1 43 ∧ A.2.1 35 = ρ.2.1 35) ∧ A.2.1 45 = ρ.2.1 45 ∧ A.2.2 38 = ρ.2.2 38 ∧ A.2.2 44 = ρ.2.2 44
def GQ1 (w : Int) (σ τ : MS) : Prop := ∃ t x lg es, (RE (sv σ) (GST (sv σ)) es ([], t, x, qq 0, lg) ∧ ∃ A, IGO w σ A ∧ EFF es A τ) ∧ nR lg = τ.1 30 ∧ (w = 2 → τ.1 26 = 0 → ∀ e ∈ lg, E2 σ e) ∧ (w = 1 → τ.1 43 = τ.1 30 ∧ IV1 τ) ∧ (w = 3 → (∀ r, 0 ≤ r → r < τ.1 30 → PLI τ r) ∧ ∀ j, τ.1 30 ≤ j → τ.2.1 9 j = σ.2.1 9 j) ∧ (w = 3 → GM3 σ τ)
def GKP (w : Int) (σ τ : MS) : Prop := (w ≠ 3 → (∀ x, x ≠ 2640 → IEQ σ x τ x) ∧ τ.2.1 9 = σ.2.1 9) ∧ (w ≠ 1 → τ.2.1 35 = σ.2.1 35 ∧ τ.2.2 38 = σ.2.2 38 ∧ τ.2.1 36 = σ.2.1 36 ∧ TBm σ τ) ∧ NN τ ∧ FLT σ τ ∧ (0 ≤ τ.1 43 ∧ τ.1 43 ≤ 260)
def GBG (w : Int) (ρ σ : MS) : Prop := Fr [20, 25, 28, 29, 30, 31, 43] [35, 36, 37] [] ρ σ ∧ (σ.1 25 = w ∧ σ.1 20 = 0 ∧ σ.1 28 = 0 ∧ σ.1 29 = 0 ∧ σ.1 30 = 0 ∧ σ.1 31 = 0) ∧ NN σ ∧ (w = 1 → σ.1 43 = 0 ∧ ∀ r, 0 ≤ r → r < 6 → σ.2.1 35 r = 0) ∧ (w ≠ 1 → σ.1 43 = ρ.1 43 ∧ σ.2.1 35 = ρ.2.1 35 ∧ σ.2.1 36 = ρ.2.1 36) ∧ (0 ≤ σ.1 43 ∧ σ.1 43 ≤ 260)
theorem GBG.kp {w : Int} {ρ σ α τ : MS} (h : GBG w ρ σ) (f : Fr [19, 20, 22, 23] [] [24] σ α) (p : PGO α τ) : GKP w ρ τ := by
  obtain ⟨h1, h2, h3, h4, h5, h6⟩ := h
  obtain ⟨p1, p2, p3, p4, p5, p6⟩ := p
  have e25 : α.1 25 = w := (f.1 25 (by decide)).trans h2.1
  refine ⟨fun a => ⟨fun x b => (IEQ.of h1 (by decide)).trans ((IEQ.of f (by decide)).trans ((p1 (by omega)).1 x b)), (p1 (by omega)).2.trans ((f.2.1 9 (by decide)).trans (h1.2.1 9 (by decide)))⟩, fun a => ?_, p3, (FLT.eq ((f.1 26 (by decide)).trans (h1.1 26 (by decide)))).trans p4, p6⟩
  have q := p2 (by omega)
  have w := h5 a
  have tb : TBm ρ σ := ⟨w.1, h1.2.1 11 (by decide), h1.2.1 45 (by decide), h1.2.2 44 (by decide)⟩
  exact ⟨q.1.trans ((f.2.1 35 (by decide)).trans w.2.1), q.2.1.trans ((f.2.2 38 (by decide)).trans (h1.2.2 38 (by decide))), q.2.2.1.trans ((f.2.1 36 (by decide)).trans w.2.2), tb.trans ((TBm.of f (by decide) (by decide) (by decide) (by decide)).trans q.2.2.2)⟩
theorem GBG.igo {w : Int} {ρ σ α : MS} (h : GBG w ρ σ) (f : Fr [19, 20, 22, 23] [] [24] σ α) : IGO w ρ α := by
  obtain ⟨h1, h2, h3, h4, h5, h6⟩ := h
  refine ⟨⟨(f.1 25 (by decide)).trans h2.1, (f.1 26 (by decide)).trans (h1.1 26 (by decide)), (f.1 27 (by decide)).trans (h1.1 27 (by decide)), (f.1 30 (by decide)).trans h2.2.2.2.2.1, (f.1 31 (by decide)).trans h2.2.2.2.2.2⟩, fun a => ⟨(f.1 43 (by decide)).trans (h4 a).1, fun r b c => by rw [f.2.1 35 (by decide)]; exact (h4 a).2 r b c⟩, fun a => ⟨(f.1 43 (by decide)).trans (h5 a).1, (f.2.1 35 (by decide)).trans (h5 a).2.1⟩, (f.2.1 45 (by decide)).trans (h1.2.1 45 (by decide)), (f.2.2 38 (by decide)).trans (h1.2.2 38 (by decide)), (f.2.2 44 (by decide)).trans (h1.2.2 44 (by decide))⟩
end
section
theorem dX12_goOver_42 : decode cX12_goOver 42 = .ok (.iload_n 2, 1) := by decide +kernel
theorem dX12_goOver_43 : decode cX12_goOver 43 = .ok (.bipush 6, 2) := by decide +kernel
theorem dX12_goOver_45 : decode cX12_goOver 45 = .ok (.if_icmp .ge 23, 3) := by decide +kernel
theorem dX12_goOver_48 : decode cX12_goOver 48 = .ok (.aload_n 0, 1) := by decide +kernel
theorem dX12_goOver_49 : decode cX12_goOver 49 = .ok (.getfield 63, 3) := by decide +kernel
theorem dX12_goOver_52 : decode cX12_goOver 52 = .ok (.iload_n 2, 1) := by decide +kernel
theorem dX12_goOver_53 : decode cX12_goOver 53 = .ok (.iconst 0, 1) := by decide +kernel
theorem dX12_goOver_54 : decode cX12_goOver 54 = .ok (.iastore, 1) := by decide +kernel
theorem dX12_goOver_55 : decode cX12_goOver 55 = .ok (.aload_n 0, 1) := by decide +kernel
theorem dX12_goOver_56 : decode cX12_goOver 56 = .ok (.getfield 66, 3) := by decide +kernel
theorem dX12_goOver_59 : decode cX12_goOver 59 = .ok (.iload_n 2, 1) := by decide +kernel
theorem dX12_goOver_60 : decode cX12_goOver 60 = .ok (.iconst 0, 1) := by decide +kernel
theorem dX12_goOver_61 : decode cX12_goOver 61 = .ok (.iastore, 1) := by decide +kernel
theorem dX12_goOver_62 : decode cX12_goOver 62 = .ok (.iinc 2 1, 3) := by decide +kernel
theorem dX12_goOver_65 : decode cX12_goOver 65 = .ok (.goto (-23), 3) := by decide +kernel
set_option maxHeartbeats 4000000 in
set_option maxRecDepth 20000 in
theorem l_go42 (d : Nat) {b : Nat} {σ0 : MS} {w : Int} {post : Option Value → MS → Prop} (hR0 : RG σ0) (hx_68 : ∀ (i : Int) (σ : MS) , (Fr [] [35, 36] [] σ0 σ) → (RG σ) → (NN σ) → (∀ r, 0 ≤ r → r < 6 → σ.2.1 35 r = 0) → Tm (d + 1) m_X12_goOver 68 b σ [(2, .int (iI i)), (1, .int (iI w)), (0, .ref b)] [] post) : ∀ (n : Nat) (i : Int) (σ : MS) , (Fr [] [35, 36] [] σ0 σ) → (RG σ) → (0 ≤ i ∧ i ≤ 6) → (∀ r, 0 ≤ r → r < i → σ.2.1 35 r = 0) → (6 - i).toNat = n → Tm (d + 1) m_X12_goOver 42 b σ [(2, .int (iI i)), (1, .int (iI w)), (0, .ref b)] [] post := by
  intro n
  induction n using Nat.strongRecOn with
  | _ n ih =>
    intro i σ hF hR h0 hz hm
    refine tm_iload_n dX12_goOver_42 rfl 0 rfl ?_
    refine tm_bipush dX12_goOver_43 (by decide) ?_
    refine tm_icmp_ge (tgt := 68) dX12_goOver_45 (by decide) ⟨by omega, by omega⟩ ⟨by decide, by decide⟩ (fun h1 => ?_) (fun h1 => ?_)
    · exact tm_sub [0, 1, 2] rfl (hx_68 (i) σ (Fr.rfl.trans (Fr.sub hF (by decide) (by decide) (by decide))) hR (fun r a c => by rw [hz r a (by omega)]; decide) (fun r a c => hz r a (by omega)))
    · refine tm_aload_n dX12_goOver_48 rfl 2 rfl ?_
      refine tm_get (k := 35) (v := .ref (b + 1 + 16)) lay_12 dX12_goOver_49 (by decide) fl12_63 rfl ?_
      refine tm_iload_n dX12_goOver_52 rfl 0 rfl ?_
      refine tm_iconst dX12_goOver_53 ?_
      refine tm_iast (z := i) (v := 0) dX12_goOver_54 (show mT[16]? = some (35, 0, 6) from rfl) (by omega) (by omega) (by decide) ?_
      refine tm_aload_n dX12_goOver_55 rfl 2 rfl ?_
      refine tm_get (k := 36) (v := .ref (b + 1 + 17)) lay_12 dX12_goOver_56 (by decide) fl12_66 rfl ?_
      refine tm_iload_n dX12_goOver_59 rfl 0 rfl ?_
      refine tm_iconst dX12_goOver_60 ?_
      refine tm_iast (z := i) (v := 0) dX12_goOver_61 (show mT[17]? = some (36, 0, 6) from rfl) (by omega) (by omega) (by decide) ?_
      refine tm_iinc (q0 := 0) (L' := [(2, .int (iI (i + 1))), (1, .int (iI w)), (0, .ref b)]) dX12_goOver_62 rfl (by decide) rfl ?_
      refine tm_goto (tgt := 42) dX12_goOver_65 (by decide) ?_
      exact tm_sub [0, 1, 2] rfl (ih _ (by omega) (i + 1) (sA 36 (i) (0) (sA 35 (i) (0) σ)) (((Fr.rfl.trans (Fr.sub hF (by decide) (by decide) (by decide))).A (by decide)).A (by decide)) ((hR.A (by omega)).A (by omega)) (by omega) (fun r a c => (Classical.em (r = i)).elim (fun z => by rw [z]; exact ra_o (by decide) ra_eq) (fun z => (show _ = σ.2.1 35 r from ra_o (by decide) (ra_ne z rfl)).trans (hz r a (by omega)))) rfl)
theorem dX12_goOver_70 : decode cX12_goOver 70 = .ok (.iload_n 2, 1) := by decide +kernel
theorem dX12_goOver_71 : decode cX12_goOver 71 = .ok (.bipush 6, 2) := by decide +kernel
theorem dX12_goOver_73 : decode cX12_goOver 73 = .ok (.if_icmp .ge 16, 3) := by decide +kernel
theorem dX12_goOver_76 : decode cX12_goOver 76 = .ok (.aload_n 0, 1) := by decide +kernel
theorem dX12_goOver_77 : decode cX12_goOver 77 = .ok (.getfield 69, 3) := by decide +kernel
theorem dX12_goOver_80 : decode cX12_goOver 80 = .ok (.iload_n 2, 1) := by decide +kernel
theorem dX12_goOver_81 : decode cX12_goOver 81 = .ok (.iconst 0, 1) := by decide +kernel
theorem dX12_goOver_82 : decode cX12_goOver 82 = .ok (.iastore, 1) := by decide +kernel
theorem dX12_goOver_83 : decode cX12_goOver 83 = .ok (.iinc 2 1, 3) := by decide +kernel
theorem dX12_goOver_86 : decode cX12_goOver 86 = .ok (.goto (-16), 3) := by decide +kernel
set_option maxHeartbeats 4000000 in
set_option maxRecDepth 20000 in
theorem l_go70 (d : Nat) {b : Nat} {σ0 : MS} {w : Int} {post : Option Value → MS → Prop} (hR0 : RG σ0) (hx_89 : ∀ (i : Int) (σ : MS) , (Fr [] [37] [] σ0 σ) → (RG σ) → (∀ r, 0 ≤ r → r < 6 → σ.2.1 37 r = 0) → Tm (d + 1) m_X12_goOver 89 b σ [(2, .int (iI i)), (1, .int (iI w)), (0, .ref b)] [] post) : ∀ (n : Nat) (i : Int) (σ : MS) , (Fr [] [37] [] σ0 σ) → (RG σ) → (0 ≤ i ∧ i ≤ 6) → (∀ r, 0 ≤ r → r < i → σ.2.1 37 r = 0) → (6 - i).toNat = n → Tm (d + 1) m_X12_goOver 70 b σ [(2, .int (iI i)), (1, .int (iI w)), (0, .ref b)] [] post := by
  intro n
  induction n using Nat.strongRecOn with
  | _ n ih =>
    intro i σ hF hR h0 hz hm
    refine tm_iload_n dX12_goOver_70 rfl 0 rfl ?_
    refine tm_bipush dX12_goOver_71 (by decide) ?_
    refine tm_icmp_ge (tgt := 89) dX12_goOver_73 (by decide) ⟨by omega, by omega⟩ ⟨by decide, by decide⟩ (fun h1 => ?_) (fun h1 => ?_)
    · exact tm_sub [0, 1, 2] rfl (hx_89 (i) σ (Fr.rfl.trans (Fr.sub hF (by decide) (by decide) (by decide))) hR (fun r a c => hz r a (by omega)))
    · refine tm_aload_n dX12_goOver_76 rfl 2 rfl ?_
      refine tm_get (k := 37) (v := .ref (b + 1 + 18)) lay_12 dX12_goOver_77 (by decide) fl12_69 rfl ?_
      refine tm_iload_n dX12_goOver_80 rfl 0 rfl ?_
      refine tm_iconst dX12_goOver_81 ?_
      refine tm_iast (z := i) (v := 0) dX12_goOver_82 (show mT[18]? = some (37, 0, 6) from rfl) (by omega) (by omega) (by decide) ?_
      refine tm_iinc (q0 := 0) (L' := [(2, .int (iI (i + 1))), (1, .int (iI w)), (0, .ref b)]) dX12_goOver_83 rfl (by decide) rfl ?_
      refine tm_goto (tgt := 70) dX12_goOver_86 (by decide) ?_
      exact tm_sub [0, 1, 2] rfl (ih _ (by omega) (i + 1) (sA 37 (i) (0) σ) ((Fr.rfl.trans (Fr.sub hF (by decide) (by decide) (by decide))).A (by decide)) (hR.A (by omega)) (by omega) (fun r a c => (Classical.em (r = i)).elim (fun z => by rw [z]; exact ra_eq) (fun z => (show _ = σ.2.1 37 r from ra_ne z rfl).trans (hz r a (by omega)))) rfl)
theorem ml12_379 : Cond.methodLink RX12 379 yX12_oneRoutine ∈ pWW := pw8 (List.mem_of_getElem? (i := 148) rfl) rfl
theorem dX12_goOver_93 : decode cX12_goOver 93 = .ok (.aload_n 0, 1) := by decide +kernel
theorem dX12_goOver_94 : decode cX12_goOver 94 = .ok (.getfield 226, 3) := by decide +kernel
theorem dX12_goOver_97 : decode cX12_goOver 97 = .ok (.ifCond .eq 12, 3) := by decide +kernel
theorem dX12_goOver_109 : decode cX12_goOver 109 = .ok (.iconst 1, 1) := by decide +kernel
theorem dX12_goOver_110 : decode cX12_goOver 110 = .ok (.ireturn, 1) := by decide +kernel
theorem dX12_goOver_100 : decode cX12_goOver 100 = .ok (.aload_n 0, 1) := by decide +kernel
theorem dX12_goOver_101 : decode cX12_goOver 101 = .ok (.invokevirtual 379, 3) := by decide +kernel
theorem dX12_goOver_104 : decode cX12_goOver 104 = .ok (.ifCond .ne (-11), 3) := by decide +kernel
theorem dX12_goOver_107 : decode cX12_goOver 107 = .ok (.iconst 0, 1) := by decide +kernel
theorem dX12_goOver_108 : decode cX12_goOver 108 = .ok (.ireturn, 1) := by decide +kernel
set_option maxHeartbeats 4000000 in
set_option maxRecDepth 20000 in
theorem l_go93 (d : Nat) {b : Nat} {σ0 : MS} {w : Int} {ρ : MS} {σa : MS} {post : Option Value → MS → Prop} (hR0 : RG σ0) (hw : 0 ≤ w ∧ w ≤ 3) (hbg : GBG w ρ σa) (hfa : Fr [19, 20, 22, 23] [] [24] σa σ0) (e1 : tks σ0 = advT (sv σ0) 0) (e2 : σ0.1 28 = 0 ∧ σ0.1 29 = 0) (hen : w = 3 → GEN (sv σ0) σ0) (h25 : σ0.1 25 = w) (ha : σ0.1 30 = 0 ∧ σ0.1 31 = 0) (svr : sv σ0 = sv ρ) (tbr : w ≠ 1 → TBm ρ σ0) (hret : ∀ (v : Int) (τ : MS), Fr [19, 20, 22, 23, 25, 26, 27, 28, 29, 30, 31, 32, 33, 34, 39, 40, 43] [3, 4, 5, 6, 7, 8, 9, 35, 36, 37, 41, 42, 45] [24, 38, 44] σ0 τ → RG τ → (v = 0 ∨ v = 1) → GKP w ρ τ → (v = 1 → GQ1 w ρ τ) → (v = 0 → GFL (sS 25 w ρ) τ) → post (some (.int (iI v))) τ) : ∀ (n : Nat) (σ : MS) , (Fr [19, 20, 22, 23, 25, 26, 27, 28, 29, 30, 31, 32, 33, 34, 39, 40, 43] [3, 4, 5, 6, 7, 8, 9, 35, 36, 37, 41, 42, 45] [24, 38, 44] σ0 σ) → (RG σ) → (∃ lg, GRD σ0 σ lg ∧ nR lg = σ.1 30 ∧ (w = 2 → σ.1 26 = 0 → ∀ e ∈ lg, E2 σ0 e) ∧ (w = 3 → GRM σ0 σ lg)) → (TOK σ) → (0 ≤ σ.1 30 ∧ 5 * σ.1 30 ≤ σ.1 19) → (0 ≤ σ.1 31 ∧ σ.1 31 ≤ σ.1 19) → (σ.1 28 = 0 ∧ σ.1 29 = 0) → (w = 1 → σ.1 43 = σ.1 30) → (PGO σ0 σ) → (w = 1 → IV1 σ) → (w = 3 → (∀ r, 0 ≤ r → r < σ.1 30 → PLI σ r) ∧ ∀ j, σ.1 30 ≤ j → σ.2.1 9 j = σ0.2.1 9 j) → (1300 - σ.1 19).toNat = n → Tm (d + 64) m_X12_goOver 93 b σ [(1, .int (iI w)), (0, .ref b)] [] post := by
  intro n
  induction n using Nat.strongRecOn with
  | _ n ih =>
    intro  σ hF hR hI htk h30 h31 h28 h43 hpg hv1 hv3 hm
    obtain ⟨lg, gr, gn, g2, gm⟩ := hI
    have tk := htk.1
    have e25 : σ.1 25 = w := hpg.2.2.2.2.1.trans h25
    have fsv : sv σ = sv σ0 := sv_fr hF (by decide) (by decide)
    refine tm_aload_n dX12_goOver_93 rfl 1 rfl ?_
    refine tm_getS (k := 22) (t := σ.1 22) dX12_goOver_94 (by decide) fl12_226 rfl (rfl) ?_
    have g1 := RG.s hR 22
    refine tm_if_eq (tgt := 109) dX12_goOver_97 (by decide) ⟨by omega, by omega⟩ (fun h2 => ?_) (fun h2 => ?_)
    · refine tm_iconst dX12_goOver_109 ?_
      obtain ⟨t9, x9, e9, r9, f9⟩ := gr.fin e1 e2 (by omega)
      exact tm_zret (v := 1) rfl (by decide) dX12_goOver_110 (hret _ _ (Fr.rfl.trans (Fr.sub hF (by decide) (by decide) (by decide))) hR (by omega) (hbg.kp hfa hpg) (fun _ => ⟨t9, x9, lg, e9, ⟨by rw [← svr]; exact r9, σ0, hbg.igo hfa, f9⟩, gn, fun z1 z2 e he => (g2 z1 z2 e he).bt (tbr (by omega)), fun z => ⟨h43 z, hv1 z⟩, fun z => ⟨(hv3 z).1, fun j c => ((hv3 z).2 j c).trans (congrFun ((hfa.2.1 9 (by decide)).trans (hbg.1.2.1 9 (by decide))) j)⟩, fun z => (gm z).fin e1 e2 (by omega) fsv svr ha.1 ha.2 ((hfa.1 39 (by decide)).trans (hbg.1.1 39 (by decide))) ((hfa.1 40 (by decide)).trans (hbg.1.1 40 (by decide))) ((hfa.2.1 35 (by decide)).trans (hbg.2.2.2.2.1 (by omega)).2.1) ((hfa.2.2 38 (by decide)).trans (hbg.1.2.2 38 (by decide))) ((hfa.1 43 (by decide)).trans (hbg.2.2.2.2.1 (by omega)).1) ((hfa.2.2 44 (by decide)).trans (hbg.1.2.2 44 (by decide)))⟩) (fun q => absurd q (by decide)))
    · have tb0 : w ≠ 1 → TBm σ0 σ := fun z => (hpg.2.1 (by rw [h25]; exact z)).2.2.2
      have hoh : ORH σ := ⟨htk, by omega, h30, h31, h28, hpg.2.2.1, ⟨hpg.2.2.2.2.2, fun z => h43 (by omega)⟩, HQR.mk gr e1 e2 gn (fun z => hen (by omega)) (fun z => tb0 (by omega)) (by omega)⟩
      refine tm_aload_n dX12_goOver_100 rfl 1 rfl ?_
      refine tm_callV (M := m_X12_goOver) (pc := 101) (ix := 379) (M' := m_X12_oneRoutine) (As := []) (rest := []) dX12_goOver_101 ok_X12_oneRoutine im_X12_oneRoutine se_X12_oneRoutine ml12_379 np_X12_oneRoutine rfl rfl (Nat.le_of_ble_eq_true rfl) (Nat.le_of_ble_eq_true rfl) rfl (c_X12_oneRoutine (d) (σ := σ)  hR hoh) (fun r3 σ4 hp => ?_)
      obtain ⟨v5, rfl, f6, f7, f8, f9, f10, f11⟩ := hp
      show Tm _ _ 104 b σ4 [(1, .int (iI w)), (0, .ref b)] [.int (iI v5)] _
      have on0 := f6
      have on1 := f7
      have on2 := f8
      have on3 := f9
      have on4 := f10
      have on5 := f11
      refine tm_if_ne (tgt := 93) dX12_goOver_104 (by decide) ⟨by omega, by omega⟩ (fun h12 => ?_) (fun h12 => ?_)
      · have oq := on4 (by omega)
        obtain ⟨l2, q1, q2, qm, q3, q4, q5⟩ := oq.2.2
        have r6 : w = 3 → σ.1 30 < 6 := fun z => (hoh.2.2.2.2.2.2.2 (by omega) _ _ q1).1 (by rw [q2]; decide)
        have tkz := oq.1.1
        have plz := oq.2.1.2.1
        exact tm_sub [0, 1] rfl (ih _ (by omega)  σ4 ((Fr.rfl.trans (Fr.sub hF (by decide) (by decide) (by decide))).trans (Fr.sub f7 (by decide) (by decide) (by decide))) f8 (⟨lg ++ l2, gr.step (by omega) q1, by rw [nR_app, gn, q2, oq.2.1.1], fun z1 z2 e he => by have y1 : σ.1 26 = 0 := Classical.byContradiction (fun y => on3.2.2.2.1.1 y z2); rcases List.mem_append.mp he with y | y; exact g2 z1 y1 e y; exact (q3 (by omega) z2 e y).bt (tb0 (by omega)), fun z => (gm z).step (by omega) fsv (qm (by omega)) (fun x y1 y2 => on3.1 x y1 (by omega)) (fun j y => on3.2.2.2.2.2.1 j (Or.inl y)) (fun r y1 y2 => by have z5 := ((hv3 z).1 r y1 y2).1; omega) h30.1 (r6 z) oq.2.1.1 (hpg.2.1 (by omega)).1 (hpg.2.1 (by omega)).2.1 (tb0 (by omega)).1 (tb0 (by omega)).2.2.2⟩) (oq.1) ((by have z := oq.2.1; omega)) (oq.2.1.2.2.1) (⟨oq.2.1.2.2.2.1, oq.2.1.2.2.2.2⟩) ((fun z => by have z1 := (q4 (by omega)).1; have z2 := h43 z; have z3 := oq.2.1.1; omega)) ((hpg.step on3)) ((fun z => (hv1 z).step (q4 (by omega)) on3.2.2.2.1 oq.2.1.1 (h43 z) h30.1)) ((fun z => ⟨fun r a c => (Classical.em (r = σ.1 30)).elim (fun y => by rw [y]; exact q5 (by omega)) (fun y => ((hv3 z).1 r a (by have z3 := oq.2.1.1; omega)).oth ⟨a, by have z3 := oq.2.1.1; have z4 := r6 z; omega⟩ on3 (by have z3 := oq.2.1.1; omega) (by omega)), fun j c => (on3.2.2.2.2.2.1 j (Or.inl (by have z3 := oq.2.1.1; omega))).trans ((hv3 z).2 j (by have z3 := oq.2.1.1; omega))⟩)) rfl)
      · refine tm_iconst dX12_goOver_107 ?_
        exact tm_zret (v := 0) rfl (by decide) dX12_goOver_108 (hret _ _ ((Fr.rfl.trans (Fr.sub hF (by decide) (by decide) (by decide))).trans (Fr.sub f7 (by decide) (by decide) (by decide))) f8 (by omega) (hbg.kp hfa (hpg.step on3)) (fun q => absurd q (by decide)) (fun _ => by obtain ⟨es, p, z1, z2⟩ := gr.fail e1 e2 (by omega) (on5 (by omega)); exact ⟨es, p, by show RE (sv ρ) (GST (sv ρ)) _ _; rw [← svr]; exact z1, fun y1 y2 => z2 (by rw [h25]; exact y1) (by rw [hfa.1 26 (by decide), hbg.1.1 26 (by decide)]; exact y2)⟩))
theorem dX12_goOver_68 : decode cX12_goOver 68 = .ok (.iconst 0, 1) := by decide +kernel
theorem dX12_goOver_69 : decode cX12_goOver 69 = .ok (.istore_n 2, 1) := by decide +kernel
theorem dX12_goOver_89 : decode cX12_goOver 89 = .ok (.aload_n 0, 1) := by decide +kernel
theorem dX12_goOver_90 : decode cX12_goOver 90 = .ok (.invokevirtual 265, 3) := by decide +kernel
set_option maxHeartbeats 4000000 in
set_option maxRecDepth 20000 in
theorem b_go68 (d : Nat) {b : Nat} {σ : MS} {w : Int} {ρ : MS} {post : Option Value → MS → Prop} (hR : RG σ) (hw : 0 ≤ w ∧ w ≤ 3) (hbg : GBG w ρ σ) (hlen : 0 ≤ ρ.1 21 ∧ ρ.1 21 ≤ 1200) (hq3 : w = 3 → GEN (sv ρ) ρ) (hret : ∀ (v : Int) (τ : MS), Fr [19, 20, 22, 23, 25, 26, 27, 28, 29, 30, 31, 32, 33, 34, 39, 40, 43] [3, 4, 5, 6, 7, 8, 9, 35, 36, 37, 41, 42, 45] [24, 38, 44] σ τ → RG τ → (v = 0 ∨ v = 1) → GKP w ρ τ → (v = 1 → GQ1 w ρ τ) → (v = 0 → GFL (sS 25 w ρ) τ) → post (some (.int (iI v))) τ) : ∀ (n : Nat) , ((0 : Int)).toNat = n → Tm (d + 64) m_X12_goOver 68 b σ [(1, .int (iI w)), (0, .ref b)] [] post := by
  intro n
  induction n using Nat.strongRecOn with
  | _ n ih =>
    intro   hm
    have hb2 := hbg.2.1
    have hb1 := hbg.1
    refine tm_iconst dX12_goOver_68 ?_
    refine tm_istore_n (L' := [(2, .int (iI 0)), (1, .int (iI w)), (0, .ref b)]) dX12_goOver_69 rfl (by decide) rfl ?_
    refine tm_sub [0, 1, 2] rfl (l_go70 (d + 63) (σ0 := σ) (w := w) hR (fun i6 σ7 F3 R4 f5 => ?_) _ (0) σ Fr.rfl hR (by omega) (fun r a c => absurd c (by omega)) rfl)
    show Tm _ _ 89 b σ7 [(2, .int (iI i6)), (1, .int (iI w)), (0, .ref b)] [] _
    have hz9 := f5
    have hbg9 : GBG w ρ σ7 := ⟨hb1.trans (Fr.sub F3 (by decide) (by decide) (by decide)), by rw [F3.1 25 (by decide), F3.1 20 (by decide), F3.1 28 (by decide), F3.1 29 (by decide), F3.1 30 (by decide), F3.1 31 (by decide)]; exact hb2, hbg.2.2.1.fr F3 (by decide), fun z => by rw [F3.1 43 (by decide), F3.2.1 35 (by decide)]; exact hbg.2.2.2.1 z, fun z => by rw [F3.1 43 (by decide), F3.2.1 35 (by decide), F3.2.1 36 (by decide)]; exact hbg.2.2.2.2.1 z, by rw [F3.1 43 (by decide)]; exact hbg.2.2.2.2.2⟩
    have e219 : σ7.1 21 = ρ.1 21 := hbg9.1.1 21 (by decide)
    have b20 := hbg9.2.1
    have R89 := R4
    refine tm_aload_n dX12_goOver_89 rfl 2 rfl ?_
    refine tm_callV (M := m_X12_goOver) (pc := 90) (ix := 265) (M' := m_X12_advance) (As := []) (rest := []) dX12_goOver_90 ok_X12_advance im_X12_advance se_X12_advance ml12_265 np_X12_advance rfl rfl (Nat.le_of_ble_eq_true rfl) (Nat.le_of_ble_eq_true rfl) rfl (c_X12_advance (d + 58) (σ := σ7)  R89 (by rw [e219]; omega)) (fun r8 σ9 hp => ?_)
    obtain ⟨rfl, f11, f12, f13, f14, f15⟩ := hp
    show Tm _ _ 93 b σ9 [(2, .int (iI i6)), (1, .int (iI w)), (0, .ref b)] [] _
    have ad0 := f11
    have ad1 := f12
    have ad2 := f13
    have ad3 := f14
    have ad4 := f15
    have sv1 : sv σ9 = sv σ7 := ad0.2.2.1
    have svr : sv σ9 = sv ρ := sv1.trans (sv_fr hbg9.1 (by decide) (by decide))
    have tbb : w ≠ 1 → TBm ρ σ7 := fun z => ⟨(hbg9.2.2.2.2.1 z).1, hbg9.1.2.1 11 (by decide), hbg9.1.2.1 45 (by decide), hbg9.1.2.2 44 (by decide)⟩
    have tka := ad3.1
    have tbr : w ≠ 1 → TBm ρ σ9 := fun z => (tbb z).trans (TBm.of ad1 (by decide) (by decide) (by decide) (by decide))
    have nna : NN σ9 := hbg9.2.2.1.fr ad1 (by decide)
    have a25 : σ9.1 25 = w := (ad1.1 25 (by decide)).trans b20.1
    have a28 : σ9.1 28 = 0 ∧ σ9.1 29 = 0 := ⟨(ad1.1 28 (by decide)).trans b20.2.2.1, (ad1.1 29 (by decide)).trans b20.2.2.2.1⟩
    have a30 : σ9.1 30 = 0 := (ad1.1 30 (by decide)).trans b20.2.2.2.2.1
    have a31 : σ9.1 31 = 0 := (ad1.1 31 (by decide)).trans b20.2.2.2.2.2
    have a43 : σ9.1 43 = σ7.1 43 := ad1.1 43 (by decide)
    have ae1 : tks σ9 = advT (sv σ9) 0 := by rw [sv1, ad0.1, b20.2.1]
    refine tm_sub [1, 2] rfl (l_go93 (d) (σ0 := σ9) (w := w) (ρ := ρ) (σa := σ7) f13 hw hbg9 ad1 ae1 a28 (fun z => by obtain ⟨t, x, l, r1, r2, r3⟩ := hq3 z; exact ⟨t, x, l, by rw [svr]; exact r1, r2, fun e he => (r3 e he).tb (tbr (by omega))⟩) a25 ⟨a30, a31⟩ svr tbr (fun v τ z1 z2 z3 z4 z5 z6 => hret v τ ((show Fr [19, 20, 22, 23, 25, 26, 27, 28, 29, 30, 31, 32, 33, 34, 39, 40, 43] [3, 4, 5, 6, 7, 8, 9, 35, 36, 37, 41, 42, 45] [24, 38, 44] σ σ9 from ((Fr.rfl.trans (Fr.sub F3 (by decide) (by decide) (by decide))).trans (Fr.sub f12 (by decide) (by decide) (by decide)))).trans z1) z2 z3 z4 z5 z6) _ σ9 Fr.rfl f13 ⟨[], ⟨0, GOS.nop rfl rfl⟩, a30.symm, fun _ _ e he => absurd he (List.not_mem_nil), fun _ => GRM.begin a30 (fun r y1 y2 => (congrFun (ad1.2.1 37 (by decide)) r).trans (hz9 r y1 y2))⟩ ad3 (by omega) (by omega) a28 (fun z => by rw [a43, a30]; exact (hbg9.2.2.2.1 z).1) (PGO.rfl nna (by rw [a43]; exact hbg9.2.2.2.2.2)) (fun _ _ => ⟨by omega, fun v z1 z2 => absurd z2 (by omega)⟩) (fun _ => ⟨fun r z1 z2 => absurd z2 (by omega), fun _ _ => rfl⟩) rfl)
theorem dX12_goOver_0 : decode cX12_goOver 0 = .ok (.aload_n 0, 1) := by decide +kernel
theorem dX12_goOver_1 : decode cX12_goOver 1 = .ok (.iload_n 1, 1) := by decide +kernel
theorem dX12_goOver_2 : decode cX12_goOver 2 = .ok (.putfield 255, 3) := by decide +kernel
theorem dX12_goOver_5 : decode cX12_goOver 5 = .ok (.aload_n 0, 1) := by decide +kernel
theorem dX12_goOver_6 : decode cX12_goOver 6 = .ok (.iconst 0, 1) := by decide +kernel
theorem dX12_goOver_7 : decode cX12_goOver 7 = .ok (.putfield 210, 3) := by decide +kernel
theorem dX12_goOver_10 : decode cX12_goOver 10 = .ok (.aload_n 0, 1) := by decide +kernel
theorem dX12_goOver_11 : decode cX12_goOver 11 = .ok (.iconst 0, 1) := by decide +kernel
theorem dX12_goOver_12 : decode cX12_goOver 12 = .ok (.putfield 268, 3) := by decide +kernel
theorem dX12_goOver_15 : decode cX12_goOver 15 = .ok (.aload_n 0, 1) := by decide +kernel
theorem dX12_goOver_16 : decode cX12_goOver 16 = .ok (.iconst 0, 1) := by decide +kernel
theorem dX12_goOver_17 : decode cX12_goOver 17 = .ok (.putfield 343, 3) := by decide +kernel
theorem dX12_goOver_20 : decode cX12_goOver 20 = .ok (.aload_n 0, 1) := by decide +kernel
theorem dX12_goOver_21 : decode cX12_goOver 21 = .ok (.iconst 0, 1) := by decide +kernel
theorem dX12_goOver_22 : decode cX12_goOver 22 = .ok (.putfield 304, 3) := by decide +kernel
theorem dX12_goOver_25 : decode cX12_goOver 25 = .ok (.aload_n 0, 1) := by decide +kernel
theorem dX12_goOver_26 : decode cX12_goOver 26 = .ok (.iconst 0, 1) := by decide +kernel
theorem dX12_goOver_27 : decode cX12_goOver 27 = .ok (.putfield 333, 3) := by decide +kernel
theorem dX12_goOver_30 : decode cX12_goOver 30 = .ok (.iload_n 1, 1) := by decide +kernel
theorem dX12_goOver_31 : decode cX12_goOver 31 = .ok (.iconst 1, 1) := by decide +kernel
theorem dX12_goOver_32 : decode cX12_goOver 32 = .ok (.if_icmp .ne 36, 3) := by decide +kernel
theorem dX12_goOver_35 : decode cX12_goOver 35 = .ok (.aload_n 0, 1) := by decide +kernel
theorem dX12_goOver_36 : decode cX12_goOver 36 = .ok (.iconst 0, 1) := by decide +kernel
theorem dX12_goOver_37 : decode cX12_goOver 37 = .ok (.putfield 376, 3) := by decide +kernel
theorem dX12_goOver_40 : decode cX12_goOver 40 = .ok (.iconst 0, 1) := by decide +kernel
theorem dX12_goOver_41 : decode cX12_goOver 41 = .ok (.istore_n 2, 1) := by decide +kernel
set_option maxHeartbeats 4000000 in
set_option maxRecDepth 20000 in
theorem c_X12_goOver (d : Nat) {b : Nat} {σ : MS} {w : Int} (hR : RG σ) (hw : 0 ≤ w ∧ w ≤ 3) (hlen : 0 ≤ σ.1 21 ∧ σ.1 21 ≤ 1200) (hnn : NN σ) (h43 : 0 ≤ σ.1 43 ∧ σ.1 43 ≤ 260) (hq3 : w = 3 → GEN (sv σ) σ) : Tm (d + 64) m_X12_goOver 0 b σ [(0, .ref b), (1, .int (iI w))] [] (fun ro σ2 => ∃ v : Int, ro = some (.int (iI v)) ∧ ((v = 0 ∨ v = 1)) ∧ (Fr [19, 20, 22, 23, 25, 26, 27, 28, 29, 30, 31, 32, 33, 34, 39, 40, 43] [3, 4, 5, 6, 7, 8, 9, 35, 36, 37, 41, 42, 45] [24, 38, 44] σ σ2) ∧ (RG σ2) ∧ (GKP w σ σ2) ∧ (Im v 1 (GQ1 w σ σ2)) ∧ (Im v 0 (GFL (sS 25 w σ) σ2))) := by
  refine tm_aload_n dX12_goOver_0 rfl 0 rfl ?_
  refine tm_iload_n dX12_goOver_1 rfl 1 rfl ?_
  refine tm_putS (k := 25) (v := w) lay_12 dX12_goOver_2 (by decide) fl12_255 rfl (tyX12_ok 25 (by decide)) rfl rfl rfl ?_
  refine tm_aload_n dX12_goOver_5 rfl 0 rfl ?_
  refine tm_iconst dX12_goOver_6 ?_
  refine tm_putS (k := 20) (v := 0) lay_12 dX12_goOver_7 (by decide) fl12_210 rfl (tyX12_ok 20 (by decide)) rfl rfl rfl ?_
  refine tm_aload_n dX12_goOver_10 rfl 0 rfl ?_
  refine tm_iconst dX12_goOver_11 ?_
  refine tm_putS (k := 30) (v := 0) lay_12 dX12_goOver_12 (by decide) fl12_268 rfl (tyX12_ok 30 (by decide)) rfl rfl rfl ?_
  refine tm_aload_n dX12_goOver_15 rfl 0 rfl ?_
  refine tm_iconst dX12_goOver_16 ?_
  refine tm_putS (k := 31) (v := 0) lay_12 dX12_goOver_17 (by decide) fl12_343 rfl (tyX12_ok 31 (by decide)) rfl rfl rfl ?_
  refine tm_aload_n dX12_goOver_20 rfl 0 rfl ?_
  refine tm_iconst dX12_goOver_21 ?_
  refine tm_putS (k := 28) (v := 0) lay_12 dX12_goOver_22 (by decide) fl12_304 rfl (tyX12_ok 28 (by decide)) rfl rfl rfl ?_
  refine tm_aload_n dX12_goOver_25 rfl 0 rfl ?_
  refine tm_iconst dX12_goOver_26 ?_
  refine tm_putS (k := 29) (v := 0) lay_12 dX12_goOver_27 (by decide) fl12_333 rfl (tyX12_ok 29 (by decide)) rfl rfl rfl ?_
  refine tm_iload_n dX12_goOver_30 rfl 1 rfl ?_
  refine tm_iconst dX12_goOver_31 ?_
  refine tm_icmp_ne (tgt := 68) dX12_goOver_32 (by decide) ⟨by omega, by omega⟩ ⟨by decide, by decide⟩ (fun h1 => ?_) (fun h1 => ?_)
  · refine tm_sub [1, 0] rfl (b_go68 (d) (σ := (sS 29 0 (sS 28 0 (sS 31 0 (sS 30 0 (sS 20 0 (sS 25 w σ))))))) (w := w) (ρ := σ) ((((((hR.S (by omega)).S (by omega)).S (by omega)).S (by omega)).S (by omega)).S (by omega)) hw ⟨((((((Fr.rfl.S (by decide)).S (by decide)).S (by decide)).S (by decide)).S (by decide)).S (by decide)), ⟨rs_o (by decide) (rs_o (by decide) (rs_o (by decide) (rs_o (by decide) (rs_o (by decide) (rs_eq))))), rs_o (by decide) (rs_o (by decide) (rs_o (by decide) (rs_o (by decide) (rs_eq)))), rs_o (by decide) (rs_eq), rs_eq, rs_o (by decide) (rs_o (by decide) (rs_o (by decide) (rs_eq))), rs_o (by decide) (rs_o (by decide) (rs_eq))⟩, hnn, fun z => absurd z (by omega), fun _ => ⟨rfl, rfl, rfl⟩, h43⟩ hlen hq3 (fun v τ z1 z2 z3 z4 z5 z6 => ⟨_, rfl, z3, (show Fr [19, 20, 22, 23, 25, 26, 27, 28, 29, 30, 31, 32, 33, 34, 39, 40, 43] [3, 4, 5, 6, 7, 8, 9, 35, 36, 37, 41, 42, 45] [24, 38, 44] σ (sS 29 0 (sS 28 0 (sS 31 0 (sS 30 0 (sS 20 0 (sS 25 w σ)))))) from ((((((Fr.rfl.S (by decide)).S (by decide)).S (by decide)).S (by decide)).S (by decide)).S (by decide))).trans z1, z2, z4, z5, z6⟩) _  rfl)
  · refine tm_aload_n dX12_goOver_35 rfl 0 rfl ?_
    refine tm_iconst dX12_goOver_36 ?_
    refine tm_putS (k := 43) (v := 0) lay_12 dX12_goOver_37 (by decide) fl12_376 rfl (tyX12_ok 43 (by decide)) rfl rfl rfl ?_
    refine tm_iconst dX12_goOver_40 ?_
    refine tm_istore_n (L' := [(2, .int (iI 0)), (0, .ref b), (1, .int (iI w))]) dX12_goOver_41 rfl (by decide) rfl ?_
    refine tm_sub [0, 2, 1] rfl (l_go42 (d + 63) (σ0 := (sS 43 0 (sS 29 0 (sS 28 0 (sS 31 0 (sS 30 0 (sS 20 0 (sS 25 w σ)))))))) (w := w) (((((((hR.S (by omega)).S (by omega)).S (by omega)).S (by omega)).S (by omega)).S (by omega)).S (by omega)) (fun i8 σ9 F4 R5 f6 f7 => ?_) _ (0) (sS 43 0 (sS 29 0 (sS 28 0 (sS 31 0 (sS 30 0 (sS 20 0 (sS 25 w σ))))))) Fr.rfl (((((((hR.S (by omega)).S (by omega)).S (by omega)).S (by omega)).S (by omega)).S (by omega)).S (by omega)) (by omega) (fun r a c => absurd c (by omega)) rfl)
    show Tm _ _ 68 b σ9 [(2, .int (iI i8)), (1, .int (iI w)), (0, .ref b)] [] _
    refine tm_sub [1, 2] rfl (b_go68 (d) (σ := σ9) (w := w) (ρ := σ) R5 hw ⟨((((((((Fr.rfl.S (by decide)).S (by decide)).S (by decide)).S (by decide)).S (by decide)).S (by decide)).S (by decide)).trans (Fr.sub F4 (by decide) (by decide) (by decide))), ⟨rs_F F4 (by decide) (rs_o (by decide) (rs_o (by decide) (rs_o (by decide) (rs_o (by decide) (rs_o (by decide) (rs_o (by decide) (rs_eq))))))), rs_F F4 (by decide) (rs_o (by decide) (rs_o (by decide) (rs_o (by decide) (rs_o (by decide) (rs_o (by decide) (rs_eq)))))), rs_F F4 (by decide) (rs_o (by decide) (rs_o (by decide) (rs_eq))), rs_F F4 (by decide) (rs_o (by decide) (rs_eq)), rs_F F4 (by decide) (rs_o (by decide) (rs_o (by decide) (rs_o (by decide) (rs_o (by decide) (rs_eq))))), rs_F F4 (by decide) (rs_o (by decide) (rs_o (by decide) (rs_o (by decide) (rs_eq))))⟩, f6, fun _ => ⟨(show σ9.1 43 = 0 from rs_F F4 (by decide) (rs_eq)), f7⟩, fun z => absurd (by omega) z, by rw [(show σ9.1 43 = 0 from rs_F F4 (by decide) (rs_eq))]; decide⟩ hlen hq3 (fun v τ z1 z2 z3 z4 z5 z6 => ⟨_, rfl, z3, (show Fr [19, 20, 22, 23, 25, 26, 27, 28, 29, 30, 31, 32, 33, 34, 39, 40, 43] [3, 4, 5, 6, 7, 8, 9, 35, 36, 37, 41, 42, 45] [24, 38, 44] σ σ9 from ((((((((Fr.rfl.S (by decide)).S (by decide)).S (by decide)).S (by decide)).S (by decide)).S (by decide)).S (by decide)).trans (Fr.sub F4 (by decide) (by decide) (by decide)))).trans z1, z2, z4, z5, z6⟩) _  rfl)
end
section
theorem CW.ext {n F R : Int} {K D O K' D' O' FI fr lf : Int → Int} (h : CW n F R K D O FI fr lf) (e : ∀ k, 0 ≤ k → k < n → K' k = K k ∧ D' k = D k ∧ O' k = O k) : CW n F R K' D' O' FI fr lf := by
  obtain ⟨c1, c2, c3, c4, c5⟩ := h
  refine ⟨c1, c2, fun k a b x7 x8 => ?_, fun k a b => ?_, fun k a b z => ?_⟩
  · rw [(e k a b).1] at x7 x8 ⊢
    rw [(e k a b).2.1]
    exact c3 k a b x7 x8
  · rw [(e k a b).1, (e k a b).2.1]; exact c4 k a b
  · rw [(e k a b).1] at z
    obtain ⟨d0, j, d1, d2, d3, d4, d5⟩ := c5 k a b z
    exact ⟨by rw [(e k a b).2.2]; exact d0, j, d1, d2, by rw [(e j d1 (by omega)).1]; exact d3, by rw [(e j d1 (by omega)).2.2]; exact d4, fun i x y => by rw [(e i (by omega) (by omega)).1]; exact d5 i x y⟩
def KPR (σ τ : MS) : Prop := (∀ x, x ≠ 2640 → IEQ σ x τ x) ∧ τ.2.1 9 = σ.2.1 9
theorem KPR.trans {σ τ υ : MS} (h : KPR σ τ) (g : KPR τ υ) : KPR σ υ := ⟨fun x a => (h.1 x a).trans (g.1 x a), g.2.trans h.2⟩
theorem KPR.xr {σ τ : MS} (h : KPR σ τ) : XR 12 σ τ := ⟨fun y _ b => ⟨(h.1 y (by omega)).1, (h.1 y (by omega)).2.1, (h.1 y (by omega)).2.2.1, (h.1 y (by omega)).2.2.2.1⟩, fun z _ b => by
  by_cases n0 : 0 ≤ z
  · have q := (h.1 (z / 4) (by omega)).2.2.2.2 (z % 4) (by omega) (by omega)
    rw [show 4 * (z / 4) + z % 4 = z by omega] at q
    exact q
  · have q := (h.1 (z / 4) (by omega)).2.2.2.2 (z % 4) (by omega) (by omega)
    rw [show 4 * (z / 4) + z % 4 = z by omega] at q
    exact q⟩
section KP
variable {ss ks js : List Nat} {σ τ : MS}
theorem GDA.kpr (h : GDA σ) (hn : NAM σ) (x : KPR σ τ) (f : Fr ss ks js σ τ) (hs : 10 ∉ ss) (hk : ∀ k ∈ [11, 12, 14, 15, 16, 18], k ∉ ks) : GDA τ := by
  refine ⟨by rw [f.1 10 hs]; exact h.1, fun r a b => ?_⟩
  rw [f.1 10 hs] at b
  have r6 := h.1.2
  exact (h.2 r a b).oth (r := 12) ⟨a, by omega, by omega⟩ hn x.xr (by rw [x.2]) (by rw [f.q hk (k := 14) (by decide)]) (f.q hk (k := 11) (by decide)) (f.q hk (k := 12) (by decide)) (f.1 10 hs) (fun y _ => by rw [f.q hk (k := 15) (by decide), f.q hk (k := 16) (by decide)]; exact ⟨rfl, rfl⟩) (fun z _ => by rw [f.q hk (k := 18) (by decide)])
theorem PLC.kpr {m r p f : Int} (h : PLC σ m r p f) (x : KPR σ τ) (g : Fr ss ks js σ τ) (hs : 10 ∉ ss) (hk : ∀ k ∈ [14, 16], k ∉ ks) (hb : 0 ≤ bkm m + r ∧ bkm m + r < 12) (h9 : σ.2.1 9 (bkm m + r) ≤ 220) : PLC τ m r p f := by
  obtain ⟨h1, h2, fr, lf, c, e⟩ := h
  refine ⟨by rw [g.1 10 hs]; exact h1, by rw [x.2]; exact h2, fr, lf, ?_, e⟩
  rw [g.1 10 hs, x.2, fm_fr g (hk 14 (by decide)), prm_fr g (hk 16 (by decide))]
  have r0 := hb
  refine c.ext (fun k a b => ?_)
  have q := x.1 (220 * (bkm m + r) + k) (by omega)
  exact ⟨q.1, q.2.1, q.2.2.1⟩
theorem BKG.kpr {m r : Int} (h : BKG σ m r) (x : KPR σ τ) (g : Fr ss ks js σ τ) (hs : 10 ∉ ss) (hk : ∀ k ∈ [11, 14, 16, 18], k ∉ ks) (hb : 0 ≤ bkm m + r ∧ bkm m + r < 12) : BKG τ m r := by
  obtain ⟨h1, h2, h3, ⟨fr, lf, h4⟩, h5, h6, h7⟩ := h
  have q : ∀ k, 0 ≤ k → k < 220 → IEQ σ (220 * (bkm m + r) + k) τ (220 * (bkm m + r) + k) := fun k a b => x.1 _ (by omega)
  unfold BKG
  rw [fm_fr g (hk 14 (by decide)), prm_fr g (hk 16 (by decide)), g.q hk (k := 18) (by decide), g.q hk (k := 11) (by decide), g.1 10 hs, x.2]
  refine ⟨h1, fun k a b => ?_, fun k a b e => ?_, ⟨fr, lf, h4.ext (fun k a b => ⟨(q k a (by omega)).1, (q k a (by omega)).2.1, (q k a (by omega)).2.2.1⟩)⟩, h5, h6, h7⟩
  · rw [x.2] at b
    exact (q k a (by omega)).oki (g.q hk (k := 11) (by decide)) (h2 k a b)
  · rw [x.2] at b
    rw [(q k a (by omega)).1] at e
    obtain ⟨j, j0, j1, j2, j3⟩ := h3 k a b e
    exact ⟨j, j0, by rw [x.2]; exact j1, by rw [(q j j0 (by omega)).1]; exact j2, by rw [(q j j0 (by omega)).2.1, (q k a (by omega)).2.1]; exact j3⟩
theorem PLA.kpr (h : PLA σ) (x : KPR σ τ) (g : Fr ss ks js σ τ) (hs : 10 ∉ ss) (hk : ∀ k ∈ [11, 14, 16, 18], k ∉ ks) : PLA τ := by
  obtain ⟨⟨h1, h2⟩, h3⟩ := h
  have b2 : bkm 2 = 6 := rfl
  refine ⟨⟨by rw [g.1 10 hs]; exact h1, fun r a b => ?_⟩, fun r a b => ?_⟩
  · rw [g.1 10 hs] at b
    exact (h2 r a b).kpr x g hs hk (by rw [b2]; omega)
  · rw [g.1 10 hs] at b
    have q9 := (h2 r a b).1
    rw [b2] at q9
    have q : ∀ k, 0 ≤ k → k < 220 → IEQ σ (220 * (6 + r) + k) τ (220 * (6 + r) + k) := fun k a b => x.1 _ (by omega)
    have p := h3 r a b
    unfold PLN kdm dsm at p ⊢
    rw [b2] at p ⊢
    rw [x.2]
    refine ⟨?_, fun p0 j c1 c2 c3 c4 c5 c6 c7 => ?_⟩
    · rw [(q 0 (by omega) (by omega)).1, (q 1 (by omega) (by omega)).1]; exact p.1
    · rw [(q p0 c1 (by omega)).1] at c5
      rw [(q j c3 (by omega)).1] at c6
      rw [(q j c3 (by omega)).2.1, (q p0 c1 (by omega)).2.1] at c7
      rcases p.2 p0 j c1 c2 c3 c4 c5 c6 c7 with y | y
      · exact Or.inl y
      · exact Or.inr (by rw [(q (j + 1) (by omega) (by omega)).1]; exact y)
theorem RUN.kpr (h : RUN σ 0) (gd : GDA σ) (x : KPR σ τ) (g : Fr ss ks js σ τ) (hs : 10 ∉ ss) (hk : ∀ k ∈ [14, 16, 73, 78, 79, 80], k ∉ ks) : RUN τ 0 := by
  obtain ⟨h1, h2, h3, h4⟩ := h
  have e73 := g.q hk (k := 73) (by decide)
  have e78 := g.q hk (k := 78) (by decide)
  have e79 := g.q hk (k := 79) (by decide)
  have e80 := g.q hk (k := 80) (by decide)
  have b0 : bkm 0 = 0 := rfl
  have key : ∀ c, 9 * 0 ≤ c → c < 9 * 0 + σ.2.1 73 0 → (0 ≤ σ.2.1 78 c ∧ σ.2.1 78 c < 6) ∧ (0 ≤ σ.2.1 79 c ∧ σ.2.1 79 c < 220) ∧ σ.2.1 9 (σ.2.1 78 c) ≤ 200 := fun c a b => by
    have p := h2 c a b
    have p1 := p.1
    have p2 := p.2.1
    have q := (gd.2 _ p1.1 p1.2).1
    have r6 := gd.1.2
    rw [b0, Int.zero_add] at p2
    omega
  refine ⟨by rw [e73]; exact h1, fun c a b => ?_, fun c a b => ?_, ?_⟩
  · rw [e73] at b
    rw [e78, e79, e80]
    have k := key c a b
    exact (h2 c a b).kpr x g hs (fun k q => hk k (by revert k q; decide)) (by rw [b0]; omega) (by rw [b0, Int.zero_add]; omega)
  · rw [e73] at b
    rw [e78, e79]
    have k := key c a (by omega)
    have z := h3 c a b
    unfold kdm at z ⊢
    rw [b0] at z ⊢
    rw [(x.1 _ (by omega)).1]
    exact z
  · rw [dpt_dsum] at h4 ⊢
    rw [e73, e78, e80, dsum_fr g (hk 16 (by decide))]
    exact h4
end KP
def RDQ (σ τ : MS) : Prop := GDA τ ∧ PLA τ ∧ ITM τ ∧ PAR τ ∧ NAM τ ∧ BO 48 τ ∧ (τ.1 67 = 0 ∨ (τ.1 67 = σ.1 67 ∧ τ.1 68 = σ.1 68 ∧ (RUN σ 0 → RUN τ 0)))
def RDH (σ : MS) : Prop := GDA σ ∧ PLA σ ∧ ITM σ ∧ PAR σ ∧ NAM σ ∧ BO 48 σ
theorem RDQ.keep {σ τ : MS} (h : RDH σ) (x : KPR σ τ) (f : Fr [0, 2, 19, 20, 21, 22, 23, 25, 26, 27, 28, 29, 30, 31, 32, 33, 34, 39, 40, 43] [3, 4, 5, 6, 7, 8, 9, 35, 36, 37, 41, 42, 45] [24, 38, 44] σ τ) : RDQ σ τ := by
  obtain ⟨h1, h2, h3, h4, h5, h6⟩ := h
  refine ⟨h1.kpr h5 x f (by decide) (by decide), h2.kpr x f (by decide) (by decide), fun r a b => by rw [x.2]; exact h3 r a b, fun r a b => by rw [f.2.1 11 (by decide)]; exact h4 r a b, fun r a b => by rw [f.2.1 12 (by decide)]; exact h5 r a b, h6.fr f (by decide), Or.inr ⟨f.1 67 (by decide), f.1 68 (by decide), fun r => r.kpr h1 x f (by decide) (by decide)⟩⟩
theorem GKP.kpr {w : Int} {σ τ : MS} (h : GKP w σ τ) (hw : w ≠ 3) : KPR σ τ := h.1 hw
def DNR (σ : MS) (r : Int) : Prop := σ.2.1 14 r = 1 ∧ σ.2.1 15 (12 * r) = r ∧ σ.2.1 16 (12 * r) = -1 ∧ (∀ n, 0 ≤ n → n < 12 → σ.2.1 18 (144 * r + n) = n) ∧ σ.2.1 9 (6 + r) = σ.2.1 9 r ∧ ∀ k, 0 ≤ k → k < σ.2.1 9 r → IEQ σ (220 * r + k) σ (220 * (6 + r) + k)
theorem PLI.cw {σ : MS} {r F R : Int} {FI : Int → Int} (h : PLI σ r) (hF : 1 ≤ F) (hR : σ.1 43 ≤ R) : CW (σ.2.1 9 r) F R (iK σ r) (iD σ r) (iO σ r) FI (fun _ => 0) (fun _ => 0) := by
  obtain ⟨h1, h2, ⟨l, h3, w0, w1, w2, w3, w4⟩, h5, h6⟩ := h
  have lt : ∀ k, 0 ≤ k → k < σ.2.1 9 r → iK σ r k ≠ 7 → k < σ.2.1 9 r - 1 := fun k a b c => by
    by_cases z : k = σ.2.1 9 r - 1
    · rw [z] at c; exact absurd h5 c
    · omega
  refine ⟨rfl, fun _ _ _ => ⟨Int.le_refl _, show (0 : Int) < F by omega⟩, fun k a b x7 x8 => ?_, fun k _ _ => ⟨fun _ => rfl, fun _ => rfl⟩, fun k a b e => ?_⟩
  · have y := lt k a b x7
    have q := w1 k a y
    exact ⟨by omega, fun z => absurd z q.1, fun z => absurd z q.2.1, fun _ _ => rfl⟩
  · have y := lt k a b (by omega)
    obtain ⟨q, j, j0, j1, j2, j3, j4⟩ := w4 k a y e
    exact ⟨by omega, j, j0, j1, j2, j3, fun i x z => (j4 i x z).2⟩
theorem PLI.lex {σ : MS} {r : Int} (h : PLI σ r) : LEX σ r := fun k a b e => by
  obtain ⟨h1, h2, ⟨l, h3, w0, w1, w2, w3, w4⟩, h5, h6⟩ := h
  have y : k < σ.2.1 9 r - 1 := by
    by_cases z : k = σ.2.1 9 r - 1
    · rw [z] at e
      simp only [iK] at h5
      omega
    · omega
  obtain ⟨j, j0, j1, j2, j3⟩ := w2 k a y e
  exact ⟨j, j0, by omega, j2, j3⟩
theorem GDR.plain {σ : MS} {r : Int} (h : PLI σ r) (d : DNR σ r) (hr : 0 ≤ r ∧ r < 6) (e43 : σ.1 43 = σ.1 10) (hn : 0 ≤ σ.2.1 12 r ∧ σ.2.1 12 r ≤ 12) (hp : σ.2.1 11 r ≤ σ.2.1 12 r) : GDR σ r := by
  have lx := h.lex
  have cw := h.cw (F := σ.2.1 14 r) (R := σ.1 10) (FI := iF σ r) (by rw [d.1]; decide) (by omega)
  obtain ⟨d1, d2, d3, d4, d5, d6⟩ := d
  obtain ⟨h1, h2, ⟨l, h3, w0, w1, w2, w3, w4⟩, h5, h6⟩ := h
  have z0 : (12 : Int) * r + 0 = 12 * r := by omega
  refine ⟨by omega, ⟨by rw [d1]; decide, fun f a b => ?_⟩, fun k a b => by rw [d1]; exact h2 k a b, by unfold FR0; rw [z0]; exact d2, lx, ⟨_, _, cw⟩, ⟨by rw [z0]; exact d3, fun f a b => by rw [d1] at b; omega⟩, fun k a b e => ?_, hp⟩
  · have f0 : f = 0 := by rw [d1] at b; omega
    rw [f0, z0, d2]
    refine ⟨hr, fun n x y => ?_⟩
    rw [show 144 * r + 12 * 0 + n = 144 * r + n by omega, d4 n x (by omega)]
    omega
  · rw [d1]
    have y : k < σ.2.1 9 r - 1 := by
      by_cases z : k = σ.2.1 9 r - 1
      · rw [z] at e
        simp only [iK] at h5
        omega
      · omega
    have q := (w1 k a y).2.2 e
    simp only [iD] at q
    omega
theorem BKG.plain {σ : MS} {r : Int} (h : PLI σ r) (d : DNR σ r) (hr : 0 ≤ r ∧ r < 6) (e43 : σ.1 43 = σ.1 10) : BKG σ 2 r ∧ PLN σ r := by
  have lx := h.lex
  have cw := h.cw (F := 1) (R := σ.1 10) (FI := prm σ 2 r) (by decide) (by omega)
  obtain ⟨d1, d2, d3, d4, d5, d6⟩ := d
  obtain ⟨h1, h2, ⟨l, h3, w0, w1, w2, w3, w4⟩, h5, h6⟩ := h
  have b2 : bkm 2 = 6 := rfl
  have f2 : fm σ 2 r = 1 := rfl
  unfold BKG PLN kdm dsm
  rw [b2, f2, d5]
  refine ⟨⟨by omega, fun k a b => ?_, fun k a b e => ?_, ⟨_, _, cw.ext (fun k a b => ⟨(d6 k a b).1, (d6 k a b).2.1, (d6 k a b).2.2.1⟩)⟩, by decide, fun f a b => ?_, fun n _ _ z => absurd rfl z⟩, ?_, fun p j c1 c2 c3 c4 c5 c6 c7 => ?_⟩
  · rw [d5] at b
    exact (d6 k a b).oki rfl (h2 k a b)
  · rw [d5] at b
    rw [(d6 k a b).1] at e
    obtain ⟨j, j0, j1, j2, j3⟩ := lx k a b e
    exact ⟨j, j0, by rw [d5]; exact j1, by rw [(d6 j j0 j1).1]; exact j2, by rw [(d6 j j0 j1).2.1, (d6 k a b).2.1]; exact j3⟩
  · show -1 ≤ (-1 : Int) ∧ (-1 : Int) < f
    omega
  · rw [(d6 0 (by omega) (by omega)).1]
    rcases h6 with e | e | e
    · exact Or.inl e
    · exact Or.inr (Or.inl e)
    · by_cases z : σ.2.1 9 r = 1
      · rw [z] at h5
        have y : iK σ r 0 = 7 := h5
        exact Or.inr (Or.inl y)
      · rw [(d6 1 (by omega) (by omega)).1]
        exact Or.inr (Or.inr e)
  · have lt : ∀ k, 0 ≤ k → k < σ.2.1 9 r → iK σ r k ≠ 7 → k < σ.2.1 9 r - 1 := fun k a b c => by
      by_cases z : k = σ.2.1 9 r - 1
      · rw [z] at c; exact absurd h5 c
      · omega
    rw [(d6 p c1 c2).1] at c5
    rw [(d6 j c3 c4).1] at c6
    rw [(d6 j c3 c4).2.1, (d6 p c1 c2).2.1] at c7
    have y1 := lt p c1 c2 (by simp only [iK]; omega)
    have y2 := lt j c3 c4 (by simp only [iK]; omega)
    rcases w3 p j c1 y1 c3 y2 c5 c6 c7 with q | q
    · exact Or.inl q
    · exact Or.inr (by rw [(d6 (j + 1) (by omega) (by omega)).1]; exact q.1)
theorem E2.e3 {σ τ : MS} {e : EV} (h : E2 σ e) (e43 : τ.1 43 = σ.1 43) (e44 : τ.2.2 44 = σ.2.2 44) (h6 : σ.1 43 ≤ 6) (h11 : ∀ v, 0 ≤ v → v < σ.1 43 → τ.2.1 11 v = σ.2.1 45 v) : E3 τ e := ⟨h.1, fun z => by
  obtain ⟨v, a, b, c⟩ := h.2 z
  refine ⟨v, by rw [e43]; exact a, by omega, ?_, by rw [h11 v a.1 a.2]; exact c⟩
  unfold RBY; rw [e43, e44]; exact b⟩
theorem IEQ.symm {σ τ : MS} {x y : Int} (h : IEQ σ x τ y) : IEQ τ y σ x := ⟨h.1.symm, h.2.1.symm, h.2.2.1.symm, h.2.2.2.1.symm, fun i a b => ⟨(h.2.2.2.2 i a b).1.symm, (h.2.2.2.2 i a b).2.symm⟩⟩
theorem DNR.oth {σ τ : MS} {j : Int} (h : DNR σ j) (e14 : τ.2.1 14 j = σ.2.1 14 j) (e15 : τ.2.1 15 (12 * j) = σ.2.1 15 (12 * j)) (e16 : τ.2.1 16 (12 * j) = σ.2.1 16 (12 * j)) (e18 : ∀ n, 0 ≤ n → n < 12 → τ.2.1 18 (144 * j + n) = σ.2.1 18 (144 * j + n)) (e9 : τ.2.1 9 j = σ.2.1 9 j) (e96 : τ.2.1 9 (6 + j) = σ.2.1 9 (6 + j)) (h220 : σ.2.1 9 j ≤ 220) (ia : ∀ k, 0 ≤ k → k < 220 → IEQ σ (220 * j + k) τ (220 * j + k)) (ib : ∀ k, 0 ≤ k → k < 220 → IEQ σ (220 * (6 + j) + k) τ (220 * (6 + j) + k)) : DNR τ j := by
  obtain ⟨d1, d2, d3, d4, d5, d6⟩ := h
  refine ⟨e14.trans d1, e15.trans d2, e16.trans d3, fun n a b => (e18 n a b).trans (d4 n a b), by rw [e9, e96]; exact d5, fun k a b => ?_⟩
  rw [e9] at b
  exact (ia k a (by omega)).symm.trans ((d6 k a b).trans (ib k a (by omega)))
theorem PLI.mv {σ τ : MS} {r : Int} (h : PLI σ r) (ie : ∀ k, 0 ≤ k → k < 220 → IEQ σ (220 * r + k) τ (220 * r + k)) (e9 : τ.2.1 9 r = σ.2.1 9 r) (e43 : τ.1 43 = σ.1 43) (e11 : τ.2.1 11 = σ.2.1 11) : PLI τ r := by
  obtain ⟨h1, h2, ⟨l, h4, h5⟩, h6, h7⟩ := h
  unfold PLI
  rw [e9]
  refine ⟨h1, fun k a b => (ie k a (by omega)).oki e11 (h2 k a b), ⟨l, h4, ?_⟩, (ie _ (by omega) (by omega)).1.trans h6, ?_⟩
  · rw [e43]
    exact h5.ext (fun k a b => ⟨(ie k a (by omega)).1, (ie k a (by omega)).2.1, (ie k a (by omega)).2.2.1⟩)
  · have a0 : iK τ r 0 = iK σ r 0 := (ie 0 (by omega) (by omega)).1
    have a1 : iK τ r 1 = iK σ r 1 := (ie 1 (by omega) (by omega)).1
    rw [a0, a1]; exact h7
theorem KPR.fr {ss ks js : List Nat} {σ τ : MS} (f : Fr ss ks js σ τ) (hk : ∀ k ∈ [3, 4, 5, 6, 7, 8, 9], k ∉ ks) : KPR σ τ := ⟨fun _ _ => IEQ.of f (fun k q => hk k (by revert k q; decide)), f.2.1 9 (hk 9 (by decide))⟩
theorem GQ1.det {w u : Int} {α β γ δ : MS} (h : GQ1 w α β) (g : GQ1 u γ δ) (e : sv γ = sv α) : δ.1 30 = β.1 30 := by
  obtain ⟨t1, x1, l1, e1, ⟨r1, -⟩, n1, -⟩ := h
  obtain ⟨t2, x2, l2, e2, ⟨r2, -⟩, n2, -⟩ := g
  rw [e] at r2
  have z := RCm.det r1.rc r2.rc rfl rfl
  have y : l1 = l2 := congrArg (fun q => q.2.2.2.2) z
  rw [← n1, ← n2, y]
end
