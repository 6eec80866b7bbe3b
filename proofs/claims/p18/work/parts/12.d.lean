section
def LVW (ρ : MS) (r g : Int) : Prop := ∃ j, 0 ≤ j ∧ j < ρ.2.1 9 r ∧ LEAN ρ (220 * r + j) g
def LVR (ρ σ : MS) (r : Int) : Prop := ∀ k g, 0 ≤ k → k ≤ ρ.2.1 9 r → 0 ≤ g → g < 192 → σ.2.1 59 (192 * k + g) = 1 → LVW ρ r g
theorem LVR.put {ρ σ : MS} {r k g : Int} (h : LVR ρ σ r) (hg : 0 ≤ g ∧ g < 192) (hw : LVW ρ r g) : LVR ρ (sA 59 (192 * k + g) 1 σ) r := fun k' g' a b c e q => by
  by_cases z : 192 * k' + g' = 192 * k + g
  · have : g' = g := by omega
    rw [this]; exact hw
  · exact h k' g' a b c e ((ra_ne z rfl).symm.trans q)
theorem LVR.fr {ss ks js : List Nat} {ρ σ τ : MS} {r : Int} (h : LVR ρ σ r) (f : Fr ss ks js σ τ) (hk : 59 ∉ ks) : LVR ρ τ r := fun k g a b c e q => h k g a b c e (by rw [f.2.1 59 hk] at q; exact q)
theorem LVR.by {ρ σ : MS} {r k g : Int} (h : LVR ρ σ r) (ht : TGT σ r) (hF : Fr [] [46, 59] [] ρ σ) (hk : 0 ≤ k ∧ k < ρ.2.1 9 r) (hg : 0 ≤ g ∧ g < 192)
    (q : (¬ (σ.2.1 3 (220 * r + k) = 8 ∨ σ.2.1 3 (220 * r + k) = 7) ∧ σ.2.1 59 (192 * (k + 1) + g) = 1) ∨ ((σ.2.1 3 (220 * r + k) = 8 ∨ σ.2.1 3 (220 * r + k) = 9) ∧ σ.2.1 59 (192 * σ.2.1 46 (σ.2.1 4 (220 * r + k)) + g) = 1)) : LVW ρ r g := by
  have e9 : σ.2.1 9 = ρ.2.1 9 := hF.2.1 9 (by decide)
  rcases q with q | q
  · exact h (k + 1) g (by omega) (by omega) hg.1 hg.2 q.2
  · have t := ht k hk.1 (by rw [e9]; exact hk.2) q.1
    rw [e9] at t
    exact h _ g t.1 (by omega) hg.1 hg.2 q.2
theorem LVW.of {ρ σ : MS} {r k g : Int} (hF : Fr [] [46, 59] [] ρ σ) (hk : 0 ≤ k ∧ k < ρ.2.1 9 r) (q : LEAN σ (220 * r + k) g) : LVW ρ r g := by
  refine ⟨k, hk.1, hk.2, ?_⟩
  obtain ⟨i, i0, i1, i2, i3⟩ := q
  rw [nArgs.fr hF (by decide)] at i1
  rw [hF.2.1 7 (by decide)] at i2
  rw [hF.2.1 8 (by decide)] at i3
  exact ⟨i, i0, i1, i2, i3⟩
theorem LVW.lt {ρ : MS} {r g m : Int} (h : LVW ρ r g) (hr : RGI ρ r m (ρ.2.1 9 r)) : g < m := by
  obtain ⟨j, j0, j1, i, i0, i1, i2, i3⟩ := h
  rw [← i3]; exact (hr j j0 j1).2 i i0 i1 i2
def TGD (σ : MS) (r : Int) : Prop := ∀ k, 0 ≤ k → k < σ.2.1 9 r → (σ.2.1 3 (220 * r + k) = 8 ∨ σ.2.1 3 (220 * r + k) = 9) → (0 ≤ σ.2.1 46 (σ.2.1 4 (220 * r + k)) ∧ σ.2.1 46 (σ.2.1 4 (220 * r + k)) < σ.2.1 9 r) ∧ σ.2.1 3 (220 * r + σ.2.1 46 (σ.2.1 4 (220 * r + k))) = 13 ∧ σ.2.1 4 (220 * r + σ.2.1 46 (σ.2.1 4 (220 * r + k))) = σ.2.1 4 (220 * r + k)
theorem TGD.fr {ss ks js : List Nat} {σ τ : MS} {r : Int} (h : TGD σ r) (f : Fr ss ks js σ τ) (hk : ∀ k ∈ [3, 4, 9, 46], k ∉ ks) : TGD τ r := by
  unfold TGD
  rw [f.q hk (k := 3) (by decide), f.q hk (k := 4) (by decide), f.q hk (k := 9) (by decide), f.q hk (k := 46) (by decide)]
  exact h
theorem TGD.tgt {σ : MS} {r : Int} (h : TGD σ r) : TGT σ r := fun k a b c => by
  have := h k a b c
  exact ⟨this.1.1, this.1.2, this.2.1⟩
theorem LEX.tgd {σ τ : MS} {r : Int} (h : LEX σ r) (f : LFN σ τ r (σ.2.1 9 r)) (g : Fr [] [46] [] σ τ) : TGD τ r := fun k a b c => by
  rw [g.2.1 9 (by decide)] at b
  rw [g.2.1 3 (by decide)] at c
  rw [g.2.1 3 (by decide), g.2.1 4 (by decide), g.2.1 9 (by decide)]
  obtain ⟨j, j0, j1, j2, j3⟩ := h k a b c
  have := f j j0 j1 j2
  rw [j3] at this
  exact ⟨⟨this.1, this.2.1⟩, this.2.2⟩
def DLP (σ0 σ : MS) (r F k t : Int) : Prop := CMP σ0 σ r F k t (fun i => σ0.2.1 47 i = 0) ∧ (∀ j, k ≤ j → j < 220 → IEQ σ0 (220 * r + j) σ (220 * r + j)) ∧ XO r σ0 σ ∧ σ.2.1 11 = σ0.2.1 11
theorem DLP.start {σ : MS} {r F : Int} : DLP σ σ r F 0 0 := ⟨CMP.start, fun _ _ _ => IEQ.rfl, XO.rfl, rfl⟩
theorem DLP.keep {σ0 σ : MS} {r F k t : Int} (h : DLP σ0 σ r F k t) (hk : 0 ≤ k ∧ k < 220 ∧ 0 ≤ t ∧ t ≤ k) (ho : OKI σ0 F (220 * r + k)) (h1 : σ0.2.1 47 k ≠ 0) : DLP σ0 (fCopy (220 * r + k) (220 * r + t) σ) r F (k + 1) (t + 1) := by
  obtain ⟨c, g2, g3, g4⟩ := h
  have i := fCopy_ieq (f := 220 * r + k) (t := 220 * r + t) (σ := σ)
  have o := fCopy_off (f := 220 * r + k) (t := 220 * r + t) (σ := σ)
  have q := g2 k (by omega) hk.2.1
  exact ⟨c.keep ⟨hk.1, hk.2.2.1⟩ (fun j a b => o.ieq (by omega)) o.2.2.2 h1 (Or.inl (i.1.trans q.1)) (i.2.1.trans q.2.1) (i.2.2.1.trans q.2.2.1) (i.oki o.2.2.2 (q.oki g4 ho)), fun j a b => (g2 j (by omega) b).trans (o.ieq (by omega)), g3.trans (o.xo hk.2.2.1 (by omega)), o.2.2.2.trans g4⟩
theorem DLP.skip {σ0 σ : MS} {r F k t : Int} (h : DLP σ0 σ r F k t) (h1 : σ0.2.1 47 k = 0) : DLP σ0 σ r F (k + 1) t := by
  obtain ⟨c, g2, g3, g4⟩ := h
  exact ⟨c.skip (fun j a b => IEQ.rfl) rfl h1 (fun i a b => Iff.rfl), fun j a b => g2 j (by omega) b, g3, g4⟩
theorem DLP.fin {σ0 σ : MS} {r F n t : Int} (h : DLP σ0 σ r F n t) (hn : n = σ0.2.1 9 r ∧ 1 ≤ n) (f : Fr [] [3, 4, 5, 6, 7, 8] [] σ0 σ) (hc : CODE σ0 r) (ht : TGD σ0 r) (hb : LBM σ0 r) (b47 : BO 47 σ0) (h0 : σ0.2.1 47 0 = 1) (hm : MNR σ0 r n) (hcl : CLO σ0 r n) :
    CODE (sA 9 r t σ) r ∧ 1 ≤ t ∧ LEX (sA 9 r t σ) r ∧ LBM (sA 9 r t σ) r ∧ OKS (sA 9 r t σ) F r := by
  obtain ⟨c, g2, g3, g4⟩ := h
  have e14 : (sA 9 r t σ).2.1 14 = σ0.2.1 14 := f.2.1 14 (by decide)
  have e16 : (sA 9 r t σ).2.1 16 = σ0.2.1 16 := f.2.1 16 (by decide)
  have e10 : (sA 9 r t σ).1 10 = σ0.1 10 := f.1 10 (by decide)
  have on : ∀ i, ¬ σ0.2.1 47 i = 0 → σ0.2.1 47 i = 1 := fun i q => by have := b47 i; omega
  have cc := c.code (τ := sA 9 r t σ) hc hn (Or.inr ⟨by omega, fun i a b q => by
      by_cases z : σ0.2.1 47 i = 0
      · exact Or.inl z
      · by_cases y : σ0.2.1 3 (220 * r + i) = 8 ∨ σ0.2.1 3 (220 * r + i) = 7
        · exact Or.inr (by simp only [iK]; omega)
        · have := (hcl i a (by omega) (on i z)).1 y; omega⟩) (fun j k j0 jk kn ej ek be sk => by
      have go : ∀ m : Nat, ∀ i, i = k - m → j ≤ i → σ0.2.1 47 i = 1 := fun m => by
        induction m with
        | zero => intro i e _; rw [e, show k - ((0 : Nat) : Int) = k by omega]; exact on k sk
        | succ m ih =>
          intro i e ji
          have up := ih (i + 1) (by omega) (by omega)
          rcases hm (i + 1) (by omega) (by omega) up with q | q
          · exfalso
            by_cases z : i + 1 = k
            · rw [z] at q; omega
            · have := be (i + 1) (by omega) (by omega); omega
          · rw [show i + 1 - 1 = i by omega] at q; exact q.1
      have := go (k - j).toNat j (by omega) (by omega)
      omega) ra_eq (by rw [e14]) e10 e16 rfl rfl rfl
  refine ⟨cc.1, cc.2, c.lex (fun k a b sk e => ?_) ra_eq rfl rfl, c.lbm hb hn.1 ra_eq (by rw [e14]) rfl rfl, c.oks ra_eq (fun F x q => ?_)⟩
  · have t := ht k a (by omega) e
    have := (hcl k a b (on k sk)).2 e
    exact ⟨_, t.1.1, by omega, t.2.1, t.2.2, by omega⟩
  · exact (IEQ.fr ((Fr.rfl (ss := []) (ks := [9]) (js := [])).A (by decide)) (by decide)).oki rfl q
theorem out_fin {σ τ : MS} {r F k : Int} (hk : 0 ≤ k ∧ k < σ.2.1 9 r) (h5 : σ.2.1 3 (220 * r + k) ≤ 5) (ho : OKS σ F r) (hc : CODE σ r) (hl : LEX σ r) (hb : LBM σ r) (f : Fr [] [3, 4, 5, 6, 7, 8, 9] [] σ τ)
    (h1 : ∀ j, 0 ≤ j → j < k → IEQ σ (220 * r + j) τ (220 * r + j)) (h2 : ∀ j, k ≤ j → j < σ.2.1 9 r - 1 → IEQ σ (220 * r + (j + 1)) τ (220 * r + j)) (h9 : τ.2.1 9 r = σ.2.1 9 r - 1) : CODE τ r ∧ 1 ≤ τ.2.1 9 r ∧ LEX τ r ∧ LBM τ r ∧ OKS τ F r := by
  have e11 : τ.2.1 11 = σ.2.1 11 := f.2.1 11 (by decide)
  obtain ⟨s, s1, s2⟩ : ∃ s : Int → Int, (∀ j, j < k → s j = j) ∧ (∀ j, k ≤ j → s j = j + 1) := ⟨fun j => if j < k then j else j + 1, fun j q => if_pos q, fun j q => if_neg (by omega)⟩
  have c : CMP σ τ r F (σ.2.1 9 r) (σ.2.1 9 r - 1) (fun i => i = k) := by
    refine ⟨s, fun j a b => ?_, fun i j a b c => ?_, fun i a b => ?_⟩
    · by_cases z : j < k
      · have q := h1 j a z
        rw [s1 j z]
        exact ⟨⟨by omega, by omega⟩, Or.inl q.1, q.2.1, q.2.2.1, q.oki e11 (ho j a (by omega))⟩
      · have q := h2 j (by omega) b
        rw [s2 j (by omega)]
        exact ⟨⟨by omega, by omega⟩, Or.inl q.1, q.2.1, q.2.2.1, q.oki e11 (ho (j + 1) (by omega) (by omega))⟩
    · by_cases z : j < k
      · rw [s1 j z, s1 i (by omega)]; exact b
      · rw [s2 j (by omega)]
        by_cases y : i < k
        · rw [s1 i y]; omega
        · rw [s2 i (by omega)]; omega
    · by_cases z : i = k
      · exact Or.inl z
      · by_cases y : i < k
        · exact Or.inr ⟨i, a, by omega, s1 i y⟩
        · exact Or.inr ⟨i - 1, by omega, by omega, by rw [s2 (i - 1) (by omega)]; omega⟩
  have e14 : τ.2.1 14 = σ.2.1 14 := f.2.1 14 (by decide)
  have k0 := (ho k hk.1 hk.2).1
  have cc := c.code (τ := τ) hc ⟨rfl, by omega⟩ (Or.inl fun i a b q => Or.inr (by subst q; exact ⟨k0.1, h5⟩)) (fun j i _ _ _ e _ _ _ q => by subst q; omega) h9 (by rw [e14]) (f.1 10 (by decide)) (f.2.1 16 (by decide)) rfl rfl rfl
  refine ⟨cc.1, by rw [h9]; exact cc.2, c.lex (fun i a b _ e => ?_) h9 rfl rfl, c.lbm hb rfl h9 (by rw [e14]) rfl rfl, c.oks h9 (fun _ _ q => q)⟩
  obtain ⟨j, j0, j1, j2, j3⟩ := hl i a b e
  exact ⟨j, j0, j1, j2, j3, fun q => by subst q; omega⟩
theorem rot_fin {σ τ : MS} {r F p q : Int} (hp : 0 ≤ p ∧ p < q ∧ q < σ.2.1 9 r) (h13 : σ.2.1 3 (220 * r + p) = 13) (h5 : σ.2.1 3 (220 * r + q) ≤ 5) (ho : OKS σ F r) (hc : CODE σ r) (hl : LEX σ r) (hb : LBM σ r) (f : Fr [] [3, 4, 5, 6, 7, 8] [] σ τ)
    (h1 : ∀ j, 0 ≤ j → j < p → IEQ σ (220 * r + j) τ (220 * r + j)) (h2 : IEQ σ (220 * r + q) τ (220 * r + p)) (h3 : ∀ j, p < j → j ≤ q → IEQ σ (220 * r + (j - 1)) τ (220 * r + j)) (h4 : ∀ j, q < j → j < σ.2.1 9 r → IEQ σ (220 * r + j) τ (220 * r + j)) : CODE τ r ∧ LEX τ r ∧ LBM τ r ∧ OKS τ F r := by
  have e11 : τ.2.1 11 = σ.2.1 11 := f.2.1 11 (by decide)
  have e9 : τ.2.1 9 = σ.2.1 9 := f.2.1 9 (by decide)
  have e14 : τ.2.1 14 = σ.2.1 14 := f.2.1 14 (by decide)
  have rk : RO (σ.2.1 9 r) p q (iK σ r) (iK τ r) := ⟨fun i a b => (h1 i a b).1, h2.1, fun i a b => (h3 i a b).1, fun i a b => (h4 i a b).1⟩
  have rd : RO (σ.2.1 9 r) p q (iD σ r) (iD τ r) := ⟨fun i a b => (h1 i a b).2.1, h2.2.1, fun i a b => (h3 i a b).2.1, fun i a b => (h4 i a b).2.1⟩
  have ro : RO (σ.2.1 9 r) p q (iO σ r) (iO τ r) := ⟨fun i a b => (h1 i a b).2.2.1, h2.2.2.1, fun i a b => (h3 i a b).2.2.1, fun i a b => (h4 i a b).2.2.1⟩
  obtain ⟨fr, lf, hc⟩ := hc
  obtain ⟨fr', hc'⟩ := hc.rot hp h13 h5 rk rd ro
  have from_ : ∀ j, 0 ≤ j → j < σ.2.1 9 r → ∃ i, (0 ≤ i ∧ i < σ.2.1 9 r) ∧ IEQ σ (220 * r + i) τ (220 * r + j) := fun j a b => by
    by_cases z : j < p
    · exact ⟨j, ⟨a, b⟩, h1 j a z⟩
    · by_cases y : j = p
      · subst y; exact ⟨q, ⟨by omega, by omega⟩, h2⟩
      · by_cases x : j ≤ q
        · exact ⟨j - 1, ⟨by omega, by omega⟩, h3 j (by omega) x⟩
        · exact ⟨j, ⟨a, b⟩, h4 j (by omega) b⟩
  refine ⟨⟨fr', lf, ?_⟩, ?_, fun j a b e => ?_, fun j a b => ?_⟩
  · have e16 : iF τ r = iF σ r := by unfold iF; rw [f.2.1 16 (by decide)]
    rw [e9, e14, e16, f.1 10 (by decide)]; exact hc'
  · have := LX.rot hl hp h5 rk rd
    unfold LEX; rw [e9]; exact this
  · rw [e9] at b
    obtain ⟨i, ⟨i0, i1⟩, w⟩ := from_ j a b
    rw [w.1] at e
    rw [w.2.1, e14]
    exact hb i i0 i1 e
  · rw [e9] at b
    obtain ⟨i, ⟨i0, i1⟩, w⟩ := from_ j a b
    exact w.oki e11 (ho i i0 i1)

set_option maxHeartbeats 1000000 in
set_option maxRecDepth 20000 in
theorem c2_X12_livesBehind (d : Nat) {b : Nat} {σ : MS} {r : Int} {k : Int} {g : Int} (hr : 0 ≤ r ∧ r < 12) (hR : RG σ) (hit : ITM σ) (hjm : JMP σ r) (hbl : BO 59 σ) (hl : LAB σ) (hg : 0 ≤ g ∧ g < 192) (hk : 0 ≤ k ∧ k < σ.2.1 9 r) : Tm (d + 3) m_X12_livesBehind 0 b σ [(0, .ref b), (1, .int (iI r)), (2, .int (iI k)), (3, .int (iI g))] [] (fun ro σ2 => ∃ v : Int, ro = some (.int (iI v)) ∧ σ = σ2 ∧ ((v = 0 ∨ v = 1)) ∧ (v = 1 → (¬ (σ.2.1 3 (220 * r + k) = 8 ∨ σ.2.1 3 (220 * r + k) = 7) ∧ σ.2.1 59 (192 * (k + 1) + g) = 1) ∨ ((σ.2.1 3 (220 * r + k) = 8 ∨ σ.2.1 3 (220 * r + k) = 9) ∧ σ.2.1 59 (192 * σ.2.1 46 (σ.2.1 4 (220 * r + k)) + g) = 1))) := by
  have q1 := hit r (by omega) (by omega)
  have q2 := hl (σ.2.1 4 (220 * r + k))
  refine tm_aload_n dX12_livesBehind_0 rfl 0 rfl ?_
  refine tm_iload_n dX12_livesBehind_1 rfl 1 rfl ?_
  refine tm_iload_n dX12_livesBehind_2 rfl 2 rfl ?_
  refine tm_iconst dX12_livesBehind_3 ?_
  refine tm_callV (M := m_X12_livesBehind) (pc := 4) (ix := 413) (M' := m_X12_goesOn) (As := [.int (iI r), .int (iI k), .int (iI 0)]) (rest := []) dX12_livesBehind_4 ok_X12_goesOn im_X12_goesOn se_X12_goesOn ml12_413 np_X12_goesOn rfl rfl (Nat.le_of_ble_eq_true rfl) (Nat.le_of_ble_eq_true rfl) rfl (c_X12_goesOn (d) (σ := σ) (r := r) (k := k) (how := 0) (by omega) hR (by omega) (fun q => hjm _ (by omega) (by omega) (by omega)) (by omega)) (fun r1 σ2 hp => ?_)
  obtain ⟨v3, rfl, rfl, f4, f5, f6, f7⟩ := hp
  show Tm _ _ 7 b σ [(0, .ref b), (1, .int (iI r)), (2, .int (iI k)), (3, .int (iI g))] [.int (iI v3)] _
  refine tm_istore (L' := [(4, .int (iI v3)), (0, .ref b), (1, .int (iI r)), (2, .int (iI k)), (3, .int (iI g))]) dX12_livesBehind_7 (by decide) rfl ?_
  refine tm_aload_n dX12_livesBehind_9 rfl 1 rfl ?_
  refine tm_iload_n dX12_livesBehind_10 rfl 2 rfl ?_
  refine tm_iload_n dX12_livesBehind_11 rfl 3 rfl ?_
  refine tm_iconst dX12_livesBehind_12 ?_
  refine tm_callV (M := m_X12_livesBehind) (pc := 13) (ix := 413) (M' := m_X12_goesOn) (As := [.int (iI r), .int (iI k), .int (iI 1)]) (rest := []) dX12_livesBehind_13 ok_X12_goesOn im_X12_goesOn se_X12_goesOn ml12_413 np_X12_goesOn rfl rfl (Nat.le_of_ble_eq_true rfl) (Nat.le_of_ble_eq_true rfl) rfl (c_X12_goesOn (d) (σ := σ) (r := r) (k := k) (how := 1) (by omega) hR (by omega) (fun q => hjm _ (by omega) (by omega) (by omega)) (by omega)) (fun r8 σ9 hp => ?_)
  obtain ⟨v10, rfl, rfl, f11, f12, f13, f14⟩ := hp
  show Tm _ _ 16 b σ [(4, .int (iI v3)), (0, .ref b), (1, .int (iI r)), (2, .int (iI k)), (3, .int (iI g))] [.int (iI v10)] _
  refine tm_istore (L' := [(5, .int (iI v10)), (4, .int (iI v3)), (0, .ref b), (1, .int (iI r)), (2, .int (iI k)), (3, .int (iI g))]) dX12_livesBehind_16 (by decide) rfl ?_
  refine tm_iload dX12_livesBehind_18 1 rfl ?_
  refine tm_iconst dX12_livesBehind_20 ?_
  refine tm_icmp_eq (tgt := 40) dX12_livesBehind_21 (by decide) ⟨by omega, by omega⟩ ⟨by decide, by decide⟩ (fun h15 => ?_) (fun h15 => ?_)
  · refine tm_iload dX12_livesBehind_40 0 rfl ?_
    refine tm_iconst dX12_livesBehind_42 ?_
    refine tm_icmp_eq (tgt := 66) dX12_livesBehind_43 (by decide) ⟨by omega, by omega⟩ ⟨by decide, by decide⟩ (fun h16 => ?_) (fun h16 => ?_)
    · refine tm_iconst dX12_livesBehind_66 ?_
      exact tm_zret (v := 0) rfl (by decide) dX12_livesBehind_67 (⟨_, rfl, rfl, by omega, fun q => absurd q (by decide)⟩)
    · refine tm_aload_n dX12_livesBehind_46 rfl 2 rfl ?_
      refine tm_get (k := 59) (v := .ref (b + 1 + 37)) lay_12 dX12_livesBehind_47 (by decide) fl12_130 rfl ?_
      refine tm_sipush dX12_livesBehind_50 (by decide) ?_
      refine tm_iload dX12_livesBehind_53 0 rfl ?_
      refine tm_imul dX12_livesBehind_55 ?_
      refine tm_iload_n dX12_livesBehind_56 rfl 5 rfl ?_
      refine tm_iadd dX12_livesBehind_57 ?_
      refine tm_zald (z := (192 * v10) + g) (v := σ.2.1 59 ((192 * v10) + g)) dX12_livesBehind_58 (show mT[37]? = some (59, 2, 42432) from rfl) (by omega) (by omega) (by decide) (rfl) ?_
      have g17 := RG.a hR 59 ((192 * v10) + g)
      have := hbl ((192 * v10) + g)
      refine tm_if_eq (tgt := 66) dX12_livesBehind_59 (by decide) ⟨by omega, by omega⟩ (fun h18 => ?_) (fun h18 => ?_)
      · refine tm_iconst dX12_livesBehind_66 ?_
        exact tm_zret (v := 0) rfl (by decide) dX12_livesBehind_67 (⟨_, rfl, rfl, by omega, fun q => absurd q (by decide)⟩)
      · refine tm_iconst dX12_livesBehind_62 ?_
        refine tm_goto (tgt := 67) dX12_livesBehind_63 (by decide) ?_
        exact tm_zret (v := 1) rfl (by decide) dX12_livesBehind_67 (⟨_, rfl, rfl, by omega, fun _ => by
      first
      | (have e1 : v3 = k + 1 := by omega
         subst e1
         exact Or.inl ⟨by omega, by omega⟩)
      | (have e2 : v10 = σ.2.1 46 (σ.2.1 4 (220 * r + k)) := by omega
         subst e2
         exact Or.inr ⟨by omega, by omega⟩)⟩)
  · refine tm_aload_n dX12_livesBehind_24 rfl 2 rfl ?_
    refine tm_get (k := 59) (v := .ref (b + 1 + 37)) lay_12 dX12_livesBehind_25 (by decide) fl12_130 rfl ?_
    refine tm_sipush dX12_livesBehind_28 (by decide) ?_
    refine tm_iload dX12_livesBehind_31 1 rfl ?_
    refine tm_imul dX12_livesBehind_33 ?_
    refine tm_iload_n dX12_livesBehind_34 rfl 5 rfl ?_
    refine tm_iadd dX12_livesBehind_35 ?_
    refine tm_zald (z := (192 * v3) + g) (v := σ.2.1 59 ((192 * v3) + g)) dX12_livesBehind_36 (show mT[37]? = some (59, 2, 42432) from rfl) (by omega) (by omega) (by decide) (rfl) ?_
    have g19 := RG.a hR 59 ((192 * v3) + g)
    have := hbl ((192 * v3) + g)
    refine tm_if_ne (tgt := 62) dX12_livesBehind_37 (by decide) ⟨by omega, by omega⟩ (fun h20 => ?_) (fun h20 => ?_)
    · refine tm_iconst dX12_livesBehind_62 ?_
      refine tm_goto (tgt := 67) dX12_livesBehind_63 (by decide) ?_
      exact tm_zret (v := 1) rfl (by decide) dX12_livesBehind_67 (⟨_, rfl, rfl, by omega, fun _ => by
      first
      | (have e1 : v3 = k + 1 := by omega
         subst e1
         exact Or.inl ⟨by omega, by omega⟩)
      | (have e2 : v10 = σ.2.1 46 (σ.2.1 4 (220 * r + k)) := by omega
         subst e2
         exact Or.inr ⟨by omega, by omega⟩)⟩)
    · refine tm_iload dX12_livesBehind_40 0 rfl ?_
      refine tm_iconst dX12_livesBehind_42 ?_
      refine tm_icmp_eq (tgt := 66) dX12_livesBehind_43 (by decide) ⟨by omega, by omega⟩ ⟨by decide, by decide⟩ (fun h21 => ?_) (fun h21 => ?_)
      · refine tm_iconst dX12_livesBehind_66 ?_
        exact tm_zret (v := 0) rfl (by decide) dX12_livesBehind_67 (⟨_, rfl, rfl, by omega, fun q => absurd q (by decide)⟩)
      · refine tm_aload_n dX12_livesBehind_46 rfl 2 rfl ?_
        refine tm_get (k := 59) (v := .ref (b + 1 + 37)) lay_12 dX12_livesBehind_47 (by decide) fl12_130 rfl ?_
        refine tm_sipush dX12_livesBehind_50 (by decide) ?_
        refine tm_iload dX12_livesBehind_53 0 rfl ?_
        refine tm_imul dX12_livesBehind_55 ?_
        refine tm_iload_n dX12_livesBehind_56 rfl 5 rfl ?_
        refine tm_iadd dX12_livesBehind_57 ?_
        refine tm_zald (z := (192 * v10) + g) (v := σ.2.1 59 ((192 * v10) + g)) dX12_livesBehind_58 (show mT[37]? = some (59, 2, 42432) from rfl) (by omega) (by omega) (by decide) (rfl) ?_
        have g22 := RG.a hR 59 ((192 * v10) + g)
        have := hbl ((192 * v10) + g)
        refine tm_if_eq (tgt := 66) dX12_livesBehind_59 (by decide) ⟨by omega, by omega⟩ (fun h23 => ?_) (fun h23 => ?_)
        · refine tm_iconst dX12_livesBehind_66 ?_
          exact tm_zret (v := 0) rfl (by decide) dX12_livesBehind_67 (⟨_, rfl, rfl, by omega, fun q => absurd q (by decide)⟩)
        · refine tm_iconst dX12_livesBehind_62 ?_
          refine tm_goto (tgt := 67) dX12_livesBehind_63 (by decide) ?_
          exact tm_zret (v := 1) rfl (by decide) dX12_livesBehind_67 (⟨_, rfl, rfl, by omega, fun _ => by
      first
      | (have e1 : v3 = k + 1 := by omega
         subst e1
         exact Or.inl ⟨by omega, by omega⟩)
      | (have e2 : v10 = σ.2.1 46 (σ.2.1 4 (220 * r + k)) := by omega
         subst e2
         exact Or.inr ⟨by omega, by omega⟩)⟩)
set_option maxHeartbeats 1000000 in
set_option maxRecDepth 20000 in
theorem l2_lives4 (d : Nat) {b : Nat} {σ0 : MS} {r : Int} {F : Int} {k : Int} {n1 : Int} {C0 : Int} {ρ : MS} {post : Option Value → MS → Prop} (hr : 0 ≤ r ∧ r < 6) (hR0 : RG σ0) (hit : ITM σ0) (hpar : PAR σ0) (hok : OKS σ0 F r) (hl : LAB σ0) (htg : TGT σ0 r) (hρ : Fr [] [46, 59] [] ρ σ0) (hk : 0 ≤ k ∧ k < n1 ∧ n1 = σ0.2.1 9 r) (hx_174 : ∀ (w : Int) (g : Int) (σ : MS) , (Fr [] [59] [] σ0 σ) → (RG σ) → (w = 0 ∨ w = 1) → (BO 59 σ) → ((cz (σ.2.1 59) 42432 : Int) + w ≤ C0) → (LVR ρ σ r) → Tm (d + 5) m_X12_findLives 174 b σ [(6, .int (iI g)), (5, .int (iI (220 * r + k))), (4, .int (iI k)), (3, .int (iI w)), (2, .int (iI n1)), (0, .ref b), (1, .int (iI r))] [] post) : ∀ (n : Nat) (w : Int) (g : Int) (σ : MS) , (Fr [] [59] [] σ0 σ) → (RG σ) → ((w = 0 ∨ w = 1) ∧ 0 ≤ g ∧ g ≤ 192) → (BO 59 σ) → ((cz (σ.2.1 59) 42432 : Int) + w ≤ C0) → (LVR ρ σ r) → (192 - g).toNat = n → Tm (d + 5) m_X12_findLives 68 b σ [(6, .int (iI g)), (5, .int (iI (220 * r + k))), (4, .int (iI k)), (3, .int (iI w)), (2, .int (iI n1)), (0, .ref b), (1, .int (iI r))] [] post := by
  intro n
  induction n using Nat.strongRecOn with
  | _ n ih =>
    intro w g σ hF hR h0 hbl hcn hlv hm
    have hit1 := hit.fr hF (by decide)
    have hpar1 := hpar.fr hF (by decide)
    have hok1 := hok.fr hF (by decide)
    have hl1 := hl.fr hF (by decide)
    have q1 := hit r (by omega) (by omega)
    have q9 : σ.2.1 9 r = σ0.2.1 9 r := by rw [hF.2.1 9 (by decide)]
    have htg1 := htg.fr hF (by decide)
    have hρ1 : Fr [] [46, 59] [] ρ σ := hρ.trans (hF.sub (by decide) (by decide) (by decide))
    have qρ : ρ.2.1 9 r = σ0.2.1 9 r := by rw [hρ.2.1 9 (by decide)]
    refine tm_iload dX12_findLives_68 0 rfl ?_
    refine tm_sipush dX12_findLives_70 (by decide) ?_
    refine tm_icmp_ge (tgt := 174) dX12_findLives_73 (by decide) ⟨by omega, by omega⟩ ⟨by decide, by decide⟩ (fun h1 => ?_) (fun h1 => ?_)
    · exact tm_sub [0, 1, 2, 3, 4, 5, 6] rfl (hx_174 (w) (g) σ (Fr.rfl.trans (Fr.sub hF (by decide) (by decide) (by decide))) hR (by omega) hbl hcn hlv)
    · refine tm_aload_n dX12_findLives_76 rfl 5 rfl ?_
      refine tm_iload_n dX12_findLives_77 rfl 6 rfl ?_
      refine tm_iload dX12_findLives_78 2 rfl ?_
      refine tm_iload dX12_findLives_80 0 rfl ?_
      refine tm_callV (M := m_X12_findLives) (pc := 82) (ix := 433) (M' := m_X12_livesBehind) (As := [.int (iI r), .int (iI k), .int (iI g)]) (rest := []) dX12_findLives_82 ok_X12_livesBehind im_X12_livesBehind se_X12_livesBehind ml12_433 np_X12_livesBehind rfl rfl (Nat.le_of_ble_eq_true rfl) (Nat.le_of_ble_eq_true rfl) rfl (c2_X12_livesBehind (d + 1) (σ := σ) (r := r) (k := k) (g := g) (by omega) hR hit1 hok1.jmp hbl hl1 (by omega) (by omega)) (fun r2 σ3 hp => ?_)
      obtain ⟨v4, rfl, rfl, f5, f6⟩ := hp
      show Tm _ _ 85 b σ [(6, .int (iI g)), (5, .int (iI (220 * r + k))), (4, .int (iI k)), (3, .int (iI w)), (2, .int (iI n1)), (0, .ref b), (1, .int (iI r))] [.int (iI v4)] _
      have hA : v4 = 1 → LVW ρ r g := fun q => hlv.by htg1 hρ1 (by omega) (by omega) (f6 q)
      refine tm_if_eq (tgt := 99) dX12_findLives_85 (by decide) ⟨by omega, by omega⟩ (fun h7 => ?_) (fun h7 => ?_)
      · refine tm_aload_n dX12_findLives_99 rfl 5 rfl ?_
        refine tm_get (k := 3) (v := .ref (b + 1 + 1)) lay_12 dX12_findLives_100 (by decide) fl12_13 rfl ?_
        refine tm_iload dX12_findLives_103 1 rfl ?_
        refine tm_iald (z := 220 * r + k) (v := σ0.2.1 3 (220 * r + k)) dX12_findLives_105 (show mT[1]? = some (3, 0, 2860) from rfl) (by omega) (by omega) (by decide) (ra_F hF (by decide) (rfl)) ?_
        have g8 := RG.a hR0 3 (220 * r + k)
        refine tm_bipush dX12_findLives_106 (by decide) ?_
        refine tm_icmp_eq (tgt := 126) dX12_findLives_108 (by decide) ⟨by omega, by omega⟩ ⟨by decide, by decide⟩ (fun h9 => ?_) (fun h9 => ?_)
        · refine tm_iconst dX12_findLives_126 ?_
          refine tm_istore (L' := [(7, .int (iI 0)), (6, .int (iI g)), (5, .int (iI (220 * r + k))), (4, .int (iI k)), (3, .int (iI w)), (2, .int (iI n1)), (0, .ref b), (1, .int (iI r))]) dX12_findLives_127 (by decide) rfl ?_
          refine tm_iload dX12_findLives_129 0 rfl ?_
          refine tm_if_eq (tgt := 168) dX12_findLives_131 (by decide) ⟨by decide, by decide⟩ (fun _ => ?_) (fun h => absurd h (by decide))
          refine tm_iinc (q0 := 1) (L' := [(6, .int (iI (g + 1))), (7, .int (iI 0)), (5, .int (iI (220 * r + k))), (4, .int (iI k)), (3, .int (iI w)), (2, .int (iI n1)), (0, .ref b), (1, .int (iI r))]) dX12_findLives_168 rfl (by decide) rfl ?_
          refine tm_goto (tgt := 68) dX12_findLives_171 (by decide) ?_
          exact tm_sub [0, 2, 3, 4, 5, 6, 7] rfl (ih _ (by omega) (w) (g + 1) σ (Fr.rfl.trans (Fr.sub hF (by decide) (by decide) (by decide))) hR (by omega) (by first | exact hbl | exact hbl.A (by omega)) (by first | omega | (have hcz := cz_sA (σ := σ) (k := 59) (n := 42432) (z := 192 * k + g) (v := 1) (by omega) (by omega) (by omega) (by decide); omega)) hlv rfl)
        · refine tm_aload_n dX12_findLives_111 rfl 5 rfl ?_
          refine tm_iload dX12_findLives_112 1 rfl ?_
          refine tm_iload dX12_findLives_114 0 rfl ?_
          refine tm_callV (M := m_X12_findLives) (pc := 116) (ix := 439) (M' := m_X12_leansOn) (As := [.int (iI (220 * r + k)), .int (iI g)]) (rest := []) dX12_findLives_116 ok_X12_leansOn im_X12_leansOn se_X12_leansOn ml12_439 np_X12_leansOn rfl rfl (Nat.le_of_ble_eq_true rfl) (Nat.le_of_ble_eq_true rfl) rfl (c_X12_leansOn (d) (σ := σ) (x := 220 * r + k) (g := g) (by omega) hR (hok1.of (by omega) (by omega)) hpar1 (by omega)) (fun r11 σ12 hp => ?_)
          obtain ⟨v13, rfl, rfl, f14, f15⟩ := hp
          show Tm _ _ 119 b σ [(6, .int (iI g)), (5, .int (iI (220 * r + k))), (4, .int (iI k)), (3, .int (iI w)), (2, .int (iI n1)), (0, .ref b), (1, .int (iI r))] [.int (iI v13)] _
          have hB : v13 = 1 → LVW ρ r g := fun q => LVW.of hρ1 (by omega) (f15.mp q)
          refine tm_if_eq (tgt := 126) dX12_findLives_119 (by decide) ⟨by omega, by omega⟩ (fun h16 => ?_) (fun h16 => ?_)
          · refine tm_iconst dX12_findLives_126 ?_
            refine tm_istore (L' := [(7, .int (iI 0)), (6, .int (iI g)), (5, .int (iI (220 * r + k))), (4, .int (iI k)), (3, .int (iI w)), (2, .int (iI n1)), (0, .ref b), (1, .int (iI r))]) dX12_findLives_127 (by decide) rfl ?_
            refine tm_iload dX12_findLives_129 0 rfl ?_
            refine tm_if_eq (tgt := 168) dX12_findLives_131 (by decide) ⟨by decide, by decide⟩ (fun _ => ?_) (fun h => absurd h (by decide))
            refine tm_iinc (q0 := 1) (L' := [(6, .int (iI (g + 1))), (7, .int (iI 0)), (5, .int (iI (220 * r + k))), (4, .int (iI k)), (3, .int (iI w)), (2, .int (iI n1)), (0, .ref b), (1, .int (iI r))]) dX12_findLives_168 rfl (by decide) rfl ?_
            refine tm_goto (tgt := 68) dX12_findLives_171 (by decide) ?_
            exact tm_sub [0, 2, 3, 4, 5, 6, 7] rfl (ih _ (by omega) (w) (g + 1) σ (Fr.rfl.trans (Fr.sub hF (by decide) (by decide) (by decide))) hR (by omega) (by first | exact hbl | exact hbl.A (by omega)) (by first | omega | (have hcz := cz_sA (σ := σ) (k := 59) (n := 42432) (z := 192 * k + g) (v := 1) (by omega) (by omega) (by omega) (by decide); omega)) hlv rfl)
          · refine tm_iconst dX12_findLives_122 ?_
            refine tm_goto (tgt := 127) dX12_findLives_123 (by decide) ?_
            refine tm_istore (L' := [(7, .int (iI 1)), (6, .int (iI g)), (5, .int (iI (220 * r + k))), (4, .int (iI k)), (3, .int (iI w)), (2, .int (iI n1)), (0, .ref b), (1, .int (iI r))]) dX12_findLives_127 (by decide) rfl ?_
            refine tm_iload dX12_findLives_129 0 rfl ?_
            refine tm_if_eq (tgt := 168) dX12_findLives_131 (by decide) ⟨by decide, by decide⟩ (fun h => absurd h (by decide)) (fun _ => ?_)
            refine tm_aload_n dX12_findLives_134 rfl 6 rfl ?_
            refine tm_get (k := 59) (v := .ref (b + 1 + 37)) lay_12 dX12_findLives_135 (by decide) fl12_130 rfl ?_
            refine tm_sipush dX12_findLives_138 (by decide) ?_
            refine tm_iload dX12_findLives_141 3 rfl ?_
            refine tm_imul dX12_findLives_143 ?_
            refine tm_iload dX12_findLives_144 1 rfl ?_
            refine tm_iadd dX12_findLives_146 ?_
            refine tm_zald (z := (192 * k) + g) (v := σ.2.1 59 ((192 * k) + g)) dX12_findLives_147 (show mT[37]? = some (59, 2, 42432) from rfl) (by omega) (by omega) (by decide) (rfl) ?_
            have g19 := RG.a hR 59 ((192 * k) + g)
            have := hbl ((192 * k) + g)
            refine tm_if_ne (tgt := 168) dX12_findLives_148 (by decide) ⟨by omega, by omega⟩ (fun h20 => ?_) (fun h20 => ?_)
            · refine tm_iinc (q0 := 1) (L' := [(6, .int (iI (g + 1))), (7, .int (iI 1)), (5, .int (iI (220 * r + k))), (4, .int (iI k)), (3, .int (iI w)), (2, .int (iI n1)), (0, .ref b), (1, .int (iI r))]) dX12_findLives_168 rfl (by decide) rfl ?_
              refine tm_goto (tgt := 68) dX12_findLives_171 (by decide) ?_
              exact tm_sub [0, 2, 3, 4, 5, 6, 7] rfl (ih _ (by omega) (w) (g + 1) σ (Fr.rfl.trans (Fr.sub hF (by decide) (by decide) (by decide))) hR (by omega) (by first | exact hbl | exact hbl.A (by omega)) (by first | omega | (have hcz := cz_sA (σ := σ) (k := 59) (n := 42432) (z := 192 * k + g) (v := 1) (by omega) (by omega) (by omega) (by decide); omega)) hlv rfl)
            · refine tm_aload_n dX12_findLives_151 rfl 6 rfl ?_
              refine tm_get (k := 59) (v := .ref (b + 1 + 37)) lay_12 dX12_findLives_152 (by decide) fl12_130 rfl ?_
              refine tm_sipush dX12_findLives_155 (by decide) ?_
              refine tm_iload dX12_findLives_158 3 rfl ?_
              refine tm_imul dX12_findLives_160 ?_
              refine tm_iload dX12_findLives_161 1 rfl ?_
              refine tm_iadd dX12_findLives_163 ?_
              refine tm_iconst dX12_findLives_164 ?_
              refine tm_zast (z := (192 * k) + g) (v := 1) dX12_findLives_165 (show mT[37]? = some (59, 2, 42432) from rfl) (by omega) (by omega) (by decide) (by omega) ?_
              refine tm_iconst dX12_findLives_166 ?_
              refine tm_istore_n (L' := [(3, .int (iI 1)), (7, .int (iI 1)), (6, .int (iI g)), (5, .int (iI (220 * r + k))), (4, .int (iI k)), (2, .int (iI n1)), (0, .ref b), (1, .int (iI r))]) dX12_findLives_167 rfl (by decide) rfl ?_
              refine tm_iinc (q0 := 2) (L' := [(6, .int (iI (g + 1))), (3, .int (iI 1)), (7, .int (iI 1)), (5, .int (iI (220 * r + k))), (4, .int (iI k)), (2, .int (iI n1)), (0, .ref b), (1, .int (iI r))]) dX12_findLives_168 rfl (by decide) rfl ?_
              refine tm_goto (tgt := 68) dX12_findLives_171 (by decide) ?_
              exact tm_sub [0, 3, 4, 1, 5, 6, 7] rfl (ih _ (by omega) (1) (g + 1) (sA 59 ((192 * k) + g) (1) σ) ((Fr.rfl.trans (Fr.sub hF (by decide) (by decide) (by decide))).A (by decide)) (hR.A (by omega)) (by omega) (by first | exact hbl | exact hbl.A (by omega)) (by first | omega | (have hcz := cz_sA (σ := σ) (k := 59) (n := 42432) (z := 192 * k + g) (v := 1) (by omega) (by omega) (by omega) (by decide); omega)) (hlv.put (by omega) (by first | exact hA (by omega) | exact hB (by omega))) rfl)
      · refine tm_aload_n dX12_findLives_88 rfl 5 rfl ?_
        refine tm_iload dX12_findLives_89 1 rfl ?_
        refine tm_iload dX12_findLives_91 0 rfl ?_
        refine tm_callV (M := m_X12_findLives) (pc := 93) (ix := 436) (M' := m_X12_writesTo) (As := [.int (iI (220 * r + k)), .int (iI g)]) (rest := []) dX12_findLives_93 ok_X12_writesTo im_X12_writesTo se_X12_writesTo ml12_436 np_X12_writesTo rfl rfl (Nat.le_of_ble_eq_true rfl) (Nat.le_of_ble_eq_true rfl) rfl (c_X12_writesTo (d + 2) (σ := σ) (x := 220 * r + k) (g := g) (by omega) hR (by omega)) (fun r21 σ22 hp => ?_)
        obtain ⟨v23, rfl, rfl, f24, f25⟩ := hp
        show Tm _ _ 96 b σ [(6, .int (iI g)), (5, .int (iI (220 * r + k))), (4, .int (iI k)), (3, .int (iI w)), (2, .int (iI n1)), (0, .ref b), (1, .int (iI r))] [.int (iI v23)] _
        refine tm_if_eq (tgt := 122) dX12_findLives_96 (by decide) ⟨by omega, by omega⟩ (fun h26 => ?_) (fun h26 => ?_)
        · refine tm_iconst dX12_findLives_122 ?_
          refine tm_goto (tgt := 127) dX12_findLives_123 (by decide) ?_
          refine tm_istore (L' := [(7, .int (iI 1)), (6, .int (iI g)), (5, .int (iI (220 * r + k))), (4, .int (iI k)), (3, .int (iI w)), (2, .int (iI n1)), (0, .ref b), (1, .int (iI r))]) dX12_findLives_127 (by decide) rfl ?_
          refine tm_iload dX12_findLives_129 0 rfl ?_
          refine tm_if_eq (tgt := 168) dX12_findLives_131 (by decide) ⟨by decide, by decide⟩ (fun h => absurd h (by decide)) (fun _ => ?_)
          refine tm_aload_n dX12_findLives_134 rfl 6 rfl ?_
          refine tm_get (k := 59) (v := .ref (b + 1 + 37)) lay_12 dX12_findLives_135 (by decide) fl12_130 rfl ?_
          refine tm_sipush dX12_findLives_138 (by decide) ?_
          refine tm_iload dX12_findLives_141 3 rfl ?_
          refine tm_imul dX12_findLives_143 ?_
          refine tm_iload dX12_findLives_144 1 rfl ?_
          refine tm_iadd dX12_findLives_146 ?_
          refine tm_zald (z := (192 * k) + g) (v := σ.2.1 59 ((192 * k) + g)) dX12_findLives_147 (show mT[37]? = some (59, 2, 42432) from rfl) (by omega) (by omega) (by decide) (rfl) ?_
          have g28 := RG.a hR 59 ((192 * k) + g)
          have := hbl ((192 * k) + g)
          refine tm_if_ne (tgt := 168) dX12_findLives_148 (by decide) ⟨by omega, by omega⟩ (fun h29 => ?_) (fun h29 => ?_)
          · refine tm_iinc (q0 := 1) (L' := [(6, .int (iI (g + 1))), (7, .int (iI 1)), (5, .int (iI (220 * r + k))), (4, .int (iI k)), (3, .int (iI w)), (2, .int (iI n1)), (0, .ref b), (1, .int (iI r))]) dX12_findLives_168 rfl (by decide) rfl ?_
            refine tm_goto (tgt := 68) dX12_findLives_171 (by decide) ?_
            exact tm_sub [0, 2, 3, 4, 5, 6, 7] rfl (ih _ (by omega) (w) (g + 1) σ (Fr.rfl.trans (Fr.sub hF (by decide) (by decide) (by decide))) hR (by omega) (by first | exact hbl | exact hbl.A (by omega)) (by first | omega | (have hcz := cz_sA (σ := σ) (k := 59) (n := 42432) (z := 192 * k + g) (v := 1) (by omega) (by omega) (by omega) (by decide); omega)) hlv rfl)
          · refine tm_aload_n dX12_findLives_151 rfl 6 rfl ?_
            refine tm_get (k := 59) (v := .ref (b + 1 + 37)) lay_12 dX12_findLives_152 (by decide) fl12_130 rfl ?_
            refine tm_sipush dX12_findLives_155 (by decide) ?_
            refine tm_iload dX12_findLives_158 3 rfl ?_
            refine tm_imul dX12_findLives_160 ?_
            refine tm_iload dX12_findLives_161 1 rfl ?_
            refine tm_iadd dX12_findLives_163 ?_
            refine tm_iconst dX12_findLives_164 ?_
            refine tm_zast (z := (192 * k) + g) (v := 1) dX12_findLives_165 (show mT[37]? = some (59, 2, 42432) from rfl) (by omega) (by omega) (by decide) (by omega) ?_
            refine tm_iconst dX12_findLives_166 ?_
            refine tm_istore_n (L' := [(3, .int (iI 1)), (7, .int (iI 1)), (6, .int (iI g)), (5, .int (iI (220 * r + k))), (4, .int (iI k)), (2, .int (iI n1)), (0, .ref b), (1, .int (iI r))]) dX12_findLives_167 rfl (by decide) rfl ?_
            refine tm_iinc (q0 := 2) (L' := [(6, .int (iI (g + 1))), (3, .int (iI 1)), (7, .int (iI 1)), (5, .int (iI (220 * r + k))), (4, .int (iI k)), (2, .int (iI n1)), (0, .ref b), (1, .int (iI r))]) dX12_findLives_168 rfl (by decide) rfl ?_
            refine tm_goto (tgt := 68) dX12_findLives_171 (by decide) ?_
            exact tm_sub [0, 3, 4, 1, 5, 6, 7] rfl (ih _ (by omega) (1) (g + 1) (sA 59 ((192 * k) + g) (1) σ) ((Fr.rfl.trans (Fr.sub hF (by decide) (by decide) (by decide))).A (by decide)) (hR.A (by omega)) (by omega) (by first | exact hbl | exact hbl.A (by omega)) (by first | omega | (have hcz := cz_sA (σ := σ) (k := 59) (n := 42432) (z := 192 * k + g) (v := 1) (by omega) (by omega) (by omega) (by decide); omega)) (hlv.put (by omega) (by first | exact hA (by omega) | exact hB (by omega))) rfl)
        · refine tm_aload_n dX12_findLives_99 rfl 5 rfl ?_
          refine tm_get (k := 3) (v := .ref (b + 1 + 1)) lay_12 dX12_findLives_100 (by decide) fl12_13 rfl ?_
          refine tm_iload dX12_findLives_103 1 rfl ?_
          refine tm_iald (z := 220 * r + k) (v := σ0.2.1 3 (220 * r + k)) dX12_findLives_105 (show mT[1]? = some (3, 0, 2860) from rfl) (by omega) (by omega) (by decide) (ra_F hF (by decide) (rfl)) ?_
          have g30 := RG.a hR0 3 (220 * r + k)
          refine tm_bipush dX12_findLives_106 (by decide) ?_
          refine tm_icmp_eq (tgt := 126) dX12_findLives_108 (by decide) ⟨by omega, by omega⟩ ⟨by decide, by decide⟩ (fun h31 => ?_) (fun h31 => ?_)
          · refine tm_iconst dX12_findLives_126 ?_
            refine tm_istore (L' := [(7, .int (iI 0)), (6, .int (iI g)), (5, .int (iI (220 * r + k))), (4, .int (iI k)), (3, .int (iI w)), (2, .int (iI n1)), (0, .ref b), (1, .int (iI r))]) dX12_findLives_127 (by decide) rfl ?_
            refine tm_iload dX12_findLives_129 0 rfl ?_
            refine tm_if_eq (tgt := 168) dX12_findLives_131 (by decide) ⟨by decide, by decide⟩ (fun _ => ?_) (fun h => absurd h (by decide))
            refine tm_iinc (q0 := 1) (L' := [(6, .int (iI (g + 1))), (7, .int (iI 0)), (5, .int (iI (220 * r + k))), (4, .int (iI k)), (3, .int (iI w)), (2, .int (iI n1)), (0, .ref b), (1, .int (iI r))]) dX12_findLives_168 rfl (by decide) rfl ?_
            refine tm_goto (tgt := 68) dX12_findLives_171 (by decide) ?_
            exact tm_sub [0, 2, 3, 4, 5, 6, 7] rfl (ih _ (by omega) (w) (g + 1) σ (Fr.rfl.trans (Fr.sub hF (by decide) (by decide) (by decide))) hR (by omega) (by first | exact hbl | exact hbl.A (by omega)) (by first | omega | (have hcz := cz_sA (σ := σ) (k := 59) (n := 42432) (z := 192 * k + g) (v := 1) (by omega) (by omega) (by omega) (by decide); omega)) hlv rfl)
          · refine tm_aload_n dX12_findLives_111 rfl 5 rfl ?_
            refine tm_iload dX12_findLives_112 1 rfl ?_
            refine tm_iload dX12_findLives_114 0 rfl ?_
            refine tm_callV (M := m_X12_findLives) (pc := 116) (ix := 439) (M' := m_X12_leansOn) (As := [.int (iI (220 * r + k)), .int (iI g)]) (rest := []) dX12_findLives_116 ok_X12_leansOn im_X12_leansOn se_X12_leansOn ml12_439 np_X12_leansOn rfl rfl (Nat.le_of_ble_eq_true rfl) (Nat.le_of_ble_eq_true rfl) rfl (c_X12_leansOn (d) (σ := σ) (x := 220 * r + k) (g := g) (by omega) hR (hok1.of (by omega) (by omega)) hpar1 (by omega)) (fun r33 σ34 hp => ?_)
            obtain ⟨v35, rfl, rfl, f36, f37⟩ := hp
            show Tm _ _ 119 b σ [(6, .int (iI g)), (5, .int (iI (220 * r + k))), (4, .int (iI k)), (3, .int (iI w)), (2, .int (iI n1)), (0, .ref b), (1, .int (iI r))] [.int (iI v35)] _
            have hB : v35 = 1 → LVW ρ r g := fun q => LVW.of hρ1 (by omega) (f37.mp q)
            refine tm_if_eq (tgt := 126) dX12_findLives_119 (by decide) ⟨by omega, by omega⟩ (fun h38 => ?_) (fun h38 => ?_)
            · refine tm_iconst dX12_findLives_126 ?_
              refine tm_istore (L' := [(7, .int (iI 0)), (6, .int (iI g)), (5, .int (iI (220 * r + k))), (4, .int (iI k)), (3, .int (iI w)), (2, .int (iI n1)), (0, .ref b), (1, .int (iI r))]) dX12_findLives_127 (by decide) rfl ?_
              refine tm_iload dX12_findLives_129 0 rfl ?_
              refine tm_if_eq (tgt := 168) dX12_findLives_131 (by decide) ⟨by decide, by decide⟩ (fun _ => ?_) (fun h => absurd h (by decide))
              refine tm_iinc (q0 := 1) (L' := [(6, .int (iI (g + 1))), (7, .int (iI 0)), (5, .int (iI (220 * r + k))), (4, .int (iI k)), (3, .int (iI w)), (2, .int (iI n1)), (0, .ref b), (1, .int (iI r))]) dX12_findLives_168 rfl (by decide) rfl ?_
              refine tm_goto (tgt := 68) dX12_findLives_171 (by decide) ?_
              exact tm_sub [0, 2, 3, 4, 5, 6, 7] rfl (ih _ (by omega) (w) (g + 1) σ (Fr.rfl.trans (Fr.sub hF (by decide) (by decide) (by decide))) hR (by omega) (by first | exact hbl | exact hbl.A (by omega)) (by first | omega | (have hcz := cz_sA (σ := σ) (k := 59) (n := 42432) (z := 192 * k + g) (v := 1) (by omega) (by omega) (by omega) (by decide); omega)) hlv rfl)
            · refine tm_iconst dX12_findLives_122 ?_
              refine tm_goto (tgt := 127) dX12_findLives_123 (by decide) ?_
              refine tm_istore (L' := [(7, .int (iI 1)), (6, .int (iI g)), (5, .int (iI (220 * r + k))), (4, .int (iI k)), (3, .int (iI w)), (2, .int (iI n1)), (0, .ref b), (1, .int (iI r))]) dX12_findLives_127 (by decide) rfl ?_
              refine tm_iload dX12_findLives_129 0 rfl ?_
              refine tm_if_eq (tgt := 168) dX12_findLives_131 (by decide) ⟨by decide, by decide⟩ (fun h => absurd h (by decide)) (fun _ => ?_)
              refine tm_aload_n dX12_findLives_134 rfl 6 rfl ?_
              refine tm_get (k := 59) (v := .ref (b + 1 + 37)) lay_12 dX12_findLives_135 (by decide) fl12_130 rfl ?_
              refine tm_sipush dX12_findLives_138 (by decide) ?_
              refine tm_iload dX12_findLives_141 3 rfl ?_
              refine tm_imul dX12_findLives_143 ?_
              refine tm_iload dX12_findLives_144 1 rfl ?_
              refine tm_iadd dX12_findLives_146 ?_
              refine tm_zald (z := (192 * k) + g) (v := σ.2.1 59 ((192 * k) + g)) dX12_findLives_147 (show mT[37]? = some (59, 2, 42432) from rfl) (by omega) (by omega) (by decide) (rfl) ?_
              have g41 := RG.a hR 59 ((192 * k) + g)
              have := hbl ((192 * k) + g)
              refine tm_if_ne (tgt := 168) dX12_findLives_148 (by decide) ⟨by omega, by omega⟩ (fun h42 => ?_) (fun h42 => ?_)
              · refine tm_iinc (q0 := 1) (L' := [(6, .int (iI (g + 1))), (7, .int (iI 1)), (5, .int (iI (220 * r + k))), (4, .int (iI k)), (3, .int (iI w)), (2, .int (iI n1)), (0, .ref b), (1, .int (iI r))]) dX12_findLives_168 rfl (by decide) rfl ?_
                refine tm_goto (tgt := 68) dX12_findLives_171 (by decide) ?_
                exact tm_sub [0, 2, 3, 4, 5, 6, 7] rfl (ih _ (by omega) (w) (g + 1) σ (Fr.rfl.trans (Fr.sub hF (by decide) (by decide) (by decide))) hR (by omega) (by first | exact hbl | exact hbl.A (by omega)) (by first | omega | (have hcz := cz_sA (σ := σ) (k := 59) (n := 42432) (z := 192 * k + g) (v := 1) (by omega) (by omega) (by omega) (by decide); omega)) hlv rfl)
              · refine tm_aload_n dX12_findLives_151 rfl 6 rfl ?_
                refine tm_get (k := 59) (v := .ref (b + 1 + 37)) lay_12 dX12_findLives_152 (by decide) fl12_130 rfl ?_
                refine tm_sipush dX12_findLives_155 (by decide) ?_
                refine tm_iload dX12_findLives_158 3 rfl ?_
                refine tm_imul dX12_findLives_160 ?_
                refine tm_iload dX12_findLives_161 1 rfl ?_
                refine tm_iadd dX12_findLives_163 ?_
                refine tm_iconst dX12_findLives_164 ?_
                refine tm_zast (z := (192 * k) + g) (v := 1) dX12_findLives_165 (show mT[37]? = some (59, 2, 42432) from rfl) (by omega) (by omega) (by decide) (by omega) ?_
                refine tm_iconst dX12_findLives_166 ?_
                refine tm_istore_n (L' := [(3, .int (iI 1)), (7, .int (iI 1)), (6, .int (iI g)), (5, .int (iI (220 * r + k))), (4, .int (iI k)), (2, .int (iI n1)), (0, .ref b), (1, .int (iI r))]) dX12_findLives_167 rfl (by decide) rfl ?_
                refine tm_iinc (q0 := 2) (L' := [(6, .int (iI (g + 1))), (3, .int (iI 1)), (7, .int (iI 1)), (5, .int (iI (220 * r + k))), (4, .int (iI k)), (2, .int (iI n1)), (0, .ref b), (1, .int (iI r))]) dX12_findLives_168 rfl (by decide) rfl ?_
                refine tm_goto (tgt := 68) dX12_findLives_171 (by decide) ?_
                exact tm_sub [0, 3, 4, 1, 5, 6, 7] rfl (ih _ (by omega) (1) (g + 1) (sA 59 ((192 * k) + g) (1) σ) ((Fr.rfl.trans (Fr.sub hF (by decide) (by decide) (by decide))).A (by decide)) (hR.A (by omega)) (by omega) (by first | exact hbl | exact hbl.A (by omega)) (by first | omega | (have hcz := cz_sA (σ := σ) (k := 59) (n := 42432) (z := 192 * k + g) (v := 1) (by omega) (by omega) (by omega) (by decide); omega)) (hlv.put (by omega) (by first | exact hA (by omega) | exact hB (by omega))) rfl)
set_option maxHeartbeats 1000000 in
set_option maxRecDepth 20000 in
theorem l2_lives3 (d : Nat) {b : Nat} {σ0 : MS} {r : Int} {F : Int} {n1 : Int} {C0 : Int} {ρ : MS} {post : Option Value → MS → Prop} (hr : 0 ≤ r ∧ r < 6) (hR0 : RG σ0) (hit : ITM σ0) (hpar : PAR σ0) (hok : OKS σ0 F r) (hl : LAB σ0) (htg : TGT σ0 r) (hρ : Fr [] [46, 59] [] ρ σ0) (hk : n1 = σ0.2.1 9 r) (hx_180 : ∀ (w : Int) (k : Int) (σ : MS) , (Fr [] [59] [] σ0 σ) → (RG σ) → (w = 0 ∨ w = 1) → (BO 59 σ) → ((cz (σ.2.1 59) 42432 : Int) + w ≤ C0) → (LVR ρ σ r) → Tm (d + 5) m_X12_findLives 180 b σ [(4, .int (iI k)), (3, .int (iI w)), (2, .int (iI n1)), (0, .ref b), (1, .int (iI r))] [] post) : ∀ (n : Nat) (w : Int) (k : Int) (σ : MS) , (Fr [] [59] [] σ0 σ) → (RG σ) → ((w = 0 ∨ w = 1) ∧ -1 ≤ k ∧ k < n1) → (BO 59 σ) → ((cz (σ.2.1 59) 42432 : Int) + w ≤ C0) → (LVR ρ σ r) → (k + 1).toNat = n → Tm (d + 5) m_X12_findLives 51 b σ [(4, .int (iI k)), (3, .int (iI w)), (2, .int (iI n1)), (0, .ref b), (1, .int (iI r))] [] post := by
  intro n
  induction n using Nat.strongRecOn with
  | _ n ih =>
    intro w k σ hF hR h0 hbl hcn hlv hm
    have hit1 := hit.fr hF (by decide)
    have hpar1 := hpar.fr hF (by decide)
    have hok1 := hok.fr hF (by decide)
    have hl1 := hl.fr hF (by decide)
    have q1 := hit r (by omega) (by omega)
    have q9 : σ.2.1 9 r = σ0.2.1 9 r := by rw [hF.2.1 9 (by decide)]
    have htg1 := htg.fr hF (by decide)
    have hρ1 : Fr [] [46, 59] [] ρ σ := hρ.trans (hF.sub (by decide) (by decide) (by decide))
    have qρ : ρ.2.1 9 r = σ0.2.1 9 r := by rw [hρ.2.1 9 (by decide)]
    refine tm_iload dX12_findLives_51 0 rfl ?_
    refine tm_if_lt (tgt := 180) dX12_findLives_53 (by decide) ⟨by omega, by omega⟩ (fun h1 => ?_) (fun h1 => ?_)
    · exact tm_sub [0, 1, 2, 3, 4] rfl (hx_180 (w) (k) σ (Fr.rfl.trans (Fr.sub hF (by decide) (by decide) (by decide))) hR (by omega) hbl hcn hlv)
    · refine tm_aload_n dX12_findLives_56 rfl 3 rfl ?_
      refine tm_iload_n dX12_findLives_57 rfl 4 rfl ?_
      refine tm_iload dX12_findLives_58 0 rfl ?_
      refine tm_callV (M := m_X12_findLives) (pc := 60) (ix := 203) (M' := m_X12_at) (As := [.int (iI r), .int (iI k)]) (rest := []) dX12_findLives_60 ok_X12_at im_X12_at se_X12_at ml12_203 np_X12_at rfl rfl (Nat.le_of_ble_eq_true rfl) (Nat.le_of_ble_eq_true rfl) rfl (c_X12_at (d + 3) (σ := σ) (x := r) (k := k) ) (fun r2 σ3 hp => ?_)
      obtain ⟨v4, rfl, rfl, f5⟩ := hp
      subst f5
      show Tm _ _ 63 b σ [(4, .int (iI k)), (3, .int (iI w)), (2, .int (iI n1)), (0, .ref b), (1, .int (iI r))] [.int (iI (220 * r + k))] _
      refine tm_istore (L' := [(5, .int (iI (220 * r + k))), (4, .int (iI k)), (3, .int (iI w)), (2, .int (iI n1)), (0, .ref b), (1, .int (iI r))]) dX12_findLives_63 (by decide) rfl ?_
      refine tm_iconst dX12_findLives_65 ?_
      refine tm_istore (L' := [(6, .int (iI 0)), (5, .int (iI (220 * r + k))), (4, .int (iI k)), (3, .int (iI w)), (2, .int (iI n1)), (0, .ref b), (1, .int (iI r))]) dX12_findLives_66 (by decide) rfl ?_
      refine tm_sub [0, 1, 2, 3, 4, 5, 6] rfl (l2_lives4 (d) (σ0 := σ) (r := r) (k := k) (n1 := n1) (F := F) (C0 := C0) (ρ := ρ) hr hR hit1 hpar1 hok1 hl1 htg1 hρ1 (by omega) (fun w15 g16 σ17 F9 R10 f11 f12 f13 f14 => ?_) _ (w) (0) σ Fr.rfl hR (by omega) hbl (by omega) hlv rfl)
      show Tm _ _ 174 b σ17 [(6, .int (iI g16)), (5, .int (iI (220 * r + k))), (4, .int (iI k)), (3, .int (iI w15)), (2, .int (iI n1)), (0, .ref b), (1, .int (iI r))] [] _
      refine tm_iinc (q0 := 2) (L' := [(4, .int (iI (k + (-1)))), (6, .int (iI g16)), (5, .int (iI (220 * r + k))), (3, .int (iI w15)), (2, .int (iI n1)), (0, .ref b), (1, .int (iI r))]) dX12_findLives_174 rfl (by decide) rfl ?_
      refine tm_goto (tgt := 51) dX12_findLives_177 (by decide) ?_
      exact tm_sub [0, 3, 4, 5, 6] rfl (ih _ (by omega) (w15) (k + (-1)) σ17 ((Fr.rfl.trans (Fr.sub hF (by decide) (by decide) (by decide))).trans (Fr.sub F9 (by decide) (by decide) (by decide))) R10 (by omega) (by assumption) (by omega) (by assumption) rfl)
set_option maxHeartbeats 1000000 in
set_option maxRecDepth 20000 in
theorem l2_lives2 (d : Nat) {b : Nat} {σ0 : MS} {r : Int} {F : Int} {n1 : Int} {ρ : MS} {post : Option Value → MS → Prop} (hr : 0 ≤ r ∧ r < 6) (hR0 : RG σ0) (hit : ITM σ0) (hpar : PAR σ0) (hok : OKS σ0 F r) (hl : LAB σ0) (htg : TGT σ0 r) (hρ : Fr [] [46, 59] [] ρ σ0) (hk : n1 = σ0.2.1 9 r) (hx_183 : ∀ (w : Int) (σ : MS) , (Fr [] [59] [] σ0 σ) → (RG σ) → (BO 59 σ) → (LVR ρ σ r) → Tm (d + 5) m_X12_findLives 183 b σ [(3, .int (iI w)), (2, .int (iI n1)), (0, .ref b), (1, .int (iI r))] [] post) : ∀ (n : Nat) (w : Int) (σ : MS) , (Fr [] [59] [] σ0 σ) → (RG σ) → (w = 0 ∨ w = 1) → (BO 59 σ) → (LVR ρ σ r) → ((cz (σ.2.1 59) 42432 : Int) + w).toNat = n → Tm (d + 5) m_X12_findLives 40 b σ [(3, .int (iI w)), (2, .int (iI n1)), (0, .ref b), (1, .int (iI r))] [] post := by
  intro n
  induction n using Nat.strongRecOn with
  | _ n ih =>
    intro w σ hF hR h0 hbl hlv hm
    have hit1 := hit.fr hF (by decide)
    have hpar1 := hpar.fr hF (by decide)
    have hok1 := hok.fr hF (by decide)
    have hl1 := hl.fr hF (by decide)
    have q1 := hit r (by omega) (by omega)
    have q9 : σ.2.1 9 r = σ0.2.1 9 r := by rw [hF.2.1 9 (by decide)]
    have htg1 := htg.fr hF (by decide)
    have hρ1 : Fr [] [46, 59] [] ρ σ := hρ.trans (hF.sub (by decide) (by decide) (by decide))
    have qρ : ρ.2.1 9 r = σ0.2.1 9 r := by rw [hρ.2.1 9 (by decide)]
    refine tm_iload_n dX12_findLives_40 rfl 0 rfl ?_
    refine tm_if_eq (tgt := 183) dX12_findLives_41 (by decide) ⟨by omega, by omega⟩ (fun h1 => ?_) (fun h1 => ?_)
    · exact tm_sub [0, 1, 2, 3] rfl (hx_183 (w) σ (Fr.rfl.trans (Fr.sub hF (by decide) (by decide) (by decide))) hR hbl hlv)
    · refine tm_iconst dX12_findLives_44 ?_
      refine tm_istore_n (L' := [(3, .int (iI 0)), (2, .int (iI n1)), (0, .ref b), (1, .int (iI r))]) dX12_findLives_45 rfl (by decide) rfl ?_
      refine tm_iload_n dX12_findLives_46 rfl 1 rfl ?_
      refine tm_iconst dX12_findLives_47 ?_
      refine tm_isub dX12_findLives_48 ?_
      refine tm_istore (L' := [(4, .int (iI (n1 - 1))), (3, .int (iI 0)), (2, .int (iI n1)), (0, .ref b), (1, .int (iI r))]) dX12_findLives_49 (by decide) rfl ?_
      refine tm_sub [0, 1, 2, 3, 4] rfl (l2_lives3 (d) (σ0 := σ) (r := r) (n1 := n1) (F := F) (C0 := (cz (σ.2.1 59) 42432 : Int)) (ρ := ρ) hr hR hit1 hpar1 hok1 hl1 htg1 hρ1 (by omega) (fun w11 k12 σ13 F5 R6 f7 f8 f9 f10 => ?_) _ (0) (n1 - 1) σ Fr.rfl hR (by omega) hbl (by omega) hlv rfl)
      show Tm _ _ 180 b σ13 [(4, .int (iI k12)), (3, .int (iI w11)), (2, .int (iI n1)), (0, .ref b), (1, .int (iI r))] [] _
      refine tm_goto (tgt := 40) dX12_findLives_180 (by decide) ?_
      exact tm_sub [1, 2, 3, 4] rfl (ih _ (by omega) (w11) σ13 ((Fr.rfl.trans (Fr.sub hF (by decide) (by decide) (by decide))).trans (Fr.sub F5 (by decide) (by decide) (by decide))) R6 (by omega) (by assumption) (by assumption) rfl)
set_option maxHeartbeats 1000000 in
set_option maxRecDepth 20000 in
theorem l2_lives1 (d : Nat) {b : Nat} {σ0 : MS} {r : Int} {n1 : Int} {post : Option Value → MS → Prop} (hk : 0 ≤ n1 ∧ n1 ≤ 220) (hx_38 : ∀ (k : Int) (σ : MS) , (Fr [] [59] [] σ0 σ) → (RG σ) → (BO 59 σ) → (∀ y, 0 ≤ y → y < 192 * (n1 + 1) → σ.2.1 59 y = 0) → Tm (d + 1) m_X12_findLives 38 b σ [(3, .int (iI k)), (2, .int (iI n1)), (0, .ref b), (1, .int (iI r))] [] post) : ∀ (n : Nat) (k : Int) (σ : MS) , (Fr [] [59] [] σ0 σ) → (RG σ) → (0 ≤ k ∧ k ≤ 192 * (n1 + 1)) → (BO 59 σ) → (∀ y, 0 ≤ y → y < k → σ.2.1 59 y = 0) → (192 * (n1 + 1) - k).toNat = n → Tm (d + 1) m_X12_findLives 14 b σ [(3, .int (iI k)), (2, .int (iI n1)), (0, .ref b), (1, .int (iI r))] [] post := by
  intro n
  induction n using Nat.strongRecOn with
  | _ n ih =>
    intro k σ hF hR h0 hbl hz hm
    refine tm_iload_n dX12_findLives_14 rfl 0 rfl ?_
    refine tm_sipush dX12_findLives_15 (by decide) ?_
    refine tm_iload_n dX12_findLives_18 rfl 1 rfl ?_
    refine tm_iconst dX12_findLives_19 ?_
    refine tm_iadd dX12_findLives_20 ?_
    refine tm_imul dX12_findLives_21 ?_
    refine tm_icmp_ge (tgt := 38) dX12_findLives_22 (by decide) ⟨by omega, by omega⟩ ⟨by omega, by omega⟩ (fun h1 => ?_) (fun h1 => ?_)
    · exact tm_sub [0, 1, 2, 3] rfl (hx_38 (k) σ (Fr.rfl.trans (Fr.sub hF (by decide) (by decide) (by decide))) hR hbl (fun y a c => hz y a (by omega)))
    · refine tm_aload_n dX12_findLives_25 rfl 2 rfl ?_
      refine tm_get (k := 59) (v := .ref (b + 1 + 37)) lay_12 dX12_findLives_26 (by decide) fl12_130 rfl ?_
      refine tm_iload_n dX12_findLives_29 rfl 0 rfl ?_
      refine tm_iconst dX12_findLives_30 ?_
      refine tm_zast (z := k) (v := 0) dX12_findLives_31 (show mT[37]? = some (59, 2, 42432) from rfl) (by omega) (by omega) (by decide) (by omega) ?_
      refine tm_iinc (q0 := 0) (L' := [(3, .int (iI (k + 1))), (2, .int (iI n1)), (0, .ref b), (1, .int (iI r))]) dX12_findLives_32 rfl (by decide) rfl ?_
      refine tm_goto (tgt := 14) dX12_findLives_35 (by decide) ?_
      exact tm_sub [0, 1, 2, 3] rfl (ih _ (by omega) (k + 1) (sA 59 (k) (0) σ) ((Fr.rfl.trans (Fr.sub hF (by decide) (by decide) (by decide))).A (by decide)) (hR.A (by omega)) (by omega) (hbl.A (by omega)) (fun y a c => by
          by_cases q : y = k
          · subst q; exact ra_eq
          · exact ra_ne q (hz y a (by omega))) rfl)
set_option maxHeartbeats 1000000 in
set_option maxRecDepth 20000 in
theorem c2_X12_findLives (d : Nat) {b : Nat} {σ : MS} {r : Int} {F : Int} (hr : 0 ≤ r ∧ r < 6) (hR : RG σ) (hit : ITM σ) (hpar : PAR σ) (hok : OKS σ F r) (hl : LAB σ) (hbl : BO 59 σ) (hlex : LEX σ r) : Tm (d + 5) m_X12_findLives 0 b σ [(0, .ref b), (1, .int (iI r))] [] (fun ro σ2 => ro = none ∧ (Fr [] [46, 59] [] σ σ2) ∧ (RG σ2) ∧ (LAB σ2) ∧ (BO 59 σ2) ∧ (TGT σ2 r) ∧ (LVR σ σ2 r)) := by
  have q1 := hit r (by omega) (by omega)
  refine tm_aload_n dX12_findLives_0 rfl 0 rfl ?_
  refine tm_iload_n dX12_findLives_1 rfl 1 rfl ?_
  refine tm_callV (M := m_X12_findLives) (pc := 2) (ix := 420) (M' := m_X12_findLabels) (As := [.int (iI r)]) (rest := []) dX12_findLives_2 ok_X12_findLabels im_X12_findLabels se_X12_findLabels ml12_420 np_X12_findLabels rfl rfl (Nat.le_of_ble_eq_true rfl) (Nat.le_of_ble_eq_true rfl) rfl (c_X12_findLabels (d + 2) (σ := σ) (r := r) (by omega) hR hit hok.jmp.lbr hl) (fun r1 σ2 hp => ?_)
  obtain ⟨rfl, f4, f5, f6, f7⟩ := hp
  show Tm _ _ 5 b σ2 [(0, .ref b), (1, .int (iI r))] [] _
  have htg0 := LEX.tgt hlex f7 f4
  have hl0 := f6
  refine tm_aload_n dX12_findLives_5 rfl 0 rfl ?_
  refine tm_get (k := 9) (v := .ref (b + 1 + 7)) lay_12 dX12_findLives_6 (by decide) fl12_32 rfl ?_
  refine tm_iload_n dX12_findLives_9 rfl 1 rfl ?_
  refine tm_iald (z := r) (v := σ.2.1 9 r) dX12_findLives_10 (show mT[7]? = some (9, 0, 13) from rfl) (by omega) (by omega) (by decide) (ra_F f4 (by decide) (rfl)) ?_
  have g8 := RG.a hR 9 (r)
  refine tm_istore_n (L' := [(2, .int (iI (σ.2.1 9 r))), (0, .ref b), (1, .int (iI r))]) dX12_findLives_11 rfl (by decide) rfl ?_
  refine tm_iconst dX12_findLives_12 ?_
  refine tm_istore_n (L' := [(3, .int (iI 0)), (2, .int (iI (σ.2.1 9 r))), (0, .ref b), (1, .int (iI r))]) dX12_findLives_13 rfl (by decide) rfl ?_
  refine tm_sub [0, 1, 2, 3] rfl (l2_lives1 (d + 4) (σ0 := σ2) (r := r) (n1 := σ.2.1 9 r) (by omega) (fun k15 σ16 F11 R12 f13 f14 => ?_) _ (0) σ2 Fr.rfl f5 (by omega) (hbl.fr (by assumption) (by decide)) (fun y a c => by omega) rfl)
  show Tm _ _ 38 b σ16 [(3, .int (iI k15)), (2, .int (iI (σ.2.1 9 r))), (0, .ref b), (1, .int (iI r))] [] _
  have hz := f14
  have hb1 := f13
  have htg1 := htg0.fr F11 (by decide)
  refine tm_iconst dX12_findLives_38 ?_
  refine tm_istore_n (L' := [(3, .int (iI 1)), (2, .int (iI (σ.2.1 9 r))), (0, .ref b), (1, .int (iI r))]) dX12_findLives_39 rfl (by decide) rfl ?_
  refine tm_sub [0, 1, 2, 3] rfl (l2_lives2 (d) (σ0 := σ16) (r := r) (n1 := σ.2.1 9 r) (F := F) (ρ := σ) hr R12 (hit.fr (show Fr [] [46, 59] [] σ σ16 from ((Fr.rfl.trans (Fr.sub f4 (by decide) (by decide) (by decide))).trans (Fr.sub F11 (by decide) (by decide) (by decide)))) (by decide)) (hpar.fr (show Fr [] [46, 59] [] σ σ16 from ((Fr.rfl.trans (Fr.sub f4 (by decide) (by decide) (by decide))).trans (Fr.sub F11 (by decide) (by decide) (by decide)))) (by decide)) (hok.fr (show Fr [] [46, 59] [] σ σ16 from ((Fr.rfl.trans (Fr.sub f4 (by decide) (by decide) (by decide))).trans (Fr.sub F11 (by decide) (by decide) (by decide)))) (by decide)) (hl0.fr F11 (by decide)) htg1 (show Fr [] [46, 59] [] σ σ16 from ((Fr.rfl.trans (Fr.sub f4 (by decide) (by decide) (by decide))).trans (Fr.sub F11 (by decide) (by decide) (by decide)))) (by rw [((show Fr [] [46, 59] [] σ σ16 from ((Fr.rfl.trans (Fr.sub f4 (by decide) (by decide) (by decide))).trans (Fr.sub F11 (by decide) (by decide) (by decide))))).2.1 9 (by decide)]) (fun w23 σ24 F19 R20 f21 f22 => ?_) _ (1) σ16 Fr.rfl R12 (by omega) hb1 (fun k g a c e i q => absurd (hz (192 * k + g) (by omega) (by omega)) (by omega)) rfl)
  show Tm _ _ 183 b σ24 [(3, .int (iI w23)), (2, .int (iI (σ.2.1 9 r))), (0, .ref b), (1, .int (iI r))] [] _
  exact tm_vret rfl dX12_findLives_183 (⟨rfl, (((Fr.rfl.trans (Fr.sub f4 (by decide) (by decide) (by decide))).trans (Fr.sub F11 (by decide) (by decide) (by decide))).trans (Fr.sub F19 (by decide) (by decide) (by decide))), R20, LAB.fr (LAB.fr hl0 F11 (by decide)) F19 (by decide), f21, htg1.fr F19 (by decide), f22⟩)
end
section
theorem dX12_dropAll_17 : decode cX12_dropAll 17 = .ok (.iload 4, 2) := by decide +kernel
theorem dX12_dropAll_19 : decode cX12_dropAll 19 = .ok (.aload_n 0, 1) := by decide +kernel
theorem dX12_dropAll_20 : decode cX12_dropAll 20 = .ok (.getfield 32, 3) := by decide +kernel
theorem dX12_dropAll_23 : decode cX12_dropAll 23 = .ok (.iload_n 1, 1) := by decide +kernel
theorem dX12_dropAll_24 : decode cX12_dropAll 24 = .ok (.iaload, 1) := by decide +kernel
theorem dX12_dropAll_25 : decode cX12_dropAll 25 = .ok (.if_icmp .ge 68, 3) := by decide +kernel
theorem dX12_dropAll_28 : decode cX12_dropAll 28 = .ok (.aload_n 0, 1) := by decide +kernel
theorem dX12_dropAll_29 : decode cX12_dropAll 29 = .ok (.getfield 91, 3) := by decide +kernel
theorem dX12_dropAll_32 : decode cX12_dropAll 32 = .ok (.iload 4, 2) := by decide +kernel
theorem dX12_dropAll_34 : decode cX12_dropAll 34 = .ok (.baload, 1) := by decide +kernel
theorem dX12_dropAll_35 : decode cX12_dropAll 35 = .ok (.ifCond .eq 26, 3) := by decide +kernel
theorem dX12_dropAll_61 : decode cX12_dropAll 61 = .ok (.iload_n 2, 1) := by decide +kernel
theorem dX12_dropAll_62 : decode cX12_dropAll 62 = .ok (.aload_n 0, 1) := by decide +kernel
theorem dX12_dropAll_63 : decode cX12_dropAll 63 = .ok (.getfield 13, 3) := by decide +kernel
theorem dX12_dropAll_66 : decode cX12_dropAll 66 = .ok (.aload_n 0, 1) := by decide +kernel
theorem dX12_dropAll_67 : decode cX12_dropAll 67 = .ok (.iload_n 1, 1) := by decide +kernel
theorem dX12_dropAll_68 : decode cX12_dropAll 68 = .ok (.iload 4, 2) := by decide +kernel
theorem dX12_dropAll_70 : decode cX12_dropAll 70 = .ok (.invokevirtual 203, 3) := by decide +kernel
theorem dX12_dropAll_73 : decode cX12_dropAll 73 = .ok (.iaload, 1) := by decide +kernel
theorem dX12_dropAll_74 : decode cX12_dropAll 74 = .ok (.invokestatic 401, 3) := by decide +kernel
theorem dX12_dropAll_77 : decode cX12_dropAll 77 = .ok (.ifCond .eq 7, 3) := by decide +kernel
theorem dX12_dropAll_84 : decode cX12_dropAll 84 = .ok (.iconst 0, 1) := by decide +kernel
theorem dX12_dropAll_85 : decode cX12_dropAll 85 = .ok (.iadd, 1) := by decide +kernel
theorem dX12_dropAll_86 : decode cX12_dropAll 86 = .ok (.istore_n 2, 1) := by decide +kernel
theorem dX12_dropAll_87 : decode cX12_dropAll 87 = .ok (.iinc 4 1, 3) := by decide +kernel
theorem dX12_dropAll_90 : decode cX12_dropAll 90 = .ok (.goto (-73), 3) := by decide +kernel
theorem dX12_dropAll_80 : decode cX12_dropAll 80 = .ok (.iconst 1, 1) := by decide +kernel
theorem dX12_dropAll_81 : decode cX12_dropAll 81 = .ok (.goto 4, 3) := by decide +kernel
theorem dX12_dropAll_38 : decode cX12_dropAll 38 = .ok (.aload_n 0, 1) := by decide +kernel
theorem dX12_dropAll_39 : decode cX12_dropAll 39 = .ok (.aload_n 0, 1) := by decide +kernel
theorem dX12_dropAll_40 : decode cX12_dropAll 40 = .ok (.iload_n 1, 1) := by decide +kernel
theorem dX12_dropAll_41 : decode cX12_dropAll 41 = .ok (.iload 4, 2) := by decide +kernel
theorem dX12_dropAll_43 : decode cX12_dropAll 43 = .ok (.invokevirtual 203, 3) := by decide +kernel
theorem dX12_dropAll_46 : decode cX12_dropAll 46 = .ok (.aload_n 0, 1) := by decide +kernel
theorem dX12_dropAll_47 : decode cX12_dropAll 47 = .ok (.iload_n 1, 1) := by decide +kernel
theorem dX12_dropAll_48 : decode cX12_dropAll 48 = .ok (.iload_n 3, 1) := by decide +kernel
theorem dX12_dropAll_49 : decode cX12_dropAll 49 = .ok (.invokevirtual 203, 3) := by decide +kernel
theorem dX12_dropAll_52 : decode cX12_dropAll 52 = .ok (.invokevirtual 394, 3) := by decide +kernel
theorem dX12_dropAll_55 : decode cX12_dropAll 55 = .ok (.iinc 3 1, 3) := by decide +kernel
theorem dX12_dropAll_58 : decode cX12_dropAll 58 = .ok (.goto 29, 3) := by decide +kernel
set_option maxHeartbeats 1000000 in
set_option maxRecDepth 20000 in
theorem l_drop1 (d : Nat) {b : Nat} {σ0 : MS} {r : Int} {F : Int} {post : Option Value → MS → Prop} (hr : 0 ≤ r ∧ r < 6) (hR0 : RG σ0) (hit : ITM σ0) (hok : OKS σ0 F r) (hbo : BO 47 σ0) (hx_93 : ∀ (w : Int) (t : Int) (k : Int) (σ : MS) , (Fr [] [3, 4, 5, 6, 7, 8] [] σ0 σ) → (RG σ) → (0 ≤ t ∧ t ≤ σ0.2.1 9 r ∧ 0 ≤ w ∧ w ≤ 220) → (DLP σ0 σ r F (σ0.2.1 9 r) t) → Tm (d + 2) m_X12_dropAll 93 b σ [(4, .int (iI k)), (3, .int (iI t)), (2, .int (iI w)), (0, .ref b), (1, .int (iI r))] [] post) : ∀ (n : Nat) (w : Int) (t : Int) (k : Int) (σ : MS) , (Fr [] [3, 4, 5, 6, 7, 8] [] σ0 σ) → (RG σ) → (0 ≤ t ∧ t ≤ k ∧ k ≤ σ0.2.1 9 r ∧ 0 ≤ w ∧ w ≤ k) → (DLP σ0 σ r F k t) → (220 - k).toNat = n → Tm (d + 2) m_X12_dropAll 17 b σ [(4, .int (iI k)), (3, .int (iI t)), (2, .int (iI w)), (0, .ref b), (1, .int (iI r))] [] post := by
  intro n
  induction n using Nat.strongRecOn with
  | _ n ih =>
    intro w t k σ hF hR h0 hlp hm
    have q1 := hit r (by omega) (by omega)
    have q9 : σ.2.1 9 r = σ0.2.1 9 r := by rw [hF.2.1 9 (by decide)]
    refine tm_iload dX12_dropAll_17 0 rfl ?_
    refine tm_aload_n dX12_dropAll_19 rfl 3 rfl ?_
    refine tm_get (k := 9) (v := .ref (b + 1 + 7)) lay_12 dX12_dropAll_20 (by decide) fl12_32 rfl ?_
    refine tm_iload_n dX12_dropAll_23 rfl 4 rfl ?_
    refine tm_iald (z := r) (v := σ0.2.1 9 r) dX12_dropAll_24 (show mT[7]? = some (9, 0, 13) from rfl) (by omega) (by omega) (by decide) (ra_F hF (by decide) (rfl)) ?_
    have g1 := RG.a hR0 9 (r)
    refine tm_icmp_ge (tgt := 93) dX12_dropAll_25 (by decide) ⟨by omega, by omega⟩ ⟨by omega, by omega⟩ (fun h2 => ?_) (fun h2 => ?_)
    · exact tm_sub [0, 1, 2, 3, 4] rfl (hx_93 (w) (t) (k) σ (Fr.rfl.trans (Fr.sub hF (by decide) (by decide) (by decide))) hR (by omega) (by rw [show σ0.2.1 9 r = k by omega]; exact hlp))
    · refine tm_aload_n dX12_dropAll_28 rfl 3 rfl ?_
      refine tm_get (k := 47) (v := .ref (b + 1 + 25)) lay_12 dX12_dropAll_29 (by decide) fl12_91 rfl ?_
      refine tm_iload dX12_dropAll_32 0 rfl ?_
      refine tm_zald (z := k) (v := σ0.2.1 47 k) dX12_dropAll_34 (show mT[25]? = some (47, 2, 221) from rfl) (by omega) (by omega) (by decide) (ra_F hF (by decide) (rfl)) ?_
      have g3 := RG.a hR0 47 (k)
      have := hbo (k)
      refine tm_if_eq (tgt := 61) dX12_dropAll_35 (by decide) ⟨by omega, by omega⟩ (fun h4 => ?_) (fun h4 => ?_)
      · refine tm_iload_n dX12_dropAll_61 rfl 2 rfl ?_
        refine tm_aload_n dX12_dropAll_62 rfl 3 rfl ?_
        refine tm_get (k := 3) (v := .ref (b + 1 + 1)) lay_12 dX12_dropAll_63 (by decide) fl12_13 rfl ?_
        refine tm_aload_n dX12_dropAll_66 rfl 3 rfl ?_
        refine tm_iload_n dX12_dropAll_67 rfl 4 rfl ?_
        refine tm_iload dX12_dropAll_68 0 rfl ?_
        refine tm_callV (M := m_X12_dropAll) (pc := 70) (ix := 203) (M' := m_X12_at) (As := [.int (iI r), .int (iI k)]) (rest := [.ref (b + 1 + 1), .int (iI w)]) dX12_dropAll_70 ok_X12_at im_X12_at se_X12_at ml12_203 np_X12_at rfl rfl (Nat.le_of_ble_eq_true rfl) (Nat.le_of_ble_eq_true rfl) rfl (c_X12_at (d) (σ := σ) (x := r) (k := k) ) (fun r5 σ6 hp => ?_)
        obtain ⟨v7, rfl, rfl, f8⟩ := hp
        subst f8
        show Tm _ _ 73 b σ [(4, .int (iI k)), (3, .int (iI t)), (2, .int (iI w)), (0, .ref b), (1, .int (iI r))] [.int (iI (220 * r + k)), .ref (b + 1 + 1), .int (iI w)] _
        refine tm_iald (z := 220 * r + k) (v := σ.2.1 3 (220 * r + k)) dX12_dropAll_73 (show mT[1]? = some (3, 0, 2860) from rfl) (by omega) (by omega) (by decide) (rfl) ?_
        have g9 := RG.a hR 3 (220 * r + k)
        refine tm_callS (M := m_X12_dropAll) (pc := 74) (ix := 401) (M' := m_X12_isAct) (As := [.int (iI (σ.2.1 3 (220 * r + k)))]) (rest := [.int (iI w)]) dX12_dropAll_74 ok_X12_isAct stt_X12_isAct ml12_401 np_X12_isAct rfl (Nat.le_of_ble_eq_true rfl) (Nat.le_of_ble_eq_true rfl) rfl (c_X12_isAct (d) (σ := σ) (x := σ.2.1 3 (220 * r + k)) (by omega)) (fun r10 σ11 hp => ?_)
        obtain ⟨v12, rfl, rfl, f13, f14⟩ := hp
        show Tm _ _ 77 b σ [(4, .int (iI k)), (3, .int (iI t)), (2, .int (iI w)), (0, .ref b), (1, .int (iI r))] [.int (iI v12), .int (iI w)] _
        refine tm_if_eq (tgt := 84) dX12_dropAll_77 (by decide) ⟨by omega, by omega⟩ (fun h15 => ?_) (fun h15 => ?_)
        · refine tm_iconst dX12_dropAll_84 ?_
          refine tm_iadd dX12_dropAll_85 ?_
          refine tm_istore_n (L' := [(2, .int (iI (w + 0))), (4, .int (iI k)), (3, .int (iI t)), (0, .ref b), (1, .int (iI r))]) dX12_dropAll_86 rfl (by decide) rfl ?_
          refine tm_iinc (q0 := 1) (L' := [(4, .int (iI (k + 1))), (2, .int (iI (w + 0))), (3, .int (iI t)), (0, .ref b), (1, .int (iI r))]) dX12_dropAll_87 rfl (by decide) rfl ?_
          refine tm_goto (tgt := 17) dX12_dropAll_90 (by decide) ?_
          exact tm_sub [0, 2, 1, 3, 4] rfl (ih _ (by omega) (w + 0) (t) (k + 1) σ (Fr.rfl.trans (Fr.sub hF (by decide) (by decide) (by decide))) hR (by omega) (hlp.skip (by omega)) rfl)
        · refine tm_iconst dX12_dropAll_80 ?_
          refine tm_goto (tgt := 85) dX12_dropAll_81 (by decide) ?_
          refine tm_iadd dX12_dropAll_85 ?_
          refine tm_istore_n (L' := [(2, .int (iI (w + 1))), (4, .int (iI k)), (3, .int (iI t)), (0, .ref b), (1, .int (iI r))]) dX12_dropAll_86 rfl (by decide) rfl ?_
          refine tm_iinc (q0 := 1) (L' := [(4, .int (iI (k + 1))), (2, .int (iI (w + 1))), (3, .int (iI t)), (0, .ref b), (1, .int (iI r))]) dX12_dropAll_87 rfl (by decide) rfl ?_
          refine tm_goto (tgt := 17) dX12_dropAll_90 (by decide) ?_
          exact tm_sub [0, 2, 1, 3, 4] rfl (ih _ (by omega) (w + 1) (t) (k + 1) σ (Fr.rfl.trans (Fr.sub hF (by decide) (by decide) (by decide))) hR (by omega) (hlp.skip (by omega)) rfl)
      · refine tm_aload_n dX12_dropAll_38 rfl 3 rfl ?_
        refine tm_aload_n dX12_dropAll_39 rfl 3 rfl ?_
        refine tm_iload_n dX12_dropAll_40 rfl 4 rfl ?_
        refine tm_iload dX12_dropAll_41 0 rfl ?_
        refine tm_callV (M := m_X12_dropAll) (pc := 43) (ix := 203) (M' := m_X12_at) (As := [.int (iI r), .int (iI k)]) (rest := [.ref b]) dX12_dropAll_43 ok_X12_at im_X12_at se_X12_at ml12_203 np_X12_at rfl rfl (Nat.le_of_ble_eq_true rfl) (Nat.le_of_ble_eq_true rfl) rfl (c_X12_at (d) (σ := σ) (x := r) (k := k) ) (fun r16 σ17 hp => ?_)
        obtain ⟨v18, rfl, rfl, f19⟩ := hp
        subst f19
        show Tm _ _ 46 b σ [(4, .int (iI k)), (3, .int (iI t)), (2, .int (iI w)), (0, .ref b), (1, .int (iI r))] [.int (iI (220 * r + k)), .ref b] _
        refine tm_aload_n dX12_dropAll_46 rfl 3 rfl ?_
        refine tm_iload_n dX12_dropAll_47 rfl 4 rfl ?_
        refine tm_iload_n dX12_dropAll_48 rfl 1 rfl ?_
        refine tm_callV (M := m_X12_dropAll) (pc := 49) (ix := 203) (M' := m_X12_at) (As := [.int (iI r), .int (iI t)]) (rest := [.int (iI (220 * r + k)), .ref b]) dX12_dropAll_49 ok_X12_at im_X12_at se_X12_at ml12_203 np_X12_at rfl rfl (Nat.le_of_ble_eq_true rfl) (Nat.le_of_ble_eq_true rfl) rfl (c_X12_at (d) (σ := σ) (x := r) (k := t) ) (fun r20 σ21 hp => ?_)
        obtain ⟨v22, rfl, rfl, f23⟩ := hp
        subst f23
        show Tm _ _ 52 b σ [(4, .int (iI k)), (3, .int (iI t)), (2, .int (iI w)), (0, .ref b), (1, .int (iI r))] [.int (iI (220 * r + t)), .int (iI (220 * r + k)), .ref b] _
        refine tm_callV (M := m_X12_dropAll) (pc := 52) (ix := 394) (M' := m_X12_copyItem) (As := [.int (iI (220 * r + k)), .int (iI (220 * r + t))]) (rest := []) dX12_dropAll_52 ok_X12_copyItem im_X12_copyItem se_X12_copyItem ml12_394 np_X12_copyItem rfl rfl (Nat.le_of_ble_eq_true rfl) (Nat.le_of_ble_eq_true rfl) rfl (c_X12_copyItem (d) (σ := σ) (f := 220 * r + k) (t := 220 * r + t) (by omega) (by omega)) (fun r24 σ25 hp => ?_)
        obtain ⟨rfl, f27⟩ := hp
        subst f27
        show Tm _ _ 55 b (fCopy (220 * r + k) (220 * r + t) σ) [(4, .int (iI k)), (3, .int (iI t)), (2, .int (iI w)), (0, .ref b), (1, .int (iI r))] [] _
        refine tm_iinc (q0 := 1) (L' := [(3, .int (iI (t + 1))), (4, .int (iI k)), (2, .int (iI w)), (0, .ref b), (1, .int (iI r))]) dX12_dropAll_55 rfl (by decide) rfl ?_
        refine tm_goto (tgt := 87) dX12_dropAll_58 (by decide) ?_
        refine tm_iinc (q0 := 1) (L' := [(4, .int (iI (k + 1))), (3, .int (iI (t + 1))), (2, .int (iI w)), (0, .ref b), (1, .int (iI r))]) dX12_dropAll_87 rfl (by decide) rfl ?_
        refine tm_goto (tgt := 17) dX12_dropAll_90 (by decide) ?_
        exact tm_sub [0, 1, 2, 3, 4] rfl (ih _ (by omega) (w) (t + 1) (k + 1) (fCopy (220 * r + k) (220 * r + t) σ) ((Fr.rfl.trans (Fr.sub hF (by decide) (by decide) (by decide))).trans (Fr.sub fCopy_fr (by decide) (by decide) (by decide))) (hR.copy) (by omega) (hlp.keep (by omega) (hok k (by omega) (by omega)) (by omega)) rfl)
theorem ml12_478 : Cond.methodLink RX12 478 yX12_rebind ∈ pWW := pw9 (List.mem_of_getElem? (i := 145) rfl) rfl
theorem ml12_481 : Cond.methodLink RX12 481 yX12_takeOut ∈ pWW := pw9 (List.mem_of_getElem? (i := 149) rfl) rfl
theorem dX12_dropAll_126 : decode cX12_dropAll 126 = .ok (.iload 5, 2) := by decide +kernel
theorem dX12_dropAll_128 : decode cX12_dropAll 128 = .ok (.ifCond .lt 71, 3) := by decide +kernel
theorem dX12_dropAll_131 : decode cX12_dropAll 131 = .ok (.iload 4, 2) := by decide +kernel
theorem dX12_dropAll_133 : decode cX12_dropAll 133 = .ok (.ifCond .ne 66, 3) := by decide +kernel
theorem dX12_dropAll_136 : decode cX12_dropAll 136 = .ok (.aload_n 0, 1) := by decide +kernel
theorem dX12_dropAll_137 : decode cX12_dropAll 137 = .ok (.iload_n 1, 1) := by decide +kernel
theorem dX12_dropAll_138 : decode cX12_dropAll 138 = .ok (.iload 5, 2) := by decide +kernel
theorem dX12_dropAll_140 : decode cX12_dropAll 140 = .ok (.invokevirtual 203, 3) := by decide +kernel
theorem dX12_dropAll_143 : decode cX12_dropAll 143 = .ok (.istore 6, 2) := by decide +kernel
theorem dX12_dropAll_145 : decode cX12_dropAll 145 = .ok (.aload_n 0, 1) := by decide +kernel
theorem dX12_dropAll_146 : decode cX12_dropAll 146 = .ok (.getfield 13, 3) := by decide +kernel
theorem dX12_dropAll_149 : decode cX12_dropAll 149 = .ok (.iload 6, 2) := by decide +kernel
theorem dX12_dropAll_151 : decode cX12_dropAll 151 = .ok (.iaload, 1) := by decide +kernel
theorem dX12_dropAll_152 : decode cX12_dropAll 152 = .ok (.iconst 5, 1) := by decide +kernel
theorem dX12_dropAll_153 : decode cX12_dropAll 153 = .ok (.if_icmp .gt 40, 3) := by decide +kernel
theorem dX12_dropAll_193 : decode cX12_dropAll 193 = .ok (.iinc 5 (-1), 3) := by decide +kernel
theorem dX12_dropAll_196 : decode cX12_dropAll 196 = .ok (.goto (-70), 3) := by decide +kernel
theorem dX12_dropAll_156 : decode cX12_dropAll 156 = .ok (.aload_n 0, 1) := by decide +kernel
theorem dX12_dropAll_157 : decode cX12_dropAll 157 = .ok (.iload_n 1, 1) := by decide +kernel
theorem dX12_dropAll_158 : decode cX12_dropAll 158 = .ok (.iload 5, 2) := by decide +kernel
theorem dX12_dropAll_160 : decode cX12_dropAll 160 = .ok (.aload_n 0, 1) := by decide +kernel
theorem dX12_dropAll_161 : decode cX12_dropAll 161 = .ok (.getfield 17, 3) := by decide +kernel
theorem dX12_dropAll_164 : decode cX12_dropAll 164 = .ok (.iload 6, 2) := by decide +kernel
theorem dX12_dropAll_166 : decode cX12_dropAll 166 = .ok (.iaload, 1) := by decide +kernel
theorem dX12_dropAll_167 : decode cX12_dropAll 167 = .ok (.invokevirtual 433, 3) := by decide +kernel
theorem dX12_dropAll_170 : decode cX12_dropAll 170 = .ok (.ifCond .ne 23, 3) := by decide +kernel
theorem dX12_dropAll_173 : decode cX12_dropAll 173 = .ok (.aload_n 0, 1) := by decide +kernel
theorem dX12_dropAll_174 : decode cX12_dropAll 174 = .ok (.iload_n 1, 1) := by decide +kernel
theorem dX12_dropAll_175 : decode cX12_dropAll 175 = .ok (.iload 5, 2) := by decide +kernel
theorem dX12_dropAll_177 : decode cX12_dropAll 177 = .ok (.invokevirtual 478, 3) := by decide +kernel
theorem dX12_dropAll_180 : decode cX12_dropAll 180 = .ok (.aload_n 0, 1) := by decide +kernel
theorem dX12_dropAll_181 : decode cX12_dropAll 181 = .ok (.iload_n 1, 1) := by decide +kernel
theorem dX12_dropAll_182 : decode cX12_dropAll 182 = .ok (.iload 5, 2) := by decide +kernel
theorem dX12_dropAll_184 : decode cX12_dropAll 184 = .ok (.invokevirtual 481, 3) := by decide +kernel
theorem dX12_dropAll_187 : decode cX12_dropAll 187 = .ok (.iinc 2 1, 3) := by decide +kernel
theorem dX12_dropAll_190 : decode cX12_dropAll 190 = .ok (.iconst 1, 1) := by decide +kernel
theorem dX12_dropAll_191 : decode cX12_dropAll 191 = .ok (.istore 4, 2) := by decide +kernel
set_option maxHeartbeats 1000000 in
set_option maxRecDepth 20000 in
theorem l_drop3 (d : Nat) {b : Nat} {σ0 : MS} {r : Int} {F : Int} {n0 : Int} {post : Option Value → MS → Prop} (hr : 0 ≤ r ∧ r < 6) (hR0 : RG σ0) (hit : ITM σ0) (hpar : PAR σ0) (hx_199 : ∀ (w : Int) (ce : Int) (k : Int) (σ : MS) , (Fr [] [3, 4, 5, 6, 7, 8, 9, 46, 47, 59] [] σ0 σ) → (RG σ) → ((ce = 0 ∨ ce = 1) ∧ σ.2.1 9 r + ce = n0 ∧ 0 ≤ w ∧ w + n0 ≤ 440 + ce) → (OKS σ F r) → (CODE σ r) → (LEX σ r) → (LBM σ r) → (XO r σ0 σ) → (1 ≤ σ.2.1 9 r) → (∀ j, j ≠ r → σ.2.1 9 j = σ0.2.1 9 j) → (LAB σ) → (BO 59 σ) → (BO 47 σ) → Tm (d + 7) m_X12_dropAll 199 b σ [(5, .int (iI k)), (4, .int (iI ce)), (2, .int (iI w)), (0, .ref b), (1, .int (iI r))] [] post) : ∀ (n : Nat) (w : Int) (ce : Int) (k : Int) (σ : MS) , (Fr [] [3, 4, 5, 6, 7, 8, 9, 46, 47, 59] [] σ0 σ) → (RG σ) → ((ce = 0 ∨ ce = 1) ∧ -1 ≤ k ∧ k < n0 ∧ n0 ≤ 220 ∧ σ.2.1 9 r + ce = n0 ∧ 0 ≤ w ∧ w + n0 ≤ 440 + ce) → (ce = 0 → TGT σ r) → (OKS σ F r) → (CODE σ r) → (LEX σ r) → (LBM σ r) → (XO r σ0 σ) → (1 ≤ σ.2.1 9 r) → (∀ j, j ≠ r → σ.2.1 9 j = σ0.2.1 9 j) → (LAB σ) → (BO 59 σ) → (BO 47 σ) → (k + 1).toNat = n → Tm (d + 7) m_X12_dropAll 126 b σ [(5, .int (iI k)), (4, .int (iI ce)), (2, .int (iI w)), (0, .ref b), (1, .int (iI r))] [] post := by
  intro n
  induction n using Nat.strongRecOn with
  | _ n ih =>
    intro w ce k σ hF hR h0 htg hok hcd hlex hlm hxo hn h9 hl hbl hbo hm
    have hit1 : ITM σ := fun j a c => by
          by_cases q : j = r
          · subst q; omega
          · rw [h9 j q]; exact hit j a c
    have hpar1 := hpar.fr hF (by decide)
    refine tm_iload dX12_dropAll_126 0 rfl ?_
    refine tm_if_lt (tgt := 199) dX12_dropAll_128 (by decide) ⟨by omega, by omega⟩ (fun h1 => ?_) (fun h1 => ?_)
    · exact tm_sub [0, 1, 2, 3, 4] rfl (hx_199 (w) (ce) (k) σ (Fr.rfl.trans (Fr.sub hF (by decide) (by decide) (by decide))) hR (by omega) hok hcd hlex hlm hxo hn h9 hl hbl hbo)
    · refine tm_iload dX12_dropAll_131 1 rfl ?_
      refine tm_if_ne (tgt := 199) dX12_dropAll_133 (by decide) ⟨by omega, by omega⟩ (fun h2 => ?_) (fun h2 => ?_)
      · exact tm_sub [0, 1, 2, 3, 4] rfl (hx_199 (w) (ce) (k) σ (Fr.rfl.trans (Fr.sub hF (by decide) (by decide) (by decide))) hR (by omega) hok hcd hlex hlm hxo hn h9 hl hbl hbo)
      · refine tm_aload_n dX12_dropAll_136 rfl 3 rfl ?_
        refine tm_iload_n dX12_dropAll_137 rfl 4 rfl ?_
        refine tm_iload dX12_dropAll_138 0 rfl ?_
        refine tm_callV (M := m_X12_dropAll) (pc := 140) (ix := 203) (M' := m_X12_at) (As := [.int (iI r), .int (iI k)]) (rest := []) dX12_dropAll_140 ok_X12_at im_X12_at se_X12_at ml12_203 np_X12_at rfl rfl (Nat.le_of_ble_eq_true rfl) (Nat.le_of_ble_eq_true rfl) rfl (c_X12_at (d + 5) (σ := σ) (x := r) (k := k) ) (fun r3 σ4 hp => ?_)
        obtain ⟨v5, rfl, rfl, f6⟩ := hp
        subst f6
        show Tm _ _ 143 b σ [(5, .int (iI k)), (4, .int (iI ce)), (2, .int (iI w)), (0, .ref b), (1, .int (iI r))] [.int (iI (220 * r + k))] _
        refine tm_istore (L' := [(6, .int (iI (220 * r + k))), (5, .int (iI k)), (4, .int (iI ce)), (2, .int (iI w)), (0, .ref b), (1, .int (iI r))]) dX12_dropAll_143 (by decide) rfl ?_
        have hk1 := hok.kind (k := k) (by omega) (by omega)
        refine tm_aload_n dX12_dropAll_145 rfl 4 rfl ?_
        refine tm_get (k := 3) (v := .ref (b + 1 + 1)) lay_12 dX12_dropAll_146 (by decide) fl12_13 rfl ?_
        refine tm_iload dX12_dropAll_149 0 rfl ?_
        refine tm_iald (z := 220 * r + k) (v := σ.2.1 3 (220 * r + k)) dX12_dropAll_151 (show mT[1]? = some (3, 0, 2860) from rfl) (by omega) (by omega) (by decide) (rfl) ?_
        have g7 := RG.a hR 3 (220 * r + k)
        refine tm_iconst dX12_dropAll_152 ?_
        refine tm_icmp_gt (tgt := 193) dX12_dropAll_153 (by decide) ⟨by omega, by omega⟩ ⟨by decide, by decide⟩ (fun h8 => ?_) (fun h8 => ?_)
        · refine tm_iinc (q0 := 1) (L' := [(5, .int (iI (k + (-1)))), (6, .int (iI (220 * r + k))), (4, .int (iI ce)), (2, .int (iI w)), (0, .ref b), (1, .int (iI r))]) dX12_dropAll_193 rfl (by decide) rfl ?_
          refine tm_goto (tgt := 126) dX12_dropAll_196 (by decide) ?_
          exact tm_sub [0, 2, 3, 4, 5] rfl (ih _ (by omega) (w) (ce) (k + (-1)) σ (Fr.rfl.trans (Fr.sub hF (by decide) (by decide) (by decide))) hR (by omega) htg hok hcd hlex hlm hxo hn h9 hl hbl hbo rfl)
        · have hkd := hok.dest (k := k) (by omega) (by omega) (by omega)
          have htg1 := htg (by omega)
          refine tm_aload_n dX12_dropAll_156 rfl 4 rfl ?_
          refine tm_iload_n dX12_dropAll_157 rfl 5 rfl ?_
          refine tm_iload dX12_dropAll_158 1 rfl ?_
          refine tm_aload_n dX12_dropAll_160 rfl 4 rfl ?_
          refine tm_get (k := 4) (v := .ref (b + 1 + 2)) lay_12 dX12_dropAll_161 (by decide) fl12_17 rfl ?_
          refine tm_iload dX12_dropAll_164 0 rfl ?_
          refine tm_iald (z := 220 * r + k) (v := σ.2.1 4 (220 * r + k)) dX12_dropAll_166 (show mT[2]? = some (4, 0, 2860) from rfl) (by omega) (by omega) (by decide) (rfl) ?_
          have g9 := RG.a hR 4 (220 * r + k)
          refine tm_callV (M := m_X12_dropAll) (pc := 167) (ix := 433) (M' := m_X12_livesBehind) (As := [.int (iI r), .int (iI k), .int (iI (σ.2.1 4 (220 * r + k)))]) (rest := []) dX12_dropAll_167 ok_X12_livesBehind im_X12_livesBehind se_X12_livesBehind ml12_433 np_X12_livesBehind rfl rfl (Nat.le_of_ble_eq_true rfl) (Nat.le_of_ble_eq_true rfl) rfl (c2_X12_livesBehind (d + 3) (σ := σ) (r := r) (k := k) (g := σ.2.1 4 (220 * r + k)) (by omega) hR hit1 hok.jmp hbl hl (by omega) (by omega)) (fun r10 σ11 hp => ?_)
          obtain ⟨v12, rfl, rfl, f13, f14⟩ := hp
          show Tm _ _ 170 b σ [(6, .int (iI (220 * r + k))), (5, .int (iI k)), (4, .int (iI ce)), (2, .int (iI w)), (0, .ref b), (1, .int (iI r))] [.int (iI v12)] _
          refine tm_if_ne (tgt := 193) dX12_dropAll_170 (by decide) ⟨by omega, by omega⟩ (fun h15 => ?_) (fun h15 => ?_)
          · refine tm_iinc (q0 := 1) (L' := [(5, .int (iI (k + (-1)))), (6, .int (iI (220 * r + k))), (4, .int (iI ce)), (2, .int (iI w)), (0, .ref b), (1, .int (iI r))]) dX12_dropAll_193 rfl (by decide) rfl ?_
            refine tm_goto (tgt := 126) dX12_dropAll_196 (by decide) ?_
            exact tm_sub [0, 2, 3, 4, 5] rfl (ih _ (by omega) (w) (ce) (k + (-1)) σ (Fr.rfl.trans (Fr.sub hF (by decide) (by decide) (by decide))) hR (by omega) htg hok hcd hlex hlm hxo hn h9 hl hbl hbo rfl)
          · refine tm_aload_n dX12_dropAll_173 rfl 4 rfl ?_
            refine tm_iload_n dX12_dropAll_174 rfl 5 rfl ?_
            refine tm_iload dX12_dropAll_175 1 rfl ?_
            refine tm_callV (M := m_X12_dropAll) (pc := 177) (ix := 478) (M' := m_X12_rebind) (As := [.int (iI r), .int (iI k)]) (rest := []) dX12_dropAll_177 ok_X12_rebind im_X12_rebind se_X12_rebind ml12_478 np_X12_rebind rfl rfl (Nat.le_of_ble_eq_true rfl) (Nat.le_of_ble_eq_true rfl) rfl (c_X12_rebind (d) (σ := σ) (r := r) (k0 := k) (F := F) (by omega) hR hit1 hpar1 hok htg1 hbo (by omega) (by omega)) (fun r16 σ17 hp => ?_)
            obtain ⟨rfl, f19, f20, f21, f22, f23⟩ := hp
            show Tm _ _ 180 b σ17 [(6, .int (iI (220 * r + k))), (5, .int (iI k)), (4, .int (iI ce)), (2, .int (iI w)), (0, .ref b), (1, .int (iI r))] [] _
            have f1 := f19
            have hok2 := f21
            have hxo2 := hxo.trans f22
            have hbo2 := f23
            have e9 : σ17.2.1 9 = σ.2.1 9 := f1.2.1 9 (by decide)
            have e3 : σ17.2.1 3 = σ.2.1 3 := f1.2.1 3 (by decide)
            refine tm_aload_n dX12_dropAll_180 rfl 4 rfl ?_
            refine tm_iload_n dX12_dropAll_181 rfl 5 rfl ?_
            refine tm_iload dX12_dropAll_182 1 rfl ?_
            refine tm_callV (M := m_X12_dropAll) (pc := 184) (ix := 481) (M' := m_X12_takeOut) (As := [.int (iI r), .int (iI k)]) (rest := []) dX12_dropAll_184 ok_X12_takeOut im_X12_takeOut se_X12_takeOut ml12_481 np_X12_takeOut rfl rfl (Nat.le_of_ble_eq_true rfl) (Nat.le_of_ble_eq_true rfl) rfl (c_X12_takeOut (d + 4) (σ := σ17) (r := r) (k := k) (by omega) f20 (hit1.fr f1 (by decide)) (by rw [e9]; omega)) (fun r24 σ25 hp => ?_)
            obtain ⟨rfl, f27, f28, f29, f30, f31, f32, f33⟩ := hp
            show Tm _ _ 187 b σ25 [(6, .int (iI (220 * r + k))), (5, .int (iI k)), (4, .int (iI ce)), (2, .int (iI w)), (0, .ref b), (1, .int (iI r))] [] _
            have f2 := f27
            have hfin := out_fin (k := k) (by rw [e9]; omega) (by rw [e3]; omega) hok2 (hcd.fr f1 (by decide) (by decide)) (hlex.fr f1 (by decide)) (hlm.fr f1 (by decide)) f2 f30 f31 f32
            have hxo3 := hxo2.trans f29
            have h93 : σ25.2.1 9 r = σ.2.1 9 r - 1 := by rw [f32, e9]
            have h94 : ∀ j, j ≠ r → σ25.2.1 9 j = σ0.2.1 9 j := fun j hj => by rw [f33 j hj, e9]; exact h9 j hj
            refine tm_iinc (q0 := 3) (L' := [(2, .int (iI (w + 1))), (6, .int (iI (220 * r + k))), (5, .int (iI k)), (4, .int (iI ce)), (0, .ref b), (1, .int (iI r))]) dX12_dropAll_187 rfl (by decide) rfl ?_
            refine tm_iconst dX12_dropAll_190 ?_
            refine tm_istore (L' := [(4, .int (iI 1)), (2, .int (iI (w + 1))), (6, .int (iI (220 * r + k))), (5, .int (iI k)), (0, .ref b), (1, .int (iI r))]) dX12_dropAll_191 (by decide) rfl ?_
            refine tm_iinc (q0 := 3) (L' := [(5, .int (iI (k + (-1)))), (4, .int (iI 1)), (2, .int (iI (w + 1))), (6, .int (iI (220 * r + k))), (0, .ref b), (1, .int (iI r))]) dX12_dropAll_193 rfl (by decide) rfl ?_
            refine tm_goto (tgt := 126) dX12_dropAll_196 (by decide) ?_
            exact tm_sub [0, 1, 2, 4, 5] rfl (ih _ (by omega) (w + 1) (1) (k + (-1)) σ25 (((Fr.rfl.trans (Fr.sub hF (by decide) (by decide) (by decide))).trans (Fr.sub f19 (by decide) (by decide) (by decide))).trans (Fr.sub f27 (by decide) (by decide) (by decide))) f28 (by omega) (fun q => absurd q (by decide)) hfin.2.2.2.2 hfin.1 hfin.2.2.1 hfin.2.2.2.1 hxo3 hfin.2.1 h94 ((hl.fr f1 (by decide)).fr f2 (by decide)) ((hbl.fr f1 (by decide)).fr f2 (by decide)) (hbo2.fr f2 (by decide)) rfl)
theorem dX12_dropAll_103 : decode cX12_dropAll 103 = .ok (.iload 4, 2) := by decide +kernel
theorem dX12_dropAll_105 : decode cX12_dropAll 105 = .ok (.ifCond .eq 97, 3) := by decide +kernel
theorem dX12_dropAll_108 : decode cX12_dropAll 108 = .ok (.aload_n 0, 1) := by decide +kernel
theorem dX12_dropAll_109 : decode cX12_dropAll 109 = .ok (.iload_n 1, 1) := by decide +kernel
theorem dX12_dropAll_110 : decode cX12_dropAll 110 = .ok (.invokevirtual 475, 3) := by decide +kernel
theorem dX12_dropAll_113 : decode cX12_dropAll 113 = .ok (.iconst 0, 1) := by decide +kernel
theorem dX12_dropAll_114 : decode cX12_dropAll 114 = .ok (.istore 4, 2) := by decide +kernel
theorem dX12_dropAll_116 : decode cX12_dropAll 116 = .ok (.aload_n 0, 1) := by decide +kernel
theorem dX12_dropAll_117 : decode cX12_dropAll 117 = .ok (.getfield 32, 3) := by decide +kernel
theorem dX12_dropAll_120 : decode cX12_dropAll 120 = .ok (.iload_n 1, 1) := by decide +kernel
theorem dX12_dropAll_121 : decode cX12_dropAll 121 = .ok (.iaload, 1) := by decide +kernel
theorem dX12_dropAll_122 : decode cX12_dropAll 122 = .ok (.iconst 1, 1) := by decide +kernel
theorem dX12_dropAll_123 : decode cX12_dropAll 123 = .ok (.isub, 1) := by decide +kernel
theorem dX12_dropAll_124 : decode cX12_dropAll 124 = .ok (.istore 5, 2) := by decide +kernel
theorem dX12_dropAll_199 : decode cX12_dropAll 199 = .ok (.goto (-96), 3) := by decide +kernel
set_option maxHeartbeats 1000000 in
set_option maxRecDepth 20000 in
theorem l_drop2 (d : Nat) {b : Nat} {σ0 : MS} {r : Int} {F : Int} {post : Option Value → MS → Prop} (hr : 0 ≤ r ∧ r < 6) (hR0 : RG σ0) (hit : ITM σ0) (hpar : PAR σ0) (hx_202 : ∀ (w : Int) (ce : Int) (σ : MS) , (Fr [] [3, 4, 5, 6, 7, 8, 9, 46, 47, 59] [] σ0 σ) → (RG σ) → (0 ≤ w ∧ w ≤ 440 ∧ σ.2.1 9 r ≤ σ0.2.1 9 r) → (OKS σ F r) → (CODE σ r) → (LEX σ r) → (LBM σ r) → (XO r σ0 σ) → (1 ≤ σ.2.1 9 r) → (∀ j, j ≠ r → σ.2.1 9 j = σ0.2.1 9 j) → (LAB σ) → (BO 59 σ) → (BO 47 σ) → Tm (d + 7) m_X12_dropAll 202 b σ [(4, .int (iI ce)), (2, .int (iI w)), (0, .ref b), (1, .int (iI r))] [] post) : ∀ (n : Nat) (w : Int) (ce : Int) (σ : MS) , (Fr [] [3, 4, 5, 6, 7, 8, 9, 46, 47, 59] [] σ0 σ) → (RG σ) → ((ce = 0 ∨ ce = 1) ∧ σ.2.1 9 r ≤ σ0.2.1 9 r ∧ σ0.2.1 9 r ≤ 220 ∧ 0 ≤ w ∧ w + σ.2.1 9 r ≤ 440) → (OKS σ F r) → (CODE σ r) → (LEX σ r) → (LBM σ r) → (XO r σ0 σ) → (1 ≤ σ.2.1 9 r) → (∀ j, j ≠ r → σ.2.1 9 j = σ0.2.1 9 j) → (LAB σ) → (BO 59 σ) → (BO 47 σ) → (2 * σ.2.1 9 r + ce).toNat = n → Tm (d + 7) m_X12_dropAll 103 b σ [(4, .int (iI ce)), (2, .int (iI w)), (0, .ref b), (1, .int (iI r))] [] post := by
  intro n
  induction n using Nat.strongRecOn with
  | _ n ih =>
    intro w ce σ hF hR h0 hok hcd hlex hlm hxo hn h9 hl hbl hbo hm
    have hit1 : ITM σ := fun j a c => by
          by_cases q : j = r
          · subst q; omega
          · rw [h9 j q]; exact hit j a c
    have hpar1 := hpar.fr hF (by decide)
    refine tm_iload dX12_dropAll_103 0 rfl ?_
    refine tm_if_eq (tgt := 202) dX12_dropAll_105 (by decide) ⟨by omega, by omega⟩ (fun h1 => ?_) (fun h1 => ?_)
    · exact tm_sub [0, 1, 2, 3] rfl (hx_202 (w) (ce) σ (Fr.rfl.trans (Fr.sub hF (by decide) (by decide) (by decide))) hR (by omega) hok hcd hlex hlm hxo hn h9 hl hbl hbo)
    · refine tm_aload_n dX12_dropAll_108 rfl 2 rfl ?_
      refine tm_iload_n dX12_dropAll_109 rfl 3 rfl ?_
      refine tm_callV (M := m_X12_dropAll) (pc := 110) (ix := 475) (M' := m_X12_findLives) (As := [.int (iI r)]) (rest := []) dX12_dropAll_110 ok_X12_findLives im_X12_findLives se_X12_findLives ml12_475 np_X12_findLives rfl rfl (Nat.le_of_ble_eq_true rfl) (Nat.le_of_ble_eq_true rfl) rfl (c2_X12_findLives (d + 1) (σ := σ) (r := r) (F := F) (by omega) hR hit1 hpar1 hok hl hbl hlex) (fun r2 σ3 hp => ?_)
      obtain ⟨rfl, f5, f6, f7, f8, f9, f10⟩ := hp
      show Tm _ _ 113 b σ3 [(4, .int (iI ce)), (2, .int (iI w)), (0, .ref b), (1, .int (iI r))] [] _
      have f1 := f5
      have hl1 := f7
      have hbl1 := f8
      have htg1 := f9
      have e9 : σ3.2.1 9 = σ.2.1 9 := f1.2.1 9 (by decide)
      refine tm_iconst dX12_dropAll_113 ?_
      refine tm_istore (L' := [(4, .int (iI 0)), (2, .int (iI w)), (0, .ref b), (1, .int (iI r))]) dX12_dropAll_114 (by decide) rfl ?_
      refine tm_aload_n dX12_dropAll_116 rfl 2 rfl ?_
      refine tm_get (k := 9) (v := .ref (b + 1 + 7)) lay_12 dX12_dropAll_117 (by decide) fl12_32 rfl ?_
      refine tm_iload_n dX12_dropAll_120 rfl 3 rfl ?_
      refine tm_iald (z := r) (v := σ.2.1 9 r) dX12_dropAll_121 (show mT[7]? = some (9, 0, 13) from rfl) (by omega) (by omega) (by decide) (ra_F f5 (by decide) (rfl)) ?_
      have g11 := RG.a hR 9 (r)
      refine tm_iconst dX12_dropAll_122 ?_
      refine tm_isub dX12_dropAll_123 ?_
      refine tm_istore (L' := [(5, .int (iI ((σ.2.1 9 r) - 1))), (4, .int (iI 0)), (2, .int (iI w)), (0, .ref b), (1, .int (iI r))]) dX12_dropAll_124 (by decide) rfl ?_
      refine tm_sub [0, 1, 2, 3, 4] rfl (l_drop3 (d) (σ0 := σ3) (r := r) (F := F) (n0 := (σ.2.1 9 r)) hr f6 (hit1.fr f1 (by decide)) (hpar1.fr f1 (by decide)) (fun w29 ce30 k31 σ32 F16 R17 f18 f19 f20 f21 f22 f23 f24 f25 f26 f27 f28 => ?_) _ (w) (0) ((σ.2.1 9 r) - 1) σ3 Fr.rfl f6 (by rw [e9]; omega) (fun _ => htg1) (hok.fr f1 (by decide)) (hcd.fr f1 (by decide) (by decide)) (hlex.fr f1 (by decide)) (hlm.fr f1 (by decide)) XO.rfl (by rw [e9]; exact hn) (fun _ _ => rfl) hl1 hbl1 (hbo.fr f1 (by decide)) rfl)
      show Tm _ _ 199 b σ32 [(5, .int (iI k31)), (4, .int (iI ce30)), (2, .int (iI w29)), (0, .ref b), (1, .int (iI r))] [] _
      refine tm_goto (tgt := 103) dX12_dropAll_199 (by decide) ?_
      exact tm_sub [1, 2, 3, 4] rfl (ih _ (by omega) (w29) (ce30) σ32 (((Fr.rfl.trans (Fr.sub hF (by decide) (by decide) (by decide))).trans (Fr.sub f5 (by decide) (by decide) (by decide))).trans (Fr.sub F16 (by decide) (by decide) (by decide))) R17 (by omega) f19 f20 f21 f22 ((hxo.trans (XO.fr f1 (by decide))).trans f23) f24 (fun j hj => by rw [f25 j hj, e9]; exact h9 j hj) f26 f27 f28 rfl)
end
section
theorem ml12_472 : Cond.methodLink RX12 472 yX12_findReached ∈ pWW := pw9 (List.mem_of_getElem? (i := 125) rfl) rfl
theorem dX12_dropAll_0 : decode cX12_dropAll 0 = .ok (.iconst 0, 1) := by decide +kernel
theorem dX12_dropAll_1 : decode cX12_dropAll 1 = .ok (.istore_n 2, 1) := by decide +kernel
theorem dX12_dropAll_2 : decode cX12_dropAll 2 = .ok (.aload_n 0, 1) := by decide +kernel
theorem dX12_dropAll_3 : decode cX12_dropAll 3 = .ok (.iload_n 1, 1) := by decide +kernel
theorem dX12_dropAll_4 : decode cX12_dropAll 4 = .ok (.invokevirtual 420, 3) := by decide +kernel
theorem dX12_dropAll_7 : decode cX12_dropAll 7 = .ok (.aload_n 0, 1) := by decide +kernel
theorem dX12_dropAll_8 : decode cX12_dropAll 8 = .ok (.iload_n 1, 1) := by decide +kernel
theorem dX12_dropAll_9 : decode cX12_dropAll 9 = .ok (.invokevirtual 472, 3) := by decide +kernel
theorem dX12_dropAll_12 : decode cX12_dropAll 12 = .ok (.iconst 0, 1) := by decide +kernel
theorem dX12_dropAll_13 : decode cX12_dropAll 13 = .ok (.istore_n 3, 1) := by decide +kernel
theorem dX12_dropAll_14 : decode cX12_dropAll 14 = .ok (.iconst 0, 1) := by decide +kernel
theorem dX12_dropAll_15 : decode cX12_dropAll 15 = .ok (.istore 4, 2) := by decide +kernel
theorem dX12_dropAll_93 : decode cX12_dropAll 93 = .ok (.aload_n 0, 1) := by decide +kernel
theorem dX12_dropAll_94 : decode cX12_dropAll 94 = .ok (.getfield 32, 3) := by decide +kernel
theorem dX12_dropAll_97 : decode cX12_dropAll 97 = .ok (.iload_n 1, 1) := by decide +kernel
theorem dX12_dropAll_98 : decode cX12_dropAll 98 = .ok (.iload_n 3, 1) := by decide +kernel
theorem dX12_dropAll_99 : decode cX12_dropAll 99 = .ok (.iastore, 1) := by decide +kernel
theorem dX12_dropAll_100 : decode cX12_dropAll 100 = .ok (.iconst 1, 1) := by decide +kernel
theorem dX12_dropAll_101 : decode cX12_dropAll 101 = .ok (.istore 4, 2) := by decide +kernel
theorem dX12_dropAll_202 : decode cX12_dropAll 202 = .ok (.iload_n 2, 1) := by decide +kernel
theorem dX12_dropAll_203 : decode cX12_dropAll 203 = .ok (.ireturn, 1) := by decide +kernel
set_option maxHeartbeats 1000000 in
set_option maxRecDepth 20000 in
theorem c_X12_dropAll (d : Nat) {b : Nat} {σ : MS} {r : Int} {F : Int} (hr : 0 ≤ r ∧ r < 6) (hR : RG σ) (hit : ITM σ) (hpar : PAR σ) (hok : OKS σ F r) (hl : LAB σ) (hbl : BO 59 σ) (hbo : BO 47 σ) (hn : 1 ≤ σ.2.1 9 r) (hcd : CODE σ r) (hlex : LEX σ r) (hlm : LBM σ r) : Tm (d + 7) m_X12_dropAll 0 b σ [(0, .ref b), (1, .int (iI r))] [] (fun ro σ2 => ∃ v : Int, ro = some (.int (iI v)) ∧ (Fr [] [3, 4, 5, 6, 7, 8, 9, 46, 47, 59] [] σ σ2) ∧ (RG σ2) ∧ ((1 ≤ σ2.2.1 9 r ∧ σ2.2.1 9 r ≤ σ.2.1 9 r) ∧ ∀ j, j ≠ r → σ2.2.1 9 j = σ.2.1 9 j) ∧ (XO r σ σ2) ∧ (OKS σ2 F r) ∧ (CODE σ2 r) ∧ (LEX σ2 r) ∧ (LBM σ2 r) ∧ (LAB σ2) ∧ (BO 59 σ2) ∧ (BO 47 σ2)) := by
  have q1 := hit r (by omega) (by omega)
  refine tm_iconst dX12_dropAll_0 ?_
  refine tm_istore_n (L' := [(2, .int (iI 0)), (0, .ref b), (1, .int (iI r))]) dX12_dropAll_1 rfl (by decide) rfl ?_
  refine tm_aload_n dX12_dropAll_2 rfl 1 rfl ?_
  refine tm_iload_n dX12_dropAll_3 rfl 2 rfl ?_
  refine tm_callV (M := m_X12_dropAll) (pc := 4) (ix := 420) (M' := m_X12_findLabels) (As := [.int (iI r)]) (rest := []) dX12_dropAll_4 ok_X12_findLabels im_X12_findLabels se_X12_findLabels ml12_420 np_X12_findLabels rfl rfl (Nat.le_of_ble_eq_true rfl) (Nat.le_of_ble_eq_true rfl) rfl (c_X12_findLabels (d + 4) (σ := σ) (r := r) (by omega) hR hit hok.jmp.lbr hl) (fun r1 σ2 hp => ?_)
  obtain ⟨rfl, f4, f5, f6, f7⟩ := hp
  show Tm _ _ 7 b σ2 [(2, .int (iI 0)), (0, .ref b), (1, .int (iI r))] [] _
  have f1 := f4
  have hl1 := f6
  have htd1 := LEX.tgd hlex f7 f1
  have e91 : σ2.2.1 9 r = σ.2.1 9 r := by rw [f1.2.1 9 (by decide)]
  refine tm_aload_n dX12_dropAll_7 rfl 1 rfl ?_
  refine tm_iload_n dX12_dropAll_8 rfl 2 rfl ?_
  refine tm_callV (M := m_X12_dropAll) (pc := 9) (ix := 472) (M' := m_X12_findReached) (As := [.int (iI r)]) (rest := []) dX12_dropAll_9 ok_X12_findReached im_X12_findReached se_X12_findReached ml12_472 np_X12_findReached rfl rfl (Nat.le_of_ble_eq_true rfl) (Nat.le_of_ble_eq_true rfl) rfl (c_X12_findReached (d + 3) (σ := σ2) (r := r) (by omega) f5 (hit.fr f1 (by decide)) (hok.jmp.fr f1 (by decide)) htd1.tgt (hbo.fr f1 (by decide))) (fun r8 σ9 hp => ?_)
  obtain ⟨rfl, f11, f12, f13, f14, f15, f16⟩ := hp
  show Tm _ _ 12 b σ9 [(2, .int (iI 0)), (0, .ref b), (1, .int (iI r))] [] _
  have f2 := f11
  have hbo2 := f13
  have h02 := f14
  have e99 : σ9.2.1 9 r = σ2.2.1 9 r := by rw [f2.2.1 9 (by decide)]
  have hmn2 : MNR σ9 r (σ9.2.1 9 r) := by rw [e99]; exact f15
  have hcl2 : CLO σ9 r (σ9.2.1 9 r) := by rw [e99]; exact f16
  have htd2 := htd1.fr f2 (by decide)
  have hl2 := hl1.fr f2 (by decide)
  refine tm_iconst dX12_dropAll_12 ?_
  refine tm_istore_n (L' := [(3, .int (iI 0)), (2, .int (iI 0)), (0, .ref b), (1, .int (iI r))]) dX12_dropAll_13 rfl (by decide) rfl ?_
  refine tm_iconst dX12_dropAll_14 ?_
  refine tm_istore (L' := [(4, .int (iI 0)), (3, .int (iI 0)), (2, .int (iI 0)), (0, .ref b), (1, .int (iI r))]) dX12_dropAll_15 (by decide) rfl ?_
  refine tm_sub [0, 1, 2, 3, 4] rfl (l_drop1 (d + 5) (σ0 := σ9) (r := r) (F := F) hr f12 (hit.fr (show Fr [] [46, 47] [] σ σ9 from ((Fr.rfl.trans (Fr.sub f4 (by decide) (by decide) (by decide))).trans (Fr.sub f11 (by decide) (by decide) (by decide)))) (by decide)) (hok.fr (show Fr [] [46, 47] [] σ σ9 from ((Fr.rfl.trans (Fr.sub f4 (by decide) (by decide) (by decide))).trans (Fr.sub f11 (by decide) (by decide) (by decide)))) (by decide)) hbo2 (fun w25 t26 k27 σ28 F21 R22 f23 f24 => ?_) _ (0) (0) (0) σ9 Fr.rfl f12 (by rw [((show Fr [] [46, 47] [] σ σ9 from ((Fr.rfl.trans (Fr.sub f4 (by decide) (by decide) (by decide))).trans (Fr.sub f11 (by decide) (by decide) (by decide))))).2.1 9 (by decide)]; omega) DLP.start rfl)
  show Tm _ _ 93 b σ28 [(4, .int (iI k27)), (3, .int (iI t26)), (2, .int (iI w25)), (0, .ref b), (1, .int (iI r))] [] _
  have f12 := (show Fr [] [46, 47] [] σ σ9 from ((Fr.rfl.trans (Fr.sub f4 (by decide) (by decide) (by decide))).trans (Fr.sub f11 (by decide) (by decide) (by decide))))
  have e9 : σ9.2.1 9 r = σ.2.1 9 r := by rw [f12.2.1 9 (by decide)]
  have e92 : σ28.2.1 9 = σ.2.1 9 := by rw [F21.2.1 9 (by decide), f12.2.1 9 (by decide)]
  have hfin := DLP.fin f24 ⟨rfl, by omega⟩ F21 (hcd.fr f12 (by decide) (by decide)) htd2 (hlm.fr f12 (by decide)) hbo2 h02 hmn2 hcl2
  have hxo1 := ((XO.fr (r := r) f12 (by decide)).trans f24.2.2.1).trans (XO.fr (r := r) (τ := sA 9 r t26 σ28) ((Fr.rfl (ss := []) (ks := [9]) (js := [])).A (by decide)) (by decide))
  have hl3 := (hl2.fr F21 (by decide))
  have hbo3 := hbo2.fr F21 (by decide)
  have hbl3 := (hbl.fr f12 (by decide)).fr F21 (by decide)
  refine tm_aload_n dX12_dropAll_93 rfl 3 rfl ?_
  refine tm_get (k := 9) (v := .ref (b + 1 + 7)) lay_12 dX12_dropAll_94 (by decide) fl12_32 rfl ?_
  refine tm_iload_n dX12_dropAll_97 rfl 4 rfl ?_
  refine tm_iload_n dX12_dropAll_98 rfl 1 rfl ?_
  refine tm_iast (z := r) (v := t26) dX12_dropAll_99 (show mT[7]? = some (9, 0, 13) from rfl) (by omega) (by omega) (by decide) ?_
  refine tm_iconst dX12_dropAll_100 ?_
  refine tm_istore (L' := [(4, .int (iI 1)), (3, .int (iI t26)), (2, .int (iI w25)), (0, .ref b), (1, .int (iI r))]) dX12_dropAll_101 (by decide) rfl ?_
  refine tm_sub [0, 2, 3, 4] rfl (l_drop2 (d) (σ0 := (sA 9 (r) (t26) σ28)) (r := r) (F := F) hr (R22.A (by omega)) (fun j a c => by
    by_cases q : j = r
    · rw [q, show (sA 9 (r) (t26) σ28).2.1 9 r = t26 from ra_eq]; omega
    · rw [show (sA 9 (r) (t26) σ28).2.1 9 j = σ.2.1 9 j from ra_ne q (by rw [e92])]; exact hit j a c) (hpar.fr (show Fr [] [3, 4, 5, 6, 7, 8, 9, 46, 47] [] σ (sA 9 (r) (t26) σ28) from ((((Fr.rfl.trans (Fr.sub f4 (by decide) (by decide) (by decide))).trans (Fr.sub f11 (by decide) (by decide) (by decide))).trans (Fr.sub F21 (by decide) (by decide) (by decide))).A (by decide))) (by decide)) (fun w45 ce46 σ47 F32 R33 f34 f35 f36 f37 f38 f39 f40 f41 f42 f43 f44 => ?_) _ (w25) (1) (sA 9 (r) (t26) σ28) Fr.rfl (R22.A (by omega)) (by rw [show (sA 9 (r) (t26) σ28).2.1 9 r = t26 from ra_eq]; omega) hfin.2.2.2.2 hfin.1 hfin.2.2.1 hfin.2.2.2.1 XO.rfl (by rw [show (sA 9 (r) (t26) σ28).2.1 9 r = t26 from ra_eq]; exact hfin.2.1) (fun _ _ => rfl) (hl3.fr ((Fr.rfl (ss := []) (ks := [9]) (js := [])).A (by decide)) (by decide)) (hbl3.fr ((Fr.rfl (ss := []) (ks := [9]) (js := [])).A (by decide)) (by decide)) (hbo3.fr ((Fr.rfl (ss := []) (ks := [9]) (js := [])).A (by decide)) (by decide)) rfl)
  show Tm _ _ 202 b σ47 [(4, .int (iI ce46)), (2, .int (iI w45)), (0, .ref b), (1, .int (iI r))] [] _
  refine tm_iload_n dX12_dropAll_202 rfl 1 rfl ?_
  exact tm_iret rfl dX12_dropAll_203 (⟨_, rfl, (((((Fr.rfl.trans (Fr.sub f4 (by decide) (by decide) (by decide))).trans (Fr.sub f11 (by decide) (by decide) (by decide))).trans (Fr.sub F21 (by decide) (by decide) (by decide))).A (by decide)).trans (Fr.sub F32 (by decide) (by decide) (by decide))), R33, ⟨by have h1 := f34; have h2 := f40; rw [show (sA 9 (r) (t26) σ28).2.1 9 r = t26 from ra_eq] at h1; omega, fun j hj => by rw [f41 j hj]; exact ra_ne hj (by rw [e92])⟩, hxo1.trans f39, f35, f36, f37, f38, f42, f43, f44⟩)
end
section
def XR (r : Int) (σ τ : MS) : Prop := (∀ y, (y < 220 * r ∨ 220 * r + 220 ≤ y) → y < 2640 → τ.2.1 3 y = σ.2.1 3 y ∧ τ.2.1 4 y = σ.2.1 4 y ∧ τ.2.1 5 y = σ.2.1 5 y ∧ τ.2.1 6 y = σ.2.1 6 y) ∧ (∀ z, (z < 880 * r ∨ 880 * r + 880 ≤ z) → z < 10560 → τ.2.1 7 z = σ.2.1 7 z ∧ τ.2.1 8 z = σ.2.1 8 z)
theorem XR.rfl {r : Int} {σ : MS} : XR r σ σ := ⟨fun _ _ _ => ⟨Eq.refl _, Eq.refl _, Eq.refl _, Eq.refl _⟩, fun _ _ _ => ⟨Eq.refl _, Eq.refl _⟩⟩
theorem XR.trans {r : Int} {σ τ υ : MS} (h : XR r σ τ) (g : XR r τ υ) : XR r σ υ := ⟨fun y hy hz => ⟨((g.1 y hy hz).1).trans (h.1 y hy hz).1, ((g.1 y hy hz).2.1).trans (h.1 y hy hz).2.1, ((g.1 y hy hz).2.2.1).trans (h.1 y hy hz).2.2.1, ((g.1 y hy hz).2.2.2).trans (h.1 y hy hz).2.2.2⟩, fun z hz hw => ⟨((g.2 z hz hw).1).trans (h.2 z hz hw).1, ((g.2 z hz hw).2).trans (h.2 z hz hw).2⟩⟩
theorem XO.xr {r : Int} {σ τ : MS} (h : XO r σ τ) : XR r σ τ := ⟨fun y hy _ => h.1 y hy, fun z hz _ => h.2 z hz⟩
theorem OFF.xr {r k : Int} {σ τ : MS} (h : OFF k σ τ) (h0 : 2640 ≤ k) : XR r σ τ := ⟨fun y _ hz => h.1 y (by omega), fun z _ hw => h.2.1 z (by omega)⟩
theorem XR.ieq {r k : Int} {σ τ : MS} (h : XR r σ τ) (hk : k < 220 * r ∨ 220 * r + 220 ≤ k) (h2 : k < 2640) : IEQ σ k τ k := ⟨(h.1 k hk h2).1, (h.1 k hk h2).2.1, (h.1 k hk h2).2.2.1, (h.1 k hk h2).2.2.2, fun i a b => h.2 (4 * k + i) (by omega) (by omega)⟩
def SHF (σ0 σ : MS) (r k i : Int) : Prop := (∀ j, 0 ≤ j → j ≤ i → IEQ σ0 (220 * r + j) σ (220 * r + j)) ∧ (∀ j, i < j → j ≤ k → IEQ σ0 (220 * r + (j - 1)) σ (220 * r + j)) ∧ (∀ j, k < j → j < 220 → IEQ σ0 (220 * r + j) σ (220 * r + j)) ∧ IEQ σ0 2640 σ 2640 ∧ XO r σ0 σ
theorem SHF.start {σ : MS} {r k : Int} : SHF σ σ r k k := ⟨fun _ _ _ => IEQ.rfl, fun j a b => by omega, fun _ _ _ => IEQ.rfl, IEQ.rfl, XO.rfl⟩
theorem SHF.go {σ0 σ : MS} {r k i : Int} (h : SHF σ0 σ r k i) (hr : 0 ≤ r ∧ r < 6) (hi : 1 ≤ i ∧ i ≤ k ∧ k < 220) : SHF σ0 (fCopy (220 * r + (i - 1)) (220 * r + i) σ) r k (i - 1) := by
  obtain ⟨h1, h2, h3, h4, h5⟩ := h
  have o := fCopy_off (f := 220 * r + (i - 1)) (t := 220 * r + i) (σ := σ)
  refine ⟨fun j a b => (h1 j a (by omega)).trans (o.ieq (by omega)), fun j a b => ?_, fun j a b => (h3 j a b).trans (o.ieq (by omega)), h4.trans (o.ieq (by omega)), h5.trans (o.xo (by omega) (by omega))⟩
  by_cases z : j = i
  · subst z; exact (h1 (j - 1) (by omega) (by omega)).trans fCopy_ieq
  · exact (h2 j (by omega) b).trans (o.ieq (by omega))
theorem SHF.fin {ρ σ : MS} {r F k p : Int} (h : SHF (fCopy (220 * r + k) 2640 ρ) σ r k p) (hr : 0 ≤ r ∧ r < 6) (hp : 0 ≤ p ∧ p < k ∧ k < ρ.2.1 9 r ∧ ρ.2.1 9 r ≤ 220) (h13 : ρ.2.1 3 (220 * r + p) = 13) (h5 : ρ.2.1 3 (220 * r + k) ≤ 5) (ho : OKS ρ F r) (hc : CODE ρ r) (hl : LEX ρ r) (hb : LBM ρ r) (f : Fr [] [3, 4, 5, 6, 7, 8] [] ρ σ) :
    CODE (fCopy 2640 (220 * r + p) σ) r ∧ LEX (fCopy 2640 (220 * r + p) σ) r ∧ LBM (fCopy 2640 (220 * r + p) σ) r ∧ OKS (fCopy 2640 (220 * r + p) σ) F r ∧ XR r ρ (fCopy 2640 (220 * r + p) σ) ∧ (fCopy 2640 (220 * r + p) σ).2.1 3 (220 * r + (p + 1)) = 13 := by
  obtain ⟨h1, h2, h3, h4, h6⟩ := h
  have o0 := fCopy_off (f := 220 * r + k) (t := 2640) (σ := ρ)
  have i0 := fCopy_ieq (f := 220 * r + k) (t := 2640) (σ := ρ)
  have o := fCopy_off (f := 2640) (t := 220 * r + p) (σ := σ)
  have i1 := fCopy_ieq (f := 2640) (t := 220 * r + p) (σ := σ)
  have h2' : ∀ j, p < j → j ≤ k → IEQ ρ (220 * r + (j - 1)) (fCopy 2640 (220 * r + p) σ) (220 * r + j) := fun j a b => ((o0.ieq (by omega)).trans (h2 j a b)).trans (o.ieq (by omega))
  have R := rot_fin (τ := fCopy 2640 (220 * r + p) σ) (F := F) ⟨hp.1, hp.2.1, hp.2.2.1⟩ h13 h5 ho hc hl hb (f.trans (fCopy_fr.sub (by decide) (by decide) (by decide)))
    (fun j a b => ((o0.ieq (by omega)).trans (h1 j a (by omega))).trans (o.ieq (by omega))) ((i0.trans h4).trans i1) h2' (fun j a b => ((o0.ieq (by omega)).trans (h3 j a (by omega))).trans (o.ieq (by omega)))
  refine ⟨R.1, R.2.1, R.2.2.1, R.2.2.2, ((o0.xr (by omega)).trans h6.xr).trans (o.xo hp.1 (by omega)).xr, ?_⟩
  have := (h2' (p + 1) (by omega) (by omega)).1
  rw [this, show p + 1 - 1 = p by omega]; exact h13

theorem dX12_moveAll_160 : decode cX12_moveAll 160 = .ok (.iload 7, 2) := by decide +kernel
theorem dX12_moveAll_162 : decode cX12_moveAll 162 = .ok (.iload 4, 2) := by decide +kernel
theorem dX12_moveAll_164 : decode cX12_moveAll 164 = .ok (.if_icmp .le 29, 3) := by decide +kernel
theorem dX12_moveAll_167 : decode cX12_moveAll 167 = .ok (.aload_n 0, 1) := by decide +kernel
theorem dX12_moveAll_168 : decode cX12_moveAll 168 = .ok (.aload_n 0, 1) := by decide +kernel
theorem dX12_moveAll_169 : decode cX12_moveAll 169 = .ok (.iload_n 1, 1) := by decide +kernel
theorem dX12_moveAll_170 : decode cX12_moveAll 170 = .ok (.iload 7, 2) := by decide +kernel
theorem dX12_moveAll_172 : decode cX12_moveAll 172 = .ok (.iconst 1, 1) := by decide +kernel
theorem dX12_moveAll_173 : decode cX12_moveAll 173 = .ok (.isub, 1) := by decide +kernel
theorem dX12_moveAll_174 : decode cX12_moveAll 174 = .ok (.invokevirtual 203, 3) := by decide +kernel
theorem dX12_moveAll_177 : decode cX12_moveAll 177 = .ok (.aload_n 0, 1) := by decide +kernel
theorem dX12_moveAll_178 : decode cX12_moveAll 178 = .ok (.iload_n 1, 1) := by decide +kernel
theorem dX12_moveAll_179 : decode cX12_moveAll 179 = .ok (.iload 7, 2) := by decide +kernel
theorem dX12_moveAll_181 : decode cX12_moveAll 181 = .ok (.invokevirtual 203, 3) := by decide +kernel
theorem dX12_moveAll_184 : decode cX12_moveAll 184 = .ok (.invokevirtual 394, 3) := by decide +kernel
theorem dX12_moveAll_187 : decode cX12_moveAll 187 = .ok (.iinc 7 (-1), 3) := by decide +kernel
theorem dX12_moveAll_190 : decode cX12_moveAll 190 = .ok (.goto (-30), 3) := by decide +kernel
set_option maxHeartbeats 1000000 in
set_option maxRecDepth 20000 in
theorem l_mv4 (d : Nat) {b : Nat} {σ0 : MS} {r : Int} {w : Int} {p0 : Int} {p : Int} {q : Int} {k : Int} {post : Option Value → MS → Prop} (hr : 0 ≤ r ∧ r < 6) (hp : 0 ≤ p ∧ p < k ∧ k < 220) (hx_193 : ∀ (i : Int) (σ : MS) , (Fr [] [3, 4, 5, 6, 7, 8] [] σ0 σ) → (RG σ) → (SHF σ0 σ r k p) → Tm (d + 2) m_X12_moveAll 193 b σ [(7, .int (iI i)), (6, .int (iI k)), (5, .int (iI q)), (4, .int (iI p)), (3, .int (iI p0)), (2, .int (iI w)), (0, .ref b), (1, .int (iI r))] [] post) : ∀ (n : Nat) (i : Int) (σ : MS) , (Fr [] [3, 4, 5, 6, 7, 8] [] σ0 σ) → (RG σ) → (p ≤ i ∧ i ≤ k) → (SHF σ0 σ r k i) → (i - p).toNat = n → Tm (d + 2) m_X12_moveAll 160 b σ [(7, .int (iI i)), (6, .int (iI k)), (5, .int (iI q)), (4, .int (iI p)), (3, .int (iI p0)), (2, .int (iI w)), (0, .ref b), (1, .int (iI r))] [] post := by
  intro n
  induction n using Nat.strongRecOn with
  | _ n ih =>
    intro i σ hF hR h0 hsh hm
    refine tm_iload dX12_moveAll_160 0 rfl ?_
    refine tm_iload dX12_moveAll_162 3 rfl ?_
    refine tm_icmp_le (tgt := 193) dX12_moveAll_164 (by decide) ⟨by omega, by omega⟩ ⟨by omega, by omega⟩ (fun h1 => ?_) (fun h1 => ?_)
    · exact tm_sub [0, 1, 2, 3, 4, 5, 6, 7] rfl (hx_193 (i) σ (Fr.rfl.trans (Fr.sub hF (by decide) (by decide) (by decide))) hR (by rw [show p = i by omega]; exact hsh))
    · refine tm_aload_n dX12_moveAll_167 rfl 6 rfl ?_
      refine tm_aload_n dX12_moveAll_168 rfl 6 rfl ?_
      refine tm_iload_n dX12_moveAll_169 rfl 7 rfl ?_
      refine tm_iload dX12_moveAll_170 0 rfl ?_
      refine tm_iconst dX12_moveAll_172 ?_
      refine tm_isub dX12_moveAll_173 ?_
      refine tm_callV (M := m_X12_moveAll) (pc := 174) (ix := 203) (M' := m_X12_at) (As := [.int (iI r), .int (iI (i - 1))]) (rest := [.ref b]) dX12_moveAll_174 ok_X12_at im_X12_at se_X12_at ml12_203 np_X12_at rfl rfl (Nat.le_of_ble_eq_true rfl) (Nat.le_of_ble_eq_true rfl) rfl (c_X12_at (d) (σ := σ) (x := r) (k := i - 1) ) (fun r2 σ3 hp => ?_)
      obtain ⟨v4, rfl, rfl, f5⟩ := hp
      subst f5
      show Tm _ _ 177 b σ [(7, .int (iI i)), (6, .int (iI k)), (5, .int (iI q)), (4, .int (iI p)), (3, .int (iI p0)), (2, .int (iI w)), (0, .ref b), (1, .int (iI r))] [.int (iI (220 * r + (i - 1))), .ref b] _
      refine tm_aload_n dX12_moveAll_177 rfl 6 rfl ?_
      refine tm_iload_n dX12_moveAll_178 rfl 7 rfl ?_
      refine tm_iload dX12_moveAll_179 0 rfl ?_
      refine tm_callV (M := m_X12_moveAll) (pc := 181) (ix := 203) (M' := m_X12_at) (As := [.int (iI r), .int (iI i)]) (rest := [.int (iI (220 * r + (i - 1))), .ref b]) dX12_moveAll_181 ok_X12_at im_X12_at se_X12_at ml12_203 np_X12_at rfl rfl (Nat.le_of_ble_eq_true rfl) (Nat.le_of_ble_eq_true rfl) rfl (c_X12_at (d) (σ := σ) (x := r) (k := i) ) (fun r6 σ7 hp => ?_)
      obtain ⟨v8, rfl, rfl, f9⟩ := hp
      subst f9
      show Tm _ _ 184 b σ [(7, .int (iI i)), (6, .int (iI k)), (5, .int (iI q)), (4, .int (iI p)), (3, .int (iI p0)), (2, .int (iI w)), (0, .ref b), (1, .int (iI r))] [.int (iI (220 * r + i)), .int (iI (220 * r + (i - 1))), .ref b] _
      refine tm_callV (M := m_X12_moveAll) (pc := 184) (ix := 394) (M' := m_X12_copyItem) (As := [.int (iI (220 * r + (i - 1))), .int (iI (220 * r + i))]) (rest := []) dX12_moveAll_184 ok_X12_copyItem im_X12_copyItem se_X12_copyItem ml12_394 np_X12_copyItem rfl rfl (Nat.le_of_ble_eq_true rfl) (Nat.le_of_ble_eq_true rfl) rfl (c_X12_copyItem (d) (σ := σ) (f := 220 * r + (i - 1)) (t := 220 * r + i) (by omega) (by omega)) (fun r10 σ11 hp => ?_)
      obtain ⟨rfl, f13⟩ := hp
      subst f13
      show Tm _ _ 187 b (fCopy (220 * r + (i - 1)) (220 * r + i) σ) [(7, .int (iI i)), (6, .int (iI k)), (5, .int (iI q)), (4, .int (iI p)), (3, .int (iI p0)), (2, .int (iI w)), (0, .ref b), (1, .int (iI r))] [] _
      refine tm_iinc (q0 := 0) (L' := [(7, .int (iI (i + (-1)))), (6, .int (iI k)), (5, .int (iI q)), (4, .int (iI p)), (3, .int (iI p0)), (2, .int (iI w)), (0, .ref b), (1, .int (iI r))]) dX12_moveAll_187 rfl (by decide) rfl ?_
      refine tm_goto (tgt := 160) dX12_moveAll_190 (by decide) ?_
      exact tm_sub [0, 1, 2, 3, 4, 5, 6, 7] rfl (ih _ (by omega) (i + (-1)) (fCopy (220 * r + (i - 1)) (220 * r + i) σ) ((Fr.rfl.trans (Fr.sub hF (by decide) (by decide) (by decide))).trans (Fr.sub fCopy_fr (by decide) (by decide) (by decide))) (hR.copy) (by omega) (hsh.go hr (by omega)) rfl)
theorem ml12_490 : Cond.methodLink RX12 490 yX12_mayMove ∈ pWW := pw9 (List.mem_of_getElem? (i := 157) rfl) rfl
theorem dX12_moveAll_108 : decode cX12_moveAll 108 = .ok (.iload 6, 2) := by decide +kernel
theorem dX12_moveAll_110 : decode cX12_moveAll 110 = .ok (.iload 5, 2) := by decide +kernel
theorem dX12_moveAll_112 : decode cX12_moveAll 112 = .ok (.if_icmp .gt 108, 3) := by decide +kernel
theorem dX12_moveAll_115 : decode cX12_moveAll 115 = .ok (.iload 5, 2) := by decide +kernel
theorem dX12_moveAll_117 : decode cX12_moveAll 117 = .ok (.iload 4, 2) := by decide +kernel
theorem dX12_moveAll_119 : decode cX12_moveAll 119 = .ok (.if_icmp .le 101, 3) := by decide +kernel
theorem dX12_moveAll_122 : decode cX12_moveAll 122 = .ok (.aload_n 0, 1) := by decide +kernel
theorem dX12_moveAll_123 : decode cX12_moveAll 123 = .ok (.iload_n 1, 1) := by decide +kernel
theorem dX12_moveAll_124 : decode cX12_moveAll 124 = .ok (.iload 6, 2) := by decide +kernel
theorem dX12_moveAll_126 : decode cX12_moveAll 126 = .ok (.iload 4, 2) := by decide +kernel
theorem dX12_moveAll_128 : decode cX12_moveAll 128 = .ok (.iload 5, 2) := by decide +kernel
theorem dX12_moveAll_130 : decode cX12_moveAll 130 = .ok (.invokevirtual 490, 3) := by decide +kernel
theorem dX12_moveAll_133 : decode cX12_moveAll 133 = .ok (.ifCond .ne 9, 3) := by decide +kernel
theorem dX12_moveAll_142 : decode cX12_moveAll 142 = .ok (.aload_n 0, 1) := by decide +kernel
theorem dX12_moveAll_143 : decode cX12_moveAll 143 = .ok (.aload_n 0, 1) := by decide +kernel
theorem dX12_moveAll_144 : decode cX12_moveAll 144 = .ok (.iload_n 1, 1) := by decide +kernel
theorem dX12_moveAll_145 : decode cX12_moveAll 145 = .ok (.iload 6, 2) := by decide +kernel
theorem dX12_moveAll_147 : decode cX12_moveAll 147 = .ok (.invokevirtual 203, 3) := by decide +kernel
theorem dX12_moveAll_150 : decode cX12_moveAll 150 = .ok (.sipush 2640, 3) := by decide +kernel
theorem dX12_moveAll_153 : decode cX12_moveAll 153 = .ok (.invokevirtual 394, 3) := by decide +kernel
theorem dX12_moveAll_156 : decode cX12_moveAll 156 = .ok (.iload 6, 2) := by decide +kernel
theorem dX12_moveAll_158 : decode cX12_moveAll 158 = .ok (.istore 7, 2) := by decide +kernel
theorem dX12_moveAll_193 : decode cX12_moveAll 193 = .ok (.aload_n 0, 1) := by decide +kernel
theorem dX12_moveAll_194 : decode cX12_moveAll 194 = .ok (.sipush 2640, 3) := by decide +kernel
theorem dX12_moveAll_197 : decode cX12_moveAll 197 = .ok (.aload_n 0, 1) := by decide +kernel
theorem dX12_moveAll_198 : decode cX12_moveAll 198 = .ok (.iload_n 1, 1) := by decide +kernel
theorem dX12_moveAll_199 : decode cX12_moveAll 199 = .ok (.iload 4, 2) := by decide +kernel
theorem dX12_moveAll_201 : decode cX12_moveAll 201 = .ok (.invokevirtual 203, 3) := by decide +kernel
theorem dX12_moveAll_204 : decode cX12_moveAll 204 = .ok (.invokevirtual 394, 3) := by decide +kernel
theorem dX12_moveAll_207 : decode cX12_moveAll 207 = .ok (.iinc 2 1, 3) := by decide +kernel
theorem dX12_moveAll_210 : decode cX12_moveAll 210 = .ok (.iinc 4 1, 3) := by decide +kernel
theorem dX12_moveAll_213 : decode cX12_moveAll 213 = .ok (.iload 4, 2) := by decide +kernel
theorem dX12_moveAll_215 : decode cX12_moveAll 215 = .ok (.istore 6, 2) := by decide +kernel
theorem dX12_moveAll_217 : decode cX12_moveAll 217 = .ok (.goto (-109), 3) := by decide +kernel
theorem dX12_moveAll_136 : decode cX12_moveAll 136 = .ok (.iinc 6 1, 3) := by decide +kernel
theorem dX12_moveAll_139 : decode cX12_moveAll 139 = .ok (.goto (-31), 3) := by decide +kernel
set_option maxHeartbeats 1000000 in
set_option maxRecDepth 20000 in
theorem l_mv3 (d : Nat) {b : Nat} {σ0 : MS} {r : Int} {F : Int} {q : Int} {p0 : Int} {post : Option Value → MS → Prop} (hr : 0 ≤ r ∧ r < 6) (hR0 : RG σ0) (hit : ITM σ0) (hpar : PAR σ0) (hnam : NAM σ0) (hof : OKF σ0 r) (hq : q < σ0.2.1 9 r) (hx_220 : ∀ (w : Int) (p : Int) (k : Int) (σ : MS) , (Fr [] [3, 4, 5, 6, 7, 8] [] σ0 σ) → (RG σ) → (OKS σ F r) → (CODE σ r) → (LEX σ r) → (LBM σ r) → (XR r σ0 σ) → Tm (d + 6) m_X12_moveAll 220 b σ [(3, .int (iI p0)), (2, .int (iI w)), (0, .ref b), (1, .int (iI r))] [] post) : ∀ (n : Nat) (w : Int) (p : Int) (k : Int) (σ : MS) , (Fr [] [3, 4, 5, 6, 7, 8] [] σ0 σ) → (RG σ) → (0 ≤ p ∧ p ≤ k ∧ k ≤ q + 1 ∧ p ≤ q) → (σ.2.1 3 (220 * r + p) = 13) → (OKS σ F r) → (CODE σ r) → (LEX σ r) → (LBM σ r) → (XR r σ0 σ) → ((220 - p) * 221 + (221 - k)).toNat = n → Tm (d + 6) m_X12_moveAll 108 b σ [(6, .int (iI k)), (5, .int (iI q)), (4, .int (iI p)), (3, .int (iI p0)), (2, .int (iI w)), (0, .ref b), (1, .int (iI r))] [] post := by
  intro n
  induction n using Nat.strongRecOn with
  | _ n ih =>
    intro w p k σ hF hR h0 h13 hok hcd hlex hlm hxr hm
    have hit1 := hit.fr hF (by decide)
    have hpar1 := hpar.fr hF (by decide)
    have hnam1 := hnam.fr hF (by decide)
    have hof1 := hof.fr hF (by decide)
    have q1 := hit r (by omega) (by omega)
    have q9 : σ.2.1 9 r = σ0.2.1 9 r := by rw [hF.2.1 9 (by decide)]
    refine tm_iload dX12_moveAll_108 0 rfl ?_
    refine tm_iload dX12_moveAll_110 1 rfl ?_
    refine tm_icmp_gt (tgt := 220) dX12_moveAll_112 (by decide) ⟨by omega, by omega⟩ ⟨by omega, by omega⟩ (fun h1 => ?_) (fun h1 => ?_)
    · exact tm_sub [3, 4, 5, 6] rfl (hx_220 (w) (0) (0) σ (Fr.rfl.trans (Fr.sub hF (by decide) (by decide) (by decide))) hR hok hcd hlex hlm hxr)
    · refine tm_iload dX12_moveAll_115 1 rfl ?_
      refine tm_iload dX12_moveAll_117 2 rfl ?_
      refine tm_icmp_le (tgt := 220) dX12_moveAll_119 (by decide) ⟨by omega, by omega⟩ ⟨by omega, by omega⟩ (fun h2 => ?_) (fun h2 => ?_)
      · exact tm_sub [3, 4, 5, 6] rfl (hx_220 (w) (0) (0) σ (Fr.rfl.trans (Fr.sub hF (by decide) (by decide) (by decide))) hR hok hcd hlex hlm hxr)
      · refine tm_aload_n dX12_moveAll_122 rfl 5 rfl ?_
        refine tm_iload_n dX12_moveAll_123 rfl 6 rfl ?_
        refine tm_iload dX12_moveAll_124 0 rfl ?_
        refine tm_iload dX12_moveAll_126 2 rfl ?_
        refine tm_iload dX12_moveAll_128 1 rfl ?_
        refine tm_callV (M := m_X12_moveAll) (pc := 130) (ix := 490) (M' := m_X12_mayMove) (As := [.int (iI r), .int (iI k), .int (iI p), .int (iI q)]) (rest := []) dX12_moveAll_130 ok_X12_mayMove im_X12_mayMove se_X12_mayMove ml12_490 np_X12_mayMove rfl rfl (Nat.le_of_ble_eq_true rfl) (Nat.le_of_ble_eq_true rfl) rfl (c_X12_mayMove (d) (σ := σ) (r := r) (k := k) (fr := p) (to := q) (F := F) (by omega) hR hit1 hpar1 hok hof1 hnam1 (by omega) (by omega)) (fun r3 σ4 hp => ?_)
        obtain ⟨v5, rfl, rfl, f6, f7⟩ := hp
        show Tm _ _ 133 b σ [(6, .int (iI k)), (5, .int (iI q)), (4, .int (iI p)), (3, .int (iI p0)), (2, .int (iI w)), (0, .ref b), (1, .int (iI r))] [.int (iI v5)] _
        refine tm_if_ne (tgt := 142) dX12_moveAll_133 (by decide) ⟨by omega, by omega⟩ (fun h8 => ?_) (fun h8 => ?_)
        · have hv5 := f7 (by omega)
          have hk5 : σ.2.1 3 (220 * r + k) ≤ 5 := hv5
          have hpk : p ≠ k := fun e => by subst e; omega
          refine tm_aload_n dX12_moveAll_142 rfl 5 rfl ?_
          refine tm_aload_n dX12_moveAll_143 rfl 5 rfl ?_
          refine tm_iload_n dX12_moveAll_144 rfl 6 rfl ?_
          refine tm_iload dX12_moveAll_145 0 rfl ?_
          refine tm_callV (M := m_X12_moveAll) (pc := 147) (ix := 203) (M' := m_X12_at) (As := [.int (iI r), .int (iI k)]) (rest := [.ref b]) dX12_moveAll_147 ok_X12_at im_X12_at se_X12_at ml12_203 np_X12_at rfl rfl (Nat.le_of_ble_eq_true rfl) (Nat.le_of_ble_eq_true rfl) rfl (c_X12_at (d + 4) (σ := σ) (x := r) (k := k) ) (fun r9 σ10 hp => ?_)
          obtain ⟨v11, rfl, rfl, f12⟩ := hp
          subst f12
          show Tm _ _ 150 b σ [(6, .int (iI k)), (5, .int (iI q)), (4, .int (iI p)), (3, .int (iI p0)), (2, .int (iI w)), (0, .ref b), (1, .int (iI r))] [.int (iI (220 * r + k)), .ref b] _
          refine tm_sipush dX12_moveAll_150 (by decide) ?_
          refine tm_callV (M := m_X12_moveAll) (pc := 153) (ix := 394) (M' := m_X12_copyItem) (As := [.int (iI (220 * r + k)), .int (iI 2640)]) (rest := []) dX12_moveAll_153 ok_X12_copyItem im_X12_copyItem se_X12_copyItem ml12_394 np_X12_copyItem rfl rfl (Nat.le_of_ble_eq_true rfl) (Nat.le_of_ble_eq_true rfl) rfl (c_X12_copyItem (d + 4) (σ := σ) (f := 220 * r + k) (t := 2640) (by omega) (by omega)) (fun r13 σ14 hp => ?_)
          obtain ⟨rfl, f16⟩ := hp
          subst f16
          show Tm _ _ 156 b (fCopy (220 * r + k) (2640) σ) [(6, .int (iI k)), (5, .int (iI q)), (4, .int (iI p)), (3, .int (iI p0)), (2, .int (iI w)), (0, .ref b), (1, .int (iI r))] [] _
          refine tm_iload dX12_moveAll_156 0 rfl ?_
          refine tm_istore (L' := [(7, .int (iI k)), (6, .int (iI k)), (5, .int (iI q)), (4, .int (iI p)), (3, .int (iI p0)), (2, .int (iI w)), (0, .ref b), (1, .int (iI r))]) dX12_moveAll_158 (by decide) rfl ?_
          refine tm_sub [0, 1, 2, 3, 4, 5, 6, 7] rfl (l_mv4 (d + 4) (σ0 := (fCopy (220 * r + k) (2640) σ)) (r := r) (w := w) (p0 := p0) (p := p) (q := q) (k := k) hr (by omega) (fun i22 σ23 F19 R20 f21 => ?_) _ (k) (fCopy (220 * r + k) (2640) σ) Fr.rfl (hR.copy) (by omega) SHF.start rfl)
          show Tm _ _ 193 b σ23 [(7, .int (iI i22)), (6, .int (iI k)), (5, .int (iI q)), (4, .int (iI p)), (3, .int (iI p0)), (2, .int (iI w)), (0, .ref b), (1, .int (iI r))] [] _
          have hfin := SHF.fin (F := F) (p := p) f21 hr (by omega) h13 hk5 hok hcd hlex hlm (fCopy_fr.trans F19)
          refine tm_aload_n dX12_moveAll_193 rfl 6 rfl ?_
          refine tm_sipush dX12_moveAll_194 (by decide) ?_
          refine tm_aload_n dX12_moveAll_197 rfl 6 rfl ?_
          refine tm_iload_n dX12_moveAll_198 rfl 7 rfl ?_
          refine tm_iload dX12_moveAll_199 3 rfl ?_
          refine tm_callV (M := m_X12_moveAll) (pc := 201) (ix := 203) (M' := m_X12_at) (As := [.int (iI r), .int (iI p)]) (rest := [.int (iI 2640), .ref b]) dX12_moveAll_201 ok_X12_at im_X12_at se_X12_at ml12_203 np_X12_at rfl rfl (Nat.le_of_ble_eq_true rfl) (Nat.le_of_ble_eq_true rfl) rfl (c_X12_at (d + 4) (σ := σ23) (x := r) (k := p) ) (fun r24 σ25 hp => ?_)
          obtain ⟨v26, rfl, rfl, f27⟩ := hp
          subst f27
          show Tm _ _ 204 b σ23 [(7, .int (iI i22)), (6, .int (iI k)), (5, .int (iI q)), (4, .int (iI p)), (3, .int (iI p0)), (2, .int (iI w)), (0, .ref b), (1, .int (iI r))] [.int (iI (220 * r + p)), .int (iI 2640), .ref b] _
          refine tm_callV (M := m_X12_moveAll) (pc := 204) (ix := 394) (M' := m_X12_copyItem) (As := [.int (iI 2640), .int (iI (220 * r + p))]) (rest := []) dX12_moveAll_204 ok_X12_copyItem im_X12_copyItem se_X12_copyItem ml12_394 np_X12_copyItem rfl rfl (Nat.le_of_ble_eq_true rfl) (Nat.le_of_ble_eq_true rfl) rfl (c_X12_copyItem (d + 4) (σ := σ23) (f := 2640) (t := 220 * r + p) (by omega) (by omega)) (fun r28 σ29 hp => ?_)
          obtain ⟨rfl, f31⟩ := hp
          subst f31
          show Tm _ _ 207 b (fCopy (2640) (220 * r + p) σ23) [(7, .int (iI i22)), (6, .int (iI k)), (5, .int (iI q)), (4, .int (iI p)), (3, .int (iI p0)), (2, .int (iI w)), (0, .ref b), (1, .int (iI r))] [] _
          refine tm_iinc (q0 := 5) (L' := [(2, .int (iI (w + 1))), (7, .int (iI i22)), (6, .int (iI k)), (5, .int (iI q)), (4, .int (iI p)), (3, .int (iI p0)), (0, .ref b), (1, .int (iI r))]) dX12_moveAll_207 rfl (by decide) rfl ?_
          refine tm_iinc (q0 := 4) (L' := [(4, .int (iI (p + 1))), (2, .int (iI (w + 1))), (7, .int (iI i22)), (6, .int (iI k)), (5, .int (iI q)), (3, .int (iI p0)), (0, .ref b), (1, .int (iI r))]) dX12_moveAll_210 rfl (by decide) rfl ?_
          refine tm_iload dX12_moveAll_213 0 rfl ?_
          refine tm_istore (L' := [(6, .int (iI (p + 1))), (4, .int (iI (p + 1))), (2, .int (iI (w + 1))), (7, .int (iI i22)), (5, .int (iI q)), (3, .int (iI p0)), (0, .ref b), (1, .int (iI r))]) dX12_moveAll_215 (by decide) rfl ?_
          refine tm_goto (tgt := 108) dX12_moveAll_217 (by decide) ?_
          exact tm_sub [0, 4, 1, 5, 2, 6, 7] rfl (ih _ (by omega) (w + 1) (p + 1) (p + 1) (fCopy (2640) (220 * r + p) σ23) ((((Fr.rfl.trans (Fr.sub hF (by decide) (by decide) (by decide))).trans (Fr.sub fCopy_fr (by decide) (by decide) (by decide))).trans (Fr.sub F19 (by decide) (by decide) (by decide))).trans (Fr.sub fCopy_fr (by decide) (by decide) (by decide))) (R20.copy) (by omega) hfin.2.2.2.2.2 hfin.2.2.2.1 hfin.1 hfin.2.1 hfin.2.2.1 (hxr.trans hfin.2.2.2.2.1) rfl)
        · refine tm_iinc (q0 := 0) (L' := [(6, .int (iI (k + 1))), (5, .int (iI q)), (4, .int (iI p)), (3, .int (iI p0)), (2, .int (iI w)), (0, .ref b), (1, .int (iI r))]) dX12_moveAll_136 rfl (by decide) rfl ?_
          refine tm_goto (tgt := 108) dX12_moveAll_139 (by decide) ?_
          exact tm_sub [0, 1, 2, 3, 4, 5, 6] rfl (ih _ (by omega) (w) (p) (k + 1) σ (Fr.rfl.trans (Fr.sub hF (by decide) (by decide) (by decide))) hR (by omega) h13 hok hcd hlex hlm hxr rfl)
theorem dX12_moveAll_47 : decode cX12_moveAll 47 = .ok (.iload 5, 2) := by decide +kernel
theorem dX12_moveAll_49 : decode cX12_moveAll 49 = .ok (.iload 4, 2) := by decide +kernel
theorem dX12_moveAll_51 : decode cX12_moveAll 51 = .ok (.if_icmp .le 53, 3) := by decide +kernel
theorem dX12_moveAll_54 : decode cX12_moveAll 54 = .ok (.aload_n 0, 1) := by decide +kernel
theorem dX12_moveAll_55 : decode cX12_moveAll 55 = .ok (.getfield 13, 3) := by decide +kernel
theorem dX12_moveAll_58 : decode cX12_moveAll 58 = .ok (.aload_n 0, 1) := by decide +kernel
theorem dX12_moveAll_59 : decode cX12_moveAll 59 = .ok (.iload_n 1, 1) := by decide +kernel
theorem dX12_moveAll_60 : decode cX12_moveAll 60 = .ok (.iload 5, 2) := by decide +kernel
theorem dX12_moveAll_62 : decode cX12_moveAll 62 = .ok (.invokevirtual 203, 3) := by decide +kernel
theorem dX12_moveAll_65 : decode cX12_moveAll 65 = .ok (.iaload, 1) := by decide +kernel
theorem dX12_moveAll_66 : decode cX12_moveAll 66 = .ok (.bipush 8, 2) := by decide +kernel
theorem dX12_moveAll_68 : decode cX12_moveAll 68 = .ok (.if_icmp .ne 30, 3) := by decide +kernel
theorem dX12_moveAll_98 : decode cX12_moveAll 98 = .ok (.iinc 5 (-1), 3) := by decide +kernel
theorem dX12_moveAll_101 : decode cX12_moveAll 101 = .ok (.goto (-54), 3) := by decide +kernel
theorem dX12_moveAll_71 : decode cX12_moveAll 71 = .ok (.aload_n 0, 1) := by decide +kernel
theorem dX12_moveAll_72 : decode cX12_moveAll 72 = .ok (.getfield 17, 3) := by decide +kernel
theorem dX12_moveAll_75 : decode cX12_moveAll 75 = .ok (.aload_n 0, 1) := by decide +kernel
theorem dX12_moveAll_76 : decode cX12_moveAll 76 = .ok (.iload_n 1, 1) := by decide +kernel
theorem dX12_moveAll_77 : decode cX12_moveAll 77 = .ok (.iload 5, 2) := by decide +kernel
theorem dX12_moveAll_79 : decode cX12_moveAll 79 = .ok (.invokevirtual 203, 3) := by decide +kernel
theorem dX12_moveAll_82 : decode cX12_moveAll 82 = .ok (.iaload, 1) := by decide +kernel
theorem dX12_moveAll_83 : decode cX12_moveAll 83 = .ok (.aload_n 0, 1) := by decide +kernel
theorem dX12_moveAll_84 : decode cX12_moveAll 84 = .ok (.getfield 17, 3) := by decide +kernel
theorem dX12_moveAll_87 : decode cX12_moveAll 87 = .ok (.aload_n 0, 1) := by decide +kernel
theorem dX12_moveAll_88 : decode cX12_moveAll 88 = .ok (.iload_n 1, 1) := by decide +kernel
theorem dX12_moveAll_89 : decode cX12_moveAll 89 = .ok (.iload 4, 2) := by decide +kernel
theorem dX12_moveAll_91 : decode cX12_moveAll 91 = .ok (.invokevirtual 203, 3) := by decide +kernel
theorem dX12_moveAll_94 : decode cX12_moveAll 94 = .ok (.iaload, 1) := by decide +kernel
theorem dX12_moveAll_95 : decode cX12_moveAll 95 = .ok (.if_icmp .eq 9, 3) := by decide +kernel
set_option maxHeartbeats 1000000 in
set_option maxRecDepth 20000 in
theorem l_mv2 (d : Nat) {b : Nat} {σ : MS} {r : Int} {w : Int} {p0 : Int} {p : Int} {post : Option Value → MS → Prop} (hr : 0 ≤ r ∧ r < 6) (hR : RG σ) (hp : 0 ≤ p ∧ p < 220) (hx_104 : ∀ (q : Int) , (p ≤ q ∧ q < σ.2.1 9 r) → Tm (d + 2) m_X12_moveAll 104 b σ [(5, .int (iI q)), (4, .int (iI p)), (3, .int (iI p0)), (2, .int (iI w)), (0, .ref b), (1, .int (iI r))] [] post) : ∀ (n : Nat) (q : Int) , (p ≤ q ∧ q < σ.2.1 9 r ∧ σ.2.1 9 r ≤ 220) → (q - p).toNat = n → Tm (d + 2) m_X12_moveAll 47 b σ [(5, .int (iI q)), (4, .int (iI p)), (3, .int (iI p0)), (2, .int (iI w)), (0, .ref b), (1, .int (iI r))] [] post := by
  intro n
  induction n using Nat.strongRecOn with
  | _ n ih =>
    intro q h0 hm
    refine tm_iload dX12_moveAll_47 0 rfl ?_
    refine tm_iload dX12_moveAll_49 1 rfl ?_
    refine tm_icmp_le (tgt := 104) dX12_moveAll_51 (by decide) ⟨by omega, by omega⟩ ⟨by omega, by omega⟩ (fun h1 => ?_) (fun h1 => ?_)
    · exact tm_sub [0, 1, 2, 3, 4, 5] rfl (hx_104 (q) (by omega))
    · refine tm_aload_n dX12_moveAll_54 rfl 4 rfl ?_
      refine tm_get (k := 3) (v := .ref (b + 1 + 1)) lay_12 dX12_moveAll_55 (by decide) fl12_13 rfl ?_
      refine tm_aload_n dX12_moveAll_58 rfl 4 rfl ?_
      refine tm_iload_n dX12_moveAll_59 rfl 5 rfl ?_
      refine tm_iload dX12_moveAll_60 0 rfl ?_
      refine tm_callV (M := m_X12_moveAll) (pc := 62) (ix := 203) (M' := m_X12_at) (As := [.int (iI r), .int (iI q)]) (rest := [.ref (b + 1 + 1)]) dX12_moveAll_62 ok_X12_at im_X12_at se_X12_at ml12_203 np_X12_at rfl rfl (Nat.le_of_ble_eq_true rfl) (Nat.le_of_ble_eq_true rfl) rfl (c_X12_at (d) (σ := σ) (x := r) (k := q) ) (fun r2 σ3 hp => ?_)
      obtain ⟨v4, rfl, rfl, f5⟩ := hp
      subst f5
      show Tm _ _ 65 b σ [(5, .int (iI q)), (4, .int (iI p)), (3, .int (iI p0)), (2, .int (iI w)), (0, .ref b), (1, .int (iI r))] [.int (iI (220 * r + q)), .ref (b + 1 + 1)] _
      refine tm_iald (z := 220 * r + q) (v := σ.2.1 3 (220 * r + q)) dX12_moveAll_65 (show mT[1]? = some (3, 0, 2860) from rfl) (by omega) (by omega) (by decide) (rfl) ?_
      have g6 := RG.a hR 3 (220 * r + q)
      refine tm_bipush dX12_moveAll_66 (by decide) ?_
      refine tm_icmp_ne (tgt := 98) dX12_moveAll_68 (by decide) ⟨by omega, by omega⟩ ⟨by decide, by decide⟩ (fun h7 => ?_) (fun h7 => ?_)
      · refine tm_iinc (q0 := 0) (L' := [(5, .int (iI (q + (-1)))), (4, .int (iI p)), (3, .int (iI p0)), (2, .int (iI w)), (0, .ref b), (1, .int (iI r))]) dX12_moveAll_98 rfl (by decide) rfl ?_
        refine tm_goto (tgt := 47) dX12_moveAll_101 (by decide) ?_
        exact tm_sub [0, 1, 2, 3, 4, 5] rfl (ih _ (by omega) (q + (-1)) (by omega) rfl)
      · refine tm_aload_n dX12_moveAll_71 rfl 4 rfl ?_
        refine tm_get (k := 4) (v := .ref (b + 1 + 2)) lay_12 dX12_moveAll_72 (by decide) fl12_17 rfl ?_
        refine tm_aload_n dX12_moveAll_75 rfl 4 rfl ?_
        refine tm_iload_n dX12_moveAll_76 rfl 5 rfl ?_
        refine tm_iload dX12_moveAll_77 0 rfl ?_
        refine tm_callV (M := m_X12_moveAll) (pc := 79) (ix := 203) (M' := m_X12_at) (As := [.int (iI r), .int (iI q)]) (rest := [.ref (b + 1 + 2)]) dX12_moveAll_79 ok_X12_at im_X12_at se_X12_at ml12_203 np_X12_at rfl rfl (Nat.le_of_ble_eq_true rfl) (Nat.le_of_ble_eq_true rfl) rfl (c_X12_at (d) (σ := σ) (x := r) (k := q) ) (fun r8 σ9 hp => ?_)
        obtain ⟨v10, rfl, rfl, f11⟩ := hp
        subst f11
        show Tm _ _ 82 b σ [(5, .int (iI q)), (4, .int (iI p)), (3, .int (iI p0)), (2, .int (iI w)), (0, .ref b), (1, .int (iI r))] [.int (iI (220 * r + q)), .ref (b + 1 + 2)] _
        refine tm_iald (z := 220 * r + q) (v := σ.2.1 4 (220 * r + q)) dX12_moveAll_82 (show mT[2]? = some (4, 0, 2860) from rfl) (by omega) (by omega) (by decide) (rfl) ?_
        have g12 := RG.a hR 4 (220 * r + q)
        refine tm_aload_n dX12_moveAll_83 rfl 4 rfl ?_
        refine tm_get (k := 4) (v := .ref (b + 1 + 2)) lay_12 dX12_moveAll_84 (by decide) fl12_17 rfl ?_
        refine tm_aload_n dX12_moveAll_87 rfl 4 rfl ?_
        refine tm_iload_n dX12_moveAll_88 rfl 5 rfl ?_
        refine tm_iload dX12_moveAll_89 1 rfl ?_
        refine tm_callV (M := m_X12_moveAll) (pc := 91) (ix := 203) (M' := m_X12_at) (As := [.int (iI r), .int (iI p)]) (rest := [.ref (b + 1 + 2), .int (iI (σ.2.1 4 (220 * r + q)))]) dX12_moveAll_91 ok_X12_at im_X12_at se_X12_at ml12_203 np_X12_at rfl rfl (Nat.le_of_ble_eq_true rfl) (Nat.le_of_ble_eq_true rfl) rfl (c_X12_at (d) (σ := σ) (x := r) (k := p) ) (fun r13 σ14 hp => ?_)
        obtain ⟨v15, rfl, rfl, f16⟩ := hp
        subst f16
        show Tm _ _ 94 b σ [(5, .int (iI q)), (4, .int (iI p)), (3, .int (iI p0)), (2, .int (iI w)), (0, .ref b), (1, .int (iI r))] [.int (iI (220 * r + p)), .ref (b + 1 + 2), .int (iI (σ.2.1 4 (220 * r + q)))] _
        refine tm_iald (z := 220 * r + p) (v := σ.2.1 4 (220 * r + p)) dX12_moveAll_94 (show mT[2]? = some (4, 0, 2860) from rfl) (by omega) (by omega) (by decide) (rfl) ?_
        have g17 := RG.a hR 4 (220 * r + p)
        refine tm_icmp_eq (tgt := 104) dX12_moveAll_95 (by decide) ⟨by omega, by omega⟩ ⟨by omega, by omega⟩ (fun h18 => ?_) (fun h18 => ?_)
        · exact tm_sub [0, 1, 2, 3, 4, 5] rfl (hx_104 (q) (by omega))
        · refine tm_iinc (q0 := 0) (L' := [(5, .int (iI (q + (-1)))), (4, .int (iI p)), (3, .int (iI p0)), (2, .int (iI w)), (0, .ref b), (1, .int (iI r))]) dX12_moveAll_98 rfl (by decide) rfl ?_
          refine tm_goto (tgt := 47) dX12_moveAll_101 (by decide) ?_
          exact tm_sub [0, 1, 2, 3, 4, 5] rfl (ih _ (by omega) (q + (-1)) (by omega) rfl)
theorem dX12_moveAll_11 : decode cX12_moveAll 11 = .ok (.iload_n 3, 1) := by decide +kernel
theorem dX12_moveAll_12 : decode cX12_moveAll 12 = .ok (.ifCond .lt 214, 3) := by decide +kernel
theorem dX12_moveAll_15 : decode cX12_moveAll 15 = .ok (.aload_n 0, 1) := by decide +kernel
theorem dX12_moveAll_16 : decode cX12_moveAll 16 = .ok (.getfield 13, 3) := by decide +kernel
theorem dX12_moveAll_19 : decode cX12_moveAll 19 = .ok (.aload_n 0, 1) := by decide +kernel
theorem dX12_moveAll_20 : decode cX12_moveAll 20 = .ok (.iload_n 1, 1) := by decide +kernel
theorem dX12_moveAll_21 : decode cX12_moveAll 21 = .ok (.iload_n 3, 1) := by decide +kernel
theorem dX12_moveAll_22 : decode cX12_moveAll 22 = .ok (.invokevirtual 203, 3) := by decide +kernel
theorem dX12_moveAll_25 : decode cX12_moveAll 25 = .ok (.iaload, 1) := by decide +kernel
theorem dX12_moveAll_26 : decode cX12_moveAll 26 = .ok (.bipush 13, 2) := by decide +kernel
theorem dX12_moveAll_28 : decode cX12_moveAll 28 = .ok (.if_icmp .eq 6, 3) := by decide +kernel
theorem dX12_moveAll_34 : decode cX12_moveAll 34 = .ok (.iload_n 3, 1) := by decide +kernel
theorem dX12_moveAll_35 : decode cX12_moveAll 35 = .ok (.istore 4, 2) := by decide +kernel
theorem dX12_moveAll_37 : decode cX12_moveAll 37 = .ok (.aload_n 0, 1) := by decide +kernel
theorem dX12_moveAll_38 : decode cX12_moveAll 38 = .ok (.getfield 32, 3) := by decide +kernel
theorem dX12_moveAll_41 : decode cX12_moveAll 41 = .ok (.iload_n 1, 1) := by decide +kernel
theorem dX12_moveAll_42 : decode cX12_moveAll 42 = .ok (.iaload, 1) := by decide +kernel
theorem dX12_moveAll_43 : decode cX12_moveAll 43 = .ok (.iconst 1, 1) := by decide +kernel
theorem dX12_moveAll_44 : decode cX12_moveAll 44 = .ok (.isub, 1) := by decide +kernel
theorem dX12_moveAll_45 : decode cX12_moveAll 45 = .ok (.istore 5, 2) := by decide +kernel
theorem dX12_moveAll_104 : decode cX12_moveAll 104 = .ok (.iload 4, 2) := by decide +kernel
theorem dX12_moveAll_106 : decode cX12_moveAll 106 = .ok (.istore 6, 2) := by decide +kernel
theorem dX12_moveAll_220 : decode cX12_moveAll 220 = .ok (.iinc 3 (-1), 3) := by decide +kernel
theorem dX12_moveAll_223 : decode cX12_moveAll 223 = .ok (.goto (-212), 3) := by decide +kernel
theorem dX12_moveAll_31 : decode cX12_moveAll 31 = .ok (.goto 189, 3) := by decide +kernel
set_option maxHeartbeats 1000000 in
set_option maxRecDepth 20000 in
theorem l_mv1 (d : Nat) {b : Nat} {σ0 : MS} {r : Int} {F : Int} {post : Option Value → MS → Prop} (hr : 0 ≤ r ∧ r < 6) (hR0 : RG σ0) (hit : ITM σ0) (hpar : PAR σ0) (hnam : NAM σ0) (hof : OKF σ0 r) (hx_226 : ∀ (w : Int) (p0 : Int) (σ : MS) , (Fr [] [3, 4, 5, 6, 7, 8] [] σ0 σ) → (RG σ) → (OKS σ F r) → (CODE σ r) → (LEX σ r) → (LBM σ r) → (XR r σ0 σ) → Tm (d + 6) m_X12_moveAll 226 b σ [(3, .int (iI p0)), (2, .int (iI w)), (0, .ref b), (1, .int (iI r))] [] post) : ∀ (n : Nat) (w : Int) (p0 : Int) (σ : MS) , (Fr [] [3, 4, 5, 6, 7, 8] [] σ0 σ) → (RG σ) → (-1 ≤ p0 ∧ p0 < σ0.2.1 9 r) → (OKS σ F r) → (CODE σ r) → (LEX σ r) → (LBM σ r) → (XR r σ0 σ) → (p0 + 1).toNat = n → Tm (d + 6) m_X12_moveAll 11 b σ [(3, .int (iI p0)), (2, .int (iI w)), (0, .ref b), (1, .int (iI r))] [] post := by
  intro n
  induction n using Nat.strongRecOn with
  | _ n ih =>
    intro w p0 σ hF hR h0 hok hcd hlex hlm hxr hm
    have hit1 := hit.fr hF (by decide)
    have hpar1 := hpar.fr hF (by decide)
    have hnam1 := hnam.fr hF (by decide)
    have hof1 := hof.fr hF (by decide)
    have q1 := hit r (by omega) (by omega)
    have q9 : σ.2.1 9 r = σ0.2.1 9 r := by rw [hF.2.1 9 (by decide)]
    refine tm_iload_n dX12_moveAll_11 rfl 0 rfl ?_
    refine tm_if_lt (tgt := 226) dX12_moveAll_12 (by decide) ⟨by omega, by omega⟩ (fun h1 => ?_) (fun h1 => ?_)
    · exact tm_sub [0, 1, 2, 3] rfl (hx_226 (w) (p0) σ (Fr.rfl.trans (Fr.sub hF (by decide) (by decide) (by decide))) hR hok hcd hlex hlm hxr)
    · refine tm_aload_n dX12_moveAll_15 rfl 2 rfl ?_
      refine tm_get (k := 3) (v := .ref (b + 1 + 1)) lay_12 dX12_moveAll_16 (by decide) fl12_13 rfl ?_
      refine tm_aload_n dX12_moveAll_19 rfl 2 rfl ?_
      refine tm_iload_n dX12_moveAll_20 rfl 3 rfl ?_
      refine tm_iload_n dX12_moveAll_21 rfl 0 rfl ?_
      refine tm_callV (M := m_X12_moveAll) (pc := 22) (ix := 203) (M' := m_X12_at) (As := [.int (iI r), .int (iI p0)]) (rest := [.ref (b + 1 + 1)]) dX12_moveAll_22 ok_X12_at im_X12_at se_X12_at ml12_203 np_X12_at rfl rfl (Nat.le_of_ble_eq_true rfl) (Nat.le_of_ble_eq_true rfl) rfl (c_X12_at (d + 4) (σ := σ) (x := r) (k := p0) ) (fun r2 σ3 hp => ?_)
      obtain ⟨v4, rfl, rfl, f5⟩ := hp
      subst f5
      show Tm _ _ 25 b σ [(3, .int (iI p0)), (2, .int (iI w)), (0, .ref b), (1, .int (iI r))] [.int (iI (220 * r + p0)), .ref (b + 1 + 1)] _
      refine tm_iald (z := 220 * r + p0) (v := σ.2.1 3 (220 * r + p0)) dX12_moveAll_25 (show mT[1]? = some (3, 0, 2860) from rfl) (by omega) (by omega) (by decide) (rfl) ?_
      have g6 := RG.a hR 3 (220 * r + p0)
      refine tm_bipush dX12_moveAll_26 (by decide) ?_
      refine tm_icmp_eq (tgt := 34) dX12_moveAll_28 (by decide) ⟨by omega, by omega⟩ ⟨by decide, by decide⟩ (fun h7 => ?_) (fun h7 => ?_)
      · refine tm_iload_n dX12_moveAll_34 rfl 0 rfl ?_
        refine tm_istore (L' := [(4, .int (iI p0)), (3, .int (iI p0)), (2, .int (iI w)), (0, .ref b), (1, .int (iI r))]) dX12_moveAll_35 (by decide) rfl ?_
        refine tm_aload_n dX12_moveAll_37 rfl 3 rfl ?_
        refine tm_get (k := 9) (v := .ref (b + 1 + 7)) lay_12 dX12_moveAll_38 (by decide) fl12_32 rfl ?_
        refine tm_iload_n dX12_moveAll_41 rfl 4 rfl ?_
        refine tm_iald (z := r) (v := σ0.2.1 9 r) dX12_moveAll_42 (show mT[7]? = some (9, 0, 13) from rfl) (by omega) (by omega) (by decide) (ra_F hF (by decide) (rfl)) ?_
        have g8 := RG.a hR0 9 (r)
        refine tm_iconst dX12_moveAll_43 ?_
        refine tm_isub dX12_moveAll_44 ?_
        refine tm_istore (L' := [(5, .int (iI ((σ0.2.1 9 r) - 1))), (4, .int (iI p0)), (3, .int (iI p0)), (2, .int (iI w)), (0, .ref b), (1, .int (iI r))]) dX12_moveAll_45 (by decide) rfl ?_
        refine tm_sub [0, 1, 2, 3, 4, 5] rfl (l_mv2 (d + 4) (σ := σ) (r := r) (w := w) (p0 := p0) (p := p0) hr hR (by omega) (fun q13 f12 => ?_) _ ((σ0.2.1 9 r) - 1) (by omega) rfl)
        show Tm _ _ 104 b σ [(5, .int (iI q13)), (4, .int (iI p0)), (3, .int (iI p0)), (2, .int (iI w)), (0, .ref b), (1, .int (iI r))] [] _
        refine tm_iload dX12_moveAll_104 1 rfl ?_
        refine tm_istore (L' := [(6, .int (iI p0)), (5, .int (iI q13)), (4, .int (iI p0)), (3, .int (iI p0)), (2, .int (iI w)), (0, .ref b), (1, .int (iI r))]) dX12_moveAll_106 (by decide) rfl ?_
        refine tm_sub [0, 1, 2, 3, 4, 5, 6] rfl (l_mv3 (d) (σ0 := σ) (r := r) (q := q13) (p0 := p0) (F := F) hr hR hit1 hpar1 hnam1 hof1 (by omega) (fun w25 p26 k27 σ28 F18 R19 f20 f21 f22 f23 f24 => ?_) _ (w) (p0) (p0) σ Fr.rfl hR (by omega) (by omega) hok hcd hlex hlm XR.rfl rfl)
        show Tm _ _ 220 b σ28 [(3, .int (iI p0)), (2, .int (iI w25)), (0, .ref b), (1, .int (iI r))] [] _
        refine tm_iinc (q0 := 0) (L' := [(3, .int (iI (p0 + (-1)))), (2, .int (iI w25)), (0, .ref b), (1, .int (iI r))]) dX12_moveAll_220 rfl (by decide) rfl ?_
        refine tm_goto (tgt := 11) dX12_moveAll_223 (by decide) ?_
        exact tm_sub [0, 1, 2, 3] rfl (ih _ (by omega) (w25) (p0 + (-1)) σ28 ((Fr.rfl.trans (Fr.sub hF (by decide) (by decide) (by decide))).trans (Fr.sub F18 (by decide) (by decide) (by decide))) R19 (by omega) f20 f21 f22 f23 (hxr.trans f24) rfl)
      · refine tm_goto (tgt := 220) dX12_moveAll_31 (by decide) ?_
        refine tm_iinc (q0 := 0) (L' := [(3, .int (iI (p0 + (-1)))), (2, .int (iI w)), (0, .ref b), (1, .int (iI r))]) dX12_moveAll_220 rfl (by decide) rfl ?_
        refine tm_goto (tgt := 11) dX12_moveAll_223 (by decide) ?_
        exact tm_sub [0, 1, 2, 3] rfl (ih _ (by omega) (w) (p0 + (-1)) σ (Fr.rfl.trans (Fr.sub hF (by decide) (by decide) (by decide))) hR (by omega) hok hcd hlex hlm hxr rfl)
end
section
theorem dX12_moveAll_0 : decode cX12_moveAll 0 = .ok (.iconst 0, 1) := by decide +kernel
theorem dX12_moveAll_1 : decode cX12_moveAll 1 = .ok (.istore_n 2, 1) := by decide +kernel
theorem dX12_moveAll_2 : decode cX12_moveAll 2 = .ok (.aload_n 0, 1) := by decide +kernel
theorem dX12_moveAll_3 : decode cX12_moveAll 3 = .ok (.getfield 32, 3) := by decide +kernel
theorem dX12_moveAll_6 : decode cX12_moveAll 6 = .ok (.iload_n 1, 1) := by decide +kernel
theorem dX12_moveAll_7 : decode cX12_moveAll 7 = .ok (.iaload, 1) := by decide +kernel
theorem dX12_moveAll_8 : decode cX12_moveAll 8 = .ok (.iconst 1, 1) := by decide +kernel
theorem dX12_moveAll_9 : decode cX12_moveAll 9 = .ok (.isub, 1) := by decide +kernel
theorem dX12_moveAll_10 : decode cX12_moveAll 10 = .ok (.istore_n 3, 1) := by decide +kernel
theorem dX12_moveAll_226 : decode cX12_moveAll 226 = .ok (.iload_n 2, 1) := by decide +kernel
theorem dX12_moveAll_227 : decode cX12_moveAll 227 = .ok (.ireturn, 1) := by decide +kernel
set_option maxHeartbeats 1000000 in
set_option maxRecDepth 20000 in
theorem c_X12_moveAll (d : Nat) {b : Nat} {σ : MS} {r : Int} {F : Int} (hr : 0 ≤ r ∧ r < 6) (hR : RG σ) (hit : ITM σ) (hpar : PAR σ) (hnam : NAM σ) (hok : OKS σ F r) (hof : OKF σ r) (hn : 1 ≤ σ.2.1 9 r) (hcd : CODE σ r) (hlex : LEX σ r) (hlm : LBM σ r) : Tm (d + 6) m_X12_moveAll 0 b σ [(0, .ref b), (1, .int (iI r))] [] (fun ro σ2 => ∃ v : Int, ro = some (.int (iI v)) ∧ (Fr [] [3, 4, 5, 6, 7, 8] [] σ σ2) ∧ (RG σ2) ∧ (XR r σ σ2) ∧ (OKS σ2 F r) ∧ (CODE σ2 r) ∧ (LEX σ2 r) ∧ (LBM σ2 r)) := by
  have q1 := hit r (by omega) (by omega)
  refine tm_iconst dX12_moveAll_0 ?_
  refine tm_istore_n (L' := [(2, .int (iI 0)), (0, .ref b), (1, .int (iI r))]) dX12_moveAll_1 rfl (by decide) rfl ?_
  refine tm_aload_n dX12_moveAll_2 rfl 1 rfl ?_
  refine tm_get (k := 9) (v := .ref (b + 1 + 7)) lay_12 dX12_moveAll_3 (by decide) fl12_32 rfl ?_
  refine tm_iload_n dX12_moveAll_6 rfl 2 rfl ?_
  refine tm_iald (z := r) (v := σ.2.1 9 r) dX12_moveAll_7 (show mT[7]? = some (9, 0, 13) from rfl) (by omega) (by omega) (by decide) (rfl) ?_
  have g1 := RG.a hR 9 (r)
  refine tm_iconst dX12_moveAll_8 ?_
  refine tm_isub dX12_moveAll_9 ?_
  refine tm_istore_n (L' := [(3, .int (iI ((σ.2.1 9 r) - 1))), (2, .int (iI 0)), (0, .ref b), (1, .int (iI r))]) dX12_moveAll_10 rfl (by decide) rfl ?_
  refine tm_sub [0, 1, 2, 3] rfl (l_mv1 (d) (σ0 := σ) (r := r) (F := F) hr hR hit hpar hnam hof (fun w12 p013 σ14 F5 R6 f7 f8 f9 f10 f11 => ?_) _ (0) ((σ.2.1 9 r) - 1) σ Fr.rfl hR (by omega) hok hcd hlex hlm XR.rfl rfl)
  show Tm _ _ 226 b σ14 [(3, .int (iI p013)), (2, .int (iI w12)), (0, .ref b), (1, .int (iI r))] [] _
  refine tm_iload_n dX12_moveAll_226 rfl 1 rfl ?_
  exact tm_iret rfl dX12_moveAll_227 (⟨_, rfl, (Fr.rfl.trans (Fr.sub F5 (by decide) (by decide) (by decide))), R6, f11, f7, f8, f9, f10⟩)
end
section
def fAdd (k d o ak a : Int) (σ : MS) : MS := sS 62 (σ.1 62 + 1) (fArg (2640 + σ.1 62) 0 ak a (fItem (2640 + σ.1 62) k d o σ))
theorem fAdd_fr {k d o ak a : Int} {σ : MS} : Fr [62] [3, 4, 5, 6, 7, 8] [] σ (fAdd k d o ak a σ) := (Fr.trans (fItem_fr.sub (by decide) (by decide) (by decide)) (fArg_fr.sub (by decide) (by decide) (by decide))).S (by decide)
theorem fAdd_n {k d o ak a : Int} {σ : MS} : (fAdd k d o ak a σ).1 62 = σ.1 62 + 1 := rs_eq
theorem fItem_off {x k d o : Int} {σ : MS} : OFF x σ (fItem x k d o σ) := by
  refine ⟨fun y hy => ⟨?_, ?_, ?_, ?_⟩, fun z hz => ⟨?_, ?_⟩, rfl, rfl⟩
  · exact ra_o (by decide) (ra_o (by decide) (ra_o (by decide) (ra_o (by decide) (ra_o (by decide) (ra_o (by decide) (ra_o (by decide) (ra_o (by decide) (ra_o (by decide) (ra_o (by decide) (ra_o (by decide) (ra_ne hy rfl)))))))))))
  · exact ra_o (by decide) (ra_o (by decide) (ra_o (by decide) (ra_o (by decide) (ra_o (by decide) (ra_o (by decide) (ra_o (by decide) (ra_o (by decide) (ra_o (by decide) (ra_o (by decide) (ra_ne hy (ra_o (by decide) rfl)))))))))))
  · exact ra_o (by decide) (ra_o (by decide) (ra_o (by decide) (ra_o (by decide) (ra_o (by decide) (ra_o (by decide) (ra_o (by decide) (ra_o (by decide) (ra_o (by decide) (ra_ne hy (ra_o (by decide) (ra_o (by decide) rfl)))))))))))
  · exact ra_o (by decide) (ra_o (by decide) (ra_o (by decide) (ra_o (by decide) (ra_o (by decide) (ra_o (by decide) (ra_o (by decide) (ra_o (by decide) (ra_ne hy (ra_o (by decide) (ra_o (by decide) (ra_o (by decide) rfl)))))))))))
  · exact ra_o (by decide) (ra_ne (by omega) (ra_o (by decide) (ra_ne (by omega) (ra_o (by decide) (ra_ne (by omega) (ra_o (by decide) (ra_ne (by omega) (ra_o (by decide) (ra_o (by decide) (ra_o (by decide) (ra_o (by decide) rfl)))))))))))
  · exact ra_ne (by omega) (ra_o (by decide) (ra_ne (by omega) (ra_o (by decide) (ra_ne (by omega) (ra_o (by decide) (ra_ne (by omega) (ra_o (by decide) (ra_o (by decide) (ra_o (by decide) (ra_o (by decide) (ra_o (by decide) rfl)))))))))))
theorem OFF.S {x : Int} {k : Nat} {v : Int} {σ τ : MS} (h : OFF x σ τ) : OFF x σ (sS k v τ) := h
theorem fAdd_off {k d o ak a : Int} {σ : MS} : OFF (2640 + σ.1 62) σ (fAdd k d o ak a σ) := (fItem_off.trans (OFF.arg (by decide) (by decide))).S
theorem fItem_at {x k d o : Int} {σ : MS} : (fItem x k d o σ).2.1 3 x = k ∧ (fItem x k d o σ).2.1 4 x = d ∧ (fItem x k d o σ).2.1 5 x = o ∧ (fItem x k d o σ).2.1 6 x = 0 ∧ ∀ i, 0 ≤ i → i < 4 → (fItem x k d o σ).2.1 7 (4 * x + i) = 0 := by
  refine ⟨?_, ?_, ?_, ?_, fun i a b => ?_⟩
  · exact ra_o (by decide) (ra_o (by decide) (ra_o (by decide) (ra_o (by decide) (ra_o (by decide) (ra_o (by decide) (ra_o (by decide) (ra_o (by decide) (ra_o (by decide) (ra_o (by decide) (ra_o (by decide) ra_eq))))))))))
  · exact ra_o (by decide) (ra_o (by decide) (ra_o (by decide) (ra_o (by decide) (ra_o (by decide) (ra_o (by decide) (ra_o (by decide) (ra_o (by decide) (ra_o (by decide) (ra_o (by decide) ra_eq)))))))))
  · exact ra_o (by decide) (ra_o (by decide) (ra_o (by decide) (ra_o (by decide) (ra_o (by decide) (ra_o (by decide) (ra_o (by decide) (ra_o (by decide) (ra_o (by decide) ra_eq))))))))
  · exact ra_o (by decide) (ra_o (by decide) (ra_o (by decide) (ra_o (by decide) (ra_o (by decide) (ra_o (by decide) (ra_o (by decide) (ra_o (by decide) ra_eq)))))))
  · have c : i = 0 ∨ i = 1 ∨ i = 2 ∨ i = 3 := by omega
    rcases c with e | e | e | e
    · subst e; exact ra_o (by decide) (ra_ne (by omega) (ra_o (by decide) (ra_ne (by omega) (ra_o (by decide) (ra_ne (by omega) (ra_o (by decide) ra_eq))))))
    · subst e; exact ra_o (by decide) (ra_ne (by omega) (ra_o (by decide) (ra_ne (by omega) (ra_o (by decide) ra_eq))))
    · subst e; exact ra_o (by decide) (ra_ne (by omega) (ra_o (by decide) ra_eq))
    · subst e; exact ra_o (by decide) ra_eq
theorem fAdd_at {k d o ak a : Int} {σ : MS} : (fAdd k d o ak a σ).2.1 3 (2640 + σ.1 62) = k ∧ (fAdd k d o ak a σ).2.1 4 (2640 + σ.1 62) = d ∧ (fAdd k d o ak a σ).2.1 5 (2640 + σ.1 62) = o ∧ (fAdd k d o ak a σ).2.1 6 (2640 + σ.1 62) = 0 ∧ (fAdd k d o ak a σ).2.1 7 (4 * (2640 + σ.1 62) + 0) = ak ∧ (fAdd k d o ak a σ).2.1 8 (4 * (2640 + σ.1 62) + 0) = a ∧ ∀ i, 1 ≤ i → i < 4 → (fAdd k d o ak a σ).2.1 7 (4 * (2640 + σ.1 62) + i) = 0 := by
  obtain ⟨h1, h2, h3, h4, h5⟩ := fItem_at (x := 2640 + σ.1 62) (k := k) (d := d) (o := o) (σ := σ)
  exact ⟨ra_o (by decide) (ra_o (by decide) h1), ra_o (by decide) (ra_o (by decide) h2), ra_o (by decide) (ra_o (by decide) h3), ra_o (by decide) (ra_o (by decide) h4), ra_o (by decide) ra_eq, ra_eq, fun i a b => ra_o (by decide) (ra_ne (by omega) (h5 i (by omega) b))⟩
theorem fAdd_oki {k d o ak a F : Int} {σ : MS} (hk : 0 ≤ k ∧ k ≤ 15 ∧ k ≠ 10 ∧ k ≠ 12) (hd : k ≤ 5 → 0 ≤ d ∧ d < 192) (hl : (k = 8 ∨ k = 9 ∨ k = 13) → 0 ≤ d ∧ d < 4096) (hf : (k = 14 ∨ k = 15) → 0 ≤ d ∧ d < F) (ho : k = 11 → 0 ≤ o ∧ o < F) (ha : ak = 0 ∨ ak = 1 ∨ (ak = 2 ∧ k = 0 ∧ 0 ≤ a ∧ a < 192)) : OKI (fAdd k d o ak a σ) F (2640 + σ.1 62) := by
  obtain ⟨h1, h2, h3, h4, h5, h6, h7⟩ := fAdd_at (k := k) (d := d) (o := o) (ak := ak) (a := a) (σ := σ)
  unfold OKI
  rw [h1, h2, h3, h4]
  refine ⟨by omega, fun q => hd (by omega), hl, hf, fun q => by omega, fun q => ho (by omega), fun q => by omega, fun i x y => ?_, fun q => by omega⟩
  by_cases z : i = 0
  · subst z
    rw [h5, h6]
    refine ⟨by omega, fun q => ⟨by omega, ?_⟩⟩
    have k0 : k = 0 := by omega
    unfold nArgs; rw [h1, k0, if_neg (by decide), if_neg (by decide), if_neg (by decide), if_pos (by decide)]; decide
  · rw [h7 i (by omega) y]; exact ⟨by decide, fun q => by omega⟩
def fAddB (n f w a : Int) (σ : MS) : MS := sA 6 (2640 + σ.1 62) w (fAdd 12 n f w a σ)
theorem fAddB_off {n f w a : Int} {σ : MS} : OFF (2640 + σ.1 62) σ (fAddB n f w a σ) := fAdd_off.trans (OFF.A (by decide))
theorem fAddB_oki {n f w a F : Int} {σ : MS} (hn : 0 ≤ n ∧ n < 12) (hf : 0 ≤ f ∧ f < F) (hw : w = 1 ∨ (w = 2 ∧ 0 ≤ a ∧ a < 192)) : OKI (fAddB n f w a σ) F (2640 + σ.1 62) := by
  obtain ⟨h1, h2, h3, h4, h5, h6, h7⟩ := fAdd_at (k := 12) (d := n) (o := f) (ak := w) (a := a) (σ := σ)
  have e1 : (fAddB n f w a σ).2.1 3 (2640 + σ.1 62) = 12 := ra_o (by decide) h1
  have e6 : (fAddB n f w a σ).2.1 6 (2640 + σ.1 62) = w := ra_eq
  have hm : nArgs (fAddB n f w a σ) (2640 + σ.1 62) = 1 := by unfold nArgs; rw [e1, e6, if_neg (by decide), if_pos rfl, if_neg (by omega), if_neg (by omega)]
  unfold OKI
  rw [hm, e1, e6, show (fAddB n f w a σ).2.1 4 (2640 + σ.1 62) = n from ra_o (by decide) h2, show (fAddB n f w a σ).2.1 5 (2640 + σ.1 62) = f from ra_o (by decide) h3]
  refine ⟨by decide, fun q => by omega, fun q => by omega, fun q => by omega, fun q => hn, fun q => hf, fun q => by omega, fun i x y => ?_, fun _ q => (ra_o (by decide) h5).trans q⟩
  by_cases z : i = 0
  · subst z
    rw [show (fAddB n f w a σ).2.1 7 (4 * (2640 + σ.1 62) + 0) = w from ra_o (by decide) h5, show (fAddB n f w a σ).2.1 8 (4 * (2640 + σ.1 62) + 0) = a from ra_o (by decide) h6]
    exact ⟨by omega, fun q => ⟨by omega, by decide⟩⟩
  · rw [show (fAddB n f w a σ).2.1 7 (4 * (2640 + σ.1 62) + i) = 0 from ra_o (by decide) (h7 i (by omega) y)]; exact ⟨by decide, fun q => by omega⟩
def MSG (ρ σ : MS) (FI lf : Int → Int) (q F LB out g0 a i g : Int) : Prop :=
  (∃ fr, SEG a g0 g F (fun j => σ.2.1 3 (2640 + j)) (fun j => σ.2.1 4 (2640 + j)) FI fr lf) ∧ (∀ j, 0 ≤ j → j < a → OKI σ F (2640 + j)) ∧
  (∀ j, 0 ≤ j → j < a → (σ.2.1 3 (2640 + j) = 8 ∨ σ.2.1 3 (2640 + j) = 9 ∨ σ.2.1 3 (2640 + j) = 13) → LB ≤ σ.2.1 4 (2640 + j) ∧ σ.2.1 4 (2640 + j) ≤ out) ∧
  (∀ j, 0 ≤ j → j < a → (σ.2.1 3 (2640 + j) = 8 ∨ σ.2.1 3 (2640 + j) = 9) → σ.2.1 4 (2640 + j) = out ∨ ∃ i2, 0 ≤ i2 ∧ i2 < ρ.2.1 9 q ∧ ρ.2.1 3 (220 * q + i2) = 13 ∧ σ.2.1 4 (2640 + j) = ρ.2.1 4 (220 * q + i2) + LB) ∧
  (∀ i2, 0 ≤ i2 → i2 < i → ρ.2.1 3 (220 * q + i2) = 13 → ∃ j, 0 ≤ j ∧ j < a ∧ σ.2.1 3 (2640 + j) = 13 ∧ σ.2.1 4 (2640 + j) = ρ.2.1 4 (220 * q + i2) + LB) ∧
  (∀ y, y < 2640 → IEQ ρ y σ y) ∧ σ.2.1 11 = ρ.2.1 11
theorem MSG.put {ρ σ τ : MS} {FI lf : Int → Int} {q F LB out g0 a i g g' : Int} (h : MSG ρ σ FI lf q F LB out g0 a i g) (ha : 0 ≤ a) (hg : 0 ≤ g ∧ g < F) (f : OFF (2640 + a) σ τ) (ho : OKI τ F (2640 + a)) (h7 : τ.2.1 3 (2640 + a) ≠ 7 ∧ τ.2.1 3 (2640 + a) ≠ 10)
    (hl : (τ.2.1 3 (2640 + a) = 8 ∨ τ.2.1 3 (2640 + a) = 9 ∨ τ.2.1 3 (2640 + a) = 13) → lf (τ.2.1 4 (2640 + a)) = g ∧ LB ≤ τ.2.1 4 (2640 + a) ∧ τ.2.1 4 (2640 + a) ≤ out)
    (hj : (τ.2.1 3 (2640 + a) = 8 ∨ τ.2.1 3 (2640 + a) = 9) → τ.2.1 4 (2640 + a) = out ∨ ∃ i2, 0 ≤ i2 ∧ i2 < ρ.2.1 9 q ∧ ρ.2.1 3 (220 * q + i2) = 13 ∧ τ.2.1 4 (2640 + a) = ρ.2.1 4 (220 * q + i2) + LB)
    (hx : τ.2.1 3 (2640 + a) ≠ 8 → (τ.2.1 3 (2640 + a) = 14 → FI (τ.2.1 4 (2640 + a)) = g ∧ g' = τ.2.1 4 (2640 + a) ∧ 1 ≤ τ.2.1 4 (2640 + a)) ∧ (τ.2.1 3 (2640 + a) = 15 → τ.2.1 4 (2640 + a) = g ∧ 1 ≤ τ.2.1 4 (2640 + a) ∧ g' = FI (τ.2.1 4 (2640 + a))) ∧ (τ.2.1 3 (2640 + a) ≠ 14 → τ.2.1 3 (2640 + a) ≠ 15 → g' = g)) : MSG ρ τ FI lf q F LB out g0 (a + 1) i g' := by
  obtain ⟨⟨fr, s⟩, m2, m3, m4, m5, m6, m7⟩ := h
  have e : ∀ j, 0 ≤ j → j < a → IEQ σ (2640 + j) τ (2640 + j) := fun j x y => f.ieq (by omega)
  refine ⟨s.add (g' := g') (K' := fun j => τ.2.1 3 (2640 + j)) (D' := fun j => τ.2.1 4 (2640 + j)) ha hg (fun j x y => ⟨(e j x y).1, (e j x y).2.1⟩) h7.1 h7.2 (fun w => (hl w).1) hx, fun j x y => ?_, fun j x y => ?_, fun j x y => ?_, fun i2 x y w => ?_, fun y hy => (m6 y hy).trans (f.ieq (by omega)), f.2.2.2.trans m7⟩
  · by_cases z : j = a
    · subst z; exact ho
    · exact (e j x (by omega)).oki f.2.2.2 (m2 j x (by omega))
  · by_cases z : j = a
    · subst z; exact fun w => (hl w).2
    · rw [(e j x (by omega)).1, (e j x (by omega)).2.1]; exact m3 j x (by omega)
  · by_cases z : j = a
    · subst z; exact hj
    · rw [(e j x (by omega)).1, (e j x (by omega)).2.1]; exact m4 j x (by omega)
  · obtain ⟨j, j0, j1, j2, j3⟩ := m5 i2 x y w
    exact ⟨j, j0, by omega, by rw [(e j j0 j1).1]; exact j2, by rw [(e j j0 j1).2.1]; exact j3⟩
theorem MSG.neu {ρ σ τ : MS} {FI lf : Int → Int} {q F LB out g0 a i g : Int} (h : MSG ρ σ FI lf q F LB out g0 a i g) (ha : 0 ≤ a) (hg : 0 ≤ g ∧ g < F) (f : OFF (2640 + a) σ τ) (ho : OKI τ F (2640 + a)) (hk : τ.2.1 3 (2640 + a) ≤ 6 ∨ τ.2.1 3 (2640 + a) = 11 ∨ τ.2.1 3 (2640 + a) = 12) : MSG ρ τ FI lf q F LB out g0 (a + 1) i g :=
  h.put ha hg f ho (by omega) (fun w => by omega) (fun w => by omega) (fun _ => ⟨fun w => by omega, fun w => by omega, fun _ _ => rfl⟩)
theorem MSG.fr {ss ks js : List Nat} {ρ σ τ : MS} {FI lf : Int → Int} {q F LB out g0 a i g : Int} (h : MSG ρ σ FI lf q F LB out g0 a i g) (f : Fr ss ks js σ τ) (hk : ∀ k ∈ [3, 4, 5, 6, 7, 8, 9, 11], k ∉ ks) : MSG ρ τ FI lf q F LB out g0 a i g := by
  obtain ⟨⟨fr, s⟩, m2, m3, m4, m5, m6, m7⟩ := h
  have e3 : τ.2.1 3 = σ.2.1 3 := f.q hk (k := 3) (by decide)
  have e4 : τ.2.1 4 = σ.2.1 4 := f.q hk (k := 4) (by decide)
  have e11 : τ.2.1 11 = σ.2.1 11 := f.q hk (k := 11) (by decide)
  have sub : ∀ k ∈ [3, 4, 5, 6, 7, 8], k ∉ ks := fun k q => hk k ((by decide : ∀ k ∈ [3, 4, 5, 6, 7, 8], k ∈ [3, 4, 5, 6, 7, 8, 9, 11]) k q)
  refine ⟨⟨fr, ?_⟩, fun j x y => ?_, fun j x y => ?_, fun j x y => ?_, fun i2 x y w => ?_, fun y hy => (m6 y hy).trans (IEQ.fr f sub), e11.trans m7⟩
  · rw [e3, e4]; exact s
  · exact (IEQ.fr f sub).oki e11 (m2 j x y)
  · rw [e3, e4]; exact m3 j x y
  · rw [e3, e4]; exact m4 j x y
  · rw [e3, e4]; exact m5 i2 x y w
theorem MSG.adv {ρ σ : MS} {FI lf : Int → Int} {q F LB out g0 a i g : Int} (h : MSG ρ σ FI lf q F LB out g0 a i g) (hi : ρ.2.1 3 (220 * q + i) = 13 → ∃ j, 0 ≤ j ∧ j < a ∧ σ.2.1 3 (2640 + j) = 13 ∧ σ.2.1 4 (2640 + j) = ρ.2.1 4 (220 * q + i) + LB) : MSG ρ σ FI lf q F LB out g0 a (i + 1) g := by
  obtain ⟨s, m2, m3, m4, m5, m6, m7⟩ := h
  refine ⟨s, m2, m3, m4, fun i2 x y w => ?_, m6, m7⟩
  by_cases z : i2 = i
  · subst z; exact hi w
  · exact m5 i2 x (by omega) w
def SHI (ρ : MS) (x : Int) (τ : MS) (y base : Int) : Prop := τ.2.1 6 y = ρ.2.1 6 x ∧ ∀ j, 0 ≤ j → j < 4 → τ.2.1 7 (4 * y + j) = ρ.2.1 7 (4 * x + j) ∧ τ.2.1 8 (4 * y + j) = ρ.2.1 8 (4 * x + j) + (if ρ.2.1 7 (4 * x + j) = 2 then base else 0)
theorem shi_oki {ρ τ : MS} {x y base m F0 F : Int} (ho : OKI ρ F0 x) (h10 : ρ.2.1 3 x ≠ 10) (hs : SHI ρ x τ y base) (h11 : τ.2.1 11 = ρ.2.1 11) (hk : (τ.2.1 3 y = ρ.2.1 3 x ∧ ρ.2.1 3 x ≠ 7) ∨ (ρ.2.1 3 x = 7 ∧ τ.2.1 3 y = 0)) (hm : ∀ i, 0 ≤ i → i < nArgs ρ x → ρ.2.1 7 (4 * x + i) = 2 → ρ.2.1 8 (4 * x + i) < m) (hb : 0 ≤ base ∧ base + m ≤ 192)
    (hd : τ.2.1 3 y ≤ 5 → 0 ≤ τ.2.1 4 y ∧ τ.2.1 4 y < 192) (hl : (τ.2.1 3 y = 8 ∨ τ.2.1 3 y = 9 ∨ τ.2.1 3 y = 13) → 0 ≤ τ.2.1 4 y ∧ τ.2.1 4 y < 4096) (hf : (τ.2.1 3 y = 14 ∨ τ.2.1 3 y = 15) → 0 ≤ τ.2.1 4 y ∧ τ.2.1 4 y < F) (h12 : τ.2.1 3 y = 12 → τ.2.1 4 y = ρ.2.1 4 x) (ho5 : (τ.2.1 3 y = 11 ∨ τ.2.1 3 y = 12) → 0 ≤ τ.2.1 5 y ∧ τ.2.1 5 y < F) : OKI τ F y := by
  have k1 : (0 ≤ τ.2.1 3 y ∧ τ.2.1 3 y ≤ 15) ∧ τ.2.1 3 y ≠ 10 ∧ (τ.2.1 3 y = 12 → ρ.2.1 3 x = 12) := by
    have a := ho.1
    clear ho hd hl hf h12 ho5 hm hs
    omega
  have o5 := ho.2.2.2.2.1
  have o8 := ho.2.2.2.2.2.2.2.1
  have o9 := ho.2.2.2.2.2.2.2.2
  obtain ⟨s6, sa⟩ := hs
  have hn : nArgs τ y = nArgs ρ x := by
    unfold nArgs
    rcases hk with ⟨e, _⟩ | ⟨e, e2⟩
    · rw [e, s6, if_neg h10, if_neg h10]
    · rw [e, e2]; rfl
  unfold OKI
  rw [hn]
  refine ⟨k1.1, fun w => hd (w.elim id (fun w => absurd w k1.2.1)), hl, hf, fun w => ?_, ho5, fun w => absurd w k1.2.1, fun i a b => ?_, fun w w2 => ?_⟩
  · rw [h12 w]; exact o5 (k1.2.2 w)
  · obtain ⟨e7, e8⟩ := sa i a b
    have q := o8 i a b
    rw [e7]
    refine ⟨q.1, fun w => ?_⟩
    rw [e8, if_pos w]
    have q2 := q.2 w
    have q3 := hm i a q2.2 w
    have q4 := q2.1
    refine ⟨?_, q2.2⟩
    clear hd hl hf h12 ho5 hm o5 o8 o9 q q2 hk k1 ho
    omega
  · rw [(sa 0 (by decide) (by decide)).1]; rw [s6] at w2; exact o9 (k1.2.2 w) w2
def MQQ (ρ : MS) (q F LB out g0 : Int) (FI lf frq lfq : Int → Int) : Prop :=
  CW (ρ.2.1 9 q) (ρ.2.1 14 q) (ρ.1 10) (iK ρ q) (iD ρ q) (iO ρ q) (iF ρ q) frq lfq ∧ LEX ρ q ∧ (∀ l, l ≠ out → lf l = F + lfq (l - LB)) ∧ lf out = F ∧ FI F = g0 ∧ (∀ j, 1 ≤ j → FI (j + F) = ρ.2.1 16 (12 * q + j) + F) ∧
  (∀ k, 0 ≤ k → k < ρ.2.1 9 q → (ρ.2.1 3 (220 * q + k) = 8 ∨ ρ.2.1 3 (220 * q + k) = 9 ∨ ρ.2.1 3 (220 * q + k) = 13) → 0 ≤ ρ.2.1 4 (220 * q + k) ∧ ρ.2.1 4 (220 * q + k) + LB < out) ∧ 1 ≤ F ∧ 1 ≤ ρ.2.1 9 q ∧ 1 ≤ ρ.2.1 14 q
def Gq (ρ : MS) (q F : Int) (frq : Int → Int) (i : Int) : Int := if i < ρ.2.1 9 q then F + frq i else F
theorem Gq_rng {ρ : MS} {q F LB out g0 i : Int} {FI lf frq lfq : Int → Int} (h : MQQ ρ q F LB out g0 FI lf frq lfq) (hi : 0 ≤ i) : 0 ≤ Gq ρ q F frq i ∧ Gq ρ q F frq i < F + ρ.2.1 14 q := by
  obtain ⟨c, _, _, _, _, _, _, h1, h2, h3⟩ := h
  unfold Gq
  split
  · have := c.2.1 i hi (by assumption); omega
  · omega
theorem melt_item {ρ σ τ : MS} {q F LB out g0 a i : Int} {FI lf frq lfq : Int → Int} (m : MQQ ρ q F LB out g0 FI lf frq lfq) (h : MSG ρ σ FI lf q (F + ρ.2.1 14 q) LB out g0 a i (Gq ρ q F frq i)) (ha : 0 ≤ a) (hi : 0 ≤ i ∧ i < ρ.2.1 9 q) (f : OFF (2640 + a) σ τ) (ho : OKI τ (F + ρ.2.1 14 q) (2640 + a))
    (hk : τ.2.1 3 (2640 + a) = ρ.2.1 3 (220 * q + i)) (h7 : ρ.2.1 3 (220 * q + i) ≠ 7 ∧ ρ.2.1 3 (220 * q + i) ≠ 10) (hd : (ρ.2.1 3 (220 * q + i) = 8 ∨ ρ.2.1 3 (220 * q + i) = 9 ∨ ρ.2.1 3 (220 * q + i) = 13) → τ.2.1 4 (2640 + a) = ρ.2.1 4 (220 * q + i) + LB) (hf : (ρ.2.1 3 (220 * q + i) = 14 ∨ ρ.2.1 3 (220 * q + i) = 15) → τ.2.1 4 (2640 + a) = ρ.2.1 4 (220 * q + i) + F) :
    MSG ρ τ FI lf q (F + ρ.2.1 14 q) LB out g0 (a + 1) (i + 1) (Gq ρ q F frq (i + 1)) := by
  have gr := Gq_rng m hi.1
  obtain ⟨c, lx, m1, m2, m3, m4, m5, m6, m7, m8⟩ := m
  have gi : Gq ρ q F frq i = F + frq i := if_pos hi.2
  have c4 := c.2.2.2.1 i hi.1 hi.2
  have c3 := c.2.2.1 i hi.1 hi.2
  simp only [iK, iD, iF] at c3 c4
  refine MSG.adv (h.put ha gr f ho (by rw [hk]; exact h7) (fun w => ?_) (fun w => ?_) (fun w => ?_)) (fun w => ⟨a, ha, by omega, by rw [hk]; exact w, hd (by omega)⟩)
  · rw [hk] at w
    have e := hd w
    have l := m5 i hi.1 hi.2 w
    rw [e, m1 _ (by omega), gi, show ρ.2.1 4 (220 * q + i) + LB - LB = ρ.2.1 4 (220 * q + i) by omega, c4.1 w]
    exact ⟨rfl, by omega, by omega⟩
  · rw [hk] at w
    obtain ⟨j, j0, j1, j2, j3⟩ := lx i hi.1 hi.2 w
    exact Or.inr ⟨j, j0, j1, j2, by rw [hd (by omega), j3]⟩
  · rw [hk] at w ⊢
    have f3 := c3 h7.1 w
    have gn : Gq ρ q F frq (i + 1) = F + frq (i + 1) := if_pos f3.1
    rw [gi, gn]
    refine ⟨fun e => ?_, fun e => ?_, fun e1 e2 => ?_⟩
    · have z := f3.2.1 e
      rw [hf (Or.inl e), m4 _ z.2.2, z.1, z.2.1]
      exact ⟨by omega, by omega, by omega⟩
    · have z := f3.2.2.1 e
      rw [hf (Or.inr e), m4 _ z.2.1, ← z.2.2, ← z.1]
      exact ⟨by omega, by omega, by omega⟩
    · rw [f3.2.2.2 e1 e2]
theorem melt_ret {ρ σ τ υ : MS} {q F LB out g0 a i : Int} {FI lf frq lfq : Int → Int} (m : MQQ ρ q F LB out g0 FI lf frq lfq) (h : MSG ρ σ FI lf q (F + ρ.2.1 14 q) LB out g0 a i (Gq ρ q F frq i)) (ha : 0 ≤ a) (hi : 0 ≤ i ∧ i < ρ.2.1 9 q) (h7 : ρ.2.1 3 (220 * q + i) = 7) (hl : LB ≤ out)
    (f : OFF (2640 + a) σ τ) (ho : OKI τ (F + ρ.2.1 14 q) (2640 + a)) (hk : τ.2.1 3 (2640 + a) = 0) (f2 : OFF (2640 + (a + 1)) τ υ) (ho2 : OKI υ (F + ρ.2.1 14 q) (2640 + (a + 1))) (hk2 : υ.2.1 3 (2640 + (a + 1)) = 8) (hd2 : υ.2.1 4 (2640 + (a + 1)) = out) :
    MSG ρ υ FI lf q (F + ρ.2.1 14 q) LB out g0 (a + 1 + 1) (i + 1) (Gq ρ q F frq (i + 1)) := by
  have gr := Gq_rng m hi.1
  obtain ⟨c, lx, m1, m2, m3, m4, m5, m6, m7, m8⟩ := m
  have gi : Gq ρ q F frq i = F := by
    have := (c.2.2.2.1 i hi.1 hi.2).2 h7
    unfold Gq; rw [if_pos hi.2, this]; omega
  have h1 := h.neu ha gr f ho (by omega)
  refine MSG.adv (h1.put (g' := Gq ρ q F frq (i + 1)) (by omega) gr f2 ho2 (by omega) (fun w => ?_) (fun w => Or.inl hd2) (fun w => absurd hk2 w)) (fun w => by omega)
  rw [hd2, m2, gi]
  exact ⟨rfl, hl, by omega⟩
theorem melt_end {ρ σ τ υ : MS} {q F LB out g0 a : Int} {FI lf frq lfq : Int → Int} (m : MQQ ρ q F LB out g0 FI lf frq lfq) (h : MSG ρ σ FI lf q (F + ρ.2.1 14 q) LB out g0 a (ρ.2.1 9 q) (Gq ρ q F frq (ρ.2.1 9 q))) (ha : 0 ≤ a) (hl : LB ≤ out) (hg0 : 0 ≤ g0 ∧ g0 < F)
    (f : OFF (2640 + a) σ τ) (ho : OKI τ (F + ρ.2.1 14 q) (2640 + a)) (hk : τ.2.1 3 (2640 + a) = 13) (hd : τ.2.1 4 (2640 + a) = out) (f2 : OFF (2640 + (a + 1)) τ υ) (ho2 : OKI υ (F + ρ.2.1 14 q) (2640 + (a + 1))) (hk2 : υ.2.1 3 (2640 + (a + 1)) = 15) (hd2 : υ.2.1 4 (2640 + (a + 1)) = F) :
    MSG ρ υ FI lf q (F + ρ.2.1 14 q) LB out g0 (a + 1 + 1) (ρ.2.1 9 q) g0 ∧ LX (a + 1 + 1) (fun j => υ.2.1 3 (2640 + j)) (fun j => υ.2.1 4 (2640 + j)) := by
  have gr := Gq_rng (i := ρ.2.1 9 q) m (by have := m.2.2.2.2.2.2.2.2.1; omega)
  obtain ⟨c, lx, m1, m2, m3, m4, m5, m6, m7, m8⟩ := m
  have gi : Gq ρ q F frq (ρ.2.1 9 q) = F := if_neg (by omega)
  rw [gi] at h gr
  have h1 := h.put (g' := F) ha gr f ho (by omega) (fun _ => by rw [hd]; exact ⟨m2, hl, by omega⟩) (fun w => by omega) (fun _ => ⟨fun w => by omega, fun w => by omega, fun _ _ => rfl⟩)
  have h2 := h1.put (g' := g0) (by omega) gr f2 ho2 (by omega) (fun w => by omega) (fun w => by omega) (fun _ => ⟨fun w => by omega, fun _ => ⟨hd2, by omega, by rw [hd2]; exact m3.symm⟩, fun _ w => absurd hk2 w⟩)
  refine ⟨h2, fun k x y e => ?_⟩
  have e13 : υ.2.1 3 (2640 + a) = 13 := by rw [(f2.ieq (y := 2640 + a) (by omega)).1]; exact hk
  have e4 : υ.2.1 4 (2640 + a) = out := by rw [(f2.ieq (y := 2640 + a) (by omega)).2.1]; exact hd
  rcases h2.2.2.2.1 k x y e with w | ⟨i2, w0, w1, w2, w3⟩
  · exact ⟨a, ha, by omega, e13, e4.trans w.symm⟩
  · obtain ⟨j, j0, j1, j2, j3⟩ := h2.2.2.2.2.1 i2 w0 w1 w2
    exact ⟨j, j0, j1, j2, j3.trans w3.symm⟩
theorem CW.fi {n F R : Int} {K D O FI FI2 fr lf : Int → Int} (h : CW n F R K D O FI fr lf) (he : ∀ f, 1 ≤ f → f < F → FI2 f = FI f) : CW n F R K D O FI2 fr lf := by
  obtain ⟨h1, h2, h3, h4, h5⟩ := h
  refine ⟨h1, h2, fun k a b x7 x8 => ?_, h4, h5⟩
  obtain ⟨g1, g2, g3, g4⟩ := h3 k a b x7 x8
  refine ⟨g1, fun e => ?_, fun e => ?_, g4⟩
  · have q := g2 e
    have r := h2 (k + 1) (by omega) g1
    rw [he _ q.2.2 (by omega)]; exact q
  · have q := g3 e
    have r := h2 k a b
    rw [he _ q.2.1 (by omega)]; exact q
def SHU (σ0 σ : MS) (r n a i : Int) : Prop := (∀ j, 0 ≤ j → j ≤ i → IEQ σ0 (220 * r + j) σ (220 * r + j)) ∧ (∀ j, i < j → j < n → IEQ σ0 (220 * r + j) σ (220 * r + (j + (a - 1)))) ∧ (∀ y, 2640 ≤ y → IEQ σ0 y σ y) ∧ XO r σ0 σ
theorem SHU.start {σ : MS} {r n a : Int} : SHU σ σ r n a (n - 1) := ⟨fun _ _ _ => IEQ.rfl, fun j a b => by omega, fun _ _ => IEQ.rfl, XO.rfl⟩
theorem SHU.go {σ0 σ : MS} {r n a i : Int} (h : SHU σ0 σ r n a i) (hr : 0 ≤ r ∧ r < 6) (hi : 0 ≤ i ∧ i < n ∧ n + (a - 1) ≤ 220 ∧ 1 ≤ a) : SHU σ0 (fCopy (220 * r + i) (220 * r + (i + (a - 1))) σ) r n a (i - 1) := by
  obtain ⟨h1, h2, h3, h4⟩ := h
  have o := fCopy_off (f := 220 * r + i) (t := 220 * r + (i + (a - 1))) (σ := σ)
  refine ⟨fun j x y => (h1 j x (by omega)).trans (o.ieq (by omega)), fun j x y => ?_, fun y hy => (h3 y hy).trans (o.ieq (by omega)), h4.trans (o.xo (by omega) (by omega))⟩
  by_cases z : j = i
  · subst z; exact (h1 j (by omega) (by omega)).trans fCopy_ieq
  · exact (h2 j (by omega) y).trans (o.ieq (by omega))
def CPI (σ0 σ : MS) (r k a i : Int) : Prop := (∀ j, 0 ≤ j → j < i → IEQ σ0 (2640 + j) σ (220 * r + (k + j))) ∧ (∀ j, 0 ≤ j → j < 220 → (j < k ∨ k + a ≤ j) → IEQ σ0 (220 * r + j) σ (220 * r + j)) ∧ (∀ y, 2640 ≤ y → IEQ σ0 y σ y) ∧ XO r σ0 σ
theorem CPI.start {σ : MS} {r k a : Int} : CPI σ σ r k a 0 := ⟨fun j a b => by omega, fun _ _ _ _ => IEQ.rfl, fun _ _ => IEQ.rfl, XO.rfl⟩
theorem CPI.go {σ0 σ : MS} {r k a i : Int} (h : CPI σ0 σ r k a i) (hr : 0 ≤ r ∧ r < 6) (hi : 0 ≤ i ∧ i < a ∧ 0 ≤ k ∧ k + a ≤ 220) : CPI σ0 (fCopy (2640 + i) (220 * r + (k + i)) σ) r k a (i + 1) := by
  obtain ⟨h1, h2, h3, h4⟩ := h
  have o := fCopy_off (f := 2640 + i) (t := 220 * r + (k + i)) (σ := σ)
  refine ⟨fun j x y => ?_, fun j x y w => (h2 j x y w).trans (o.ieq (by omega)), fun y hy => (h3 y hy).trans (o.ieq (by omega)), h4.trans (o.xo (by omega) (by omega))⟩
  by_cases z : j = i
  · subst z; exact (h3 _ (by omega)).trans fCopy_ieq
  · exact (h1 j x (by omega)).trans (o.ieq (by omega))
theorem OKI.up {σ : MS} {F G x : Int} (h : OKI σ F x) (hg : F ≤ G) : OKI σ G x := by
  obtain ⟨o1, o2, o3, o4, o5, o6, o7, o8, o9⟩ := h
  exact ⟨o1, o2, o3, fun q => ⟨(o4 q).1, Int.lt_of_lt_of_le (o4 q).2 hg⟩, o5, fun q => ⟨(o6 q).1, Int.lt_of_lt_of_le (o6 q).2 hg⟩, o7, o8, o9⟩
theorem melt_fin {ρ σ1 σ2 σ3 τ : MS} {r q k a F LB out g0 : Int} {FI lf frr lfr : Int → Int} (hr : 0 ≤ r ∧ r < 6) (hk : 0 ≤ k ∧ k < ρ.2.1 9 r) (h10 : ρ.2.1 3 (220 * r + k) = 10) (ha : 1 ≤ a) (hn : ρ.2.1 9 r + (a - 1) ≤ 200)
    (cw : CW (ρ.2.1 9 r) (ρ.2.1 14 r) (ρ.1 10) (iK ρ r) (iD ρ r) (iO ρ r) (iF ρ r) frr lfr) (lx : LEX ρ r) (lm : LBM ρ r) (ok : OKS ρ (ρ.2.1 14 r) r) (hF : F = ρ.2.1 14 r) (hg : g0 = frr k) (hFq : 0 ≤ ρ.2.1 14 q)
    (m : MSG ρ σ1 FI lf q (F + ρ.2.1 14 q) LB out g0 a (ρ.2.1 9 q) g0) (mx : LX a (fun j => σ1.2.1 3 (2640 + j)) (fun j => σ1.2.1 4 (2640 + j)))
    (hlb : ∀ j, 0 ≤ j → j < ρ.2.1 9 r → (ρ.2.1 3 (220 * r + j) = 8 ∨ ρ.2.1 3 (220 * r + j) = 9 ∨ ρ.2.1 3 (220 * r + j) = 13) → ρ.2.1 4 (220 * r + j) < LB) (hout : out + 2 ≤ 121 * (F + ρ.2.1 14 q)) (hFI : ∀ f, 1 ≤ f → f < F → FI f = ρ.2.1 16 (12 * r + f))
    (hit1 : ∀ y, IEQ σ1 y σ2 y) (su : SHU σ2 σ3 r (ρ.2.1 9 r) a k) {σ4 : MS} (cp : CPI σ3 σ4 r k a a) (it : ∀ y, IEQ σ4 y τ y) (t9 : τ.2.1 9 r = ρ.2.1 9 r + (a - 1)) (t14 : τ.2.1 14 r = F + ρ.2.1 14 q) (t10 : τ.1 10 = ρ.1 10) (t11 : τ.2.1 11 = ρ.2.1 11) (t16 : ∀ f, 1 ≤ f → f < F + ρ.2.1 14 q → τ.2.1 16 (12 * r + f) = FI f) :
    CODE τ r ∧ LEX τ r ∧ LBM τ r ∧ OKS τ (F + ρ.2.1 14 q) r ∧ XR r ρ τ := by
  obtain ⟨⟨frA, sg⟩, m2, m3, m4, m5, m6, m7⟩ := m
  obtain ⟨u1, u2, u3, u4⟩ := su
  obtain ⟨c1, c2, c3, c4⟩ := cp
  have k200 : k < 200 := by omega
  have r1 : ∀ i, 0 ≤ i → i < k → IEQ ρ (220 * r + i) τ (220 * r + i) := fun i x y => ((((m6 _ (by omega)).trans (hit1 _)).trans (u1 i x (by omega))).trans (c2 i x (by omega) (Or.inl y))).trans (it _)
  have r2 : ∀ i, 0 ≤ i → i < a → IEQ σ1 (2640 + i) τ (220 * r + (k + i)) := fun i x y => (((hit1 _).trans (u3 _ (by omega))).trans (c1 i x y)).trans (it _)
  have r3 : ∀ i, k < i → i < ρ.2.1 9 r → IEQ ρ (220 * r + i) τ (220 * r + (i + (a - 1))) := fun i x y => ((((m6 _ (by omega)).trans (hit1 _)).trans (u2 i x y)).trans (c2 _ (by omega) (by omega) (Or.inr (by omega)))).trans (it _)
  have from_ : ∀ i, 0 ≤ i → i < τ.2.1 9 r → (∃ j, (0 ≤ j ∧ j < ρ.2.1 9 r) ∧ IEQ ρ (220 * r + j) τ (220 * r + i)) ∨ (∃ j, (0 ≤ j ∧ j < a) ∧ IEQ σ1 (2640 + j) τ (220 * r + i)) := fun i x y => by
    by_cases z : i < k
    · exact Or.inl ⟨i, ⟨x, by omega⟩, r1 i x z⟩
    · by_cases w : i < k + a
      · have := r2 (i - k) (by omega) (by omega)
        rw [show k + (i - k) = i by omega] at this
        exact Or.inr ⟨i - k, ⟨by omega, by omega⟩, this⟩
      · have := r3 (i - (a - 1)) (by omega) (by omega)
        rw [show i - (a - 1) + (a - 1) = i by omega] at this
        exact Or.inl ⟨_, ⟨by omega, by omega⟩, this⟩
  subst hF; subst hg
  have hd : ∀ i, 0 ≤ i → i < ρ.2.1 9 r → (ρ.2.1 3 (220 * r + i) = 14 ∨ ρ.2.1 3 (220 * r + i) = 15) → ρ.2.1 4 (220 * r + i) < ρ.2.1 14 r := fun i x y e => ((ok i x y).2.2.2.1 e).2
  refine ⟨?_, ?_, fun i x y e => ?_, fun i x y => ?_, ?_⟩
  · obtain ⟨fr', lf', c⟩ := cw.splice (F' := ρ.2.1 14 r + ρ.2.1 14 q) (K' := iK τ r) (D' := iD τ r) (O' := iO τ r) hk h10 ha sg (by omega) hFI hd hlb (fun i x y e => (m3 i x y e).1) (fun i x y => ⟨(r1 i x y).1, (r1 i x y).2.1, (r1 i x y).2.2.1⟩) (fun i x y => ⟨(r2 i x y).1, (r2 i x y).2.1⟩) (fun i x y => ⟨(r3 i x y).1, (r3 i x y).2.1, (r3 i x y).2.2.1⟩)
    refine ⟨fr', lf', ?_⟩
    rw [t9, t14, t10]
    exact c.fi (fun f x y => t16 f x y)
  · have := LX.splice (K' := iK τ r) (D' := iD τ r) lx hk h10 ha mx (fun i x y => ⟨(r1 i x y).1, (r1 i x y).2.1⟩) (fun i x y => ⟨(r2 i x y).1, (r2 i x y).2.1⟩) (fun i x y => ⟨(r3 i x y).1, (r3 i x y).2.1⟩)
    unfold LEX
    rw [t9]; exact this
  · rw [t14]
    rcases from_ i x y with ⟨j, ⟨j0, j1⟩, w⟩ | ⟨j, ⟨j0, j1⟩, w⟩
    · rw [w.1] at e; rw [w.2.1]
      have := lm j j0 j1 e
      omega
    · rw [w.1] at e; rw [w.2.1]
      have := m3 j j0 j1 e
      omega
  · rcases from_ i x y with ⟨j, ⟨j0, j1⟩, w⟩ | ⟨j, ⟨j0, j1⟩, w⟩
    · have q := w.oki t11 (ok j j0 j1)
      exact OKI.up q (by omega)
    · exact w.oki (t11.trans m7.symm) (m2 j j0 j1)
  · refine ⟨fun y hy hz => ?_, fun z hz hw => ?_⟩
    · have q := ((((m6 y hz).trans (hit1 y)).trans ⟨(u4.1 y hy).1, (u4.1 y hy).2.1, (u4.1 y hy).2.2.1, (u4.1 y hy).2.2.2, fun i a b => u4.2 _ (by omega)⟩).trans ⟨(c4.1 y hy).1, (c4.1 y hy).2.1, (c4.1 y hy).2.2.1, (c4.1 y hy).2.2.2, fun i a b => c4.2 _ (by omega)⟩).trans (it y)
      exact ⟨q.1, q.2.1, q.2.2.1, q.2.2.2.1⟩
    · have hy : z / 4 < 220 * r ∨ 220 * r + 220 ≤ z / 4 := by omega
      have q := ((((m6 (z / 4) (by omega)).trans (hit1 _)).trans ⟨(u4.1 _ hy).1, (u4.1 _ hy).2.1, (u4.1 _ hy).2.2.1, (u4.1 _ hy).2.2.2, fun i a b => u4.2 _ (by omega)⟩).trans ⟨(c4.1 _ hy).1, (c4.1 _ hy).2.1, (c4.1 _ hy).2.2.1, (c4.1 _ hy).2.2.2, fun i a b => c4.2 _ (by omega)⟩).trans (it _)
      have := q.2.2.2.2 (z % 4) (by omega) (by omega)
      rw [show 4 * (z / 4) + z % 4 = z by omega] at this
      exact this
theorem RG.item {σ : MS} (h : RG σ) {x k d o : Int} (hk : -2147483648 ≤ k ∧ k ≤ 2147483647) (hd : -2147483648 ≤ d ∧ d ≤ 2147483647) (ho : -2147483648 ≤ o ∧ o ≤ 2147483647) : RG (fItem x k d o σ) := (((((((((((h.A hk).A hd).A ho).A (by decide)).A (by decide)).A (by decide)).A (by decide)).A (by decide)).A (by decide)).A (by decide)).A (by decide)).A (by decide)
theorem RG.add {σ : MS} (h : RG σ) {k d o ak a : Int} (hn : -2147483648 ≤ σ.1 62 + 1 ∧ σ.1 62 + 1 ≤ 2147483647) (hk : -2147483648 ≤ k ∧ k ≤ 2147483647) (hd : -2147483648 ≤ d ∧ d ≤ 2147483647) (ho : -2147483648 ≤ o ∧ o ≤ 2147483647) (h1 : -2147483648 ≤ ak ∧ ak ≤ 2147483647) (h2 : -2147483648 ≤ a ∧ a ≤ 2147483647) : RG (fAdd k d o ak a σ) := ((h.item hk hd ho).arg h1 h2).S hn
def MIC (ρ σ σL : MS) (x a base : Int) : Prop := OFF (2640 + a) σ σL ∧ σL.2.1 3 (2640 + a) = ρ.2.1 3 x ∧ σL.2.1 4 (2640 + a) = ρ.2.1 4 x ∧ σL.2.1 5 (2640 + a) = ρ.2.1 5 x ∧ SHI ρ x σL (2640 + a) base ∧ σL.2.1 11 = ρ.2.1 11
theorem MIC.mk {ρ σ σL : MS} {x a base : Int} (hx : x < 2640) (hi : IEQ ρ x σ x) (h11 : σ.2.1 11 = ρ.2.1 11) (hl : OFF (2640 + a) (sS 62 (a + 1) (fCopy x (2640 + a) σ)) σL) (f : Fr [] [8] [] (sS 62 (a + 1) (fCopy x (2640 + a) σ)) σL)
    (hs : ∀ u, 0 ≤ u → u < 4 → σL.2.1 8 (4 * (2640 + a) + u) = (sS 62 (a + 1) (fCopy x (2640 + a) σ)).2.1 8 (4 * (2640 + a) + u) + (if (sS 62 (a + 1) (fCopy x (2640 + a) σ)).2.1 7 (4 * (2640 + a) + u) = 2 then base else 0)) : MIC ρ σ σL x a base := by
  have o := fCopy_off (f := x) (t := 2640 + a) (σ := σ)
  have i := hi.trans (fCopy_ieq (f := x) (t := 2640 + a) (σ := σ))
  refine ⟨o.S.trans hl, ?_, ?_, ?_, ⟨?_, fun u a0 a1 => ⟨?_, ?_⟩⟩, ?_⟩
  · rw [f.2.1 3 (by decide)]; exact i.1
  · rw [f.2.1 4 (by decide)]; exact i.2.1
  · rw [f.2.1 5 (by decide)]; exact i.2.2.1
  · rw [f.2.1 6 (by decide)]; exact i.2.2.2.1
  · rw [f.2.1 7 (by decide)]; exact (i.2.2.2.2 u a0 a1).1
  · have e7 := (i.2.2.2.2 u a0 a1).1
    have e8 := (i.2.2.2.2 u a0 a1).2
    have := hs u a0 a1
    rw [this]
    show (fCopy x (2640 + a) σ).2.1 8 (4 * (2640 + a) + u) + (if (fCopy x (2640 + a) σ).2.1 7 (4 * (2640 + a) + u) = 2 then base else 0) = _
    rw [e7, e8]
  · rw [f.2.1 11 (by decide)]; exact h11
def MIH (ρ σ : MS) (q f base lb to out g0 a i m : Int) (FI lf frq lfq : Int → Int) : Prop :=
  (MQQ ρ q f lb out g0 FI lf frq lfq) ∧ (MSG ρ σ FI lf q (f + ρ.2.1 14 q) lb out g0 a i (Gq ρ q f frq i)) ∧ (0 ≤ a) ∧ (0 ≤ i ∧ i < ρ.2.1 9 q) ∧ (OKI ρ (ρ.2.1 14 q) (220 * q + i)) ∧ (ρ.2.1 3 (220 * q + i) ≠ 10) ∧ (∀ j, 0 ≤ j → j < nArgs ρ (220 * q + i) → ρ.2.1 7 (4 * (220 * q + i) + j) = 2 → ρ.2.1 8 (4 * (220 * q + i) + j) < m) ∧ (ρ.2.1 3 (220 * q + i) ≤ 5 → ρ.2.1 4 (220 * q + i) < m) ∧ (0 ≤ base ∧ base + m ≤ 192) ∧ (0 ≤ to ∧ to < 192) ∧ (0 ≤ lb ∧ lb ≤ out ∧ out < 4096) ∧ (1 ≤ f)
theorem MIH.mq {ρ σ : MS} {q f base lb to out g0 a i m : Int} {FI lf frq lfq : Int → Int} (h : MIH ρ σ q f base lb to out g0 a i m FI lf frq lfq) : MQQ ρ q f lb out g0 FI lf frq lfq := h.1
theorem MIH.ms {ρ σ : MS} {q f base lb to out g0 a i m : Int} {FI lf frq lfq : Int → Int} (h : MIH ρ σ q f base lb to out g0 a i m FI lf frq lfq) : MSG ρ σ FI lf q (f + ρ.2.1 14 q) lb out g0 a i (Gq ρ q f frq i) := h.2.1
theorem MIH.ha {ρ σ : MS} {q f base lb to out g0 a i m : Int} {FI lf frq lfq : Int → Int} (h : MIH ρ σ q f base lb to out g0 a i m FI lf frq lfq) : 0 ≤ a := h.2.2.1
theorem MIH.hi {ρ σ : MS} {q f base lb to out g0 a i m : Int} {FI lf frq lfq : Int → Int} (h : MIH ρ σ q f base lb to out g0 a i m FI lf frq lfq) : 0 ≤ i ∧ i < ρ.2.1 9 q := h.2.2.2.1
theorem MIH.ok {ρ σ : MS} {q f base lb to out g0 a i m : Int} {FI lf frq lfq : Int → Int} (h : MIH ρ σ q f base lb to out g0 a i m FI lf frq lfq) : OKI ρ (ρ.2.1 14 q) (220 * q + i) := h.2.2.2.2.1
theorem MIH.h10 {ρ σ : MS} {q f base lb to out g0 a i m : Int} {FI lf frq lfq : Int → Int} (h : MIH ρ σ q f base lb to out g0 a i m FI lf frq lfq) : ρ.2.1 3 (220 * q + i) ≠ 10 := h.2.2.2.2.2.1
theorem MIH.hm {ρ σ : MS} {q f base lb to out g0 a i m : Int} {FI lf frq lfq : Int → Int} (h : MIH ρ σ q f base lb to out g0 a i m FI lf frq lfq) : ∀ j, 0 ≤ j → j < nArgs ρ (220 * q + i) → ρ.2.1 7 (4 * (220 * q + i) + j) = 2 → ρ.2.1 8 (4 * (220 * q + i) + j) < m := h.2.2.2.2.2.2.1
theorem MIH.hd {ρ σ : MS} {q f base lb to out g0 a i m : Int} {FI lf frq lfq : Int → Int} (h : MIH ρ σ q f base lb to out g0 a i m FI lf frq lfq) : ρ.2.1 3 (220 * q + i) ≤ 5 → ρ.2.1 4 (220 * q + i) < m := h.2.2.2.2.2.2.2.1
theorem MIH.hb {ρ σ : MS} {q f base lb to out g0 a i m : Int} {FI lf frq lfq : Int → Int} (h : MIH ρ σ q f base lb to out g0 a i m FI lf frq lfq) : 0 ≤ base ∧ base + m ≤ 192 := h.2.2.2.2.2.2.2.2.1
theorem MIH.ht {ρ σ : MS} {q f base lb to out g0 a i m : Int} {FI lf frq lfq : Int → Int} (h : MIH ρ σ q f base lb to out g0 a i m FI lf frq lfq) : 0 ≤ to ∧ to < 192 := h.2.2.2.2.2.2.2.2.2.1
theorem MIH.hl {ρ σ : MS} {q f base lb to out g0 a i m : Int} {FI lf frq lfq : Int → Int} (h : MIH ρ σ q f base lb to out g0 a i m FI lf frq lfq) : 0 ≤ lb ∧ lb ≤ out ∧ out < 4096 := h.2.2.2.2.2.2.2.2.2.2.1
theorem MIH.hf {ρ σ : MS} {q f base lb to out g0 a i m : Int} {FI lf frq lfq : Int → Int} (h : MIH ρ σ q f base lb to out g0 a i m FI lf frq lfq) : 1 ≤ f := h.2.2.2.2.2.2.2.2.2.2.2
theorem mi_lab {ρ σ σL : MS} {q f base lb to out g0 a i m : Int} {FI lf frq lfq : Int → Int} (h : MIH ρ σ q f base lb to out g0 a i m FI lf frq lfq) (c : MIC ρ σ σL (220 * q + i) a base) (k : ρ.2.1 3 (220 * q + i) = 8 ∨ ρ.2.1 3 (220 * q + i) = 9 ∨ ρ.2.1 3 (220 * q + i) = 13) {v : Int} (hv : v = ρ.2.1 4 (220 * q + i) + lb) : MSG ρ (sA 4 (2640 + a) v σL) FI lf q (f + ρ.2.1 14 q) lb out g0 (a + 1) (i + 1) (Gq ρ q f frq (i + 1)) := by
  obtain ⟨c1, c2, c3, c4, c5, c6⟩ := c
  have l := h.mq.2.2.2.2.2.2.1 i h.hi.1 h.hi.2 k
  have e3 : (sA 4 (2640 + a) v σL).2.1 3 (2640 + a) = ρ.2.1 3 (220 * q + i) := c2
  have e4 : (sA 4 (2640 + a) v σL).2.1 4 (2640 + a) = v := ra_eq
  have hl := h.hl
  refine melt_item h.mq h.ms h.ha h.hi (c1.trans (OFF.A (by decide))) (shi_oki h.ok h.h10 c5 c6 (Or.inl ⟨e3, by omega⟩) h.hm h.hb ?_ ?_ ?_ ?_ ?_) e3 ⟨by omega, h.h10⟩ (fun _ => e4.trans hv) (fun w => by omega)
  · rw [e3]; intro w; omega
  · rw [e4]; intro w; omega
  · rw [e3]; intro w; omega
  · rw [e3]; intro w; omega
  · rw [e3]; intro w; omega
theorem mi_frm {ρ σ σL : MS} {q f base lb to out g0 a i m : Int} {FI lf frq lfq : Int → Int} (h : MIH ρ σ q f base lb to out g0 a i m FI lf frq lfq) (c : MIC ρ σ σL (220 * q + i) a base) (k : ρ.2.1 3 (220 * q + i) = 14 ∨ ρ.2.1 3 (220 * q + i) = 15) {v : Int} (hv : v = ρ.2.1 4 (220 * q + i) + f) : MSG ρ (sA 4 (2640 + a) v σL) FI lf q (f + ρ.2.1 14 q) lb out g0 (a + 1) (i + 1) (Gq ρ q f frq (i + 1)) := by
  obtain ⟨c1, c2, c3, c4, c5, c6⟩ := c
  have l := h.ok.2.2.2.1 k
  have e3 : (sA 4 (2640 + a) v σL).2.1 3 (2640 + a) = ρ.2.1 3 (220 * q + i) := c2
  have e4 : (sA 4 (2640 + a) v σL).2.1 4 (2640 + a) = v := ra_eq
  have hf := h.hf
  refine melt_item h.mq h.ms h.ha h.hi (c1.trans (OFF.A (by decide))) (shi_oki h.ok h.h10 c5 c6 (Or.inl ⟨e3, by omega⟩) h.hm h.hb ?_ ?_ ?_ ?_ ?_) e3 ⟨by omega, h.h10⟩ (fun w => by omega) (fun _ => e4.trans hv)
  · rw [e3]; intro w; omega
  · rw [e3]; intro w; omega
  · rw [e4]; intro w; omega
  · rw [e3]; intro w; omega
  · rw [e3]; intro w; omega
theorem mi_reg {ρ σ σL : MS} {q f base lb to out g0 a i m : Int} {FI lf frq lfq : Int → Int} (h : MIH ρ σ q f base lb to out g0 a i m FI lf frq lfq) (c : MIC ρ σ σL (220 * q + i) a base) (k : ρ.2.1 3 (220 * q + i) ≤ 5) {v : Int} (hv : v = ρ.2.1 4 (220 * q + i) + base) : MSG ρ (sA 4 (2640 + a) v σL) FI lf q (f + ρ.2.1 14 q) lb out g0 (a + 1) (i + 1) (Gq ρ q f frq (i + 1)) := by
  obtain ⟨c1, c2, c3, c4, c5, c6⟩ := c
  have l := (h.ok.2.1 (Or.inl k)).1
  have l2 := h.hd k
  have hb := h.hb
  have k0 := h.ok.1.1
  have e3 : (sA 4 (2640 + a) v σL).2.1 3 (2640 + a) = ρ.2.1 3 (220 * q + i) := c2
  have e4 : (sA 4 (2640 + a) v σL).2.1 4 (2640 + a) = v := ra_eq
  refine melt_item h.mq h.ms h.ha h.hi (c1.trans (OFF.A (by decide))) (shi_oki h.ok h.h10 c5 c6 (Or.inl ⟨e3, by omega⟩) h.hm h.hb ?_ ?_ ?_ ?_ ?_) e3 ⟨by omega, h.h10⟩ (fun w => by omega) (fun w => by omega)
  · rw [e4]; intro w; omega
  · rw [e3]; intro w; omega
  · rw [e3]; intro w; omega
  · rw [e3]; intro w; omega
  · rw [e3]; intro w; omega
theorem mi_of {ρ σ σL : MS} {q f base lb to out g0 a i m : Int} {FI lf frq lfq : Int → Int} (h : MIH ρ σ q f base lb to out g0 a i m FI lf frq lfq) (c : MIC ρ σ σL (220 * q + i) a base) (k : ρ.2.1 3 (220 * q + i) = 11 ∨ ρ.2.1 3 (220 * q + i) = 12) {v : Int} (hv : v = ρ.2.1 5 (220 * q + i) + f) : MSG ρ (sA 5 (2640 + a) v σL) FI lf q (f + ρ.2.1 14 q) lb out g0 (a + 1) (i + 1) (Gq ρ q f frq (i + 1)) := by
  obtain ⟨c1, c2, c3, c4, c5, c6⟩ := c
  have l := h.ok.2.2.2.2.2.1 k
  have hf := h.hf
  have e3 : (sA 5 (2640 + a) v σL).2.1 3 (2640 + a) = ρ.2.1 3 (220 * q + i) := c2
  have e5 : (sA 5 (2640 + a) v σL).2.1 5 (2640 + a) = v := ra_eq
  refine melt_item h.mq h.ms h.ha h.hi (c1.trans (OFF.A (by decide))) (shi_oki h.ok h.h10 c5 c6 (Or.inl ⟨e3, by omega⟩) h.hm h.hb ?_ ?_ ?_ ?_ ?_) e3 ⟨by omega, h.h10⟩ (fun w => by omega) (fun w => by omega)
  · rw [e3]; intro w; omega
  · rw [e3]; intro w; omega
  · rw [e3]; intro w; omega
  · intro _; exact c3
  · rw [e5]; intro w; omega
theorem mi_out {ρ σ σL : MS} {q f base lb to out g0 a i m : Int} {FI lf frq lfq : Int → Int} (h : MIH ρ σ q f base lb to out g0 a i m FI lf frq lfq) (c : MIC ρ σ σL (220 * q + i) a base) (k : ρ.2.1 3 (220 * q + i) = 6) : MSG ρ σL FI lf q (f + ρ.2.1 14 q) lb out g0 (a + 1) (i + 1) (Gq ρ q f frq (i + 1)) := by
  obtain ⟨c1, c2, c3, c4, c5, c6⟩ := c
  refine melt_item h.mq h.ms h.ha h.hi c1 (shi_oki h.ok h.h10 c5 c6 (Or.inl ⟨c2, by omega⟩) h.hm h.hb ?_ ?_ ?_ ?_ ?_) c2 ⟨by omega, h.h10⟩ (fun w => by omega) (fun w => by omega)
  · rw [c2]; intro w; omega
  · rw [c2]; intro w; omega
  · rw [c2]; intro w; omega
  · rw [c2]; intro w; omega
  · rw [c2]; intro w; omega
theorem mi_ret {ρ σ σL : MS} {q f base lb to out g0 a i m : Int} {FI lf frq lfq : Int → Int} (h : MIH ρ σ q f base lb to out g0 a i m FI lf frq lfq) (c : MIC ρ σ σL (220 * q + i) a base) (k : ρ.2.1 3 (220 * q + i) = 7) (ha : σL.1 62 = a + 1) : MSG ρ (fAdd 8 out 0 0 0 (sA 4 (2640 + a) to (sA 3 (2640 + a) 0 σL))) FI lf q (f + ρ.2.1 14 q) lb out g0 (a + 1 + 1) (i + 1) (Gq ρ q f frq (i + 1)) := by
  obtain ⟨c1, c2, c3, c4, c5, c6⟩ := c
  have ht := h.ht
  have hl := h.hl
  have e3 : (sA 4 (2640 + a) to (sA 3 (2640 + a) 0 σL)).2.1 3 (2640 + a) = 0 := ra_o (by decide) ra_eq
  have e4 : (sA 4 (2640 + a) to (sA 3 (2640 + a) 0 σL)).2.1 4 (2640 + a) = to := ra_eq
  have n62 : (sA 4 (2640 + a) to (sA 3 (2640 + a) 0 σL)).1 62 = a + 1 := ha
  have at_ := fAdd_at (k := 8) (d := out) (o := 0) (ak := 0) (a := 0) (σ := sA 4 (2640 + a) to (sA 3 (2640 + a) 0 σL))
  have off := fAdd_off (k := 8) (d := out) (o := 0) (ak := 0) (a := 0) (σ := sA 4 (2640 + a) to (sA 3 (2640 + a) 0 σL))
  have ok2 := fAdd_oki (k := 8) (d := out) (o := 0) (ak := 0) (a := 0) (F := f + ρ.2.1 14 q) (σ := sA 4 (2640 + a) to (sA 3 (2640 + a) 0 σL)) (by decide) (fun w => by omega) (fun w => by omega) (fun w => by omega) (fun w => by omega) (by omega)
  rw [n62] at at_ off ok2
  refine melt_ret h.mq h.ms h.ha h.hi k hl.2.1 ((c1.trans (OFF.A (by decide))).trans (OFF.A (by decide))) (shi_oki (τ := sA 4 (2640 + a) to (sA 3 (2640 + a) 0 σL)) (base := base) h.ok h.h10 c5 c6 (Or.inr ⟨k, e3⟩) h.hm h.hb ?_ ?_ ?_ ?_ ?_) e3 off ok2 at_.1 at_.2.1
  · rw [e4]; intro w; omega
  · rw [e3]; intro w; omega
  · rw [e3]; intro w; omega
  · rw [e3]; intro w; omega
  · rw [e3]; intro w; omega
end
