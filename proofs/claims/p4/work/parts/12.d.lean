/-- register g is read somewhere -/
def LVW (ρ : MS) (r g : Int) : Prop := ∃ j, 0 ≤ j ∧ j < ρ.2.1 9 r ∧ LEAN ρ (220 * r + j) g
/-- what lives is read somewhere -/
def LVR (ρ σ : MS) (r : Int) : Prop := ∀ k g, 0 ≤ k → k ≤ ρ.2.1 9 r → 0 ≤ g → g < 192 → σ.2.1 59 (192 * k + g) = 1 → LVW ρ r g
theorem LVR.put {ρ σ : MS} {r k g : Int} (h : LVR ρ σ r) (hg : 0 ≤ g ∧ g < 192) (hw : LVW ρ r g) : LVR ρ (sA 59 (192 * k + g) 1 σ) r := fun k' g' a b c e q => by
  by_cases z : 192 * k' + g' = 192 * k + g
  · have : g' = g := by omega
    rw [this]; exact hw
  · exact h k' g' a b c e ((ra_ne z rfl).symm.trans q)
theorem LVR.fr {ss ks js : List Nat} {ρ σ τ : MS} {r : Int} (h : LVR ρ σ r) (f : Fr ss ks js σ τ) (hk : 59 ∉ ks) : LVR ρ τ r := fun k g a b c e q => h k g a b c e (by rw [f.2.1 59 hk] at q; exact q)
theorem LVR.by {ρ σ : MS} {r k g : Int} (h : LVR ρ σ r) (ht : TGT σ r) (hF : Fr [] [46, 59] [] ρ σ) (hk : 0 ≤ k ∧ k < ρ.2.1 9 r) (hg : 0 ≤ g ∧ g < 192)
    (q : (¬ (σ.2.1 3 (220 * r + k) = 8 ∨ σ.2.1 3 (220 * r + k) = 7) ∧ σ.2.1 59 (192 * (k + 1) + g) = 1) ∨ ((σ.2.1 3 (220 * r + k) = 8 ∨ σ.2.1 3 (220 * r + k) = 9) ∧ σ.2.1 59 (192 * σ.2.1 46 (σ.2.1 4 (220 * r + k)) + g) = 1)) : LVW ρ r g := by
  have e9 : σ.2.1 9 = ρ.2.1 9 := hF.2.1 9 (by decide)
  rcases q with q | q
  · exact h (k + 1) g (by omega) (by omega) hg.1 hg.2 q.2
  · have t := ht k hk.1 (by rw [e9]; exact hk.2) q.1
    rw [e9] at t
    exact h _ g t.1 (by omega) hg.1 hg.2 q.2
theorem LVW.of {ρ σ : MS} {r k g : Int} (hF : Fr [] [46, 59] [] ρ σ) (hk : 0 ≤ k ∧ k < ρ.2.1 9 r) (q : LEAN σ (220 * r + k) g) : LVW ρ r g := by
  refine ⟨k, hk.1, hk.2, ?_⟩
  obtain ⟨i, i0, i1, i2, i3⟩ := q
  rw [nArgs.fr hF (by decide)] at i1
  rw [hF.2.1 7 (by decide)] at i2
  rw [hF.2.1 8 (by decide)] at i3
  exact ⟨i, i0, i1, i2, i3⟩
theorem LVW.lt {ρ : MS} {r g m : Int} (h : LVW ρ r g) (hr : RGI ρ r m (ρ.2.1 9 r)) : g < m := by
  obtain ⟨j, j0, j1, i, i0, i1, i2, i3⟩ := h
  rw [← i3]; exact (hr j j0 j1).2 i i0 i1 i2
/-- jumps lead to their label -/
def TGD (σ : MS) (r : Int) : Prop := ∀ k, 0 ≤ k → k < σ.2.1 9 r → (σ.2.1 3 (220 * r + k) = 8 ∨ σ.2.1 3 (220 * r + k) = 9) → (0 ≤ σ.2.1 46 (σ.2.1 4 (220 * r + k)) ∧ σ.2.1 46 (σ.2.1 4 (220 * r + k)) < σ.2.1 9 r) ∧ σ.2.1 3 (220 * r + σ.2.1 46 (σ.2.1 4 (220 * r + k))) = 13 ∧ σ.2.1 4 (220 * r + σ.2.1 46 (σ.2.1 4 (220 * r + k))) = σ.2.1 4 (220 * r + k)
theorem TGD.fr {ss ks js : List Nat} {σ τ : MS} {r : Int} (h : TGD σ r) (f : Fr ss ks js σ τ) (hk : ∀ k ∈ [3, 4, 9, 46], k ∉ ks) : TGD τ r := by
  unfold TGD
  rw [f.q hk (k := 3) (by decide), f.q hk (k := 4) (by decide), f.q hk (k := 9) (by decide), f.q hk (k := 46) (by decide)]
  exact h
theorem TGD.tgt {σ : MS} {r : Int} (h : TGD σ r) : TGT σ r := fun k a b c => by
  have := h k a b c
  exact ⟨this.1.1, this.1.2, this.2.1⟩
theorem LEX.tgd {σ τ : MS} {r : Int} (h : LEX σ r) (f : LFN σ τ r (σ.2.1 9 r)) (g : Fr [] [46] [] σ τ) : TGD τ r := fun k a b c => by
  rw [g.2.1 9 (by decide)] at b
  rw [g.2.1 3 (by decide)] at c
  rw [g.2.1 3 (by decide), g.2.1 4 (by decide), g.2.1 9 (by decide)]
  obtain ⟨j, j0, j1, j2, j3⟩ := h k a b c
  have := f j j0 j1 j2
  rw [j3] at this
  exact ⟨⟨this.1, this.2.1⟩, this.2.2⟩
/-- what isn't reached goes out: at item k, t of them kept -/
def DLP (σ0 σ : MS) (r F k t : Int) : Prop := CMP σ0 σ r F k t (fun i => σ0.2.1 47 i = 0) ∧ (∀ j, k ≤ j → j < 220 → IEQ σ0 (220 * r + j) σ (220 * r + j)) ∧ XO r σ0 σ ∧ σ.2.1 11 = σ0.2.1 11
theorem DLP.start {σ : MS} {r F : Int} : DLP σ σ r F 0 0 := ⟨CMP.start, fun _ _ _ => IEQ.rfl, XO.rfl, rfl⟩
theorem DLP.keep {σ0 σ : MS} {r F k t : Int} (h : DLP σ0 σ r F k t) (hk : 0 ≤ k ∧ k < 220 ∧ 0 ≤ t ∧ t ≤ k) (ho : OKI σ0 F (220 * r + k)) (h1 : σ0.2.1 47 k ≠ 0) : DLP σ0 (fCopy (220 * r + k) (220 * r + t) σ) r F (k + 1) (t + 1) := by
  obtain ⟨c, g2, g3, g4⟩ := h
  have i := fCopy_ieq (f := 220 * r + k) (t := 220 * r + t) (σ := σ)
  have o := fCopy_off (f := 220 * r + k) (t := 220 * r + t) (σ := σ)
  have q := g2 k (by omega) hk.2.1
  exact ⟨c.keep ⟨hk.1, hk.2.2.1⟩ (fun j a b => o.ieq (by omega)) o.2.2.2 h1 (Or.inl (i.1.trans q.1)) (i.2.1.trans q.2.1) (i.2.2.1.trans q.2.2.1) (i.oki o.2.2.2 (q.oki g4 ho)), fun j a b => (g2 j (by omega) b).trans (o.ieq (by omega)), g3.trans (o.xo hk.2.2.1 (by omega)), o.2.2.2.trans g4⟩
theorem DLP.skip {σ0 σ : MS} {r F k t : Int} (h : DLP σ0 σ r F k t) (h1 : σ0.2.1 47 k = 0) : DLP σ0 σ r F (k + 1) t := by
  obtain ⟨c, g2, g3, g4⟩ := h
  exact ⟨c.skip (fun j a b => IEQ.rfl) rfl h1 (fun i a b => Iff.rfl), fun j a b => g2 j (by omega) b, g3, g4⟩
theorem DLP.fin {σ0 σ : MS} {r F n t : Int} (h : DLP σ0 σ r F n t) (hn : n = σ0.2.1 9 r ∧ 1 ≤ n) (f : Fr [] [3, 4, 5, 6, 7, 8] [] σ0 σ) (hc : CODE σ0 r) (ht : TGD σ0 r) (hb : LBM σ0 r) (b47 : BO 47 σ0) (h0 : σ0.2.1 47 0 = 1) (hm : MNR σ0 r n) (hcl : CLO σ0 r n) :
    CODE (sA 9 r t σ) r ∧ 1 ≤ t ∧ LEX (sA 9 r t σ) r ∧ LBM (sA 9 r t σ) r ∧ OKS (sA 9 r t σ) F r := by
  obtain ⟨c, g2, g3, g4⟩ := h
  have e14 : (sA 9 r t σ).2.1 14 = σ0.2.1 14 := f.2.1 14 (by decide)
  have e16 : (sA 9 r t σ).2.1 16 = σ0.2.1 16 := f.2.1 16 (by decide)
  have e10 : (sA 9 r t σ).1 10 = σ0.1 10 := f.1 10 (by decide)
  have on : ∀ i, ¬ σ0.2.1 47 i = 0 → σ0.2.1 47 i = 1 := fun i q => by have := b47 i; omega
  have cc := c.code (τ := sA 9 r t σ) hc hn (Or.inr ⟨by omega, fun i a b q => by
      by_cases z : σ0.2.1 47 i = 0
      · exact Or.inl z
      · by_cases y : σ0.2.1 3 (220 * r + i) = 8 ∨ σ0.2.1 3 (220 * r + i) = 7
        · exact Or.inr (by simp only [iK]; omega)
        · have := (hcl i a (by omega) (on i z)).1 y; omega⟩) (fun j k j0 jk kn ej ek be sk => by
      have go : ∀ m : Nat, ∀ i, i = k - m → j ≤ i → σ0.2.1 47 i = 1 := fun m => by
        induction m with
        | zero => intro i e _; rw [e, show k - ((0 : Nat) : Int) = k by omega]; exact on k sk
        | succ m ih =>
          intro i e ji
          have up := ih (i + 1) (by omega) (by omega)
          rcases hm (i + 1) (by omega) (by omega) up with q | q
          · exfalso
            by_cases z : i + 1 = k
            · rw [z] at q; omega
            · have := be (i + 1) (by omega) (by omega); omega
          · rw [show i + 1 - 1 = i by omega] at q; exact q.1
      have := go (k - j).toNat j (by omega) (by omega)
      omega) ra_eq (by rw [e14]) e10 e16 rfl rfl rfl
  refine ⟨cc.1, cc.2, c.lex (fun k a b sk e => ?_) ra_eq rfl rfl, c.lbm hb hn.1 ra_eq (by rw [e14]) rfl rfl, c.oks ra_eq (fun F x q => ?_)⟩
  · have t := ht k a (by omega) e
    have := (hcl k a b (on k sk)).2 e
    exact ⟨_, t.1.1, by omega, t.2.1, t.2.2, by omega⟩
  · exact (IEQ.fr ((Fr.rfl (ss := []) (ks := [9]) (js := [])).A (by decide)) (by decide)).oki rfl q
/-- one neutral item goes out -/
theorem out_fin {σ τ : MS} {r F k : Int} (hk : 0 ≤ k ∧ k < σ.2.1 9 r) (h5 : σ.2.1 3 (220 * r + k) ≤ 5) (ho : OKS σ F r) (hc : CODE σ r) (hl : LEX σ r) (hb : LBM σ r) (f : Fr [] [3, 4, 5, 6, 7, 8, 9] [] σ τ)
    (h1 : ∀ j, 0 ≤ j → j < k → IEQ σ (220 * r + j) τ (220 * r + j)) (h2 : ∀ j, k ≤ j → j < σ.2.1 9 r - 1 → IEQ σ (220 * r + (j + 1)) τ (220 * r + j)) (h9 : τ.2.1 9 r = σ.2.1 9 r - 1) : CODE τ r ∧ 1 ≤ τ.2.1 9 r ∧ LEX τ r ∧ LBM τ r ∧ OKS τ F r := by
  have e11 : τ.2.1 11 = σ.2.1 11 := f.2.1 11 (by decide)
  obtain ⟨s, s1, s2⟩ : ∃ s : Int → Int, (∀ j, j < k → s j = j) ∧ (∀ j, k ≤ j → s j = j + 1) := ⟨fun j => if j < k then j else j + 1, fun j q => if_pos q, fun j q => if_neg (by omega)⟩
  have c : CMP σ τ r F (σ.2.1 9 r) (σ.2.1 9 r - 1) (fun i => i = k) := by
    refine ⟨s, fun j a b => ?_, fun i j a b c => ?_, fun i a b => ?_⟩
    · by_cases z : j < k
      · have q := h1 j a z
        rw [s1 j z]
        exact ⟨⟨by omega, by omega⟩, Or.inl q.1, q.2.1, q.2.2.1, q.oki e11 (ho j a (by omega))⟩
      · have q := h2 j (by omega) b
        rw [s2 j (by omega)]
        exact ⟨⟨by omega, by omega⟩, Or.inl q.1, q.2.1, q.2.2.1, q.oki e11 (ho (j + 1) (by omega) (by omega))⟩
    · by_cases z : j < k
      · rw [s1 j z, s1 i (by omega)]; exact b
      · rw [s2 j (by omega)]
        by_cases y : i < k
        · rw [s1 i y]; omega
        · rw [s2 i (by omega)]; omega
    · by_cases z : i = k
      · exact Or.inl z
      · by_cases y : i < k
        · exact Or.inr ⟨i, a, by omega, s1 i y⟩
        · exact Or.inr ⟨i - 1, by omega, by omega, by rw [s2 (i - 1) (by omega)]; omega⟩
  have e14 : τ.2.1 14 = σ.2.1 14 := f.2.1 14 (by decide)
  have k0 := (ho k hk.1 hk.2).1
  have cc := c.code (τ := τ) hc ⟨rfl, by omega⟩ (Or.inl fun i a b q => Or.inr (by subst q; exact ⟨k0.1, h5⟩)) (fun j i _ _ _ e _ _ _ q => by subst q; omega) h9 (by rw [e14]) (f.1 10 (by decide)) (f.2.1 16 (by decide)) rfl rfl rfl
  refine ⟨cc.1, by rw [h9]; exact cc.2, c.lex (fun i a b _ e => ?_) h9 rfl rfl, c.lbm hb rfl h9 (by rw [e14]) rfl rfl, c.oks h9 (fun _ _ q => q)⟩
  obtain ⟨j, j0, j1, j2, j3⟩ := hl i a b e
  exact ⟨j, j0, j1, j2, j3, fun q => by subst q; omega⟩
/-- one neutral item goes ahead of a label -/
theorem rot_fin {σ τ : MS} {r F p q : Int} (hp : 0 ≤ p ∧ p < q ∧ q < σ.2.1 9 r) (h13 : σ.2.1 3 (220 * r + p) = 13) (h5 : σ.2.1 3 (220 * r + q) ≤ 5) (ho : OKS σ F r) (hc : CODE σ r) (hl : LEX σ r) (hb : LBM σ r) (f : Fr [] [3, 4, 5, 6, 7, 8] [] σ τ)
    (h1 : ∀ j, 0 ≤ j → j < p → IEQ σ (220 * r + j) τ (220 * r + j)) (h2 : IEQ σ (220 * r + q) τ (220 * r + p)) (h3 : ∀ j, p < j → j ≤ q → IEQ σ (220 * r + (j - 1)) τ (220 * r + j)) (h4 : ∀ j, q < j → j < σ.2.1 9 r → IEQ σ (220 * r + j) τ (220 * r + j)) : CODE τ r ∧ LEX τ r ∧ LBM τ r ∧ OKS τ F r := by
  have e11 : τ.2.1 11 = σ.2.1 11 := f.2.1 11 (by decide)
  have e9 : τ.2.1 9 = σ.2.1 9 := f.2.1 9 (by decide)
  have e14 : τ.2.1 14 = σ.2.1 14 := f.2.1 14 (by decide)
  have rk : RO (σ.2.1 9 r) p q (iK σ r) (iK τ r) := ⟨fun i a b => (h1 i a b).1, h2.1, fun i a b => (h3 i a b).1, fun i a b => (h4 i a b).1⟩
  have rd : RO (σ.2.1 9 r) p q (iD σ r) (iD τ r) := ⟨fun i a b => (h1 i a b).2.1, h2.2.1, fun i a b => (h3 i a b).2.1, fun i a b => (h4 i a b).2.1⟩
  have ro : RO (σ.2.1 9 r) p q (iO σ r) (iO τ r) := ⟨fun i a b => (h1 i a b).2.2.1, h2.2.2.1, fun i a b => (h3 i a b).2.2.1, fun i a b => (h4 i a b).2.2.1⟩
  obtain ⟨fr, lf, hc⟩ := hc
  obtain ⟨fr', hc'⟩ := hc.rot hp h13 h5 rk rd ro
  have from_ : ∀ j, 0 ≤ j → j < σ.2.1 9 r → ∃ i, (0 ≤ i ∧ i < σ.2.1 9 r) ∧ IEQ σ (220 * r + i) τ (220 * r + j) := fun j a b => by
    by_cases z : j < p
    · exact ⟨j, ⟨a, b⟩, h1 j a z⟩
    · by_cases y : j = p
      · subst y; exact ⟨q, ⟨by omega, by omega⟩, h2⟩
      · by_cases x : j ≤ q
        · exact ⟨j - 1, ⟨by omega, by omega⟩, h3 j (by omega) x⟩
        · exact ⟨j, ⟨a, b⟩, h4 j (by omega) b⟩
  refine ⟨⟨fr', lf, ?_⟩, ?_, fun j a b e => ?_, fun j a b => ?_⟩
  · have e16 : iF τ r = iF σ r := by unfold iF; rw [f.2.1 16 (by decide)]
    rw [e9, e14, e16, f.1 10 (by decide)]; exact hc'
  · have := LX.rot hl hp h5 rk rd
    unfold LEX; rw [e9]; exact this
  · rw [e9] at b
    obtain ⟨i, ⟨i0, i1⟩, w⟩ := from_ j a b
    rw [w.1] at e
    rw [w.2.1, e14]
    exact hb i i0 i1 e
  · rw [e9] at b
    obtain ⟨i, ⟨i0, i1⟩, w⟩ := from_ j a b
    exact w.oki e11 (ho i i0 i1)

set_option maxHeartbeats 1000000 in
set_option maxRecDepth 20000 in
theorem c2_X12_livesBehind (d : Nat) {b : Nat} {σ : MS} {r : Int} {k : Int} {g : Int} (hr : 0 ≤ r ∧ r < 12) (hR : RG σ) (hit : ITM σ) (hjm : JMP σ r) (hbl : BO 59 σ) (hl : LAB σ) (hg : 0 ≤ g ∧ g < 192) (hk : 0 ≤ k ∧ k < σ.2.1 9 r) : Tm (d + 3) m_X12_livesBehind 0 b σ [(0, .ref b), (1, .int (iI r)), (2, .int (iI k)), (3, .int (iI g))] [] (fun ro σ2 => ∃ v : Int, ro = some (.int (iI v)) ∧ σ = σ2 ∧ ((v = 0 ∨ v = 1)) ∧ (v = 1 → (¬ (σ.2.1 3 (220 * r + k) = 8 ∨ σ.2.1 3 (220 * r + k) = 7) ∧ σ.2.1 59 (192 * (k + 1) + g) = 1) ∨ ((σ.2.1 3 (220 * r + k) = 8 ∨ σ.2.1 3 (220 * r + k) = 9) ∧ σ.2.1 59 (192 * σ.2.1 46 (σ.2.1 4 (220 * r + k)) + g) = 1))) := by
  have q1 := hit r (by omega) (by omega)
  have q2 := hl (σ.2.1 4 (220 * r + k))
  refine tm_aload_n dX12_livesBehind_0 rfl 0 rfl ?_
  refine tm_iload_n dX12_livesBehind_1 rfl 1 rfl ?_
  refine tm_iload_n dX12_livesBehind_2 rfl 2 rfl ?_
  refine tm_iconst dX12_livesBehind_3 ?_
  refine tm_callV (M := m_X12_livesBehind) (pc := 4) (ix := 413) (M' := m_X12_goesOn) (As := [.int (iI r), .int (iI k), .int (iI 0)]) (rest := []) dX12_livesBehind_4 ok_X12_goesOn im_X12_goesOn se_X12_goesOn ml12_413 np_X12_goesOn rfl rfl (Nat.le_of_ble_eq_true rfl) (Nat.le_of_ble_eq_true rfl) rfl (c_X12_goesOn (d) (σ := σ) (r := r) (k := k) (how := 0) (by omega) hR (by omega) (fun q => hjm _ (by omega) (by omega) (by omega)) (by omega)) (fun r1 σ2 hp => ?_)
  obtain ⟨v3, rfl, rfl, f4, f5, f6, f7⟩ := hp
  show Tm _ _ 7 b σ [(0, .ref b), (1, .int (iI r)), (2, .int (iI k)), (3, .int (iI g))] [.int (iI v3)] _
  refine tm_istore (L' := [(4, .int (iI v3)), (0, .ref b), (1, .int (iI r)), (2, .int (iI k)), (3, .int (iI g))]) dX12_livesBehind_7 (by decide) rfl ?_
  refine tm_aload_n dX12_livesBehind_9 rfl 1 rfl ?_
  refine tm_iload_n dX12_livesBehind_10 rfl 2 rfl ?_
  refine tm_iload_n dX12_livesBehind_11 rfl 3 rfl ?_
  refine tm_iconst dX12_livesBehind_12 ?_
  refine tm_callV (M := m_X12_livesBehind) (pc := 13) (ix := 413) (M' := m_X12_goesOn) (As := [.int (iI r), .int (iI k), .int (iI 1)]) (rest := []) dX12_livesBehind_13 ok_X12_goesOn im_X12_goesOn se_X12_goesOn ml12_413 np_X12_goesOn rfl rfl (Nat.le_of_ble_eq_true rfl) (Nat.le_of_ble_eq_true rfl) rfl (c_X12_goesOn (d) (σ := σ) (r := r) (k := k) (how := 1) (by omega) hR (by omega) (fun q => hjm _ (by omega) (by omega) (by omega)) (by omega)) (fun r8 σ9 hp => ?_)
  obtain ⟨v10, rfl, rfl, f11, f12, f13, f14⟩ := hp
  show Tm _ _ 16 b σ [(4, .int (iI v3)), (0, .ref b), (1, .int (iI r)), (2, .int (iI k)), (3, .int (iI g))] [.int (iI v10)] _
  refine tm_istore (L' := [(5, .int (iI v10)), (4, .int (iI v3)), (0, .ref b), (1, .int (iI r)), (2, .int (iI k)), (3, .int (iI g))]) dX12_livesBehind_16 (by decide) rfl ?_
  refine tm_iload dX12_livesBehind_18 1 rfl ?_
  refine tm_iconst dX12_livesBehind_20 ?_
  refine tm_icmp_eq (tgt := 40) dX12_livesBehind_21 (by decide) ⟨by omega, by omega⟩ ⟨by decide, by decide⟩ (fun h15 => ?_) (fun h15 => ?_)
  · refine tm_iload dX12_livesBehind_40 0 rfl ?_
    refine tm_iconst dX12_livesBehind_42 ?_
    refine tm_icmp_eq (tgt := 66) dX12_livesBehind_43 (by decide) ⟨by omega, by omega⟩ ⟨by decide, by decide⟩ (fun h16 => ?_) (fun h16 => ?_)
    · refine tm_iconst dX12_livesBehind_66 ?_
      exact tm_zret (v := 0) rfl (by decide) dX12_livesBehind_67 (⟨_, rfl, rfl, by omega, fun q => absurd q (by decide)⟩)
    · refine tm_aload_n dX12_livesBehind_46 rfl 2 rfl ?_
      refine tm_get (k := 59) (v := .ref (b + 1 + 37)) lay_12 dX12_livesBehind_47 (by decide) fl12_130 rfl ?_
      refine tm_sipush dX12_livesBehind_50 (by decide) ?_
      refine tm_iload dX12_livesBehind_53 0 rfl ?_
      refine tm_imul dX12_livesBehind_55 ?_
      refine tm_iload_n dX12_livesBehind_56 rfl 5 rfl ?_
      refine tm_iadd dX12_livesBehind_57 ?_
      refine tm_zald (z := (192 * v10) + g) (v := σ.2.1 59 ((192 * v10) + g)) dX12_livesBehind_58 (show mT[37]? = some (59, 2, 42432) from rfl) (by omega) (by omega) (by decide) (rfl) ?_
      have g17 := RG.a hR 59 ((192 * v10) + g)
      have := hbl ((192 * v10) + g)
      refine tm_if_eq (tgt := 66) dX12_livesBehind_59 (by decide) ⟨by omega, by omega⟩ (fun h18 => ?_) (fun h18 => ?_)
      · refine tm_iconst dX12_livesBehind_66 ?_
        exact tm_zret (v := 0) rfl (by decide) dX12_livesBehind_67 (⟨_, rfl, rfl, by omega, fun q => absurd q (by decide)⟩)
      · refine tm_iconst dX12_livesBehind_62 ?_
        refine tm_goto (tgt := 67) dX12_livesBehind_63 (by decide) ?_
        exact tm_zret (v := 1) rfl (by decide) dX12_livesBehind_67 (⟨_, rfl, rfl, by omega, fun _ => by
      first
      | (have e1 : v3 = k + 1 := by omega
         subst e1
         exact Or.inl ⟨by omega, by omega⟩)
      | (have e2 : v10 = σ.2.1 46 (σ.2.1 4 (220 * r + k)) := by omega
         subst e2
         exact Or.inr ⟨by omega, by omega⟩)⟩)
  · refine tm_aload_n dX12_livesBehind_24 rfl 2 rfl ?_
    refine tm_get (k := 59) (v := .ref (b + 1 + 37)) lay_12 dX12_livesBehind_25 (by decide) fl12_130 rfl ?_
    refine tm_sipush dX12_livesBehind_28 (by decide) ?_
    refine tm_iload dX12_livesBehind_31 1 rfl ?_
    refine tm_imul dX12_livesBehind_33 ?_
    refine tm_iload_n dX12_livesBehind_34 rfl 5 rfl ?_
    refine tm_iadd dX12_livesBehind_35 ?_
    refine tm_zald (z := (192 * v3) + g) (v := σ.2.1 59 ((192 * v3) + g)) dX12_livesBehind_36 (show mT[37]? = some (59, 2, 42432) from rfl) (by omega) (by omega) (by decide) (rfl) ?_
    have g19 := RG.a hR 59 ((192 * v3) + g)
    have := hbl ((192 * v3) + g)
    refine tm_if_ne (tgt := 62) dX12_livesBehind_37 (by decide) ⟨by omega, by omega⟩ (fun h20 => ?_) (fun h20 => ?_)
    · refine tm_iconst dX12_livesBehind_62 ?_
      refine tm_goto (tgt := 67) dX12_livesBehind_63 (by decide) ?_
      exact tm_zret (v := 1) rfl (by decide) dX12_livesBehind_67 (⟨_, rfl, rfl, by omega, fun _ => by
      first
      | (have e1 : v3 = k + 1 := by omega
         subst e1
         exact Or.inl ⟨by omega, by omega⟩)
      | (have e2 : v10 = σ.2.1 46 (σ.2.1 4 (220 * r + k)) := by omega
         subst e2
         exact Or.inr ⟨by omega, by omega⟩)⟩)
    · refine tm_iload dX12_livesBehind_40 0 rfl ?_
      refine tm_iconst dX12_livesBehind_42 ?_
      refine tm_icmp_eq (tgt := 66) dX12_livesBehind_43 (by decide) ⟨by omega, by omega⟩ ⟨by decide, by decide⟩ (fun h21 => ?_) (fun h21 => ?_)
      · refine tm_iconst dX12_livesBehind_66 ?_
        exact tm_zret (v := 0) rfl (by decide) dX12_livesBehind_67 (⟨_, rfl, rfl, by omega, fun q => absurd q (by decide)⟩)
      · refine tm_aload_n dX12_livesBehind_46 rfl 2 rfl ?_
        refine tm_get (k := 59) (v := .ref (b + 1 + 37)) lay_12 dX12_livesBehind_47 (by decide) fl12_130 rfl ?_
        refine tm_sipush dX12_livesBehind_50 (by decide) ?_
        refine tm_iload dX12_livesBehind_53 0 rfl ?_
        refine tm_imul dX12_livesBehind_55 ?_
        refine tm_iload_n dX12_livesBehind_56 rfl 5 rfl ?_
        refine tm_iadd dX12_livesBehind_57 ?_
        refine tm_zald (z := (192 * v10) + g) (v := σ.2.1 59 ((192 * v10) + g)) dX12_livesBehind_58 (show mT[37]? = some (59, 2, 42432) from rfl) (by omega) (by omega) (by decide) (rfl) ?_
        have g22 := RG.a hR 59 ((192 * v10) + g)
        have := hbl ((192 * v10) + g)
        refine tm_if_eq (tgt := 66) dX12_livesBehind_59 (by decide) ⟨by omega, by omega⟩ (fun h23 => ?_) (fun h23 => ?_)
        · refine tm_iconst dX12_livesBehind_66 ?_
          exact tm_zret (v := 0) rfl (by decide) dX12_livesBehind_67 (⟨_, rfl, rfl, by omega, fun q => absurd q (by decide)⟩)
        · refine tm_iconst dX12_livesBehind_62 ?_
          refine tm_goto (tgt := 67) dX12_livesBehind_63 (by decide) ?_
          exact tm_zret (v := 1) rfl (by decide) dX12_livesBehind_67 (⟨_, rfl, rfl, by omega, fun _ => by
      first
      | (have e1 : v3 = k + 1 := by omega
         subst e1
         exact Or.inl ⟨by omega, by omega⟩)
      | (have e2 : v10 = σ.2.1 46 (σ.2.1 4 (220 * r + k)) := by omega
         subst e2
         exact Or.inr ⟨by omega, by omega⟩)⟩)
set_option maxHeartbeats 1000000 in
set_option maxRecDepth 20000 in
theorem l2_lives4 (d : Nat) {b : Nat} {σ0 : MS} {r : Int} {F : Int} {k : Int} {n1 : Int} {C0 : Int} {ρ : MS} {post : Option Value → MS → Prop} (hr : 0 ≤ r ∧ r < 6) (hR0 : RG σ0) (hit : ITM σ0) (hpar : PAR σ0) (hok : OKS σ0 F r) (hl : LAB σ0) (htg : TGT σ0 r) (hρ : Fr [] [46, 59] [] ρ σ0) (hk : 0 ≤ k ∧ k < n1 ∧ n1 = σ0.2.1 9 r) (hx_174 : ∀ (w : Int) (g : Int) (σ : MS) , (Fr [] [59] [] σ0 σ) → (RG σ) → (w = 0 ∨ w = 1) → (BO 59 σ) → ((cz (σ.2.1 59) 42432 : Int) + w ≤ C0) → (LVR ρ σ r) → Tm (d + 5) m_X12_findLives 174 b σ [(6, .int (iI g)), (5, .int (iI (220 * r + k))), (4, .int (iI k)), (3, .int (iI w)), (2, .int (iI n1)), (0, .ref b), (1, .int (iI r))] [] post) : ∀ (n : Nat) (w : Int) (g : Int) (σ : MS) , (Fr [] [59] [] σ0 σ) → (RG σ) → ((w = 0 ∨ w = 1) ∧ 0 ≤ g ∧ g ≤ 192) → (BO 59 σ) → ((cz (σ.2.1 59) 42432 : Int) + w ≤ C0) → (LVR ρ σ r) → (192 - g).toNat = n → Tm (d + 5) m_X12_findLives 68 b σ [(6, .int (iI g)), (5, .int (iI (220 * r + k))), (4, .int (iI k)), (3, .int (iI w)), (2, .int (iI n1)), (0, .ref b), (1, .int (iI r))] [] post := by
  intro n
  induction n using Nat.strongRecOn with
  | _ n ih =>
    intro w g σ hF hR h0 hbl hcn hlv hm
    have hit1 := hit.fr hF (by decide)
    have hpar1 := hpar.fr hF (by decide)
    have hok1 := hok.fr hF (by decide)
    have hl1 := hl.fr hF (by decide)
    have q1 := hit r (by omega) (by omega)
    have q9 : σ.2.1 9 r = σ0.2.1 9 r := by rw [hF.2.1 9 (by decide)]
    have htg1 := htg.fr hF (by decide)
    have hρ1 : Fr [] [46, 59] [] ρ σ := hρ.trans (hF.sub (by decide) (by decide) (by decide))
    have qρ : ρ.2.1 9 r = σ0.2.1 9 r := by rw [hρ.2.1 9 (by decide)]
    refine tm_iload dX12_findLives_68 0 rfl ?_
    refine tm_sipush dX12_findLives_70 (by decide) ?_
    refine tm_icmp_ge (tgt := 174) dX12_findLives_73 (by decide) ⟨by omega, by omega⟩ ⟨by decide, by decide⟩ (fun h1 => ?_) (fun h1 => ?_)
    · exact tm_sub [0, 1, 2, 3, 4, 5, 6] rfl (hx_174 (w) (g) σ (Fr.rfl.trans (Fr.sub hF (by decide) (by decide) (by decide))) hR (by omega) hbl hcn hlv)
    · refine tm_aload_n dX12_findLives_76 rfl 5 rfl ?_
      refine tm_iload_n dX12_findLives_77 rfl 6 rfl ?_
      refine tm_iload dX12_findLives_78 2 rfl ?_
      refine tm_iload dX12_findLives_80 0 rfl ?_
      refine tm_callV (M := m_X12_findLives) (pc := 82) (ix := 433) (M' := m_X12_livesBehind) (As := [.int (iI r), .int (iI k), .int (iI g)]) (rest := []) dX12_findLives_82 ok_X12_livesBehind im_X12_livesBehind se_X12_livesBehind ml12_433 np_X12_livesBehind rfl rfl (Nat.le_of_ble_eq_true rfl) (Nat.le_of_ble_eq_true rfl) rfl (c2_X12_livesBehind (d + 1) (σ := σ) (r := r) (k := k) (g := g) (by omega) hR hit1 hok1.jmp hbl hl1 (by omega) (by omega)) (fun r2 σ3 hp => ?_)
      obtain ⟨v4, rfl, rfl, f5, f6⟩ := hp
      show Tm _ _ 85 b σ [(6, .int (iI g)), (5, .int (iI (220 * r + k))), (4, .int (iI k)), (3, .int (iI w)), (2, .int (iI n1)), (0, .ref b), (1, .int (iI r))] [.int (iI v4)] _
      have hA : v4 = 1 → LVW ρ r g := fun q => hlv.by htg1 hρ1 (by omega) (by omega) (f6 q)
      refine tm_if_eq (tgt := 99) dX12_findLives_85 (by decide) ⟨by omega, by omega⟩ (fun h7 => ?_) (fun h7 => ?_)
      · refine tm_aload_n dX12_findLives_99 rfl 5 rfl ?_
        refine tm_get (k := 3) (v := .ref (b + 1 + 1)) lay_12 dX12_findLives_100 (by decide) fl12_13 rfl ?_
        refine tm_iload dX12_findLives_103 1 rfl ?_
        refine tm_iald (z := 220 * r + k) (v := σ0.2.1 3 (220 * r + k)) dX12_findLives_105 (show mT[1]? = some (3, 0, 2860) from rfl) (by omega) (by omega) (by decide) (ra_F hF (by decide) (rfl)) ?_
        have g8 := RG.a hR0 3 (220 * r + k)
        refine tm_bipush dX12_findLives_106 (by decide) ?_
        refine tm_icmp_eq (tgt := 126) dX12_findLives_108 (by decide) ⟨by omega, by omega⟩ ⟨by decide, by decide⟩ (fun h9 => ?_) (fun h9 => ?_)
        · refine tm_iconst dX12_findLives_126 ?_
          refine tm_istore (L' := [(7, .int (iI 0)), (6, .int (iI g)), (5, .int (iI (220 * r + k))), (4, .int (iI k)), (3, .int (iI w)), (2, .int (iI n1)), (0, .ref b), (1, .int (iI r))]) dX12_findLives_127 (by decide) rfl ?_
          refine tm_iload dX12_findLives_129 0 rfl ?_
          refine tm_if_eq (tgt := 168) dX12_findLives_131 (by decide) ⟨by decide, by decide⟩ (fun _ => ?_) (fun h => absurd h (by decide))
          refine tm_iinc (q0 := 1) (L' := [(6, .int (iI (g + 1))), (7, .int (iI 0)), (5, .int (iI (220 * r + k))), (4, .int (iI k)), (3, .int (iI w)), (2, .int (iI n1)), (0, .ref b), (1, .int (iI r))]) dX12_findLives_168 rfl (by decide) rfl ?_
          refine tm_goto (tgt := 68) dX12_findLives_171 (by decide) ?_
          exact tm_sub [0, 2, 3, 4, 5, 6, 7] rfl (ih _ (by omega) (w) (g + 1) σ (Fr.rfl.trans (Fr.sub hF (by decide) (by decide) (by decide))) hR (by omega) (by first | exact hbl | exact hbl.A (by omega)) (by first | omega | (have hcz := cz_sA (σ := σ) (k := 59) (n := 42432) (z := 192 * k + g) (v := 1) (by omega) (by omega) (by omega) (by decide); omega)) hlv rfl)
        · refine tm_aload_n dX12_findLives_111 rfl 5 rfl ?_
          refine tm_iload dX12_findLives_112 1 rfl ?_
          refine tm_iload dX12_findLives_114 0 rfl ?_
          refine tm_callV (M := m_X12_findLives) (pc := 116) (ix := 439) (M' := m_X12_leansOn) (As := [.int (iI (220 * r + k)), .int (iI g)]) (rest := []) dX12_findLives_116 ok_X12_leansOn im_X12_leansOn se_X12_leansOn ml12_439 np_X12_leansOn rfl rfl (Nat.le_of_ble_eq_true rfl) (Nat.le_of_ble_eq_true rfl) rfl (c_X12_leansOn (d) (σ := σ) (x := 220 * r + k) (g := g) (by omega) hR (hok1.of (by omega) (by omega)) hpar1 (by omega)) (fun r11 σ12 hp => ?_)
          obtain ⟨v13, rfl, rfl, f14, f15⟩ := hp
          show Tm _ _ 119 b σ [(6, .int (iI g)), (5, .int (iI (220 * r + k))), (4, .int (iI k)), (3, .int (iI w)), (2, .int (iI n1)), (0, .ref b), (1, .int (iI r))] [.int (iI v13)] _
          have hB : v13 = 1 → LVW ρ r g := fun q => LVW.of hρ1 (by omega) (f15.mp q)
          refine tm_if_eq (tgt := 126) dX12_findLives_119 (by decide) ⟨by omega, by omega⟩ (fun h16 => ?_) (fun h16 => ?_)
          · refine tm_iconst dX12_findLives_126 ?_
            refine tm_istore (L' := [(7, .int (iI 0)), (6, .int (iI g)), (5, .int (iI (220 * r + k))), (4, .int (iI k)), (3, .int (iI w)), (2, .int (iI n1)), (0, .ref b), (1, .int (iI r))]) dX12_findLives_127 (by decide) rfl ?_
            refine tm_iload dX12_findLives_129 0 rfl ?_
            refine tm_if_eq (tgt := 168) dX12_findLives_131 (by decide) ⟨by decide, by decide⟩ (fun _ => ?_) (fun h => absurd h (by decide))
            refine tm_iinc (q0 := 1) (L' := [(6, .int (iI (g + 1))), (7, .int (iI 0)), (5, .int (iI (220 * r + k))), (4, .int (iI k)), (3, .int (iI w)), (2, .int (iI n1)), (0, .ref b), (1, .int (iI r))]) dX12_findLives_168 rfl (by decide) rfl ?_
            refine tm_goto (tgt := 68) dX12_findLives_171 (by decide) ?_
            exact tm_sub [0, 2, 3, 4, 5, 6, 7] rfl (ih _ (by omega) (w) (g + 1) σ (Fr.rfl.trans (Fr.sub hF (by decide) (by decide) (by decide))) hR (by omega) (by first | exact hbl | exact hbl.A (by omega)) (by first | omega | (have hcz := cz_sA (σ := σ) (k := 59) (n := 42432) (z := 192 * k + g) (v := 1) (by omega) (by omega) (by omega) (by decide); omega)) hlv rfl)
          · refine tm_iconst dX12_findLives_122 ?_
            refine tm_goto (tgt := 127) dX12_findLives_123 (by decide) ?_
            refine tm_istore (L' := [(7, .int (iI 1)), (6, .int (iI g)), (5, .int (iI (220 * r + k))), (4, .int (iI k)), (3, .int (iI w)), (2, .int (iI n1)), (0, .ref b), (1, .int (iI r))]) dX12_findLives_127 (by decide) rfl ?_
            refine tm_iload dX12_findLives_129 0 rfl ?_
            refine tm_if_eq (tgt := 168) dX12_findLives_131 (by decide) ⟨by decide, by decide⟩ (fun h => absurd h (by decide)) (fun _ => ?_)
            refine tm_aload_n dX12_findLives_134 rfl 6 rfl ?_
            refine tm_get (k := 59) (v := .ref (b + 1 + 37)) lay_12 dX12_findLives_135 (by decide) fl12_130 rfl ?_
            refine tm_sipush dX12_findLives_138 (by decide) ?_
            refine tm_iload dX12_findLives_141 3 rfl ?_
            refine tm_imul dX12_findLives_143 ?_
            refine tm_iload dX12_findLives_144 1 rfl ?_
            refine tm_iadd dX12_findLives_146 ?_
            refine tm_zald (z := (192 * k) + g) (v := σ.2.1 59 ((192 * k) + g)) dX12_findLives_147 (show mT[37]? = some (59, 2, 42432) from rfl) (by omega) (by omega) (by decide) (rfl) ?_
            have g19 := RG.a hR 59 ((192 * k) + g)
            have := hbl ((192 * k) + g)
            refine tm_if_ne (tgt := 168) dX12_findLives_148 (by decide) ⟨by omega, by omega⟩ (fun h20 => ?_) (fun h20 => ?_)
            · refine tm_iinc (q0 := 1) (L' := [(6, .int (iI (g + 1))), (7, .int (iI 1)), (5, .int (iI (220 * r + k))), (4, .int (iI k)), (3, .int (iI w)), (2, .int (iI n1)), (0, .ref b), (1, .int (iI r))]) dX12_findLives_168 rfl (by decide) rfl ?_
              refine tm_goto (tgt := 68) dX12_findLives_171 (by decide) ?_
              exact tm_sub [0, 2, 3, 4, 5, 6, 7] rfl (ih _ (by omega) (w) (g + 1) σ (Fr.rfl.trans (Fr.sub hF (by decide) (by decide) (by decide))) hR (by omega) (by first | exact hbl | exact hbl.A (by omega)) (by first | omega | (have hcz := cz_sA (σ := σ) (k := 59) (n := 42432) (z := 192 * k + g) (v := 1) (by omega) (by omega) (by omega) (by decide); omega)) hlv rfl)
            · refine tm_aload_n dX12_findLives_151 rfl 6 rfl ?_
              refine tm_get (k := 59) (v := .ref (b + 1 + 37)) lay_12 dX12_findLives_152 (by decide) fl12_130 rfl ?_
              refine tm_sipush dX12_findLives_155 (by decide) ?_
              refine tm_iload dX12_findLives_158 3 rfl ?_
              refine tm_imul dX12_findLives_160 ?_
              refine tm_iload dX12_findLives_161 1 rfl ?_
              refine tm_iadd dX12_findLives_163 ?_
              refine tm_iconst dX12_findLives_164 ?_
              refine tm_zast (z := (192 * k) + g) (v := 1) dX12_findLives_165 (show mT[37]? = some (59, 2, 42432) from rfl) (by omega) (by omega) (by decide) (by omega) ?_
              refine tm_iconst dX12_findLives_166 ?_
              refine tm_istore_n (L' := [(3, .int (iI 1)), (7, .int (iI 1)), (6, .int (iI g)), (5, .int (iI (220 * r + k))), (4, .int (iI k)), (2, .int (iI n1)), (0, .ref b), (1, .int (iI r))]) dX12_findLives_167 rfl (by decide) rfl ?_
              refine tm_iinc (q0 := 2) (L' := [(6, .int (iI (g + 1))), (3, .int (iI 1)), (7, .int (iI 1)), (5, .int (iI (220 * r + k))), (4, .int (iI k)), (2, .int (iI n1)), (0, .ref b), (1, .int (iI r))]) dX12_findLives_168 rfl (by decide) rfl ?_
              refine tm_goto (tgt := 68) dX12_findLives_171 (by decide) ?_
              exact tm_sub [0, 3, 4, 1, 5, 6, 7] rfl (ih _ (by omega) (1) (g + 1) (sA 59 ((192 * k) + g) (1) σ) ((Fr.rfl.trans (Fr.sub hF (by decide) (by decide) (by decide))).A (by decide)) (hR.A (by omega)) (by omega) (by first | exact hbl | exact hbl.A (by omega)) (by first | omega | (have hcz := cz_sA (σ := σ) (k := 59) (n := 42432) (z := 192 * k + g) (v := 1) (by omega) (by omega) (by omega) (by decide); omega)) (hlv.put (by omega) (by first | exact hA (by omega) | exact hB (by omega))) rfl)
      · refine tm_aload_n dX12_findLives_88 rfl 5 rfl ?_
        refine tm_iload dX12_findLives_89 1 rfl ?_
        refine tm_iload dX12_findLives_91 0 rfl ?_
        refine tm_callV (M := m_X12_findLives) (pc := 93) (ix := 436) (M' := m_X12_writesTo) (As := [.int (iI (220 * r + k)), .int (iI g)]) (rest := []) dX12_findLives_93 ok_X12_writesTo im_X12_writesTo se_X12_writesTo ml12_436 np_X12_writesTo rfl rfl (Nat.le_of_ble_eq_true rfl) (Nat.le_of_ble_eq_true rfl) rfl (c_X12_writesTo (d + 2) (σ := σ) (x := 220 * r + k) (g := g) (by omega) hR (by omega)) (fun r21 σ22 hp => ?_)
        obtain ⟨v23, rfl, rfl, f24, f25⟩ := hp
        show Tm _ _ 96 b σ [(6, .int (iI g)), (5, .int (iI (220 * r + k))), (4, .int (iI k)), (3, .int (iI w)), (2, .int (iI n1)), (0, .ref b), (1, .int (iI r))] [.int (iI v23)] _
        refine tm_if_eq (tgt := 122) dX12_findLives_96 (by decide) ⟨by omega, by omega⟩ (fun h26 => ?_) (fun h26 => ?_)
        · refine tm_iconst dX12_findLives_122 ?_
          refine tm_goto (tgt := 127) dX12_findLives_123 (by decide) ?_
          refine tm_istore (L' := [(7, .int (iI 1)), (6, .int (iI g)), (5, .int (iI (220 * r + k))), (4, .int (iI k)), (3, .int (iI w)), (2, .int (iI n1)), (0, .ref b), (1, .int (iI r))]) dX12_findLives_127 (by decide) rfl ?_
          refine tm_iload dX12_findLives_129 0 rfl ?_
          refine tm_if_eq (tgt := 168) dX12_findLives_131 (by decide) ⟨by decide, by decide⟩ (fun h => absurd h (by decide)) (fun _ => ?_)
          refine tm_aload_n dX12_findLives_134 rfl 6 rfl ?_
          refine tm_get (k := 59) (v := .ref (b + 1 + 37)) lay_12 dX12_findLives_135 (by decide) fl12_130 rfl ?_
          refine tm_sipush dX12_findLives_138 (by decide) ?_
          refine tm_iload dX12_findLives_141 3 rfl ?_
          refine tm_imul dX12_findLives_143 ?_
          refine tm_iload dX12_findLives_144 1 rfl ?_
          refine tm_iadd dX12_findLives_146 ?_
          refine tm_zald (z := (192 * k) + g) (v := σ.2.1 59 ((192 * k) + g)) dX12_findLives_147 (show mT[37]? = some (59, 2, 42432) from rfl) (by omega) (by omega) (by decide) (rfl) ?_
          have g28 := RG.a hR 59 ((192 * k) + g)
          have := hbl ((192 * k) + g)
          refine tm_if_ne (tgt := 168) dX12_findLives_148 (by decide) ⟨by omega, by omega⟩ (fun h29 => ?_) (fun h29 => ?_)
          · refine tm_iinc (q0 := 1) (L' := [(6, .int (iI (g + 1))), (7, .int (iI 1)), (5, .int (iI (220 * r + k))), (4, .int (iI k)), (3, .int (iI w)), (2, .int (iI n1)), (0, .ref b), (1, .int (iI r))]) dX12_findLives_168 rfl (by decide) rfl ?_
            refine tm_goto (tgt := 68) dX12_findLives_171 (by decide) ?_
            exact tm_sub [0, 2, 3, 4, 5, 6, 7] rfl (ih _ (by omega) (w) (g + 1) σ (Fr.rfl.trans (Fr.sub hF (by decide) (by decide) (by decide))) hR (by omega) (by first | exact hbl | exact hbl.A (by omega)) (by first | omega | (have hcz := cz_sA (σ := σ) (k := 59) (n := 42432) (z := 192 * k + g) (v := 1) (by omega) (by omega) (by omega) (by decide); omega)) hlv rfl)
          · refine tm_aload_n dX12_findLives_151 rfl 6 rfl ?_
            refine tm_get (k := 59) (v := .ref (b + 1 + 37)) lay_12 dX12_findLives_152 (by decide) fl12_130 rfl ?_
            refine tm_sipush dX12_findLives_155 (by decide) ?_
            refine tm_iload dX12_findLives_158 3 rfl ?_
            refine tm_imul dX12_findLives_160 ?_
            refine tm_iload dX12_findLives_161 1 rfl ?_
            refine tm_iadd dX12_findLives_163 ?_
            refine tm_iconst dX12_findLives_164 ?_
            refine tm_zast (z := (192 * k) + g) (v := 1) dX12_findLives_165 (show mT[37]? = some (59, 2, 42432) from rfl) (by omega) (by omega) (by decide) (by omega) ?_
            refine tm_iconst dX12_findLives_166 ?_
            refine tm_istore_n (L' := [(3, .int (iI 1)), (7, .int (iI 1)), (6, .int (iI g)), (5, .int (iI (220 * r + k))), (4, .int (iI k)), (2, .int (iI n1)), (0, .ref b), (1, .int (iI r))]) dX12_findLives_167 rfl (by decide) rfl ?_
            refine tm_iinc (q0 := 2) (L' := [(6, .int (iI (g + 1))), (3, .int (iI 1)), (7, .int (iI 1)), (5, .int (iI (220 * r + k))), (4, .int (iI k)), (2, .int (iI n1)), (0, .ref b), (1, .int (iI r))]) dX12_findLives_168 rfl (by decide) rfl ?_
            refine tm_goto (tgt := 68) dX12_findLives_171 (by decide) ?_
            exact tm_sub [0, 3, 4, 1, 5, 6, 7] rfl (ih _ (by omega) (1) (g + 1) (sA 59 ((192 * k) + g) (1) σ) ((Fr.rfl.trans (Fr.sub hF (by decide) (by decide) (by decide))).A (by decide)) (hR.A (by omega)) (by omega) (by first | exact hbl | exact hbl.A (by omega)) (by first | omega | (have hcz := cz_sA (σ := σ) (k := 59) (n := 42432) (z := 192 * k + g) (v := 1) (by omega) (by omega) (by omega) (by decide); omega)) (hlv.put (by omega) (by first | exact hA (by omega) | exact hB (by omega))) rfl)
        · refine tm_aload_n dX12_findLives_99 rfl 5 rfl ?_
          refine tm_get (k := 3) (v := .ref (b + 1 + 1)) lay_12 dX12_findLives_100 (by decide) fl12_13 rfl ?_
          refine tm_iload dX12_findLives_103 1 rfl ?_
          refine tm_iald (z := 220 * r + k) (v := σ0.2.1 3 (220 * r + k)) dX12_findLives_105 (show mT[1]? = some (3, 0, 2860) from rfl) (by omega) (by omega) (by decide) (ra_F hF (by decide) (rfl)) ?_
          have g30 := RG.a hR0 3 (220 * r + k)
          refine tm_bipush dX12_findLives_106 (by decide) ?_
          refine tm_icmp_eq (tgt := 126) dX12_findLives_108 (by decide) ⟨by omega, by omega⟩ ⟨by decide, by decide⟩ (fun h31 => ?_) (fun h31 => ?_)
          · refine tm_iconst dX12_findLives_126 ?_
            refine tm_istore (L' := [(7, .int (iI 0)), (6, .int (iI g)), (5, .int (iI (220 * r + k))), (4, .int (iI k)), (3, .int (iI w)), (2, .int (iI n1)), (0, .ref b), (1, .int (iI r))]) dX12_findLives_127 (by decide) rfl ?_
            refine tm_iload dX12_findLives_129 0 rfl ?_
            refine tm_if_eq (tgt := 168) dX12_findLives_131 (by decide) ⟨by decide, by decide⟩ (fun _ => ?_) (fun h => absurd h (by decide))
            refine tm_iinc (q0 := 1) (L' := [(6, .int (iI (g + 1))), (7, .int (iI 0)), (5, .int (iI (220 * r + k))), (4, .int (iI k)), (3, .int (iI w)), (2, .int (iI n1)), (0, .ref b), (1, .int (iI r))]) dX12_findLives_168 rfl (by decide) rfl ?_
            refine tm_goto (tgt := 68) dX12_findLives_171 (by decide) ?_
            exact tm_sub [0, 2, 3, 4, 5, 6, 7] rfl (ih _ (by omega) (w) (g + 1) σ (Fr.rfl.trans (Fr.sub hF (by decide) (by decide) (by decide))) hR (by omega) (by first | exact hbl | exact hbl.A (by omega)) (by first | omega | (have hcz := cz_sA (σ := σ) (k := 59) (n := 42432) (z := 192 * k + g) (v := 1) (by omega) (by omega) (by omega) (by decide); omega)) hlv rfl)
          · refine tm_aload_n dX12_findLives_111 rfl 5 rfl ?_
            refine tm_iload dX12_findLives_112 1 rfl ?_
            refine tm_iload dX12_findLives_114 0 rfl ?_
            refine tm_callV (M := m_X12_findLives) (pc := 116) (ix := 439) (M' := m_X12_leansOn) (As := [.int (iI (220 * r + k)), .int (iI g)]) (rest := []) dX12_findLives_116 ok_X12_leansOn im_X12_leansOn se_X12_leansOn ml12_439 np_X12_leansOn rfl rfl (Nat.le_of_ble_eq_true rfl) (Nat.le_of_ble_eq_true rfl) rfl (c_X12_leansOn (d) (σ := σ) (x := 220 * r + k) (g := g) (by omega) hR (hok1.of (by omega) (by omega)) hpar1 (by omega)) (fun r33 σ34 hp => ?_)
            obtain ⟨v35, rfl, rfl, f36, f37⟩ := hp
            show Tm _ _ 119 b σ [(6, .int (iI g)), (5, .int (iI (220 * r + k))), (4, .int (iI k)), (3, .int (iI w)), (2, .int (iI n1)), (0, .ref b), (1, .int (iI r))] [.int (iI v35)] _
            have hB : v35 = 1 → LVW ρ r g := fun q => LVW.of hρ1 (by omega) (f37.mp q)
            refine tm_if_eq (tgt := 126) dX12_findLives_119 (by decide) ⟨by omega, by omega⟩ (fun h38 => ?_) (fun h38 => ?_)
            · refine tm_iconst dX12_findLives_126 ?_
              refine tm_istore (L' := [(7, .int (iI 0)), (6, .int (iI g)), (5, .int (iI (220 * r + k))), (4, .int (iI k)), (3, .int (iI w)), (2, .int (iI n1)), (0, .ref b), (1, .int (iI r))]) dX12_findLives_127 (by decide) rfl ?_
              refine tm_iload dX12_findLives_129 0 rfl ?_
              refine tm_if_eq (tgt := 168) dX12_findLives_131 (by decide) ⟨by decide, by decide⟩ (fun _ => ?_) (fun h => absurd h (by decide))
              refine tm_iinc (q0 := 1) (L' := [(6, .int (iI (g + 1))), (7, .int (iI 0)), (5, .int (iI (220 * r + k))), (4, .int (iI k)), (3, .int (iI w)), (2, .int (iI n1)), (0, .ref b), (1, .int (iI r))]) dX12_findLives_168 rfl (by decide) rfl ?_
              refine tm_goto (tgt := 68) dX12_findLives_171 (by decide) ?_
              exact tm_sub [0, 2, 3, 4, 5, 6, 7] rfl (ih _ (by omega) (w) (g + 1) σ (Fr.rfl.trans (Fr.sub hF (by decide) (by decide) (by decide))) hR (by omega) (by first | exact hbl | exact hbl.A (by omega)) (by first | omega | (have hcz := cz_sA (σ := σ) (k := 59) (n := 42432) (z := 192 * k + g) (v := 1) (by omega) (by omega) (by omega) (by decide); omega)) hlv rfl)
            · refine tm_iconst dX12_findLives_122 ?_
              refine tm_goto (tgt := 127) dX12_findLives_123 (by decide) ?_
              refine tm_istore (L' := [(7, .int (iI 1)), (6, .int (iI g)), (5, .int (iI (220 * r + k))), (4, .int (iI k)), (3, .int (iI w)), (2, .int (iI n1)), (0, .ref b), (1, .int (iI r))]) dX12_findLives_127 (by decide) rfl ?_
              refine tm_iload dX12_findLives_129 0 rfl ?_
              refine tm_if_eq (tgt := 168) dX12_findLives_131 (by decide) ⟨by decide, by decide⟩ (fun h => absurd h (by decide)) (fun _ => ?_)
              refine tm_aload_n dX12_findLives_134 rfl 6 rfl ?_
              refine tm_get (k := 59) (v := .ref (b + 1 + 37)) lay_12 dX12_findLives_135 (by decide) fl12_130 rfl ?_
              refine tm_sipush dX12_findLives_138 (by decide) ?_
              refine tm_iload dX12_findLives_141 3 rfl ?_
              refine tm_imul dX12_findLives_143 ?_
              refine tm_iload dX12_findLives_144 1 rfl ?_
              refine tm_iadd dX12_findLives_146 ?_
              refine tm_zald (z := (192 * k) + g) (v := σ.2.1 59 ((192 * k) + g)) dX12_findLives_147 (show mT[37]? = some (59, 2, 42432) from rfl) (by omega) (by omega) (by decide) (rfl) ?_
              have g41 := RG.a hR 59 ((192 * k) + g)
              have := hbl ((192 * k) + g)
              refine tm_if_ne (tgt := 168) dX12_findLives_148 (by decide) ⟨by omega, by omega⟩ (fun h42 => ?_) (fun h42 => ?_)
              · refine tm_iinc (q0 := 1) (L' := [(6, .int (iI (g + 1))), (7, .int (iI 1)), (5, .int (iI (220 * r + k))), (4, .int (iI k)), (3, .int (iI w)), (2, .int (iI n1)), (0, .ref b), (1, .int (iI r))]) dX12_findLives_168 rfl (by decide) rfl ?_
                refine tm_goto (tgt := 68) dX12_findLives_171 (by decide) ?_
                exact tm_sub [0, 2, 3, 4, 5, 6, 7] rfl (ih _ (by omega) (w) (g + 1) σ (Fr.rfl.trans (Fr.sub hF (by decide) (by decide) (by decide))) hR (by omega) (by first | exact hbl | exact hbl.A (by omega)) (by first | omega | (have hcz := cz_sA (σ := σ) (k := 59) (n := 42432) (z := 192 * k + g) (v := 1) (by omega) (by omega) (by omega) (by decide); omega)) hlv rfl)
              · refine tm_aload_n dX12_findLives_151 rfl 6 rfl ?_
                refine tm_get (k := 59) (v := .ref (b + 1 + 37)) lay_12 dX12_findLives_152 (by decide) fl12_130 rfl ?_
                refine tm_sipush dX12_findLives_155 (by decide) ?_
                refine tm_iload dX12_findLives_158 3 rfl ?_
                refine tm_imul dX12_findLives_160 ?_
                refine tm_iload dX12_findLives_161 1 rfl ?_
                refine tm_iadd dX12_findLives_163 ?_
                refine tm_iconst dX12_findLives_164 ?_
                refine tm_zast (z := (192 * k) + g) (v := 1) dX12_findLives_165 (show mT[37]? = some (59, 2, 42432) from rfl) (by omega) (by omega) (by decide) (by omega) ?_
                refine tm_iconst dX12_findLives_166 ?_
                refine tm_istore_n (L' := [(3, .int (iI 1)), (7, .int (iI 1)), (6, .int (iI g)), (5, .int (iI (220 * r + k))), (4, .int (iI k)), (2, .int (iI n1)), (0, .ref b), (1, .int (iI r))]) dX12_findLives_167 rfl (by decide) rfl ?_
                refine tm_iinc (q0 := 2) (L' := [(6, .int (iI (g + 1))), (3, .int (iI 1)), (7, .int (iI 1)), (5, .int (iI (220 * r + k))), (4, .int (iI k)), (2, .int (iI n1)), (0, .ref b), (1, .int (iI r))]) dX12_findLives_168 rfl (by decide) rfl ?_
                refine tm_goto (tgt := 68) dX12_findLives_171 (by decide) ?_
                exact tm_sub [0, 3, 4, 1, 5, 6, 7] rfl (ih _ (by omega) (1) (g + 1) (sA 59 ((192 * k) + g) (1) σ) ((Fr.rfl.trans (Fr.sub hF (by decide) (by decide) (by decide))).A (by decide)) (hR.A (by omega)) (by omega) (by first | exact hbl | exact hbl.A (by omega)) (by first | omega | (have hcz := cz_sA (σ := σ) (k := 59) (n := 42432) (z := 192 * k + g) (v := 1) (by omega) (by omega) (by omega) (by decide); omega)) (hlv.put (by omega) (by first | exact hA (by omega) | exact hB (by omega))) rfl)
set_option maxHeartbeats 1000000 in
set_option maxRecDepth 20000 in
theorem l2_lives3 (d : Nat) {b : Nat} {σ0 : MS} {r : Int} {F : Int} {n1 : Int} {C0 : Int} {ρ : MS} {post : Option Value → MS → Prop} (hr : 0 ≤ r ∧ r < 6) (hR0 : RG σ0) (hit : ITM σ0) (hpar : PAR σ0) (hok : OKS σ0 F r) (hl : LAB σ0) (htg : TGT σ0 r) (hρ : Fr [] [46, 59] [] ρ σ0) (hk : n1 = σ0.2.1 9 r) (hx_180 : ∀ (w : Int) (k : Int) (σ : MS) , (Fr [] [59] [] σ0 σ) → (RG σ) → (w = 0 ∨ w = 1) → (BO 59 σ) → ((cz (σ.2.1 59) 42432 : Int) + w ≤ C0) → (LVR ρ σ r) → Tm (d + 5) m_X12_findLives 180 b σ [(4, .int (iI k)), (3, .int (iI w)), (2, .int (iI n1)), (0, .ref b), (1, .int (iI r))] [] post) : ∀ (n : Nat) (w : Int) (k : Int) (σ : MS) , (Fr [] [59] [] σ0 σ) → (RG σ) → ((w = 0 ∨ w = 1) ∧ -1 ≤ k ∧ k < n1) → (BO 59 σ) → ((cz (σ.2.1 59) 42432 : Int) + w ≤ C0) → (LVR ρ σ r) → (k + 1).toNat = n → Tm (d + 5) m_X12_findLives 51 b σ [(4, .int (iI k)), (3, .int (iI w)), (2, .int (iI n1)), (0, .ref b), (1, .int (iI r))] [] post := by
  intro n
  induction n using Nat.strongRecOn with
  | _ n ih =>
    intro w k σ hF hR h0 hbl hcn hlv hm
    have hit1 := hit.fr hF (by decide)
    have hpar1 := hpar.fr hF (by decide)
    have hok1 := hok.fr hF (by decide)
    have hl1 := hl.fr hF (by decide)
    have q1 := hit r (by omega) (by omega)
    have q9 : σ.2.1 9 r = σ0.2.1 9 r := by rw [hF.2.1 9 (by decide)]
    have htg1 := htg.fr hF (by decide)
    have hρ1 : Fr [] [46, 59] [] ρ σ := hρ.trans (hF.sub (by decide) (by decide) (by decide))
    have qρ : ρ.2.1 9 r = σ0.2.1 9 r := by rw [hρ.2.1 9 (by decide)]
    refine tm_iload dX12_findLives_51 0 rfl ?_
    refine tm_if_lt (tgt := 180) dX12_findLives_53 (by decide) ⟨by omega, by omega⟩ (fun h1 => ?_) (fun h1 => ?_)
    · exact tm_sub [0, 1, 2, 3, 4] rfl (hx_180 (w) (k) σ (Fr.rfl.trans (Fr.sub hF (by decide) (by decide) (by decide))) hR (by omega) hbl hcn hlv)
    · refine tm_aload_n dX12_findLives_56 rfl 3 rfl ?_
      refine tm_iload_n dX12_findLives_57 rfl 4 rfl ?_
      refine tm_iload dX12_findLives_58 0 rfl ?_
      refine tm_callV (M := m_X12_findLives) (pc := 60) (ix := 203) (M' := m_X12_at) (As := [.int (iI r), .int (iI k)]) (rest := []) dX12_findLives_60 ok_X12_at im_X12_at se_X12_at ml12_203 np_X12_at rfl rfl (Nat.le_of_ble_eq_true rfl) (Nat.le_of_ble_eq_true rfl) rfl (c_X12_at (d + 3) (σ := σ) (x := r) (k := k) ) (fun r2 σ3 hp => ?_)
      obtain ⟨v4, rfl, rfl, f5⟩ := hp
      subst f5
      show Tm _ _ 63 b σ [(4, .int (iI k)), (3, .int (iI w)), (2, .int (iI n1)), (0, .ref b), (1, .int (iI r))] [.int (iI (220 * r + k))] _
      refine tm_istore (L' := [(5, .int (iI (220 * r + k))), (4, .int (iI k)), (3, .int (iI w)), (2, .int (iI n1)), (0, .ref b), (1, .int (iI r))]) dX12_findLives_63 (by decide) rfl ?_
      refine tm_iconst dX12_findLives_65 ?_
      refine tm_istore (L' := [(6, .int (iI 0)), (5, .int (iI (220 * r + k))), (4, .int (iI k)), (3, .int (iI w)), (2, .int (iI n1)), (0, .ref b), (1, .int (iI r))]) dX12_findLives_66 (by decide) rfl ?_
      refine tm_sub [0, 1, 2, 3, 4, 5, 6] rfl (l2_lives4 (d) (σ0 := σ) (r := r) (k := k) (n1 := n1) (F := F) (C0 := C0) (ρ := ρ) hr hR hit1 hpar1 hok1 hl1 htg1 hρ1 (by omega) (fun w15 g16 σ17 F9 R10 f11 f12 f13 f14 => ?_) _ (w) (0) σ Fr.rfl hR (by omega) hbl (by omega) hlv rfl)
      show Tm _ _ 174 b σ17 [(6, .int (iI g16)), (5, .int (iI (220 * r + k))), (4, .int (iI k)), (3, .int (iI w15)), (2, .int (iI n1)), (0, .ref b), (1, .int (iI r))] [] _
      refine tm_iinc (q0 := 2) (L' := [(4, .int (iI (k + (-1)))), (6, .int (iI g16)), (5, .int (iI (220 * r + k))), (3, .int (iI w15)), (2, .int (iI n1)), (0, .ref b), (1, .int (iI r))]) dX12_findLives_174 rfl (by decide) rfl ?_
      refine tm_goto (tgt := 51) dX12_findLives_177 (by decide) ?_
      exact tm_sub [0, 3, 4, 5, 6] rfl (ih _ (by omega) (w15) (k + (-1)) σ17 ((Fr.rfl.trans (Fr.sub hF (by decide) (by decide) (by decide))).trans (Fr.sub F9 (by decide) (by decide) (by decide))) R10 (by omega) (by assumption) (by omega) (by assumption) rfl)
set_option maxHeartbeats 1000000 in
set_option maxRecDepth 20000 in
theorem l2_lives2 (d : Nat) {b : Nat} {σ0 : MS} {r : Int} {F : Int} {n1 : Int} {ρ : MS} {post : Option Value → MS → Prop} (hr : 0 ≤ r ∧ r < 6) (hR0 : RG σ0) (hit : ITM σ0) (hpar : PAR σ0) (hok : OKS σ0 F r) (hl : LAB σ0) (htg : TGT σ0 r) (hρ : Fr [] [46, 59] [] ρ σ0) (hk : n1 = σ0.2.1 9 r) (hx_183 : ∀ (w : Int) (σ : MS) , (Fr [] [59] [] σ0 σ) → (RG σ) → (BO 59 σ) → (LVR ρ σ r) → Tm (d + 5) m_X12_findLives 183 b σ [(3, .int (iI w)), (2, .int (iI n1)), (0, .ref b), (1, .int (iI r))] [] post) : ∀ (n : Nat) (w : Int) (σ : MS) , (Fr [] [59] [] σ0 σ) → (RG σ) → (w = 0 ∨ w = 1) → (BO 59 σ) → (LVR ρ σ r) → ((cz (σ.2.1 59) 42432 : Int) + w).toNat = n → Tm (d + 5) m_X12_findLives 40 b σ [(3, .int (iI w)), (2, .int (iI n1)), (0, .ref b), (1, .int (iI r))] [] post := by
  intro n
  induction n using Nat.strongRecOn with
  | _ n ih =>
    intro w σ hF hR h0 hbl hlv hm
    have hit1 := hit.fr hF (by decide)
    have hpar1 := hpar.fr hF (by decide)
    have hok1 := hok.fr hF (by decide)
    have hl1 := hl.fr hF (by decide)
    have q1 := hit r (by omega) (by omega)
    have q9 : σ.2.1 9 r = σ0.2.1 9 r := by rw [hF.2.1 9 (by decide)]
    have htg1 := htg.fr hF (by decide)
    have hρ1 : Fr [] [46, 59] [] ρ σ := hρ.trans (hF.sub (by decide) (by decide) (by decide))
    have qρ : ρ.2.1 9 r = σ0.2.1 9 r := by rw [hρ.2.1 9 (by decide)]
    refine tm_iload_n dX12_findLives_40 rfl 0 rfl ?_
    refine tm_if_eq (tgt := 183) dX12_findLives_41 (by decide) ⟨by omega, by omega⟩ (fun h1 => ?_) (fun h1 => ?_)
    · exact tm_sub [0, 1, 2, 3] rfl (hx_183 (w) σ (Fr.rfl.trans (Fr.sub hF (by decide) (by decide) (by decide))) hR hbl hlv)
    · refine tm_iconst dX12_findLives_44 ?_
      refine tm_istore_n (L' := [(3, .int (iI 0)), (2, .int (iI n1)), (0, .ref b), (1, .int (iI r))]) dX12_findLives_45 rfl (by decide) rfl ?_
      refine tm_iload_n dX12_findLives_46 rfl 1 rfl ?_
      refine tm_iconst dX12_findLives_47 ?_
      refine tm_isub dX12_findLives_48 ?_
      refine tm_istore (L' := [(4, .int (iI (n1 - 1))), (3, .int (iI 0)), (2, .int (iI n1)), (0, .ref b), (1, .int (iI r))]) dX12_findLives_49 (by decide) rfl ?_
      refine tm_sub [0, 1, 2, 3, 4] rfl (l2_lives3 (d) (σ0 := σ) (r := r) (n1 := n1) (F := F) (C0 := (cz (σ.2.1 59) 42432 : Int)) (ρ := ρ) hr hR hit1 hpar1 hok1 hl1 htg1 hρ1 (by omega) (fun w11 k12 σ13 F5 R6 f7 f8 f9 f10 => ?_) _ (0) (n1 - 1) σ Fr.rfl hR (by omega) hbl (by omega) hlv rfl)
      show Tm _ _ 180 b σ13 [(4, .int (iI k12)), (3, .int (iI w11)), (2, .int (iI n1)), (0, .ref b), (1, .int (iI r))] [] _
      refine tm_goto (tgt := 40) dX12_findLives_180 (by decide) ?_
      exact tm_sub [1, 2, 3, 4] rfl (ih _ (by omega) (w11) σ13 ((Fr.rfl.trans (Fr.sub hF (by decide) (by decide) (by decide))).trans (Fr.sub F5 (by decide) (by decide) (by decide))) R6 (by omega) (by assumption) (by assumption) rfl)
set_option maxHeartbeats 1000000 in
set_option maxRecDepth 20000 in
theorem l2_lives1 (d : Nat) {b : Nat} {σ0 : MS} {r : Int} {n1 : Int} {post : Option Value → MS → Prop} (hk : 0 ≤ n1 ∧ n1 ≤ 220) (hx_38 : ∀ (k : Int) (σ : MS) , (Fr [] [59] [] σ0 σ) → (RG σ) → (BO 59 σ) → (∀ y, 0 ≤ y → y < 192 * (n1 + 1) → σ.2.1 59 y = 0) → Tm (d + 1) m_X12_findLives 38 b σ [(3, .int (iI k)), (2, .int (iI n1)), (0, .ref b), (1, .int (iI r))] [] post) : ∀ (n : Nat) (k : Int) (σ : MS) , (Fr [] [59] [] σ0 σ) → (RG σ) → (0 ≤ k ∧ k ≤ 192 * (n1 + 1)) → (BO 59 σ) → (∀ y, 0 ≤ y → y < k → σ.2.1 59 y = 0) → (192 * (n1 + 1) - k).toNat = n → Tm (d + 1) m_X12_findLives 14 b σ [(3, .int (iI k)), (2, .int (iI n1)), (0, .ref b), (1, .int (iI r))] [] post := by
  intro n
  induction n using Nat.strongRecOn with
  | _ n ih =>
    intro k σ hF hR h0 hbl hz hm
    refine tm_iload_n dX12_findLives_14 rfl 0 rfl ?_
    refine tm_sipush dX12_findLives_15 (by decide) ?_
    refine tm_iload_n dX12_findLives_18 rfl 1 rfl ?_
    refine tm_iconst dX12_findLives_19 ?_
    refine tm_iadd dX12_findLives_20 ?_
    refine tm_imul dX12_findLives_21 ?_
    refine tm_icmp_ge (tgt := 38) dX12_findLives_22 (by decide) ⟨by omega, by omega⟩ ⟨by omega, by omega⟩ (fun h1 => ?_) (fun h1 => ?_)
    · exact tm_sub [0, 1, 2, 3] rfl (hx_38 (k) σ (Fr.rfl.trans (Fr.sub hF (by decide) (by decide) (by decide))) hR hbl (fun y a c => hz y a (by omega)))
    · refine tm_aload_n dX12_findLives_25 rfl 2 rfl ?_
      refine tm_get (k := 59) (v := .ref (b + 1 + 37)) lay_12 dX12_findLives_26 (by decide) fl12_130 rfl ?_
      refine tm_iload_n dX12_findLives_29 rfl 0 rfl ?_
      refine tm_iconst dX12_findLives_30 ?_
      refine tm_zast (z := k) (v := 0) dX12_findLives_31 (show mT[37]? = some (59, 2, 42432) from rfl) (by omega) (by omega) (by decide) (by omega) ?_
      refine tm_iinc (q0 := 0) (L' := [(3, .int (iI (k + 1))), (2, .int (iI n1)), (0, .ref b), (1, .int (iI r))]) dX12_findLives_32 rfl (by decide) rfl ?_
      refine tm_goto (tgt := 14) dX12_findLives_35 (by decide) ?_
      exact tm_sub [0, 1, 2, 3] rfl (ih _ (by omega) (k + 1) (sA 59 (k) (0) σ) ((Fr.rfl.trans (Fr.sub hF (by decide) (by decide) (by decide))).A (by decide)) (hR.A (by omega)) (by omega) (hbl.A (by omega)) (fun y a c => by
          by_cases q : y = k
          · subst q; exact ra_eq
          · exact ra_ne q (hz y a (by omega))) rfl)
set_option maxHeartbeats 1000000 in
set_option maxRecDepth 20000 in
theorem c2_X12_findLives (d : Nat) {b : Nat} {σ : MS} {r : Int} {F : Int} (hr : 0 ≤ r ∧ r < 6) (hR : RG σ) (hit : ITM σ) (hpar : PAR σ) (hok : OKS σ F r) (hl : LAB σ) (hbl : BO 59 σ) (hlex : LEX σ r) : Tm (d + 5) m_X12_findLives 0 b σ [(0, .ref b), (1, .int (iI r))] [] (fun ro σ2 => ro = none ∧ (Fr [] [46, 59] [] σ σ2) ∧ (RG σ2) ∧ (LAB σ2) ∧ (BO 59 σ2) ∧ (TGT σ2 r) ∧ (LVR σ σ2 r)) := by
  have q1 := hit r (by omega) (by omega)
  refine tm_aload_n dX12_findLives_0 rfl 0 rfl ?_
  refine tm_iload_n dX12_findLives_1 rfl 1 rfl ?_
  refine tm_callV (M := m_X12_findLives) (pc := 2) (ix := 420) (M' := m_X12_findLabels) (As := [.int (iI r)]) (rest := []) dX12_findLives_2 ok_X12_findLabels im_X12_findLabels se_X12_findLabels ml12_420 np_X12_findLabels rfl rfl (Nat.le_of_ble_eq_true rfl) (Nat.le_of_ble_eq_true rfl) rfl (c_X12_findLabels (d + 2) (σ := σ) (r := r) (by omega) hR hit hok.jmp.lbr hl) (fun r1 σ2 hp => ?_)
  obtain ⟨rfl, f4, f5, f6, f7⟩ := hp
  show Tm _ _ 5 b σ2 [(0, .ref b), (1, .int (iI r))] [] _
  have htg0 := LEX.tgt hlex f7 f4
  have hl0 := f6
  refine tm_aload_n dX12_findLives_5 rfl 0 rfl ?_
  refine tm_get (k := 9) (v := .ref (b + 1 + 7)) lay_12 dX12_findLives_6 (by decide) fl12_32 rfl ?_
  refine tm_iload_n dX12_findLives_9 rfl 1 rfl ?_
  refine tm_iald (z := r) (v := σ.2.1 9 r) dX12_findLives_10 (show mT[7]? = some (9, 0, 13) from rfl) (by omega) (by omega) (by decide) (ra_F f4 (by decide) (rfl)) ?_
  have g8 := RG.a hR 9 (r)
  refine tm_istore_n (L' := [(2, .int (iI (σ.2.1 9 r))), (0, .ref b), (1, .int (iI r))]) dX12_findLives_11 rfl (by decide) rfl ?_
  refine tm_iconst dX12_findLives_12 ?_
  refine tm_istore_n (L' := [(3, .int (iI 0)), (2, .int (iI (σ.2.1 9 r))), (0, .ref b), (1, .int (iI r))]) dX12_findLives_13 rfl (by decide) rfl ?_
  refine tm_sub [0, 1, 2, 3] rfl (l2_lives1 (d + 4) (σ0 := σ2) (r := r) (n1 := σ.2.1 9 r) (by omega) (fun k15 σ16 F11 R12 f13 f14 => ?_) _ (0) σ2 Fr.rfl f5 (by omega) (hbl.fr (by assumption) (by decide)) (fun y a c => by omega) rfl)
  show Tm _ _ 38 b σ16 [(3, .int (iI k15)), (2, .int (iI (σ.2.1 9 r))), (0, .ref b), (1, .int (iI r))] [] _
  have hz := f14
  have hb1 := f13
  have htg1 := htg0.fr F11 (by decide)
  refine tm_iconst dX12_findLives_38 ?_
  refine tm_istore_n (L' := [(3, .int (iI 1)), (2, .int (iI (σ.2.1 9 r))), (0, .ref b), (1, .int (iI r))]) dX12_findLives_39 rfl (by decide) rfl ?_
  refine tm_sub [0, 1, 2, 3] rfl (l2_lives2 (d) (σ0 := σ16) (r := r) (n1 := σ.2.1 9 r) (F := F) (ρ := σ) hr R12 (hit.fr (show Fr [] [46, 59] [] σ σ16 from ((Fr.rfl.trans (Fr.sub f4 (by decide) (by decide) (by decide))).trans (Fr.sub F11 (by decide) (by decide) (by decide)))) (by decide)) (hpar.fr (show Fr [] [46, 59] [] σ σ16 from ((Fr.rfl.trans (Fr.sub f4 (by decide) (by decide) (by decide))).trans (Fr.sub F11 (by decide) (by decide) (by decide)))) (by decide)) (hok.fr (show Fr [] [46, 59] [] σ σ16 from ((Fr.rfl.trans (Fr.sub f4 (by decide) (by decide) (by decide))).trans (Fr.sub F11 (by decide) (by decide) (by decide)))) (by decide)) (hl0.fr F11 (by decide)) htg1 (show Fr [] [46, 59] [] σ σ16 from ((Fr.rfl.trans (Fr.sub f4 (by decide) (by decide) (by decide))).trans (Fr.sub F11 (by decide) (by decide) (by decide)))) (by rw [((show Fr [] [46, 59] [] σ σ16 from ((Fr.rfl.trans (Fr.sub f4 (by decide) (by decide) (by decide))).trans (Fr.sub F11 (by decide) (by decide) (by decide))))).2.1 9 (by decide)]) (fun w23 σ24 F19 R20 f21 f22 => ?_) _ (1) σ16 Fr.rfl R12 (by omega) hb1 (fun k g a c e i q => absurd (hz (192 * k + g) (by omega) (by omega)) (by omega)) rfl)
  show Tm _ _ 183 b σ24 [(3, .int (iI w23)), (2, .int (iI (σ.2.1 9 r))), (0, .ref b), (1, .int (iI r))] [] _
  exact tm_vret rfl dX12_findLives_183 (⟨rfl, (((Fr.rfl.trans (Fr.sub f4 (by decide) (by decide) (by decide))).trans (Fr.sub F11 (by decide) (by decide) (by decide))).trans (Fr.sub F19 (by decide) (by decide) (by decide))), R20, LAB.fr (LAB.fr hl0 F11 (by decide)) F19 (by decide), f21, htg1.fr F19 (by decide), f22⟩)
