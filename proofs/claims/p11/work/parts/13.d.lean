section
theorem msg_copy {ρ σ : MS} {FI lf : Int → Int} {q F LB out g0 i g d ak a : Int} (h : MSG ρ σ FI lf q F LB out g0 (σ.1 62) i g) (h0 : 0 ≤ σ.1 62) (hg : 0 ≤ g ∧ g < F) (hd : 0 ≤ d ∧ d < 192) (ha : ak = 0 ∨ ak = 1 ∨ (ak = 2 ∧ 0 ≤ a ∧ a < 192)) : MSG ρ (fAdd 0 d 0 ak a σ) FI lf q F LB out g0 ((fAdd 0 d 0 ak a σ).1 62) i g := by
  rw [fAdd_n]
  exact h.neu h0 hg fAdd_off (fAdd_oki (by decide) (fun _ => hd) (fun w => by omega) (fun w => by omega) (fun w => by omega) (by omega)) (by rw [fAdd_at.1]; decide)
theorem msg_bind {ρ σ : MS} {FI lf : Int → Int} {q F LB out g0 i g n f w a z : Int} (h : MSG ρ σ FI lf q F LB out g0 (σ.1 62) i g) (h0 : 0 ≤ σ.1 62) (hg : 0 ≤ g ∧ g < F) (hn : 0 ≤ n ∧ n < 12) (hf : 0 ≤ f ∧ f < F) (hw : w = 1 ∨ (w = 2 ∧ 0 ≤ a ∧ a < 192)) (hz : z = 2640 + σ.1 62) : MSG ρ (sA 6 z w (fAdd 12 n f w a σ)) FI lf q F LB out g0 ((sA 6 z w (fAdd 12 n f w a σ)).1 62) i g := by
  subst hz
  rw [show (sA 6 (2640 + σ.1 62) w (fAdd 12 n f w a σ)).1 62 = σ.1 62 + 1 from fAdd_n (k := 12) (d := n) (o := f) (ak := w) (a := a) (σ := σ)]
  exact h.neu h0 hg fAddB_off (fAddB_oki hn hf hw) (Or.inr (Or.inr (ra_o (by decide) fAdd_at.1)))
theorem msg_start {ρ σ : MS} {FI lf frq lfq : Int → Int} {q F LB out g0 : Int} (m : MQQ ρ q F LB out g0 FI lf frq lfq) (hg : 0 ≤ g0 ∧ g0 < F) (hi : ∀ y, IEQ ρ y σ y) (h11 : σ.2.1 11 = ρ.2.1 11) (h0 : σ.1 62 = 0) : MSG ρ (fAdd 14 F 0 0 0 σ) FI lf q (F + ρ.2.1 14 q) LB out g0 ((fAdd 14 F 0 0 0 σ).1 62) 0 F := by
  obtain ⟨c, lx, m1, m2, m3, m4, m5, m6, m7, m8⟩ := m
  have e : MSG ρ σ FI lf q (F + ρ.2.1 14 q) LB out g0 0 0 g0 := ⟨⟨fun _ => g0, rfl, rfl, fun j a b => by omega, fun j a b => by omega, fun j a b => by omega⟩, fun j a b => by omega, fun j a b => by omega, fun j a b => by omega, fun j a b => by omega, fun y _ => hi y, h11⟩
  have at_ := fAdd_at (k := 14) (d := F) (o := 0) (ak := 0) (a := 0) (σ := σ)
  have off := fAdd_off (k := 14) (d := F) (o := 0) (ak := 0) (a := 0) (σ := σ)
  have ok := fAdd_oki (k := 14) (d := F) (o := 0) (ak := 0) (a := 0) (F := F + ρ.2.1 14 q) (σ := σ) (by decide) (fun w => by omega) (fun w => by omega) (fun w => by omega) (fun w => by omega) (by omega)
  rw [h0] at at_ off ok
  rw [fAdd_n, h0]
  exact e.put (g' := F) (by omega) (by omega) off ok (by omega) (fun w => by omega) (fun w => by omega) (fun _ => ⟨fun _ => ⟨by rw [at_.2.1]; exact m3, at_.2.1.symm, by omega⟩, fun w => by omega, fun w _ => absurd at_.1 w⟩)
theorem msg_end {ρ σ : MS} {q F LB out g0 a : Int} {FI lf frq lfq : Int → Int} (m : MQQ ρ q F LB out g0 FI lf frq lfq) (h : MSG ρ σ FI lf q (F + ρ.2.1 14 q) LB out g0 (σ.1 62) (ρ.2.1 9 q) (Gq ρ q F frq (ρ.2.1 9 q))) (ha : 0 ≤ σ.1 62) (hl : 0 ≤ LB ∧ LB ≤ out ∧ out < 4096) (hg0 : 0 ≤ g0 ∧ g0 < F) :
    MSG ρ (fAdd 15 F 0 0 0 (fAdd 13 out 0 0 0 σ)) FI lf q (F + ρ.2.1 14 q) LB out g0 (σ.1 62 + 1 + 1) (ρ.2.1 9 q) g0 ∧ LX (σ.1 62 + 1 + 1) (fun j => (fAdd 15 F 0 0 0 (fAdd 13 out 0 0 0 σ)).2.1 3 (2640 + j)) (fun j => (fAdd 15 F 0 0 0 (fAdd 13 out 0 0 0 σ)).2.1 4 (2640 + j)) := by
  have at1 := fAdd_at (k := 13) (d := out) (o := 0) (ak := 0) (a := 0) (σ := σ)
  have at2 := fAdd_at (k := 15) (d := F) (o := 0) (ak := 0) (a := 0) (σ := fAdd 13 out 0 0 0 σ)
  have off2 := fAdd_off (k := 15) (d := F) (o := 0) (ak := 0) (a := 0) (σ := fAdd 13 out 0 0 0 σ)
  have m8 := m.2.2.2.2.2.2.2.2.2
  have ok2 := fAdd_oki (k := 15) (d := F) (o := 0) (ak := 0) (a := 0) (F := F + ρ.2.1 14 q) (σ := fAdd 13 out 0 0 0 σ) (by decide) (fun w => by omega) (fun w => by omega) (fun w => by omega) (fun w => by omega) (by omega)
  rw [fAdd_n] at at2 off2 ok2
  exact melt_end m h ha hl.2.1 hg0 fAdd_off (fAdd_oki (by decide) (fun w => by omega) (fun w => by omega) (fun w => by omega) (fun w => by omega) (by omega)) at1.1 at1.2.1 off2 ok2 at2.1 at2.2.1
/-! counts -/
def cnt (f : Int → Int) : Nat → Int
  | 0 => 0
  | n + 1 => cnt f n + f n
theorem cnt_up {f : Int → Int} (hf : ∀ i, 0 ≤ f i) {n m : Nat} (h : n ≤ m) : cnt f n ≤ cnt f m := by
  induction m with
  | zero => rw [show n = 0 by omega]; exact Int.le_refl _
  | succ m ih =>
    by_cases e : n = m + 1
    · rw [e]; exact Int.le_refl _
    · have := ih (by omega)
      have := hf m
      show _ ≤ cnt f m + f m
      omega
theorem cnt_s {f : Int → Int} {k : Int} (h : 0 ≤ k) : cnt f (k + 1).toNat = cnt f k.toNat + f k := by
  rw [show (k + 1).toNat = k.toNat + 1 by omega]
  show cnt f k.toNat + f (k.toNat : Int) = _
  rw [show (k.toNat : Int) = k by omega]
def PMQ (ρ : MS) (q g : Int) : Prop := ∃ j, 0 ≤ j ∧ j < ρ.2.1 11 q ∧ ρ.2.1 18 (144 * q + j) = g
/-- lives at the beginning and is no parameter's -/
def lcf (ρ : MS) (q g : Int) : Int := if ρ.2.1 59 g = 1 ∧ ¬ ((0 < ρ.2.1 11 q ∧ ρ.2.1 18 (144 * q + 0) = g) ∨ (1 < ρ.2.1 11 q ∧ ρ.2.1 18 (144 * q + 1) = g) ∨ (2 < ρ.2.1 11 q ∧ ρ.2.1 18 (144 * q + 2) = g) ∨ (3 < ρ.2.1 11 q ∧ ρ.2.1 18 (144 * q + 3) = g)) then 1 else 0
theorem lcf_0 (ρ : MS) (q g : Int) : 0 ≤ lcf ρ q g := by unfold lcf; split <;> decide
theorem lcf_y {ρ : MS} {q g : Int} (h : ρ.2.1 59 g = 1) (h2 : ¬ ∃ j, 0 ≤ j ∧ j < ρ.2.1 11 q ∧ ρ.2.1 18 (144 * q + j) = g) : lcf ρ q g = 1 := if_pos ⟨h, fun w => by
  rcases w with w | w | w | w
  · exact h2 ⟨0, by decide, w⟩
  · exact h2 ⟨1, by decide, w⟩
  · exact h2 ⟨2, by decide, w⟩
  · exact h2 ⟨3, by decide, w⟩⟩
theorem lcf_n {ρ : MS} {q g : Int} (h : ρ.2.1 59 g ≠ 1) : lcf ρ q g = 0 := if_neg (fun w => h w.1)
theorem lcf_p {ρ : MS} {q g : Int} (hp : ρ.2.1 11 q ≤ 4) (h : ∃ j, 0 ≤ j ∧ j < ρ.2.1 11 q ∧ ρ.2.1 18 (144 * q + j) = g) : lcf ρ q g = 0 := if_neg (fun w => by
  obtain ⟨j, j0, j1, j2⟩ := h
  have c : j = 0 ∨ j = 1 ∨ j = 2 ∨ j = 3 := by omega
  apply w.2
  rcases c with e | e | e | e
  · subst e; exact Or.inl ⟨j1, j2⟩
  · subst e; exact Or.inr (Or.inl ⟨j1, j2⟩)
  · subst e; exact Or.inr (Or.inr (Or.inl ⟨j1, j2⟩))
  · subst e; exact Or.inr (Or.inr (Or.inr ⟨j1, j2⟩)))
def rcf (ρ : MS) (q i : Int) : Int := if ρ.2.1 3 (220 * q + i) = 7 then 1 else 0
theorem rcf_0 (ρ : MS) (q g : Int) : 0 ≤ rcf ρ q g := by unfold rcf; split <;> decide
/-- a number of 32 bits -/
def wr (z : Int) : Int := (iI z).toInt
theorem wr_eq (z : Int) : iI (wr z) = iI z := iI_self _
theorem wr_rng (z : Int) : -2147483648 ≤ wr z ∧ wr z ≤ 2147483647 := inR_toInt _
theorem wr_id {z : Int} (h : inR z) : wr z = z := iI_toInt h
/-- frames of q are put behind those of r -/
def FRM (ρ σ : MS) (r q F g0 base j : Int) : Prop :=
  (∀ u, 0 ≤ u → u < j → σ.2.1 15 (12 * r + F + u) = ρ.2.1 15 (12 * q + u) ∧ (u = 0 → σ.2.1 16 (12 * r + F + u) = g0) ∧ (u ≠ 0 → σ.2.1 16 (12 * r + F + u) = ρ.2.1 16 (12 * q + u) + F) ∧ ∀ n, 0 ≤ n → n < 12 → σ.2.1 18 (144 * r + 12 * (F + u) + n) = wr (ρ.2.1 18 (144 * q + 12 * u + n) + base)) ∧
  (∀ y, (y < 12 * r + F ∨ 12 * r + 12 ≤ y) → σ.2.1 15 y = ρ.2.1 15 y ∧ σ.2.1 16 y = ρ.2.1 16 y ∧ σ.2.1 17 y = ρ.2.1 17 y) ∧ (∀ z, (z < 144 * r + 12 * F ∨ 144 * r + 144 ≤ z) → σ.2.1 18 z = ρ.2.1 18 z)
theorem FRM.start {ρ σ : MS} {r q F g0 base : Int} (h15 : σ.2.1 15 = ρ.2.1 15) (h16 : σ.2.1 16 = ρ.2.1 16) (h17 : σ.2.1 17 = ρ.2.1 17) (h18 : σ.2.1 18 = ρ.2.1 18) : FRM ρ σ r q F g0 base 0 := ⟨fun u a b => by omega, fun y _ => by rw [h15, h16, h17]; exact ⟨rfl, rfl, rfl⟩, fun z _ => by rw [h18]⟩
theorem FRM.go {ρ σ τ : MS} {r q F g0 base j y a b c : Int} (h : FRM ρ σ r q F g0 base j) (hj : 0 ≤ j ∧ 0 ≤ F ∧ F + j < 12) (hy : y = 12 * r + F + j) (f : Fr [] [18] [] (sA 17 y c (sA 16 y b (sA 15 y a σ))) τ) (ha : a = ρ.2.1 15 (12 * q + j)) (hb0 : j = 0 → b = g0) (hb1 : j ≠ 0 → b = ρ.2.1 16 (12 * q + j) + F)
    (hn : ∀ n, 0 ≤ n → n < 12 → τ.2.1 18 (144 * r + 12 * (F + j) + n) = wr (ρ.2.1 18 (144 * q + 12 * j + n) + base)) (ho : ∀ z, (z < 144 * r + 12 * (F + j) ∨ 144 * r + 12 * (F + j) + 12 ≤ z) → τ.2.1 18 z = σ.2.1 18 z) : FRM ρ τ r q F g0 base (j + 1) := by
  subst hy
  obtain ⟨h1, h2, h3⟩ := h
  have e15 : τ.2.1 15 = (sA 15 (12 * r + F + j) a σ).2.1 15 := by rw [f.2.1 15 (by decide)]; rfl
  have e16 : τ.2.1 16 = (sA 16 (12 * r + F + j) b (sA 15 (12 * r + F + j) a σ)).2.1 16 := by rw [f.2.1 16 (by decide)]; rfl
  have e17 : τ.2.1 17 = (sA 17 (12 * r + F + j) c (sA 16 (12 * r + F + j) b (sA 15 (12 * r + F + j) a σ))).2.1 17 := by rw [f.2.1 17 (by decide)]
  refine ⟨fun u x w => ?_, fun y hy => ?_, fun z hz => ?_⟩
  · rw [e15, e16]
    by_cases z : u = j
    · subst z
      exact ⟨ra_eq.trans ha, fun e => ra_eq.trans (hb0 e), fun e => ra_eq.trans (hb1 e), hn⟩
    · obtain ⟨g1, g2, g3, g4⟩ := h1 u x (by omega)
      exact ⟨ra_ne (by omega) g1, fun e => ra_ne (by omega) (ra_o (by decide) (g2 e)), fun e => ra_ne (by omega) (ra_o (by decide) (g3 e)), fun n n0 n1 => (ho _ (by omega)).trans (g4 n n0 n1)⟩
  · rw [e15, e16, e17]
    obtain ⟨g1, g2, g3⟩ := h2 y hy
    exact ⟨ra_ne (by omega) g1, ra_ne (by omega) (ra_o (by decide) g2), ra_ne (by omega) (ra_o (by decide) (ra_o (by decide) g3))⟩
  · exact (ho z (by omega)).trans (h3 z hz)
theorem FRM.okf {ρ τ : MS} {r q F g0 base m : Int} (h : FRM ρ τ r q F g0 base (ρ.2.1 14 q)) (hr : OKF ρ r) (hq : OKF ρ q) (hF : F = ρ.2.1 14 r) (h12 : F + ρ.2.1 14 q ≤ 12) (hm : RGN ρ q m (ρ.2.1 14 q)) (hb : 0 ≤ base ∧ base + m ≤ 192) (t14 : τ.2.1 14 r = F + ρ.2.1 14 q) (t12 : τ.2.1 12 = ρ.2.1 12) (hnm : NAM ρ) : OKF τ r := by
  subst hF
  obtain ⟨h1, h2, h3⟩ := h
  have q1 := hr.1
  have q2 := hq.1
  unfold OKF
  rw [t14, t12]
  refine ⟨by omega, fun f x y => ?_⟩
  by_cases z : f < ρ.2.1 14 r
  · have g := h2 (12 * r + f) (by omega)
    rw [g.1]
    have o := hr.2 f x z
    refine ⟨o.1, fun n n0 n1 => ?_⟩
    have b12 := o.2 n n0 n1
    have := hnm _ o.1.1 o.1.2
    rw [h3 _ (by omega)]; exact b12
  · have g := h1 (f - ρ.2.1 14 r) (by omega) (by omega)
    rw [show 12 * r + ρ.2.1 14 r + (f - ρ.2.1 14 r) = 12 * r + f by omega, show 144 * r + 12 * (ρ.2.1 14 r + (f - ρ.2.1 14 r)) = 144 * r + 12 * f by omega] at g
    rw [g.1]
    have o := hq.2 (f - ρ.2.1 14 r) (by omega) (by omega)
    refine ⟨o.1, fun n n0 n1 => ?_⟩
    have b := o.2 n n0 n1
    have bm := hm (f - ρ.2.1 14 r) (by omega) (by omega) n n0 n1
    have := hnm _ o.1.1 o.1.2
    have w := g.2.2.2 n n0 (by omega)
    rw [w, wr_id ⟨by omega, by omega⟩]
    omega
theorem FRM.fri {ρ τ : MS} {r q F g0 base : Int} (h : FRM ρ τ r q F g0 base (ρ.2.1 14 q)) (hr : FRI ρ r) (hq : FRI ρ q) (hF : F = ρ.2.1 14 r) (h1F : 1 ≤ F ∧ F ≤ 12) (hg : 0 ≤ g0 ∧ g0 < F) (t14 : τ.2.1 14 r = F + ρ.2.1 14 q) : FRI τ r := by
  subst hF
  obtain ⟨h1, h2, h3⟩ := h
  refine ⟨by rw [(h2 (12 * r + 0) (by omega)).2.1]; exact hr.1, fun f x y => ?_⟩
  rw [t14] at y
  by_cases z : f < ρ.2.1 14 r
  · rw [(h2 (12 * r + f) (by omega)).2.1]; exact hr.2 f x z
  · have g := h1 (f - ρ.2.1 14 r) (by omega) (by omega)
    rw [show 12 * r + ρ.2.1 14 r + (f - ρ.2.1 14 r) = 12 * r + f by omega] at g
    by_cases w : f - ρ.2.1 14 r = 0
    · rw [g.2.1 w]; omega
    · rw [g.2.2.1 w]
      have := hq.2 (f - ρ.2.1 14 r) (by omega) (by omega)
      omega
/-- what melting routine q in at item k of routine r stands on -/
def MOH (ρ : MS) (r k q f base lb out to g0 m : Int) (FI lf frq lfq : Int → Int) : Prop :=
  (((0 ≤ r ∧ r < 6) ∧ (0 ≤ q ∧ q < 6) ∧ q ≠ r) ∧ (0 ≤ k ∧ k < ρ.2.1 9 r ∧ ρ.2.1 9 r ≤ 200) ∧ (0 ≤ base ∧ 0 ≤ m ∧ base + m ≤ 100) ∧ (0 ≤ to ∧ to < 192) ∧ (0 ≤ lb ∧ lb ≤ out ∧ out < 4096) ∧ f + ρ.2.1 14 q ≤ 12 ∧ ρ.2.1 9 q ≤ 200 ∧ (0 ≤ g0 ∧ g0 < f) ∧ f = ρ.2.1 14 r ∧ 1 ≤ f ∧ 1 ≤ ρ.2.1 14 q ∧ 1 ≤ ρ.2.1 9 q) ∧
  MQQ ρ q f lb out g0 FI lf frq lfq ∧ OKS ρ (ρ.2.1 14 q) q ∧ (∀ j, 0 ≤ j → j < ρ.2.1 9 q → ¬ ρ.2.1 3 (220 * q + j) = 10) ∧ RGI ρ q m (ρ.2.1 9 q) ∧ RGN ρ q m (ρ.2.1 14 q) ∧ OKI ρ f (220 * r + k) ∧ FR0 ρ q ∧ OKF ρ q ∧ PAR ρ ∧ NAM ρ
theorem MOH.n {ρ : MS} {r k q f base lb out to g0 m : Int} {FI lf frq lfq : Int → Int} (h : MOH ρ r k q f base lb out to g0 m FI lf frq lfq) : ((0 ≤ r ∧ r < 6) ∧ (0 ≤ q ∧ q < 6) ∧ q ≠ r) ∧ (0 ≤ k ∧ k < ρ.2.1 9 r ∧ ρ.2.1 9 r ≤ 200) ∧ (0 ≤ base ∧ 0 ≤ m ∧ base + m ≤ 100) ∧ (0 ≤ to ∧ to < 192) ∧ (0 ≤ lb ∧ lb ≤ out ∧ out < 4096) ∧ f + ρ.2.1 14 q ≤ 12 ∧ ρ.2.1 9 q ≤ 200 ∧ (0 ≤ g0 ∧ g0 < f) ∧ f = ρ.2.1 14 r ∧ 1 ≤ f ∧ 1 ≤ ρ.2.1 14 q ∧ 1 ≤ ρ.2.1 9 q := h.1
theorem MOH.mih {ρ σ : MS} {r k q f base lb out to g0 m i : Int} {FI lf frq lfq : Int → Int} (h : MOH ρ r k q f base lb out to g0 m FI lf frq lfq) (ms : MSG ρ σ FI lf q (f + ρ.2.1 14 q) lb out g0 (σ.1 62) i (Gq ρ q f frq i)) (ha : 0 ≤ σ.1 62) (hi : 0 ≤ i ∧ i < ρ.2.1 9 q) : MIH ρ σ q f base lb to out g0 (σ.1 62) i m FI lf frq lfq := by
  have n := h.n
  obtain ⟨_, mq, ok, nc, ri, rn, _⟩ := h
  exact ⟨mq, ms, ha, hi, ok i hi.1 hi.2, nc i hi.1 hi.2, (ri i hi.1 hi.2).2, fun w => (ri i hi.1 hi.2).1 (Or.inl w), ⟨n.2.2.1.1, by omega⟩, n.2.2.2.1, n.2.2.2.2.1, by omega⟩
/-- of a name of q's frame 0 -/
theorem MOH.nm {ρ : MS} {r k q f base lb out to g0 m n : Int} {FI lf frq lfq : Int → Int} (h : MOH ρ r k q f base lb out to g0 m FI lf frq lfq) (h0 : 0 ≤ n) (h1 : n < ρ.2.1 12 q) : n < 12 ∧ 0 ≤ ρ.2.1 18 (144 * q + n) ∧ ρ.2.1 18 (144 * q + n) < m := by
  have nn := h.n
  obtain ⟨_, mq, ok, nc, ri, rn, ox, f0, of_, pa, na⟩ := h
  unfold FR0 at f0
  have a := (of_.2 0 (by omega) (by omega)).2 n h0 (by rw [f0]; exact h1)
  have b := rn 0 (by omega) (by omega) n h0 (by rw [f0]; exact h1)
  rw [Int.mul_zero, Int.add_zero] at a b
  have c := na q nn.1.2.1.1 nn.1.2.1.2
  exact ⟨by omega, a.1, b⟩
theorem MOH.ar {ρ σ : MS} {r k q f base lb out to g0 m n : Int} {FI lf frq lfq : Int → Int} (h : MOH ρ r k q f base lb out to g0 m FI lf frq lfq) (hi : IEQ ρ (220 * r + k) σ (220 * r + k)) (h0 : 0 ≤ n) (h1 : n < 4) : (0 ≤ σ.2.1 7 (4 * (220 * r + k) + n) ∧ σ.2.1 7 (4 * (220 * r + k) + n) ≤ 2) ∧ (σ.2.1 7 (4 * (220 * r + k) + n) = 2 → 0 ≤ σ.2.1 8 (4 * (220 * r + k) + n) ∧ σ.2.1 8 (4 * (220 * r + k) + n) < 192) := by
  have o := h.2.2.2.2.2.2.1.2.2.2.2.2.2.2.1 n h0 h1
  rw [(hi.2.2.2.2 n h0 h1).1, (hi.2.2.2.2 n h0 h1).2]
  exact ⟨o.1, fun w => (o.2 w).1⟩
/-- frames and counts of others stay -/
def XF (r F : Int) (ρ τ : MS) : Prop := (∀ y, (y < 12 * r + F ∨ 12 * r + 12 ≤ y) → τ.2.1 15 y = ρ.2.1 15 y ∧ τ.2.1 16 y = ρ.2.1 16 y ∧ τ.2.1 17 y = ρ.2.1 17 y) ∧ (∀ z, (z < 144 * r + 12 * F ∨ 144 * r + 144 ≤ z) → τ.2.1 18 z = ρ.2.1 18 z) ∧ (∀ j, j ≠ r → τ.2.1 14 j = ρ.2.1 14 j ∧ τ.2.1 9 j = ρ.2.1 9 j)
theorem FRM.fr {ss ks js : List Nat} {ρ σ τ : MS} {r q F g0 base j : Int} (h : FRM ρ σ r q F g0 base j) (f : Fr ss ks js σ τ) (hk : ∀ k ∈ [15, 16, 17, 18], k ∉ ks) : FRM ρ τ r q F g0 base j := by
  unfold FRM
  rw [f.q hk (k := 15) (by decide), f.q hk (k := 16) (by decide), f.q hk (k := 17) (by decide), f.q hk (k := 18) (by decide)]
  exact h
/-- all of it -/
theorem melt_all {ρ σ1 σ2 σ3 σ4 τ : MS} {r q k a F LB out g0 base m to : Int} {FI lf frr lfr frq lfq : Int → Int} (mo : MOH ρ r k q F base LB out to g0 m FI lf frq lfq) (h10 : ρ.2.1 3 (220 * r + k) = 10) (ha : 1 ≤ a) (hn : ρ.2.1 9 r + (a - 1) ≤ 200)
    (cw : CW (ρ.2.1 9 r) (ρ.2.1 14 r) (ρ.1 10) (iK ρ r) (iD ρ r) (iO ρ r) (iF ρ r) frr lfr) (lx : LEX ρ r) (lm : LBM ρ r) (ok : OKS ρ (ρ.2.1 14 r) r) (okf : OKF ρ r) (fri : FRI ρ r) (friq : FRI ρ q) (hg : g0 = frr k)
    (m1 : MSG ρ σ1 FI lf q (F + ρ.2.1 14 q) LB out g0 a (ρ.2.1 9 q) g0) (mx : LX a (fun j => σ1.2.1 3 (2640 + j)) (fun j => σ1.2.1 4 (2640 + j)))
    (hlb : ∀ j, 0 ≤ j → j < ρ.2.1 9 r → (ρ.2.1 3 (220 * r + j) = 8 ∨ ρ.2.1 3 (220 * r + j) = 9 ∨ ρ.2.1 3 (220 * r + j) = 13) → ρ.2.1 4 (220 * r + j) < LB) (hout : out + 2 ≤ 121 * (F + ρ.2.1 14 q)) (hFI : ∀ f, 1 ≤ f → f < F → FI f = ρ.2.1 16 (12 * r + f))
    (f12 : Fr [] [14, 15, 16, 17, 18] [] σ1 σ2) (su : SHU σ2 σ3 r (ρ.2.1 9 r) a k) (cp : CPI σ3 σ4 r k a a) (f23 : Fr [] [3, 4, 5, 6, 7, 8] [] σ2 σ3) (f34 : Fr [] [3, 4, 5, 6, 7, 8] [] σ3 σ4) (hτ : τ = sA 9 r (ρ.2.1 9 r + (a - 1)) σ4)
    (f01 : Fr [62] [3, 4, 5, 6, 7, 8] [] ρ σ1) (fm : FRM ρ σ2 r q F g0 base (ρ.2.1 14 q)) (t14 : σ2.2.1 14 = (sA 14 r (F + ρ.2.1 14 q) ρ).2.1 14) :
    (CODE τ r ∧ LEX τ r ∧ LBM τ r ∧ OKS τ (τ.2.1 14 r) r ∧ XR r ρ τ) ∧ OKF τ r ∧ FRI τ r ∧ XF r (ρ.2.1 14 r) ρ τ ∧ τ.2.1 14 r = ρ.2.1 14 r + ρ.2.1 14 q ∧ τ.2.1 9 r = ρ.2.1 9 r + (a - 1) := by
  have n := mo.n
  obtain ⟨_, mq, okq, nc, ri, rn, ox, f0, okq2, pa, na⟩ := mo
  have hF := n.2.2.2.2.2.2.2.2.1
  have g : ∀ k, k ∉ [3, 4, 5, 6, 7, 8, 9] → τ.2.1 k = σ2.2.1 k := fun k hk => by
    have h9 : k ≠ 9 := fun e => hk (by rw [e]; decide)
    have h3 : k ∉ [3, 4, 5, 6, 7, 8] := fun e => hk ((by decide : ∀ k ∈ [3, 4, 5, 6, 7, 8], k ∈ [3, 4, 5, 6, 7, 8, 9]) k e)
    rw [hτ, show (sA 9 r (ρ.2.1 9 r + (a - 1)) σ4).2.1 k = σ4.2.1 k from by simp only [sA, if_neg h9], f34.2.1 k h3, f23.2.1 k h3]
  have t9 : τ.2.1 9 r = ρ.2.1 9 r + (a - 1) := by rw [hτ]; exact ra_eq
  have e14 : τ.2.1 14 = (sA 14 r (F + ρ.2.1 14 q) ρ).2.1 14 := (g 14 (by decide)).trans t14
  have t14r : τ.2.1 14 r = F + ρ.2.1 14 q := by rw [e14]; exact ra_eq
  have fm2 : FRM ρ τ r q F g0 base (ρ.2.1 14 q) := by
    unfold FRM
    rw [g 15 (by decide), g 16 (by decide), g 17 (by decide), g 18 (by decide)]
    exact fm
  have s10 : τ.1 10 = ρ.1 10 := by
    rw [hτ, show (sA 9 r (ρ.2.1 9 r + (a - 1)) σ4).1 10 = σ4.1 10 from rfl, f34.1 10 (by decide), f23.1 10 (by decide), f12.1 10 (by decide), f01.1 10 (by decide)]
  have s11 : τ.2.1 11 = ρ.2.1 11 := by rw [g 11 (by decide), f12.2.1 11 (by decide), f01.2.1 11 (by decide)]
  have s12 : τ.2.1 12 = ρ.2.1 12 := by rw [g 12 (by decide), f12.2.1 12 (by decide), f01.2.1 12 (by decide)]
  have hq14 : 1 ≤ ρ.2.1 14 q := n.2.2.2.2.2.2.2.2.2.2.1
  have fin := melt_fin (τ := τ) n.1.1 ⟨n.2.1.1, n.2.1.2.1⟩ h10 ha hn cw lx lm ok hF hg (by omega) m1 mx hlb hout hFI (fun y => IEQ.fr f12 (by decide)) su cp (fun y => by rw [hτ]; exact IEQ.fr ((Fr.rfl (ss := []) (ks := [9]) (js := [])).A (by decide)) (by decide)) t9 t14r s10 s11 (fun f x y => by
    by_cases z : f < F
    · rw [(fm2.2.1 (12 * r + f) (by omega)).2.1]; exact (hFI f x z).symm
    · have w := fm2.1 (f - F) (by omega) (by omega)
      rw [show 12 * r + F + (f - F) = 12 * r + f by omega] at w
      by_cases v : f - F = 0
      · rw [w.2.1 v, show f = F by omega]; exact mq.2.2.2.2.1.symm
      · rw [w.2.2.1 v]
        have := mq.2.2.2.2.2.1 (f - F) (by omega)
        rw [show f - F + F = f by omega] at this
        exact this.symm)
  refine ⟨⟨fin.1, fin.2.1, fin.2.2.1, by rw [t14r]; exact fin.2.2.2.1, fin.2.2.2.2⟩, fm2.okf okf okq2 hF n.2.2.2.2.2.1 rn ⟨n.2.2.1.1, by omega⟩ t14r s12 na, fm2.fri fri friq hF ⟨by omega, by omega⟩ n.2.2.2.2.2.2.2.1 t14r, ⟨fun y hy => fm2.2.1 y (by omega), fun z hz => fm2.2.2 z (by omega), fun j hj => ⟨by rw [e14]; exact ra_ne hj rfl, ?_⟩⟩, by omega, t9⟩
  rw [hτ, show (sA 9 r (ρ.2.1 9 r + (a - 1)) σ4).2.1 9 j = σ4.2.1 9 j from ra_ne hj rfl, f34.2.1 9 (by decide), f23.2.1 9 (by decide), f12.2.1 9 (by decide), f01.2.1 9 (by decide)]
def FIx (ρ : MS) (r q F g0 : Int) : Int → Int := fun g => if g < F then ρ.2.1 16 (12 * r + g) else if g = F then g0 else ρ.2.1 16 (12 * q + (g - F)) + F
def lfx (F lb out : Int) (lfq : Int → Int) : Int → Int := fun l => if l = out then F else F + lfq (l - lb)
theorem mo_mk {ρ : MS} {r k q F base lb out to g0 m v2 : Int} {frq lfq : Int → Int} (h1 : ((0 ≤ r ∧ r < 6) ∧ (0 ≤ q ∧ q < 6) ∧ q ≠ r) ∧ (0 ≤ k ∧ k < ρ.2.1 9 r ∧ ρ.2.1 9 r ≤ 200) ∧ (0 ≤ base ∧ 0 ≤ m ∧ base + m ≤ 100) ∧ (0 ≤ to ∧ to < 192) ∧ (0 ≤ lb ∧ lb ≤ out ∧ out < 4096) ∧ F + ρ.2.1 14 q ≤ 12 ∧ ρ.2.1 9 q ≤ 200 ∧ (0 ≤ g0 ∧ g0 < F) ∧ F = ρ.2.1 14 r ∧ 1 ≤ F ∧ 1 ≤ ρ.2.1 14 q ∧ 1 ≤ ρ.2.1 9 q)
    (cq : CW (ρ.2.1 9 q) (ρ.2.1 14 q) (ρ.1 10) (iK ρ q) (iD ρ q) (iO ρ q) (iF ρ q) frq lfq) (lx : LEX ρ q) (ok : OKS ρ (ρ.2.1 14 q) q) (ho : out = lb + v2) (hl : ∀ j, 0 ≤ j → j < ρ.2.1 9 q → (ρ.2.1 3 (220 * q + j) = 8 ∨ ρ.2.1 3 (220 * q + j) = 9 ∨ ρ.2.1 3 (220 * q + j) = 13) → ρ.2.1 4 (220 * q + j) < v2)
    (nc : ∀ j, 0 ≤ j → j < ρ.2.1 9 q → ¬ ρ.2.1 3 (220 * q + j) = 10) (ri : RGI ρ q m (ρ.2.1 9 q)) (rn : RGN ρ q m (ρ.2.1 14 q)) (ox : OKI ρ F (220 * r + k)) (f0 : FR0 ρ q) (okf : OKF ρ q) (pa : PAR ρ) (na : NAM ρ) : MOH ρ r k q F base lb out to g0 m (FIx ρ r q F g0) (lfx F lb out lfq) frq lfq := by
  refine ⟨h1, ⟨cq, lx, fun l hl => if_neg hl, if_pos rfl, ?_, fun j hj => ?_, fun j a b c => ?_, h1.2.2.2.2.2.2.2.2.2.1, h1.2.2.2.2.2.2.2.2.2.2.2, h1.2.2.2.2.2.2.2.2.2.2.1⟩, ok, nc, ri, rn, ox, f0, okf, pa, na⟩
  · unfold FIx; rw [if_neg (by omega), if_pos rfl]
  · unfold FIx; rw [if_neg (by omega), if_neg (by omega), show j + F - F = j by omega]
  · have := hl j a b c
    have := (ok j a b).2.2.1 c
    omega
theorem FIx_lt {ρ : MS} {r q F g0 f : Int} (h : f < F) : FIx ρ r q F g0 f = ρ.2.1 16 (12 * r + f) := if_pos h

set_option maxHeartbeats 1000000 in
set_option maxRecDepth 20000 in
theorem l3_regs2 (d : Nat) {b : Nat} {σ : MS} {r : Int} {F : Int} {B : Int} {f : Int} {post : Option Value → MS → Prop} (hr : 0 ≤ r ∧ r < 6) (hR : RG σ) (hof : OKF σ r) (hnam : NAM σ) (hit : ITM σ) (hpar : PAR σ) (hok : OKS σ F r) (hRN : RGN σ r B (σ.2.1 14 r)) (hRI : RGI σ r B (σ.2.1 9 r)) (hB : 0 ≤ B ∧ B ≤ 192) (hf : 0 ≤ f ∧ f < σ.2.1 14 r) (hx_79 : ∀ (m : Int) (n1 : Int) , (0 ≤ m ∧ m ≤ B) → Tm (d + 1) m_X12_registers 79 b σ [(4, .int (iI n1)), (3, .int (iI f)), (2, .int (iI m)), (0, .ref b), (1, .int (iI r))] [] post) : ∀ (n : Nat) (m : Int) (n1 : Int) , (0 ≤ m ∧ m ≤ B ∧ 0 ≤ n1 ∧ n1 ≤ 12) → (12 - n1).toNat = n → Tm (d + 1) m_X12_registers 17 b σ [(4, .int (iI n1)), (3, .int (iI f)), (2, .int (iI m)), (0, .ref b), (1, .int (iI r))] [] post := by
  intro n
  induction n using Nat.strongRecOn with
  | _ n ih =>
    intro m n1 h0 hm
    have q1 := hof.1
    have q2 := (hof.2 f (by omega) (by omega)).1
    have q3 := hnam _ q2.1 q2.2
    refine tm_iload dX12_registers_17 0 rfl ?_
    refine tm_aload_n dX12_registers_19 rfl 3 rfl ?_
    refine tm_get (k := 12) (v := .ref (b + 1 + 9)) lay_12 dX12_registers_20 (by decide) fl12_38 rfl ?_
    refine tm_aload_n dX12_registers_23 rfl 3 rfl ?_
    refine tm_get (k := 15) (v := .ref (b + 1 + 12)) lay_12 dX12_registers_24 (by decide) fl12_47 rfl ?_
    refine tm_bipush dX12_registers_27 (by decide) ?_
    refine tm_iload_n dX12_registers_29 rfl 4 rfl ?_
    refine tm_imul dX12_registers_30 ?_
    refine tm_iload_n dX12_registers_31 rfl 1 rfl ?_
    refine tm_iadd dX12_registers_32 ?_
    refine tm_iald (z := (12 * r) + f) (v := σ.2.1 15 ((12 * r) + f)) dX12_registers_33 (show mT[12]? = some (15, 0, 72) from rfl) (by omega) (by omega) (by decide) (rfl) ?_
    have g1 := RG.a hR 15 ((12 * r) + f)
    refine tm_iald (z := σ.2.1 15 ((12 * r) + f)) (v := σ.2.1 12 (σ.2.1 15 ((12 * r) + f))) dX12_registers_34 (show mT[9]? = some (12, 0, 6) from rfl) (by omega) (by omega) (by decide) (rfl) ?_
    have g2 := RG.a hR 12 (σ.2.1 15 ((12 * r) + f))
    refine tm_icmp_ge (tgt := 79) dX12_registers_35 (by decide) ⟨by omega, by omega⟩ ⟨by omega, by omega⟩ (fun h3 => ?_) (fun h3 => ?_)
    · exact tm_sub [0, 1, 2, 3, 4] rfl (hx_79 (m) (n1) (by omega))
    · have q4 := (hof.2 f (by omega) (by omega)).2 n1 (by omega) (by omega)
      have q5 := hRN f (by omega) (by omega) n1 (by omega) (by omega)
      refine tm_aload_n dX12_registers_38 rfl 3 rfl ?_
      refine tm_get (k := 18) (v := .ref (b + 1 + 15)) lay_12 dX12_registers_39 (by decide) fl12_56 rfl ?_
      refine tm_sipush dX12_registers_42 (by decide) ?_
      refine tm_iload_n dX12_registers_45 rfl 4 rfl ?_
      refine tm_imul dX12_registers_46 ?_
      refine tm_bipush dX12_registers_47 (by decide) ?_
      refine tm_iload_n dX12_registers_49 rfl 1 rfl ?_
      refine tm_imul dX12_registers_50 ?_
      refine tm_iadd dX12_registers_51 ?_
      refine tm_iload dX12_registers_52 0 rfl ?_
      refine tm_iadd dX12_registers_54 ?_
      refine tm_iald (z := ((144 * r) + (12 * f)) + n1) (v := σ.2.1 18 (((144 * r) + (12 * f)) + n1)) dX12_registers_55 (show mT[15]? = some (18, 0, 864) from rfl) (by omega) (by omega) (by decide) (rfl) ?_
      have g4 := RG.a hR 18 (((144 * r) + (12 * f)) + n1)
      refine tm_istore (L' := [(5, .int (iI (σ.2.1 18 (((144 * r) + (12 * f)) + n1)))), (4, .int (iI n1)), (3, .int (iI f)), (2, .int (iI m)), (0, .ref b), (1, .int (iI r))]) dX12_registers_56 (by decide) rfl ?_
      refine tm_iload dX12_registers_58 0 rfl ?_
      refine tm_iload_n dX12_registers_60 rfl 3 rfl ?_
      refine tm_icmp_lt (tgt := 71) dX12_registers_61 (by decide) ⟨by omega, by omega⟩ ⟨by omega, by omega⟩ (fun h5 => ?_) (fun h5 => ?_)
      · refine tm_iload_n dX12_registers_71 rfl 3 rfl ?_
        refine tm_istore_n (L' := [(2, .int (iI m)), (5, .int (iI (σ.2.1 18 (((144 * r) + (12 * f)) + n1)))), (4, .int (iI n1)), (3, .int (iI f)), (0, .ref b), (1, .int (iI r))]) dX12_registers_72 rfl (by decide) rfl ?_
        refine tm_iinc (q0 := 2) (L' := [(4, .int (iI (n1 + 1))), (2, .int (iI m)), (5, .int (iI (σ.2.1 18 (((144 * r) + (12 * f)) + n1)))), (3, .int (iI f)), (0, .ref b), (1, .int (iI r))]) dX12_registers_73 rfl (by decide) rfl ?_
        refine tm_goto (tgt := 17) dX12_registers_76 (by decide) ?_
        exact tm_sub [0, 3, 1, 4, 5] rfl (ih _ (by omega) (m) (n1 + 1) (by omega) rfl)
      · refine tm_iload dX12_registers_64 0 rfl ?_
        refine tm_iconst dX12_registers_66 ?_
        refine tm_iadd dX12_registers_67 ?_
        refine tm_goto (tgt := 72) dX12_registers_68 (by decide) ?_
        refine tm_istore_n (L' := [(2, .int (iI ((σ.2.1 18 (((144 * r) + (12 * f)) + n1)) + 1))), (5, .int (iI (σ.2.1 18 (((144 * r) + (12 * f)) + n1)))), (4, .int (iI n1)), (3, .int (iI f)), (0, .ref b), (1, .int (iI r))]) dX12_registers_72 rfl (by decide) rfl ?_
        refine tm_iinc (q0 := 2) (L' := [(4, .int (iI (n1 + 1))), (2, .int (iI ((σ.2.1 18 (((144 * r) + (12 * f)) + n1)) + 1))), (5, .int (iI (σ.2.1 18 (((144 * r) + (12 * f)) + n1)))), (3, .int (iI f)), (0, .ref b), (1, .int (iI r))]) dX12_registers_73 rfl (by decide) rfl ?_
        refine tm_goto (tgt := 17) dX12_registers_76 (by decide) ?_
        exact tm_sub [0, 3, 1, 4, 5] rfl (ih _ (by omega) ((σ.2.1 18 (((144 * r) + (12 * f)) + n1)) + 1) (n1 + 1) (by omega) rfl)
set_option maxHeartbeats 1000000 in
set_option maxRecDepth 20000 in
theorem l3_regs1 (d : Nat) {b : Nat} {σ : MS} {r : Int} {F : Int} {B : Int} {post : Option Value → MS → Prop} (hr : 0 ≤ r ∧ r < 6) (hR : RG σ) (hof : OKF σ r) (hnam : NAM σ) (hit : ITM σ) (hpar : PAR σ) (hok : OKS σ F r) (hRN : RGN σ r B (σ.2.1 14 r)) (hRI : RGI σ r B (σ.2.1 9 r)) (hB : 0 ≤ B ∧ B ≤ 192) (hx_85 : ∀ (m : Int) (f : Int) , (0 ≤ m ∧ m ≤ B) → Tm (d + 1) m_X12_registers 85 b σ [(3, .int (iI f)), (2, .int (iI m)), (0, .ref b), (1, .int (iI r))] [] post) : ∀ (n : Nat) (m : Int) (f : Int) , (0 ≤ m ∧ m ≤ B ∧ 0 ≤ f ∧ f ≤ σ.2.1 14 r) → (12 - f).toNat = n → Tm (d + 1) m_X12_registers 4 b σ [(3, .int (iI f)), (2, .int (iI m)), (0, .ref b), (1, .int (iI r))] [] post := by
  intro n
  induction n using Nat.strongRecOn with
  | _ n ih =>
    intro m f h0 hm
    have q1 := hof.1
    refine tm_iload_n dX12_registers_4 rfl 0 rfl ?_
    refine tm_aload_n dX12_registers_5 rfl 2 rfl ?_
    refine tm_get (k := 14) (v := .ref (b + 1 + 11)) lay_12 dX12_registers_6 (by decide) fl12_44 rfl ?_
    refine tm_iload_n dX12_registers_9 rfl 3 rfl ?_
    refine tm_iald (z := r) (v := σ.2.1 14 r) dX12_registers_10 (show mT[11]? = some (14, 0, 6) from rfl) (by omega) (by omega) (by decide) (rfl) ?_
    have g1 := RG.a hR 14 (r)
    refine tm_icmp_ge (tgt := 85) dX12_registers_11 (by decide) ⟨by omega, by omega⟩ ⟨by omega, by omega⟩ (fun h2 => ?_) (fun h2 => ?_)
    · exact tm_sub [0, 1, 2, 3] rfl (hx_85 (m) (f) (by omega))
    · refine tm_iconst dX12_registers_14 ?_
      refine tm_istore (L' := [(4, .int (iI 0)), (3, .int (iI f)), (2, .int (iI m)), (0, .ref b), (1, .int (iI r))]) dX12_registers_15 (by decide) rfl ?_
      refine tm_sub [0, 1, 2, 3, 4] rfl (l3_regs2 (d) (σ := σ) (r := r) (f := f) (F := F) (B := B) hr hR hof hnam hit hpar hok hRN hRI hB (by omega) (fun m8 n19 f7 => ?_) _ (m) (0) (by omega) rfl)
      show Tm _ _ 79 b σ [(4, .int (iI n19)), (3, .int (iI f)), (2, .int (iI m8)), (0, .ref b), (1, .int (iI r))] [] _
      refine tm_iinc (q0 := 1) (L' := [(3, .int (iI (f + 1))), (4, .int (iI n19)), (2, .int (iI m8)), (0, .ref b), (1, .int (iI r))]) dX12_registers_79 rfl (by decide) rfl ?_
      refine tm_goto (tgt := 4) dX12_registers_82 (by decide) ?_
      exact tm_sub [0, 2, 3, 4] rfl (ih _ (by omega) (m8) (f + 1) (by omega) rfl)
set_option maxHeartbeats 1000000 in
set_option maxRecDepth 20000 in
theorem l3_regs4 (d : Nat) {b : Nat} {σ : MS} {r : Int} {F : Int} {B : Int} {k : Int} {post : Option Value → MS → Prop} (hr : 0 ≤ r ∧ r < 6) (hR : RG σ) (hof : OKF σ r) (hnam : NAM σ) (hit : ITM σ) (hpar : PAR σ) (hok : OKS σ F r) (hRN : RGN σ r B (σ.2.1 14 r)) (hRI : RGI σ r B (σ.2.1 9 r)) (hB : 0 ≤ B ∧ B ≤ 192) (hk : 0 ≤ k ∧ k < σ.2.1 9 r) (hx_214 : ∀ (m : Int) (i : Int) , (0 ≤ m ∧ m ≤ B) → Tm (d + 4) m_X12_registers 214 b σ [(5, .int (iI i)), (4, .int (iI (220 * r + k))), (3, .int (iI k)), (2, .int (iI m)), (0, .ref b), (1, .int (iI r))] [] post) : ∀ (n : Nat) (m : Int) (i : Int) , (0 ≤ m ∧ m ≤ B ∧ 0 ≤ i ∧ i ≤ 4) → (4 - i).toNat = n → Tm (d + 4) m_X12_registers 146 b σ [(5, .int (iI i)), (4, .int (iI (220 * r + k))), (3, .int (iI k)), (2, .int (iI m)), (0, .ref b), (1, .int (iI r))] [] post := by
  intro n
  induction n using Nat.strongRecOn with
  | _ n ih =>
    intro m i h0 hm
    have q1 := hit r (by omega) (by omega)
    refine tm_iload dX12_registers_146 0 rfl ?_
    refine tm_aload_n dX12_registers_148 rfl 4 rfl ?_
    refine tm_iload dX12_registers_149 1 rfl ?_
    refine tm_callV (M := m_X12_registers) (pc := 151) (ix := 199) (M' := m_X12_args) (As := [.int (iI (220 * r + k))]) (rest := [.int (iI i)]) dX12_registers_151 ok_X12_args im_X12_args se_X12_args ml12_199 np_X12_args rfl rfl (Nat.le_of_ble_eq_true rfl) (Nat.le_of_ble_eq_true rfl) rfl (c_X12_args (d) (σ := σ) (x := 220 * r + k) (by omega) hR (hok.of (by omega) (by omega)) hpar) (fun r1 σ2 hp => ?_)
    obtain ⟨v3, rfl, rfl, f4, f5⟩ := hp
    show Tm _ _ 154 b σ [(5, .int (iI i)), (4, .int (iI (220 * r + k))), (3, .int (iI k)), (2, .int (iI m)), (0, .ref b), (1, .int (iI r))] [.int (iI v3), .int (iI i)] _
    refine tm_icmp_ge (tgt := 214) dX12_registers_154 (by decide) ⟨by omega, by omega⟩ ⟨by omega, by omega⟩ (fun h6 => ?_) (fun h6 => ?_)
    · exact tm_sub [0, 1, 2, 3, 4, 5] rfl (hx_214 (m) (i) (by omega))
    · have q2 := hok.arg (k := k) (by omega) (by omega) (i := i) (by omega) (by omega)
      have q5 := (hRI k (by omega) (by omega)).2 i (by omega) (by omega)
      refine tm_aload_n dX12_registers_157 rfl 4 rfl ?_
      refine tm_get (k := 7) (v := .ref (b + 1 + 5)) lay_12 dX12_registers_158 (by decide) fl12_26 rfl ?_
      refine tm_iconst dX12_registers_161 ?_
      refine tm_iload dX12_registers_162 1 rfl ?_
      refine tm_imul dX12_registers_164 ?_
      refine tm_iload dX12_registers_165 0 rfl ?_
      refine tm_iadd dX12_registers_167 ?_
      refine tm_iald (z := (4 * (220 * r + k)) + i) (v := σ.2.1 7 ((4 * (220 * r + k)) + i)) dX12_registers_168 (show mT[5]? = some (7, 0, 11440) from rfl) (by omega) (by omega) (by decide) (rfl) ?_
      have g7 := RG.a hR 7 ((4 * (220 * r + k)) + i)
      refine tm_iconst dX12_registers_169 ?_
      refine tm_icmp_ne (tgt := 206) dX12_registers_170 (by decide) ⟨by omega, by omega⟩ ⟨by decide, by decide⟩ (fun h8 => ?_) (fun h8 => ?_)
      · refine tm_iload_n dX12_registers_206 rfl 3 rfl ?_
        refine tm_istore_n (L' := [(2, .int (iI m)), (5, .int (iI i)), (4, .int (iI (220 * r + k))), (3, .int (iI k)), (0, .ref b), (1, .int (iI r))]) dX12_registers_207 rfl (by decide) rfl ?_
        refine tm_iinc (q0 := 1) (L' := [(5, .int (iI (i + 1))), (2, .int (iI m)), (4, .int (iI (220 * r + k))), (3, .int (iI k)), (0, .ref b), (1, .int (iI r))]) dX12_registers_208 rfl (by decide) rfl ?_
        refine tm_goto (tgt := 146) dX12_registers_211 (by decide) ?_
        exact tm_sub [0, 2, 3, 1, 4, 5] rfl (ih _ (by omega) (m) (i + 1) (by omega) rfl)
      · refine tm_aload_n dX12_registers_173 rfl 4 rfl ?_
        refine tm_get (k := 8) (v := .ref (b + 1 + 6)) lay_12 dX12_registers_174 (by decide) fl12_29 rfl ?_
        refine tm_iconst dX12_registers_177 ?_
        refine tm_iload dX12_registers_178 1 rfl ?_
        refine tm_imul dX12_registers_180 ?_
        refine tm_iload dX12_registers_181 0 rfl ?_
        refine tm_iadd dX12_registers_183 ?_
        refine tm_iald (z := (4 * (220 * r + k)) + i) (v := σ.2.1 8 ((4 * (220 * r + k)) + i)) dX12_registers_184 (show mT[6]? = some (8, 0, 11440) from rfl) (by omega) (by omega) (by decide) (rfl) ?_
        have g9 := RG.a hR 8 ((4 * (220 * r + k)) + i)
        refine tm_iload_n dX12_registers_185 rfl 3 rfl ?_
        refine tm_icmp_lt (tgt := 206) dX12_registers_186 (by decide) ⟨by omega, by omega⟩ ⟨by omega, by omega⟩ (fun h10 => ?_) (fun h10 => ?_)
        · refine tm_iload_n dX12_registers_206 rfl 3 rfl ?_
          refine tm_istore_n (L' := [(2, .int (iI m)), (5, .int (iI i)), (4, .int (iI (220 * r + k))), (3, .int (iI k)), (0, .ref b), (1, .int (iI r))]) dX12_registers_207 rfl (by decide) rfl ?_
          refine tm_iinc (q0 := 1) (L' := [(5, .int (iI (i + 1))), (2, .int (iI m)), (4, .int (iI (220 * r + k))), (3, .int (iI k)), (0, .ref b), (1, .int (iI r))]) dX12_registers_208 rfl (by decide) rfl ?_
          refine tm_goto (tgt := 146) dX12_registers_211 (by decide) ?_
          exact tm_sub [0, 2, 3, 1, 4, 5] rfl (ih _ (by omega) (m) (i + 1) (by omega) rfl)
        · refine tm_aload_n dX12_registers_189 rfl 4 rfl ?_
          refine tm_get (k := 8) (v := .ref (b + 1 + 6)) lay_12 dX12_registers_190 (by decide) fl12_29 rfl ?_
          refine tm_iconst dX12_registers_193 ?_
          refine tm_iload dX12_registers_194 1 rfl ?_
          refine tm_imul dX12_registers_196 ?_
          refine tm_iload dX12_registers_197 0 rfl ?_
          refine tm_iadd dX12_registers_199 ?_
          refine tm_iald (z := (4 * (220 * r + k)) + i) (v := σ.2.1 8 ((4 * (220 * r + k)) + i)) dX12_registers_200 (show mT[6]? = some (8, 0, 11440) from rfl) (by omega) (by omega) (by decide) (rfl) ?_
          have g11 := RG.a hR 8 ((4 * (220 * r + k)) + i)
          refine tm_iconst dX12_registers_201 ?_
          refine tm_iadd dX12_registers_202 ?_
          refine tm_goto (tgt := 207) dX12_registers_203 (by decide) ?_
          refine tm_istore_n (L' := [(2, .int (iI ((σ.2.1 8 ((4 * (220 * r + k)) + i)) + 1))), (5, .int (iI i)), (4, .int (iI (220 * r + k))), (3, .int (iI k)), (0, .ref b), (1, .int (iI r))]) dX12_registers_207 rfl (by decide) rfl ?_
          refine tm_iinc (q0 := 1) (L' := [(5, .int (iI (i + 1))), (2, .int (iI ((σ.2.1 8 ((4 * (220 * r + k)) + i)) + 1))), (4, .int (iI (220 * r + k))), (3, .int (iI k)), (0, .ref b), (1, .int (iI r))]) dX12_registers_208 rfl (by decide) rfl ?_
          refine tm_goto (tgt := 146) dX12_registers_211 (by decide) ?_
          exact tm_sub [0, 2, 3, 1, 4, 5] rfl (ih _ (by omega) ((σ.2.1 8 ((4 * (220 * r + k)) + i)) + 1) (i + 1) (by omega) rfl)
set_option maxHeartbeats 1000000 in
set_option maxRecDepth 20000 in
theorem l3_regs3 (d : Nat) {b : Nat} {σ : MS} {r : Int} {F : Int} {B : Int} {post : Option Value → MS → Prop} (hr : 0 ≤ r ∧ r < 6) (hR : RG σ) (hof : OKF σ r) (hnam : NAM σ) (hit : ITM σ) (hpar : PAR σ) (hok : OKS σ F r) (hRN : RGN σ r B (σ.2.1 14 r)) (hRI : RGI σ r B (σ.2.1 9 r)) (hB : 0 ≤ B ∧ B ≤ 192) (hx_220 : ∀ (m : Int) (k : Int) , (0 ≤ m ∧ m ≤ B) → Tm (d + 4) m_X12_registers 220 b σ [(3, .int (iI k)), (2, .int (iI m)), (0, .ref b), (1, .int (iI r))] [] post) : ∀ (n : Nat) (m : Int) (k : Int) , (0 ≤ m ∧ m ≤ B ∧ 0 ≤ k ∧ k ≤ σ.2.1 9 r) → (220 - k).toNat = n → Tm (d + 4) m_X12_registers 87 b σ [(3, .int (iI k)), (2, .int (iI m)), (0, .ref b), (1, .int (iI r))] [] post := by
  intro n
  induction n using Nat.strongRecOn with
  | _ n ih =>
    intro m k h0 hm
    have q1 := hit r (by omega) (by omega)
    refine tm_iload_n dX12_registers_87 rfl 0 rfl ?_
    refine tm_aload_n dX12_registers_88 rfl 2 rfl ?_
    refine tm_get (k := 9) (v := .ref (b + 1 + 7)) lay_12 dX12_registers_89 (by decide) fl12_32 rfl ?_
    refine tm_iload_n dX12_registers_92 rfl 3 rfl ?_
    refine tm_iald (z := r) (v := σ.2.1 9 r) dX12_registers_93 (show mT[7]? = some (9, 0, 13) from rfl) (by omega) (by omega) (by decide) (rfl) ?_
    have g1 := RG.a hR 9 (r)
    refine tm_icmp_ge (tgt := 220) dX12_registers_94 (by decide) ⟨by omega, by omega⟩ ⟨by omega, by omega⟩ (fun h2 => ?_) (fun h2 => ?_)
    · exact tm_sub [0, 1, 2, 3] rfl (hx_220 (m) (k) (by omega))
    · refine tm_aload_n dX12_registers_97 rfl 2 rfl ?_
      refine tm_iload_n dX12_registers_98 rfl 3 rfl ?_
      refine tm_iload_n dX12_registers_99 rfl 0 rfl ?_
      refine tm_callV (M := m_X12_registers) (pc := 100) (ix := 203) (M' := m_X12_at) (As := [.int (iI r), .int (iI k)]) (rest := []) dX12_registers_100 ok_X12_at im_X12_at se_X12_at ml12_203 np_X12_at rfl rfl (Nat.le_of_ble_eq_true rfl) (Nat.le_of_ble_eq_true rfl) rfl (c_X12_at (d + 2) (σ := σ) (x := r) (k := k) ) (fun r3 σ4 hp => ?_)
      obtain ⟨v5, rfl, rfl, f6⟩ := hp
      subst f6
      show Tm _ _ 103 b σ [(3, .int (iI k)), (2, .int (iI m)), (0, .ref b), (1, .int (iI r))] [.int (iI (220 * r + k))] _
      refine tm_istore (L' := [(4, .int (iI (220 * r + k))), (3, .int (iI k)), (2, .int (iI m)), (0, .ref b), (1, .int (iI r))]) dX12_registers_103 (by decide) rfl ?_
      have q2 := hok.dest (k := k) (by omega) (by omega)
      have q5 := (hRI k (by omega) (by omega)).1
      refine tm_aload_n dX12_registers_105 rfl 3 rfl ?_
      refine tm_get (k := 3) (v := .ref (b + 1 + 1)) lay_12 dX12_registers_106 (by decide) fl12_13 rfl ?_
      refine tm_iload dX12_registers_109 0 rfl ?_
      refine tm_iald (z := 220 * r + k) (v := σ.2.1 3 (220 * r + k)) dX12_registers_111 (show mT[1]? = some (3, 0, 2860) from rfl) (by omega) (by omega) (by decide) (rfl) ?_
      have g7 := RG.a hR 3 (220 * r + k)
      refine tm_callS (M := m_X12_registers) (pc := 112) (ix := 192) (M' := m_X12_writes) (As := [.int (iI (σ.2.1 3 (220 * r + k)))]) (rest := []) dX12_registers_112 ok_X12_writes stt_X12_writes ml12_192 np_X12_writes rfl (Nat.le_of_ble_eq_true rfl) (Nat.le_of_ble_eq_true rfl) rfl (c_X12_writes (d + 2) (σ := σ) (x := σ.2.1 3 (220 * r + k)) (by omega)) (fun r8 σ9 hp => ?_)
      obtain ⟨v10, rfl, rfl, f11, f12⟩ := hp
      show Tm _ _ 115 b σ [(4, .int (iI (220 * r + k))), (3, .int (iI k)), (2, .int (iI m)), (0, .ref b), (1, .int (iI r))] [.int (iI v10)] _
      refine tm_if_eq (tgt := 141) dX12_registers_115 (by decide) ⟨by omega, by omega⟩ (fun h13 => ?_) (fun h13 => ?_)
      · refine tm_iload_n dX12_registers_141 rfl 2 rfl ?_
        refine tm_istore_n (L' := [(2, .int (iI m)), (4, .int (iI (220 * r + k))), (3, .int (iI k)), (0, .ref b), (1, .int (iI r))]) dX12_registers_142 rfl (by decide) rfl ?_
        refine tm_iconst dX12_registers_143 ?_
        refine tm_istore (L' := [(5, .int (iI 0)), (2, .int (iI m)), (4, .int (iI (220 * r + k))), (3, .int (iI k)), (0, .ref b), (1, .int (iI r))]) dX12_registers_144 (by decide) rfl ?_
        refine tm_sub [0, 2, 3, 1, 4, 5] rfl (l3_regs4 (d) (σ := σ) (r := r) (k := k) (F := F) (B := B) hr hR hof hnam hit hpar hok hRN hRI hB (by omega) (fun m19 i20 f18 => ?_) _ (m) (0) (by omega) rfl)
        show Tm _ _ 214 b σ [(5, .int (iI i20)), (4, .int (iI (220 * r + k))), (3, .int (iI k)), (2, .int (iI m19)), (0, .ref b), (1, .int (iI r))] [] _
        refine tm_iinc (q0 := 2) (L' := [(3, .int (iI (k + 1))), (5, .int (iI i20)), (4, .int (iI (220 * r + k))), (2, .int (iI m19)), (0, .ref b), (1, .int (iI r))]) dX12_registers_214 rfl (by decide) rfl ?_
        refine tm_goto (tgt := 87) dX12_registers_217 (by decide) ?_
        exact tm_sub [0, 3, 4, 5] rfl (ih _ (by omega) (m19) (k + 1) (by omega) rfl)
      · refine tm_aload_n dX12_registers_118 rfl 3 rfl ?_
        refine tm_get (k := 4) (v := .ref (b + 1 + 2)) lay_12 dX12_registers_119 (by decide) fl12_17 rfl ?_
        refine tm_iload dX12_registers_122 0 rfl ?_
        refine tm_iald (z := 220 * r + k) (v := σ.2.1 4 (220 * r + k)) dX12_registers_124 (show mT[2]? = some (4, 0, 2860) from rfl) (by omega) (by omega) (by decide) (rfl) ?_
        have g21 := RG.a hR 4 (220 * r + k)
        refine tm_iload_n dX12_registers_125 rfl 2 rfl ?_
        refine tm_icmp_lt (tgt := 141) dX12_registers_126 (by decide) ⟨by omega, by omega⟩ ⟨by omega, by omega⟩ (fun h22 => ?_) (fun h22 => ?_)
        · refine tm_iload_n dX12_registers_141 rfl 2 rfl ?_
          refine tm_istore_n (L' := [(2, .int (iI m)), (4, .int (iI (220 * r + k))), (3, .int (iI k)), (0, .ref b), (1, .int (iI r))]) dX12_registers_142 rfl (by decide) rfl ?_
          refine tm_iconst dX12_registers_143 ?_
          refine tm_istore (L' := [(5, .int (iI 0)), (2, .int (iI m)), (4, .int (iI (220 * r + k))), (3, .int (iI k)), (0, .ref b), (1, .int (iI r))]) dX12_registers_144 (by decide) rfl ?_
          refine tm_sub [0, 2, 3, 1, 4, 5] rfl (l3_regs4 (d) (σ := σ) (r := r) (k := k) (F := F) (B := B) hr hR hof hnam hit hpar hok hRN hRI hB (by omega) (fun m28 i29 f27 => ?_) _ (m) (0) (by omega) rfl)
          show Tm _ _ 214 b σ [(5, .int (iI i29)), (4, .int (iI (220 * r + k))), (3, .int (iI k)), (2, .int (iI m28)), (0, .ref b), (1, .int (iI r))] [] _
          refine tm_iinc (q0 := 2) (L' := [(3, .int (iI (k + 1))), (5, .int (iI i29)), (4, .int (iI (220 * r + k))), (2, .int (iI m28)), (0, .ref b), (1, .int (iI r))]) dX12_registers_214 rfl (by decide) rfl ?_
          refine tm_goto (tgt := 87) dX12_registers_217 (by decide) ?_
          exact tm_sub [0, 3, 4, 5] rfl (ih _ (by omega) (m28) (k + 1) (by omega) rfl)
        · refine tm_aload_n dX12_registers_129 rfl 3 rfl ?_
          refine tm_get (k := 4) (v := .ref (b + 1 + 2)) lay_12 dX12_registers_130 (by decide) fl12_17 rfl ?_
          refine tm_iload dX12_registers_133 0 rfl ?_
          refine tm_iald (z := 220 * r + k) (v := σ.2.1 4 (220 * r + k)) dX12_registers_135 (show mT[2]? = some (4, 0, 2860) from rfl) (by omega) (by omega) (by decide) (rfl) ?_
          have g30 := RG.a hR 4 (220 * r + k)
          refine tm_iconst dX12_registers_136 ?_
          refine tm_iadd dX12_registers_137 ?_
          refine tm_goto (tgt := 142) dX12_registers_138 (by decide) ?_
          refine tm_istore_n (L' := [(2, .int (iI ((σ.2.1 4 (220 * r + k)) + 1))), (4, .int (iI (220 * r + k))), (3, .int (iI k)), (0, .ref b), (1, .int (iI r))]) dX12_registers_142 rfl (by decide) rfl ?_
          refine tm_iconst dX12_registers_143 ?_
          refine tm_istore (L' := [(5, .int (iI 0)), (2, .int (iI ((σ.2.1 4 (220 * r + k)) + 1))), (4, .int (iI (220 * r + k))), (3, .int (iI k)), (0, .ref b), (1, .int (iI r))]) dX12_registers_144 (by decide) rfl ?_
          refine tm_sub [0, 2, 3, 1, 4, 5] rfl (l3_regs4 (d) (σ := σ) (r := r) (k := k) (F := F) (B := B) hr hR hof hnam hit hpar hok hRN hRI hB (by omega) (fun m36 i37 f35 => ?_) _ ((σ.2.1 4 (220 * r + k)) + 1) (0) (by omega) rfl)
          show Tm _ _ 214 b σ [(5, .int (iI i37)), (4, .int (iI (220 * r + k))), (3, .int (iI k)), (2, .int (iI m36)), (0, .ref b), (1, .int (iI r))] [] _
          refine tm_iinc (q0 := 2) (L' := [(3, .int (iI (k + 1))), (5, .int (iI i37)), (4, .int (iI (220 * r + k))), (2, .int (iI m36)), (0, .ref b), (1, .int (iI r))]) dX12_registers_214 rfl (by decide) rfl ?_
          refine tm_goto (tgt := 87) dX12_registers_217 (by decide) ?_
          exact tm_sub [0, 3, 4, 5] rfl (ih _ (by omega) (m36) (k + 1) (by omega) rfl)
set_option maxHeartbeats 1000000 in
set_option maxRecDepth 20000 in
theorem c2_X12_registers (d : Nat) {b : Nat} {σ : MS} {r : Int} {F : Int} {B : Int} (hr : 0 ≤ r ∧ r < 6) (hR : RG σ) (hof : OKF σ r) (hnam : NAM σ) (hit : ITM σ) (hpar : PAR σ) (hok : OKS σ F r) (hRN : RGN σ r B (σ.2.1 14 r)) (hRI : RGI σ r B (σ.2.1 9 r)) (hB : 0 ≤ B ∧ B ≤ 192) : Tm (d + 4) m_X12_registers 0 b σ [(0, .ref b), (1, .int (iI r))] [] (fun ro σ2 => ∃ v : Int, ro = some (.int (iI v)) ∧ σ = σ2 ∧ (0 ≤ v ∧ v ≤ B)) := by
  have q1 := hit r (by omega) (by omega)
  have q9 := hof.1
  refine tm_iconst dX12_registers_0 ?_
  refine tm_istore_n (L' := [(2, .int (iI 0)), (0, .ref b), (1, .int (iI r))]) dX12_registers_1 rfl (by decide) rfl ?_
  refine tm_iconst dX12_registers_2 ?_
  refine tm_istore_n (L' := [(3, .int (iI 0)), (2, .int (iI 0)), (0, .ref b), (1, .int (iI r))]) dX12_registers_3 rfl (by decide) rfl ?_
  refine tm_sub [0, 1, 2, 3] rfl (l3_regs1 (d + 3) (σ := σ) (r := r) (F := F) (B := B) hr hR hof hnam hit hpar hok hRN hRI hB (fun m6 f7 f5 => ?_) _ (0) (0) (by omega) rfl)
  show Tm _ _ 85 b σ [(3, .int (iI f7)), (2, .int (iI m6)), (0, .ref b), (1, .int (iI r))] [] _
  refine tm_iconst dX12_registers_85 ?_
  refine tm_istore_n (L' := [(3, .int (iI 0)), (2, .int (iI m6)), (0, .ref b), (1, .int (iI r))]) dX12_registers_86 rfl (by decide) rfl ?_
  refine tm_sub [0, 1, 2, 3] rfl (l3_regs3 (d) (σ := σ) (r := r) (F := F) (B := B) hr hR hof hnam hit hpar hok hRN hRI hB (fun m13 k14 f12 => ?_) _ (m6) (0) (by omega) rfl)
  show Tm _ _ 220 b σ [(3, .int (iI k14)), (2, .int (iI m13)), (0, .ref b), (1, .int (iI r))] [] _
  refine tm_iload_n dX12_registers_220 rfl 1 rfl ?_
  exact tm_iret rfl dX12_registers_221 (⟨_, rfl, rfl, by omega⟩)
end
section
theorem dX12_meltOne_52 : decode cX12_meltOne 52 = .ok (.iload 10, 2) := by decide +kernel
theorem dX12_meltOne_54 : decode cX12_meltOne 54 = .ok (.ifCond .le 26, 3) := by decide +kernel
theorem dX12_meltOne_57 : decode cX12_meltOne 57 = .ok (.aload_n 0, 1) := by decide +kernel
theorem dX12_meltOne_58 : decode cX12_meltOne 58 = .ok (.getfield 13, 3) := by decide +kernel
theorem dX12_meltOne_61 : decode cX12_meltOne 61 = .ok (.aload_n 0, 1) := by decide +kernel
theorem dX12_meltOne_62 : decode cX12_meltOne 62 = .ok (.iload_n 1, 1) := by decide +kernel
theorem dX12_meltOne_63 : decode cX12_meltOne 63 = .ok (.iload 10, 2) := by decide +kernel
theorem dX12_meltOne_65 : decode cX12_meltOne 65 = .ok (.invokevirtual 203, 3) := by decide +kernel
theorem dX12_meltOne_68 : decode cX12_meltOne 68 = .ok (.iaload, 1) := by decide +kernel
theorem dX12_meltOne_69 : decode cX12_meltOne 69 = .ok (.bipush 11, 2) := by decide +kernel
theorem dX12_meltOne_71 : decode cX12_meltOne 71 = .ok (.if_icmp .eq 9, 3) := by decide +kernel
theorem dX12_meltOne_74 : decode cX12_meltOne 74 = .ok (.iinc 10 (-1), 3) := by decide +kernel
theorem dX12_meltOne_77 : decode cX12_meltOne 77 = .ok (.goto (-25), 3) := by decide +kernel
set_option maxHeartbeats 2000000 in
set_option maxRecDepth 20000 in
theorem l_mo1 (d : Nat) {b : Nat} {σ : MS} {r : Int} {k : Int} {q : Int} {f : Int} {base : Int} {lb : Int} {out : Int} {to : Int} {j0 : Int} {post : Option Value → MS → Prop} (hr : 0 ≤ r ∧ r < 6) (hR : RG σ) (hk : 0 ≤ k ∧ k < 220) (hj : 0 ≤ j0 ∧ j0 < k ∧ σ.2.1 3 (220 * r + j0) = 11) (h10 : σ.2.1 3 (220 * r + k) = 10) (hb5 : ∀ i, j0 < i → i < k → σ.2.1 3 (220 * r + i) ≤ 5) (hx_80 : ∀ (mk : Int) , (mk = j0) → Tm (d + 2) m_X12_meltOne 80 b σ [(10, .int (iI mk)), (9, .int (iI to)), (8, .int (iI out)), (7, .int (iI lb)), (6, .int (iI base)), (5, .int (iI f)), (4, .int (iI (220 * r + k))), (0, .ref b), (1, .int (iI r)), (2, .int (iI k)), (3, .int (iI q))] [] post) : ∀ (n : Nat) (mk : Int) , (j0 ≤ mk ∧ mk ≤ k) → (mk).toNat = n → Tm (d + 2) m_X12_meltOne 52 b σ [(10, .int (iI mk)), (9, .int (iI to)), (8, .int (iI out)), (7, .int (iI lb)), (6, .int (iI base)), (5, .int (iI f)), (4, .int (iI (220 * r + k))), (0, .ref b), (1, .int (iI r)), (2, .int (iI k)), (3, .int (iI q))] [] post := by
  intro n
  induction n using Nat.strongRecOn with
  | _ n ih =>
    intro mk h0 hm
    refine tm_iload dX12_meltOne_52 0 rfl ?_
    refine tm_if_le (tgt := 80) dX12_meltOne_54 (by decide) ⟨by omega, by omega⟩ (fun h1 => ?_) (fun h1 => ?_)
    · exact tm_sub [0, 1, 2, 3, 4, 5, 6, 7, 8, 9, 10] rfl (hx_80 (mk) (by
        by_cases e : mk = j0
        · exact e
        · exfalso
          by_cases e2 : mk = k
          · subst e2; omega
          · have := hb5 mk (by omega) (by omega); omega))
    · refine tm_aload_n dX12_meltOne_57 rfl 7 rfl ?_
      refine tm_get (k := 3) (v := .ref (b + 1 + 1)) lay_12 dX12_meltOne_58 (by decide) fl12_13 rfl ?_
      refine tm_aload_n dX12_meltOne_61 rfl 7 rfl ?_
      refine tm_iload_n dX12_meltOne_62 rfl 8 rfl ?_
      refine tm_iload dX12_meltOne_63 0 rfl ?_
      refine tm_callV (M := m_X12_meltOne) (pc := 65) (ix := 203) (M' := m_X12_at) (As := [.int (iI r), .int (iI mk)]) (rest := [.ref (b + 1 + 1)]) dX12_meltOne_65 ok_X12_at im_X12_at se_X12_at ml12_203 np_X12_at rfl rfl (Nat.le_of_ble_eq_true rfl) (Nat.le_of_ble_eq_true rfl) rfl (c_X12_at (d) (σ := σ) (x := r) (k := mk) ) (fun r2 σ3 hp => ?_)
      obtain ⟨v4, rfl, rfl, f5⟩ := hp
      subst f5
      show Tm _ _ 68 b σ [(10, .int (iI mk)), (9, .int (iI to)), (8, .int (iI out)), (7, .int (iI lb)), (6, .int (iI base)), (5, .int (iI f)), (4, .int (iI (220 * r + k))), (0, .ref b), (1, .int (iI r)), (2, .int (iI k)), (3, .int (iI q))] [.int (iI (220 * r + mk)), .ref (b + 1 + 1)] _
      refine tm_iald (z := 220 * r + mk) (v := σ.2.1 3 (220 * r + mk)) dX12_meltOne_68 (show mT[1]? = some (3, 0, 2860) from rfl) (by omega) (by omega) (by decide) (rfl) ?_
      have g6 := RG.a hR 3 (220 * r + mk)
      refine tm_bipush dX12_meltOne_69 (by decide) ?_
      refine tm_icmp_eq (tgt := 80) dX12_meltOne_71 (by decide) ⟨by omega, by omega⟩ ⟨by decide, by decide⟩ (fun h7 => ?_) (fun h7 => ?_)
      · exact tm_sub [0, 1, 2, 3, 4, 5, 6, 7, 8, 9, 10] rfl (hx_80 (mk) (by
        by_cases e : mk = j0
        · exact e
        · exfalso
          by_cases e2 : mk = k
          · subst e2; omega
          · have := hb5 mk (by omega) (by omega); omega))
      · refine tm_iinc (q0 := 0) (L' := [(10, .int (iI (mk + (-1)))), (9, .int (iI to)), (8, .int (iI out)), (7, .int (iI lb)), (6, .int (iI base)), (5, .int (iI f)), (4, .int (iI (220 * r + k))), (0, .ref b), (1, .int (iI r)), (2, .int (iI k)), (3, .int (iI q))]) dX12_meltOne_74 rfl (by decide) rfl ?_
        refine tm_goto (tgt := 52) dX12_meltOne_77 (by decide) ?_
        exact tm_sub [0, 1, 2, 3, 4, 5, 6, 7, 8, 9, 10] rfl (ih _ (by omega) (mk + (-1)) (by
          refine ⟨?_, by omega⟩
          by_cases e : mk = j0
          · subst e; omega
          · omega) rfl)
theorem dX12_meltOne_99 : decode cX12_meltOne 99 = .ok (.iload 11, 2) := by decide +kernel
theorem dX12_meltOne_101 : decode cX12_meltOne 101 = .ok (.aload_n 0, 1) := by decide +kernel
theorem dX12_meltOne_102 : decode cX12_meltOne 102 = .ok (.getfield 38, 3) := by decide +kernel
theorem dX12_meltOne_105 : decode cX12_meltOne 105 = .ok (.iload_n 3, 1) := by decide +kernel
theorem dX12_meltOne_106 : decode cX12_meltOne 106 = .ok (.iaload, 1) := by decide +kernel
theorem dX12_meltOne_107 : decode cX12_meltOne 107 = .ok (.if_icmp .ge 144, 3) := by decide +kernel
theorem dX12_meltOne_110 : decode cX12_meltOne 110 = .ok (.iload 6, 2) := by decide +kernel
theorem dX12_meltOne_112 : decode cX12_meltOne 112 = .ok (.aload_n 0, 1) := by decide +kernel
theorem dX12_meltOne_113 : decode cX12_meltOne 113 = .ok (.getfield 56, 3) := by decide +kernel
theorem dX12_meltOne_116 : decode cX12_meltOne 116 = .ok (.sipush 144, 3) := by decide +kernel
theorem dX12_meltOne_119 : decode cX12_meltOne 119 = .ok (.iload_n 3, 1) := by decide +kernel
theorem dX12_meltOne_120 : decode cX12_meltOne 120 = .ok (.imul, 1) := by decide +kernel
theorem dX12_meltOne_121 : decode cX12_meltOne 121 = .ok (.iload 11, 2) := by decide +kernel
theorem dX12_meltOne_123 : decode cX12_meltOne 123 = .ok (.iadd, 1) := by decide +kernel
theorem dX12_meltOne_124 : decode cX12_meltOne 124 = .ok (.iaload, 1) := by decide +kernel
theorem dX12_meltOne_125 : decode cX12_meltOne 125 = .ok (.iadd, 1) := by decide +kernel
theorem dX12_meltOne_126 : decode cX12_meltOne 126 = .ok (.istore 12, 2) := by decide +kernel
theorem dX12_meltOne_128 : decode cX12_meltOne 128 = .ok (.iload 11, 2) := by decide +kernel
theorem dX12_meltOne_130 : decode cX12_meltOne 130 = .ok (.aload_n 0, 1) := by decide +kernel
theorem dX12_meltOne_131 : decode cX12_meltOne 131 = .ok (.getfield 35, 3) := by decide +kernel
theorem dX12_meltOne_134 : decode cX12_meltOne 134 = .ok (.iload_n 3, 1) := by decide +kernel
theorem dX12_meltOne_135 : decode cX12_meltOne 135 = .ok (.iaload, 1) := by decide +kernel
theorem dX12_meltOne_136 : decode cX12_meltOne 136 = .ok (.if_icmp .ge 35, 3) := by decide +kernel
theorem dX12_meltOne_171 : decode cX12_meltOne 171 = .ok (.aload_n 0, 1) := by decide +kernel
theorem dX12_meltOne_172 : decode cX12_meltOne 172 = .ok (.bipush 12, 2) := by decide +kernel
theorem dX12_meltOne_174 : decode cX12_meltOne 174 = .ok (.iload 11, 2) := by decide +kernel
theorem dX12_meltOne_176 : decode cX12_meltOne 176 = .ok (.iload 5, 2) := by decide +kernel
theorem dX12_meltOne_178 : decode cX12_meltOne 178 = .ok (.iload 11, 2) := by decide +kernel
theorem dX12_meltOne_180 : decode cX12_meltOne 180 = .ok (.aload_n 0, 1) := by decide +kernel
theorem dX12_meltOne_181 : decode cX12_meltOne 181 = .ok (.getfield 35, 3) := by decide +kernel
theorem dX12_meltOne_184 : decode cX12_meltOne 184 = .ok (.iload_n 3, 1) := by decide +kernel
theorem dX12_meltOne_185 : decode cX12_meltOne 185 = .ok (.iaload, 1) := by decide +kernel
theorem dX12_meltOne_186 : decode cX12_meltOne 186 = .ok (.if_icmp .ge 7, 3) := by decide +kernel
theorem dX12_meltOne_193 : decode cX12_meltOne 193 = .ok (.iconst 1, 1) := by decide +kernel
theorem dX12_meltOne_194 : decode cX12_meltOne 194 = .ok (.iload 11, 2) := by decide +kernel
theorem dX12_meltOne_196 : decode cX12_meltOne 196 = .ok (.aload_n 0, 1) := by decide +kernel
theorem dX12_meltOne_197 : decode cX12_meltOne 197 = .ok (.getfield 35, 3) := by decide +kernel
theorem dX12_meltOne_200 : decode cX12_meltOne 200 = .ok (.iload_n 3, 1) := by decide +kernel
theorem dX12_meltOne_201 : decode cX12_meltOne 201 = .ok (.iaload, 1) := by decide +kernel
theorem dX12_meltOne_202 : decode cX12_meltOne 202 = .ok (.if_icmp .ge 8, 3) := by decide +kernel
theorem dX12_meltOne_210 : decode cX12_meltOne 210 = .ok (.iconst 0, 1) := by decide +kernel
theorem dX12_meltOne_211 : decode cX12_meltOne 211 = .ok (.invokevirtual 515, 3) := by decide +kernel
theorem dX12_meltOne_214 : decode cX12_meltOne 214 = .ok (.aload_n 0, 1) := by decide +kernel
theorem dX12_meltOne_215 : decode cX12_meltOne 215 = .ok (.getfield 23, 3) := by decide +kernel
theorem dX12_meltOne_218 : decode cX12_meltOne 218 = .ok (.sipush 2640, 3) := by decide +kernel
theorem dX12_meltOne_221 : decode cX12_meltOne 221 = .ok (.aload_n 0, 1) := by decide +kernel
theorem dX12_meltOne_222 : decode cX12_meltOne 222 = .ok (.getfield 509, 3) := by decide +kernel
theorem dX12_meltOne_225 : decode cX12_meltOne 225 = .ok (.iadd, 1) := by decide +kernel
theorem dX12_meltOne_226 : decode cX12_meltOne 226 = .ok (.iconst 1, 1) := by decide +kernel
theorem dX12_meltOne_227 : decode cX12_meltOne 227 = .ok (.isub, 1) := by decide +kernel
theorem dX12_meltOne_228 : decode cX12_meltOne 228 = .ok (.iload 11, 2) := by decide +kernel
theorem dX12_meltOne_230 : decode cX12_meltOne 230 = .ok (.aload_n 0, 1) := by decide +kernel
theorem dX12_meltOne_231 : decode cX12_meltOne 231 = .ok (.getfield 35, 3) := by decide +kernel
theorem dX12_meltOne_234 : decode cX12_meltOne 234 = .ok (.iload_n 3, 1) := by decide +kernel
theorem dX12_meltOne_235 : decode cX12_meltOne 235 = .ok (.iaload, 1) := by decide +kernel
theorem dX12_meltOne_236 : decode cX12_meltOne 236 = .ok (.if_icmp .ge 7, 3) := by decide +kernel
theorem dX12_meltOne_243 : decode cX12_meltOne 243 = .ok (.iconst 1, 1) := by decide +kernel
theorem dX12_meltOne_244 : decode cX12_meltOne 244 = .ok (.iastore, 1) := by decide +kernel
theorem dX12_meltOne_245 : decode cX12_meltOne 245 = .ok (.iinc 11 1, 3) := by decide +kernel
theorem dX12_meltOne_248 : decode cX12_meltOne 248 = .ok (.goto (-149), 3) := by decide +kernel
theorem dX12_meltOne_139 : decode cX12_meltOne 139 = .ok (.aload_n 0, 1) := by decide +kernel
theorem dX12_meltOne_140 : decode cX12_meltOne 140 = .ok (.iconst 0, 1) := by decide +kernel
theorem dX12_meltOne_141 : decode cX12_meltOne 141 = .ok (.iload 12, 2) := by decide +kernel
theorem dX12_meltOne_143 : decode cX12_meltOne 143 = .ok (.iconst 0, 1) := by decide +kernel
theorem dX12_meltOne_144 : decode cX12_meltOne 144 = .ok (.aload_n 0, 1) := by decide +kernel
theorem dX12_meltOne_145 : decode cX12_meltOne 145 = .ok (.getfield 26, 3) := by decide +kernel
theorem dX12_meltOne_148 : decode cX12_meltOne 148 = .ok (.iconst 4, 1) := by decide +kernel
theorem dX12_meltOne_149 : decode cX12_meltOne 149 = .ok (.iload 4, 2) := by decide +kernel
theorem dX12_meltOne_151 : decode cX12_meltOne 151 = .ok (.imul, 1) := by decide +kernel
theorem dX12_meltOne_152 : decode cX12_meltOne 152 = .ok (.iload 11, 2) := by decide +kernel
theorem dX12_meltOne_154 : decode cX12_meltOne 154 = .ok (.iadd, 1) := by decide +kernel
theorem dX12_meltOne_155 : decode cX12_meltOne 155 = .ok (.iaload, 1) := by decide +kernel
theorem dX12_meltOne_156 : decode cX12_meltOne 156 = .ok (.aload_n 0, 1) := by decide +kernel
theorem dX12_meltOne_157 : decode cX12_meltOne 157 = .ok (.getfield 29, 3) := by decide +kernel
theorem dX12_meltOne_160 : decode cX12_meltOne 160 = .ok (.iconst 4, 1) := by decide +kernel
theorem dX12_meltOne_161 : decode cX12_meltOne 161 = .ok (.iload 4, 2) := by decide +kernel
theorem dX12_meltOne_163 : decode cX12_meltOne 163 = .ok (.imul, 1) := by decide +kernel
theorem dX12_meltOne_164 : decode cX12_meltOne 164 = .ok (.iload 11, 2) := by decide +kernel
theorem dX12_meltOne_166 : decode cX12_meltOne 166 = .ok (.iadd, 1) := by decide +kernel
theorem dX12_meltOne_167 : decode cX12_meltOne 167 = .ok (.iaload, 1) := by decide +kernel
theorem dX12_meltOne_168 : decode cX12_meltOne 168 = .ok (.invokevirtual 515, 3) := by decide +kernel
theorem dX12_meltOne_189 : decode cX12_meltOne 189 = .ok (.iconst 2, 1) := by decide +kernel
theorem dX12_meltOne_190 : decode cX12_meltOne 190 = .ok (.goto 4, 3) := by decide +kernel
theorem dX12_meltOne_205 : decode cX12_meltOne 205 = .ok (.iload 12, 2) := by decide +kernel
theorem dX12_meltOne_207 : decode cX12_meltOne 207 = .ok (.goto 4, 3) := by decide +kernel
theorem dX12_meltOne_239 : decode cX12_meltOne 239 = .ok (.iconst 2, 1) := by decide +kernel
theorem dX12_meltOne_240 : decode cX12_meltOne 240 = .ok (.goto 4, 3) := by decide +kernel
set_option maxHeartbeats 2000000 in
set_option maxRecDepth 20000 in
theorem l_mo2 (d : Nat) {b : Nat} {σ0 : MS} {r : Int} {k : Int} {q : Int} {f : Int} {base : Int} {lb : Int} {out : Int} {to : Int} {ρ : MS} {FI : Int → Int} {lf : Int → Int} {frq : Int → Int} {lfq : Int → Int} {g0 : Int} {m : Int} {mk : Int} {post : Option Value → MS → Prop} (hmo : MOH ρ r k q f base lb out to g0 m FI lf frq lfq) (hR0 : RG σ0) (hρ : Fr [62] [3, 4, 5, 6, 7, 8] [] ρ σ0) (hx_251 : ∀ (n1 : Int) (σ : MS) , (Fr [62] [3, 4, 5, 6, 7, 8] [] σ0 σ) → (RG σ) → (1 ≤ σ.1 62 ∧ σ.1 62 ≤ 1 + ρ.2.1 12 q + ρ.2.1 11 q) → (MSG ρ σ FI lf q (f + ρ.2.1 14 q) lb out g0 (σ.1 62) 0 (f)) → Tm (d + 3) m_X12_meltOne 251 b σ [(10, .int (iI mk)), (9, .int (iI to)), (8, .int (iI out)), (7, .int (iI lb)), (6, .int (iI base)), (5, .int (iI f)), (4, .int (iI (220 * r + k))), (0, .ref b), (1, .int (iI r)), (2, .int (iI k)), (3, .int (iI q))] [] post) : ∀ (n : Nat) (n1 : Int) (σ : MS) , (Fr [62] [3, 4, 5, 6, 7, 8] [] σ0 σ) → (RG σ) → (0 ≤ n1 ∧ n1 ≤ σ0.2.1 12 q) → ((n1 ≤ σ0.2.1 11 q → σ.1 62 = 1 + 2 * n1) ∧ (σ0.2.1 11 q < n1 → σ.1 62 = 1 + n1 + σ0.2.1 11 q)) → (MSG ρ σ FI lf q (f + ρ.2.1 14 q) lb out g0 (σ.1 62) 0 (f)) → (12 - n1).toNat = n → Tm (d + 3) m_X12_meltOne 99 b σ [(11, .int (iI n1)), (10, .int (iI mk)), (9, .int (iI to)), (8, .int (iI out)), (7, .int (iI lb)), (6, .int (iI base)), (5, .int (iI f)), (4, .int (iI (220 * r + k))), (0, .ref b), (1, .int (iI r)), (2, .int (iI k)), (3, .int (iI q))] [] post := by
  intro n
  induction n using Nat.strongRecOn with
  | _ n ih =>
    intro n1 σ hF hR h0 hc hms hm
    have mn := hmo.n
    have mpa := hmo.2.2.2.2.2.2.2.2.2.1 q (by omega) (by omega)
    have e11 : σ0.2.1 11 q = ρ.2.1 11 q := by rw [hρ.2.1 11 (by decide)]
    have e12 : σ0.2.1 12 q = ρ.2.1 12 q := by rw [hρ.2.1 12 (by decide)]
    have e18 : σ0.2.1 18 (144 * q + n1) = ρ.2.1 18 (144 * q + n1) := by rw [hρ.2.1 18 (by decide)]
    have mna := hmo.2.2.2.2.2.2.2.2.2.2 q (by omega) (by omega)
    refine tm_iload dX12_meltOne_99 0 rfl ?_
    refine tm_aload_n dX12_meltOne_101 rfl 8 rfl ?_
    refine tm_get (k := 12) (v := .ref (b + 1 + 9)) lay_12 dX12_meltOne_102 (by decide) fl12_38 rfl ?_
    refine tm_iload_n dX12_meltOne_105 rfl 11 rfl ?_
    refine tm_iald (z := q) (v := σ0.2.1 12 q) dX12_meltOne_106 (show mT[9]? = some (12, 0, 6) from rfl) (by omega) (by omega) (by decide) (ra_F hF (by decide) (rfl)) ?_
    have g1 := RG.a hR0 12 (q)
    refine tm_icmp_ge (tgt := 251) dX12_meltOne_107 (by decide) ⟨by omega, by omega⟩ ⟨by omega, by omega⟩ (fun h2 => ?_) (fun h2 => ?_)
    · exact tm_sub [1, 2, 3, 4, 5, 6, 7, 8, 9, 10, 11] rfl (hx_251 (0) σ (Fr.rfl.trans (Fr.sub hF (by decide) (by decide) (by decide))) hR (by omega) hms)
    · have hnm := hmo.nm (n := n1) (by omega) (by omega)
      refine tm_iload dX12_meltOne_110 5 rfl ?_
      refine tm_aload_n dX12_meltOne_112 rfl 8 rfl ?_
      refine tm_get (k := 18) (v := .ref (b + 1 + 15)) lay_12 dX12_meltOne_113 (by decide) fl12_56 rfl ?_
      refine tm_sipush dX12_meltOne_116 (by decide) ?_
      refine tm_iload_n dX12_meltOne_119 rfl 11 rfl ?_
      refine tm_imul dX12_meltOne_120 ?_
      refine tm_iload dX12_meltOne_121 0 rfl ?_
      refine tm_iadd dX12_meltOne_123 ?_
      refine tm_iald (z := (144 * q) + n1) (v := σ0.2.1 18 ((144 * q) + n1)) dX12_meltOne_124 (show mT[15]? = some (18, 0, 864) from rfl) (by omega) (by omega) (by decide) (ra_F hF (by decide) (rfl)) ?_
      have g3 := RG.a hR0 18 ((144 * q) + n1)
      refine tm_iadd dX12_meltOne_125 ?_
      refine tm_istore (L' := [(12, .int (iI (base + (σ0.2.1 18 ((144 * q) + n1))))), (11, .int (iI n1)), (10, .int (iI mk)), (9, .int (iI to)), (8, .int (iI out)), (7, .int (iI lb)), (6, .int (iI base)), (5, .int (iI f)), (4, .int (iI (220 * r + k))), (0, .ref b), (1, .int (iI r)), (2, .int (iI k)), (3, .int (iI q))]) dX12_meltOne_126 (by decide) rfl ?_
      refine tm_iload dX12_meltOne_128 1 rfl ?_
      refine tm_aload_n dX12_meltOne_130 rfl 9 rfl ?_
      refine tm_get (k := 11) (v := .ref (b + 1 + 8)) lay_12 dX12_meltOne_131 (by decide) fl12_35 rfl ?_
      refine tm_iload_n dX12_meltOne_134 rfl 12 rfl ?_
      refine tm_iald (z := q) (v := σ0.2.1 11 q) dX12_meltOne_135 (show mT[8]? = some (11, 0, 6) from rfl) (by omega) (by omega) (by decide) (ra_F hF (by decide) (rfl)) ?_
      have g4 := RG.a hR0 11 (q)
      refine tm_icmp_ge (tgt := 171) dX12_meltOne_136 (by decide) ⟨by omega, by omega⟩ ⟨by omega, by omega⟩ (fun h5 => ?_) (fun h5 => ?_)
      · refine tm_aload_n dX12_meltOne_171 rfl 9 rfl ?_
        refine tm_bipush dX12_meltOne_172 (by decide) ?_
        refine tm_iload dX12_meltOne_174 1 rfl ?_
        refine tm_iload dX12_meltOne_176 7 rfl ?_
        refine tm_iload dX12_meltOne_178 1 rfl ?_
        refine tm_aload_n dX12_meltOne_180 rfl 9 rfl ?_
        refine tm_get (k := 11) (v := .ref (b + 1 + 8)) lay_12 dX12_meltOne_181 (by decide) fl12_35 rfl ?_
        refine tm_iload_n dX12_meltOne_184 rfl 12 rfl ?_
        refine tm_iald (z := q) (v := σ0.2.1 11 q) dX12_meltOne_185 (show mT[8]? = some (11, 0, 6) from rfl) (by omega) (by omega) (by decide) (ra_F hF (by decide) (rfl)) ?_
        have g6 := RG.a hR0 11 (q)
        refine tm_icmp_ge (tgt := 193) dX12_meltOne_186 (by decide) ⟨by omega, by omega⟩ ⟨by omega, by omega⟩ (fun h7 => ?_) (fun h7 => ?_)
        · refine tm_iconst dX12_meltOne_193 ?_
          refine tm_iload dX12_meltOne_194 1 rfl ?_
          refine tm_aload_n dX12_meltOne_196 rfl 9 rfl ?_
          refine tm_get (k := 11) (v := .ref (b + 1 + 8)) lay_12 dX12_meltOne_197 (by decide) fl12_35 rfl ?_
          refine tm_iload_n dX12_meltOne_200 rfl 12 rfl ?_
          refine tm_iald (z := q) (v := σ0.2.1 11 q) dX12_meltOne_201 (show mT[8]? = some (11, 0, 6) from rfl) (by omega) (by omega) (by decide) (ra_F hF (by decide) (rfl)) ?_
          have g8 := RG.a hR0 11 (q)
          refine tm_icmp_ge (tgt := 210) dX12_meltOne_202 (by decide) ⟨by omega, by omega⟩ ⟨by omega, by omega⟩ (fun h9 => ?_) (fun h9 => ?_)
          · refine tm_iconst dX12_meltOne_210 ?_
            refine tm_callV (M := m_X12_meltOne) (pc := 211) (ix := 515) (M' := m_X12_add) (As := [.int (iI 12), .int (iI n1), .int (iI f), .int (iI 1), .int (iI 0)]) (rest := []) dX12_meltOne_211 ok_X12_add im_X12_add se_X12_add ml12_515 np_X12_add rfl rfl (Nat.le_of_ble_eq_true rfl) (Nat.le_of_ble_eq_true rfl) rfl (c_X12_add (d) (σ := σ) (k := 12) (e := n1) (o := f) (ak := 1) (a := 0) hR (by omega)) (fun r10 σ11 hp => ?_)
            obtain ⟨rfl, f13⟩ := hp
            subst f13
            show Tm _ _ 214 b (fAdd (12) (n1) (f) (1) (0) σ) [(12, .int (iI (base + (σ0.2.1 18 ((144 * q) + n1))))), (11, .int (iI n1)), (10, .int (iI mk)), (9, .int (iI to)), (8, .int (iI out)), (7, .int (iI lb)), (6, .int (iI base)), (5, .int (iI f)), (4, .int (iI (220 * r + k))), (0, .ref b), (1, .int (iI r)), (2, .int (iI k)), (3, .int (iI q))] [] _
            have n62b : (fAdd (12) (n1) (f) (1) (0) σ).1 62 = σ.1 62 + 1 := fAdd_n
            refine tm_aload_n dX12_meltOne_214 rfl 9 rfl ?_
            refine tm_get (k := 6) (v := .ref (b + 1 + 4)) lay_12 dX12_meltOne_215 (by decide) fl12_23 rfl ?_
            refine tm_sipush dX12_meltOne_218 (by decide) ?_
            refine tm_aload_n dX12_meltOne_221 rfl 9 rfl ?_
            refine tm_getS (k := 62) (t := (fAdd (12) (n1) (f) (1) (0) σ).1 62) dX12_meltOne_222 (by decide) fl12_509 rfl (rfl) ?_
            refine tm_iadd dX12_meltOne_225 ?_
            refine tm_iconst dX12_meltOne_226 ?_
            refine tm_isub dX12_meltOne_227 ?_
            refine tm_iload dX12_meltOne_228 1 rfl ?_
            refine tm_aload_n dX12_meltOne_230 rfl 9 rfl ?_
            refine tm_get (k := 11) (v := .ref (b + 1 + 8)) lay_12 dX12_meltOne_231 (by decide) fl12_35 rfl ?_
            refine tm_iload_n dX12_meltOne_234 rfl 12 rfl ?_
            refine tm_iald (z := q) (v := σ0.2.1 11 q) dX12_meltOne_235 (show mT[8]? = some (11, 0, 6) from rfl) (by omega) (by omega) (by decide) (ra_F fAdd_fr (by decide) (ra_F hF (by decide) (rfl))) ?_
            have g14 := RG.a hR0 11 (q)
            refine tm_icmp_ge (tgt := 243) dX12_meltOne_236 (by decide) ⟨by omega, by omega⟩ ⟨by omega, by omega⟩ (fun h15 => ?_) (fun h15 => ?_)
            · refine tm_iconst dX12_meltOne_243 ?_
              refine tm_iast (z := (2640 + ((fAdd (12) (n1) (f) (1) (0) σ).1 62)) - 1) (v := 1) dX12_meltOne_244 (show mT[4]? = some (6, 0, 2860) from rfl) (by omega) (by omega) (by decide) ?_
              refine tm_iinc (q0 := 1) (L' := [(11, .int (iI (n1 + 1))), (12, .int (iI (base + (σ0.2.1 18 ((144 * q) + n1))))), (10, .int (iI mk)), (9, .int (iI to)), (8, .int (iI out)), (7, .int (iI lb)), (6, .int (iI base)), (5, .int (iI f)), (4, .int (iI (220 * r + k))), (0, .ref b), (1, .int (iI r)), (2, .int (iI k)), (3, .int (iI q))]) dX12_meltOne_245 rfl (by decide) rfl ?_
              refine tm_goto (tgt := 99) dX12_meltOne_248 (by decide) ?_
              exact tm_sub [0, 2, 3, 4, 5, 6, 7, 8, 9, 10, 11, 12] rfl (ih _ (by omega) (n1 + 1) (sA 6 ((2640 + ((fAdd (12) (n1) (f) (1) (0) σ).1 62)) - 1) (1) (fAdd (12) (n1) (f) (1) (0) σ)) (((Fr.rfl.trans (Fr.sub hF (by decide) (by decide) (by decide))).trans (Fr.sub fAdd_fr (by decide) (by decide) (by decide))).A (by decide)) ((hR.add (by omega) (by omega) (by omega) (by omega) (by omega) (by omega)).A (by omega)) (by omega) (by have e : (sA 6 ((2640 + ((fAdd (12) (n1) (f) (1) (0) σ).1 62)) - 1) (1) (fAdd (12) (n1) (f) (1) (0) σ)).1 62 = (fAdd (12) (n1) (f) (1) (0) σ).1 62 := rfl; omega) (msg_bind hms (by omega) (by omega) (by omega) (by omega) (by omega) (by omega)) rfl)
            · exact absurd h15 (by omega)
          · exact absurd h9 (by omega)
        · exact absurd h7 (by omega)
      · have har := hmo.ar (n := n1) (hms.2.2.2.2.2.1 (220 * r + k) (by omega)) (by omega) (by omega)
        refine tm_aload_n dX12_meltOne_139 rfl 9 rfl ?_
        refine tm_iconst dX12_meltOne_140 ?_
        refine tm_iload dX12_meltOne_141 0 rfl ?_
        refine tm_iconst dX12_meltOne_143 ?_
        refine tm_aload_n dX12_meltOne_144 rfl 9 rfl ?_
        refine tm_get (k := 7) (v := .ref (b + 1 + 5)) lay_12 dX12_meltOne_145 (by decide) fl12_26 rfl ?_
        refine tm_iconst dX12_meltOne_148 ?_
        refine tm_iload dX12_meltOne_149 8 rfl ?_
        refine tm_imul dX12_meltOne_151 ?_
        refine tm_iload dX12_meltOne_152 1 rfl ?_
        refine tm_iadd dX12_meltOne_154 ?_
        refine tm_iald (z := (4 * (220 * r + k)) + n1) (v := σ.2.1 7 ((4 * (220 * r + k)) + n1)) dX12_meltOne_155 (show mT[5]? = some (7, 0, 11440) from rfl) (by omega) (by omega) (by decide) (rfl) ?_
        have g16 := RG.a hR 7 ((4 * (220 * r + k)) + n1)
        refine tm_aload_n dX12_meltOne_156 rfl 9 rfl ?_
        refine tm_get (k := 8) (v := .ref (b + 1 + 6)) lay_12 dX12_meltOne_157 (by decide) fl12_29 rfl ?_
        refine tm_iconst dX12_meltOne_160 ?_
        refine tm_iload dX12_meltOne_161 8 rfl ?_
        refine tm_imul dX12_meltOne_163 ?_
        refine tm_iload dX12_meltOne_164 1 rfl ?_
        refine tm_iadd dX12_meltOne_166 ?_
        refine tm_iald (z := (4 * (220 * r + k)) + n1) (v := σ.2.1 8 ((4 * (220 * r + k)) + n1)) dX12_meltOne_167 (show mT[6]? = some (8, 0, 11440) from rfl) (by omega) (by omega) (by decide) (rfl) ?_
        have g17 := RG.a hR 8 ((4 * (220 * r + k)) + n1)
        refine tm_callV (M := m_X12_meltOne) (pc := 168) (ix := 515) (M' := m_X12_add) (As := [.int (iI 0), .int (iI (base + (σ0.2.1 18 ((144 * q) + n1)))), .int (iI 0), .int (iI (σ.2.1 7 ((4 * (220 * r + k)) + n1))), .int (iI (σ.2.1 8 ((4 * (220 * r + k)) + n1)))]) (rest := []) dX12_meltOne_168 ok_X12_add im_X12_add se_X12_add ml12_515 np_X12_add rfl rfl (Nat.le_of_ble_eq_true rfl) (Nat.le_of_ble_eq_true rfl) rfl (c_X12_add (d) (σ := σ) (k := 0) (e := base + (σ0.2.1 18 ((144 * q) + n1))) (o := 0) (ak := σ.2.1 7 ((4 * (220 * r + k)) + n1)) (a := σ.2.1 8 ((4 * (220 * r + k)) + n1)) hR (by omega)) (fun r18 σ19 hp => ?_)
        obtain ⟨rfl, f21⟩ := hp
        subst f21
        show Tm _ _ 171 b (fAdd (0) (base + (σ0.2.1 18 ((144 * q) + n1))) (0) (σ.2.1 7 ((4 * (220 * r + k)) + n1)) (σ.2.1 8 ((4 * (220 * r + k)) + n1)) σ) [(12, .int (iI (base + (σ0.2.1 18 ((144 * q) + n1))))), (11, .int (iI n1)), (10, .int (iI mk)), (9, .int (iI to)), (8, .int (iI out)), (7, .int (iI lb)), (6, .int (iI base)), (5, .int (iI f)), (4, .int (iI (220 * r + k))), (0, .ref b), (1, .int (iI r)), (2, .int (iI k)), (3, .int (iI q))] [] _
        have n62a : (fAdd (0) (base + (σ0.2.1 18 ((144 * q) + n1))) (0) (σ.2.1 7 ((4 * (220 * r + k)) + n1)) (σ.2.1 8 ((4 * (220 * r + k)) + n1)) σ).1 62 = σ.1 62 + 1 := fAdd_n
        refine tm_aload_n dX12_meltOne_171 rfl 9 rfl ?_
        refine tm_bipush dX12_meltOne_172 (by decide) ?_
        refine tm_iload dX12_meltOne_174 1 rfl ?_
        refine tm_iload dX12_meltOne_176 7 rfl ?_
        refine tm_iload dX12_meltOne_178 1 rfl ?_
        refine tm_aload_n dX12_meltOne_180 rfl 9 rfl ?_
        refine tm_get (k := 11) (v := .ref (b + 1 + 8)) lay_12 dX12_meltOne_181 (by decide) fl12_35 rfl ?_
        refine tm_iload_n dX12_meltOne_184 rfl 12 rfl ?_
        refine tm_iald (z := q) (v := σ0.2.1 11 q) dX12_meltOne_185 (show mT[8]? = some (11, 0, 6) from rfl) (by omega) (by omega) (by decide) (ra_F fAdd_fr (by decide) (ra_F hF (by decide) (rfl))) ?_
        have g22 := RG.a hR0 11 (q)
        refine tm_icmp_ge (tgt := 193) dX12_meltOne_186 (by decide) ⟨by omega, by omega⟩ ⟨by omega, by omega⟩ (fun h23 => ?_) (fun h23 => ?_)
        · exact absurd h23 (by omega)
        · refine tm_iconst dX12_meltOne_189 ?_
          refine tm_goto (tgt := 194) dX12_meltOne_190 (by decide) ?_
          refine tm_iload dX12_meltOne_194 1 rfl ?_
          refine tm_aload_n dX12_meltOne_196 rfl 9 rfl ?_
          refine tm_get (k := 11) (v := .ref (b + 1 + 8)) lay_12 dX12_meltOne_197 (by decide) fl12_35 rfl ?_
          refine tm_iload_n dX12_meltOne_200 rfl 12 rfl ?_
          refine tm_iald (z := q) (v := σ0.2.1 11 q) dX12_meltOne_201 (show mT[8]? = some (11, 0, 6) from rfl) (by omega) (by omega) (by decide) (ra_F fAdd_fr (by decide) (ra_F hF (by decide) (rfl))) ?_
          have g24 := RG.a hR0 11 (q)
          refine tm_icmp_ge (tgt := 210) dX12_meltOne_202 (by decide) ⟨by omega, by omega⟩ ⟨by omega, by omega⟩ (fun h25 => ?_) (fun h25 => ?_)
          · exact absurd h25 (by omega)
          · refine tm_iload dX12_meltOne_205 0 rfl ?_
            refine tm_goto (tgt := 211) dX12_meltOne_207 (by decide) ?_
            refine tm_callV (M := m_X12_meltOne) (pc := 211) (ix := 515) (M' := m_X12_add) (As := [.int (iI 12), .int (iI n1), .int (iI f), .int (iI 2), .int (iI (base + (σ0.2.1 18 ((144 * q) + n1))))]) (rest := []) dX12_meltOne_211 ok_X12_add im_X12_add se_X12_add ml12_515 np_X12_add rfl rfl (Nat.le_of_ble_eq_true rfl) (Nat.le_of_ble_eq_true rfl) rfl (c_X12_add (d) (σ := (fAdd (0) (base + (σ0.2.1 18 ((144 * q) + n1))) (0) (σ.2.1 7 ((4 * (220 * r + k)) + n1)) (σ.2.1 8 ((4 * (220 * r + k)) + n1)) σ)) (k := 12) (e := n1) (o := f) (ak := 2) (a := base + (σ0.2.1 18 ((144 * q) + n1))) (hR.add (by omega) (by omega) (by omega) (by omega) (by omega) (by omega)) (by omega)) (fun r26 σ27 hp => ?_)
            obtain ⟨rfl, f29⟩ := hp
            subst f29
            show Tm _ _ 214 b (fAdd (12) (n1) (f) (2) (base + (σ0.2.1 18 ((144 * q) + n1))) (fAdd (0) (base + (σ0.2.1 18 ((144 * q) + n1))) (0) (σ.2.1 7 ((4 * (220 * r + k)) + n1)) (σ.2.1 8 ((4 * (220 * r + k)) + n1)) σ)) [(12, .int (iI (base + (σ0.2.1 18 ((144 * q) + n1))))), (11, .int (iI n1)), (10, .int (iI mk)), (9, .int (iI to)), (8, .int (iI out)), (7, .int (iI lb)), (6, .int (iI base)), (5, .int (iI f)), (4, .int (iI (220 * r + k))), (0, .ref b), (1, .int (iI r)), (2, .int (iI k)), (3, .int (iI q))] [] _
            have n62b : (fAdd (12) (n1) (f) (2) (base + (σ0.2.1 18 ((144 * q) + n1))) (fAdd (0) (base + (σ0.2.1 18 ((144 * q) + n1))) (0) (σ.2.1 7 ((4 * (220 * r + k)) + n1)) (σ.2.1 8 ((4 * (220 * r + k)) + n1)) σ)).1 62 = (fAdd (0) (base + (σ0.2.1 18 ((144 * q) + n1))) (0) (σ.2.1 7 ((4 * (220 * r + k)) + n1)) (σ.2.1 8 ((4 * (220 * r + k)) + n1)) σ).1 62 + 1 := fAdd_n
            refine tm_aload_n dX12_meltOne_214 rfl 9 rfl ?_
            refine tm_get (k := 6) (v := .ref (b + 1 + 4)) lay_12 dX12_meltOne_215 (by decide) fl12_23 rfl ?_
            refine tm_sipush dX12_meltOne_218 (by decide) ?_
            refine tm_aload_n dX12_meltOne_221 rfl 9 rfl ?_
            refine tm_getS (k := 62) (t := (fAdd (12) (n1) (f) (2) (base + (σ0.2.1 18 ((144 * q) + n1))) (fAdd (0) (base + (σ0.2.1 18 ((144 * q) + n1))) (0) (σ.2.1 7 ((4 * (220 * r + k)) + n1)) (σ.2.1 8 ((4 * (220 * r + k)) + n1)) σ)).1 62) dX12_meltOne_222 (by decide) fl12_509 rfl (rfl) ?_
            refine tm_iadd dX12_meltOne_225 ?_
            refine tm_iconst dX12_meltOne_226 ?_
            refine tm_isub dX12_meltOne_227 ?_
            refine tm_iload dX12_meltOne_228 1 rfl ?_
            refine tm_aload_n dX12_meltOne_230 rfl 9 rfl ?_
            refine tm_get (k := 11) (v := .ref (b + 1 + 8)) lay_12 dX12_meltOne_231 (by decide) fl12_35 rfl ?_
            refine tm_iload_n dX12_meltOne_234 rfl 12 rfl ?_
            refine tm_iald (z := q) (v := σ0.2.1 11 q) dX12_meltOne_235 (show mT[8]? = some (11, 0, 6) from rfl) (by omega) (by omega) (by decide) (ra_F fAdd_fr (by decide) (ra_F fAdd_fr (by decide) (ra_F hF (by decide) (rfl)))) ?_
            have g30 := RG.a hR0 11 (q)
            refine tm_icmp_ge (tgt := 243) dX12_meltOne_236 (by decide) ⟨by omega, by omega⟩ ⟨by omega, by omega⟩ (fun h31 => ?_) (fun h31 => ?_)
            · exact absurd h31 (by omega)
            · refine tm_iconst dX12_meltOne_239 ?_
              refine tm_goto (tgt := 244) dX12_meltOne_240 (by decide) ?_
              refine tm_iast (z := (2640 + ((fAdd (12) (n1) (f) (2) (base + (σ0.2.1 18 ((144 * q) + n1))) (fAdd (0) (base + (σ0.2.1 18 ((144 * q) + n1))) (0) (σ.2.1 7 ((4 * (220 * r + k)) + n1)) (σ.2.1 8 ((4 * (220 * r + k)) + n1)) σ)).1 62)) - 1) (v := 2) dX12_meltOne_244 (show mT[4]? = some (6, 0, 2860) from rfl) (by omega) (by omega) (by decide) ?_
              refine tm_iinc (q0 := 1) (L' := [(11, .int (iI (n1 + 1))), (12, .int (iI (base + (σ0.2.1 18 ((144 * q) + n1))))), (10, .int (iI mk)), (9, .int (iI to)), (8, .int (iI out)), (7, .int (iI lb)), (6, .int (iI base)), (5, .int (iI f)), (4, .int (iI (220 * r + k))), (0, .ref b), (1, .int (iI r)), (2, .int (iI k)), (3, .int (iI q))]) dX12_meltOne_245 rfl (by decide) rfl ?_
              refine tm_goto (tgt := 99) dX12_meltOne_248 (by decide) ?_
              exact tm_sub [0, 2, 3, 4, 5, 6, 7, 8, 9, 10, 11, 12] rfl (ih _ (by omega) (n1 + 1) (sA 6 ((2640 + ((fAdd (12) (n1) (f) (2) (base + (σ0.2.1 18 ((144 * q) + n1))) (fAdd (0) (base + (σ0.2.1 18 ((144 * q) + n1))) (0) (σ.2.1 7 ((4 * (220 * r + k)) + n1)) (σ.2.1 8 ((4 * (220 * r + k)) + n1)) σ)).1 62)) - 1) (2) (fAdd (12) (n1) (f) (2) (base + (σ0.2.1 18 ((144 * q) + n1))) (fAdd (0) (base + (σ0.2.1 18 ((144 * q) + n1))) (0) (σ.2.1 7 ((4 * (220 * r + k)) + n1)) (σ.2.1 8 ((4 * (220 * r + k)) + n1)) σ))) ((((Fr.rfl.trans (Fr.sub hF (by decide) (by decide) (by decide))).trans (Fr.sub fAdd_fr (by decide) (by decide) (by decide))).trans (Fr.sub fAdd_fr (by decide) (by decide) (by decide))).A (by decide)) (((hR.add (by omega) (by omega) (by omega) (by omega) (by omega) (by omega)).add (by omega) (by omega) (by omega) (by omega) (by omega) (by omega)).A (by omega)) (by omega) (by have e : (sA 6 ((2640 + ((fAdd (12) (n1) (f) (2) (base + (σ0.2.1 18 ((144 * q) + n1))) (fAdd (0) (base + (σ0.2.1 18 ((144 * q) + n1))) (0) (σ.2.1 7 ((4 * (220 * r + k)) + n1)) (σ.2.1 8 ((4 * (220 * r + k)) + n1)) σ)).1 62)) - 1) (2) (fAdd (12) (n1) (f) (2) (base + (σ0.2.1 18 ((144 * q) + n1))) (fAdd (0) (base + (σ0.2.1 18 ((144 * q) + n1))) (0) (σ.2.1 7 ((4 * (220 * r + k)) + n1)) (σ.2.1 8 ((4 * (220 * r + k)) + n1)) σ))).1 62 = (fAdd (12) (n1) (f) (2) (base + (σ0.2.1 18 ((144 * q) + n1))) (fAdd (0) (base + (σ0.2.1 18 ((144 * q) + n1))) (0) (σ.2.1 7 ((4 * (220 * r + k)) + n1)) (σ.2.1 8 ((4 * (220 * r + k)) + n1)) σ)).1 62 := rfl; omega) (msg_bind (msg_copy hms (by omega) (by omega) (by omega) (by omega)) (by omega) (by omega) (by omega) (by omega) (by omega) (by omega)) rfl)
theorem dX12_meltOne_254 : decode cX12_meltOne 254 = .ok (.iload 11, 2) := by decide +kernel
theorem dX12_meltOne_256 : decode cX12_meltOne 256 = .ok (.sipush 192, 3) := by decide +kernel
theorem dX12_meltOne_259 : decode cX12_meltOne 259 = .ok (.if_icmp .ge 42, 3) := by decide +kernel
theorem dX12_meltOne_262 : decode cX12_meltOne 262 = .ok (.aload_n 0, 1) := by decide +kernel
theorem dX12_meltOne_263 : decode cX12_meltOne 263 = .ok (.getfield 130, 3) := by decide +kernel
theorem dX12_meltOne_266 : decode cX12_meltOne 266 = .ok (.iload 11, 2) := by decide +kernel
theorem dX12_meltOne_268 : decode cX12_meltOne 268 = .ok (.baload, 1) := by decide +kernel
theorem dX12_meltOne_269 : decode cX12_meltOne 269 = .ok (.ifCond .eq 26, 3) := by decide +kernel
theorem dX12_meltOne_295 : decode cX12_meltOne 295 = .ok (.iinc 11 1, 3) := by decide +kernel
theorem dX12_meltOne_298 : decode cX12_meltOne 298 = .ok (.goto (-44), 3) := by decide +kernel
theorem dX12_meltOne_272 : decode cX12_meltOne 272 = .ok (.aload_n 0, 1) := by decide +kernel
theorem dX12_meltOne_273 : decode cX12_meltOne 273 = .ok (.iload_n 3, 1) := by decide +kernel
theorem dX12_meltOne_274 : decode cX12_meltOne 274 = .ok (.iload 11, 2) := by decide +kernel
theorem dX12_meltOne_276 : decode cX12_meltOne 276 = .ok (.invokevirtual 503, 3) := by decide +kernel
theorem dX12_meltOne_279 : decode cX12_meltOne 279 = .ok (.ifCond .ne 16, 3) := by decide +kernel
theorem dX12_meltOne_282 : decode cX12_meltOne 282 = .ok (.aload_n 0, 1) := by decide +kernel
theorem dX12_meltOne_283 : decode cX12_meltOne 283 = .ok (.iconst 0, 1) := by decide +kernel
theorem dX12_meltOne_284 : decode cX12_meltOne 284 = .ok (.iload 6, 2) := by decide +kernel
theorem dX12_meltOne_286 : decode cX12_meltOne 286 = .ok (.iload 11, 2) := by decide +kernel
theorem dX12_meltOne_288 : decode cX12_meltOne 288 = .ok (.iadd, 1) := by decide +kernel
theorem dX12_meltOne_289 : decode cX12_meltOne 289 = .ok (.iconst 0, 1) := by decide +kernel
theorem dX12_meltOne_290 : decode cX12_meltOne 290 = .ok (.iconst 1, 1) := by decide +kernel
theorem dX12_meltOne_291 : decode cX12_meltOne 291 = .ok (.iconst 0, 1) := by decide +kernel
theorem dX12_meltOne_292 : decode cX12_meltOne 292 = .ok (.invokevirtual 515, 3) := by decide +kernel
set_option maxHeartbeats 2000000 in
set_option maxRecDepth 20000 in
theorem l_mo3 (d : Nat) {b : Nat} {σ0 : MS} {r : Int} {k : Int} {q : Int} {f : Int} {base : Int} {lb : Int} {out : Int} {to : Int} {ρ : MS} {FI : Int → Int} {lf : Int → Int} {frq : Int → Int} {lfq : Int → Int} {g0 : Int} {m : Int} {mk : Int} {A1 : Int} {post : Option Value → MS → Prop} (hmo : MOH ρ r k q f base lb out to g0 m FI lf frq lfq) (hR0 : RG σ0) (hρ : Fr [62] [3, 4, 5, 6, 7, 8] [] ρ σ0) (hbl : BO 59 ρ) (hlv : ∀ g, 0 ≤ g → g < 192 → ρ.2.1 59 g = 1 → g < m) (hA : 1 ≤ A1 ∧ A1 + cnt (lcf ρ q) 192 ≤ 217) (hx_301 : ∀ (g : Int) (σ : MS) , (Fr [62] [3, 4, 5, 6, 7, 8] [] σ0 σ) → (RG σ) → (σ.1 62 = A1 + cnt (lcf ρ q) 192) → (MSG ρ σ FI lf q (f + ρ.2.1 14 q) lb out g0 (σ.1 62) 0 (f)) → Tm (d + 3) m_X12_meltOne 301 b σ [(10, .int (iI mk)), (9, .int (iI to)), (8, .int (iI out)), (7, .int (iI lb)), (6, .int (iI base)), (5, .int (iI f)), (4, .int (iI (220 * r + k))), (0, .ref b), (1, .int (iI r)), (2, .int (iI k)), (3, .int (iI q))] [] post) : ∀ (n : Nat) (g : Int) (σ : MS) , (Fr [62] [3, 4, 5, 6, 7, 8] [] σ0 σ) → (RG σ) → (0 ≤ g ∧ g ≤ 192) → (σ.1 62 = A1 + cnt (lcf ρ q) g.toNat) → (MSG ρ σ FI lf q (f + ρ.2.1 14 q) lb out g0 (σ.1 62) 0 (f)) → (192 - g).toNat = n → Tm (d + 3) m_X12_meltOne 254 b σ [(11, .int (iI g)), (10, .int (iI mk)), (9, .int (iI to)), (8, .int (iI out)), (7, .int (iI lb)), (6, .int (iI base)), (5, .int (iI f)), (4, .int (iI (220 * r + k))), (0, .ref b), (1, .int (iI r)), (2, .int (iI k)), (3, .int (iI q))] [] post := by
  intro n
  induction n using Nat.strongRecOn with
  | _ n ih =>
    intro g σ hF hR h0 hc hms hm
    have mn := hmo.n
    have mpa := hmo.2.2.2.2.2.2.2.2.2.1 q (by omega) (by omega)
    have e59 : σ0.2.1 59 g = ρ.2.1 59 g := by rw [hρ.2.1 59 (by decide)]
    have hb59 := hbl g
    have hup := cnt_up (lcf_0 ρ q) (show g.toNat ≤ 192 by omega)
    have hc0 := cnt_up (lcf_0 ρ q) (show 0 ≤ g.toNat by omega)
    have hcz : cnt (lcf ρ q) 0 = 0 := rfl
    have hr1 : Fr [62] [3, 4, 5, 6, 7, 8] [] ρ σ := hρ.trans hF
    refine tm_iload dX12_meltOne_254 0 rfl ?_
    refine tm_sipush dX12_meltOne_256 (by decide) ?_
    refine tm_icmp_ge (tgt := 301) dX12_meltOne_259 (by decide) ⟨by omega, by omega⟩ ⟨by decide, by decide⟩ (fun h1 => ?_) (fun h1 => ?_)
    · exact tm_sub [1, 2, 3, 4, 5, 6, 7, 8, 9, 10, 11] rfl (hx_301 (0) σ (Fr.rfl.trans (Fr.sub hF (by decide) (by decide) (by decide))) hR (by rw [show g.toNat = 192 by omega] at hc; exact hc) hms)
    · refine tm_aload_n dX12_meltOne_262 rfl 8 rfl ?_
      refine tm_get (k := 59) (v := .ref (b + 1 + 37)) lay_12 dX12_meltOne_263 (by decide) fl12_130 rfl ?_
      refine tm_iload dX12_meltOne_266 0 rfl ?_
      refine tm_zald (z := g) (v := σ0.2.1 59 g) dX12_meltOne_268 (show mT[37]? = some (59, 2, 42432) from rfl) (by omega) (by omega) (by decide) (ra_F hF (by decide) (rfl)) ?_
      have g2 := RG.a hR0 59 (g)
      refine tm_if_eq (tgt := 295) dX12_meltOne_269 (by decide) ⟨by omega, by omega⟩ (fun h3 => ?_) (fun h3 => ?_)
      · refine tm_iinc (q0 := 0) (L' := [(11, .int (iI (g + 1))), (10, .int (iI mk)), (9, .int (iI to)), (8, .int (iI out)), (7, .int (iI lb)), (6, .int (iI base)), (5, .int (iI f)), (4, .int (iI (220 * r + k))), (0, .ref b), (1, .int (iI r)), (2, .int (iI k)), (3, .int (iI q))]) dX12_meltOne_295 rfl (by decide) rfl ?_
        refine tm_goto (tgt := 254) dX12_meltOne_298 (by decide) ?_
        exact tm_sub [0, 1, 2, 3, 4, 5, 6, 7, 8, 9, 10, 11] rfl (ih _ (by omega) (g + 1) σ (Fr.rfl.trans (Fr.sub hF (by decide) (by decide) (by decide))) hR (by omega) (by rw [cnt_s (by omega), show lcf ρ q g = 0 from by first | exact lcf_n (by omega) | exact lcf_p (by omega) (hP.mp (by omega))]; omega) hms rfl)
      · refine tm_aload_n dX12_meltOne_272 rfl 8 rfl ?_
        refine tm_iload_n dX12_meltOne_273 rfl 11 rfl ?_
        refine tm_iload dX12_meltOne_274 0 rfl ?_
        refine tm_callV (M := m_X12_meltOne) (pc := 276) (ix := 503) (M' := m_X12_isParam) (As := [.int (iI q), .int (iI g)]) (rest := []) dX12_meltOne_276 ok_X12_isParam im_X12_isParam se_X12_isParam ml12_503 np_X12_isParam rfl rfl (Nat.le_of_ble_eq_true rfl) (Nat.le_of_ble_eq_true rfl) rfl (c_X12_isParam (d + 1) (σ := σ) (r := q) (g := g) (by omega) hR (PAR.fr hmo.2.2.2.2.2.2.2.2.2.1 hr1 (by decide)) (by omega)) (fun r4 σ5 hp => ?_)
        obtain ⟨v6, rfl, rfl, f7, f8⟩ := hp
        show Tm _ _ 279 b σ [(11, .int (iI g)), (10, .int (iI mk)), (9, .int (iI to)), (8, .int (iI out)), (7, .int (iI lb)), (6, .int (iI base)), (5, .int (iI f)), (4, .int (iI (220 * r + k))), (0, .ref b), (1, .int (iI r)), (2, .int (iI k)), (3, .int (iI q))] [.int (iI v6)] _
        have hP : v6 = 1 ↔ PMQ ρ q g := by
          have h := f8
          rw [hr1.2.1 11 (by decide), hr1.2.1 18 (by decide)] at h
          exact h
        clear f8
        refine tm_if_ne (tgt := 295) dX12_meltOne_279 (by decide) ⟨by omega, by omega⟩ (fun h9 => ?_) (fun h9 => ?_)
        · refine tm_iinc (q0 := 0) (L' := [(11, .int (iI (g + 1))), (10, .int (iI mk)), (9, .int (iI to)), (8, .int (iI out)), (7, .int (iI lb)), (6, .int (iI base)), (5, .int (iI f)), (4, .int (iI (220 * r + k))), (0, .ref b), (1, .int (iI r)), (2, .int (iI k)), (3, .int (iI q))]) dX12_meltOne_295 rfl (by decide) rfl ?_
          refine tm_goto (tgt := 254) dX12_meltOne_298 (by decide) ?_
          exact tm_sub [0, 1, 2, 3, 4, 5, 6, 7, 8, 9, 10, 11] rfl (ih _ (by omega) (g + 1) σ (Fr.rfl.trans (Fr.sub hF (by decide) (by decide) (by decide))) hR (by omega) (by rw [cnt_s (by omega), show lcf ρ q g = 0 from by first | exact lcf_n (by omega) | exact lcf_p (by omega) (hP.mp (by omega))]; omega) hms rfl)
        · have hgm := hlv g (by omega) (by omega) (by omega)
          refine tm_aload_n dX12_meltOne_282 rfl 8 rfl ?_
          refine tm_iconst dX12_meltOne_283 ?_
          refine tm_iload dX12_meltOne_284 5 rfl ?_
          refine tm_iload dX12_meltOne_286 0 rfl ?_
          refine tm_iadd dX12_meltOne_288 ?_
          refine tm_iconst dX12_meltOne_289 ?_
          refine tm_iconst dX12_meltOne_290 ?_
          refine tm_iconst dX12_meltOne_291 ?_
          refine tm_callV (M := m_X12_meltOne) (pc := 292) (ix := 515) (M' := m_X12_add) (As := [.int (iI 0), .int (iI (base + g)), .int (iI 0), .int (iI 1), .int (iI 0)]) (rest := []) dX12_meltOne_292 ok_X12_add im_X12_add se_X12_add ml12_515 np_X12_add rfl rfl (Nat.le_of_ble_eq_true rfl) (Nat.le_of_ble_eq_true rfl) rfl (c_X12_add (d) (σ := σ) (k := 0) (e := base + g) (o := 0) (ak := 1) (a := 0) hR (by omega)) (fun r10 σ11 hp => ?_)
          obtain ⟨rfl, f13⟩ := hp
          subst f13
          show Tm _ _ 295 b (fAdd (0) (base + g) (0) (1) (0) σ) [(11, .int (iI g)), (10, .int (iI mk)), (9, .int (iI to)), (8, .int (iI out)), (7, .int (iI lb)), (6, .int (iI base)), (5, .int (iI f)), (4, .int (iI (220 * r + k))), (0, .ref b), (1, .int (iI r)), (2, .int (iI k)), (3, .int (iI q))] [] _
          have n62a : (fAdd (0) (base + g) (0) (1) (0) σ).1 62 = σ.1 62 + 1 := fAdd_n
          refine tm_iinc (q0 := 0) (L' := [(11, .int (iI (g + 1))), (10, .int (iI mk)), (9, .int (iI to)), (8, .int (iI out)), (7, .int (iI lb)), (6, .int (iI base)), (5, .int (iI f)), (4, .int (iI (220 * r + k))), (0, .ref b), (1, .int (iI r)), (2, .int (iI k)), (3, .int (iI q))]) dX12_meltOne_295 rfl (by decide) rfl ?_
          refine tm_goto (tgt := 254) dX12_meltOne_298 (by decide) ?_
          exact tm_sub [0, 1, 2, 3, 4, 5, 6, 7, 8, 9, 10, 11] rfl (ih _ (by omega) (g + 1) (fAdd (0) (base + g) (0) (1) (0) σ) ((Fr.rfl.trans (Fr.sub hF (by decide) (by decide) (by decide))).trans (Fr.sub fAdd_fr (by decide) (by decide) (by decide))) (hR.add (by omega) (by omega) (by omega) (by omega) (by omega) (by omega)) (by omega) (by rw [cnt_s (by omega), lcf_y (by omega) (fun w => absurd (hP.mpr w) (by omega))]; omega) (msg_copy hms (by omega) (by omega) (by omega) (by omega)) rfl)
theorem ml12_518 : Cond.methodLink RX12 518 yX12_meltItem ∈ pWW := pw9 (List.mem_of_getElem? (i := 205) rfl) rfl
theorem dX12_meltOne_304 : decode cX12_meltOne 304 = .ok (.iload 11, 2) := by decide +kernel
theorem dX12_meltOne_306 : decode cX12_meltOne 306 = .ok (.aload_n 0, 1) := by decide +kernel
theorem dX12_meltOne_307 : decode cX12_meltOne 307 = .ok (.getfield 32, 3) := by decide +kernel
theorem dX12_meltOne_310 : decode cX12_meltOne 310 = .ok (.iload_n 3, 1) := by decide +kernel
theorem dX12_meltOne_311 : decode cX12_meltOne 311 = .ok (.iaload, 1) := by decide +kernel
theorem dX12_meltOne_312 : decode cX12_meltOne 312 = .ok (.if_icmp .ge 30, 3) := by decide +kernel
theorem dX12_meltOne_315 : decode cX12_meltOne 315 = .ok (.aload_n 0, 1) := by decide +kernel
theorem dX12_meltOne_316 : decode cX12_meltOne 316 = .ok (.aload_n 0, 1) := by decide +kernel
theorem dX12_meltOne_317 : decode cX12_meltOne 317 = .ok (.iload_n 3, 1) := by decide +kernel
theorem dX12_meltOne_318 : decode cX12_meltOne 318 = .ok (.iload 11, 2) := by decide +kernel
theorem dX12_meltOne_320 : decode cX12_meltOne 320 = .ok (.invokevirtual 203, 3) := by decide +kernel
theorem dX12_meltOne_323 : decode cX12_meltOne 323 = .ok (.iload 5, 2) := by decide +kernel
theorem dX12_meltOne_325 : decode cX12_meltOne 325 = .ok (.iload 6, 2) := by decide +kernel
theorem dX12_meltOne_327 : decode cX12_meltOne 327 = .ok (.iload 7, 2) := by decide +kernel
theorem dX12_meltOne_329 : decode cX12_meltOne 329 = .ok (.iload 9, 2) := by decide +kernel
theorem dX12_meltOne_331 : decode cX12_meltOne 331 = .ok (.iload 8, 2) := by decide +kernel
theorem dX12_meltOne_333 : decode cX12_meltOne 333 = .ok (.invokevirtual 518, 3) := by decide +kernel
theorem dX12_meltOne_336 : decode cX12_meltOne 336 = .ok (.iinc 11 1, 3) := by decide +kernel
theorem dX12_meltOne_339 : decode cX12_meltOne 339 = .ok (.goto (-35), 3) := by decide +kernel
set_option maxHeartbeats 2000000 in
set_option maxRecDepth 20000 in
theorem l_mo4 (d : Nat) {b : Nat} {σ0 : MS} {r : Int} {k : Int} {q : Int} {f : Int} {base : Int} {lb : Int} {out : Int} {to : Int} {ρ : MS} {FI : Int → Int} {lf : Int → Int} {frq : Int → Int} {lfq : Int → Int} {g0 : Int} {m : Int} {mk : Int} {A2 : Int} {post : Option Value → MS → Prop} (hmo : MOH ρ r k q f base lb out to g0 m FI lf frq lfq) (hR0 : RG σ0) (hρ : Fr [62] [3, 4, 5, 6, 7, 8] [] ρ σ0) (hA : 1 ≤ A2 ∧ A2 + ρ.2.1 9 q + cnt (rcf ρ q) (ρ.2.1 9 q).toNat ≤ 217) (hx_342 : ∀ (i : Int) (σ : MS) , (Fr [62] [3, 4, 5, 6, 7, 8] [] σ0 σ) → (RG σ) → (σ.1 62 = A2 + ρ.2.1 9 q + cnt (rcf ρ q) (ρ.2.1 9 q).toNat) → (MSG ρ σ FI lf q (f + ρ.2.1 14 q) lb out g0 (σ.1 62) (ρ.2.1 9 q) (Gq ρ q f frq (ρ.2.1 9 q))) → Tm (d + 4) m_X12_meltOne 342 b σ [(10, .int (iI mk)), (9, .int (iI to)), (8, .int (iI out)), (7, .int (iI lb)), (6, .int (iI base)), (5, .int (iI f)), (4, .int (iI (220 * r + k))), (0, .ref b), (1, .int (iI r)), (2, .int (iI k)), (3, .int (iI q))] [] post) : ∀ (n : Nat) (i : Int) (σ : MS) , (Fr [62] [3, 4, 5, 6, 7, 8] [] σ0 σ) → (RG σ) → (0 ≤ i ∧ i ≤ ρ.2.1 9 q) → (σ.1 62 = A2 + i + cnt (rcf ρ q) i.toNat) → (MSG ρ σ FI lf q (f + ρ.2.1 14 q) lb out g0 (σ.1 62) i (Gq ρ q f frq i)) → (220 - i).toNat = n → Tm (d + 4) m_X12_meltOne 304 b σ [(11, .int (iI i)), (10, .int (iI mk)), (9, .int (iI to)), (8, .int (iI out)), (7, .int (iI lb)), (6, .int (iI base)), (5, .int (iI f)), (4, .int (iI (220 * r + k))), (0, .ref b), (1, .int (iI r)), (2, .int (iI k)), (3, .int (iI q))] [] post := by
  intro n
  induction n using Nat.strongRecOn with
  | _ n ih =>
    intro i σ hF hR h0 hc hms hm
    have mn := hmo.n
    have e9 : σ0.2.1 9 q = ρ.2.1 9 q := by rw [hρ.2.1 9 (by decide)]
    have hup := cnt_up (rcf_0 ρ q) (show i.toNat ≤ (ρ.2.1 9 q).toNat by omega)
    have hc0 := cnt_up (rcf_0 ρ q) (show 0 ≤ i.toNat by omega)
    have hcz : cnt (rcf ρ q) 0 = 0 := rfl
    refine tm_iload dX12_meltOne_304 0 rfl ?_
    refine tm_aload_n dX12_meltOne_306 rfl 8 rfl ?_
    refine tm_get (k := 9) (v := .ref (b + 1 + 7)) lay_12 dX12_meltOne_307 (by decide) fl12_32 rfl ?_
    refine tm_iload_n dX12_meltOne_310 rfl 11 rfl ?_
    refine tm_iald (z := q) (v := σ0.2.1 9 q) dX12_meltOne_311 (show mT[7]? = some (9, 0, 13) from rfl) (by omega) (by omega) (by decide) (ra_F hF (by decide) (rfl)) ?_
    have g1 := RG.a hR0 9 (q)
    refine tm_icmp_ge (tgt := 342) dX12_meltOne_312 (by decide) ⟨by omega, by omega⟩ ⟨by omega, by omega⟩ (fun h2 => ?_) (fun h2 => ?_)
    · exact tm_sub [1, 2, 3, 4, 5, 6, 7, 8, 9, 10, 11] rfl (hx_342 (0) σ (Fr.rfl.trans (Fr.sub hF (by decide) (by decide) (by decide))) hR (by rw [show i = ρ.2.1 9 q by omega] at hc; exact hc) (by rw [show i = ρ.2.1 9 q by omega] at hms; exact hms))
    · refine tm_aload_n dX12_meltOne_315 rfl 8 rfl ?_
      refine tm_aload_n dX12_meltOne_316 rfl 8 rfl ?_
      refine tm_iload_n dX12_meltOne_317 rfl 11 rfl ?_
      refine tm_iload dX12_meltOne_318 0 rfl ?_
      refine tm_callV (M := m_X12_meltOne) (pc := 320) (ix := 203) (M' := m_X12_at) (As := [.int (iI q), .int (iI i)]) (rest := [.ref b]) dX12_meltOne_320 ok_X12_at im_X12_at se_X12_at ml12_203 np_X12_at rfl rfl (Nat.le_of_ble_eq_true rfl) (Nat.le_of_ble_eq_true rfl) rfl (c_X12_at (d + 2) (σ := σ) (x := q) (k := i) ) (fun r3 σ4 hp => ?_)
      obtain ⟨v5, rfl, rfl, f6⟩ := hp
      subst f6
      show Tm _ _ 323 b σ [(11, .int (iI i)), (10, .int (iI mk)), (9, .int (iI to)), (8, .int (iI out)), (7, .int (iI lb)), (6, .int (iI base)), (5, .int (iI f)), (4, .int (iI (220 * r + k))), (0, .ref b), (1, .int (iI r)), (2, .int (iI k)), (3, .int (iI q))] [.int (iI (220 * q + i)), .ref b] _
      refine tm_iload dX12_meltOne_323 6 rfl ?_
      refine tm_iload dX12_meltOne_325 5 rfl ?_
      refine tm_iload dX12_meltOne_327 4 rfl ?_
      refine tm_iload dX12_meltOne_329 2 rfl ?_
      refine tm_iload dX12_meltOne_331 3 rfl ?_
      refine tm_callV (M := m_X12_meltOne) (pc := 333) (ix := 518) (M' := m_X12_meltItem) (As := [.int (iI (220 * q + i)), .int (iI f), .int (iI base), .int (iI lb), .int (iI to), .int (iI out)]) (rest := []) dX12_meltOne_333 ok_X12_meltItem im_X12_meltItem se_X12_meltItem ml12_518 np_X12_meltItem rfl rfl (Nat.le_of_ble_eq_true rfl) (Nat.le_of_ble_eq_true rfl) rfl (c_X12_meltItem (d) (σ := σ) (x := 220 * q + i) (f := f) (base := base) (lb := lb) (to := to) (out := out) (ρ := ρ) (FI := FI) (lf := lf) (frq := frq) (lfq := lfq) (q := q) (i := i) (g0 := g0) (m := m) hR rfl (by omega) (by omega) (hmo.mih hms (by omega) (by omega)) (by omega)) (fun r7 σ8 hp => ?_)
      obtain ⟨rfl, f10, f11, f12, f13⟩ := hp
      show Tm _ _ 336 b σ8 [(11, .int (iI i)), (10, .int (iI mk)), (9, .int (iI to)), (8, .int (iI out)), (7, .int (iI lb)), (6, .int (iI base)), (5, .int (iI f)), (4, .int (iI (220 * r + k))), (0, .ref b), (1, .int (iI r)), (2, .int (iI k)), (3, .int (iI q))] [] _
      refine tm_iinc (q0 := 0) (L' := [(11, .int (iI (i + 1))), (10, .int (iI mk)), (9, .int (iI to)), (8, .int (iI out)), (7, .int (iI lb)), (6, .int (iI base)), (5, .int (iI f)), (4, .int (iI (220 * r + k))), (0, .ref b), (1, .int (iI r)), (2, .int (iI k)), (3, .int (iI q))]) dX12_meltOne_336 rfl (by decide) rfl ?_
      refine tm_goto (tgt := 304) dX12_meltOne_339 (by decide) ?_
      exact tm_sub [0, 1, 2, 3, 4, 5, 6, 7, 8, 9, 10, 11] rfl (ih _ (by omega) (i + 1) σ8 ((Fr.rfl.trans (Fr.sub hF (by decide) (by decide) (by decide))).trans (Fr.sub f10 (by decide) (by decide) (by decide))) f11 (by omega) (by rw [cnt_s (by omega), show rcf ρ q i = (if ρ.2.1 3 (220 * q + i) = 7 then 1 else 0) from rfl]; have e := f12; split at e <;> split <;> omega) f13 rfl)
end
section
theorem dX12_meltOne_487 : decode cX12_meltOne 487 = .ok (.iload 14, 2) := by decide +kernel
theorem dX12_meltOne_489 : decode cX12_meltOne 489 = .ok (.bipush 12, 2) := by decide +kernel
theorem dX12_meltOne_491 : decode cX12_meltOne 491 = .ok (.if_icmp .ge 53, 3) := by decide +kernel
theorem dX12_meltOne_494 : decode cX12_meltOne 494 = .ok (.aload_n 0, 1) := by decide +kernel
theorem dX12_meltOne_495 : decode cX12_meltOne 495 = .ok (.getfield 56, 3) := by decide +kernel
theorem dX12_meltOne_498 : decode cX12_meltOne 498 = .ok (.sipush 144, 3) := by decide +kernel
theorem dX12_meltOne_501 : decode cX12_meltOne 501 = .ok (.iload_n 1, 1) := by decide +kernel
theorem dX12_meltOne_502 : decode cX12_meltOne 502 = .ok (.imul, 1) := by decide +kernel
theorem dX12_meltOne_503 : decode cX12_meltOne 503 = .ok (.bipush 12, 2) := by decide +kernel
theorem dX12_meltOne_505 : decode cX12_meltOne 505 = .ok (.iload 5, 2) := by decide +kernel
theorem dX12_meltOne_507 : decode cX12_meltOne 507 = .ok (.iload 11, 2) := by decide +kernel
theorem dX12_meltOne_509 : decode cX12_meltOne 509 = .ok (.iadd, 1) := by decide +kernel
theorem dX12_meltOne_510 : decode cX12_meltOne 510 = .ok (.imul, 1) := by decide +kernel
theorem dX12_meltOne_511 : decode cX12_meltOne 511 = .ok (.iadd, 1) := by decide +kernel
theorem dX12_meltOne_512 : decode cX12_meltOne 512 = .ok (.iload 14, 2) := by decide +kernel
theorem dX12_meltOne_514 : decode cX12_meltOne 514 = .ok (.iadd, 1) := by decide +kernel
theorem dX12_meltOne_515 : decode cX12_meltOne 515 = .ok (.aload_n 0, 1) := by decide +kernel
theorem dX12_meltOne_516 : decode cX12_meltOne 516 = .ok (.getfield 56, 3) := by decide +kernel
theorem dX12_meltOne_519 : decode cX12_meltOne 519 = .ok (.sipush 144, 3) := by decide +kernel
theorem dX12_meltOne_522 : decode cX12_meltOne 522 = .ok (.iload_n 3, 1) := by decide +kernel
theorem dX12_meltOne_523 : decode cX12_meltOne 523 = .ok (.imul, 1) := by decide +kernel
theorem dX12_meltOne_524 : decode cX12_meltOne 524 = .ok (.bipush 12, 2) := by decide +kernel
theorem dX12_meltOne_526 : decode cX12_meltOne 526 = .ok (.iload 11, 2) := by decide +kernel
theorem dX12_meltOne_528 : decode cX12_meltOne 528 = .ok (.imul, 1) := by decide +kernel
theorem dX12_meltOne_529 : decode cX12_meltOne 529 = .ok (.iadd, 1) := by decide +kernel
theorem dX12_meltOne_530 : decode cX12_meltOne 530 = .ok (.iload 14, 2) := by decide +kernel
theorem dX12_meltOne_532 : decode cX12_meltOne 532 = .ok (.iadd, 1) := by decide +kernel
theorem dX12_meltOne_533 : decode cX12_meltOne 533 = .ok (.iaload, 1) := by decide +kernel
theorem dX12_meltOne_534 : decode cX12_meltOne 534 = .ok (.iload 6, 2) := by decide +kernel
theorem dX12_meltOne_536 : decode cX12_meltOne 536 = .ok (.iadd, 1) := by decide +kernel
theorem dX12_meltOne_537 : decode cX12_meltOne 537 = .ok (.iastore, 1) := by decide +kernel
theorem dX12_meltOne_538 : decode cX12_meltOne 538 = .ok (.iinc 14 1, 3) := by decide +kernel
theorem dX12_meltOne_541 : decode cX12_meltOne 541 = .ok (.goto (-54), 3) := by decide +kernel
set_option maxHeartbeats 2000000 in
set_option maxRecDepth 20000 in
theorem l_mo6 (d : Nat) {b : Nat} {σ0 : MS} {r : Int} {k : Int} {q : Int} {f : Int} {base : Int} {lb : Int} {out : Int} {to : Int} {mk : Int} {j : Int} {post : Option Value → MS → Prop} (hR0 : RG σ0) (hx : (0 ≤ r ∧ r < 6) ∧ (0 ≤ q ∧ q < 6) ∧ q ≠ r ∧ 0 ≤ j ∧ 0 ≤ f ∧ f + j < 12) (hb : 0 ≤ base ∧ base ≤ 192) (hx_544 : ∀ (n1 : Int) (σ : MS) , (Fr [] [18] [] σ0 σ) → (RG σ) → (∀ n, 0 ≤ n → n < 12 → σ.2.1 18 (144 * r + 12 * (f + j) + n) = wr (σ0.2.1 18 (144 * q + 12 * j + n) + base)) → (∀ z, (z < 144 * r + 12 * (f + j) ∨ 144 * r + 12 * (f + j) + 12 ≤ z) → σ.2.1 18 z = σ0.2.1 18 z) → Tm (d + 1) m_X12_meltOne 544 b σ [(11, .int (iI j)), (10, .int (iI mk)), (9, .int (iI to)), (8, .int (iI out)), (7, .int (iI lb)), (6, .int (iI base)), (5, .int (iI f)), (4, .int (iI (220 * r + k))), (0, .ref b), (1, .int (iI r)), (2, .int (iI k)), (3, .int (iI q))] [] post) : ∀ (n : Nat) (n1 : Int) (σ : MS) , (Fr [] [18] [] σ0 σ) → (RG σ) → (0 ≤ n1 ∧ n1 ≤ 12) → (∀ n, 0 ≤ n → n < n1 → σ.2.1 18 (144 * r + 12 * (f + j) + n) = wr (σ0.2.1 18 (144 * q + 12 * j + n) + base)) → (∀ z, (z < 144 * r + 12 * (f + j) ∨ 144 * r + 12 * (f + j) + 12 ≤ z) → σ.2.1 18 z = σ0.2.1 18 z) → (12 - n1).toNat = n → Tm (d + 1) m_X12_meltOne 487 b σ [(14, .int (iI n1)), (11, .int (iI j)), (10, .int (iI mk)), (9, .int (iI to)), (8, .int (iI out)), (7, .int (iI lb)), (6, .int (iI base)), (5, .int (iI f)), (4, .int (iI (220 * r + k))), (0, .ref b), (1, .int (iI r)), (2, .int (iI k)), (3, .int (iI q))] [] post := by
  intro n
  induction n using Nat.strongRecOn with
  | _ n ih =>
    intro n1 σ hF hR h0 hn ho hm
    refine tm_iload dX12_meltOne_487 0 rfl ?_
    refine tm_bipush dX12_meltOne_489 (by decide) ?_
    refine tm_icmp_ge (tgt := 544) dX12_meltOne_491 (by decide) ⟨by omega, by omega⟩ ⟨by decide, by decide⟩ (fun h1 => ?_) (fun h1 => ?_)
    · exact tm_sub [1, 2, 3, 4, 5, 6, 7, 8, 9, 10, 11, 12] rfl (hx_544 (0) σ (Fr.rfl.trans (Fr.sub hF (by decide) (by decide) (by decide))) hR (fun n a c => hn n a (by omega)) ho)
    · have hz := ho (144 * q + 12 * j + n1) (by omega)
      refine tm_aload_n dX12_meltOne_494 rfl 9 rfl ?_
      refine tm_get (k := 18) (v := .ref (b + 1 + 15)) lay_12 dX12_meltOne_495 (by decide) fl12_56 rfl ?_
      refine tm_sipush dX12_meltOne_498 (by decide) ?_
      refine tm_iload_n dX12_meltOne_501 rfl 10 rfl ?_
      refine tm_imul dX12_meltOne_502 ?_
      refine tm_bipush dX12_meltOne_503 (by decide) ?_
      refine tm_iload dX12_meltOne_505 7 rfl ?_
      refine tm_iload dX12_meltOne_507 1 rfl ?_
      refine tm_iadd dX12_meltOne_509 ?_
      refine tm_imul dX12_meltOne_510 ?_
      refine tm_iadd dX12_meltOne_511 ?_
      refine tm_iload dX12_meltOne_512 0 rfl ?_
      refine tm_iadd dX12_meltOne_514 ?_
      refine tm_aload_n dX12_meltOne_515 rfl 9 rfl ?_
      refine tm_get (k := 18) (v := .ref (b + 1 + 15)) lay_12 dX12_meltOne_516 (by decide) fl12_56 rfl ?_
      refine tm_sipush dX12_meltOne_519 (by decide) ?_
      refine tm_iload_n dX12_meltOne_522 rfl 12 rfl ?_
      refine tm_imul dX12_meltOne_523 ?_
      refine tm_bipush dX12_meltOne_524 (by decide) ?_
      refine tm_iload dX12_meltOne_526 1 rfl ?_
      refine tm_imul dX12_meltOne_528 ?_
      refine tm_iadd dX12_meltOne_529 ?_
      refine tm_iload dX12_meltOne_530 0 rfl ?_
      refine tm_iadd dX12_meltOne_532 ?_
      refine tm_iald (z := ((144 * q) + (12 * j)) + n1) (v := σ.2.1 18 (((144 * q) + (12 * j)) + n1)) dX12_meltOne_533 (show mT[15]? = some (18, 0, 864) from rfl) (by omega) (by omega) (by decide) (rfl) ?_
      have g2 := RG.a hR 18 (((144 * q) + (12 * j)) + n1)
      refine tm_iload dX12_meltOne_534 6 rfl ?_
      refine tm_iadd dX12_meltOne_536 ?_
      rw [← wr_eq ((σ.2.1 18 (((144 * q) + (12 * j)) + n1)) + base)]
      have g3 := wr_rng ((σ.2.1 18 (((144 * q) + (12 * j)) + n1)) + base)
      refine tm_iast (z := ((144 * r) + (12 * (f + j))) + n1) (v := wr ((σ.2.1 18 (((144 * q) + (12 * j)) + n1)) + base)) dX12_meltOne_537 (show mT[15]? = some (18, 0, 864) from rfl) (by omega) (by omega) (by decide) ?_
      refine tm_iinc (q0 := 0) (L' := [(14, .int (iI (n1 + 1))), (11, .int (iI j)), (10, .int (iI mk)), (9, .int (iI to)), (8, .int (iI out)), (7, .int (iI lb)), (6, .int (iI base)), (5, .int (iI f)), (4, .int (iI (220 * r + k))), (0, .ref b), (1, .int (iI r)), (2, .int (iI k)), (3, .int (iI q))]) dX12_meltOne_538 rfl (by decide) rfl ?_
      refine tm_goto (tgt := 487) dX12_meltOne_541 (by decide) ?_
      exact tm_sub [0, 1, 2, 3, 4, 5, 6, 7, 8, 9, 10, 11, 12] rfl (ih _ (by omega) (n1 + 1) (sA 18 (((144 * r) + (12 * (f + j))) + n1) (wr ((σ.2.1 18 (((144 * q) + (12 * j)) + n1)) + base)) σ) ((Fr.rfl.trans (Fr.sub hF (by decide) (by decide) (by decide))).A (by decide)) (hR.A (by omega)) (by omega) (fun n a c => by
          by_cases e : n = n1
          · subst e; exact ra_eq.trans (by rw [hz])
          · exact ra_ne (by omega) (hn n a (by omega))) (fun z c => ra_ne (by omega) (ho z c)) rfl)
theorem dX12_meltOne_367 : decode cX12_meltOne 367 = .ok (.iload 11, 2) := by decide +kernel
theorem dX12_meltOne_369 : decode cX12_meltOne 369 = .ok (.aload_n 0, 1) := by decide +kernel
theorem dX12_meltOne_370 : decode cX12_meltOne 370 = .ok (.getfield 44, 3) := by decide +kernel
theorem dX12_meltOne_373 : decode cX12_meltOne 373 = .ok (.iload_n 3, 1) := by decide +kernel
theorem dX12_meltOne_374 : decode cX12_meltOne 374 = .ok (.iaload, 1) := by decide +kernel
theorem dX12_meltOne_375 : decode cX12_meltOne 375 = .ok (.if_icmp .ge 175, 3) := by decide +kernel
theorem dX12_meltOne_378 : decode cX12_meltOne 378 = .ok (.bipush 12, 2) := by decide +kernel
theorem dX12_meltOne_380 : decode cX12_meltOne 380 = .ok (.iload_n 1, 1) := by decide +kernel
theorem dX12_meltOne_381 : decode cX12_meltOne 381 = .ok (.imul, 1) := by decide +kernel
theorem dX12_meltOne_382 : decode cX12_meltOne 382 = .ok (.iload 5, 2) := by decide +kernel
theorem dX12_meltOne_384 : decode cX12_meltOne 384 = .ok (.iadd, 1) := by decide +kernel
theorem dX12_meltOne_385 : decode cX12_meltOne 385 = .ok (.iload 11, 2) := by decide +kernel
theorem dX12_meltOne_387 : decode cX12_meltOne 387 = .ok (.iadd, 1) := by decide +kernel
theorem dX12_meltOne_388 : decode cX12_meltOne 388 = .ok (.istore 12, 2) := by decide +kernel
theorem dX12_meltOne_390 : decode cX12_meltOne 390 = .ok (.bipush 12, 2) := by decide +kernel
theorem dX12_meltOne_392 : decode cX12_meltOne 392 = .ok (.iload_n 3, 1) := by decide +kernel
theorem dX12_meltOne_393 : decode cX12_meltOne 393 = .ok (.imul, 1) := by decide +kernel
theorem dX12_meltOne_394 : decode cX12_meltOne 394 = .ok (.iload 11, 2) := by decide +kernel
theorem dX12_meltOne_396 : decode cX12_meltOne 396 = .ok (.iadd, 1) := by decide +kernel
theorem dX12_meltOne_397 : decode cX12_meltOne 397 = .ok (.istore 13, 2) := by decide +kernel
theorem dX12_meltOne_399 : decode cX12_meltOne 399 = .ok (.aload_n 0, 1) := by decide +kernel
theorem dX12_meltOne_400 : decode cX12_meltOne 400 = .ok (.getfield 47, 3) := by decide +kernel
theorem dX12_meltOne_403 : decode cX12_meltOne 403 = .ok (.iload 12, 2) := by decide +kernel
theorem dX12_meltOne_405 : decode cX12_meltOne 405 = .ok (.aload_n 0, 1) := by decide +kernel
theorem dX12_meltOne_406 : decode cX12_meltOne 406 = .ok (.getfield 47, 3) := by decide +kernel
theorem dX12_meltOne_409 : decode cX12_meltOne 409 = .ok (.iload 13, 2) := by decide +kernel
theorem dX12_meltOne_411 : decode cX12_meltOne 411 = .ok (.iaload, 1) := by decide +kernel
theorem dX12_meltOne_412 : decode cX12_meltOne 412 = .ok (.iastore, 1) := by decide +kernel
theorem dX12_meltOne_413 : decode cX12_meltOne 413 = .ok (.aload_n 0, 1) := by decide +kernel
theorem dX12_meltOne_414 : decode cX12_meltOne 414 = .ok (.getfield 50, 3) := by decide +kernel
theorem dX12_meltOne_417 : decode cX12_meltOne 417 = .ok (.iload 12, 2) := by decide +kernel
theorem dX12_meltOne_419 : decode cX12_meltOne 419 = .ok (.iload 11, 2) := by decide +kernel
theorem dX12_meltOne_421 : decode cX12_meltOne 421 = .ok (.ifCond .ne 18, 3) := by decide +kernel
theorem dX12_meltOne_439 : decode cX12_meltOne 439 = .ok (.aload_n 0, 1) := by decide +kernel
theorem dX12_meltOne_440 : decode cX12_meltOne 440 = .ok (.getfield 50, 3) := by decide +kernel
theorem dX12_meltOne_443 : decode cX12_meltOne 443 = .ok (.iload 13, 2) := by decide +kernel
theorem dX12_meltOne_445 : decode cX12_meltOne 445 = .ok (.iaload, 1) := by decide +kernel
theorem dX12_meltOne_446 : decode cX12_meltOne 446 = .ok (.iload 5, 2) := by decide +kernel
theorem dX12_meltOne_448 : decode cX12_meltOne 448 = .ok (.iadd, 1) := by decide +kernel
theorem dX12_meltOne_449 : decode cX12_meltOne 449 = .ok (.iastore, 1) := by decide +kernel
theorem dX12_meltOne_450 : decode cX12_meltOne 450 = .ok (.aload_n 0, 1) := by decide +kernel
theorem dX12_meltOne_451 : decode cX12_meltOne 451 = .ok (.getfield 53, 3) := by decide +kernel
theorem dX12_meltOne_454 : decode cX12_meltOne 454 = .ok (.iload 12, 2) := by decide +kernel
theorem dX12_meltOne_456 : decode cX12_meltOne 456 = .ok (.iload 11, 2) := by decide +kernel
theorem dX12_meltOne_458 : decode cX12_meltOne 458 = .ok (.ifCond .ne 18, 3) := by decide +kernel
theorem dX12_meltOne_476 : decode cX12_meltOne 476 = .ok (.aload_n 0, 1) := by decide +kernel
theorem dX12_meltOne_477 : decode cX12_meltOne 477 = .ok (.getfield 53, 3) := by decide +kernel
theorem dX12_meltOne_480 : decode cX12_meltOne 480 = .ok (.iload 13, 2) := by decide +kernel
theorem dX12_meltOne_482 : decode cX12_meltOne 482 = .ok (.iaload, 1) := by decide +kernel
theorem dX12_meltOne_483 : decode cX12_meltOne 483 = .ok (.iastore, 1) := by decide +kernel
theorem dX12_meltOne_484 : decode cX12_meltOne 484 = .ok (.iconst 0, 1) := by decide +kernel
theorem dX12_meltOne_485 : decode cX12_meltOne 485 = .ok (.istore 14, 2) := by decide +kernel
theorem dX12_meltOne_544 : decode cX12_meltOne 544 = .ok (.iinc 11 1, 3) := by decide +kernel
theorem dX12_meltOne_547 : decode cX12_meltOne 547 = .ok (.goto (-180), 3) := by decide +kernel
theorem dX12_meltOne_424 : decode cX12_meltOne 424 = .ok (.aload_n 0, 1) := by decide +kernel
theorem dX12_meltOne_425 : decode cX12_meltOne 425 = .ok (.getfield 20, 3) := by decide +kernel
theorem dX12_meltOne_428 : decode cX12_meltOne 428 = .ok (.aload_n 0, 1) := by decide +kernel
theorem dX12_meltOne_429 : decode cX12_meltOne 429 = .ok (.iload_n 1, 1) := by decide +kernel
theorem dX12_meltOne_430 : decode cX12_meltOne 430 = .ok (.iload 10, 2) := by decide +kernel
theorem dX12_meltOne_432 : decode cX12_meltOne 432 = .ok (.invokevirtual 203, 3) := by decide +kernel
theorem dX12_meltOne_435 : decode cX12_meltOne 435 = .ok (.iaload, 1) := by decide +kernel
theorem dX12_meltOne_436 : decode cX12_meltOne 436 = .ok (.goto 13, 3) := by decide +kernel
theorem dX12_meltOne_461 : decode cX12_meltOne 461 = .ok (.aload_n 0, 1) := by decide +kernel
theorem dX12_meltOne_462 : decode cX12_meltOne 462 = .ok (.getfield 17, 3) := by decide +kernel
theorem dX12_meltOne_465 : decode cX12_meltOne 465 = .ok (.aload_n 0, 1) := by decide +kernel
theorem dX12_meltOne_466 : decode cX12_meltOne 466 = .ok (.iload_n 1, 1) := by decide +kernel
theorem dX12_meltOne_467 : decode cX12_meltOne 467 = .ok (.iload 10, 2) := by decide +kernel
theorem dX12_meltOne_469 : decode cX12_meltOne 469 = .ok (.invokevirtual 203, 3) := by decide +kernel
theorem dX12_meltOne_472 : decode cX12_meltOne 472 = .ok (.iaload, 1) := by decide +kernel
theorem dX12_meltOne_473 : decode cX12_meltOne 473 = .ok (.goto 10, 3) := by decide +kernel
set_option maxHeartbeats 2000000 in
set_option maxRecDepth 20000 in
theorem l_mo5 (d : Nat) {b : Nat} {σ0 : MS} {r : Int} {k : Int} {q : Int} {f : Int} {base : Int} {lb : Int} {out : Int} {to : Int} {ρ : MS} {FI : Int → Int} {lf : Int → Int} {frq : Int → Int} {lfq : Int → Int} {g0 : Int} {m : Int} {mk : Int} {post : Option Value → MS → Prop} (hmo : MOH ρ r k q f base lb out to g0 m FI lf frq lfq) (hR0 : RG σ0) (hρ : Fr [62] [3, 4, 5, 6, 7, 8] [] ρ σ0) (hmk : σ0.2.1 5 (220 * r + mk) = g0 ∧ 0 ≤ mk ∧ mk < 220) (hfq : FRI ρ q) (hx_550 : ∀ (j : Int) (σ : MS) , (Fr [] [15, 16, 17, 18] [] σ0 σ) → (RG σ) → (FRM ρ σ r q f g0 base (ρ.2.1 14 q)) → Tm (d + 2) m_X12_meltOne 550 b σ [(10, .int (iI mk)), (9, .int (iI to)), (8, .int (iI out)), (7, .int (iI lb)), (6, .int (iI base)), (5, .int (iI f)), (4, .int (iI (220 * r + k))), (0, .ref b), (1, .int (iI r)), (2, .int (iI k)), (3, .int (iI q))] [] post) : ∀ (n : Nat) (j : Int) (σ : MS) , (Fr [] [15, 16, 17, 18] [] σ0 σ) → (RG σ) → (0 ≤ j ∧ j ≤ ρ.2.1 14 q) → (FRM ρ σ r q f g0 base j) → (12 - j).toNat = n → Tm (d + 2) m_X12_meltOne 367 b σ [(11, .int (iI j)), (10, .int (iI mk)), (9, .int (iI to)), (8, .int (iI out)), (7, .int (iI lb)), (6, .int (iI base)), (5, .int (iI f)), (4, .int (iI (220 * r + k))), (0, .ref b), (1, .int (iI r)), (2, .int (iI k)), (3, .int (iI q))] [] post := by
  intro n
  induction n using Nat.strongRecOn with
  | _ n ih =>
    intro j σ hF hR h0 hfm hm
    have mn := hmo.n
    have e14 : σ0.2.1 14 q = ρ.2.1 14 q := by rw [hρ.2.1 14 (by decide)]
    refine tm_iload dX12_meltOne_367 0 rfl ?_
    refine tm_aload_n dX12_meltOne_369 rfl 8 rfl ?_
    refine tm_get (k := 14) (v := .ref (b + 1 + 11)) lay_12 dX12_meltOne_370 (by decide) fl12_44 rfl ?_
    refine tm_iload_n dX12_meltOne_373 rfl 11 rfl ?_
    refine tm_iald (z := q) (v := σ0.2.1 14 q) dX12_meltOne_374 (show mT[11]? = some (14, 0, 6) from rfl) (by omega) (by omega) (by decide) (ra_F hF (by decide) (rfl)) ?_
    have g1 := RG.a hR0 14 (q)
    refine tm_icmp_ge (tgt := 550) dX12_meltOne_375 (by decide) ⟨by omega, by omega⟩ ⟨by omega, by omega⟩ (fun h2 => ?_) (fun h2 => ?_)
    · exact tm_sub [1, 2, 3, 4, 5, 6, 7, 8, 9, 10, 11] rfl (hx_550 (0) σ (Fr.rfl.trans (Fr.sub hF (by decide) (by decide) (by decide))) hR (by rw [show ρ.2.1 14 q = j by omega]; exact hfm))
    · have e16 := hfm.2.1 (12 * q + j) (by omega)
      have hf1 := hfq.2 j
      refine tm_bipush dX12_meltOne_378 (by decide) ?_
      refine tm_iload_n dX12_meltOne_380 rfl 9 rfl ?_
      refine tm_imul dX12_meltOne_381 ?_
      refine tm_iload dX12_meltOne_382 6 rfl ?_
      refine tm_iadd dX12_meltOne_384 ?_
      refine tm_iload dX12_meltOne_385 0 rfl ?_
      refine tm_iadd dX12_meltOne_387 ?_
      refine tm_istore (L' := [(12, .int (iI (((12 * r) + f) + j))), (11, .int (iI j)), (10, .int (iI mk)), (9, .int (iI to)), (8, .int (iI out)), (7, .int (iI lb)), (6, .int (iI base)), (5, .int (iI f)), (4, .int (iI (220 * r + k))), (0, .ref b), (1, .int (iI r)), (2, .int (iI k)), (3, .int (iI q))]) dX12_meltOne_388 (by decide) rfl ?_
      refine tm_bipush dX12_meltOne_390 (by decide) ?_
      refine tm_iload_n dX12_meltOne_392 rfl 12 rfl ?_
      refine tm_imul dX12_meltOne_393 ?_
      refine tm_iload dX12_meltOne_394 1 rfl ?_
      refine tm_iadd dX12_meltOne_396 ?_
      refine tm_istore (L' := [(13, .int (iI ((12 * q) + j))), (12, .int (iI (((12 * r) + f) + j))), (11, .int (iI j)), (10, .int (iI mk)), (9, .int (iI to)), (8, .int (iI out)), (7, .int (iI lb)), (6, .int (iI base)), (5, .int (iI f)), (4, .int (iI (220 * r + k))), (0, .ref b), (1, .int (iI r)), (2, .int (iI k)), (3, .int (iI q))]) dX12_meltOne_397 (by decide) rfl ?_
      refine tm_aload_n dX12_meltOne_399 rfl 10 rfl ?_
      refine tm_get (k := 15) (v := .ref (b + 1 + 12)) lay_12 dX12_meltOne_400 (by decide) fl12_47 rfl ?_
      refine tm_iload dX12_meltOne_403 1 rfl ?_
      refine tm_aload_n dX12_meltOne_405 rfl 10 rfl ?_
      refine tm_get (k := 15) (v := .ref (b + 1 + 12)) lay_12 dX12_meltOne_406 (by decide) fl12_47 rfl ?_
      refine tm_iload dX12_meltOne_409 0 rfl ?_
      refine tm_iald (z := (12 * q) + j) (v := σ.2.1 15 ((12 * q) + j)) dX12_meltOne_411 (show mT[12]? = some (15, 0, 72) from rfl) (by omega) (by omega) (by decide) (rfl) ?_
      have g3 := RG.a hR 15 ((12 * q) + j)
      refine tm_iast (z := ((12 * r) + f) + j) (v := σ.2.1 15 ((12 * q) + j)) dX12_meltOne_412 (show mT[12]? = some (15, 0, 72) from rfl) (by omega) (by omega) (by decide) ?_
      refine tm_aload_n dX12_meltOne_413 rfl 10 rfl ?_
      refine tm_get (k := 16) (v := .ref (b + 1 + 13)) lay_12 dX12_meltOne_414 (by decide) fl12_50 rfl ?_
      refine tm_iload dX12_meltOne_417 1 rfl ?_
      refine tm_iload dX12_meltOne_419 2 rfl ?_
      refine tm_if_ne (tgt := 439) dX12_meltOne_421 (by decide) ⟨by omega, by omega⟩ (fun h4 => ?_) (fun h4 => ?_)
      · refine tm_aload_n dX12_meltOne_439 rfl 10 rfl ?_
        refine tm_get (k := 16) (v := .ref (b + 1 + 13)) lay_12 dX12_meltOne_440 (by decide) fl12_50 rfl ?_
        refine tm_iload dX12_meltOne_443 0 rfl ?_
        refine tm_iald (z := (12 * q) + j) (v := σ.2.1 16 ((12 * q) + j)) dX12_meltOne_445 (show mT[13]? = some (16, 0, 72) from rfl) (by omega) (by omega) (by decide) (ra_o (by decide) (rfl)) ?_
        have g5 := RG.a hR 16 ((12 * q) + j)
        refine tm_iload dX12_meltOne_446 8 rfl ?_
        refine tm_iadd dX12_meltOne_448 ?_
        refine tm_iast (z := ((12 * r) + f) + j) (v := (σ.2.1 16 ((12 * q) + j)) + f) dX12_meltOne_449 (show mT[13]? = some (16, 0, 72) from rfl) (by omega) (by omega) (by decide) ?_
        refine tm_aload_n dX12_meltOne_450 rfl 10 rfl ?_
        refine tm_get (k := 17) (v := .ref (b + 1 + 14)) lay_12 dX12_meltOne_451 (by decide) fl12_53 rfl ?_
        refine tm_iload dX12_meltOne_454 1 rfl ?_
        refine tm_iload dX12_meltOne_456 2 rfl ?_
        refine tm_if_ne (tgt := 476) dX12_meltOne_458 (by decide) ⟨by omega, by omega⟩ (fun h6 => ?_) (fun h6 => ?_)
        · refine tm_aload_n dX12_meltOne_476 rfl 10 rfl ?_
          refine tm_get (k := 17) (v := .ref (b + 1 + 14)) lay_12 dX12_meltOne_477 (by decide) fl12_53 rfl ?_
          refine tm_iload dX12_meltOne_480 0 rfl ?_
          refine tm_iald (z := (12 * q) + j) (v := σ.2.1 17 ((12 * q) + j)) dX12_meltOne_482 (show mT[14]? = some (17, 0, 72) from rfl) (by omega) (by omega) (by decide) (ra_o (by decide) (ra_o (by decide) (rfl))) ?_
          have g7 := RG.a hR 17 ((12 * q) + j)
          refine tm_iast (z := ((12 * r) + f) + j) (v := σ.2.1 17 ((12 * q) + j)) dX12_meltOne_483 (show mT[14]? = some (17, 0, 72) from rfl) (by omega) (by omega) (by decide) ?_
          refine tm_iconst dX12_meltOne_484 ?_
          refine tm_istore (L' := [(14, .int (iI 0)), (13, .int (iI ((12 * q) + j))), (12, .int (iI (((12 * r) + f) + j))), (11, .int (iI j)), (10, .int (iI mk)), (9, .int (iI to)), (8, .int (iI out)), (7, .int (iI lb)), (6, .int (iI base)), (5, .int (iI f)), (4, .int (iI (220 * r + k))), (0, .ref b), (1, .int (iI r)), (2, .int (iI k)), (3, .int (iI q))]) dX12_meltOne_485 (by decide) rfl ?_
          refine tm_sub [0, 3, 4, 5, 6, 7, 8, 9, 10, 11, 12, 13, 14] rfl (l_mo6 (d + 1) (σ0 := (sA 17 (((12 * r) + f) + j) (σ.2.1 17 ((12 * q) + j)) (sA 16 (((12 * r) + f) + j) ((σ.2.1 16 ((12 * q) + j)) + f) (sA 15 (((12 * r) + f) + j) (σ.2.1 15 ((12 * q) + j)) σ)))) (r := r) (k := k) (q := q) (f := f) (base := base) (lb := lb) (out := out) (to := to) (mk := mk) (j := j) (((hR.A (by omega)).A (by omega)).A (by omega)) (by omega) (by omega) (fun n114 σ15 F10 R11 f12 f13 => ?_) _ (0) (sA 17 (((12 * r) + f) + j) (σ.2.1 17 ((12 * q) + j)) (sA 16 (((12 * r) + f) + j) ((σ.2.1 16 ((12 * q) + j)) + f) (sA 15 (((12 * r) + f) + j) (σ.2.1 15 ((12 * q) + j)) σ))) Fr.rfl (((hR.A (by omega)).A (by omega)).A (by omega)) (by omega) (fun n a c => by omega) (fun z c => rfl) rfl)
          show Tm _ _ 544 b σ15 [(11, .int (iI j)), (10, .int (iI mk)), (9, .int (iI to)), (8, .int (iI out)), (7, .int (iI lb)), (6, .int (iI base)), (5, .int (iI f)), (4, .int (iI (220 * r + k))), (0, .ref b), (1, .int (iI r)), (2, .int (iI k)), (3, .int (iI q))] [] _
          refine tm_iinc (q0 := 0) (L' := [(11, .int (iI (j + 1))), (10, .int (iI mk)), (9, .int (iI to)), (8, .int (iI out)), (7, .int (iI lb)), (6, .int (iI base)), (5, .int (iI f)), (4, .int (iI (220 * r + k))), (0, .ref b), (1, .int (iI r)), (2, .int (iI k)), (3, .int (iI q))]) dX12_meltOne_544 rfl (by decide) rfl ?_
          refine tm_goto (tgt := 367) dX12_meltOne_547 (by decide) ?_
          exact tm_sub [0, 1, 2, 3, 4, 5, 6, 7, 8, 9, 10, 11] rfl (ih _ (by omega) (j + 1) σ15 (((((Fr.rfl.trans (Fr.sub hF (by decide) (by decide) (by decide))).A (by decide)).A (by decide)).A (by decide)).trans (Fr.sub F10 (by decide) (by decide) (by decide))) R11 (by omega) (hfm.go (by omega) (by omega) F10 (by omega) (fun e => by omega) (fun e => by omega) (fun n a c => by
          rw [f12 n a c, show (sA 17 (((12 * r) + f) + j) (σ.2.1 17 ((12 * q) + j)) (sA 16 (((12 * r) + f) + j) ((σ.2.1 16 ((12 * q) + j)) + f) (sA 15 (((12 * r) + f) + j) (σ.2.1 15 ((12 * q) + j)) σ))).2.1 18 (144 * q + 12 * j + n) = ρ.2.1 18 (144 * q + 12 * j + n) from hfm.2.2 _ (by omega)]) (fun z c => f13 z c)) rfl)
        · exact absurd h6 (by omega)
      · refine tm_aload_n dX12_meltOne_424 rfl 10 rfl ?_
        refine tm_get (k := 5) (v := .ref (b + 1 + 3)) lay_12 dX12_meltOne_425 (by decide) fl12_20 rfl ?_
        refine tm_aload_n dX12_meltOne_428 rfl 10 rfl ?_
        refine tm_iload_n dX12_meltOne_429 rfl 11 rfl ?_
        refine tm_iload dX12_meltOne_430 3 rfl ?_
        refine tm_callV (M := m_X12_meltOne) (pc := 432) (ix := 203) (M' := m_X12_at) (As := [.int (iI r), .int (iI mk)]) (rest := [.ref (b + 1 + 3), .int (iI (((12 * r) + f) + j)), .ref (b + 1 + 13)]) dX12_meltOne_432 ok_X12_at im_X12_at se_X12_at ml12_203 np_X12_at rfl rfl (Nat.le_of_ble_eq_true rfl) (Nat.le_of_ble_eq_true rfl) rfl (c_X12_at (d) (σ := (sA 15 (((12 * r) + f) + j) (σ.2.1 15 ((12 * q) + j)) σ)) (x := r) (k := mk) ) (fun r16 σ17 hp => ?_)
        obtain ⟨v18, rfl, rfl, f19⟩ := hp
        subst f19
        show Tm _ _ 435 b (sA 15 (((12 * r) + f) + j) (σ.2.1 15 ((12 * q) + j)) σ) [(13, .int (iI ((12 * q) + j))), (12, .int (iI (((12 * r) + f) + j))), (11, .int (iI j)), (10, .int (iI mk)), (9, .int (iI to)), (8, .int (iI out)), (7, .int (iI lb)), (6, .int (iI base)), (5, .int (iI f)), (4, .int (iI (220 * r + k))), (0, .ref b), (1, .int (iI r)), (2, .int (iI k)), (3, .int (iI q))] [.int (iI (220 * r + mk)), .ref (b + 1 + 3), .int (iI (((12 * r) + f) + j)), .ref (b + 1 + 13)] _
        refine tm_iald (z := 220 * r + mk) (v := σ0.2.1 5 (220 * r + mk)) dX12_meltOne_435 (show mT[3]? = some (5, 0, 2860) from rfl) (by omega) (by omega) (by decide) (ra_o (by decide) (ra_F hF (by decide) (rfl))) ?_
        have g20 := RG.a hR0 5 (220 * r + mk)
        refine tm_goto (tgt := 449) dX12_meltOne_436 (by decide) ?_
        refine tm_iast (z := ((12 * r) + f) + j) (v := σ0.2.1 5 (220 * r + mk)) dX12_meltOne_449 (show mT[13]? = some (16, 0, 72) from rfl) (by omega) (by omega) (by decide) ?_
        refine tm_aload_n dX12_meltOne_450 rfl 10 rfl ?_
        refine tm_get (k := 17) (v := .ref (b + 1 + 14)) lay_12 dX12_meltOne_451 (by decide) fl12_53 rfl ?_
        refine tm_iload dX12_meltOne_454 1 rfl ?_
        refine tm_iload dX12_meltOne_456 2 rfl ?_
        refine tm_if_ne (tgt := 476) dX12_meltOne_458 (by decide) ⟨by omega, by omega⟩ (fun h21 => ?_) (fun h21 => ?_)
        · exact absurd h21 (by omega)
        · refine tm_aload_n dX12_meltOne_461 rfl 10 rfl ?_
          refine tm_get (k := 4) (v := .ref (b + 1 + 2)) lay_12 dX12_meltOne_462 (by decide) fl12_17 rfl ?_
          refine tm_aload_n dX12_meltOne_465 rfl 10 rfl ?_
          refine tm_iload_n dX12_meltOne_466 rfl 11 rfl ?_
          refine tm_iload dX12_meltOne_467 3 rfl ?_
          refine tm_callV (M := m_X12_meltOne) (pc := 469) (ix := 203) (M' := m_X12_at) (As := [.int (iI r), .int (iI mk)]) (rest := [.ref (b + 1 + 2), .int (iI (((12 * r) + f) + j)), .ref (b + 1 + 14)]) dX12_meltOne_469 ok_X12_at im_X12_at se_X12_at ml12_203 np_X12_at rfl rfl (Nat.le_of_ble_eq_true rfl) (Nat.le_of_ble_eq_true rfl) rfl (c_X12_at (d) (σ := (sA 16 (((12 * r) + f) + j) (σ0.2.1 5 (220 * r + mk)) (sA 15 (((12 * r) + f) + j) (σ.2.1 15 ((12 * q) + j)) σ))) (x := r) (k := mk) ) (fun r22 σ23 hp => ?_)
          obtain ⟨v24, rfl, rfl, f25⟩ := hp
          subst f25
          show Tm _ _ 472 b (sA 16 (((12 * r) + f) + j) (σ0.2.1 5 (220 * r + mk)) (sA 15 (((12 * r) + f) + j) (σ.2.1 15 ((12 * q) + j)) σ)) [(13, .int (iI ((12 * q) + j))), (12, .int (iI (((12 * r) + f) + j))), (11, .int (iI j)), (10, .int (iI mk)), (9, .int (iI to)), (8, .int (iI out)), (7, .int (iI lb)), (6, .int (iI base)), (5, .int (iI f)), (4, .int (iI (220 * r + k))), (0, .ref b), (1, .int (iI r)), (2, .int (iI k)), (3, .int (iI q))] [.int (iI (220 * r + mk)), .ref (b + 1 + 2), .int (iI (((12 * r) + f) + j)), .ref (b + 1 + 14)] _
          refine tm_iald (z := 220 * r + mk) (v := σ0.2.1 4 (220 * r + mk)) dX12_meltOne_472 (show mT[2]? = some (4, 0, 2860) from rfl) (by omega) (by omega) (by decide) (ra_o (by decide) (ra_o (by decide) (ra_F hF (by decide) (rfl)))) ?_
          have g26 := RG.a hR0 4 (220 * r + mk)
          refine tm_goto (tgt := 483) dX12_meltOne_473 (by decide) ?_
          refine tm_iast (z := ((12 * r) + f) + j) (v := σ0.2.1 4 (220 * r + mk)) dX12_meltOne_483 (show mT[14]? = some (17, 0, 72) from rfl) (by omega) (by omega) (by decide) ?_
          refine tm_iconst dX12_meltOne_484 ?_
          refine tm_istore (L' := [(14, .int (iI 0)), (13, .int (iI ((12 * q) + j))), (12, .int (iI (((12 * r) + f) + j))), (11, .int (iI j)), (10, .int (iI mk)), (9, .int (iI to)), (8, .int (iI out)), (7, .int (iI lb)), (6, .int (iI base)), (5, .int (iI f)), (4, .int (iI (220 * r + k))), (0, .ref b), (1, .int (iI r)), (2, .int (iI k)), (3, .int (iI q))]) dX12_meltOne_485 (by decide) rfl ?_
          refine tm_sub [0, 3, 4, 5, 6, 7, 8, 9, 10, 11, 12, 13, 14] rfl (l_mo6 (d + 1) (σ0 := (sA 17 (((12 * r) + f) + j) (σ0.2.1 4 (220 * r + mk)) (sA 16 (((12 * r) + f) + j) (σ0.2.1 5 (220 * r + mk)) (sA 15 (((12 * r) + f) + j) (σ.2.1 15 ((12 * q) + j)) σ)))) (r := r) (k := k) (q := q) (f := f) (base := base) (lb := lb) (out := out) (to := to) (mk := mk) (j := j) (((hR.A (by omega)).A (by omega)).A (by omega)) (by omega) (by omega) (fun n133 σ34 F29 R30 f31 f32 => ?_) _ (0) (sA 17 (((12 * r) + f) + j) (σ0.2.1 4 (220 * r + mk)) (sA 16 (((12 * r) + f) + j) (σ0.2.1 5 (220 * r + mk)) (sA 15 (((12 * r) + f) + j) (σ.2.1 15 ((12 * q) + j)) σ))) Fr.rfl (((hR.A (by omega)).A (by omega)).A (by omega)) (by omega) (fun n a c => by omega) (fun z c => rfl) rfl)
          show Tm _ _ 544 b σ34 [(11, .int (iI j)), (10, .int (iI mk)), (9, .int (iI to)), (8, .int (iI out)), (7, .int (iI lb)), (6, .int (iI base)), (5, .int (iI f)), (4, .int (iI (220 * r + k))), (0, .ref b), (1, .int (iI r)), (2, .int (iI k)), (3, .int (iI q))] [] _
          refine tm_iinc (q0 := 0) (L' := [(11, .int (iI (j + 1))), (10, .int (iI mk)), (9, .int (iI to)), (8, .int (iI out)), (7, .int (iI lb)), (6, .int (iI base)), (5, .int (iI f)), (4, .int (iI (220 * r + k))), (0, .ref b), (1, .int (iI r)), (2, .int (iI k)), (3, .int (iI q))]) dX12_meltOne_544 rfl (by decide) rfl ?_
          refine tm_goto (tgt := 367) dX12_meltOne_547 (by decide) ?_
          exact tm_sub [0, 1, 2, 3, 4, 5, 6, 7, 8, 9, 10, 11] rfl (ih _ (by omega) (j + 1) σ34 (((((Fr.rfl.trans (Fr.sub hF (by decide) (by decide) (by decide))).A (by decide)).A (by decide)).A (by decide)).trans (Fr.sub F29 (by decide) (by decide) (by decide))) R30 (by omega) (hfm.go (by omega) (by omega) F29 (by omega) (fun e => by omega) (fun e => by omega) (fun n a c => by
          rw [f31 n a c, show (sA 17 (((12 * r) + f) + j) (σ0.2.1 4 (220 * r + mk)) (sA 16 (((12 * r) + f) + j) (σ0.2.1 5 (220 * r + mk)) (sA 15 (((12 * r) + f) + j) (σ.2.1 15 ((12 * q) + j)) σ))).2.1 18 (144 * q + 12 * j + n) = ρ.2.1 18 (144 * q + 12 * j + n) from hfm.2.2 _ (by omega)]) (fun z c => f32 z c)) rfl)
theorem dX12_meltOne_575 : decode cX12_meltOne 575 = .ok (.iload 11, 2) := by decide +kernel
theorem dX12_meltOne_577 : decode cX12_meltOne 577 = .ok (.iload_n 2, 1) := by decide +kernel
theorem dX12_meltOne_578 : decode cX12_meltOne 578 = .ok (.if_icmp .le 34, 3) := by decide +kernel
theorem dX12_meltOne_581 : decode cX12_meltOne 581 = .ok (.aload_n 0, 1) := by decide +kernel
theorem dX12_meltOne_582 : decode cX12_meltOne 582 = .ok (.aload_n 0, 1) := by decide +kernel
theorem dX12_meltOne_583 : decode cX12_meltOne 583 = .ok (.iload_n 1, 1) := by decide +kernel
theorem dX12_meltOne_584 : decode cX12_meltOne 584 = .ok (.iload 11, 2) := by decide +kernel
theorem dX12_meltOne_586 : decode cX12_meltOne 586 = .ok (.invokevirtual 203, 3) := by decide +kernel
theorem dX12_meltOne_589 : decode cX12_meltOne 589 = .ok (.aload_n 0, 1) := by decide +kernel
theorem dX12_meltOne_590 : decode cX12_meltOne 590 = .ok (.iload_n 1, 1) := by decide +kernel
theorem dX12_meltOne_591 : decode cX12_meltOne 591 = .ok (.iload 11, 2) := by decide +kernel
theorem dX12_meltOne_593 : decode cX12_meltOne 593 = .ok (.aload_n 0, 1) := by decide +kernel
theorem dX12_meltOne_594 : decode cX12_meltOne 594 = .ok (.getfield 509, 3) := by decide +kernel
theorem dX12_meltOne_597 : decode cX12_meltOne 597 = .ok (.iadd, 1) := by decide +kernel
theorem dX12_meltOne_598 : decode cX12_meltOne 598 = .ok (.iconst 1, 1) := by decide +kernel
theorem dX12_meltOne_599 : decode cX12_meltOne 599 = .ok (.isub, 1) := by decide +kernel
theorem dX12_meltOne_600 : decode cX12_meltOne 600 = .ok (.invokevirtual 203, 3) := by decide +kernel
theorem dX12_meltOne_603 : decode cX12_meltOne 603 = .ok (.invokevirtual 394, 3) := by decide +kernel
theorem dX12_meltOne_606 : decode cX12_meltOne 606 = .ok (.iinc 11 (-1), 3) := by decide +kernel
theorem dX12_meltOne_609 : decode cX12_meltOne 609 = .ok (.goto (-34), 3) := by decide +kernel
set_option maxHeartbeats 2000000 in
set_option maxRecDepth 20000 in
theorem l_mo7 (d : Nat) {b : Nat} {σ0 : MS} {r : Int} {k : Int} {q : Int} {f : Int} {base : Int} {lb : Int} {out : Int} {to : Int} {mk : Int} {a : Int} {nn : Int} {post : Option Value → MS → Prop} (hR0 : RG σ0) (hr : 0 ≤ r ∧ r < 6) (ha : σ0.1 62 = a ∧ 1 ≤ a ∧ 0 ≤ k ∧ nn + (a - 1) ≤ 220) (hx_612 : ∀ (i : Int) (σ : MS) , (Fr [] [3, 4, 5, 6, 7, 8] [] σ0 σ) → (RG σ) → (SHU σ0 σ r nn a k) → Tm (d + 2) m_X12_meltOne 612 b σ [(10, .int (iI mk)), (9, .int (iI to)), (8, .int (iI out)), (7, .int (iI lb)), (6, .int (iI base)), (5, .int (iI f)), (4, .int (iI (220 * r + k))), (0, .ref b), (1, .int (iI r)), (2, .int (iI k)), (3, .int (iI q))] [] post) : ∀ (n : Nat) (i : Int) (σ : MS) , (Fr [] [3, 4, 5, 6, 7, 8] [] σ0 σ) → (RG σ) → (k ≤ i ∧ i < nn) → (SHU σ0 σ r nn a i) → (i - k).toNat = n → Tm (d + 2) m_X12_meltOne 575 b σ [(11, .int (iI i)), (10, .int (iI mk)), (9, .int (iI to)), (8, .int (iI out)), (7, .int (iI lb)), (6, .int (iI base)), (5, .int (iI f)), (4, .int (iI (220 * r + k))), (0, .ref b), (1, .int (iI r)), (2, .int (iI k)), (3, .int (iI q))] [] post := by
  intro n
  induction n using Nat.strongRecOn with
  | _ n ih =>
    intro i σ hF hR h0 hsu hm
    refine tm_iload dX12_meltOne_575 0 rfl ?_
    refine tm_iload_n dX12_meltOne_577 rfl 10 rfl ?_
    refine tm_icmp_le (tgt := 612) dX12_meltOne_578 (by decide) ⟨by omega, by omega⟩ ⟨by omega, by omega⟩ (fun h1 => ?_) (fun h1 => ?_)
    · exact tm_sub [1, 2, 3, 4, 5, 6, 7, 8, 9, 10, 11] rfl (hx_612 (0) σ (Fr.rfl.trans (Fr.sub hF (by decide) (by decide) (by decide))) hR (by rw [show k = i by omega]; exact hsu))
    · refine tm_aload_n dX12_meltOne_581 rfl 8 rfl ?_
      refine tm_aload_n dX12_meltOne_582 rfl 8 rfl ?_
      refine tm_iload_n dX12_meltOne_583 rfl 9 rfl ?_
      refine tm_iload dX12_meltOne_584 0 rfl ?_
      refine tm_callV (M := m_X12_meltOne) (pc := 586) (ix := 203) (M' := m_X12_at) (As := [.int (iI r), .int (iI i)]) (rest := [.ref b]) dX12_meltOne_586 ok_X12_at im_X12_at se_X12_at ml12_203 np_X12_at rfl rfl (Nat.le_of_ble_eq_true rfl) (Nat.le_of_ble_eq_true rfl) rfl (c_X12_at (d) (σ := σ) (x := r) (k := i) ) (fun r2 σ3 hp => ?_)
      obtain ⟨v4, rfl, rfl, f5⟩ := hp
      subst f5
      show Tm _ _ 589 b σ [(11, .int (iI i)), (10, .int (iI mk)), (9, .int (iI to)), (8, .int (iI out)), (7, .int (iI lb)), (6, .int (iI base)), (5, .int (iI f)), (4, .int (iI (220 * r + k))), (0, .ref b), (1, .int (iI r)), (2, .int (iI k)), (3, .int (iI q))] [.int (iI (220 * r + i)), .ref b] _
      refine tm_aload_n dX12_meltOne_589 rfl 8 rfl ?_
      refine tm_iload_n dX12_meltOne_590 rfl 9 rfl ?_
      refine tm_iload dX12_meltOne_591 0 rfl ?_
      refine tm_aload_n dX12_meltOne_593 rfl 8 rfl ?_
      refine tm_getS (k := 62) (t := σ0.1 62) dX12_meltOne_594 (by decide) fl12_509 rfl (rs_F hF (by decide) (rfl)) ?_
      have g6 := RG.s hR0 62
      refine tm_iadd dX12_meltOne_597 ?_
      refine tm_iconst dX12_meltOne_598 ?_
      refine tm_isub dX12_meltOne_599 ?_
      refine tm_callV (M := m_X12_meltOne) (pc := 600) (ix := 203) (M' := m_X12_at) (As := [.int (iI r), .int (iI ((i + (σ0.1 62)) - 1))]) (rest := [.int (iI (220 * r + i)), .ref b]) dX12_meltOne_600 ok_X12_at im_X12_at se_X12_at ml12_203 np_X12_at rfl rfl (Nat.le_of_ble_eq_true rfl) (Nat.le_of_ble_eq_true rfl) rfl (c_X12_at (d) (σ := σ) (x := r) (k := (i + (σ0.1 62)) - 1) ) (fun r7 σ8 hp => ?_)
      obtain ⟨v9, rfl, rfl, f10⟩ := hp
      subst f10
      show Tm _ _ 603 b σ [(11, .int (iI i)), (10, .int (iI mk)), (9, .int (iI to)), (8, .int (iI out)), (7, .int (iI lb)), (6, .int (iI base)), (5, .int (iI f)), (4, .int (iI (220 * r + k))), (0, .ref b), (1, .int (iI r)), (2, .int (iI k)), (3, .int (iI q))] [.int (iI (220 * r + ((i + (σ0.1 62)) - 1))), .int (iI (220 * r + i)), .ref b] _
      refine tm_callV (M := m_X12_meltOne) (pc := 603) (ix := 394) (M' := m_X12_copyItem) (As := [.int (iI (220 * r + i)), .int (iI (220 * r + ((i + (σ0.1 62)) - 1)))]) (rest := []) dX12_meltOne_603 ok_X12_copyItem im_X12_copyItem se_X12_copyItem ml12_394 np_X12_copyItem rfl rfl (Nat.le_of_ble_eq_true rfl) (Nat.le_of_ble_eq_true rfl) rfl (c_X12_copyItem (d) (σ := σ) (f := 220 * r + i) (t := 220 * r + ((i + (σ0.1 62)) - 1)) (by omega) (by omega)) (fun r11 σ12 hp => ?_)
      obtain ⟨rfl, f14⟩ := hp
      subst f14
      show Tm _ _ 606 b (fCopy (220 * r + i) (220 * r + ((i + (σ0.1 62)) - 1)) σ) [(11, .int (iI i)), (10, .int (iI mk)), (9, .int (iI to)), (8, .int (iI out)), (7, .int (iI lb)), (6, .int (iI base)), (5, .int (iI f)), (4, .int (iI (220 * r + k))), (0, .ref b), (1, .int (iI r)), (2, .int (iI k)), (3, .int (iI q))] [] _
      refine tm_iinc (q0 := 0) (L' := [(11, .int (iI (i + (-1)))), (10, .int (iI mk)), (9, .int (iI to)), (8, .int (iI out)), (7, .int (iI lb)), (6, .int (iI base)), (5, .int (iI f)), (4, .int (iI (220 * r + k))), (0, .ref b), (1, .int (iI r)), (2, .int (iI k)), (3, .int (iI q))]) dX12_meltOne_606 rfl (by decide) rfl ?_
      refine tm_goto (tgt := 575) dX12_meltOne_609 (by decide) ?_
      exact tm_sub [0, 1, 2, 3, 4, 5, 6, 7, 8, 9, 10, 11] rfl (ih _ (by omega) (i + (-1)) (fCopy (220 * r + i) (220 * r + ((i + (σ0.1 62)) - 1)) σ) ((Fr.rfl.trans (Fr.sub hF (by decide) (by decide) (by decide))).trans (Fr.sub fCopy_fr (by decide) (by decide) (by decide))) (hR.copy) (by omega) (by
          have h := hsu.go hr (by omega)
          rw [show i + (a - 1) = i + σ0.1 62 - 1 by omega] at h
          exact h) rfl)
theorem dX12_meltOne_615 : decode cX12_meltOne 615 = .ok (.iload 11, 2) := by decide +kernel
theorem dX12_meltOne_617 : decode cX12_meltOne 617 = .ok (.aload_n 0, 1) := by decide +kernel
theorem dX12_meltOne_618 : decode cX12_meltOne 618 = .ok (.getfield 509, 3) := by decide +kernel
theorem dX12_meltOne_621 : decode cX12_meltOne 621 = .ok (.if_icmp .ge 28, 3) := by decide +kernel
theorem dX12_meltOne_624 : decode cX12_meltOne 624 = .ok (.aload_n 0, 1) := by decide +kernel
theorem dX12_meltOne_625 : decode cX12_meltOne 625 = .ok (.sipush 2640, 3) := by decide +kernel
theorem dX12_meltOne_628 : decode cX12_meltOne 628 = .ok (.iload 11, 2) := by decide +kernel
theorem dX12_meltOne_630 : decode cX12_meltOne 630 = .ok (.iadd, 1) := by decide +kernel
theorem dX12_meltOne_631 : decode cX12_meltOne 631 = .ok (.aload_n 0, 1) := by decide +kernel
theorem dX12_meltOne_632 : decode cX12_meltOne 632 = .ok (.iload_n 1, 1) := by decide +kernel
theorem dX12_meltOne_633 : decode cX12_meltOne 633 = .ok (.iload_n 2, 1) := by decide +kernel
theorem dX12_meltOne_634 : decode cX12_meltOne 634 = .ok (.iload 11, 2) := by decide +kernel
theorem dX12_meltOne_636 : decode cX12_meltOne 636 = .ok (.iadd, 1) := by decide +kernel
theorem dX12_meltOne_637 : decode cX12_meltOne 637 = .ok (.invokevirtual 203, 3) := by decide +kernel
theorem dX12_meltOne_640 : decode cX12_meltOne 640 = .ok (.invokevirtual 394, 3) := by decide +kernel
theorem dX12_meltOne_643 : decode cX12_meltOne 643 = .ok (.iinc 11 1, 3) := by decide +kernel
theorem dX12_meltOne_646 : decode cX12_meltOne 646 = .ok (.goto (-31), 3) := by decide +kernel
set_option maxHeartbeats 2000000 in
set_option maxRecDepth 20000 in
theorem l_mo8 (d : Nat) {b : Nat} {σ0 : MS} {r : Int} {k : Int} {q : Int} {f : Int} {base : Int} {lb : Int} {out : Int} {to : Int} {mk : Int} {a : Int} {post : Option Value → MS → Prop} (hR0 : RG σ0) (hr : 0 ≤ r ∧ r < 6) (ha : σ0.1 62 = a ∧ 1 ≤ a ∧ 0 ≤ k ∧ k + a ≤ 220) (hx_649 : ∀ (i : Int) (σ : MS) , (Fr [] [3, 4, 5, 6, 7, 8] [] σ0 σ) → (RG σ) → (CPI σ0 σ r k a a) → Tm (d + 2) m_X12_meltOne 649 b σ [(10, .int (iI mk)), (9, .int (iI to)), (8, .int (iI out)), (7, .int (iI lb)), (6, .int (iI base)), (5, .int (iI f)), (4, .int (iI (220 * r + k))), (0, .ref b), (1, .int (iI r)), (2, .int (iI k)), (3, .int (iI q))] [] post) : ∀ (n : Nat) (i : Int) (σ : MS) , (Fr [] [3, 4, 5, 6, 7, 8] [] σ0 σ) → (RG σ) → (0 ≤ i ∧ i ≤ a) → (CPI σ0 σ r k a i) → (a - i).toNat = n → Tm (d + 2) m_X12_meltOne 615 b σ [(11, .int (iI i)), (10, .int (iI mk)), (9, .int (iI to)), (8, .int (iI out)), (7, .int (iI lb)), (6, .int (iI base)), (5, .int (iI f)), (4, .int (iI (220 * r + k))), (0, .ref b), (1, .int (iI r)), (2, .int (iI k)), (3, .int (iI q))] [] post := by
  intro n
  induction n using Nat.strongRecOn with
  | _ n ih =>
    intro i σ hF hR h0 hcp hm
    refine tm_iload dX12_meltOne_615 0 rfl ?_
    refine tm_aload_n dX12_meltOne_617 rfl 8 rfl ?_
    refine tm_getS (k := 62) (t := σ0.1 62) dX12_meltOne_618 (by decide) fl12_509 rfl (rs_F hF (by decide) (rfl)) ?_
    have g1 := RG.s hR0 62
    refine tm_icmp_ge (tgt := 649) dX12_meltOne_621 (by decide) ⟨by omega, by omega⟩ ⟨by omega, by omega⟩ (fun h2 => ?_) (fun h2 => ?_)
    · exact tm_sub [1, 2, 3, 4, 5, 6, 7, 8, 9, 10, 11] rfl (hx_649 (0) σ (Fr.rfl.trans (Fr.sub hF (by decide) (by decide) (by decide))) hR (by rw [show i = a by omega] at hcp; exact hcp))
    · refine tm_aload_n dX12_meltOne_624 rfl 8 rfl ?_
      refine tm_sipush dX12_meltOne_625 (by decide) ?_
      refine tm_iload dX12_meltOne_628 0 rfl ?_
      refine tm_iadd dX12_meltOne_630 ?_
      refine tm_aload_n dX12_meltOne_631 rfl 8 rfl ?_
      refine tm_iload_n dX12_meltOne_632 rfl 9 rfl ?_
      refine tm_iload_n dX12_meltOne_633 rfl 10 rfl ?_
      refine tm_iload dX12_meltOne_634 0 rfl ?_
      refine tm_iadd dX12_meltOne_636 ?_
      refine tm_callV (M := m_X12_meltOne) (pc := 637) (ix := 203) (M' := m_X12_at) (As := [.int (iI r), .int (iI (k + i))]) (rest := [.int (iI (2640 + i)), .ref b]) dX12_meltOne_637 ok_X12_at im_X12_at se_X12_at ml12_203 np_X12_at rfl rfl (Nat.le_of_ble_eq_true rfl) (Nat.le_of_ble_eq_true rfl) rfl (c_X12_at (d) (σ := σ) (x := r) (k := k + i) ) (fun r3 σ4 hp => ?_)
      obtain ⟨v5, rfl, rfl, f6⟩ := hp
      subst f6
      show Tm _ _ 640 b σ [(11, .int (iI i)), (10, .int (iI mk)), (9, .int (iI to)), (8, .int (iI out)), (7, .int (iI lb)), (6, .int (iI base)), (5, .int (iI f)), (4, .int (iI (220 * r + k))), (0, .ref b), (1, .int (iI r)), (2, .int (iI k)), (3, .int (iI q))] [.int (iI (220 * r + (k + i))), .int (iI (2640 + i)), .ref b] _
      refine tm_callV (M := m_X12_meltOne) (pc := 640) (ix := 394) (M' := m_X12_copyItem) (As := [.int (iI (2640 + i)), .int (iI (220 * r + (k + i)))]) (rest := []) dX12_meltOne_640 ok_X12_copyItem im_X12_copyItem se_X12_copyItem ml12_394 np_X12_copyItem rfl rfl (Nat.le_of_ble_eq_true rfl) (Nat.le_of_ble_eq_true rfl) rfl (c_X12_copyItem (d) (σ := σ) (f := 2640 + i) (t := 220 * r + (k + i)) (by omega) (by omega)) (fun r7 σ8 hp => ?_)
      obtain ⟨rfl, f10⟩ := hp
      subst f10
      show Tm _ _ 643 b (fCopy (2640 + i) (220 * r + (k + i)) σ) [(11, .int (iI i)), (10, .int (iI mk)), (9, .int (iI to)), (8, .int (iI out)), (7, .int (iI lb)), (6, .int (iI base)), (5, .int (iI f)), (4, .int (iI (220 * r + k))), (0, .ref b), (1, .int (iI r)), (2, .int (iI k)), (3, .int (iI q))] [] _
      refine tm_iinc (q0 := 0) (L' := [(11, .int (iI (i + 1))), (10, .int (iI mk)), (9, .int (iI to)), (8, .int (iI out)), (7, .int (iI lb)), (6, .int (iI base)), (5, .int (iI f)), (4, .int (iI (220 * r + k))), (0, .ref b), (1, .int (iI r)), (2, .int (iI k)), (3, .int (iI q))]) dX12_meltOne_643 rfl (by decide) rfl ?_
      refine tm_goto (tgt := 615) dX12_meltOne_646 (by decide) ?_
      exact tm_sub [0, 1, 2, 3, 4, 5, 6, 7, 8, 9, 10, 11] rfl (ih _ (by omega) (i + 1) (fCopy (2640 + i) (220 * r + (k + i)) σ) ((Fr.rfl.trans (Fr.sub hF (by decide) (by decide) (by decide))).trans (Fr.sub fCopy_fr (by decide) (by decide) (by decide))) (hR.copy) (by omega) (hcp.go hr (by omega)) rfl)
end
section
theorem ml12_512 : Cond.methodLink RX12 512 yX12_labels ∈ pWW := pw9 (List.mem_of_getElem? (i := 197) rfl) rfl
theorem dX12_meltOne_0 : decode cX12_meltOne 0 = .ok (.aload_n 0, 1) := by decide +kernel
theorem dX12_meltOne_1 : decode cX12_meltOne 1 = .ok (.iload_n 1, 1) := by decide +kernel
theorem dX12_meltOne_2 : decode cX12_meltOne 2 = .ok (.iload_n 2, 1) := by decide +kernel
theorem dX12_meltOne_3 : decode cX12_meltOne 3 = .ok (.invokevirtual 203, 3) := by decide +kernel
theorem dX12_meltOne_6 : decode cX12_meltOne 6 = .ok (.istore 4, 2) := by decide +kernel
theorem dX12_meltOne_8 : decode cX12_meltOne 8 = .ok (.aload_n 0, 1) := by decide +kernel
theorem dX12_meltOne_9 : decode cX12_meltOne 9 = .ok (.getfield 44, 3) := by decide +kernel
theorem dX12_meltOne_12 : decode cX12_meltOne 12 = .ok (.iload_n 1, 1) := by decide +kernel
theorem dX12_meltOne_13 : decode cX12_meltOne 13 = .ok (.iaload, 1) := by decide +kernel
theorem dX12_meltOne_14 : decode cX12_meltOne 14 = .ok (.istore 5, 2) := by decide +kernel
theorem dX12_meltOne_16 : decode cX12_meltOne 16 = .ok (.aload_n 0, 1) := by decide +kernel
theorem dX12_meltOne_17 : decode cX12_meltOne 17 = .ok (.iload_n 1, 1) := by decide +kernel
theorem dX12_meltOne_18 : decode cX12_meltOne 18 = .ok (.invokevirtual 410, 3) := by decide +kernel
theorem dX12_meltOne_21 : decode cX12_meltOne 21 = .ok (.istore 6, 2) := by decide +kernel
theorem dX12_meltOne_23 : decode cX12_meltOne 23 = .ok (.aload_n 0, 1) := by decide +kernel
theorem dX12_meltOne_24 : decode cX12_meltOne 24 = .ok (.iload_n 1, 1) := by decide +kernel
theorem dX12_meltOne_25 : decode cX12_meltOne 25 = .ok (.invokevirtual 512, 3) := by decide +kernel
theorem dX12_meltOne_28 : decode cX12_meltOne 28 = .ok (.istore 7, 2) := by decide +kernel
theorem dX12_meltOne_30 : decode cX12_meltOne 30 = .ok (.iload 7, 2) := by decide +kernel
theorem dX12_meltOne_32 : decode cX12_meltOne 32 = .ok (.aload_n 0, 1) := by decide +kernel
theorem dX12_meltOne_33 : decode cX12_meltOne 33 = .ok (.iload_n 3, 1) := by decide +kernel
theorem dX12_meltOne_34 : decode cX12_meltOne 34 = .ok (.invokevirtual 512, 3) := by decide +kernel
theorem dX12_meltOne_37 : decode cX12_meltOne 37 = .ok (.iadd, 1) := by decide +kernel
theorem dX12_meltOne_38 : decode cX12_meltOne 38 = .ok (.istore 8, 2) := by decide +kernel
theorem dX12_meltOne_40 : decode cX12_meltOne 40 = .ok (.aload_n 0, 1) := by decide +kernel
theorem dX12_meltOne_41 : decode cX12_meltOne 41 = .ok (.getfield 17, 3) := by decide +kernel
theorem dX12_meltOne_44 : decode cX12_meltOne 44 = .ok (.iload 4, 2) := by decide +kernel
theorem dX12_meltOne_46 : decode cX12_meltOne 46 = .ok (.iaload, 1) := by decide +kernel
theorem dX12_meltOne_47 : decode cX12_meltOne 47 = .ok (.istore 9, 2) := by decide +kernel
theorem dX12_meltOne_49 : decode cX12_meltOne 49 = .ok (.iload_n 2, 1) := by decide +kernel
theorem dX12_meltOne_50 : decode cX12_meltOne 50 = .ok (.istore 10, 2) := by decide +kernel
theorem dX12_meltOne_80 : decode cX12_meltOne 80 = .ok (.aload_n 0, 1) := by decide +kernel
theorem dX12_meltOne_81 : decode cX12_meltOne 81 = .ok (.iconst 0, 1) := by decide +kernel
theorem dX12_meltOne_82 : decode cX12_meltOne 82 = .ok (.putfield 509, 3) := by decide +kernel
theorem dX12_meltOne_85 : decode cX12_meltOne 85 = .ok (.aload_n 0, 1) := by decide +kernel
theorem dX12_meltOne_86 : decode cX12_meltOne 86 = .ok (.bipush 14, 2) := by decide +kernel
theorem dX12_meltOne_88 : decode cX12_meltOne 88 = .ok (.iload 5, 2) := by decide +kernel
theorem dX12_meltOne_90 : decode cX12_meltOne 90 = .ok (.iconst 0, 1) := by decide +kernel
theorem dX12_meltOne_91 : decode cX12_meltOne 91 = .ok (.iconst 0, 1) := by decide +kernel
theorem dX12_meltOne_92 : decode cX12_meltOne 92 = .ok (.iconst 0, 1) := by decide +kernel
theorem dX12_meltOne_93 : decode cX12_meltOne 93 = .ok (.invokevirtual 515, 3) := by decide +kernel
theorem dX12_meltOne_96 : decode cX12_meltOne 96 = .ok (.iconst 0, 1) := by decide +kernel
theorem dX12_meltOne_97 : decode cX12_meltOne 97 = .ok (.istore 11, 2) := by decide +kernel
theorem dX12_meltOne_251 : decode cX12_meltOne 251 = .ok (.iconst 0, 1) := by decide +kernel
theorem dX12_meltOne_252 : decode cX12_meltOne 252 = .ok (.istore 11, 2) := by decide +kernel
theorem dX12_meltOne_301 : decode cX12_meltOne 301 = .ok (.iconst 0, 1) := by decide +kernel
theorem dX12_meltOne_302 : decode cX12_meltOne 302 = .ok (.istore 11, 2) := by decide +kernel
theorem dX12_meltOne_342 : decode cX12_meltOne 342 = .ok (.aload_n 0, 1) := by decide +kernel
theorem dX12_meltOne_343 : decode cX12_meltOne 343 = .ok (.bipush 13, 2) := by decide +kernel
theorem dX12_meltOne_345 : decode cX12_meltOne 345 = .ok (.iload 8, 2) := by decide +kernel
theorem dX12_meltOne_347 : decode cX12_meltOne 347 = .ok (.iconst 0, 1) := by decide +kernel
theorem dX12_meltOne_348 : decode cX12_meltOne 348 = .ok (.iconst 0, 1) := by decide +kernel
theorem dX12_meltOne_349 : decode cX12_meltOne 349 = .ok (.iconst 0, 1) := by decide +kernel
theorem dX12_meltOne_350 : decode cX12_meltOne 350 = .ok (.invokevirtual 515, 3) := by decide +kernel
theorem dX12_meltOne_353 : decode cX12_meltOne 353 = .ok (.aload_n 0, 1) := by decide +kernel
theorem dX12_meltOne_354 : decode cX12_meltOne 354 = .ok (.bipush 15, 2) := by decide +kernel
theorem dX12_meltOne_356 : decode cX12_meltOne 356 = .ok (.iload 5, 2) := by decide +kernel
theorem dX12_meltOne_358 : decode cX12_meltOne 358 = .ok (.iconst 0, 1) := by decide +kernel
theorem dX12_meltOne_359 : decode cX12_meltOne 359 = .ok (.iconst 0, 1) := by decide +kernel
theorem dX12_meltOne_360 : decode cX12_meltOne 360 = .ok (.iconst 0, 1) := by decide +kernel
theorem dX12_meltOne_361 : decode cX12_meltOne 361 = .ok (.invokevirtual 515, 3) := by decide +kernel
theorem dX12_meltOne_364 : decode cX12_meltOne 364 = .ok (.iconst 0, 1) := by decide +kernel
theorem dX12_meltOne_365 : decode cX12_meltOne 365 = .ok (.istore 11, 2) := by decide +kernel
theorem dX12_meltOne_550 : decode cX12_meltOne 550 = .ok (.aload_n 0, 1) := by decide +kernel
theorem dX12_meltOne_551 : decode cX12_meltOne 551 = .ok (.getfield 44, 3) := by decide +kernel
theorem dX12_meltOne_554 : decode cX12_meltOne 554 = .ok (.iload_n 1, 1) := by decide +kernel
theorem dX12_meltOne_555 : decode cX12_meltOne 555 = .ok (.dup2, 1) := by decide +kernel
theorem dX12_meltOne_556 : decode cX12_meltOne 556 = .ok (.iaload, 1) := by decide +kernel
theorem dX12_meltOne_557 : decode cX12_meltOne 557 = .ok (.aload_n 0, 1) := by decide +kernel
theorem dX12_meltOne_558 : decode cX12_meltOne 558 = .ok (.getfield 44, 3) := by decide +kernel
theorem dX12_meltOne_561 : decode cX12_meltOne 561 = .ok (.iload_n 3, 1) := by decide +kernel
theorem dX12_meltOne_562 : decode cX12_meltOne 562 = .ok (.iaload, 1) := by decide +kernel
theorem dX12_meltOne_563 : decode cX12_meltOne 563 = .ok (.iadd, 1) := by decide +kernel
theorem dX12_meltOne_564 : decode cX12_meltOne 564 = .ok (.iastore, 1) := by decide +kernel
theorem dX12_meltOne_565 : decode cX12_meltOne 565 = .ok (.aload_n 0, 1) := by decide +kernel
theorem dX12_meltOne_566 : decode cX12_meltOne 566 = .ok (.getfield 32, 3) := by decide +kernel
theorem dX12_meltOne_569 : decode cX12_meltOne 569 = .ok (.iload_n 1, 1) := by decide +kernel
theorem dX12_meltOne_570 : decode cX12_meltOne 570 = .ok (.iaload, 1) := by decide +kernel
theorem dX12_meltOne_571 : decode cX12_meltOne 571 = .ok (.iconst 1, 1) := by decide +kernel
theorem dX12_meltOne_572 : decode cX12_meltOne 572 = .ok (.isub, 1) := by decide +kernel
theorem dX12_meltOne_573 : decode cX12_meltOne 573 = .ok (.istore 11, 2) := by decide +kernel
theorem dX12_meltOne_612 : decode cX12_meltOne 612 = .ok (.iconst 0, 1) := by decide +kernel
theorem dX12_meltOne_613 : decode cX12_meltOne 613 = .ok (.istore 11, 2) := by decide +kernel
theorem dX12_meltOne_649 : decode cX12_meltOne 649 = .ok (.aload_n 0, 1) := by decide +kernel
theorem dX12_meltOne_650 : decode cX12_meltOne 650 = .ok (.getfield 32, 3) := by decide +kernel
theorem dX12_meltOne_653 : decode cX12_meltOne 653 = .ok (.iload_n 1, 1) := by decide +kernel
theorem dX12_meltOne_654 : decode cX12_meltOne 654 = .ok (.dup2, 1) := by decide +kernel
theorem dX12_meltOne_655 : decode cX12_meltOne 655 = .ok (.iaload, 1) := by decide +kernel
theorem dX12_meltOne_656 : decode cX12_meltOne 656 = .ok (.aload_n 0, 1) := by decide +kernel
theorem dX12_meltOne_657 : decode cX12_meltOne 657 = .ok (.getfield 509, 3) := by decide +kernel
theorem dX12_meltOne_660 : decode cX12_meltOne 660 = .ok (.iconst 1, 1) := by decide +kernel
theorem dX12_meltOne_661 : decode cX12_meltOne 661 = .ok (.isub, 1) := by decide +kernel
theorem dX12_meltOne_662 : decode cX12_meltOne 662 = .ok (.iadd, 1) := by decide +kernel
theorem dX12_meltOne_663 : decode cX12_meltOne 663 = .ok (.iastore, 1) := by decide +kernel
theorem dX12_meltOne_664 : decode cX12_meltOne 664 = .ok (.iload_n 2, 1) := by decide +kernel
theorem dX12_meltOne_665 : decode cX12_meltOne 665 = .ok (.aload_n 0, 1) := by decide +kernel
theorem dX12_meltOne_666 : decode cX12_meltOne 666 = .ok (.getfield 509, 3) := by decide +kernel
theorem dX12_meltOne_669 : decode cX12_meltOne 669 = .ok (.iadd, 1) := by decide +kernel
theorem dX12_meltOne_670 : decode cX12_meltOne 670 = .ok (.ireturn, 1) := by decide +kernel
set_option maxHeartbeats 2000000 in
set_option maxRecDepth 20000 in
theorem c_X12_meltOne (d : Nat) {b : Nat} {σ : MS} {r : Int} {k : Int} {q : Int} {B : Int} {m : Int} (hR : RG σ) (hrq : (0 ≤ r ∧ r < 6) ∧ (0 ≤ q ∧ q < 6) ∧ q ≠ r) (hit : ITM σ) (hpar : PAR σ) (hnam : NAM σ) (hk : 0 ≤ k ∧ k < σ.2.1 9 r ∧ σ.2.1 9 r ≤ 200 ∧ 1 ≤ σ.2.1 9 q ∧ σ.2.1 9 q ≤ 200) (hok : OKS σ (σ.2.1 14 r) r) (hokq : OKS σ (σ.2.1 14 q) q) (hof : OKF σ r) (hofq : OKF σ q) (hf0q : FR0 σ q) (hcd : CODE σ r) (hcdq : CODE σ q) (hlex : LEX σ r) (hlexq : LEX σ q) (hlm : LBM σ r) (hlmq : LBM σ q) (hfi : FRI σ r) (hfiq : FRI σ q) (hnc : ∀ j, 0 ≤ j → j < σ.2.1 9 q → ¬ σ.2.1 3 (220 * q + j) = 10) (h10 : σ.2.1 3 (220 * r + k) = 10) (hRN : RGN σ r B (σ.2.1 14 r)) (hRI : RGI σ r B (σ.2.1 9 r)) (hrn : RGN σ q m (σ.2.1 14 q)) (hri : RGI σ q m (σ.2.1 9 q)) (hBm : 0 ≤ B ∧ 0 ≤ m ∧ B + m ≤ 100) (hF12 : σ.2.1 14 r + σ.2.1 14 q ≤ 12) (hbl : BO 59 σ) (hlv : ∀ g, 0 ≤ g → g < 192 → σ.2.1 59 g = 1 → g < m) (hgr : σ.2.1 9 r + 2 + σ.2.1 11 q + σ.2.1 12 q + σ.2.1 9 q + cnt (lcf σ q) 192 + cnt (rcf σ q) (σ.2.1 9 q).toNat ≤ 200) : Tm (d + 6) m_X12_meltOne 0 b σ [(0, .ref b), (1, .int (iI r)), (2, .int (iI k)), (3, .int (iI q))] [] (fun ro σ2 => ∃ v : Int, ro = some (.int (iI v)) ∧ (Fr [62] [3, 4, 5, 6, 7, 8, 9, 14, 15, 16, 17, 18] [] σ σ2) ∧ (RG σ2) ∧ (CODE σ2 r) ∧ (LEX σ2 r) ∧ (LBM σ2 r) ∧ (OKS σ2 (σ2.2.1 14 r) r) ∧ (XR r σ σ2) ∧ (OKF σ2 r) ∧ (FRI σ2 r) ∧ (XF r (σ.2.1 14 r) σ σ2) ∧ ((σ2.2.1 14 r = σ.2.1 14 r + σ.2.1 14 q ∧ 1 ≤ σ2.2.1 9 r) ∧ σ2.2.1 9 r ≤ 200) ∧ (k < v ∧ σ2.2.1 9 r - v = σ.2.1 9 r - k - 1)) := by
  have q1 := hit r (by omega) (by omega)
  obtain ⟨frr, lfr, hcr⟩ := hcd
  obtain ⟨frq, lfq, hcq⟩ := hcdq
  obtain ⟨hjr, j0, hj0, hj1, hj2, hj3, hj4⟩ := hcr.2.2.2.2 k (by omega) (by omega) h10
  simp only [iK, iO] at hj2 hj3 hj4
  have hfr := hcr.2.1 k (by omega) (by omega)
  have q14 := hof.1
  have q14q := hofq.1
  have hto := hok.dest (k := k) (by omega) (by omega) (Or.inr h10)
  have mpa := hpar q (by omega) (by omega)
  have mna := hnam q (by omega) (by omega)
  refine tm_aload_n dX12_meltOne_0 rfl 0 rfl ?_
  refine tm_iload_n dX12_meltOne_1 rfl 1 rfl ?_
  refine tm_iload_n dX12_meltOne_2 rfl 2 rfl ?_
  refine tm_callV (M := m_X12_meltOne) (pc := 3) (ix := 203) (M' := m_X12_at) (As := [.int (iI r), .int (iI k)]) (rest := []) dX12_meltOne_3 ok_X12_at im_X12_at se_X12_at ml12_203 np_X12_at rfl rfl (Nat.le_of_ble_eq_true rfl) (Nat.le_of_ble_eq_true rfl) rfl (c_X12_at (d + 4) (σ := σ) (x := r) (k := k) ) (fun r1 σ2 hp => ?_)
  obtain ⟨v3, rfl, rfl, f4⟩ := hp
  subst f4
  show Tm _ _ 6 b σ [(0, .ref b), (1, .int (iI r)), (2, .int (iI k)), (3, .int (iI q))] [.int (iI (220 * r + k))] _
  refine tm_istore (L' := [(4, .int (iI (220 * r + k))), (0, .ref b), (1, .int (iI r)), (2, .int (iI k)), (3, .int (iI q))]) dX12_meltOne_6 (by decide) rfl ?_
  refine tm_aload_n dX12_meltOne_8 rfl 1 rfl ?_
  refine tm_get (k := 14) (v := .ref (b + 1 + 11)) lay_12 dX12_meltOne_9 (by decide) fl12_44 rfl ?_
  refine tm_iload_n dX12_meltOne_12 rfl 2 rfl ?_
  refine tm_iald (z := r) (v := σ.2.1 14 r) dX12_meltOne_13 (show mT[11]? = some (14, 0, 6) from rfl) (by omega) (by omega) (by decide) (rfl) ?_
  have g5 := RG.a hR 14 (r)
  refine tm_istore (L' := [(5, .int (iI (σ.2.1 14 r))), (4, .int (iI (220 * r + k))), (0, .ref b), (1, .int (iI r)), (2, .int (iI k)), (3, .int (iI q))]) dX12_meltOne_14 (by decide) rfl ?_
  refine tm_aload_n dX12_meltOne_16 rfl 2 rfl ?_
  refine tm_iload_n dX12_meltOne_17 rfl 3 rfl ?_
  refine tm_callV (M := m_X12_meltOne) (pc := 18) (ix := 410) (M' := m_X12_registers) (As := [.int (iI r)]) (rest := []) dX12_meltOne_18 ok_X12_registers im_X12_registers se_X12_registers ml12_410 np_X12_registers rfl rfl (Nat.le_of_ble_eq_true rfl) (Nat.le_of_ble_eq_true rfl) rfl (c2_X12_registers (d + 1) (σ := σ) (r := r) (F := (σ.2.1 14 r)) (B := B) (by omega) hR hof hnam hit hpar hok hRN hRI (by omega)) (fun r6 σ7 hp => ?_)
  obtain ⟨v8, rfl, rfl, f9⟩ := hp
  show Tm _ _ 21 b σ [(5, .int (iI (σ.2.1 14 r))), (4, .int (iI (220 * r + k))), (0, .ref b), (1, .int (iI r)), (2, .int (iI k)), (3, .int (iI q))] [.int (iI v8)] _
  refine tm_istore (L' := [(6, .int (iI v8)), (5, .int (iI (σ.2.1 14 r))), (4, .int (iI (220 * r + k))), (0, .ref b), (1, .int (iI r)), (2, .int (iI k)), (3, .int (iI q))]) dX12_meltOne_21 (by decide) rfl ?_
  refine tm_aload_n dX12_meltOne_23 rfl 3 rfl ?_
  refine tm_iload_n dX12_meltOne_24 rfl 4 rfl ?_
  refine tm_callV (M := m_X12_meltOne) (pc := 25) (ix := 512) (M' := m_X12_labels) (As := [.int (iI r)]) (rest := []) dX12_meltOne_25 ok_X12_labels im_X12_labels se_X12_labels ml12_512 np_X12_labels rfl rfl (Nat.le_of_ble_eq_true rfl) (Nat.le_of_ble_eq_true rfl) rfl (c2_X12_labels (d + 3) (σ := σ) (r := r) (by omega) hR hit hok.jmp hlm (by omega)) (fun r10 σ11 hp => ?_)
  obtain ⟨v12, rfl, rfl, f13, f14⟩ := hp
  show Tm _ _ 28 b σ [(6, .int (iI v8)), (5, .int (iI (σ.2.1 14 r))), (4, .int (iI (220 * r + k))), (0, .ref b), (1, .int (iI r)), (2, .int (iI k)), (3, .int (iI q))] [.int (iI v12)] _
  have hv1 := f14
  refine tm_istore (L' := [(7, .int (iI v12)), (6, .int (iI v8)), (5, .int (iI (σ.2.1 14 r))), (4, .int (iI (220 * r + k))), (0, .ref b), (1, .int (iI r)), (2, .int (iI k)), (3, .int (iI q))]) dX12_meltOne_28 (by decide) rfl ?_
  refine tm_iload dX12_meltOne_30 0 rfl ?_
  refine tm_aload_n dX12_meltOne_32 rfl 4 rfl ?_
  refine tm_iload_n dX12_meltOne_33 rfl 7 rfl ?_
  refine tm_callV (M := m_X12_meltOne) (pc := 34) (ix := 512) (M' := m_X12_labels) (As := [.int (iI q)]) (rest := [.int (iI v12)]) dX12_meltOne_34 ok_X12_labels im_X12_labels se_X12_labels ml12_512 np_X12_labels rfl rfl (Nat.le_of_ble_eq_true rfl) (Nat.le_of_ble_eq_true rfl) rfl (c2_X12_labels (d + 3) (σ := σ) (r := q) (by omega) hR hit hokq.jmp hlmq (by omega)) (fun r15 σ16 hp => ?_)
  obtain ⟨v17, rfl, rfl, f18, f19⟩ := hp
  show Tm _ _ 37 b σ [(7, .int (iI v12)), (6, .int (iI v8)), (5, .int (iI (σ.2.1 14 r))), (4, .int (iI (220 * r + k))), (0, .ref b), (1, .int (iI r)), (2, .int (iI k)), (3, .int (iI q))] [.int (iI v17), .int (iI v12)] _
  have hv2 := f19
  refine tm_iadd dX12_meltOne_37 ?_
  refine tm_istore (L' := [(8, .int (iI (v12 + v17))), (7, .int (iI v12)), (6, .int (iI v8)), (5, .int (iI (σ.2.1 14 r))), (4, .int (iI (220 * r + k))), (0, .ref b), (1, .int (iI r)), (2, .int (iI k)), (3, .int (iI q))]) dX12_meltOne_38 (by decide) rfl ?_
  refine tm_aload_n dX12_meltOne_40 rfl 5 rfl ?_
  refine tm_get (k := 4) (v := .ref (b + 1 + 2)) lay_12 dX12_meltOne_41 (by decide) fl12_17 rfl ?_
  refine tm_iload dX12_meltOne_44 4 rfl ?_
  refine tm_iald (z := 220 * r + k) (v := σ.2.1 4 (220 * r + k)) dX12_meltOne_46 (show mT[2]? = some (4, 0, 2860) from rfl) (by omega) (by omega) (by decide) (rfl) ?_
  have g20 := RG.a hR 4 (220 * r + k)
  refine tm_istore (L' := [(9, .int (iI (σ.2.1 4 (220 * r + k)))), (8, .int (iI (v12 + v17))), (7, .int (iI v12)), (6, .int (iI v8)), (5, .int (iI (σ.2.1 14 r))), (4, .int (iI (220 * r + k))), (0, .ref b), (1, .int (iI r)), (2, .int (iI k)), (3, .int (iI q))]) dX12_meltOne_47 (by decide) rfl ?_
  refine tm_iload_n dX12_meltOne_49 rfl 8 rfl ?_
  refine tm_istore (L' := [(10, .int (iI k)), (9, .int (iI (σ.2.1 4 (220 * r + k)))), (8, .int (iI (v12 + v17))), (7, .int (iI v12)), (6, .int (iI v8)), (5, .int (iI (σ.2.1 14 r))), (4, .int (iI (220 * r + k))), (0, .ref b), (1, .int (iI r)), (2, .int (iI k)), (3, .int (iI q))]) dX12_meltOne_50 (by decide) rfl ?_
  refine tm_sub [0, 1, 2, 3, 4, 5, 6, 7, 8, 9, 10] rfl (l_mo1 (d + 4) (σ := σ) (r := r) (k := k) (q := q) (f := σ.2.1 14 r) (base := v8) (lb := v12) (out := v12 + v17) (to := σ.2.1 4 (220 * r + k)) (j0 := j0) (by omega) hR (by omega) ⟨hj0, hj1, hj2⟩ h10 hj4 (fun mk25 f24 => ?_) _ (k) (by omega) rfl)
  show Tm _ _ 80 b σ [(10, .int (iI mk25)), (9, .int (iI (σ.2.1 4 (220 * r + k)))), (8, .int (iI (v12 + v17))), (7, .int (iI v12)), (6, .int (iI v8)), (5, .int (iI (σ.2.1 14 r))), (4, .int (iI (220 * r + k))), (0, .ref b), (1, .int (iI r)), (2, .int (iI k)), (3, .int (iI q))] [] _
  have hmk := f24
  have hmo := mo_mk (ρ := σ) (r := r) (k := k) (q := q) (F := σ.2.1 14 r) (base := v8) (lb := v12) (out := v12 + v17) (to := σ.2.1 4 (220 * r + k)) (g0 := frr k) (m := m) (v2 := v17) (by omega) hcq hlexq hokq rfl hv2 hnc hri hrn (hok k (by omega) (by omega)) hf0q hofq hpar hnam
  refine tm_aload_n dX12_meltOne_80 rfl 7 rfl ?_
  refine tm_iconst dX12_meltOne_81 ?_
  refine tm_putS (k := 62) (v := 0) lay_12 dX12_meltOne_82 (by decide) fl12_509 rfl (tyX12_ok 62 (by decide)) rfl rfl rfl ?_
  have z62 : (sS 62 0 σ).1 62 = 0 := rs_eq
  refine tm_aload_n dX12_meltOne_85 rfl 7 rfl ?_
  refine tm_bipush dX12_meltOne_86 (by decide) ?_
  refine tm_iload dX12_meltOne_88 5 rfl ?_
  refine tm_iconst dX12_meltOne_90 ?_
  refine tm_iconst dX12_meltOne_91 ?_
  refine tm_iconst dX12_meltOne_92 ?_
  refine tm_callV (M := m_X12_meltOne) (pc := 93) (ix := 515) (M' := m_X12_add) (As := [.int (iI 14), .int (iI (σ.2.1 14 r)), .int (iI 0), .int (iI 0), .int (iI 0)]) (rest := []) dX12_meltOne_93 ok_X12_add im_X12_add se_X12_add ml12_515 np_X12_add rfl rfl (Nat.le_of_ble_eq_true rfl) (Nat.le_of_ble_eq_true rfl) rfl (c_X12_add (d + 3) (σ := (sS 62 0 σ)) (k := 14) (e := σ.2.1 14 r) (o := 0) (ak := 0) (a := 0) (hR.S (by omega)) (by omega)) (fun r26 σ27 hp => ?_)
  obtain ⟨rfl, f29⟩ := hp
  subst f29
  show Tm _ _ 96 b (fAdd (14) (σ.2.1 14 r) (0) (0) (0) (sS 62 0 σ)) [(10, .int (iI mk25)), (9, .int (iI (σ.2.1 4 (220 * r + k)))), (8, .int (iI (v12 + v17))), (7, .int (iI v12)), (6, .int (iI v8)), (5, .int (iI (σ.2.1 14 r))), (4, .int (iI (220 * r + k))), (0, .ref b), (1, .int (iI r)), (2, .int (iI k)), (3, .int (iI q))] [] _
  have hms0 := msg_start hmo.2.1 (by omega) (fun y => IEQ.fr (show Fr [62] [] [] σ (sS 62 (0) σ) from (Fr.rfl.S (by decide))) (by decide)) rfl rs_eq
  have n62 : (fAdd (14) (σ.2.1 14 r) (0) (0) (0) (sS 62 0 σ)).1 62 = 1 := fAdd_n.trans (by rw [show (sS 62 (0) σ).1 62 = 0 from rs_eq]; rfl)
  refine tm_iconst dX12_meltOne_96 ?_
  refine tm_istore (L' := [(11, .int (iI 0)), (10, .int (iI mk25)), (9, .int (iI (σ.2.1 4 (220 * r + k)))), (8, .int (iI (v12 + v17))), (7, .int (iI v12)), (6, .int (iI v8)), (5, .int (iI (σ.2.1 14 r))), (4, .int (iI (220 * r + k))), (0, .ref b), (1, .int (iI r)), (2, .int (iI k)), (3, .int (iI q))]) dX12_meltOne_97 (by decide) rfl ?_
  refine tm_sub [0, 1, 2, 3, 4, 5, 6, 7, 8, 9, 10, 11] rfl (l_mo2 (d + 3) (σ0 := (fAdd (14) (σ.2.1 14 r) (0) (0) (0) (sS 62 0 σ))) (r := r) (k := k) (q := q) (f := σ.2.1 14 r) (base := v8) (lb := v12) (out := v12 + v17) (to := σ.2.1 4 (220 * r + k)) (mk := mk25) (ρ := σ) (FI := (FIx σ r q (σ.2.1 14 r) (frr k))) (lf := (lfx (σ.2.1 14 r) v12 (v12 + v17) lfq)) (frq := frq) (lfq := lfq) (g0 := (frr k)) (m := m) hmo ((hR.S (by omega)).add (by omega) (by omega) (by omega) (by omega) (by omega) (by omega)) (show Fr [62] [3, 4, 5, 6, 7, 8] [] σ (fAdd (14) (σ.2.1 14 r) (0) (0) (0) (sS 62 0 σ)) from ((Fr.rfl.S (by decide)).trans (Fr.sub fAdd_fr (by decide) (by decide) (by decide)))) (fun n136 σ37 F32 R33 f34 f35 => ?_) _ (0) (fAdd (14) (σ.2.1 14 r) (0) (0) (0) (sS 62 0 σ)) Fr.rfl ((hR.S (by omega)).add (by omega) (by omega) (by omega) (by omega) (by omega) (by omega)) (by rw [((show Fr [62] [3, 4, 5, 6, 7, 8] [] σ (fAdd (14) (σ.2.1 14 r) (0) (0) (0) (sS 62 0 σ)) from ((Fr.rfl.S (by decide)).trans (Fr.sub fAdd_fr (by decide) (by decide) (by decide))))).2.1 12 (by decide)]; omega) (by rw [((show Fr [62] [3, 4, 5, 6, 7, 8] [] σ (fAdd (14) (σ.2.1 14 r) (0) (0) (0) (sS 62 0 σ)) from ((Fr.rfl.S (by decide)).trans (Fr.sub fAdd_fr (by decide) (by decide) (by decide))))).2.1 11 (by decide)]; omega) hms0 rfl)
  show Tm _ _ 251 b σ37 [(10, .int (iI mk25)), (9, .int (iI (σ.2.1 4 (220 * r + k)))), (8, .int (iI (v12 + v17))), (7, .int (iI v12)), (6, .int (iI v8)), (5, .int (iI (σ.2.1 14 r))), (4, .int (iI (220 * r + k))), (0, .ref b), (1, .int (iI r)), (2, .int (iI k)), (3, .int (iI q))] [] _
  have hc2 := f34
  have hms2 := f35
  have hl0 := cnt_up (lcf_0 σ q) (show 0 ≤ 192 by decide)
  have hr0 := cnt_up (rcf_0 σ q) (show 0 ≤ (σ.2.1 9 q).toNat by omega)
  have hz1 : cnt (lcf σ q) 0 = 0 := rfl
  have hz2 : cnt (rcf σ q) 0 = 0 := rfl
  refine tm_iconst dX12_meltOne_251 ?_
  refine tm_istore (L' := [(11, .int (iI 0)), (10, .int (iI mk25)), (9, .int (iI (σ.2.1 4 (220 * r + k)))), (8, .int (iI (v12 + v17))), (7, .int (iI v12)), (6, .int (iI v8)), (5, .int (iI (σ.2.1 14 r))), (4, .int (iI (220 * r + k))), (0, .ref b), (1, .int (iI r)), (2, .int (iI k)), (3, .int (iI q))]) dX12_meltOne_252 (by decide) rfl ?_
  refine tm_sub [0, 1, 2, 3, 4, 5, 6, 7, 8, 9, 10, 11] rfl (l_mo3 (d + 3) (σ0 := σ37) (r := r) (k := k) (q := q) (f := σ.2.1 14 r) (base := v8) (lb := v12) (out := v12 + v17) (to := σ.2.1 4 (220 * r + k)) (mk := mk25) (ρ := σ) (FI := (FIx σ r q (σ.2.1 14 r) (frr k))) (lf := (lfx (σ.2.1 14 r) v12 (v12 + v17) lfq)) (frq := frq) (lfq := lfq) (g0 := (frr k)) (m := m) (A1 := (σ37.1 62)) hmo R33 (show Fr [62] [3, 4, 5, 6, 7, 8] [] σ σ37 from (((Fr.rfl.S (by decide)).trans (Fr.sub fAdd_fr (by decide) (by decide) (by decide))).trans (Fr.sub F32 (by decide) (by decide) (by decide)))) hbl hlv (by omega) (fun g44 σ45 F40 R41 f42 f43 => ?_) _ (0) σ37 Fr.rfl R33 (by omega) (by rw [show (0 : Int).toNat = 0 from rfl, hz1]; omega) hms2 rfl)
  show Tm _ _ 301 b σ45 [(10, .int (iI mk25)), (9, .int (iI (σ.2.1 4 (220 * r + k)))), (8, .int (iI (v12 + v17))), (7, .int (iI v12)), (6, .int (iI v8)), (5, .int (iI (σ.2.1 14 r))), (4, .int (iI (220 * r + k))), (0, .ref b), (1, .int (iI r)), (2, .int (iI k)), (3, .int (iI q))] [] _
  have hc3 := f42
  have hms3 := f43
  have hgz : Gq σ q (σ.2.1 14 r) frq 0 = σ.2.1 14 r := by unfold Gq; rw [if_pos (by omega), hcq.1]; omega
  refine tm_iconst dX12_meltOne_301 ?_
  refine tm_istore (L' := [(11, .int (iI 0)), (10, .int (iI mk25)), (9, .int (iI (σ.2.1 4 (220 * r + k)))), (8, .int (iI (v12 + v17))), (7, .int (iI v12)), (6, .int (iI v8)), (5, .int (iI (σ.2.1 14 r))), (4, .int (iI (220 * r + k))), (0, .ref b), (1, .int (iI r)), (2, .int (iI k)), (3, .int (iI q))]) dX12_meltOne_302 (by decide) rfl ?_
  refine tm_sub [0, 1, 2, 3, 4, 5, 6, 7, 8, 9, 10, 11] rfl (l_mo4 (d + 2) (σ0 := σ45) (r := r) (k := k) (q := q) (f := σ.2.1 14 r) (base := v8) (lb := v12) (out := v12 + v17) (to := σ.2.1 4 (220 * r + k)) (mk := mk25) (ρ := σ) (FI := (FIx σ r q (σ.2.1 14 r) (frr k))) (lf := (lfx (σ.2.1 14 r) v12 (v12 + v17) lfq)) (frq := frq) (lfq := lfq) (g0 := (frr k)) (m := m) (A2 := (σ45.1 62)) hmo R41 (show Fr [62] [3, 4, 5, 6, 7, 8] [] σ σ45 from ((((Fr.rfl.S (by decide)).trans (Fr.sub fAdd_fr (by decide) (by decide) (by decide))).trans (Fr.sub F32 (by decide) (by decide) (by decide))).trans (Fr.sub F40 (by decide) (by decide) (by decide)))) (by omega) (fun i52 σ53 F48 R49 f50 f51 => ?_) _ (0) σ45 Fr.rfl R41 (by omega) (by rw [show (0 : Int).toNat = 0 from rfl, hz2]; omega) (by rw [hgz]; exact hms3) rfl)
  show Tm _ _ 342 b σ53 [(10, .int (iI mk25)), (9, .int (iI (σ.2.1 4 (220 * r + k)))), (8, .int (iI (v12 + v17))), (7, .int (iI v12)), (6, .int (iI v8)), (5, .int (iI (σ.2.1 14 r))), (4, .int (iI (220 * r + k))), (0, .ref b), (1, .int (iI r)), (2, .int (iI k)), (3, .int (iI q))] [] _
  have hc4 := f50
  have hms4 := f51
  have hend := msg_end (a := 0) hmo.2.1 hms4 (by omega) (by omega) (by omega)
  have f14 := (show Fr [62] [3, 4, 5, 6, 7, 8] [] σ σ53 from (((((Fr.rfl.S (by decide)).trans (Fr.sub fAdd_fr (by decide) (by decide) (by decide))).trans (Fr.sub F32 (by decide) (by decide) (by decide))).trans (Fr.sub F40 (by decide) (by decide) (by decide))).trans (Fr.sub F48 (by decide) (by decide) (by decide))))
  refine tm_aload_n dX12_meltOne_342 rfl 7 rfl ?_
  refine tm_bipush dX12_meltOne_343 (by decide) ?_
  refine tm_iload dX12_meltOne_345 2 rfl ?_
  refine tm_iconst dX12_meltOne_347 ?_
  refine tm_iconst dX12_meltOne_348 ?_
  refine tm_iconst dX12_meltOne_349 ?_
  refine tm_callV (M := m_X12_meltOne) (pc := 350) (ix := 515) (M' := m_X12_add) (As := [.int (iI 13), .int (iI (v12 + v17)), .int (iI 0), .int (iI 0), .int (iI 0)]) (rest := []) dX12_meltOne_350 ok_X12_add im_X12_add se_X12_add ml12_515 np_X12_add rfl rfl (Nat.le_of_ble_eq_true rfl) (Nat.le_of_ble_eq_true rfl) rfl (c_X12_add (d + 3) (σ := σ53) (k := 13) (e := v12 + v17) (o := 0) (ak := 0) (a := 0) R49 (by omega)) (fun r54 σ55 hp => ?_)
  obtain ⟨rfl, f57⟩ := hp
  subst f57
  show Tm _ _ 353 b (fAdd (13) (v12 + v17) (0) (0) (0) σ53) [(10, .int (iI mk25)), (9, .int (iI (σ.2.1 4 (220 * r + k)))), (8, .int (iI (v12 + v17))), (7, .int (iI v12)), (6, .int (iI v8)), (5, .int (iI (σ.2.1 14 r))), (4, .int (iI (220 * r + k))), (0, .ref b), (1, .int (iI r)), (2, .int (iI k)), (3, .int (iI q))] [] _
  have n63 : (fAdd (13) (v12 + v17) (0) (0) (0) σ53).1 62 = σ53.1 62 + 1 := fAdd_n
  refine tm_aload_n dX12_meltOne_353 rfl 7 rfl ?_
  refine tm_bipush dX12_meltOne_354 (by decide) ?_
  refine tm_iload dX12_meltOne_356 5 rfl ?_
  refine tm_iconst dX12_meltOne_358 ?_
  refine tm_iconst dX12_meltOne_359 ?_
  refine tm_iconst dX12_meltOne_360 ?_
  refine tm_callV (M := m_X12_meltOne) (pc := 361) (ix := 515) (M' := m_X12_add) (As := [.int (iI 15), .int (iI (σ.2.1 14 r)), .int (iI 0), .int (iI 0), .int (iI 0)]) (rest := []) dX12_meltOne_361 ok_X12_add im_X12_add se_X12_add ml12_515 np_X12_add rfl rfl (Nat.le_of_ble_eq_true rfl) (Nat.le_of_ble_eq_true rfl) rfl (c_X12_add (d + 3) (σ := (fAdd (13) (v12 + v17) (0) (0) (0) σ53)) (k := 15) (e := σ.2.1 14 r) (o := 0) (ak := 0) (a := 0) (R49.add (by omega) (by omega) (by omega) (by omega) (by omega) (by omega)) (by omega)) (fun r58 σ59 hp => ?_)
  obtain ⟨rfl, f61⟩ := hp
  subst f61
  show Tm _ _ 364 b (fAdd (15) (σ.2.1 14 r) (0) (0) (0) (fAdd (13) (v12 + v17) (0) (0) (0) σ53)) [(10, .int (iI mk25)), (9, .int (iI (σ.2.1 4 (220 * r + k)))), (8, .int (iI (v12 + v17))), (7, .int (iI v12)), (6, .int (iI v8)), (5, .int (iI (σ.2.1 14 r))), (4, .int (iI (220 * r + k))), (0, .ref b), (1, .int (iI r)), (2, .int (iI k)), (3, .int (iI q))] [] _
  have f15 : Fr [62] [3, 4, 5, 6, 7, 8] [] σ (fAdd (15) (σ.2.1 14 r) (0) (0) (0) (fAdd (13) (v12 + v17) (0) (0) (0) σ53)) := (f14.trans fAdd_fr).trans fAdd_fr
  have n64 : (fAdd (15) (σ.2.1 14 r) (0) (0) (0) (fAdd (13) (v12 + v17) (0) (0) (0) σ53)).1 62 = σ53.1 62 + 1 + 1 := by rw [fAdd_n, fAdd_n]
  have hmk5 : (fAdd (15) (σ.2.1 14 r) (0) (0) (0) (fAdd (13) (v12 + v17) (0) (0) (0) σ53)).2.1 5 (220 * r + mk25) = frr k := by rw [(hend.1.2.2.2.2.2.1 _ (by omega)).2.2.1, hmk]; exact hj3
  refine tm_iconst dX12_meltOne_364 ?_
  refine tm_istore (L' := [(11, .int (iI 0)), (10, .int (iI mk25)), (9, .int (iI (σ.2.1 4 (220 * r + k)))), (8, .int (iI (v12 + v17))), (7, .int (iI v12)), (6, .int (iI v8)), (5, .int (iI (σ.2.1 14 r))), (4, .int (iI (220 * r + k))), (0, .ref b), (1, .int (iI r)), (2, .int (iI k)), (3, .int (iI q))]) dX12_meltOne_365 (by decide) rfl ?_
  refine tm_sub [0, 1, 2, 3, 4, 5, 6, 7, 8, 9, 10, 11] rfl (l_mo5 (d + 4) (σ0 := (fAdd (15) (σ.2.1 14 r) (0) (0) (0) (fAdd (13) (v12 + v17) (0) (0) (0) σ53))) (r := r) (k := k) (q := q) (f := σ.2.1 14 r) (base := v8) (lb := v12) (out := v12 + v17) (to := σ.2.1 4 (220 * r + k)) (mk := mk25) (ρ := σ) (FI := (FIx σ r q (σ.2.1 14 r) (frr k))) (lf := (lfx (σ.2.1 14 r) v12 (v12 + v17) lfq)) (frq := frq) (lfq := lfq) (g0 := (frr k)) (m := m) hmo ((R49.add (by omega) (by omega) (by omega) (by omega) (by omega) (by omega)).add (by omega) (by omega) (by omega) (by omega) (by omega) (by omega)) f15 ⟨hmk5, by omega, by omega⟩ hfiq (fun j67 σ68 F64 R65 f66 => ?_) _ (0) (fAdd (15) (σ.2.1 14 r) (0) (0) (0) (fAdd (13) (v12 + v17) (0) (0) (0) σ53)) Fr.rfl ((R49.add (by omega) (by omega) (by omega) (by omega) (by omega) (by omega)).add (by omega) (by omega) (by omega) (by omega) (by omega) (by omega)) (by omega) (FRM.start (by rw [f15.2.1 15 (by decide)]) (by rw [f15.2.1 16 (by decide)]) (by rw [f15.2.1 17 (by decide)]) (by rw [f15.2.1 18 (by decide)])) rfl)
  show Tm _ _ 550 b σ68 [(10, .int (iI mk25)), (9, .int (iI (σ.2.1 4 (220 * r + k)))), (8, .int (iI (v12 + v17))), (7, .int (iI v12)), (6, .int (iI v8)), (5, .int (iI (σ.2.1 14 r))), (4, .int (iI (220 * r + k))), (0, .ref b), (1, .int (iI r)), (2, .int (iI k)), (3, .int (iI q))] [] _
  have hfm := f66
  have fm5 := F64
  have s5_14 : σ68.2.1 14 = σ.2.1 14 := by rw [fm5.2.1 14 (by decide), f15.2.1 14 (by decide)]
  have s5_62 : σ68.1 62 = σ53.1 62 + 1 + 1 := by rw [fm5.1 62 (by decide)]; exact n64
  have s5_9 : σ68.2.1 9 r = σ.2.1 9 r := by rw [fm5.2.1 9 (by decide), f15.2.1 9 (by decide)]
  refine tm_aload_n dX12_meltOne_550 rfl 7 rfl ?_
  refine tm_get (k := 14) (v := .ref (b + 1 + 11)) lay_12 dX12_meltOne_551 (by decide) fl12_44 rfl ?_
  refine tm_iload_n dX12_meltOne_554 rfl 8 rfl ?_
  refine tm_dup2 dX12_meltOne_555 rfl rfl ?_
  refine tm_iald (z := r) (v := σ.2.1 14 r) dX12_meltOne_556 (show mT[11]? = some (14, 0, 6) from rfl) (by omega) (by omega) (by decide) (ra_F F64 (by decide) (ra_F fAdd_fr (by decide) (ra_F fAdd_fr (by decide) (ra_F F48 (by decide) (ra_F F40 (by decide) (ra_F F32 (by decide) (ra_F fAdd_fr (by decide) (ra_S (rfl))))))))) ?_
  have g69 := RG.a hR 14 (r)
  refine tm_aload_n dX12_meltOne_557 rfl 7 rfl ?_
  refine tm_get (k := 14) (v := .ref (b + 1 + 11)) lay_12 dX12_meltOne_558 (by decide) fl12_44 rfl ?_
  refine tm_iload_n dX12_meltOne_561 rfl 10 rfl ?_
  refine tm_iald (z := q) (v := σ.2.1 14 q) dX12_meltOne_562 (show mT[11]? = some (14, 0, 6) from rfl) (by omega) (by omega) (by decide) (ra_F F64 (by decide) (ra_F fAdd_fr (by decide) (ra_F fAdd_fr (by decide) (ra_F F48 (by decide) (ra_F F40 (by decide) (ra_F F32 (by decide) (ra_F fAdd_fr (by decide) (ra_S (rfl))))))))) ?_
  have g70 := RG.a hR 14 (q)
  refine tm_iadd dX12_meltOne_563 ?_
  refine tm_iast (z := r) (v := (σ.2.1 14 r) + (σ.2.1 14 q)) dX12_meltOne_564 (show mT[11]? = some (14, 0, 6) from rfl) (by omega) (by omega) (by decide) ?_
  refine tm_aload_n dX12_meltOne_565 rfl 7 rfl ?_
  refine tm_get (k := 9) (v := .ref (b + 1 + 7)) lay_12 dX12_meltOne_566 (by decide) fl12_32 rfl ?_
  refine tm_iload_n dX12_meltOne_569 rfl 8 rfl ?_
  refine tm_iald (z := r) (v := σ.2.1 9 r) dX12_meltOne_570 (show mT[7]? = some (9, 0, 13) from rfl) (by omega) (by omega) (by decide) (ra_o (by decide) (ra_F F64 (by decide) (ra_F fAdd_fr (by decide) (ra_F fAdd_fr (by decide) (ra_F F48 (by decide) (ra_F F40 (by decide) (ra_F F32 (by decide) (ra_F fAdd_fr (by decide) (ra_S (rfl)))))))))) ?_
  have g71 := RG.a hR 9 (r)
  refine tm_iconst dX12_meltOne_571 ?_
  refine tm_isub dX12_meltOne_572 ?_
  refine tm_istore (L' := [(11, .int (iI ((σ.2.1 9 r) - 1))), (10, .int (iI mk25)), (9, .int (iI (σ.2.1 4 (220 * r + k)))), (8, .int (iI (v12 + v17))), (7, .int (iI v12)), (6, .int (iI v8)), (5, .int (iI (σ.2.1 14 r))), (4, .int (iI (220 * r + k))), (0, .ref b), (1, .int (iI r)), (2, .int (iI k)), (3, .int (iI q))]) dX12_meltOne_573 (by decide) rfl ?_
  refine tm_sub [0, 1, 2, 3, 4, 5, 6, 7, 8, 9, 10, 11] rfl (l_mo7 (d + 4) (σ0 := (sA 14 (r) ((σ.2.1 14 r) + (σ.2.1 14 q)) σ68)) (r := r) (k := k) (q := q) (f := σ.2.1 14 r) (base := v8) (lb := v12) (out := v12 + v17) (to := σ.2.1 4 (220 * r + k)) (mk := mk25) (a := (σ53.1 62 + 1 + 1)) (nn := (σ.2.1 9 r)) (R65.A (by omega)) (by omega) ⟨s5_62, by omega, by omega, by omega⟩ (fun i77 σ78 F74 R75 f76 => ?_) _ ((σ.2.1 9 r) - 1) (sA 14 (r) ((σ.2.1 14 r) + (σ.2.1 14 q)) σ68) Fr.rfl (R65.A (by omega)) (by omega) SHU.start rfl)
  show Tm _ _ 612 b σ78 [(10, .int (iI mk25)), (9, .int (iI (σ.2.1 4 (220 * r + k)))), (8, .int (iI (v12 + v17))), (7, .int (iI v12)), (6, .int (iI v8)), (5, .int (iI (σ.2.1 14 r))), (4, .int (iI (220 * r + k))), (0, .ref b), (1, .int (iI r)), (2, .int (iI k)), (3, .int (iI q))] [] _
  have hsu := f76
  have f67 := F74
  have s7_62 : σ78.1 62 = (sA 14 (r) ((σ.2.1 14 r) + (σ.2.1 14 q)) σ68).1 62 := f67.1 62 (by decide)
  refine tm_iconst dX12_meltOne_612 ?_
  refine tm_istore (L' := [(11, .int (iI 0)), (10, .int (iI mk25)), (9, .int (iI (σ.2.1 4 (220 * r + k)))), (8, .int (iI (v12 + v17))), (7, .int (iI v12)), (6, .int (iI v8)), (5, .int (iI (σ.2.1 14 r))), (4, .int (iI (220 * r + k))), (0, .ref b), (1, .int (iI r)), (2, .int (iI k)), (3, .int (iI q))]) dX12_meltOne_613 (by decide) rfl ?_
  refine tm_sub [0, 1, 2, 3, 4, 5, 6, 7, 8, 9, 10, 11] rfl (l_mo8 (d + 4) (σ0 := σ78) (r := r) (k := k) (q := q) (f := σ.2.1 14 r) (base := v8) (lb := v12) (out := v12 + v17) (to := σ.2.1 4 (220 * r + k)) (mk := mk25) (a := (σ53.1 62 + 1 + 1)) R75 (by omega) ⟨s7_62.trans s5_62, by omega, by omega, by omega⟩ (fun i84 σ85 F81 R82 f83 => ?_) _ (0) σ78 Fr.rfl R75 (by omega) CPI.start rfl)
  show Tm _ _ 649 b σ85 [(10, .int (iI mk25)), (9, .int (iI (σ.2.1 4 (220 * r + k)))), (8, .int (iI (v12 + v17))), (7, .int (iI v12)), (6, .int (iI v8)), (5, .int (iI (σ.2.1 14 r))), (4, .int (iI (220 * r + k))), (0, .ref b), (1, .int (iI r)), (2, .int (iI k)), (3, .int (iI q))] [] _
  have hcp := f83
  have f78 := F81
  have s8_62 : σ85.1 62 = σ78.1 62 := f78.1 62 (by decide)
  refine tm_aload_n dX12_meltOne_649 rfl 7 rfl ?_
  refine tm_get (k := 9) (v := .ref (b + 1 + 7)) lay_12 dX12_meltOne_650 (by decide) fl12_32 rfl ?_
  refine tm_iload_n dX12_meltOne_653 rfl 8 rfl ?_
  refine tm_dup2 dX12_meltOne_654 rfl rfl ?_
  refine tm_iald (z := r) (v := σ.2.1 9 r) dX12_meltOne_655 (show mT[7]? = some (9, 0, 13) from rfl) (by omega) (by omega) (by decide) (ra_F F81 (by decide) (ra_F F74 (by decide) (ra_o (by decide) (ra_F F64 (by decide) (ra_F fAdd_fr (by decide) (ra_F fAdd_fr (by decide) (ra_F F48 (by decide) (ra_F F40 (by decide) (ra_F F32 (by decide) (ra_F fAdd_fr (by decide) (ra_S (rfl)))))))))))) ?_
  have g86 := RG.a hR 9 (r)
  refine tm_aload_n dX12_meltOne_656 rfl 7 rfl ?_
  refine tm_getS (k := 62) (t := (fAdd (15) (σ.2.1 14 r) (0) (0) (0) (fAdd (13) (v12 + v17) (0) (0) (0) σ53)).1 62) dX12_meltOne_657 (by decide) fl12_509 rfl (rs_F F81 (by decide) (rs_F F74 (by decide) (rs_A (rs_F F64 (by decide) (rfl))))) ?_
  refine tm_iconst dX12_meltOne_660 ?_
  refine tm_isub dX12_meltOne_661 ?_
  refine tm_iadd dX12_meltOne_662 ?_
  refine tm_iast (z := r) (v := (σ.2.1 9 r) + (((fAdd (15) (σ.2.1 14 r) (0) (0) (0) (fAdd (13) (v12 + v17) (0) (0) (0) σ53)).1 62) - 1)) dX12_meltOne_663 (show mT[7]? = some (9, 0, 13) from rfl) (by omega) (by omega) (by decide) ?_
  have hall := melt_all (ρ := σ) (σ1 := (fAdd (15) (σ.2.1 14 r) (0) (0) (0) (fAdd (13) (v12 + v17) (0) (0) (0) σ53))) (σ2 := (sA 14 (r) ((σ.2.1 14 r) + (σ.2.1 14 q)) σ68)) (σ3 := σ78) (σ4 := σ85) (τ := (sA 9 (r) ((σ.2.1 9 r) + (((fAdd (15) (σ.2.1 14 r) (0) (0) (0) (fAdd (13) (v12 + v17) (0) (0) (0) σ53)).1 62) - 1)) σ85)) (a := σ53.1 62 + 1 + 1) hmo h10 (by omega) (by omega) hcr hlex hlm hok hof hfi hfiq rfl hend.1 hend.2 hv1 (by omega) (fun f x y => FIx_lt y) (Fr.A (Fr.sub fm5 (by decide) (by decide) (by decide)) (by decide)) hsu hcp f67 f78 (by rw [n64]) f15 (hfm.fr ((Fr.rfl (ss := []) (ks := [14]) (js := [])).A (by decide)) (by decide)) (by simp only [sA, if_true, s5_14])
  refine tm_iload_n dX12_meltOne_664 rfl 9 rfl ?_
  refine tm_aload_n dX12_meltOne_665 rfl 7 rfl ?_
  refine tm_getS (k := 62) (t := (fAdd (15) (σ.2.1 14 r) (0) (0) (0) (fAdd (13) (v12 + v17) (0) (0) (0) σ53)).1 62) dX12_meltOne_666 (by decide) fl12_509 rfl (rs_A (rs_F F81 (by decide) (rs_F F74 (by decide) (rs_A (rs_F F64 (by decide) (rfl)))))) ?_
  refine tm_iadd dX12_meltOne_669 ?_
  exact tm_iret rfl dX12_meltOne_670 (⟨_, rfl, ((((((((((((Fr.rfl.S (by decide)).trans (Fr.sub fAdd_fr (by decide) (by decide) (by decide))).trans (Fr.sub F32 (by decide) (by decide) (by decide))).trans (Fr.sub F40 (by decide) (by decide) (by decide))).trans (Fr.sub F48 (by decide) (by decide) (by decide))).trans (Fr.sub fAdd_fr (by decide) (by decide) (by decide))).trans (Fr.sub fAdd_fr (by decide) (by decide) (by decide))).trans (Fr.sub F64 (by decide) (by decide) (by decide))).A (by decide)).trans (Fr.sub F74 (by decide) (by decide) (by decide))).trans (Fr.sub F81 (by decide) (by decide) (by decide))).A (by decide)), (R82.A (by omega)), hall.1.1, hall.1.2.1, hall.1.2.2.1, hall.1.2.2.2.1, hall.1.2.2.2.2, hall.2.1, hall.2.2.1, hall.2.2.2.1, ⟨⟨hall.2.2.2.2.1, by rw [hall.2.2.2.2.2]; omega⟩, by rw [hall.2.2.2.2.2]; omega⟩, by rw [hall.2.2.2.2.2]; omega⟩)
end
section
/-- a routine stands well -/
def GDR (σ : MS) (r : Int) : Prop := (1 ≤ σ.2.1 9 r ∧ σ.2.1 9 r ≤ 200) ∧ OKF σ r ∧ OKS σ (σ.2.1 14 r) r ∧ FR0 σ r ∧ LEX σ r ∧ CODE σ r ∧ FRI σ r ∧ LBM σ r ∧ σ.2.1 11 r ≤ σ.2.1 12 r
def GDA (σ : MS) : Prop := (0 ≤ σ.1 10 ∧ σ.1 10 ≤ 6) ∧ ∀ r, 0 ≤ r → r < σ.1 10 → GDR σ r
theorem GDR.fr {ss ks js : List Nat} {σ τ : MS} {r : Int} (h : GDR σ r) (f : Fr ss ks js σ τ) (hs : 10 ∉ ss) (hk : ∀ k ∈ [3, 4, 5, 6, 7, 8, 9, 11, 12, 14, 15, 16, 18], k ∉ ks) : GDR τ r := by
  have sub : ∀ l : List Nat, (∀ k ∈ l, k ∈ [3, 4, 5, 6, 7, 8, 9, 11, 12, 14, 15, 16, 18]) → ∀ k ∈ l, k ∉ ks := fun l hl k q => hk k (hl k q)
  obtain ⟨h1, h2, h3, h4, h5, h6, h7, h8, h9⟩ := h
  refine ⟨by rw [f.2.1 9 (hk 9 (by decide))]; exact h1, h2.fr f (sub _ (by decide)), ?_, ?_, h5.fr f (sub _ (by decide)), h6.fr f hs (sub _ (by decide)), h7.fr f (sub _ (by decide)), h8.fr f (sub _ (by decide)), by rw [f.2.1 11 (hk 11 (by decide)), f.2.1 12 (hk 12 (by decide))]; exact h9⟩
  · rw [f.2.1 14 (hk 14 (by decide))]; exact h3.fr f (sub _ (by decide))
  · unfold FR0; rw [f.2.1 15 (hk 15 (by decide))]; exact h4
theorem GDA.fr {ss ks js : List Nat} {σ τ : MS} (h : GDA σ) (f : Fr ss ks js σ τ) (hs : 10 ∉ ss) (hk : ∀ k ∈ [3, 4, 5, 6, 7, 8, 9, 11, 12, 14, 15, 16, 18], k ∉ ks) : GDA τ := ⟨by rw [f.1 10 hs]; exact h.1, fun r a b => (h.2 r a (by rw [← f.1 10 hs]; exact b)).fr f hs hk⟩
theorem GDA.rtn {σ : MS} (h : GDA σ) : RTN σ := ⟨h.1, fun r a b => ⟨(h.2 r a b).1, (h.2 r a b).2.1, (h.2 r a b).2.2.1, (h.2 r a b).2.2.2.1, (h.2 r a b).2.2.2.2.1⟩⟩
theorem GDR.oth {σ τ : MS} {r s : Int} (h : GDR σ s) (hs : 0 ≤ s ∧ s < 6 ∧ s ≠ r) (hn : NAM σ) (xr : XR r σ τ) (e9 : τ.2.1 9 s = σ.2.1 9 s) (e14 : τ.2.1 14 s = σ.2.1 14 s) (e11 : τ.2.1 11 = σ.2.1 11) (e12 : τ.2.1 12 = σ.2.1 12) (e10 : τ.1 10 = σ.1 10) (ey : ∀ y, (y < 12 * r ∨ 12 * r + 12 ≤ y) → τ.2.1 15 y = σ.2.1 15 y ∧ τ.2.1 16 y = σ.2.1 16 y) (ez : ∀ z, (z < 144 * r ∨ 144 * r + 144 ≤ z) → τ.2.1 18 z = σ.2.1 18 z) : GDR τ s := by
  obtain ⟨h1, h2, h3, h4, h5, h6, h7, h8, h9⟩ := h
  have ie : ∀ k, 0 ≤ k → k < 220 → IEQ σ (220 * s + k) τ (220 * s + k) := fun k a b => xr.ieq (by omega) (by omega)
  have b14 := h2.1
  refine ⟨by rw [e9]; exact h1, ?_, fun k a b => ?_, ?_, fun k a b e => ?_, ?_, ?_, fun k a b e => ?_, by rw [e11, e12]; exact h9⟩
  · unfold OKF
    rw [e14, e12]
    refine ⟨h2.1, fun f a b => ?_⟩
    have q := h2.2 f a b
    have qn := hn _ q.1.1 q.1.2
    rw [(ey (12 * s + f) (by omega)).1]
    exact ⟨q.1, fun n c d => by rw [ez _ (by omega)]; exact q.2 n c d⟩
  · rw [e9] at b
    rw [e14]
    exact (ie k a (by omega)).oki e11 (h3 k a b)
  · unfold FR0; rw [(ey (12 * s + 0) (by omega)).1]; exact h4
  · rw [e9] at b
    rw [(ie k a (by omega)).1] at e
    obtain ⟨j, j0, j1, j2, j3⟩ := h5 k a b e
    exact ⟨j, j0, by rw [e9]; exact j1, by rw [(ie j j0 (by omega)).1]; exact j2, by rw [(ie j j0 (by omega)).2.1, (ie k a (by omega)).2.1]; exact j3⟩
  · obtain ⟨fr, lf, c1, c2, c3, c4, c5⟩ := h6
    refine ⟨fr, lf, ?_⟩
    rw [e9, e14, e10]
    have k3 : ∀ k, 0 ≤ k → k < σ.2.1 9 s → iK τ s k = iK σ s k := fun k a b => (ie k a (by omega)).1
    have k4 : ∀ k, 0 ≤ k → k < σ.2.1 9 s → iD τ s k = iD σ s k := fun k a b => (ie k a (by omega)).2.1
    have k5 : ∀ k, 0 ≤ k → k < σ.2.1 9 s → iO τ s k = iO σ s k := fun k a b => (ie k a (by omega)).2.2.1
    have kf : ∀ f, 0 ≤ f → f < 12 → iF τ s f = iF σ s f := fun f a b => (ey (12 * s + f) (by omega)).2
    refine ⟨c1, c2, fun k a b x7 x8 => ?_, fun k a b => ?_, fun k a b e => ?_⟩
    · rw [k3 k a b] at x7 x8 ⊢
      rw [k4 k a b]
      obtain ⟨d1, d2, d3, d4⟩ := c3 k a b x7 x8
      refine ⟨d1, fun e => ?_, fun e => ?_, d4⟩
      · have q := d2 e
        have w := c2 (k + 1) (by omega) d1
        rw [kf _ (by omega) (by omega)]; exact q
      · have q := d3 e
        have w := c2 k a b
        rw [kf _ (by omega) (by omega)]; exact q
    · rw [k3 k a b, k4 k a b]; exact c4 k a b
    · rw [k3 k a b] at e
      obtain ⟨d0, j, d1, d2, d3, d4, d5⟩ := c5 k a b e
      exact ⟨by rw [k5 k a b]; exact d0, j, d1, d2, by rw [k3 j d1 (by omega)]; exact d3, by rw [k5 j d1 (by omega)]; exact d4, fun i x y => by rw [k3 i (by omega) (by omega)]; exact d5 i x y⟩
  · refine ⟨by rw [(ey (12 * s + 0) (by omega)).2]; exact h7.1, fun f a b => ?_⟩
    rw [e14] at b
    rw [(ey (12 * s + f) (by omega)).2]; exact h7.2 f a b
  · rw [e9] at b
    rw [(ie k a (by omega)).1] at e
    rw [(ie k a (by omega)).2.1, e14]; exact h8 k a b e
theorem GDA.of {σ τ : MS} {r : Int} (h : GDA σ) (hr : 0 ≤ r ∧ r < σ.1 10) (hn : NAM σ) (xr : XR r σ τ) (e9 : ∀ j, j ≠ r → τ.2.1 9 j = σ.2.1 9 j) (e14 : ∀ j, j ≠ r → τ.2.1 14 j = σ.2.1 14 j) (e11 : τ.2.1 11 = σ.2.1 11) (e12 : τ.2.1 12 = σ.2.1 12) (e10 : τ.1 10 = σ.1 10) (ey : ∀ y, (y < 12 * r ∨ 12 * r + 12 ≤ y) → τ.2.1 15 y = σ.2.1 15 y ∧ τ.2.1 16 y = σ.2.1 16 y) (ez : ∀ z, (z < 144 * r ∨ 144 * r + 144 ≤ z) → τ.2.1 18 z = σ.2.1 18 z) (g : GDR τ r) : GDA τ := by
  refine ⟨by rw [e10]; exact h.1, fun s a b => ?_⟩
  by_cases z : s = r
  · rw [z]; exact g
  · rw [e10] at b
    have := h.1
    exact (h.2 s a b).oth ⟨a, by omega, z⟩ hn xr (e9 s z) (e14 s z) e11 e12 e10 ey ez
/-- the routine that is called is one -/
theorem GDR.call {σ : MS} {r k : Int} (h : GDR σ r) (hk : 0 ≤ k ∧ k < σ.2.1 9 r) (e : σ.2.1 3 (220 * r + k) = 10) : 0 ≤ σ.2.1 5 (220 * r + k) ∧ σ.2.1 5 (220 * r + k) < σ.1 10 := by
  obtain ⟨fr, lf, c⟩ := h.2.2.2.2.2.1
  exact ⟨((h.2.2.1 k hk.1 hk.2).2.2.2.2.2.2.1 e).1, (c.2.2.2.2 k hk.1 hk.2 e).1⟩
theorem RGI_fr {σ τ : MS} {r m n : Int} (f : Fr [] [46, 59] [] σ τ) (h : RGI τ r m n) : RGI σ r m n := fun k a b => by
  have q := h k a b
  rw [f.2.1 3 (by decide), f.2.1 4 (by decide), nArgs.fr f (by decide), f.2.1 7 (by decide), f.2.1 8 (by decide)] at q
  exact q
theorem cnt_le {f : Int → Int} (hf : ∀ i, f i ≤ 1) (n : Nat) : cnt f n ≤ n := by
  induction n with
  | zero => exact Int.le_refl _
  | succ n ih =>
    have := hf n
    show cnt f n + f n ≤ _
    omega
theorem lcf_1 (ρ : MS) (q g : Int) : lcf ρ q g ≤ 1 := by unfold lcf; split <;> decide
theorem rcf_1 (ρ : MS) (q g : Int) : rcf ρ q g ≤ 1 := by unfold rcf; split <;> decide

theorem dX12_melt_118 : decode cX12_melt 118 = .ok (.iload 7, 2) := by decide +kernel
theorem dX12_melt_120 : decode cX12_melt 120 = .ok (.sipush 192, 3) := by decide +kernel
theorem dX12_melt_123 : decode cX12_melt 123 = .ok (.if_icmp .ge 40, 3) := by decide +kernel
theorem dX12_melt_126 : decode cX12_melt 126 = .ok (.iload 6, 2) := by decide +kernel
theorem dX12_melt_128 : decode cX12_melt 128 = .ok (.aload_n 0, 1) := by decide +kernel
theorem dX12_melt_129 : decode cX12_melt 129 = .ok (.getfield 130, 3) := by decide +kernel
theorem dX12_melt_132 : decode cX12_melt 132 = .ok (.iload 7, 2) := by decide +kernel
theorem dX12_melt_134 : decode cX12_melt 134 = .ok (.baload, 1) := by decide +kernel
theorem dX12_melt_135 : decode cX12_melt 135 = .ok (.ifCond .eq 18, 3) := by decide +kernel
theorem dX12_melt_153 : decode cX12_melt 153 = .ok (.iconst 0, 1) := by decide +kernel
theorem dX12_melt_154 : decode cX12_melt 154 = .ok (.iadd, 1) := by decide +kernel
theorem dX12_melt_155 : decode cX12_melt 155 = .ok (.istore 6, 2) := by decide +kernel
theorem dX12_melt_157 : decode cX12_melt 157 = .ok (.iinc 7 1, 3) := by decide +kernel
theorem dX12_melt_160 : decode cX12_melt 160 = .ok (.goto (-42), 3) := by decide +kernel
theorem dX12_melt_138 : decode cX12_melt 138 = .ok (.aload_n 0, 1) := by decide +kernel
theorem dX12_melt_139 : decode cX12_melt 139 = .ok (.iload 5, 2) := by decide +kernel
theorem dX12_melt_141 : decode cX12_melt 141 = .ok (.iload 7, 2) := by decide +kernel
theorem dX12_melt_143 : decode cX12_melt 143 = .ok (.invokevirtual 503, 3) := by decide +kernel
theorem dX12_melt_146 : decode cX12_melt 146 = .ok (.ifCond .ne 7, 3) := by decide +kernel
theorem dX12_melt_149 : decode cX12_melt 149 = .ok (.iconst 1, 1) := by decide +kernel
theorem dX12_melt_150 : decode cX12_melt 150 = .ok (.goto 4, 3) := by decide +kernel
set_option maxHeartbeats 2000000 in
set_option maxRecDepth 20000 in
theorem l_me2 (d : Nat) {b : Nat} {σ : MS} {r : Int} {k : Int} {q : Int} {tl : Int} {W0 : Int} {post : Option Value → MS → Prop} (hq : 0 ≤ q ∧ q < 6) (hR : RG σ) (hpar : PAR σ) (hbl : BO 59 σ) (hx_163 : ∀ (w : Int) (g : Int) , (w = W0 + cnt (lcf σ q) 192) → Tm (d + 2) m_X12_melt 163 b σ [(6, .int (iI w)), (5, .int (iI q)), (4, .int (iI (220 * r + k))), (3, .int (iI k)), (2, .int (iI tl)), (0, .ref b), (1, .int (iI r))] [] post) : ∀ (n : Nat) (w : Int) (g : Int) , (0 ≤ g ∧ g ≤ 192) → (w = W0 + cnt (lcf σ q) g.toNat) → (192 - g).toNat = n → Tm (d + 2) m_X12_melt 118 b σ [(7, .int (iI g)), (6, .int (iI w)), (5, .int (iI q)), (4, .int (iI (220 * r + k))), (3, .int (iI k)), (2, .int (iI tl)), (0, .ref b), (1, .int (iI r))] [] post := by
  intro n
  induction n using Nat.strongRecOn with
  | _ n ih =>
    intro w g h0 hc hm
    have mpa := hpar q (by omega) (by omega)
    refine tm_iload dX12_melt_118 0 rfl ?_
    refine tm_sipush dX12_melt_120 (by decide) ?_
    refine tm_icmp_ge (tgt := 163) dX12_melt_123 (by decide) ⟨by omega, by omega⟩ ⟨by decide, by decide⟩ (fun h1 => ?_) (fun h1 => ?_)
    · exact tm_sub [1, 2, 3, 4, 5, 6, 7] rfl (hx_163 (w) (0) (by rw [show g.toNat = 192 by omega] at hc; exact hc))
    · have hb59 := hbl g
      refine tm_iload dX12_melt_126 1 rfl ?_
      refine tm_aload_n dX12_melt_128 rfl 6 rfl ?_
      refine tm_get (k := 59) (v := .ref (b + 1 + 37)) lay_12 dX12_melt_129 (by decide) fl12_130 rfl ?_
      refine tm_iload dX12_melt_132 0 rfl ?_
      refine tm_zald (z := g) (v := σ.2.1 59 g) dX12_melt_134 (show mT[37]? = some (59, 2, 42432) from rfl) (by omega) (by omega) (by decide) (rfl) ?_
      have g2 := RG.a hR 59 (g)
      have := hbl (g)
      refine tm_if_eq (tgt := 153) dX12_melt_135 (by decide) ⟨by omega, by omega⟩ (fun h3 => ?_) (fun h3 => ?_)
      · refine tm_iconst dX12_melt_153 ?_
        refine tm_iadd dX12_melt_154 ?_
        refine tm_istore (L' := [(6, .int (iI (w + 0))), (7, .int (iI g)), (5, .int (iI q)), (4, .int (iI (220 * r + k))), (3, .int (iI k)), (2, .int (iI tl)), (0, .ref b), (1, .int (iI r))]) dX12_melt_155 (by decide) rfl ?_
        refine tm_iinc (q0 := 1) (L' := [(7, .int (iI (g + 1))), (6, .int (iI (w + 0))), (5, .int (iI q)), (4, .int (iI (220 * r + k))), (3, .int (iI k)), (2, .int (iI tl)), (0, .ref b), (1, .int (iI r))]) dX12_melt_157 rfl (by decide) rfl ?_
        refine tm_goto (tgt := 118) dX12_melt_160 (by decide) ?_
        exact tm_sub [0, 1, 2, 3, 4, 5, 6, 7] rfl (ih _ (by omega) (w + 0) (g + 1) (by omega) (by rw [cnt_s (by omega)]; first | (rw [show lcf σ q g = 0 from lcf_n (by omega)]; omega) | (rw [show lcf σ q g = 0 from lcf_p (by omega) (hP.mp (by omega))]; omega) | (rw [lcf_y (by omega) (fun w => absurd (hP.mpr w) (by omega))]; omega)) rfl)
      · refine tm_aload_n dX12_melt_138 rfl 6 rfl ?_
        refine tm_iload dX12_melt_139 2 rfl ?_
        refine tm_iload dX12_melt_141 0 rfl ?_
        refine tm_callV (M := m_X12_melt) (pc := 143) (ix := 503) (M' := m_X12_isParam) (As := [.int (iI q), .int (iI g)]) (rest := [.int (iI w)]) dX12_melt_143 ok_X12_isParam im_X12_isParam se_X12_isParam ml12_503 np_X12_isParam rfl rfl (Nat.le_of_ble_eq_true rfl) (Nat.le_of_ble_eq_true rfl) rfl (c_X12_isParam (d) (σ := σ) (r := q) (g := g) (by omega) hR hpar (by omega)) (fun r4 σ5 hp => ?_)
        obtain ⟨v6, rfl, rfl, f7, f8⟩ := hp
        show Tm _ _ 146 b σ [(7, .int (iI g)), (6, .int (iI w)), (5, .int (iI q)), (4, .int (iI (220 * r + k))), (3, .int (iI k)), (2, .int (iI tl)), (0, .ref b), (1, .int (iI r))] [.int (iI v6), .int (iI w)] _
        have hP : v6 = 1 ↔ PMQ σ q g := f8
        clear f8
        refine tm_if_ne (tgt := 153) dX12_melt_146 (by decide) ⟨by omega, by omega⟩ (fun h9 => ?_) (fun h9 => ?_)
        · refine tm_iconst dX12_melt_153 ?_
          refine tm_iadd dX12_melt_154 ?_
          refine tm_istore (L' := [(6, .int (iI (w + 0))), (7, .int (iI g)), (5, .int (iI q)), (4, .int (iI (220 * r + k))), (3, .int (iI k)), (2, .int (iI tl)), (0, .ref b), (1, .int (iI r))]) dX12_melt_155 (by decide) rfl ?_
          refine tm_iinc (q0 := 1) (L' := [(7, .int (iI (g + 1))), (6, .int (iI (w + 0))), (5, .int (iI q)), (4, .int (iI (220 * r + k))), (3, .int (iI k)), (2, .int (iI tl)), (0, .ref b), (1, .int (iI r))]) dX12_melt_157 rfl (by decide) rfl ?_
          refine tm_goto (tgt := 118) dX12_melt_160 (by decide) ?_
          exact tm_sub [0, 1, 2, 3, 4, 5, 6, 7] rfl (ih _ (by omega) (w + 0) (g + 1) (by omega) (by rw [cnt_s (by omega)]; first | (rw [show lcf σ q g = 0 from lcf_n (by omega)]; omega) | (rw [show lcf σ q g = 0 from lcf_p (by omega) (hP.mp (by omega))]; omega) | (rw [lcf_y (by omega) (fun w => absurd (hP.mpr w) (by omega))]; omega)) rfl)
        · refine tm_iconst dX12_melt_149 ?_
          refine tm_goto (tgt := 154) dX12_melt_150 (by decide) ?_
          refine tm_iadd dX12_melt_154 ?_
          refine tm_istore (L' := [(6, .int (iI (w + 1))), (7, .int (iI g)), (5, .int (iI q)), (4, .int (iI (220 * r + k))), (3, .int (iI k)), (2, .int (iI tl)), (0, .ref b), (1, .int (iI r))]) dX12_melt_155 (by decide) rfl ?_
          refine tm_iinc (q0 := 1) (L' := [(7, .int (iI (g + 1))), (6, .int (iI (w + 1))), (5, .int (iI q)), (4, .int (iI (220 * r + k))), (3, .int (iI k)), (2, .int (iI tl)), (0, .ref b), (1, .int (iI r))]) dX12_melt_157 rfl (by decide) rfl ?_
          refine tm_goto (tgt := 118) dX12_melt_160 (by decide) ?_
          exact tm_sub [0, 1, 2, 3, 4, 5, 6, 7] rfl (ih _ (by omega) (w + 1) (g + 1) (by omega) (by rw [cnt_s (by omega)]; first | (rw [show lcf σ q g = 0 from lcf_n (by omega)]; omega) | (rw [show lcf σ q g = 0 from lcf_p (by omega) (hP.mp (by omega))]; omega) | (rw [lcf_y (by omega) (fun w => absurd (hP.mpr w) (by omega))]; omega)) rfl)
theorem dX12_melt_166 : decode cX12_melt 166 = .ok (.iload 7, 2) := by decide +kernel
theorem dX12_melt_168 : decode cX12_melt 168 = .ok (.aload_n 0, 1) := by decide +kernel
theorem dX12_melt_169 : decode cX12_melt 169 = .ok (.getfield 32, 3) := by decide +kernel
theorem dX12_melt_172 : decode cX12_melt 172 = .ok (.iload 5, 2) := by decide +kernel
theorem dX12_melt_174 : decode cX12_melt 174 = .ok (.iaload, 1) := by decide +kernel
theorem dX12_melt_175 : decode cX12_melt 175 = .ok (.if_icmp .ge 37, 3) := by decide +kernel
theorem dX12_melt_178 : decode cX12_melt 178 = .ok (.iload 6, 2) := by decide +kernel
theorem dX12_melt_180 : decode cX12_melt 180 = .ok (.aload_n 0, 1) := by decide +kernel
theorem dX12_melt_181 : decode cX12_melt 181 = .ok (.getfield 13, 3) := by decide +kernel
theorem dX12_melt_184 : decode cX12_melt 184 = .ok (.aload_n 0, 1) := by decide +kernel
theorem dX12_melt_185 : decode cX12_melt 185 = .ok (.iload 5, 2) := by decide +kernel
theorem dX12_melt_187 : decode cX12_melt 187 = .ok (.iload 7, 2) := by decide +kernel
theorem dX12_melt_189 : decode cX12_melt 189 = .ok (.invokevirtual 203, 3) := by decide +kernel
theorem dX12_melt_192 : decode cX12_melt 192 = .ok (.iaload, 1) := by decide +kernel
theorem dX12_melt_193 : decode cX12_melt 193 = .ok (.bipush 7, 2) := by decide +kernel
theorem dX12_melt_195 : decode cX12_melt 195 = .ok (.if_icmp .ne 7, 3) := by decide +kernel
theorem dX12_melt_202 : decode cX12_melt 202 = .ok (.iconst 0, 1) := by decide +kernel
theorem dX12_melt_203 : decode cX12_melt 203 = .ok (.iadd, 1) := by decide +kernel
theorem dX12_melt_204 : decode cX12_melt 204 = .ok (.istore 6, 2) := by decide +kernel
theorem dX12_melt_206 : decode cX12_melt 206 = .ok (.iinc 7 1, 3) := by decide +kernel
theorem dX12_melt_209 : decode cX12_melt 209 = .ok (.goto (-43), 3) := by decide +kernel
theorem dX12_melt_198 : decode cX12_melt 198 = .ok (.iconst 1, 1) := by decide +kernel
theorem dX12_melt_199 : decode cX12_melt 199 = .ok (.goto 4, 3) := by decide +kernel
set_option maxHeartbeats 2000000 in
set_option maxRecDepth 20000 in
theorem l_me3 (d : Nat) {b : Nat} {σ : MS} {r : Int} {k : Int} {q : Int} {tl : Int} {W0 : Int} {post : Option Value → MS → Prop} (hq : 0 ≤ q ∧ q < 6) (hR : RG σ) (hn : 0 ≤ σ.2.1 9 q ∧ σ.2.1 9 q ≤ 220) (hx_212 : ∀ (w : Int) (i : Int) , (w = W0 + cnt (rcf σ q) (σ.2.1 9 q).toNat) → Tm (d + 2) m_X12_melt 212 b σ [(6, .int (iI w)), (5, .int (iI q)), (4, .int (iI (220 * r + k))), (3, .int (iI k)), (2, .int (iI tl)), (0, .ref b), (1, .int (iI r))] [] post) : ∀ (n : Nat) (w : Int) (i : Int) , (0 ≤ i ∧ i ≤ σ.2.1 9 q) → (w = W0 + cnt (rcf σ q) i.toNat) → (220 - i).toNat = n → Tm (d + 2) m_X12_melt 166 b σ [(7, .int (iI i)), (6, .int (iI w)), (5, .int (iI q)), (4, .int (iI (220 * r + k))), (3, .int (iI k)), (2, .int (iI tl)), (0, .ref b), (1, .int (iI r))] [] post := by
  intro n
  induction n using Nat.strongRecOn with
  | _ n ih =>
    intro w i h0 hc hm
    refine tm_iload dX12_melt_166 0 rfl ?_
    refine tm_aload_n dX12_melt_168 rfl 6 rfl ?_
    refine tm_get (k := 9) (v := .ref (b + 1 + 7)) lay_12 dX12_melt_169 (by decide) fl12_32 rfl ?_
    refine tm_iload dX12_melt_172 2 rfl ?_
    refine tm_iald (z := q) (v := σ.2.1 9 q) dX12_melt_174 (show mT[7]? = some (9, 0, 13) from rfl) (by omega) (by omega) (by decide) (rfl) ?_
    have g1 := RG.a hR 9 (q)
    refine tm_icmp_ge (tgt := 212) dX12_melt_175 (by decide) ⟨by omega, by omega⟩ ⟨by omega, by omega⟩ (fun h2 => ?_) (fun h2 => ?_)
    · exact tm_sub [1, 2, 3, 4, 5, 6, 7] rfl (hx_212 (w) (0) (by rw [show i = σ.2.1 9 q by omega] at hc; exact hc))
    · refine tm_iload dX12_melt_178 1 rfl ?_
      refine tm_aload_n dX12_melt_180 rfl 6 rfl ?_
      refine tm_get (k := 3) (v := .ref (b + 1 + 1)) lay_12 dX12_melt_181 (by decide) fl12_13 rfl ?_
      refine tm_aload_n dX12_melt_184 rfl 6 rfl ?_
      refine tm_iload dX12_melt_185 2 rfl ?_
      refine tm_iload dX12_melt_187 0 rfl ?_
      refine tm_callV (M := m_X12_melt) (pc := 189) (ix := 203) (M' := m_X12_at) (As := [.int (iI q), .int (iI i)]) (rest := [.ref (b + 1 + 1), .int (iI w)]) dX12_melt_189 ok_X12_at im_X12_at se_X12_at ml12_203 np_X12_at rfl rfl (Nat.le_of_ble_eq_true rfl) (Nat.le_of_ble_eq_true rfl) rfl (c_X12_at (d) (σ := σ) (x := q) (k := i) ) (fun r3 σ4 hp => ?_)
      obtain ⟨v5, rfl, rfl, f6⟩ := hp
      subst f6
      show Tm _ _ 192 b σ [(7, .int (iI i)), (6, .int (iI w)), (5, .int (iI q)), (4, .int (iI (220 * r + k))), (3, .int (iI k)), (2, .int (iI tl)), (0, .ref b), (1, .int (iI r))] [.int (iI (220 * q + i)), .ref (b + 1 + 1), .int (iI w)] _
      refine tm_iald (z := 220 * q + i) (v := σ.2.1 3 (220 * q + i)) dX12_melt_192 (show mT[1]? = some (3, 0, 2860) from rfl) (by omega) (by omega) (by decide) (rfl) ?_
      have g7 := RG.a hR 3 (220 * q + i)
      refine tm_bipush dX12_melt_193 (by decide) ?_
      refine tm_icmp_ne (tgt := 202) dX12_melt_195 (by decide) ⟨by omega, by omega⟩ ⟨by decide, by decide⟩ (fun h8 => ?_) (fun h8 => ?_)
      · refine tm_iconst dX12_melt_202 ?_
        refine tm_iadd dX12_melt_203 ?_
        refine tm_istore (L' := [(6, .int (iI (w + 0))), (7, .int (iI i)), (5, .int (iI q)), (4, .int (iI (220 * r + k))), (3, .int (iI k)), (2, .int (iI tl)), (0, .ref b), (1, .int (iI r))]) dX12_melt_204 (by decide) rfl ?_
        refine tm_iinc (q0 := 1) (L' := [(7, .int (iI (i + 1))), (6, .int (iI (w + 0))), (5, .int (iI q)), (4, .int (iI (220 * r + k))), (3, .int (iI k)), (2, .int (iI tl)), (0, .ref b), (1, .int (iI r))]) dX12_melt_206 rfl (by decide) rfl ?_
        refine tm_goto (tgt := 166) dX12_melt_209 (by decide) ?_
        exact tm_sub [0, 1, 2, 3, 4, 5, 6, 7] rfl (ih _ (by omega) (w + 0) (i + 1) (by omega) (by rw [cnt_s (by omega), show rcf σ q i = (if σ.2.1 3 (220 * q + i) = 7 then 1 else 0) from rfl]; split <;> omega) rfl)
      · refine tm_iconst dX12_melt_198 ?_
        refine tm_goto (tgt := 203) dX12_melt_199 (by decide) ?_
        refine tm_iadd dX12_melt_203 ?_
        refine tm_istore (L' := [(6, .int (iI (w + 1))), (7, .int (iI i)), (5, .int (iI q)), (4, .int (iI (220 * r + k))), (3, .int (iI k)), (2, .int (iI tl)), (0, .ref b), (1, .int (iI r))]) dX12_melt_204 (by decide) rfl ?_
        refine tm_iinc (q0 := 1) (L' := [(7, .int (iI (i + 1))), (6, .int (iI (w + 1))), (5, .int (iI q)), (4, .int (iI (220 * r + k))), (3, .int (iI k)), (2, .int (iI tl)), (0, .ref b), (1, .int (iI r))]) dX12_melt_206 rfl (by decide) rfl ?_
        refine tm_goto (tgt := 166) dX12_melt_209 (by decide) ?_
        exact tm_sub [0, 1, 2, 3, 4, 5, 6, 7] rfl (ih _ (by omega) (w + 1) (i + 1) (by omega) (by rw [cnt_s (by omega), show rcf σ q i = (if σ.2.1 3 (220 * q + i) = 7 then 1 else 0) from rfl]; split <;> omega) rfl)
theorem ml12_500 : Cond.methodLink RX12 500 yX12_hasCall ∈ pWW := pw9 (List.mem_of_getElem? (i := 185) rfl) rfl
theorem ml12_506 : Cond.methodLink RX12 506 yX12_meltOne ∈ pWW := pw9 (List.mem_of_getElem? (i := 193) rfl) rfl
theorem dX12_melt_4 : decode cX12_melt 4 = .ok (.iload_n 3, 1) := by decide +kernel
theorem dX12_melt_5 : decode cX12_melt 5 = .ok (.aload_n 0, 1) := by decide +kernel
theorem dX12_melt_6 : decode cX12_melt 6 = .ok (.getfield 32, 3) := by decide +kernel
theorem dX12_melt_9 : decode cX12_melt 9 = .ok (.iload_n 1, 1) := by decide +kernel
theorem dX12_melt_10 : decode cX12_melt 10 = .ok (.iaload, 1) := by decide +kernel
theorem dX12_melt_11 : decode cX12_melt 11 = .ok (.if_icmp .ge 266, 3) := by decide +kernel
theorem dX12_melt_14 : decode cX12_melt 14 = .ok (.aload_n 0, 1) := by decide +kernel
theorem dX12_melt_15 : decode cX12_melt 15 = .ok (.iload_n 1, 1) := by decide +kernel
theorem dX12_melt_16 : decode cX12_melt 16 = .ok (.iload_n 3, 1) := by decide +kernel
theorem dX12_melt_17 : decode cX12_melt 17 = .ok (.invokevirtual 203, 3) := by decide +kernel
theorem dX12_melt_20 : decode cX12_melt 20 = .ok (.istore 4, 2) := by decide +kernel
theorem dX12_melt_22 : decode cX12_melt 22 = .ok (.aload_n 0, 1) := by decide +kernel
theorem dX12_melt_23 : decode cX12_melt 23 = .ok (.getfield 20, 3) := by decide +kernel
theorem dX12_melt_26 : decode cX12_melt 26 = .ok (.iload 4, 2) := by decide +kernel
theorem dX12_melt_28 : decode cX12_melt 28 = .ok (.iaload, 1) := by decide +kernel
theorem dX12_melt_29 : decode cX12_melt 29 = .ok (.istore 5, 2) := by decide +kernel
theorem dX12_melt_31 : decode cX12_melt 31 = .ok (.aload_n 0, 1) := by decide +kernel
theorem dX12_melt_32 : decode cX12_melt 32 = .ok (.getfield 13, 3) := by decide +kernel
theorem dX12_melt_35 : decode cX12_melt 35 = .ok (.iload 4, 2) := by decide +kernel
theorem dX12_melt_37 : decode cX12_melt 37 = .ok (.iaload, 1) := by decide +kernel
theorem dX12_melt_38 : decode cX12_melt 38 = .ok (.bipush 10, 2) := by decide +kernel
theorem dX12_melt_40 : decode cX12_melt 40 = .ok (.if_icmp .ne 29, 3) := by decide +kernel
theorem dX12_melt_69 : decode cX12_melt 69 = .ok (.iinc 3 1, 3) := by decide +kernel
theorem dX12_melt_72 : decode cX12_melt 72 = .ok (.goto (-68), 3) := by decide +kernel
theorem dX12_melt_43 : decode cX12_melt 43 = .ok (.iload 5, 2) := by decide +kernel
theorem dX12_melt_45 : decode cX12_melt 45 = .ok (.iload_n 1, 1) := by decide +kernel
theorem dX12_melt_46 : decode cX12_melt 46 = .ok (.if_icmp .eq 23, 3) := by decide +kernel
theorem dX12_melt_49 : decode cX12_melt 49 = .ok (.aload_n 0, 1) := by decide +kernel
theorem dX12_melt_50 : decode cX12_melt 50 = .ok (.iload 5, 2) := by decide +kernel
theorem dX12_melt_52 : decode cX12_melt 52 = .ok (.invokevirtual 500, 3) := by decide +kernel
theorem dX12_melt_55 : decode cX12_melt 55 = .ok (.ifCond .ne 14, 3) := by decide +kernel
theorem dX12_melt_58 : decode cX12_melt 58 = .ok (.aload_n 0, 1) := by decide +kernel
theorem dX12_melt_59 : decode cX12_melt 59 = .ok (.iload 5, 2) := by decide +kernel
theorem dX12_melt_61 : decode cX12_melt 61 = .ok (.invokevirtual 407, 3) := by decide +kernel
theorem dX12_melt_64 : decode cX12_melt 64 = .ok (.bipush 20, 2) := by decide +kernel
theorem dX12_melt_66 : decode cX12_melt 66 = .ok (.if_icmp .le 9, 3) := by decide +kernel
theorem dX12_melt_75 : decode cX12_melt 75 = .ok (.aload_n 0, 1) := by decide +kernel
theorem dX12_melt_76 : decode cX12_melt 76 = .ok (.iload 5, 2) := by decide +kernel
theorem dX12_melt_78 : decode cX12_melt 78 = .ok (.invokevirtual 475, 3) := by decide +kernel
theorem dX12_melt_81 : decode cX12_melt 81 = .ok (.aload_n 0, 1) := by decide +kernel
theorem dX12_melt_82 : decode cX12_melt 82 = .ok (.getfield 32, 3) := by decide +kernel
theorem dX12_melt_85 : decode cX12_melt 85 = .ok (.iload_n 1, 1) := by decide +kernel
theorem dX12_melt_86 : decode cX12_melt 86 = .ok (.iaload, 1) := by decide +kernel
theorem dX12_melt_87 : decode cX12_melt 87 = .ok (.iconst 2, 1) := by decide +kernel
theorem dX12_melt_88 : decode cX12_melt 88 = .ok (.iadd, 1) := by decide +kernel
theorem dX12_melt_89 : decode cX12_melt 89 = .ok (.aload_n 0, 1) := by decide +kernel
theorem dX12_melt_90 : decode cX12_melt 90 = .ok (.getfield 35, 3) := by decide +kernel
theorem dX12_melt_93 : decode cX12_melt 93 = .ok (.iload 5, 2) := by decide +kernel
theorem dX12_melt_95 : decode cX12_melt 95 = .ok (.iaload, 1) := by decide +kernel
theorem dX12_melt_96 : decode cX12_melt 96 = .ok (.iadd, 1) := by decide +kernel
theorem dX12_melt_97 : decode cX12_melt 97 = .ok (.aload_n 0, 1) := by decide +kernel
theorem dX12_melt_98 : decode cX12_melt 98 = .ok (.getfield 38, 3) := by decide +kernel
theorem dX12_melt_101 : decode cX12_melt 101 = .ok (.iload 5, 2) := by decide +kernel
theorem dX12_melt_103 : decode cX12_melt 103 = .ok (.iaload, 1) := by decide +kernel
theorem dX12_melt_104 : decode cX12_melt 104 = .ok (.iadd, 1) := by decide +kernel
theorem dX12_melt_105 : decode cX12_melt 105 = .ok (.aload_n 0, 1) := by decide +kernel
theorem dX12_melt_106 : decode cX12_melt 106 = .ok (.getfield 32, 3) := by decide +kernel
theorem dX12_melt_109 : decode cX12_melt 109 = .ok (.iload 5, 2) := by decide +kernel
theorem dX12_melt_111 : decode cX12_melt 111 = .ok (.iaload, 1) := by decide +kernel
theorem dX12_melt_112 : decode cX12_melt 112 = .ok (.iadd, 1) := by decide +kernel
theorem dX12_melt_113 : decode cX12_melt 113 = .ok (.istore 6, 2) := by decide +kernel
theorem dX12_melt_115 : decode cX12_melt 115 = .ok (.iconst 0, 1) := by decide +kernel
theorem dX12_melt_116 : decode cX12_melt 116 = .ok (.istore 7, 2) := by decide +kernel
theorem dX12_melt_163 : decode cX12_melt 163 = .ok (.iconst 0, 1) := by decide +kernel
theorem dX12_melt_164 : decode cX12_melt 164 = .ok (.istore 7, 2) := by decide +kernel
theorem dX12_melt_212 : decode cX12_melt 212 = .ok (.iload 6, 2) := by decide +kernel
theorem dX12_melt_214 : decode cX12_melt 214 = .ok (.sipush 200, 3) := by decide +kernel
theorem dX12_melt_217 : decode cX12_melt 217 = .ok (.if_icmp .gt 39, 3) := by decide +kernel
theorem dX12_melt_256 : decode cX12_melt 256 = .ok (.iinc 3 1, 3) := by decide +kernel
theorem dX12_melt_259 : decode cX12_melt 259 = .ok (.goto (-255), 3) := by decide +kernel
theorem dX12_melt_220 : decode cX12_melt 220 = .ok (.aload_n 0, 1) := by decide +kernel
theorem dX12_melt_221 : decode cX12_melt 221 = .ok (.iload_n 1, 1) := by decide +kernel
theorem dX12_melt_222 : decode cX12_melt 222 = .ok (.invokevirtual 410, 3) := by decide +kernel
theorem dX12_melt_225 : decode cX12_melt 225 = .ok (.aload_n 0, 1) := by decide +kernel
theorem dX12_melt_226 : decode cX12_melt 226 = .ok (.iload 5, 2) := by decide +kernel
theorem dX12_melt_228 : decode cX12_melt 228 = .ok (.invokevirtual 410, 3) := by decide +kernel
theorem dX12_melt_231 : decode cX12_melt 231 = .ok (.iadd, 1) := by decide +kernel
theorem dX12_melt_232 : decode cX12_melt 232 = .ok (.bipush 100, 2) := by decide +kernel
theorem dX12_melt_234 : decode cX12_melt 234 = .ok (.if_icmp .gt 22, 3) := by decide +kernel
theorem dX12_melt_237 : decode cX12_melt 237 = .ok (.aload_n 0, 1) := by decide +kernel
theorem dX12_melt_238 : decode cX12_melt 238 = .ok (.getfield 44, 3) := by decide +kernel
theorem dX12_melt_241 : decode cX12_melt 241 = .ok (.iload_n 1, 1) := by decide +kernel
theorem dX12_melt_242 : decode cX12_melt 242 = .ok (.iaload, 1) := by decide +kernel
theorem dX12_melt_243 : decode cX12_melt 243 = .ok (.aload_n 0, 1) := by decide +kernel
theorem dX12_melt_244 : decode cX12_melt 244 = .ok (.getfield 44, 3) := by decide +kernel
theorem dX12_melt_247 : decode cX12_melt 247 = .ok (.iload 5, 2) := by decide +kernel
theorem dX12_melt_249 : decode cX12_melt 249 = .ok (.iaload, 1) := by decide +kernel
theorem dX12_melt_250 : decode cX12_melt 250 = .ok (.iadd, 1) := by decide +kernel
theorem dX12_melt_251 : decode cX12_melt 251 = .ok (.bipush 12, 2) := by decide +kernel
theorem dX12_melt_253 : decode cX12_melt 253 = .ok (.if_icmp .le 9, 3) := by decide +kernel
theorem dX12_melt_262 : decode cX12_melt 262 = .ok (.aload_n 0, 1) := by decide +kernel
theorem dX12_melt_263 : decode cX12_melt 263 = .ok (.iload_n 1, 1) := by decide +kernel
theorem dX12_melt_264 : decode cX12_melt 264 = .ok (.iload_n 3, 1) := by decide +kernel
theorem dX12_melt_265 : decode cX12_melt 265 = .ok (.iload 5, 2) := by decide +kernel
theorem dX12_melt_267 : decode cX12_melt 267 = .ok (.invokevirtual 506, 3) := by decide +kernel
theorem dX12_melt_270 : decode cX12_melt 270 = .ok (.istore_n 3, 1) := by decide +kernel
theorem dX12_melt_271 : decode cX12_melt 271 = .ok (.iinc 2 1, 3) := by decide +kernel
theorem dX12_melt_274 : decode cX12_melt 274 = .ok (.goto (-270), 3) := by decide +kernel
set_option maxHeartbeats 2000000 in
set_option maxRecDepth 20000 in
theorem l_me1 (d : Nat) {b : Nat} {σ0 : MS} {r : Int} {post : Option Value → MS → Prop} (hr : 0 ≤ r ∧ r < σ0.1 10) (hR0 : RG σ0) (hit : ITM σ0) (hpar : PAR σ0) (hnam : NAM σ0) (hx_277 : ∀ (tl : Int) (k : Int) (σ : MS) , (Fr [62] [3, 4, 5, 6, 7, 8, 9, 14, 15, 16, 17, 18, 46, 59] [] σ0 σ) → (RG σ) → (GDA σ) → (LAB σ) → (BO 59 σ) → (∀ j, j ≠ r → σ.2.1 9 j = σ0.2.1 9 j) → (XR r σ0 σ) → Tm (d + 7) m_X12_melt 277 b σ [(3, .int (iI k)), (2, .int (iI tl)), (0, .ref b), (1, .int (iI r))] [] post) : ∀ (n : Nat) (tl : Int) (k : Int) (σ : MS) , (Fr [62] [3, 4, 5, 6, 7, 8, 9, 14, 15, 16, 17, 18, 46, 59] [] σ0 σ) → (RG σ) → (0 ≤ k ∧ k ≤ σ.2.1 9 r) → (GDA σ) → (LAB σ) → (BO 59 σ) → (∀ j, j ≠ r → σ.2.1 9 j = σ0.2.1 9 j) → (XR r σ0 σ) → (σ.2.1 9 r - k).toNat = n → Tm (d + 7) m_X12_melt 4 b σ [(3, .int (iI k)), (2, .int (iI tl)), (0, .ref b), (1, .int (iI r))] [] post := by
  intro n
  induction n using Nat.strongRecOn with
  | _ n ih =>
    intro tl k σ hF hR h0 hgd hl hbl hx9 hxr hm
    have e10 : σ.1 10 = σ0.1 10 := hF.1 10 (by decide)
    have hr6 := hgd.1
    have gr := hgd.2 r (by omega) (by omega)
    have gr9 := gr.1
    have gof := gr.2.1.1
    have hpar1 := hpar.fr hF (by decide)
    have hnam1 := hnam.fr hF (by decide)
    have hit1 : ITM σ := fun j a c => by
          by_cases q : j = r
          · rw [q]; omega
          · rw [hx9 j q]; exact hit j a c
    refine tm_iload_n dX12_melt_4 rfl 0 rfl ?_
    refine tm_aload_n dX12_melt_5 rfl 2 rfl ?_
    refine tm_get (k := 9) (v := .ref (b + 1 + 7)) lay_12 dX12_melt_6 (by decide) fl12_32 rfl ?_
    refine tm_iload_n dX12_melt_9 rfl 3 rfl ?_
    refine tm_iald (z := r) (v := σ.2.1 9 r) dX12_melt_10 (show mT[7]? = some (9, 0, 13) from rfl) (by omega) (by omega) (by decide) (rfl) ?_
    have g1 := RG.a hR 9 (r)
    refine tm_icmp_ge (tgt := 277) dX12_melt_11 (by decide) ⟨by omega, by omega⟩ ⟨by omega, by omega⟩ (fun h2 => ?_) (fun h2 => ?_)
    · exact tm_sub [0, 1, 2, 3] rfl (hx_277 (tl) (k) σ (Fr.rfl.trans (Fr.sub hF (by decide) (by decide) (by decide))) hR hgd hl hbl hx9 hxr)
    · refine tm_aload_n dX12_melt_14 rfl 2 rfl ?_
      refine tm_iload_n dX12_melt_15 rfl 3 rfl ?_
      refine tm_iload_n dX12_melt_16 rfl 0 rfl ?_
      refine tm_callV (M := m_X12_melt) (pc := 17) (ix := 203) (M' := m_X12_at) (As := [.int (iI r), .int (iI k)]) (rest := []) dX12_melt_17 ok_X12_at im_X12_at se_X12_at ml12_203 np_X12_at rfl rfl (Nat.le_of_ble_eq_true rfl) (Nat.le_of_ble_eq_true rfl) rfl (c_X12_at (d + 5) (σ := σ) (x := r) (k := k) ) (fun r3 σ4 hp => ?_)
      obtain ⟨v5, rfl, rfl, f6⟩ := hp
      subst f6
      show Tm _ _ 20 b σ [(3, .int (iI k)), (2, .int (iI tl)), (0, .ref b), (1, .int (iI r))] [.int (iI (220 * r + k))] _
      refine tm_istore (L' := [(4, .int (iI (220 * r + k))), (3, .int (iI k)), (2, .int (iI tl)), (0, .ref b), (1, .int (iI r))]) dX12_melt_20 (by decide) rfl ?_
      refine tm_aload_n dX12_melt_22 rfl 3 rfl ?_
      refine tm_get (k := 5) (v := .ref (b + 1 + 3)) lay_12 dX12_melt_23 (by decide) fl12_20 rfl ?_
      refine tm_iload dX12_melt_26 0 rfl ?_
      refine tm_iald (z := 220 * r + k) (v := σ.2.1 5 (220 * r + k)) dX12_melt_28 (show mT[3]? = some (5, 0, 2860) from rfl) (by omega) (by omega) (by decide) (rfl) ?_
      have g7 := RG.a hR 5 (220 * r + k)
      refine tm_istore (L' := [(5, .int (iI (σ.2.1 5 (220 * r + k)))), (4, .int (iI (220 * r + k))), (3, .int (iI k)), (2, .int (iI tl)), (0, .ref b), (1, .int (iI r))]) dX12_melt_29 (by decide) rfl ?_
      refine tm_aload_n dX12_melt_31 rfl 4 rfl ?_
      refine tm_get (k := 3) (v := .ref (b + 1 + 1)) lay_12 dX12_melt_32 (by decide) fl12_13 rfl ?_
      refine tm_iload dX12_melt_35 1 rfl ?_
      refine tm_iald (z := 220 * r + k) (v := σ.2.1 3 (220 * r + k)) dX12_melt_37 (show mT[1]? = some (3, 0, 2860) from rfl) (by omega) (by omega) (by decide) (rfl) ?_
      have g8 := RG.a hR 3 (220 * r + k)
      refine tm_bipush dX12_melt_38 (by decide) ?_
      refine tm_icmp_ne (tgt := 69) dX12_melt_40 (by decide) ⟨by omega, by omega⟩ ⟨by decide, by decide⟩ (fun h9 => ?_) (fun h9 => ?_)
      · refine tm_iinc (q0 := 2) (L' := [(3, .int (iI (k + 1))), (5, .int (iI (σ.2.1 5 (220 * r + k)))), (4, .int (iI (220 * r + k))), (2, .int (iI tl)), (0, .ref b), (1, .int (iI r))]) dX12_melt_69 rfl (by decide) rfl ?_
        refine tm_goto (tgt := 4) dX12_melt_72 (by decide) ?_
        exact tm_sub [0, 3, 4, 5] rfl (ih _ (by first | omega | (rw [e9]; omega)) (tl) (k + 1) σ (Fr.rfl.trans (Fr.sub hF (by decide) (by decide) (by decide))) hR (by omega) hgd hl hbl hx9 hxr rfl)
      · refine tm_iload dX12_melt_43 0 rfl ?_
        refine tm_iload_n dX12_melt_45 rfl 5 rfl ?_
        refine tm_icmp_eq (tgt := 69) dX12_melt_46 (by decide) ⟨by omega, by omega⟩ ⟨by omega, by omega⟩ (fun h10 => ?_) (fun h10 => ?_)
        · refine tm_iinc (q0 := 2) (L' := [(3, .int (iI (k + 1))), (5, .int (iI (σ.2.1 5 (220 * r + k)))), (4, .int (iI (220 * r + k))), (2, .int (iI tl)), (0, .ref b), (1, .int (iI r))]) dX12_melt_69 rfl (by decide) rfl ?_
          refine tm_goto (tgt := 4) dX12_melt_72 (by decide) ?_
          exact tm_sub [0, 3, 4, 5] rfl (ih _ (by first | omega | (rw [e9]; omega)) (tl) (k + 1) σ (Fr.rfl.trans (Fr.sub hF (by decide) (by decide) (by decide))) hR (by omega) hgd hl hbl hx9 hxr rfl)
        · have hcl := gr.call (k := k) (by omega) (by omega)
          have gq := hgd.2 _ hcl.1 hcl.2
          have b9q0 := gq.1
          refine tm_aload_n dX12_melt_49 rfl 4 rfl ?_
          refine tm_iload dX12_melt_50 0 rfl ?_
          refine tm_callV (M := m_X12_melt) (pc := 52) (ix := 500) (M' := m_X12_hasCall) (As := [.int (iI (σ.2.1 5 (220 * r + k)))]) (rest := []) dX12_melt_52 ok_X12_hasCall im_X12_hasCall se_X12_hasCall ml12_500 np_X12_hasCall rfl rfl (Nat.le_of_ble_eq_true rfl) (Nat.le_of_ble_eq_true rfl) rfl (c_X12_hasCall (d + 3) (σ := σ) (r := σ.2.1 5 (220 * r + k)) (by omega) hR hit1) (fun r11 σ12 hp => ?_)
          obtain ⟨v13, rfl, rfl, f14, f15⟩ := hp
          show Tm _ _ 55 b σ [(5, .int (iI (σ.2.1 5 (220 * r + k)))), (4, .int (iI (220 * r + k))), (3, .int (iI k)), (2, .int (iI tl)), (0, .ref b), (1, .int (iI r))] [.int (iI v13)] _
          have hnc := f15
          refine tm_if_ne (tgt := 69) dX12_melt_55 (by decide) ⟨by omega, by omega⟩ (fun h16 => ?_) (fun h16 => ?_)
          · refine tm_iinc (q0 := 2) (L' := [(3, .int (iI (k + 1))), (5, .int (iI (σ.2.1 5 (220 * r + k)))), (4, .int (iI (220 * r + k))), (2, .int (iI tl)), (0, .ref b), (1, .int (iI r))]) dX12_melt_69 rfl (by decide) rfl ?_
            refine tm_goto (tgt := 4) dX12_melt_72 (by decide) ?_
            exact tm_sub [0, 3, 4, 5] rfl (ih _ (by first | omega | (rw [e9]; omega)) (tl) (k + 1) σ (Fr.rfl.trans (Fr.sub hF (by decide) (by decide) (by decide))) hR (by omega) hgd hl hbl hx9 hxr rfl)
          · refine tm_aload_n dX12_melt_58 rfl 4 rfl ?_
            refine tm_iload dX12_melt_59 0 rfl ?_
            refine tm_callV (M := m_X12_melt) (pc := 61) (ix := 407) (M' := m_X12_acts) (As := [.int (iI (σ.2.1 5 (220 * r + k)))]) (rest := []) dX12_melt_61 ok_X12_acts im_X12_acts se_X12_acts ml12_407 np_X12_acts rfl rfl (Nat.le_of_ble_eq_true rfl) (Nat.le_of_ble_eq_true rfl) rfl (c_X12_acts (d + 3) (σ := σ) (r := σ.2.1 5 (220 * r + k)) (by omega) hR hit1) (fun r17 σ18 hp => ?_)
            obtain ⟨v19, rfl, rfl, f20⟩ := hp
            show Tm _ _ 64 b σ [(5, .int (iI (σ.2.1 5 (220 * r + k)))), (4, .int (iI (220 * r + k))), (3, .int (iI k)), (2, .int (iI tl)), (0, .ref b), (1, .int (iI r))] [.int (iI v19)] _
            refine tm_bipush dX12_melt_64 (by decide) ?_
            refine tm_icmp_le (tgt := 75) dX12_melt_66 (by decide) ⟨by omega, by omega⟩ ⟨by decide, by decide⟩ (fun h21 => ?_) (fun h21 => ?_)
            · refine tm_aload_n dX12_melt_75 rfl 4 rfl ?_
              refine tm_iload dX12_melt_76 0 rfl ?_
              refine tm_callV (M := m_X12_melt) (pc := 78) (ix := 475) (M' := m_X12_findLives) (As := [.int (iI (σ.2.1 5 (220 * r + k)))]) (rest := []) dX12_melt_78 ok_X12_findLives im_X12_findLives se_X12_findLives ml12_475 np_X12_findLives rfl rfl (Nat.le_of_ble_eq_true rfl) (Nat.le_of_ble_eq_true rfl) rfl (c2_X12_findLives (d + 1) (σ := σ) (r := σ.2.1 5 (220 * r + k)) (F := (σ.2.1 14 (σ.2.1 5 (220 * r + k)))) (by omega) hR hit1 hpar1 gq.2.2.1 hl hbl gq.2.2.2.2.1) (fun r22 σ23 hp => ?_)
              obtain ⟨rfl, f25, f26, f27, f28, f29, f30⟩ := hp
              show Tm _ _ 81 b σ23 [(5, .int (iI (σ.2.1 5 (220 * r + k)))), (4, .int (iI (220 * r + k))), (3, .int (iI k)), (2, .int (iI tl)), (0, .ref b), (1, .int (iI r))] [] _
              have f1 := f25
              have hl1 := f27
              have hbl1 := f28
              have hlv1 := f30
              have hgd1 := hgd.fr f1 (by decide) (by decide)
              have gr1 := gr.fr f1 (by decide) (by decide)
              have gq1 := gq.fr f1 (by decide) (by decide)
              have hit2 := hit1.fr f1 (by decide)
              have hpar2 := hpar1.fr f1 (by decide)
              have hnam2 := hnam1.fr f1 (by decide)
              have e9 : σ23.2.1 9 = σ.2.1 9 := f1.2.1 9 (by decide)
              have mpa := hpar2 (σ.2.1 5 (220 * r + k)) (by omega) (by omega)
              have mna := hnam2 (σ.2.1 5 (220 * r + k)) (by omega) (by omega)
              have b9q := gq1.1
              have b9r := gr1.1
              have b14q := gq1.2.1.1
              have b14r := gr1.2.1.1
              have hl0 := cnt_up (lcf_0 σ23 (σ.2.1 5 (220 * r + k))) (show 0 ≤ 192 by decide)
              have hr0 := cnt_up (rcf_0 σ23 (σ.2.1 5 (220 * r + k))) (show 0 ≤ (σ23.2.1 9 (σ.2.1 5 (220 * r + k))).toNat by omega)
              have hz1 : cnt (lcf σ23 (σ.2.1 5 (220 * r + k))) 0 = 0 := rfl
              have hz2 : cnt (rcf σ23 (σ.2.1 5 (220 * r + k))) 0 = 0 := rfl
              have hl9 := cnt_le (lcf_1 σ23 (σ.2.1 5 (220 * r + k))) 192
              have hr9 := cnt_le (rcf_1 σ23 (σ.2.1 5 (220 * r + k))) (σ23.2.1 9 (σ.2.1 5 (220 * r + k))).toNat
              have mpa0 := hpar (σ.2.1 5 (220 * r + k)) (by omega) (by omega)
              have mna0 := hnam (σ.2.1 5 (220 * r + k)) (by omega) (by omega)
              have e11q : σ23.2.1 11 (σ.2.1 5 (220 * r + k)) = σ0.2.1 11 (σ.2.1 5 (220 * r + k)) := by rw [f1.2.1 11 (by decide), hF.2.1 11 (by decide)]
              have e12q : σ23.2.1 12 (σ.2.1 5 (220 * r + k)) = σ0.2.1 12 (σ.2.1 5 (220 * r + k)) := by rw [f1.2.1 12 (by decide), hF.2.1 12 (by decide)]
              have e9r : σ23.2.1 9 r = σ.2.1 9 r := by rw [e9]
              have e9q : σ23.2.1 9 (σ.2.1 5 (220 * r + k)) = σ.2.1 9 (σ.2.1 5 (220 * r + k)) := by rw [e9]
              have e14r : σ23.2.1 14 r = σ.2.1 14 r := by rw [f1.2.1 14 (by decide)]
              have e14q : σ23.2.1 14 (σ.2.1 5 (220 * r + k)) = σ.2.1 14 (σ.2.1 5 (220 * r + k)) := by rw [f1.2.1 14 (by decide)]
              refine tm_aload_n dX12_melt_81 rfl 4 rfl ?_
              refine tm_get (k := 9) (v := .ref (b + 1 + 7)) lay_12 dX12_melt_82 (by decide) fl12_32 rfl ?_
              refine tm_iload_n dX12_melt_85 rfl 5 rfl ?_
              refine tm_iald (z := r) (v := σ.2.1 9 r) dX12_melt_86 (show mT[7]? = some (9, 0, 13) from rfl) (by omega) (by omega) (by decide) (ra_F f25 (by decide) (rfl)) ?_
              have g31 := RG.a hR 9 (r)
              refine tm_iconst dX12_melt_87 ?_
              refine tm_iadd dX12_melt_88 ?_
              refine tm_aload_n dX12_melt_89 rfl 4 rfl ?_
              refine tm_get (k := 11) (v := .ref (b + 1 + 8)) lay_12 dX12_melt_90 (by decide) fl12_35 rfl ?_
              refine tm_iload dX12_melt_93 0 rfl ?_
              refine tm_iald (z := σ.2.1 5 (220 * r + k)) (v := σ0.2.1 11 (σ.2.1 5 (220 * r + k))) dX12_melt_95 (show mT[8]? = some (11, 0, 6) from rfl) (by omega) (by omega) (by decide) (ra_F f25 (by decide) (ra_F hF (by decide) (rfl))) ?_
              have g32 := RG.a hR0 11 (σ.2.1 5 (220 * r + k))
              refine tm_iadd dX12_melt_96 ?_
              refine tm_aload_n dX12_melt_97 rfl 4 rfl ?_
              refine tm_get (k := 12) (v := .ref (b + 1 + 9)) lay_12 dX12_melt_98 (by decide) fl12_38 rfl ?_
              refine tm_iload dX12_melt_101 0 rfl ?_
              refine tm_iald (z := σ.2.1 5 (220 * r + k)) (v := σ0.2.1 12 (σ.2.1 5 (220 * r + k))) dX12_melt_103 (show mT[9]? = some (12, 0, 6) from rfl) (by omega) (by omega) (by decide) (ra_F f25 (by decide) (ra_F hF (by decide) (rfl))) ?_
              have g33 := RG.a hR0 12 (σ.2.1 5 (220 * r + k))
              refine tm_iadd dX12_melt_104 ?_
              refine tm_aload_n dX12_melt_105 rfl 4 rfl ?_
              refine tm_get (k := 9) (v := .ref (b + 1 + 7)) lay_12 dX12_melt_106 (by decide) fl12_32 rfl ?_
              refine tm_iload dX12_melt_109 0 rfl ?_
              refine tm_iald (z := σ.2.1 5 (220 * r + k)) (v := σ.2.1 9 (σ.2.1 5 (220 * r + k))) dX12_melt_111 (show mT[7]? = some (9, 0, 13) from rfl) (by omega) (by omega) (by decide) (ra_F f25 (by decide) (rfl)) ?_
              have g34 := RG.a hR 9 (σ.2.1 5 (220 * r + k))
              refine tm_iadd dX12_melt_112 ?_
              refine tm_istore (L' := [(6, .int (iI (((((σ.2.1 9 r) + 2) + (σ0.2.1 11 (σ.2.1 5 (220 * r + k)))) + (σ0.2.1 12 (σ.2.1 5 (220 * r + k)))) + (σ.2.1 9 (σ.2.1 5 (220 * r + k)))))), (5, .int (iI (σ.2.1 5 (220 * r + k)))), (4, .int (iI (220 * r + k))), (3, .int (iI k)), (2, .int (iI tl)), (0, .ref b), (1, .int (iI r))]) dX12_melt_113 (by decide) rfl ?_
              refine tm_iconst dX12_melt_115 ?_
              refine tm_istore (L' := [(7, .int (iI 0)), (6, .int (iI (((((σ.2.1 9 r) + 2) + (σ0.2.1 11 (σ.2.1 5 (220 * r + k)))) + (σ0.2.1 12 (σ.2.1 5 (220 * r + k)))) + (σ.2.1 9 (σ.2.1 5 (220 * r + k)))))), (5, .int (iI (σ.2.1 5 (220 * r + k)))), (4, .int (iI (220 * r + k))), (3, .int (iI k)), (2, .int (iI tl)), (0, .ref b), (1, .int (iI r))]) dX12_melt_116 (by decide) rfl ?_
              refine tm_sub [0, 1, 2, 3, 4, 5, 6, 7] rfl (l_me2 (d + 5) (σ := σ23) (r := r) (k := k) (q := σ.2.1 5 (220 * r + k)) (tl := tl) (W0 := ((((σ.2.1 9 r) + 2) + (σ0.2.1 11 (σ.2.1 5 (220 * r + k)))) + (σ0.2.1 12 (σ.2.1 5 (220 * r + k)))) + (σ.2.1 9 (σ.2.1 5 (220 * r + k)))) (by omega) f26 hpar2 hbl1 (fun w40 g41 f39 => ?_) _ (((((σ.2.1 9 r) + 2) + (σ0.2.1 11 (σ.2.1 5 (220 * r + k)))) + (σ0.2.1 12 (σ.2.1 5 (220 * r + k)))) + (σ.2.1 9 (σ.2.1 5 (220 * r + k)))) (0) (by omega) (by rw [show (0 : Int).toNat = 0 from rfl, hz1]; omega) rfl)
              show Tm _ _ 163 b σ23 [(6, .int (iI w40)), (5, .int (iI (σ.2.1 5 (220 * r + k)))), (4, .int (iI (220 * r + k))), (3, .int (iI k)), (2, .int (iI tl)), (0, .ref b), (1, .int (iI r))] [] _
              have hw2 := f39
              refine tm_iconst dX12_melt_163 ?_
              refine tm_istore (L' := [(7, .int (iI 0)), (6, .int (iI w40)), (5, .int (iI (σ.2.1 5 (220 * r + k)))), (4, .int (iI (220 * r + k))), (3, .int (iI k)), (2, .int (iI tl)), (0, .ref b), (1, .int (iI r))]) dX12_melt_164 (by decide) rfl ?_
              refine tm_sub [0, 1, 2, 3, 4, 5, 6, 7] rfl (l_me3 (d + 5) (σ := σ23) (r := r) (k := k) (q := σ.2.1 5 (220 * r + k)) (tl := tl) (W0 := w40) (by omega) f26 (by omega) (fun w47 i48 f46 => ?_) _ (w40) (0) (by omega) (by rw [show (0 : Int).toNat = 0 from rfl, hz2]; omega) rfl)
              show Tm _ _ 212 b σ23 [(6, .int (iI w47)), (5, .int (iI (σ.2.1 5 (220 * r + k)))), (4, .int (iI (220 * r + k))), (3, .int (iI k)), (2, .int (iI tl)), (0, .ref b), (1, .int (iI r))] [] _
              have hw3 := f46
              refine tm_iload dX12_melt_212 0 rfl ?_
              refine tm_sipush dX12_melt_214 (by decide) ?_
              refine tm_icmp_gt (tgt := 256) dX12_melt_217 (by decide) ⟨by omega, by omega⟩ ⟨by decide, by decide⟩ (fun h49 => ?_) (fun h49 => ?_)
              · refine tm_iinc (q0 := 3) (L' := [(3, .int (iI (k + 1))), (6, .int (iI w47)), (5, .int (iI (σ.2.1 5 (220 * r + k)))), (4, .int (iI (220 * r + k))), (2, .int (iI tl)), (0, .ref b), (1, .int (iI r))]) dX12_melt_256 rfl (by decide) rfl ?_
                refine tm_goto (tgt := 4) dX12_melt_259 (by decide) ?_
                exact tm_sub [0, 4, 5, 6] rfl (ih _ (by first | omega | (rw [e9]; omega)) (tl) (k + 1) σ23 ((Fr.rfl.trans (Fr.sub hF (by decide) (by decide) (by decide))).trans (Fr.sub f25 (by decide) (by decide) (by decide))) f26 (by rw [e9]; omega) hgd1 hl1 hbl1 (fun j hj => by rw [e9]; exact hx9 j hj) (hxr.trans (XO.xr (XO.fr f1 (by decide)))) rfl)
              · refine tm_aload_n dX12_melt_220 rfl 5 rfl ?_
                refine tm_iload_n dX12_melt_221 rfl 6 rfl ?_
                refine tm_callV (M := m_X12_melt) (pc := 222) (ix := 410) (M' := m_X12_registers) (As := [.int (iI r)]) (rest := []) dX12_melt_222 ok_X12_registers im_X12_registers se_X12_registers ml12_410 np_X12_registers rfl rfl (Nat.le_of_ble_eq_true rfl) (Nat.le_of_ble_eq_true rfl) rfl (c_X12_registers (d + 2) (σ := σ23) (r := r) (by omega) f26 gr1.2.1 hnam2 hit2 hpar2 gr1.2.2.1) (fun r50 σ51 hp => ?_)
                obtain ⟨v52, rfl, rfl, f53, f54, f55⟩ := hp
                show Tm _ _ 225 b σ23 [(6, .int (iI w47)), (5, .int (iI (σ.2.1 5 (220 * r + k)))), (4, .int (iI (220 * r + k))), (3, .int (iI k)), (2, .int (iI tl)), (0, .ref b), (1, .int (iI r))] [.int (iI v52)] _
                have hRN1 := f54
                have hRI1 := f55
                refine tm_aload_n dX12_melt_225 rfl 5 rfl ?_
                refine tm_iload dX12_melt_226 1 rfl ?_
                refine tm_callV (M := m_X12_melt) (pc := 228) (ix := 410) (M' := m_X12_registers) (As := [.int (iI (σ.2.1 5 (220 * r + k)))]) (rest := [.int (iI v52)]) dX12_melt_228 ok_X12_registers im_X12_registers se_X12_registers ml12_410 np_X12_registers rfl rfl (Nat.le_of_ble_eq_true rfl) (Nat.le_of_ble_eq_true rfl) rfl (c_X12_registers (d + 2) (σ := σ23) (r := σ.2.1 5 (220 * r + k)) (by omega) f26 gq1.2.1 hnam2 hit2 hpar2 gq1.2.2.1) (fun r56 σ57 hp => ?_)
                obtain ⟨v58, rfl, rfl, f59, f60, f61⟩ := hp
                show Tm _ _ 231 b σ23 [(6, .int (iI w47)), (5, .int (iI (σ.2.1 5 (220 * r + k)))), (4, .int (iI (220 * r + k))), (3, .int (iI k)), (2, .int (iI tl)), (0, .ref b), (1, .int (iI r))] [.int (iI v58), .int (iI v52)] _
                have hrn1 := f60
                have hri1 := f61
                have hri0 : RGI σ (σ.2.1 5 (220 * r + k)) v58 (σ.2.1 9 (σ.2.1 5 (220 * r + k))) := by have h := RGI_fr f1 f61; rw [e9] at h; exact h
                have hnc1 := hnc (by omega)
                rw [← f1.2.1 3 (by decide), ← f1.2.1 9 (by decide)] at hnc1
                refine tm_iadd dX12_melt_231 ?_
                refine tm_bipush dX12_melt_232 (by decide) ?_
                refine tm_icmp_gt (tgt := 256) dX12_melt_234 (by decide) ⟨by omega, by omega⟩ ⟨by decide, by decide⟩ (fun h62 => ?_) (fun h62 => ?_)
                · refine tm_iinc (q0 := 3) (L' := [(3, .int (iI (k + 1))), (6, .int (iI w47)), (5, .int (iI (σ.2.1 5 (220 * r + k)))), (4, .int (iI (220 * r + k))), (2, .int (iI tl)), (0, .ref b), (1, .int (iI r))]) dX12_melt_256 rfl (by decide) rfl ?_
                  refine tm_goto (tgt := 4) dX12_melt_259 (by decide) ?_
                  exact tm_sub [0, 4, 5, 6] rfl (ih _ (by first | omega | (rw [e9]; omega)) (tl) (k + 1) σ23 ((Fr.rfl.trans (Fr.sub hF (by decide) (by decide) (by decide))).trans (Fr.sub f25 (by decide) (by decide) (by decide))) f26 (by rw [e9]; omega) hgd1 hl1 hbl1 (fun j hj => by rw [e9]; exact hx9 j hj) (hxr.trans (XO.xr (XO.fr f1 (by decide)))) rfl)
                · refine tm_aload_n dX12_melt_237 rfl 5 rfl ?_
                  refine tm_get (k := 14) (v := .ref (b + 1 + 11)) lay_12 dX12_melt_238 (by decide) fl12_44 rfl ?_
                  refine tm_iload_n dX12_melt_241 rfl 6 rfl ?_
                  refine tm_iald (z := r) (v := σ.2.1 14 r) dX12_melt_242 (show mT[11]? = some (14, 0, 6) from rfl) (by omega) (by omega) (by decide) (ra_F f25 (by decide) (rfl)) ?_
                  have g63 := RG.a hR 14 (r)
                  refine tm_aload_n dX12_melt_243 rfl 5 rfl ?_
                  refine tm_get (k := 14) (v := .ref (b + 1 + 11)) lay_12 dX12_melt_244 (by decide) fl12_44 rfl ?_
                  refine tm_iload dX12_melt_247 1 rfl ?_
                  refine tm_iald (z := σ.2.1 5 (220 * r + k)) (v := σ.2.1 14 (σ.2.1 5 (220 * r + k))) dX12_melt_249 (show mT[11]? = some (14, 0, 6) from rfl) (by omega) (by omega) (by decide) (ra_F f25 (by decide) (rfl)) ?_
                  have g64 := RG.a hR 14 (σ.2.1 5 (220 * r + k))
                  refine tm_iadd dX12_melt_250 ?_
                  refine tm_bipush dX12_melt_251 (by decide) ?_
                  refine tm_icmp_le (tgt := 262) dX12_melt_253 (by decide) ⟨by omega, by omega⟩ ⟨by decide, by decide⟩ (fun h65 => ?_) (fun h65 => ?_)
                  · refine tm_aload_n dX12_melt_262 rfl 5 rfl ?_
                    refine tm_iload_n dX12_melt_263 rfl 6 rfl ?_
                    refine tm_iload_n dX12_melt_264 rfl 3 rfl ?_
                    refine tm_iload dX12_melt_265 1 rfl ?_
                    refine tm_callV (M := m_X12_melt) (pc := 267) (ix := 506) (M' := m_X12_meltOne) (As := [.int (iI r), .int (iI k), .int (iI (σ.2.1 5 (220 * r + k)))]) (rest := []) dX12_melt_267 ok_X12_meltOne im_X12_meltOne se_X12_meltOne ml12_506 np_X12_meltOne rfl rfl (Nat.le_of_ble_eq_true rfl) (Nat.le_of_ble_eq_true rfl) rfl (c_X12_meltOne (d) (σ := σ23) (r := r) (k := k) (q := σ.2.1 5 (220 * r + k)) f26 (by omega) hit2 hpar2 hnam2 (by omega) gr1.2.2.1 gq1.2.2.1 gr1.2.1 gq1.2.1 gq1.2.2.2.1 gr1.2.2.2.2.2.1 gq1.2.2.2.2.2.1 gr1.2.2.2.2.1 gq1.2.2.2.2.1 gr1.2.2.2.2.2.2.2.1 gq1.2.2.2.2.2.2.2.1 gr1.2.2.2.2.2.2.1 gq1.2.2.2.2.2.2.1 hnc1 (by rw [f1.2.1 3 (by decide)]; omega) hRN1 hRI1 hrn1 hri1 (by omega) (by omega) hbl1 (fun g a c e => (hlv1 0 g (by omega) (by omega) a c (by rw [Int.mul_zero, Int.zero_add]; exact e)).lt hri0) (by omega)) (fun r66 σ67 hp => ?_)
                    obtain ⟨v68, rfl, f69, f70, f71, f72, f73, f74, f75, f76, f77, f78, f79, f80⟩ := hp
                    show Tm _ _ 270 b σ67 [(6, .int (iI w47)), (5, .int (iI (σ.2.1 5 (220 * r + k)))), (4, .int (iI (220 * r + k))), (3, .int (iI k)), (2, .int (iI tl)), (0, .ref b), (1, .int (iI r))] [.int (iI v68)] _
                    have f2 := f69
                    have xf := f78
                    have hv := f80
                    have h10 := f79
                    have e10 : σ67.1 10 = σ23.1 10 := f2.1 10 (by decide)
                    have e11 : σ67.2.1 11 = σ23.2.1 11 := f2.2.1 11 (by decide)
                    have e12 : σ67.2.1 12 = σ23.2.1 12 := f2.2.1 12 (by decide)
                    have grn : GDR σ67 r := ⟨⟨h10.1.2, h10.2⟩, f76, f74, by unfold FR0; rw [(xf.1 (12 * r + 0) (by omega)).1]; exact gr1.2.2.2.1, f72, f71, f77, f73, by rw [e11, e12]; exact gr1.2.2.2.2.2.2.2.2⟩
                    have hgd2 : GDA σ67 := GDA.of hgd1 (r := r) ⟨by omega, by rw [f1.1 10 (by decide)]; omega⟩ hnam2 f75 (fun j hj => (xf.2.2 j hj).2) (fun j hj => (xf.2.2 j hj).1) e11 e12 e10 (fun y hy => ⟨(xf.1 y (by omega)).1, (xf.1 y (by omega)).2.1⟩) (fun z hz => xf.2.1 z (by omega)) grn
                    have hl2 := hl1.fr f2 (by decide)
                    have hbl2 := hbl1.fr f2 (by decide)
                    have hxr2 := (hxr.trans (XO.xr (XO.fr f1 (by decide)))).trans f75
                    have h92 : ∀ j, j ≠ r → σ67.2.1 9 j = σ0.2.1 9 j := fun j hj => by rw [(xf.2.2 j hj).2, e9]; exact hx9 j hj
                    refine tm_istore_n (L' := [(3, .int (iI v68)), (6, .int (iI w47)), (5, .int (iI (σ.2.1 5 (220 * r + k)))), (4, .int (iI (220 * r + k))), (2, .int (iI tl)), (0, .ref b), (1, .int (iI r))]) dX12_melt_270 rfl (by decide) rfl ?_
                    refine tm_iinc (q0 := 4) (L' := [(2, .int (iI (tl + 1))), (3, .int (iI v68)), (6, .int (iI w47)), (5, .int (iI (σ.2.1 5 (220 * r + k)))), (4, .int (iI (220 * r + k))), (0, .ref b), (1, .int (iI r))]) dX12_melt_271 rfl (by decide) rfl ?_
                    refine tm_goto (tgt := 4) dX12_melt_274 (by decide) ?_
                    exact tm_sub [1, 0, 5, 6] rfl (ih _ (by first | omega | (rw [e9]; omega)) (tl + 1) (v68) σ67 (((Fr.rfl.trans (Fr.sub hF (by decide) (by decide) (by decide))).trans (Fr.sub f25 (by decide) (by decide) (by decide))).trans (Fr.sub f69 (by decide) (by decide) (by decide))) f70 (by omega) hgd2 hl2 hbl2 h92 hxr2 rfl)
                  · refine tm_iinc (q0 := 3) (L' := [(3, .int (iI (k + 1))), (6, .int (iI w47)), (5, .int (iI (σ.2.1 5 (220 * r + k)))), (4, .int (iI (220 * r + k))), (2, .int (iI tl)), (0, .ref b), (1, .int (iI r))]) dX12_melt_256 rfl (by decide) rfl ?_
                    refine tm_goto (tgt := 4) dX12_melt_259 (by decide) ?_
                    exact tm_sub [0, 4, 5, 6] rfl (ih _ (by first | omega | (rw [e9]; omega)) (tl) (k + 1) σ23 ((Fr.rfl.trans (Fr.sub hF (by decide) (by decide) (by decide))).trans (Fr.sub f25 (by decide) (by decide) (by decide))) f26 (by rw [e9]; omega) hgd1 hl1 hbl1 (fun j hj => by rw [e9]; exact hx9 j hj) (hxr.trans (XO.xr (XO.fr f1 (by decide)))) rfl)
            · refine tm_iinc (q0 := 2) (L' := [(3, .int (iI (k + 1))), (5, .int (iI (σ.2.1 5 (220 * r + k)))), (4, .int (iI (220 * r + k))), (2, .int (iI tl)), (0, .ref b), (1, .int (iI r))]) dX12_melt_69 rfl (by decide) rfl ?_
              refine tm_goto (tgt := 4) dX12_melt_72 (by decide) ?_
              exact tm_sub [0, 3, 4, 5] rfl (ih _ (by first | omega | (rw [e9]; omega)) (tl) (k + 1) σ (Fr.rfl.trans (Fr.sub hF (by decide) (by decide) (by decide))) hR (by omega) hgd hl hbl hx9 hxr rfl)
end
section
theorem dX12_melt_0 : decode cX12_melt 0 = .ok (.iconst 0, 1) := by decide +kernel
theorem dX12_melt_1 : decode cX12_melt 1 = .ok (.istore_n 2, 1) := by decide +kernel
theorem dX12_melt_2 : decode cX12_melt 2 = .ok (.iconst 0, 1) := by decide +kernel
theorem dX12_melt_3 : decode cX12_melt 3 = .ok (.istore_n 3, 1) := by decide +kernel
theorem dX12_melt_277 : decode cX12_melt 277 = .ok (.iload_n 2, 1) := by decide +kernel
theorem dX12_melt_278 : decode cX12_melt 278 = .ok (.ireturn, 1) := by decide +kernel
set_option maxHeartbeats 2000000 in
set_option maxRecDepth 20000 in
theorem c_X12_melt (d : Nat) {b : Nat} {σ : MS} {r : Int} (hr : 0 ≤ r ∧ r < σ.1 10) (hR : RG σ) (hit : ITM σ) (hpar : PAR σ) (hnam : NAM σ) (hgd : GDA σ) (hl : LAB σ) (hbl : BO 59 σ) : Tm (d + 7) m_X12_melt 0 b σ [(0, .ref b), (1, .int (iI r))] [] (fun ro σ2 => ∃ v : Int, ro = some (.int (iI v)) ∧ (Fr [62] [3, 4, 5, 6, 7, 8, 9, 14, 15, 16, 17, 18, 46, 59] [] σ σ2) ∧ (RG σ2) ∧ (GDA σ2) ∧ (LAB σ2) ∧ (BO 59 σ2) ∧ (∀ j, j ≠ r → σ2.2.1 9 j = σ.2.1 9 j) ∧ (XR r σ σ2)) := by
  have gr := (hgd.2 r hr.1 hr.2).1
  refine tm_iconst dX12_melt_0 ?_
  refine tm_istore_n (L' := [(2, .int (iI 0)), (0, .ref b), (1, .int (iI r))]) dX12_melt_1 rfl (by decide) rfl ?_
  refine tm_iconst dX12_melt_2 ?_
  refine tm_istore_n (L' := [(3, .int (iI 0)), (2, .int (iI 0)), (0, .ref b), (1, .int (iI r))]) dX12_melt_3 rfl (by decide) rfl ?_
  refine tm_sub [0, 1, 2, 3] rfl (l_me1 (d) (σ0 := σ) (r := r) hr hR hit hpar hnam (fun tl11 k12 σ13 F4 R5 f6 f7 f8 f9 f10 => ?_) _ (0) (0) σ Fr.rfl hR (by omega) hgd hl hbl (fun _ _ => rfl) XR.rfl rfl)
  show Tm _ _ 277 b σ13 [(3, .int (iI k12)), (2, .int (iI tl11)), (0, .ref b), (1, .int (iI r))] [] _
  refine tm_iload_n dX12_melt_277 rfl 1 rfl ?_
  exact tm_iret rfl dX12_melt_278 (⟨_, rfl, (Fr.rfl.trans (Fr.sub F4 (by decide) (by decide) (by decide))), R5, f6, f7, f8, f9, f10⟩)
end
