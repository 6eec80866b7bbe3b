theorem msg_copy {ρ σ : MS} {FI lf : Int → Int} {q F LB out g0 i g d ak a : Int} (h : MSG ρ σ FI lf q F LB out g0 (σ.1 62) i g) (h0 : 0 ≤ σ.1 62) (hg : 0 ≤ g ∧ g < F) (hd : 0 ≤ d ∧ d < 192) (ha : ak = 0 ∨ ak = 1 ∨ (ak = 2 ∧ 0 ≤ a ∧ a < 192)) : MSG ρ (fAdd 0 d 0 ak a σ) FI lf q F LB out g0 ((fAdd 0 d 0 ak a σ).1 62) i g := by
  rw [fAdd_n]
  exact h.neu h0 hg fAdd_off (fAdd_oki (by decide) (fun _ => hd) (fun w => by omega) (fun w => by omega) (fun w => by omega) (by omega)) (by rw [fAdd_at.1]; decide)
theorem msg_bind {ρ σ : MS} {FI lf : Int → Int} {q F LB out g0 i g n f w a z : Int} (h : MSG ρ σ FI lf q F LB out g0 (σ.1 62) i g) (h0 : 0 ≤ σ.1 62) (hg : 0 ≤ g ∧ g < F) (hn : 0 ≤ n ∧ n < 12) (hf : 0 ≤ f ∧ f < F) (hw : w = 1 ∨ (w = 2 ∧ 0 ≤ a ∧ a < 192)) (hz : z = 2640 + σ.1 62) : MSG ρ (sA 6 z w (fAdd 12 n f w a σ)) FI lf q F LB out g0 ((sA 6 z w (fAdd 12 n f w a σ)).1 62) i g := by
  subst hz
  rw [show (sA 6 (2640 + σ.1 62) w (fAdd 12 n f w a σ)).1 62 = σ.1 62 + 1 from fAdd_n (k := 12) (d := n) (o := f) (ak := w) (a := a) (σ := σ)]
  exact h.neu h0 hg fAddB_off (fAddB_oki hn hf hw) (Or.inr (Or.inr (ra_o (by decide) fAdd_at.1)))
theorem msg_start {ρ σ : MS} {FI lf frq lfq : Int → Int} {q F LB out g0 : Int} (m : MQQ ρ q F LB out g0 FI lf frq lfq) (hg : 0 ≤ g0 ∧ g0 < F) (hi : ∀ y, IEQ ρ y σ y) (h11 : σ.2.1 11 = ρ.2.1 11) (h0 : σ.1 62 = 0) : MSG ρ (fAdd 14 F 0 0 0 σ) FI lf q (F + ρ.2.1 14 q) LB out g0 ((fAdd 14 F 0 0 0 σ).1 62) 0 F := by
  obtain ⟨c, lx, m1, m2, m3, m4, m5, m6, m7, m8⟩ := m
  have e : MSG ρ σ FI lf q (F + ρ.2.1 14 q) LB out g0 0 0 g0 := ⟨⟨fun _ => g0, rfl, rfl, fun j a b => by omega, fun j a b => by omega, fun j a b => by omega⟩, fun j a b => by omega, fun j a b => by omega, fun j a b => by omega, fun j a b => by omega, fun y _ => hi y, h11⟩
  have at_ := fAdd_at (k := 14) (d := F) (o := 0) (ak := 0) (a := 0) (σ := σ)
  have off := fAdd_off (k := 14) (d := F) (o := 0) (ak := 0) (a := 0) (σ := σ)
  have ok := fAdd_oki (k := 14) (d := F) (o := 0) (ak := 0) (a := 0) (F := F + ρ.2.1 14 q) (σ := σ) (by decide) (fun w => by omega) (fun w => by omega) (fun w => by omega) (fun w => by omega) (by omega)
  rw [h0] at at_ off ok
  rw [fAdd_n, h0]
  exact e.put (g' := F) (by omega) (by omega) off ok (by omega) (fun w => by omega) (fun w => by omega) (fun _ => ⟨fun _ => ⟨by rw [at_.2.1]; exact m3, at_.2.1.symm, by omega⟩, fun w => by omega, fun w _ => absurd at_.1 w⟩)
theorem msg_end {ρ σ : MS} {q F LB out g0 a : Int} {FI lf frq lfq : Int → Int} (m : MQQ ρ q F LB out g0 FI lf frq lfq) (h : MSG ρ σ FI lf q (F + ρ.2.1 14 q) LB out g0 (σ.1 62) (ρ.2.1 9 q) (Gq ρ q F frq (ρ.2.1 9 q))) (ha : 0 ≤ σ.1 62) (hl : 0 ≤ LB ∧ LB ≤ out ∧ out < 4096) (hg0 : 0 ≤ g0 ∧ g0 < F) :
    MSG ρ (fAdd 15 F 0 0 0 (fAdd 13 out 0 0 0 σ)) FI lf q (F + ρ.2.1 14 q) LB out g0 (σ.1 62 + 1 + 1) (ρ.2.1 9 q) g0 ∧ LX (σ.1 62 + 1 + 1) (fun j => (fAdd 15 F 0 0 0 (fAdd 13 out 0 0 0 σ)).2.1 3 (2640 + j)) (fun j => (fAdd 15 F 0 0 0 (fAdd 13 out 0 0 0 σ)).2.1 4 (2640 + j)) := by
  have at1 := fAdd_at (k := 13) (d := out) (o := 0) (ak := 0) (a := 0) (σ := σ)
  have at2 := fAdd_at (k := 15) (d := F) (o := 0) (ak := 0) (a := 0) (σ := fAdd 13 out 0 0 0 σ)
  have off2 := fAdd_off (k := 15) (d := F) (o := 0) (ak := 0) (a := 0) (σ := fAdd 13 out 0 0 0 σ)
  have m8 := m.2.2.2.2.2.2.2.2.2
  have ok2 := fAdd_oki (k := 15) (d := F) (o := 0) (ak := 0) (a := 0) (F := F + ρ.2.1 14 q) (σ := fAdd 13 out 0 0 0 σ) (by decide) (fun w => by omega) (fun w => by omega) (fun w => by omega) (fun w => by omega) (by omega)
  rw [fAdd_n] at at2 off2 ok2
  exact melt_end m h ha hl.2.1 hg0 fAdd_off (fAdd_oki (by decide) (fun w => by omega) (fun w => by omega) (fun w => by omega) (fun w => by omega) (by omega)) at1.1 at1.2.1 off2 ok2 at2.1 at2.2.1
/-! counts -/
def cnt (f : Int → Int) : Nat → Int
  | 0 => 0
  | n + 1 => cnt f n + f n
theorem cnt_up {f : Int → Int} (hf : ∀ i, 0 ≤ f i) {n m : Nat} (h : n ≤ m) : cnt f n ≤ cnt f m := by
  induction m with
  | zero => rw [show n = 0 by omega]; exact Int.le_refl _
  | succ m ih =>
    by_cases e : n = m + 1
    · rw [e]; exact Int.le_refl _
    · have := ih (by omega)
      have := hf m
      show _ ≤ cnt f m + f m
      omega
theorem cnt_s {f : Int → Int} {k : Int} (h : 0 ≤ k) : cnt f (k + 1).toNat = cnt f k.toNat + f k := by
  rw [show (k + 1).toNat = k.toNat + 1 by omega]
  show cnt f k.toNat + f (k.toNat : Int) = _
  rw [show (k.toNat : Int) = k by omega]
def PMQ (ρ : MS) (q g : Int) : Prop := ∃ j, 0 ≤ j ∧ j < ρ.2.1 11 q ∧ ρ.2.1 18 (144 * q + j) = g
/-- lives at the beginning and is no parameter's -/
def lcf (ρ : MS) (q g : Int) : Int := if ρ.2.1 59 g = 1 ∧ ¬ ((0 < ρ.2.1 11 q ∧ ρ.2.1 18 (144 * q + 0) = g) ∨ (1 < ρ.2.1 11 q ∧ ρ.2.1 18 (144 * q + 1) = g) ∨ (2 < ρ.2.1 11 q ∧ ρ.2.1 18 (144 * q + 2) = g) ∨ (3 < ρ.2.1 11 q ∧ ρ.2.1 18 (144 * q + 3) = g)) then 1 else 0
theorem lcf_0 (ρ : MS) (q g : Int) : 0 ≤ lcf ρ q g := by unfold lcf; split <;> decide
theorem lcf_y {ρ : MS} {q g : Int} (h : ρ.2.1 59 g = 1) (h2 : ¬ ∃ j, 0 ≤ j ∧ j < ρ.2.1 11 q ∧ ρ.2.1 18 (144 * q + j) = g) : lcf ρ q g = 1 := if_pos ⟨h, fun w => by
  rcases w with w | w | w | w
  · exact h2 ⟨0, by decide, w⟩
  · exact h2 ⟨1, by decide, w⟩
  · exact h2 ⟨2, by decide, w⟩
  · exact h2 ⟨3, by decide, w⟩⟩
theorem lcf_n {ρ : MS} {q g : Int} (h : ρ.2.1 59 g ≠ 1) : lcf ρ q g = 0 := if_neg (fun w => h w.1)
theorem lcf_p {ρ : MS} {q g : Int} (hp : ρ.2.1 11 q ≤ 4) (h : ∃ j, 0 ≤ j ∧ j < ρ.2.1 11 q ∧ ρ.2.1 18 (144 * q + j) = g) : lcf ρ q g = 0 := if_neg (fun w => by
  obtain ⟨j, j0, j1, j2⟩ := h
  have c : j = 0 ∨ j = 1 ∨ j = 2 ∨ j = 3 := by omega
  apply w.2
  rcases c with e | e | e | e
  · subst e; exact Or.inl ⟨j1, j2⟩
  · subst e; exact Or.inr (Or.inl ⟨j1, j2⟩)
  · subst e; exact Or.inr (Or.inr (Or.inl ⟨j1, j2⟩))
  · subst e; exact Or.inr (Or.inr (Or.inr ⟨j1, j2⟩)))
def rcf (ρ : MS) (q i : Int) : Int := if ρ.2.1 3 (220 * q + i) = 7 then 1 else 0
theorem rcf_0 (ρ : MS) (q g : Int) : 0 ≤ rcf ρ q g := by unfold rcf; split <;> decide
/-- a number of 32 bits -/
def wr (z : Int) : Int := (iI z).toInt
theorem wr_eq (z : Int) : iI (wr z) = iI z := iI_self _
theorem wr_rng (z : Int) : -2147483648 ≤ wr z ∧ wr z ≤ 2147483647 := inR_toInt _
theorem wr_id {z : Int} (h : inR z) : wr z = z := iI_toInt h
/-- frames of q are put behind those of r -/
def FRM (ρ σ : MS) (r q F g0 base j : Int) : Prop :=
  (∀ u, 0 ≤ u → u < j → σ.2.1 15 (12 * r + F + u) = ρ.2.1 15 (12 * q + u) ∧ (u = 0 → σ.2.1 16 (12 * r + F + u) = g0) ∧ (u ≠ 0 → σ.2.1 16 (12 * r + F + u) = ρ.2.1 16 (12 * q + u) + F) ∧ ∀ n, 0 ≤ n → n < 12 → σ.2.1 18 (144 * r + 12 * (F + u) + n) = wr (ρ.2.1 18 (144 * q + 12 * u + n) + base)) ∧
  (∀ y, (y < 12 * r + F ∨ 12 * r + 12 ≤ y) → σ.2.1 15 y = ρ.2.1 15 y ∧ σ.2.1 16 y = ρ.2.1 16 y ∧ σ.2.1 17 y = ρ.2.1 17 y) ∧ (∀ z, (z < 144 * r + 12 * F ∨ 144 * r + 144 ≤ z) → σ.2.1 18 z = ρ.2.1 18 z)
theorem FRM.start {ρ σ : MS} {r q F g0 base : Int} (h15 : σ.2.1 15 = ρ.2.1 15) (h16 : σ.2.1 16 = ρ.2.1 16) (h17 : σ.2.1 17 = ρ.2.1 17) (h18 : σ.2.1 18 = ρ.2.1 18) : FRM ρ σ r q F g0 base 0 := ⟨fun u a b => by omega, fun y _ => by rw [h15, h16, h17]; exact ⟨rfl, rfl, rfl⟩, fun z _ => by rw [h18]⟩
theorem FRM.go {ρ σ τ : MS} {r q F g0 base j y a b c : Int} (h : FRM ρ σ r q F g0 base j) (hj : 0 ≤ j ∧ 0 ≤ F ∧ F + j < 12) (hy : y = 12 * r + F + j) (f : Fr [] [18] [] (sA 17 y c (sA 16 y b (sA 15 y a σ))) τ) (ha : a = ρ.2.1 15 (12 * q + j)) (hb0 : j = 0 → b = g0) (hb1 : j ≠ 0 → b = ρ.2.1 16 (12 * q + j) + F)
    (hn : ∀ n, 0 ≤ n → n < 12 → τ.2.1 18 (144 * r + 12 * (F + j) + n) = wr (ρ.2.1 18 (144 * q + 12 * j + n) + base)) (ho : ∀ z, (z < 144 * r + 12 * (F + j) ∨ 144 * r + 12 * (F + j) + 12 ≤ z) → τ.2.1 18 z = σ.2.1 18 z) : FRM ρ τ r q F g0 base (j + 1) := by
  subst hy
  obtain ⟨h1, h2, h3⟩ := h
  have e15 : τ.2.1 15 = (sA 15 (12 * r + F + j) a σ).2.1 15 := by rw [f.2.1 15 (by decide)]; rfl
  have e16 : τ.2.1 16 = (sA 16 (12 * r + F + j) b (sA 15 (12 * r + F + j) a σ)).2.1 16 := by rw [f.2.1 16 (by decide)]; rfl
  have e17 : τ.2.1 17 = (sA 17 (12 * r + F + j) c (sA 16 (12 * r + F + j) b (sA 15 (12 * r + F + j) a σ))).2.1 17 := by rw [f.2.1 17 (by decide)]
  refine ⟨fun u x w => ?_, fun y hy => ?_, fun z hz => ?_⟩
  · rw [e15, e16]
    by_cases z : u = j
    · subst z
      exact ⟨ra_eq.trans ha, fun e => ra_eq.trans (hb0 e), fun e => ra_eq.trans (hb1 e), hn⟩
    · obtain ⟨g1, g2, g3, g4⟩ := h1 u x (by omega)
      exact ⟨ra_ne (by omega) g1, fun e => ra_ne (by omega) (ra_o (by decide) (g2 e)), fun e => ra_ne (by omega) (ra_o (by decide) (g3 e)), fun n n0 n1 => (ho _ (by omega)).trans (g4 n n0 n1)⟩
  · rw [e15, e16, e17]
    obtain ⟨g1, g2, g3⟩ := h2 y hy
    exact ⟨ra_ne (by omega) g1, ra_ne (by omega) (ra_o (by decide) g2), ra_ne (by omega) (ra_o (by decide) (ra_o (by decide) g3))⟩
  · exact (ho z (by omega)).trans (h3 z hz)
theorem FRM.okf {ρ τ : MS} {r q F g0 base m : Int} (h : FRM ρ τ r q F g0 base (ρ.2.1 14 q)) (hr : OKF ρ r) (hq : OKF ρ q) (hF : F = ρ.2.1 14 r) (h12 : F + ρ.2.1 14 q ≤ 12) (hm : RGN ρ q m (ρ.2.1 14 q)) (hb : 0 ≤ base ∧ base + m ≤ 192) (t14 : τ.2.1 14 r = F + ρ.2.1 14 q) (t12 : τ.2.1 12 = ρ.2.1 12) (hnm : NAM ρ) : OKF τ r := by
  subst hF
  obtain ⟨h1, h2, h3⟩ := h
  have q1 := hr.1
  have q2 := hq.1
  unfold OKF
  rw [t14, t12]
  refine ⟨by omega, fun f x y => ?_⟩
  by_cases z : f < ρ.2.1 14 r
  · have g := h2 (12 * r + f) (by omega)
    rw [g.1]
    have o := hr.2 f x z
    refine ⟨o.1, fun n n0 n1 => ?_⟩
    have b12 := o.2 n n0 n1
    have := hnm _ o.1.1 o.1.2
    rw [h3 _ (by omega)]; exact b12
  · have g := h1 (f - ρ.2.1 14 r) (by omega) (by omega)
    rw [show 12 * r + ρ.2.1 14 r + (f - ρ.2.1 14 r) = 12 * r + f by omega, show 144 * r + 12 * (ρ.2.1 14 r + (f - ρ.2.1 14 r)) = 144 * r + 12 * f by omega] at g
    rw [g.1]
    have o := hq.2 (f - ρ.2.1 14 r) (by omega) (by omega)
    refine ⟨o.1, fun n n0 n1 => ?_⟩
    have b := o.2 n n0 n1
    have bm := hm (f - ρ.2.1 14 r) (by omega) (by omega) n n0 n1
    have := hnm _ o.1.1 o.1.2
    have w := g.2.2.2 n n0 (by omega)
    rw [w, wr_id ⟨by omega, by omega⟩]
    omega
theorem FRM.fri {ρ τ : MS} {r q F g0 base : Int} (h : FRM ρ τ r q F g0 base (ρ.2.1 14 q)) (hr : FRI ρ r) (hq : FRI ρ q) (hF : F = ρ.2.1 14 r) (h1F : 1 ≤ F ∧ F ≤ 12) (hg : 0 ≤ g0 ∧ g0 < F) (t14 : τ.2.1 14 r = F + ρ.2.1 14 q) : FRI τ r := by
  subst hF
  obtain ⟨h1, h2, h3⟩ := h
  refine ⟨by rw [(h2 (12 * r + 0) (by omega)).2.1]; exact hr.1, fun f x y => ?_⟩
  rw [t14] at y
  by_cases z : f < ρ.2.1 14 r
  · rw [(h2 (12 * r + f) (by omega)).2.1]; exact hr.2 f x z
  · have g := h1 (f - ρ.2.1 14 r) (by omega) (by omega)
    rw [show 12 * r + ρ.2.1 14 r + (f - ρ.2.1 14 r) = 12 * r + f by omega] at g
    by_cases w : f - ρ.2.1 14 r = 0
    · rw [g.2.1 w]; omega
    · rw [g.2.2.1 w]
      have := hq.2 (f - ρ.2.1 14 r) (by omega) (by omega)
      omega
/-- what melting routine q in at item k of routine r stands on -/
def MOH (ρ : MS) (r k q f base lb out to g0 m : Int) (FI lf frq lfq : Int → Int) : Prop :=
  (((0 ≤ r ∧ r < 6) ∧ (0 ≤ q ∧ q < 6) ∧ q ≠ r) ∧ (0 ≤ k ∧ k < ρ.2.1 9 r ∧ ρ.2.1 9 r ≤ 200) ∧ (0 ≤ base ∧ 0 ≤ m ∧ base + m ≤ 100) ∧ (0 ≤ to ∧ to < 192) ∧ (0 ≤ lb ∧ lb ≤ out ∧ out < 4096) ∧ f + ρ.2.1 14 q ≤ 12 ∧ ρ.2.1 9 q ≤ 200 ∧ (0 ≤ g0 ∧ g0 < f) ∧ f = ρ.2.1 14 r ∧ 1 ≤ f ∧ 1 ≤ ρ.2.1 14 q ∧ 1 ≤ ρ.2.1 9 q) ∧
  MQQ ρ q f lb out g0 FI lf frq lfq ∧ OKS ρ (ρ.2.1 14 q) q ∧ (∀ j, 0 ≤ j → j < ρ.2.1 9 q → ¬ ρ.2.1 3 (220 * q + j) = 10) ∧ RGI ρ q m (ρ.2.1 9 q) ∧ RGN ρ q m (ρ.2.1 14 q) ∧ OKI ρ f (220 * r + k) ∧ FR0 ρ q ∧ OKF ρ q ∧ PAR ρ ∧ NAM ρ
theorem MOH.n {ρ : MS} {r k q f base lb out to g0 m : Int} {FI lf frq lfq : Int → Int} (h : MOH ρ r k q f base lb out to g0 m FI lf frq lfq) : ((0 ≤ r ∧ r < 6) ∧ (0 ≤ q ∧ q < 6) ∧ q ≠ r) ∧ (0 ≤ k ∧ k < ρ.2.1 9 r ∧ ρ.2.1 9 r ≤ 200) ∧ (0 ≤ base ∧ 0 ≤ m ∧ base + m ≤ 100) ∧ (0 ≤ to ∧ to < 192) ∧ (0 ≤ lb ∧ lb ≤ out ∧ out < 4096) ∧ f + ρ.2.1 14 q ≤ 12 ∧ ρ.2.1 9 q ≤ 200 ∧ (0 ≤ g0 ∧ g0 < f) ∧ f = ρ.2.1 14 r ∧ 1 ≤ f ∧ 1 ≤ ρ.2.1 14 q ∧ 1 ≤ ρ.2.1 9 q := h.1
theorem MOH.mih {ρ σ : MS} {r k q f base lb out to g0 m i : Int} {FI lf frq lfq : Int → Int} (h : MOH ρ r k q f base lb out to g0 m FI lf frq lfq) (ms : MSG ρ σ FI lf q (f + ρ.2.1 14 q) lb out g0 (σ.1 62) i (Gq ρ q f frq i)) (ha : 0 ≤ σ.1 62) (hi : 0 ≤ i ∧ i < ρ.2.1 9 q) : MIH ρ σ q f base lb to out g0 (σ.1 62) i m FI lf frq lfq := by
  have n := h.n
  obtain ⟨_, mq, ok, nc, ri, rn, _⟩ := h
  exact ⟨mq, ms, ha, hi, ok i hi.1 hi.2, nc i hi.1 hi.2, (ri i hi.1 hi.2).2, fun w => (ri i hi.1 hi.2).1 (Or.inl w), ⟨n.2.2.1.1, by omega⟩, n.2.2.2.1, n.2.2.2.2.1, by omega⟩
/-- of a name of q's frame 0 -/
theorem MOH.nm {ρ : MS} {r k q f base lb out to g0 m n : Int} {FI lf frq lfq : Int → Int} (h : MOH ρ r k q f base lb out to g0 m FI lf frq lfq) (h0 : 0 ≤ n) (h1 : n < ρ.2.1 12 q) : n < 12 ∧ 0 ≤ ρ.2.1 18 (144 * q + n) ∧ ρ.2.1 18 (144 * q + n) < m := by
  have nn := h.n
  obtain ⟨_, mq, ok, nc, ri, rn, ox, f0, of_, pa, na⟩ := h
  unfold FR0 at f0
  have a := (of_.2 0 (by omega) (by omega)).2 n h0 (by rw [f0]; exact h1)
  have b := rn 0 (by omega) (by omega) n h0 (by rw [f0]; exact h1)
  rw [Int.mul_zero, Int.add_zero] at a b
  have c := na q nn.1.2.1.1 nn.1.2.1.2
  exact ⟨by omega, a.1, b⟩
theorem MOH.ar {ρ σ : MS} {r k q f base lb out to g0 m n : Int} {FI lf frq lfq : Int → Int} (h : MOH ρ r k q f base lb out to g0 m FI lf frq lfq) (hi : IEQ ρ (220 * r + k) σ (220 * r + k)) (h0 : 0 ≤ n) (h1 : n < 4) : (0 ≤ σ.2.1 7 (4 * (220 * r + k) + n) ∧ σ.2.1 7 (4 * (220 * r + k) + n) ≤ 2) ∧ (σ.2.1 7 (4 * (220 * r + k) + n) = 2 → 0 ≤ σ.2.1 8 (4 * (220 * r + k) + n) ∧ σ.2.1 8 (4 * (220 * r + k) + n) < 192) := by
  have o := h.2.2.2.2.2.2.1.2.2.2.2.2.2.2.1 n h0 h1
  rw [(hi.2.2.2.2 n h0 h1).1, (hi.2.2.2.2 n h0 h1).2]
  exact ⟨o.1, fun w => (o.2 w).1⟩
/-- frames and counts of others stay -/
def XF (r F : Int) (ρ τ : MS) : Prop := (∀ y, (y < 12 * r + F ∨ 12 * r + 12 ≤ y) → τ.2.1 15 y = ρ.2.1 15 y ∧ τ.2.1 16 y = ρ.2.1 16 y ∧ τ.2.1 17 y = ρ.2.1 17 y) ∧ (∀ z, (z < 144 * r + 12 * F ∨ 144 * r + 144 ≤ z) → τ.2.1 18 z = ρ.2.1 18 z) ∧ (∀ j, j ≠ r → τ.2.1 14 j = ρ.2.1 14 j ∧ τ.2.1 9 j = ρ.2.1 9 j)
theorem FRM.fr {ss ks js : List Nat} {ρ σ τ : MS} {r q F g0 base j : Int} (h : FRM ρ σ r q F g0 base j) (f : Fr ss ks js σ τ) (hk : ∀ k ∈ [15, 16, 17, 18], k ∉ ks) : FRM ρ τ r q F g0 base j := by
  unfold FRM
  rw [f.q hk (k := 15) (by decide), f.q hk (k := 16) (by decide), f.q hk (k := 17) (by decide), f.q hk (k := 18) (by decide)]
  exact h
/-- all of it -/
theorem melt_all {ρ σ1 σ2 σ3 σ4 τ : MS} {r q k a F LB out g0 base m to : Int} {FI lf frr lfr frq lfq : Int → Int} (mo : MOH ρ r k q F base LB out to g0 m FI lf frq lfq) (h10 : ρ.2.1 3 (220 * r + k) = 10) (ha : 1 ≤ a) (hn : ρ.2.1 9 r + (a - 1) ≤ 200)
    (cw : CW (ρ.2.1 9 r) (ρ.2.1 14 r) (ρ.1 10) (iK ρ r) (iD ρ r) (iO ρ r) (iF ρ r) frr lfr) (lx : LEX ρ r) (lm : LBM ρ r) (ok : OKS ρ (ρ.2.1 14 r) r) (okf : OKF ρ r) (fri : FRI ρ r) (friq : FRI ρ q) (hg : g0 = frr k)
    (m1 : MSG ρ σ1 FI lf q (F + ρ.2.1 14 q) LB out g0 a (ρ.2.1 9 q) g0) (mx : LX a (fun j => σ1.2.1 3 (2640 + j)) (fun j => σ1.2.1 4 (2640 + j)))
    (hlb : ∀ j, 0 ≤ j → j < ρ.2.1 9 r → (ρ.2.1 3 (220 * r + j) = 8 ∨ ρ.2.1 3 (220 * r + j) = 9 ∨ ρ.2.1 3 (220 * r + j) = 13) → ρ.2.1 4 (220 * r + j) < LB) (hout : out + 2 ≤ 121 * (F + ρ.2.1 14 q)) (hFI : ∀ f, 1 ≤ f → f < F → FI f = ρ.2.1 16 (12 * r + f))
    (f12 : Fr [] [14, 15, 16, 17, 18] [] σ1 σ2) (su : SHU σ2 σ3 r (ρ.2.1 9 r) a k) (cp : CPI σ3 σ4 r k a a) (f23 : Fr [] [3, 4, 5, 6, 7, 8] [] σ2 σ3) (f34 : Fr [] [3, 4, 5, 6, 7, 8] [] σ3 σ4) (hτ : τ = sA 9 r (ρ.2.1 9 r + (a - 1)) σ4)
    (f01 : Fr [62] [3, 4, 5, 6, 7, 8] [] ρ σ1) (fm : FRM ρ σ2 r q F g0 base (ρ.2.1 14 q)) (t14 : σ2.2.1 14 = (sA 14 r (F + ρ.2.1 14 q) ρ).2.1 14) :
    (CODE τ r ∧ LEX τ r ∧ LBM τ r ∧ OKS τ (τ.2.1 14 r) r ∧ XR r ρ τ) ∧ OKF τ r ∧ FRI τ r ∧ XF r (ρ.2.1 14 r) ρ τ ∧ τ.2.1 14 r = ρ.2.1 14 r + ρ.2.1 14 q ∧ τ.2.1 9 r = ρ.2.1 9 r + (a - 1) := by
  have n := mo.n
  obtain ⟨_, mq, okq, nc, ri, rn, ox, f0, okq2, pa, na⟩ := mo
  have hF := n.2.2.2.2.2.2.2.2.1
  have g : ∀ k, k ∉ [3, 4, 5, 6, 7, 8, 9] → τ.2.1 k = σ2.2.1 k := fun k hk => by
    have h9 : k ≠ 9 := fun e => hk (by rw [e]; decide)
    have h3 : k ∉ [3, 4, 5, 6, 7, 8] := fun e => hk ((by decide : ∀ k ∈ [3, 4, 5, 6, 7, 8], k ∈ [3, 4, 5, 6, 7, 8, 9]) k e)
    rw [hτ, show (sA 9 r (ρ.2.1 9 r + (a - 1)) σ4).2.1 k = σ4.2.1 k from by simp only [sA, if_neg h9], f34.2.1 k h3, f23.2.1 k h3]
  have t9 : τ.2.1 9 r = ρ.2.1 9 r + (a - 1) := by rw [hτ]; exact ra_eq
  have e14 : τ.2.1 14 = (sA 14 r (F + ρ.2.1 14 q) ρ).2.1 14 := (g 14 (by decide)).trans t14
  have t14r : τ.2.1 14 r = F + ρ.2.1 14 q := by rw [e14]; exact ra_eq
  have fm2 : FRM ρ τ r q F g0 base (ρ.2.1 14 q) := by
    unfold FRM
    rw [g 15 (by decide), g 16 (by decide), g 17 (by decide), g 18 (by decide)]
    exact fm
  have s10 : τ.1 10 = ρ.1 10 := by
    rw [hτ, show (sA 9 r (ρ.2.1 9 r + (a - 1)) σ4).1 10 = σ4.1 10 from rfl, f34.1 10 (by decide), f23.1 10 (by decide), f12.1 10 (by decide), f01.1 10 (by decide)]
  have s11 : τ.2.1 11 = ρ.2.1 11 := by rw [g 11 (by decide), f12.2.1 11 (by decide), f01.2.1 11 (by decide)]
  have s12 : τ.2.1 12 = ρ.2.1 12 := by rw [g 12 (by decide), f12.2.1 12 (by decide), f01.2.1 12 (by decide)]
  have hq14 : 1 ≤ ρ.2.1 14 q := n.2.2.2.2.2.2.2.2.2.2.1
  have fin := melt_fin (τ := τ) n.1.1 ⟨n.2.1.1, n.2.1.2.1⟩ h10 ha hn cw lx lm ok hF hg (by omega) m1 mx hlb hout hFI (fun y => IEQ.fr f12 (by decide)) su cp (fun y => by rw [hτ]; exact IEQ.fr ((Fr.rfl (ss := []) (ks := [9]) (js := [])).A (by decide)) (by decide)) t9 t14r s10 s11 (fun f x y => by
    by_cases z : f < F
    · rw [(fm2.2.1 (12 * r + f) (by omega)).2.1]; exact (hFI f x z).symm
    · have w := fm2.1 (f - F) (by omega) (by omega)
      rw [show 12 * r + F + (f - F) = 12 * r + f by omega] at w
      by_cases v : f - F = 0
      · rw [w.2.1 v, show f = F by omega]; exact mq.2.2.2.2.1.symm
      · rw [w.2.2.1 v]
        have := mq.2.2.2.2.2.1 (f - F) (by omega)
        rw [show f - F + F = f by omega] at this
        exact this.symm)
  refine ⟨⟨fin.1, fin.2.1, fin.2.2.1, by rw [t14r]; exact fin.2.2.2.1, fin.2.2.2.2⟩, fm2.okf okf okq2 hF n.2.2.2.2.2.1 rn ⟨n.2.2.1.1, by omega⟩ t14r s12 na, fm2.fri fri friq hF ⟨by omega, by omega⟩ n.2.2.2.2.2.2.2.1 t14r, ⟨fun y hy => fm2.2.1 y (by omega), fun z hz => fm2.2.2 z (by omega), fun j hj => ⟨by rw [e14]; exact ra_ne hj rfl, ?_⟩⟩, by omega, t9⟩
  rw [hτ, show (sA 9 r (ρ.2.1 9 r + (a - 1)) σ4).2.1 9 j = σ4.2.1 9 j from ra_ne hj rfl, f34.2.1 9 (by decide), f23.2.1 9 (by decide), f12.2.1 9 (by decide), f01.2.1 9 (by decide)]
def FIx (ρ : MS) (r q F g0 : Int) : Int → Int := fun g => if g < F then ρ.2.1 16 (12 * r + g) else if g = F then g0 else ρ.2.1 16 (12 * q + (g - F)) + F
def lfx (F lb out : Int) (lfq : Int → Int) : Int → Int := fun l => if l = out then F else F + lfq (l - lb)
theorem mo_mk {ρ : MS} {r k q F base lb out to g0 m v2 : Int} {frq lfq : Int → Int} (h1 : ((0 ≤ r ∧ r < 6) ∧ (0 ≤ q ∧ q < 6) ∧ q ≠ r) ∧ (0 ≤ k ∧ k < ρ.2.1 9 r ∧ ρ.2.1 9 r ≤ 200) ∧ (0 ≤ base ∧ 0 ≤ m ∧ base + m ≤ 100) ∧ (0 ≤ to ∧ to < 192) ∧ (0 ≤ lb ∧ lb ≤ out ∧ out < 4096) ∧ F + ρ.2.1 14 q ≤ 12 ∧ ρ.2.1 9 q ≤ 200 ∧ (0 ≤ g0 ∧ g0 < F) ∧ F = ρ.2.1 14 r ∧ 1 ≤ F ∧ 1 ≤ ρ.2.1 14 q ∧ 1 ≤ ρ.2.1 9 q)
    (cq : CW (ρ.2.1 9 q) (ρ.2.1 14 q) (ρ.1 10) (iK ρ q) (iD ρ q) (iO ρ q) (iF ρ q) frq lfq) (lx : LEX ρ q) (ok : OKS ρ (ρ.2.1 14 q) q) (ho : out = lb + v2) (hl : ∀ j, 0 ≤ j → j < ρ.2.1 9 q → (ρ.2.1 3 (220 * q + j) = 8 ∨ ρ.2.1 3 (220 * q + j) = 9 ∨ ρ.2.1 3 (220 * q + j) = 13) → ρ.2.1 4 (220 * q + j) < v2)
    (nc : ∀ j, 0 ≤ j → j < ρ.2.1 9 q → ¬ ρ.2.1 3 (220 * q + j) = 10) (ri : RGI ρ q m (ρ.2.1 9 q)) (rn : RGN ρ q m (ρ.2.1 14 q)) (ox : OKI ρ F (220 * r + k)) (f0 : FR0 ρ q) (okf : OKF ρ q) (pa : PAR ρ) (na : NAM ρ) : MOH ρ r k q F base lb out to g0 m (FIx ρ r q F g0) (lfx F lb out lfq) frq lfq := by
  refine ⟨h1, ⟨cq, lx, fun l hl => if_neg hl, if_pos rfl, ?_, fun j hj => ?_, fun j a b c => ?_, h1.2.2.2.2.2.2.2.2.2.1, h1.2.2.2.2.2.2.2.2.2.2.2, h1.2.2.2.2.2.2.2.2.2.2.1⟩, ok, nc, ri, rn, ox, f0, okf, pa, na⟩
  · unfold FIx; rw [if_neg (by omega), if_pos rfl]
  · unfold FIx; rw [if_neg (by omega), if_neg (by omega), show j + F - F = j by omega]
  · have := hl j a b c
    have := (ok j a b).2.2.1 c
    omega
theorem FIx_lt {ρ : MS} {r q F g0 f : Int} (h : f < F) : FIx ρ r q F g0 f = ρ.2.1 16 (12 * r + f) := if_pos h

set_option maxHeartbeats 1000000 in
set_option maxRecDepth 20000 in
theorem l3_regs2 (d : Nat) {b : Nat} {σ : MS} {r : Int} {F : Int} {B : Int} {f : Int} {post : Option Value → MS → Prop} (hr : 0 ≤ r ∧ r < 6) (hR : RG σ) (hof : OKF σ r) (hnam : NAM σ) (hit : ITM σ) (hpar : PAR σ) (hok : OKS σ F r) (hRN : RGN σ r B (σ.2.1 14 r)) (hRI : RGI σ r B (σ.2.1 9 r)) (hB : 0 ≤ B ∧ B ≤ 192) (hf : 0 ≤ f ∧ f < σ.2.1 14 r) (hx_79 : ∀ (m : Int) (n1 : Int) , (0 ≤ m ∧ m ≤ B) → Tm (d + 1) m_X12_registers 79 b σ [(4, .int (iI n1)), (3, .int (iI f)), (2, .int (iI m)), (0, .ref b), (1, .int (iI r))] [] post) : ∀ (n : Nat) (m : Int) (n1 : Int) , (0 ≤ m ∧ m ≤ B ∧ 0 ≤ n1 ∧ n1 ≤ 12) → (12 - n1).toNat = n → Tm (d + 1) m_X12_registers 17 b σ [(4, .int (iI n1)), (3, .int (iI f)), (2, .int (iI m)), (0, .ref b), (1, .int (iI r))] [] post := by
  intro n
  induction n using Nat.strongRecOn with
  | _ n ih =>
    intro m n1 h0 hm
    have q1 := hof.1
    have q2 := (hof.2 f (by omega) (by omega)).1
    have q3 := hnam _ q2.1 q2.2
    refine tm_iload dX12_registers_17 0 rfl ?_
    refine tm_aload_n dX12_registers_19 rfl 3 rfl ?_
    refine tm_get (k := 12) (v := .ref (b + 1 + 9)) lay_12 dX12_registers_20 (by decide) fl12_38 rfl ?_
    refine tm_aload_n dX12_registers_23 rfl 3 rfl ?_
    refine tm_get (k := 15) (v := .ref (b + 1 + 12)) lay_12 dX12_registers_24 (by decide) fl12_47 rfl ?_
    refine tm_bipush dX12_registers_27 (by decide) ?_
    refine tm_iload_n dX12_registers_29 rfl 4 rfl ?_
    refine tm_imul dX12_registers_30 ?_
    refine tm_iload_n dX12_registers_31 rfl 1 rfl ?_
    refine tm_iadd dX12_registers_32 ?_
    refine tm_iald (z := (12 * r) + f) (v := σ.2.1 15 ((12 * r) + f)) dX12_registers_33 (show mT[12]? = some (15, 0, 72) from rfl) (by omega) (by omega) (by decide) (rfl) ?_
    have g1 := RG.a hR 15 ((12 * r) + f)
    refine tm_iald (z := σ.2.1 15 ((12 * r) + f)) (v := σ.2.1 12 (σ.2.1 15 ((12 * r) + f))) dX12_registers_34 (show mT[9]? = some (12, 0, 6) from rfl) (by omega) (by omega) (by decide) (rfl) ?_
    have g2 := RG.a hR 12 (σ.2.1 15 ((12 * r) + f))
    refine tm_icmp_ge (tgt := 79) dX12_registers_35 (by decide) ⟨by omega, by omega⟩ ⟨by omega, by omega⟩ (fun h3 => ?_) (fun h3 => ?_)
    · exact tm_sub [0, 1, 2, 3, 4] rfl (hx_79 (m) (n1) (by omega))
    · have q4 := (hof.2 f (by omega) (by omega)).2 n1 (by omega) (by omega)
      have q5 := hRN f (by omega) (by omega) n1 (by omega) (by omega)
      refine tm_aload_n dX12_registers_38 rfl 3 rfl ?_
      refine tm_get (k := 18) (v := .ref (b + 1 + 15)) lay_12 dX12_registers_39 (by decide) fl12_56 rfl ?_
      refine tm_sipush dX12_registers_42 (by decide) ?_
      refine tm_iload_n dX12_registers_45 rfl 4 rfl ?_
      refine tm_imul dX12_registers_46 ?_
      refine tm_bipush dX12_registers_47 (by decide) ?_
      refine tm_iload_n dX12_registers_49 rfl 1 rfl ?_
      refine tm_imul dX12_registers_50 ?_
      refine tm_iadd dX12_registers_51 ?_
      refine tm_iload dX12_registers_52 0 rfl ?_
      refine tm_iadd dX12_registers_54 ?_
      refine tm_iald (z := ((144 * r) + (12 * f)) + n1) (v := σ.2.1 18 (((144 * r) + (12 * f)) + n1)) dX12_registers_55 (show mT[15]? = some (18, 0, 864) from rfl) (by omega) (by omega) (by decide) (rfl) ?_
      have g4 := RG.a hR 18 (((144 * r) + (12 * f)) + n1)
      refine tm_istore (L' := [(5, .int (iI (σ.2.1 18 (((144 * r) + (12 * f)) + n1)))), (4, .int (iI n1)), (3, .int (iI f)), (2, .int (iI m)), (0, .ref b), (1, .int (iI r))]) dX12_registers_56 (by decide) rfl ?_
      refine tm_iload dX12_registers_58 0 rfl ?_
      refine tm_iload_n dX12_registers_60 rfl 3 rfl ?_
      refine tm_icmp_lt (tgt := 71) dX12_registers_61 (by decide) ⟨by omega, by omega⟩ ⟨by omega, by omega⟩ (fun h5 => ?_) (fun h5 => ?_)
      · refine tm_iload_n dX12_registers_71 rfl 3 rfl ?_
        refine tm_istore_n (L' := [(2, .int (iI m)), (5, .int (iI (σ.2.1 18 (((144 * r) + (12 * f)) + n1)))), (4, .int (iI n1)), (3, .int (iI f)), (0, .ref b), (1, .int (iI r))]) dX12_registers_72 rfl (by decide) rfl ?_
        refine tm_iinc (q0 := 2) (L' := [(4, .int (iI (n1 + 1))), (2, .int (iI m)), (5, .int (iI (σ.2.1 18 (((144 * r) + (12 * f)) + n1)))), (3, .int (iI f)), (0, .ref b), (1, .int (iI r))]) dX12_registers_73 rfl (by decide) rfl ?_
        refine tm_goto (tgt := 17) dX12_registers_76 (by decide) ?_
        exact tm_sub [0, 3, 1, 4, 5] rfl (ih _ (by omega) (m) (n1 + 1) (by omega) rfl)
      · refine tm_iload dX12_registers_64 0 rfl ?_
        refine tm_iconst dX12_registers_66 ?_
        refine tm_iadd dX12_registers_67 ?_
        refine tm_goto (tgt := 72) dX12_registers_68 (by decide) ?_
        refine tm_istore_n (L' := [(2, .int (iI ((σ.2.1 18 (((144 * r) + (12 * f)) + n1)) + 1))), (5, .int (iI (σ.2.1 18 (((144 * r) + (12 * f)) + n1)))), (4, .int (iI n1)), (3, .int (iI f)), (0, .ref b), (1, .int (iI r))]) dX12_registers_72 rfl (by decide) rfl ?_
        refine tm_iinc (q0 := 2) (L' := [(4, .int (iI (n1 + 1))), (2, .int (iI ((σ.2.1 18 (((144 * r) + (12 * f)) + n1)) + 1))), (5, .int (iI (σ.2.1 18 (((144 * r) + (12 * f)) + n1)))), (3, .int (iI f)), (0, .ref b), (1, .int (iI r))]) dX12_registers_73 rfl (by decide) rfl ?_
        refine tm_goto (tgt := 17) dX12_registers_76 (by decide) ?_
        exact tm_sub [0, 3, 1, 4, 5] rfl (ih _ (by omega) ((σ.2.1 18 (((144 * r) + (12 * f)) + n1)) + 1) (n1 + 1) (by omega) rfl)
set_option maxHeartbeats 1000000 in
set_option maxRecDepth 20000 in
theorem l3_regs1 (d : Nat) {b : Nat} {σ : MS} {r : Int} {F : Int} {B : Int} {post : Option Value → MS → Prop} (hr : 0 ≤ r ∧ r < 6) (hR : RG σ) (hof : OKF σ r) (hnam : NAM σ) (hit : ITM σ) (hpar : PAR σ) (hok : OKS σ F r) (hRN : RGN σ r B (σ.2.1 14 r)) (hRI : RGI σ r B (σ.2.1 9 r)) (hB : 0 ≤ B ∧ B ≤ 192) (hx_85 : ∀ (m : Int) (f : Int) , (0 ≤ m ∧ m ≤ B) → Tm (d + 1) m_X12_registers 85 b σ [(3, .int (iI f)), (2, .int (iI m)), (0, .ref b), (1, .int (iI r))] [] post) : ∀ (n : Nat) (m : Int) (f : Int) , (0 ≤ m ∧ m ≤ B ∧ 0 ≤ f ∧ f ≤ σ.2.1 14 r) → (12 - f).toNat = n → Tm (d + 1) m_X12_registers 4 b σ [(3, .int (iI f)), (2, .int (iI m)), (0, .ref b), (1, .int (iI r))] [] post := by
  intro n
  induction n using Nat.strongRecOn with
  | _ n ih =>
    intro m f h0 hm
    have q1 := hof.1
    refine tm_iload_n dX12_registers_4 rfl 0 rfl ?_
    refine tm_aload_n dX12_registers_5 rfl 2 rfl ?_
    refine tm_get (k := 14) (v := .ref (b + 1 + 11)) lay_12 dX12_registers_6 (by decide) fl12_44 rfl ?_
    refine tm_iload_n dX12_registers_9 rfl 3 rfl ?_
    refine tm_iald (z := r) (v := σ.2.1 14 r) dX12_registers_10 (show mT[11]? = some (14, 0, 6) from rfl) (by omega) (by omega) (by decide) (rfl) ?_
    have g1 := RG.a hR 14 (r)
    refine tm_icmp_ge (tgt := 85) dX12_registers_11 (by decide) ⟨by omega, by omega⟩ ⟨by omega, by omega⟩ (fun h2 => ?_) (fun h2 => ?_)
    · exact tm_sub [0, 1, 2, 3] rfl (hx_85 (m) (f) (by omega))
    · refine tm_iconst dX12_registers_14 ?_
      refine tm_istore (L' := [(4, .int (iI 0)), (3, .int (iI f)), (2, .int (iI m)), (0, .ref b), (1, .int (iI r))]) dX12_registers_15 (by decide) rfl ?_
      refine tm_sub [0, 1, 2, 3, 4] rfl (l3_regs2 (d) (σ := σ) (r := r) (f := f) (F := F) (B := B) hr hR hof hnam hit hpar hok hRN hRI hB (by omega) (fun m8 n19 f7 => ?_) _ (m) (0) (by omega) rfl)
      show Tm _ _ 79 b σ [(4, .int (iI n19)), (3, .int (iI f)), (2, .int (iI m8)), (0, .ref b), (1, .int (iI r))] [] _
      refine tm_iinc (q0 := 1) (L' := [(3, .int (iI (f + 1))), (4, .int (iI n19)), (2, .int (iI m8)), (0, .ref b), (1, .int (iI r))]) dX12_registers_79 rfl (by decide) rfl ?_
      refine tm_goto (tgt := 4) dX12_registers_82 (by decide) ?_
      exact tm_sub [0, 2, 3, 4] rfl (ih _ (by omega) (m8) (f + 1) (by omega) rfl)
set_option maxHeartbeats 1000000 in
set_option maxRecDepth 20000 in
theorem l3_regs4 (d : Nat) {b : Nat} {σ : MS} {r : Int} {F : Int} {B : Int} {k : Int} {post : Option Value → MS → Prop} (hr : 0 ≤ r ∧ r < 6) (hR : RG σ) (hof : OKF σ r) (hnam : NAM σ) (hit : ITM σ) (hpar : PAR σ) (hok : OKS σ F r) (hRN : RGN σ r B (σ.2.1 14 r)) (hRI : RGI σ r B (σ.2.1 9 r)) (hB : 0 ≤ B ∧ B ≤ 192) (hk : 0 ≤ k ∧ k < σ.2.1 9 r) (hx_214 : ∀ (m : Int) (i : Int) , (0 ≤ m ∧ m ≤ B) → Tm (d + 4) m_X12_registers 214 b σ [(5, .int (iI i)), (4, .int (iI (220 * r + k))), (3, .int (iI k)), (2, .int (iI m)), (0, .ref b), (1, .int (iI r))] [] post) : ∀ (n : Nat) (m : Int) (i : Int) , (0 ≤ m ∧ m ≤ B ∧ 0 ≤ i ∧ i ≤ 4) → (4 - i).toNat = n → Tm (d + 4) m_X12_registers 146 b σ [(5, .int (iI i)), (4, .int (iI (220 * r + k))), (3, .int (iI k)), (2, .int (iI m)), (0, .ref b), (1, .int (iI r))] [] post := by
  intro n
  induction n using Nat.strongRecOn with
  | _ n ih =>
    intro m i h0 hm
    have q1 := hit r (by omega) (by omega)
    refine tm_iload dX12_registers_146 0 rfl ?_
    refine tm_aload_n dX12_registers_148 rfl 4 rfl ?_
    refine tm_iload dX12_registers_149 1 rfl ?_
    refine tm_callV (M := m_X12_registers) (pc := 151) (ix := 199) (M' := m_X12_args) (As := [.int (iI (220 * r + k))]) (rest := [.int (iI i)]) dX12_registers_151 ok_X12_args im_X12_args se_X12_args ml12_199 np_X12_args rfl rfl (Nat.le_of_ble_eq_true rfl) (Nat.le_of_ble_eq_true rfl) rfl (c_X12_args (d) (σ := σ) (x := 220 * r + k) (by omega) hR (hok.of (by omega) (by omega)) hpar) (fun r1 σ2 hp => ?_)
    obtain ⟨v3, rfl, rfl, f4, f5⟩ := hp
    show Tm _ _ 154 b σ [(5, .int (iI i)), (4, .int (iI (220 * r + k))), (3, .int (iI k)), (2, .int (iI m)), (0, .ref b), (1, .int (iI r))] [.int (iI v3), .int (iI i)] _
    refine tm_icmp_ge (tgt := 214) dX12_registers_154 (by decide) ⟨by omega, by omega⟩ ⟨by omega, by omega⟩ (fun h6 => ?_) (fun h6 => ?_)
    · exact tm_sub [0, 1, 2, 3, 4, 5] rfl (hx_214 (m) (i) (by omega))
    · have q2 := hok.arg (k := k) (by omega) (by omega) (i := i) (by omega) (by omega)
      have q5 := (hRI k (by omega) (by omega)).2 i (by omega) (by omega)
      refine tm_aload_n dX12_registers_157 rfl 4 rfl ?_
      refine tm_get (k := 7) (v := .ref (b + 1 + 5)) lay_12 dX12_registers_158 (by decide) fl12_26 rfl ?_
      refine tm_iconst dX12_registers_161 ?_
      refine tm_iload dX12_registers_162 1 rfl ?_
      refine tm_imul dX12_registers_164 ?_
      refine tm_iload dX12_registers_165 0 rfl ?_
      refine tm_iadd dX12_registers_167 ?_
      refine tm_iald (z := (4 * (220 * r + k)) + i) (v := σ.2.1 7 ((4 * (220 * r + k)) + i)) dX12_registers_168 (show mT[5]? = some (7, 0, 11440) from rfl) (by omega) (by omega) (by decide) (rfl) ?_
      have g7 := RG.a hR 7 ((4 * (220 * r + k)) + i)
      refine tm_iconst dX12_registers_169 ?_
      refine tm_icmp_ne (tgt := 206) dX12_registers_170 (by decide) ⟨by omega, by omega⟩ ⟨by decide, by decide⟩ (fun h8 => ?_) (fun h8 => ?_)
      · refine tm_iload_n dX12_registers_206 rfl 3 rfl ?_
        refine tm_istore_n (L' := [(2, .int (iI m)), (5, .int (iI i)), (4, .int (iI (220 * r + k))), (3, .int (iI k)), (0, .ref b), (1, .int (iI r))]) dX12_registers_207 rfl (by decide) rfl ?_
        refine tm_iinc (q0 := 1) (L' := [(5, .int (iI (i + 1))), (2, .int (iI m)), (4, .int (iI (220 * r + k))), (3, .int (iI k)), (0, .ref b), (1, .int (iI r))]) dX12_registers_208 rfl (by decide) rfl ?_
        refine tm_goto (tgt := 146) dX12_registers_211 (by decide) ?_
        exact tm_sub [0, 2, 3, 1, 4, 5] rfl (ih _ (by omega) (m) (i + 1) (by omega) rfl)
      · refine tm_aload_n dX12_registers_173 rfl 4 rfl ?_
        refine tm_get (k := 8) (v := .ref (b + 1 + 6)) lay_12 dX12_registers_174 (by decide) fl12_29 rfl ?_
        refine tm_iconst dX12_registers_177 ?_
        refine tm_iload dX12_registers_178 1 rfl ?_
        refine tm_imul dX12_registers_180 ?_
        refine tm_iload dX12_registers_181 0 rfl ?_
        refine tm_iadd dX12_registers_183 ?_
        refine tm_iald (z := (4 * (220 * r + k)) + i) (v := σ.2.1 8 ((4 * (220 * r + k)) + i)) dX12_registers_184 (show mT[6]? = some (8, 0, 11440) from rfl) (by omega) (by omega) (by decide) (rfl) ?_
        have g9 := RG.a hR 8 ((4 * (220 * r + k)) + i)
        refine tm_iload_n dX12_registers_185 rfl 3 rfl ?_
        refine tm_icmp_lt (tgt := 206) dX12_registers_186 (by decide) ⟨by omega, by omega⟩ ⟨by omega, by omega⟩ (fun h10 => ?_) (fun h10 => ?_)
        · refine tm_iload_n dX12_registers_206 rfl 3 rfl ?_
          refine tm_istore_n (L' := [(2, .int (iI m)), (5, .int (iI i)), (4, .int (iI (220 * r + k))), (3, .int (iI k)), (0, .ref b), (1, .int (iI r))]) dX12_registers_207 rfl (by decide) rfl ?_
          refine tm_iinc (q0 := 1) (L' := [(5, .int (iI (i + 1))), (2, .int (iI m)), (4, .int (iI (220 * r + k))), (3, .int (iI k)), (0, .ref b), (1, .int (iI r))]) dX12_registers_208 rfl (by decide) rfl ?_
          refine tm_goto (tgt := 146) dX12_registers_211 (by decide) ?_
          exact tm_sub [0, 2, 3, 1, 4, 5] rfl (ih _ (by omega) (m) (i + 1) (by omega) rfl)
        · refine tm_aload_n dX12_registers_189 rfl 4 rfl ?_
          refine tm_get (k := 8) (v := .ref (b + 1 + 6)) lay_12 dX12_registers_190 (by decide) fl12_29 rfl ?_
          refine tm_iconst dX12_registers_193 ?_
          refine tm_iload dX12_registers_194 1 rfl ?_
          refine tm_imul dX12_registers_196 ?_
          refine tm_iload dX12_registers_197 0 rfl ?_
          refine tm_iadd dX12_registers_199 ?_
          refine tm_iald (z := (4 * (220 * r + k)) + i) (v := σ.2.1 8 ((4 * (220 * r + k)) + i)) dX12_registers_200 (show mT[6]? = some (8, 0, 11440) from rfl) (by omega) (by omega) (by decide) (rfl) ?_
          have g11 := RG.a hR 8 ((4 * (220 * r + k)) + i)
          refine tm_iconst dX12_registers_201 ?_
          refine tm_iadd dX12_registers_202 ?_
          refine tm_goto (tgt := 207) dX12_registers_203 (by decide) ?_
          refine tm_istore_n (L' := [(2, .int (iI ((σ.2.1 8 ((4 * (220 * r + k)) + i)) + 1))), (5, .int (iI i)), (4, .int (iI (220 * r + k))), (3, .int (iI k)), (0, .ref b), (1, .int (iI r))]) dX12_registers_207 rfl (by decide) rfl ?_
          refine tm_iinc (q0 := 1) (L' := [(5, .int (iI (i + 1))), (2, .int (iI ((σ.2.1 8 ((4 * (220 * r + k)) + i)) + 1))), (4, .int (iI (220 * r + k))), (3, .int (iI k)), (0, .ref b), (1, .int (iI r))]) dX12_registers_208 rfl (by decide) rfl ?_
          refine tm_goto (tgt := 146) dX12_registers_211 (by decide) ?_
          exact tm_sub [0, 2, 3, 1, 4, 5] rfl (ih _ (by omega) ((σ.2.1 8 ((4 * (220 * r + k)) + i)) + 1) (i + 1) (by omega) rfl)
set_option maxHeartbeats 1000000 in
set_option maxRecDepth 20000 in
theorem l3_regs3 (d : Nat) {b : Nat} {σ : MS} {r : Int} {F : Int} {B : Int} {post : Option Value → MS → Prop} (hr : 0 ≤ r ∧ r < 6) (hR : RG σ) (hof : OKF σ r) (hnam : NAM σ) (hit : ITM σ) (hpar : PAR σ) (hok : OKS σ F r) (hRN : RGN σ r B (σ.2.1 14 r)) (hRI : RGI σ r B (σ.2.1 9 r)) (hB : 0 ≤ B ∧ B ≤ 192) (hx_220 : ∀ (m : Int) (k : Int) , (0 ≤ m ∧ m ≤ B) → Tm (d + 4) m_X12_registers 220 b σ [(3, .int (iI k)), (2, .int (iI m)), (0, .ref b), (1, .int (iI r))] [] post) : ∀ (n : Nat) (m : Int) (k : Int) , (0 ≤ m ∧ m ≤ B ∧ 0 ≤ k ∧ k ≤ σ.2.1 9 r) → (220 - k).toNat = n → Tm (d + 4) m_X12_registers 87 b σ [(3, .int (iI k)), (2, .int (iI m)), (0, .ref b), (1, .int (iI r))] [] post := by
  intro n
  induction n using Nat.strongRecOn with
  | _ n ih =>
    intro m k h0 hm
    have q1 := hit r (by omega) (by omega)
    refine tm_iload_n dX12_registers_87 rfl 0 rfl ?_
    refine tm_aload_n dX12_registers_88 rfl 2 rfl ?_
    refine tm_get (k := 9) (v := .ref (b + 1 + 7)) lay_12 dX12_registers_89 (by decide) fl12_32 rfl ?_
    refine tm_iload_n dX12_registers_92 rfl 3 rfl ?_
    refine tm_iald (z := r) (v := σ.2.1 9 r) dX12_registers_93 (show mT[7]? = some (9, 0, 13) from rfl) (by omega) (by omega) (by decide) (rfl) ?_
    have g1 := RG.a hR 9 (r)
    refine tm_icmp_ge (tgt := 220) dX12_registers_94 (by decide) ⟨by omega, by omega⟩ ⟨by omega, by omega⟩ (fun h2 => ?_) (fun h2 => ?_)
    · exact tm_sub [0, 1, 2, 3] rfl (hx_220 (m) (k) (by omega))
    · refine tm_aload_n dX12_registers_97 rfl 2 rfl ?_
      refine tm_iload_n dX12_registers_98 rfl 3 rfl ?_
      refine tm_iload_n dX12_registers_99 rfl 0 rfl ?_
      refine tm_callV (M := m_X12_registers) (pc := 100) (ix := 203) (M' := m_X12_at) (As := [.int (iI r), .int (iI k)]) (rest := []) dX12_registers_100 ok_X12_at im_X12_at se_X12_at ml12_203 np_X12_at rfl rfl (Nat.le_of_ble_eq_true rfl) (Nat.le_of_ble_eq_true rfl) rfl (c_X12_at (d + 2) (σ := σ) (x := r) (k := k) ) (fun r3 σ4 hp => ?_)
      obtain ⟨v5, rfl, rfl, f6⟩ := hp
      subst f6
      show Tm _ _ 103 b σ [(3, .int (iI k)), (2, .int (iI m)), (0, .ref b), (1, .int (iI r))] [.int (iI (220 * r + k))] _
      refine tm_istore (L' := [(4, .int (iI (220 * r + k))), (3, .int (iI k)), (2, .int (iI m)), (0, .ref b), (1, .int (iI r))]) dX12_registers_103 (by decide) rfl ?_
      have q2 := hok.dest (k := k) (by omega) (by omega)
      have q5 := (hRI k (by omega) (by omega)).1
      refine tm_aload_n dX12_registers_105 rfl 3 rfl ?_
      refine tm_get (k := 3) (v := .ref (b + 1 + 1)) lay_12 dX12_registers_106 (by decide) fl12_13 rfl ?_
      refine tm_iload dX12_registers_109 0 rfl ?_
      refine tm_iald (z := 220 * r + k) (v := σ.2.1 3 (220 * r + k)) dX12_registers_111 (show mT[1]? = some (3, 0, 2860) from rfl) (by omega) (by omega) (by decide) (rfl) ?_
      have g7 := RG.a hR 3 (220 * r + k)
      refine tm_callS (M := m_X12_registers) (pc := 112) (ix := 192) (M' := m_X12_writes) (As := [.int (iI (σ.2.1 3 (220 * r + k)))]) (rest := []) dX12_registers_112 ok_X12_writes stt_X12_writes ml12_192 np_X12_writes rfl (Nat.le_of_ble_eq_true rfl) (Nat.le_of_ble_eq_true rfl) rfl (c_X12_writes (d + 2) (σ := σ) (x := σ.2.1 3 (220 * r + k)) (by omega)) (fun r8 σ9 hp => ?_)
      obtain ⟨v10, rfl, rfl, f11, f12⟩ := hp
      show Tm _ _ 115 b σ [(4, .int (iI (220 * r + k))), (3, .int (iI k)), (2, .int (iI m)), (0, .ref b), (1, .int (iI r))] [.int (iI v10)] _
      refine tm_if_eq (tgt := 141) dX12_registers_115 (by decide) ⟨by omega, by omega⟩ (fun h13 => ?_) (fun h13 => ?_)
      · refine tm_iload_n dX12_registers_141 rfl 2 rfl ?_
        refine tm_istore_n (L' := [(2, .int (iI m)), (4, .int (iI (220 * r + k))), (3, .int (iI k)), (0, .ref b), (1, .int (iI r))]) dX12_registers_142 rfl (by decide) rfl ?_
        refine tm_iconst dX12_registers_143 ?_
        refine tm_istore (L' := [(5, .int (iI 0)), (2, .int (iI m)), (4, .int (iI (220 * r + k))), (3, .int (iI k)), (0, .ref b), (1, .int (iI r))]) dX12_registers_144 (by decide) rfl ?_
        refine tm_sub [0, 2, 3, 1, 4, 5] rfl (l3_regs4 (d) (σ := σ) (r := r) (k := k) (F := F) (B := B) hr hR hof hnam hit hpar hok hRN hRI hB (by omega) (fun m19 i20 f18 => ?_) _ (m) (0) (by omega) rfl)
        show Tm _ _ 214 b σ [(5, .int (iI i20)), (4, .int (iI (220 * r + k))), (3, .int (iI k)), (2, .int (iI m19)), (0, .ref b), (1, .int (iI r))] [] _
        refine tm_iinc (q0 := 2) (L' := [(3, .int (iI (k + 1))), (5, .int (iI i20)), (4, .int (iI (220 * r + k))), (2, .int (iI m19)), (0, .ref b), (1, .int (iI r))]) dX12_registers_214 rfl (by decide) rfl ?_
        refine tm_goto (tgt := 87) dX12_registers_217 (by decide) ?_
        exact tm_sub [0, 3, 4, 5] rfl (ih _ (by omega) (m19) (k + 1) (by omega) rfl)
      · refine tm_aload_n dX12_registers_118 rfl 3 rfl ?_
        refine tm_get (k := 4) (v := .ref (b + 1 + 2)) lay_12 dX12_registers_119 (by decide) fl12_17 rfl ?_
        refine tm_iload dX12_registers_122 0 rfl ?_
        refine tm_iald (z := 220 * r + k) (v := σ.2.1 4 (220 * r + k)) dX12_registers_124 (show mT[2]? = some (4, 0, 2860) from rfl) (by omega) (by omega) (by decide) (rfl) ?_
        have g21 := RG.a hR 4 (220 * r + k)
        refine tm_iload_n dX12_registers_125 rfl 2 rfl ?_
        refine tm_icmp_lt (tgt := 141) dX12_registers_126 (by decide) ⟨by omega, by omega⟩ ⟨by omega, by omega⟩ (fun h22 => ?_) (fun h22 => ?_)
        · refine tm_iload_n dX12_registers_141 rfl 2 rfl ?_
          refine tm_istore_n (L' := [(2, .int (iI m)), (4, .int (iI (220 * r + k))), (3, .int (iI k)), (0, .ref b), (1, .int (iI r))]) dX12_registers_142 rfl (by decide) rfl ?_
          refine tm_iconst dX12_registers_143 ?_
          refine tm_istore (L' := [(5, .int (iI 0)), (2, .int (iI m)), (4, .int (iI (220 * r + k))), (3, .int (iI k)), (0, .ref b), (1, .int (iI r))]) dX12_registers_144 (by decide) rfl ?_
          refine tm_sub [0, 2, 3, 1, 4, 5] rfl (l3_regs4 (d) (σ := σ) (r := r) (k := k) (F := F) (B := B) hr hR hof hnam hit hpar hok hRN hRI hB (by omega) (fun m28 i29 f27 => ?_) _ (m) (0) (by omega) rfl)
          show Tm _ _ 214 b σ [(5, .int (iI i29)), (4, .int (iI (220 * r + k))), (3, .int (iI k)), (2, .int (iI m28)), (0, .ref b), (1, .int (iI r))] [] _
          refine tm_iinc (q0 := 2) (L' := [(3, .int (iI (k + 1))), (5, .int (iI i29)), (4, .int (iI (220 * r + k))), (2, .int (iI m28)), (0, .ref b), (1, .int (iI r))]) dX12_registers_214 rfl (by decide) rfl ?_
          refine tm_goto (tgt := 87) dX12_registers_217 (by decide) ?_
          exact tm_sub [0, 3, 4, 5] rfl (ih _ (by omega) (m28) (k + 1) (by omega) rfl)
        · refine tm_aload_n dX12_registers_129 rfl 3 rfl ?_
          refine tm_get (k := 4) (v := .ref (b + 1 + 2)) lay_12 dX12_registers_130 (by decide) fl12_17 rfl ?_
          refine tm_iload dX12_registers_133 0 rfl ?_
          refine tm_iald (z := 220 * r + k) (v := σ.2.1 4 (220 * r + k)) dX12_registers_135 (show mT[2]? = some (4, 0, 2860) from rfl) (by omega) (by omega) (by decide) (rfl) ?_
          have g30 := RG.a hR 4 (220 * r + k)
          refine tm_iconst dX12_registers_136 ?_
          refine tm_iadd dX12_registers_137 ?_
          refine tm_goto (tgt := 142) dX12_registers_138 (by decide) ?_
          refine tm_istore_n (L' := [(2, .int (iI ((σ.2.1 4 (220 * r + k)) + 1))), (4, .int (iI (220 * r + k))), (3, .int (iI k)), (0, .ref b), (1, .int (iI r))]) dX12_registers_142 rfl (by decide) rfl ?_
          refine tm_iconst dX12_registers_143 ?_
          refine tm_istore (L' := [(5, .int (iI 0)), (2, .int (iI ((σ.2.1 4 (220 * r + k)) + 1))), (4, .int (iI (220 * r + k))), (3, .int (iI k)), (0, .ref b), (1, .int (iI r))]) dX12_registers_144 (by decide) rfl ?_
          refine tm_sub [0, 2, 3, 1, 4, 5] rfl (l3_regs4 (d) (σ := σ) (r := r) (k := k) (F := F) (B := B) hr hR hof hnam hit hpar hok hRN hRI hB (by omega) (fun m36 i37 f35 => ?_) _ ((σ.2.1 4 (220 * r + k)) + 1) (0) (by omega) rfl)
          show Tm _ _ 214 b σ [(5, .int (iI i37)), (4, .int (iI (220 * r + k))), (3, .int (iI k)), (2, .int (iI m36)), (0, .ref b), (1, .int (iI r))] [] _
          refine tm_iinc (q0 := 2) (L' := [(3, .int (iI (k + 1))), (5, .int (iI i37)), (4, .int (iI (220 * r + k))), (2, .int (iI m36)), (0, .ref b), (1, .int (iI r))]) dX12_registers_214 rfl (by decide) rfl ?_
          refine tm_goto (tgt := 87) dX12_registers_217 (by decide) ?_
          exact tm_sub [0, 3, 4, 5] rfl (ih _ (by omega) (m36) (k + 1) (by omega) rfl)
set_option maxHeartbeats 1000000 in
set_option maxRecDepth 20000 in
theorem c2_X12_registers (d : Nat) {b : Nat} {σ : MS} {r : Int} {F : Int} {B : Int} (hr : 0 ≤ r ∧ r < 6) (hR : RG σ) (hof : OKF σ r) (hnam : NAM σ) (hit : ITM σ) (hpar : PAR σ) (hok : OKS σ F r) (hRN : RGN σ r B (σ.2.1 14 r)) (hRI : RGI σ r B (σ.2.1 9 r)) (hB : 0 ≤ B ∧ B ≤ 192) : Tm (d + 4) m_X12_registers 0 b σ [(0, .ref b), (1, .int (iI r))] [] (fun ro σ2 => ∃ v : Int, ro = some (.int (iI v)) ∧ σ = σ2 ∧ (0 ≤ v ∧ v ≤ B)) := by
  have q1 := hit r (by omega) (by omega)
  have q9 := hof.1
  refine tm_iconst dX12_registers_0 ?_
  refine tm_istore_n (L' := [(2, .int (iI 0)), (0, .ref b), (1, .int (iI r))]) dX12_registers_1 rfl (by decide) rfl ?_
  refine tm_iconst dX12_registers_2 ?_
  refine tm_istore_n (L' := [(3, .int (iI 0)), (2, .int (iI 0)), (0, .ref b), (1, .int (iI r))]) dX12_registers_3 rfl (by decide) rfl ?_
  refine tm_sub [0, 1, 2, 3] rfl (l3_regs1 (d + 3) (σ := σ) (r := r) (F := F) (B := B) hr hR hof hnam hit hpar hok hRN hRI hB (fun m6 f7 f5 => ?_) _ (0) (0) (by omega) rfl)
  show Tm _ _ 85 b σ [(3, .int (iI f7)), (2, .int (iI m6)), (0, .ref b), (1, .int (iI r))] [] _
  refine tm_iconst dX12_registers_85 ?_
  refine tm_istore_n (L' := [(3, .int (iI 0)), (2, .int (iI m6)), (0, .ref b), (1, .int (iI r))]) dX12_registers_86 rfl (by decide) rfl ?_
  refine tm_sub [0, 1, 2, 3] rfl (l3_regs3 (d) (σ := σ) (r := r) (F := F) (B := B) hr hR hof hnam hit hpar hok hRN hRI hB (fun m13 k14 f12 => ?_) _ (m6) (0) (by omega) rfl)
  show Tm _ _ 220 b σ [(3, .int (iI k14)), (2, .int (iI m13)), (0, .ref b), (1, .int (iI r))] [] _
  refine tm_iload_n dX12_registers_220 rfl 1 rfl ?_
  exact tm_iret rfl dX12_registers_221 (⟨_, rfl, rfl, by omega⟩)
