/-! a run -/
def bkm (m : Int) : Int := if m = 2 then 6 else 0
def fm (σ : MS) (m r : Int) : Int := if m = 2 then 1 else σ.2.1 14 r
def prm (σ : MS) (m r f : Int) : Int := if m = 2 then -1 else σ.2.1 16 (12 * r + f)
/-- a routine's code in its bank -/
def BKG (σ : MS) (m r : Int) : Prop := (1 ≤ σ.2.1 9 (bkm m + r) ∧ σ.2.1 9 (bkm m + r) ≤ 200) ∧ OKS σ (fm σ m r) (bkm m + r) ∧ LEX σ (bkm m + r) ∧ (∃ fr lf, CW (σ.2.1 9 (bkm m + r)) (fm σ m r) (σ.1 10) (iK σ (bkm m + r)) (iD σ (bkm m + r)) (iO σ (bkm m + r)) (prm σ m r) fr lf) ∧ (1 ≤ fm σ m r ∧ fm σ m r ≤ 12) ∧ (∀ f, 0 ≤ f → f < fm σ m r → -1 ≤ prm σ m r f ∧ prm σ m r f < f) ∧ ∀ n, 0 ≤ n → n < σ.2.1 11 r → m ≠ 2 → 0 ≤ σ.2.1 18 (144 * r + n) ∧ σ.2.1 18 (144 * r + n) < 192
/-- a place in a code, and the frame there -/
def PLC (σ : MS) (m r p f : Int) : Prop := (0 ≤ r ∧ r < σ.1 10) ∧ (0 ≤ p ∧ p < σ.2.1 9 (bkm m + r)) ∧ ∃ fr lf, CW (σ.2.1 9 (bkm m + r)) (fm σ m r) (σ.1 10) (iK σ (bkm m + r)) (iD σ (bkm m + r)) (iO σ (bkm m + r)) (prm σ m r) fr lf ∧ f = fr p
def kdm (σ : MS) (m r p : Int) : Int := σ.2.1 3 (220 * (bkm m + r) + p)
def dsm (σ : MS) (m r p : Int) : Int := σ.2.1 4 (220 * (bkm m + r) + p)
theorem PLC.rng {σ : MS} {m r p f : Int} (h : PLC σ m r p f) : 0 ≤ f ∧ f < fm σ m r := by
  obtain ⟨h1, h2, fr, lf, c, e⟩ := h
  rw [e]; exact c.2.1 p h2.1 h2.2
theorem PLC.start {σ : MS} {m r : Int} (h : BKG σ m r) (hr : 0 ≤ r ∧ r < σ.1 10) : PLC σ m r 0 0 := by
  obtain ⟨h1, _, _, ⟨fr, lf, c⟩, _⟩ := h
  exact ⟨hr, ⟨by omega, by omega⟩, fr, lf, c, c.1.symm⟩
theorem PLC.nx {σ : MS} {m r p f : Int} (h : PLC σ m r p f) (h7 : kdm σ m r p ≠ 7) (h8 : kdm σ m r p ≠ 8) (h14 : kdm σ m r p ≠ 14) (h15 : kdm σ m r p ≠ 15) : PLC σ m r (p + 1) f := by
  obtain ⟨h1, h2, fr, lf, c, e⟩ := h
  have q := c.2.2.1 p h2.1 h2.2 h7 h8
  exact ⟨h1, ⟨by omega, q.1⟩, fr, lf, c, by rw [e]; exact (q.2.2.2 h14 h15).symm⟩
theorem PLC.enter {σ : MS} {m r p f : Int} (h : PLC σ m r p f) (h14 : kdm σ m r p = 14) : PLC σ m r (p + 1) (dsm σ m r p) ∧ prm σ m r (dsm σ m r p) = f ∧ 1 ≤ dsm σ m r p := by
  obtain ⟨h1, h2, fr, lf, c, e⟩ := h
  have k : iK σ (bkm m + r) p = 14 := h14
  have q := c.2.2.1 p h2.1 h2.2 (by omega) (by omega)
  have w := q.2.1 k
  exact ⟨⟨h1, ⟨by omega, q.1⟩, fr, lf, c, w.2.1.symm⟩, by rw [e]; exact w.1, w.2.2⟩
theorem PLC.leave {σ : MS} {m r p f : Int} (h : PLC σ m r p f) (h15 : kdm σ m r p = 15) : PLC σ m r (p + 1) (prm σ m r (dsm σ m r p)) ∧ dsm σ m r p = f ∧ 1 ≤ f := by
  obtain ⟨h1, h2, fr, lf, c, e⟩ := h
  have k : iK σ (bkm m + r) p = 15 := h15
  have q := c.2.2.1 p h2.1 h2.2 (by omega) (by omega)
  have w := q.2.2.1 k
  exact ⟨⟨h1, ⟨by omega, q.1⟩, fr, lf, c, w.2.2.symm⟩, by rw [e]; exact w.1, by rw [e, ← w.1]; exact w.2.1⟩
theorem PLC.jump {σ : MS} {m r p f j : Int} (h : PLC σ m r p f) (hk : kdm σ m r p = 8 ∨ kdm σ m r p = 9) (hj : 0 ≤ j ∧ j < σ.2.1 9 (bkm m + r)) (h13 : kdm σ m r j = 13) (hd : dsm σ m r j = dsm σ m r p) : PLC σ m r j f := by
  obtain ⟨h1, h2, fr, lf, c, e⟩ := h
  have a := (c.2.2.2.1 p h2.1 h2.2).1 (by have := hk; unfold kdm at this; simp only [iK]; omega)
  have b := (c.2.2.2.1 j hj.1 hj.2).1 (Or.inr (Or.inr h13))
  have d : iD σ (bkm m + r) j = iD σ (bkm m + r) p := hd
  refine ⟨h1, hj, fr, lf, c, ?_⟩
  rw [e, ← a, ← b, d]
theorem PLC.call {σ : MS} {m r p f : Int} (h : PLC σ m r p f) (b : BKG σ m r) (h10 : kdm σ m r p = 10) : 0 ≤ σ.2.1 5 (220 * (bkm m + r) + p) ∧ σ.2.1 5 (220 * (bkm m + r) + p) < σ.1 10 := by
  obtain ⟨h1, h2, fr, lf, c, e⟩ := h
  exact ⟨((b.2.1 p h2.1 h2.2).2.2.2.2.2.2.1 h10).1, (c.2.2.2.2 p h2.1 h2.2 h10).1⟩
theorem fm_fr {ss ks js : List Nat} {σ τ : MS} (f : Fr ss ks js σ τ) (h : 14 ∉ ks) (m r : Int) : fm τ m r = fm σ m r := by unfold fm; rw [f.2.1 14 h]
theorem prm_fr {ss ks js : List Nat} {σ τ : MS} (f : Fr ss ks js σ τ) (h : 16 ∉ ks) (m r : Int) : prm τ m r = prm σ m r := by funext g; unfold prm; rw [f.2.1 16 h]
theorem PLC.fr {ss ks js : List Nat} {σ τ : MS} {m r p f : Int} (h : PLC σ m r p f) (g : Fr ss ks js σ τ) (hs : 10 ∉ ss) (hk : ∀ k ∈ [3, 4, 5, 9, 14, 16], k ∉ ks) : PLC τ m r p f := by
  unfold PLC
  rw [g.1 10 hs, g.q hk (k := 9) (by decide), fm_fr g (hk 14 (by decide)), prm_fr g (hk 16 (by decide)), show iK τ = iK σ from by unfold iK; rw [g.q hk (k := 3) (by decide)], show iD τ = iD σ from by unfold iD; rw [g.q hk (k := 4) (by decide)], show iO τ = iO σ from by unfold iO; rw [g.q hk (k := 5) (by decide)]]
  exact h
theorem BKG.fr {ss ks js : List Nat} {σ τ : MS} {m r : Int} (h : BKG σ m r) (g : Fr ss ks js σ τ) (hs : 10 ∉ ss) (hk : ∀ k ∈ [3, 4, 5, 6, 7, 8, 9, 11, 14, 16, 18], k ∉ ks) : BKG τ m r := by
  have sub : ∀ l : List Nat, (∀ k ∈ l, k ∈ [3, 4, 5, 6, 7, 8, 9, 11, 14, 16, 18]) → ∀ k ∈ l, k ∉ ks := fun l hl k q => hk k (hl k q)
  obtain ⟨h1, h2, h3, h4, h5, h6, h7⟩ := h
  unfold BKG
  rw [fm_fr g (hk 14 (by decide)), prm_fr g (hk 16 (by decide)), g.q hk (k := 18) (by decide), g.q hk (k := 11) (by decide)]
  refine ⟨by rw [g.q hk (k := 9) (by decide)]; exact h1, h2.fr g (sub _ (by decide)), h3.fr g (sub _ (by decide)), ?_, h5, h6, h7⟩
  rw [g.1 10 hs, g.q hk (k := 9) (by decide), show iK τ = iK σ from by unfold iK; rw [g.q hk (k := 3) (by decide)], show iD τ = iD σ from by unfold iD; rw [g.q hk (k := 4) (by decide)], show iO τ = iO σ from by unfold iO; rw [g.q hk (k := 5) (by decide)]]
  exact h4
/-- depth of a frame -/
def dp (σ : MS) (m r f : Int) : Int := ch (prm σ m r) 13 f
theorem dch_dp {σ : MS} {m c : Int} : dch σ m c = dp σ m (σ.2.1 78 c) (σ.2.1 80 c) := rfl
theorem dp_1 {σ : MS} {m r f : Int} (h : 0 ≤ f) : 1 ≤ dp σ m r f := by
  unfold dp
  show 1 ≤ (if f = -1 then 0 else 1 + ch (prm σ m r) 12 (prm σ m r f))
  rw [if_neg (by omega)]
  have := (ch_rng (p := prm σ m r) 12 (prm σ m r f)).1
  omega
theorem dp_s {σ : MS} {m r f : Int} (b : BKG σ m r) (h : 0 ≤ f ∧ f < fm σ m r) : dp σ m r f = 1 + dp σ m r (prm σ m r f) := by
  unfold dp
  have hp := b.2.2.2.2.2.1
  have e : ch (prm σ m r) 13 f = 1 + ch (prm σ m r) 12 (prm σ m r f) := by
    show (if f = -1 then 0 else 1 + ch (prm σ m r) 12 (prm σ m r f)) = _
    rw [if_neg (by omega)]
  have q := hp f h.1 h.2
  have h12 := b.2.2.2.2.1
  rw [e, ch_fuel hp 12 13 (prm σ m r f) q.1 (by omega) (by omega) (by omega)]
theorem dp_0 {σ : MS} {m r : Int} (b : BKG σ m r) : dp σ m r 0 = 1 := by
  have q := b.2.2.2.2.2.1 0 (by omega) (by have := b.2.2.2.2.1; omega)
  rw [dp_s b ⟨by omega, by have := b.2.2.2.2.1; omega⟩, show prm σ m r 0 = -1 by omega]
  show 1 + ch (prm σ m r) 13 (-1) = 1
  rw [ch_m1]; rfl
/-- calls of a run as numbers: their routines, places, frames -/
def dsum (σ : MS) (m : Int) (R P : Int → Int) : Nat → Int
  | 0 => 0
  | n + 1 => dsum σ m R P n + dp σ m (R (9 * m + n)) (P (9 * m + n))
theorem dsum_ext {σ : MS} {m : Int} {R P R' P' : Int → Int} (n : Nat) (h : ∀ j : Int, 9 * m ≤ j → j < 9 * m + n → R' j = R j ∧ P' j = P j) : dsum σ m R' P' n = dsum σ m R P n := by
  induction n with
  | zero => rfl
  | succ n ih =>
    unfold dsum
    rw [ih (fun j a b => h j a (by omega)), (h (9 * m + n) (by omega) (by omega)).1, (h (9 * m + n) (by omega) (by omega)).2]
theorem dsum_ge {σ : MS} {m : Int} {R P : Int → Int} (n : Nat) (h : ∀ j : Int, 9 * m ≤ j → j < 9 * m + n → 0 ≤ P j) : (n : Int) ≤ dsum σ m R P n := by
  induction n with
  | zero => exact Int.le_refl _
  | succ n ih =>
    have a := ih (fun j a b => h j a (by omega))
    have b := dp_1 (σ := σ) (m := m) (r := R (9 * m + n)) (h (9 * m + n) (by omega) (by omega))
    unfold dsum
    omega
theorem dpt_dsum (σ : MS) (m : Int) : dpt σ m = dsum σ m (σ.2.1 78) (σ.2.1 80) (σ.2.1 73 m).toNat := by
  unfold dpt
  generalize (σ.2.1 73 m).toNat = n
  induction n with
  | zero => rfl
  | succ n ih => unfold sm dsum; rw [ih, dch_dp]
theorem dsum_fr {ss ks js : List Nat} {σ τ : MS} {m : Int} {R P : Int → Int} (f : Fr ss ks js σ τ) (h : 16 ∉ ks) (n : Nat) : dsum τ m R P n = dsum σ m R P n := by
  induction n with
  | zero => rfl
  | succ n ih => unfold dsum; rw [ih]; unfold dp; rw [prm_fr f h]
/-- a run stands well -/
def RUN (σ : MS) (m : Int) : Prop := (1 ≤ σ.2.1 73 m ∧ σ.2.1 73 m ≤ 9) ∧ (∀ c, 9 * m ≤ c → c < 9 * m + σ.2.1 73 m → PLC σ m (σ.2.1 78 c) (σ.2.1 79 c) (σ.2.1 80 c)) ∧ (∀ c, 9 * m ≤ c → c + 1 < 9 * m + σ.2.1 73 m → kdm σ m (σ.2.1 78 c) (σ.2.1 79 c) = 10) ∧ dpt σ m ≤ 9
theorem RUN.ge {σ : MS} {m : Int} (h : RUN σ m) : σ.2.1 73 m ≤ dpt σ m := by
  rw [dpt_dsum]
  have := dsum_ge (σ := σ) (m := m) (R := σ.2.1 78) (P := σ.2.1 80) (σ.2.1 73 m).toNat (fun j a b => (h.2.1 j a (by have := h.1; omega)).rng.1)
  have := h.1
  omega
theorem dsum_s {σ : MS} {m n : Int} {R P : Int → Int} (h : 1 ≤ n) : dsum σ m R P n.toNat = dsum σ m R P (n - 1).toNat + dp σ m (R (9 * m + (n - 1))) (P (9 * m + (n - 1))) := by
  rw [show n.toNat = (n - 1).toNat + 1 by omega]
  show dsum σ m R P (n - 1).toNat + dp σ m (R (9 * m + ((n - 1).toNat : Int))) (P (9 * m + ((n - 1).toNat : Int))) = _
  rw [show ((n - 1).toNat : Int) = n - 1 by omega]
theorem RUN.top {ss ks js : List Nat} {σ τ : MS} {m t : Int} (h : RUN σ m) (ht : t = 9 * m + σ.2.1 73 m - 1) (g : Fr ss ks js σ τ) (hs : 10 ∉ ss) (hk : ∀ k ∈ [3, 4, 5, 9, 14, 16], k ∉ ks) (e73 : τ.2.1 73 m = σ.2.1 73 m) (e78 : ∀ c, 9 * m ≤ c → c < 9 * m + 9 → τ.2.1 78 c = σ.2.1 78 c) (e : ∀ c, 9 * m ≤ c → c < t → τ.2.1 79 c = σ.2.1 79 c ∧ τ.2.1 80 c = σ.2.1 80 c)
    (hp : PLC σ m (σ.2.1 78 t) (τ.2.1 79 t) (τ.2.1 80 t)) (hd : dp σ m (σ.2.1 78 t) (τ.2.1 80 t) + dpt σ m ≤ 9 + dp σ m (σ.2.1 78 t) (σ.2.1 80 t)) : RUN τ m := by
  obtain ⟨h1, h2, h3, h4⟩ := h
  refine ⟨by rw [e73]; exact h1, fun c a b => ?_, fun c a b => ?_, ?_⟩
  · rw [e73] at b
    rw [e78 c a (by omega)]
    by_cases z : c = t
    · rw [z]; exact hp.fr g hs hk
    · rw [(e c a (by omega)).1, (e c a (by omega)).2]; exact (h2 c a b).fr g hs hk
  · rw [e73] at b
    rw [e78 c a (by omega), (e c a (by omega)).1]
    unfold kdm; rw [g.q hk (k := 3) (by decide)]
    exact h3 c a b
  · rw [dpt_dsum] at hd ⊢
    rw [e73, dsum_fr g (hk 16 (by decide)), dsum_s h1.1]
    rw [dsum_s h1.1] at hd
    rw [show 9 * m + (σ.2.1 73 m - 1) = t by omega] at hd ⊢
    rw [dsum_ext (R := σ.2.1 78) (P := σ.2.1 80) _ (fun j a b => ⟨e78 j a (by omega), (e j a (by omega)).2⟩), e78 t (by omega) (by omega)]
    omega
theorem RUN.push {ss ks js : List Nat} {σ τ : MS} {m r : Int} (h : RUN σ m) (g : Fr ss ks js σ τ) (hs : 10 ∉ ss) (hk : ∀ k ∈ [3, 4, 5, 9, 14, 16], k ∉ ks) (e73 : τ.2.1 73 m = σ.2.1 73 m + 1) (e : ∀ c, 9 * m ≤ c → c < 9 * m + σ.2.1 73 m → τ.2.1 78 c = σ.2.1 78 c ∧ τ.2.1 79 c = σ.2.1 79 c ∧ τ.2.1 80 c = σ.2.1 80 c)
    (en : τ.2.1 78 (9 * m + σ.2.1 73 m) = r ∧ τ.2.1 79 (9 * m + σ.2.1 73 m) = 0 ∧ τ.2.1 80 (9 * m + σ.2.1 73 m) = 0) (b : BKG σ m r) (hr : 0 ≤ r ∧ r < σ.1 10) (h10 : kdm σ m (σ.2.1 78 (9 * m + σ.2.1 73 m - 1)) (σ.2.1 79 (9 * m + σ.2.1 73 m - 1)) = 10) (hd : dpt σ m ≤ 8) : RUN τ m := by
  have ge := h.ge
  obtain ⟨h1, h2, h3, h4⟩ := h
  refine ⟨by rw [e73]; omega, fun c x y => ?_, fun c x y => ?_, ?_⟩
  · rw [e73] at y
    by_cases z : c = 9 * m + σ.2.1 73 m
    · rw [z, en.1, en.2.1, en.2.2]; exact (PLC.start b hr).fr g hs hk
    · rw [(e c x (by omega)).1, (e c x (by omega)).2.1, (e c x (by omega)).2.2]; exact (h2 c x (by omega)).fr g hs hk
  · rw [e73] at y
    rw [(e c x (by omega)).1, (e c x (by omega)).2.1]
    unfold kdm; rw [g.q hk (k := 3) (by decide)]
    by_cases z : c = 9 * m + σ.2.1 73 m - 1
    · rw [z]; exact h10
    · exact h3 c x (by omega)
  · rw [dpt_dsum] at hd ⊢
    rw [e73, dsum_fr g (hk 16 (by decide)), dsum_s (by omega), show σ.2.1 73 m + 1 - 1 = σ.2.1 73 m by omega, en.1, en.2.2, dp_0 b]
    rw [dsum_ext (R := σ.2.1 78) (P := σ.2.1 80) _ (fun j a b => ⟨(e j a (by omega)).1, (e j a (by omega)).2.2⟩)]
    omega
theorem RUN.pop {ss ks js : List Nat} {σ τ : MS} {m d : Int} (h : RUN σ m) (hd : d = 9 * m + σ.2.1 73 m - 2) (h2c : 2 ≤ σ.2.1 73 m) (g : Fr ss ks js σ τ) (hs : 10 ∉ ss) (hk : ∀ k ∈ [3, 4, 5, 9, 14, 16], k ∉ ks) (e73 : τ.2.1 73 m = σ.2.1 73 m - 1) (e78 : ∀ c, τ.2.1 78 c = σ.2.1 78 c) (e80 : ∀ c, τ.2.1 80 c = σ.2.1 80 c) (e79 : ∀ c, c ≠ d → τ.2.1 79 c = σ.2.1 79 c) (en : τ.2.1 79 d = σ.2.1 79 d + 1) : RUN τ m := by
  obtain ⟨h1, h2, h3, h4⟩ := h
  refine ⟨by rw [e73]; omega, fun c x y => ?_, fun c x y => ?_, ?_⟩
  · rw [e73] at y
    rw [e78, e80]
    by_cases z : c = d
    · rw [z, en]
      have k := h3 d (by omega) (by omega)
      exact ((h2 d (by omega) (by omega)).nx (by omega) (by omega) (by omega) (by omega)).fr g hs hk
    · rw [e79 c z]; exact (h2 c x (by omega)).fr g hs hk
  · rw [e73] at y
    rw [e78, e79 c (by omega)]
    unfold kdm; rw [g.q hk (k := 3) (by decide)]
    exact h3 c x (by omega)
  · rw [dpt_dsum] at h4 ⊢
    rw [e73, dsum_fr g (hk 16 (by decide)), dsum_ext (R := σ.2.1 78) (P := σ.2.1 80) _ (fun j a b => ⟨e78 j, e80 j⟩)]
    rw [dsum_s h1.1] at h4
    have := dp_1 (σ := σ) (m := m) (r := σ.2.1 78 (9 * m + (σ.2.1 73 m - 1))) (h2 (9 * m + (σ.2.1 73 m - 1)) (by omega) (by omega)).rng.1
    omega
/-- the calls of another run stay -/
def XM (m : Int) (σ τ : MS) : Prop := (∀ j, j ≠ m → τ.2.1 73 j = σ.2.1 73 j ∧ τ.2.1 76 j = σ.2.1 76 j) ∧ ∀ c, (c < 9 * m ∨ 9 * m + 9 ≤ c) → τ.2.1 78 c = σ.2.1 78 c ∧ τ.2.1 79 c = σ.2.1 79 c ∧ τ.2.1 80 c = σ.2.1 80 c
theorem RUN.oth {ss ks js : List Nat} {σ τ : MS} {m m' : Int} (h : RUN σ m') (hm : m' ≠ m) (x : XM m σ τ) (g : Fr ss ks js σ τ) (hs : 10 ∉ ss) (hk : ∀ k ∈ [3, 4, 5, 9, 14, 16], k ∉ ks) : RUN τ m' := by
  obtain ⟨h1, h2, h3, h4⟩ := h
  have e73 := (x.1 m' hm).1
  have ee : ∀ c, 9 * m' ≤ c → c < 9 * m' + 9 → τ.2.1 78 c = σ.2.1 78 c ∧ τ.2.1 79 c = σ.2.1 79 c ∧ τ.2.1 80 c = σ.2.1 80 c := fun c a b => x.2 c (by omega)
  refine ⟨by rw [e73]; exact h1, fun c a b => ?_, fun c a b => ?_, ?_⟩
  · rw [e73] at b
    rw [(ee c a (by omega)).1, (ee c a (by omega)).2.1, (ee c a (by omega)).2.2]; exact (h2 c a b).fr g hs hk
  · rw [e73] at b
    rw [(ee c a (by omega)).1, (ee c a (by omega)).2.1]
    unfold kdm; rw [g.q hk (k := 3) (by decide)]
    exact h3 c a b
  · rw [dpt_dsum] at h4 ⊢
    rw [e73, dsum_fr g (hk 16 (by decide)), dsum_ext (R := σ.2.1 78) (P := σ.2.1 80) _ (fun j a b => ⟨(ee j a (by omega)).1, (ee j a (by omega)).2.2⟩)]
    exact h4
theorem RUN.dec {σ : MS} {m : Int} (h : RUN σ m) (b : ∀ r, 0 ≤ r → r < σ.1 10 → BKG σ m r) (hR : σ.1 10 ≤ 6) : ∀ c, 9 * m ≤ c → c < 9 * m + σ.2.1 73 m → DEC σ m c (fn σ m c) := fun c x y => by
  have p := h.2.1 c x y
  have q := b _ p.1.1 p.1.2
  have r := p.rng
  have e : fn σ m c = fm σ m (σ.2.1 78 c) := rfl
  rw [e]
  refine ⟨⟨p.1.1, by have := p.1.2; omega⟩, ⟨by omega, r.2, q.2.2.2.2.1.2⟩, fun f a c => q.2.2.2.2.2.1 f a c⟩
theorem bkm_2 {m v : Int} (h1 : m = 2 → v = 6) (h2 : m ≠ 2 → v = 0) : v = bkm m := by
  unfold bkm
  by_cases e : m = 2
  · rw [if_pos e]; exact h1 e
  · rw [if_neg e]; exact h2 e
theorem bkm_r (m : Int) : (m = 2 → bkm m = 6) ∧ (m ≠ 2 → bkm m = 0) := ⟨fun h => if_pos h, fun h => if_neg h⟩
/-- codes of all routines, for run m -/
def BKA (σ : MS) (m : Int) : Prop := (0 ≤ σ.1 10 ∧ σ.1 10 ≤ 6) ∧ ∀ r, 0 ≤ r → r < σ.1 10 → BKG σ m r
theorem BKA.fr {ss ks js : List Nat} {σ τ : MS} {m : Int} (h : BKA σ m) (g : Fr ss ks js σ τ) (hs : 10 ∉ ss) (hk : ∀ k ∈ [3, 4, 5, 6, 7, 8, 9, 11, 14, 16, 18], k ∉ ks) : BKA τ m := ⟨by rw [g.1 10 hs]; exact h.1, fun r a b => (h.2 r a (by rw [← g.1 10 hs]; exact b)).fr g hs hk⟩
theorem GDR.bkg {σ : MS} {m r : Int} (h : GDR σ r) (hm : m ≠ 2) : BKG σ m r := by
  have b : bkm m + r = r := by have := (bkm_r m).2 hm; omega
  have f : fm σ m r = σ.2.1 14 r := if_neg hm
  have p : prm σ m r = iF σ r := by funext g; exact if_neg hm
  obtain ⟨h1, h2, h3, h4, h5, h6, h7, h8, h9⟩ := h
  unfold BKG
  rw [b, f, p]
  refine ⟨h1, h3, h5, h6, h2.1, fun g a c => ?_, fun n a c _ => ?_⟩
  · by_cases z : g = 0
    · have := h7.1; rw [z]; simp only [iF]; omega
    · have := h7.2 g (by omega) c; simp only [iF]; omega
  · have q := (h2.2 0 (by omega) (by have := h2.1; omega)).2 n a (by unfold FR0 at h4; rw [h4]; omega)
    rw [Int.mul_zero, Int.add_zero] at q; exact q

