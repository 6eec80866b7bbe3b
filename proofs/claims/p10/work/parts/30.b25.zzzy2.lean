/-! a run of the reference, told exactly -/
/-- an operand's worth in call c -/
def wth (σ : MS) (c k v : Int) : Int := if k = 2 then σ.2.1 82 (192 * c + v) else v
def wA (σ : MS) (t x n : Int) : Int := wth σ t (σ.2.1 7 (4 * x + n)) (σ.2.1 8 (4 * x + n))
theorem wA_0 {σ : MS} {t x v : Int} (h : v = wth σ t (σ.2.1 7 (4 * x)) (σ.2.1 8 (4 * x))) : v = wA σ t x 0 := by
  unfold wA
  rw [Int.add_zero]
  exact h
/-- noughts from a to b -/
def ZR (k : Nat) (a b : Int) (σ τ : MS) : Prop := ∀ j, τ.2.1 k j = if a ≤ j ∧ j < b then 0 else σ.2.1 k j
theorem ZR.z {k : Nat} {a b : Int} {σ : MS} (e : b = a) : ZR k a b σ σ := fun j => by rw [if_neg (by omega)]
theorem ZR.put {k : Nat} {a b b2 : Int} {σ τ : MS} (h : ZR k a b σ τ) (hb : a ≤ b) (e : b2 = b + 1) : ZR k a b2 σ (sA k b 0 τ) := fun j => by
  by_cases z : j = b
  · rw [z, show (sA k b 0 τ).2.1 k b = 0 from ra_eq, if_pos ⟨hb, by omega⟩]
  · rw [show (sA k b 0 τ).2.1 k j = τ.2.1 k j from ra_ne z rfl, h j]
    by_cases y : a ≤ j ∧ j < b
    · rw [if_pos y, if_pos ⟨y.1, by omega⟩]
    · rw [if_neg y, if_neg (by omega)]
theorem ZR.l {k : Nat} {a b : Int} {σ σ1 τ : MS} (h : ZR k a b σ1 τ) (e : σ1.2.1 k = σ.2.1 k) : ZR k a b σ τ := fun j => by rw [h j, e]
theorem ZR.r {k : Nat} {a b : Int} {σ τ τ2 : MS} (h : ZR k a b σ τ) (e : τ2.2.1 k = τ.2.1 k) : ZR k a b σ τ2 := fun j => by rw [e]; exact h j
/-- homes are written, one behind the other -/
def pwR (H W : Int → Int) : Nat → (Int → Int) → Int → Int
  | 0, R => R
  | n + 1, R => uZ (pwR H W n R) (H n) (W n)
theorem pwR_c {H H2 W W2 R R2 : Int → Int} {n : Nat} (h : ∀ i : Int, 0 ≤ i → i < (n : Int) → H i = H2 i ∧ W i = W2 i) {g : Int} (hr : R g = R2 g) : pwR H W n R g = pwR H2 W2 n R2 g := by
  induction n with
  | zero => exact hr
  | succ n ih =>
    have q := h n (by omega) (by omega)
    show uZ (pwR H W n R) (H n) (W n) g = uZ (pwR H2 W2 n R2) (H2 n) (W2 n) g
    unfold uZ
    rw [q.1, q.2, ih (fun i a b => h i a (by omega))]
def hmP (σ : MS) (m q n : Int) : Int := if m = 2 then n else σ.2.1 18 (144 * q + n)
theorem hmp_of {σ : MS} {m q n v : Int} (h1 : m = 2 → v = n) (h2 : m ≠ 2 → v = σ.2.1 18 (144 * q + n)) : v = hmP σ m q n := by
  unfold hmP
  by_cases e : m = 2
  · rw [if_pos e]; exact h1 e
  · rw [if_neg e]; exact h2 e
theorem hmp_r {σ : MS} {m q n : Int} (hn : 0 ≤ n ∧ n < 192) (h : m ≠ 2 → 0 ≤ σ.2.1 18 (144 * q + n) ∧ σ.2.1 18 (144 * q + n) < 192) : 0 ≤ hmP σ m q n ∧ hmP σ m q n < 192 := by
  unfold hmP
  by_cases e : m = 2
  · rw [if_pos e]; exact hn
  · rw [if_neg e]; exact h e
def PWG (H W : Int → Int) (B : Int) (σ : MS) (n : Int) (τ : MS) : Prop := ∀ j, τ.2.1 82 j = if B ≤ j ∧ j < B + 192 then pwR H W n.toNat (fun g => σ.2.1 82 (B + g)) (j - B) else σ.2.1 82 j
theorem PWG.z {H W : Int → Int} {B : Int} {σ : MS} : PWG H W B σ 0 σ := fun j => by
  by_cases y : B ≤ j ∧ j < B + 192
  · rw [if_pos y]
    show σ.2.1 82 j = σ.2.1 82 (B + (j - B))
    rw [show B + (j - B) = j by omega]
  · rw [if_neg y]
theorem PWG.put {H W : Int → Int} {B n i w : Int} {σ τ : MS} (h : PWG H W B σ n τ) (n0 : 0 ≤ n) (hr : 0 ≤ H n ∧ H n < 192) (hi : i = B + H n) (hw : w = W n) : PWG H W B σ (n + 1) (sA 82 i w τ) := fun j => by
  have e : (n + 1).toNat = n.toNat + 1 := by omega
  have e2 : ((n.toNat : Nat) : Int) = n := by omega
  rw [e]
  have un : pwR H W (n.toNat + 1) (fun g => σ.2.1 82 (B + g)) = uZ (pwR H W n.toNat (fun g => σ.2.1 82 (B + g))) (H n) (W n) := by
    show uZ (pwR H W n.toNat (fun g => σ.2.1 82 (B + g))) (H ((n.toNat : Nat) : Int)) (W ((n.toNat : Nat) : Int)) = _
    rw [e2]
  rw [un]
  by_cases z : j = i
  · rw [z, show (sA 82 i w τ).2.1 82 i = w from ra_eq, if_pos (by omega), show i - B = H n by omega, uZ_eq]
    exact hw
  · rw [show (sA 82 i w τ).2.1 82 j = τ.2.1 82 j from ra_ne z rfl, h j]
    by_cases y : B ≤ j ∧ j < B + 192
    · rw [if_pos y, if_pos y, uZ_ne (by omega)]
    · rw [if_neg y, if_neg y]
theorem PWG.w {H W : Int → Int} {c n k v : Int} {σ τ : MS} (h : PWG H W (192 * c + 192) σ n τ) (hv : k = 2 → 0 ≤ v ∧ v < 192) : wth τ c k v = wth σ c k v := by
  unfold wth
  by_cases e : k = 2
  · have q := hv e
    rw [if_pos e, if_pos e, h (192 * c + v), if_neg (by omega)]
  · rw [if_neg e, if_neg e]
/-- a call is entered -/
def ECX (σ : MS) (m q : Int) (τ : MS) : Prop := Fr [] [73, 78, 79, 80, 81, 82] [] σ τ ∧ τ.2.1 73 m = σ.2.1 73 m + 1 ∧ (τ.2.1 78 (9 * m + σ.2.1 73 m) = q ∧ τ.2.1 79 (9 * m + σ.2.1 73 m) = 0 ∧ τ.2.1 80 (9 * m + σ.2.1 73 m) = 0) ∧ (∀ j, j ≠ m → τ.2.1 73 j = σ.2.1 73 j) ∧ (∀ j, j ≠ 9 * m + σ.2.1 73 m → τ.2.1 78 j = σ.2.1 78 j ∧ τ.2.1 79 j = σ.2.1 79 j ∧ τ.2.1 80 j = σ.2.1 80 j) ∧ (ZR 81 (12 * (9 * m + σ.2.1 73 m)) (12 * (9 * m + σ.2.1 73 m) + 12) σ τ ∧ ZR 82 (192 * (9 * m + σ.2.1 73 m)) (192 * (9 * m + σ.2.1 73 m) + 192) σ τ)
def CLX7 (σ : MS) (m t x : Int) (σ2 : MS) : Prop := ∃ τ, ECX σ m (σ.2.1 5 x) τ ∧ Fr [] [82] [] τ σ2 ∧ PWG (hmP τ m (σ.2.1 5 x)) (wA τ t x) (192 * t + 192) τ (σ.2.1 11 (σ.2.1 5 x)) σ2
/-- what a call gives back -/
def RTX (σ : MS) (m c w v : Int) (σ2 : MS) : Prop :=
  (v = 2 ∧ σ.2.1 73 m = 1 ∧ σ2 = sA 75 m w (sA 73 m (σ.2.1 73 m - 1) σ)) ∨
  (v = 0 ∧ 2 ≤ σ.2.1 73 m ∧ σ2 = sA 79 (c - 1) (σ.2.1 79 (c - 1) + 1) (sA 82 (192 * (c - 1) + σ.2.1 4 (220 * (bkm m + σ.2.1 78 (c - 1)) + σ.2.1 79 (c - 1))) w (sA 73 m (σ.2.1 73 m - 1) σ)))
def JTO (σ : MS) (m t x j : Int) : Prop := (0 ≤ j ∧ j < σ.2.1 9 (bkm m + σ.2.1 78 t)) ∧ σ.2.1 3 (220 * (bkm m + σ.2.1 78 t) + j) = 13 ∧ σ.2.1 4 (220 * (bkm m + σ.2.1 78 t) + j) = σ.2.1 4 x
/-- one step: call t, item x -/
def STX (σ : MS) (m t x v : Int) (σ2 : MS) : Prop :=
  (v = 3 ∧ (σ.2.1 3 x = 10 ∨ σ.2.1 3 x = 14) ∧ dpt σ m = 9 ∧ σ2 = σ) ∨
  (σ.2.1 3 x = 7 ∧ RTX σ m t (wA σ t x 0) v σ2) ∨
  (σ.2.1 3 x = 0 ∧ v = 0 ∧ σ2 = sA 79 t (σ.2.1 79 t + 1) (sA 82 (192 * t + σ.2.1 4 x) (wA σ t x 0) σ)) ∨
  ((1 ≤ σ.2.1 3 x ∧ σ.2.1 3 x ≤ 5) ∧ v = 0 ∧ σ2 = sA 79 t (σ.2.1 79 t + 1) (sA 82 (192 * t + σ.2.1 4 x) (wkd (σ.2.1 3 x) (wA σ t x 0) (wA σ t x 1)) σ)) ∨
  (σ.2.1 3 x = 6 ∧ v = 0 ∧ σ2 = sA 79 t (σ.2.1 79 t + 1) (sA 76 m (σ.2.1 76 m + 1) (if σ.2.1 76 m < 200 then sA 77 (200 * m + σ.2.1 76 m) (wA σ t x 0) σ else σ))) ∨
  ((σ.2.1 3 x = 8 ∨ (σ.2.1 3 x = 9 ∧ wA σ t x 0 = 0)) ∧ v = 0 ∧ ∃ j, JTO σ m t x j ∧ σ2 = sA 79 t j σ) ∨
  (((σ.2.1 3 x = 9 ∧ wA σ t x 0 ≠ 0) ∨ σ.2.1 3 x = 12 ∨ σ.2.1 3 x = 13) ∧ v = 0 ∧ σ2 = sA 79 t (σ.2.1 79 t + 1) σ) ∨
  (σ.2.1 3 x = 11 ∧ v = 1 ∧ σ2 = sA 79 t (σ.2.1 79 t + 1) (sA 81 (12 * t + σ.2.1 5 x) (σ.2.1 4 x) σ)) ∨
  (σ.2.1 3 x = 14 ∧ v = 0 ∧ dpt σ m ≠ 9 ∧ σ2 = sA 79 t (σ.2.1 79 t + 1) (sA 81 (12 * t + σ.2.1 4 x) 0 (sA 80 t (σ.2.1 4 x) σ))) ∨
  (σ.2.1 3 x = 15 ∧ v = 0 ∧ σ2 = sA 79 t (σ.2.1 79 t + 1) (sA 80 t (σ.2.1 16 (12 * σ.2.1 78 t + σ.2.1 4 x)) σ)) ∨
  (σ.2.1 3 x = 10 ∧ v = 0 ∧ dpt σ m ≠ 9 ∧ CLX7 σ m t x σ2)
def STQ (σ : MS) (m v : Int) (σ2 : MS) : Prop := STX σ m (9 * m + σ.2.1 73 m - 1) (220 * (bkm m + σ.2.1 78 (9 * m + σ.2.1 73 m - 1)) + σ.2.1 79 (9 * m + σ.2.1 73 m - 1)) v σ2
/-- steps that stop nowhere: how w, from depth q on; e: one was out of it -/
def gST (w q v d e : Int) : Prop := v = 1 ∧ (w = 0 ∨ (w = 1 ∧ d ≤ q) ∨ (w = 2 ∧ e = 1))
/-- a state on the way of a go -/
def GWY (σ τ : MS) : Prop := RUN τ 0 ∧ Fr [68, 69, 70] [73, 75, 76, 77, 78, 79, 80, 81, 82] [] σ τ ∧ (0 ≤ τ.2.1 76 0 ∧ τ.2.1 76 0 ≤ 1000000000) ∧ 0 ≤ τ.1 70 ∧ τ.1 70 ≤ 1500000000
def RCH (w q : Int) : Nat → MS → Int → MS → Prop
  | 0, σ, e, τ => τ = σ ∧ e = 0
  | t + 1, σ, e, τ => ∃ e1 τ1 v τ2, RCH w q t σ e1 τ1 ∧ GWY σ τ1 ∧ STQ τ1 0 v τ2 ∧ (v = 0 ∨ v = 1) ∧ τ = sS 70 (τ1.1 70 + 1) τ2 ∧ ((e = 0 ∨ e = 1) ∧ (e = 1 ↔ e1 = 1 ∨ dpt τ 0 < q)) ∧ ¬ gST w q v (dpt τ 0) e
theorem RCH.s {w q i e e2 v : Int} {σ τ1 τ2 : MS} (h : RCH w q i.toNat σ e τ1) (i0 : 0 ≤ i) (gw : GWY σ τ1) (s : STQ τ1 0 v τ2) (hv : v = 0 ∨ v = 1) (he : (e2 = 0 ∨ e2 = 1) ∧ (e2 = 1 ↔ e = 1 ∨ dpt (sS 70 (τ1.1 70 + 1) τ2) 0 < q)) (hn : ¬ gST w q v (dpt (sS 70 (τ1.1 70 + 1) τ2) 0) e2) : RCH w q (i + 1).toNat σ e2 (sS 70 (τ1.1 70 + 1) τ2) := by
  rw [show (i + 1).toNat = i.toNat + 1 by omega]
  exact ⟨e, τ1, v, τ2, h, gw, s, hv, rfl, he, hn⟩
/-- how a go ends that comes to an end ahead of its many steps -/
def GOE (w q nn : Int) (σ : MS) (v : Int) (σ2 : MS) : Prop := ∃ (t : Nat) (e : Int) (τ : MS), RCH w q t σ e τ ∧ GWY σ τ ∧ (((t : Int) = nn ∧ v = 2 ∧ σ2 = τ) ∨ ((t : Int) < nn ∧ ∃ k τ2, STQ τ 0 k τ2 ∧ ((k = 3 ∧ v = 3 ∧ σ2 = sS 69 1 τ2) ∨ (k = 2 ∧ v = 0 ∧ σ2 = sS 68 1 (sS 70 (τ.1 70 + 1) τ2)) ∨ (v = 1 ∧ σ2 = sS 70 (τ.1 70 + 1) τ2 ∧ ∃ e2, ((e2 = 0 ∨ e2 = 1) ∧ (e2 = 1 ↔ e = 1 ∨ dpt σ2 0 < q)) ∧ gST w q k (dpt σ2 0) e2))))
def GOF7 (σ : MS) (w nn v : Int) (σ2 : MS) : Prop :=
  (¬ (σ.1 67 ≠ 0 ∧ (0 ≤ w ∧ w ≤ 2) ∧ 1 ≤ nn ∧ nn ≤ 20000) ∧ v = -1 ∧ σ2 = sS 0 0 σ) ∨
  ((σ.1 67 ≠ 0 ∧ (0 ≤ w ∧ w ≤ 2) ∧ 1 ≤ nn ∧ nn ≤ 20000) ∧ ((σ.1 69 ≠ 0 ∧ v = 3 ∧ σ2 = sS 0 0 σ) ∨ (σ.1 69 = 0 ∧ σ.1 68 ≠ 0 ∧ v = 0 ∧ σ2 = sS 0 0 σ) ∨ (σ.1 69 = 0 ∧ σ.1 68 = 0 ∧ GOE w (dpt σ 0) nn (sS 0 0 σ) v σ2)))
/-- a machine begins -/
def prW (a b c d n : Int) : Int := if n = 0 then a else if n = 1 then b else if n = 2 then c else d
def SMQ7 (σ : MS) (m x a b c d : Int) (τ : MS) : Prop := (∀ g, 0 ≤ g → g < 192 → τ.2.1 82 (192 * (9 * m) + g) = pwR (hmP σ m x) (prW a b c d) (σ.2.1 11 x).toNat (fun _ => 0) g) ∧ (∀ f, 0 ≤ f → f < 12 → τ.2.1 81 (12 * (9 * m) + f) = 0) ∧ τ.2.1 75 m = 0 ∧ (∀ j, (j < 192 * (9 * m) ∨ 192 * (9 * m) + 192 ≤ j) → τ.2.1 82 j = σ.2.1 82 j) ∧ (∀ j, (j < 12 * (9 * m) ∨ 12 * (9 * m) + 12 ≤ j) → τ.2.1 81 j = σ.2.1 81 j) ∧ ∀ j, j ≠ m → τ.2.1 75 j = σ.2.1 75 j
theorem smq_of {σ s σE σ2 : MS} {m x a b c d : Int} (e73 : s.2.1 73 m = 0) (z : ZR 81 (12 * (9 * m + s.2.1 73 m)) (12 * (9 * m + s.2.1 73 m) + 12) s σE ∧ ZR 82 (192 * (9 * m + s.2.1 73 m)) (192 * (9 * m + s.2.1 73 m) + 192) s σE) (p : PWG (hmP σE m x) (prW a b c d) (1728 * m) σE (σE.2.1 11 x) σ2) (fE : Fr [] [73, 78, 79, 80, 81, 82] [] s σE) (f2 : Fr [] [82] [] σE σ2) (e : (s.2.1 81 = σ.2.1 81 ∧ s.2.1 82 = σ.2.1 82) ∧ s.2.1 11 = σ.2.1 11 ∧ s.2.1 18 = σ.2.1 18) (h75 : s.2.1 75 m = 0 ∧ ∀ j, j ≠ m → s.2.1 75 j = σ.2.1 75 j) : SMQ7 σ m x a b c d σ2 := by
  obtain ⟨z1, z2⟩ := z
  rw [e73, show 9 * m + 0 = 9 * m by omega] at z1 z2
  have e11 : σE.2.1 11 = σ.2.1 11 := (fE.2.1 11 (by decide)).trans e.2.1
  have e18 : σE.2.1 18 = σ.2.1 18 := (fE.2.1 18 (by decide)).trans e.2.2
  have eh : hmP σE m x = hmP σ m x := by unfold hmP; rw [e18]
  rw [eh, e11] at p
  have f81 : σ2.2.1 81 = σE.2.1 81 := f2.2.1 81 (by decide)
  have f75 : σ2.2.1 75 = s.2.1 75 := (f2.2.1 75 (by decide)).trans (fE.2.1 75 (by decide))
  refine ⟨fun g g0 g1 => ?_, fun f f0 f1 => ?_, by rw [f75]; exact h75.1, fun j hj => ?_, fun j hj => ?_, fun j hj => by rw [f75]; exact h75.2 j hj⟩
  · rw [p (192 * (9 * m) + g), if_pos (by omega), show 192 * (9 * m) + g - 1728 * m = g by omega]
    refine pwR_c (fun i _ _ => ⟨rfl, rfl⟩) ?_
    show σE.2.1 82 (1728 * m + g) = 0
    rw [z2 _, if_pos (by omega)]
  · rw [f81, z1 _, if_pos (by omega)]
  · rw [p j, if_neg (by omega), z2 j, if_neg (by omega), e.1.2]
  · rw [f81, z1 j, if_neg (by omega), e.1.1]
/-- start -/
def STS (σ : MS) (x a b c d v : Int) (τ : MS) : Prop := (v = 0 ∧ τ = sS 0 0 σ) ∨ (v = 1 ∧ (0 ≤ x ∧ x < σ.1 10) ∧ (τ.1 67 = 1 ∧ τ.1 68 = 0 ∧ τ.1 69 = 0 ∧ τ.1 70 = 0) ∧ (τ.2.1 73 0 = 1 ∧ (τ.2.1 78 0 = x ∧ τ.2.1 79 0 = 0 ∧ τ.2.1 80 0 = 0) ∧ τ.2.1 76 0 = 0) ∧ SMQ7 σ 0 x a b c d τ)
/-- run and printed -/
def RNA (σ : MS) (w v : Int) : Prop := (σ.1 67 = 0 ∧ v = -1) ∨ (σ.1 67 ≠ 0 ∧ ((w = 0 ∧ σ.1 68 ≠ 0 ∧ v = -1) ∨ (w = 0 ∧ σ.1 68 = 0 ∧ v = σ.2.1 79 (σ.2.1 73 0 - 1)) ∨ (w = 1 ∧ v = σ.2.1 76 0) ∨ (w = 2 ∧ v = σ.1 70) ∨ (w = 3 ∧ v = σ.2.1 75 0) ∨ (w = 4 ∧ σ.1 68 ≠ 0 ∧ v = 0) ∨ (w = 4 ∧ σ.1 68 = 0 ∧ v = dpt σ 0) ∨ (w = 5 ∧ σ.1 69 ≠ 0 ∧ v = 1) ∨ (w = 5 ∧ σ.1 69 = 0 ∧ v = 0) ∨ ((w < 0 ∨ 5 < w) ∧ v = -1)))
def PRA (σ : MS) (x v : Int) : Prop := ((σ.1 67 ≠ 0 ∧ 0 ≤ x ∧ x < 200 ∧ x < σ.2.1 76 0) ∧ v = σ.2.1 77 x) ∨ (¬ (σ.1 67 ≠ 0 ∧ 0 ≤ x ∧ x < 200 ∧ x < σ.2.1 76 0) ∧ v = 0)

