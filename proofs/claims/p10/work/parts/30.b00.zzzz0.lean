/-! a run of the class, word for word -/
def jA (T : CT) (x : Nat) (i : Int) (σ : MS) : Int := if 0 ≤ i ∧ i < ((T x).2 : Int) then σ.2.1 (1000 + x) i else 0
def jP (T : CT) (x : Nat) (i y : Int) (σ : MS) : MS := if 0 ≤ i ∧ i < ((T x).2 : Int) then sA (1000 + x) i y σ else σ
def jC (σ : MS) (y : Nat) (r : Int) : Int := if 0 ≤ r ∧ r < 6 then σ.2.1 (1000 + y) r else -1
def jG (T : CT) (σ : MS) (c x : Nat) (k e : Int) : Int := if (0 ≤ k ∧ k < σ.2.1 6 c) ∧ k * 13 + e < ((T x).2 : Int) then σ.2.1 (1000 + x) (k * 13 + e) else 0
def jK (T : CT) (σ : MS) (c x : Nat) (k : Int) : Int := if (0 ≤ k ∧ k < σ.2.1 6 c) ∧ k * 13 < ((T x).2 : Int) then σ.2.1 (1000 + x) (k * 13) else -1
def rkn (e p b : Int) : Int := if 1 ≤ e ∧ e ≤ 5 then wkd e p b else p
/-- where parameter i stands -/
def JHP (T : CT) (σ : MS) (a : Nat) (i v : Int) : Prop := (v = -1 ∧ (σ.2.1 69 a < 0 ∨ ∃ c : Nat, σ.2.1 69 a = (c : Int) ∧ σ.2.1 8 c ≤ i)) ∨ ∃ c xh : Nat, σ.2.1 69 a = (c : Int) ∧ i < σ.2.1 8 c ∧ σ.2.1 15 c = (xh : Int) ∧ v = w32 (σ.2.1 57 a * 192 + jA T xh (0 * 12 + i) σ)
/-- an operand -/
def JOP (T : CT) (σ : MS) (a xe : Nat) (k c v : Int) : Prop := ∃ cc x : Nat, σ.2.1 69 a = (cc : Int) ∧ σ.2.1 5 cc = (x : Int) ∧ ((jG T σ cc x k c ≠ 2 ∧ v = jG T σ cc x k (c + 1)) ∨ (jG T σ cc x k c = 2 ∧ v = jA T xe (w32 (σ.2.1 57 a * 192 + jG T σ cc x k (c + 1))) σ))
def JEM (T : CT) (σ : MS) (a xf : Nat) (p : Int) (σ2 : MS) : Prop := σ2 = sA 65 a (w32 (σ.2.1 65 a + 1)) (sA 66 a p (jP T xf (σ.2.1 65 a) p σ))
/-- a reference that is written: z, or null -/
def JW (w z : Int) : Prop := w = z ∨ (z < 0 ∧ w = -1)
def JOC (T : CT) (σ : MS) (a xa xb xc xd xe y : Nat) (c r : Int) (σ2 : MS) : Prop := ∃ (w : Int) (s : MS), JW w (jC (sA 58 a (w32 (σ.2.1 58 a + 1)) (sA 57 a c σ)) y r) ∧ s = jP T xd (c * 12) 0 (jP T xc c 0 (jP T xb c 0 (jP T xa c r (sA 69 a w (sA 58 a (w32 (σ.2.1 58 a + 1)) (sA 57 a c σ)))))) ∧ ((1728 < c * 192 + 192 ∧ σ2 = s) ∨ (c * 192 + 192 ≤ 1728 ∧ FLR s σ2 xe (c * 192) (c * 192 + 192) 0 ∧ CHX [] [xe] [] s σ2))
/-- four homes are written -/
def JPW (T : CT) (s0 : MS) (a xe : Nat) (p q r s : Int) (σ2 : MS) : Prop := ∃ h0 h1 h2 h3, JHP T s0 a 0 h0 ∧ JHP T (jP T xe h0 p s0) a 1 h1 ∧ JHP T (jP T xe h1 q (jP T xe h0 p s0)) a 2 h2 ∧ JHP T (jP T xe h2 r (jP T xe h1 q (jP T xe h0 p s0))) a 3 h3 ∧ σ2 = jP T xe h3 s (jP T xe h2 r (jP T xe h1 q (jP T xe h0 p s0)))
def JRK (T : CT) (σ : MS) (a xe : Nat) (k e : Int) (σ2 : MS) : Prop := (¬ (0 ≤ e ∧ e ≤ 5) ∧ σ2 = σ) ∨ ((0 ≤ e ∧ e ≤ 5) ∧ ∃ (cc x : Nat) (p b : Int), σ.2.1 69 a = (cc : Int) ∧ σ.2.1 5 cc = (x : Int) ∧ JOP T σ a xe k 3 p ∧ ((e = 0 ∧ b = 0) ∨ (e ≠ 0 ∧ JOP T σ a xe k 5 b)) ∧ σ2 = jP T xe (w32 (σ.2.1 57 a * 192 + jG T σ cc x k 1)) (rkn e p b) σ)
def JCF (T : CT) (σ : MS) (a xa xb xc xd xe y : Nat) (k : Int) (σ2 : MS) : Prop := ∃ (p q r s : Int) (cc x : Nat) (s0 : MS), JOP T σ a xe k 3 p ∧ JOP T σ a xe k 5 q ∧ JOP T σ a xe k 7 r ∧ JOP T σ a xe k 9 s ∧ σ.2.1 69 a = (cc : Int) ∧ σ.2.1 5 cc = (x : Int) ∧ JOC T σ a xa xb xc xd xe y (σ.2.1 57 a + 1) (jG T σ cc x k 2) s0 ∧ JPW T s0 a xe p q r s σ2
/-- the frames of a call: up from f, n so far -/
def jL (P : Int → Int) : Nat → Int → Int → Int
  | 0, _, n => n
  | t + 1, f, n => if 0 < f ∧ n ≤ 12 then jL P t (P f) (n + 1) else n
theorem jL_s {P : Int → Int} {f n V : Int} (h : jL P (13 - n).toNat f n = V) (hf : 0 < f) (hn : n ≤ 12) (h1 : 1 ≤ n) : jL P (13 - (n + 1)).toNat (P f) (n + 1) = V := by
  rw [show (13 - n).toNat = (13 - (n + 1)).toNat + 1 by omega] at h
  rw [← h]
  show _ = if 0 < f ∧ n ≤ 12 then _ else _
  rw [if_pos ⟨hf, hn⟩]
theorem jL_e {P : Int → Int} {f n V : Int} (h : jL P (13 - n).toNat f n = V) (hf : f ≤ 0 ∨ 12 < n) (h1 : 1 ≤ n) : n = V := by
  by_cases z : 12 < n
  · rw [show (13 - n).toNat = 0 by omega] at h
    exact h
  · rw [show (13 - n).toNat = (12 - n).toNat + 1 by omega] at h
    rw [← h]
    show _ = if 0 < f ∧ n ≤ 12 then _ else _
    rw [if_neg (by omega)]
/-- chainOf -/
def jCV (T : CT) (σ : MS) (xa xc y : Nat) (c : Int) : Int := if jC σ y (jA T xa c σ) < 0 then 1 else jL (fun f => jA T (adN σ 12 (jC σ y (jA T xa c σ)).toNat) f σ) 12 (jA T xc c σ) 1
def JGB (T : CT) (σ : MS) (a xa xb xc xe y : Nat) (n : Int) (σ2 : MS) : Prop :=
  (σ.2.1 57 a = 0 ∧ σ2 = sA 58 a 0 (sA 68 a n (sA 56 a 2 (sA 58 a (w32 (σ.2.1 58 a - jCV T σ xa xc y (σ.2.1 57 a))) σ)))) ∨
  (σ.2.1 57 a ≠ 0 ∧ ∃ (w : Int) (s s1 : MS), s = sA 69 a w (sA 57 a (σ.2.1 57 a - 1) (sA 58 a (w32 (σ.2.1 58 a - jCV T σ xa xc y (σ.2.1 57 a))) σ)) ∧
    JW w (jC (sA 57 a (σ.2.1 57 a - 1) (sA 58 a (w32 (σ.2.1 58 a - jCV T σ xa xc y (σ.2.1 57 a))) σ)) y (jA T xa (σ.2.1 57 a - 1) (sA 57 a (σ.2.1 57 a - 1) (sA 58 a (w32 (σ.2.1 58 a - jCV T σ xa xc y (σ.2.1 57 a))) σ)))) ∧
    ((w < 0 ∧ s1 = s) ∨ ∃ c x : Nat, w = (c : Int) ∧ σ.2.1 5 c = (x : Int) ∧ s1 = jP T xe (w32 ((σ.2.1 57 a - 1) * 192 + jG T s c x (jA T xb (s.2.1 57 a) s) 1)) n s) ∧
    σ2 = jP T xb (σ.2.1 57 a - 1) (w32 (jA T xb (s1.2.1 57 a) s1 + 1)) s1)
/-- the code that a run goes by: its cells -/
def JCD (σ : MS) (a cc x : Nat) : Prop := σ.2.1 69 a = (cc : Int) ∧ σ.2.1 5 cc = (x : Int)
/-- what an item does, by its kind; s: the run, one more gone; t: the call -/
def JSB (T : CT) (s : MS) (a xa xb xc xd xe xf y : Nat) (t k K v : Int) (σ2 : MS) : Prop :=
  (K = 6 ∧ v = 0 ∧ ∃ p s1, JOP T s a xe k 3 p ∧ JEM T s a xf p s1 ∧ σ2 = jP T xb t (w32 (k + 1)) s1) ∨
  (K = 8 ∧ v = 0 ∧ ∃ cc x : Nat, JCD s a cc x ∧ σ2 = jP T xb t (jG T s cc x k 12) s) ∨
  (K = 9 ∧ v = 0 ∧ ∃ p, JOP T s a xe k 3 p ∧ ((p = 0 ∧ ∃ cc x : Nat, JCD s a cc x ∧ σ2 = jP T xb t (jG T s cc x k 12) s) ∨ (p ≠ 0 ∧ σ2 = jP T xb t (w32 (k + 1)) s))) ∨
  (K = 10 ∧ v = 0 ∧ JCF T s a xa xb xc xd xe y k σ2) ∨
  (K = 7 ∧ v = 0 ∧ ∃ p, JOP T s a xe k 3 p ∧ JGB T s a xa xb xc xe y p σ2) ∨
  (K = 11 ∧ v = 1 ∧ ∃ (cc x : Nat) (s1 : MS), JCD s a cc x ∧ s1 = jP T xd (w32 (t * 12 + jG T s cc x k 2)) (jG T s cc x k 1) s ∧ σ2 = jP T xb t (w32 (k + 1)) s1) ∨
  (K = 14 ∧ v = 0 ∧ ∃ (cc x : Nat) (s0 s1 s2 : MS), JCD s a cc x ∧ s0 = sA 58 a (w32 (s.2.1 58 a + 1)) s ∧ s1 = jP T xc t (jG T s0 cc x k 1) s0 ∧ s2 = jP T xd (w32 (t * 12 + jG T s1 cc x k 1)) 0 s1 ∧ σ2 = jP T xb t (w32 (k + 1)) s2) ∨
  (K = 15 ∧ v = 0 ∧ ∃ (cc x xp : Nat) (s0 s1 : MS), JCD s a cc x ∧ s.2.1 12 cc = (xp : Int) ∧ s0 = sA 58 a (w32 (s.2.1 58 a - 1)) s ∧ s1 = jP T xc t (jA T xp (jG T s0 cc x k 1) s0) s0 ∧ σ2 = jP T xb t (w32 (k + 1)) s1) ∨
  (K = -1 ∧ v = 0 ∧ JGB T s a xa xb xc xe y 0 σ2) ∨
  ((K < -1 ∨ (0 ≤ K ∧ K ≤ 5) ∨ K = 12 ∨ K = 13 ∨ 15 < K) ∧ v = 0 ∧ ∃ s1, JRK T s a xe k K s1 ∧ σ2 = jP T xb t (w32 (k + 1)) s1)
def JST (T : CT) (σ : MS) (a xa xb xc xd xe xf y : Nat) (v : Int) (σ2 : MS) : Prop := ∃ k K : Int, k = jA T xb (σ.2.1 57 a) σ ∧ ((σ.2.1 69 a < 0 ∧ K = -1) ∨ ∃ cc x : Nat, JCD σ a cc x ∧ K = jK T σ cc x k) ∧ (((K = 10 ∨ K = 14) ∧ 8 < σ.2.1 58 a ∧ v = 0 ∧ σ2 = sA 56 a 3 σ) ∨ (¬ ((K = 10 ∨ K = 14) ∧ 8 < σ.2.1 58 a) ∧ JSB T (sA 67 a (w32 (σ.2.1 67 a + 1)) σ) a xa xb xc xd xe xf y (σ.2.1 57 a) k K v σ2))
theorem js58 {σ : MS} {a : Nat} {V e : Int} (h : -2147483648 ≤ σ.2.1 58 a + e ∧ σ.2.1 58 a + e ≤ 2147483647) : sA 58 a (σ.2.1 58 a + e) (sA 67 a V σ) = sA 58 a (w32 ((sA 67 a V σ).2.1 58 a + e)) (sA 67 a V σ) := by
  rw [show (sA 67 a V σ).2.1 58 a = σ.2.1 58 a from rfl, show w32 (σ.2.1 58 a + e) = σ.2.1 58 a + e from iI_toInt h]
theorem js58m {σ : MS} {a : Nat} {V e : Int} (h : -2147483648 ≤ σ.2.1 58 a - e ∧ σ.2.1 58 a - e ≤ 2147483647) : sA 58 a (σ.2.1 58 a - e) (sA 67 a V σ) = sA 58 a (w32 ((sA 67 a V σ).2.1 58 a - e)) (sA 67 a V σ) := by
  rw [show (sA 67 a V σ).2.1 58 a = σ.2.1 58 a from rfl, show w32 (σ.2.1 58 a - e) = σ.2.1 58 a - e from iI_toInt h]
abbrev RNL (a : Nat) : List (Nat × Nat) := [(56, a), (57, a), (58, a), (65, a), (66, a), (67, a), (68, a), (69, a), (70, a), (71, a)]
def cST (w q d : Int) : Prop := w = 0 ∨ (w = 1 ∧ d ≤ q) ∨ (w ≠ 0 ∧ w ≠ 1 ∧ d < q)
def JCN (T : CT) (a xa xb xc xd xe xf y : Nat) (w q : Int) : Nat → MS → MS → Prop
  | 0, σ, τ => τ = σ
  | t + 1, σ, τ => ∃ (τ1 : MS) (v : Int), JCN T a xa xb xc xd xe xf y w q t σ τ1 ∧ CHX (RNL a) [xa, xb, xc, xd, xe, xf] [] σ τ1 ∧ τ1.2.1 56 a = 1 ∧ JST T τ1 a xa xb xc xd xe xf y v τ ∧ ¬ (τ.2.1 56 a = 1 ∧ v = 1 ∧ cST w q (τ.2.1 58 a))
theorem JCN.s {T : CT} {a xa xb xc xd xe xf y : Nat} {w q i v : Int} {σ τ1 τ : MS} (h : JCN T a xa xb xc xd xe xf y w q i.toNat σ τ1) (i0 : 0 ≤ i) (hc : CHX (RNL a) [xa, xb, xc, xd, xe, xf] [] σ τ1) (h1 : τ1.2.1 56 a = 1) (s : JST T τ1 a xa xb xc xd xe xf y v τ) (hn : ¬ (τ.2.1 56 a = 1 ∧ v = 1 ∧ cST w q (τ.2.1 58 a))) : JCN T a xa xb xc xd xe xf y w q (i + 1).toNat σ τ := by
  rw [show (i + 1).toNat = i.toNat + 1 by omega]
  exact ⟨τ1, v, h, hc, h1, s, hn⟩
/-- advance -/
def JAD (T : CT) (σ : MS) (a xa xb xc xd xe xf y : Nat) (w n v : Int) (σ2 : MS) : Prop := ∃ (t : Nat) (τ : MS), JCN T a xa xb xc xd xe xf y w (σ.2.1 58 a) t σ τ ∧ CHX (RNL a) [xa, xb, xc, xd, xe, xf] [] σ τ ∧ (((t : Int) < n ∧ τ.2.1 56 a = 1 ∧ v = 1 ∧ ∃ u, JST T τ a xa xb xc xd xe xf y u σ2 ∧ σ2.2.1 56 a = 1 ∧ u = 1 ∧ cST w (σ.2.1 58 a) (σ2.2.1 58 a)) ∨ (¬ ((t : Int) < n ∧ τ.2.1 56 a = 1) ∧ (t = 0 ∨ (t : Int) ≤ n) ∧ σ2 = τ ∧ ((τ.2.1 56 a = 1 ∧ v = 2) ∨ (τ.2.1 56 a = 2 ∧ v = 0) ∨ (τ.2.1 56 a ≠ 1 ∧ τ.2.1 56 a ≠ 2 ∧ v = 3))))
/-- begin -/
def JBG (T : CT) (σ : MS) (a xa xb xc xd xe y : Nat) (r p q u w : Int) (σ2 : MS) : Prop := ∃ s0, JOC T (sA 68 a 0 (sA 67 a 0 (sA 66 a 0 (sA 65 a 0 (sA 58 a 0 (sA 56 a 1 σ)))))) a xa xb xc xd xe y 0 r s0 ∧ JPW T s0 a xe p q u w σ2

/-- run and printed of the class -/
def RNB (T : CT) (σ : MS) (rn xb : Nat) (w v : Int) : Prop := (σ.2.1 56 rn = 0 ∧ v = -1) ∨ (σ.2.1 56 rn ≠ 0 ∧ ((w = 0 ∧ σ.2.1 56 rn = 2 ∧ v = -1) ∨ (w = 0 ∧ σ.2.1 56 rn ≠ 2 ∧ v = jA T xb (σ.2.1 57 rn) σ) ∨ (w = 1 ∧ v = σ.2.1 65 rn) ∨ (w = 2 ∧ v = σ.2.1 67 rn) ∨ (w = 3 ∧ v = σ.2.1 68 rn) ∨ (w = 4 ∧ v = σ.2.1 58 rn) ∨ (w = 5 ∧ σ.2.1 56 rn = 3 ∧ v = 1) ∨ (w = 5 ∧ σ.2.1 56 rn ≠ 3 ∧ v = 0) ∨ ((w < 0 ∨ 5 < w) ∧ v = -1)))
def PRB (T : CT) (σ : MS) (rn xf : Nat) (i v : Int) : Prop := ((σ.2.1 56 rn ≠ 0 ∧ 0 ≤ i ∧ i < σ.2.1 65 rn) ∧ v = jA T xf i σ) ∨ (¬ (σ.2.1 56 rn ≠ 0 ∧ 0 ≤ i ∧ i < σ.2.1 65 rn) ∧ v = 0)
