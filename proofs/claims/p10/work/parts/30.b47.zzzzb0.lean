/-! frames of a stack: the class's look for one -/
theorem jA_cg {T : CT} {x : Nat} {i : Int} {σ σ2 : MS} (h : σ2.2.1 (1000 + x) = σ.2.1 (1000 + x)) : jA T x i σ2 = jA T x i σ := by unfold jA; rw [h]
/-- steps up -/
def jU (P : Int → Int) : Nat → Int → Int
  | 0, f => f
  | n + 1, f => jU P n (P f)
theorem jU_s {P : Int → Int} {n i f V : Int} (h : jU P (n - i).toNat f = V) (hi : i < n) : jU P (n - (i + 1)).toNat (P f) = V := by
  rw [show (n - i).toNat = (n - (i + 1)).toNat + 1 by omega] at h
  exact h
theorem jU_e {P : Int → Int} {n i f V : Int} (h : jU P (n - i).toNat f = V) (hi : n ≤ i) : f = V := by
  rw [show (n - i).toNat = 0 by omega] at h
  exact h
/-- call and steps of frame l, from call c on down -/
def jFD (n : Int → Int) : Nat → Int → Int → Int × Int
  | 0, _, l => (-1, l)
  | t + 1, c, l => if c < 0 then (-1, l) else if l < n c then (c, l) else jFD n t (c - 1) (l - n c)
/-- climb -/
def JCB (T : CT) (σ : MS) (a xa y : Nat) (p v : Int) : Prop := (jC σ y (jA T xa (σ.2.1 70 a) σ) < 0 ∧ v = σ.2.1 71 a) ∨ ∃ c : Nat, jC σ y (jA T xa (σ.2.1 70 a) σ) = (c : Int) ∧ v = jU (fun f => jA T (adN σ 12 c) f σ) p.toNat (σ.2.1 71 a)
/-- find -/
def JFN (T : CT) (σ : MS) (a xa xc y : Nat) (k v : Int) (σ2 : MS) : Prop :=
  (v = 0 ∧ ((k < 0 ∨ σ.2.1 58 a ≤ k ∨ (σ.2.1 56 a ≠ 1 ∧ σ.2.1 56 a ≠ 3)) ∨ (jFD (jCV T σ xa xc y) (σ.2.1 57 a + 1).toNat (σ.2.1 57 a) k).1 < 0 ∨ jC σ y (jA T xa (jFD (jCV T σ xa xc y) (σ.2.1 57 a + 1).toNat (σ.2.1 57 a) k).1 σ) < 0)) ∨
  (v = 1 ∧ (0 ≤ k ∧ k < σ.2.1 58 a) ∧ (σ.2.1 56 a = 1 ∨ σ.2.1 56 a = 3) ∧ ∃ (c l : Int) (cc : Nat), jFD (jCV T σ xa xc y) (σ.2.1 57 a + 1).toNat (σ.2.1 57 a) k = (c, l) ∧ 0 ≤ c ∧ σ2.2.1 70 a = c ∧ jC σ y (jA T xa c σ) = (cc : Int) ∧ σ2.2.1 71 a = jU (fun f => jA T (adN σ 12 cc) f σ) l.toNat (jA T xc c σ))
theorem jL_rng {P : Int → Int} : ∀ (t : Nat) (f n : Int), 1 ≤ n → n ≤ 13 → 1 ≤ jL P t f n ∧ jL P t f n ≤ 13 := by
  intro t
  induction t with
  | zero => intro f n a b; exact ⟨a, b⟩
  | succ t ih =>
    intro f n a b
    show 1 ≤ (if 0 < f ∧ n ≤ 12 then jL P t (P f) (n + 1) else n) ∧ (if 0 < f ∧ n ≤ 12 then jL P t (P f) (n + 1) else n) ≤ 13
    by_cases z : 0 < f ∧ n ≤ 12
    · rw [if_pos z]; exact ih _ _ (by omega) (by omega)
    · rw [if_neg z]; exact ⟨a, b⟩
theorem jCV_rng {T : CT} {σ : MS} {xa xc y : Nat} {c : Int} : 1 ≤ jCV T σ xa xc y c ∧ jCV T σ xa xc y c ≤ 13 := by
  unfold jCV
  split
  · exact ⟨by decide, by decide⟩
  · exact jL_rng _ _ _ (by decide) (by decide)
theorem jFD_s {n : Int → Int} {c l m : Int} {V : Int × Int} (h : jFD n (c + 1).toNat c l = V) (c0 : 0 ≤ c) (hm : m = n c) (hl : m ≤ l) : jFD n (c - 1 + 1).toNat (c - 1) (l - m) = V := by
  rw [show (c + 1).toNat = (c - 1 + 1).toNat + 1 by omega] at h
  rw [← h, hm]
  show _ = if c < 0 then (-1, l) else if l < n c then (c, l) else jFD n (c - 1 + 1).toNat (c - 1) (l - n c)
  rw [if_neg (by omega), if_neg (by omega)]
theorem jFD_e {n : Int → Int} {c l m : Int} {V : Int × Int} (h : jFD n (c + 1).toNat c l = V) (c0 : 0 ≤ c) (hm : m = n c) (hl : l < m) : V = (c, l) := by
  rw [show (c + 1).toNat = (c - 1 + 1).toNat + 1 by omega] at h
  rw [← h]
  show (if c < 0 then (-1, l) else if l < n c then (c, l) else jFD n (c - 1 + 1).toNat (c - 1) (l - n c)) = _
  rw [if_neg (by omega), if_pos (by omega)]
theorem jFD_n {n : Int → Int} {c l : Int} {V : Int × Int} (h : jFD n (c + 1).toNat c l = V) (c0 : c < 0) : V.1 < 0 := by
  by_cases z : (c + 1).toNat = 0
  · rw [z] at h
    rw [← h]
    show (-1 : Int) < 0
    decide
  · omega
/-- where a found frame stands: its code's row n at its frame -/
def JFR (T : CT) (σ : MS) (a xa y n : Nat) (z v : Int) : Prop := (jC σ y (jA T xa (σ.2.1 70 a) σ) < 0 ∧ v = z) ∨ ∃ c x : Nat, jC σ y (jA T xa (σ.2.1 70 a) σ) = (c : Int) ∧ σ.2.1 n c = (x : Int) ∧ v = jA T x (σ.2.1 71 a) σ
/-- stack -/
def JSK (T : CT) (σ : MS) (a xa xc xd y : Nat) (k w v : Int) (σ2 : MS) : Prop :=
  ((w < 0 ∨ 2 < w) ∧ v = -1) ∨ ((0 ≤ w ∧ w ≤ 2) ∧ ∃ u, JFN T σ a xa xc y k u σ2 ∧ ((u = 0 ∧ v = -1) ∨ (u = 1 ∧ ((w = 0 ∧ JFR T σ2 a xa y 11 (-1) v) ∨ (w = 1 ∧ v = jA T xd (w32 (w32 (σ2.2.1 70 a * 12) + σ2.2.1 71 a)) σ2) ∨ (w = 2 ∧ JFR T σ2 a xa y 14 0 v)))))
theorem JW.neg {w z : Int} (h : JW w z) (hw : w < 0) : z < 0 := by
  rcases h with h | h
  · omega
  · exact h.1
theorem JW.pos {w z : Int} (h : JW w z) (hw : 0 ≤ w) : z = w := by
  rcases h with h | h
  · exact h.symm
  · omega
theorem jU_w {P : Int → Int} {n i f g V : Int} (h : jU P (n - i).toNat f = V) (hi : i < n) (e : g = P f) : jU P (n - (i + 1)).toNat g = V := by rw [e]; exact jU_s h hi
theorem jA_back {T : CT} {σ0 σ : MS} {a c x : Nat} {i : Int} (hC : CHX [(71, a)] [] [] σ0 σ) (hx : σ0.2.1 12 c = (x : Int)) : jA T x i σ = jA T (adN σ0 12 c) i σ0 := by
  rw [adN_of hx]
  exact jA_cg (hC.r (by simp))
theorem JFN.mk {T : CT} {σ σ2 : MS} {a xa xc y : Nat} {k v c l vf z : Int} (k0 : 0 ≤ k ∧ k < σ.2.1 58 a) (s0 : σ.2.1 56 a = 1 ∨ σ.2.1 56 a = 3) (hv : jFD (jCV T σ xa xc y) (σ.2.1 57 a + 1).toNat (σ.2.1 57 a) k = (c, l)) (c0 : 0 ≤ c) (hf : vf = jA T xc c (sA 70 a c σ)) (hb : JCB T (sA 71 a vf (sA 70 a c σ)) a xa y l (σ2.2.1 71 a)) (ch : CHX [(71, a)] [] [] (sA 71 a vf (sA 70 a c σ)) σ2) (w : JW z (jC σ2 y (jA T xa (σ2.2.1 70 a) σ2))) (hz : (z < 0 ∧ v = 0) ∨ (0 ≤ z ∧ v = 1)) : JFN T σ a xa xc y k v σ2 := by
  have r1 : ∀ x : Nat, (sA 71 a vf (sA 70 a c σ)).2.1 (1000 + x) = σ.2.1 (1000 + x) := fun x => (sA_k (by omega)).trans (sA_k (by omega))
  have r2 : ∀ x : Nat, σ2.2.1 (1000 + x) = σ.2.1 (1000 + x) := fun x => (ch.r (by simp)).trans (r1 x)
  have e70 : (sA 71 a vf (sA 70 a c σ)).2.1 70 a = c := by rw [sA_k (by decide)]; exact ra_eq
  have f70 : σ2.2.1 70 a = c := (ch.1 70 a (by decide) (fun p hp e => by rw [List.mem_singleton.mp hp] at e; exact absurd e (by decide))).trans e70
  have jc1 : ∀ r, jC (sA 71 a vf (sA 70 a c σ)) y r = jC σ y r := fun r => by unfold jC; rw [r1]
  have jc2 : ∀ r, jC σ2 y r = jC σ y r := fun r => by unfold jC; rw [r2]
  rw [f70, jc2, jA_cg (r2 xa)] at w
  unfold JCB at hb
  rw [e70, jc1, jA_cg (r1 xa)] at hb
  rw [show jA T xc c (sA 70 a c σ) = jA T xc c σ from jA_cg (sA_k (by omega))] at hf
  rcases hz with ⟨z0, e⟩ | ⟨z0, e⟩
  · exact Or.inl ⟨e, Or.inr (Or.inr (by rw [hv]; exact w.neg z0))⟩
  · have q := w.pos z0
    rcases hb with ⟨b1, b2⟩ | ⟨cc, b1, b2⟩
    · omega
    · refine Or.inr ⟨e, k0, s0, c, l, cc, hv, c0, f70, b1, ?_⟩
      rw [b2, show (sA 71 a vf (sA 70 a c σ)).2.1 71 a = vf from ra_eq, hf]
      have ea : adN (sA 71 a vf (sA 70 a c σ)) 12 cc = adN σ 12 cc := by unfold adN; rw [sA_k (by decide), sA_k (by decide)]
      rw [ea]
      exact congrArg (fun P => jU P l.toNat (jA T xc c σ)) (funext (fun f => jA_cg (r1 _)))

