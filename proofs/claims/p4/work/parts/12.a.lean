/-- the frames of a code: fr of each place, lf of each label -/
def CW (n F R : Int) (K D O FI fr lf : Int → Int) : Prop :=
  fr 0 = 0 ∧ (∀ k, 0 ≤ k → k < n → 0 ≤ fr k ∧ fr k < F) ∧
  (∀ k, 0 ≤ k → k < n → K k ≠ 7 → K k ≠ 8 → k + 1 < n ∧ (K k = 14 → FI (D k) = fr k ∧ fr (k + 1) = D k ∧ 1 ≤ D k) ∧ (K k = 15 → D k = fr k ∧ 1 ≤ D k ∧ fr (k + 1) = FI (D k)) ∧ (K k ≠ 14 → K k ≠ 15 → fr (k + 1) = fr k)) ∧
  (∀ k, 0 ≤ k → k < n → ((K k = 8 ∨ K k = 9 ∨ K k = 13) → lf (D k) = fr k) ∧ (K k = 7 → fr k = 0)) ∧
  (∀ k, 0 ≤ k → k < n → K k = 10 → O k < R ∧ ∃ j, 0 ≤ j ∧ j < k ∧ K j = 11 ∧ O j = fr k ∧ ∀ i, j < i → i < k → K i ≤ 5)
/-- what is kept of a code: place j of what is kept is place s j of what was; SK: what went out -/
def CM (n t : Int) (K D O K' D' O' s : Int → Int) (SK : Int → Prop) : Prop :=
  (∀ j, 0 ≤ j → j < t → (0 ≤ s j ∧ s j < n) ∧ ¬ SK (s j) ∧ (K' j = K (s j) ∨ ((1 ≤ K (s j) ∧ K (s j) ≤ 5) ∧ K' j = 0) ∨ (K (s j) = 9 ∧ K' j = 8)) ∧ D' j = D (s j) ∧ O' j = O (s j)) ∧
  (∀ i j, 0 ≤ i → i < j → j < t → s i < s j) ∧
  (∀ i, 0 ≤ i → i < n → SK i ∨ ∃ j, 0 ≤ j ∧ j < t ∧ s j = i)
/-- what goes out is neutral, or what can't be come to -/
def SKK (n : Int) (K : Int → Int) (SK : Int → Prop) : Prop :=
  (∀ i, 0 ≤ i → i < n → SK i → K i = 9 ∨ (0 ≤ K i ∧ K i ≤ 5)) ∨ (¬ SK 0 ∧ ∀ i, 0 ≤ i → i + 1 < n → SK (i + 1) → SK i ∨ K i = 7 ∨ K i = 8)
theorem CW.last {n F R : Int} {K D O FI fr lf : Int → Int} (h : CW n F R K D O FI fr lf) (hn : 1 ≤ n) : K (n - 1) = 7 ∨ K (n - 1) = 8 := by
  by_cases a : K (n - 1) = 7
  · exact Or.inl a
  · by_cases b : K (n - 1) = 8
    · exact Or.inr b
    · have := (h.2.2.1 (n - 1) (by omega) (by omega) a b).1; omega
theorem CW.run {n F R : Int} {K D O FI fr lf : Int → Int} (h : CW n F R K D O FI fr lf) {SK : Int → Prop} (hk : ∀ i, 0 ≤ i → i < n → SK i → K i = 9 ∨ (0 ≤ K i ∧ K i ≤ 5)) : ∀ (m : Nat) (a : Int), 0 ≤ a → a + m ≤ n → (∀ i, a ≤ i → i < a + m → SK i) → a + m < n ∨ m = 0 ∧ a = n := by
  intro m a h0 h1 h2
  by_cases e : a + m < n
  · exact Or.inl e
  · cases m with
    | zero => exact Or.inr ⟨rfl, by omega⟩
    | succ m =>
      have hs := h2 (n - 1) (by omega) (by omega)
      have hl := h.last (by omega)
      have := hk (n - 1) (by omega) (by omega) hs
      omega
theorem CW.run2 {n F R : Int} {K D O FI fr lf : Int → Int} (h : CW n F R K D O FI fr lf) {SK : Int → Prop} (hk : ∀ i, 0 ≤ i → i < n → SK i → K i = 9 ∨ (0 ≤ K i ∧ K i ≤ 5)) : ∀ (m : Nat) (a : Int), 0 ≤ a → a + m ≤ n → (∀ i, a ≤ i → i < a + m → SK i) → fr (a + m) = fr a := by
  intro m
  induction m with
  | zero => intro a _ _ _; simp
  | succ m ih =>
    intro a h0 h1 h2
    have e := ih a h0 (by omega) (fun i x y => h2 i x (by omega))
    have hs := h2 (a + m) (by omega) (by omega)
    have q := hk (a + m) (by omega) (by omega) hs
    have f := (h.2.2.1 (a + m) (by omega) (by omega) (by omega) (by omega)).2.2.2 (by omega) (by omega)
    rw [← e, ← f]; congr 1; omega
theorem CM.nx {n t F R : Int} {K D O K' D' O' s FI fr lf : Int → Int} {SK : Int → Prop} (c : CM n t K D O K' D' O' s SK) (h : CW n F R K D O FI fr lf) (hs : SKK n K SK) {k : Int} (h0 : 0 ≤ k) (h1 : k < t) (h7 : K (s k) ≠ 7) (h8 : K (s k) ≠ 8) : k + 1 < t ∧ fr (s (k + 1)) = fr (s k + 1) := by
  obtain ⟨c1, c2, c3⟩ := c
  have b := (c1 k h0 h1).1
  have fl := (h.2.2.1 (s k) b.1 b.2 h7 h8).1
  have gap : ∀ e, e ≤ n → (∀ j, k < j → j < t → e ≤ s j) → ∀ i, s k + 1 ≤ i → i < e → SK i := fun e he hj i x y => by
    rcases c3 i (by omega) (by omega) with q | ⟨j, j0, j1, j2⟩
    · exact q
    · exfalso
      by_cases z : k < j
      · have := hj j z j1; omega
      · by_cases z2 : j = k
        · subst z2; omega
        · have := c2 j k j0 (by omega) h1; omega
  by_cases e : k + 1 < t
  · refine ⟨e, ?_⟩
    have b2 := (c1 (k + 1) (by omega) e).1
    have lt := c2 k (k + 1) h0 (by omega) e
    have g := gap (s (k + 1)) (by omega) (fun j x y => by
      by_cases z : j = k + 1
      · subst z; omega
      · have := c2 (k + 1) j (by omega) (by omega) y; omega)
    rcases hs with q | ⟨q0, q⟩
    · have := h.run2 q (s (k + 1) - (s k + 1)).toNat (s k + 1) (by omega) (by omega) (fun i x y => g i x (by omega))
      rw [← this]; congr 1; omega
    · by_cases z : s (k + 1) = s k + 1
      · rw [z]
      · exfalso
        have := q (s k) b.1 fl (g (s k + 1) (by omega) (by omega))
        have w := (c1 k h0 h1).2.1
        rcases this with u | u | u
        · exact w u
        · exact h7 u
        · exact h8 u
  · exfalso
    have g := gap n (by omega) (fun j x y => by omega)
    have sl := g (n - 1) (by omega) (by omega)
    have hl := h.last (by omega)
    rcases hs with q | ⟨q0, q⟩
    · have := q (n - 1) (by omega) (by omega) sl; omega
    · have := q (s k) b.1 fl (g (s k + 1) (by omega) (by omega))
      have w := (c1 k h0 h1).2.1
      rcases this with u | u | u
      · exact w u
      · exact h7 u
      · exact h8 u
theorem CM.st {n t F R : Int} {K D O K' D' O' s FI fr lf : Int → Int} {SK : Int → Prop} (c : CM n t K D O K' D' O' s SK) (h : CW n F R K D O FI fr lf) (hn : 1 ≤ n) (hs : SKK n K SK) : 1 ≤ t ∧ fr (s 0) = 0 := by
  obtain ⟨c1, c2, c3⟩ := c
  have t1 : 1 ≤ t := by
    by_cases e : 1 ≤ t
    · exact e
    · exfalso
      have al : ∀ i, 0 ≤ i → i < n → SK i := fun i x y => by
        rcases c3 i x y with q | ⟨j, j0, j1, _⟩
        · exact q
        · omega
      rcases hs with q | ⟨q0, q⟩
      · have := q (n - 1) (by omega) (by omega) (al _ (by omega) (by omega))
        have hl := h.last (by omega)
        omega
      · exact q0 (al 0 (by omega) (by omega))
  refine ⟨t1, ?_⟩
  have b := (c1 0 (by omega) (by omega)).1
  have g : ∀ i, 0 ≤ i → i < s 0 → SK i := fun i x y => by
    rcases c3 i x (by omega) with q | ⟨j, j0, j1, j2⟩
    · exact q
    · exfalso
      by_cases z : j = 0
      · subst z; omega
      · have := c2 0 j (by omega) (by omega) j1; omega
  rcases hs with q | ⟨q0, q⟩
  · have := h.run2 q (s 0).toNat 0 (by omega) (by omega) (fun i x y => g i x (by omega))
    have e : s 0 = 0 + ((s 0).toNat : Int) := by omega
    rw [e]; exact this.trans h.1
  · by_cases z : s 0 = 0
    · rw [z]; exact h.1
    · exact absurd (g 0 (by omega) (by omega)) q0
theorem CM.cw {n t F R : Int} {K D O K' D' O' s FI fr lf : Int → Int} {SK : Int → Prop} (c : CM n t K D O K' D' O' s SK) (h : CW n F R K D O FI fr lf) (hn : 1 ≤ n) (hs : SKK n K SK)
    (hL : ∀ j k, 0 ≤ j → j < k → k < n → K j = 11 → K k = 10 → (∀ i, j < i → i < k → K i ≤ 5) → ¬ SK k → ¬ SK j) : CW t F R K' D' O' FI (fun k => fr (s k)) lf := by
  have c0 := c
  obtain ⟨c1, c2, c3⟩ := c
  refine ⟨(c0.st h hn hs).2, fun k a b => h.2.1 _ (c1 k a b).1.1 (c1 k a b).1.2, fun k a b x7 x8 => ?_, fun k a b => ?_, fun k a b e => ?_⟩
  · obtain ⟨w1, w2, w3, w4, w5⟩ := c1 k a b
    have h7 : K (s k) ≠ 7 := by omega
    have h8 : K (s k) ≠ 8 := by omega
    have nx := c0.nx h hs a b h7 h8
    have f := h.2.2.1 (s k) w1.1 w1.2 h7 h8
    refine ⟨nx.1, fun e => ?_, fun e => ?_, fun e1 e2 => ?_⟩
    · have := f.2.1 (by omega); rw [w4]; exact ⟨this.1, nx.2.trans this.2.1, this.2.2⟩
    · have := f.2.2.1 (by omega); rw [w4]; exact ⟨this.1, this.2.1, nx.2.trans this.2.2⟩
    · have := f.2.2.2 (by omega) (by omega); exact nx.2.trans this
  · obtain ⟨w1, w2, w3, w4, w5⟩ := c1 k a b
    rw [w4]; exact ⟨fun e => (h.2.2.2.1 (s k) w1.1 w1.2).1 (by omega), fun e => (h.2.2.2.1 (s k) w1.1 w1.2).2 (by omega)⟩
  · obtain ⟨w1, w2, w3, w4, w5⟩ := c1 k a b
    obtain ⟨jr, j, j0, j1, j2, j3, j4⟩ := h.2.2.2.2 (s k) w1.1 w1.2 (by omega)
    have nj := hL j (s k) j0 j1 w1.2 j2 (by omega) j4 w2
    rcases c3 j j0 (by omega) with q | ⟨i, i0, i1, i2⟩
    · exact absurd q nj
    · have ik : i < k := by
        by_cases z : i < k
        · exact z
        · exfalso
          by_cases z2 : i = k
          · subst z2; omega
          · have := c2 k i a (by omega) i1; omega
      have wi := c1 i i0 i1
      rw [i2] at wi
      refine ⟨by rw [w5]; exact jr, i, i0, ik, by omega, by rw [wi.2.2.2.2]; exact j3, fun u x y => ?_⟩
      have := c2 i u i0 x (by omega)
      have z2 := c2 u k (by omega) y b
      have z3 := j4 (s u) (by omega) (by omega)
      have wu := (c1 u (by omega) (by omega)).2.2.1
      omega
/-- each jump has its label -/
def LX (n : Int) (K D : Int → Int) : Prop := ∀ k, 0 ≤ k → k < n → (K k = 8 ∨ K k = 9) → ∃ j, 0 ≤ j ∧ j < n ∧ K j = 13 ∧ D j = D k
theorem CM.lx {n t : Int} {K D O K' D' O' s : Int → Int} {SK : Int → Prop} (c : CM n t K D O K' D' O' s SK)
    (hl : ∀ k, 0 ≤ k → k < n → ¬ SK k → (K k = 8 ∨ K k = 9) → ∃ j, 0 ≤ j ∧ j < n ∧ K j = 13 ∧ D j = D k ∧ ¬ SK j) : LX t K' D' := fun k a b e => by
  obtain ⟨c1, c2, c3⟩ := c
  obtain ⟨w1, w2, w3, w4, w5⟩ := c1 k a b
  obtain ⟨j, j0, j1, j2, j3, j4⟩ := hl (s k) w1.1 w1.2 w2 (by omega)
  rcases c3 j j0 j1 with q | ⟨i, i0, i1, i2⟩
  · exact absurd q j4
  · have wi := c1 i i0 i1
    rw [i2] at wi
    exact ⟨i, i0, i1, by omega, by rw [wi.2.2.2.1, j3, w4]⟩
/-- item k goes ahead of item p -/
def RO (n p k : Int) (K K' : Int → Int) : Prop := (∀ i, 0 ≤ i → i < p → K' i = K i) ∧ K' p = K k ∧ (∀ i, p < i → i ≤ k → K' i = K (i - 1)) ∧ (∀ i, k < i → i < n → K' i = K i)
theorem CW.rot {n p q F R : Int} {K D O K' D' O' FI fr lf : Int → Int} (h : CW n F R K D O FI fr lf) (hp : 0 ≤ p ∧ p < q ∧ q < n) (h13 : K p = 13) (h5 : K q ≤ 5) (rk : RO n p q K K') (rd : RO n p q D D') (ro : RO n p q O O') :
    ∃ fr', CW n F R K' D' O' FI fr' lf := by
  obtain ⟨fr', hf1, hf2, hf3⟩ : ∃ fr' : Int → Int, (∀ i, i ≤ p → fr' i = fr i) ∧ (∀ i, p < i → i ≤ q → fr' i = fr (i - 1)) ∧ (∀ i, p < i → q < i → fr' i = fr i) := ⟨fun i => if i ≤ p then fr i else if i ≤ q then fr (i - 1) else fr i, fun i a => if_pos a, fun i a b => (if_neg (by omega)).trans (if_pos b), fun i a b => (if_neg (by omega)).trans (if_neg (by omega))⟩
  refine ⟨fr', ?_⟩
  have fq := h.2.2.1 q (by omega) (by omega) (by omega) (by omega)
  have fq2 := fq.2.2.2 (by omega) (by omega)
  obtain ⟨k1, k2, k3, k4⟩ := rk
  obtain ⟨d1, d2, d3, d4⟩ := rd
  obtain ⟨o1, o2, o3, o4⟩ := ro
  refine ⟨by rw [hf1 0 (by omega)]; exact h.1, fun k a b => ?_, fun k a b x7 x8 => ?_, fun k a b => ?_, fun k a b e => ?_⟩
  · by_cases z1 : k ≤ p
    · rw [hf1 k z1]; exact h.2.1 k a b
    · by_cases z2 : k ≤ q
      · rw [hf2 k (by omega) z2]; exact h.2.1 (k - 1) (by omega) (by omega)
      · rw [hf3 k (by omega) (by omega)]; exact h.2.1 k a b
  · by_cases z1 : k < p
    · rw [k1 k a z1] at x7 x8 ⊢
      rw [d1 k a z1]
      have f := h.2.2.1 k a b x7 x8
      rw [hf1 k (by omega), hf1 (k + 1) (by omega)]
      exact f
    · by_cases z2 : k = p
      · subst z2
        rw [k2] at x7 x8 ⊢
        rw [hf2 (k + 1) (by omega) (by omega), hf1 k (by omega)]
        exact ⟨by omega, fun e => by omega, fun e => by omega, fun _ _ => by congr 1; omega⟩
      · by_cases z3 : k ≤ q
        · rw [k3 k (by omega) z3] at x7 x8 ⊢
          rw [d3 k (by omega) z3]
          have f := h.2.2.1 (k - 1) (by omega) (by omega) x7 x8
          rw [show k - 1 + 1 = k by omega] at f
          rw [hf2 k (by omega) z3]
          by_cases z4 : k = q
          · subst z4
            rw [hf3 (k + 1) (by omega) (by omega), fq2]
            exact ⟨fq.1, f.2⟩
          · rw [hf2 (k + 1) (by omega) (by omega), show k + 1 - 1 = k by omega]
            exact ⟨by omega, f.2⟩
        · rw [k4 k (by omega) b] at x7 x8 ⊢
          rw [d4 k (by omega) b]
          rw [hf3 k (by omega) (by omega), hf3 (k + 1) (by omega) (by omega)]
          exact h.2.2.1 k a b x7 x8
  · by_cases z1 : k < p
    · rw [k1 k a z1, d1 k a z1, hf1 k (by omega)]
      exact h.2.2.2.1 k a b
    · by_cases z2 : k = p
      · subst z2; rw [k2]; exact ⟨fun e => by omega, fun e => by omega⟩
      · by_cases z3 : k ≤ q
        · rw [k3 k (by omega) z3, d3 k (by omega) z3, hf2 k (by omega) z3]
          exact h.2.2.2.1 (k - 1) (by omega) (by omega)
        · rw [k4 k (by omega) b, d4 k (by omega) b, hf3 k (by omega) (by omega)]
          exact h.2.2.2.1 k a b
  · have key : ∀ c, 0 ≤ c → c < n → K c = 10 → O c < R ∧ ∃ j, 0 ≤ j ∧ j < c ∧ K j = 11 ∧ O j = fr c ∧ (p < j ∨ c < p) ∧ ∀ i, j < i → i < c → K i ≤ 5 := fun c x y w => by
      obtain ⟨jr, j, j0, j1, j2, j3, j4⟩ := h.2.2.2.2 c x y w
      refine ⟨jr, j, j0, j1, j2, j3, ?_, j4⟩
      by_cases z : p < j
      · exact Or.inl z
      · by_cases z2 : c < p
        · exact Or.inr z2
        · exfalso
          by_cases z3 : p = j
          · subst z3; omega
          · by_cases z4 : p = c
            · subst z4; omega
            · have := j4 p (by omega) (by omega); omega
    have tail : ∀ c j, 0 ≤ j → j < c → c < n → p < j → K j = 11 → c ≠ q → (∀ i, j < i → i < c → K i ≤ 5) → ∃ j', 0 ≤ j' ∧ j' < (if c ≤ q then c + 1 else c) ∧ K' j' = 11 ∧ O' j' = O j ∧ ∀ i, j' < i → i < (if c ≤ q then c + 1 else c) → K' i ≤ 5 := fun c j j0 j1 x jp j2 cq j4 => by
      have jq : j ≠ q := fun w => by subst w; omega
      refine ⟨if j ≤ q then j + 1 else j, by split <;> omega, by split <;> split <;> omega, ?_, ?_, fun i y w => ?_⟩
      · split
        · rw [k3 (j + 1) (by omega) (by omega), show j + 1 - 1 = j by omega]; exact j2
        · rw [k4 j (by omega) (by omega)]; exact j2
      · split
        · rw [o3 (j + 1) (by omega) (by omega), show j + 1 - 1 = j by omega]
        · rw [o4 j (by omega) (by omega)]
      · by_cases u : i ≤ q
        · rw [k3 i (by split at y <;> omega) u]
          exact j4 (i - 1) (by split at y <;> omega) (by split at w <;> omega)
        · rw [k4 i (by omega) (by split at w <;> omega)]
          exact j4 i (by split at y <;> omega) (by split at w <;> omega)
    by_cases z1 : k < p
    · rw [k1 k a z1] at e
      obtain ⟨jr, j, j0, j1, j2, j3, j5, j4⟩ := key k a b e
      refine ⟨by rw [o1 k a z1]; exact jr, j, j0, j1, by rw [k1 j j0 (by omega)]; exact j2, by rw [o1 j j0 (by omega), hf1 k (by omega)]; exact j3, fun i x y => ?_⟩
      rw [k1 i (by omega) (by omega)]; exact j4 i x y
    · by_cases z2 : k = p
      · subst z2; rw [k2] at e; omega
      · by_cases z3 : k ≤ q
        · rw [k3 k (by omega) z3] at e
          obtain ⟨jr, j, j0, j1, j2, j3, j5, j4⟩ := key (k - 1) (by omega) (by omega) e
          have t := tail (k - 1) j j0 j1 (by omega) (by omega) j2 (by omega) j4
          rw [if_pos (show k - 1 ≤ q by omega), show k - 1 + 1 = k by omega] at t
          obtain ⟨u, u0, u1, u2, u3, u4⟩ := t
          refine ⟨by rw [o3 k (by omega) z3]; exact jr, u, u0, u1, u2, ?_, u4⟩
          rw [hf2 k (by omega) z3, u3]; exact j3
        · rw [k4 k (by omega) b] at e
          obtain ⟨jr, j, j0, j1, j2, j3, j5, j4⟩ := key k a b e
          have t := tail k j j0 j1 (by omega) (by omega) j2 (by omega) j4
          rw [if_neg (show ¬ k ≤ q by omega)] at t
          obtain ⟨u, u0, u1, u2, u3, u4⟩ := t
          refine ⟨by rw [o4 k (by omega) b]; exact jr, u, u0, u1, u2, ?_, u4⟩
          rw [hf3 k (by omega) (by omega), u3]; exact j3
theorem LX.rot {n p q : Int} {K D K' D' : Int → Int} (h : LX n K D) (hp : 0 ≤ p ∧ p < q ∧ q < n) (h5 : K q ≤ 5) (rk : RO n p q K K') (rd : RO n p q D D') : LX n K' D' := by
  obtain ⟨k1, k2, k3, k4⟩ := rk
  obtain ⟨d1, d2, d3, d4⟩ := rd
  have to : ∀ c, 0 ≤ c → c < n → c ≠ q → ∃ c', 0 ≤ c' ∧ c' < n ∧ K' c' = K c ∧ D' c' = D c := fun c x y z => by
    by_cases z1 : c < p
    · exact ⟨c, x, y, k1 c x z1, d1 c x z1⟩
    · by_cases z2 : c < q
      · exact ⟨c + 1, by omega, by omega, by rw [k3 (c + 1) (by omega) (by omega), show c + 1 - 1 = c by omega], by rw [d3 (c + 1) (by omega) (by omega), show c + 1 - 1 = c by omega]⟩
      · exact ⟨c, x, y, k4 c (by omega) y, d4 c (by omega) y⟩
  have ofN : ∀ c', 0 ≤ c' → c' < n → ∃ c, 0 ≤ c ∧ c < n ∧ K' c' = K c ∧ D' c' = D c := fun c x y => by
    by_cases z1 : c < p
    · exact ⟨c, x, y, k1 c x z1, d1 c x z1⟩
    · by_cases z2 : c = p
      · subst z2; exact ⟨q, by omega, by omega, k2, d2⟩
      · by_cases z3 : c ≤ q
        · exact ⟨c - 1, by omega, by omega, k3 c (by omega) z3, d3 c (by omega) z3⟩
        · exact ⟨c, x, y, k4 c (by omega) y, d4 c (by omega) y⟩
  intro k a b e
  obtain ⟨c, c0, c1, c2, c3⟩ := ofN k a b
  obtain ⟨j, j0, j1, j2, j3⟩ := h c c0 c1 (by omega)
  obtain ⟨u, u0, u1, u2, u3⟩ := to j j0 j1 (fun w => by subst w; omega)
  exact ⟨u, u0, u1, by omega, by rw [u3, j3, c3]⟩
/-- a piece of code that is put in: from frame g0 to frame g1 -/
def SEG (a g0 g1 F : Int) (K D FI fr lf : Int → Int) : Prop :=
  fr 0 = g0 ∧ fr a = g1 ∧ (∀ i, 0 ≤ i → i < a → 0 ≤ fr i ∧ fr i < F) ∧
  (∀ i, 0 ≤ i → i < a → K i ≠ 8 → (K i = 14 → FI (D i) = fr i ∧ fr (i + 1) = D i ∧ 1 ≤ D i) ∧ (K i = 15 → D i = fr i ∧ 1 ≤ D i ∧ fr (i + 1) = FI (D i)) ∧ (K i ≠ 14 → K i ≠ 15 → fr (i + 1) = fr i)) ∧
  (∀ i, 0 ≤ i → i < a → ((K i = 8 ∨ K i = 9 ∨ K i = 13) → lf (D i) = fr i) ∧ K i ≠ 7 ∧ K i ≠ 10)
theorem SEG.add {a g0 g g' F : Int} {K D K' D' FI fr lf : Int → Int} (h : SEG a g0 g F K D FI fr lf) (ha : 0 ≤ a) (hg : 0 ≤ g ∧ g < F) (hk : ∀ i, 0 ≤ i → i < a → K' i = K i ∧ D' i = D i) (h7 : K' a ≠ 7) (h10 : K' a ≠ 10)
    (hl : (K' a = 8 ∨ K' a = 9 ∨ K' a = 13) → lf (D' a) = g) (hx : K' a ≠ 8 → (K' a = 14 → FI (D' a) = g ∧ g' = D' a ∧ 1 ≤ D' a) ∧ (K' a = 15 → D' a = g ∧ 1 ≤ D' a ∧ g' = FI (D' a)) ∧ (K' a ≠ 14 → K' a ≠ 15 → g' = g)) : ∃ fr', SEG (a + 1) g0 g' F K' D' FI fr' lf := by
  obtain ⟨h1, h2, h3, h4, h5⟩ := h
  obtain ⟨fr', e1, e2⟩ : ∃ fr' : Int → Int, (∀ i, i ≤ a → fr' i = fr i) ∧ fr' (a + 1) = g' := ⟨fun i => if i ≤ a then fr i else g', fun i q => if_pos q, if_neg (by omega)⟩
  refine ⟨fr', by rw [e1 0 (by omega)]; exact h1, e2, fun i x y => ?_, fun i x y => ?_, fun i x y => ?_⟩
  · rw [e1 i (by omega)]
    by_cases z : i = a
    · subst z; rw [h2]; exact hg
    · exact h3 i x (by omega)
  · by_cases z : i = a
    · subst z; rw [e1 i (by omega), e2, h2]; exact hx
    · rw [e1 i (by omega), e1 (i + 1) (by omega), (hk i x (by omega)).1, (hk i x (by omega)).2]
      exact h4 i x (by omega)
  · rw [e1 i (by omega)]
    by_cases z : i = a
    · subst z; rw [h2]; exact ⟨hl, h7, h10⟩
    · rw [(hk i x (by omega)).1, (hk i x (by omega)).2]; exact h5 i x (by omega)
theorem CW.splice {n F F' R k a LB : Int} {K D O K' D' O' KA DA FI FI' fr lf frA lfA : Int → Int} (h : CW n F R K D O FI fr lf) (hk : 0 ≤ k ∧ k < n) (h10 : K k = 10) (ha : 1 ≤ a) (g : SEG a (fr k) (fr k) F' KA DA FI' frA lfA) (hF : F ≤ F') (hFI : ∀ f, 1 ≤ f → f < F → FI' f = FI f)
    (hd : ∀ i, 0 ≤ i → i < n → (K i = 14 ∨ K i = 15) → D i < F) (hl : ∀ i, 0 ≤ i → i < n → (K i = 8 ∨ K i = 9 ∨ K i = 13) → D i < LB) (hla : ∀ i, 0 ≤ i → i < a → (KA i = 8 ∨ KA i = 9 ∨ KA i = 13) → LB ≤ DA i)
    (r1 : ∀ i, 0 ≤ i → i < k → K' i = K i ∧ D' i = D i ∧ O' i = O i) (r2 : ∀ i, 0 ≤ i → i < a → K' (k + i) = KA i ∧ D' (k + i) = DA i) (r3 : ∀ i, k < i → i < n → K' (i + (a - 1)) = K i ∧ D' (i + (a - 1)) = D i ∧ O' (i + (a - 1)) = O i) :
    ∃ fr' lf', CW (n + (a - 1)) F' R K' D' O' FI' fr' lf' := by
  obtain ⟨fr', f1, f2, f3⟩ : ∃ fr' : Int → Int, (∀ i, i < k → fr' i = fr i) ∧ (∀ i, k ≤ i → i < k + a → fr' i = frA (i - k)) ∧ (∀ i, k + a ≤ i → fr' i = fr (i - (a - 1))) := ⟨fun i => if i < k then fr i else if i < k + a then frA (i - k) else fr (i - (a - 1)), fun i x => if_pos x, fun i x y => (if_neg (by omega)).trans (if_pos y), fun i x => (if_neg (by omega)).trans (if_neg (by omega))⟩
  obtain ⟨g1, g2, g3, g4, g5⟩ := g
  have fk := h.2.2.1 k hk.1 hk.2 (by omega) (by omega)
  have fk2 := fk.2.2.2 (by omega) (by omega)
  have fk0 : fr' k = fr k := by rw [f2 k (by omega) (by omega), show k - k = 0 by omega]; exact g1
  have fle : ∀ i, i ≤ k → fr' i = fr i := fun i x => by
    by_cases z : i = k
    · rw [z]; exact fk0
    · exact f1 i (by omega)
  have fge : ∀ i, k < i → fr' (i + (a - 1)) = fr i := fun i x => by rw [f3 (i + (a - 1)) (by omega)]; congr 1; omega
  have fsg : ∀ i, 0 ≤ i → i ≤ a → fr' (k + i) = frA i := fun i x y => by
    by_cases z : i = a
    · subst z; rw [f3 (k + i) (by omega), g2, show k + i - (i - 1) = k + 1 by omega]; exact fk2
    · rw [f2 (k + i) (by omega) (by omega)]; congr 1; omega
  have old : ∀ i, 0 ≤ i → i < n → ∀ e u v, e = K i → u = fr i → v = fr (i + 1) → e ≠ 7 → e ≠ 8 → (e = 14 → FI' (D i) = u ∧ v = D i ∧ 1 ≤ D i) ∧ (e = 15 → D i = u ∧ 1 ≤ D i ∧ v = FI' (D i)) ∧ (e ≠ 14 → e ≠ 15 → v = u) := fun i x y e u v he hu hv x7 x8 => by
    subst he; subst hu; subst hv
    have f := h.2.2.1 i x y x7 x8
    refine ⟨fun e => ?_, fun e => ?_, f.2.2.2⟩
    · have q := f.2.1 e
      have qd := hd i x y (Or.inl e)
      rw [hFI _ q.2.2 qd]; exact q
    · have q := f.2.2.1 e
      have qd := hd i x y (Or.inr e)
      rw [hFI _ q.2.1 qd]; exact q
  obtain ⟨lf', l1, l2⟩ : ∃ lf' : Int → Int, (∀ l, l < LB → lf' l = lf l) ∧ (∀ l, LB ≤ l → lf' l = lfA l) := ⟨fun l => if l < LB then lf l else lfA l, fun l x => if_pos x, fun l x => if_neg (by omega)⟩
  have split3 : ∀ i, 0 ≤ i → i < n + (a - 1) → i < k ∨ (∃ j, 0 ≤ j ∧ j < a ∧ i = k + j) ∨ (∃ j, k < j ∧ j < n ∧ i = j + (a - 1)) := fun i x y => by
    by_cases z : i < k
    · exact Or.inl z
    · by_cases z2 : i < k + a
      · exact Or.inr (Or.inl ⟨i - k, by omega, by omega, by omega⟩)
      · exact Or.inr (Or.inr ⟨i - (a - 1), by omega, by omega, by omega⟩)
  refine ⟨fr', lf', by rw [fle 0 (by omega)]; exact h.1, fun i x y => ?_, fun i x y x7 x8 => ?_, fun i x y => ?_, fun i x y e => ?_⟩
  · rcases split3 i x y with z | ⟨j, j0, j1, z⟩ | ⟨j, j0, j1, z⟩
    · rw [f1 i z]; have := h.2.1 i x (by omega); omega
    · rw [z, fsg j j0 (by omega)]; exact g3 j j0 j1
    · rw [z, fge j j0]; have := h.2.1 j (by omega) j1; omega
  · rcases split3 i x y with z | ⟨j, j0, j1, z⟩ | ⟨j, j0, j1, z⟩
    · rw [(r1 i x z).2.1]
      have e := (r1 i x z).1
      have := old i x (by omega) (K' i) (fr' i) (fr' (i + 1)) e (f1 i z) (fle (i + 1) (by omega)) x7 x8
      exact ⟨by omega, this⟩
    · subst z
      rw [(r2 j j0 j1).1] at x7 x8 ⊢
      rw [(r2 j j0 j1).2, fsg j j0 (by omega), show k + j + 1 = k + (j + 1) by omega, fsg (j + 1) (by omega) (by omega)]
      exact ⟨by omega, g4 j j0 j1 x8⟩
    · subst z
      have e := (r3 j j0 j1).1
      rw [(r3 j j0 j1).2.1]
      have := old j (by omega) j1 (K' (j + (a - 1))) (fr' (j + (a - 1))) (fr' (j + (a - 1) + 1)) e (fge j j0) (by rw [show j + (a - 1) + 1 = (j + 1) + (a - 1) by omega]; exact fge (j + 1) (by omega)) x7 x8
      have fl := (h.2.2.1 j (by omega) j1 (by omega) (by omega)).1
      exact ⟨by omega, this⟩
  · rcases split3 i x y with z | ⟨j, j0, j1, z⟩ | ⟨j, j0, j1, z⟩
    · rw [(r1 i x z).1, (r1 i x z).2.1, f1 i z]
      have q := h.2.2.2.1 i x (by omega)
      exact ⟨fun e => by rw [l1 _ (hl i x (by omega) e)]; exact q.1 e, q.2⟩
    · subst z
      rw [(r2 j j0 j1).1, (r2 j j0 j1).2, fsg j j0 (by omega)]
      have q := g5 j j0 j1
      exact ⟨fun e => by rw [l2 _ (hla j j0 j1 e)]; exact q.1 e, fun e => absurd e q.2.1⟩
    · subst z
      rw [(r3 j j0 j1).1, (r3 j j0 j1).2.1, fge j j0]
      have q := h.2.2.2.1 j (by omega) j1
      exact ⟨fun e => by rw [l1 _ (hl j (by omega) j1 e)]; exact q.1 e, q.2⟩
  · rcases split3 i x y with z | ⟨j, j0, j1, z⟩ | ⟨j, j0, j1, z⟩
    · rw [(r1 i x z).1] at e
      obtain ⟨jr, j, j0, j1, j2, j3, j4⟩ := h.2.2.2.2 i x (by omega) e
      refine ⟨by rw [(r1 i x z).2.2]; exact jr, j, j0, j1, by rw [(r1 j j0 (by omega)).1]; exact j2, by rw [(r1 j j0 (by omega)).2.2, f1 i z]; exact j3, fun u p q => ?_⟩
      rw [(r1 u (by omega) (by omega)).1]; exact j4 u p q
    · subst z; rw [(r2 j j0 j1).1] at e; exact absurd e (g5 j j0 j1).2.2
    · subst z
      rw [(r3 j j0 j1).1] at e
      obtain ⟨ur, u, u0, u1, u2, u3, u4⟩ := h.2.2.2.2 j (by omega) j1 e
      have uk : k < u := by
        by_cases z : k < u
        · exact z
        · exfalso
          by_cases z2 : u = k
          · subst z2; omega
          · have := u4 k (by omega) j0; omega
      refine ⟨by rw [(r3 j j0 j1).2.2]; exact ur, u + (a - 1), by omega, by omega, by rw [(r3 u uk (by omega)).1]; exact u2, by rw [(r3 u uk (by omega)).2.2, fge j j0]; exact u3, fun w p q => ?_⟩
      have := r3 (w - (a - 1)) (by omega) (by omega)
      rw [show w - (a - 1) + (a - 1) = w by omega] at this
      rw [this.1]; exact u4 _ (by omega) (by omega)
theorem LX.splice {n k a : Int} {K D K' D' KA DA : Int → Int} (h : LX n K D) (hk : 0 ≤ k ∧ k < n) (h10 : K k = 10) (ha : 1 ≤ a) (g : LX a KA DA)
    (r1 : ∀ i, 0 ≤ i → i < k → K' i = K i ∧ D' i = D i) (r2 : ∀ i, 0 ≤ i → i < a → K' (k + i) = KA i ∧ D' (k + i) = DA i) (r3 : ∀ i, k < i → i < n → K' (i + (a - 1)) = K i ∧ D' (i + (a - 1)) = D i) : LX (n + (a - 1)) K' D' := by
  have up : ∀ j, 0 ≤ j → j < n → j ≠ k → ∃ i, 0 ≤ i ∧ i < n + (a - 1) ∧ K' i = K j ∧ D' i = D j := fun j x y z => by
    by_cases w : j < k
    · exact ⟨j, x, by omega, (r1 j x w).1, (r1 j x w).2⟩
    · exact ⟨j + (a - 1), by omega, by omega, (r3 j (by omega) y).1, (r3 j (by omega) y).2⟩
  intro i x y e
  by_cases z : i < k
  · obtain ⟨j, j0, j1, j2, j3⟩ := h i x (by omega) (by rw [(r1 i x z).1] at e; exact e)
    obtain ⟨u, u0, u1, u2, u3⟩ := up j j0 j1 (fun w => by subst w; omega)
    exact ⟨u, u0, u1, by omega, by rw [u3, j3, (r1 i x z).2]⟩
  · by_cases z2 : i < k + a
    · have q := r2 (i - k) (by omega) (by omega)
      rw [show k + (i - k) = i by omega] at q
      obtain ⟨j, j0, j1, j2, j3⟩ := g (i - k) (by omega) (by omega) (by rw [q.1] at e; exact e)
      exact ⟨k + j, by omega, by omega, by rw [(r2 j j0 j1).1]; exact j2, by rw [(r2 j j0 j1).2, j3, q.2]⟩
    · have q := r3 (i - (a - 1)) (by omega) (by omega)
      rw [show i - (a - 1) + (a - 1) = i by omega] at q
      obtain ⟨j, j0, j1, j2, j3⟩ := h (i - (a - 1)) (by omega) (by omega) (by rw [q.1] at e; exact e)
      obtain ⟨u, u0, u1, u2, u3⟩ := up j j0 j1 (fun w => by subst w; omega)
      exact ⟨u, u0, u1, by omega, by rw [u3, j3, q.2]⟩
abbrev iK (σ : MS) (r : Int) : Int → Int := fun k => σ.2.1 3 (220 * r + k)
abbrev iD (σ : MS) (r : Int) : Int → Int := fun k => σ.2.1 4 (220 * r + k)
abbrev iO (σ : MS) (r : Int) : Int → Int := fun k => σ.2.1 5 (220 * r + k)
abbrev iF (σ : MS) (r : Int) : Int → Int := fun f => σ.2.1 16 (12 * r + f)
/-- a routine's code: ways, frames, lines of calls -/
def CODE (σ : MS) (r : Int) : Prop := ∃ fr lf, CW (σ.2.1 9 r) (σ.2.1 14 r) (σ.1 10) (iK σ r) (iD σ r) (iO σ r) (iF σ r) fr lf
/-- frames stand in earlier ones -/
def FRI (σ : MS) (r : Int) : Prop := σ.2.1 16 (12 * r + 0) = -1 ∧ ∀ f, 1 ≤ f → f < σ.2.1 14 r → 0 ≤ σ.2.1 16 (12 * r + f) ∧ σ.2.1 16 (12 * r + f) < f
/-- labels are few -/
def LBM (σ : MS) (r : Int) : Prop := ∀ k, 0 ≤ k → k < σ.2.1 9 r → (σ.2.1 3 (220 * r + k) = 8 ∨ σ.2.1 3 (220 * r + k) = 9 ∨ σ.2.1 3 (220 * r + k) = 13) → σ.2.1 4 (220 * r + k) + 2 ≤ 121 * σ.2.1 14 r
theorem CODE.fr {ss ks js : List Nat} {σ τ : MS} {r : Int} (h : CODE σ r) (f : Fr ss ks js σ τ) (hs : 10 ∉ ss) (hk : ∀ k ∈ [3, 4, 5, 9, 14, 16], k ∉ ks) : CODE τ r := by
  obtain ⟨fr, lf, h⟩ := h
  refine ⟨fr, lf, ?_⟩
  unfold iK iD iO iF at h ⊢
  rw [f.q hk (k := 3) (by decide), f.q hk (k := 4) (by decide), f.q hk (k := 5) (by decide), f.q hk (k := 9) (by decide), f.q hk (k := 14) (by decide), f.q hk (k := 16) (by decide), f.1 10 hs]
  exact h
theorem FRI.fr {ss ks js : List Nat} {σ τ : MS} {r : Int} (h : FRI σ r) (f : Fr ss ks js σ τ) (hk : ∀ k ∈ [14, 16], k ∉ ks) : FRI τ r := by
  unfold FRI; rw [f.q hk (k := 14) (by decide), f.q hk (k := 16) (by decide)]; exact h
theorem LBM.fr {ss ks js : List Nat} {σ τ : MS} {r : Int} (h : LBM σ r) (f : Fr ss ks js σ τ) (hk : ∀ k ∈ [3, 4, 9, 14], k ∉ ks) : LBM τ r := by
  unfold LBM; rw [f.q hk (k := 3) (by decide), f.q hk (k := 4) (by decide), f.q hk (k := 9) (by decide), f.q hk (k := 14) (by decide)]; exact h
def KR (a b : Int) : Prop := b = a ∨ ((1 ≤ a ∧ a ≤ 5) ∧ b = 0) ∨ (a = 9 ∧ b = 8)
/-- the first t items are those of the first k of what was that did not go out -/
def CMP (σ0 σ : MS) (r F k t : Int) (SK : Int → Prop) : Prop := ∃ s : Int → Int,
  (∀ j, 0 ≤ j → j < t → ((0 ≤ s j ∧ s j < k) ∧ ¬ SK (s j)) ∧ KR (σ0.2.1 3 (220 * r + s j)) (σ.2.1 3 (220 * r + j)) ∧ σ.2.1 4 (220 * r + j) = σ0.2.1 4 (220 * r + s j) ∧ σ.2.1 5 (220 * r + j) = σ0.2.1 5 (220 * r + s j) ∧ OKI σ F (220 * r + j)) ∧
  (∀ i j, 0 ≤ i → i < j → j < t → s i < s j) ∧ (∀ i, 0 ≤ i → i < k → SK i ∨ ∃ j, 0 ≤ j ∧ j < t ∧ s j = i)
theorem CMP.start {σ0 σ : MS} {r F : Int} {SK : Int → Prop} : CMP σ0 σ r F 0 0 SK := ⟨id, fun j a b => by omega, fun i j a b c => by omega, fun i a b => by omega⟩
theorem CMP.keep {σ0 σ τ : MS} {r F k t : Int} {SK : Int → Prop} (h : CMP σ0 σ r F k t SK) (h0 : 0 ≤ k ∧ 0 ≤ t) (hlo : ∀ j, 0 ≤ j → j < t → IEQ σ (220 * r + j) τ (220 * r + j)) (hp : τ.2.1 11 = σ.2.1 11) (hk : ¬ SK k) (h3 : KR (σ0.2.1 3 (220 * r + k)) (τ.2.1 3 (220 * r + t))) (h4 : τ.2.1 4 (220 * r + t) = σ0.2.1 4 (220 * r + k)) (h5 : τ.2.1 5 (220 * r + t) = σ0.2.1 5 (220 * r + k)) (ho : OKI τ F (220 * r + t)) : CMP σ0 τ r F (k + 1) (t + 1) SK := by
  obtain ⟨s, c1, c2, c3⟩ := h
  obtain ⟨s', e1, e2⟩ : ∃ s' : Int → Int, (∀ j, j < t → s' j = s j) ∧ s' t = k := ⟨fun j => if j < t then s j else k, fun j q => if_pos q, if_neg (by omega)⟩
  refine ⟨s', fun j a b => ?_, fun i j a b c => ?_, fun i a b => ?_⟩
  · by_cases z : j = t
    · subst z; rw [e2]; exact ⟨⟨by omega, hk⟩, h3, h4, h5, ho⟩
    · have q := c1 j a (by omega)
      have w := hlo j a (by omega)
      rw [e1 j (by omega), w.1, w.2.1, w.2.2.1]
      exact ⟨⟨by omega, q.1.2⟩, q.2.1, q.2.2.1, q.2.2.2.1, w.oki hp q.2.2.2.2⟩
  · by_cases z : j = t
    · subst z; rw [e2, e1 i (by omega)]; exact (c1 i a (by omega)).1.1.2
    · rw [e1 i (by omega), e1 j (by omega)]; exact c2 i j a b (by omega)
  · by_cases z : i = k
    · subst z; exact Or.inr ⟨t, by omega, by omega, e2⟩
    · rcases c3 i a (by omega) with q | ⟨j, j0, j1, j2⟩
      · exact Or.inl q
      · exact Or.inr ⟨j, j0, by omega, by rw [e1 j j1]; exact j2⟩
theorem CMP.skip {σ0 σ τ : MS} {r F k t : Int} {SK SK' : Int → Prop} (h : CMP σ0 σ r F k t SK) (hlo : ∀ j, 0 ≤ j → j < t → IEQ σ (220 * r + j) τ (220 * r + j)) (hp : τ.2.1 11 = σ.2.1 11) (hk : SK' k) (hs : ∀ i, 0 ≤ i → i < k → (SK' i ↔ SK i)) : CMP σ0 τ r F (k + 1) t SK' := by
  obtain ⟨s, c1, c2, c3⟩ := h
  refine ⟨s, fun j a b => ?_, c2, fun i a b => ?_⟩
  · have q := c1 j a (by omega)
    have w := hlo j a (by omega)
    rw [w.1, w.2.1, w.2.2.1]
    exact ⟨⟨by omega, fun x => q.1.2 ((hs _ q.1.1.1 q.1.1.2).mp x)⟩, q.2.1, q.2.2.1, q.2.2.2.1, w.oki hp q.2.2.2.2⟩
  · by_cases z : i = k
    · subst z; exact Or.inl hk
    · rcases c3 i a (by omega) with q | q
      · exact Or.inl ((hs i a (by omega)).mpr q)
      · exact Or.inr q
theorem CMP.cm {σ0 σ : MS} {r F n t : Int} {SK : Int → Prop} (h : CMP σ0 σ r F n t SK) : ∃ s, CM n t (iK σ0 r) (iD σ0 r) (iO σ0 r) (iK σ r) (iD σ r) (iO σ r) s SK := by
  obtain ⟨s, c1, c2, c3⟩ := h
  exact ⟨s, fun j a b => ⟨(c1 j a b).1.1, (c1 j a b).1.2, (c1 j a b).2.1, (c1 j a b).2.2.1, (c1 j a b).2.2.2.1⟩, c2, c3⟩
theorem CMP.oks {σ0 σ τ : MS} {r F n t : Int} {SK : Int → Prop} (h : CMP σ0 σ r F n t SK) (ht : τ.2.1 9 r = t) (he : ∀ F x, OKI σ F x → OKI τ F x) : OKS τ F r := fun k a b => by
  obtain ⟨s, c1, c2, c3⟩ := h
  exact he _ _ (c1 k a (by omega)).2.2.2.2
theorem CMP.code {σ0 σ τ : MS} {r F n t : Int} {SK : Int → Prop} (h : CMP σ0 σ r F n t SK) (hc : CODE σ0 r) (hn : n = σ0.2.1 9 r ∧ 1 ≤ n) (hs : SKK n (iK σ0 r) SK)
    (hL : ∀ j k, 0 ≤ j → j < k → k < n → σ0.2.1 3 (220 * r + j) = 11 → σ0.2.1 3 (220 * r + k) = 10 → (∀ i, j < i → i < k → σ0.2.1 3 (220 * r + i) ≤ 5) → ¬ SK k → ¬ SK j)
    (ht : τ.2.1 9 r = t) (h14 : τ.2.1 14 r = σ0.2.1 14 r) (h10 : τ.1 10 = σ0.1 10) (h16 : τ.2.1 16 = σ0.2.1 16) (h3 : τ.2.1 3 = σ.2.1 3) (h4 : τ.2.1 4 = σ.2.1 4) (h5 : τ.2.1 5 = σ.2.1 5) : CODE τ r ∧ 1 ≤ t := by
  obtain ⟨fr, lf, hc⟩ := hc
  obtain ⟨s, c⟩ := h.cm
  obtain ⟨e, hn1⟩ := hn
  subst e
  have st := c.st hc hn1 hs
  refine ⟨⟨fun k => fr (s k), lf, ?_⟩, st.1⟩
  have := c.cw hc hn1 hs hL
  unfold iK iD iO iF at this ⊢
  rw [ht, h14, h10, h16, h3, h4, h5]
  exact this
theorem CMP.lex {σ0 σ τ : MS} {r F n t : Int} {SK : Int → Prop} (h : CMP σ0 σ r F n t SK)
    (hl : ∀ k, 0 ≤ k → k < n → ¬ SK k → (σ0.2.1 3 (220 * r + k) = 8 ∨ σ0.2.1 3 (220 * r + k) = 9) → ∃ j, 0 ≤ j ∧ j < n ∧ σ0.2.1 3 (220 * r + j) = 13 ∧ σ0.2.1 4 (220 * r + j) = σ0.2.1 4 (220 * r + k) ∧ ¬ SK j) (ht : τ.2.1 9 r = t) (h3 : τ.2.1 3 = σ.2.1 3) (h4 : τ.2.1 4 = σ.2.1 4) : LEX τ r := by
  obtain ⟨s, c⟩ := h.cm
  have := c.lx hl
  unfold LEX
  rw [ht, h3, h4]
  exact this
theorem CMP.lbm {σ0 σ τ : MS} {r F n t : Int} {SK : Int → Prop} (h : CMP σ0 σ r F n t SK) (hb : LBM σ0 r) (hn : n = σ0.2.1 9 r) (ht : τ.2.1 9 r = t) (h14 : τ.2.1 14 r = σ0.2.1 14 r) (h3 : τ.2.1 3 = σ.2.1 3) (h4 : τ.2.1 4 = σ.2.1 4) : LBM τ r := fun k a b e => by
  obtain ⟨s, c1, c2, c3⟩ := h
  rw [ht] at b
  rw [h3] at e
  rw [h4, h14]
  obtain ⟨q1, q2, q3, q4⟩ := c1 k a b
  unfold KR at q2
  rw [q3]
  exact hb (s k) q1.1.1 (by omega) (by omega)
/-- in place: kinds as they were, or one of the five COPY -/
theorem CODE.kc {σ τ : MS} {r : Int} (h : CODE σ r) (hn : 1 ≤ σ.2.1 9 r) (hk : KC σ τ) (h4 : τ.2.1 4 = σ.2.1 4) (h5 : τ.2.1 5 = σ.2.1 5) (h9 : τ.2.1 9 = σ.2.1 9) (h14 : τ.2.1 14 = σ.2.1 14) (h16 : τ.2.1 16 = σ.2.1 16) (h10 : τ.1 10 = σ.1 10) : CODE τ r := by
  obtain ⟨fr, lf, h⟩ := h
  have c : CM (σ.2.1 9 r) (σ.2.1 9 r) (iK σ r) (iD σ r) (iO σ r) (iK τ r) (iD τ r) (iO τ r) id (fun _ => False) := by
    refine ⟨fun j a b => ⟨⟨a, b⟩, fun q => q, ?_, by simp only [iD, id]; rw [h4], by simp only [iO, id]; rw [h5]⟩, fun i j _ q _ => q, fun i a b => Or.inr ⟨i, a, b, rfl⟩⟩
    rcases hk (220 * r + j) with q | q
    · exact Or.inl q
    · exact Or.inr (Or.inl q)
  have := c.cw h hn (Or.inr ⟨fun q => q, fun _ _ _ q => q.elim⟩) (fun _ _ _ _ _ _ _ _ _ q => q)
  refine ⟨fr, lf, ?_⟩
  unfold iK iD iO iF at this ⊢
  rw [h9, h14, h16, h10]
  exact this
theorem LEX.kc {σ τ : MS} {r : Int} (h : LEX σ r) (hk : KC σ τ) (h4 : τ.2.1 4 = σ.2.1 4) (h9 : τ.2.1 9 = σ.2.1 9) : LEX τ r := fun k a b e => by
  rw [h9] at b
  have q1 := hk (220 * r + k)
  obtain ⟨j, j0, j1, j2, j3⟩ := h k a b (by omega)
  have q2 := hk (220 * r + j)
  exact ⟨j, j0, by rw [h9]; exact j1, by omega, by rw [h4]; exact j3⟩
theorem LBM.kc {σ τ : MS} {r : Int} (h : LBM σ r) (hk : KC σ τ) (h4 : τ.2.1 4 = σ.2.1 4) (h9 : τ.2.1 9 = σ.2.1 9) (h14 : τ.2.1 14 = σ.2.1 14) : LBM τ r := fun k a b e => by
  rw [h9] at b
  have q1 := hk (220 * r + k)
  rw [h4, h14]
  exact h k a b (by omega)
/-- SHARE: kinds stay, numbers where nothing is written -/
theorem CODE.dk {σ τ : MS} {r : Int} (h : CODE σ r) (hk : DK σ τ) (h3 : τ.2.1 3 = σ.2.1 3) (h5 : τ.2.1 5 = σ.2.1 5) (h9 : τ.2.1 9 = σ.2.1 9) (h14 : τ.2.1 14 = σ.2.1 14) (h16 : τ.2.1 16 = σ.2.1 16) (h10 : τ.1 10 = σ.1 10) : CODE τ r := by
  obtain ⟨fr, lf, h⟩ := h
  refine ⟨fr, lf, ?_⟩
  have e3 : iK τ r = iK σ r := by unfold iK; rw [h3]
  have e5 : iO τ r = iO σ r := by unfold iO; rw [h5]
  have e6 : iF τ r = iF σ r := by unfold iF; rw [h16]
  rw [e3, e5, e6, h9, h14, h10]
  have d : ∀ k, iK σ r k = 8 ∨ iK σ r k = 9 ∨ iK σ r k = 13 ∨ iK σ r k = 14 ∨ iK σ r k = 15 → iD τ r k = iD σ r k := fun k q => hk _ (by simp only [iK] at q; omega)
  obtain ⟨a1, a2, a3, a4, a5⟩ := h
  refine ⟨a1, a2, fun k x y x7 x8 => ?_, fun k x y => ?_, a5⟩
  · obtain ⟨b1, b2, b3, b4⟩ := a3 k x y x7 x8
    refine ⟨b1, fun e => ?_, fun e => ?_, b4⟩
    · rw [d k (by omega)]; exact b2 e
    · rw [d k (by omega)]; exact b3 e
  · obtain ⟨b1, b2⟩ := a4 k x y
    exact ⟨fun e => by rw [d k (by omega)]; exact b1 e, b2⟩
theorem LEX.dk {σ τ : MS} {r : Int} (h : LEX σ r) (hk : DK σ τ) (h3 : τ.2.1 3 = σ.2.1 3) (h9 : τ.2.1 9 = σ.2.1 9) : LEX τ r := fun k a b e => by
  rw [h9] at b
  rw [h3] at e
  obtain ⟨j, j0, j1, j2, j3⟩ := h k a b e
  exact ⟨j, j0, by rw [h9]; exact j1, by rw [h3]; exact j2, by rw [hk _ (by omega), hk _ (by omega)]; exact j3⟩
theorem LBM.dk {σ τ : MS} {r : Int} (h : LBM σ r) (hk : DK σ τ) (h3 : τ.2.1 3 = σ.2.1 3) (h9 : τ.2.1 9 = σ.2.1 9) (h14 : τ.2.1 14 = σ.2.1 14) : LBM τ r := fun k a b e => by
  rw [h9] at b
  rw [h3] at e
  rw [h14, hk _ (by omega)]
  exact h k a b e
theorem oki_jump {σ : MS} {F x : Int} (ho : OKI σ F x) (h9 : σ.2.1 3 x = 9) : OKI (fArg x 0 0 0 (sA 3 x 8 σ)) F x := by
  obtain ⟨o1, o2, o3, o4, o5, o6, o7, o8, o9⟩ := ho
  have e3 : (fArg x 0 0 0 (sA 3 x 8 σ)).2.1 3 x = 8 := ra_o (by decide) (ra_o (by decide) ra_eq)
  have hn : nArgs σ x = 1 := by unfold nArgs; rw [h9]; rfl
  have hm : nArgs (fArg x 0 0 0 (sA 3 x 8 σ)) x = 0 := by unfold nArgs; rw [e3]; rfl
  unfold OKI
  rw [hm, e3]
  refine ⟨by decide, fun q => by omega, fun _ => o3 (by omega), fun q => by omega, fun q => by omega, fun q => by omega, fun q => by omega, fun i c e => ?_, fun q => by omega⟩
  by_cases hi : i = 0
  · subst hi
    rw [show (fArg x 0 0 0 (sA 3 x 8 σ)).2.1 7 (4 * x + 0) = 0 from ra_o (by decide) ra_eq]
    exact ⟨by decide, fun q => by omega⟩
  · rw [show (fArg x 0 0 0 (sA 3 x 8 σ)).2.1 7 (4 * x + i) = σ.2.1 7 (4 * x + i) from ra_o (by decide) (ra_ne (by omega) (ra_o (by decide) rfl))]
    have := o8 i c e
    rw [hn] at this
    exact ⟨this.1, fun q => by have := (this.2 q).2; omega⟩
theorem jump_off {σ : MS} {x : Int} : OFF x σ (fArg x 0 0 0 (sA 3 x 8 σ)) := (OFF.A (by decide)).trans (OFF.arg (by decide) (by decide))
def CMZ (σ0 σ : MS) (r F k t : Int) : Prop := ∃ SK : Int → Prop, CMP σ0 σ r F k t SK ∧ ∀ i, SK i → (0 ≤ i ∧ i < k) ∧ σ0.2.1 3 (220 * r + i) = 9
/-- FOLD at item k, t of them kept -/
def FLP (σ0 σ : MS) (r F k t : Int) : Prop := CMZ σ0 σ r F k t ∧ (∀ j, k ≤ j → j < 220 → IEQ σ0 (220 * r + j) σ (220 * r + j)) ∧ XO r σ0 σ ∧ σ.2.1 11 = σ0.2.1 11
/-- and item k in work -/
def FWK (σ0 σ : MS) (r F k t : Int) : Prop := CMZ σ0 σ r F k t ∧ (∀ j, k < j → j < 220 → IEQ σ0 (220 * r + j) σ (220 * r + j)) ∧ XO r σ0 σ ∧ σ.2.1 11 = σ0.2.1 11 ∧ KR (σ0.2.1 3 (220 * r + k)) (σ.2.1 3 (220 * r + k)) ∧ σ.2.1 4 (220 * r + k) = σ0.2.1 4 (220 * r + k) ∧ σ.2.1 5 (220 * r + k) = σ0.2.1 5 (220 * r + k) ∧ OKI σ F (220 * r + k)
theorem IEQ.fr {ss ks js : List Nat} {σ τ : MS} {x : Int} (f : Fr ss ks js σ τ) (h : ∀ k ∈ [3, 4, 5, 6, 7, 8], k ∉ ks) : IEQ σ x τ x := by
  unfold IEQ
  rw [f.q h (k := 3) (by decide), f.q h (k := 4) (by decide), f.q h (k := 5) (by decide), f.q h (k := 6) (by decide), f.q h (k := 7) (by decide), f.q h (k := 8) (by decide)]
  exact ⟨Eq.refl _, Eq.refl _, Eq.refl _, Eq.refl _, fun _ _ _ => ⟨Eq.refl _, Eq.refl _⟩⟩
theorem CMP.same {σ0 σ τ : MS} {r F k t : Int} {SK : Int → Prop} (h : CMP σ0 σ r F k t SK) (hlo : ∀ j, 0 ≤ j → j < t → IEQ σ (220 * r + j) τ (220 * r + j)) (hp : τ.2.1 11 = σ.2.1 11) : CMP σ0 τ r F k t SK := by
  obtain ⟨s, c1, c2, c3⟩ := h
  refine ⟨s, fun j a b => ?_, c2, c3⟩
  have q := c1 j a (by omega)
  have w := hlo j a (by omega)
  rw [w.1, w.2.1, w.2.2.1]
  exact ⟨q.1, q.2.1, q.2.2.1, q.2.2.2.1, w.oki hp q.2.2.2.2⟩
theorem FLP.start {σ : MS} {r F : Int} : FLP σ σ r F 0 0 := ⟨⟨fun _ => False, CMP.start, fun _ q => q.elim⟩, fun _ _ _ => IEQ.rfl, XO.rfl, rfl⟩
theorem FLP.wk {σ0 σ : MS} {r F k t : Int} (h : FLP σ0 σ r F k t) (hk : 0 ≤ k ∧ k < 220) (ho : OKI σ0 F (220 * r + k)) : FWK σ0 σ r F k t := by
  obtain ⟨h1, h2, h3, h4⟩ := h
  have q := h2 k (by omega) hk.2
  exact ⟨h1, fun j a b => h2 j (by omega) b, h3, h4, Or.inl q.1, q.2.1, q.2.2.1, q.oki h4 ho⟩
theorem FWK.off {σ0 σ τ : MS} {r F k t : Int} (h : FWK σ0 σ r F k t) (hk : 0 ≤ k ∧ k < 220 ∧ t ≤ k) (f : OFF (220 * r + k) σ τ) (h3 : KR (σ0.2.1 3 (220 * r + k)) (τ.2.1 3 (220 * r + k))) (h4 : τ.2.1 4 (220 * r + k) = σ.2.1 4 (220 * r + k)) (h5 : τ.2.1 5 (220 * r + k) = σ.2.1 5 (220 * r + k)) (ho : OKI τ F (220 * r + k)) : FWK σ0 τ r F k t := by
  obtain ⟨⟨SK, c, cs⟩, g2, g3, g4, g5, g6, g7, g8⟩ := h
  exact ⟨⟨SK, c.same (fun j a b => f.ieq (by omega)) f.2.2.2, cs⟩, fun j a b => (g2 j a b).trans (f.ieq (by omega)), g3.trans (f.xo hk.1 hk.2.1), f.2.2.2.trans g4, h3, h4.trans g6, h5.trans g7, ho⟩
theorem FWK.fr {ss ks js : List Nat} {σ0 σ τ : MS} {r F k t : Int} (h : FWK σ0 σ r F k t) (f : Fr ss ks js σ τ) (hk : ∀ k ∈ [3, 4, 5, 6, 7, 8, 9, 11], k ∉ ks) : FWK σ0 τ r F k t := by
  have sub : ∀ l : List Nat, (∀ k ∈ l, k ∈ [3, 4, 5, 6, 7, 8, 9, 11]) → ∀ k ∈ l, k ∉ ks := fun l hl k q => hk k (hl k q)
  obtain ⟨⟨SK, c, cs⟩, g2, g3, g4, g5, g6, g7, g8⟩ := h
  have e : ∀ x, IEQ σ x τ x := fun x => IEQ.fr f (sub _ (by decide))
  have e11 : τ.2.1 11 = σ.2.1 11 := f.q hk (k := 11) (by decide)
  refine ⟨⟨SK, c.same (fun j a b => e _) e11, cs⟩, fun j a b => (g2 j a b).trans (e _), g3.trans (XO.fr f (sub _ (by decide))), e11.trans g4, ?_, ?_, ?_, (e _).oki e11 g8⟩
  · rw [f.q hk (k := 3) (by decide)]; exact g5
  · rw [f.q hk (k := 4) (by decide)]; exact g6
  · rw [f.q hk (k := 5) (by decide)]; exact g7
theorem FWK.keep {σ0 σ : MS} {r F k t : Int} (h : FWK σ0 σ r F k t) (hk : 0 ≤ k ∧ k < 220 ∧ 0 ≤ t ∧ t ≤ k) : FLP σ0 (fCopy (220 * r + k) (220 * r + t) σ) r F (k + 1) (t + 1) := by
  obtain ⟨⟨SK, c, cs⟩, g2, g3, g4, g5, g6, g7, g8⟩ := h
  have i := fCopy_ieq (f := 220 * r + k) (t := 220 * r + t) (σ := σ)
  have o := fCopy_off (f := 220 * r + k) (t := 220 * r + t) (σ := σ)
  refine ⟨⟨SK, c.keep ⟨hk.1, hk.2.2.1⟩ (fun j a b => o.ieq (by omega)) o.2.2.2 (fun q => by have := (cs _ q).1; omega) (by rw [i.1]; exact g5) (by rw [i.2.1]; exact g6) (by rw [i.2.2.1]; exact g7) (i.oki o.2.2.2 g8), fun j q => ⟨by have := (cs _ q).1; omega, (cs _ q).2⟩⟩, fun j a b => (g2 j (by omega) b).trans (o.ieq (by omega)), g3.trans (o.xo hk.2.2.1 (by omega)), o.2.2.2.trans g4⟩
theorem FWK.skip {σ0 σ : MS} {r F k t : Int} (h : FWK σ0 σ r F k t) (hk : 0 ≤ k) (h9 : σ0.2.1 3 (220 * r + k) = 9) : FLP σ0 σ r F (k + 1) t := by
  obtain ⟨⟨SK, c, cs⟩, g2, g3, g4, g5, g6, g7, g8⟩ := h
  refine ⟨⟨fun i => SK i ∨ i = k, c.skip (fun j a b => IEQ.rfl) rfl (Or.inr rfl) (fun i a b => ⟨fun q => q.elim id (fun e => by omega), Or.inl⟩), fun j q => ?_⟩, fun j a b => g2 j (by omega) b, g3, g4⟩
  rcases q with q | q
  · exact ⟨by have := (cs _ q).1; omega, (cs _ q).2⟩
  · subst q; exact ⟨by omega, h9⟩
theorem FLP.fin {σ0 σ : MS} {r F n t : Int} (h : FLP σ0 σ r F n t) (hn : n = σ0.2.1 9 r ∧ 1 ≤ n) (f : Fr [] [3, 4, 5, 6, 7, 8, 60, 61] [] σ0 σ) (hc : CODE σ0 r) (hl : LEX σ0 r) (hb : LBM σ0 r) :
    CODE (sA 9 r t σ) r ∧ 1 ≤ t ∧ LEX (sA 9 r t σ) r ∧ LBM (sA 9 r t σ) r ∧ OKS (sA 9 r t σ) F r := by
  obtain ⟨⟨SK, c, cs⟩, g2, g3, g4⟩ := h
  have e14 : (sA 9 r t σ).2.1 14 = σ0.2.1 14 := f.2.1 14 (by decide)
  have e16 : (sA 9 r t σ).2.1 16 = σ0.2.1 16 := f.2.1 16 (by decide)
  have e10 : (sA 9 r t σ).1 10 = σ0.1 10 := f.1 10 (by decide)
  have nS : ∀ i, σ0.2.1 3 (220 * r + i) ≠ 9 → ¬ SK i := fun i q w => q (cs i w).2
  have cc := c.code (τ := sA 9 r t σ) hc hn (Or.inl fun i a b q => Or.inl (cs i q).2) (fun j k _ _ _ e _ _ _ => nS j (by omega)) ra_eq (by rw [e14]) e10 e16 rfl rfl rfl
  refine ⟨cc.1, cc.2, c.lex (fun k a b _ e => ?_) ra_eq rfl rfl, c.lbm hb hn.1 ra_eq (by rw [e14]) rfl rfl, c.oks ra_eq (fun F x q => ?_)⟩
  · obtain ⟨j, j0, j1, j2, j3⟩ := hl k a (by omega) e
    exact ⟨j, j0, by omega, j2, j3, nS j (by omega)⟩
  · exact (IEQ.fr ((Fr.rfl (ss := []) (ks := [9]) (js := [])).A (by decide)) (by decide)).oki rfl q
theorem FWK.z9 {σ0 σ : MS} {r F k t : Int} (h : FWK σ0 σ r F k t) (e : σ.2.1 3 (220 * r + k) = 9) : σ0.2.1 3 (220 * r + k) = 9 := by
  have := h.2.2.2.2.1; unfold KR at this; omega
theorem FWK.ok {σ0 σ : MS} {r F k t : Int} (h : FWK σ0 σ r F k t) : OKI σ F (220 * r + k) := h.2.2.2.2.2.2.2
theorem FWK.jump {σ0 σ : MS} {r F k t : Int} (h : FWK σ0 σ r F k t) (hk : 0 ≤ k ∧ k < 220 ∧ t ≤ k) (e : σ.2.1 3 (220 * r + k) = 9) : FWK σ0 (fArg (220 * r + k) 0 0 0 (sA 3 (220 * r + k) 8 σ)) r F k t :=
  h.off hk jump_off (Or.inr (Or.inr ⟨h.z9 e, ra_o (by decide) (ra_o (by decide) ra_eq)⟩)) rfl rfl (oki_jump h.ok e)
theorem FWK.cpy {σ0 σ : MS} {r F k t v : Int} (h : FWK σ0 σ r F k t) (hk : 0 ≤ k ∧ k < 220 ∧ t ≤ k) (e : 1 ≤ σ.2.1 3 (220 * r + k) ∧ σ.2.1 3 (220 * r + k) ≤ 5) : FWK σ0 (fCpy (220 * r + k) 1 v σ) r F k t :=
  h.off hk fCpy_off (Or.inr (Or.inl ⟨by have := h.2.2.2.2.1; unfold KR at this; omega, ra_o (by decide) (ra_o (by decide) (ra_o (by decide) (ra_o (by decide) ra_eq)))⟩)) rfl rfl (fCpy_oki h.ok e (by decide) (fun q => by omega))
theorem FWK.bind {σ0 σ : MS} {r F k t v : Int} (h : FWK σ0 σ r F k t) (hk : 0 ≤ k ∧ k < 220 ∧ t ≤ k) (e : σ.2.1 3 (220 * r + k) = 12) (e2 : σ.2.1 6 (220 * r + k) = 2) : FWK σ0 (fArg (220 * r + k) 0 1 v (sA 6 (220 * r + k) 1 σ)) r F k t :=
  h.off hk takA_off h.2.2.2.2.1 rfl rfl (oki_takA h.ok e e2 (by decide) (fun q => by omega))
theorem FWK.puts {σ0 σ τ : MS} {r F k t : Int} (h : FWK σ0 σ r F k t) (hk : 0 ≤ k ∧ k < 220 ∧ t ≤ k) (o : OFF (220 * r + k) σ τ) (f : Fr [] [7, 8] [] σ τ) (ho : OKI τ F (220 * r + k)) : FWK σ0 τ r F k t :=
  h.off hk o (by rw [f.2.1 3 (by decide)]; exact h.2.2.2.2.1) (by rw [f.2.1 4 (by decide)]) (by rw [f.2.1 5 (by decide)]) ho

