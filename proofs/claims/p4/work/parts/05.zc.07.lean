/-! names: the reference's word (8 bits a letter), the class's key (5 bits a letter), both out of the letters, the last one first -/
def k5 : List Int → Int
  | [] => 0
  | b :: l => 32 * k5 l + (b - 96)
def w8 : List Int → Int
  | [] => 0
  | b :: l => 256 * w8 l + b
def LTR (l : List Int) : Prop := ∀ b ∈ l, 97 ≤ b ∧ b ≤ 122
theorem LTR.tl {b : Int} {l : List Int} (h : LTR (b :: l)) : LTR l := fun c q => h c (List.mem_cons_of_mem _ q)
theorem LTR.hd {b : Int} {l : List Int} (h : LTR (b :: l)) : 97 ≤ b ∧ b ≤ 122 := h b List.mem_cons_self
theorem k5_0 : ∀ l, LTR l → 0 ≤ k5 l
  | [], _ => Int.le_refl _
  | b :: l, h => by
    have := k5_0 l h.tl
    have := h.hd
    show 0 ≤ 32 * k5 l + (b - 96)
    omega
theorem w8_0 : ∀ l, LTR l → 0 ≤ w8 l
  | [], _ => Int.le_refl _
  | b :: l, h => by
    have := w8_0 l h.tl
    have := h.hd
    show 0 ≤ 256 * w8 l + b
    omega
theorem k5_inj : ∀ l m, LTR l → LTR m → k5 l = k5 m → l = m
  | [], [], _, _, _ => rfl
  | [], c :: m, _, h, e => by
    have := k5_0 m h.tl
    have := h.hd
    have e2 : (0 : Int) = 32 * k5 m + (c - 96) := e
    omega
  | b :: l, [], h, _, e => by
    have := k5_0 l h.tl
    have := h.hd
    have e2 : 32 * k5 l + (b - 96) = (0 : Int) := e
    omega
  | b :: l, c :: m, h, g, e => by
    have h1 := h.hd
    have h2 := g.hd
    have e2 : 32 * k5 l + (b - 96) = 32 * k5 m + (c - 96) := e
    have e3 : b = c := by omega
    have e4 : k5 l = k5 m := by omega
    rw [e3, k5_inj l m h.tl g.tl e4]
theorem w8_inj : ∀ l m, LTR l → LTR m → w8 l = w8 m → l = m
  | [], [], _, _, _ => rfl
  | [], c :: m, _, h, e => by
    have := w8_0 m h.tl
    have := h.hd
    have e2 : (0 : Int) = 256 * w8 m + c := e
    omega
  | b :: l, [], h, _, e => by
    have := w8_0 l h.tl
    have := h.hd
    have e2 : 256 * w8 l + b = (0 : Int) := e
    omega
  | b :: l, c :: m, h, g, e => by
    have h1 := h.hd
    have h2 := g.hd
    have e2 : 256 * w8 l + b = 256 * w8 m + c := e
    have e3 : b = c := by omega
    have e4 : w8 l = w8 m := by omega
    rw [e3, w8_inj l m h.tl g.tl e4]
theorem k5_b : ∀ (n : Nat) (l : List Int), LTR l → l.length ≤ n → k5 l < 32 ^ n
  | 0, [], _, _ => by show (0 : Int) < 1; decide
  | 0, _ :: _, _, h => absurd h (by simp)
  | n + 1, [], _, _ => Int.pow_pos (by decide)
  | n + 1, b :: l, h, e => by
    have i := k5_b n l h.tl (by simpa using e)
    have := h.hd
    show 32 * k5 l + (b - 96) < 32 ^ (n + 1)
    rw [Int.pow_succ]
    omega
theorem w8_b : ∀ (n : Nat) (l : List Int), LTR l → l.length ≤ n → w8 l < 256 ^ n
  | 0, [], _, _ => by show (0 : Int) < 1; decide
  | 0, _ :: _, _, h => absurd h (by simp)
  | n + 1, [], _, _ => Int.pow_pos (by decide)
  | n + 1, b :: l, h, e => by
    have i := w8_b n l h.tl (by simpa using e)
    have := h.hd
    show 256 * w8 l + b < 256 ^ (n + 1)
    rw [Int.pow_succ]
    omega
/-- names of six letters at most: keys and words are alike together -/
theorem kw_iff {l m : List Int} (hl : LTR l) (hm : LTR m) (h6 : l.length ≤ 6) (g6 : m.length ≤ 6) : iI (k5 l) = iI (k5 m) ↔ Int64.ofInt (w8 l) = Int64.ofInt (w8 m) := by
  have a1 := k5_0 l hl
  have a2 := k5_0 m hm
  have b1 := k5_b 6 l hl h6
  have b2 := k5_b 6 m hm g6
  have c1 := w8_0 l hl
  have c2 := w8_0 m hm
  have d1 := w8_b 6 l hl h6
  have d2 := w8_b 6 m hm g6
  rw [show (32 : Int) ^ 6 = 1073741824 by decide] at b1 b2
  rw [show (256 : Int) ^ 6 = 281474976710656 by decide] at d1 d2
  constructor
  · intro e
    rw [k5_inj l m hl hm ((iI_eq ⟨by omega, by omega⟩ ⟨by omega, by omega⟩).mp e)]
  · intro e
    have e2 := congrArg Int64.toInt e
    rw [Int64.toInt_ofInt_of_le (by simp; omega) (by simp; omega), Int64.toInt_ofInt_of_le (by simp; omega) (by simp; omega)] at e2
    rw [w8_inj l m hl hm e2]

