/-! tokens as the class numbers them -/
def ckd (t : TK) : Int := if t.2.2.1 = 0 then 264 else if t.2.2.1 = 1 then 263 else if t.2.2.1 = 3 then 257 else if t.2.2.1 = 4 then t.2.2.2.1 else if t.2.2.2.2 = 7304564 then 258 else if t.2.2.2.2 = 125780071117422 then 259 else if t.2.2.2.2 = 26982 then 260 else if t.2.2.2.2 = 1701606245 then 261 else if t.2.2.2.2 = 512852847717 then 262 else 256
def TKV (t : TK) : Prop := (0 ≤ t.2.2.1 ∧ t.2.2.1 ≤ 4) ∧ (t.2.2.1 = 4 → 0 ≤ t.2.2.2.1 ∧ t.2.2.2.1 ≤ 255)
theorem ck_cases {t : TK} (h : TKV t) : (t.2.2.1 = 0 ∧ ckd t = 264) ∨ (t.2.2.1 = 1 ∧ ckd t = 263) ∨ (t.2.2.1 = 3 ∧ ckd t = 257) ∨ (t.2.2.1 = 4 ∧ ckd t = t.2.2.2.1 ∧ 0 ≤ t.2.2.2.1 ∧ t.2.2.2.1 ≤ 255) ∨ (t.2.2.1 = 2 ∧ ((t.2.2.2.2 = 7304564 ∧ ckd t = 258) ∨ (t.2.2.2.2 = 125780071117422 ∧ ckd t = 259) ∨ (t.2.2.2.2 = 26982 ∧ ckd t = 260) ∨ (t.2.2.2.2 = 1701606245 ∧ ckd t = 261) ∨ (t.2.2.2.2 = 512852847717 ∧ ckd t = 262) ∨ (t.2.2.2.2 ∉ W5 ∧ ckd t = 256))) := by
  unfold ckd
  by_cases c0 : t.2.2.1 = 0
  · exact Or.inl ⟨c0, if_pos c0⟩
  rw [if_neg c0]
  by_cases c1 : t.2.2.1 = 1
  · exact Or.inr (Or.inl ⟨c1, if_pos c1⟩)
  rw [if_neg c1]
  by_cases c3 : t.2.2.1 = 3
  · exact Or.inr (Or.inr (Or.inl ⟨c3, if_pos c3⟩))
  rw [if_neg c3]
  by_cases c4 : t.2.2.1 = 4
  · exact Or.inr (Or.inr (Or.inr (Or.inl ⟨c4, if_pos c4, h.2 c4⟩)))
  rw [if_neg c4]
  have c2 : t.2.2.1 = 2 := by have := h.1; omega
  refine Or.inr (Or.inr (Or.inr (Or.inr ⟨c2, ?_⟩)))
  by_cases a : t.2.2.2.2 = 7304564
  · exact Or.inl ⟨a, if_pos a⟩
  rw [if_neg a]
  by_cases b : t.2.2.2.2 = 125780071117422
  · exact Or.inr (Or.inl ⟨b, if_pos b⟩)
  rw [if_neg b]
  by_cases c : t.2.2.2.2 = 26982
  · exact Or.inr (Or.inr (Or.inl ⟨c, if_pos c⟩))
  rw [if_neg c]
  by_cases d : t.2.2.2.2 = 1701606245
  · exact Or.inr (Or.inr (Or.inr (Or.inl ⟨d, if_pos d⟩)))
  rw [if_neg d]
  by_cases e : t.2.2.2.2 = 512852847717
  · exact Or.inr (Or.inr (Or.inr (Or.inr (Or.inl ⟨e, if_pos e⟩))))
  rw [if_neg e]
  exact Or.inr (Or.inr (Or.inr (Or.inr (Or.inr ⟨by simp only [List.mem_cons, List.not_mem_nil, or_false]; exact fun q => q.elim a (fun q => q.elim b (fun q => q.elim c (fun q => q.elim d e))), rfl⟩))))
theorem w5_in {w : Int64} (h : w = 7304564 ∨ w = 125780071117422 ∨ w = 26982 ∨ w = 1701606245 ∨ w = 512852847717) : w ∈ W5 := by
  rcases h with rfl | rfl | rfl | rfl | rfl <;> decide
theorem ck_sgn {t : TK} {c : Int} (h : TKV t) (hc : c ≤ 255) : ckd t = c ↔ sgn t c := by
  rcases ck_cases h with ⟨a, b⟩ | ⟨a, b⟩ | ⟨a, b⟩ | ⟨a, b, d⟩ | ⟨a, b⟩
  · exact ⟨fun q => by omega, fun q => by have := q.1; omega⟩
  · exact ⟨fun q => by omega, fun q => by have := q.1; omega⟩
  · exact ⟨fun q => by omega, fun q => by have := q.1; omega⟩
  · exact ⟨fun q => ⟨a, by omega⟩, fun q => by rw [b]; exact q.2⟩
  · exact ⟨fun q => by rcases b with b | b | b | b | b | b <;> (have := b.2; omega), fun q => by have := q.1; omega⟩
theorem ck_nam {t : TK} (h : TKV t) : ckd t = 256 ↔ nam t := by
  rcases ck_cases h with ⟨a, b⟩ | ⟨a, b⟩ | ⟨a, b⟩ | ⟨a, b, d⟩ | ⟨a, b⟩
  · exact ⟨fun q => by omega, fun q => by have := q.1; omega⟩
  · exact ⟨fun q => by omega, fun q => by have := q.1; omega⟩
  · exact ⟨fun q => by omega, fun q => by have := q.1; omega⟩
  · exact ⟨fun q => by omega, fun q => by have := q.1; omega⟩
  · rcases b with b | b | b | b | b | b
    · exact ⟨fun q => by have := b.2; omega, fun q => absurd (w5_in (by simp [b.1])) q.2⟩
    · exact ⟨fun q => by have := b.2; omega, fun q => absurd (w5_in (by simp [b.1])) q.2⟩
    · exact ⟨fun q => by have := b.2; omega, fun q => absurd (w5_in (by simp [b.1])) q.2⟩
    · exact ⟨fun q => by have := b.2; omega, fun q => absurd (w5_in (by simp [b.1])) q.2⟩
    · exact ⟨fun q => by have := b.2; omega, fun q => absurd (w5_in (by simp [b.1])) q.2⟩
    · exact ⟨fun _ => ⟨a, b.1⟩, fun _ => b.2⟩
/-- the words: 258 OUT, 259 RETURN, 260 IF, 261 ELSE, 262 WHILE -/
theorem ck_wrd {t : TK} {w : Int64} {k : Int} (h : TKV t) (hw : (w = 7304564 ∧ k = 258) ∨ (w = 125780071117422 ∧ k = 259) ∨ (w = 26982 ∧ k = 260) ∨ (w = 1701606245 ∧ k = 261) ∨ (w = 512852847717 ∧ k = 262)) : ckd t = k ↔ wrd t w := by
  have hk : 258 ≤ k ∧ k ≤ 262 := by omega
  rcases ck_cases h with ⟨a, b⟩ | ⟨a, b⟩ | ⟨a, b⟩ | ⟨a, b, d⟩ | ⟨a, b⟩
  · exact ⟨fun q => by omega, fun q => by have := q.1; omega⟩
  · exact ⟨fun q => by omega, fun q => by have := q.1; omega⟩
  · exact ⟨fun q => by omega, fun q => by have := q.1; omega⟩
  · exact ⟨fun q => by omega, fun q => by have := q.1; omega⟩
  · constructor
    · intro q
      refine ⟨a, ?_⟩
      rcases b with b | b | b | b | b | b <;> rcases hw with w1 | w1 | w1 | w1 | w1 <;> first | (exfalso; have := b.2; have := w1.2; omega) | (exact b.1.trans w1.1.symm)
    · intro q
      have e := q.2
      rcases hw with w1 | w1 | w1 | w1 | w1 <;> rcases b with b | b | b | b | b | b <;> first | (exact b.2.trans w1.2.symm) | (exfalso; rw [w1.1, b.1] at e; exact absurd e (by decide)) | (exfalso; exact b.1 (w5_in (by rw [e, w1.1]; simp)))
theorem ck_num {t : TK} (h : TKV t) : ckd t = 257 ↔ t.2.2.1 = 3 := by
  rcases ck_cases h with ⟨a, b⟩ | ⟨a, b⟩ | ⟨a, b⟩ | ⟨a, b, d⟩ | ⟨a, b | b | b | b | b | b⟩ <;> omega
theorem ck_end {t : TK} (h : TKV t) : ckd t = 264 ↔ t.2.2.1 = 0 := by
  rcases ck_cases h with ⟨a, b⟩ | ⟨a, b⟩ | ⟨a, b⟩ | ⟨a, b, d⟩ | ⟨a, b | b | b | b | b | b⟩ <;> omega
theorem ck_bad {t : TK} (h : TKV t) : ckd t = 263 ↔ t.2.2.1 = 1 := by
  rcases ck_cases h with ⟨a, b⟩ | ⟨a, b⟩ | ⟨a, b⟩ | ⟨a, b, d⟩ | ⟨a, b | b | b | b | b | b⟩ <;> omega
theorem advP_v {s : Int → Int} (hs : ∀ k, s k ≤ 255) (p : Int) : TKV (advP s p) := by
  unfold advP TKV
  by_cases c0 : s p < 0
  · rw [if_pos c0]; exact ⟨⟨Int.le_refl _, by show (0 : Int) ≤ 4; omega⟩, fun q => absurd q (by show ¬ (0 : Int) = 4; omega)⟩
  rw [if_neg c0]
  by_cases c1 : 97 ≤ s p ∧ s p ≤ 122
  · rw [if_pos c1]
    by_cases z : 6 < (ltp s p 0 0).2.2
    · rw [if_pos z]; exact ⟨⟨by show (0 : Int) ≤ 1; omega, by show (1 : Int) ≤ 4; omega⟩, fun q => absurd q (by show ¬ (1 : Int) = 4; omega)⟩
    · rw [if_neg z]; exact ⟨⟨by show (0 : Int) ≤ 2; omega, by show (2 : Int) ≤ 4; omega⟩, fun q => absurd q (by show ¬ (2 : Int) = 4; omega)⟩
  rw [if_neg c1]
  by_cases c2 : 48 ≤ s p ∧ s p ≤ 57
  · rw [if_pos c2]
    by_cases z : 7 < (dgp s p 0 0).2.2
    · rw [if_pos z]; exact ⟨⟨by show (0 : Int) ≤ 1; omega, by show (1 : Int) ≤ 4; omega⟩, fun q => absurd q (by show ¬ (1 : Int) = 4; omega)⟩
    · rw [if_neg z]; exact ⟨⟨by show (0 : Int) ≤ 3; omega, by show (3 : Int) ≤ 4; omega⟩, fun q => absurd q (by show ¬ (3 : Int) = 4; omega)⟩
  rw [if_neg c2]
  by_cases z : sgZ (s p) < 0
  · rw [if_pos z]; exact ⟨⟨by show (0 : Int) ≤ 1; omega, by show (1 : Int) ≤ 4; omega⟩, fun q => absurd q (by show ¬ (1 : Int) = 4; omega)⟩
  · rw [if_neg z]; exact ⟨⟨by show (0 : Int) ≤ 4; omega, by show (4 : Int) ≤ 4; omega⟩, fun _ => ⟨by show 0 ≤ s p; omega, hs p⟩⟩
/-- the tokens of a tape -/
def tkS (s : Int → Int) : Nat → TK
  | 0 => advT s 0
  | j + 1 => advT s (tkS s j).2.1
theorem tkS_v {s : Int → Int} (hs : ∀ k, s k ≤ 255) : ∀ j, TKV (tkS s j)
  | 0 => advP_v hs _
  | _ + 1 => advP_v hs _
theorem tkS_w {s : Int → Int} (hs : SEN s) : ∀ j, TKW (tkS s j)
  | 0 => (advT_w hs 0).2
  | _ + 1 => (advT_w hs _).2
/-- a NAME's number in the class: five bits a letter -/
def NKY (t : TK) (v : Int) : Prop := t.2.2.1 = 2 → ∃ l, LTR l ∧ l.length ≤ 6 ∧ v = k5 l ∧ t.2.2.2.2 = Int64.ofInt (w8 l)
theorem NKY.iff {t u : TK} {v w : Int} (h : NKY t v) (g : NKY u w) (ht : t.2.2.1 = 2) (hu : u.2.2.1 = 2) : v = w ↔ t.2.2.2.2 = u.2.2.2.2 := by
  obtain ⟨l, a, b, c, d⟩ := h ht
  obtain ⟨m, a2, b2, c2, d2⟩ := g hu
  rw [d, d2, ← kw_iff a a2 b b2, c, c2]
  have x1 := k5_0 l a
  have x2 := k5_0 m a2
  have y1 := k5_b 6 l a b
  have y2 := k5_b 6 m a2 b2
  rw [show (32 : Int) ^ 6 = 1073741824 by decide] at y1 y2
  exact (iI_eq ⟨by omega, by omega⟩ ⟨by omega, by omega⟩).symm

