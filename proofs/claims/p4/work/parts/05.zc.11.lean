/-! the five words: key and word -/
theorem wk_of {l m : List Int} {v : Int} {w : Int64} (hl : LTR l) (h6 : l.length ≤ 6) (hm : LTR m) (m6 : m.length ≤ 6) (hv : k5 m = v) (hw : Int64.ofInt (w8 m) = w) : k5 l = v ↔ Int64.ofInt (w8 l) = w := by
  rw [← hw, ← kw_iff hl hm h6 m6, ← hv]
  have x1 := k5_0 l hl
  have x2 := k5_0 m hm
  have y1 := k5_b 6 l hl h6
  have y2 := k5_b 6 m hm m6
  rw [show (32 : Int) ^ 6 = 1073741824 by decide] at y1 y2
  exact (iI_eq ⟨by omega, by omega⟩ ⟨by omega, by omega⟩).symm
theorem wk_out {l : List Int} (hl : LTR l) (h6 : l.length ≤ 6) : k5 l = 16052 ↔ Int64.ofInt (w8 l) = 7304564 := wk_of hl h6 (m := [116, 117, 111]) (by unfold LTR; decide) (by decide) (by decide) (by decide)
theorem wk_ret {l : List Int} (hl : LTR l) (h6 : l.length ≤ 6) : k5 l = 609900110 ↔ Int64.ofInt (w8 l) = 125780071117422 := wk_of hl h6 (m := [110, 114, 117, 116, 101, 114]) (by unfold LTR; decide) (by decide) (by decide) (by decide)
theorem wk_if {l : List Int} (hl : LTR l) (h6 : l.length ≤ 6) : k5 l = 294 ↔ Int64.ofInt (w8 l) = 26982 := wk_of hl h6 (m := [102, 105]) (by unfold LTR; decide) (by decide) (by decide) (by decide)
theorem wk_els {l : List Int} (hl : LTR l) (h6 : l.length ≤ 6) : k5 l = 176741 ↔ Int64.ofInt (w8 l) = 1701606245 := wk_of hl h6 (m := [101, 115, 108, 101]) (by unfold LTR; decide) (by decide) (by decide) (by decide)
theorem wk_whi {l : List Int} (hl : LTR l) (h6 : l.length ≤ 6) : k5 l = 24388997 ↔ Int64.ofInt (w8 l) = 512852847717 := wk_of hl h6 (m := [101, 108, 105, 104, 119]) (by unfold LTR; decide) (by decide) (by decide) (by decide)

