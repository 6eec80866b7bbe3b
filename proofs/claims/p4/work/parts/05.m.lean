/-! numbers of 32 bits by whole numbers -/
def iI (z : Int) : Int32 := Int32.ofInt z
def inR (z : Int) : Prop := -2147483648 ≤ z ∧ z ≤ 2147483647
theorem inR_0 : inR 0 := by unfold inR; omega
theorem iI_add (a b : Int) : iI a + iI b = iI (a + b) := (Int32.ofInt_add a b).symm
theorem iI_sub (a b : Int) : iI a - iI b = iI (a - b) := (Int32.ofInt_sub a b).symm
theorem iI_mul (a b : Int) : iI a * iI b = iI (a * b) := (Int32.ofInt_mul a b).symm
theorem iI_toInt {z : Int} (h : inR z) : (iI z).toInt = z := Int32.toInt_ofInt_of_le (by simpa using h.1) (by have := h.2; simp; omega)
theorem iI_self (x : Int32) : iI x.toInt = x := Int32.ofInt_toInt x
theorem inR_toInt (x : Int32) : inR x.toInt := ⟨by have := Int32.le_toInt x; simpa using this, by have := Int32.toInt_lt x; simp at this; omega⟩
theorem iI_lt {a b : Int} (ha : inR a) (hb : inR b) : iI a < iI b ↔ a < b := by rw [Int32.lt_iff_toInt_lt, iI_toInt ha, iI_toInt hb]
theorem iI_le {a b : Int} (ha : inR a) (hb : inR b) : iI a ≤ iI b ↔ a ≤ b := by rw [Int32.le_iff_toInt_le, iI_toInt ha, iI_toInt hb]
theorem iI_eq {a b : Int} (ha : inR a) (hb : inR b) : iI a = iI b ↔ a = b := ⟨fun h => by rw [← iI_toInt ha, ← iI_toInt hb, h], fun h => by rw [h]⟩
theorem iI_nat {z : Int} (h : 0 ≤ z) (h2 : z ≤ 2147483647) : (iI z).toNatClampNeg = z.toNat := by
  show (iI z).toInt.toNat = z.toNat
  rw [iI_toInt ⟨by omega, h2⟩]
theorem iI_in {z : Int} {n : Nat} (h : 0 ≤ z) (h2 : z < n) (h3 : n ≤ 2147483647) : vp_in (iI z) n := vp_in_iff.mpr (by rw [iI_toInt ⟨by omega, by omega⟩]; exact ⟨h, h2⟩)
theorem iI_8 {n : Int} (h : -128 ≤ n ∧ n ≤ 127) : (Int8.ofInt n).toInt32 = iI n := by
  apply Int32.toInt_inj.mp
  rw [iI_toInt ⟨by omega, by omega⟩, Int8.toInt_toInt32]
  exact Int8.toInt_ofInt_of_le (by simpa using h.1) (by have := h.2; simp; omega)
theorem iI_16 {n : Int} (h : -32768 ≤ n ∧ n ≤ 32767) : (Int16.ofInt n).toInt32 = iI n := by
  apply Int32.toInt_inj.mp
  rw [iI_toInt ⟨by omega, by omega⟩, Int16.toInt_toInt32]
  exact Int16.toInt_ofInt_of_le (by simpa using h.1) (by have := h.2; simp; omega)
theorem iI_0 : iI 0 = 0 := rfl
theorem iI_c_eq {a b : Int} (_ : inR a) (_ : inR b) (h : a = b) : iI a = iI b := by rw [h]
theorem iI_d_eq {x y : Int32} (h : ¬ x = y) : ¬ x = y := h
theorem iI_n_eq {a b : Int} (ha : inR a) (hb : inR b) (h : ¬ a = b) : ¬ iI a = iI b := fun q => h ((iI_eq ha hb).mp q)
theorem iI_c_ne {a b : Int} (ha : inR a) (hb : inR b) (h : ¬ a = b) : ¬ iI a = iI b := iI_n_eq ha hb h
theorem iI_d_ne {x y : Int32} (h : x = y) : ¬ ¬ x = y := fun q => q h
theorem iI_n_ne {a b : Int} (_ : inR a) (_ : inR b) (h : ¬ ¬ a = b) : ¬ ¬ iI a = iI b := fun q => h (fun e => q (by rw [e]))
theorem iI_c_lt {a b : Int} (ha : inR a) (hb : inR b) (h : a < b) : iI a < iI b := (iI_lt ha hb).mpr h
theorem iI_d_lt {x y : Int32} (h : ¬ x < y) : ¬ x < y := h
theorem iI_n_lt {a b : Int} (ha : inR a) (hb : inR b) (h : ¬ a < b) : ¬ iI a < iI b := fun q => h ((iI_lt ha hb).mp q)
theorem iI_c_ge {a b : Int} (ha : inR a) (hb : inR b) (h : b ≤ a) : iI b ≤ iI a := (iI_le hb ha).mpr h
theorem iI_d_ge {x y : Int32} (h : ¬ y ≤ x) : ¬ y ≤ x := h
theorem iI_n_ge {a b : Int} (ha : inR a) (hb : inR b) (h : ¬ b ≤ a) : ¬ iI b ≤ iI a := fun q => h ((iI_le hb ha).mp q)
theorem iI_c_gt {a b : Int} (ha : inR a) (hb : inR b) (h : b < a) : iI b < iI a := (iI_lt hb ha).mpr h
theorem iI_d_gt {x y : Int32} (h : ¬ y < x) : ¬ y < x := h
theorem iI_n_gt {a b : Int} (ha : inR a) (hb : inR b) (h : ¬ b < a) : ¬ iI b < iI a := fun q => h ((iI_lt hb ha).mp q)
theorem iI_c_le {a b : Int} (ha : inR a) (hb : inR b) (h : a ≤ b) : iI a ≤ iI b := (iI_le ha hb).mpr h
theorem iI_d_le {x y : Int32} (h : ¬ x ≤ y) : ¬ x ≤ y := h
theorem iI_n_le {a b : Int} (ha : inR a) (hb : inR b) (h : ¬ a ≤ b) : ¬ iI a ≤ iI b := fun q => h ((iI_le ha hb).mp q)
/-! the reference's state: its whole-number fields, its arrays of them, its longs, each by the number of its field -/
abbrev MS : Type := (Nat → Int) × (Nat → Int → Int) × (Nat → Int → Int64)
def sS (k : Nat) (v : Int) (σ : MS) : MS := (fun j => if j = k then v else σ.1 j, σ.2.1, σ.2.2)
def sA (k : Nat) (i v : Int) (σ : MS) : MS := (σ.1, fun j => if j = k then (fun q => if q = i then v else σ.2.1 k q) else σ.2.1 j, σ.2.2)
def sJ (k : Nat) (i : Int) (v : Int64) (σ : MS) : MS := (σ.1, σ.2.1, fun j => if j = k then (fun q => if q = i then v else σ.2.2 k q) else σ.2.2 j)
def mT : List (Nat × Nat × Nat) := [(1, 1, 1200), (3, 0, 2860), (4, 0, 2860), (5, 0, 2860), (6, 0, 2860), (7, 0, 11440), (8, 0, 11440), (9, 0, 13), (11, 0, 6), (12, 0, 6), (13, 0, 6), (14, 0, 6), (15, 0, 72), (16, 0, 72), (17, 0, 72), (18, 0, 864), (35, 0, 6), (36, 0, 6), (37, 0, 6), (38, 3, 72), (41, 0, 4), (42, 0, 4), (44, 3, 260), (45, 0, 260), (46, 0, 4096), (47, 2, 221), (48, 2, 6), (49, 0, 190944), (50, 0, 190944), (51, 0, 190944), (52, 0, 190944), (53, 0, 190944), (54, 0, 144), (55, 0, 144), (56, 0, 144), (57, 0, 144), (58, 0, 144), (59, 2, 42432), (60, 0, 192), (61, 0, 192), (63, 2, 36864), (64, 0, 192), (65, 0, 42432), (66, 0, 192), (73, 0, 3), (74, 0, 3), (75, 0, 3), (76, 0, 3), (77, 0, 600), (78, 0, 27), (79, 0, 27), (80, 0, 27), (81, 0, 324), (82, 0, 5184), (86, 0, 3)]
def mF (b : Nat) (σ : MS) : List Value := [.int (iI (σ.1 0)), .ref (b + 1 + 0), .int (iI (σ.1 2)), .ref (b + 1 + 1), .ref (b + 1 + 2), .ref (b + 1 + 3), .ref (b + 1 + 4), .ref (b + 1 + 5), .ref (b + 1 + 6), .ref (b + 1 + 7), .int (iI (σ.1 10)), .ref (b + 1 + 8), .ref (b + 1 + 9), .ref (b + 1 + 10), .ref (b + 1 + 11), .ref (b + 1 + 12), .ref (b + 1 + 13), .ref (b + 1 + 14), .ref (b + 1 + 15), .int (iI (σ.1 19)), .int (iI (σ.1 20)), .int (iI (σ.1 21)), .int (iI (σ.1 22)), .int (iI (σ.1 23)), .long (σ.2.2 24 0), .int (iI (σ.1 25)), .int (iI (σ.1 26)), .int (iI (σ.1 27)), .int (iI (σ.1 28)), .int (iI (σ.1 29)), .int (iI (σ.1 30)), .int (iI (σ.1 31)), .int (iI (σ.1 32)), .int (iI (σ.1 33)), .int (iI (σ.1 34)), .ref (b + 1 + 16), .ref (b + 1 + 17), .ref (b + 1 + 18), .ref (b + 1 + 19), .int (iI (σ.1 39)), .int (iI (σ.1 40)), .ref (b + 1 + 20), .ref (b + 1 + 21), .int (iI (σ.1 43)), .ref (b + 1 + 22), .ref (b + 1 + 23), .ref (b + 1 + 24), .ref (b + 1 + 25), .ref (b + 1 + 26), .ref (b + 1 + 27), .ref (b + 1 + 28), .ref (b + 1 + 29), .ref (b + 1 + 30), .ref (b + 1 + 31), .ref (b + 1 + 32), .ref (b + 1 + 33), .ref (b + 1 + 34), .ref (b + 1 + 35), .ref (b + 1 + 36), .ref (b + 1 + 37), .ref (b + 1 + 38), .ref (b + 1 + 39), .int (iI (σ.1 62)), .ref (b + 1 + 40), .ref (b + 1 + 41), .ref (b + 1 + 42), .ref (b + 1 + 43), .int (iI (σ.1 67)), .int (iI (σ.1 68)), .int (iI (σ.1 69)), .int (iI (σ.1 70)), .int (iI (σ.1 71)), .int (iI (σ.1 72)), .ref (b + 1 + 44), .ref (b + 1 + 45), .ref (b + 1 + 46), .ref (b + 1 + 47), .ref (b + 1 + 48), .ref (b + 1 + 49), .ref (b + 1 + 50), .ref (b + 1 + 51), .ref (b + 1 + 52), .ref (b + 1 + 53), .int (iI (σ.1 83)), .int (iI (σ.1 84)), .int (iI (σ.1 85)), .ref (b + 1 + 54)]
def mC (σ : MS) (o : Nat) : Option pE := match mT[o]? with
  | some q => if q.2.1 = 3 then some (.inl (3, q.2.2, .inr (.inl (fun j : Nat => σ.2.2 q.1 j)))) else some (.inl (q.2.1, q.2.2, .inl (fun j : Nat => iI (σ.2.1 q.1 j))))
  | none => none
def ovM (b : Nat) (σ : MS) (P0 : PH) : PH := fun q => if q = b then some (.inr (12, mF b σ)) else if b < q ∧ q < b + 56 then mC σ (q - b - 1) else P0 q
theorem ovM_b {b : Nat} {σ : MS} {P0 : PH} : ovM b σ P0 b = some (.inr (12, mF b σ)) := if_pos rfl
theorem mT_len : mT.length = 55 := rfl
theorem mT_inj : ∀ i, i < 55 → ∀ j, j < 55 → i ≠ j → (mT.getD i (0, 0, 0)).1 ≠ (mT.getD j (0, 0, 0)).1 := by decide +kernel
theorem mT_at {o : Nat} {q : Nat × Nat × Nat} (h : mT[o]? = some q) : o < 55 ∧ mT.getD o (0, 0, 0) = q := by
  have h1 := (List.getElem?_eq_some_iff.mp h).1
  rw [mT_len] at h1
  exact ⟨h1, by rw [List.getD_eq_getElem?_getD, h]; rfl⟩
theorem ovM_o {b o : Nat} {σ : MS} {P0 : PH} (h : o < 55) : ovM b σ P0 (b + 1 + o) = mC σ o := by
  unfold ovM
  rw [if_neg (by omega), if_pos (by omega), show b + 1 + o - b - 1 = o by omega]
theorem ovM_i {b o k t n : Nat} {σ : MS} {P0 : PH} (h : mT[o]? = some (k, t, n)) (ht : t ≠ 3) : ovM b σ P0 (b + 1 + o) = some (.inl (t, n, .inl (fun j : Nat => iI (σ.2.1 k j)))) := by
  rw [ovM_o (mT_at h).1, mC, h]
  exact if_neg ht
theorem ovM_l {b o k n : Nat} {σ : MS} {P0 : PH} (h : mT[o]? = some (k, 3, n)) : ovM b σ P0 (b + 1 + o) = some (.inl (3, n, .inr (.inl (fun j : Nat => σ.2.2 k j)))) := by
  rw [ovM_o (mT_at h).1, mC, h]
  exact if_pos rfl
/-- a number is written into a field -/
theorem ovM_sS {b k : Nat} {v : Int} {σ : MS} {P0 : PH} {fs : List Value} (h : mF b (sS k v σ) = fs) : pS (ovM b σ P0) b (.inr (12, fs)) = ovM b (sS k v σ) P0 := by
  funext q
  by_cases hq : q = b
  · rw [hq, pS_same, ovM_b, h]
  · rw [pS_ne hq]
    unfold ovM
    rw [if_neg hq, if_neg hq]
    rfl
theorem ovM_sW {b k : Nat} {i : Int} {v : Int64} {σ : MS} {P0 : PH} {fs : List Value} (h : mF b (sJ k i v σ) = fs) (hk : ∀ j, j < 55 → (mT.getD j (0, 0, 0)).1 ≠ k) : pS (ovM b σ P0) b (.inr (12, fs)) = ovM b (sJ k i v σ) P0 := by
  funext q
  by_cases hq : q = b
  · rw [hq, pS_same, ovM_b, h]
  · rw [pS_ne hq]
    unfold ovM
    rw [if_neg hq, if_neg hq]
    by_cases h2 : b < q ∧ q < b + 56
    · rw [if_pos h2, if_pos h2]
      unfold mC
      cases hm : mT[q - b - 1]? with
      | none => rfl
      | some x =>
        obtain ⟨h5, h6⟩ := mT_at hm
        have h7 := hk _ h5
        rw [h6] at h7
        simp only [sJ, if_neg h7]
    · rw [if_neg h2, if_neg h2]
theorem upd_iI {f : Int → Int} {z v : Int} (hz : 0 ≤ z) : upd (fun j : Nat => iI (f j)) z.toNat (iI v) = fun j : Nat => iI ((fun q => if q = z then v else f q) j) := by
  funext j
  unfold upd
  by_cases hj : j = z.toNat
  · have h2 : (j : Int) = z := by omega
    simp [hj, h2]
    rw [if_pos (by omega)]
  · have h2 : ¬ (j : Int) = z := by omega
    simp [hj, h2]
theorem ovM_sA {b o k t n : Nat} {z v : Int} {σ : MS} {P0 : PH} (h : mT[o]? = some (k, t, n)) (ht : t ≠ 3) (hz : 0 ≤ z) : pS (ovM b σ P0) (b + 1 + o) (.inl (t, n, .inl (upd (fun j : Nat => iI (σ.2.1 k j)) z.toNat (iI v)))) = ovM b (sA k z v σ) P0 := by
  obtain ⟨ho, hg⟩ := mT_at h
  funext q
  by_cases hq : q = b + 1 + o
  · rw [hq, pS_same, ovM_i h ht, upd_iI hz]
    simp only [sA, if_true]
  · rw [pS_ne hq]
    unfold ovM
    by_cases hb : q = b
    · rw [if_pos hb, if_pos hb]
      rfl
    · rw [if_neg hb, if_neg hb]
      by_cases h2 : b < q ∧ q < b + 56
      · rw [if_pos h2, if_pos h2]
        unfold mC
        cases hm : mT[q - b - 1]? with
        | none => rfl
        | some x =>
          obtain ⟨h5, h6⟩ := mT_at hm
          have h7 := mT_inj _ h5 o ho (by omega)
          rw [h6, hg] at h7
          simp only [sA, if_neg h7]
      · rw [if_neg h2, if_neg h2]
theorem ovM_sJ {b o k n : Nat} {z : Int} {v : Int64} {σ : MS} {P0 : PH} (h : mT[o]? = some (k, 3, n)) (hw : k ≠ 24) (hz : 0 ≤ z) : pS (ovM b σ P0) (b + 1 + o) (.inl (3, n, .inr (.inl (vp_updL (fun j : Nat => σ.2.2 k j) z.toNat v)))) = ovM b (sJ k z v σ) P0 := by
  obtain ⟨ho, hg⟩ := mT_at h
  funext q
  by_cases hq : q = b + 1 + o
  · rw [hq, pS_same, ovM_l h]
    simp only [sJ, if_true]
    congr 6
    funext j
    unfold vp_updL
    by_cases hj : j = z.toNat
    · have h2 : (j : Int) = z := by omega
      simp [hj, h2]
      intro h3
      omega
    · have h2 : ¬ (j : Int) = z := by omega
      simp [hj, h2]
  · rw [pS_ne hq]
    unfold ovM
    by_cases hb : q = b
    · rw [if_pos hb, if_pos hb]
      simp only [mF, sJ, if_neg (Ne.symm hw)]
    · rw [if_neg hb, if_neg hb]
      by_cases h2 : b < q ∧ q < b + 56
      · rw [if_pos h2, if_pos h2]
        unfold mC
        cases hm : mT[q - b - 1]? with
        | none => rfl
        | some x =>
          obtain ⟨h5, h6⟩ := mT_at hm
          have h7 := mT_inj _ h5 o ho (by omega)
          rw [h6, hg] at h7
          simp only [sJ, if_neg h7]
      · rw [if_neg h2, if_neg h2]
/-- from this pc and this state of the reference the method ends, and so that 'post' holds of its answer and of the state then; nothing is made, and nothing else is touched -/
def Tm (d : Nat) (M : MT) (pc b : Nat) (σ : MS) (L : List (Nat × Value)) (st : List Value) (post : Option Value → MS → Prop) : Prop := ∀ (P0 : PH) (sz : Nat), b + 56 ≤ sz → ∃ (r : Option Value) (σ2 : MS), Wp d M pc (ovM b σ P0) sz L st (r, ovM b σ2 P0, sz, 0) ∧ post r σ2
section TMR
variable {d : Nat} {M : MT} {pc b : Nat} {σ : MS} {L : List (Nat × Value)} {st : List Value} {post : Option Value → MS → Prop}
theorem tm_iconst {n : Int} (hd : decode M.2.1 pc = .ok (.iconst n, 1)) (k : Tm d M (pc + 1) b σ L (.int (iI n) :: st) post) : Tm d M pc b σ L (st) post := fun P0 sz hs => by
  obtain ⟨r, σ2, w, hp⟩ := k P0 sz hs
  exact ⟨r, σ2, wp_iconst hd rfl w, hp⟩
theorem tm_bipush {n : Int} (hd : decode M.2.1 pc = .ok (.bipush n, 2)) (hr : -128 ≤ n ∧ n ≤ 127) (k : Tm d M (pc + 2) b σ L (.int (iI n) :: st) post) : Tm d M pc b σ L (st) post := fun P0 sz hs => by
  obtain ⟨r, σ2, w, hp⟩ := k P0 sz hs
  exact ⟨r, σ2, wp_bipush hd (iI_8 hr) w, hp⟩
theorem tm_sipush {n : Int} (hd : decode M.2.1 pc = .ok (.sipush n, 3)) (hr : -32768 ≤ n ∧ n ≤ 32767) (k : Tm d M (pc + 3) b σ L (.int (iI n) :: st) post) : Tm d M pc b σ L (st) post := fun P0 sz hs => by
  obtain ⟨r, σ2, w, hp⟩ := k P0 sz hs
  exact ⟨r, σ2, wp_sipush hd (iI_16 hr) w, hp⟩
theorem tm_ldc {ix : Nat} {n : Int} {v : Int32} (hd : decode M.2.1 pc = .ok (.ldc ix, 2)) (hw : Cond.constant M.1.cls ix v ∈ pWW) (hv : v = iI n) (k : Tm d M (pc + 2) b σ L (.int (iI n) :: st) post) : Tm d M pc b σ L (st) post := fun P0 sz hs => by
  obtain ⟨r, σ2, w, hp⟩ := k P0 sz hs
  exact ⟨r, σ2, wp_ldc hd hw (by rw [hv]; exact w), hp⟩
theorem tm_ldc2 {ix : Nat} {v : Int64} (hd : decode M.2.1 pc = .ok (.ldc2_w ix, 3)) (hw : Cond.constantLong M.1.cls ix v ∈ pWW) (k : Tm d M (pc + 3) b σ L (.long v :: st) post) : Tm d M pc b σ L (st) post := fun P0 sz hs => by
  obtain ⟨r, σ2, w, hp⟩ := k P0 sz hs
  exact ⟨r, σ2, wp_ldc2 hd hw w, hp⟩
theorem tm_lconst {n : Fin 2} {v : Int64} (hd : decode M.2.1 pc = .ok (.lconst n, 1)) (hv : Int64.ofNat (n : Nat) = v) (k : Tm d M (pc + 1) b σ L (.long v :: st) post) : Tm d M pc b σ L (st) post := fun P0 sz hs => by
  obtain ⟨r, σ2, w, hp⟩ := k P0 sz hs
  exact ⟨r, σ2, wp_lconst hd hv w, hp⟩
theorem tm_iload_n {kf : Fin 4} {i : Nat} {x : Int32} (hd : decode M.2.1 pc = .ok (.iload_n kf, 1)) (hi : (kf : Nat) = i) (q : Nat) (hq : L[q]? = some (i, .int x)) (k : Tm d M (pc + 1) b σ L (.int x :: st) post) : Tm d M pc b σ L (st) post := fun P0 sz hs => by
  obtain ⟨r, σ2, w, hp⟩ := k P0 sz hs
  exact ⟨r, σ2, wp_iload_n hd hi q hq w, hp⟩
theorem tm_iload {i : Nat} {x : Int32} (hd : decode M.2.1 pc = .ok (.iload i, 2)) (q : Nat) (hq : L[q]? = some (i, .int x)) (k : Tm d M (pc + 2) b σ L (.int x :: st) post) : Tm d M pc b σ L (st) post := fun P0 sz hs => by
  obtain ⟨r, σ2, w, hp⟩ := k P0 sz hs
  exact ⟨r, σ2, wp_iload hd q hq w, hp⟩
theorem tm_istore_n {kf : Fin 4} {i : Nat} {x : Int32} {L' : List (Nat × Value)} (hd : decode M.2.1 pc = .ok (.istore_n kf, 1)) (hi : (kf : Nat) = i) (hm : i < M.2.2.1) (hq : (i, Value.int x) :: L.filter (fun q => !(q.1 == i) && !(q.1 + 1 == i && q.2.category == 2)) = L') (k : Tm d M (pc + 1) b σ L' st post) : Tm d M pc b σ L (.int x :: st) post := fun P0 sz hs => by
  obtain ⟨r, σ2, w, hp⟩ := k P0 sz hs
  exact ⟨r, σ2, wp_istore_n hd hi hm hq w, hp⟩
theorem tm_istore {i : Nat} {x : Int32} {L' : List (Nat × Value)} (hd : decode M.2.1 pc = .ok (.istore i, 2)) (hm : i < M.2.2.1) (hq : (i, Value.int x) :: L.filter (fun q => !(q.1 == i) && !(q.1 + 1 == i && q.2.category == 2)) = L') (k : Tm d M (pc + 2) b σ L' st post) : Tm d M pc b σ L (.int x :: st) post := fun P0 sz hs => by
  obtain ⟨r, σ2, w, hp⟩ := k P0 sz hs
  exact ⟨r, σ2, wp_istore hd hm hq w, hp⟩
theorem tm_lload_n {kf : Fin 4} {i : Nat} {x : Int64} (hd : decode M.2.1 pc = .ok (.lload_n kf, 1)) (hi : (kf : Nat) = i) (q : Nat) (hq : L[q]? = some (i, .long x)) (k : Tm d M (pc + 1) b σ L (.long x :: st) post) : Tm d M pc b σ L (st) post := fun P0 sz hs => by
  obtain ⟨r, σ2, w, hp⟩ := k P0 sz hs
  exact ⟨r, σ2, wp_lload_n hd hi q hq w, hp⟩
theorem tm_lload {i : Nat} {x : Int64} (hd : decode M.2.1 pc = .ok (.lload i, 2)) (q : Nat) (hq : L[q]? = some (i, .long x)) (k : Tm d M (pc + 2) b σ L (.long x :: st) post) : Tm d M pc b σ L (st) post := fun P0 sz hs => by
  obtain ⟨r, σ2, w, hp⟩ := k P0 sz hs
  exact ⟨r, σ2, wp_lload hd q hq w, hp⟩
theorem tm_lstore_n {kf : Fin 4} {i : Nat} {x : Int64} {L' : List (Nat × Value)} (hd : decode M.2.1 pc = .ok (.lstore_n kf, 1)) (hi : (kf : Nat) = i) (hm : i + 1 < M.2.2.1) (hq : (i, Value.long x) :: L.filter (fun q => !(q.1 == i) && (!(q.1 == i + 1) && !(q.1 + 1 == i && q.2.category == 2))) = L') (k : Tm d M (pc + 1) b σ L' st post) : Tm d M pc b σ L (.long x :: st) post := fun P0 sz hs => by
  obtain ⟨r, σ2, w, hp⟩ := k P0 sz hs
  exact ⟨r, σ2, wp_lstore_n hd hi hm hq w, hp⟩
theorem tm_lstore {i : Nat} {x : Int64} {L' : List (Nat × Value)} (hd : decode M.2.1 pc = .ok (.lstore i, 2)) (hm : i + 1 < M.2.2.1) (hq : (i, Value.long x) :: L.filter (fun q => !(q.1 == i) && (!(q.1 == i + 1) && !(q.1 + 1 == i && q.2.category == 2))) = L') (k : Tm d M (pc + 2) b σ L' st post) : Tm d M pc b σ L (.long x :: st) post := fun P0 sz hs => by
  obtain ⟨r, σ2, w, hp⟩ := k P0 sz hs
  exact ⟨r, σ2, wp_lstore hd hm hq w, hp⟩
theorem tm_aload_n {kf : Fin 4} {i : Nat} {x : Nat} (hd : decode M.2.1 pc = .ok (.aload_n kf, 1)) (hi : (kf : Nat) = i) (q : Nat) (hq : L[q]? = some (i, .ref x)) (k : Tm d M (pc + 1) b σ L (.ref x :: st) post) : Tm d M pc b σ L (st) post := fun P0 sz hs => by
  obtain ⟨r, σ2, w, hp⟩ := k P0 sz hs
  exact ⟨r, σ2, wp_aload_n hd hi q hq w, hp⟩
theorem tm_aload {i : Nat} {x : Nat} (hd : decode M.2.1 pc = .ok (.aload i, 2)) (q : Nat) (hq : L[q]? = some (i, .ref x)) (k : Tm d M (pc + 2) b σ L (.ref x :: st) post) : Tm d M pc b σ L (st) post := fun P0 sz hs => by
  obtain ⟨r, σ2, w, hp⟩ := k P0 sz hs
  exact ⟨r, σ2, wp_aload hd q hq w, hp⟩
theorem tm_astore_n {kf : Fin 4} {i : Nat} {x : Nat} {L' : List (Nat × Value)} (hd : decode M.2.1 pc = .ok (.astore_n kf, 1)) (hi : (kf : Nat) = i) (hm : i < M.2.2.1) (hq : (i, Value.ref x) :: L.filter (fun q => !(q.1 == i) && !(q.1 + 1 == i && q.2.category == 2)) = L') (k : Tm d M (pc + 1) b σ L' st post) : Tm d M pc b σ L (.ref x :: st) post := fun P0 sz hs => by
  obtain ⟨r, σ2, w, hp⟩ := k P0 sz hs
  exact ⟨r, σ2, wp_astore_n hd hi hm hq w, hp⟩
theorem tm_astore {i : Nat} {x : Nat} {L' : List (Nat × Value)} (hd : decode M.2.1 pc = .ok (.astore i, 2)) (hm : i < M.2.2.1) (hq : (i, Value.ref x) :: L.filter (fun q => !(q.1 == i) && !(q.1 + 1 == i && q.2.category == 2)) = L') (k : Tm d M (pc + 2) b σ L' st post) : Tm d M pc b σ L (.ref x :: st) post := fun P0 sz hs => by
  obtain ⟨r, σ2, w, hp⟩ := k P0 sz hs
  exact ⟨r, σ2, wp_astore hd hm hq w, hp⟩
theorem tm_iinc {i q0 : Nat} {n z : Int} {L' : List (Nat × Value)} (hd : decode M.2.1 pc = .ok (.iinc i n, 3)) (hq0 : L[q0]? = some (i, .int (iI z))) (hm : i < M.2.2.1) (hq : (i, Value.int (iI (z + n))) :: L.filter (fun q => !(q.1 == i) && !(q.1 + 1 == i && q.2.category == 2)) = L') (k : Tm d M (pc + 3) b σ L' st post) : Tm d M pc b σ L st post := fun P0 sz hs => by
  obtain ⟨r, σ2, w, hp⟩ := k P0 sz hs
  exact ⟨r, σ2, wp_iinc hd hq0 (iI_add z n) hm hq w, hp⟩
theorem tm_iadd {x y : Int} (hd : decode M.2.1 pc = .ok (.iadd, 1)) (k : Tm d M (pc + 1) b σ L (.int (iI (x + y)) :: st) post) : Tm d M pc b σ L (.int (iI y) :: .int (iI x) :: st) post := fun P0 sz hs => by
  obtain ⟨r, σ2, w, hp⟩ := k P0 sz hs
  exact ⟨r, σ2, wp_iadd hd (by rw [iI_add]; exact w), hp⟩
theorem tm_isub {x y : Int} (hd : decode M.2.1 pc = .ok (.isub, 1)) (k : Tm d M (pc + 1) b σ L (.int (iI (x - y)) :: st) post) : Tm d M pc b σ L (.int (iI y) :: .int (iI x) :: st) post := fun P0 sz hs => by
  obtain ⟨r, σ2, w, hp⟩ := k P0 sz hs
  exact ⟨r, σ2, wp_isub hd (by rw [iI_sub]; exact w), hp⟩
theorem tm_imul {x y : Int} (hd : decode M.2.1 pc = .ok (.imul, 1)) (k : Tm d M (pc + 1) b σ L (.int (iI (x * y)) :: st) post) : Tm d M pc b σ L (.int (iI y) :: .int (iI x) :: st) post := fun P0 sz hs => by
  obtain ⟨r, σ2, w, hp⟩ := k P0 sz hs
  exact ⟨r, σ2, wp_imul hd (by rw [iI_mul]; exact w), hp⟩
theorem tm_iand {x y : Int32} (hd : decode M.2.1 pc = .ok (.iand, 1)) (k : Tm d M (pc + 1) b σ L (.int (x &&& y) :: st) post) : Tm d M pc b σ L (.int y :: .int x :: st) post := fun P0 sz hs => by
  obtain ⟨r, σ2, w, hp⟩ := k P0 sz hs
  exact ⟨r, σ2, wp_iand hd w, hp⟩
theorem tm_ior {x y : Int32} (hd : decode M.2.1 pc = .ok (.ior, 1)) (k : Tm d M (pc + 1) b σ L (.int (x ||| y) :: st) post) : Tm d M pc b σ L (.int y :: .int x :: st) post := fun P0 sz hs => by
  obtain ⟨r, σ2, w, hp⟩ := k P0 sz hs
  exact ⟨r, σ2, wp_ior hd w, hp⟩
theorem tm_ishr {x y : Int32} (hd : decode M.2.1 pc = .ok (.ishr, 1)) (k : Tm d M (pc + 1) b σ L (.int (x >>> (y &&& 31)) :: st) post) : Tm d M pc b σ L (.int y :: .int x :: st) post := fun P0 sz hs => by
  obtain ⟨r, σ2, w, hp⟩ := k P0 sz hs
  exact ⟨r, σ2, wp_ishr hd w, hp⟩
theorem tm_i2b {x : Int32} (hd : decode M.2.1 pc = .ok (.i2b, 1)) (k : Tm d M (pc + 1) b σ L (.int x.toInt8.toInt32 :: st) post) : Tm d M pc b σ L (.int x :: st) post := fun P0 sz hs => by
  obtain ⟨r, σ2, w, hp⟩ := k P0 sz hs
  exact ⟨r, σ2, wp_i2b hd rfl w, hp⟩
theorem tm_i2l {x : Int32} (hd : decode M.2.1 pc = .ok (.i2l, 1)) (k : Tm d M (pc + 1) b σ L (.long x.toInt64 :: st) post) : Tm d M pc b σ L (.int x :: st) post := fun P0 sz hs => by
  obtain ⟨r, σ2, w, hp⟩ := k P0 sz hs
  exact ⟨r, σ2, wp_i2l hd rfl w, hp⟩
theorem tm_lor {x y : Int64} (hd : decode M.2.1 pc = .ok (.lor, 1)) (k : Tm d M (pc + 1) b σ L (.long (x ||| y) :: st) post) : Tm d M pc b σ L (.long y :: .long x :: st) post := fun P0 sz hs => by
  obtain ⟨r, σ2, w, hp⟩ := k P0 sz hs
  exact ⟨r, σ2, wp_lor hd w, hp⟩
theorem tm_lshl {x : Int64} {y : Int32} (hd : decode M.2.1 pc = .ok (.lshl, 1)) (k : Tm d M (pc + 1) b σ L (.long (x <<< (y.toInt64 &&& 63)) :: st) post) : Tm d M pc b σ L (.int y :: .long x :: st) post := fun P0 sz hs => by
  obtain ⟨r, σ2, w, hp⟩ := k P0 sz hs
  exact ⟨r, σ2, wp_lshl hd rfl w, hp⟩
theorem tm_dup {va : Value} (hd : decode M.2.1 pc = .ok (.dup, 1)) (hva : va.category = 1) (k : Tm d M (pc + 1) b σ L (va :: va :: st) post) : Tm d M pc b σ L (va :: st) post := fun P0 sz hs => by
  obtain ⟨r, σ2, w, hp⟩ := k P0 sz hs
  exact ⟨r, σ2, wp_dup hd hva w, hp⟩
theorem tm_pop {va : Value} (hd : decode M.2.1 pc = .ok (.pop, 1)) (hva : va.category = 1) (k : Tm d M (pc + 1) b σ L (st) post) : Tm d M pc b σ L (va :: st) post := fun P0 sz hs => by
  obtain ⟨r, σ2, w, hp⟩ := k P0 sz hs
  exact ⟨r, σ2, wp_pop hd hva w, hp⟩
theorem tm_dup2 {va vb : Value} (hd : decode M.2.1 pc = .ok (.dup2, 1)) (hva : va.category = 1) (hvb : vb.category = 1) (k : Tm d M (pc + 1) b σ L (va :: vb :: va :: vb :: st) post) : Tm d M pc b σ L (va :: vb :: st) post := fun P0 sz hs => by
  obtain ⟨r, σ2, w, hp⟩ := k P0 sz hs
  exact ⟨r, σ2, wp_dup2 hd hva hvb w, hp⟩
theorem tm_goto {off : Int} {tgt : Nat} (hd : decode M.2.1 pc = .ok (.goto off, 3)) (ht : (pc : Int) + off = (tgt : Int)) (k : Tm d M (tgt) b σ L (st) post) : Tm d M pc b σ L (st) post := fun P0 sz hs => by
  obtain ⟨r, σ2, w, hp⟩ := k P0 sz hs
  exact ⟨r, σ2, wp_goto hd ht w, hp⟩
theorem tm_icmp_eq {x y : Int} {off : Int} {tgt : Nat} (hd : decode M.2.1 pc = .ok (.if_icmp .eq off, 3)) (ht : (pc : Int) + off = (tgt : Int)) (hx : inR x) (hy : inR y) (kt : x = y → Tm d M tgt b σ L st post) (kf : ¬ x = y → Tm d M (pc + 3) b σ L st post) : Tm d M pc b σ L (.int (iI y) :: .int (iI x) :: st) post := fun P0 sz hs => by
  by_cases hxy : x = y
  · obtain ⟨r, σ2, w, hp⟩ := kt hxy P0 sz hs
    exact ⟨r, σ2, wp_icmp_eq hd ht (fun _ => w) (fun hf => absurd (iI_c_eq hx hy hxy) (iI_d_eq hf)), hp⟩
  · obtain ⟨r, σ2, w, hp⟩ := kf (by omega) P0 sz hs
    exact ⟨r, σ2, wp_icmp_eq hd ht (fun hf => absurd hf (iI_n_eq hx hy hxy)) (fun _ => w), hp⟩
theorem tm_if_eq {x : Int} {off : Int} {tgt : Nat} (hd : decode M.2.1 pc = .ok (.ifCond .eq off, 3)) (ht : (pc : Int) + off = (tgt : Int)) (hx : inR x) (kt : x = 0 → Tm d M tgt b σ L st post) (kf : ¬ x = 0 → Tm d M (pc + 3) b σ L st post) : Tm d M pc b σ L (.int (iI x) :: st) post := fun P0 sz hs => by
  by_cases hxy : x = 0
  · obtain ⟨r, σ2, w, hp⟩ := kt hxy P0 sz hs
    exact ⟨r, σ2, wp_if_eq hd ht (fun _ => w) (fun hf => absurd (iI_c_eq hx inR_0 hxy) (iI_d_eq hf)), hp⟩
  · obtain ⟨r, σ2, w, hp⟩ := kf (by omega) P0 sz hs
    exact ⟨r, σ2, wp_if_eq hd ht (fun hf => absurd hf (iI_n_eq hx inR_0 hxy)) (fun _ => w), hp⟩
theorem tm_icmp_ne {x y : Int} {off : Int} {tgt : Nat} (hd : decode M.2.1 pc = .ok (.if_icmp .ne off, 3)) (ht : (pc : Int) + off = (tgt : Int)) (hx : inR x) (hy : inR y) (kt : ¬ x = y → Tm d M tgt b σ L st post) (kf : x = y → Tm d M (pc + 3) b σ L st post) : Tm d M pc b σ L (.int (iI y) :: .int (iI x) :: st) post := fun P0 sz hs => by
  by_cases hxy : ¬ x = y
  · obtain ⟨r, σ2, w, hp⟩ := kt hxy P0 sz hs
    exact ⟨r, σ2, wp_icmp_ne hd ht (fun _ => w) (fun hf => absurd (iI_c_ne hx hy hxy) (iI_d_ne hf)), hp⟩
  · obtain ⟨r, σ2, w, hp⟩ := kf (by omega) P0 sz hs
    exact ⟨r, σ2, wp_icmp_ne hd ht (fun hf => absurd hf (iI_n_ne hx hy hxy)) (fun _ => w), hp⟩
theorem tm_if_ne {x : Int} {off : Int} {tgt : Nat} (hd : decode M.2.1 pc = .ok (.ifCond .ne off, 3)) (ht : (pc : Int) + off = (tgt : Int)) (hx : inR x) (kt : ¬ x = 0 → Tm d M tgt b σ L st post) (kf : x = 0 → Tm d M (pc + 3) b σ L st post) : Tm d M pc b σ L (.int (iI x) :: st) post := fun P0 sz hs => by
  by_cases hxy : ¬ x = 0
  · obtain ⟨r, σ2, w, hp⟩ := kt hxy P0 sz hs
    exact ⟨r, σ2, wp_if_ne hd ht (fun _ => w) (fun hf => absurd (iI_c_ne hx inR_0 hxy) (iI_d_ne hf)), hp⟩
  · obtain ⟨r, σ2, w, hp⟩ := kf (by omega) P0 sz hs
    exact ⟨r, σ2, wp_if_ne hd ht (fun hf => absurd hf (iI_n_ne hx inR_0 hxy)) (fun _ => w), hp⟩
theorem tm_icmp_lt {x y : Int} {off : Int} {tgt : Nat} (hd : decode M.2.1 pc = .ok (.if_icmp .lt off, 3)) (ht : (pc : Int) + off = (tgt : Int)) (hx : inR x) (hy : inR y) (kt : x < y → Tm d M tgt b σ L st post) (kf : y ≤ x → Tm d M (pc + 3) b σ L st post) : Tm d M pc b σ L (.int (iI y) :: .int (iI x) :: st) post := fun P0 sz hs => by
  by_cases hxy : x < y
  · obtain ⟨r, σ2, w, hp⟩ := kt hxy P0 sz hs
    exact ⟨r, σ2, wp_icmp_lt hd ht (fun _ => w) (fun hf => absurd (iI_c_lt hx hy hxy) (iI_d_lt hf)), hp⟩
  · obtain ⟨r, σ2, w, hp⟩ := kf (by omega) P0 sz hs
    exact ⟨r, σ2, wp_icmp_lt hd ht (fun hf => absurd hf (iI_n_lt hx hy hxy)) (fun _ => w), hp⟩
theorem tm_if_lt {x : Int} {off : Int} {tgt : Nat} (hd : decode M.2.1 pc = .ok (.ifCond .lt off, 3)) (ht : (pc : Int) + off = (tgt : Int)) (hx : inR x) (kt : x < 0 → Tm d M tgt b σ L st post) (kf : 0 ≤ x → Tm d M (pc + 3) b σ L st post) : Tm d M pc b σ L (.int (iI x) :: st) post := fun P0 sz hs => by
  by_cases hxy : x < 0
  · obtain ⟨r, σ2, w, hp⟩ := kt hxy P0 sz hs
    exact ⟨r, σ2, wp_if_lt hd ht (fun _ => w) (fun hf => absurd (iI_c_lt hx inR_0 hxy) (iI_d_lt hf)), hp⟩
  · obtain ⟨r, σ2, w, hp⟩ := kf (by omega) P0 sz hs
    exact ⟨r, σ2, wp_if_lt hd ht (fun hf => absurd hf (iI_n_lt hx inR_0 hxy)) (fun _ => w), hp⟩
theorem tm_icmp_ge {x y : Int} {off : Int} {tgt : Nat} (hd : decode M.2.1 pc = .ok (.if_icmp .ge off, 3)) (ht : (pc : Int) + off = (tgt : Int)) (hx : inR x) (hy : inR y) (kt : y ≤ x → Tm d M tgt b σ L st post) (kf : x < y → Tm d M (pc + 3) b σ L st post) : Tm d M pc b σ L (.int (iI y) :: .int (iI x) :: st) post := fun P0 sz hs => by
  by_cases hxy : y ≤ x
  · obtain ⟨r, σ2, w, hp⟩ := kt hxy P0 sz hs
    exact ⟨r, σ2, wp_icmp_ge hd ht (fun _ => w) (fun hf => absurd (iI_c_ge hx hy hxy) (iI_d_ge hf)), hp⟩
  · obtain ⟨r, σ2, w, hp⟩ := kf (by omega) P0 sz hs
    exact ⟨r, σ2, wp_icmp_ge hd ht (fun hf => absurd hf (iI_n_ge hx hy hxy)) (fun _ => w), hp⟩
theorem tm_if_ge {x : Int} {off : Int} {tgt : Nat} (hd : decode M.2.1 pc = .ok (.ifCond .ge off, 3)) (ht : (pc : Int) + off = (tgt : Int)) (hx : inR x) (kt : 0 ≤ x → Tm d M tgt b σ L st post) (kf : x < 0 → Tm d M (pc + 3) b σ L st post) : Tm d M pc b σ L (.int (iI x) :: st) post := fun P0 sz hs => by
  by_cases hxy : 0 ≤ x
  · obtain ⟨r, σ2, w, hp⟩ := kt hxy P0 sz hs
    exact ⟨r, σ2, wp_if_ge hd ht (fun _ => w) (fun hf => absurd (iI_c_ge hx inR_0 hxy) (iI_d_ge hf)), hp⟩
  · obtain ⟨r, σ2, w, hp⟩ := kf (by omega) P0 sz hs
    exact ⟨r, σ2, wp_if_ge hd ht (fun hf => absurd hf (iI_n_ge hx inR_0 hxy)) (fun _ => w), hp⟩
theorem tm_icmp_gt {x y : Int} {off : Int} {tgt : Nat} (hd : decode M.2.1 pc = .ok (.if_icmp .gt off, 3)) (ht : (pc : Int) + off = (tgt : Int)) (hx : inR x) (hy : inR y) (kt : y < x → Tm d M tgt b σ L st post) (kf : x ≤ y → Tm d M (pc + 3) b σ L st post) : Tm d M pc b σ L (.int (iI y) :: .int (iI x) :: st) post := fun P0 sz hs => by
  by_cases hxy : y < x
  · obtain ⟨r, σ2, w, hp⟩ := kt hxy P0 sz hs
    exact ⟨r, σ2, wp_icmp_gt hd ht (fun _ => w) (fun hf => absurd (iI_c_gt hx hy hxy) (iI_d_gt hf)), hp⟩
  · obtain ⟨r, σ2, w, hp⟩ := kf (by omega) P0 sz hs
    exact ⟨r, σ2, wp_icmp_gt hd ht (fun hf => absurd hf (iI_n_gt hx hy hxy)) (fun _ => w), hp⟩
theorem tm_if_gt {x : Int} {off : Int} {tgt : Nat} (hd : decode M.2.1 pc = .ok (.ifCond .gt off, 3)) (ht : (pc : Int) + off = (tgt : Int)) (hx : inR x) (kt : 0 < x → Tm d M tgt b σ L st post) (kf : x ≤ 0 → Tm d M (pc + 3) b σ L st post) : Tm d M pc b σ L (.int (iI x) :: st) post := fun P0 sz hs => by
  by_cases hxy : 0 < x
  · obtain ⟨r, σ2, w, hp⟩ := kt hxy P0 sz hs
    exact ⟨r, σ2, wp_if_gt hd ht (fun _ => w) (fun hf => absurd (iI_c_gt hx inR_0 hxy) (iI_d_gt hf)), hp⟩
  · obtain ⟨r, σ2, w, hp⟩ := kf (by omega) P0 sz hs
    exact ⟨r, σ2, wp_if_gt hd ht (fun hf => absurd hf (iI_n_gt hx inR_0 hxy)) (fun _ => w), hp⟩
theorem tm_icmp_le {x y : Int} {off : Int} {tgt : Nat} (hd : decode M.2.1 pc = .ok (.if_icmp .le off, 3)) (ht : (pc : Int) + off = (tgt : Int)) (hx : inR x) (hy : inR y) (kt : x ≤ y → Tm d M tgt b σ L st post) (kf : y < x → Tm d M (pc + 3) b σ L st post) : Tm d M pc b σ L (.int (iI y) :: .int (iI x) :: st) post := fun P0 sz hs => by
  by_cases hxy : x ≤ y
  · obtain ⟨r, σ2, w, hp⟩ := kt hxy P0 sz hs
    exact ⟨r, σ2, wp_icmp_le hd ht (fun _ => w) (fun hf => absurd (iI_c_le hx hy hxy) (iI_d_le hf)), hp⟩
  · obtain ⟨r, σ2, w, hp⟩ := kf (by omega) P0 sz hs
    exact ⟨r, σ2, wp_icmp_le hd ht (fun hf => absurd hf (iI_n_le hx hy hxy)) (fun _ => w), hp⟩
theorem tm_if_le {x : Int} {off : Int} {tgt : Nat} (hd : decode M.2.1 pc = .ok (.ifCond .le off, 3)) (ht : (pc : Int) + off = (tgt : Int)) (hx : inR x) (kt : x ≤ 0 → Tm d M tgt b σ L st post) (kf : 0 < x → Tm d M (pc + 3) b σ L st post) : Tm d M pc b σ L (.int (iI x) :: st) post := fun P0 sz hs => by
  by_cases hxy : x ≤ 0
  · obtain ⟨r, σ2, w, hp⟩ := kt hxy P0 sz hs
    exact ⟨r, σ2, wp_if_le hd ht (fun _ => w) (fun hf => absurd (iI_c_le hx inR_0 hxy) (iI_d_le hf)), hp⟩
  · obtain ⟨r, σ2, w, hp⟩ := kf (by omega) P0 sz hs
    exact ⟨r, σ2, wp_if_le hd ht (fun hf => absurd hf (iI_n_le hx inR_0 hxy)) (fun _ => w), hp⟩
end TMR
section TMH
variable {d : Nat} {M : MT} {pc b : Nat} {σ : MS} {L : List (Nat × Value)} {st : List Value} {post : Option Value → MS → Prop}
/-- a field is read -/
theorem tm_get {k ix : Nat} {v : Value} (hlay : ∀ w ∈ u_ws RX12 TX12 87, w ∈ pWW) (hd : decode M.2.1 pc = .ok (.getfield ix, 3)) (hk : k < 87) (hlink : Cond.fieldLink M.1.cls ix (TX12 k).1 (TX12 k).2.1 (TX12 k).2.2.1 ∈ pWW) (hv : (mF b σ)[k]? = some v) (kk : Tm d M (pc + 3) b σ L (v :: st) post) : Tm d M pc b σ L (.ref b :: st) post := fun P0 sz hs => by
  obtain ⟨r, σ2, w, hp⟩ := kk P0 sz hs
  exact ⟨r, σ2, wp_get (ci := 12) hd rfl hlay hk hlink ovM_b hv w, hp⟩
theorem tm_putS {k ix : Nat} {v : Int} {ty : FieldType} (hlay : ∀ w ∈ u_ws RX12 TX12 87, w ∈ pWW) (hd : decode M.2.1 pc = .ok (.putfield ix, 3)) (hk : k < 87) (hlink : Cond.fieldLink M.1.cls ix (TX12 k).1 (TX12 k).2.1 (TX12 k).2.2.1 ∈ pWW) (hfin : (TX12 k).2.2.2 = false) (hds : parseFieldDescriptor (TX12 k).2.2.1 = some ty) (hnr : narrow ty (.int (iI v)) = .int (iI v)) (hfit : fits ty (.int (iI v)) = true) (hset : mF b (sS k v σ) = (mF b σ).set k (.int (iI v))) (kk : Tm d M (pc + 3) b (sS k v σ) L st post) : Tm d M pc b σ L (.int (iI v) :: .ref b :: st) post := fun P0 sz hs => by
  obtain ⟨r, σ2, w, hp⟩ := kk P0 sz hs
  exact ⟨r, σ2, wp_put (ci := 12) tyX12 tyX12_ok nmX12 hd rfl hlay hk hlink hfin hds hnr hfit ovM_b (by rw [ovM_sS hset]; exact w), hp⟩
theorem tm_putW {ix : Nat} {v : Int64} (hlay : ∀ w ∈ u_ws RX12 TX12 87, w ∈ pWW) (hd : decode M.2.1 pc = .ok (.putfield ix, 3)) (hlink : Cond.fieldLink M.1.cls ix (TX12 24).1 (TX12 24).2.1 (TX12 24).2.2.1 ∈ pWW) (kk : Tm d M (pc + 3) b (sJ 24 0 v σ) L st post) : Tm d M pc b σ L (.long v :: .ref b :: st) post := fun P0 sz hs => by
  obtain ⟨r, σ2, w, hp⟩ := kk P0 sz hs
  exact ⟨r, σ2, wp_put (ci := 12) (k := 24) tyX12 tyX12_ok nmX12 hd rfl hlay (by decide) hlink rfl (tyX12_ok 24 (by decide)) rfl rfl ovM_b (by rw [ovM_sW (k := 24) (i := 0) (v := v) (by simp [mF, sJ]) (by decide +kernel)]; exact w), hp⟩
theorem tm_iald {o k n : Nat} {z v : Int} (hd : decode M.2.1 pc = .ok (.iaload, 1)) (ho : mT[o]? = some (k, 0, n)) (h0 : 0 ≤ z) (h1 : z < n) (hn : n ≤ 2147483647) (hv : σ.2.1 k z = v) (kk : Tm d M (pc + 1) b σ L (.int (iI v) :: st) post) : Tm d M pc b σ L (.int (iI z) :: .ref (b + 1 + o) :: st) post := fun P0 sz hs => by
  obtain ⟨r, σ2, w, hp⟩ := kk P0 sz hs
  refine ⟨r, σ2, wp_iald hd (ovM_i ho (by decide)) (iI_in h0 h1 hn) ?_, hp⟩
  rw [iI_nat h0 (by omega), show ((z.toNat : Nat) : Int) = z by omega, hv]
  exact w
theorem tm_zald {o k n : Nat} {z v : Int} (hd : decode M.2.1 pc = .ok (.baload, 1)) (ho : mT[o]? = some (k, 2, n)) (h0 : 0 ≤ z) (h1 : z < n) (hn : n ≤ 2147483647) (hv : σ.2.1 k z = v) (kk : Tm d M (pc + 1) b σ L (.int (iI v) :: st) post) : Tm d M pc b σ L (.int (iI z) :: .ref (b + 1 + o) :: st) post := fun P0 sz hs => by
  obtain ⟨r, σ2, w, hp⟩ := kk P0 sz hs
  refine ⟨r, σ2, wp_zald hd (ovM_i ho (by decide)) (iI_in h0 h1 hn) ?_, hp⟩
  rw [iI_nat h0 (by omega), show ((z.toNat : Nat) : Int) = z by omega, hv]
  exact w
theorem tm_bald {o k n : Nat} {z v : Int} (hd : decode M.2.1 pc = .ok (.baload, 1)) (ho : mT[o]? = some (k, 1, n)) (h0 : 0 ≤ z) (h1 : z < n) (hn : n ≤ 2147483647) (hv : σ.2.1 k z = v) (kk : Tm d M (pc + 1) b σ L (.int (iI v) :: st) post) : Tm d M pc b σ L (.int (iI z) :: .ref (b + 1 + o) :: st) post := fun P0 sz hs => by
  obtain ⟨r, σ2, w, hp⟩ := kk P0 sz hs
  refine ⟨r, σ2, wp_bald hd (ovM_i ho (by decide)) (iI_in h0 h1 hn) ?_, hp⟩
  rw [iI_nat h0 (by omega), show ((z.toNat : Nat) : Int) = z by omega, hv]
  exact w
theorem tm_lald {o k n : Nat} {z : Int} {v : Int64} (hd : decode M.2.1 pc = .ok (.laload, 1)) (ho : mT[o]? = some (k, 3, n)) (h0 : 0 ≤ z) (h1 : z < n) (hn : n ≤ 2147483647) (hv : σ.2.2 k z = v) (kk : Tm d M (pc + 1) b σ L (.long v :: st) post) : Tm d M pc b σ L (.int (iI z) :: .ref (b + 1 + o) :: st) post := fun P0 sz hs => by
  obtain ⟨r, σ2, w, hp⟩ := kk P0 sz hs
  refine ⟨r, σ2, wp_lald hd (ovM_l ho) (iI_in h0 h1 hn) ?_, hp⟩
  rw [iI_nat h0 (by omega), show ((z.toNat : Nat) : Int) = z by omega, hv]
  exact w
theorem tm_iast {o k n : Nat} {z v : Int} (hd : decode M.2.1 pc = .ok (.iastore, 1)) (ho : mT[o]? = some (k, 0, n)) (h0 : 0 ≤ z) (h1 : z < n) (hn : n ≤ 2147483647) (kk : Tm d M (pc + 1) b (sA k z v σ) L st post) : Tm d M pc b σ L (.int (iI v) :: .int (iI z) :: .ref (b + 1 + o) :: st) post := fun P0 sz hs => by
  obtain ⟨r, σ2, w, hp⟩ := kk P0 sz hs
  refine ⟨r, σ2, wp_iast hd (ovM_i ho (by decide)) (iI_in h0 h1 hn) ?_, hp⟩
  rw [iI_nat h0 (by omega), ovM_sA ho (by decide) h0]
  exact w
theorem tm_zast {o k n : Nat} {z v : Int} (hd : decode M.2.1 pc = .ok (.bastore, 1)) (ho : mT[o]? = some (k, 2, n)) (h0 : 0 ≤ z) (h1 : z < n) (hn : n ≤ 2147483647) (hv : v = 0 ∨ v = 1) (kk : Tm d M (pc + 1) b (sA k z v σ) L st post) : Tm d M pc b σ L (.int (iI v) :: .int (iI z) :: .ref (b + 1 + o) :: st) post := fun P0 sz hs => by
  obtain ⟨r, σ2, w, hp⟩ := kk P0 sz hs
  refine ⟨r, σ2, wp_zast hd (ovM_i ho (by decide)) (iI_in h0 h1 hn) ?_, hp⟩
  rw [show vp_nar .boolean (iI v) = iI v by rcases hv with rfl | rfl <;> rfl, iI_nat h0 (by omega), ovM_sA ho (by decide) h0]
  exact w
theorem tm_bast {o k n : Nat} {z v : Int} {x : Int32} (hd : decode M.2.1 pc = .ok (.bastore, 1)) (ho : mT[o]? = some (k, 1, n)) (h0 : 0 ≤ z) (h1 : z < n) (hn : n ≤ 2147483647) (hv : vp_nar .byte x = iI v) (kk : Tm d M (pc + 1) b (sA k z v σ) L st post) : Tm d M pc b σ L (.int x :: .int (iI z) :: .ref (b + 1 + o) :: st) post := fun P0 sz hs => by
  obtain ⟨r, σ2, w, hp⟩ := kk P0 sz hs
  refine ⟨r, σ2, wp_bast hd (ovM_i ho (by decide)) (iI_in h0 h1 hn) ?_, hp⟩
  rw [hv, iI_nat h0 (by omega), ovM_sA ho (by decide) h0]
  exact w
theorem tm_last {o k n : Nat} {z : Int} {v : Int64} (hd : decode M.2.1 pc = .ok (.lastore, 1)) (ho : mT[o]? = some (k, 3, n)) (hw : k ≠ 24) (h0 : 0 ≤ z) (h1 : z < n) (hn : n ≤ 2147483647) (kk : Tm d M (pc + 1) b (sJ k z v σ) L st post) : Tm d M pc b σ L (.long v :: .int (iI z) :: .ref (b + 1 + o) :: st) post := fun P0 sz hs => by
  obtain ⟨r, σ2, w, hp⟩ := kk P0 sz hs
  refine ⟨r, σ2, wp_last hd (ovM_l ho) (iI_in h0 h1 hn) ?_, hp⟩
  rw [iI_nat h0 (by omega), ovM_sJ ho hw h0]
  exact w
theorem tm_iret {v : Int32} (hr : M.2.2.2 = some .int) (hd : decode M.2.1 pc = .ok (.ireturn, 1)) (hp : post (some (.int v)) σ) : Tm d M pc b σ L [.int v] post := fun _ _ _ => ⟨_, _, wp_iret hr hd, hp⟩
theorem tm_zret {v : Int} (hr : M.2.2.2 = some .boolean) (hv : v = 0 ∨ v = 1) (hd : decode M.2.1 pc = .ok (.ireturn, 1)) (hp : post (some (.int (iI v))) σ) : Tm d M pc b σ L [.int (iI v)] post := fun _ _ _ => ⟨_, _, wp_zret hr (by rcases hv with rfl | rfl <;> rfl) hd, hp⟩
theorem tm_vret (hr : M.2.2.2 = none) (hd : decode M.2.1 pc = .ok (.return_, 1)) (hp : post none σ) : Tm d M pc b σ L [] post := fun _ _ _ => ⟨_, _, wp_vret hr hd, hp⟩
theorem tm_tableOut {dflt lo hi : Int} {offs : Array Int} {len : Nat} {x : Int} {tgt : Nat} (hd : decode M.2.1 pc = .ok (.tableswitch dflt lo hi offs, len)) (hx : inR x) (h : x < lo ∨ hi < x) (ht : (pc : Int) + dflt = (tgt : Int)) (k : Tm d M tgt b σ L st post) : Tm d M pc b σ L (.int (iI x) :: st) post := fun P0 sz hs => by
  obtain ⟨r, σ2, w, hp⟩ := k P0 sz hs
  exact ⟨r, σ2, wp_tableOut hd (by rw [iI_toInt hx]; exact h) ht w, hp⟩
theorem tm_tableIn {dflt lo hi : Int} {offs : Array Int} {len : Nat} {x off : Int} {tgt : Nat} (hd : decode M.2.1 pc = .ok (.tableswitch dflt lo hi offs, len)) (hx : inR x) (h1 : ¬ x < lo) (h2 : ¬ hi < x) (ho : offs[(x - lo).toNat]? = some off) (ht : (pc : Int) + off = (tgt : Int)) (k : Tm d M tgt b σ L st post) : Tm d M pc b σ L (.int (iI x) :: st) post := fun P0 sz hs => by
  obtain ⟨r, σ2, w, hp⟩ := k P0 sz hs
  exact ⟨r, σ2, wp_tableIn hd (by rw [iI_toInt hx]; exact h1) (by rw [iI_toInt hx]; exact h2) (by rw [iI_toInt hx]; exact ho) ht w, hp⟩
/-- a method of its own is called -/
theorem tm_callV {M' : MT} {ix : Nat} {L1 : List (Nat × Value)} {rest As : List Value} {post1 : Option Value → MS → Prop} (hd : decode M.2.1 pc = .ok (.invokevirtual ix, 3)) (hM : pOk M') (hin : Cond.instanceMethod M'.1 ∈ pWW) (hse : Cond.selects M'.1.cls M'.1 M'.1 ∈ pWW) (hlink : Cond.methodLink M.1.cls ix M'.1 ∈ pWW) (hnp : (parseMethodDescriptor M'.1.desc).map (fun d => d.parameters.length) = some As.length) (hqc : RX12 = M'.1.cls) (hL : lv_args 0 (.ref b :: As) = L1) (hlen : (lg_sl (.ref b :: As)).length ≤ M'.2.2.1) (hcat : (rest.map fun v => v.category).sum ≤ 8) {st : List Value} (hst0 : st = As.reverse ++ .ref b :: rest) (h1 : Tm d M' 0 b σ L1 [] post1) (h2 : ∀ r σ1, post1 r σ1 → Tm (d + 1) M (pc + 3) b σ1 L (r.toList ++ rest) post) : Tm (d + 1) M pc b σ L st post := fun P0 sz hs => by
  obtain ⟨r1, σ1, w1, p1⟩ := h1 P0 sz hs
  obtain ⟨r2, σ2, w2, p2⟩ := h2 r1 σ1 p1 P0 sz hs
  exact ⟨r2, σ2, wp_callV (ci := 12) (q := (RX12, TX12, 87)) (o1 := (r1, ovM b σ1 P0, sz, 0)) (o2 := (r2, ovM b σ2 P0, sz, 0)) hd hM hin hse hlink hnp rfl hqc ovM_b hL hlen hcat (Nat.le_refl _) (Nat.le_refl _) hst0 w1 w2, p2⟩
theorem tm_callS {M' : MT} {ix : Nat} {L1 : List (Nat × Value)} {rest As : List Value} {post1 : Option Value → MS → Prop} (hd : decode M.2.1 pc = .ok (.invokestatic ix, 3)) (hM : pOk M') (hstt : Cond.static M'.1 ∈ pWW) (hlink : Cond.methodLink M.1.cls ix M'.1 ∈ pWW) (hnp : (parseMethodDescriptor M'.1.desc).map (fun d => d.parameters.length) = some As.length) (hL : lv_args 0 As = L1) (hlen : (lg_sl As).length ≤ M'.2.2.1) (hcat : (rest.map fun v => v.category).sum ≤ 8) {st : List Value} (hst0 : st = As.reverse ++ rest) (h1 : Tm d M' 0 b σ L1 [] post1) (h2 : ∀ r σ1, post1 r σ1 → Tm (d + 1) M (pc + 3) b σ1 L (r.toList ++ rest) post) : Tm (d + 1) M pc b σ L st post := fun P0 sz hs => by
  obtain ⟨r1, σ1, w1, p1⟩ := h1 P0 sz hs
  obtain ⟨r2, σ2, w2, p2⟩ := h2 r1 σ1 p1 P0 sz hs
  exact ⟨r2, σ2, wp_callS (o1 := (r1, ovM b σ1 P0, sz, 0)) (o2 := (r2, ovM b σ2 P0, sz, 0)) hd hM hstt hlink hnp hL hlen hcat (Nat.le_refl _) (Nat.le_refl _) hst0 w1 w2, p2⟩
end TMH
theorem tm_sub {d : Nat} {M : MT} {pc b : Nat} {σ : MS} {L L' : List (Nat × Value)} {st : List Value} {post : Option Value → MS → Prop} (ks : List Nat) (h : lv_pick L ks = L') (k : Tm d M pc b σ L' st post) : Tm d M pc b σ L st post := fun P0 sz hs => by
  obtain ⟨r, σ2, w, hp⟩ := k P0 sz hs
  exact ⟨r, σ2, wp_sub ks h w, hp⟩
theorem Tm.mono {d : Nat} {M : MT} {pc b : Nat} {σ : MS} {L : List (Nat × Value)} {st : List Value} {post post2 : Option Value → MS → Prop} (k : Tm d M pc b σ L st post) (h : ∀ r s, post r s → post2 r s) : Tm d M pc b σ L st post2 := fun P0 sz hs => by
  obtain ⟨r, σ2, w, hp⟩ := k P0 sz hs
  exact ⟨r, σ2, w, h _ _ hp⟩
theorem nz_b {v : Int} (h : v = 0 ∨ v = 1) : narrow .boolean (.int (iI v)) = .int (iI v) := by rcases h with rfl | rfl <;> rfl
theorem tm_getS {d : Nat} {M : MT} {pc b : Nat} {σ : MS} {L : List (Nat × Value)} {st : List Value} {post : Option Value → MS → Prop} {k ix : Nat} {t : Int} (hd : decode M.2.1 pc = .ok (.getfield ix, 3)) (hk : k < 87) (hlink : Cond.fieldLink M.1.cls ix (TX12 k).1 (TX12 k).2.1 (TX12 k).2.2.1 ∈ pWW) (hv : (mF b σ)[k]? = some (.int (iI (σ.1 k)))) (ht : σ.1 k = t) (kk : Tm d M (pc + 3) b σ L (.int (iI t) :: st) post) : Tm d M pc b σ L (.ref b :: st) post := tm_get lay_12 hd hk hlink (by rw [hv, ht]) kk
theorem tm_getW {d : Nat} {M : MT} {pc b : Nat} {σ : MS} {L : List (Nat × Value)} {st : List Value} {post : Option Value → MS → Prop} {ix : Nat} {t : Int64} (hd : decode M.2.1 pc = .ok (.getfield ix, 3)) (hlink : Cond.fieldLink M.1.cls ix (TX12 24).1 (TX12 24).2.1 (TX12 24).2.2.1 ∈ pWW) (ht : σ.2.2 24 0 = t) (kk : Tm d M (pc + 3) b σ L (.long t :: st) post) : Tm d M pc b σ L (.ref b :: st) post := tm_get (k := 24) lay_12 hd (by decide) hlink (by rw [← ht]; rfl) kk
/-! reading behind writes -/
theorem ra_ne {k : Nat} {z i w v : Int} {σ : MS} (h : z ≠ i) (e : σ.2.1 k z = v) : (sA k i w σ).2.1 k z = v := by simp only [sA, if_true]; rw [if_neg h]; exact e
theorem ra_eq {k : Nat} {z w : Int} {σ : MS} : (sA k z w σ).2.1 k z = w := by simp only [sA, if_true]
theorem ra_o {k j : Nat} {z i w v : Int} {σ : MS} (h : k ≠ j) (e : σ.2.1 k z = v) : (sA j i w σ).2.1 k z = v := by simp only [sA]; rw [if_neg h]; exact e
theorem ra_S {k j : Nat} {z w v : Int} {σ : MS} (e : σ.2.1 k z = v) : (sS j w σ).2.1 k z = v := e
theorem ra_J {k j : Nat} {z i v : Int} {w : Int64} {σ : MS} (e : σ.2.1 k z = v) : (sJ j i w σ).2.1 k z = v := e
theorem rs_A {k j : Nat} {i w v : Int} {σ : MS} (e : σ.1 k = v) : (sA j i w σ).1 k = v := e
theorem rs_J {k j : Nat} {i : Int} {v : Int} {w : Int64} {σ : MS} (e : σ.1 k = v) : (sJ j i w σ).1 k = v := e
theorem rs_o {k j : Nat} {w v : Int} {σ : MS} (h : k ≠ j) (e : σ.1 k = v) : (sS j w σ).1 k = v := by simp only [sS]; rw [if_neg h]; exact e
theorem rs_eq {k : Nat} {w : Int} {σ : MS} : (sS k w σ).1 k = w := by simp only [sS, if_true]
theorem rj_A {k j : Nat} {z i w : Int} {v : Int64} {σ : MS} (e : σ.2.2 k z = v) : (sA j i w σ).2.2 k z = v := e
theorem rj_S {k j : Nat} {z w : Int} {v : Int64} {σ : MS} (e : σ.2.2 k z = v) : (sS j w σ).2.2 k z = v := e
theorem rj_o {k j : Nat} {z i : Int} {w v : Int64} {σ : MS} (h : k ≠ j) (e : σ.2.2 k z = v) : (sJ j i w σ).2.2 k z = v := by simp only [sJ]; rw [if_neg h]; exact e
theorem rj_eq {k : Nat} {z : Int} {w : Int64} {σ : MS} : (sJ k z w σ).2.2 k z = w := by simp only [sJ, if_true]
theorem rj_ne {k : Nat} {z i : Int} {w v : Int64} {σ : MS} (h : z ≠ i) (e : σ.2.2 k z = v) : (sJ k i w σ).2.2 k z = v := by simp only [sJ, if_true]; rw [if_neg h]; exact e
/-- between two states nothing has changed but these scalars, arrays and longs -/
def Fr (ss ks js : List Nat) (σ τ : MS) : Prop := (∀ k, k ∉ ss → τ.1 k = σ.1 k) ∧ (∀ k, k ∉ ks → τ.2.1 k = σ.2.1 k) ∧ ∀ k, k ∉ js → τ.2.2 k = σ.2.2 k
theorem Fr.rfl {ss ks js : List Nat} {σ : MS} : Fr ss ks js σ σ := ⟨fun _ _ => Eq.refl _, fun _ _ => Eq.refl _, fun _ _ => Eq.refl _⟩
theorem Fr.trans {ss ks js : List Nat} {σ τ υ : MS} (h : Fr ss ks js σ τ) (g : Fr ss ks js τ υ) : Fr ss ks js σ υ := ⟨fun k hk => (g.1 k hk).trans (h.1 k hk), fun k hk => (g.2.1 k hk).trans (h.2.1 k hk), fun k hk => (g.2.2 k hk).trans (h.2.2 k hk)⟩
theorem Fr.sub {ss ks js ss' ks' js' : List Nat} {σ τ : MS} (h : Fr ss ks js σ τ) (h1 : ∀ k ∈ ss, k ∈ ss') (h2 : ∀ k ∈ ks, k ∈ ks') (h3 : ∀ k ∈ js, k ∈ js') : Fr ss' ks' js' σ τ := ⟨fun k hk => h.1 k (fun q => hk (h1 k q)), fun k hk => h.2.1 k (fun q => hk (h2 k q)), fun k hk => h.2.2 k (fun q => hk (h3 k q))⟩
theorem Fr.S {ss ks js : List Nat} {σ τ : MS} (h : Fr ss ks js σ τ) {k : Nat} {v : Int} (hk : k ∈ ss) : Fr ss ks js σ (sS k v τ) := ⟨fun j hj => by rw [← h.1 j hj]; exact if_neg (fun e => hj (by rw [e]; exact hk)), h.2.1, h.2.2⟩
theorem Fr.A {ss ks js : List Nat} {σ τ : MS} (h : Fr ss ks js σ τ) {k : Nat} {i v : Int} (hk : k ∈ ks) : Fr ss ks js σ (sA k i v τ) := ⟨h.1, fun j hj => by rw [← h.2.1 j hj]; exact if_neg (fun e => hj (by rw [e]; exact hk)), h.2.2⟩
theorem Fr.J {ss ks js : List Nat} {σ τ : MS} (h : Fr ss ks js σ τ) {k : Nat} {i : Int} {v : Int64} (hk : k ∈ js) : Fr ss ks js σ (sJ k i v τ) := ⟨h.1, h.2.1, fun j hj => by rw [← h.2.2 j hj]; exact if_neg (fun e => hj (by rw [e]; exact hk))⟩
theorem ra_F {ss ks js : List Nat} {σ τ : MS} {k : Nat} {z v : Int} (h : Fr ss ks js σ τ) (hk : k ∉ ks) (e : σ.2.1 k z = v) : τ.2.1 k z = v := by rw [h.2.1 k hk]; exact e
theorem rs_F {ss ks js : List Nat} {σ τ : MS} {k : Nat} {v : Int} (h : Fr ss ks js σ τ) (hk : k ∉ ss) (e : σ.1 k = v) : τ.1 k = v := by rw [h.1 k hk]; exact e
theorem rj_F {ss ks js : List Nat} {σ τ : MS} {k : Nat} {z : Int} {v : Int64} (h : Fr ss ks js σ τ) (hk : k ∉ js) (e : σ.2.2 k z = v) : τ.2.2 k z = v := by rw [h.2.2 k hk]; exact e
/-- every number has 32 bits -/
def RG (σ : MS) : Prop := (∀ k, inR (σ.1 k)) ∧ ∀ k i, inR (σ.2.1 k i)
theorem RG.s {σ : MS} (h : RG σ) (k : Nat) : -2147483648 ≤ σ.1 k ∧ σ.1 k ≤ 2147483647 := h.1 k
theorem RG.a {σ : MS} (h : RG σ) (k : Nat) (i : Int) : -2147483648 ≤ σ.2.1 k i ∧ σ.2.1 k i ≤ 2147483647 := h.2 k i
theorem RG.S {σ : MS} (h : RG σ) {k : Nat} {v : Int} (hv : -2147483648 ≤ v ∧ v ≤ 2147483647) : RG (sS k v σ) := ⟨fun j => by
  by_cases e : j = k
  · simp only [sS, if_pos e]; exact hv
  · simp only [sS, if_neg e]; exact h.1 j, h.2⟩
theorem RG.A {σ : MS} (h : RG σ) {k : Nat} {i v : Int} (hv : -2147483648 ≤ v ∧ v ≤ 2147483647) : RG (sA k i v σ) := ⟨h.1, fun j q => by
  by_cases e : j = k
  · by_cases e2 : q = i
    · simp only [sA, if_pos e, if_pos e2]; exact hv
    · simp only [sA, if_pos e, if_neg e2]; exact h.2 k q
  · simp only [sA, if_neg e]; exact h.2 j q⟩
theorem RG.J {σ : MS} (h : RG σ) {k : Nat} {i : Int} {v : Int64} : RG (sJ k i v σ) := h
def lcI (x y : Int64) : Int := if y < x then 1 else if x = y then 0 else -1
theorem lcI_b (x y : Int64) : -1 ≤ lcI x y ∧ lcI x y ≤ 1 := by unfold lcI; split; omega; split <;> omega
theorem lcI_0 {x y : Int64} : lcI x y = 0 ↔ x = y := by
  unfold lcI
  by_cases h : y < x
  · rw [if_pos h]
    constructor
    · intro q; omega
    · intro q; rw [q] at h; exact absurd h (Int64.lt_irrefl)
  · rw [if_neg h]
    by_cases e : x = y
    · simp [e]
    · simp [e]
theorem lcI_c (x y : Int64) : lg_cmp x y = iI (lcI x y) := by
  unfold lg_cmp lcI
  by_cases h : y < x
  · simp [h]; rfl
  · by_cases e : x = y
    · simp [h, e]; rfl
    · simp [h, e]; rfl
theorem tm_lcmp {d : Nat} {M : MT} {pc b : Nat} {σ : MS} {L : List (Nat × Value)} {st : List Value} {post : Option Value → MS → Prop} {x y : Int64} (hd : decode M.2.1 pc = .ok (.lcmp, 1)) (k : Tm d M (pc + 1) b σ L (.int (iI (lcI x y)) :: st) post) : Tm d M pc b σ L (.long y :: .long x :: st) post := fun P0 sz hs => by
  obtain ⟨r, σ2, w, hp⟩ := k P0 sz hs
  exact ⟨r, σ2, wp_lcmp hd (by rw [lcI_c]; exact w), hp⟩
theorem iI_and255 {z : Int} : ∃ w : Int, iI z &&& iI 255 = iI w ∧ 0 ≤ w ∧ w ≤ 255 := by
  refine ⟨(iI z &&& iI 255).toInt, (iI_self _).symm, ?_⟩
  have h : (iI z &&& iI 255).toInt = ((iI z).toBitVec &&& 255#32).toInt := rfl
  rw [h]
  have h2 : ((iI z).toBitVec &&& 255#32).toNat ≤ 255 := by rw [BitVec.toNat_and]; exact Nat.and_le_right
  rw [BitVec.toInt_eq_toNat_of_lt (by omega)]
  omega
