section
def iI (z : Int) : Int32 := Int32.ofInt z
def inR (z : Int) : Prop := -2147483648 ≤ z ∧ z ≤ 2147483647
theorem inR_0 : inR 0 := by unfold inR; omega
theorem iI_add (a b : Int) : iI a + iI b = iI (a + b) := (Int32.ofInt_add a b).symm
theorem iI_sub (a b : Int) : iI a - iI b = iI (a - b) := (Int32.ofInt_sub a b).symm
theorem iI_mul (a b : Int) : iI a * iI b = iI (a * b) := (Int32.ofInt_mul a b).symm
theorem iI_toInt {z : Int} (h : inR z) : (iI z).toInt = z := Int32.toInt_ofInt_of_le (by simpa using h.1) (by have := h.2; simp; omega)
theorem iI_self (x : Int32) : iI x.toInt = x := Int32.ofInt_toInt x
theorem inR_toInt (x : Int32) : inR x.toInt := ⟨by have := Int32.le_toInt x; simpa using this, by have := Int32.toInt_lt x; simp at this; omega⟩
theorem iI_lt {a b : Int} (ha : inR a) (hb : inR b) : iI a < iI b ↔ a < b := by rw [Int32.lt_iff_toInt_lt, iI_toInt ha, iI_toInt hb]
theorem iI_le {a b : Int} (ha : inR a) (hb : inR b) : iI a ≤ iI b ↔ a ≤ b := by rw [Int32.le_iff_toInt_le, iI_toInt ha, iI_toInt hb]
theorem iI_eq {a b : Int} (ha : inR a) (hb : inR b) : iI a = iI b ↔ a = b := ⟨fun h => by rw [← iI_toInt ha, ← iI_toInt hb, h], fun h => by rw [h]⟩
theorem iI_nat {z : Int} (h : 0 ≤ z) (h2 : z ≤ 2147483647) : (iI z).toNatClampNeg = z.toNat := by
  show (iI z).toInt.toNat = z.toNat
  rw [iI_toInt ⟨by omega, h2⟩]
theorem iI_in {z : Int} {n : Nat} (h : 0 ≤ z) (h2 : z < n) (h3 : n ≤ 2147483647) : vp_in (iI z) n := vp_in_iff.mpr (by rw [iI_toInt ⟨by omega, by omega⟩]; exact ⟨h, h2⟩)
theorem iI_8 {n : Int} (h : -128 ≤ n ∧ n ≤ 127) : (Int8.ofInt n).toInt32 = iI n := by
  apply Int32.toInt_inj.mp
  rw [iI_toInt ⟨by omega, by omega⟩, Int8.toInt_toInt32]
  exact Int8.toInt_ofInt_of_le (by simpa using h.1) (by have := h.2; simp; omega)
theorem iI_16 {n : Int} (h : -32768 ≤ n ∧ n ≤ 32767) : (Int16.ofInt n).toInt32 = iI n := by
  apply Int32.toInt_inj.mp
  rw [iI_toInt ⟨by omega, by omega⟩, Int16.toInt_toInt32]
  exact Int16.toInt_ofInt_of_le (by simpa using h.1) (by have := h.2; simp; omega)
theorem iI_c_eq {a b : Int} (_ : inR a) (_ : inR b) (h : a = b) : iI a = iI b := by rw [h]
theorem iI_d_eq {x y : Int32} (h : ¬ x = y) : ¬ x = y := h
theorem iI_n_eq {a b : Int} (ha : inR a) (hb : inR b) (h : ¬ a = b) : ¬ iI a = iI b := fun q => h ((iI_eq ha hb).mp q)
theorem iI_c_ne {a b : Int} (ha : inR a) (hb : inR b) (h : ¬ a = b) : ¬ iI a = iI b := iI_n_eq ha hb h
theorem iI_d_ne {x y : Int32} (h : x = y) : ¬ ¬ x = y := fun q => q h
theorem iI_n_ne {a b : Int} (_ : inR a) (_ : inR b) (h : ¬ ¬ a = b) : ¬ ¬ iI a = iI b := fun q => h (fun e => q (by rw [e]))
theorem iI_c_lt {a b : Int} (ha : inR a) (hb : inR b) (h : a < b) : iI a < iI b := (iI_lt ha hb).mpr h
theorem iI_d_lt {x y : Int32} (h : ¬ x < y) : ¬ x < y := h
theorem iI_n_lt {a b : Int} (ha : inR a) (hb : inR b) (h : ¬ a < b) : ¬ iI a < iI b := fun q => h ((iI_lt ha hb).mp q)
theorem iI_c_ge {a b : Int} (ha : inR a) (hb : inR b) (h : b ≤ a) : iI b ≤ iI a := (iI_le hb ha).mpr h
theorem iI_d_ge {x y : Int32} (h : ¬ y ≤ x) : ¬ y ≤ x := h
theorem iI_n_ge {a b : Int} (ha : inR a) (hb : inR b) (h : ¬ b ≤ a) : ¬ iI b ≤ iI a := fun q => h ((iI_le hb ha).mp q)
theorem iI_c_gt {a b : Int} (ha : inR a) (hb : inR b) (h : b < a) : iI b < iI a := (iI_lt hb ha).mpr h
theorem iI_d_gt {x y : Int32} (h : ¬ y < x) : ¬ y < x := h
theorem iI_n_gt {a b : Int} (ha : inR a) (hb : inR b) (h : ¬ b < a) : ¬ iI b < iI a := fun q => h ((iI_lt hb ha).mp q)
theorem iI_c_le {a b : Int} (ha : inR a) (hb : inR b) (h : a ≤ b) : iI a ≤ iI b := (iI_le ha hb).mpr h
theorem iI_d_le {x y : Int32} (h : ¬ x ≤ y) : ¬ x ≤ y := h
theorem iI_n_le {a b : Int} (ha : inR a) (hb : inR b) (h : ¬ a ≤ b) : ¬ iI a ≤ iI b := fun q => h ((iI_le ha hb).mp q)
abbrev MS : Type := (Nat → Int) × (Nat → Int → Int) × (Nat → Int → Int64)
def sS (k : Nat) (v : Int) (σ : MS) : MS := (fun j => if j = k then v else σ.1 j, σ.2.1, σ.2.2)
def sA (k : Nat) (i v : Int) (σ : MS) : MS := (σ.1, fun j => if j = k then (fun q => if q = i then v else σ.2.1 k q) else σ.2.1 j, σ.2.2)
def sJ (k : Nat) (i : Int) (v : Int64) (σ : MS) : MS := (σ.1, σ.2.1, fun j => if j = k then (fun q => if q = i then v else σ.2.2 k q) else σ.2.2 j)
def mT : List (Nat × Nat × Nat) := [(1, 1, 1200), (3, 0, 2860), (4, 0, 2860), (5, 0, 2860), (6, 0, 2860), (7, 0, 11440), (8, 0, 11440), (9, 0, 13), (11, 0, 6), (12, 0, 6), (13, 0, 6), (14, 0, 6), (15, 0, 72), (16, 0, 72), (17, 0, 72), (18, 0, 864), (35, 0, 6), (36, 0, 6), (37, 0, 6), (38, 3, 72), (41, 0, 4), (42, 0, 4), (44, 3, 260), (45, 0, 260), (46, 0, 4096), (47, 2, 221), (48, 2, 6), (49, 0, 190944), (50, 0, 190944), (51, 0, 190944), (52, 0, 190944), (53, 0, 190944), (54, 0, 144), (55, 0, 144), (56, 0, 144), (57, 0, 144), (58, 0, 144), (59, 2, 42432), (60, 0, 192), (61, 0, 192), (63, 2, 36864), (64, 0, 192), (65, 0, 42432), (66, 0, 192), (73, 0, 3), (74, 0, 3), (75, 0, 3), (76, 0, 3), (77, 0, 600), (78, 0, 27), (79, 0, 27), (80, 0, 27), (81, 0, 324), (82, 0, 5184), (86, 0, 3)]
def mF (b : Nat) (σ : MS) : List Value := [.int (iI (σ.1 0)), .ref (b + 1 + 0), .int (iI (σ.1 2)), .ref (b + 1 + 1), .ref (b + 1 + 2), .ref (b + 1 + 3), .ref (b + 1 + 4), .ref (b + 1 + 5), .ref (b + 1 + 6), .ref (b + 1 + 7), .int (iI (σ.1 10)), .ref (b + 1 + 8), .ref (b + 1 + 9), .ref (b + 1 + 10), .ref (b + 1 + 11), .ref (b + 1 + 12), .ref (b + 1 + 13), .ref (b + 1 + 14), .ref (b + 1 + 15), .int (iI (σ.1 19)), .int (iI (σ.1 20)), .int (iI (σ.1 21)), .int (iI (σ.1 22)), .int (iI (σ.1 23)), .long (σ.2.2 24 0), .int (iI (σ.1 25)), .int (iI (σ.1 26)), .int (iI (σ.1 27)), .int (iI (σ.1 28)), .int (iI (σ.1 29)), .int (iI (σ.1 30)), .int (iI (σ.1 31)), .int (iI (σ.1 32)), .int (iI (σ.1 33)), .int (iI (σ.1 34)), .ref (b + 1 + 16), .ref (b + 1 + 17), .ref (b + 1 + 18), .ref (b + 1 + 19), .int (iI (σ.1 39)), .int (iI (σ.1 40)), .ref (b + 1 + 20), .ref (b + 1 + 21), .int (iI (σ.1 43)), .ref (b + 1 + 22), .ref (b + 1 + 23), .ref (b + 1 + 24), .ref (b + 1 + 25), .ref (b + 1 + 26), .ref (b + 1 + 27), .ref (b + 1 + 28), .ref (b + 1 + 29), .ref (b + 1 + 30), .ref (b + 1 + 31), .ref (b + 1 + 32), .ref (b + 1 + 33), .ref (b + 1 + 34), .ref (b + 1 + 35), .ref (b + 1 + 36), .ref (b + 1 + 37), .ref (b + 1 + 38), .ref (b + 1 + 39), .int (iI (σ.1 62)), .ref (b + 1 + 40), .ref (b + 1 + 41), .ref (b + 1 + 42), .ref (b + 1 + 43), .int (iI (σ.1 67)), .int (iI (σ.1 68)), .int (iI (σ.1 69)), .int (iI (σ.1 70)), .int (iI (σ.1 71)), .int (iI (σ.1 72)), .ref (b + 1 + 44), .ref (b + 1 + 45), .ref (b + 1 + 46), .ref (b + 1 + 47), .ref (b + 1 + 48), .ref (b + 1 + 49), .ref (b + 1 + 50), .ref (b + 1 + 51), .ref (b + 1 + 52), .ref (b + 1 + 53), .int (iI (σ.1 83)), .int (iI (σ.1 84)), .int (iI (σ.1 85)), .ref (b + 1 + 54)]
def mC (σ : MS) (o : Nat) : Option pE := match mT[o]? with
  | some q => if q.2.1 = 3 then some (.inl (3, q.2.2, .inr (.inl (fun j : Nat => σ.2.2 q.1 j)))) else some (.inl (q.2.1, q.2.2, .inl (fun j : Nat => iI (σ.2.1 q.1 j))))
  | none => none
def ovM (b : Nat) (σ : MS) (P0 : PH) : PH := fun q => if q = b then some (.inr (12, mF b σ)) else if b < q ∧ q < b + 56 then mC σ (q - b - 1) else P0 q
theorem ovM_b {b : Nat} {σ : MS} {P0 : PH} : ovM b σ P0 b = some (.inr (12, mF b σ)) := if_pos rfl
theorem mT_len : mT.length = 55 := rfl
theorem mT_inj : ∀ i, i < 55 → ∀ j, j < 55 → i ≠ j → (mT.getD i (0, 0, 0)).1 ≠ (mT.getD j (0, 0, 0)).1 := by decide +kernel
theorem mT_at {o : Nat} {q : Nat × Nat × Nat} (h : mT[o]? = some q) : o < 55 ∧ mT.getD o (0, 0, 0) = q := by
  have h1 := (List.getElem?_eq_some_iff.mp h).1
  rw [mT_len] at h1
  exact ⟨h1, by rw [List.getD_eq_getElem?_getD, h]; rfl⟩
theorem ovM_o {b o : Nat} {σ : MS} {P0 : PH} (h : o < 55) : ovM b σ P0 (b + 1 + o) = mC σ o := by
  unfold ovM
  rw [if_neg (by omega), if_pos (by omega), show b + 1 + o - b - 1 = o by omega]
theorem ovM_i {b o k t n : Nat} {σ : MS} {P0 : PH} (h : mT[o]? = some (k, t, n)) (ht : t ≠ 3) : ovM b σ P0 (b + 1 + o) = some (.inl (t, n, .inl (fun j : Nat => iI (σ.2.1 k j)))) := by
  rw [ovM_o (mT_at h).1, mC, h]
  exact if_neg ht
theorem ovM_l {b o k n : Nat} {σ : MS} {P0 : PH} (h : mT[o]? = some (k, 3, n)) : ovM b σ P0 (b + 1 + o) = some (.inl (3, n, .inr (.inl (fun j : Nat => σ.2.2 k j)))) := by
  rw [ovM_o (mT_at h).1, mC, h]
  exact if_pos rfl
theorem ovM_sS {b k : Nat} {v : Int} {σ : MS} {P0 : PH} {fs : List Value} (h : mF b (sS k v σ) = fs) : pS (ovM b σ P0) b (.inr (12, fs)) = ovM b (sS k v σ) P0 := by
  funext q
  by_cases hq : q = b
  · rw [hq, pS_same, ovM_b, h]
  · rw [pS_ne hq]
    unfold ovM
    rw [if_neg hq, if_neg hq]
    rfl
theorem ovM_sW {b k : Nat} {i : Int} {v : Int64} {σ : MS} {P0 : PH} {fs : List Value} (h : mF b (sJ k i v σ) = fs) (hk : ∀ j, j < 55 → (mT.getD j (0, 0, 0)).1 ≠ k) : pS (ovM b σ P0) b (.inr (12, fs)) = ovM b (sJ k i v σ) P0 := by
  funext q
  by_cases hq : q = b
  · rw [hq, pS_same, ovM_b, h]
  · rw [pS_ne hq]
    unfold ovM
    rw [if_neg hq, if_neg hq]
    by_cases h2 : b < q ∧ q < b + 56
    · rw [if_pos h2, if_pos h2]
      unfold mC
      cases hm : mT[q - b - 1]? with
      | none => rfl
      | some x =>
        obtain ⟨h5, h6⟩ := mT_at hm
        have h7 := hk _ h5
        rw [h6] at h7
        simp only [sJ, if_neg h7]
    · rw [if_neg h2, if_neg h2]
theorem upd_iI {f : Int → Int} {z v : Int} (hz : 0 ≤ z) : upd (fun j : Nat => iI (f j)) z.toNat (iI v) = fun j : Nat => iI ((fun q => if q = z then v else f q) j) := by
  funext j
  unfold upd
  by_cases hj : j = z.toNat
  · have h2 : (j : Int) = z := by omega
    simp [hj, h2]
    rw [if_pos (by omega)]
  · have h2 : ¬ (j : Int) = z := by omega
    simp [hj, h2]
theorem ovM_sA {b o k t n : Nat} {z v : Int} {σ : MS} {P0 : PH} (h : mT[o]? = some (k, t, n)) (ht : t ≠ 3) (hz : 0 ≤ z) : pS (ovM b σ P0) (b + 1 + o) (.inl (t, n, .inl (upd (fun j : Nat => iI (σ.2.1 k j)) z.toNat (iI v)))) = ovM b (sA k z v σ) P0 := by
  obtain ⟨ho, hg⟩ := mT_at h
  funext q
  by_cases hq : q = b + 1 + o
  · rw [hq, pS_same, ovM_i h ht, upd_iI hz]
    simp only [sA, if_true]
  · rw [pS_ne hq]
    unfold ovM
    by_cases hb : q = b
    · rw [if_pos hb, if_pos hb]
      rfl
    · rw [if_neg hb, if_neg hb]
      by_cases h2 : b < q ∧ q < b + 56
      · rw [if_pos h2, if_pos h2]
        unfold mC
        cases hm : mT[q - b - 1]? with
        | none => rfl
        | some x =>
          obtain ⟨h5, h6⟩ := mT_at hm
          have h7 := mT_inj _ h5 o ho (by omega)
          rw [h6, hg] at h7
          simp only [sA, if_neg h7]
      · rw [if_neg h2, if_neg h2]
theorem ovM_sJ {b o k n : Nat} {z : Int} {v : Int64} {σ : MS} {P0 : PH} (h : mT[o]? = some (k, 3, n)) (hw : k ≠ 24) (hz : 0 ≤ z) : pS (ovM b σ P0) (b + 1 + o) (.inl (3, n, .inr (.inl (vp_updL (fun j : Nat => σ.2.2 k j) z.toNat v)))) = ovM b (sJ k z v σ) P0 := by
  obtain ⟨ho, hg⟩ := mT_at h
  funext q
  by_cases hq : q = b + 1 + o
  · rw [hq, pS_same, ovM_l h]
    simp only [sJ, if_true]
    congr 6
    funext j
    unfold vp_updL
    by_cases hj : j = z.toNat
    · have h2 : (j : Int) = z := by omega
      simp [hj, h2]
      intro h3
      omega
    · have h2 : ¬ (j : Int) = z := by omega
      simp [hj, h2]
  · rw [pS_ne hq]
    unfold ovM
    by_cases hb : q = b
    · rw [if_pos hb, if_pos hb]
      simp only [mF, sJ, if_neg (Ne.symm hw)]
    · rw [if_neg hb, if_neg hb]
      by_cases h2 : b < q ∧ q < b + 56
      · rw [if_pos h2, if_pos h2]
        unfold mC
        cases hm : mT[q - b - 1]? with
        | none => rfl
        | some x =>
          obtain ⟨h5, h6⟩ := mT_at hm
          have h7 := mT_inj _ h5 o ho (by omega)
          rw [h6, hg] at h7
          simp only [sJ, if_neg h7]
      · rw [if_neg h2, if_neg h2]
def Tm (d : Nat) (M : MT) (pc b : Nat) (σ : MS) (L : List (Nat × Value)) (st : List Value) (post : Option Value → MS → Prop) : Prop := ∀ (P0 : PH) (sz : Nat), b + 56 ≤ sz → ∃ (r : Option Value) (σ2 : MS), Wp d M pc (ovM b σ P0) sz L st (r, ovM b σ2 P0, sz, 0) ∧ post r σ2
section TMR
variable {d : Nat} {M : MT} {pc b : Nat} {σ : MS} {L : List (Nat × Value)} {st : List Value} {post : Option Value → MS → Prop}
theorem tm_iconst {n : Int} (hd : decode M.2.1 pc = .ok (.iconst n, 1)) (k : Tm d M (pc + 1) b σ L (.int (iI n) :: st) post) : Tm d M pc b σ L (st) post := fun P0 sz hs => by
  obtain ⟨r, σ2, w, hp⟩ := k P0 sz hs
  exact ⟨r, σ2, wp_iconst hd rfl w, hp⟩
theorem tm_bipush {n : Int} (hd : decode M.2.1 pc = .ok (.bipush n, 2)) (hr : -128 ≤ n ∧ n ≤ 127) (k : Tm d M (pc + 2) b σ L (.int (iI n) :: st) post) : Tm d M pc b σ L (st) post := fun P0 sz hs => by
  obtain ⟨r, σ2, w, hp⟩ := k P0 sz hs
  exact ⟨r, σ2, wp_bipush hd (iI_8 hr) w, hp⟩
theorem tm_sipush {n : Int} (hd : decode M.2.1 pc = .ok (.sipush n, 3)) (hr : -32768 ≤ n ∧ n ≤ 32767) (k : Tm d M (pc + 3) b σ L (.int (iI n) :: st) post) : Tm d M pc b σ L (st) post := fun P0 sz hs => by
  obtain ⟨r, σ2, w, hp⟩ := k P0 sz hs
  exact ⟨r, σ2, wp_sipush hd (iI_16 hr) w, hp⟩
theorem tm_ldc {ix : Nat} {n : Int} {v : Int32} (hd : decode M.2.1 pc = .ok (.ldc ix, 2)) (hw : Cond.constant M.1.cls ix v ∈ pWW) (hv : v = iI n) (k : Tm d M (pc + 2) b σ L (.int (iI n) :: st) post) : Tm d M pc b σ L (st) post := fun P0 sz hs => by
  obtain ⟨r, σ2, w, hp⟩ := k P0 sz hs
  exact ⟨r, σ2, wp_ldc hd hw (by rw [hv]; exact w), hp⟩
theorem tm_ldc2 {ix : Nat} {v : Int64} (hd : decode M.2.1 pc = .ok (.ldc2_w ix, 3)) (hw : Cond.constantLong M.1.cls ix v ∈ pWW) (k : Tm d M (pc + 3) b σ L (.long v :: st) post) : Tm d M pc b σ L (st) post := fun P0 sz hs => by
  obtain ⟨r, σ2, w, hp⟩ := k P0 sz hs
  exact ⟨r, σ2, wp_ldc2 hd hw w, hp⟩
theorem tm_lconst {n : Fin 2} {v : Int64} (hd : decode M.2.1 pc = .ok (.lconst n, 1)) (hv : Int64.ofNat (n : Nat) = v) (k : Tm d M (pc + 1) b σ L (.long v :: st) post) : Tm d M pc b σ L (st) post := fun P0 sz hs => by
  obtain ⟨r, σ2, w, hp⟩ := k P0 sz hs
  exact ⟨r, σ2, wp_lconst hd hv w, hp⟩
theorem tm_iload_n {kf : Fin 4} {i : Nat} {x : Int32} (hd : decode M.2.1 pc = .ok (.iload_n kf, 1)) (hi : (kf : Nat) = i) (q : Nat) (hq : L[q]? = some (i, .int x)) (k : Tm d M (pc + 1) b σ L (.int x :: st) post) : Tm d M pc b σ L (st) post := fun P0 sz hs => by
  obtain ⟨r, σ2, w, hp⟩ := k P0 sz hs
  exact ⟨r, σ2, wp_iload_n hd hi q hq w, hp⟩
theorem tm_iload {i : Nat} {x : Int32} (hd : decode M.2.1 pc = .ok (.iload i, 2)) (q : Nat) (hq : L[q]? = some (i, .int x)) (k : Tm d M (pc + 2) b σ L (.int x :: st) post) : Tm d M pc b σ L (st) post := fun P0 sz hs => by
  obtain ⟨r, σ2, w, hp⟩ := k P0 sz hs
  exact ⟨r, σ2, wp_iload hd q hq w, hp⟩
theorem tm_istore_n {kf : Fin 4} {i : Nat} {x : Int32} {L' : List (Nat × Value)} (hd : decode M.2.1 pc = .ok (.istore_n kf, 1)) (hi : (kf : Nat) = i) (hm : i < M.2.2.1) (hq : (i, Value.int x) :: L.filter (fun q => !(q.1 == i) && !(q.1 + 1 == i && q.2.category == 2)) = L') (k : Tm d M (pc + 1) b σ L' st post) : Tm d M pc b σ L (.int x :: st) post := fun P0 sz hs => by
  obtain ⟨r, σ2, w, hp⟩ := k P0 sz hs
  exact ⟨r, σ2, wp_istore_n hd hi hm hq w, hp⟩
theorem tm_istore {i : Nat} {x : Int32} {L' : List (Nat × Value)} (hd : decode M.2.1 pc = .ok (.istore i, 2)) (hm : i < M.2.2.1) (hq : (i, Value.int x) :: L.filter (fun q => !(q.1 == i) && !(q.1 + 1 == i && q.2.category == 2)) = L') (k : Tm d M (pc + 2) b σ L' st post) : Tm d M pc b σ L (.int x :: st) post := fun P0 sz hs => by
  obtain ⟨r, σ2, w, hp⟩ := k P0 sz hs
  exact ⟨r, σ2, wp_istore hd hm hq w, hp⟩
theorem tm_lload_n {kf : Fin 4} {i : Nat} {x : Int64} (hd : decode M.2.1 pc = .ok (.lload_n kf, 1)) (hi : (kf : Nat) = i) (q : Nat) (hq : L[q]? = some (i, .long x)) (k : Tm d M (pc + 1) b σ L (.long x :: st) post) : Tm d M pc b σ L (st) post := fun P0 sz hs => by
  obtain ⟨r, σ2, w, hp⟩ := k P0 sz hs
  exact ⟨r, σ2, wp_lload_n hd hi q hq w, hp⟩
theorem tm_lstore_n {kf : Fin 4} {i : Nat} {x : Int64} {L' : List (Nat × Value)} (hd : decode M.2.1 pc = .ok (.lstore_n kf, 1)) (hi : (kf : Nat) = i) (hm : i + 1 < M.2.2.1) (hq : (i, Value.long x) :: L.filter (fun q => !(q.1 == i) && (!(q.1 == i + 1) && !(q.1 + 1 == i && q.2.category == 2))) = L') (k : Tm d M (pc + 1) b σ L' st post) : Tm d M pc b σ L (.long x :: st) post := fun P0 sz hs => by
  obtain ⟨r, σ2, w, hp⟩ := k P0 sz hs
  exact ⟨r, σ2, wp_lstore_n hd hi hm hq w, hp⟩
theorem tm_aload_n {kf : Fin 4} {i : Nat} {x : Nat} (hd : decode M.2.1 pc = .ok (.aload_n kf, 1)) (hi : (kf : Nat) = i) (q : Nat) (hq : L[q]? = some (i, .ref x)) (k : Tm d M (pc + 1) b σ L (.ref x :: st) post) : Tm d M pc b σ L (st) post := fun P0 sz hs => by
  obtain ⟨r, σ2, w, hp⟩ := k P0 sz hs
  exact ⟨r, σ2, wp_aload_n hd hi q hq w, hp⟩
theorem tm_iinc {i q0 : Nat} {n z : Int} {L' : List (Nat × Value)} (hd : decode M.2.1 pc = .ok (.iinc i n, 3)) (hq0 : L[q0]? = some (i, .int (iI z))) (hm : i < M.2.2.1) (hq : (i, Value.int (iI (z + n))) :: L.filter (fun q => !(q.1 == i) && !(q.1 + 1 == i && q.2.category == 2)) = L') (k : Tm d M (pc + 3) b σ L' st post) : Tm d M pc b σ L st post := fun P0 sz hs => by
  obtain ⟨r, σ2, w, hp⟩ := k P0 sz hs
  exact ⟨r, σ2, wp_iinc hd hq0 (iI_add z n) hm hq w, hp⟩
theorem tm_iadd {x y : Int} (hd : decode M.2.1 pc = .ok (.iadd, 1)) (k : Tm d M (pc + 1) b σ L (.int (iI (x + y)) :: st) post) : Tm d M pc b σ L (.int (iI y) :: .int (iI x) :: st) post := fun P0 sz hs => by
  obtain ⟨r, σ2, w, hp⟩ := k P0 sz hs
  exact ⟨r, σ2, wp_iadd hd (by rw [iI_add]; exact w), hp⟩
theorem tm_isub {x y : Int} (hd : decode M.2.1 pc = .ok (.isub, 1)) (k : Tm d M (pc + 1) b σ L (.int (iI (x - y)) :: st) post) : Tm d M pc b σ L (.int (iI y) :: .int (iI x) :: st) post := fun P0 sz hs => by
  obtain ⟨r, σ2, w, hp⟩ := k P0 sz hs
  exact ⟨r, σ2, wp_isub hd (by rw [iI_sub]; exact w), hp⟩
theorem tm_imul {x y : Int} (hd : decode M.2.1 pc = .ok (.imul, 1)) (k : Tm d M (pc + 1) b σ L (.int (iI (x * y)) :: st) post) : Tm d M pc b σ L (.int (iI y) :: .int (iI x) :: st) post := fun P0 sz hs => by
  obtain ⟨r, σ2, w, hp⟩ := k P0 sz hs
  exact ⟨r, σ2, wp_imul hd (by rw [iI_mul]; exact w), hp⟩
theorem tm_iand {x y : Int32} (hd : decode M.2.1 pc = .ok (.iand, 1)) (k : Tm d M (pc + 1) b σ L (.int (x &&& y) :: st) post) : Tm d M pc b σ L (.int y :: .int x :: st) post := fun P0 sz hs => by
  obtain ⟨r, σ2, w, hp⟩ := k P0 sz hs
  exact ⟨r, σ2, wp_iand hd w, hp⟩
theorem tm_ior {x y : Int32} (hd : decode M.2.1 pc = .ok (.ior, 1)) (k : Tm d M (pc + 1) b σ L (.int (x ||| y) :: st) post) : Tm d M pc b σ L (.int y :: .int x :: st) post := fun P0 sz hs => by
  obtain ⟨r, σ2, w, hp⟩ := k P0 sz hs
  exact ⟨r, σ2, wp_ior hd w, hp⟩
theorem tm_ishr {x y : Int32} (hd : decode M.2.1 pc = .ok (.ishr, 1)) (k : Tm d M (pc + 1) b σ L (.int (x >>> (y &&& 31)) :: st) post) : Tm d M pc b σ L (.int y :: .int x :: st) post := fun P0 sz hs => by
  obtain ⟨r, σ2, w, hp⟩ := k P0 sz hs
  exact ⟨r, σ2, wp_ishr hd w, hp⟩
theorem tm_i2b {x : Int32} (hd : decode M.2.1 pc = .ok (.i2b, 1)) (k : Tm d M (pc + 1) b σ L (.int x.toInt8.toInt32 :: st) post) : Tm d M pc b σ L (.int x :: st) post := fun P0 sz hs => by
  obtain ⟨r, σ2, w, hp⟩ := k P0 sz hs
  exact ⟨r, σ2, wp_i2b hd rfl w, hp⟩
theorem tm_i2l {x : Int32} (hd : decode M.2.1 pc = .ok (.i2l, 1)) (k : Tm d M (pc + 1) b σ L (.long x.toInt64 :: st) post) : Tm d M pc b σ L (.int x :: st) post := fun P0 sz hs => by
  obtain ⟨r, σ2, w, hp⟩ := k P0 sz hs
  exact ⟨r, σ2, wp_i2l hd rfl w, hp⟩
theorem tm_lor {x y : Int64} (hd : decode M.2.1 pc = .ok (.lor, 1)) (k : Tm d M (pc + 1) b σ L (.long (x ||| y) :: st) post) : Tm d M pc b σ L (.long y :: .long x :: st) post := fun P0 sz hs => by
  obtain ⟨r, σ2, w, hp⟩ := k P0 sz hs
  exact ⟨r, σ2, wp_lor hd w, hp⟩
theorem tm_lshl {x : Int64} {y : Int32} (hd : decode M.2.1 pc = .ok (.lshl, 1)) (k : Tm d M (pc + 1) b σ L (.long (x <<< (y.toInt64 &&& 63)) :: st) post) : Tm d M pc b σ L (.int y :: .long x :: st) post := fun P0 sz hs => by
  obtain ⟨r, σ2, w, hp⟩ := k P0 sz hs
  exact ⟨r, σ2, wp_lshl hd rfl w, hp⟩
theorem tm_dup {va : Value} (hd : decode M.2.1 pc = .ok (.dup, 1)) (hva : va.category = 1) (k : Tm d M (pc + 1) b σ L (va :: va :: st) post) : Tm d M pc b σ L (va :: st) post := fun P0 sz hs => by
  obtain ⟨r, σ2, w, hp⟩ := k P0 sz hs
  exact ⟨r, σ2, wp_dup hd hva w, hp⟩
theorem tm_dup2 {va vb : Value} (hd : decode M.2.1 pc = .ok (.dup2, 1)) (hva : va.category = 1) (hvb : vb.category = 1) (k : Tm d M (pc + 1) b σ L (va :: vb :: va :: vb :: st) post) : Tm d M pc b σ L (va :: vb :: st) post := fun P0 sz hs => by
  obtain ⟨r, σ2, w, hp⟩ := k P0 sz hs
  exact ⟨r, σ2, wp_dup2 hd hva hvb w, hp⟩
theorem tm_goto {off : Int} {tgt : Nat} (hd : decode M.2.1 pc = .ok (.goto off, 3)) (ht : (pc : Int) + off = (tgt : Int)) (k : Tm d M (tgt) b σ L (st) post) : Tm d M pc b σ L (st) post := fun P0 sz hs => by
  obtain ⟨r, σ2, w, hp⟩ := k P0 sz hs
  exact ⟨r, σ2, wp_goto hd ht w, hp⟩
theorem tm_icmp_eq {x y : Int} {off : Int} {tgt : Nat} (hd : decode M.2.1 pc = .ok (.if_icmp .eq off, 3)) (ht : (pc : Int) + off = (tgt : Int)) (hx : inR x) (hy : inR y) (kt : x = y → Tm d M tgt b σ L st post) (kf : ¬ x = y → Tm d M (pc + 3) b σ L st post) : Tm d M pc b σ L (.int (iI y) :: .int (iI x) :: st) post := fun P0 sz hs => by
  by_cases hxy : x = y
  · obtain ⟨r, σ2, w, hp⟩ := kt hxy P0 sz hs
    exact ⟨r, σ2, wp_icmp_eq hd ht (fun _ => w) (fun hf => absurd (iI_c_eq hx hy hxy) (iI_d_eq hf)), hp⟩
  · obtain ⟨r, σ2, w, hp⟩ := kf (by omega) P0 sz hs
    exact ⟨r, σ2, wp_icmp_eq hd ht (fun hf => absurd hf (iI_n_eq hx hy hxy)) (fun _ => w), hp⟩
theorem tm_if_eq {x : Int} {off : Int} {tgt : Nat} (hd : decode M.2.1 pc = .ok (.ifCond .eq off, 3)) (ht : (pc : Int) + off = (tgt : Int)) (hx : inR x) (kt : x = 0 → Tm d M tgt b σ L st post) (kf : ¬ x = 0 → Tm d M (pc + 3) b σ L st post) : Tm d M pc b σ L (.int (iI x) :: st) post := fun P0 sz hs => by
  by_cases hxy : x = 0
  · obtain ⟨r, σ2, w, hp⟩ := kt hxy P0 sz hs
    exact ⟨r, σ2, wp_if_eq hd ht (fun _ => w) (fun hf => absurd (iI_c_eq hx inR_0 hxy) (iI_d_eq hf)), hp⟩
  · obtain ⟨r, σ2, w, hp⟩ := kf (by omega) P0 sz hs
    exact ⟨r, σ2, wp_if_eq hd ht (fun hf => absurd hf (iI_n_eq hx inR_0 hxy)) (fun _ => w), hp⟩
theorem tm_icmp_ne {x y : Int} {off : Int} {tgt : Nat} (hd : decode M.2.1 pc = .ok (.if_icmp .ne off, 3)) (ht : (pc : Int) + off = (tgt : Int)) (hx : inR x) (hy : inR y) (kt : ¬ x = y → Tm d M tgt b σ L st post) (kf : x = y → Tm d M (pc + 3) b σ L st post) : Tm d M pc b σ L (.int (iI y) :: .int (iI x) :: st) post := fun P0 sz hs => by
  by_cases hxy : ¬ x = y
  · obtain ⟨r, σ2, w, hp⟩ := kt hxy P0 sz hs
    exact ⟨r, σ2, wp_icmp_ne hd ht (fun _ => w) (fun hf => absurd (iI_c_ne hx hy hxy) (iI_d_ne hf)), hp⟩
  · obtain ⟨r, σ2, w, hp⟩ := kf (by omega) P0 sz hs
    exact ⟨r, σ2, wp_icmp_ne hd ht (fun hf => absurd hf (iI_n_ne hx hy hxy)) (fun _ => w), hp⟩
theorem tm_if_ne {x : Int} {off : Int} {tgt : Nat} (hd : decode M.2.1 pc = .ok (.ifCond .ne off, 3)) (ht : (pc : Int) + off = (tgt : Int)) (hx : inR x) (kt : ¬ x = 0 → Tm d M tgt b σ L st post) (kf : x = 0 → Tm d M (pc + 3) b σ L st post) : Tm d M pc b σ L (.int (iI x) :: st) post := fun P0 sz hs => by
  by_cases hxy : ¬ x = 0
  · obtain ⟨r, σ2, w, hp⟩ := kt hxy P0 sz hs
    exact ⟨r, σ2, wp_if_ne hd ht (fun _ => w) (fun hf => absurd (iI_c_ne hx inR_0 hxy) (iI_d_ne hf)), hp⟩
  · obtain ⟨r, σ2, w, hp⟩ := kf (by omega) P0 sz hs
    exact ⟨r, σ2, wp_if_ne hd ht (fun hf => absurd hf (iI_n_ne hx inR_0 hxy)) (fun _ => w), hp⟩
theorem tm_icmp_lt {x y : Int} {off : Int} {tgt : Nat} (hd : decode M.2.1 pc = .ok (.if_icmp .lt off, 3)) (ht : (pc : Int) + off = (tgt : Int)) (hx : inR x) (hy : inR y) (kt : x < y → Tm d M tgt b σ L st post) (kf : y ≤ x → Tm d M (pc + 3) b σ L st post) : Tm d M pc b σ L (.int (iI y) :: .int (iI x) :: st) post := fun P0 sz hs => by
  by_cases hxy : x < y
  · obtain ⟨r, σ2, w, hp⟩ := kt hxy P0 sz hs
    exact ⟨r, σ2, wp_icmp_lt hd ht (fun _ => w) (fun hf => absurd (iI_c_lt hx hy hxy) (iI_d_lt hf)), hp⟩
  · obtain ⟨r, σ2, w, hp⟩ := kf (by omega) P0 sz hs
    exact ⟨r, σ2, wp_icmp_lt hd ht (fun hf => absurd hf (iI_n_lt hx hy hxy)) (fun _ => w), hp⟩
theorem tm_if_lt {x : Int} {off : Int} {tgt : Nat} (hd : decode M.2.1 pc = .ok (.ifCond .lt off, 3)) (ht : (pc : Int) + off = (tgt : Int)) (hx : inR x) (kt : x < 0 → Tm d M tgt b σ L st post) (kf : 0 ≤ x → Tm d M (pc + 3) b σ L st post) : Tm d M pc b σ L (.int (iI x) :: st) post := fun P0 sz hs => by
  by_cases hxy : x < 0
  · obtain ⟨r, σ2, w, hp⟩ := kt hxy P0 sz hs
    exact ⟨r, σ2, wp_if_lt hd ht (fun _ => w) (fun hf => absurd (iI_c_lt hx inR_0 hxy) (iI_d_lt hf)), hp⟩
  · obtain ⟨r, σ2, w, hp⟩ := kf (by omega) P0 sz hs
    exact ⟨r, σ2, wp_if_lt hd ht (fun hf => absurd hf (iI_n_lt hx inR_0 hxy)) (fun _ => w), hp⟩
theorem tm_icmp_ge {x y : Int} {off : Int} {tgt : Nat} (hd : decode M.2.1 pc = .ok (.if_icmp .ge off, 3)) (ht : (pc : Int) + off = (tgt : Int)) (hx : inR x) (hy : inR y) (kt : y ≤ x → Tm d M tgt b σ L st post) (kf : x < y → Tm d M (pc + 3) b σ L st post) : Tm d M pc b σ L (.int (iI y) :: .int (iI x) :: st) post := fun P0 sz hs => by
  by_cases hxy : y ≤ x
  · obtain ⟨r, σ2, w, hp⟩ := kt hxy P0 sz hs
    exact ⟨r, σ2, wp_icmp_ge hd ht (fun _ => w) (fun hf => absurd (iI_c_ge hx hy hxy) (iI_d_ge hf)), hp⟩
  · obtain ⟨r, σ2, w, hp⟩ := kf (by omega) P0 sz hs
    exact ⟨r, σ2, wp_icmp_ge hd ht (fun hf => absurd hf (iI_n_ge hx hy hxy)) (fun _ => w), hp⟩
theorem tm_if_ge {x : Int} {off : Int} {tgt : Nat} (hd : decode M.2.1 pc = .ok (.ifCond .ge off, 3)) (ht : (pc : Int) + off = (tgt : Int)) (hx : inR x) (kt : 0 ≤ x → Tm d M tgt b σ L st post) (kf : x < 0 → Tm d M (pc + 3) b σ L st post) : Tm d M pc b σ L (.int (iI x) :: st) post := fun P0 sz hs => by
  by_cases hxy : 0 ≤ x
  · obtain ⟨r, σ2, w, hp⟩ := kt hxy P0 sz hs
    exact ⟨r, σ2, wp_if_ge hd ht (fun _ => w) (fun hf => absurd (iI_c_ge hx inR_0 hxy) (iI_d_ge hf)), hp⟩
  · obtain ⟨r, σ2, w, hp⟩ := kf (by omega) P0 sz hs
    exact ⟨r, σ2, wp_if_ge hd ht (fun hf => absurd hf (iI_n_ge hx inR_0 hxy)) (fun _ => w), hp⟩
theorem tm_icmp_gt {x y : Int} {off : Int} {tgt : Nat} (hd : decode M.2.1 pc = .ok (.if_icmp .gt off, 3)) (ht : (pc : Int) + off = (tgt : Int)) (hx : inR x) (hy : inR y) (kt : y < x → Tm d M tgt b σ L st post) (kf : x ≤ y → Tm d M (pc + 3) b σ L st post) : Tm d M pc b σ L (.int (iI y) :: .int (iI x) :: st) post := fun P0 sz hs => by
  by_cases hxy : y < x
  · obtain ⟨r, σ2, w, hp⟩ := kt hxy P0 sz hs
    exact ⟨r, σ2, wp_icmp_gt hd ht (fun _ => w) (fun hf => absurd (iI_c_gt hx hy hxy) (iI_d_gt hf)), hp⟩
  · obtain ⟨r, σ2, w, hp⟩ := kf (by omega) P0 sz hs
    exact ⟨r, σ2, wp_icmp_gt hd ht (fun hf => absurd hf (iI_n_gt hx hy hxy)) (fun _ => w), hp⟩
theorem tm_if_gt {x : Int} {off : Int} {tgt : Nat} (hd : decode M.2.1 pc = .ok (.ifCond .gt off, 3)) (ht : (pc : Int) + off = (tgt : Int)) (hx : inR x) (kt : 0 < x → Tm d M tgt b σ L st post) (kf : x ≤ 0 → Tm d M (pc + 3) b σ L st post) : Tm d M pc b σ L (.int (iI x) :: st) post := fun P0 sz hs => by
  by_cases hxy : 0 < x
  · obtain ⟨r, σ2, w, hp⟩ := kt hxy P0 sz hs
    exact ⟨r, σ2, wp_if_gt hd ht (fun _ => w) (fun hf => absurd (iI_c_gt hx inR_0 hxy) (iI_d_gt hf)), hp⟩
  · obtain ⟨r, σ2, w, hp⟩ := kf (by omega) P0 sz hs
    exact ⟨r, σ2, wp_if_gt hd ht (fun hf => absurd hf (iI_n_gt hx inR_0 hxy)) (fun _ => w), hp⟩
theorem tm_icmp_le {x y : Int} {off : Int} {tgt : Nat} (hd : decode M.2.1 pc = .ok (.if_icmp .le off, 3)) (ht : (pc : Int) + off = (tgt : Int)) (hx : inR x) (hy : inR y) (kt : x ≤ y → Tm d M tgt b σ L st post) (kf : y < x → Tm d M (pc + 3) b σ L st post) : Tm d M pc b σ L (.int (iI y) :: .int (iI x) :: st) post := fun P0 sz hs => by
  by_cases hxy : x ≤ y
  · obtain ⟨r, σ2, w, hp⟩ := kt hxy P0 sz hs
    exact ⟨r, σ2, wp_icmp_le hd ht (fun _ => w) (fun hf => absurd (iI_c_le hx hy hxy) (iI_d_le hf)), hp⟩
  · obtain ⟨r, σ2, w, hp⟩ := kf (by omega) P0 sz hs
    exact ⟨r, σ2, wp_icmp_le hd ht (fun hf => absurd hf (iI_n_le hx hy hxy)) (fun _ => w), hp⟩
theorem tm_if_le {x : Int} {off : Int} {tgt : Nat} (hd : decode M.2.1 pc = .ok (.ifCond .le off, 3)) (ht : (pc : Int) + off = (tgt : Int)) (hx : inR x) (kt : x ≤ 0 → Tm d M tgt b σ L st post) (kf : 0 < x → Tm d M (pc + 3) b σ L st post) : Tm d M pc b σ L (.int (iI x) :: st) post := fun P0 sz hs => by
  by_cases hxy : x ≤ 0
  · obtain ⟨r, σ2, w, hp⟩ := kt hxy P0 sz hs
    exact ⟨r, σ2, wp_if_le hd ht (fun _ => w) (fun hf => absurd (iI_c_le hx inR_0 hxy) (iI_d_le hf)), hp⟩
  · obtain ⟨r, σ2, w, hp⟩ := kf (by omega) P0 sz hs
    exact ⟨r, σ2, wp_if_le hd ht (fun hf => absurd hf (iI_n_le hx inR_0 hxy)) (fun _ => w), hp⟩
end TMR
section TMH
variable {d : Nat} {M : MT} {pc b : Nat} {σ : MS} {L : List (Nat × Value)} {st : List Value} {post : Option Value → MS → Prop}
theorem tm_get {k ix : Nat} {v : Value} (hlay : ∀ w ∈ u_ws RX12 TX12 87, w ∈ pWW) (hd : decode M.2.1 pc = .ok (.getfield ix, 3)) (hk : k < 87) (hlink : Cond.fieldLink M.1.cls ix (TX12 k).1 (TX12 k).2.1 (TX12 k).2.2.1 ∈ pWW) (hv : (mF b σ)[k]? = some v) (kk : Tm d M (pc + 3) b σ L (v :: st) post) : Tm d M pc b σ L (.ref b :: st) post := fun P0 sz hs => by
  obtain ⟨r, σ2, w, hp⟩ := kk P0 sz hs
  exact ⟨r, σ2, wp_get (ci := 12) hd rfl hlay hk hlink ovM_b hv w, hp⟩
theorem tm_putS {k ix : Nat} {v : Int} {ty : FieldType} (hlay : ∀ w ∈ u_ws RX12 TX12 87, w ∈ pWW) (hd : decode M.2.1 pc = .ok (.putfield ix, 3)) (hk : k < 87) (hlink : Cond.fieldLink M.1.cls ix (TX12 k).1 (TX12 k).2.1 (TX12 k).2.2.1 ∈ pWW) (hfin : (TX12 k).2.2.2 = false) (hds : parseFieldDescriptor (TX12 k).2.2.1 = some ty) (hnr : narrow ty (.int (iI v)) = .int (iI v)) (hfit : fits ty (.int (iI v)) = true) (hset : mF b (sS k v σ) = (mF b σ).set k (.int (iI v))) (kk : Tm d M (pc + 3) b (sS k v σ) L st post) : Tm d M pc b σ L (.int (iI v) :: .ref b :: st) post := fun P0 sz hs => by
  obtain ⟨r, σ2, w, hp⟩ := kk P0 sz hs
  exact ⟨r, σ2, wp_put (ci := 12) tyX12 tyX12_ok nmX12 hd rfl hlay hk hlink hfin hds hnr hfit ovM_b (by rw [ovM_sS hset]; exact w), hp⟩
theorem tm_putW {ix : Nat} {v : Int64} (hlay : ∀ w ∈ u_ws RX12 TX12 87, w ∈ pWW) (hd : decode M.2.1 pc = .ok (.putfield ix, 3)) (hlink : Cond.fieldLink M.1.cls ix (TX12 24).1 (TX12 24).2.1 (TX12 24).2.2.1 ∈ pWW) (kk : Tm d M (pc + 3) b (sJ 24 0 v σ) L st post) : Tm d M pc b σ L (.long v :: .ref b :: st) post := fun P0 sz hs => by
  obtain ⟨r, σ2, w, hp⟩ := kk P0 sz hs
  exact ⟨r, σ2, wp_put (ci := 12) (k := 24) tyX12 tyX12_ok nmX12 hd rfl hlay (by decide) hlink rfl (tyX12_ok 24 (by decide)) rfl rfl ovM_b (by rw [ovM_sW (k := 24) (i := 0) (v := v) (by simp [mF, sJ]) (by decide +kernel)]; exact w), hp⟩
theorem tm_iald {o k n : Nat} {z v : Int} (hd : decode M.2.1 pc = .ok (.iaload, 1)) (ho : mT[o]? = some (k, 0, n)) (h0 : 0 ≤ z) (h1 : z < n) (hn : n ≤ 2147483647) (hv : σ.2.1 k z = v) (kk : Tm d M (pc + 1) b σ L (.int (iI v) :: st) post) : Tm d M pc b σ L (.int (iI z) :: .ref (b + 1 + o) :: st) post := fun P0 sz hs => by
  obtain ⟨r, σ2, w, hp⟩ := kk P0 sz hs
  refine ⟨r, σ2, wp_iald hd (ovM_i ho (by decide)) (iI_in h0 h1 hn) ?_, hp⟩
  rw [iI_nat h0 (by omega), show ((z.toNat : Nat) : Int) = z by omega, hv]
  exact w
theorem tm_zald {o k n : Nat} {z v : Int} (hd : decode M.2.1 pc = .ok (.baload, 1)) (ho : mT[o]? = some (k, 2, n)) (h0 : 0 ≤ z) (h1 : z < n) (hn : n ≤ 2147483647) (hv : σ.2.1 k z = v) (kk : Tm d M (pc + 1) b σ L (.int (iI v) :: st) post) : Tm d M pc b σ L (.int (iI z) :: .ref (b + 1 + o) :: st) post := fun P0 sz hs => by
  obtain ⟨r, σ2, w, hp⟩ := kk P0 sz hs
  refine ⟨r, σ2, wp_zald hd (ovM_i ho (by decide)) (iI_in h0 h1 hn) ?_, hp⟩
  rw [iI_nat h0 (by omega), show ((z.toNat : Nat) : Int) = z by omega, hv]
  exact w
theorem tm_bald {o k n : Nat} {z v : Int} (hd : decode M.2.1 pc = .ok (.baload, 1)) (ho : mT[o]? = some (k, 1, n)) (h0 : 0 ≤ z) (h1 : z < n) (hn : n ≤ 2147483647) (hv : σ.2.1 k z = v) (kk : Tm d M (pc + 1) b σ L (.int (iI v) :: st) post) : Tm d M pc b σ L (.int (iI z) :: .ref (b + 1 + o) :: st) post := fun P0 sz hs => by
  obtain ⟨r, σ2, w, hp⟩ := kk P0 sz hs
  refine ⟨r, σ2, wp_bald hd (ovM_i ho (by decide)) (iI_in h0 h1 hn) ?_, hp⟩
  rw [iI_nat h0 (by omega), show ((z.toNat : Nat) : Int) = z by omega, hv]
  exact w
theorem tm_lald {o k n : Nat} {z : Int} {v : Int64} (hd : decode M.2.1 pc = .ok (.laload, 1)) (ho : mT[o]? = some (k, 3, n)) (h0 : 0 ≤ z) (h1 : z < n) (hn : n ≤ 2147483647) (hv : σ.2.2 k z = v) (kk : Tm d M (pc + 1) b σ L (.long v :: st) post) : Tm d M pc b σ L (.int (iI z) :: .ref (b + 1 + o) :: st) post := fun P0 sz hs => by
  obtain ⟨r, σ2, w, hp⟩ := kk P0 sz hs
  refine ⟨r, σ2, wp_lald hd (ovM_l ho) (iI_in h0 h1 hn) ?_, hp⟩
  rw [iI_nat h0 (by omega), show ((z.toNat : Nat) : Int) = z by omega, hv]
  exact w
theorem tm_iast {o k n : Nat} {z v : Int} (hd : decode M.2.1 pc = .ok (.iastore, 1)) (ho : mT[o]? = some (k, 0, n)) (h0 : 0 ≤ z) (h1 : z < n) (hn : n ≤ 2147483647) (kk : Tm d M (pc + 1) b (sA k z v σ) L st post) : Tm d M pc b σ L (.int (iI v) :: .int (iI z) :: .ref (b + 1 + o) :: st) post := fun P0 sz hs => by
  obtain ⟨r, σ2, w, hp⟩ := kk P0 sz hs
  refine ⟨r, σ2, wp_iast hd (ovM_i ho (by decide)) (iI_in h0 h1 hn) ?_, hp⟩
  rw [iI_nat h0 (by omega), ovM_sA ho (by decide) h0]
  exact w
theorem tm_zast {o k n : Nat} {z v : Int} (hd : decode M.2.1 pc = .ok (.bastore, 1)) (ho : mT[o]? = some (k, 2, n)) (h0 : 0 ≤ z) (h1 : z < n) (hn : n ≤ 2147483647) (hv : v = 0 ∨ v = 1) (kk : Tm d M (pc + 1) b (sA k z v σ) L st post) : Tm d M pc b σ L (.int (iI v) :: .int (iI z) :: .ref (b + 1 + o) :: st) post := fun P0 sz hs => by
  obtain ⟨r, σ2, w, hp⟩ := kk P0 sz hs
  refine ⟨r, σ2, wp_zast hd (ovM_i ho (by decide)) (iI_in h0 h1 hn) ?_, hp⟩
  rw [show vp_nar .boolean (iI v) = iI v by rcases hv with rfl | rfl <;> rfl, iI_nat h0 (by omega), ovM_sA ho (by decide) h0]
  exact w
theorem tm_bast {o k n : Nat} {z v : Int} {x : Int32} (hd : decode M.2.1 pc = .ok (.bastore, 1)) (ho : mT[o]? = some (k, 1, n)) (h0 : 0 ≤ z) (h1 : z < n) (hn : n ≤ 2147483647) (hv : vp_nar .byte x = iI v) (kk : Tm d M (pc + 1) b (sA k z v σ) L st post) : Tm d M pc b σ L (.int x :: .int (iI z) :: .ref (b + 1 + o) :: st) post := fun P0 sz hs => by
  obtain ⟨r, σ2, w, hp⟩ := kk P0 sz hs
  refine ⟨r, σ2, wp_bast hd (ovM_i ho (by decide)) (iI_in h0 h1 hn) ?_, hp⟩
  rw [hv, iI_nat h0 (by omega), ovM_sA ho (by decide) h0]
  exact w
theorem tm_last {o k n : Nat} {z : Int} {v : Int64} (hd : decode M.2.1 pc = .ok (.lastore, 1)) (ho : mT[o]? = some (k, 3, n)) (hw : k ≠ 24) (h0 : 0 ≤ z) (h1 : z < n) (hn : n ≤ 2147483647) (kk : Tm d M (pc + 1) b (sJ k z v σ) L st post) : Tm d M pc b σ L (.long v :: .int (iI z) :: .ref (b + 1 + o) :: st) post := fun P0 sz hs => by
  obtain ⟨r, σ2, w, hp⟩ := kk P0 sz hs
  refine ⟨r, σ2, wp_last hd (ovM_l ho) (iI_in h0 h1 hn) ?_, hp⟩
  rw [iI_nat h0 (by omega), ovM_sJ ho hw h0]
  exact w
theorem tm_iret {v : Int32} (hr : M.2.2.2 = some .int) (hd : decode M.2.1 pc = .ok (.ireturn, 1)) (hp : post (some (.int v)) σ) : Tm d M pc b σ L [.int v] post := fun _ _ _ => ⟨_, _, wp_iret hr hd, hp⟩
theorem tm_zret {v : Int} (hr : M.2.2.2 = some .boolean) (hv : v = 0 ∨ v = 1) (hd : decode M.2.1 pc = .ok (.ireturn, 1)) (hp : post (some (.int (iI v))) σ) : Tm d M pc b σ L [.int (iI v)] post := fun _ _ _ => ⟨_, _, wp_zret hr (by rcases hv with rfl | rfl <;> rfl) hd, hp⟩
theorem tm_vret (hr : M.2.2.2 = none) (hd : decode M.2.1 pc = .ok (.return_, 1)) (hp : post none σ) : Tm d M pc b σ L [] post := fun _ _ _ => ⟨_, _, wp_vret hr hd, hp⟩
theorem tm_tableOut {dflt lo hi : Int} {offs : Array Int} {len : Nat} {x : Int} {tgt : Nat} (hd : decode M.2.1 pc = .ok (.tableswitch dflt lo hi offs, len)) (hx : inR x) (h : x < lo ∨ hi < x) (ht : (pc : Int) + dflt = (tgt : Int)) (k : Tm d M tgt b σ L st post) : Tm d M pc b σ L (.int (iI x) :: st) post := fun P0 sz hs => by
  obtain ⟨r, σ2, w, hp⟩ := k P0 sz hs
  exact ⟨r, σ2, wp_tableOut hd (by rw [iI_toInt hx]; exact h) ht w, hp⟩
theorem tm_tableIn {dflt lo hi : Int} {offs : Array Int} {len : Nat} {x off : Int} {tgt : Nat} (hd : decode M.2.1 pc = .ok (.tableswitch dflt lo hi offs, len)) (hx : inR x) (h1 : ¬ x < lo) (h2 : ¬ hi < x) (ho : offs[(x - lo).toNat]? = some off) (ht : (pc : Int) + off = (tgt : Int)) (k : Tm d M tgt b σ L st post) : Tm d M pc b σ L (.int (iI x) :: st) post := fun P0 sz hs => by
  obtain ⟨r, σ2, w, hp⟩ := k P0 sz hs
  exact ⟨r, σ2, wp_tableIn hd (by rw [iI_toInt hx]; exact h1) (by rw [iI_toInt hx]; exact h2) (by rw [iI_toInt hx]; exact ho) ht w, hp⟩
theorem tm_callV {M' : MT} {ix : Nat} {L1 : List (Nat × Value)} {rest As : List Value} {post1 : Option Value → MS → Prop} (hd : decode M.2.1 pc = .ok (.invokevirtual ix, 3)) (hM : pOk M') (hin : Cond.instanceMethod M'.1 ∈ pWW) (hse : Cond.selects M'.1.cls M'.1 M'.1 ∈ pWW) (hlink : Cond.methodLink M.1.cls ix M'.1 ∈ pWW) (hnp : (parseMethodDescriptor M'.1.desc).map (fun d => d.parameters.length) = some As.length) (hqc : RX12 = M'.1.cls) (hL : lv_args 0 (.ref b :: As) = L1) (hlen : (lg_sl (.ref b :: As)).length ≤ M'.2.2.1) (hcat : (rest.map fun v => v.category).sum ≤ 8) {st : List Value} (hst0 : st = As.reverse ++ .ref b :: rest) (h1 : Tm d M' 0 b σ L1 [] post1) (h2 : ∀ r σ1, post1 r σ1 → Tm (d + 1) M (pc + 3) b σ1 L (r.toList ++ rest) post) : Tm (d + 1) M pc b σ L st post := fun P0 sz hs => by
  obtain ⟨r1, σ1, w1, p1⟩ := h1 P0 sz hs
  obtain ⟨r2, σ2, w2, p2⟩ := h2 r1 σ1 p1 P0 sz hs
  exact ⟨r2, σ2, wp_callV (ci := 12) (q := (RX12, TX12, 87)) (o1 := (r1, ovM b σ1 P0, sz, 0)) (o2 := (r2, ovM b σ2 P0, sz, 0)) hd hM hin hse hlink hnp rfl hqc ovM_b hL hlen hcat (Nat.le_refl _) (Nat.le_refl _) hst0 w1 w2, p2⟩
theorem tm_callS {M' : MT} {ix : Nat} {L1 : List (Nat × Value)} {rest As : List Value} {post1 : Option Value → MS → Prop} (hd : decode M.2.1 pc = .ok (.invokestatic ix, 3)) (hM : pOk M') (hstt : Cond.static M'.1 ∈ pWW) (hlink : Cond.methodLink M.1.cls ix M'.1 ∈ pWW) (hnp : (parseMethodDescriptor M'.1.desc).map (fun d => d.parameters.length) = some As.length) (hL : lv_args 0 As = L1) (hlen : (lg_sl As).length ≤ M'.2.2.1) (hcat : (rest.map fun v => v.category).sum ≤ 8) {st : List Value} (hst0 : st = As.reverse ++ rest) (h1 : Tm d M' 0 b σ L1 [] post1) (h2 : ∀ r σ1, post1 r σ1 → Tm (d + 1) M (pc + 3) b σ1 L (r.toList ++ rest) post) : Tm (d + 1) M pc b σ L st post := fun P0 sz hs => by
  obtain ⟨r1, σ1, w1, p1⟩ := h1 P0 sz hs
  obtain ⟨r2, σ2, w2, p2⟩ := h2 r1 σ1 p1 P0 sz hs
  exact ⟨r2, σ2, wp_callS (o1 := (r1, ovM b σ1 P0, sz, 0)) (o2 := (r2, ovM b σ2 P0, sz, 0)) hd hM hstt hlink hnp hL hlen hcat (Nat.le_refl _) (Nat.le_refl _) hst0 w1 w2, p2⟩
end TMH
theorem tm_sub {d : Nat} {M : MT} {pc b : Nat} {σ : MS} {L L' : List (Nat × Value)} {st : List Value} {post : Option Value → MS → Prop} (ks : List Nat) (h : lv_pick L ks = L') (k : Tm d M pc b σ L' st post) : Tm d M pc b σ L st post := fun P0 sz hs => by
  obtain ⟨r, σ2, w, hp⟩ := k P0 sz hs
  exact ⟨r, σ2, wp_sub ks h w, hp⟩
theorem Tm.mono {d : Nat} {M : MT} {pc b : Nat} {σ : MS} {L : List (Nat × Value)} {st : List Value} {post post2 : Option Value → MS → Prop} (k : Tm d M pc b σ L st post) (h : ∀ r s, post r s → post2 r s) : Tm d M pc b σ L st post2 := fun P0 sz hs => by
  obtain ⟨r, σ2, w, hp⟩ := k P0 sz hs
  exact ⟨r, σ2, w, h _ _ hp⟩
theorem nz_b {v : Int} (h : v = 0 ∨ v = 1) : narrow .boolean (.int (iI v)) = .int (iI v) := by rcases h with rfl | rfl <;> rfl
theorem tm_getS {d : Nat} {M : MT} {pc b : Nat} {σ : MS} {L : List (Nat × Value)} {st : List Value} {post : Option Value → MS → Prop} {k ix : Nat} {t : Int} (hd : decode M.2.1 pc = .ok (.getfield ix, 3)) (hk : k < 87) (hlink : Cond.fieldLink M.1.cls ix (TX12 k).1 (TX12 k).2.1 (TX12 k).2.2.1 ∈ pWW) (hv : (mF b σ)[k]? = some (.int (iI (σ.1 k)))) (ht : σ.1 k = t) (kk : Tm d M (pc + 3) b σ L (.int (iI t) :: st) post) : Tm d M pc b σ L (.ref b :: st) post := tm_get lay_12 hd hk hlink (by rw [hv, ht]) kk
theorem tm_getW {d : Nat} {M : MT} {pc b : Nat} {σ : MS} {L : List (Nat × Value)} {st : List Value} {post : Option Value → MS → Prop} {ix : Nat} {t : Int64} (hd : decode M.2.1 pc = .ok (.getfield ix, 3)) (hlink : Cond.fieldLink M.1.cls ix (TX12 24).1 (TX12 24).2.1 (TX12 24).2.2.1 ∈ pWW) (ht : σ.2.2 24 0 = t) (kk : Tm d M (pc + 3) b σ L (.long t :: st) post) : Tm d M pc b σ L (.ref b :: st) post := tm_get (k := 24) lay_12 hd (by decide) hlink (by rw [← ht]; rfl) kk
theorem ra_ne {k : Nat} {z i w v : Int} {σ : MS} (h : z ≠ i) (e : σ.2.1 k z = v) : (sA k i w σ).2.1 k z = v := by simp only [sA, if_true]; rw [if_neg h]; exact e
theorem ra_eq {k : Nat} {z w : Int} {σ : MS} : (sA k z w σ).2.1 k z = w := by simp only [sA, if_true]
theorem ra_o {k j : Nat} {z i w v : Int} {σ : MS} (h : k ≠ j) (e : σ.2.1 k z = v) : (sA j i w σ).2.1 k z = v := by simp only [sA]; rw [if_neg h]; exact e
theorem ra_S {k j : Nat} {z w v : Int} {σ : MS} (e : σ.2.1 k z = v) : (sS j w σ).2.1 k z = v := e
theorem ra_J {k j : Nat} {z i v : Int} {w : Int64} {σ : MS} (e : σ.2.1 k z = v) : (sJ j i w σ).2.1 k z = v := e
theorem rs_A {k j : Nat} {i w v : Int} {σ : MS} (e : σ.1 k = v) : (sA j i w σ).1 k = v := e
theorem rs_J {k j : Nat} {i : Int} {v : Int} {w : Int64} {σ : MS} (e : σ.1 k = v) : (sJ j i w σ).1 k = v := e
theorem rs_o {k j : Nat} {w v : Int} {σ : MS} (h : k ≠ j) (e : σ.1 k = v) : (sS j w σ).1 k = v := by simp only [sS]; rw [if_neg h]; exact e
theorem rs_eq {k : Nat} {w : Int} {σ : MS} : (sS k w σ).1 k = w := by simp only [sS, if_true]
theorem rj_S {k j : Nat} {z w : Int} {v : Int64} {σ : MS} (e : σ.2.2 k z = v) : (sS j w σ).2.2 k z = v := e
theorem rj_eq {k : Nat} {z : Int} {w : Int64} {σ : MS} : (sJ k z w σ).2.2 k z = w := by simp only [sJ, if_true]
def Fr (ss ks js : List Nat) (σ τ : MS) : Prop := (∀ k, k ∉ ss → τ.1 k = σ.1 k) ∧ (∀ k, k ∉ ks → τ.2.1 k = σ.2.1 k) ∧ ∀ k, k ∉ js → τ.2.2 k = σ.2.2 k
theorem Fr.rfl {ss ks js : List Nat} {σ : MS} : Fr ss ks js σ σ := ⟨fun _ _ => Eq.refl _, fun _ _ => Eq.refl _, fun _ _ => Eq.refl _⟩
theorem Fr.trans {ss ks js : List Nat} {σ τ υ : MS} (h : Fr ss ks js σ τ) (g : Fr ss ks js τ υ) : Fr ss ks js σ υ := ⟨fun k hk => (g.1 k hk).trans (h.1 k hk), fun k hk => (g.2.1 k hk).trans (h.2.1 k hk), fun k hk => (g.2.2 k hk).trans (h.2.2 k hk)⟩
theorem Fr.sub {ss ks js ss' ks' js' : List Nat} {σ τ : MS} (h : Fr ss ks js σ τ) (h1 : ∀ k ∈ ss, k ∈ ss') (h2 : ∀ k ∈ ks, k ∈ ks') (h3 : ∀ k ∈ js, k ∈ js') : Fr ss' ks' js' σ τ := ⟨fun k hk => h.1 k (fun q => hk (h1 k q)), fun k hk => h.2.1 k (fun q => hk (h2 k q)), fun k hk => h.2.2 k (fun q => hk (h3 k q))⟩
theorem Fr.S {ss ks js : List Nat} {σ τ : MS} (h : Fr ss ks js σ τ) {k : Nat} {v : Int} (hk : k ∈ ss) : Fr ss ks js σ (sS k v τ) := ⟨fun j hj => by rw [← h.1 j hj]; exact if_neg (fun e => hj (by rw [e]; exact hk)), h.2.1, h.2.2⟩
theorem Fr.A {ss ks js : List Nat} {σ τ : MS} (h : Fr ss ks js σ τ) {k : Nat} {i v : Int} (hk : k ∈ ks) : Fr ss ks js σ (sA k i v τ) := ⟨h.1, fun j hj => by rw [← h.2.1 j hj]; exact if_neg (fun e => hj (by rw [e]; exact hk)), h.2.2⟩
theorem Fr.J {ss ks js : List Nat} {σ τ : MS} (h : Fr ss ks js σ τ) {k : Nat} {i : Int} {v : Int64} (hk : k ∈ js) : Fr ss ks js σ (sJ k i v τ) := ⟨h.1, h.2.1, fun j hj => by rw [← h.2.2 j hj]; exact if_neg (fun e => hj (by rw [e]; exact hk))⟩
theorem ra_F {ss ks js : List Nat} {σ τ : MS} {k : Nat} {z v : Int} (h : Fr ss ks js σ τ) (hk : k ∉ ks) (e : σ.2.1 k z = v) : τ.2.1 k z = v := by rw [h.2.1 k hk]; exact e
theorem rs_F {ss ks js : List Nat} {σ τ : MS} {k : Nat} {v : Int} (h : Fr ss ks js σ τ) (hk : k ∉ ss) (e : σ.1 k = v) : τ.1 k = v := by rw [h.1 k hk]; exact e
theorem rj_F {ss ks js : List Nat} {σ τ : MS} {k : Nat} {z : Int} {v : Int64} (h : Fr ss ks js σ τ) (hk : k ∉ js) (e : σ.2.2 k z = v) : τ.2.2 k z = v := by rw [h.2.2 k hk]; exact e
def RG (σ : MS) : Prop := (∀ k, inR (σ.1 k)) ∧ ∀ k i, inR (σ.2.1 k i)
theorem RG.s {σ : MS} (h : RG σ) (k : Nat) : -2147483648 ≤ σ.1 k ∧ σ.1 k ≤ 2147483647 := h.1 k
theorem RG.a {σ : MS} (h : RG σ) (k : Nat) (i : Int) : -2147483648 ≤ σ.2.1 k i ∧ σ.2.1 k i ≤ 2147483647 := h.2 k i
theorem RG.S {σ : MS} (h : RG σ) {k : Nat} {v : Int} (hv : -2147483648 ≤ v ∧ v ≤ 2147483647) : RG (sS k v σ) := ⟨fun j => by
  by_cases e : j = k
  · simp only [sS, if_pos e]; exact hv
  · simp only [sS, if_neg e]; exact h.1 j, h.2⟩
theorem RG.A {σ : MS} (h : RG σ) {k : Nat} {i v : Int} (hv : -2147483648 ≤ v ∧ v ≤ 2147483647) : RG (sA k i v σ) := ⟨h.1, fun j q => by
  by_cases e : j = k
  · by_cases e2 : q = i
    · simp only [sA, if_pos e, if_pos e2]; exact hv
    · simp only [sA, if_pos e, if_neg e2]; exact h.2 k q
  · simp only [sA, if_neg e]; exact h.2 j q⟩
theorem RG.J {σ : MS} (h : RG σ) {k : Nat} {i : Int} {v : Int64} : RG (sJ k i v σ) := h
def lcI (x y : Int64) : Int := if y < x then 1 else if x = y then 0 else -1
theorem lcI_b (x y : Int64) : -1 ≤ lcI x y ∧ lcI x y ≤ 1 := by unfold lcI; split; omega; split <;> omega
theorem lcI_0 {x y : Int64} : lcI x y = 0 ↔ x = y := by
  unfold lcI
  by_cases h : y < x
  · rw [if_pos h]
    constructor
    · intro q; omega
    · intro q; rw [q] at h; exact absurd h (Int64.lt_irrefl)
  · rw [if_neg h]
    by_cases e : x = y
    · simp [e]
    · simp [e]
theorem lcI_c (x y : Int64) : lg_cmp x y = iI (lcI x y) := by
  unfold lg_cmp lcI
  by_cases h : y < x
  · simp [h]; rfl
  · by_cases e : x = y
    · simp [h, e]; rfl
    · simp [h, e]; rfl
theorem tm_lcmp {d : Nat} {M : MT} {pc b : Nat} {σ : MS} {L : List (Nat × Value)} {st : List Value} {post : Option Value → MS → Prop} {x y : Int64} (hd : decode M.2.1 pc = .ok (.lcmp, 1)) (k : Tm d M (pc + 1) b σ L (.int (iI (lcI x y)) :: st) post) : Tm d M pc b σ L (.long y :: .long x :: st) post := fun P0 sz hs => by
  obtain ⟨r, σ2, w, hp⟩ := k P0 sz hs
  exact ⟨r, σ2, wp_lcmp hd (by rw [lcI_c]; exact w), hp⟩
theorem iI_and255 {z : Int} : ∃ w : Int, iI z &&& iI 255 = iI w ∧ 0 ≤ w ∧ w ≤ 255 := by
  refine ⟨(iI z &&& iI 255).toInt, (iI_self _).symm, ?_⟩
  have h : (iI z &&& iI 255).toInt = ((iI z).toBitVec &&& 255#32).toInt := rfl
  rw [h]
  have h2 : ((iI z).toBitVec &&& 255#32).toNat ≤ 255 := by rw [BitVec.toNat_and]; exact Nat.and_le_right
  rw [BitVec.toInt_eq_toNat_of_lt (by omega)]
  omega
end
section
def cz (f : Int → Int) : Nat → Nat
  | 0 => 0
  | n + 1 => cz f n + (if f n = 0 then 1 else 0)
theorem cz_ext {f g : Int → Int} (n : Nat) (h : ∀ j : Int, 0 ≤ j → j < n → f j = g j) : cz f n = cz g n := by
  induction n with
  | zero => rfl
  | succ n ih =>
    unfold cz
    rw [ih (fun j a b => h j a (by omega)), h n (by omega) (by omega)]
theorem cz_upd {f : Int → Int} {n : Nat} {z v : Int} (h0 : 0 ≤ z) (h1 : z < n) (hf : f z = 0) (hv : v ≠ 0) : cz (fun q => if q = z then v else f q) n + 1 = cz f n := by
  induction n with
  | zero => omega
  | succ n ih =>
    unfold cz
    by_cases e : z = n
    · have h2 : cz (fun q => if q = z then v else f q) n = cz f n := cz_ext n (fun j a b => if_neg (by omega))
      rw [h2, if_neg (by rw [if_pos e.symm]; exact hv), if_pos (by rw [← e]; exact hf)]
    · have h2 := ih (by omega)
      have h3 : (if (n : Int) = z then v else f n) = f n := if_neg (fun q => e q.symm)
      rw [h3]
      omega
theorem cz_sA {σ : MS} {k n : Nat} {z v : Int} (h0 : 0 ≤ z) (h1 : z < n) (hf : σ.2.1 k z = 0) (hv : v ≠ 0) : cz ((sA k z v σ).2.1 k) n + 1 = cz (σ.2.1 k) n := by
  have e : (sA k z v σ).2.1 k = fun q => if q = z then v else σ.2.1 k q := by simp only [sA, if_true]
  rw [e]
  exact cz_upd h0 h1 hf hv
theorem cz_fr {ss ks js : List Nat} {σ τ : MS} {k n : Nat} (f : Fr ss ks js σ τ) (hk : k ∉ ks) : cz (τ.2.1 k) n = cz (σ.2.1 k) n := by rw [f.2.1 k hk]
def BO (k : Nat) (σ : MS) : Prop := ∀ i, σ.2.1 k i = 0 ∨ σ.2.1 k i = 1
theorem BO.fr {ss ks js : List Nat} {σ τ : MS} {k : Nat} (h : BO k σ) (f : Fr ss ks js σ τ) (hk : k ∉ ks) : BO k τ := fun l => by rw [f.2.1 k hk]; exact h l
theorem BO.A {σ : MS} {k : Nat} (h : BO k σ) {z v : Int} (hv : v = 0 ∨ v = 1) : BO k (sA k z v σ) := fun l => by
  simp only [sA, if_true]
  by_cases e : l = z
  · rw [if_pos e]; exact hv
  · rw [if_neg e]; exact h l
theorem tm_iorZ {d : Nat} {M : MT} {pc b : Nat} {σ : MS} {L : List (Nat × Value)} {st : List Value} {post : Option Value → MS → Prop} {x y : Int} (hd : decode M.2.1 pc = .ok (.ior, 1)) (hx : x = 0 ∨ x = 1) (hy : y = 0 ∨ y = 1) (k : ∀ c : Int, (c = 0 ∨ c = 1) ∧ (c = 1 ↔ x = 1 ∨ y = 1) → Tm d M (pc + 1) b σ L (.int (iI c) :: st) post) : Tm d M pc b σ L (.int (iI y) :: .int (iI x) :: st) post := by
  refine tm_ior hd ?_
  rcases hx with rfl | rfl <;> rcases hy with rfl | rfl
  · exact k 0 (by omega)
  · exact k 1 (by omega)
  · exact k 1 (by omega)
  · exact k 1 (by omega)
def cw (f : Int → Int) (lo : Int) : Nat → Nat
  | 0 => 0
  | n + 1 => cw f lo n + (if f (lo + n) = 14 then 0 else 1)
theorem cw_ext {f g : Int → Int} {lo : Int} (n : Nat) (h : ∀ j : Int, 0 ≤ j → j < n → f (lo + j) = g (lo + j)) : cw f lo n = cw g lo n := by
  induction n with
  | zero => rfl
  | succ n ih =>
    unfold cw
    rw [ih (fun j a b => h j a (by omega)), h n (by omega) (by omega)]
theorem cw_upd {f : Int → Int} {lo z v : Int} {n : Nat} (h0 : lo ≤ z) (h1 : z < lo + n) (hf : f z ≠ 14) : cw (fun q => if q = z then v else f q) lo n + (if v = 14 then 1 else 0) = cw f lo n := by
  induction n with
  | zero => omega
  | succ n ih =>
    unfold cw
    by_cases e : z = lo + n
    · have h2 : cw (fun q => if q = z then v else f q) lo n = cw f lo n := cw_ext n (fun j a b => if_neg (by omega))
      rw [h2, if_pos e.symm, if_neg (show ¬ f (lo + n) = 14 by rw [← e]; exact hf)]
      split <;> omega
    · have h2 := ih (by omega)
      have h3 : (if lo + (n : Int) = z then v else f (lo + n)) = f (lo + n) := if_neg (fun q => e q.symm)
      rw [h3]
      omega
end
section
abbrev CT : Type := Nat → Nat × Nat
def rfO (z : Int) : Option Nat := if z < 0 then none else some z.toNat
def vl (r : Bool) (z : Int) : Value := match r with
  | true => va_rf (rfO z)
  | false => .int (iI z)
theorem vl_ref {x : Nat} {z : Int} (h : z = (x : Int)) : vl true z = .ref x := by
  show va_rf (rfO z) = _
  unfold rfO
  rw [h, if_neg (by omega)]
  rfl
theorem vl_null {z : Int} (h : z < 0) : vl true z = .null := by
  show va_rf (rfO z) = _
  unfold rfO
  rw [if_pos h]
  rfl
def cL (b : Nat) (rs : List Bool) (σ : MS) (a : Nat) : List Value := match rs with
  | [] => []
  | r :: rs => vl r (σ.2.1 b a) :: cL (b + 1) rs σ a
theorem sA_ne {k j : Nat} {z v q : Int} {σ : MS} (h : q ≠ z) : (sA k z v σ).2.1 j q = σ.2.1 j q := by
  by_cases e : j = k
  · rw [e]; exact ra_ne h rfl
  · exact ra_o e rfl
theorem sA_k {k j : Nat} {z v : Int} {σ : MS} (h : j ≠ k) : (sA k z v σ).2.1 j = σ.2.1 j := by
  funext q
  exact ra_o h rfl
theorem cL_get {b i : Nat} {rs : List Bool} {r : Bool} {σ : MS} {a : Nat} (h : rs[i]? = some r) : (cL b rs σ a)[i]? = some (vl r (σ.2.1 (b + i) a)) := by
  induction rs generalizing b i with
  | nil => simp at h
  | cons x rs ih =>
    cases i with
    | zero =>
      simp only [List.getElem?_cons_zero, Option.some.injEq] at h
      rw [← h]; rfl
    | succ i =>
      simp only [List.getElem?_cons_succ] at h
      have q := ih (b := b + 1) h
      simp only [cL, List.getElem?_cons_succ]
      rw [q, show b + 1 + i = b + (i + 1) by omega]
theorem cL_ne {b k : Nat} {rs : List Bool} {σ : MS} {z v : Int} {a : Nat} (h : (a : Int) ≠ z) : cL b rs (sA k z v σ) a = cL b rs σ a := by
  induction rs generalizing b with
  | nil => rfl
  | cons r rs ih => simp only [cL]; rw [ih, sA_ne h]
theorem cL_hi {b k : Nat} {rs : List Bool} {σ : MS} {z v : Int} {a : Nat} (h : k < b ∨ b + rs.length ≤ k) : cL b rs (sA k z v σ) a = cL b rs σ a := by
  induction rs generalizing b with
  | nil => rfl
  | cons r rs ih =>
    simp only [List.length_cons] at h
    simp only [cL]
    rw [ih (by omega), sA_k (by omega)]
theorem cL_set {b i : Nat} {rs : List Bool} {r : Bool} {σ : MS} {v : Int} {a : Nat} (h : rs[i]? = some r) : (cL b rs σ a).set i (vl r v) = cL b rs (sA (b + i) a v σ) a := by
  induction rs generalizing b i with
  | nil => simp at h
  | cons x rs ih =>
    cases i with
    | zero =>
      simp only [List.getElem?_cons_zero, Option.some.injEq] at h
      simp only [cL, List.set_cons_zero, Nat.add_zero]
      rw [cL_hi (Or.inl (by omega)), h, show (sA b a v σ).2.1 b a = v from ra_eq]
    | succ i =>
      simp only [List.getElem?_cons_succ] at h
      simp only [cL, List.set_cons_succ]
      rw [ih (b := b + 1) h, show b + 1 + i = b + (i + 1) by omega, sA_k (show b ≠ b + (i + 1) by omega)]
def cB (ci : Nat) : Nat := match ci with
  | 0 => 0
  | 1 => 5
  | 2 => 17
  | 3 => 18
  | 4 => 23
  | 5 => 33
  | 6 => 52
  | 7 => 55
  | 8 => 72
  | 9 => 81
  | 10 => 88
  | 11 => 95
  | _ => 0
def cR (ci : Nat) : List Bool := match ci with
  | 0 => [true, true, false, false, false]
  | 1 => [true, false, false, false, false, false, true, true, true, true, true, true]
  | 2 => [true]
  | 3 => [true, true, true, true, false]
  | 4 => [true, true, true, true, false, false, false, false, false, false]
  | 5 => [true, true, true, true, true, false, true, true, true, false, false, false, false, false, false, true, true, false, false]
  | 6 => [true, true, true]
  | 7 => [true, false, false, false, true, true, true, true, true, true, false, false, false, false, true, false, false]
  | 8 => [true, true, true, true, true, true, true, true, false]
  | 9 => [true, true, true, false, false, false, false]
  | 10 => [true, true, true, true, true, false, false]
  | 11 => [true, false, false, true, true, true, true, true, true, false, false, true, true, true, true, true]
  | _ => []
theorem cR_len (ci : Nat) : cB ci + (cR ci).length ≤ 200 := match ci with
  | 0 => by decide
  | 1 => by decide
  | 2 => by decide
  | 3 => by decide
  | 4 => by decide
  | 5 => by decide
  | 6 => by decide
  | 7 => by decide
  | 8 => by decide
  | 9 => by decide
  | 10 => by decide
  | 11 => by decide
  | _ + 12 => (show 0 + 0 ≤ 200 by decide)

def kC (k : Nat) : Nat := if k = 50 then 1 else if k = 57 then 7 else if 80 ≤ k then k - 80 else k - 30
def IA (T : CT) (x : Nat) : Prop := (T x).1 = 1 ∨ (11 ≤ (T x).1 ∧ (T x).1 ≤ 24)
def cF (ci : Nat) (σ : MS) (a : Nat) : List Value := cL (cB ci) (cR ci) σ a
theorem cF_ne {ci k : Nat} {σ : MS} {z v : Int} {a : Nat} (h : (a : Int) ≠ z) : cF ci (sA k z v σ) a = cF ci σ a := cL_ne h
theorem cF_arr {ci k : Nat} {σ : MS} {z v : Int} {a : Nat} (h : 200 ≤ k) : cF ci (sA k z v σ) a = cF ci σ a := cL_hi (Or.inr (by have := cR_len ci; omega))
def ovC (T : CT) (σ : MS) (P0 : PH) : PH := fun q =>
  if (T q).1 = 0 then P0 q
  else if (T q).1 = 1 ∨ (11 ≤ (T q).1 ∧ (T q).1 ≤ 24) then some (.inl (0, (T q).2, .inl (fun j : Nat => iI (σ.2.1 (1000 + q) j))))
  else if (T q).1 = 2 then some (.inl (1, (T q).2, .inl (fun j : Nat => iI (σ.2.1 (1000 + q) j))))
  else if (T q).1 = 3 then some (.inl (3, (T q).2, .inr (.inl (fun j : Nat => σ.2.2 q j))))
  else if (T q).1 = 4 ∨ (T q).1 = 5 ∨ (T q).1 = 94 ∨ (T q).1 = 95 then some (.inl (5, (T q).2, .inr (.inr (.inr (.inr (fun j : Nat => rfO (σ.2.1 (1000 + q) j)))))))
  else if (T q).1 = 7 then some (.inl (6, (T q).2, .inr (.inr (.inr (.inr (fun j : Nat => rfO (σ.2.1 900 j)))))))
  else some (.inr (kC (T q).1, cF (kC (T q).1) σ q))
section OVC
variable {T : CT} {σ : MS} {P0 : PH} {a : Nat}
theorem ovC_i (h : IA T a) : ovC T σ P0 a = some (.inl (0, (T a).2, .inl (fun j : Nat => iI (σ.2.1 (1000 + a) j)))) := by
  unfold IA at h; unfold ovC; rw [if_neg (by omega), if_pos h]
theorem ovC_b (h : (T a).1 = 2) : ovC T σ P0 a = some (.inl (1, (T a).2, .inl (fun j : Nat => iI (σ.2.1 (1000 + a) j)))) := by
  unfold ovC; rw [if_neg (by omega), if_neg (by omega), if_pos h]
theorem ovC_l (h : (T a).1 = 3) : ovC T σ P0 a = some (.inl (3, (T a).2, .inr (.inl (fun j : Nat => σ.2.2 a j)))) := by
  unfold ovC; rw [if_neg (by omega), if_neg (by omega), if_neg (by omega), if_pos h]
theorem ovC_q (h : (T a).1 = 4 ∨ (T a).1 = 5 ∨ (T a).1 = 94 ∨ (T a).1 = 95) : ovC T σ P0 a = some (.inl (5, (T a).2, .inr (.inr (.inr (.inr (fun j : Nat => rfO (σ.2.1 (1000 + a) j))))))) := by
  unfold ovC; rw [if_neg (by omega), if_neg (by omega), if_neg (by omega), if_neg (by omega), if_pos h]
theorem ovC_m (h : (T a).1 = 7) : ovC T σ P0 a = some (.inl (6, (T a).2, .inr (.inr (.inr (.inr (fun j : Nat => rfO (σ.2.1 900 j))))))) := by
  unfold ovC; rw [if_neg (by omega), if_neg (by omega), if_neg (by omega), if_neg (by omega), if_neg (by omega), if_pos h]
theorem ovC_o (h : 30 ≤ (T a).1 ∧ (T a).1 < 94) : ovC T σ P0 a = some (.inr (kC (T a).1, cF (kC (T a).1) σ a)) := by
  unfold ovC; rw [if_neg (by omega), if_neg (by omega), if_neg (by omega), if_neg (by omega), if_neg (by omega), if_neg (by omega)]
theorem ovC_sF {k : Nat} {v : Int} {fs : List Value} (h : 30 ≤ (T a).1 ∧ (T a).1 < 94) (hk : k < 200) (hf : fs = cF (kC (T a).1) (sA k a v σ) a) : pS (ovC T σ P0) a (.inr (kC (T a).1, fs)) = ovC T (sA k a v σ) P0 := by
  funext q
  by_cases hq : q = a
  · rw [hq, pS_same, ovC_o h, hf]
  · rw [pS_ne hq]
    unfold ovC
    rw [cF_ne (by omega), sA_k (show 1000 + q ≠ k by omega), sA_k (show 900 ≠ k by omega)]
    rfl
theorem ovC_sI {z v : Int} (h : IA T a) (hz : 0 ≤ z) : pS (ovC T σ P0) a (.inl (0, (T a).2, .inl (upd (fun j : Nat => iI (σ.2.1 (1000 + a) j)) z.toNat (iI v)))) = ovC T (sA (1000 + a) z v σ) P0 := by
  funext q
  by_cases hq : q = a
  · rw [hq, pS_same, ovC_i h, upd_iI hz]
    simp only [sA, if_true]
  · rw [pS_ne hq]
    unfold ovC
    rw [cF_arr (by omega), sA_k (show 1000 + q ≠ 1000 + a by omega), sA_k (show 900 ≠ 1000 + a by omega)]
    rfl
theorem ovC_sB {z v : Int} (h : (T a).1 = 2) (hz : 0 ≤ z) : pS (ovC T σ P0) a (.inl (1, (T a).2, .inl (upd (fun j : Nat => iI (σ.2.1 (1000 + a) j)) z.toNat (iI v)))) = ovC T (sA (1000 + a) z v σ) P0 := by
  funext q
  by_cases hq : q = a
  · rw [hq, pS_same, ovC_b h, upd_iI hz]
    simp only [sA, if_true]
  · rw [pS_ne hq]
    unfold ovC
    rw [cF_arr (by omega), sA_k (show 1000 + q ≠ 1000 + a by omega), sA_k (show 900 ≠ 1000 + a by omega)]
    rfl
theorem cL_J {b k : Nat} {rs : List Bool} {z : Int} {v : Int64} {a : Nat} : cL b rs (sJ k z v σ) a = cL b rs σ a := by
  induction rs generalizing b with
  | nil => rfl
  | cons r rs ih => simp only [cL]; rw [ih]; rfl
theorem ovC_sL {z : Int} {v : Int64} (h : (T a).1 = 3) (hz : 0 ≤ z) : pS (ovC T σ P0) a (.inl (3, (T a).2, .inr (.inl (vp_updL (fun j : Nat => σ.2.2 a j) z.toNat v)))) = ovC T (sJ a z v σ) P0 := by
  funext q
  by_cases hq : q = a
  · rw [hq, pS_same, ovC_l h]
    simp only [sJ, if_true]
    congr 6
    funext j
    unfold vp_updL
    by_cases hj : j = z.toNat
    · have h2 : (j : Int) = z := by omega
      simp [hj, h2]
      intro h3
      omega
    · have h2 : ¬ (j : Int) = z := by omega
      simp [hj, h2]
  · rw [pS_ne hq]
    unfold ovC
    have e : (sJ a z v σ).2.2 q = σ.2.2 q := by simp only [sJ, if_neg hq]
    rw [e, show cF (kC (T q).1) (sJ a z v σ) q = cF (kC (T q).1) σ q from cL_J]
    rfl
end OVC
def DOM (T : CT) (sz : Nat) : Prop := ∀ a, (T a).1 ≠ 0 → a < sz
def Gd (T : CT) (σ : MS) (sz : Nat) (T2 : CT) (σ2 : MS) (sz2 n : Nat) : Prop := sz ≤ sz2 ∧ DOM T2 sz2 ∧ (∀ a, a < sz → (T a).1 < 80 → T2 a = T a) ∧ (n : Int) = σ2.1 0 - σ.1 0 ∧ (sz2 : Int) - sz = σ2.1 1 - σ.1 1
theorem Gd.rfl {T : CT} {σ : MS} {sz : Nat} (h : DOM T sz) : Gd T σ sz T σ sz 0 := ⟨Nat.le_refl _, h, fun _ _ _ => Eq.refl _, by omega, by omega⟩
theorem Gd.trans {T T1 T2 : CT} {σ σ1 σ2 : MS} {sz sz1 sz2 n m : Nat} (h : Gd T σ sz T1 σ1 sz1 n) (g : Gd T1 σ1 sz1 T2 σ2 sz2 m) : Gd T σ sz T2 σ2 sz2 (n + m) := ⟨Nat.le_trans h.1 g.1, g.2.1, fun a q r => (g.2.2.1 a (Nat.lt_of_lt_of_le q h.1) (by rw [h.2.2.1 a q r]; exact r)).trans (h.2.2.1 a q r), by have := h.2.2.2.1; have := g.2.2.2.1; omega, by have := h.2.2.2.2; have := g.2.2.2.2; omega⟩
def GT (T T2 : CT) : Prop := ∀ a, (T a).1 ≠ 0 → (T a).1 < 80 → T2 a = T a
theorem GT.rfl {T : CT} : GT T T := fun _ _ _ => Eq.refl _
theorem GT.trans {T T1 T2 : CT} (h : GT T T1) (g : GT T1 T2) : GT T T2 := fun a q r => (g a (by rw [h a q r]; exact q) (by rw [h a q r]; exact r)).trans (h a q r)
theorem Gd.gt {T T2 : CT} {σ σ2 : MS} {sz sz2 n : Nat} (hs : DOM T sz) (h : Gd T σ sz T2 σ2 sz2 n) : GT T T2 := fun a q r => h.2.2.1 a (hs a q) r
def Tn (d : Nat) (M : MT) (pc : Nat) (T : CT) (σ : MS) (L : List (Nat × Value)) (st : List Value) (post : Option Value → CT → MS → Prop) : Prop := ∀ (P0 : PH) (sz : Nat), DOM T sz → ∃ (r : Option Value) (T2 : CT) (σ2 : MS) (sz2 n9 : Nat), Wp d M pc (ovC T σ P0) sz L st (r, ovC T2 σ2 P0, sz2, n9) ∧ Gd T σ sz T2 σ2 sz2 n9 ∧ post r T2 σ2

section TNR
variable {d : Nat} {M : MT} {pc : Nat} {T : CT} {σ : MS} {L : List (Nat × Value)} {st : List Value} {post : Option Value → CT → MS → Prop}
theorem tn_iconst {n : Int} (hd : decode M.2.1 pc = .ok (.iconst n, 1)) (k : Tn d M (pc + 1) T σ L (.int (iI n) :: st) post) : Tn d M pc T σ L (st) post := fun P0 sz hs => by
  obtain ⟨r, T2, σ2, sz2, n9, w, hp⟩ := k P0 sz hs
  exact ⟨r, T2, σ2, sz2, n9, wp_iconst hd rfl w, hp⟩
theorem tn_bipush {n : Int} (hd : decode M.2.1 pc = .ok (.bipush n, 2)) (hr : -128 ≤ n ∧ n ≤ 127) (k : Tn d M (pc + 2) T σ L (.int (iI n) :: st) post) : Tn d M pc T σ L (st) post := fun P0 sz hs => by
  obtain ⟨r, T2, σ2, sz2, n9, w, hp⟩ := k P0 sz hs
  exact ⟨r, T2, σ2, sz2, n9, wp_bipush hd (iI_8 hr) w, hp⟩
theorem tn_sipush {n : Int} (hd : decode M.2.1 pc = .ok (.sipush n, 3)) (hr : -32768 ≤ n ∧ n ≤ 32767) (k : Tn d M (pc + 3) T σ L (.int (iI n) :: st) post) : Tn d M pc T σ L (st) post := fun P0 sz hs => by
  obtain ⟨r, T2, σ2, sz2, n9, w, hp⟩ := k P0 sz hs
  exact ⟨r, T2, σ2, sz2, n9, wp_sipush hd (iI_16 hr) w, hp⟩
theorem tn_ldc {ix : Nat} {n : Int} {v : Int32} (hd : decode M.2.1 pc = .ok (.ldc ix, 2)) (hw : Cond.constant M.1.cls ix v ∈ pWW) (hv : v = iI n) (k : Tn d M (pc + 2) T σ L (.int (iI n) :: st) post) : Tn d M pc T σ L (st) post := fun P0 sz hs => by
  obtain ⟨r, T2, σ2, sz2, n9, w, hp⟩ := k P0 sz hs
  exact ⟨r, T2, σ2, sz2, n9, wp_ldc hd hw (by rw [hv]; exact w), hp⟩
theorem tn_ldc2 {ix : Nat} {v : Int64} (hd : decode M.2.1 pc = .ok (.ldc2_w ix, 3)) (hw : Cond.constantLong M.1.cls ix v ∈ pWW) (k : Tn d M (pc + 3) T σ L (.long v :: st) post) : Tn d M pc T σ L (st) post := fun P0 sz hs => by
  obtain ⟨r, T2, σ2, sz2, n9, w, hp⟩ := k P0 sz hs
  exact ⟨r, T2, σ2, sz2, n9, wp_ldc2 hd hw w, hp⟩
theorem tn_lconst {n : Fin 2} {v : Int64} (hd : decode M.2.1 pc = .ok (.lconst n, 1)) (hv : Int64.ofNat (n : Nat) = v) (k : Tn d M (pc + 1) T σ L (.long v :: st) post) : Tn d M pc T σ L (st) post := fun P0 sz hs => by
  obtain ⟨r, T2, σ2, sz2, n9, w, hp⟩ := k P0 sz hs
  exact ⟨r, T2, σ2, sz2, n9, wp_lconst hd hv w, hp⟩
theorem tn_iload_n {kf : Fin 4} {i : Nat} {x : Int32} (hd : decode M.2.1 pc = .ok (.iload_n kf, 1)) (hi : (kf : Nat) = i) (q : Nat) (hq : L[q]? = some (i, .int x)) (k : Tn d M (pc + 1) T σ L (.int x :: st) post) : Tn d M pc T σ L (st) post := fun P0 sz hs => by
  obtain ⟨r, T2, σ2, sz2, n9, w, hp⟩ := k P0 sz hs
  exact ⟨r, T2, σ2, sz2, n9, wp_iload_n hd hi q hq w, hp⟩
theorem tn_iload {i : Nat} {x : Int32} (hd : decode M.2.1 pc = .ok (.iload i, 2)) (q : Nat) (hq : L[q]? = some (i, .int x)) (k : Tn d M (pc + 2) T σ L (.int x :: st) post) : Tn d M pc T σ L (st) post := fun P0 sz hs => by
  obtain ⟨r, T2, σ2, sz2, n9, w, hp⟩ := k P0 sz hs
  exact ⟨r, T2, σ2, sz2, n9, wp_iload hd q hq w, hp⟩
theorem tn_istore_n {kf : Fin 4} {i : Nat} {x : Int32} {L' : List (Nat × Value)} (hd : decode M.2.1 pc = .ok (.istore_n kf, 1)) (hi : (kf : Nat) = i) (hm : i < M.2.2.1) (hq : (i, Value.int x) :: L.filter (fun q => !(q.1 == i) && !(q.1 + 1 == i && q.2.category == 2)) = L') (k : Tn d M (pc + 1) T σ L' st post) : Tn d M pc T σ L (.int x :: st) post := fun P0 sz hs => by
  obtain ⟨r, T2, σ2, sz2, n9, w, hp⟩ := k P0 sz hs
  exact ⟨r, T2, σ2, sz2, n9, wp_istore_n hd hi hm hq w, hp⟩
theorem tn_istore {i : Nat} {x : Int32} {L' : List (Nat × Value)} (hd : decode M.2.1 pc = .ok (.istore i, 2)) (hm : i < M.2.2.1) (hq : (i, Value.int x) :: L.filter (fun q => !(q.1 == i) && !(q.1 + 1 == i && q.2.category == 2)) = L') (k : Tn d M (pc + 2) T σ L' st post) : Tn d M pc T σ L (.int x :: st) post := fun P0 sz hs => by
  obtain ⟨r, T2, σ2, sz2, n9, w, hp⟩ := k P0 sz hs
  exact ⟨r, T2, σ2, sz2, n9, wp_istore hd hm hq w, hp⟩
theorem tn_lload_n {kf : Fin 4} {i : Nat} {x : Int64} (hd : decode M.2.1 pc = .ok (.lload_n kf, 1)) (hi : (kf : Nat) = i) (q : Nat) (hq : L[q]? = some (i, .long x)) (k : Tn d M (pc + 1) T σ L (.long x :: st) post) : Tn d M pc T σ L (st) post := fun P0 sz hs => by
  obtain ⟨r, T2, σ2, sz2, n9, w, hp⟩ := k P0 sz hs
  exact ⟨r, T2, σ2, sz2, n9, wp_lload_n hd hi q hq w, hp⟩
theorem tn_lload {i : Nat} {x : Int64} (hd : decode M.2.1 pc = .ok (.lload i, 2)) (q : Nat) (hq : L[q]? = some (i, .long x)) (k : Tn d M (pc + 2) T σ L (.long x :: st) post) : Tn d M pc T σ L (st) post := fun P0 sz hs => by
  obtain ⟨r, T2, σ2, sz2, n9, w, hp⟩ := k P0 sz hs
  exact ⟨r, T2, σ2, sz2, n9, wp_lload hd q hq w, hp⟩
theorem tn_lstore {i : Nat} {x : Int64} {L' : List (Nat × Value)} (hd : decode M.2.1 pc = .ok (.lstore i, 2)) (hm : i + 1 < M.2.2.1) (hq : (i, Value.long x) :: L.filter (fun q => !(q.1 == i) && (!(q.1 == i + 1) && !(q.1 + 1 == i && q.2.category == 2))) = L') (k : Tn d M (pc + 2) T σ L' st post) : Tn d M pc T σ L (.long x :: st) post := fun P0 sz hs => by
  obtain ⟨r, T2, σ2, sz2, n9, w, hp⟩ := k P0 sz hs
  exact ⟨r, T2, σ2, sz2, n9, wp_lstore hd hm hq w, hp⟩
theorem tn_aload_n {kf : Fin 4} {i : Nat} {x : Nat} (hd : decode M.2.1 pc = .ok (.aload_n kf, 1)) (hi : (kf : Nat) = i) (q : Nat) (hq : L[q]? = some (i, .ref x)) (k : Tn d M (pc + 1) T σ L (.ref x :: st) post) : Tn d M pc T σ L (st) post := fun P0 sz hs => by
  obtain ⟨r, T2, σ2, sz2, n9, w, hp⟩ := k P0 sz hs
  exact ⟨r, T2, σ2, sz2, n9, wp_aload_n hd hi q hq w, hp⟩
theorem tn_aload {i : Nat} {x : Nat} (hd : decode M.2.1 pc = .ok (.aload i, 2)) (q : Nat) (hq : L[q]? = some (i, .ref x)) (k : Tn d M (pc + 2) T σ L (.ref x :: st) post) : Tn d M pc T σ L (st) post := fun P0 sz hs => by
  obtain ⟨r, T2, σ2, sz2, n9, w, hp⟩ := k P0 sz hs
  exact ⟨r, T2, σ2, sz2, n9, wp_aload hd q hq w, hp⟩
theorem tn_astore_n {kf : Fin 4} {i : Nat} {x : Nat} {L' : List (Nat × Value)} (hd : decode M.2.1 pc = .ok (.astore_n kf, 1)) (hi : (kf : Nat) = i) (hm : i < M.2.2.1) (hq : (i, Value.ref x) :: L.filter (fun q => !(q.1 == i) && !(q.1 + 1 == i && q.2.category == 2)) = L') (k : Tn d M (pc + 1) T σ L' st post) : Tn d M pc T σ L (.ref x :: st) post := fun P0 sz hs => by
  obtain ⟨r, T2, σ2, sz2, n9, w, hp⟩ := k P0 sz hs
  exact ⟨r, T2, σ2, sz2, n9, wp_astore_n hd hi hm hq w, hp⟩
theorem tn_astore {i : Nat} {x : Nat} {L' : List (Nat × Value)} (hd : decode M.2.1 pc = .ok (.astore i, 2)) (hm : i < M.2.2.1) (hq : (i, Value.ref x) :: L.filter (fun q => !(q.1 == i) && !(q.1 + 1 == i && q.2.category == 2)) = L') (k : Tn d M (pc + 2) T σ L' st post) : Tn d M pc T σ L (.ref x :: st) post := fun P0 sz hs => by
  obtain ⟨r, T2, σ2, sz2, n9, w, hp⟩ := k P0 sz hs
  exact ⟨r, T2, σ2, sz2, n9, wp_astore hd hm hq w, hp⟩
theorem tn_iinc {i q0 : Nat} {n z : Int} {L' : List (Nat × Value)} (hd : decode M.2.1 pc = .ok (.iinc i n, 3)) (hq0 : L[q0]? = some (i, .int (iI z))) (hm : i < M.2.2.1) (hq : (i, Value.int (iI (z + n))) :: L.filter (fun q => !(q.1 == i) && !(q.1 + 1 == i && q.2.category == 2)) = L') (k : Tn d M (pc + 3) T σ L' st post) : Tn d M pc T σ L st post := fun P0 sz hs => by
  obtain ⟨r, T2, σ2, sz2, n9, w, hp⟩ := k P0 sz hs
  exact ⟨r, T2, σ2, sz2, n9, wp_iinc hd hq0 (iI_add z n) hm hq w, hp⟩
theorem tn_iadd {x y : Int} (hd : decode M.2.1 pc = .ok (.iadd, 1)) (k : Tn d M (pc + 1) T σ L (.int (iI (x + y)) :: st) post) : Tn d M pc T σ L (.int (iI y) :: .int (iI x) :: st) post := fun P0 sz hs => by
  obtain ⟨r, T2, σ2, sz2, n9, w, hp⟩ := k P0 sz hs
  exact ⟨r, T2, σ2, sz2, n9, wp_iadd hd (by rw [iI_add]; exact w), hp⟩
theorem tn_isub {x y : Int} (hd : decode M.2.1 pc = .ok (.isub, 1)) (k : Tn d M (pc + 1) T σ L (.int (iI (x - y)) :: st) post) : Tn d M pc T σ L (.int (iI y) :: .int (iI x) :: st) post := fun P0 sz hs => by
  obtain ⟨r, T2, σ2, sz2, n9, w, hp⟩ := k P0 sz hs
  exact ⟨r, T2, σ2, sz2, n9, wp_isub hd (by rw [iI_sub]; exact w), hp⟩
theorem tn_imul {x y : Int} (hd : decode M.2.1 pc = .ok (.imul, 1)) (k : Tn d M (pc + 1) T σ L (.int (iI (x * y)) :: st) post) : Tn d M pc T σ L (.int (iI y) :: .int (iI x) :: st) post := fun P0 sz hs => by
  obtain ⟨r, T2, σ2, sz2, n9, w, hp⟩ := k P0 sz hs
  exact ⟨r, T2, σ2, sz2, n9, wp_imul hd (by rw [iI_mul]; exact w), hp⟩
theorem tn_iand {x y : Int32} (hd : decode M.2.1 pc = .ok (.iand, 1)) (k : Tn d M (pc + 1) T σ L (.int (x &&& y) :: st) post) : Tn d M pc T σ L (.int y :: .int x :: st) post := fun P0 sz hs => by
  obtain ⟨r, T2, σ2, sz2, n9, w, hp⟩ := k P0 sz hs
  exact ⟨r, T2, σ2, sz2, n9, wp_iand hd w, hp⟩
theorem tn_ior {x y : Int32} (hd : decode M.2.1 pc = .ok (.ior, 1)) (k : Tn d M (pc + 1) T σ L (.int (x ||| y) :: st) post) : Tn d M pc T σ L (.int y :: .int x :: st) post := fun P0 sz hs => by
  obtain ⟨r, T2, σ2, sz2, n9, w, hp⟩ := k P0 sz hs
  exact ⟨r, T2, σ2, sz2, n9, wp_ior hd w, hp⟩
theorem tn_ishr {x y : Int32} (hd : decode M.2.1 pc = .ok (.ishr, 1)) (k : Tn d M (pc + 1) T σ L (.int (x >>> (y &&& 31)) :: st) post) : Tn d M pc T σ L (.int y :: .int x :: st) post := fun P0 sz hs => by
  obtain ⟨r, T2, σ2, sz2, n9, w, hp⟩ := k P0 sz hs
  exact ⟨r, T2, σ2, sz2, n9, wp_ishr hd w, hp⟩
theorem tn_i2b {x : Int32} (hd : decode M.2.1 pc = .ok (.i2b, 1)) (k : Tn d M (pc + 1) T σ L (.int x.toInt8.toInt32 :: st) post) : Tn d M pc T σ L (.int x :: st) post := fun P0 sz hs => by
  obtain ⟨r, T2, σ2, sz2, n9, w, hp⟩ := k P0 sz hs
  exact ⟨r, T2, σ2, sz2, n9, wp_i2b hd rfl w, hp⟩
theorem tn_lor {x y : Int64} (hd : decode M.2.1 pc = .ok (.lor, 1)) (k : Tn d M (pc + 1) T σ L (.long (x ||| y) :: st) post) : Tn d M pc T σ L (.long y :: .long x :: st) post := fun P0 sz hs => by
  obtain ⟨r, T2, σ2, sz2, n9, w, hp⟩ := k P0 sz hs
  exact ⟨r, T2, σ2, sz2, n9, wp_lor hd w, hp⟩
theorem tn_lshl {x : Int64} {y : Int32} (hd : decode M.2.1 pc = .ok (.lshl, 1)) (k : Tn d M (pc + 1) T σ L (.long (x <<< (y.toInt64 &&& 63)) :: st) post) : Tn d M pc T σ L (.int y :: .long x :: st) post := fun P0 sz hs => by
  obtain ⟨r, T2, σ2, sz2, n9, w, hp⟩ := k P0 sz hs
  exact ⟨r, T2, σ2, sz2, n9, wp_lshl hd rfl w, hp⟩
theorem tn_dup {va : Value} (hd : decode M.2.1 pc = .ok (.dup, 1)) (hva : va.category = 1) (k : Tn d M (pc + 1) T σ L (va :: va :: st) post) : Tn d M pc T σ L (va :: st) post := fun P0 sz hs => by
  obtain ⟨r, T2, σ2, sz2, n9, w, hp⟩ := k P0 sz hs
  exact ⟨r, T2, σ2, sz2, n9, wp_dup hd hva w, hp⟩
theorem tn_pop {va : Value} (hd : decode M.2.1 pc = .ok (.pop, 1)) (hva : va.category = 1) (k : Tn d M (pc + 1) T σ L (st) post) : Tn d M pc T σ L (va :: st) post := fun P0 sz hs => by
  obtain ⟨r, T2, σ2, sz2, n9, w, hp⟩ := k P0 sz hs
  exact ⟨r, T2, σ2, sz2, n9, wp_pop hd hva w, hp⟩
theorem tn_goto {off : Int} {tgt : Nat} (hd : decode M.2.1 pc = .ok (.goto off, 3)) (ht : (pc : Int) + off = (tgt : Int)) (k : Tn d M (tgt) T σ L (st) post) : Tn d M pc T σ L (st) post := fun P0 sz hs => by
  obtain ⟨r, T2, σ2, sz2, n9, w, hp⟩ := k P0 sz hs
  exact ⟨r, T2, σ2, sz2, n9, wp_goto hd ht w, hp⟩
theorem tn_icmp_eq {x y : Int} {off : Int} {tgt : Nat} (hd : decode M.2.1 pc = .ok (.if_icmp .eq off, 3)) (ht : (pc : Int) + off = (tgt : Int)) (hx : inR x) (hy : inR y) (kt : x = y → Tn d M tgt T σ L st post) (kf : ¬ x = y → Tn d M (pc + 3) T σ L st post) : Tn d M pc T σ L (.int (iI y) :: .int (iI x) :: st) post := fun P0 sz hs => by
  by_cases hxy : x = y
  · obtain ⟨r, T2, σ2, sz2, n9, w, hp⟩ := kt hxy P0 sz hs
    exact ⟨r, T2, σ2, sz2, n9, wp_icmp_eq hd ht (fun _ => w) (fun hf => absurd (iI_c_eq hx hy hxy) (iI_d_eq hf)), hp⟩
  · obtain ⟨r, T2, σ2, sz2, n9, w, hp⟩ := kf (by omega) P0 sz hs
    exact ⟨r, T2, σ2, sz2, n9, wp_icmp_eq hd ht (fun hf => absurd hf (iI_n_eq hx hy hxy)) (fun _ => w), hp⟩
theorem tn_if_eq {x : Int} {off : Int} {tgt : Nat} (hd : decode M.2.1 pc = .ok (.ifCond .eq off, 3)) (ht : (pc : Int) + off = (tgt : Int)) (hx : inR x) (kt : x = 0 → Tn d M tgt T σ L st post) (kf : ¬ x = 0 → Tn d M (pc + 3) T σ L st post) : Tn d M pc T σ L (.int (iI x) :: st) post := fun P0 sz hs => by
  by_cases hxy : x = 0
  · obtain ⟨r, T2, σ2, sz2, n9, w, hp⟩ := kt hxy P0 sz hs
    exact ⟨r, T2, σ2, sz2, n9, wp_if_eq hd ht (fun _ => w) (fun hf => absurd (iI_c_eq hx inR_0 hxy) (iI_d_eq hf)), hp⟩
  · obtain ⟨r, T2, σ2, sz2, n9, w, hp⟩ := kf (by omega) P0 sz hs
    exact ⟨r, T2, σ2, sz2, n9, wp_if_eq hd ht (fun hf => absurd hf (iI_n_eq hx inR_0 hxy)) (fun _ => w), hp⟩
theorem tn_icmp_ne {x y : Int} {off : Int} {tgt : Nat} (hd : decode M.2.1 pc = .ok (.if_icmp .ne off, 3)) (ht : (pc : Int) + off = (tgt : Int)) (hx : inR x) (hy : inR y) (kt : ¬ x = y → Tn d M tgt T σ L st post) (kf : x = y → Tn d M (pc + 3) T σ L st post) : Tn d M pc T σ L (.int (iI y) :: .int (iI x) :: st) post := fun P0 sz hs => by
  by_cases hxy : ¬ x = y
  · obtain ⟨r, T2, σ2, sz2, n9, w, hp⟩ := kt hxy P0 sz hs
    exact ⟨r, T2, σ2, sz2, n9, wp_icmp_ne hd ht (fun _ => w) (fun hf => absurd (iI_c_ne hx hy hxy) (iI_d_ne hf)), hp⟩
  · obtain ⟨r, T2, σ2, sz2, n9, w, hp⟩ := kf (by omega) P0 sz hs
    exact ⟨r, T2, σ2, sz2, n9, wp_icmp_ne hd ht (fun hf => absurd hf (iI_n_ne hx hy hxy)) (fun _ => w), hp⟩
theorem tn_if_ne {x : Int} {off : Int} {tgt : Nat} (hd : decode M.2.1 pc = .ok (.ifCond .ne off, 3)) (ht : (pc : Int) + off = (tgt : Int)) (hx : inR x) (kt : ¬ x = 0 → Tn d M tgt T σ L st post) (kf : x = 0 → Tn d M (pc + 3) T σ L st post) : Tn d M pc T σ L (.int (iI x) :: st) post := fun P0 sz hs => by
  by_cases hxy : ¬ x = 0
  · obtain ⟨r, T2, σ2, sz2, n9, w, hp⟩ := kt hxy P0 sz hs
    exact ⟨r, T2, σ2, sz2, n9, wp_if_ne hd ht (fun _ => w) (fun hf => absurd (iI_c_ne hx inR_0 hxy) (iI_d_ne hf)), hp⟩
  · obtain ⟨r, T2, σ2, sz2, n9, w, hp⟩ := kf (by omega) P0 sz hs
    exact ⟨r, T2, σ2, sz2, n9, wp_if_ne hd ht (fun hf => absurd hf (iI_n_ne hx inR_0 hxy)) (fun _ => w), hp⟩
theorem tn_icmp_lt {x y : Int} {off : Int} {tgt : Nat} (hd : decode M.2.1 pc = .ok (.if_icmp .lt off, 3)) (ht : (pc : Int) + off = (tgt : Int)) (hx : inR x) (hy : inR y) (kt : x < y → Tn d M tgt T σ L st post) (kf : y ≤ x → Tn d M (pc + 3) T σ L st post) : Tn d M pc T σ L (.int (iI y) :: .int (iI x) :: st) post := fun P0 sz hs => by
  by_cases hxy : x < y
  · obtain ⟨r, T2, σ2, sz2, n9, w, hp⟩ := kt hxy P0 sz hs
    exact ⟨r, T2, σ2, sz2, n9, wp_icmp_lt hd ht (fun _ => w) (fun hf => absurd (iI_c_lt hx hy hxy) (iI_d_lt hf)), hp⟩
  · obtain ⟨r, T2, σ2, sz2, n9, w, hp⟩ := kf (by omega) P0 sz hs
    exact ⟨r, T2, σ2, sz2, n9, wp_icmp_lt hd ht (fun hf => absurd hf (iI_n_lt hx hy hxy)) (fun _ => w), hp⟩
theorem tn_if_lt {x : Int} {off : Int} {tgt : Nat} (hd : decode M.2.1 pc = .ok (.ifCond .lt off, 3)) (ht : (pc : Int) + off = (tgt : Int)) (hx : inR x) (kt : x < 0 → Tn d M tgt T σ L st post) (kf : 0 ≤ x → Tn d M (pc + 3) T σ L st post) : Tn d M pc T σ L (.int (iI x) :: st) post := fun P0 sz hs => by
  by_cases hxy : x < 0
  · obtain ⟨r, T2, σ2, sz2, n9, w, hp⟩ := kt hxy P0 sz hs
    exact ⟨r, T2, σ2, sz2, n9, wp_if_lt hd ht (fun _ => w) (fun hf => absurd (iI_c_lt hx inR_0 hxy) (iI_d_lt hf)), hp⟩
  · obtain ⟨r, T2, σ2, sz2, n9, w, hp⟩ := kf (by omega) P0 sz hs
    exact ⟨r, T2, σ2, sz2, n9, wp_if_lt hd ht (fun hf => absurd hf (iI_n_lt hx inR_0 hxy)) (fun _ => w), hp⟩
theorem tn_icmp_ge {x y : Int} {off : Int} {tgt : Nat} (hd : decode M.2.1 pc = .ok (.if_icmp .ge off, 3)) (ht : (pc : Int) + off = (tgt : Int)) (hx : inR x) (hy : inR y) (kt : y ≤ x → Tn d M tgt T σ L st post) (kf : x < y → Tn d M (pc + 3) T σ L st post) : Tn d M pc T σ L (.int (iI y) :: .int (iI x) :: st) post := fun P0 sz hs => by
  by_cases hxy : y ≤ x
  · obtain ⟨r, T2, σ2, sz2, n9, w, hp⟩ := kt hxy P0 sz hs
    exact ⟨r, T2, σ2, sz2, n9, wp_icmp_ge hd ht (fun _ => w) (fun hf => absurd (iI_c_ge hx hy hxy) (iI_d_ge hf)), hp⟩
  · obtain ⟨r, T2, σ2, sz2, n9, w, hp⟩ := kf (by omega) P0 sz hs
    exact ⟨r, T2, σ2, sz2, n9, wp_icmp_ge hd ht (fun hf => absurd hf (iI_n_ge hx hy hxy)) (fun _ => w), hp⟩
theorem tn_if_ge {x : Int} {off : Int} {tgt : Nat} (hd : decode M.2.1 pc = .ok (.ifCond .ge off, 3)) (ht : (pc : Int) + off = (tgt : Int)) (hx : inR x) (kt : 0 ≤ x → Tn d M tgt T σ L st post) (kf : x < 0 → Tn d M (pc + 3) T σ L st post) : Tn d M pc T σ L (.int (iI x) :: st) post := fun P0 sz hs => by
  by_cases hxy : 0 ≤ x
  · obtain ⟨r, T2, σ2, sz2, n9, w, hp⟩ := kt hxy P0 sz hs
    exact ⟨r, T2, σ2, sz2, n9, wp_if_ge hd ht (fun _ => w) (fun hf => absurd (iI_c_ge hx inR_0 hxy) (iI_d_ge hf)), hp⟩
  · obtain ⟨r, T2, σ2, sz2, n9, w, hp⟩ := kf (by omega) P0 sz hs
    exact ⟨r, T2, σ2, sz2, n9, wp_if_ge hd ht (fun hf => absurd hf (iI_n_ge hx inR_0 hxy)) (fun _ => w), hp⟩
theorem tn_icmp_gt {x y : Int} {off : Int} {tgt : Nat} (hd : decode M.2.1 pc = .ok (.if_icmp .gt off, 3)) (ht : (pc : Int) + off = (tgt : Int)) (hx : inR x) (hy : inR y) (kt : y < x → Tn d M tgt T σ L st post) (kf : x ≤ y → Tn d M (pc + 3) T σ L st post) : Tn d M pc T σ L (.int (iI y) :: .int (iI x) :: st) post := fun P0 sz hs => by
  by_cases hxy : y < x
  · obtain ⟨r, T2, σ2, sz2, n9, w, hp⟩ := kt hxy P0 sz hs
    exact ⟨r, T2, σ2, sz2, n9, wp_icmp_gt hd ht (fun _ => w) (fun hf => absurd (iI_c_gt hx hy hxy) (iI_d_gt hf)), hp⟩
  · obtain ⟨r, T2, σ2, sz2, n9, w, hp⟩ := kf (by omega) P0 sz hs
    exact ⟨r, T2, σ2, sz2, n9, wp_icmp_gt hd ht (fun hf => absurd hf (iI_n_gt hx hy hxy)) (fun _ => w), hp⟩
theorem tn_icmp_le {x y : Int} {off : Int} {tgt : Nat} (hd : decode M.2.1 pc = .ok (.if_icmp .le off, 3)) (ht : (pc : Int) + off = (tgt : Int)) (hx : inR x) (hy : inR y) (kt : x ≤ y → Tn d M tgt T σ L st post) (kf : y < x → Tn d M (pc + 3) T σ L st post) : Tn d M pc T σ L (.int (iI y) :: .int (iI x) :: st) post := fun P0 sz hs => by
  by_cases hxy : x ≤ y
  · obtain ⟨r, T2, σ2, sz2, n9, w, hp⟩ := kt hxy P0 sz hs
    exact ⟨r, T2, σ2, sz2, n9, wp_icmp_le hd ht (fun _ => w) (fun hf => absurd (iI_c_le hx hy hxy) (iI_d_le hf)), hp⟩
  · obtain ⟨r, T2, σ2, sz2, n9, w, hp⟩ := kf (by omega) P0 sz hs
    exact ⟨r, T2, σ2, sz2, n9, wp_icmp_le hd ht (fun hf => absurd hf (iI_n_le hx hy hxy)) (fun _ => w), hp⟩
theorem tn_if_le {x : Int} {off : Int} {tgt : Nat} (hd : decode M.2.1 pc = .ok (.ifCond .le off, 3)) (ht : (pc : Int) + off = (tgt : Int)) (hx : inR x) (kt : x ≤ 0 → Tn d M tgt T σ L st post) (kf : 0 < x → Tn d M (pc + 3) T σ L st post) : Tn d M pc T σ L (.int (iI x) :: st) post := fun P0 sz hs => by
  by_cases hxy : x ≤ 0
  · obtain ⟨r, T2, σ2, sz2, n9, w, hp⟩ := kt hxy P0 sz hs
    exact ⟨r, T2, σ2, sz2, n9, wp_if_le hd ht (fun _ => w) (fun hf => absurd (iI_c_le hx inR_0 hxy) (iI_d_le hf)), hp⟩
  · obtain ⟨r, T2, σ2, sz2, n9, w, hp⟩ := kf (by omega) P0 sz hs
    exact ⟨r, T2, σ2, sz2, n9, wp_if_le hd ht (fun hf => absurd hf (iI_n_le hx inR_0 hxy)) (fun _ => w), hp⟩
theorem tn_land {x y : Int64} (hd : decode M.2.1 pc = .ok (.land, 1)) (k : Tn d M (pc + 1) T σ L (.long (x &&& y) :: st) post) : Tn d M pc T σ L (.long y :: .long x :: st) post := fun P0 sz hs => by
  obtain ⟨r, T2, σ2, sz2, n9, w, hp⟩ := k P0 sz hs
  exact ⟨r, T2, σ2, sz2, n9, wp_land hd w, hp⟩
theorem tn_lxor {x y : Int64} (hd : decode M.2.1 pc = .ok (.lxor, 1)) (k : Tn d M (pc + 1) T σ L (.long (x ^^^ y) :: st) post) : Tn d M pc T σ L (.long y :: .long x :: st) post := fun P0 sz hs => by
  obtain ⟨r, T2, σ2, sz2, n9, w, hp⟩ := k P0 sz hs
  exact ⟨r, T2, σ2, sz2, n9, wp_lxor hd w, hp⟩
theorem tn_lushr {x : Int64} {y : Int32} (hd : decode M.2.1 pc = .ok (.lushr, 1)) (k : Tn d M (pc + 1) T σ L (.long ((x.toUInt64 >>> (y.toInt64.toUInt64 &&& Int64.toUInt64 63)).toInt64) :: st) post) : Tn d M pc T σ L (.int y :: .long x :: st) post := fun P0 sz hs => by
  obtain ⟨r, T2, σ2, sz2, n9, w, hp⟩ := k P0 sz hs
  exact ⟨r, T2, σ2, sz2, n9, wp_lushr hd rfl w, hp⟩
theorem tn_iushr {x y : Int32} (hd : decode M.2.1 pc = .ok (.iushr, 1)) (k : Tn d M (pc + 1) T σ L (.int ((x.toUInt32 >>> (y.toUInt32 &&& Int32.toUInt32 31)).toInt32) :: st) post) : Tn d M pc T σ L (.int y :: .int x :: st) post := fun P0 sz hs => by
  obtain ⟨r, T2, σ2, sz2, n9, w, hp⟩ := k P0 sz hs
  exact ⟨r, T2, σ2, sz2, n9, wp_iushr hd rfl w, hp⟩
theorem tn_ishl {x y : Int32} (hd : decode M.2.1 pc = .ok (.ishl, 1)) (k : Tn d M (pc + 1) T σ L (.int (x <<< (y &&& 31)) :: st) post) : Tn d M pc T σ L (.int y :: .int x :: st) post := fun P0 sz hs => by
  obtain ⟨r, T2, σ2, sz2, n9, w, hp⟩ := k P0 sz hs
  exact ⟨r, T2, σ2, sz2, n9, wp_ishl hd w, hp⟩
theorem tn_null  (hd : decode M.2.1 pc = .ok (.aconst_null, 1)) (k : Tn d M (pc + 1) T σ L (.null :: st) post) : Tn d M pc T σ L (st) post := fun P0 sz hs => by
  obtain ⟨r, T2, σ2, sz2, n9, w, hp⟩ := k P0 sz hs
  exact ⟨r, T2, σ2, sz2, n9, wp_null hd w, hp⟩
theorem tn_lcmpX {x y : Int64} (hd : decode M.2.1 pc = .ok (.lcmp, 1)) (k : Tn d M (pc + 1) T σ L (.int (lg_cmp x y) :: st) post) : Tn d M pc T σ L (.long y :: .long x :: st) post := fun P0 sz hs => by
  obtain ⟨r, T2, σ2, sz2, n9, w, hp⟩ := k P0 sz hs
  exact ⟨r, T2, σ2, sz2, n9, wp_lcmp hd w, hp⟩
theorem tn_idivX {x y : Int32} (hd : decode M.2.1 pc = .ok (.idiv, 1)) (hne : ¬ y = 0) (k : Tn d M (pc + 1) T σ L (.int (x / y) :: st) post) : Tn d M pc T σ L (.int y :: .int x :: st) post := fun P0 sz hs => by
  obtain ⟨r, T2, σ2, sz2, n9, w, hp⟩ := k P0 sz hs
  exact ⟨r, T2, σ2, sz2, n9, wp_idiv hd hne w, hp⟩
theorem tn_aload_nN {kf : Fin 4} {i : Nat} (hd : decode M.2.1 pc = .ok (.aload_n kf, 1)) (hi : (kf : Nat) = i) (q : Nat) (hq : L[q]? = some (i, .null)) (k : Tn d M (pc + 1) T σ L (.null :: st) post) : Tn d M pc T σ L (st) post := fun P0 sz hs => by
  obtain ⟨r, T2, σ2, sz2, n9, w, hp⟩ := k P0 sz hs
  exact ⟨r, T2, σ2, sz2, n9, wp_aload_nN hd hi q hq w, hp⟩
theorem tn_astore_nN {kf : Fin 4} {i : Nat} {L' : List (Nat × Value)} (hd : decode M.2.1 pc = .ok (.astore_n kf, 1)) (hi : (kf : Nat) = i) (hm : i < M.2.2.1) (hq : (i, Value.null) :: L.filter (fun q => !(q.1 == i) && !(q.1 + 1 == i && q.2.category == 2)) = L') (k : Tn d M (pc + 1) T σ L' st post) : Tn d M pc T σ L (.null :: st) post := fun P0 sz hs => by
  obtain ⟨r, T2, σ2, sz2, n9, w, hp⟩ := k P0 sz hs
  exact ⟨r, T2, σ2, sz2, n9, wp_astore_nN hd hi hm hq w, hp⟩
theorem tn_aloadN {i : Nat} (hd : decode M.2.1 pc = .ok (.aload i, 2)) (q : Nat) (hq : L[q]? = some (i, .null)) (k : Tn d M (pc + 2) T σ L (.null :: st) post) : Tn d M pc T σ L (st) post := fun P0 sz hs => by
  obtain ⟨r, T2, σ2, sz2, n9, w, hp⟩ := k P0 sz hs
  exact ⟨r, T2, σ2, sz2, n9, wp_aloadN hd q hq w, hp⟩
theorem tn_astoreN {i : Nat} {L' : List (Nat × Value)} (hd : decode M.2.1 pc = .ok (.astore i, 2)) (hm : i < M.2.2.1) (hq : (i, Value.null) :: L.filter (fun q => !(q.1 == i) && !(q.1 + 1 == i && q.2.category == 2)) = L') (k : Tn d M (pc + 2) T σ L' st post) : Tn d M pc T σ L (.null :: st) post := fun P0 sz hs => by
  obtain ⟨r, T2, σ2, sz2, n9, w, hp⟩ := k P0 sz hs
  exact ⟨r, T2, σ2, sz2, n9, wp_astoreN hd hm hq w, hp⟩
end TNR
end
section
def iw (z : Int) : Int := (iI z).toInt
theorem iw_eq (z : Int) : iI (iw z) = iI z := iI_self _
theorem iw_rng (z : Int) : -2147483648 ≤ iw z ∧ iw z ≤ 2147483647 := inR_toInt _
section WPX
variable {d : Nat} {M : MT} {pc : Nat} {P : PH} {sz : Nat} {L : List (Nat × Value)} {st : List Value} {o : Option Value × PH × Nat × Nat} {a : Nat}
theorem wp_aaldM {n : Nat} {f : Nat → Option Nat} {i : Int32} (hd : decode M.2.1 pc = .ok (.aaload, 1)) (hP : P a = some (.inl (6, n, .inr (.inr (.inr (.inr f)))))) (hin : vp_in i n) (kk : Wp d M (pc + 1) P sz L (va_rf (f i.toNatClampNeg) :: st) o) : Wp d M pc P sz L (.int i :: .ref a :: st) o := by
  intro l D bs p e R s m args below meth c H locs cells slots ls C hW hz hS hl hc hn
  obtain ⟨-, cA, h1, h2⟩ := hW a _ hP
  have hlt : i.toNatClampNeg < n := Nat.not_le.mp fun q => hin (Or.inr q)
  exact W.aald (v := va_rf (f i.toNatClampNeg)) (ty := .array .int) C.1 C.2.1 h2 (h1.1 n (fun j => va_rf (f j))) rfl (fun q => by cases q) (by show ¬ (i < 0 ∨ (arrV _ _ _).slots.size ≤ _); rw [arrV_size]; exact hin) (by show (arrV _ _ _).slots[_]? = _; rw [arrV_read _ _ hlt]) rfl rfl hd (kk l D bs p e R s m args below meth c H locs cells slots ls C hW hz hS hl hc hn)
theorem aast_same {n i v : Nat} {f : Nat → Option Nat} {cA : ClassId} : (arrV cA n (fun j => va_rf (f j))).setSlot i (.ref v) = arrV cA n (fun j => va_rf (va_up f i (some v) j)) := by
  rw [arrV_store]
  congr 1
  funext q
  by_cases hq : q = i
  · subst hq
    simp [updV, va_up, va_rf]
  · simp [updV, va_up, hq]
theorem wp_aastQ {n v : Nat} {f : Nat → Option Nat} {fs : List Value} {i : Int32} (hd : decode M.2.1 pc = .ok (.aastore, 1)) (hP : P a = some (.inl (5, n, .inr (.inr (.inr (.inr f)))))) (hv : P v = some (.inr (1, fs))) (hin : vp_in i n) (kk : Wp d M (pc + 1) (pS P a (.inl (5, n, .inr (.inr (.inr (.inr (va_up f i.toNatClampNeg (some v)))))))) sz L st o) : Wp d M pc P sz L (.ref v :: .int i :: .ref a :: st) o := by
  intro l D bs p e R s m args below meth c H locs cells slots ls C hW hz hS hl hc hn
  obtain ⟨hba, cA, h1, h2⟩ := hW a _ hP
  obtain ⟨-, ⟨r1, hr1, cell, q1, q2, q3, -⟩, r3, h3, h5⟩ := hW v _ hv
  have hlt : i.toNatClampNeg < n := Nat.not_le.mp fun q => hin (Or.inr q)
  have h0 : ¬ i < 0 := fun q => hin (Or.inl q)
  obtain ⟨-, hcls⟩ := (pC_K C).1 1 r1 hr1
  have hnm : r1.1 = "LineKeeper$Code" := by
    have e : r1 = (RX1, TX1, 12) := Option.some.inj (hr1.symm.trans rfl)
    rw [e]; rfl
  rw [hnm] at hcls
  obtain ⟨kA, comp, k1, k2, k3, -⟩ := h1.2
  have hcomp : comp = D.1 1 := Option.some.inj (k3.symm.trans hcls.1)
  subst hcomp
  have has := va_assign hcls
  obtain ⟨kC, hkC, -⟩ := hcls.2
  refine W.aast C.1 C.2.1 h2 (fun q h => by cases h) (fun h => by cases h) k1 k2 rfl hkC ⟨h0, by show _ < (arrV _ _ _).slots.size; rw [arrV_size]; exact hlt⟩ q1 (fun q h => by rw [q3] at h; cases h) (by rw [q2]; exact hkC) (by rw [q2]; exact has) rfl rfl hd fun H1 e1 z oq => ?_
  exact kk l D bs p e R s m args below meth c H1 _ cells slots ls C (hW.put hba ⟨cA, h1, by rw [e1]; exact congrArg some aast_same⟩ oq) (z.trans hz) (hS.put z oq hba) hl hc hn
theorem wp_aastM {n v m1 t : Nat} {f : Nat → Option Nat} {g : Nat → Int32} {i : Int32} (hd : decode M.2.1 pc = .ok (.aastore, 1)) (hP : P a = some (.inl (6, n, .inr (.inr (.inr (.inr f)))))) (hv : P v = some (.inl (0, m1, .inl g))) (hin : vp_in i n) (kk : Wp d M (pc + 1) (pS P a (.inl (6, n, .inr (.inr (.inr (.inr (va_up f i.toNatClampNeg (some v)))))))) sz L st o) : Wp d M pc P sz L (.ref v :: .int i :: .ref a :: st) o := by
  intro l D bs p e R s m args below meth c H locs cells slots ls C hW hz hS hl hc hn
  obtain ⟨hba, cA, h1, h2⟩ := hW a _ hP
  obtain ⟨-, cB, h3, h4⟩ := hW v _ hv
  have hlt : i.toNatClampNeg < n := Nat.not_le.mp fun q => hin (Or.inr q)
  have h0 : ¬ i < 0 := fun q => hin (Or.inl q)
  obtain ⟨comp, c2, k, g1, -, g3, g4, g5⟩ := arrayOverA_spec (pC_G C).1.2.2
  have e1 : c2 = cA := Option.some.inj (g5.symm.trans h1.2)
  have e2 : comp = cB := Option.some.inj (g1.symm.trans h3.2)
  subst e1
  subst e2
  obtain ⟨-, kB, hkB, -⟩ := h3.1 0 (fun _ => .null)
  refine W.aast C.1 C.2.1 h2 (fun q h => by cases h) (fun h => by cases h) g3 g4 rfl hkB ⟨h0, by show _ < (arrV _ _ _).slots.size; rw [arrV_size]; exact hlt⟩ h4 (fun q h => by cases h) hkB (by show Vm.assignableAux s.vm (255 + 1) comp comp = true; rw [Vm.assignableAux, beq_self_eq_true, Bool.true_or]) rfl rfl hd fun H1 e1 z oq => ?_
  exact kk l D bs p e R s m args below meth c H1 _ cells slots ls C (hW.put hba ⟨c2, h1, by rw [e1]; exact congrArg some aast_same⟩ oq) (z.trans hz) (hS.put z oq hba) hl hc hn
theorem rf_none (cA : ClassId) (n : Nat) : ({ cls := cA, slots := Array.replicate n .null, vm := .none } : Cell) = vp_cell cA (n, .inr (.inr (.inr (.inr (fun _ => none))))) := by
  rw [vp_cell_q]
  show _ = arrV cA n (fun _ => .null)
  unfold arrV
  congr 1
  apply Array.ext
  · simp
  · intro i h1 h2
    simp
theorem wp_anewQ {ix N : Nat} {n : Int32} (hd : decode M.2.1 pc = .ok (.anewarray ix, 3)) (hw : Cond.classLink M.1.cls ix "LineKeeper$Code" ∈ pWW) (hneg : ¬ n < 0) (hN : n.toNatClampNeg = N) (hb9 : N ≤ 1000) {o1 : Option Value} {P1 : PH} {s1 n1 : Nat} (hm : sz + 1 ≤ s1) (kk : Wp d M (pc + 3) (pS P sz (.inl (5, N, .inr (.inr (.inr (.inr (fun _ => none))))))) (sz + 1) L (.ref sz :: st) (o1, P1, s1, n1)) : Wp d M pc P sz L (.int n :: st) (o1, P1, s1, N + n1) := by
  intro l D bs p e R s m args below meth c H locs cells slots ls C hW hz hS hl hc hn
  dsimp only at hc hn
  subst hz
  subst hN
  refine W.anew (C := "LineKeeper$Code") C.1 C.2.1 (pC_own C) (pC_word C hw) (va_AO.use (pC_G C).1.2.1) rfl hd rfl hneg (by omega) (by omega) (by omega) fun cA kA comp f1 f2 f3 f4 => ?_
  rw [rf_none]
  generalize hH1 : H.push (vp_cell cA (n.toNatClampNeg, .inr (.inr (.inr (.inr (fun _ => none)))))) = H1
  have z1 : H1.size = H.size + 1 := by rw [← hH1, Array.size_push]
  have o1 : ∀ q : Nat, q < H.size → H1[q]? = H[q]? := fun q hq => by rw [← hH1, Array.getElem?_push, if_neg (Nat.ne_of_lt hq)]
  exact kk l D bs p e R s m args below meth c H1 locs (cells + 1) (slots + n.toNatClampNeg) ls C (hW.push (Nat.le_trans (pC_G C).2.1 hS.1) ⟨cA, ⟨fun n2 z2 => ⟨(fun q h => by cases h), kA, f2, comp, f3⟩, kA, comp, f2, f3, f4, f1⟩, by rw [← hH1]; simp⟩ o1) z1 ⟨Nat.le_trans hS.1 (by omega), fun x h1 h2 => (o1 x (Nat.lt_of_lt_of_le h1 hS.1)).trans (hS.2.1 x h1 h2), hS.2.2⟩ hl (by dsimp only; omega) (by dsimp only; omega)
theorem wp_anewM {ix N : Nat} {n : Int32} (hd : decode M.2.1 pc = .ok (.anewarray ix, 3)) (hw : Cond.classLink M.1.cls ix "[I" ∈ pWW) (hneg : ¬ n < 0) (hN : n.toNatClampNeg = N) (hb9 : N ≤ 1000) {o1 : Option Value} {P1 : PH} {s1 n1 : Nat} (hm : sz + 1 ≤ s1) (kk : Wp d M (pc + 3) (pS P sz (.inl (6, N, .inr (.inr (.inr (.inr (fun _ => none))))))) (sz + 1) L (.ref sz :: st) (o1, P1, s1, n1)) : Wp d M pc P sz L (.int n :: st) (o1, P1, s1, N + n1) := by
  intro l D bs p e R s m args below meth c H locs cells slots ls C hW hz hS hl hc hn
  dsimp only at hc hn
  subst hz
  subst hN
  refine W.anewA (t := .int) C.1 C.2.1 (pC_own C) (pC_word C hw) (pC_G C).1.2.2 rfl hd rfl hneg (by omega) (by omega) (by omega) fun cA kA comp f1 f2 f3 f4 => ?_
  rw [rf_none]
  generalize hH1 : H.push (vp_cell cA (n.toNatClampNeg, .inr (.inr (.inr (.inr (fun _ => none)))))) = H1
  have z1 : H1.size = H.size + 1 := by rw [← hH1, Array.size_push]
  have o1 : ∀ q : Nat, q < H.size → H1[q]? = H[q]? := fun q hq => by rw [← hH1, Array.getElem?_push, if_neg (Nat.ne_of_lt hq)]
  exact kk l D bs p e R s m args below meth c H1 locs (cells + 1) (slots + n.toNatClampNeg) ls C (hW.push (Nat.le_trans (pC_G C).2.1 hS.1) ⟨cA, ⟨fun n2 z2 => ⟨(fun q h => by cases h), kA, f2, comp, f3⟩, f1⟩, by rw [← hH1]; simp⟩ o1) z1 ⟨Nat.le_trans hS.1 (by omega), fun x h1 h2 => (o1 x (Nat.lt_of_lt_of_le h1 hS.1)).trans (hS.2.1 x h1 h2), hS.2.2⟩ hl (by dsimp only; omega) (by dsimp only; omega)
theorem nfw_ac : nativeFrameWords "java/lang/System" "arraycopy" 5 = 7 := by decide +kernel
theorem wp_acopy {ix n0 n1 a0 ty : Nat} {A0 A1 A2 : vp_A} {sp dp n : Int32} (hd : decode M.2.1 pc = .ok (.invokestatic ix, 3)) (hw : Cond.methodLink M.1.cls ix arraycopyName ∈ pWW) (hw2 : Cond.native arraycopyName ∈ pWW) (hw3 : Cond.static arraycopyName ∈ pWW) (hw4 : Cond.initialized "java/lang/System" ∈ pWW)
    (hP0 : P a0 = some (.inl (ty, A0))) (hP1 : P a = some (.inl (ty, A1))) (hpr : refKind (pTy ty) = false) (z0 : ∀ c, (vp_cell c A0).slots.size = n0) (z1 : ∀ c, (vp_cell c A1).slots.size = n1) (hv0 : ∀ c c', (vp_cell c A0).vm = (vp_cell c' A1).vm ∧ (vp_cell c A0).vm = .none ∧ (vp_cell c A0).cls = c ∧ (vp_cell c' A1).cls = c')
    (hfit : ∀ c i, i < n0 → fits (pTy ty) ((vp_cell c A0).slots.getD i .null) = true ∧ ∀ q, (vp_cell c A0).slots.getD i .null ≠ .ref q) (hcp : ∀ c c', copied (vp_cell c A0) (vp_cell c' A1) sp dp n = vp_cell c' A2)
    (h1 : ¬ sp < 0) (h2 : ¬ dp < 0) (h3 : ¬ n < 0) (h4 : sp.toInt + n.toInt ≤ n0) (h5 : dp.toInt + n.toInt ≤ n1) (hd1 : 0 < d) (hcat : (st.map fun v => v.category).sum ≤ 8) (kk : Wp d M (pc + 3) (pS P a (.inl (ty, A2))) sz L st o) : Wp d M pc P sz L (.int n :: .int dp :: .ref a :: .int sp :: .ref a0 :: st) o := by
  intro l D bs p e R s m args below meth c H locs cells slots ls C hW hz hS hl hc hn
  obtain ⟨-, c0, t0, g0⟩ := hW a0 _ hP0
  obtain ⟨hba, c1, t1, g1⟩ := hW a _ hP1
  obtain ⟨-, k0, hk0, cm0, hkk0⟩ := t0.1 0 (fun _ => .null)
  obtain ⟨-, k1, hk1, cm1, hkk1⟩ := t1.1 0 (fun _ => .null)
  have nn : ∀ z : Int32, ¬ z < 0 → z.toInt = (z.toNatClampNeg : Int) := fun z hz9 => by
    have q : (0 : Int) ≤ z.toInt := by
      have := Int32.le_iff_toInt_le.mp (Int32.not_lt.mp hz9)
      simpa using this
    show z.toInt = ((z.toInt.toNat : Nat) : Int)
    omega
  intro T hT X
  obtain ⟨e1, e2, e3, e4⟩ := hv0 c0 c1
  have e5 : (vp_cell c1 A1).vm = .none := by rw [← e1]; exact e2
  obtain ⟨vm', X', step⟩ := X.arraycopy C.1 (pC_own C) (pC_word C hw) (pC_word C hw2) (pC_word C hw3) (pC_word C hw4) (src := a0) (dst := a) (srcPos := sp) (destPos := dp) (n := n) (by rw [hT]; exact g0) (by rw [hT]; exact g1) (fun k h => by rw [e2] at h; cases h) (fun k h => by rw [e5] at h; cases h) (fun h => by rw [e2] at h; cases h) (fun h => by rw [e5] at h; cases h) (by rw [e3]; exact hk0) (by rw [e4]; exact hk1) hkk0 hkk1 (by simp [hpr]) h1 h2 h3 (by rw [z0]; omega) (by rw [z1]; omega)
    (fun vm9 _ i hi => by
      have hj : sp.toNatClampNeg + i < n0 := by rw [nn sp h1, nn n h3] at h4; omega
      obtain ⟨f1, f2⟩ := hfit c0 _ hj
      refine ⟨f1, ?_⟩
      cases hq : (vp_cell c0 A0).slots.getD (sp.toNatClampNeg + i) .null with
      | ref q => exact absurd hq (f2 q)
      | _ => exact trivial)
    (g := F0 m pc ls (.int n :: .int dp :: .ref a :: .int sp :: .ref a0 :: st)) rfl (by rw [C.2.2.1]; exact hl.1) (rest := st) rfl (by rw [C.2.1]; exact hd) (by rw [(pC_R C).1]; exact hd1) (by rw [(pC_R C).2]; show 2 * 0 + _ + (nativeFrameWords "java/lang/System" "arraycopy" 5 + 11) ≤ _; rw [nfw_ac]; omega)
  rw [hcp c0 c1] at X' step
  have hl9 : a < H.size := (Array.getElem?_eq_some_iff.mp g1).1
  have hh : ((T.setVm vm').setCell a (vp_cell c1 A2)).heap = H.setIfInBounds a (vp_cell c1 A2) := by rw [← hT]; rfl
  have oq : ∀ q : Nat, q ≠ a → (H.setIfInBounds a (vp_cell c1 A2))[q]? = H[q]? := fun q hq => by simp [Array.getElem?_setIfInBounds, Ne.symm hq]
  have hself : (H.setIfInBounds a (vp_cell c1 A2))[a]? = some (vp_cell c1 A2) := by simp [Array.getElem?_setIfInBounds, hl9]
  have hsz9 : (H.setIfInBounds a (vp_cell c1 A2)).size = H.size := by simp
  obtain ⟨t, a1, b1⟩ := kk l D bs p e R s m args below meth c _ _ cells slots ls C (hW.put hba ⟨c1, t1, hself⟩ oq) (hsz9.trans hz) ⟨by rw [hsz9]; exact hS.1, fun q g1 g2 => by
      rw [oq q (fun e => g2 (by rw [e]; exact hba))]
      exact hS.2.1 q g1 g2, fun q hq => by
      rcases List.mem_append.mp hq with h | h
      · exact hS.2.2 q h
      · obtain ⟨z, -, hz9⟩ := List.mem_map.mp h
        rw [← hz9]
        exact hba⟩ hl hc hn _ hh X'
  exact ⟨t, step t a1, b1⟩
theorem wp_acopyI {ix n0 n1 a0 : Nat} {f g : Nat → Int32} {sp dp n : Int32} (hd : decode M.2.1 pc = .ok (.invokestatic ix, 3)) (hw : Cond.methodLink M.1.cls ix arraycopyName ∈ pWW) (hw2 : Cond.native arraycopyName ∈ pWW) (hw3 : Cond.static arraycopyName ∈ pWW) (hw4 : Cond.initialized "java/lang/System" ∈ pWW) (hP0 : P a0 = some (.inl (0, n0, .inl f))) (hP1 : P a = some (.inl (0, n1, .inl g))) (h1 : ¬ sp < 0) (h2 : ¬ dp < 0) (h3 : ¬ n < 0) (h4 : sp.toInt + n.toInt ≤ n0) (h5 : dp.toInt + n.toInt ≤ n1) (hd1 : 0 < d) (hcat : (st.map fun v => v.category).sum ≤ 8) (kk : Wp d M (pc + 3) (pS P a (.inl (0, n1, .inl (va_cpy f g sp.toNatClampNeg dp.toNatClampNeg n.toNatClampNeg)))) sz L st o) : Wp d M pc P sz L (.int n :: .int dp :: .ref a :: .int sp :: .ref a0 :: st) o :=
  wp_acopy (n0 := n0) (n1 := n1) (A2 := (n1, .inl (va_cpy f g sp.toNatClampNeg dp.toNatClampNeg n.toNatClampNeg))) hd hw hw2 hw3 hw4 hP0 hP1 rfl (fun c => arrV_size _ _ _) (fun c => arrV_size _ _ _) (fun _ _ => ⟨rfl, rfl, rfl, rfl⟩) (fun c i hi => by
    have e : (vp_cell c (n0, .inl f)).slots.getD i .null = .int (f i) := by
      show (arrV c n0 (fun j => .int (f j))).slots.getD _ _ = _
      rw [Array.getD_eq_getD_getElem?, arrV_read _ _ hi]
      rfl
    rw [e]
    exact ⟨rfl, fun q h => by cases h⟩) (fun c c' => va_copied (n0 := n0) (n1 := n1) (sp := sp.toNatClampNeg) (dp := dp.toNatClampNeg) (n := n.toNatClampNeg) (fun z => .int z) c c' f g (by
      have e1 : sp.toInt = (sp.toNatClampNeg : Int) := by
        have := Int32.le_iff_toInt_le.mp (Int32.not_lt.mp h1)
        have q : (0 : Int) ≤ sp.toInt := by simpa using this
        show sp.toInt = ((sp.toInt.toNat : Nat) : Int)
        omega
      have e2 : n.toInt = (n.toNatClampNeg : Int) := by
        have := Int32.le_iff_toInt_le.mp (Int32.not_lt.mp h3)
        have q : (0 : Int) ≤ n.toInt := by simpa using this
        show n.toInt = ((n.toInt.toNat : Nat) : Int)
        omega
      omega)) h1 h2 h3 h4 h5 hd1 hcat kk
theorem wp_acopyL {ix n0 n1 a0 : Nat} {f g : Nat → Int64} {sp dp n : Int32} (hd : decode M.2.1 pc = .ok (.invokestatic ix, 3)) (hw : Cond.methodLink M.1.cls ix arraycopyName ∈ pWW) (hw2 : Cond.native arraycopyName ∈ pWW) (hw3 : Cond.static arraycopyName ∈ pWW) (hw4 : Cond.initialized "java/lang/System" ∈ pWW) (hP0 : P a0 = some (.inl (3, n0, .inr (.inl f)))) (hP1 : P a = some (.inl (3, n1, .inr (.inl g)))) (h1 : ¬ sp < 0) (h2 : ¬ dp < 0) (h3 : ¬ n < 0) (h4 : sp.toInt + n.toInt ≤ n0) (h5 : dp.toInt + n.toInt ≤ n1) (hd1 : 0 < d) (hcat : (st.map fun v => v.category).sum ≤ 8) (kk : Wp d M (pc + 3) (pS P a (.inl (3, n1, .inr (.inl (va_cpy f g sp.toNatClampNeg dp.toNatClampNeg n.toNatClampNeg))))) sz L st o) : Wp d M pc P sz L (.int n :: .int dp :: .ref a :: .int sp :: .ref a0 :: st) o :=
  wp_acopy (n0 := n0) (n1 := n1) (A2 := (n1, .inr (.inl (va_cpy f g sp.toNatClampNeg dp.toNatClampNeg n.toNatClampNeg)))) hd hw hw2 hw3 hw4 hP0 hP1 rfl (fun c => arrV_size _ _ _) (fun c => arrV_size _ _ _) (fun _ _ => ⟨rfl, rfl, rfl, rfl⟩) (fun c i hi => by
    have e : (vp_cell c (n0, .inr (.inl f))).slots.getD i .null = .long (f i) := by
      show (arrV c n0 (fun j => .long (f j))).slots.getD _ _ = _
      rw [Array.getD_eq_getD_getElem?, arrV_read _ _ hi]
      rfl
    rw [e]
    exact ⟨rfl, fun q h => by cases h⟩) (fun c c' => va_copied (n0 := n0) (n1 := n1) (sp := sp.toNatClampNeg) (dp := dp.toNatClampNeg) (n := n.toNatClampNeg) (fun z => .long z) c c' f g (by
      have e1 : sp.toInt = (sp.toNatClampNeg : Int) := by
        have := Int32.le_iff_toInt_le.mp (Int32.not_lt.mp h1)
        have q : (0 : Int) ≤ sp.toInt := by simpa using this
        show sp.toInt = ((sp.toInt.toNat : Nat) : Int)
        omega
      have e2 : n.toInt = (n.toNatClampNeg : Int) := by
        have := Int32.le_iff_toInt_le.mp (Int32.not_lt.mp h3)
        have q : (0 : Int) ≤ n.toInt := by simpa using this
        show n.toInt = ((n.toInt.toNat : Nat) : Int)
        omega
      omega)) h1 h2 h3 h4 h5 hd1 hcat kk
def pSt (Cn Fn De : String) (ty : FieldType) (N : Nat) (tb : List Int32) : Prop := ∀ bs U, pKs bs U → ∃ t : Nat, va_Z Cn Fn De (.ref t) (pA bs) U U.heap ∧ va_T ty t N (fun j => .int (tb.getD j 0)) (pA bs) U U.heap
theorem st_wk : pSt "LineKeeper$Tokens" "WORD_KEYS" "[I" .int 5 wkI := fun _ _ h => h.2.2.1
theorem st_sg : pSt "LineKeeper$Tokens" "SIGNS" "[C" .char 11 sgB := fun _ _ h => h.2.2.2.1
theorem st_ak : pSt "LineKeeper" "ASKED" "[I" .int 8 akI := fun _ _ h => h.2.2.2.2
theorem wp_stLen {Cn Fn De : String} {ty : FieldType} {N ix : Nat} {tb : List Int32} (hT : pSt Cn Fn De ty N tb) (h1 : decode M.2.1 pc = .ok (.getstatic ix, 3)) (hw : Cond.fieldLink M.1.cls ix Cn Fn De ∈ pWW) (h2 : decode M.2.1 (pc + 3) = .ok (.arraylength, 1)) (kk : Wp d M (pc + 4) P sz L (.int (Int32.ofNat N) :: st) o) : Wp d M pc P sz L st o := by
  intro l D bs p e R s m args below meth c H locs cells slots ls C hW hz hS hl hc hn
  obtain ⟨t, hZ, hTt⟩ := hT bs s (pC_G C).2.2
  exact va_gets C.1 C.2.1 hZ hS (pC_own C) (pC_word C hw) (fun _ h => h) h1 (va_tlen C.1 C.2.1 hTt hS rfl h2 (kk l D bs p e R s m args below meth c H locs cells slots ls C hW hz hS hl hc hn))
theorem wp_stInt {Cn Fn De : String} {N ix i q ln : Nat} {x v : Int32} {tb : List Int32} (hT : pSt Cn Fn De .int N tb) (h1 : decode M.2.1 pc = .ok (.getstatic ix, 3)) (hw : Cond.fieldLink M.1.cls ix Cn Fn De ∈ pWW) (h2 : (∃ kf : Fin 4, (kf : Nat) = i ∧ ln = 1 ∧ decode M.2.1 (pc + 3) = .ok (.iload_n kf, 1)) ∨ (ln = 2 ∧ decode M.2.1 (pc + 3) = .ok (.iload i, 2))) (hq : L[q]? = some (i, .int x)) (h3 : decode M.2.1 (pc + 3 + ln) = .ok (.iaload, 1)) (hin : vp_in x N) (hv : tb.getD x.toNatClampNeg 0 = v) (kk : Wp d M (pc + 3 + ln + 1) P sz L (.int v :: st) o) : Wp d M pc P sz L st o := by
  intro l D bs p e R s m args below meth c H locs cells slots ls C hW hz hS hl hc hn
  obtain ⟨t, hZ, hTt⟩ := hT bs s (pC_G C).2.2
  refine va_gets C.1 C.2.1 hZ hS (pC_own C) (pC_word C hw) (fun _ h => h) h1 ?_
  rcases h2 with ⟨kf, hk, rfl, h2⟩ | ⟨rfl, h2⟩
  · exact lv_iload_n C.1 C.2.1 h2 hk (lv_at hl q hq) (va_ti C.1 C.2.1 hTt hS hin (v := .int v) (by rw [← hv]) h3 (kk l D bs p e R s m args below meth c H locs cells slots ls C hW hz hS hl hc hn))
  · exact lv_iload C.1 C.2.1 h2 (lv_at hl q hq) (va_ti C.1 C.2.1 hTt hS hin (v := .int v) (by rw [← hv]) h3 (kk l D bs p e R s m args below meth c H locs cells slots ls C hW hz hS hl hc hn))
theorem wp_stChr {Cn Fn De : String} {N ix i q : Nat} {x v : Int32} {tb : List Int32} {kf : Fin 4} (hT : pSt Cn Fn De .char N tb) (h1 : decode M.2.1 pc = .ok (.getstatic ix, 3)) (hw : Cond.fieldLink M.1.cls ix Cn Fn De ∈ pWW) (h2 : decode M.2.1 (pc + 3) = .ok (.iload_n kf, 1)) (hk : (kf : Nat) = i) (hq : L[q]? = some (i, .int x)) (h3 : decode M.2.1 (pc + 4) = .ok (.caload, 1)) (hin : vp_in x N) (hv : tb.getD x.toNatClampNeg 0 = v) (kk : Wp d M (pc + 5) P sz L (.int v :: st) o) : Wp d M pc P sz L st o := by
  intro l D bs p e R s m args below meth c H locs cells slots ls C hW hz hS hl hc hn
  obtain ⟨t, hZ, hTt⟩ := hT bs s (pC_G C).2.2
  exact va_gets C.1 C.2.1 hZ hS (pC_own C) (pC_word C hw) (fun _ h => h) h1 (lv_iload_n C.1 C.2.1 h2 hk (lv_at hl q hq) (va_tc C.1 C.2.1 hTt hS hin (v := .int v) (by rw [← hv]) h3 (kk l D bs p e R s m args below meth c H locs cells slots ls C hW hz hS hl hc hn)))
end WPX

def OB (T : CT) (a ci : Nat) : Prop := 30 ≤ (T a).1 ∧ kC (T a).1 = ci ∧ (T a).1 < 80
def OBr (T : CT) (a ci : Nat) : Prop := 30 ≤ (T a).1 ∧ kC (T a).1 = ci ∧ (T a).1 < 94
theorem OB.r {T : CT} {a ci : Nat} (h : OB T a ci) : OBr T a ci := ⟨h.1, h.2.1, by have := h.2.2; omega⟩
section TNH
variable {d : Nat} {M : MT} {pc : Nat} {T : CT} {σ : MS} {L : List (Nat × Value)} {st : List Value} {post : Option Value → CT → MS → Prop} {a : Nat}
theorem ovC_or {ci : Nat} {P0 : PH} (h : OBr T a ci) : ovC T σ P0 a = some (.inr (ci, cF ci σ a)) := by
  have e := ovC_o (σ := σ) (P0 := P0) ⟨h.1, h.2.2⟩
  rw [h.2.1] at e
  exact e
theorem ovC_ob {ci : Nat} {P0 : PH} (h : OB T a ci) : ovC T σ P0 a = some (.inr (ci, cF ci σ a)) := ovC_or h.r
theorem tn_getVr {ci i n ix N : Nat} {CN : String} {Tt : u_T} {r : Bool} (hd : decode M.2.1 pc = .ok (.getfield ix, 3)) (hq : vwCl[ci]? = some (CN, Tt, N)) (hlay : ∀ w ∈ u_ws CN Tt N, w ∈ pWW) (hk : i < N) (hlink : Cond.fieldLink M.1.cls ix (Tt i).1 (Tt i).2.1 (Tt i).2.2.1 ∈ pWW) (ha : OBr T a ci) (hr : (cR ci)[i]? = some r) (hn : cB ci + i = n) (kk : Tn d M (pc + 3) T σ L (vl r (σ.2.1 n a) :: st) post) : Tn d M pc T σ L (.ref a :: st) post := fun P0 sz hs => by
  obtain ⟨r2, T2, σ2, sz2, n9, w, hp⟩ := kk P0 sz hs
  exact ⟨r2, T2, σ2, sz2, n9, wp_get hd hq hlay hk hlink (ovC_or ha) (by rw [← hn] at w ⊢; exact cL_get hr) w, hp⟩
theorem tn_getV {ci i n ix N : Nat} {CN : String} {Tt : u_T} {r : Bool} (hd : decode M.2.1 pc = .ok (.getfield ix, 3)) (hq : vwCl[ci]? = some (CN, Tt, N)) (hlay : ∀ w ∈ u_ws CN Tt N, w ∈ pWW) (hk : i < N) (hlink : Cond.fieldLink M.1.cls ix (Tt i).1 (Tt i).2.1 (Tt i).2.2.1 ∈ pWW) (ha : OB T a ci) (hr : (cR ci)[i]? = some r) (hn : cB ci + i = n) (kk : Tn d M (pc + 3) T σ L (vl r (σ.2.1 n a) :: st) post) : Tn d M pc T σ L (.ref a :: st) post := tn_getVr hd hq hlay hk hlink ha.r hr hn kk
theorem tn_getI {ci i n ix N : Nat} {CN : String} {Tt : u_T} {t : Int} (hd : decode M.2.1 pc = .ok (.getfield ix, 3)) (hq : vwCl[ci]? = some (CN, Tt, N)) (hlay : ∀ w ∈ u_ws CN Tt N, w ∈ pWW) (hk : i < N) (hlink : Cond.fieldLink M.1.cls ix (Tt i).1 (Tt i).2.1 (Tt i).2.2.1 ∈ pWW) (ha : OB T a ci) (hr : (cR ci)[i]? = some false) (hn : cB ci + i = n) (ht : σ.2.1 n a = t) (kk : Tn d M (pc + 3) T σ L (.int (iI t) :: st) post) : Tn d M pc T σ L (.ref a :: st) post := tn_getV hd hq hlay hk hlink ha hr hn (by rw [ht]; exact kk)
theorem tn_getR {ci i n ix N x : Nat} {CN : String} {Tt : u_T} (hd : decode M.2.1 pc = .ok (.getfield ix, 3)) (hq : vwCl[ci]? = some (CN, Tt, N)) (hlay : ∀ w ∈ u_ws CN Tt N, w ∈ pWW) (hk : i < N) (hlink : Cond.fieldLink M.1.cls ix (Tt i).1 (Tt i).2.1 (Tt i).2.2.1 ∈ pWW) (ha : OB T a ci) (hr : (cR ci)[i]? = some true) (hn : cB ci + i = n) (ht : σ.2.1 n a = (x : Int)) (kk : Tn d M (pc + 3) T σ L (.ref x :: st) post) : Tn d M pc T σ L (.ref a :: st) post := tn_getV hd hq hlay hk hlink ha hr hn (by rw [vl_ref ht]; exact kk)
theorem tn_getN {ci i n ix N : Nat} {CN : String} {Tt : u_T} (hd : decode M.2.1 pc = .ok (.getfield ix, 3)) (hq : vwCl[ci]? = some (CN, Tt, N)) (hlay : ∀ w ∈ u_ws CN Tt N, w ∈ pWW) (hk : i < N) (hlink : Cond.fieldLink M.1.cls ix (Tt i).1 (Tt i).2.1 (Tt i).2.2.1 ∈ pWW) (ha : OB T a ci) (hr : (cR ci)[i]? = some true) (hn : cB ci + i = n) (ht : σ.2.1 n a < 0) (kk : Tn d M (pc + 3) T σ L (.null :: st) post) : Tn d M pc T σ L (.ref a :: st) post := tn_getV hd hq hlay hk hlink ha hr hn (by rw [vl_null ht]; exact kk)
theorem tn_putVr {ci i n ix N : Nat} {CN : String} {Tt : u_T} {r : Bool} {v : Int} {w0 : Value} {ty : FieldType} (ty0 : Nat → FieldType) (hty : ∀ k, k < N → parseFieldDescriptor (Tt k).2.2.1 = some (ty0 k)) (hnm : ∀ a, a < N → ∀ b, b < N → a ≠ b → (Tt a).2.1 ≠ (Tt b).2.1) (hd : decode M.2.1 pc = .ok (.putfield ix, 3)) (hq : vwCl[ci]? = some (CN, Tt, N)) (hlay : ∀ w ∈ u_ws CN Tt N, w ∈ pWW) (hk : i < N) (hlink : Cond.fieldLink M.1.cls ix (Tt i).1 (Tt i).2.1 (Tt i).2.2.1 ∈ pWW) (hfin : (Tt i).2.2.2 = false) (hds : parseFieldDescriptor (Tt i).2.2.1 = some ty) (hw : w0 = vl r v) (hnr : narrow ty w0 = w0) (hfit : fits ty w0 = true) (ha : OBr T a ci) (hr : (cR ci)[i]? = some r) (hn : cB ci + i = n) (kk : Tn d M (pc + 3) T (sA n a v σ) L st post) : Tn d M pc T σ L (w0 :: .ref a :: st) post := fun P0 sz hs => by
  obtain ⟨r2, T2, σ2, sz2, n9, w, hp⟩ := kk P0 sz hs
  refine ⟨r2, T2, σ2, sz2, n9, wp_put ty0 hty hnm hd hq hlay hk hlink hfin hds hnr hfit (ovC_or ha) ?_, hp⟩
  have e : (cF ci σ a).set i w0 = cF ci (sA n a v σ) a := by rw [hw, ← hn]; exact cL_set hr
  have n2 : n < 200 := by
    have h1 := cR_len ci
    have h2 := (List.getElem?_eq_some_iff.mp hr).1
    omega
  have e2 := ovC_sF (T := T) (σ := σ) (P0 := P0) (a := a) (v := v) (fs := (cF ci σ a).set i w0) ⟨ha.1, ha.2.2⟩ n2 (by rw [ha.2.1]; exact e)
  rw [ha.2.1] at e2
  rw [e2]
  exact w
theorem tn_putFr {ci i n ix N : Nat} {CN : String} {Tt : u_T} {r : Bool} {v : Int} {w0 : Value} {ty : FieldType} (ty0 : Nat → FieldType) (hty : ∀ k, k < N → parseFieldDescriptor (Tt k).2.2.1 = some (ty0 k)) (hnm : ∀ a, a < N → ∀ b, b < N → a ≠ b → (Tt a).2.1 ≠ (Tt b).2.1) (hd : decode M.2.1 pc = .ok (.putfield ix, 3)) (hq : vwCl[ci]? = some (CN, Tt, N)) (hlay : ∀ w ∈ u_ws CN Tt N, w ∈ pWW) (hk : i < N) (hlink : Cond.fieldLink M.1.cls ix (Tt i).1 (Tt i).2.1 (Tt i).2.2.1 ∈ pWW) (hfin : (Tt i).2.2.2 = true) (hdc : (Tt i).1 = M.1.cls) (hini : M.1.name = "<init>") (hds : parseFieldDescriptor (Tt i).2.2.1 = some ty) (hw : w0 = vl r v) (hnr : narrow ty w0 = w0) (hfit : fits ty w0 = true) (ha : OBr T a ci) (hr : (cR ci)[i]? = some r) (hn : cB ci + i = n) (kk : Tn d M (pc + 3) T (sA n a v σ) L st post) : Tn d M pc T σ L (w0 :: .ref a :: st) post := fun P0 sz hs => by
  obtain ⟨r2, T2, σ2, sz2, n9, w, hp⟩ := kk P0 sz hs
  refine ⟨r2, T2, σ2, sz2, n9, wp_putF ty0 hty hnm hd hq hlay hk hlink hfin hini hdc hds hnr hfit (ovC_or ha) ?_, hp⟩
  have e : (cF ci σ a).set i w0 = cF ci (sA n a v σ) a := by rw [hw, ← hn]; exact cL_set hr
  have n2 : n < 200 := by
    have h1 := cR_len ci
    have h2 := (List.getElem?_eq_some_iff.mp hr).1
    omega
  have e2 := ovC_sF (T := T) (σ := σ) (P0 := P0) (a := a) (v := v) (fs := (cF ci σ a).set i w0) ⟨ha.1, ha.2.2⟩ n2 (by rw [ha.2.1]; exact e)
  rw [ha.2.1] at e2
  rw [e2]
  exact w
theorem tn_putV {ci i n ix N : Nat} {CN : String} {Tt : u_T} {r : Bool} {v : Int} {w0 : Value} {ty : FieldType} (ty0 : Nat → FieldType) (hty : ∀ k, k < N → parseFieldDescriptor (Tt k).2.2.1 = some (ty0 k)) (hnm : ∀ a, a < N → ∀ b, b < N → a ≠ b → (Tt a).2.1 ≠ (Tt b).2.1) (hd : decode M.2.1 pc = .ok (.putfield ix, 3)) (hq : vwCl[ci]? = some (CN, Tt, N)) (hlay : ∀ w ∈ u_ws CN Tt N, w ∈ pWW) (hk : i < N) (hlink : Cond.fieldLink M.1.cls ix (Tt i).1 (Tt i).2.1 (Tt i).2.2.1 ∈ pWW) (hfin : (Tt i).2.2.2 = false) (hds : parseFieldDescriptor (Tt i).2.2.1 = some ty) (hw : w0 = vl r v) (hnr : narrow ty w0 = w0) (hfit : fits ty w0 = true) (ha : OB T a ci) (hr : (cR ci)[i]? = some r) (hn : cB ci + i = n) (kk : Tn d M (pc + 3) T (sA n a v σ) L st post) : Tn d M pc T σ L (w0 :: .ref a :: st) post := tn_putVr ty0 hty hnm hd hq hlay hk hlink hfin hds hw hnr hfit ha.r hr hn kk
theorem tn_iald {z v : Int} (hd : decode M.2.1 pc = .ok (.iaload, 1)) (ha : IA T a) (h0 : 0 ≤ z) (h1 : z < ((T a).2 : Int)) (hn : (T a).2 ≤ 2147483647) (hv : σ.2.1 (1000 + a) z = v) (kk : Tn d M (pc + 1) T σ L (.int (iI v) :: st) post) : Tn d M pc T σ L (.int (iI z) :: .ref a :: st) post := fun P0 sz hs => by
  obtain ⟨r, T2, σ2, sz2, n9, w, hp⟩ := kk P0 sz hs
  refine ⟨r, T2, σ2, sz2, n9, wp_iald hd (ovC_i ha) (iI_in h0 h1 hn) ?_, hp⟩
  rw [iI_nat h0 (by omega), show ((z.toNat : Nat) : Int) = z by omega, hv]
  exact w
theorem tn_bald {z v : Int} (hd : decode M.2.1 pc = .ok (.baload, 1)) (ha : (T a).1 = 2) (h0 : 0 ≤ z) (h1 : z < ((T a).2 : Int)) (hn : (T a).2 ≤ 2147483647) (hv : σ.2.1 (1000 + a) z = v) (kk : Tn d M (pc + 1) T σ L (.int (iI v) :: st) post) : Tn d M pc T σ L (.int (iI z) :: .ref a :: st) post := fun P0 sz hs => by
  obtain ⟨r, T2, σ2, sz2, n9, w, hp⟩ := kk P0 sz hs
  refine ⟨r, T2, σ2, sz2, n9, wp_bald hd (ovC_b ha) (iI_in h0 h1 hn) ?_, hp⟩
  rw [iI_nat h0 (by omega), show ((z.toNat : Nat) : Int) = z by omega, hv]
  exact w
theorem tn_lald {z : Int} {v : Int64} (hd : decode M.2.1 pc = .ok (.laload, 1)) (ha : (T a).1 = 3) (h0 : 0 ≤ z) (h1 : z < ((T a).2 : Int)) (hn : (T a).2 ≤ 2147483647) (hv : σ.2.2 a z = v) (kk : Tn d M (pc + 1) T σ L (.long v :: st) post) : Tn d M pc T σ L (.int (iI z) :: .ref a :: st) post := fun P0 sz hs => by
  obtain ⟨r, T2, σ2, sz2, n9, w, hp⟩ := kk P0 sz hs
  refine ⟨r, T2, σ2, sz2, n9, wp_lald hd (ovC_l ha) (iI_in h0 h1 hn) ?_, hp⟩
  rw [iI_nat h0 (by omega), show ((z.toNat : Nat) : Int) = z by omega, hv]
  exact w
theorem tn_aald {z : Int} {x : Nat} (hd : decode M.2.1 pc = .ok (.aaload, 1)) (ha : (T a).1 = 4 ∨ (T a).1 = 5) (h0 : 0 ≤ z) (h1 : z < ((T a).2 : Int)) (hn : (T a).2 ≤ 2147483647) (hv : σ.2.1 (1000 + a) z = (x : Int)) (kk : Tn d M (pc + 1) T σ L (.ref x :: st) post) : Tn d M pc T σ L (.int (iI z) :: .ref a :: st) post := fun P0 sz hs => by
  obtain ⟨r, T2, σ2, sz2, n9, w, hp⟩ := kk P0 sz hs
  refine ⟨r, T2, σ2, sz2, n9, wp_aald hd (ovC_q (by omega)) (iI_in h0 h1 hn) ?_, hp⟩
  rw [iI_nat h0 (by omega), show ((z.toNat : Nat) : Int) = z by omega]
  have e : va_rf (rfO (σ.2.1 (1000 + a) z)) = .ref x := vl_ref hv
  rw [e]
  exact w
theorem tn_alen {x : Nat × vp_A} (hd : decode M.2.1 pc = .ok (.arraylength, 1)) (ha : ∀ P0, ovC T σ P0 a = some (.inl x)) (hx : x.2.1 = (T a).2) (kk : Tn d M (pc + 1) T σ L (.int (iI ((T a).2 : Int)) :: st) post) : Tn d M pc T σ L (.ref a :: st) post := fun P0 sz hs => by
  obtain ⟨r, T2, σ2, sz2, n9, w, hp⟩ := kk P0 sz hs
  refine ⟨r, T2, σ2, sz2, n9, wp_alen hd (ha P0) ?_ w, hp⟩
  rw [hx]
  exact (Int32.ofInt_eq_ofNat).symm
theorem tn_iast {z v : Int} (hd : decode M.2.1 pc = .ok (.iastore, 1)) (ha : IA T a) (h0 : 0 ≤ z) (h1 : z < ((T a).2 : Int)) (hn : (T a).2 ≤ 2147483647) (kk : Tn d M (pc + 1) T (sA (1000 + a) z v σ) L st post) : Tn d M pc T σ L (.int (iI v) :: .int (iI z) :: .ref a :: st) post := fun P0 sz hs => by
  obtain ⟨r, T2, σ2, sz2, n9, w, hp⟩ := kk P0 sz hs
  refine ⟨r, T2, σ2, sz2, n9, wp_iast hd (ovC_i ha) (iI_in h0 h1 hn) ?_, hp⟩
  rw [iI_nat h0 (by omega), ovC_sI ha h0]
  exact w
theorem tn_bast {z v : Int} {x : Int32} (hd : decode M.2.1 pc = .ok (.bastore, 1)) (ha : (T a).1 = 2) (h0 : 0 ≤ z) (h1 : z < ((T a).2 : Int)) (hn : (T a).2 ≤ 2147483647) (hv : vp_nar .byte x = iI v) (kk : Tn d M (pc + 1) T (sA (1000 + a) z v σ) L st post) : Tn d M pc T σ L (.int x :: .int (iI z) :: .ref a :: st) post := fun P0 sz hs => by
  obtain ⟨r, T2, σ2, sz2, n9, w, hp⟩ := kk P0 sz hs
  refine ⟨r, T2, σ2, sz2, n9, wp_bast hd (ovC_b ha) (iI_in h0 h1 hn) ?_, hp⟩
  rw [hv, iI_nat h0 (by omega), ovC_sB ha h0]
  exact w
theorem tn_last {z : Int} {v : Int64} (hd : decode M.2.1 pc = .ok (.lastore, 1)) (ha : (T a).1 = 3) (h0 : 0 ≤ z) (h1 : z < ((T a).2 : Int)) (hn : (T a).2 ≤ 2147483647) (kk : Tn d M (pc + 1) T (sJ a z v σ) L st post) : Tn d M pc T σ L (.long v :: .int (iI z) :: .ref a :: st) post := fun P0 sz hs => by
  obtain ⟨r, T2, σ2, sz2, n9, w, hp⟩ := kk P0 sz hs
  refine ⟨r, T2, σ2, sz2, n9, wp_last hd (ovC_l ha) (iI_in h0 h1 hn) ?_, hp⟩
  rw [iI_nat h0 (by omega), ovC_sL ha h0]
  exact w
theorem tn_iret {v : Int32} (hr : M.2.2.2 = some .int) (hd : decode M.2.1 pc = .ok (.ireturn, 1)) (hp : post (some (.int v)) T σ) : Tn d M pc T σ L [.int v] post := fun _ _ hs => ⟨_, T, σ, _, 0, wp_iret hr hd, Gd.rfl hs, hp⟩
theorem tn_zret {v : Int} (hr : M.2.2.2 = some .boolean) (hv : v = 0 ∨ v = 1) (hd : decode M.2.1 pc = .ok (.ireturn, 1)) (hp : post (some (.int (iI v))) T σ) : Tn d M pc T σ L [.int (iI v)] post := fun _ _ hs => ⟨_, T, σ, _, 0, wp_zret hr (by rcases hv with rfl | rfl <;> rfl) hd, Gd.rfl hs, hp⟩
theorem tn_vret (hr : M.2.2.2 = none) (hd : decode M.2.1 pc = .ok (.return_, 1)) (hp : post none T σ) : Tn d M pc T σ L [] post := fun _ _ hs => ⟨_, T, σ, _, 0, wp_vret hr hd, Gd.rfl hs, hp⟩
theorem tn_lret {v : Int64} (hr : M.2.2.2 = some .long) (hd : decode M.2.1 pc = .ok (.lreturn, 1)) (hp : post (some (.long v)) T σ) : Tn d M pc T σ L [.long v] post := fun _ _ hs => ⟨_, T, σ, _, 0, wp_lret hr hd, Gd.rfl hs, hp⟩
theorem tn_aret {v : Value} {rt : FieldType} (hr : M.2.2.2 = some rt) (hrt : (∃ n, rt = .object n) ∨ ∃ t, rt = .array t) (hv : v = .null ∨ ∃ a, v = .ref a) (hd : decode M.2.1 pc = .ok (.areturn, 1)) (hp : post (some v) T σ) : Tn d M pc T σ L [v] post := fun _ _ hs => ⟨_, T, σ, _, 0, wp_aret hr hrt hv hd, Gd.rfl hs, hp⟩
theorem tn_tableOut {dflt lo hi : Int} {offs : Array Int} {len : Nat} {x : Int} {tgt : Nat} (hd : decode M.2.1 pc = .ok (.tableswitch dflt lo hi offs, len)) (hx : inR x) (h : x < lo ∨ hi < x) (ht : (pc : Int) + dflt = (tgt : Int)) (k : Tn d M tgt T σ L st post) : Tn d M pc T σ L (.int (iI x) :: st) post := fun P0 sz hs => by
  obtain ⟨r, T2, σ2, sz2, n9, w, hp⟩ := k P0 sz hs
  exact ⟨r, T2, σ2, sz2, n9, wp_tableOut hd (by rw [iI_toInt hx]; exact h) ht w, hp⟩
theorem tn_tableIn {dflt lo hi : Int} {offs : Array Int} {len : Nat} {x off : Int} {tgt : Nat} (hd : decode M.2.1 pc = .ok (.tableswitch dflt lo hi offs, len)) (hx : inR x) (h1 : ¬ x < lo) (h2 : ¬ hi < x) (ho : offs[(x - lo).toNat]? = some off) (ht : (pc : Int) + off = (tgt : Int)) (k : Tn d M tgt T σ L st post) : Tn d M pc T σ L (.int (iI x) :: st) post := fun P0 sz hs => by
  obtain ⟨r, T2, σ2, sz2, n9, w, hp⟩ := k P0 sz hs
  exact ⟨r, T2, σ2, sz2, n9, wp_tableIn hd (by rw [iI_toInt hx]; exact h1) (by rw [iI_toInt hx]; exact h2) (by rw [iI_toInt hx]; exact ho) ht w, hp⟩
theorem tn_ifnonnull {x : Nat} {off : Int} {tgt : Nat} (hd : decode M.2.1 pc = .ok (.ifnonnull off, 3)) (ht : (pc : Int) + off = (tgt : Int)) (k : Tn d M tgt T σ L st post) : Tn d M pc T σ L (.ref x :: st) post := fun P0 sz hs => by
  obtain ⟨r, T2, σ2, sz2, n9, w, hp⟩ := k P0 sz hs
  exact ⟨r, T2, σ2, sz2, n9, wp_ifnonnull hd ht w, hp⟩
theorem tn_ifnull {x : Nat} {off : Int} (hd : decode M.2.1 pc = .ok (.ifnull off, 3)) (k : Tn d M (pc + 3) T σ L st post) : Tn d M pc T σ L (.ref x :: st) post := fun P0 sz hs => by
  obtain ⟨r, T2, σ2, sz2, n9, w, hp⟩ := k P0 sz hs
  exact ⟨r, T2, σ2, sz2, n9, wp_ifnull hd w, hp⟩
theorem tn_ifnullN {off : Int} {tgt : Nat} (hd : decode M.2.1 pc = .ok (.ifnull off, 3)) (ht : (pc : Int) + off = (tgt : Int)) (k : Tn d M tgt T σ L st post) : Tn d M pc T σ L (.null :: st) post := fun P0 sz hs => by
  obtain ⟨r, T2, σ2, sz2, n9, w, hp⟩ := k P0 sz hs
  exact ⟨r, T2, σ2, sz2, n9, wp_ifnullN hd ht w, hp⟩
theorem tn_ifnonnullN {off : Int} (hd : decode M.2.1 pc = .ok (.ifnonnull off, 3)) (k : Tn d M (pc + 3) T σ L st post) : Tn d M pc T σ L (.null :: st) post := fun P0 sz hs => by
  obtain ⟨r, T2, σ2, sz2, n9, w, hp⟩ := k P0 sz hs
  exact ⟨r, T2, σ2, sz2, n9, wp_ifnonnullN hd w, hp⟩
theorem tn_mmax {ix : Nat} {x y : Int} (hd : decode M.2.1 pc = .ok (.invokestatic ix, 3)) (h1 : Cond.methodLink M.1.cls ix Lib.Math.max.name ∈ pWW) (h2 : Cond.static Lib.Math.max.name ∈ pWW) (h3 : Cond.initialized "java/lang/Math" ∈ pWW) (h4 : Cond.code Lib.Math.max.name Lib.Math.max.code 2 (some .int) ∈ pWW) (hd1 : 0 < d) (hcat : (st.map fun v => v.category).sum ≤ 8) (hx : inR x) (hy : inR y) (kk : ∀ z, (x ≤ z ∧ y ≤ z) ∧ (z = x ∨ z = y) → Tn d M (pc + 3) T σ L (.int (iI z) :: st) post) : Tn d M pc T σ L (.int (iI y) :: .int (iI x) :: st) post := fun P0 sz hs => by
  by_cases h : x < y
  · obtain ⟨r, T2, σ2, sz2, n9, w, hp⟩ := kk y (by omega) P0 sz hs
    exact ⟨r, T2, σ2, sz2, n9, wp_mmax hd h1 h2 h3 h4 hd1 hcat hp.1.1 (by rw [if_pos ((iI_lt hx hy).mpr h)]; exact w), hp⟩
  · obtain ⟨r, T2, σ2, sz2, n9, w, hp⟩ := kk x (by omega) P0 sz hs
    exact ⟨r, T2, σ2, sz2, n9, wp_mmax hd h1 h2 h3 h4 hd1 hcat hp.1.1 (by rw [if_neg (fun q => h ((iI_lt hx hy).mp q))]; exact w), hp⟩
theorem tn_mmin {ix : Nat} {x y : Int} (hd : decode M.2.1 pc = .ok (.invokestatic ix, 3)) (h1 : Cond.methodLink M.1.cls ix Lib.Math.min.name ∈ pWW) (h2 : Cond.static Lib.Math.min.name ∈ pWW) (h3 : Cond.initialized "java/lang/Math" ∈ pWW) (h4 : Cond.code Lib.Math.min.name Lib.Math.min.code 2 (some .int) ∈ pWW) (hd1 : 0 < d) (hcat : (st.map fun v => v.category).sum ≤ 8) (hx : inR x) (hy : inR y) (kk : ∀ z, (z ≤ x ∧ z ≤ y) ∧ (z = x ∨ z = y) → Tn d M (pc + 3) T σ L (.int (iI z) :: st) post) : Tn d M pc T σ L (.int (iI y) :: .int (iI x) :: st) post := fun P0 sz hs => by
  by_cases h : y < x
  · obtain ⟨r, T2, σ2, sz2, n9, w, hp⟩ := kk y (by omega) P0 sz hs
    exact ⟨r, T2, σ2, sz2, n9, wp_mmin hd h1 h2 h3 h4 hd1 hcat hp.1.1 (by rw [if_pos ((iI_lt hy hx).mpr h)]; exact w), hp⟩
  · obtain ⟨r, T2, σ2, sz2, n9, w, hp⟩ := kk x (by omega) P0 sz hs
    exact ⟨r, T2, σ2, sz2, n9, wp_mmin hd h1 h2 h3 h4 hd1 hcat hp.1.1 (by rw [if_neg (fun q => h ((iI_lt hy hx).mp q))]; exact w), hp⟩
theorem tn_callV {M' : MT} {ix ci N : Nat} {CN : String} {Tt : u_T} {L1 : List (Nat × Value)} {rest As : List Value} {post1 : Option Value → CT → MS → Prop} (hd : decode M.2.1 pc = .ok (.invokevirtual ix, 3)) (hM : pOk M') (hin : Cond.instanceMethod M'.1 ∈ pWW) (hse : Cond.selects M'.1.cls M'.1 M'.1 ∈ pWW) (hlink : Cond.methodLink M.1.cls ix M'.1 ∈ pWW) (hnp : (parseMethodDescriptor M'.1.desc).map (fun d => d.parameters.length) = some As.length) (hq : vwCl[ci]? = some (CN, Tt, N)) (hqc : CN = M'.1.cls) (ha : OB T a ci) (hL : lv_args 0 (.ref a :: As) = L1) (hlen : (lg_sl (.ref a :: As)).length ≤ M'.2.2.1) (hcat : (rest.map fun v => v.category).sum ≤ 8) {st : List Value} (hst0 : st = As.reverse ++ .ref a :: rest) (h1 : Tn d M' 0 T σ L1 [] post1) (h2 : ∀ r T1 σ1, GT T T1 → post1 r T1 σ1 → Tn (d + 1) M (pc + 3) T1 σ1 L (r.toList ++ rest) post) : Tn (d + 1) M pc T σ L st post := fun P0 sz hs => by
  obtain ⟨r1, T1, σ1, s1, n1, w1, g1, p1⟩ := h1 P0 sz hs
  obtain ⟨r2, T2, σ2, s2, n2, w2, g2, p2⟩ := h2 r1 T1 σ1 (g1.gt hs) p1 P0 s1 g1.2.1
  exact ⟨r2, T2, σ2, s2, n1 + n2, wp_callV (ci := ci) (q := (CN, Tt, N)) (o1 := (r1, ovC T1 σ1 P0, s1, n1)) (o2 := (r2, ovC T2 σ2 P0, s2, n2)) hd hM hin hse hlink hnp hq hqc (ovC_ob ha) hL hlen hcat g1.1 g2.1 hst0 w1 w2, g1.trans g2, p2⟩
theorem tn_callS {M' : MT} {ix : Nat} {L1 : List (Nat × Value)} {rest As : List Value} {post1 : Option Value → CT → MS → Prop} (hd : decode M.2.1 pc = .ok (.invokestatic ix, 3)) (hM : pOk M') (hstt : Cond.static M'.1 ∈ pWW) (hlink : Cond.methodLink M.1.cls ix M'.1 ∈ pWW) (hnp : (parseMethodDescriptor M'.1.desc).map (fun d => d.parameters.length) = some As.length) (hL : lv_args 0 As = L1) (hlen : (lg_sl As).length ≤ M'.2.2.1) (hcat : (rest.map fun v => v.category).sum ≤ 8) {st : List Value} (hst0 : st = As.reverse ++ rest) (h1 : Tn d M' 0 T σ L1 [] post1) (h2 : ∀ r T1 σ1, GT T T1 → post1 r T1 σ1 → Tn (d + 1) M (pc + 3) T1 σ1 L (r.toList ++ rest) post) : Tn (d + 1) M pc T σ L st post := fun P0 sz hs => by
  obtain ⟨r1, T1, σ1, s1, n1, w1, g1, p1⟩ := h1 P0 sz hs
  obtain ⟨r2, T2, σ2, s2, n2, w2, g2, p2⟩ := h2 r1 T1 σ1 (g1.gt hs) p1 P0 s1 g1.2.1
  exact ⟨r2, T2, σ2, s2, n1 + n2, wp_callS (o1 := (r1, ovC T1 σ1 P0, s1, n1)) (o2 := (r2, ovC T2 σ2 P0, s2, n2)) hd hM hstt hlink hnp hL hlen hcat g1.1 g2.1 hst0 w1 w2, g1.trans g2, p2⟩
theorem tn_callSN {M' : MT} {ix : Nat} {host : String} {L1 : List (Nat × Value)} {rest As : List Value} {post1 : Option Value → CT → MS → Prop} (hd : decode M.2.1 pc = .ok (.invokestatic ix, 3)) (hM : pOk M') (hstt : Cond.static M'.1 ∈ pWW) (hlink : (M.1.cls, ix, M'.1, host) ∈ nst_M) (hnp : (parseMethodDescriptor M'.1.desc).map (fun d => d.parameters.length) = some As.length) (hL : lv_args 0 As = L1) (hlen : (lg_sl As).length ≤ M'.2.2.1) (hcat : (rest.map fun v => v.category).sum ≤ 8) {st : List Value} (hst0 : st = As.reverse ++ rest) (h1 : Tn d M' 0 T σ L1 [] post1) (h2 : ∀ r T1 σ1, GT T T1 → post1 r T1 σ1 → Tn (d + 1) M (pc + 3) T1 σ1 L (r.toList ++ rest) post) : Tn (d + 1) M pc T σ L st post := fun P0 sz hs => by
  obtain ⟨r1, T1, σ1, s1, n1, w1, g1, p1⟩ := h1 P0 sz hs
  obtain ⟨r2, T2, σ2, s2, n2, w2, g2, p2⟩ := h2 r1 T1 σ1 (g1.gt hs) p1 P0 s1 g1.2.1
  exact ⟨r2, T2, σ2, s2, n1 + n2, wp_callSN (o1 := (r1, ovC T1 σ1 P0, s1, n1)) (o2 := (r2, ovC T2 σ2 P0, s2, n2)) hd hM hstt hlink hnp hL hlen hcat g1.1 g2.1 hst0 w1 w2, g1.trans g2, p2⟩
theorem tn_sub {L' : List (Nat × Value)} (ks : List Nat) (h : lv_pick L ks = L') (k : Tn d M pc T σ L' st post) : Tn d M pc T σ L st post := fun P0 sz hs => by
  obtain ⟨r, T2, σ2, sz2, n9, w, hp⟩ := k P0 sz hs
  exact ⟨r, T2, σ2, sz2, n9, wp_sub ks h w, hp⟩
theorem Tn.mono {post2 : Option Value → CT → MS → Prop} (k : Tn d M pc T σ L st post) (h : ∀ r t s, post r t s → post2 r t s) : Tn d M pc T σ L st post2 := fun P0 sz hs => by
  obtain ⟨r, T2, σ2, sz2, n9, w, hp⟩ := k P0 sz hs
  exact ⟨r, T2, σ2, sz2, n9, w, hp.1, h _ _ _ hp.2⟩
theorem tn_any {x : Int} (kk : ∀ z, inR z → Tn d M pc T σ L (.int (iI z) :: st) post) : Tn d M pc T σ L (.int (iI x) :: st) post := by
  rw [← iw_eq x]
  exact kk _ (iw_rng x)
end TNH
end
section
def tT (T : CT) (x k n : Nat) : CT := fun a => if a = x then (k, n) else T a
theorem tT_eq {T : CT} {x k n : Nat} : tT T x k n x = (k, n) := if_pos rfl
theorem tT_ne {T : CT} {x k n a : Nat} (h : a ≠ x) : tT T x k n a = T a := if_neg h
def gh (n : Nat) (σ : MS) : MS := (fun j => if j = 0 then σ.1 0 + n else if j = 1 then σ.1 1 + 1 else σ.1 j, σ.2)
def rowS (r : Nat) (f : Int → Int) (σ : MS) : MS := (σ.1, fun j => if j = r then f else σ.2.1 j, σ.2.2)
def rowL (r : Nat) (f : Int → Int64) (σ : MS) : MS := (σ.1, σ.2.1, fun j => if j = r then f else σ.2.2 j)
theorem rowS_eq {r : Nat} {f : Int → Int} {σ : MS} : (rowS r f σ).2.1 r = f := if_pos rfl
theorem rowS_ne {r j : Nat} {f : Int → Int} {σ : MS} (h : j ≠ r) : (rowS r f σ).2.1 j = σ.2.1 j := if_neg h
def dfF (j : Nat) : Int := if j ∈ [0, 1, 5, 11, 12, 13, 14, 15, 16, 17, 18, 19, 20, 21, 23, 24, 25, 26, 33, 34, 35, 36, 37, 39, 40, 41, 48, 49, 52, 53, 54, 55, 59, 60, 61, 62, 63, 64, 69, 72, 73, 74, 75, 76, 77, 78, 79, 81, 82, 83, 88, 89, 90, 91, 92, 95, 98, 99, 100, 101, 102, 103, 106, 107, 108, 109, 110] then -1 else 0
def objS (x : Nat) (σ : MS) : MS := (σ.1, fun j => if j < 200 then (fun q => if q = (x : Int) then dfF j else σ.2.1 j q) else σ.2.1 j, σ.2.2)
theorem objS_eq {x j : Nat} {σ : MS} (h : j < 200) : (objS x σ).2.1 j x = dfF j := by
  show (if j < 200 then (fun q => if q = (x : Int) then dfF j else σ.2.1 j q) else σ.2.1 j) x = _
  rw [if_pos h]; exact if_pos rfl
theorem objS_ne {x j : Nat} {z : Int} {σ : MS} (h : z ≠ x) : (objS x σ).2.1 j z = σ.2.1 j z := by
  show (if j < 200 then (fun q => if q = (x : Int) then dfF j else σ.2.1 j q) else σ.2.1 j) z = _
  by_cases g : j < 200
  · rw [if_pos g]; exact if_neg h
  · rw [if_neg g]
theorem objS_hi {x j : Nat} {σ : MS} (h : 200 ≤ j) : (objS x σ).2.1 j = σ.2.1 j := if_neg (by omega)
theorem cL_same {b : Nat} {rs : List Bool} {σ τ : MS} {a : Nat} (h : ∀ j, b ≤ j → j < b + rs.length → σ.2.1 j a = τ.2.1 j a) : cL b rs σ a = cL b rs τ a := by
  induction rs generalizing b with
  | nil => rfl
  | cons r rs ih =>
    simp only [List.length_cons] at h
    simp only [cL]
    rw [h b (Nat.le_refl _) (by omega), ih (fun j h1 h2 => h j (by omega) (by omega))]
theorem cF_same {ci : Nat} {σ τ : MS} {a : Nat} (h : ∀ j, j < 200 → σ.2.1 j a = τ.2.1 j a) : cF ci σ a = cF ci τ a := cL_same (fun j _ h2 => h j (by have := cR_len ci; omega))
section NEW
variable {T : CT} {σ : MS} {P0 : PH} {x k n : Nat}
theorem ovC_new {T2 : CT} {σ2 : MS} {e : pE} (hT : ∀ a, a ≠ x → T2 a = T a) (hf : ∀ j a, j < 200 → a ≠ x → σ2.2.1 j (a : Int) = σ.2.1 j a) (hr : ∀ a, a ≠ x → (T a).1 ≠ 0 → σ2.2.1 (1000 + a) = σ.2.1 (1000 + a)) (h9 : (∃ a, a ≠ x ∧ (T a).1 = 7) → σ2.2.1 900 = σ.2.1 900) (hl : ∀ a, a ≠ x → σ2.2.2 a = σ.2.2 a) (hx : ovC T2 σ2 P0 x = some e) : pS (ovC T σ P0) x e = ovC T2 σ2 P0 := by
  funext q
  by_cases hq : q = x
  · rw [hq, pS_same, hx]
  · rw [pS_ne hq]
    unfold ovC
    rw [hT q hq]
    by_cases c0 : (T q).1 = 0
    · rw [if_pos c0, if_pos c0]
    · rw [if_neg c0, if_neg c0, hr q hq c0, hl q hq, cF_same (ci := kC (T q).1) (fun j hj => (hf j q hj hq).symm)]
      by_cases c7 : (T q).1 = 7
      · rw [h9 ⟨q, hq, c7⟩]
      · simp only [if_neg c7]
theorem DOM.new {sz : Nat} (h : DOM T sz) : DOM (tT T sz k n) (sz + 1) := fun a ha => by
  by_cases e : a = sz
  · omega
  · rw [tT_ne e] at ha; have := h a ha; omega
theorem Gd.new {T2 : CT} {σ2 σ3 : MS} {sz sz2 m : Nat} (h0 : σ3.1 0 = σ.1 0 + n) (h1 : σ3.1 1 = σ.1 1 + 1) (h : Gd (tT T sz k x) σ3 (sz + 1) T2 σ2 sz2 m) : Gd T σ sz T2 σ2 sz2 (n + m) :=
  ⟨by have := h.1; omega, h.2.1, fun a q r => by
    have e : tT T sz k x a = T a := tT_ne (by omega)
    rw [h.2.2.1 a (by omega) (by rw [e]; exact r), e], by have := h.2.2.2.1; omega, by have := h.2.2.2.2; omega⟩
theorem dom0 {sz : Nat} (h : DOM T sz) : (T sz).1 = 0 := by
  by_cases e : (T sz).1 = 0
  · exact e
  · exact absurd (h sz e) (by omega)
end NEW
section TNA
variable {d : Nat} {M : MT} {pc : Nat} {T : CT} {σ : MS} {L : List (Nat × Value)} {st : List Value} {post : Option Value → CT → MS → Prop} {a : Nat}
theorem tn_newI {N k : Nat} {z : Int} (hd : decode M.2.1 pc = .ok (.newarray .int, 2)) (hw : Cond.arrayClass .int ∈ pWW) (hk : k = 1 ∨ (11 ≤ k ∧ k ≤ 24)) (hz : z = (N : Int)) (hb : N ≤ 1000000) (kk : ∀ x, (T x).1 = 0 → Tn d M (pc + 2) (tT T x k N) (rowS (1000 + x) (fun _ => 0) (gh N σ)) L (.ref x :: st) post) : Tn d M pc T σ L (.int (iI z) :: st) post := fun P0 sz hs => by
  obtain ⟨r, T2, σ2, sz2, n9, w, hp⟩ := kk sz (dom0 hs) P0 (sz + 1) hs.new
  refine ⟨r, T2, σ2, sz2, N + n9, wp_newa (atype := .int) (tc := 0) (a0 := (N, .inl (fun _ => 0))) (o := (r, ovC T2 σ2 P0, sz2, n9)) hd hw rfl (fun cA => rfl) (iI_n_lt (b := 0) ⟨by omega, by omega⟩ inR_0 (by omega)) (by rw [iI_nat (by omega) (by omega)]; omega) (by show N * 4 ≤ _; omega) hp.1.1 ?_, hp.1.new rfl rfl, hp.2⟩
  rw [ovC_new (T := T) (σ := σ) (T2 := tT T sz k N) (σ2 := rowS (1000 + sz) (fun _ => 0) (gh N σ)) (fun a h => tT_ne h) (fun j a hj h => by rw [rowS_ne (by omega)]; rfl) (fun a h h2 => by rw [rowS_ne (by omega)]; rfl) (fun _ => by rw [rowS_ne (by omega)]; rfl) (fun a h => rfl)]
  · exact w
  · have e : IA (tT T sz k N) sz := by unfold IA; rw [tT_eq]; exact hk
    rw [ovC_i e, tT_eq, rowS_eq]
    rfl
theorem tn_newB {N : Nat} {z : Int} (hd : decode M.2.1 pc = .ok (.newarray .byte, 2)) (hw : Cond.arrayClass .byte ∈ pWW) (hz : z = (N : Int)) (hb : N ≤ 1000000) (kk : ∀ x, (T x).1 = 0 → Tn d M (pc + 2) (tT T x 2 N) (rowS (1000 + x) (fun _ => 0) (gh N σ)) L (.ref x :: st) post) : Tn d M pc T σ L (.int (iI z) :: st) post := fun P0 sz hs => by
  obtain ⟨r, T2, σ2, sz2, n9, w, hp⟩ := kk sz (dom0 hs) P0 (sz + 1) hs.new
  refine ⟨r, T2, σ2, sz2, N + n9, wp_newa (atype := .byte) (tc := 1) (a0 := (N, .inl (fun _ => 0))) (o := (r, ovC T2 σ2 P0, sz2, n9)) hd hw rfl (fun cA => rfl) (iI_n_lt (b := 0) ⟨by omega, by omega⟩ inR_0 (by omega)) (by rw [iI_nat (by omega) (by omega)]; omega) (by show N * 1 ≤ _; omega) hp.1.1 ?_, hp.1.new rfl rfl, hp.2⟩
  rw [ovC_new (T := T) (σ := σ) (T2 := tT T sz 2 N) (σ2 := rowS (1000 + sz) (fun _ => 0) (gh N σ)) (fun a h => tT_ne h) (fun j a hj h => by rw [rowS_ne (by omega)]; rfl) (fun a h h2 => by rw [rowS_ne (by omega)]; rfl) (fun _ => by rw [rowS_ne (by omega)]; rfl) (fun a h => rfl)]
  · exact w
  · rw [ovC_b (by rw [tT_eq]), tT_eq, rowS_eq]
    rfl
theorem tn_newJ {N : Nat} {z : Int} (hd : decode M.2.1 pc = .ok (.newarray .long, 2)) (hw : Cond.arrayClass .long ∈ pWW) (hz : z = (N : Int)) (hb : N ≤ 1000000) (kk : ∀ x, (T x).1 = 0 → Tn d M (pc + 2) (tT T x 3 N) (rowL x (fun _ => 0) (gh N σ)) L (.ref x :: st) post) : Tn d M pc T σ L (.int (iI z) :: st) post := fun P0 sz hs => by
  obtain ⟨r, T2, σ2, sz2, n9, w, hp⟩ := kk sz (dom0 hs) P0 (sz + 1) hs.new
  refine ⟨r, T2, σ2, sz2, N + n9, wp_newa (atype := .long) (tc := 3) (a0 := (N, .inr (.inl (fun _ => 0)))) (o := (r, ovC T2 σ2 P0, sz2, n9)) hd hw rfl (fun cA => rfl) (iI_n_lt (b := 0) ⟨by omega, by omega⟩ inR_0 (by omega)) (by rw [iI_nat (by omega) (by omega)]; omega) (by show N * 8 ≤ _; omega) hp.1.1 ?_, hp.1.new rfl rfl, hp.2⟩
  rw [ovC_new (T := T) (σ := σ) (T2 := tT T sz 3 N) (σ2 := rowL sz (fun _ => 0) (gh N σ)) (fun a h => tT_ne h) (fun j a hj h => rfl) (fun a h h2 => rfl) (fun _ => rfl) (fun a h => if_neg h)]
  · exact w
  · rw [ovC_l (by rw [tT_eq]), tT_eq]
    show some (Sum.inl (3, N, Sum.inr (Sum.inl (fun j : Nat => (rowL sz (fun _ => 0) (gh N σ)).2.2 sz j)))) = _
    have e : (rowL sz (fun _ => 0) (gh N σ)).2.2 sz = fun _ => 0 := if_pos rfl
    rw [e]
theorem tn_newO {ci ix N : Nat} {C0 : String} {Tt : u_T} {fs : List Value} (ty : Nat → FieldType) (hty : ∀ k, k < N → parseFieldDescriptor (Tt k).2.2.1 = some (ty k)) (hd : decode M.2.1 pc = .ok (.new ix, 3)) (hq : vwCl[ci]? = some (C0, Tt, N)) (hlay : ∀ w ∈ u_ws C0 Tt N, w ∈ pWW) (h1 : Cond.classLink M.1.cls ix C0 ∈ pWW) (h2 : Cond.instantiable C0 N ∈ pWW) (h3 : Cond.initialized C0 ∈ pWW) (hfs : ∀ j, j < N → defaultValue (ty j) = vp_V fs j) (hfl : fs.length = N) (hc : ci < 12) (hfd : ∀ (τ : MS) (x : Nat), (∀ j, j < 200 → τ.2.1 j x = dfF j) → cF ci τ x = fs) (kk : ∀ x, (T x).1 = 0 → Tn d M (pc + 3) (tT T x (80 + ci) 0) (objS x (gh N σ)) L (.ref x :: st) post) : Tn d M pc T σ L st post := fun P0 sz hs => by
  obtain ⟨r, T2, σ2, sz2, n9, w, hp⟩ := kk sz (dom0 hs) P0 (sz + 1) hs.new
  refine ⟨r, T2, σ2, sz2, N + n9, wp_new (o := (r, ovC T2 σ2 P0, sz2, n9)) ty hty hd hq hlay h1 h2 h3 hfs hfl hp.1.1 ?_, hp.1.new rfl rfl, hp.2⟩
  rw [ovC_new (T := T) (σ := σ) (T2 := tT T sz (80 + ci) 0) (σ2 := objS sz (gh N σ)) (fun a h => tT_ne h) (fun j a hj h => by rw [objS_ne (by omega)]; rfl) (fun a h h2 => by rw [objS_hi (by omega)]; rfl) (fun _ => by rw [objS_hi (by omega)]; rfl) (fun a h => rfl)]
  · exact w
  · have e : kC (80 + ci) = ci := by unfold kC; rw [if_neg (by omega), if_neg (by omega), if_pos (by omega)]; omega
    rw [ovC_o (by rw [tT_eq]; show 30 ≤ 80 + ci ∧ 80 + ci < 94; omega), tT_eq, e, hfd _ _ (fun j hj => objS_eq hj)]
theorem tn_anQ {ix N k : Nat} {z : Int} (hk : k = 94 ∨ k = 95) (hd : decode M.2.1 pc = .ok (.anewarray ix, 3)) (hw : Cond.classLink M.1.cls ix "LineKeeper$Code" ∈ pWW) (hz : z = (N : Int)) (hb : N ≤ 1000) (kk : ∀ x, (T x).1 = 0 → Tn d M (pc + 3) (tT T x k N) (rowS (1000 + x) (fun _ => -1) (gh N σ)) L (.ref x :: st) post) : Tn d M pc T σ L (.int (iI z) :: st) post := fun P0 sz hs => by
  obtain ⟨r, T2, σ2, sz2, n9, w, hp⟩ := kk sz (dom0 hs) P0 (sz + 1) hs.new
  refine ⟨r, T2, σ2, sz2, N + n9, wp_anewQ (N := N) hd hw (iI_n_lt (b := 0) ⟨by omega, by omega⟩ inR_0 (by omega)) (by rw [iI_nat (by omega) (by omega)]; omega) hb hp.1.1 ?_, hp.1.new rfl rfl, hp.2⟩
  rw [ovC_new (T := T) (σ := σ) (T2 := tT T sz k N) (σ2 := rowS (1000 + sz) (fun _ => -1) (gh N σ)) (fun a h => tT_ne h) (fun j a hj h => by rw [rowS_ne (by omega)]; rfl) (fun a h h2 => by rw [rowS_ne (by omega)]; rfl) (fun _ => by rw [rowS_ne (by omega)]; rfl) (fun a h => rfl)]
  · exact w
  · rw [ovC_q (by rw [tT_eq]; show k = 4 ∨ k = 5 ∨ k = 94 ∨ k = 95; omega), tT_eq, rowS_eq]
    rfl
theorem tn_anM {ix N : Nat} {z : Int} (hT : ∀ a, (T a).1 ≠ 7) (hd : decode M.2.1 pc = .ok (.anewarray ix, 3)) (hw : Cond.classLink M.1.cls ix "[I" ∈ pWW) (hz : z = (N : Int)) (hb : N ≤ 1000) (kk : ∀ x, (T x).1 = 0 → Tn d M (pc + 3) (tT T x 7 N) (rowS 900 (fun _ => -1) (gh N σ)) L (.ref x :: st) post) : Tn d M pc T σ L (.int (iI z) :: st) post := fun P0 sz hs => by
  obtain ⟨r, T2, σ2, sz2, n9, w, hp⟩ := kk sz (dom0 hs) P0 (sz + 1) hs.new
  refine ⟨r, T2, σ2, sz2, N + n9, wp_anewM (N := N) hd hw (iI_n_lt (b := 0) ⟨by omega, by omega⟩ inR_0 (by omega)) (by rw [iI_nat (by omega) (by omega)]; omega) hb hp.1.1 ?_, hp.1.new rfl rfl, hp.2⟩
  rw [ovC_new (T := T) (σ := σ) (T2 := tT T sz 7 N) (σ2 := rowS 900 (fun _ => -1) (gh N σ)) (fun a h => tT_ne h) (fun j a hj h => by rw [rowS_ne (by omega)]; rfl) (fun a h h2 => by rw [rowS_ne (by omega)]; rfl) (fun q => absurd q.choose_spec.2 (hT _)) (fun a h => rfl)]
  · exact w
  · rw [ovC_m (by rw [tT_eq]), tT_eq, rowS_eq]
    rfl
theorem tn_tag {x k ci n : Nat} (hci : ci < 12) (hx : T x = (80 + ci, n)) (hk : 30 ≤ k ∧ k < 80 ∧ kC k = ci) (kk : Tn d M pc (tT T x k n) σ L st post) : Tn d M pc T σ L st post := fun P0 sz hs => by
  have hd2 : DOM (tT T x k n) sz := fun a ha => by
    by_cases e : a = x
    · rw [e]; exact hs x (by rw [hx]; show 80 + ci ≠ 0; omega)
    · rw [tT_ne e] at ha; exact hs a ha
  obtain ⟨r, T2, σ2, sz2, n9, w, g, hp⟩ := kk P0 sz hd2
  have e : ovC (tT T x k n) σ P0 = ovC T σ P0 := by
    funext q
    by_cases hq : q = x
    · have e1 : ovC (tT T x k n) σ P0 x = some (.inr (ci, cF ci σ x)) := by
        rw [ovC_o (by rw [tT_eq]; exact ⟨hk.1, by show k < 94; omega⟩), tT_eq]
        show some (Sum.inr (kC k, cF (kC k) σ x)) = _
        rw [hk.2.2]
      have e2 : ovC T σ P0 x = some (.inr (ci, cF ci σ x)) := by
        have e3 : kC (80 + ci) = ci := by unfold kC; rw [if_neg (by omega), if_neg (by omega), if_pos (by omega)]; omega
        rw [ovC_o (by rw [hx]; show 30 ≤ 80 + ci ∧ 80 + ci < 94; omega), hx]
        show some (Sum.inr (kC (80 + ci), cF (kC (80 + ci)) σ x)) = _
        rw [e3]
      rw [hq, e1, e2]
    · unfold ovC; rw [tT_ne hq]
  rw [e] at w
  refine ⟨r, T2, σ2, sz2, n9, w, ⟨g.1, g.2.1, fun a q r => ?_, g.2.2.2.1, g.2.2.2.2⟩, hp⟩
  have hne : a ≠ x := fun h => by rw [h, hx] at r; have : 80 + ci < 80 := r; omega
  have e4 : tT T x k n a = T a := tT_ne hne
  rw [g.2.2.1 a q (by rw [e4]; exact r), e4]
theorem tn_aaldM {z : Int} {x : Nat} (hd : decode M.2.1 pc = .ok (.aaload, 1)) (ha : (T a).1 = 7) (h0 : 0 ≤ z) (h1 : z < ((T a).2 : Int)) (hn : (T a).2 ≤ 2147483647) (hv : σ.2.1 900 z = (x : Int)) (kk : Tn d M (pc + 1) T σ L (.ref x :: st) post) : Tn d M pc T σ L (.int (iI z) :: .ref a :: st) post := fun P0 sz hs => by
  obtain ⟨r, T2, σ2, sz2, n9, w, hp⟩ := kk P0 sz hs
  refine ⟨r, T2, σ2, sz2, n9, wp_aaldM hd (ovC_m ha) (iI_in h0 h1 hn) ?_, hp⟩
  rw [iI_nat h0 (by omega), show ((z.toNat : Nat) : Int) = z by omega]
  have e : va_rf (rfO (σ.2.1 900 z)) = .ref x := vl_ref hv
  rw [e]
  exact w
theorem tn_aaldMN {z : Int} (hd : decode M.2.1 pc = .ok (.aaload, 1)) (ha : (T a).1 = 7) (h0 : 0 ≤ z) (h1 : z < ((T a).2 : Int)) (hn : (T a).2 ≤ 2147483647) (hv : σ.2.1 900 z < 0) (kk : Tn d M (pc + 1) T σ L (.null :: st) post) : Tn d M pc T σ L (.int (iI z) :: .ref a :: st) post := fun P0 sz hs => by
  obtain ⟨r, T2, σ2, sz2, n9, w, hp⟩ := kk P0 sz hs
  refine ⟨r, T2, σ2, sz2, n9, wp_aaldM hd (ovC_m ha) (iI_in h0 h1 hn) ?_, hp⟩
  rw [iI_nat h0 (by omega), show ((z.toNat : Nat) : Int) = z by omega]
  have e : va_rf (rfO (σ.2.1 900 z)) = .null := vl_null hv
  rw [e]
  exact w
theorem va_up_rf {f : Int → Int} {z : Int} {v : Nat} (hz : 0 ≤ z) : va_up (fun j : Nat => rfO (f j)) z.toNat (some v) = fun j : Nat => rfO ((fun q => if q = z then (v : Int) else f q) j) := by
  funext j
  unfold va_up
  by_cases hj : j = z.toNat
  · have h2 : (j : Int) = z := by omega
    rw [if_pos hj]
    show some v = rfO (if (j : Int) = z then (v : Int) else f j)
    rw [if_pos h2]
    unfold rfO
    rw [if_neg (by omega)]
    rfl
  · have h2 : ¬ (j : Int) = z := by omega
    rw [if_neg hj]
    show rfO (f j) = rfO (if (j : Int) = z then (v : Int) else f j)
    rw [if_neg h2]
theorem tn_aastQ {z : Int} {v : Nat} (hd : decode M.2.1 pc = .ok (.aastore, 1)) (ha : (T a).1 = 4 ∨ (T a).1 = 5 ∨ (T a).1 = 94 ∨ (T a).1 = 95) (hv : OBr T v 1) (h0 : 0 ≤ z) (h1 : z < ((T a).2 : Int)) (hn : (T a).2 ≤ 2147483647) (kk : Tn d M (pc + 1) T (sA (1000 + a) z v σ) L st post) : Tn d M pc T σ L (.ref v :: .int (iI z) :: .ref a :: st) post := fun P0 sz hs => by
  obtain ⟨r, T2, σ2, sz2, n9, w, hp⟩ := kk P0 sz hs
  have hv2 : ovC T σ P0 v = some (.inr (1, cF 1 σ v)) := by
    exact ovC_or hv
  refine ⟨r, T2, σ2, sz2, n9, wp_aastQ hd (ovC_q ha) hv2 (iI_in h0 h1 hn) ?_, hp⟩
  rw [iI_nat h0 (by omega), va_up_rf h0, ovC_new (T := T) (σ := σ) (T2 := T) (σ2 := sA (1000 + a) z v σ) (fun _ _ => rfl) (fun j b hj h => by rw [sA_k (by omega)]) (fun b h h2 => by rw [sA_k (by omega)]) (fun _ => by rw [sA_k (by omega)]) (fun _ _ => rfl)]
  · exact w
  · rw [ovC_q ha]
    simp only [sA, if_true]
theorem tn_aastM {z : Int} {v : Nat} (hu : ∀ b, (T b).1 = 7 → b = a) (hd : decode M.2.1 pc = .ok (.aastore, 1)) (ha : (T a).1 = 7) (hv : IA T v) (h0 : 0 ≤ z) (h1 : z < ((T a).2 : Int)) (hn : (T a).2 ≤ 2147483647) (kk : Tn d M (pc + 1) T (sA 900 z v σ) L st post) : Tn d M pc T σ L (.ref v :: .int (iI z) :: .ref a :: st) post := fun P0 sz hs => by
  obtain ⟨r, T2, σ2, sz2, n9, w, hp⟩ := kk P0 sz hs
  refine ⟨r, T2, σ2, sz2, n9, wp_aastM (t := 0) hd (ovC_m ha) (ovC_i hv) (iI_in h0 h1 hn) ?_, hp⟩
  rw [iI_nat h0 (by omega), va_up_rf h0, ovC_new (T := T) (σ := σ) (T2 := T) (σ2 := sA 900 z v σ) (fun _ _ => rfl) (fun j b hj h => by rw [sA_k (by omega)]) (fun b h h2 => by rw [sA_k (by omega)]) (fun q => absurd (hu _ q.choose_spec.2) q.choose_spec.1) (fun _ _ => rfl)]
  · exact w
  · rw [ovC_m ha]
    simp only [sA, if_true]
def cpZ (f g : Int → Int) (sp dp n : Int) : Int → Int := fun i => if dp ≤ i ∧ i < dp + n then f (sp + (i - dp)) else g i
theorem va_cpy_i {f g : Int → Int} {sp dp n : Int} (h1 : 0 ≤ sp) (h2 : 0 ≤ dp) (h3 : 0 ≤ n) : va_cpy (fun j : Nat => iI (f j)) (fun j : Nat => iI (g j)) sp.toNat dp.toNat n.toNat = fun j : Nat => iI (cpZ f g sp dp n j) := by
  funext j
  unfold va_cpy cpZ
  by_cases h : dp.toNat ≤ j ∧ j < dp.toNat + n.toNat
  · rw [if_pos h, if_pos (by omega)]
    have e : ((sp.toNat + (j - dp.toNat) : Nat) : Int) = sp + ((j : Int) - dp) := by omega
    show iI (f ((sp.toNat + (j - dp.toNat) : Nat) : Int)) = _
    rw [e]
  · rw [if_neg h, if_neg (by omega)]
theorem tn_acopyI {ix b : Nat} {sp dp n : Int} (hd : decode M.2.1 pc = .ok (.invokestatic ix, 3)) (hw : Cond.methodLink M.1.cls ix arraycopyName ∈ pWW) (hw2 : Cond.native arraycopyName ∈ pWW) (hw3 : Cond.static arraycopyName ∈ pWW) (hw4 : Cond.initialized "java/lang/System" ∈ pWW) (ha : IA T a) (hb : IA T b) (hl : (T a).2 ≤ 1000000 ∧ (T b).2 ≤ 1000000) (h1 : 0 ≤ sp) (h2 : 0 ≤ dp) (h3 : 0 ≤ n) (h4 : sp + n ≤ ((T a).2 : Int)) (h5 : dp + n ≤ ((T b).2 : Int)) (hd1 : 0 < d) (hcat : (st.map fun v => v.category).sum ≤ 8) (kk : Tn d M (pc + 3) T (rowS (1000 + b) (cpZ (σ.2.1 (1000 + a)) (σ.2.1 (1000 + b)) sp dp n) σ) L st post) : Tn d M pc T σ L (.int (iI n) :: .int (iI dp) :: .ref b :: .int (iI sp) :: .ref a :: st) post := fun P0 sz hs => by
  obtain ⟨r, T2, σ2, sz2, n9, w, hp⟩ := kk P0 sz hs
  refine ⟨r, T2, σ2, sz2, n9, wp_acopyI hd hw hw2 hw3 hw4 (ovC_i ha) (ovC_i hb) (iI_n_lt (b := 0) ⟨by omega, by omega⟩ inR_0 (by omega)) (iI_n_lt (b := 0) ⟨by omega, by omega⟩ inR_0 (by omega)) (iI_n_lt (b := 0) ⟨by omega, by omega⟩ inR_0 (by omega)) (by rw [iI_toInt ⟨by omega, by omega⟩, iI_toInt ⟨by omega, by omega⟩]; exact h4) (by rw [iI_toInt ⟨by omega, by omega⟩, iI_toInt ⟨by omega, by omega⟩]; exact h5) hd1 hcat ?_, hp⟩
  rw [iI_nat h1 (by omega), iI_nat h2 (by omega), iI_nat h3 (by omega), va_cpy_i h1 h2 h3, ovC_new (T := T) (σ := σ) (T2 := T) (σ2 := rowS (1000 + b) (cpZ (σ.2.1 (1000 + a)) (σ.2.1 (1000 + b)) sp dp n) σ) (fun _ _ => rfl) (fun j c hj h => by rw [rowS_ne (by omega)]) (fun c h h2 => by rw [rowS_ne (by omega)]) (fun _ => by rw [rowS_ne (by omega)]) (fun _ _ => rfl)]
  · exact w
  · rw [ovC_i hb, rowS_eq]
theorem tn_stLen {Cn Fn De : String} {ty : FieldType} {N ix : Nat} {tb : List Int32} (hT : pSt Cn Fn De ty N tb) (h1 : decode M.2.1 pc = .ok (.getstatic ix, 3)) (hw : Cond.fieldLink M.1.cls ix Cn Fn De ∈ pWW) (h2 : decode M.2.1 (pc + 3) = .ok (.arraylength, 1)) (kk : Tn d M (pc + 4) T σ L (.int (iI (N : Int)) :: st) post) : Tn d M pc T σ L st post := fun P0 sz hs => by
  obtain ⟨r, T2, σ2, sz2, n9, w, hp⟩ := kk P0 sz hs
  refine ⟨r, T2, σ2, sz2, n9, wp_stLen hT h1 hw h2 ?_, hp⟩
  have e : iI (N : Int) = Int32.ofNat N := Int32.ofInt_eq_ofNat
  rw [e] at w
  exact w
theorem tn_stInt {Cn Fn De : String} {N ix i q ln : Nat} {z : Int} {tb : List Int32} (hT : pSt Cn Fn De .int N tb) (h1 : decode M.2.1 pc = .ok (.getstatic ix, 3)) (hw : Cond.fieldLink M.1.cls ix Cn Fn De ∈ pWW) (h2 : (∃ kf : Fin 4, (kf : Nat) = i ∧ ln = 1 ∧ decode M.2.1 (pc + 3) = .ok (.iload_n kf, 1)) ∨ (ln = 2 ∧ decode M.2.1 (pc + 3) = .ok (.iload i, 2))) (hq : L[q]? = some (i, .int (iI z))) (h3 : decode M.2.1 (pc + 3 + ln) = .ok (.iaload, 1)) (h0 : 0 ≤ z) (h9 : z < (N : Int)) (hN : N ≤ 100) (kk : ∀ v : Int, (inR v ∧ ∃ j : Nat, j < N ∧ iI v = tb.getD j 0) → Tn d M (pc + 3 + ln + 1) T σ L (.int (iI v) :: st) post) : Tn d M pc T σ L st post := fun P0 sz hs => by
  obtain ⟨r, T2, σ2, sz2, n9, w, hp⟩ := kk (tb.getD z.toNat 0).toInt ⟨inR_toInt _, z.toNat, by omega, iI_self _⟩ P0 sz hs
  refine ⟨r, T2, σ2, sz2, n9, wp_stInt hT h1 hw h2 hq h3 (iI_in h0 h9 (by omega)) (v := tb.getD z.toNat 0) (by rw [iI_nat h0 (by omega)]) ?_, hp⟩
  rw [iI_self] at w
  exact w
theorem tn_stIntX {Cn Fn De : String} {N ix i q ln : Nat} {z : Int} {tb : List Int32} (hT : pSt Cn Fn De .int N tb) (h1 : decode M.2.1 pc = .ok (.getstatic ix, 3)) (hw : Cond.fieldLink M.1.cls ix Cn Fn De ∈ pWW) (h2 : (∃ kf : Fin 4, (kf : Nat) = i ∧ ln = 1 ∧ decode M.2.1 (pc + 3) = .ok (.iload_n kf, 1)) ∨ (ln = 2 ∧ decode M.2.1 (pc + 3) = .ok (.iload i, 2))) (hq : L[q]? = some (i, .int (iI z))) (h3 : decode M.2.1 (pc + 3 + ln) = .ok (.iaload, 1)) (h0 : 0 ≤ z) (h9 : z < (N : Int)) (hN : N ≤ 100) (kk : ∀ v : Int, (inR v ∧ iI v = tb.getD z.toNat 0) → Tn d M (pc + 3 + ln + 1) T σ L (.int (iI v) :: st) post) : Tn d M pc T σ L st post := fun P0 sz hs => by
  obtain ⟨r, T2, σ2, sz2, n9, w, hp⟩ := kk (tb.getD z.toNat 0).toInt ⟨inR_toInt _, iI_self _⟩ P0 sz hs
  refine ⟨r, T2, σ2, sz2, n9, wp_stInt hT h1 hw h2 hq h3 (iI_in h0 h9 (by omega)) (v := tb.getD z.toNat 0) (by rw [iI_nat h0 (by omega)]) ?_, hp⟩
  rw [iI_self] at w
  exact w
theorem tn_stChrX {Cn Fn De : String} {N ix i q : Nat} {z : Int} {tb : List Int32} {kf : Fin 4} (hT : pSt Cn Fn De .char N tb) (h1 : decode M.2.1 pc = .ok (.getstatic ix, 3)) (hw : Cond.fieldLink M.1.cls ix Cn Fn De ∈ pWW) (h2 : decode M.2.1 (pc + 3) = .ok (.iload_n kf, 1)) (hk : (kf : Nat) = i) (hq : L[q]? = some (i, .int (iI z))) (h3 : decode M.2.1 (pc + 4) = .ok (.caload, 1)) (h0 : 0 ≤ z) (h9 : z < (N : Int)) (hN : N ≤ 100) (kk : ∀ v : Int, (inR v ∧ iI v = tb.getD z.toNat 0) → Tn d M (pc + 5) T σ L (.int (iI v) :: st) post) : Tn d M pc T σ L st post := fun P0 sz hs => by
  obtain ⟨r, T2, σ2, sz2, n9, w, hp⟩ := kk (tb.getD z.toNat 0).toInt ⟨inR_toInt _, iI_self _⟩ P0 sz hs
  refine ⟨r, T2, σ2, sz2, n9, wp_stChr hT h1 hw h2 hk hq h3 (iI_in h0 h9 (by omega)) (v := tb.getD z.toNat 0) (by rw [iI_nat h0 (by omega)]) ?_, hp⟩
  rw [iI_self] at w
  exact w
theorem tn_callI {M' : MT} {ix : Nat} {L1 : List (Nat × Value)} {rest As : List Value} {post1 : Option Value → CT → MS → Prop} (hd : decode M.2.1 pc = .ok (.invokespecial ix, 3)) (hM : pOk M') (hret : M'.2.2.2 = none) (hnm : M'.1.name = "<init>") (hin : Cond.instanceMethod M'.1 ∈ pWW) (hlink : Cond.methodLink M.1.cls ix M'.1 ∈ pWW) (hnp : (parseMethodDescriptor M'.1.desc).map (fun d => d.parameters.length) = some As.length) (hL : lv_args 0 (.ref a :: As) = L1) (hlen : (lg_sl (.ref a :: As)).length ≤ M'.2.2.1) (hcat : (rest.map fun v => v.category).sum ≤ 8) {st : List Value} (hst0 : st = As.reverse ++ .ref a :: rest) (h1 : Tn d M' 0 T σ L1 [] post1) (h2 : ∀ r T1 σ1, GT T T1 → post1 r T1 σ1 → Tn (d + 1) M (pc + 3) T1 σ1 L (r.toList ++ rest) post) : Tn (d + 1) M pc T σ L st post := fun P0 sz hs => by
  obtain ⟨r1, T1, σ1, s1, n1, w1, g1, p1⟩ := h1 P0 sz hs
  obtain ⟨r2, T2, σ2, s2, n2, w2, g2, p2⟩ := h2 r1 T1 σ1 (g1.gt hs) p1 P0 s1 g1.2.1
  exact ⟨r2, T2, σ2, s2, n1 + n2, wp_callI (o1 := (r1, ovC T1 σ1 P0, s1, n1)) (o2 := (r2, ovC T2 σ2 P0, s2, n2)) hd hM hret hnm hin hlink hnp hL hlen hcat g1.1 g2.1 hst0 w1 w2, g1.trans g2, p2⟩
theorem tn_callIN {M' : MT} {ix : Nat} {host : String} {L1 : List (Nat × Value)} {rest As : List Value} {post1 : Option Value → CT → MS → Prop} (hd : decode M.2.1 pc = .ok (.invokespecial ix, 3)) (hM : pOk M') (hret : M'.2.2.2 = none) (hnm : M'.1.name = "<init>") (hin : Cond.instanceMethod M'.1 ∈ pWW) (hlink : (M.1.cls, ix, M'.1, host) ∈ nst_M) (hnp : (parseMethodDescriptor M'.1.desc).map (fun d => d.parameters.length) = some As.length) (hL : lv_args 0 (.ref a :: As) = L1) (hlen : (lg_sl (.ref a :: As)).length ≤ M'.2.2.1) (hcat : (rest.map fun v => v.category).sum ≤ 8) {st : List Value} (hst0 : st = As.reverse ++ .ref a :: rest) (h1 : Tn d M' 0 T σ L1 [] post1) (h2 : ∀ r T1 σ1, GT T T1 → post1 r T1 σ1 → Tn (d + 1) M (pc + 3) T1 σ1 L (r.toList ++ rest) post) : Tn (d + 1) M pc T σ L st post := fun P0 sz hs => by
  obtain ⟨r1, T1, σ1, s1, n1, w1, g1, p1⟩ := h1 P0 sz hs
  obtain ⟨r2, T2, σ2, s2, n2, w2, g2, p2⟩ := h2 r1 T1 σ1 (g1.gt hs) p1 P0 s1 g1.2.1
  exact ⟨r2, T2, σ2, s2, n1 + n2, wp_callIN (o1 := (r1, ovC T1 σ1 P0, s1, n1)) (o2 := (r2, ovC T2 σ2 P0, s2, n2)) hd hM hret hnm hin hlink hnp hL hlen hcat g1.1 g2.1 hst0 w1 w2, g1.trans g2, p2⟩
end TNA
end
section
def cls (n : Nat) : Nat := if n < 5 then 0 else if n < 17 then 1 else if n < 18 then 2 else if n < 23 then 3 else if n < 33 then 4 else if n < 52 then 5 else if n < 55 then 6 else if n < 72 then 7 else if n < 81 then 8 else if n < 88 then 9 else if n < 95 then 10 else if n < 111 then 11 else 99
def AR (T : CT) (x k : Nat) (lo hi : Nat) : Prop := (T x).1 = k ∧ lo ≤ (T x).2 ∧ (T x).2 ≤ hi
def VOK (q : Nat) (i v : Int) : Prop := (-2147483648 ≤ v ∧ v ≤ 2147483647) ∧ (q = 11 → 0 ≤ v ∧ v ≤ 12) ∧ (q = 12 → i = 1200 → v = 0 ∨ v = 263 ∨ v = 264) ∧ (q = 13 → i % 13 = 0 → v ≠ 14 ∧ v ≠ 15) ∧ (q = 14 → v = 0)
theorem vok_1 {q : Nat} {i v : Int} (h : q = 1 ∨ (15 ≤ q ∧ q ≤ 24) ∨ q = 2) (hv : -2147483648 ≤ v ∧ v ≤ 2147483647) : VOK q i v := ⟨hv, fun e => by omega, fun e => by omega, fun e => by omega, fun e => by omega⟩
theorem vok_0 {q : Nat} {i : Int} : VOK q i 0 := ⟨⟨by omega, by omega⟩, fun _ => ⟨by omega, by omega⟩, fun _ _ => Or.inl rfl, fun _ _ => ⟨by omega, by omega⟩, fun _ => rfl⟩
theorem vok_z {q : Nat} {i v : Int} (h : v = 0) : VOK q i v := by rw [h]; exact vok_0
theorem vok_11 {i v : Int} (hv : 0 ≤ v ∧ v ≤ 12) : VOK 11 i v := ⟨⟨by omega, by omega⟩, fun _ => hv, fun e => by omega, fun e => by omega, fun e => by omega⟩
theorem vok_13 {q : Nat} {i v : Int} (h : q = 1 ∨ q = 13) (hv : -2147483648 ≤ v ∧ v ≤ 2147483647) (hk : q = 13 → i % 13 = 0 → v ≠ 14 ∧ v ≠ 15) : VOK q i v := ⟨hv, fun e => by omega, fun e => by omega, hk, fun e => by omega⟩
def FOL : List (Nat → CT → Int → Prop) := [
  (fun q T v => ∃ x : Nat, v = (x : Int) ∧ (T x).1 = 37),
  (fun q T v => ∃ x : Nat, v = (x : Int) ∧ (T x).1 = 57),
  (fun q T v => ((-2147483648 : Int) ≤ v ∧ v ≤ 2147483647)),
  (fun q T v => ((-2147483648 : Int) ≤ v ∧ v ≤ 2147483647)),
  (fun q T v => ((-2147483648 : Int) ≤ v ∧ v ≤ 2147483647)),
  (fun q T v => ∃ x : Nat, v = (x : Int) ∧ (208 ≤ (T x).2 ∧ (T x).2 ≤ 2600) ∧ (q = 50 → (T x).1 = 1) ∧ (q ≠ 50 → (T x).1 = 13)),
  (fun q T v => ((0 : Int) ≤ v ∧ v ≤ 5000) ∧ (q = 50 → v ≤ 200)),
  (fun q T v => ((0 : Int) ≤ v ∧ v ≤ 12)),
  (fun q T v => ((0 : Int) ≤ v ∧ v ≤ 4)),
  (fun q T v => ((-2147483648 : Int) ≤ v ∧ v ≤ 2147483647)),
  (fun q T v => ((0 : Int) ≤ v ∧ v ≤ 12)),
  (fun q T v => ∃ x : Nat, v = (x : Int) ∧ AR T x 1 12 12),
  (fun q T v => ∃ x : Nat, v = (x : Int) ∧ AR T x 1 12 12),
  (fun q T v => ∃ x : Nat, v = (x : Int) ∧ AR T x 1 12 12),
  (fun q T v => ∃ x : Nat, v = (x : Int) ∧ AR T x 11 12 12),
  (fun q T v => ∃ x : Nat, v = (x : Int) ∧ AR T x 1 144 144),
  (fun q T v => ∃ x : Nat, v = (x : Int) ∧ AR T x 1 13 13),
  (fun q T v => ∃ x : Nat, v = (x : Int) ∧ (T x).1 = 33),
  (fun q T v => ∃ x : Nat, v = (x : Int) ∧ AR T x 3 603 603),
  (fun q T v => ∃ x : Nat, v = (x : Int) ∧ AR T x 3 3 3),
  (fun q T v => ∃ x : Nat, v = (x : Int) ∧ AR T x 1 201 201),
  (fun q T v => ∃ x : Nat, v = (x : Int) ∧ AR T x 1 201 201),
  (fun q T v => ((-2147483648 : Int) ≤ v ∧ v ≤ 2147483647)),
  (fun q T v => ∃ x : Nat, v = (x : Int) ∧ (T x).1 = 33),
  (fun q T v => ∃ x : Nat, v = (x : Int) ∧ AR T x 1 8 8),
  (fun q T v => v < 0 ∨ ∃ x : Nat, v = (x : Int) ∧ (T x).1 = 50),
  (fun q T v => v < 0 ∨ ∃ x : Nat, v = (x : Int) ∧ (T x).1 = 50),
  (fun q T v => ((-2147483648 : Int) ≤ v ∧ v ≤ 2147483647)),
  (fun q T v => ((-2147483648 : Int) ≤ v ∧ v ≤ 2147483647)),
  (fun q T v => ((-2147483648 : Int) ≤ v ∧ v ≤ 2147483647)),
  (fun q T v => ((-2147483648 : Int) ≤ v ∧ v ≤ 2147483647)),
  (fun q T v => ((-2147483648 : Int) ≤ v ∧ v ≤ 2147483647)),
  (fun q T v => ((-2147483648 : Int) ≤ v ∧ v ≤ 2147483647)),
  (fun q T v => ∃ x : Nat, v = (x : Int) ∧ (T x).1 = 39),
  (fun q T v => ∃ x : Nat, v = (x : Int) ∧ AR T x 4 7 7),
  (fun q T v => ∃ x : Nat, v = (x : Int) ∧ (T x).1 = 31),
  (fun q T v => ∃ x : Nat, v = (x : Int) ∧ AR T x 16 256 256),
  (fun q T v => ∃ x : Nat, v = (x : Int) ∧ AR T x 17 256 256),
  (fun q T v => ((0 : Int) ≤ v ∧ v ≤ 256)),
  (fun q T v => ∃ x : Nat, v = (x : Int) ∧ AR T x 18 256 256),
  (fun q T v => ∃ x : Nat, v = (x : Int) ∧ AR T x 19 256 256),
  (fun q T v => ∃ x : Nat, v = (x : Int) ∧ AR T x 20 256 256),
  (fun q T v => ((0 : Int) ≤ v ∧ v ≤ 256)),
  (fun q T v => ((-2147483648 : Int) ≤ v ∧ v ≤ 2147483647)),
  (fun q T v => ((-2147483648 : Int) ≤ v ∧ v ≤ 2147483647)),
  (fun q T v => ((-2147483648 : Int) ≤ v ∧ v ≤ 2147483647)),
  (fun q T v => ((-2147483648 : Int) ≤ v ∧ v ≤ 2147483647)),
  (fun q T v => ((-2147483648 : Int) ≤ v ∧ v ≤ 2147483647)),
  (fun q T v => ∃ x : Nat, v = (x : Int) ∧ AR T x 21 12 12),
  (fun q T v => ∃ x : Nat, v = (x : Int) ∧ AR T x 1 8 8),
  (fun q T v => ((-2147483648 : Int) ≤ v ∧ v ≤ 2147483647)),
  (fun q T v => ((-2147483648 : Int) ≤ v ∧ v ≤ 2147483647)),
  (fun q T v => ∃ x : Nat, v = (x : Int) ∧ AR T x 1 192 192),
  (fun q T v => ∃ x : Nat, v = (x : Int) ∧ AR T x 1 192 192),
  (fun q T v => ∃ x : Nat, v = (x : Int) ∧ AR T x 3 3 3),
  (fun q T v => ∃ x : Nat, v = (x : Int) ∧ (T x).2 = 6 ∧ (q = 57 → (T x).1 = 4) ∧ (q ≠ 57 → (T x).1 = 5)),
  (fun q T v => ((-2147483648 : Int) ≤ v ∧ v ≤ 2147483647)),
  (fun q T v => ((0 : Int) ≤ v ∧ v ≤ 11184800) ∧ (q = 57 → v ≤ 8)),
  (fun q T v => ((-2147483648 : Int) ≤ v ∧ v ≤ 2147483647)),
  (fun q T v => ∃ x : Nat, v = (x : Int) ∧ AR T x 15 9 9),
  (fun q T v => ∃ x : Nat, v = (x : Int) ∧ AR T x 1 9 9),
  (fun q T v => ∃ x : Nat, v = (x : Int) ∧ (T x).2 = 9 ∧ (q = 57 → (T x).1 = 14) ∧ (q ≠ 57 → (T x).1 = 1)),
  (fun q T v => ∃ x : Nat, v = (x : Int) ∧ AR T x 1 108 108),
  (fun q T v => ∃ x : Nat, v = (x : Int) ∧ AR T x 1 1728 1728),
  (fun q T v => ∃ x : Nat, v = (x : Int) ∧ AR T x 1 200 200),
  (fun q T v => ((-2147483648 : Int) ≤ v ∧ v ≤ 2147483647)),
  (fun q T v => ((-2147483648 : Int) ≤ v ∧ v ≤ 2147483647)),
  (fun q T v => ((-2147483648 : Int) ≤ v ∧ v ≤ 2147483647)),
  (fun q T v => ((-2147483648 : Int) ≤ v ∧ v ≤ 2147483647)),
  (fun q T v => v < 0 ∨ ∃ x : Nat, v = (x : Int) ∧ (q = 57 → (T x).1 = 31) ∧ (q ≠ 57 → (T x).1 = 50)),
  (fun q T v => ((-2147483648 : Int) ≤ v ∧ v ≤ 2147483647)),
  (fun q T v => ((-2147483648 : Int) ≤ v ∧ v ≤ 2147483647)),
  (fun q T v => ∃ x : Nat, v = (x : Int) ∧ (T x).1 = 33),
  (fun q T v => ∃ x : Nat, v = (x : Int) ∧ AR T x 3 576 576),
  (fun q T v => ∃ x : Nat, v = (x : Int) ∧ AR T x 3 3 3),
  (fun q T v => ∃ x : Nat, v = (x : Int) ∧ AR T x 1 192 192),
  (fun q T v => ∃ x : Nat, v = (x : Int) ∧ AR T x 3 576 576),
  (fun q T v => ∃ x : Nat, v = (x : Int) ∧ AR T x 3 603 603),
  (fun q T v => ∃ x : Nat, v = (x : Int) ∧ AR T x 1 201 201),
  (fun q T v => ∃ x : Nat, v = (x : Int) ∧ AR T x 3 3 3),
  (fun q T v => ((0 : Int) ≤ v ∧ v ≤ 1)),
  (fun q T v => ∃ x : Nat, v = (x : Int) ∧ AR T x 12 1201 1201),
  (fun q T v => ∃ x : Nat, v = (x : Int) ∧ AR T x 22 1201 1201),
  (fun q T v => ∃ x : Nat, v = (x : Int) ∧ AR T x 23 1201 1201),
  (fun q T v => ((-1 : Int) ≤ v ∧ v ≤ 1200)),
  (fun q T v => ((-2147483648 : Int) ≤ v ∧ v ≤ 2147483647)),
  (fun q T v => ((-2147483648 : Int) ≤ v ∧ v ≤ 2147483647)),
  (fun q T v => ((-2147483648 : Int) ≤ v ∧ v ≤ 2147483647)),
  (fun q T v => ∃ x : Nat, v = (x : Int) ∧ AR T x 7 6 6),
  (fun q T v => ∃ x : Nat, v = (x : Int) ∧ AR T x 1 6 6),
  (fun q T v => ∃ x : Nat, v = (x : Int) ∧ AR T x 1 200 200),
  (fun q T v => ∃ x : Nat, v = (x : Int) ∧ AR T x 1 145 145),
  (fun q T v => v < 0 ∨ ∃ x : Nat, v = (x : Int) ∧ AR T x 1 0 32788),
  (fun q T v => ((0 : Int) ≤ v ∧ v ≤ 145)),
  (fun q T v => ((0 : Int) ≤ v ∧ v ≤ 1)),
  (fun q T v => ∃ x : Nat, v = (x : Int) ∧ AR T x 2 1200 1200),
  (fun q T v => ((0 : Int) ≤ v ∧ v ≤ 1200)),
  (fun q T v => ((0 : Int) ≤ v ∧ v ≤ 6)),
  (fun q T v => ∃ x : Nat, v = (x : Int) ∧ AR T x 4 6 6),
  (fun q T v => ∃ x : Nat, v = (x : Int) ∧ AR T x 5 6 6),
  (fun q T v => ∃ x : Nat, v = (x : Int) ∧ (T x).1 = 35),
  (fun q T v => ∃ x : Nat, v = (x : Int) ∧ (T x).1 = 33),
  (fun q T v => ∃ x : Nat, v = (x : Int) ∧ (T x).1 = 40),
  (fun q T v => ∃ x : Nat, v = (x : Int) ∧ (T x).1 = 37),
  (fun q T v => ((-2147483648 : Int) ≤ v ∧ v ≤ 2147483647)),
  (fun q T v => ((-2147483648 : Int) ≤ v ∧ v ≤ 2147483647)),
  (fun q T v => ∃ x : Nat, v = (x : Int) ∧ (T x).1 = 36),
  (fun q T v => ∃ x : Nat, v = (x : Int) ∧ (T x).1 = 32),
  (fun q T v => ∃ x : Nat, v = (x : Int) ∧ (T x).1 = 34),
  (fun q T v => ∃ x : Nat, v = (x : Int) ∧ (T x).1 = 38),
  (fun q T v => v < 0 ∨ ∃ x : Nat, v = (x : Int) ∧ (T x).1 = 30)]
def FO (n q : Nat) (T : CT) (v : Int) : Prop := (FOL.getD n (fun _ _ _ => True)) q T v
def WTA (T : CT) (σ : MS) : Prop := ∀ a, (IA T a ∨ (T a).1 = 2) → ∀ i, VOK (T a).1 i (σ.2.1 (1000 + a) i)
def WTQ (T : CT) (σ : MS) : Prop := (∀ a, (T a).1 = 4 → ∀ i, 0 ≤ i → i < ((T a).2 : Int) → ∃ x : Nat, σ.2.1 (1000 + a) i = (x : Int) ∧ (T x).1 = 31) ∧ (∀ a, (T a).1 = 5 → ∀ i, 0 ≤ i → i < ((T a).2 : Int) → ∃ x : Nat, σ.2.1 (1000 + a) i = (x : Int) ∧ (T x).1 = 50)
def WTM (T : CT) (σ : MS) : Prop := (∀ a b, (T a).1 = 7 → (T b).1 = 7 → a = b) ∧ ∀ i, 0 ≤ i → i < 6 → σ.2.1 900 i < 0 ∨ ∃ x : Nat, σ.2.1 900 i = (x : Int) ∧ AR T x 1 0 32788
def WTC (T : CT) (σ : MS) : Prop := ∀ a x : Nat, OB T a 1 → σ.2.1 5 a = (x : Int) → 13 * σ.2.1 6 a ≤ ((T x).2 : Int) ∨ 2600 ≤ (T x).2
def phL (n : Nat) : Nat := if n < 2600 then 1000 + 2 * n else 8800
def cLen (T : CT) (σ : MS) (a : Nat) : Nat := (T (σ.2.1 5 a).toNat).2
def tLen (T : CT) (σ : MS) (i : Int) : Nat := if σ.2.1 900 i < 0 then 0 else (T (σ.2.1 900 i).toNat).2
def tSum (f : Int → Nat) : Nat := f 0 + f 1 + f 2 + f 3 + f 4 + f 5
def prS (σ : MS) (b : Nat) : Nat := if σ.2.1 110 b < 0 then 0 else 5000
def BUD (e e1 b : Nat) (K : List Nat) (T : CT) (σ : MS) : Prop := K.length ≤ 19 ∧ (∀ a, a ∈ K ↔ OB T a 1) ∧ (σ.1 0 ≤ ((30000 + (K.map (fun a => phL (cLen T σ a))).sum + 9 * tSum (tLen T σ) + prS σ b + e : Nat) : Int)) ∧ (σ.1 1 ≤ ((1000 + (K.map (fun a => cLen T σ a)).sum + tSum (tLen T σ) + prS σ b + e1 : Nat) : Int))
def WTs (e e1 : Nat) (T : CT) (σ : MS) : Prop := (∀ n a, n < 111 → OB T a (cls n) → FO n (T a).1 T (σ.2.1 n a)) ∧ WTC T σ ∧ WTA T σ ∧ WTQ T σ ∧ WTM T σ ∧ ∃ b K, (∀ a, OB T a 11 → a = b) ∧ BUD e e1 b K T σ
def WT (T : CT) (σ : MS) : Prop := WTs 0 0 T σ
section WTS
variable {T : CT} {σ τ : MS} {n a : Nat} {v z : Int}
theorem cLen_put (h : n ≠ 5) : cLen T (sA n z v σ) = cLen T σ := by
  funext b; unfold cLen; rw [sA_k (by omega)]
theorem tLen_put (h : n ≠ 900) : tLen T (sA n z v σ) = tLen T σ := by
  funext b; unfold tLen; rw [sA_k (by omega)]
theorem prS_put {b : Nat} (h : n ≠ 110) : prS (sA n z v σ) b = prS σ b := by
  unfold prS; rw [sA_k (by omega)]
theorem BUD.put {e e1 b : Nat} {K : List Nat} (h : BUD e e1 b K T σ) (h1 : n ≠ 5) (h2 : n ≠ 900) (h3 : n ≠ 110) : BUD e e1 b K T (sA n z v σ) := by
  unfold BUD
  rw [cLen_put h1, tLen_put h2, prS_put h3]
  exact h
theorem WT.put0 (h : WT T σ) (hn : n < 111) (hv : FO n (T a).1 T v) (hc : WTC T (sA n a v σ)) (hb : ∃ b K, (∀ a, OB T a 11 → a = b) ∧ BUD 0 0 b K T (sA n a v σ)) : WT T (sA n a v σ) := by
  obtain ⟨h1, h2, h3, h4, h5, h6⟩ := h
  refine ⟨fun m b q w => ?_, hc, fun b q => ?_, ⟨fun b q => ?_, fun b q => ?_⟩, ⟨h5.1, ?_⟩, hb⟩
  · by_cases e : m = n
    · by_cases f : b = a
      · rw [e, f, show (sA n a v σ).2.1 n a = v from ra_eq]; exact hv
      · rw [sA_ne (by omega)]; exact h1 m b q w
    · rw [sA_k e]; exact h1 m b q w
  · rw [sA_k (by omega)]; exact h3 b q
  · rw [sA_k (by omega)]; exact h4.1 b q
  · rw [sA_k (by omega)]; exact h4.2 b q
  · rw [sA_k (by omega)]; exact h5.2
theorem WT.put (h : WT T σ) (hn : n < 111) (h5 : n ≠ 5 ∧ n ≠ 6 ∧ n ≠ 110) (hv : FO n (T a).1 T v) : WT T (sA n a v σ) := by
  obtain ⟨b, K, e, w⟩ := h.2.2.2.2.2
  refine h.put0 hn hv (fun c x q r => ?_) ⟨b, K, e, w.put h5.1 (by omega) h5.2.2⟩
  rw [sA_k (by omega)] at r
  rw [sA_k (by omega)]
  exact h.2.1 c x q r
theorem WT.put6 {x : Nat} (h : WT T σ) (hx : σ.2.1 5 a = (x : Int)) (hv : FO 6 (T a).1 T v) (hl : 13 * v ≤ ((T x).2 : Int) ∨ 2600 ≤ (T x).2) : WT T (sA 6 a v σ) := by
  obtain ⟨b, K, e, w⟩ := h.2.2.2.2.2
  refine h.put0 (by omega) hv (fun c y q r => ?_) ⟨b, K, e, w.put (by omega) (by omega) (by omega)⟩
  rw [sA_k (by omega)] at r
  by_cases f : c = a
  · rw [f] at r
    have e2 : y = x := by omega
    rw [f, show (sA 6 a v σ).2.1 6 a = v from ra_eq, e2]
    exact hl
  · rw [sA_ne (by omega)]
    exact h.2.1 c y q r
theorem WT.row {f : Int → Int} (h : WT T σ) (ha : IA T a ∨ (T a).1 = 2) (hv : ∀ i, VOK (T a).1 i (f i)) : WT T (rowS (1000 + a) f σ) := by
  obtain ⟨h1, h2, h3, h4, h5, b, K, h6, h7⟩ := h
  have ha2 : (T a).1 ≠ 4 ∧ (T a).1 ≠ 5 := by unfold IA at ha; omega
  refine ⟨fun m b q w => by rw [rowS_ne (by omega)]; exact h1 m b q w, fun c x q r => ?_, fun b q i => ?_, ⟨fun b q => ?_, fun b q => ?_⟩, ⟨h5.1, by rw [rowS_ne (by omega)]; exact h5.2⟩, b, K, h6, ?_⟩
  · rw [rowS_ne (by omega)] at r; rw [rowS_ne (by omega)]; exact h2 c x q r
  · by_cases e : b = a
    · rw [e, rowS_eq]; exact hv i
    · rw [rowS_ne (by omega)]; exact h3 b q i
  · have hb : b ≠ a := fun e => by rw [e] at q; omega
    rw [rowS_ne (by omega)]; exact h4.1 b q
  · have hb : b ≠ a := fun e => by rw [e] at q; omega
    rw [rowS_ne (by omega)]; exact h4.2 b q
  · have e1 : cLen T (rowS (1000 + a) f σ) = cLen T σ := by funext b; unfold cLen; rw [rowS_ne (by omega)]
    have e2 : tLen T (rowS (1000 + a) f σ) = tLen T σ := by funext b; unfold tLen; rw [rowS_ne (by omega)]
    have e3 : prS (rowS (1000 + a) f σ) b = prS σ b := by unfold prS; rw [rowS_ne (by omega)]
    unfold BUD
    rw [e1, e2, e3]
    exact h7
theorem sA_row {r : Nat} : sA r z v σ = rowS r (fun q => if q = z then v else σ.2.1 r q) σ := rfl
theorem WT.arr (h : WT T σ) (ha : IA T a ∨ (T a).1 = 2) (hv : VOK (T a).1 z v) : WT T (sA (1000 + a) z v σ) := by
  rw [sA_row]
  refine h.row ha (fun i => ?_)
  by_cases e : i = z
  · rw [if_pos e, e]; exact hv
  · rw [if_neg e]; exact h.2.2.1 a ha i
theorem WT.lng {w : Int64} (h : WT T σ) : WT T (sJ n z w σ) := h
theorem WT.rowL {f : Int → Int64} (h : WT T σ) : WT T (rowL n f σ) := h
theorem WT.rq {x : Nat} (h : WT T σ) (ha : (T a).1 = 4 ∧ (T x).1 = 31 ∨ (T a).1 = 5 ∧ (T x).1 = 50) : WT T (sA (1000 + a) z x σ) := by
  obtain ⟨h1, h2, h3, h4, h5, b, K, h6, h7⟩ := h
  refine ⟨fun m b q w => by rw [sA_k (by omega)]; exact h1 m b q w, fun c x q r => ?_, fun b q i => ?_, ⟨fun b q i i0 i1 => ?_, fun b q i i0 i1 => ?_⟩, ⟨h5.1, by rw [sA_k (by omega)]; exact h5.2⟩, b, K, h6, h7.put (by omega) (by omega) (by omega)⟩
  · rw [sA_k (by omega)] at r; rw [sA_k (by omega)]; exact h2 c x q r
  · have hb : b ≠ a := fun e => by unfold IA at q; rw [e] at q; omega
    rw [sA_k (by omega)]; exact h3 b q i
  · by_cases e : b = a
    · by_cases f : i = z
      · rw [e, f, show (sA (1000 + a) z x σ).2.1 (1000 + a) z = x from ra_eq]; rw [e] at q; exact ⟨x, rfl, by omega⟩
      · rw [sA_ne f]; exact h4.1 b q i i0 i1
    · rw [sA_k (by omega)]; exact h4.1 b q i i0 i1
  · by_cases e : b = a
    · by_cases f : i = z
      · rw [e, f, show (sA (1000 + a) z x σ).2.1 (1000 + a) z = x from ra_eq]; rw [e] at q; exact ⟨x, rfl, by omega⟩
      · rw [sA_ne f]; exact h4.2 b q i i0 i1
    · rw [sA_k (by omega)]; exact h4.2 b q i i0 i1
end WTS
def HT (q : Nat) : Prop := q = 2 ∨ q = 12 ∨ (15 ≤ q ∧ q ≤ 24)
def NH (T : CT) (x : Nat) : Prop := ¬ HT (T x).1
def HK (T : CT) (ks : List Nat) (a : Nat) : Prop := HT (T a).1 → 500 + (T a).1 ∈ ks
theorem hk_in {T : CT} {ks : List Nat} {a q : Nat} (h : (T a).1 = q) (m : 500 + q ∈ ks) : HK T ks a := fun _ => by rw [h]; exact m
theorem hk_no {T : CT} {ks : List Nat} {a : Nat} (h : NH T a) : HK T ks a := fun q => absurd q h
theorem nh_k {T : CT} {x k : Nat} (h : (T x).1 = k) (g : ¬ HT k) : NH T x := fun q => g (by rw [← h]; exact q)
theorem GT.nh {T T2 : CT} {x : Nat} (g : GT T T2) (h : NH T2 x) : NH T x := fun w => h (by
  rw [g x (by unfold HT at w; omega) (by unfold HT at w; omega)]; exact w)
def FrC (T : CT) (ks : List Nat) (σ τ : MS) : Prop := (∀ k, (k < 200 ∨ k = 900) → k ∉ ks → τ.2.1 k = σ.2.1 k) ∧ (∀ a, HT (T a).1 → 500 + (T a).1 ∉ ks → τ.2.1 (1000 + a) = σ.2.1 (1000 + a))
section FRC
variable {T T2 : CT} {ks ls : List Nat} {σ τ υ : MS} {k : Nat}
theorem FrC.rfl : FrC T ks σ σ := ⟨fun _ _ _ => Eq.refl _, fun _ _ _ => Eq.refl _⟩
theorem FrC.trans (h : FrC T ks σ τ) (g : FrC T ks τ υ) : FrC T ks σ υ := ⟨fun k a b => (g.1 k a b).trans (h.1 k a b), fun k a b => (g.2 k a b).trans (h.2 k a b)⟩
theorem FrC.sub (h : FrC T ks σ τ) (e : ∀ k ∈ ks, k ∈ ls) : FrC T ls σ τ := ⟨fun k a b => h.1 k a (fun q => b (e k q)), fun x y z => h.2 x y (fun q => z (e _ q))⟩
theorem FrC.old (h : FrC T2 ks σ τ) (g : GT T T2) : FrC T ks σ τ := ⟨h.1, fun a b c => by
  have e := g a (by unfold HT at b; omega) (by unfold HT at b; omega)
  exact h.2 a (by rw [e]; exact b) (by rw [e]; exact c)⟩
theorem FrC.put {z v : Int} (h : FrC T ks σ τ) (hk : k ∈ ks) (h2 : k < 200) : FrC T ks σ (sA k z v τ) := ⟨fun j a b => by
  rw [sA_k (fun e => b (by rw [e]; exact hk))]
  exact h.1 j a b, fun a b c => by rw [sA_k (by omega)]; exact h.2 a b c⟩
theorem FrC.put9 {z v : Int} (h : FrC T ks σ τ) (hk : 900 ∈ ks) : FrC T ks σ (sA 900 z v τ) := ⟨fun j a b => by
  rw [sA_k (fun e => b (by rw [e]; exact hk))]
  exact h.1 j a b, fun a b c => by rw [sA_k (by omega)]; exact h.2 a b c⟩
theorem FrC.row {a : Nat} {f : Int → Int} (h : FrC T ks σ τ) (ha : HK T ks a) : FrC T ks σ (rowS (1000 + a) f τ) := ⟨fun j q b => by
  rw [rowS_ne (by omega)]
  exact h.1 j q b, fun x b c => by
    have e : x ≠ a := fun e => c (by rw [e]; exact ha (by rw [← e]; exact b))
    rw [rowS_ne (by omega)]; exact h.2 x b c⟩
theorem FrC.arr {a : Nat} {z v : Int} (h : FrC T ks σ τ) (ha : HK T ks a) : FrC T ks σ (sA (1000 + a) z v τ) := by
  rw [sA_row]; exact h.row ha
theorem FrC.lng {a : Nat} {z : Int} {v : Int64} (h : FrC T ks σ τ) : FrC T ks σ (sJ a z v τ) := h
theorem FrC.rowL {a : Nat} {f : Int → Int64} (h : FrC T ks σ τ) : FrC T ks σ (rowL a f τ) := h
theorem FrC.gh {n : Nat} (h : FrC T ks σ τ) : FrC T ks σ (gh n τ) := h
theorem rc_F {z v : Int} (f : FrC T ks σ τ) (h : k < 200 ∨ k = 900) (g : k ∉ ks) (e : σ.2.1 k z = v) : τ.2.1 k z = v := by
  rw [f.1 k h g]; exact e
theorem rc_o {j : Nat} {z i w v : Int} (h : k ≠ j) (e : σ.2.1 k z = v) : (sA j i w σ).2.1 k z = v := ra_o h e
theorem rc_a {a : Nat} {z i w v : Int} (h : k < 200 ∨ k = 900) (e : σ.2.1 k z = v) : (sA (1000 + a) i w σ).2.1 k z = v := ra_o (by omega) e
theorem rc_r {a : Nat} {f : Int → Int} {z v : Int} (h : k < 200 ∨ k = 900) (e : σ.2.1 k z = v) : (rowS (1000 + a) f σ).2.1 k z = v := by rw [rowS_ne (by omega)]; exact e
end FRC
section GRW
variable {T T2 : CT} {a c k : Nat}
theorem GT.kk (g : GT T T2) (h : (T a).1 = k) (h0 : 0 < k) (h1 : k < 80) : (T2 a).1 = k := by rw [g a (by omega) (by omega)]; exact h
theorem GT.ob (g : GT T T2) (h : OB T a c) : OB T2 a c := by
  have e := g a (by have := h.1; omega) h.2.2
  unfold OB; rw [e]; exact h
theorem GT.at (g : GT T T2) (h : 0 < (T a).1 ∧ (T a).1 < 80) : T2 a = T a := g a (by omega) h.2
end GRW
section RDN
variable {d : Nat} {M : MT} {pc : Nat} {T : CT} {σ : MS} {L : List (Nat × Value)} {st : List Value} {post : Option Value → CT → MS → Prop} {a : Nat}
theorem tn_ialdX {z : Int} (hw : WT T σ) (hd : decode M.2.1 pc = .ok (.iaload, 1)) (ha : IA T a) (h0 : 0 ≤ z) (h1 : z < ((T a).2 : Int)) (hn : (T a).2 ≤ 2147483647) (kk : ∀ v, v = σ.2.1 (1000 + a) z → -2147483648 ≤ v ∧ v ≤ 2147483647 → VOK (T a).1 z v → Tn d M (pc + 1) T σ L (.int (iI v) :: st) post) : Tn d M pc T σ L (.int (iI z) :: .ref a :: st) post :=
  tn_iald hd ha h0 h1 hn rfl (kk _ rfl (hw.2.2.1 a (Or.inl ha) z).1 (hw.2.2.1 a (Or.inl ha) z))
theorem tn_alenX (hd : decode M.2.1 pc = .ok (.arraylength, 1)) (ha : IA T a ∨ (T a).1 = 2 ∨ (T a).1 = 3 ∨ (T a).1 = 4 ∨ (T a).1 = 5 ∨ (T a).1 = 7) (kk : Tn d M (pc + 1) T σ L (.int (iI ((T a).2 : Int)) :: st) post) : Tn d M pc T σ L (.ref a :: st) post := by
  rcases ha with h | h | h | h | h | h
  · exact tn_alen hd (fun P0 => ovC_i h) rfl kk
  · exact tn_alen hd (fun P0 => ovC_b h) rfl kk
  · exact tn_alen hd (fun P0 => ovC_l h) rfl kk
  · exact tn_alen hd (fun P0 => ovC_q (by omega)) rfl kk
  · exact tn_alen hd (fun P0 => ovC_q (by omega)) rfl kk
  · exact tn_alen hd (fun P0 => ovC_m h) rfl kk
end RDN
section WFS
variable {T : CT} {σ : MS} {a q : Nat} {v : Int}

theorem wf_0 (h : WT T σ) (ha : OB T a 0) : ∃ x : Nat, σ.2.1 0 a = (x : Int) ∧ (T x).1 = 37 := h.1 0 a (by decide) ha
theorem fo_0 (h : ∃ x : Nat, v = (x : Int) ∧ (T x).1 = 37) : FO 0 q T v := h
theorem wf_1 (h : WT T σ) (ha : OB T a 0) : ∃ x : Nat, σ.2.1 1 a = (x : Int) ∧ (T x).1 = 57 := h.1 1 a (by decide) ha
theorem fo_1 (h : ∃ x : Nat, v = (x : Int) ∧ (T x).1 = 57) : FO 1 q T v := h
theorem wf_2 (h : WT T σ) (ha : OB T a 0) : ((-2147483648 : Int) ≤ σ.2.1 2 a ∧ σ.2.1 2 a ≤ 2147483647) := h.1 2 a (by decide) ha
theorem fo_2 (h : ((-2147483648 : Int) ≤ v ∧ v ≤ 2147483647)) : FO 2 q T v := h
theorem wf_3 (h : WT T σ) (ha : OB T a 0) : ((-2147483648 : Int) ≤ σ.2.1 3 a ∧ σ.2.1 3 a ≤ 2147483647) := h.1 3 a (by decide) ha
theorem fo_3 (h : ((-2147483648 : Int) ≤ v ∧ v ≤ 2147483647)) : FO 3 q T v := h
theorem wf_4 (h : WT T σ) (ha : OB T a 0) : ((-2147483648 : Int) ≤ σ.2.1 4 a ∧ σ.2.1 4 a ≤ 2147483647) := h.1 4 a (by decide) ha
theorem fo_4 (h : ((-2147483648 : Int) ≤ v ∧ v ≤ 2147483647)) : FO 4 q T v := h
theorem wf_5 (h : WT T σ) (ha : OB T a 1) : ∃ x : Nat, σ.2.1 5 a = (x : Int) ∧ (208 ≤ (T x).2 ∧ (T x).2 ≤ 2600) ∧ ((T a).1 = 50 → (T x).1 = 1) ∧ ((T a).1 ≠ 50 → (T x).1 = 13) := h.1 5 a (by decide) ha
theorem fo_5 (h : ∃ x : Nat, v = (x : Int) ∧ (208 ≤ (T x).2 ∧ (T x).2 ≤ 2600) ∧ (q = 50 → (T x).1 = 1) ∧ (q ≠ 50 → (T x).1 = 13)) : FO 5 q T v := h
theorem wf_6 (h : WT T σ) (ha : OB T a 1) : ((0 : Int) ≤ σ.2.1 6 a ∧ σ.2.1 6 a ≤ 5000) ∧ ((T a).1 = 50 → σ.2.1 6 a ≤ 200) := h.1 6 a (by decide) ha
theorem fo_6 (h : ((0 : Int) ≤ v ∧ v ≤ 5000) ∧ (q = 50 → v ≤ 200)) : FO 6 q T v := h
theorem wf_7 (h : WT T σ) (ha : OB T a 1) : ((0 : Int) ≤ σ.2.1 7 a ∧ σ.2.1 7 a ≤ 12) := h.1 7 a (by decide) ha
theorem fo_7 (h : ((0 : Int) ≤ v ∧ v ≤ 12)) : FO 7 q T v := h
theorem wf_8 (h : WT T σ) (ha : OB T a 1) : ((0 : Int) ≤ σ.2.1 8 a ∧ σ.2.1 8 a ≤ 4) := h.1 8 a (by decide) ha
theorem fo_8 (h : ((0 : Int) ≤ v ∧ v ≤ 4)) : FO 8 q T v := h
theorem wf_9 (h : WT T σ) (ha : OB T a 1) : ((-2147483648 : Int) ≤ σ.2.1 9 a ∧ σ.2.1 9 a ≤ 2147483647) := h.1 9 a (by decide) ha
theorem fo_9 (h : ((-2147483648 : Int) ≤ v ∧ v ≤ 2147483647)) : FO 9 q T v := h
theorem wf_10 (h : WT T σ) (ha : OB T a 1) : ((0 : Int) ≤ σ.2.1 10 a ∧ σ.2.1 10 a ≤ 12) := h.1 10 a (by decide) ha
theorem fo_10 (h : ((0 : Int) ≤ v ∧ v ≤ 12)) : FO 10 q T v := h
theorem wf_11 (h : WT T σ) (ha : OB T a 1) : ∃ x : Nat, σ.2.1 11 a = (x : Int) ∧ AR T x 1 12 12 := h.1 11 a (by decide) ha
theorem fo_11 (h : ∃ x : Nat, v = (x : Int) ∧ AR T x 1 12 12) : FO 11 q T v := h
theorem wf_12 (h : WT T σ) (ha : OB T a 1) : ∃ x : Nat, σ.2.1 12 a = (x : Int) ∧ AR T x 1 12 12 := h.1 12 a (by decide) ha
theorem fo_12 (h : ∃ x : Nat, v = (x : Int) ∧ AR T x 1 12 12) : FO 12 q T v := h
theorem wf_13 (h : WT T σ) (ha : OB T a 1) : ∃ x : Nat, σ.2.1 13 a = (x : Int) ∧ AR T x 1 12 12 := h.1 13 a (by decide) ha
theorem fo_13 (h : ∃ x : Nat, v = (x : Int) ∧ AR T x 1 12 12) : FO 13 q T v := h
theorem wf_14 (h : WT T σ) (ha : OB T a 1) : ∃ x : Nat, σ.2.1 14 a = (x : Int) ∧ AR T x 11 12 12 := h.1 14 a (by decide) ha
theorem fo_14 (h : ∃ x : Nat, v = (x : Int) ∧ AR T x 11 12 12) : FO 14 q T v := h
theorem wf_15 (h : WT T σ) (ha : OB T a 1) : ∃ x : Nat, σ.2.1 15 a = (x : Int) ∧ AR T x 1 144 144 := h.1 15 a (by decide) ha
theorem fo_15 (h : ∃ x : Nat, v = (x : Int) ∧ AR T x 1 144 144) : FO 15 q T v := h
theorem wf_16 (h : WT T σ) (ha : OB T a 1) : ∃ x : Nat, σ.2.1 16 a = (x : Int) ∧ AR T x 1 13 13 := h.1 16 a (by decide) ha
theorem fo_16 (h : ∃ x : Nat, v = (x : Int) ∧ AR T x 1 13 13) : FO 16 q T v := h
theorem wf_17 (h : WT T σ) (ha : OB T a 2) : ∃ x : Nat, σ.2.1 17 a = (x : Int) ∧ (T x).1 = 33 := h.1 17 a (by decide) ha
theorem fo_17 (h : ∃ x : Nat, v = (x : Int) ∧ (T x).1 = 33) : FO 17 q T v := h
theorem wf_18 (h : WT T σ) (ha : OB T a 3) : ∃ x : Nat, σ.2.1 18 a = (x : Int) ∧ AR T x 3 603 603 := h.1 18 a (by decide) ha
theorem fo_18 (h : ∃ x : Nat, v = (x : Int) ∧ AR T x 3 603 603) : FO 18 q T v := h
theorem wf_19 (h : WT T σ) (ha : OB T a 3) : ∃ x : Nat, σ.2.1 19 a = (x : Int) ∧ AR T x 3 3 3 := h.1 19 a (by decide) ha
theorem fo_19 (h : ∃ x : Nat, v = (x : Int) ∧ AR T x 3 3 3) : FO 19 q T v := h
theorem wf_20 (h : WT T σ) (ha : OB T a 3) : ∃ x : Nat, σ.2.1 20 a = (x : Int) ∧ AR T x 1 201 201 := h.1 20 a (by decide) ha
theorem fo_20 (h : ∃ x : Nat, v = (x : Int) ∧ AR T x 1 201 201) : FO 20 q T v := h
theorem wf_21 (h : WT T σ) (ha : OB T a 3) : ∃ x : Nat, σ.2.1 21 a = (x : Int) ∧ AR T x 1 201 201 := h.1 21 a (by decide) ha
theorem fo_21 (h : ∃ x : Nat, v = (x : Int) ∧ AR T x 1 201 201) : FO 21 q T v := h
theorem wf_22 (h : WT T σ) (ha : OB T a 3) : ((-2147483648 : Int) ≤ σ.2.1 22 a ∧ σ.2.1 22 a ≤ 2147483647) := h.1 22 a (by decide) ha
theorem fo_22 (h : ((-2147483648 : Int) ≤ v ∧ v ≤ 2147483647)) : FO 22 q T v := h
theorem wf_23 (h : WT T σ) (ha : OB T a 4) : ∃ x : Nat, σ.2.1 23 a = (x : Int) ∧ (T x).1 = 33 := h.1 23 a (by decide) ha
theorem fo_23 (h : ∃ x : Nat, v = (x : Int) ∧ (T x).1 = 33) : FO 23 q T v := h
theorem wf_24 (h : WT T σ) (ha : OB T a 4) : ∃ x : Nat, σ.2.1 24 a = (x : Int) ∧ AR T x 1 8 8 := h.1 24 a (by decide) ha
theorem fo_24 (h : ∃ x : Nat, v = (x : Int) ∧ AR T x 1 8 8) : FO 24 q T v := h
theorem wf_25 (h : WT T σ) (ha : OB T a 4) : σ.2.1 25 a < 0 ∨ ∃ x : Nat, σ.2.1 25 a = (x : Int) ∧ (T x).1 = 50 := h.1 25 a (by decide) ha
theorem fo_25 (h : v < 0 ∨ ∃ x : Nat, v = (x : Int) ∧ (T x).1 = 50) : FO 25 q T v := h
theorem wf_26 (h : WT T σ) (ha : OB T a 4) : σ.2.1 26 a < 0 ∨ ∃ x : Nat, σ.2.1 26 a = (x : Int) ∧ (T x).1 = 50 := h.1 26 a (by decide) ha
theorem fo_26 (h : v < 0 ∨ ∃ x : Nat, v = (x : Int) ∧ (T x).1 = 50) : FO 26 q T v := h
theorem wf_27 (h : WT T σ) (ha : OB T a 4) : ((-2147483648 : Int) ≤ σ.2.1 27 a ∧ σ.2.1 27 a ≤ 2147483647) := h.1 27 a (by decide) ha
theorem fo_27 (h : ((-2147483648 : Int) ≤ v ∧ v ≤ 2147483647)) : FO 27 q T v := h
theorem wf_28 (h : WT T σ) (ha : OB T a 4) : ((-2147483648 : Int) ≤ σ.2.1 28 a ∧ σ.2.1 28 a ≤ 2147483647) := h.1 28 a (by decide) ha
theorem fo_28 (h : ((-2147483648 : Int) ≤ v ∧ v ≤ 2147483647)) : FO 28 q T v := h
theorem wf_29 (h : WT T σ) (ha : OB T a 4) : ((-2147483648 : Int) ≤ σ.2.1 29 a ∧ σ.2.1 29 a ≤ 2147483647) := h.1 29 a (by decide) ha
theorem fo_29 (h : ((-2147483648 : Int) ≤ v ∧ v ≤ 2147483647)) : FO 29 q T v := h
theorem wf_30 (h : WT T σ) (ha : OB T a 4) : ((-2147483648 : Int) ≤ σ.2.1 30 a ∧ σ.2.1 30 a ≤ 2147483647) := h.1 30 a (by decide) ha
theorem fo_30 (h : ((-2147483648 : Int) ≤ v ∧ v ≤ 2147483647)) : FO 30 q T v := h
theorem wf_31 (h : WT T σ) (ha : OB T a 4) : ((-2147483648 : Int) ≤ σ.2.1 31 a ∧ σ.2.1 31 a ≤ 2147483647) := h.1 31 a (by decide) ha
theorem fo_31 (h : ((-2147483648 : Int) ≤ v ∧ v ≤ 2147483647)) : FO 31 q T v := h
theorem wf_32 (h : WT T σ) (ha : OB T a 4) : ((-2147483648 : Int) ≤ σ.2.1 32 a ∧ σ.2.1 32 a ≤ 2147483647) := h.1 32 a (by decide) ha
theorem fo_32 (h : ((-2147483648 : Int) ≤ v ∧ v ≤ 2147483647)) : FO 32 q T v := h
theorem wf_33 (h : WT T σ) (ha : OB T a 5) : ∃ x : Nat, σ.2.1 33 a = (x : Int) ∧ (T x).1 = 39 := h.1 33 a (by decide) ha
theorem fo_33 (h : ∃ x : Nat, v = (x : Int) ∧ (T x).1 = 39) : FO 33 q T v := h
theorem wf_34 (h : WT T σ) (ha : OB T a 5) : ∃ x : Nat, σ.2.1 34 a = (x : Int) ∧ AR T x 4 7 7 := h.1 34 a (by decide) ha
theorem fo_34 (h : ∃ x : Nat, v = (x : Int) ∧ AR T x 4 7 7) : FO 34 q T v := h
theorem wf_35 (h : WT T σ) (ha : OB T a 5) : ∃ x : Nat, σ.2.1 35 a = (x : Int) ∧ (T x).1 = 31 := h.1 35 a (by decide) ha
theorem fo_35 (h : ∃ x : Nat, v = (x : Int) ∧ (T x).1 = 31) : FO 35 q T v := h
theorem wf_36 (h : WT T σ) (ha : OB T a 5) : ∃ x : Nat, σ.2.1 36 a = (x : Int) ∧ AR T x 16 256 256 := h.1 36 a (by decide) ha
theorem fo_36 (h : ∃ x : Nat, v = (x : Int) ∧ AR T x 16 256 256) : FO 36 q T v := h
theorem wf_37 (h : WT T σ) (ha : OB T a 5) : ∃ x : Nat, σ.2.1 37 a = (x : Int) ∧ AR T x 17 256 256 := h.1 37 a (by decide) ha
theorem fo_37 (h : ∃ x : Nat, v = (x : Int) ∧ AR T x 17 256 256) : FO 37 q T v := h
theorem wf_38 (h : WT T σ) (ha : OB T a 5) : ((0 : Int) ≤ σ.2.1 38 a ∧ σ.2.1 38 a ≤ 256) := h.1 38 a (by decide) ha
theorem fo_38 (h : ((0 : Int) ≤ v ∧ v ≤ 256)) : FO 38 q T v := h
theorem wf_39 (h : WT T σ) (ha : OB T a 5) : ∃ x : Nat, σ.2.1 39 a = (x : Int) ∧ AR T x 18 256 256 := h.1 39 a (by decide) ha
theorem fo_39 (h : ∃ x : Nat, v = (x : Int) ∧ AR T x 18 256 256) : FO 39 q T v := h
theorem wf_40 (h : WT T σ) (ha : OB T a 5) : ∃ x : Nat, σ.2.1 40 a = (x : Int) ∧ AR T x 19 256 256 := h.1 40 a (by decide) ha
theorem fo_40 (h : ∃ x : Nat, v = (x : Int) ∧ AR T x 19 256 256) : FO 40 q T v := h
theorem wf_41 (h : WT T σ) (ha : OB T a 5) : ∃ x : Nat, σ.2.1 41 a = (x : Int) ∧ AR T x 20 256 256 := h.1 41 a (by decide) ha
theorem fo_41 (h : ∃ x : Nat, v = (x : Int) ∧ AR T x 20 256 256) : FO 41 q T v := h
theorem wf_42 (h : WT T σ) (ha : OB T a 5) : ((0 : Int) ≤ σ.2.1 42 a ∧ σ.2.1 42 a ≤ 256) := h.1 42 a (by decide) ha
theorem fo_42 (h : ((0 : Int) ≤ v ∧ v ≤ 256)) : FO 42 q T v := h
theorem wf_43 (h : WT T σ) (ha : OB T a 5) : ((-2147483648 : Int) ≤ σ.2.1 43 a ∧ σ.2.1 43 a ≤ 2147483647) := h.1 43 a (by decide) ha
theorem fo_43 (h : ((-2147483648 : Int) ≤ v ∧ v ≤ 2147483647)) : FO 43 q T v := h
theorem wf_44 (h : WT T σ) (ha : OB T a 5) : ((-2147483648 : Int) ≤ σ.2.1 44 a ∧ σ.2.1 44 a ≤ 2147483647) := h.1 44 a (by decide) ha
theorem fo_44 (h : ((-2147483648 : Int) ≤ v ∧ v ≤ 2147483647)) : FO 44 q T v := h
theorem wf_45 (h : WT T σ) (ha : OB T a 5) : ((-2147483648 : Int) ≤ σ.2.1 45 a ∧ σ.2.1 45 a ≤ 2147483647) := h.1 45 a (by decide) ha
theorem fo_45 (h : ((-2147483648 : Int) ≤ v ∧ v ≤ 2147483647)) : FO 45 q T v := h
theorem wf_46 (h : WT T σ) (ha : OB T a 5) : ((-2147483648 : Int) ≤ σ.2.1 46 a ∧ σ.2.1 46 a ≤ 2147483647) := h.1 46 a (by decide) ha
theorem fo_46 (h : ((-2147483648 : Int) ≤ v ∧ v ≤ 2147483647)) : FO 46 q T v := h
theorem wf_47 (h : WT T σ) (ha : OB T a 5) : ((-2147483648 : Int) ≤ σ.2.1 47 a ∧ σ.2.1 47 a ≤ 2147483647) := h.1 47 a (by decide) ha
theorem fo_47 (h : ((-2147483648 : Int) ≤ v ∧ v ≤ 2147483647)) : FO 47 q T v := h
theorem wf_48 (h : WT T σ) (ha : OB T a 5) : ∃ x : Nat, σ.2.1 48 a = (x : Int) ∧ AR T x 21 12 12 := h.1 48 a (by decide) ha
theorem fo_48 (h : ∃ x : Nat, v = (x : Int) ∧ AR T x 21 12 12) : FO 48 q T v := h
theorem wf_49 (h : WT T σ) (ha : OB T a 5) : ∃ x : Nat, σ.2.1 49 a = (x : Int) ∧ AR T x 1 8 8 := h.1 49 a (by decide) ha
theorem fo_49 (h : ∃ x : Nat, v = (x : Int) ∧ AR T x 1 8 8) : FO 49 q T v := h
theorem wf_50 (h : WT T σ) (ha : OB T a 5) : ((-2147483648 : Int) ≤ σ.2.1 50 a ∧ σ.2.1 50 a ≤ 2147483647) := h.1 50 a (by decide) ha
theorem fo_50 (h : ((-2147483648 : Int) ≤ v ∧ v ≤ 2147483647)) : FO 50 q T v := h
theorem wf_51 (h : WT T σ) (ha : OB T a 5) : ((-2147483648 : Int) ≤ σ.2.1 51 a ∧ σ.2.1 51 a ≤ 2147483647) := h.1 51 a (by decide) ha
theorem fo_51 (h : ((-2147483648 : Int) ≤ v ∧ v ≤ 2147483647)) : FO 51 q T v := h
theorem wf_52 (h : WT T σ) (ha : OB T a 6) : ∃ x : Nat, σ.2.1 52 a = (x : Int) ∧ AR T x 1 192 192 := h.1 52 a (by decide) ha
theorem fo_52 (h : ∃ x : Nat, v = (x : Int) ∧ AR T x 1 192 192) : FO 52 q T v := h
theorem wf_53 (h : WT T σ) (ha : OB T a 6) : ∃ x : Nat, σ.2.1 53 a = (x : Int) ∧ AR T x 1 192 192 := h.1 53 a (by decide) ha
theorem fo_53 (h : ∃ x : Nat, v = (x : Int) ∧ AR T x 1 192 192) : FO 53 q T v := h
theorem wf_54 (h : WT T σ) (ha : OB T a 6) : ∃ x : Nat, σ.2.1 54 a = (x : Int) ∧ AR T x 3 3 3 := h.1 54 a (by decide) ha
theorem fo_54 (h : ∃ x : Nat, v = (x : Int) ∧ AR T x 3 3 3) : FO 54 q T v := h
theorem wf_55 (h : WT T σ) (ha : OB T a 7) : ∃ x : Nat, σ.2.1 55 a = (x : Int) ∧ (T x).2 = 6 ∧ ((T a).1 = 57 → (T x).1 = 4) ∧ ((T a).1 ≠ 57 → (T x).1 = 5) := h.1 55 a (by decide) ha
theorem fo_55 (h : ∃ x : Nat, v = (x : Int) ∧ (T x).2 = 6 ∧ (q = 57 → (T x).1 = 4) ∧ (q ≠ 57 → (T x).1 = 5)) : FO 55 q T v := h
theorem wf_56 (h : WT T σ) (ha : OB T a 7) : ((-2147483648 : Int) ≤ σ.2.1 56 a ∧ σ.2.1 56 a ≤ 2147483647) := h.1 56 a (by decide) ha
theorem fo_56 (h : ((-2147483648 : Int) ≤ v ∧ v ≤ 2147483647)) : FO 56 q T v := h
theorem wf_57 (h : WT T σ) (ha : OB T a 7) : ((0 : Int) ≤ σ.2.1 57 a ∧ σ.2.1 57 a ≤ 11184800) ∧ ((T a).1 = 57 → σ.2.1 57 a ≤ 8) := h.1 57 a (by decide) ha
theorem fo_57 (h : ((0 : Int) ≤ v ∧ v ≤ 11184800) ∧ (q = 57 → v ≤ 8)) : FO 57 q T v := h
theorem wf_58 (h : WT T σ) (ha : OB T a 7) : ((-2147483648 : Int) ≤ σ.2.1 58 a ∧ σ.2.1 58 a ≤ 2147483647) := h.1 58 a (by decide) ha
theorem fo_58 (h : ((-2147483648 : Int) ≤ v ∧ v ≤ 2147483647)) : FO 58 q T v := h
theorem wf_59 (h : WT T σ) (ha : OB T a 7) : ∃ x : Nat, σ.2.1 59 a = (x : Int) ∧ AR T x 15 9 9 := h.1 59 a (by decide) ha
theorem fo_59 (h : ∃ x : Nat, v = (x : Int) ∧ AR T x 15 9 9) : FO 59 q T v := h
theorem wf_60 (h : WT T σ) (ha : OB T a 7) : ∃ x : Nat, σ.2.1 60 a = (x : Int) ∧ AR T x 1 9 9 := h.1 60 a (by decide) ha
theorem fo_60 (h : ∃ x : Nat, v = (x : Int) ∧ AR T x 1 9 9) : FO 60 q T v := h
theorem wf_61 (h : WT T σ) (ha : OB T a 7) : ∃ x : Nat, σ.2.1 61 a = (x : Int) ∧ (T x).2 = 9 ∧ ((T a).1 = 57 → (T x).1 = 14) ∧ ((T a).1 ≠ 57 → (T x).1 = 1) := h.1 61 a (by decide) ha
theorem fo_61 (h : ∃ x : Nat, v = (x : Int) ∧ (T x).2 = 9 ∧ (q = 57 → (T x).1 = 14) ∧ (q ≠ 57 → (T x).1 = 1)) : FO 61 q T v := h
theorem wf_62 (h : WT T σ) (ha : OB T a 7) : ∃ x : Nat, σ.2.1 62 a = (x : Int) ∧ AR T x 1 108 108 := h.1 62 a (by decide) ha
theorem fo_62 (h : ∃ x : Nat, v = (x : Int) ∧ AR T x 1 108 108) : FO 62 q T v := h
theorem wf_63 (h : WT T σ) (ha : OB T a 7) : ∃ x : Nat, σ.2.1 63 a = (x : Int) ∧ AR T x 1 1728 1728 := h.1 63 a (by decide) ha
theorem fo_63 (h : ∃ x : Nat, v = (x : Int) ∧ AR T x 1 1728 1728) : FO 63 q T v := h
theorem wf_64 (h : WT T σ) (ha : OB T a 7) : ∃ x : Nat, σ.2.1 64 a = (x : Int) ∧ AR T x 1 200 200 := h.1 64 a (by decide) ha
theorem fo_64 (h : ∃ x : Nat, v = (x : Int) ∧ AR T x 1 200 200) : FO 64 q T v := h
theorem wf_65 (h : WT T σ) (ha : OB T a 7) : ((-2147483648 : Int) ≤ σ.2.1 65 a ∧ σ.2.1 65 a ≤ 2147483647) := h.1 65 a (by decide) ha
theorem fo_65 (h : ((-2147483648 : Int) ≤ v ∧ v ≤ 2147483647)) : FO 65 q T v := h
theorem wf_66 (h : WT T σ) (ha : OB T a 7) : ((-2147483648 : Int) ≤ σ.2.1 66 a ∧ σ.2.1 66 a ≤ 2147483647) := h.1 66 a (by decide) ha
theorem fo_66 (h : ((-2147483648 : Int) ≤ v ∧ v ≤ 2147483647)) : FO 66 q T v := h
theorem wf_67 (h : WT T σ) (ha : OB T a 7) : ((-2147483648 : Int) ≤ σ.2.1 67 a ∧ σ.2.1 67 a ≤ 2147483647) := h.1 67 a (by decide) ha
theorem fo_67 (h : ((-2147483648 : Int) ≤ v ∧ v ≤ 2147483647)) : FO 67 q T v := h
theorem wf_68 (h : WT T σ) (ha : OB T a 7) : ((-2147483648 : Int) ≤ σ.2.1 68 a ∧ σ.2.1 68 a ≤ 2147483647) := h.1 68 a (by decide) ha
theorem fo_68 (h : ((-2147483648 : Int) ≤ v ∧ v ≤ 2147483647)) : FO 68 q T v := h
theorem wf_69 (h : WT T σ) (ha : OB T a 7) : σ.2.1 69 a < 0 ∨ ∃ x : Nat, σ.2.1 69 a = (x : Int) ∧ ((T a).1 = 57 → (T x).1 = 31) ∧ ((T a).1 ≠ 57 → (T x).1 = 50) := h.1 69 a (by decide) ha
theorem fo_69 (h : v < 0 ∨ ∃ x : Nat, v = (x : Int) ∧ (q = 57 → (T x).1 = 31) ∧ (q ≠ 57 → (T x).1 = 50)) : FO 69 q T v := h
theorem wf_70 (h : WT T σ) (ha : OB T a 7) : ((-2147483648 : Int) ≤ σ.2.1 70 a ∧ σ.2.1 70 a ≤ 2147483647) := h.1 70 a (by decide) ha
theorem fo_70 (h : ((-2147483648 : Int) ≤ v ∧ v ≤ 2147483647)) : FO 70 q T v := h
theorem wf_71 (h : WT T σ) (ha : OB T a 7) : ((-2147483648 : Int) ≤ σ.2.1 71 a ∧ σ.2.1 71 a ≤ 2147483647) := h.1 71 a (by decide) ha
theorem fo_71 (h : ((-2147483648 : Int) ≤ v ∧ v ≤ 2147483647)) : FO 71 q T v := h
theorem wf_72 (h : WT T σ) (ha : OB T a 8) : ∃ x : Nat, σ.2.1 72 a = (x : Int) ∧ (T x).1 = 33 := h.1 72 a (by decide) ha
theorem fo_72 (h : ∃ x : Nat, v = (x : Int) ∧ (T x).1 = 33) : FO 72 q T v := h
theorem wf_73 (h : WT T σ) (ha : OB T a 8) : ∃ x : Nat, σ.2.1 73 a = (x : Int) ∧ AR T x 3 576 576 := h.1 73 a (by decide) ha
theorem fo_73 (h : ∃ x : Nat, v = (x : Int) ∧ AR T x 3 576 576) : FO 73 q T v := h
theorem wf_74 (h : WT T σ) (ha : OB T a 8) : ∃ x : Nat, σ.2.1 74 a = (x : Int) ∧ AR T x 3 3 3 := h.1 74 a (by decide) ha
theorem fo_74 (h : ∃ x : Nat, v = (x : Int) ∧ AR T x 3 3 3) : FO 74 q T v := h
theorem wf_75 (h : WT T σ) (ha : OB T a 8) : ∃ x : Nat, σ.2.1 75 a = (x : Int) ∧ AR T x 1 192 192 := h.1 75 a (by decide) ha
theorem fo_75 (h : ∃ x : Nat, v = (x : Int) ∧ AR T x 1 192 192) : FO 75 q T v := h
theorem wf_76 (h : WT T σ) (ha : OB T a 8) : ∃ x : Nat, σ.2.1 76 a = (x : Int) ∧ AR T x 3 576 576 := h.1 76 a (by decide) ha
theorem fo_76 (h : ∃ x : Nat, v = (x : Int) ∧ AR T x 3 576 576) : FO 76 q T v := h
theorem wf_77 (h : WT T σ) (ha : OB T a 8) : ∃ x : Nat, σ.2.1 77 a = (x : Int) ∧ AR T x 3 603 603 := h.1 77 a (by decide) ha
theorem fo_77 (h : ∃ x : Nat, v = (x : Int) ∧ AR T x 3 603 603) : FO 77 q T v := h
theorem wf_78 (h : WT T σ) (ha : OB T a 8) : ∃ x : Nat, σ.2.1 78 a = (x : Int) ∧ AR T x 1 201 201 := h.1 78 a (by decide) ha
theorem fo_78 (h : ∃ x : Nat, v = (x : Int) ∧ AR T x 1 201 201) : FO 78 q T v := h
theorem wf_79 (h : WT T σ) (ha : OB T a 8) : ∃ x : Nat, σ.2.1 79 a = (x : Int) ∧ AR T x 3 3 3 := h.1 79 a (by decide) ha
theorem fo_79 (h : ∃ x : Nat, v = (x : Int) ∧ AR T x 3 3 3) : FO 79 q T v := h
theorem wf_80 (h : WT T σ) (ha : OB T a 8) : ((0 : Int) ≤ σ.2.1 80 a ∧ σ.2.1 80 a ≤ 1) := h.1 80 a (by decide) ha
theorem fo_80 (h : ((0 : Int) ≤ v ∧ v ≤ 1)) : FO 80 q T v := h
theorem wf_81 (h : WT T σ) (ha : OB T a 9) : ∃ x : Nat, σ.2.1 81 a = (x : Int) ∧ AR T x 12 1201 1201 := h.1 81 a (by decide) ha
theorem fo_81 (h : ∃ x : Nat, v = (x : Int) ∧ AR T x 12 1201 1201) : FO 81 q T v := h
theorem wf_82 (h : WT T σ) (ha : OB T a 9) : ∃ x : Nat, σ.2.1 82 a = (x : Int) ∧ AR T x 22 1201 1201 := h.1 82 a (by decide) ha
theorem fo_82 (h : ∃ x : Nat, v = (x : Int) ∧ AR T x 22 1201 1201) : FO 82 q T v := h
theorem wf_83 (h : WT T σ) (ha : OB T a 9) : ∃ x : Nat, σ.2.1 83 a = (x : Int) ∧ AR T x 23 1201 1201 := h.1 83 a (by decide) ha
theorem fo_83 (h : ∃ x : Nat, v = (x : Int) ∧ AR T x 23 1201 1201) : FO 83 q T v := h
theorem wf_84 (h : WT T σ) (ha : OB T a 9) : ((-1 : Int) ≤ σ.2.1 84 a ∧ σ.2.1 84 a ≤ 1200) := h.1 84 a (by decide) ha
theorem fo_84 (h : ((-1 : Int) ≤ v ∧ v ≤ 1200)) : FO 84 q T v := h
theorem wf_85 (h : WT T σ) (ha : OB T a 9) : ((-2147483648 : Int) ≤ σ.2.1 85 a ∧ σ.2.1 85 a ≤ 2147483647) := h.1 85 a (by decide) ha
theorem fo_85 (h : ((-2147483648 : Int) ≤ v ∧ v ≤ 2147483647)) : FO 85 q T v := h
theorem wf_86 (h : WT T σ) (ha : OB T a 9) : ((-2147483648 : Int) ≤ σ.2.1 86 a ∧ σ.2.1 86 a ≤ 2147483647) := h.1 86 a (by decide) ha
theorem fo_86 (h : ((-2147483648 : Int) ≤ v ∧ v ≤ 2147483647)) : FO 86 q T v := h
theorem wf_87 (h : WT T σ) (ha : OB T a 9) : ((-2147483648 : Int) ≤ σ.2.1 87 a ∧ σ.2.1 87 a ≤ 2147483647) := h.1 87 a (by decide) ha
theorem fo_87 (h : ((-2147483648 : Int) ≤ v ∧ v ≤ 2147483647)) : FO 87 q T v := h
theorem wf_88 (h : WT T σ) (ha : OB T a 10) : ∃ x : Nat, σ.2.1 88 a = (x : Int) ∧ AR T x 7 6 6 := h.1 88 a (by decide) ha
theorem fo_88 (h : ∃ x : Nat, v = (x : Int) ∧ AR T x 7 6 6) : FO 88 q T v := h
theorem wf_89 (h : WT T σ) (ha : OB T a 10) : ∃ x : Nat, σ.2.1 89 a = (x : Int) ∧ AR T x 1 6 6 := h.1 89 a (by decide) ha
theorem fo_89 (h : ∃ x : Nat, v = (x : Int) ∧ AR T x 1 6 6) : FO 89 q T v := h
theorem wf_90 (h : WT T σ) (ha : OB T a 10) : ∃ x : Nat, σ.2.1 90 a = (x : Int) ∧ AR T x 1 200 200 := h.1 90 a (by decide) ha
theorem fo_90 (h : ∃ x : Nat, v = (x : Int) ∧ AR T x 1 200 200) : FO 90 q T v := h
theorem wf_91 (h : WT T σ) (ha : OB T a 10) : ∃ x : Nat, σ.2.1 91 a = (x : Int) ∧ AR T x 1 145 145 := h.1 91 a (by decide) ha
theorem fo_91 (h : ∃ x : Nat, v = (x : Int) ∧ AR T x 1 145 145) : FO 91 q T v := h
theorem wf_92 (h : WT T σ) (ha : OB T a 10) : σ.2.1 92 a < 0 ∨ ∃ x : Nat, σ.2.1 92 a = (x : Int) ∧ AR T x 1 0 32788 := h.1 92 a (by decide) ha
theorem fo_92 (h : v < 0 ∨ ∃ x : Nat, v = (x : Int) ∧ AR T x 1 0 32788) : FO 92 q T v := h
theorem wf_93 (h : WT T σ) (ha : OB T a 10) : ((0 : Int) ≤ σ.2.1 93 a ∧ σ.2.1 93 a ≤ 145) := h.1 93 a (by decide) ha
theorem fo_93 (h : ((0 : Int) ≤ v ∧ v ≤ 145)) : FO 93 q T v := h
theorem wf_94 (h : WT T σ) (ha : OB T a 10) : ((0 : Int) ≤ σ.2.1 94 a ∧ σ.2.1 94 a ≤ 1) := h.1 94 a (by decide) ha
theorem fo_94 (h : ((0 : Int) ≤ v ∧ v ≤ 1)) : FO 94 q T v := h
theorem wf_95 (h : WT T σ) (ha : OB T a 11) : ∃ x : Nat, σ.2.1 95 a = (x : Int) ∧ AR T x 2 1200 1200 := h.1 95 a (by decide) ha
theorem fo_95 (h : ∃ x : Nat, v = (x : Int) ∧ AR T x 2 1200 1200) : FO 95 q T v := h
theorem wf_96 (h : WT T σ) (ha : OB T a 11) : ((0 : Int) ≤ σ.2.1 96 a ∧ σ.2.1 96 a ≤ 1200) := h.1 96 a (by decide) ha
theorem fo_96 (h : ((0 : Int) ≤ v ∧ v ≤ 1200)) : FO 96 q T v := h
theorem wf_97 (h : WT T σ) (ha : OB T a 11) : ((0 : Int) ≤ σ.2.1 97 a ∧ σ.2.1 97 a ≤ 6) := h.1 97 a (by decide) ha
theorem fo_97 (h : ((0 : Int) ≤ v ∧ v ≤ 6)) : FO 97 q T v := h
theorem wf_98 (h : WT T σ) (ha : OB T a 11) : ∃ x : Nat, σ.2.1 98 a = (x : Int) ∧ AR T x 4 6 6 := h.1 98 a (by decide) ha
theorem fo_98 (h : ∃ x : Nat, v = (x : Int) ∧ AR T x 4 6 6) : FO 98 q T v := h
theorem wf_99 (h : WT T σ) (ha : OB T a 11) : ∃ x : Nat, σ.2.1 99 a = (x : Int) ∧ AR T x 5 6 6 := h.1 99 a (by decide) ha
theorem fo_99 (h : ∃ x : Nat, v = (x : Int) ∧ AR T x 5 6 6) : FO 99 q T v := h
theorem wf_100 (h : WT T σ) (ha : OB T a 11) : ∃ x : Nat, σ.2.1 100 a = (x : Int) ∧ (T x).1 = 35 := h.1 100 a (by decide) ha
theorem fo_100 (h : ∃ x : Nat, v = (x : Int) ∧ (T x).1 = 35) : FO 100 q T v := h
theorem fo_101 (h : ∃ x : Nat, v = (x : Int) ∧ (T x).1 = 33) : FO 101 q T v := h
theorem wf_102 (h : WT T σ) (ha : OB T a 11) : ∃ x : Nat, σ.2.1 102 a = (x : Int) ∧ (T x).1 = 40 := h.1 102 a (by decide) ha
theorem fo_102 (h : ∃ x : Nat, v = (x : Int) ∧ (T x).1 = 40) : FO 102 q T v := h
theorem wf_103 (h : WT T σ) (ha : OB T a 11) : ∃ x : Nat, σ.2.1 103 a = (x : Int) ∧ (T x).1 = 37 := h.1 103 a (by decide) ha
theorem fo_103 (h : ∃ x : Nat, v = (x : Int) ∧ (T x).1 = 37) : FO 103 q T v := h
theorem wf_104 (h : WT T σ) (ha : OB T a 11) : ((-2147483648 : Int) ≤ σ.2.1 104 a ∧ σ.2.1 104 a ≤ 2147483647) := h.1 104 a (by decide) ha
theorem fo_104 (h : ((-2147483648 : Int) ≤ v ∧ v ≤ 2147483647)) : FO 104 q T v := h
theorem wf_105 (h : WT T σ) (ha : OB T a 11) : ((-2147483648 : Int) ≤ σ.2.1 105 a ∧ σ.2.1 105 a ≤ 2147483647) := h.1 105 a (by decide) ha
theorem fo_105 (h : ((-2147483648 : Int) ≤ v ∧ v ≤ 2147483647)) : FO 105 q T v := h
theorem wf_106 (h : WT T σ) (ha : OB T a 11) : ∃ x : Nat, σ.2.1 106 a = (x : Int) ∧ (T x).1 = 36 := h.1 106 a (by decide) ha
theorem fo_106 (h : ∃ x : Nat, v = (x : Int) ∧ (T x).1 = 36) : FO 106 q T v := h
theorem wf_107 (h : WT T σ) (ha : OB T a 11) : ∃ x : Nat, σ.2.1 107 a = (x : Int) ∧ (T x).1 = 32 := h.1 107 a (by decide) ha
theorem fo_107 (h : ∃ x : Nat, v = (x : Int) ∧ (T x).1 = 32) : FO 107 q T v := h
theorem wf_108 (h : WT T σ) (ha : OB T a 11) : ∃ x : Nat, σ.2.1 108 a = (x : Int) ∧ (T x).1 = 34 := h.1 108 a (by decide) ha
theorem fo_108 (h : ∃ x : Nat, v = (x : Int) ∧ (T x).1 = 34) : FO 108 q T v := h
theorem wf_109 (h : WT T σ) (ha : OB T a 11) : ∃ x : Nat, σ.2.1 109 a = (x : Int) ∧ (T x).1 = 38 := h.1 109 a (by decide) ha
theorem fo_109 (h : ∃ x : Nat, v = (x : Int) ∧ (T x).1 = 38) : FO 109 q T v := h
theorem wf_110 (h : WT T σ) (ha : OB T a 11) : σ.2.1 110 a < 0 ∨ ∃ x : Nat, σ.2.1 110 a = (x : Int) ∧ (T x).1 = 30 := h.1 110 a (by decide) ha
theorem fo_110 (h : v < 0 ∨ ∃ x : Nat, v = (x : Int) ∧ (T x).1 = 30) : FO 110 q T v := h
end WFS
end
