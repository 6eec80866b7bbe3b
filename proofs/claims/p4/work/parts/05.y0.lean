/-! THE CLASS. Its heap by numbers: what stands at an address is told by its tag (kind, length): 0 nothing of the class's, 1 int[], 11 int[] of small numbers, 2 byte[], 3 long[], 4 and 5 rows of codes, 7 the row of tables, 30 + ci an object of class ci, 50 a code that is kept. Field k of the object at a is number k at a (each field of each class has its own number, below 200); an array's numbers stand at 1000 + a; a reference is its address, -1 is null; the row of tables stands at 900. -/
abbrev CT : Type := Nat → Nat × Nat
def rfO (z : Int) : Option Nat := if z < 0 then none else some z.toNat
def vl (r : Bool) (z : Int) : Value := match r with
  | true => va_rf (rfO z)
  | false => .int (iI z)
theorem vl_ref {x : Nat} {z : Int} (h : z = (x : Int)) : vl true z = .ref x := by
  show va_rf (rfO z) = _
  unfold rfO
  rw [h, if_neg (by omega)]
  rfl
theorem vl_null {z : Int} (h : z < 0) : vl true z = .null := by
  show va_rf (rfO z) = _
  unfold rfO
  rw [if_pos h]
  rfl
def cL (b : Nat) (rs : List Bool) (σ : MS) (a : Nat) : List Value := match rs with
  | [] => []
  | r :: rs => vl r (σ.2.1 b a) :: cL (b + 1) rs σ a
theorem sA_ne {k j : Nat} {z v q : Int} {σ : MS} (h : q ≠ z) : (sA k z v σ).2.1 j q = σ.2.1 j q := by
  by_cases e : j = k
  · rw [e]; exact ra_ne h rfl
  · exact ra_o e rfl
theorem sA_k {k j : Nat} {z v : Int} {σ : MS} (h : j ≠ k) : (sA k z v σ).2.1 j = σ.2.1 j := by
  funext q
  exact ra_o h rfl
theorem cL_len {b : Nat} {rs : List Bool} {σ : MS} {a : Nat} : (cL b rs σ a).length = rs.length := by
  induction rs generalizing b with
  | nil => rfl
  | cons r rs ih => simp only [cL, List.length_cons, ih]
theorem cL_get {b i : Nat} {rs : List Bool} {r : Bool} {σ : MS} {a : Nat} (h : rs[i]? = some r) : (cL b rs σ a)[i]? = some (vl r (σ.2.1 (b + i) a)) := by
  induction rs generalizing b i with
  | nil => simp at h
  | cons x rs ih =>
    cases i with
    | zero =>
      simp only [List.getElem?_cons_zero, Option.some.injEq] at h
      rw [← h]; rfl
    | succ i =>
      simp only [List.getElem?_cons_succ] at h
      have q := ih (b := b + 1) h
      simp only [cL, List.getElem?_cons_succ]
      rw [q, show b + 1 + i = b + (i + 1) by omega]
theorem cL_ne {b k : Nat} {rs : List Bool} {σ : MS} {z v : Int} {a : Nat} (h : (a : Int) ≠ z) : cL b rs (sA k z v σ) a = cL b rs σ a := by
  induction rs generalizing b with
  | nil => rfl
  | cons r rs ih => simp only [cL]; rw [ih, sA_ne h]
theorem cL_hi {b k : Nat} {rs : List Bool} {σ : MS} {z v : Int} {a : Nat} (h : k < b ∨ b + rs.length ≤ k) : cL b rs (sA k z v σ) a = cL b rs σ a := by
  induction rs generalizing b with
  | nil => rfl
  | cons r rs ih =>
    simp only [List.length_cons] at h
    simp only [cL]
    rw [ih (by omega), sA_k (by omega)]
theorem cL_set {b i : Nat} {rs : List Bool} {r : Bool} {σ : MS} {v : Int} {a : Nat} (h : rs[i]? = some r) : (cL b rs σ a).set i (vl r v) = cL b rs (sA (b + i) a v σ) a := by
  induction rs generalizing b i with
  | nil => simp at h
  | cons x rs ih =>
    cases i with
    | zero =>
      simp only [List.getElem?_cons_zero, Option.some.injEq] at h
      simp only [cL, List.set_cons_zero, Nat.add_zero]
      rw [cL_hi (Or.inl (by omega)), h, show (sA b a v σ).2.1 b a = v from ra_eq]
    | succ i =>
      simp only [List.getElem?_cons_succ] at h
      simp only [cL, List.set_cons_succ]
      rw [ih (b := b + 1) h, show b + 1 + i = b + (i + 1) by omega, sA_k (show b ≠ b + (i + 1) by omega)]
def cB (ci : Nat) : Nat := match ci with
  | 0 => 0
  | 1 => 5
  | 2 => 17
  | 3 => 18
  | 4 => 23
  | 5 => 33
  | 6 => 52
  | 7 => 55
  | 8 => 72
  | 9 => 81
  | 10 => 88
  | 11 => 95
  | _ => 0
def cR (ci : Nat) : List Bool := match ci with
  | 0 => [true, true, false, false, false]
  | 1 => [true, false, false, false, false, false, true, true, true, true, true, true]
  | 2 => [true]
  | 3 => [true, true, true, true, false]
  | 4 => [true, true, true, true, false, false, false, false, false, false]
  | 5 => [true, true, true, true, true, false, true, true, true, false, false, false, false, false, false, true, true, false, false]
  | 6 => [true, true, true]
  | 7 => [true, false, false, false, true, true, true, true, true, true, false, false, false, false, true, false, false]
  | 8 => [true, true, true, true, true, true, true, true, false]
  | 9 => [true, true, true, false, false, false, false]
  | 10 => [true, true, true, true, true, false, false]
  | 11 => [true, false, false, true, true, true, true, true, true, false, false, true, true, true, true, true]
  | _ => []
theorem cR_len (ci : Nat) : cB ci + (cR ci).length ≤ 200 := match ci with
  | 0 => by decide
  | 1 => by decide
  | 2 => by decide
  | 3 => by decide
  | 4 => by decide
  | 5 => by decide
  | 6 => by decide
  | 7 => by decide
  | 8 => by decide
  | 9 => by decide
  | 10 => by decide
  | 11 => by decide
  | _ + 12 => (show 0 + 0 ≤ 200 by decide)

def kC (k : Nat) : Nat := if k = 50 then 1 else if k = 57 then 7 else if 80 ≤ k then k - 80 else k - 30
/-- int[] -/
def IA (T : CT) (x : Nat) : Prop := (T x).1 = 1 ∨ (11 ≤ (T x).1 ∧ (T x).1 ≤ 24)
def cF (ci : Nat) (σ : MS) (a : Nat) : List Value := cL (cB ci) (cR ci) σ a
theorem cF_ne {ci k : Nat} {σ : MS} {z v : Int} {a : Nat} (h : (a : Int) ≠ z) : cF ci (sA k z v σ) a = cF ci σ a := cL_ne h
theorem cF_arr {ci k : Nat} {σ : MS} {z v : Int} {a : Nat} (h : 200 ≤ k) : cF ci (sA k z v σ) a = cF ci σ a := cL_hi (Or.inr (by have := cR_len ci; omega))
def ovC (T : CT) (σ : MS) (P0 : PH) : PH := fun q =>
  if (T q).1 = 0 then P0 q
  else if (T q).1 = 1 ∨ (11 ≤ (T q).1 ∧ (T q).1 ≤ 24) then some (.inl (0, (T q).2, .inl (fun j : Nat => iI (σ.2.1 (1000 + q) j))))
  else if (T q).1 = 2 then some (.inl (1, (T q).2, .inl (fun j : Nat => iI (σ.2.1 (1000 + q) j))))
  else if (T q).1 = 3 then some (.inl (3, (T q).2, .inr (.inl (fun j : Nat => σ.2.2 q j))))
  else if (T q).1 = 4 ∨ (T q).1 = 5 ∨ (T q).1 = 94 ∨ (T q).1 = 95 then some (.inl (5, (T q).2, .inr (.inr (.inr (.inr (fun j : Nat => rfO (σ.2.1 (1000 + q) j)))))))
  else if (T q).1 = 7 then some (.inl (6, (T q).2, .inr (.inr (.inr (.inr (fun j : Nat => rfO (σ.2.1 900 j)))))))
  else some (.inr (kC (T q).1, cF (kC (T q).1) σ q))
section OVC
variable {T : CT} {σ : MS} {P0 : PH} {a : Nat}
theorem ovC_i (h : IA T a) : ovC T σ P0 a = some (.inl (0, (T a).2, .inl (fun j : Nat => iI (σ.2.1 (1000 + a) j)))) := by
  unfold IA at h; unfold ovC; rw [if_neg (by omega), if_pos h]
theorem ovC_b (h : (T a).1 = 2) : ovC T σ P0 a = some (.inl (1, (T a).2, .inl (fun j : Nat => iI (σ.2.1 (1000 + a) j)))) := by
  unfold ovC; rw [if_neg (by omega), if_neg (by omega), if_pos h]
theorem ovC_l (h : (T a).1 = 3) : ovC T σ P0 a = some (.inl (3, (T a).2, .inr (.inl (fun j : Nat => σ.2.2 a j)))) := by
  unfold ovC; rw [if_neg (by omega), if_neg (by omega), if_neg (by omega), if_pos h]
theorem ovC_q (h : (T a).1 = 4 ∨ (T a).1 = 5 ∨ (T a).1 = 94 ∨ (T a).1 = 95) : ovC T σ P0 a = some (.inl (5, (T a).2, .inr (.inr (.inr (.inr (fun j : Nat => rfO (σ.2.1 (1000 + a) j))))))) := by
  unfold ovC; rw [if_neg (by omega), if_neg (by omega), if_neg (by omega), if_neg (by omega), if_pos h]
theorem ovC_m (h : (T a).1 = 7) : ovC T σ P0 a = some (.inl (6, (T a).2, .inr (.inr (.inr (.inr (fun j : Nat => rfO (σ.2.1 900 j))))))) := by
  unfold ovC; rw [if_neg (by omega), if_neg (by omega), if_neg (by omega), if_neg (by omega), if_neg (by omega), if_pos h]
theorem ovC_o (h : 30 ≤ (T a).1 ∧ (T a).1 < 94) : ovC T σ P0 a = some (.inr (kC (T a).1, cF (kC (T a).1) σ a)) := by
  unfold ovC; rw [if_neg (by omega), if_neg (by omega), if_neg (by omega), if_neg (by omega), if_neg (by omega), if_neg (by omega)]
/-- a field is written -/
theorem ovC_sF {k : Nat} {v : Int} {fs : List Value} (h : 30 ≤ (T a).1 ∧ (T a).1 < 94) (hk : k < 200) (hf : fs = cF (kC (T a).1) (sA k a v σ) a) : pS (ovC T σ P0) a (.inr (kC (T a).1, fs)) = ovC T (sA k a v σ) P0 := by
  funext q
  by_cases hq : q = a
  · rw [hq, pS_same, ovC_o h, hf]
  · rw [pS_ne hq]
    unfold ovC
    rw [cF_ne (by omega), sA_k (show 1000 + q ≠ k by omega), sA_k (show 900 ≠ k by omega)]
    rfl
/-- a number of an array is written -/
theorem ovC_sI {z v : Int} (h : IA T a) (hz : 0 ≤ z) : pS (ovC T σ P0) a (.inl (0, (T a).2, .inl (upd (fun j : Nat => iI (σ.2.1 (1000 + a) j)) z.toNat (iI v)))) = ovC T (sA (1000 + a) z v σ) P0 := by
  funext q
  by_cases hq : q = a
  · rw [hq, pS_same, ovC_i h, upd_iI hz]
    simp only [sA, if_true]
  · rw [pS_ne hq]
    unfold ovC
    rw [cF_arr (by omega), sA_k (show 1000 + q ≠ 1000 + a by omega), sA_k (show 900 ≠ 1000 + a by omega)]
    rfl
theorem ovC_sB {z v : Int} (h : (T a).1 = 2) (hz : 0 ≤ z) : pS (ovC T σ P0) a (.inl (1, (T a).2, .inl (upd (fun j : Nat => iI (σ.2.1 (1000 + a) j)) z.toNat (iI v)))) = ovC T (sA (1000 + a) z v σ) P0 := by
  funext q
  by_cases hq : q = a
  · rw [hq, pS_same, ovC_b h, upd_iI hz]
    simp only [sA, if_true]
  · rw [pS_ne hq]
    unfold ovC
    rw [cF_arr (by omega), sA_k (show 1000 + q ≠ 1000 + a by omega), sA_k (show 900 ≠ 1000 + a by omega)]
    rfl
theorem cL_J {b k : Nat} {rs : List Bool} {z : Int} {v : Int64} {a : Nat} : cL b rs (sJ k z v σ) a = cL b rs σ a := by
  induction rs generalizing b with
  | nil => rfl
  | cons r rs ih => simp only [cL]; rw [ih]; rfl
theorem ovC_sL {z : Int} {v : Int64} (h : (T a).1 = 3) (hz : 0 ≤ z) : pS (ovC T σ P0) a (.inl (3, (T a).2, .inr (.inl (vp_updL (fun j : Nat => σ.2.2 a j) z.toNat v)))) = ovC T (sJ a z v σ) P0 := by
  funext q
  by_cases hq : q = a
  · rw [hq, pS_same, ovC_l h]
    simp only [sJ, if_true]
    congr 6
    funext j
    unfold vp_updL
    by_cases hj : j = z.toNat
    · have h2 : (j : Int) = z := by omega
      simp [hj, h2]
      intro h3
      omega
    · have h2 : ¬ (j : Int) = z := by omega
      simp [hj, h2]
  · rw [pS_ne hq]
    unfold ovC
    have e : (sJ a z v σ).2.2 q = σ.2.2 q := by simp only [sJ, if_neg hq]
    rw [e, show cF (kC (T q).1) (sJ a z v σ) q = cF (kC (T q).1) σ q from cL_J]
    rfl
theorem rfO_upd {f : Int → Int} {z v : Int} (hz : 0 ≤ z) : (fun j : Nat => if j = z.toNat then rfO v else rfO (f j)) = fun j : Nat => rfO ((fun q => if q = z then v else f q) j) := by
  funext j
  by_cases hj : j = z.toNat
  · have h2 : (j : Int) = z := by omega
    simp [hj, h2]
    rw [if_pos (by omega)]
  · have h2 : ¬ (j : Int) = z := by omega
    simp [hj, h2]
end OVC
/-- all that is told stands below sz -/
def DOM (T : CT) (sz : Nat) : Prop := ∀ a, (T a).1 ≠ 0 → a < sz
/-- what is made comes behind; slots and cells are counted (numbers 0 and 1) -/
def Gd (T : CT) (σ : MS) (sz : Nat) (T2 : CT) (σ2 : MS) (sz2 n : Nat) : Prop := sz ≤ sz2 ∧ DOM T2 sz2 ∧ (∀ a, a < sz → (T a).1 < 80 → T2 a = T a) ∧ (n : Int) = σ2.1 0 - σ.1 0 ∧ (sz2 : Int) - sz = σ2.1 1 - σ.1 1
theorem Gd.rfl {T : CT} {σ : MS} {sz : Nat} (h : DOM T sz) : Gd T σ sz T σ sz 0 := ⟨Nat.le_refl _, h, fun _ _ _ => Eq.refl _, by omega, by omega⟩
theorem Gd.trans {T T1 T2 : CT} {σ σ1 σ2 : MS} {sz sz1 sz2 n m : Nat} (h : Gd T σ sz T1 σ1 sz1 n) (g : Gd T1 σ1 sz1 T2 σ2 sz2 m) : Gd T σ sz T2 σ2 sz2 (n + m) := ⟨Nat.le_trans h.1 g.1, g.2.1, fun a q r => (g.2.2.1 a (Nat.lt_of_lt_of_le q h.1) (by rw [h.2.2.1 a q r]; exact r)).trans (h.2.2.1 a q r), by have := h.2.2.2.1; have := g.2.2.2.1; omega, by have := h.2.2.2.2; have := g.2.2.2.2; omega⟩
/-- nothing that stands is changed in its kind -/
def GT (T T2 : CT) : Prop := ∀ a, (T a).1 ≠ 0 → (T a).1 < 80 → T2 a = T a
theorem GT.rfl {T : CT} : GT T T := fun _ _ _ => Eq.refl _
theorem GT.trans {T T1 T2 : CT} (h : GT T T1) (g : GT T1 T2) : GT T T2 := fun a q r => (g a (by rw [h a q r]; exact q) (by rw [h a q r]; exact r)).trans (h a q r)
theorem Gd.gt {T T2 : CT} {σ σ2 : MS} {sz sz2 n : Nat} (hs : DOM T sz) (h : Gd T σ sz T2 σ2 sz2 n) : GT T T2 := fun a q r => h.2.2.1 a (hs a q) r
def Tn (d : Nat) (M : MT) (pc : Nat) (T : CT) (σ : MS) (L : List (Nat × Value)) (st : List Value) (post : Option Value → CT → MS → Prop) : Prop := ∀ (P0 : PH) (sz : Nat), DOM T sz → ∃ (r : Option Value) (T2 : CT) (σ2 : MS) (sz2 n9 : Nat), Wp d M pc (ovC T σ P0) sz L st (r, ovC T2 σ2 P0, sz2, n9) ∧ Gd T σ sz T2 σ2 sz2 n9 ∧ post r T2 σ2

section TNR
variable {d : Nat} {M : MT} {pc : Nat} {T : CT} {σ : MS} {L : List (Nat × Value)} {st : List Value} {post : Option Value → CT → MS → Prop}
theorem tn_iconst {n : Int} (hd : decode M.2.1 pc = .ok (.iconst n, 1)) (k : Tn d M (pc + 1) T σ L (.int (iI n) :: st) post) : Tn d M pc T σ L (st) post := fun P0 sz hs => by
  obtain ⟨r, T2, σ2, sz2, n9, w, hp⟩ := k P0 sz hs
  exact ⟨r, T2, σ2, sz2, n9, wp_iconst hd rfl w, hp⟩
theorem tn_bipush {n : Int} (hd : decode M.2.1 pc = .ok (.bipush n, 2)) (hr : -128 ≤ n ∧ n ≤ 127) (k : Tn d M (pc + 2) T σ L (.int (iI n) :: st) post) : Tn d M pc T σ L (st) post := fun P0 sz hs => by
  obtain ⟨r, T2, σ2, sz2, n9, w, hp⟩ := k P0 sz hs
  exact ⟨r, T2, σ2, sz2, n9, wp_bipush hd (iI_8 hr) w, hp⟩
theorem tn_sipush {n : Int} (hd : decode M.2.1 pc = .ok (.sipush n, 3)) (hr : -32768 ≤ n ∧ n ≤ 32767) (k : Tn d M (pc + 3) T σ L (.int (iI n) :: st) post) : Tn d M pc T σ L (st) post := fun P0 sz hs => by
  obtain ⟨r, T2, σ2, sz2, n9, w, hp⟩ := k P0 sz hs
  exact ⟨r, T2, σ2, sz2, n9, wp_sipush hd (iI_16 hr) w, hp⟩
theorem tn_ldc {ix : Nat} {n : Int} {v : Int32} (hd : decode M.2.1 pc = .ok (.ldc ix, 2)) (hw : Cond.constant M.1.cls ix v ∈ pWW) (hv : v = iI n) (k : Tn d M (pc + 2) T σ L (.int (iI n) :: st) post) : Tn d M pc T σ L (st) post := fun P0 sz hs => by
  obtain ⟨r, T2, σ2, sz2, n9, w, hp⟩ := k P0 sz hs
  exact ⟨r, T2, σ2, sz2, n9, wp_ldc hd hw (by rw [hv]; exact w), hp⟩
theorem tn_ldc2 {ix : Nat} {v : Int64} (hd : decode M.2.1 pc = .ok (.ldc2_w ix, 3)) (hw : Cond.constantLong M.1.cls ix v ∈ pWW) (k : Tn d M (pc + 3) T σ L (.long v :: st) post) : Tn d M pc T σ L (st) post := fun P0 sz hs => by
  obtain ⟨r, T2, σ2, sz2, n9, w, hp⟩ := k P0 sz hs
  exact ⟨r, T2, σ2, sz2, n9, wp_ldc2 hd hw w, hp⟩
theorem tn_lconst {n : Fin 2} {v : Int64} (hd : decode M.2.1 pc = .ok (.lconst n, 1)) (hv : Int64.ofNat (n : Nat) = v) (k : Tn d M (pc + 1) T σ L (.long v :: st) post) : Tn d M pc T σ L (st) post := fun P0 sz hs => by
  obtain ⟨r, T2, σ2, sz2, n9, w, hp⟩ := k P0 sz hs
  exact ⟨r, T2, σ2, sz2, n9, wp_lconst hd hv w, hp⟩
theorem tn_iload_n {kf : Fin 4} {i : Nat} {x : Int32} (hd : decode M.2.1 pc = .ok (.iload_n kf, 1)) (hi : (kf : Nat) = i) (q : Nat) (hq : L[q]? = some (i, .int x)) (k : Tn d M (pc + 1) T σ L (.int x :: st) post) : Tn d M pc T σ L (st) post := fun P0 sz hs => by
  obtain ⟨r, T2, σ2, sz2, n9, w, hp⟩ := k P0 sz hs
  exact ⟨r, T2, σ2, sz2, n9, wp_iload_n hd hi q hq w, hp⟩
theorem tn_iload {i : Nat} {x : Int32} (hd : decode M.2.1 pc = .ok (.iload i, 2)) (q : Nat) (hq : L[q]? = some (i, .int x)) (k : Tn d M (pc + 2) T σ L (.int x :: st) post) : Tn d M pc T σ L (st) post := fun P0 sz hs => by
  obtain ⟨r, T2, σ2, sz2, n9, w, hp⟩ := k P0 sz hs
  exact ⟨r, T2, σ2, sz2, n9, wp_iload hd q hq w, hp⟩
theorem tn_istore_n {kf : Fin 4} {i : Nat} {x : Int32} {L' : List (Nat × Value)} (hd : decode M.2.1 pc = .ok (.istore_n kf, 1)) (hi : (kf : Nat) = i) (hm : i < M.2.2.1) (hq : (i, Value.int x) :: L.filter (fun q => !(q.1 == i) && !(q.1 + 1 == i && q.2.category == 2)) = L') (k : Tn d M (pc + 1) T σ L' st post) : Tn d M pc T σ L (.int x :: st) post := fun P0 sz hs => by
  obtain ⟨r, T2, σ2, sz2, n9, w, hp⟩ := k P0 sz hs
  exact ⟨r, T2, σ2, sz2, n9, wp_istore_n hd hi hm hq w, hp⟩
theorem tn_istore {i : Nat} {x : Int32} {L' : List (Nat × Value)} (hd : decode M.2.1 pc = .ok (.istore i, 2)) (hm : i < M.2.2.1) (hq : (i, Value.int x) :: L.filter (fun q => !(q.1 == i) && !(q.1 + 1 == i && q.2.category == 2)) = L') (k : Tn d M (pc + 2) T σ L' st post) : Tn d M pc T σ L (.int x :: st) post := fun P0 sz hs => by
  obtain ⟨r, T2, σ2, sz2, n9, w, hp⟩ := k P0 sz hs
  exact ⟨r, T2, σ2, sz2, n9, wp_istore hd hm hq w, hp⟩
theorem tn_lload_n {kf : Fin 4} {i : Nat} {x : Int64} (hd : decode M.2.1 pc = .ok (.lload_n kf, 1)) (hi : (kf : Nat) = i) (q : Nat) (hq : L[q]? = some (i, .long x)) (k : Tn d M (pc + 1) T σ L (.long x :: st) post) : Tn d M pc T σ L (st) post := fun P0 sz hs => by
  obtain ⟨r, T2, σ2, sz2, n9, w, hp⟩ := k P0 sz hs
  exact ⟨r, T2, σ2, sz2, n9, wp_lload_n hd hi q hq w, hp⟩
theorem tn_lload {i : Nat} {x : Int64} (hd : decode M.2.1 pc = .ok (.lload i, 2)) (q : Nat) (hq : L[q]? = some (i, .long x)) (k : Tn d M (pc + 2) T σ L (.long x :: st) post) : Tn d M pc T σ L (st) post := fun P0 sz hs => by
  obtain ⟨r, T2, σ2, sz2, n9, w, hp⟩ := k P0 sz hs
  exact ⟨r, T2, σ2, sz2, n9, wp_lload hd q hq w, hp⟩
theorem tn_lstore_n {kf : Fin 4} {i : Nat} {x : Int64} {L' : List (Nat × Value)} (hd : decode M.2.1 pc = .ok (.lstore_n kf, 1)) (hi : (kf : Nat) = i) (hm : i + 1 < M.2.2.1) (hq : (i, Value.long x) :: L.filter (fun q => !(q.1 == i) && (!(q.1 == i + 1) && !(q.1 + 1 == i && q.2.category == 2))) = L') (k : Tn d M (pc + 1) T σ L' st post) : Tn d M pc T σ L (.long x :: st) post := fun P0 sz hs => by
  obtain ⟨r, T2, σ2, sz2, n9, w, hp⟩ := k P0 sz hs
  exact ⟨r, T2, σ2, sz2, n9, wp_lstore_n hd hi hm hq w, hp⟩
theorem tn_lstore {i : Nat} {x : Int64} {L' : List (Nat × Value)} (hd : decode M.2.1 pc = .ok (.lstore i, 2)) (hm : i + 1 < M.2.2.1) (hq : (i, Value.long x) :: L.filter (fun q => !(q.1 == i) && (!(q.1 == i + 1) && !(q.1 + 1 == i && q.2.category == 2))) = L') (k : Tn d M (pc + 2) T σ L' st post) : Tn d M pc T σ L (.long x :: st) post := fun P0 sz hs => by
  obtain ⟨r, T2, σ2, sz2, n9, w, hp⟩ := k P0 sz hs
  exact ⟨r, T2, σ2, sz2, n9, wp_lstore hd hm hq w, hp⟩
theorem tn_aload_n {kf : Fin 4} {i : Nat} {x : Nat} (hd : decode M.2.1 pc = .ok (.aload_n kf, 1)) (hi : (kf : Nat) = i) (q : Nat) (hq : L[q]? = some (i, .ref x)) (k : Tn d M (pc + 1) T σ L (.ref x :: st) post) : Tn d M pc T σ L (st) post := fun P0 sz hs => by
  obtain ⟨r, T2, σ2, sz2, n9, w, hp⟩ := k P0 sz hs
  exact ⟨r, T2, σ2, sz2, n9, wp_aload_n hd hi q hq w, hp⟩
theorem tn_aload {i : Nat} {x : Nat} (hd : decode M.2.1 pc = .ok (.aload i, 2)) (q : Nat) (hq : L[q]? = some (i, .ref x)) (k : Tn d M (pc + 2) T σ L (.ref x :: st) post) : Tn d M pc T σ L (st) post := fun P0 sz hs => by
  obtain ⟨r, T2, σ2, sz2, n9, w, hp⟩ := k P0 sz hs
  exact ⟨r, T2, σ2, sz2, n9, wp_aload hd q hq w, hp⟩
theorem tn_astore_n {kf : Fin 4} {i : Nat} {x : Nat} {L' : List (Nat × Value)} (hd : decode M.2.1 pc = .ok (.astore_n kf, 1)) (hi : (kf : Nat) = i) (hm : i < M.2.2.1) (hq : (i, Value.ref x) :: L.filter (fun q => !(q.1 == i) && !(q.1 + 1 == i && q.2.category == 2)) = L') (k : Tn d M (pc + 1) T σ L' st post) : Tn d M pc T σ L (.ref x :: st) post := fun P0 sz hs => by
  obtain ⟨r, T2, σ2, sz2, n9, w, hp⟩ := k P0 sz hs
  exact ⟨r, T2, σ2, sz2, n9, wp_astore_n hd hi hm hq w, hp⟩
theorem tn_astore {i : Nat} {x : Nat} {L' : List (Nat × Value)} (hd : decode M.2.1 pc = .ok (.astore i, 2)) (hm : i < M.2.2.1) (hq : (i, Value.ref x) :: L.filter (fun q => !(q.1 == i) && !(q.1 + 1 == i && q.2.category == 2)) = L') (k : Tn d M (pc + 2) T σ L' st post) : Tn d M pc T σ L (.ref x :: st) post := fun P0 sz hs => by
  obtain ⟨r, T2, σ2, sz2, n9, w, hp⟩ := k P0 sz hs
  exact ⟨r, T2, σ2, sz2, n9, wp_astore hd hm hq w, hp⟩
theorem tn_iinc {i q0 : Nat} {n z : Int} {L' : List (Nat × Value)} (hd : decode M.2.1 pc = .ok (.iinc i n, 3)) (hq0 : L[q0]? = some (i, .int (iI z))) (hm : i < M.2.2.1) (hq : (i, Value.int (iI (z + n))) :: L.filter (fun q => !(q.1 == i) && !(q.1 + 1 == i && q.2.category == 2)) = L') (k : Tn d M (pc + 3) T σ L' st post) : Tn d M pc T σ L st post := fun P0 sz hs => by
  obtain ⟨r, T2, σ2, sz2, n9, w, hp⟩ := k P0 sz hs
  exact ⟨r, T2, σ2, sz2, n9, wp_iinc hd hq0 (iI_add z n) hm hq w, hp⟩
theorem tn_iadd {x y : Int} (hd : decode M.2.1 pc = .ok (.iadd, 1)) (k : Tn d M (pc + 1) T σ L (.int (iI (x + y)) :: st) post) : Tn d M pc T σ L (.int (iI y) :: .int (iI x) :: st) post := fun P0 sz hs => by
  obtain ⟨r, T2, σ2, sz2, n9, w, hp⟩ := k P0 sz hs
  exact ⟨r, T2, σ2, sz2, n9, wp_iadd hd (by rw [iI_add]; exact w), hp⟩
theorem tn_isub {x y : Int} (hd : decode M.2.1 pc = .ok (.isub, 1)) (k : Tn d M (pc + 1) T σ L (.int (iI (x - y)) :: st) post) : Tn d M pc T σ L (.int (iI y) :: .int (iI x) :: st) post := fun P0 sz hs => by
  obtain ⟨r, T2, σ2, sz2, n9, w, hp⟩ := k P0 sz hs
  exact ⟨r, T2, σ2, sz2, n9, wp_isub hd (by rw [iI_sub]; exact w), hp⟩
theorem tn_imul {x y : Int} (hd : decode M.2.1 pc = .ok (.imul, 1)) (k : Tn d M (pc + 1) T σ L (.int (iI (x * y)) :: st) post) : Tn d M pc T σ L (.int (iI y) :: .int (iI x) :: st) post := fun P0 sz hs => by
  obtain ⟨r, T2, σ2, sz2, n9, w, hp⟩ := k P0 sz hs
  exact ⟨r, T2, σ2, sz2, n9, wp_imul hd (by rw [iI_mul]; exact w), hp⟩
theorem tn_iand {x y : Int32} (hd : decode M.2.1 pc = .ok (.iand, 1)) (k : Tn d M (pc + 1) T σ L (.int (x &&& y) :: st) post) : Tn d M pc T σ L (.int y :: .int x :: st) post := fun P0 sz hs => by
  obtain ⟨r, T2, σ2, sz2, n9, w, hp⟩ := k P0 sz hs
  exact ⟨r, T2, σ2, sz2, n9, wp_iand hd w, hp⟩
theorem tn_ior {x y : Int32} (hd : decode M.2.1 pc = .ok (.ior, 1)) (k : Tn d M (pc + 1) T σ L (.int (x ||| y) :: st) post) : Tn d M pc T σ L (.int y :: .int x :: st) post := fun P0 sz hs => by
  obtain ⟨r, T2, σ2, sz2, n9, w, hp⟩ := k P0 sz hs
  exact ⟨r, T2, σ2, sz2, n9, wp_ior hd w, hp⟩
theorem tn_ishr {x y : Int32} (hd : decode M.2.1 pc = .ok (.ishr, 1)) (k : Tn d M (pc + 1) T σ L (.int (x >>> (y &&& 31)) :: st) post) : Tn d M pc T σ L (.int y :: .int x :: st) post := fun P0 sz hs => by
  obtain ⟨r, T2, σ2, sz2, n9, w, hp⟩ := k P0 sz hs
  exact ⟨r, T2, σ2, sz2, n9, wp_ishr hd w, hp⟩
theorem tn_i2b {x : Int32} (hd : decode M.2.1 pc = .ok (.i2b, 1)) (k : Tn d M (pc + 1) T σ L (.int x.toInt8.toInt32 :: st) post) : Tn d M pc T σ L (.int x :: st) post := fun P0 sz hs => by
  obtain ⟨r, T2, σ2, sz2, n9, w, hp⟩ := k P0 sz hs
  exact ⟨r, T2, σ2, sz2, n9, wp_i2b hd rfl w, hp⟩
theorem tn_i2l {x : Int32} (hd : decode M.2.1 pc = .ok (.i2l, 1)) (k : Tn d M (pc + 1) T σ L (.long x.toInt64 :: st) post) : Tn d M pc T σ L (.int x :: st) post := fun P0 sz hs => by
  obtain ⟨r, T2, σ2, sz2, n9, w, hp⟩ := k P0 sz hs
  exact ⟨r, T2, σ2, sz2, n9, wp_i2l hd rfl w, hp⟩
theorem tn_lor {x y : Int64} (hd : decode M.2.1 pc = .ok (.lor, 1)) (k : Tn d M (pc + 1) T σ L (.long (x ||| y) :: st) post) : Tn d M pc T σ L (.long y :: .long x :: st) post := fun P0 sz hs => by
  obtain ⟨r, T2, σ2, sz2, n9, w, hp⟩ := k P0 sz hs
  exact ⟨r, T2, σ2, sz2, n9, wp_lor hd w, hp⟩
theorem tn_lshl {x : Int64} {y : Int32} (hd : decode M.2.1 pc = .ok (.lshl, 1)) (k : Tn d M (pc + 1) T σ L (.long (x <<< (y.toInt64 &&& 63)) :: st) post) : Tn d M pc T σ L (.int y :: .long x :: st) post := fun P0 sz hs => by
  obtain ⟨r, T2, σ2, sz2, n9, w, hp⟩ := k P0 sz hs
  exact ⟨r, T2, σ2, sz2, n9, wp_lshl hd rfl w, hp⟩
theorem tn_dup {va : Value} (hd : decode M.2.1 pc = .ok (.dup, 1)) (hva : va.category = 1) (k : Tn d M (pc + 1) T σ L (va :: va :: st) post) : Tn d M pc T σ L (va :: st) post := fun P0 sz hs => by
  obtain ⟨r, T2, σ2, sz2, n9, w, hp⟩ := k P0 sz hs
  exact ⟨r, T2, σ2, sz2, n9, wp_dup hd hva w, hp⟩
theorem tn_pop {va : Value} (hd : decode M.2.1 pc = .ok (.pop, 1)) (hva : va.category = 1) (k : Tn d M (pc + 1) T σ L (st) post) : Tn d M pc T σ L (va :: st) post := fun P0 sz hs => by
  obtain ⟨r, T2, σ2, sz2, n9, w, hp⟩ := k P0 sz hs
  exact ⟨r, T2, σ2, sz2, n9, wp_pop hd hva w, hp⟩
theorem tn_dup2 {va vb : Value} (hd : decode M.2.1 pc = .ok (.dup2, 1)) (hva : va.category = 1) (hvb : vb.category = 1) (k : Tn d M (pc + 1) T σ L (va :: vb :: va :: vb :: st) post) : Tn d M pc T σ L (va :: vb :: st) post := fun P0 sz hs => by
  obtain ⟨r, T2, σ2, sz2, n9, w, hp⟩ := k P0 sz hs
  exact ⟨r, T2, σ2, sz2, n9, wp_dup2 hd hva hvb w, hp⟩
theorem tn_goto {off : Int} {tgt : Nat} (hd : decode M.2.1 pc = .ok (.goto off, 3)) (ht : (pc : Int) + off = (tgt : Int)) (k : Tn d M (tgt) T σ L (st) post) : Tn d M pc T σ L (st) post := fun P0 sz hs => by
  obtain ⟨r, T2, σ2, sz2, n9, w, hp⟩ := k P0 sz hs
  exact ⟨r, T2, σ2, sz2, n9, wp_goto hd ht w, hp⟩
theorem tn_icmp_eq {x y : Int} {off : Int} {tgt : Nat} (hd : decode M.2.1 pc = .ok (.if_icmp .eq off, 3)) (ht : (pc : Int) + off = (tgt : Int)) (hx : inR x) (hy : inR y) (kt : x = y → Tn d M tgt T σ L st post) (kf : ¬ x = y → Tn d M (pc + 3) T σ L st post) : Tn d M pc T σ L (.int (iI y) :: .int (iI x) :: st) post := fun P0 sz hs => by
  by_cases hxy : x = y
  · obtain ⟨r, T2, σ2, sz2, n9, w, hp⟩ := kt hxy P0 sz hs
    exact ⟨r, T2, σ2, sz2, n9, wp_icmp_eq hd ht (fun _ => w) (fun hf => absurd (iI_c_eq hx hy hxy) (iI_d_eq hf)), hp⟩
  · obtain ⟨r, T2, σ2, sz2, n9, w, hp⟩ := kf (by omega) P0 sz hs
    exact ⟨r, T2, σ2, sz2, n9, wp_icmp_eq hd ht (fun hf => absurd hf (iI_n_eq hx hy hxy)) (fun _ => w), hp⟩
theorem tn_if_eq {x : Int} {off : Int} {tgt : Nat} (hd : decode M.2.1 pc = .ok (.ifCond .eq off, 3)) (ht : (pc : Int) + off = (tgt : Int)) (hx : inR x) (kt : x = 0 → Tn d M tgt T σ L st post) (kf : ¬ x = 0 → Tn d M (pc + 3) T σ L st post) : Tn d M pc T σ L (.int (iI x) :: st) post := fun P0 sz hs => by
  by_cases hxy : x = 0
  · obtain ⟨r, T2, σ2, sz2, n9, w, hp⟩ := kt hxy P0 sz hs
    exact ⟨r, T2, σ2, sz2, n9, wp_if_eq hd ht (fun _ => w) (fun hf => absurd (iI_c_eq hx inR_0 hxy) (iI_d_eq hf)), hp⟩
  · obtain ⟨r, T2, σ2, sz2, n9, w, hp⟩ := kf (by omega) P0 sz hs
    exact ⟨r, T2, σ2, sz2, n9, wp_if_eq hd ht (fun hf => absurd hf (iI_n_eq hx inR_0 hxy)) (fun _ => w), hp⟩
theorem tn_icmp_ne {x y : Int} {off : Int} {tgt : Nat} (hd : decode M.2.1 pc = .ok (.if_icmp .ne off, 3)) (ht : (pc : Int) + off = (tgt : Int)) (hx : inR x) (hy : inR y) (kt : ¬ x = y → Tn d M tgt T σ L st post) (kf : x = y → Tn d M (pc + 3) T σ L st post) : Tn d M pc T σ L (.int (iI y) :: .int (iI x) :: st) post := fun P0 sz hs => by
  by_cases hxy : ¬ x = y
  · obtain ⟨r, T2, σ2, sz2, n9, w, hp⟩ := kt hxy P0 sz hs
    exact ⟨r, T2, σ2, sz2, n9, wp_icmp_ne hd ht (fun _ => w) (fun hf => absurd (iI_c_ne hx hy hxy) (iI_d_ne hf)), hp⟩
  · obtain ⟨r, T2, σ2, sz2, n9, w, hp⟩ := kf (by omega) P0 sz hs
    exact ⟨r, T2, σ2, sz2, n9, wp_icmp_ne hd ht (fun hf => absurd hf (iI_n_ne hx hy hxy)) (fun _ => w), hp⟩
theorem tn_if_ne {x : Int} {off : Int} {tgt : Nat} (hd : decode M.2.1 pc = .ok (.ifCond .ne off, 3)) (ht : (pc : Int) + off = (tgt : Int)) (hx : inR x) (kt : ¬ x = 0 → Tn d M tgt T σ L st post) (kf : x = 0 → Tn d M (pc + 3) T σ L st post) : Tn d M pc T σ L (.int (iI x) :: st) post := fun P0 sz hs => by
  by_cases hxy : ¬ x = 0
  · obtain ⟨r, T2, σ2, sz2, n9, w, hp⟩ := kt hxy P0 sz hs
    exact ⟨r, T2, σ2, sz2, n9, wp_if_ne hd ht (fun _ => w) (fun hf => absurd (iI_c_ne hx inR_0 hxy) (iI_d_ne hf)), hp⟩
  · obtain ⟨r, T2, σ2, sz2, n9, w, hp⟩ := kf (by omega) P0 sz hs
    exact ⟨r, T2, σ2, sz2, n9, wp_if_ne hd ht (fun hf => absurd hf (iI_n_ne hx inR_0 hxy)) (fun _ => w), hp⟩
theorem tn_icmp_lt {x y : Int} {off : Int} {tgt : Nat} (hd : decode M.2.1 pc = .ok (.if_icmp .lt off, 3)) (ht : (pc : Int) + off = (tgt : Int)) (hx : inR x) (hy : inR y) (kt : x < y → Tn d M tgt T σ L st post) (kf : y ≤ x → Tn d M (pc + 3) T σ L st post) : Tn d M pc T σ L (.int (iI y) :: .int (iI x) :: st) post := fun P0 sz hs => by
  by_cases hxy : x < y
  · obtain ⟨r, T2, σ2, sz2, n9, w, hp⟩ := kt hxy P0 sz hs
    exact ⟨r, T2, σ2, sz2, n9, wp_icmp_lt hd ht (fun _ => w) (fun hf => absurd (iI_c_lt hx hy hxy) (iI_d_lt hf)), hp⟩
  · obtain ⟨r, T2, σ2, sz2, n9, w, hp⟩ := kf (by omega) P0 sz hs
    exact ⟨r, T2, σ2, sz2, n9, wp_icmp_lt hd ht (fun hf => absurd hf (iI_n_lt hx hy hxy)) (fun _ => w), hp⟩
theorem tn_if_lt {x : Int} {off : Int} {tgt : Nat} (hd : decode M.2.1 pc = .ok (.ifCond .lt off, 3)) (ht : (pc : Int) + off = (tgt : Int)) (hx : inR x) (kt : x < 0 → Tn d M tgt T σ L st post) (kf : 0 ≤ x → Tn d M (pc + 3) T σ L st post) : Tn d M pc T σ L (.int (iI x) :: st) post := fun P0 sz hs => by
  by_cases hxy : x < 0
  · obtain ⟨r, T2, σ2, sz2, n9, w, hp⟩ := kt hxy P0 sz hs
    exact ⟨r, T2, σ2, sz2, n9, wp_if_lt hd ht (fun _ => w) (fun hf => absurd (iI_c_lt hx inR_0 hxy) (iI_d_lt hf)), hp⟩
  · obtain ⟨r, T2, σ2, sz2, n9, w, hp⟩ := kf (by omega) P0 sz hs
    exact ⟨r, T2, σ2, sz2, n9, wp_if_lt hd ht (fun hf => absurd hf (iI_n_lt hx inR_0 hxy)) (fun _ => w), hp⟩
theorem tn_icmp_ge {x y : Int} {off : Int} {tgt : Nat} (hd : decode M.2.1 pc = .ok (.if_icmp .ge off, 3)) (ht : (pc : Int) + off = (tgt : Int)) (hx : inR x) (hy : inR y) (kt : y ≤ x → Tn d M tgt T σ L st post) (kf : x < y → Tn d M (pc + 3) T σ L st post) : Tn d M pc T σ L (.int (iI y) :: .int (iI x) :: st) post := fun P0 sz hs => by
  by_cases hxy : y ≤ x
  · obtain ⟨r, T2, σ2, sz2, n9, w, hp⟩ := kt hxy P0 sz hs
    exact ⟨r, T2, σ2, sz2, n9, wp_icmp_ge hd ht (fun _ => w) (fun hf => absurd (iI_c_ge hx hy hxy) (iI_d_ge hf)), hp⟩
  · obtain ⟨r, T2, σ2, sz2, n9, w, hp⟩ := kf (by omega) P0 sz hs
    exact ⟨r, T2, σ2, sz2, n9, wp_icmp_ge hd ht (fun hf => absurd hf (iI_n_ge hx hy hxy)) (fun _ => w), hp⟩
theorem tn_if_ge {x : Int} {off : Int} {tgt : Nat} (hd : decode M.2.1 pc = .ok (.ifCond .ge off, 3)) (ht : (pc : Int) + off = (tgt : Int)) (hx : inR x) (kt : 0 ≤ x → Tn d M tgt T σ L st post) (kf : x < 0 → Tn d M (pc + 3) T σ L st post) : Tn d M pc T σ L (.int (iI x) :: st) post := fun P0 sz hs => by
  by_cases hxy : 0 ≤ x
  · obtain ⟨r, T2, σ2, sz2, n9, w, hp⟩ := kt hxy P0 sz hs
    exact ⟨r, T2, σ2, sz2, n9, wp_if_ge hd ht (fun _ => w) (fun hf => absurd (iI_c_ge hx inR_0 hxy) (iI_d_ge hf)), hp⟩
  · obtain ⟨r, T2, σ2, sz2, n9, w, hp⟩ := kf (by omega) P0 sz hs
    exact ⟨r, T2, σ2, sz2, n9, wp_if_ge hd ht (fun hf => absurd hf (iI_n_ge hx inR_0 hxy)) (fun _ => w), hp⟩
theorem tn_icmp_gt {x y : Int} {off : Int} {tgt : Nat} (hd : decode M.2.1 pc = .ok (.if_icmp .gt off, 3)) (ht : (pc : Int) + off = (tgt : Int)) (hx : inR x) (hy : inR y) (kt : y < x → Tn d M tgt T σ L st post) (kf : x ≤ y → Tn d M (pc + 3) T σ L st post) : Tn d M pc T σ L (.int (iI y) :: .int (iI x) :: st) post := fun P0 sz hs => by
  by_cases hxy : y < x
  · obtain ⟨r, T2, σ2, sz2, n9, w, hp⟩ := kt hxy P0 sz hs
    exact ⟨r, T2, σ2, sz2, n9, wp_icmp_gt hd ht (fun _ => w) (fun hf => absurd (iI_c_gt hx hy hxy) (iI_d_gt hf)), hp⟩
  · obtain ⟨r, T2, σ2, sz2, n9, w, hp⟩ := kf (by omega) P0 sz hs
    exact ⟨r, T2, σ2, sz2, n9, wp_icmp_gt hd ht (fun hf => absurd hf (iI_n_gt hx hy hxy)) (fun _ => w), hp⟩
theorem tn_if_gt {x : Int} {off : Int} {tgt : Nat} (hd : decode M.2.1 pc = .ok (.ifCond .gt off, 3)) (ht : (pc : Int) + off = (tgt : Int)) (hx : inR x) (kt : 0 < x → Tn d M tgt T σ L st post) (kf : x ≤ 0 → Tn d M (pc + 3) T σ L st post) : Tn d M pc T σ L (.int (iI x) :: st) post := fun P0 sz hs => by
  by_cases hxy : 0 < x
  · obtain ⟨r, T2, σ2, sz2, n9, w, hp⟩ := kt hxy P0 sz hs
    exact ⟨r, T2, σ2, sz2, n9, wp_if_gt hd ht (fun _ => w) (fun hf => absurd (iI_c_gt hx inR_0 hxy) (iI_d_gt hf)), hp⟩
  · obtain ⟨r, T2, σ2, sz2, n9, w, hp⟩ := kf (by omega) P0 sz hs
    exact ⟨r, T2, σ2, sz2, n9, wp_if_gt hd ht (fun hf => absurd hf (iI_n_gt hx inR_0 hxy)) (fun _ => w), hp⟩
theorem tn_icmp_le {x y : Int} {off : Int} {tgt : Nat} (hd : decode M.2.1 pc = .ok (.if_icmp .le off, 3)) (ht : (pc : Int) + off = (tgt : Int)) (hx : inR x) (hy : inR y) (kt : x ≤ y → Tn d M tgt T σ L st post) (kf : y < x → Tn d M (pc + 3) T σ L st post) : Tn d M pc T σ L (.int (iI y) :: .int (iI x) :: st) post := fun P0 sz hs => by
  by_cases hxy : x ≤ y
  · obtain ⟨r, T2, σ2, sz2, n9, w, hp⟩ := kt hxy P0 sz hs
    exact ⟨r, T2, σ2, sz2, n9, wp_icmp_le hd ht (fun _ => w) (fun hf => absurd (iI_c_le hx hy hxy) (iI_d_le hf)), hp⟩
  · obtain ⟨r, T2, σ2, sz2, n9, w, hp⟩ := kf (by omega) P0 sz hs
    exact ⟨r, T2, σ2, sz2, n9, wp_icmp_le hd ht (fun hf => absurd hf (iI_n_le hx hy hxy)) (fun _ => w), hp⟩
theorem tn_if_le {x : Int} {off : Int} {tgt : Nat} (hd : decode M.2.1 pc = .ok (.ifCond .le off, 3)) (ht : (pc : Int) + off = (tgt : Int)) (hx : inR x) (kt : x ≤ 0 → Tn d M tgt T σ L st post) (kf : 0 < x → Tn d M (pc + 3) T σ L st post) : Tn d M pc T σ L (.int (iI x) :: st) post := fun P0 sz hs => by
  by_cases hxy : x ≤ 0
  · obtain ⟨r, T2, σ2, sz2, n9, w, hp⟩ := kt hxy P0 sz hs
    exact ⟨r, T2, σ2, sz2, n9, wp_if_le hd ht (fun _ => w) (fun hf => absurd (iI_c_le hx inR_0 hxy) (iI_d_le hf)), hp⟩
  · obtain ⟨r, T2, σ2, sz2, n9, w, hp⟩ := kf (by omega) P0 sz hs
    exact ⟨r, T2, σ2, sz2, n9, wp_if_le hd ht (fun hf => absurd hf (iI_n_le hx inR_0 hxy)) (fun _ => w), hp⟩
theorem tn_land {x y : Int64} (hd : decode M.2.1 pc = .ok (.land, 1)) (k : Tn d M (pc + 1) T σ L (.long (x &&& y) :: st) post) : Tn d M pc T σ L (.long y :: .long x :: st) post := fun P0 sz hs => by
  obtain ⟨r, T2, σ2, sz2, n9, w, hp⟩ := k P0 sz hs
  exact ⟨r, T2, σ2, sz2, n9, wp_land hd w, hp⟩
theorem tn_lxor {x y : Int64} (hd : decode M.2.1 pc = .ok (.lxor, 1)) (k : Tn d M (pc + 1) T σ L (.long (x ^^^ y) :: st) post) : Tn d M pc T σ L (.long y :: .long x :: st) post := fun P0 sz hs => by
  obtain ⟨r, T2, σ2, sz2, n9, w, hp⟩ := k P0 sz hs
  exact ⟨r, T2, σ2, sz2, n9, wp_lxor hd w, hp⟩
theorem tn_lushr {x : Int64} {y : Int32} (hd : decode M.2.1 pc = .ok (.lushr, 1)) (k : Tn d M (pc + 1) T σ L (.long ((x.toUInt64 >>> (y.toInt64.toUInt64 &&& Int64.toUInt64 63)).toInt64) :: st) post) : Tn d M pc T σ L (.int y :: .long x :: st) post := fun P0 sz hs => by
  obtain ⟨r, T2, σ2, sz2, n9, w, hp⟩ := k P0 sz hs
  exact ⟨r, T2, σ2, sz2, n9, wp_lushr hd rfl w, hp⟩
theorem tn_iushr {x y : Int32} (hd : decode M.2.1 pc = .ok (.iushr, 1)) (k : Tn d M (pc + 1) T σ L (.int ((x.toUInt32 >>> (y.toUInt32 &&& Int32.toUInt32 31)).toInt32) :: st) post) : Tn d M pc T σ L (.int y :: .int x :: st) post := fun P0 sz hs => by
  obtain ⟨r, T2, σ2, sz2, n9, w, hp⟩ := k P0 sz hs
  exact ⟨r, T2, σ2, sz2, n9, wp_iushr hd rfl w, hp⟩
theorem tn_ishl {x y : Int32} (hd : decode M.2.1 pc = .ok (.ishl, 1)) (k : Tn d M (pc + 1) T σ L (.int (x <<< (y &&& 31)) :: st) post) : Tn d M pc T σ L (.int y :: .int x :: st) post := fun P0 sz hs => by
  obtain ⟨r, T2, σ2, sz2, n9, w, hp⟩ := k P0 sz hs
  exact ⟨r, T2, σ2, sz2, n9, wp_ishl hd w, hp⟩
theorem tn_null  (hd : decode M.2.1 pc = .ok (.aconst_null, 1)) (k : Tn d M (pc + 1) T σ L (.null :: st) post) : Tn d M pc T σ L (st) post := fun P0 sz hs => by
  obtain ⟨r, T2, σ2, sz2, n9, w, hp⟩ := k P0 sz hs
  exact ⟨r, T2, σ2, sz2, n9, wp_null hd w, hp⟩
theorem tn_lcmpX {x y : Int64} (hd : decode M.2.1 pc = .ok (.lcmp, 1)) (k : Tn d M (pc + 1) T σ L (.int (lg_cmp x y) :: st) post) : Tn d M pc T σ L (.long y :: .long x :: st) post := fun P0 sz hs => by
  obtain ⟨r, T2, σ2, sz2, n9, w, hp⟩ := k P0 sz hs
  exact ⟨r, T2, σ2, sz2, n9, wp_lcmp hd w, hp⟩
theorem tn_idivX {x y : Int32} (hd : decode M.2.1 pc = .ok (.idiv, 1)) (hne : ¬ y = 0) (k : Tn d M (pc + 1) T σ L (.int (x / y) :: st) post) : Tn d M pc T σ L (.int y :: .int x :: st) post := fun P0 sz hs => by
  obtain ⟨r, T2, σ2, sz2, n9, w, hp⟩ := k P0 sz hs
  exact ⟨r, T2, σ2, sz2, n9, wp_idiv hd hne w, hp⟩
theorem tn_aload_nN {kf : Fin 4} {i : Nat} (hd : decode M.2.1 pc = .ok (.aload_n kf, 1)) (hi : (kf : Nat) = i) (q : Nat) (hq : L[q]? = some (i, .null)) (k : Tn d M (pc + 1) T σ L (.null :: st) post) : Tn d M pc T σ L (st) post := fun P0 sz hs => by
  obtain ⟨r, T2, σ2, sz2, n9, w, hp⟩ := k P0 sz hs
  exact ⟨r, T2, σ2, sz2, n9, wp_aload_nN hd hi q hq w, hp⟩
theorem tn_astore_nN {kf : Fin 4} {i : Nat} {L' : List (Nat × Value)} (hd : decode M.2.1 pc = .ok (.astore_n kf, 1)) (hi : (kf : Nat) = i) (hm : i < M.2.2.1) (hq : (i, Value.null) :: L.filter (fun q => !(q.1 == i) && !(q.1 + 1 == i && q.2.category == 2)) = L') (k : Tn d M (pc + 1) T σ L' st post) : Tn d M pc T σ L (.null :: st) post := fun P0 sz hs => by
  obtain ⟨r, T2, σ2, sz2, n9, w, hp⟩ := k P0 sz hs
  exact ⟨r, T2, σ2, sz2, n9, wp_astore_nN hd hi hm hq w, hp⟩
theorem tn_aloadN {i : Nat} (hd : decode M.2.1 pc = .ok (.aload i, 2)) (q : Nat) (hq : L[q]? = some (i, .null)) (k : Tn d M (pc + 2) T σ L (.null :: st) post) : Tn d M pc T σ L (st) post := fun P0 sz hs => by
  obtain ⟨r, T2, σ2, sz2, n9, w, hp⟩ := k P0 sz hs
  exact ⟨r, T2, σ2, sz2, n9, wp_aloadN hd q hq w, hp⟩
theorem tn_astoreN {i : Nat} {L' : List (Nat × Value)} (hd : decode M.2.1 pc = .ok (.astore i, 2)) (hm : i < M.2.2.1) (hq : (i, Value.null) :: L.filter (fun q => !(q.1 == i) && !(q.1 + 1 == i && q.2.category == 2)) = L') (k : Tn d M (pc + 2) T σ L' st post) : Tn d M pc T σ L (.null :: st) post := fun P0 sz hs => by
  obtain ⟨r, T2, σ2, sz2, n9, w, hp⟩ := k P0 sz hs
  exact ⟨r, T2, σ2, sz2, n9, wp_astoreN hd hm hq w, hp⟩
end TNR
