section
abbrev It : Type := Int → Int
abbrev KN : Type := Int → Int × Int
def uZ {α : Type} (f : Int → α) (z : Int) (v : α) : Int → α := fun q => if q = z then v else f q
theorem uZ_eq {α : Type} {f : Int → α} {z : Int} {v : α} : uZ f z v z = v := if_pos rfl
theorem uZ_ne {α : Type} {f : Int → α} {z q : Int} {v : α} (h : q ≠ z) : uZ f z v q = f q := if_neg h
noncomputable def dI {α : Type} (P : Prop) (a b : α) : α := @ite α P (Classical.propDecidable P) a b
theorem dI_y {α : Type} {P : Prop} {a b : α} (h : P) : dI P a b = a := by unfold dI; rw [if_pos h]
theorem dI_n {α : Type} {P : Prop} {a b : α} (h : ¬ P) : dI P a b = b := by unfold dI; rw [if_neg h]
theorem dI_c {α : Type} {P Q : Prop} {a b : α} (h : P ↔ Q) : dI P a b = dI Q a b := by
  by_cases q : P
  · rw [dI_y q, dI_y (h.mp q)]
  · rw [dI_n q, dI_n (fun w => q (h.mpr w))]
def zI : It := fun _ => 0
def rI (σ : MS) (x : Int) : It := fun c => if c = 0 then σ.2.1 3 x else if c = 1 then σ.2.1 4 x else if c = 2 then σ.2.1 5 x else if c = 3 then σ.2.1 7 (4 * x + 0) else if c = 4 then σ.2.1 8 (4 * x + 0) else if c = 5 then σ.2.1 7 (4 * x + 1) else if c = 6 then σ.2.1 8 (4 * x + 1) else if c = 7 then σ.2.1 7 (4 * x + 2) else if c = 8 then σ.2.1 8 (4 * x + 2) else if c = 9 then σ.2.1 7 (4 * x + 3) else if c = 10 then σ.2.1 8 (4 * x + 3) else if c = 11 then σ.2.1 6 x else 0
section RI
variable {σ τ : MS} {x y k v j w : Int}
theorem ri0 : rI σ x 0 = σ.2.1 3 x := rfl
theorem ri1 : rI σ x 1 = σ.2.1 4 x := rfl
theorem ri2 : rI σ x 2 = σ.2.1 5 x := rfl
theorem ri3 : rI σ x 3 = σ.2.1 7 (4 * x + 0) := rfl
theorem ri4 : rI σ x 4 = σ.2.1 8 (4 * x + 0) := rfl
theorem ri5 : rI σ x 5 = σ.2.1 7 (4 * x + 1) := rfl
theorem ri6 : rI σ x 6 = σ.2.1 8 (4 * x + 1) := rfl
theorem ri11 : rI σ x 11 = σ.2.1 6 x := rfl
theorem riK (h0 : 0 ≤ j) (h1 : j < 4) : rI σ x (3 + 2 * j) = σ.2.1 7 (4 * x + j) := by
  have h : j = 0 ∨ j = 1 ∨ j = 2 ∨ j = 3 := by omega
  rcases h with rfl | rfl | rfl | rfl <;> rfl
theorem riN (h0 : 0 ≤ j) (h1 : j < 4) : rI σ x (4 + 2 * j) = σ.2.1 8 (4 * x + j) := by
  have h : j = 0 ∨ j = 1 ∨ j = 2 ∨ j = 3 := by omega
  rcases h with rfl | rfl | rfl | rfl <;> rfl
theorem IEQ.ri (h : IEQ σ x τ y) : rI τ y = rI σ x := by
  funext c
  obtain ⟨h3, h4, h5, h6, h7⟩ := h
  have a0 := h7 0 (by decide) (by decide)
  have a1 := h7 1 (by decide) (by decide)
  have a2 := h7 2 (by decide) (by decide)
  have a3 := h7 3 (by decide) (by decide)
  simp only [rI, h3, h4, h5, h6, a0.1, a0.2, a1.1, a1.2, a2.1, a2.2, a3.1, a3.2]
theorem OFF.ri (h : OFF x σ τ) (hy : y ≠ x) : rI τ y = rI σ y := (h.ieq hy).ri
theorem Fr.ri {ss ks js : List Nat} (f : Fr ss ks js σ τ) (h : ∀ k ∈ [3, 4, 5, 6, 7, 8], k ∉ ks) : rI τ = rI σ := by
  funext x
  exact (IEQ.fr f h).ri
theorem ri_A3 : rI (sA 3 x v σ) x = uZ (rI σ x) 0 v := by
  funext c
  by_cases h : c = 0
  · simp [h, rI, uZ, sA]
  · simp [h, rI, uZ, sA]
theorem ri_A4 : rI (sA 4 x v σ) x = uZ (rI σ x) 1 v := by
  funext c
  by_cases h : c = 1
  · simp [h, rI, uZ, sA]
  · simp [h, rI, uZ, sA]
theorem ri_A5 : rI (sA 5 x v σ) x = uZ (rI σ x) 2 v := by
  funext c
  by_cases h : c = 2
  · simp [h, rI, uZ, sA]
  · simp [h, rI, uZ, sA]
theorem ri_A6 : rI (sA 6 x v σ) x = uZ (rI σ x) 11 v := by
  funext c
  by_cases h : c = 11
  · simp [h, rI, uZ, sA]
  · simp [h, rI, uZ, sA]
theorem ri_A8 (h0 : 0 ≤ j) (h1 : j < 4) : rI (sA 8 (4 * x + j) v σ) x = uZ (rI σ x) (4 + 2 * j) v := by
  funext c
  by_cases h : c = 4 + 2 * j
  · rw [h, uZ_eq, riN h0 h1]; exact ra_eq
  · rw [uZ_ne h]
    have e : ∀ i, c = 4 + 2 * i → 0 ≤ i → i < 4 → rI (sA 8 (4 * x + j) v σ) x c = rI σ x c := fun i hi a b => by
      rw [hi, riN a b, riN a b]; exact ra_ne (by omega) rfl
    by_cases q : c = 4 ∨ c = 6 ∨ c = 8 ∨ c = 10
    · exact e ((c - 4) / 2) (by omega) (by omega) (by omega)
    · simp only [rI, if_neg (show ¬ c = 4 by omega), if_neg (show ¬ c = 6 by omega), if_neg (show ¬ c = 8 by omega), if_neg (show ¬ c = 10 by omega)]
      rfl
theorem ri_A7 (h0 : 0 ≤ j) (h1 : j < 4) : rI (sA 7 (4 * x + j) v σ) x = uZ (rI σ x) (3 + 2 * j) v := by
  funext c
  by_cases h : c = 3 + 2 * j
  · rw [h, uZ_eq, riK h0 h1]; exact ra_eq
  · rw [uZ_ne h]
    have e : ∀ i, c = 3 + 2 * i → 0 ≤ i → i < 4 → rI (sA 7 (4 * x + j) v σ) x c = rI σ x c := fun i hi a b => by
      rw [hi, riK a b, riK a b]; exact ra_ne (by omega) rfl
    by_cases q : c = 3 ∨ c = 5 ∨ c = 7 ∨ c = 9
    · exact e ((c - 3) / 2) (by omega) (by omega) (by omega)
    · simp only [rI, if_neg (show ¬ c = 3 by omega), if_neg (show ¬ c = 5 by omega), if_neg (show ¬ c = 7 by omega), if_neg (show ¬ c = 9 by omega)]
      rfl
theorem ri_arg (h0 : 0 ≤ j) (h1 : j < 4) : rI (fArg x j k v σ) x = uZ (uZ (rI σ x) (3 + 2 * j) k) (4 + 2 * j) v := by
  unfold fArg
  rw [ri_A8 h0 h1, ri_A7 h0 h1]
theorem ri_arg0 : rI (fArg x 0 k v σ) x = uZ (uZ (rI σ x) 3 k) 4 v := ri_arg (j := 0) (by decide) (by decide)
theorem ri_arg1 : rI (fArg x 1 k v σ) x = uZ (uZ (rI σ x) 5 k) 6 v := ri_arg (j := 1) (by decide) (by decide)
theorem ri_copy : rI (fCopy x y σ) y = rI σ x := fCopy_ieq.ri
end RI
def rV (σ : MS) (r : Int) : Int → It := fun k => if 0 ≤ k ∧ k < σ.2.1 9 r then rI σ (220 * r + k) else zI
def oV (σ : MS) (r t : Int) : Int → It := fun k => if 0 ≤ k ∧ k < t then rI σ (220 * r + k) else zI
section RV
variable {σ τ : MS} {r t k : Int}
theorem rv_in (h0 : 0 ≤ k) (h1 : k < σ.2.1 9 r) : rV σ r k = rI σ (220 * r + k) := if_pos ⟨h0, h1⟩
theorem rv_ov : rV σ r = oV σ r (σ.2.1 9 r) := rfl
theorem ov_ext (h : ∀ j, 0 ≤ j → j < t → rI τ (220 * r + j) = rI σ (220 * r + j)) : oV τ r t = oV σ r t := by
  funext j
  unfold oV
  by_cases q : 0 ≤ j ∧ j < t
  · rw [if_pos q, if_pos q]; exact h j q.1 q.2
  · rw [if_neg q, if_neg q]
theorem ov_up (h0 : 0 ≤ t) (h : ∀ j, 0 ≤ j → j < t → rI τ (220 * r + j) = rI σ (220 * r + j)) : oV τ r (t + 1) = uZ (oV σ r t) t (rI τ (220 * r + t)) := by
  funext j
  by_cases e : j = t
  · rw [e, uZ_eq]; exact if_pos ⟨h0, by omega⟩
  · rw [uZ_ne e]
    unfold oV
    by_cases q : 0 ≤ j ∧ j < t
    · rw [if_pos q, if_pos ⟨q.1, by omega⟩]; exact h j q.1 q.2
    · rw [if_neg q, if_neg (by omega)]
theorem ov_copy {x : Int} (h0 : 0 ≤ t) : oV (fCopy x (220 * r + t) σ) r (t + 1) = uZ (oV σ r t) t (rI σ x) := by
  rw [ov_up (σ := σ) h0 (fun j a b => fCopy_off.ri (by omega)), ri_copy]
theorem ov_0 : oV σ r 0 = fun _ => zI := by
  funext j
  exact if_neg (by omega)
end RV
def mkI (k d o ak a w : Int) : It := fun c => if c = 0 then k else if c = 1 then d else if c = 2 then o else if c = 3 then ak else if c = 4 then a else if c = 11 then w else 0
theorem item_ri {σ : MS} {k d o x : Int} : rI (fItem x k d o σ) x = mkI k d o 0 0 0 := by
  funext c
  have e : ∀ i, 0 ≤ i → i < 4 → (fItem x k d o σ).2.1 7 (4 * x + i) = 0 ∧ (fItem x k d o σ).2.1 8 (4 * x + i) = 0 := fun i h0 h1 => by
    have h : i = 0 ∨ i = 1 ∨ i = 2 ∨ i = 3 := by omega
    unfold fItem
    rcases h with rfl | rfl | rfl | rfl
    · exact ⟨ra_o (by decide) (ra_ne (by omega) (ra_o (by decide) (ra_ne (by omega) (ra_o (by decide) (ra_ne (by omega) (ra_o (by decide) ra_eq)))))), ra_ne (by omega) (ra_o (by decide) (ra_ne (by omega) (ra_o (by decide) (ra_ne (by omega) (ra_o (by decide) ra_eq)))))⟩
    · exact ⟨ra_o (by decide) (ra_ne (by omega) (ra_o (by decide) (ra_ne (by omega) (ra_o (by decide) ra_eq)))), ra_ne (by omega) (ra_o (by decide) (ra_ne (by omega) (ra_o (by decide) ra_eq)))⟩
    · exact ⟨ra_o (by decide) (ra_ne (by omega) (ra_o (by decide) ra_eq)), ra_ne (by omega) (ra_o (by decide) ra_eq)⟩
    · exact ⟨ra_o (by decide) ra_eq, ra_eq⟩
  have e3 : (fItem x k d o σ).2.1 3 x = k := by simp [fItem, sA]
  have e4 : (fItem x k d o σ).2.1 4 x = d := by simp [fItem, sA]
  have e5 : (fItem x k d o σ).2.1 5 x = o := by simp [fItem, sA]
  have e6 : (fItem x k d o σ).2.1 6 x = 0 := by simp [fItem, sA]
  have a0 := e 0 (by decide) (by decide)
  have a1 := e 1 (by decide) (by decide)
  have a2 := e 2 (by decide) (by decide)
  have a3 := e 3 (by decide) (by decide)
  simp only [rI, mkI, e3, e4, e5, e6, a0.1, a0.2, a1.1, a1.2, a2.1, a2.2, a3.1, a3.2]
  by_cases h0 : c = 0
  · simp [h0]
  · by_cases h1 : c = 1
    · simp [h1]
    · by_cases h2 : c = 2
      · simp [h2]
      · simp [h0, h1, h2]
abbrev ME : Type := Int × Int × Int × List (Int × Int)
abbrev MK : Type := (Int × Int × Int × Int × Int) × (Int × (Int → It)) × (Int × Int) × List ME × ((Int → Int × (Int → It)) × (Int → Int))
abbrev MK.rt (m : MK) : Int := m.1.1
abbrev MK.ln (m : MK) : Int := m.1.2.1
abbrev MK.fs (m : MK) : Int := m.1.2.2.1
abbrev MK.lab (m : MK) : Int := m.1.2.2.2.1
abbrev MK.tmp (m : MK) : Int := m.1.2.2.2.2
abbrev MK.n (m : MK) : Int := m.2.1.1
abbrev MK.V (m : MK) : Int → It := m.2.1.2
abbrev MK.pk (m : MK) : Int := m.2.2.1.1
abbrev MK.pv (m : MK) : Int := m.2.2.1.2
abbrev MK.S (m : MK) : List ME := m.2.2.2.1
def MK.sS (m : MK) (S : List ME) : MK := (m.1, m.2.1, m.2.2.1, S, m.2.2.2.2)
def MK.sP (m : MK) (k v : Int) : MK := (m.1, m.2.1, (k, v), m.2.2.2)
def MK.sL (m : MK) (l : Int) : MK := ((m.rt, m.ln, m.fs, l, m.tmp), m.2)
def MK.sT (m : MK) (l : Int) : MK := ((m.rt, m.ln, m.fs, m.lab, l), m.2)
def it2 (k d ak a bk b : Int) : It := fun c => if c = 0 then k else if c = 1 then d else if c = 3 then ak else if c = 4 then a else if c = 5 then bk else if c = 6 then b else 0
def argA (as : List (Int × Int)) (i : Nat) : Int × Int := as.getD i (0, 0)
def itC (d q : Int) (as : List (Int × Int)) : It := fun c => if c = 0 then 10 else if c = 1 then d else if c = 2 then q else if c = 3 then (argA as 0).1 else if c = 4 then (argA as 0).2 else if c = 5 then (argA as 1).1 else if c = 6 then (argA as 1).2 else if c = 7 then (argA as 2).1 else if c = 8 then (argA as 2).2 else if c = 9 then (argA as 3).1 else if c = 10 then (argA as 3).2 else 0
def bndI (n : Int) : It := mkI 12 n 0 2 n 2
def MK.put (m : MK) (i : It) : MK := (m.1, (m.n + 1, uZ m.V m.n i), m.2.2)
def MK.push (m : MK) (e : ME) : MK := m.sS (e :: m.S)
def MK.top (m : MK) (f : ME → ME) : MK := match m.S with
  | [] => m
  | e :: S => m.sS (f e :: S)
def MK.one (tb : Int → Int) (m : MK) : MK := match m.S with
  | [] => m
  | e :: S =>
    if e.1 = 0 then (((m.put (it2 (if e.2.1 < 6 then e.2.1 else 5) (tb m.rt + m.tmp) e.2.2.1 ((e.2.2.2.headD (0, 0)).1) m.pk m.pv)).sS S).sP 2 (tb m.rt + m.tmp)).sT (m.tmp + 1)
    else if e.1 = 1 then (m.put (mkI 11 m.ln 0 0 0 0)).sS S
    else if e.1 = 2 then ((m.put (mkI 9 m.lab 0 m.pk m.pv 0)).sS ((3, m.lab, 0, []) :: S)).sL (m.lab + 1)
    else if e.1 = 3 then (m.put (mkI 13 e.2.1 0 0 0 0)).sS S
    else if e.1 = 6 then ((m.put (mkI 9 m.lab 0 m.pk m.pv 0)).sS ((7, e.2.1, m.lab, []) :: S)).sL (m.lab + 1)
    else if e.1 = 10 then (m.put (mkI (if e.2.1 = 6 then 6 else 7) 0 0 m.pk m.pv 0)).sS S
    else if e.1 = 11 then (m.put (mkI 7 0 0 1 0 0)).sS S
    else m
def MK.two (m : MK) : MK := match m.S with
  | [] => m
  | e :: S =>
    if e.1 = 8 then ((m.put (mkI 0 e.2.1 0 m.pk m.pv 0)).put (bndI e.2.1)).sS S
    else if e.1 = 5 then (((m.put (mkI 13 m.lab 0 0 0 0)).put (mkI 11 m.ln 0 0 0 0)).sS ((6, m.lab, 0, []) :: S)).sL (m.lab + 1)
    else if e.1 = 4 then (((m.put (mkI 8 m.lab 0 0 0 0)).put (mkI 13 e.2.1 0 0 0 0)).sS ((3, m.lab, 0, []) :: S)).sL (m.lab + 1)
    else if e.1 = 7 then ((m.put (mkI 8 e.2.1 0 0 0 0)).put (mkI 13 e.2.2.1 0 0 0 0)).sS S
    else m
def MK.cal (rn : Int64 → Int) (w : Int64) (m : MK) : MK := match m.S with
  | [] => m
  | e :: S => if e.1 = 9 then ((m.put (itC e.2.1 (rn w) e.2.2.2)).put (bndI e.2.1)).sS S else m
def MK.stm (m : MK) : MK := ((m.rt, m.ln + 1, if m.fs = 0 then m.ln + 1 else m.fs, m.lab, m.tmp), m.2)
def mkk (s : Int → Int) (nm : Int → Int64 → Int) (rn : Int64 → Int) (tb : Int → Int) (k : Nat) (t : TK) (q : QR) (m : MK) : MK := match k with
  | 0 => if sgn t 45 then m.push (0, 2, 1, [(0, 0)]) else m
  | 1 => if t.2.2.1 = 3 then m.sP 1 t.2.2.2.1 else if nam t then m.sP 2 (nm m.rt t.2.2.2.2) else m
  | 6 => if sgn t 61 then m.push (0, 4, m.pk, [(m.pv, 0)]) else if sgn t 60 then m.push (0, 5, m.pk, [(m.pv, 0)]) else m
  | 8 => if sgn t 43 then m.push (0, 1, m.pk, [(m.pv, 0)]) else if sgn t 45 then m.push (0, 2, m.pk, [(m.pv, 0)]) else m
  | 9 => if sgn t 42 then m.push (0, 3, m.pk, [(m.pv, 0)]) else m
  | 20 => if wrd t 512852847717 then m.stm else m.stm.push (1, 0, 0, [])
  | 21 => m.push (2, 0, 0, [])
  | 22 => m.push (5, 0, 0, [])
  | 23 => m.push (8, nm m.rt t.2.2.2.2, 0, [])
  | 24 => if wrd t 1701606245 then m.top (fun e => if e.1 = 3 then (4, e.2.1, 0, []) else e) else m
  | 25 => if nam t ∧ sgn (advT s t.2.1) 40 then m.top (fun e => if e.1 = 8 then (9, e.2.1, 0, []) else e) else m
  | 27 => m.top (fun e => if e.1 = 9 then (9, e.2.1, 0, e.2.2.2 ++ [(m.pk, m.pv)]) else e)
  | 34 => ((m.rt + 1, m.ln, m.fs, m.lab, m.tmp), m.2.1, m.2.2.1, m.S, (uZ m.2.2.2.2.1 m.rt (m.n, m.V), uZ m.2.2.2.2.2 m.rt m.fs))
  | 35 => ((m.rt, m.ln, 0, 0, 0), (0, fun _ => zI), m.2.2.1, [(11, 0, 0, [])], m.2.2.2.2)
  | 38 => m.cal rn q.1
  | 39 => if wrd t 7304564 then m.push (10, 6, 0, []) else m.push (10, 7, 0, [])
  | 51 => m.one tb
  | 52 => m.two
  | _ => m
section MKS
variable {s : Int → Int} {nm : Int → Int64 → Int} {rn : Int64 → Int} {tb : Int → Int} {a b c : PCf} {m m1 m2 : MK}
def mkt (s : Int → Int) (nm : Int → Int64 → Int) (rn : Int64 → Int) (tb : Int → Int) (a : PCf) (m : MK) : MK := match a with
  | ([], _, _, _, _) => m
  | (k :: _, t, x, q, _) => match stk s k t x q with
    | none => m
    | some _ => mkk s nm rn tb k t q m
def mkn (s : Int → Int) (nm : Int → Int64 → Int) (rn : Int64 → Int) (tb : Int → Int) : Nat → PCf → MK → MK
  | 0, _, m => m
  | n + 1, a, m => mkn s nm rn tb n (stp s a) (mkt s nm rn tb a m)
theorem mkn_add (n k : Nat) : mkn s nm rn tb (n + k) a m = mkn s nm rn tb k (itr s n a) (mkn s nm rn tb n a m) := by
  induction n generalizing a m with
  | zero => simp [mkn, itr]
  | succ n ih =>
    rw [show n + 1 + k = (n + k) + 1 by omega]
    show mkn s nm rn tb (n + k) (stp s a) (mkt s nm rn tb a m) = mkn s nm rn tb k (itr s n (stp s a)) (mkn s nm rn tb n (stp s a) (mkt s nm rn tb a m))
    exact ih
def RM (s : Int → Int) (nm : Int → Int64 → Int) (rn : Int64 → Int) (tb : Int → Int) (a : PCf) (m : MK) (b : PCf) (m' : MK) : Prop := ∃ n, itr s n a = b ∧ mkn s nm rn tb n a m = m'
theorem RM.rfl : RM s nm rn tb a m a m := ⟨0, Eq.refl _, Eq.refl _⟩
theorem RM.trans (h : RM s nm rn tb a m b m1) (g : RM s nm rn tb b m1 c m2) : RM s nm rn tb a m c m2 := by
  obtain ⟨n, h1, h2⟩ := h
  obtain ⟨k, g1, g2⟩ := g
  exact ⟨n + k, by rw [itr_add, h1, g1], by rw [mkn_add, h1, h2, g2]⟩
theorem RM.one (h : stp s a = b) (e : mkt s nm rn tb a m = m1) : RM s nm rn tb a m b m1 := ⟨1, h, e⟩
theorem mkn_fix (h : stp s a = a) (e : ∀ m, mkt s nm rn tb a m = m) (n : Nat) : mkn s nm rn tb n a m = m := by
  induction n with
  | zero => rfl
  | succ n ih =>
    show mkn s nm rn tb n (stp s a) (mkt s nm rn tb a m) = m
    rw [h, e]; exact ih
theorem RM.det (h : RM s nm rn tb a m b m1) (g : RM s nm rn tb a m c m2) (hb : stp s b = b) (hc : stp s c = c) (eb : ∀ m, mkt s nm rn tb b m = m) (ec : ∀ m, mkt s nm rn tb c m = m) : b = c ∧ m1 = m2 := by
  obtain ⟨n, hn, n2⟩ := h
  obtain ⟨k, hk, k2⟩ := g
  by_cases z : n ≤ k
  · obtain ⟨j, rfl⟩ : ∃ j, k = n + j := ⟨k - n, by omega⟩
    rw [itr_add, hn, itr_fix hb] at hk
    rw [mkn_add, hn, mkn_fix hb eb, n2] at k2
    exact ⟨hk, k2⟩
  · obtain ⟨j, rfl⟩ : ∃ j, n = k + j := ⟨n - k, by omega⟩
    rw [itr_add, hk, itr_fix hc] at hn
    rw [mkn_add, hk, mkn_fix hc ec, k2] at n2
    exact ⟨hn.symm, n2.symm⟩
theorem mkt_s {k : Nat} {K : List Nat} {t : TK} {x : Int × Int × Int} {q : QR} {ρ : List EV} {r : List Nat × TK × (Int × Int × Int) × QR × List EV} (h : stk s k t x q = some r) : mkt s nm rn tb (k :: K, t, x, q, ρ) m = mkk s nm rn tb k t q m := by
  show (match stk s k t x q with
    | none => m
    | some _ => mkk s nm rn tb k t q m) = _
  rw [h]
theorem RM.step {k : Nat} {K : List Nat} {t : TK} {x : Int × Int × Int} {q : QR} {ρ : List EV} {r : List Nat × TK × (Int × Int × Int) × QR × List EV} (h : stk s k t x q = some r) : RM s nm rn tb (k :: K, t, x, q, ρ) m (r.1 ++ K, r.2.1, r.2.2.1, r.2.2.2.1, ρ ++ r.2.2.2.2) (mkk s nm rn tb k t q m) := by
  refine RM.one ?_ (mkt_s h)
  show (match stk s k t x q with
    | none => pF
    | some r => (r.1 ++ K, r.2.1, r.2.2.1, r.2.2.2.1, ρ ++ r.2.2.2.2)) = _
  rw [h]
theorem one_five {op ak av : Int} {S : List ME} (h6 : op < 6) (h : m.S = (0, op, ak, [(av, 0)]) :: S) : m.one tb = (((m.put (it2 op (tb m.rt + m.tmp) ak av m.pk m.pv)).sS S).sP 2 (tb m.rt + m.tmp)).sT (m.tmp + 1) := by
  unfold MK.one
  rw [h]
  show (((m.put (it2 (if op < 6 then op else 5) (tb m.rt + m.tmp) ak av m.pk m.pv)).sS S).sP 2 (tb m.rt + m.tmp)).sT (m.tmp + 1) = _
  rw [if_pos h6]
end MKS
end
section
def NMZ (σ : MS) (w : Int64) (v : Int) : Prop := (0 ≤ v ∧ v < σ.2.1 35 (σ.1 30) ∧ σ.2.2 38 (12 * σ.1 30 + v) = w ∧ ∀ j, 0 ≤ j → j < v → σ.2.2 38 (12 * σ.1 30 + j) ≠ w) ∨ ((∀ j, 0 ≤ j → j < σ.2.1 35 (σ.1 30) → σ.2.2 38 (12 * σ.1 30 + j) ≠ w) ∧ v = 0)
def NMK (σ : MS) (w : Int64) (v : Int) : Prop := σ.1 30 < 6 → NMZ σ w v
def RNV (σ : MS) (w : Int64) (v : Int) : Prop := (∃ q, RFD σ w q ∧ v = if q < 6 then q else 0) ∨ ((¬ ∃ q, RFD σ w q) ∧ v = 0)
def FIT (nm : Int → Int64 → Int) (rn : Int64 → Int) (tb : Int → Int) (σ : MS) : Prop := (∀ w v, NMZ σ w v → nm (σ.1 30) w = v) ∧ (∀ w v, RNV σ w v → rn w = v) ∧ tb (σ.1 30) = σ.2.1 35 (σ.1 30)
def KP (σ τ : MS) : Prop := (τ.1 25 = σ.1 25 ∧ τ.1 30 = σ.1 30 ∧ σ.1 34 ≤ τ.1 34) ∧ τ.2.1 35 = σ.2.1 35 ∧ τ.2.2 38 = σ.2.2 38 ∧ τ.1 43 = σ.1 43 ∧ τ.2.2 44 = σ.2.2 44 ∧ ∀ j, j ≠ σ.1 30 → τ.2.1 37 j = σ.2.1 37 j
theorem KP.trans {σ τ υ : MS} (h : KP σ τ) (g : KP τ υ) : KP σ υ := ⟨⟨g.1.1.trans h.1.1, g.1.2.1.trans h.1.2.1, Int.le_trans h.1.2.2 g.1.2.2⟩, g.2.1.trans h.2.1, g.2.2.1.trans h.2.2.1, g.2.2.2.1.trans h.2.2.2.1, g.2.2.2.2.1.trans h.2.2.2.2.1, fun j q => (g.2.2.2.2.2 j (by rw [h.1.2.1]; exact q)).trans (h.2.2.2.2.2 j q)⟩
theorem KP.fit {nm : Int → Int64 → Int} {rn : Int64 → Int} {tb : Int → Int} {σ τ : MS} (h : KP σ τ) (f : FIT nm rn tb σ) : FIT nm rn tb τ := by
  obtain ⟨⟨-, a, -⟩, b, c, d, e, -⟩ := h
  unfold FIT NMZ RNV RFD at *
  rw [a, b, c, d, e]
  exact f
abbrev DD9 : Type := (Int → Int × (Int → It)) × (Int → Int)
def mqS (σ : MS) (S : List ME) (D : DD9) : MK := ((σ.1 30, σ.1 31, σ.2.1 37 (σ.1 30), σ.1 33, σ.1 32 - σ.2.1 35 (σ.1 30)), (σ.1 34, oV σ (σ.1 30) (σ.1 34)), (σ.1 39, σ.1 40), S, D)
def mkv (σ : MS) : (Int × Int × Int × Int × Int × Int × Int × Int × Int) × (((Int → Int) × (Int → Int) × (Int → Int) × (Int → Int) × (Int → Int) × (Int → Int)) × (Int → Int) × (Int → Int)) × (Int → Int64) × (Int → Int64) := ((σ.1 25, σ.1 30, σ.1 31, σ.1 32, σ.1 33, σ.1 34, σ.1 39, σ.1 40, σ.1 43), ((σ.2.1 3, σ.2.1 4, σ.2.1 5, σ.2.1 6, σ.2.1 7, σ.2.1 8), σ.2.1 35, σ.2.1 37), σ.2.2 38, σ.2.2 44)
def MSE (σ τ : MS) : Prop := mkv τ = mkv σ
theorem MSE.rfl {σ : MS} : MSE σ σ := Eq.refl _
theorem MSE.trans {σ τ υ : MS} (h : MSE σ τ) (g : MSE τ υ) : MSE σ υ := Eq.trans g h
theorem MSE.fr {ss ks js : List Nat} {σ τ : MS} (f : Fr ss ks js σ τ) (h : ∀ k ∈ [25, 30, 31, 32, 33, 34, 39, 40, 43], k ∉ ss) (h2 : ∀ k ∈ [3, 4, 5, 6, 7, 8, 35, 37], k ∉ ks) (h3 : ∀ k ∈ [38, 44], k ∉ js) : MSE σ τ := by
  unfold MSE mkv
  rw [f.1 25 (h 25 (by decide)), f.1 30 (h 30 (by decide)), f.1 31 (h 31 (by decide)), f.1 32 (h 32 (by decide)), f.1 33 (h 33 (by decide)), f.1 34 (h 34 (by decide)), f.1 39 (h 39 (by decide)), f.1 40 (h 40 (by decide)), f.1 43 (h 43 (by decide)), f.2.1 3 (h2 3 (by decide)), f.2.1 4 (h2 4 (by decide)), f.2.1 5 (h2 5 (by decide)), f.2.1 6 (h2 6 (by decide)), f.2.1 7 (h2 7 (by decide)), f.2.1 8 (h2 8 (by decide)), f.2.1 35 (h2 35 (by decide)), f.2.1 37 (h2 37 (by decide)), f.2.2 38 (h3 38 (by decide)), f.2.2 44 (h3 44 (by decide))]
theorem MSE.of8 {ss ks js : List Nat} {σ τ : MS} (f : Fr ss ks js σ τ) (h : ∀ k ∈ [25, 30, 31, 32, 33, 34, 39, 40, 43], k ∉ ss) (h2 : ∀ k ∈ [3, 4, 5, 6, 7, 8, 37], k ∉ ks) (h3 : 44 ∉ js) (h35 : τ.2.1 35 = σ.2.1 35) (h38 : τ.2.2 38 = σ.2.2 38) : MSE σ τ := by
  unfold MSE mkv
  rw [f.1 25 (h 25 (by decide)), f.1 30 (h 30 (by decide)), f.1 31 (h 31 (by decide)), f.1 32 (h 32 (by decide)), f.1 33 (h 33 (by decide)), f.1 34 (h 34 (by decide)), f.1 39 (h 39 (by decide)), f.1 40 (h 40 (by decide)), f.1 43 (h 43 (by decide)), f.2.1 3 (h2 3 (by decide)), f.2.1 4 (h2 4 (by decide)), f.2.1 5 (h2 5 (by decide)), f.2.1 6 (h2 6 (by decide)), f.2.1 7 (h2 7 (by decide)), f.2.1 8 (h2 8 (by decide)), h35, f.2.1 37 (h2 37 (by decide)), h38, f.2.2 44 (h3)]
section MSEs
variable {σ τ : MS}
theorem MSE.kp (h : MSE σ τ) : KP σ τ := by
  unfold MSE mkv at h
  simp only [Prod.mk.injEq] at h
  obtain ⟨⟨a25, a30, a31, a32, a33, a34, a39, a40, a43⟩, ⟨⟨b3, b4, b5, b6, b7, b8⟩, b35, b37⟩, c38, c44⟩ := h
  exact ⟨⟨a25, a30, by omega⟩, b35, c38, a43, c44, fun j _ => congrFun b37 j⟩
theorem MSE.ri (h : MSE σ τ) : rI τ = rI σ := by
  unfold MSE mkv at h
  simp only [Prod.mk.injEq] at h
  obtain ⟨-, ⟨⟨b3, b4, b5, b6, b7, b8⟩, -⟩, -⟩ := h
  funext x c
  simp only [rI, b3, b4, b5, b6, b7, b8]
theorem MSE.mk (h : MSE σ τ) (S : List ME) (D : DD9) : mqS τ S D = mqS σ S D := by
  have r := h.ri
  unfold MSE mkv at h
  simp only [Prod.mk.injEq] at h
  obtain ⟨⟨a25, a30, a31, a32, a33, a34, a39, a40, a43⟩, ⟨-, b35, b37⟩, c38, c44⟩ := h
  unfold mqS oV
  rw [a30, a31, a32, a33, a34, a39, a40, b35, b37, r]
end MSEs
def MQ1 (k : Nat) (σ : MS) (q : QR) (P0 : List ME) (τ : MS) (P : List ME) : Prop := σ.1 25 = 3 → KP σ τ ∧ (0 ≤ σ.1 30 → σ.1 30 < 6 → 0 ≤ σ.1 34 → τ.1 34 ≤ 220 → ∀ nm rn tb, FIT nm rn tb σ → ∀ (S : List ME) (D : DD9), mkk (sv σ) nm rn tb k (tks σ) q (mqS σ (P0 ++ S) D) = mqS τ (P ++ S) D)
def GOM (a : List Nat) (σ : MS) (q : QR) (P0 : List ME) (b : List Nat) (τ : MS) (q' : QR) (P : List ME) (lg : List EV) : Prop := GOS a σ q b τ q' lg ∧ (σ.1 25 = 3 → KP σ τ ∧ (0 ≤ σ.1 30 → σ.1 30 < 6 → 0 ≤ σ.1 34 → τ.1 34 ≤ 220 → ∀ nm rn tb, FIT nm rn tb σ → ∀ (S : List ME) (D : DD9) (K : List Nat) (ρ : List EV), RM (sv σ) nm rn tb (cfg (a ++ K) σ q ρ) (mqS σ (P0 ++ S) D) (cfg (b ++ K) τ q' (ρ ++ lg)) (mqS τ (P ++ S) D)))
section GM
variable {a b c : List Nat} {σ τ υ : MS} {q q1 q2 : QR} {l1 l2 : List EV} {P0 P P1 P2 : List ME}
theorem GOM.g (h : GOM a σ q P0 b τ q1 P l1) : GOS a σ q b τ q1 l1 := h.1
theorem GOM.trans (h : GOM a σ q P0 b τ q1 P1 l1) (g : GOM b τ q1 P1 c υ q2 P2 l2) : GOM a σ q P0 c υ q2 P2 (l1 ++ l2) := by
  refine ⟨h.1.trans g.1, fun z => ?_⟩
  obtain ⟨k1, h2⟩ := h.2 z
  obtain ⟨k2, g2⟩ := g.2 (k1.1.1.trans z)
  refine ⟨k1.trans k2, fun r0 r6 n0 n2 nm rn tb f S D K ρ => ?_⟩
  have x := h2 r0 r6 n0 (Int.le_trans k2.1.2.2 n2) nm rn tb f S D K ρ
  have e30 := k1.1.2.1
  have e34 := k1.1.2.2
  have y := g2 (by omega) (by omega) (by omega) n2 nm rn tb (k1.fit f) S D K (ρ ++ l1)
  rw [h.1.1, List.append_assoc] at y
  exact x.trans y
theorem GOM.fail (h : GOM a σ q P0 b τ q1 P l1) (g : GOF b τ q1 υ) : GOF a σ q υ := h.1.fail g
theorem GOM.more (x : List Nat) (X : List ME) (h : GOM a σ q P0 b τ q1 P l1) : GOM (a ++ x) σ q (P0 ++ X) (b ++ x) τ q1 (P ++ X) l1 := by
  refine ⟨h.1.more x, fun z => ?_⟩
  obtain ⟨k1, h2⟩ := h.2 z
  refine ⟨k1, fun r0 r6 n0 n2 nm rn tb f S D K ρ => ?_⟩
  have y := h2 r0 r6 n0 n2 nm rn tb f (X ++ S) D (x ++ K) ρ
  rw [← List.append_assoc, ← List.append_assoc, ← List.append_assoc, ← List.append_assoc] at y
  exact y
theorem GOM.nop (h : vw τ = vw σ) (hr : srt τ = srt σ) (hm : MSE σ τ) : GOM a σ q P a τ q P [] := by
  refine ⟨GOS.nop h hr, fun z => ⟨hm.kp, fun r0 r6 n0 n2 nm rn tb f S D K ρ => ?_⟩⟩
  rw [hm.mk, List.append_nil]
  have h1 := congrArg Prod.fst h
  have h2 := congrArg (fun x => x.2.1) h
  unfold vw at h1 h2
  simp only at h1 h2
  unfold cfg
  rw [h1, h2]
  exact RM.rfl
theorem GOM.then (h : GOM a σ q P0 b τ q1 P1 []) (g : GOM b τ q1 P1 c υ q2 P2 l2) : GOM a σ q P0 c υ q2 P2 l2 := h.trans g
theorem GOM.and (h : GOM a σ q P0 b τ q1 P1 l1) (g : GOM b τ q1 P1 c υ q2 P2 []) : GOM a σ q P0 c υ q2 P2 l1 := by
  have := h.trans g
  rw [List.append_nil] at this
  exact this
theorem GOM.last (h : GOM a σ q P0 b τ q1 P l1) (e : vw υ = vw τ) (hr : srt υ = srt τ) (hm : MSE τ υ) : GOM a σ q P0 b υ q1 P l1 := by
  have := h.trans (GOM.nop (a := b) (q := q1) e hr hm)
  rw [List.append_nil] at this
  exact this
theorem GOM.ev {k : Nat} {es : List EW} (hk : k ≠ 999) (hs : sv τ = sv σ) (h : stk (sv σ) k (tks σ) (xs σ) q = some (b, tks τ, xs τ, q1, l1)) (he : evk k (tks σ) (xs σ) q = es) (hf : EFF es σ τ) (hm : MQ1 k σ q P0 τ P) : GOM [k] σ q P0 b τ q1 P l1 := by
  refine ⟨GOS.ev hk hs h he hf, fun z => ⟨(hm z).1, fun r0 r6 n0 n2 nm rn tb f S D K ρ => ?_⟩⟩
  have x := RM.step (nm := nm) (rn := rn) (tb := tb) (K := K) (ρ := ρ) (m := mqS σ (P0 ++ S) D) h
  rw [(hm z).2 r0 r6 n0 n2 nm rn tb f S D] at x
  exact x
theorem GOM.one {k : Nat} (hk : k ≠ 999) (hs : sv τ = sv σ) (hr : srt τ = srt σ) (he : evk k (tks σ) (xs σ) q = []) (h : stk (sv σ) k (tks σ) (xs σ) q = some (b, tks τ, xs τ, q1, l1)) (hm : MQ1 k σ q P0 τ P) : GOM [k] σ q P0 b τ q1 P l1 := GOM.ev hk hs h he (EFF.nil hr) hm
theorem MQ1.id {k : Nat} (e : MSE σ τ) (h : ∀ nm rn tb m, mkk (sv σ) nm rn tb k (tks σ) q m = m) : MQ1 k σ q P τ P := fun _ => ⟨e.kp, fun _ _ _ _ nm rn tb _ S D => (h nm rn tb _).trans (e.mk _ D).symm⟩
theorem MQ1.st {k : Nat} (e : MSE σ τ) (h : ∀ nm rn tb, FIT nm rn tb σ → ∀ (S : List ME) (D : DD9), mkk (sv σ) nm rn tb k (tks σ) q (mqS σ (P0 ++ S) D) = mqS σ (P ++ S) D) : MQ1 k σ q P0 τ P := fun _ => ⟨e.kp, fun _ _ _ _ nm rn tb f S D => (h nm rn tb f S D).trans (e.mk _ D).symm⟩
end GM
def PIT (σ τ : MS) (i : It) : Prop := τ.1 34 = σ.1 34 + 1 ∧ (σ.1 25 = 3 → 0 ≤ σ.1 30 → σ.1 30 < 6 → 0 ≤ σ.1 34 → σ.1 34 < 220 → oV τ (σ.1 30) (σ.1 34 + 1) = uZ (oV σ (σ.1 30) (σ.1 34)) (σ.1 34) i)
theorem PIT.of {σ τ : MS} {i : It} (e : τ.1 34 = σ.1 34 + 1) (o : OFF (PXx σ) σ τ) (h : rI τ (PXx σ) = i) : PIT σ τ i := ⟨e, fun z r0 r6 n0 n2 => by
  have ex : PXx σ = 220 * σ.1 30 + σ.1 34 := by unfold PXx; rw [if_pos (by omega)]
  rw [ov_up (σ := σ) n0 (fun j _ b => o.ri (by omega)), ← ex, h]⟩
theorem PIT.at {σ τ : MS} {x : Int} {i : It} (h : x = PXx σ) (e : τ.1 34 = σ.1 34 + 1) (o : OFF x σ τ) (r : rI τ x = i) : PIT σ τ i := by
  subst h
  exact PIT.of e o r
theorem PIT.fr {ss ks js : List Nat} {σ τ υ : MS} {i : It} (h : PIT σ τ i) (f : Fr ss ks js τ υ) (hs : 34 ∉ ss) (hk : ∀ k ∈ [3, 4, 5, 6, 7, 8], k ∉ ks) : PIT σ υ i := ⟨(f.1 34 hs).trans h.1, fun z r0 r6 n0 n2 => by
  rw [← h.2 z r0 r6 n0 n2]
  unfold oV
  rw [f.ri hk]⟩
theorem PIT.pre {ss ks js : List Nat} {ρ σ τ : MS} {i : It} (h : PIT σ τ i) (f : Fr ss ks js ρ σ) (hs : ∀ k ∈ [25, 30, 34], k ∉ ss) (hk : ∀ k ∈ [3, 4, 5, 6, 7, 8], k ∉ ks) : PIT ρ τ i := by
  unfold PIT at *
  rw [← f.1 25 (hs 25 (by decide)), ← f.1 30 (hs 30 (by decide)), ← f.1 34 (hs 34 (by decide)), show oV ρ = oV σ by unfold oV; rw [f.ri hk]]
  exact h
theorem PIT.mk {σ τ : MS} {i : It} {S : List ME} {D : DD9} (h : PIT σ τ i) (z : σ.1 25 = 3) (r0 : 0 ≤ σ.1 30) (r6 : σ.1 30 < 6) (n0 : 0 ≤ σ.1 34) (n2 : τ.1 34 ≤ 220) (e30 : τ.1 30 = σ.1 30) : mqS τ S D = ((τ.1 30, τ.1 31, τ.2.1 37 (τ.1 30), τ.1 33, τ.1 32 - τ.2.1 35 (τ.1 30)), (σ.1 34 + 1, uZ (oV σ (σ.1 30) (σ.1 34)) (σ.1 34) i), (τ.1 39, τ.1 40), S, D) := by
  unfold mqS
  rw [h.1, e30, h.2 z r0 r6 n0 (by have := h.1; omega)]
theorem it2_mk {k d ak a bk c : Int} : uZ (uZ (uZ (uZ (mkI k d 0 0 0 0) 3 ak) 4 a) 5 bk) 6 c = it2 k d ak a bk c := by
  funext z
  unfold uZ mkI it2
  by_cases h0 : z = 0
  · subst h0; rfl
  by_cases h1 : z = 1
  · subst h1; rfl
  by_cases h2 : z = 2
  · subst h2; rfl
  by_cases h3 : z = 3
  · subst h3; rfl
  by_cases h4 : z = 4
  · subst h4; rfl
  by_cases h5 : z = 5
  · subst h5; rfl
  by_cases h6 : z = 6
  · subst h6; rfl
  simp only [if_neg h0, if_neg h1, if_neg h2, if_neg h3, if_neg h4, if_neg h5, if_neg h6, ite_self]
theorem mk_a0 {k d o ak a w : Int} : uZ (uZ (mkI k d o 0 0 w) 3 ak) 4 a = mkI k d o ak a w := by
  funext z
  unfold uZ mkI
  by_cases h0 : z = 0
  · subst h0; rfl
  by_cases h1 : z = 1
  · subst h1; rfl
  by_cases h2 : z = 2
  · subst h2; rfl
  by_cases h3 : z = 3
  · subst h3; rfl
  by_cases h4 : z = 4
  · subst h4; rfl
  simp only [if_neg h0, if_neg h1, if_neg h2, if_neg h3, if_neg h4]
theorem mk_w {k d o ak a : Int} {w : Int} : uZ (mkI k d o ak a 0) 11 w = mkI k d o ak a w := by
  funext z
  unfold uZ mkI
  by_cases h : z = 11
  · subst h; rfl
  simp only [if_neg h]
theorem ri_join {σ : MS} {x k d ak a bk c : Int} (h : rI σ x = mkI k d 0 0 0 0) : rI (fArg x 1 bk c (fArg x 0 ak a σ)) x = it2 k d ak a bk c := by
  rw [ri_arg1, ri_arg0, h, it2_mk]
theorem ri_one {σ : MS} {x k d o ak a : Int} (h : rI σ x = mkI k d o 0 0 0) : rI (fArg x 0 ak a σ) x = mkI k d o ak a 0 := by
  rw [ri_arg0, h, mk_a0]
theorem ri_bind {σ : MS} {x n : Int} (h : rI σ x = mkI 12 n 0 0 0 0) : rI (fArg x 0 2 n (sA 6 x 2 σ)) x = bndI n := by
  rw [ri_arg0, ri_A6, h, mk_w, mk_a0]
  rfl
section PITs
variable {σ μ τ : MS} {i j : It} {k : Nat} {q : QR} {P0 P : List ME} {ss ks js ss2 ks2 js2 : List Nat}
def NFR (ss ks js : List Nat) : Prop := (∀ k ∈ [25, 30, 31, 32, 39, 40, 43], k ∉ ss) ∧ (∀ k ∈ [35, 37], k ∉ ks) ∧ ∀ k ∈ [38, 44], k ∉ js
theorem NFR.kp (d : NFR ss ks js) (f : Fr ss ks js σ τ) (h : σ.1 34 ≤ τ.1 34) : KP σ τ := ⟨⟨f.1 25 (d.1 25 (by decide)), f.1 30 (d.1 30 (by decide)), h⟩, f.2.1 35 (d.2.1 35 (by decide)), f.2.2 38 (d.2.2 38 (by decide)), f.1 43 (d.1 43 (by decide)), f.2.2 44 (d.2.2 44 (by decide)), fun j _ => congrFun (f.2.1 37 (d.2.1 37 (by decide))) j⟩
theorem PIT.put1 (h : PIT σ τ i) (f : Fr ss ks js σ τ) (d : NFR ss ks js) (z : σ.1 25 = 3) (r0 : 0 ≤ σ.1 30) (r6 : σ.1 30 < 6) (n0 : 0 ≤ σ.1 34) (n2 : τ.1 34 ≤ 220) (S : List ME) (D : DD9) : mqS τ S D = ((mqS σ S D).put i).sL (τ.1 33) := by
  rw [h.mk z r0 r6 n0 n2 (f.1 30 (d.1 30 (by decide))), f.1 30 (d.1 30 (by decide)), f.1 31 (d.1 31 (by decide)), f.1 32 (d.1 32 (by decide)), f.1 39 (d.1 39 (by decide)), f.1 40 (d.1 40 (by decide)), f.2.1 35 (d.2.1 35 (by decide)), f.2.1 37 (d.2.1 37 (by decide))]
  rfl
theorem PIT.put2 (h : PIT σ μ i) (f : Fr ss ks js σ μ) (d : NFR ss ks js) (h2 : PIT μ τ j) (f2 : Fr ss2 ks2 js2 μ τ) (d2 : NFR ss2 ks2 js2) (z : σ.1 25 = 3) (r0 : 0 ≤ σ.1 30) (r6 : σ.1 30 < 6) (n0 : 0 ≤ σ.1 34) (n2 : τ.1 34 ≤ 220) (S : List ME) (D : DD9) : mqS τ S D = (((mqS σ S D).put i).put j).sL (τ.1 33) := by
  have e25 := f.1 25 (d.1 25 (by decide))
  have e30 := f.1 30 (d.1 30 (by decide))
  have a1 := h.1
  have a2 := h2.1
  rw [h2.put1 f2 d2 (by omega) (by omega) (by omega) (by omega) n2, h.put1 f d z r0 r6 n0 (by omega)]
  rfl
theorem MQ1.p1 (h : PIT σ τ i) (f : Fr ss ks js σ τ) (d : NFR ss ks js) (hm : ∀ nm rn tb, FIT nm rn tb σ → ∀ (S : List ME) (D : DD9), mkk (sv σ) nm rn tb k (tks σ) q (mqS σ (P0 ++ S) D) = ((mqS σ (P ++ S) D).put i).sL (τ.1 33)) : MQ1 k σ q P0 τ P := fun z => ⟨d.kp f (by have := h.1; omega), fun r0 r6 n0 n2 nm rn tb ft S D => (hm nm rn tb ft S D).trans (h.put1 f d z r0 r6 n0 n2 _ D).symm⟩
theorem MQ1.p2 (h : PIT σ μ i) (f : Fr ss ks js σ μ) (d : NFR ss ks js) (h2 : PIT μ τ j) (f2 : Fr ss2 ks2 js2 μ τ) (d2 : NFR ss2 ks2 js2) (hm : ∀ nm rn tb, FIT nm rn tb σ → ∀ (S : List ME) (D : DD9), mkk (sv σ) nm rn tb k (tks σ) q (mqS σ (P0 ++ S) D) = (((mqS σ (P ++ S) D).put i).put j).sL (τ.1 33)) : MQ1 k σ q P0 τ P := fun z => ⟨(d.kp f (by have := h.1; omega)).trans (d2.kp f2 (by have := h2.1; omega)), fun r0 r6 n0 n2 nm rn tb ft S D => (hm nm rn tb ft S D).trans (h.put2 f d h2 f2 d2 z r0 r6 n0 n2 _ D).symm⟩
end PITs
def STM (σ τ : MS) : Prop := KP σ τ ∧ (0 ≤ σ.1 30 → σ.1 30 < 6 → ∀ (S : List ME) (D : DD9), mqS τ S D = (mqS σ S D).stm)
theorem STM.of {ss ks js : List Nat} {σ τ : MS} (f : Fr ss ks js σ τ) (hs : ∀ k ∈ [25, 30, 32, 33, 34, 39, 40, 43], k ∉ ss) (hk : ∀ k ∈ [3, 4, 5, 6, 7, 8, 35], k ∉ ks) (hj : ∀ k ∈ [38, 44], k ∉ js) (e31 : τ.1 31 = σ.1 31 + 1) (e37 : σ.1 30 < 6 → τ.2.1 37 (σ.1 30) = if σ.2.1 37 (σ.1 30) = 0 then σ.1 31 + 1 else σ.2.1 37 (σ.1 30)) (e37b : ∀ j, j ≠ σ.1 30 → τ.2.1 37 j = σ.2.1 37 j) : STM σ τ := by
  refine ⟨⟨⟨f.1 25 (hs 25 (by decide)), f.1 30 (hs 30 (by decide)), by rw [f.1 34 (hs 34 (by decide))]; omega⟩, f.2.1 35 (hk 35 (by decide)), f.2.2 38 (hj 38 (by decide)), f.1 43 (hs 43 (by decide)), f.2.2 44 (hj 44 (by decide)), e37b⟩, fun r0 r6 S D => ?_⟩
  unfold mqS oV
  rw [f.1 30 (hs 30 (by decide)), e31, e37 r6, f.1 33 (hs 33 (by decide)), f.1 32 (hs 32 (by decide)), f.2.1 35 (hk 35 (by decide)), f.1 34 (hs 34 (by decide)), f.1 39 (hs 39 (by decide)), f.1 40 (hs 40 (by decide)), f.ri (fun k h => hk k (by revert k h; decide))]
  rfl
def PRT (σ τ : MS) (k v : Int) : Prop := KP σ τ ∧ ∀ (S : List ME) (D : DD9), mqS τ S D = (mqS σ S D).sP k v
theorem PRT.of {ss ks js : List Nat} {σ τ : MS} {k v : Int} (f : Fr ss ks js σ τ) (hs : ∀ k ∈ [25, 30, 31, 32, 33, 34, 43], k ∉ ss) (hk : ∀ k ∈ [3, 4, 5, 6, 7, 8, 37], k ∉ ks) (hj : 44 ∉ js) (h35 : τ.2.1 35 = σ.2.1 35) (h38 : τ.2.2 38 = σ.2.2 38) (e39 : τ.1 39 = k) (e40 : τ.1 40 = v) : PRT σ τ k v := by
  refine ⟨⟨⟨f.1 25 (hs 25 (by decide)), f.1 30 (hs 30 (by decide)), by rw [f.1 34 (hs 34 (by decide))]; omega⟩, h35, h38, f.1 43 (hs 43 (by decide)), f.2.2 44 hj, fun j _ => congrFun (f.2.1 37 (hk 37 (by decide))) j⟩, fun S D => ?_⟩
  unfold mqS oV
  rw [f.1 30 (hs 30 (by decide)), f.1 31 (hs 31 (by decide)), f.1 32 (hs 32 (by decide)), f.1 33 (hs 33 (by decide)), f.1 34 (hs 34 (by decide)), h35, f.2.1 37 (hk 37 (by decide)), e39, e40, f.ri (fun k h => hk k (by revert k h; decide))]
  rfl
section ROWS
variable {σ μ τ : MS} {q : QR} {x y n l o v : Int} {as : List (Int × Int)} {ss ks js ss2 ks2 js2 : List Nat}
theorem nfr34 : NFR [34] [3, 4, 5, 6, 7, 8] [] := by unfold NFR; decide
theorem nfr26 : NFR [26, 27, 34] [3, 4, 5, 6, 7, 8] [] := by unfold NFR; decide
theorem nfr33 : NFR [33, 34] [3, 4, 5, 6, 7, 8] [] := by unfold NFR; decide
theorem u0m (h : SG σ 45) (a : ADVm σ τ) (e : MSE σ τ) : GOM [0] σ q [] [1, 51] τ q [(0, 2, 1, [(0, 0)])] [] := GOM.one (by decide) a.2.2.1 a.2.2.2 rfl (by rw [a.1, a.2.1]; exact if_pos h) (MQ1.st e (fun _ _ _ _ S D => if_pos h))
theorem u0n (h : ¬ SG σ 45) : GOM [0] σ q [] [1] σ q [] [] := GOM.one (by decide) rfl rfl rfl (if_neg h) (MQ1.id MSE.rfl (fun _ _ _ m => if_neg h))
theorem u1p (h3 : ¬ σ.1 22 = 3) (hn : ¬ NMW σ) (h : SG σ 40) (a : ADVm σ τ) (e : MSE σ τ) : GOM [1] σ q [] [2, 141] τ q [] [] := GOM.one (by decide) a.2.2.1 a.2.2.2 (if_neg (fun x => hn ((nam_iff σ).mp x))) (by rw [a.1, a.2.1]; exact (if_neg (g1n h3 hn)).trans (if_pos h)) (MQ1.id e (fun _ _ _ m => (if_neg h3).trans (if_neg (fun x => hn ((nam_iff σ).mp x)))))
theorem u2 (h : ¬ σ.1 28 = 8) (a : CHG σ τ (σ.1 28 + 1, σ.1 29, σ.1 34)) (e : MSE σ τ) : GOM [2] σ q [] [3, 6] τ q [] [] := GOM.one (by decide) a.2.2.1 a.2.2.2 rfl (by rw [a.1, a.2.1]; exact if_neg h) (MQ1.id e (fun _ _ _ _ => rfl))
theorem u3 : GOM [3] σ q [] [4, 8] σ q [] [] := GOM.one (by decide) rfl rfl rfl rfl (MQ1.id MSE.rfl (fun _ _ _ _ => rfl))
theorem u4 : GOM [4] σ q [] [0, 9] σ q [] [] := GOM.one (by decide) rfl rfl rfl rfl (MQ1.id MSE.rfl (fun _ _ _ _ => rfl))
theorem u6e (h : SG σ 61) (a : ADVm σ τ) (e : MSE σ τ) : GOM [6] σ q [] [3, 51, 7] τ q [(0, 4, σ.1 39, [(σ.1 40, 0)])] [] := GOM.one (by decide) a.2.2.1 a.2.2.2 rfl (by rw [a.1, a.2.1]; exact if_pos (Or.inl h)) (MQ1.st e (fun _ _ _ _ S D => if_pos h))
theorem u6l (h0 : ¬ SG σ 61) (h : SG σ 60) (a : ADVm σ τ) (e : MSE σ τ) : GOM [6] σ q [] [3, 51, 7] τ q [(0, 5, σ.1 39, [(σ.1 40, 0)])] [] := GOM.one (by decide) a.2.2.1 a.2.2.2 rfl (by rw [a.1, a.2.1]; exact if_pos (Or.inr h)) (MQ1.st e (fun _ _ _ _ S D => (if_neg h0).trans (if_pos h)))
theorem u6n (h : ¬ SG σ 61) (h2 : ¬ SG σ 60) : GOM [6] σ q [] [7] σ q [] [] := GOM.one (by decide) rfl rfl rfl (if_neg (fun x => x.elim h h2)) (MQ1.id MSE.rfl (fun _ _ _ m => (if_neg h).trans (if_neg h2)))
theorem u7 (a : CHG σ τ (σ.1 28 - 1, σ.1 29, σ.1 34)) (e : MSE σ τ) : GOM [7] σ q [] [] τ q [] [] := GOM.one (by decide) a.2.2.1 a.2.2.2 rfl (by rw [a.1, a.2.1]; rfl) (MQ1.id e (fun _ _ _ _ => rfl))
theorem u8p (h : SG σ 43) (a : ADVm σ τ) (e : MSE σ τ) : GOM [8] σ q [] [4, 51, 8] τ q [(0, 1, σ.1 39, [(σ.1 40, 0)])] [] := GOM.one (by decide) a.2.2.1 a.2.2.2 rfl (by rw [a.1, a.2.1]; exact if_pos (Or.inl h)) (MQ1.st e (fun _ _ _ _ S D => if_pos h))
theorem u8m (h0 : ¬ SG σ 43) (h : SG σ 45) (a : ADVm σ τ) (e : MSE σ τ) : GOM [8] σ q [] [4, 51, 8] τ q [(0, 2, σ.1 39, [(σ.1 40, 0)])] [] := GOM.one (by decide) a.2.2.1 a.2.2.2 rfl (by rw [a.1, a.2.1]; exact if_pos (Or.inr h)) (MQ1.st e (fun _ _ _ _ S D => (if_neg h0).trans (if_pos h)))
theorem u8n (h : ¬ SG σ 43) (h2 : ¬ SG σ 45) : GOM [8] σ q [] [] σ q [] [] := GOM.one (by decide) rfl rfl rfl (if_neg (fun x => x.elim h h2)) (MQ1.id MSE.rfl (fun _ _ _ m => (if_neg h).trans (if_neg h2)))
theorem u9y (h : SG σ 42) (a : ADVm σ τ) (e : MSE σ τ) : GOM [9] σ q [] [0, 51, 9] τ q [(0, 3, σ.1 39, [(σ.1 40, 0)])] [] := GOM.one (by decide) a.2.2.1 a.2.2.2 rfl (by rw [a.1, a.2.1]; exact if_pos h) (MQ1.st e (fun _ _ _ _ S D => if_pos h))
theorem u9n (h : ¬ SG σ 42) : GOM [9] σ q [] [] σ q [] [] := GOM.one (by decide) rfl rfl rfl (if_neg h) (MQ1.id MSE.rfl (fun _ _ _ m => if_neg h))
theorem u20w (h : WD σ 512852847717) (s : SAM σ τ) (f : EFF [(5, σ.1 19, 0, 0)] σ τ) (e : STM σ τ) : GOM [20] σ q [] [22] τ q [] [] := GOM.ev (by decide) s.2.2 (by rw [s.1, s.2.1]; exact if_pos h) rfl f (fun _ => ⟨e.1, fun r0 r6 _ _ _ _ _ _ S D => (if_pos h).trans (e.2 r0 r6 _ D).symm⟩)
theorem u20i (h1 : ¬ WD σ 512852847717) (h : WD σ 26982) (s : SAM σ τ) (f : EFF [(5, σ.1 19, 0, 0)] σ τ) (e : STM σ τ) : GOM [20] σ q [] [51, 21] τ q [(1, 0, 0, [])] [] := GOM.ev (by decide) s.2.2 (by rw [s.1, s.2.1]; exact (if_neg h1).trans (if_pos h)) rfl f (fun _ => ⟨e.1, fun r0 r6 _ _ _ _ _ _ S D => (if_neg h1).trans (show (mqS σ S D).stm.push (1, 0, 0, []) = mqS τ ((1, 0, 0, []) :: S) D by rw [e.2 r0 r6]; rfl)⟩)
theorem u20o (h1 : ¬ WD σ 512852847717) (h2 : ¬ WD σ 26982) (h : WD σ 7304564 ∨ WD σ 125780071117422) (s : SAM σ τ) (f : EFF [(5, σ.1 19, 0, 0)] σ τ) (e : STM σ τ) : GOM [20] σ q [] [51, 39] τ q [(1, 0, 0, [])] [] := GOM.ev (by decide) s.2.2 (by rw [s.1, s.2.1]; exact (if_neg h1).trans ((if_neg h2).trans (if_pos h))) rfl f (fun _ => ⟨e.1, fun r0 r6 _ _ _ _ _ _ S D => (if_neg h1).trans (show (mqS σ S D).stm.push (1, 0, 0, []) = mqS τ ((1, 0, 0, []) :: S) D by rw [e.2 r0 r6]; rfl)⟩)
theorem u20n (h1 : ¬ WD σ 512852847717) (h2 : ¬ WD σ 26982) (h3 : ¬ WD σ 7304564) (h4 : ¬ WD σ 125780071117422) (h : NMW σ) (s : SAM σ τ) (f : EFF [(5, σ.1 19, 0, 0)] σ τ) (e : STM σ τ) : GOM [20] σ q [] [51, 23] τ q [(1, 0, 0, [])] [] := GOM.ev (by decide) s.2.2 (by rw [s.1, s.2.1]; exact (if_neg h1).trans ((if_neg h2).trans ((if_neg (fun x => x.elim h3 h4)).trans (if_pos ((nam_iff σ).mpr h))))) rfl f (fun _ => ⟨e.1, fun r0 r6 _ _ _ _ _ _ S D => (if_neg h1).trans (show (mqS σ S D).stm.push (1, 0, 0, []) = mqS τ ((1, 0, 0, []) :: S) D by rw [e.2 r0 r6]; rfl)⟩)
theorem u21 (a : ADVm σ τ) (e : MSE σ τ) : GOM [21] σ q [] [2, 51, 28, 24] τ q [(2, 0, 0, [])] [] := GOM.one (by decide) a.2.2.1 a.2.2.2 rfl (by rw [a.1, a.2.1]; rfl) (MQ1.st e (fun _ _ _ _ S D => rfl))
theorem u22 (a : ADVm σ τ) (e : MSE σ τ) : GOM [22] σ q [] [52, 2, 51, 28, 52] τ q [(5, 0, 0, [])] [] := GOM.one (by decide) a.2.2.1 a.2.2.2 rfl (by rw [a.1, a.2.1]; rfl) (MQ1.st e (fun _ _ _ _ S D => rfl))
theorem u23 (a1 : tks τ = advT (sv σ) (σ.1 20)) (a2 : xs τ = xs σ) (a3 : sv τ = sv σ) (f : EFF [(4, σ.1 19, 0, σ.2.2 24 0)] σ τ) (hv : NMK σ (σ.2.2 24 0) v) (e : σ.1 25 = 3 → MSE σ τ) : GOM [23] σ q [] [161, 25] τ q [(8, v, 0, [])] [] := GOM.ev (by decide) a3 (by rw [a1, a2]; rfl) rfl f (fun z => ⟨(e z).kp, fun _ r6 _ _ nm rn tb ft S D => (show (mqS σ S D).push (8, nm (σ.1 30) (σ.2.2 24 0), 0, []) = mqS σ ((8, v, 0, []) :: S) D by rw [ft.1 _ _ (hv r6)]; rfl).trans ((e z).mk _ D).symm⟩)
theorem u39o (h : WD σ 7304564) (a : ADVm σ τ) (e : MSE σ τ) : GOM [39] σ q [] [2, 51, 159] τ q [(10, 6, 0, [])] [] := GOM.one (by decide) a.2.2.1 a.2.2.2 rfl (by rw [a.1, a.2.1]; rfl) (MQ1.st e (fun _ _ _ _ S D => if_pos h))
theorem u39r (h : ¬ WD σ 7304564) (a : ADVm σ τ) (e : MSE σ τ) : GOM [39] σ q [] [2, 51, 159] τ q [(10, 7, 0, [])] [] := GOM.one (by decide) a.2.2.1 a.2.2.2 rfl (by rw [a.1, a.2.1]; rfl) (MQ1.st e (fun _ _ _ _ S D => if_neg h))
def OKR (o : Int) (σ : MS) : Prop := (o = 6 ∧ WD σ 7304564) ∨ (o = 7 ∧ ¬ WD σ 7304564)
theorem u39 (h : OKR o σ) (a : ADVm σ τ) (e : MSE σ τ) : GOM [39] σ q [] [2, 51, 159] τ q [(10, o, 0, [])] [] := by
  rcases h with ⟨rfl, h⟩ | ⟨rfl, h⟩
  · exact u39o h a e
  · exact u39r h a e
theorem u24y (h : WD σ 1701606245) (a : ADVm σ τ) (e : MSE σ τ) : GOM [24] σ q [(3, l, y, as)] [52, 28, 51] τ q [(4, l, 0, [])] [] := GOM.one (by decide) a.2.2.1 a.2.2.2 rfl (by rw [a.1, a.2.1]; exact if_pos h) (MQ1.st e (fun _ _ _ _ S D => (if_pos h).trans rfl))
theorem u24n (h : ¬ WD σ 1701606245) : GOM [24] σ q [] [51] σ q [] [] := GOM.one (by decide) rfl rfl rfl (if_neg h) (MQ1.id MSE.rfl (fun _ _ _ m => if_neg h))
theorem u25c (h : NMW σ) (a : ADVm σ τ) (h2 : SG τ 40) (e : MSE σ τ) : GOM [25] σ q [(8, n, y, as)] [26, 159] τ (σ.2.2 24 0, 0, σ.1 19, q.2.2.2) [(9, n, 0, [])] [] := by
  have e0 : sgn (advT (sv σ) (tks σ).2.1) 40 := by rw [show advT (sv σ) (tks σ).2.1 = tks τ from a.1.symm]; exact h2
  exact GOM.one (by decide) a.2.2.1 a.2.2.2 rfl (by rw [a.1, a.2.1]; exact (if_pos ((nam_iff σ).mpr h)).trans (if_pos e0)) (MQ1.st e (fun _ _ _ _ S D => (if_pos ⟨(nam_iff σ).mpr h, e0⟩).trans rfl))
theorem u25b {υ : MS} (h : NMW σ) (a : ADVm σ τ) (h2 : ¬ SG τ 40) (e : tks υ = (σ.1 19, σ.1 20, 2, τ.1 23, σ.2.2 24 0)) (e2 : xs υ = xs σ) (e3 : sv υ = sv σ) (e4 : srt υ = srt σ) (e5 : MSE σ υ) : GOM [25] σ q [] [2, 52, 159] υ q [] [] := by
  have e0 : ¬ sgn (advT (sv σ) (tks σ).2.1) 40 := by rw [show advT (sv σ) (tks σ).2.1 = tks τ from a.1.symm]; exact h2
  exact GOM.one (by decide) e3 e4 rfl (by
    have e1 : (advT (sv σ) (tks σ).2.1).2.2.2.1 = τ.1 23 := by rw [show advT (sv σ) (tks σ).2.1 = tks τ from a.1.symm]; rfl
    rw [e, e2, ← e1]; exact (if_pos ((nam_iff σ).mpr h)).trans (if_neg e0)) (MQ1.id e5 (fun _ _ _ m => if_neg (fun z => e0 z.2)))
theorem u25n (h : ¬ NMW σ) : GOM [25] σ q [] [2, 52, 159] σ q [] [] := GOM.one (by decide) rfl rfl rfl (if_neg (fun x => h ((nam_iff σ).mp x))) (MQ1.id MSE.rfl (fun _ _ _ m => if_neg (fun z => h ((nam_iff σ).mp z.1))))
theorem u26y (a : ADVm σ τ) (h : SG τ 41) (e : MSE σ τ) : GOM [26] σ q [] [38, 141] τ q [] [] := GOM.one (by decide) a.2.2.1 a.2.2.2 rfl (by
  have e : sgn (advT (sv σ) (tks σ).2.1) 41 := by rw [show advT (sv σ) (tks σ).2.1 = tks τ from a.1.symm]; exact h
  rw [a.1, a.2.1]; exact if_pos e) (MQ1.id e (fun _ _ _ _ => rfl))
theorem u26n (a : ADVm σ τ) (h : ¬ SG τ 41) (e : MSE σ τ) : GOM [26] σ q [] [2, 27] τ q [] [] := GOM.one (by decide) a.2.2.1 a.2.2.2 rfl (by
  have e : ¬ sgn (advT (sv σ) (tks σ).2.1) 41 := by rw [show advT (sv σ) (tks σ).2.1 = tks τ from a.1.symm]; exact h
  rw [a.1, a.2.1]; exact if_neg e) (MQ1.id e (fun _ _ _ _ => rfl))
theorem u27y (h : SG σ 44) (a : ADVm σ τ) (e : MSE σ τ) : GOM [27] σ q [(9, n, y, as)] [2, 27] τ (q.1, q.2.1 + 1, q.2.2) [(9, n, 0, as ++ [(σ.1 39, σ.1 40)])] [] := GOM.one (by decide) a.2.2.1 a.2.2.2 rfl (by rw [a.1, a.2.1]; exact if_pos h) (MQ1.st e (fun _ _ _ _ S D => rfl))
theorem u27n (h : ¬ SG σ 44) : GOM [27] σ q [(9, n, y, as)] [38, 141] σ (q.1, q.2.1 + 1, q.2.2) [(9, n, 0, as ++ [(σ.1 39, σ.1 40)])] [] := GOM.one (by decide) rfl rfl rfl (if_neg h) (MQ1.st MSE.rfl (fun _ _ _ _ S D => rfl))
theorem u38 (a1 : tks τ = tks σ) (a2 : xs τ = (σ.1 28, σ.1 29, σ.1 34 + 2)) (a3 : sv τ = sv σ) (f : EFF [(1, q.2.2.1, q.2.1, q.1)] σ τ) (hv : RNV σ q.1 v) (p1 : PIT σ μ (itC n v as)) (f1 : Fr ss ks js σ μ) (d1 : NFR ss ks js) (p2 : PIT μ τ (bndI n)) (f2 : Fr ss2 ks2 js2 μ τ) (d2 : NFR ss2 ks2 js2) (e33 : τ.1 33 = σ.1 33) : GOM [38] σ q [(9, n, y, as)] [] τ (0, 0, 0, q.2.2.2) [] [(1, q.2.1, q.1)] := GOM.ev (by decide) a3 (by rw [a1, a2]; rfl) rfl f (MQ1.p2 p1 f1 d1 p2 f2 d2 (fun nm rn tb ft S D => by
  rw [e33]
  show (((mqS σ ((9, n, y, as) :: S) D).put (itC n (rn q.1) as)).put (bndI n)).sS S = _
  rw [ft.2.1 _ _ hv]
  rfl))
theorem u28 (h : ¬ σ.1 29 = 6) (a : CHG σ τ (σ.1 28, σ.1 29 + 1, σ.1 34)) (e : MSE σ τ) : GOM [28] σ q [] [223, 29] τ q [] [] := GOM.one (by decide) a.2.2.1 a.2.2.2 rfl (by rw [a.1, a.2.1]; exact if_neg h) (MQ1.id e (fun _ _ _ _ => rfl))
theorem u29y (h : SG σ 125) (a : ADVm σ τ) (e : MSE σ τ) : GOM [29] σ q [] [40] τ q [] [] := GOM.one (by decide) a.2.2.1 a.2.2.2 rfl (by rw [a.1, a.2.1]; exact if_pos h) (MQ1.id e (fun _ _ _ _ => rfl))
theorem u29n (h : ¬ SG σ 125) : GOM [29] σ q [] [20, 29] σ q [] [] := GOM.one (by decide) rfl rfl rfl (if_neg h) (MQ1.id MSE.rfl (fun _ _ _ _ => rfl))
theorem u40 (a : CHG σ τ (σ.1 28, σ.1 29 - 1, σ.1 34)) (e : MSE σ τ) : GOM [40] σ q [] [] τ q [] [] := GOM.one (by decide) a.2.2.1 a.2.2.2 rfl (by rw [a.1, a.2.1]; rfl) (MQ1.id e (fun _ _ _ _ => rfl))
theorem un_41 (h : SG σ 41) (a : ADVm σ τ) (e : MSE σ τ) : GOM [141] σ q [] [] τ q [] [] := GOM.one (by decide) a.2.2.1 a.2.2.2 rfl (by rw [a.1, a.2.1]; exact if_pos h) (MQ1.id e (fun _ _ _ _ => rfl))
theorem un_59 (h : SG σ 59) (a : ADVm σ τ) (e : MSE σ τ) : GOM [159] σ q [] [] τ q [] [] := GOM.one (by decide) a.2.2.1 a.2.2.2 rfl (by rw [a.1, a.2.1]; exact if_pos h) (MQ1.id e (fun _ _ _ _ => rfl))
theorem un_61 (h : SG σ 61) (a : ADVm σ τ) (e : MSE σ τ) : GOM [161] σ q [] [] τ q [] [] := GOM.one (by decide) a.2.2.1 a.2.2.2 rfl (by rw [a.1, a.2.1]; exact if_pos h) (MQ1.id e (fun _ _ _ _ => rfl))
theorem un_123 (h : SG σ 123) (a : ADVm σ τ) (e : MSE σ τ) : GOM [223] σ q [] [] τ q [] [] := GOM.one (by decide) a.2.2.1 a.2.2.2 rfl (by rw [a.1, a.2.1]; exact if_pos h) (MQ1.id e (fun _ _ _ _ => rfl))
theorem u51L (a : CHG σ τ (σ.1 28, σ.1 29, σ.1 34 + 1)) (p : PIT σ τ (mkI 11 (σ.1 31) 0 0 0 0)) (f : Fr ss ks js σ τ) (d : NFR ss ks js) (e33 : τ.1 33 = σ.1 33) : GOM [51] σ q [(1, x, y, as)] [] τ q [] [] := GOM.one (by decide) a.2.2.1 a.2.2.2 rfl (by rw [a.1, a.2.1]; rfl) (MQ1.p1 p f d (fun _ _ _ _ S D => by rw [e33]; rfl))
theorem u51Z (a : CHG σ τ (σ.1 28, σ.1 29, σ.1 34 + 1)) (p : PIT σ τ (mkI 9 (σ.1 33) 0 (σ.1 39) (σ.1 40) 0)) (f : Fr ss ks js σ τ) (d : NFR ss ks js) (e33 : τ.1 33 = σ.1 33 + 1) : GOM [51] σ q [(2, x, y, as)] [] τ q [(3, σ.1 33, 0, [])] [] := GOM.one (by decide) a.2.2.1 a.2.2.2 rfl (by rw [a.1, a.2.1]; rfl) (MQ1.p1 p f d (fun _ _ _ _ S D => by rw [e33]; rfl))
theorem u51B (a : CHG σ τ (σ.1 28, σ.1 29, σ.1 34 + 1)) (p : PIT σ τ (mkI 13 l 0 0 0 0)) (f : Fr ss ks js σ τ) (d : NFR ss ks js) (e33 : τ.1 33 = σ.1 33) : GOM [51] σ q [(3, l, y, as)] [] τ q [] [] := GOM.one (by decide) a.2.2.1 a.2.2.2 rfl (by rw [a.1, a.2.1]; rfl) (MQ1.p1 p f d (fun _ _ _ _ S D => by rw [e33]; rfl))
theorem u51W (a : CHG σ τ (σ.1 28, σ.1 29, σ.1 34 + 1)) (p : PIT σ τ (mkI 9 (σ.1 33) 0 (σ.1 39) (σ.1 40) 0)) (f : Fr ss ks js σ τ) (d : NFR ss ks js) (e33 : τ.1 33 = σ.1 33 + 1) : GOM [51] σ q [(6, l, y, as)] [] τ q [(7, l, σ.1 33, [])] [] := GOM.one (by decide) a.2.2.1 a.2.2.2 rfl (by rw [a.1, a.2.1]; rfl) (MQ1.p1 p f d (fun _ _ _ _ S D => by rw [e33]; rfl))
theorem u51O (a : CHG σ τ (σ.1 28, σ.1 29, σ.1 34 + 1)) (p : PIT σ τ (mkI o 0 0 (σ.1 39) (σ.1 40) 0)) (ho : o = 6 ∨ o = 7) (f : Fr ss ks js σ τ) (d : NFR ss ks js) (e33 : τ.1 33 = σ.1 33) : GOM [51] σ q [(10, o, y, as)] [] τ q [] [] := by
  rcases ho with rfl | rfl
  · exact GOM.one (by decide) a.2.2.1 a.2.2.2 rfl (by rw [a.1, a.2.1]; rfl) (MQ1.p1 p f d (fun _ _ _ _ S D => by rw [e33]; rfl))
  · exact GOM.one (by decide) a.2.2.1 a.2.2.2 rfl (by rw [a.1, a.2.1]; rfl) (MQ1.p1 p f d (fun _ _ _ _ S D => by rw [e33]; rfl))
theorem u51R (a : CHG σ τ (σ.1 28, σ.1 29, σ.1 34 + 1)) (p : PIT σ τ (mkI 7 0 0 1 0 0)) (f : Fr ss ks js σ τ) (d : NFR ss ks js) (e33 : τ.1 33 = σ.1 33) : GOM [51] σ q [(11, x, y, as)] [] τ q [] [] := GOM.one (by decide) a.2.2.1 a.2.2.2 rfl (by rw [a.1, a.2.1]; rfl) (MQ1.p1 p f d (fun _ _ _ _ S D => by rw [e33]; rfl))
theorem u52A (a : CHG σ τ (σ.1 28, σ.1 29, σ.1 34 + 2)) (p1 : PIT σ μ (mkI 0 n 0 (σ.1 39) (σ.1 40) 0)) (f1 : Fr ss ks js σ μ) (d1 : NFR ss ks js) (p2 : PIT μ τ (bndI n)) (f2 : Fr ss2 ks2 js2 μ τ) (d2 : NFR ss2 ks2 js2) (e33 : τ.1 33 = σ.1 33) : GOM [52] σ q [(8, n, y, as)] [] τ q [] [] := GOM.one (by decide) a.2.2.1 a.2.2.2 rfl (by rw [a.1, a.2.1]; rfl) (MQ1.p2 p1 f1 d1 p2 f2 d2 (fun _ _ _ _ S D => by rw [e33]; rfl))
theorem u52H (a : CHG σ τ (σ.1 28, σ.1 29, σ.1 34 + 2)) (p1 : PIT σ μ (mkI 13 (σ.1 33) 0 0 0 0)) (f1 : Fr ss ks js σ μ) (d1 : NFR ss ks js) (p2 : PIT μ τ (mkI 11 (σ.1 31) 0 0 0 0)) (f2 : Fr ss2 ks2 js2 μ τ) (d2 : NFR ss2 ks2 js2) (e33 : τ.1 33 = σ.1 33 + 1) : GOM [52] σ q [(5, x, y, as)] [] τ q [(6, σ.1 33, 0, [])] [] := GOM.one (by decide) a.2.2.1 a.2.2.2 rfl (by rw [a.1, a.2.1]; rfl) (MQ1.p2 p1 f1 d1 p2 f2 d2 (fun _ _ _ _ S D => by rw [e33]; rfl))
theorem u52E (a : CHG σ τ (σ.1 28, σ.1 29, σ.1 34 + 2)) (p1 : PIT σ μ (mkI 8 (σ.1 33) 0 0 0 0)) (f1 : Fr ss ks js σ μ) (d1 : NFR ss ks js) (p2 : PIT μ τ (mkI 13 l 0 0 0 0)) (f2 : Fr ss2 ks2 js2 μ τ) (d2 : NFR ss2 ks2 js2) (e33 : τ.1 33 = σ.1 33 + 1) : GOM [52] σ q [(4, l, y, as)] [] τ q [(3, σ.1 33, 0, [])] [] := GOM.one (by decide) a.2.2.1 a.2.2.2 rfl (by rw [a.1, a.2.1]; rfl) (MQ1.p2 p1 f1 d1 p2 f2 d2 (fun _ _ _ _ S D => by rw [e33]; rfl))
theorem u52W (a : CHG σ τ (σ.1 28, σ.1 29, σ.1 34 + 2)) (p1 : PIT σ μ (mkI 8 l 0 0 0 0)) (f1 : Fr ss ks js σ μ) (d1 : NFR ss ks js) (p2 : PIT μ τ (mkI 13 n 0 0 0 0)) (f2 : Fr ss2 ks2 js2 μ τ) (d2 : NFR ss2 ks2 js2) (e33 : τ.1 33 = σ.1 33) : GOM [52] σ q [(7, l, n, as)] [] τ q [] [] := GOM.one (by decide) a.2.2.1 a.2.2.2 rfl (by rw [a.1, a.2.1]; rfl) (MQ1.p2 p1 f1 d1 p2 f2 d2 (fun _ _ _ _ S D => by rw [e33]; rfl))
theorem u51J {k ak av : Int} (hk : k < 6) (a : CHG σ τ (σ.1 28, σ.1 29, σ.1 34 + 1)) (p : PIT σ τ (it2 k (σ.1 32) ak av (σ.1 39) (σ.1 40))) (f : Fr [32, 34, 39, 40] [3, 4, 5, 6, 7, 8] [] σ τ) (e32 : τ.1 32 = σ.1 32 + 1) (e39 : τ.1 39 = 2) (e40 : τ.1 40 = σ.1 32) : GOM [51] σ q [(0, k, ak, [(av, 0)])] [] τ q [] [] := GOM.one (by decide) a.2.2.1 a.2.2.2 rfl (by rw [a.1, a.2.1]; rfl) (fun z => ⟨⟨⟨f.1 25 (by decide), f.1 30 (by decide), by have := p.1; omega⟩, f.2.1 35 (by decide), f.2.2 38 (by decide), f.1 43 (by decide), f.2.2 44 (by decide), fun j _ => congrFun (f.2.1 37 (by decide)) j⟩, fun r0 r6 n0 n2 nm rn tb ft S D => by
  rw [p.mk z r0 r6 n0 n2 (f.1 30 (by decide)), f.1 30 (by decide), f.1 31 (by decide), f.1 33 (by decide), f.2.1 35 (by decide), f.2.1 37 (by decide), e32, e39, e40]
  show MK.one tb (mqS σ ((0, k, ak, [(av, 0)]) :: S) D) = _
  rw [one_five hk (show (mqS σ ((0, k, ak, [(av, 0)]) :: S) D).S = (0, k, ak, [(av, 0)]) :: S from rfl)]
  have e : tb (mqS σ ((0, k, ak, [(av, 0)]) :: S) D).rt + (mqS σ ((0, k, ak, [(av, 0)]) :: S) D).tmp = σ.1 32 := by
    show tb (σ.1 30) + (σ.1 32 - σ.2.1 35 (σ.1 30)) = σ.1 32
    rw [ft.2.2]; omega
  rw [e]
  show ((σ.1 30, σ.1 31, σ.2.1 37 (σ.1 30), σ.1 33, σ.1 32 - σ.2.1 35 (σ.1 30) + 1), _) = _
  rw [show σ.1 32 - σ.2.1 35 (σ.1 30) + 1 = σ.1 32 + 1 - σ.2.1 35 (σ.1 30) by omega]
  rfl⟩)
theorem u1d (h : σ.1 22 = 3) (a1 : tks τ = advT (sv σ) (σ.1 20)) (a2 : xs τ = xs σ) (a3 : sv τ = sv σ) (hr : srt τ = srt σ) (m : PRT σ τ 1 (σ.1 23)) : GOM [1] σ q [] [] τ q [] [] := GOM.one (by decide) a3 hr (if_neg (fun x => absurd ((show σ.1 22 = 2 from x.1).symm.trans h) (by decide))) (by rw [a1, a2]; exact if_pos (Or.inl h)) (fun _ => ⟨m.1, fun _ _ _ _ _ _ _ _ S D => (if_pos h).trans (m.2 S D).symm⟩)
theorem u1w (h : NMW σ) (a1 : tks τ = advT (sv σ) (σ.1 20)) (a2 : xs τ = xs σ) (a3 : sv τ = sv σ) (f : EFF [(4, σ.1 19, 0, σ.2.2 24 0)] σ τ) (hv : NMK σ (σ.2.2 24 0) v) (m : σ.1 25 = 3 → PRT σ τ 2 v) : GOM [1] σ q [] [] τ q [] [] := GOM.ev (by decide) a3 (by rw [a1, a2]; exact if_pos (Or.inr ((nam_iff σ).mpr h))) (if_pos ((nam_iff σ).mpr h)) f (fun z => ⟨(m z).1, fun _ r6 _ _ nm rn tb ft S D => ((if_neg (show ¬ (tks σ).2.2.1 = 3 from fun x => absurd ((show σ.1 22 = 2 from h.1).symm.trans x) (by decide))).trans (if_pos ((nam_iff σ).mpr h))).trans (show (mqS σ S D).sP 2 (nm (σ.1 30) (σ.2.2 24 0)) = mqS τ S D by rw [ft.1 _ _ (hv r6)]; exact ((m z).2 S D).symm)⟩)
end ROWS
end
section
def GOI (a : List Nat) (σ : MS) (q : QR) (b : List Nat) (τ : MS) (q' : QR) : Prop := GOS a σ q b τ q' [] ∧ ∀ nm rn tb (m : MK) (K : List Nat) (ρ : List EV), RM (sv σ) nm rn tb (cfg (a ++ K) σ q ρ) m (cfg (b ++ K) τ q' ρ) m
section GI
variable {a b c : List Nat} {σ τ υ : MS} {q q1 q2 : QR} {l1 : List EV}
theorem GOI.ev {k : Nat} {es : List EW} (hk : k ≠ 999) (hs : sv τ = sv σ) (h : stk (sv σ) k (tks σ) (xs σ) q = some (b, tks τ, xs τ, q1, [])) (he : evk k (tks σ) (xs σ) q = es) (hf : EFF es σ τ) (hm : ∀ nm rn tb m, mkk (sv σ) nm rn tb k (tks σ) q m = m) : GOI [k] σ q b τ q1 := by
  refine ⟨GOS.ev hk hs h he hf, fun nm rn tb m K ρ => ?_⟩
  have x := RM.step (nm := nm) (rn := rn) (tb := tb) (K := K) (ρ := ρ) (m := m) h
  rw [hm] at x
  simp only [List.append_nil] at x
  exact x
theorem GOI.one {k : Nat} (hk : k ≠ 999) (hs : sv τ = sv σ) (hr : srt τ = srt σ) (he : evk k (tks σ) (xs σ) q = []) (h : stk (sv σ) k (tks σ) (xs σ) q = some (b, tks τ, xs τ, q1, [])) (hm : ∀ nm rn tb m, mkk (sv σ) nm rn tb k (tks σ) q m = m) : GOI [k] σ q b τ q1 := GOI.ev hk hs h he (EFF.nil hr) hm
theorem GOI.start : GOI a σ q a σ q := ⟨GOS.nop rfl rfl, fun _ _ _ _ _ _ => RM.rfl⟩
theorem GOI.then (h : GOI a σ q b τ q1) (g : GOI b τ q1 c υ q2) : GOI a σ q c υ q2 := ⟨h.1.then g.1, fun nm rn tb m K ρ => by
  have y := g.2 nm rn tb m K ρ
  rw [h.1.1] at y
  exact (h.2 nm rn tb m K ρ).trans y⟩
theorem GOI.more (x : List Nat) (h : GOI a σ q b τ q1) : GOI (a ++ x) σ q (b ++ x) τ q1 := ⟨h.1.more x, fun nm rn tb m K ρ => by
  have y := h.2 nm rn tb m (x ++ K) ρ
  rw [← List.append_assoc, ← List.append_assoc] at y
  exact y⟩
end GI
section TAGW
variable {σ τ : MS} {q : QR}
theorem wx30 (h : NMW σ) (a1 : tks τ = advT (sv σ) (σ.1 20)) (a2 : xs τ = xs σ) (a3 : sv τ = sv σ) (f : EFF [(2, σ.1 19, 0, σ.2.2 24 0)] σ τ) : GOI [30] σ q [140, 31] τ (q.1, q.2.1, q.2.2.1, 0, σ.1 19) := GOI.ev (by decide) a3 (by rw [a1, a2]; exact if_pos ((nam_iff σ).mpr h)) rfl f (fun _ _ _ _ => rfl)
theorem wx31y (h : SG σ 41) (s : SAM σ τ) (f : EFF [(7, 0, q.2.2.2.1, 0)] σ τ) : GOI [31] σ q [141, 35] τ q := GOI.ev (by decide) s.2.2 (by rw [s.1, s.2.1]; exact if_pos h) (if_pos h) f (fun _ _ _ _ => rfl)
theorem wx31n (h : ¬ SG σ 41) : GOI [31] σ q [32] σ q := GOI.one (by decide) rfl rfl (if_neg h) (if_neg h) (fun _ _ _ _ => rfl)
theorem wx32 (h : NMW σ) (a1 : tks τ = advT (sv σ) (σ.1 20)) (a2 : xs τ = xs σ) (a3 : sv τ = sv σ) (f : EFF [(3, σ.1 19, q.2.2.2.1, σ.2.2 24 0)] σ τ) : GOI [32] σ q [33] τ (q.1, q.2.1, q.2.2.1, q.2.2.2.1 + 1, q.2.2.2.2) := GOI.ev (by decide) a3 (by rw [a1, a2]; exact if_pos ((nam_iff σ).mpr h)) rfl f (fun _ _ _ _ => rfl)
theorem wx33y (h : SG σ 44) (a : ADVm σ τ) : GOI [33] σ q [32] τ q := GOI.one (by decide) a.2.2.1 a.2.2.2 (if_pos h) (by rw [a.1, a.2.1]; exact if_pos h) (fun _ _ _ _ => rfl)
theorem wx33n (h : ¬ SG σ 44) (s : SAM σ τ) (f : EFF [(7, 0, q.2.2.2.1, 0)] σ τ) : GOI [33] σ q [141, 35] τ q := GOI.ev (by decide) s.2.2 (by rw [s.1, s.2.1]; exact if_neg h) (if_neg h) f (fun _ _ _ _ => rfl)
theorem wxn_40 (h : SG σ 40) (a : ADVm σ τ) : GOI [140] σ q [] τ q := GOI.one (by decide) a.2.2.1 a.2.2.2 rfl (by rw [a.1, a.2.1]; exact if_pos h) (fun _ _ _ _ => rfl)
theorem wxn_41 (h : SG σ 41) (a : ADVm σ τ) : GOI [141] σ q [] τ q := GOI.one (by decide) a.2.2.1 a.2.2.2 rfl (by rw [a.1, a.2.1]; exact if_pos h) (fun _ _ _ _ => rfl)
end TAGW
def AGR (σ : MS) (m : MK) : Prop := m.rt = σ.1 30 ∧ m.ln = σ.1 31 ∧ m.2.2.1 = (σ.1 39, σ.1 40)
def KPH (ρ τ : MS) : Prop := (τ.1 25 = ρ.1 25 ∧ τ.1 30 = ρ.1 30 ∧ 0 ≤ τ.1 34) ∧ τ.2.1 35 = ρ.2.1 35 ∧ τ.2.2 38 = ρ.2.2 38 ∧ τ.1 43 = ρ.1 43 ∧ τ.2.2 44 = ρ.2.2 44 ∧ ∀ j, j ≠ ρ.1 30 → τ.2.1 37 j = ρ.2.1 37 j
theorem KPH.fit {nm : Int → Int64 → Int} {rn : Int64 → Int} {tb : Int → Int} {σ τ : MS} (h : KPH σ τ) (f : FIT nm rn tb σ) : FIT nm rn tb τ := by
  obtain ⟨⟨-, a, -⟩, b, c, d, e, -⟩ := h
  unfold FIT NMZ RNV RFD at *
  rw [a, b, c, d, e]
  exact f
def HDM (ρ : MS) (b : List Nat) (τ : MS) (q : QR) (P : List ME) (lg : List EV) : Prop := ρ.1 25 = 3 → 0 ≤ ρ.1 30 → ρ.1 30 < 6 → ρ.2.1 37 (ρ.1 30) = 0 → KPH ρ τ ∧ (τ.1 34 ≤ 220 → ∀ nm rn tb, FIT nm rn tb ρ → ∀ m, AGR ρ m → ∀ (x : Int) (K : List Nat) (l : List EV), RM (sv ρ) nm rn tb (cfg ([30] ++ K) (sS 34 x ρ) (qq 0) l) m (cfg (b ++ K) τ q (l ++ lg)) (mqS τ P m.2.2.2.2))
theorem HDM.begin {ρ σ τ : MS} {q : QR} (g : ∀ x, GOI [30] (sS 34 x ρ) (qq 0) [35] (sS 34 x σ) q) (hv : sv σ = sv ρ) (h : stk (sv σ) 35 (tks σ) (xs σ) q = some ([28, 51, 34], tks τ, xs τ, (q.1, q.2.1, q.2.2.1, 0, q.2.2.2.2), [])) (kp : ρ.1 25 = 3 → KPH ρ τ) (e31 : τ.1 31 = ρ.1 31) (e37 : τ.2.1 37 = ρ.2.1 37) (e33 : τ.1 33 = 0) (e34 : τ.1 34 = 0) (e32 : ρ.1 30 < 6 → τ.1 32 = τ.2.1 35 (ρ.1 30)) (e39 : τ.1 39 = ρ.1 39) (e40 : τ.1 40 = ρ.1 40) : HDM ρ [28, 51, 34] τ (q.1, q.2.1, q.2.2.1, 0, q.2.2.2.2) [(11, 0, 0, [])] [] := fun z r0 r6 h0 => ⟨kp z, fun n2 nm rn tb f m a x K l => by
  have y := (g x).2 nm rn tb m K l
  have ek := (kp z).1.2.1
  have hx : stk (sv σ) 35 (tks σ) (xs (sS 34 x σ)) q = some ([28, 51, 34], tks τ, xs τ, (q.1, q.2.1, q.2.2.1, 0, q.2.2.2.2), []) := h
  have w := RM.step (nm := nm) (rn := rn) (tb := tb) (K := K) (ρ := l) (m := m) hx
  obtain ⟨a1, a2, a3⟩ := a
  have em : mkk (sv σ) nm rn tb 35 (tks σ) q m = mqS τ [(11, 0, 0, [])] m.2.2.2.2 := by
    show ((m.rt, m.ln, 0, 0, 0), (0, fun _ => zI), m.2.2.1, [(11, 0, 0, [])], m.2.2.2.2) = _
    unfold mqS
    rw [ek, e31, e37, e33, e34, e32 r6, h0, ov_0, e39, e40, a1, a2, a3, Int.sub_self]
  rw [em, hv] at w
  exact y.trans w⟩
theorem HDM.then {ρ σ τ : MS} {b c : List Nat} {q q2 : QR} {P0 P : List ME} {l1 l2 : List EV} (h : HDM ρ b σ q P0 l1) (hv : sv σ = sv ρ) (g : GOM b σ q P0 c τ q2 P l2) : HDM ρ c τ q2 P (l1 ++ l2) := fun z r0 r6 h0 => by
  obtain ⟨k1, h2⟩ := h z r0 r6 h0
  obtain ⟨k2, g2⟩ := g.2 (k1.1.1.trans z)
  have k9 : KPH ρ τ := ⟨⟨k2.1.1.trans k1.1.1, k2.1.2.1.trans k1.1.2.1, by have := k1.1.2.2; have := k2.1.2.2; omega⟩, k2.2.1.trans k1.2.1, k2.2.2.1.trans k1.2.2.1, k2.2.2.2.1.trans k1.2.2.2.1, k2.2.2.2.2.1.trans k1.2.2.2.2.1, fun j q => (k2.2.2.2.2.2 j (by rw [k1.1.2.1]; exact q)).trans (k1.2.2.2.2.2 j q)⟩
  refine ⟨k9, fun n2 nm rn tb f m a x K l => ?_⟩
  have e30 := k1.1.2.1
  have y := h2 (Int.le_trans k2.1.2.2 n2) nm rn tb f m a x K l
  have w := g2 (by omega) (by omega) k1.1.2.2 n2 nm rn tb (k1.fit f) [] m.2.2.2.2 K (l ++ l1)
  rw [hv, List.append_nil, List.append_nil, List.append_assoc] at w
  exact y.trans w
theorem HDM.and {ρ σ τ : MS} {b c : List Nat} {q q2 : QR} {P0 P : List ME} {l1 : List EV} (h : HDM ρ b σ q P0 l1) (hv : sv σ = sv ρ) (g : GOM b σ q P0 c τ q2 P []) : HDM ρ c τ q2 P l1 := by
  have y := h.then hv g
  rw [List.append_nil] at y
  exact y
def RMO (σ τ : MS) (lg : List EV) : Prop := 0 ≤ σ.1 30 → σ.1 30 < 6 → σ.2.1 37 (σ.1 30) = 0 → ∀ nm rn tb, FIT nm rn tb σ → ∀ m, AGR σ m → ∀ (x : Int) (K : List Nat) (l : List EV), ∃ m', RM (sv σ) nm rn tb (cfg ([30] ++ K) (sS 34 x σ) (qq 0) l) m (cfg ([] ++ K) τ (qq 0) (l ++ lg)) m' ∧ AGR τ m' ∧ m'.2.2.2.2 = (uZ m.2.2.2.2.1 (σ.1 30) (τ.2.1 9 (σ.1 30), rV τ (σ.1 30)), uZ m.2.2.2.2.2 (σ.1 30) (τ.2.1 37 (σ.1 30))) ∧ ∀ j, j ≠ σ.1 30 → τ.2.1 37 j = σ.2.1 37 j
theorem HDM.rmo {ρ σ τ : MS} {p : Int} {lg : List EV} (h : HDM ρ [34] σ (qq p) [] lg) (z : ρ.1 25 = 3) (hv : sv σ = sv ρ) (s : SAM σ τ) (n2 : σ.1 34 ≤ 220) (e30 : τ.1 30 = σ.1 30 + 1) (e31 : τ.1 31 = σ.1 31) (e39 : τ.1 39 = σ.1 39) (e40 : τ.1 40 = σ.1 40) (e37 : τ.2.1 37 = σ.2.1 37) (ri : rI τ = rI σ) (e9 : τ.2.1 9 (σ.1 30) = σ.1 34) : RMO ρ τ (lg ++ [(0, σ.1 34, 0)]) := fun r0 r6 h0 nm rn tb f m a x K l => by
  obtain ⟨k1, h2⟩ := h z r0 r6 h0
  have y := h2 n2 nm rn tb f m a x K l
  have hk : stk (sv σ) 34 (tks σ) (xs σ) (qq p) = some ([], tks τ, xs τ, qq 0, [(0, σ.1 34, 0)]) := by
    rw [s.1, s.2.1]
    rfl
  have w := RM.step (nm := nm) (rn := rn) (tb := tb) (K := K) (ρ := l ++ lg) (m := mqS σ [] m.2.2.2.2) hk
  rw [hv, List.append_assoc] at w
  refine ⟨_, y.trans w, ⟨?_, e31.symm, ?_⟩, ?_, fun j q => (congrFun e37 j).trans (k1.2.2.2.2.2 j q)⟩
  · show σ.1 30 + 1 = τ.1 30
    omega
  · show (σ.1 39, σ.1 40) = (τ.1 39, τ.1 40)
    rw [e39, e40]
  · show (uZ m.2.2.2.2.1 (σ.1 30) (σ.1 34, oV σ (σ.1 30) (σ.1 34)), uZ m.2.2.2.2.2 (σ.1 30) (σ.2.1 37 (σ.1 30))) = _
    have e := k1.1.2.1
    rw [← e, rv_ov, e9, e37]
    unfold oV
    rw [ri]
theorem NMZ.one {σ : MS} {w : Int64} {v u : Int} (h : NMZ σ w v) (g : NMZ σ w u) : v = u := by
  rcases h with ⟨a1, a2, a3, a4⟩ | ⟨a1, a2⟩
  · rcases g with ⟨b1, b2, b3, b4⟩ | ⟨b1, b2⟩
    · by_cases c : v < u
      · exact absurd a3 (b4 v a1 c)
      · by_cases c2 : u < v
        · exact absurd b3 (a4 u b1 c2)
        · omega
    · exact absurd a3 (b1 v a1 a2)
  · rcases g with ⟨b1, b2, b3, b4⟩ | ⟨b1, b2⟩
    · exact absurd b3 (a1 u b1 b2)
    · omega
theorem RFD.one9 {σ : MS} {w : Int64} {v u : Int} (h : RFD σ w v) (g : RFD σ w u) : v = u := by
  obtain ⟨a1, a2, a3, a4⟩ := h
  obtain ⟨b1, b2, b3, b4⟩ := g
  by_cases c : v < u
  · exact absurd a3 (b4 v a1 c)
  · by_cases c2 : u < v
    · exact absurd b3 (a4 u b1 c2)
    · omega
theorem RNV.one {σ : MS} {w : Int64} {v u : Int} (h : RNV σ w v) (g : RNV σ w u) : v = u := by
  rcases h with ⟨q, a1, a2⟩ | ⟨a1, a2⟩
  · rcases g with ⟨q2, b1, b2⟩ | ⟨b1, b2⟩
    · rw [a2, b2, a1.one9 b1]
    · exact absurd ⟨q, a1⟩ b1
  · rcases g with ⟨q2, b1, b2⟩ | ⟨b1, b2⟩
    · exact absurd ⟨q2, b1⟩ a1
    · omega
def FITA (nm : Int → Int64 → Int) (rn : Int64 → Int) (tb : Int → Int) (σ : MS) : Prop := ∀ r, 0 ≤ r → r < 6 → FIT nm rn tb (sS 30 r σ)
theorem FITA.fit {nm : Int → Int64 → Int} {rn : Int64 → Int} {tb : Int → Int} {σ τ : MS} (h : FITA nm rn tb σ) (r0 : 0 ≤ τ.1 30) (r6 : τ.1 30 < 6) (e35 : τ.2.1 35 = σ.2.1 35) (e38 : τ.2.2 38 = σ.2.2 38) (e43 : τ.1 43 = σ.1 43) (e44 : τ.2.2 44 = σ.2.2 44) : FIT nm rn tb τ := by
  have f := h (τ.1 30) r0 r6
  unfold FIT NMZ RNV RFD at *
  rw [e35, e38, e43, e44]
  exact f
def GRM (σ0 σ : MS) (lg : List EV) : Prop := (∀ r, σ.1 30 ≤ r → r < 6 → σ.2.1 37 r = 0) ∧ ∀ nm rn tb, FITA nm rn tb σ0 → ∀ m0, AGR σ0 m0 → ∃ x m, RM (sv σ0) nm rn tb (cfg [36] (sS 34 0 σ0) (qq 0) []) m0 (cfg [36] (sS 34 x σ) (qq 0) lg) m ∧ AGR σ m ∧ ∀ r, 0 ≤ r → r < σ.1 30 → m.2.2.2.2.1 r = (σ.2.1 9 r, rV σ r) ∧ m.2.2.2.2.2 r = σ.2.1 37 r
theorem GRM.begin {σ0 : MS} (h30 : σ0.1 30 = 0) (h : ∀ r, 0 ≤ r → r < 6 → σ0.2.1 37 r = 0) : GRM σ0 σ0 [] := ⟨fun r a b => h r (by omega) b, fun nm rn tb f m0 a => ⟨0, m0, RM.rfl, a, fun r a b => absurd b (by omega)⟩⟩
theorem GRM.step {σ0 σ τ : MS} {lg l2 : List EV} (g : GRM σ0 σ lg) (h22 : σ.1 22 ≠ 0) (hv : sv σ = sv σ0) (o : RMO σ τ l2) (i1 : ∀ x, x ≠ 2640 → (x < 220 * σ.1 30 ∨ 220 * σ.1 30 + 220 ≤ x) → IEQ σ x τ x) (i9 : ∀ j, j ≠ σ.1 30 → τ.2.1 9 j = σ.2.1 9 j) (h9 : ∀ r, 0 ≤ r → r < σ.1 30 → σ.2.1 9 r ≤ 220) (r0 : 0 ≤ σ.1 30) (r6 : σ.1 30 < 6) (e30 : τ.1 30 = σ.1 30 + 1) (e35 : σ.2.1 35 = σ0.2.1 35) (e38 : σ.2.2 38 = σ0.2.2 38) (e43 : σ.1 43 = σ0.1 43) (e44 : σ.2.2 44 = σ0.2.2 44) : GRM σ0 τ (lg ++ l2) := by
  have oz := o r0 r6 (g.1 _ (Int.le_refl _) r6)
  refine ⟨fun r a b => ?_, fun nm rn tb f m0 a => ?_⟩
  · have f0 : ∃ nm rn tb, FIT nm rn tb σ := ⟨fun _ w => Classical.epsilon (fun v => NMZ σ w v), fun w => Classical.epsilon (fun v => RNV σ w v), fun r => σ.2.1 35 r, fun w v q => NMZ.one (Classical.epsilon_spec (p := fun v => NMZ σ w v) ⟨v, q⟩) q, fun w v q => RNV.one (Classical.epsilon_spec (p := fun v => RNV σ w v) ⟨v, q⟩) q, rfl⟩
    obtain ⟨nm, rn, tb, ft⟩ := f0
    obtain ⟨m', -, -, -, q⟩ := oz nm rn tb ft ((σ.1 30, σ.1 31, 0, 0, 0), (0, fun _ => zI), (σ.1 39, σ.1 40), [], (fun _ => (0, fun _ => zI), fun _ => 0)) ⟨rfl, rfl, rfl⟩ 0 [] []
    rw [q r (by omega)]
    exact g.1 r (by omega) b
  · obtain ⟨x, m, r1, a1, d1⟩ := g.2 nm rn tb f m0 a
    obtain ⟨m', r2, a2, d2, -⟩ := oz nm rn tb (f.fit r0 r6 e35 e38 e43 e44) m a1 x [36] lg
    have w := RM.step (s := sv σ) (nm := nm) (rn := rn) (tb := tb) (k := 36) (K := []) (t := tks σ) (x := xs (sS 34 x σ)) (q := qq 0) (ρ := lg) (m := m) (if_neg (show ¬ (tks σ).2.2.1 = 0 from h22))
    rw [hv] at w r2
    simp only [List.append_nil] at w
    refine ⟨τ.1 34, m', r1.trans (w.trans r2), a2, fun r b c => ?_⟩
    rw [d2]
    by_cases e : r = σ.1 30
    · subst e
      exact ⟨uZ_eq, uZ_eq⟩
    · have q := d1 r b (by omega)
      have e37 : τ.2.1 37 r = σ.2.1 37 r := by
        obtain ⟨m9, -, -, -, q9⟩ := oz nm rn tb (f.fit r0 r6 e35 e38 e43 e44) m a1 x [36] lg
        exact q9 r e
      refine ⟨(uZ_ne e).trans (q.1.trans ?_), (uZ_ne e).trans (q.2.trans e37.symm)⟩
      rw [i9 r e]
      have ev : rV τ r = rV σ r := by
        unfold rV
        rw [i9 r e]
        funext k
        by_cases z : 0 ≤ k ∧ k < σ.2.1 9 r
        · rw [if_pos z, if_pos z]
          have z9 := h9 r b (by omega)
          exact (i1 (220 * r + k) (by omega) (by omega)).ri
        · rw [if_neg z, if_neg z]
      rw [ev]
def GM3 (σ τ : MS) : Prop := ∀ nm rn tb, FITA nm rn tb σ → ∀ m0 : MK, m0.rt = 0 → m0.ln = 0 → m0.2.2.1 = (σ.1 39, σ.1 40) → ∃ t x lg m, RM (sv σ) nm rn tb ([36], advT (sv σ) 0, (0, 0, 0), qq 0, []) m0 ([], t, x, qq 0, lg) m ∧ ∀ r, 0 ≤ r → r < τ.1 30 → m.2.2.2.2.1 r = (τ.2.1 9 r, rV τ r) ∧ m.2.2.2.2.2 r = τ.2.1 37 r
theorem GRM.fin {ρ σ0 σ : MS} {lg : List EV} (g : GRM σ0 σ lg) (e1 : tks σ0 = advT (sv σ0) 0) (e2 : σ0.1 28 = 0 ∧ σ0.1 29 = 0) (h22 : σ.1 22 = 0) (hv : sv σ = sv σ0) (svr : sv σ0 = sv ρ) (a30 : σ0.1 30 = 0) (a31 : σ0.1 31 = 0) (e39 : σ0.1 39 = ρ.1 39) (e40 : σ0.1 40 = ρ.1 40) (e35 : σ0.2.1 35 = ρ.2.1 35) (e38 : σ0.2.2 38 = ρ.2.2 38) (e43 : σ0.1 43 = ρ.1 43) (e44 : σ0.2.2 44 = ρ.2.2 44) : GM3 ρ σ := fun nm rn tb f m0 b1 b2 b3 => by
  have fa : FITA nm rn tb σ0 := fun r r0 r6 => f.fit (τ := sS 30 r σ0) r0 r6 e35 e38 e43 e44
  obtain ⟨x, m, r1, a1, d1⟩ := g.2 nm rn tb fa m0 ⟨by rw [a30]; exact b1, by rw [a31]; exact b2, by rw [e39, e40]; exact b3⟩
  have w := RM.step (s := sv σ) (nm := nm) (rn := rn) (tb := tb) (k := 36) (K := []) (t := tks σ) (x := xs (sS 34 x σ)) (q := qq 0) (ρ := lg) (m := m) (if_pos (show (tks σ).2.2.1 = 0 from h22))
  rw [hv] at w
  simp only [List.append_nil] at w
  have e : cfg [36] (sS 34 0 σ0) (qq 0) [] = ([36], advT (sv σ0) 0, (0, 0, 0), qq 0, []) := by
    show ([36], tks σ0, (σ0.1 28, σ0.1 29, (0 : Int)), qq 0, ([] : List EV)) = _
    rw [e1, e2.1, e2.2]
  rw [e] at r1
  have y := r1.trans w
  rw [svr] at y
  exact ⟨_, _, lg, m, y, d1⟩
end
section
set_option maxHeartbeats 4000000 in
set_option maxRecDepth 20000 in
theorem c2_X12_note (d : Nat) {b : Nat} {σ : MS} {f : Int} {p : Int} (hR : RG σ) (hf : 1 ≤ f ∧ f ≤ 9) (h_p : -2147483648 ≤ p ∧ p ≤ 2147483647) : Tm (d + 1) m_X12_note 0 b σ [(0, .ref b), (1, .int (iI f)), (2, .int (iI p))] [] (fun ro σ2 => ro = none ∧ (Fr [26, 27] [] [] σ σ2) ∧ (RG σ2) ∧ (FLT σ σ2) ∧ (0 < σ.1 25 → σ2.1 26 ≠ 0) ∧ (σ2 = ntP f p σ)) := by
  refine tm_aload_n dX12_note_0 rfl 0 rfl ?_
  refine tm_getS (k := 25) (t := σ.1 25) dX12_note_1 (by decide) fl12_255 rfl (rfl) ?_
  have g1 := RG.s hR 25
  refine tm_if_le (tgt := 48) dX12_note_4 (by decide) ⟨by omega, by omega⟩ (fun h2 => ?_) (fun h2 => ?_)
  · exact tm_vret rfl dX12_note_48 (⟨rfl, Fr.rfl, hR, FLT.eq rfl, fun q => by omega, by unfold ntP; rw [if_neg (by omega)]⟩)
  · refine tm_aload_n dX12_note_7 rfl 0 rfl ?_
    refine tm_getS (k := 26) (t := σ.1 26) dX12_note_8 (by decide) fl12_252 rfl (rfl) ?_
    have g3 := RG.s hR 26
    refine tm_if_eq (tgt := 38) dX12_note_11 (by decide) ⟨by omega, by omega⟩ (fun h4 => ?_) (fun h4 => ?_)
    · refine tm_aload_n dX12_note_38 rfl 0 rfl ?_
      refine tm_iload_n dX12_note_39 rfl 1 rfl ?_
      refine tm_putS (k := 26) (v := f) lay_12 dX12_note_40 (by decide) fl12_252 rfl (tyX12_ok 26 (by decide)) rfl rfl rfl ?_
      refine tm_aload_n dX12_note_43 rfl 0 rfl ?_
      refine tm_iload_n dX12_note_44 rfl 2 rfl ?_
      refine tm_putS (k := 27) (v := p) lay_12 dX12_note_45 (by decide) fl12_59 rfl (tyX12_ok 27 (by decide)) rfl rfl rfl ?_
      exact tm_vret rfl dX12_note_48 (⟨rfl, ((Fr.rfl.S (by decide)).S (by decide)), ((hR.S (by omega)).S (by omega)), ⟨fun _ => (by rw [show (sS 27 p (sS 26 f σ)).1 26 = f from rs_o (by decide) (rs_eq)]; omega), fun _ => (by rw [show (sS 27 p (sS 26 f σ)).1 26 = f from rs_o (by decide) (rs_eq)]; omega)⟩, fun _ => (by rw [show (sS 27 p (sS 26 f σ)).1 26 = f from rs_o (by decide) (rs_eq)]; omega), by unfold ntP; rw [if_pos (by omega)]⟩)
    · refine tm_iload_n dX12_note_14 rfl 2 rfl ?_
      refine tm_aload_n dX12_note_15 rfl 0 rfl ?_
      refine tm_getS (k := 27) (t := σ.1 27) dX12_note_16 (by decide) fl12_59 rfl (rfl) ?_
      have g5 := RG.s hR 27
      refine tm_icmp_lt (tgt := 38) dX12_note_19 (by decide) ⟨by omega, by omega⟩ ⟨by omega, by omega⟩ (fun h6 => ?_) (fun h6 => ?_)
      · refine tm_aload_n dX12_note_38 rfl 0 rfl ?_
        refine tm_iload_n dX12_note_39 rfl 1 rfl ?_
        refine tm_putS (k := 26) (v := f) lay_12 dX12_note_40 (by decide) fl12_252 rfl (tyX12_ok 26 (by decide)) rfl rfl rfl ?_
        refine tm_aload_n dX12_note_43 rfl 0 rfl ?_
        refine tm_iload_n dX12_note_44 rfl 2 rfl ?_
        refine tm_putS (k := 27) (v := p) lay_12 dX12_note_45 (by decide) fl12_59 rfl (tyX12_ok 27 (by decide)) rfl rfl rfl ?_
        exact tm_vret rfl dX12_note_48 (⟨rfl, ((Fr.rfl.S (by decide)).S (by decide)), ((hR.S (by omega)).S (by omega)), ⟨fun _ => (by rw [show (sS 27 p (sS 26 f σ)).1 26 = f from rs_o (by decide) (rs_eq)]; omega), fun _ => (by rw [show (sS 27 p (sS 26 f σ)).1 26 = f from rs_o (by decide) (rs_eq)]; omega)⟩, fun _ => (by rw [show (sS 27 p (sS 26 f σ)).1 26 = f from rs_o (by decide) (rs_eq)]; omega), by unfold ntP; rw [if_pos (by omega)]⟩)
      · refine tm_iload_n dX12_note_22 rfl 2 rfl ?_
        refine tm_aload_n dX12_note_23 rfl 0 rfl ?_
        refine tm_getS (k := 27) (t := σ.1 27) dX12_note_24 (by decide) fl12_59 rfl (rfl) ?_
        have g7 := RG.s hR 27
        refine tm_icmp_ne (tgt := 48) dX12_note_27 (by decide) ⟨by omega, by omega⟩ ⟨by omega, by omega⟩ (fun h8 => ?_) (fun h8 => ?_)
        · exact tm_vret rfl dX12_note_48 (⟨rfl, Fr.rfl, hR, FLT.eq rfl, fun q => by omega, by unfold ntP; rw [if_neg (by omega)]⟩)
        · refine tm_iload_n dX12_note_30 rfl 1 rfl ?_
          refine tm_aload_n dX12_note_31 rfl 0 rfl ?_
          refine tm_getS (k := 26) (t := σ.1 26) dX12_note_32 (by decide) fl12_252 rfl (rfl) ?_
          have g9 := RG.s hR 26
          refine tm_icmp_ge (tgt := 48) dX12_note_35 (by decide) ⟨by omega, by omega⟩ ⟨by omega, by omega⟩ (fun h10 => ?_) (fun h10 => ?_)
          · exact tm_vret rfl dX12_note_48 (⟨rfl, Fr.rfl, hR, FLT.eq rfl, fun q => by omega, by unfold ntP; rw [if_neg (by omega)]⟩)
          · refine tm_aload_n dX12_note_38 rfl 0 rfl ?_
            refine tm_iload_n dX12_note_39 rfl 1 rfl ?_
            refine tm_putS (k := 26) (v := f) lay_12 dX12_note_40 (by decide) fl12_252 rfl (tyX12_ok 26 (by decide)) rfl rfl rfl ?_
            refine tm_aload_n dX12_note_43 rfl 0 rfl ?_
            refine tm_iload_n dX12_note_44 rfl 2 rfl ?_
            refine tm_putS (k := 27) (v := p) lay_12 dX12_note_45 (by decide) fl12_59 rfl (tyX12_ok 27 (by decide)) rfl rfl rfl ?_
            exact tm_vret rfl dX12_note_48 (⟨rfl, ((Fr.rfl.S (by decide)).S (by decide)), ((hR.S (by omega)).S (by omega)), ⟨fun _ => (by rw [show (sS 27 p (sS 26 f σ)).1 26 = f from rs_o (by decide) (rs_eq)]; omega), fun _ => (by rw [show (sS 27 p (sS 26 f σ)).1 26 = f from rs_o (by decide) (rs_eq)]; omega)⟩, fun _ => (by rw [show (sS 27 p (sS 26 f σ)).1 26 = f from rs_o (by decide) (rs_eq)]; omega), by unfold ntP; rw [if_pos (by omega)]⟩)
set_option maxHeartbeats 4000000 in
set_option maxRecDepth 20000 in
theorem c2_X12_give (d : Nat) {b : Nat} {σ : MS} {k : Int} {w : Int} (hR : RG σ) (h_k : -2147483648 ≤ k ∧ k ≤ 2147483647) (h_w : -2147483648 ≤ w ∧ w ≤ 2147483647) : Tm (d + 1) m_X12_give 0 b σ [(0, .ref b), (1, .int (iI k)), (2, .int (iI w))] [] (fun ro σ2 => ro = none ∧ (Fr [39, 40] [] [] σ σ2) ∧ (RG σ2) ∧ (σ2.1 39 = k ∧ σ2.1 40 = w)) := by
  refine tm_aload_n dX12_give_0 rfl 0 rfl ?_
  refine tm_iload_n dX12_give_1 rfl 1 rfl ?_
  refine tm_putS (k := 39) (v := k) lay_12 dX12_give_2 (by decide) fl12_285 rfl (tyX12_ok 39 (by decide)) rfl rfl rfl ?_
  refine tm_aload_n dX12_give_5 rfl 0 rfl ?_
  refine tm_iload_n dX12_give_6 rfl 2 rfl ?_
  refine tm_putS (k := 40) (v := w) lay_12 dX12_give_7 (by decide) fl12_288 rfl (tyX12_ok 40 (by decide)) rfl rfl rfl ?_
  exact tm_vret rfl dX12_give_10 (⟨rfl, ((Fr.rfl.S (by decide)).S (by decide)), ((hR.S (by omega)).S (by omega)), rs_o (by decide) rs_eq, rs_eq⟩)
theorem fl12_278 : Cond.fieldLink RX12 278 (TX12 34).1 (TX12 34).2.1 (TX12 34).2.2.1 ∈ pWW := pw7 (List.mem_of_getElem? (i := 41) rfl) rfl
theorem ml12_271 : Cond.methodLink RX12 271 yX12_isKept ∈ pWW := pw8 (List.mem_of_getElem? (i := 181) rfl) rfl
theorem dX12_put_0 : decode cX12_put 0 = .ok (.aload_n 0, 1) := by decide +kernel
theorem dX12_put_1 : decode cX12_put 1 = .ok (.getfield 278, 3) := by decide +kernel
theorem dX12_put_4 : decode cX12_put 4 = .ok (.istore 4, 2) := by decide +kernel
theorem dX12_put_6 : decode cX12_put 6 = .ok (.aload_n 0, 1) := by decide +kernel
theorem dX12_put_7 : decode cX12_put 7 = .ok (.dup, 1) := by decide +kernel
theorem dX12_put_8 : decode cX12_put 8 = .ok (.getfield 278, 3) := by decide +kernel
theorem dX12_put_11 : decode cX12_put 11 = .ok (.iconst 1, 1) := by decide +kernel
theorem dX12_put_12 : decode cX12_put 12 = .ok (.iadd, 1) := by decide +kernel
theorem dX12_put_13 : decode cX12_put 13 = .ok (.putfield 278, 3) := by decide +kernel
theorem dX12_put_16 : decode cX12_put 16 = .ok (.aload_n 0, 1) := by decide +kernel
theorem dX12_put_17 : decode cX12_put 17 = .ok (.getfield 255, 3) := by decide +kernel
theorem dX12_put_20 : decode cX12_put 20 = .ok (.iconst 3, 1) := by decide +kernel
theorem dX12_put_21 : decode cX12_put 21 = .ok (.if_icmp .ne 31, 3) := by decide +kernel
theorem dX12_put_52 : decode cX12_put 52 = .ok (.sipush 2640, 3) := by decide +kernel
theorem dX12_put_55 : decode cX12_put 55 = .ok (.istore 5, 2) := by decide +kernel
theorem dX12_put_57 : decode cX12_put 57 = .ok (.aload_n 0, 1) := by decide +kernel
theorem dX12_put_58 : decode cX12_put 58 = .ok (.iload 5, 2) := by decide +kernel
theorem dX12_put_60 : decode cX12_put 60 = .ok (.iload_n 1, 1) := by decide +kernel
theorem dX12_put_61 : decode cX12_put 61 = .ok (.iload_n 2, 1) := by decide +kernel
theorem dX12_put_62 : decode cX12_put 62 = .ok (.iload_n 3, 1) := by decide +kernel
theorem dX12_put_63 : decode cX12_put 63 = .ok (.invokevirtual 281, 3) := by decide +kernel
theorem dX12_put_66 : decode cX12_put 66 = .ok (.iload 5, 2) := by decide +kernel
theorem dX12_put_68 : decode cX12_put 68 = .ok (.ireturn, 1) := by decide +kernel
theorem dX12_put_24 : decode cX12_put 24 = .ok (.iload 4, 2) := by decide +kernel
theorem dX12_put_26 : decode cX12_put 26 = .ok (.sipush 220, 3) := by decide +kernel
theorem dX12_put_29 : decode cX12_put 29 = .ok (.if_icmp .ge 23, 3) := by decide +kernel
theorem dX12_put_32 : decode cX12_put 32 = .ok (.aload_n 0, 1) := by decide +kernel
theorem dX12_put_33 : decode cX12_put 33 = .ok (.invokevirtual 271, 3) := by decide +kernel
theorem dX12_put_36 : decode cX12_put 36 = .ok (.ifCond .eq 16, 3) := by decide +kernel
theorem dX12_put_39 : decode cX12_put 39 = .ok (.aload_n 0, 1) := by decide +kernel
theorem dX12_put_40 : decode cX12_put 40 = .ok (.aload_n 0, 1) := by decide +kernel
theorem dX12_put_41 : decode cX12_put 41 = .ok (.getfield 268, 3) := by decide +kernel
theorem dX12_put_44 : decode cX12_put 44 = .ok (.iload 4, 2) := by decide +kernel
theorem dX12_put_46 : decode cX12_put 46 = .ok (.invokevirtual 203, 3) := by decide +kernel
theorem dX12_put_49 : decode cX12_put 49 = .ok (.goto 6, 3) := by decide +kernel
set_option maxHeartbeats 4000000 in
set_option maxRecDepth 20000 in
theorem c_X12_put (d : Nat) {b : Nat} {σ : MS} {k : Int} {e : Int} {o : Int} (hR : RG σ) (hph : (0 ≤ σ.1 30 ∧ σ.1 30 ≤ 2000) ∧ (0 ≤ σ.1 34 ∧ σ.1 34 ≤ 10000)) (h_k : -2147483648 ≤ k ∧ k ≤ 2147483647) (h_e : -2147483648 ≤ e ∧ e ≤ 2147483647) (h_o : -2147483648 ≤ o ∧ o ≤ 2147483647) : Tm (d + 2) m_X12_put 0 b σ [(0, .ref b), (1, .int (iI k)), (2, .int (iI e)), (3, .int (iI o))] [] (fun ro σ2 => ∃ v : Int, ro = some (.int (iI v)) ∧ (Fr [34] [3, 4, 5, 6, 7, 8] [] σ σ2) ∧ (RG σ2) ∧ (v = PXx σ) ∧ (σ2.1 34 = σ.1 34 + 1) ∧ (ITz σ2 v k e o) ∧ (OFF v σ σ2) ∧ (0 ≤ v ∧ v ≤ 2640) ∧ (rI σ2 v = mkI k e o 0 0 0)) := by
  refine tm_aload_n dX12_put_0 rfl 0 rfl ?_
  refine tm_getS (k := 34) (t := σ.1 34) dX12_put_1 (by decide) fl12_278 rfl (rfl) ?_
  have g1 := RG.s hR 34
  refine tm_istore (L' := [(4, .int (iI (σ.1 34))), (0, .ref b), (1, .int (iI k)), (2, .int (iI e)), (3, .int (iI o))]) dX12_put_4 (by decide) rfl ?_
  refine tm_aload_n dX12_put_6 rfl 1 rfl ?_
  refine tm_dup dX12_put_7 rfl ?_
  refine tm_getS (k := 34) (t := σ.1 34) dX12_put_8 (by decide) fl12_278 rfl (rfl) ?_
  have g2 := RG.s hR 34
  refine tm_iconst dX12_put_11 ?_
  refine tm_iadd dX12_put_12 ?_
  refine tm_putS (k := 34) (v := (σ.1 34) + 1) lay_12 dX12_put_13 (by decide) fl12_278 rfl (tyX12_ok 34 (by decide)) rfl rfl rfl ?_
  refine tm_aload_n dX12_put_16 rfl 1 rfl ?_
  refine tm_getS (k := 25) (t := σ.1 25) dX12_put_17 (by decide) fl12_255 rfl (rs_o (by decide) (rfl)) ?_
  have g3 := RG.s hR 25
  refine tm_iconst dX12_put_20 ?_
  refine tm_icmp_ne (tgt := 52) dX12_put_21 (by decide) ⟨by omega, by omega⟩ ⟨by decide, by decide⟩ (fun h4 => ?_) (fun h4 => ?_)
  · refine tm_sipush dX12_put_52 (by decide) ?_
    refine tm_istore (L' := [(5, .int (iI 2640)), (4, .int (iI (σ.1 34))), (0, .ref b), (1, .int (iI k)), (2, .int (iI e)), (3, .int (iI o))]) dX12_put_55 (by decide) rfl ?_
    refine tm_aload_n dX12_put_57 rfl 2 rfl ?_
    refine tm_iload dX12_put_58 0 rfl ?_
    refine tm_iload_n dX12_put_60 rfl 3 rfl ?_
    refine tm_iload_n dX12_put_61 rfl 4 rfl ?_
    refine tm_iload_n dX12_put_62 rfl 5 rfl ?_
    refine tm_callV (M := m_X12_put) (pc := 63) (ix := 281) (M' := m_X12_setItem) (As := [.int (iI 2640), .int (iI k), .int (iI e), .int (iI o)]) (rest := []) dX12_put_63 ok_X12_setItem im_X12_setItem se_X12_setItem ml12_281 np_X12_setItem rfl rfl (Nat.le_of_ble_eq_true rfl) (Nat.le_of_ble_eq_true rfl) rfl (c_X12_setItem (d) (σ := (sS 34 ((σ.1 34) + 1) σ)) (x := 2640) (k := k) (e := e) (o := o) (by omega)) (fun r5 σ6 hp => ?_)
    obtain ⟨rfl, f8⟩ := hp
    subst f8
    show Tm _ _ 66 b (fItem (2640) (k) (e) (o) (sS 34 ((σ.1 34) + 1) σ)) [(5, .int (iI 2640)), (4, .int (iI (σ.1 34))), (0, .ref b), (1, .int (iI k)), (2, .int (iI e)), (3, .int (iI o))] [] _
    refine tm_iload dX12_put_66 0 rfl ?_
    exact tm_iret rfl dX12_put_68 (⟨_, rfl, ((Fr.rfl.S (by decide)).trans (Fr.sub fItem_fr (by decide) (by decide) (by decide))), (((hR.S (by omega))).item (by omega) (by omega) (by omega)), (if_neg (by omega)).symm, rfl, fItem_at, (fItem_off : OFF _ (sS 34 (σ.1 34 + 1) σ) _), by omega, item_ri⟩)
  · refine tm_iload dX12_put_24 0 rfl ?_
    refine tm_sipush dX12_put_26 (by decide) ?_
    refine tm_icmp_ge (tgt := 52) dX12_put_29 (by decide) ⟨by omega, by omega⟩ ⟨by decide, by decide⟩ (fun h9 => ?_) (fun h9 => ?_)
    · refine tm_sipush dX12_put_52 (by decide) ?_
      refine tm_istore (L' := [(5, .int (iI 2640)), (4, .int (iI (σ.1 34))), (0, .ref b), (1, .int (iI k)), (2, .int (iI e)), (3, .int (iI o))]) dX12_put_55 (by decide) rfl ?_
      refine tm_aload_n dX12_put_57 rfl 2 rfl ?_
      refine tm_iload dX12_put_58 0 rfl ?_
      refine tm_iload_n dX12_put_60 rfl 3 rfl ?_
      refine tm_iload_n dX12_put_61 rfl 4 rfl ?_
      refine tm_iload_n dX12_put_62 rfl 5 rfl ?_
      refine tm_callV (M := m_X12_put) (pc := 63) (ix := 281) (M' := m_X12_setItem) (As := [.int (iI 2640), .int (iI k), .int (iI e), .int (iI o)]) (rest := []) dX12_put_63 ok_X12_setItem im_X12_setItem se_X12_setItem ml12_281 np_X12_setItem rfl rfl (Nat.le_of_ble_eq_true rfl) (Nat.le_of_ble_eq_true rfl) rfl (c_X12_setItem (d) (σ := (sS 34 ((σ.1 34) + 1) σ)) (x := 2640) (k := k) (e := e) (o := o) (by omega)) (fun r10 σ11 hp => ?_)
      obtain ⟨rfl, f13⟩ := hp
      subst f13
      show Tm _ _ 66 b (fItem (2640) (k) (e) (o) (sS 34 ((σ.1 34) + 1) σ)) [(5, .int (iI 2640)), (4, .int (iI (σ.1 34))), (0, .ref b), (1, .int (iI k)), (2, .int (iI e)), (3, .int (iI o))] [] _
      refine tm_iload dX12_put_66 0 rfl ?_
      exact tm_iret rfl dX12_put_68 (⟨_, rfl, ((Fr.rfl.S (by decide)).trans (Fr.sub fItem_fr (by decide) (by decide) (by decide))), (((hR.S (by omega))).item (by omega) (by omega) (by omega)), (if_neg (by omega)).symm, rfl, fItem_at, (fItem_off : OFF _ (sS 34 (σ.1 34 + 1) σ) _), by omega, item_ri⟩)
    · refine tm_aload_n dX12_put_32 rfl 1 rfl ?_
      refine tm_callV (M := m_X12_put) (pc := 33) (ix := 271) (M' := m_X12_isKept) (As := []) (rest := []) dX12_put_33 ok_X12_isKept im_X12_isKept se_X12_isKept ml12_271 np_X12_isKept rfl rfl (Nat.le_of_ble_eq_true rfl) (Nat.le_of_ble_eq_true rfl) rfl (c_X12_isKept (d) (σ := (sS 34 ((σ.1 34) + 1) σ))  (hR.S (by omega))) (fun r14 σ15 hp => ?_)
      obtain ⟨v16, rfl, rfl, f17, f18⟩ := hp
      show Tm _ _ 36 b (sS 34 ((σ.1 34) + 1) σ) [(4, .int (iI (σ.1 34))), (0, .ref b), (1, .int (iI k)), (2, .int (iI e)), (3, .int (iI o))] [.int (iI v16)] _
      have e30 : (sS 34 ((σ.1 34) + 1) σ).1 30 = σ.1 30 := rfl
      refine tm_if_eq (tgt := 52) dX12_put_36 (by decide) ⟨by omega, by omega⟩ (fun h19 => ?_) (fun h19 => ?_)
      · refine tm_sipush dX12_put_52 (by decide) ?_
        refine tm_istore (L' := [(5, .int (iI 2640)), (4, .int (iI (σ.1 34))), (0, .ref b), (1, .int (iI k)), (2, .int (iI e)), (3, .int (iI o))]) dX12_put_55 (by decide) rfl ?_
        refine tm_aload_n dX12_put_57 rfl 2 rfl ?_
        refine tm_iload dX12_put_58 0 rfl ?_
        refine tm_iload_n dX12_put_60 rfl 3 rfl ?_
        refine tm_iload_n dX12_put_61 rfl 4 rfl ?_
        refine tm_iload_n dX12_put_62 rfl 5 rfl ?_
        refine tm_callV (M := m_X12_put) (pc := 63) (ix := 281) (M' := m_X12_setItem) (As := [.int (iI 2640), .int (iI k), .int (iI e), .int (iI o)]) (rest := []) dX12_put_63 ok_X12_setItem im_X12_setItem se_X12_setItem ml12_281 np_X12_setItem rfl rfl (Nat.le_of_ble_eq_true rfl) (Nat.le_of_ble_eq_true rfl) rfl (c_X12_setItem (d) (σ := (sS 34 ((σ.1 34) + 1) σ)) (x := 2640) (k := k) (e := e) (o := o) (by omega)) (fun r20 σ21 hp => ?_)
        obtain ⟨rfl, f23⟩ := hp
        subst f23
        show Tm _ _ 66 b (fItem (2640) (k) (e) (o) (sS 34 ((σ.1 34) + 1) σ)) [(5, .int (iI 2640)), (4, .int (iI (σ.1 34))), (0, .ref b), (1, .int (iI k)), (2, .int (iI e)), (3, .int (iI o))] [] _
        refine tm_iload dX12_put_66 0 rfl ?_
        exact tm_iret rfl dX12_put_68 (⟨_, rfl, ((Fr.rfl.S (by decide)).trans (Fr.sub fItem_fr (by decide) (by decide) (by decide))), (((hR.S (by omega))).item (by omega) (by omega) (by omega)), (if_neg (by omega)).symm, rfl, fItem_at, (fItem_off : OFF _ (sS 34 (σ.1 34 + 1) σ) _), by omega, item_ri⟩)
      · refine tm_aload_n dX12_put_39 rfl 1 rfl ?_
        refine tm_aload_n dX12_put_40 rfl 1 rfl ?_
        refine tm_getS (k := 30) (t := σ.1 30) dX12_put_41 (by decide) fl12_268 rfl (rs_o (by decide) (rfl)) ?_
        have g24 := RG.s hR 30
        refine tm_iload dX12_put_44 0 rfl ?_
        refine tm_callV (M := m_X12_put) (pc := 46) (ix := 203) (M' := m_X12_at) (As := [.int (iI (σ.1 30)), .int (iI (σ.1 34))]) (rest := []) dX12_put_46 ok_X12_at im_X12_at se_X12_at ml12_203 np_X12_at rfl rfl (Nat.le_of_ble_eq_true rfl) (Nat.le_of_ble_eq_true rfl) rfl (c_X12_at (d) (σ := (sS 34 ((σ.1 34) + 1) σ)) (x := σ.1 30) (k := σ.1 34) ) (fun r25 σ26 hp => ?_)
        obtain ⟨v27, rfl, rfl, f28⟩ := hp
        subst f28
        show Tm _ _ 49 b (sS 34 ((σ.1 34) + 1) σ) [(4, .int (iI (σ.1 34))), (0, .ref b), (1, .int (iI k)), (2, .int (iI e)), (3, .int (iI o))] [.int (iI (220 * (σ.1 30) + (σ.1 34)))] _
        refine tm_goto (tgt := 55) dX12_put_49 (by decide) ?_
        refine tm_istore (L' := [(5, .int (iI (220 * (σ.1 30) + (σ.1 34)))), (4, .int (iI (σ.1 34))), (0, .ref b), (1, .int (iI k)), (2, .int (iI e)), (3, .int (iI o))]) dX12_put_55 (by decide) rfl ?_
        refine tm_aload_n dX12_put_57 rfl 2 rfl ?_
        refine tm_iload dX12_put_58 0 rfl ?_
        refine tm_iload_n dX12_put_60 rfl 3 rfl ?_
        refine tm_iload_n dX12_put_61 rfl 4 rfl ?_
        refine tm_iload_n dX12_put_62 rfl 5 rfl ?_
        refine tm_callV (M := m_X12_put) (pc := 63) (ix := 281) (M' := m_X12_setItem) (As := [.int (iI (220 * (σ.1 30) + (σ.1 34))), .int (iI k), .int (iI e), .int (iI o)]) (rest := []) dX12_put_63 ok_X12_setItem im_X12_setItem se_X12_setItem ml12_281 np_X12_setItem rfl rfl (Nat.le_of_ble_eq_true rfl) (Nat.le_of_ble_eq_true rfl) rfl (c_X12_setItem (d) (σ := (sS 34 ((σ.1 34) + 1) σ)) (x := 220 * (σ.1 30) + (σ.1 34)) (k := k) (e := e) (o := o) (by omega)) (fun r29 σ30 hp => ?_)
        obtain ⟨rfl, f32⟩ := hp
        subst f32
        show Tm _ _ 66 b (fItem (220 * (σ.1 30) + (σ.1 34)) (k) (e) (o) (sS 34 ((σ.1 34) + 1) σ)) [(5, .int (iI (220 * (σ.1 30) + (σ.1 34)))), (4, .int (iI (σ.1 34))), (0, .ref b), (1, .int (iI k)), (2, .int (iI e)), (3, .int (iI o))] [] _
        refine tm_iload dX12_put_66 0 rfl ?_
        exact tm_iret rfl dX12_put_68 (⟨_, rfl, ((Fr.rfl.S (by decide)).trans (Fr.sub fItem_fr (by decide) (by decide) (by decide))), (((hR.S (by omega))).item (by omega) (by omega) (by omega)), (if_pos (by omega)).symm, rfl, fItem_at, (fItem_off : OFF _ (sS 34 (σ.1 34 + 1) σ) _), by omega, item_ri⟩)
theorem fl12_291 : Cond.fieldLink RX12 291 (TX12 32).1 (TX12 32).2.1 (TX12 32).2.2.1 ∈ pWW := pw7 (List.mem_of_getElem? (i := 39) rfl) rfl
theorem ml12_294 : Cond.methodLink RX12 294 yX12_put ∈ pWW := pw8 (List.mem_of_getElem? (i := 205) rfl) rfl
theorem ml12_301 : Cond.methodLink RX12 301 yX12_give ∈ pWW := pw8 (List.mem_of_getElem? (i := 233) rfl) rfl
theorem dX12_joins_0 : decode cX12_joins 0 = .ok (.aload_n 0, 1) := by decide +kernel
theorem dX12_joins_1 : decode cX12_joins 1 = .ok (.iload_n 1, 1) := by decide +kernel
theorem dX12_joins_2 : decode cX12_joins 2 = .ok (.aload_n 0, 1) := by decide +kernel
theorem dX12_joins_3 : decode cX12_joins 3 = .ok (.getfield 291, 3) := by decide +kernel
theorem dX12_joins_6 : decode cX12_joins 6 = .ok (.iconst 0, 1) := by decide +kernel
theorem dX12_joins_7 : decode cX12_joins 7 = .ok (.invokevirtual 294, 3) := by decide +kernel
theorem dX12_joins_10 : decode cX12_joins 10 = .ok (.istore 6, 2) := by decide +kernel
theorem dX12_joins_12 : decode cX12_joins 12 = .ok (.aload_n 0, 1) := by decide +kernel
theorem dX12_joins_13 : decode cX12_joins 13 = .ok (.iload 6, 2) := by decide +kernel
theorem dX12_joins_15 : decode cX12_joins 15 = .ok (.iconst 0, 1) := by decide +kernel
theorem dX12_joins_16 : decode cX12_joins 16 = .ok (.iload_n 2, 1) := by decide +kernel
theorem dX12_joins_17 : decode cX12_joins 17 = .ok (.iload_n 3, 1) := by decide +kernel
theorem dX12_joins_18 : decode cX12_joins 18 = .ok (.invokevirtual 298, 3) := by decide +kernel
theorem dX12_joins_21 : decode cX12_joins 21 = .ok (.aload_n 0, 1) := by decide +kernel
theorem dX12_joins_22 : decode cX12_joins 22 = .ok (.iload 6, 2) := by decide +kernel
theorem dX12_joins_24 : decode cX12_joins 24 = .ok (.iconst 1, 1) := by decide +kernel
theorem dX12_joins_25 : decode cX12_joins 25 = .ok (.iload 4, 2) := by decide +kernel
theorem dX12_joins_27 : decode cX12_joins 27 = .ok (.iload 5, 2) := by decide +kernel
theorem dX12_joins_29 : decode cX12_joins 29 = .ok (.invokevirtual 298, 3) := by decide +kernel
theorem dX12_joins_32 : decode cX12_joins 32 = .ok (.aload_n 0, 1) := by decide +kernel
theorem dX12_joins_33 : decode cX12_joins 33 = .ok (.iconst 2, 1) := by decide +kernel
theorem dX12_joins_34 : decode cX12_joins 34 = .ok (.aload_n 0, 1) := by decide +kernel
theorem dX12_joins_35 : decode cX12_joins 35 = .ok (.getfield 291, 3) := by decide +kernel
theorem dX12_joins_38 : decode cX12_joins 38 = .ok (.invokevirtual 301, 3) := by decide +kernel
theorem dX12_joins_41 : decode cX12_joins 41 = .ok (.aload_n 0, 1) := by decide +kernel
theorem dX12_joins_42 : decode cX12_joins 42 = .ok (.dup, 1) := by decide +kernel
theorem dX12_joins_43 : decode cX12_joins 43 = .ok (.getfield 291, 3) := by decide +kernel
theorem dX12_joins_46 : decode cX12_joins 46 = .ok (.iconst 1, 1) := by decide +kernel
theorem dX12_joins_47 : decode cX12_joins 47 = .ok (.iadd, 1) := by decide +kernel
theorem dX12_joins_48 : decode cX12_joins 48 = .ok (.putfield 291, 3) := by decide +kernel
theorem dX12_joins_51 : decode cX12_joins 51 = .ok (.return_, 1) := by decide +kernel
set_option maxHeartbeats 4000000 in
set_option maxRecDepth 20000 in
theorem c_X12_joins (d : Nat) {b : Nat} {σ : MS} {k : Int} {ak : Int} {a : Int} {bk : Int} {c : Int} (hR : RG σ) (hph : (0 ≤ σ.1 30 ∧ σ.1 30 ≤ 2000) ∧ (0 ≤ σ.1 34 ∧ σ.1 34 ≤ 10000)) (hk5 : 1 ≤ k ∧ k ≤ 5) (hak : (0 ≤ ak ∧ ak ≤ 2) ∧ (ak = 2 → 0 ≤ a ∧ a < 12 + σ.1 34)) (hbk : (0 ≤ bk ∧ bk ≤ 2) ∧ (bk = 2 → 0 ≤ c ∧ c < 12 + σ.1 34)) (h32 : 0 ≤ σ.1 32 ∧ σ.1 32 ≤ 12 + σ.1 34) (h_a : -2147483648 ≤ a ∧ a ≤ 2147483647) (h_c : -2147483648 ≤ c ∧ c ≤ 2147483647) : Tm (d + 3) m_X12_joins 0 b σ [(0, .ref b), (1, .int (iI k)), (2, .int (iI ak)), (3, .int (iI a)), (4, .int (iI bk)), (5, .int (iI c))] [] (fun ro σ2 => ro = none ∧ (Fr [32, 34, 39, 40] [3, 4, 5, 6, 7, 8] [] σ σ2) ∧ (RG σ2) ∧ (σ2.1 34 = σ.1 34 + 1 ∧ σ2.1 32 = σ.1 32 + 1 ∧ σ2.1 39 = 2 ∧ σ2.1 40 = σ.1 32) ∧ (OFF (PXx σ) σ σ2) ∧ (ACI σ2 (13 + σ.1 34) (PXx σ)) ∧ (PIT σ σ2 (it2 k (σ.1 32) ak a bk c))) := by
  refine tm_aload_n dX12_joins_0 rfl 0 rfl ?_
  refine tm_iload_n dX12_joins_1 rfl 1 rfl ?_
  refine tm_aload_n dX12_joins_2 rfl 0 rfl ?_
  refine tm_getS (k := 32) (t := σ.1 32) dX12_joins_3 (by decide) fl12_291 rfl (rfl) ?_
  have g1 := RG.s hR 32
  refine tm_iconst dX12_joins_6 ?_
  refine tm_callV (M := m_X12_joins) (pc := 7) (ix := 294) (M' := m_X12_put) (As := [.int (iI k), .int (iI (σ.1 32)), .int (iI 0)]) (rest := []) dX12_joins_7 ok_X12_put im_X12_put se_X12_put ml12_294 np_X12_put rfl rfl (Nat.le_of_ble_eq_true rfl) (Nat.le_of_ble_eq_true rfl) rfl (c_X12_put (d) (σ := σ) (k := k) (e := σ.1 32) (o := 0) hR hph (by omega) (by omega) (by omega)) (fun r2 σ3 hp => ?_)
  obtain ⟨v4, rfl, f5, f6, f7, f8, f9, f10, f11, f12⟩ := hp
  show Tm _ _ 10 b σ3 [(0, .ref b), (1, .int (iI k)), (2, .int (iI ak)), (3, .int (iI a)), (4, .int (iI bk)), (5, .int (iI c))] [.int (iI v4)] _
  have jv := f7
  have j34 := f8
  have ji := f9
  have jo := f10
  have jr := f11
  have jz := f12
  refine tm_istore (L' := [(6, .int (iI v4)), (0, .ref b), (1, .int (iI k)), (2, .int (iI ak)), (3, .int (iI a)), (4, .int (iI bk)), (5, .int (iI c))]) dX12_joins_10 (by decide) rfl ?_
  refine tm_aload_n dX12_joins_12 rfl 1 rfl ?_
  refine tm_iload dX12_joins_13 0 rfl ?_
  refine tm_iconst dX12_joins_15 ?_
  refine tm_iload_n dX12_joins_16 rfl 3 rfl ?_
  refine tm_iload_n dX12_joins_17 rfl 4 rfl ?_
  refine tm_callV (M := m_X12_joins) (pc := 18) (ix := 298) (M' := m_X12_setArg) (As := [.int (iI v4), .int (iI 0), .int (iI ak), .int (iI a)]) (rest := []) dX12_joins_18 ok_X12_setArg im_X12_setArg se_X12_setArg ml12_298 np_X12_setArg rfl rfl (Nat.le_of_ble_eq_true rfl) (Nat.le_of_ble_eq_true rfl) rfl (c_X12_setArg (d + 1) (σ := σ3) (x := v4) (i := 0) (k := ak) (w := a) (by omega)) (fun r13 σ14 hp => ?_)
  obtain ⟨rfl, f16⟩ := hp
  subst f16
  show Tm _ _ 21 b (fArg (v4) (0) (ak) (a) σ3) [(6, .int (iI v4)), (0, .ref b), (1, .int (iI k)), (2, .int (iI ak)), (3, .int (iI a)), (4, .int (iI bk)), (5, .int (iI c))] [] _
  refine tm_aload_n dX12_joins_21 rfl 1 rfl ?_
  refine tm_iload dX12_joins_22 0 rfl ?_
  refine tm_iconst dX12_joins_24 ?_
  refine tm_iload dX12_joins_25 5 rfl ?_
  refine tm_iload dX12_joins_27 6 rfl ?_
  refine tm_callV (M := m_X12_joins) (pc := 29) (ix := 298) (M' := m_X12_setArg) (As := [.int (iI v4), .int (iI 1), .int (iI bk), .int (iI c)]) (rest := []) dX12_joins_29 ok_X12_setArg im_X12_setArg se_X12_setArg ml12_298 np_X12_setArg rfl rfl (Nat.le_of_ble_eq_true rfl) (Nat.le_of_ble_eq_true rfl) rfl (c_X12_setArg (d + 1) (σ := (fArg (v4) (0) (ak) (a) σ3)) (x := v4) (i := 1) (k := bk) (w := c) (by omega)) (fun r17 σ18 hp => ?_)
  obtain ⟨rfl, f20⟩ := hp
  subst f20
  show Tm _ _ 32 b (fArg (v4) (1) (bk) (c) (fArg (v4) (0) (ak) (a) σ3)) [(6, .int (iI v4)), (0, .ref b), (1, .int (iI k)), (2, .int (iI ak)), (3, .int (iI a)), (4, .int (iI bk)), (5, .int (iI c))] [] _
  refine tm_aload_n dX12_joins_32 rfl 1 rfl ?_
  refine tm_iconst dX12_joins_33 ?_
  refine tm_aload_n dX12_joins_34 rfl 1 rfl ?_
  refine tm_getS (k := 32) (t := σ.1 32) dX12_joins_35 (by decide) fl12_291 rfl (rs_F fArg_fr (by decide) (rs_F fArg_fr (by decide) (rs_F f5 (by decide) (rfl)))) ?_
  have g21 := RG.s hR 32
  refine tm_callV (M := m_X12_joins) (pc := 38) (ix := 301) (M' := m_X12_give) (As := [.int (iI 2), .int (iI (σ.1 32))]) (rest := []) dX12_joins_38 ok_X12_give im_X12_give se_X12_give ml12_301 np_X12_give rfl rfl (Nat.le_of_ble_eq_true rfl) (Nat.le_of_ble_eq_true rfl) rfl (c2_X12_give (d + 1) (σ := (fArg (v4) (1) (bk) (c) (fArg (v4) (0) (ak) (a) σ3))) (k := 2) (w := σ.1 32) ((((f6).arg (by omega) (by omega))).arg (by omega) (by omega)) (by omega) (by omega)) (fun r22 σ23 hp => ?_)
  obtain ⟨rfl, f25, f26, f27⟩ := hp
  show Tm _ _ 41 b σ23 [(6, .int (iI v4)), (0, .ref b), (1, .int (iI k)), (2, .int (iI ak)), (3, .int (iI a)), (4, .int (iI bk)), (5, .int (iI c))] [] _
  have jg := f27
  refine tm_aload_n dX12_joins_41 rfl 1 rfl ?_
  refine tm_dup dX12_joins_42 rfl ?_
  refine tm_getS (k := 32) (t := σ.1 32) dX12_joins_43 (by decide) fl12_291 rfl (rs_F f25 (by decide) (rs_F fArg_fr (by decide) (rs_F fArg_fr (by decide) (rs_F f5 (by decide) (rfl))))) ?_
  have g28 := RG.s hR 32
  refine tm_iconst dX12_joins_46 ?_
  refine tm_iadd dX12_joins_47 ?_
  refine tm_putS (k := 32) (v := (σ.1 32) + 1) lay_12 dX12_joins_48 (by decide) fl12_291 rfl (tyX12_ok 32 (by decide)) rfl rfl rfl ?_
  exact tm_vret rfl dX12_joins_51 (⟨rfl, (((((Fr.rfl.trans (Fr.sub f5 (by decide) (by decide) (by decide))).trans (Fr.sub fArg_fr (by decide) (by decide) (by decide))).trans (Fr.sub fArg_fr (by decide) (by decide) (by decide))).trans (Fr.sub f25 (by decide) (by decide) (by decide))).S (by decide)), (f26.S (by omega)), by rw [show (sS 32 ((σ.1 32) + 1) σ23).1 34 = σ3.1 34 from rs_o (by decide) (rs_F f25 (by decide) (rs_F fArg_fr (by decide) (rs_F fArg_fr (by decide) (rfl)))), show (sS 32 ((σ.1 32) + 1) σ23).1 32 = (σ.1 32) + 1 from rs_eq, show (sS 32 ((σ.1 32) + 1) σ23).1 39 = σ23.1 39 from rs_o (by decide) (rfl), show (sS 32 ((σ.1 32) + 1) σ23).1 40 = σ23.1 40 from rs_o (by decide) (rfl)]; omega, by rw [← jv]; exact ((jo.trans (OFF.arg (by decide) (by decide))).trans (OFF.arg (by decide) (by decide))).fr (show Fr [32, 39, 40] [] [] (fArg (v4) (1) (bk) (c) (fArg (v4) (0) (ak) (a) σ3)) (sS 32 ((σ.1 32) + 1) σ23) from ((Fr.rfl.trans (Fr.sub f25 (by decide) (by decide) (by decide))).S (by decide))) (by decide), by rw [← jv]; exact (ACI.mk (B := 13 + σ.1 34) ji (by omega) (by omega) (by omega) (by omega)).mv (IEQ.of (show Fr [32, 39, 40] [] [] (fArg (v4) (1) (bk) (c) (fArg (v4) (0) (ak) (a) σ3)) (sS 32 ((σ.1 32) + 1) σ23) from ((Fr.rfl.trans (Fr.sub f25 (by decide) (by decide) (by decide))).S (by decide))) (by decide)) (Int.le_refl _), PIT.fr (PIT.of (τ := (fArg (v4) (1) (bk) (c) (fArg (v4) (0) (ak) (a) σ3))) (show _ = _ from j34) (by rw [← jv]; exact (jo.trans (OFF.arg (by decide) (by decide))).trans (OFF.arg (by decide) (by decide))) (by rw [← jv]; exact ri_join jz)) (show Fr [32, 39, 40] [] [] (fArg (v4) (1) (bk) (c) (fArg (v4) (0) (ak) (a) σ3)) (sS 32 ((σ.1 32) + 1) σ23) from ((Fr.rfl.trans (Fr.sub f25 (by decide) (by decide) (by decide))).S (by decide))) (by decide) (by decide)⟩)
end
section
set_option maxHeartbeats 4000000 in
set_option maxRecDepth 20000 in
theorem c2_X12_isSign (d : Nat) {b : Nat} {σ : MS} {c : Int} (hR : RG σ) (h_c : -2147483648 ≤ c ∧ c ≤ 2147483647) : Tm (d + 1) m_X12_isSign 0 b σ [(0, .ref b), (1, .int (iI c))] [] (fun ro σ2 => ∃ v : Int, ro = some (.int (iI v)) ∧ σ = σ2 ∧ ((v = 0 ∨ v = 1)) ∧ (Im v 1 (SG σ c)) ∧ (Im v 0 (¬ SG σ c))) := by
  refine tm_aload_n dX12_isSign_0 rfl 0 rfl ?_
  refine tm_getS (k := 22) (t := σ.1 22) dX12_isSign_1 (by decide) fl12_226 rfl (rfl) ?_
  have g1 := RG.s hR 22
  refine tm_iconst dX12_isSign_4 ?_
  refine tm_icmp_ne (tgt := 20) dX12_isSign_5 (by decide) ⟨by omega, by omega⟩ ⟨by decide, by decide⟩ (fun h2 => ?_) (fun h2 => ?_)
  · refine tm_iconst dX12_isSign_20 ?_
    exact tm_zret (v := 0) rfl (by decide) dX12_isSign_21 (⟨_, rfl, rfl, by omega, fun _ => by unfold SG; omega, fun _ => by unfold SG; omega⟩)
  · refine tm_aload_n dX12_isSign_8 rfl 0 rfl ?_
    refine tm_getS (k := 23) (t := σ.1 23) dX12_isSign_9 (by decide) fl12_223 rfl (rfl) ?_
    have g3 := RG.s hR 23
    refine tm_iload_n dX12_isSign_12 rfl 1 rfl ?_
    refine tm_icmp_ne (tgt := 20) dX12_isSign_13 (by decide) ⟨by omega, by omega⟩ ⟨by omega, by omega⟩ (fun h4 => ?_) (fun h4 => ?_)
    · refine tm_iconst dX12_isSign_20 ?_
      exact tm_zret (v := 0) rfl (by decide) dX12_isSign_21 (⟨_, rfl, rfl, by omega, fun _ => by unfold SG; omega, fun _ => by unfold SG; omega⟩)
    · refine tm_iconst dX12_isSign_16 ?_
      refine tm_goto (tgt := 21) dX12_isSign_17 (by decide) ?_
      exact tm_zret (v := 1) rfl (by decide) dX12_isSign_21 (⟨_, rfl, rfl, by omega, fun _ => by unfold SG; omega, fun _ => by unfold SG; omega⟩)
set_option maxHeartbeats 4000000 in
set_option maxRecDepth 20000 in
theorem c2_X12_isWord (d : Nat) {b : Nat} {σ : MS} {w : Int64} (hR : RG σ) : Tm (d + 1) m_X12_isWord 0 b σ [(0, .ref b), (1, .long (w))] [] (fun ro σ2 => ∃ v : Int, ro = some (.int (iI v)) ∧ σ = σ2 ∧ ((v = 0 ∨ v = 1)) ∧ (Im v 1 (WD σ w)) ∧ (Im v 0 (¬ WD σ w))) := by
  refine tm_aload_n dX12_isWord_0 rfl 0 rfl ?_
  refine tm_getS (k := 22) (t := σ.1 22) dX12_isWord_1 (by decide) fl12_226 rfl (rfl) ?_
  have g1 := RG.s hR 22
  refine tm_iconst dX12_isWord_4 ?_
  refine tm_icmp_ne (tgt := 21) dX12_isWord_5 (by decide) ⟨by omega, by omega⟩ ⟨by decide, by decide⟩ (fun h2 => ?_) (fun h2 => ?_)
  · refine tm_iconst dX12_isWord_21 ?_
    exact tm_zret (v := 0) rfl (by decide) dX12_isWord_22 (⟨_, rfl, rfl, by omega, fun _ => by simp [WD, *] at *, fun _ => by simp [WD, *] at *⟩)
  · refine tm_aload_n dX12_isWord_8 rfl 0 rfl ?_
    refine tm_getW (t := σ.2.2 24 0) dX12_isWord_9 fl12_219 (rfl) ?_
    refine tm_lload_n dX12_isWord_12 rfl 1 rfl ?_
    refine tm_lcmp dX12_isWord_13 ?_
    have g3 := lcI_b (σ.2.2 24 0) (w)
    refine tm_if_ne (tgt := 21) dX12_isWord_14 (by decide) ⟨by omega, by omega⟩ (fun h4 => ?_) (fun h4 => ?_)
    · have h4e : ¬ (σ.2.2 24 0) = (w) := fun q => h4 (lcI_0.mpr q)
      refine tm_iconst dX12_isWord_21 ?_
      exact tm_zret (v := 0) rfl (by decide) dX12_isWord_22 (⟨_, rfl, rfl, by omega, fun _ => by simp [WD, *] at *, fun _ => by simp [WD, *] at *⟩)
    · have h4e := lcI_0.mp h4
      refine tm_iconst dX12_isWord_17 ?_
      refine tm_goto (tgt := 22) dX12_isWord_18 (by decide) ?_
      exact tm_zret (v := 1) rfl (by decide) dX12_isWord_22 (⟨_, rfl, rfl, by omega, fun _ => by simp [WD, *] at *, fun _ => by simp [WD, *] at *⟩)
set_option maxHeartbeats 4000000 in
set_option maxRecDepth 20000 in
theorem c2_X12_isName (d : Nat) {b : Nat} {σ : MS} (hR : RG σ) : Tm (d + 1) m_X12_isName 0 b σ [(0, .ref b)] [] (fun ro σ2 => ∃ v : Int, ro = some (.int (iI v)) ∧ σ = σ2 ∧ ((v = 0 ∨ v = 1)) ∧ (Im v 1 (NMW σ)) ∧ (Im v 0 (¬ NMW σ))) := by
  refine tm_aload_n dX12_isName_0 rfl 0 rfl ?_
  refine tm_getS (k := 22) (t := σ.1 22) dX12_isName_1 (by decide) fl12_226 rfl (rfl) ?_
  have g1 := RG.s hR 22
  refine tm_iconst dX12_isName_4 ?_
  refine tm_icmp_ne (tgt := 67) dX12_isName_5 (by decide) ⟨by omega, by omega⟩ ⟨by decide, by decide⟩ (fun h2 => ?_) (fun h2 => ?_)
  · refine tm_iconst dX12_isName_67 ?_
    exact tm_zret (v := 0) rfl (by decide) dX12_isName_68 (⟨_, rfl, rfl, by omega, fun _ => by simp [NMW, *] at *, fun _ => by simp [NMW, *] at *⟩)
  · refine tm_aload_n dX12_isName_8 rfl 0 rfl ?_
    refine tm_getW (t := σ.2.2 24 0) dX12_isName_9 fl12_219 (rfl) ?_
    refine tm_ldc2 dX12_isName_12 cst12_242 ?_
    refine tm_lcmp dX12_isName_15 ?_
    have g3 := lcI_b (σ.2.2 24 0) (7304564)
    refine tm_if_eq (tgt := 67) dX12_isName_16 (by decide) ⟨by omega, by omega⟩ (fun h4 => ?_) (fun h4 => ?_)
    · have h4e := lcI_0.mp h4
      refine tm_iconst dX12_isName_67 ?_
      exact tm_zret (v := 0) rfl (by decide) dX12_isName_68 (⟨_, rfl, rfl, by omega, fun _ => by simp [NMW, *] at *, fun _ => by simp [NMW, *] at *⟩)
    · have h4e : ¬ (σ.2.2 24 0) = (7304564) := fun q => h4 (lcI_0.mpr q)
      refine tm_aload_n dX12_isName_19 rfl 0 rfl ?_
      refine tm_getW (t := σ.2.2 24 0) dX12_isName_20 fl12_219 (rfl) ?_
      refine tm_ldc2 dX12_isName_23 cst12_244 ?_
      refine tm_lcmp dX12_isName_26 ?_
      have g5 := lcI_b (σ.2.2 24 0) (125780071117422)
      refine tm_if_eq (tgt := 67) dX12_isName_27 (by decide) ⟨by omega, by omega⟩ (fun h6 => ?_) (fun h6 => ?_)
      · have h6e := lcI_0.mp h6
        refine tm_iconst dX12_isName_67 ?_
        exact tm_zret (v := 0) rfl (by decide) dX12_isName_68 (⟨_, rfl, rfl, by omega, fun _ => by simp [NMW, *] at *, fun _ => by simp [NMW, *] at *⟩)
      · have h6e : ¬ (σ.2.2 24 0) = (125780071117422) := fun q => h6 (lcI_0.mpr q)
        refine tm_aload_n dX12_isName_30 rfl 0 rfl ?_
        refine tm_getW (t := σ.2.2 24 0) dX12_isName_31 fl12_219 (rfl) ?_
        refine tm_ldc2 dX12_isName_34 cst12_246 ?_
        refine tm_lcmp dX12_isName_37 ?_
        have g7 := lcI_b (σ.2.2 24 0) (26982)
        refine tm_if_eq (tgt := 67) dX12_isName_38 (by decide) ⟨by omega, by omega⟩ (fun h8 => ?_) (fun h8 => ?_)
        · have h8e := lcI_0.mp h8
          refine tm_iconst dX12_isName_67 ?_
          exact tm_zret (v := 0) rfl (by decide) dX12_isName_68 (⟨_, rfl, rfl, by omega, fun _ => by simp [NMW, *] at *, fun _ => by simp [NMW, *] at *⟩)
        · have h8e : ¬ (σ.2.2 24 0) = (26982) := fun q => h8 (lcI_0.mpr q)
          refine tm_aload_n dX12_isName_41 rfl 0 rfl ?_
          refine tm_getW (t := σ.2.2 24 0) dX12_isName_42 fl12_219 (rfl) ?_
          refine tm_ldc2 dX12_isName_45 cst12_248 ?_
          refine tm_lcmp dX12_isName_48 ?_
          have g9 := lcI_b (σ.2.2 24 0) (1701606245)
          refine tm_if_eq (tgt := 67) dX12_isName_49 (by decide) ⟨by omega, by omega⟩ (fun h10 => ?_) (fun h10 => ?_)
          · have h10e := lcI_0.mp h10
            refine tm_iconst dX12_isName_67 ?_
            exact tm_zret (v := 0) rfl (by decide) dX12_isName_68 (⟨_, rfl, rfl, by omega, fun _ => by simp [NMW, *] at *, fun _ => by simp [NMW, *] at *⟩)
          · have h10e : ¬ (σ.2.2 24 0) = (1701606245) := fun q => h10 (lcI_0.mpr q)
            refine tm_aload_n dX12_isName_52 rfl 0 rfl ?_
            refine tm_getW (t := σ.2.2 24 0) dX12_isName_53 fl12_219 (rfl) ?_
            refine tm_ldc2 dX12_isName_56 cst12_250 ?_
            refine tm_lcmp dX12_isName_59 ?_
            have g11 := lcI_b (σ.2.2 24 0) (512852847717)
            refine tm_if_eq (tgt := 67) dX12_isName_60 (by decide) ⟨by omega, by omega⟩ (fun h12 => ?_) (fun h12 => ?_)
            · have h12e := lcI_0.mp h12
              refine tm_iconst dX12_isName_67 ?_
              exact tm_zret (v := 0) rfl (by decide) dX12_isName_68 (⟨_, rfl, rfl, by omega, fun _ => by simp [NMW, *] at *, fun _ => by simp [NMW, *] at *⟩)
            · have h12e : ¬ (σ.2.2 24 0) = (512852847717) := fun q => h12 (lcI_0.mpr q)
              refine tm_iconst dX12_isName_63 ?_
              refine tm_goto (tgt := 68) dX12_isName_64 (by decide) ?_
              exact tm_zret (v := 1) rfl (by decide) dX12_isName_68 (⟨_, rfl, rfl, by omega, fun _ => by simp [NMW, *] at *, fun _ => by simp [NMW, *] at *⟩)
theorem fl12_63 : Cond.fieldLink RX12 63 (TX12 35).1 (TX12 35).2.1 (TX12 35).2.2.1 ∈ pWW := pw7 (List.mem_of_getElem? (i := 42) rfl) rfl
theorem fl12_72 : Cond.fieldLink RX12 72 (TX12 38).1 (TX12 38).2.1 (TX12 38).2.2.1 ∈ pWW := pw7 (List.mem_of_getElem? (i := 45) rfl) rfl
theorem dX12_nameOf_12 : decode cX12_nameOf 12 = .ok (.iload 4, 2) := by decide +kernel
theorem dX12_nameOf_14 : decode cX12_nameOf 14 = .ok (.aload_n 0, 1) := by decide +kernel
theorem dX12_nameOf_15 : decode cX12_nameOf 15 = .ok (.getfield 63, 3) := by decide +kernel
theorem dX12_nameOf_18 : decode cX12_nameOf 18 = .ok (.aload_n 0, 1) := by decide +kernel
theorem dX12_nameOf_19 : decode cX12_nameOf 19 = .ok (.getfield 268, 3) := by decide +kernel
theorem dX12_nameOf_22 : decode cX12_nameOf 22 = .ok (.iaload, 1) := by decide +kernel
theorem dX12_nameOf_23 : decode cX12_nameOf 23 = .ok (.if_icmp .ge 32, 3) := by decide +kernel
theorem dX12_nameOf_26 : decode cX12_nameOf 26 = .ok (.aload_n 0, 1) := by decide +kernel
theorem dX12_nameOf_27 : decode cX12_nameOf 27 = .ok (.getfield 72, 3) := by decide +kernel
theorem dX12_nameOf_30 : decode cX12_nameOf 30 = .ok (.bipush 12, 2) := by decide +kernel
theorem dX12_nameOf_32 : decode cX12_nameOf 32 = .ok (.aload_n 0, 1) := by decide +kernel
theorem dX12_nameOf_33 : decode cX12_nameOf 33 = .ok (.getfield 268, 3) := by decide +kernel
theorem dX12_nameOf_36 : decode cX12_nameOf 36 = .ok (.imul, 1) := by decide +kernel
theorem dX12_nameOf_37 : decode cX12_nameOf 37 = .ok (.iload 4, 2) := by decide +kernel
theorem dX12_nameOf_39 : decode cX12_nameOf 39 = .ok (.iadd, 1) := by decide +kernel
theorem dX12_nameOf_40 : decode cX12_nameOf 40 = .ok (.laload, 1) := by decide +kernel
theorem dX12_nameOf_41 : decode cX12_nameOf 41 = .ok (.lload_n 1, 1) := by decide +kernel
theorem dX12_nameOf_42 : decode cX12_nameOf 42 = .ok (.lcmp, 1) := by decide +kernel
theorem dX12_nameOf_43 : decode cX12_nameOf 43 = .ok (.ifCond .ne 6, 3) := by decide +kernel
theorem dX12_nameOf_49 : decode cX12_nameOf 49 = .ok (.iinc 4 1, 3) := by decide +kernel
theorem dX12_nameOf_52 : decode cX12_nameOf 52 = .ok (.goto (-40), 3) := by decide +kernel
theorem dX12_nameOf_46 : decode cX12_nameOf 46 = .ok (.iload 4, 2) := by decide +kernel
theorem dX12_nameOf_48 : decode cX12_nameOf 48 = .ok (.ireturn, 1) := by decide +kernel
set_option maxHeartbeats 4000000 in
set_option maxRecDepth 20000 in
theorem l_nameOf (d : Nat) {b : Nat} {σ : MS} {w : Int64} {p : Int} {post : Option Value → MS → Prop} (hR : RG σ) (hnn : NN σ) (hr6 : 0 ≤ σ.1 30 ∧ σ.1 30 < 6) (hx_55 : ∀ (i : Int) , (∀ j, 0 ≤ j → j < σ.2.1 35 (σ.1 30) → σ.2.2 38 (12 * σ.1 30 + j) ≠ w) → Tm (d + 2) m_X12_nameOf 55 b σ [(4, .int (iI i)), (0, .ref b), (1, .long (w)), (3, .int (iI p))] [] post) (hr1 : ∀ v, 0 ≤ v → v < 12 → NFD σ w → NMK σ w v → post (some (.int (iI v))) σ) : ∀ (n : Nat) (i : Int) , (0 ≤ i ∧ i ≤ 12) → (∀ j, 0 ≤ j → j < i → σ.2.2 38 (12 * σ.1 30 + j) ≠ w) → (12 - i).toNat = n → Tm (d + 2) m_X12_nameOf 12 b σ [(4, .int (iI i)), (0, .ref b), (1, .long (w)), (3, .int (iI p))] [] post := by
  intro n
  induction n using Nat.strongRecOn with
  | _ n ih =>
    intro i h0 hnf hm
    have hn1 := hnn (σ.1 30) hr6.1 hr6.2
    refine tm_iload dX12_nameOf_12 0 rfl ?_
    refine tm_aload_n dX12_nameOf_14 rfl 1 rfl ?_
    refine tm_get (k := 35) (v := .ref (b + 1 + 16)) lay_12 dX12_nameOf_15 (by decide) fl12_63 rfl ?_
    refine tm_aload_n dX12_nameOf_18 rfl 1 rfl ?_
    refine tm_getS (k := 30) (t := σ.1 30) dX12_nameOf_19 (by decide) fl12_268 rfl (rfl) ?_
    have g1 := RG.s hR 30
    refine tm_iald (z := σ.1 30) (v := σ.2.1 35 (σ.1 30)) dX12_nameOf_22 (show mT[16]? = some (35, 0, 6) from rfl) (by omega) (by omega) (by decide) (rfl) ?_
    have g2 := RG.a hR 35 (σ.1 30)
    refine tm_icmp_ge (tgt := 55) dX12_nameOf_23 (by decide) ⟨by omega, by omega⟩ ⟨by omega, by omega⟩ (fun h3 => ?_) (fun h3 => ?_)
    · exact tm_sub [0, 1, 2, 3] rfl (hx_55 (i) (fun j a c => hnf j a (by omega)))
    · refine tm_aload_n dX12_nameOf_26 rfl 1 rfl ?_
      refine tm_get (k := 38) (v := .ref (b + 1 + 19)) lay_12 dX12_nameOf_27 (by decide) fl12_72 rfl ?_
      refine tm_bipush dX12_nameOf_30 (by decide) ?_
      refine tm_aload_n dX12_nameOf_32 rfl 1 rfl ?_
      refine tm_getS (k := 30) (t := σ.1 30) dX12_nameOf_33 (by decide) fl12_268 rfl (rfl) ?_
      have g4 := RG.s hR 30
      refine tm_imul dX12_nameOf_36 ?_
      refine tm_iload dX12_nameOf_37 0 rfl ?_
      refine tm_iadd dX12_nameOf_39 ?_
      refine tm_lald (z := (12 * (σ.1 30)) + i) (v := σ.2.2 38 ((12 * (σ.1 30)) + i)) dX12_nameOf_40 (show mT[19]? = some (38, 3, 72) from rfl) (by omega) (by omega) (by decide) (rfl) ?_
      refine tm_lload_n dX12_nameOf_41 rfl 2 rfl ?_
      refine tm_lcmp dX12_nameOf_42 ?_
      have g5 := lcI_b (σ.2.2 38 ((12 * (σ.1 30)) + i)) (w)
      refine tm_if_ne (tgt := 49) dX12_nameOf_43 (by decide) ⟨by omega, by omega⟩ (fun h6 => ?_) (fun h6 => ?_)
      · have h6e : ¬ (σ.2.2 38 ((12 * (σ.1 30)) + i)) = (w) := fun q => h6 (lcI_0.mpr q)
        refine tm_iinc (q0 := 0) (L' := [(4, .int (iI (i + 1))), (0, .ref b), (1, .long (w)), (3, .int (iI p))]) dX12_nameOf_49 rfl (by decide) rfl ?_
        refine tm_goto (tgt := 12) dX12_nameOf_52 (by decide) ?_
        exact tm_sub [0, 1, 2, 3] rfl (ih _ (by omega) (i + 1) (by omega) (fun j a c => (Classical.em (j = i)).elim (fun e y => by subst e; exact absurd y (by assumption)) (fun e => hnf j a (by omega))) rfl)
      · have h6e := lcI_0.mp h6
        refine tm_iload dX12_nameOf_46 0 rfl ?_
        exact tm_iret rfl dX12_nameOf_48 (hr1 _ (by omega) (by omega) ⟨i, h0.1, by omega, lcI_0.mp (by first | assumption | omega)⟩ (fun _ => Or.inl ⟨h0.1, by omega, lcI_0.mp (by first | assumption | omega), hnf⟩))
theorem ml12_274 : Cond.methodLink RX12 274 yX12_note ∈ pWW := pw8 (List.mem_of_getElem? (i := 165) rfl) rfl
theorem dX12_nameOf_0 : decode cX12_nameOf 0 = .ok (.aload_n 0, 1) := by decide +kernel
theorem dX12_nameOf_1 : decode cX12_nameOf 1 = .ok (.invokevirtual 271, 3) := by decide +kernel
theorem dX12_nameOf_4 : decode cX12_nameOf 4 = .ok (.ifCond .ne 5, 3) := by decide +kernel
theorem dX12_nameOf_9 : decode cX12_nameOf 9 = .ok (.iconst 0, 1) := by decide +kernel
theorem dX12_nameOf_10 : decode cX12_nameOf 10 = .ok (.istore 4, 2) := by decide +kernel
theorem dX12_nameOf_55 : decode cX12_nameOf 55 = .ok (.aload_n 0, 1) := by decide +kernel
theorem dX12_nameOf_56 : decode cX12_nameOf 56 = .ok (.getfield 63, 3) := by decide +kernel
theorem dX12_nameOf_59 : decode cX12_nameOf 59 = .ok (.aload_n 0, 1) := by decide +kernel
theorem dX12_nameOf_60 : decode cX12_nameOf 60 = .ok (.getfield 268, 3) := by decide +kernel
theorem dX12_nameOf_63 : decode cX12_nameOf 63 = .ok (.iaload, 1) := by decide +kernel
theorem dX12_nameOf_64 : decode cX12_nameOf 64 = .ok (.bipush 12, 2) := by decide +kernel
theorem dX12_nameOf_66 : decode cX12_nameOf 66 = .ok (.if_icmp .ne 11, 3) := by decide +kernel
theorem dX12_nameOf_77 : decode cX12_nameOf 77 = .ok (.aload_n 0, 1) := by decide +kernel
theorem dX12_nameOf_78 : decode cX12_nameOf 78 = .ok (.getfield 255, 3) := by decide +kernel
theorem dX12_nameOf_81 : decode cX12_nameOf 81 = .ok (.iconst 1, 1) := by decide +kernel
theorem dX12_nameOf_82 : decode cX12_nameOf 82 = .ok (.if_icmp .ne 39, 3) := by decide +kernel
theorem dX12_nameOf_121 : decode cX12_nameOf 121 = .ok (.iconst 0, 1) := by decide +kernel
theorem dX12_nameOf_122 : decode cX12_nameOf 122 = .ok (.ireturn, 1) := by decide +kernel
theorem dX12_nameOf_85 : decode cX12_nameOf 85 = .ok (.aload_n 0, 1) := by decide +kernel
theorem dX12_nameOf_86 : decode cX12_nameOf 86 = .ok (.getfield 72, 3) := by decide +kernel
theorem dX12_nameOf_89 : decode cX12_nameOf 89 = .ok (.bipush 12, 2) := by decide +kernel
theorem dX12_nameOf_91 : decode cX12_nameOf 91 = .ok (.aload_n 0, 1) := by decide +kernel
theorem dX12_nameOf_92 : decode cX12_nameOf 92 = .ok (.getfield 268, 3) := by decide +kernel
theorem dX12_nameOf_95 : decode cX12_nameOf 95 = .ok (.imul, 1) := by decide +kernel
theorem dX12_nameOf_96 : decode cX12_nameOf 96 = .ok (.aload_n 0, 1) := by decide +kernel
theorem dX12_nameOf_97 : decode cX12_nameOf 97 = .ok (.getfield 63, 3) := by decide +kernel
theorem dX12_nameOf_100 : decode cX12_nameOf 100 = .ok (.aload_n 0, 1) := by decide +kernel
theorem dX12_nameOf_101 : decode cX12_nameOf 101 = .ok (.getfield 268, 3) := by decide +kernel
theorem dX12_nameOf_104 : decode cX12_nameOf 104 = .ok (.iaload, 1) := by decide +kernel
theorem dX12_nameOf_105 : decode cX12_nameOf 105 = .ok (.iadd, 1) := by decide +kernel
theorem dX12_nameOf_106 : decode cX12_nameOf 106 = .ok (.lload_n 1, 1) := by decide +kernel
theorem dX12_nameOf_107 : decode cX12_nameOf 107 = .ok (.lastore, 1) := by decide +kernel
theorem dX12_nameOf_108 : decode cX12_nameOf 108 = .ok (.aload_n 0, 1) := by decide +kernel
theorem dX12_nameOf_109 : decode cX12_nameOf 109 = .ok (.getfield 63, 3) := by decide +kernel
theorem dX12_nameOf_112 : decode cX12_nameOf 112 = .ok (.aload_n 0, 1) := by decide +kernel
theorem dX12_nameOf_113 : decode cX12_nameOf 113 = .ok (.getfield 268, 3) := by decide +kernel
theorem dX12_nameOf_116 : decode cX12_nameOf 116 = .ok (.dup2, 1) := by decide +kernel
theorem dX12_nameOf_117 : decode cX12_nameOf 117 = .ok (.iaload, 1) := by decide +kernel
theorem dX12_nameOf_118 : decode cX12_nameOf 118 = .ok (.iconst 1, 1) := by decide +kernel
theorem dX12_nameOf_119 : decode cX12_nameOf 119 = .ok (.iadd, 1) := by decide +kernel
theorem dX12_nameOf_120 : decode cX12_nameOf 120 = .ok (.iastore, 1) := by decide +kernel
theorem dX12_nameOf_69 : decode cX12_nameOf 69 = .ok (.aload_n 0, 1) := by decide +kernel
theorem dX12_nameOf_70 : decode cX12_nameOf 70 = .ok (.iconst 5, 1) := by decide +kernel
theorem dX12_nameOf_71 : decode cX12_nameOf 71 = .ok (.iload_n 3, 1) := by decide +kernel
theorem dX12_nameOf_72 : decode cX12_nameOf 72 = .ok (.invokevirtual 274, 3) := by decide +kernel
theorem dX12_nameOf_75 : decode cX12_nameOf 75 = .ok (.iconst 0, 1) := by decide +kernel
theorem dX12_nameOf_76 : decode cX12_nameOf 76 = .ok (.ireturn, 1) := by decide +kernel
theorem dX12_nameOf_7 : decode cX12_nameOf 7 = .ok (.iconst 0, 1) := by decide +kernel
theorem dX12_nameOf_8 : decode cX12_nameOf 8 = .ok (.ireturn, 1) := by decide +kernel
set_option maxHeartbeats 4000000 in
set_option maxRecDepth 20000 in
theorem c_X12_nameOf (d : Nat) {b : Nat} {σ : MS} {w : Int64} {p : Int} (hR : RG σ) (hnn : NN σ) (hr30 : 0 ≤ σ.1 30 ∧ σ.1 30 ≤ 2000) (h_p : -2147483648 ≤ p ∧ p ≤ 2147483647) : Tm (d + 2) m_X12_nameOf 0 b σ [(0, .ref b), (1, .long (w)), (3, .int (iI p))] [] (fun ro σ2 => ∃ v : Int, ro = some (.int (iI v)) ∧ (Fr [26, 27] [35] [38] σ σ2) ∧ (RG σ2) ∧ (PBF σ σ2) ∧ (0 ≤ v ∧ v < 12) ∧ (σ2 = nmP w p σ) ∧ (NMK σ w v)) := by
  refine tm_aload_n dX12_nameOf_0 rfl 0 rfl ?_
  refine tm_callV (M := m_X12_nameOf) (pc := 1) (ix := 271) (M' := m_X12_isKept) (As := []) (rest := []) dX12_nameOf_1 ok_X12_isKept im_X12_isKept se_X12_isKept ml12_271 np_X12_isKept rfl rfl (Nat.le_of_ble_eq_true rfl) (Nat.le_of_ble_eq_true rfl) rfl (c_X12_isKept (d) (σ := σ)  hR) (fun r1 σ2 hp => ?_)
  obtain ⟨v3, rfl, rfl, f4, f5⟩ := hp
  show Tm _ _ 4 b σ [(0, .ref b), (1, .long (w)), (3, .int (iI p))] [.int (iI v3)] _
  refine tm_if_ne (tgt := 9) dX12_nameOf_4 (by decide) ⟨by omega, by omega⟩ (fun h6 => ?_) (fun h6 => ?_)
  · refine tm_iconst dX12_nameOf_9 ?_
    refine tm_istore (L' := [(4, .int (iI 0)), (0, .ref b), (1, .long (w)), (3, .int (iI p))]) dX12_nameOf_10 (by decide) rfl ?_
    refine tm_sub [0, 1, 2, 3] rfl (l_nameOf (d) (σ := σ) (p := p) (w := w) hR hnn (by omega) (fun i11 f10 => ?_) (fun v h1 h2 h3 h4 => ⟨_, rfl, Fr.rfl, hR, PBF.nop hnn (Fr.rfl : Fr [] [] [] σ σ) (by decide) (by decide) (by decide), ⟨h1, h2⟩, by unfold nmP; rw [ifP_t (by omega), ifP_t h3], h4⟩) _ (0) (by omega) (fun j a c => absurd c (by omega)) rfl)
    show Tm _ _ 55 b σ [(4, .int (iI i11)), (0, .ref b), (1, .long (w)), (3, .int (iI p))] [] _
    have hn1 := hnn (σ.1 30) (by omega) (by omega)
    have nf : ¬ NFD σ w := fun z => by obtain ⟨n, z1, z2, z3⟩ := z; exact f10 n z1 z2 z3
    have nf9 := f10
    refine tm_aload_n dX12_nameOf_55 rfl 1 rfl ?_
    refine tm_get (k := 35) (v := .ref (b + 1 + 16)) lay_12 dX12_nameOf_56 (by decide) fl12_63 rfl ?_
    refine tm_aload_n dX12_nameOf_59 rfl 1 rfl ?_
    refine tm_getS (k := 30) (t := σ.1 30) dX12_nameOf_60 (by decide) fl12_268 rfl (rfl) ?_
    have g12 := RG.s hR 30
    refine tm_iald (z := σ.1 30) (v := σ.2.1 35 (σ.1 30)) dX12_nameOf_63 (show mT[16]? = some (35, 0, 6) from rfl) (by omega) (by omega) (by decide) (rfl) ?_
    have g13 := RG.a hR 35 (σ.1 30)
    refine tm_bipush dX12_nameOf_64 (by decide) ?_
    refine tm_icmp_ne (tgt := 77) dX12_nameOf_66 (by decide) ⟨by omega, by omega⟩ ⟨by decide, by decide⟩ (fun h14 => ?_) (fun h14 => ?_)
    · refine tm_aload_n dX12_nameOf_77 rfl 1 rfl ?_
      refine tm_getS (k := 25) (t := σ.1 25) dX12_nameOf_78 (by decide) fl12_255 rfl (rfl) ?_
      have g15 := RG.s hR 25
      refine tm_iconst dX12_nameOf_81 ?_
      refine tm_icmp_ne (tgt := 121) dX12_nameOf_82 (by decide) ⟨by omega, by omega⟩ ⟨by decide, by decide⟩ (fun h16 => ?_) (fun h16 => ?_)
      · refine tm_iconst dX12_nameOf_121 ?_
        exact tm_iret rfl dX12_nameOf_122 (⟨_, rfl, Fr.rfl, hR, PBF.nop hnn (Fr.rfl : Fr [] [] [] σ σ) (by decide) (by decide) (by decide), by omega, by unfold nmP; rw [ifP_t (by omega), ifP_f nf, ifP_f (by omega), ifP_f (by omega)], fun _ => Or.inr ⟨nf9, rfl⟩⟩)
      · refine tm_aload_n dX12_nameOf_85 rfl 1 rfl ?_
        refine tm_get (k := 38) (v := .ref (b + 1 + 19)) lay_12 dX12_nameOf_86 (by decide) fl12_72 rfl ?_
        refine tm_bipush dX12_nameOf_89 (by decide) ?_
        refine tm_aload_n dX12_nameOf_91 rfl 1 rfl ?_
        refine tm_getS (k := 30) (t := σ.1 30) dX12_nameOf_92 (by decide) fl12_268 rfl (rfl) ?_
        have g17 := RG.s hR 30
        refine tm_imul dX12_nameOf_95 ?_
        refine tm_aload_n dX12_nameOf_96 rfl 1 rfl ?_
        refine tm_get (k := 35) (v := .ref (b + 1 + 16)) lay_12 dX12_nameOf_97 (by decide) fl12_63 rfl ?_
        refine tm_aload_n dX12_nameOf_100 rfl 1 rfl ?_
        refine tm_getS (k := 30) (t := σ.1 30) dX12_nameOf_101 (by decide) fl12_268 rfl (rfl) ?_
        have g18 := RG.s hR 30
        refine tm_iald (z := σ.1 30) (v := σ.2.1 35 (σ.1 30)) dX12_nameOf_104 (show mT[16]? = some (35, 0, 6) from rfl) (by omega) (by omega) (by decide) (rfl) ?_
        have g19 := RG.a hR 35 (σ.1 30)
        refine tm_iadd dX12_nameOf_105 ?_
        refine tm_lload_n dX12_nameOf_106 rfl 2 rfl ?_
        refine tm_last (z := (12 * (σ.1 30)) + (σ.2.1 35 (σ.1 30))) (v := w) dX12_nameOf_107 (show mT[19]? = some (38, 3, 72) from rfl) (by decide) (by omega) (by omega) (by decide) ?_
        refine tm_aload_n dX12_nameOf_108 rfl 1 rfl ?_
        refine tm_get (k := 35) (v := .ref (b + 1 + 16)) lay_12 dX12_nameOf_109 (by decide) fl12_63 rfl ?_
        refine tm_aload_n dX12_nameOf_112 rfl 1 rfl ?_
        refine tm_getS (k := 30) (t := σ.1 30) dX12_nameOf_113 (by decide) fl12_268 rfl (rs_J (rfl)) ?_
        have g20 := RG.s hR 30
        refine tm_dup2 dX12_nameOf_116 rfl rfl ?_
        refine tm_iald (z := σ.1 30) (v := σ.2.1 35 (σ.1 30)) dX12_nameOf_117 (show mT[16]? = some (35, 0, 6) from rfl) (by omega) (by omega) (by decide) (ra_J (rfl)) ?_
        have g21 := RG.a hR 35 (σ.1 30)
        refine tm_iconst dX12_nameOf_118 ?_
        refine tm_iadd dX12_nameOf_119 ?_
        refine tm_iast (z := σ.1 30) (v := (σ.2.1 35 (σ.1 30)) + 1) dX12_nameOf_120 (show mT[16]? = some (35, 0, 6) from rfl) (by omega) (by omega) (by decide) ?_
        refine tm_iconst dX12_nameOf_121 ?_
        exact tm_iret rfl dX12_nameOf_122 (⟨_, rfl, ((Fr.rfl.J (by decide)).A (by decide)), ((hR.J).A (by omega)), PBF.name hnn (by omega) (by omega) (by omega), by omega, by unfold nmP; rw [ifP_t (by omega), ifP_f nf, ifP_f (by omega), ifP_t (by omega)], fun _ => Or.inr ⟨nf9, rfl⟩⟩)
    · refine tm_aload_n dX12_nameOf_69 rfl 1 rfl ?_
      refine tm_iconst dX12_nameOf_70 ?_
      refine tm_iload_n dX12_nameOf_71 rfl 3 rfl ?_
      refine tm_callV (M := m_X12_nameOf) (pc := 72) (ix := 274) (M' := m_X12_note) (As := [.int (iI 5), .int (iI p)]) (rest := []) dX12_nameOf_72 ok_X12_note im_X12_note se_X12_note ml12_274 np_X12_note rfl rfl (Nat.le_of_ble_eq_true rfl) (Nat.le_of_ble_eq_true rfl) rfl (c2_X12_note (d) (σ := σ) (f := 5) (p := p) hR (by omega) (by omega)) (fun r22 σ23 hp => ?_)
      obtain ⟨rfl, f25, f26, f27, f28, f29⟩ := hp
      show Tm _ _ 75 b σ23 [(4, .int (iI i11)), (0, .ref b), (1, .long (w)), (3, .int (iI p))] [] _
      refine tm_iconst dX12_nameOf_75 ?_
      exact tm_iret rfl dX12_nameOf_76 (⟨_, rfl, (Fr.rfl.trans (Fr.sub f25 (by decide) (by decide) (by decide))), f26, PBF.of hnn f25 (by decide) (by decide) (by decide) f27, by omega, by unfold nmP; rw [ifP_t (by omega), ifP_f nf, ifP_t (by omega)]; exact f29, fun _ => Or.inr ⟨nf9, rfl⟩⟩)
  · refine tm_iconst dX12_nameOf_7 ?_
    exact tm_iret rfl dX12_nameOf_8 (⟨_, rfl, Fr.rfl, hR, PBF.nop hnn (Fr.rfl : Fr [] [] [] σ σ) (by decide) (by decide) (by decide), by omega, by unfold nmP; rw [ifP_f (by omega)], fun z => absurd z (by omega)⟩)
theorem ml12_258 : Cond.methodLink RX12 258 yX12_isSign ∈ pWW := pw8 (List.mem_of_getElem? (i := 177) rfl) rfl
theorem ml12_265 : Cond.methodLink RX12 265 yX12_advance ∈ pWW := pw8 (List.mem_of_getElem? (i := 51) rfl) rfl
theorem ml12_261 : Cond.methodLink RX12 261 yX12_wrong ∈ pWW := pw8 (List.mem_of_getElem? (i := 161) rfl) rfl
theorem dX12_need_0 : decode cX12_need 0 = .ok (.aload_n 0, 1) := by decide +kernel
theorem dX12_need_1 : decode cX12_need 1 = .ok (.iload_n 1, 1) := by decide +kernel
theorem dX12_need_2 : decode cX12_need 2 = .ok (.invokevirtual 258, 3) := by decide +kernel
theorem dX12_need_5 : decode cX12_need 5 = .ok (.ifCond .ne 8, 3) := by decide +kernel
theorem dX12_need_13 : decode cX12_need 13 = .ok (.aload_n 0, 1) := by decide +kernel
theorem dX12_need_14 : decode cX12_need 14 = .ok (.invokevirtual 265, 3) := by decide +kernel
theorem dX12_need_17 : decode cX12_need 17 = .ok (.iconst 1, 1) := by decide +kernel
theorem dX12_need_18 : decode cX12_need 18 = .ok (.ireturn, 1) := by decide +kernel
theorem dX12_need_8 : decode cX12_need 8 = .ok (.aload_n 0, 1) := by decide +kernel
theorem dX12_need_9 : decode cX12_need 9 = .ok (.invokevirtual 261, 3) := by decide +kernel
theorem dX12_need_12 : decode cX12_need 12 = .ok (.ireturn, 1) := by decide +kernel
set_option maxHeartbeats 4000000 in
set_option maxRecDepth 20000 in
theorem c_X12_need (d : Nat) {b : Nat} {σ : MS} {c : Int} (hR : RG σ) (htl : (0 ≤ σ.1 20 ∧ σ.1 20 ≤ σ.1 21) ∧ σ.1 21 ≤ 1200) (h_c : -2147483648 ≤ c ∧ c ≤ 2147483647) : Tm (d + 6) m_X12_need 0 b σ [(0, .ref b), (1, .int (iI c))] [] (fun ro σ2 => ∃ v : Int, ro = some (.int (iI v)) ∧ ((v = 0 ∨ v = 1)) ∧ (Fr [19, 20, 22, 23, 26, 27] [] [24] σ σ2) ∧ (RG σ2) ∧ (Im v 1 (NDQ σ c σ2)) ∧ (Im v 0 (¬ SG σ c)) ∧ (FLT σ σ2) ∧ (Im v 0 (WRG σ σ2))) := by
  refine tm_aload_n dX12_need_0 rfl 0 rfl ?_
  refine tm_iload_n dX12_need_1 rfl 1 rfl ?_
  refine tm_callV (M := m_X12_need) (pc := 2) (ix := 258) (M' := m_X12_isSign) (As := [.int (iI c)]) (rest := []) dX12_need_2 ok_X12_isSign im_X12_isSign se_X12_isSign ml12_258 np_X12_isSign rfl rfl (Nat.le_of_ble_eq_true rfl) (Nat.le_of_ble_eq_true rfl) rfl (c2_X12_isSign (d + 4) (σ := σ) (c := c) hR (by omega)) (fun r1 σ2 hp => ?_)
  obtain ⟨v3, rfl, rfl, f4, f5, f6⟩ := hp
  show Tm _ _ 5 b σ [(0, .ref b), (1, .int (iI c))] [.int (iI v3)] _
  have nd1 := f5
  have nd0 := f6
  refine tm_if_ne (tgt := 13) dX12_need_5 (by decide) ⟨by omega, by omega⟩ (fun h7 => ?_) (fun h7 => ?_)
  · refine tm_aload_n dX12_need_13 rfl 0 rfl ?_
    refine tm_callV (M := m_X12_need) (pc := 14) (ix := 265) (M' := m_X12_advance) (As := []) (rest := []) dX12_need_14 ok_X12_advance im_X12_advance se_X12_advance ml12_265 np_X12_advance rfl rfl (Nat.le_of_ble_eq_true rfl) (Nat.le_of_ble_eq_true rfl) rfl (c_X12_advance (d) (σ := σ)  hR htl) (fun r8 σ9 hp => ?_)
    obtain ⟨rfl, f11, f12, f13, f14, f15⟩ := hp
    show Tm _ _ 17 b σ9 [(0, .ref b), (1, .int (iI c))] [] _
    refine tm_iconst dX12_need_17 ?_
    exact tm_zret (v := 1) rfl (by decide) dX12_need_18 (⟨_, rfl, by omega, (Fr.rfl.trans (Fr.sub f12 (by decide) (by decide) (by decide))), f13, fun _ => ⟨nd1 (by omega), f11, f14, f15, f12.1 26 (by decide)⟩, fun q => absurd q (by decide), FLT.eq (f12.1 26 (by decide)), fun q => absurd q (by decide)⟩)
  · refine tm_aload_n dX12_need_8 rfl 0 rfl ?_
    refine tm_callV (M := m_X12_need) (pc := 9) (ix := 261) (M' := m_X12_wrong) (As := []) (rest := []) dX12_need_9 ok_X12_wrong im_X12_wrong se_X12_wrong ml12_261 np_X12_wrong rfl rfl (Nat.le_of_ble_eq_true rfl) (Nat.le_of_ble_eq_true rfl) rfl (c_X12_wrong (d + 4) (σ := σ)  hR) (fun r16 σ17 hp => ?_)
    obtain ⟨v18, rfl, f19, f20, f21, f22, f23, f24⟩ := hp
    show Tm _ _ 12 b σ17 [(0, .ref b), (1, .int (iI c))] [.int (iI v18)] _
    exact tm_zret (v := v18) rfl (by omega) dX12_need_12 (⟨_, rfl, by omega, (Fr.rfl.trans (Fr.sub f20 (by decide) (by decide) (by decide))), f21, fun q => absurd q (by omega), fun _ => nd0 (by omega), FLT.wr f23 f24, fun _ => WRG.of f24⟩)
end
section
def PRS (k : Nat) (v : Int) (σ τ : MS) : Prop := (v = 1 → ∀ q, GOM [k] σ q [] [] τ q [] []) ∧ (v = 0 → ∀ q, GOF [k] σ q τ)
def EXS (σ τ : MS) : Prop := RDY τ ∧ PBC 2 σ τ ∧ GTm τ ∧ AC σ τ ∧ τ.1 28 = σ.1 28
theorem RDY.of {n : Int} {σ τ : MS} (h : RDY σ) (e : τ.1 25 = σ.1 25 ∧ τ.1 30 = σ.1 30) (t : TOK τ) (c : PBC n σ τ) (hn : 0 ≤ n) : RDY τ := by
  unfold RDY at *
  unfold PBC at c
  refine ⟨t, ?_⟩
  obtain ⟨-, h⟩ := h
  omega
theorem PBC.adv {σ τ : MS} (f : Fr [19, 20, 22, 23] [] [24] σ τ) (h0 : σ.1 19 < σ.1 20) (p : σ.1 20 ≤ τ.1 19) : PBC 2 σ τ := by
  unfold PBC
  rw [f.1 34 (by decide), f.1 32 (by decide), f.1 31 (by decide), f.1 33 (by decide)]
  omega
def TRm (k0 : Nat) (n : Int) (σ : MS) (ks : List Nat) (τ : MS) (P : List ME) : Prop := PBF σ τ ∧ PBC n σ τ ∧ RDY τ ∧ AC σ τ ∧ ∀ q, GOM [k0] σ q [] ks τ q P []
section TRS
variable {k0 k : Nat} {n : Int} {σ τ υ : MS} {rest new kk : List Nat} {X Pb : List ME}
theorem TRm.start (hrd : RDY σ) (hnn : NN σ) : TRm k0 0 σ [k0] σ [] := ⟨PBF.nop hnn (Fr.rfl : Fr [] [] [] σ σ) (by decide) (by decide) (by decide), PBC.nop (Fr.rfl : Fr [] [] [] σ σ) (by decide), hrd, AC.nil rfl, fun _ => GOM.nop rfl rfl MSE.rfl⟩
theorem TRm.h30 (t : TRm k0 n σ kk τ X) : 0 ≤ σ.1 30 := by
  have a := t.1.2.2.2.2.2.2.2
  have b := t.2.2.1.2.2.1
  omega
theorem TRm.nn (t : TRm k0 n σ kk τ X) : NN τ := t.1.2.2.1
theorem TRm.nxt (t : TRm k0 n σ (k :: rest) τ X) (g : ∀ q, GOM [k] τ q [] new τ q Pb []) : TRm k0 n σ (new ++ rest) τ (Pb ++ X) := ⟨t.1, t.2.1, t.2.2.1, t.2.2.2.1, fun q => (t.2.2.2.2 q).then ((g q).more rest X)⟩
theorem TRm.adv (t : TRm k0 n σ (k :: rest) τ X) (f : Fr [19, 20, 22, 23] [] [24] τ υ) (tok : TOK υ) (p : τ.1 20 ≤ υ.1 19) (hs : τ.1 22 ≠ 0) (g : ∀ q, GOM [k] τ q [] new υ q Pb []) : TRm k0 (n + 2) σ (new ++ rest) υ (Pb ++ X) := by
  have h30 := t.h30
  obtain ⟨t1, t2, t3, t4, t5⟩ := t
  have pb : PBF τ υ := PBF.nop t1.2.2.1 f (by decide) (by decide) (by decide)
  have pc : PBC 2 τ υ := PBC.adv f (t3.1.2.1 hs) p
  exact ⟨t1.trans pb, t2.trans pc, RDY.of t3 ⟨pb.2.2.2.2.2.2.1, pb.2.2.2.2.2.2.2⟩ tok pc (by decide), t4.trans t1 (AC.nil (f.1 34 (by decide))) pb h30, fun q => (t5 q).then ((g q).more rest X)⟩
theorem TRm.sub (t : TRm k0 n σ (k :: rest) τ X) (pb : PBF τ υ) (e : EXS τ υ) (g : ∀ q, GOM [k] τ q [] [] υ q [] []) : TRm k0 (n + 2) σ rest υ X := by
  have h30 := t.h30
  obtain ⟨t1, t2, t3, t4, t5⟩ := t
  exact ⟨t1.trans pb, t2.trans e.2.1, e.1, t4.trans t1 e.2.2.2.1 pb h30, fun q => (t5 q).then ((g q).more rest X)⟩
theorem TRm.keep {ss ks js : List Nat} (t : TRm k0 n σ kk τ X) (f : Fr ss ks js τ υ) (hs : ∀ j ∈ [19, 20, 21, 22, 23, 25, 28, 29, 30, 31, 32, 33, 34], j ∉ ss) (hk : ∀ j ∈ [1, 3, 4, 5, 6, 7, 8], j ∉ ks) (hj : 24 ∉ js) (pb : PBF τ υ) (hr : srt υ = srt τ) (hm : MSE τ υ) : TRm k0 n σ kk υ X := by
  have h30 := t.h30
  obtain ⟨t1, t2, t3, t4, t5⟩ := t
  have e := fun j h => f.1 j (hs j h)
  have pc : PBC 0 τ υ := PBC.nop f (fun j q => hs j (by revert j q; decide))
  refine ⟨t1.trans pb, by have := t2.trans pc; rw [Int.add_zero] at this; exact this, RDY.of t3 ⟨pb.2.2.2.2.2.2.1, pb.2.2.2.2.2.2.2⟩ ?_ pc (by decide), t4.trans t1 (AC.nil (e 34 (by decide))) pb h30, fun q => (t5 q).last (vw_fr f (fun j q => hs j (by revert j q; decide)) (hk 1 (by decide)) hj) hr hm⟩
  unfold TOK
  rw [e 19 (by decide), e 20 (by decide), e 21 (by decide), e 22 (by decide), e 23 (by decide)]
  exact t3.1
theorem TRm.nop {ss ks js : List Nat} (t : TRm k0 n σ kk τ X) (f : Fr ss ks js τ υ) (hs : ∀ j ∈ [19, 20, 21, 22, 23, 25, 26, 27, 28, 29, 30, 31, 32, 33, 34, 39, 40, 43], j ∉ ss) (hk : ∀ j ∈ [1, 3, 4, 5, 6, 7, 8, 35, 36, 37, 45], j ∉ ks) (hj : 24 ∉ js) (hj2 : ∀ j ∈ [38, 44], j ∉ js) : TRm k0 n σ kk υ X :=
  t.keep f (fun j q => hs j (by revert j q; decide)) (fun j q => hk j (by revert j q; decide)) hj (PBF.nop t.nn f (fun j q => hs j (by revert j q; decide)) (fun j q => hk j (by revert j q; decide)) (hj2 38 (by decide))) (srt_fr f (fun j q => hs j (by revert j q; decide)) (fun j q => hk j (by revert j q; decide)) hj2) (MSE.fr f (fun j q => hs j (by revert j q; decide)) (fun j q => hk j (by revert j q; decide)) hj2)
theorem TRm.chg (t : TRm k0 n σ (k :: rest) τ X) (f : Fr [28] [] [] τ υ) (g : ∀ q, GOM [k] τ q [] new υ q Pb []) : TRm k0 n σ (new ++ rest) υ (Pb ++ X) := by
  have h30 := t.h30
  obtain ⟨t1, t2, t3, t4, t5⟩ := t
  have pb : PBF τ υ := PBF.nop t1.2.2.1 f (by decide) (by decide) (by decide)
  have pc : PBC 0 τ υ := PBC.nop f (by decide)
  refine ⟨t1.trans pb, by have := t2.trans pc; rw [Int.add_zero] at this; exact this, RDY.of t3 ⟨pb.2.2.2.2.2.2.1, pb.2.2.2.2.2.2.2⟩ ?_ pc (by decide), t4.trans t1 (AC.nil (f.1 34 (by decide))) pb h30, fun q => (t5 q).then ((g q).more rest X)⟩
  unfold TOK
  rw [f.1 19 (by decide), f.1 20 (by decide), f.1 21 (by decide), f.1 22 (by decide), f.1 23 (by decide)]
  exact t3.1
theorem TRm.join {k ak av : Int} (hk6 : k < 6) (t : TRm k0 n σ (51 :: rest) τ ((0, k, ak, [(av, 0)]) :: X)) (f : Fr [32, 34, 39, 40] [3, 4, 5, 6, 7, 8] [] τ υ) (e : υ.1 34 = τ.1 34 + 1 ∧ υ.1 32 = τ.1 32 + 1 ∧ υ.1 39 = 2 ∧ υ.1 40 = τ.1 32) {gk gw : Int} (eg : gk = τ.1 39 ∧ gw = τ.1 40) (pt9 : PIT τ υ (it2 k (τ.1 32) ak av gk gw)) (o : OFF (PXx τ) τ υ) (a : ACI υ (13 + τ.1 34) (PXx τ)) (hn : 1 ≤ n) (hrd : RDY σ) : TRm k0 (n - 1) σ rest υ X := by
  have h30 := t.h30
  have pt : PIT τ υ (it2 k (τ.1 32) ak av (τ.1 39) (τ.1 40)) := by rw [← eg.1, ← eg.2]; exact pt9
  obtain ⟨t1, t2, t3, t4, t5⟩ := t
  have pb : PBF τ υ := PBF.put t1.2.2.1 f (by decide) (by decide) (by decide) e.1 o
  have pc : PBC (-1) τ υ := by
    unfold PBC
    rw [f.1 19 (by decide), f.1 31 (by decide), f.1 33 (by decide), e.1, e.2.1]
    omega
  have pc2 : PBC (n - 1) σ υ := t2.trans pc
  have p2 := t1.trans pb
  refine ⟨p2, pc2, RDY.of hrd ⟨p2.2.2.2.2.2.2.1, p2.2.2.2.2.2.2.2⟩ ?_ pc2 (by omega), t4.trans t1 (AC.one e.1 (by rw [e.1, show 12 + (τ.1 34 + 1) = 13 + τ.1 34 by omega]; exact a)) pb h30, fun q => (t5 q).then ((u51J hk6 ⟨?_, ?_, sv_fr f (by decide) (by decide), srt_fr f (by decide) (by decide) (by decide)⟩ pt f e.2.1 e.2.2.1 e.2.2.2 : GOM [51] τ q [(0, k, ak, [(av, 0)])] [] υ q [] []).more rest X)⟩
  · unfold TOK
    rw [f.1 19 (by decide), f.1 20 (by decide), f.1 21 (by decide), f.1 22 (by decide), f.1 23 (by decide)]
    exact t3.1
  · unfold tks
    rw [f.1 19 (by decide), f.1 20 (by decide), f.1 22 (by decide), f.1 23 (by decide), f.2.2 24 (by decide)]
  · unfold xs
    rw [f.1 28 (by decide), f.1 29 (by decide), e.1]
theorem TRm.fail (t : TRm k0 n σ (k :: rest) τ X) (pb : PBF τ υ) (g : ∀ q, GOF [k] τ q υ) : PBF σ υ ∧ ∀ q, GOF [k0] σ q υ := ⟨t.1.trans pb, fun q => (t.2.2.2.2 q).fail ((g q).more rest)⟩
theorem TRm.exs (t : TRm k0 n σ [] τ X) (hn : 2 ≤ n) (g : GTm τ) (e : τ.1 28 = σ.1 28) : EXS σ τ := ⟨t.2.2.1, t.2.1.le hn, g, t.2.2.2.1, e⟩
theorem TRm.prs (t : TRm k0 n σ [] τ []) : PRS k0 1 σ τ := ⟨fun _ => t.2.2.2.2, fun q => absurd q (by decide)⟩
theorem TRm.le {m : Int} (t : TRm k0 n σ kk τ X) (h : m ≤ n) : TRm k0 m σ kk τ X := ⟨t.1, t.2.1.le h, t.2.2⟩
end TRS
theorem PRS.no {k : Nat} {σ τ : MS} (h : ∀ q, GOF [k] σ q τ) : PRS k 0 σ τ := ⟨fun q => absurd q (by decide), fun _ => h⟩
theorem GTm.fr {ss ks js : List Nat} {σ τ : MS} (h : GTm σ) (f : Fr ss ks js σ τ) (hs : ∀ k ∈ [34, 39, 40], k ∉ ss) : GTm τ := by
  unfold GTm
  rw [f.1 34 (hs 34 (by decide)), f.1 39 (hs 39 (by decide)), f.1 40 (hs 40 (by decide))]
  exact h
section TRC
variable {k0 k : Nat} {n m : Int} {σ τ υ : MS} {rest new : List Nat} {X Pb : List ME}
theorem TRm.cat (t : TRm k0 n σ (k :: rest) τ X) (u : TRm k m τ new υ Pb) : TRm k0 (n + m) σ (new ++ rest) υ (Pb ++ X) := by
  have h30 := t.h30
  obtain ⟨t1, t2, t3, t4, t5⟩ := t
  obtain ⟨u1, u2, u3, u4, u5⟩ := u
  exact ⟨t1.trans u1, t2.trans u2, u3, t4.trans t1 u4 u1 h30, fun q => (t5 q).then ((u5 q).more rest X)⟩
end TRC
theorem TRm.needy {k0 k : Nat} {n : Int} {σ τ υ : MS} {rest new : List Nat} {X Pb : List ME} (t : TRm k0 n σ (k :: rest) τ X) (f : Fr [19, 20, 22, 23, 26, 27] [] [24] τ υ) (tok : TOK υ) (p : τ.1 20 ≤ υ.1 19) (h26 : υ.1 26 = τ.1 26) (hs : τ.1 22 ≠ 0) (g : ∀ q, GOM [k] τ q [] new υ q Pb []) : TRm k0 (n + 2) σ (new ++ rest) υ (Pb ++ X) := by
  have h30 := t.h30
  obtain ⟨t1, t2, t3, t4, t5⟩ := t
  have pb : PBF τ υ := PBF.of t1.2.2.1 f (by decide) (by decide) (by decide) (FLT.eq h26)
  have pc : PBC 2 τ υ := by
    have h0 := t3.1.2.1 hs
    unfold PBC
    rw [f.1 34 (by decide), f.1 32 (by decide), f.1 31 (by decide), f.1 33 (by decide)]
    omega
  exact ⟨t1.trans pb, t2.trans pc, RDY.of t3 ⟨pb.2.2.2.2.2.2.1, pb.2.2.2.2.2.2.2⟩ tok pc (by decide), t4.trans t1 (AC.nil (f.1 34 (by decide))) pb h30, fun q => (t5 q).then ((g q).more rest X)⟩
theorem TRm.nameadv {k0 : Nat} {n v : Int} {σ τ α β υ : MS} {rest : List Nat} {X : List ME} (t : TRm k0 n σ (1 :: rest) τ X) (nw : NMW τ) (pb : PBF τ α) (f1 : Fr [26, 27] [35] [38] τ α) (e1 : α = nmP (τ.2.2 24 0) (τ.1 19) τ) (f2 : Fr [39, 40] [] [] α β) (a : ADVm β υ) (f3 : Fr [19, 20, 22, 23] [] [24] β υ) (tok : TOK υ) (p : β.1 20 ≤ υ.1 19) (hv : NMK τ (τ.2.2 24 0) v) (gv : β.1 39 = 2 ∧ β.1 40 = v) : TRm k0 (n + 2) σ rest υ X := by
  have h30 := t.h30
  obtain ⟨t1, t2, t3, t4, t5⟩ := t
  have pb2 : PBF α β := PBF.nop pb.2.2.1 f2 (by decide) (by decide) (by decide)
  have pb3 : PBF β υ := PBF.nop pb2.2.2.1 f3 (by decide) (by decide) (by decide)
  have pp := (pb.trans pb2).trans pb3
  have f : Fr [19, 20, 22, 23, 26, 27, 39, 40] [35] [24, 38] τ υ := ((Fr.sub f1 (by decide) (by decide) (by decide)).trans (Fr.sub f2 (by decide) (by decide) (by decide))).trans (Fr.sub f3 (by decide) (by decide) (by decide))
  have e20 : β.1 20 = τ.1 20 := (f2.1 20 (by decide)).trans (f1.1 20 (by decide))
  have esv : sv β = sv τ := (sv_fr f2 (by decide) (by decide)).trans (sv_fr f1 (by decide) (by decide))
  have h0 := t3.1.2.1 (by have := nw.1; omega)
  have pc : PBC 2 τ υ := by
    unfold PBC
    rw [f.1 34 (by decide), f.1 32 (by decide), f.1 31 (by decide), f.1 33 (by decide)]
    omega
  have ex : xs β = xs τ := by
    unfold xs
    rw [f2.1 28 (by decide), f2.1 29 (by decide), f2.1 34 (by decide), f1.1 28 (by decide), f1.1 29 (by decide), f1.1 34 (by decide)]
  refine ⟨t1.trans pp, t2.trans pc, RDY.of t3 ⟨pp.2.2.2.2.2.2.1, pp.2.2.2.2.2.2.2⟩ tok pc (by decide), t4.trans t1 (AC.nil (f.1 34 (by decide))) pp h30, fun q => (t5 q).then ((u1w nw (by rw [a.1, esv, e20]) (a.2.1.trans ex) (a.2.2.1.trans esv) (EFF.name ?_) hv (fun z => PRT.of f (by decide) (by decide) (by decide) (pp.2.1 (by omega)).1 (pp.2.1 (by omega)).2 ((f3.1 39 (by decide)).trans gv.1) ((f3.1 40 (by decide)).trans gv.2))).more rest X)⟩
  rw [a.2.2.2, srt_fr f2 (by decide) (by decide) (by decide), e1]
theorem TRm.numadv {k0 : Nat} {n : Int} {σ τ β υ : MS} {rest : List Nat} {X : List ME} (t : TRm k0 n σ (1 :: rest) τ X) (h22 : τ.1 22 = 3) (f2 : Fr [39, 40] [] [] τ β) (gv : β.1 39 = 1 ∧ β.1 40 = τ.1 23) (a : ADVm β υ) (f3 : Fr [19, 20, 22, 23] [] [24] β υ) (tok : TOK υ) (p : β.1 20 ≤ υ.1 19) : TRm k0 (n + 2) σ rest υ X := by
  have h30 := t.h30
  obtain ⟨t1, t2, t3, t4, t5⟩ := t
  have pb2 : PBF τ β := PBF.nop t1.2.2.1 f2 (by decide) (by decide) (by decide)
  have pb3 : PBF β υ := PBF.nop pb2.2.2.1 f3 (by decide) (by decide) (by decide)
  have pp := pb2.trans pb3
  have f : Fr [19, 20, 22, 23, 39, 40] [] [24] τ υ := (Fr.sub f2 (by decide) (by decide) (by decide)).trans (Fr.sub f3 (by decide) (by decide) (by decide))
  have e20 : β.1 20 = τ.1 20 := f2.1 20 (by decide)
  have esv : sv β = sv τ := sv_fr f2 (by decide) (by decide)
  have h0 := t3.1.2.1 (by omega)
  have pc : PBC 2 τ υ := by
    unfold PBC
    rw [f.1 34 (by decide), f.1 32 (by decide), f.1 31 (by decide), f.1 33 (by decide)]
    omega
  have ex : xs β = xs τ := by
    unfold xs
    rw [f2.1 28 (by decide), f2.1 29 (by decide), f2.1 34 (by decide)]
  exact ⟨t1.trans pp, t2.trans pc, RDY.of t3 ⟨pp.2.2.2.2.2.2.1, pp.2.2.2.2.2.2.2⟩ tok pc (by decide), t4.trans t1 (AC.nil (f.1 34 (by decide))) pp h30, fun q => (t5 q).then ((u1d h22 (by rw [a.1, esv, e20]) (a.2.1.trans ex) (a.2.2.1.trans esv) (a.2.2.2.trans (srt_fr f2 (by decide) (by decide) (by decide))) (PRT.of f (by decide) (by decide) (by decide) (f.2.1 35 (by decide)) (f.2.2 38 (by decide)) ((f3.1 39 (by decide)).trans gv.1) ((f3.1 40 (by decide)).trans gv.2))).more rest X)⟩
end
section
theorem ml12_320 : Cond.methodLink RX12 320 yX12_isName ∈ pWW := pw8 (List.mem_of_getElem? (i := 152) rfl) rfl
theorem ml12_327 : Cond.methodLink RX12 327 yX12_expression ∈ pWW := pw8 (List.mem_of_getElem? (i := 217) rfl) rfl
theorem ml12_330 : Cond.methodLink RX12 330 yX12_need ∈ pWW := pw8 (List.mem_of_getElem? (i := 173) rfl) rfl
theorem ml12_323 : Cond.methodLink RX12 323 yX12_nameOf ∈ pWW := pw8 (List.mem_of_getElem? (i := 185) rfl) rfl
theorem ml12_310 : Cond.methodLink RX12 310 yX12_joins ∈ pWW := pw8 (List.mem_of_getElem? (i := 237) rfl) rfl
theorem dX12_signed_0 : decode cX12_signed 0 = .ok (.aload_n 0, 1) := by decide +kernel
theorem dX12_signed_1 : decode cX12_signed 1 = .ok (.bipush 45, 2) := by decide +kernel
theorem dX12_signed_3 : decode cX12_signed 3 = .ok (.invokevirtual 258, 3) := by decide +kernel
theorem dX12_signed_6 : decode cX12_signed 6 = .ok (.istore_n 1, 1) := by decide +kernel
theorem dX12_signed_7 : decode cX12_signed 7 = .ok (.iload_n 1, 1) := by decide +kernel
theorem dX12_signed_8 : decode cX12_signed 8 = .ok (.ifCond .eq 7, 3) := by decide +kernel
theorem dX12_signed_15 : decode cX12_signed 15 = .ok (.aload_n 0, 1) := by decide +kernel
theorem dX12_signed_16 : decode cX12_signed 16 = .ok (.getfield 226, 3) := by decide +kernel
theorem dX12_signed_19 : decode cX12_signed 19 = .ok (.iconst 3, 1) := by decide +kernel
theorem dX12_signed_20 : decode cX12_signed 20 = .ok (.if_icmp .ne 19, 3) := by decide +kernel
theorem dX12_signed_39 : decode cX12_signed 39 = .ok (.aload_n 0, 1) := by decide +kernel
theorem dX12_signed_40 : decode cX12_signed 40 = .ok (.invokevirtual 320, 3) := by decide +kernel
theorem dX12_signed_43 : decode cX12_signed 43 = .ok (.ifCond .eq 27, 3) := by decide +kernel
theorem dX12_signed_70 : decode cX12_signed 70 = .ok (.aload_n 0, 1) := by decide +kernel
theorem dX12_signed_71 : decode cX12_signed 71 = .ok (.bipush 40, 2) := by decide +kernel
theorem dX12_signed_73 : decode cX12_signed 73 = .ok (.invokevirtual 258, 3) := by decide +kernel
theorem dX12_signed_76 : decode cX12_signed 76 = .ok (.ifCond .eq 25, 3) := by decide +kernel
theorem dX12_signed_101 : decode cX12_signed 101 = .ok (.aload_n 0, 1) := by decide +kernel
theorem dX12_signed_102 : decode cX12_signed 102 = .ok (.invokevirtual 261, 3) := by decide +kernel
theorem dX12_signed_105 : decode cX12_signed 105 = .ok (.ireturn, 1) := by decide +kernel
theorem dX12_signed_79 : decode cX12_signed 79 = .ok (.aload_n 0, 1) := by decide +kernel
theorem dX12_signed_80 : decode cX12_signed 80 = .ok (.invokevirtual 265, 3) := by decide +kernel
theorem dX12_signed_83 : decode cX12_signed 83 = .ok (.aload_n 0, 1) := by decide +kernel
theorem dX12_signed_84 : decode cX12_signed 84 = .ok (.invokevirtual 327, 3) := by decide +kernel
theorem dX12_signed_87 : decode cX12_signed 87 = .ok (.ifCond .eq 12, 3) := by decide +kernel
theorem dX12_signed_99 : decode cX12_signed 99 = .ok (.iconst 0, 1) := by decide +kernel
theorem dX12_signed_100 : decode cX12_signed 100 = .ok (.ireturn, 1) := by decide +kernel
theorem dX12_signed_90 : decode cX12_signed 90 = .ok (.aload_n 0, 1) := by decide +kernel
theorem dX12_signed_91 : decode cX12_signed 91 = .ok (.bipush 41, 2) := by decide +kernel
theorem dX12_signed_93 : decode cX12_signed 93 = .ok (.invokevirtual 330, 3) := by decide +kernel
theorem dX12_signed_96 : decode cX12_signed 96 = .ok (.ifCond .ne 10, 3) := by decide +kernel
theorem dX12_signed_106 : decode cX12_signed 106 = .ok (.iload_n 1, 1) := by decide +kernel
theorem dX12_signed_107 : decode cX12_signed 107 = .ok (.ifCond .eq 18, 3) := by decide +kernel
theorem dX12_signed_125 : decode cX12_signed 125 = .ok (.iconst 1, 1) := by decide +kernel
theorem dX12_signed_126 : decode cX12_signed 126 = .ok (.ireturn, 1) := by decide +kernel
theorem dX12_signed_46 : decode cX12_signed 46 = .ok (.aload_n 0, 1) := by decide +kernel
theorem dX12_signed_47 : decode cX12_signed 47 = .ok (.iconst 2, 1) := by decide +kernel
theorem dX12_signed_48 : decode cX12_signed 48 = .ok (.aload_n 0, 1) := by decide +kernel
theorem dX12_signed_49 : decode cX12_signed 49 = .ok (.aload_n 0, 1) := by decide +kernel
theorem dX12_signed_50 : decode cX12_signed 50 = .ok (.getfield 219, 3) := by decide +kernel
theorem dX12_signed_53 : decode cX12_signed 53 = .ok (.aload_n 0, 1) := by decide +kernel
theorem dX12_signed_54 : decode cX12_signed 54 = .ok (.getfield 216, 3) := by decide +kernel
theorem dX12_signed_57 : decode cX12_signed 57 = .ok (.invokevirtual 323, 3) := by decide +kernel
theorem dX12_signed_60 : decode cX12_signed 60 = .ok (.invokevirtual 301, 3) := by decide +kernel
theorem dX12_signed_63 : decode cX12_signed 63 = .ok (.aload_n 0, 1) := by decide +kernel
theorem dX12_signed_64 : decode cX12_signed 64 = .ok (.invokevirtual 265, 3) := by decide +kernel
theorem dX12_signed_67 : decode cX12_signed 67 = .ok (.goto 39, 3) := by decide +kernel
theorem dX12_signed_23 : decode cX12_signed 23 = .ok (.aload_n 0, 1) := by decide +kernel
theorem dX12_signed_24 : decode cX12_signed 24 = .ok (.iconst 1, 1) := by decide +kernel
theorem dX12_signed_25 : decode cX12_signed 25 = .ok (.aload_n 0, 1) := by decide +kernel
theorem dX12_signed_26 : decode cX12_signed 26 = .ok (.getfield 223, 3) := by decide +kernel
theorem dX12_signed_29 : decode cX12_signed 29 = .ok (.invokevirtual 301, 3) := by decide +kernel
theorem dX12_signed_32 : decode cX12_signed 32 = .ok (.aload_n 0, 1) := by decide +kernel
theorem dX12_signed_33 : decode cX12_signed 33 = .ok (.invokevirtual 265, 3) := by decide +kernel
theorem dX12_signed_36 : decode cX12_signed 36 = .ok (.goto 70, 3) := by decide +kernel
theorem dX12_signed_11 : decode cX12_signed 11 = .ok (.aload_n 0, 1) := by decide +kernel
theorem dX12_signed_12 : decode cX12_signed 12 = .ok (.invokevirtual 265, 3) := by decide +kernel
theorem dX12_signed_110 : decode cX12_signed 110 = .ok (.aload_n 0, 1) := by decide +kernel
theorem dX12_signed_111 : decode cX12_signed 111 = .ok (.iconst 2, 1) := by decide +kernel
theorem dX12_signed_112 : decode cX12_signed 112 = .ok (.iconst 1, 1) := by decide +kernel
theorem dX12_signed_113 : decode cX12_signed 113 = .ok (.iconst 0, 1) := by decide +kernel
theorem dX12_signed_114 : decode cX12_signed 114 = .ok (.aload_n 0, 1) := by decide +kernel
theorem dX12_signed_115 : decode cX12_signed 115 = .ok (.getfield 285, 3) := by decide +kernel
theorem dX12_signed_118 : decode cX12_signed 118 = .ok (.aload_n 0, 1) := by decide +kernel
theorem dX12_signed_119 : decode cX12_signed 119 = .ok (.getfield 288, 3) := by decide +kernel
theorem dX12_signed_122 : decode cX12_signed 122 = .ok (.invokevirtual 310, 3) := by decide +kernel
set_option maxHeartbeats 4000000 in
set_option maxRecDepth 20000 in
theorem c_X12_signed (d : Nat) {b : Nat} {σ : MS} {lv : Nat} (hce : ∀ (d : Nat) {b : Nat} {σ : MS} (hR : RG σ) (hrd : RDY σ) (hnn : NN σ) (h28 : σ.1 28 = 8 - (lv : Int)), Tm (d + 4 * lv + 8) m_X12_expression 0 b σ [(0, .ref b)] [] (fun ro σ2 => ∃ v : Int, ro = some (.int (iI v)) ∧ ((v = 0 ∨ v = 1)) ∧ (Fr [19, 20, 22, 23, 26, 27, 28, 32, 34, 39, 40] [3, 4, 5, 6, 7, 8, 35] [24, 38] σ σ2) ∧ (RG σ2) ∧ (PBF σ σ2) ∧ (Im v 1 (EXS σ σ2)) ∧ (PRS 2 v σ σ2) ∧ (σ2.1 28 = σ.1 28))) (hR : RG σ) (hrd : RDY σ) (hnn : NN σ) (h28 : σ.1 28 = 8 - (lv : Int)) : Tm (d + 4 * lv + 9) m_X12_signed 0 b σ [(0, .ref b)] [] (fun ro σ2 => ∃ v : Int, ro = some (.int (iI v)) ∧ ((v = 0 ∨ v = 1)) ∧ (Fr [19, 20, 22, 23, 26, 27, 28, 32, 34, 39, 40] [3, 4, 5, 6, 7, 8, 35] [24, 38] σ σ2) ∧ (RG σ2) ∧ (PBF σ σ2) ∧ (Im v 1 (EXS σ σ2)) ∧ (PRS 0 v σ σ2) ∧ (σ2.1 28 = σ.1 28)) := by
  have tr0 : TRm 0 0 σ [0] σ [] := TRm.start hrd hnn
  refine tm_aload_n dX12_signed_0 rfl 0 rfl ?_
  refine tm_bipush dX12_signed_1 (by decide) ?_
  refine tm_callV (M := m_X12_signed) (pc := 3) (ix := 258) (M' := m_X12_isSign) (As := [.int (iI 45)]) (rest := []) dX12_signed_3 ok_X12_isSign im_X12_isSign se_X12_isSign ml12_258 np_X12_isSign rfl rfl (Nat.le_of_ble_eq_true rfl) (Nat.le_of_ble_eq_true rfl) rfl (c2_X12_isSign (d + 4 * lv + 7) (σ := σ) (c := 45) hR (by omega)) (fun r1 σ2 hp => ?_)
  obtain ⟨v3, rfl, rfl, f4, f5, f6⟩ := hp
  show Tm _ _ 6 b σ [(0, .ref b)] [.int (iI v3)] _
  have i45 := f5
  have n45_ := f6
  refine tm_istore_n (L' := [(1, .int (iI v3)), (0, .ref b)]) dX12_signed_6 rfl (by decide) rfl ?_
  refine tm_iload_n dX12_signed_7 rfl 0 rfl ?_
  refine tm_if_eq (tgt := 15) dX12_signed_8 (by decide) ⟨by omega, by omega⟩ (fun h7 => ?_) (fun h7 => ?_)
  · have tr1 := tr0.nxt (fun q => u0n (n45_ (by omega)))
    refine tm_aload_n dX12_signed_15 rfl 1 rfl ?_
    refine tm_getS (k := 22) (t := σ.1 22) dX12_signed_16 (by decide) fl12_226 rfl (rfl) ?_
    have g8 := RG.s hR 22
    refine tm_iconst dX12_signed_19 ?_
    refine tm_icmp_ne (tgt := 39) dX12_signed_20 (by decide) ⟨by omega, by omega⟩ ⟨by decide, by decide⟩ (fun h9 => ?_) (fun h9 => ?_)
    · refine tm_aload_n dX12_signed_39 rfl 1 rfl ?_
      refine tm_callV (M := m_X12_signed) (pc := 40) (ix := 320) (M' := m_X12_isName) (As := []) (rest := []) dX12_signed_40 ok_X12_isName im_X12_isName se_X12_isName ml12_320 np_X12_isName rfl rfl (Nat.le_of_ble_eq_true rfl) (Nat.le_of_ble_eq_true rfl) rfl (c2_X12_isName (d + 4 * lv + 7) (σ := σ)  hR) (fun r10 σ11 hp => ?_)
      obtain ⟨v12, rfl, rfl, f13, f14, f15⟩ := hp
      show Tm _ _ 43 b σ [(1, .int (iI v3)), (0, .ref b)] [.int (iI v12)] _
      have inm := f14
      have nnm_ := f15
      refine tm_if_eq (tgt := 70) dX12_signed_43 (by decide) ⟨by omega, by omega⟩ (fun h16 => ?_) (fun h16 => ?_)
      · refine tm_aload_n dX12_signed_70 rfl 1 rfl ?_
        refine tm_bipush dX12_signed_71 (by decide) ?_
        refine tm_callV (M := m_X12_signed) (pc := 73) (ix := 258) (M' := m_X12_isSign) (As := [.int (iI 40)]) (rest := []) dX12_signed_73 ok_X12_isSign im_X12_isSign se_X12_isSign ml12_258 np_X12_isSign rfl rfl (Nat.le_of_ble_eq_true rfl) (Nat.le_of_ble_eq_true rfl) rfl (c2_X12_isSign (d + 4 * lv + 7) (σ := σ) (c := 40) hR (by omega)) (fun r17 σ18 hp => ?_)
        obtain ⟨v19, rfl, rfl, f20, f21, f22⟩ := hp
        show Tm _ _ 76 b σ [(1, .int (iI v3)), (0, .ref b)] [.int (iI v19)] _
        have i40 := f21
        have n40_ := f22
        refine tm_if_eq (tgt := 101) dX12_signed_76 (by decide) ⟨by omega, by omega⟩ (fun h23 => ?_) (fun h23 => ?_)
        · refine tm_aload_n dX12_signed_101 rfl 1 rfl ?_
          refine tm_callV (M := m_X12_signed) (pc := 102) (ix := 261) (M' := m_X12_wrong) (As := []) (rest := []) dX12_signed_102 ok_X12_wrong im_X12_wrong se_X12_wrong ml12_261 np_X12_wrong rfl rfl (Nat.le_of_ble_eq_true rfl) (Nat.le_of_ble_eq_true rfl) rfl (c_X12_wrong (d + 4 * lv + 7) (σ := σ)  hR) (fun r24 σ25 hp => ?_)
          obtain ⟨v26, rfl, f27, f28, f29, f30, f31, f32⟩ := hp
          show Tm _ _ 105 b σ25 [(1, .int (iI v3)), (0, .ref b)] [.int (iI v26)] _
          exact tm_zret (v := v26) rfl (by omega) dX12_signed_105 (⟨_, rfl, by omega, (Fr.rfl.trans (Fr.sub f28 (by decide) (by decide) (by decide))), f29, (tr1.fail (PBF.of tr1.nn f28 (by decide) (by decide) (by decide) (FLT.wr f31 f32)) (fun q => g1f (by omega) (nnm_ (by omega)) (n40_ (by omega)) (WRG.of f32))).1, fun q => absurd q (by omega), by rw [show v26 = 0 from f27]; exact PRS.no (tr1.fail (PBF.of tr1.nn f28 (by decide) (by decide) (by decide) (FLT.wr f31 f32)) (fun q => g1f (by omega) (nnm_ (by omega)) (n40_ (by omega)) (WRG.of f32))).2, rs_F f28 (by decide) (rfl)⟩)
        · refine tm_aload_n dX12_signed_79 rfl 1 rfl ?_
          refine tm_callV (M := m_X12_signed) (pc := 80) (ix := 265) (M' := m_X12_advance) (As := []) (rest := []) dX12_signed_80 ok_X12_advance im_X12_advance se_X12_advance ml12_265 np_X12_advance rfl rfl (Nat.le_of_ble_eq_true rfl) (Nat.le_of_ble_eq_true rfl) rfl (c_X12_advance (d + 4 * lv + 3) (σ := σ)  hR (by have z := tr1.2.2.1.1.1; omega)) (fun r33 σ34 hp => ?_)
          obtain ⟨rfl, f36, f37, f38, f39, f40⟩ := hp
          show Tm _ _ 83 b σ34 [(1, .int (iI v3)), (0, .ref b)] [] _
          have tr2 := tr1.adv f37 f39 f40 (by have z := (i40 (by omega)).1; omega) (fun q => u1p (by omega) (nnm_ (by omega)) (i40 (by omega)) f36 (MSE.fr f37 (by decide) (by decide) (by decide)))
          refine tm_aload_n dX12_signed_83 rfl 1 rfl ?_
          refine tm_callV (M := m_X12_signed) (pc := 84) (ix := 327) (M' := m_X12_expression) (As := []) (rest := []) dX12_signed_84 ok_X12_expression im_X12_expression se_X12_expression ml12_327 np_X12_expression rfl rfl (Nat.le_of_ble_eq_true rfl) (Nat.le_of_ble_eq_true rfl) rfl (hce (d) (σ := σ34)  f38 tr2.2.2.1 tr2.nn (by rw [show σ34.1 28 = σ.1 28 from rs_F f37 (by decide) (rfl)]; exact h28)) (fun r41 σ42 hp => ?_)
          obtain ⟨v43, rfl, f44, f45, f46, f47, f48, f49, f50⟩ := hp
          show Tm _ _ 87 b σ42 [(1, .int (iI v3)), (0, .ref b)] [.int (iI v43)] _
          have xp0 := f44
          have xp1 := f45
          have xp2 := f46
          have xp3 := f47
          have xp4 := f48
          have xp5 := f49
          have xp6 := f50
          have e28x : σ42.1 28 = σ.1 28 := xp6.trans (rs_F f37 (by decide) (rfl) : σ34.1 28 = σ.1 28)
          refine tm_if_eq (tgt := 99) dX12_signed_87 (by decide) ⟨by omega, by omega⟩ (fun h51 => ?_) (fun h51 => ?_)
          · refine tm_iconst dX12_signed_99 ?_
            exact tm_zret (v := 0) rfl (by decide) dX12_signed_100 (⟨_, rfl, by omega, ((Fr.rfl.trans (Fr.sub f37 (by decide) (by decide) (by decide))).trans (Fr.sub f45 (by decide) (by decide) (by decide))), f46, (tr2.fail xp3 (xp5.2 (by omega))).1, fun q => absurd q (by decide), PRS.no (tr2.fail xp3 (xp5.2 (by omega))).2, e28x⟩)
          · have tr3 := tr2.sub xp3 (xp4 (by omega)) (xp5.1 (by omega))
            refine tm_aload_n dX12_signed_90 rfl 1 rfl ?_
            refine tm_bipush dX12_signed_91 (by decide) ?_
            refine tm_callV (M := m_X12_signed) (pc := 93) (ix := 330) (M' := m_X12_need) (As := [.int (iI 41)]) (rest := []) dX12_signed_93 ok_X12_need im_X12_need se_X12_need ml12_330 np_X12_need rfl rfl (Nat.le_of_ble_eq_true rfl) (Nat.le_of_ble_eq_true rfl) rfl (c_X12_need (d + 4 * lv + 2) (σ := σ42) (c := 41) f46 (by have z := tr3.2.2.1.1.1; omega) (by omega)) (fun r52 σ53 hp => ?_)
            obtain ⟨v54, rfl, f55, f56, f57, f58, f59, f60, f61⟩ := hp
            show Tm _ _ 96 b σ53 [(1, .int (iI v3)), (0, .ref b)] [.int (iI v54)] _
            have yn0 := f55
            have yn1 := f56
            have yn2 := f57
            have yn3 := f58
            have yn4 := f59
            have yn5 := f60
            have yn6 := f61
            refine tm_if_ne (tgt := 106) dX12_signed_96 (by decide) ⟨by omega, by omega⟩ (fun h62 => ?_) (fun h62 => ?_)
            · have ynq := yn3 (by omega)
              have tr4 := tr3.needy f56 ynq.2.2.1 ynq.2.2.2.1 ynq.2.2.2.2 (by have := ynq.1.1; omega) (fun q => un_41 ynq.1 ynq.2.1 (MSE.fr f56 (by decide) (by decide) (by decide)))
              have gt : GTm σ53 := (xp4 (by omega)).2.2.1.fr f56 (by decide)
              have gtr := (xp4 (by omega)).2.2.1
              unfold GTm at gtr
              have k34 := f56.1 34 (by decide)
              have e28 : σ53.1 28 = σ.1 28 := by rw [f56.1 28 (by decide)]; exact e28x
              have rdj := tr4.2.2.1.2
              have tkj := tr4.2.2.1.1.1
              refine tm_iload_n dX12_signed_106 rfl 0 rfl ?_
              refine tm_if_eq (tgt := 125) dX12_signed_107 (by decide) ⟨by omega, by omega⟩ (fun h63 => ?_) (fun h63 => ?_)
              · refine tm_iconst dX12_signed_125 ?_
                exact tm_zret (v := 1) rfl (by decide) dX12_signed_126 (⟨_, rfl, by omega, (((Fr.rfl.trans (Fr.sub f37 (by decide) (by decide) (by decide))).trans (Fr.sub f45 (by decide) (by decide) (by decide))).trans (Fr.sub f56 (by decide) (by decide) (by decide))), f57, tr4.1, fun _ => tr4.exs (by decide) gt (e28), tr4.prs, e28⟩)
              · exact absurd h63 (by omega)
            · refine tm_iconst dX12_signed_99 ?_
              exact tm_zret (v := 0) rfl (by decide) dX12_signed_100 (⟨_, rfl, by omega, (((Fr.rfl.trans (Fr.sub f37 (by decide) (by decide) (by decide))).trans (Fr.sub f45 (by decide) (by decide) (by decide))).trans (Fr.sub f56 (by decide) (by decide) (by decide))), f57, (tr3.fail (PBF.of tr3.nn f56 (by decide) (by decide) (by decide) yn5) (fun q => gf_41 (yn4 (by omega)) (yn6 (by omega)))).1, fun q => absurd q (by decide), PRS.no (tr3.fail (PBF.of tr3.nn f56 (by decide) (by decide) (by decide) yn5) (fun q => gf_41 (yn4 (by omega)) (yn6 (by omega)))).2, by rw [f56.1 28 (by decide)]; exact e28x⟩)
      · refine tm_aload_n dX12_signed_46 rfl 1 rfl ?_
        refine tm_iconst dX12_signed_47 ?_
        refine tm_aload_n dX12_signed_48 rfl 1 rfl ?_
        refine tm_aload_n dX12_signed_49 rfl 1 rfl ?_
        refine tm_getW (t := σ.2.2 24 0) dX12_signed_50 fl12_219 (rfl) ?_
        refine tm_aload_n dX12_signed_53 rfl 1 rfl ?_
        refine tm_getS (k := 19) (t := σ.1 19) dX12_signed_54 (by decide) fl12_216 rfl (rfl) ?_
        have g64 := RG.s hR 19
        refine tm_callV (M := m_X12_signed) (pc := 57) (ix := 323) (M' := m_X12_nameOf) (As := [.long (σ.2.2 24 0), .int (iI (σ.1 19))]) (rest := [.int (iI 2), .ref b]) dX12_signed_57 ok_X12_nameOf im_X12_nameOf se_X12_nameOf ml12_323 np_X12_nameOf rfl rfl (Nat.le_of_ble_eq_true rfl) (Nat.le_of_ble_eq_true rfl) rfl (c_X12_nameOf (d + 4 * lv + 6) (σ := σ) (w := σ.2.2 24 0) (p := σ.1 19) hR tr1.nn (by have z := tr1.2.2.1.2.2.1; omega) (by omega)) (fun r65 σ66 hp => ?_)
        obtain ⟨v67, rfl, f68, f69, f70, f71, f72, f73⟩ := hp
        show Tm _ _ 60 b σ66 [(1, .int (iI v3)), (0, .ref b)] [.int (iI v67), .int (iI 2), .ref b] _
        have nv := f71
        have n20 : σ66.1 20 = _ := f68.1 20 (by decide)
        have n21 : σ66.1 21 = _ := f68.1 21 (by decide)
        refine tm_callV (M := m_X12_signed) (pc := 60) (ix := 301) (M' := m_X12_give) (As := [.int (iI 2), .int (iI v67)]) (rest := []) dX12_signed_60 ok_X12_give im_X12_give se_X12_give ml12_301 np_X12_give rfl rfl (Nat.le_of_ble_eq_true rfl) (Nat.le_of_ble_eq_true rfl) rfl (c2_X12_give (d + 4 * lv + 7) (σ := σ66) (k := 2) (w := v67) f69 (by omega) (by omega)) (fun r74 σ75 hp => ?_)
        obtain ⟨rfl, f77, f78, f79⟩ := hp
        show Tm _ _ 63 b σ75 [(1, .int (iI v3)), (0, .ref b)] [] _
        have gv := f79
        have n20b : σ75.1 20 = _ := f77.1 20 (by decide)
        have n21b : σ75.1 21 = _ := f77.1 21 (by decide)
        have tk9 := tr1.2.2.1.1.1
        refine tm_aload_n dX12_signed_63 rfl 1 rfl ?_
        refine tm_callV (M := m_X12_signed) (pc := 64) (ix := 265) (M' := m_X12_advance) (As := []) (rest := []) dX12_signed_64 ok_X12_advance im_X12_advance se_X12_advance ml12_265 np_X12_advance rfl rfl (Nat.le_of_ble_eq_true rfl) (Nat.le_of_ble_eq_true rfl) rfl (c_X12_advance (d + 4 * lv + 3) (σ := σ75)  f78 (by omega)) (fun r80 σ81 hp => ?_)
        obtain ⟨rfl, f83, f84, f85, f86, f87⟩ := hp
        show Tm _ _ 67 b σ81 [(1, .int (iI v3)), (0, .ref b)] [] _
        have tr5 := tr1.nameadv (inm (by omega)) f70 f68 f72 f77 f83 f84 f86 f87 f73 gv
        have rdg := tr5.2.2.1
        unfold RDY at rdg
        have gt : GTm σ81 := by unfold GTm; rw [f84.1 39 (by decide), f84.1 40 (by decide), gv.1, gv.2]; exact ⟨Or.inr rfl, fun _ => by omega⟩
        have e28 : σ81.1 28 = σ.1 28 := rs_F f84 (by decide) (rs_F f77 (by decide) (rs_F f68 (by decide) (rfl)))
        refine tm_goto (tgt := 106) dX12_signed_67 (by decide) ?_
        have rdj := tr5.2.2.1.2
        have tkj := tr5.2.2.1.1.1
        refine tm_iload_n dX12_signed_106 rfl 0 rfl ?_
        refine tm_if_eq (tgt := 125) dX12_signed_107 (by decide) ⟨by omega, by omega⟩ (fun h88 => ?_) (fun h88 => ?_)
        · refine tm_iconst dX12_signed_125 ?_
          exact tm_zret (v := 1) rfl (by decide) dX12_signed_126 (⟨_, rfl, by omega, (((Fr.rfl.trans (Fr.sub f68 (by decide) (by decide) (by decide))).trans (Fr.sub f77 (by decide) (by decide) (by decide))).trans (Fr.sub f84 (by decide) (by decide) (by decide))), f85, tr5.1, fun _ => tr5.exs (by decide) gt (e28), tr5.prs, e28⟩)
        · exact absurd h88 (by omega)
    · refine tm_aload_n dX12_signed_23 rfl 1 rfl ?_
      refine tm_iconst dX12_signed_24 ?_
      refine tm_aload_n dX12_signed_25 rfl 1 rfl ?_
      refine tm_getS (k := 23) (t := σ.1 23) dX12_signed_26 (by decide) fl12_223 rfl (rfl) ?_
      have g89 := RG.s hR 23
      refine tm_callV (M := m_X12_signed) (pc := 29) (ix := 301) (M' := m_X12_give) (As := [.int (iI 1), .int (iI (σ.1 23))]) (rest := []) dX12_signed_29 ok_X12_give im_X12_give se_X12_give ml12_301 np_X12_give rfl rfl (Nat.le_of_ble_eq_true rfl) (Nat.le_of_ble_eq_true rfl) rfl (c2_X12_give (d + 4 * lv + 7) (σ := σ) (k := 1) (w := σ.1 23) hR (by omega) (by omega)) (fun r90 σ91 hp => ?_)
      obtain ⟨rfl, f93, f94, f95⟩ := hp
      show Tm _ _ 32 b σ91 [(1, .int (iI v3)), (0, .ref b)] [] _
      have gv := f95
      have n20 : σ91.1 20 = _ := f93.1 20 (by decide)
      have n21 : σ91.1 21 = _ := f93.1 21 (by decide)
      have tk9 := tr1.2.2.1.1.1
      refine tm_aload_n dX12_signed_32 rfl 1 rfl ?_
      refine tm_callV (M := m_X12_signed) (pc := 33) (ix := 265) (M' := m_X12_advance) (As := []) (rest := []) dX12_signed_33 ok_X12_advance im_X12_advance se_X12_advance ml12_265 np_X12_advance rfl rfl (Nat.le_of_ble_eq_true rfl) (Nat.le_of_ble_eq_true rfl) rfl (c_X12_advance (d + 4 * lv + 3) (σ := σ91)  f94 (by omega)) (fun r96 σ97 hp => ?_)
      obtain ⟨rfl, f99, f100, f101, f102, f103⟩ := hp
      show Tm _ _ 36 b σ97 [(1, .int (iI v3)), (0, .ref b)] [] _
      have tr6 := tr1.numadv (by omega) f93 gv f99 f100 f102 f103
      have gt : GTm σ97 := by unfold GTm; rw [f100.1 39 (by decide), f100.1 40 (by decide), gv.1]; exact ⟨Or.inl rfl, fun q => absurd q (by decide)⟩
      have e28 : σ97.1 28 = σ.1 28 := rs_F f100 (by decide) (rs_F f93 (by decide) (rfl))
      refine tm_goto (tgt := 106) dX12_signed_36 (by decide) ?_
      have rdj := tr6.2.2.1.2
      have tkj := tr6.2.2.1.1.1
      refine tm_iload_n dX12_signed_106 rfl 0 rfl ?_
      refine tm_if_eq (tgt := 125) dX12_signed_107 (by decide) ⟨by omega, by omega⟩ (fun h104 => ?_) (fun h104 => ?_)
      · refine tm_iconst dX12_signed_125 ?_
        exact tm_zret (v := 1) rfl (by decide) dX12_signed_126 (⟨_, rfl, by omega, ((Fr.rfl.trans (Fr.sub f93 (by decide) (by decide) (by decide))).trans (Fr.sub f100 (by decide) (by decide) (by decide))), f101, tr6.1, fun _ => tr6.exs (by decide) gt (e28), tr6.prs, e28⟩)
      · exact absurd h104 (by omega)
  · refine tm_aload_n dX12_signed_11 rfl 1 rfl ?_
    refine tm_callV (M := m_X12_signed) (pc := 12) (ix := 265) (M' := m_X12_advance) (As := []) (rest := []) dX12_signed_12 ok_X12_advance im_X12_advance se_X12_advance ml12_265 np_X12_advance rfl rfl (Nat.le_of_ble_eq_true rfl) (Nat.le_of_ble_eq_true rfl) rfl (c_X12_advance (d + 4 * lv + 3) (σ := σ)  hR (by have z := tr0.2.2.1.1.1; omega)) (fun r105 σ106 hp => ?_)
    obtain ⟨rfl, f108, f109, f110, f111, f112⟩ := hp
    show Tm _ _ 15 b σ106 [(1, .int (iI v3)), (0, .ref b)] [] _
    have tr7 := tr0.adv f109 f111 f112 (by have z := (i45 (by omega)).1; omega) (fun q => u0m (i45 (by omega)) f108 (MSE.fr f109 (by decide) (by decide) (by decide)))
    refine tm_aload_n dX12_signed_15 rfl 1 rfl ?_
    refine tm_getS (k := 22) (t := σ106.1 22) dX12_signed_16 (by decide) fl12_226 rfl (rfl) ?_
    have g113 := RG.s f110 22
    refine tm_iconst dX12_signed_19 ?_
    refine tm_icmp_ne (tgt := 39) dX12_signed_20 (by decide) ⟨by omega, by omega⟩ ⟨by decide, by decide⟩ (fun h114 => ?_) (fun h114 => ?_)
    · refine tm_aload_n dX12_signed_39 rfl 1 rfl ?_
      refine tm_callV (M := m_X12_signed) (pc := 40) (ix := 320) (M' := m_X12_isName) (As := []) (rest := []) dX12_signed_40 ok_X12_isName im_X12_isName se_X12_isName ml12_320 np_X12_isName rfl rfl (Nat.le_of_ble_eq_true rfl) (Nat.le_of_ble_eq_true rfl) rfl (c2_X12_isName (d + 4 * lv + 7) (σ := σ106)  f110) (fun r115 σ116 hp => ?_)
      obtain ⟨v117, rfl, rfl, f118, f119, f120⟩ := hp
      show Tm _ _ 43 b σ106 [(1, .int (iI v3)), (0, .ref b)] [.int (iI v117)] _
      have inm := f119
      have nnm_ := f120
      refine tm_if_eq (tgt := 70) dX12_signed_43 (by decide) ⟨by omega, by omega⟩ (fun h121 => ?_) (fun h121 => ?_)
      · refine tm_aload_n dX12_signed_70 rfl 1 rfl ?_
        refine tm_bipush dX12_signed_71 (by decide) ?_
        refine tm_callV (M := m_X12_signed) (pc := 73) (ix := 258) (M' := m_X12_isSign) (As := [.int (iI 40)]) (rest := []) dX12_signed_73 ok_X12_isSign im_X12_isSign se_X12_isSign ml12_258 np_X12_isSign rfl rfl (Nat.le_of_ble_eq_true rfl) (Nat.le_of_ble_eq_true rfl) rfl (c2_X12_isSign (d + 4 * lv + 7) (σ := σ106) (c := 40) f110 (by omega)) (fun r122 σ123 hp => ?_)
        obtain ⟨v124, rfl, rfl, f125, f126, f127⟩ := hp
        show Tm _ _ 76 b σ106 [(1, .int (iI v3)), (0, .ref b)] [.int (iI v124)] _
        have i40 := f126
        have n40_ := f127
        refine tm_if_eq (tgt := 101) dX12_signed_76 (by decide) ⟨by omega, by omega⟩ (fun h128 => ?_) (fun h128 => ?_)
        · refine tm_aload_n dX12_signed_101 rfl 1 rfl ?_
          refine tm_callV (M := m_X12_signed) (pc := 102) (ix := 261) (M' := m_X12_wrong) (As := []) (rest := []) dX12_signed_102 ok_X12_wrong im_X12_wrong se_X12_wrong ml12_261 np_X12_wrong rfl rfl (Nat.le_of_ble_eq_true rfl) (Nat.le_of_ble_eq_true rfl) rfl (c_X12_wrong (d + 4 * lv + 7) (σ := σ106)  f110) (fun r129 σ130 hp => ?_)
          obtain ⟨v131, rfl, f132, f133, f134, f135, f136, f137⟩ := hp
          show Tm _ _ 105 b σ130 [(1, .int (iI v3)), (0, .ref b)] [.int (iI v131)] _
          exact tm_zret (v := v131) rfl (by omega) dX12_signed_105 (⟨_, rfl, by omega, ((Fr.rfl.trans (Fr.sub f109 (by decide) (by decide) (by decide))).trans (Fr.sub f133 (by decide) (by decide) (by decide))), f134, (tr7.fail (PBF.of tr7.nn f133 (by decide) (by decide) (by decide) (FLT.wr f136 f137)) (fun q => g1f (by omega) (nnm_ (by omega)) (n40_ (by omega)) (WRG.of f137))).1, fun q => absurd q (by omega), by rw [show v131 = 0 from f132]; exact PRS.no (tr7.fail (PBF.of tr7.nn f133 (by decide) (by decide) (by decide) (FLT.wr f136 f137)) (fun q => g1f (by omega) (nnm_ (by omega)) (n40_ (by omega)) (WRG.of f137))).2, rs_F f133 (by decide) (rs_F f109 (by decide) (rfl))⟩)
        · refine tm_aload_n dX12_signed_79 rfl 1 rfl ?_
          refine tm_callV (M := m_X12_signed) (pc := 80) (ix := 265) (M' := m_X12_advance) (As := []) (rest := []) dX12_signed_80 ok_X12_advance im_X12_advance se_X12_advance ml12_265 np_X12_advance rfl rfl (Nat.le_of_ble_eq_true rfl) (Nat.le_of_ble_eq_true rfl) rfl (c_X12_advance (d + 4 * lv + 3) (σ := σ106)  f110 (by have z := tr7.2.2.1.1.1; omega)) (fun r138 σ139 hp => ?_)
          obtain ⟨rfl, f141, f142, f143, f144, f145⟩ := hp
          show Tm _ _ 83 b σ139 [(1, .int (iI v3)), (0, .ref b)] [] _
          have tr8 := tr7.adv f142 f144 f145 (by have z := (i40 (by omega)).1; omega) (fun q => u1p (by omega) (nnm_ (by omega)) (i40 (by omega)) f141 (MSE.fr f142 (by decide) (by decide) (by decide)))
          refine tm_aload_n dX12_signed_83 rfl 1 rfl ?_
          refine tm_callV (M := m_X12_signed) (pc := 84) (ix := 327) (M' := m_X12_expression) (As := []) (rest := []) dX12_signed_84 ok_X12_expression im_X12_expression se_X12_expression ml12_327 np_X12_expression rfl rfl (Nat.le_of_ble_eq_true rfl) (Nat.le_of_ble_eq_true rfl) rfl (hce (d) (σ := σ139)  f143 tr8.2.2.1 tr8.nn (by rw [show σ139.1 28 = σ.1 28 from rs_F f142 (by decide) (rs_F f109 (by decide) (rfl))]; exact h28)) (fun r146 σ147 hp => ?_)
          obtain ⟨v148, rfl, f149, f150, f151, f152, f153, f154, f155⟩ := hp
          show Tm _ _ 87 b σ147 [(1, .int (iI v3)), (0, .ref b)] [.int (iI v148)] _
          have xp0 := f149
          have xp1 := f150
          have xp2 := f151
          have xp3 := f152
          have xp4 := f153
          have xp5 := f154
          have xp6 := f155
          have e28x : σ147.1 28 = σ.1 28 := xp6.trans (rs_F f142 (by decide) (rs_F f109 (by decide) (rfl)) : σ139.1 28 = σ.1 28)
          refine tm_if_eq (tgt := 99) dX12_signed_87 (by decide) ⟨by omega, by omega⟩ (fun h156 => ?_) (fun h156 => ?_)
          · refine tm_iconst dX12_signed_99 ?_
            exact tm_zret (v := 0) rfl (by decide) dX12_signed_100 (⟨_, rfl, by omega, (((Fr.rfl.trans (Fr.sub f109 (by decide) (by decide) (by decide))).trans (Fr.sub f142 (by decide) (by decide) (by decide))).trans (Fr.sub f150 (by decide) (by decide) (by decide))), f151, (tr8.fail xp3 (xp5.2 (by omega))).1, fun q => absurd q (by decide), PRS.no (tr8.fail xp3 (xp5.2 (by omega))).2, e28x⟩)
          · have tr9 := tr8.sub xp3 (xp4 (by omega)) (xp5.1 (by omega))
            refine tm_aload_n dX12_signed_90 rfl 1 rfl ?_
            refine tm_bipush dX12_signed_91 (by decide) ?_
            refine tm_callV (M := m_X12_signed) (pc := 93) (ix := 330) (M' := m_X12_need) (As := [.int (iI 41)]) (rest := []) dX12_signed_93 ok_X12_need im_X12_need se_X12_need ml12_330 np_X12_need rfl rfl (Nat.le_of_ble_eq_true rfl) (Nat.le_of_ble_eq_true rfl) rfl (c_X12_need (d + 4 * lv + 2) (σ := σ147) (c := 41) f151 (by have z := tr9.2.2.1.1.1; omega) (by omega)) (fun r157 σ158 hp => ?_)
            obtain ⟨v159, rfl, f160, f161, f162, f163, f164, f165, f166⟩ := hp
            show Tm _ _ 96 b σ158 [(1, .int (iI v3)), (0, .ref b)] [.int (iI v159)] _
            have yn0 := f160
            have yn1 := f161
            have yn2 := f162
            have yn3 := f163
            have yn4 := f164
            have yn5 := f165
            have yn6 := f166
            refine tm_if_ne (tgt := 106) dX12_signed_96 (by decide) ⟨by omega, by omega⟩ (fun h167 => ?_) (fun h167 => ?_)
            · have ynq := yn3 (by omega)
              have tr10 := tr9.needy f161 ynq.2.2.1 ynq.2.2.2.1 ynq.2.2.2.2 (by have := ynq.1.1; omega) (fun q => un_41 ynq.1 ynq.2.1 (MSE.fr f161 (by decide) (by decide) (by decide)))
              have gt : GTm σ158 := (xp4 (by omega)).2.2.1.fr f161 (by decide)
              have gtr := (xp4 (by omega)).2.2.1
              unfold GTm at gtr
              have k34 := f161.1 34 (by decide)
              have e28 : σ158.1 28 = σ.1 28 := by rw [f161.1 28 (by decide)]; exact e28x
              have rdj := tr10.2.2.1.2
              have tkj := tr10.2.2.1.1.1
              refine tm_iload_n dX12_signed_106 rfl 0 rfl ?_
              refine tm_if_eq (tgt := 125) dX12_signed_107 (by decide) ⟨by omega, by omega⟩ (fun h168 => ?_) (fun h168 => ?_)
              · exact absurd h168 (by omega)
              · refine tm_aload_n dX12_signed_110 rfl 1 rfl ?_
                refine tm_iconst dX12_signed_111 ?_
                refine tm_iconst dX12_signed_112 ?_
                refine tm_iconst dX12_signed_113 ?_
                refine tm_aload_n dX12_signed_114 rfl 1 rfl ?_
                refine tm_getS (k := 39) (t := σ147.1 39) dX12_signed_115 (by decide) fl12_285 rfl (rs_F f161 (by decide) (rfl)) ?_
                have g169 := RG.s f151 39
                refine tm_aload_n dX12_signed_118 rfl 1 rfl ?_
                refine tm_getS (k := 40) (t := σ147.1 40) dX12_signed_119 (by decide) fl12_288 rfl (rs_F f161 (by decide) (rfl)) ?_
                have g170 := RG.s f151 40
                refine tm_callV (M := m_X12_signed) (pc := 122) (ix := 310) (M' := m_X12_joins) (As := [.int (iI 2), .int (iI 1), .int (iI 0), .int (iI (σ147.1 39)), .int (iI (σ147.1 40))]) (rest := []) dX12_signed_122 ok_X12_joins im_X12_joins se_X12_joins ml12_310 np_X12_joins rfl rfl (Nat.le_of_ble_eq_true rfl) (Nat.le_of_ble_eq_true rfl) rfl (c_X12_joins (d + 4 * lv + 5) (σ := σ158) (k := 2) (ak := 1) (a := 0) (bk := σ147.1 39) (c := σ147.1 40) f162 (by omega) (by decide) (by omega) (by have z := gt; unfold GTm at z; omega) (by omega) (by omega) (by omega)) (fun r171 σ172 hp => ?_)
                obtain ⟨rfl, f174, f175, f176, f177, f178, f179⟩ := hp
                show Tm _ _ 125 b σ172 [(1, .int (iI v3)), (0, .ref b)] [] _
                have tr11 := tr10.join (by decide) f174 f176 ⟨Eq.symm (rs_F f161 (by decide) (rfl)), Eq.symm (rs_F f161 (by decide) (rfl))⟩ f179 f177 f178 (by decide) hrd
                have gtj : GTm σ172 := by unfold GTm; rw [f176.2.2.1, f176.2.2.2, f176.1]; exact ⟨Or.inr rfl, fun _ => by omega⟩
                refine tm_iconst dX12_signed_125 ?_
                exact tm_zret (v := 1) rfl (by decide) dX12_signed_126 (⟨_, rfl, by omega, (((((Fr.rfl.trans (Fr.sub f109 (by decide) (by decide) (by decide))).trans (Fr.sub f142 (by decide) (by decide) (by decide))).trans (Fr.sub f150 (by decide) (by decide) (by decide))).trans (Fr.sub f161 (by decide) (by decide) (by decide))).trans (Fr.sub f174 (by decide) (by decide) (by decide))), f175, tr11.1, fun _ => tr11.exs (by decide) gtj (by rw [f174.1 28 (by decide)]; exact e28), tr11.prs, by rw [f174.1 28 (by decide)]; exact e28⟩)
            · refine tm_iconst dX12_signed_99 ?_
              exact tm_zret (v := 0) rfl (by decide) dX12_signed_100 (⟨_, rfl, by omega, ((((Fr.rfl.trans (Fr.sub f109 (by decide) (by decide) (by decide))).trans (Fr.sub f142 (by decide) (by decide) (by decide))).trans (Fr.sub f150 (by decide) (by decide) (by decide))).trans (Fr.sub f161 (by decide) (by decide) (by decide))), f162, (tr9.fail (PBF.of tr9.nn f161 (by decide) (by decide) (by decide) yn5) (fun q => gf_41 (yn4 (by omega)) (yn6 (by omega)))).1, fun q => absurd q (by decide), PRS.no (tr9.fail (PBF.of tr9.nn f161 (by decide) (by decide) (by decide) yn5) (fun q => gf_41 (yn4 (by omega)) (yn6 (by omega)))).2, by rw [f161.1 28 (by decide)]; exact e28x⟩)
      · refine tm_aload_n dX12_signed_46 rfl 1 rfl ?_
        refine tm_iconst dX12_signed_47 ?_
        refine tm_aload_n dX12_signed_48 rfl 1 rfl ?_
        refine tm_aload_n dX12_signed_49 rfl 1 rfl ?_
        refine tm_getW (t := σ106.2.2 24 0) dX12_signed_50 fl12_219 (rfl) ?_
        refine tm_aload_n dX12_signed_53 rfl 1 rfl ?_
        refine tm_getS (k := 19) (t := σ106.1 19) dX12_signed_54 (by decide) fl12_216 rfl (rfl) ?_
        have g180 := RG.s f110 19
        refine tm_callV (M := m_X12_signed) (pc := 57) (ix := 323) (M' := m_X12_nameOf) (As := [.long (σ106.2.2 24 0), .int (iI (σ106.1 19))]) (rest := [.int (iI 2), .ref b]) dX12_signed_57 ok_X12_nameOf im_X12_nameOf se_X12_nameOf ml12_323 np_X12_nameOf rfl rfl (Nat.le_of_ble_eq_true rfl) (Nat.le_of_ble_eq_true rfl) rfl (c_X12_nameOf (d + 4 * lv + 6) (σ := σ106) (w := σ106.2.2 24 0) (p := σ106.1 19) f110 tr7.nn (by have z := tr7.2.2.1.2.2.1; omega) (by omega)) (fun r181 σ182 hp => ?_)
        obtain ⟨v183, rfl, f184, f185, f186, f187, f188, f189⟩ := hp
        show Tm _ _ 60 b σ182 [(1, .int (iI v3)), (0, .ref b)] [.int (iI v183), .int (iI 2), .ref b] _
        have nv := f187
        have n20 : σ182.1 20 = _ := f184.1 20 (by decide)
        have n21 : σ182.1 21 = _ := f184.1 21 (by decide)
        refine tm_callV (M := m_X12_signed) (pc := 60) (ix := 301) (M' := m_X12_give) (As := [.int (iI 2), .int (iI v183)]) (rest := []) dX12_signed_60 ok_X12_give im_X12_give se_X12_give ml12_301 np_X12_give rfl rfl (Nat.le_of_ble_eq_true rfl) (Nat.le_of_ble_eq_true rfl) rfl (c2_X12_give (d + 4 * lv + 7) (σ := σ182) (k := 2) (w := v183) f185 (by omega) (by omega)) (fun r190 σ191 hp => ?_)
        obtain ⟨rfl, f193, f194, f195⟩ := hp
        show Tm _ _ 63 b σ191 [(1, .int (iI v3)), (0, .ref b)] [] _
        have gv := f195
        have n20b : σ191.1 20 = _ := f193.1 20 (by decide)
        have n21b : σ191.1 21 = _ := f193.1 21 (by decide)
        have tk9 := tr7.2.2.1.1.1
        refine tm_aload_n dX12_signed_63 rfl 1 rfl ?_
        refine tm_callV (M := m_X12_signed) (pc := 64) (ix := 265) (M' := m_X12_advance) (As := []) (rest := []) dX12_signed_64 ok_X12_advance im_X12_advance se_X12_advance ml12_265 np_X12_advance rfl rfl (Nat.le_of_ble_eq_true rfl) (Nat.le_of_ble_eq_true rfl) rfl (c_X12_advance (d + 4 * lv + 3) (σ := σ191)  f194 (by omega)) (fun r196 σ197 hp => ?_)
        obtain ⟨rfl, f199, f200, f201, f202, f203⟩ := hp
        show Tm _ _ 67 b σ197 [(1, .int (iI v3)), (0, .ref b)] [] _
        have tr12 := tr7.nameadv (inm (by omega)) f186 f184 f188 f193 f199 f200 f202 f203 f189 gv
        have rdg := tr12.2.2.1
        unfold RDY at rdg
        have gt : GTm σ197 := by unfold GTm; rw [f200.1 39 (by decide), f200.1 40 (by decide), gv.1, gv.2]; exact ⟨Or.inr rfl, fun _ => by omega⟩
        have e28 : σ197.1 28 = σ.1 28 := rs_F f200 (by decide) (rs_F f193 (by decide) (rs_F f184 (by decide) (rs_F f109 (by decide) (rfl))))
        refine tm_goto (tgt := 106) dX12_signed_67 (by decide) ?_
        have rdj := tr12.2.2.1.2
        have tkj := tr12.2.2.1.1.1
        refine tm_iload_n dX12_signed_106 rfl 0 rfl ?_
        refine tm_if_eq (tgt := 125) dX12_signed_107 (by decide) ⟨by omega, by omega⟩ (fun h204 => ?_) (fun h204 => ?_)
        · exact absurd h204 (by omega)
        · refine tm_aload_n dX12_signed_110 rfl 1 rfl ?_
          refine tm_iconst dX12_signed_111 ?_
          refine tm_iconst dX12_signed_112 ?_
          refine tm_iconst dX12_signed_113 ?_
          refine tm_aload_n dX12_signed_114 rfl 1 rfl ?_
          refine tm_getS (k := 39) (t := σ191.1 39) dX12_signed_115 (by decide) fl12_285 rfl (rs_F f200 (by decide) (rfl)) ?_
          have g205 := RG.s f194 39
          refine tm_aload_n dX12_signed_118 rfl 1 rfl ?_
          refine tm_getS (k := 40) (t := σ191.1 40) dX12_signed_119 (by decide) fl12_288 rfl (rs_F f200 (by decide) (rfl)) ?_
          have g206 := RG.s f194 40
          refine tm_callV (M := m_X12_signed) (pc := 122) (ix := 310) (M' := m_X12_joins) (As := [.int (iI 2), .int (iI 1), .int (iI 0), .int (iI (σ191.1 39)), .int (iI (σ191.1 40))]) (rest := []) dX12_signed_122 ok_X12_joins im_X12_joins se_X12_joins ml12_310 np_X12_joins rfl rfl (Nat.le_of_ble_eq_true rfl) (Nat.le_of_ble_eq_true rfl) rfl (c_X12_joins (d + 4 * lv + 5) (σ := σ197) (k := 2) (ak := 1) (a := 0) (bk := σ191.1 39) (c := σ191.1 40) f201 (by omega) (by decide) (by omega) (by have z := gt; unfold GTm at z; omega) (by omega) (by omega) (by omega)) (fun r207 σ208 hp => ?_)
          obtain ⟨rfl, f210, f211, f212, f213, f214, f215⟩ := hp
          show Tm _ _ 125 b σ208 [(1, .int (iI v3)), (0, .ref b)] [] _
          have tr13 := tr12.join (by decide) f210 f212 ⟨Eq.symm (rs_F f200 (by decide) (rfl)), Eq.symm (rs_F f200 (by decide) (rfl))⟩ f215 f213 f214 (by decide) hrd
          have gtj : GTm σ208 := by unfold GTm; rw [f212.2.2.1, f212.2.2.2, f212.1]; exact ⟨Or.inr rfl, fun _ => by omega⟩
          refine tm_iconst dX12_signed_125 ?_
          exact tm_zret (v := 1) rfl (by decide) dX12_signed_126 (⟨_, rfl, by omega, (((((Fr.rfl.trans (Fr.sub f109 (by decide) (by decide) (by decide))).trans (Fr.sub f184 (by decide) (by decide) (by decide))).trans (Fr.sub f193 (by decide) (by decide) (by decide))).trans (Fr.sub f200 (by decide) (by decide) (by decide))).trans (Fr.sub f210 (by decide) (by decide) (by decide))), f211, tr13.1, fun _ => tr13.exs (by decide) gtj (by rw [f210.1 28 (by decide)]; exact e28), tr13.prs, by rw [f210.1 28 (by decide)]; exact e28⟩)
    · refine tm_aload_n dX12_signed_23 rfl 1 rfl ?_
      refine tm_iconst dX12_signed_24 ?_
      refine tm_aload_n dX12_signed_25 rfl 1 rfl ?_
      refine tm_getS (k := 23) (t := σ106.1 23) dX12_signed_26 (by decide) fl12_223 rfl (rfl) ?_
      have g216 := RG.s f110 23
      refine tm_callV (M := m_X12_signed) (pc := 29) (ix := 301) (M' := m_X12_give) (As := [.int (iI 1), .int (iI (σ106.1 23))]) (rest := []) dX12_signed_29 ok_X12_give im_X12_give se_X12_give ml12_301 np_X12_give rfl rfl (Nat.le_of_ble_eq_true rfl) (Nat.le_of_ble_eq_true rfl) rfl (c2_X12_give (d + 4 * lv + 7) (σ := σ106) (k := 1) (w := σ106.1 23) f110 (by omega) (by omega)) (fun r217 σ218 hp => ?_)
      obtain ⟨rfl, f220, f221, f222⟩ := hp
      show Tm _ _ 32 b σ218 [(1, .int (iI v3)), (0, .ref b)] [] _
      have gv := f222
      have n20 : σ218.1 20 = _ := f220.1 20 (by decide)
      have n21 : σ218.1 21 = _ := f220.1 21 (by decide)
      have tk9 := tr7.2.2.1.1.1
      refine tm_aload_n dX12_signed_32 rfl 1 rfl ?_
      refine tm_callV (M := m_X12_signed) (pc := 33) (ix := 265) (M' := m_X12_advance) (As := []) (rest := []) dX12_signed_33 ok_X12_advance im_X12_advance se_X12_advance ml12_265 np_X12_advance rfl rfl (Nat.le_of_ble_eq_true rfl) (Nat.le_of_ble_eq_true rfl) rfl (c_X12_advance (d + 4 * lv + 3) (σ := σ218)  f221 (by omega)) (fun r223 σ224 hp => ?_)
      obtain ⟨rfl, f226, f227, f228, f229, f230⟩ := hp
      show Tm _ _ 36 b σ224 [(1, .int (iI v3)), (0, .ref b)] [] _
      have tr14 := tr7.numadv (by omega) f220 gv f226 f227 f229 f230
      have gt : GTm σ224 := by unfold GTm; rw [f227.1 39 (by decide), f227.1 40 (by decide), gv.1]; exact ⟨Or.inl rfl, fun q => absurd q (by decide)⟩
      have e28 : σ224.1 28 = σ.1 28 := rs_F f227 (by decide) (rs_F f220 (by decide) (rs_F f109 (by decide) (rfl)))
      refine tm_goto (tgt := 106) dX12_signed_36 (by decide) ?_
      have rdj := tr14.2.2.1.2
      have tkj := tr14.2.2.1.1.1
      refine tm_iload_n dX12_signed_106 rfl 0 rfl ?_
      refine tm_if_eq (tgt := 125) dX12_signed_107 (by decide) ⟨by omega, by omega⟩ (fun h231 => ?_) (fun h231 => ?_)
      · exact absurd h231 (by omega)
      · refine tm_aload_n dX12_signed_110 rfl 1 rfl ?_
        refine tm_iconst dX12_signed_111 ?_
        refine tm_iconst dX12_signed_112 ?_
        refine tm_iconst dX12_signed_113 ?_
        refine tm_aload_n dX12_signed_114 rfl 1 rfl ?_
        refine tm_getS (k := 39) (t := σ218.1 39) dX12_signed_115 (by decide) fl12_285 rfl (rs_F f227 (by decide) (rfl)) ?_
        have g232 := RG.s f221 39
        refine tm_aload_n dX12_signed_118 rfl 1 rfl ?_
        refine tm_getS (k := 40) (t := σ218.1 40) dX12_signed_119 (by decide) fl12_288 rfl (rs_F f227 (by decide) (rfl)) ?_
        have g233 := RG.s f221 40
        refine tm_callV (M := m_X12_signed) (pc := 122) (ix := 310) (M' := m_X12_joins) (As := [.int (iI 2), .int (iI 1), .int (iI 0), .int (iI (σ218.1 39)), .int (iI (σ218.1 40))]) (rest := []) dX12_signed_122 ok_X12_joins im_X12_joins se_X12_joins ml12_310 np_X12_joins rfl rfl (Nat.le_of_ble_eq_true rfl) (Nat.le_of_ble_eq_true rfl) rfl (c_X12_joins (d + 4 * lv + 5) (σ := σ224) (k := 2) (ak := 1) (a := 0) (bk := σ218.1 39) (c := σ218.1 40) f228 (by omega) (by decide) (by omega) (by have z := gt; unfold GTm at z; omega) (by omega) (by omega) (by omega)) (fun r234 σ235 hp => ?_)
        obtain ⟨rfl, f237, f238, f239, f240, f241, f242⟩ := hp
        show Tm _ _ 125 b σ235 [(1, .int (iI v3)), (0, .ref b)] [] _
        have tr15 := tr14.join (by decide) f237 f239 ⟨Eq.symm (rs_F f227 (by decide) (rfl)), Eq.symm (rs_F f227 (by decide) (rfl))⟩ f242 f240 f241 (by decide) hrd
        have gtj : GTm σ235 := by unfold GTm; rw [f239.2.2.1, f239.2.2.2, f239.1]; exact ⟨Or.inr rfl, fun _ => by omega⟩
        refine tm_iconst dX12_signed_125 ?_
        exact tm_zret (v := 1) rfl (by decide) dX12_signed_126 (⟨_, rfl, by omega, ((((Fr.rfl.trans (Fr.sub f109 (by decide) (by decide) (by decide))).trans (Fr.sub f220 (by decide) (by decide) (by decide))).trans (Fr.sub f227 (by decide) (by decide) (by decide))).trans (Fr.sub f237 (by decide) (by decide) (by decide))), f238, tr15.1, fun _ => tr15.exs (by decide) gtj (by rw [f237.1 28 (by decide)]; exact e28), tr15.prs, by rw [f237.1 28 (by decide)]; exact e28⟩)
end
