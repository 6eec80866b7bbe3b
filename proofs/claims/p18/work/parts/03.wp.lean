section
abbrev pE : Type := (Nat × vp_A) ⊕ (Nat × List Value)
abbrev PH : Type := Nat → Option pE
abbrev MT : Type := MethodName × ByteArray × Nat × Option FieldType
/-- what the tables hold all the while -/
def sgB : List Int32 := [40, 41, 123, 125, 44, 59, 61, 60, 43, 45, 42]
section WPR
variable {d : Nat} {M : MT} {pc : Nat} {P : PH} {sz : Nat} {L : List (Nat × Value)} {st : List Value} {o : Option Value × PH × Nat × Nat}
end WPR
section WPH
variable {d : Nat} {M : MT} {pc : Nat} {P : PH} {sz : Nat} {L : List (Nat × Value)} {st : List Value} {o : Option Value × PH × Nat × Nat} {a : Nat}
end WPH
section WPC
variable {d : Nat} {M M' : MT} {pc : Nat} {P : PH} {sz : Nat} {L L1 : List (Nat × Value)} {rest As : List Value} {o1 o2 : Option Value × PH × Nat × Nat} {a : Nat}
end WPC
end
section
def iI (z : Int) : Int32 := Int32.ofInt z
def inR (z : Int) : Prop := -2147483648 ≤ z ∧ z ≤ 2147483647
theorem iI_toInt {z : Int} (h : inR z) : (iI z).toInt = z := Int32.toInt_ofInt_of_le (by simpa using h.1) (by have := h.2; simp; omega)
theorem iI_eq {a b : Int} (ha : inR a) (hb : inR b) : iI a = iI b ↔ a = b := ⟨fun h => by rw [← iI_toInt ha, ← iI_toInt hb, h], fun h => by rw [h]⟩
abbrev MS : Type := (Nat → Int) × (Nat → Int → Int) × (Nat → Int → Int64)
def sS (k : Nat) (v : Int) (σ : MS) : MS := (fun j => if j = k then v else σ.1 j, σ.2.1, σ.2.2)
def sA (k : Nat) (i v : Int) (σ : MS) : MS := (σ.1, fun j => if j = k then (fun q => if q = i then v else σ.2.1 k q) else σ.2.1 j, σ.2.2)
def sJ (k : Nat) (i : Int) (v : Int64) (σ : MS) : MS := (σ.1, σ.2.1, fun j => if j = k then (fun q => if q = i then v else σ.2.2 k q) else σ.2.2 j)
section TMR
variable {d : Nat} {M : MT} {pc b : Nat} {σ : MS} {L : List (Nat × Value)} {st : List Value} {post : Option Value → MS → Prop}
end TMR
section TMH
variable {d : Nat} {M : MT} {pc b : Nat} {σ : MS} {L : List (Nat × Value)} {st : List Value} {post : Option Value → MS → Prop}
end TMH
theorem ra_ne {k : Nat} {z i w v : Int} {σ : MS} (h : z ≠ i) (e : σ.2.1 k z = v) : (sA k i w σ).2.1 k z = v := by simp only [sA, if_true]; rw [if_neg h]; exact e
theorem ra_eq {k : Nat} {z w : Int} {σ : MS} : (sA k z w σ).2.1 k z = w := by simp only [sA, if_true]
/-- between two states nothing has changed but these scalars, arrays and longs -/
def Fr (ss ks js : List Nat) (σ τ : MS) : Prop := (∀ k, k ∉ ss → τ.1 k = σ.1 k) ∧ (∀ k, k ∉ ks → τ.2.1 k = σ.2.1 k) ∧ ∀ k, k ∉ js → τ.2.2 k = σ.2.2 k
theorem Fr.rfl {ss ks js : List Nat} {σ : MS} : Fr ss ks js σ σ := ⟨fun _ _ => Eq.refl _, fun _ _ => Eq.refl _, fun _ _ => Eq.refl _⟩
theorem Fr.trans {ss ks js : List Nat} {σ τ υ : MS} (h : Fr ss ks js σ τ) (g : Fr ss ks js τ υ) : Fr ss ks js σ υ := ⟨fun k hk => (g.1 k hk).trans (h.1 k hk), fun k hk => (g.2.1 k hk).trans (h.2.1 k hk), fun k hk => (g.2.2 k hk).trans (h.2.2 k hk)⟩
theorem Fr.sub {ss ks js ss' ks' js' : List Nat} {σ τ : MS} (h : Fr ss ks js σ τ) (h1 : ∀ k ∈ ss, k ∈ ss') (h2 : ∀ k ∈ ks, k ∈ ks') (h3 : ∀ k ∈ js, k ∈ js') : Fr ss' ks' js' σ τ := ⟨fun k hk => h.1 k (fun q => hk (h1 k q)), fun k hk => h.2.1 k (fun q => hk (h2 k q)), fun k hk => h.2.2 k (fun q => hk (h3 k q))⟩
theorem Fr.S {ss ks js : List Nat} {σ τ : MS} (h : Fr ss ks js σ τ) {k : Nat} {v : Int} (hk : k ∈ ss) : Fr ss ks js σ (sS k v τ) := ⟨fun j hj => by rw [← h.1 j hj]; exact if_neg (fun e => hj (by rw [e]; exact hk)), h.2.1, h.2.2⟩
end
section
def cw (f : Int → Int) (lo : Int) : Nat → Nat
  | 0 => 0
  | n + 1 => cw f lo n + (if f (lo + n) = 14 then 0 else 1)
end
section
abbrev CT : Type := Nat → Nat × Nat
section OVC
variable {T : CT} {σ : MS} {P0 : PH} {a : Nat}
end OVC
section TNR
variable {d : Nat} {M : MT} {pc : Nat} {T : CT} {σ : MS} {L : List (Nat × Value)} {st : List Value} {post : Option Value → CT → MS → Prop}
end TNR
end
section
def cls (n : Nat) : Nat := if n < 5 then 0 else if n < 17 then 1 else if n < 18 then 2 else if n < 23 then 3 else if n < 33 then 4 else if n < 52 then 5 else if n < 55 then 6 else if n < 72 then 7 else if n < 81 then 8 else if n < 88 then 9 else if n < 95 then 10 else if n < 111 then 11 else 99
section WTS
variable {T : CT} {σ τ : MS} {n a : Nat} {v z : Int}
end WTS
section FRC
variable {T T2 : CT} {ks ls : List Nat} {σ τ υ : MS} {k : Nat}
end FRC
section GRW
variable {T T2 : CT} {a c k : Nat}
end GRW
section RDN
variable {d : Nat} {M : MT} {pc : Nat} {T : CT} {σ : MS} {L : List (Nat × Value)} {st : List Value} {post : Option Value → CT → MS → Prop} {a : Nat}
end RDN
section WFS
variable {T : CT} {σ : MS} {a q : Nat} {v : Int}
end WFS
end
section
/-- where a sign stands in the text of signs -/
def ixF (x : Int32) : Nat → Nat → Int32
  | 0, _ => -1
  | n + 1, k => if sgB.getD k 0 = x then Int32.ofNat k else ixF x n (k + 1)
def sgI (c : Int32) : Int32 := ixF c.toInt8.toInt32 11 0
def sgZ (z : Int) : Int := (sgI (iI z)).toInt
end
section
def shw (w : Int64) (z : Int) : Int64 := (w <<< ((iI 8).toInt64 &&& 63)) ||| ((iI z).toInt64)
abbrev TK : Type := Int × Int × Int × Int × Int64
abbrev EV : Type := Int × Int × Int64
/-- the call under way (its NAME, how many E so far), its place, the parameters so far, the routine's place -/
abbrev QR : Type := Int64 × Int × Int × Int × Int
abbrev PCf : Type := List Nat × TK × (Int × Int × Int) × QR × List EV
abbrev qq (c : Int) : QR := (0, 0, 0, 0, c)
def wsk (s : Int → Int) : Nat → Int → Int
  | 0, n => n
  | f + 1, n => if s n = 10 ∨ s n = 32 then wsk s f (n + 1) else n
def wsp (s : Int → Int) (n : Int) : Int := wsk s (1300 - n).toNat n
def ltk (s : Int → Int) : Nat → Int → Int64 → Int → Int × Int64 × Int
  | 0, n, w, c => (n, w, c)
  | f + 1, n, w, c => if 97 ≤ s n ∧ s n ≤ 122 then ltk s f (n + 1) (shw w (s n)) (c + 1) else (n, w, c)
def ltp (s : Int → Int) (n : Int) (w : Int64) (c : Int) : Int × Int64 × Int := ltk s (1300 - n).toNat n w c
theorem ltp_s {s : Int → Int} {n c : Int} {w : Int64} (h : n < 1300) (q : 97 ≤ s n ∧ s n ≤ 122) : ltp s n w c = ltp s (n + 1) (shw w (s n)) (c + 1) := by
  unfold ltp
  rw [show (1300 - n).toNat = (1300 - (n + 1)).toNat + 1 by omega]
  show (if _ then _ else _) = _
  rw [if_pos q]
theorem ltp_e {s : Int → Int} {n c : Int} {w : Int64} (q : ¬ (97 ≤ s n ∧ s n ≤ 122)) : ltp s n w c = (n, w, c) := by
  unfold ltp
  cases (1300 - n).toNat with
  | zero => rfl
  | succ f => show (if _ then _ else _) = _; rw [if_neg q]
def dgv (v c x : Int) : Int := if c < 7 then 10 * v + x - 48 else v
def dgk (s : Int → Int) : Nat → Int → Int → Int → Int × Int × Int
  | 0, n, v, c => (n, v, c)
  | f + 1, n, v, c => if 48 ≤ s n ∧ s n ≤ 57 then dgk s f (n + 1) (dgv v c (s n)) (c + 1) else (n, v, c)
def dgp (s : Int → Int) (n v c : Int) : Int × Int × Int := dgk s (1300 - n).toNat n v c
theorem dgp_s {s : Int → Int} {n v c : Int} (h : n < 1300) (q : 48 ≤ s n ∧ s n ≤ 57) : dgp s n v c = dgp s (n + 1) (dgv v c (s n)) (c + 1) := by
  unfold dgp
  rw [show (1300 - n).toNat = (1300 - (n + 1)).toNat + 1 by omega]
  show (if _ then _ else _) = _
  rw [if_pos q]
/-- the next token behind nx -/
def advP (s : Int → Int) (p : Int) : TK :=
  if s p < 0 then (p, p, 0, s p, 0)
  else if 97 ≤ s p ∧ s p ≤ 122 then (p, (ltp s p 0 0).1, if 6 < (ltp s p 0 0).2.2 then 1 else 2, s p, (ltp s p 0 0).2.1)
  else if 48 ≤ s p ∧ s p ≤ 57 then (p, (dgp s p 0 0).1, if 7 < (dgp s p 0 0).2.2 then 1 else 3, (dgp s p 0 0).2.1, 0)
  else (p, p + 1, if sgZ (s p) < 0 then 1 else 4, s p, 0)
def advT (s : Int → Int) (nx : Int) : TK := advP s (wsp s nx)
/-- tests of a token -/
abbrev sgn (t : TK) (c : Int) : Prop := t.2.2.1 = 4 ∧ t.2.2.2.1 = c
abbrev wrd (t : TK) (w : Int64) : Prop := t.2.2.1 = 2 ∧ t.2.2.2.2 = w
abbrev W5 : List Int64 := [7304564, 125780071117422, 26982, 1701606245, 512852847717]
abbrev nam (t : TK) : Prop := t.2.2.1 = 2 ∧ t.2.2.2.2 ∉ W5
def pF : PCf := ([999], (0, 0, 0, 0, 0), (0, 0, 0), qq 0, [])
/-- tags: 0 signed, 1 its heart, 2 expression, 3 sum, 4 product, 6 7 behind a sum, 8 9 the rings, 20 39 statement, 21 if, 22 while, 23 25 assignment, 24 else, 26 27 38 call, 28 29 40 block, 30 to 35 routine, 36 all, 51 52: so many items, 100 + c: need c. What a tag becomes: tags, token, numbers, the call under way, what is told -/
def stk (s : Int → Int) (k : Nat) (t : TK) (x : Int × Int × Int) (q : QR) : Option (List Nat × TK × (Int × Int × Int) × QR × List EV) :=
  match k with
  | 0 => if sgn t 45 then some ([1, 51], advT s t.2.1, x, q, []) else some ([1], t, x, q, [])
  | 1 => if t.2.2.1 = 3 ∨ nam t then some ([], advT s t.2.1, x, q, []) else if sgn t 40 then some ([2, 141], advT s t.2.1, x, q, []) else none
  | 2 => if x.1 = 8 then none else some ([3, 6], t, (x.1 + 1, x.2.1, x.2.2), q, [])
  | 3 => some ([4, 8], t, x, q, [])
  | 4 => some ([0, 9], t, x, q, [])
  | 6 => if sgn t 61 ∨ sgn t 60 then some ([3, 51, 7], advT s t.2.1, x, q, []) else some ([7], t, x, q, [])
  | 7 => some ([], t, (x.1 - 1, x.2.1, x.2.2), q, [])
  | 8 => if sgn t 43 ∨ sgn t 45 then some ([4, 51, 8], advT s t.2.1, x, q, []) else some ([], t, x, q, [])
  | 9 => if sgn t 42 then some ([0, 51, 9], advT s t.2.1, x, q, []) else some ([], t, x, q, [])
  | 20 => if wrd t 512852847717 then some ([22], t, x, q, []) else if wrd t 26982 then some ([51, 21], t, x, q, []) else if wrd t 7304564 ∨ wrd t 125780071117422 then some ([51, 39], t, x, q, []) else if nam t then some ([51, 23], t, x, q, []) else none
  | 21 => some ([2, 51, 28, 24], advT s t.2.1, x, q, [])
  | 22 => some ([52, 2, 51, 28, 52], advT s t.2.1, x, q, [])
  | 23 => some ([161, 25], advT s t.2.1, x, q, [])
  | 24 => if wrd t 1701606245 then some ([52, 28, 51], advT s t.2.1, x, q, []) else some ([51], t, x, q, [])
  | 25 => if nam t then (if sgn (advT s t.2.1) 40 then some ([26, 159], advT s t.2.1, x, (t.2.2.2.2, 0, t.1, q.2.2.2), []) else some ([2, 52, 159], (t.1, t.2.1, 2, (advT s t.2.1).2.2.2.1, t.2.2.2.2), x, q, [])) else some ([2, 52, 159], t, x, q, [])
  | 26 => if sgn (advT s t.2.1) 41 then some ([38, 141], advT s t.2.1, x, q, []) else some ([2, 27], advT s t.2.1, x, q, [])
  | 27 => if sgn t 44 then some ([2, 27], advT s t.2.1, x, (q.1, q.2.1 + 1, q.2.2), []) else some ([38, 141], t, x, (q.1, q.2.1 + 1, q.2.2), [])
  | 28 => if x.2.1 = 6 then none else some ([223, 29], t, (x.1, x.2.1 + 1, x.2.2), q, [])
  | 29 => if sgn t 125 then some ([40], advT s t.2.1, x, q, []) else some ([20, 29], t, x, q, [])
  | 30 => if nam t then some ([140, 31], advT s t.2.1, x, (q.1, q.2.1, q.2.2.1, 0, t.1), []) else none
  | 31 => if sgn t 41 then some ([141, 35], t, x, q, []) else some ([32], t, x, q, [])
  | 32 => if nam t then some ([33], advT s t.2.1, x, (q.1, q.2.1, q.2.2.1, q.2.2.2.1 + 1, q.2.2.2.2), []) else none
  | 33 => if sgn t 44 then some ([32], advT s t.2.1, x, q, []) else some ([141, 35], t, x, q, [])
  | 34 => some ([], t, x, (q.1, q.2.1, q.2.2.1, q.2.2.2.1, 0), [(0, x.2.2, 0)])
  | 35 => some ([28, 51, 34], t, (x.1, x.2.1, 0), (q.1, q.2.1, q.2.2.1, 0, q.2.2.2.2), [])
  | 36 => if t.2.2.1 = 0 then some ([], t, x, q, []) else some ([30, 36], t, x, q, [])
  | 38 => some ([], t, (x.1, x.2.1, x.2.2 + 2), (0, 0, 0, q.2.2.2), [(1, q.2.1, q.1)])
  | 39 => some ([2, 51, 159], advT s t.2.1, x, q, [])
  | 40 => some ([], t, (x.1, x.2.1 - 1, x.2.2), q, [])
  | 51 => some ([], t, (x.1, x.2.1, x.2.2 + 1), q, [])
  | 52 => some ([], t, (x.1, x.2.1, x.2.2 + 2), q, [])
  | k => if sgn t ((k : Int) - 100) then some ([], advT s t.2.1, x, q, []) else none
def stp (s : Int → Int) (a : PCf) : PCf :=
  match a with
  | ([], t, x, q, ρ) => ([], t, x, q, ρ)
  | (k :: K, t, x, q, ρ) => match stk s k t x q with
    | none => pF
    | some r => (r.1 ++ K, r.2.1, r.2.2.1, r.2.2.2.1, ρ ++ r.2.2.2.2)
theorem stp_pF (s : Int → Int) : stp s pF = pF := rfl
theorem stp_nil (s : Int → Int) (t : TK) (x : Int × Int × Int) (q : QR) (ρ : List EV) : stp s ([], t, x, q, ρ) = ([], t, x, q, ρ) := rfl
def itr (s : Int → Int) : Nat → PCf → PCf
  | 0, a => a
  | n + 1, a => itr s n (stp s a)
def RCm (s : Int → Int) (a b : PCf) : Prop := ∃ n, itr s n a = b
theorem itr_add (s : Int → Int) (n m : Nat) (a : PCf) : itr s (n + m) a = itr s m (itr s n a) := by
  induction n generalizing a with
  | zero => simp [itr]
  | succ n ih =>
    rw [show n + 1 + m = (n + m) + 1 by omega]
    show itr s (n + m) (stp s a) = itr s m (itr s n (stp s a))
    exact ih _
theorem RCm.rfl {s : Int → Int} {a : PCf} : RCm s a a := ⟨0, Eq.refl _⟩
theorem RCm.trans {s : Int → Int} {a b c : PCf} (h : RCm s a b) (g : RCm s b c) : RCm s a c := by
  obtain ⟨n, hn⟩ := h
  obtain ⟨m, hm⟩ := g
  exact ⟨n + m, by rw [itr_add, hn, hm]⟩
theorem RCm.one {s : Int → Int} {a b : PCf} (h : stp s a = b) : RCm s a b := ⟨1, h⟩
theorem itr_fix {s : Int → Int} {a : PCf} (h : stp s a = a) (n : Nat) : itr s n a = a := by
  induction n with
  | zero => rfl
  | succ n ih =>
    show itr s n (stp s a) = a
    rw [h]; exact ih
/-- what is come to and stays, is one -/
theorem RCm.det {s : Int → Int} {a b c : PCf} (h : RCm s a b) (g : RCm s a c) (hb : stp s b = b) (hc : stp s c = c) : b = c := by
  obtain ⟨n, hn⟩ := h
  obtain ⟨m, hm⟩ := g
  by_cases z : n ≤ m
  · have e : itr s m a = itr s (m - n) b := by rw [← hn, ← itr_add]; congr 1; omega
    rw [itr_fix hb] at e
    exact e.symm.trans hm
  · have e : itr s n a = itr s (n - m) c := by rw [← hm, ← itr_add]; congr 1; omega
    rw [itr_fix hc] at e
    exact hn.symm.trans e
abbrev EW : Type := Int × Int × Int × Int64
def evk (k : Nat) (t : TK) (x : Int × Int × Int) (q : QR) : List EW := match k with
  | 1 => if nam t then [(4, t.1, 0, t.2.2.2.2)] else []
  | 20 => [(5, t.1, 0, 0)]
  | 23 => [(4, t.1, 0, t.2.2.2.2)]
  | 30 => [(2, t.1, 0, t.2.2.2.2)]
  | 31 => if sgn t 41 then [(7, 0, q.2.2.2.1, 0)] else []
  | 32 => [(3, t.1, q.2.2.2.1, t.2.2.2.2)]
  | 33 => if sgn t 44 then [] else [(7, 0, q.2.2.2.1, 0)]
  | 34 => [(0, q.2.2.2.2, x.2.2, 0)]
  | 38 => [(1, q.2.2.1, q.2.1, q.1)]
  | _ => []
def evt (s : Int → Int) (a : PCf) : List EW := match a with
  | ([], _, _, _, _) => []
  | (k :: _, t, x, q, _) => if k = 999 then [] else match stk s k t x q with
    | none => [(9, t.1, 0, 0)]
    | some _ => evk k t x q
theorem evt_s {s : Int → Int} {k : Nat} {K : List Nat} {t : TK} {x : Int × Int × Int} {q : QR} {ρ : List EV} {r : List Nat × TK × (Int × Int × Int) × QR × List EV} (hk : k ≠ 999) (h : stk s k t x q = some r) : evt s (k :: K, t, x, q, ρ) = evk k t x q := by
  show (if k = 999 then [] else match stk s k t x q with
    | none => [(9, t.1, 0, 0)]
    | some _ => evk k t x q) = _
  rw [if_neg hk, h]
theorem evt_n {s : Int → Int} {k : Nat} {K : List Nat} {t : TK} {x : Int × Int × Int} {q : QR} {ρ : List EV} (hk : k ≠ 999) (h : stk s k t x q = none) : evt s (k :: K, t, x, q, ρ) = [(9, t.1, 0, 0)] := by
  show (if k = 999 then [] else match stk s k t x q with
    | none => [(9, t.1, 0, 0)]
    | some _ => evk k t x q) = _
  rw [if_neg hk, h]
def evs (s : Int → Int) : Nat → PCf → List EW
  | 0, _ => []
  | n + 1, a => evt s a ++ evs s n (stp s a)
theorem evs_add (s : Int → Int) (n m : Nat) (a : PCf) : evs s (n + m) a = evs s n a ++ evs s m (itr s n a) := by
  induction n generalizing a with
  | zero => simp [evs, itr]
  | succ n ih =>
    rw [show n + 1 + m = (n + m) + 1 by omega]
    show evt s a ++ evs s (n + m) (stp s a) = (evt s a ++ evs s n (stp s a)) ++ evs s m (itr s n (stp s a))
    rw [ih, List.append_assoc]
/-- a road, and what it tells -/
def RE (s : Int → Int) (a : PCf) (es : List EW) (b : PCf) : Prop := ∃ n, itr s n a = b ∧ evs s n a = es
theorem RE.rc {s : Int → Int} {a b : PCf} {es : List EW} (h : RE s a es b) : RCm s a b := by
  obtain ⟨n, h1, -⟩ := h
  exact ⟨n, h1⟩
theorem RE.rfl {s : Int → Int} {a : PCf} : RE s a [] a := ⟨0, Eq.refl _, Eq.refl _⟩
theorem RE.trans {s : Int → Int} {a b c : PCf} {e1 e2 : List EW} (h : RE s a e1 b) (g : RE s b e2 c) : RE s a (e1 ++ e2) c := by
  obtain ⟨n, h1, h2⟩ := h
  obtain ⟨m, g1, g2⟩ := g
  exact ⟨n + m, by rw [itr_add, h1, g1], by rw [evs_add, h2, h1, g2]⟩
theorem RE.one {s : Int → Int} {a b : PCf} {es : List EW} (h : stp s a = b) (e : evt s a = es) : RE s a es b := ⟨1, h, by show evt s a ++ [] = es; rw [List.append_nil]; exact e⟩
theorem evs_fix {s : Int → Int} {a : PCf} (h : stp s a = a) (e : evt s a = []) (n : Nat) : evs s n a = [] := by
  induction n with
  | zero => rfl
  | succ n ih =>
    show evt s a ++ evs s n (stp s a) = []
    rw [h, e, ih]; rfl
theorem RE.det {s : Int → Int} {a b c : PCf} {e1 e2 : List EW} (h : RE s a e1 b) (g : RE s a e2 c) (hb : stp s b = b) (hc : stp s c = c) (eb : evt s b = []) (ec : evt s c = []) : b = c ∧ e1 = e2 := by
  obtain ⟨n, hn, n2⟩ := h
  obtain ⟨m, hm, m2⟩ := g
  by_cases z : n ≤ m
  · obtain ⟨k, rfl⟩ : ∃ k, m = n + k := ⟨m - n, by omega⟩
    rw [itr_add, hn, itr_fix hb] at hm
    rw [evs_add, hn, evs_fix hb eb, List.append_nil, n2] at m2
    exact ⟨hm, m2⟩
  · obtain ⟨k, rfl⟩ : ∃ k, n = m + k := ⟨n - m, by omega⟩
    rw [itr_add, hm, itr_fix hc] at hn
    rw [evs_add, hm, evs_fix hc ec, List.append_nil, m2] at n2
    exact ⟨hn.symm, n2.symm⟩
theorem evt_nil {s : Int → Int} {t : TK} {x : Int × Int × Int} {q : QR} {ρ : List EV} : evt s ([], t, x, q, ρ) = [] := rfl
end
section
def an5 (z : Int) : Int := (iI z &&& iI 255).toInt
def sv (σ : MS) : Int → Int := fun k => if k < σ.1 21 then an5 (σ.2.1 1 k) else -1
def tks (σ : MS) : TK := (σ.1 19, σ.1 20, σ.1 22, σ.1 23, σ.2.2 24 0)
def xs (σ : MS) : Int × Int × Int := (σ.1 28, σ.1 29, σ.1 34)
def cfg (K : List Nat) (σ : MS) (q : QR) (ρ : List EV) : PCf := (K, tks σ, xs σ, q, ρ)
def srt (σ : MS) : (Int × Int × Int × Int × Int × Int) × ((Int → Int) × (Int → Int) × (Int → Int)) × (Int → Int64) × (Int → Int64) := ((σ.1 25, σ.1 26, σ.1 27, σ.1 30, σ.1 31, σ.1 43), (σ.2.1 35, σ.2.1 36, σ.2.1 45), σ.2.2 38, σ.2.2 44)
theorem srt_mk {σ τ : MS} (h25 : τ.1 25 = σ.1 25) (h26 : τ.1 26 = σ.1 26) (h27 : τ.1 27 = σ.1 27) (h30 : τ.1 30 = σ.1 30) (h31 : τ.1 31 = σ.1 31) (h43 : τ.1 43 = σ.1 43) (a35 : τ.2.1 35 = σ.2.1 35) (a36 : τ.2.1 36 = σ.2.1 36) (a45 : τ.2.1 45 = σ.2.1 45) (j38 : τ.2.2 38 = σ.2.2 38) (j44 : τ.2.2 44 = σ.2.2 44) : srt τ = srt σ := by
  unfold srt
  rw [h25, h26, h27, h30, h31, h43, a35, a36, a45, j38, j44]
section SRT
variable {σ τ : MS}
theorem srt_25 (h : srt τ = srt σ) : τ.1 25 = σ.1 25 := congrArg (fun z => z.1.1) h
theorem srt_26 (h : srt τ = srt σ) : τ.1 26 = σ.1 26 := congrArg (fun z => z.1.2.1) h
theorem srt_27 (h : srt τ = srt σ) : τ.1 27 = σ.1 27 := congrArg (fun z => z.1.2.2.1) h
theorem srt_30 (h : srt τ = srt σ) : τ.1 30 = σ.1 30 := congrArg (fun z => z.1.2.2.2.1) h
theorem srt_31 (h : srt τ = srt σ) : τ.1 31 = σ.1 31 := congrArg (fun z => z.1.2.2.2.2.1) h
theorem srt_43 (h : srt τ = srt σ) : τ.1 43 = σ.1 43 := congrArg (fun z => z.1.2.2.2.2.2) h
theorem srt_35 (h : srt τ = srt σ) : τ.2.1 35 = σ.2.1 35 := congrArg (fun z => z.2.1.1) h
theorem srt_36 (h : srt τ = srt σ) : τ.2.1 36 = σ.2.1 36 := congrArg (fun z => z.2.1.2.1) h
theorem srt_45 (h : srt τ = srt σ) : τ.2.1 45 = σ.2.1 45 := congrArg (fun z => z.2.1.2.2) h
theorem srt_38 (h : srt τ = srt σ) : τ.2.2 38 = σ.2.2 38 := congrArg (fun z => z.2.2.1) h
theorem srt_44 (h : srt τ = srt σ) : τ.2.2 44 = σ.2.2 44 := congrArg (fun z => z.2.2.2) h
end SRT
theorem srt_fr {ss ks js : List Nat} {σ τ : MS} (f : Fr ss ks js σ τ) (h : ∀ k ∈ [25, 26, 27, 30, 31, 43], k ∉ ss) (h2 : ∀ k ∈ [35, 36, 45], k ∉ ks) (h3 : ∀ k ∈ [38, 44], k ∉ js) : srt τ = srt σ := srt_mk (f.1 25 (h 25 (by decide))) (f.1 26 (h 26 (by decide))) (f.1 27 (h 27 (by decide))) (f.1 30 (h 30 (by decide))) (f.1 31 (h 31 (by decide))) (f.1 43 (h 43 (by decide))) (f.2.1 35 (h2 35 (by decide))) (f.2.1 36 (h2 36 (by decide))) (f.2.1 45 (h2 45 (by decide))) (f.2.2 38 (h3 38 (by decide))) (f.2.2 44 (h3 44 (by decide)))
noncomputable def ifP {α : Type} (p : Prop) (a b : α) : α := @ite α p (Classical.propDecidable p) a b
theorem ifP_t {α : Type} {p : Prop} {a b : α} (h : p) : ifP p a b = a := by unfold ifP; exact if_pos h
theorem ifP_f {α : Type} {p : Prop} {a b : α} (h : ¬ p) : ifP p a b = b := by unfold ifP; exact if_neg h
/-- a fault is noted -/
def ntP (f p : Int) (A : MS) : MS := if 0 < A.1 25 ∧ (A.1 26 = 0 ∨ p < A.1 27 ∨ (p = A.1 27 ∧ f < A.1 26)) then sS 27 p (sS 26 f A) else A
/-- a name is there already -/
def NFD (A : MS) (w : Int64) : Prop := ∃ n, 0 ≤ n ∧ n < A.2.1 35 (A.1 30) ∧ A.2.2 38 (12 * A.1 30 + n) = w
noncomputable def nmP (w : Int64) (p : Int) (A : MS) : MS := ifP (A.1 30 < 6) (ifP (NFD A w) A (ifP (A.2.1 35 (A.1 30) = 12) (ntP 5 p A) (ifP (A.1 25 = 1) (sA 35 (A.1 30) (A.2.1 35 (A.1 30) + 1) (sJ 38 (12 * A.1 30 + A.2.1 35 (A.1 30)) w A)) A))) A
/-- the first routine of that name -/
def RFD (A : MS) (w : Int64) (q : Int) : Prop := 0 ≤ q ∧ q < A.1 43 ∧ A.2.2 44 q = w ∧ ∀ j, 0 ≤ j → j < q → A.2.2 44 j ≠ w
noncomputable def rnP (w : Int64) (p : Int) (A : MS) : MS := ifP (A.1 25 = 1) (sS 43 (A.1 43 + 1) (sJ 44 (A.1 43) w (ifP (∃ q, RFD A w q) (ntP 2 p (ifP (A.1 30 = 6) (ntP 5 p A) A)) (ifP (A.1 30 = 6) (ntP 5 p A) A)))) A
noncomputable def paP (w : Int64) (p m : Int) (A : MS) : MS := ifP (A.1 25 = 1) (nmP w p (ifP (A.1 30 < 6 ∧ NFD A w) (ntP 2 p (ifP (m = 4) (ntP 5 p A) A)) (ifP (m = 4) (ntP 5 p A) A))) A
noncomputable def peP (m : Int) (A : MS) : MS := ifP (A.1 25 = 1) (ifP (A.1 30 < 6) (sA 36 (A.1 30) (if 4 < m then 4 else m) (sA 45 (A.1 43 - 1) m A)) (sA 45 (A.1 43 - 1) m A)) A
def lnP (p : Int) (A : MS) : MS := if A.1 31 + 1 = 41 then ntP 5 p (sS 31 (A.1 31 + 1) A) else sS 31 (A.1 31 + 1) A
noncomputable def clP (w : Int64) (p m : Int) (A : MS) : MS := ifP (A.1 25 = 2) (ifP (∃ q, RFD A w q) (ifP (∃ q, RFD A w q ∧ m ≠ A.2.1 45 q) (ntP 4 p A) A) (ntP 3 p A)) A
def reP (p m : Int) (A : MS) : MS := if A.1 25 = 2 ∧ 120 < m then sS 30 (A.1 30 + 1) (ntP 5 p A) else sS 30 (A.1 30 + 1) A
/-- what a telling does -/
noncomputable def upR (A : MS) (e : EW) : MS :=
  if e.1 = 2 then rnP e.2.2.2 e.2.1 A
  else if e.1 = 3 then paP e.2.2.2 e.2.1 e.2.2.1 A
  else if e.1 = 7 then peP e.2.2.1 A
  else if e.1 = 4 then nmP e.2.2.2 e.2.1 A
  else if e.1 = 5 then lnP e.2.1 A
  else if e.1 = 1 then clP e.2.2.2 e.2.1 e.2.2.1 A
  else if e.1 = 0 then reP e.2.1 e.2.2.1 A
  else A
section SRC
variable {A σ : MS}
theorem srt_nt (h : srt A = srt σ) {f p : Int} : srt (ntP f p A) = srt (ntP f p σ) := by
  unfold ntP
  rw [srt_25 h, srt_26 h, srt_27 h]
  split
  · exact srt_mk (show A.1 25 = σ.1 25 from srt_25 h) rfl rfl (show A.1 30 = σ.1 30 from srt_30 h) (show A.1 31 = σ.1 31 from srt_31 h) (show A.1 43 = σ.1 43 from srt_43 h) (show A.2.1 35 = σ.2.1 35 from srt_35 h) (show A.2.1 36 = σ.2.1 36 from srt_36 h) (show A.2.1 45 = σ.2.1 45 from srt_45 h) (show A.2.2 38 = σ.2.2 38 from srt_38 h) (show A.2.2 44 = σ.2.2 44 from srt_44 h)
  · exact h
theorem RFD_c (h : srt A = srt σ) {w : Int64} {q : Int} : RFD A w q ↔ RFD σ w q := by unfold RFD; rw [srt_43 h, srt_44 h]
theorem srt_cl (h : srt A = srt σ) {w : Int64} {p m : Int} : srt (clP w p m A) = srt (clP w p m σ) := by
  unfold clP
  rw [srt_25 h, srt_45 h]
  have e1 : (∃ q, RFD A w q) ↔ ∃ q, RFD σ w q := ⟨fun z => by obtain ⟨q, y⟩ := z; exact ⟨q, (RFD_c h).mp y⟩, fun z => by obtain ⟨q, y⟩ := z; exact ⟨q, (RFD_c h).mpr y⟩⟩
  have e2 : (∃ q, RFD A w q ∧ m ≠ σ.2.1 45 q) ↔ ∃ q, RFD σ w q ∧ m ≠ σ.2.1 45 q := ⟨fun z => by obtain ⟨q, y, u⟩ := z; exact ⟨q, (RFD_c h).mp y, u⟩, fun z => by obtain ⟨q, y, u⟩ := z; exact ⟨q, (RFD_c h).mpr y, u⟩⟩
  rw [show (∃ q, RFD A w q) = ∃ q, RFD σ w q from propext e1, show (∃ q, RFD A w q ∧ m ≠ σ.2.1 45 q) = ∃ q, RFD σ w q ∧ m ≠ σ.2.1 45 q from propext e2]
  by_cases c1 : σ.1 25 = 2
  · rw [ifP_t c1, ifP_t c1]
    by_cases c2 : ∃ q, RFD σ w q
    · rw [ifP_t c2, ifP_t c2]
      by_cases c3 : ∃ q, RFD σ w q ∧ m ≠ σ.2.1 45 q
      · rw [ifP_t c3, ifP_t c3]; exact srt_nt h
      · rw [ifP_f c3, ifP_f c3]; exact h
    · rw [ifP_f c2, ifP_f c2]; exact srt_nt h
  · rw [ifP_f c1, ifP_f c1]; exact h
end SRC
theorem ntP_25 {f p : Int} {A : MS} : (ntP f p A).1 25 = A.1 25 := by unfold ntP; split <;> rfl
/-- a road's tellings, done on the reference's state -/
def EFF (es : List EW) (σ τ : MS) : Prop := ∀ A, srt A = srt σ → srt (es.foldl upR A) = srt τ
theorem EFF.nil {σ τ : MS} (h : srt τ = srt σ) : EFF [] σ τ := fun _ a => a.trans h.symm
theorem EFF.trans {e1 e2 : List EW} {σ τ υ : MS} (h : EFF e1 σ τ) (g : EFF e2 τ υ) : EFF (e1 ++ e2) σ υ := fun A a => by
  rw [List.foldl_append]
  exact g _ (h A a)
theorem EFF.last {es : List EW} {σ τ υ : MS} (h : EFF es σ τ) (e : srt υ = srt τ) : EFF es σ υ := fun A a => (h A a).trans e.symm
theorem EFF.call {w : Int64} {p m : Int} {σ τ : MS} (h : srt τ = srt (clP w p m σ)) : EFF [(1, p, m, w)] σ τ := fun _ a => (srt_cl a).trans h.symm
/-- in phase 0 no fault is noted -/
theorem nmP_25 {w : Int64} {p : Int} {B : MS} : (nmP w p B).1 25 = B.1 25 := by
  unfold nmP
  by_cases c1 : B.1 30 < 6
  · rw [ifP_t c1]
    by_cases c2 : NFD B w
    · rw [ifP_t c2]
    · rw [ifP_f c2]
      by_cases c3 : B.2.1 35 (B.1 30) = 12
      · rw [ifP_t c3, ntP_25]
      · rw [ifP_f c3]
        by_cases c4 : B.1 25 = 1
        · rw [ifP_t c4]; rfl
        · rw [ifP_f c4]
  · rw [ifP_f c1]
theorem if25 {p : Prop} {a b : MS} {z : Int} (h1 : a.1 25 = z) (h2 : b.1 25 = z) : (ifP p a b).1 25 = z := by
  by_cases c : p
  · rw [ifP_t c]; exact h1
  · rw [ifP_f c]; exact h2
theorem upR_25 (A : MS) (e : EW) : (upR A e).1 25 = A.1 25 := by
  unfold upR
  split
  · unfold rnP
    refine if25 (show (ifP _ _ _ : MS).1 25 = _ from if25 ?_ ?_) rfl
    · rw [ntP_25]; exact if25 ntP_25 rfl
    · exact if25 ntP_25 rfl
  split
  · unfold paP
    refine if25 ?_ rfl
    rw [nmP_25]
    refine if25 ?_ ?_
    · rw [ntP_25]; exact if25 ntP_25 rfl
    · exact if25 ntP_25 rfl
  split
  · unfold peP
    exact if25 (if25 rfl rfl) rfl
  split
  · exact nmP_25
  split
  · unfold lnP
    split
    · rw [ntP_25]; rfl
    · rfl
  split
  · unfold clP
    exact if25 (if25 (if25 ntP_25 rfl) ntP_25) rfl
  split
  · unfold reP
    split
    · exact ntP_25
    · rfl
  rfl
def vw (σ : MS) : TK × (Int × Int × Int) × (Int → Int) := (tks σ, xs σ, sv σ)
theorem sv_fr {ss ks js : List Nat} {σ τ : MS} (f : Fr ss ks js σ τ) (h1 : 21 ∉ ss) (h2 : 1 ∉ ks) : sv τ = sv σ := by unfold sv; rw [f.1 21 h1, f.2.1 1 h2]
def GOS (ks : List Nat) (σ : MS) (q : QR) (ks' : List Nat) (τ : MS) (q' : QR) (lg : List EV) : Prop := sv τ = sv σ ∧ ∃ es, (∀ K ρ, RE (sv σ) (cfg (ks ++ K) σ q ρ) es (cfg (ks' ++ K) τ q' (ρ ++ lg))) ∧ EFF es σ τ
section GO
variable {a b c : List Nat} {σ τ υ : MS} {q q1 q2 : QR} {l1 l2 : List EV}
theorem GOS.rc (h : GOS a σ q b τ q1 l1) : ∀ K ρ, RCm (sv σ) (cfg (a ++ K) σ q ρ) (cfg (b ++ K) τ q1 (ρ ++ l1)) := fun K ρ => by
  obtain ⟨-, es, h2, -⟩ := h
  exact (h2 K ρ).rc
theorem GOS.trans (h : GOS a σ q b τ q1 l1) (g : GOS b τ q1 c υ q2 l2) : GOS a σ q c υ q2 (l1 ++ l2) := by
  obtain ⟨h1, e1, h2, h3⟩ := h
  obtain ⟨g1, e2, g2, g3⟩ := g
  refine ⟨g1.trans h1, e1 ++ e2, fun K ρ => ?_, h3.trans g3⟩
  have x := h2 K ρ
  have y := g2 K (ρ ++ l1)
  rw [h1, List.append_assoc] at y
  exact x.trans y
theorem GOS.more (x : List Nat) (h : GOS a σ q b τ q1 l1) : GOS (a ++ x) σ q (b ++ x) τ q1 l1 := by
  obtain ⟨h1, es, h2, h3⟩ := h
  refine ⟨h1, es, fun K ρ => ?_, h3⟩
  have y := h2 (x ++ K) ρ
  rw [← List.append_assoc, ← List.append_assoc] at y
  exact y
theorem GOS.nop (h : vw τ = vw σ) (hr : srt τ = srt σ) : GOS a σ q a τ q [] := by
  unfold vw at h
  have h1 := congrArg Prod.fst h
  have h2 := congrArg (fun x => x.2.1) h
  have h3 := congrArg (fun x => x.2.2) h
  simp only at h1 h2 h3
  refine ⟨h3, [], fun K ρ => ?_, EFF.nil hr⟩
  unfold cfg
  rw [h1, h2, List.append_nil]
  exact RE.rfl
theorem GOS.then (h : GOS a σ q b τ q1 []) (g : GOS b τ q1 c υ q2 l2) : GOS a σ q c υ q2 l2 := h.trans g
theorem GOS.last (h : GOS a σ q b τ q1 l1) (e : vw υ = vw τ) (hr : srt υ = srt τ) : GOS a σ q b υ q1 l1 := by
  have := h.trans (GOS.nop (a := b) (q := q1) e hr)
  rw [List.append_nil] at this
  exact this
/-- a step that tells something -/
theorem GOS.ev {k : Nat} {es : List EW} (hk : k ≠ 999) (hs : sv τ = sv σ) (h : stk (sv σ) k (tks σ) (xs σ) q = some (b, tks τ, xs τ, q1, l1)) (he : evk k (tks σ) (xs σ) q = es) (hf : EFF es σ τ) : GOS [k] σ q b τ q1 l1 := ⟨hs, es, fun K ρ => RE.one (by
  show (match stk (sv σ) k (tks σ) (xs σ) q with
    | none => pF
    | some r => (r.1 ++ K, r.2.1, r.2.2.1, r.2.2.2.1, ρ ++ r.2.2.2.2)) = _
  rw [h]; rfl) ((evt_s hk h).trans he), hf⟩
theorem GOS.one {k : Nat} (hk : k ≠ 999) (hs : sv τ = sv σ) (hr : srt τ = srt σ) (he : evk k (tks σ) (xs σ) q = []) (h : stk (sv σ) k (tks σ) (xs σ) q = some (b, tks τ, xs τ, q1, l1)) : GOS [k] σ q b τ q1 l1 := GOS.ev hk hs h he (EFF.nil hr)
end GO
/-- numbers changed, nothing else -/
def CHG (σ τ : MS) (x : Int × Int × Int) : Prop := tks τ = tks σ ∧ xs τ = x ∧ sv τ = sv σ ∧ srt τ = srt σ
section TAGS
variable {σ τ : MS} {q : QR}
theorem g2 (h : ¬ σ.1 28 = 8) (a : CHG σ τ (σ.1 28 + 1, σ.1 29, σ.1 34)) : GOS [2] σ q [3, 6] τ q [] := GOS.one (by decide) a.2.2.1 a.2.2.2 rfl (by rw [a.1, a.2.1]; exact if_neg h)
theorem g3 : GOS [3] σ q [4, 8] σ q [] := GOS.one (by decide) rfl rfl rfl rfl
theorem g4 : GOS [4] σ q [0, 9] σ q [] := GOS.one (by decide) rfl rfl rfl rfl
theorem g7 (a : CHG σ τ (σ.1 28 - 1, σ.1 29, σ.1 34)) : GOS [7] σ q [] τ q [] := GOS.one (by decide) a.2.2.1 a.2.2.2 rfl (by rw [a.1, a.2.1]; rfl)
theorem g36y (h : σ.1 22 = 0) : GOS [36] σ q [] σ q [] := GOS.one (by decide) rfl rfl rfl (if_pos h)
theorem g36n (h : ¬ σ.1 22 = 0) : GOS [36] σ q [30, 36] σ q [] := GOS.one (by decide) rfl rfl rfl (if_neg h)
end TAGS
end
section
abbrev FP : Type := Int × Int
/-- a note: its place, its fault -/
abbrev NT : Type := Int × Int
def cntN (f p : Int) (a : FP) : FP := if a.1 = 0 ∨ p < a.2 ∨ (p = a.2 ∧ f < a.1) then (f, p) else a
def cnts (M : List NT) (a : FP) : FP := M.foldl (fun a n => cntN n.2 n.1 a) a
def LE2 (m n : NT) : Prop := m.1 < n.1 ∨ (m.1 = n.1 ∧ m.2 ≤ n.2)
theorem LE2.rfl {m : NT} : LE2 m m := Or.inr ⟨Eq.refl _, Int.le_refl _⟩
theorem LE2.trans {l m n : NT} (h : LE2 l m) (g : LE2 m n) : LE2 l n := by unfold LE2 at *; omega
def POS (N : List NT) : Prop := ∀ n ∈ N, 0 < n.2
/-- the least of all notes -/
def LST (N : List NT) (a : FP) : Prop := POS N ∧ ((N = [] ∧ a = (0, -1)) ∨ ((a.2, a.1) ∈ N ∧ ∀ n ∈ N, LE2 (a.2, a.1) n))
theorem LST.nil : LST [] (0, -1) := ⟨fun _ h => absurd h (by simp), Or.inl ⟨rfl, rfl⟩⟩
theorem LST.add {N : List NT} {a : FP} {f p : Int} (h : LST N a) (hf : 0 < f) : LST (N ++ [(p, f)]) (cntN f p a) := by
  obtain ⟨h0, h1⟩ := h
  refine ⟨fun n q => ?_, Or.inr ?_⟩
  · rcases List.mem_append.mp q with q | q
    · exact h0 n q
    · rw [List.mem_singleton.mp q]; exact hf
  · rcases h1 with ⟨h1, h2⟩ | ⟨h1, h2⟩
    · have e : cntN f p a = (f, p) := if_pos (Or.inl (by rw [h2]))
      rw [e, h1]
      refine ⟨by simp, fun n q => ?_⟩
      have e2 : n = (p, f) := by simpa using q
      rw [e2]; exact LE2.rfl
    · by_cases c : a.1 = 0 ∨ p < a.2 ∨ (p = a.2 ∧ f < a.1)
      · have e : cntN f p a = (f, p) := if_pos c
        have c2 : p < a.2 ∨ (p = a.2 ∧ f < a.1) := by
          have w : 0 < a.1 := h0 _ h1
          rcases c with c | c
          · omega
          · exact c
        rw [e]
        refine ⟨by simp, fun n q => ?_⟩
        rcases List.mem_append.mp q with q | q
        · have w := h2 n q
          unfold LE2 at *
          simp only at *
          omega
        · rw [List.mem_singleton.mp q]; exact LE2.rfl
      · have e : cntN f p a = a := if_neg c
        rw [e]
        refine ⟨List.mem_append.mpr (Or.inl h1), fun n q => ?_⟩
        rcases List.mem_append.mp q with q | q
        · exact h2 n q
        · rw [List.mem_singleton.mp q]
          unfold LE2
          simp only
          omega
theorem LST.fold : ∀ (M : List NT) {N : List NT} {a : FP}, LST N a → POS M → LST (N ++ M) (cnts M a)
  | [], N, a, h, _ => by rw [List.append_nil]; exact h
  | n :: M, N, a, h, g => by
    have q := LST.fold M (LST.add (p := n.1) h (g n List.mem_cons_self)) (fun m w => g m (List.mem_cons_of_mem _ w))
    rw [List.append_assoc] at q
    exact q
/-- each note of N stands behind one of M -/
def DMN (N M : List NT) : Prop := ∀ n ∈ N, ∃ m ∈ M, LE2 m n
theorem DMN.sub {N M : List NT} (h : ∀ n ∈ N, n ∈ M) : DMN N M := fun n q => ⟨n, h n q, LE2.rfl⟩
theorem DMN.mono {N M K : List NT} (h : DMN N M) (g : ∀ m ∈ M, m ∈ K) : DMN N K := fun n q => by
  obtain ⟨m, a, b⟩ := h n q
  exact ⟨m, g m a, b⟩
theorem DMN.trans {N M K : List NT} (h : DMN N M) (g : DMN M K) : DMN N K := fun n q => by
  obtain ⟨m, a, b⟩ := h n q
  obtain ⟨k, c, d⟩ := g m a
  exact ⟨k, c, d.trans b⟩
theorem DMN.app {N M K : List NT} (h : DMN N K) (g : DMN M K) : DMN (N ++ M) K := fun n q => (List.mem_append.mp q).elim (h n) (g n)
theorem DMN.nil {K : List NT} : DMN [] K := fun _ q => absurd q (by simp)
theorem LST.eq {N M : List NT} {a b : FP} (h : LST N a) (g : LST M b) (d1 : DMN N M) (d2 : DMN M N) : a = b := by
  obtain ⟨-, h⟩ := h
  obtain ⟨-, g⟩ := g
  rcases h with ⟨h1, h2⟩ | ⟨h1, h2⟩
  · rcases g with ⟨g1, g2⟩ | ⟨g1, g2⟩
    · rw [h2, g2]
    · obtain ⟨m, q, -⟩ := d2 _ g1
      rw [h1] at q; exact absurd q (by simp)
  · rcases g with ⟨g1, g2⟩ | ⟨g1, g2⟩
    · obtain ⟨m, q, -⟩ := d1 _ h1
      rw [g1] at q; exact absurd q (by simp)
    · obtain ⟨m, q, l⟩ := d1 _ h1
      obtain ⟨m2, q2, l2⟩ := d2 _ g1
      have x := (g2 m q).trans l
      have y := (h2 m2 q2).trans l2
      unfold LE2 at x y
      simp only at x y
      exact Prod.ext (by omega) (by omega)
/-- the reference's reader: phase, fault and place, routine, line, how many routines were told, their NAMES and counts, names of each routine -/
abbrev RS : Type := Int × FP × Int × Int × Int × (Int → Int64) × (Int → Int) × (Int → Int) × (Int → Int64)
abbrev RS.ph (r : RS) : Int := r.1
abbrev RS.fp (r : RS) : FP := r.2.1
abbrev RS.rt (r : RS) : Int := r.2.2.1
abbrev RS.ln (r : RS) : Int := r.2.2.2.1
abbrev RS.tn (r : RS) : Int := r.2.2.2.2.1
abbrev RS.tw (r : RS) : Int → Int64 := r.2.2.2.2.2.1
abbrev RS.tm (r : RS) : Int → Int := r.2.2.2.2.2.2.1
abbrev RS.nn (r : RS) : Int → Int := r.2.2.2.2.2.2.2.1
abbrev RS.nw (r : RS) : Int → Int64 := r.2.2.2.2.2.2.2.2
abbrev RS.mk (ph : Int) (fp : FP) (rt : Int) (ln : Int) (tn : Int) (tw : Int → Int64) (tm : Int → Int) (nn : Int → Int) (nw : Int → Int64) : RS := (ph, fp, rt, ln, tn, tw, tm, nn, nw)
def absR (A : MS) : RS := (A.1 25, (A.1 26, A.1 27), A.1 30, A.1 31, A.1 43, A.2.2 44, A.2.1 45, A.2.1 35, A.2.2 38)
def up1 {α : Type} (f : Int → α) (i : Int) (v : α) : Int → α := fun q => if q = i then v else f q
theorem up1_eq {α : Type} {f : Int → α} {i : Int} {v : α} : up1 f i v i = v := if_pos rfl
theorem up1_ne {α : Type} {f : Int → α} {i q : Int} {v : α} (h : q ≠ i) : up1 f i v q = f q := if_neg h
def fndN (r : RS) (w : Int64) : Prop := ∃ n, 0 ≤ n ∧ n < r.nn r.rt ∧ r.nw (12 * r.rt + n) = w
def fndR (r : RS) (w : Int64) (q : Int) : Prop := 0 ≤ q ∧ q < r.tn ∧ r.tw q = w ∧ ∀ j, 0 ≤ j → j < q → r.tw j ≠ w
noncomputable def nNm (r : RS) (w : Int64) (p : Int) : List NT := ifP (r.rt < 6 ∧ ¬ fndN r w ∧ r.nn r.rt = 12) [(p, 5)] []
noncomputable def sNm (r : RS) (w : Int64) : RS := ifP (r.ph = 1 ∧ r.rt < 6 ∧ ¬ fndN r w ∧ r.nn r.rt ≠ 12) (RS.mk r.ph r.fp r.rt r.ln r.tn r.tw r.tm (up1 r.nn r.rt (r.nn r.rt + 1)) (up1 r.nw (12 * r.rt + r.nn r.rt) w)) r
noncomputable def nRn (r : RS) (w : Int64) (p : Int) : List NT := ifP (r.ph = 1) (ifP (r.rt = 6) [(p, 5)] [] ++ ifP (∃ q, fndR r w q) [(p, 2)] []) []
noncomputable def nPa (r : RS) (w : Int64) (p m : Int) : List NT := ifP (r.ph = 1) (ifP (m = 4) [(p, 5)] [] ++ (ifP (r.rt < 6 ∧ fndN r w) [(p, 2)] [] ++ nNm r w p)) []
noncomputable def nCl (r : RS) (w : Int64) (p m : Int) : List NT := ifP (r.ph = 2) (ifP (∃ q, fndR r w q) (ifP (∃ q, fndR r w q ∧ m ≠ r.tm q) [(p, 4)] []) [(p, 3)]) []
noncomputable def nRf (r : RS) (e : EW) : List NT :=
  if e.1 = 2 then nRn r e.2.2.2 e.2.1
  else if e.1 = 3 then nPa r e.2.2.2 e.2.1 e.2.2.1
  else if e.1 = 7 then []
  else if e.1 = 4 then nNm r e.2.2.2 e.2.1
  else if e.1 = 5 then ifP (r.ln + 1 = 41) [(e.2.1, 5)] []
  else if e.1 = 1 then nCl r e.2.2.2 e.2.1 e.2.2.1
  else if e.1 = 0 then ifP (r.ph = 2 ∧ 120 < e.2.2.1) [(e.2.1, 5)] []
  else []
noncomputable def sR (r : RS) (e : EW) : RS :=
  if e.1 = 2 then ifP (r.ph = 1) (RS.mk r.ph r.fp r.rt r.ln (r.tn + 1) (up1 r.tw r.tn e.2.2.2) r.tm r.nn r.nw) r
  else if e.1 = 3 then ifP (r.ph = 1) (sNm r e.2.2.2) r
  else if e.1 = 7 then ifP (r.ph = 1) (RS.mk r.ph r.fp r.rt r.ln r.tn r.tw (up1 r.tm (r.tn - 1) e.2.2.1) r.nn r.nw) r
  else if e.1 = 4 then sNm r e.2.2.2
  else if e.1 = 5 then (RS.mk r.ph r.fp r.rt (r.ln + 1) r.tn r.tw r.tm r.nn r.nw)
  else if e.1 = 1 then r
  else if e.1 = 0 then (RS.mk r.ph r.fp (r.rt + 1) r.ln r.tn r.tw r.tm r.nn r.nw)
  else r
noncomputable def uR (r : RS) (e : EW) : RS := (RS.mk (sR r e).ph (cnts (nRf r e) r.fp) (sR r e).rt (sR r e).ln (sR r e).tn (sR r e).tw (sR r e).tm (sR r e).nn (sR r e).nw)
theorem abs_nt {f p : Int} {A : MS} (h : 0 < A.1 25) : absR (ntP f p A) = (RS.mk (absR A).ph (cntN f p (absR A).fp) (absR A).rt (absR A).ln (absR A).tn (absR A).tw (absR A).tm (absR A).nn (absR A).nw) := by
  by_cases c : A.1 26 = 0 ∨ p < A.1 27 ∨ (p = A.1 27 ∧ f < A.1 26)
  · have e : ntP f p A = sS 27 p (sS 26 f A) := if_pos ⟨h, c⟩
    have e2 : cntN f p (absR A).fp = (f, p) := if_pos c
    rw [e, e2]; rfl
  · have e : ntP f p A = A := if_neg (fun q => c q.2)
    have e2 : cntN f p (absR A).fp = (absR A).fp := if_neg c
    rw [e, e2]
theorem abs_nm {w : Int64} {p : Int} {A : MS} (h : 0 < A.1 25) : absR (nmP w p A) = (RS.mk (sNm (absR A) w).ph (cnts (nNm (absR A) w p) (absR A).fp) (sNm (absR A) w).rt (sNm (absR A) w).ln (sNm (absR A) w).tn (sNm (absR A) w).tw (sNm (absR A) w).tm (sNm (absR A) w).nn (sNm (absR A) w).nw) := by
  by_cases c1 : A.1 30 < 6
  · by_cases c2 : NFD A w
    · have e0 : nmP w p A = A := by unfold nmP; rw [ifP_t c1, ifP_t c2]
      have e1 : nNm (absR A) w p = [] := ifP_f (fun q => q.2.1 c2)
      have e2 : sNm (absR A) w = absR A := ifP_f (fun q => q.2.2.1 c2)
      rw [e0, e1, e2]; rfl
    · by_cases c3 : A.2.1 35 (A.1 30) = 12
      · have e0 : nmP w p A = ntP 5 p A := by unfold nmP; rw [ifP_t c1, ifP_f c2, ifP_t c3]
        have e1 : nNm (absR A) w p = [(p, 5)] := ifP_t ⟨c1, c2, c3⟩
        have e2 : sNm (absR A) w = absR A := ifP_f (fun q => q.2.2.2 c3)
        rw [e0, e1, e2, abs_nt h]; rfl
      · have e1 : nNm (absR A) w p = [] := ifP_f (fun q => c3 q.2.2)
        by_cases c4 : A.1 25 = 1
        · have e0 : nmP w p A = sA 35 (A.1 30) (A.2.1 35 (A.1 30) + 1) (sJ 38 (12 * A.1 30 + A.2.1 35 (A.1 30)) w A) := by unfold nmP; rw [ifP_t c1, ifP_f c2, ifP_f c3, ifP_t c4]
          have e2 : sNm (absR A) w = (RS.mk (absR A).ph (absR A).fp (absR A).rt (absR A).ln (absR A).tn (absR A).tw (absR A).tm (up1 (absR A).nn (absR A).rt ((absR A).nn (absR A).rt + 1)) (up1 (absR A).nw (12 * (absR A).rt + (absR A).nn (absR A).rt) w)) := ifP_t ⟨c4, c1, c2, c3⟩
          rw [e0, e1, e2]; rfl
        · have e0 : nmP w p A = A := by unfold nmP; rw [ifP_t c1, ifP_f c2, ifP_f c3, ifP_f c4]
          have e2 : sNm (absR A) w = absR A := ifP_f (fun q => c4 q.1)
          rw [e0, e1, e2]; rfl
  · have e0 : nmP w p A = A := by unfold nmP; rw [ifP_f c1]
    have e1 : nNm (absR A) w p = [] := ifP_f (fun q => c1 q.1)
    have e2 : sNm (absR A) w = absR A := ifP_f (fun q => c1 q.2.1)
    rw [e0, e1, e2]; rfl
theorem cnts_app (M N : List NT) (a : FP) : cnts (M ++ N) a = cnts N (cnts M a) := List.foldl_append
theorem abs_if {c : Prop} {f p : Int} {A : MS} (h : 0 < A.1 25) : absR (ifP c (ntP f p A) A) = (RS.mk (absR A).ph (cnts (ifP c [(p, f)] []) (absR A).fp) (absR A).rt (absR A).ln (absR A).tn (absR A).tw (absR A).tm (absR A).nn (absR A).nw) := by
  by_cases q : c
  · rw [ifP_t q, ifP_t q, abs_nt h]; rfl
  · rw [ifP_f q, ifP_f q]; rfl
theorem ifn_25 {c : Prop} {f p : Int} {A : MS} : (ifP c (ntP f p A) A).1 25 = A.1 25 := by
  by_cases q : c
  · rw [ifP_t q, ntP_25]
  · rw [ifP_f q]
theorem abs_rn {w : Int64} {p : Int} {A : MS} (h : 0 < A.1 25) : absR (rnP w p A) = (RS.mk (ifP ((absR A).ph = 1) (RS.mk (absR A).ph (absR A).fp (absR A).rt (absR A).ln ((absR A).tn + 1) (up1 (absR A).tw (absR A).tn w) (absR A).tm (absR A).nn (absR A).nw) (absR A)).ph (cnts (nRn (absR A) w p) (absR A).fp) (ifP ((absR A).ph = 1) (RS.mk (absR A).ph (absR A).fp (absR A).rt (absR A).ln ((absR A).tn + 1) (up1 (absR A).tw (absR A).tn w) (absR A).tm (absR A).nn (absR A).nw) (absR A)).rt (ifP ((absR A).ph = 1) (RS.mk (absR A).ph (absR A).fp (absR A).rt (absR A).ln ((absR A).tn + 1) (up1 (absR A).tw (absR A).tn w) (absR A).tm (absR A).nn (absR A).nw) (absR A)).ln (ifP ((absR A).ph = 1) (RS.mk (absR A).ph (absR A).fp (absR A).rt (absR A).ln ((absR A).tn + 1) (up1 (absR A).tw (absR A).tn w) (absR A).tm (absR A).nn (absR A).nw) (absR A)).tn (ifP ((absR A).ph = 1) (RS.mk (absR A).ph (absR A).fp (absR A).rt (absR A).ln ((absR A).tn + 1) (up1 (absR A).tw (absR A).tn w) (absR A).tm (absR A).nn (absR A).nw) (absR A)).tw (ifP ((absR A).ph = 1) (RS.mk (absR A).ph (absR A).fp (absR A).rt (absR A).ln ((absR A).tn + 1) (up1 (absR A).tw (absR A).tn w) (absR A).tm (absR A).nn (absR A).nw) (absR A)).tm (ifP ((absR A).ph = 1) (RS.mk (absR A).ph (absR A).fp (absR A).rt (absR A).ln ((absR A).tn + 1) (up1 (absR A).tw (absR A).tn w) (absR A).tm (absR A).nn (absR A).nw) (absR A)).nn (ifP ((absR A).ph = 1) (RS.mk (absR A).ph (absR A).fp (absR A).rt (absR A).ln ((absR A).tn + 1) (up1 (absR A).tw (absR A).tn w) (absR A).tm (absR A).nn (absR A).nw) (absR A)).nw) := by
  by_cases c : A.1 25 = 1
  · have e0 : rnP w p A = sS 43 (A.1 43 + 1) (sJ 44 (A.1 43) w (ifP (∃ q, RFD A w q) (ntP 2 p (ifP (A.1 30 = 6) (ntP 5 p A) A)) (ifP (A.1 30 = 6) (ntP 5 p A) A))) := by unfold rnP; rw [ifP_t c]
    have e1 : nRn (absR A) w p = ifP ((absR A).rt = 6) [(p, 5)] [] ++ ifP (∃ q, fndR (absR A) w q) [(p, 2)] [] := ifP_t c
    have e2 : (ifP ((absR A).ph = 1) (RS.mk (absR A).ph (absR A).fp (absR A).rt (absR A).ln ((absR A).tn + 1) (up1 (absR A).tw (absR A).tn w) (absR A).tm (absR A).nn (absR A).nw) (absR A)) = (RS.mk (absR A).ph (absR A).fp (absR A).rt (absR A).ln ((absR A).tn + 1) (up1 (absR A).tw (absR A).tn w) (absR A).tm (absR A).nn (absR A).nw) := ifP_t c
    have e3 := abs_if (c := ∃ q, RFD A w q) (f := 2) (p := p) (A := ifP (A.1 30 = 6) (ntP 5 p A) A) (by rw [ifn_25]; exact h)
    rw [abs_if (c := A.1 30 = 6) (f := 5) (p := p) (A := A) h] at e3
    rw [e0, e1, e2, cnts_app]
    generalize (ifP (∃ q, RFD A w q) (ntP 2 p (ifP (A.1 30 = 6) (ntP 5 p A) A)) (ifP (A.1 30 = 6) (ntP 5 p A) A)) = X at e3 ⊢
    show ((RS.mk (absR X).ph (absR X).fp (absR X).rt (absR X).ln (A.1 43 + 1) (up1 (absR X).tw (A.1 43) w) (absR X).tm (absR X).nn (absR X).nw) : RS) = _
    rw [e3]
    rfl
  · have e0 : rnP w p A = A := by unfold rnP; rw [ifP_f c]
    have e1 : nRn (absR A) w p = [] := ifP_f c
    have e2 : (ifP ((absR A).ph = 1) (RS.mk (absR A).ph (absR A).fp (absR A).rt (absR A).ln ((absR A).tn + 1) (up1 (absR A).tw (absR A).tn w) (absR A).tm (absR A).nn (absR A).nw) (absR A)) = absR A := ifP_f c
    rw [e0, e1, e2]; rfl
theorem abs_pa {w : Int64} {p m : Int} {A : MS} (h : 0 < A.1 25) : absR (paP w p m A) = (RS.mk (ifP ((absR A).ph = 1) (sNm (absR A) w) (absR A)).ph (cnts (nPa (absR A) w p m) (absR A).fp) (ifP ((absR A).ph = 1) (sNm (absR A) w) (absR A)).rt (ifP ((absR A).ph = 1) (sNm (absR A) w) (absR A)).ln (ifP ((absR A).ph = 1) (sNm (absR A) w) (absR A)).tn (ifP ((absR A).ph = 1) (sNm (absR A) w) (absR A)).tw (ifP ((absR A).ph = 1) (sNm (absR A) w) (absR A)).tm (ifP ((absR A).ph = 1) (sNm (absR A) w) (absR A)).nn (ifP ((absR A).ph = 1) (sNm (absR A) w) (absR A)).nw) := by
  by_cases c : A.1 25 = 1
  · have e0 : paP w p m A = nmP w p (ifP (A.1 30 < 6 ∧ NFD A w) (ntP 2 p (ifP (m = 4) (ntP 5 p A) A)) (ifP (m = 4) (ntP 5 p A) A)) := by unfold paP; rw [ifP_t c]
    have e1 : nPa (absR A) w p m = ifP (m = 4) [(p, 5)] [] ++ (ifP ((absR A).rt < 6 ∧ fndN (absR A) w) [(p, 2)] [] ++ nNm (absR A) w p) := ifP_t c
    have e2 : (ifP ((absR A).ph = 1) (sNm (absR A) w) (absR A)) = sNm (absR A) w := ifP_t c
    have e3 := abs_if (c := A.1 30 < 6 ∧ NFD A w) (f := 2) (p := p) (A := ifP (m = 4) (ntP 5 p A) A) (by rw [ifn_25]; exact h)
    rw [abs_if (c := m = 4) (f := 5) (p := p) (A := A) h] at e3
    have e4 : 0 < (ifP (A.1 30 < 6 ∧ NFD A w) (ntP 2 p (ifP (m = 4) (ntP 5 p A) A)) (ifP (m = 4) (ntP 5 p A) A)).1 25 := by rw [ifn_25, ifn_25]; exact h
    rw [e0, e1, e2, cnts_app, cnts_app, abs_nm e4]
    generalize (ifP (A.1 30 < 6 ∧ NFD A w) (ntP 2 p (ifP (m = 4) (ntP 5 p A) A)) (ifP (m = 4) (ntP 5 p A) A)) = X at e3 ⊢
    rw [e3]
    have f0 : ∀ (a b : FP) (r : RS), ((RS.mk (sNm (RS.mk r.ph (a) r.rt r.ln r.tn r.tw r.tm r.nn r.nw) w).ph (b) (sNm (RS.mk r.ph (a) r.rt r.ln r.tn r.tw r.tm r.nn r.nw) w).rt (sNm (RS.mk r.ph (a) r.rt r.ln r.tn r.tw r.tm r.nn r.nw) w).ln (sNm (RS.mk r.ph (a) r.rt r.ln r.tn r.tw r.tm r.nn r.nw) w).tn (sNm (RS.mk r.ph (a) r.rt r.ln r.tn r.tw r.tm r.nn r.nw) w).tw (sNm (RS.mk r.ph (a) r.rt r.ln r.tn r.tw r.tm r.nn r.nw) w).tm (sNm (RS.mk r.ph (a) r.rt r.ln r.tn r.tw r.tm r.nn r.nw) w).nn (sNm (RS.mk r.ph (a) r.rt r.ln r.tn r.tw r.tm r.nn r.nw) w).nw) : RS) = (RS.mk (sNm r w).ph (b) (sNm r w).rt (sNm r w).ln (sNm r w).tn (sNm r w).tw (sNm r w).tm (sNm r w).nn (sNm r w).nw) := fun a b r => by
      unfold sNm
      by_cases q : r.ph = 1 ∧ r.rt < 6 ∧ ¬ fndN r w ∧ r.nn r.rt ≠ 12
      · rw [ifP_t (show ((RS.mk r.ph (a) r.rt r.ln r.tn r.tw r.tm r.nn r.nw) : RS).ph = 1 ∧ ((RS.mk r.ph (a) r.rt r.ln r.tn r.tw r.tm r.nn r.nw) : RS).rt < 6 ∧ ¬ fndN ((RS.mk r.ph (a) r.rt r.ln r.tn r.tw r.tm r.nn r.nw) : RS) w ∧ ((RS.mk r.ph (a) r.rt r.ln r.tn r.tw r.tm r.nn r.nw) : RS).nn ((RS.mk r.ph (a) r.rt r.ln r.tn r.tw r.tm r.nn r.nw) : RS).rt ≠ 12 from q), ifP_t q]
      · rw [ifP_f (show ¬ (((RS.mk r.ph (a) r.rt r.ln r.tn r.tw r.tm r.nn r.nw) : RS).ph = 1 ∧ ((RS.mk r.ph (a) r.rt r.ln r.tn r.tw r.tm r.nn r.nw) : RS).rt < 6 ∧ ¬ fndN ((RS.mk r.ph (a) r.rt r.ln r.tn r.tw r.tm r.nn r.nw) : RS) w ∧ ((RS.mk r.ph (a) r.rt r.ln r.tn r.tw r.tm r.nn r.nw) : RS).nn ((RS.mk r.ph (a) r.rt r.ln r.tn r.tw r.tm r.nn r.nw) : RS).rt ≠ 12) from q), ifP_f q]
    exact f0 _ _ (absR A)
  · have e0 : paP w p m A = A := by unfold paP; rw [ifP_f c]
    have e1 : nPa (absR A) w p m = [] := ifP_f c
    have e2 : (ifP ((absR A).ph = 1) (sNm (absR A) w) (absR A)) = absR A := ifP_f c
    rw [e0, e1, e2]; rfl
theorem abs_pe {m : Int} {A : MS} : absR (peP m A) = ifP ((absR A).ph = 1) (RS.mk (absR A).ph (absR A).fp (absR A).rt (absR A).ln (absR A).tn (absR A).tw (up1 (absR A).tm ((absR A).tn - 1) m) (absR A).nn (absR A).nw) (absR A) := by
  by_cases c : A.1 25 = 1
  · rw [ifP_t (show (absR A).ph = 1 from c)]
    unfold peP
    rw [ifP_t c]
    by_cases q : A.1 30 < 6
    · rw [ifP_t q]; rfl
    · rw [ifP_f q]; rfl
  · rw [ifP_f (show ¬ (absR A).ph = 1 from c)]
    unfold peP
    rw [ifP_f c]
theorem abs_ln {p : Int} {A : MS} (h : 0 < A.1 25) : absR (lnP p A) = (RS.mk (absR A).ph (cnts (ifP ((absR A).ln + 1 = 41) [(p, 5)] []) (absR A).fp) (absR A).rt ((absR A).ln + 1) (absR A).tn (absR A).tw (absR A).tm (absR A).nn (absR A).nw) := by
  by_cases c : A.1 31 + 1 = 41
  · have e0 : lnP p A = ntP 5 p (sS 31 (A.1 31 + 1) A) := if_pos c
    rw [e0, ifP_t (show (absR A).ln + 1 = 41 from c), abs_nt (show 0 < (sS 31 (A.1 31 + 1) A).1 25 from h)]; rfl
  · have e0 : lnP p A = sS 31 (A.1 31 + 1) A := if_neg c
    rw [e0, ifP_f (show ¬ (absR A).ln + 1 = 41 from c)]; rfl
theorem abs_cl {w : Int64} {p m : Int} {A : MS} (h : 0 < A.1 25) : absR (clP w p m A) = (RS.mk (absR A).ph (cnts (nCl (absR A) w p m) (absR A).fp) (absR A).rt (absR A).ln (absR A).tn (absR A).tw (absR A).tm (absR A).nn (absR A).nw) := by
  unfold clP nCl
  by_cases c : A.1 25 = 2
  · rw [ifP_t c, ifP_t (show (absR A).ph = 2 from c)]
    by_cases c1 : ∃ q, RFD A w q
    · rw [ifP_t c1, ifP_t (show ∃ q, fndR (absR A) w q from c1)]
      exact abs_if h
    · rw [ifP_f c1, ifP_f (show ¬ ∃ q, fndR (absR A) w q from c1), abs_nt h]; rfl
  · rw [ifP_f c, ifP_f (show ¬ (absR A).ph = 2 from c)]; rfl
theorem abs_re {p m : Int} {A : MS} (h : 0 < A.1 25) : absR (reP p m A) = (RS.mk (absR A).ph (cnts (ifP ((absR A).ph = 2 ∧ 120 < m) [(p, 5)] []) (absR A).fp) ((absR A).rt + 1) (absR A).ln (absR A).tn (absR A).tw (absR A).tm (absR A).nn (absR A).nw) := by
  by_cases c : A.1 25 = 2 ∧ 120 < m
  · have e0 : reP p m A = sS 30 (A.1 30 + 1) (ntP 5 p A) := if_pos c
    rw [e0, ifP_t (show (absR A).ph = 2 ∧ 120 < m from c)]
    show ((RS.mk (absR (ntP 5 p A)).ph (absR (ntP 5 p A)).fp (A.1 30 + 1) (absR (ntP 5 p A)).ln (absR (ntP 5 p A)).tn (absR (ntP 5 p A)).tw (absR (ntP 5 p A)).tm (absR (ntP 5 p A)).nn (absR (ntP 5 p A)).nw) : RS) = _
    rw [abs_nt h]; rfl
  · have e0 : reP p m A = sS 30 (A.1 30 + 1) A := if_neg c
    rw [e0, ifP_f (show ¬ ((absR A).ph = 2 ∧ 120 < m) from c)]; rfl
theorem abs_upR {A : MS} (e : EW) (h : 0 < A.1 25) : absR (upR A e) = uR (absR A) e := by
  unfold upR uR nRf sR
  by_cases k2 : e.1 = 2
  · simp only [if_pos k2]; exact abs_rn h
  by_cases k3 : e.1 = 3
  · simp only [if_neg k2, if_pos k3]; exact abs_pa h
  by_cases k7 : e.1 = 7
  · simp only [if_neg k2, if_neg k3, if_pos k7]; rw [abs_pe]
    by_cases c : (absR A).ph = 1
    · rw [ifP_t c]; rfl
    · rw [ifP_f c]; rfl
  by_cases k4 : e.1 = 4
  · simp only [if_neg k2, if_neg k3, if_neg k7, if_pos k4]; exact abs_nm h
  by_cases k5 : e.1 = 5
  · simp only [if_neg k2, if_neg k3, if_neg k7, if_neg k4, if_pos k5]; exact abs_ln h
  by_cases k1 : e.1 = 1
  · simp only [if_neg k2, if_neg k3, if_neg k7, if_neg k4, if_neg k5, if_pos k1]; exact abs_cl h
  by_cases k0 : e.1 = 0
  · simp only [if_neg k2, if_neg k3, if_neg k7, if_neg k4, if_neg k5, if_neg k1, if_pos k0]; exact abs_re h
  · simp only [if_neg k2, if_neg k3, if_neg k7, if_neg k4, if_neg k5, if_neg k1, if_neg k0]; rfl
theorem abs_fold (es : List EW) : ∀ {A : MS}, 0 < A.1 25 → absR (es.foldl upR A) = es.foldl uR (absR A) := by
  induction es with
  | nil => intro A _; rfl
  | cons e es ih =>
    intro A h
    show absR (es.foldl upR (upR A e)) = es.foldl uR (uR (absR A) e)
    rw [ih (by rw [upR_25]; exact h), abs_upR e h]
end
section
abbrev CS : Type := FP × Int × (Int → Int64) × (Int → Int) × Int × (Int → Int64) × (Int → Int) × (Int → Int) × Int × (Int → Int64) × Int
abbrev CS.fp (r : CS) : FP := r.1
abbrev CS.rn (r : CS) : Int := r.2.1
abbrev CS.rk (r : CS) : Int → Int64 := r.2.2.1
abbrev CS.rp (r : CS) : Int → Int := r.2.2.2.1
abbrev CS.cn (r : CS) : Int := r.2.2.2.2.1
abbrev CS.ck (r : CS) : Int → Int64 := r.2.2.2.2.2.1
abbrev CS.cp (r : CS) : Int → Int := r.2.2.2.2.2.2.1
abbrev CS.cc (r : CS) : Int → Int := r.2.2.2.2.2.2.2.1
abbrev CS.nn (r : CS) : Int := r.2.2.2.2.2.2.2.2.1
abbrev CS.nk (r : CS) : Int → Int64 := r.2.2.2.2.2.2.2.2.2.1
abbrev CS.m (r : CS) : Int := r.2.2.2.2.2.2.2.2.2.2
abbrev CS.mk (fp : FP) (rn : Int) (rk : Int → Int64) (rp : Int → Int) (cn : Int) (ck : Int → Int64) (cp : Int → Int) (cc : Int → Int) (nn : Int) (nk : Int → Int64) (m : Int) : CS := (fp, rn, rk, rp, cn, ck, cp, cc, nn, nk, m)
def fndC (c : CS) (w : Int64) : Prop := ∃ n, 0 ≤ n ∧ n < c.nn ∧ c.nk n = w
def fndQ (c : CS) (w : Int64) : Prop := ∃ q, 0 ≤ q ∧ q < c.rn ∧ c.rk q = w
noncomputable def nCn (c : CS) (w : Int64) (p : Int) : List NT := ifP (¬ fndC c w ∧ 12 ≤ c.nn) [(p, 5)] []
noncomputable def sCn (c : CS) (w : Int64) : CS := ifP (¬ fndC c w ∧ ¬ 12 ≤ c.nn) (CS.mk c.fp c.rn c.rk c.rp c.cn c.ck c.cp c.cc (c.nn + 1) (up1 c.nk c.nn w) c.m) c
noncomputable def nC (c : CS) (e : EW) : List NT :=
  if e.1 = 2 then ifP (fndQ c e.2.2.2) [(e.2.1, 2)] [] ++ ifP (6 ≤ c.rn) [(e.2.1, 5)] []
  else if e.1 = 3 then ifP (fndC c e.2.2.2) [(e.2.1, 2)] [] ++ (ifP (4 ≤ e.2.2.1) [(e.2.1, 5)] [] ++ nCn c e.2.2.2 e.2.1)
  else if e.1 = 7 then []
  else if e.1 = 4 then nCn c e.2.2.2 e.2.1
  else if e.1 = 5 then ifP (40 < c.m + 1) [(e.2.1, 5)] []
  else if e.1 = 1 then []
  else if e.1 = 0 then ifP (120 < e.2.2.1) [(e.2.1, 5)] []
  else []
noncomputable def sC (c : CS) (e : EW) : CS :=
  if e.1 = 2 then (CS.mk c.fp (c.rn + 1) (up1 c.rk c.rn e.2.2.2) (up1 c.rp c.rn 0) c.cn c.ck c.cp c.cc (0) c.nk c.m)
  else if e.1 = 3 then (CS.mk (sCn c e.2.2.2).fp (sCn c e.2.2.2).rn (sCn c e.2.2.2).rk (up1 c.rp (c.rn - 1) (e.2.2.1 + 1)) (sCn c e.2.2.2).cn (sCn c e.2.2.2).ck (sCn c e.2.2.2).cp (sCn c e.2.2.2).cc (sCn c e.2.2.2).nn (sCn c e.2.2.2).nk (sCn c e.2.2.2).m)
  else if e.1 = 7 then c
  else if e.1 = 4 then sCn c e.2.2.2
  else if e.1 = 5 then (CS.mk c.fp c.rn c.rk c.rp c.cn c.ck c.cp c.cc c.nn c.nk (c.m + 1))
  else if e.1 = 1 then (CS.mk c.fp c.rn c.rk c.rp (c.cn + 1) (up1 c.ck c.cn e.2.2.2) (up1 c.cp c.cn e.2.1) (up1 c.cc c.cn e.2.2.1) c.nn c.nk c.m)
  else c
noncomputable def uC (c : CS) (e : EW) : CS := (CS.mk (cnts (nC c e) c.fp) (sC c e).rn (sC c e).rk (sC c e).rp (sC c e).cn (sC c e).ck (sC c e).cp (sC c e).cc (sC c e).nn (sC c e).nk (sC c e).m)
/-- how tellings follow each other: md 0 outside of a routine, 1 in its parameters (pc so far), 2 behind them; lo: no place lies ahead of it -/
def SHP : List EW → Nat → Int → Int → Prop
  | [], md, _, _ => md = 0
  | e :: es, md, pc, lo =>
    (md = 0 ∧ e.1 = 2 ∧ lo ≤ e.2.1 ∧ SHP es 1 0 (e.2.1 + 1)) ∨
    (md = 1 ∧ e.1 = 3 ∧ lo ≤ e.2.1 ∧ e.2.2.1 = pc ∧ SHP es 1 (pc + 1) e.2.1) ∨
    (md = 1 ∧ e.1 = 7 ∧ e.2.2.1 = pc ∧ SHP es 2 0 lo) ∨
    (md = 2 ∧ (e.1 = 4 ∨ e.1 = 5) ∧ lo ≤ e.2.1 ∧ SHP es 2 0 e.2.1) ∨
    (md = 2 ∧ e.1 = 1 ∧ SHP es 2 0 lo) ∨
    (md = 2 ∧ e.1 = 0 ∧ SHP es 0 0 lo)
theorem fst_ex {f : Int → Int64} {w : Int64} {n : Int} (h : ∃ q, 0 ≤ q ∧ q < n ∧ f q = w) : ∃ q, 0 ≤ q ∧ q < n ∧ f q = w ∧ ∀ j, 0 ≤ j → j < q → f j ≠ w := by
  obtain ⟨q, h0, h1, h2⟩ := h
  have key : ∀ k : Nat, ∀ q : Int, q.toNat = k → 0 ≤ q → q < n → f q = w → ∃ q, 0 ≤ q ∧ q < n ∧ f q = w ∧ ∀ j, 0 ≤ j → j < q → f j ≠ w := by
    intro k
    induction k using Nat.strongRecOn with
    | _ k ih =>
      intro q e a b c
      by_cases z : ∃ j, 0 ≤ j ∧ j < q ∧ f j = w
      · obtain ⟨j, j0, j1, j2⟩ := z
        exact ih j.toNat (by omega) j rfl j0 (by omega) j2
      · exact ⟨q, a, b, c, fun j x y v => z ⟨j, x, y, v⟩⟩
  exact key _ q rfl h0 h1 h2
theorem fndR_ex {r : RS} {w : Int64} : (∃ q, fndR r w q) ↔ ∃ q, 0 ≤ q ∧ q < r.tn ∧ r.tw q = w := by
  constructor
  · rintro ⟨q, a, b, c, -⟩; exact ⟨q, a, b, c⟩
  · intro h; exact fst_ex h
theorem pos_if {c : Prop} {p f : Int} (h : 0 < f) : POS (ifP c [(p, f)] []) := fun n q => by
  by_cases z : c
  · rw [ifP_t z] at q; rw [List.mem_singleton.mp q]; exact h
  · rw [ifP_f z] at q; exact absurd q (by simp)
theorem POS.app {N M : List NT} (h : POS N) (g : POS M) : POS (N ++ M) := fun n q => (List.mem_append.mp q).elim (h n) (g n)
theorem POS.nil : POS [] := fun _ q => absurd q (by simp)
theorem pos_C (c : CS) (e : EW) : POS (nC c e) := by
  unfold nC nCn
  by_cases k2 : e.1 = 2
  · rw [if_pos k2]; exact (pos_if (by omega)).app (pos_if (by omega))
  rw [if_neg k2]
  by_cases k3 : e.1 = 3
  · rw [if_pos k3]; exact (pos_if (by omega)).app ((pos_if (by omega)).app (pos_if (by omega)))
  rw [if_neg k3]
  by_cases k7 : e.1 = 7
  · rw [if_pos k7]; exact POS.nil
  rw [if_neg k7]
  by_cases k4 : e.1 = 4
  · rw [if_pos k4]; exact pos_if (by omega)
  rw [if_neg k4]
  by_cases k5 : e.1 = 5
  · rw [if_pos k5]; exact pos_if (by omega)
  rw [if_neg k5]
  by_cases k1 : e.1 = 1
  · rw [if_pos k1]; exact POS.nil
  rw [if_neg k1]
  by_cases k0 : e.1 = 0
  · rw [if_pos k0]; exact pos_if (by omega)
  rw [if_neg k0]; exact POS.nil
theorem pos_ifL {c : Prop} {M N : List NT} (h : POS M) (g : POS N) : POS (ifP c M N) := by
  by_cases z : c
  · rw [ifP_t z]; exact h
  · rw [ifP_f z]; exact g
theorem pos_R (r : RS) (e : EW) : POS (nRf r e) := by
  unfold nRf nRn nPa nCl nNm
  by_cases k2 : e.1 = 2
  · rw [if_pos k2]; exact pos_ifL ((pos_if (by omega)).app (pos_if (by omega))) POS.nil
  rw [if_neg k2]
  by_cases k3 : e.1 = 3
  · rw [if_pos k3]; exact pos_ifL ((pos_if (by omega)).app ((pos_if (by omega)).app (pos_if (by omega)))) POS.nil
  rw [if_neg k3]
  by_cases k7 : e.1 = 7
  · rw [if_pos k7]; exact POS.nil
  rw [if_neg k7]
  by_cases k4 : e.1 = 4
  · rw [if_pos k4]; exact pos_if (by omega)
  rw [if_neg k4]
  by_cases k5 : e.1 = 5
  · rw [if_pos k5]; exact pos_if (by omega)
  rw [if_neg k5]
  by_cases k1 : e.1 = 1
  · rw [if_pos k1]; exact pos_ifL (pos_ifL (pos_if (by omega)) (fun n q => by rw [List.mem_singleton.mp q]; show (0 : Int) < 3; omega)) POS.nil
  rw [if_neg k1]
  by_cases k0 : e.1 = 0
  · rw [if_pos k0]; exact pos_if (by omega)
  rw [if_neg k0]; exact POS.nil
theorem mem_if {c : Prop} {n m : NT} (h : n ∈ ifP c [m] []) : c ∧ n = m := by
  by_cases z : c
  · rw [ifP_t z] at h; exact ⟨z, List.mem_singleton.mp h⟩
  · rw [ifP_f z] at h; exact absurd h (by simp)
theorem mem_ift {c : Prop} {m : NT} (h : c) : m ∈ ifP c [m] [] := by rw [ifP_t h]; simp
noncomputable def zE (e : EW) : List NT := ifP (e.1 = 0 ∧ 120 < e.2.2.1) [(e.2.1, 5)] []
/-- both readers behind the same tellings, the reference's in phase 1 -/
def K1 (r : RS) (c : CS) (N1 NC Z : List NT) (md : Nat) (pc lo : Int) : Prop :=
  (r.ph = 1) ∧
  (LST N1 r.fp) ∧
  (LST NC c.fp) ∧
  (DMN N1 NC) ∧
  (DMN NC (N1 ++ Z)) ∧
  (∀ n ∈ Z, n ∈ NC) ∧
  (0 ≤ r.rt) ∧
  (r.tn = c.rn) ∧
  (md = 0 ∧ c.rn = r.rt ∨ md ≠ 0 ∧ c.rn = r.rt + 1) ∧
  (∀ j, 0 ≤ j → j < c.rn → r.tw j = c.rk j) ∧
  (∀ j, 0 ≤ j → (j < c.rn - 1 ∨ j < c.rn ∧ md ≠ 1) → r.tm j = c.rp j) ∧
  (md = 1 → c.rp (c.rn - 1) = pc) ∧
  (r.ln = c.m) ∧
  (md ≠ 0 → r.rt < 6 → r.nn r.rt = c.nn ∧ ∀ i, 0 ≤ i → i < c.nn → r.nw (12 * r.rt + i) = c.nk i) ∧
  (0 ≤ c.nn ∧ c.nn ≤ 12) ∧
  (∀ k, (r.rt < k ∨ r.rt = k ∧ md = 0) → k < 6 → r.nn k = 0) ∧
  (7 ≤ c.rn → ∃ p, (p, 5) ∈ N1 ∧ p < lo) ∧
  (41 ≤ c.m → ∃ p, (p, 5) ∈ N1 ∧ p ≤ lo) ∧
  (md = 1 → 5 ≤ pc → ∃ p, (p, 5) ∈ N1 ∧ p ≤ lo)
section K1S
variable {r : RS} {c : CS} {N1 NC Z : List NT} {md : Nat} {pc lo : Int}
theorem K1.ph (h : K1 r c N1 NC Z md pc lo) : r.ph = 1 := h.1
theorem K1.l1 (h : K1 r c N1 NC Z md pc lo) : LST N1 r.fp := h.2.1
theorem K1.l2 (h : K1 r c N1 NC Z md pc lo) : LST NC c.fp := h.2.2.1
theorem K1.d1 (h : K1 r c N1 NC Z md pc lo) : DMN N1 NC := h.2.2.2.1
theorem K1.d2 (h : K1 r c N1 NC Z md pc lo) : DMN NC (N1 ++ Z) := h.2.2.2.2.1
theorem K1.dz (h : K1 r c N1 NC Z md pc lo) : ∀ n ∈ Z, n ∈ NC := h.2.2.2.2.2.1
theorem K1.rt0 (h : K1 r c N1 NC Z md pc lo) : 0 ≤ r.rt := h.2.2.2.2.2.2.1
theorem K1.tn (h : K1 r c N1 NC Z md pc lo) : r.tn = c.rn := h.2.2.2.2.2.2.2.1
theorem K1.rt (h : K1 r c N1 NC Z md pc lo) : md = 0 ∧ c.rn = r.rt ∨ md ≠ 0 ∧ c.rn = r.rt + 1 := h.2.2.2.2.2.2.2.2.1
theorem K1.tw (h : K1 r c N1 NC Z md pc lo) : ∀ j, 0 ≤ j → j < c.rn → r.tw j = c.rk j := h.2.2.2.2.2.2.2.2.2.1
theorem K1.tm (h : K1 r c N1 NC Z md pc lo) : ∀ j, 0 ≤ j → (j < c.rn - 1 ∨ j < c.rn ∧ md ≠ 1) → r.tm j = c.rp j := h.2.2.2.2.2.2.2.2.2.2.1
theorem K1.pp (h : K1 r c N1 NC Z md pc lo) : md = 1 → c.rp (c.rn - 1) = pc := h.2.2.2.2.2.2.2.2.2.2.2.1
theorem K1.ln (h : K1 r c N1 NC Z md pc lo) : r.ln = c.m := h.2.2.2.2.2.2.2.2.2.2.2.2.1
theorem K1.nn (h : K1 r c N1 NC Z md pc lo) : md ≠ 0 → r.rt < 6 → r.nn r.rt = c.nn ∧ ∀ i, 0 ≤ i → i < c.nn → r.nw (12 * r.rt + i) = c.nk i := h.2.2.2.2.2.2.2.2.2.2.2.2.2.1
theorem K1.nb (h : K1 r c N1 NC Z md pc lo) : 0 ≤ c.nn ∧ c.nn ≤ 12 := h.2.2.2.2.2.2.2.2.2.2.2.2.2.2.1
theorem K1.nl (h : K1 r c N1 NC Z md pc lo) : ∀ k, (r.rt < k ∨ r.rt = k ∧ md = 0) → k < 6 → r.nn k = 0 := h.2.2.2.2.2.2.2.2.2.2.2.2.2.2.2.1
theorem K1.k7 (h : K1 r c N1 NC Z md pc lo) : 7 ≤ c.rn → ∃ p, (p, 5) ∈ N1 ∧ p < lo := h.2.2.2.2.2.2.2.2.2.2.2.2.2.2.2.2.1
theorem K1.k41 (h : K1 r c N1 NC Z md pc lo) : 41 ≤ c.m → ∃ p, (p, 5) ∈ N1 ∧ p ≤ lo := h.2.2.2.2.2.2.2.2.2.2.2.2.2.2.2.2.2.1
theorem K1.k5 (h : K1 r c N1 NC Z md pc lo) : md = 1 → 5 ≤ pc → ∃ p, (p, 5) ∈ N1 ∧ p ≤ lo := h.2.2.2.2.2.2.2.2.2.2.2.2.2.2.2.2.2.2
end K1S
theorem sNm_q (r : RS) (w : Int64) : (sNm r w).ph = r.ph ∧ (sNm r w).rt = r.rt ∧ (sNm r w).ln = r.ln ∧ (sNm r w).tn = r.tn ∧ (sNm r w).tw = r.tw ∧ (sNm r w).tm = r.tm ∧ ∀ k, k ≠ r.rt → (sNm r w).nn k = r.nn k := by
  unfold sNm
  by_cases z : r.ph = 1 ∧ r.rt < 6 ∧ ¬ fndN r w ∧ r.nn r.rt ≠ 12
  · rw [ifP_t z]; exact ⟨rfl, rfl, rfl, rfl, rfl, rfl, fun k h => up1_ne h⟩
  · rw [ifP_f z]; exact ⟨rfl, rfl, rfl, rfl, rfl, rfl, fun _ _ => rfl⟩
theorem sCn_q (c : CS) (w : Int64) : (sCn c w).rn = c.rn ∧ (sCn c w).rk = c.rk ∧ (sCn c w).rp = c.rp ∧ (sCn c w).cn = c.cn ∧ (sCn c w).ck = c.ck ∧ (sCn c w).cp = c.cp ∧ (sCn c w).cc = c.cc ∧ (sCn c w).m = c.m := by
  unfold sCn
  by_cases z : ¬ fndC c w ∧ ¬ 12 ≤ c.nn
  · rw [ifP_t z]; exact ⟨rfl, rfl, rfl, rfl, rfl, rfl, rfl, rfl⟩
  · rw [ifP_f z]; exact ⟨rfl, rfl, rfl, rfl, rfl, rfl, rfl, rfl⟩
theorem sCn_b {c : CS} {w : Int64} (h : 0 ≤ c.nn ∧ c.nn ≤ 12) : 0 ≤ (sCn c w).nn ∧ (sCn c w).nn ≤ 12 := by
  unfold sCn
  by_cases z : ¬ fndC c w ∧ ¬ 12 ≤ c.nn
  · rw [ifP_t z]; show 0 ≤ c.nn + 1 ∧ c.nn + 1 ≤ 12; omega
  · rw [ifP_f z]; exact h
def NCP (r : RS) (c : CS) : Prop := r.nn r.rt = c.nn ∧ ∀ i, 0 ≤ i → i < c.nn → r.nw (12 * r.rt + i) = c.nk i
theorem NCP.iff {r : RS} {c : CS} {w : Int64} (h : NCP r c) : fndN r w ↔ fndC c w := by
  constructor
  · rintro ⟨n, a, b, e⟩; rw [h.1] at b; exact ⟨n, a, b, by rw [← h.2 n a b]; exact e⟩
  · rintro ⟨n, a, b, e⟩; exact ⟨n, a, by rw [h.1]; exact b, by rw [h.2 n a b]; exact e⟩
theorem NCP.nm {r : RS} {c : CS} {w : Int64} (h : NCP r c) (hp : r.ph = 1) (hr : r.rt < 6) (hb : c.nn ≤ 12) : NCP (sNm r w) (sCn c w) := by
  by_cases z : ¬ fndC c w ∧ ¬ 12 ≤ c.nn
  · have e1 : sCn c w = (CS.mk c.fp c.rn c.rk c.rp c.cn c.ck c.cp c.cc (c.nn + 1) (up1 c.nk c.nn w) c.m) := ifP_t z
    have e2 : sNm r w = (RS.mk r.ph r.fp r.rt r.ln r.tn r.tw r.tm (up1 r.nn r.rt (r.nn r.rt + 1)) (up1 r.nw (12 * r.rt + r.nn r.rt) w)) := ifP_t ⟨hp, hr, fun q => z.1 (h.iff.mp q), by rw [h.1]; omega⟩
    rw [e1, e2]
    refine ⟨?_, fun i a b => ?_⟩
    · show up1 r.nn r.rt (r.nn r.rt + 1) r.rt = c.nn + 1
      rw [up1_eq, h.1]
    · show up1 r.nw (12 * r.rt + r.nn r.rt) w (12 * r.rt + i) = up1 c.nk c.nn w i
      have b : i < c.nn + 1 := b
      by_cases q : i = c.nn
      · rw [q, h.1, up1_eq, up1_eq]
      · rw [up1_ne q, up1_ne (by rw [h.1]; omega)]
        exact h.2 i a (by omega)
  · have e1 : sCn c w = c := ifP_f z
    have e2 : sNm r w = r := ifP_f (fun q => z ⟨fun u => q.2.2.1 (h.iff.mpr u), by have := q.2.2.2; rw [h.1] at this; omega⟩)
    rw [e1, e2]; exact h
theorem NCP.nt {r : RS} {c : CS} {w : Int64} {p : Int} (h : NCP r c) (hr : r.rt < 6) (hb : c.nn ≤ 12) : nNm r w p = nCn c w p := by
  by_cases z : ¬ fndC c w ∧ 12 ≤ c.nn
  · have e1 : nCn c w p = [(p, 5)] := ifP_t z
    have e2 : nNm r w p = [(p, 5)] := ifP_t ⟨hr, fun q => z.1 (h.iff.mp q), by rw [h.1]; omega⟩
    rw [e1, e2]
  · have e1 : nCn c w p = [] := ifP_f z
    have e2 : nNm r w p = [] := ifP_f (fun q => z ⟨fun u => q.2.1 (h.iff.mpr u), by have := q.2.2; rw [h.1] at this; omega⟩)
    rw [e1, e2]
theorem nNm_no {r : RS} {w : Int64} {p : Int} (h : ¬ r.rt < 6) : nNm r w p = [] := ifP_f (fun q => h q.1)
theorem nCn_mem {c : CS} {w : Int64} {p : Int} {n : NT} (h : n ∈ nCn c w p) : n = (p, 5) := (mem_if h).2
section STEP
variable {r : RS} {c : CS} {N1 NC Z : List NT} {md : Nat} {pc lo : Int} {e : EW}
theorem K1.dA (h : K1 r c N1 NC Z md pc lo) (x : DMN (nRf r e) (NC ++ nC c e)) : DMN (N1 ++ nRf r e) (NC ++ nC c e) := (h.d1.mono (fun m q => List.mem_append.mpr (Or.inl q))).app x
theorem K1.dB (h : K1 r c N1 NC Z md pc lo) (y : DMN (nC c e) ((N1 ++ nRf r e) ++ (Z ++ zE e))) : DMN (NC ++ nC c e) ((N1 ++ nRf r e) ++ (Z ++ zE e)) := (h.d2.mono (fun m q => by
  rcases List.mem_append.mp q with q | q
  · exact List.mem_append.mpr (Or.inl (List.mem_append.mpr (Or.inl q)))
  · exact List.mem_append.mpr (Or.inr (List.mem_append.mpr (Or.inl q))))).app y
theorem K1.dZ (h : K1 r c N1 NC Z md pc lo) (g : ∀ n ∈ zE e, n ∈ nC c e) : ∀ n ∈ Z ++ zE e, n ∈ NC ++ nC c e := fun n q => by
  rcases List.mem_append.mp q with q | q
  · exact List.mem_append.mpr (Or.inl (h.dz n q))
  · exact List.mem_append.mpr (Or.inr (g n q))
theorem zE_no (h : e.1 ≠ 0) : ∀ n ∈ zE e, n ∈ nC c e := fun n q => absurd (mem_if q).1.1 h
theorem inNn {n : NT} {A B C : List NT} (h : n ∈ A) : n ∈ (A ++ B) ++ C := List.mem_append.mpr (Or.inl (List.mem_append.mpr (Or.inl h)))
theorem inRr {n : NT} {A B C : List NT} (h : n ∈ B) : n ∈ (A ++ B) ++ C := List.mem_append.mpr (Or.inl (List.mem_append.mpr (Or.inr h)))
theorem K1.k5N {N M : List NT} {p q : Int} (h : ∃ p, (p, 5) ∈ N ∧ p < q) (hq : q ≤ p) : ∃ p', ((p', 5) : NT) ∈ N ++ M ∧ p' < p := by
  obtain ⟨x, a, b⟩ := h
  exact ⟨x, List.mem_append.mpr (Or.inl a), by omega⟩
theorem K1.k5L {N M : List NT} {p q : Int} (h : ∃ p, (p, 5) ∈ N ∧ p ≤ q) (hq : q ≤ p) : ∃ p', ((p', 5) : NT) ∈ N ++ M ∧ p' ≤ p := by
  obtain ⟨x, a, b⟩ := h
  exact ⟨x, List.mem_append.mpr (Or.inl a), by omega⟩
/-- a routine's NAME -/
theorem K1.s2 (h : K1 r c N1 NC Z 0 pc lo) (k : e.1 = 2) (hl : lo ≤ e.2.1) : K1 (uR r e) (uC c e) (N1 ++ nRf r e) (NC ++ nC c e) (Z ++ zE e) 1 0 (e.2.1 + 1) := by
  have kn : nRf r e = ifP (r.rt = 6) [(e.2.1, 5)] [] ++ ifP (∃ q, fndR r e.2.2.2 q) [(e.2.1, 2)] [] := by unfold nRf nRn; rw [if_pos k, ifP_t h.ph]
  have cn : nC c e = ifP (fndQ c e.2.2.2) [(e.2.1, 2)] [] ++ ifP (6 ≤ c.rn) [(e.2.1, 5)] [] := by unfold nC; rw [if_pos k]
  have sr : sR r e = (RS.mk r.ph r.fp r.rt r.ln (r.tn + 1) (up1 r.tw r.tn e.2.2.2) r.tm r.nn r.nw) := by unfold sR; rw [if_pos k, ifP_t h.ph]
  have sc : sC c e = (CS.mk c.fp (c.rn + 1) (up1 c.rk c.rn e.2.2.2) (up1 c.rp c.rn 0) c.cn c.ck c.cp c.cc (0) c.nk c.m) := by unfold sC; rw [if_pos k]
  have hrt : c.rn = r.rt := by rcases h.rt with q | q <;> omega
  have h0 := h.rt0
  have x7 : 7 ≤ c.rn + 1 → ∃ p, ((p, 5) : NT) ∈ N1 ++ nRf r e ∧ p < e.2.1 + 1 := fun q => by
    by_cases z : r.rt = 6
    · exact ⟨e.2.1, List.mem_append.mpr (Or.inr (by rw [kn]; exact List.mem_append.mpr (Or.inl (mem_ift z)))), by omega⟩
    · exact K1.k5N (h.k7 (by omega)) (by omega)
  refine ⟨?_, LST.fold _ h.l1 (pos_R r e), LST.fold _ h.l2 (pos_C c e), h.dA (fun n q => ?_), h.dB (fun n q => ?_), h.dZ (zE_no (by omega)), ?_, ?_, ?_, ?_, ?_, ?_, ?_, ?_, ?_, ?_, ?_, ?_, ?_⟩
  · show (sR r e).ph = 1; rw [sr]; exact h.ph
  · refine ⟨n, List.mem_append.mpr (Or.inr ?_), LE2.rfl⟩
    rw [kn] at q; rw [cn]
    rcases List.mem_append.mp q with q | q
    · obtain ⟨a, b⟩ := mem_if q
      rw [b]; exact List.mem_append.mpr (Or.inr (mem_ift (by omega)))
    · obtain ⟨⟨j, a0, a1, a2, -⟩, b⟩ := mem_if q
      rw [b]; refine List.mem_append.mpr (Or.inl (mem_ift ⟨j, a0, by rw [← h.tn]; exact a1, ?_⟩))
      rw [← h.tw j a0 (by rw [← h.tn]; exact a1)]; exact a2
  · rw [cn] at q
    rcases List.mem_append.mp q with q | q
    · obtain ⟨⟨j, a0, a1, a2⟩, b⟩ := mem_if q
      rw [b]
      refine ⟨_, inRr ?_, LE2.rfl⟩
      rw [kn]
      exact List.mem_append.mpr (Or.inr (mem_ift (fndR_ex.mpr ⟨j, a0, by rw [h.tn]; exact a1, by rw [h.tw j a0 a1]; exact a2⟩)))
    · obtain ⟨a, b⟩ := mem_if q
      rw [b]
      by_cases z : r.rt = 6
      · refine ⟨_, inRr ?_, LE2.rfl⟩
        rw [kn]
        exact List.mem_append.mpr (Or.inl (mem_ift z))
      · obtain ⟨x, y, u⟩ := h.k7 (by omega)
        exact ⟨_, inNn y, Or.inl (by show x < e.2.1; omega)⟩
  · show 0 ≤ (sR r e).rt; rw [sr]; exact h0
  · show (sR r e).tn = (sC c e).rn; rw [sr, sc]; show r.tn + 1 = c.rn + 1; rw [h.tn]
  · right; show (1 : Nat) ≠ 0 ∧ (sC c e).rn = (sR r e).rt + 1; rw [sr, sc]; exact ⟨by omega, by show c.rn + 1 = r.rt + 1; omega⟩
  · intro j a b
    show (sR r e).tw j = (sC c e).rk j
    have b : j < (sC c e).rn := b
    rw [sr, sc]; rw [sc] at b
    have b : j < c.rn + 1 := b
    show up1 r.tw r.tn e.2.2.2 j = up1 c.rk c.rn e.2.2.2 j
    rw [h.tn]
    by_cases z : j = c.rn
    · rw [z, up1_eq, up1_eq]
    · rw [up1_ne z, up1_ne z]; exact h.tw j a (by omega)
  · intro j a b
    show (sR r e).tm j = (sC c e).rp j
    have b : j < (sC c e).rn - 1 ∨ j < (sC c e).rn ∧ (1 : Nat) ≠ 1 := b
    rw [sr, sc]; rw [sc] at b
    have b : j < c.rn := b.elim (fun b => by have b : j < c.rn + 1 - 1 := b; omega) (fun b => absurd rfl b.2)
    show r.tm j = up1 c.rp c.rn 0 j
    rw [up1_ne (by omega)]; exact h.tm j a (Or.inr ⟨b, by omega⟩)
  · intro _
    show (sC c e).rp ((sC c e).rn - 1) = 0
    rw [sc]
    show up1 c.rp c.rn 0 (c.rn + 1 - 1) = 0
    rw [show c.rn + 1 - 1 = c.rn by omega, up1_eq]
  · show (sR r e).ln = (sC c e).m; rw [sr, sc]; exact h.ln
  · intro _ z
    show (sR r e).nn (sR r e).rt = (sC c e).nn ∧ _
    have z : (sR r e).rt < 6 := z
    rw [sr] at z ⊢; rw [sc]
    refine ⟨h.nl r.rt (Or.inr ⟨rfl, rfl⟩) z, fun i a b => ?_⟩
    have b : i < (uC c e).nn := b
    have b2 : (uC c e).nn = 0 := by show (sC c e).nn = 0; rw [sc]
    omega
  · show 0 ≤ (sC c e).nn ∧ (sC c e).nn ≤ 12; rw [sc]; exact ⟨Int.le_refl _, by show (0 : Int) ≤ 12; omega⟩
  · intro k' a b
    show (sR r e).nn k' = 0
    have a : (sR r e).rt < k' ∨ (sR r e).rt = k' ∧ (1 : Nat) = 0 := a
    rw [sr] at a ⊢
    exact h.nl k' (Or.inl (a.elim id (fun a => absurd a.2 (by omega)))) b
  · intro q; have q : 7 ≤ (sC c e).rn := q; rw [sc] at q; exact x7 q
  · intro q; have q : 41 ≤ (sC c e).m := q; rw [sc] at q; exact K1.k5L (h.k41 q) (by omega)
  · intro _ q; exact absurd q (by omega)
theorem le5 {x p : Int} (h : x ≤ p) : LE2 (x, 5) (p, 5) := by unfold LE2; simp only; omega
theorem lt5 {x p f : Int} (h : x < p) : LE2 (x, 5) (p, f) := Or.inl h
/-- a statement -/
theorem K1.s5 (h : K1 r c N1 NC Z 2 pc lo) (k : e.1 = 5) (hl : lo ≤ e.2.1) : K1 (uR r e) (uC c e) (N1 ++ nRf r e) (NC ++ nC c e) (Z ++ zE e) 2 0 e.2.1 := by
  have kn : nRf r e = ifP (r.ln + 1 = 41) [(e.2.1, 5)] [] := by unfold nRf; rw [if_neg (by omega), if_neg (by omega), if_neg (by omega), if_neg (by omega), if_pos k]
  have cn : nC c e = ifP (40 < c.m + 1) [(e.2.1, 5)] [] := by unfold nC; rw [if_neg (by omega), if_neg (by omega), if_neg (by omega), if_neg (by omega), if_pos k]
  have sr : sR r e = (RS.mk r.ph r.fp r.rt (r.ln + 1) r.tn r.tw r.tm r.nn r.nw) := by unfold sR; rw [if_neg (by omega), if_neg (by omega), if_neg (by omega), if_neg (by omega), if_pos k]
  have sc : sC c e = (CS.mk c.fp c.rn c.rk c.rp c.cn c.ck c.cp c.cc c.nn c.nk (c.m + 1)) := by unfold sC; rw [if_neg (by omega), if_neg (by omega), if_neg (by omega), if_neg (by omega), if_pos k]
  have hln := h.ln
  refine ⟨?_, LST.fold _ h.l1 (pos_R r e), LST.fold _ h.l2 (pos_C c e), h.dA (fun n q => ?_), h.dB (fun n q => ?_), h.dZ (zE_no (by omega)), ?_, ?_, ?_, ?_, ?_, ?_, ?_, ?_, ?_, ?_, ?_, ?_, ?_⟩
  · show (sR r e).ph = 1; rw [sr]; exact h.ph
  · rw [kn] at q
    obtain ⟨a, b⟩ := mem_if q
    refine ⟨n, List.mem_append.mpr (Or.inr ?_), LE2.rfl⟩
    rw [cn, b]; exact mem_ift (by omega)
  · rw [cn] at q
    obtain ⟨a, b⟩ := mem_if q
    rw [b]
    by_cases z : r.ln + 1 = 41
    · refine ⟨_, inRr ?_, LE2.rfl⟩
      rw [kn]; exact mem_ift z
    · obtain ⟨x, y, u⟩ := h.k41 (by omega)
      exact ⟨_, inNn y, le5 (by omega)⟩
  · show 0 ≤ (sR r e).rt; rw [sr]; exact h.rt0
  · show (sR r e).tn = (sC c e).rn; rw [sr, sc]; exact h.tn
  · show _ ∧ (sC c e).rn = (sR r e).rt ∨ _ ∧ (sC c e).rn = (sR r e).rt + 1; rw [sr, sc]; exact h.rt
  · show ∀ j, 0 ≤ j → j < (sC c e).rn → (sR r e).tw j = (sC c e).rk j; rw [sr, sc]; exact h.tw
  · show ∀ j, 0 ≤ j → (j < (sC c e).rn - 1 ∨ j < (sC c e).rn ∧ _) → (sR r e).tm j = (sC c e).rp j; rw [sr, sc]; exact h.tm
  · intro q; exact absurd q (by omega)
  · show (sR r e).ln = (sC c e).m; rw [sr, sc]; show r.ln + 1 = c.m + 1; omega
  · show _ → (sR r e).rt < 6 → (sR r e).nn (sR r e).rt = (sC c e).nn ∧ ∀ i, 0 ≤ i → i < (sC c e).nn → (sR r e).nw (12 * (sR r e).rt + i) = (sC c e).nk i; rw [sr, sc]; exact h.nn
  · show 0 ≤ (sC c e).nn ∧ (sC c e).nn ≤ 12; rw [sc]; exact h.nb
  · show ∀ k, ((sR r e).rt < k ∨ (sR r e).rt = k ∧ _) → k < 6 → (sR r e).nn k = 0; rw [sr]; exact h.nl
  · intro q; have q : 7 ≤ (sC c e).rn := q; rw [sc] at q; exact K1.k5N (h.k7 q) hl
  · intro q; have q : 41 ≤ (sC c e).m := q; rw [sc] at q
    have q : 41 ≤ c.m + 1 := q
    by_cases z : r.ln + 1 = 41
    · exact ⟨e.2.1, List.mem_append.mpr (Or.inr (by rw [kn]; exact mem_ift z)), Int.le_refl _⟩
    · exact K1.k5L (h.k41 (by omega)) hl
  · intro q; exact absurd q (by omega)
/-- a name -/
theorem K1.s4 (h : K1 r c N1 NC Z 2 pc lo) (k : e.1 = 4) (hl : lo ≤ e.2.1) : K1 (uR r e) (uC c e) (N1 ++ nRf r e) (NC ++ nC c e) (Z ++ zE e) 2 0 e.2.1 := by
  have kn : nRf r e = nNm r e.2.2.2 e.2.1 := by unfold nRf; rw [if_neg (by omega), if_neg (by omega), if_neg (by omega), if_pos k]
  have cn : nC c e = nCn c e.2.2.2 e.2.1 := by unfold nC; rw [if_neg (by omega), if_neg (by omega), if_neg (by omega), if_pos k]
  have sr : sR r e = sNm r e.2.2.2 := by unfold sR; rw [if_neg (by omega), if_neg (by omega), if_neg (by omega), if_pos k]
  have sc : sC c e = sCn c e.2.2.2 := by unfold sC; rw [if_neg (by omega), if_neg (by omega), if_neg (by omega), if_pos k]
  obtain ⟨r1, r2, r3, r4, r5, r6, r7⟩ := sNm_q r e.2.2.2
  obtain ⟨c1, c2, c3, c4, c5, c6, c7, c8⟩ := sCn_q c e.2.2.2
  have hrn : c.rn = r.rt + 1 := by rcases h.rt with q | q <;> omega
  have np : r.rt < 6 → NCP r c := fun z => h.nn (by omega) z
  refine ⟨?_, LST.fold _ h.l1 (pos_R r e), LST.fold _ h.l2 (pos_C c e), h.dA (fun n q => ?_), h.dB (fun n q => ?_), h.dZ (zE_no (by omega)), ?_, ?_, ?_, ?_, ?_, ?_, ?_, ?_, ?_, ?_, ?_, ?_, ?_⟩
  · show (sR r e).ph = 1; rw [sr, r1]; exact h.ph
  · rw [kn] at q
    by_cases z : r.rt < 6
    · refine ⟨n, List.mem_append.mpr (Or.inr ?_), LE2.rfl⟩
      rw [cn, ← (np z).nt z h.nb.2]; exact q
    · rw [nNm_no z] at q; exact absurd q (by simp)
  · rw [cn] at q
    by_cases z : r.rt < 6
    · refine ⟨n, inRr ?_, LE2.rfl⟩
      rw [kn, (np z).nt z h.nb.2]; exact q
    · obtain ⟨x, y, u⟩ := h.k7 (by omega)
      rw [nCn_mem q]
      exact ⟨_, inNn y, lt5 (by omega)⟩
  · show 0 ≤ (sR r e).rt; rw [sr, r2]; exact h.rt0
  · show (sR r e).tn = (sC c e).rn; rw [sr, sc, r4, c1]; exact h.tn
  · show _ ∧ (sC c e).rn = (sR r e).rt ∨ _ ∧ (sC c e).rn = (sR r e).rt + 1; rw [sr, sc, r2, c1]; exact h.rt
  · show ∀ j, 0 ≤ j → j < (sC c e).rn → (sR r e).tw j = (sC c e).rk j; rw [sr, sc, r5, c1, c2]; exact h.tw
  · show ∀ j, 0 ≤ j → (j < (sC c e).rn - 1 ∨ j < (sC c e).rn ∧ _) → (sR r e).tm j = (sC c e).rp j; rw [sr, sc, r6, c1, c3]; exact h.tm
  · intro q; exact absurd q (by omega)
  · show (sR r e).ln = (sC c e).m; rw [sr, sc, r3, c8]; exact h.ln
  · intro _ z
    have z : (sR r e).rt < 6 := z
    show NCP (sR r e) (sC c e)
    rw [sr, r2] at z
    rw [sr, sc]
    exact (np z).nm h.ph z h.nb.2
  · show 0 ≤ (sC c e).nn ∧ (sC c e).nn ≤ 12; rw [sc]; exact sCn_b h.nb
  · intro k' a b
    have a : (sR r e).rt < k' ∨ (sR r e).rt = k' ∧ (2 : Nat) = 0 := a
    show (sR r e).nn k' = 0
    rw [sr, r2] at a
    rw [sr, r7 k' (by omega)]
    exact h.nl k' (by omega) b
  · intro q; have q : 7 ≤ (sC c e).rn := q; rw [sc, c1] at q; exact K1.k5N (h.k7 q) hl
  · intro q; have q : 41 ≤ (sC c e).m := q; rw [sc, c8] at q; exact K1.k5L (h.k41 q) hl
  · intro q; exact absurd q (by omega)
/-- a parameter -/
theorem K1.s3 (h : K1 r c N1 NC Z 1 pc lo) (k : e.1 = 3) (hl : lo ≤ e.2.1) (hm : e.2.2.1 = pc) : K1 (uR r e) (uC c e) (N1 ++ nRf r e) (NC ++ nC c e) (Z ++ zE e) 1 (pc + 1) e.2.1 := by
  have kn : nRf r e = ifP (e.2.2.1 = 4) [(e.2.1, 5)] [] ++ (ifP (r.rt < 6 ∧ fndN r e.2.2.2) [(e.2.1, 2)] [] ++ nNm r e.2.2.2 e.2.1) := by unfold nRf nPa; rw [if_neg (by omega), if_pos k, ifP_t h.ph]
  have cn : nC c e = ifP (fndC c e.2.2.2) [(e.2.1, 2)] [] ++ (ifP (4 ≤ e.2.2.1) [(e.2.1, 5)] [] ++ nCn c e.2.2.2 e.2.1) := by unfold nC; rw [if_neg (by omega), if_pos k]
  have sr : sR r e = sNm r e.2.2.2 := by unfold sR; rw [if_neg (by omega), if_pos k, ifP_t h.ph]
  have sc : sC c e = (CS.mk (sCn c e.2.2.2).fp (sCn c e.2.2.2).rn (sCn c e.2.2.2).rk (up1 c.rp (c.rn - 1) (e.2.2.1 + 1)) (sCn c e.2.2.2).cn (sCn c e.2.2.2).ck (sCn c e.2.2.2).cp (sCn c e.2.2.2).cc (sCn c e.2.2.2).nn (sCn c e.2.2.2).nk (sCn c e.2.2.2).m) := by unfold sC; rw [if_neg (by omega), if_pos k]
  obtain ⟨r1, r2, r3, r4, r5, r6, r7⟩ := sNm_q r e.2.2.2
  obtain ⟨c1, c2, c3, c4, c5, c6, c7, c8⟩ := sCn_q c e.2.2.2
  have d1 : (sC c e).rn = c.rn := by rw [sc]; exact c1
  have d2 : (sC c e).rk = c.rk := by rw [sc]; exact c2
  have d3 : (sC c e).rp = up1 c.rp (c.rn - 1) (e.2.2.1 + 1) := by rw [sc]
  have d8 : (sC c e).m = c.m := by rw [sc]; exact c8
  have hrn : c.rn = r.rt + 1 := by rcases h.rt with q | q <;> omega
  have np : r.rt < 6 → NCP r c := fun z => h.nn (by omega) z
  refine ⟨?_, LST.fold _ h.l1 (pos_R r e), LST.fold _ h.l2 (pos_C c e), h.dA (fun n q => ?_), h.dB (fun n q => ?_), h.dZ (zE_no (by omega)), ?_, ?_, ?_, ?_, ?_, ?_, ?_, ?_, ?_, ?_, ?_, ?_, ?_⟩
  · show (sR r e).ph = 1; rw [sr, r1]; exact h.ph
  · refine ⟨n, List.mem_append.mpr (Or.inr ?_), LE2.rfl⟩
    rw [kn] at q; rw [cn]
    rcases List.mem_append.mp q with q | q
    · obtain ⟨a, b⟩ := mem_if q
      rw [b]; exact List.mem_append.mpr (Or.inr (List.mem_append.mpr (Or.inl (mem_ift (by omega)))))
    · rcases List.mem_append.mp q with q | q
      · obtain ⟨a, b⟩ := mem_if q
        rw [b]; exact List.mem_append.mpr (Or.inl (mem_ift ((np a.1).iff.mp a.2)))
      · by_cases z : r.rt < 6
        · rw [(np z).nt z h.nb.2] at q
          exact List.mem_append.mpr (Or.inr (List.mem_append.mpr (Or.inr q)))
        · rw [nNm_no z] at q; exact absurd q (by simp)
  · rw [cn] at q
    rcases List.mem_append.mp q with q | q
    · obtain ⟨a, b⟩ := mem_if q
      rw [b]
      by_cases z : r.rt < 6
      · refine ⟨_, inRr ?_, LE2.rfl⟩
        rw [kn]; exact List.mem_append.mpr (Or.inr (List.mem_append.mpr (Or.inl (mem_ift ⟨z, (np z).iff.mpr a⟩))))
      · obtain ⟨x, y, u⟩ := h.k7 (by omega)
        exact ⟨_, inNn y, lt5 (by omega)⟩
    · rcases List.mem_append.mp q with q | q
      · obtain ⟨a, b⟩ := mem_if q
        rw [b]
        by_cases z : e.2.2.1 = 4
        · refine ⟨_, inRr ?_, LE2.rfl⟩
          rw [kn]; exact List.mem_append.mpr (Or.inl (mem_ift z))
        · obtain ⟨x, y, u⟩ := h.k5 rfl (by omega)
          exact ⟨_, inNn y, le5 (by omega)⟩
      · by_cases z : r.rt < 6
        · refine ⟨n, inRr ?_, LE2.rfl⟩
          rw [kn, (np z).nt z h.nb.2]; exact List.mem_append.mpr (Or.inr (List.mem_append.mpr (Or.inr q)))
        · obtain ⟨x, y, u⟩ := h.k7 (by omega)
          rw [nCn_mem q]
          exact ⟨_, inNn y, lt5 (by omega)⟩
  · show 0 ≤ (sR r e).rt; rw [sr, r2]; exact h.rt0
  · show (sR r e).tn = (sC c e).rn; rw [sr, d1, r4]; exact h.tn
  · show _ ∧ (sC c e).rn = (sR r e).rt ∨ _ ∧ (sC c e).rn = (sR r e).rt + 1; rw [sr, d1, r2]; exact h.rt
  · show ∀ j, 0 ≤ j → j < (sC c e).rn → (sR r e).tw j = (sC c e).rk j; rw [sr, r5, d1, d2]; exact h.tw
  · intro j a b
    have b : j < (sC c e).rn - 1 ∨ j < (sC c e).rn ∧ (1 : Nat) ≠ 1 := b
    show (sR r e).tm j = (sC c e).rp j
    rw [d1] at b
    rw [sr, r6, d3, up1_ne (by omega)]
    exact h.tm j a (by omega)
  · intro _
    show (sC c e).rp ((sC c e).rn - 1) = pc + 1
    rw [d1, d3, up1_eq, hm]
  · show (sR r e).ln = (sC c e).m; rw [sr, d8, r3]; exact h.ln
  · intro _ z
    have z : (sR r e).rt < 6 := z
    show NCP (sR r e) (sC c e)
    rw [sr, r2] at z
    rw [sr, sc]
    exact (np z).nm h.ph z h.nb.2
  · show 0 ≤ (sC c e).nn ∧ (sC c e).nn ≤ 12; rw [sc]; exact sCn_b h.nb
  · intro k' a b
    have a : (sR r e).rt < k' ∨ (sR r e).rt = k' ∧ (1 : Nat) = 0 := a
    show (sR r e).nn k' = 0
    rw [sr, r2] at a
    rw [sr, r7 k' (by omega)]
    exact h.nl k' (by omega) b
  · intro q; have q : 7 ≤ (sC c e).rn := q; rw [d1] at q; exact K1.k5N (h.k7 q) hl
  · intro q; have q : 41 ≤ (sC c e).m := q; rw [d8] at q; exact K1.k5L (h.k41 q) hl
  · intro _ q
    by_cases z : e.2.2.1 = 4
    · exact ⟨e.2.1, List.mem_append.mpr (Or.inr (by rw [kn]; exact List.mem_append.mpr (Or.inl (mem_ift z)))), Int.le_refl _⟩
    · exact K1.k5L (h.k5 rfl (by omega)) hl
/-- the parameters' end -/
theorem K1.s7 (h : K1 r c N1 NC Z 1 pc lo) (k : e.1 = 7) (hm : e.2.2.1 = pc) : K1 (uR r e) (uC c e) (N1 ++ nRf r e) (NC ++ nC c e) (Z ++ zE e) 2 0 lo := by
  have kn : nRf r e = [] := by unfold nRf; rw [if_neg (by omega), if_neg (by omega), if_pos k]
  have cn : nC c e = [] := by unfold nC; rw [if_neg (by omega), if_neg (by omega), if_pos k]
  have sr : sR r e = (RS.mk r.ph r.fp r.rt r.ln r.tn r.tw (up1 r.tm (r.tn - 1) e.2.2.1) r.nn r.nw) := by unfold sR; rw [if_neg (by omega), if_neg (by omega), if_pos k, ifP_t h.ph]
  have sc : sC c e = c := by unfold sC; rw [if_neg (by omega), if_neg (by omega), if_pos k]
  have hrn : c.rn = r.rt + 1 := by rcases h.rt with q | q <;> omega
  have htn := h.tn
  refine ⟨?_, LST.fold _ h.l1 (pos_R r e), LST.fold _ h.l2 (pos_C c e), h.dA (by rw [kn]; exact DMN.nil), h.dB (by rw [cn]; exact DMN.nil), h.dZ (zE_no (by omega)), ?_, ?_, ?_, ?_, ?_, ?_, ?_, ?_, ?_, ?_, ?_, ?_, ?_⟩
  · show (sR r e).ph = 1; rw [sr]; exact h.ph
  · show 0 ≤ (sR r e).rt; rw [sr]; exact h.rt0
  · show (sR r e).tn = (sC c e).rn; rw [sr, sc]; exact h.tn
  · right; show (2 : Nat) ≠ 0 ∧ (sC c e).rn = (sR r e).rt + 1; rw [sr, sc]; exact ⟨by omega, hrn⟩
  · show ∀ j, 0 ≤ j → j < (sC c e).rn → (sR r e).tw j = (sC c e).rk j; rw [sr, sc]; exact h.tw
  · intro j a b
    have b : j < (sC c e).rn - 1 ∨ j < (sC c e).rn ∧ (2 : Nat) ≠ 1 := b
    show (sR r e).tm j = (sC c e).rp j
    rw [sc] at b
    rw [sr, sc]
    show up1 r.tm (r.tn - 1) e.2.2.1 j = c.rp j
    by_cases z : j = c.rn - 1
    · rw [z, show r.tn - 1 = c.rn - 1 by omega, up1_eq, h.pp rfl]; exact hm
    · rw [up1_ne (by omega)]; exact h.tm j a (Or.inl (by omega))
  · intro q; exact absurd q (by omega)
  · show (sR r e).ln = (sC c e).m; rw [sr, sc]; exact h.ln
  · intro _; show (sR r e).rt < 6 → (sR r e).nn (sR r e).rt = (sC c e).nn ∧ ∀ i, 0 ≤ i → i < (sC c e).nn → (sR r e).nw (12 * (sR r e).rt + i) = (sC c e).nk i; rw [sr, sc]; exact h.nn (by omega)
  · show 0 ≤ (sC c e).nn ∧ (sC c e).nn ≤ 12; rw [sc]; exact h.nb
  · intro k' a b
    have a : (sR r e).rt < k' ∨ (sR r e).rt = k' ∧ (2 : Nat) = 0 := a
    show (sR r e).nn k' = 0
    rw [sr] at a ⊢
    exact h.nl k' (Or.inl (a.elim id (fun a => absurd a.2 (by omega)))) b
  · intro q; have q : 7 ≤ (sC c e).rn := q; rw [sc] at q; exact K1.k5N (h.k7 q) (Int.le_refl _)
  · intro q; have q : 41 ≤ (sC c e).m := q; rw [sc] at q; exact K1.k5L (h.k41 q) (Int.le_refl _)
  · intro q; exact absurd q (by omega)
/-- a call -/
theorem K1.s1 (h : K1 r c N1 NC Z 2 pc lo) (k : e.1 = 1) : K1 (uR r e) (uC c e) (N1 ++ nRf r e) (NC ++ nC c e) (Z ++ zE e) 2 0 lo := by
  have kn : nRf r e = [] := by unfold nRf nCl; rw [if_neg (by omega), if_neg (by omega), if_neg (by omega), if_neg (by omega), if_neg (by omega), if_pos k, ifP_f (by rw [h.ph]; omega)]
  have cn : nC c e = [] := by unfold nC; rw [if_neg (by omega), if_neg (by omega), if_neg (by omega), if_neg (by omega), if_neg (by omega), if_pos k]
  have sr : sR r e = r := by unfold sR; rw [if_neg (by omega), if_neg (by omega), if_neg (by omega), if_neg (by omega), if_neg (by omega), if_pos k]
  have sc : sC c e = (CS.mk c.fp c.rn c.rk c.rp (c.cn + 1) (up1 c.ck c.cn e.2.2.2) (up1 c.cp c.cn e.2.1) (up1 c.cc c.cn e.2.2.1) c.nn c.nk c.m) := by unfold sC; rw [if_neg (by omega), if_neg (by omega), if_neg (by omega), if_neg (by omega), if_neg (by omega), if_pos k]
  refine ⟨?_, LST.fold _ h.l1 (pos_R r e), LST.fold _ h.l2 (pos_C c e), h.dA (by rw [kn]; exact DMN.nil), h.dB (by rw [cn]; exact DMN.nil), h.dZ (zE_no (by omega)), ?_, ?_, ?_, ?_, ?_, ?_, ?_, ?_, ?_, ?_, ?_, ?_, ?_⟩
  · show (sR r e).ph = 1; rw [sr]; exact h.ph
  · show 0 ≤ (sR r e).rt; rw [sr]; exact h.rt0
  · show (sR r e).tn = (sC c e).rn; rw [sr, sc]; exact h.tn
  · show _ ∧ (sC c e).rn = (sR r e).rt ∨ _ ∧ (sC c e).rn = (sR r e).rt + 1; rw [sr, sc]; exact h.rt
  · show ∀ j, 0 ≤ j → j < (sC c e).rn → (sR r e).tw j = (sC c e).rk j; rw [sr, sc]; exact h.tw
  · show ∀ j, 0 ≤ j → (j < (sC c e).rn - 1 ∨ j < (sC c e).rn ∧ _) → (sR r e).tm j = (sC c e).rp j; rw [sr, sc]; exact h.tm
  · intro q; exact absurd q (by omega)
  · show (sR r e).ln = (sC c e).m; rw [sr, sc]; exact h.ln
  · show _ → (sR r e).rt < 6 → (sR r e).nn (sR r e).rt = (sC c e).nn ∧ ∀ i, 0 ≤ i → i < (sC c e).nn → (sR r e).nw (12 * (sR r e).rt + i) = (sC c e).nk i; rw [sr, sc]; exact h.nn
  · show 0 ≤ (sC c e).nn ∧ (sC c e).nn ≤ 12; rw [sc]; exact h.nb
  · show ∀ k, ((sR r e).rt < k ∨ (sR r e).rt = k ∧ _) → k < 6 → (sR r e).nn k = 0; rw [sr]; exact h.nl
  · intro q; have q : 7 ≤ (sC c e).rn := q; rw [sc] at q; exact K1.k5N (h.k7 q) (Int.le_refl _)
  · intro q; have q : 41 ≤ (sC c e).m := q; rw [sc] at q; exact K1.k5L (h.k41 q) (Int.le_refl _)
  · intro q; exact absurd q (by omega)
/-- a routine's end -/
theorem K1.s0 (h : K1 r c N1 NC Z 2 pc lo) (k : e.1 = 0) : K1 (uR r e) (uC c e) (N1 ++ nRf r e) (NC ++ nC c e) (Z ++ zE e) 0 0 lo := by
  have kn : nRf r e = [] := by unfold nRf; rw [if_neg (by omega), if_neg (by omega), if_neg (by omega), if_neg (by omega), if_neg (by omega), if_neg (by omega), if_pos k, ifP_f (fun q => by have := q.1; rw [h.ph] at this; omega)]
  have cn : nC c e = ifP (120 < e.2.2.1) [(e.2.1, 5)] [] := by unfold nC; rw [if_neg (by omega), if_neg (by omega), if_neg (by omega), if_neg (by omega), if_neg (by omega), if_neg (by omega), if_pos k]
  have sr : sR r e = (RS.mk r.ph r.fp (r.rt + 1) r.ln r.tn r.tw r.tm r.nn r.nw) := by unfold sR; rw [if_neg (by omega), if_neg (by omega), if_neg (by omega), if_neg (by omega), if_neg (by omega), if_neg (by omega), if_pos k]
  have sc : sC c e = c := by unfold sC; rw [if_neg (by omega), if_neg (by omega), if_neg (by omega), if_neg (by omega), if_neg (by omega), if_neg (by omega)]
  have hrn : c.rn = r.rt + 1 := by rcases h.rt with q | q <;> omega
  have h0 := h.rt0
  refine ⟨?_, LST.fold _ h.l1 (pos_R r e), LST.fold _ h.l2 (pos_C c e), h.dA (by rw [kn]; exact DMN.nil), h.dB (fun n q => ?_), h.dZ (fun n q => ?_), ?_, ?_, ?_, ?_, ?_, ?_, ?_, ?_, ?_, ?_, ?_, ?_, ?_⟩
  · show (sR r e).ph = 1; rw [sr]; exact h.ph
  · rw [cn] at q
    obtain ⟨a, b⟩ := mem_if q
    exact ⟨n, List.mem_append.mpr (Or.inr (List.mem_append.mpr (Or.inr (by rw [b]; exact mem_ift ⟨k, a⟩)))), LE2.rfl⟩
  · obtain ⟨a, b⟩ := mem_if q
    rw [cn, b]; exact mem_ift a.2
  · show 0 ≤ (sR r e).rt; rw [sr]; show 0 ≤ r.rt + 1; omega
  · show (sR r e).tn = (sC c e).rn; rw [sr, sc]; exact h.tn
  · left; show (0 : Nat) = 0 ∧ (sC c e).rn = (sR r e).rt; rw [sr, sc]; exact ⟨rfl, hrn⟩
  · show ∀ j, 0 ≤ j → j < (sC c e).rn → (sR r e).tw j = (sC c e).rk j; rw [sr, sc]; exact h.tw
  · intro j a b
    have b : j < (sC c e).rn - 1 ∨ j < (sC c e).rn ∧ (0 : Nat) ≠ 1 := b
    show (sR r e).tm j = (sC c e).rp j
    rw [sc] at b
    rw [sr, sc]
    exact h.tm j a (Or.inr ⟨by omega, by omega⟩)
  · intro q; exact absurd q (by omega)
  · show (sR r e).ln = (sC c e).m; rw [sr, sc]; exact h.ln
  · intro q; exact absurd rfl q
  · show 0 ≤ (sC c e).nn ∧ (sC c e).nn ≤ 12; rw [sc]; exact h.nb
  · intro k' a b
    have a : (sR r e).rt < k' ∨ (sR r e).rt = k' ∧ (0 : Nat) = 0 := a
    show (sR r e).nn k' = 0
    rw [sr] at a ⊢
    have a : r.rt + 1 < k' ∨ r.rt + 1 = k' ∧ (0 : Nat) = 0 := a
    exact h.nl k' (Or.inl (by omega)) b
  · intro q; have q : 7 ≤ (sC c e).rn := q; rw [sc] at q; exact K1.k5N (h.k7 q) (Int.le_refl _)
  · intro q; have q : 41 ≤ (sC c e).m := q; rw [sc] at q; exact K1.k5L (h.k41 q) (Int.le_refl _)
  · intro q; exact absurd q (by omega)
end STEP
/-- the notes of all tellings -/
noncomputable def NR : RS → List EW → List NT
  | _, [] => []
  | r, e :: es => nRf r e ++ NR (uR r e) es
noncomputable def NCs : CS → List EW → List NT
  | _, [] => []
  | c, e :: es => nC c e ++ NCs (uC c e) es
noncomputable def zs : List EW → List NT
  | [] => []
  | e :: es => zE e ++ zs es
theorem K1.run : ∀ (es : List EW) {r : RS} {c : CS} {N1 NC Z : List NT} {md : Nat} {pc lo : Int}, K1 r c N1 NC Z md pc lo → SHP es md pc lo → ∃ pc' lo', K1 (es.foldl uR r) (es.foldl uC c) (N1 ++ NR r es) (NC ++ NCs c es) (Z ++ zs es) 0 pc' lo'
  | [], r, c, N1, NC, Z, md, pc, lo, h, s => by
    have s : md = 0 := s
    subst s
    refine ⟨pc, lo, ?_⟩
    show K1 r c (N1 ++ []) (NC ++ []) (Z ++ []) 0 pc lo
    rw [List.append_nil, List.append_nil, List.append_nil]
    exact h
  | e :: es, r, c, N1, NC, Z, md, pc, lo, h, s => by
    have go : ∀ {md' : Nat} {pc' lo' : Int}, K1 (uR r e) (uC c e) (N1 ++ nRf r e) (NC ++ nC c e) (Z ++ zE e) md' pc' lo' → SHP es md' pc' lo' → ∃ pc'' lo'', K1 ((e :: es).foldl uR r) ((e :: es).foldl uC c) (N1 ++ NR r (e :: es)) (NC ++ NCs c (e :: es)) (Z ++ zs (e :: es)) 0 pc'' lo'' := fun k s => by
      obtain ⟨p, l, q⟩ := K1.run es k s
      refine ⟨p, l, ?_⟩
      rw [List.append_assoc, List.append_assoc, List.append_assoc] at q
      exact q
    rcases s with ⟨rfl, k, a, s⟩ | ⟨rfl, k, a, m, s⟩ | ⟨rfl, k, m, s⟩ | ⟨rfl, k, a, s⟩ | ⟨rfl, k, s⟩ | ⟨rfl, k, s⟩
    · exact go (h.s2 k a) s
    · exact go (h.s3 k a m) s
    · exact go (h.s7 k m) s
    · rcases k with k | k
      · exact go (h.s4 k a) s
      · exact go (h.s5 k a) s
    · exact go (h.s1 k) s
    · exact go (h.s0 k) s
end
section
/-- names of a routine stay when more come -/
def NML (r f : RS) : Prop := ∀ k, 0 ≤ k → k < 6 → r.nn k ≤ f.nn k ∧ ∀ i, 0 ≤ i → i < r.nn k → f.nw (12 * k + i) = r.nw (12 * k + i)
def NBD (r : RS) : Prop := ∀ k, 0 ≤ k → k < 6 → 0 ≤ r.nn k ∧ r.nn k ≤ 12
theorem NML.rfl {r : RS} : NML r r := fun _ _ _ => ⟨Int.le_refl _, fun _ _ _ => Eq.refl _⟩
theorem NML.trans {r f g : RS} (h : NML r f) (k : NML f g) : NML r g := fun j a b => ⟨Int.le_trans (h j a b).1 (k j a b).1, fun i x y => ((k j a b).2 i x (by have := (h j a b).1; omega)).trans ((h j a b).2 i x y)⟩
theorem sNm_m {r : RS} {w : Int64} (h0 : 0 ≤ r.rt) (hb : NBD r) : NML r (sNm r w) ∧ NBD (sNm r w) := by
  by_cases z : r.ph = 1 ∧ r.rt < 6 ∧ ¬ fndN r w ∧ r.nn r.rt ≠ 12
  · have e : sNm r w = (RS.mk r.ph r.fp r.rt r.ln r.tn r.tw r.tm (up1 r.nn r.rt (r.nn r.rt + 1)) (up1 r.nw (12 * r.rt + r.nn r.rt) w)) := ifP_t z
    rw [e]
    have hr := hb r.rt h0 z.2.1
    have hn := z.2.2.2
    refine ⟨fun k a b => ⟨?_, fun i x y => ?_⟩, fun k a b => ?_⟩
    · show r.nn k ≤ up1 r.nn r.rt (r.nn r.rt + 1) k
      by_cases q : k = r.rt
      · rw [q, up1_eq]; omega
      · rw [up1_ne q]; exact Int.le_refl _
    · show up1 r.nw (12 * r.rt + r.nn r.rt) w (12 * k + i) = r.nw (12 * k + i)
      refine up1_ne ?_
      have hk := hb k a b
      by_cases q : k = r.rt
      · rw [q] at y ⊢; omega
      · omega
    · show 0 ≤ up1 r.nn r.rt (r.nn r.rt + 1) k ∧ up1 r.nn r.rt (r.nn r.rt + 1) k ≤ 12
      by_cases q : k = r.rt
      · rw [q, up1_eq]; omega
      · rw [up1_ne q]; exact hb k a b
  · have e : sNm r w = r := ifP_f z
    rw [e]; exact ⟨NML.rfl, hb⟩
theorem uR_m {r : RS} {e : EW} (h0 : 0 ≤ r.rt) (hb : NBD r) : NML r (uR r e) ∧ NBD (uR r e) ∧ 0 ≤ (uR r e).rt ∧ (uR r e).ph = r.ph := by
  have go : ∀ {s : RS}, sR r e = s → NML r s → NBD s → 0 ≤ s.rt → s.ph = r.ph → NML r (uR r e) ∧ NBD (uR r e) ∧ 0 ≤ (uR r e).rt ∧ (uR r e).ph = r.ph := fun q a b c d => by
    have a2 : NML r (sR r e) := by rw [q]; exact a
    have b2 : NBD (sR r e) := by rw [q]; exact b
    exact ⟨a2, b2, by show 0 ≤ (sR r e).rt; rw [q]; exact c, by show (sR r e).ph = r.ph; rw [q]; exact d⟩
  have nm := sNm_m (w := e.2.2.2) h0 hb
  have nq := sNm_q r e.2.2.2
  by_cases k2 : e.1 = 2
  · by_cases z : r.ph = 1
    · exact go (s := (RS.mk r.ph r.fp r.rt r.ln (r.tn + 1) (up1 r.tw r.tn e.2.2.2) r.tm r.nn r.nw)) (by unfold sR; rw [if_pos k2, ifP_t z]) (NML.rfl (r := r)) hb h0 rfl
    · exact go (by unfold sR; rw [if_pos k2, ifP_f z]) NML.rfl hb h0 rfl
  by_cases k3 : e.1 = 3
  · by_cases z : r.ph = 1
    · exact go (by unfold sR; rw [if_neg k2, if_pos k3, ifP_t z]) nm.1 nm.2 (by rw [nq.2.1]; exact h0) nq.1
    · exact go (by unfold sR; rw [if_neg k2, if_pos k3, ifP_f z]) NML.rfl hb h0 rfl
  by_cases k7 : e.1 = 7
  · by_cases z : r.ph = 1
    · exact go (s := (RS.mk r.ph r.fp r.rt r.ln r.tn r.tw (up1 r.tm (r.tn - 1) e.2.2.1) r.nn r.nw)) (by unfold sR; rw [if_neg k2, if_neg k3, if_pos k7, ifP_t z]) (NML.rfl (r := r)) hb h0 rfl
    · exact go (by unfold sR; rw [if_neg k2, if_neg k3, if_pos k7, ifP_f z]) NML.rfl hb h0 rfl
  by_cases k4 : e.1 = 4
  · exact go (by unfold sR; rw [if_neg k2, if_neg k3, if_neg k7, if_pos k4]) nm.1 nm.2 (by rw [nq.2.1]; exact h0) nq.1
  by_cases k5 : e.1 = 5
  · exact go (s := (RS.mk r.ph r.fp r.rt (r.ln + 1) r.tn r.tw r.tm r.nn r.nw)) (by unfold sR; rw [if_neg k2, if_neg k3, if_neg k7, if_neg k4, if_pos k5]) (NML.rfl (r := r)) hb h0 rfl
  by_cases k1 : e.1 = 1
  · exact go (by unfold sR; rw [if_neg k2, if_neg k3, if_neg k7, if_neg k4, if_neg k5, if_pos k1]) NML.rfl hb h0 rfl
  by_cases k0 : e.1 = 0
  · exact go (s := (RS.mk r.ph r.fp (r.rt + 1) r.ln r.tn r.tw r.tm r.nn r.nw)) (by unfold sR; rw [if_neg k2, if_neg k3, if_neg k7, if_neg k4, if_neg k5, if_neg k1, if_pos k0]) (NML.rfl (r := r)) hb (by show 0 ≤ r.rt + 1; omega) rfl
  · exact go (by unfold sR; rw [if_neg k2, if_neg k3, if_neg k7, if_neg k4, if_neg k5, if_neg k1, if_neg k0]) NML.rfl hb h0 rfl
theorem fold_m : ∀ (es : List EW) {r : RS}, 0 ≤ r.rt → NBD r → NML r (es.foldl uR r)
  | [], _, _, _ => NML.rfl
  | e :: es, r, h0, hb => by
    have q := uR_m (e := e) h0 hb
    exact q.1.trans (fold_m es q.2.2.1 q.2.1)
/-- the notes of calls, by the routines of f -/
noncomputable def cE (f : RS) (e : EW) : List NT := ifP (e.1 = 1) (ifP (∃ q, fndR f e.2.2.2 q) (ifP (∃ q, fndR f e.2.2.2 q ∧ e.2.2.1 ≠ f.tm q) [(e.2.1, 4)] []) [(e.2.1, 3)]) []
noncomputable def cEs (f : RS) : List EW → List NT
  | [] => []
  | e :: es => cE f e ++ cEs f es
/-- phase 2 beside phase 1: a the state of phase 1 here, f its state at the end, b that of phase 2 here -/
def K2 (a f b : RS) : Prop := a.ph = 1 ∧ b.ph = 2 ∧ b.rt = a.rt ∧ b.ln = a.ln ∧ 0 ≤ a.rt ∧ NBD a ∧ NML a f ∧ b.tn = f.tn ∧ b.tw = f.tw ∧ b.tm = f.tm ∧ b.nn = f.nn ∧ b.nw = f.nw
theorem cE_no {f : RS} {e : EW} (h : e.1 ≠ 1) : cE f e = [] := ifP_f h
theorem zE_n {e : EW} (h : e.1 ≠ 0) : zE e = [] := ifP_f (fun q => h q.1)
/-- a step of both: what phase 2 notes was noted in phase 1, or is of a call, or of an end -/
theorem K2.step {a f b : RS} {e : EW} (h : K2 a f b) (hf : NML (uR a e) f) : K2 (uR a e) f (uR b e) ∧ (∀ n ∈ nRf b e, n ∈ nRf a e ∨ n ∈ cE f e ∨ n ∈ zE e) ∧ (∀ n ∈ cE f e, n ∈ nRf b e) ∧ (∀ n ∈ zE e, n ∈ nRf b e) := by
  obtain ⟨h1, h2, h3, h4, h5, h6, h7, h8, h9, h10, h11, h12⟩ := h
  obtain ⟨m1, m2, m3, m4⟩ := uR_m (e := e) h5 h6
  have nb : ∀ w, nNm b w = nNm b w := fun _ => rfl
  have s2 : ∀ {s : RS}, sR b e = s → s = b ∨ s = (RS.mk b.ph b.fp b.rt (b.ln + 1) b.tn b.tw b.tm b.nn b.nw) ∨ s = (RS.mk b.ph b.fp (b.rt + 1) b.ln b.tn b.tw b.tm b.nn b.nw) → s.rt = (uR a e).rt → s.ln = (uR a e).ln → K2 (uR a e) f (uR b e) := fun {s} q w x y => by
    have base : s.ph = 2 ∧ s.tn = f.tn ∧ s.tw = f.tw ∧ s.tm = f.tm ∧ s.nn = f.nn ∧ s.nw = f.nw := by
      rcases w with w | w | w <;> rw [w] <;> exact ⟨h2, h8, h9, h10, h11, h12⟩
    refine ⟨m4.trans h1, ?_, ?_, ?_, m3, m2, hf, ?_, ?_, ?_, ?_, ?_⟩
    · show (sR b e).ph = 2; rw [q]; exact base.1
    · show (sR b e).rt = _; rw [q]; exact x
    · show (sR b e).ln = _; rw [q]; exact y
    · show (sR b e).tn = _; rw [q]; exact base.2.1
    · show (sR b e).tw = _; rw [q]; exact base.2.2.1
    · show (sR b e).tm = _; rw [q]; exact base.2.2.2.1
    · show (sR b e).nn = _; rw [q]; exact base.2.2.2.2.1
    · show (sR b e).nw = _; rw [q]; exact base.2.2.2.2.2
  have p1 : ¬ b.ph = 1 := by rw [h2]; omega
  have sb : ∀ w, sNm b w = b := fun w => ifP_f (fun q => p1 q.1)
  have nq := sNm_q a e.2.2.2
  have nmem : ∀ n : NT, n ∈ ([] : List NT) → False := fun n q => by simp at q
  by_cases k2 : e.1 = 2
  · have sa : (uR a e).rt = a.rt ∧ (uR a e).ln = a.ln := by
      show (sR a e).rt = a.rt ∧ (sR a e).ln = a.ln
      have : sR a e = (RS.mk a.ph a.fp a.rt a.ln (a.tn + 1) (up1 a.tw a.tn e.2.2.2) a.tm a.nn a.nw) := by unfold sR; rw [if_pos k2, ifP_t h1]
      rw [this]; exact ⟨rfl, rfl⟩
    have n0 : nRf b e = [] := by unfold nRf nRn; rw [if_pos k2, ifP_f p1]
    refine ⟨s2 (s := b) (by unfold sR; rw [if_pos k2, ifP_f p1]) (Or.inl rfl) (by rw [sa.1]; exact h3) (by rw [sa.2]; exact h4), ?_, ?_, ?_⟩
    · intro n q; rw [n0] at q; exact (nmem n q).elim
    · intro n q; rw [cE_no (by omega)] at q; exact (nmem n q).elim
    · intro n q; rw [zE_n (by omega)] at q; exact (nmem n q).elim
  by_cases k3 : e.1 = 3
  · have sa : (uR a e).rt = a.rt ∧ (uR a e).ln = a.ln := by
      show (sR a e).rt = a.rt ∧ (sR a e).ln = a.ln
      have : sR a e = sNm a e.2.2.2 := by unfold sR; rw [if_neg k2, if_pos k3, ifP_t h1]
      rw [this]; exact ⟨nq.2.1, nq.2.2.1⟩
    have n0 : nRf b e = [] := by unfold nRf nPa; rw [if_neg k2, if_pos k3, ifP_f p1]
    refine ⟨s2 (s := b) (by unfold sR; rw [if_neg k2, if_pos k3, ifP_f p1]) (Or.inl rfl) (by rw [sa.1]; exact h3) (by rw [sa.2]; exact h4), ?_, ?_, ?_⟩
    · intro n q; rw [n0] at q; exact (nmem n q).elim
    · intro n q; rw [cE_no (by omega)] at q; exact (nmem n q).elim
    · intro n q; rw [zE_n (by omega)] at q; exact (nmem n q).elim
  by_cases k7 : e.1 = 7
  · have sa : (uR a e).rt = a.rt ∧ (uR a e).ln = a.ln := by
      show (sR a e).rt = a.rt ∧ (sR a e).ln = a.ln
      have : sR a e = (RS.mk a.ph a.fp a.rt a.ln a.tn a.tw (up1 a.tm (a.tn - 1) e.2.2.1) a.nn a.nw) := by unfold sR; rw [if_neg k2, if_neg k3, if_pos k7, ifP_t h1]
      rw [this]; exact ⟨rfl, rfl⟩
    have n0 : nRf b e = [] := by unfold nRf; rw [if_neg k2, if_neg k3, if_pos k7]
    refine ⟨s2 (s := b) (by unfold sR; rw [if_neg k2, if_neg k3, if_pos k7, ifP_f p1]) (Or.inl rfl) (by rw [sa.1]; exact h3) (by rw [sa.2]; exact h4), ?_, ?_, ?_⟩
    · intro n q; rw [n0] at q; exact (nmem n q).elim
    · intro n q; rw [cE_no (by omega)] at q; exact (nmem n q).elim
    · intro n q; rw [zE_n (by omega)] at q; exact (nmem n q).elim
  by_cases k4 : e.1 = 4
  · have ea : sR a e = sNm a e.2.2.2 := by unfold sR; rw [if_neg k2, if_neg k3, if_neg k7, if_pos k4]
    have sa : (uR a e).rt = a.rt ∧ (uR a e).ln = a.ln := by
      show (sR a e).rt = a.rt ∧ (sR a e).ln = a.ln
      rw [ea]; exact ⟨nq.2.1, nq.2.2.1⟩
    have n0 : nRf b e = nNm b e.2.2.2 e.2.1 := by unfold nRf; rw [if_neg k2, if_neg k3, if_neg k7, if_pos k4]
    have n1 : nRf a e = nNm a e.2.2.2 e.2.1 := by unfold nRf; rw [if_neg k2, if_neg k3, if_neg k7, if_pos k4]
    refine ⟨s2 (s := b) (by unfold sR; rw [if_neg k2, if_neg k3, if_neg k7, if_pos k4]; exact sb _) (Or.inl rfl) (by rw [sa.1]; exact h3) (by rw [sa.2]; exact h4), ?_, ?_, ?_⟩
    · intro n q
      rw [n0] at q
      obtain ⟨⟨u1, u2, u3⟩, u4⟩ := mem_if q
      rw [h3] at u1 u3
      rw [h11] at u3
      left
      rw [n1, u4]
      have nf : ¬ fndN a e.2.2.2 := fun ⟨i, x, y, z⟩ => u2 ⟨i, x, by rw [h3, h11]; have := (h7 a.rt h5 u1).1; omega, by rw [h3, h12, (h7 a.rt h5 u1).2 i x y]; exact z⟩
      refine mem_ift ⟨u1, nf, Classical.byContradiction fun v => ?_⟩
      have e9 : sNm a e.2.2.2 = (RS.mk a.ph a.fp a.rt a.ln a.tn a.tw a.tm (up1 a.nn a.rt (a.nn a.rt + 1)) (up1 a.nw (12 * a.rt + a.nn a.rt) e.2.2.2)) := ifP_t ⟨h1, u1, nf, v⟩
      have g1 : (uR a e).nn a.rt = a.nn a.rt + 1 := by show (sR a e).nn a.rt = _; rw [ea, e9]; exact up1_eq
      have g2 : (uR a e).nw (12 * a.rt + a.nn a.rt) = e.2.2.2 := by show (sR a e).nw _ = _; rw [ea, e9]; exact up1_eq
      have hb := h6 a.rt h5 u1
      have hq := hf a.rt h5 u1
      refine u2 ⟨a.nn a.rt, hb.1, ?_, ?_⟩
      · rw [h3, h11]; have := hq.1; omega
      · rw [h3, h12, hq.2 (a.nn a.rt) hb.1 (by omega)]; exact g2
    · intro n q; rw [cE_no (by omega)] at q; exact (nmem n q).elim
    · intro n q; rw [zE_n (by omega)] at q; exact (nmem n q).elim
  by_cases k5 : e.1 = 5
  · have sa : (uR a e).rt = a.rt ∧ (uR a e).ln = a.ln + 1 := by
      show (sR a e).rt = a.rt ∧ (sR a e).ln = a.ln + 1
      have : sR a e = (RS.mk a.ph a.fp a.rt (a.ln + 1) a.tn a.tw a.tm a.nn a.nw) := by unfold sR; rw [if_neg k2, if_neg k3, if_neg k7, if_neg k4, if_pos k5]
      rw [this]; exact ⟨rfl, rfl⟩
    have n0 : nRf b e = ifP (b.ln + 1 = 41) [(e.2.1, 5)] [] := by unfold nRf; rw [if_neg k2, if_neg k3, if_neg k7, if_neg k4, if_pos k5]
    have n1 : nRf a e = ifP (a.ln + 1 = 41) [(e.2.1, 5)] [] := by unfold nRf; rw [if_neg k2, if_neg k3, if_neg k7, if_neg k4, if_pos k5]
    refine ⟨s2 (s := (RS.mk b.ph b.fp b.rt (b.ln + 1) b.tn b.tw b.tm b.nn b.nw)) (by unfold sR; rw [if_neg k2, if_neg k3, if_neg k7, if_neg k4, if_pos k5]) (Or.inr (Or.inl rfl)) (by rw [sa.1]; exact h3) (by rw [sa.2, ← h4]), ?_, ?_, ?_⟩
    · intro n q; left; rw [n1, ← h4, ← n0]; exact q
    · intro n q; rw [cE_no (by omega)] at q; exact (nmem n q).elim
    · intro n q; rw [zE_n (by omega)] at q; exact (nmem n q).elim
  by_cases k1 : e.1 = 1
  · have sa : (uR a e).rt = a.rt ∧ (uR a e).ln = a.ln := by
      show (sR a e).rt = a.rt ∧ (sR a e).ln = a.ln
      have : sR a e = a := by unfold sR; rw [if_neg k2, if_neg k3, if_neg k7, if_neg k4, if_neg k5, if_pos k1]
      rw [this]; exact ⟨rfl, rfl⟩
    have fr : ∀ w q, fndR b w q ↔ fndR f w q := fun w q => by unfold fndR; rw [h8, h9]
    have fx : ∀ w, (∃ q, fndR b w q) ↔ ∃ q, fndR f w q := fun w => ⟨fun ⟨q, z⟩ => ⟨q, (fr w q).mp z⟩, fun ⟨q, z⟩ => ⟨q, (fr w q).mpr z⟩⟩
    have fy : (∃ q, fndR b e.2.2.2 q ∧ e.2.2.1 ≠ b.tm q) ↔ ∃ q, fndR f e.2.2.2 q ∧ e.2.2.1 ≠ f.tm q := ⟨fun ⟨q, z, y⟩ => ⟨q, (fr _ q).mp z, by rw [← h10]; exact y⟩, fun ⟨q, z, y⟩ => ⟨q, (fr _ q).mpr z, by rw [h10]; exact y⟩⟩
    have n0 : nRf b e = cE f e := by
      unfold nRf nCl cE
      rw [if_neg k2, if_neg k3, if_neg k7, if_neg k4, if_neg k5, if_pos k1, ifP_t h2, ifP_t k1]
      by_cases z : ∃ q, fndR f e.2.2.2 q
      · rw [ifP_t z, ifP_t ((fx _).mpr z)]
        by_cases y : ∃ q, fndR f e.2.2.2 q ∧ e.2.2.1 ≠ f.tm q
        · rw [ifP_t y, ifP_t (fy.mpr y)]
        · rw [ifP_f y, ifP_f (fun q => y (fy.mp q))]
      · rw [ifP_f z, ifP_f (fun q => z ((fx _).mp q))]
    refine ⟨s2 (s := b) (by unfold sR; rw [if_neg k2, if_neg k3, if_neg k7, if_neg k4, if_neg k5, if_pos k1]) (Or.inl rfl) (by rw [sa.1]; exact h3) (by rw [sa.2]; exact h4), ?_, ?_, ?_⟩
    · intro n q; rw [n0] at q; exact Or.inr (Or.inl q)
    · intro n q; rw [n0]; exact q
    · intro n q; rw [zE_n (by omega)] at q; exact (nmem n q).elim
  by_cases k0 : e.1 = 0
  · have sa : (uR a e).rt = a.rt + 1 ∧ (uR a e).ln = a.ln := by
      show (sR a e).rt = a.rt + 1 ∧ (sR a e).ln = a.ln
      have : sR a e = (RS.mk a.ph a.fp (a.rt + 1) a.ln a.tn a.tw a.tm a.nn a.nw) := by unfold sR; rw [if_neg k2, if_neg k3, if_neg k7, if_neg k4, if_neg k5, if_neg k1, if_pos k0]
      rw [this]; exact ⟨rfl, rfl⟩
    have n0 : nRf b e = ifP (b.ph = 2 ∧ 120 < e.2.2.1) [(e.2.1, 5)] [] := by unfold nRf; rw [if_neg k2, if_neg k3, if_neg k7, if_neg k4, if_neg k5, if_neg k1, if_pos k0]
    refine ⟨s2 (s := (RS.mk b.ph b.fp (b.rt + 1) b.ln b.tn b.tw b.tm b.nn b.nw)) (by unfold sR; rw [if_neg k2, if_neg k3, if_neg k7, if_neg k4, if_neg k5, if_neg k1, if_pos k0]) (Or.inr (Or.inr rfl)) (by rw [sa.1, ← h3]) (by rw [sa.2]; exact h4), ?_, ?_, ?_⟩
    · intro n q; rw [n0] at q
      obtain ⟨u, v⟩ := mem_if q
      right; right; rw [v]; exact mem_ift ⟨k0, u.2⟩
    · intro n q; rw [cE_no (by omega)] at q; exact (nmem n q).elim
    · intro n q
      obtain ⟨u, v⟩ := mem_if q
      rw [n0, v]; exact mem_ift ⟨h2, u.2⟩
  · have sa : (uR a e).rt = a.rt ∧ (uR a e).ln = a.ln := by
      show (sR a e).rt = a.rt ∧ (sR a e).ln = a.ln
      have : sR a e = a := by unfold sR; rw [if_neg k2, if_neg k3, if_neg k7, if_neg k4, if_neg k5, if_neg k1, if_neg k0]
      rw [this]; exact ⟨rfl, rfl⟩
    have n0 : nRf b e = [] := by unfold nRf; rw [if_neg k2, if_neg k3, if_neg k7, if_neg k4, if_neg k5, if_neg k1, if_neg k0]
    refine ⟨s2 (s := b) (by unfold sR; rw [if_neg k2, if_neg k3, if_neg k7, if_neg k4, if_neg k5, if_neg k1, if_neg k0]) (Or.inl rfl) (by rw [sa.1]; exact h3) (by rw [sa.2]; exact h4), ?_, ?_, ?_⟩
    · intro n q; rw [n0] at q; exact (nmem n q).elim
    · intro n q; rw [cE_no k1] at q; exact (nmem n q).elim
    · intro n q; rw [zE_n k0] at q; exact (nmem n q).elim
/-- phase 2 over all tellings -/
theorem K2.run : ∀ (es : List EW) {a f b : RS}, K2 a f b → es.foldl uR a = f → (∀ n ∈ NR b es, n ∈ NR a es ∨ n ∈ cEs f es ∨ n ∈ zs es) ∧ (∀ n ∈ cEs f es, n ∈ NR b es) ∧ (∀ n ∈ zs es, n ∈ NR b es) ∧ (es.foldl uR b).rt = f.rt
  | [], a, f, b, h, e => by
    have e : a = f := e
    refine ⟨fun n q => ?_, fun n q => q, fun n q => q, ?_⟩
    · exact Or.inl q
    · show b.rt = f.rt
      rw [← e]; exact h.2.2.1
  | e :: es, a, f, b, h, g => by
    have g : es.foldl uR (uR a e) = f := g
    have m := uR_m (e := e) h.2.2.2.2.1 h.2.2.2.2.2.1
    have hf : NML (uR a e) f := by rw [← g]; exact fold_m es m.2.2.1 m.2.1
    obtain ⟨k, x, y, z⟩ := h.step (e := e) hf
    obtain ⟨x2, y2, z2, w2⟩ := K2.run es k g
    refine ⟨fun n q => ?_, fun n q => ?_, fun n q => ?_, w2⟩
    · rcases List.mem_append.mp q with q | q
      · rcases x n q with q | q | q
        · exact Or.inl (List.mem_append.mpr (Or.inl q))
        · exact Or.inr (Or.inl (List.mem_append.mpr (Or.inl q)))
        · exact Or.inr (Or.inr (List.mem_append.mpr (Or.inl q)))
      · rcases x2 n q with q | q | q
        · exact Or.inl (List.mem_append.mpr (Or.inr q))
        · exact Or.inr (Or.inl (List.mem_append.mpr (Or.inr q)))
        · exact Or.inr (Or.inr (List.mem_append.mpr (Or.inr q)))
    · rcases List.mem_append.mp q with q | q
      · exact List.mem_append.mpr (Or.inl (y n q))
      · exact List.mem_append.mpr (Or.inr (y2 n q))
    · rcases List.mem_append.mp q with q | q
      · exact List.mem_append.mpr (Or.inl (z n q))
      · exact List.mem_append.mpr (Or.inr (z2 n q))
theorem LST.run : ∀ (es : List EW) {r : RS} {N : List NT}, LST N r.fp → LST (N ++ NR r es) (es.foldl uR r).fp
  | [], r, N, h => by show LST (N ++ []) r.fp; rw [List.append_nil]; exact h
  | e :: es, r, N, h => by
    have q := LST.run es (r := uR r e) (LST.fold _ h (pos_R r e))
    rw [List.append_assoc] at q
    exact q
noncomputable def cS (c : CS) (i : Int) : List NT := ifP (∃ q, 0 ≤ q ∧ q < c.rn ∧ c.rk q = c.ck i ∧ ∀ j, 0 ≤ j → j < q → c.rk j ≠ c.ck i) (ifP (∃ q, (0 ≤ q ∧ q < c.rn ∧ c.rk q = c.ck i ∧ ∀ j, 0 ≤ j → j < q → c.rk j ≠ c.ck i) ∧ c.rp q ≠ c.cc i) [(c.cp i, 4)] []) [(c.cp i, 3)]
noncomputable def cSs (c : CS) : Nat → List NT
  | 0 => []
  | n + 1 => cSs c n ++ cS c n
/-- the calls of a list of tellings -/
def cls1 : List EW → List EW
  | [] => []
  | e :: es => if e.1 = 1 then e :: cls1 es else cls1 es
/-- the class's calls are those that were told -/
def CLS (c : CS) (L : List EW) : Prop := c.cn = (L.length : Int) ∧ ∀ (i : Nat) (e : EW), L[i]? = some e → c.ck i = e.2.2.2 ∧ c.cp i = e.2.1 ∧ c.cc i = e.2.2.1
theorem CLS.step {c : CS} {L : List EW} {e : EW} (h : CLS c L) : CLS (uC c e) (L ++ cls1 [e]) := by
  have sq := sCn_q c e.2.2.2
  have keep : (sC c e).cn = c.cn → (sC c e).ck = c.ck → (sC c e).cp = c.cp → (sC c e).cc = c.cc → e.1 ≠ 1 → CLS (uC c e) (L ++ cls1 [e]) := fun a b d f g => by
    have e0 : cls1 [e] = [] := by show (if e.1 = 1 then _ else _) = _; rw [if_neg g]; rfl
    rw [e0, List.append_nil]
    refine ⟨a.trans h.1, fun i x q => ?_⟩
    show (sC c e).ck i = _ ∧ (sC c e).cp i = _ ∧ (sC c e).cc i = _
    rw [b, d, f]; exact h.2 i x q
  by_cases k2 : e.1 = 2
  · have sc : sC c e = (CS.mk c.fp (c.rn + 1) (up1 c.rk c.rn e.2.2.2) (up1 c.rp c.rn 0) c.cn c.ck c.cp c.cc 0 c.nk c.m) := by unfold sC; rw [if_pos k2]
    exact keep (by rw [sc]) (by rw [sc]) (by rw [sc]) (by rw [sc]) (by omega)
  by_cases k3 : e.1 = 3
  · have sc : sC c e = (CS.mk (sCn c e.2.2.2).fp (sCn c e.2.2.2).rn (sCn c e.2.2.2).rk (up1 c.rp (c.rn - 1) (e.2.2.1 + 1)) (sCn c e.2.2.2).cn (sCn c e.2.2.2).ck (sCn c e.2.2.2).cp (sCn c e.2.2.2).cc (sCn c e.2.2.2).nn (sCn c e.2.2.2).nk (sCn c e.2.2.2).m) := by unfold sC; rw [if_neg k2, if_pos k3]
    exact keep (by rw [sc]; exact sq.2.2.2.1) (by rw [sc]; exact sq.2.2.2.2.1) (by rw [sc]; exact sq.2.2.2.2.2.1) (by rw [sc]; exact sq.2.2.2.2.2.2.1) (by omega)
  by_cases k7 : e.1 = 7
  · have sc : sC c e = c := by unfold sC; rw [if_neg k2, if_neg k3, if_pos k7]
    exact keep (by rw [sc]) (by rw [sc]) (by rw [sc]) (by rw [sc]) (by omega)
  by_cases k4 : e.1 = 4
  · have sc : sC c e = sCn c e.2.2.2 := by unfold sC; rw [if_neg k2, if_neg k3, if_neg k7, if_pos k4]
    exact keep (by rw [sc]; exact sq.2.2.2.1) (by rw [sc]; exact sq.2.2.2.2.1) (by rw [sc]; exact sq.2.2.2.2.2.1) (by rw [sc]; exact sq.2.2.2.2.2.2.1) (by omega)
  by_cases k5 : e.1 = 5
  · have sc : sC c e = (CS.mk c.fp c.rn c.rk c.rp c.cn c.ck c.cp c.cc c.nn c.nk (c.m + 1)) := by unfold sC; rw [if_neg k2, if_neg k3, if_neg k7, if_neg k4, if_pos k5]
    exact keep (by rw [sc]) (by rw [sc]) (by rw [sc]) (by rw [sc]) (by omega)
  by_cases k1 : e.1 = 1
  · have sc : sC c e = (CS.mk c.fp c.rn c.rk c.rp (c.cn + 1) (up1 c.ck c.cn e.2.2.2) (up1 c.cp c.cn e.2.1) (up1 c.cc c.cn e.2.2.1) c.nn c.nk c.m) := by unfold sC; rw [if_neg k2, if_neg k3, if_neg k7, if_neg k4, if_neg k5, if_pos k1]
    have e0 : cls1 [e] = [e] := by show (if e.1 = 1 then _ else _) = _; rw [if_pos k1]; rfl
    rw [e0]
    refine ⟨?_, fun i x q => ?_⟩
    · show (sC c e).cn = _
      rw [sc, List.length_append, Int.natCast_add, ← h.1]; rfl
    · show (sC c e).ck i = _ ∧ (sC c e).cp i = _ ∧ (sC c e).cc i = _
      rw [sc]
      show up1 c.ck c.cn e.2.2.2 i = _ ∧ up1 c.cp c.cn e.2.1 i = _ ∧ up1 c.cc c.cn e.2.2.1 i = _
      rw [h.1]
      by_cases z : i < L.length
      · rw [List.getElem?_append_left z] at q
        rw [up1_ne (by omega), up1_ne (by omega), up1_ne (by omega)]
        exact h.2 i x q
      · rw [List.getElem?_append_right (by omega)] at q
        have z2 : i = L.length := by
          by_cases y : i - L.length = 0
          · omega
          · rw [List.getElem?_eq_none (by simp; omega)] at q; exact absurd q (by simp)
        rw [z2, Nat.sub_self] at q
        have q : e = x := by simpa using q
        rw [z2, up1_eq, up1_eq, up1_eq, q]; exact ⟨rfl, rfl, rfl⟩
  · have sc : sC c e = c := by unfold sC; rw [if_neg k2, if_neg k3, if_neg k7, if_neg k4, if_neg k5, if_neg k1]
    exact keep (by rw [sc]) (by rw [sc]) (by rw [sc]) (by rw [sc]) k1
theorem CLS.run : ∀ (es : List EW) {c : CS} {L : List EW}, CLS c L → CLS (es.foldl uC c) (L ++ cls1 es)
  | [], c, L, h => by show CLS c (L ++ []); rw [List.append_nil]; exact h
  | e :: es, c, L, h => by
    have q := CLS.run es (h.step (e := e))
    have x : L ++ cls1 [e] ++ cls1 es = L ++ cls1 (e :: es) := by
      rw [List.append_assoc]
      congr 1
      show (if e.1 = 1 then e :: cls1 [] else cls1 []) ++ cls1 es = if e.1 = 1 then e :: cls1 es else cls1 es
      by_cases z : e.1 = 1
      · rw [if_pos z, if_pos z]; rfl
      · rw [if_neg z, if_neg z]; rfl
    rw [x] at q
    exact q
theorem cls1_mem : ∀ (es : List EW) {e : EW}, e ∈ cls1 es ↔ e ∈ es ∧ e.1 = 1
  | [], e => by show e ∈ ([] : List EW) ↔ _; simp
  | x :: es, e => by
    show e ∈ (if x.1 = 1 then x :: cls1 es else cls1 es) ↔ _
    by_cases z : x.1 = 1
    · rw [if_pos z, List.mem_cons, List.mem_cons, cls1_mem es]
      constructor
      · rintro (rfl | h)
        · exact ⟨Or.inl rfl, z⟩
        · exact ⟨Or.inr h.1, h.2⟩
      · rintro ⟨rfl | h, w⟩
        · exact Or.inl rfl
        · exact Or.inr ⟨h, w⟩
    · rw [if_neg z, List.mem_cons, cls1_mem es]
      constructor
      · rintro h; exact ⟨Or.inr h.1, h.2⟩
      · rintro ⟨rfl | h, w⟩
        · exact absurd w z
        · exact ⟨h, w⟩
theorem cSs_mem {c : CS} : ∀ (k : Nat) {n : NT}, n ∈ cSs c k ↔ ∃ i : Nat, i < k ∧ n ∈ cS c i
  | 0, n => by
    show n ∈ ([] : List NT) ↔ _
    constructor
    · intro h; simp at h
    · rintro ⟨i, a, -⟩; omega
  | k + 1, n => by
    show n ∈ cSs c k ++ cS c k ↔ _
    rw [List.mem_append, cSs_mem k]
    constructor
    · rintro (⟨i, a, b⟩ | h)
      · exact ⟨i, by omega, b⟩
      · exact ⟨k, by omega, h⟩
    · rintro ⟨i, a, b⟩
      by_cases z : i = k
      · rw [z] at b; exact Or.inr b
      · exact Or.inl ⟨i, by omega, b⟩
theorem pos_cS (c : CS) (i : Int) : POS (cS c i) := pos_ifL (pos_if (by omega)) (fun n q => by rw [List.mem_singleton.mp q]; show (0 : Int) < 3; omega)
theorem pos_cSs (c : CS) : ∀ k, POS (cSs c k)
  | 0 => POS.nil
  | k + 1 => (pos_cSs c k).app (pos_cS c k)
end
section
theorem wsk_ge {s : Int → Int} : ∀ (f : Nat) (n : Int), n ≤ wsk s f n
  | 0, n => Int.le_refl n
  | f + 1, n => by
    show n ≤ (if s n = 10 ∨ s n = 32 then wsk s f (n + 1) else n)
    by_cases c : s n = 10 ∨ s n = 32
    · rw [if_pos c]; have := wsk_ge (s := s) f (n + 1); omega
    · rw [if_neg c]; exact Int.le_refl _
theorem ltk_ge {s : Int → Int} : ∀ (f : Nat) (n : Int) (w : Int64) (c : Int), n ≤ (ltk s f n w c).1
  | 0, n, _, _ => Int.le_refl n
  | f + 1, n, w, c => by
    show n ≤ (if 97 ≤ s n ∧ s n ≤ 122 then ltk s f (n + 1) (shw w (s n)) (c + 1) else (n, w, c)).1
    by_cases q : 97 ≤ s n ∧ s n ≤ 122
    · rw [if_pos q]; have := ltk_ge (s := s) f (n + 1) (shw w (s n)) (c + 1); omega
    · rw [if_neg q]; exact Int.le_refl _
theorem dgk_ge {s : Int → Int} : ∀ (f : Nat) (n v c : Int), n ≤ (dgk s f n v c).1
  | 0, n, _, _ => Int.le_refl n
  | f + 1, n, v, c => by
    show n ≤ (if 48 ≤ s n ∧ s n ≤ 57 then dgk s f (n + 1) (dgv v c (s n)) (c + 1) else (n, v, c)).1
    by_cases q : 48 ≤ s n ∧ s n ≤ 57
    · rw [if_pos q]; have := dgk_ge (s := s) f (n + 1) (dgv v c (s n)) (c + 1); omega
    · rw [if_neg q]; exact Int.le_refl _
theorem ltp_gt {s : Int → Int} {n c : Int} {w : Int64} (h : n < 1300) (q : 97 ≤ s n ∧ s n ≤ 122) : n < (ltp s n w c).1 := by
  rw [ltp_s h q]
  have : n + 1 ≤ (ltp s (n + 1) (shw w (s n)) (c + 1)).1 := ltk_ge _ _ _ _
  omega
theorem dgp_gt {s : Int → Int} {n v c : Int} (h : n < 1300) (q : 48 ≤ s n ∧ s n ≤ 57) : n < (dgp s n v c).1 := by
  rw [dgp_s h q]
  have : n + 1 ≤ (dgp s (n + 1) (dgv v c (s n)) (c + 1)).1 := dgk_ge _ _ _ _
  omega
def TKW (t : TK) : Prop := t.1 ≤ t.2.1 ∧ (t.2.2.1 ≠ 0 → t.1 < t.2.1)
def SEN (s : Int → Int) : Prop := ∀ k, 1300 ≤ k → s k < 0
theorem advP_w {s : Int → Int} (hs : SEN s) (p : Int) : (advP s p).1 = p ∧ TKW (advP s p) := by
  unfold advP TKW
  by_cases c0 : s p < 0
  · rw [if_pos c0]; exact ⟨rfl, Int.le_refl _, fun q => absurd rfl q⟩
  · have hp : p < 1300 := Classical.byContradiction fun z => c0 (hs p (by omega))
    rw [if_neg c0]
    by_cases c1 : 97 ≤ s p ∧ s p ≤ 122
    · rw [if_pos c1]
      have g := ltp_gt (w := 0) (c := 0) hp c1
      exact ⟨rfl, by show p ≤ (ltp s p 0 0).1; omega, fun _ => g⟩
    · rw [if_neg c1]
      by_cases c2 : 48 ≤ s p ∧ s p ≤ 57
      · rw [if_pos c2]
        have g := dgp_gt (v := 0) (c := 0) hp c2
        exact ⟨rfl, by show p ≤ (dgp s p 0 0).1; omega, fun _ => g⟩
      · rw [if_neg c2]
        exact ⟨rfl, by show p ≤ p + 1; omega, fun _ => by show p < p + 1; omega⟩
theorem advT_w {s : Int → Int} (hs : SEN s) (n : Int) : n ≤ (advT s n).1 ∧ TKW (advT s n) := by
  have h := advP_w hs (wsp s n)
  have g : n ≤ wsp s n := wsk_ge _ _
  exact ⟨by show n ≤ (advP s (wsp s n)).1; rw [h.1]; exact g, h.2⟩
theorem adv_ok {s : Int → Int} {t : TK} (hs : SEN s) (hw : TKW t) : TKW (advT s t.2.1) ∧ t.1 ≤ (advT s t.2.1).1 := by
  have h := advT_w hs t.2.1
  exact ⟨h.2, by have := h.1; have := hw.1; omega⟩
/-- tags within a routine's block -/
abbrev NTg (y : Nat) : Prop := y < 30 ∨ (36 < y ∧ y ≠ 999)
theorem ntg {l : List Nat} (h : l.all (fun y => decide (NTg y)) = true) : ∀ y ∈ l, NTg y := fun y q => of_decide_eq_true (List.all_eq_true.mp h y q)
theorem stk_body {s : Int → Int} {k : Nat} {t : TK} {x : Int × Int × Int} {q : QR} {r : List Nat × TK × (Int × Int × Int) × QR × List EV} (hs : SEN s) (hk : NTg k) (hw : TKW t) (h : stk s k t x q = some r) : (∀ y ∈ r.1, NTg y) ∧ TKW r.2.1 ∧ t.1 ≤ r.2.1.1 := by
  have ao := adv_ok hs hw
  unfold stk at h
  split at h
  all_goals (try (exact absurd hk (by decide)))
  all_goals (repeat' split at h)
  all_goals (cases h)
  all_goals first
    | exact ⟨ntg rfl, ao.1, ao.2⟩
    | exact ⟨ntg rfl, hw, Int.le_refl _⟩
    | exact ⟨ntg rfl, ⟨hw.1, fun _ => hw.2 (by rename_i u _ _; rw [u.1]; decide)⟩, Int.le_refl _⟩
theorem evk_body {k : Nat} {t : TK} {x : Int × Int × Int} {q : QR} (hk : NTg k) : evk k t x q = [] ∨ ∃ e, evk k t x q = [e] ∧ ((e.1 = 4 ∨ e.1 = 5) ∧ e.2.1 = t.1 ∨ e.1 = 1) := by
  unfold evk
  split
  all_goals (try (exact absurd hk (by decide)))
  · by_cases c : nam t
    · rw [if_pos c]; exact Or.inr ⟨_, rfl, Or.inl ⟨Or.inl rfl, rfl⟩⟩
    · rw [if_neg c]; exact Or.inl rfl
  · exact Or.inr ⟨_, rfl, Or.inl ⟨Or.inr rfl, rfl⟩⟩
  · exact Or.inr ⟨_, rfl, Or.inl ⟨Or.inl rfl, rfl⟩⟩
  · exact Or.inr ⟨_, rfl, Or.inr rfl⟩
  · exact Or.inl rfl
/-- the tags: outside of a routine, in its parameters, behind them -/
def KSH (K : List Nat) (md : Nat) : Prop := (md = 0 ∧ (K = [] ∨ K = [36] ∨ K = [30, 36])) ∨ (md = 1 ∧ (K = [140, 31, 36] ∨ K = [31, 36] ∨ K = [32, 36] ∨ K = [33, 36])) ∨ (md = 2 ∧ ∃ p x, K = p ++ [x, 36] ∧ (x = 34 ∨ x = 35) ∧ ∀ y ∈ p, NTg y)
theorem itr_fF {s : Int → Int} (n : Nat) : itr s n pF = pF := itr_fix (stp_pF s) n
theorem stp_some {s : Int → Int} {k : Nat} {K : List Nat} {t : TK} {x : Int × Int × Int} {q : QR} {ρ : List EV} {r : List Nat × TK × (Int × Int × Int) × QR × List EV} (h : stk s k t x q = some r) : stp s (k :: K, t, x, q, ρ) = (r.1 ++ K, r.2.1, r.2.2.1, r.2.2.2.1, ρ ++ r.2.2.2.2) := by
  show (match stk s k t x q with | none => pF | some r => (r.1 ++ K, r.2.1, r.2.2.1, r.2.2.2.1, ρ ++ r.2.2.2.2)) = _
  rw [h]
theorem stp_none {s : Int → Int} {k : Nat} {K : List Nat} {t : TK} {x : Int × Int × Int} {q : QR} {ρ : List EV} (h : stk s k t x q = none) : stp s (k :: K, t, x, q, ρ) = pF := by
  show (match stk s k t x q with | none => pF | some r => (r.1 ++ K, r.2.1, r.2.2.1, r.2.2.2.1, ρ ++ r.2.2.2.2)) = _
  rw [h]
/-- tellings of a road that comes to its end -/
theorem shape {s : Int → Int} (hs : SEN s) : ∀ (n : Nat) {K : List Nat} {t : TK} {x : Int × Int × Int} {q : QR} {ρ : List EV} {md : Nat} {pc lo : Int} {b : PCf}, KSH K md → TKW t → lo ≤ t.1 → (md = 1 → pc = q.2.2.2.1) → itr s n (K, t, x, q, ρ) = b → b.1 = [] → SHP (evs s n (K, t, x, q, ρ)) md pc lo
  | 0, K, t, x, q, ρ, md, pc, lo, b, hk, hw, hl, hp, hi, hb => by
    have e : K = [] := by have : (K, t, x, q, ρ) = b := hi; rw [← this] at hb; exact hb
    show md = 0
    rcases hk with ⟨h, -⟩ | ⟨-, h⟩ | ⟨-, p, y, h, -⟩
    · exact h
    · rw [e] at h; simp at h
    · rw [e] at h; simp at h
  | n + 1, K, t, x, q, ρ, md, pc, lo, b, hk, hw, hl, hp, hi, hb => by
    have hi : itr s n (stp s (K, t, x, q, ρ)) = b := hi
    have nf : stp s (K, t, x, q, ρ) ≠ pF := fun e => by
      rw [e, itr_fF] at hi
      rw [← hi] at hb
      exact absurd hb (by decide)
    show SHP (evt s (K, t, x, q, ρ) ++ evs s n (stp s (K, t, x, q, ρ))) md pc lo
    have one : ∀ {k : Nat} {K' : List Nat}, K = k :: K' → ∃ r, stk s k t x q = some r := fun {k K'} e => by
      cases h : stk s k t x q with
      | none => exact absurd (by rw [e]; exact stp_none h) nf
      | some r => exact ⟨r, rfl⟩
    have ao := adv_ok hs hw
    rcases hk with ⟨rfl, h⟩ | ⟨rfl, h⟩ | ⟨rfl, p, y, h, hy, hN⟩
    · rcases h with rfl | rfl | rfl
      · rw [evt_nil]
        exact shape hs n (Or.inl ⟨rfl, Or.inl rfl⟩) hw hl hp hi hb
      · obtain ⟨r, hr⟩ := one rfl
        rw [stp_some hr] at hi ⊢
        rw [evt_s (by decide) hr]
        have e : evk 36 t x q = [] := rfl
        rw [e]
        have hr2 : (if t.2.2.1 = 0 then some (([] : List Nat), t, x, q, ([] : List EV)) else some ([30, 36], t, x, q, [])) = some r := hr
        by_cases c : t.2.2.1 = 0
        · rw [if_pos c] at hr2
          cases hr2
          exact shape hs n (Or.inl ⟨rfl, Or.inl rfl⟩) hw hl hp hi hb
        · rw [if_neg c] at hr2
          cases hr2
          exact shape hs n (Or.inl ⟨rfl, Or.inr (Or.inr rfl)⟩) hw hl hp hi hb
      · obtain ⟨r, hr⟩ := one rfl
        rw [stp_some hr] at hi ⊢
        rw [evt_s (by decide) hr]
        have e : evk 30 t x q = [(2, t.1, 0, t.2.2.2.2)] := rfl
        rw [e]
        have hr2 : (if nam t then some ([140, 31], advT s t.2.1, x, (q.1, q.2.1, q.2.2.1, 0, t.1), ([] : List EV)) else none) = some r := hr
        by_cases c : nam t
        · rw [if_pos c] at hr2
          cases hr2
          have tw := hw.2 (by rw [c.1]; decide)
          have av := advT_w hs t.2.1
          exact Or.inl ⟨rfl, rfl, hl, shape hs n (Or.inr (Or.inl ⟨rfl, Or.inl rfl⟩)) ao.1 (by show t.1 + 1 ≤ (advT s t.2.1).1; have := av.1; omega) (fun _ => rfl) hi hb⟩
        · rw [if_neg c] at hr2
          cases hr2
    · rcases h with rfl | rfl | rfl | rfl
      · obtain ⟨r, hr⟩ := one rfl
        rw [stp_some hr] at hi ⊢
        rw [evt_s (by decide) hr]
        have e : evk 140 t x q = [] := rfl
        rw [e]
        have hr2 : (if sgn t (((140 : Nat) : Int) - 100) then some (([] : List Nat), advT s t.2.1, x, q, ([] : List EV)) else none) = some r := hr
        by_cases c : sgn t (((140 : Nat) : Int) - 100)
        · rw [if_pos c] at hr2
          cases hr2
          exact shape hs n (Or.inr (Or.inl ⟨rfl, Or.inr (Or.inl rfl)⟩)) ao.1 (Int.le_trans hl ao.2) hp hi hb
        · rw [if_neg c] at hr2
          cases hr2
      · obtain ⟨r, hr⟩ := one rfl
        rw [stp_some hr] at hi ⊢
        rw [evt_s (by decide) hr]
        have e : evk 31 t x q = if sgn t 41 then [(7, 0, q.2.2.2.1, 0)] else [] := rfl
        rw [e]
        have hr2 : (if sgn t 41 then some ([141, 35], t, x, q, ([] : List EV)) else some ([32], t, x, q, [])) = some r := hr
        by_cases c : sgn t 41
        · rw [if_pos c] at hr2 ⊢
          cases hr2
          exact Or.inr (Or.inr (Or.inl ⟨rfl, rfl, (hp rfl).symm, shape hs n (Or.inr (Or.inr ⟨rfl, [141], 35, rfl, Or.inr rfl, ntg rfl⟩)) hw hl (fun z => absurd z (by decide)) hi hb⟩))
        · rw [if_neg c] at hr2 ⊢
          cases hr2
          exact shape hs n (Or.inr (Or.inl ⟨rfl, Or.inr (Or.inr (Or.inl rfl))⟩)) hw hl hp hi hb
      · obtain ⟨r, hr⟩ := one rfl
        rw [stp_some hr] at hi ⊢
        rw [evt_s (by decide) hr]
        have e : evk 32 t x q = [(3, t.1, q.2.2.2.1, t.2.2.2.2)] := rfl
        rw [e]
        have hr2 : (if nam t then some ([33], advT s t.2.1, x, (q.1, q.2.1, q.2.2.1, q.2.2.2.1 + 1, q.2.2.2.2), ([] : List EV)) else none) = some r := hr
        by_cases c : nam t
        · rw [if_pos c] at hr2
          cases hr2
          exact Or.inr (Or.inl ⟨rfl, rfl, hl, (hp rfl).symm, shape hs n (Or.inr (Or.inl ⟨rfl, Or.inr (Or.inr (Or.inr rfl))⟩)) ao.1 ao.2 (fun _ => by show pc + 1 = q.2.2.2.1 + 1; rw [hp rfl]) hi hb⟩)
        · rw [if_neg c] at hr2
          cases hr2
      · obtain ⟨r, hr⟩ := one rfl
        rw [stp_some hr] at hi ⊢
        rw [evt_s (by decide) hr]
        have e : evk 33 t x q = if sgn t 44 then [] else [(7, 0, q.2.2.2.1, 0)] := rfl
        rw [e]
        have hr2 : (if sgn t 44 then some ([32], advT s t.2.1, x, q, ([] : List EV)) else some ([141, 35], t, x, q, [])) = some r := hr
        by_cases c : sgn t 44
        · rw [if_pos c] at hr2 ⊢
          cases hr2
          exact shape hs n (Or.inr (Or.inl ⟨rfl, Or.inr (Or.inr (Or.inl rfl))⟩)) ao.1 (Int.le_trans hl ao.2) hp hi hb
        · rw [if_neg c] at hr2 ⊢
          cases hr2
          exact Or.inr (Or.inr (Or.inl ⟨rfl, rfl, (hp rfl).symm, shape hs n (Or.inr (Or.inr ⟨rfl, [141], 35, rfl, Or.inr rfl, ntg rfl⟩)) hw hl (fun z => absurd z (by decide)) hi hb⟩))
    · cases p with
      | nil =>
        rcases hy with rfl | rfl
        · subst h
          obtain ⟨r, hr⟩ := one (k := 34) (K' := [36]) rfl
          have hi : itr s n (stp s (34 :: [36], t, x, q, ρ)) = b := hi
          show SHP (evt s (34 :: [36], t, x, q, ρ) ++ evs s n (stp s (34 :: [36], t, x, q, ρ))) 2 pc lo
          rw [stp_some hr] at hi ⊢
          rw [evt_s (by decide) hr]
          have e : evk 34 t x q = [(0, q.2.2.2.2, x.2.2, 0)] := rfl
          rw [e]
          cases hr
          exact Or.inr (Or.inr (Or.inr (Or.inr (Or.inr ⟨rfl, rfl, shape hs n (Or.inl ⟨rfl, Or.inr (Or.inl rfl)⟩) hw hl (fun z => absurd z (by decide)) hi hb⟩))))
        · subst h
          obtain ⟨r, hr⟩ := one (k := 35) (K' := [36]) rfl
          have hi : itr s n (stp s (35 :: [36], t, x, q, ρ)) = b := hi
          show SHP (evt s (35 :: [36], t, x, q, ρ) ++ evs s n (stp s (35 :: [36], t, x, q, ρ))) 2 pc lo
          rw [stp_some hr] at hi ⊢
          rw [evt_s (by decide) hr]
          have e : evk 35 t x q = [] := rfl
          rw [e]
          cases hr
          exact shape hs n (Or.inr (Or.inr ⟨rfl, [28, 51], 34, rfl, Or.inl rfl, ntg rfl⟩)) hw hl (fun z => absurd z (by decide)) hi hb
      | cons k p =>
        subst h
        obtain ⟨r, hr⟩ := one (k := k) (K' := p ++ [y, 36]) rfl
        have hi : itr s n (stp s (k :: (p ++ [y, 36]), t, x, q, ρ)) = b := hi
        show SHP (evt s (k :: (p ++ [y, 36]), t, x, q, ρ) ++ evs s n (stp s (k :: (p ++ [y, 36]), t, x, q, ρ))) 2 pc lo
        have hk := hN k List.mem_cons_self
        obtain ⟨g1, g2, g3⟩ := stk_body hs hk hw hr
        rw [stp_some hr] at hi ⊢
        rw [evt_s (by omega) hr]
        have ks : KSH (r.1 ++ (p ++ [y, 36])) 2 := Or.inr (Or.inr ⟨rfl, r.1 ++ p, y, by rw [List.append_assoc], hy, fun z w => (List.mem_append.mp w).elim (g1 z) (fun w => hN z (List.mem_cons_of_mem _ w))⟩)
        rcases evk_body (t := t) (x := x) (q := q) hk with e | ⟨e, he, h4 | h1⟩
        · rw [e]
          exact shape hs n ks g2 (Int.le_trans hl g3) (fun z => absurd z (by decide)) hi hb
        · rw [he]
          exact Or.inr (Or.inr (Or.inr (Or.inl ⟨rfl, h4.1, by rw [h4.2]; exact hl, shape hs n ks g2 (by rw [h4.2]; exact g3) (fun z => absurd z (by decide)) hi hb⟩)))
        · rw [he]
          exact Or.inr (Or.inr (Or.inr (Or.inr (Or.inl ⟨rfl, h1, shape hs n ks g2 (Int.le_trans hl g3) (fun z => absurd z (by decide)) hi hb⟩))))
/-- the tellings of a whole text -/
theorem RE.shp {s : Int → Int} {es : List EW} {x x' : Int × Int × Int} {q q' : QR} {ρ ρ' : List EV} {t' : TK} (hs : SEN s) (h : RE s ([36], advT s 0, x, q, ρ) es ([], t', x', q', ρ')) : SHP es 0 0 0 := by
  obtain ⟨n, h1, h2⟩ := h
  rw [← h2]
  have w := advT_w hs 0
  exact shape hs n (Or.inl ⟨Eq.refl _, Or.inr (Or.inl (Eq.refl _))⟩) w.2 w.1 (fun z => absurd z (by decide)) h1 (Eq.refl _)
end
section
def k5 : List Int → Int
  | [] => 0
  | b :: l => 32 * k5 l + (b - 96)
def w8 : List Int → Int
  | [] => 0
  | b :: l => 256 * w8 l + b
def LTR (l : List Int) : Prop := ∀ b ∈ l, 97 ≤ b ∧ b ≤ 122
theorem LTR.tl {b : Int} {l : List Int} (h : LTR (b :: l)) : LTR l := fun c q => h c (List.mem_cons_of_mem _ q)
theorem LTR.hd {b : Int} {l : List Int} (h : LTR (b :: l)) : 97 ≤ b ∧ b ≤ 122 := h b List.mem_cons_self
theorem k5_0 : ∀ l, LTR l → 0 ≤ k5 l
  | [], _ => Int.le_refl _
  | b :: l, h => by
    have := k5_0 l h.tl
    have := h.hd
    show 0 ≤ 32 * k5 l + (b - 96)
    omega
theorem w8_0 : ∀ l, LTR l → 0 ≤ w8 l
  | [], _ => Int.le_refl _
  | b :: l, h => by
    have := w8_0 l h.tl
    have := h.hd
    show 0 ≤ 256 * w8 l + b
    omega
theorem k5_inj : ∀ l m, LTR l → LTR m → k5 l = k5 m → l = m
  | [], [], _, _, _ => rfl
  | [], c :: m, _, h, e => by
    have := k5_0 m h.tl
    have := h.hd
    have e2 : (0 : Int) = 32 * k5 m + (c - 96) := e
    omega
  | b :: l, [], h, _, e => by
    have := k5_0 l h.tl
    have := h.hd
    have e2 : 32 * k5 l + (b - 96) = (0 : Int) := e
    omega
  | b :: l, c :: m, h, g, e => by
    have h1 := h.hd
    have h2 := g.hd
    have e2 : 32 * k5 l + (b - 96) = 32 * k5 m + (c - 96) := e
    have e3 : b = c := by omega
    have e4 : k5 l = k5 m := by omega
    rw [e3, k5_inj l m h.tl g.tl e4]
theorem w8_inj : ∀ l m, LTR l → LTR m → w8 l = w8 m → l = m
  | [], [], _, _, _ => rfl
  | [], c :: m, _, h, e => by
    have := w8_0 m h.tl
    have := h.hd
    have e2 : (0 : Int) = 256 * w8 m + c := e
    omega
  | b :: l, [], h, _, e => by
    have := w8_0 l h.tl
    have := h.hd
    have e2 : 256 * w8 l + b = (0 : Int) := e
    omega
  | b :: l, c :: m, h, g, e => by
    have h1 := h.hd
    have h2 := g.hd
    have e2 : 256 * w8 l + b = 256 * w8 m + c := e
    have e3 : b = c := by omega
    have e4 : w8 l = w8 m := by omega
    rw [e3, w8_inj l m h.tl g.tl e4]
theorem k5_b : ∀ (n : Nat) (l : List Int), LTR l → l.length ≤ n → k5 l < 32 ^ n
  | 0, [], _, _ => by show (0 : Int) < 1; decide
  | 0, _ :: _, _, h => absurd h (by simp)
  | n + 1, [], _, _ => Int.pow_pos (by decide)
  | n + 1, b :: l, h, e => by
    have i := k5_b n l h.tl (by simpa using e)
    have := h.hd
    show 32 * k5 l + (b - 96) < 32 ^ (n + 1)
    rw [Int.pow_succ]
    omega
theorem w8_b : ∀ (n : Nat) (l : List Int), LTR l → l.length ≤ n → w8 l < 256 ^ n
  | 0, [], _, _ => by show (0 : Int) < 1; decide
  | 0, _ :: _, _, h => absurd h (by simp)
  | n + 1, [], _, _ => Int.pow_pos (by decide)
  | n + 1, b :: l, h, e => by
    have i := w8_b n l h.tl (by simpa using e)
    have := h.hd
    show 256 * w8 l + b < 256 ^ (n + 1)
    rw [Int.pow_succ]
    omega
/-- names of six letters at most: keys and words are alike together -/
theorem kw_iff {l m : List Int} (hl : LTR l) (hm : LTR m) (h6 : l.length ≤ 6) (g6 : m.length ≤ 6) : iI (k5 l) = iI (k5 m) ↔ Int64.ofInt (w8 l) = Int64.ofInt (w8 m) := by
  have a1 := k5_0 l hl
  have a2 := k5_0 m hm
  have b1 := k5_b 6 l hl h6
  have b2 := k5_b 6 m hm g6
  have c1 := w8_0 l hl
  have c2 := w8_0 m hm
  have d1 := w8_b 6 l hl h6
  have d2 := w8_b 6 m hm g6
  rw [show (32 : Int) ^ 6 = 1073741824 by decide] at b1 b2
  rw [show (256 : Int) ^ 6 = 281474976710656 by decide] at d1 d2
  constructor
  · intro e
    rw [k5_inj l m hl hm ((iI_eq ⟨by omega, by omega⟩ ⟨by omega, by omega⟩).mp e)]
  · intro e
    have e2 := congrArg Int64.toInt e
    rw [Int64.toInt_ofInt_of_le (by simp; omega) (by simp; omega), Int64.toInt_ofInt_of_le (by simp; omega) (by simp; omega)] at e2
    rw [w8_inj l m hl hm e2]
end
section
theorem sho_nat {X B k : Nat} (h : B < 2 ^ k) : X <<< k ||| B = 2 ^ k * X + B := by
  rw [← Nat.shiftLeft_add_eq_or_of_lt h, Nat.shiftLeft_eq, Nat.mul_comm]
theorem shw_eq {x b : Int} (h0 : 0 ≤ x) (h1 : x < 1099511627776) (hb : 0 ≤ b ∧ b < 256) : shw (Int64.ofInt x) b = Int64.ofInt (256 * x + b) := by
  obtain ⟨X, rfl⟩ := Int.eq_ofNat_of_zero_le h0
  obtain ⟨B, rfl⟩ := Int.eq_ofNat_of_zero_le hb.1
  have e1 : ((iI 8).toInt64 &&& 63) = (8 : Int64) := by decide
  have e2 : (iI (B : Int)).toInt64 = Int64.ofInt (B : Int) := by
    apply Int64.toInt_inj.mp
    rw [Int32.toInt_toInt64, iI_toInt ⟨by omega, by omega⟩, Int64.toInt_ofInt_of_le (by first | (simp; done) | (simp; omega)) (by first | (simp; done) | (simp; omega))]
  unfold shw
  rw [e1, e2]
  apply Int64.toBitVec_inj.mp
  rw [Int64.toBitVec_or, Int64.toBitVec_shiftLeft, Int64.toBitVec_ofInt, Int64.toBitVec_ofInt, Int64.toBitVec_ofInt]
  have e3 : ((8 : Int64).toBitVec.smod 64) = 8#64 := by decide
  rw [e3]
  apply BitVec.eq_of_toNat_eq
  have f : ∀ N : Nat, N < 2 ^ 64 → (BitVec.ofInt 64 (N : Int)).toNat = N := fun N h => by
    rw [BitVec.toNat_ofInt]
    rw [show ((N : Int) % ((2 ^ 64 : Nat) : Int)) = ((N % 2 ^ 64 : Nat) : Int) by omega, Int.toNat_natCast, Nat.mod_eq_of_lt h]
  have hX : X < 2 ^ 40 := by omega
  have hB : B < 2 ^ 8 := by omega
  rw [BitVec.toNat_or, BitVec.shiftLeft_eq', BitVec.toNat_shiftLeft, f X (by omega), f B (by omega), show (256 * (X : Int) + (B : Int)) = ((256 * X + B : Nat) : Int) by omega, f (256 * X + B) (by omega)]
  rw [show (8#64 : BitVec 64).toNat = 8 by rfl, Nat.mod_eq_of_lt (by rw [Nat.shiftLeft_eq]; omega), sho_nat hB]
/-- letters from p on, the last one first -/
def lts (s : Int → Int) (p : Int) : Nat → List Int
  | 0 => []
  | n + 1 => s (p + n) :: lts s p n
theorem lts_len {s : Int → Int} {p : Int} : ∀ n, (lts s p n).length = n
  | 0 => rfl
  | n + 1 => by show (lts s p n).length + 1 = n + 1; rw [lts_len n]
theorem lts_ltr {s : Int → Int} {p : Int} : ∀ (n : Nat), (∀ j : Nat, j < n → 97 ≤ s (p + j) ∧ s (p + j) ≤ 122) → LTR (lts s p n)
  | 0, _ => fun b q => absurd q (by show ¬ b ∈ ([] : List Int); simp)
  | n + 1, h => fun b q => by
    rcases List.mem_cons.mp (show b ∈ s (p + n) :: lts s p n from q) with q | q
    · rw [q]; exact h n (by omega)
    · exact lts_ltr n (fun j w => h j (by omega)) b q
/-- behind n letters, six at most -/
theorem ltp_run {s : Int → Int} {p : Int} : ∀ (n : Nat), n ≤ 6 → p + n ≤ 1300 → (∀ j : Nat, j < n → 97 ≤ s (p + j) ∧ s (p + j) ≤ 122) → ltp s p 0 0 = ltp s (p + n) (Int64.ofInt (w8 (lts s p n))) n
  | 0, _, _, _ => by
    show ltp s p 0 0 = ltp s (p + ((0 : Nat) : Int)) (Int64.ofInt 0) ((0 : Nat) : Int)
    rw [show p + ((0 : Nat) : Int) = p by omega]; rfl
  | n + 1, h6, hp, h => by
    have hl := lts_ltr (s := s) (p := p) n (fun j w => h j (by omega))
    have b1 := w8_0 _ hl
    have b2 := w8_b 5 _ hl (by rw [lts_len]; omega)
    rw [show (256 : Int) ^ 5 = 1099511627776 by decide] at b2
    have hn := h n (by omega)
    rw [ltp_run n (by omega) (by omega) (fun j w => h j (by omega)), ltp_s (by omega) hn, shw_eq b1 b2 ⟨by omega, by omega⟩]
    rw [show p + ((n + 1 : Nat) : Int) = p + (n : Int) + 1 by omega, show ((n + 1 : Nat) : Int) = (n : Int) + 1 by omega]
    rfl
/-- the count of letters alone -/
theorem ltp_cnt {s : Int → Int} : ∀ (n : Nat) {p c : Int} {w : Int64}, p + n ≤ 1300 → (∀ j : Nat, j < n → 97 ≤ s (p + j) ∧ s (p + j) ≤ 122) → ¬ (97 ≤ s (p + n) ∧ s (p + n) ≤ 122) → (ltp s p w c).1 = p + n ∧ (ltp s p w c).2.2 = c + n
  | 0, p, c, w, _, _, h => by
    rw [show p + ((0 : Nat) : Int) = p by omega] at h ⊢
    rw [ltp_e h]; exact ⟨rfl, by show c = c + ((0 : Nat) : Int); omega⟩
  | n + 1, p, c, w, hp, h, g => by
    have h0 := h 0 (by omega)
    rw [show p + ((0 : Nat) : Int) = p by omega] at h0
    rw [ltp_s (by omega) h0]
    have q := ltp_cnt n (p := p + 1) (c := c + 1) (w := shw w (s p)) (by omega) (fun j w => by rw [show p + 1 + (j : Int) = p + ((j + 1 : Nat) : Int) by omega]; exact h (j + 1) (by omega)) (by rw [show p + 1 + (n : Int) = p + ((n + 1 : Nat) : Int) by omega]; exact g)
    exact ⟨by rw [q.1]; omega, by rw [q.2]; omega⟩
end
section
/-- the tokens of a tape -/
def tkS (s : Int → Int) : Nat → TK
  | 0 => advT s 0
  | j + 1 => advT s (tkS s j).2.1
end
section
/-- tokens alike but for the number of a NAME -/
def TEQ (t u : TK) : Prop := t.1 = u.1 ∧ t.2.1 = u.2.1 ∧ t.2.2.1 = u.2.2.1 ∧ t.2.2.2.2 = u.2.2.2.2 ∧ (u.2.2.1 ≠ 2 → t.2.2.2.1 = u.2.2.2.1)
theorem TEQ.rf {t : TK} : TEQ t t := ⟨rfl, rfl, rfl, rfl, fun _ => rfl⟩
theorem TEQ.sg {t u : TK} {c : Int} (h : TEQ t u) : sgn t c ↔ sgn u c := by
  obtain ⟨h1, h2, h3, h4, h5⟩ := h
  show (t.2.2.1 = 4 ∧ t.2.2.2.1 = c) ↔ (u.2.2.1 = 4 ∧ u.2.2.2.1 = c)
  rw [h3]
  exact ⟨fun q => ⟨q.1, by rw [← h5 (by have := q.1; omega)]; exact q.2⟩, fun q => ⟨q.1, by rw [h5 (by have := q.1; omega)]; exact q.2⟩⟩
theorem TEQ.nm {t u : TK} (h : TEQ t u) : nam t ↔ nam u := by
  show (t.2.2.1 = 2 ∧ t.2.2.2.2 ∉ W5) ↔ (u.2.2.1 = 2 ∧ u.2.2.2.2 ∉ W5)
  rw [h.2.2.1, h.2.2.2.1]
/-- all bytes -/
def SB (S : Int → Int) : Prop := ∀ k, S k ≤ 255
section KDS
variable {S : Int → Int} {j : Nat} {t : TK} {c : Int}
end KDS
def GCS (S : Int → Int) (ks : List Nat) (j : Nat) (x : Int × Int × Int) (q : QR) (ls : List Nat) (i : Nat) (y : Int × Int × Int) (p : QR) (es : List EW) : Prop := ∀ t, TEQ t (tkS S j) → ∃ (t' : TK) (l : List EV), TEQ t' (tkS S i) ∧ ∀ (K : List Nat) (ρ : List EV), RE S (ks ++ K, t, x, q, ρ) es (ls ++ K, t', y, p, ρ ++ l)
def GCF (S : Int → Int) (ks : List Nat) (j : Nat) (x : Int × Int × Int) (q : QR) (p : Int) : Prop := ∃ es, ∀ t, TEQ t (tkS S j) → ∀ (K : List Nat) (ρ : List EV), RE S (ks ++ K, t, x, q, ρ) (es ++ [(9, p, 0, 0)]) pF
section GCSS
variable {S : Int → Int} {ks ls ms : List Nat} {j i k : Nat} {x y z : Int × Int × Int} {q p r : QR} {es e2 : List EW} {pl : Int}
theorem GCS.nl : GCS S ks j x q ks j x q [] := fun t h => ⟨t, [], h, fun K ρ => by rw [List.append_nil]; exact RE.rfl⟩
theorem GCS.ml (m : List Nat) (h : GCS S ks j x q ls i y p es) : GCS S (ks ++ m) j x q (ls ++ m) i y p es := fun t a => by
  obtain ⟨t1, l1, a1, b1⟩ := h t a
  refine ⟨t1, l1, a1, fun K ρ => ?_⟩
  rw [List.append_assoc, List.append_assoc]
  exact b1 (m ++ K) ρ
theorem GCF.ml (m : List Nat) (h : GCF S ks j x q pl) : GCF S (ks ++ m) j x q pl := by
  obtain ⟨es, b⟩ := h
  exact ⟨es, fun t a K ρ => by rw [List.append_assoc]; exact b t a (m ++ K) ρ⟩
theorem GCS.fl (h : GCS S ks j x q ls i y p es) (g : GCF S ls i y p pl) : GCF S ks j x q pl := by
  obtain ⟨e2, b2⟩ := g
  refine ⟨es ++ e2, fun t a K ρ => ?_⟩
  obtain ⟨t1, l1, a1, b1⟩ := h t a
  rw [List.append_assoc]
  exact (b1 K ρ).trans (b2 t1 a1 K _)
theorem GCS.st {k0 : Nat} (hk : k0 ≠ 999) (h : ∀ t, TEQ t (tkS S j) → ∃ (t' : TK) (l : List EV), TEQ t' (tkS S i) ∧ stk S k0 t x q = some (ls, t', y, p, l) ∧ evk k0 t x q = es) : GCS S [k0] j x q ls i y p es := fun t a => by
  obtain ⟨t1, l1, a1, b1, c1⟩ := h t a
  exact ⟨t1, l1, a1, fun K ρ => RE.one (stp_some b1) ((evt_s hk b1).trans c1)⟩
theorem GCF.st {k0 : Nat} (hk : k0 ≠ 999) (h : ∀ t, TEQ t (tkS S j) → stk S k0 t x q = none) : GCF S [k0] j x q (tkS S j).1 := ⟨[], fun t a K ρ => RE.one (stp_none (h t a)) ((evt_n hk (h t a)).trans (by rw [a.1]; rfl))⟩
end GCSS
abbrev UR : Type := Int64 × Int × Int
abbrev u0 : UR := (0, 0, 0)
def GR (S : Int → Int) (ks : List Nat) (j : Nat) (e b : Int) (u : UR) (ls : List Nat) (i : Nat) (f d : Int) (w : UR) (m : Int) (es : List EW) : Prop := ∀ N pm rp : Int, GCS S ks j (e, b, N) (u.1, u.2.1, u.2.2, pm, rp) ls i (f, d, N + m) (w.1, w.2.1, w.2.2, pm, rp) es
def GRF (S : Int → Int) (ks : List Nat) (j : Nat) (e b : Int) (u : UR) (p : Int) : Prop := ∀ N pm rp : Int, GCF S ks j (e, b, N) (u.1, u.2.1, u.2.2, pm, rp) p
section GRS
variable {S : Int → Int} {ks ls ms l z : List Nat} {j i k : Nat} {e b f d f2 d2 m m2 : Int} {u w w2 : UR} {es e2 : List EW} {pl : Int}
theorem GR.nl : GR S ks j e b u ks j e b u 0 [] := fun N pm rp => by rw [Int.add_zero]; exact GCS.nl
theorem GR.fl (z : List Nat) (h : GR S ks j e b u (l ++ z) i f d w m es) (g : GRF S l i f d w pl) : GRF S ks j e b u pl := fun N pm rp => (h N pm rp).fl ((g (N + m) pm rp).ml z)
end GRS
end
section
section STEPS
variable {S : Int → Int} {j : Nat} {e b : Int} {u : UR}
theorem x2 (hS : SB S) (h : e ≠ 8) : GR S [2] j e b u [3, 6] j (e + 1) b u 0 [] := fun N pm rp => by
  rw [Int.add_zero]; exact GCS.st (by decide) (fun t a => ⟨t, _, a, if_neg h, rfl⟩)
theorem x3 (hS : SB S)  : GR S [3] j e b u [4, 8] j e b u 0 [] := fun N pm rp => by
  rw [Int.add_zero]; exact GCS.st (by decide) (fun t a => ⟨t, _, a, rfl, rfl⟩)
theorem x4 (hS : SB S)  : GR S [4] j e b u [0, 9] j e b u 0 [] := fun N pm rp => by
  rw [Int.add_zero]; exact GCS.st (by decide) (fun t a => ⟨t, _, a, rfl, rfl⟩)
theorem x7 (hS : SB S)  : GR S [7] j e b u [] j (e - 1) b u 0 [] := fun N pm rp => by
  rw [Int.add_zero]; exact GCS.st (by decide) (fun t a => ⟨t, _, a, rfl, rfl⟩)
end STEPS
section STEPR
variable {S : Int → Int} {j : Nat} {x : Int × Int × Int} {q : QR}
end STEPR
end
section
/-- a key and a word are of one NAME -/
def KW (v : Int) (w : Int64) : Prop := ∃ l, LTR l ∧ l.length ≤ 6 ∧ v = k5 l ∧ w = Int64.ofInt (w8 l)
theorem KW.rg {v : Int} {w : Int64} (h : KW v w) : 0 ≤ v ∧ v < 1073741824 := by
  obtain ⟨l, a, b, c, d⟩ := h
  have x := k5_0 l a
  have y := k5_b 6 l a b
  rw [show (32 : Int) ^ 6 = 1073741824 by decide] at y
  rw [c]; exact ⟨x, y⟩
theorem KW.eq {v v2 : Int} {w w2 : Int64} (h : KW v w) (g : KW v2 w2) : v = v2 ↔ w = w2 := by
  have r1 := h.rg
  have r2 := g.rg
  obtain ⟨l, a, b, c, d⟩ := h
  obtain ⟨m, a2, b2, c2, d2⟩ := g
  rw [d, d2, ← kw_iff a a2 b b2, ← c, ← c2]
  exact (iI_eq ⟨by omega, by omega⟩ ⟨by omega, by omega⟩).symm
section RDXS
variable {T : CT} {σ τ : MS} {a t n j k d x : Nat} {c : CS} {N z v : Int} {S : Int → Int} {ks : List Nat}
end RDXS
section NTS
variable {T : CT} {σ τ : MS} {a n j : Nat} {c : CS} {N f p : Int} {S : Int → Int}
end NTS
end
section
section PRS
variable {S : Int → Int} {j i i2 i3 : Nat} {rp k m : Int} {es e2 e3 : List EW}
end PRS
/-- the reader's beginning -/
def c00 : CS := CS.mk (0, -1) 0 (fun _ => 0) (fun _ => 0) 0 (fun _ => 0) (fun _ => 0) (fun _ => 0) 0 (fun _ => 0) 0
section STC
variable {T : CT} {σ : MS} {a : Nat} {c : CS} {k v i : Int}
end STC
end
section
def nArgs (σ : MS) (x : Int) : Int := if σ.2.1 3 x = 10 then σ.2.1 11 (σ.2.1 5 x) else if σ.2.1 3 x = 12 then (if 10 ≤ σ.2.1 6 x then 0 else if 2 < σ.2.1 6 x then 2 else 1) else if 1 ≤ σ.2.1 3 x ∧ σ.2.1 3 x ≤ 5 then 2 else if σ.2.1 3 x = 0 ∨ σ.2.1 3 x = 6 ∨ σ.2.1 3 x = 7 ∨ σ.2.1 3 x = 9 then 1 else 0
def PAR (σ : MS) : Prop := ∀ r, 0 ≤ r → r < 6 → 0 ≤ σ.2.1 11 r ∧ σ.2.1 11 r ≤ 4
end
section
def OKI (σ : MS) (F x : Int) : Prop :=
  (0 ≤ σ.2.1 3 x ∧ σ.2.1 3 x ≤ 15) ∧ ((σ.2.1 3 x ≤ 5 ∨ σ.2.1 3 x = 10) → 0 ≤ σ.2.1 4 x ∧ σ.2.1 4 x < 192) ∧ ((σ.2.1 3 x = 8 ∨ σ.2.1 3 x = 9 ∨ σ.2.1 3 x = 13) → 0 ≤ σ.2.1 4 x ∧ σ.2.1 4 x < 4096) ∧ ((σ.2.1 3 x = 14 ∨ σ.2.1 3 x = 15) → 0 ≤ σ.2.1 4 x ∧ σ.2.1 4 x < F) ∧ (σ.2.1 3 x = 12 → 0 ≤ σ.2.1 4 x ∧ σ.2.1 4 x < 12) ∧
  ((σ.2.1 3 x = 11 ∨ σ.2.1 3 x = 12) → 0 ≤ σ.2.1 5 x ∧ σ.2.1 5 x < F) ∧ (σ.2.1 3 x = 10 → 0 ≤ σ.2.1 5 x ∧ σ.2.1 5 x < 6) ∧ (∀ i, 0 ≤ i → i < 4 → (0 ≤ σ.2.1 7 (4 * x + i) ∧ σ.2.1 7 (4 * x + i) ≤ 2) ∧ (σ.2.1 7 (4 * x + i) = 2 → (0 ≤ σ.2.1 8 (4 * x + i) ∧ σ.2.1 8 (4 * x + i) < 192) ∧ i < nArgs σ x)) ∧ (σ.2.1 3 x = 12 → σ.2.1 6 x = 2 → σ.2.1 7 (4 * x + 0) = 2)
/-- all items of a routine are well formed; F frames -/
def OKS (σ : MS) (F r : Int) : Prop := ∀ k, 0 ≤ k → k < σ.2.1 9 r → OKI σ F (220 * r + k)
/-- names of the frames of a routine -/
def OKF (σ : MS) (r : Int) : Prop := (1 ≤ σ.2.1 14 r ∧ σ.2.1 14 r ≤ 12) ∧ ∀ f, 0 ≤ f → f < σ.2.1 14 r → (0 ≤ σ.2.1 15 (12 * r + f) ∧ σ.2.1 15 (12 * r + f) < 6) ∧ ∀ n, 0 ≤ n → n < σ.2.1 12 (σ.2.1 15 (12 * r + f)) → 0 ≤ σ.2.1 18 (144 * r + 12 * f + n) ∧ σ.2.1 18 (144 * r + 12 * f + n) < 192
def NAM (σ : MS) : Prop := ∀ r, 0 ≤ r → r < 6 → 0 ≤ σ.2.1 12 r ∧ σ.2.1 12 r ≤ 12
end
section
theorem PAR.fr {ss ks js : List Nat} {σ τ : MS} (h : PAR σ) (f : Fr ss ks js σ τ) (hk : 11 ∉ ks) : PAR τ := fun l => by rw [f.2.1 11 hk]; exact h l
theorem NAM.fr {ss ks js : List Nat} {σ τ : MS} (h : NAM σ) (f : Fr ss ks js σ τ) (hk : 12 ∉ ks) : NAM τ := fun l => by rw [f.2.1 12 hk]; exact h l
/-- labels of a routine stand within labelAt's row -/
def LBR (σ : MS) (r : Int) : Prop := ∀ k, 0 ≤ k → k < σ.2.1 9 r → σ.2.1 3 (220 * r + k) = 13 → 0 ≤ σ.2.1 4 (220 * r + k) ∧ σ.2.1 4 (220 * r + k) < 4096
/-- labelAt tells where labels stand, of the first n items -/
def LFN (σ τ : MS) (r n : Int) : Prop := ∀ k, 0 ≤ k → k < n → σ.2.1 3 (220 * r + k) = 13 → 0 ≤ τ.2.1 46 (σ.2.1 4 (220 * r + k)) ∧ τ.2.1 46 (σ.2.1 4 (220 * r + k)) < n ∧ σ.2.1 3 (220 * r + τ.2.1 46 (σ.2.1 4 (220 * r + k))) = 13 ∧ σ.2.1 4 (220 * r + τ.2.1 46 (σ.2.1 4 (220 * r + k))) = σ.2.1 4 (220 * r + k)
theorem LFN.put {σ τ : MS} {r k : Int} (h : LFN σ τ r k) (h0 : 0 ≤ k) (hk : σ.2.1 3 (220 * r + k) = 13) : LFN σ (sA 46 (σ.2.1 4 (220 * r + k)) k τ) r (k + 1) := fun j a c e => by
  simp only [sA, if_true]
  by_cases q : σ.2.1 4 (220 * r + j) = σ.2.1 4 (220 * r + k)
  · rw [if_pos q]; exact ⟨h0, by omega, hk, q.symm⟩
  · rw [if_neg q]
    by_cases q2 : j = k
    · subst q2; exact absurd rfl q
    · obtain ⟨x1, x2, x3⟩ := h j a (by omega) e; exact ⟨x1, by omega, x3⟩
end
section
def JMP (σ : MS) (r : Int) : Prop := ∀ k, 0 ≤ k → k < σ.2.1 9 r → (σ.2.1 3 (220 * r + k) = 8 ∨ σ.2.1 3 (220 * r + k) = 9 ∨ σ.2.1 3 (220 * r + k) = 13) → 0 ≤ σ.2.1 4 (220 * r + k) ∧ σ.2.1 4 (220 * r + k) < 4096
theorem JMP.lbr {σ : MS} {r : Int} (h : JMP σ r) : LBR σ r := fun k a b c => h k a b (Or.inr (Or.inr c))
theorem OKS.jmp {σ : MS} {F r : Int} (h : OKS σ F r) : JMP σ r := fun k a b c => (h k a b).2.2.1 c
theorem OKS.of {σ : MS} {F r : Int} (h : OKS σ F r) {k : Int} (a : 0 ≤ k) (b : k < σ.2.1 9 r) : σ.2.1 3 (220 * r + k) = 10 → 0 ≤ σ.2.1 5 (220 * r + k) ∧ σ.2.1 5 (220 * r + k) < 6 := (h k a b).2.2.2.2.2.2.1
end
section
theorem Fr.q {ss ks js : List Nat} {σ τ : MS} (f : Fr ss ks js σ τ) {l : List Nat} (h : ∀ k ∈ l, k ∉ ks) {k : Nat} (hk : k ∈ l) : τ.2.1 k = σ.2.1 k := f.2.1 k (h k hk)
theorem nArgs.fr {ss ks js : List Nat} {σ τ : MS} (f : Fr ss ks js σ τ) (h : ∀ k ∈ [3, 4, 5, 6, 7, 8, 9, 11], k ∉ ks) : nArgs τ = nArgs σ := by
  funext x
  unfold nArgs
  rw [f.q h (k := 3) (by decide), f.q h (k := 5) (by decide), f.q h (k := 6) (by decide), f.q h (k := 11) (by decide)]
theorem OKI.fr {ss ks js : List Nat} {σ τ : MS} (f : Fr ss ks js σ τ) (h : ∀ k ∈ [3, 4, 5, 6, 7, 8, 9, 11], k ∉ ks) : OKI τ = OKI σ := by
  funext F x
  unfold OKI
  rw [nArgs.fr f h, f.q h (k := 3) (by decide), f.q h (k := 4) (by decide), f.q h (k := 5) (by decide), f.q h (k := 6) (by decide), f.q h (k := 7) (by decide), f.q h (k := 8) (by decide)]
theorem OKS.fr {ss ks js : List Nat} {σ τ : MS} {F r : Int} (hok : OKS σ F r) (f : Fr ss ks js σ τ) (h : ∀ k ∈ [3, 4, 5, 6, 7, 8, 9, 11], k ∉ ks) : OKS τ F r := fun k a b => by
  rw [OKI.fr f h]
  exact hok k a (by rw [← f.q h (k := 9) (by decide)]; exact b)
theorem JMP.fr {ss ks js : List Nat} {σ τ : MS} {r : Int} (hok : JMP σ r) (f : Fr ss ks js σ τ) (h : ∀ k ∈ [3, 4, 9], k ∉ ks) : JMP τ r := fun k a b => by
  rw [f.q h (k := 3) (by decide), f.q h (k := 4) (by decide)]
  exact hok k a (by rw [← f.q h (k := 9) (by decide)]; exact b)
theorem LBR.fr {ss ks js : List Nat} {σ τ : MS} {r : Int} (hok : LBR σ r) (f : Fr ss ks js σ τ) (h : ∀ k ∈ [3, 4, 9], k ∉ ks) : LBR τ r := fun k a b => by
  rw [f.q h (k := 3) (by decide), f.q h (k := 4) (by decide)]
  exact hok k a (by rw [← f.q h (k := 9) (by decide)]; exact b)
theorem OKF.fr {ss ks js : List Nat} {σ τ : MS} {r : Int} (hok : OKF σ r) (f : Fr ss ks js σ τ) (h : ∀ k ∈ [12, 14, 15, 18], k ∉ ks) : OKF τ r := by
  unfold OKF
  rw [f.q h (k := 12) (by decide), f.q h (k := 14) (by decide), f.q h (k := 15) (by decide), f.q h (k := 18) (by decide)]
  exact hok
end
section
def LEX (σ : MS) (r : Int) : Prop := ∀ k, 0 ≤ k → k < σ.2.1 9 r → (σ.2.1 3 (220 * r + k) = 8 ∨ σ.2.1 3 (220 * r + k) = 9) → ∃ j, 0 ≤ j ∧ j < σ.2.1 9 r ∧ σ.2.1 3 (220 * r + j) = 13 ∧ σ.2.1 4 (220 * r + j) = σ.2.1 4 (220 * r + k)
theorem LEX.to {σ τ : MS} {r : Int} (h : LEX σ r) (f : LFN σ τ r (σ.2.1 9 r)) {k : Int} (a : 0 ≤ k) (b : k < σ.2.1 9 r) (c : σ.2.1 3 (220 * r + k) = 8 ∨ σ.2.1 3 (220 * r + k) = 9) : 0 ≤ τ.2.1 46 (σ.2.1 4 (220 * r + k)) ∧ τ.2.1 46 (σ.2.1 4 (220 * r + k)) < σ.2.1 9 r ∧ σ.2.1 3 (220 * r + τ.2.1 46 (σ.2.1 4 (220 * r + k))) = 13 := by
  obtain ⟨j, h1, h2, h3, h4⟩ := h k a b c
  have := f j h1 h2 h3
  rw [h4] at this
  exact ⟨this.1, this.2.1, this.2.2.1⟩
end
section
def FR0 (σ : MS) (r : Int) : Prop := σ.2.1 15 (12 * r + 0) = r
end
section
theorem LEX.fr {ss ks js : List Nat} {σ τ : MS} {r : Int} (h : LEX σ r) (f : Fr ss ks js σ τ) (hk : ∀ k ∈ [3, 4, 9], k ∉ ks) : LEX τ r := by
  unfold LEX
  rw [f.q hk (k := 3) (by decide), f.q hk (k := 4) (by decide), f.q hk (k := 9) (by decide)]
  exact h
end
section
def cl (f : Int → Int) (lo : Int) : Nat → Nat
  | 0 => 0
  | n + 1 => cl f lo n + (if f (lo + n) = -1 then 0 else 1)
end
section
/-- nothing of the items has changed but of item x -/
def OFF (x : Int) (σ τ : MS) : Prop := (∀ y, y ≠ x → τ.2.1 3 y = σ.2.1 3 y ∧ τ.2.1 4 y = σ.2.1 4 y ∧ τ.2.1 5 y = σ.2.1 5 y ∧ τ.2.1 6 y = σ.2.1 6 y) ∧ (∀ z, (z < 4 * x ∨ 4 * x + 4 ≤ z) → τ.2.1 7 z = σ.2.1 7 z ∧ τ.2.1 8 z = σ.2.1 8 z) ∧ τ.2.1 9 = σ.2.1 9 ∧ τ.2.1 11 = σ.2.1 11
theorem OFF.trans {x : Int} {σ τ υ : MS} (h : OFF x σ τ) (g : OFF x τ υ) : OFF x σ υ := ⟨fun y hy => ⟨((g.1 y hy).1).trans (h.1 y hy).1, ((g.1 y hy).2.1).trans (h.1 y hy).2.1, ((g.1 y hy).2.2.1).trans (h.1 y hy).2.2.1, ((g.1 y hy).2.2.2).trans (h.1 y hy).2.2.2⟩, fun z hz => ⟨((g.2.1 z hz).1).trans (h.2.1 z hz).1, ((g.2.1 z hz).2).trans (h.2.1 z hz).2⟩, g.2.2.1.trans h.2.2.1, g.2.2.2.trans h.2.2.2⟩
theorem OFF.rfl {x : Int} {σ : MS} : OFF x σ σ := ⟨fun _ _ => ⟨Eq.refl _, Eq.refl _, Eq.refl _, Eq.refl _⟩, fun _ _ => ⟨Eq.refl _, Eq.refl _⟩, Eq.refl _, Eq.refl _⟩
theorem OFF.nargs {x y : Int} {σ τ : MS} (h : OFF x σ τ) (hy : y ≠ x) : nArgs τ y = nArgs σ y := by
  obtain ⟨a1, a2, a3, a4⟩ := h.1 y hy
  unfold nArgs
  rw [a1, a3, a4, h.2.2.2]
theorem OFF.oki {x y F : Int} {σ τ : MS} (h : OFF x σ τ) (hy : y ≠ x) (ho : OKI σ F y) : OKI τ F y := by
  obtain ⟨a1, a2, a3, a4⟩ := h.1 y hy
  unfold OKI at ho ⊢
  rw [a1, a2, a3, a4, h.nargs hy]
  obtain ⟨o1, o2, o3, o4, o5, o6, o7, o8, o9⟩ := ho
  refine ⟨o1, o2, o3, o4, o5, o6, o7, fun i c e => ?_, ?_⟩
  · rw [(h.2.1 (4 * y + i) (by omega)).1, (h.2.1 (4 * y + i) (by omega)).2]
    exact o8 i c e
  · rw [(h.2.1 (4 * y + 0) (by omega)).1]
    exact o9
end
section
/-- nothing of the names' registers has changed but of routine r's frames -/
def XN (r : Int) (σ τ : MS) : Prop := ∀ z, (z < 144 * r ∨ 144 * r + 144 ≤ z) → τ.2.1 18 z = σ.2.1 18 z
theorem XN.rfl {r : Int} {σ : MS} : XN r σ σ := fun _ _ => Eq.refl _
theorem XN.put {r y v : Int} {σ τ : MS} (h : XN r σ τ) (hy : 144 * r ≤ y ∧ y < 144 * r + 144) : XN r σ (sA 18 y v τ) := fun z hz => ra_ne (by omega) (h z hz)
end
section
/-- item y of τ is as item x of σ -/
def IEQ (σ : MS) (x : Int) (τ : MS) (y : Int) : Prop := τ.2.1 3 y = σ.2.1 3 x ∧ τ.2.1 4 y = σ.2.1 4 x ∧ τ.2.1 5 y = σ.2.1 5 x ∧ τ.2.1 6 y = σ.2.1 6 x ∧ ∀ i, 0 ≤ i → i < 4 → τ.2.1 7 (4 * y + i) = σ.2.1 7 (4 * x + i) ∧ τ.2.1 8 (4 * y + i) = σ.2.1 8 (4 * x + i)
theorem IEQ.rfl {σ : MS} {x : Int} : IEQ σ x σ x := ⟨Eq.refl _, Eq.refl _, Eq.refl _, Eq.refl _, fun _ _ _ => ⟨Eq.refl _, Eq.refl _⟩⟩
theorem IEQ.trans {σ τ υ : MS} {x y z : Int} (h : IEQ σ x τ y) (g : IEQ τ y υ z) : IEQ σ x υ z := ⟨g.1.trans h.1, g.2.1.trans h.2.1, g.2.2.1.trans h.2.2.1, g.2.2.2.1.trans h.2.2.2.1, fun i a b => ⟨(g.2.2.2.2 i a b).1.trans (h.2.2.2.2 i a b).1, (g.2.2.2.2 i a b).2.trans (h.2.2.2.2 i a b).2⟩⟩
theorem OFF.ieq {x y : Int} {σ τ : MS} (h : OFF x σ τ) (hy : y ≠ x) : IEQ σ y τ y := ⟨(h.1 y hy).1, (h.1 y hy).2.1, (h.1 y hy).2.2.1, (h.1 y hy).2.2.2, fun i a b => h.2.1 (4 * y + i) (by omega)⟩
theorem IEQ.nargs {σ τ : MS} {x y : Int} (h : IEQ σ x τ y) (hp : τ.2.1 11 = σ.2.1 11) : nArgs τ y = nArgs σ x := by
  unfold nArgs
  rw [h.1, h.2.2.1, h.2.2.2.1, hp]
theorem IEQ.oki {σ τ : MS} {x y F : Int} (h : IEQ σ x τ y) (hp : τ.2.1 11 = σ.2.1 11) (ho : OKI σ F x) : OKI τ F y := by
  unfold OKI at ho ⊢
  rw [h.nargs hp, h.1, h.2.1, h.2.2.1, h.2.2.2.1]
  obtain ⟨o1, o2, o3, o4, o5, o6, o7, o8, o9⟩ := ho
  refine ⟨o1, o2, o3, o4, o5, o6, o7, fun i c e => ?_, ?_⟩
  · rw [(h.2.2.2.2 i c e).1, (h.2.2.2.2 i c e).2]; exact o8 i c e
  · rw [(h.2.2.2.2 0 (by decide) (by decide)).1]; exact o9
end
section
/-- the frames of a code: fr of each place, lf of each label -/
def CW (n F R : Int) (K D O FI fr lf : Int → Int) : Prop :=
  fr 0 = 0 ∧ (∀ k, 0 ≤ k → k < n → 0 ≤ fr k ∧ fr k < F) ∧
  (∀ k, 0 ≤ k → k < n → K k ≠ 7 → K k ≠ 8 → k + 1 < n ∧ (K k = 14 → FI (D k) = fr k ∧ fr (k + 1) = D k ∧ 1 ≤ D k) ∧ (K k = 15 → D k = fr k ∧ 1 ≤ D k ∧ fr (k + 1) = FI (D k)) ∧ (K k ≠ 14 → K k ≠ 15 → fr (k + 1) = fr k)) ∧
  (∀ k, 0 ≤ k → k < n → ((K k = 8 ∨ K k = 9 ∨ K k = 13) → lf (D k) = fr k) ∧ (K k = 7 → fr k = 0)) ∧
  (∀ k, 0 ≤ k → k < n → K k = 10 → O k < R ∧ ∃ j, 0 ≤ j ∧ j < k ∧ K j = 11 ∧ O j = fr k ∧ ∀ i, j < i → i < k → K i ≤ 5)
theorem CW.last {n F R : Int} {K D O FI fr lf : Int → Int} (h : CW n F R K D O FI fr lf) (hn : 1 ≤ n) : K (n - 1) = 7 ∨ K (n - 1) = 8 := by
  by_cases a : K (n - 1) = 7
  · exact Or.inl a
  · by_cases b : K (n - 1) = 8
    · exact Or.inr b
    · have := (h.2.2.1 (n - 1) (by omega) (by omega) a b).1; omega
theorem CW.run {n F R : Int} {K D O FI fr lf : Int → Int} (h : CW n F R K D O FI fr lf) {SK : Int → Prop} (hk : ∀ i, 0 ≤ i → i < n → SK i → K i = 9 ∨ (0 ≤ K i ∧ K i ≤ 5)) : ∀ (m : Nat) (a : Int), 0 ≤ a → a + m ≤ n → (∀ i, a ≤ i → i < a + m → SK i) → a + m < n ∨ m = 0 ∧ a = n := by
  intro m a h0 h1 h2
  by_cases e : a + m < n
  · exact Or.inl e
  · cases m with
    | zero => exact Or.inr ⟨rfl, by omega⟩
    | succ m =>
      have hs := h2 (n - 1) (by omega) (by omega)
      have hl := h.last (by omega)
      have := hk (n - 1) (by omega) (by omega) hs
      omega
abbrev iK (σ : MS) (r : Int) : Int → Int := fun k => σ.2.1 3 (220 * r + k)
abbrev iD (σ : MS) (r : Int) : Int → Int := fun k => σ.2.1 4 (220 * r + k)
abbrev iO (σ : MS) (r : Int) : Int → Int := fun k => σ.2.1 5 (220 * r + k)
abbrev iF (σ : MS) (r : Int) : Int → Int := fun f => σ.2.1 16 (12 * r + f)
/-- a routine's code: ways, frames, lines of calls -/
def CODE (σ : MS) (r : Int) : Prop := ∃ fr lf, CW (σ.2.1 9 r) (σ.2.1 14 r) (σ.1 10) (iK σ r) (iD σ r) (iO σ r) (iF σ r) fr lf
/-- frames stand in earlier ones -/
def FRI (σ : MS) (r : Int) : Prop := σ.2.1 16 (12 * r + 0) = -1 ∧ ∀ f, 1 ≤ f → f < σ.2.1 14 r → 0 ≤ σ.2.1 16 (12 * r + f) ∧ σ.2.1 16 (12 * r + f) < f
/-- labels are few -/
def LBM (σ : MS) (r : Int) : Prop := ∀ k, 0 ≤ k → k < σ.2.1 9 r → (σ.2.1 3 (220 * r + k) = 8 ∨ σ.2.1 3 (220 * r + k) = 9 ∨ σ.2.1 3 (220 * r + k) = 13) → σ.2.1 4 (220 * r + k) + 2 ≤ 121 * σ.2.1 14 r
theorem CODE.fr {ss ks js : List Nat} {σ τ : MS} {r : Int} (h : CODE σ r) (f : Fr ss ks js σ τ) (hs : 10 ∉ ss) (hk : ∀ k ∈ [3, 4, 5, 9, 14, 16], k ∉ ks) : CODE τ r := by
  obtain ⟨fr, lf, h⟩ := h
  refine ⟨fr, lf, ?_⟩
  unfold iK iD iO iF at h ⊢
  rw [f.q hk (k := 3) (by decide), f.q hk (k := 4) (by decide), f.q hk (k := 5) (by decide), f.q hk (k := 9) (by decide), f.q hk (k := 14) (by decide), f.q hk (k := 16) (by decide), f.1 10 hs]
  exact h
theorem FRI.fr {ss ks js : List Nat} {σ τ : MS} {r : Int} (h : FRI σ r) (f : Fr ss ks js σ τ) (hk : ∀ k ∈ [14, 16], k ∉ ks) : FRI τ r := by
  unfold FRI; rw [f.q hk (k := 14) (by decide), f.q hk (k := 16) (by decide)]; exact h
theorem LBM.fr {ss ks js : List Nat} {σ τ : MS} {r : Int} (h : LBM σ r) (f : Fr ss ks js σ τ) (hk : ∀ k ∈ [3, 4, 9, 14], k ∉ ks) : LBM τ r := by
  unfold LBM; rw [f.q hk (k := 3) (by decide), f.q hk (k := 4) (by decide), f.q hk (k := 9) (by decide), f.q hk (k := 14) (by decide)]; exact h
theorem IEQ.fr {ss ks js : List Nat} {σ τ : MS} {x : Int} (f : Fr ss ks js σ τ) (h : ∀ k ∈ [3, 4, 5, 6, 7, 8], k ∉ ks) : IEQ σ x τ x := by
  unfold IEQ
  rw [f.q h (k := 3) (by decide), f.q h (k := 4) (by decide), f.q h (k := 5) (by decide), f.q h (k := 6) (by decide), f.q h (k := 7) (by decide), f.q h (k := 8) (by decide)]
  exact ⟨Eq.refl _, Eq.refl _, Eq.refl _, Eq.refl _, fun _ _ _ => ⟨Eq.refl _, Eq.refl _⟩⟩
end
section
/-- nothing of the items of routines has changed but of those of routine r -/
def XR (r : Int) (σ τ : MS) : Prop := (∀ y, (y < 220 * r ∨ 220 * r + 220 ≤ y) → y < 2640 → τ.2.1 3 y = σ.2.1 3 y ∧ τ.2.1 4 y = σ.2.1 4 y ∧ τ.2.1 5 y = σ.2.1 5 y ∧ τ.2.1 6 y = σ.2.1 6 y) ∧ (∀ z, (z < 880 * r ∨ 880 * r + 880 ≤ z) → z < 10560 → τ.2.1 7 z = σ.2.1 7 z ∧ τ.2.1 8 z = σ.2.1 8 z)
theorem XR.rfl {r : Int} {σ : MS} : XR r σ σ := ⟨fun _ _ _ => ⟨Eq.refl _, Eq.refl _, Eq.refl _, Eq.refl _⟩, fun _ _ _ => ⟨Eq.refl _, Eq.refl _⟩⟩
theorem XR.trans {r : Int} {σ τ υ : MS} (h : XR r σ τ) (g : XR r τ υ) : XR r σ υ := ⟨fun y hy hz => ⟨((g.1 y hy hz).1).trans (h.1 y hy hz).1, ((g.1 y hy hz).2.1).trans (h.1 y hy hz).2.1, ((g.1 y hy hz).2.2.1).trans (h.1 y hy hz).2.2.1, ((g.1 y hy hz).2.2.2).trans (h.1 y hy hz).2.2.2⟩, fun z hz hw => ⟨((g.2 z hz hw).1).trans (h.2 z hz hw).1, ((g.2 z hz hw).2).trans (h.2 z hz hw).2⟩⟩
theorem XR.ieq {r k : Int} {σ τ : MS} (h : XR r σ τ) (hk : k < 220 * r ∨ 220 * r + 220 ≤ k) (h2 : k < 2640) : IEQ σ k τ k := ⟨(h.1 k hk h2).1, (h.1 k hk h2).2.1, (h.1 k hk h2).2.2.1, (h.1 k hk h2).2.2.2, fun i a b => h.2 (4 * k + i) (by omega) (by omega)⟩
end
section
theorem OFF.S {x : Int} {k : Nat} {v : Int} {σ τ : MS} (h : OFF x σ τ) : OFF x σ (sS k v τ) := h
theorem CW.fi {n F R : Int} {K D O FI FI2 fr lf : Int → Int} (h : CW n F R K D O FI fr lf) (he : ∀ f, 1 ≤ f → f < F → FI2 f = FI f) : CW n F R K D O FI2 fr lf := by
  obtain ⟨h1, h2, h3, h4, h5⟩ := h
  refine ⟨h1, h2, fun k a b x7 x8 => ?_, h4, h5⟩
  obtain ⟨g1, g2, g3, g4⟩ := h3 k a b x7 x8
  refine ⟨g1, fun e => ?_, fun e => ?_, g4⟩
  · have q := g2 e
    have r := h2 (k + 1) (by omega) g1
    rw [he _ q.2.2 (by omega)]; exact q
  · have q := g3 e
    have r := h2 k a b
    rw [he _ q.2.1 (by omega)]; exact q
theorem OKI.up {σ : MS} {F G x : Int} (h : OKI σ F x) (hg : F ≤ G) : OKI σ G x := by
  obtain ⟨o1, o2, o3, o4, o5, o6, o7, o8, o9⟩ := h
  exact ⟨o1, o2, o3, fun q => ⟨(o4 q).1, Int.lt_of_lt_of_le (o4 q).2 hg⟩, o5, fun q => ⟨(o6 q).1, Int.lt_of_lt_of_le (o6 q).2 hg⟩, o7, o8, o9⟩
end
section
/-- a routine stands well -/
def GDR (σ : MS) (r : Int) : Prop := (1 ≤ σ.2.1 9 r ∧ σ.2.1 9 r ≤ 200) ∧ OKF σ r ∧ OKS σ (σ.2.1 14 r) r ∧ FR0 σ r ∧ LEX σ r ∧ CODE σ r ∧ FRI σ r ∧ LBM σ r ∧ σ.2.1 11 r ≤ σ.2.1 12 r
def GDA (σ : MS) : Prop := (0 ≤ σ.1 10 ∧ σ.1 10 ≤ 6) ∧ ∀ r, 0 ≤ r → r < σ.1 10 → GDR σ r
theorem GDR.fr {ss ks js : List Nat} {σ τ : MS} {r : Int} (h : GDR σ r) (f : Fr ss ks js σ τ) (hs : 10 ∉ ss) (hk : ∀ k ∈ [3, 4, 5, 6, 7, 8, 9, 11, 12, 14, 15, 16, 18], k ∉ ks) : GDR τ r := by
  have sub : ∀ l : List Nat, (∀ k ∈ l, k ∈ [3, 4, 5, 6, 7, 8, 9, 11, 12, 14, 15, 16, 18]) → ∀ k ∈ l, k ∉ ks := fun l hl k q => hk k (hl k q)
  obtain ⟨h1, h2, h3, h4, h5, h6, h7, h8, h9⟩ := h
  refine ⟨by rw [f.2.1 9 (hk 9 (by decide))]; exact h1, h2.fr f (sub _ (by decide)), ?_, ?_, h5.fr f (sub _ (by decide)), h6.fr f hs (sub _ (by decide)), h7.fr f (sub _ (by decide)), h8.fr f (sub _ (by decide)), by rw [f.2.1 11 (hk 11 (by decide)), f.2.1 12 (hk 12 (by decide))]; exact h9⟩
  · rw [f.2.1 14 (hk 14 (by decide))]; exact h3.fr f (sub _ (by decide))
  · unfold FR0; rw [f.2.1 15 (hk 15 (by decide))]; exact h4
theorem GDA.fr {ss ks js : List Nat} {σ τ : MS} (h : GDA σ) (f : Fr ss ks js σ τ) (hs : 10 ∉ ss) (hk : ∀ k ∈ [3, 4, 5, 6, 7, 8, 9, 11, 12, 14, 15, 16, 18], k ∉ ks) : GDA τ := ⟨by rw [f.1 10 hs]; exact h.1, fun r a b => (h.2 r a (by rw [← f.1 10 hs]; exact b)).fr f hs hk⟩
theorem GDR.oth {σ τ : MS} {r s : Int} (h : GDR σ s) (hs : 0 ≤ s ∧ s < 6 ∧ s ≠ r) (hn : NAM σ) (xr : XR r σ τ) (e9 : τ.2.1 9 s = σ.2.1 9 s) (e14 : τ.2.1 14 s = σ.2.1 14 s) (e11 : τ.2.1 11 = σ.2.1 11) (e12 : τ.2.1 12 = σ.2.1 12) (e10 : τ.1 10 = σ.1 10) (ey : ∀ y, (y < 12 * r ∨ 12 * r + 12 ≤ y) → τ.2.1 15 y = σ.2.1 15 y ∧ τ.2.1 16 y = σ.2.1 16 y) (ez : ∀ z, (z < 144 * r ∨ 144 * r + 144 ≤ z) → τ.2.1 18 z = σ.2.1 18 z) : GDR τ s := by
  obtain ⟨h1, h2, h3, h4, h5, h6, h7, h8, h9⟩ := h
  have ie : ∀ k, 0 ≤ k → k < 220 → IEQ σ (220 * s + k) τ (220 * s + k) := fun k a b => xr.ieq (by omega) (by omega)
  have b14 := h2.1
  refine ⟨by rw [e9]; exact h1, ?_, fun k a b => ?_, ?_, fun k a b e => ?_, ?_, ?_, fun k a b e => ?_, by rw [e11, e12]; exact h9⟩
  · unfold OKF
    rw [e14, e12]
    refine ⟨h2.1, fun f a b => ?_⟩
    have q := h2.2 f a b
    have qn := hn _ q.1.1 q.1.2
    rw [(ey (12 * s + f) (by omega)).1]
    exact ⟨q.1, fun n c d => by rw [ez _ (by omega)]; exact q.2 n c d⟩
  · rw [e9] at b
    rw [e14]
    exact (ie k a (by omega)).oki e11 (h3 k a b)
  · unfold FR0; rw [(ey (12 * s + 0) (by omega)).1]; exact h4
  · rw [e9] at b
    rw [(ie k a (by omega)).1] at e
    obtain ⟨j, j0, j1, j2, j3⟩ := h5 k a b e
    exact ⟨j, j0, by rw [e9]; exact j1, by rw [(ie j j0 (by omega)).1]; exact j2, by rw [(ie j j0 (by omega)).2.1, (ie k a (by omega)).2.1]; exact j3⟩
  · obtain ⟨fr, lf, c1, c2, c3, c4, c5⟩ := h6
    refine ⟨fr, lf, ?_⟩
    rw [e9, e14, e10]
    have k3 : ∀ k, 0 ≤ k → k < σ.2.1 9 s → iK τ s k = iK σ s k := fun k a b => (ie k a (by omega)).1
    have k4 : ∀ k, 0 ≤ k → k < σ.2.1 9 s → iD τ s k = iD σ s k := fun k a b => (ie k a (by omega)).2.1
    have k5 : ∀ k, 0 ≤ k → k < σ.2.1 9 s → iO τ s k = iO σ s k := fun k a b => (ie k a (by omega)).2.2.1
    have kf : ∀ f, 0 ≤ f → f < 12 → iF τ s f = iF σ s f := fun f a b => (ey (12 * s + f) (by omega)).2
    refine ⟨c1, c2, fun k a b x7 x8 => ?_, fun k a b => ?_, fun k a b e => ?_⟩
    · rw [k3 k a b] at x7 x8 ⊢
      rw [k4 k a b]
      obtain ⟨d1, d2, d3, d4⟩ := c3 k a b x7 x8
      refine ⟨d1, fun e => ?_, fun e => ?_, d4⟩
      · have q := d2 e
        have w := c2 (k + 1) (by omega) d1
        rw [kf _ (by omega) (by omega)]; exact q
      · have q := d3 e
        have w := c2 k a b
        rw [kf _ (by omega) (by omega)]; exact q
    · rw [k3 k a b, k4 k a b]; exact c4 k a b
    · rw [k3 k a b] at e
      obtain ⟨d0, j, d1, d2, d3, d4, d5⟩ := c5 k a b e
      exact ⟨by rw [k5 k a b]; exact d0, j, d1, d2, by rw [k3 j d1 (by omega)]; exact d3, by rw [k5 j d1 (by omega)]; exact d4, fun i x y => by rw [k3 i (by omega) (by omega)]; exact d5 i x y⟩
  · refine ⟨by rw [(ey (12 * s + 0) (by omega)).2]; exact h7.1, fun f a b => ?_⟩
    rw [e14] at b
    rw [(ey (12 * s + f) (by omega)).2]; exact h7.2 f a b
  · rw [e9] at b
    rw [(ie k a (by omega)).1] at e
    rw [(ie k a (by omega)).2.1, e14]; exact h8 k a b e
theorem GDA.of {σ τ : MS} {r : Int} (h : GDA σ) (hr : 0 ≤ r ∧ r < σ.1 10) (hn : NAM σ) (xr : XR r σ τ) (e9 : ∀ j, j ≠ r → τ.2.1 9 j = σ.2.1 9 j) (e14 : ∀ j, j ≠ r → τ.2.1 14 j = σ.2.1 14 j) (e11 : τ.2.1 11 = σ.2.1 11) (e12 : τ.2.1 12 = σ.2.1 12) (e10 : τ.1 10 = σ.1 10) (ey : ∀ y, (y < 12 * r ∨ 12 * r + 12 ≤ y) → τ.2.1 15 y = σ.2.1 15 y ∧ τ.2.1 16 y = σ.2.1 16 y) (ez : ∀ z, (z < 144 * r ∨ 144 * r + 144 ≤ z) → τ.2.1 18 z = σ.2.1 18 z) (g : GDR τ r) : GDA τ := by
  refine ⟨by rw [e10]; exact h.1, fun s a b => ?_⟩
  by_cases z : s = r
  · rw [z]; exact g
  · rw [e10] at b
    have := h.1
    exact (h.2 s a b).oth ⟨a, by omega, z⟩ hn xr (e9 s z) (e14 s z) e11 e12 e10 ey ez
/-- the routine that is called is one -/
theorem GDR.call {σ : MS} {r k : Int} (h : GDR σ r) (hk : 0 ≤ k ∧ k < σ.2.1 9 r) (e : σ.2.1 3 (220 * r + k) = 10) : 0 ≤ σ.2.1 5 (220 * r + k) ∧ σ.2.1 5 (220 * r + k) < σ.1 10 := by
  obtain ⟨fr, lf, c⟩ := h.2.2.2.2.2.1
  exact ⟨((h.2.2.1 k hk.1 hk.2).2.2.2.2.2.2.1 e).1, (c.2.2.2.2 k hk.1 hk.2 e).1⟩
end
section
theorem GDA.step {ss ks js : List Nat} {σ τ : MS} {r : Int} (h : GDA σ) (hr : 0 ≤ r ∧ r < σ.1 10) (hn : NAM σ) (f : Fr ss ks js σ τ) (hs : 10 ∉ ss) (hk : ∀ k ∈ [11, 12, 14, 15, 16], k ∉ ks) (xr : XR r σ τ) (xn : XN r σ τ) (h9 : ∀ j, j ≠ r → τ.2.1 9 j = σ.2.1 9 j) (b9 : 1 ≤ τ.2.1 9 r ∧ τ.2.1 9 r ≤ σ.2.1 9 r) (of_ : OKF τ r) (ok : OKS τ (σ.2.1 14 r) r) (cd : CODE τ r) (lx : LEX τ r) (lm : LBM τ r) : GDA τ := by
  have g := h.2 r hr.1 hr.2
  have e14 : τ.2.1 14 = σ.2.1 14 := f.q hk (k := 14) (by decide)
  have e15 : τ.2.1 15 = σ.2.1 15 := f.q hk (k := 15) (by decide)
  have e16 : τ.2.1 16 = σ.2.1 16 := f.q hk (k := 16) (by decide)
  have e11 : τ.2.1 11 = σ.2.1 11 := f.q hk (k := 11) (by decide)
  have e12 : τ.2.1 12 = σ.2.1 12 := f.q hk (k := 12) (by decide)
  have g1 := g.1
  refine h.of hr hn xr h9 (fun j _ => by rw [e14]) e11 e12 (f.1 10 hs) (fun y _ => by rw [e15, e16]; exact ⟨rfl, rfl⟩) xn ⟨⟨b9.1, by omega⟩, of_, by rw [e14]; exact ok, ?_, lx, cd, ?_, lm, by rw [e11, e12]; exact g.2.2.2.2.2.2.2.2⟩
  · unfold FR0; rw [e15]; exact g.2.2.2.1
  · unfold FRI; rw [e14, e16]; exact g.2.2.2.2.2.2.1
theorem XN.fr {ss ks js : List Nat} {r : Int} {σ τ : MS} (f : Fr ss ks js σ τ) (hk : 18 ∉ ks) : XN r σ τ := fun z _ => by rw [f.2.1 18 hk]
end
section
def bkm (m : Int) : Int := if m = 2 then 6 else 0
def kdm (σ : MS) (m r p : Int) : Int := σ.2.1 3 (220 * (bkm m + r) + p)
end
section
/-- how far the next line is, at most -/
def rkp (σ : MS) (r p : Int) : Int := if kdm σ 2 r p = 11 ∨ kdm σ 2 r p = 7 then 1 else if kdm σ 2 r p = 13 ∧ kdm σ 2 r (p + 1) = 11 then 2 else 4 * (σ.2.1 9 (6 + r) - p) + 3
def rks (σ : MS) (R P : Int → Int) : Nat → Int
  | 0 => 0
  | n + 1 => rks σ R P n + 4 * (σ.2.1 9 (6 + R (18 + n)) - P (18 + n))
def rk (σ : MS) : Int := rks σ (σ.2.1 78) (σ.2.1 79) (σ.2.1 73 2 - 1).toNat + rkp σ (σ.2.1 78 (18 + σ.2.1 73 2 - 1)) (σ.2.1 79 (18 + σ.2.1 73 2 - 1))
end
section
def TOK (σ : MS) : Prop := (0 ≤ σ.1 19 ∧ σ.1 19 ≤ σ.1 20 ∧ σ.1 20 ≤ σ.1 21 ∧ σ.1 21 ≤ 1200) ∧ (σ.1 22 ≠ 0 → σ.1 19 < σ.1 20) ∧ (0 ≤ σ.1 22 ∧ σ.1 22 ≤ 4) ∧ (-1 ≤ σ.1 23 ∧ σ.1 23 ≤ 9999999)
end
section
def PXx (σ : MS) : Int := if σ.1 25 = 3 ∧ σ.1 34 < 220 ∧ σ.1 30 < 6 then 220 * σ.1 30 + σ.1 34 else 2640
def NN (σ : MS) : Prop := ∀ r, 0 ≤ r → r < 6 → 0 ≤ σ.2.1 35 r ∧ σ.2.1 35 r ≤ 12
theorem NN.fr {ss ks js : List Nat} {σ τ : MS} (h : NN σ) (f : Fr ss ks js σ τ) (hk : 35 ∉ ks) : NN τ := by unfold NN; rw [f.2.1 35 hk]; exact h
def FLT (σ τ : MS) : Prop := (σ.1 26 ≠ 0 → τ.1 26 ≠ 0) ∧ (0 ≤ σ.1 26 → 0 ≤ τ.1 26)
theorem FLT.trans {σ τ υ : MS} (h : FLT σ τ) (g : FLT τ υ) : FLT σ υ := ⟨fun a => g.1 (h.1 a), fun a => g.2 (h.2 a)⟩
theorem FLT.eq {σ τ : MS} (h : τ.1 26 = σ.1 26) : FLT σ τ := by unfold FLT; rw [h]; exact ⟨id, id⟩
def PBF (σ τ : MS) : Prop :=
  (∀ x, x ≠ 2640 → (x < 220 * σ.1 30 + σ.1 34 ∨ 220 * σ.1 30 + 220 ≤ x ∨ σ.1 25 ≠ 3 ∨ 6 ≤ σ.1 30) → IEQ σ x τ x) ∧
  (σ.1 25 ≠ 1 → τ.2.1 35 = σ.2.1 35 ∧ τ.2.2 38 = σ.2.2 38) ∧ NN τ ∧ (∀ r, σ.2.1 35 r ≤ τ.2.1 35 r ∧ (r ≠ σ.1 30 → τ.2.1 35 r = σ.2.1 35 r)) ∧
  FLT σ τ ∧ σ.1 34 ≤ τ.1 34 ∧ τ.1 25 = σ.1 25 ∧ τ.1 30 = σ.1 30
theorem PBF.trans {σ τ υ : MS} (h : PBF σ τ) (g : PBF τ υ) : PBF σ υ := by
  obtain ⟨h1, h2, h3, h4, h5, h6, h7, h8⟩ := h
  obtain ⟨g1, g2, g3, g4, g5, g6, g7, g8⟩ := g
  refine ⟨fun x a b => (h1 x a b).trans (g1 x a (by omega)), fun a => ?_, g3, fun r => ⟨Int.le_trans (h4 r).1 (g4 r).1, fun a => ((g4 r).2 (by omega)).trans ((h4 r).2 a)⟩, h5.trans g5, by omega, g7.trans h7, g8.trans h8⟩
  have x := h2 a
  have y := g2 (by omega)
  exact ⟨y.1.trans x.1, y.2.trans x.2⟩
theorem IEQ.of {ss ks js : List Nat} {σ τ : MS} {x : Int} (f : Fr ss ks js σ τ) (h : ∀ k ∈ [3, 4, 5, 6, 7, 8], k ∉ ks) : IEQ σ x τ x := by
  unfold IEQ
  rw [f.q h (k := 3) (by decide), f.q h (k := 4) (by decide), f.q h (k := 5) (by decide), f.q h (k := 6) (by decide), f.q h (k := 7) (by decide), f.q h (k := 8) (by decide)]
  exact ⟨Eq.refl _, Eq.refl _, Eq.refl _, Eq.refl _, fun _ _ _ => ⟨Eq.refl _, Eq.refl _⟩⟩
theorem PBF.of {ss ks js : List Nat} {σ τ : MS} (hn : NN σ) (f : Fr ss ks js σ τ) (hs : ∀ k ∈ [25, 30, 34], k ∉ ss) (hk : ∀ k ∈ [3, 4, 5, 6, 7, 8, 35], k ∉ ks) (hj : 38 ∉ js) (h26 : FLT σ τ) : PBF σ τ :=
  ⟨fun x _ _ => IEQ.of f (fun k q => hk k (by revert k q; decide)), fun _ => ⟨f.2.1 35 (hk 35 (by decide)), f.2.2 38 hj⟩, hn.fr f (hk 35 (by decide)), fun r => by rw [f.2.1 35 (hk 35 (by decide))]; exact ⟨Int.le_refl _, fun _ => Eq.refl _⟩, h26, by rw [f.1 34 (hs 34 (by decide))]; omega, f.1 25 (hs 25 (by decide)), f.1 30 (hs 30 (by decide))⟩
theorem PBF.nop {ss ks js : List Nat} {σ τ : MS} (hn : NN σ) (f : Fr ss ks js σ τ) (hs : ∀ k ∈ [25, 26, 30, 34], k ∉ ss) (hk : ∀ k ∈ [3, 4, 5, 6, 7, 8, 35], k ∉ ks) (hj : 38 ∉ js) : PBF σ τ := PBF.of hn f (fun k q => hs k (by revert k q; decide)) hk hj (FLT.eq (f.1 26 (hs 26 (by decide))))
/-- one item is put -/
theorem PBF.put {ss ks js : List Nat} {σ τ : MS} (hn : NN σ) (f : Fr ss ks js σ τ) (hs : ∀ k ∈ [25, 26, 30], k ∉ ss) (hk : 35 ∉ ks) (hj : 38 ∉ js) (h34 : τ.1 34 = σ.1 34 + 1) (o : OFF (PXx σ) σ τ) : PBF σ τ := by
  refine ⟨fun x a b => o.ieq ?_, fun _ => ⟨f.2.1 35 hk, f.2.2 38 hj⟩, hn.fr f hk, fun r => by rw [f.2.1 35 hk]; exact ⟨Int.le_refl _, fun _ => Eq.refl _⟩, FLT.eq (f.1 26 (hs 26 (by decide))), by omega, f.1 25 (hs 25 (by decide)), f.1 30 (hs 30 (by decide))⟩
  unfold PXx
  split <;> omega
/-- what is used up of the text, and what is made -/
def PBC (n : Int) (σ τ : MS) : Prop := σ.1 19 ≤ τ.1 19 ∧ 2 * σ.1 19 - σ.1 34 + n ≤ 2 * τ.1 19 - τ.1 34 ∧ σ.1 32 ≤ τ.1 32 ∧ τ.1 32 - σ.1 32 ≤ τ.1 34 - σ.1 34 ∧ σ.1 31 ≤ τ.1 31 ∧ τ.1 31 - σ.1 31 ≤ τ.1 19 - σ.1 19 ∧ σ.1 33 ≤ τ.1 33 ∧ τ.1 33 - σ.1 33 ≤ τ.1 34 - σ.1 34
theorem PBC.trans {n m : Int} {σ τ υ : MS} (h : PBC n σ τ) (g : PBC m τ υ) : PBC (n + m) σ υ := by
  unfold PBC at *
  omega
theorem PBC.nop {ss ks js : List Nat} {σ τ : MS} (f : Fr ss ks js σ τ) (hs : ∀ k ∈ [19, 31, 32, 33, 34], k ∉ ss) : PBC 0 σ τ := by
  unfold PBC
  rw [f.1 19 (hs 19 (by decide)), f.1 31 (hs 31 (by decide)), f.1 32 (hs 32 (by decide)), f.1 33 (hs 33 (by decide)), f.1 34 (hs 34 (by decide))]
  omega
theorem OFF.fr {ss ks js : List Nat} {x : Int} {σ τ υ : MS} (h : OFF x σ τ) (f : Fr ss ks js τ υ) (hk : ∀ k ∈ [3, 4, 5, 6, 7, 8, 9, 11], k ∉ ks) : OFF x σ υ := by
  unfold OFF
  rw [f.q hk (k := 3) (by decide), f.q hk (k := 4) (by decide), f.q hk (k := 5) (by decide), f.q hk (k := 6) (by decide), f.q hk (k := 7) (by decide), f.q hk (k := 8) (by decide), f.q hk (k := 9) (by decide), f.q hk (k := 11) (by decide)]
  exact h
end
section
abbrev It : Type := Int → Int
abbrev KN : Type := Int → Int × Int
def uZ {α : Type} (f : Int → α) (z : Int) (v : α) : Int → α := fun q => if q = z then v else f q
theorem uZ_eq {α : Type} {f : Int → α} {z : Int} {v : α} : uZ f z v z = v := if_pos rfl
theorem uZ_ne {α : Type} {f : Int → α} {z q : Int} {v : α} (h : q ≠ z) : uZ f z v q = f q := if_neg h
noncomputable def dI {α : Type} (P : Prop) (a b : α) : α := @ite α P (Classical.propDecidable P) a b
theorem dI_y {α : Type} {P : Prop} {a b : α} (h : P) : dI P a b = a := by unfold dI; rw [if_pos h]
theorem dI_n {α : Type} {P : Prop} {a b : α} (h : ¬ P) : dI P a b = b := by unfold dI; rw [if_neg h]
theorem dI_c {α : Type} {P Q : Prop} {a b : α} (h : P ↔ Q) : dI P a b = dI Q a b := by
  by_cases q : P
  · rw [dI_y q, dI_y (h.mp q)]
  · rw [dI_n q, dI_n (fun w => q (h.mpr w))]
def zI : It := fun _ => 0
/-- an item of the reference -/
def rI (σ : MS) (x : Int) : It := fun c => if c = 0 then σ.2.1 3 x else if c = 1 then σ.2.1 4 x else if c = 2 then σ.2.1 5 x else if c = 3 then σ.2.1 7 (4 * x + 0) else if c = 4 then σ.2.1 8 (4 * x + 0) else if c = 5 then σ.2.1 7 (4 * x + 1) else if c = 6 then σ.2.1 8 (4 * x + 1) else if c = 7 then σ.2.1 7 (4 * x + 2) else if c = 8 then σ.2.1 8 (4 * x + 2) else if c = 9 then σ.2.1 7 (4 * x + 3) else if c = 10 then σ.2.1 8 (4 * x + 3) else if c = 11 then σ.2.1 6 x else 0
section RI
variable {σ τ : MS} {x y k v j w : Int}
theorem IEQ.ri (h : IEQ σ x τ y) : rI τ y = rI σ x := by
  funext c
  obtain ⟨h3, h4, h5, h6, h7⟩ := h
  have a0 := h7 0 (by decide) (by decide)
  have a1 := h7 1 (by decide) (by decide)
  have a2 := h7 2 (by decide) (by decide)
  have a3 := h7 3 (by decide) (by decide)
  simp only [rI, h3, h4, h5, h6, a0.1, a0.2, a1.1, a1.2, a2.1, a2.2, a3.1, a3.2]
theorem OFF.ri (h : OFF x σ τ) (hy : y ≠ x) : rI τ y = rI σ y := (h.ieq hy).ri
theorem Fr.ri {ss ks js : List Nat} (f : Fr ss ks js σ τ) (h : ∀ k ∈ [3, 4, 5, 6, 7, 8], k ∉ ks) : rI τ = rI σ := by
  funext x
  exact (IEQ.fr f h).ri
end RI
/-- the code of a routine -/
def rV (σ : MS) (r : Int) : Int → It := fun k => if 0 ≤ k ∧ k < σ.2.1 9 r then rI σ (220 * r + k) else zI
/-- its first t items -/
def oV (σ : MS) (r t : Int) : Int → It := fun k => if 0 ≤ k ∧ k < t then rI σ (220 * r + k) else zI
section RV
variable {σ τ : MS} {r t k : Int}
theorem rv_in (h0 : 0 ≤ k) (h1 : k < σ.2.1 9 r) : rV σ r k = rI σ (220 * r + k) := if_pos ⟨h0, h1⟩
theorem rv_ov : rV σ r = oV σ r (σ.2.1 9 r) := rfl
theorem ov_ext (h : ∀ j, 0 ≤ j → j < t → rI τ (220 * r + j) = rI σ (220 * r + j)) : oV τ r t = oV σ r t := by
  funext j
  unfold oV
  by_cases q : 0 ≤ j ∧ j < t
  · rw [if_pos q, if_pos q]; exact h j q.1 q.2
  · rw [if_neg q, if_neg q]
theorem ov_up (h0 : 0 ≤ t) (h : ∀ j, 0 ≤ j → j < t → rI τ (220 * r + j) = rI σ (220 * r + j)) : oV τ r (t + 1) = uZ (oV σ r t) t (rI τ (220 * r + t)) := by
  funext j
  by_cases e : j = t
  · rw [e, uZ_eq]; exact if_pos ⟨h0, by omega⟩
  · rw [uZ_ne e]
    unfold oV
    by_cases q : 0 ≤ j ∧ j < t
    · rw [if_pos q, if_pos ⟨q.1, by omega⟩]; exact h j q.1 q.2
    · rw [if_neg q, if_neg (by omega)]
end RV
def mkI (k d o ak a w : Int) : It := fun c => if c = 0 then k else if c = 1 then d else if c = 2 then o else if c = 3 then ak else if c = 4 then a else if c = 11 then w else 0
/-- what the next 51 or 52 means: tag, two numbers, operands. 0 one of the five (which; its left operand), 1 LINE, 2 ZERO of an if, 3 LABEL, 4 JUMP and LABEL (else), 5 a while's head, 6 ZERO of a while (its first label), 7 a while's end (both labels), 8 an assignment (its register), 9 a call (its register, operands), 10 OUT or RETURN (which), 11 the last RETURN -/
abbrev ME : Type := Int × Int × Int × List (Int × Int)
/-- routine, statements, first statement, labels, new registers, items, the latest part, what is open, the codes made, first statements -/
abbrev MK : Type := (Int × Int × Int × Int × Int) × (Int × (Int → It)) × (Int × Int) × List ME × ((Int → Int × (Int → It)) × (Int → Int))
abbrev MK.rt (m : MK) : Int := m.1.1
abbrev MK.ln (m : MK) : Int := m.1.2.1
abbrev MK.fs (m : MK) : Int := m.1.2.2.1
abbrev MK.lab (m : MK) : Int := m.1.2.2.2.1
abbrev MK.tmp (m : MK) : Int := m.1.2.2.2.2
abbrev MK.n (m : MK) : Int := m.2.1.1
abbrev MK.V (m : MK) : Int → It := m.2.1.2
abbrev MK.pk (m : MK) : Int := m.2.2.1.1
abbrev MK.pv (m : MK) : Int := m.2.2.1.2
abbrev MK.S (m : MK) : List ME := m.2.2.2.1
def MK.sS (m : MK) (S : List ME) : MK := (m.1, m.2.1, m.2.2.1, S, m.2.2.2.2)
def MK.sP (m : MK) (k v : Int) : MK := (m.1, m.2.1, (k, v), m.2.2.2)
def MK.sL (m : MK) (l : Int) : MK := ((m.rt, m.ln, m.fs, l, m.tmp), m.2)
def MK.sT (m : MK) (l : Int) : MK := ((m.rt, m.ln, m.fs, m.lab, l), m.2)
/-- an item of two operands -/
def it2 (k d ak a bk b : Int) : It := fun c => if c = 0 then k else if c = 1 then d else if c = 3 then ak else if c = 4 then a else if c = 5 then bk else if c = 6 then b else 0
def argA (as : List (Int × Int)) (i : Nat) : Int × Int := as.getD i (0, 0)
def itC (d q : Int) (as : List (Int × Int)) : It := fun c => if c = 0 then 10 else if c = 1 then d else if c = 2 then q else if c = 3 then (argA as 0).1 else if c = 4 then (argA as 0).2 else if c = 5 then (argA as 1).1 else if c = 6 then (argA as 1).2 else if c = 7 then (argA as 2).1 else if c = 8 then (argA as 2).2 else if c = 9 then (argA as 3).1 else if c = 10 then (argA as 3).2 else 0
def bndI (n : Int) : It := mkI 12 n 0 2 n 2
def MK.put (m : MK) (i : It) : MK := (m.1, (m.n + 1, uZ m.V m.n i), m.2.2)
def MK.push (m : MK) (e : ME) : MK := m.sS (e :: m.S)
/-- what is open on top becomes e -/
def MK.top (m : MK) (f : ME → ME) : MK := match m.S with
  | [] => m
  | e :: S => m.sS (f e :: S)
/-- 51: one item -/
def MK.one (tb : Int → Int) (m : MK) : MK := match m.S with
  | [] => m
  | e :: S =>
    if e.1 = 0 then (((m.put (it2 (if e.2.1 < 6 then e.2.1 else 5) (tb m.rt + m.tmp) e.2.2.1 ((e.2.2.2.headD (0, 0)).1) m.pk m.pv)).sS S).sP 2 (tb m.rt + m.tmp)).sT (m.tmp + 1)
    else if e.1 = 1 then (m.put (mkI 11 m.ln 0 0 0 0)).sS S
    else if e.1 = 2 then ((m.put (mkI 9 m.lab 0 m.pk m.pv 0)).sS ((3, m.lab, 0, []) :: S)).sL (m.lab + 1)
    else if e.1 = 3 then (m.put (mkI 13 e.2.1 0 0 0 0)).sS S
    else if e.1 = 6 then ((m.put (mkI 9 m.lab 0 m.pk m.pv 0)).sS ((7, e.2.1, m.lab, []) :: S)).sL (m.lab + 1)
    else if e.1 = 10 then (m.put (mkI (if e.2.1 = 6 then 6 else 7) 0 0 m.pk m.pv 0)).sS S
    else if e.1 = 11 then (m.put (mkI 7 0 0 1 0 0)).sS S
    else m
/-- 52: two items -/
def MK.two (m : MK) : MK := match m.S with
  | [] => m
  | e :: S =>
    if e.1 = 8 then ((m.put (mkI 0 e.2.1 0 m.pk m.pv 0)).put (bndI e.2.1)).sS S
    else if e.1 = 5 then (((m.put (mkI 13 m.lab 0 0 0 0)).put (mkI 11 m.ln 0 0 0 0)).sS ((6, m.lab, 0, []) :: S)).sL (m.lab + 1)
    else if e.1 = 4 then (((m.put (mkI 8 m.lab 0 0 0 0)).put (mkI 13 e.2.1 0 0 0 0)).sS ((3, m.lab, 0, []) :: S)).sL (m.lab + 1)
    else if e.1 = 7 then ((m.put (mkI 8 e.2.1 0 0 0 0)).put (mkI 13 e.2.2.1 0 0 0 0)).sS S
    else m
/-- a CALL, and its BIND -/
def MK.cal (rn : Int64 → Int) (w : Int64) (m : MK) : MK := match m.S with
  | [] => m
  | e :: S => if e.1 = 9 then ((m.put (itC e.2.1 (rn w) e.2.2.2)).put (bndI e.2.1)).sS S else m
def MK.stm (m : MK) : MK := ((m.rt, m.ln + 1, if m.fs = 0 then m.ln + 1 else m.fs, m.lab, m.tmp), m.2)
/-- what a tag makes; nm: a name's number, rn: a routine's, tb: the first new register -/
def mkk (s : Int → Int) (nm : Int → Int64 → Int) (rn : Int64 → Int) (tb : Int → Int) (k : Nat) (t : TK) (q : QR) (m : MK) : MK := match k with
  | 0 => if sgn t 45 then m.push (0, 2, 1, [(0, 0)]) else m
  | 1 => if t.2.2.1 = 3 then m.sP 1 t.2.2.2.1 else if nam t then m.sP 2 (nm m.rt t.2.2.2.2) else m
  | 6 => if sgn t 61 then m.push (0, 4, m.pk, [(m.pv, 0)]) else if sgn t 60 then m.push (0, 5, m.pk, [(m.pv, 0)]) else m
  | 8 => if sgn t 43 then m.push (0, 1, m.pk, [(m.pv, 0)]) else if sgn t 45 then m.push (0, 2, m.pk, [(m.pv, 0)]) else m
  | 9 => if sgn t 42 then m.push (0, 3, m.pk, [(m.pv, 0)]) else m
  | 20 => if wrd t 512852847717 then m.stm else m.stm.push (1, 0, 0, [])
  | 21 => m.push (2, 0, 0, [])
  | 22 => m.push (5, 0, 0, [])
  | 23 => m.push (8, nm m.rt t.2.2.2.2, 0, [])
  | 24 => if wrd t 1701606245 then m.top (fun e => if e.1 = 3 then (4, e.2.1, 0, []) else e) else m
  | 25 => if nam t ∧ sgn (advT s t.2.1) 40 then m.top (fun e => if e.1 = 8 then (9, e.2.1, 0, []) else e) else m
  | 27 => m.top (fun e => if e.1 = 9 then (9, e.2.1, 0, e.2.2.2 ++ [(m.pk, m.pv)]) else e)
  | 34 => ((m.rt + 1, m.ln, m.fs, m.lab, m.tmp), m.2.1, m.2.2.1, m.S, (uZ m.2.2.2.2.1 m.rt (m.n, m.V), uZ m.2.2.2.2.2 m.rt m.fs))
  | 35 => ((m.rt, m.ln, 0, 0, 0), (0, fun _ => zI), m.2.2.1, [(11, 0, 0, [])], m.2.2.2.2)
  | 38 => m.cal rn q.1
  | 39 => if wrd t 7304564 then m.push (10, 6, 0, []) else m.push (10, 7, 0, [])
  | 51 => m.one tb
  | 52 => m.two
  | _ => m
section MKS
variable {s : Int → Int} {nm : Int → Int64 → Int} {rn : Int64 → Int} {tb : Int → Int} {a b c : PCf} {m m1 m2 : MK}
def mkt (s : Int → Int) (nm : Int → Int64 → Int) (rn : Int64 → Int) (tb : Int → Int) (a : PCf) (m : MK) : MK := match a with
  | ([], _, _, _, _) => m
  | (k :: _, t, x, q, _) => match stk s k t x q with
    | none => m
    | some _ => mkk s nm rn tb k t q m
def mkn (s : Int → Int) (nm : Int → Int64 → Int) (rn : Int64 → Int) (tb : Int → Int) : Nat → PCf → MK → MK
  | 0, _, m => m
  | n + 1, a, m => mkn s nm rn tb n (stp s a) (mkt s nm rn tb a m)
theorem mkn_add (n k : Nat) : mkn s nm rn tb (n + k) a m = mkn s nm rn tb k (itr s n a) (mkn s nm rn tb n a m) := by
  induction n generalizing a m with
  | zero => simp [mkn, itr]
  | succ n ih =>
    rw [show n + 1 + k = (n + k) + 1 by omega]
    show mkn s nm rn tb (n + k) (stp s a) (mkt s nm rn tb a m) = mkn s nm rn tb k (itr s n (stp s a)) (mkn s nm rn tb n (stp s a) (mkt s nm rn tb a m))
    exact ih
/-- a road, and what is made on it -/
def RM (s : Int → Int) (nm : Int → Int64 → Int) (rn : Int64 → Int) (tb : Int → Int) (a : PCf) (m : MK) (b : PCf) (m' : MK) : Prop := ∃ n, itr s n a = b ∧ mkn s nm rn tb n a m = m'
theorem RM.rfl : RM s nm rn tb a m a m := ⟨0, Eq.refl _, Eq.refl _⟩
theorem RM.trans (h : RM s nm rn tb a m b m1) (g : RM s nm rn tb b m1 c m2) : RM s nm rn tb a m c m2 := by
  obtain ⟨n, h1, h2⟩ := h
  obtain ⟨k, g1, g2⟩ := g
  exact ⟨n + k, by rw [itr_add, h1, g1], by rw [mkn_add, h1, h2, g2]⟩
theorem RM.one (h : stp s a = b) (e : mkt s nm rn tb a m = m1) : RM s nm rn tb a m b m1 := ⟨1, h, e⟩
theorem mkn_fix (h : stp s a = a) (e : ∀ m, mkt s nm rn tb a m = m) (n : Nat) : mkn s nm rn tb n a m = m := by
  induction n with
  | zero => rfl
  | succ n ih =>
    show mkn s nm rn tb n (stp s a) (mkt s nm rn tb a m) = m
    rw [h, e]; exact ih
/-- what is made, is one -/
theorem RM.det (h : RM s nm rn tb a m b m1) (g : RM s nm rn tb a m c m2) (hb : stp s b = b) (hc : stp s c = c) (eb : ∀ m, mkt s nm rn tb b m = m) (ec : ∀ m, mkt s nm rn tb c m = m) : b = c ∧ m1 = m2 := by
  obtain ⟨n, hn, n2⟩ := h
  obtain ⟨k, hk, k2⟩ := g
  by_cases z : n ≤ k
  · obtain ⟨j, rfl⟩ : ∃ j, k = n + j := ⟨k - n, by omega⟩
    rw [itr_add, hn, itr_fix hb] at hk
    rw [mkn_add, hn, mkn_fix hb eb, n2] at k2
    exact ⟨hk, k2⟩
  · obtain ⟨j, rfl⟩ : ∃ j, n = k + j := ⟨n - k, by omega⟩
    rw [itr_add, hk, itr_fix hc] at hn
    rw [mkn_add, hk, mkn_fix hc ec, k2] at n2
    exact ⟨hn.symm, n2.symm⟩
theorem mkt_s {k : Nat} {K : List Nat} {t : TK} {x : Int × Int × Int} {q : QR} {ρ : List EV} {r : List Nat × TK × (Int × Int × Int) × QR × List EV} (h : stk s k t x q = some r) : mkt s nm rn tb (k :: K, t, x, q, ρ) m = mkk s nm rn tb k t q m := by
  show (match stk s k t x q with
    | none => m
    | some _ => mkk s nm rn tb k t q m) = _
  rw [h]
theorem RM.step {k : Nat} {K : List Nat} {t : TK} {x : Int × Int × Int} {q : QR} {ρ : List EV} {r : List Nat × TK × (Int × Int × Int) × QR × List EV} (h : stk s k t x q = some r) : RM s nm rn tb (k :: K, t, x, q, ρ) m (r.1 ++ K, r.2.1, r.2.2.1, r.2.2.2.1, ρ ++ r.2.2.2.2) (mkk s nm rn tb k t q m) := by
  refine RM.one ?_ (mkt_s h)
  show (match stk s k t x q with
    | none => pF
    | some r => (r.1 ++ K, r.2.1, r.2.2.1, r.2.2.2.1, ρ ++ r.2.2.2.2)) = _
  rw [h]
end MKS
end
section
/-- the number of a name in the routine under way -/
def NMZ (σ : MS) (w : Int64) (v : Int) : Prop := (0 ≤ v ∧ v < σ.2.1 35 (σ.1 30) ∧ σ.2.2 38 (12 * σ.1 30 + v) = w ∧ ∀ j, 0 ≤ j → j < v → σ.2.2 38 (12 * σ.1 30 + j) ≠ w) ∨ ((∀ j, 0 ≤ j → j < σ.2.1 35 (σ.1 30) → σ.2.2 38 (12 * σ.1 30 + j) ≠ w) ∧ v = 0)
/-- the number of a routine -/
def RNV (σ : MS) (w : Int64) (v : Int) : Prop := (∃ q, RFD σ w q ∧ v = if q < 6 then q else 0) ∨ ((¬ ∃ q, RFD σ w q) ∧ v = 0)
def FIT (nm : Int → Int64 → Int) (rn : Int64 → Int) (tb : Int → Int) (σ : MS) : Prop := (∀ w v, NMZ σ w v → nm (σ.1 30) w = v) ∧ (∀ w v, RNV σ w v → rn w = v) ∧ tb (σ.1 30) = σ.2.1 35 (σ.1 30)
/-- what stays in the third go -/
def KP (σ τ : MS) : Prop := (τ.1 25 = σ.1 25 ∧ τ.1 30 = σ.1 30 ∧ σ.1 34 ≤ τ.1 34) ∧ τ.2.1 35 = σ.2.1 35 ∧ τ.2.2 38 = σ.2.2 38 ∧ τ.1 43 = σ.1 43 ∧ τ.2.2 44 = σ.2.2 44 ∧ ∀ j, j ≠ σ.1 30 → τ.2.1 37 j = σ.2.1 37 j
theorem KP.trans {σ τ υ : MS} (h : KP σ τ) (g : KP τ υ) : KP σ υ := ⟨⟨g.1.1.trans h.1.1, g.1.2.1.trans h.1.2.1, Int.le_trans h.1.2.2 g.1.2.2⟩, g.2.1.trans h.2.1, g.2.2.1.trans h.2.2.1, g.2.2.2.1.trans h.2.2.2.1, g.2.2.2.2.1.trans h.2.2.2.2.1, fun j q => (g.2.2.2.2.2 j (by rw [h.1.2.1]; exact q)).trans (h.2.2.2.2.2 j q)⟩
theorem KP.fit {nm : Int → Int64 → Int} {rn : Int64 → Int} {tb : Int → Int} {σ τ : MS} (h : KP σ τ) (f : FIT nm rn tb σ) : FIT nm rn tb τ := by
  obtain ⟨⟨-, a, -⟩, b, c, d, e, -⟩ := h
  unfold FIT NMZ RNV RFD at *
  rw [a, b, c, d, e]
  exact f
abbrev DD9 : Type := (Int → Int × (Int → It)) × (Int → Int)
/-- the maker's state, read off the reference's -/
def mqS (σ : MS) (S : List ME) (D : DD9) : MK := ((σ.1 30, σ.1 31, σ.2.1 37 (σ.1 30), σ.1 33, σ.1 32 - σ.2.1 35 (σ.1 30)), (σ.1 34, oV σ (σ.1 30) (σ.1 34)), (σ.1 39, σ.1 40), S, D)
/-- all that it is read off -/
def mkv (σ : MS) : (Int × Int × Int × Int × Int × Int × Int × Int × Int) × (((Int → Int) × (Int → Int) × (Int → Int) × (Int → Int) × (Int → Int) × (Int → Int)) × (Int → Int) × (Int → Int)) × (Int → Int64) × (Int → Int64) := ((σ.1 25, σ.1 30, σ.1 31, σ.1 32, σ.1 33, σ.1 34, σ.1 39, σ.1 40, σ.1 43), ((σ.2.1 3, σ.2.1 4, σ.2.1 5, σ.2.1 6, σ.2.1 7, σ.2.1 8), σ.2.1 35, σ.2.1 37), σ.2.2 38, σ.2.2 44)
def MSE (σ τ : MS) : Prop := mkv τ = mkv σ
theorem MSE.rfl {σ : MS} : MSE σ σ := Eq.refl _
theorem MSE.trans {σ τ υ : MS} (h : MSE σ τ) (g : MSE τ υ) : MSE σ υ := Eq.trans g h
theorem MSE.fr {ss ks js : List Nat} {σ τ : MS} (f : Fr ss ks js σ τ) (h : ∀ k ∈ [25, 30, 31, 32, 33, 34, 39, 40, 43], k ∉ ss) (h2 : ∀ k ∈ [3, 4, 5, 6, 7, 8, 35, 37], k ∉ ks) (h3 : ∀ k ∈ [38, 44], k ∉ js) : MSE σ τ := by
  unfold MSE mkv
  rw [f.1 25 (h 25 (by decide)), f.1 30 (h 30 (by decide)), f.1 31 (h 31 (by decide)), f.1 32 (h 32 (by decide)), f.1 33 (h 33 (by decide)), f.1 34 (h 34 (by decide)), f.1 39 (h 39 (by decide)), f.1 40 (h 40 (by decide)), f.1 43 (h 43 (by decide)), f.2.1 3 (h2 3 (by decide)), f.2.1 4 (h2 4 (by decide)), f.2.1 5 (h2 5 (by decide)), f.2.1 6 (h2 6 (by decide)), f.2.1 7 (h2 7 (by decide)), f.2.1 8 (h2 8 (by decide)), f.2.1 35 (h2 35 (by decide)), f.2.1 37 (h2 37 (by decide)), f.2.2 38 (h3 38 (by decide)), f.2.2 44 (h3 44 (by decide))]
section MSEs
variable {σ τ : MS}
theorem MSE.kp (h : MSE σ τ) : KP σ τ := by
  unfold MSE mkv at h
  simp only [Prod.mk.injEq] at h
  obtain ⟨⟨a25, a30, a31, a32, a33, a34, a39, a40, a43⟩, ⟨⟨b3, b4, b5, b6, b7, b8⟩, b35, b37⟩, c38, c44⟩ := h
  exact ⟨⟨a25, a30, by omega⟩, b35, c38, a43, c44, fun j _ => congrFun b37 j⟩
theorem MSE.ri (h : MSE σ τ) : rI τ = rI σ := by
  unfold MSE mkv at h
  simp only [Prod.mk.injEq] at h
  obtain ⟨-, ⟨⟨b3, b4, b5, b6, b7, b8⟩, -⟩, -⟩ := h
  funext x c
  simp only [rI, b3, b4, b5, b6, b7, b8]
theorem MSE.mk (h : MSE σ τ) (S : List ME) (D : DD9) : mqS τ S D = mqS σ S D := by
  have r := h.ri
  unfold MSE mkv at h
  simp only [Prod.mk.injEq] at h
  obtain ⟨⟨a25, a30, a31, a32, a33, a34, a39, a40, a43⟩, ⟨-, b35, b37⟩, c38, c44⟩ := h
  unfold mqS oV
  rw [a30, a31, a32, a33, a34, a39, a40, b35, b37, r]
end MSEs
/-- the numbers, but for the latest part; items -/
def MQ1 (k : Nat) (σ : MS) (q : QR) (P0 : List ME) (τ : MS) (P : List ME) : Prop := σ.1 25 = 3 → KP σ τ ∧ (0 ≤ σ.1 30 → σ.1 30 < 6 → 0 ≤ σ.1 34 → τ.1 34 ≤ 220 → ∀ nm rn tb, FIT nm rn tb σ → ∀ (S : List ME) (D : DD9), mkk (sv σ) nm rn tb k (tks σ) q (mqS σ (P0 ++ S) D) = mqS τ (P ++ S) D)
/-- a road with what is made on it -/
def GOM (a : List Nat) (σ : MS) (q : QR) (P0 : List ME) (b : List Nat) (τ : MS) (q' : QR) (P : List ME) (lg : List EV) : Prop := GOS a σ q b τ q' lg ∧ (σ.1 25 = 3 → KP σ τ ∧ (0 ≤ σ.1 30 → σ.1 30 < 6 → 0 ≤ σ.1 34 → τ.1 34 ≤ 220 → ∀ nm rn tb, FIT nm rn tb σ → ∀ (S : List ME) (D : DD9) (K : List Nat) (ρ : List EV), RM (sv σ) nm rn tb (cfg (a ++ K) σ q ρ) (mqS σ (P0 ++ S) D) (cfg (b ++ K) τ q' (ρ ++ lg)) (mqS τ (P ++ S) D)))
section GM
variable {a b c : List Nat} {σ τ υ : MS} {q q1 q2 : QR} {l1 l2 : List EV} {P0 P P1 P2 : List ME}
theorem GOM.trans (h : GOM a σ q P0 b τ q1 P1 l1) (g : GOM b τ q1 P1 c υ q2 P2 l2) : GOM a σ q P0 c υ q2 P2 (l1 ++ l2) := by
  refine ⟨h.1.trans g.1, fun z => ?_⟩
  obtain ⟨k1, h2⟩ := h.2 z
  obtain ⟨k2, g2⟩ := g.2 (k1.1.1.trans z)
  refine ⟨k1.trans k2, fun r0 r6 n0 n2 nm rn tb f S D K ρ => ?_⟩
  have x := h2 r0 r6 n0 (Int.le_trans k2.1.2.2 n2) nm rn tb f S D K ρ
  have e30 := k1.1.2.1
  have e34 := k1.1.2.2
  have y := g2 (by omega) (by omega) (by omega) n2 nm rn tb (k1.fit f) S D K (ρ ++ l1)
  rw [h.1.1, List.append_assoc] at y
  exact x.trans y
theorem GOM.more (x : List Nat) (X : List ME) (h : GOM a σ q P0 b τ q1 P l1) : GOM (a ++ x) σ q (P0 ++ X) (b ++ x) τ q1 (P ++ X) l1 := by
  refine ⟨h.1.more x, fun z => ?_⟩
  obtain ⟨k1, h2⟩ := h.2 z
  refine ⟨k1, fun r0 r6 n0 n2 nm rn tb f S D K ρ => ?_⟩
  have y := h2 r0 r6 n0 n2 nm rn tb f (X ++ S) D (x ++ K) ρ
  rw [← List.append_assoc, ← List.append_assoc, ← List.append_assoc, ← List.append_assoc] at y
  exact y
theorem GOM.nop (h : vw τ = vw σ) (hr : srt τ = srt σ) (hm : MSE σ τ) : GOM a σ q P a τ q P [] := by
  refine ⟨GOS.nop h hr, fun z => ⟨hm.kp, fun r0 r6 n0 n2 nm rn tb f S D K ρ => ?_⟩⟩
  rw [hm.mk, List.append_nil]
  have h1 := congrArg Prod.fst h
  have h2 := congrArg (fun x => x.2.1) h
  unfold vw at h1 h2
  simp only at h1 h2
  unfold cfg
  rw [h1, h2]
  exact RM.rfl
theorem GOM.then (h : GOM a σ q P0 b τ q1 P1 []) (g : GOM b τ q1 P1 c υ q2 P2 l2) : GOM a σ q P0 c υ q2 P2 l2 := h.trans g
theorem GOM.and (h : GOM a σ q P0 b τ q1 P1 l1) (g : GOM b τ q1 P1 c υ q2 P2 []) : GOM a σ q P0 c υ q2 P2 l1 := by
  have := h.trans g
  rw [List.append_nil] at this
  exact this
theorem GOM.last (h : GOM a σ q P0 b τ q1 P l1) (e : vw υ = vw τ) (hr : srt υ = srt τ) (hm : MSE τ υ) : GOM a σ q P0 b υ q1 P l1 := by
  have := h.trans (GOM.nop (a := b) (q := q1) e hr hm)
  rw [List.append_nil] at this
  exact this
theorem GOM.ev {k : Nat} {es : List EW} (hk : k ≠ 999) (hs : sv τ = sv σ) (h : stk (sv σ) k (tks σ) (xs σ) q = some (b, tks τ, xs τ, q1, l1)) (he : evk k (tks σ) (xs σ) q = es) (hf : EFF es σ τ) (hm : MQ1 k σ q P0 τ P) : GOM [k] σ q P0 b τ q1 P l1 := by
  refine ⟨GOS.ev hk hs h he hf, fun z => ⟨(hm z).1, fun r0 r6 n0 n2 nm rn tb f S D K ρ => ?_⟩⟩
  have x := RM.step (nm := nm) (rn := rn) (tb := tb) (K := K) (ρ := ρ) (m := mqS σ (P0 ++ S) D) h
  rw [(hm z).2 r0 r6 n0 n2 nm rn tb f S D] at x
  exact x
theorem GOM.one {k : Nat} (hk : k ≠ 999) (hs : sv τ = sv σ) (hr : srt τ = srt σ) (he : evk k (tks σ) (xs σ) q = []) (h : stk (sv σ) k (tks σ) (xs σ) q = some (b, tks τ, xs τ, q1, l1)) (hm : MQ1 k σ q P0 τ P) : GOM [k] σ q P0 b τ q1 P l1 := GOM.ev hk hs h he (EFF.nil hr) hm
/-- what is made does not change -/
theorem MQ1.id {k : Nat} (e : MSE σ τ) (h : ∀ nm rn tb m, mkk (sv σ) nm rn tb k (tks σ) q m = m) : MQ1 k σ q P τ P := fun _ => ⟨e.kp, fun _ _ _ _ nm rn tb _ S D => (h nm rn tb _).trans (e.mk _ D).symm⟩
/-- only what is open changes -/
theorem MQ1.st {k : Nat} (e : MSE σ τ) (h : ∀ nm rn tb, FIT nm rn tb σ → ∀ (S : List ME) (D : DD9), mkk (sv σ) nm rn tb k (tks σ) q (mqS σ (P0 ++ S) D) = mqS σ (P ++ S) D) : MQ1 k σ q P0 τ P := fun _ => ⟨e.kp, fun _ _ _ _ nm rn tb f S D => (h nm rn tb f S D).trans (e.mk _ D).symm⟩
end GM
/-- an item is put: the count, the item there, nothing else of the maker's -/
def PIT (σ τ : MS) (i : It) : Prop := τ.1 34 = σ.1 34 + 1 ∧ (σ.1 25 = 3 → 0 ≤ σ.1 30 → σ.1 30 < 6 → 0 ≤ σ.1 34 → σ.1 34 < 220 → oV τ (σ.1 30) (σ.1 34 + 1) = uZ (oV σ (σ.1 30) (σ.1 34)) (σ.1 34) i)
theorem PIT.of {σ τ : MS} {i : It} (e : τ.1 34 = σ.1 34 + 1) (o : OFF (PXx σ) σ τ) (h : rI τ (PXx σ) = i) : PIT σ τ i := ⟨e, fun z r0 r6 n0 n2 => by
  have ex : PXx σ = 220 * σ.1 30 + σ.1 34 := by unfold PXx; rw [if_pos (by omega)]
  rw [ov_up (σ := σ) n0 (fun j _ b => o.ri (by omega)), ← ex, h]⟩
theorem PIT.at {σ τ : MS} {x : Int} {i : It} (h : x = PXx σ) (e : τ.1 34 = σ.1 34 + 1) (o : OFF x σ τ) (r : rI τ x = i) : PIT σ τ i := by
  subst h
  exact PIT.of e o r
theorem PIT.fr {ss ks js : List Nat} {σ τ υ : MS} {i : It} (h : PIT σ τ i) (f : Fr ss ks js τ υ) (hs : 34 ∉ ss) (hk : ∀ k ∈ [3, 4, 5, 6, 7, 8], k ∉ ks) : PIT σ υ i := ⟨(f.1 34 hs).trans h.1, fun z r0 r6 n0 n2 => by
  rw [← h.2 z r0 r6 n0 n2]
  unfold oV
  rw [f.ri hk]⟩
theorem PIT.pre {ss ks js : List Nat} {ρ σ τ : MS} {i : It} (h : PIT σ τ i) (f : Fr ss ks js ρ σ) (hs : ∀ k ∈ [25, 30, 34], k ∉ ss) (hk : ∀ k ∈ [3, 4, 5, 6, 7, 8], k ∉ ks) : PIT ρ τ i := by
  unfold PIT at *
  rw [← f.1 25 (hs 25 (by decide)), ← f.1 30 (hs 30 (by decide)), ← f.1 34 (hs 34 (by decide)), show oV ρ = oV σ by unfold oV; rw [f.ri hk]]
  exact h
/-- one put, exactly -/
theorem PIT.mk {σ τ : MS} {i : It} {S : List ME} {D : DD9} (h : PIT σ τ i) (z : σ.1 25 = 3) (r0 : 0 ≤ σ.1 30) (r6 : σ.1 30 < 6) (n0 : 0 ≤ σ.1 34) (n2 : τ.1 34 ≤ 220) (e30 : τ.1 30 = σ.1 30) : mqS τ S D = ((τ.1 30, τ.1 31, τ.2.1 37 (τ.1 30), τ.1 33, τ.1 32 - τ.2.1 35 (τ.1 30)), (σ.1 34 + 1, uZ (oV σ (σ.1 30) (σ.1 34)) (σ.1 34) i), (τ.1 39, τ.1 40), S, D) := by
  unfold mqS
  rw [h.1, e30, h.2 z r0 r6 n0 (by have := h.1; omega)]
section PITs
variable {σ μ τ : MS} {i j : It} {k : Nat} {q : QR} {P0 P : List ME} {ss ks js ss2 ks2 js2 : List Nat}
/-- numbers that a put leaves alone -/
def NFR (ss ks js : List Nat) : Prop := (∀ k ∈ [25, 30, 31, 32, 39, 40, 43], k ∉ ss) ∧ (∀ k ∈ [35, 37], k ∉ ks) ∧ ∀ k ∈ [38, 44], k ∉ js
theorem NFR.kp (d : NFR ss ks js) (f : Fr ss ks js σ τ) (h : σ.1 34 ≤ τ.1 34) : KP σ τ := ⟨⟨f.1 25 (d.1 25 (by decide)), f.1 30 (d.1 30 (by decide)), h⟩, f.2.1 35 (d.2.1 35 (by decide)), f.2.2 38 (d.2.2 38 (by decide)), f.1 43 (d.1 43 (by decide)), f.2.2 44 (d.2.2 44 (by decide)), fun j _ => congrFun (f.2.1 37 (d.2.1 37 (by decide))) j⟩
theorem PIT.put1 (h : PIT σ τ i) (f : Fr ss ks js σ τ) (d : NFR ss ks js) (z : σ.1 25 = 3) (r0 : 0 ≤ σ.1 30) (r6 : σ.1 30 < 6) (n0 : 0 ≤ σ.1 34) (n2 : τ.1 34 ≤ 220) (S : List ME) (D : DD9) : mqS τ S D = ((mqS σ S D).put i).sL (τ.1 33) := by
  rw [h.mk z r0 r6 n0 n2 (f.1 30 (d.1 30 (by decide))), f.1 30 (d.1 30 (by decide)), f.1 31 (d.1 31 (by decide)), f.1 32 (d.1 32 (by decide)), f.1 39 (d.1 39 (by decide)), f.1 40 (d.1 40 (by decide)), f.2.1 35 (d.2.1 35 (by decide)), f.2.1 37 (d.2.1 37 (by decide))]
  rfl
theorem MQ1.p1 (h : PIT σ τ i) (f : Fr ss ks js σ τ) (d : NFR ss ks js) (hm : ∀ nm rn tb, FIT nm rn tb σ → ∀ (S : List ME) (D : DD9), mkk (sv σ) nm rn tb k (tks σ) q (mqS σ (P0 ++ S) D) = ((mqS σ (P ++ S) D).put i).sL (τ.1 33)) : MQ1 k σ q P0 τ P := fun z => ⟨d.kp f (by have := h.1; omega), fun r0 r6 n0 n2 nm rn tb ft S D => (hm nm rn tb ft S D).trans (h.put1 f d z r0 r6 n0 n2 _ D).symm⟩
end PITs
section ROWS
variable {σ μ τ : MS} {q : QR} {x y n l o v : Int} {as : List (Int × Int)} {ss ks js ss2 ks2 js2 : List Nat}
theorem u2 (h : ¬ σ.1 28 = 8) (a : CHG σ τ (σ.1 28 + 1, σ.1 29, σ.1 34)) (e : MSE σ τ) : GOM [2] σ q [] [3, 6] τ q [] [] := GOM.one (by decide) a.2.2.1 a.2.2.2 rfl (by rw [a.1, a.2.1]; exact if_neg h) (MQ1.id e (fun _ _ _ _ => rfl))
theorem u3 : GOM [3] σ q [] [4, 8] σ q [] [] := GOM.one (by decide) rfl rfl rfl rfl (MQ1.id MSE.rfl (fun _ _ _ _ => rfl))
theorem u4 : GOM [4] σ q [] [0, 9] σ q [] [] := GOM.one (by decide) rfl rfl rfl rfl (MQ1.id MSE.rfl (fun _ _ _ _ => rfl))
end ROWS
end
