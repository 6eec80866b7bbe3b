def shw (w : Int64) (z : Int) : Int64 := (w <<< ((iI 8).toInt64 &&& 63)) ||| ((iI z).toInt64)
/-! what the reader does, as an automaton with a stack: its steps are a function, so all four goes over a text do alike -/
abbrev TK : Type := Int × Int × Int × Int × Int64
abbrev EV : Type := Int × Int × Int64
/-- the call under way (its NAME, how many E so far), its place, the parameters so far, the routine's place -/
abbrev QR : Type := Int64 × Int × Int × Int × Int
abbrev PCf : Type := List Nat × TK × (Int × Int × Int) × QR × List EV
abbrev qq (c : Int) : QR := (0, 0, 0, 0, c)
def wsk (s : Int → Int) : Nat → Int → Int
  | 0, n => n
  | f + 1, n => if s n = 10 ∨ s n = 32 then wsk s f (n + 1) else n
def wsp (s : Int → Int) (n : Int) : Int := wsk s (1300 - n).toNat n
theorem wsp_s {s : Int → Int} {n : Int} (h : n < 1300) (c : s n = 10 ∨ s n = 32) : wsp s n = wsp s (n + 1) := by
  unfold wsp
  rw [show (1300 - n).toNat = (1300 - (n + 1)).toNat + 1 by omega]
  show (if _ then _ else _) = _
  rw [if_pos c]
theorem wsp_e {s : Int → Int} {n : Int} (c : ¬ (s n = 10 ∨ s n = 32)) : wsp s n = n := by
  unfold wsp
  cases (1300 - n).toNat with
  | zero => rfl
  | succ f => show (if _ then _ else _) = _; rw [if_neg c]
def ltk (s : Int → Int) : Nat → Int → Int64 → Int → Int × Int64 × Int
  | 0, n, w, c => (n, w, c)
  | f + 1, n, w, c => if 97 ≤ s n ∧ s n ≤ 122 then ltk s f (n + 1) (shw w (s n)) (c + 1) else (n, w, c)
def ltp (s : Int → Int) (n : Int) (w : Int64) (c : Int) : Int × Int64 × Int := ltk s (1300 - n).toNat n w c
theorem ltp_s {s : Int → Int} {n c : Int} {w : Int64} (h : n < 1300) (q : 97 ≤ s n ∧ s n ≤ 122) : ltp s n w c = ltp s (n + 1) (shw w (s n)) (c + 1) := by
  unfold ltp
  rw [show (1300 - n).toNat = (1300 - (n + 1)).toNat + 1 by omega]
  show (if _ then _ else _) = _
  rw [if_pos q]
theorem ltp_e {s : Int → Int} {n c : Int} {w : Int64} (q : ¬ (97 ≤ s n ∧ s n ≤ 122)) : ltp s n w c = (n, w, c) := by
  unfold ltp
  cases (1300 - n).toNat with
  | zero => rfl
  | succ f => show (if _ then _ else _) = _; rw [if_neg q]
def dgv (v c x : Int) : Int := if c < 7 then 10 * v + x - 48 else v
def dgk (s : Int → Int) : Nat → Int → Int → Int → Int × Int × Int
  | 0, n, v, c => (n, v, c)
  | f + 1, n, v, c => if 48 ≤ s n ∧ s n ≤ 57 then dgk s f (n + 1) (dgv v c (s n)) (c + 1) else (n, v, c)
def dgp (s : Int → Int) (n v c : Int) : Int × Int × Int := dgk s (1300 - n).toNat n v c
theorem dgp_s {s : Int → Int} {n v c : Int} (h : n < 1300) (q : 48 ≤ s n ∧ s n ≤ 57) : dgp s n v c = dgp s (n + 1) (dgv v c (s n)) (c + 1) := by
  unfold dgp
  rw [show (1300 - n).toNat = (1300 - (n + 1)).toNat + 1 by omega]
  show (if _ then _ else _) = _
  rw [if_pos q]
theorem dgp_e {s : Int → Int} {n v c : Int} (q : ¬ (48 ≤ s n ∧ s n ≤ 57)) : dgp s n v c = (n, v, c) := by
  unfold dgp
  cases (1300 - n).toNat with
  | zero => rfl
  | succ f => show (if _ then _ else _) = _; rw [if_neg q]
/-- the next token behind nx -/
def advP (s : Int → Int) (p : Int) : TK :=
  if s p < 0 then (p, p, 0, s p, 0)
  else if 97 ≤ s p ∧ s p ≤ 122 then (p, (ltp s p 0 0).1, if 6 < (ltp s p 0 0).2.2 then 1 else 2, s p, (ltp s p 0 0).2.1)
  else if 48 ≤ s p ∧ s p ≤ 57 then (p, (dgp s p 0 0).1, if 7 < (dgp s p 0 0).2.2 then 1 else 3, (dgp s p 0 0).2.1, 0)
  else (p, p + 1, if sgZ (s p) < 0 then 1 else 4, s p, 0)
def advT (s : Int → Int) (nx : Int) : TK := advP s (wsp s nx)
/-- tests of a token -/
abbrev sgn (t : TK) (c : Int) : Prop := t.2.2.1 = 4 ∧ t.2.2.2.1 = c
abbrev wrd (t : TK) (w : Int64) : Prop := t.2.2.1 = 2 ∧ t.2.2.2.2 = w
abbrev W5 : List Int64 := [7304564, 125780071117422, 26982, 1701606245, 512852847717]
abbrev nam (t : TK) : Prop := t.2.2.1 = 2 ∧ t.2.2.2.2 ∉ W5
def pF : PCf := ([999], (0, 0, 0, 0, 0), (0, 0, 0), qq 0, [])
/-- tags: 0 signed, 1 its heart, 2 expression, 3 sum, 4 product, 6 7 behind a sum, 8 9 the rings, 20 39 statement, 21 if, 22 while, 23 25 assignment, 24 else, 26 27 38 call, 28 29 40 block, 30 to 35 routine, 36 all, 51 52: so many items, 100 + c: need c. What a tag becomes: tags, token, numbers, the call under way, what is told -/
def stk (s : Int → Int) (k : Nat) (t : TK) (x : Int × Int × Int) (q : QR) : Option (List Nat × TK × (Int × Int × Int) × QR × List EV) :=
  match k with
  | 0 => if sgn t 45 then some ([1, 51], advT s t.2.1, x, q, []) else some ([1], t, x, q, [])
  | 1 => if t.2.2.1 = 3 ∨ nam t then some ([], advT s t.2.1, x, q, []) else if sgn t 40 then some ([2, 141], advT s t.2.1, x, q, []) else none
  | 2 => if x.1 = 8 then none else some ([3, 6], t, (x.1 + 1, x.2.1, x.2.2), q, [])
  | 3 => some ([4, 8], t, x, q, [])
  | 4 => some ([0, 9], t, x, q, [])
  | 6 => if sgn t 61 ∨ sgn t 60 then some ([3, 51, 7], advT s t.2.1, x, q, []) else some ([7], t, x, q, [])
  | 7 => some ([], t, (x.1 - 1, x.2.1, x.2.2), q, [])
  | 8 => if sgn t 43 ∨ sgn t 45 then some ([4, 51, 8], advT s t.2.1, x, q, []) else some ([], t, x, q, [])
  | 9 => if sgn t 42 then some ([0, 51, 9], advT s t.2.1, x, q, []) else some ([], t, x, q, [])
  | 20 => if wrd t 512852847717 then some ([22], t, x, q, []) else if wrd t 26982 then some ([51, 21], t, x, q, []) else if wrd t 7304564 ∨ wrd t 125780071117422 then some ([51, 39], t, x, q, []) else if nam t then some ([51, 23], t, x, q, []) else none
  | 21 => some ([2, 51, 28, 24], advT s t.2.1, x, q, [])
  | 22 => some ([52, 2, 51, 28, 52], advT s t.2.1, x, q, [])
  | 23 => some ([161, 25], advT s t.2.1, x, q, [])
  | 24 => if wrd t 1701606245 then some ([52, 28, 51], advT s t.2.1, x, q, []) else some ([51], t, x, q, [])
  | 25 => if nam t then (if sgn (advT s t.2.1) 40 then some ([26, 159], advT s t.2.1, x, (t.2.2.2.2, 0, t.1, q.2.2.2), []) else some ([2, 52, 159], (t.1, t.2.1, 2, (advT s t.2.1).2.2.2.1, t.2.2.2.2), x, q, [])) else some ([2, 52, 159], t, x, q, [])
  | 26 => if sgn (advT s t.2.1) 41 then some ([38, 141], advT s t.2.1, x, q, []) else some ([2, 27], advT s t.2.1, x, q, [])
  | 27 => if sgn t 44 then some ([2, 27], advT s t.2.1, x, (q.1, q.2.1 + 1, q.2.2), []) else some ([38, 141], t, x, (q.1, q.2.1 + 1, q.2.2), [])
  | 28 => if x.2.1 = 6 then none else some ([223, 29], t, (x.1, x.2.1 + 1, x.2.2), q, [])
  | 29 => if sgn t 125 then some ([40], advT s t.2.1, x, q, []) else some ([20, 29], t, x, q, [])
  | 30 => if nam t then some ([140, 31], advT s t.2.1, x, (q.1, q.2.1, q.2.2.1, 0, t.1), []) else none
  | 31 => if sgn t 41 then some ([141, 35], t, x, q, []) else some ([32], t, x, q, [])
  | 32 => if nam t then some ([33], advT s t.2.1, x, (q.1, q.2.1, q.2.2.1, q.2.2.2.1 + 1, q.2.2.2.2), []) else none
  | 33 => if sgn t 44 then some ([32], advT s t.2.1, x, q, []) else some ([141, 35], t, x, q, [])
  | 34 => some ([], t, x, (q.1, q.2.1, q.2.2.1, q.2.2.2.1, 0), [(0, x.2.2, 0)])
  | 35 => some ([28, 51, 34], t, (x.1, x.2.1, 0), (q.1, q.2.1, q.2.2.1, 0, q.2.2.2.2), [])
  | 36 => if t.2.2.1 = 0 then some ([], t, x, q, []) else some ([30, 36], t, x, q, [])
  | 38 => some ([], t, (x.1, x.2.1, x.2.2 + 2), (0, 0, 0, q.2.2.2), [(1, q.2.1, q.1)])
  | 39 => some ([2, 51, 159], advT s t.2.1, x, q, [])
  | 40 => some ([], t, (x.1, x.2.1 - 1, x.2.2), q, [])
  | 51 => some ([], t, (x.1, x.2.1, x.2.2 + 1), q, [])
  | 52 => some ([], t, (x.1, x.2.1, x.2.2 + 2), q, [])
  | k => if sgn t ((k : Int) - 100) then some ([], advT s t.2.1, x, q, []) else none
def stp (s : Int → Int) (a : PCf) : PCf :=
  match a with
  | ([], t, x, q, ρ) => ([], t, x, q, ρ)
  | (k :: K, t, x, q, ρ) => match stk s k t x q with
    | none => pF
    | some r => (r.1 ++ K, r.2.1, r.2.2.1, r.2.2.2.1, ρ ++ r.2.2.2.2)
theorem stp_pF (s : Int → Int) : stp s pF = pF := rfl
theorem stp_nil (s : Int → Int) (t : TK) (x : Int × Int × Int) (q : QR) (ρ : List EV) : stp s ([], t, x, q, ρ) = ([], t, x, q, ρ) := rfl
def itr (s : Int → Int) : Nat → PCf → PCf
  | 0, a => a
  | n + 1, a => itr s n (stp s a)
def RCm (s : Int → Int) (a b : PCf) : Prop := ∃ n, itr s n a = b
theorem itr_add (s : Int → Int) (n m : Nat) (a : PCf) : itr s (n + m) a = itr s m (itr s n a) := by
  induction n generalizing a with
  | zero => simp [itr]
  | succ n ih =>
    rw [show n + 1 + m = (n + m) + 1 by omega]
    show itr s (n + m) (stp s a) = itr s m (itr s n (stp s a))
    exact ih _
theorem RCm.rfl {s : Int → Int} {a : PCf} : RCm s a a := ⟨0, Eq.refl _⟩
theorem RCm.trans {s : Int → Int} {a b c : PCf} (h : RCm s a b) (g : RCm s b c) : RCm s a c := by
  obtain ⟨n, hn⟩ := h
  obtain ⟨m, hm⟩ := g
  exact ⟨n + m, by rw [itr_add, hn, hm]⟩
theorem RCm.one {s : Int → Int} {a b : PCf} (h : stp s a = b) : RCm s a b := ⟨1, h⟩
theorem itr_fix {s : Int → Int} {a : PCf} (h : stp s a = a) (n : Nat) : itr s n a = a := by
  induction n with
  | zero => rfl
  | succ n ih =>
    show itr s n (stp s a) = a
    rw [h]; exact ih
/-- what is come to and stays, is one -/
theorem RCm.det {s : Int → Int} {a b c : PCf} (h : RCm s a b) (g : RCm s a c) (hb : stp s b = b) (hc : stp s c = c) : b = c := by
  obtain ⟨n, hn⟩ := h
  obtain ⟨m, hm⟩ := g
  by_cases z : n ≤ m
  · have e : itr s m a = itr s (m - n) b := by rw [← hn, ← itr_add]; congr 1; omega
    rw [itr_fix hb] at e
    exact e.symm.trans hm
  · have e : itr s n a = itr s (n - m) c := by rw [← hm, ← itr_add]; congr 1; omega
    rw [itr_fix hc] at e
    exact hn.symm.trans e
/-! what a road tells (kind, place, number, word): 2 a routine's NAME, 3 a parameter's (how many stood ahead), 7 the parameters' end (how many), 4 a name, 5 a statement, 1 a call (its place, how many E), 0 a routine's end (its place, how many items), 9 no text goes on -/
abbrev EW : Type := Int × Int × Int × Int64
def evk (k : Nat) (t : TK) (x : Int × Int × Int) (q : QR) : List EW := match k with
  | 1 => if nam t then [(4, t.1, 0, t.2.2.2.2)] else []
  | 20 => [(5, t.1, 0, 0)]
  | 23 => [(4, t.1, 0, t.2.2.2.2)]
  | 30 => [(2, t.1, 0, t.2.2.2.2)]
  | 31 => if sgn t 41 then [(7, 0, q.2.2.2.1, 0)] else []
  | 32 => [(3, t.1, q.2.2.2.1, t.2.2.2.2)]
  | 33 => if sgn t 44 then [] else [(7, 0, q.2.2.2.1, 0)]
  | 34 => [(0, q.2.2.2.2, x.2.2, 0)]
  | 38 => [(1, q.2.2.1, q.2.1, q.1)]
  | _ => []
def evt (s : Int → Int) (a : PCf) : List EW := match a with
  | ([], _, _, _, _) => []
  | (k :: _, t, x, q, _) => if k = 999 then [] else match stk s k t x q with
    | none => [(9, t.1, 0, 0)]
    | some _ => evk k t x q
theorem evt_s {s : Int → Int} {k : Nat} {K : List Nat} {t : TK} {x : Int × Int × Int} {q : QR} {ρ : List EV} {r : List Nat × TK × (Int × Int × Int) × QR × List EV} (hk : k ≠ 999) (h : stk s k t x q = some r) : evt s (k :: K, t, x, q, ρ) = evk k t x q := by
  show (if k = 999 then [] else match stk s k t x q with
    | none => [(9, t.1, 0, 0)]
    | some _ => evk k t x q) = _
  rw [if_neg hk, h]
theorem evt_n {s : Int → Int} {k : Nat} {K : List Nat} {t : TK} {x : Int × Int × Int} {q : QR} {ρ : List EV} (hk : k ≠ 999) (h : stk s k t x q = none) : evt s (k :: K, t, x, q, ρ) = [(9, t.1, 0, 0)] := by
  show (if k = 999 then [] else match stk s k t x q with
    | none => [(9, t.1, 0, 0)]
    | some _ => evk k t x q) = _
  rw [if_neg hk, h]
def evs (s : Int → Int) : Nat → PCf → List EW
  | 0, _ => []
  | n + 1, a => evt s a ++ evs s n (stp s a)
theorem evs_add (s : Int → Int) (n m : Nat) (a : PCf) : evs s (n + m) a = evs s n a ++ evs s m (itr s n a) := by
  induction n generalizing a with
  | zero => simp [evs, itr]
  | succ n ih =>
    rw [show n + 1 + m = (n + m) + 1 by omega]
    show evt s a ++ evs s (n + m) (stp s a) = (evt s a ++ evs s n (stp s a)) ++ evs s m (itr s n (stp s a))
    rw [ih, List.append_assoc]
/-- a road, and what it tells -/
def RE (s : Int → Int) (a : PCf) (es : List EW) (b : PCf) : Prop := ∃ n, itr s n a = b ∧ evs s n a = es
theorem RE.rc {s : Int → Int} {a b : PCf} {es : List EW} (h : RE s a es b) : RCm s a b := by
  obtain ⟨n, h1, -⟩ := h
  exact ⟨n, h1⟩
theorem RE.rfl {s : Int → Int} {a : PCf} : RE s a [] a := ⟨0, Eq.refl _, Eq.refl _⟩
theorem RE.trans {s : Int → Int} {a b c : PCf} {e1 e2 : List EW} (h : RE s a e1 b) (g : RE s b e2 c) : RE s a (e1 ++ e2) c := by
  obtain ⟨n, h1, h2⟩ := h
  obtain ⟨m, g1, g2⟩ := g
  exact ⟨n + m, by rw [itr_add, h1, g1], by rw [evs_add, h2, h1, g2]⟩
theorem RE.one {s : Int → Int} {a b : PCf} {es : List EW} (h : stp s a = b) (e : evt s a = es) : RE s a es b := ⟨1, h, by show evt s a ++ [] = es; rw [List.append_nil]; exact e⟩
theorem evs_fix {s : Int → Int} {a : PCf} (h : stp s a = a) (e : evt s a = []) (n : Nat) : evs s n a = [] := by
  induction n with
  | zero => rfl
  | succ n ih =>
    show evt s a ++ evs s n (stp s a) = []
    rw [h, e, ih]; rfl
theorem RE.det {s : Int → Int} {a b c : PCf} {e1 e2 : List EW} (h : RE s a e1 b) (g : RE s a e2 c) (hb : stp s b = b) (hc : stp s c = c) (eb : evt s b = []) (ec : evt s c = []) : b = c ∧ e1 = e2 := by
  obtain ⟨n, hn, n2⟩ := h
  obtain ⟨m, hm, m2⟩ := g
  by_cases z : n ≤ m
  · obtain ⟨k, rfl⟩ : ∃ k, m = n + k := ⟨m - n, by omega⟩
    rw [itr_add, hn, itr_fix hb] at hm
    rw [evs_add, hn, evs_fix hb eb, List.append_nil, n2] at m2
    exact ⟨hm, m2⟩
  · obtain ⟨k, rfl⟩ : ∃ k, n = m + k := ⟨n - m, by omega⟩
    rw [itr_add, hm, itr_fix hc] at hn
    rw [evs_add, hm, evs_fix hc ec, List.append_nil, m2] at n2
    exact ⟨hn.symm, n2.symm⟩
theorem evt_nil {s : Int → Int} {t : TK} {x : Int × Int × Int} {q : QR} {ρ : List EV} : evt s ([], t, x, q, ρ) = [] := rfl
theorem evt_pF {s : Int → Int} : evt s pF = [] := rfl

