/-! the class's roads over its tokens -/
/-- tokens alike but for the number of a NAME -/
def TEQ (t u : TK) : Prop := t.1 = u.1 ∧ t.2.1 = u.2.1 ∧ t.2.2.1 = u.2.2.1 ∧ t.2.2.2.2 = u.2.2.2.2 ∧ (u.2.2.1 ≠ 2 → t.2.2.2.1 = u.2.2.2.1)
theorem TEQ.rf {t : TK} : TEQ t t := ⟨rfl, rfl, rfl, rfl, fun _ => rfl⟩
theorem TEQ.sg {t u : TK} {c : Int} (h : TEQ t u) : sgn t c ↔ sgn u c := by
  obtain ⟨h1, h2, h3, h4, h5⟩ := h
  show (t.2.2.1 = 4 ∧ t.2.2.2.1 = c) ↔ (u.2.2.1 = 4 ∧ u.2.2.2.1 = c)
  rw [h3]
  exact ⟨fun q => ⟨q.1, by rw [← h5 (by have := q.1; omega)]; exact q.2⟩, fun q => ⟨q.1, by rw [h5 (by have := q.1; omega)]; exact q.2⟩⟩
theorem TEQ.nm {t u : TK} (h : TEQ t u) : nam t ↔ nam u := by
  show (t.2.2.1 = 2 ∧ t.2.2.2.2 ∉ W5) ↔ (u.2.2.1 = 2 ∧ u.2.2.2.2 ∉ W5)
  rw [h.2.2.1, h.2.2.2.1]
theorem TEQ.wd {t u : TK} {w : Int64} (h : TEQ t u) : wrd t w ↔ wrd u w := by
  show (t.2.2.1 = 2 ∧ t.2.2.2.2 = w) ↔ (u.2.2.1 = 2 ∧ u.2.2.2.2 = w)
  rw [h.2.2.1, h.2.2.2.1]
theorem TEQ.nx {S : Int → Int} {t : TK} {j : Nat} (h : TEQ t (tkS S j)) : TEQ (advT S t.2.1) (tkS S (j + 1)) := by
  rw [h.2.1]; exact TEQ.rf
/-- all bytes -/
def SB (S : Int → Int) : Prop := ∀ k, S k ≤ 255
section KDS
variable {S : Int → Int} {j : Nat} {t : TK} {c : Int}
theorem kdS (hS : SB S) (a : TEQ t (tkS S j)) (hc : c ≤ 255) : ckd (tkS S j) = c ↔ sgn t c := (ck_sgn (tkS_v hS j) hc).trans a.sg.symm
theorem kdN (hS : SB S) (a : TEQ t (tkS S j)) : ckd (tkS S j) = 256 ↔ nam t := (ck_nam (tkS_v hS j)).trans a.nm.symm
theorem kd3 (hS : SB S) (a : TEQ t (tkS S j)) : ckd (tkS S j) = 257 ↔ t.2.2.1 = 3 := by rw [a.2.2.1]; exact ck_num (tkS_v hS j)
theorem kdE (hS : SB S) (a : TEQ t (tkS S j)) : ckd (tkS S j) = 264 ↔ t.2.2.1 = 0 := by rw [a.2.2.1]; exact ck_end (tkS_v hS j)
theorem kdO (hS : SB S) (a : TEQ t (tkS S j)) : ckd (tkS S j) = 258 ↔ wrd t 7304564 := (ck_wrd (tkS_v hS j) (Or.inl ⟨rfl, rfl⟩)).trans a.wd.symm
theorem kdR (hS : SB S) (a : TEQ t (tkS S j)) : ckd (tkS S j) = 259 ↔ wrd t 125780071117422 := (ck_wrd (tkS_v hS j) (Or.inr (Or.inl ⟨rfl, rfl⟩))).trans a.wd.symm
theorem kdI (hS : SB S) (a : TEQ t (tkS S j)) : ckd (tkS S j) = 260 ↔ wrd t 26982 := (ck_wrd (tkS_v hS j) (Or.inr (Or.inr (Or.inl ⟨rfl, rfl⟩)))).trans a.wd.symm
theorem kdL (hS : SB S) (a : TEQ t (tkS S j)) : ckd (tkS S j) = 261 ↔ wrd t 1701606245 := (ck_wrd (tkS_v hS j) (Or.inr (Or.inr (Or.inr (Or.inl ⟨rfl, rfl⟩))))).trans a.wd.symm
theorem kdW (hS : SB S) (a : TEQ t (tkS S j)) : ckd (tkS S j) = 262 ↔ wrd t 512852847717 := (ck_wrd (tkS_v hS j) (Or.inr (Or.inr (Or.inr (Or.inr ⟨rfl, rfl⟩))))).trans a.wd.symm
end KDS
def GCS (S : Int → Int) (ks : List Nat) (j : Nat) (x : Int × Int × Int) (q : QR) (ls : List Nat) (i : Nat) (y : Int × Int × Int) (p : QR) (es : List EW) : Prop := ∀ t, TEQ t (tkS S j) → ∃ (t' : TK) (l : List EV), TEQ t' (tkS S i) ∧ ∀ (K : List Nat) (ρ : List EV), RE S (ks ++ K, t, x, q, ρ) es (ls ++ K, t', y, p, ρ ++ l)
def GCF (S : Int → Int) (ks : List Nat) (j : Nat) (x : Int × Int × Int) (q : QR) (p : Int) : Prop := ∃ es, ∀ t, TEQ t (tkS S j) → ∀ (K : List Nat) (ρ : List EV), RE S (ks ++ K, t, x, q, ρ) (es ++ [(9, p, 0, 0)]) pF
section GCSS
variable {S : Int → Int} {ks ls ms : List Nat} {j i k : Nat} {x y z : Int × Int × Int} {q p r : QR} {es e2 : List EW} {pl : Int}
theorem GCS.nl : GCS S ks j x q ks j x q [] := fun t h => ⟨t, [], h, fun K ρ => by rw [List.append_nil]; exact RE.rfl⟩
theorem GCS.gg (h : GCS S ks j x q ls i y p es) (g : GCS S ls i y p ms k z r e2) : GCS S ks j x q ms k z r (es ++ e2) := fun t a => by
  obtain ⟨t1, l1, a1, b1⟩ := h t a
  obtain ⟨t2, l2, a2, b2⟩ := g t1 a1
  refine ⟨t2, l1 ++ l2, a2, fun K ρ => ?_⟩
  have w := b2 K (ρ ++ l1)
  rw [List.append_assoc] at w
  exact (b1 K ρ).trans w
theorem GCS.ml (m : List Nat) (h : GCS S ks j x q ls i y p es) : GCS S (ks ++ m) j x q (ls ++ m) i y p es := fun t a => by
  obtain ⟨t1, l1, a1, b1⟩ := h t a
  refine ⟨t1, l1, a1, fun K ρ => ?_⟩
  rw [List.append_assoc, List.append_assoc]
  exact b1 (m ++ K) ρ
theorem GCF.ml (m : List Nat) (h : GCF S ks j x q pl) : GCF S (ks ++ m) j x q pl := by
  obtain ⟨es, b⟩ := h
  exact ⟨es, fun t a K ρ => by rw [List.append_assoc]; exact b t a (m ++ K) ρ⟩
theorem GCS.fl (h : GCS S ks j x q ls i y p es) (g : GCF S ls i y p pl) : GCF S ks j x q pl := by
  obtain ⟨e2, b2⟩ := g
  refine ⟨es ++ e2, fun t a K ρ => ?_⟩
  obtain ⟨t1, l1, a1, b1⟩ := h t a
  rw [List.append_assoc]
  exact (b1 K ρ).trans (b2 t1 a1 K _)
theorem GCS.st {k0 : Nat} (hk : k0 ≠ 999) (h : ∀ t, TEQ t (tkS S j) → ∃ (t' : TK) (l : List EV), TEQ t' (tkS S i) ∧ stk S k0 t x q = some (ls, t', y, p, l) ∧ evk k0 t x q = es) : GCS S [k0] j x q ls i y p es := fun t a => by
  obtain ⟨t1, l1, a1, b1, c1⟩ := h t a
  exact ⟨t1, l1, a1, fun K ρ => RE.one (stp_some b1) ((evt_s hk b1).trans c1)⟩
theorem GCF.st {k0 : Nat} (hk : k0 ≠ 999) (h : ∀ t, TEQ t (tkS S j) → stk S k0 t x q = none) : GCF S [k0] j x q (tkS S j).1 := ⟨[], fun t a K ρ => RE.one (stp_none (h t a)) ((evt_n hk (h t a)).trans (by rw [a.1]; rfl))⟩
end GCSS
/-! roads within a routine: E open, BLOCKS open, the call under way; how many items -/
abbrev UR : Type := Int64 × Int × Int
abbrev u0 : UR := (0, 0, 0)
def GR (S : Int → Int) (ks : List Nat) (j : Nat) (e b : Int) (u : UR) (ls : List Nat) (i : Nat) (f d : Int) (w : UR) (m : Int) (es : List EW) : Prop := ∀ N pm rp : Int, GCS S ks j (e, b, N) (u.1, u.2.1, u.2.2, pm, rp) ls i (f, d, N + m) (w.1, w.2.1, w.2.2, pm, rp) es
def GRF (S : Int → Int) (ks : List Nat) (j : Nat) (e b : Int) (u : UR) (p : Int) : Prop := ∀ N pm rp : Int, GCF S ks j (e, b, N) (u.1, u.2.1, u.2.2, pm, rp) p
section GRS
variable {S : Int → Int} {ks ls ms l z : List Nat} {j i k : Nat} {e b f d f2 d2 m m2 : Int} {u w w2 : UR} {es e2 : List EW} {pl : Int}
theorem GR.nl : GR S ks j e b u ks j e b u 0 [] := fun N pm rp => by rw [Int.add_zero]; exact GCS.nl
/-- a piece more -/
theorem GR.gg (z : List Nat) (h : GR S ks j e b u (l ++ z) i f d w m es) (g : GR S l i f d w ms k f2 d2 w2 m2 e2) : GR S ks j e b u (ms ++ z) k f2 d2 w2 (m + m2) (es ++ e2) := fun N pm rp => by
  have q := (g (N + m) pm rp).ml z
  rw [Int.add_assoc] at q
  exact (h N pm rp).gg q
/-- a piece that tells nothing -/
theorem GR.g0 (z : List Nat) (h : GR S ks j e b u (l ++ z) i f d w m es) (g : GR S l i f d w ms k f2 d2 w2 m2 []) : GR S ks j e b u (ms ++ z) k f2 d2 w2 (m + m2) es := by
  have q := h.gg z g
  rw [List.append_nil] at q
  exact q
theorem GR.fl (z : List Nat) (h : GR S ks j e b u (l ++ z) i f d w m es) (g : GRF S l i f d w pl) : GRF S ks j e b u pl := fun N pm rp => (h N pm rp).fl ((g (N + m) pm rp).ml z)
end GRS

