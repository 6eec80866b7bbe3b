section
def msC (x : Int) (c : CS) : CS := CS.mk c.fp c.rn c.rk c.rp c.cn c.ck c.cp c.cc c.nn c.nk x
def nmC (w : Int64) (c : CS) : CS := CS.mk c.fp c.rn c.rk c.rp c.cn c.ck c.cp c.cc (c.nn + 1) (up1 c.nk c.nn w) c.m
def rpC (v : Int) (c : CS) : CS := CS.mk c.fp c.rn c.rk (up1 c.rp (c.rn - 1) v) c.cn c.ck c.cp c.cc c.nn c.nk c.m
def clC (w : Int64) (p m : Int) (c : CS) : CS := CS.mk c.fp c.rn c.rk c.rp (c.cn + 1) (up1 c.ck c.cn w) (up1 c.cp c.cn p) (up1 c.cc c.cn m) c.nn c.nk c.m
def rnC (w : Int64) (c : CS) : CS := CS.mk c.fp (c.rn + 1) (up1 c.rk c.rn w) (up1 c.rp c.rn 0) c.cn c.ck c.cp c.cc 0 c.nk c.m
section CEV
variable {c : CS} {p m v : Int} {w : Int64}
theorem nC4 : nC c (4, p, 0, w) = nCn c w p := by
  unfold nC
  rw [if_neg (show ¬ (4 : Int) = 2 by decide), if_neg (show ¬ (4 : Int) = 3 by decide), if_neg (show ¬ (4 : Int) = 7 by decide), if_pos (show (4 : Int) = 4 from rfl)]
theorem sC4 : sC c (4, p, 0, w) = sCn c w := by
  unfold sC
  rw [if_neg (show ¬ (4 : Int) = 2 by decide), if_neg (show ¬ (4 : Int) = 3 by decide), if_neg (show ¬ (4 : Int) = 7 by decide), if_pos (show (4 : Int) = 4 from rfl)]
theorem uC4 : uC c (4, p, 0, w) = fpC (cnts (nCn c w p) c.fp) (sCn c w) := by
  unfold uC
  rw [nC4, sC4]
  rfl
theorem uC4f (h : fndC c w) : uC c (4, p, 0, w) = c := by
  rw [uC4]
  unfold nCn sCn
  rw [ifP_f (fun q => q.1 h), ifP_f (fun q => q.1 h)]
  rfl
theorem uC4n (h : ¬ fndC c w) (g : 12 ≤ c.nn) : uC c (4, p, 0, w) = fpC (cntN 5 p c.fp) c := by
  rw [uC4]
  unfold nCn sCn
  rw [ifP_t ⟨h, g⟩, ifP_f (fun q => q.2 g)]
  rfl
theorem uC4w (h : ¬ fndC c w) (g : ¬ 12 ≤ c.nn) : uC c (4, p, 0, w) = nmC w c := by
  rw [uC4]
  unfold nCn sCn
  rw [ifP_f (fun q => g q.2), ifP_t ⟨h, g⟩]
  rfl
theorem uC5o (h : 40 < c.m + 1) : uC c (5, p, 0, 0) = msC (c.m + 1) (fpC (cntN 5 p c.fp) c) := by
  unfold uC nC sC
  rw [if_neg (show ¬ (5 : Int) = 2 by decide), if_neg (show ¬ (5 : Int) = 3 by decide), if_neg (show ¬ (5 : Int) = 7 by decide), if_neg (show ¬ (5 : Int) = 4 by decide), if_pos (show (5 : Int) = 5 from rfl)]
  rw [if_neg (show ¬ (5 : Int) = 2 by decide), if_neg (show ¬ (5 : Int) = 3 by decide), if_neg (show ¬ (5 : Int) = 7 by decide), if_neg (show ¬ (5 : Int) = 4 by decide), if_pos (show (5 : Int) = 5 from rfl)]
  rw [ifP_t h]
  rfl
theorem uC5n (h : ¬ 40 < c.m + 1) : uC c (5, p, 0, 0) = msC (c.m + 1) c := by
  unfold uC nC sC
  rw [if_neg (show ¬ (5 : Int) = 2 by decide), if_neg (show ¬ (5 : Int) = 3 by decide), if_neg (show ¬ (5 : Int) = 7 by decide), if_neg (show ¬ (5 : Int) = 4 by decide), if_pos (show (5 : Int) = 5 from rfl)]
  rw [if_neg (show ¬ (5 : Int) = 2 by decide), if_neg (show ¬ (5 : Int) = 3 by decide), if_neg (show ¬ (5 : Int) = 7 by decide), if_neg (show ¬ (5 : Int) = 4 by decide), if_pos (show (5 : Int) = 5 from rfl)]
  rw [ifP_f h]
  rfl
theorem uC1 : uC c (1, p, m, w) = clC w p m c := by
  unfold uC nC sC
  rw [if_neg (show ¬ (1 : Int) = 2 by decide), if_neg (show ¬ (1 : Int) = 3 by decide), if_neg (show ¬ (1 : Int) = 7 by decide), if_neg (show ¬ (1 : Int) = 4 by decide), if_neg (show ¬ (1 : Int) = 5 by decide), if_pos (show (1 : Int) = 1 from rfl)]
  rw [if_neg (show ¬ (1 : Int) = 2 by decide), if_neg (show ¬ (1 : Int) = 3 by decide), if_neg (show ¬ (1 : Int) = 7 by decide), if_neg (show ¬ (1 : Int) = 4 by decide), if_neg (show ¬ (1 : Int) = 5 by decide), if_pos (show (1 : Int) = 1 from rfl)]
  rfl
theorem uC7 : uC c (7, p, m, w) = c := by
  unfold uC nC sC
  rw [if_neg (show ¬ (7 : Int) = 2 by decide), if_neg (show ¬ (7 : Int) = 3 by decide), if_pos (show (7 : Int) = 7 from rfl)]
  rw [if_neg (show ¬ (7 : Int) = 2 by decide), if_neg (show ¬ (7 : Int) = 3 by decide), if_pos (show (7 : Int) = 7 from rfl)]
  rfl
theorem uC0 : uC c (0, p, m, w) = fpC (cnts (ifP (120 < m) [(p, 5)] []) c.fp) c := by
  unfold uC nC sC
  rw [if_neg (show ¬ (0 : Int) = 2 by decide), if_neg (show ¬ (0 : Int) = 3 by decide), if_neg (show ¬ (0 : Int) = 7 by decide), if_neg (show ¬ (0 : Int) = 4 by decide), if_neg (show ¬ (0 : Int) = 5 by decide), if_neg (show ¬ (0 : Int) = 1 by decide), if_pos (show (0 : Int) = 0 from rfl)]
  rw [if_neg (show ¬ (0 : Int) = 2 by decide), if_neg (show ¬ (0 : Int) = 3 by decide), if_neg (show ¬ (0 : Int) = 7 by decide), if_neg (show ¬ (0 : Int) = 4 by decide), if_neg (show ¬ (0 : Int) = 5 by decide), if_neg (show ¬ (0 : Int) = 1 by decide)]
  rfl
theorem uC0o (h : 120 < m) : uC c (0, p, m, w) = fpC (cntN 5 p c.fp) c := by rw [uC0, ifP_t h]; rfl
theorem uC0n (h : ¬ 120 < m) : uC c (0, p, m, w) = c := by rw [uC0, ifP_f h]; rfl
theorem uC2 : uC c (2, p, 0, w) = rnC w (fpC (cnts (ifP (fndQ c w) [(p, 2)] [] ++ ifP (6 ≤ c.rn) [(p, 5)] []) c.fp) c) := by
  unfold uC nC sC
  rw [if_pos (show (2 : Int) = 2 from rfl), if_pos (show (2 : Int) = 2 from rfl)]
  rfl
theorem uC3 : uC c (3, p, m, w) = fpC (cnts (ifP (fndC c w) [(p, 2)] [] ++ (ifP (4 ≤ m) [(p, 5)] [] ++ nCn c w p)) c.fp) (CS.mk (sCn c w).fp (sCn c w).rn (sCn c w).rk (up1 c.rp (c.rn - 1) (m + 1)) (sCn c w).cn (sCn c w).ck (sCn c w).cp (sCn c w).cc (sCn c w).nn (sCn c w).nk (sCn c w).m) := by
  unfold uC nC sC
  rw [if_neg (show ¬ (3 : Int) = 2 by decide), if_pos (show (3 : Int) = 3 from rfl)]
  rw [if_neg (show ¬ (3 : Int) = 2 by decide), if_pos (show (3 : Int) = 3 from rfl)]
  rfl
noncomputable def ifN (q : Prop) (f p : Int) (c : CS) : CS := ifP q (fpC (cntN f p c.fp) c) c
theorem ifN_eq {q : Prop} {f : Int} : ifN q f p c = fpC (cnts (ifP q [(p, f)] []) c.fp) c := by
  unfold ifN
  by_cases h : q
  · rw [ifP_t h, ifP_t h]; rfl
  · rw [ifP_f h, ifP_f h]; rfl
theorem sCn_fp {x : FP} : sCn (fpC x c) w = fpC x (sCn c w) := by
  unfold sCn
  by_cases h : ¬ fndC c w ∧ ¬ 12 ≤ c.nn
  · rw [ifP_t h, ifP_t (show ¬ fndC (fpC x c) w ∧ ¬ 12 ≤ (fpC x c).nn from h)]; rfl
  · rw [ifP_f h, ifP_f (show ¬ (¬ fndC (fpC x c) w ∧ ¬ 12 ≤ (fpC x c).nn) from h)]
theorem uC3c : uC c (3, p, m, w) = rpC (m + 1) (uC (ifN (4 ≤ m) 5 p (ifN (fndC c w) 2 p c)) (4, p, 0, w)) := by
  rw [uC3, uC4, ifN_eq, ifN_eq]
  rw [show nCn (fpC (cnts (ifP (4 ≤ m) [(p, 5)] []) (fpC (cnts (ifP (fndC c w) [(p, 2)] []) c.fp) c).fp) (fpC (cnts (ifP (fndC c w) [(p, 2)] []) c.fp) c)) w p = nCn c w p from rfl]
  rw [sCn_fp, sCn_fp, cnts_app, cnts_app]
  have e := sCn_q c w
  show _ = CS.mk (cnts (nCn c w p) (cnts (ifP (4 ≤ m) [(p, 5)] []) (cnts (ifP (fndC c w) [(p, 2)] []) c.fp))) (sCn c w).rn (sCn c w).rk (up1 (sCn c w).rp ((sCn c w).rn - 1) (m + 1)) (sCn c w).cn (sCn c w).ck (sCn c w).cp (sCn c w).cc (sCn c w).nn (sCn c w).nk (sCn c w).m
  rw [e.2.2.1, e.1]
  rfl
theorem uC2c : uC c (2, p, 0, w) = rnC w (ifN (6 ≤ c.rn) 5 p (ifN (fndQ c w) 2 p c)) := by
  rw [uC2, ifN_eq, ifN_eq, cnts_app]
  rfl
end CEV
theorem fc_one {es : List EW} {e : EW} {c : CS} : uC (es.foldl uC c) e = (es ++ [e]).foldl uC c := by rw [List.foldl_append]; rfl
def EXR (S : Int → Int) (e : Int) (ks : List Nat) (j : Nat) (f : Int) (ls : List Nat) (i : Nat) (m : Int) (es : List EW) : Prop := ∀ (b : Int) (u : UR), GR S ks j e b u ls i f b u m es
def EXF (S : Int → Int) (e : Int) (ks : List Nat) (j : Nat) (p : Int) : Prop := ∀ (b : Int) (u : UR), GRF S ks j e b u p
section EXS
variable {S : Int → Int} {ks ls ms l : List Nat} {j i k : Nat} {e f f2 m m2 pl : Int} {es e2 : List EW}
theorem EXR.nl : EXR S e ks j e ks j 0 [] := fun _ _ => GR.nl
theorem EXR.gg (z : List Nat) (h : EXR S e ks j f (l ++ z) i m es) (g : EXR S f l i f2 ms k m2 e2) : EXR S e ks j f2 (ms ++ z) k (m + m2) (es ++ e2) := fun b u => (h b u).gg z (g b u)
theorem EXR.g0 (z : List Nat) (h : EXR S e ks j f (l ++ z) i m es) (g : EXR S f l i f2 ms k m2 []) : EXR S e ks j f2 (ms ++ z) k (m + m2) es := fun b u => (h b u).g0 z (g b u)
theorem EXR.fl (z : List Nat) (h : EXR S e ks j f (l ++ z) i m es) (g : EXF S f l i pl) : EXF S e ks j pl := fun b u => (h b u).fl z (g b u)
end EXS
def XS (σ : MS) (a : Nat) (S : Int → Int) (n : Nat) (e : Int) (ks : List Nat) (j : Nat) (c : CS) (N : Int) (f : Int) (ls : List Nat) (lo : Int) : Prop := ∃ (i : Nat) (es : List EW) (m : Int), lo ≤ (i : Int) ∧ EXR S e ks j f ls i m es ∧ RDX σ a S n i (es.foldl uC c) (N + m)
def XFc (σ : MS) (a : Nat) (S : Int → Int) (e : Int) (ks : List Nat) (j : Nat) : Prop := ∃ p, EXF S e ks j p ∧ FLC σ a p
def XQ (σ : MS) (a : Nat) (S : Int → Int) (n : Nat) (e : Int) (ks : List Nat) (j : Nat) (c : CS) (N v : Int) : Prop := (v = 1 → XS σ a S n e ks j c N e [] ((j : Int) + 1)) ∧ (v = 0 → XFc σ a S e ks j)
def YS (σ : MS) (a : Nat) (S : Int → Int) (n : Nat) (b : Int) (ks : List Nat) (j : Nat) (c : CS) (N : Int) (d : Int) (ls : List Nat) (lo : Int) : Prop := ∃ (i : Nat) (es : List EW) (m : Int), lo ≤ (i : Int) ∧ GR S ks j 0 b u0 ls i 0 d u0 m es ∧ RDX σ a S n i (es.foldl uC c) (N + m) ∧ (es.foldl uC c).m ≤ (i : Int)
def YF (σ : MS) (a : Nat) (S : Int → Int) (b : Int) (ks : List Nat) (j : Nat) : Prop := ∃ p, GRF S ks j 0 b u0 p ∧ FLC σ a p
def YQ (σ : MS) (a : Nat) (S : Int → Int) (n : Nat) (b : Int) (ks : List Nat) (j : Nat) (c : CS) (N w v : Int) : Prop := (v = 1 → YS σ a S n b ks j c N b [] ((j : Int) + w)) ∧ (v = 0 → YF σ a S b ks j)
def TQ (σ : MS) (a : Nat) (S : Int → Int) (n j : Nat) (c : CS) (N s v : Int) : Prop := (v = 1 → ckd (tkS S j) = s ∧ RDX σ a S n (j + 1) c N) ∧ (v = 0 → ckd (tkS S j) ≠ s ∧ FLC σ a (tkS S j).1 ∧ TKR σ a S n j)
section FLS
variable {T : CT} {σ τ : MS} {a k : Nat} {p z v : Int} {ks : List Nat}
theorem FLC.pt (h : FLC σ a p) (hk : k ≠ 43 ∧ k ≠ 44) : FLC (sA k z v σ) a p := ⟨by rw [sA_k (by omega)]; exact h.1, by rw [sA_k (by omega)]; exact h.2⟩
theorem FLC.fc (h : FLC σ a p) (f : FrC T ks σ τ) (h1 : 43 ∉ ks) (h2 : 44 ∉ ks) : FLC τ a p := ⟨by rw [f.1 43 (Or.inl (by decide)) h1]; exact h.1, by rw [f.1 44 (Or.inl (by decide)) h2]; exact h.2⟩
end FLS
def YK (σ : MS) (a : Nat) (S : Int → Int) (n : Nat) (b : Int) (ks : List Nat) (j : Nat) (c : CS) (N : Int) (d : Int) (ls : List Nat) (lo s : Int) : Prop := ∃ (i : Nat) (es : List EW) (m : Int), lo ≤ (i : Int) ∧ GR S ks j 0 b u0 ls i 0 d u0 m es ∧ RDX σ a S n i (es.foldl uC c) (N + m) ∧ (es.foldl uC c).m ≤ (i : Int) ∧ ckd (tkS S i) = s
def CLV (σ : MS) (a : Nat) (S : Int → Int) (n : Nat) (b : Int) (j : Nat) (c : CS) (N : Int) (W : Int64) (P k lo : Int) : Prop := ∃ (i : Nat) (es : List EW) (m : Int), lo ≤ (i : Int) ∧ RDX σ a S n i (es.foldl uC c) (N + m) ∧ ((k = 0 ∧ ckd (tkS S i) = 41) → GR S [25] j 0 b u0 [38, 141, 159] i 0 b (W, k, P) m es) ∧ (¬ (k = 0 ∧ ckd (tkS S i) = 41) → GR S [25] j 0 b u0 [2, 27, 159] i 0 b (W, k, P) m es)
def CLX (σ : MS) (a : Nat) (S : Int → Int) (n : Nat) (b : Int) (j : Nat) (c : CS) (N : Int) (W : Int64) (P k lo : Int) : Prop := ∃ (i : Nat) (es : List EW) (m : Int), lo ≤ (i : Int) ∧ RDX σ a S n i (es.foldl uC c) (N + m) ∧ GR S [25] j 0 b u0 [38, 141, 159] i 0 b (W, k, P) m es
theorem x25s {S : Int → Int} {j : Nat} {e b : Int} {u : UR} (hS : SB S) (h : ¬ (ckd (tkS S j) = 256 ∧ ckd (tkS S (j + 1)) = 40)) : GR S [25] j e b u [2, 52, 159] j e b u 0 [] := by
  by_cases h1 : ckd (tkS S j) = 256
  · exact x25b hS h1 (fun q => h ⟨h1, q⟩)
  · exact x25n hS h1
theorem RDX.e45 {σ : MS} {a n j : Nat} {c : CS} {N : Int} {S : Int → Int} (h : RDX σ a S n j c N) : σ.2.1 45 a = c.m := h.1.2.1.1.2.2.2.2
theorem RDX.po {σ : MS} {a n j : Nat} {c : CS} {N : Int} {S : Int → Int} (h : RDX σ a S n j c N) : PO j c := h.1.2.2
end
section
def NIV (σ : MS) (a : Nat) (k i2 : Int) : Prop := ∀ x : Nat, σ.2.1 48 a = (x : Int) → ∀ i, 0 ≤ i → i < i2 → σ.2.1 (1000 + x) i ≠ k
def NIY (σ : MS) (a : Nat) (k v : Int) : Prop := ∀ d x : Nat, σ.2.1 35 a = (d : Int) → σ.2.1 48 a = (x : Int) → 0 ≤ v ∧ v < σ.2.1 7 d ∧ σ.2.1 (1000 + x) v = k
def NIN (σ : MS) (a : Nat) (k : Int) : Prop := ∀ d x : Nat, σ.2.1 35 a = (d : Int) → σ.2.1 48 a = (x : Int) → ∀ i, 0 ≤ i → i < σ.2.1 7 d → σ.2.1 (1000 + x) i ≠ k
def NIQ (σ : MS) (a : Nat) (k v : Int) : Prop := (v = -1 ∧ NIN σ a k) ∨ (0 ≤ v ∧ NIY σ a k v)
def ROV (σ : MS) (a : Nat) (k i2 : Int) : Prop := ∀ x : Nat, σ.2.1 36 a = (x : Int) → ∀ i, 0 ≤ i → i < i2 → i < 256 → σ.2.1 (1000 + x) i ≠ k
def ROY (σ : MS) (a : Nat) (k v : Int) : Prop := (0 ≤ v ∧ v < σ.2.1 38 a) ∧ ∀ x : Nat, σ.2.1 36 a = (x : Int) → σ.2.1 (1000 + x) v = k
def ROQ (σ : MS) (a : Nat) (k v : Int) : Prop := (v = -1 ∧ ROV σ a k (σ.2.1 38 a)) ∨ (ROY σ a k v ∧ ROV σ a k v)
theorem sA_at {k : Nat} {z v i : Int} {σ : MS} : (sA k z v σ).2.1 k i = if i = z then v else σ.2.1 k i := by
  by_cases h : i = z
  · rw [if_pos h, h]; exact ra_eq
  · rw [if_neg h]; exact ra_ne h rfl
section NIX
variable {T : CT} {σ τ : MS} {a n j d x : Nat} {c : CS} {N k v p m : Int} {w : Int64} {S : Int → Int}
theorem NIQ.fd (q : NIQ σ a k v) (h : NMR σ a c) (hw : WT T σ) (ha : OB T a 5) (hk : KW k w) : v ≠ -1 ↔ fndC c w := by
  obtain ⟨d, hd, -⟩ := wf_35 hw ha
  obtain ⟨x, hx, -⟩ := wf_48 hw ha
  have e := h.1 d hd
  rcases q with ⟨q1, q2⟩ | ⟨q1, q2⟩
  · refine ⟨fun z => absurd q1 z, fun z => ?_⟩
    obtain ⟨i, i0, i1, i2⟩ := z
    exact absurd ((KW.eq (h.2 x hx i i0 i1) hk).mpr i2) (q2 d x hd hx i i0 (by rw [e]; exact i1))
  · obtain ⟨r1, r2, r3⟩ := q2 d x hd hx
    rw [e] at r2
    have g := h.2 x hx v r1 r2
    rw [r3] at g
    exact ⟨fun _ => ⟨v, r1, r2, (KW.eq g hk).mp rfl⟩, fun _ => by omega⟩
theorem RDX.nw (h : RDX σ a S n j c N) (hw : WT T σ) (ha : OB T a 5) (hx : σ.2.1 48 a = (x : Int)) (hd : σ.2.1 35 a = (d : Int)) (hk : KW k w) (fr : FrC T [521] σ τ) (hs : τ = sA (1000 + x) c.nn k σ) : RDX (sA 7 d (c.nn + 1) τ) a S n j (nmC w c) N := by
  obtain ⟨h1, h2, h3⟩ := h
  have e35 : (sA 7 d (c.nn + 1) τ).2.1 35 = σ.2.1 35 := (sA_k (by decide)).trans (fr.1 35 (Or.inl (by decide)) (by decide))
  have e48 : (sA 7 d (c.nn + 1) τ).2.1 48 = σ.2.1 48 := (sA_k (by decide)).trans (fr.1 48 (Or.inl (by decide)) (by decide))
  have e6 : (sA 7 d (c.nn + 1) τ).2.1 6 = σ.2.1 6 := (sA_k (by decide)).trans (fr.1 6 (Or.inl (by decide)) (by decide))
  have q : RD0 (sA 7 d (c.nn + 1) τ) a S n j c := (h1.fc hw ha fr (by decide) (by decide)).pt (by decide) (by decide)
  refine ⟨⟨q.1, q.2.1, q.2.2⟩, ⟨fun d2 g => ?_, fun y g i i0 i1 => ?_⟩, h3.cg e35 e6⟩
  · rw [e35] at g
    have e : d2 = d := by omega
    rw [e]; exact ra_eq
  · rw [e48] at g
    have e : y = x := by omega
    rw [e, sA_k (by omega), hs, sA_at]
    show KW _ (up1 c.nk c.nn w i)
    by_cases z : i = c.nn
    · rw [if_pos z, z, up1_eq]; exact hk
    · rw [if_neg z, up1_ne z]
      have i2 : i < c.nn := by have : i < c.nn + 1 := i1; omega
      exact h2.2 x hx i i0 i2
theorem RDX.rp (h : RDX σ a S n j c N) (hw : WT T σ) (ha : OB T a 5) (hx : σ.2.1 37 a = (x : Int)) (fr : FrC T [517] σ τ) (hs : τ = sA (1000 + x) (c.rn - 1) v σ) : RDX τ a S n j (rpC v c) N := by
  obtain ⟨⟨h1, h2, h4⟩, h5, h6⟩ := h
  obtain ⟨k1, k2, k3, k4, k5, k6⟩ := h2
  have g : ∀ k ∈ [36, 37, 38, 39, 40, 41, 42, 43, 44, 45], τ.2.1 k = σ.2.1 k := fun k w => fr.1 k (Or.inl ((by decide : ∀ k ∈ [36, 37, 38, 39, 40, 41, 42, 43, 44, 45], k < 200) k w)) ((by decide : ∀ k ∈ [36, 37, 38, 39, 40, 41, 42, 43, 44, 45], k ∉ [517]) k w)
  refine ⟨⟨h1.fc hw ha fr (by decide) (by decide), ⟨?_, fun y q => ?_, fun y q => ?_, fun y q => ?_, fun y q => ?_, fun y q => ?_⟩, h4⟩, h5.fc hw ha fr (by decide) (by decide), h6.fc fr (by decide) (by decide)⟩
  · rw [g 43 (by decide), g 44 (by decide), g 38 (by decide), g 42 (by decide), g 45 (by decide)]; exact k1
  · rw [g 36 (by decide)] at q
    rw [row_f fr (wf_36 hw ha) (by unfold HT; omega) (by decide) q]; exact k2 y q
  · rw [g 37 (by decide)] at q
    have e : y = x := by omega
    intro i i0 i1
    rw [e, hs, sA_at]
    show _ = up1 c.rp (c.rn - 1) v i
    by_cases z : i = c.rn - 1
    · rw [if_pos z, z, up1_eq]
    · rw [if_neg z, up1_ne z]; exact k3 x hx i i0 i1
  · rw [g 39 (by decide)] at q
    rw [row_f fr (wf_39 hw ha) (by unfold HT; omega) (by decide) q]; exact k4 y q
  · rw [g 40 (by decide)] at q
    rw [row_f fr (wf_40 hw ha) (by unfold HT; omega) (by decide) q]; exact k5 y q
  · rw [g 41 (by decide)] at q
    rw [row_f fr (wf_41 hw ha) (by unfold HT; omega) (by decide) q]; exact k6 y q
theorem RDX.cl (h : RDX σ a S n j c N) (hw : WT T σ) (ha : OB T a 5) (fr : FrC T [42, 518, 519, 520] σ τ) (h42 : τ.2.1 42 a = c.cn + 1) (hk : KW k w) (r1 : ∀ x : Nat, σ.2.1 39 a = (x : Int) → ∀ i, τ.2.1 (1000 + x) i = if i = c.cn then k else σ.2.1 (1000 + x) i) (r2 : ∀ x : Nat, σ.2.1 40 a = (x : Int) → ∀ i, τ.2.1 (1000 + x) i = if i = c.cn then p else σ.2.1 (1000 + x) i) (r3 : ∀ x : Nat, σ.2.1 41 a = (x : Int) → ∀ i, τ.2.1 (1000 + x) i = if i = c.cn then m else σ.2.1 (1000 + x) i) (po : 6 * c.cn + 6 ≤ (j : Int)) : RDX τ a S n j (clC w p m c) N := by
  obtain ⟨⟨h1, h2, h4⟩, h5, h6⟩ := h
  obtain ⟨k1, k2, k3, k4, k5, k6⟩ := h2
  have g : ∀ k ∈ [36, 37, 38, 39, 40, 41, 43, 44, 45], τ.2.1 k = σ.2.1 k := fun k w => fr.1 k (Or.inl ((by decide : ∀ k ∈ [36, 37, 38, 39, 40, 41, 43, 44, 45], k < 200) k w)) ((by decide : ∀ k ∈ [36, 37, 38, 39, 40, 41, 43, 44, 45], k ∉ [42, 518, 519, 520]) k w)
  have lt : ∀ {i : Int}, i < (clC w p m c).cn → ¬ i = c.cn → i < c.cn := fun {i} q z => by have : i < c.cn + 1 := q; omega
  refine ⟨⟨h1.fc hw ha fr (by decide) (by decide), ⟨?_, fun y q => ?_, fun y q => ?_, fun y q i i0 i1 => ?_, fun y q i i0 i1 => ?_, fun y q i i0 i1 => ?_⟩, ?_⟩, h5.fc hw ha fr (by decide) (by decide), h6.fc fr (by decide) (by decide)⟩
  · rw [g 43 (by decide), g 44 (by decide), g 38 (by decide), h42, g 45 (by decide)]; exact ⟨k1.1, k1.2.1, k1.2.2.1, rfl, k1.2.2.2.2⟩
  · rw [g 36 (by decide)] at q
    rw [row_f fr (wf_36 hw ha) (by unfold HT; omega) (by decide) q]; exact k2 y q
  · rw [g 37 (by decide)] at q
    rw [row_f fr (wf_37 hw ha) (by unfold HT; omega) (by decide) q]; exact k3 y q
  · rw [g 39 (by decide)] at q
    rw [r1 y q i]
    show KW _ (up1 c.ck c.cn w i)
    by_cases z : i = c.cn
    · rw [if_pos z, z, up1_eq]; exact hk
    · rw [if_neg z, up1_ne z]; exact k4 y q i i0 (lt i1 z)
  · rw [g 40 (by decide)] at q
    rw [r2 y q i]
    show _ = up1 c.cp c.cn p i
    by_cases z : i = c.cn
    · rw [if_pos z, z, up1_eq]
    · rw [if_neg z, up1_ne z]; exact k5 y q i i0 (lt i1 z)
  · rw [g 41 (by decide)] at q
    rw [r3 y q i]
    show _ = up1 c.cc c.cn m i
    by_cases z : i = c.cn
    · rw [if_pos z, z, up1_eq]
    · rw [if_neg z, up1_ne z]; exact k6 y q i i0 (lt i1 z)
  · have w9 := h4.2
    refine ⟨?_, w9⟩
    show 6 * (c.cn + 1) ≤ (j : Int)
    omega
theorem RD0.op (h : RD0 σ a S n j c) (hw : WT T σ) (ha : OB T a 5) (fr : FrC T [6, 7, 8, 9, 10, 35, 38, 46, 47, 516, 517] σ τ) (h38 : τ.2.1 38 a = c.rn + 1) (h35 : τ.2.1 35 a = (d : Int)) (h6 : τ.2.1 6 d = 0) (h7 : τ.2.1 7 d = 0) (hk : KW k w) (r1 : ∀ x : Nat, σ.2.1 36 a = (x : Int) → ∀ i, τ.2.1 (1000 + x) i = if i = c.rn then k else σ.2.1 (1000 + x) i) (r2 : ∀ x : Nat, σ.2.1 37 a = (x : Int) → ∀ i, τ.2.1 (1000 + x) i = if i = c.rn then 0 else σ.2.1 (1000 + x) i) (po : 5 * c.rn ≤ (j : Int)) : RDX τ a S n j (rnC w c) 0 := by
  obtain ⟨h1, h2, h4⟩ := h
  obtain ⟨k1, k2, k3, k4, k5, k6⟩ := h2
  have g : ∀ k ∈ [36, 37, 39, 40, 41, 42, 43, 44, 45, 48], τ.2.1 k = σ.2.1 k := fun k w => fr.1 k (Or.inl ((by decide : ∀ k ∈ [36, 37, 39, 40, 41, 42, 43, 44, 45, 48], k < 200) k w)) ((by decide : ∀ k ∈ [36, 37, 39, 40, 41, 42, 43, 44, 45, 48], k ∉ [6, 7, 8, 9, 10, 35, 38, 46, 47, 516, 517]) k w)
  have lt : ∀ {i : Int}, i < (rnC w c).rn → ¬ i = c.rn → i < c.rn := fun {i} q z => by have : i < c.rn + 1 := q; omega
  refine ⟨⟨h1.fc hw ha fr (by decide) (by decide), ⟨?_, fun y q i i0 i1 => ?_, fun y q i i0 i1 => ?_, fun y q => ?_, fun y q => ?_, fun y q => ?_⟩, ?_⟩, ⟨fun d2 q => ?_, fun y q i i0 i1 => ?_⟩, fun d2 q => ?_⟩
  · rw [g 43 (by decide), g 44 (by decide), h38, g 42 (by decide), g 45 (by decide)]; exact ⟨k1.1, k1.2.1, rfl, k1.2.2.2.1, k1.2.2.2.2⟩
  · rw [g 36 (by decide)] at q
    rw [r1 y q i]
    show KW _ (up1 c.rk c.rn w i)
    by_cases z : i = c.rn
    · rw [if_pos z, z, up1_eq]; exact hk
    · rw [if_neg z, up1_ne z]; exact k2 y q i i0 (lt i1 z)
  · rw [g 37 (by decide)] at q
    rw [r2 y q i]
    show _ = up1 c.rp c.rn 0 i
    by_cases z : i = c.rn
    · rw [if_pos z, z, up1_eq]
    · rw [if_neg z, up1_ne z]; exact k3 y q i i0 (lt i1 z)
  · rw [g 39 (by decide)] at q
    rw [row_f fr (wf_39 hw ha) (by unfold HT; omega) (by decide) q]; exact k4 y q
  · rw [g 40 (by decide)] at q
    rw [row_f fr (wf_40 hw ha) (by unfold HT; omega) (by decide) q]; exact k5 y q
  · rw [g 41 (by decide)] at q
    rw [row_f fr (wf_41 hw ha) (by unfold HT; omega) (by decide) q]; exact k6 y q
  · have w9 := h4.1
    refine ⟨w9, ?_, h4.2.2⟩
    show 5 * (c.rn + 1) ≤ (j : Int) + 5
    omega
  · have e : d2 = d := by omega
    rw [e]; exact h7
  · exfalso
    have i2 : i < 0 := i1
    omega
  · have e : d2 = d := by omega
    rw [e]; exact h6
theorem RDX.sm (h : RDX σ a S n j c N) (hm : c.m ≤ (j : Int)) : RDX (sA 45 a (c.m + 1) σ) a S n j (msC (c.m + 1) c) N := by
  have e : ∀ m ∈ [33, 35, 36, 37, 38, 39, 40, 41, 42, 43, 44, 48, 6, 7, 81, 82, 83, 84, 85, 86, 87], (sA 45 a (c.m + 1) σ).2.1 m = σ.2.1 m := fun m q => sA_k (fun w => (by decide : (45 : Nat) ∉ [33, 35, 36, 37, 38, 39, 40, 41, 42, 43, 44, 48, 6, 7, 81, 82, 83, 84, 85, 86, 87]) (w ▸ q))
  have r : ∀ x : Nat, (sA 45 a (c.m + 1) σ).2.1 (1000 + x) = σ.2.1 (1000 + x) := fun x => sA_k (by omega)
  obtain ⟨⟨h1, h2, h4⟩, h5, h6⟩ := h
  obtain ⟨k1, k2, k3, k4, k5, k6⟩ := h2
  refine ⟨⟨h1.pt (by decide) (by decide), ⟨?_, fun y q => ?_, fun y q => ?_, fun y q => ?_, fun y q => ?_, fun y q => ?_⟩, ⟨h4.1, h4.2.1, by have := h4.2.2.1; show 0 ≤ c.m + 1; omega, by show c.m + 1 ≤ (j : Int) + 1; omega⟩⟩, h5.cg (fun m q => e m ((by decide : ∀ k ∈ [35, 7, 48], k ∈ [33, 35, 36, 37, 38, 39, 40, 41, 42, 43, 44, 48, 6, 7, 81, 82, 83, 84, 85, 86, 87]) m q)) (fun x _ => r x), h6.cg (e 35 (by decide)) (e 6 (by decide))⟩
  · rw [e 43 (by decide), e 44 (by decide), e 38 (by decide), e 42 (by decide)]; exact ⟨k1.1, k1.2.1, k1.2.2.1, k1.2.2.2.1, ra_eq⟩
  · rw [e 36 (by decide)] at q; rw [r y]; exact k2 y q
  · rw [e 37 (by decide)] at q; rw [r y]; exact k3 y q
  · rw [e 39 (by decide)] at q; rw [r y]; exact k4 y q
  · rw [e 40 (by decide)] at q; rw [r y]; exact k5 y q
  · rw [e 41 (by decide)] at q; rw [r y]; exact k6 y q
end NIX
theorem ROQ.fd {T : CT} {σ : MS} {a : Nat} {c : CS} {k v : Int} {w : Int64} (q : ROQ σ a k v) (h : CS0 σ a c) (hw : WT T σ) (ha : OB T a 5) (hk : KW k w) : v ≠ -1 ↔ fndQ c w := by
  obtain ⟨x, hx, -⟩ := wf_36 hw ha
  have b := wf_38 hw ha
  have e := h.1.2.2.1
  rcases q with ⟨q1, q2⟩ | ⟨q1, q2⟩
  · refine ⟨fun z => absurd q1 z, fun z => ?_⟩
    obtain ⟨i, i0, i1, i2⟩ := z
    exact absurd ((KW.eq (h.2.1 x hx i i0 i1) hk).mpr i2) (q2 x hx i i0 (by rw [e]; exact i1) (by omega))
  · obtain ⟨⟨r1, r2⟩, r3⟩ := q1
    rw [e] at r2
    have g := h.2.1 x hx v r1 r2
    rw [r3 x hx] at g
    exact ⟨fun _ => ⟨v, r1, r2, (KW.eq g hk).mp rfl⟩, fun _ => by omega⟩
end
section
def PR (S : Int → Int) (j : Nat) (rp : Int) (ls : List Nat) (i : Nat) (k : Int) (es : List EW) : Prop := ∀ N : Int, GCS S [31] j (0, 0, N) (0, 0, 0, 0, rp) ls i (0, 0, N) (0, 0, 0, k, rp) es
def PRF (S : Int → Int) (j : Nat) (rp p : Int) : Prop := ∀ N : Int, GCF S [31] j (0, 0, N) (0, 0, 0, 0, rp) p
def PS (σ : MS) (a : Nat) (S : Int → Int) (n j : Nat) (c : CS) (N rp : Int) : Prop := ∃ (i : Nat) (es : List EW) (k : Int), (j : Int) ≤ i ∧ PR S j rp [141, 35] i k es ∧ RDX σ a S n i (es.foldl uC c) N ∧ (es.foldl uC c).rn = c.rn
def PQ (σ : MS) (a : Nat) (S : Int → Int) (n j : Nat) (c : CS) (N rp v : Int) : Prop := (v = 1 → PS σ a S n j c N rp) ∧ (v = 0 → ∃ p, PRF S j rp p ∧ FLC σ a p)
def PLJ (σ : MS) (a : Nat) (S : Int → Int) (n j : Nat) (c : CS) (N rp k : Int) : Prop := ∃ (i : Nat) (es : List EW), (j : Int) + k ≤ i ∧ PR S j rp [32] i k es ∧ RDX σ a S n i (es.foldl uC c) N ∧ (es.foldl uC c).rn = c.rn
def PLX (σ : MS) (a : Nat) (S : Int → Int) (n j : Nat) (c : CS) (N rp : Int) : Prop := ∃ (i : Nat) (es : List EW) (k : Int), PR S j rp [32] i k es ∧ RDX σ a S n i (es.foldl uC c) N ∧ ckd (tkS S i) ≠ 256
section PRS
variable {S : Int → Int} {j i i2 i3 : Nat} {rp k m : Int} {es e2 e3 : List EW}
theorem PR.one (hS : SB S) (h : PR S j rp [32] i k es) (hk : ckd (tkS S i) = 256) : PR S j rp [33] (i + 1) (k + 1) (es ++ [(3, (tkS S i).1, k, (tkS S i).2.2.2.2)]) := fun N => (h N).gg (r32 hS hk)
theorem PR.comma (hS : SB S) (h : PR S j rp [33] i k es) (hk : ckd (tkS S i) = 44) : PR S j rp [32] (i + 1) k es := fun N => by
  have q := (h N).gg (r33y hS hk)
  rw [List.append_nil] at q
  exact q
theorem PR.done (hS : SB S) (h : PR S j rp [33] i k es) (hk : ckd (tkS S i) ≠ 44) : PR S j rp [141, 35] i k (es ++ [(7, 0, k, 0)]) := fun N => (h N).gg (r33n hS hk)
theorem PR.fail (hS : SB S) (h : PR S j rp [32] i k es) (hk : ckd (tkS S i) ≠ 256) : PRF S j rp (tkS S i).1 := fun N => (h N).fl (r32f hS hk)
theorem PR.none (hS : SB S) (hk : ckd (tkS S j) = 41) : PR S j rp [141, 35] j 0 [(7, 0, 0, 0)] := fun N => r31y hS hk
theorem PR.some (hS : SB S) (hk : ckd (tkS S j) ≠ 41) : PR S j rp [32] j 0 [] := fun N => r31n hS hk
theorem uC3_rn {c : CS} {p m : Int} {w : Int64} : (uC c (3, p, m, w)).rn = c.rn := by
  rw [uC3]
  exact (sCn_q c w).1
theorem f7 {c : CS} {p m : Int} {w : Int64} : (es ++ [(7, p, m, w)]).foldl uC c = es.foldl uC c := by rw [← fc_one, uC7]
def HR9 (S : Int → Int) (j i : Nat) (k : Int) (es : List EW) : Prop := ∀ N : Int, GCS S [30] j (0, 0, N) (0, 0, 0, 0, 0) [35] i (0, 0, N) (0, 0, 0, k, (tkS S j).1) es
def HF9 (S : Int → Int) (j : Nat) (p : Int) : Prop := ∀ N : Int, GCF S [30] j (0, 0, N) (0, 0, 0, 0, 0) p
theorem HD.a30 (hS : SB S) (hk : ckd (tkS S j) = 256) (N : Int) : GCS S [30] j (0, 0, N) (0, 0, 0, 0, 0) [140, 31] (j + 1) (0, 0, N) (0, 0, 0, 0, (tkS S j).1) [(2, (tkS S j).1, 0, (tkS S j).2.2.2.2)] := r30 hS hk
theorem HD.a40 (hS : SB S) (hk : ckd (tkS S j) = 256) (h40 : ckd (tkS S (j + 1)) = 40) (N : Int) : GCS S [30] j (0, 0, N) (0, 0, 0, 0, 0) [31] (j + 1 + 1) (0, 0, N) (0, 0, 0, 0, (tkS S j).1) [(2, (tkS S j).1, 0, (tkS S j).2.2.2.2)] := by
  have q := (HD.a30 hS hk N).gg ((r140 (x := (0, 0, N)) (q := (0, 0, 0, 0, (tkS S j).1)) hS h40).ml [31])
  rw [List.append_nil] at q
  exact q
theorem HD.ok (hS : SB S) (hk : ckd (tkS S j) = 256) (h40 : ckd (tkS S (j + 1)) = 40) (pr : PR S (j + 1 + 1) (tkS S j).1 [141, 35] i k es) (h41 : ckd (tkS S i) = 41) : HR9 S j (i + 1) k ([(2, (tkS S j).1, 0, (tkS S j).2.2.2.2)] ++ es) := fun N => by
  have q := ((HD.a40 hS hk h40 N).gg (pr N)).gg ((r141 (x := (0, 0, N)) (q := (0, 0, 0, k, (tkS S j).1)) hS h41).ml [35])
  rw [List.append_nil] at q
  exact q
theorem HD.f30 (hS : SB S) (hk : ckd (tkS S j) ≠ 256) : HF9 S j (tkS S j).1 := fun N => r30f hS hk
theorem HD.f40 (hS : SB S) (hk : ckd (tkS S j) = 256) (h40 : ckd (tkS S (j + 1)) ≠ 40) : HF9 S j (tkS S (j + 1)).1 := fun N => (HD.a30 hS hk N).fl ((f140 (x := (0, 0, N)) (q := (0, 0, 0, 0, (tkS S j).1)) hS h40).ml [31])
theorem HD.fpr {p : Int} (hS : SB S) (hk : ckd (tkS S j) = 256) (h40 : ckd (tkS S (j + 1)) = 40) (pr : PRF S (j + 1 + 1) (tkS S j).1 p) : HF9 S j p := fun N => (HD.a40 hS hk h40 N).fl (pr N)
theorem HD.f41 (hS : SB S) (hk : ckd (tkS S j) = 256) (h40 : ckd (tkS S (j + 1)) = 40) (pr : PR S (j + 1 + 1) (tkS S j).1 [141, 35] i k es) (h41 : ckd (tkS S i) ≠ 41) : HF9 S j (tkS S i).1 := fun N => ((HD.a40 hS hk h40 N).gg (pr N)).fl ((f141 (x := (0, 0, N)) (q := (0, 0, 0, k, (tkS S j).1)) hS h41).ml [35])
def TR9 (S : Int → Int) (i : Nat) (N : Int) (es : List EW) : Prop := GCS S [36] 0 (0, 0, 0) (qq 0) [36] i (0, 0, N) (qq 0) es
theorem TR9.nl : TR9 S 0 0 [] := GCS.nl
theorem TR9.inn {N : Int} (hS : SB S) (h : TR9 S i N es) (hk : ckd (tkS S i) ≠ 264) (hd : HR9 S i i2 k e2) : GCS S [36] 0 (0, 0, 0) (qq 0) [28, 51, 34, 36] i2 (0, 0, 0) (0, 0, 0, 0, (tkS S i).1) (es ++ e2) := by
  have q1 : GCS S [36] 0 (0, 0, 0) (qq 0) [30, 36] i (0, 0, N) (qq 0) (es ++ []) := GCS.gg h (r36n hS hk)
  have q2 : GCS S [36] 0 (0, 0, 0) (qq 0) [35, 36] i2 (0, 0, N) (0, 0, 0, k, (tkS S i).1) ((es ++ []) ++ e2) := q1.gg ((hd N).ml [36])
  have q3 : GCS S [36] 0 (0, 0, 0) (qq 0) [28, 51, 34, 36] i2 (0, 0, 0) (0, 0, 0, 0, (tkS S i).1) (((es ++ []) ++ e2) ++ []) := q2.gg ((r35 (x := (0, 0, N)) (q := (0, 0, 0, k, (tkS S i).1)) hS).ml [36])
  rw [List.append_nil, List.append_nil] at q3
  exact q3
theorem TR9.on {N : Int} (hS : SB S) (h : TR9 S i N es) (hk : ckd (tkS S i) ≠ 264) (hd : HR9 S i i2 k e2) (gb : GR S [28] i2 0 0 u0 [] i3 0 0 u0 m e3) : TR9 S i3 (0 + m + 1) (es ++ e2 ++ e3 ++ [(0, (tkS S i).1, 0 + m + 1, 0)]) := by
  have q1 : GCS S [36] 0 (0, 0, 0) (qq 0) [51, 34, 36] i3 (0, 0, 0 + m) (0, 0, 0, 0, (tkS S i).1) (es ++ e2 ++ e3) := (h.inn hS hk hd).gg ((gb 0 0 (tkS S i).1).ml [51, 34, 36])
  have q2 : GCS S [36] 0 (0, 0, 0) (qq 0) [34, 36] i3 (0, 0, 0 + m + 1) (0, 0, 0, 0, (tkS S i).1) (es ++ e2 ++ e3 ++ []) := q1.gg ((x51 (S := S) (j := i3) (e := 0) (b := 0) (u := u0) hS (0 + m) 0 (tkS S i).1).ml [34, 36])
  rw [List.append_nil] at q2
  exact q2.gg ((r34 (x := (0, 0, 0 + m + 1)) (q := (0, 0, 0, 0, (tkS S i).1)) hS).ml [36])
theorem TR9.fh {N p : Int} (hS : SB S) (h : TR9 S i N es) (hk : ckd (tkS S i) ≠ 264) (hd : HF9 S i p) : GCF S [36] 0 (0, 0, 0) (qq 0) p := (GCS.gg h (r36n hS hk)).fl ((hd N).ml [36])
theorem TR9.fb {N p : Int} (hS : SB S) (h : TR9 S i N es) (hk : ckd (tkS S i) ≠ 264) (hd : HR9 S i i2 k e2) (gb : GRF S [28] i2 0 0 u0 p) : GCF S [36] 0 (0, 0, 0) (qq 0) p := (h.inn hS hk hd).fl ((gb 0 0 (tkS S i).1).ml [51, 34, 36])
end PRS
def HQ9 (σ : MS) (a : Nat) (S : Int → Int) (n j : Nat) (c : CS) (v : Int) : Prop := (v = 1 → ∃ (i : Nat) (es : List EW) (k : Int), (j : Int) + 3 ≤ i ∧ HR9 S j i k es ∧ RDX σ a S n i (es.foldl uC c) 0 ∧ (es.foldl uC c).rn = c.rn + 1) ∧ (v = 0 → ∃ p, HF9 S j p ∧ FLC σ a p)
def c00 : CS := CS.mk (0, -1) 0 (fun _ => 0) (fun _ => 0) 0 (fun _ => 0) (fun _ => 0) (fun _ => 0) 0 (fun _ => 0) 0
def TLI (σ : MS) (a : Nat) (S : Int → Int) (n : Nat) (k : Int) : Prop := ∃ (i : Nat) (es : List EW) (N : Int), k ≤ (i : Int) ∧ TR9 S i N es ∧ RD0 σ a S n i (es.foldl uC c00) ∧ 5 * (es.foldl uC c00).rn ≤ (i : Int) ∧ (es.foldl uC c00).m ≤ (i : Int)
def TLX (σ : MS) (a : Nat) (S : Int → Int) (n : Nat) : Prop := ∃ (i : Nat) (es : List EW) (N : Int), TR9 S i N es ∧ RD0 σ a S n i (es.foldl uC c00) ∧ ckd (tkS S i) = 264
def TLF (σ : MS) (a : Nat) (S : Int → Int) : Prop := ∃ p, GCF S [36] 0 (0, 0, 0) (qq 0) p ∧ FLC σ a p
def SQ9 (σ : MS) (a : Nat) (c : CS) (v : Int) : Prop := (σ.2.1 43 a, σ.2.1 44 a) = cnts (cSs c c.cn.toNat) c.fp ∧ σ.2.1 38 a = c.rn ∧ (v = 1 → σ.2.1 43 a = 0) ∧ (v = 0 → σ.2.1 43 a ≠ 0)
def TO9 (σ : MS) (a : Nat) (S : Int → Int) (v : Int) : Prop := (v = 0 ∧ ∃ es p, RE S ([36], advT S 0, (0, 0, 0), qq 0, []) (es ++ [(9, p, 0, 0)]) pF ∧ FLC σ a p) ∨ ∃ es t x q ρ, RE S ([36], advT S 0, (0, 0, 0), qq 0, []) es ([], t, x, q, ρ) ∧ SQ9 σ a (es.foldl uC c00) v
theorem TLF.to {σ : MS} {a : Nat} {S : Int → Int} {v : Int} (h : TLF σ a S) (hv : v = 0) : TO9 σ a S v := by
  obtain ⟨p, ⟨es, g⟩, f⟩ := h
  exact Or.inl ⟨hv, es, p, g (advT S 0) TEQ.rf [] [], f⟩
theorem TO9.ok {σ : MS} {a i : Nat} {S : Int → Int} {v N : Int} {es : List EW} (hS : SB S) (h : TR9 S i N es) (hk : ckd (tkS S i) = 264) (q : SQ9 σ a (es.foldl uC c00) v) : TO9 σ a S v := by
  have g : GCS S [36] 0 (0, 0, 0) (qq 0) [] i (0, 0, N) (qq 0) (es ++ []) := GCS.gg h (r36y hS hk)
  rw [List.append_nil] at g
  obtain ⟨t, l, -, w⟩ := g (advT S 0) TEQ.rf
  exact Or.inr ⟨es, t, _, _, _, w [] [], q⟩
theorem uC2_rn {c : CS} {p : Int} {w : Int64} : (uC c (2, p, 0, w)).rn = c.rn + 1 := by rw [uC2]; rfl
section STC
variable {T : CT} {σ : MS} {a : Nat} {c : CS} {k v i : Int}
theorem st_no (q : ROQ σ a k v) (h : CS0 σ a c) (hw : WT T σ) (ha : OB T a 5) (hk : KW k (c.ck i)) (hv : v = -1) : cS c i = [(c.cp i, 3)] := by
  have f := ROQ.fd q h hw ha hk
  unfold cS
  rw [ifP_f (fun z => by obtain ⟨y, y0, y1, y2, -⟩ := z; exact f.mpr ⟨y, y0, y1, y2⟩ hv)]
theorem st_at (q : ROQ σ a k v) (h : CS0 σ a c) (hw : WT T σ) (ha : OB T a 5) (hk : KW k (c.ck i)) (hv : v ≠ -1) : 0 ≤ v ∧ v < c.rn ∧ c.rk v = c.ck i ∧ ∀ j, 0 ≤ j → j < v → c.rk j ≠ c.ck i := by
  obtain ⟨x, hx, -⟩ := wf_36 hw ha
  have b := wf_38 hw ha
  have e := h.1.2.2.1
  rcases q with ⟨q1, q2⟩ | ⟨q1, q2⟩
  · exact absurd q1 hv
  · obtain ⟨⟨r1, r2⟩, r3⟩ := q1
    rw [e] at r2 b
    have g := h.2.1 x hx v r1 r2
    rw [r3 x hx] at g
    refine ⟨r1, r2, (KW.eq g hk).mp rfl, fun j j0 j1 z => ?_⟩
    exact q2 x hx j j0 j1 (by omega) ((KW.eq (h.2.1 x hx j j0 (by omega)) hk).mpr z)
theorem st_uq {f : Int → Int64} {w : Int64} {x y : Int} (h : 0 ≤ x ∧ f x = w ∧ ∀ j, 0 ≤ j → j < x → f j ≠ w) (g : 0 ≤ y ∧ f y = w ∧ ∀ j, 0 ≤ j → j < y → f j ≠ w) : x = y := by
  by_cases a : x < y
  · exact absurd h.2.1 (g.2.2 x h.1 a)
  · by_cases b : y < x
    · exact absurd g.2.1 (h.2.2 y g.1 b)
    · omega
theorem st_eq (q : ROQ σ a k v) (h : CS0 σ a c) (hw : WT T σ) (ha : OB T a 5) (hk : KW k (c.ck i)) (hv : v ≠ -1) (e : c.rp v = c.cc i) : cS c i = [] := by
  have s := st_at q h hw ha hk hv
  unfold cS
  rw [ifP_t ⟨v, s⟩, ifP_f (fun z => by
    obtain ⟨y, ⟨y0, y1, y2, y3⟩, y4⟩ := z
    have u := st_uq ⟨y0, y2, y3⟩ ⟨s.1, s.2.2.1, s.2.2.2⟩
    rw [u] at y4
    exact y4 e)]
theorem st_ne (q : ROQ σ a k v) (h : CS0 σ a c) (hw : WT T σ) (ha : OB T a 5) (hk : KW k (c.ck i)) (hv : v ≠ -1) (e : c.rp v ≠ c.cc i) : cS c i = [(c.cp i, 4)] := by
  have s := st_at q h hw ha hk hv
  unfold cS
  rw [ifP_t ⟨v, s⟩, ifP_t ⟨v, s, e⟩]
theorem cSs_s (c : CS) {i : Int} (h : 0 ≤ i) (fp : FP) : cnts (cSs c (i + 1).toNat) fp = cnts (cS c i) (cnts (cSs c i.toNat) fp) := by
  rw [show (i + 1).toNat = i.toNat + 1 by omega]
  show cnts (cSs c i.toNat ++ cS c (i.toNat : Int)) fp = _
  rw [cnts_app, show ((i.toNat : Nat) : Int) = i by omega]
theorem RD0.qc {n j : Nat} {c2 : CS} {S : Int → Int} (h : RD0 σ a S n j c) (e : c = c2) : RD0 σ a S n j c2 := by rw [← e]; exact h
end STC
end
section
def sgL : List Int := [40, 41, 123, 125, 44, 59, 61, 60, 43, 45, 42]
def SGI (one i1 : Int) : Prop := ∀ j : Nat, (j : Int) < i1 → iI one ≠ sgB.getD j 0
def SGQ (one v : Int) : Prop := (v = 1 → one ∈ sgL) ∧ (v = 0 → one ∉ sgL)
theorem sgB_iff {z : Int} (h : -2147483648 ≤ z ∧ z ≤ 2147483647) : z ∈ sgL ↔ ∃ j : Nat, j < 11 ∧ iI z = sgB.getD j 0 := by
  have f : ∀ c : Int, (-2147483648 ≤ c ∧ c ≤ 2147483647) → (iI z = iI c ↔ z = c) := fun c hc => iI_eq h hc
  constructor
  · intro q
    simp only [sgL, List.mem_cons, List.not_mem_nil, or_false] at q
    rcases q with q | q | q | q | q | q | q | q | q | q | q
    · exact ⟨0, by decide, by rw [q]; rfl⟩
    · exact ⟨1, by decide, by rw [q]; rfl⟩
    · exact ⟨2, by decide, by rw [q]; rfl⟩
    · exact ⟨3, by decide, by rw [q]; rfl⟩
    · exact ⟨4, by decide, by rw [q]; rfl⟩
    · exact ⟨5, by decide, by rw [q]; rfl⟩
    · exact ⟨6, by decide, by rw [q]; rfl⟩
    · exact ⟨7, by decide, by rw [q]; rfl⟩
    · exact ⟨8, by decide, by rw [q]; rfl⟩
    · exact ⟨9, by decide, by rw [q]; rfl⟩
    · exact ⟨10, by decide, by rw [q]; rfl⟩
  · rintro ⟨j, hj, e⟩
    simp only [sgL, List.mem_cons, List.not_mem_nil, or_false]
    have : j = 0 ∨ j = 1 ∨ j = 2 ∨ j = 3 ∨ j = 4 ∨ j = 5 ∨ j = 6 ∨ j = 7 ∨ j = 8 ∨ j = 9 ∨ j = 10 := by omega
    rcases this with q | q | q | q | q | q | q | q | q | q | q <;> subst q
    · have := (f 40 (by decide)).mp e; omega
    · have := (f 41 (by decide)).mp e; omega
    · have := (f 123 (by decide)).mp e; omega
    · have := (f 125 (by decide)).mp e; omega
    · have := (f 44 (by decide)).mp e; omega
    · have := (f 59 (by decide)).mp e; omega
    · have := (f 61 (by decide)).mp e; omega
    · have := (f 60 (by decide)).mp e; omega
    · have := (f 43 (by decide)).mp e; omega
    · have := (f 45 (by decide)).mp e; omega
    · have := (f 42 (by decide)).mp e; omega
theorem SGI.no {z i1 : Int} (h : SGI z i1) (hi : 11 ≤ i1) (hz : -2147483648 ≤ z ∧ z ≤ 2147483647) : z ∉ sgL := fun q => by
  obtain ⟨j, hj, e⟩ := (sgB_iff hz).mp q
  exact h j (by omega) e
theorem SGI.up {z i1 v : Int} (h : SGI z i1) (h0 : 0 ≤ i1) (hv : inR v ∧ iI v = sgB.getD i1.toNat 0) (hz : -2147483648 ≤ z ∧ z ≤ 2147483647) (hn : ¬ v = z) : SGI z (i1 + 1) := fun j hj => by
  by_cases e : (j : Int) = i1
  · have e2 : j = i1.toNat := by omega
    rw [e2, ← hv.2]
    exact fun q => hn ((iI_eq hz hv.1).mp q).symm
  · exact h j (by omega)
theorem sgZ_fin : ∀ n : Fin 256, (sgZ ((n : Nat) : Int) < 0 ↔ ((n : Nat) : Int) ∉ sgL) := by decide +kernel
theorem sgZ_iff {z : Int} (h : 0 ≤ z ∧ z ≤ 255) : sgZ z < 0 ↔ z ∉ sgL := by
  have q := sgZ_fin ⟨z.toNat, by omega⟩
  have e : ((z.toNat : Nat) : Int) = z := by omega
  rw [show (((⟨z.toNat, by omega⟩ : Fin 256) : Nat) : Int) = z from e] at q
  exact q
def wkF (x : Int) : Int := if x = 16052 then 258 else if x = 609900110 then 259 else if x = 294 then 260 else if x = 176741 then 261 else if x = 24388997 then 262 else 256
def WKI (x i1 : Int) : Prop := ∀ j : Nat, (j : Int) < i1 → iI x ≠ wkI.getD j 0
theorem WKI.up {x i1 v : Int} (h : WKI x i1) (h0 : 0 ≤ i1) (hv : inR v ∧ iI v = wkI.getD i1.toNat 0) (hz : -2147483648 ≤ x ∧ x ≤ 2147483647) (hn : ¬ v = x) : WKI x (i1 + 1) := fun j hj => by
  by_cases e : (j : Int) = i1
  · have e2 : j = i1.toNat := by omega
    rw [e2, ← hv.2]
    exact fun q => hn ((iI_eq hz hv.1).mp q).symm
  · exact h j (by omega)
theorem wk_at {x c : Int} {j : Nat} (hx : -2147483648 ≤ x ∧ x ≤ 2147483647) (hc : -2147483648 ≤ c ∧ c ≤ 2147483647) (e : wkI.getD j 0 = iI c) : iI x = wkI.getD j 0 ↔ x = c := by rw [e]; exact iI_eq hx hc
theorem WKI.yes {x i1 v : Int} (h : WKI x i1) (h0 : 0 ≤ i1 ∧ i1 < 5) (hv : inR v ∧ iI v = wkI.getD i1.toNat 0) (hx : -2147483648 ≤ x ∧ x ≤ 2147483647) (he : v = x) : 258 + i1 = wkF x := by
  rw [he] at hv
  have a0 := wk_at (x := x) (c := 16052) (j := 0) hx (by decide) rfl
  have a1 := wk_at (x := x) (c := 609900110) (j := 1) hx (by decide) rfl
  have a2 := wk_at (x := x) (c := 294) (j := 2) hx (by decide) rfl
  have a3 := wk_at (x := x) (c := 176741) (j := 3) hx (by decide) rfl
  have a4 := wk_at (x := x) (c := 24388997) (j := 4) hx (by decide) rfl
  have hh : i1 = 0 ∨ i1 = 1 ∨ i1 = 2 ∨ i1 = 3 ∨ i1 = 4 := by omega
  have q := hv.2
  unfold wkF
  rcases hh with r | r | r | r | r <;> subst r
  · have := a0.mp q; rw [if_pos this]; rfl
  · have := a1.mp q; rw [this]; rfl
  · have := a2.mp q; rw [this]; rfl
  · have := a3.mp q; rw [this]; rfl
  · have := a4.mp q; rw [this]; rfl
theorem WKI.no {x i1 : Int} (h : WKI x i1) (h5 : 5 ≤ i1) (hx : -2147483648 ≤ x ∧ x ≤ 2147483647) : 256 = wkF x := by
  have a0 := wk_at (x := x) (c := 16052) (j := 0) hx (by decide) rfl
  have a1 := wk_at (x := x) (c := 609900110) (j := 1) hx (by decide) rfl
  have a2 := wk_at (x := x) (c := 294) (j := 2) hx (by decide) rfl
  have a3 := wk_at (x := x) (c := 176741) (j := 3) hx (by decide) rfl
  have a4 := wk_at (x := x) (c := 24388997) (j := 4) hx (by decide) rfl
  unfold wkF
  rw [if_neg (fun q => h 0 (by omega) (a0.mpr q)), if_neg (fun q => h 1 (by omega) (a1.mpr q)), if_neg (fun q => h 2 (by omega) (a2.mpr q)), if_neg (fun q => h 3 (by omega) (a3.mpr q)), if_neg (fun q => h 4 (by omega) (a4.mpr q))]
theorem wkF_ck {l : List Int} {p q v : Int} (hl : LTR l) (h6 : l.length ≤ 6) : wkF (k5 l) = ckd (p, q, 2, v, Int64.ofInt (w8 l)) := by
  unfold wkF ckd
  simp only
  rw [if_neg (show ¬ (2 : Int) = 0 by decide), if_neg (show ¬ (2 : Int) = 1 by decide), if_neg (show ¬ (2 : Int) = 3 by decide), if_neg (show ¬ (2 : Int) = 4 by decide)]
  have b0 := wk_out hl h6
  have b1 := wk_ret hl h6
  have b2 := wk_if hl h6
  have b3 := wk_els hl h6
  have b4 := wk_whi hl h6
  by_cases c0 : k5 l = 16052
  · rw [if_pos c0, if_pos (b0.mp c0)]
  rw [if_neg c0, if_neg (fun z => c0 (b0.mpr z))]
  by_cases c1 : k5 l = 609900110
  · rw [if_pos c1, if_pos (b1.mp c1)]
  rw [if_neg c1, if_neg (fun z => c1 (b1.mpr z))]
  by_cases c2 : k5 l = 294
  · rw [if_pos c2, if_pos (b2.mp c2)]
  rw [if_neg c2, if_neg (fun z => c2 (b2.mpr z))]
  by_cases c3 : k5 l = 176741
  · rw [if_pos c3, if_pos (b3.mp c3)]
  rw [if_neg c3, if_neg (fun z => c3 (b3.mpr z))]
  by_cases c4 : k5 l = 24388997
  · rw [if_pos c4, if_pos (b4.mp c4)]
  rw [if_neg c4, if_neg (fun z => c4 (b4.mpr z))]
def svC (f : Int → Int) (n : Int) : Int → Int := fun k => if k < n then (if f k < 0 then f k + 256 else f k) else -1
def BYT (f : Int → Int) : Prop := ∀ k, -128 ≤ f k ∧ f k ≤ 127
theorem svC_sb {f : Int → Int} {n : Int} (h : BYT f) : SB (svC f n) := fun k => by
  have q := h k
  unfold svC
  by_cases a : k < n
  · rw [if_pos a]
    by_cases b : f k < 0
    · rw [if_pos b]; omega
    · rw [if_neg b]; omega
  · rw [if_neg a]; omega
theorem svC_in {f : Int → Int} {n k : Int} (a : k < n) : svC f n k = if f k < 0 then f k + 256 else f k := by unfold svC; rw [if_pos a]
theorem svC_out {f : Int → Int} {n k : Int} (a : n ≤ k) : svC f n k = -1 := by unfold svC; rw [if_neg (by omega)]
theorem svC_sen {f : Int → Int} {n : Int} (h : n ≤ 1300) : SEN (svC f n) := fun k hk => by rw [svC_out (by omega)]; decide
theorem svC_eq {f : Int → Int} {n k lo hi : Int} (h : BYT f) (a : k < n) (h0 : 0 ≤ lo) (h1 : hi ≤ 127) : (lo ≤ svC f n k ∧ svC f n k ≤ hi) ↔ (lo ≤ f k ∧ f k ≤ hi) := by
  have q := h k
  rw [svC_in a]
  by_cases b : f k < 0
  · rw [if_pos b]; omega
  · rw [if_neg b]
def RWE (σ : MS) (x : Nat) (f : Int → Int) (n : Int) : Prop := ∀ k, 0 ≤ k → k < n → σ.2.1 (1000 + x) k = f k
theorem RWE.cg {σ τ : MS} {x : Nat} {f : Int → Int} {n : Int} (h : RWE σ x f n) (e : τ.2.1 (1000 + x) = σ.2.1 (1000 + x)) : RWE τ x f n := fun k a b => by rw [e]; exact h k a b
def LTN (S : Int → Int) (p e : Int) : Prop := ∀ j : Nat, (j : Int) < e - p → 97 ≤ S (p + j) ∧ S (p + j) ≤ 122
def DGN (S : Int → Int) (p e : Int) : Prop := ∀ j : Nat, (j : Int) < e - p → 48 ≤ S (p + j) ∧ S (p + j) ≤ 57
theorem LTN.up {S : Int → Int} {p e : Int} (h : LTN S p e) (hp : p ≤ e) (q : 97 ≤ S e ∧ S e ≤ 122) : LTN S p (e + 1) := fun j hj => by
  by_cases z : (j : Int) = e - p
  · rw [show p + (j : Int) = e by omega]; exact q
  · exact h j (by omega)
theorem DGN.up {S : Int → Int} {p e : Int} (h : DGN S p e) (hp : p ≤ e) (q : 48 ≤ S e ∧ S e ≤ 57) : DGN S p (e + 1) := fun j hj => by
  by_cases z : (j : Int) = e - p
  · rw [show p + (j : Int) = e by omega]; exact q
  · exact h j (by omega)
def NUM9 (S : Int → Int) (p e x : Int) : Prop := e - p ≤ 6 → x = k5 (lts S p (e - p).toNat)
theorem NUM9.up {S : Int → Int} {p e x : Int} (h : NUM9 S p e x) (hl : LTN S p e) (hp : p ≤ e) (q : 97 ≤ S e ∧ S e ≤ 122) : NUM9 S p (e + 1) (sh5 x (S e - 96)) := fun z => by
  have w := h (by omega)
  have e1 : (e + 1 - p).toNat = (e - p).toNat + 1 := by omega
  rw [e1]
  show _ = 32 * k5 (lts S p (e - p).toNat) + (S (p + ((e - p).toNat : Nat)) - 96)
  rw [show p + (((e - p).toNat : Nat) : Int) = e by omega, ← w]
  have ll : LTR (lts S p (e - p).toNat) := lts_ltr _ (fun j hj => hl j (by omega))
  have b0 := k5_0 _ ll
  have b1 := k5_b 5 _ ll (by rw [lts_len]; omega)
  rw [show (32 : Int) ^ 5 = 33554432 by decide] at b1
  exact sh5_eq (by omega) (by omega) (by omega)
def SOQ (S : Int → Int) (i v kd num : Int) : Prop := v = (advP S i).2.1 ∧ kd = ckd (advP S i) ∧ NKY (advP S i) num
theorem so_let {S : Int → Int} {p e x : Int} (hp : p < e) (he : e ≤ 1300) (hl : LTN S p e) (hx : NUM9 S p e x) (hn : ¬ (97 ≤ S e ∧ S e ≤ 122)) : (e - p ≤ 6 → SOQ S p e (wkF x) x) ∧ (6 < e - p → SOQ S p e 263 x) := by
  obtain ⟨n, hnn⟩ : ∃ n : Nat, e = p + (n : Int) := ⟨(e - p).toNat, by omega⟩
  have l0 : 97 ≤ S p ∧ S p ≤ 122 := by have := hl 0 (by omega); rw [show p + ((0 : Nat) : Int) = p by omega] at this; exact this
  have hl2 : ∀ j : Nat, j < n → 97 ≤ S (p + j) ∧ S (p + j) ≤ 122 := fun j hj => hl j (by omega)
  have hc := ltp_cnt n (p := p) (c := 0) (w := 0) (by omega) hl2 (by rw [← hnn]; exact hn)
  have hA : advP S p = (p, (ltp S p 0 0).1, if 6 < (ltp S p 0 0).2.2 then 1 else 2, S p, (ltp S p 0 0).2.1) := by
    unfold advP
    rw [if_neg (by omega), if_pos l0]
  constructor
  · intro z
    have hr := ltp_run n (by omega) (by omega) hl2
    have hr2 := hr.trans (ltp_e (s := S) (n := p + (n : Int)) (by rw [← hnn]; exact hn))
    clear hr
    have hr := hr2
    rw [hr] at hA
    have e2 : advP S p = (p, p + (n : Int), 2, S p, Int64.ofInt (w8 (lts S p n))) := by
      rw [hA]
      show (p, p + (n : Int), (if 6 < (n : Int) then (1 : Int) else 2), S p, Int64.ofInt (w8 (lts S p n))) = _
      rw [if_neg (by omega)]
    have w := hx z
    rw [show (e - p).toNat = n by omega] at w
    have ll := lts_ltr n hl2
    have l6 : (lts S p n).length ≤ 6 := by rw [lts_len]; omega
    refine ⟨by rw [e2]; exact hnn, ?_, fun _ => ?_, fun q => by rw [e2] at q; exact absurd q (by show ¬ (2 : Int) = 3; decide)⟩
    · rw [e2, w]; exact wkF_ck ll l6
    · rw [e2]; exact ⟨_, ll, l6, w, rfl⟩
  · intro z
    have e2 : (advP S p).2.2.1 = 1 := by
      rw [hA]
      show (if 6 < (ltp S p 0 0).2.2 then (1 : Int) else 2) = 1
      rw [if_pos (by omega)]
    refine ⟨by rw [hA]; show e = (ltp S p 0 0).1; omega, ?_, fun q => by rw [e2] at q; exact absurd q (by decide), fun q => by rw [e2] at q; exact absurd q (by decide)⟩
    unfold ckd
    rw [e2, if_neg (by decide), if_pos rfl]
def DVQ (S : Int → Int) (p e v : Int) : Prop := e - p ≤ 7 → dgp S p 0 0 = dgp S e v (e - p) ∧ 0 ≤ v ∧ (v + 1) * 10 ^ (7 - (e - p)).toNat ≤ 10000000
theorem iw_id {z : Int} (h0 : -2147483648 ≤ z) (h1 : z ≤ 2147483647) : iw z = z := Int32.toInt_ofInt_of_le (by simpa using h0) (by have : z < 2147483648 := by omega
                                                                                                                                   simpa using this)
theorem DVQ.nl {S : Int → Int} {p v : Int} (h : v = 0) : DVQ S p p v := fun _ => by
  subst h
  rw [show p - p = 0 by omega]
  exact ⟨rfl, by decide, by decide⟩
theorem DVQ.up {S : Int → Int} {p e v : Int} (h : DVQ S p e v) (hp : p ≤ e) (he : e < 1300) (q : 48 ≤ S e ∧ S e ≤ 57) : DVQ S p (e + 1) (iw (iw (v * 10) + (S e - 48))) := fun z => by
  obtain ⟨h1, h2, h3⟩ := h (by omega)
  have x1 : (7 - (e - p)).toNat = (7 - (e + 1 - p)).toNat + 1 := by omega
  rw [x1, Int.pow_succ] at h3
  generalize hX : (10 : Int) ^ (7 - (e + 1 - p)).toNat = X at h3 ⊢
  have X1 : 1 ≤ X := by
    rw [← hX]
    exact Int.pow_pos (by decide)
  have v1 : (v + 1) * 10 ≤ 10000000 := by
    have a : (v + 1) * (1 * 10) ≤ (v + 1) * (X * 10) := Int.mul_le_mul_of_nonneg_left (by omega) (by omega)
    rw [Int.one_mul] at a
    omega
  rw [iw_id (z := v * 10) (by omega) (by omega), iw_id (by omega) (by omega)]
  refine ⟨?_, by omega, ?_⟩
  · rw [h1, dgp_s he q]
    unfold dgv
    rw [if_pos (by omega), show 10 * v + S e - 48 = v * 10 + (S e - 48) by omega, show e - p + 1 = e + 1 - p by omega]
  · have a : (v * 10 + (S e - 48) + 1) * X ≤ ((v + 1) * 10) * X := Int.mul_le_mul_of_nonneg_right (by omega) (by omega)
    rw [Int.mul_assoc, Int.mul_comm 10 X] at a
    omega
theorem so_dig {S : Int → Int} {p e x : Int} (hp : p < e) (he : e ≤ 1300) (hl : DGN S p e) (hv : DVQ S p e x) (hn : ¬ (48 ≤ S e ∧ S e ≤ 57)) : (e - p ≤ 7 → SOQ S p e 257 x) ∧ (7 < e - p → SOQ S p e 263 x) := by
  obtain ⟨n, hnn⟩ : ∃ n : Nat, e = p + (n : Int) := ⟨(e - p).toNat, by omega⟩
  have l0 : 48 ≤ S p ∧ S p ≤ 57 := by have := hl 0 (by omega); rw [show p + ((0 : Nat) : Int) = p by omega] at this; exact this
  have hl2 : ∀ j : Nat, j < n → 48 ≤ S (p + j) ∧ S (p + j) ≤ 57 := fun j hj => hl j (by omega)
  have hc := dgp_cnt n (p := p) (c := 0) (v := 0) (by omega) hl2 (by rw [← hnn]; exact hn)
  have hA : advP S p = (p, (dgp S p 0 0).1, if 7 < (dgp S p 0 0).2.2 then 1 else 3, (dgp S p 0 0).2.1, 0) := by
    unfold advP
    rw [if_neg (by omega), if_neg (by omega), if_pos l0]
  constructor
  · intro z
    have e2 : (advP S p).2.2.1 = 3 := by
      rw [hA]
      show (if 7 < (dgp S p 0 0).2.2 then (1 : Int) else 3) = 3
      rw [if_neg (by omega)]
    refine ⟨by rw [hA]; show e = (dgp S p 0 0).1; omega, ?_, fun q => by rw [e2] at q; exact absurd q (by decide), fun _ => by rw [hA]; show x = (dgp S p 0 0).2.1; rw [(hv z).1, dgp_e hn]⟩
    unfold ckd
    rw [e2, if_neg (by decide), if_neg (by decide), if_pos rfl]
  · intro z
    have e2 : (advP S p).2.2.1 = 1 := by
      rw [hA]
      show (if 7 < (dgp S p 0 0).2.2 then (1 : Int) else 3) = 1
      rw [if_pos (by omega)]
    refine ⟨by rw [hA]; show e = (dgp S p 0 0).1; omega, ?_, fun q => by rw [e2] at q; exact absurd q (by decide), fun q => by rw [e2] at q; exact absurd q (by decide)⟩
    unfold ckd
    rw [e2, if_neg (by decide), if_pos rfl]
theorem so_sgn {S : Int → Int} {p x : Int} (h0 : 0 ≤ S p ∧ S p ≤ 255) (hl : ¬ (97 ≤ S p ∧ S p ≤ 122)) (hd : ¬ (48 ≤ S p ∧ S p ≤ 57)) : (S p ∈ sgL → SOQ S p (p + 1) (S p) x) ∧ (S p ∉ sgL → SOQ S p (p + 1) 263 x) := by
  have hA : advP S p = (p, p + 1, if sgZ (S p) < 0 then 1 else 4, S p, 0) := by
    unfold advP
    rw [if_neg (by omega), if_neg hl, if_neg hd]
  have hz := sgZ_iff h0
  constructor
  · intro q
    rw [if_neg (fun z => hz.mp z q)] at hA
    refine ⟨by rw [hA], ?_, fun w => by rw [hA] at w; exact absurd w (by show ¬ (4 : Int) = 2; decide), fun w => by rw [hA] at w; exact absurd w (by show ¬ (4 : Int) = 3; decide)⟩
    rw [hA]; rfl
  · intro q
    rw [if_pos (hz.mpr q)] at hA
    refine ⟨by rw [hA], ?_, fun w => by rw [hA] at w; exact absurd w (by show ¬ (1 : Int) = 2; decide), fun w => by rw [hA] at w; exact absurd w (by show ¬ (1 : Int) = 3; decide)⟩
    rw [hA]; rfl
def TRN (σ : MS) (t : Nat) (S : Int → Int) (n : Int) : Prop := ∀ k u p : Nat, σ.2.1 81 t = (k : Int) → σ.2.1 82 t = (u : Int) → σ.2.1 83 t = (p : Int) → ∀ i : Nat, (i : Int) < n → σ.2.1 (1000 + k) i = ckd (tkS S i) ∧ NKY (tkS S i) (σ.2.1 (1000 + u) i) ∧ σ.2.1 (1000 + p) i = (tkS S i).1
def SCI (σ : MS) (t : Nat) (S : Int → Int) (n i : Int) : Prop := TRN σ t S n ∧ ((σ.2.1 85 t ≠ 263 ∧ advT S i = tkS S n.toNat ∧ ∀ j : Nat, (j : Int) < n → ckd (tkS S j) ≠ 263 ∧ ckd (tkS S j) ≠ 264) ∨ (σ.2.1 85 t = 263 ∧ 1 ≤ n ∧ TEN S (n - 1).toNat))
def KPQ (σ τ : MS) (t : Nat) (n kd num pl : Int) : Prop := (∀ k : Nat, σ.2.1 81 t = (k : Int) → ∀ i, τ.2.1 (1000 + k) i = if i = n then kd else σ.2.1 (1000 + k) i) ∧ (∀ k : Nat, σ.2.1 82 t = (k : Int) → ∀ i, τ.2.1 (1000 + k) i = if i = n then num else σ.2.1 (1000 + k) i) ∧ (∀ k : Nat, σ.2.1 83 t = (k : Int) → ∀ i, τ.2.1 (1000 + k) i = if i = n then pl else σ.2.1 (1000 + k) i)
section SCS
variable {σ τ : MS} {t : Nat} {S : Int → Int} {n i v kd num : Int}
theorem SCI.bl (h : SCI σ t S n i) (hk : σ.2.1 85 t ≠ 263) (hb : S i = 10 ∨ S i = 32) (hi : i < 1300) : SCI σ t S n (i + 1) := by
  refine ⟨h.1, ?_⟩
  rcases h.2 with q | q
  · refine Or.inl ⟨q.1, ?_, q.2.2⟩
    rw [← q.2.1]
    unfold advT
    rw [wsp_s hi hb]
  · exact absurd q.1 hk
theorem advP_ne0 {p : Int} (h : 0 ≤ S p) : (advP S p).2.2.1 ≠ 0 := by
  unfold advP
  rw [if_neg (by omega)]
  by_cases c1 : 97 ≤ S p ∧ S p ≤ 122
  · rw [if_pos c1]
    by_cases z : 6 < (ltp S p 0 0).2.2
    · show (if 6 < (ltp S p 0 0).2.2 then (1 : Int) else 2) ≠ 0
      rw [if_pos z]; decide
    · show (if 6 < (ltp S p 0 0).2.2 then (1 : Int) else 2) ≠ 0
      rw [if_neg z]; decide
  rw [if_neg c1]
  by_cases c2 : 48 ≤ S p ∧ S p ≤ 57
  · rw [if_pos c2]
    by_cases z : 7 < (dgp S p 0 0).2.2
    · show (if 7 < (dgp S p 0 0).2.2 then (1 : Int) else 3) ≠ 0
      rw [if_pos z]; decide
    · show (if 7 < (dgp S p 0 0).2.2 then (1 : Int) else 3) ≠ 0
      rw [if_neg z]; decide
  rw [if_neg c2]
  by_cases z : sgZ (S p) < 0
  · show (if sgZ (S p) < 0 then (1 : Int) else 4) ≠ 0
    rw [if_pos z]; decide
  · show (if sgZ (S p) < 0 then (1 : Int) else 4) ≠ 0
    rw [if_neg z]; decide
theorem TRN.up (h : TRN σ t S n) (h0 : 0 ≤ n) (hf : ∀ k ∈ [81, 82, 83], τ.2.1 k = σ.2.1 k) (hr : KPQ σ τ t n kd num i) (e1 : kd = ckd (tkS S n.toNat)) (e2 : NKY (tkS S n.toNat) num) (e3 : i = (tkS S n.toNat).1) : TRN τ t S (n + 1) := fun k u p hk hu hp j hj => by
  rw [hf 81 (by decide)] at hk
  rw [hf 82 (by decide)] at hu
  rw [hf 83 (by decide)] at hp
  rw [hr.1 k hk j, hr.2.1 u hu j, hr.2.2 p hp j]
  by_cases z : (j : Int) = n
  · have ej : n.toNat = j := by omega
    rw [if_pos z, if_pos z, if_pos z]
    rw [ej] at e1 e2 e3
    exact ⟨e1, e2, e3⟩
  · rw [if_neg z, if_neg z, if_neg z]
    exact h k u p hk hu hp j (by omega)
theorem SCI.tk (h : SCI σ t S n i) (hS : SB S) (he : SEN S) (h0 : 0 ≤ n) (hk : σ.2.1 85 t ≠ 263) (hb : ¬ (S i = 10 ∨ S i = 32)) (hi : 0 ≤ S i) (hq : SOQ S i v kd num) (hf : ∀ k ∈ [81, 82, 83], τ.2.1 k = σ.2.1 k) (hr : KPQ σ τ t n kd num i) (h85 : τ.2.1 85 t = kd) : SCI τ t S (n + 1) v := by
  rcases h.2 with q | q
  · obtain ⟨q1, q2, q3⟩ := q
    have a1 : advT S i = advP S i := by unfold advT; rw [wsp_e hb]
    rw [a1] at q2
    obtain ⟨s1, s2, s3⟩ := hq
    rw [q2] at s1 s2 s3
    have n1 : ((n + 1).toNat) = n.toNat + 1 := by omega
    have w := advP_w he i
    rw [q2] at w
    have ne := advP_ne0 (S := S) hi
    rw [q2] at ne
    refine ⟨h.1.up h0 hf hr s2 s3 w.1.symm, ?_⟩
    by_cases z : kd = 263
    · refine Or.inr ⟨by rw [h85]; exact z, by omega, ?_⟩
      rw [show (n + 1 - 1).toNat = n.toNat by omega]
      exact ⟨fun j hj => q3 j (by omega), Or.inl (by rw [← s2]; exact z)⟩
    · refine Or.inl ⟨by rw [h85]; exact z, ?_, fun j hj => ?_⟩
      · rw [n1, s1]; rfl
      · by_cases y : (j : Int) = n
        · have ej : j = n.toNat := by omega
          rw [ej, ← s2]
          refine ⟨z, fun r => ?_⟩
          rw [s2] at r
          exact ne ((ck_end (tkS_v hS n.toNat)).mp r)
        · exact q3 j (by omega)
  · exact absurd q.1 hk
theorem TRN.tw {m : Nat} (h : TRN σ t S n) (hm : (m : Int) < n) : TRW σ t S m := fun k u p hk hu hp j hj => h k u p hk hu hp j (by omega)
theorem SCI.en {l : Int} (h : SCI σ t S n l) (h0 : 0 ≤ n) (hk : σ.2.1 85 t ≠ 263) (hl : S l < 0) (hf : ∀ k ∈ [81, 82, 83], τ.2.1 k = σ.2.1 k) (hr : KPQ σ τ t n 264 num l) : TRW τ t S n.toNat ∧ TEN S n.toNat := by
  rcases h.2 with q | q
  · obtain ⟨q1, q2, q3⟩ := q
    have a1 : advT S l = (l, l, 0, S l, 0) := by
      unfold advT
      rw [wsp_e (by omega)]
      unfold advP
      rw [if_pos hl]
    rw [a1] at q2
    have c1 : ckd (tkS S n.toNat) = 264 := by rw [← q2]; rfl
    refine ⟨(h.1.up h0 hf hr c1.symm ⟨fun z => ?_, fun z => ?_⟩ (by rw [← q2])).tw (by omega), fun j hj => q3 j (by omega), Or.inr c1⟩
    · rw [← q2] at z
      exact absurd z (by show ¬ (0 : Int) = 2; decide)
    · rw [← q2] at z
      exact absurd z (by show ¬ (0 : Int) = 3; decide)
  · exact absurd q.1 hk
theorem SCI.bd (h : SCI σ t S n i) (hk : σ.2.1 85 t = 263) : 1 ≤ n ∧ TRW σ t S (n - 1).toNat ∧ TEN S (n - 1).toNat := by
  rcases h.2 with q | q
  · exact absurd hk q.1
  · exact ⟨q.2.1, h.1.tw (by have := q.2.1; omega), q.2.2⟩
theorem TRN.cg (h : TRN σ t S n) (hf : ∀ k ∈ [81, 82, 83], τ.2.1 k = σ.2.1 k) (hr : ∀ x : Nat, (σ.2.1 81 t = (x : Int) ∨ σ.2.1 82 t = (x : Int) ∨ σ.2.1 83 t = (x : Int)) → τ.2.1 (1000 + x) = σ.2.1 (1000 + x)) : TRN τ t S n := fun k u p hk hu hp => by
  rw [hf 81 (by decide)] at hk
  rw [hf 82 (by decide)] at hu
  rw [hf 83 (by decide)] at hp
  rw [hr k (Or.inl hk), hr u (Or.inr (Or.inl hu)), hr p (Or.inr (Or.inr hp))]
  exact h k u p hk hu hp
end SCS
theorem sgL_r {z : Int} (h : z ∈ sgL) : 40 ≤ z ∧ z ≤ 125 := by
  simp only [sgL, List.mem_cons, List.not_mem_nil, or_false] at h
  omega
theorem so_sg2 {f : Int → Int} {n p x v : Int} (hB : BYT f) (hp : p < n) (hl : ¬ (97 ≤ svC f n p ∧ svC f n p ≤ 122)) (hd : ¬ (48 ≤ svC f n p ∧ svC f n p ≤ 57)) (q : SGQ (f p) v) : (v = 1 → SOQ (svC f n) p (p + 1) (f p) x) ∧ (v = 0 → SOQ (svC f n) p (p + 1) 263 x) := by
  have b := hB p
  have e := svC_in (f := f) hp
  have r : 0 ≤ svC f n p ∧ svC f n p ≤ 255 := by
    rw [e]
    by_cases z : f p < 0
    · rw [if_pos z]; omega
    · rw [if_neg z]; omega
  have s := so_sgn (x := x) r hl hd
  constructor
  · intro w
    have m := q.1 w
    have m2 := sgL_r m
    rw [if_neg (by omega)] at e
    have s1 := s.1 (by rw [e]; exact m)
    rw [e] at s1
    exact s1
  · intro w
    refine s.2 (fun m => ?_)
    have m2 := sgL_r m
    rw [e] at m m2
    by_cases z : f p < 0
    · rw [if_pos z] at m2; omega
    · rw [if_neg z] at m; exact q.2 w m
theorem sh5_r (x y : Int) : -2147483648 ≤ sh5 x y ∧ sh5 x y ≤ 2147483647 := inR_toInt _
theorem not_let {f : Int → Int} {n k : Int} {S : Int → Int} (hS : S = svC f n) (hB : BYT f) (h : n ≤ k ∨ f k < 97 ∨ 122 < f k) : ¬ (97 ≤ S k ∧ S k ≤ 122) := fun q => by
  rw [hS] at q
  by_cases z : k < n
  · have w := (svC_eq hB z (by decide) (by decide)).mp q; omega
  · rw [svC_out (by omega)] at q; omega
theorem not_dig {f : Int → Int} {n k : Int} {S : Int → Int} (hS : S = svC f n) (hB : BYT f) (h : n ≤ k ∨ f k < 48 ∨ 57 < f k) : ¬ (48 ≤ S k ∧ S k ≤ 57) := fun q => by
  rw [hS] at q
  by_cases z : k < n
  · have w := (svC_eq hB z (by decide) (by decide)).mp q; omega
  · rw [svC_out (by omega)] at q; omega
theorem is_byte {f : Int → Int} {n k : Int} {S : Int → Int} (hS : S = svC f n) (hk : k < n) (h : 0 ≤ f k) : S k = f k := by rw [hS, svC_in hk, if_neg (by omega)]
theorem not_blk {f : Int → Int} {n k : Int} {S : Int → Int} (hS : S = svC f n) (hB : BYT f) (hk : k < n) (h1 : f k ≠ 32) (h2 : f k ≠ 10) : ¬ (S k = 10 ∨ S k = 32) := fun q => by
  have b := hB k
  rw [hS, svC_in hk] at q
  by_cases z : f k < 0
  · rw [if_pos z] at q; omega
  · rw [if_neg z] at q; omega
theorem in_byte {f : Int → Int} {n k : Int} {S : Int → Int} (hS : S = svC f n) (hB : BYT f) (hk : k < n) : 0 ≤ S k := by
  have b := hB k
  rw [hS, svC_in hk]
  by_cases z : f k < 0
  · rw [if_pos z]; omega
  · rw [if_neg z]; omega
end
section
set_option maxHeartbeats 4000000 in
set_option maxRecDepth 20000 in
theorem k_X9_next_f (d : Nat) {T : CT} {σ : MS} {a : Nat} {Sx : Int → Int} {nx jx : Nat} (ha : OB T a 9) (hw : WT T σ) (hT : TKI σ a) (hq : TKT σ a Sx nx jx) (hne : σ.2.1 85 a ≠ 263 ∧ σ.2.1 85 a ≠ 264) : Tn (d + 1) m_X9_next 0 T σ [(0, .ref a)] [] (fun ro T2 σ2 => ro = none ∧ T = T2 ∧ WT T2 σ2 ∧ FrC T [84, 85, 86, 87] σ σ2 ∧ (TKI σ2 a) ∧ (σ.2.1 84 a ≤ σ2.2.1 84 a) ∧ (ADV σ σ2 a) ∧ (TKT σ2 a Sx nx (jx + 1))) := by
  have hj9 : jx ≠ nx := fun e => by
    have w9 := hq.2.2.2.2
    rw [← e] at w9
    have z9 := hq.2.1.1
    omega
  have hj8 := hq.1
  refine tn_aload_n dX9_next_0 rfl 0 rfl ?_
  refine tn_getI (ci := 9) (i := 3) (n := 84) (t := σ.2.1 84 a) dX9_next_1 rfl lay_9 (by decide) fl9_45 ha rfl rfl (rfl) ?_
  have g1 : ((-1 : Int) ≤ σ.2.1 84 a ∧ σ.2.1 84 a ≤ 1200) := wf_84 hw ha
  refine tn_iconst dX9_next_4 ?_
  refine tn_iadd dX9_next_5 ?_
  refine tn_aload_n dX9_next_6 rfl 0 rfl ?_
  obtain ⟨x2, hx3, hk4, hl5⟩ : ∃ x : Nat, σ.2.1 81 a = (x : Int) ∧ AR T x 12 1201 1201 := wf_81 hw ha
  have hk4i : IA T x2 := by unfold IA; omega
  refine tn_getR (ci := 9) (i := 0) (n := 81) (x := x2) dX9_next_7 rfl lay_9 (by decide) fl9_9 ha rfl rfl (hx3) ?_
  refine tn_alenX dX9_next_10 (Or.inl hk4i) ?_
  refine tn_icmp_ge (tgt := 118) dX9_next_11 (by decide) ⟨by omega, by omega⟩ ⟨by omega, by omega⟩ (fun h6 => ?_) (fun h6 => ?_)
  · have q7 : σ.2.1 84 a = σ.2.1 84 a := rfl
    have q8 : σ.2.1 85 a = σ.2.1 85 a := rfl
    exact tn_vret rfl dX9_next_118 ⟨rfl, rfl, hw, FrC.rfl, False.elim (by have z9 := hq.2.1.1; omega), False.elim (by have z9 := hq.2.1.1; omega), False.elim (by have z9 := hq.2.1.1; omega), False.elim (by have z9 := hq.2.1.1; omega)⟩
  · refine tn_aload_n dX9_next_14 rfl 0 rfl ?_
    refine tn_getI (ci := 9) (i := 3) (n := 84) (t := σ.2.1 84 a) dX9_next_15 rfl lay_9 (by decide) fl9_45 ha rfl rfl (rfl) ?_
    refine tn_iconst dX9_next_18 ?_
    refine tn_iadd dX9_next_19 ?_
    refine tn_aload_n dX9_next_20 rfl 0 rfl ?_
    obtain ⟨x9, hx10, hk11, hl12⟩ : ∃ x : Nat, σ.2.1 82 a = (x : Int) ∧ AR T x 22 1201 1201 := wf_82 hw ha
    have hk11i : IA T x9 := by unfold IA; omega
    refine tn_getR (ci := 9) (i := 1) (n := 82) (x := x9) dX9_next_21 rfl lay_9 (by decide) fl9_15 ha rfl rfl (hx10) ?_
    refine tn_alenX dX9_next_24 (Or.inl hk11i) ?_
    refine tn_icmp_ge (tgt := 118) dX9_next_25 (by decide) ⟨by omega, by omega⟩ ⟨by omega, by omega⟩ (fun h13 => ?_) (fun h13 => ?_)
    · have q14 : σ.2.1 84 a = σ.2.1 84 a := rfl
      have q15 : σ.2.1 85 a = σ.2.1 85 a := rfl
      exact tn_vret rfl dX9_next_118 ⟨rfl, rfl, hw, FrC.rfl, False.elim (by have z9 := hq.2.1.1; omega), False.elim (by have z9 := hq.2.1.1; omega), False.elim (by have z9 := hq.2.1.1; omega), False.elim (by have z9 := hq.2.1.1; omega)⟩
    · refine tn_aload_n dX9_next_28 rfl 0 rfl ?_
      refine tn_getI (ci := 9) (i := 3) (n := 84) (t := σ.2.1 84 a) dX9_next_29 rfl lay_9 (by decide) fl9_45 ha rfl rfl (rfl) ?_
      refine tn_iconst dX9_next_32 ?_
      refine tn_iadd dX9_next_33 ?_
      refine tn_aload_n dX9_next_34 rfl 0 rfl ?_
      obtain ⟨x16, hx17, hk18, hl19⟩ : ∃ x : Nat, σ.2.1 83 a = (x : Int) ∧ AR T x 23 1201 1201 := wf_83 hw ha
      have hk18i : IA T x16 := by unfold IA; omega
      refine tn_getR (ci := 9) (i := 2) (n := 83) (x := x16) dX9_next_35 rfl lay_9 (by decide) fl9_18 ha rfl rfl (hx17) ?_
      refine tn_alenX dX9_next_38 (Or.inl hk18i) ?_
      refine tn_icmp_ge (tgt := 118) dX9_next_39 (by decide) ⟨by omega, by omega⟩ ⟨by omega, by omega⟩ (fun h20 => ?_) (fun h20 => ?_)
      · have q21 : σ.2.1 84 a = σ.2.1 84 a := rfl
        have q22 : σ.2.1 85 a = σ.2.1 85 a := rfl
        exact tn_vret rfl dX9_next_118 ⟨rfl, rfl, hw, FrC.rfl, False.elim (by have z9 := hq.2.1.1; omega), False.elim (by have z9 := hq.2.1.1; omega), False.elim (by have z9 := hq.2.1.1; omega), False.elim (by have z9 := hq.2.1.1; omega)⟩
      · refine tn_aload_n dX9_next_42 rfl 0 rfl ?_
        refine tn_getI (ci := 9) (i := 3) (n := 84) (t := σ.2.1 84 a) dX9_next_43 rfl lay_9 (by decide) fl9_45 ha rfl rfl (rfl) ?_
        refine tn_if_lt (tgt := 69) dX9_next_46 (by decide) ⟨by omega, by omega⟩ (fun h23 => ?_) (fun h23 => ?_)
        · refine tn_aload_n dX9_next_69 rfl 0 rfl ?_
          refine tn_dup dX9_next_70 rfl ?_
          refine tn_getI (ci := 9) (i := 3) (n := 84) (t := σ.2.1 84 a) dX9_next_71 rfl lay_9 (by decide) fl9_45 ha rfl rfl (rfl) ?_
          refine tn_iconst dX9_next_74 ?_
          refine tn_iadd dX9_next_75 ?_
          refine tn_putV (ci := 9) (i := 3) (n := 84) (r := false) (v := (σ.2.1 84 a) + 1) tyX9 tyX9_ok nmX9 dX9_next_76 rfl lay_9 (by decide) fl9_45 rfl (tyX9_ok 3 (by decide)) rfl rfl rfl ha rfl rfl ?_
          refine tn_aload_n dX9_next_79 rfl 0 rfl ?_
          refine tn_aload_n dX9_next_80 rfl 0 rfl ?_
          refine tn_getR (ci := 9) (i := 0) (n := 81) (x := x2) dX9_next_81 rfl lay_9 (by decide) fl9_9 ha rfl rfl (rc_o (by decide) (hx3)) ?_
          refine tn_aload_n dX9_next_84 rfl 0 rfl ?_
          refine tn_getI (ci := 9) (i := 3) (n := 84) (t := (σ.2.1 84 a) + 1) dX9_next_85 rfl lay_9 (by decide) fl9_45 ha rfl rfl (ra_eq) ?_
          refine tn_ialdX (z := (σ.2.1 84 a) + 1) (hw.put (by decide) (by decide) (fo_84 (by omega))) dX9_next_88 hk4i (by omega) (by omega) (by omega) (fun v24 g25q g25 g25k => ?_)
          have g25u := g25k.2.2.1 hk4
          have g25Q : v24 = σ.2.1 (1000 + x2) ((σ.2.1 84 a) + 1) := by rw [g25q, sA_k (by omega)]
          clear g25k g25q
          refine tn_putV (ci := 9) (i := 4) (n := 85) (r := false) (v := v24) tyX9 tyX9_ok nmX9 dX9_next_89 rfl lay_9 (by decide) fl9_30 rfl (tyX9_ok 4 (by decide)) rfl rfl rfl ha rfl rfl ?_
          refine tn_aload_n dX9_next_92 rfl 0 rfl ?_
          refine tn_aload_n dX9_next_93 rfl 0 rfl ?_
          refine tn_getR (ci := 9) (i := 1) (n := 82) (x := x9) dX9_next_94 rfl lay_9 (by decide) fl9_15 ha rfl rfl (rc_o (by decide) (rc_o (by decide) (hx10))) ?_
          refine tn_aload_n dX9_next_97 rfl 0 rfl ?_
          refine tn_getI (ci := 9) (i := 3) (n := 84) (t := (σ.2.1 84 a) + 1) dX9_next_98 rfl lay_9 (by decide) fl9_45 ha rfl rfl (rc_o (by decide) (ra_eq)) ?_
          refine tn_ialdX (z := (σ.2.1 84 a) + 1) ((hw.put (by decide) (by decide) (fo_84 (by omega))).put (by decide) (by decide) (fo_85 (by omega))) dX9_next_101 hk11i (by omega) (by omega) (by omega) (fun v26 g27q g27 g27k => ?_)
          have g27Q : v26 = σ.2.1 (1000 + x9) ((σ.2.1 84 a) + 1) := by rw [g27q, sA_k (by omega), sA_k (by omega)]
          clear g27k g27q
          refine tn_putV (ci := 9) (i := 5) (n := 86) (r := false) (v := v26) tyX9 tyX9_ok nmX9 dX9_next_102 rfl lay_9 (by decide) fl9_55 rfl (tyX9_ok 5 (by decide)) rfl rfl rfl ha rfl rfl ?_
          refine tn_aload_n dX9_next_105 rfl 0 rfl ?_
          refine tn_aload_n dX9_next_106 rfl 0 rfl ?_
          refine tn_getR (ci := 9) (i := 2) (n := 83) (x := x16) dX9_next_107 rfl lay_9 (by decide) fl9_18 ha rfl rfl (rc_o (by decide) (rc_o (by decide) (rc_o (by decide) (hx17)))) ?_
          refine tn_aload_n dX9_next_110 rfl 0 rfl ?_
          refine tn_getI (ci := 9) (i := 3) (n := 84) (t := (σ.2.1 84 a) + 1) dX9_next_111 rfl lay_9 (by decide) fl9_45 ha rfl rfl (rc_o (by decide) (rc_o (by decide) (ra_eq))) ?_
          refine tn_ialdX (z := (σ.2.1 84 a) + 1) (((hw.put (by decide) (by decide) (fo_84 (by omega))).put (by decide) (by decide) (fo_85 (by omega))).put (by decide) (by decide) (fo_86 (by omega))) dX9_next_114 hk18i (by omega) (by omega) (by omega) (fun v28 g29q g29 g29k => ?_)
          have g29Q : v28 = σ.2.1 (1000 + x16) ((σ.2.1 84 a) + 1) := by rw [g29q, sA_k (by omega), sA_k (by omega), sA_k (by omega)]
          clear g29k g29q
          refine tn_putV (ci := 9) (i := 6) (n := 87) (r := false) (v := v28) tyX9 tyX9_ok nmX9 dX9_next_115 rfl lay_9 (by decide) fl9_34 rfl (tyX9_ok 6 (by decide)) rfl rfl rfl ha rfl rfl ?_
          have q30 : (sA 87 a (v28) (sA 86 a (v26) (sA 85 a (v24) (sA 84 a ((σ.2.1 84 a) + 1) σ)))).2.1 84 a = (σ.2.1 84 a) + 1 := rc_o (by decide) (rc_o (by decide) (rc_o (by decide) (ra_eq)))
          have q31 : (sA 87 a (v28) (sA 86 a (v26) (sA 85 a (v24) (sA 84 a ((σ.2.1 84 a) + 1) σ)))).2.1 85 a = v24 := rc_o (by decide) (rc_o (by decide) (ra_eq))
          have q32 : (sA 87 a (v28) (sA 86 a (v26) (sA 85 a (v24) (sA 84 a ((σ.2.1 84 a) + 1) σ)))).2.1 84 a = (σ.2.1 84 a) + 1 := rc_o (by decide) (rc_o (by decide) (rc_o (by decide) (ra_eq)))
          have q33 : (sA 87 a (v28) (sA 86 a (v26) (sA 85 a (v24) (sA 84 a ((σ.2.1 84 a) + 1) σ)))).2.1 85 a = v24 := rc_o (by decide) (rc_o (by decide) (ra_eq))
          have q34 : (sA 87 a (v28) (sA 86 a (v26) (sA 85 a (v24) (sA 84 a ((σ.2.1 84 a) + 1) σ)))).2.1 86 a = v26 := rc_o (by decide) (ra_eq)
          have q35 : (sA 87 a (v28) (sA 86 a (v26) (sA 85 a (v24) (sA 84 a ((σ.2.1 84 a) + 1) σ)))).2.1 87 a = v28 := ra_eq
          have w36j : jx + 1 ≤ nx := by omega
          have w36 := hq.2.2.1 x2 x9 x16 hx3 hx10 hx17 (jx + 1) w36j
          have w36i : σ.2.1 84 a + 1 = ((jx + 1 : Nat) : Int) := by omega
          rw [w36i] at g25Q
          rw [w36i] at g27Q
          rw [w36i] at g29Q
          exact tn_vret rfl dX9_next_118 ⟨rfl, rfl, ((((hw.put (by decide) (by decide) (fo_84 (by omega))).put (by decide) (by decide) (fo_85 (by omega))).put (by decide) (by decide) (fo_86 (by omega))).put (by decide) (by decide) (fo_87 (by omega))), ((((FrC.rfl.put (by decide) (by decide)).put (by decide) (by decide)).put (by decide) (by decide)).put (by decide) (by decide)), by unfold TKI at *; rw [q30, q31]; omega, by rw [q30]; omega, by unfold ADV TKI at *; rw [q30]; omega, ⟨⟨w36j, hq.1.2.1, by rw [q32]; omega⟩, ⟨by rw [q33, g25Q]; exact w36.1, by rw [q34, g27Q]; exact w36.2.1, by rw [q35, g29Q]; exact w36.2.2⟩, ((((hq.2.2.1).pt (by decide)).pt (by decide)).pt (by decide)).pt (by decide), hq.2.2.2⟩⟩
        · refine tn_aload_n dX9_next_49 rfl 0 rfl ?_
          refine tn_getI (ci := 9) (i := 4) (n := 85) (t := σ.2.1 85 a) dX9_next_50 rfl lay_9 (by decide) fl9_30 ha rfl rfl (rfl) ?_
          have g37 : ((-2147483648 : Int) ≤ σ.2.1 85 a ∧ σ.2.1 85 a ≤ 2147483647) := wf_85 hw ha
          refine tn_sipush dX9_next_53 (by decide) ?_
          refine tn_icmp_eq (tgt := 118) dX9_next_56 (by decide) ⟨by omega, by omega⟩ ⟨by decide, by decide⟩ (fun h38 => ?_) (fun h38 => ?_)
          · have q39 : σ.2.1 84 a = σ.2.1 84 a := rfl
            have q40 : σ.2.1 85 a = σ.2.1 85 a := rfl
            exact tn_vret rfl dX9_next_118 ⟨rfl, rfl, hw, FrC.rfl, False.elim (by have z9 := hq.2.1.1; omega), False.elim (by have z9 := hq.2.1.1; omega), False.elim (by have z9 := hq.2.1.1; omega), False.elim (by have z9 := hq.2.1.1; omega)⟩
          · refine tn_aload_n dX9_next_59 rfl 0 rfl ?_
            refine tn_getI (ci := 9) (i := 4) (n := 85) (t := σ.2.1 85 a) dX9_next_60 rfl lay_9 (by decide) fl9_30 ha rfl rfl (rfl) ?_
            refine tn_sipush dX9_next_63 (by decide) ?_
            refine tn_icmp_eq (tgt := 118) dX9_next_66 (by decide) ⟨by omega, by omega⟩ ⟨by decide, by decide⟩ (fun h41 => ?_) (fun h41 => ?_)
            · have q42 : σ.2.1 84 a = σ.2.1 84 a := rfl
              have q43 : σ.2.1 85 a = σ.2.1 85 a := rfl
              exact tn_vret rfl dX9_next_118 ⟨rfl, rfl, hw, FrC.rfl, False.elim (by have z9 := hq.2.1.1; omega), False.elim (by have z9 := hq.2.1.1; omega), False.elim (by have z9 := hq.2.1.1; omega), False.elim (by have z9 := hq.2.1.1; omega)⟩
            · refine tn_aload_n dX9_next_69 rfl 0 rfl ?_
              refine tn_dup dX9_next_70 rfl ?_
              refine tn_getI (ci := 9) (i := 3) (n := 84) (t := σ.2.1 84 a) dX9_next_71 rfl lay_9 (by decide) fl9_45 ha rfl rfl (rfl) ?_
              refine tn_iconst dX9_next_74 ?_
              refine tn_iadd dX9_next_75 ?_
              refine tn_putV (ci := 9) (i := 3) (n := 84) (r := false) (v := (σ.2.1 84 a) + 1) tyX9 tyX9_ok nmX9 dX9_next_76 rfl lay_9 (by decide) fl9_45 rfl (tyX9_ok 3 (by decide)) rfl rfl rfl ha rfl rfl ?_
              refine tn_aload_n dX9_next_79 rfl 0 rfl ?_
              refine tn_aload_n dX9_next_80 rfl 0 rfl ?_
              refine tn_getR (ci := 9) (i := 0) (n := 81) (x := x2) dX9_next_81 rfl lay_9 (by decide) fl9_9 ha rfl rfl (rc_o (by decide) (hx3)) ?_
              refine tn_aload_n dX9_next_84 rfl 0 rfl ?_
              refine tn_getI (ci := 9) (i := 3) (n := 84) (t := (σ.2.1 84 a) + 1) dX9_next_85 rfl lay_9 (by decide) fl9_45 ha rfl rfl (ra_eq) ?_
              refine tn_ialdX (z := (σ.2.1 84 a) + 1) (hw.put (by decide) (by decide) (fo_84 (by omega))) dX9_next_88 hk4i (by omega) (by omega) (by omega) (fun v44 g45q g45 g45k => ?_)
              have g45u := g45k.2.2.1 hk4
              have g45Q : v44 = σ.2.1 (1000 + x2) ((σ.2.1 84 a) + 1) := by rw [g45q, sA_k (by omega)]
              clear g45k g45q
              refine tn_putV (ci := 9) (i := 4) (n := 85) (r := false) (v := v44) tyX9 tyX9_ok nmX9 dX9_next_89 rfl lay_9 (by decide) fl9_30 rfl (tyX9_ok 4 (by decide)) rfl rfl rfl ha rfl rfl ?_
              refine tn_aload_n dX9_next_92 rfl 0 rfl ?_
              refine tn_aload_n dX9_next_93 rfl 0 rfl ?_
              refine tn_getR (ci := 9) (i := 1) (n := 82) (x := x9) dX9_next_94 rfl lay_9 (by decide) fl9_15 ha rfl rfl (rc_o (by decide) (rc_o (by decide) (hx10))) ?_
              refine tn_aload_n dX9_next_97 rfl 0 rfl ?_
              refine tn_getI (ci := 9) (i := 3) (n := 84) (t := (σ.2.1 84 a) + 1) dX9_next_98 rfl lay_9 (by decide) fl9_45 ha rfl rfl (rc_o (by decide) (ra_eq)) ?_
              refine tn_ialdX (z := (σ.2.1 84 a) + 1) ((hw.put (by decide) (by decide) (fo_84 (by omega))).put (by decide) (by decide) (fo_85 (by omega))) dX9_next_101 hk11i (by omega) (by omega) (by omega) (fun v46 g47q g47 g47k => ?_)
              have g47Q : v46 = σ.2.1 (1000 + x9) ((σ.2.1 84 a) + 1) := by rw [g47q, sA_k (by omega), sA_k (by omega)]
              clear g47k g47q
              refine tn_putV (ci := 9) (i := 5) (n := 86) (r := false) (v := v46) tyX9 tyX9_ok nmX9 dX9_next_102 rfl lay_9 (by decide) fl9_55 rfl (tyX9_ok 5 (by decide)) rfl rfl rfl ha rfl rfl ?_
              refine tn_aload_n dX9_next_105 rfl 0 rfl ?_
              refine tn_aload_n dX9_next_106 rfl 0 rfl ?_
              refine tn_getR (ci := 9) (i := 2) (n := 83) (x := x16) dX9_next_107 rfl lay_9 (by decide) fl9_18 ha rfl rfl (rc_o (by decide) (rc_o (by decide) (rc_o (by decide) (hx17)))) ?_
              refine tn_aload_n dX9_next_110 rfl 0 rfl ?_
              refine tn_getI (ci := 9) (i := 3) (n := 84) (t := (σ.2.1 84 a) + 1) dX9_next_111 rfl lay_9 (by decide) fl9_45 ha rfl rfl (rc_o (by decide) (rc_o (by decide) (ra_eq))) ?_
              refine tn_ialdX (z := (σ.2.1 84 a) + 1) (((hw.put (by decide) (by decide) (fo_84 (by omega))).put (by decide) (by decide) (fo_85 (by omega))).put (by decide) (by decide) (fo_86 (by omega))) dX9_next_114 hk18i (by omega) (by omega) (by omega) (fun v48 g49q g49 g49k => ?_)
              have g49Q : v48 = σ.2.1 (1000 + x16) ((σ.2.1 84 a) + 1) := by rw [g49q, sA_k (by omega), sA_k (by omega), sA_k (by omega)]
              clear g49k g49q
              refine tn_putV (ci := 9) (i := 6) (n := 87) (r := false) (v := v48) tyX9 tyX9_ok nmX9 dX9_next_115 rfl lay_9 (by decide) fl9_34 rfl (tyX9_ok 6 (by decide)) rfl rfl rfl ha rfl rfl ?_
              have q50 : (sA 87 a (v48) (sA 86 a (v46) (sA 85 a (v44) (sA 84 a ((σ.2.1 84 a) + 1) σ)))).2.1 84 a = (σ.2.1 84 a) + 1 := rc_o (by decide) (rc_o (by decide) (rc_o (by decide) (ra_eq)))
              have q51 : (sA 87 a (v48) (sA 86 a (v46) (sA 85 a (v44) (sA 84 a ((σ.2.1 84 a) + 1) σ)))).2.1 85 a = v44 := rc_o (by decide) (rc_o (by decide) (ra_eq))
              have q52 : (sA 87 a (v48) (sA 86 a (v46) (sA 85 a (v44) (sA 84 a ((σ.2.1 84 a) + 1) σ)))).2.1 84 a = (σ.2.1 84 a) + 1 := rc_o (by decide) (rc_o (by decide) (rc_o (by decide) (ra_eq)))
              have q53 : (sA 87 a (v48) (sA 86 a (v46) (sA 85 a (v44) (sA 84 a ((σ.2.1 84 a) + 1) σ)))).2.1 85 a = v44 := rc_o (by decide) (rc_o (by decide) (ra_eq))
              have q54 : (sA 87 a (v48) (sA 86 a (v46) (sA 85 a (v44) (sA 84 a ((σ.2.1 84 a) + 1) σ)))).2.1 86 a = v46 := rc_o (by decide) (ra_eq)
              have q55 : (sA 87 a (v48) (sA 86 a (v46) (sA 85 a (v44) (sA 84 a ((σ.2.1 84 a) + 1) σ)))).2.1 87 a = v48 := ra_eq
              have w56j : jx + 1 ≤ nx := by omega
              have w56 := hq.2.2.1 x2 x9 x16 hx3 hx10 hx17 (jx + 1) w56j
              have w56i : σ.2.1 84 a + 1 = ((jx + 1 : Nat) : Int) := by omega
              rw [w56i] at g45Q
              rw [w56i] at g47Q
              rw [w56i] at g49Q
              exact tn_vret rfl dX9_next_118 ⟨rfl, rfl, ((((hw.put (by decide) (by decide) (fo_84 (by omega))).put (by decide) (by decide) (fo_85 (by omega))).put (by decide) (by decide) (fo_86 (by omega))).put (by decide) (by decide) (fo_87 (by omega))), ((((FrC.rfl.put (by decide) (by decide)).put (by decide) (by decide)).put (by decide) (by decide)).put (by decide) (by decide)), by unfold TKI at *; rw [q50, q51]; omega, by rw [q50]; omega, by unfold ADV TKI at *; rw [q50]; omega, ⟨⟨w56j, hq.1.2.1, by rw [q52]; omega⟩, ⟨by rw [q53, g45Q]; exact w56.1, by rw [q54, g47Q]; exact w56.2.1, by rw [q55, g49Q]; exact w56.2.2⟩, ((((hq.2.2.1).pt (by decide)).pt (by decide)).pt (by decide)).pt (by decide), hq.2.2.2⟩⟩
end
section
set_option maxHeartbeats 4000000 in
set_option maxRecDepth 20000 in
theorem k_X5_refuse_f (d : Nat) {T : CT} {σ : MS} {a : Nat} {Sx : Int → Int} {nx jx : Nat} (ha : OB T a 5) (hw : WT T σ) (hTK : TKR σ a Sx nx jx) : Tn (d + 1) m_X5_refuse 0 T σ [(0, .ref a)] [] (fun ro T2 σ2 => ∃ v : Int, ro = some (.int (iI v)) ∧ T = T2 ∧ WT T2 σ2 ∧ FrC T [43, 44] σ σ2 ∧ (v = 0 ∨ v = 1) ∧ (v = 0) ∧ (FLC σ2 a (tkS Sx jx).1) ∧ (TKR σ2 a Sx nx jx)) := by
  refine tn_aload_n dX5_refuse_0 rfl 0 rfl ?_
  refine tn_iconst dX5_refuse_1 ?_
  refine tn_putV (ci := 5) (i := 10) (n := 43) (r := false) (v := 1) tyX5 tyX5_ok nmX5 dX5_refuse_2 rfl lay_5 (by decide) fl5_51 rfl (tyX5_ok 10 (by decide)) rfl rfl rfl ha rfl rfl ?_
  refine tn_aload_n dX5_refuse_5 rfl 0 rfl ?_
  refine tn_aload_n dX5_refuse_6 rfl 0 rfl ?_
  obtain ⟨x1, hx2, hk3⟩ : ∃ x : Nat, σ.2.1 33 a = (x : Int) ∧ (T x).1 = 39 := wf_33 hw ha
  have hk3o : OB T x1 9 := ⟨by omega, by rw [hk3]; rfl, by omega⟩
  refine tn_getR (ci := 5) (i := 0) (n := 33) (x := x1) dX5_refuse_7 rfl lay_5 (by decide) fl5_12 ha rfl rfl (rc_o (by decide) (hx2)) ?_
  refine tn_getI (ci := 9) (i := 6) (n := 87) (t := σ.2.1 87 x1) dX5_refuse_10 rfl lay_9 (by decide) fl5_74 hk3o rfl rfl (rc_o (by decide) (rfl)) ?_
  have g5 : ((-2147483648 : Int) ≤ σ.2.1 87 x1 ∧ σ.2.1 87 x1 ≤ 2147483647) := wf_87 hw hk3o
  refine tn_putV (ci := 5) (i := 11) (n := 44) (r := false) (v := σ.2.1 87 x1) tyX5 tyX5_ok nmX5 dX5_refuse_13 rfl lay_5 (by decide) fl5_55 rfl (tyX5_ok 11 (by decide)) rfl rfl rfl ha rfl rfl ?_
  refine tn_iconst dX5_refuse_16 ?_
  have q6 : (sA 44 a (σ.2.1 87 x1) (sA 43 a (1) σ)).2.1 43 a = 1 := rc_o (by decide) (ra_eq)
  have q7 : (sA 44 a (σ.2.1 87 x1) (sA 43 a (1) σ)).2.1 44 a = σ.2.1 87 x1 := ra_eq
  have w8 : σ.2.1 87 x1 = (tkS Sx jx).1 := (hTK.2 x1 hx2).2.1.2.2
  exact tn_zret (v := 0) rfl (by decide) dX5_refuse_17 ⟨_, rfl, rfl, ((hw.put (by decide) (by decide) (fo_43 (by omega))).put (by decide) (by decide) (fo_44 (by omega))), ((FrC.rfl.put (by decide) (by decide)).put (by decide) (by decide)), by omega, rfl, ⟨q6, q7.trans w8⟩, (hTK.pt (by decide) (by decide)).pt (by decide) (by decide)⟩
end
section
set_option maxHeartbeats 4000000 in
set_option maxRecDepth 20000 in
theorem k_X5_taken_f (d : Nat) {T : CT} {σ : MS} {a : Nat} {s : Int} {kp : Int} {Sx : Int → Int} {nx jx : Nat} {cx : CS} {Nx : Int} (ha : OB T a 5) (h_s : -2147483648 ≤ s ∧ s ≤ 2147483647) (hw : WT T σ) (hs : 40 ≤ s ∧ s ≤ 125) (hfx : RDX σ a Sx nx jx cx Nx) (hkp : kp ≤ 150) (hrp : RP σ a kp) : Tn (d + 2) m_X5_taken 0 T σ [(0, .ref a), (1, .int (iI s))] [] (fun ro T2 σ2 => ∃ v : Int, ro = some (.int (iI v)) ∧ T = T2 ∧ WT T2 σ2 ∧ FrC T [43, 44, 84, 85, 86, 87] σ σ2 ∧ (v = 0 ∨ v = 1) ∧ (TQ σ2 a Sx nx jx cx Nx s v) ∧ (RP σ2 a (kp - 4 * v))) := by
  have hSb := hfx.1.sb
  refine tn_aload_n dX5_taken_0 rfl 0 rfl ?_
  obtain ⟨x1, hx2, hk3⟩ : ∃ x : Nat, σ.2.1 33 a = (x : Int) ∧ (T x).1 = 39 := wf_33 hw ha
  have hk3o : OB T x1 9 := ⟨by omega, by rw [hk3]; rfl, by omega⟩
  refine tn_getR (ci := 5) (i := 0) (n := 33) (x := x1) dX5_taken_1 rfl lay_5 (by decide) fl5_12 ha rfl rfl (hx2) ?_
  refine tn_getI (ci := 9) (i := 4) (n := 85) (t := σ.2.1 85 x1) dX5_taken_4 rfl lay_9 (by decide) fl5_71 hk3o rfl rfl (rfl) ?_
  have g5 : ((-2147483648 : Int) ≤ σ.2.1 85 x1 ∧ σ.2.1 85 x1 ≤ 2147483647) := wf_85 hw hk3o
  have g5kd : σ.2.1 85 x1 = ckd (tkS Sx jx) := (rfl).symm.trans ((hfx).1.kd (hx2))
  refine tn_iload_n dX5_taken_7 rfl 1 rfl ?_
  refine tn_icmp_eq (tgt := 16) dX5_taken_8 (by decide) ⟨by omega, by omega⟩ ⟨by omega, by omega⟩ (fun h6 => ?_) (fun h6 => ?_)
  · refine tn_aload_n dX5_taken_16 rfl 0 rfl ?_
    refine tn_getR (ci := 5) (i := 0) (n := 33) (x := x1) dX5_taken_17 rfl lay_5 (by decide) fl5_12 ha rfl rfl (hx2) ?_
    refine tn_callV (M := m_X5_taken) (pc := 20) (ix := 93) (ci := 9) (M' := m_X9_next) (As := []) (rest := []) dX5_taken_20 ok_X9_next im_X9_next se_X9_next ml5_93 np_X9_next rfl rfl hk3o rfl (Nat.le_of_ble_eq_true rfl) (Nat.le_of_ble_eq_true rfl) rfl (k_X9_next_f (d) (T := T) (σ := σ) (a := x1) hk3o hw (RP.tk hrp hw ha (hx2)) ((hfx).1.tk (hx2)) (by rw [(hfx).1.kd (hx2)]; omega)) (fun r7 T9 σ8 gt10 hp => ?_)
    obtain ⟨rfl, rfl, w16, F17, f11, f12, f13, f14⟩ := hp
    clear gt10
    have fx18 : RDX σ8 a Sx nx (jx + 1) (cx) (Nx) := RDX.nx hfx hw ha (hx2) F17 f14
    have rp19 : RP σ8 a (kp - 4) := RP.next4 hrp (hx2) F17 (by decide) (by decide) (by decide) f11 f13 (by rw [show σ.2.1 85 x1 = σ.2.1 85 x1 from rfl]; omega)
    show Tn _ _ 23 T σ8 [(0, .ref a), (1, .int (iI s))] [] _
    refine tn_iconst dX5_taken_23 ?_
    exact tn_zret (v := 1) rfl (by decide) dX5_taken_24 ⟨_, rfl, rfl, w16, (FrC.rfl.trans (FrC.sub F17 (by decide))), by omega, ⟨fun _ => ⟨by omega, fx18⟩, fun q => absurd q (by decide)⟩, (RP.up rp19 (by omega))⟩
  · refine tn_aload_n dX5_taken_11 rfl 0 rfl ?_
    refine tn_callV (M := m_X5_taken) (pc := 12) (ix := 90) (ci := 5) (M' := m_X5_refuse) (As := []) (rest := []) dX5_taken_12 ok_X5_refuse im_X5_refuse se_X5_refuse ml5_90 np_X5_refuse rfl rfl ha rfl (Nat.le_of_ble_eq_true rfl) (Nat.le_of_ble_eq_true rfl) rfl (k_X5_refuse_f (d) (T := T) (σ := σ) (a := a) ha hw (hfx).1.1) (fun r20 T22 σ21 gt23 hp => ?_)
    obtain ⟨v28, rfl, rfl, w29, F30, f24, f25, f26, f27⟩ := hp
    clear gt23
    have rp31 : RP σ21 a (kp) := RP.frc hrp F30 (by decide) (by decide) (by decide) (by decide) (by decide)
    show Tn _ _ 15 T σ21 [(0, .ref a), (1, .int (iI s))] [.int (iI v28)] _
    exact tn_zret (v := v28) rfl (by omega) dX5_taken_15 ⟨_, rfl, rfl, w29, (FrC.rfl.trans (FrC.sub F30 (by decide))), by omega, ⟨fun q => absurd q (by omega), fun _ => ⟨by omega, f26, f27⟩⟩, (RP.up rp31 (by omega))⟩
end
section
set_option maxHeartbeats 4000000 in
set_option maxRecDepth 20000 in
theorem k_X5_note_f (d : Nat) {T : CT} {σ : MS} {a : Nat} {f : Int} {p : Int} (ha : OB T a 5) (h_f : -2147483648 ≤ f ∧ f ≤ 2147483647) (h_p : -2147483648 ≤ p ∧ p ≤ 2147483647) (hw : WT T σ) : Tn (d + 1) m_X5_note 0 T σ [(0, .ref a), (1, .int (iI f)), (2, .int (iI p))] [] (fun ro T2 σ2 => ro = none ∧ T = T2 ∧ WT T2 σ2 ∧ FrC T [43, 44] σ σ2 ∧ (NTQ σ σ2 a f p)) := by
  refine tn_aload_n dX5_note_0 rfl 0 rfl ?_
  refine tn_getI (ci := 5) (i := 10) (n := 43) (t := σ.2.1 43 a) dX5_note_1 rfl lay_5 (by decide) fl5_51 ha rfl rfl (rfl) ?_
  have g1 : ((-2147483648 : Int) ≤ σ.2.1 43 a ∧ σ.2.1 43 a ≤ 2147483647) := wf_43 hw ha
  refine tn_if_eq (tgt := 31) dX5_note_4 (by decide) ⟨by omega, by omega⟩ (fun h2 => ?_) (fun h2 => ?_)
  · refine tn_aload_n dX5_note_31 rfl 0 rfl ?_
    refine tn_iload_n dX5_note_32 rfl 1 rfl ?_
    refine tn_putV (ci := 5) (i := 10) (n := 43) (r := false) (v := f) tyX5 tyX5_ok nmX5 dX5_note_33 rfl lay_5 (by decide) fl5_51 rfl (tyX5_ok 10 (by decide)) rfl rfl rfl ha rfl rfl ?_
    refine tn_aload_n dX5_note_36 rfl 0 rfl ?_
    refine tn_iload_n dX5_note_37 rfl 2 rfl ?_
    refine tn_putV (ci := 5) (i := 11) (n := 44) (r := false) (v := p) tyX5 tyX5_ok nmX5 dX5_note_38 rfl lay_5 (by decide) fl5_55 rfl (tyX5_ok 11 (by decide)) rfl rfl rfl ha rfl rfl ?_
    have q3 : (sA 44 a (p) (sA 43 a (f) σ)).2.1 43 a = f := rc_o (by decide) (ra_eq)
    have q4 : (sA 44 a (p) (sA 43 a (f) σ)).2.1 44 a = p := ra_eq
    exact tn_vret rfl dX5_note_41 ⟨rfl, rfl, ((hw.put (by decide) (by decide) (fo_43 (by omega))).put (by decide) (by decide) (fo_44 (by omega))), ((FrC.rfl.put (by decide) (by decide)).put (by decide) (by decide)), by unfold NTQ cntN; rw [q3, q4, if_pos (by simp only; omega)]⟩
  · refine tn_iload_n dX5_note_7 rfl 2 rfl ?_
    refine tn_aload_n dX5_note_8 rfl 0 rfl ?_
    refine tn_getI (ci := 5) (i := 11) (n := 44) (t := σ.2.1 44 a) dX5_note_9 rfl lay_5 (by decide) fl5_55 ha rfl rfl (rfl) ?_
    have g5 : ((-2147483648 : Int) ≤ σ.2.1 44 a ∧ σ.2.1 44 a ≤ 2147483647) := wf_44 hw ha
    refine tn_icmp_lt (tgt := 31) dX5_note_12 (by decide) ⟨by omega, by omega⟩ ⟨by omega, by omega⟩ (fun h6 => ?_) (fun h6 => ?_)
    · refine tn_aload_n dX5_note_31 rfl 0 rfl ?_
      refine tn_iload_n dX5_note_32 rfl 1 rfl ?_
      refine tn_putV (ci := 5) (i := 10) (n := 43) (r := false) (v := f) tyX5 tyX5_ok nmX5 dX5_note_33 rfl lay_5 (by decide) fl5_51 rfl (tyX5_ok 10 (by decide)) rfl rfl rfl ha rfl rfl ?_
      refine tn_aload_n dX5_note_36 rfl 0 rfl ?_
      refine tn_iload_n dX5_note_37 rfl 2 rfl ?_
      refine tn_putV (ci := 5) (i := 11) (n := 44) (r := false) (v := p) tyX5 tyX5_ok nmX5 dX5_note_38 rfl lay_5 (by decide) fl5_55 rfl (tyX5_ok 11 (by decide)) rfl rfl rfl ha rfl rfl ?_
      have q7 : (sA 44 a (p) (sA 43 a (f) σ)).2.1 43 a = f := rc_o (by decide) (ra_eq)
      have q8 : (sA 44 a (p) (sA 43 a (f) σ)).2.1 44 a = p := ra_eq
      exact tn_vret rfl dX5_note_41 ⟨rfl, rfl, ((hw.put (by decide) (by decide) (fo_43 (by omega))).put (by decide) (by decide) (fo_44 (by omega))), ((FrC.rfl.put (by decide) (by decide)).put (by decide) (by decide)), by unfold NTQ cntN; rw [q7, q8, if_pos (by simp only; omega)]⟩
    · refine tn_iload_n dX5_note_15 rfl 2 rfl ?_
      refine tn_aload_n dX5_note_16 rfl 0 rfl ?_
      refine tn_getI (ci := 5) (i := 11) (n := 44) (t := σ.2.1 44 a) dX5_note_17 rfl lay_5 (by decide) fl5_55 ha rfl rfl (rfl) ?_
      refine tn_icmp_ne (tgt := 41) dX5_note_20 (by decide) ⟨by omega, by omega⟩ ⟨by omega, by omega⟩ (fun h9 => ?_) (fun h9 => ?_)
      · have q10 : σ.2.1 43 a = σ.2.1 43 a := rfl
        have q11 : σ.2.1 44 a = σ.2.1 44 a := rfl
        exact tn_vret rfl dX5_note_41 ⟨rfl, rfl, hw, FrC.rfl, by unfold NTQ cntN; rw [if_neg (by simp only; omega)]⟩
      · refine tn_iload_n dX5_note_23 rfl 1 rfl ?_
        refine tn_aload_n dX5_note_24 rfl 0 rfl ?_
        refine tn_getI (ci := 5) (i := 10) (n := 43) (t := σ.2.1 43 a) dX5_note_25 rfl lay_5 (by decide) fl5_51 ha rfl rfl (rfl) ?_
        refine tn_icmp_ge (tgt := 41) dX5_note_28 (by decide) ⟨by omega, by omega⟩ ⟨by omega, by omega⟩ (fun h12 => ?_) (fun h12 => ?_)
        · have q13 : σ.2.1 43 a = σ.2.1 43 a := rfl
          have q14 : σ.2.1 44 a = σ.2.1 44 a := rfl
          exact tn_vret rfl dX5_note_41 ⟨rfl, rfl, hw, FrC.rfl, by unfold NTQ cntN; rw [if_neg (by simp only; omega)]⟩
        · refine tn_aload_n dX5_note_31 rfl 0 rfl ?_
          refine tn_iload_n dX5_note_32 rfl 1 rfl ?_
          refine tn_putV (ci := 5) (i := 10) (n := 43) (r := false) (v := f) tyX5 tyX5_ok nmX5 dX5_note_33 rfl lay_5 (by decide) fl5_51 rfl (tyX5_ok 10 (by decide)) rfl rfl rfl ha rfl rfl ?_
          refine tn_aload_n dX5_note_36 rfl 0 rfl ?_
          refine tn_iload_n dX5_note_37 rfl 2 rfl ?_
          refine tn_putV (ci := 5) (i := 11) (n := 44) (r := false) (v := p) tyX5 tyX5_ok nmX5 dX5_note_38 rfl lay_5 (by decide) fl5_55 rfl (tyX5_ok 11 (by decide)) rfl rfl rfl ha rfl rfl ?_
          have q15 : (sA 44 a (p) (sA 43 a (f) σ)).2.1 43 a = f := rc_o (by decide) (ra_eq)
          have q16 : (sA 44 a (p) (sA 43 a (f) σ)).2.1 44 a = p := ra_eq
          exact tn_vret rfl dX5_note_41 ⟨rfl, rfl, ((hw.put (by decide) (by decide) (fo_43 (by omega))).put (by decide) (by decide) (fo_44 (by omega))), ((FrC.rfl.put (by decide) (by decide)).put (by decide) (by decide)), by unfold NTQ cntN; rw [q15, q16, if_pos (by simp only; omega)]⟩
end
section
set_option maxHeartbeats 4000000 in
set_option maxRecDepth 20000 in
theorem k_X5_join_f (d : Nat) {T : CT} {σ : MS} {a : Nat} {k : Int} {e : Int} {l : Int} {kp : Int} {Sx : Int → Int} {nx jx : Nat} {cx : CS} {Nx : Int} (ha : OB T a 5) (h_k : -2147483648 ≤ k ∧ k ≤ 2147483647) (h_e : -2147483648 ≤ e ∧ e ≤ 2147483647) (h_l : -2147483648 ≤ l ∧ l ≤ 2147483647) (hw : WT T σ) (hk : k ≠ 14 ∧ k ≠ 15) (hfx : RDX σ a Sx nx jx cx Nx) (hkp : kp ≤ 150) (hrp : RP σ a kp) : Tn (d + 4) m_X5_join 0 T σ [(0, .ref a), (1, .int (iI k)), (2, .int (iI e)), (3, .int (iI l))] [] (fun ro T2 σ2 => ro = none ∧ WT T2 σ2 ∧ FrC T [5, 6, 47, 50, 51] σ σ2 ∧ (RDX σ2 a Sx nx jx cx (Nx + 1)) ∧ (RP σ2 a (kp + 1))) := by
  have hSb := hfx.1.sb
  refine tn_sipush dX5_join_0 (by decide) ?_
  refine tn_aload_n dX5_join_3 rfl 0 rfl ?_
  refine tn_getI (ci := 5) (i := 14) (n := 47) (t := σ.2.1 47 a) dX5_join_4 rfl lay_5 (by decide) fl5_136 ha rfl rfl (rfl) ?_
  have g1 : ((-2147483648 : Int) ≤ σ.2.1 47 a ∧ σ.2.1 47 a ≤ 2147483647) := wf_47 hw ha
  refine tn_iadd dX5_join_7 ?_
  refine tn_any (fun z2 g3 => ?_)
  have g3r : -2147483648 ≤ z2 ∧ z2 ≤ 2147483647 := g3
  refine tn_istore (L' := [(4, .int (iI z2)), (0, .ref a), (1, .int (iI k)), (2, .int (iI e)), (3, .int (iI l))]) dX5_join_8 (by decide) rfl ?_
  refine tn_aload_n dX5_join_10 rfl 1 rfl ?_
  refine tn_dup dX5_join_11 rfl ?_
  refine tn_getI (ci := 5) (i := 14) (n := 47) (t := σ.2.1 47 a) dX5_join_12 rfl lay_5 (by decide) fl5_136 ha rfl rfl (rfl) ?_
  refine tn_iconst dX5_join_15 ?_
  refine tn_iadd dX5_join_16 ?_
  refine tn_any (fun z4 g5 => ?_)
  have g5r : -2147483648 ≤ z4 ∧ z4 ≤ 2147483647 := g5
  refine tn_putV (ci := 5) (i := 14) (n := 47) (r := false) (v := z4) tyX5 tyX5_ok nmX5 dX5_join_17 rfl lay_5 (by decide) fl5_136 rfl (tyX5_ok 14 (by decide)) rfl rfl rfl ha rfl rfl ?_
  refine tn_aload_n dX5_join_20 rfl 1 rfl ?_
  obtain ⟨x6, hx7, hk8⟩ : ∃ x : Nat, σ.2.1 35 a = (x : Int) ∧ (T x).1 = 31 := wf_35 hw ha
  have hk8o : OB T x6 1 := ⟨by omega, by rw [hk8]; rfl, by omega⟩
  refine tn_getR (ci := 5) (i := 2) (n := 35) (x := x6) dX5_join_21 rfl lay_5 (by decide) fl5_47 ha rfl rfl (rc_o (by decide) (hx7)) ?_
  refine tn_iload_n dX5_join_24 rfl 2 rfl ?_
  refine tn_iload dX5_join_25 0 rfl ?_
  refine tn_iconst dX5_join_27 ?_
  have q14 : (sA 47 a (z4) σ).2.1 6 x6 = σ.2.1 6 x6 := rc_o (by decide) (rfl)
  refine tn_callV (M := m_X5_join) (pc := 28) (ix := 139) (ci := 1) (M' := m_X1_append) (As := [.int (iI k), .int (iI z2), .int (iI 0)]) (rest := []) dX5_join_28 ok_X1_append im_X1_append se_X1_append ml5_139 np_X1_append rfl rfl hk8o rfl (Nat.le_of_ble_eq_true rfl) (Nat.le_of_ble_eq_true rfl) rfl (k_X1_append (d) (T := T) (σ := (sA 47 a (z4) σ)) (a := x6) (k := k) (x := z2) (y := 0) hk8o hk8 (by omega) (by omega) (by decide) (hw.put (by decide) (by decide) (fo_47 (by omega))) (RP.cnt (hrp.put (by decide)) (hw.put (by decide) (by decide) (fo_47 (by omega))) ha (rc_o (by decide) (hx7)) (by omega)) (by omega)) (fun r10 T12 σ11 gt13 hp => ?_)
  obtain ⟨rfl, w17, F18, f15⟩ := hp
  have fx19 : RDX σ11 a Sx nx jx (cx) (Nx + 1) := RDX.ap (hfx.pt (by decide) (by decide)) (hw.put (by decide) (by decide) (fo_47 (by omega))) ha (rc_o (by decide) (hx7)) F18 f15
  replace ha : OB T12 a 5 := gt13.ob ha
  have rp20 : RP σ11 a (kp + 1) := RP.app (hrp.put (by decide)) (rc_o (by decide) (hx7)) F18 (by decide) (by decide) (by decide) (by decide) f15
  show Tn _ _ 31 T12 σ11 [(4, .int (iI z2)), (0, .ref a), (1, .int (iI k)), (2, .int (iI e)), (3, .int (iI l))] [] _
  refine tn_aload_n dX5_join_31 rfl 1 rfl ?_
  obtain ⟨x21, hx22, hk23⟩ : ∃ x : Nat, σ11.2.1 35 a = (x : Int) ∧ (T12 x).1 = 31 := wf_35 w17 ha
  have hk23o : OB T12 x21 1 := ⟨by omega, by rw [hk23]; rfl, by omega⟩
  refine tn_getR (ci := 5) (i := 2) (n := 35) (x := x21) dX5_join_32 rfl lay_5 (by decide) fl5_47 ha rfl rfl (hx22) ?_
  refine tn_iconst dX5_join_35 ?_
  refine tn_iload_n dX5_join_36 rfl 3 rfl ?_
  refine tn_iload_n dX5_join_37 rfl 4 rfl ?_
  refine tn_callV (M := m_X5_join) (pc := 38) (ix := 143) (ci := 1) (M' := m_X1_lastOperand) (As := [.int (iI 0), .int (iI e), .int (iI l)]) (rest := []) dX5_join_38 ok_X1_lastOperand im_X1_lastOperand se_X1_lastOperand ml5_143 np_X1_lastOperand rfl rfl hk23o rfl (Nat.le_of_ble_eq_true rfl) (Nat.le_of_ble_eq_true rfl) rfl (k_X1_lastOperand (d + 2) (T := T12) (σ := σ11) (a := x21) (i := 0) (k := e) (y := l) hk23o (by decide) (by omega) (by omega) w17 ) (fun r25 T27 σ26 gt28 hp => ?_)
  obtain ⟨rfl, rfl, w30, F31⟩ := hp
  clear gt28
  have fx32 : RDX σ26 a Sx nx jx (cx) (Nx + 1) := RDX.fc fx19 w17 ha F31 (by decide) (by decide)
  have rp33 : RP σ26 a (kp + 1) := RP.frc rp20 F31 (by decide) (by decide) (by decide) (by decide) (by decide)
  show Tn _ _ 41 T12 σ26 [(4, .int (iI z2)), (0, .ref a), (1, .int (iI k)), (2, .int (iI e)), (3, .int (iI l))] [] _
  refine tn_aload_n dX5_join_41 rfl 1 rfl ?_
  refine tn_getR (ci := 5) (i := 2) (n := 35) (x := x21) dX5_join_42 rfl lay_5 (by decide) fl5_47 ha rfl rfl (rc_F F31 (Or.inl (by decide)) (by decide) (hx22)) ?_
  refine tn_iconst dX5_join_45 ?_
  refine tn_aload_n dX5_join_46 rfl 1 rfl ?_
  refine tn_getI (ci := 5) (i := 17) (n := 50) (t := σ11.2.1 50 a) dX5_join_47 rfl lay_5 (by decide) fl5_216 ha rfl rfl (rc_F F31 (Or.inl (by decide)) (by decide) (rfl)) ?_
  have g34 : ((-2147483648 : Int) ≤ σ11.2.1 50 a ∧ σ11.2.1 50 a ≤ 2147483647) := wf_50 w17 ha
  refine tn_aload_n dX5_join_50 rfl 1 rfl ?_
  refine tn_getI (ci := 5) (i := 18) (n := 51) (t := σ11.2.1 51 a) dX5_join_51 rfl lay_5 (by decide) fl5_219 ha rfl rfl (rc_F F31 (Or.inl (by decide)) (by decide) (rfl)) ?_
  have g35 : ((-2147483648 : Int) ≤ σ11.2.1 51 a ∧ σ11.2.1 51 a ≤ 2147483647) := wf_51 w17 ha
  refine tn_callV (M := m_X5_join) (pc := 54) (ix := 143) (ci := 1) (M' := m_X1_lastOperand) (As := [.int (iI 1), .int (iI (σ11.2.1 50 a)), .int (iI (σ11.2.1 51 a))]) (rest := []) dX5_join_54 ok_X1_lastOperand im_X1_lastOperand se_X1_lastOperand ml5_143 np_X1_lastOperand rfl rfl hk23o rfl (Nat.le_of_ble_eq_true rfl) (Nat.le_of_ble_eq_true rfl) rfl (k_X1_lastOperand (d + 2) (T := T12) (σ := σ26) (a := x21) (i := 1) (k := σ11.2.1 50 a) (y := σ11.2.1 51 a) hk23o (by decide) (by omega) (by omega) w30 ) (fun r36 T38 σ37 gt39 hp => ?_)
  obtain ⟨rfl, rfl, w41, F42⟩ := hp
  clear gt39
  have fx43 : RDX σ37 a Sx nx jx (cx) (Nx + 1) := RDX.fc fx32 w30 ha F42 (by decide) (by decide)
  have rp44 : RP σ37 a (kp + 1) := RP.frc rp33 F42 (by decide) (by decide) (by decide) (by decide) (by decide)
  show Tn _ _ 57 T12 σ37 [(4, .int (iI z2)), (0, .ref a), (1, .int (iI k)), (2, .int (iI e)), (3, .int (iI l))] [] _
  refine tn_aload_n dX5_join_57 rfl 1 rfl ?_
  refine tn_iconst dX5_join_58 ?_
  refine tn_putV (ci := 5) (i := 17) (n := 50) (r := false) (v := 2) tyX5 tyX5_ok nmX5 dX5_join_59 rfl lay_5 (by decide) fl5_216 rfl (tyX5_ok 17 (by decide)) rfl rfl rfl ha rfl rfl ?_
  refine tn_aload_n dX5_join_62 rfl 1 rfl ?_
  refine tn_iload dX5_join_63 0 rfl ?_
  refine tn_putV (ci := 5) (i := 18) (n := 51) (r := false) (v := z2) tyX5 tyX5_ok nmX5 dX5_join_65 rfl lay_5 (by decide) fl5_219 rfl (tyX5_ok 18 (by decide)) rfl rfl rfl ha rfl rfl ?_
  exact tn_vret rfl dX5_join_68 ⟨rfl, ((w41.put (by decide) (by decide) (fo_50 (by omega))).put (by decide) (by decide) (fo_51 (by omega))), ((((((FrC.rfl.put (by decide) (by decide)).trans (FrC.sub F18 (by decide))).trans (FrC.sub (FrC.old F31 gt13) (by decide))).trans (FrC.sub (FrC.old F42 gt13) (by decide))).put (by decide) (by decide)).put (by decide) (by decide)), RDX.nq ((fx43.pt (by decide) (by decide)).pt (by decide) (by decide)) (by omega), (RP.up ((rp44.put (by decide)).put (by decide)) (by omega))⟩
end
section
set_option maxHeartbeats 4000000 in
set_option maxRecDepth 20000 in
theorem k_X5_zeroToNew_f (d : Nat) {T : CT} {σ : MS} {a : Nat} {kp : Int} {Sx : Int → Int} {nx jx : Nat} {cx : CS} {Nx : Int} (ha : OB T a 5) (hw : WT T σ) (hfx : RDX σ a Sx nx jx cx Nx) (hkp : kp ≤ 150) (hrp : RP σ a kp) : Tn (d + 4) m_X5_zeroToNew 0 T σ [(0, .ref a)] [] (fun ro T2 σ2 => ∃ v : Int, ro = some (.int (iI v)) ∧ WT T2 σ2 ∧ FrC T [5, 6, 46] σ σ2 ∧ (-2147483648 ≤ v ∧ v ≤ 2147483647) ∧ (RDX σ2 a Sx nx jx cx (Nx + 1)) ∧ (RP σ2 a (kp + 1))) := by
  have hSb := hfx.1.sb
  refine tn_aload_n dX5_zeroToNew_0 rfl 0 rfl ?_
  refine tn_callV (M := m_X5_zeroToNew) (pc := 1) (ix := 238) (ci := 5) (M' := m_X5_newLabel) (As := []) (rest := []) dX5_zeroToNew_1 ok_X5_newLabel im_X5_newLabel se_X5_newLabel ml5_238 np_X5_newLabel rfl rfl ha rfl (Nat.le_of_ble_eq_true rfl) (Nat.le_of_ble_eq_true rfl) rfl (k_X5_newLabel (d + 2) (T := T) (σ := σ) (a := a) ha hw ) (fun r1 T3 σ2 gt4 hp => ?_)
  obtain ⟨v6, rfl, rfl, w7, F8, f5⟩ := hp
  clear gt4
  have fx9 : RDX σ2 a Sx nx jx (cx) (Nx) := RDX.fc hfx hw ha F8 (by decide) (by decide)
  have rp10 : RP σ2 a (kp) := RP.frc hrp F8 (by decide) (by decide) (by decide) (by decide) (by decide)
  show Tn _ _ 4 T σ2 [(0, .ref a)] [.int (iI v6)] _
  refine tn_istore_n (L' := [(1, .int (iI v6)), (0, .ref a)]) dX5_zeroToNew_4 rfl (by decide) rfl ?_
  refine tn_aload_n dX5_zeroToNew_5 rfl 1 rfl ?_
  obtain ⟨x11, hx12, hk13⟩ : ∃ x : Nat, σ.2.1 35 a = (x : Int) ∧ (T x).1 = 31 := wf_35 hw ha
  have hk13o : OB T x11 1 := ⟨by omega, by rw [hk13]; rfl, by omega⟩
  refine tn_getR (ci := 5) (i := 2) (n := 35) (x := x11) dX5_zeroToNew_6 rfl lay_5 (by decide) fl5_47 ha rfl rfl (rc_F F8 (Or.inl (by decide)) (by decide) (hx12)) ?_
  refine tn_bipush dX5_zeroToNew_9 (by decide) ?_
  refine tn_iload_n dX5_zeroToNew_11 rfl 0 rfl ?_
  refine tn_iconst dX5_zeroToNew_12 ?_
  have q19 : σ2.2.1 6 x11 = σ.2.1 6 x11 := rc_F F8 (Or.inl (by decide)) (by decide) (rfl)
  refine tn_callV (M := m_X5_zeroToNew) (pc := 13) (ix := 139) (ci := 1) (M' := m_X1_append) (As := [.int (iI 9), .int (iI v6), .int (iI 0)]) (rest := []) dX5_zeroToNew_13 ok_X1_append im_X1_append se_X1_append ml5_139 np_X1_append rfl rfl hk13o rfl (Nat.le_of_ble_eq_true rfl) (Nat.le_of_ble_eq_true rfl) rfl (k_X1_append (d) (T := T) (σ := σ2) (a := x11) (k := 9) (x := v6) (y := 0) hk13o hk13 (by decide) (by omega) (by decide) w7 (RP.cnt rp10 w7 ha (rc_F F8 (Or.inl (by decide)) (by decide) (hx12)) (by omega)) (by omega)) (fun r15 T17 σ16 gt18 hp => ?_)
  obtain ⟨rfl, w22, F23, f20⟩ := hp
  have fx24 : RDX σ16 a Sx nx jx (cx) (Nx + 1) := RDX.ap fx9 w7 ha (rc_F F8 (Or.inl (by decide)) (by decide) (hx12)) F23 f20
  replace ha : OB T17 a 5 := gt18.ob ha
  have rp25 : RP σ16 a (kp + 1) := RP.app rp10 (rc_F F8 (Or.inl (by decide)) (by decide) (hx12)) F23 (by decide) (by decide) (by decide) (by decide) f20
  show Tn _ _ 16 T17 σ16 [(1, .int (iI v6)), (0, .ref a)] [] _
  refine tn_aload_n dX5_zeroToNew_16 rfl 1 rfl ?_
  obtain ⟨x26, hx27, hk28⟩ : ∃ x : Nat, σ16.2.1 35 a = (x : Int) ∧ (T17 x).1 = 31 := wf_35 w22 ha
  have hk28o : OB T17 x26 1 := ⟨by omega, by rw [hk28]; rfl, by omega⟩
  refine tn_getR (ci := 5) (i := 2) (n := 35) (x := x26) dX5_zeroToNew_17 rfl lay_5 (by decide) fl5_47 ha rfl rfl (hx27) ?_
  refine tn_iconst dX5_zeroToNew_20 ?_
  refine tn_aload_n dX5_zeroToNew_21 rfl 1 rfl ?_
  refine tn_getI (ci := 5) (i := 17) (n := 50) (t := σ16.2.1 50 a) dX5_zeroToNew_22 rfl lay_5 (by decide) fl5_216 ha rfl rfl (rfl) ?_
  have g30 : ((-2147483648 : Int) ≤ σ16.2.1 50 a ∧ σ16.2.1 50 a ≤ 2147483647) := wf_50 w22 ha
  refine tn_aload_n dX5_zeroToNew_25 rfl 1 rfl ?_
  refine tn_getI (ci := 5) (i := 18) (n := 51) (t := σ16.2.1 51 a) dX5_zeroToNew_26 rfl lay_5 (by decide) fl5_219 ha rfl rfl (rfl) ?_
  have g31 : ((-2147483648 : Int) ≤ σ16.2.1 51 a ∧ σ16.2.1 51 a ≤ 2147483647) := wf_51 w22 ha
  refine tn_callV (M := m_X5_zeroToNew) (pc := 29) (ix := 143) (ci := 1) (M' := m_X1_lastOperand) (As := [.int (iI 0), .int (iI (σ16.2.1 50 a)), .int (iI (σ16.2.1 51 a))]) (rest := []) dX5_zeroToNew_29 ok_X1_lastOperand im_X1_lastOperand se_X1_lastOperand ml5_143 np_X1_lastOperand rfl rfl hk28o rfl (Nat.le_of_ble_eq_true rfl) (Nat.le_of_ble_eq_true rfl) rfl (k_X1_lastOperand (d + 2) (T := T17) (σ := σ16) (a := x26) (i := 0) (k := σ16.2.1 50 a) (y := σ16.2.1 51 a) hk28o (by decide) (by omega) (by omega) w22 ) (fun r32 T34 σ33 gt35 hp => ?_)
  obtain ⟨rfl, rfl, w37, F38⟩ := hp
  clear gt35
  have fx39 : RDX σ33 a Sx nx jx (cx) (Nx + 1) := RDX.fc fx24 w22 ha F38 (by decide) (by decide)
  have rp40 : RP σ33 a (kp + 1) := RP.frc rp25 F38 (by decide) (by decide) (by decide) (by decide) (by decide)
  show Tn _ _ 32 T17 σ33 [(1, .int (iI v6)), (0, .ref a)] [] _
  refine tn_iload_n dX5_zeroToNew_32 rfl 0 rfl ?_
  exact tn_iret rfl dX5_zeroToNew_33 ⟨_, rfl, w37, (((FrC.rfl.trans (FrC.sub F8 (by decide))).trans (FrC.sub F23 (by decide))).trans (FrC.sub (FrC.old F38 gt18) (by decide))), by omega, RDX.nq fx39 (by omega), (RP.up rp40 (by omega))⟩
end
section
set_option maxHeartbeats 4000000 in
set_option maxRecDepth 20000 in
theorem l_X5_nameIndex_f_2 (d : Nat) {T : CT} {σ : MS} {a : Nat} {c1 : Int} {post : Option Value → CT → MS → Prop} (h_a : OB T a 5) (r_c1 : -2147483648 ≤ c1 ∧ c1 ≤ 2147483647) (hw : WT T σ) (hx_32 : ∀ (i2 : Int) , (0 ≤ i2 ∧ i2 ≤ 2147483647) → (True) → (NIY σ a c1 i2) → Tn (d + 1) m_X5_nameIndex 32 T σ [(0, .ref a), (1, .int (iI c1)), (2, .int (iI i2))] [] post) (hx_40 : ∀ (i2 : Int) , (0 ≤ i2 ∧ i2 ≤ 2147483647) → (True) → (NIN σ a c1) → Tn (d + 1) m_X5_nameIndex 40 T σ [(0, .ref a), (1, .int (iI c1)), (2, .int (iI i2))] [] post) : ∀ (n : Nat) (i2 : Int) , (0 ≤ i2 ∧ i2 ≤ 2147483647) → (NIV σ a c1 i2) → (2147483700 - i2).toNat = n → Tn (d + 1) m_X5_nameIndex 2 T σ [(0, .ref a), (1, .int (iI c1)), (2, .int (iI i2))] [] post := by
  intro n
  induction n using Nat.strongRecOn with
  | _ n ih =>
    intro i2 r_i2 hni hm
    refine tn_iload_n dX5_nameIndex_2 rfl 2 rfl ?_
    refine tn_aload_n dX5_nameIndex_3 rfl 0 rfl ?_
    obtain ⟨x1, hx2, hk3⟩ : ∃ x : Nat, σ.2.1 35 a = (x : Int) ∧ (T x).1 = 31 := wf_35 hw h_a
    have hk3o : OB T x1 1 := ⟨by omega, by rw [hk3]; rfl, by omega⟩
    refine tn_getR (ci := 5) (i := 2) (n := 35) (x := x1) dX5_nameIndex_4 rfl lay_5 (by decide) fl5_47 h_a rfl rfl (hx2) ?_
    refine tn_getI (ci := 1) (i := 2) (n := 7) (t := σ.2.1 7 x1) dX5_nameIndex_7 rfl lay_1 (by decide) fl5_152 hk3o rfl rfl (rfl) ?_
    have g5 : ((0 : Int) ≤ σ.2.1 7 x1 ∧ σ.2.1 7 x1 ≤ 12) := wf_7 hw hk3o
    refine tn_icmp_ge (tgt := 40) dX5_nameIndex_10 (by decide) ⟨by omega, by omega⟩ ⟨by omega, by omega⟩ (fun h6 => ?_) (fun h6 => ?_)
    · obtain ⟨x7, hx8, hk9, hl10⟩ : ∃ x : Nat, σ.2.1 48 a = (x : Int) ∧ AR T x 21 12 12 := wf_48 hw h_a
      have hk9i : IA T x7 := by unfold IA; omega
      have g11 := wf_7 hw (code_ob hw h_a hx2)
      exact tn_sub [0, 1, 2] rfl (hx_40 (i2) (by omega) True.intro (fun d y h1 h2 i i0 i1 => by
            have e1 : d = x1 := by omega
            rw [e1] at i1; exact hni y h2 i i0 (by omega)))
    · refine tn_iload_n dX5_nameIndex_13 rfl 2 rfl ?_
      refine tn_aload_n dX5_nameIndex_14 rfl 0 rfl ?_
      obtain ⟨x12, hx13, hk14, hl15⟩ : ∃ x : Nat, σ.2.1 48 a = (x : Int) ∧ AR T x 21 12 12 := wf_48 hw h_a
      have hk14i : IA T x12 := by unfold IA; omega
      refine tn_getR (ci := 5) (i := 15) (n := 48) (x := x12) dX5_nameIndex_15 rfl lay_5 (by decide) fl5_40 h_a rfl rfl (hx13) ?_
      refine tn_alenX dX5_nameIndex_18 (Or.inl hk14i) ?_
      refine tn_icmp_ge (tgt := 40) dX5_nameIndex_19 (by decide) ⟨by omega, by omega⟩ ⟨by omega, by omega⟩ (fun h16 => absurd h16 (by omega)) (fun h16 => ?_)
      refine tn_aload_n dX5_nameIndex_22 rfl 0 rfl ?_
      refine tn_getR (ci := 5) (i := 15) (n := 48) (x := x12) dX5_nameIndex_23 rfl lay_5 (by decide) fl5_40 h_a rfl rfl (hx13) ?_
      refine tn_iload_n dX5_nameIndex_26 rfl 2 rfl ?_
      refine tn_ialdX (z := i2) hw dX5_nameIndex_27 hk14i (by omega) (by omega) (by omega) (fun v17 g18q g18 g18k => ?_)
      have g18Q := g18q
      clear g18k g18q
      refine tn_iload_n dX5_nameIndex_28 rfl 1 rfl ?_
      refine tn_icmp_ne (tgt := 34) dX5_nameIndex_29 (by decide) ⟨by omega, by omega⟩ ⟨by omega, by omega⟩ (fun h19 => ?_) (fun h19 => ?_)
      · refine tn_iinc (q0 := 2) (L' := [(2, .int (iI (i2 + 1))), (0, .ref a), (1, .int (iI c1))]) dX5_nameIndex_34 rfl (by decide) rfl ?_
        refine tn_goto (tgt := 2) dX5_nameIndex_37 (by decide) ?_
        exact tn_sub [1, 2, 0] rfl (ih _ (by omega) (i2 + 1) (by omega) (fun y hy i h1 h2 => by
              have e : y = x12 := by omega
              rw [e]
              by_cases q : i = i2
              · rw [q]; omega
              · exact hni x12 hx13 i h1 (by omega)) rfl)
      · exact tn_sub [0, 1, 2] rfl (hx_32 (i2) (by omega) True.intro (fun d y h1 h2 => by
              have e1 : d = x1 := by omega
              have e2 : y = x12 := by omega
              rw [e1, e2]; exact ⟨by omega, by omega, by omega⟩))
set_option maxHeartbeats 4000000 in
set_option maxRecDepth 20000 in
theorem k_X5_nameIndex_f (d : Nat) {T : CT} {σ : MS} {a : Nat} {k : Int} (ha : OB T a 5) (h_k : -2147483648 ≤ k ∧ k ≤ 2147483647) (hw : WT T σ) : Tn (d + 1) m_X5_nameIndex 0 T σ [(0, .ref a), (1, .int (iI k))] [] (fun ro T2 σ2 => ∃ v : Int, ro = some (.int (iI v)) ∧ T = T2 ∧ σ = σ2 ∧ (-2147483648 ≤ v ∧ v ≤ 2147483647) ∧ (NIQ σ a k v)) := by
  refine tn_iconst dX5_nameIndex_0 ?_
  refine tn_istore_n (L' := [(2, .int (iI 0)), (0, .ref a), (1, .int (iI k))]) dX5_nameIndex_1 rfl (by decide) rfl ?_
  refine tn_sub [1, 2, 0] rfl (l_X5_nameIndex_f_2 (d) (T := T) (σ := σ) (a := a) (c1 := k) ha (by omega) hw (fun i21 r7 f8 f9 => ?_) (fun i210 r16 f17 f18 => ?_) _ (0) (by omega) (fun _ _ i h1 h2 => absurd h2 (by omega)) rfl)
  · show Tn _ _ 32 T σ [(0, .ref a), (1, .int (iI k)), (2, .int (iI i21))] [] _
    refine tn_iload_n dX5_nameIndex_32 rfl 2 rfl ?_
    exact tn_iret rfl dX5_nameIndex_33 ⟨_, rfl, rfl, rfl, by omega, Or.inr ⟨by omega, f9⟩⟩
  · show Tn _ _ 40 T σ [(0, .ref a), (1, .int (iI k)), (2, .int (iI i210))] [] _
    refine tn_iconst dX5_nameIndex_40 ?_
    exact tn_iret rfl dX5_nameIndex_41 ⟨_, rfl, rfl, rfl, by omega, Or.inl ⟨rfl, f18⟩⟩
end
section
set_option maxHeartbeats 4000000 in
set_option maxRecDepth 20000 in
theorem l_X5_routineOf_f_2 (d : Nat) {T : CT} {σ : MS} {a : Nat} {c1 : Int} {post : Option Value → CT → MS → Prop} (h_a : OB T a 5) (r_c1 : -2147483648 ≤ c1 ∧ c1 ≤ 2147483647) (hw : WT T σ) (hx_22 : ∀ (i2 : Int) , (0 ≤ i2 ∧ i2 ≤ 2147483647) → (ROV σ a c1 i2) → (ROY σ a c1 i2) → Tn (d + 2) m_X5_routineOf 22 T σ [(0, .ref a), (1, .int (iI c1)), (2, .int (iI i2))] [] post) (hx_30 : ∀ (i2 : Int) , (0 ≤ i2 ∧ i2 ≤ 2147483647) → (ROV σ a c1 i2) → (σ.2.1 38 a ≤ i2) → Tn (d + 2) m_X5_routineOf 30 T σ [(0, .ref a), (1, .int (iI c1)), (2, .int (iI i2))] [] post) : ∀ (n : Nat) (i2 : Int) , (0 ≤ i2 ∧ i2 ≤ 2147483647) → (ROV σ a c1 i2) → (2147483700 - i2).toNat = n → Tn (d + 2) m_X5_routineOf 2 T σ [(0, .ref a), (1, .int (iI c1)), (2, .int (iI i2))] [] post := by
  intro n
  induction n using Nat.strongRecOn with
  | _ n ih =>
    intro i2 r_i2 hro hm
    refine tn_iload_n dX5_routineOf_2 rfl 2 rfl ?_
    refine tn_aload_n dX5_routineOf_3 rfl 0 rfl ?_
    refine tn_getI (ci := 5) (i := 5) (n := 38) (t := σ.2.1 38 a) dX5_routineOf_4 rfl lay_5 (by decide) fl5_58 h_a rfl rfl (rfl) ?_
    have g1 : ((0 : Int) ≤ σ.2.1 38 a ∧ σ.2.1 38 a ≤ 256) := wf_38 hw h_a
    refine tn_icmp_ge (tgt := 30) dX5_routineOf_7 (by decide) ⟨by omega, by omega⟩ ⟨by omega, by omega⟩ (fun h2 => ?_) (fun h2 => ?_)
    · exact tn_sub [0, 1, 2] rfl (hx_30 (i2) (by omega) hro (by omega))
    · refine tn_aload_n dX5_routineOf_10 rfl 0 rfl ?_
      obtain ⟨x3, hx4, hk5, hl6⟩ : ∃ x : Nat, σ.2.1 36 a = (x : Int) ∧ AR T x 16 256 256 := wf_36 hw h_a
      have hk5i : IA T x3 := by unfold IA; omega
      refine tn_getR (ci := 5) (i := 3) (n := 36) (x := x3) dX5_routineOf_11 rfl lay_5 (by decide) fl5_24 h_a rfl rfl (hx4) ?_
      refine tn_iload_n dX5_routineOf_14 rfl 2 rfl ?_
      refine tn_callSN (M := m_X5_routineOf) (pc := 15) (ix := 231) (M' := m_X11_at) (As := [.ref x3, .int (iI i2)]) (rest := []) dX5_routineOf_15 ok_X11_at stt_X11_at nl5_231 np_X11_at rfl (Nat.le_of_ble_eq_true rfl) (Nat.le_of_ble_eq_true rfl) rfl (k_X11_at (d) (T := T) (σ := σ) (x := x3) (i := i2) hk5i (by omega) (by omega) hw ) (fun r7 T9 σ8 gt10 hp => ?_)
      obtain ⟨v14, rfl, rfl, rfl, f11, f12, f13⟩ := hp
      clear gt10
      show Tn _ _ 18 T σ [(0, .ref a), (1, .int (iI c1)), (2, .int (iI i2))] [.int (iI v14)] _
      refine tn_iload_n dX5_routineOf_18 rfl 1 rfl ?_
      refine tn_icmp_ne (tgt := 24) dX5_routineOf_19 (by decide) ⟨by omega, by omega⟩ ⟨by omega, by omega⟩ (fun h15 => ?_) (fun h15 => ?_)
      · refine tn_iinc (q0 := 2) (L' := [(2, .int (iI (i2 + 1))), (0, .ref a), (1, .int (iI c1))]) dX5_routineOf_24 rfl (by decide) rfl ?_
        refine tn_goto (tgt := 2) dX5_routineOf_27 (by decide) ?_
        have g17 := (wf_36 hw h_a)
        have w16 : (T x3).2 = 256 := by
          obtain ⟨y, h1, -, h3, h4⟩ := g17
          have e : x3 = y := by omega
          rw [e]; omega
        exact tn_sub [1, 2, 0] rfl (ih _ (by omega) (i2 + 1) (by omega) (fun y hy i h1 h2 h3 => by
              have e : y = x3 := by omega
              rw [e]
              by_cases q : i = i2
              · have w9 := f13; unfold ATV at w9; rw [if_pos ⟨by omega, by omega⟩] at w9; rw [q]; omega
              · exact hro x3 hx4 i h1 (by omega) h3) rfl)
      · have g19 := (wf_36 hw h_a)
        have w18 : (T x3).2 = 256 := by
          obtain ⟨y, h1, -, h3, h4⟩ := g19
          have e : x3 = y := by omega
          rw [e]; omega
        exact tn_sub [0, 1, 2] rfl (hx_22 (i2) (by omega) hro ⟨⟨by omega, by omega⟩, fun y hy => by
              have e : y = x3 := by omega
              have w9 := f13; unfold ATV at w9; rw [if_pos ⟨by omega, by omega⟩] at w9; rw [e]; omega⟩)
set_option maxHeartbeats 4000000 in
set_option maxRecDepth 20000 in
theorem k_X5_routineOf_f (d : Nat) {T : CT} {σ : MS} {a : Nat} {k : Int} (ha : OB T a 5) (h_k : -2147483648 ≤ k ∧ k ≤ 2147483647) (hw : WT T σ) : Tn (d + 2) m_X5_routineOf 0 T σ [(0, .ref a), (1, .int (iI k))] [] (fun ro T2 σ2 => ∃ v : Int, ro = some (.int (iI v)) ∧ T = T2 ∧ σ = σ2 ∧ (-2147483648 ≤ v ∧ v ≤ 2147483647) ∧ (ROQ σ a k v)) := by
  refine tn_iconst dX5_routineOf_0 ?_
  refine tn_istore_n (L' := [(2, .int (iI 0)), (0, .ref a), (1, .int (iI k))]) dX5_routineOf_1 rfl (by decide) rfl ?_
  refine tn_sub [1, 2, 0] rfl (l_X5_routineOf_f_2 (d) (T := T) (σ := σ) (a := a) (c1 := k) ha (by omega) hw (fun i21 r7 f8 f9 => ?_) (fun i210 r16 f17 f18 => ?_) _ (0) (by omega) (fun _ _ i h1 h2 _ => absurd h2 (by omega)) rfl)
  · show Tn _ _ 22 T σ [(0, .ref a), (1, .int (iI k)), (2, .int (iI i21))] [] _
    refine tn_iload_n dX5_routineOf_22 rfl 2 rfl ?_
    exact tn_iret rfl dX5_routineOf_23 ⟨_, rfl, rfl, rfl, by omega, Or.inr ⟨f9, f8⟩⟩
  · show Tn _ _ 30 T σ [(0, .ref a), (1, .int (iI k)), (2, .int (iI i210))] [] _
    refine tn_iconst dX5_routineOf_30 ?_
    exact tn_iret rfl dX5_routineOf_31 ⟨_, rfl, rfl, rfl, by omega, Or.inl ⟨rfl, fun y hy i h1 h2 h3 => f17 y hy i h1 (by have q9 := f18; omega) h3⟩⟩
end
section
set_option maxHeartbeats 4000000 in
set_option maxRecDepth 20000 in
theorem k_X5_register_f (d : Nat) {T : CT} {σ : MS} {a : Nat} {Sx : Int → Int} {nx jx : Nat} {cx : CS} {Nx : Int} (ha : OB T a 5) (hw : WT T σ) (hfx : RDX σ a Sx nx jx cx Nx) (hkd : ckd (tkS Sx jx) = 256) : Tn (d + 2) m_X5_register 0 T σ [(0, .ref a)] [] (fun ro T2 σ2 => ∃ v : Int, ro = some (.int (iI v)) ∧ T = T2 ∧ WT T2 σ2 ∧ FrC T [7, 43, 44, 521] σ σ2 ∧ (-2147483648 ≤ v ∧ v ≤ 2147483647) ∧ (RDX σ2 a Sx nx jx (uC cx (4, (tkS Sx jx).1, 0, (tkS Sx jx).2.2.2.2)) Nx)) := by
  have hSb := hfx.1.sb
  refine tn_aload_n dX5_register_0 rfl 0 rfl ?_
  refine tn_aload_n dX5_register_1 rfl 0 rfl ?_
  obtain ⟨x1, hx2, hk3⟩ : ∃ x : Nat, σ.2.1 33 a = (x : Int) ∧ (T x).1 = 39 := wf_33 hw ha
  have hk3o : OB T x1 9 := ⟨by omega, by rw [hk3]; rfl, by omega⟩
  refine tn_getR (ci := 5) (i := 0) (n := 33) (x := x1) dX5_register_2 rfl lay_5 (by decide) fl5_12 ha rfl rfl (hx2) ?_
  refine tn_getI (ci := 9) (i := 5) (n := 86) (t := σ.2.1 86 x1) dX5_register_5 rfl lay_9 (by decide) fl5_96 hk3o rfl rfl (rfl) ?_
  have g5 : ((-2147483648 : Int) ≤ σ.2.1 86 x1 ∧ σ.2.1 86 x1 ≤ 2147483647) := wf_86 hw hk3o
  have g5ky : NKY (tkS Sx jx) (σ.2.1 86 x1) := by rw [← show σ.2.1 86 x1 = σ.2.1 86 x1 from rfl]; exact (hfx).1.ky (hx2)
  refine tn_callV (M := m_X5_register) (pc := 8) (ix := 173) (ci := 5) (M' := m_X5_nameIndex) (As := [.int (iI (σ.2.1 86 x1))]) (rest := []) dX5_register_8 ok_X5_nameIndex im_X5_nameIndex se_X5_nameIndex ml5_173 np_X5_nameIndex rfl rfl ha rfl (Nat.le_of_ble_eq_true rfl) (Nat.le_of_ble_eq_true rfl) rfl (k_X5_nameIndex_f (d) (T := T) (σ := σ) (a := a) (k := σ.2.1 86 x1) ha (by omega) hw ) (fun r6 T8 σ7 gt9 hp => ?_)
  obtain ⟨v12, rfl, rfl, rfl, f10, f11⟩ := hp
  clear gt9
  have nf13k : KW (σ.2.1 86 x1) (tkS Sx jx).2.2.2.2 := g5ky.kw ((ck_nam (tkS_v hSb jx)).mp hkd).1
  have nf13 : v12 ≠ -1 ↔ fndC cx (tkS Sx jx).2.2.2.2 := NIQ.fd f11 hfx.2.1 hw ha nf13k
  show Tn _ _ 11 T σ [(0, .ref a)] [.int (iI v12)] _
  refine tn_istore_n (L' := [(1, .int (iI v12)), (0, .ref a)]) dX5_register_11 rfl (by decide) rfl ?_
  refine tn_iload_n dX5_register_12 rfl 0 rfl ?_
  refine tn_iconst dX5_register_13 ?_
  refine tn_icmp_eq (tgt := 19) dX5_register_14 (by decide) ⟨by omega, by omega⟩ ⟨by decide, by decide⟩ (fun h14 => ?_) (fun h14 => ?_)
  · obtain ⟨x15, hx16, hk17⟩ : ∃ x : Nat, σ.2.1 35 a = (x : Int) ∧ (T x).1 = 31 := wf_35 hw ha
    have hk17o : OB T x15 1 := ⟨by omega, by rw [hk17]; rfl, by omega⟩
    have g719 : σ.2.1 7 x15 = cx.nn := hfx.2.1.1 x15 hx16
    refine tn_aload_n dX5_register_19 rfl 1 rfl ?_
    refine tn_getR (ci := 5) (i := 2) (n := 35) (x := x15) dX5_register_20 rfl lay_5 (by decide) fl5_47 ha rfl rfl (hx16) ?_
    refine tn_getI (ci := 1) (i := 2) (n := 7) (t := σ.2.1 7 x15) dX5_register_23 rfl lay_1 (by decide) fl5_152 hk17o rfl rfl (rfl) ?_
    have g20 : ((0 : Int) ≤ σ.2.1 7 x15 ∧ σ.2.1 7 x15 ≤ 12) := wf_7 hw hk17o
    refine tn_bipush dX5_register_26 (by decide) ?_
    refine tn_icmp_lt (tgt := 45) dX5_register_28 (by decide) ⟨by omega, by omega⟩ ⟨by decide, by decide⟩ (fun h21 => ?_) (fun h21 => ?_)
    · refine tn_aload_n dX5_register_45 rfl 1 rfl ?_
      obtain ⟨x22, hx23, hk24, hl25⟩ : ∃ x : Nat, σ.2.1 48 a = (x : Int) ∧ AR T x 21 12 12 := wf_48 hw ha
      have hk24i : IA T x22 := by unfold IA; omega
      refine tn_getR (ci := 5) (i := 15) (n := 48) (x := x22) dX5_register_46 rfl lay_5 (by decide) fl5_40 ha rfl rfl (hx23) ?_
      refine tn_aload_n dX5_register_49 rfl 1 rfl ?_
      refine tn_getR (ci := 5) (i := 2) (n := 35) (x := x15) dX5_register_50 rfl lay_5 (by decide) fl5_47 ha rfl rfl (hx16) ?_
      refine tn_getI (ci := 1) (i := 2) (n := 7) (t := σ.2.1 7 x15) dX5_register_53 rfl lay_1 (by decide) fl5_152 hk17o rfl rfl (rfl) ?_
      refine tn_aload_n dX5_register_56 rfl 1 rfl ?_
      refine tn_getR (ci := 5) (i := 0) (n := 33) (x := x1) dX5_register_57 rfl lay_5 (by decide) fl5_12 ha rfl rfl (hx2) ?_
      refine tn_getI (ci := 9) (i := 5) (n := 86) (t := σ.2.1 86 x1) dX5_register_60 rfl lay_9 (by decide) fl5_96 hk3o rfl rfl (rfl) ?_
      refine tn_callSN (M := m_X5_register) (pc := 63) (ix := 129) (M' := m_X11_put) (As := [.ref x22, .int (iI (σ.2.1 7 x15)), .int (iI (σ.2.1 86 x1))]) (rest := []) dX5_register_63 ok_X11_put stt_X11_put nl5_129 np_X11_put rfl (Nat.le_of_ble_eq_true rfl) (Nat.le_of_ble_eq_true rfl) rfl (k_X11_put_21 (d) (T := T) (σ := σ) (x := x22) (i := σ.2.1 7 x15) (y := σ.2.1 86 x1) hk24i (by omega) hk24 (by omega) (by omega) hw ) (fun r26 T28 σ27 gt29 hp => ?_)
      obtain ⟨rfl, rfl, w32, F33, f30⟩ := hp
      clear gt29
      show Tn _ _ 66 T σ27 [(1, .int (iI v12)), (0, .ref a)] [] _
      refine tn_aload_n dX5_register_66 rfl 1 rfl ?_
      refine tn_getR (ci := 5) (i := 2) (n := 35) (x := x15) dX5_register_67 rfl lay_5 (by decide) fl5_47 ha rfl rfl (rc_F F33 (Or.inl (by decide)) (by decide) (hx16)) ?_
      refine tn_dup dX5_register_70 rfl ?_
      refine tn_getI (ci := 1) (i := 2) (n := 7) (t := σ.2.1 7 x15) dX5_register_71 rfl lay_1 (by decide) fl5_152 hk17o rfl rfl (rc_F F33 (Or.inl (by decide)) (by decide) (rfl)) ?_
      refine tn_iconst dX5_register_74 ?_
      refine tn_iadd dX5_register_75 ?_
      refine tn_putV (ci := 1) (i := 2) (n := 7) (r := false) (v := (σ.2.1 7 x15) + 1) tyX1 tyX1_ok nmX1 dX5_register_76 rfl lay_1 (by decide) fl5_152 rfl (tyX1_ok 2 (by decide)) rfl rfl rfl hk17o rfl rfl ?_
      refine tn_aload_n dX5_register_79 rfl 1 rfl ?_
      refine tn_getR (ci := 5) (i := 2) (n := 35) (x := x15) dX5_register_80 rfl lay_5 (by decide) fl5_47 ha rfl rfl (rc_o (by decide) (rc_F F33 (Or.inl (by decide)) (by decide) (hx16))) ?_
      refine tn_getI (ci := 1) (i := 2) (n := 7) (t := (σ.2.1 7 x15) + 1) dX5_register_83 rfl lay_1 (by decide) fl5_152 hk17o rfl rfl (ra_eq) ?_
      refine tn_iconst dX5_register_86 ?_
      refine tn_isub dX5_register_87 ?_
      have w34 := RDX.nw hfx hw ha hx23 hx16 nf13k F33 (by rw [f30, if_pos ⟨by omega, by omega⟩, g719])
      exact tn_iret rfl dX5_register_88 ⟨_, rfl, rfl, (w32.put (by decide) (by decide) (fo_7 (by omega))), ((FrC.rfl.trans (FrC.sub F33 (by decide))).put (by decide) (by decide)), by omega, RDX.cq (by rw [← g719] at w34; exact w34) (uC4w (fun q => absurd (nf13.mpr q) (by omega)) (by omega)).symm⟩
    · refine tn_aload_n dX5_register_31 rfl 1 rfl ?_
      refine tn_iconst dX5_register_32 ?_
      refine tn_aload_n dX5_register_33 rfl 1 rfl ?_
      refine tn_getR (ci := 5) (i := 0) (n := 33) (x := x1) dX5_register_34 rfl lay_5 (by decide) fl5_12 ha rfl rfl (hx2) ?_
      refine tn_getI (ci := 9) (i := 6) (n := 87) (t := σ.2.1 87 x1) dX5_register_37 rfl lay_9 (by decide) fl5_74 hk3o rfl rfl (rfl) ?_
      have g35 : ((-2147483648 : Int) ≤ σ.2.1 87 x1 ∧ σ.2.1 87 x1 ≤ 2147483647) := wf_87 hw hk3o
      have g35pl : σ.2.1 87 x1 = (tkS Sx jx).1 := (rfl).symm.trans ((hfx).1.pl (hx2))
      refine tn_callV (M := m_X5_register) (pc := 40) (ix := 113) (ci := 5) (M' := m_X5_note) (As := [.int (iI 5), .int (iI (σ.2.1 87 x1))]) (rest := []) dX5_register_40 ok_X5_note im_X5_note se_X5_note ml5_113 np_X5_note rfl rfl ha rfl (Nat.le_of_ble_eq_true rfl) (Nat.le_of_ble_eq_true rfl) rfl (k_X5_note_f (d) (T := T) (σ := σ) (a := a) (f := 5) (p := σ.2.1 87 x1) ha (by decide) (by omega) hw ) (fun r36 T38 σ37 gt39 hp => ?_)
      obtain ⟨rfl, rfl, w42, F43, f40⟩ := hp
      clear gt39
      have fx44 : RDX σ37 a Sx nx jx (fpC (cntN 5 (σ.2.1 87 x1) (cx).fp) (cx)) (Nx) := RDX.nt hfx hw ha F43 f40
      show Tn _ _ 43 T σ37 [(1, .int (iI v12)), (0, .ref a)] [] _
      refine tn_iconst dX5_register_43 ?_
      exact tn_iret rfl dX5_register_44 ⟨_, rfl, rfl, w42, (FrC.rfl.trans (FrC.sub F43 (by decide))), by omega, RDX.cq fx44 (by rw [g35pl]; exact (uC4n (fun q => absurd (nf13.mpr q) (by omega)) (by omega)).symm)⟩
  · refine tn_iload_n dX5_register_17 rfl 0 rfl ?_
    exact tn_iret rfl dX5_register_18 ⟨_, rfl, rfl, hw, FrC.rfl, by omega, RDX.cq hfx (uC4f (nf13.mp (by omega))).symm⟩
end
section
set_option maxHeartbeats 4000000 in
set_option maxRecDepth 20000 in
theorem k_X5_parameter_f (d : Nat) {T : CT} {σ : MS} {a : Nat} {c : Int} {Sx : Int → Int} {nx jx : Nat} {cx : CS} {Nx : Int} (ha : OB T a 5) (h_c : -2147483648 ≤ c ∧ c ≤ 2147483647) (hw : WT T σ) (hc : 1 ≤ c) (hfx : RDX σ a Sx nx jx cx Nx) (hkd : ckd (tkS Sx jx) = 256) (hrn : 1 ≤ cx.rn ∧ cx.rn ≤ 256) : Tn (d + 3) m_X5_parameter 0 T σ [(0, .ref a), (1, .int (iI c))] [] (fun ro T2 σ2 => ro = none ∧ T = T2 ∧ WT T2 σ2 ∧ FrC T [7, 8, 43, 44, 517, 521] σ σ2 ∧ (RDX σ2 a Sx nx jx (uC cx (3, (tkS Sx jx).1, c - 1, (tkS Sx jx).2.2.2.2)) Nx)) := by
  have hSb := hfx.1.sb
  have e38 : σ.2.1 38 a = cx.rn := hfx.1.2.1.1.2.2.1
  refine tn_aload_n dX5_parameter_0 rfl 0 rfl ?_
  refine tn_aload_n dX5_parameter_1 rfl 0 rfl ?_
  obtain ⟨x1, hx2, hk3⟩ : ∃ x : Nat, σ.2.1 33 a = (x : Int) ∧ (T x).1 = 39 := wf_33 hw ha
  have hk3o : OB T x1 9 := ⟨by omega, by rw [hk3]; rfl, by omega⟩
  refine tn_getR (ci := 5) (i := 0) (n := 33) (x := x1) dX5_parameter_2 rfl lay_5 (by decide) fl5_12 ha rfl rfl (hx2) ?_
  refine tn_getI (ci := 9) (i := 5) (n := 86) (t := σ.2.1 86 x1) dX5_parameter_5 rfl lay_9 (by decide) fl5_96 hk3o rfl rfl (rfl) ?_
  have g5 : ((-2147483648 : Int) ≤ σ.2.1 86 x1 ∧ σ.2.1 86 x1 ≤ 2147483647) := wf_86 hw hk3o
  have g5ky : NKY (tkS Sx jx) (σ.2.1 86 x1) := by rw [← show σ.2.1 86 x1 = σ.2.1 86 x1 from rfl]; exact (hfx).1.ky (hx2)
  refine tn_callV (M := m_X5_parameter) (pc := 8) (ix := 173) (ci := 5) (M' := m_X5_nameIndex) (As := [.int (iI (σ.2.1 86 x1))]) (rest := []) dX5_parameter_8 ok_X5_nameIndex im_X5_nameIndex se_X5_nameIndex ml5_173 np_X5_nameIndex rfl rfl ha rfl (Nat.le_of_ble_eq_true rfl) (Nat.le_of_ble_eq_true rfl) rfl (k_X5_nameIndex_f (d + 1) (T := T) (σ := σ) (a := a) (k := σ.2.1 86 x1) ha (by omega) hw ) (fun r6 T8 σ7 gt9 hp => ?_)
  obtain ⟨v12, rfl, rfl, rfl, f10, f11⟩ := hp
  clear gt9
  have nf13k : KW (σ.2.1 86 x1) (tkS Sx jx).2.2.2.2 := g5ky.kw ((ck_nam (tkS_v hSb jx)).mp hkd).1
  have nf13 : v12 ≠ -1 ↔ fndC cx (tkS Sx jx).2.2.2.2 := NIQ.fd f11 hfx.2.1 hw ha nf13k
  show Tn _ _ 11 T σ [(0, .ref a), (1, .int (iI c))] [.int (iI v12)] _
  refine tn_iconst dX5_parameter_11 ?_
  refine tn_icmp_eq (tgt := 27) dX5_parameter_12 (by decide) ⟨by omega, by omega⟩ ⟨by decide, by decide⟩ (fun h14 => ?_) (fun h14 => ?_)
  · refine tn_iload_n dX5_parameter_27 rfl 1 rfl ?_
    refine tn_iconst dX5_parameter_28 ?_
    refine tn_icmp_le (tgt := 44) dX5_parameter_29 (by decide) ⟨by omega, by omega⟩ ⟨by decide, by decide⟩ (fun h15 => ?_) (fun h15 => ?_)
    · refine tn_aload_n dX5_parameter_44 rfl 0 rfl ?_
      refine tn_callV (M := m_X5_parameter) (pc := 45) (ix := 176) (ci := 5) (M' := m_X5_register) (As := []) (rest := []) dX5_parameter_45 ok_X5_register im_X5_register se_X5_register ml5_176 np_X5_register rfl rfl ha rfl (Nat.le_of_ble_eq_true rfl) (Nat.le_of_ble_eq_true rfl) rfl (k_X5_register_f (d) (T := T) (σ := σ) (a := a) ha hw hfx hkd) (fun r16 T18 σ17 gt19 hp => ?_)
      obtain ⟨v22, rfl, rfl, w23, F24, f20, f21⟩ := hp
      clear gt19
      show Tn _ _ 48 T σ17 [(0, .ref a), (1, .int (iI c))] [.int (iI v22)] _
      refine tn_pop dX5_parameter_48 rfl ?_
      refine tn_aload_n dX5_parameter_49 rfl 0 rfl ?_
      obtain ⟨x25, hx26, hk27, hl28⟩ : ∃ x : Nat, σ.2.1 37 a = (x : Int) ∧ AR T x 17 256 256 := wf_37 hw ha
      have hk27i : IA T x25 := by unfold IA; omega
      refine tn_getR (ci := 5) (i := 4) (n := 37) (x := x25) dX5_parameter_50 rfl lay_5 (by decide) fl5_28 ha rfl rfl (rc_F F24 (Or.inl (by decide)) (by decide) (hx26)) ?_
      refine tn_aload_n dX5_parameter_53 rfl 0 rfl ?_
      refine tn_getI (ci := 5) (i := 5) (n := 38) (t := σ.2.1 38 a) dX5_parameter_54 rfl lay_5 (by decide) fl5_58 ha rfl rfl (rc_F F24 (Or.inl (by decide)) (by decide) (rfl)) ?_
      have g29 : ((0 : Int) ≤ σ.2.1 38 a ∧ σ.2.1 38 a ≤ 256) := wf_38 hw ha
      refine tn_iconst dX5_parameter_57 ?_
      refine tn_isub dX5_parameter_58 ?_
      refine tn_iload_n dX5_parameter_59 rfl 1 rfl ?_
      refine tn_callSN (M := m_X5_parameter) (pc := 60) (ix := 129) (M' := m_X11_put) (As := [.ref x25, .int (iI ((σ.2.1 38 a) - 1)), .int (iI c)]) (rest := []) dX5_parameter_60 ok_X11_put stt_X11_put nl5_129 np_X11_put rfl (Nat.le_of_ble_eq_true rfl) (Nat.le_of_ble_eq_true rfl) rfl (k_X11_put_17 (d + 1) (T := T) (σ := σ17) (x := x25) (i := (σ.2.1 38 a) - 1) (y := c) hk27i (by omega) hk27 (by omega) (by omega) w23 ) (fun r30 T32 σ31 gt33 hp => ?_)
      obtain ⟨rfl, rfl, w36, F37, f34⟩ := hp
      clear gt33
      have fx38e : σ.2.1 38 a = (uC (cx) (4, (tkS Sx jx).1, 0, (tkS Sx jx).2.2.2.2)).rn := (rc_F F24 (Or.inl (by decide)) (by decide) (rfl)).symm.trans (f21).1.2.1.1.2.2.1
      have fx38 : RDX σ31 a Sx nx jx (rpC (c) (uC (cx) (4, (tkS Sx jx).1, 0, (tkS Sx jx).2.2.2.2))) (Nx) := RDX.rp f21 w23 ha (rc_F F24 (Or.inl (by decide)) (by decide) (hx26)) F37 (by rw [f34, if_pos ⟨by omega, by omega⟩, fx38e])
      show Tn _ _ 63 T σ31 [(0, .ref a), (1, .int (iI c))] [] _
      refine tn_aload_n dX5_parameter_63 rfl 0 rfl ?_
      obtain ⟨x39, hx40, hk41⟩ : ∃ x : Nat, σ.2.1 35 a = (x : Int) ∧ (T x).1 = 31 := wf_35 hw ha
      have hk41o : OB T x39 1 := ⟨by omega, by rw [hk41]; rfl, by omega⟩
      refine tn_getR (ci := 5) (i := 2) (n := 35) (x := x39) dX5_parameter_64 rfl lay_5 (by decide) fl5_47 ha rfl rfl (rc_F F37 (Or.inl (by decide)) (by decide) (rc_F F24 (Or.inl (by decide)) (by decide) (hx40))) ?_
      refine tn_iload_n dX5_parameter_67 rfl 1 rfl ?_
      refine tn_iconst dX5_parameter_68 ?_
      refine tn_mmin (x := c) (y := 4) dX5_parameter_69 mlm5_117 stM_min iniM cdM_min (by omega) (Nat.le_of_ble_eq_true rfl) ⟨by omega, by omega⟩ ⟨by omega, by omega⟩ (fun z43 g44 => ?_)
      refine tn_putV (ci := 1) (i := 3) (n := 8) (r := false) (v := z43) tyX1 tyX1_ok nmX1 dX5_parameter_72 rfl lay_1 (by decide) fl5_180 rfl (tyX1_ok 3 (by decide)) rfl rfl rfl hk41o rfl rfl ?_
      exact tn_vret rfl dX5_parameter_75 ⟨rfl, rfl, (w36.put (by decide) (by decide) (fo_8 (by omega))), (((FrC.rfl.trans (FrC.sub F24 (by decide))).trans (FrC.sub F37 (by decide))).put (by decide) (by decide)), RDX.cq (fx38.pt (by decide) (by decide)) (by rw [uC3c]; unfold ifN; rw [ifP_f (show ¬ 4 ≤ c - 1 by omega), ifP_f (fun q => absurd (nf13.mpr q) (by omega)), show (c - 1 + 1 : Int) = c by omega])⟩
    · refine tn_aload_n dX5_parameter_32 rfl 0 rfl ?_
      refine tn_iconst dX5_parameter_33 ?_
      refine tn_aload_n dX5_parameter_34 rfl 0 rfl ?_
      refine tn_getR (ci := 5) (i := 0) (n := 33) (x := x1) dX5_parameter_35 rfl lay_5 (by decide) fl5_12 ha rfl rfl (hx2) ?_
      refine tn_getI (ci := 9) (i := 6) (n := 87) (t := σ.2.1 87 x1) dX5_parameter_38 rfl lay_9 (by decide) fl5_74 hk3o rfl rfl (rfl) ?_
      have g45 : ((-2147483648 : Int) ≤ σ.2.1 87 x1 ∧ σ.2.1 87 x1 ≤ 2147483647) := wf_87 hw hk3o
      have g45pl : σ.2.1 87 x1 = (tkS Sx jx).1 := (rfl).symm.trans ((hfx).1.pl (hx2))
      refine tn_callV (M := m_X5_parameter) (pc := 41) (ix := 113) (ci := 5) (M' := m_X5_note) (As := [.int (iI 5), .int (iI (σ.2.1 87 x1))]) (rest := []) dX5_parameter_41 ok_X5_note im_X5_note se_X5_note ml5_113 np_X5_note rfl rfl ha rfl (Nat.le_of_ble_eq_true rfl) (Nat.le_of_ble_eq_true rfl) rfl (k_X5_note_f (d + 1) (T := T) (σ := σ) (a := a) (f := 5) (p := σ.2.1 87 x1) ha (by decide) (by omega) hw ) (fun r46 T48 σ47 gt49 hp => ?_)
      obtain ⟨rfl, rfl, w52, F53, f50⟩ := hp
      clear gt49
      have fx54 : RDX σ47 a Sx nx jx (fpC (cntN 5 (σ.2.1 87 x1) (cx).fp) (cx)) (Nx) := RDX.nt hfx hw ha F53 f50
      show Tn _ _ 44 T σ47 [(0, .ref a), (1, .int (iI c))] [] _
      refine tn_aload_n dX5_parameter_44 rfl 0 rfl ?_
      refine tn_callV (M := m_X5_parameter) (pc := 45) (ix := 176) (ci := 5) (M' := m_X5_register) (As := []) (rest := []) dX5_parameter_45 ok_X5_register im_X5_register se_X5_register ml5_176 np_X5_register rfl rfl ha rfl (Nat.le_of_ble_eq_true rfl) (Nat.le_of_ble_eq_true rfl) rfl (k_X5_register_f (d) (T := T) (σ := σ47) (a := a) ha w52 fx54 hkd) (fun r55 T57 σ56 gt58 hp => ?_)
      obtain ⟨v61, rfl, rfl, w62, F63, f59, f60⟩ := hp
      clear gt58
      show Tn _ _ 48 T σ56 [(0, .ref a), (1, .int (iI c))] [.int (iI v61)] _
      refine tn_pop dX5_parameter_48 rfl ?_
      refine tn_aload_n dX5_parameter_49 rfl 0 rfl ?_
      obtain ⟨x64, hx65, hk66, hl67⟩ : ∃ x : Nat, σ.2.1 37 a = (x : Int) ∧ AR T x 17 256 256 := wf_37 hw ha
      have hk66i : IA T x64 := by unfold IA; omega
      refine tn_getR (ci := 5) (i := 4) (n := 37) (x := x64) dX5_parameter_50 rfl lay_5 (by decide) fl5_28 ha rfl rfl (rc_F F63 (Or.inl (by decide)) (by decide) (rc_F F53 (Or.inl (by decide)) (by decide) (hx65))) ?_
      refine tn_aload_n dX5_parameter_53 rfl 0 rfl ?_
      refine tn_getI (ci := 5) (i := 5) (n := 38) (t := σ.2.1 38 a) dX5_parameter_54 rfl lay_5 (by decide) fl5_58 ha rfl rfl (rc_F F63 (Or.inl (by decide)) (by decide) (rc_F F53 (Or.inl (by decide)) (by decide) (rfl))) ?_
      have g68 : ((0 : Int) ≤ σ.2.1 38 a ∧ σ.2.1 38 a ≤ 256) := wf_38 hw ha
      refine tn_iconst dX5_parameter_57 ?_
      refine tn_isub dX5_parameter_58 ?_
      refine tn_iload_n dX5_parameter_59 rfl 1 rfl ?_
      refine tn_callSN (M := m_X5_parameter) (pc := 60) (ix := 129) (M' := m_X11_put) (As := [.ref x64, .int (iI ((σ.2.1 38 a) - 1)), .int (iI c)]) (rest := []) dX5_parameter_60 ok_X11_put stt_X11_put nl5_129 np_X11_put rfl (Nat.le_of_ble_eq_true rfl) (Nat.le_of_ble_eq_true rfl) rfl (k_X11_put_17 (d + 1) (T := T) (σ := σ56) (x := x64) (i := (σ.2.1 38 a) - 1) (y := c) hk66i (by omega) hk66 (by omega) (by omega) w62 ) (fun r69 T71 σ70 gt72 hp => ?_)
      obtain ⟨rfl, rfl, w75, F76, f73⟩ := hp
      clear gt72
      have fx77e : σ.2.1 38 a = (uC (fpC (cntN 5 (σ.2.1 87 x1) (cx).fp) (cx)) (4, (tkS Sx jx).1, 0, (tkS Sx jx).2.2.2.2)).rn := (rc_F F63 (Or.inl (by decide)) (by decide) (rc_F F53 (Or.inl (by decide)) (by decide) (rfl))).symm.trans (f60).1.2.1.1.2.2.1
      have fx77 : RDX σ70 a Sx nx jx (rpC (c) (uC (fpC (cntN 5 (σ.2.1 87 x1) (cx).fp) (cx)) (4, (tkS Sx jx).1, 0, (tkS Sx jx).2.2.2.2))) (Nx) := RDX.rp f60 w62 ha (rc_F F63 (Or.inl (by decide)) (by decide) (rc_F F53 (Or.inl (by decide)) (by decide) (hx65))) F76 (by rw [f73, if_pos ⟨by omega, by omega⟩, fx77e])
      show Tn _ _ 63 T σ70 [(0, .ref a), (1, .int (iI c))] [] _
      refine tn_aload_n dX5_parameter_63 rfl 0 rfl ?_
      obtain ⟨x78, hx79, hk80⟩ : ∃ x : Nat, σ.2.1 35 a = (x : Int) ∧ (T x).1 = 31 := wf_35 hw ha
      have hk80o : OB T x78 1 := ⟨by omega, by rw [hk80]; rfl, by omega⟩
      refine tn_getR (ci := 5) (i := 2) (n := 35) (x := x78) dX5_parameter_64 rfl lay_5 (by decide) fl5_47 ha rfl rfl (rc_F F76 (Or.inl (by decide)) (by decide) (rc_F F63 (Or.inl (by decide)) (by decide) (rc_F F53 (Or.inl (by decide)) (by decide) (hx79)))) ?_
      refine tn_iload_n dX5_parameter_67 rfl 1 rfl ?_
      refine tn_iconst dX5_parameter_68 ?_
      refine tn_mmin (x := c) (y := 4) dX5_parameter_69 mlm5_117 stM_min iniM cdM_min (by omega) (Nat.le_of_ble_eq_true rfl) ⟨by omega, by omega⟩ ⟨by omega, by omega⟩ (fun z82 g83 => ?_)
      refine tn_putV (ci := 1) (i := 3) (n := 8) (r := false) (v := z82) tyX1 tyX1_ok nmX1 dX5_parameter_72 rfl lay_1 (by decide) fl5_180 rfl (tyX1_ok 3 (by decide)) rfl rfl rfl hk80o rfl rfl ?_
      exact tn_vret rfl dX5_parameter_75 ⟨rfl, rfl, (w75.put (by decide) (by decide) (fo_8 (by omega))), ((((FrC.rfl.trans (FrC.sub F53 (by decide))).trans (FrC.sub F63 (by decide))).trans (FrC.sub F76 (by decide))).put (by decide) (by decide)), RDX.cq (fx77.pt (by decide) (by decide)) (by rw [uC3c]; unfold ifN; rw [ifP_t (show 4 ≤ c - 1 by omega), ifP_f (fun q => absurd (nf13.mpr q) (by omega)), show (c - 1 + 1 : Int) = c by omega, g45pl])⟩
  · refine tn_aload_n dX5_parameter_15 rfl 0 rfl ?_
    refine tn_iconst dX5_parameter_16 ?_
    refine tn_aload_n dX5_parameter_17 rfl 0 rfl ?_
    refine tn_getR (ci := 5) (i := 0) (n := 33) (x := x1) dX5_parameter_18 rfl lay_5 (by decide) fl5_12 ha rfl rfl (hx2) ?_
    refine tn_getI (ci := 9) (i := 6) (n := 87) (t := σ.2.1 87 x1) dX5_parameter_21 rfl lay_9 (by decide) fl5_74 hk3o rfl rfl (rfl) ?_
    have g84 : ((-2147483648 : Int) ≤ σ.2.1 87 x1 ∧ σ.2.1 87 x1 ≤ 2147483647) := wf_87 hw hk3o
    have g84pl : σ.2.1 87 x1 = (tkS Sx jx).1 := (rfl).symm.trans ((hfx).1.pl (hx2))
    refine tn_callV (M := m_X5_parameter) (pc := 24) (ix := 113) (ci := 5) (M' := m_X5_note) (As := [.int (iI 2), .int (iI (σ.2.1 87 x1))]) (rest := []) dX5_parameter_24 ok_X5_note im_X5_note se_X5_note ml5_113 np_X5_note rfl rfl ha rfl (Nat.le_of_ble_eq_true rfl) (Nat.le_of_ble_eq_true rfl) rfl (k_X5_note_f (d + 1) (T := T) (σ := σ) (a := a) (f := 2) (p := σ.2.1 87 x1) ha (by decide) (by omega) hw ) (fun r85 T87 σ86 gt88 hp => ?_)
    obtain ⟨rfl, rfl, w91, F92, f89⟩ := hp
    clear gt88
    have fx93 : RDX σ86 a Sx nx jx (fpC (cntN 2 (σ.2.1 87 x1) (cx).fp) (cx)) (Nx) := RDX.nt hfx hw ha F92 f89
    show Tn _ _ 27 T σ86 [(0, .ref a), (1, .int (iI c))] [] _
    refine tn_iload_n dX5_parameter_27 rfl 1 rfl ?_
    refine tn_iconst dX5_parameter_28 ?_
    refine tn_icmp_le (tgt := 44) dX5_parameter_29 (by decide) ⟨by omega, by omega⟩ ⟨by decide, by decide⟩ (fun h94 => ?_) (fun h94 => ?_)
    · refine tn_aload_n dX5_parameter_44 rfl 0 rfl ?_
      refine tn_callV (M := m_X5_parameter) (pc := 45) (ix := 176) (ci := 5) (M' := m_X5_register) (As := []) (rest := []) dX5_parameter_45 ok_X5_register im_X5_register se_X5_register ml5_176 np_X5_register rfl rfl ha rfl (Nat.le_of_ble_eq_true rfl) (Nat.le_of_ble_eq_true rfl) rfl (k_X5_register_f (d) (T := T) (σ := σ86) (a := a) ha w91 fx93 hkd) (fun r95 T97 σ96 gt98 hp => ?_)
      obtain ⟨v101, rfl, rfl, w102, F103, f99, f100⟩ := hp
      clear gt98
      show Tn _ _ 48 T σ96 [(0, .ref a), (1, .int (iI c))] [.int (iI v101)] _
      refine tn_pop dX5_parameter_48 rfl ?_
      refine tn_aload_n dX5_parameter_49 rfl 0 rfl ?_
      obtain ⟨x104, hx105, hk106, hl107⟩ : ∃ x : Nat, σ.2.1 37 a = (x : Int) ∧ AR T x 17 256 256 := wf_37 hw ha
      have hk106i : IA T x104 := by unfold IA; omega
      refine tn_getR (ci := 5) (i := 4) (n := 37) (x := x104) dX5_parameter_50 rfl lay_5 (by decide) fl5_28 ha rfl rfl (rc_F F103 (Or.inl (by decide)) (by decide) (rc_F F92 (Or.inl (by decide)) (by decide) (hx105))) ?_
      refine tn_aload_n dX5_parameter_53 rfl 0 rfl ?_
      refine tn_getI (ci := 5) (i := 5) (n := 38) (t := σ.2.1 38 a) dX5_parameter_54 rfl lay_5 (by decide) fl5_58 ha rfl rfl (rc_F F103 (Or.inl (by decide)) (by decide) (rc_F F92 (Or.inl (by decide)) (by decide) (rfl))) ?_
      have g108 : ((0 : Int) ≤ σ.2.1 38 a ∧ σ.2.1 38 a ≤ 256) := wf_38 hw ha
      refine tn_iconst dX5_parameter_57 ?_
      refine tn_isub dX5_parameter_58 ?_
      refine tn_iload_n dX5_parameter_59 rfl 1 rfl ?_
      refine tn_callSN (M := m_X5_parameter) (pc := 60) (ix := 129) (M' := m_X11_put) (As := [.ref x104, .int (iI ((σ.2.1 38 a) - 1)), .int (iI c)]) (rest := []) dX5_parameter_60 ok_X11_put stt_X11_put nl5_129 np_X11_put rfl (Nat.le_of_ble_eq_true rfl) (Nat.le_of_ble_eq_true rfl) rfl (k_X11_put_17 (d + 1) (T := T) (σ := σ96) (x := x104) (i := (σ.2.1 38 a) - 1) (y := c) hk106i (by omega) hk106 (by omega) (by omega) w102 ) (fun r109 T111 σ110 gt112 hp => ?_)
      obtain ⟨rfl, rfl, w115, F116, f113⟩ := hp
      clear gt112
      have fx117e : σ.2.1 38 a = (uC (fpC (cntN 2 (σ.2.1 87 x1) (cx).fp) (cx)) (4, (tkS Sx jx).1, 0, (tkS Sx jx).2.2.2.2)).rn := (rc_F F103 (Or.inl (by decide)) (by decide) (rc_F F92 (Or.inl (by decide)) (by decide) (rfl))).symm.trans (f100).1.2.1.1.2.2.1
      have fx117 : RDX σ110 a Sx nx jx (rpC (c) (uC (fpC (cntN 2 (σ.2.1 87 x1) (cx).fp) (cx)) (4, (tkS Sx jx).1, 0, (tkS Sx jx).2.2.2.2))) (Nx) := RDX.rp f100 w102 ha (rc_F F103 (Or.inl (by decide)) (by decide) (rc_F F92 (Or.inl (by decide)) (by decide) (hx105))) F116 (by rw [f113, if_pos ⟨by omega, by omega⟩, fx117e])
      show Tn _ _ 63 T σ110 [(0, .ref a), (1, .int (iI c))] [] _
      refine tn_aload_n dX5_parameter_63 rfl 0 rfl ?_
      obtain ⟨x118, hx119, hk120⟩ : ∃ x : Nat, σ.2.1 35 a = (x : Int) ∧ (T x).1 = 31 := wf_35 hw ha
      have hk120o : OB T x118 1 := ⟨by omega, by rw [hk120]; rfl, by omega⟩
      refine tn_getR (ci := 5) (i := 2) (n := 35) (x := x118) dX5_parameter_64 rfl lay_5 (by decide) fl5_47 ha rfl rfl (rc_F F116 (Or.inl (by decide)) (by decide) (rc_F F103 (Or.inl (by decide)) (by decide) (rc_F F92 (Or.inl (by decide)) (by decide) (hx119)))) ?_
      refine tn_iload_n dX5_parameter_67 rfl 1 rfl ?_
      refine tn_iconst dX5_parameter_68 ?_
      refine tn_mmin (x := c) (y := 4) dX5_parameter_69 mlm5_117 stM_min iniM cdM_min (by omega) (Nat.le_of_ble_eq_true rfl) ⟨by omega, by omega⟩ ⟨by omega, by omega⟩ (fun z122 g123 => ?_)
      refine tn_putV (ci := 1) (i := 3) (n := 8) (r := false) (v := z122) tyX1 tyX1_ok nmX1 dX5_parameter_72 rfl lay_1 (by decide) fl5_180 rfl (tyX1_ok 3 (by decide)) rfl rfl rfl hk120o rfl rfl ?_
      exact tn_vret rfl dX5_parameter_75 ⟨rfl, rfl, (w115.put (by decide) (by decide) (fo_8 (by omega))), ((((FrC.rfl.trans (FrC.sub F92 (by decide))).trans (FrC.sub F103 (by decide))).trans (FrC.sub F116 (by decide))).put (by decide) (by decide)), RDX.cq (fx117.pt (by decide) (by decide)) (by rw [uC3c]; unfold ifN; rw [ifP_f (show ¬ 4 ≤ c - 1 by omega), ifP_t (nf13.mp (by omega)), show (c - 1 + 1 : Int) = c by omega, g84pl])⟩
    · refine tn_aload_n dX5_parameter_32 rfl 0 rfl ?_
      refine tn_iconst dX5_parameter_33 ?_
      refine tn_aload_n dX5_parameter_34 rfl 0 rfl ?_
      refine tn_getR (ci := 5) (i := 0) (n := 33) (x := x1) dX5_parameter_35 rfl lay_5 (by decide) fl5_12 ha rfl rfl (rc_F F92 (Or.inl (by decide)) (by decide) (hx2)) ?_
      refine tn_getI (ci := 9) (i := 6) (n := 87) (t := σ.2.1 87 x1) dX5_parameter_38 rfl lay_9 (by decide) fl5_74 hk3o rfl rfl (rc_F F92 (Or.inl (by decide)) (by decide) (rfl)) ?_
      refine tn_callV (M := m_X5_parameter) (pc := 41) (ix := 113) (ci := 5) (M' := m_X5_note) (As := [.int (iI 5), .int (iI (σ.2.1 87 x1))]) (rest := []) dX5_parameter_41 ok_X5_note im_X5_note se_X5_note ml5_113 np_X5_note rfl rfl ha rfl (Nat.le_of_ble_eq_true rfl) (Nat.le_of_ble_eq_true rfl) rfl (k_X5_note_f (d + 1) (T := T) (σ := σ86) (a := a) (f := 5) (p := σ.2.1 87 x1) ha (by decide) (by omega) w91 ) (fun r124 T126 σ125 gt127 hp => ?_)
      obtain ⟨rfl, rfl, w130, F131, f128⟩ := hp
      clear gt127
      have fx132 : RDX σ125 a Sx nx jx (fpC (cntN 5 (σ.2.1 87 x1) (fpC (cntN 2 (σ.2.1 87 x1) (cx).fp) (cx)).fp) (fpC (cntN 2 (σ.2.1 87 x1) (cx).fp) (cx))) (Nx) := RDX.nt fx93 w91 ha F131 f128
      show Tn _ _ 44 T σ125 [(0, .ref a), (1, .int (iI c))] [] _
      refine tn_aload_n dX5_parameter_44 rfl 0 rfl ?_
      refine tn_callV (M := m_X5_parameter) (pc := 45) (ix := 176) (ci := 5) (M' := m_X5_register) (As := []) (rest := []) dX5_parameter_45 ok_X5_register im_X5_register se_X5_register ml5_176 np_X5_register rfl rfl ha rfl (Nat.le_of_ble_eq_true rfl) (Nat.le_of_ble_eq_true rfl) rfl (k_X5_register_f (d) (T := T) (σ := σ125) (a := a) ha w130 fx132 hkd) (fun r133 T135 σ134 gt136 hp => ?_)
      obtain ⟨v139, rfl, rfl, w140, F141, f137, f138⟩ := hp
      clear gt136
      show Tn _ _ 48 T σ134 [(0, .ref a), (1, .int (iI c))] [.int (iI v139)] _
      refine tn_pop dX5_parameter_48 rfl ?_
      refine tn_aload_n dX5_parameter_49 rfl 0 rfl ?_
      obtain ⟨x142, hx143, hk144, hl145⟩ : ∃ x : Nat, σ.2.1 37 a = (x : Int) ∧ AR T x 17 256 256 := wf_37 hw ha
      have hk144i : IA T x142 := by unfold IA; omega
      refine tn_getR (ci := 5) (i := 4) (n := 37) (x := x142) dX5_parameter_50 rfl lay_5 (by decide) fl5_28 ha rfl rfl (rc_F F141 (Or.inl (by decide)) (by decide) (rc_F F131 (Or.inl (by decide)) (by decide) (rc_F F92 (Or.inl (by decide)) (by decide) (hx143)))) ?_
      refine tn_aload_n dX5_parameter_53 rfl 0 rfl ?_
      refine tn_getI (ci := 5) (i := 5) (n := 38) (t := σ.2.1 38 a) dX5_parameter_54 rfl lay_5 (by decide) fl5_58 ha rfl rfl (rc_F F141 (Or.inl (by decide)) (by decide) (rc_F F131 (Or.inl (by decide)) (by decide) (rc_F F92 (Or.inl (by decide)) (by decide) (rfl)))) ?_
      have g146 : ((0 : Int) ≤ σ.2.1 38 a ∧ σ.2.1 38 a ≤ 256) := wf_38 hw ha
      refine tn_iconst dX5_parameter_57 ?_
      refine tn_isub dX5_parameter_58 ?_
      refine tn_iload_n dX5_parameter_59 rfl 1 rfl ?_
      refine tn_callSN (M := m_X5_parameter) (pc := 60) (ix := 129) (M' := m_X11_put) (As := [.ref x142, .int (iI ((σ.2.1 38 a) - 1)), .int (iI c)]) (rest := []) dX5_parameter_60 ok_X11_put stt_X11_put nl5_129 np_X11_put rfl (Nat.le_of_ble_eq_true rfl) (Nat.le_of_ble_eq_true rfl) rfl (k_X11_put_17 (d + 1) (T := T) (σ := σ134) (x := x142) (i := (σ.2.1 38 a) - 1) (y := c) hk144i (by omega) hk144 (by omega) (by omega) w140 ) (fun r147 T149 σ148 gt150 hp => ?_)
      obtain ⟨rfl, rfl, w153, F154, f151⟩ := hp
      clear gt150
      have fx155e : σ.2.1 38 a = (uC (fpC (cntN 5 (σ.2.1 87 x1) (fpC (cntN 2 (σ.2.1 87 x1) (cx).fp) (cx)).fp) (fpC (cntN 2 (σ.2.1 87 x1) (cx).fp) (cx))) (4, (tkS Sx jx).1, 0, (tkS Sx jx).2.2.2.2)).rn := (rc_F F141 (Or.inl (by decide)) (by decide) (rc_F F131 (Or.inl (by decide)) (by decide) (rc_F F92 (Or.inl (by decide)) (by decide) (rfl)))).symm.trans (f138).1.2.1.1.2.2.1
      have fx155 : RDX σ148 a Sx nx jx (rpC (c) (uC (fpC (cntN 5 (σ.2.1 87 x1) (fpC (cntN 2 (σ.2.1 87 x1) (cx).fp) (cx)).fp) (fpC (cntN 2 (σ.2.1 87 x1) (cx).fp) (cx))) (4, (tkS Sx jx).1, 0, (tkS Sx jx).2.2.2.2))) (Nx) := RDX.rp f138 w140 ha (rc_F F141 (Or.inl (by decide)) (by decide) (rc_F F131 (Or.inl (by decide)) (by decide) (rc_F F92 (Or.inl (by decide)) (by decide) (hx143)))) F154 (by rw [f151, if_pos ⟨by omega, by omega⟩, fx155e])
      show Tn _ _ 63 T σ148 [(0, .ref a), (1, .int (iI c))] [] _
      refine tn_aload_n dX5_parameter_63 rfl 0 rfl ?_
      obtain ⟨x156, hx157, hk158⟩ : ∃ x : Nat, σ.2.1 35 a = (x : Int) ∧ (T x).1 = 31 := wf_35 hw ha
      have hk158o : OB T x156 1 := ⟨by omega, by rw [hk158]; rfl, by omega⟩
      refine tn_getR (ci := 5) (i := 2) (n := 35) (x := x156) dX5_parameter_64 rfl lay_5 (by decide) fl5_47 ha rfl rfl (rc_F F154 (Or.inl (by decide)) (by decide) (rc_F F141 (Or.inl (by decide)) (by decide) (rc_F F131 (Or.inl (by decide)) (by decide) (rc_F F92 (Or.inl (by decide)) (by decide) (hx157))))) ?_
      refine tn_iload_n dX5_parameter_67 rfl 1 rfl ?_
      refine tn_iconst dX5_parameter_68 ?_
      refine tn_mmin (x := c) (y := 4) dX5_parameter_69 mlm5_117 stM_min iniM cdM_min (by omega) (Nat.le_of_ble_eq_true rfl) ⟨by omega, by omega⟩ ⟨by omega, by omega⟩ (fun z160 g161 => ?_)
      refine tn_putV (ci := 1) (i := 3) (n := 8) (r := false) (v := z160) tyX1 tyX1_ok nmX1 dX5_parameter_72 rfl lay_1 (by decide) fl5_180 rfl (tyX1_ok 3 (by decide)) rfl rfl rfl hk158o rfl rfl ?_
      exact tn_vret rfl dX5_parameter_75 ⟨rfl, rfl, (w153.put (by decide) (by decide) (fo_8 (by omega))), (((((FrC.rfl.trans (FrC.sub F92 (by decide))).trans (FrC.sub F131 (by decide))).trans (FrC.sub F141 (by decide))).trans (FrC.sub F154 (by decide))).put (by decide) (by decide)), RDX.cq (fx155.pt (by decide) (by decide)) (by rw [uC3c]; unfold ifN; rw [ifP_t (show 4 ≤ c - 1 by omega), ifP_t (nf13.mp (by omega)), show (c - 1 + 1 : Int) = c by omega, g84pl])⟩
end
section
set_option maxHeartbeats 4000000 in
set_option maxRecDepth 20000 in
theorem k_X5_listCall_f (d : Nat) {T : CT} {σ : MS} {a : Nat} {k : Int} {p : Int} {m : Int} {Sx : Int → Int} {nx jx : Nat} {cx : CS} {Nx : Int} {wx : Int64} (ha : OB T a 5) (h_k : -2147483648 ≤ k ∧ k ≤ 2147483647) (h_p : -2147483648 ≤ p ∧ p ≤ 2147483647) (h_m : -2147483648 ≤ m ∧ m ≤ 2147483647) (hw : WT T σ) (hfx : RDX σ a Sx nx jx cx Nx) (hkw : KW k wx) (hpo : 6 * cx.cn + 6 ≤ (jx : Int)) : Tn (d + 2) m_X5_listCall 0 T σ [(0, .ref a), (1, .int (iI k)), (2, .int (iI p)), (3, .int (iI m))] [] (fun ro T2 σ2 => ro = none ∧ T = T2 ∧ WT T2 σ2 ∧ FrC T [42, 518, 519, 520] σ σ2 ∧ (RDX σ2 a Sx nx jx (uC cx (1, p, m, wx)) Nx)) := by
  have hSb := hfx.1.sb
  have e42 : σ.2.1 42 a = cx.cn := hfx.1.2.1.1.2.2.2.1
  have hjn := RDX.jn hfx hw ha
  refine tn_aload_n dX5_listCall_0 rfl 0 rfl ?_
  obtain ⟨x1, hx2, hk3, hl4⟩ : ∃ x : Nat, σ.2.1 39 a = (x : Int) ∧ AR T x 18 256 256 := wf_39 hw ha
  have hk3i : IA T x1 := by unfold IA; omega
  refine tn_getR (ci := 5) (i := 6) (n := 39) (x := x1) dX5_listCall_1 rfl lay_5 (by decide) fl5_31 ha rfl rfl (hx2) ?_
  refine tn_aload_n dX5_listCall_4 rfl 0 rfl ?_
  refine tn_getI (ci := 5) (i := 9) (n := 42) (t := σ.2.1 42 a) dX5_listCall_5 rfl lay_5 (by decide) fl5_61 ha rfl rfl (rfl) ?_
  have g5 : ((0 : Int) ≤ σ.2.1 42 a ∧ σ.2.1 42 a ≤ 256) := wf_42 hw ha
  refine tn_iload_n dX5_listCall_8 rfl 1 rfl ?_
  refine tn_callSN (M := m_X5_listCall) (pc := 9) (ix := 129) (M' := m_X11_put) (As := [.ref x1, .int (iI (σ.2.1 42 a)), .int (iI k)]) (rest := []) dX5_listCall_9 ok_X11_put stt_X11_put nl5_129 np_X11_put rfl (Nat.le_of_ble_eq_true rfl) (Nat.le_of_ble_eq_true rfl) rfl (k_X11_put_18 (d) (T := T) (σ := σ) (x := x1) (i := σ.2.1 42 a) (y := k) hk3i (by omega) hk3 (by omega) (by omega) hw ) (fun r6 T8 σ7 gt9 hp => ?_)
  obtain ⟨rfl, rfl, w12, F13, f10⟩ := hp
  clear gt9
  show Tn _ _ 12 T σ7 [(0, .ref a), (1, .int (iI k)), (2, .int (iI p)), (3, .int (iI m))] [] _
  refine tn_aload_n dX5_listCall_12 rfl 0 rfl ?_
  obtain ⟨x14, hx15, hk16, hl17⟩ : ∃ x : Nat, σ.2.1 40 a = (x : Int) ∧ AR T x 19 256 256 := wf_40 hw ha
  have hk16i : IA T x14 := by unfold IA; omega
  refine tn_getR (ci := 5) (i := 7) (n := 40) (x := x14) dX5_listCall_13 rfl lay_5 (by decide) fl5_34 ha rfl rfl (rc_F F13 (Or.inl (by decide)) (by decide) (hx15)) ?_
  refine tn_aload_n dX5_listCall_16 rfl 0 rfl ?_
  refine tn_getI (ci := 5) (i := 9) (n := 42) (t := σ.2.1 42 a) dX5_listCall_17 rfl lay_5 (by decide) fl5_61 ha rfl rfl (rc_F F13 (Or.inl (by decide)) (by decide) (rfl)) ?_
  refine tn_iload_n dX5_listCall_20 rfl 2 rfl ?_
  refine tn_callSN (M := m_X5_listCall) (pc := 21) (ix := 129) (M' := m_X11_put) (As := [.ref x14, .int (iI (σ.2.1 42 a)), .int (iI p)]) (rest := []) dX5_listCall_21 ok_X11_put stt_X11_put nl5_129 np_X11_put rfl (Nat.le_of_ble_eq_true rfl) (Nat.le_of_ble_eq_true rfl) rfl (k_X11_put_19 (d) (T := T) (σ := σ7) (x := x14) (i := σ.2.1 42 a) (y := p) hk16i (by omega) hk16 (by omega) (by omega) w12 ) (fun r18 T20 σ19 gt21 hp => ?_)
  obtain ⟨rfl, rfl, w24, F25, f22⟩ := hp
  clear gt21
  show Tn _ _ 24 T σ19 [(0, .ref a), (1, .int (iI k)), (2, .int (iI p)), (3, .int (iI m))] [] _
  refine tn_aload_n dX5_listCall_24 rfl 0 rfl ?_
  obtain ⟨x26, hx27, hk28, hl29⟩ : ∃ x : Nat, σ.2.1 41 a = (x : Int) ∧ AR T x 20 256 256 := wf_41 hw ha
  have hk28i : IA T x26 := by unfold IA; omega
  refine tn_getR (ci := 5) (i := 8) (n := 41) (x := x26) dX5_listCall_25 rfl lay_5 (by decide) fl5_37 ha rfl rfl (rc_F F25 (Or.inl (by decide)) (by decide) (rc_F F13 (Or.inl (by decide)) (by decide) (hx27))) ?_
  refine tn_aload_n dX5_listCall_28 rfl 0 rfl ?_
  refine tn_getI (ci := 5) (i := 9) (n := 42) (t := σ.2.1 42 a) dX5_listCall_29 rfl lay_5 (by decide) fl5_61 ha rfl rfl (rc_F F25 (Or.inl (by decide)) (by decide) (rc_F F13 (Or.inl (by decide)) (by decide) (rfl))) ?_
  refine tn_iload_n dX5_listCall_32 rfl 3 rfl ?_
  refine tn_callSN (M := m_X5_listCall) (pc := 33) (ix := 129) (M' := m_X11_put) (As := [.ref x26, .int (iI (σ.2.1 42 a)), .int (iI m)]) (rest := []) dX5_listCall_33 ok_X11_put stt_X11_put nl5_129 np_X11_put rfl (Nat.le_of_ble_eq_true rfl) (Nat.le_of_ble_eq_true rfl) rfl (k_X11_put_20 (d) (T := T) (σ := σ19) (x := x26) (i := σ.2.1 42 a) (y := m) hk28i (by omega) hk28 (by omega) (by omega) w24 ) (fun r30 T32 σ31 gt33 hp => ?_)
  obtain ⟨rfl, rfl, w36, F37, f34⟩ := hp
  clear gt33
  show Tn _ _ 36 T σ31 [(0, .ref a), (1, .int (iI k)), (2, .int (iI p)), (3, .int (iI m))] [] _
  refine tn_aload_n dX5_listCall_36 rfl 0 rfl ?_
  refine tn_aload_n dX5_listCall_37 rfl 0 rfl ?_
  refine tn_getI (ci := 5) (i := 9) (n := 42) (t := σ.2.1 42 a) dX5_listCall_38 rfl lay_5 (by decide) fl5_61 ha rfl rfl (rc_F F37 (Or.inl (by decide)) (by decide) (rc_F F25 (Or.inl (by decide)) (by decide) (rc_F F13 (Or.inl (by decide)) (by decide) (rfl)))) ?_
  refine tn_iconst dX5_listCall_41 ?_
  refine tn_iadd dX5_listCall_42 ?_
  refine tn_sipush dX5_listCall_43 (by decide) ?_
  refine tn_mmin (x := (σ.2.1 42 a) + 1) (y := 256) dX5_listCall_46 mlm5_117 stM_min iniM cdM_min (by omega) (Nat.le_of_ble_eq_true rfl) ⟨by omega, by omega⟩ ⟨by omega, by omega⟩ (fun z38 g39 => ?_)
  refine tn_putV (ci := 5) (i := 9) (n := 42) (r := false) (v := z38) tyX5 tyX5_ok nmX5 dX5_listCall_49 rfl lay_5 (by decide) fl5_61 rfl (tyX5_ok 9 (by decide)) rfl rfl rfl ha rfl rfl ?_
  have w40n3940 : x1 ≠ x14 := fun e => by have q9 := hk3; rw [e] at q9; have w9 := hk16; omega
  have w40n3941 : x1 ≠ x26 := fun e => by have q9 := hk3; rw [e] at q9; have w9 := hk28; omega
  have w40n4041 : x14 ≠ x26 := fun e => by have q9 := hk16; rw [e] at q9; have w9 := hk28; omega
  have q41 : (sA 42 a (z38) σ31).2.1 42 a = z38 := ra_eq
  have w40a : ∀ x : Nat, σ.2.1 39 a = (x : Int) → ∀ i, (sA 42 a (z38) σ31).2.1 (1000 + x) i = if i = cx.cn then k else σ.2.1 (1000 + x) i := (fun y hy i => by
      have e : y = x1 := by omega
      rw [e, sA_k (by omega), f34, if_pos ⟨by omega, by omega⟩, sA_k (by omega), f22, if_pos ⟨by omega, by omega⟩, sA_k (by omega), f10, if_pos ⟨by omega, by omega⟩, sA_at, e42])
  have w40b : ∀ x : Nat, σ.2.1 40 a = (x : Int) → ∀ i, (sA 42 a (z38) σ31).2.1 (1000 + x) i = if i = cx.cn then p else σ.2.1 (1000 + x) i := (fun y hy i => by
      have e : y = x14 := by omega
      rw [e, sA_k (by omega), f34, if_pos ⟨by omega, by omega⟩, sA_k (by omega), f22, if_pos ⟨by omega, by omega⟩, sA_at, e42, show σ7.2.1 (1000 + x14) = σ.2.1 (1000 + x14) by rw [f10, if_pos ⟨by omega, by omega⟩, sA_k (by omega)]])
  have w40c : ∀ x : Nat, σ.2.1 41 a = (x : Int) → ∀ i, (sA 42 a (z38) σ31).2.1 (1000 + x) i = if i = cx.cn then m else σ.2.1 (1000 + x) i := (fun y hy i => by
      have e : y = x26 := by omega
      rw [e, sA_k (by omega), f34, if_pos ⟨by omega, by omega⟩, sA_at, e42, show σ19.2.1 (1000 + x26) = σ.2.1 (1000 + x26) by rw [f22, if_pos ⟨by omega, by omega⟩, sA_k (by omega), f10, if_pos ⟨by omega, by omega⟩, sA_k (by omega)]])
  have w40r : RDX (sA 42 a (z38) σ31) a Sx nx jx (clC wx p m cx) Nx := RDX.cl hfx hw ha (show FrC T [42, 518, 519, 520] σ (sA 42 a (z38) σ31) from ((((FrC.rfl.trans (FrC.sub F13 (by decide))).trans (FrC.sub F25 (by decide))).trans (FrC.sub F37 (by decide))).put (by decide) (by decide))) (by rw [q41]; omega) hkw w40a w40b w40c hpo
  exact tn_vret rfl dX5_listCall_52 ⟨rfl, rfl, (w36.put (by decide) (by decide) (fo_42 (by omega))), ((((FrC.rfl.trans (FrC.sub F13 (by decide))).trans (FrC.sub F25 (by decide))).trans (FrC.sub F37 (by decide))).put (by decide) (by decide)), RDX.cq w40r uC1.symm⟩
end
section
set_option maxHeartbeats 4000000 in
set_option maxRecDepth 20000 in
theorem k_X1_empty_f (d : Nat) {T : CT} {σ : MS} {a : Nat} {r : Int} (ha : OB T a 1) (h_r : -2147483648 ≤ r ∧ r ≤ 2147483647) (hw : WT T σ) : Tn (d + 2) m_X1_empty 0 T σ [(0, .ref a), (1, .int (iI r))] [] (fun ro T2 σ2 => ro = none ∧ T = T2 ∧ WT T2 σ2 ∧ FrC T [6, 7, 8, 9, 10] σ σ2 ∧ (σ2.2.1 6 a = 0) ∧ (σ2.2.1 7 a = 0)) := by
  refine tn_aload_n dX1_empty_0 rfl 0 rfl ?_
  refine tn_iconst dX1_empty_1 ?_
  obtain ⟨x1, hx2, hl4, hk3a, hk3b⟩ := wf_5 hw ha
  have hk3i : IA T x1 := by unfold IA; omega
  have hk3c : CELL T a x1 := ⟨hk3a, hk3b⟩
  clear hk3a hk3b
  refine tn_putV (ci := 1) (i := 1) (n := 6) (r := false) (v := 0) tyX1 tyX1_ok nmX1 dX1_empty_2 rfl lay_1 (by decide) fl1_33 rfl (tyX1_ok 1 (by decide)) rfl rfl rfl ha rfl rfl ?_
  refine tn_aload_n dX1_empty_5 rfl 0 rfl ?_
  refine tn_iconst dX1_empty_6 ?_
  refine tn_putV (ci := 1) (i := 2) (n := 7) (r := false) (v := 0) tyX1 tyX1_ok nmX1 dX1_empty_7 rfl lay_1 (by decide) fl1_37 rfl (tyX1_ok 2 (by decide)) rfl rfl rfl ha rfl rfl ?_
  refine tn_aload_n dX1_empty_10 rfl 0 rfl ?_
  refine tn_iconst dX1_empty_11 ?_
  refine tn_putV (ci := 1) (i := 3) (n := 8) (r := false) (v := 0) tyX1 tyX1_ok nmX1 dX1_empty_12 rfl lay_1 (by decide) fl1_40 rfl (tyX1_ok 3 (by decide)) rfl rfl rfl ha rfl rfl ?_
  refine tn_aload_n dX1_empty_15 rfl 0 rfl ?_
  refine tn_iconst dX1_empty_16 ?_
  refine tn_putV (ci := 1) (i := 4) (n := 9) (r := false) (v := 0) tyX1 tyX1_ok nmX1 dX1_empty_17 rfl lay_1 (by decide) fl1_43 rfl (tyX1_ok 4 (by decide)) rfl rfl rfl ha rfl rfl ?_
  refine tn_aload_n dX1_empty_20 rfl 0 rfl ?_
  refine tn_iconst dX1_empty_21 ?_
  refine tn_putV (ci := 1) (i := 5) (n := 10) (r := false) (v := 1) tyX1 tyX1_ok nmX1 dX1_empty_22 rfl lay_1 (by decide) fl1_46 rfl (tyX1_ok 5 (by decide)) rfl rfl rfl ha rfl rfl ?_
  refine tn_aload_n dX1_empty_25 rfl 0 rfl ?_
  obtain ⟨x5, hx6, hk7, hl8⟩ : ∃ x : Nat, σ.2.1 11 a = (x : Int) ∧ AR T x 1 12 12 := wf_11 hw ha
  have hk7i : IA T x5 := by unfold IA; omega
  refine tn_getR (ci := 1) (i := 6) (n := 11) (x := x5) dX1_empty_26 rfl lay_1 (by decide) fl1_15 ha rfl rfl (rc_o (by decide) (rc_o (by decide) (rc_o (by decide) (rc_o (by decide) (rc_o (by decide) (hx6)))))) ?_
  refine tn_iconst dX1_empty_29 ?_
  refine tn_iload_n dX1_empty_30 rfl 1 rfl ?_
  refine tn_callSN (M := m_X1_empty) (pc := 31) (ix := 49) (M' := m_X11_put) (As := [.ref x5, .int (iI 0), .int (iI r)]) (rest := []) dX1_empty_31 ok_X11_put stt_X11_put nl1_49 np_X11_put rfl (Nat.le_of_ble_eq_true rfl) (Nat.le_of_ble_eq_true rfl) rfl (k_X11_put (d) (T := T) (σ := (sA 10 a (1) (sA 9 a (0) (sA 8 a (0) (sA 7 a (0) (sA 6 a (0) σ)))))) (x := x5) (i := 0) (y := r) hk7i (by omega) (by decide) (by omega) (((((hw.put6 (hx2) (fo_6 ⟨by omega, by omega⟩) (Or.inl (by omega))).put (by decide) (by decide) (fo_7 (by omega))).put (by decide) (by decide) (fo_8 (by omega))).put (by decide) (by decide) (fo_9 (by omega))).put (by decide) (by decide) (fo_10 (by omega))) (nh_k hk7 (by unfold HT; omega)) (vok_1 (by have q9 := hk7; omega) (by omega))) (fun r9 T11 σ10 gt12 hp => ?_)
  obtain ⟨rfl, rfl, w14, F15⟩ := hp
  clear gt12
  show Tn _ _ 34 T σ10 [(0, .ref a), (1, .int (iI r))] [] _
  refine tn_aload_n dX1_empty_34 rfl 0 rfl ?_
  obtain ⟨x16, hx17, hk18, hl19⟩ : ∃ x : Nat, σ.2.1 12 a = (x : Int) ∧ AR T x 1 12 12 := wf_12 hw ha
  have hk18i : IA T x16 := by unfold IA; omega
  refine tn_getR (ci := 1) (i := 7) (n := 12) (x := x16) dX1_empty_35 rfl lay_1 (by decide) fl1_18 ha rfl rfl (rc_F F15 (Or.inl (by decide)) (by decide) (rc_o (by decide) (rc_o (by decide) (rc_o (by decide) (rc_o (by decide) (rc_o (by decide) (hx17))))))) ?_
  refine tn_iconst dX1_empty_38 ?_
  refine tn_iconst dX1_empty_39 ?_
  refine tn_callSN (M := m_X1_empty) (pc := 40) (ix := 49) (M' := m_X11_put) (As := [.ref x16, .int (iI 0), .int (iI (-1))]) (rest := []) dX1_empty_40 ok_X11_put stt_X11_put nl1_49 np_X11_put rfl (Nat.le_of_ble_eq_true rfl) (Nat.le_of_ble_eq_true rfl) rfl (k_X11_put (d) (T := T) (σ := σ10) (x := x16) (i := 0) (y := -1) hk18i (by omega) (by decide) (by decide) w14 (nh_k hk18 (by unfold HT; omega)) (vok_1 (by have q9 := hk18; omega) (by omega))) (fun r20 T22 σ21 gt23 hp => ?_)
  obtain ⟨rfl, rfl, w25, F26⟩ := hp
  clear gt23
  show Tn _ _ 43 T σ21 [(0, .ref a), (1, .int (iI r))] [] _
  refine tn_aload_n dX1_empty_43 rfl 0 rfl ?_
  obtain ⟨x27, hx28, hk29, hl30⟩ : ∃ x : Nat, σ.2.1 13 a = (x : Int) ∧ AR T x 1 12 12 := wf_13 hw ha
  have hk29i : IA T x27 := by unfold IA; omega
  refine tn_getR (ci := 1) (i := 8) (n := 13) (x := x27) dX1_empty_44 rfl lay_1 (by decide) fl1_21 ha rfl rfl (rc_F F26 (Or.inl (by decide)) (by decide) (rc_F F15 (Or.inl (by decide)) (by decide) (rc_o (by decide) (rc_o (by decide) (rc_o (by decide) (rc_o (by decide) (rc_o (by decide) (hx28)))))))) ?_
  refine tn_iconst dX1_empty_47 ?_
  refine tn_iconst dX1_empty_48 ?_
  refine tn_callSN (M := m_X1_empty) (pc := 49) (ix := 49) (M' := m_X11_put) (As := [.ref x27, .int (iI 0), .int (iI 0)]) (rest := []) dX1_empty_49 ok_X11_put stt_X11_put nl1_49 np_X11_put rfl (Nat.le_of_ble_eq_true rfl) (Nat.le_of_ble_eq_true rfl) rfl (k_X11_put (d) (T := T) (σ := σ21) (x := x27) (i := 0) (y := 0) hk29i (by omega) (by decide) (by decide) w25 (nh_k hk29 (by unfold HT; omega)) vok_0) (fun r31 T33 σ32 gt34 hp => ?_)
  obtain ⟨rfl, rfl, w36, F37⟩ := hp
  clear gt34
  show Tn _ _ 52 T σ32 [(0, .ref a), (1, .int (iI r))] [] _
  refine tn_aload_n dX1_empty_52 rfl 0 rfl ?_
  obtain ⟨x38, hx39, hk40, hl41⟩ : ∃ x : Nat, σ.2.1 14 a = (x : Int) ∧ AR T x 11 12 12 := wf_14 hw ha
  have hk40i : IA T x38 := by unfold IA; omega
  refine tn_getR (ci := 1) (i := 9) (n := 14) (x := x38) dX1_empty_53 rfl lay_1 (by decide) fl1_24 ha rfl rfl (rc_F F37 (Or.inl (by decide)) (by decide) (rc_F F26 (Or.inl (by decide)) (by decide) (rc_F F15 (Or.inl (by decide)) (by decide) (rc_o (by decide) (rc_o (by decide) (rc_o (by decide) (rc_o (by decide) (rc_o (by decide) (hx39))))))))) ?_
  refine tn_iconst dX1_empty_56 ?_
  refine tn_iconst dX1_empty_57 ?_
  refine tn_callSN (M := m_X1_empty) (pc := 58) (ix := 49) (M' := m_X11_put) (As := [.ref x38, .int (iI 0), .int (iI 0)]) (rest := []) dX1_empty_58 ok_X11_put stt_X11_put nl1_49 np_X11_put rfl (Nat.le_of_ble_eq_true rfl) (Nat.le_of_ble_eq_true rfl) rfl (k_X11_put (d) (T := T) (σ := σ32) (x := x38) (i := 0) (y := 0) hk40i (by omega) (by decide) (by decide) w36 (nh_k hk40 (by unfold HT; omega)) vok_0) (fun r42 T44 σ43 gt45 hp => ?_)
  obtain ⟨rfl, rfl, w47, F48⟩ := hp
  clear gt45
  show Tn _ _ 61 T σ43 [(0, .ref a), (1, .int (iI r))] [] _
  have q49 : σ43.2.1 6 a = 0 := rc_F F48 (Or.inl (by decide)) (by decide) (rc_F F37 (Or.inl (by decide)) (by decide) (rc_F F26 (Or.inl (by decide)) (by decide) (rc_F F15 (Or.inl (by decide)) (by decide) (rc_o (by decide) (rc_o (by decide) (rc_o (by decide) (rc_o (by decide) (ra_eq))))))))
  have q50 : σ43.2.1 7 a = 0 := rc_F F48 (Or.inl (by decide)) (by decide) (rc_F F37 (Or.inl (by decide)) (by decide) (rc_F F26 (Or.inl (by decide)) (by decide) (rc_F F15 (Or.inl (by decide)) (by decide) (rc_o (by decide) (rc_o (by decide) (rc_o (by decide) (ra_eq)))))))
  exact tn_vret rfl dX1_empty_61 ⟨rfl, rfl, w47, (((((((((FrC.rfl.put (by decide) (by decide)).put (by decide) (by decide)).put (by decide) (by decide)).put (by decide) (by decide)).put (by decide) (by decide)).trans (FrC.sub F15 (by decide))).trans (FrC.sub F26 (by decide))).trans (FrC.sub F37 (by decide))).trans (FrC.sub F48 (by decide))), q49, q50⟩
end
