/-! what a telling does to the class's reader -/
def msC (x : Int) (c : CS) : CS := CS.mk c.fp c.rn c.rk c.rp c.cn c.ck c.cp c.cc c.nn c.nk x
def nmC (w : Int64) (c : CS) : CS := CS.mk c.fp c.rn c.rk c.rp c.cn c.ck c.cp c.cc (c.nn + 1) (up1 c.nk c.nn w) c.m
def rpC (v : Int) (c : CS) : CS := CS.mk c.fp c.rn c.rk (up1 c.rp (c.rn - 1) v) c.cn c.ck c.cp c.cc c.nn c.nk c.m
def clC (w : Int64) (p m : Int) (c : CS) : CS := CS.mk c.fp c.rn c.rk c.rp (c.cn + 1) (up1 c.ck c.cn w) (up1 c.cp c.cn p) (up1 c.cc c.cn m) c.nn c.nk c.m
def rnC (w : Int64) (c : CS) : CS := CS.mk c.fp (c.rn + 1) (up1 c.rk c.rn w) (up1 c.rp c.rn 0) c.cn c.ck c.cp c.cc 0 c.nk c.m
section CEV
variable {c : CS} {p m v : Int} {w : Int64}
theorem fpC_id : fpC c.fp c = c := rfl
theorem nC4 : nC c (4, p, 0, w) = nCn c w p := by
  unfold nC
  rw [if_neg (show ¬ (4 : Int) = 2 by decide), if_neg (show ¬ (4 : Int) = 3 by decide), if_neg (show ¬ (4 : Int) = 7 by decide), if_pos (show (4 : Int) = 4 from rfl)]
theorem sC4 : sC c (4, p, 0, w) = sCn c w := by
  unfold sC
  rw [if_neg (show ¬ (4 : Int) = 2 by decide), if_neg (show ¬ (4 : Int) = 3 by decide), if_neg (show ¬ (4 : Int) = 7 by decide), if_pos (show (4 : Int) = 4 from rfl)]
theorem uC4 : uC c (4, p, 0, w) = fpC (cnts (nCn c w p) c.fp) (sCn c w) := by
  unfold uC
  rw [nC4, sC4]
  rfl
theorem uC4f (h : fndC c w) : uC c (4, p, 0, w) = c := by
  rw [uC4]
  unfold nCn sCn
  rw [ifP_f (fun q => q.1 h), ifP_f (fun q => q.1 h)]
  rfl
theorem uC4n (h : ¬ fndC c w) (g : 12 ≤ c.nn) : uC c (4, p, 0, w) = fpC (cntN 5 p c.fp) c := by
  rw [uC4]
  unfold nCn sCn
  rw [ifP_t ⟨h, g⟩, ifP_f (fun q => q.2 g)]
  rfl
theorem uC4w (h : ¬ fndC c w) (g : ¬ 12 ≤ c.nn) : uC c (4, p, 0, w) = nmC w c := by
  rw [uC4]
  unfold nCn sCn
  rw [ifP_f (fun q => g q.2), ifP_t ⟨h, g⟩]
  rfl
theorem uC5o (h : 40 < c.m + 1) : uC c (5, p, 0, 0) = msC (c.m + 1) (fpC (cntN 5 p c.fp) c) := by
  unfold uC nC sC
  rw [if_neg (show ¬ (5 : Int) = 2 by decide), if_neg (show ¬ (5 : Int) = 3 by decide), if_neg (show ¬ (5 : Int) = 7 by decide), if_neg (show ¬ (5 : Int) = 4 by decide), if_pos (show (5 : Int) = 5 from rfl)]
  rw [if_neg (show ¬ (5 : Int) = 2 by decide), if_neg (show ¬ (5 : Int) = 3 by decide), if_neg (show ¬ (5 : Int) = 7 by decide), if_neg (show ¬ (5 : Int) = 4 by decide), if_pos (show (5 : Int) = 5 from rfl)]
  rw [ifP_t h]
  rfl
theorem uC5n (h : ¬ 40 < c.m + 1) : uC c (5, p, 0, 0) = msC (c.m + 1) c := by
  unfold uC nC sC
  rw [if_neg (show ¬ (5 : Int) = 2 by decide), if_neg (show ¬ (5 : Int) = 3 by decide), if_neg (show ¬ (5 : Int) = 7 by decide), if_neg (show ¬ (5 : Int) = 4 by decide), if_pos (show (5 : Int) = 5 from rfl)]
  rw [if_neg (show ¬ (5 : Int) = 2 by decide), if_neg (show ¬ (5 : Int) = 3 by decide), if_neg (show ¬ (5 : Int) = 7 by decide), if_neg (show ¬ (5 : Int) = 4 by decide), if_pos (show (5 : Int) = 5 from rfl)]
  rw [ifP_f h]
  rfl
theorem uC1 : uC c (1, p, m, w) = clC w p m c := by
  unfold uC nC sC
  rw [if_neg (show ¬ (1 : Int) = 2 by decide), if_neg (show ¬ (1 : Int) = 3 by decide), if_neg (show ¬ (1 : Int) = 7 by decide), if_neg (show ¬ (1 : Int) = 4 by decide), if_neg (show ¬ (1 : Int) = 5 by decide), if_pos (show (1 : Int) = 1 from rfl)]
  rw [if_neg (show ¬ (1 : Int) = 2 by decide), if_neg (show ¬ (1 : Int) = 3 by decide), if_neg (show ¬ (1 : Int) = 7 by decide), if_neg (show ¬ (1 : Int) = 4 by decide), if_neg (show ¬ (1 : Int) = 5 by decide), if_pos (show (1 : Int) = 1 from rfl)]
  rfl
theorem uC7 : uC c (7, p, m, w) = c := by
  unfold uC nC sC
  rw [if_neg (show ¬ (7 : Int) = 2 by decide), if_neg (show ¬ (7 : Int) = 3 by decide), if_pos (show (7 : Int) = 7 from rfl)]
  rw [if_neg (show ¬ (7 : Int) = 2 by decide), if_neg (show ¬ (7 : Int) = 3 by decide), if_pos (show (7 : Int) = 7 from rfl)]
  rfl
theorem uC0 : uC c (0, p, m, w) = fpC (cnts (ifP (120 < m) [(p, 5)] []) c.fp) c := by
  unfold uC nC sC
  rw [if_neg (show ¬ (0 : Int) = 2 by decide), if_neg (show ¬ (0 : Int) = 3 by decide), if_neg (show ¬ (0 : Int) = 7 by decide), if_neg (show ¬ (0 : Int) = 4 by decide), if_neg (show ¬ (0 : Int) = 5 by decide), if_neg (show ¬ (0 : Int) = 1 by decide), if_pos (show (0 : Int) = 0 from rfl)]
  rw [if_neg (show ¬ (0 : Int) = 2 by decide), if_neg (show ¬ (0 : Int) = 3 by decide), if_neg (show ¬ (0 : Int) = 7 by decide), if_neg (show ¬ (0 : Int) = 4 by decide), if_neg (show ¬ (0 : Int) = 5 by decide), if_neg (show ¬ (0 : Int) = 1 by decide)]
  rfl
theorem uC0o (h : 120 < m) : uC c (0, p, m, w) = fpC (cntN 5 p c.fp) c := by rw [uC0, ifP_t h]; rfl
theorem uC0n (h : ¬ 120 < m) : uC c (0, p, m, w) = c := by rw [uC0, ifP_f h]; rfl
theorem uC2 : uC c (2, p, 0, w) = rnC w (fpC (cnts (ifP (fndQ c w) [(p, 2)] [] ++ ifP (6 ≤ c.rn) [(p, 5)] []) c.fp) c) := by
  unfold uC nC sC
  rw [if_pos (show (2 : Int) = 2 from rfl), if_pos (show (2 : Int) = 2 from rfl)]
  rfl
theorem uC3 : uC c (3, p, m, w) = fpC (cnts (ifP (fndC c w) [(p, 2)] [] ++ (ifP (4 ≤ m) [(p, 5)] [] ++ nCn c w p)) c.fp) (CS.mk (sCn c w).fp (sCn c w).rn (sCn c w).rk (up1 c.rp (c.rn - 1) (m + 1)) (sCn c w).cn (sCn c w).ck (sCn c w).cp (sCn c w).cc (sCn c w).nn (sCn c w).nk (sCn c w).m) := by
  unfold uC nC sC
  rw [if_neg (show ¬ (3 : Int) = 2 by decide), if_pos (show (3 : Int) = 3 from rfl)]
  rw [if_neg (show ¬ (3 : Int) = 2 by decide), if_pos (show (3 : Int) = 3 from rfl)]
  rfl
/-- a note, or none -/
noncomputable def ifN (q : Prop) (f p : Int) (c : CS) : CS := ifP q (fpC (cntN f p c.fp) c) c
theorem ifN_eq {q : Prop} {f : Int} : ifN q f p c = fpC (cnts (ifP q [(p, f)] []) c.fp) c := by
  unfold ifN
  by_cases h : q
  · rw [ifP_t h, ifP_t h]; rfl
  · rw [ifP_f h, ifP_f h]; rfl
theorem fndC_fp {x : FP} : fndC (fpC x c) w ↔ fndC c w := Iff.rfl
theorem sCn_fp {x : FP} : sCn (fpC x c) w = fpC x (sCn c w) := by
  unfold sCn
  by_cases h : ¬ fndC c w ∧ ¬ 12 ≤ c.nn
  · rw [ifP_t h, ifP_t (show ¬ fndC (fpC x c) w ∧ ¬ 12 ≤ (fpC x c).nn from h)]; rfl
  · rw [ifP_f h, ifP_f (show ¬ (¬ fndC (fpC x c) w ∧ ¬ 12 ≤ (fpC x c).nn) from h)]
theorem sCn_q2 : (sCn c w).fp = c.fp := by
  unfold sCn
  by_cases h : ¬ fndC c w ∧ ¬ 12 ≤ c.nn
  · rw [ifP_t h]
  · rw [ifP_f h]
theorem nCn_fp {x : FP} : nCn (fpC x c) w p = nCn c w p := rfl
theorem uC3c : uC c (3, p, m, w) = rpC (m + 1) (uC (ifN (4 ≤ m) 5 p (ifN (fndC c w) 2 p c)) (4, p, 0, w)) := by
  rw [uC3, uC4, ifN_eq, ifN_eq]
  rw [show nCn (fpC (cnts (ifP (4 ≤ m) [(p, 5)] []) (fpC (cnts (ifP (fndC c w) [(p, 2)] []) c.fp) c).fp) (fpC (cnts (ifP (fndC c w) [(p, 2)] []) c.fp) c)) w p = nCn c w p from rfl]
  rw [sCn_fp, sCn_fp, cnts_app, cnts_app]
  have e := sCn_q c w
  show _ = CS.mk (cnts (nCn c w p) (cnts (ifP (4 ≤ m) [(p, 5)] []) (cnts (ifP (fndC c w) [(p, 2)] []) c.fp))) (sCn c w).rn (sCn c w).rk (up1 (sCn c w).rp ((sCn c w).rn - 1) (m + 1)) (sCn c w).cn (sCn c w).ck (sCn c w).cp (sCn c w).cc (sCn c w).nn (sCn c w).nk (sCn c w).m
  rw [e.2.2.1, e.1]
  rfl
theorem uC2c : uC c (2, p, 0, w) = rnC w (ifN (6 ≤ c.rn) 5 p (ifN (fndQ c w) 2 p c)) := by
  rw [uC2, ifN_eq, ifN_eq, cnts_app]
  rfl
end CEV
theorem fc_app {es e2 : List EW} {c : CS} : e2.foldl uC (es.foldl uC c) = (es ++ e2).foldl uC c := (List.foldl_append).symm
theorem fc_one {es : List EW} {e : EW} {c : CS} : uC (es.foldl uC c) e = (es ++ [e]).foldl uC c := by rw [List.foldl_append]; rfl
/-! what the roads' ends are -/
def EXR (S : Int → Int) (e : Int) (ks : List Nat) (j : Nat) (f : Int) (ls : List Nat) (i : Nat) (m : Int) (es : List EW) : Prop := ∀ (b : Int) (u : UR), GR S ks j e b u ls i f b u m es
def EXF (S : Int → Int) (e : Int) (ks : List Nat) (j : Nat) (p : Int) : Prop := ∀ (b : Int) (u : UR), GRF S ks j e b u p
section EXS
variable {S : Int → Int} {ks ls ms l : List Nat} {j i k : Nat} {e f f2 m m2 pl : Int} {es e2 : List EW}
theorem EXR.nl : EXR S e ks j e ks j 0 [] := fun _ _ => GR.nl
theorem EXR.gg (z : List Nat) (h : EXR S e ks j f (l ++ z) i m es) (g : EXR S f l i f2 ms k m2 e2) : EXR S e ks j f2 (ms ++ z) k (m + m2) (es ++ e2) := fun b u => (h b u).gg z (g b u)
theorem EXR.g0 (z : List Nat) (h : EXR S e ks j f (l ++ z) i m es) (g : EXR S f l i f2 ms k m2 []) : EXR S e ks j f2 (ms ++ z) k (m + m2) es := fun b u => (h b u).g0 z (g b u)
theorem EXR.fl (z : List Nat) (h : EXR S e ks j f (l ++ z) i m es) (g : EXF S f l i pl) : EXF S e ks j pl := fun b u => (h b u).fl z (g b u)
end EXS
def XS (σ : MS) (a : Nat) (S : Int → Int) (n : Nat) (e : Int) (ks : List Nat) (j : Nat) (c : CS) (N : Int) (f : Int) (ls : List Nat) (lo : Int) : Prop := ∃ (i : Nat) (es : List EW) (m : Int), lo ≤ (i : Int) ∧ EXR S e ks j f ls i m es ∧ RDX σ a S n i (es.foldl uC c) (N + m)
def XFc (σ : MS) (a : Nat) (S : Int → Int) (e : Int) (ks : List Nat) (j : Nat) : Prop := ∃ p, EXF S e ks j p ∧ FLC σ a p
def XQ (σ : MS) (a : Nat) (S : Int → Int) (n : Nat) (e : Int) (ks : List Nat) (j : Nat) (c : CS) (N v : Int) : Prop := (v = 1 → XS σ a S n e ks j c N e [] ((j : Int) + 1)) ∧ (v = 0 → XFc σ a S e ks j)
def YS (σ : MS) (a : Nat) (S : Int → Int) (n : Nat) (b : Int) (ks : List Nat) (j : Nat) (c : CS) (N : Int) (d : Int) (ls : List Nat) (lo : Int) : Prop := ∃ (i : Nat) (es : List EW) (m : Int), lo ≤ (i : Int) ∧ GR S ks j 0 b u0 ls i 0 d u0 m es ∧ RDX σ a S n i (es.foldl uC c) (N + m) ∧ (es.foldl uC c).m ≤ (i : Int)
def YF (σ : MS) (a : Nat) (S : Int → Int) (b : Int) (ks : List Nat) (j : Nat) : Prop := ∃ p, GRF S ks j 0 b u0 p ∧ FLC σ a p
def YQ (σ : MS) (a : Nat) (S : Int → Int) (n : Nat) (b : Int) (ks : List Nat) (j : Nat) (c : CS) (N w v : Int) : Prop := (v = 1 → YS σ a S n b ks j c N b [] ((j : Int) + w)) ∧ (v = 0 → YF σ a S b ks j)
def TQ (σ : MS) (a : Nat) (S : Int → Int) (n j : Nat) (c : CS) (N s v : Int) : Prop := (v = 1 → ckd (tkS S j) = s ∧ RDX σ a S n (j + 1) c N) ∧ (v = 0 → ckd (tkS S j) ≠ s ∧ FLC σ a (tkS S j).1 ∧ TKR σ a S n j)
section FLS
variable {T : CT} {σ τ : MS} {a k : Nat} {p z v : Int} {ks : List Nat}
theorem FLC.pt (h : FLC σ a p) (hk : k ≠ 43 ∧ k ≠ 44) : FLC (sA k z v σ) a p := ⟨by rw [sA_k (by omega)]; exact h.1, by rw [sA_k (by omega)]; exact h.2⟩
theorem FLC.fc (h : FLC σ a p) (f : FrC T ks σ τ) (h1 : 43 ∉ ks) (h2 : 44 ∉ ks) : FLC τ a p := ⟨by rw [f.1 43 (Or.inl (by decide)) h1]; exact h.1, by rw [f.1 44 (Or.inl (by decide)) h2]; exact h.2⟩
end FLS
def YK (σ : MS) (a : Nat) (S : Int → Int) (n : Nat) (b : Int) (ks : List Nat) (j : Nat) (c : CS) (N : Int) (d : Int) (ls : List Nat) (lo s : Int) : Prop := ∃ (i : Nat) (es : List EW) (m : Int), lo ≤ (i : Int) ∧ GR S ks j 0 b u0 ls i 0 d u0 m es ∧ RDX σ a S n i (es.foldl uC c) (N + m) ∧ (es.foldl uC c).m ≤ (i : Int) ∧ ckd (tkS S i) = s
/-- the arguments of a call: k of them so far -/
def CLV (σ : MS) (a : Nat) (S : Int → Int) (n : Nat) (b : Int) (j : Nat) (c : CS) (N : Int) (W : Int64) (P k lo : Int) : Prop := ∃ (i : Nat) (es : List EW) (m : Int), lo ≤ (i : Int) ∧ RDX σ a S n i (es.foldl uC c) (N + m) ∧ ((k = 0 ∧ ckd (tkS S i) = 41) → GR S [25] j 0 b u0 [38, 141, 159] i 0 b (W, k, P) m es) ∧ (¬ (k = 0 ∧ ckd (tkS S i) = 41) → GR S [25] j 0 b u0 [2, 27, 159] i 0 b (W, k, P) m es)
def CLX (σ : MS) (a : Nat) (S : Int → Int) (n : Nat) (b : Int) (j : Nat) (c : CS) (N : Int) (W : Int64) (P k lo : Int) : Prop := ∃ (i : Nat) (es : List EW) (m : Int), lo ≤ (i : Int) ∧ RDX σ a S n i (es.foldl uC c) (N + m) ∧ GR S [25] j 0 b u0 [38, 141, 159] i 0 b (W, k, P) m es
theorem x25s {S : Int → Int} {j : Nat} {e b : Int} {u : UR} (hS : SB S) (h : ¬ (ckd (tkS S j) = 256 ∧ ckd (tkS S (j + 1)) = 40)) : GR S [25] j e b u [2, 52, 159] j e b u 0 [] := by
  by_cases h1 : ckd (tkS S j) = 256
  · exact x25b hS h1 (fun q => h ⟨h1, q⟩)
  · exact x25n hS h1
theorem RDX.e45 {σ : MS} {a n j : Nat} {c : CS} {N : Int} {S : Int → Int} (h : RDX σ a S n j c N) : σ.2.1 45 a = c.m := h.1.2.1.1.2.2.2.2
theorem RDX.po {σ : MS} {a n j : Nat} {c : CS} {N : Int} {S : Int → Int} (h : RDX σ a S n j c N) : PO j c := h.1.2.2

