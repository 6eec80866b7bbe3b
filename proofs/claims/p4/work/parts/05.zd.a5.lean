/-! routines -/
def PR (S : Int → Int) (j : Nat) (rp : Int) (ls : List Nat) (i : Nat) (k : Int) (es : List EW) : Prop := ∀ N : Int, GCS S [31] j (0, 0, N) (0, 0, 0, 0, rp) ls i (0, 0, N) (0, 0, 0, k, rp) es
def PRF (S : Int → Int) (j : Nat) (rp p : Int) : Prop := ∀ N : Int, GCF S [31] j (0, 0, N) (0, 0, 0, 0, rp) p
def PS (σ : MS) (a : Nat) (S : Int → Int) (n j : Nat) (c : CS) (N rp : Int) : Prop := ∃ (i : Nat) (es : List EW) (k : Int), (j : Int) ≤ i ∧ PR S j rp [141, 35] i k es ∧ RDX σ a S n i (es.foldl uC c) N ∧ (es.foldl uC c).rn = c.rn
def PQ (σ : MS) (a : Nat) (S : Int → Int) (n j : Nat) (c : CS) (N rp v : Int) : Prop := (v = 1 → PS σ a S n j c N rp) ∧ (v = 0 → ∃ p, PRF S j rp p ∧ FLC σ a p)
def PLJ (σ : MS) (a : Nat) (S : Int → Int) (n j : Nat) (c : CS) (N rp k : Int) : Prop := ∃ (i : Nat) (es : List EW), (j : Int) + k ≤ i ∧ PR S j rp [32] i k es ∧ RDX σ a S n i (es.foldl uC c) N ∧ (es.foldl uC c).rn = c.rn
def PLX (σ : MS) (a : Nat) (S : Int → Int) (n j : Nat) (c : CS) (N rp : Int) : Prop := ∃ (i : Nat) (es : List EW) (k : Int), PR S j rp [32] i k es ∧ RDX σ a S n i (es.foldl uC c) N ∧ ckd (tkS S i) ≠ 256
section PRS
variable {S : Int → Int} {j i i2 i3 : Nat} {rp k m : Int} {es e2 e3 : List EW}
theorem PR.one (hS : SB S) (h : PR S j rp [32] i k es) (hk : ckd (tkS S i) = 256) : PR S j rp [33] (i + 1) (k + 1) (es ++ [(3, (tkS S i).1, k, (tkS S i).2.2.2.2)]) := fun N => (h N).gg (r32 hS hk)
theorem PR.comma (hS : SB S) (h : PR S j rp [33] i k es) (hk : ckd (tkS S i) = 44) : PR S j rp [32] (i + 1) k es := fun N => by
  have q := (h N).gg (r33y hS hk)
  rw [List.append_nil] at q
  exact q
theorem PR.done (hS : SB S) (h : PR S j rp [33] i k es) (hk : ckd (tkS S i) ≠ 44) : PR S j rp [141, 35] i k (es ++ [(7, 0, k, 0)]) := fun N => (h N).gg (r33n hS hk)
theorem PR.fail (hS : SB S) (h : PR S j rp [32] i k es) (hk : ckd (tkS S i) ≠ 256) : PRF S j rp (tkS S i).1 := fun N => (h N).fl (r32f hS hk)
theorem PR.none (hS : SB S) (hk : ckd (tkS S j) = 41) : PR S j rp [141, 35] j 0 [(7, 0, 0, 0)] := fun N => r31y hS hk
theorem PR.some (hS : SB S) (hk : ckd (tkS S j) ≠ 41) : PR S j rp [32] j 0 [] := fun N => r31n hS hk
theorem uC3_rn {c : CS} {p m : Int} {w : Int64} : (uC c (3, p, m, w)).rn = c.rn := by
  rw [uC3]
  exact (sCn_q c w).1
theorem f7 {c : CS} {p m : Int} {w : Int64} : (es ++ [(7, p, m, w)]).foldl uC c = es.foldl uC c := by rw [← fc_one, uC7]
/-- a routine's head -/
def HR9 (S : Int → Int) (j i : Nat) (k : Int) (es : List EW) : Prop := ∀ N : Int, GCS S [30] j (0, 0, N) (0, 0, 0, 0, 0) [35] i (0, 0, N) (0, 0, 0, k, (tkS S j).1) es
def HF9 (S : Int → Int) (j : Nat) (p : Int) : Prop := ∀ N : Int, GCF S [30] j (0, 0, N) (0, 0, 0, 0, 0) p
theorem HD.a30 (hS : SB S) (hk : ckd (tkS S j) = 256) (N : Int) : GCS S [30] j (0, 0, N) (0, 0, 0, 0, 0) [140, 31] (j + 1) (0, 0, N) (0, 0, 0, 0, (tkS S j).1) [(2, (tkS S j).1, 0, (tkS S j).2.2.2.2)] := r30 hS hk
theorem HD.a40 (hS : SB S) (hk : ckd (tkS S j) = 256) (h40 : ckd (tkS S (j + 1)) = 40) (N : Int) : GCS S [30] j (0, 0, N) (0, 0, 0, 0, 0) [31] (j + 1 + 1) (0, 0, N) (0, 0, 0, 0, (tkS S j).1) [(2, (tkS S j).1, 0, (tkS S j).2.2.2.2)] := by
  have q := (HD.a30 hS hk N).gg ((r140 (x := (0, 0, N)) (q := (0, 0, 0, 0, (tkS S j).1)) hS h40).ml [31])
  rw [List.append_nil] at q
  exact q
theorem HD.ok (hS : SB S) (hk : ckd (tkS S j) = 256) (h40 : ckd (tkS S (j + 1)) = 40) (pr : PR S (j + 1 + 1) (tkS S j).1 [141, 35] i k es) (h41 : ckd (tkS S i) = 41) : HR9 S j (i + 1) k ([(2, (tkS S j).1, 0, (tkS S j).2.2.2.2)] ++ es) := fun N => by
  have q := ((HD.a40 hS hk h40 N).gg (pr N)).gg ((r141 (x := (0, 0, N)) (q := (0, 0, 0, k, (tkS S j).1)) hS h41).ml [35])
  rw [List.append_nil] at q
  exact q
theorem HD.f30 (hS : SB S) (hk : ckd (tkS S j) ≠ 256) : HF9 S j (tkS S j).1 := fun N => r30f hS hk
theorem HD.f40 (hS : SB S) (hk : ckd (tkS S j) = 256) (h40 : ckd (tkS S (j + 1)) ≠ 40) : HF9 S j (tkS S (j + 1)).1 := fun N => (HD.a30 hS hk N).fl ((f140 (x := (0, 0, N)) (q := (0, 0, 0, 0, (tkS S j).1)) hS h40).ml [31])
theorem HD.fpr {p : Int} (hS : SB S) (hk : ckd (tkS S j) = 256) (h40 : ckd (tkS S (j + 1)) = 40) (pr : PRF S (j + 1 + 1) (tkS S j).1 p) : HF9 S j p := fun N => (HD.a40 hS hk h40 N).fl (pr N)
theorem HD.f41 (hS : SB S) (hk : ckd (tkS S j) = 256) (h40 : ckd (tkS S (j + 1)) = 40) (pr : PR S (j + 1 + 1) (tkS S j).1 [141, 35] i k es) (h41 : ckd (tkS S i) ≠ 41) : HF9 S j (tkS S i).1 := fun N => ((HD.a40 hS hk h40 N).gg (pr N)).fl ((f141 (x := (0, 0, N)) (q := (0, 0, 0, k, (tkS S j).1)) hS h41).ml [35])
/-- the whole text -/
def TR9 (S : Int → Int) (i : Nat) (N : Int) (es : List EW) : Prop := GCS S [36] 0 (0, 0, 0) (qq 0) [36] i (0, 0, N) (qq 0) es
theorem TR9.nl : TR9 S 0 0 [] := GCS.nl
theorem TR9.inn {N : Int} (hS : SB S) (h : TR9 S i N es) (hk : ckd (tkS S i) ≠ 264) (hd : HR9 S i i2 k e2) : GCS S [36] 0 (0, 0, 0) (qq 0) [28, 51, 34, 36] i2 (0, 0, 0) (0, 0, 0, 0, (tkS S i).1) (es ++ e2) := by
  have q1 : GCS S [36] 0 (0, 0, 0) (qq 0) [30, 36] i (0, 0, N) (qq 0) (es ++ []) := GCS.gg h (r36n hS hk)
  have q2 : GCS S [36] 0 (0, 0, 0) (qq 0) [35, 36] i2 (0, 0, N) (0, 0, 0, k, (tkS S i).1) ((es ++ []) ++ e2) := q1.gg ((hd N).ml [36])
  have q3 : GCS S [36] 0 (0, 0, 0) (qq 0) [28, 51, 34, 36] i2 (0, 0, 0) (0, 0, 0, 0, (tkS S i).1) (((es ++ []) ++ e2) ++ []) := q2.gg ((r35 (x := (0, 0, N)) (q := (0, 0, 0, k, (tkS S i).1)) hS).ml [36])
  rw [List.append_nil, List.append_nil] at q3
  exact q3
theorem TR9.on {N : Int} (hS : SB S) (h : TR9 S i N es) (hk : ckd (tkS S i) ≠ 264) (hd : HR9 S i i2 k e2) (gb : GR S [28] i2 0 0 u0 [] i3 0 0 u0 m e3) : TR9 S i3 (0 + m + 1) (es ++ e2 ++ e3 ++ [(0, (tkS S i).1, 0 + m + 1, 0)]) := by
  have q1 : GCS S [36] 0 (0, 0, 0) (qq 0) [51, 34, 36] i3 (0, 0, 0 + m) (0, 0, 0, 0, (tkS S i).1) (es ++ e2 ++ e3) := (h.inn hS hk hd).gg ((gb 0 0 (tkS S i).1).ml [51, 34, 36])
  have q2 : GCS S [36] 0 (0, 0, 0) (qq 0) [34, 36] i3 (0, 0, 0 + m + 1) (0, 0, 0, 0, (tkS S i).1) (es ++ e2 ++ e3 ++ []) := q1.gg ((x51 (S := S) (j := i3) (e := 0) (b := 0) (u := u0) hS (0 + m) 0 (tkS S i).1).ml [34, 36])
  rw [List.append_nil] at q2
  exact q2.gg ((r34 (x := (0, 0, 0 + m + 1)) (q := (0, 0, 0, 0, (tkS S i).1)) hS).ml [36])
theorem TR9.fh {N p : Int} (hS : SB S) (h : TR9 S i N es) (hk : ckd (tkS S i) ≠ 264) (hd : HF9 S i p) : GCF S [36] 0 (0, 0, 0) (qq 0) p := (GCS.gg h (r36n hS hk)).fl ((hd N).ml [36])
theorem TR9.fb {N p : Int} (hS : SB S) (h : TR9 S i N es) (hk : ckd (tkS S i) ≠ 264) (hd : HR9 S i i2 k e2) (gb : GRF S [28] i2 0 0 u0 p) : GCF S [36] 0 (0, 0, 0) (qq 0) p := (h.inn hS hk hd).fl ((gb 0 0 (tkS S i).1).ml [51, 34, 36])
end PRS
def HQ9 (σ : MS) (a : Nat) (S : Int → Int) (n j : Nat) (c : CS) (v : Int) : Prop := (v = 1 → ∃ (i : Nat) (es : List EW) (k : Int), (j : Int) + 3 ≤ i ∧ HR9 S j i k es ∧ RDX σ a S n i (es.foldl uC c) 0 ∧ (es.foldl uC c).rn = c.rn + 1) ∧ (v = 0 → ∃ p, HF9 S j p ∧ FLC σ a p)
/-- the reader's beginning -/
def c00 : CS := CS.mk (0, -1) 0 (fun _ => 0) (fun _ => 0) 0 (fun _ => 0) (fun _ => 0) (fun _ => 0) 0 (fun _ => 0) 0
def TLI (σ : MS) (a : Nat) (S : Int → Int) (n : Nat) (k : Int) : Prop := ∃ (i : Nat) (es : List EW) (N : Int), k ≤ (i : Int) ∧ TR9 S i N es ∧ RD0 σ a S n i (es.foldl uC c00) ∧ 5 * (es.foldl uC c00).rn ≤ (i : Int) ∧ (es.foldl uC c00).m ≤ (i : Int)
def TLX (σ : MS) (a : Nat) (S : Int → Int) (n : Nat) : Prop := ∃ (i : Nat) (es : List EW) (N : Int), TR9 S i N es ∧ RD0 σ a S n i (es.foldl uC c00) ∧ ckd (tkS S i) = 264
def TLF (σ : MS) (a : Nat) (S : Int → Int) : Prop := ∃ p, GCF S [36] 0 (0, 0, 0) (qq 0) p ∧ FLC σ a p
/-- what settleCalls tells -/
def SQ9 (σ : MS) (a : Nat) (c : CS) (v : Int) : Prop := (σ.2.1 43 a, σ.2.1 44 a) = cnts (cSs c c.cn.toNat) c.fp ∧ σ.2.1 38 a = c.rn ∧ (v = 1 → σ.2.1 43 a = 0) ∧ (v = 0 → σ.2.1 43 a ≠ 0)
/-- what take tells -/
def TO9 (σ : MS) (a : Nat) (S : Int → Int) (v : Int) : Prop := (v = 0 ∧ ∃ es p, RE S ([36], advT S 0, (0, 0, 0), qq 0, []) (es ++ [(9, p, 0, 0)]) pF ∧ FLC σ a p) ∨ ∃ es t x q ρ, RE S ([36], advT S 0, (0, 0, 0), qq 0, []) es ([], t, x, q, ρ) ∧ SQ9 σ a (es.foldl uC c00) v
theorem TLF.to {σ : MS} {a : Nat} {S : Int → Int} {v : Int} (h : TLF σ a S) (hv : v = 0) : TO9 σ a S v := by
  obtain ⟨p, ⟨es, g⟩, f⟩ := h
  exact Or.inl ⟨hv, es, p, g (advT S 0) TEQ.rf [] [], f⟩
theorem TO9.ok {σ : MS} {a i : Nat} {S : Int → Int} {v N : Int} {es : List EW} (hS : SB S) (h : TR9 S i N es) (hk : ckd (tkS S i) = 264) (q : SQ9 σ a (es.foldl uC c00) v) : TO9 σ a S v := by
  have g : GCS S [36] 0 (0, 0, 0) (qq 0) [] i (0, 0, N) (qq 0) (es ++ []) := GCS.gg h (r36y hS hk)
  rw [List.append_nil] at g
  obtain ⟨t, l, -, w⟩ := g (advT S 0) TEQ.rf
  exact Or.inr ⟨es, t, _, _, _, w [] [], q⟩
theorem uC2_rn {c : CS} {p : Int} {w : Int64} : (uC c (2, p, 0, w)).rn = c.rn + 1 := by rw [uC2]; rfl
/-! what settleCalls does at a call -/
section STC
variable {T : CT} {σ : MS} {a : Nat} {c : CS} {k v i : Int}
theorem st_no (q : ROQ σ a k v) (h : CS0 σ a c) (hw : WT T σ) (ha : OB T a 5) (hk : KW k (c.ck i)) (hv : v = -1) : cS c i = [(c.cp i, 3)] := by
  have f := ROQ.fd q h hw ha hk
  unfold cS
  rw [ifP_f (fun z => by obtain ⟨y, y0, y1, y2, -⟩ := z; exact f.mpr ⟨y, y0, y1, y2⟩ hv)]
theorem st_at (q : ROQ σ a k v) (h : CS0 σ a c) (hw : WT T σ) (ha : OB T a 5) (hk : KW k (c.ck i)) (hv : v ≠ -1) : 0 ≤ v ∧ v < c.rn ∧ c.rk v = c.ck i ∧ ∀ j, 0 ≤ j → j < v → c.rk j ≠ c.ck i := by
  obtain ⟨x, hx, -⟩ := wf_36 hw ha
  have b := wf_38 hw ha
  have e := h.1.2.2.1
  rcases q with ⟨q1, q2⟩ | ⟨q1, q2⟩
  · exact absurd q1 hv
  · obtain ⟨⟨r1, r2⟩, r3⟩ := q1
    rw [e] at r2 b
    have g := h.2.1 x hx v r1 r2
    rw [r3 x hx] at g
    refine ⟨r1, r2, (KW.eq g hk).mp rfl, fun j j0 j1 z => ?_⟩
    exact q2 x hx j j0 j1 (by omega) ((KW.eq (h.2.1 x hx j j0 (by omega)) hk).mpr z)
theorem st_uq {f : Int → Int64} {w : Int64} {x y : Int} (h : 0 ≤ x ∧ f x = w ∧ ∀ j, 0 ≤ j → j < x → f j ≠ w) (g : 0 ≤ y ∧ f y = w ∧ ∀ j, 0 ≤ j → j < y → f j ≠ w) : x = y := by
  by_cases a : x < y
  · exact absurd h.2.1 (g.2.2 x h.1 a)
  · by_cases b : y < x
    · exact absurd g.2.1 (h.2.2 y g.1 b)
    · omega
theorem st_eq (q : ROQ σ a k v) (h : CS0 σ a c) (hw : WT T σ) (ha : OB T a 5) (hk : KW k (c.ck i)) (hv : v ≠ -1) (e : c.rp v = c.cc i) : cS c i = [] := by
  have s := st_at q h hw ha hk hv
  unfold cS
  rw [ifP_t ⟨v, s⟩, ifP_f (fun z => by
    obtain ⟨y, ⟨y0, y1, y2, y3⟩, y4⟩ := z
    have u := st_uq ⟨y0, y2, y3⟩ ⟨s.1, s.2.2.1, s.2.2.2⟩
    rw [u] at y4
    exact y4 e)]
theorem st_ne (q : ROQ σ a k v) (h : CS0 σ a c) (hw : WT T σ) (ha : OB T a 5) (hk : KW k (c.ck i)) (hv : v ≠ -1) (e : c.rp v ≠ c.cc i) : cS c i = [(c.cp i, 4)] := by
  have s := st_at q h hw ha hk hv
  unfold cS
  rw [ifP_t ⟨v, s⟩, ifP_t ⟨v, s, e⟩]
theorem cSs_s (c : CS) {i : Int} (h : 0 ≤ i) (fp : FP) : cnts (cSs c (i + 1).toNat) fp = cnts (cS c i) (cnts (cSs c i.toNat) fp) := by
  rw [show (i + 1).toNat = i.toNat + 1 by omega]
  show cnts (cSs c i.toNat ++ cS c (i.toNat : Int)) fp = _
  rw [cnts_app, show ((i.toNat : Nat) : Int) = i by omega]
theorem RD0.qc {n j : Nat} {c2 : CS} {S : Int → Int} (h : RD0 σ a S n j c) (e : c = c2) : RD0 σ a S n j c2 := by rw [← e]; exact h
end STC

