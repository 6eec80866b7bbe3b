/-! the class's reader over the same tellings -/
abbrev CS : Type := FP × Int × (Int → Int64) × (Int → Int) × Int × (Int → Int64) × (Int → Int) × (Int → Int) × Int × (Int → Int64) × Int
abbrev CS.fp (r : CS) : FP := r.1
abbrev CS.rn (r : CS) : Int := r.2.1
abbrev CS.rk (r : CS) : Int → Int64 := r.2.2.1
abbrev CS.rp (r : CS) : Int → Int := r.2.2.2.1
abbrev CS.cn (r : CS) : Int := r.2.2.2.2.1
abbrev CS.ck (r : CS) : Int → Int64 := r.2.2.2.2.2.1
abbrev CS.cp (r : CS) : Int → Int := r.2.2.2.2.2.2.1
abbrev CS.cc (r : CS) : Int → Int := r.2.2.2.2.2.2.2.1
abbrev CS.nn (r : CS) : Int := r.2.2.2.2.2.2.2.2.1
abbrev CS.nk (r : CS) : Int → Int64 := r.2.2.2.2.2.2.2.2.2.1
abbrev CS.m (r : CS) : Int := r.2.2.2.2.2.2.2.2.2.2
abbrev CS.mk (fp : FP) (rn : Int) (rk : Int → Int64) (rp : Int → Int) (cn : Int) (ck : Int → Int64) (cp : Int → Int) (cc : Int → Int) (nn : Int) (nk : Int → Int64) (m : Int) : CS := (fp, rn, rk, rp, cn, ck, cp, cc, nn, nk, m)
def fndC (c : CS) (w : Int64) : Prop := ∃ n, 0 ≤ n ∧ n < c.nn ∧ c.nk n = w
def fndQ (c : CS) (w : Int64) : Prop := ∃ q, 0 ≤ q ∧ q < c.rn ∧ c.rk q = w
noncomputable def nCn (c : CS) (w : Int64) (p : Int) : List NT := ifP (¬ fndC c w ∧ 12 ≤ c.nn) [(p, 5)] []
noncomputable def sCn (c : CS) (w : Int64) : CS := ifP (¬ fndC c w ∧ ¬ 12 ≤ c.nn) (CS.mk c.fp c.rn c.rk c.rp c.cn c.ck c.cp c.cc (c.nn + 1) (up1 c.nk c.nn w) c.m) c
noncomputable def nC (c : CS) (e : EW) : List NT :=
  if e.1 = 2 then ifP (fndQ c e.2.2.2) [(e.2.1, 2)] [] ++ ifP (6 ≤ c.rn) [(e.2.1, 5)] []
  else if e.1 = 3 then ifP (fndC c e.2.2.2) [(e.2.1, 2)] [] ++ (ifP (4 ≤ e.2.2.1) [(e.2.1, 5)] [] ++ nCn c e.2.2.2 e.2.1)
  else if e.1 = 7 then []
  else if e.1 = 4 then nCn c e.2.2.2 e.2.1
  else if e.1 = 5 then ifP (40 < c.m + 1) [(e.2.1, 5)] []
  else if e.1 = 1 then []
  else if e.1 = 0 then ifP (120 < e.2.2.1) [(e.2.1, 5)] []
  else []
noncomputable def sC (c : CS) (e : EW) : CS :=
  if e.1 = 2 then (CS.mk c.fp (c.rn + 1) (up1 c.rk c.rn e.2.2.2) (up1 c.rp c.rn 0) c.cn c.ck c.cp c.cc (0) c.nk c.m)
  else if e.1 = 3 then (CS.mk (sCn c e.2.2.2).fp (sCn c e.2.2.2).rn (sCn c e.2.2.2).rk (up1 c.rp (c.rn - 1) (e.2.2.1 + 1)) (sCn c e.2.2.2).cn (sCn c e.2.2.2).ck (sCn c e.2.2.2).cp (sCn c e.2.2.2).cc (sCn c e.2.2.2).nn (sCn c e.2.2.2).nk (sCn c e.2.2.2).m)
  else if e.1 = 7 then c
  else if e.1 = 4 then sCn c e.2.2.2
  else if e.1 = 5 then (CS.mk c.fp c.rn c.rk c.rp c.cn c.ck c.cp c.cc c.nn c.nk (c.m + 1))
  else if e.1 = 1 then (CS.mk c.fp c.rn c.rk c.rp (c.cn + 1) (up1 c.ck c.cn e.2.2.2) (up1 c.cp c.cn e.2.1) (up1 c.cc c.cn e.2.2.1) c.nn c.nk c.m)
  else c
noncomputable def uC (c : CS) (e : EW) : CS := (CS.mk (cnts (nC c e) c.fp) (sC c e).rn (sC c e).rk (sC c e).rp (sC c e).cn (sC c e).ck (sC c e).cp (sC c e).cc (sC c e).nn (sC c e).nk (sC c e).m)
/-- how tellings follow each other: md 0 outside of a routine, 1 in its parameters (pc so far), 2 behind them; lo: no place lies ahead of it -/
def SHP : List EW → Nat → Int → Int → Prop
  | [], md, _, _ => md = 0
  | e :: es, md, pc, lo =>
    (md = 0 ∧ e.1 = 2 ∧ lo ≤ e.2.1 ∧ SHP es 1 0 (e.2.1 + 1)) ∨
    (md = 1 ∧ e.1 = 3 ∧ lo ≤ e.2.1 ∧ e.2.2.1 = pc ∧ SHP es 1 (pc + 1) e.2.1) ∨
    (md = 1 ∧ e.1 = 7 ∧ e.2.2.1 = pc ∧ SHP es 2 0 lo) ∨
    (md = 2 ∧ (e.1 = 4 ∨ e.1 = 5) ∧ lo ≤ e.2.1 ∧ SHP es 2 0 e.2.1) ∨
    (md = 2 ∧ e.1 = 1 ∧ SHP es 2 0 lo) ∨
    (md = 2 ∧ e.1 = 0 ∧ SHP es 0 0 lo)
theorem fst_ex {f : Int → Int64} {w : Int64} {n : Int} (h : ∃ q, 0 ≤ q ∧ q < n ∧ f q = w) : ∃ q, 0 ≤ q ∧ q < n ∧ f q = w ∧ ∀ j, 0 ≤ j → j < q → f j ≠ w := by
  obtain ⟨q, h0, h1, h2⟩ := h
  have key : ∀ k : Nat, ∀ q : Int, q.toNat = k → 0 ≤ q → q < n → f q = w → ∃ q, 0 ≤ q ∧ q < n ∧ f q = w ∧ ∀ j, 0 ≤ j → j < q → f j ≠ w := by
    intro k
    induction k using Nat.strongRecOn with
    | _ k ih =>
      intro q e a b c
      by_cases z : ∃ j, 0 ≤ j ∧ j < q ∧ f j = w
      · obtain ⟨j, j0, j1, j2⟩ := z
        exact ih j.toNat (by omega) j rfl j0 (by omega) j2
      · exact ⟨q, a, b, c, fun j x y v => z ⟨j, x, y, v⟩⟩
  exact key _ q rfl h0 h1 h2
theorem fndR_ex {r : RS} {w : Int64} : (∃ q, fndR r w q) ↔ ∃ q, 0 ≤ q ∧ q < r.tn ∧ r.tw q = w := by
  constructor
  · rintro ⟨q, a, b, c, -⟩; exact ⟨q, a, b, c⟩
  · intro h; exact fst_ex h
theorem pos_if {c : Prop} {p f : Int} (h : 0 < f) : POS (ifP c [(p, f)] []) := fun n q => by
  by_cases z : c
  · rw [ifP_t z] at q; rw [List.mem_singleton.mp q]; exact h
  · rw [ifP_f z] at q; exact absurd q (by simp)
theorem POS.app {N M : List NT} (h : POS N) (g : POS M) : POS (N ++ M) := fun n q => (List.mem_append.mp q).elim (h n) (g n)
theorem POS.nil : POS [] := fun _ q => absurd q (by simp)
theorem pos_C (c : CS) (e : EW) : POS (nC c e) := by
  unfold nC nCn
  by_cases k2 : e.1 = 2
  · rw [if_pos k2]; exact (pos_if (by omega)).app (pos_if (by omega))
  rw [if_neg k2]
  by_cases k3 : e.1 = 3
  · rw [if_pos k3]; exact (pos_if (by omega)).app ((pos_if (by omega)).app (pos_if (by omega)))
  rw [if_neg k3]
  by_cases k7 : e.1 = 7
  · rw [if_pos k7]; exact POS.nil
  rw [if_neg k7]
  by_cases k4 : e.1 = 4
  · rw [if_pos k4]; exact pos_if (by omega)
  rw [if_neg k4]
  by_cases k5 : e.1 = 5
  · rw [if_pos k5]; exact pos_if (by omega)
  rw [if_neg k5]
  by_cases k1 : e.1 = 1
  · rw [if_pos k1]; exact POS.nil
  rw [if_neg k1]
  by_cases k0 : e.1 = 0
  · rw [if_pos k0]; exact pos_if (by omega)
  rw [if_neg k0]; exact POS.nil
theorem pos_ifL {c : Prop} {M N : List NT} (h : POS M) (g : POS N) : POS (ifP c M N) := by
  by_cases z : c
  · rw [ifP_t z]; exact h
  · rw [ifP_f z]; exact g
theorem pos_R (r : RS) (e : EW) : POS (nRf r e) := by
  unfold nRf nRn nPa nCl nNm
  by_cases k2 : e.1 = 2
  · rw [if_pos k2]; exact pos_ifL ((pos_if (by omega)).app (pos_if (by omega))) POS.nil
  rw [if_neg k2]
  by_cases k3 : e.1 = 3
  · rw [if_pos k3]; exact pos_ifL ((pos_if (by omega)).app ((pos_if (by omega)).app (pos_if (by omega)))) POS.nil
  rw [if_neg k3]
  by_cases k7 : e.1 = 7
  · rw [if_pos k7]; exact POS.nil
  rw [if_neg k7]
  by_cases k4 : e.1 = 4
  · rw [if_pos k4]; exact pos_if (by omega)
  rw [if_neg k4]
  by_cases k5 : e.1 = 5
  · rw [if_pos k5]; exact pos_if (by omega)
  rw [if_neg k5]
  by_cases k1 : e.1 = 1
  · rw [if_pos k1]; exact pos_ifL (pos_ifL (pos_if (by omega)) (fun n q => by rw [List.mem_singleton.mp q]; show (0 : Int) < 3; omega)) POS.nil
  rw [if_neg k1]
  by_cases k0 : e.1 = 0
  · rw [if_pos k0]; exact pos_if (by omega)
  rw [if_neg k0]; exact POS.nil
theorem mem_if {c : Prop} {n m : NT} (h : n ∈ ifP c [m] []) : c ∧ n = m := by
  by_cases z : c
  · rw [ifP_t z] at h; exact ⟨z, List.mem_singleton.mp h⟩
  · rw [ifP_f z] at h; exact absurd h (by simp)
theorem mem_ift {c : Prop} {m : NT} (h : c) : m ∈ ifP c [m] [] := by rw [ifP_t h]; simp
noncomputable def zE (e : EW) : List NT := ifP (e.1 = 0 ∧ 120 < e.2.2.1) [(e.2.1, 5)] []
/-- both readers behind the same tellings, the reference's in phase 1 -/
def K1 (r : RS) (c : CS) (N1 NC Z : List NT) (md : Nat) (pc lo : Int) : Prop :=
  (r.ph = 1) ∧
  (LST N1 r.fp) ∧
  (LST NC c.fp) ∧
  (DMN N1 NC) ∧
  (DMN NC (N1 ++ Z)) ∧
  (∀ n ∈ Z, n ∈ NC) ∧
  (0 ≤ r.rt) ∧
  (r.tn = c.rn) ∧
  (md = 0 ∧ c.rn = r.rt ∨ md ≠ 0 ∧ c.rn = r.rt + 1) ∧
  (∀ j, 0 ≤ j → j < c.rn → r.tw j = c.rk j) ∧
  (∀ j, 0 ≤ j → (j < c.rn - 1 ∨ j < c.rn ∧ md ≠ 1) → r.tm j = c.rp j) ∧
  (md = 1 → c.rp (c.rn - 1) = pc) ∧
  (r.ln = c.m) ∧
  (md ≠ 0 → r.rt < 6 → r.nn r.rt = c.nn ∧ ∀ i, 0 ≤ i → i < c.nn → r.nw (12 * r.rt + i) = c.nk i) ∧
  (0 ≤ c.nn ∧ c.nn ≤ 12) ∧
  (∀ k, (r.rt < k ∨ r.rt = k ∧ md = 0) → k < 6 → r.nn k = 0) ∧
  (7 ≤ c.rn → ∃ p, (p, 5) ∈ N1 ∧ p < lo) ∧
  (41 ≤ c.m → ∃ p, (p, 5) ∈ N1 ∧ p ≤ lo) ∧
  (md = 1 → 5 ≤ pc → ∃ p, (p, 5) ∈ N1 ∧ p ≤ lo)
section K1S
variable {r : RS} {c : CS} {N1 NC Z : List NT} {md : Nat} {pc lo : Int}
theorem K1.ph (h : K1 r c N1 NC Z md pc lo) : r.ph = 1 := h.1
theorem K1.l1 (h : K1 r c N1 NC Z md pc lo) : LST N1 r.fp := h.2.1
theorem K1.l2 (h : K1 r c N1 NC Z md pc lo) : LST NC c.fp := h.2.2.1
theorem K1.d1 (h : K1 r c N1 NC Z md pc lo) : DMN N1 NC := h.2.2.2.1
theorem K1.d2 (h : K1 r c N1 NC Z md pc lo) : DMN NC (N1 ++ Z) := h.2.2.2.2.1
theorem K1.dz (h : K1 r c N1 NC Z md pc lo) : ∀ n ∈ Z, n ∈ NC := h.2.2.2.2.2.1
theorem K1.rt0 (h : K1 r c N1 NC Z md pc lo) : 0 ≤ r.rt := h.2.2.2.2.2.2.1
theorem K1.tn (h : K1 r c N1 NC Z md pc lo) : r.tn = c.rn := h.2.2.2.2.2.2.2.1
theorem K1.rt (h : K1 r c N1 NC Z md pc lo) : md = 0 ∧ c.rn = r.rt ∨ md ≠ 0 ∧ c.rn = r.rt + 1 := h.2.2.2.2.2.2.2.2.1
theorem K1.tw (h : K1 r c N1 NC Z md pc lo) : ∀ j, 0 ≤ j → j < c.rn → r.tw j = c.rk j := h.2.2.2.2.2.2.2.2.2.1
theorem K1.tm (h : K1 r c N1 NC Z md pc lo) : ∀ j, 0 ≤ j → (j < c.rn - 1 ∨ j < c.rn ∧ md ≠ 1) → r.tm j = c.rp j := h.2.2.2.2.2.2.2.2.2.2.1
theorem K1.pp (h : K1 r c N1 NC Z md pc lo) : md = 1 → c.rp (c.rn - 1) = pc := h.2.2.2.2.2.2.2.2.2.2.2.1
theorem K1.ln (h : K1 r c N1 NC Z md pc lo) : r.ln = c.m := h.2.2.2.2.2.2.2.2.2.2.2.2.1
theorem K1.nn (h : K1 r c N1 NC Z md pc lo) : md ≠ 0 → r.rt < 6 → r.nn r.rt = c.nn ∧ ∀ i, 0 ≤ i → i < c.nn → r.nw (12 * r.rt + i) = c.nk i := h.2.2.2.2.2.2.2.2.2.2.2.2.2.1
theorem K1.nb (h : K1 r c N1 NC Z md pc lo) : 0 ≤ c.nn ∧ c.nn ≤ 12 := h.2.2.2.2.2.2.2.2.2.2.2.2.2.2.1
theorem K1.nl (h : K1 r c N1 NC Z md pc lo) : ∀ k, (r.rt < k ∨ r.rt = k ∧ md = 0) → k < 6 → r.nn k = 0 := h.2.2.2.2.2.2.2.2.2.2.2.2.2.2.2.1
theorem K1.k7 (h : K1 r c N1 NC Z md pc lo) : 7 ≤ c.rn → ∃ p, (p, 5) ∈ N1 ∧ p < lo := h.2.2.2.2.2.2.2.2.2.2.2.2.2.2.2.2.1
theorem K1.k41 (h : K1 r c N1 NC Z md pc lo) : 41 ≤ c.m → ∃ p, (p, 5) ∈ N1 ∧ p ≤ lo := h.2.2.2.2.2.2.2.2.2.2.2.2.2.2.2.2.2.1
theorem K1.k5 (h : K1 r c N1 NC Z md pc lo) : md = 1 → 5 ≤ pc → ∃ p, (p, 5) ∈ N1 ∧ p ≤ lo := h.2.2.2.2.2.2.2.2.2.2.2.2.2.2.2.2.2.2
end K1S
theorem sNm_q (r : RS) (w : Int64) : (sNm r w).ph = r.ph ∧ (sNm r w).rt = r.rt ∧ (sNm r w).ln = r.ln ∧ (sNm r w).tn = r.tn ∧ (sNm r w).tw = r.tw ∧ (sNm r w).tm = r.tm ∧ ∀ k, k ≠ r.rt → (sNm r w).nn k = r.nn k := by
  unfold sNm
  by_cases z : r.ph = 1 ∧ r.rt < 6 ∧ ¬ fndN r w ∧ r.nn r.rt ≠ 12
  · rw [ifP_t z]; exact ⟨rfl, rfl, rfl, rfl, rfl, rfl, fun k h => up1_ne h⟩
  · rw [ifP_f z]; exact ⟨rfl, rfl, rfl, rfl, rfl, rfl, fun _ _ => rfl⟩
theorem sCn_q (c : CS) (w : Int64) : (sCn c w).rn = c.rn ∧ (sCn c w).rk = c.rk ∧ (sCn c w).rp = c.rp ∧ (sCn c w).cn = c.cn ∧ (sCn c w).ck = c.ck ∧ (sCn c w).cp = c.cp ∧ (sCn c w).cc = c.cc ∧ (sCn c w).m = c.m := by
  unfold sCn
  by_cases z : ¬ fndC c w ∧ ¬ 12 ≤ c.nn
  · rw [ifP_t z]; exact ⟨rfl, rfl, rfl, rfl, rfl, rfl, rfl, rfl⟩
  · rw [ifP_f z]; exact ⟨rfl, rfl, rfl, rfl, rfl, rfl, rfl, rfl⟩
theorem sCn_b {c : CS} {w : Int64} (h : 0 ≤ c.nn ∧ c.nn ≤ 12) : 0 ≤ (sCn c w).nn ∧ (sCn c w).nn ≤ 12 := by
  unfold sCn
  by_cases z : ¬ fndC c w ∧ ¬ 12 ≤ c.nn
  · rw [ifP_t z]; show 0 ≤ c.nn + 1 ∧ c.nn + 1 ≤ 12; omega
  · rw [ifP_f z]; exact h
def NCP (r : RS) (c : CS) : Prop := r.nn r.rt = c.nn ∧ ∀ i, 0 ≤ i → i < c.nn → r.nw (12 * r.rt + i) = c.nk i
theorem NCP.iff {r : RS} {c : CS} {w : Int64} (h : NCP r c) : fndN r w ↔ fndC c w := by
  constructor
  · rintro ⟨n, a, b, e⟩; rw [h.1] at b; exact ⟨n, a, b, by rw [← h.2 n a b]; exact e⟩
  · rintro ⟨n, a, b, e⟩; exact ⟨n, a, by rw [h.1]; exact b, by rw [h.2 n a b]; exact e⟩
theorem NCP.nm {r : RS} {c : CS} {w : Int64} (h : NCP r c) (hp : r.ph = 1) (hr : r.rt < 6) (hb : c.nn ≤ 12) : NCP (sNm r w) (sCn c w) := by
  by_cases z : ¬ fndC c w ∧ ¬ 12 ≤ c.nn
  · have e1 : sCn c w = (CS.mk c.fp c.rn c.rk c.rp c.cn c.ck c.cp c.cc (c.nn + 1) (up1 c.nk c.nn w) c.m) := ifP_t z
    have e2 : sNm r w = (RS.mk r.ph r.fp r.rt r.ln r.tn r.tw r.tm (up1 r.nn r.rt (r.nn r.rt + 1)) (up1 r.nw (12 * r.rt + r.nn r.rt) w)) := ifP_t ⟨hp, hr, fun q => z.1 (h.iff.mp q), by rw [h.1]; omega⟩
    rw [e1, e2]
    refine ⟨?_, fun i a b => ?_⟩
    · show up1 r.nn r.rt (r.nn r.rt + 1) r.rt = c.nn + 1
      rw [up1_eq, h.1]
    · show up1 r.nw (12 * r.rt + r.nn r.rt) w (12 * r.rt + i) = up1 c.nk c.nn w i
      have b : i < c.nn + 1 := b
      by_cases q : i = c.nn
      · rw [q, h.1, up1_eq, up1_eq]
      · rw [up1_ne q, up1_ne (by rw [h.1]; omega)]
        exact h.2 i a (by omega)
  · have e1 : sCn c w = c := ifP_f z
    have e2 : sNm r w = r := ifP_f (fun q => z ⟨fun u => q.2.2.1 (h.iff.mpr u), by have := q.2.2.2; rw [h.1] at this; omega⟩)
    rw [e1, e2]; exact h
theorem NCP.nt {r : RS} {c : CS} {w : Int64} {p : Int} (h : NCP r c) (hr : r.rt < 6) (hb : c.nn ≤ 12) : nNm r w p = nCn c w p := by
  by_cases z : ¬ fndC c w ∧ 12 ≤ c.nn
  · have e1 : nCn c w p = [(p, 5)] := ifP_t z
    have e2 : nNm r w p = [(p, 5)] := ifP_t ⟨hr, fun q => z.1 (h.iff.mp q), by rw [h.1]; omega⟩
    rw [e1, e2]
  · have e1 : nCn c w p = [] := ifP_f z
    have e2 : nNm r w p = [] := ifP_f (fun q => z ⟨fun u => q.2.1 (h.iff.mpr u), by have := q.2.2; rw [h.1] at this; omega⟩)
    rw [e1, e2]
theorem nNm_no {r : RS} {w : Int64} {p : Int} (h : ¬ r.rt < 6) : nNm r w p = [] := ifP_f (fun q => h q.1)
theorem nCn_mem {c : CS} {w : Int64} {p : Int} {n : NT} (h : n ∈ nCn c w p) : n = (p, 5) := (mem_if h).2
section STEP
variable {r : RS} {c : CS} {N1 NC Z : List NT} {md : Nat} {pc lo : Int} {e : EW}
theorem K1.dA (h : K1 r c N1 NC Z md pc lo) (x : DMN (nRf r e) (NC ++ nC c e)) : DMN (N1 ++ nRf r e) (NC ++ nC c e) := (h.d1.mono (fun m q => List.mem_append.mpr (Or.inl q))).app x
theorem K1.dB (h : K1 r c N1 NC Z md pc lo) (y : DMN (nC c e) ((N1 ++ nRf r e) ++ (Z ++ zE e))) : DMN (NC ++ nC c e) ((N1 ++ nRf r e) ++ (Z ++ zE e)) := (h.d2.mono (fun m q => by
  rcases List.mem_append.mp q with q | q
  · exact List.mem_append.mpr (Or.inl (List.mem_append.mpr (Or.inl q)))
  · exact List.mem_append.mpr (Or.inr (List.mem_append.mpr (Or.inl q))))).app y
theorem K1.dZ (h : K1 r c N1 NC Z md pc lo) (g : ∀ n ∈ zE e, n ∈ nC c e) : ∀ n ∈ Z ++ zE e, n ∈ NC ++ nC c e := fun n q => by
  rcases List.mem_append.mp q with q | q
  · exact List.mem_append.mpr (Or.inl (h.dz n q))
  · exact List.mem_append.mpr (Or.inr (g n q))
theorem zE_no (h : e.1 ≠ 0) : ∀ n ∈ zE e, n ∈ nC c e := fun n q => absurd (mem_if q).1.1 h
theorem inNn {n : NT} {A B C : List NT} (h : n ∈ A) : n ∈ (A ++ B) ++ C := List.mem_append.mpr (Or.inl (List.mem_append.mpr (Or.inl h)))
theorem inRr {n : NT} {A B C : List NT} (h : n ∈ B) : n ∈ (A ++ B) ++ C := List.mem_append.mpr (Or.inl (List.mem_append.mpr (Or.inr h)))
theorem K1.k5N {N M : List NT} {p q : Int} (h : ∃ p, (p, 5) ∈ N ∧ p < q) (hq : q ≤ p) : ∃ p', ((p', 5) : NT) ∈ N ++ M ∧ p' < p := by
  obtain ⟨x, a, b⟩ := h
  exact ⟨x, List.mem_append.mpr (Or.inl a), by omega⟩
theorem K1.k5L {N M : List NT} {p q : Int} (h : ∃ p, (p, 5) ∈ N ∧ p ≤ q) (hq : q ≤ p) : ∃ p', ((p', 5) : NT) ∈ N ++ M ∧ p' ≤ p := by
  obtain ⟨x, a, b⟩ := h
  exact ⟨x, List.mem_append.mpr (Or.inl a), by omega⟩
/-- a routine's NAME -/
theorem K1.s2 (h : K1 r c N1 NC Z 0 pc lo) (k : e.1 = 2) (hl : lo ≤ e.2.1) : K1 (uR r e) (uC c e) (N1 ++ nRf r e) (NC ++ nC c e) (Z ++ zE e) 1 0 (e.2.1 + 1) := by
  have kn : nRf r e = ifP (r.rt = 6) [(e.2.1, 5)] [] ++ ifP (∃ q, fndR r e.2.2.2 q) [(e.2.1, 2)] [] := by unfold nRf nRn; rw [if_pos k, ifP_t h.ph]
  have cn : nC c e = ifP (fndQ c e.2.2.2) [(e.2.1, 2)] [] ++ ifP (6 ≤ c.rn) [(e.2.1, 5)] [] := by unfold nC; rw [if_pos k]
  have sr : sR r e = (RS.mk r.ph r.fp r.rt r.ln (r.tn + 1) (up1 r.tw r.tn e.2.2.2) r.tm r.nn r.nw) := by unfold sR; rw [if_pos k, ifP_t h.ph]
  have sc : sC c e = (CS.mk c.fp (c.rn + 1) (up1 c.rk c.rn e.2.2.2) (up1 c.rp c.rn 0) c.cn c.ck c.cp c.cc (0) c.nk c.m) := by unfold sC; rw [if_pos k]
  have hrt : c.rn = r.rt := by rcases h.rt with q | q <;> omega
  have h0 := h.rt0
  have x7 : 7 ≤ c.rn + 1 → ∃ p, ((p, 5) : NT) ∈ N1 ++ nRf r e ∧ p < e.2.1 + 1 := fun q => by
    by_cases z : r.rt = 6
    · exact ⟨e.2.1, List.mem_append.mpr (Or.inr (by rw [kn]; exact List.mem_append.mpr (Or.inl (mem_ift z)))), by omega⟩
    · exact K1.k5N (h.k7 (by omega)) (by omega)
  refine ⟨?_, LST.fold _ h.l1 (pos_R r e), LST.fold _ h.l2 (pos_C c e), h.dA (fun n q => ?_), h.dB (fun n q => ?_), h.dZ (zE_no (by omega)), ?_, ?_, ?_, ?_, ?_, ?_, ?_, ?_, ?_, ?_, ?_, ?_, ?_⟩
  · show (sR r e).ph = 1; rw [sr]; exact h.ph
  · refine ⟨n, List.mem_append.mpr (Or.inr ?_), LE2.rfl⟩
    rw [kn] at q; rw [cn]
    rcases List.mem_append.mp q with q | q
    · obtain ⟨a, b⟩ := mem_if q
      rw [b]; exact List.mem_append.mpr (Or.inr (mem_ift (by omega)))
    · obtain ⟨⟨j, a0, a1, a2, -⟩, b⟩ := mem_if q
      rw [b]; refine List.mem_append.mpr (Or.inl (mem_ift ⟨j, a0, by rw [← h.tn]; exact a1, ?_⟩))
      rw [← h.tw j a0 (by rw [← h.tn]; exact a1)]; exact a2
  · rw [cn] at q
    rcases List.mem_append.mp q with q | q
    · obtain ⟨⟨j, a0, a1, a2⟩, b⟩ := mem_if q
      rw [b]
      refine ⟨_, inRr ?_, LE2.rfl⟩
      rw [kn]
      exact List.mem_append.mpr (Or.inr (mem_ift (fndR_ex.mpr ⟨j, a0, by rw [h.tn]; exact a1, by rw [h.tw j a0 a1]; exact a2⟩)))
    · obtain ⟨a, b⟩ := mem_if q
      rw [b]
      by_cases z : r.rt = 6
      · refine ⟨_, inRr ?_, LE2.rfl⟩
        rw [kn]
        exact List.mem_append.mpr (Or.inl (mem_ift z))
      · obtain ⟨x, y, u⟩ := h.k7 (by omega)
        exact ⟨_, inNn y, Or.inl (by show x < e.2.1; omega)⟩
  · show 0 ≤ (sR r e).rt; rw [sr]; exact h0
  · show (sR r e).tn = (sC c e).rn; rw [sr, sc]; show r.tn + 1 = c.rn + 1; rw [h.tn]
  · right; show (1 : Nat) ≠ 0 ∧ (sC c e).rn = (sR r e).rt + 1; rw [sr, sc]; exact ⟨by omega, by show c.rn + 1 = r.rt + 1; omega⟩
  · intro j a b
    show (sR r e).tw j = (sC c e).rk j
    have b : j < (sC c e).rn := b
    rw [sr, sc]; rw [sc] at b
    have b : j < c.rn + 1 := b
    show up1 r.tw r.tn e.2.2.2 j = up1 c.rk c.rn e.2.2.2 j
    rw [h.tn]
    by_cases z : j = c.rn
    · rw [z, up1_eq, up1_eq]
    · rw [up1_ne z, up1_ne z]; exact h.tw j a (by omega)
  · intro j a b
    show (sR r e).tm j = (sC c e).rp j
    have b : j < (sC c e).rn - 1 ∨ j < (sC c e).rn ∧ (1 : Nat) ≠ 1 := b
    rw [sr, sc]; rw [sc] at b
    have b : j < c.rn := b.elim (fun b => by have b : j < c.rn + 1 - 1 := b; omega) (fun b => absurd rfl b.2)
    show r.tm j = up1 c.rp c.rn 0 j
    rw [up1_ne (by omega)]; exact h.tm j a (Or.inr ⟨b, by omega⟩)
  · intro _
    show (sC c e).rp ((sC c e).rn - 1) = 0
    rw [sc]
    show up1 c.rp c.rn 0 (c.rn + 1 - 1) = 0
    rw [show c.rn + 1 - 1 = c.rn by omega, up1_eq]
  · show (sR r e).ln = (sC c e).m; rw [sr, sc]; exact h.ln
  · intro _ z
    show (sR r e).nn (sR r e).rt = (sC c e).nn ∧ _
    have z : (sR r e).rt < 6 := z
    rw [sr] at z ⊢; rw [sc]
    refine ⟨h.nl r.rt (Or.inr ⟨rfl, rfl⟩) z, fun i a b => ?_⟩
    have b : i < (uC c e).nn := b
    have b2 : (uC c e).nn = 0 := by show (sC c e).nn = 0; rw [sc]
    omega
  · show 0 ≤ (sC c e).nn ∧ (sC c e).nn ≤ 12; rw [sc]; exact ⟨Int.le_refl _, by show (0 : Int) ≤ 12; omega⟩
  · intro k' a b
    show (sR r e).nn k' = 0
    have a : (sR r e).rt < k' ∨ (sR r e).rt = k' ∧ (1 : Nat) = 0 := a
    rw [sr] at a ⊢
    exact h.nl k' (Or.inl (a.elim id (fun a => absurd a.2 (by omega)))) b
  · intro q; have q : 7 ≤ (sC c e).rn := q; rw [sc] at q; exact x7 q
  · intro q; have q : 41 ≤ (sC c e).m := q; rw [sc] at q; exact K1.k5L (h.k41 q) (by omega)
  · intro _ q; exact absurd q (by omega)
theorem le5 {x p : Int} (h : x ≤ p) : LE2 (x, 5) (p, 5) := by unfold LE2; simp only; omega
theorem lt5 {x p f : Int} (h : x < p) : LE2 (x, 5) (p, f) := Or.inl h
/-- a statement -/
theorem K1.s5 (h : K1 r c N1 NC Z 2 pc lo) (k : e.1 = 5) (hl : lo ≤ e.2.1) : K1 (uR r e) (uC c e) (N1 ++ nRf r e) (NC ++ nC c e) (Z ++ zE e) 2 0 e.2.1 := by
  have kn : nRf r e = ifP (r.ln + 1 = 41) [(e.2.1, 5)] [] := by unfold nRf; rw [if_neg (by omega), if_neg (by omega), if_neg (by omega), if_neg (by omega), if_pos k]
  have cn : nC c e = ifP (40 < c.m + 1) [(e.2.1, 5)] [] := by unfold nC; rw [if_neg (by omega), if_neg (by omega), if_neg (by omega), if_neg (by omega), if_pos k]
  have sr : sR r e = (RS.mk r.ph r.fp r.rt (r.ln + 1) r.tn r.tw r.tm r.nn r.nw) := by unfold sR; rw [if_neg (by omega), if_neg (by omega), if_neg (by omega), if_neg (by omega), if_pos k]
  have sc : sC c e = (CS.mk c.fp c.rn c.rk c.rp c.cn c.ck c.cp c.cc c.nn c.nk (c.m + 1)) := by unfold sC; rw [if_neg (by omega), if_neg (by omega), if_neg (by omega), if_neg (by omega), if_pos k]
  have hln := h.ln
  refine ⟨?_, LST.fold _ h.l1 (pos_R r e), LST.fold _ h.l2 (pos_C c e), h.dA (fun n q => ?_), h.dB (fun n q => ?_), h.dZ (zE_no (by omega)), ?_, ?_, ?_, ?_, ?_, ?_, ?_, ?_, ?_, ?_, ?_, ?_, ?_⟩
  · show (sR r e).ph = 1; rw [sr]; exact h.ph
  · rw [kn] at q
    obtain ⟨a, b⟩ := mem_if q
    refine ⟨n, List.mem_append.mpr (Or.inr ?_), LE2.rfl⟩
    rw [cn, b]; exact mem_ift (by omega)
  · rw [cn] at q
    obtain ⟨a, b⟩ := mem_if q
    rw [b]
    by_cases z : r.ln + 1 = 41
    · refine ⟨_, inRr ?_, LE2.rfl⟩
      rw [kn]; exact mem_ift z
    · obtain ⟨x, y, u⟩ := h.k41 (by omega)
      exact ⟨_, inNn y, le5 (by omega)⟩
  · show 0 ≤ (sR r e).rt; rw [sr]; exact h.rt0
  · show (sR r e).tn = (sC c e).rn; rw [sr, sc]; exact h.tn
  · show _ ∧ (sC c e).rn = (sR r e).rt ∨ _ ∧ (sC c e).rn = (sR r e).rt + 1; rw [sr, sc]; exact h.rt
  · show ∀ j, 0 ≤ j → j < (sC c e).rn → (sR r e).tw j = (sC c e).rk j; rw [sr, sc]; exact h.tw
  · show ∀ j, 0 ≤ j → (j < (sC c e).rn - 1 ∨ j < (sC c e).rn ∧ _) → (sR r e).tm j = (sC c e).rp j; rw [sr, sc]; exact h.tm
  · intro q; exact absurd q (by omega)
  · show (sR r e).ln = (sC c e).m; rw [sr, sc]; show r.ln + 1 = c.m + 1; omega
  · show _ → (sR r e).rt < 6 → (sR r e).nn (sR r e).rt = (sC c e).nn ∧ ∀ i, 0 ≤ i → i < (sC c e).nn → (sR r e).nw (12 * (sR r e).rt + i) = (sC c e).nk i; rw [sr, sc]; exact h.nn
  · show 0 ≤ (sC c e).nn ∧ (sC c e).nn ≤ 12; rw [sc]; exact h.nb
  · show ∀ k, ((sR r e).rt < k ∨ (sR r e).rt = k ∧ _) → k < 6 → (sR r e).nn k = 0; rw [sr]; exact h.nl
  · intro q; have q : 7 ≤ (sC c e).rn := q; rw [sc] at q; exact K1.k5N (h.k7 q) hl
  · intro q; have q : 41 ≤ (sC c e).m := q; rw [sc] at q
    have q : 41 ≤ c.m + 1 := q
    by_cases z : r.ln + 1 = 41
    · exact ⟨e.2.1, List.mem_append.mpr (Or.inr (by rw [kn]; exact mem_ift z)), Int.le_refl _⟩
    · exact K1.k5L (h.k41 (by omega)) hl
  · intro q; exact absurd q (by omega)
/-- a name -/
theorem K1.s4 (h : K1 r c N1 NC Z 2 pc lo) (k : e.1 = 4) (hl : lo ≤ e.2.1) : K1 (uR r e) (uC c e) (N1 ++ nRf r e) (NC ++ nC c e) (Z ++ zE e) 2 0 e.2.1 := by
  have kn : nRf r e = nNm r e.2.2.2 e.2.1 := by unfold nRf; rw [if_neg (by omega), if_neg (by omega), if_neg (by omega), if_pos k]
  have cn : nC c e = nCn c e.2.2.2 e.2.1 := by unfold nC; rw [if_neg (by omega), if_neg (by omega), if_neg (by omega), if_pos k]
  have sr : sR r e = sNm r e.2.2.2 := by unfold sR; rw [if_neg (by omega), if_neg (by omega), if_neg (by omega), if_pos k]
  have sc : sC c e = sCn c e.2.2.2 := by unfold sC; rw [if_neg (by omega), if_neg (by omega), if_neg (by omega), if_pos k]
  obtain ⟨r1, r2, r3, r4, r5, r6, r7⟩ := sNm_q r e.2.2.2
  obtain ⟨c1, c2, c3, c4, c5, c6, c7, c8⟩ := sCn_q c e.2.2.2
  have hrn : c.rn = r.rt + 1 := by rcases h.rt with q | q <;> omega
  have np : r.rt < 6 → NCP r c := fun z => h.nn (by omega) z
  refine ⟨?_, LST.fold _ h.l1 (pos_R r e), LST.fold _ h.l2 (pos_C c e), h.dA (fun n q => ?_), h.dB (fun n q => ?_), h.dZ (zE_no (by omega)), ?_, ?_, ?_, ?_, ?_, ?_, ?_, ?_, ?_, ?_, ?_, ?_, ?_⟩
  · show (sR r e).ph = 1; rw [sr, r1]; exact h.ph
  · rw [kn] at q
    by_cases z : r.rt < 6
    · refine ⟨n, List.mem_append.mpr (Or.inr ?_), LE2.rfl⟩
      rw [cn, ← (np z).nt z h.nb.2]; exact q
    · rw [nNm_no z] at q; exact absurd q (by simp)
  · rw [cn] at q
    by_cases z : r.rt < 6
    · refine ⟨n, inRr ?_, LE2.rfl⟩
      rw [kn, (np z).nt z h.nb.2]; exact q
    · obtain ⟨x, y, u⟩ := h.k7 (by omega)
      rw [nCn_mem q]
      exact ⟨_, inNn y, lt5 (by omega)⟩
  · show 0 ≤ (sR r e).rt; rw [sr, r2]; exact h.rt0
  · show (sR r e).tn = (sC c e).rn; rw [sr, sc, r4, c1]; exact h.tn
  · show _ ∧ (sC c e).rn = (sR r e).rt ∨ _ ∧ (sC c e).rn = (sR r e).rt + 1; rw [sr, sc, r2, c1]; exact h.rt
  · show ∀ j, 0 ≤ j → j < (sC c e).rn → (sR r e).tw j = (sC c e).rk j; rw [sr, sc, r5, c1, c2]; exact h.tw
  · show ∀ j, 0 ≤ j → (j < (sC c e).rn - 1 ∨ j < (sC c e).rn ∧ _) → (sR r e).tm j = (sC c e).rp j; rw [sr, sc, r6, c1, c3]; exact h.tm
  · intro q; exact absurd q (by omega)
  · show (sR r e).ln = (sC c e).m; rw [sr, sc, r3, c8]; exact h.ln
  · intro _ z
    have z : (sR r e).rt < 6 := z
    show NCP (sR r e) (sC c e)
    rw [sr, r2] at z
    rw [sr, sc]
    exact (np z).nm h.ph z h.nb.2
  · show 0 ≤ (sC c e).nn ∧ (sC c e).nn ≤ 12; rw [sc]; exact sCn_b h.nb
  · intro k' a b
    have a : (sR r e).rt < k' ∨ (sR r e).rt = k' ∧ (2 : Nat) = 0 := a
    show (sR r e).nn k' = 0
    rw [sr, r2] at a
    rw [sr, r7 k' (by omega)]
    exact h.nl k' (by omega) b
  · intro q; have q : 7 ≤ (sC c e).rn := q; rw [sc, c1] at q; exact K1.k5N (h.k7 q) hl
  · intro q; have q : 41 ≤ (sC c e).m := q; rw [sc, c8] at q; exact K1.k5L (h.k41 q) hl
  · intro q; exact absurd q (by omega)
/-- a parameter -/
theorem K1.s3 (h : K1 r c N1 NC Z 1 pc lo) (k : e.1 = 3) (hl : lo ≤ e.2.1) (hm : e.2.2.1 = pc) : K1 (uR r e) (uC c e) (N1 ++ nRf r e) (NC ++ nC c e) (Z ++ zE e) 1 (pc + 1) e.2.1 := by
  have kn : nRf r e = ifP (e.2.2.1 = 4) [(e.2.1, 5)] [] ++ (ifP (r.rt < 6 ∧ fndN r e.2.2.2) [(e.2.1, 2)] [] ++ nNm r e.2.2.2 e.2.1) := by unfold nRf nPa; rw [if_neg (by omega), if_pos k, ifP_t h.ph]
  have cn : nC c e = ifP (fndC c e.2.2.2) [(e.2.1, 2)] [] ++ (ifP (4 ≤ e.2.2.1) [(e.2.1, 5)] [] ++ nCn c e.2.2.2 e.2.1) := by unfold nC; rw [if_neg (by omega), if_pos k]
  have sr : sR r e = sNm r e.2.2.2 := by unfold sR; rw [if_neg (by omega), if_pos k, ifP_t h.ph]
  have sc : sC c e = (CS.mk (sCn c e.2.2.2).fp (sCn c e.2.2.2).rn (sCn c e.2.2.2).rk (up1 c.rp (c.rn - 1) (e.2.2.1 + 1)) (sCn c e.2.2.2).cn (sCn c e.2.2.2).ck (sCn c e.2.2.2).cp (sCn c e.2.2.2).cc (sCn c e.2.2.2).nn (sCn c e.2.2.2).nk (sCn c e.2.2.2).m) := by unfold sC; rw [if_neg (by omega), if_pos k]
  obtain ⟨r1, r2, r3, r4, r5, r6, r7⟩ := sNm_q r e.2.2.2
  obtain ⟨c1, c2, c3, c4, c5, c6, c7, c8⟩ := sCn_q c e.2.2.2
  have d1 : (sC c e).rn = c.rn := by rw [sc]; exact c1
  have d2 : (sC c e).rk = c.rk := by rw [sc]; exact c2
  have d3 : (sC c e).rp = up1 c.rp (c.rn - 1) (e.2.2.1 + 1) := by rw [sc]
  have d8 : (sC c e).m = c.m := by rw [sc]; exact c8
  have hrn : c.rn = r.rt + 1 := by rcases h.rt with q | q <;> omega
  have np : r.rt < 6 → NCP r c := fun z => h.nn (by omega) z
  refine ⟨?_, LST.fold _ h.l1 (pos_R r e), LST.fold _ h.l2 (pos_C c e), h.dA (fun n q => ?_), h.dB (fun n q => ?_), h.dZ (zE_no (by omega)), ?_, ?_, ?_, ?_, ?_, ?_, ?_, ?_, ?_, ?_, ?_, ?_, ?_⟩
  · show (sR r e).ph = 1; rw [sr, r1]; exact h.ph
  · refine ⟨n, List.mem_append.mpr (Or.inr ?_), LE2.rfl⟩
    rw [kn] at q; rw [cn]
    rcases List.mem_append.mp q with q | q
    · obtain ⟨a, b⟩ := mem_if q
      rw [b]; exact List.mem_append.mpr (Or.inr (List.mem_append.mpr (Or.inl (mem_ift (by omega)))))
    · rcases List.mem_append.mp q with q | q
      · obtain ⟨a, b⟩ := mem_if q
        rw [b]; exact List.mem_append.mpr (Or.inl (mem_ift ((np a.1).iff.mp a.2)))
      · by_cases z : r.rt < 6
        · rw [(np z).nt z h.nb.2] at q
          exact List.mem_append.mpr (Or.inr (List.mem_append.mpr (Or.inr q)))
        · rw [nNm_no z] at q; exact absurd q (by simp)
  · rw [cn] at q
    rcases List.mem_append.mp q with q | q
    · obtain ⟨a, b⟩ := mem_if q
      rw [b]
      by_cases z : r.rt < 6
      · refine ⟨_, inRr ?_, LE2.rfl⟩
        rw [kn]; exact List.mem_append.mpr (Or.inr (List.mem_append.mpr (Or.inl (mem_ift ⟨z, (np z).iff.mpr a⟩))))
      · obtain ⟨x, y, u⟩ := h.k7 (by omega)
        exact ⟨_, inNn y, lt5 (by omega)⟩
    · rcases List.mem_append.mp q with q | q
      · obtain ⟨a, b⟩ := mem_if q
        rw [b]
        by_cases z : e.2.2.1 = 4
        · refine ⟨_, inRr ?_, LE2.rfl⟩
          rw [kn]; exact List.mem_append.mpr (Or.inl (mem_ift z))
        · obtain ⟨x, y, u⟩ := h.k5 rfl (by omega)
          exact ⟨_, inNn y, le5 (by omega)⟩
      · by_cases z : r.rt < 6
        · refine ⟨n, inRr ?_, LE2.rfl⟩
          rw [kn, (np z).nt z h.nb.2]; exact List.mem_append.mpr (Or.inr (List.mem_append.mpr (Or.inr q)))
        · obtain ⟨x, y, u⟩ := h.k7 (by omega)
          rw [nCn_mem q]
          exact ⟨_, inNn y, lt5 (by omega)⟩
  · show 0 ≤ (sR r e).rt; rw [sr, r2]; exact h.rt0
  · show (sR r e).tn = (sC c e).rn; rw [sr, d1, r4]; exact h.tn
  · show _ ∧ (sC c e).rn = (sR r e).rt ∨ _ ∧ (sC c e).rn = (sR r e).rt + 1; rw [sr, d1, r2]; exact h.rt
  · show ∀ j, 0 ≤ j → j < (sC c e).rn → (sR r e).tw j = (sC c e).rk j; rw [sr, r5, d1, d2]; exact h.tw
  · intro j a b
    have b : j < (sC c e).rn - 1 ∨ j < (sC c e).rn ∧ (1 : Nat) ≠ 1 := b
    show (sR r e).tm j = (sC c e).rp j
    rw [d1] at b
    rw [sr, r6, d3, up1_ne (by omega)]
    exact h.tm j a (by omega)
  · intro _
    show (sC c e).rp ((sC c e).rn - 1) = pc + 1
    rw [d1, d3, up1_eq, hm]
  · show (sR r e).ln = (sC c e).m; rw [sr, d8, r3]; exact h.ln
  · intro _ z
    have z : (sR r e).rt < 6 := z
    show NCP (sR r e) (sC c e)
    rw [sr, r2] at z
    rw [sr, sc]
    exact (np z).nm h.ph z h.nb.2
  · show 0 ≤ (sC c e).nn ∧ (sC c e).nn ≤ 12; rw [sc]; exact sCn_b h.nb
  · intro k' a b
    have a : (sR r e).rt < k' ∨ (sR r e).rt = k' ∧ (1 : Nat) = 0 := a
    show (sR r e).nn k' = 0
    rw [sr, r2] at a
    rw [sr, r7 k' (by omega)]
    exact h.nl k' (by omega) b
  · intro q; have q : 7 ≤ (sC c e).rn := q; rw [d1] at q; exact K1.k5N (h.k7 q) hl
  · intro q; have q : 41 ≤ (sC c e).m := q; rw [d8] at q; exact K1.k5L (h.k41 q) hl
  · intro _ q
    by_cases z : e.2.2.1 = 4
    · exact ⟨e.2.1, List.mem_append.mpr (Or.inr (by rw [kn]; exact List.mem_append.mpr (Or.inl (mem_ift z)))), Int.le_refl _⟩
    · exact K1.k5L (h.k5 rfl (by omega)) hl
/-- the parameters' end -/
theorem K1.s7 (h : K1 r c N1 NC Z 1 pc lo) (k : e.1 = 7) (hm : e.2.2.1 = pc) : K1 (uR r e) (uC c e) (N1 ++ nRf r e) (NC ++ nC c e) (Z ++ zE e) 2 0 lo := by
  have kn : nRf r e = [] := by unfold nRf; rw [if_neg (by omega), if_neg (by omega), if_pos k]
  have cn : nC c e = [] := by unfold nC; rw [if_neg (by omega), if_neg (by omega), if_pos k]
  have sr : sR r e = (RS.mk r.ph r.fp r.rt r.ln r.tn r.tw (up1 r.tm (r.tn - 1) e.2.2.1) r.nn r.nw) := by unfold sR; rw [if_neg (by omega), if_neg (by omega), if_pos k, ifP_t h.ph]
  have sc : sC c e = c := by unfold sC; rw [if_neg (by omega), if_neg (by omega), if_pos k]
  have hrn : c.rn = r.rt + 1 := by rcases h.rt with q | q <;> omega
  have htn := h.tn
  refine ⟨?_, LST.fold _ h.l1 (pos_R r e), LST.fold _ h.l2 (pos_C c e), h.dA (by rw [kn]; exact DMN.nil), h.dB (by rw [cn]; exact DMN.nil), h.dZ (zE_no (by omega)), ?_, ?_, ?_, ?_, ?_, ?_, ?_, ?_, ?_, ?_, ?_, ?_, ?_⟩
  · show (sR r e).ph = 1; rw [sr]; exact h.ph
  · show 0 ≤ (sR r e).rt; rw [sr]; exact h.rt0
  · show (sR r e).tn = (sC c e).rn; rw [sr, sc]; exact h.tn
  · right; show (2 : Nat) ≠ 0 ∧ (sC c e).rn = (sR r e).rt + 1; rw [sr, sc]; exact ⟨by omega, hrn⟩
  · show ∀ j, 0 ≤ j → j < (sC c e).rn → (sR r e).tw j = (sC c e).rk j; rw [sr, sc]; exact h.tw
  · intro j a b
    have b : j < (sC c e).rn - 1 ∨ j < (sC c e).rn ∧ (2 : Nat) ≠ 1 := b
    show (sR r e).tm j = (sC c e).rp j
    rw [sc] at b
    rw [sr, sc]
    show up1 r.tm (r.tn - 1) e.2.2.1 j = c.rp j
    by_cases z : j = c.rn - 1
    · rw [z, show r.tn - 1 = c.rn - 1 by omega, up1_eq, h.pp rfl]; exact hm
    · rw [up1_ne (by omega)]; exact h.tm j a (Or.inl (by omega))
  · intro q; exact absurd q (by omega)
  · show (sR r e).ln = (sC c e).m; rw [sr, sc]; exact h.ln
  · intro _; show (sR r e).rt < 6 → (sR r e).nn (sR r e).rt = (sC c e).nn ∧ ∀ i, 0 ≤ i → i < (sC c e).nn → (sR r e).nw (12 * (sR r e).rt + i) = (sC c e).nk i; rw [sr, sc]; exact h.nn (by omega)
  · show 0 ≤ (sC c e).nn ∧ (sC c e).nn ≤ 12; rw [sc]; exact h.nb
  · intro k' a b
    have a : (sR r e).rt < k' ∨ (sR r e).rt = k' ∧ (2 : Nat) = 0 := a
    show (sR r e).nn k' = 0
    rw [sr] at a ⊢
    exact h.nl k' (Or.inl (a.elim id (fun a => absurd a.2 (by omega)))) b
  · intro q; have q : 7 ≤ (sC c e).rn := q; rw [sc] at q; exact K1.k5N (h.k7 q) (Int.le_refl _)
  · intro q; have q : 41 ≤ (sC c e).m := q; rw [sc] at q; exact K1.k5L (h.k41 q) (Int.le_refl _)
  · intro q; exact absurd q (by omega)
/-- a call -/
theorem K1.s1 (h : K1 r c N1 NC Z 2 pc lo) (k : e.1 = 1) : K1 (uR r e) (uC c e) (N1 ++ nRf r e) (NC ++ nC c e) (Z ++ zE e) 2 0 lo := by
  have kn : nRf r e = [] := by unfold nRf nCl; rw [if_neg (by omega), if_neg (by omega), if_neg (by omega), if_neg (by omega), if_neg (by omega), if_pos k, ifP_f (by rw [h.ph]; omega)]
  have cn : nC c e = [] := by unfold nC; rw [if_neg (by omega), if_neg (by omega), if_neg (by omega), if_neg (by omega), if_neg (by omega), if_pos k]
  have sr : sR r e = r := by unfold sR; rw [if_neg (by omega), if_neg (by omega), if_neg (by omega), if_neg (by omega), if_neg (by omega), if_pos k]
  have sc : sC c e = (CS.mk c.fp c.rn c.rk c.rp (c.cn + 1) (up1 c.ck c.cn e.2.2.2) (up1 c.cp c.cn e.2.1) (up1 c.cc c.cn e.2.2.1) c.nn c.nk c.m) := by unfold sC; rw [if_neg (by omega), if_neg (by omega), if_neg (by omega), if_neg (by omega), if_neg (by omega), if_pos k]
  refine ⟨?_, LST.fold _ h.l1 (pos_R r e), LST.fold _ h.l2 (pos_C c e), h.dA (by rw [kn]; exact DMN.nil), h.dB (by rw [cn]; exact DMN.nil), h.dZ (zE_no (by omega)), ?_, ?_, ?_, ?_, ?_, ?_, ?_, ?_, ?_, ?_, ?_, ?_, ?_⟩
  · show (sR r e).ph = 1; rw [sr]; exact h.ph
  · show 0 ≤ (sR r e).rt; rw [sr]; exact h.rt0
  · show (sR r e).tn = (sC c e).rn; rw [sr, sc]; exact h.tn
  · show _ ∧ (sC c e).rn = (sR r e).rt ∨ _ ∧ (sC c e).rn = (sR r e).rt + 1; rw [sr, sc]; exact h.rt
  · show ∀ j, 0 ≤ j → j < (sC c e).rn → (sR r e).tw j = (sC c e).rk j; rw [sr, sc]; exact h.tw
  · show ∀ j, 0 ≤ j → (j < (sC c e).rn - 1 ∨ j < (sC c e).rn ∧ _) → (sR r e).tm j = (sC c e).rp j; rw [sr, sc]; exact h.tm
  · intro q; exact absurd q (by omega)
  · show (sR r e).ln = (sC c e).m; rw [sr, sc]; exact h.ln
  · show _ → (sR r e).rt < 6 → (sR r e).nn (sR r e).rt = (sC c e).nn ∧ ∀ i, 0 ≤ i → i < (sC c e).nn → (sR r e).nw (12 * (sR r e).rt + i) = (sC c e).nk i; rw [sr, sc]; exact h.nn
  · show 0 ≤ (sC c e).nn ∧ (sC c e).nn ≤ 12; rw [sc]; exact h.nb
  · show ∀ k, ((sR r e).rt < k ∨ (sR r e).rt = k ∧ _) → k < 6 → (sR r e).nn k = 0; rw [sr]; exact h.nl
  · intro q; have q : 7 ≤ (sC c e).rn := q; rw [sc] at q; exact K1.k5N (h.k7 q) (Int.le_refl _)
  · intro q; have q : 41 ≤ (sC c e).m := q; rw [sc] at q; exact K1.k5L (h.k41 q) (Int.le_refl _)
  · intro q; exact absurd q (by omega)
/-- a routine's end -/
theorem K1.s0 (h : K1 r c N1 NC Z 2 pc lo) (k : e.1 = 0) : K1 (uR r e) (uC c e) (N1 ++ nRf r e) (NC ++ nC c e) (Z ++ zE e) 0 0 lo := by
  have kn : nRf r e = [] := by unfold nRf; rw [if_neg (by omega), if_neg (by omega), if_neg (by omega), if_neg (by omega), if_neg (by omega), if_neg (by omega), if_pos k, ifP_f (fun q => by have := q.1; rw [h.ph] at this; omega)]
  have cn : nC c e = ifP (120 < e.2.2.1) [(e.2.1, 5)] [] := by unfold nC; rw [if_neg (by omega), if_neg (by omega), if_neg (by omega), if_neg (by omega), if_neg (by omega), if_neg (by omega), if_pos k]
  have sr : sR r e = (RS.mk r.ph r.fp (r.rt + 1) r.ln r.tn r.tw r.tm r.nn r.nw) := by unfold sR; rw [if_neg (by omega), if_neg (by omega), if_neg (by omega), if_neg (by omega), if_neg (by omega), if_neg (by omega), if_pos k]
  have sc : sC c e = c := by unfold sC; rw [if_neg (by omega), if_neg (by omega), if_neg (by omega), if_neg (by omega), if_neg (by omega), if_neg (by omega)]
  have hrn : c.rn = r.rt + 1 := by rcases h.rt with q | q <;> omega
  have h0 := h.rt0
  refine ⟨?_, LST.fold _ h.l1 (pos_R r e), LST.fold _ h.l2 (pos_C c e), h.dA (by rw [kn]; exact DMN.nil), h.dB (fun n q => ?_), h.dZ (fun n q => ?_), ?_, ?_, ?_, ?_, ?_, ?_, ?_, ?_, ?_, ?_, ?_, ?_, ?_⟩
  · show (sR r e).ph = 1; rw [sr]; exact h.ph
  · rw [cn] at q
    obtain ⟨a, b⟩ := mem_if q
    exact ⟨n, List.mem_append.mpr (Or.inr (List.mem_append.mpr (Or.inr (by rw [b]; exact mem_ift ⟨k, a⟩)))), LE2.rfl⟩
  · obtain ⟨a, b⟩ := mem_if q
    rw [cn, b]; exact mem_ift a.2
  · show 0 ≤ (sR r e).rt; rw [sr]; show 0 ≤ r.rt + 1; omega
  · show (sR r e).tn = (sC c e).rn; rw [sr, sc]; exact h.tn
  · left; show (0 : Nat) = 0 ∧ (sC c e).rn = (sR r e).rt; rw [sr, sc]; exact ⟨rfl, hrn⟩
  · show ∀ j, 0 ≤ j → j < (sC c e).rn → (sR r e).tw j = (sC c e).rk j; rw [sr, sc]; exact h.tw
  · intro j a b
    have b : j < (sC c e).rn - 1 ∨ j < (sC c e).rn ∧ (0 : Nat) ≠ 1 := b
    show (sR r e).tm j = (sC c e).rp j
    rw [sc] at b
    rw [sr, sc]
    exact h.tm j a (Or.inr ⟨by omega, by omega⟩)
  · intro q; exact absurd q (by omega)
  · show (sR r e).ln = (sC c e).m; rw [sr, sc]; exact h.ln
  · intro q; exact absurd rfl q
  · show 0 ≤ (sC c e).nn ∧ (sC c e).nn ≤ 12; rw [sc]; exact h.nb
  · intro k' a b
    have a : (sR r e).rt < k' ∨ (sR r e).rt = k' ∧ (0 : Nat) = 0 := a
    show (sR r e).nn k' = 0
    rw [sr] at a ⊢
    have a : r.rt + 1 < k' ∨ r.rt + 1 = k' ∧ (0 : Nat) = 0 := a
    exact h.nl k' (Or.inl (by omega)) b
  · intro q; have q : 7 ≤ (sC c e).rn := q; rw [sc] at q; exact K1.k5N (h.k7 q) (Int.le_refl _)
  · intro q; have q : 41 ≤ (sC c e).m := q; rw [sc] at q; exact K1.k5L (h.k41 q) (Int.le_refl _)
  · intro q; exact absurd q (by omega)
end STEP
/-- the notes of all tellings -/
noncomputable def NR : RS → List EW → List NT
  | _, [] => []
  | r, e :: es => nRf r e ++ NR (uR r e) es
noncomputable def NCs : CS → List EW → List NT
  | _, [] => []
  | c, e :: es => nC c e ++ NCs (uC c e) es
noncomputable def zs : List EW → List NT
  | [] => []
  | e :: es => zE e ++ zs es
theorem K1.run : ∀ (es : List EW) {r : RS} {c : CS} {N1 NC Z : List NT} {md : Nat} {pc lo : Int}, K1 r c N1 NC Z md pc lo → SHP es md pc lo → ∃ pc' lo', K1 (es.foldl uR r) (es.foldl uC c) (N1 ++ NR r es) (NC ++ NCs c es) (Z ++ zs es) 0 pc' lo'
  | [], r, c, N1, NC, Z, md, pc, lo, h, s => by
    have s : md = 0 := s
    subst s
    refine ⟨pc, lo, ?_⟩
    show K1 r c (N1 ++ []) (NC ++ []) (Z ++ []) 0 pc lo
    rw [List.append_nil, List.append_nil, List.append_nil]
    exact h
  | e :: es, r, c, N1, NC, Z, md, pc, lo, h, s => by
    have go : ∀ {md' : Nat} {pc' lo' : Int}, K1 (uR r e) (uC c e) (N1 ++ nRf r e) (NC ++ nC c e) (Z ++ zE e) md' pc' lo' → SHP es md' pc' lo' → ∃ pc'' lo'', K1 ((e :: es).foldl uR r) ((e :: es).foldl uC c) (N1 ++ NR r (e :: es)) (NC ++ NCs c (e :: es)) (Z ++ zs (e :: es)) 0 pc'' lo'' := fun k s => by
      obtain ⟨p, l, q⟩ := K1.run es k s
      refine ⟨p, l, ?_⟩
      rw [List.append_assoc, List.append_assoc, List.append_assoc] at q
      exact q
    rcases s with ⟨rfl, k, a, s⟩ | ⟨rfl, k, a, m, s⟩ | ⟨rfl, k, m, s⟩ | ⟨rfl, k, a, s⟩ | ⟨rfl, k, s⟩ | ⟨rfl, k, s⟩
    · exact go (h.s2 k a) s
    · exact go (h.s3 k a m) s
    · exact go (h.s7 k m) s
    · rcases k with k | k
      · exact go (h.s4 k a) s
      · exact go (h.s5 k a) s
    · exact go (h.s1 k) s
    · exact go (h.s0 k) s

