/-! both readers over one list of tellings: the least note is one -/
abbrev FP : Type := Int × Int
/-- a note: its place, its fault -/
abbrev NT : Type := Int × Int
def cntN (f p : Int) (a : FP) : FP := if a.1 = 0 ∨ p < a.2 ∨ (p = a.2 ∧ f < a.1) then (f, p) else a
def cnts (M : List NT) (a : FP) : FP := M.foldl (fun a n => cntN n.2 n.1 a) a
def LE2 (m n : NT) : Prop := m.1 < n.1 ∨ (m.1 = n.1 ∧ m.2 ≤ n.2)
theorem LE2.rfl {m : NT} : LE2 m m := Or.inr ⟨Eq.refl _, Int.le_refl _⟩
theorem LE2.trans {l m n : NT} (h : LE2 l m) (g : LE2 m n) : LE2 l n := by unfold LE2 at *; omega
def POS (N : List NT) : Prop := ∀ n ∈ N, 0 < n.2
/-- the least of all notes -/
def LST (N : List NT) (a : FP) : Prop := POS N ∧ ((N = [] ∧ a = (0, -1)) ∨ ((a.2, a.1) ∈ N ∧ ∀ n ∈ N, LE2 (a.2, a.1) n))
theorem LST.nil : LST [] (0, -1) := ⟨fun _ h => absurd h (by simp), Or.inl ⟨rfl, rfl⟩⟩
theorem LST.add {N : List NT} {a : FP} {f p : Int} (h : LST N a) (hf : 0 < f) : LST (N ++ [(p, f)]) (cntN f p a) := by
  obtain ⟨h0, h1⟩ := h
  refine ⟨fun n q => ?_, Or.inr ?_⟩
  · rcases List.mem_append.mp q with q | q
    · exact h0 n q
    · rw [List.mem_singleton.mp q]; exact hf
  · rcases h1 with ⟨h1, h2⟩ | ⟨h1, h2⟩
    · have e : cntN f p a = (f, p) := if_pos (Or.inl (by rw [h2]))
      rw [e, h1]
      refine ⟨by simp, fun n q => ?_⟩
      have e2 : n = (p, f) := by simpa using q
      rw [e2]; exact LE2.rfl
    · by_cases c : a.1 = 0 ∨ p < a.2 ∨ (p = a.2 ∧ f < a.1)
      · have e : cntN f p a = (f, p) := if_pos c
        have c2 : p < a.2 ∨ (p = a.2 ∧ f < a.1) := by
          have w : 0 < a.1 := h0 _ h1
          rcases c with c | c
          · omega
          · exact c
        rw [e]
        refine ⟨by simp, fun n q => ?_⟩
        rcases List.mem_append.mp q with q | q
        · have w := h2 n q
          unfold LE2 at *
          simp only at *
          omega
        · rw [List.mem_singleton.mp q]; exact LE2.rfl
      · have e : cntN f p a = a := if_neg c
        rw [e]
        refine ⟨List.mem_append.mpr (Or.inl h1), fun n q => ?_⟩
        rcases List.mem_append.mp q with q | q
        · exact h2 n q
        · rw [List.mem_singleton.mp q]
          unfold LE2
          simp only
          omega
theorem LST.fold : ∀ (M : List NT) {N : List NT} {a : FP}, LST N a → POS M → LST (N ++ M) (cnts M a)
  | [], N, a, h, _ => by rw [List.append_nil]; exact h
  | n :: M, N, a, h, g => by
    have q := LST.fold M (LST.add (p := n.1) h (g n List.mem_cons_self)) (fun m w => g m (List.mem_cons_of_mem _ w))
    rw [List.append_assoc] at q
    exact q
/-- each note of N stands behind one of M -/
def DMN (N M : List NT) : Prop := ∀ n ∈ N, ∃ m ∈ M, LE2 m n
theorem DMN.sub {N M : List NT} (h : ∀ n ∈ N, n ∈ M) : DMN N M := fun n q => ⟨n, h n q, LE2.rfl⟩
theorem DMN.mono {N M K : List NT} (h : DMN N M) (g : ∀ m ∈ M, m ∈ K) : DMN N K := fun n q => by
  obtain ⟨m, a, b⟩ := h n q
  exact ⟨m, g m a, b⟩
theorem DMN.trans {N M K : List NT} (h : DMN N M) (g : DMN M K) : DMN N K := fun n q => by
  obtain ⟨m, a, b⟩ := h n q
  obtain ⟨k, c, d⟩ := g m a
  exact ⟨k, c, d.trans b⟩
theorem DMN.app {N M K : List NT} (h : DMN N K) (g : DMN M K) : DMN (N ++ M) K := fun n q => (List.mem_append.mp q).elim (h n) (g n)
theorem DMN.nil {K : List NT} : DMN [] K := fun _ q => absurd q (by simp)
theorem LST.eq {N M : List NT} {a b : FP} (h : LST N a) (g : LST M b) (d1 : DMN N M) (d2 : DMN M N) : a = b := by
  obtain ⟨-, h⟩ := h
  obtain ⟨-, g⟩ := g
  rcases h with ⟨h1, h2⟩ | ⟨h1, h2⟩
  · rcases g with ⟨g1, g2⟩ | ⟨g1, g2⟩
    · rw [h2, g2]
    · obtain ⟨m, q, -⟩ := d2 _ g1
      rw [h1] at q; exact absurd q (by simp)
  · rcases g with ⟨g1, g2⟩ | ⟨g1, g2⟩
    · obtain ⟨m, q, -⟩ := d1 _ h1
      rw [g1] at q; exact absurd q (by simp)
    · obtain ⟨m, q, l⟩ := d1 _ h1
      obtain ⟨m2, q2, l2⟩ := d2 _ g1
      have x := (g2 m q).trans l
      have y := (h2 m2 q2).trans l2
      unfold LE2 at x y
      simp only at x y
      exact Prod.ext (by omega) (by omega)
/-- the reference's reader: phase, fault and place, routine, line, how many routines were told, their NAMES and counts, names of each routine -/
abbrev RS : Type := Int × FP × Int × Int × Int × (Int → Int64) × (Int → Int) × (Int → Int) × (Int → Int64)
abbrev RS.ph (r : RS) : Int := r.1
abbrev RS.fp (r : RS) : FP := r.2.1
abbrev RS.rt (r : RS) : Int := r.2.2.1
abbrev RS.ln (r : RS) : Int := r.2.2.2.1
abbrev RS.tn (r : RS) : Int := r.2.2.2.2.1
abbrev RS.tw (r : RS) : Int → Int64 := r.2.2.2.2.2.1
abbrev RS.tm (r : RS) : Int → Int := r.2.2.2.2.2.2.1
abbrev RS.nn (r : RS) : Int → Int := r.2.2.2.2.2.2.2.1
abbrev RS.nw (r : RS) : Int → Int64 := r.2.2.2.2.2.2.2.2
abbrev RS.mk (ph : Int) (fp : FP) (rt : Int) (ln : Int) (tn : Int) (tw : Int → Int64) (tm : Int → Int) (nn : Int → Int) (nw : Int → Int64) : RS := (ph, fp, rt, ln, tn, tw, tm, nn, nw)
def absR (A : MS) : RS := (A.1 25, (A.1 26, A.1 27), A.1 30, A.1 31, A.1 43, A.2.2 44, A.2.1 45, A.2.1 35, A.2.2 38)
def up1 {α : Type} (f : Int → α) (i : Int) (v : α) : Int → α := fun q => if q = i then v else f q
theorem up1_eq {α : Type} {f : Int → α} {i : Int} {v : α} : up1 f i v i = v := if_pos rfl
theorem up1_ne {α : Type} {f : Int → α} {i q : Int} {v : α} (h : q ≠ i) : up1 f i v q = f q := if_neg h
def fndN (r : RS) (w : Int64) : Prop := ∃ n, 0 ≤ n ∧ n < r.nn r.rt ∧ r.nw (12 * r.rt + n) = w
def fndR (r : RS) (w : Int64) (q : Int) : Prop := 0 ≤ q ∧ q < r.tn ∧ r.tw q = w ∧ ∀ j, 0 ≤ j → j < q → r.tw j ≠ w
noncomputable def nNm (r : RS) (w : Int64) (p : Int) : List NT := ifP (r.rt < 6 ∧ ¬ fndN r w ∧ r.nn r.rt = 12) [(p, 5)] []
noncomputable def sNm (r : RS) (w : Int64) : RS := ifP (r.ph = 1 ∧ r.rt < 6 ∧ ¬ fndN r w ∧ r.nn r.rt ≠ 12) (RS.mk r.ph r.fp r.rt r.ln r.tn r.tw r.tm (up1 r.nn r.rt (r.nn r.rt + 1)) (up1 r.nw (12 * r.rt + r.nn r.rt) w)) r
noncomputable def nRn (r : RS) (w : Int64) (p : Int) : List NT := ifP (r.ph = 1) (ifP (r.rt = 6) [(p, 5)] [] ++ ifP (∃ q, fndR r w q) [(p, 2)] []) []
noncomputable def nPa (r : RS) (w : Int64) (p m : Int) : List NT := ifP (r.ph = 1) (ifP (m = 4) [(p, 5)] [] ++ (ifP (r.rt < 6 ∧ fndN r w) [(p, 2)] [] ++ nNm r w p)) []
noncomputable def nCl (r : RS) (w : Int64) (p m : Int) : List NT := ifP (r.ph = 2) (ifP (∃ q, fndR r w q) (ifP (∃ q, fndR r w q ∧ m ≠ r.tm q) [(p, 4)] []) [(p, 3)]) []
noncomputable def nRf (r : RS) (e : EW) : List NT :=
  if e.1 = 2 then nRn r e.2.2.2 e.2.1
  else if e.1 = 3 then nPa r e.2.2.2 e.2.1 e.2.2.1
  else if e.1 = 7 then []
  else if e.1 = 4 then nNm r e.2.2.2 e.2.1
  else if e.1 = 5 then ifP (r.ln + 1 = 41) [(e.2.1, 5)] []
  else if e.1 = 1 then nCl r e.2.2.2 e.2.1 e.2.2.1
  else if e.1 = 0 then ifP (r.ph = 2 ∧ 120 < e.2.2.1) [(e.2.1, 5)] []
  else []
noncomputable def sR (r : RS) (e : EW) : RS :=
  if e.1 = 2 then ifP (r.ph = 1) (RS.mk r.ph r.fp r.rt r.ln (r.tn + 1) (up1 r.tw r.tn e.2.2.2) r.tm r.nn r.nw) r
  else if e.1 = 3 then ifP (r.ph = 1) (sNm r e.2.2.2) r
  else if e.1 = 7 then ifP (r.ph = 1) (RS.mk r.ph r.fp r.rt r.ln r.tn r.tw (up1 r.tm (r.tn - 1) e.2.2.1) r.nn r.nw) r
  else if e.1 = 4 then sNm r e.2.2.2
  else if e.1 = 5 then (RS.mk r.ph r.fp r.rt (r.ln + 1) r.tn r.tw r.tm r.nn r.nw)
  else if e.1 = 1 then r
  else if e.1 = 0 then (RS.mk r.ph r.fp (r.rt + 1) r.ln r.tn r.tw r.tm r.nn r.nw)
  else r
noncomputable def uR (r : RS) (e : EW) : RS := (RS.mk (sR r e).ph (cnts (nRf r e) r.fp) (sR r e).rt (sR r e).ln (sR r e).tn (sR r e).tw (sR r e).tm (sR r e).nn (sR r e).nw)
theorem abs_nt {f p : Int} {A : MS} (h : 0 < A.1 25) : absR (ntP f p A) = (RS.mk (absR A).ph (cntN f p (absR A).fp) (absR A).rt (absR A).ln (absR A).tn (absR A).tw (absR A).tm (absR A).nn (absR A).nw) := by
  by_cases c : A.1 26 = 0 ∨ p < A.1 27 ∨ (p = A.1 27 ∧ f < A.1 26)
  · have e : ntP f p A = sS 27 p (sS 26 f A) := if_pos ⟨h, c⟩
    have e2 : cntN f p (absR A).fp = (f, p) := if_pos c
    rw [e, e2]; rfl
  · have e : ntP f p A = A := if_neg (fun q => c q.2)
    have e2 : cntN f p (absR A).fp = (absR A).fp := if_neg c
    rw [e, e2]
theorem abs_nm {w : Int64} {p : Int} {A : MS} (h : 0 < A.1 25) : absR (nmP w p A) = (RS.mk (sNm (absR A) w).ph (cnts (nNm (absR A) w p) (absR A).fp) (sNm (absR A) w).rt (sNm (absR A) w).ln (sNm (absR A) w).tn (sNm (absR A) w).tw (sNm (absR A) w).tm (sNm (absR A) w).nn (sNm (absR A) w).nw) := by
  by_cases c1 : A.1 30 < 6
  · by_cases c2 : NFD A w
    · have e0 : nmP w p A = A := by unfold nmP; rw [ifP_t c1, ifP_t c2]
      have e1 : nNm (absR A) w p = [] := ifP_f (fun q => q.2.1 c2)
      have e2 : sNm (absR A) w = absR A := ifP_f (fun q => q.2.2.1 c2)
      rw [e0, e1, e2]; rfl
    · by_cases c3 : A.2.1 35 (A.1 30) = 12
      · have e0 : nmP w p A = ntP 5 p A := by unfold nmP; rw [ifP_t c1, ifP_f c2, ifP_t c3]
        have e1 : nNm (absR A) w p = [(p, 5)] := ifP_t ⟨c1, c2, c3⟩
        have e2 : sNm (absR A) w = absR A := ifP_f (fun q => q.2.2.2 c3)
        rw [e0, e1, e2, abs_nt h]; rfl
      · have e1 : nNm (absR A) w p = [] := ifP_f (fun q => c3 q.2.2)
        by_cases c4 : A.1 25 = 1
        · have e0 : nmP w p A = sA 35 (A.1 30) (A.2.1 35 (A.1 30) + 1) (sJ 38 (12 * A.1 30 + A.2.1 35 (A.1 30)) w A) := by unfold nmP; rw [ifP_t c1, ifP_f c2, ifP_f c3, ifP_t c4]
          have e2 : sNm (absR A) w = (RS.mk (absR A).ph (absR A).fp (absR A).rt (absR A).ln (absR A).tn (absR A).tw (absR A).tm (up1 (absR A).nn (absR A).rt ((absR A).nn (absR A).rt + 1)) (up1 (absR A).nw (12 * (absR A).rt + (absR A).nn (absR A).rt) w)) := ifP_t ⟨c4, c1, c2, c3⟩
          rw [e0, e1, e2]; rfl
        · have e0 : nmP w p A = A := by unfold nmP; rw [ifP_t c1, ifP_f c2, ifP_f c3, ifP_f c4]
          have e2 : sNm (absR A) w = absR A := ifP_f (fun q => c4 q.1)
          rw [e0, e1, e2]; rfl
  · have e0 : nmP w p A = A := by unfold nmP; rw [ifP_f c1]
    have e1 : nNm (absR A) w p = [] := ifP_f (fun q => c1 q.1)
    have e2 : sNm (absR A) w = absR A := ifP_f (fun q => c1 q.2.1)
    rw [e0, e1, e2]; rfl
theorem cnts_app (M N : List NT) (a : FP) : cnts (M ++ N) a = cnts N (cnts M a) := List.foldl_append
theorem abs_if {c : Prop} {f p : Int} {A : MS} (h : 0 < A.1 25) : absR (ifP c (ntP f p A) A) = (RS.mk (absR A).ph (cnts (ifP c [(p, f)] []) (absR A).fp) (absR A).rt (absR A).ln (absR A).tn (absR A).tw (absR A).tm (absR A).nn (absR A).nw) := by
  by_cases q : c
  · rw [ifP_t q, ifP_t q, abs_nt h]; rfl
  · rw [ifP_f q, ifP_f q]; rfl
theorem ifn_25 {c : Prop} {f p : Int} {A : MS} : (ifP c (ntP f p A) A).1 25 = A.1 25 := by
  by_cases q : c
  · rw [ifP_t q, ntP_25]
  · rw [ifP_f q]
theorem abs_rn {w : Int64} {p : Int} {A : MS} (h : 0 < A.1 25) : absR (rnP w p A) = (RS.mk (ifP ((absR A).ph = 1) (RS.mk (absR A).ph (absR A).fp (absR A).rt (absR A).ln ((absR A).tn + 1) (up1 (absR A).tw (absR A).tn w) (absR A).tm (absR A).nn (absR A).nw) (absR A)).ph (cnts (nRn (absR A) w p) (absR A).fp) (ifP ((absR A).ph = 1) (RS.mk (absR A).ph (absR A).fp (absR A).rt (absR A).ln ((absR A).tn + 1) (up1 (absR A).tw (absR A).tn w) (absR A).tm (absR A).nn (absR A).nw) (absR A)).rt (ifP ((absR A).ph = 1) (RS.mk (absR A).ph (absR A).fp (absR A).rt (absR A).ln ((absR A).tn + 1) (up1 (absR A).tw (absR A).tn w) (absR A).tm (absR A).nn (absR A).nw) (absR A)).ln (ifP ((absR A).ph = 1) (RS.mk (absR A).ph (absR A).fp (absR A).rt (absR A).ln ((absR A).tn + 1) (up1 (absR A).tw (absR A).tn w) (absR A).tm (absR A).nn (absR A).nw) (absR A)).tn (ifP ((absR A).ph = 1) (RS.mk (absR A).ph (absR A).fp (absR A).rt (absR A).ln ((absR A).tn + 1) (up1 (absR A).tw (absR A).tn w) (absR A).tm (absR A).nn (absR A).nw) (absR A)).tw (ifP ((absR A).ph = 1) (RS.mk (absR A).ph (absR A).fp (absR A).rt (absR A).ln ((absR A).tn + 1) (up1 (absR A).tw (absR A).tn w) (absR A).tm (absR A).nn (absR A).nw) (absR A)).tm (ifP ((absR A).ph = 1) (RS.mk (absR A).ph (absR A).fp (absR A).rt (absR A).ln ((absR A).tn + 1) (up1 (absR A).tw (absR A).tn w) (absR A).tm (absR A).nn (absR A).nw) (absR A)).nn (ifP ((absR A).ph = 1) (RS.mk (absR A).ph (absR A).fp (absR A).rt (absR A).ln ((absR A).tn + 1) (up1 (absR A).tw (absR A).tn w) (absR A).tm (absR A).nn (absR A).nw) (absR A)).nw) := by
  by_cases c : A.1 25 = 1
  · have e0 : rnP w p A = sS 43 (A.1 43 + 1) (sJ 44 (A.1 43) w (ifP (∃ q, RFD A w q) (ntP 2 p (ifP (A.1 30 = 6) (ntP 5 p A) A)) (ifP (A.1 30 = 6) (ntP 5 p A) A))) := by unfold rnP; rw [ifP_t c]
    have e1 : nRn (absR A) w p = ifP ((absR A).rt = 6) [(p, 5)] [] ++ ifP (∃ q, fndR (absR A) w q) [(p, 2)] [] := ifP_t c
    have e2 : (ifP ((absR A).ph = 1) (RS.mk (absR A).ph (absR A).fp (absR A).rt (absR A).ln ((absR A).tn + 1) (up1 (absR A).tw (absR A).tn w) (absR A).tm (absR A).nn (absR A).nw) (absR A)) = (RS.mk (absR A).ph (absR A).fp (absR A).rt (absR A).ln ((absR A).tn + 1) (up1 (absR A).tw (absR A).tn w) (absR A).tm (absR A).nn (absR A).nw) := ifP_t c
    have e3 := abs_if (c := ∃ q, RFD A w q) (f := 2) (p := p) (A := ifP (A.1 30 = 6) (ntP 5 p A) A) (by rw [ifn_25]; exact h)
    rw [abs_if (c := A.1 30 = 6) (f := 5) (p := p) (A := A) h] at e3
    rw [e0, e1, e2, cnts_app]
    generalize (ifP (∃ q, RFD A w q) (ntP 2 p (ifP (A.1 30 = 6) (ntP 5 p A) A)) (ifP (A.1 30 = 6) (ntP 5 p A) A)) = X at e3 ⊢
    show ((RS.mk (absR X).ph (absR X).fp (absR X).rt (absR X).ln (A.1 43 + 1) (up1 (absR X).tw (A.1 43) w) (absR X).tm (absR X).nn (absR X).nw) : RS) = _
    rw [e3]
    rfl
  · have e0 : rnP w p A = A := by unfold rnP; rw [ifP_f c]
    have e1 : nRn (absR A) w p = [] := ifP_f c
    have e2 : (ifP ((absR A).ph = 1) (RS.mk (absR A).ph (absR A).fp (absR A).rt (absR A).ln ((absR A).tn + 1) (up1 (absR A).tw (absR A).tn w) (absR A).tm (absR A).nn (absR A).nw) (absR A)) = absR A := ifP_f c
    rw [e0, e1, e2]; rfl
theorem abs_pa {w : Int64} {p m : Int} {A : MS} (h : 0 < A.1 25) : absR (paP w p m A) = (RS.mk (ifP ((absR A).ph = 1) (sNm (absR A) w) (absR A)).ph (cnts (nPa (absR A) w p m) (absR A).fp) (ifP ((absR A).ph = 1) (sNm (absR A) w) (absR A)).rt (ifP ((absR A).ph = 1) (sNm (absR A) w) (absR A)).ln (ifP ((absR A).ph = 1) (sNm (absR A) w) (absR A)).tn (ifP ((absR A).ph = 1) (sNm (absR A) w) (absR A)).tw (ifP ((absR A).ph = 1) (sNm (absR A) w) (absR A)).tm (ifP ((absR A).ph = 1) (sNm (absR A) w) (absR A)).nn (ifP ((absR A).ph = 1) (sNm (absR A) w) (absR A)).nw) := by
  by_cases c : A.1 25 = 1
  · have e0 : paP w p m A = nmP w p (ifP (A.1 30 < 6 ∧ NFD A w) (ntP 2 p (ifP (m = 4) (ntP 5 p A) A)) (ifP (m = 4) (ntP 5 p A) A)) := by unfold paP; rw [ifP_t c]
    have e1 : nPa (absR A) w p m = ifP (m = 4) [(p, 5)] [] ++ (ifP ((absR A).rt < 6 ∧ fndN (absR A) w) [(p, 2)] [] ++ nNm (absR A) w p) := ifP_t c
    have e2 : (ifP ((absR A).ph = 1) (sNm (absR A) w) (absR A)) = sNm (absR A) w := ifP_t c
    have e3 := abs_if (c := A.1 30 < 6 ∧ NFD A w) (f := 2) (p := p) (A := ifP (m = 4) (ntP 5 p A) A) (by rw [ifn_25]; exact h)
    rw [abs_if (c := m = 4) (f := 5) (p := p) (A := A) h] at e3
    have e4 : 0 < (ifP (A.1 30 < 6 ∧ NFD A w) (ntP 2 p (ifP (m = 4) (ntP 5 p A) A)) (ifP (m = 4) (ntP 5 p A) A)).1 25 := by rw [ifn_25, ifn_25]; exact h
    rw [e0, e1, e2, cnts_app, cnts_app, abs_nm e4]
    generalize (ifP (A.1 30 < 6 ∧ NFD A w) (ntP 2 p (ifP (m = 4) (ntP 5 p A) A)) (ifP (m = 4) (ntP 5 p A) A)) = X at e3 ⊢
    rw [e3]
    have f0 : ∀ (a b : FP) (r : RS), ((RS.mk (sNm (RS.mk r.ph (a) r.rt r.ln r.tn r.tw r.tm r.nn r.nw) w).ph (b) (sNm (RS.mk r.ph (a) r.rt r.ln r.tn r.tw r.tm r.nn r.nw) w).rt (sNm (RS.mk r.ph (a) r.rt r.ln r.tn r.tw r.tm r.nn r.nw) w).ln (sNm (RS.mk r.ph (a) r.rt r.ln r.tn r.tw r.tm r.nn r.nw) w).tn (sNm (RS.mk r.ph (a) r.rt r.ln r.tn r.tw r.tm r.nn r.nw) w).tw (sNm (RS.mk r.ph (a) r.rt r.ln r.tn r.tw r.tm r.nn r.nw) w).tm (sNm (RS.mk r.ph (a) r.rt r.ln r.tn r.tw r.tm r.nn r.nw) w).nn (sNm (RS.mk r.ph (a) r.rt r.ln r.tn r.tw r.tm r.nn r.nw) w).nw) : RS) = (RS.mk (sNm r w).ph (b) (sNm r w).rt (sNm r w).ln (sNm r w).tn (sNm r w).tw (sNm r w).tm (sNm r w).nn (sNm r w).nw) := fun a b r => by
      unfold sNm
      by_cases q : r.ph = 1 ∧ r.rt < 6 ∧ ¬ fndN r w ∧ r.nn r.rt ≠ 12
      · rw [ifP_t (show ((RS.mk r.ph (a) r.rt r.ln r.tn r.tw r.tm r.nn r.nw) : RS).ph = 1 ∧ ((RS.mk r.ph (a) r.rt r.ln r.tn r.tw r.tm r.nn r.nw) : RS).rt < 6 ∧ ¬ fndN ((RS.mk r.ph (a) r.rt r.ln r.tn r.tw r.tm r.nn r.nw) : RS) w ∧ ((RS.mk r.ph (a) r.rt r.ln r.tn r.tw r.tm r.nn r.nw) : RS).nn ((RS.mk r.ph (a) r.rt r.ln r.tn r.tw r.tm r.nn r.nw) : RS).rt ≠ 12 from q), ifP_t q]
      · rw [ifP_f (show ¬ (((RS.mk r.ph (a) r.rt r.ln r.tn r.tw r.tm r.nn r.nw) : RS).ph = 1 ∧ ((RS.mk r.ph (a) r.rt r.ln r.tn r.tw r.tm r.nn r.nw) : RS).rt < 6 ∧ ¬ fndN ((RS.mk r.ph (a) r.rt r.ln r.tn r.tw r.tm r.nn r.nw) : RS) w ∧ ((RS.mk r.ph (a) r.rt r.ln r.tn r.tw r.tm r.nn r.nw) : RS).nn ((RS.mk r.ph (a) r.rt r.ln r.tn r.tw r.tm r.nn r.nw) : RS).rt ≠ 12) from q), ifP_f q]
    exact f0 _ _ (absR A)
  · have e0 : paP w p m A = A := by unfold paP; rw [ifP_f c]
    have e1 : nPa (absR A) w p m = [] := ifP_f c
    have e2 : (ifP ((absR A).ph = 1) (sNm (absR A) w) (absR A)) = absR A := ifP_f c
    rw [e0, e1, e2]; rfl
theorem abs_pe {m : Int} {A : MS} : absR (peP m A) = ifP ((absR A).ph = 1) (RS.mk (absR A).ph (absR A).fp (absR A).rt (absR A).ln (absR A).tn (absR A).tw (up1 (absR A).tm ((absR A).tn - 1) m) (absR A).nn (absR A).nw) (absR A) := by
  by_cases c : A.1 25 = 1
  · rw [ifP_t (show (absR A).ph = 1 from c)]
    unfold peP
    rw [ifP_t c]
    by_cases q : A.1 30 < 6
    · rw [ifP_t q]; rfl
    · rw [ifP_f q]; rfl
  · rw [ifP_f (show ¬ (absR A).ph = 1 from c)]
    unfold peP
    rw [ifP_f c]
theorem abs_ln {p : Int} {A : MS} (h : 0 < A.1 25) : absR (lnP p A) = (RS.mk (absR A).ph (cnts (ifP ((absR A).ln + 1 = 41) [(p, 5)] []) (absR A).fp) (absR A).rt ((absR A).ln + 1) (absR A).tn (absR A).tw (absR A).tm (absR A).nn (absR A).nw) := by
  by_cases c : A.1 31 + 1 = 41
  · have e0 : lnP p A = ntP 5 p (sS 31 (A.1 31 + 1) A) := if_pos c
    rw [e0, ifP_t (show (absR A).ln + 1 = 41 from c), abs_nt (show 0 < (sS 31 (A.1 31 + 1) A).1 25 from h)]; rfl
  · have e0 : lnP p A = sS 31 (A.1 31 + 1) A := if_neg c
    rw [e0, ifP_f (show ¬ (absR A).ln + 1 = 41 from c)]; rfl
theorem abs_cl {w : Int64} {p m : Int} {A : MS} (h : 0 < A.1 25) : absR (clP w p m A) = (RS.mk (absR A).ph (cnts (nCl (absR A) w p m) (absR A).fp) (absR A).rt (absR A).ln (absR A).tn (absR A).tw (absR A).tm (absR A).nn (absR A).nw) := by
  unfold clP nCl
  by_cases c : A.1 25 = 2
  · rw [ifP_t c, ifP_t (show (absR A).ph = 2 from c)]
    by_cases c1 : ∃ q, RFD A w q
    · rw [ifP_t c1, ifP_t (show ∃ q, fndR (absR A) w q from c1)]
      exact abs_if h
    · rw [ifP_f c1, ifP_f (show ¬ ∃ q, fndR (absR A) w q from c1), abs_nt h]; rfl
  · rw [ifP_f c, ifP_f (show ¬ (absR A).ph = 2 from c)]; rfl
theorem abs_re {p m : Int} {A : MS} (h : 0 < A.1 25) : absR (reP p m A) = (RS.mk (absR A).ph (cnts (ifP ((absR A).ph = 2 ∧ 120 < m) [(p, 5)] []) (absR A).fp) ((absR A).rt + 1) (absR A).ln (absR A).tn (absR A).tw (absR A).tm (absR A).nn (absR A).nw) := by
  by_cases c : A.1 25 = 2 ∧ 120 < m
  · have e0 : reP p m A = sS 30 (A.1 30 + 1) (ntP 5 p A) := if_pos c
    rw [e0, ifP_t (show (absR A).ph = 2 ∧ 120 < m from c)]
    show ((RS.mk (absR (ntP 5 p A)).ph (absR (ntP 5 p A)).fp (A.1 30 + 1) (absR (ntP 5 p A)).ln (absR (ntP 5 p A)).tn (absR (ntP 5 p A)).tw (absR (ntP 5 p A)).tm (absR (ntP 5 p A)).nn (absR (ntP 5 p A)).nw) : RS) = _
    rw [abs_nt h]; rfl
  · have e0 : reP p m A = sS 30 (A.1 30 + 1) A := if_neg c
    rw [e0, ifP_f (show ¬ ((absR A).ph = 2 ∧ 120 < m) from c)]; rfl
theorem abs_upR {A : MS} (e : EW) (h : 0 < A.1 25) : absR (upR A e) = uR (absR A) e := by
  unfold upR uR nRf sR
  by_cases k2 : e.1 = 2
  · simp only [if_pos k2]; exact abs_rn h
  by_cases k3 : e.1 = 3
  · simp only [if_neg k2, if_pos k3]; exact abs_pa h
  by_cases k7 : e.1 = 7
  · simp only [if_neg k2, if_neg k3, if_pos k7]; rw [abs_pe]
    by_cases c : (absR A).ph = 1
    · rw [ifP_t c]; rfl
    · rw [ifP_f c]; rfl
  by_cases k4 : e.1 = 4
  · simp only [if_neg k2, if_neg k3, if_neg k7, if_pos k4]; exact abs_nm h
  by_cases k5 : e.1 = 5
  · simp only [if_neg k2, if_neg k3, if_neg k7, if_neg k4, if_pos k5]; exact abs_ln h
  by_cases k1 : e.1 = 1
  · simp only [if_neg k2, if_neg k3, if_neg k7, if_neg k4, if_neg k5, if_pos k1]; exact abs_cl h
  by_cases k0 : e.1 = 0
  · simp only [if_neg k2, if_neg k3, if_neg k7, if_neg k4, if_neg k5, if_neg k1, if_pos k0]; exact abs_re h
  · simp only [if_neg k2, if_neg k3, if_neg k7, if_neg k4, if_neg k5, if_neg k1, if_neg k0]; rfl
theorem abs_fold (es : List EW) : ∀ {A : MS}, 0 < A.1 25 → absR (es.foldl upR A) = es.foldl uR (absR A) := by
  induction es with
  | nil => intro A _; rfl
  | cons e es ih =>
    intro A h
    show absR (es.foldl upR (upR A e)) = es.foldl uR (uR (absR A) e)
    rw [ih (by rw [upR_25]; exact h), abs_upR e h]

