section
/-! a routine -/
theorem Fr.set {ss ks js : List Nat} {σ τ : MS} (f : Fr ss ks js σ τ) (k : Nat) (v : Int) : Fr ss ks js (sS k v σ) (sS k v τ) := ⟨fun j hj => by
  show (if j = k then v else τ.1 j) = if j = k then v else σ.1 j
  rw [f.1 j hj], f.2.1, f.2.2⟩
theorem ADVm.any {σ τ : MS} (a : ADVm σ τ) (m : Int) : ADVm (sS 34 m σ) (sS 34 m τ) := ⟨a.1, by
  have h := a.2.1
  unfold xs at h
  have h1 : τ.1 28 = σ.1 28 := congrArg Prod.fst h
  have h2 : τ.1 29 = σ.1 29 := congrArg (fun z => z.2.1) h
  show (τ.1 28, τ.1 29, m) = (σ.1 28, σ.1 29, m)
  rw [h1, h2], a.2.2.1, a.2.2.2⟩
/-- a road from any count of items -/
def GOX (ks : List Nat) (σ : MS) (q : QR) (ks' : List Nat) (τ : MS) (q' : QR) : Prop := ∀ x, GOS ks (sS 34 x σ) q ks' (sS 34 x τ) q' []
section GX
variable {a rest new kk : List Nat} {k : Nat} {ρ σ τ : MS} {q q1 q2 : QR}
theorem GOX.start : GOX a ρ q a ρ q := fun _ => GOS.nop rfl rfl
theorem GOX.nxt (h : GOX a ρ q (k :: rest) σ q1) (g : ∀ x, GOS [k] (sS 34 x σ) q1 new (sS 34 x τ) q2 []) : GOX a ρ q (new ++ rest) τ q2 := fun x => (h x).then ((g x).more rest)
theorem GOX.fail (h : GOX a ρ q (k :: rest) σ q1) (g : ∀ x, GOF [k] (sS 34 x σ) q1 τ) : ∀ x, GOF a (sS 34 x ρ) q τ := fun x => (h x).fail ((g x).more rest)
end GX
theorem WRG.x {σ τ : MS} (h : WRG σ τ) (x : Int) : WRG (sS 34 x σ) τ := h
theorem ntP_2 {f p : Int} {A : MS} : ntP f p (ntP f p A) = ntP f p A := by
  by_cases c : 0 < A.1 25 ∧ (A.1 26 = 0 ∨ p < A.1 27 ∨ (p = A.1 27 ∧ f < A.1 26))
  · have e : ntP f p A = sS 27 p (sS 26 f A) := by unfold ntP; rw [if_pos c]
    rw [e]
    unfold ntP
    by_cases z : f = 0
    · rw [if_pos ⟨c.1, Or.inl z⟩]
      refine Prod.ext (funext fun j => ?_) rfl
      simp only [sS]
      by_cases h1 : j = 27
      · simp [h1]
      · by_cases h2 : j = 26
        · simp [h2]
        · simp [h1, h2]
    · rw [if_neg (fun y => by
        have y2 : f = 0 ∨ p < p ∨ (p = p ∧ f < f) := y.2
        omega)]
  · have e : ntP f p A = A := by unfold ntP; rw [if_neg c]
    rw [e, e]
theorem GOS.and {a b c : List Nat} {σ τ υ : MS} {q q1 q2 : QR} {l1 : List EV} (h : GOS a σ q b τ q1 l1) (g : GOS b τ q1 c υ q2 []) : GOS a σ q c υ q2 l1 := by
  have x := h.trans g
  rw [List.append_nil] at x
  exact x
theorem ntP_fr {f p : Int} {A : MS} : Fr [26, 27] [] [] A (ntP f p A) := by
  unfold ntP
  split
  · exact (Fr.rfl.S (by decide)).S (by decide)
  · exact Fr.rfl
theorem NFD_fr {ss ks js : List Nat} {σ τ : MS} {w : Int64} (f : Fr ss ks js σ τ) (h1 : 30 ∉ ss) (h2 : 35 ∉ ks) (h3 : 38 ∉ js) : NFD τ w ↔ NFD σ w := by unfold NFD; rw [f.1 30 h1, f.2.1 35 h2, f.2.2 38 h3]
/-- a parameter that is there already is noted -/
noncomputable def DPN (i p : Int) (A : MS) : MS := ifP (∃ j, 0 ≤ j ∧ j < i ∧ A.2.2 38 (12 * A.1 30 + j) = A.2.2 24 0) (ntP 2 p A) A
noncomputable def DPA (p : Int) (A : MS) : MS := ifP (A.1 30 < 6 ∧ NFD A (A.2.2 24 0)) (ntP 2 p A) A
theorem DPN.zero {p : Int} {A : MS} : A = DPN 0 p A := by
  unfold DPN
  rw [ifP_f (fun z => by obtain ⟨j, a, b, -⟩ := z; omega)]
theorem DPN.no {i p : Int} {A σ : MS} (h : σ = DPN i p A) (hn : A.2.2 38 (12 * A.1 30 + i) ≠ A.2.2 24 0) : σ = DPN (i + 1) p A := by
  rw [h]
  unfold DPN
  by_cases c : ∃ j, 0 ≤ j ∧ j < i ∧ A.2.2 38 (12 * A.1 30 + j) = A.2.2 24 0
  · obtain ⟨j, a, b, e⟩ := c
    rw [ifP_t ⟨j, a, b, e⟩, ifP_t ⟨j, a, by omega, e⟩]
  · rw [ifP_f c, ifP_f (fun z => by
      obtain ⟨j, a, b, e⟩ := z
      by_cases y : j = i
      · rw [y] at e; exact hn e
      · exact c ⟨j, a, by omega, e⟩)]
theorem DPN.yes {i p : Int} {A σ τ : MS} (h : σ = DPN i p A) (h0 : 0 ≤ i) (hy : A.2.2 38 (12 * A.1 30 + i) = A.2.2 24 0) (e : τ = ntP 2 p σ) : τ = DPN (i + 1) p A := by
  have e2 : DPN (i + 1) p A = ntP 2 p A := by unfold DPN; rw [ifP_t ⟨i, h0, by omega, hy⟩]
  rw [e, e2, h]
  unfold DPN
  by_cases c : ∃ j, 0 ≤ j ∧ j < i ∧ A.2.2 38 (12 * A.1 30 + j) = A.2.2 24 0
  · rw [ifP_t c, ntP_2]
  · rw [ifP_f c]
theorem DPN.fin1 {i p : Int} {A σ : MS} (h : σ = DPN i p A) (hi : i = 0) (hr : ¬ A.1 30 < 6) : σ = DPA p A := by
  rw [h, hi, ← DPN.zero]
  unfold DPA
  rw [ifP_f (fun z => hr z.1)]
theorem DPN.fin2 {i p : Int} {A σ : MS} (h : σ = DPN i p A) (hr : A.1 30 < 6) (hi : i = A.2.1 35 (A.1 30)) : σ = DPA p A := by
  rw [h]
  unfold DPN DPA
  by_cases c : NFD A (A.2.2 24 0)
  · rw [ifP_t (⟨hr, c⟩ : A.1 30 < 6 ∧ NFD A (A.2.2 24 0))]
    obtain ⟨n, a, b, e⟩ := c
    rw [ifP_t ⟨n, a, by omega, e⟩]
  · rw [ifP_f (fun z : A.1 30 < 6 ∧ NFD A (A.2.2 24 0) => c z.2), ifP_f (fun z => by
      obtain ⟨j, a, b, e⟩ := z
      exact c ⟨j, a, by omega, e⟩)]
theorem paP_1 {σ : MS} {m : Int} (h1 : σ.1 25 = 1) : paP (σ.2.2 24 0) (σ.1 19) m σ = nmP (σ.2.2 24 0) (σ.1 19) (DPA (σ.1 19) (ifP (m = 4) (ntP 5 (σ.1 19) σ) σ)) := by
  unfold paP
  rw [ifP_t h1]
  have f : Fr [26, 27] [] [] σ (ifP (m = 4) (ntP 5 (σ.1 19) σ) σ) := by
    by_cases c : m = 4
    · rw [ifP_t c]; exact ntP_fr
    · rw [ifP_f c]; exact Fr.rfl
  unfold DPA
  rw [f.1 30 (by decide), f.2.2 24 (by decide), show NFD (ifP (m = 4) (ntP 5 (σ.1 19) σ) σ) (σ.2.2 24 0) = NFD σ (σ.2.2 24 0) from propext (NFD_fr f (by decide) (by decide) (by decide))]
theorem paP_0 {σ : MS} {w : Int64} {p m : Int} (h1 : ¬ σ.1 25 = 1) : paP w p m σ = σ := by unfold paP; rw [ifP_f h1]
/-- the parameters are at an end, but not told yet -/
def PEN (ρ σ : MS) (m : Int) : Prop := (GOX [30] ρ (qq 0) [31] σ (0, 0, 0, m, ρ.1 19) ∧ SG σ 41) ∨ (GOX [30] ρ (qq 0) [33] σ (0, 0, 0, m, ρ.1 19) ∧ ¬ SG σ 44)
theorem PEN.go {ρ σ τ : MS} {m : Int} (h : PEN ρ σ m) (s : SAM σ τ) (e34 : ∀ x, xs (sS 34 x τ) = xs (sS 34 x σ)) (f : srt τ = srt (peP m σ)) : GOX [30] ρ (qq 0) [141, 35] τ (0, 0, 0, m, ρ.1 19) := by
  have ef : ∀ x, EFF [(7, 0, m, 0)] (sS 34 x σ) (sS 34 x τ) := fun x => EFF.pend ((show srt (sS 34 x τ) = srt (peP m σ) from f).trans (srt_pe (A := σ) (σ := sS 34 x σ) rfl))
  rcases h with ⟨g, y⟩ | ⟨g, y⟩
  · exact g.nxt (fun x => g31y (q := (0, 0, 0, m, ρ.1 19)) y ⟨s.1, e34 x, s.2.2⟩ (ef x))
  · exact g.nxt (fun x => g33n (q := (0, 0, 0, m, ρ.1 19)) y ⟨s.1, e34 x, s.2.2⟩ (ef x))
/-- tags within a block: its events are calls -/
def SBT : List Nat := [0, 1, 2, 3, 4, 6, 7, 8, 9, 20, 21, 22, 23, 24, 25, 26, 27, 28, 29, 38, 39, 40, 51, 52, 141, 159, 161, 223]
theorem stk_0 {s : Int → Int} {t : TK} {x : Int × Int × Int} {q : QR} : stk s 0 t x q = (if sgn t 45 then some ([1, 51], advT s t.2.1, x, q, []) else some ([1], t, x, q, [])) := rfl
theorem stk_1 {s : Int → Int} {t : TK} {x : Int × Int × Int} {q : QR} : stk s 1 t x q = (if t.2.2.1 = 3 ∨ nam t then some ([], advT s t.2.1, x, q, []) else if sgn t 40 then some ([2, 141], advT s t.2.1, x, q, []) else none) := rfl
theorem stk_2 {s : Int → Int} {t : TK} {x : Int × Int × Int} {q : QR} : stk s 2 t x q = (if x.1 = 8 then none else some ([3, 6], t, (x.1 + 1, x.2.1, x.2.2), q, [])) := rfl
theorem stk_3 {s : Int → Int} {t : TK} {x : Int × Int × Int} {q : QR} : stk s 3 t x q = (some ([4, 8], t, x, q, [])) := rfl
theorem stk_4 {s : Int → Int} {t : TK} {x : Int × Int × Int} {q : QR} : stk s 4 t x q = (some ([0, 9], t, x, q, [])) := rfl
theorem stk_6 {s : Int → Int} {t : TK} {x : Int × Int × Int} {q : QR} : stk s 6 t x q = (if sgn t 61 ∨ sgn t 60 then some ([3, 51, 7], advT s t.2.1, x, q, []) else some ([7], t, x, q, [])) := rfl
theorem stk_7 {s : Int → Int} {t : TK} {x : Int × Int × Int} {q : QR} : stk s 7 t x q = (some ([], t, (x.1 - 1, x.2.1, x.2.2), q, [])) := rfl
theorem stk_8 {s : Int → Int} {t : TK} {x : Int × Int × Int} {q : QR} : stk s 8 t x q = (if sgn t 43 ∨ sgn t 45 then some ([4, 51, 8], advT s t.2.1, x, q, []) else some ([], t, x, q, [])) := rfl
theorem stk_9 {s : Int → Int} {t : TK} {x : Int × Int × Int} {q : QR} : stk s 9 t x q = (if sgn t 42 then some ([0, 51, 9], advT s t.2.1, x, q, []) else some ([], t, x, q, [])) := rfl
theorem stk_20 {s : Int → Int} {t : TK} {x : Int × Int × Int} {q : QR} : stk s 20 t x q = (if wrd t 512852847717 then some ([22], t, x, q, []) else if wrd t 26982 then some ([51, 21], t, x, q, []) else if wrd t 7304564 ∨ wrd t 125780071117422 then some ([51, 39], t, x, q, []) else if nam t then some ([51, 23], t, x, q, []) else none) := rfl
theorem stk_21 {s : Int → Int} {t : TK} {x : Int × Int × Int} {q : QR} : stk s 21 t x q = (some ([2, 51, 28, 24], advT s t.2.1, x, q, [])) := rfl
theorem stk_22 {s : Int → Int} {t : TK} {x : Int × Int × Int} {q : QR} : stk s 22 t x q = (some ([52, 2, 51, 28, 52], advT s t.2.1, x, q, [])) := rfl
theorem stk_23 {s : Int → Int} {t : TK} {x : Int × Int × Int} {q : QR} : stk s 23 t x q = (some ([161, 25], advT s t.2.1, x, q, [])) := rfl
theorem stk_24 {s : Int → Int} {t : TK} {x : Int × Int × Int} {q : QR} : stk s 24 t x q = (if wrd t 1701606245 then some ([52, 28, 51], advT s t.2.1, x, q, []) else some ([51], t, x, q, [])) := rfl
theorem stk_25 {s : Int → Int} {t : TK} {x : Int × Int × Int} {q : QR} : stk s 25 t x q = (if nam t then (if sgn (advT s t.2.1) 40 then some ([26, 159], advT s t.2.1, x, (t.2.2.2.2, 0, t.1, q.2.2.2), []) else some ([2, 52, 159], (t.1, t.2.1, 2, (advT s t.2.1).2.2.2.1, t.2.2.2.2), x, q, [])) else some ([2, 52, 159], t, x, q, [])) := rfl
theorem stk_26 {s : Int → Int} {t : TK} {x : Int × Int × Int} {q : QR} : stk s 26 t x q = (if sgn (advT s t.2.1) 41 then some ([38, 141], advT s t.2.1, x, q, []) else some ([2, 27], advT s t.2.1, x, q, [])) := rfl
theorem stk_27 {s : Int → Int} {t : TK} {x : Int × Int × Int} {q : QR} : stk s 27 t x q = (if sgn t 44 then some ([2, 27], advT s t.2.1, x, (q.1, q.2.1 + 1, q.2.2), []) else some ([38, 141], t, x, (q.1, q.2.1 + 1, q.2.2), [])) := rfl
theorem stk_28 {s : Int → Int} {t : TK} {x : Int × Int × Int} {q : QR} : stk s 28 t x q = (if x.2.1 = 6 then none else some ([223, 29], t, (x.1, x.2.1 + 1, x.2.2), q, [])) := rfl
theorem stk_29 {s : Int → Int} {t : TK} {x : Int × Int × Int} {q : QR} : stk s 29 t x q = (if sgn t 125 then some ([40], advT s t.2.1, x, q, []) else some ([20, 29], t, x, q, [])) := rfl
theorem stk_38 {s : Int → Int} {t : TK} {x : Int × Int × Int} {q : QR} : stk s 38 t x q = (some ([], t, (x.1, x.2.1, x.2.2 + 2), (0, 0, 0, q.2.2.2), [(1, q.2.1, q.1)])) := rfl
theorem stk_39 {s : Int → Int} {t : TK} {x : Int × Int × Int} {q : QR} : stk s 39 t x q = (some ([2, 51, 159], advT s t.2.1, x, q, [])) := rfl
theorem stk_40 {s : Int → Int} {t : TK} {x : Int × Int × Int} {q : QR} : stk s 40 t x q = (some ([], t, (x.1, x.2.1 - 1, x.2.2), q, [])) := rfl
theorem stk_51 {s : Int → Int} {t : TK} {x : Int × Int × Int} {q : QR} : stk s 51 t x q = (some ([], t, (x.1, x.2.1, x.2.2 + 1), q, [])) := rfl
theorem stk_52 {s : Int → Int} {t : TK} {x : Int × Int × Int} {q : QR} : stk s 52 t x q = (some ([], t, (x.1, x.2.1, x.2.2 + 2), q, [])) := rfl
theorem stk_141 {s : Int → Int} {t : TK} {x : Int × Int × Int} {q : QR} : stk s 141 t x q = (if sgn t (((141 : Nat) : Int) - 100) then some ([], advT s t.2.1, x, q, []) else none) := rfl
theorem stk_159 {s : Int → Int} {t : TK} {x : Int × Int × Int} {q : QR} : stk s 159 t x q = (if sgn t (((159 : Nat) : Int) - 100) then some ([], advT s t.2.1, x, q, []) else none) := rfl
theorem stk_161 {s : Int → Int} {t : TK} {x : Int × Int × Int} {q : QR} : stk s 161 t x q = (if sgn t (((161 : Nat) : Int) - 100) then some ([], advT s t.2.1, x, q, []) else none) := rfl
theorem stk_223 {s : Int → Int} {t : TK} {x : Int × Int × Int} {q : QR} : stk s 223 t x q = (if sgn t (((223 : Nat) : Int) - 100) then some ([], advT s t.2.1, x, q, []) else none) := rfl
theorem stk_sub {s : Int → Int} {t : TK} {x : Int × Int × Int} {q : QR} {k : Nat} {r : List Nat × TK × (Int × Int × Int) × QR × List EV} (hk : k ∈ SBT) (h : stk s k t x q = some r) : (∀ j ∈ r.1, j ∈ SBT) ∧ ∀ e ∈ r.2.2.2.2, e.1 = 1 := by
  simp only [SBT, List.mem_cons, List.not_mem_nil, or_false] at hk
  rcases hk with rfl | rfl | rfl | rfl | rfl | rfl | rfl | rfl | rfl | rfl | rfl | rfl | rfl | rfl | rfl | rfl | rfl | rfl | rfl | rfl | rfl | rfl | rfl | rfl | rfl | rfl | rfl | rfl
  · rw [stk_0] at h
    repeat' (split at h)
    all_goals first
      | (cases h; constructor <;> simp [SBT])
      | cases h
  · rw [stk_1] at h
    repeat' (split at h)
    all_goals first
      | (cases h; constructor <;> simp [SBT])
      | cases h
  · rw [stk_2] at h
    repeat' (split at h)
    all_goals first
      | (cases h; constructor <;> simp [SBT])
      | cases h
  · rw [stk_3] at h
    repeat' (split at h)
    all_goals first
      | (cases h; constructor <;> simp [SBT])
      | cases h
  · rw [stk_4] at h
    repeat' (split at h)
    all_goals first
      | (cases h; constructor <;> simp [SBT])
      | cases h
  · rw [stk_6] at h
    repeat' (split at h)
    all_goals first
      | (cases h; constructor <;> simp [SBT])
      | cases h
  · rw [stk_7] at h
    repeat' (split at h)
    all_goals first
      | (cases h; constructor <;> simp [SBT])
      | cases h
  · rw [stk_8] at h
    repeat' (split at h)
    all_goals first
      | (cases h; constructor <;> simp [SBT])
      | cases h
  · rw [stk_9] at h
    repeat' (split at h)
    all_goals first
      | (cases h; constructor <;> simp [SBT])
      | cases h
  · rw [stk_20] at h
    repeat' (split at h)
    all_goals first
      | (cases h; constructor <;> simp [SBT])
      | cases h
  · rw [stk_21] at h
    repeat' (split at h)
    all_goals first
      | (cases h; constructor <;> simp [SBT])
      | cases h
  · rw [stk_22] at h
    repeat' (split at h)
    all_goals first
      | (cases h; constructor <;> simp [SBT])
      | cases h
  · rw [stk_23] at h
    repeat' (split at h)
    all_goals first
      | (cases h; constructor <;> simp [SBT])
      | cases h
  · rw [stk_24] at h
    repeat' (split at h)
    all_goals first
      | (cases h; constructor <;> simp [SBT])
      | cases h
  · rw [stk_25] at h
    repeat' (split at h)
    all_goals first
      | (cases h; constructor <;> simp [SBT])
      | cases h
  · rw [stk_26] at h
    repeat' (split at h)
    all_goals first
      | (cases h; constructor <;> simp [SBT])
      | cases h
  · rw [stk_27] at h
    repeat' (split at h)
    all_goals first
      | (cases h; constructor <;> simp [SBT])
      | cases h
  · rw [stk_28] at h
    repeat' (split at h)
    all_goals first
      | (cases h; constructor <;> simp [SBT])
      | cases h
  · rw [stk_29] at h
    repeat' (split at h)
    all_goals first
      | (cases h; constructor <;> simp [SBT])
      | cases h
  · rw [stk_38] at h
    repeat' (split at h)
    all_goals first
      | (cases h; constructor <;> simp [SBT])
      | cases h
  · rw [stk_39] at h
    repeat' (split at h)
    all_goals first
      | (cases h; constructor <;> simp [SBT])
      | cases h
  · rw [stk_40] at h
    repeat' (split at h)
    all_goals first
      | (cases h; constructor <;> simp [SBT])
      | cases h
  · rw [stk_51] at h
    repeat' (split at h)
    all_goals first
      | (cases h; constructor <;> simp [SBT])
      | cases h
  · rw [stk_52] at h
    repeat' (split at h)
    all_goals first
      | (cases h; constructor <;> simp [SBT])
      | cases h
  · rw [stk_141] at h
    repeat' (split at h)
    all_goals first
      | (cases h; constructor <;> simp [SBT])
      | cases h
  · rw [stk_159] at h
    repeat' (split at h)
    all_goals first
      | (cases h; constructor <;> simp [SBT])
      | cases h
  · rw [stk_161] at h
    repeat' (split at h)
    all_goals first
      | (cases h; constructor <;> simp [SBT])
      | cases h
  · rw [stk_223] at h
    repeat' (split at h)
    all_goals first
      | (cases h; constructor <;> simp [SBT])
      | cases h
theorem stp_sub {s : Int → Int} {a : PCf} (h : ∀ j ∈ a.1, j ∈ SBT) (hn : stp s a ≠ pF) : (∀ j ∈ (stp s a).1, j ∈ SBT) ∧ ∃ l, (stp s a).2.2.2.2 = a.2.2.2.2 ++ l ∧ ∀ e ∈ l, e.1 = 1 := by
  obtain ⟨K, t, x, q, ρ⟩ := a
  cases K with
  | nil => exact ⟨h, [], (List.append_nil _).symm, fun e he => absurd he (List.not_mem_nil)⟩
  | cons k K =>
    cases e : stk s k t x q with
    | none =>
      exfalso
      apply hn
      show (match stk s k t x q with
        | none => pF
        | some r => (r.1 ++ K, r.2.1, r.2.2.1, r.2.2.2.1, ρ ++ r.2.2.2.2)) = _
      rw [e]
    | some r =>
      have z := stk_sub (h k (List.mem_cons_self)) e
      have e2 : stp s (k :: K, t, x, q, ρ) = (r.1 ++ K, r.2.1, r.2.2.1, r.2.2.2.1, ρ ++ r.2.2.2.2) := by
        show (match stk s k t x q with
          | none => pF
          | some r => (r.1 ++ K, r.2.1, r.2.2.1, r.2.2.2.1, ρ ++ r.2.2.2.2)) = _
        rw [e]
      rw [e2]
      refine ⟨fun j hj => ?_, r.2.2.2.2, rfl, z.2⟩
      rcases List.mem_append.mp hj with w | w
      · exact z.1 j w
      · exact h j (List.mem_cons_of_mem _ w)
theorem itr_sub {s : Int → Int} (n : Nat) (a : PCf) (h : ∀ j ∈ a.1, j ∈ SBT) (hn : itr s n a ≠ pF) : ∃ l, (itr s n a).2.2.2.2 = a.2.2.2.2 ++ l ∧ ∀ e ∈ l, e.1 = 1 := by
  induction n generalizing a with
  | zero => exact ⟨[], (List.append_nil _).symm, fun e he => absurd he (List.not_mem_nil)⟩
  | succ n ih =>
    have h2 : itr s n (stp s a) ≠ pF := hn
    have h3 : stp s a ≠ pF := fun e => h2 (by rw [e]; exact itr_pF s n)
    obtain ⟨u, m, hm, he⟩ := stp_sub h h3
    obtain ⟨l, hl, hf⟩ := ih (stp s a) u h2
    refine ⟨m ++ l, ?_, fun e w => ?_⟩
    · show (itr s n (stp s a)).2.2.2.2 = _
      rw [hl, hm, List.append_assoc]
    · rcases List.mem_append.mp w with y | y
      · exact he e y
      · exact hf e y
theorem nR_1 (l : List EV) (h : ∀ e ∈ l, e.1 = 1) : nR l = 0 := by
  induction l with
  | nil => rfl
  | cons e l ih =>
    have := h e (List.mem_cons_self)
    simp only [nR]
    rw [ih (fun e w => h e (List.mem_cons_of_mem _ w)), this]
    decide
theorem GOS.nr0 {k : Nat} {σ τ : MS} {q q2 : QR} {lg : List EV} (hk : k ∈ SBT) (g : GOS [k] σ q [] τ q2 lg) : nR lg = 0 := by
  obtain ⟨n, hn⟩ := g.rc [] []
  have ne : itr (sv σ) n (cfg ([k] ++ []) σ q []) ≠ pF := by
    rw [hn]
    intro h
    have z : ([] : List Nat) = [999] := congrArg Prod.fst h
    exact absurd z (by decide)
  obtain ⟨l, hl, he⟩ := itr_sub n _ (fun j hj => by rw [List.mem_singleton.mp hj]; exact hk) ne
  rw [hn] at hl
  have e : lg = l := hl
  rw [e]
  exact nR_1 l he
/-- the head of a routine -/
def HD (ρ σ : MS) : Prop := Fr [19, 20, 22, 23, 26, 27, 43] [35, 36, 45] [24, 38, 44] ρ σ ∧ FLT ρ σ ∧ NN σ ∧ (ρ.1 25 ≠ 1 → σ.2.1 35 = ρ.2.1 35 ∧ σ.2.2 38 = ρ.2.2 38 ∧ σ.2.1 36 = ρ.2.1 36 ∧ TBm ρ σ) ∧ (ρ.1 25 = 1 → σ.1 43 = ρ.1 43 + 1 ∧ (∀ r, r ≠ ρ.1 30 → σ.2.1 35 r = ρ.2.1 35 r ∧ σ.2.1 36 r = ρ.2.1 36 r) ∧ (∀ j, j ≠ ρ.1 43 → σ.2.1 45 j = ρ.2.1 45 j) ∧ (σ.1 26 = 0 → ρ.1 30 ≠ 6)) ∧ (0 ≤ σ.1 43 ∧ σ.1 43 ≤ 260)
theorem HD.pb {ρ σ τ : MS} (h : HD ρ σ) (f : Fr [19, 20, 22, 23, 26, 27] [35] [24, 38] σ τ) (p : PBF σ τ) : HD ρ τ := by
  obtain ⟨h1, h2, h3, h4, h5, h6⟩ := h
  have e25 : σ.1 25 = ρ.1 25 := h1.1 25 (by decide)
  have e30 : σ.1 30 = ρ.1 30 := h1.1 30 (by decide)
  have fl := p.2.2.2.2.1
  refine ⟨h1.trans (Fr.sub f (by decide) (by decide) (by decide)), h2.trans fl, p.2.2.1, fun a => ?_, fun a => ?_, by rw [f.1 43 (by decide)]; exact h6⟩
  · have q := h4 a
    have w := p.2.1 (by omega)
    exact ⟨w.1.trans q.1, w.2.trans q.2.1, (f.2.1 36 (by decide)).trans q.2.2.1, q.2.2.2.trans (TBm.of f (by decide) (by decide) (by decide) (by decide))⟩
  · have q := h5 a
    refine ⟨by rw [f.1 43 (by decide)]; exact q.1, fun r b => ⟨((p.2.2.2.1 r).2 (by omega)).trans (q.2.1 r b).1, by rw [f.2.1 36 (by decide)]; exact (q.2.1 r b).2⟩, fun j b => by rw [f.2.1 45 (by decide)]; exact q.2.2.1 j b, fun b => q.2.2.2 ?_⟩
    by_cases z : σ.1 26 = 0
    · exact z
    · exact absurd b (fl.1 z)
theorem HD.told {ρ σ : MS} {z v : Int} (h : HD ρ σ) (h1 : ρ.1 25 = 1) (e : z = ρ.1 43) : HD ρ (sA 45 z v σ) := by
  obtain ⟨a1, a2, a3, a4, a5, a6⟩ := h
  have q := a5 h1
  refine ⟨a1.A (by decide), a2, a3, fun a => absurd h1 a, fun _ => ⟨q.1, q.2.1, fun j b => ?_, q.2.2.2⟩, a6⟩
  rw [show (sA 45 z v σ).2.1 45 j = σ.2.1 45 j from ra_ne (by omega) rfl]
  exact q.2.2.1 j b
theorem HD.par {ρ σ : MS} {z v : Int} (h : HD ρ σ) (h1 : ρ.1 25 = 1) (e : z = ρ.1 30) : HD ρ (sA 36 z v σ) := by
  obtain ⟨a1, a2, a3, a4, a5, a6⟩ := h
  have q := a5 h1
  refine ⟨a1.A (by decide), a2, a3, fun a => absurd h1 a, fun _ => ⟨q.1, fun r b => ⟨(q.2.1 r b).1, ?_⟩, q.2.2.1, q.2.2.2⟩, a6⟩
  rw [show (sA 36 z v σ).2.1 36 r = σ.2.1 36 r from ra_ne (by omega) rfl]
  exact (q.2.1 r b).2
/-- what is kept of a routine's reading, also where it fails -/
def PBO (σ τ : MS) : Prop := (∀ x, x ≠ 2640 → (x < 220 * σ.1 30 ∨ 220 * σ.1 30 + 220 ≤ x ∨ σ.1 25 ≠ 3 ∨ 6 ≤ σ.1 30) → IEQ σ x τ x) ∧ (σ.1 25 ≠ 1 → τ.2.1 35 = σ.2.1 35 ∧ τ.2.2 38 = σ.2.2 38 ∧ τ.2.1 36 = σ.2.1 36 ∧ TBm σ τ) ∧ NN τ ∧ FLT σ τ ∧ τ.1 25 = σ.1 25 ∧ (∀ j, (j ≠ σ.1 30 ∨ σ.1 25 ≠ 3) → τ.2.1 9 j = σ.2.1 9 j) ∧ (0 ≤ τ.1 43 ∧ τ.1 43 ≤ 260)
theorem HD.pbo {ρ σ : MS} (h : HD ρ σ) : PBO ρ σ := ⟨fun x _ _ => IEQ.of h.1 (by decide), h.2.2.2.1, h.2.2.1, h.2.1, h.1.1 25 (by decide), fun j _ => by rw [h.1.2.1 9 (by decide)], h.2.2.2.2.2⟩
theorem PBO.fr {ss ks js : List Nat} {ρ σ τ : MS} (h : PBO ρ σ) (f : Fr ss ks js σ τ) (hs : ∀ k ∈ [25, 26, 43], k ∉ ss) (hk : ∀ k ∈ [3, 4, 5, 6, 7, 8, 9, 11, 35, 36, 45], k ∉ ks) (hj : ∀ k ∈ [38, 44], k ∉ js) : PBO ρ τ := by
  obtain ⟨h1, h2, h3, h4, h5, h6, h7⟩ := h
  refine ⟨fun x a b => (h1 x a b).trans (IEQ.of f (fun k q => hk k (by revert k q; decide))), fun a => ?_, h3.fr f (hk 35 (by decide)), h4.trans (FLT.eq (f.1 26 (hs 26 (by decide)))), (f.1 25 (hs 25 (by decide))).trans h5, fun j a => by rw [f.2.1 9 (hk 9 (by decide))]; exact h6 j a, by rw [f.1 43 (hs 43 (by decide))]; exact h7⟩
  have q := h2 a
  exact ⟨(f.2.1 35 (hk 35 (by decide))).trans q.1, (f.2.2 38 (hj 38 (by decide))).trans q.2.1, (f.2.1 36 (hk 36 (by decide))).trans q.2.2.1, q.2.2.2.trans (TBm.of f (hs 43 (by decide)) (hk 11 (by decide)) (hk 45 (by decide)) (hj 44 (by decide)))⟩
theorem PBO.nd {ρ σ τ : MS} (h : PBO ρ σ) (f : Fr [19, 20, 22, 23, 26, 27] [] [24] σ τ) (fl : FLT σ τ) : PBO ρ τ := by
  obtain ⟨h1, h2, h3, h4, h5, h6, h7⟩ := h
  refine ⟨fun x a b => (h1 x a b).trans (IEQ.of f (by decide)), fun a => ?_, h3.fr f (by decide), h4.trans fl, (f.1 25 (by decide)).trans h5, fun j a => by rw [f.2.1 9 (by decide)]; exact h6 j a, by rw [f.1 43 (by decide)]; exact h7⟩
  have q := h2 a
  exact ⟨(f.2.1 35 (by decide)).trans q.1, (f.2.2 38 (by decide)).trans q.2.1, (f.2.1 36 (by decide)).trans q.2.2.1, q.2.2.2.trans (TBm.of f (by decide) (by decide) (by decide) (by decide))⟩
theorem PBO.pb {ss ks js : List Nat} {ρ σ τ : MS} (h : PBO ρ σ) (e30 : σ.1 30 = ρ.1 30) (p : PBF σ τ) (h34 : 0 ≤ σ.1 34) (f : Fr ss ks js σ τ) (hs : 43 ∉ ss) (hk : ∀ k ∈ [9, 11, 36, 45], k ∉ ks) (hj : 44 ∉ js) : PBO ρ τ := by
  obtain ⟨h1, h2, h3, h4, h5, h6, h7⟩ := h
  refine ⟨fun x a b => (h1 x a b).trans (p.1 x a (by omega)), fun a => ?_, p.2.2.1, h4.trans p.2.2.2.2.1, p.2.2.2.2.2.2.1.trans h5, fun j a => by rw [f.2.1 9 (hk 9 (by decide))]; exact h6 j a, by rw [f.1 43 hs]; exact h7⟩
  have q := h2 a
  have w := p.2.1 (by omega)
  exact ⟨w.1.trans q.1, w.2.trans q.2.1, (f.2.1 36 (hk 36 (by decide))).trans q.2.2.1, q.2.2.2.trans (TBm.of f hs (hk 11 (by decide)) (hk 45 (by decide)) hj)⟩
theorem PBO.fin {ρ σ τ : MS} (h : PBO ρ σ) (f : Fr [26, 27, 30] [9] [] σ τ) (fl : FLT σ τ) (h9 : ∀ j, (j ≠ ρ.1 30 ∨ ρ.1 25 ≠ 3) → τ.2.1 9 j = σ.2.1 9 j) : PBO ρ τ := by
  obtain ⟨h1, h2, h3, h4, h5, h6, h7⟩ := h
  refine ⟨fun x a b => (h1 x a b).trans (IEQ.of f (by decide)), fun a => ?_, h3.fr f (by decide), h4.trans fl, (f.1 25 (by decide)).trans h5, fun j a => (h9 j a).trans (h6 j a), by rw [f.1 43 (by decide)]; exact h7⟩
  have q := h2 a
  exact ⟨(f.2.1 35 (by decide)).trans q.1, (f.2.2 38 (by decide)).trans q.2.1, (f.2.1 36 (by decide)).trans q.2.2.1, q.2.2.2.trans (TBm.of f (by decide) (by decide) (by decide) (by decide))⟩
/-- phase 1 of a routine -/
def P1O (σ τ : MS) : Prop := τ.1 43 = σ.1 43 + 1 ∧ (∀ r, r ≠ σ.1 30 → τ.2.1 35 r = σ.2.1 35 r ∧ τ.2.1 36 r = σ.2.1 36 r) ∧ (∀ j, j ≠ σ.1 43 → τ.2.1 45 j = σ.2.1 45 j) ∧ (τ.1 26 = 0 → σ.1 30 ≠ 6 ∧ (σ.1 30 < 6 → τ.2.1 45 (σ.1 43) = τ.2.1 36 (σ.1 30) ∧ (0 ≤ τ.2.1 36 (σ.1 30) ∧ τ.2.1 36 (σ.1 30) ≤ 4) ∧ τ.2.1 36 (σ.1 30) ≤ τ.2.1 35 (σ.1 30)))
/-- what phase 1 found out of the routine's parameters -/
def PAM (ρ σ : MS) : Prop := ρ.1 25 = 1 → ρ.1 30 < 6 → σ.1 26 = 0 → σ.2.1 45 (ρ.1 43) = σ.2.1 36 (ρ.1 30) ∧ (0 ≤ σ.2.1 36 (ρ.1 30) ∧ σ.2.1 36 (ρ.1 30) ≤ 4) ∧ σ.2.1 36 (ρ.1 30) ≤ σ.2.1 35 (ρ.1 30)
theorem P1O.mk {ss ks js : List Nat} {ρ σ τ : MS} (h : HD ρ σ) (m : PAM ρ σ) (h1 : ρ.1 25 = 1) (f : Fr ss ks js σ τ) (hs : 43 ∉ ss) (hk : ∀ k ∈ [36, 45], k ∉ ks) (fl : FLT σ τ) (h35 : ∀ r, σ.2.1 35 r ≤ τ.2.1 35 r ∧ (r ≠ ρ.1 30 → τ.2.1 35 r = σ.2.1 35 r)) : P1O ρ τ := by
  obtain ⟨a1, a2, a3, a4, a5, a6⟩ := h
  have q := a5 h1
  unfold P1O
  rw [f.1 43 hs, f.2.1 36 (hk 36 (by decide)), f.2.1 45 (hk 45 (by decide))]
  refine ⟨q.1, fun r b => ⟨((h35 r).2 b).trans (q.2.1 r b).1, (q.2.1 r b).2⟩, q.2.2.1, fun b => ?_⟩
  have z : σ.1 26 = 0 := by
    by_cases z : σ.1 26 = 0
    · exact z
    · exact absurd b (fl.1 z)
  refine ⟨q.2.2.2 z, fun c => ?_⟩
  have w := m h1 c z
  have y := (h35 (ρ.1 30)).1
  exact ⟨w.1, w.2.1, by omega⟩
/-- the plain items of a routine -/
def PLI (σ : MS) (r : Int) : Prop := (1 ≤ σ.2.1 9 r ∧ σ.2.1 9 r ≤ 120) ∧ (∀ k, 0 ≤ k → k < σ.2.1 9 r → OKI σ 1 (220 * r + k)) ∧ (∃ l, l ≤ 119 ∧ WS (iK σ r) (iD σ r) (iO σ r) (σ.1 43) 0 (σ.2.1 9 r - 1) 0 l) ∧ iK σ r (σ.2.1 9 r - 1) = 7 ∧ (iK σ r 0 = 11 ∨ iK σ r 0 = 7 ∨ (iK σ r 0 = 13 ∧ iK σ r 1 = 11))
theorem PLI.mk {n : Int} {α β γ ω : MS} {lg : List EV} (s : SGF α β lg) (fs : FS α β) (h3 : α.1 25 = 3) (h6 : 0 ≤ α.1 30 ∧ α.1 30 < 6) (a34 : α.1 34 = 0) (a33 : α.1 33 = 0) (pb : PBF α β) (pc : PBC n α β) (he : ∀ e ∈ lg, E3 α e) (h120 : β.1 34 + 1 ≤ 120) (p2 : PBF β γ) (e34 : γ.1 34 = β.1 34 + 1) (ok : OKI γ 1 (PXx β)) (k7 : γ.2.1 3 (PXx β) = 7) (tb1 : TBm α β) (tb2 : TBm β γ) (f : Fr [30] [9] [] γ ω) (e9 : ω.2.1 9 (α.1 30) = γ.1 34) : PLI ω (α.1 30) := by
  have b6 := pb.2.2.2.2.2.1
  have b25 : β.1 25 = α.1 25 := pb.2.2.2.2.2.2.1
  have b30 : β.1 30 = α.1 30 := pb.2.2.2.2.2.2.2
  have x : PXx β = 220 * α.1 30 + β.1 34 := by unfold PXx; rw [if_pos (by omega), b30]
  rw [x] at ok k7
  obtain ⟨S1, S2⟩ := s h3 h6.2 (by omega) he
  rw [a34, a33] at S2
  have F := fs h3 h6.2 (by omega)
  rw [a34] at F
  have ig : ∀ z, IEQ γ z ω z := fun z => IEQ.of f (by decide)
  have ib : ∀ k, 0 ≤ k → k < β.1 34 → IEQ β (220 * α.1 30 + k) ω (220 * α.1 30 + k) := fun k a b => (p2.1 _ (by omega) (by omega)).trans (ig _)
  have t11 : ω.2.1 11 = γ.2.1 11 := f.2.1 11 (by decide)
  have e43 : ω.1 43 = α.1 43 := (f.1 43 (by decide)).trans (tb2.1.trans tb1.1)
  have pc7 : β.1 33 - α.1 33 ≤ β.1 34 - α.1 34 := pc.2.2.2.2.2.2.2
  unfold PLI
  rw [e9, e34]
  refine ⟨by omega, fun k a b => ?_, ⟨β.1 33, by omega, ?_⟩, ?_, ?_⟩
  · by_cases z : k = β.1 34
    · rw [z]; exact (ig _).oki t11 ok
    · exact (ib k a (by omega)).oki (t11.trans tb2.2.1) (S1 k (by omega) (by omega))
  · rw [e43, show β.1 34 + 1 - 1 = β.1 34 by omega]
    exact S2.ext (fun k a b => ⟨(ib k a b).1, (ib k a b).2.1, (ib k a b).2.2.1⟩)
  · rw [show β.1 34 + 1 - 1 = β.1 34 by omega]
    exact (ig _).1.trans k7
  · rcases F with e | e | e
    · have e0 : β.1 34 = 0 := by omega
      rw [e0] at k7
      exact Or.inr (Or.inl ((ig _).1.trans k7))
    · exact Or.inl ((ib 0 (by omega) (by omega)).1.trans e.1)
    · exact Or.inr (Or.inr ⟨(ib 0 (by omega) (by omega)).1.trans e.1.1, (ib 1 (by omega) (by omega)).1.trans e.1.2⟩)
/-- what the routine's reading may take as given -/
def HQR (σ : MS) : Prop := σ.1 25 = 3 → ∀ (τ : MS) (lg : List EV), (∀ x, GOS [30] (sS 34 x σ) (qq 0) [] τ (qq 0) lg) → (0 < nR lg → σ.1 30 < 6) ∧ ∀ e ∈ lg, E3 σ e
def ORH (σ : MS) : Prop := TOK σ ∧ (0 ≤ σ.1 25 ∧ σ.1 25 ≤ 3) ∧ (0 ≤ σ.1 30 ∧ 5 * σ.1 30 ≤ σ.1 19) ∧ (0 ≤ σ.1 31 ∧ σ.1 31 ≤ σ.1 19) ∧ (σ.1 28 = 0 ∧ σ.1 29 = 0) ∧ NN σ ∧ ((0 ≤ σ.1 43 ∧ σ.1 43 ≤ 260) ∧ (σ.1 25 = 1 → σ.1 43 = σ.1 30)) ∧ HQR σ
def ORQ (σ τ : MS) : Prop := TOK τ ∧ (τ.1 30 = σ.1 30 + 1 ∧ σ.1 19 + 5 ≤ τ.1 19 ∧ (0 ≤ τ.1 31 ∧ τ.1 31 ≤ τ.1 19) ∧ τ.1 28 = 0 ∧ τ.1 29 = 0) ∧ ∃ lg, (∀ x, GOS [30] (sS 34 x σ) (qq 0) [] τ (qq 0) lg) ∧ nR lg = 1 ∧ (σ.1 25 = 2 → τ.1 26 = 0 → ∀ e ∈ lg, E2 σ e) ∧ (σ.1 25 = 1 → P1O σ τ) ∧ (σ.1 25 = 3 → PLI τ (σ.1 30))
theorem RDY.new {σ : MS} {v : Int} (tok : TOK σ) (h25 : 0 ≤ σ.1 25 ∧ σ.1 25 ≤ 3) (h30 : 0 ≤ σ.1 30 ∧ σ.1 30 ≤ 2000) (h31 : 0 ≤ σ.1 31 ∧ σ.1 31 ≤ σ.1 19) (hv : 0 ≤ v ∧ v ≤ 12) : RDY (sS 34 0 (sS 33 0 (sS 32 v σ))) := by
  have t := tok.1
  refine ⟨tok, h25, h30, ?_, ?_, h31, ?_⟩
  · show (0 : Int) ≤ 0 ∧ (0 : Int) ≤ 2 * σ.1 19 + 10
    omega
  · show 0 ≤ v ∧ v ≤ 12 + 0
    omega
  · show (0 : Int) ≤ 0 ∧ (0 : Int) ≤ 0
    omega
end
section
def NMN (σ τ : MS) (w : Int64) : Prop := σ.1 25 = 1 → σ.1 30 < 6 → (∀ j, 0 ≤ j → j < σ.2.1 35 (σ.1 30) → σ.2.2 38 (12 * σ.1 30 + j) ≠ w) → τ.1 26 = 0 → τ.2.1 35 (σ.1 30) = σ.2.1 35 (σ.1 30) + 1
def DUF (ρ σ : MS) : Prop := σ.1 26 = 0 → ρ.1 30 < 6 → ∀ j, 0 ≤ j → j < ρ.2.1 35 (ρ.1 30) → ρ.2.2 38 (12 * ρ.1 30 + j) ≠ ρ.2.2 24 0

set_option maxHeartbeats 4000000 in
set_option maxRecDepth 20000 in
theorem l_nameOf2 (d : Nat) {b : Nat} {σ : MS} {w : Int64} {p : Int} {post : Option Value → MS → Prop} (hR : RG σ) (hnn : NN σ) (hr6 : 0 ≤ σ.1 30 ∧ σ.1 30 < 6) (hx_55 : ∀ (i : Int) , (∀ j, 0 ≤ j → j < σ.2.1 35 (σ.1 30) → σ.2.2 38 (12 * σ.1 30 + j) ≠ w) → Tm (d + 2) m_X12_nameOf 55 b σ [(4, .int (iI i)), (0, .ref b), (1, .long (w)), (3, .int (iI p))] [] post) (hr1 : ∀ v, 0 ≤ v → v < σ.2.1 35 (σ.1 30) → v < 12 → σ.2.2 38 (12 * σ.1 30 + v) = w → post (some (.int (iI v))) σ) : ∀ (n : Nat) (i : Int) , (0 ≤ i ∧ i ≤ 12) → (∀ j, 0 ≤ j → j < i → σ.2.2 38 (12 * σ.1 30 + j) ≠ w) → (12 - i).toNat = n → Tm (d + 2) m_X12_nameOf 12 b σ [(4, .int (iI i)), (0, .ref b), (1, .long (w)), (3, .int (iI p))] [] post := by
  intro n
  induction n using Nat.strongRecOn with
  | _ n ih =>
    intro i h0 hnf hm
    have hn1 := hnn (σ.1 30) hr6.1 hr6.2
    refine tm_iload dX12_nameOf_12 0 rfl ?_
    refine tm_aload_n dX12_nameOf_14 rfl 1 rfl ?_
    refine tm_get (k := 35) (v := .ref (b + 1 + 16)) lay_12 dX12_nameOf_15 (by decide) fl12_63 rfl ?_
    refine tm_aload_n dX12_nameOf_18 rfl 1 rfl ?_
    refine tm_getS (k := 30) (t := σ.1 30) dX12_nameOf_19 (by decide) fl12_268 rfl (rfl) ?_
    have g1 := RG.s hR 30
    refine tm_iald (z := σ.1 30) (v := σ.2.1 35 (σ.1 30)) dX12_nameOf_22 (show mT[16]? = some (35, 0, 6) from rfl) (by omega) (by omega) (by decide) (rfl) ?_
    have g2 := RG.a hR 35 (σ.1 30)
    refine tm_icmp_ge (tgt := 55) dX12_nameOf_23 (by decide) ⟨by omega, by omega⟩ ⟨by omega, by omega⟩ (fun h3 => ?_) (fun h3 => ?_)
    · exact tm_sub [0, 1, 2, 3] rfl (hx_55 (i) (fun j a c => hnf j a (by omega)))
    · refine tm_aload_n dX12_nameOf_26 rfl 1 rfl ?_
      refine tm_get (k := 38) (v := .ref (b + 1 + 19)) lay_12 dX12_nameOf_27 (by decide) fl12_72 rfl ?_
      refine tm_bipush dX12_nameOf_30 (by decide) ?_
      refine tm_aload_n dX12_nameOf_32 rfl 1 rfl ?_
      refine tm_getS (k := 30) (t := σ.1 30) dX12_nameOf_33 (by decide) fl12_268 rfl (rfl) ?_
      have g4 := RG.s hR 30
      refine tm_imul dX12_nameOf_36 ?_
      refine tm_iload dX12_nameOf_37 0 rfl ?_
      refine tm_iadd dX12_nameOf_39 ?_
      refine tm_lald (z := (12 * (σ.1 30)) + i) (v := σ.2.2 38 ((12 * (σ.1 30)) + i)) dX12_nameOf_40 (show mT[19]? = some (38, 3, 72) from rfl) (by omega) (by omega) (by decide) (rfl) ?_
      refine tm_lload_n dX12_nameOf_41 rfl 2 rfl ?_
      refine tm_lcmp dX12_nameOf_42 ?_
      have g5 := lcI_b (σ.2.2 38 ((12 * (σ.1 30)) + i)) (w)
      refine tm_if_ne (tgt := 49) dX12_nameOf_43 (by decide) ⟨by omega, by omega⟩ (fun h6 => ?_) (fun h6 => ?_)
      · have h6e : ¬ (σ.2.2 38 ((12 * (σ.1 30)) + i)) = (w) := fun q => h6 (lcI_0.mpr q)
        refine tm_iinc (q0 := 0) (L' := [(4, .int (iI (i + 1))), (0, .ref b), (1, .long (w)), (3, .int (iI p))]) dX12_nameOf_49 rfl (by decide) rfl ?_
        refine tm_goto (tgt := 12) dX12_nameOf_52 (by decide) ?_
        exact tm_sub [0, 1, 2, 3] rfl (ih _ (by omega) (i + 1) (by omega) (fun j a c => (Classical.em (j = i)).elim (fun e y => by rw [e] at y; contradiction) (fun e => hnf j a (by omega))) rfl)
      · have h6e := lcI_0.mp h6
        refine tm_iload dX12_nameOf_46 0 rfl ?_
        exact tm_iret rfl dX12_nameOf_48 (hr1 _ (by omega) (by omega) (by omega) (by assumption))
set_option maxHeartbeats 4000000 in
set_option maxRecDepth 20000 in
theorem c2_X12_nameOf (d : Nat) {b : Nat} {σ : MS} {w : Int64} {p : Int} (hR : RG σ) (hnn : NN σ) (hr30 : 0 ≤ σ.1 30 ∧ σ.1 30 ≤ 2000) (h_p : -2147483648 ≤ p ∧ p ≤ 2147483647) : Tm (d + 2) m_X12_nameOf 0 b σ [(0, .ref b), (1, .long (w)), (3, .int (iI p))] [] (fun ro σ2 => ∃ v : Int, ro = some (.int (iI v)) ∧ (Fr [26, 27] [35] [38] σ σ2) ∧ (RG σ2) ∧ (PBF σ σ2) ∧ (0 ≤ v ∧ v < 12) ∧ (σ2 = nmP w p σ) ∧ (NMN σ σ2 w)) := by
  refine tm_aload_n dX12_nameOf_0 rfl 0 rfl ?_
  refine tm_callV (M := m_X12_nameOf) (pc := 1) (ix := 271) (M' := m_X12_isKept) (As := []) (rest := []) dX12_nameOf_1 ok_X12_isKept im_X12_isKept se_X12_isKept ml12_271 np_X12_isKept rfl rfl (Nat.le_of_ble_eq_true rfl) (Nat.le_of_ble_eq_true rfl) rfl (c_X12_isKept (d) (σ := σ)  hR) (fun r1 σ2 hp => ?_)
  obtain ⟨v3, rfl, rfl, f4, f5⟩ := hp
  show Tm _ _ 4 b σ [(0, .ref b), (1, .long (w)), (3, .int (iI p))] [.int (iI v3)] _
  refine tm_if_ne (tgt := 9) dX12_nameOf_4 (by decide) ⟨by omega, by omega⟩ (fun h6 => ?_) (fun h6 => ?_)
  · refine tm_iconst dX12_nameOf_9 ?_
    refine tm_istore (L' := [(4, .int (iI 0)), (0, .ref b), (1, .long (w)), (3, .int (iI p))]) dX12_nameOf_10 (by decide) rfl ?_
    refine tm_sub [0, 1, 2, 3] rfl (l_nameOf2 (d) (σ := σ) (p := p) (w := w) hR hnn (by omega) (fun i11 f10 => ?_) (fun v h1 h2 h3 h4 => ⟨_, rfl, Fr.rfl, hR, PBF.nop hnn (Fr.rfl : Fr [] [] [] σ σ) (by decide) (by decide) (by decide), ⟨h1, h3⟩, by unfold nmP; rw [ifP_t (by omega), ifP_t ⟨v, h1, h2, h4⟩], fun _ _ z3 _ => absurd h4 (z3 v h1 h2)⟩) _ (0) (by omega) (fun j a c => absurd c (by omega)) rfl)
    show Tm _ _ 55 b σ [(4, .int (iI i11)), (0, .ref b), (1, .long (w)), (3, .int (iI p))] [] _
    have hn1 := hnn (σ.1 30) (by omega) (by omega)
    have nf : ¬ NFD σ w := fun z => by obtain ⟨n, z1, z2, z3⟩ := z; exact f10 n z1 z2 z3
    refine tm_aload_n dX12_nameOf_55 rfl 1 rfl ?_
    refine tm_get (k := 35) (v := .ref (b + 1 + 16)) lay_12 dX12_nameOf_56 (by decide) fl12_63 rfl ?_
    refine tm_aload_n dX12_nameOf_59 rfl 1 rfl ?_
    refine tm_getS (k := 30) (t := σ.1 30) dX12_nameOf_60 (by decide) fl12_268 rfl (rfl) ?_
    have g12 := RG.s hR 30
    refine tm_iald (z := σ.1 30) (v := σ.2.1 35 (σ.1 30)) dX12_nameOf_63 (show mT[16]? = some (35, 0, 6) from rfl) (by omega) (by omega) (by decide) (rfl) ?_
    have g13 := RG.a hR 35 (σ.1 30)
    refine tm_bipush dX12_nameOf_64 (by decide) ?_
    refine tm_icmp_ne (tgt := 77) dX12_nameOf_66 (by decide) ⟨by omega, by omega⟩ ⟨by decide, by decide⟩ (fun h14 => ?_) (fun h14 => ?_)
    · refine tm_aload_n dX12_nameOf_77 rfl 1 rfl ?_
      refine tm_getS (k := 25) (t := σ.1 25) dX12_nameOf_78 (by decide) fl12_255 rfl (rfl) ?_
      have g15 := RG.s hR 25
      refine tm_iconst dX12_nameOf_81 ?_
      refine tm_icmp_ne (tgt := 121) dX12_nameOf_82 (by decide) ⟨by omega, by omega⟩ ⟨by decide, by decide⟩ (fun h16 => ?_) (fun h16 => ?_)
      · refine tm_iconst dX12_nameOf_121 ?_
        exact tm_iret rfl dX12_nameOf_122 (⟨_, rfl, Fr.rfl, hR, PBF.nop hnn (Fr.rfl : Fr [] [] [] σ σ) (by decide) (by decide) (by decide), by omega, by unfold nmP; rw [ifP_t (by omega), ifP_f nf, ifP_f (by omega), ifP_f (by omega)], fun z1 z2 => absurd z1 (by omega)⟩)
      · refine tm_aload_n dX12_nameOf_85 rfl 1 rfl ?_
        refine tm_get (k := 38) (v := .ref (b + 1 + 19)) lay_12 dX12_nameOf_86 (by decide) fl12_72 rfl ?_
        refine tm_bipush dX12_nameOf_89 (by decide) ?_
        refine tm_aload_n dX12_nameOf_91 rfl 1 rfl ?_
        refine tm_getS (k := 30) (t := σ.1 30) dX12_nameOf_92 (by decide) fl12_268 rfl (rfl) ?_
        have g17 := RG.s hR 30
        refine tm_imul dX12_nameOf_95 ?_
        refine tm_aload_n dX12_nameOf_96 rfl 1 rfl ?_
        refine tm_get (k := 35) (v := .ref (b + 1 + 16)) lay_12 dX12_nameOf_97 (by decide) fl12_63 rfl ?_
        refine tm_aload_n dX12_nameOf_100 rfl 1 rfl ?_
        refine tm_getS (k := 30) (t := σ.1 30) dX12_nameOf_101 (by decide) fl12_268 rfl (rfl) ?_
        have g18 := RG.s hR 30
        refine tm_iald (z := σ.1 30) (v := σ.2.1 35 (σ.1 30)) dX12_nameOf_104 (show mT[16]? = some (35, 0, 6) from rfl) (by omega) (by omega) (by decide) (rfl) ?_
        have g19 := RG.a hR 35 (σ.1 30)
        refine tm_iadd dX12_nameOf_105 ?_
        refine tm_lload_n dX12_nameOf_106 rfl 2 rfl ?_
        refine tm_last (z := (12 * (σ.1 30)) + (σ.2.1 35 (σ.1 30))) (v := w) dX12_nameOf_107 (show mT[19]? = some (38, 3, 72) from rfl) (by decide) (by omega) (by omega) (by decide) ?_
        refine tm_aload_n dX12_nameOf_108 rfl 1 rfl ?_
        refine tm_get (k := 35) (v := .ref (b + 1 + 16)) lay_12 dX12_nameOf_109 (by decide) fl12_63 rfl ?_
        refine tm_aload_n dX12_nameOf_112 rfl 1 rfl ?_
        refine tm_getS (k := 30) (t := σ.1 30) dX12_nameOf_113 (by decide) fl12_268 rfl (rs_J (rfl)) ?_
        have g20 := RG.s hR 30
        refine tm_dup2 dX12_nameOf_116 rfl rfl ?_
        refine tm_iald (z := σ.1 30) (v := σ.2.1 35 (σ.1 30)) dX12_nameOf_117 (show mT[16]? = some (35, 0, 6) from rfl) (by omega) (by omega) (by decide) (ra_J (rfl)) ?_
        have g21 := RG.a hR 35 (σ.1 30)
        refine tm_iconst dX12_nameOf_118 ?_
        refine tm_iadd dX12_nameOf_119 ?_
        refine tm_iast (z := σ.1 30) (v := (σ.2.1 35 (σ.1 30)) + 1) dX12_nameOf_120 (show mT[16]? = some (35, 0, 6) from rfl) (by omega) (by omega) (by decide) ?_
        refine tm_iconst dX12_nameOf_121 ?_
        exact tm_iret rfl dX12_nameOf_122 (⟨_, rfl, ((Fr.rfl.J (by decide)).A (by decide)), ((hR.J).A (by omega)), PBF.name hnn (by omega) (by omega) (by omega), by omega, by unfold nmP; rw [ifP_t (by omega), ifP_f nf, ifP_f (by omega), ifP_t (by omega)], fun _ _ _ _ => ra_eq⟩)
    · refine tm_aload_n dX12_nameOf_69 rfl 1 rfl ?_
      refine tm_iconst dX12_nameOf_70 ?_
      refine tm_iload_n dX12_nameOf_71 rfl 3 rfl ?_
      refine tm_callV (M := m_X12_nameOf) (pc := 72) (ix := 274) (M' := m_X12_note) (As := [.int (iI 5), .int (iI p)]) (rest := []) dX12_nameOf_72 ok_X12_note im_X12_note se_X12_note ml12_274 np_X12_note rfl rfl (Nat.le_of_ble_eq_true rfl) (Nat.le_of_ble_eq_true rfl) rfl (c2_X12_note (d) (σ := σ) (f := 5) (p := p) hR (by omega) (by omega)) (fun r22 σ23 hp => ?_)
      obtain ⟨rfl, f25, f26, f27, f28, f29⟩ := hp
      show Tm _ _ 75 b σ23 [(4, .int (iI i11)), (0, .ref b), (1, .long (w)), (3, .int (iI p))] [] _
      refine tm_iconst dX12_nameOf_75 ?_
      exact tm_iret rfl dX12_nameOf_76 (⟨_, rfl, (Fr.rfl.trans (Fr.sub f25 (by decide) (by decide) (by decide))), f26, PBF.of hnn f25 (by decide) (by decide) (by decide) f27, by omega, by unfold nmP; rw [ifP_t (by omega), ifP_f nf, ifP_t (by omega)]; exact f29, fun z1 _ _ z4 => absurd z4 (f28 (by omega))⟩)
  · refine tm_iconst dX12_nameOf_7 ?_
    exact tm_iret rfl dX12_nameOf_8 (⟨_, rfl, Fr.rfl, hR, PBF.nop hnn (Fr.rfl : Fr [] [] [] σ σ) (by decide) (by decide) (by decide), by omega, by unfold nmP; rw [ifP_f (by omega)], fun z1 z2 => absurd z1 (by omega)⟩)
end
section
theorem dX12_oneRoutine_154 : decode cX12_oneRoutine 154 = .ok (.aload_n 0, 1) := by decide +kernel
theorem dX12_oneRoutine_155 : decode cX12_oneRoutine 155 = .ok (.invokevirtual 271, 3) := by decide +kernel
theorem dX12_oneRoutine_158 : decode cX12_oneRoutine 158 = .ok (.ifCond .eq 55, 3) := by decide +kernel
theorem dX12_oneRoutine_161 : decode cX12_oneRoutine 161 = .ok (.iload 4, 2) := by decide +kernel
theorem dX12_oneRoutine_163 : decode cX12_oneRoutine 163 = .ok (.aload_n 0, 1) := by decide +kernel
theorem dX12_oneRoutine_164 : decode cX12_oneRoutine 164 = .ok (.getfield 63, 3) := by decide +kernel
theorem dX12_oneRoutine_167 : decode cX12_oneRoutine 167 = .ok (.aload_n 0, 1) := by decide +kernel
theorem dX12_oneRoutine_168 : decode cX12_oneRoutine 168 = .ok (.getfield 268, 3) := by decide +kernel
theorem dX12_oneRoutine_171 : decode cX12_oneRoutine 171 = .ok (.iaload, 1) := by decide +kernel
theorem dX12_oneRoutine_172 : decode cX12_oneRoutine 172 = .ok (.if_icmp .ge 41, 3) := by decide +kernel
theorem dX12_oneRoutine_175 : decode cX12_oneRoutine 175 = .ok (.aload_n 0, 1) := by decide +kernel
theorem dX12_oneRoutine_176 : decode cX12_oneRoutine 176 = .ok (.getfield 72, 3) := by decide +kernel
theorem dX12_oneRoutine_179 : decode cX12_oneRoutine 179 = .ok (.bipush 12, 2) := by decide +kernel
theorem dX12_oneRoutine_181 : decode cX12_oneRoutine 181 = .ok (.aload_n 0, 1) := by decide +kernel
theorem dX12_oneRoutine_182 : decode cX12_oneRoutine 182 = .ok (.getfield 268, 3) := by decide +kernel
theorem dX12_oneRoutine_185 : decode cX12_oneRoutine 185 = .ok (.imul, 1) := by decide +kernel
theorem dX12_oneRoutine_186 : decode cX12_oneRoutine 186 = .ok (.iload 4, 2) := by decide +kernel
theorem dX12_oneRoutine_188 : decode cX12_oneRoutine 188 = .ok (.iadd, 1) := by decide +kernel
theorem dX12_oneRoutine_189 : decode cX12_oneRoutine 189 = .ok (.laload, 1) := by decide +kernel
theorem dX12_oneRoutine_190 : decode cX12_oneRoutine 190 = .ok (.aload_n 0, 1) := by decide +kernel
theorem dX12_oneRoutine_191 : decode cX12_oneRoutine 191 = .ok (.getfield 219, 3) := by decide +kernel
theorem dX12_oneRoutine_194 : decode cX12_oneRoutine 194 = .ok (.lcmp, 1) := by decide +kernel
theorem dX12_oneRoutine_195 : decode cX12_oneRoutine 195 = .ok (.ifCond .ne 12, 3) := by decide +kernel
theorem dX12_oneRoutine_207 : decode cX12_oneRoutine 207 = .ok (.iinc 4 1, 3) := by decide +kernel
theorem dX12_oneRoutine_210 : decode cX12_oneRoutine 210 = .ok (.goto (-56), 3) := by decide +kernel
theorem dX12_oneRoutine_198 : decode cX12_oneRoutine 198 = .ok (.aload_n 0, 1) := by decide +kernel
theorem dX12_oneRoutine_199 : decode cX12_oneRoutine 199 = .ok (.iconst 2, 1) := by decide +kernel
theorem dX12_oneRoutine_200 : decode cX12_oneRoutine 200 = .ok (.aload_n 0, 1) := by decide +kernel
theorem dX12_oneRoutine_201 : decode cX12_oneRoutine 201 = .ok (.getfield 216, 3) := by decide +kernel
theorem dX12_oneRoutine_204 : decode cX12_oneRoutine 204 = .ok (.invokevirtual 274, 3) := by decide +kernel
set_option maxHeartbeats 4000000 in
set_option maxRecDepth 20000 in
theorem l_dup (d : Nat) {b : Nat} {σ0 : MS} {m : Int} {mo : Int} {p : Int} {post : Option Value → MS → Prop} (hR0 : RG σ0) (hn0 : NN σ0) (hr0 : 0 ≤ σ0.1 30 ∧ σ0.1 30 ≤ 2000) (h1 : σ0.1 25 = 1) (hx_213 : ∀ (i : Int) (σ : MS) , (Fr [26, 27] [] [] σ0 σ) → (RG σ) → (FLT σ0 σ) → (DUF σ0 σ) → (σ = DPA (σ0.1 19) σ0) → Tm (d + 3) m_X12_oneRoutine 213 b σ [(4, .int (iI i)), (3, .int (iI mo)), (2, .int (iI m)), (1, .int (iI p)), (0, .ref b)] [] post) : ∀ (n : Nat) (i : Int) (σ : MS) , (Fr [26, 27] [] [] σ0 σ) → (RG σ) → ((0 ≤ i ∧ i ≤ 12) ∧ (i = 0 ∨ (σ0.1 30 < 6 ∧ i ≤ σ0.2.1 35 (σ0.1 30)))) → (FLT σ0 σ) → (σ.1 26 = 0 → ∀ j, 0 ≤ j → j < i → σ0.2.2 38 (12 * σ0.1 30 + j) ≠ σ0.2.2 24 0) → (σ = DPN i (σ0.1 19) σ0) → (13 - i).toNat = n → Tm (d + 3) m_X12_oneRoutine 154 b σ [(4, .int (iI i)), (3, .int (iI mo)), (2, .int (iI m)), (1, .int (iI p)), (0, .ref b)] [] post := by
  intro n
  induction n using Nat.strongRecOn with
  | _ n ih =>
    intro i σ hF hR h0 hfl hd hdp hm
    have e30 : σ.1 30 = σ0.1 30 := hF.1 30 (by decide)
    have e25 : σ.1 25 = σ0.1 25 := hF.1 25 (by decide)
    have e19 : σ.1 19 = σ0.1 19 := hF.1 19 (by decide)
    refine tm_aload_n dX12_oneRoutine_154 rfl 4 rfl ?_
    refine tm_callV (M := m_X12_oneRoutine) (pc := 155) (ix := 271) (M' := m_X12_isKept) (As := []) (rest := []) dX12_oneRoutine_155 ok_X12_isKept im_X12_isKept se_X12_isKept ml12_271 np_X12_isKept rfl rfl (Nat.le_of_ble_eq_true rfl) (Nat.le_of_ble_eq_true rfl) rfl (c_X12_isKept (d + 1) (σ := σ)  hR) (fun r1 σ2 hp => ?_)
    obtain ⟨v3, rfl, rfl, f4, f5⟩ := hp
    show Tm _ _ 158 b σ [(4, .int (iI i)), (3, .int (iI mo)), (2, .int (iI m)), (1, .int (iI p)), (0, .ref b)] [.int (iI v3)] _
    refine tm_if_eq (tgt := 213) dX12_oneRoutine_158 (by decide) ⟨by omega, by omega⟩ (fun h6 => ?_) (fun h6 => ?_)
    · exact tm_sub [0, 1, 2, 3, 4] rfl (hx_213 (i) σ (Fr.rfl.trans (Fr.sub hF (by decide) (by decide) (by decide))) hR hfl (fun a b j c e => absurd b (by omega)) (DPN.fin1 hdp (by omega) (by omega)))
    · have hn1 := hn0 (σ0.1 30) (by omega) (by omega)
      refine tm_iload dX12_oneRoutine_161 0 rfl ?_
      refine tm_aload_n dX12_oneRoutine_163 rfl 4 rfl ?_
      refine tm_get (k := 35) (v := .ref (b + 1 + 16)) lay_12 dX12_oneRoutine_164 (by decide) fl12_63 rfl ?_
      refine tm_aload_n dX12_oneRoutine_167 rfl 4 rfl ?_
      refine tm_getS (k := 30) (t := σ0.1 30) dX12_oneRoutine_168 (by decide) fl12_268 rfl (rs_F hF (by decide) (rfl)) ?_
      have g7 := RG.s hR0 30
      refine tm_iald (z := σ0.1 30) (v := σ0.2.1 35 (σ0.1 30)) dX12_oneRoutine_171 (show mT[16]? = some (35, 0, 6) from rfl) (by omega) (by omega) (by decide) (ra_F hF (by decide) (rfl)) ?_
      have g8 := RG.a hR0 35 (σ0.1 30)
      refine tm_icmp_ge (tgt := 213) dX12_oneRoutine_172 (by decide) ⟨by omega, by omega⟩ ⟨by omega, by omega⟩ (fun h10 => ?_) (fun h10 => ?_)
      · exact tm_sub [0, 1, 2, 3, 4] rfl (hx_213 (i) σ (Fr.rfl.trans (Fr.sub hF (by decide) (by decide) (by decide))) hR hfl (fun a b j c e => hd a j c (by omega)) (DPN.fin2 hdp (by omega) (by omega)))
      · refine tm_aload_n dX12_oneRoutine_175 rfl 4 rfl ?_
        refine tm_get (k := 38) (v := .ref (b + 1 + 19)) lay_12 dX12_oneRoutine_176 (by decide) fl12_72 rfl ?_
        refine tm_bipush dX12_oneRoutine_179 (by decide) ?_
        refine tm_aload_n dX12_oneRoutine_181 rfl 4 rfl ?_
        refine tm_getS (k := 30) (t := σ0.1 30) dX12_oneRoutine_182 (by decide) fl12_268 rfl (rs_F hF (by decide) (rfl)) ?_
        have g11 := RG.s hR0 30
        refine tm_imul dX12_oneRoutine_185 ?_
        refine tm_iload dX12_oneRoutine_186 0 rfl ?_
        refine tm_iadd dX12_oneRoutine_188 ?_
        refine tm_lald (z := (12 * (σ0.1 30)) + i) (v := σ0.2.2 38 ((12 * (σ0.1 30)) + i)) dX12_oneRoutine_189 (show mT[19]? = some (38, 3, 72) from rfl) (by omega) (by omega) (by decide) (rj_F hF (by decide) (rfl)) ?_
        refine tm_aload_n dX12_oneRoutine_190 rfl 4 rfl ?_
        refine tm_getW (t := σ0.2.2 24 0) dX12_oneRoutine_191 fl12_219 (rj_F hF (by decide) (rfl)) ?_
        refine tm_lcmp dX12_oneRoutine_194 ?_
        have g12 := lcI_b (σ0.2.2 38 ((12 * (σ0.1 30)) + i)) (σ0.2.2 24 0)
        refine tm_if_ne (tgt := 207) dX12_oneRoutine_195 (by decide) ⟨by omega, by omega⟩ (fun h13 => ?_) (fun h13 => ?_)
        · have h13e : ¬ (σ0.2.2 38 ((12 * (σ0.1 30)) + i)) = (σ0.2.2 24 0) := fun q => h13 (lcI_0.mpr q)
          refine tm_iinc (q0 := 0) (L' := [(4, .int (iI (i + 1))), (3, .int (iI mo)), (2, .int (iI m)), (1, .int (iI p)), (0, .ref b)]) dX12_oneRoutine_207 rfl (by decide) rfl ?_
          refine tm_goto (tgt := 154) dX12_oneRoutine_210 (by decide) ?_
          exact tm_sub [0, 1, 2, 3, 4] rfl (ih _ (by omega) (i + 1) σ (Fr.rfl.trans (Fr.sub hF (by decide) (by decide) (by decide))) hR (by omega) hfl (fun a j c e => (Classical.em (j = i)).elim (fun z => by rw [z]; assumption) (fun z => hd a j c (by omega))) (DPN.no hdp (by assumption)) rfl)
        · have h13e := lcI_0.mp h13
          refine tm_aload_n dX12_oneRoutine_198 rfl 4 rfl ?_
          refine tm_iconst dX12_oneRoutine_199 ?_
          refine tm_aload_n dX12_oneRoutine_200 rfl 4 rfl ?_
          refine tm_getS (k := 19) (t := σ0.1 19) dX12_oneRoutine_201 (by decide) fl12_216 rfl (rs_F hF (by decide) (rfl)) ?_
          have g14 := RG.s hR0 19
          refine tm_callV (M := m_X12_oneRoutine) (pc := 204) (ix := 274) (M' := m_X12_note) (As := [.int (iI 2), .int (iI (σ0.1 19))]) (rest := []) dX12_oneRoutine_204 ok_X12_note im_X12_note se_X12_note ml12_274 np_X12_note rfl rfl (Nat.le_of_ble_eq_true rfl) (Nat.le_of_ble_eq_true rfl) rfl (c2_X12_note (d + 1) (σ := σ) (f := 2) (p := σ0.1 19) hR (by omega) (by omega)) (fun r15 σ16 hp => ?_)
          obtain ⟨rfl, f18, f19, f20, f21, f22⟩ := hp
          show Tm _ _ 207 b σ16 [(4, .int (iI i)), (3, .int (iI mo)), (2, .int (iI m)), (1, .int (iI p)), (0, .ref b)] [] _
          refine tm_iinc (q0 := 0) (L' := [(4, .int (iI (i + 1))), (3, .int (iI mo)), (2, .int (iI m)), (1, .int (iI p)), (0, .ref b)]) dX12_oneRoutine_207 rfl (by decide) rfl ?_
          refine tm_goto (tgt := 154) dX12_oneRoutine_210 (by decide) ?_
          exact tm_sub [0, 1, 2, 3, 4] rfl (ih _ (by omega) (i + 1) σ16 ((Fr.rfl.trans (Fr.sub hF (by decide) (by decide) (by decide))).trans (Fr.sub f18 (by decide) (by decide) (by decide))) f19 (by omega) (hfl.trans f20) (fun a => absurd a (f21 (by omega))) (DPN.yes hdp h0.1.1 (by first | assumption | omega) (by rw [f22])) rfl)
end
section
def PMN (ρ σ : MS) (m : Int) : Prop := ρ.1 25 = 1 → ρ.1 30 < 6 → σ.1 26 = 0 → m ≤ 4 ∧ m ≤ σ.2.1 35 (ρ.1 30)

theorem dX12_oneRoutine_113 : decode cX12_oneRoutine 113 = .ok (.iload_n 3, 1) := by decide +kernel
theorem dX12_oneRoutine_114 : decode cX12_oneRoutine 114 = .ok (.ifCond .eq 138, 3) := by decide +kernel
theorem dX12_oneRoutine_117 : decode cX12_oneRoutine 117 = .ok (.aload_n 0, 1) := by decide +kernel
theorem dX12_oneRoutine_118 : decode cX12_oneRoutine 118 = .ok (.invokevirtual 320, 3) := by decide +kernel
theorem dX12_oneRoutine_121 : decode cX12_oneRoutine 121 = .ok (.ifCond .ne 8, 3) := by decide +kernel
theorem dX12_oneRoutine_129 : decode cX12_oneRoutine 129 = .ok (.aload_n 0, 1) := by decide +kernel
theorem dX12_oneRoutine_130 : decode cX12_oneRoutine 130 = .ok (.getfield 255, 3) := by decide +kernel
theorem dX12_oneRoutine_133 : decode cX12_oneRoutine 133 = .ok (.iconst 1, 1) := by decide +kernel
theorem dX12_oneRoutine_134 : decode cX12_oneRoutine 134 = .ok (.if_icmp .ne 93, 3) := by decide +kernel
theorem dX12_oneRoutine_227 : decode cX12_oneRoutine 227 = .ok (.iinc 2 1, 3) := by decide +kernel
theorem dX12_oneRoutine_230 : decode cX12_oneRoutine 230 = .ok (.aload_n 0, 1) := by decide +kernel
theorem dX12_oneRoutine_231 : decode cX12_oneRoutine 231 = .ok (.invokevirtual 265, 3) := by decide +kernel
theorem dX12_oneRoutine_234 : decode cX12_oneRoutine 234 = .ok (.aload_n 0, 1) := by decide +kernel
theorem dX12_oneRoutine_235 : decode cX12_oneRoutine 235 = .ok (.bipush 44, 2) := by decide +kernel
theorem dX12_oneRoutine_237 : decode cX12_oneRoutine 237 = .ok (.invokevirtual 258, 3) := by decide +kernel
theorem dX12_oneRoutine_240 : decode cX12_oneRoutine 240 = .ok (.istore_n 3, 1) := by decide +kernel
theorem dX12_oneRoutine_241 : decode cX12_oneRoutine 241 = .ok (.iload_n 3, 1) := by decide +kernel
theorem dX12_oneRoutine_242 : decode cX12_oneRoutine 242 = .ok (.ifCond .eq (-129), 3) := by decide +kernel
theorem dX12_oneRoutine_245 : decode cX12_oneRoutine 245 = .ok (.aload_n 0, 1) := by decide +kernel
theorem dX12_oneRoutine_246 : decode cX12_oneRoutine 246 = .ok (.invokevirtual 265, 3) := by decide +kernel
theorem dX12_oneRoutine_249 : decode cX12_oneRoutine 249 = .ok (.goto (-136), 3) := by decide +kernel
theorem dX12_oneRoutine_137 : decode cX12_oneRoutine 137 = .ok (.iload_n 2, 1) := by decide +kernel
theorem dX12_oneRoutine_138 : decode cX12_oneRoutine 138 = .ok (.iconst 4, 1) := by decide +kernel
theorem dX12_oneRoutine_139 : decode cX12_oneRoutine 139 = .ok (.if_icmp .ne 12, 3) := by decide +kernel
theorem dX12_oneRoutine_151 : decode cX12_oneRoutine 151 = .ok (.iconst 0, 1) := by decide +kernel
theorem dX12_oneRoutine_152 : decode cX12_oneRoutine 152 = .ok (.istore 4, 2) := by decide +kernel
theorem dX12_oneRoutine_213 : decode cX12_oneRoutine 213 = .ok (.aload_n 0, 1) := by decide +kernel
theorem dX12_oneRoutine_214 : decode cX12_oneRoutine 214 = .ok (.aload_n 0, 1) := by decide +kernel
theorem dX12_oneRoutine_215 : decode cX12_oneRoutine 215 = .ok (.getfield 219, 3) := by decide +kernel
theorem dX12_oneRoutine_218 : decode cX12_oneRoutine 218 = .ok (.aload_n 0, 1) := by decide +kernel
theorem dX12_oneRoutine_219 : decode cX12_oneRoutine 219 = .ok (.getfield 216, 3) := by decide +kernel
theorem dX12_oneRoutine_222 : decode cX12_oneRoutine 222 = .ok (.invokevirtual 323, 3) := by decide +kernel
theorem dX12_oneRoutine_225 : decode cX12_oneRoutine 225 = .ok (.istore 4, 2) := by decide +kernel
theorem dX12_oneRoutine_142 : decode cX12_oneRoutine 142 = .ok (.aload_n 0, 1) := by decide +kernel
theorem dX12_oneRoutine_143 : decode cX12_oneRoutine 143 = .ok (.iconst 5, 1) := by decide +kernel
theorem dX12_oneRoutine_144 : decode cX12_oneRoutine 144 = .ok (.aload_n 0, 1) := by decide +kernel
theorem dX12_oneRoutine_145 : decode cX12_oneRoutine 145 = .ok (.getfield 216, 3) := by decide +kernel
theorem dX12_oneRoutine_148 : decode cX12_oneRoutine 148 = .ok (.invokevirtual 274, 3) := by decide +kernel
theorem dX12_oneRoutine_124 : decode cX12_oneRoutine 124 = .ok (.aload_n 0, 1) := by decide +kernel
theorem dX12_oneRoutine_125 : decode cX12_oneRoutine 125 = .ok (.invokevirtual 261, 3) := by decide +kernel
theorem dX12_oneRoutine_128 : decode cX12_oneRoutine 128 = .ok (.ireturn, 1) := by decide +kernel
set_option maxHeartbeats 4000000 in
set_option maxRecDepth 20000 in
theorem l_par (d : Nat) {b : Nat} {σ0 : MS} {p : Int} {ρ : MS} {post : Option Value → MS → Prop} (hR0 : RG σ0) (hoh : ORH ρ) (hd0 : HD ρ σ0) (hx_252 : ∀ (m : Int) (mo : Int) (σ : MS) , (Fr [19, 20, 22, 23, 26, 27] [35] [24, 38] σ0 σ) → (RG σ) → (0 ≤ m ∧ m ≤ 1200) → (TOK σ) → (PBF σ0 σ) → (PEN ρ σ m) → (PMN ρ σ (m)) → (σ0.1 19 ≤ σ.1 19) → Tm (d + 7) m_X12_oneRoutine 252 b σ [(3, .int (iI mo)), (2, .int (iI m)), (1, .int (iI p)), (0, .ref b)] [] post) (hr0 : ∀ (v : Int) (τ : MS), v = 0 → Fr [19, 20, 22, 23, 26, 27] [35] [24, 38] σ0 τ → RG τ → PBF σ0 τ → (∀ x, GOF [30] (sS 34 x ρ) (qq 0) τ) → post (some (.int (iI v))) τ) : ∀ (n : Nat) (m : Int) (mo : Int) (σ : MS) , (Fr [19, 20, 22, 23, 26, 27] [35] [24, 38] σ0 σ) → (RG σ) → ((0 ≤ m ∧ m ≤ σ.1 19 ∧ σ.1 19 ≤ 1200) ∧ (mo = 0 ∨ mo = 1)) → (TOK σ) → (PBF σ0 σ) → ((mo = 1 → GOX [30] ρ (qq 0) [32] σ (0, 0, 0, m, ρ.1 19)) ∧ (mo = 0 → PEN ρ σ m)) → (PMN ρ σ (m)) → (σ0.1 19 ≤ σ.1 19) → (1300 - σ.1 19).toNat = n → Tm (d + 7) m_X12_oneRoutine 113 b σ [(3, .int (iI mo)), (2, .int (iI m)), (1, .int (iI p)), (0, .ref b)] [] post := by
  intro n
  induction n using Nat.strongRecOn with
  | _ n ih =>
    intro m mo σ hF hR h0 htk hpb hgx hmn hpl hm
    have hd1 := hd0.pb hF hpb
    have e25p : σ.1 25 = ρ.1 25 := hd1.1.1 25 (by decide)
    have e30p : σ.1 30 = ρ.1 30 := hd1.1.1 30 (by decide)
    have oh30 := hoh.2.2.1
    have oht := hoh.1.1
    have e2125 := hF.1 25 (by decide)
    have e2130 := hF.1 30 (by decide)
    have tkh := htk.1
    refine tm_iload_n dX12_oneRoutine_113 rfl 0 rfl ?_
    refine tm_if_eq (tgt := 252) dX12_oneRoutine_114 (by decide) ⟨by omega, by omega⟩ (fun h1 => ?_) (fun h1 => ?_)
    · exact tm_sub [0, 1, 2, 3] rfl (hx_252 (m) (mo) σ (Fr.rfl.trans (Fr.sub hF (by decide) (by decide) (by decide))) hR (by omega) htk hpb (hgx.2 (by omega)) hmn hpl)
    · refine tm_aload_n dX12_oneRoutine_117 rfl 3 rfl ?_
      refine tm_callV (M := m_X12_oneRoutine) (pc := 118) (ix := 320) (M' := m_X12_isName) (As := []) (rest := []) dX12_oneRoutine_118 ok_X12_isName im_X12_isName se_X12_isName ml12_320 np_X12_isName rfl rfl (Nat.le_of_ble_eq_true rfl) (Nat.le_of_ble_eq_true rfl) rfl (c2_X12_isName (d + 5) (σ := σ)  hR) (fun r2 σ3 hp => ?_)
      obtain ⟨v4, rfl, rfl, f5, f6, f7⟩ := hp
      show Tm _ _ 121 b σ [(3, .int (iI mo)), (2, .int (iI m)), (1, .int (iI p)), (0, .ref b)] [.int (iI v4)] _
      have inm := f6
      have nnm_ := f7
      refine tm_if_ne (tgt := 129) dX12_oneRoutine_121 (by decide) ⟨by omega, by omega⟩ (fun h8 => ?_) (fun h8 => ?_)
      · have gx := hgx.1 (by omega)
        have nmw := inm (by omega)
        have hnz : σ.1 22 ≠ 0 := by have z := nmw.1; omega
        have plz := htk.2.1 hnz
        refine tm_aload_n dX12_oneRoutine_129 rfl 3 rfl ?_
        refine tm_getS (k := 25) (t := σ0.1 25) dX12_oneRoutine_130 (by decide) fl12_255 rfl (rs_F hF (by decide) (rfl)) ?_
        have g9 := RG.s hR0 25
        refine tm_iconst dX12_oneRoutine_133 ?_
        refine tm_icmp_ne (tgt := 227) dX12_oneRoutine_134 (by decide) ⟨by omega, by omega⟩ ⟨by decide, by decide⟩ (fun h10 => ?_) (fun h10 => ?_)
        · have pbn : PBF σ σ := PBF.nop hpb.2.2.1 (Fr.rfl : Fr [] [] [] σ σ) (by decide) (by decide) (by decide)
          have fn : Fr [26, 27] [35] [38] σ σ := Fr.rfl
          have mn2 : PMN ρ σ (m + 1) := fun z => absurd z (by omega)
          have srp : srt σ = srt (paP (σ.2.2 24 0) (σ.1 19) m σ) := by rw [paP_0 (by omega)]
          refine tm_iinc (q0 := 1) (L' := [(2, .int (iI (m + 1))), (3, .int (iI mo)), (1, .int (iI p)), (0, .ref b)]) dX12_oneRoutine_227 rfl (by decide) rfl ?_
          refine tm_aload_n dX12_oneRoutine_230 rfl 3 rfl ?_
          refine tm_callV (M := m_X12_oneRoutine) (pc := 231) (ix := 265) (M' := m_X12_advance) (As := []) (rest := []) dX12_oneRoutine_231 ok_X12_advance im_X12_advance se_X12_advance ml12_265 np_X12_advance rfl rfl (Nat.le_of_ble_eq_true rfl) (Nat.le_of_ble_eq_true rfl) rfl (c_X12_advance (d + 1) (σ := σ)  hR (by rw [fn.1 20 (by decide), fn.1 21 (by decide)]; omega)) (fun r11 σ12 hp => ?_)
          obtain ⟨rfl, f14, f15, f16, f17, f18⟩ := hp
          show Tm _ _ 234 b σ12 [(2, .int (iI (m + 1))), (3, .int (iI mo)), (1, .int (iI p)), (0, .ref b)] [] _
          have av0 := f14
          have av1 := f15
          have av2 := f16
          have av3 := f17
          have av4 := f18
          have gx2 : GOX [30] ρ (qq 0) [33] σ12 (0, 0, 0, m + 1, ρ.1 19) := gx.nxt (fun x => g32 (σ := sS 34 x σ) (τ := sS 34 x σ12) (q := (0, 0, 0, m, ρ.1 19)) nmw (show tks σ12 = advT (sv σ) (σ.1 20) by rw [av0.1, sv_fr fn (by decide) (by decide), fn.1 20 (by decide)]) (show (σ12.1 28, σ12.1 29, x) = (σ.1 28, σ.1 29, x) by rw [av1.1 28 (by decide), av1.1 29 (by decide), fn.1 28 (by decide), fn.1 29 (by decide)]) (show sv σ12 = sv σ by rw [av0.2.2.1, sv_fr fn (by decide) (by decide)]) (EFF.para ((show srt (sS 34 x σ12) = _ from av0.2.2.2).trans (srp.trans (srt_pa (A := σ) (σ := sS 34 x σ) rfl)))))
          have pb3 := pbn.trans (PBF.nop pbn.2.2.1 av1 (by decide) (by decide) (by decide) : PBF _ σ12)
          have pl3 : σ.1 19 < σ12.1 19 := by have z := av4; rw [fn.1 20 (by decide)] at z; omega
          have tk3 := av3.1
          have mn3 : PMN ρ σ12 (m + 1) := fun z1 z2 z3 => by rw [av1.2.1 35 (by decide)]; exact mn2 z1 z2 (by rw [av1.1 26 (by decide)] at z3; exact z3)
          refine tm_aload_n dX12_oneRoutine_234 rfl 3 rfl ?_
          refine tm_bipush dX12_oneRoutine_235 (by decide) ?_
          refine tm_callV (M := m_X12_oneRoutine) (pc := 237) (ix := 258) (M' := m_X12_isSign) (As := [.int (iI 44)]) (rest := []) dX12_oneRoutine_237 ok_X12_isSign im_X12_isSign se_X12_isSign ml12_258 np_X12_isSign rfl rfl (Nat.le_of_ble_eq_true rfl) (Nat.le_of_ble_eq_true rfl) rfl (c2_X12_isSign (d + 5) (σ := σ12) (c := 44) f16 (by omega)) (fun r19 σ20 hp => ?_)
          obtain ⟨v21, rfl, rfl, f22, f23, f24⟩ := hp
          show Tm _ _ 240 b σ12 [(2, .int (iI (m + 1))), (3, .int (iI mo)), (1, .int (iI p)), (0, .ref b)] [.int (iI v21)] _
          have i44 := f23
          have n44_ := f24
          refine tm_istore_n (L' := [(3, .int (iI v21)), (2, .int (iI (m + 1))), (1, .int (iI p)), (0, .ref b)]) dX12_oneRoutine_240 rfl (by decide) rfl ?_
          refine tm_iload_n dX12_oneRoutine_241 rfl 0 rfl ?_
          refine tm_if_eq (tgt := 113) dX12_oneRoutine_242 (by decide) ⟨by omega, by omega⟩ (fun h32 => ?_) (fun h32 => ?_)
          · exact tm_sub [0, 1, 2, 3] rfl (ih _ (by omega) (m + 1) (v21) σ12 ((Fr.rfl.trans (Fr.sub hF (by decide) (by decide) (by decide))).trans (Fr.sub f15 (by decide) (by decide) (by decide))) f16 (by omega) av3 (hpb.trans pb3) (⟨fun q => absurd q (by omega), fun _ => Or.inr ⟨gx2, n44_ (by omega)⟩⟩) mn3 (by omega) rfl)
          · refine tm_aload_n dX12_oneRoutine_245 rfl 3 rfl ?_
            refine tm_callV (M := m_X12_oneRoutine) (pc := 246) (ix := 265) (M' := m_X12_advance) (As := []) (rest := []) dX12_oneRoutine_246 ok_X12_advance im_X12_advance se_X12_advance ml12_265 np_X12_advance rfl rfl (Nat.le_of_ble_eq_true rfl) (Nat.le_of_ble_eq_true rfl) rfl (c_X12_advance (d + 1) (σ := σ12)  f16 (by omega)) (fun r33 σ34 hp => ?_)
            obtain ⟨rfl, f36, f37, f38, f39, f40⟩ := hp
            show Tm _ _ 249 b σ34 [(3, .int (iI v21)), (2, .int (iI (m + 1))), (1, .int (iI p)), (0, .ref b)] [] _
            refine tm_goto (tgt := 113) dX12_oneRoutine_249 (by decide) ?_
            exact tm_sub [0, 1, 2, 3] rfl (ih _ (by have z := f40; have z2 := f39.1; omega) (m + 1) (v21) σ34 (((Fr.rfl.trans (Fr.sub hF (by decide) (by decide) (by decide))).trans (Fr.sub f15 (by decide) (by decide) (by decide))).trans (Fr.sub f37 (by decide) (by decide) (by decide))) f38 (by have z := f40; have z2 := f39.1; omega) f39 (hpb.trans (pb3.trans (PBF.nop pb3.2.2.1 f37 (by decide) (by decide) (by decide)))) (⟨fun _ => gx2.nxt (fun x => g33y (i44 (by omega)) (f36.any x)), fun q => absurd q (by omega)⟩) (fun z1 z2 z3 => by rw [f37.2.1 35 (by decide)]; exact mn3 z1 z2 (by rw [f37.1 26 (by decide)] at z3; exact z3)) (by have z := f40; have z2 := f39.1; omega) rfl)
        · refine tm_iload_n dX12_oneRoutine_137 rfl 1 rfl ?_
          refine tm_iconst dX12_oneRoutine_138 ?_
          refine tm_icmp_ne (tgt := 151) dX12_oneRoutine_139 (by decide) ⟨by omega, by omega⟩ ⟨by decide, by decide⟩ (fun h41 => ?_) (fun h41 => ?_)
          · refine tm_iconst dX12_oneRoutine_151 ?_
            refine tm_istore (L' := [(4, .int (iI 0)), (3, .int (iI mo)), (2, .int (iI m)), (1, .int (iI p)), (0, .ref b)]) dX12_oneRoutine_152 (by decide) rfl ?_
            refine tm_sub [0, 1, 2, 3, 4] rfl (l_dup (d + 4) (σ0 := σ) (m := m) (mo := mo) (p := p) hR hpb.2.2.1 (by omega) (by omega) (fun i49 σ50 F44 R45 f46 f47 f48 => ?_) _ (0) σ Fr.rfl hR (by omega) (FLT.eq rfl) (fun _ j a c => absurd c (by omega)) DPN.zero rfl)
            show Tm _ _ 213 b σ50 [(4, .int (iI i49)), (3, .int (iI mo)), (2, .int (iI m)), (1, .int (iI p)), (0, .ref b)] [] _
            have du0 := f46
            have du1 := f47
            have du2 := f48
            refine tm_aload_n dX12_oneRoutine_213 rfl 4 rfl ?_
            refine tm_aload_n dX12_oneRoutine_214 rfl 4 rfl ?_
            refine tm_getW (t := σ.2.2 24 0) dX12_oneRoutine_215 fl12_219 (rj_F F44 (by decide) (rfl)) ?_
            refine tm_aload_n dX12_oneRoutine_218 rfl 4 rfl ?_
            refine tm_getS (k := 19) (t := σ.1 19) dX12_oneRoutine_219 (by decide) fl12_216 rfl (rs_F F44 (by decide) (rfl)) ?_
            have g51 := RG.s hR 19
            refine tm_callV (M := m_X12_oneRoutine) (pc := 222) (ix := 323) (M' := m_X12_nameOf) (As := [.long (σ.2.2 24 0), .int (iI (σ.1 19))]) (rest := []) dX12_oneRoutine_222 ok_X12_nameOf im_X12_nameOf se_X12_nameOf ml12_323 np_X12_nameOf rfl rfl (Nat.le_of_ble_eq_true rfl) (Nat.le_of_ble_eq_true rfl) rfl (c2_X12_nameOf (d + 4) (σ := σ50) (w := σ.2.2 24 0) (p := σ.1 19) R45 (hpb.2.2.1.fr (show Fr [26, 27] [] [] σ σ50 from (Fr.rfl.trans (Fr.sub F44 (by decide) (by decide) (by decide)))) (by decide)) (by rw [(show Fr [26, 27] [] [] σ σ50 from (Fr.rfl.trans (Fr.sub F44 (by decide) (by decide) (by decide)))).1 30 (by decide)]; omega) (by omega)) (fun r52 σ53 hp => ?_)
            obtain ⟨v54, rfl, f55, f56, f57, f58, f59, f60⟩ := hp
            show Tm _ _ 225 b σ53 [(4, .int (iI i49)), (3, .int (iI mo)), (2, .int (iI m)), (1, .int (iI p)), (0, .ref b)] [.int (iI v54)] _
            refine tm_istore (L' := [(4, .int (iI v54)), (3, .int (iI mo)), (2, .int (iI m)), (1, .int (iI p)), (0, .ref b)]) dX12_oneRoutine_225 (by decide) rfl ?_
            have nn4 := f60
            have srp : srt σ53 = srt (paP (σ.2.2 24 0) (σ.1 19) m σ) := by rw [paP_1 (by omega), ifP_f (by omega)]; exact congrArg srt ((f59).trans (congrArg (nmP (σ.2.2 24 0) (σ.1 19)) (du2.trans rfl)))
            have fn := (show Fr [26, 27] [35] [38] σ σ53 from ((Fr.rfl.trans (Fr.sub F44 (by decide) (by decide) (by decide))).trans (Fr.sub f55 (by decide) (by decide) (by decide))))
            have f13 := (show Fr [26, 27] [] [] σ σ50 from (Fr.rfl.trans (Fr.sub F44 (by decide) (by decide) (by decide))))
            have pbn : PBF σ σ53 := (PBF.of hpb.2.2.1 f13 (by decide) (by decide) (by decide) du0).trans f57
            have mn2 : PMN ρ σ53 (m + 1) := fun z1 z2 z3 => by
              have y1 : σ50.1 26 = 0 := Classical.byContradiction (fun y => f57.2.2.2.2.1.1 y z3)
              have y2 : σ.1 26 = 0 := Classical.byContradiction (fun y => du0.1 y y1)
              have y3 := hmn z1 z2 y2
              have y4 := nn4 ((f13.1 25 (by decide)).trans (by omega)) (by rw [f13.1 30 (by decide)]; omega) (by rw [f13.1 30 (by decide), f13.2.1 35 (by decide), f13.2.2 38 (by decide)]; exact du1 y1 (by omega)) z3
              rw [f13.1 30 (by decide), f13.2.1 35 (by decide), e30p] at y4
              omega
            refine tm_iinc (q0 := 2) (L' := [(2, .int (iI (m + 1))), (4, .int (iI v54)), (3, .int (iI mo)), (1, .int (iI p)), (0, .ref b)]) dX12_oneRoutine_227 rfl (by decide) rfl ?_
            refine tm_aload_n dX12_oneRoutine_230 rfl 4 rfl ?_
            refine tm_callV (M := m_X12_oneRoutine) (pc := 231) (ix := 265) (M' := m_X12_advance) (As := []) (rest := []) dX12_oneRoutine_231 ok_X12_advance im_X12_advance se_X12_advance ml12_265 np_X12_advance rfl rfl (Nat.le_of_ble_eq_true rfl) (Nat.le_of_ble_eq_true rfl) rfl (c_X12_advance (d + 1) (σ := σ53)  f56 (by rw [fn.1 20 (by decide), fn.1 21 (by decide)]; omega)) (fun r61 σ62 hp => ?_)
            obtain ⟨rfl, f64, f65, f66, f67, f68⟩ := hp
            show Tm _ _ 234 b σ62 [(2, .int (iI (m + 1))), (4, .int (iI v54)), (3, .int (iI mo)), (1, .int (iI p)), (0, .ref b)] [] _
            have av0 := f64
            have av1 := f65
            have av2 := f66
            have av3 := f67
            have av4 := f68
            have gx2 : GOX [30] ρ (qq 0) [33] σ62 (0, 0, 0, m + 1, ρ.1 19) := gx.nxt (fun x => g32 (σ := sS 34 x σ) (τ := sS 34 x σ62) (q := (0, 0, 0, m, ρ.1 19)) nmw (show tks σ62 = advT (sv σ) (σ.1 20) by rw [av0.1, sv_fr fn (by decide) (by decide), fn.1 20 (by decide)]) (show (σ62.1 28, σ62.1 29, x) = (σ.1 28, σ.1 29, x) by rw [av1.1 28 (by decide), av1.1 29 (by decide), fn.1 28 (by decide), fn.1 29 (by decide)]) (show sv σ62 = sv σ by rw [av0.2.2.1, sv_fr fn (by decide) (by decide)]) (EFF.para ((show srt (sS 34 x σ62) = _ from av0.2.2.2).trans (srp.trans (srt_pa (A := σ) (σ := sS 34 x σ) rfl)))))
            have pb3 := pbn.trans (PBF.nop pbn.2.2.1 av1 (by decide) (by decide) (by decide) : PBF _ σ62)
            have pl3 : σ.1 19 < σ62.1 19 := by have z := av4; rw [fn.1 20 (by decide)] at z; omega
            have tk3 := av3.1
            have mn3 : PMN ρ σ62 (m + 1) := fun z1 z2 z3 => by rw [av1.2.1 35 (by decide)]; exact mn2 z1 z2 (by rw [av1.1 26 (by decide)] at z3; exact z3)
            refine tm_aload_n dX12_oneRoutine_234 rfl 4 rfl ?_
            refine tm_bipush dX12_oneRoutine_235 (by decide) ?_
            refine tm_callV (M := m_X12_oneRoutine) (pc := 237) (ix := 258) (M' := m_X12_isSign) (As := [.int (iI 44)]) (rest := []) dX12_oneRoutine_237 ok_X12_isSign im_X12_isSign se_X12_isSign ml12_258 np_X12_isSign rfl rfl (Nat.le_of_ble_eq_true rfl) (Nat.le_of_ble_eq_true rfl) rfl (c2_X12_isSign (d + 5) (σ := σ62) (c := 44) f66 (by omega)) (fun r69 σ70 hp => ?_)
            obtain ⟨v71, rfl, rfl, f72, f73, f74⟩ := hp
            show Tm _ _ 240 b σ62 [(2, .int (iI (m + 1))), (4, .int (iI v54)), (3, .int (iI mo)), (1, .int (iI p)), (0, .ref b)] [.int (iI v71)] _
            have i44 := f73
            have n44_ := f74
            refine tm_istore_n (L' := [(3, .int (iI v71)), (2, .int (iI (m + 1))), (4, .int (iI v54)), (1, .int (iI p)), (0, .ref b)]) dX12_oneRoutine_240 rfl (by decide) rfl ?_
            refine tm_iload_n dX12_oneRoutine_241 rfl 0 rfl ?_
            refine tm_if_eq (tgt := 113) dX12_oneRoutine_242 (by decide) ⟨by omega, by omega⟩ (fun h75 => ?_) (fun h75 => ?_)
            · exact tm_sub [0, 1, 3, 4] rfl (ih _ (by omega) (m + 1) (v71) σ62 ((((Fr.rfl.trans (Fr.sub hF (by decide) (by decide) (by decide))).trans (Fr.sub F44 (by decide) (by decide) (by decide))).trans (Fr.sub f55 (by decide) (by decide) (by decide))).trans (Fr.sub f65 (by decide) (by decide) (by decide))) f66 (by omega) av3 (hpb.trans pb3) (⟨fun q => absurd q (by omega), fun _ => Or.inr ⟨gx2, n44_ (by omega)⟩⟩) mn3 (by omega) rfl)
            · refine tm_aload_n dX12_oneRoutine_245 rfl 4 rfl ?_
              refine tm_callV (M := m_X12_oneRoutine) (pc := 246) (ix := 265) (M' := m_X12_advance) (As := []) (rest := []) dX12_oneRoutine_246 ok_X12_advance im_X12_advance se_X12_advance ml12_265 np_X12_advance rfl rfl (Nat.le_of_ble_eq_true rfl) (Nat.le_of_ble_eq_true rfl) rfl (c_X12_advance (d + 1) (σ := σ62)  f66 (by omega)) (fun r76 σ77 hp => ?_)
              obtain ⟨rfl, f79, f80, f81, f82, f83⟩ := hp
              show Tm _ _ 249 b σ77 [(3, .int (iI v71)), (2, .int (iI (m + 1))), (4, .int (iI v54)), (1, .int (iI p)), (0, .ref b)] [] _
              refine tm_goto (tgt := 113) dX12_oneRoutine_249 (by decide) ?_
              exact tm_sub [0, 1, 3, 4] rfl (ih _ (by have z := f83; have z2 := f82.1; omega) (m + 1) (v71) σ77 (((((Fr.rfl.trans (Fr.sub hF (by decide) (by decide) (by decide))).trans (Fr.sub F44 (by decide) (by decide) (by decide))).trans (Fr.sub f55 (by decide) (by decide) (by decide))).trans (Fr.sub f65 (by decide) (by decide) (by decide))).trans (Fr.sub f80 (by decide) (by decide) (by decide))) f81 (by have z := f83; have z2 := f82.1; omega) f82 (hpb.trans (pb3.trans (PBF.nop pb3.2.2.1 f80 (by decide) (by decide) (by decide)))) (⟨fun _ => gx2.nxt (fun x => g33y (i44 (by omega)) (f79.any x)), fun q => absurd q (by omega)⟩) (fun z1 z2 z3 => by rw [f80.2.1 35 (by decide)]; exact mn3 z1 z2 (by rw [f80.1 26 (by decide)] at z3; exact z3)) (by have z := f83; have z2 := f82.1; omega) rfl)
          · refine tm_aload_n dX12_oneRoutine_142 rfl 3 rfl ?_
            refine tm_iconst dX12_oneRoutine_143 ?_
            refine tm_aload_n dX12_oneRoutine_144 rfl 3 rfl ?_
            refine tm_getS (k := 19) (t := σ.1 19) dX12_oneRoutine_145 (by decide) fl12_216 rfl (rfl) ?_
            have g84 := RG.s hR 19
            refine tm_callV (M := m_X12_oneRoutine) (pc := 148) (ix := 274) (M' := m_X12_note) (As := [.int (iI 5), .int (iI (σ.1 19))]) (rest := []) dX12_oneRoutine_148 ok_X12_note im_X12_note se_X12_note ml12_274 np_X12_note rfl rfl (Nat.le_of_ble_eq_true rfl) (Nat.le_of_ble_eq_true rfl) rfl (c2_X12_note (d + 5) (σ := σ) (f := 5) (p := σ.1 19) hR (by omega) (by omega)) (fun r85 σ86 hp => ?_)
            obtain ⟨rfl, f88, f89, f90, f91, f92⟩ := hp
            show Tm _ _ 151 b σ86 [(3, .int (iI mo)), (2, .int (iI m)), (1, .int (iI p)), (0, .ref b)] [] _
            have n4f := f90
            have n4n : σ86.1 26 ≠ 0 := f91 (by omega)
            have n4e : σ86 = ntP 5 (σ.1 19) σ := f92
            clear f91
            refine tm_iconst dX12_oneRoutine_151 ?_
            refine tm_istore (L' := [(4, .int (iI 0)), (3, .int (iI mo)), (2, .int (iI m)), (1, .int (iI p)), (0, .ref b)]) dX12_oneRoutine_152 (by decide) rfl ?_
            refine tm_sub [0, 1, 2, 3, 4] rfl (l_dup (d + 4) (σ0 := σ86) (m := m) (mo := mo) (p := p) f89 (hpb.2.2.1.fr f88 (by decide)) (by rw [f88.1 30 (by decide)]; omega) (by rw [f88.1 25 (by decide)]; omega) (fun i100 σ101 F95 R96 f97 f98 f99 => ?_) _ (0) σ86 Fr.rfl f89 (by omega) (FLT.eq rfl) (fun _ j a c => absurd c (by omega)) DPN.zero rfl)
            show Tm _ _ 213 b σ101 [(4, .int (iI i100)), (3, .int (iI mo)), (2, .int (iI m)), (1, .int (iI p)), (0, .ref b)] [] _
            have du0 := f97
            have du1 := f98
            have du2 := f99
            refine tm_aload_n dX12_oneRoutine_213 rfl 4 rfl ?_
            refine tm_aload_n dX12_oneRoutine_214 rfl 4 rfl ?_
            refine tm_getW (t := σ.2.2 24 0) dX12_oneRoutine_215 fl12_219 (rj_F F95 (by decide) (rj_F f88 (by decide) (rfl))) ?_
            refine tm_aload_n dX12_oneRoutine_218 rfl 4 rfl ?_
            refine tm_getS (k := 19) (t := σ.1 19) dX12_oneRoutine_219 (by decide) fl12_216 rfl (rs_F F95 (by decide) (rs_F f88 (by decide) (rfl))) ?_
            have g102 := RG.s hR 19
            refine tm_callV (M := m_X12_oneRoutine) (pc := 222) (ix := 323) (M' := m_X12_nameOf) (As := [.long (σ.2.2 24 0), .int (iI (σ.1 19))]) (rest := []) dX12_oneRoutine_222 ok_X12_nameOf im_X12_nameOf se_X12_nameOf ml12_323 np_X12_nameOf rfl rfl (Nat.le_of_ble_eq_true rfl) (Nat.le_of_ble_eq_true rfl) rfl (c2_X12_nameOf (d + 4) (σ := σ101) (w := σ.2.2 24 0) (p := σ.1 19) R96 (hpb.2.2.1.fr (show Fr [26, 27] [] [] σ σ101 from ((Fr.rfl.trans (Fr.sub f88 (by decide) (by decide) (by decide))).trans (Fr.sub F95 (by decide) (by decide) (by decide)))) (by decide)) (by rw [(show Fr [26, 27] [] [] σ σ101 from ((Fr.rfl.trans (Fr.sub f88 (by decide) (by decide) (by decide))).trans (Fr.sub F95 (by decide) (by decide) (by decide)))).1 30 (by decide)]; omega) (by omega)) (fun r103 σ104 hp => ?_)
            obtain ⟨v105, rfl, f106, f107, f108, f109, f110, f111⟩ := hp
            show Tm _ _ 225 b σ104 [(4, .int (iI i100)), (3, .int (iI mo)), (2, .int (iI m)), (1, .int (iI p)), (0, .ref b)] [.int (iI v105)] _
            refine tm_istore (L' := [(4, .int (iI v105)), (3, .int (iI mo)), (2, .int (iI m)), (1, .int (iI p)), (0, .ref b)]) dX12_oneRoutine_225 (by decide) rfl ?_
            have nn4 := f111
            have srp : srt σ104 = srt (paP (σ.2.2 24 0) (σ.1 19) m σ) := by rw [paP_1 (by omega), ifP_t (by omega)]; exact congrArg srt ((f110).trans (congrArg (nmP (σ.2.2 24 0) (σ.1 19)) (du2.trans (by rw [n4e, show (ntP 5 (σ.1 19) σ).1 19 = σ.1 19 from ntP_fr.1 19 (by decide)]))))
            have fn := (show Fr [26, 27] [35] [38] σ σ104 from (((Fr.rfl.trans (Fr.sub f88 (by decide) (by decide) (by decide))).trans (Fr.sub F95 (by decide) (by decide) (by decide))).trans (Fr.sub f106 (by decide) (by decide) (by decide))))
            have f13 := (show Fr [26, 27] [] [] σ σ101 from ((Fr.rfl.trans (Fr.sub f88 (by decide) (by decide) (by decide))).trans (Fr.sub F95 (by decide) (by decide) (by decide))))
            have pbn : PBF σ σ104 := (PBF.of hpb.2.2.1 f13 (by decide) (by decide) (by decide) (n4f.trans du0)).trans f108
            have mn2 : PMN ρ σ104 (m + 1) := fun z1 z2 z3 => by
              have y1 : σ101.1 26 = 0 := Classical.byContradiction (fun y => f108.2.2.2.2.1.1 y z3)
              have y2 : σ86.1 26 = 0 := Classical.byContradiction (fun y => du0.1 y y1)
              exact absurd y2 n4n
            refine tm_iinc (q0 := 2) (L' := [(2, .int (iI (m + 1))), (4, .int (iI v105)), (3, .int (iI mo)), (1, .int (iI p)), (0, .ref b)]) dX12_oneRoutine_227 rfl (by decide) rfl ?_
            refine tm_aload_n dX12_oneRoutine_230 rfl 4 rfl ?_
            refine tm_callV (M := m_X12_oneRoutine) (pc := 231) (ix := 265) (M' := m_X12_advance) (As := []) (rest := []) dX12_oneRoutine_231 ok_X12_advance im_X12_advance se_X12_advance ml12_265 np_X12_advance rfl rfl (Nat.le_of_ble_eq_true rfl) (Nat.le_of_ble_eq_true rfl) rfl (c_X12_advance (d + 1) (σ := σ104)  f107 (by rw [fn.1 20 (by decide), fn.1 21 (by decide)]; omega)) (fun r112 σ113 hp => ?_)
            obtain ⟨rfl, f115, f116, f117, f118, f119⟩ := hp
            show Tm _ _ 234 b σ113 [(2, .int (iI (m + 1))), (4, .int (iI v105)), (3, .int (iI mo)), (1, .int (iI p)), (0, .ref b)] [] _
            have av0 := f115
            have av1 := f116
            have av2 := f117
            have av3 := f118
            have av4 := f119
            have gx2 : GOX [30] ρ (qq 0) [33] σ113 (0, 0, 0, m + 1, ρ.1 19) := gx.nxt (fun x => g32 (σ := sS 34 x σ) (τ := sS 34 x σ113) (q := (0, 0, 0, m, ρ.1 19)) nmw (show tks σ113 = advT (sv σ) (σ.1 20) by rw [av0.1, sv_fr fn (by decide) (by decide), fn.1 20 (by decide)]) (show (σ113.1 28, σ113.1 29, x) = (σ.1 28, σ.1 29, x) by rw [av1.1 28 (by decide), av1.1 29 (by decide), fn.1 28 (by decide), fn.1 29 (by decide)]) (show sv σ113 = sv σ by rw [av0.2.2.1, sv_fr fn (by decide) (by decide)]) (EFF.para ((show srt (sS 34 x σ113) = _ from av0.2.2.2).trans (srp.trans (srt_pa (A := σ) (σ := sS 34 x σ) rfl)))))
            have pb3 := pbn.trans (PBF.nop pbn.2.2.1 av1 (by decide) (by decide) (by decide) : PBF _ σ113)
            have pl3 : σ.1 19 < σ113.1 19 := by have z := av4; rw [fn.1 20 (by decide)] at z; omega
            have tk3 := av3.1
            have mn3 : PMN ρ σ113 (m + 1) := fun z1 z2 z3 => by rw [av1.2.1 35 (by decide)]; exact mn2 z1 z2 (by rw [av1.1 26 (by decide)] at z3; exact z3)
            refine tm_aload_n dX12_oneRoutine_234 rfl 4 rfl ?_
            refine tm_bipush dX12_oneRoutine_235 (by decide) ?_
            refine tm_callV (M := m_X12_oneRoutine) (pc := 237) (ix := 258) (M' := m_X12_isSign) (As := [.int (iI 44)]) (rest := []) dX12_oneRoutine_237 ok_X12_isSign im_X12_isSign se_X12_isSign ml12_258 np_X12_isSign rfl rfl (Nat.le_of_ble_eq_true rfl) (Nat.le_of_ble_eq_true rfl) rfl (c2_X12_isSign (d + 5) (σ := σ113) (c := 44) f117 (by omega)) (fun r120 σ121 hp => ?_)
            obtain ⟨v122, rfl, rfl, f123, f124, f125⟩ := hp
            show Tm _ _ 240 b σ113 [(2, .int (iI (m + 1))), (4, .int (iI v105)), (3, .int (iI mo)), (1, .int (iI p)), (0, .ref b)] [.int (iI v122)] _
            have i44 := f124
            have n44_ := f125
            refine tm_istore_n (L' := [(3, .int (iI v122)), (2, .int (iI (m + 1))), (4, .int (iI v105)), (1, .int (iI p)), (0, .ref b)]) dX12_oneRoutine_240 rfl (by decide) rfl ?_
            refine tm_iload_n dX12_oneRoutine_241 rfl 0 rfl ?_
            refine tm_if_eq (tgt := 113) dX12_oneRoutine_242 (by decide) ⟨by omega, by omega⟩ (fun h126 => ?_) (fun h126 => ?_)
            · exact tm_sub [0, 1, 3, 4] rfl (ih _ (by omega) (m + 1) (v122) σ113 (((((Fr.rfl.trans (Fr.sub hF (by decide) (by decide) (by decide))).trans (Fr.sub f88 (by decide) (by decide) (by decide))).trans (Fr.sub F95 (by decide) (by decide) (by decide))).trans (Fr.sub f106 (by decide) (by decide) (by decide))).trans (Fr.sub f116 (by decide) (by decide) (by decide))) f117 (by omega) av3 (hpb.trans pb3) (⟨fun q => absurd q (by omega), fun _ => Or.inr ⟨gx2, n44_ (by omega)⟩⟩) mn3 (by omega) rfl)
            · refine tm_aload_n dX12_oneRoutine_245 rfl 4 rfl ?_
              refine tm_callV (M := m_X12_oneRoutine) (pc := 246) (ix := 265) (M' := m_X12_advance) (As := []) (rest := []) dX12_oneRoutine_246 ok_X12_advance im_X12_advance se_X12_advance ml12_265 np_X12_advance rfl rfl (Nat.le_of_ble_eq_true rfl) (Nat.le_of_ble_eq_true rfl) rfl (c_X12_advance (d + 1) (σ := σ113)  f117 (by omega)) (fun r127 σ128 hp => ?_)
              obtain ⟨rfl, f130, f131, f132, f133, f134⟩ := hp
              show Tm _ _ 249 b σ128 [(3, .int (iI v122)), (2, .int (iI (m + 1))), (4, .int (iI v105)), (1, .int (iI p)), (0, .ref b)] [] _
              refine tm_goto (tgt := 113) dX12_oneRoutine_249 (by decide) ?_
              exact tm_sub [0, 1, 3, 4] rfl (ih _ (by have z := f134; have z2 := f133.1; omega) (m + 1) (v122) σ128 ((((((Fr.rfl.trans (Fr.sub hF (by decide) (by decide) (by decide))).trans (Fr.sub f88 (by decide) (by decide) (by decide))).trans (Fr.sub F95 (by decide) (by decide) (by decide))).trans (Fr.sub f106 (by decide) (by decide) (by decide))).trans (Fr.sub f116 (by decide) (by decide) (by decide))).trans (Fr.sub f131 (by decide) (by decide) (by decide))) f132 (by have z := f134; have z2 := f133.1; omega) f133 (hpb.trans (pb3.trans (PBF.nop pb3.2.2.1 f131 (by decide) (by decide) (by decide)))) (⟨fun _ => gx2.nxt (fun x => g33y (i44 (by omega)) (f130.any x)), fun q => absurd q (by omega)⟩) (fun z1 z2 z3 => by rw [f131.2.1 35 (by decide)]; exact mn3 z1 z2 (by rw [f131.1 26 (by decide)] at z3; exact z3)) (by have z := f134; have z2 := f133.1; omega) rfl)
      · refine tm_aload_n dX12_oneRoutine_124 rfl 3 rfl ?_
        refine tm_callV (M := m_X12_oneRoutine) (pc := 125) (ix := 261) (M' := m_X12_wrong) (As := []) (rest := []) dX12_oneRoutine_125 ok_X12_wrong im_X12_wrong se_X12_wrong ml12_261 np_X12_wrong rfl rfl (Nat.le_of_ble_eq_true rfl) (Nat.le_of_ble_eq_true rfl) rfl (c_X12_wrong (d + 5) (σ := σ)  hR) (fun r135 σ136 hp => ?_)
        obtain ⟨v137, rfl, f138, f139, f140, f141, f142, f143⟩ := hp
        show Tm _ _ 128 b σ136 [(3, .int (iI mo)), (2, .int (iI m)), (1, .int (iI p)), (0, .ref b)] [.int (iI v137)] _
        exact tm_zret (v := v137) rfl (by omega) dX12_oneRoutine_128 (hr0 _ _ f138 ((Fr.rfl.trans (Fr.sub hF (by decide) (by decide) (by decide))).trans (Fr.sub f139 (by decide) (by decide) (by decide))) f140 (hpb.trans (PBF.of hpb.2.2.1 f139 (by decide) (by decide) (by decide) (FLT.wr f142 f143))) ((hgx.1 (by omega)).fail (fun x => g32f (σ := sS 34 x σ) (nnm_ (by omega)) ((WRG.of f143).x x))))
end
section
theorem dX12_oneRoutine_298 : decode cX12_oneRoutine 298 = .ok (.aload_n 0, 1) := by decide +kernel
theorem dX12_oneRoutine_299 : decode cX12_oneRoutine 299 = .ok (.bipush 41, 2) := by decide +kernel
theorem dX12_oneRoutine_301 : decode cX12_oneRoutine 301 = .ok (.invokevirtual 330, 3) := by decide +kernel
theorem dX12_oneRoutine_304 : decode cX12_oneRoutine 304 = .ok (.ifCond .ne 5, 3) := by decide +kernel
theorem dX12_oneRoutine_309 : decode cX12_oneRoutine 309 = .ok (.aload_n 0, 1) := by decide +kernel
theorem dX12_oneRoutine_310 : decode cX12_oneRoutine 310 = .ok (.aload_n 0, 1) := by decide +kernel
theorem dX12_oneRoutine_311 : decode cX12_oneRoutine 311 = .ok (.invokevirtual 271, 3) := by decide +kernel
theorem dX12_oneRoutine_314 : decode cX12_oneRoutine 314 = .ok (.ifCond .eq 15, 3) := by decide +kernel
theorem dX12_oneRoutine_329 : decode cX12_oneRoutine 329 = .ok (.iconst 0, 1) := by decide +kernel
theorem dX12_oneRoutine_330 : decode cX12_oneRoutine 330 = .ok (.putfield 291, 3) := by decide +kernel
theorem dX12_oneRoutine_333 : decode cX12_oneRoutine 333 = .ok (.aload_n 0, 1) := by decide +kernel
theorem dX12_oneRoutine_334 : decode cX12_oneRoutine 334 = .ok (.iconst 0, 1) := by decide +kernel
theorem dX12_oneRoutine_335 : decode cX12_oneRoutine 335 = .ok (.putfield 370, 3) := by decide +kernel
theorem dX12_oneRoutine_338 : decode cX12_oneRoutine 338 = .ok (.aload_n 0, 1) := by decide +kernel
theorem dX12_oneRoutine_339 : decode cX12_oneRoutine 339 = .ok (.iconst 0, 1) := by decide +kernel
theorem dX12_oneRoutine_340 : decode cX12_oneRoutine 340 = .ok (.putfield 278, 3) := by decide +kernel
theorem dX12_oneRoutine_343 : decode cX12_oneRoutine 343 = .ok (.aload_n 0, 1) := by decide +kernel
theorem dX12_oneRoutine_344 : decode cX12_oneRoutine 344 = .ok (.invokevirtual 373, 3) := by decide +kernel
theorem dX12_oneRoutine_347 : decode cX12_oneRoutine 347 = .ok (.ifCond .ne 5, 3) := by decide +kernel
theorem dX12_oneRoutine_352 : decode cX12_oneRoutine 352 = .ok (.aload_n 0, 1) := by decide +kernel
theorem dX12_oneRoutine_353 : decode cX12_oneRoutine 353 = .ok (.bipush 7, 2) := by decide +kernel
theorem dX12_oneRoutine_355 : decode cX12_oneRoutine 355 = .ok (.iconst 0, 1) := by decide +kernel
theorem dX12_oneRoutine_356 : decode cX12_oneRoutine 356 = .ok (.iconst 0, 1) := by decide +kernel
theorem dX12_oneRoutine_357 : decode cX12_oneRoutine 357 = .ok (.invokevirtual 294, 3) := by decide +kernel
theorem dX12_oneRoutine_360 : decode cX12_oneRoutine 360 = .ok (.istore 4, 2) := by decide +kernel
theorem dX12_oneRoutine_362 : decode cX12_oneRoutine 362 = .ok (.aload_n 0, 1) := by decide +kernel
theorem dX12_oneRoutine_363 : decode cX12_oneRoutine 363 = .ok (.iload 4, 2) := by decide +kernel
theorem dX12_oneRoutine_365 : decode cX12_oneRoutine 365 = .ok (.iconst 0, 1) := by decide +kernel
theorem dX12_oneRoutine_366 : decode cX12_oneRoutine 366 = .ok (.iconst 1, 1) := by decide +kernel
theorem dX12_oneRoutine_367 : decode cX12_oneRoutine 367 = .ok (.iconst 0, 1) := by decide +kernel
theorem dX12_oneRoutine_368 : decode cX12_oneRoutine 368 = .ok (.invokevirtual 298, 3) := by decide +kernel
theorem dX12_oneRoutine_371 : decode cX12_oneRoutine 371 = .ok (.aload_n 0, 1) := by decide +kernel
theorem dX12_oneRoutine_372 : decode cX12_oneRoutine 372 = .ok (.getfield 255, 3) := by decide +kernel
theorem dX12_oneRoutine_375 : decode cX12_oneRoutine 375 = .ok (.iconst 2, 1) := by decide +kernel
theorem dX12_oneRoutine_376 : decode cX12_oneRoutine 376 = .ok (.if_icmp .ne 18, 3) := by decide +kernel
theorem dX12_oneRoutine_394 : decode cX12_oneRoutine 394 = .ok (.aload_n 0, 1) := by decide +kernel
theorem dX12_oneRoutine_395 : decode cX12_oneRoutine 395 = .ok (.getfield 255, 3) := by decide +kernel
theorem dX12_oneRoutine_398 : decode cX12_oneRoutine 398 = .ok (.iconst 3, 1) := by decide +kernel
theorem dX12_oneRoutine_399 : decode cX12_oneRoutine 399 = .ok (.if_icmp .ne 16, 3) := by decide +kernel
theorem dX12_oneRoutine_415 : decode cX12_oneRoutine 415 = .ok (.aload_n 0, 1) := by decide +kernel
theorem dX12_oneRoutine_416 : decode cX12_oneRoutine 416 = .ok (.dup, 1) := by decide +kernel
theorem dX12_oneRoutine_417 : decode cX12_oneRoutine 417 = .ok (.getfield 268, 3) := by decide +kernel
theorem dX12_oneRoutine_420 : decode cX12_oneRoutine 420 = .ok (.iconst 1, 1) := by decide +kernel
theorem dX12_oneRoutine_421 : decode cX12_oneRoutine 421 = .ok (.iadd, 1) := by decide +kernel
theorem dX12_oneRoutine_422 : decode cX12_oneRoutine 422 = .ok (.putfield 268, 3) := by decide +kernel
theorem dX12_oneRoutine_425 : decode cX12_oneRoutine 425 = .ok (.iconst 1, 1) := by decide +kernel
theorem dX12_oneRoutine_426 : decode cX12_oneRoutine 426 = .ok (.ireturn, 1) := by decide +kernel
theorem dX12_oneRoutine_402 : decode cX12_oneRoutine 402 = .ok (.aload_n 0, 1) := by decide +kernel
theorem dX12_oneRoutine_403 : decode cX12_oneRoutine 403 = .ok (.getfield 32, 3) := by decide +kernel
theorem dX12_oneRoutine_406 : decode cX12_oneRoutine 406 = .ok (.aload_n 0, 1) := by decide +kernel
theorem dX12_oneRoutine_407 : decode cX12_oneRoutine 407 = .ok (.getfield 268, 3) := by decide +kernel
theorem dX12_oneRoutine_410 : decode cX12_oneRoutine 410 = .ok (.aload_n 0, 1) := by decide +kernel
theorem dX12_oneRoutine_411 : decode cX12_oneRoutine 411 = .ok (.getfield 278, 3) := by decide +kernel
theorem dX12_oneRoutine_414 : decode cX12_oneRoutine 414 = .ok (.iastore, 1) := by decide +kernel
theorem dX12_oneRoutine_379 : decode cX12_oneRoutine 379 = .ok (.aload_n 0, 1) := by decide +kernel
theorem dX12_oneRoutine_380 : decode cX12_oneRoutine 380 = .ok (.getfield 278, 3) := by decide +kernel
theorem dX12_oneRoutine_383 : decode cX12_oneRoutine 383 = .ok (.bipush 120, 2) := by decide +kernel
theorem dX12_oneRoutine_385 : decode cX12_oneRoutine 385 = .ok (.if_icmp .le 9, 3) := by decide +kernel
theorem dX12_oneRoutine_388 : decode cX12_oneRoutine 388 = .ok (.aload_n 0, 1) := by decide +kernel
theorem dX12_oneRoutine_389 : decode cX12_oneRoutine 389 = .ok (.iconst 5, 1) := by decide +kernel
theorem dX12_oneRoutine_390 : decode cX12_oneRoutine 390 = .ok (.iload_n 1, 1) := by decide +kernel
theorem dX12_oneRoutine_391 : decode cX12_oneRoutine 391 = .ok (.invokevirtual 274, 3) := by decide +kernel
theorem dX12_oneRoutine_350 : decode cX12_oneRoutine 350 = .ok (.iconst 0, 1) := by decide +kernel
theorem dX12_oneRoutine_351 : decode cX12_oneRoutine 351 = .ok (.ireturn, 1) := by decide +kernel
theorem dX12_oneRoutine_317 : decode cX12_oneRoutine 317 = .ok (.aload_n 0, 1) := by decide +kernel
theorem dX12_oneRoutine_318 : decode cX12_oneRoutine 318 = .ok (.getfield 63, 3) := by decide +kernel
theorem dX12_oneRoutine_321 : decode cX12_oneRoutine 321 = .ok (.aload_n 0, 1) := by decide +kernel
theorem dX12_oneRoutine_322 : decode cX12_oneRoutine 322 = .ok (.getfield 268, 3) := by decide +kernel
theorem dX12_oneRoutine_325 : decode cX12_oneRoutine 325 = .ok (.iaload, 1) := by decide +kernel
theorem dX12_oneRoutine_326 : decode cX12_oneRoutine 326 = .ok (.goto 4, 3) := by decide +kernel
theorem dX12_oneRoutine_307 : decode cX12_oneRoutine 307 = .ok (.iconst 0, 1) := by decide +kernel
theorem dX12_oneRoutine_308 : decode cX12_oneRoutine 308 = .ok (.ireturn, 1) := by decide +kernel
set_option maxHeartbeats 4000000 in
set_option maxRecDepth 20000 in
theorem b_one298 (d : Nat) {b : Nat} {σ : MS} {p : Int} {m : Int} {ρ : MS} {post : Option Value → MS → Prop} (hR : RG σ) (hoh : ORH ρ) (hd : HD ρ σ) (htk : TOK σ) (hgx : GOX [30] ρ (qq 0) [141, 35] σ (0, 0, 0, m, ρ.1 19)) (hpa : PAM ρ σ) (hpl : ρ.1 19 + 2 ≤ σ.1 19) (hp : p = ρ.1 19) (h_p : -2147483648 ≤ p ∧ p ≤ 2147483647) (hret : ∀ (v : Int) (τ : MS), Fr [19, 20, 22, 23, 26, 27, 28, 29, 30, 31, 32, 33, 34, 39, 40, 43] [3, 4, 5, 6, 7, 8, 9, 35, 36, 37, 41, 42, 45] [24, 38, 44] ρ τ → RG τ → (v = 0 ∨ v = 1) → PBO ρ τ → (v = 1 → ORQ ρ τ) → (v = 0 → ∀ x, GOF [30] (sS 34 x ρ) (qq 0) τ) → post (some (.int (iI v))) τ) : ∀ (n : Nat) , ((0 : Int)).toNat = n → Tm (d + 63) m_X12_oneRoutine 298 b σ [(2, .int (iI m)), (1, .int (iI p)), (0, .ref b)] [] post := by
  intro n
  induction n using Nat.strongRecOn with
  | _ n ih =>
    intro   hm
    have ohr := hoh
    have tkh := htk.1
    have e25h : σ.1 25 = ρ.1 25 := hd.1.1 25 (by decide)
    have e30h : σ.1 30 = ρ.1 30 := hd.1.1 30 (by decide)
    have oh25 := hoh.2.1
    have oh30 := hoh.2.2.1
    have oh31 := hoh.2.2.2.1
    have e31h : σ.1 31 = ρ.1 31 := hd.1.1 31 (by decide)
    have oht := hoh.1.1
    refine tm_aload_n dX12_oneRoutine_298 rfl 2 rfl ?_
    refine tm_bipush dX12_oneRoutine_299 (by decide) ?_
    refine tm_callV (M := m_X12_oneRoutine) (pc := 301) (ix := 330) (M' := m_X12_need) (As := [.int (iI 41)]) (rest := []) dX12_oneRoutine_301 ok_X12_need im_X12_need se_X12_need ml12_330 np_X12_need rfl rfl (Nat.le_of_ble_eq_true rfl) (Nat.le_of_ble_eq_true rfl) rfl (c_X12_need (d + 56) (σ := σ) (c := 41) hR (by omega) (by omega)) (fun r1 σ2 hp => ?_)
    obtain ⟨v3, rfl, f4, f5, f6, f7, f8, f9, f10⟩ := hp
    show Tm _ _ 304 b σ2 [(2, .int (iI m)), (1, .int (iI p)), (0, .ref b)] [.int (iI v3)] _
    have yn0 := f4
    have yn1 := f5
    have yn2 := f6
    have yn3 := f7
    have yn4 := f8
    have yn5 := f9
    have yn6 := f10
    refine tm_if_ne (tgt := 309) dX12_oneRoutine_304 (by decide) ⟨by omega, by omega⟩ (fun h11 => ?_) (fun h11 => ?_)
    · have ynq := yn3 (by omega)
      have gx3 : GOX [30] ρ (qq 0) [35] σ2 (0, 0, 0, m, ρ.1 19) := hgx.nxt (fun x => gn_41 ynq.1 (ynq.2.1.any x))
      have nn9 : NN σ2 := hd.2.2.1.fr yn1 (by decide)
      have e259 : σ2.1 25 = σ.1 25 := yn1.1 25 (by decide)
      have e309 : σ2.1 30 = σ.1 30 := yn1.1 30 (by decide)
      have e319 : σ2.1 31 = σ.1 31 := yn1.1 31 (by decide)
      have tk9 := ynq.2.2.1.1
      have pl9 := ynq.2.2.2.1
      have sz9 := htk.2.1 (by have z := ynq.1.1; omega)
      have R309 := f6
      have pbo9 : PBO ρ σ2 := hd.pbo.nd yn1 yn5
      refine tm_aload_n dX12_oneRoutine_309 rfl 2 rfl ?_
      refine tm_aload_n dX12_oneRoutine_310 rfl 2 rfl ?_
      refine tm_callV (M := m_X12_oneRoutine) (pc := 311) (ix := 271) (M' := m_X12_isKept) (As := []) (rest := [.ref b]) dX12_oneRoutine_311 ok_X12_isKept im_X12_isKept se_X12_isKept ml12_271 np_X12_isKept rfl rfl (Nat.le_of_ble_eq_true rfl) (Nat.le_of_ble_eq_true rfl) rfl (c_X12_isKept (d + 61) (σ := σ2)  R309) (fun r12 σ13 hp => ?_)
      obtain ⟨v14, rfl, rfl, f15, f16⟩ := hp
      show Tm _ _ 314 b σ2 [(2, .int (iI m)), (1, .int (iI p)), (0, .ref b)] [.int (iI v14), .ref b] _
      refine tm_if_eq (tgt := 329) dX12_oneRoutine_314 (by decide) ⟨by omega, by omega⟩ (fun h17 => ?_) (fun h17 => ?_)
      · refine tm_iconst dX12_oneRoutine_329 ?_
        refine tm_putS (k := 32) (v := 0) lay_12 dX12_oneRoutine_330 (by decide) fl12_291 rfl (tyX12_ok 32 (by decide)) rfl rfl rfl ?_
        refine tm_aload_n dX12_oneRoutine_333 rfl 2 rfl ?_
        refine tm_iconst dX12_oneRoutine_334 ?_
        refine tm_putS (k := 33) (v := 0) lay_12 dX12_oneRoutine_335 (by decide) fl12_370 rfl (tyX12_ok 33 (by decide)) rfl rfl rfl ?_
        refine tm_aload_n dX12_oneRoutine_338 rfl 2 rfl ?_
        refine tm_iconst dX12_oneRoutine_339 ?_
        refine tm_putS (k := 34) (v := 0) lay_12 dX12_oneRoutine_340 (by decide) fl12_278 rfl (tyX12_ok 34 (by decide)) rfl rfl rfl ?_
        have g35_ : ∀ x, GOS [30] (sS 34 x ρ) (qq 0) [28, 51, 34] (sS 34 0 (sS 33 0 (sS 32 0 σ2))) (qq (ρ.1 19)) [] := fun x => (gx3 x).then (g35 ⟨rfl, rfl, rfl, rfl⟩)
        have rdn : RDY (sS 34 0 (sS 33 0 (sS 32 0 σ2))) := RDY.new ynq.2.2.1 (by omega) (by omega) (by omega) (by omega)
        have pboA : PBO ρ (sS 34 0 (sS 33 0 (sS 32 0 σ2))) := pbo9.fr (show Fr [32, 33, 34] [] [] σ2 (sS 34 0 (sS 33 0 (sS 32 0 σ2))) from (((Fr.rfl.S (by decide)).S (by decide)).S (by decide))) (by decide) (by decide) (by decide)
        have e30A : (sS 34 0 (sS 33 0 (sS 32 0 σ2))).1 30 = ρ.1 30 := e309.trans e30h
        have e28s : (sS 34 0 (sS 33 0 (sS 32 0 σ2))).1 28 = 0 := (yn1.1 28 (by decide)).trans ((hd.1.1 28 (by decide)).trans hoh.2.2.2.2.1.1)
        have e29s : (sS 34 0 (sS 33 0 (sS 32 0 σ2))).1 29 = 0 := (yn1.1 29 (by decide)).trans ((hd.1.1 29 (by decide)).trans hoh.2.2.2.2.1.2)
        refine tm_aload_n dX12_oneRoutine_343 rfl 2 rfl ?_
        refine tm_callV (M := m_X12_oneRoutine) (pc := 344) (ix := 373) (M' := m_X12_block) (As := []) (rest := []) dX12_oneRoutine_344 ok_X12_block im_X12_block se_X12_block ml12_373 np_X12_block rfl rfl (Nat.le_of_ble_eq_true rfl) (Nat.le_of_ble_eq_true rfl) rfl (c_blk6 (d) (σ := (sS 34 0 (sS 33 0 (sS 32 0 σ2))))  (((f6.S (by omega)).S (by omega)).S (by omega)) rdn nn9 e28s e29s pboA.2.2.2.2.2.2) (fun r18 σ19 hp => ?_)
        obtain ⟨v20, rfl, f21, f22, f23, f24, f25, f26⟩ := hp
        show Tm _ _ 347 b σ19 [(2, .int (iI m)), (1, .int (iI p)), (0, .ref b)] [.int (iI v20)] _
        have bp0 := f21
        have bp1 := f22
        have bp2 := f23
        have bp3 := f24
        have bp4 := f25
        have bp5 := f26
        refine tm_if_ne (tgt := 352) dX12_oneRoutine_347 (by decide) ⟨by omega, by omega⟩ (fun h32 => ?_) (fun h32 => ?_)
        · obtain ⟨lgb, bt, bs, bf, b28, b29⟩ := bp4 (by omega)
          have rdb := bt.2.2.1.2
          have tkb := bt.2.2.1.1.1
          have pboB : PBO ρ σ19 := pboA.pb e30A bp3 (by show (0 : Int) ≤ 0; decide) bp1 (by decide) (by decide) (by decide)
          have e30B : σ19.1 30 = ρ.1 30 := bp3.2.2.2.2.2.2.2.trans e30A
          refine tm_aload_n dX12_oneRoutine_352 rfl 2 rfl ?_
          refine tm_bipush dX12_oneRoutine_353 (by decide) ?_
          refine tm_iconst dX12_oneRoutine_355 ?_
          refine tm_iconst dX12_oneRoutine_356 ?_
          refine tm_callV (M := m_X12_oneRoutine) (pc := 357) (ix := 294) (M' := m_X12_put) (As := [.int (iI 7), .int (iI 0), .int (iI 0)]) (rest := []) dX12_oneRoutine_357 ok_X12_put im_X12_put se_X12_put ml12_294 np_X12_put rfl rfl (Nat.le_of_ble_eq_true rfl) (Nat.le_of_ble_eq_true rfl) rfl (c_X12_put (d + 60) (σ := σ19) (k := 7) (e := 0) (o := 0) f23 (by rw [show σ19.1 30 = σ.1 30 from rs_F f22 (by decide) (rs_o (by decide) (rs_o (by decide) (rs_o (by decide) (rs_F f5 (by decide) (rfl))))), show σ19.1 34 = σ19.1 34 from rfl]; omega) (by omega) (by omega) (by omega)) (fun r33 σ34 hp => ?_)
          obtain ⟨v35, rfl, f36, f37, f38, f39, f40, f41, f42⟩ := hp
          show Tm _ _ 360 b σ34 [(2, .int (iI m)), (1, .int (iI p)), (0, .ref b)] [.int (iI v35)] _
          have jvP := f38
          have jnP := f39
          have jiP := f40
          have joP := f41
          have jrP := f42
          refine tm_istore (L' := [(4, .int (iI v35)), (2, .int (iI m)), (1, .int (iI p)), (0, .ref b)]) dX12_oneRoutine_360 (by decide) rfl ?_
          refine tm_aload_n dX12_oneRoutine_362 rfl 3 rfl ?_
          refine tm_iload dX12_oneRoutine_363 0 rfl ?_
          refine tm_iconst dX12_oneRoutine_365 ?_
          refine tm_iconst dX12_oneRoutine_366 ?_
          refine tm_iconst dX12_oneRoutine_367 ?_
          refine tm_callV (M := m_X12_oneRoutine) (pc := 368) (ix := 298) (M' := m_X12_setArg) (As := [.int (iI v35), .int (iI 0), .int (iI 1), .int (iI 0)]) (rest := []) dX12_oneRoutine_368 ok_X12_setArg im_X12_setArg se_X12_setArg ml12_298 np_X12_setArg rfl rfl (Nat.le_of_ble_eq_true rfl) (Nat.le_of_ble_eq_true rfl) rfl (c_X12_setArg (d + 61) (σ := σ34) (x := v35) (i := 0) (k := 1) (w := 0) (by omega)) (fun r43 σ44 hp => ?_)
          obtain ⟨rfl, f46⟩ := hp
          subst f46
          show Tm _ _ 371 b (fArg (v35) (0) (1) (0) σ34) [(4, .int (iI v35)), (2, .int (iI m)), (1, .int (iI p)), (0, .ref b)] [] _
          have jvP : _ = PXx σ19 := jvP
          have fAP := (show Fr [33, 34] [3, 4, 5, 6, 7, 8] [] σ19 (fArg (v35) (0) (1) (0) σ34) from ((Fr.rfl.trans (Fr.sub f36 (by decide) (by decide) (by decide))).trans (Fr.sub fArg_fr (by decide) (by decide) (by decide))))
          have eAP : (fArg (v35) (0) (1) (0) σ34).1 34 = σ19.1 34 + 1 := jnP
          have pbP : PBF σ19 (fArg (v35) (0) (1) (0) σ34) := PBF.it bt.nn fAP (by decide) (by decide) (by decide) eAP jvP (joP.trans (OFF.arg (by decide) (by decide)))
          have tbP : TBm σ19 (fArg (v35) (0) (1) (0) σ34) := TBm.of fAP (by decide) (by decide) (by decide) (by decide)
          have fP := (show Fr [34] [3, 4, 5, 6, 7, 8] [] σ19 (fArg (v35) (0) (1) (0) σ34) from ((Fr.rfl.trans (Fr.sub f36 (by decide) (by decide) (by decide))).trans (Fr.sub fArg_fr (by decide) (by decide) (by decide))))
          have okP : OKI (fArg (v35) (0) (1) (0) σ34) 1 (PXx σ19) := by rw [← jvP]; exact oki_arg1 jiP (Or.inr (Or.inr (Or.inl rfl))) (fun q => absurd q (by decide)) (fun q => absurd q (by decide)) (by omega)
          have k7P : (fArg (v35) (0) (1) (0) σ34).2.1 3 (PXx σ19) = 7 := by rw [← jvP]; exact jiP.1
          have gall : ∀ x, GOS [30] (sS 34 x ρ) (qq 0) [34] (fArg (v35) (0) (1) (0) σ34) (qq (ρ.1 19)) lgb := fun x => ((g35_ x).then ((bt.2.2.2.2.2 (ρ.1 19)).more [51, 34])).and ((g51 (CHG.put fP (by decide) (by decide) (by decide) eAP) : GOS [51] σ19 (qq (ρ.1 19)) [] (fArg (v35) (0) (1) (0) σ34) (qq (ρ.1 19)) []).more [34])
          have nrl : nR (lgb ++ [(0, (fArg (v35) (0) (1) (0) σ34).1 34, 0)]) = 1 := by rw [nR_app, (bt.2.2.2.2.2 0).nr0 (by decide)]; rfl
          have pboC : PBO ρ (fArg (v35) (0) (1) (0) σ34) := pboB.pb e30B pbP rdb.2.2.1.1 fP (by decide) (by decide) (by decide)
          have e30C : (fArg (v35) (0) (1) (0) σ34).1 30 = ρ.1 30 := (fP.1 30 (by decide)).trans e30B
          have e25C : (fArg (v35) (0) (1) (0) σ34).1 25 = ρ.1 25 := pboC.2.2.2.2.1
          have R371 : RG (fArg (v35) (0) (1) (0) σ34) := ((f37).arg (by omega) (by omega))
          refine tm_aload_n dX12_oneRoutine_371 rfl 3 rfl ?_
          refine tm_getS (k := 25) (t := σ.1 25) dX12_oneRoutine_372 (by decide) fl12_255 rfl (rs_F fArg_fr (by decide) (rs_F f36 (by decide) (rs_F f22 (by decide) (rs_o (by decide) (rs_o (by decide) (rs_o (by decide) (rs_F f5 (by decide) (rfl)))))))) ?_
          have g47 := RG.s hR 25
          refine tm_iconst dX12_oneRoutine_375 ?_
          refine tm_icmp_ne (tgt := 394) dX12_oneRoutine_376 (by decide) ⟨by omega, by omega⟩ ⟨by decide, by decide⟩ (fun h48 => ?_) (fun h48 => ?_)
          · refine tm_aload_n dX12_oneRoutine_394 rfl 3 rfl ?_
            refine tm_getS (k := 25) (t := σ.1 25) dX12_oneRoutine_395 (by decide) fl12_255 rfl (rs_F fArg_fr (by decide) (rs_F f36 (by decide) (rs_F f22 (by decide) (rs_o (by decide) (rs_o (by decide) (rs_o (by decide) (rs_F f5 (by decide) (rfl)))))))) ?_
            have g49 := RG.s hR 25
            refine tm_iconst dX12_oneRoutine_398 ?_
            refine tm_icmp_ne (tgt := 415) dX12_oneRoutine_399 (by decide) ⟨by omega, by omega⟩ ⟨by decide, by decide⟩ (fun h50 => ?_) (fun h50 => ?_)
            · refine tm_aload_n dX12_oneRoutine_415 rfl 3 rfl ?_
              refine tm_dup dX12_oneRoutine_416 rfl ?_
              refine tm_getS (k := 30) (t := σ.1 30) dX12_oneRoutine_417 (by decide) fl12_268 rfl (rs_F fArg_fr (by decide) (rs_F f36 (by decide) (rs_F f22 (by decide) (rs_o (by decide) (rs_o (by decide) (rs_o (by decide) (rs_F f5 (by decide) (rfl)))))))) ?_
              have g51 := RG.s hR 30
              refine tm_iconst dX12_oneRoutine_420 ?_
              refine tm_iadd dX12_oneRoutine_421 ?_
              refine tm_putS (k := 30) (v := (σ.1 30) + 1) lay_12 dX12_oneRoutine_422 (by decide) fl12_268 rfl (tyX12_ok 30 (by decide)) rfl rfl rfl ?_
              refine tm_iconst dX12_oneRoutine_425 ?_
              have ffz := (show Fr [26, 27, 30] [9] [] (fArg (v35) (0) (1) (0) σ34) (sS 30 ((σ.1 30) + 1) (fArg (v35) (0) (1) (0) σ34)) from (Fr.rfl.S (by decide)))
              have flz : FLT (fArg (v35) (0) (1) (0) σ34) (sS 30 ((σ.1 30) + 1) (fArg (v35) (0) (1) (0) σ34)) := (FLT.eq rfl)
              have pboZ : PBO ρ (sS 30 ((σ.1 30) + 1) (fArg (v35) (0) (1) (0) σ34)) := pboC.fin ffz flz (fun j _ => rfl)
              have srz : srt (sS 30 ((σ.1 30) + 1) (fArg (v35) (0) (1) (0) σ34)) = srt (reP (ρ.1 19) ((fArg (v35) (0) (1) (0) σ34).1 34) (fArg (v35) (0) (1) (0) σ34)) := by have z9 : (fArg (v35) (0) (1) (0) σ34).1 30 = σ.1 30 := by { omega }; unfold reP; rw [if_neg (by omega), z9]
              have vwz := vw_fr ffz (by decide) (by decide) (by decide)
              have samz : SAM (fArg (v35) (0) (1) (0) σ34) (sS 30 ((σ.1 30) + 1) (fArg (v35) (0) (1) (0) σ34)) := by unfold vw at vwz; exact ⟨congrArg Prod.fst vwz, congrArg (fun z => z.2.1) vwz, congrArg (fun z => z.2.2) vwz⟩
              have gz : ∀ x, GOS [30] (sS 34 x ρ) (qq 0) [] (sS 30 ((σ.1 30) + 1) (fArg (v35) (0) (1) (0) σ34)) (qq 0) (lgb ++ [(0, (fArg (v35) (0) (1) (0) σ34).1 34, 0)]) := fun x => (gall x).trans (g34 (q := qq (ρ.1 19)) samz (EFF.rend srz))
              have tkz : TOK (sS 30 ((σ.1 30) + 1) (fArg (v35) (0) (1) (0) σ34)) := by unfold TOK; rw [ffz.1 19 (by decide), ffz.1 20 (by decide), ffz.1 21 (by decide), ffz.1 22 (by decide), ffz.1 23 (by decide), fP.1 19 (by decide), fP.1 20 (by decide), fP.1 21 (by decide), fP.1 22 (by decide), fP.1 23 (by decide)]; exact bt.2.2.1.1
              have e30z : (sS 30 ((σ.1 30) + 1) (fArg (v35) (0) (1) (0) σ34)).1 30 = ρ.1 30 + 1 := by rw [show (sS 30 ((σ.1 30) + 1) (fArg (v35) (0) (1) (0) σ34)).1 30 = (σ.1 30) + 1 from rs_eq]; omega
              have e19z : (sS 30 ((σ.1 30) + 1) (fArg (v35) (0) (1) (0) σ34)).1 19 = σ19.1 19 := (ffz.1 19 (by decide)).trans (fP.1 19 (by decide))
              have e31z : (sS 30 ((σ.1 30) + 1) (fArg (v35) (0) (1) (0) σ34)).1 31 = σ19.1 31 := (ffz.1 31 (by decide)).trans (fP.1 31 (by decide))
              have e28z : (sS 30 ((σ.1 30) + 1) (fArg (v35) (0) (1) (0) σ34)).1 28 = 0 := by rw [ffz.1 28 (by decide), fP.1 28 (by decide), b28]; exact e28s
              have e29z : (sS 30 ((σ.1 30) + 1) (fArg (v35) (0) (1) (0) σ34)).1 29 = 0 := by rw [ffz.1 29 (by decide), fP.1 29 (by decide), b29]; exact e29s
              have pcz := bt.2.1
              unfold PBC at pcz
              have pl5 : ρ.1 19 + 5 ≤ (sS 30 ((σ.1 30) + 1) (fArg (v35) (0) (1) (0) σ34)).1 19 := by have z6 := bp3.2.2.2.2.2.1; have z7 : (sS 34 0 (sS 33 0 (sS 32 0 σ2))).1 19 = σ2.1 19 := rfl; have z8 : (sS 34 0 (sS 33 0 (sS 32 0 σ2))).1 34 = 0 := rfl; omega
              exact tm_zret (v := 1) rfl (by decide) dX12_oneRoutine_426 (hret _ _ ((Fr.sub hd.1 (by decide) (by decide) (by decide) : Fr [19, 20, 22, 23, 26, 27, 28, 29, 30, 31, 32, 33, 34, 39, 40, 43] [3, 4, 5, 6, 7, 8, 9, 35, 36, 37, 41, 42, 45] [24, 38, 44] ρ σ).trans ((((((((Fr.rfl.trans (Fr.sub f5 (by decide) (by decide) (by decide))).S (by decide)).S (by decide)).S (by decide)).trans (Fr.sub f22 (by decide) (by decide) (by decide))).trans (Fr.sub f36 (by decide) (by decide) (by decide))).trans (Fr.sub fArg_fr (by decide) (by decide) (by decide))).S (by decide))) (((f37).arg (by omega) (by omega)).S (by omega)) (by omega) pboZ (fun _ => ⟨tkz, ⟨e30z, pl5, by omega, e28z, e29z⟩, _, gz, nrl, (fun z => absurd z (by omega)), (fun z => P1O.mk hd hpa z (show Fr [19, 20, 22, 23, 26, 27, 28, 29, 30, 31, 32, 33, 34, 39, 40] [3, 4, 5, 6, 7, 8, 9, 35, 37, 41, 42] [24, 38] σ (sS 30 ((σ.1 30) + 1) (fArg (v35) (0) (1) (0) σ34)) from ((((((((Fr.rfl.trans (Fr.sub f5 (by decide) (by decide) (by decide))).S (by decide)).S (by decide)).S (by decide)).trans (Fr.sub f22 (by decide) (by decide) (by decide))).trans (Fr.sub f36 (by decide) (by decide) (by decide))).trans (Fr.sub fArg_fr (by decide) (by decide) (by decide))).S (by decide))) (by decide) (by decide) ((show FLT σ (sS 34 0 (sS 33 0 (sS 32 0 σ2))) from yn5).trans ((bp3.2.2.2.2.1).trans ((pbP.2.2.2.2.1).trans flz))) (fun r => ⟨by have y1 := (bp3.2.2.2.1 r).1; have y2 := (pbP.2.2.2.1 r).1; have y3 : (sS 34 0 (sS 33 0 (sS 32 0 σ2))).2.1 35 r = σ.2.1 35 r := congrFun (yn1.2.1 35 (by decide)) r; have y4 : (sS 30 ((σ.1 30) + 1) (fArg (v35) (0) (1) (0) σ34)).2.1 35 r = (fArg (v35) (0) (1) (0) σ34).2.1 35 r := congrFun (ffz.2.1 35 (by decide)) r; omega, fun y => by have y1 := (bp3.2.2.2.1 r).2 (by rw [e30A]; exact y); have y2 := (pbP.2.2.2.1 r).2 (by rw [e30B]; exact y); have y3 : (sS 34 0 (sS 33 0 (sS 32 0 σ2))).2.1 35 r = σ.2.1 35 r := congrFun (yn1.2.1 35 (by decide)) r; have y4 : (sS 30 ((σ.1 30) + 1) (fArg (v35) (0) (1) (0) σ34)).2.1 35 r = (fArg (v35) (0) (1) (0) σ34).2.1 35 r := congrFun (ffz.2.1 35 (by decide)) r; omega⟩)), (fun z => absurd z (by omega))⟩) (fun q => absurd q (by decide)))
            · have vw3 := vw_fr (show Fr [30] [] [] (fArg (v35) (0) (1) (0) σ34) (sS 30 ((fArg (v35) (0) (1) (0) σ34).1 30 + 1) (fArg (v35) (0) (1) (0) σ34)) from Fr.rfl.S (by decide)) (by decide) (by decide) (by decide)
              have sam3 : SAM (fArg (v35) (0) (1) (0) σ34) (sS 30 ((fArg (v35) (0) (1) (0) σ34).1 30 + 1) (fArg (v35) (0) (1) (0) σ34)) := by unfold vw at vw3; exact ⟨congrArg Prod.fst vw3, congrArg (fun z => z.2.1) vw3, congrArg (fun z => z.2.2) vw3⟩
              have srz3 : srt (sS 30 ((fArg (v35) (0) (1) (0) σ34).1 30 + 1) (fArg (v35) (0) (1) (0) σ34)) = srt (reP (ρ.1 19) ((fArg (v35) (0) (1) (0) σ34).1 34) (fArg (v35) (0) (1) (0) σ34)) := by unfold reP; rw [if_neg (by omega)]
              have gz3 : ∀ x, GOS [30] (sS 34 x ρ) (qq 0) [] (sS 30 ((fArg (v35) (0) (1) (0) σ34).1 30 + 1) (fArg (v35) (0) (1) (0) σ34)) (qq 0) (lgb ++ [(0, (fArg (v35) (0) (1) (0) σ34).1 34, 0)]) := fun x => (gall x).trans (g34 (q := qq (ρ.1 19)) sam3 (EFF.rend srz3))
              have hq8 := hoh.2.2.2.2.2.2.2 (by omega) _ _ gz3
              have r6 : ρ.1 30 < 6 := hq8.1 (by rw [nrl]; decide)
              have hq9 := hq8.2
              clear hq8
              have i120 : (fArg (v35) (0) (1) (0) σ34).1 34 ≤ 120 := (hq9 (0, (fArg (v35) (0) (1) (0) σ34).1 34, 0) (List.mem_append_right _ (List.mem_singleton.mpr rfl))).1 rfl
              refine tm_aload_n dX12_oneRoutine_402 rfl 3 rfl ?_
              refine tm_get (k := 9) (v := .ref (b + 1 + 7)) lay_12 dX12_oneRoutine_403 (by decide) fl12_32 rfl ?_
              refine tm_aload_n dX12_oneRoutine_406 rfl 3 rfl ?_
              refine tm_getS (k := 30) (t := σ.1 30) dX12_oneRoutine_407 (by decide) fl12_268 rfl (rs_F fArg_fr (by decide) (rs_F f36 (by decide) (rs_F f22 (by decide) (rs_o (by decide) (rs_o (by decide) (rs_o (by decide) (rs_F f5 (by decide) (rfl)))))))) ?_
              have g52 := RG.s hR 30
              refine tm_aload_n dX12_oneRoutine_410 rfl 3 rfl ?_
              refine tm_getS (k := 34) (t := σ34.1 34) dX12_oneRoutine_411 (by decide) fl12_278 rfl (rs_F fArg_fr (by decide) (rfl)) ?_
              have g53 := RG.s f37 34
              refine tm_iast (z := σ.1 30) (v := σ34.1 34) dX12_oneRoutine_414 (show mT[7]? = some (9, 0, 13) from rfl) (by omega) (by omega) (by decide) ?_
              refine tm_aload_n dX12_oneRoutine_415 rfl 3 rfl ?_
              refine tm_dup dX12_oneRoutine_416 rfl ?_
              refine tm_getS (k := 30) (t := σ.1 30) dX12_oneRoutine_417 (by decide) fl12_268 rfl (rs_A (rs_F fArg_fr (by decide) (rs_F f36 (by decide) (rs_F f22 (by decide) (rs_o (by decide) (rs_o (by decide) (rs_o (by decide) (rs_F f5 (by decide) (rfl))))))))) ?_
              have g54 := RG.s hR 30
              refine tm_iconst dX12_oneRoutine_420 ?_
              refine tm_iadd dX12_oneRoutine_421 ?_
              refine tm_putS (k := 30) (v := (σ.1 30) + 1) lay_12 dX12_oneRoutine_422 (by decide) fl12_268 rfl (tyX12_ok 30 (by decide)) rfl rfl rfl ?_
              refine tm_iconst dX12_oneRoutine_425 ?_
              have ffz := (show Fr [26, 27, 30] [9] [] (fArg (v35) (0) (1) (0) σ34) (sS 30 ((σ.1 30) + 1) (sA 9 (σ.1 30) (σ34.1 34) (fArg (v35) (0) (1) (0) σ34))) from ((Fr.rfl.A (by decide)).S (by decide)))
              have flz : FLT (fArg (v35) (0) (1) (0) σ34) (sS 30 ((σ.1 30) + 1) (sA 9 (σ.1 30) (σ34.1 34) (fArg (v35) (0) (1) (0) σ34))) := (FLT.eq rfl)
              have pboZ : PBO ρ (sS 30 ((σ.1 30) + 1) (sA 9 (σ.1 30) (σ34.1 34) (fArg (v35) (0) (1) (0) σ34))) := pboC.fin ffz flz (fun j z => ra_ne (by omega) rfl)
              have srz : srt (sS 30 ((σ.1 30) + 1) (sA 9 (σ.1 30) (σ34.1 34) (fArg (v35) (0) (1) (0) σ34))) = srt (reP (ρ.1 19) ((fArg (v35) (0) (1) (0) σ34).1 34) (fArg (v35) (0) (1) (0) σ34)) := by have z9 : (fArg (v35) (0) (1) (0) σ34).1 30 = σ.1 30 := by { omega }; unfold reP; rw [if_neg (by omega), z9]; rfl
              have vwz := vw_fr ffz (by decide) (by decide) (by decide)
              have samz : SAM (fArg (v35) (0) (1) (0) σ34) (sS 30 ((σ.1 30) + 1) (sA 9 (σ.1 30) (σ34.1 34) (fArg (v35) (0) (1) (0) σ34))) := by unfold vw at vwz; exact ⟨congrArg Prod.fst vwz, congrArg (fun z => z.2.1) vwz, congrArg (fun z => z.2.2) vwz⟩
              have gz : ∀ x, GOS [30] (sS 34 x ρ) (qq 0) [] (sS 30 ((σ.1 30) + 1) (sA 9 (σ.1 30) (σ34.1 34) (fArg (v35) (0) (1) (0) σ34))) (qq 0) (lgb ++ [(0, (fArg (v35) (0) (1) (0) σ34).1 34, 0)]) := fun x => (gall x).trans (g34 (q := qq (ρ.1 19)) samz (EFF.rend srz))
              have tkz : TOK (sS 30 ((σ.1 30) + 1) (sA 9 (σ.1 30) (σ34.1 34) (fArg (v35) (0) (1) (0) σ34))) := by unfold TOK; rw [ffz.1 19 (by decide), ffz.1 20 (by decide), ffz.1 21 (by decide), ffz.1 22 (by decide), ffz.1 23 (by decide), fP.1 19 (by decide), fP.1 20 (by decide), fP.1 21 (by decide), fP.1 22 (by decide), fP.1 23 (by decide)]; exact bt.2.2.1.1
              have e30z : (sS 30 ((σ.1 30) + 1) (sA 9 (σ.1 30) (σ34.1 34) (fArg (v35) (0) (1) (0) σ34))).1 30 = ρ.1 30 + 1 := by rw [show (sS 30 ((σ.1 30) + 1) (sA 9 (σ.1 30) (σ34.1 34) (fArg (v35) (0) (1) (0) σ34))).1 30 = (σ.1 30) + 1 from rs_eq]; omega
              have e19z : (sS 30 ((σ.1 30) + 1) (sA 9 (σ.1 30) (σ34.1 34) (fArg (v35) (0) (1) (0) σ34))).1 19 = σ19.1 19 := (ffz.1 19 (by decide)).trans (fP.1 19 (by decide))
              have e31z : (sS 30 ((σ.1 30) + 1) (sA 9 (σ.1 30) (σ34.1 34) (fArg (v35) (0) (1) (0) σ34))).1 31 = σ19.1 31 := (ffz.1 31 (by decide)).trans (fP.1 31 (by decide))
              have e28z : (sS 30 ((σ.1 30) + 1) (sA 9 (σ.1 30) (σ34.1 34) (fArg (v35) (0) (1) (0) σ34))).1 28 = 0 := by rw [ffz.1 28 (by decide), fP.1 28 (by decide), b28]; exact e28s
              have e29z : (sS 30 ((σ.1 30) + 1) (sA 9 (σ.1 30) (σ34.1 34) (fArg (v35) (0) (1) (0) σ34))).1 29 = 0 := by rw [ffz.1 29 (by decide), fP.1 29 (by decide), b29]; exact e29s
              have pcz := bt.2.1
              unfold PBC at pcz
              have pl5 : ρ.1 19 + 5 ≤ (sS 30 ((σ.1 30) + 1) (sA 9 (σ.1 30) (σ34.1 34) (fArg (v35) (0) (1) (0) σ34))).1 19 := by have z6 := bp3.2.2.2.2.2.1; have z7 : (sS 34 0 (sS 33 0 (sS 32 0 σ2))).1 19 = σ2.1 19 := rfl; have z8 : (sS 34 0 (sS 33 0 (sS 32 0 σ2))).1 34 = 0 := rfl; omega
              exact tm_zret (v := 1) rfl (by decide) dX12_oneRoutine_426 (hret _ _ ((Fr.sub hd.1 (by decide) (by decide) (by decide) : Fr [19, 20, 22, 23, 26, 27, 28, 29, 30, 31, 32, 33, 34, 39, 40, 43] [3, 4, 5, 6, 7, 8, 9, 35, 36, 37, 41, 42, 45] [24, 38, 44] ρ σ).trans (((((((((Fr.rfl.trans (Fr.sub f5 (by decide) (by decide) (by decide))).S (by decide)).S (by decide)).S (by decide)).trans (Fr.sub f22 (by decide) (by decide) (by decide))).trans (Fr.sub f36 (by decide) (by decide) (by decide))).trans (Fr.sub fArg_fr (by decide) (by decide) (by decide))).A (by decide)).S (by decide))) ((((f37).arg (by omega) (by omega)).A (by omega)).S (by omega)) (by omega) pboZ (fun _ => ⟨tkz, ⟨e30z, pl5, by omega, e28z, e29z⟩, _, gz, nrl, (fun z => absurd z (by omega)), (fun z => absurd z (by omega)), (fun z => by have q := PLI.mk bs bf (show (sS 34 0 (sS 33 0 (sS 32 0 σ2))).1 25 = 3 by have y8 : (sS 34 0 (sS 33 0 (sS 32 0 σ2))).1 25 = σ2.1 25 := rfl; omega) (by omega) rfl rfl bp3 bt.2.1 (fun e he => (hq9 e (List.mem_append_left _ he)).tb (pboA.2.1 (by omega)).2.2.2) (by omega) pbP eAP okP k7P bt.2.2.2.1 tbP (show Fr [30] [9] [] (fArg (v35) (0) (1) (0) σ34) (sS 30 ((σ.1 30) + 1) (sA 9 (σ.1 30) (σ34.1 34) (fArg (v35) (0) (1) (0) σ34))) from ((Fr.rfl.A (by decide)).S (by decide))) (by rw [e30A, ← e30h]; exact (ra_eq : (sA 9 (σ.1 30) _ _).2.1 9 (σ.1 30) = _)); rw [e30A] at q; exact q)⟩) (fun q => absurd q (by decide)))
          · refine tm_aload_n dX12_oneRoutine_379 rfl 3 rfl ?_
            refine tm_getS (k := 34) (t := σ34.1 34) dX12_oneRoutine_380 (by decide) fl12_278 rfl (rs_F fArg_fr (by decide) (rfl)) ?_
            have g55 := RG.s f37 34
            refine tm_bipush dX12_oneRoutine_383 (by decide) ?_
            refine tm_icmp_le (tgt := 394) dX12_oneRoutine_385 (by decide) ⟨by omega, by omega⟩ ⟨by decide, by decide⟩ (fun h56 => ?_) (fun h56 => ?_)
            · refine tm_aload_n dX12_oneRoutine_394 rfl 3 rfl ?_
              refine tm_getS (k := 25) (t := σ.1 25) dX12_oneRoutine_395 (by decide) fl12_255 rfl (rs_F fArg_fr (by decide) (rs_F f36 (by decide) (rs_F f22 (by decide) (rs_o (by decide) (rs_o (by decide) (rs_o (by decide) (rs_F f5 (by decide) (rfl)))))))) ?_
              have g57 := RG.s hR 25
              refine tm_iconst dX12_oneRoutine_398 ?_
              refine tm_icmp_ne (tgt := 415) dX12_oneRoutine_399 (by decide) ⟨by omega, by omega⟩ ⟨by decide, by decide⟩ (fun h58 => ?_) (fun h58 => ?_)
              · refine tm_aload_n dX12_oneRoutine_415 rfl 3 rfl ?_
                refine tm_dup dX12_oneRoutine_416 rfl ?_
                refine tm_getS (k := 30) (t := σ.1 30) dX12_oneRoutine_417 (by decide) fl12_268 rfl (rs_F fArg_fr (by decide) (rs_F f36 (by decide) (rs_F f22 (by decide) (rs_o (by decide) (rs_o (by decide) (rs_o (by decide) (rs_F f5 (by decide) (rfl)))))))) ?_
                have g59 := RG.s hR 30
                refine tm_iconst dX12_oneRoutine_420 ?_
                refine tm_iadd dX12_oneRoutine_421 ?_
                refine tm_putS (k := 30) (v := (σ.1 30) + 1) lay_12 dX12_oneRoutine_422 (by decide) fl12_268 rfl (tyX12_ok 30 (by decide)) rfl rfl rfl ?_
                refine tm_iconst dX12_oneRoutine_425 ?_
                have ffz := (show Fr [26, 27, 30] [9] [] (fArg (v35) (0) (1) (0) σ34) (sS 30 ((σ.1 30) + 1) (fArg (v35) (0) (1) (0) σ34)) from (Fr.rfl.S (by decide)))
                have flz : FLT (fArg (v35) (0) (1) (0) σ34) (sS 30 ((σ.1 30) + 1) (fArg (v35) (0) (1) (0) σ34)) := (FLT.eq rfl)
                have pboZ : PBO ρ (sS 30 ((σ.1 30) + 1) (fArg (v35) (0) (1) (0) σ34)) := pboC.fin ffz flz (fun j _ => rfl)
                have srz : srt (sS 30 ((σ.1 30) + 1) (fArg (v35) (0) (1) (0) σ34)) = srt (reP (ρ.1 19) ((fArg (v35) (0) (1) (0) σ34).1 34) (fArg (v35) (0) (1) (0) σ34)) := by have z9 : (fArg (v35) (0) (1) (0) σ34).1 30 = σ.1 30 := by { omega }; unfold reP; rw [if_neg (by omega), z9]
                have vwz := vw_fr ffz (by decide) (by decide) (by decide)
                have samz : SAM (fArg (v35) (0) (1) (0) σ34) (sS 30 ((σ.1 30) + 1) (fArg (v35) (0) (1) (0) σ34)) := by unfold vw at vwz; exact ⟨congrArg Prod.fst vwz, congrArg (fun z => z.2.1) vwz, congrArg (fun z => z.2.2) vwz⟩
                have gz : ∀ x, GOS [30] (sS 34 x ρ) (qq 0) [] (sS 30 ((σ.1 30) + 1) (fArg (v35) (0) (1) (0) σ34)) (qq 0) (lgb ++ [(0, (fArg (v35) (0) (1) (0) σ34).1 34, 0)]) := fun x => (gall x).trans (g34 (q := qq (ρ.1 19)) samz (EFF.rend srz))
                have tkz : TOK (sS 30 ((σ.1 30) + 1) (fArg (v35) (0) (1) (0) σ34)) := by unfold TOK; rw [ffz.1 19 (by decide), ffz.1 20 (by decide), ffz.1 21 (by decide), ffz.1 22 (by decide), ffz.1 23 (by decide), fP.1 19 (by decide), fP.1 20 (by decide), fP.1 21 (by decide), fP.1 22 (by decide), fP.1 23 (by decide)]; exact bt.2.2.1.1
                have e30z : (sS 30 ((σ.1 30) + 1) (fArg (v35) (0) (1) (0) σ34)).1 30 = ρ.1 30 + 1 := by rw [show (sS 30 ((σ.1 30) + 1) (fArg (v35) (0) (1) (0) σ34)).1 30 = (σ.1 30) + 1 from rs_eq]; omega
                have e19z : (sS 30 ((σ.1 30) + 1) (fArg (v35) (0) (1) (0) σ34)).1 19 = σ19.1 19 := (ffz.1 19 (by decide)).trans (fP.1 19 (by decide))
                have e31z : (sS 30 ((σ.1 30) + 1) (fArg (v35) (0) (1) (0) σ34)).1 31 = σ19.1 31 := (ffz.1 31 (by decide)).trans (fP.1 31 (by decide))
                have e28z : (sS 30 ((σ.1 30) + 1) (fArg (v35) (0) (1) (0) σ34)).1 28 = 0 := by rw [ffz.1 28 (by decide), fP.1 28 (by decide), b28]; exact e28s
                have e29z : (sS 30 ((σ.1 30) + 1) (fArg (v35) (0) (1) (0) σ34)).1 29 = 0 := by rw [ffz.1 29 (by decide), fP.1 29 (by decide), b29]; exact e29s
                have pcz := bt.2.1
                unfold PBC at pcz
                have pl5 : ρ.1 19 + 5 ≤ (sS 30 ((σ.1 30) + 1) (fArg (v35) (0) (1) (0) σ34)).1 19 := by have z6 := bp3.2.2.2.2.2.1; have z7 : (sS 34 0 (sS 33 0 (sS 32 0 σ2))).1 19 = σ2.1 19 := rfl; have z8 : (sS 34 0 (sS 33 0 (sS 32 0 σ2))).1 34 = 0 := rfl; omega
                exact tm_zret (v := 1) rfl (by decide) dX12_oneRoutine_426 (hret _ _ ((Fr.sub hd.1 (by decide) (by decide) (by decide) : Fr [19, 20, 22, 23, 26, 27, 28, 29, 30, 31, 32, 33, 34, 39, 40, 43] [3, 4, 5, 6, 7, 8, 9, 35, 36, 37, 41, 42, 45] [24, 38, 44] ρ σ).trans ((((((((Fr.rfl.trans (Fr.sub f5 (by decide) (by decide) (by decide))).S (by decide)).S (by decide)).S (by decide)).trans (Fr.sub f22 (by decide) (by decide) (by decide))).trans (Fr.sub f36 (by decide) (by decide) (by decide))).trans (Fr.sub fArg_fr (by decide) (by decide) (by decide))).S (by decide))) (((f37).arg (by omega) (by omega)).S (by omega)) (by omega) pboZ (fun _ => ⟨tkz, ⟨e30z, pl5, by omega, e28z, e29z⟩, _, gz, nrl, (fun z1 z2 e he => by rcases List.mem_append.mp he with y | y; exact (bt.2.2.2.2.1 (by have y8 : (sS 34 0 (sS 33 0 (sS 32 0 σ2))).1 25 = σ2.1 25 := rfl; omega) (by by_cases y9 : σ19.1 26 = 0; exact y9; exact absurd z2 (((pbP.2.2.2.2.1).trans flz).1 y9)) e y).bt (pboA.2.1 (by omega)).2.2.2; rw [List.mem_singleton.mp y]; exact ⟨fun _ => by show (fArg (v35) (0) (1) (0) σ34).1 34 ≤ 120; omega, fun q => absurd (show (0 : Int) = 1 from q) (by decide)⟩), (fun z => absurd z (by omega)), (fun z => absurd z (by omega))⟩) (fun q => absurd q (by decide)))
              · have vw3 := vw_fr (show Fr [30] [] [] (fArg (v35) (0) (1) (0) σ34) (sS 30 ((fArg (v35) (0) (1) (0) σ34).1 30 + 1) (fArg (v35) (0) (1) (0) σ34)) from Fr.rfl.S (by decide)) (by decide) (by decide) (by decide)
                have sam3 : SAM (fArg (v35) (0) (1) (0) σ34) (sS 30 ((fArg (v35) (0) (1) (0) σ34).1 30 + 1) (fArg (v35) (0) (1) (0) σ34)) := by unfold vw at vw3; exact ⟨congrArg Prod.fst vw3, congrArg (fun z => z.2.1) vw3, congrArg (fun z => z.2.2) vw3⟩
                have srz3 : srt (sS 30 ((fArg (v35) (0) (1) (0) σ34).1 30 + 1) (fArg (v35) (0) (1) (0) σ34)) = srt (reP (ρ.1 19) ((fArg (v35) (0) (1) (0) σ34).1 34) (fArg (v35) (0) (1) (0) σ34)) := by unfold reP; rw [if_neg (by omega)]
                have gz3 : ∀ x, GOS [30] (sS 34 x ρ) (qq 0) [] (sS 30 ((fArg (v35) (0) (1) (0) σ34).1 30 + 1) (fArg (v35) (0) (1) (0) σ34)) (qq 0) (lgb ++ [(0, (fArg (v35) (0) (1) (0) σ34).1 34, 0)]) := fun x => (gall x).trans (g34 (q := qq (ρ.1 19)) sam3 (EFF.rend srz3))
                have hq8 := hoh.2.2.2.2.2.2.2 (by omega) _ _ gz3
                have r6 : ρ.1 30 < 6 := hq8.1 (by rw [nrl]; decide)
                have hq9 := hq8.2
                clear hq8
                have i120 : (fArg (v35) (0) (1) (0) σ34).1 34 ≤ 120 := (hq9 (0, (fArg (v35) (0) (1) (0) σ34).1 34, 0) (List.mem_append_right _ (List.mem_singleton.mpr rfl))).1 rfl
                refine tm_aload_n dX12_oneRoutine_402 rfl 3 rfl ?_
                refine tm_get (k := 9) (v := .ref (b + 1 + 7)) lay_12 dX12_oneRoutine_403 (by decide) fl12_32 rfl ?_
                refine tm_aload_n dX12_oneRoutine_406 rfl 3 rfl ?_
                refine tm_getS (k := 30) (t := σ.1 30) dX12_oneRoutine_407 (by decide) fl12_268 rfl (rs_F fArg_fr (by decide) (rs_F f36 (by decide) (rs_F f22 (by decide) (rs_o (by decide) (rs_o (by decide) (rs_o (by decide) (rs_F f5 (by decide) (rfl)))))))) ?_
                have g60 := RG.s hR 30
                refine tm_aload_n dX12_oneRoutine_410 rfl 3 rfl ?_
                refine tm_getS (k := 34) (t := σ34.1 34) dX12_oneRoutine_411 (by decide) fl12_278 rfl (rs_F fArg_fr (by decide) (rfl)) ?_
                have g61 := RG.s f37 34
                refine tm_iast (z := σ.1 30) (v := σ34.1 34) dX12_oneRoutine_414 (show mT[7]? = some (9, 0, 13) from rfl) (by omega) (by omega) (by decide) ?_
                refine tm_aload_n dX12_oneRoutine_415 rfl 3 rfl ?_
                refine tm_dup dX12_oneRoutine_416 rfl ?_
                refine tm_getS (k := 30) (t := σ.1 30) dX12_oneRoutine_417 (by decide) fl12_268 rfl (rs_A (rs_F fArg_fr (by decide) (rs_F f36 (by decide) (rs_F f22 (by decide) (rs_o (by decide) (rs_o (by decide) (rs_o (by decide) (rs_F f5 (by decide) (rfl))))))))) ?_
                have g62 := RG.s hR 30
                refine tm_iconst dX12_oneRoutine_420 ?_
                refine tm_iadd dX12_oneRoutine_421 ?_
                refine tm_putS (k := 30) (v := (σ.1 30) + 1) lay_12 dX12_oneRoutine_422 (by decide) fl12_268 rfl (tyX12_ok 30 (by decide)) rfl rfl rfl ?_
                refine tm_iconst dX12_oneRoutine_425 ?_
                exact tm_zret (v := 1) rfl (by decide) dX12_oneRoutine_426 ((by exfalso; omega))
            · refine tm_aload_n dX12_oneRoutine_388 rfl 3 rfl ?_
              refine tm_iconst dX12_oneRoutine_389 ?_
              refine tm_iload_n dX12_oneRoutine_390 rfl 2 rfl ?_
              refine tm_callV (M := m_X12_oneRoutine) (pc := 391) (ix := 274) (M' := m_X12_note) (As := [.int (iI 5), .int (iI p)]) (rest := []) dX12_oneRoutine_391 ok_X12_note im_X12_note se_X12_note ml12_274 np_X12_note rfl rfl (Nat.le_of_ble_eq_true rfl) (Nat.le_of_ble_eq_true rfl) rfl (c2_X12_note (d + 61) (σ := (fArg (v35) (0) (1) (0) σ34)) (f := 5) (p := p) ((f37).arg (by omega) (by omega)) (by omega) (by omega)) (fun r63 σ64 hp => ?_)
              obtain ⟨rfl, f66, f67, f68, f69, f70⟩ := hp
              show Tm _ _ 394 b σ64 [(4, .int (iI v35)), (2, .int (iI m)), (1, .int (iI p)), (0, .ref b)] [] _
              have ntf := f68
              have ntn := f69
              have nt4 := f70
              refine tm_aload_n dX12_oneRoutine_394 rfl 3 rfl ?_
              refine tm_getS (k := 25) (t := σ.1 25) dX12_oneRoutine_395 (by decide) fl12_255 rfl (rs_F f66 (by decide) (rs_F fArg_fr (by decide) (rs_F f36 (by decide) (rs_F f22 (by decide) (rs_o (by decide) (rs_o (by decide) (rs_o (by decide) (rs_F f5 (by decide) (rfl))))))))) ?_
              have g71 := RG.s hR 25
              refine tm_iconst dX12_oneRoutine_398 ?_
              refine tm_icmp_ne (tgt := 415) dX12_oneRoutine_399 (by decide) ⟨by omega, by omega⟩ ⟨by decide, by decide⟩ (fun h72 => ?_) (fun h72 => ?_)
              · refine tm_aload_n dX12_oneRoutine_415 rfl 3 rfl ?_
                refine tm_dup dX12_oneRoutine_416 rfl ?_
                refine tm_getS (k := 30) (t := σ.1 30) dX12_oneRoutine_417 (by decide) fl12_268 rfl (rs_F f66 (by decide) (rs_F fArg_fr (by decide) (rs_F f36 (by decide) (rs_F f22 (by decide) (rs_o (by decide) (rs_o (by decide) (rs_o (by decide) (rs_F f5 (by decide) (rfl))))))))) ?_
                have g73 := RG.s hR 30
                refine tm_iconst dX12_oneRoutine_420 ?_
                refine tm_iadd dX12_oneRoutine_421 ?_
                refine tm_putS (k := 30) (v := (σ.1 30) + 1) lay_12 dX12_oneRoutine_422 (by decide) fl12_268 rfl (tyX12_ok 30 (by decide)) rfl rfl rfl ?_
                refine tm_iconst dX12_oneRoutine_425 ?_
                have ffz := (show Fr [26, 27, 30] [9] [] (fArg (v35) (0) (1) (0) σ34) (sS 30 ((σ.1 30) + 1) σ64) from ((Fr.rfl.trans (Fr.sub f66 (by decide) (by decide) (by decide))).S (by decide)))
                have flz : FLT (fArg (v35) (0) (1) (0) σ34) (sS 30 ((σ.1 30) + 1) σ64) := ntf
                have pboZ : PBO ρ (sS 30 ((σ.1 30) + 1) σ64) := pboC.fin ffz flz (fun j _ => congrFun ((show Fr [26, 27] [] [] (fArg (v35) (0) (1) (0) σ34) σ64 from f66).2.1 9 (by decide)) j)
                have srz : srt (sS 30 ((σ.1 30) + 1) σ64) = srt (reP (ρ.1 19) ((fArg (v35) (0) (1) (0) σ34).1 34) (fArg (v35) (0) (1) (0) σ34)) := by have z9 : (fArg (v35) (0) (1) (0) σ34).1 30 = σ.1 30 := by { omega }; unfold reP; rw [if_pos ⟨by omega, by omega⟩, ← hp, ← nt4, z9]
                have vwz := vw_fr ffz (by decide) (by decide) (by decide)
                have samz : SAM (fArg (v35) (0) (1) (0) σ34) (sS 30 ((σ.1 30) + 1) σ64) := by unfold vw at vwz; exact ⟨congrArg Prod.fst vwz, congrArg (fun z => z.2.1) vwz, congrArg (fun z => z.2.2) vwz⟩
                have gz : ∀ x, GOS [30] (sS 34 x ρ) (qq 0) [] (sS 30 ((σ.1 30) + 1) σ64) (qq 0) (lgb ++ [(0, (fArg (v35) (0) (1) (0) σ34).1 34, 0)]) := fun x => (gall x).trans (g34 (q := qq (ρ.1 19)) samz (EFF.rend srz))
                have tkz : TOK (sS 30 ((σ.1 30) + 1) σ64) := by unfold TOK; rw [ffz.1 19 (by decide), ffz.1 20 (by decide), ffz.1 21 (by decide), ffz.1 22 (by decide), ffz.1 23 (by decide), fP.1 19 (by decide), fP.1 20 (by decide), fP.1 21 (by decide), fP.1 22 (by decide), fP.1 23 (by decide)]; exact bt.2.2.1.1
                have e30z : (sS 30 ((σ.1 30) + 1) σ64).1 30 = ρ.1 30 + 1 := by rw [show (sS 30 ((σ.1 30) + 1) σ64).1 30 = (σ.1 30) + 1 from rs_eq]; omega
                have e19z : (sS 30 ((σ.1 30) + 1) σ64).1 19 = σ19.1 19 := (ffz.1 19 (by decide)).trans (fP.1 19 (by decide))
                have e31z : (sS 30 ((σ.1 30) + 1) σ64).1 31 = σ19.1 31 := (ffz.1 31 (by decide)).trans (fP.1 31 (by decide))
                have e28z : (sS 30 ((σ.1 30) + 1) σ64).1 28 = 0 := by rw [ffz.1 28 (by decide), fP.1 28 (by decide), b28]; exact e28s
                have e29z : (sS 30 ((σ.1 30) + 1) σ64).1 29 = 0 := by rw [ffz.1 29 (by decide), fP.1 29 (by decide), b29]; exact e29s
                have pcz := bt.2.1
                unfold PBC at pcz
                have pl5 : ρ.1 19 + 5 ≤ (sS 30 ((σ.1 30) + 1) σ64).1 19 := by have z6 := bp3.2.2.2.2.2.1; have z7 : (sS 34 0 (sS 33 0 (sS 32 0 σ2))).1 19 = σ2.1 19 := rfl; have z8 : (sS 34 0 (sS 33 0 (sS 32 0 σ2))).1 34 = 0 := rfl; omega
                exact tm_zret (v := 1) rfl (by decide) dX12_oneRoutine_426 (hret _ _ ((Fr.sub hd.1 (by decide) (by decide) (by decide) : Fr [19, 20, 22, 23, 26, 27, 28, 29, 30, 31, 32, 33, 34, 39, 40, 43] [3, 4, 5, 6, 7, 8, 9, 35, 36, 37, 41, 42, 45] [24, 38, 44] ρ σ).trans (((((((((Fr.rfl.trans (Fr.sub f5 (by decide) (by decide) (by decide))).S (by decide)).S (by decide)).S (by decide)).trans (Fr.sub f22 (by decide) (by decide) (by decide))).trans (Fr.sub f36 (by decide) (by decide) (by decide))).trans (Fr.sub fArg_fr (by decide) (by decide) (by decide))).trans (Fr.sub f66 (by decide) (by decide) (by decide))).S (by decide))) (f67.S (by omega)) (by omega) pboZ (fun _ => ⟨tkz, ⟨e30z, pl5, by omega, e28z, e29z⟩, _, gz, nrl, (fun z1 z2 => absurd z2 (by have y := ntn (by omega); exact y)), (fun z => absurd z (by omega)), (fun z => absurd z (by omega))⟩) (fun q => absurd q (by decide)))
              · have vw3 := vw_fr (show Fr [30] [] [] (fArg (v35) (0) (1) (0) σ34) (sS 30 ((fArg (v35) (0) (1) (0) σ34).1 30 + 1) (fArg (v35) (0) (1) (0) σ34)) from Fr.rfl.S (by decide)) (by decide) (by decide) (by decide)
                have sam3 : SAM (fArg (v35) (0) (1) (0) σ34) (sS 30 ((fArg (v35) (0) (1) (0) σ34).1 30 + 1) (fArg (v35) (0) (1) (0) σ34)) := by unfold vw at vw3; exact ⟨congrArg Prod.fst vw3, congrArg (fun z => z.2.1) vw3, congrArg (fun z => z.2.2) vw3⟩
                have srz3 : srt (sS 30 ((fArg (v35) (0) (1) (0) σ34).1 30 + 1) (fArg (v35) (0) (1) (0) σ34)) = srt (reP (ρ.1 19) ((fArg (v35) (0) (1) (0) σ34).1 34) (fArg (v35) (0) (1) (0) σ34)) := by unfold reP; rw [if_neg (by omega)]
                have gz3 : ∀ x, GOS [30] (sS 34 x ρ) (qq 0) [] (sS 30 ((fArg (v35) (0) (1) (0) σ34).1 30 + 1) (fArg (v35) (0) (1) (0) σ34)) (qq 0) (lgb ++ [(0, (fArg (v35) (0) (1) (0) σ34).1 34, 0)]) := fun x => (gall x).trans (g34 (q := qq (ρ.1 19)) sam3 (EFF.rend srz3))
                have hq8 := hoh.2.2.2.2.2.2.2 (by omega) _ _ gz3
                have r6 : ρ.1 30 < 6 := hq8.1 (by rw [nrl]; decide)
                have hq9 := hq8.2
                clear hq8
                have i120 : (fArg (v35) (0) (1) (0) σ34).1 34 ≤ 120 := (hq9 (0, (fArg (v35) (0) (1) (0) σ34).1 34, 0) (List.mem_append_right _ (List.mem_singleton.mpr rfl))).1 rfl
                refine tm_aload_n dX12_oneRoutine_402 rfl 3 rfl ?_
                refine tm_get (k := 9) (v := .ref (b + 1 + 7)) lay_12 dX12_oneRoutine_403 (by decide) fl12_32 rfl ?_
                refine tm_aload_n dX12_oneRoutine_406 rfl 3 rfl ?_
                refine tm_getS (k := 30) (t := σ.1 30) dX12_oneRoutine_407 (by decide) fl12_268 rfl (rs_F f66 (by decide) (rs_F fArg_fr (by decide) (rs_F f36 (by decide) (rs_F f22 (by decide) (rs_o (by decide) (rs_o (by decide) (rs_o (by decide) (rs_F f5 (by decide) (rfl))))))))) ?_
                have g74 := RG.s hR 30
                refine tm_aload_n dX12_oneRoutine_410 rfl 3 rfl ?_
                refine tm_getS (k := 34) (t := σ34.1 34) dX12_oneRoutine_411 (by decide) fl12_278 rfl (rs_F f66 (by decide) (rs_F fArg_fr (by decide) (rfl))) ?_
                have g75 := RG.s f37 34
                refine tm_iast (z := σ.1 30) (v := σ34.1 34) dX12_oneRoutine_414 (show mT[7]? = some (9, 0, 13) from rfl) (by omega) (by omega) (by decide) ?_
                refine tm_aload_n dX12_oneRoutine_415 rfl 3 rfl ?_
                refine tm_dup dX12_oneRoutine_416 rfl ?_
                refine tm_getS (k := 30) (t := σ.1 30) dX12_oneRoutine_417 (by decide) fl12_268 rfl (rs_A (rs_F f66 (by decide) (rs_F fArg_fr (by decide) (rs_F f36 (by decide) (rs_F f22 (by decide) (rs_o (by decide) (rs_o (by decide) (rs_o (by decide) (rs_F f5 (by decide) (rfl)))))))))) ?_
                have g76 := RG.s hR 30
                refine tm_iconst dX12_oneRoutine_420 ?_
                refine tm_iadd dX12_oneRoutine_421 ?_
                refine tm_putS (k := 30) (v := (σ.1 30) + 1) lay_12 dX12_oneRoutine_422 (by decide) fl12_268 rfl (tyX12_ok 30 (by decide)) rfl rfl rfl ?_
                refine tm_iconst dX12_oneRoutine_425 ?_
                exact tm_zret (v := 1) rfl (by decide) dX12_oneRoutine_426 ((by exfalso; omega))
        · refine tm_iconst dX12_oneRoutine_350 ?_
          exact tm_zret (v := 0) rfl (by decide) dX12_oneRoutine_351 (hret _ _ ((Fr.sub hd.1 (by decide) (by decide) (by decide) : Fr [19, 20, 22, 23, 26, 27, 28, 29, 30, 31, 32, 33, 34, 39, 40, 43] [3, 4, 5, 6, 7, 8, 9, 35, 36, 37, 41, 42, 45] [24, 38, 44] ρ σ).trans (((((Fr.rfl.trans (Fr.sub f5 (by decide) (by decide) (by decide))).S (by decide)).S (by decide)).S (by decide)).trans (Fr.sub f22 (by decide) (by decide) (by decide)))) f23 (by omega) (pboA.pb e30A bp3 (by show (0 : Int) ≤ 0; decide) bp1 (by decide) (by decide) (by decide)) (fun q => absurd q (by omega)) (fun _ x => (g35_ x).fail ((bp5 (by omega) _).more [51, 34])))
      · have nn1 := hd.2.2.1 (σ.1 30) (by omega) (by omega)
        refine tm_aload_n dX12_oneRoutine_317 rfl 2 rfl ?_
        refine tm_get (k := 35) (v := .ref (b + 1 + 16)) lay_12 dX12_oneRoutine_318 (by decide) fl12_63 rfl ?_
        refine tm_aload_n dX12_oneRoutine_321 rfl 2 rfl ?_
        refine tm_getS (k := 30) (t := σ.1 30) dX12_oneRoutine_322 (by decide) fl12_268 rfl (rs_F f5 (by decide) (rfl)) ?_
        have g77 := RG.s hR 30
        refine tm_iald (z := σ.1 30) (v := σ.2.1 35 (σ.1 30)) dX12_oneRoutine_325 (show mT[16]? = some (35, 0, 6) from rfl) (by omega) (by omega) (by decide) (ra_F f5 (by decide) (rfl)) ?_
        have g78 := RG.a hR 35 (σ.1 30)
        refine tm_goto (tgt := 330) dX12_oneRoutine_326 (by decide) ?_
        refine tm_putS (k := 32) (v := σ.2.1 35 (σ.1 30)) lay_12 dX12_oneRoutine_330 (by decide) fl12_291 rfl (tyX12_ok 32 (by decide)) rfl rfl rfl ?_
        refine tm_aload_n dX12_oneRoutine_333 rfl 2 rfl ?_
        refine tm_iconst dX12_oneRoutine_334 ?_
        refine tm_putS (k := 33) (v := 0) lay_12 dX12_oneRoutine_335 (by decide) fl12_370 rfl (tyX12_ok 33 (by decide)) rfl rfl rfl ?_
        refine tm_aload_n dX12_oneRoutine_338 rfl 2 rfl ?_
        refine tm_iconst dX12_oneRoutine_339 ?_
        refine tm_putS (k := 34) (v := 0) lay_12 dX12_oneRoutine_340 (by decide) fl12_278 rfl (tyX12_ok 34 (by decide)) rfl rfl rfl ?_
        have g35_ : ∀ x, GOS [30] (sS 34 x ρ) (qq 0) [28, 51, 34] (sS 34 0 (sS 33 0 (sS 32 (σ.2.1 35 (σ.1 30)) σ2))) (qq (ρ.1 19)) [] := fun x => (gx3 x).then (g35 ⟨rfl, rfl, rfl, rfl⟩)
        have rdn : RDY (sS 34 0 (sS 33 0 (sS 32 (σ.2.1 35 (σ.1 30)) σ2))) := RDY.new ynq.2.2.1 (by omega) (by omega) (by omega) (by omega)
        have pboA : PBO ρ (sS 34 0 (sS 33 0 (sS 32 (σ.2.1 35 (σ.1 30)) σ2))) := pbo9.fr (show Fr [32, 33, 34] [] [] σ2 (sS 34 0 (sS 33 0 (sS 32 (σ.2.1 35 (σ.1 30)) σ2))) from (((Fr.rfl.S (by decide)).S (by decide)).S (by decide))) (by decide) (by decide) (by decide)
        have e30A : (sS 34 0 (sS 33 0 (sS 32 (σ.2.1 35 (σ.1 30)) σ2))).1 30 = ρ.1 30 := e309.trans e30h
        have e28s : (sS 34 0 (sS 33 0 (sS 32 (σ.2.1 35 (σ.1 30)) σ2))).1 28 = 0 := (yn1.1 28 (by decide)).trans ((hd.1.1 28 (by decide)).trans hoh.2.2.2.2.1.1)
        have e29s : (sS 34 0 (sS 33 0 (sS 32 (σ.2.1 35 (σ.1 30)) σ2))).1 29 = 0 := (yn1.1 29 (by decide)).trans ((hd.1.1 29 (by decide)).trans hoh.2.2.2.2.1.2)
        refine tm_aload_n dX12_oneRoutine_343 rfl 2 rfl ?_
        refine tm_callV (M := m_X12_oneRoutine) (pc := 344) (ix := 373) (M' := m_X12_block) (As := []) (rest := []) dX12_oneRoutine_344 ok_X12_block im_X12_block se_X12_block ml12_373 np_X12_block rfl rfl (Nat.le_of_ble_eq_true rfl) (Nat.le_of_ble_eq_true rfl) rfl (c_blk6 (d) (σ := (sS 34 0 (sS 33 0 (sS 32 (σ.2.1 35 (σ.1 30)) σ2))))  (((f6.S (by omega)).S (by omega)).S (by omega)) rdn nn9 e28s e29s pboA.2.2.2.2.2.2) (fun r79 σ80 hp => ?_)
        obtain ⟨v81, rfl, f82, f83, f84, f85, f86, f87⟩ := hp
        show Tm _ _ 347 b σ80 [(2, .int (iI m)), (1, .int (iI p)), (0, .ref b)] [.int (iI v81)] _
        have bp0 := f82
        have bp1 := f83
        have bp2 := f84
        have bp3 := f85
        have bp4 := f86
        have bp5 := f87
        refine tm_if_ne (tgt := 352) dX12_oneRoutine_347 (by decide) ⟨by omega, by omega⟩ (fun h88 => ?_) (fun h88 => ?_)
        · obtain ⟨lgb, bt, bs, bf, b28, b29⟩ := bp4 (by omega)
          have rdb := bt.2.2.1.2
          have tkb := bt.2.2.1.1.1
          have pboB : PBO ρ σ80 := pboA.pb e30A bp3 (by show (0 : Int) ≤ 0; decide) bp1 (by decide) (by decide) (by decide)
          have e30B : σ80.1 30 = ρ.1 30 := bp3.2.2.2.2.2.2.2.trans e30A
          refine tm_aload_n dX12_oneRoutine_352 rfl 2 rfl ?_
          refine tm_bipush dX12_oneRoutine_353 (by decide) ?_
          refine tm_iconst dX12_oneRoutine_355 ?_
          refine tm_iconst dX12_oneRoutine_356 ?_
          refine tm_callV (M := m_X12_oneRoutine) (pc := 357) (ix := 294) (M' := m_X12_put) (As := [.int (iI 7), .int (iI 0), .int (iI 0)]) (rest := []) dX12_oneRoutine_357 ok_X12_put im_X12_put se_X12_put ml12_294 np_X12_put rfl rfl (Nat.le_of_ble_eq_true rfl) (Nat.le_of_ble_eq_true rfl) rfl (c_X12_put (d + 60) (σ := σ80) (k := 7) (e := 0) (o := 0) f84 (by rw [show σ80.1 30 = σ.1 30 from rs_F f83 (by decide) (rs_o (by decide) (rs_o (by decide) (rs_o (by decide) (rs_F f5 (by decide) (rfl))))), show σ80.1 34 = σ80.1 34 from rfl]; omega) (by omega) (by omega) (by omega)) (fun r89 σ90 hp => ?_)
          obtain ⟨v91, rfl, f92, f93, f94, f95, f96, f97, f98⟩ := hp
          show Tm _ _ 360 b σ90 [(2, .int (iI m)), (1, .int (iI p)), (0, .ref b)] [.int (iI v91)] _
          have jvP := f94
          have jnP := f95
          have jiP := f96
          have joP := f97
          have jrP := f98
          refine tm_istore (L' := [(4, .int (iI v91)), (2, .int (iI m)), (1, .int (iI p)), (0, .ref b)]) dX12_oneRoutine_360 (by decide) rfl ?_
          refine tm_aload_n dX12_oneRoutine_362 rfl 3 rfl ?_
          refine tm_iload dX12_oneRoutine_363 0 rfl ?_
          refine tm_iconst dX12_oneRoutine_365 ?_
          refine tm_iconst dX12_oneRoutine_366 ?_
          refine tm_iconst dX12_oneRoutine_367 ?_
          refine tm_callV (M := m_X12_oneRoutine) (pc := 368) (ix := 298) (M' := m_X12_setArg) (As := [.int (iI v91), .int (iI 0), .int (iI 1), .int (iI 0)]) (rest := []) dX12_oneRoutine_368 ok_X12_setArg im_X12_setArg se_X12_setArg ml12_298 np_X12_setArg rfl rfl (Nat.le_of_ble_eq_true rfl) (Nat.le_of_ble_eq_true rfl) rfl (c_X12_setArg (d + 61) (σ := σ90) (x := v91) (i := 0) (k := 1) (w := 0) (by omega)) (fun r99 σ100 hp => ?_)
          obtain ⟨rfl, f102⟩ := hp
          subst f102
          show Tm _ _ 371 b (fArg (v91) (0) (1) (0) σ90) [(4, .int (iI v91)), (2, .int (iI m)), (1, .int (iI p)), (0, .ref b)] [] _
          have jvP : _ = PXx σ80 := jvP
          have fAP := (show Fr [33, 34] [3, 4, 5, 6, 7, 8] [] σ80 (fArg (v91) (0) (1) (0) σ90) from ((Fr.rfl.trans (Fr.sub f92 (by decide) (by decide) (by decide))).trans (Fr.sub fArg_fr (by decide) (by decide) (by decide))))
          have eAP : (fArg (v91) (0) (1) (0) σ90).1 34 = σ80.1 34 + 1 := jnP
          have pbP : PBF σ80 (fArg (v91) (0) (1) (0) σ90) := PBF.it bt.nn fAP (by decide) (by decide) (by decide) eAP jvP (joP.trans (OFF.arg (by decide) (by decide)))
          have tbP : TBm σ80 (fArg (v91) (0) (1) (0) σ90) := TBm.of fAP (by decide) (by decide) (by decide) (by decide)
          have fP := (show Fr [34] [3, 4, 5, 6, 7, 8] [] σ80 (fArg (v91) (0) (1) (0) σ90) from ((Fr.rfl.trans (Fr.sub f92 (by decide) (by decide) (by decide))).trans (Fr.sub fArg_fr (by decide) (by decide) (by decide))))
          have okP : OKI (fArg (v91) (0) (1) (0) σ90) 1 (PXx σ80) := by rw [← jvP]; exact oki_arg1 jiP (Or.inr (Or.inr (Or.inl rfl))) (fun q => absurd q (by decide)) (fun q => absurd q (by decide)) (by omega)
          have k7P : (fArg (v91) (0) (1) (0) σ90).2.1 3 (PXx σ80) = 7 := by rw [← jvP]; exact jiP.1
          have gall : ∀ x, GOS [30] (sS 34 x ρ) (qq 0) [34] (fArg (v91) (0) (1) (0) σ90) (qq (ρ.1 19)) lgb := fun x => ((g35_ x).then ((bt.2.2.2.2.2 (ρ.1 19)).more [51, 34])).and ((g51 (CHG.put fP (by decide) (by decide) (by decide) eAP) : GOS [51] σ80 (qq (ρ.1 19)) [] (fArg (v91) (0) (1) (0) σ90) (qq (ρ.1 19)) []).more [34])
          have nrl : nR (lgb ++ [(0, (fArg (v91) (0) (1) (0) σ90).1 34, 0)]) = 1 := by rw [nR_app, (bt.2.2.2.2.2 0).nr0 (by decide)]; rfl
          have pboC : PBO ρ (fArg (v91) (0) (1) (0) σ90) := pboB.pb e30B pbP rdb.2.2.1.1 fP (by decide) (by decide) (by decide)
          have e30C : (fArg (v91) (0) (1) (0) σ90).1 30 = ρ.1 30 := (fP.1 30 (by decide)).trans e30B
          have e25C : (fArg (v91) (0) (1) (0) σ90).1 25 = ρ.1 25 := pboC.2.2.2.2.1
          have R371 : RG (fArg (v91) (0) (1) (0) σ90) := ((f93).arg (by omega) (by omega))
          refine tm_aload_n dX12_oneRoutine_371 rfl 3 rfl ?_
          refine tm_getS (k := 25) (t := σ.1 25) dX12_oneRoutine_372 (by decide) fl12_255 rfl (rs_F fArg_fr (by decide) (rs_F f92 (by decide) (rs_F f83 (by decide) (rs_o (by decide) (rs_o (by decide) (rs_o (by decide) (rs_F f5 (by decide) (rfl)))))))) ?_
          have g103 := RG.s hR 25
          refine tm_iconst dX12_oneRoutine_375 ?_
          refine tm_icmp_ne (tgt := 394) dX12_oneRoutine_376 (by decide) ⟨by omega, by omega⟩ ⟨by decide, by decide⟩ (fun h104 => ?_) (fun h104 => ?_)
          · refine tm_aload_n dX12_oneRoutine_394 rfl 3 rfl ?_
            refine tm_getS (k := 25) (t := σ.1 25) dX12_oneRoutine_395 (by decide) fl12_255 rfl (rs_F fArg_fr (by decide) (rs_F f92 (by decide) (rs_F f83 (by decide) (rs_o (by decide) (rs_o (by decide) (rs_o (by decide) (rs_F f5 (by decide) (rfl)))))))) ?_
            have g105 := RG.s hR 25
            refine tm_iconst dX12_oneRoutine_398 ?_
            refine tm_icmp_ne (tgt := 415) dX12_oneRoutine_399 (by decide) ⟨by omega, by omega⟩ ⟨by decide, by decide⟩ (fun h106 => ?_) (fun h106 => ?_)
            · refine tm_aload_n dX12_oneRoutine_415 rfl 3 rfl ?_
              refine tm_dup dX12_oneRoutine_416 rfl ?_
              refine tm_getS (k := 30) (t := σ.1 30) dX12_oneRoutine_417 (by decide) fl12_268 rfl (rs_F fArg_fr (by decide) (rs_F f92 (by decide) (rs_F f83 (by decide) (rs_o (by decide) (rs_o (by decide) (rs_o (by decide) (rs_F f5 (by decide) (rfl)))))))) ?_
              have g107 := RG.s hR 30
              refine tm_iconst dX12_oneRoutine_420 ?_
              refine tm_iadd dX12_oneRoutine_421 ?_
              refine tm_putS (k := 30) (v := (σ.1 30) + 1) lay_12 dX12_oneRoutine_422 (by decide) fl12_268 rfl (tyX12_ok 30 (by decide)) rfl rfl rfl ?_
              refine tm_iconst dX12_oneRoutine_425 ?_
              have ffz := (show Fr [26, 27, 30] [9] [] (fArg (v91) (0) (1) (0) σ90) (sS 30 ((σ.1 30) + 1) (fArg (v91) (0) (1) (0) σ90)) from (Fr.rfl.S (by decide)))
              have flz : FLT (fArg (v91) (0) (1) (0) σ90) (sS 30 ((σ.1 30) + 1) (fArg (v91) (0) (1) (0) σ90)) := (FLT.eq rfl)
              have pboZ : PBO ρ (sS 30 ((σ.1 30) + 1) (fArg (v91) (0) (1) (0) σ90)) := pboC.fin ffz flz (fun j _ => rfl)
              have srz : srt (sS 30 ((σ.1 30) + 1) (fArg (v91) (0) (1) (0) σ90)) = srt (reP (ρ.1 19) ((fArg (v91) (0) (1) (0) σ90).1 34) (fArg (v91) (0) (1) (0) σ90)) := by have z9 : (fArg (v91) (0) (1) (0) σ90).1 30 = σ.1 30 := by { omega }; unfold reP; rw [if_neg (by omega), z9]
              have vwz := vw_fr ffz (by decide) (by decide) (by decide)
              have samz : SAM (fArg (v91) (0) (1) (0) σ90) (sS 30 ((σ.1 30) + 1) (fArg (v91) (0) (1) (0) σ90)) := by unfold vw at vwz; exact ⟨congrArg Prod.fst vwz, congrArg (fun z => z.2.1) vwz, congrArg (fun z => z.2.2) vwz⟩
              have gz : ∀ x, GOS [30] (sS 34 x ρ) (qq 0) [] (sS 30 ((σ.1 30) + 1) (fArg (v91) (0) (1) (0) σ90)) (qq 0) (lgb ++ [(0, (fArg (v91) (0) (1) (0) σ90).1 34, 0)]) := fun x => (gall x).trans (g34 (q := qq (ρ.1 19)) samz (EFF.rend srz))
              have tkz : TOK (sS 30 ((σ.1 30) + 1) (fArg (v91) (0) (1) (0) σ90)) := by unfold TOK; rw [ffz.1 19 (by decide), ffz.1 20 (by decide), ffz.1 21 (by decide), ffz.1 22 (by decide), ffz.1 23 (by decide), fP.1 19 (by decide), fP.1 20 (by decide), fP.1 21 (by decide), fP.1 22 (by decide), fP.1 23 (by decide)]; exact bt.2.2.1.1
              have e30z : (sS 30 ((σ.1 30) + 1) (fArg (v91) (0) (1) (0) σ90)).1 30 = ρ.1 30 + 1 := by rw [show (sS 30 ((σ.1 30) + 1) (fArg (v91) (0) (1) (0) σ90)).1 30 = (σ.1 30) + 1 from rs_eq]; omega
              have e19z : (sS 30 ((σ.1 30) + 1) (fArg (v91) (0) (1) (0) σ90)).1 19 = σ80.1 19 := (ffz.1 19 (by decide)).trans (fP.1 19 (by decide))
              have e31z : (sS 30 ((σ.1 30) + 1) (fArg (v91) (0) (1) (0) σ90)).1 31 = σ80.1 31 := (ffz.1 31 (by decide)).trans (fP.1 31 (by decide))
              have e28z : (sS 30 ((σ.1 30) + 1) (fArg (v91) (0) (1) (0) σ90)).1 28 = 0 := by rw [ffz.1 28 (by decide), fP.1 28 (by decide), b28]; exact e28s
              have e29z : (sS 30 ((σ.1 30) + 1) (fArg (v91) (0) (1) (0) σ90)).1 29 = 0 := by rw [ffz.1 29 (by decide), fP.1 29 (by decide), b29]; exact e29s
              have pcz := bt.2.1
              unfold PBC at pcz
              have pl5 : ρ.1 19 + 5 ≤ (sS 30 ((σ.1 30) + 1) (fArg (v91) (0) (1) (0) σ90)).1 19 := by have z6 := bp3.2.2.2.2.2.1; have z7 : (sS 34 0 (sS 33 0 (sS 32 (σ.2.1 35 (σ.1 30)) σ2))).1 19 = σ2.1 19 := rfl; have z8 : (sS 34 0 (sS 33 0 (sS 32 (σ.2.1 35 (σ.1 30)) σ2))).1 34 = 0 := rfl; omega
              exact tm_zret (v := 1) rfl (by decide) dX12_oneRoutine_426 (hret _ _ ((Fr.sub hd.1 (by decide) (by decide) (by decide) : Fr [19, 20, 22, 23, 26, 27, 28, 29, 30, 31, 32, 33, 34, 39, 40, 43] [3, 4, 5, 6, 7, 8, 9, 35, 36, 37, 41, 42, 45] [24, 38, 44] ρ σ).trans ((((((((Fr.rfl.trans (Fr.sub f5 (by decide) (by decide) (by decide))).S (by decide)).S (by decide)).S (by decide)).trans (Fr.sub f83 (by decide) (by decide) (by decide))).trans (Fr.sub f92 (by decide) (by decide) (by decide))).trans (Fr.sub fArg_fr (by decide) (by decide) (by decide))).S (by decide))) (((f93).arg (by omega) (by omega)).S (by omega)) (by omega) pboZ (fun _ => ⟨tkz, ⟨e30z, pl5, by omega, e28z, e29z⟩, _, gz, nrl, (fun z => absurd z (by omega)), (fun z => P1O.mk hd hpa z (show Fr [19, 20, 22, 23, 26, 27, 28, 29, 30, 31, 32, 33, 34, 39, 40] [3, 4, 5, 6, 7, 8, 9, 35, 37, 41, 42] [24, 38] σ (sS 30 ((σ.1 30) + 1) (fArg (v91) (0) (1) (0) σ90)) from ((((((((Fr.rfl.trans (Fr.sub f5 (by decide) (by decide) (by decide))).S (by decide)).S (by decide)).S (by decide)).trans (Fr.sub f83 (by decide) (by decide) (by decide))).trans (Fr.sub f92 (by decide) (by decide) (by decide))).trans (Fr.sub fArg_fr (by decide) (by decide) (by decide))).S (by decide))) (by decide) (by decide) ((show FLT σ (sS 34 0 (sS 33 0 (sS 32 (σ.2.1 35 (σ.1 30)) σ2))) from yn5).trans ((bp3.2.2.2.2.1).trans ((pbP.2.2.2.2.1).trans flz))) (fun r => ⟨by have y1 := (bp3.2.2.2.1 r).1; have y2 := (pbP.2.2.2.1 r).1; have y3 : (sS 34 0 (sS 33 0 (sS 32 (σ.2.1 35 (σ.1 30)) σ2))).2.1 35 r = σ.2.1 35 r := congrFun (yn1.2.1 35 (by decide)) r; have y4 : (sS 30 ((σ.1 30) + 1) (fArg (v91) (0) (1) (0) σ90)).2.1 35 r = (fArg (v91) (0) (1) (0) σ90).2.1 35 r := congrFun (ffz.2.1 35 (by decide)) r; omega, fun y => by have y1 := (bp3.2.2.2.1 r).2 (by rw [e30A]; exact y); have y2 := (pbP.2.2.2.1 r).2 (by rw [e30B]; exact y); have y3 : (sS 34 0 (sS 33 0 (sS 32 (σ.2.1 35 (σ.1 30)) σ2))).2.1 35 r = σ.2.1 35 r := congrFun (yn1.2.1 35 (by decide)) r; have y4 : (sS 30 ((σ.1 30) + 1) (fArg (v91) (0) (1) (0) σ90)).2.1 35 r = (fArg (v91) (0) (1) (0) σ90).2.1 35 r := congrFun (ffz.2.1 35 (by decide)) r; omega⟩)), (fun z => absurd z (by omega))⟩) (fun q => absurd q (by decide)))
            · have vw3 := vw_fr (show Fr [30] [] [] (fArg (v91) (0) (1) (0) σ90) (sS 30 ((fArg (v91) (0) (1) (0) σ90).1 30 + 1) (fArg (v91) (0) (1) (0) σ90)) from Fr.rfl.S (by decide)) (by decide) (by decide) (by decide)
              have sam3 : SAM (fArg (v91) (0) (1) (0) σ90) (sS 30 ((fArg (v91) (0) (1) (0) σ90).1 30 + 1) (fArg (v91) (0) (1) (0) σ90)) := by unfold vw at vw3; exact ⟨congrArg Prod.fst vw3, congrArg (fun z => z.2.1) vw3, congrArg (fun z => z.2.2) vw3⟩
              have srz3 : srt (sS 30 ((fArg (v91) (0) (1) (0) σ90).1 30 + 1) (fArg (v91) (0) (1) (0) σ90)) = srt (reP (ρ.1 19) ((fArg (v91) (0) (1) (0) σ90).1 34) (fArg (v91) (0) (1) (0) σ90)) := by unfold reP; rw [if_neg (by omega)]
              have gz3 : ∀ x, GOS [30] (sS 34 x ρ) (qq 0) [] (sS 30 ((fArg (v91) (0) (1) (0) σ90).1 30 + 1) (fArg (v91) (0) (1) (0) σ90)) (qq 0) (lgb ++ [(0, (fArg (v91) (0) (1) (0) σ90).1 34, 0)]) := fun x => (gall x).trans (g34 (q := qq (ρ.1 19)) sam3 (EFF.rend srz3))
              have hq8 := hoh.2.2.2.2.2.2.2 (by omega) _ _ gz3
              have r6 : ρ.1 30 < 6 := hq8.1 (by rw [nrl]; decide)
              have hq9 := hq8.2
              clear hq8
              have i120 : (fArg (v91) (0) (1) (0) σ90).1 34 ≤ 120 := (hq9 (0, (fArg (v91) (0) (1) (0) σ90).1 34, 0) (List.mem_append_right _ (List.mem_singleton.mpr rfl))).1 rfl
              refine tm_aload_n dX12_oneRoutine_402 rfl 3 rfl ?_
              refine tm_get (k := 9) (v := .ref (b + 1 + 7)) lay_12 dX12_oneRoutine_403 (by decide) fl12_32 rfl ?_
              refine tm_aload_n dX12_oneRoutine_406 rfl 3 rfl ?_
              refine tm_getS (k := 30) (t := σ.1 30) dX12_oneRoutine_407 (by decide) fl12_268 rfl (rs_F fArg_fr (by decide) (rs_F f92 (by decide) (rs_F f83 (by decide) (rs_o (by decide) (rs_o (by decide) (rs_o (by decide) (rs_F f5 (by decide) (rfl)))))))) ?_
              have g108 := RG.s hR 30
              refine tm_aload_n dX12_oneRoutine_410 rfl 3 rfl ?_
              refine tm_getS (k := 34) (t := σ90.1 34) dX12_oneRoutine_411 (by decide) fl12_278 rfl (rs_F fArg_fr (by decide) (rfl)) ?_
              have g109 := RG.s f93 34
              refine tm_iast (z := σ.1 30) (v := σ90.1 34) dX12_oneRoutine_414 (show mT[7]? = some (9, 0, 13) from rfl) (by omega) (by omega) (by decide) ?_
              refine tm_aload_n dX12_oneRoutine_415 rfl 3 rfl ?_
              refine tm_dup dX12_oneRoutine_416 rfl ?_
              refine tm_getS (k := 30) (t := σ.1 30) dX12_oneRoutine_417 (by decide) fl12_268 rfl (rs_A (rs_F fArg_fr (by decide) (rs_F f92 (by decide) (rs_F f83 (by decide) (rs_o (by decide) (rs_o (by decide) (rs_o (by decide) (rs_F f5 (by decide) (rfl))))))))) ?_
              have g110 := RG.s hR 30
              refine tm_iconst dX12_oneRoutine_420 ?_
              refine tm_iadd dX12_oneRoutine_421 ?_
              refine tm_putS (k := 30) (v := (σ.1 30) + 1) lay_12 dX12_oneRoutine_422 (by decide) fl12_268 rfl (tyX12_ok 30 (by decide)) rfl rfl rfl ?_
              refine tm_iconst dX12_oneRoutine_425 ?_
              have ffz := (show Fr [26, 27, 30] [9] [] (fArg (v91) (0) (1) (0) σ90) (sS 30 ((σ.1 30) + 1) (sA 9 (σ.1 30) (σ90.1 34) (fArg (v91) (0) (1) (0) σ90))) from ((Fr.rfl.A (by decide)).S (by decide)))
              have flz : FLT (fArg (v91) (0) (1) (0) σ90) (sS 30 ((σ.1 30) + 1) (sA 9 (σ.1 30) (σ90.1 34) (fArg (v91) (0) (1) (0) σ90))) := (FLT.eq rfl)
              have pboZ : PBO ρ (sS 30 ((σ.1 30) + 1) (sA 9 (σ.1 30) (σ90.1 34) (fArg (v91) (0) (1) (0) σ90))) := pboC.fin ffz flz (fun j z => ra_ne (by omega) rfl)
              have srz : srt (sS 30 ((σ.1 30) + 1) (sA 9 (σ.1 30) (σ90.1 34) (fArg (v91) (0) (1) (0) σ90))) = srt (reP (ρ.1 19) ((fArg (v91) (0) (1) (0) σ90).1 34) (fArg (v91) (0) (1) (0) σ90)) := by have z9 : (fArg (v91) (0) (1) (0) σ90).1 30 = σ.1 30 := by { omega }; unfold reP; rw [if_neg (by omega), z9]; rfl
              have vwz := vw_fr ffz (by decide) (by decide) (by decide)
              have samz : SAM (fArg (v91) (0) (1) (0) σ90) (sS 30 ((σ.1 30) + 1) (sA 9 (σ.1 30) (σ90.1 34) (fArg (v91) (0) (1) (0) σ90))) := by unfold vw at vwz; exact ⟨congrArg Prod.fst vwz, congrArg (fun z => z.2.1) vwz, congrArg (fun z => z.2.2) vwz⟩
              have gz : ∀ x, GOS [30] (sS 34 x ρ) (qq 0) [] (sS 30 ((σ.1 30) + 1) (sA 9 (σ.1 30) (σ90.1 34) (fArg (v91) (0) (1) (0) σ90))) (qq 0) (lgb ++ [(0, (fArg (v91) (0) (1) (0) σ90).1 34, 0)]) := fun x => (gall x).trans (g34 (q := qq (ρ.1 19)) samz (EFF.rend srz))
              have tkz : TOK (sS 30 ((σ.1 30) + 1) (sA 9 (σ.1 30) (σ90.1 34) (fArg (v91) (0) (1) (0) σ90))) := by unfold TOK; rw [ffz.1 19 (by decide), ffz.1 20 (by decide), ffz.1 21 (by decide), ffz.1 22 (by decide), ffz.1 23 (by decide), fP.1 19 (by decide), fP.1 20 (by decide), fP.1 21 (by decide), fP.1 22 (by decide), fP.1 23 (by decide)]; exact bt.2.2.1.1
              have e30z : (sS 30 ((σ.1 30) + 1) (sA 9 (σ.1 30) (σ90.1 34) (fArg (v91) (0) (1) (0) σ90))).1 30 = ρ.1 30 + 1 := by rw [show (sS 30 ((σ.1 30) + 1) (sA 9 (σ.1 30) (σ90.1 34) (fArg (v91) (0) (1) (0) σ90))).1 30 = (σ.1 30) + 1 from rs_eq]; omega
              have e19z : (sS 30 ((σ.1 30) + 1) (sA 9 (σ.1 30) (σ90.1 34) (fArg (v91) (0) (1) (0) σ90))).1 19 = σ80.1 19 := (ffz.1 19 (by decide)).trans (fP.1 19 (by decide))
              have e31z : (sS 30 ((σ.1 30) + 1) (sA 9 (σ.1 30) (σ90.1 34) (fArg (v91) (0) (1) (0) σ90))).1 31 = σ80.1 31 := (ffz.1 31 (by decide)).trans (fP.1 31 (by decide))
              have e28z : (sS 30 ((σ.1 30) + 1) (sA 9 (σ.1 30) (σ90.1 34) (fArg (v91) (0) (1) (0) σ90))).1 28 = 0 := by rw [ffz.1 28 (by decide), fP.1 28 (by decide), b28]; exact e28s
              have e29z : (sS 30 ((σ.1 30) + 1) (sA 9 (σ.1 30) (σ90.1 34) (fArg (v91) (0) (1) (0) σ90))).1 29 = 0 := by rw [ffz.1 29 (by decide), fP.1 29 (by decide), b29]; exact e29s
              have pcz := bt.2.1
              unfold PBC at pcz
              have pl5 : ρ.1 19 + 5 ≤ (sS 30 ((σ.1 30) + 1) (sA 9 (σ.1 30) (σ90.1 34) (fArg (v91) (0) (1) (0) σ90))).1 19 := by have z6 := bp3.2.2.2.2.2.1; have z7 : (sS 34 0 (sS 33 0 (sS 32 (σ.2.1 35 (σ.1 30)) σ2))).1 19 = σ2.1 19 := rfl; have z8 : (sS 34 0 (sS 33 0 (sS 32 (σ.2.1 35 (σ.1 30)) σ2))).1 34 = 0 := rfl; omega
              exact tm_zret (v := 1) rfl (by decide) dX12_oneRoutine_426 (hret _ _ ((Fr.sub hd.1 (by decide) (by decide) (by decide) : Fr [19, 20, 22, 23, 26, 27, 28, 29, 30, 31, 32, 33, 34, 39, 40, 43] [3, 4, 5, 6, 7, 8, 9, 35, 36, 37, 41, 42, 45] [24, 38, 44] ρ σ).trans (((((((((Fr.rfl.trans (Fr.sub f5 (by decide) (by decide) (by decide))).S (by decide)).S (by decide)).S (by decide)).trans (Fr.sub f83 (by decide) (by decide) (by decide))).trans (Fr.sub f92 (by decide) (by decide) (by decide))).trans (Fr.sub fArg_fr (by decide) (by decide) (by decide))).A (by decide)).S (by decide))) ((((f93).arg (by omega) (by omega)).A (by omega)).S (by omega)) (by omega) pboZ (fun _ => ⟨tkz, ⟨e30z, pl5, by omega, e28z, e29z⟩, _, gz, nrl, (fun z => absurd z (by omega)), (fun z => absurd z (by omega)), (fun z => by have q := PLI.mk bs bf (show (sS 34 0 (sS 33 0 (sS 32 (σ.2.1 35 (σ.1 30)) σ2))).1 25 = 3 by have y8 : (sS 34 0 (sS 33 0 (sS 32 (σ.2.1 35 (σ.1 30)) σ2))).1 25 = σ2.1 25 := rfl; omega) (by omega) rfl rfl bp3 bt.2.1 (fun e he => (hq9 e (List.mem_append_left _ he)).tb (pboA.2.1 (by omega)).2.2.2) (by omega) pbP eAP okP k7P bt.2.2.2.1 tbP (show Fr [30] [9] [] (fArg (v91) (0) (1) (0) σ90) (sS 30 ((σ.1 30) + 1) (sA 9 (σ.1 30) (σ90.1 34) (fArg (v91) (0) (1) (0) σ90))) from ((Fr.rfl.A (by decide)).S (by decide))) (by rw [e30A, ← e30h]; exact (ra_eq : (sA 9 (σ.1 30) _ _).2.1 9 (σ.1 30) = _)); rw [e30A] at q; exact q)⟩) (fun q => absurd q (by decide)))
          · refine tm_aload_n dX12_oneRoutine_379 rfl 3 rfl ?_
            refine tm_getS (k := 34) (t := σ90.1 34) dX12_oneRoutine_380 (by decide) fl12_278 rfl (rs_F fArg_fr (by decide) (rfl)) ?_
            have g111 := RG.s f93 34
            refine tm_bipush dX12_oneRoutine_383 (by decide) ?_
            refine tm_icmp_le (tgt := 394) dX12_oneRoutine_385 (by decide) ⟨by omega, by omega⟩ ⟨by decide, by decide⟩ (fun h112 => ?_) (fun h112 => ?_)
            · refine tm_aload_n dX12_oneRoutine_394 rfl 3 rfl ?_
              refine tm_getS (k := 25) (t := σ.1 25) dX12_oneRoutine_395 (by decide) fl12_255 rfl (rs_F fArg_fr (by decide) (rs_F f92 (by decide) (rs_F f83 (by decide) (rs_o (by decide) (rs_o (by decide) (rs_o (by decide) (rs_F f5 (by decide) (rfl)))))))) ?_
              have g113 := RG.s hR 25
              refine tm_iconst dX12_oneRoutine_398 ?_
              refine tm_icmp_ne (tgt := 415) dX12_oneRoutine_399 (by decide) ⟨by omega, by omega⟩ ⟨by decide, by decide⟩ (fun h114 => ?_) (fun h114 => ?_)
              · refine tm_aload_n dX12_oneRoutine_415 rfl 3 rfl ?_
                refine tm_dup dX12_oneRoutine_416 rfl ?_
                refine tm_getS (k := 30) (t := σ.1 30) dX12_oneRoutine_417 (by decide) fl12_268 rfl (rs_F fArg_fr (by decide) (rs_F f92 (by decide) (rs_F f83 (by decide) (rs_o (by decide) (rs_o (by decide) (rs_o (by decide) (rs_F f5 (by decide) (rfl)))))))) ?_
                have g115 := RG.s hR 30
                refine tm_iconst dX12_oneRoutine_420 ?_
                refine tm_iadd dX12_oneRoutine_421 ?_
                refine tm_putS (k := 30) (v := (σ.1 30) + 1) lay_12 dX12_oneRoutine_422 (by decide) fl12_268 rfl (tyX12_ok 30 (by decide)) rfl rfl rfl ?_
                refine tm_iconst dX12_oneRoutine_425 ?_
                have ffz := (show Fr [26, 27, 30] [9] [] (fArg (v91) (0) (1) (0) σ90) (sS 30 ((σ.1 30) + 1) (fArg (v91) (0) (1) (0) σ90)) from (Fr.rfl.S (by decide)))
                have flz : FLT (fArg (v91) (0) (1) (0) σ90) (sS 30 ((σ.1 30) + 1) (fArg (v91) (0) (1) (0) σ90)) := (FLT.eq rfl)
                have pboZ : PBO ρ (sS 30 ((σ.1 30) + 1) (fArg (v91) (0) (1) (0) σ90)) := pboC.fin ffz flz (fun j _ => rfl)
                have srz : srt (sS 30 ((σ.1 30) + 1) (fArg (v91) (0) (1) (0) σ90)) = srt (reP (ρ.1 19) ((fArg (v91) (0) (1) (0) σ90).1 34) (fArg (v91) (0) (1) (0) σ90)) := by have z9 : (fArg (v91) (0) (1) (0) σ90).1 30 = σ.1 30 := by { omega }; unfold reP; rw [if_neg (by omega), z9]
                have vwz := vw_fr ffz (by decide) (by decide) (by decide)
                have samz : SAM (fArg (v91) (0) (1) (0) σ90) (sS 30 ((σ.1 30) + 1) (fArg (v91) (0) (1) (0) σ90)) := by unfold vw at vwz; exact ⟨congrArg Prod.fst vwz, congrArg (fun z => z.2.1) vwz, congrArg (fun z => z.2.2) vwz⟩
                have gz : ∀ x, GOS [30] (sS 34 x ρ) (qq 0) [] (sS 30 ((σ.1 30) + 1) (fArg (v91) (0) (1) (0) σ90)) (qq 0) (lgb ++ [(0, (fArg (v91) (0) (1) (0) σ90).1 34, 0)]) := fun x => (gall x).trans (g34 (q := qq (ρ.1 19)) samz (EFF.rend srz))
                have tkz : TOK (sS 30 ((σ.1 30) + 1) (fArg (v91) (0) (1) (0) σ90)) := by unfold TOK; rw [ffz.1 19 (by decide), ffz.1 20 (by decide), ffz.1 21 (by decide), ffz.1 22 (by decide), ffz.1 23 (by decide), fP.1 19 (by decide), fP.1 20 (by decide), fP.1 21 (by decide), fP.1 22 (by decide), fP.1 23 (by decide)]; exact bt.2.2.1.1
                have e30z : (sS 30 ((σ.1 30) + 1) (fArg (v91) (0) (1) (0) σ90)).1 30 = ρ.1 30 + 1 := by rw [show (sS 30 ((σ.1 30) + 1) (fArg (v91) (0) (1) (0) σ90)).1 30 = (σ.1 30) + 1 from rs_eq]; omega
                have e19z : (sS 30 ((σ.1 30) + 1) (fArg (v91) (0) (1) (0) σ90)).1 19 = σ80.1 19 := (ffz.1 19 (by decide)).trans (fP.1 19 (by decide))
                have e31z : (sS 30 ((σ.1 30) + 1) (fArg (v91) (0) (1) (0) σ90)).1 31 = σ80.1 31 := (ffz.1 31 (by decide)).trans (fP.1 31 (by decide))
                have e28z : (sS 30 ((σ.1 30) + 1) (fArg (v91) (0) (1) (0) σ90)).1 28 = 0 := by rw [ffz.1 28 (by decide), fP.1 28 (by decide), b28]; exact e28s
                have e29z : (sS 30 ((σ.1 30) + 1) (fArg (v91) (0) (1) (0) σ90)).1 29 = 0 := by rw [ffz.1 29 (by decide), fP.1 29 (by decide), b29]; exact e29s
                have pcz := bt.2.1
                unfold PBC at pcz
                have pl5 : ρ.1 19 + 5 ≤ (sS 30 ((σ.1 30) + 1) (fArg (v91) (0) (1) (0) σ90)).1 19 := by have z6 := bp3.2.2.2.2.2.1; have z7 : (sS 34 0 (sS 33 0 (sS 32 (σ.2.1 35 (σ.1 30)) σ2))).1 19 = σ2.1 19 := rfl; have z8 : (sS 34 0 (sS 33 0 (sS 32 (σ.2.1 35 (σ.1 30)) σ2))).1 34 = 0 := rfl; omega
                exact tm_zret (v := 1) rfl (by decide) dX12_oneRoutine_426 (hret _ _ ((Fr.sub hd.1 (by decide) (by decide) (by decide) : Fr [19, 20, 22, 23, 26, 27, 28, 29, 30, 31, 32, 33, 34, 39, 40, 43] [3, 4, 5, 6, 7, 8, 9, 35, 36, 37, 41, 42, 45] [24, 38, 44] ρ σ).trans ((((((((Fr.rfl.trans (Fr.sub f5 (by decide) (by decide) (by decide))).S (by decide)).S (by decide)).S (by decide)).trans (Fr.sub f83 (by decide) (by decide) (by decide))).trans (Fr.sub f92 (by decide) (by decide) (by decide))).trans (Fr.sub fArg_fr (by decide) (by decide) (by decide))).S (by decide))) (((f93).arg (by omega) (by omega)).S (by omega)) (by omega) pboZ (fun _ => ⟨tkz, ⟨e30z, pl5, by omega, e28z, e29z⟩, _, gz, nrl, (fun z1 z2 e he => by rcases List.mem_append.mp he with y | y; exact (bt.2.2.2.2.1 (by have y8 : (sS 34 0 (sS 33 0 (sS 32 (σ.2.1 35 (σ.1 30)) σ2))).1 25 = σ2.1 25 := rfl; omega) (by by_cases y9 : σ80.1 26 = 0; exact y9; exact absurd z2 (((pbP.2.2.2.2.1).trans flz).1 y9)) e y).bt (pboA.2.1 (by omega)).2.2.2; rw [List.mem_singleton.mp y]; exact ⟨fun _ => by show (fArg (v91) (0) (1) (0) σ90).1 34 ≤ 120; omega, fun q => absurd (show (0 : Int) = 1 from q) (by decide)⟩), (fun z => absurd z (by omega)), (fun z => absurd z (by omega))⟩) (fun q => absurd q (by decide)))
              · have vw3 := vw_fr (show Fr [30] [] [] (fArg (v91) (0) (1) (0) σ90) (sS 30 ((fArg (v91) (0) (1) (0) σ90).1 30 + 1) (fArg (v91) (0) (1) (0) σ90)) from Fr.rfl.S (by decide)) (by decide) (by decide) (by decide)
                have sam3 : SAM (fArg (v91) (0) (1) (0) σ90) (sS 30 ((fArg (v91) (0) (1) (0) σ90).1 30 + 1) (fArg (v91) (0) (1) (0) σ90)) := by unfold vw at vw3; exact ⟨congrArg Prod.fst vw3, congrArg (fun z => z.2.1) vw3, congrArg (fun z => z.2.2) vw3⟩
                have srz3 : srt (sS 30 ((fArg (v91) (0) (1) (0) σ90).1 30 + 1) (fArg (v91) (0) (1) (0) σ90)) = srt (reP (ρ.1 19) ((fArg (v91) (0) (1) (0) σ90).1 34) (fArg (v91) (0) (1) (0) σ90)) := by unfold reP; rw [if_neg (by omega)]
                have gz3 : ∀ x, GOS [30] (sS 34 x ρ) (qq 0) [] (sS 30 ((fArg (v91) (0) (1) (0) σ90).1 30 + 1) (fArg (v91) (0) (1) (0) σ90)) (qq 0) (lgb ++ [(0, (fArg (v91) (0) (1) (0) σ90).1 34, 0)]) := fun x => (gall x).trans (g34 (q := qq (ρ.1 19)) sam3 (EFF.rend srz3))
                have hq8 := hoh.2.2.2.2.2.2.2 (by omega) _ _ gz3
                have r6 : ρ.1 30 < 6 := hq8.1 (by rw [nrl]; decide)
                have hq9 := hq8.2
                clear hq8
                have i120 : (fArg (v91) (0) (1) (0) σ90).1 34 ≤ 120 := (hq9 (0, (fArg (v91) (0) (1) (0) σ90).1 34, 0) (List.mem_append_right _ (List.mem_singleton.mpr rfl))).1 rfl
                refine tm_aload_n dX12_oneRoutine_402 rfl 3 rfl ?_
                refine tm_get (k := 9) (v := .ref (b + 1 + 7)) lay_12 dX12_oneRoutine_403 (by decide) fl12_32 rfl ?_
                refine tm_aload_n dX12_oneRoutine_406 rfl 3 rfl ?_
                refine tm_getS (k := 30) (t := σ.1 30) dX12_oneRoutine_407 (by decide) fl12_268 rfl (rs_F fArg_fr (by decide) (rs_F f92 (by decide) (rs_F f83 (by decide) (rs_o (by decide) (rs_o (by decide) (rs_o (by decide) (rs_F f5 (by decide) (rfl)))))))) ?_
                have g116 := RG.s hR 30
                refine tm_aload_n dX12_oneRoutine_410 rfl 3 rfl ?_
                refine tm_getS (k := 34) (t := σ90.1 34) dX12_oneRoutine_411 (by decide) fl12_278 rfl (rs_F fArg_fr (by decide) (rfl)) ?_
                have g117 := RG.s f93 34
                refine tm_iast (z := σ.1 30) (v := σ90.1 34) dX12_oneRoutine_414 (show mT[7]? = some (9, 0, 13) from rfl) (by omega) (by omega) (by decide) ?_
                refine tm_aload_n dX12_oneRoutine_415 rfl 3 rfl ?_
                refine tm_dup dX12_oneRoutine_416 rfl ?_
                refine tm_getS (k := 30) (t := σ.1 30) dX12_oneRoutine_417 (by decide) fl12_268 rfl (rs_A (rs_F fArg_fr (by decide) (rs_F f92 (by decide) (rs_F f83 (by decide) (rs_o (by decide) (rs_o (by decide) (rs_o (by decide) (rs_F f5 (by decide) (rfl))))))))) ?_
                have g118 := RG.s hR 30
                refine tm_iconst dX12_oneRoutine_420 ?_
                refine tm_iadd dX12_oneRoutine_421 ?_
                refine tm_putS (k := 30) (v := (σ.1 30) + 1) lay_12 dX12_oneRoutine_422 (by decide) fl12_268 rfl (tyX12_ok 30 (by decide)) rfl rfl rfl ?_
                refine tm_iconst dX12_oneRoutine_425 ?_
                exact tm_zret (v := 1) rfl (by decide) dX12_oneRoutine_426 ((by exfalso; omega))
            · refine tm_aload_n dX12_oneRoutine_388 rfl 3 rfl ?_
              refine tm_iconst dX12_oneRoutine_389 ?_
              refine tm_iload_n dX12_oneRoutine_390 rfl 2 rfl ?_
              refine tm_callV (M := m_X12_oneRoutine) (pc := 391) (ix := 274) (M' := m_X12_note) (As := [.int (iI 5), .int (iI p)]) (rest := []) dX12_oneRoutine_391 ok_X12_note im_X12_note se_X12_note ml12_274 np_X12_note rfl rfl (Nat.le_of_ble_eq_true rfl) (Nat.le_of_ble_eq_true rfl) rfl (c2_X12_note (d + 61) (σ := (fArg (v91) (0) (1) (0) σ90)) (f := 5) (p := p) ((f93).arg (by omega) (by omega)) (by omega) (by omega)) (fun r119 σ120 hp => ?_)
              obtain ⟨rfl, f122, f123, f124, f125, f126⟩ := hp
              show Tm _ _ 394 b σ120 [(4, .int (iI v91)), (2, .int (iI m)), (1, .int (iI p)), (0, .ref b)] [] _
              have ntf := f124
              have ntn := f125
              have nt4 := f126
              refine tm_aload_n dX12_oneRoutine_394 rfl 3 rfl ?_
              refine tm_getS (k := 25) (t := σ.1 25) dX12_oneRoutine_395 (by decide) fl12_255 rfl (rs_F f122 (by decide) (rs_F fArg_fr (by decide) (rs_F f92 (by decide) (rs_F f83 (by decide) (rs_o (by decide) (rs_o (by decide) (rs_o (by decide) (rs_F f5 (by decide) (rfl))))))))) ?_
              have g127 := RG.s hR 25
              refine tm_iconst dX12_oneRoutine_398 ?_
              refine tm_icmp_ne (tgt := 415) dX12_oneRoutine_399 (by decide) ⟨by omega, by omega⟩ ⟨by decide, by decide⟩ (fun h128 => ?_) (fun h128 => ?_)
              · refine tm_aload_n dX12_oneRoutine_415 rfl 3 rfl ?_
                refine tm_dup dX12_oneRoutine_416 rfl ?_
                refine tm_getS (k := 30) (t := σ.1 30) dX12_oneRoutine_417 (by decide) fl12_268 rfl (rs_F f122 (by decide) (rs_F fArg_fr (by decide) (rs_F f92 (by decide) (rs_F f83 (by decide) (rs_o (by decide) (rs_o (by decide) (rs_o (by decide) (rs_F f5 (by decide) (rfl))))))))) ?_
                have g129 := RG.s hR 30
                refine tm_iconst dX12_oneRoutine_420 ?_
                refine tm_iadd dX12_oneRoutine_421 ?_
                refine tm_putS (k := 30) (v := (σ.1 30) + 1) lay_12 dX12_oneRoutine_422 (by decide) fl12_268 rfl (tyX12_ok 30 (by decide)) rfl rfl rfl ?_
                refine tm_iconst dX12_oneRoutine_425 ?_
                have ffz := (show Fr [26, 27, 30] [9] [] (fArg (v91) (0) (1) (0) σ90) (sS 30 ((σ.1 30) + 1) σ120) from ((Fr.rfl.trans (Fr.sub f122 (by decide) (by decide) (by decide))).S (by decide)))
                have flz : FLT (fArg (v91) (0) (1) (0) σ90) (sS 30 ((σ.1 30) + 1) σ120) := ntf
                have pboZ : PBO ρ (sS 30 ((σ.1 30) + 1) σ120) := pboC.fin ffz flz (fun j _ => congrFun ((show Fr [26, 27] [] [] (fArg (v91) (0) (1) (0) σ90) σ120 from f122).2.1 9 (by decide)) j)
                have srz : srt (sS 30 ((σ.1 30) + 1) σ120) = srt (reP (ρ.1 19) ((fArg (v91) (0) (1) (0) σ90).1 34) (fArg (v91) (0) (1) (0) σ90)) := by have z9 : (fArg (v91) (0) (1) (0) σ90).1 30 = σ.1 30 := by { omega }; unfold reP; rw [if_pos ⟨by omega, by omega⟩, ← hp, ← nt4, z9]
                have vwz := vw_fr ffz (by decide) (by decide) (by decide)
                have samz : SAM (fArg (v91) (0) (1) (0) σ90) (sS 30 ((σ.1 30) + 1) σ120) := by unfold vw at vwz; exact ⟨congrArg Prod.fst vwz, congrArg (fun z => z.2.1) vwz, congrArg (fun z => z.2.2) vwz⟩
                have gz : ∀ x, GOS [30] (sS 34 x ρ) (qq 0) [] (sS 30 ((σ.1 30) + 1) σ120) (qq 0) (lgb ++ [(0, (fArg (v91) (0) (1) (0) σ90).1 34, 0)]) := fun x => (gall x).trans (g34 (q := qq (ρ.1 19)) samz (EFF.rend srz))
                have tkz : TOK (sS 30 ((σ.1 30) + 1) σ120) := by unfold TOK; rw [ffz.1 19 (by decide), ffz.1 20 (by decide), ffz.1 21 (by decide), ffz.1 22 (by decide), ffz.1 23 (by decide), fP.1 19 (by decide), fP.1 20 (by decide), fP.1 21 (by decide), fP.1 22 (by decide), fP.1 23 (by decide)]; exact bt.2.2.1.1
                have e30z : (sS 30 ((σ.1 30) + 1) σ120).1 30 = ρ.1 30 + 1 := by rw [show (sS 30 ((σ.1 30) + 1) σ120).1 30 = (σ.1 30) + 1 from rs_eq]; omega
                have e19z : (sS 30 ((σ.1 30) + 1) σ120).1 19 = σ80.1 19 := (ffz.1 19 (by decide)).trans (fP.1 19 (by decide))
                have e31z : (sS 30 ((σ.1 30) + 1) σ120).1 31 = σ80.1 31 := (ffz.1 31 (by decide)).trans (fP.1 31 (by decide))
                have e28z : (sS 30 ((σ.1 30) + 1) σ120).1 28 = 0 := by rw [ffz.1 28 (by decide), fP.1 28 (by decide), b28]; exact e28s
                have e29z : (sS 30 ((σ.1 30) + 1) σ120).1 29 = 0 := by rw [ffz.1 29 (by decide), fP.1 29 (by decide), b29]; exact e29s
                have pcz := bt.2.1
                unfold PBC at pcz
                have pl5 : ρ.1 19 + 5 ≤ (sS 30 ((σ.1 30) + 1) σ120).1 19 := by have z6 := bp3.2.2.2.2.2.1; have z7 : (sS 34 0 (sS 33 0 (sS 32 (σ.2.1 35 (σ.1 30)) σ2))).1 19 = σ2.1 19 := rfl; have z8 : (sS 34 0 (sS 33 0 (sS 32 (σ.2.1 35 (σ.1 30)) σ2))).1 34 = 0 := rfl; omega
                exact tm_zret (v := 1) rfl (by decide) dX12_oneRoutine_426 (hret _ _ ((Fr.sub hd.1 (by decide) (by decide) (by decide) : Fr [19, 20, 22, 23, 26, 27, 28, 29, 30, 31, 32, 33, 34, 39, 40, 43] [3, 4, 5, 6, 7, 8, 9, 35, 36, 37, 41, 42, 45] [24, 38, 44] ρ σ).trans (((((((((Fr.rfl.trans (Fr.sub f5 (by decide) (by decide) (by decide))).S (by decide)).S (by decide)).S (by decide)).trans (Fr.sub f83 (by decide) (by decide) (by decide))).trans (Fr.sub f92 (by decide) (by decide) (by decide))).trans (Fr.sub fArg_fr (by decide) (by decide) (by decide))).trans (Fr.sub f122 (by decide) (by decide) (by decide))).S (by decide))) (f123.S (by omega)) (by omega) pboZ (fun _ => ⟨tkz, ⟨e30z, pl5, by omega, e28z, e29z⟩, _, gz, nrl, (fun z1 z2 => absurd z2 (by have y := ntn (by omega); exact y)), (fun z => absurd z (by omega)), (fun z => absurd z (by omega))⟩) (fun q => absurd q (by decide)))
              · have vw3 := vw_fr (show Fr [30] [] [] (fArg (v91) (0) (1) (0) σ90) (sS 30 ((fArg (v91) (0) (1) (0) σ90).1 30 + 1) (fArg (v91) (0) (1) (0) σ90)) from Fr.rfl.S (by decide)) (by decide) (by decide) (by decide)
                have sam3 : SAM (fArg (v91) (0) (1) (0) σ90) (sS 30 ((fArg (v91) (0) (1) (0) σ90).1 30 + 1) (fArg (v91) (0) (1) (0) σ90)) := by unfold vw at vw3; exact ⟨congrArg Prod.fst vw3, congrArg (fun z => z.2.1) vw3, congrArg (fun z => z.2.2) vw3⟩
                have srz3 : srt (sS 30 ((fArg (v91) (0) (1) (0) σ90).1 30 + 1) (fArg (v91) (0) (1) (0) σ90)) = srt (reP (ρ.1 19) ((fArg (v91) (0) (1) (0) σ90).1 34) (fArg (v91) (0) (1) (0) σ90)) := by unfold reP; rw [if_neg (by omega)]
                have gz3 : ∀ x, GOS [30] (sS 34 x ρ) (qq 0) [] (sS 30 ((fArg (v91) (0) (1) (0) σ90).1 30 + 1) (fArg (v91) (0) (1) (0) σ90)) (qq 0) (lgb ++ [(0, (fArg (v91) (0) (1) (0) σ90).1 34, 0)]) := fun x => (gall x).trans (g34 (q := qq (ρ.1 19)) sam3 (EFF.rend srz3))
                have hq8 := hoh.2.2.2.2.2.2.2 (by omega) _ _ gz3
                have r6 : ρ.1 30 < 6 := hq8.1 (by rw [nrl]; decide)
                have hq9 := hq8.2
                clear hq8
                have i120 : (fArg (v91) (0) (1) (0) σ90).1 34 ≤ 120 := (hq9 (0, (fArg (v91) (0) (1) (0) σ90).1 34, 0) (List.mem_append_right _ (List.mem_singleton.mpr rfl))).1 rfl
                refine tm_aload_n dX12_oneRoutine_402 rfl 3 rfl ?_
                refine tm_get (k := 9) (v := .ref (b + 1 + 7)) lay_12 dX12_oneRoutine_403 (by decide) fl12_32 rfl ?_
                refine tm_aload_n dX12_oneRoutine_406 rfl 3 rfl ?_
                refine tm_getS (k := 30) (t := σ.1 30) dX12_oneRoutine_407 (by decide) fl12_268 rfl (rs_F f122 (by decide) (rs_F fArg_fr (by decide) (rs_F f92 (by decide) (rs_F f83 (by decide) (rs_o (by decide) (rs_o (by decide) (rs_o (by decide) (rs_F f5 (by decide) (rfl))))))))) ?_
                have g130 := RG.s hR 30
                refine tm_aload_n dX12_oneRoutine_410 rfl 3 rfl ?_
                refine tm_getS (k := 34) (t := σ90.1 34) dX12_oneRoutine_411 (by decide) fl12_278 rfl (rs_F f122 (by decide) (rs_F fArg_fr (by decide) (rfl))) ?_
                have g131 := RG.s f93 34
                refine tm_iast (z := σ.1 30) (v := σ90.1 34) dX12_oneRoutine_414 (show mT[7]? = some (9, 0, 13) from rfl) (by omega) (by omega) (by decide) ?_
                refine tm_aload_n dX12_oneRoutine_415 rfl 3 rfl ?_
                refine tm_dup dX12_oneRoutine_416 rfl ?_
                refine tm_getS (k := 30) (t := σ.1 30) dX12_oneRoutine_417 (by decide) fl12_268 rfl (rs_A (rs_F f122 (by decide) (rs_F fArg_fr (by decide) (rs_F f92 (by decide) (rs_F f83 (by decide) (rs_o (by decide) (rs_o (by decide) (rs_o (by decide) (rs_F f5 (by decide) (rfl)))))))))) ?_
                have g132 := RG.s hR 30
                refine tm_iconst dX12_oneRoutine_420 ?_
                refine tm_iadd dX12_oneRoutine_421 ?_
                refine tm_putS (k := 30) (v := (σ.1 30) + 1) lay_12 dX12_oneRoutine_422 (by decide) fl12_268 rfl (tyX12_ok 30 (by decide)) rfl rfl rfl ?_
                refine tm_iconst dX12_oneRoutine_425 ?_
                exact tm_zret (v := 1) rfl (by decide) dX12_oneRoutine_426 ((by exfalso; omega))
        · refine tm_iconst dX12_oneRoutine_350 ?_
          exact tm_zret (v := 0) rfl (by decide) dX12_oneRoutine_351 (hret _ _ ((Fr.sub hd.1 (by decide) (by decide) (by decide) : Fr [19, 20, 22, 23, 26, 27, 28, 29, 30, 31, 32, 33, 34, 39, 40, 43] [3, 4, 5, 6, 7, 8, 9, 35, 36, 37, 41, 42, 45] [24, 38, 44] ρ σ).trans (((((Fr.rfl.trans (Fr.sub f5 (by decide) (by decide) (by decide))).S (by decide)).S (by decide)).S (by decide)).trans (Fr.sub f83 (by decide) (by decide) (by decide)))) f84 (by omega) (pboA.pb e30A bp3 (by show (0 : Int) ≤ 0; decide) bp1 (by decide) (by decide) (by decide)) (fun q => absurd q (by omega)) (fun _ x => (g35_ x).fail ((bp5 (by omega) _).more [51, 34])))
    · refine tm_iconst dX12_oneRoutine_307 ?_
      exact tm_zret (v := 0) rfl (by decide) dX12_oneRoutine_308 (hret _ _ ((Fr.sub hd.1 (by decide) (by decide) (by decide) : Fr [19, 20, 22, 23, 26, 27, 28, 29, 30, 31, 32, 33, 34, 39, 40, 43] [3, 4, 5, 6, 7, 8, 9, 35, 36, 37, 41, 42, 45] [24, 38, 44] ρ σ).trans (Fr.rfl.trans (Fr.sub f5 (by decide) (by decide) (by decide)))) f6 (by omega) (hd.pbo.nd yn1 yn5) (fun q => absurd q (by omega)) (fun _ => (hgx.fail (fun x => gf_41 (σ := sS 34 x σ) (yn4 (by omega)) ((yn6 (by omega)).x x)))))
end
section
theorem ra_at {k : Nat} {i j v : Int} {σ : MS} (h : i = j) : (sA k i v σ).2.1 k j = v := by rw [← h]; exact ra_eq

theorem fl12_66 : Cond.fieldLink RX12 66 (TX12 36).1 (TX12 36).2.1 (TX12 36).2.2.1 ∈ pWW := pw7 (List.mem_of_getElem? (i := 43) rfl) rfl
theorem dX12_oneRoutine_81 : decode cX12_oneRoutine 81 = .ok (.aload_n 0, 1) := by decide +kernel
theorem dX12_oneRoutine_82 : decode cX12_oneRoutine 82 = .ok (.invokevirtual 265, 3) := by decide +kernel
theorem dX12_oneRoutine_85 : decode cX12_oneRoutine 85 = .ok (.aload_n 0, 1) := by decide +kernel
theorem dX12_oneRoutine_86 : decode cX12_oneRoutine 86 = .ok (.bipush 40, 2) := by decide +kernel
theorem dX12_oneRoutine_88 : decode cX12_oneRoutine 88 = .ok (.invokevirtual 330, 3) := by decide +kernel
theorem dX12_oneRoutine_91 : decode cX12_oneRoutine 91 = .ok (.ifCond .ne 5, 3) := by decide +kernel
theorem dX12_oneRoutine_96 : decode cX12_oneRoutine 96 = .ok (.iconst 0, 1) := by decide +kernel
theorem dX12_oneRoutine_97 : decode cX12_oneRoutine 97 = .ok (.istore_n 2, 1) := by decide +kernel
theorem dX12_oneRoutine_98 : decode cX12_oneRoutine 98 = .ok (.aload_n 0, 1) := by decide +kernel
theorem dX12_oneRoutine_99 : decode cX12_oneRoutine 99 = .ok (.bipush 41, 2) := by decide +kernel
theorem dX12_oneRoutine_101 : decode cX12_oneRoutine 101 = .ok (.invokevirtual 258, 3) := by decide +kernel
theorem dX12_oneRoutine_104 : decode cX12_oneRoutine 104 = .ok (.ifCond .ne 7, 3) := by decide +kernel
theorem dX12_oneRoutine_111 : decode cX12_oneRoutine 111 = .ok (.iconst 0, 1) := by decide +kernel
theorem dX12_oneRoutine_112 : decode cX12_oneRoutine 112 = .ok (.istore_n 3, 1) := by decide +kernel
theorem dX12_oneRoutine_252 : decode cX12_oneRoutine 252 = .ok (.aload_n 0, 1) := by decide +kernel
theorem dX12_oneRoutine_253 : decode cX12_oneRoutine 253 = .ok (.getfield 255, 3) := by decide +kernel
theorem dX12_oneRoutine_256 : decode cX12_oneRoutine 256 = .ok (.iconst 1, 1) := by decide +kernel
theorem dX12_oneRoutine_257 : decode cX12_oneRoutine 257 = .ok (.if_icmp .ne 41, 3) := by decide +kernel
theorem dX12_oneRoutine_260 : decode cX12_oneRoutine 260 = .ok (.aload_n 0, 1) := by decide +kernel
theorem dX12_oneRoutine_261 : decode cX12_oneRoutine 261 = .ok (.getfield 85, 3) := by decide +kernel
theorem dX12_oneRoutine_264 : decode cX12_oneRoutine 264 = .ok (.aload_n 0, 1) := by decide +kernel
theorem dX12_oneRoutine_265 : decode cX12_oneRoutine 265 = .ok (.getfield 376, 3) := by decide +kernel
theorem dX12_oneRoutine_268 : decode cX12_oneRoutine 268 = .ok (.iconst 1, 1) := by decide +kernel
theorem dX12_oneRoutine_269 : decode cX12_oneRoutine 269 = .ok (.isub, 1) := by decide +kernel
theorem dX12_oneRoutine_270 : decode cX12_oneRoutine 270 = .ok (.iload_n 2, 1) := by decide +kernel
theorem dX12_oneRoutine_271 : decode cX12_oneRoutine 271 = .ok (.iastore, 1) := by decide +kernel
theorem dX12_oneRoutine_272 : decode cX12_oneRoutine 272 = .ok (.aload_n 0, 1) := by decide +kernel
theorem dX12_oneRoutine_273 : decode cX12_oneRoutine 273 = .ok (.invokevirtual 271, 3) := by decide +kernel
theorem dX12_oneRoutine_276 : decode cX12_oneRoutine 276 = .ok (.ifCond .eq 22, 3) := by decide +kernel
theorem dX12_oneRoutine_279 : decode cX12_oneRoutine 279 = .ok (.aload_n 0, 1) := by decide +kernel
theorem dX12_oneRoutine_280 : decode cX12_oneRoutine 280 = .ok (.getfield 66, 3) := by decide +kernel
theorem dX12_oneRoutine_283 : decode cX12_oneRoutine 283 = .ok (.aload_n 0, 1) := by decide +kernel
theorem dX12_oneRoutine_284 : decode cX12_oneRoutine 284 = .ok (.getfield 268, 3) := by decide +kernel
theorem dX12_oneRoutine_287 : decode cX12_oneRoutine 287 = .ok (.iload_n 2, 1) := by decide +kernel
theorem dX12_oneRoutine_288 : decode cX12_oneRoutine 288 = .ok (.iconst 4, 1) := by decide +kernel
theorem dX12_oneRoutine_289 : decode cX12_oneRoutine 289 = .ok (.if_icmp .le 7, 3) := by decide +kernel
theorem dX12_oneRoutine_296 : decode cX12_oneRoutine 296 = .ok (.iload_n 2, 1) := by decide +kernel
theorem dX12_oneRoutine_297 : decode cX12_oneRoutine 297 = .ok (.iastore, 1) := by decide +kernel
theorem dX12_oneRoutine_292 : decode cX12_oneRoutine 292 = .ok (.iconst 4, 1) := by decide +kernel
theorem dX12_oneRoutine_293 : decode cX12_oneRoutine 293 = .ok (.goto 4, 3) := by decide +kernel
theorem dX12_oneRoutine_107 : decode cX12_oneRoutine 107 = .ok (.iconst 1, 1) := by decide +kernel
theorem dX12_oneRoutine_108 : decode cX12_oneRoutine 108 = .ok (.goto 4, 3) := by decide +kernel
theorem dX12_oneRoutine_94 : decode cX12_oneRoutine 94 = .ok (.iconst 0, 1) := by decide +kernel
theorem dX12_oneRoutine_95 : decode cX12_oneRoutine 95 = .ok (.ireturn, 1) := by decide +kernel
set_option maxHeartbeats 4000000 in
set_option maxRecDepth 20000 in
theorem b_one81 (d : Nat) {b : Nat} {σ : MS} {p : Int} {ρ : MS} {post : Option Value → MS → Prop} (hR : RG σ) (hoh : ORH ρ) (hd : HD ρ σ) (hf8 : Fr [26, 27, 43] [] [44] ρ σ) (hnm : NMW ρ) (hsr : srt σ = srt (rnP (ρ.2.2 24 0) (ρ.1 19) ρ)) (hp : p = ρ.1 19) (h_p : -2147483648 ≤ p ∧ p ≤ 2147483647) (hret : ∀ (v : Int) (τ : MS), Fr [19, 20, 22, 23, 26, 27, 28, 29, 30, 31, 32, 33, 34, 39, 40, 43] [3, 4, 5, 6, 7, 8, 9, 35, 36, 37, 41, 42, 45] [24, 38, 44] ρ τ → RG τ → (v = 0 ∨ v = 1) → PBO ρ τ → (v = 1 → ORQ ρ τ) → (v = 0 → ∀ x, GOF [30] (sS 34 x ρ) (qq 0) τ) → post (some (.int (iI v))) τ) : ∀ (n : Nat) , ((0 : Int)).toNat = n → Tm (d + 63) m_X12_oneRoutine 81 b σ [(1, .int (iI p)), (0, .ref b)] [] post := by
  intro n
  induction n using Nat.strongRecOn with
  | _ n ih =>
    intro   hm
    have oh30 := hoh.2.2.1
    have oht := hoh.1.1
    have f8 := hf8
    have nmσ : NMW σ := (NMW.bk hf8 (by decide) (by decide)).mpr hnm
    have hnz : ρ.1 22 ≠ 0 := by have z := hnm.1; omega
    have szρ := hoh.1.2.1 hnz
    refine tm_aload_n dX12_oneRoutine_81 rfl 1 rfl ?_
    refine tm_callV (M := m_X12_oneRoutine) (pc := 82) (ix := 265) (M' := m_X12_advance) (As := []) (rest := []) dX12_oneRoutine_82 ok_X12_advance im_X12_advance se_X12_advance ml12_265 np_X12_advance rfl rfl (Nat.le_of_ble_eq_true rfl) (Nat.le_of_ble_eq_true rfl) rfl (c_X12_advance (d + 57) (σ := σ)  hR (by rw [hf8.1 20 (by decide), hf8.1 21 (by decide)]; omega)) (fun r1 σ2 hp => ?_)
    obtain ⟨rfl, f4, f5, f6, f7, f8⟩ := hp
    show Tm _ _ 85 b σ2 [(1, .int (iI p)), (0, .ref b)] [] _
    have ad0 := f4
    have ad1 := f5
    have ad2 := f6
    have ad3 := f7
    have ad4 := f8
    have gx1 : GOX [30] ρ (qq 0) [140, 31] σ2 (qq (ρ.1 19)) := fun x => g30 (σ := sS 34 x ρ) (τ := sS 34 x σ2) (q := qq 0) hnm (show tks σ2 = advT (sv ρ) (ρ.1 20) by rw [ad0.1, sv_fr hf8 (by decide) (by decide), hf8.1 20 (by decide)]) (show (σ2.1 28, σ2.1 29, x) = (ρ.1 28, ρ.1 29, x) by rw [ad1.1 28 (by decide), ad1.1 29 (by decide), hf8.1 28 (by decide), hf8.1 29 (by decide)]) (show sv σ2 = sv ρ by rw [ad0.2.2.1, sv_fr hf8 (by decide) (by decide)]) (EFF.rout ((show srt (sS 34 x σ2) = _ from ad0.2.2.2).trans (hsr.trans (srt_rn (A := ρ) (σ := sS 34 x ρ) rfl))))
    have pb1 : PBF σ σ2 := PBF.nop hd.2.2.1 ad1 (by decide) (by decide) (by decide)
    have pl1 : ρ.1 19 + 1 ≤ σ2.1 19 := by have z := ad4; rw [hf8.1 20 (by decide)] at z; omega
    have tk1 := ad3.1
    have hd1 : HD ρ σ2 := hd.pb (show Fr [19, 20, 22, 23, 26, 27] [35] [24, 38] σ σ2 from (Fr.rfl.trans (Fr.sub f5 (by decide) (by decide) (by decide)))) pb1
    refine tm_aload_n dX12_oneRoutine_85 rfl 1 rfl ?_
    refine tm_bipush dX12_oneRoutine_86 (by decide) ?_
    refine tm_callV (M := m_X12_oneRoutine) (pc := 88) (ix := 330) (M' := m_X12_need) (As := [.int (iI 40)]) (rest := []) dX12_oneRoutine_88 ok_X12_need im_X12_need se_X12_need ml12_330 np_X12_need rfl rfl (Nat.le_of_ble_eq_true rfl) (Nat.le_of_ble_eq_true rfl) rfl (c_X12_need (d + 56) (σ := σ2) (c := 40) f6 (by omega) (by omega)) (fun r9 σ10 hp => ?_)
    obtain ⟨v11, rfl, f12, f13, f14, f15, f16, f17, f18⟩ := hp
    show Tm _ _ 91 b σ10 [(1, .int (iI p)), (0, .ref b)] [.int (iI v11)] _
    have yn0 := f12
    have yn1 := f13
    have yn2 := f14
    have yn3 := f15
    have yn4 := f16
    have yn5 := f17
    have yn6 := f18
    refine tm_if_ne (tgt := 96) dX12_oneRoutine_91 (by decide) ⟨by omega, by omega⟩ (fun h19 => ?_) (fun h19 => ?_)
    · have ynq := yn3 (by omega)
      have gx2 : GOX [30] ρ (qq 0) [31] σ10 (qq (ρ.1 19)) := gx1.nxt (fun x => gn_40 ynq.1 (ynq.2.1.any x))
      have pb2 : PBF _ σ10 := PBF.of pb1.2.2.1 yn1 (by decide) (by decide) (by decide) yn5
      have hd2 : HD ρ σ10 := hd1.pb (Fr.sub yn1 (by decide) (by decide) (by decide)) pb2
      have tk2 := ynq.2.2.1.1
      have pl2 : ρ.1 19 + 2 ≤ σ10.1 19 := by have z := ynq.2.2.2.1; have z2 := ad3.2.1 (by have z := ynq.1.1; omega); omega
      have R96 := f14
      refine tm_iconst dX12_oneRoutine_96 ?_
      refine tm_istore_n (L' := [(2, .int (iI 0)), (1, .int (iI p)), (0, .ref b)]) dX12_oneRoutine_97 rfl (by decide) rfl ?_
      refine tm_aload_n dX12_oneRoutine_98 rfl 2 rfl ?_
      refine tm_bipush dX12_oneRoutine_99 (by decide) ?_
      refine tm_callV (M := m_X12_oneRoutine) (pc := 101) (ix := 258) (M' := m_X12_isSign) (As := [.int (iI 41)]) (rest := []) dX12_oneRoutine_101 ok_X12_isSign im_X12_isSign se_X12_isSign ml12_258 np_X12_isSign rfl rfl (Nat.le_of_ble_eq_true rfl) (Nat.le_of_ble_eq_true rfl) rfl (c2_X12_isSign (d + 61) (σ := σ10) (c := 41) R96 (by omega)) (fun r20 σ21 hp => ?_)
      obtain ⟨v22, rfl, rfl, f23, f24, f25⟩ := hp
      show Tm _ _ 104 b σ10 [(2, .int (iI 0)), (1, .int (iI p)), (0, .ref b)] [.int (iI v22)] _
      have i41 := f24
      have n41_ := f25
      refine tm_if_ne (tgt := 111) dX12_oneRoutine_104 (by decide) ⟨by omega, by omega⟩ (fun h32 => ?_) (fun h32 => ?_)
      · refine tm_iconst dX12_oneRoutine_111 ?_
        refine tm_istore_n (L' := [(3, .int (iI 0)), (2, .int (iI 0)), (1, .int (iI p)), (0, .ref b)]) dX12_oneRoutine_112 rfl (by decide) rfl ?_
        refine tm_sub [0, 1, 2, 3] rfl (l_par (d + 56) (σ0 := σ10) (p := p) (ρ := ρ) f14 hoh hd2 (fun m44 mo45 σ46 F36 R37 f38 f39 f40 f41 f42 f43 => ?_) (fun v τ z1 z2 z3 z4 z5 => hret _ _ ((Fr.sub hd2.1 (by decide) (by decide) (by decide) : Fr [19, 20, 22, 23, 26, 27, 28, 29, 30, 31, 32, 33, 34, 39, 40, 43] [3, 4, 5, 6, 7, 8, 9, 35, 36, 37, 41, 42, 45] [24, 38, 44] ρ σ10).trans (Fr.sub z2 (by decide) (by decide) (by decide))) z3 (Or.inl z1) ((hd2.pb z2 z4).pbo) (fun q => absurd q (by omega)) (fun _ => z5)) _ (0) (0) σ10 Fr.rfl f14 (by omega) ynq.2.2.1 (PBF.nop pb2.2.2.1 (Fr.rfl : Fr [] [] [] _ _) (by decide) (by decide) (by decide)) ⟨fun q => absurd q (by decide), fun _ => Or.inl ⟨gx2, i41 (by omega)⟩⟩ (fun _ z2 _ => ⟨by decide, (hd2.2.2.1 (ρ.1 30) oh30.1 z2).1⟩) (Int.le_refl _) rfl)
        show Tm _ _ 252 b σ46 [(3, .int (iI mo45)), (2, .int (iI m44)), (1, .int (iI p)), (0, .ref b)] [] _
        have lp0 := f38
        have lp1 := f39
        have lp2 := f40
        have lp3 := f41
        have lp4 := f42
        have lp5 := f43
        have hd3 : HD ρ σ46 := hd2.pb F36 lp2
        have R252 := R37
        have e253 : σ46.1 25 = ρ.1 25 := hd3.1.1 25 (by decide)
        have e303 : σ46.1 30 = ρ.1 30 := hd3.1.1 30 (by decide)
        have tk3 := lp1.1
        have oh43 := hoh.2.2.2.2.2.2.1
        have s25 : σ.1 25 = ρ.1 25 := hd.1.1 25 (by decide)
        have s30 : σ.1 30 = ρ.1 30 := hd.1.1 30 (by decide)
        have s43 : σ46.1 43 = σ.1 43 := rs_F F36 (by decide) (rs_F f13 (by decide) (rs_F f5 (by decide) (rfl)))
        refine tm_aload_n dX12_oneRoutine_252 rfl 3 rfl ?_
        refine tm_getS (k := 25) (t := σ.1 25) dX12_oneRoutine_253 (by decide) fl12_255 rfl (rs_F F36 (by decide) (rs_F f13 (by decide) (rs_F f5 (by decide) (rfl)))) ?_
        have g47 := RG.s hR 25
        refine tm_iconst dX12_oneRoutine_256 ?_
        refine tm_icmp_ne (tgt := 298) dX12_oneRoutine_257 (by decide) ⟨by omega, by omega⟩ ⟨by decide, by decide⟩ (fun h48 => ?_) (fun h48 => ?_)
        · refine tm_sub [1, 2, 3] rfl (b_one298 (d) (σ := σ46) (p := p) (m := m44) (ρ := ρ) R37 hoh hd3 (show TOK σ46 from lp1) (lp3.go ⟨by unfold tks; rw [(show Fr [] [36, 45] [] σ46 σ46 from Fr.rfl).1 19 (by decide), (show Fr [] [36, 45] [] σ46 σ46 from Fr.rfl).1 20 (by decide), (show Fr [] [36, 45] [] σ46 σ46 from Fr.rfl).1 22 (by decide), (show Fr [] [36, 45] [] σ46 σ46 from Fr.rfl).1 23 (by decide), (show Fr [] [36, 45] [] σ46 σ46 from Fr.rfl).2.2 24 (by decide)], by unfold xs; rw [(show Fr [] [36, 45] [] σ46 σ46 from Fr.rfl).1 28 (by decide), (show Fr [] [36, 45] [] σ46 σ46 from Fr.rfl).1 29 (by decide), (show Fr [] [36, 45] [] σ46 σ46 from Fr.rfl).1 34 (by decide)], sv_fr (show Fr [] [36, 45] [] σ46 σ46 from Fr.rfl) (by decide) (by decide)⟩ (fun x => show (σ46.1 28, σ46.1 29, x) = (σ46.1 28, σ46.1 29, x) by rw [(show Fr [] [36, 45] [] σ46 σ46 from Fr.rfl).1 28 (by decide), (show Fr [] [36, 45] [] σ46 σ46 from Fr.rfl).1 29 (by decide)]) (show srt σ46 = srt (peP (m44) σ46) by unfold peP; rw [ifP_f (by omega)])) (fun z => absurd z (by omega)) (show ρ.1 19 + 2 ≤ σ46.1 19 by omega) hp (by omega) hret _  rfl)
        · have h431 := (hd3.2.2.2.2.1 (by omega)).1
          have h43e := oh43.2 (by omega)
          refine tm_aload_n dX12_oneRoutine_260 rfl 3 rfl ?_
          refine tm_get (k := 45) (v := .ref (b + 1 + 23)) lay_12 dX12_oneRoutine_261 (by decide) fl12_85 rfl ?_
          refine tm_aload_n dX12_oneRoutine_264 rfl 3 rfl ?_
          refine tm_getS (k := 43) (t := σ.1 43) dX12_oneRoutine_265 (by decide) fl12_376 rfl (rs_F F36 (by decide) (rs_F f13 (by decide) (rs_F f5 (by decide) (rfl)))) ?_
          have g49 := RG.s hR 43
          refine tm_iconst dX12_oneRoutine_268 ?_
          refine tm_isub dX12_oneRoutine_269 ?_
          refine tm_iload_n dX12_oneRoutine_270 rfl 1 rfl ?_
          refine tm_iast (z := (σ.1 43) - 1) (v := m44) dX12_oneRoutine_271 (show mT[23]? = some (45, 0, 260) from rfl) (by omega) (by omega) (by decide) ?_
          refine tm_aload_n dX12_oneRoutine_272 rfl 3 rfl ?_
          refine tm_callV (M := m_X12_oneRoutine) (pc := 273) (ix := 271) (M' := m_X12_isKept) (As := []) (rest := []) dX12_oneRoutine_273 ok_X12_isKept im_X12_isKept se_X12_isKept ml12_271 np_X12_isKept rfl rfl (Nat.le_of_ble_eq_true rfl) (Nat.le_of_ble_eq_true rfl) rfl (c_X12_isKept (d + 61) (σ := (sA 45 ((σ.1 43) - 1) (m44) σ46))  (R37.A (by omega))) (fun r50 σ51 hp => ?_)
          obtain ⟨v52, rfl, rfl, f53, f54⟩ := hp
          show Tm _ _ 276 b (sA 45 ((σ.1 43) - 1) (m44) σ46) [(3, .int (iI mo45)), (2, .int (iI m44)), (1, .int (iI p)), (0, .ref b)] [.int (iI v52)] _
          have k30 : (sA 45 ((σ.1 43) - 1) (m44) σ46).1 30 = σ.1 30 := rs_A (rs_F F36 (by decide) (rs_F f13 (by decide) (rs_F f5 (by decide) (rfl))))
          refine tm_if_eq (tgt := 298) dX12_oneRoutine_276 (by decide) ⟨by omega, by omega⟩ (fun h55 => ?_) (fun h55 => ?_)
          · refine tm_sub [1, 2, 3] rfl (b_one298 (d) (σ := (sA 45 ((σ.1 43) - 1) (m44) σ46)) (p := p) (m := m44) (ρ := ρ) (R37.A (by omega)) hoh (hd3.told (by omega) (show (σ.1 43) - 1 = ρ.1 43 by omega)) (show TOK (sA 45 ((σ.1 43) - 1) (m44) σ46) from lp1) (lp3.go ⟨by unfold tks; rw [(show Fr [] [36, 45] [] σ46 (sA 45 ((σ.1 43) - 1) (m44) σ46) from (Fr.rfl.A (by decide))).1 19 (by decide), (show Fr [] [36, 45] [] σ46 (sA 45 ((σ.1 43) - 1) (m44) σ46) from (Fr.rfl.A (by decide))).1 20 (by decide), (show Fr [] [36, 45] [] σ46 (sA 45 ((σ.1 43) - 1) (m44) σ46) from (Fr.rfl.A (by decide))).1 22 (by decide), (show Fr [] [36, 45] [] σ46 (sA 45 ((σ.1 43) - 1) (m44) σ46) from (Fr.rfl.A (by decide))).1 23 (by decide), (show Fr [] [36, 45] [] σ46 (sA 45 ((σ.1 43) - 1) (m44) σ46) from (Fr.rfl.A (by decide))).2.2 24 (by decide)], by unfold xs; rw [(show Fr [] [36, 45] [] σ46 (sA 45 ((σ.1 43) - 1) (m44) σ46) from (Fr.rfl.A (by decide))).1 28 (by decide), (show Fr [] [36, 45] [] σ46 (sA 45 ((σ.1 43) - 1) (m44) σ46) from (Fr.rfl.A (by decide))).1 29 (by decide), (show Fr [] [36, 45] [] σ46 (sA 45 ((σ.1 43) - 1) (m44) σ46) from (Fr.rfl.A (by decide))).1 34 (by decide)], sv_fr (show Fr [] [36, 45] [] σ46 (sA 45 ((σ.1 43) - 1) (m44) σ46) from (Fr.rfl.A (by decide))) (by decide) (by decide)⟩ (fun x => show ((sA 45 ((σ.1 43) - 1) (m44) σ46).1 28, (sA 45 ((σ.1 43) - 1) (m44) σ46).1 29, x) = (σ46.1 28, σ46.1 29, x) by rw [(show Fr [] [36, 45] [] σ46 (sA 45 ((σ.1 43) - 1) (m44) σ46) from (Fr.rfl.A (by decide))).1 28 (by decide), (show Fr [] [36, 45] [] σ46 (sA 45 ((σ.1 43) - 1) (m44) σ46) from (Fr.rfl.A (by decide))).1 29 (by decide)]) (show srt (sA 45 ((σ.1 43) - 1) (m44) σ46) = srt (peP (m44) σ46) by unfold peP; rw [ifP_t (by omega), ifP_f (by omega), s43])) (fun z1 z2 => absurd z2 (by omega)) (show ρ.1 19 + 2 ≤ σ46.1 19 by omega) hp (by omega) hret _  rfl)
          · refine tm_aload_n dX12_oneRoutine_279 rfl 3 rfl ?_
            refine tm_get (k := 36) (v := .ref (b + 1 + 17)) lay_12 dX12_oneRoutine_280 (by decide) fl12_66 rfl ?_
            refine tm_aload_n dX12_oneRoutine_283 rfl 3 rfl ?_
            refine tm_getS (k := 30) (t := σ.1 30) dX12_oneRoutine_284 (by decide) fl12_268 rfl (rs_A (rs_F F36 (by decide) (rs_F f13 (by decide) (rs_F f5 (by decide) (rfl))))) ?_
            have g56 := RG.s hR 30
            refine tm_iload_n dX12_oneRoutine_287 rfl 1 rfl ?_
            refine tm_iconst dX12_oneRoutine_288 ?_
            refine tm_icmp_le (tgt := 296) dX12_oneRoutine_289 (by decide) ⟨by omega, by omega⟩ ⟨by decide, by decide⟩ (fun h57 => ?_) (fun h57 => ?_)
            · refine tm_iload_n dX12_oneRoutine_296 rfl 1 rfl ?_
              refine tm_iast (z := σ.1 30) (v := m44) dX12_oneRoutine_297 (show mT[17]? = some (36, 0, 6) from rfl) (by omega) (by omega) (by decide) ?_
              refine tm_sub [1, 2, 3] rfl (b_one298 (d) (σ := (sA 36 (σ.1 30) (m44) (sA 45 ((σ.1 43) - 1) (m44) σ46))) (p := p) (m := m44) (ρ := ρ) ((R37.A (by omega)).A (by omega)) hoh ((hd3.told (by omega) (show (σ.1 43) - 1 = ρ.1 43 by omega)).par (by omega) (show σ.1 30 = ρ.1 30 by omega)) (show TOK (sA 36 (σ.1 30) (m44) (sA 45 ((σ.1 43) - 1) (m44) σ46)) from lp1) (lp3.go ⟨by unfold tks; rw [(show Fr [] [36, 45] [] σ46 (sA 36 (σ.1 30) (m44) (sA 45 ((σ.1 43) - 1) (m44) σ46)) from ((Fr.rfl.A (by decide)).A (by decide))).1 19 (by decide), (show Fr [] [36, 45] [] σ46 (sA 36 (σ.1 30) (m44) (sA 45 ((σ.1 43) - 1) (m44) σ46)) from ((Fr.rfl.A (by decide)).A (by decide))).1 20 (by decide), (show Fr [] [36, 45] [] σ46 (sA 36 (σ.1 30) (m44) (sA 45 ((σ.1 43) - 1) (m44) σ46)) from ((Fr.rfl.A (by decide)).A (by decide))).1 22 (by decide), (show Fr [] [36, 45] [] σ46 (sA 36 (σ.1 30) (m44) (sA 45 ((σ.1 43) - 1) (m44) σ46)) from ((Fr.rfl.A (by decide)).A (by decide))).1 23 (by decide), (show Fr [] [36, 45] [] σ46 (sA 36 (σ.1 30) (m44) (sA 45 ((σ.1 43) - 1) (m44) σ46)) from ((Fr.rfl.A (by decide)).A (by decide))).2.2 24 (by decide)], by unfold xs; rw [(show Fr [] [36, 45] [] σ46 (sA 36 (σ.1 30) (m44) (sA 45 ((σ.1 43) - 1) (m44) σ46)) from ((Fr.rfl.A (by decide)).A (by decide))).1 28 (by decide), (show Fr [] [36, 45] [] σ46 (sA 36 (σ.1 30) (m44) (sA 45 ((σ.1 43) - 1) (m44) σ46)) from ((Fr.rfl.A (by decide)).A (by decide))).1 29 (by decide), (show Fr [] [36, 45] [] σ46 (sA 36 (σ.1 30) (m44) (sA 45 ((σ.1 43) - 1) (m44) σ46)) from ((Fr.rfl.A (by decide)).A (by decide))).1 34 (by decide)], sv_fr (show Fr [] [36, 45] [] σ46 (sA 36 (σ.1 30) (m44) (sA 45 ((σ.1 43) - 1) (m44) σ46)) from ((Fr.rfl.A (by decide)).A (by decide))) (by decide) (by decide)⟩ (fun x => show ((sA 36 (σ.1 30) (m44) (sA 45 ((σ.1 43) - 1) (m44) σ46)).1 28, (sA 36 (σ.1 30) (m44) (sA 45 ((σ.1 43) - 1) (m44) σ46)).1 29, x) = (σ46.1 28, σ46.1 29, x) by rw [(show Fr [] [36, 45] [] σ46 (sA 36 (σ.1 30) (m44) (sA 45 ((σ.1 43) - 1) (m44) σ46)) from ((Fr.rfl.A (by decide)).A (by decide))).1 28 (by decide), (show Fr [] [36, 45] [] σ46 (sA 36 (σ.1 30) (m44) (sA 45 ((σ.1 43) - 1) (m44) σ46)) from ((Fr.rfl.A (by decide)).A (by decide))).1 29 (by decide)]) (show srt (sA 36 (σ.1 30) (m44) (sA 45 ((σ.1 43) - 1) (m44) σ46)) = srt (peP (m44) σ46) by unfold peP; rw [ifP_t (by omega), ifP_t (by omega)]; rw [if_neg (by omega), s43, e303, ← s30])) (fun z1 z2 z3 => by have y := lp4 z1 z2 z3; rw [show (sA 36 (σ.1 30) (m44) (sA 45 ((σ.1 43) - 1) (m44) σ46)).2.1 45 (ρ.1 43) = m44 from ra_o (by decide) (ra_at (by omega)), show (sA 36 (σ.1 30) (m44) (sA 45 ((σ.1 43) - 1) (m44) σ46)).2.1 36 (ρ.1 30) = m44 from ra_at (by omega), show (sA 36 (σ.1 30) (m44) (sA 45 ((σ.1 43) - 1) (m44) σ46)).2.1 35 (ρ.1 30) = σ46.2.1 35 (ρ.1 30) from ra_o (by decide) (ra_o (by decide) rfl)]; omega) (show ρ.1 19 + 2 ≤ σ46.1 19 by omega) hp (by omega) hret _  rfl)
            · refine tm_iconst dX12_oneRoutine_292 ?_
              refine tm_goto (tgt := 297) dX12_oneRoutine_293 (by decide) ?_
              refine tm_iast (z := σ.1 30) (v := 4) dX12_oneRoutine_297 (show mT[17]? = some (36, 0, 6) from rfl) (by omega) (by omega) (by decide) ?_
              refine tm_sub [1, 2, 3] rfl (b_one298 (d) (σ := (sA 36 (σ.1 30) (4) (sA 45 ((σ.1 43) - 1) (m44) σ46))) (p := p) (m := m44) (ρ := ρ) ((R37.A (by omega)).A (by omega)) hoh ((hd3.told (by omega) (show (σ.1 43) - 1 = ρ.1 43 by omega)).par (by omega) (show σ.1 30 = ρ.1 30 by omega)) (show TOK (sA 36 (σ.1 30) (4) (sA 45 ((σ.1 43) - 1) (m44) σ46)) from lp1) (lp3.go ⟨by unfold tks; rw [(show Fr [] [36, 45] [] σ46 (sA 36 (σ.1 30) (4) (sA 45 ((σ.1 43) - 1) (m44) σ46)) from ((Fr.rfl.A (by decide)).A (by decide))).1 19 (by decide), (show Fr [] [36, 45] [] σ46 (sA 36 (σ.1 30) (4) (sA 45 ((σ.1 43) - 1) (m44) σ46)) from ((Fr.rfl.A (by decide)).A (by decide))).1 20 (by decide), (show Fr [] [36, 45] [] σ46 (sA 36 (σ.1 30) (4) (sA 45 ((σ.1 43) - 1) (m44) σ46)) from ((Fr.rfl.A (by decide)).A (by decide))).1 22 (by decide), (show Fr [] [36, 45] [] σ46 (sA 36 (σ.1 30) (4) (sA 45 ((σ.1 43) - 1) (m44) σ46)) from ((Fr.rfl.A (by decide)).A (by decide))).1 23 (by decide), (show Fr [] [36, 45] [] σ46 (sA 36 (σ.1 30) (4) (sA 45 ((σ.1 43) - 1) (m44) σ46)) from ((Fr.rfl.A (by decide)).A (by decide))).2.2 24 (by decide)], by unfold xs; rw [(show Fr [] [36, 45] [] σ46 (sA 36 (σ.1 30) (4) (sA 45 ((σ.1 43) - 1) (m44) σ46)) from ((Fr.rfl.A (by decide)).A (by decide))).1 28 (by decide), (show Fr [] [36, 45] [] σ46 (sA 36 (σ.1 30) (4) (sA 45 ((σ.1 43) - 1) (m44) σ46)) from ((Fr.rfl.A (by decide)).A (by decide))).1 29 (by decide), (show Fr [] [36, 45] [] σ46 (sA 36 (σ.1 30) (4) (sA 45 ((σ.1 43) - 1) (m44) σ46)) from ((Fr.rfl.A (by decide)).A (by decide))).1 34 (by decide)], sv_fr (show Fr [] [36, 45] [] σ46 (sA 36 (σ.1 30) (4) (sA 45 ((σ.1 43) - 1) (m44) σ46)) from ((Fr.rfl.A (by decide)).A (by decide))) (by decide) (by decide)⟩ (fun x => show ((sA 36 (σ.1 30) (4) (sA 45 ((σ.1 43) - 1) (m44) σ46)).1 28, (sA 36 (σ.1 30) (4) (sA 45 ((σ.1 43) - 1) (m44) σ46)).1 29, x) = (σ46.1 28, σ46.1 29, x) by rw [(show Fr [] [36, 45] [] σ46 (sA 36 (σ.1 30) (4) (sA 45 ((σ.1 43) - 1) (m44) σ46)) from ((Fr.rfl.A (by decide)).A (by decide))).1 28 (by decide), (show Fr [] [36, 45] [] σ46 (sA 36 (σ.1 30) (4) (sA 45 ((σ.1 43) - 1) (m44) σ46)) from ((Fr.rfl.A (by decide)).A (by decide))).1 29 (by decide)]) (show srt (sA 36 (σ.1 30) (4) (sA 45 ((σ.1 43) - 1) (m44) σ46)) = srt (peP (m44) σ46) by unfold peP; rw [ifP_t (by omega), ifP_t (by omega)]; rw [if_pos (by omega), s43, e303, ← s30])) (fun z1 z2 z3 => by have y := lp4 z1 z2 z3; rw [show (sA 36 (σ.1 30) (4) (sA 45 ((σ.1 43) - 1) (m44) σ46)).2.1 45 (ρ.1 43) = m44 from ra_o (by decide) (ra_at (by omega)), show (sA 36 (σ.1 30) (4) (sA 45 ((σ.1 43) - 1) (m44) σ46)).2.1 36 (ρ.1 30) = 4 from ra_at (by omega), show (sA 36 (σ.1 30) (4) (sA 45 ((σ.1 43) - 1) (m44) σ46)).2.1 35 (ρ.1 30) = σ46.2.1 35 (ρ.1 30) from ra_o (by decide) (ra_o (by decide) rfl)]; omega) (show ρ.1 19 + 2 ≤ σ46.1 19 by omega) hp (by omega) hret _  rfl)
      · refine tm_iconst dX12_oneRoutine_107 ?_
        refine tm_goto (tgt := 112) dX12_oneRoutine_108 (by decide) ?_
        refine tm_istore_n (L' := [(3, .int (iI 1)), (2, .int (iI 0)), (1, .int (iI p)), (0, .ref b)]) dX12_oneRoutine_112 rfl (by decide) rfl ?_
        refine tm_sub [0, 1, 2, 3] rfl (l_par (d + 56) (σ0 := σ10) (p := p) (ρ := ρ) f14 hoh hd2 (fun m69 mo70 σ71 F61 R62 f63 f64 f65 f66 f67 f68 => ?_) (fun v τ z1 z2 z3 z4 z5 => hret _ _ ((Fr.sub hd2.1 (by decide) (by decide) (by decide) : Fr [19, 20, 22, 23, 26, 27, 28, 29, 30, 31, 32, 33, 34, 39, 40, 43] [3, 4, 5, 6, 7, 8, 9, 35, 36, 37, 41, 42, 45] [24, 38, 44] ρ σ10).trans (Fr.sub z2 (by decide) (by decide) (by decide))) z3 (Or.inl z1) ((hd2.pb z2 z4).pbo) (fun q => absurd q (by omega)) (fun _ => z5)) _ (0) (1) σ10 Fr.rfl f14 (by omega) ynq.2.2.1 (PBF.nop pb2.2.2.1 (Fr.rfl : Fr [] [] [] _ _) (by decide) (by decide) (by decide)) ⟨fun _ => gx2.nxt (fun x => g31n (n41_ (by omega))), fun q => absurd q (by decide)⟩ (fun _ z2 _ => ⟨by decide, (hd2.2.2.1 (ρ.1 30) oh30.1 z2).1⟩) (Int.le_refl _) rfl)
        show Tm _ _ 252 b σ71 [(3, .int (iI mo70)), (2, .int (iI m69)), (1, .int (iI p)), (0, .ref b)] [] _
        have lp0 := f63
        have lp1 := f64
        have lp2 := f65
        have lp3 := f66
        have lp4 := f67
        have lp5 := f68
        have hd3 : HD ρ σ71 := hd2.pb F61 lp2
        have R252 := R62
        have e253 : σ71.1 25 = ρ.1 25 := hd3.1.1 25 (by decide)
        have e303 : σ71.1 30 = ρ.1 30 := hd3.1.1 30 (by decide)
        have tk3 := lp1.1
        have oh43 := hoh.2.2.2.2.2.2.1
        have s25 : σ.1 25 = ρ.1 25 := hd.1.1 25 (by decide)
        have s30 : σ.1 30 = ρ.1 30 := hd.1.1 30 (by decide)
        have s43 : σ71.1 43 = σ.1 43 := rs_F F61 (by decide) (rs_F f13 (by decide) (rs_F f5 (by decide) (rfl)))
        refine tm_aload_n dX12_oneRoutine_252 rfl 3 rfl ?_
        refine tm_getS (k := 25) (t := σ.1 25) dX12_oneRoutine_253 (by decide) fl12_255 rfl (rs_F F61 (by decide) (rs_F f13 (by decide) (rs_F f5 (by decide) (rfl)))) ?_
        have g72 := RG.s hR 25
        refine tm_iconst dX12_oneRoutine_256 ?_
        refine tm_icmp_ne (tgt := 298) dX12_oneRoutine_257 (by decide) ⟨by omega, by omega⟩ ⟨by decide, by decide⟩ (fun h73 => ?_) (fun h73 => ?_)
        · refine tm_sub [1, 2, 3] rfl (b_one298 (d) (σ := σ71) (p := p) (m := m69) (ρ := ρ) R62 hoh hd3 (show TOK σ71 from lp1) (lp3.go ⟨by unfold tks; rw [(show Fr [] [36, 45] [] σ71 σ71 from Fr.rfl).1 19 (by decide), (show Fr [] [36, 45] [] σ71 σ71 from Fr.rfl).1 20 (by decide), (show Fr [] [36, 45] [] σ71 σ71 from Fr.rfl).1 22 (by decide), (show Fr [] [36, 45] [] σ71 σ71 from Fr.rfl).1 23 (by decide), (show Fr [] [36, 45] [] σ71 σ71 from Fr.rfl).2.2 24 (by decide)], by unfold xs; rw [(show Fr [] [36, 45] [] σ71 σ71 from Fr.rfl).1 28 (by decide), (show Fr [] [36, 45] [] σ71 σ71 from Fr.rfl).1 29 (by decide), (show Fr [] [36, 45] [] σ71 σ71 from Fr.rfl).1 34 (by decide)], sv_fr (show Fr [] [36, 45] [] σ71 σ71 from Fr.rfl) (by decide) (by decide)⟩ (fun x => show (σ71.1 28, σ71.1 29, x) = (σ71.1 28, σ71.1 29, x) by rw [(show Fr [] [36, 45] [] σ71 σ71 from Fr.rfl).1 28 (by decide), (show Fr [] [36, 45] [] σ71 σ71 from Fr.rfl).1 29 (by decide)]) (show srt σ71 = srt (peP (m69) σ71) by unfold peP; rw [ifP_f (by omega)])) (fun z => absurd z (by omega)) (show ρ.1 19 + 2 ≤ σ71.1 19 by omega) hp (by omega) hret _  rfl)
        · have h431 := (hd3.2.2.2.2.1 (by omega)).1
          have h43e := oh43.2 (by omega)
          refine tm_aload_n dX12_oneRoutine_260 rfl 3 rfl ?_
          refine tm_get (k := 45) (v := .ref (b + 1 + 23)) lay_12 dX12_oneRoutine_261 (by decide) fl12_85 rfl ?_
          refine tm_aload_n dX12_oneRoutine_264 rfl 3 rfl ?_
          refine tm_getS (k := 43) (t := σ.1 43) dX12_oneRoutine_265 (by decide) fl12_376 rfl (rs_F F61 (by decide) (rs_F f13 (by decide) (rs_F f5 (by decide) (rfl)))) ?_
          have g74 := RG.s hR 43
          refine tm_iconst dX12_oneRoutine_268 ?_
          refine tm_isub dX12_oneRoutine_269 ?_
          refine tm_iload_n dX12_oneRoutine_270 rfl 1 rfl ?_
          refine tm_iast (z := (σ.1 43) - 1) (v := m69) dX12_oneRoutine_271 (show mT[23]? = some (45, 0, 260) from rfl) (by omega) (by omega) (by decide) ?_
          refine tm_aload_n dX12_oneRoutine_272 rfl 3 rfl ?_
          refine tm_callV (M := m_X12_oneRoutine) (pc := 273) (ix := 271) (M' := m_X12_isKept) (As := []) (rest := []) dX12_oneRoutine_273 ok_X12_isKept im_X12_isKept se_X12_isKept ml12_271 np_X12_isKept rfl rfl (Nat.le_of_ble_eq_true rfl) (Nat.le_of_ble_eq_true rfl) rfl (c_X12_isKept (d + 61) (σ := (sA 45 ((σ.1 43) - 1) (m69) σ71))  (R62.A (by omega))) (fun r75 σ76 hp => ?_)
          obtain ⟨v77, rfl, rfl, f78, f79⟩ := hp
          show Tm _ _ 276 b (sA 45 ((σ.1 43) - 1) (m69) σ71) [(3, .int (iI mo70)), (2, .int (iI m69)), (1, .int (iI p)), (0, .ref b)] [.int (iI v77)] _
          have k30 : (sA 45 ((σ.1 43) - 1) (m69) σ71).1 30 = σ.1 30 := rs_A (rs_F F61 (by decide) (rs_F f13 (by decide) (rs_F f5 (by decide) (rfl))))
          refine tm_if_eq (tgt := 298) dX12_oneRoutine_276 (by decide) ⟨by omega, by omega⟩ (fun h80 => ?_) (fun h80 => ?_)
          · refine tm_sub [1, 2, 3] rfl (b_one298 (d) (σ := (sA 45 ((σ.1 43) - 1) (m69) σ71)) (p := p) (m := m69) (ρ := ρ) (R62.A (by omega)) hoh (hd3.told (by omega) (show (σ.1 43) - 1 = ρ.1 43 by omega)) (show TOK (sA 45 ((σ.1 43) - 1) (m69) σ71) from lp1) (lp3.go ⟨by unfold tks; rw [(show Fr [] [36, 45] [] σ71 (sA 45 ((σ.1 43) - 1) (m69) σ71) from (Fr.rfl.A (by decide))).1 19 (by decide), (show Fr [] [36, 45] [] σ71 (sA 45 ((σ.1 43) - 1) (m69) σ71) from (Fr.rfl.A (by decide))).1 20 (by decide), (show Fr [] [36, 45] [] σ71 (sA 45 ((σ.1 43) - 1) (m69) σ71) from (Fr.rfl.A (by decide))).1 22 (by decide), (show Fr [] [36, 45] [] σ71 (sA 45 ((σ.1 43) - 1) (m69) σ71) from (Fr.rfl.A (by decide))).1 23 (by decide), (show Fr [] [36, 45] [] σ71 (sA 45 ((σ.1 43) - 1) (m69) σ71) from (Fr.rfl.A (by decide))).2.2 24 (by decide)], by unfold xs; rw [(show Fr [] [36, 45] [] σ71 (sA 45 ((σ.1 43) - 1) (m69) σ71) from (Fr.rfl.A (by decide))).1 28 (by decide), (show Fr [] [36, 45] [] σ71 (sA 45 ((σ.1 43) - 1) (m69) σ71) from (Fr.rfl.A (by decide))).1 29 (by decide), (show Fr [] [36, 45] [] σ71 (sA 45 ((σ.1 43) - 1) (m69) σ71) from (Fr.rfl.A (by decide))).1 34 (by decide)], sv_fr (show Fr [] [36, 45] [] σ71 (sA 45 ((σ.1 43) - 1) (m69) σ71) from (Fr.rfl.A (by decide))) (by decide) (by decide)⟩ (fun x => show ((sA 45 ((σ.1 43) - 1) (m69) σ71).1 28, (sA 45 ((σ.1 43) - 1) (m69) σ71).1 29, x) = (σ71.1 28, σ71.1 29, x) by rw [(show Fr [] [36, 45] [] σ71 (sA 45 ((σ.1 43) - 1) (m69) σ71) from (Fr.rfl.A (by decide))).1 28 (by decide), (show Fr [] [36, 45] [] σ71 (sA 45 ((σ.1 43) - 1) (m69) σ71) from (Fr.rfl.A (by decide))).1 29 (by decide)]) (show srt (sA 45 ((σ.1 43) - 1) (m69) σ71) = srt (peP (m69) σ71) by unfold peP; rw [ifP_t (by omega), ifP_f (by omega), s43])) (fun z1 z2 => absurd z2 (by omega)) (show ρ.1 19 + 2 ≤ σ71.1 19 by omega) hp (by omega) hret _  rfl)
          · refine tm_aload_n dX12_oneRoutine_279 rfl 3 rfl ?_
            refine tm_get (k := 36) (v := .ref (b + 1 + 17)) lay_12 dX12_oneRoutine_280 (by decide) fl12_66 rfl ?_
            refine tm_aload_n dX12_oneRoutine_283 rfl 3 rfl ?_
            refine tm_getS (k := 30) (t := σ.1 30) dX12_oneRoutine_284 (by decide) fl12_268 rfl (rs_A (rs_F F61 (by decide) (rs_F f13 (by decide) (rs_F f5 (by decide) (rfl))))) ?_
            have g81 := RG.s hR 30
            refine tm_iload_n dX12_oneRoutine_287 rfl 1 rfl ?_
            refine tm_iconst dX12_oneRoutine_288 ?_
            refine tm_icmp_le (tgt := 296) dX12_oneRoutine_289 (by decide) ⟨by omega, by omega⟩ ⟨by decide, by decide⟩ (fun h82 => ?_) (fun h82 => ?_)
            · refine tm_iload_n dX12_oneRoutine_296 rfl 1 rfl ?_
              refine tm_iast (z := σ.1 30) (v := m69) dX12_oneRoutine_297 (show mT[17]? = some (36, 0, 6) from rfl) (by omega) (by omega) (by decide) ?_
              refine tm_sub [1, 2, 3] rfl (b_one298 (d) (σ := (sA 36 (σ.1 30) (m69) (sA 45 ((σ.1 43) - 1) (m69) σ71))) (p := p) (m := m69) (ρ := ρ) ((R62.A (by omega)).A (by omega)) hoh ((hd3.told (by omega) (show (σ.1 43) - 1 = ρ.1 43 by omega)).par (by omega) (show σ.1 30 = ρ.1 30 by omega)) (show TOK (sA 36 (σ.1 30) (m69) (sA 45 ((σ.1 43) - 1) (m69) σ71)) from lp1) (lp3.go ⟨by unfold tks; rw [(show Fr [] [36, 45] [] σ71 (sA 36 (σ.1 30) (m69) (sA 45 ((σ.1 43) - 1) (m69) σ71)) from ((Fr.rfl.A (by decide)).A (by decide))).1 19 (by decide), (show Fr [] [36, 45] [] σ71 (sA 36 (σ.1 30) (m69) (sA 45 ((σ.1 43) - 1) (m69) σ71)) from ((Fr.rfl.A (by decide)).A (by decide))).1 20 (by decide), (show Fr [] [36, 45] [] σ71 (sA 36 (σ.1 30) (m69) (sA 45 ((σ.1 43) - 1) (m69) σ71)) from ((Fr.rfl.A (by decide)).A (by decide))).1 22 (by decide), (show Fr [] [36, 45] [] σ71 (sA 36 (σ.1 30) (m69) (sA 45 ((σ.1 43) - 1) (m69) σ71)) from ((Fr.rfl.A (by decide)).A (by decide))).1 23 (by decide), (show Fr [] [36, 45] [] σ71 (sA 36 (σ.1 30) (m69) (sA 45 ((σ.1 43) - 1) (m69) σ71)) from ((Fr.rfl.A (by decide)).A (by decide))).2.2 24 (by decide)], by unfold xs; rw [(show Fr [] [36, 45] [] σ71 (sA 36 (σ.1 30) (m69) (sA 45 ((σ.1 43) - 1) (m69) σ71)) from ((Fr.rfl.A (by decide)).A (by decide))).1 28 (by decide), (show Fr [] [36, 45] [] σ71 (sA 36 (σ.1 30) (m69) (sA 45 ((σ.1 43) - 1) (m69) σ71)) from ((Fr.rfl.A (by decide)).A (by decide))).1 29 (by decide), (show Fr [] [36, 45] [] σ71 (sA 36 (σ.1 30) (m69) (sA 45 ((σ.1 43) - 1) (m69) σ71)) from ((Fr.rfl.A (by decide)).A (by decide))).1 34 (by decide)], sv_fr (show Fr [] [36, 45] [] σ71 (sA 36 (σ.1 30) (m69) (sA 45 ((σ.1 43) - 1) (m69) σ71)) from ((Fr.rfl.A (by decide)).A (by decide))) (by decide) (by decide)⟩ (fun x => show ((sA 36 (σ.1 30) (m69) (sA 45 ((σ.1 43) - 1) (m69) σ71)).1 28, (sA 36 (σ.1 30) (m69) (sA 45 ((σ.1 43) - 1) (m69) σ71)).1 29, x) = (σ71.1 28, σ71.1 29, x) by rw [(show Fr [] [36, 45] [] σ71 (sA 36 (σ.1 30) (m69) (sA 45 ((σ.1 43) - 1) (m69) σ71)) from ((Fr.rfl.A (by decide)).A (by decide))).1 28 (by decide), (show Fr [] [36, 45] [] σ71 (sA 36 (σ.1 30) (m69) (sA 45 ((σ.1 43) - 1) (m69) σ71)) from ((Fr.rfl.A (by decide)).A (by decide))).1 29 (by decide)]) (show srt (sA 36 (σ.1 30) (m69) (sA 45 ((σ.1 43) - 1) (m69) σ71)) = srt (peP (m69) σ71) by unfold peP; rw [ifP_t (by omega), ifP_t (by omega)]; rw [if_neg (by omega), s43, e303, ← s30])) (fun z1 z2 z3 => by have y := lp4 z1 z2 z3; rw [show (sA 36 (σ.1 30) (m69) (sA 45 ((σ.1 43) - 1) (m69) σ71)).2.1 45 (ρ.1 43) = m69 from ra_o (by decide) (ra_at (by omega)), show (sA 36 (σ.1 30) (m69) (sA 45 ((σ.1 43) - 1) (m69) σ71)).2.1 36 (ρ.1 30) = m69 from ra_at (by omega), show (sA 36 (σ.1 30) (m69) (sA 45 ((σ.1 43) - 1) (m69) σ71)).2.1 35 (ρ.1 30) = σ71.2.1 35 (ρ.1 30) from ra_o (by decide) (ra_o (by decide) rfl)]; omega) (show ρ.1 19 + 2 ≤ σ71.1 19 by omega) hp (by omega) hret _  rfl)
            · refine tm_iconst dX12_oneRoutine_292 ?_
              refine tm_goto (tgt := 297) dX12_oneRoutine_293 (by decide) ?_
              refine tm_iast (z := σ.1 30) (v := 4) dX12_oneRoutine_297 (show mT[17]? = some (36, 0, 6) from rfl) (by omega) (by omega) (by decide) ?_
              refine tm_sub [1, 2, 3] rfl (b_one298 (d) (σ := (sA 36 (σ.1 30) (4) (sA 45 ((σ.1 43) - 1) (m69) σ71))) (p := p) (m := m69) (ρ := ρ) ((R62.A (by omega)).A (by omega)) hoh ((hd3.told (by omega) (show (σ.1 43) - 1 = ρ.1 43 by omega)).par (by omega) (show σ.1 30 = ρ.1 30 by omega)) (show TOK (sA 36 (σ.1 30) (4) (sA 45 ((σ.1 43) - 1) (m69) σ71)) from lp1) (lp3.go ⟨by unfold tks; rw [(show Fr [] [36, 45] [] σ71 (sA 36 (σ.1 30) (4) (sA 45 ((σ.1 43) - 1) (m69) σ71)) from ((Fr.rfl.A (by decide)).A (by decide))).1 19 (by decide), (show Fr [] [36, 45] [] σ71 (sA 36 (σ.1 30) (4) (sA 45 ((σ.1 43) - 1) (m69) σ71)) from ((Fr.rfl.A (by decide)).A (by decide))).1 20 (by decide), (show Fr [] [36, 45] [] σ71 (sA 36 (σ.1 30) (4) (sA 45 ((σ.1 43) - 1) (m69) σ71)) from ((Fr.rfl.A (by decide)).A (by decide))).1 22 (by decide), (show Fr [] [36, 45] [] σ71 (sA 36 (σ.1 30) (4) (sA 45 ((σ.1 43) - 1) (m69) σ71)) from ((Fr.rfl.A (by decide)).A (by decide))).1 23 (by decide), (show Fr [] [36, 45] [] σ71 (sA 36 (σ.1 30) (4) (sA 45 ((σ.1 43) - 1) (m69) σ71)) from ((Fr.rfl.A (by decide)).A (by decide))).2.2 24 (by decide)], by unfold xs; rw [(show Fr [] [36, 45] [] σ71 (sA 36 (σ.1 30) (4) (sA 45 ((σ.1 43) - 1) (m69) σ71)) from ((Fr.rfl.A (by decide)).A (by decide))).1 28 (by decide), (show Fr [] [36, 45] [] σ71 (sA 36 (σ.1 30) (4) (sA 45 ((σ.1 43) - 1) (m69) σ71)) from ((Fr.rfl.A (by decide)).A (by decide))).1 29 (by decide), (show Fr [] [36, 45] [] σ71 (sA 36 (σ.1 30) (4) (sA 45 ((σ.1 43) - 1) (m69) σ71)) from ((Fr.rfl.A (by decide)).A (by decide))).1 34 (by decide)], sv_fr (show Fr [] [36, 45] [] σ71 (sA 36 (σ.1 30) (4) (sA 45 ((σ.1 43) - 1) (m69) σ71)) from ((Fr.rfl.A (by decide)).A (by decide))) (by decide) (by decide)⟩ (fun x => show ((sA 36 (σ.1 30) (4) (sA 45 ((σ.1 43) - 1) (m69) σ71)).1 28, (sA 36 (σ.1 30) (4) (sA 45 ((σ.1 43) - 1) (m69) σ71)).1 29, x) = (σ71.1 28, σ71.1 29, x) by rw [(show Fr [] [36, 45] [] σ71 (sA 36 (σ.1 30) (4) (sA 45 ((σ.1 43) - 1) (m69) σ71)) from ((Fr.rfl.A (by decide)).A (by decide))).1 28 (by decide), (show Fr [] [36, 45] [] σ71 (sA 36 (σ.1 30) (4) (sA 45 ((σ.1 43) - 1) (m69) σ71)) from ((Fr.rfl.A (by decide)).A (by decide))).1 29 (by decide)]) (show srt (sA 36 (σ.1 30) (4) (sA 45 ((σ.1 43) - 1) (m69) σ71)) = srt (peP (m69) σ71) by unfold peP; rw [ifP_t (by omega), ifP_t (by omega)]; rw [if_pos (by omega), s43, e303, ← s30])) (fun z1 z2 z3 => by have y := lp4 z1 z2 z3; rw [show (sA 36 (σ.1 30) (4) (sA 45 ((σ.1 43) - 1) (m69) σ71)).2.1 45 (ρ.1 43) = m69 from ra_o (by decide) (ra_at (by omega)), show (sA 36 (σ.1 30) (4) (sA 45 ((σ.1 43) - 1) (m69) σ71)).2.1 36 (ρ.1 30) = 4 from ra_at (by omega), show (sA 36 (σ.1 30) (4) (sA 45 ((σ.1 43) - 1) (m69) σ71)).2.1 35 (ρ.1 30) = σ71.2.1 35 (ρ.1 30) from ra_o (by decide) (ra_o (by decide) rfl)]; omega) (show ρ.1 19 + 2 ≤ σ71.1 19 by omega) hp (by omega) hret _  rfl)
    · refine tm_iconst dX12_oneRoutine_94 ?_
      exact tm_zret (v := 0) rfl (by decide) dX12_oneRoutine_95 (hret _ _ ((Fr.sub hd1.1 (by decide) (by decide) (by decide) : Fr [19, 20, 22, 23, 26, 27, 28, 29, 30, 31, 32, 33, 34, 39, 40, 43] [3, 4, 5, 6, 7, 8, 9, 35, 36, 37, 41, 42, 45] [24, 38, 44] ρ σ2).trans (Fr.sub yn1 (by decide) (by decide) (by decide))) f14 (by omega) ((hd1.pb (Fr.sub yn1 (by decide) (by decide) (by decide)) (PBF.of pb1.2.2.1 yn1 (by decide) (by decide) (by decide) yn5)).pbo) (fun q => absurd q (by omega)) (fun _ => gx1.fail (fun x => gf_40 (σ := sS 34 x σ2) (yn4 (by omega)) ((yn6 (by omega)).x x))))
end
section
theorem PBO.rfl {σ : MS} (h : ORH σ) : PBO σ σ := ⟨fun x _ _ => ⟨_root_.rfl, _root_.rfl, _root_.rfl, _root_.rfl, fun _ _ _ => ⟨_root_.rfl, _root_.rfl⟩⟩, fun _ => ⟨_root_.rfl, _root_.rfl, _root_.rfl, _root_.rfl, _root_.rfl, _root_.rfl, _root_.rfl⟩, h.2.2.2.2.2.1, FLT.eq _root_.rfl, _root_.rfl, fun _ _ => _root_.rfl, h.2.2.2.2.2.2.1.1⟩

theorem dX12_oneRoutine_0 : decode cX12_oneRoutine 0 = .ok (.aload_n 0, 1) := by decide +kernel
theorem dX12_oneRoutine_1 : decode cX12_oneRoutine 1 = .ok (.getfield 216, 3) := by decide +kernel
theorem dX12_oneRoutine_4 : decode cX12_oneRoutine 4 = .ok (.istore_n 1, 1) := by decide +kernel
theorem dX12_oneRoutine_5 : decode cX12_oneRoutine 5 = .ok (.aload_n 0, 1) := by decide +kernel
theorem dX12_oneRoutine_6 : decode cX12_oneRoutine 6 = .ok (.invokevirtual 320, 3) := by decide +kernel
theorem dX12_oneRoutine_9 : decode cX12_oneRoutine 9 = .ok (.ifCond .ne 8, 3) := by decide +kernel
theorem dX12_oneRoutine_17 : decode cX12_oneRoutine 17 = .ok (.aload_n 0, 1) := by decide +kernel
theorem dX12_oneRoutine_18 : decode cX12_oneRoutine 18 = .ok (.getfield 255, 3) := by decide +kernel
theorem dX12_oneRoutine_21 : decode cX12_oneRoutine 21 = .ok (.iconst 1, 1) := by decide +kernel
theorem dX12_oneRoutine_22 : decode cX12_oneRoutine 22 = .ok (.if_icmp .ne 59, 3) := by decide +kernel
theorem dX12_oneRoutine_25 : decode cX12_oneRoutine 25 = .ok (.aload_n 0, 1) := by decide +kernel
theorem dX12_oneRoutine_26 : decode cX12_oneRoutine 26 = .ok (.getfield 268, 3) := by decide +kernel
theorem dX12_oneRoutine_29 : decode cX12_oneRoutine 29 = .ok (.bipush 6, 2) := by decide +kernel
theorem dX12_oneRoutine_31 : decode cX12_oneRoutine 31 = .ok (.if_icmp .ne 9, 3) := by decide +kernel
theorem dX12_oneRoutine_40 : decode cX12_oneRoutine 40 = .ok (.aload_n 0, 1) := by decide +kernel
theorem dX12_oneRoutine_41 : decode cX12_oneRoutine 41 = .ok (.aload_n 0, 1) := by decide +kernel
theorem dX12_oneRoutine_42 : decode cX12_oneRoutine 42 = .ok (.getfield 219, 3) := by decide +kernel
theorem dX12_oneRoutine_45 : decode cX12_oneRoutine 45 = .ok (.invokevirtual 363, 3) := by decide +kernel
theorem dX12_oneRoutine_48 : decode cX12_oneRoutine 48 = .ok (.iconst (-1), 1) := by decide +kernel
theorem dX12_oneRoutine_49 : decode cX12_oneRoutine 49 = .ok (.if_icmp .eq 9, 3) := by decide +kernel
theorem dX12_oneRoutine_58 : decode cX12_oneRoutine 58 = .ok (.aload_n 0, 1) := by decide +kernel
theorem dX12_oneRoutine_59 : decode cX12_oneRoutine 59 = .ok (.getfield 82, 3) := by decide +kernel
theorem dX12_oneRoutine_62 : decode cX12_oneRoutine 62 = .ok (.aload_n 0, 1) := by decide +kernel
theorem dX12_oneRoutine_63 : decode cX12_oneRoutine 63 = .ok (.getfield 376, 3) := by decide +kernel
theorem dX12_oneRoutine_66 : decode cX12_oneRoutine 66 = .ok (.aload_n 0, 1) := by decide +kernel
theorem dX12_oneRoutine_67 : decode cX12_oneRoutine 67 = .ok (.getfield 219, 3) := by decide +kernel
theorem dX12_oneRoutine_70 : decode cX12_oneRoutine 70 = .ok (.lastore, 1) := by decide +kernel
theorem dX12_oneRoutine_71 : decode cX12_oneRoutine 71 = .ok (.aload_n 0, 1) := by decide +kernel
theorem dX12_oneRoutine_72 : decode cX12_oneRoutine 72 = .ok (.dup, 1) := by decide +kernel
theorem dX12_oneRoutine_73 : decode cX12_oneRoutine 73 = .ok (.getfield 376, 3) := by decide +kernel
theorem dX12_oneRoutine_76 : decode cX12_oneRoutine 76 = .ok (.iconst 1, 1) := by decide +kernel
theorem dX12_oneRoutine_77 : decode cX12_oneRoutine 77 = .ok (.iadd, 1) := by decide +kernel
theorem dX12_oneRoutine_78 : decode cX12_oneRoutine 78 = .ok (.putfield 376, 3) := by decide +kernel
theorem dX12_oneRoutine_52 : decode cX12_oneRoutine 52 = .ok (.aload_n 0, 1) := by decide +kernel
theorem dX12_oneRoutine_53 : decode cX12_oneRoutine 53 = .ok (.iconst 2, 1) := by decide +kernel
theorem dX12_oneRoutine_54 : decode cX12_oneRoutine 54 = .ok (.iload_n 1, 1) := by decide +kernel
theorem dX12_oneRoutine_55 : decode cX12_oneRoutine 55 = .ok (.invokevirtual 274, 3) := by decide +kernel
theorem dX12_oneRoutine_34 : decode cX12_oneRoutine 34 = .ok (.aload_n 0, 1) := by decide +kernel
theorem dX12_oneRoutine_35 : decode cX12_oneRoutine 35 = .ok (.iconst 5, 1) := by decide +kernel
theorem dX12_oneRoutine_36 : decode cX12_oneRoutine 36 = .ok (.iload_n 1, 1) := by decide +kernel
theorem dX12_oneRoutine_37 : decode cX12_oneRoutine 37 = .ok (.invokevirtual 274, 3) := by decide +kernel
theorem dX12_oneRoutine_12 : decode cX12_oneRoutine 12 = .ok (.aload_n 0, 1) := by decide +kernel
theorem dX12_oneRoutine_13 : decode cX12_oneRoutine 13 = .ok (.invokevirtual 261, 3) := by decide +kernel
theorem dX12_oneRoutine_16 : decode cX12_oneRoutine 16 = .ok (.ireturn, 1) := by decide +kernel
set_option maxHeartbeats 4000000 in
set_option maxRecDepth 20000 in
theorem c_X12_oneRoutine (d : Nat) {b : Nat} {σ : MS} (hR : RG σ) (hoh : ORH σ) : Tm (d + 63) m_X12_oneRoutine 0 b σ [(0, .ref b)] [] (fun ro σ2 => ∃ v : Int, ro = some (.int (iI v)) ∧ ((v = 0 ∨ v = 1)) ∧ (Fr [19, 20, 22, 23, 26, 27, 28, 29, 30, 31, 32, 33, 34, 39, 40, 43] [3, 4, 5, 6, 7, 8, 9, 35, 36, 37, 41, 42, 45] [24, 38, 44] σ σ2) ∧ (RG σ2) ∧ (PBO σ σ2) ∧ (Im v 1 (ORQ σ σ2)) ∧ (Im v 0 (∀ x, GOF [30] (sS 34 x σ) (qq 0) σ2))) := by
  have tk0 := hoh.1.1
  refine tm_aload_n dX12_oneRoutine_0 rfl 0 rfl ?_
  refine tm_getS (k := 19) (t := σ.1 19) dX12_oneRoutine_1 (by decide) fl12_216 rfl (rfl) ?_
  have g1 := RG.s hR 19
  refine tm_istore_n (L' := [(1, .int (iI (σ.1 19))), (0, .ref b)]) dX12_oneRoutine_4 rfl (by decide) rfl ?_
  refine tm_aload_n dX12_oneRoutine_5 rfl 1 rfl ?_
  refine tm_callV (M := m_X12_oneRoutine) (pc := 6) (ix := 320) (M' := m_X12_isName) (As := []) (rest := []) dX12_oneRoutine_6 ok_X12_isName im_X12_isName se_X12_isName ml12_320 np_X12_isName rfl rfl (Nat.le_of_ble_eq_true rfl) (Nat.le_of_ble_eq_true rfl) rfl (c2_X12_isName (d + 61) (σ := σ)  hR) (fun r2 σ3 hp => ?_)
  obtain ⟨v4, rfl, rfl, f5, f6, f7⟩ := hp
  show Tm _ _ 9 b σ [(1, .int (iI (σ.1 19))), (0, .ref b)] [.int (iI v4)] _
  have inm := f6
  have nnm_ := f7
  refine tm_if_ne (tgt := 17) dX12_oneRoutine_9 (by decide) ⟨by omega, by omega⟩ (fun h8 => ?_) (fun h8 => ?_)
  · have oh25 := hoh.2.1
    have oh30 := hoh.2.2.1
    have oht := hoh.1.1
    have oh43 := hoh.2.2.2.2.2.2.1
    have nmw := inm (by omega)
    refine tm_aload_n dX12_oneRoutine_17 rfl 1 rfl ?_
    refine tm_getS (k := 25) (t := σ.1 25) dX12_oneRoutine_18 (by decide) fl12_255 rfl (rfl) ?_
    have g9 := RG.s hR 25
    refine tm_iconst dX12_oneRoutine_21 ?_
    refine tm_icmp_ne (tgt := 81) dX12_oneRoutine_22 (by decide) ⟨by omega, by omega⟩ ⟨by decide, by decide⟩ (fun h10 => ?_) (fun h10 => ?_)
    · refine tm_sub [0, 1] rfl (b_one81 (d) (σ := σ) (p := σ.1 19) (ρ := σ) hR hoh ⟨Fr.rfl, FLT.eq rfl, hoh.2.2.2.2.2.1, fun _ => ⟨rfl, rfl, rfl, rfl, rfl, rfl, rfl⟩, fun z => absurd z (by omega), oh43.1⟩ (show Fr [26, 27, 43] [] [44] σ σ from Fr.rfl) nmw (by unfold rnP; rw [ifP_f (by omega)]) rfl (by omega) (fun v τ z1 z2 z3 z4 z5 z6 => ⟨_, rfl, z3, z1, z2, z4, z5, z6⟩) _  rfl)
    · refine tm_aload_n dX12_oneRoutine_25 rfl 1 rfl ?_
      refine tm_getS (k := 30) (t := σ.1 30) dX12_oneRoutine_26 (by decide) fl12_268 rfl (rfl) ?_
      have g11 := RG.s hR 30
      refine tm_bipush dX12_oneRoutine_29 (by decide) ?_
      refine tm_icmp_ne (tgt := 40) dX12_oneRoutine_31 (by decide) ⟨by omega, by omega⟩ ⟨by decide, by decide⟩ (fun h12 => ?_) (fun h12 => ?_)
      · refine tm_aload_n dX12_oneRoutine_40 rfl 1 rfl ?_
        refine tm_aload_n dX12_oneRoutine_41 rfl 1 rfl ?_
        refine tm_getW (t := σ.2.2 24 0) dX12_oneRoutine_42 fl12_219 (rfl) ?_
        refine tm_callV (M := m_X12_oneRoutine) (pc := 45) (ix := 363) (M' := m_X12_routineBy) (As := [.long (σ.2.2 24 0)]) (rest := []) dX12_oneRoutine_45 ok_X12_routineBy im_X12_routineBy se_X12_routineBy ml12_363 np_X12_routineBy rfl rfl (Nat.le_of_ble_eq_true rfl) (Nat.le_of_ble_eq_true rfl) rfl (c2_X12_routineBy (d + 61) (σ := σ) (w := σ.2.2 24 0) hR (by rw [show σ.1 43 = σ.1 43 from rfl]; exact oh43.1)) (fun r13 σ14 hp => ?_)
        obtain ⟨v15, rfl, rfl, f16, f17⟩ := hp
        show Tm _ _ 48 b σ [(1, .int (iI (σ.1 19))), (0, .ref b)] [.int (iI v15)] _
        have k43 : σ.1 43 = σ.1 43 := rfl
        have rbq := f16
        have rbs : RBY σ (σ.2.2 24 0) (v15) := (f17).bt (TBm.of (Fr.rfl : Fr [26, 27] [] [] σ σ) (by decide) (by decide) (by decide) (by decide))
        rw [k43] at rbq
        have rbv := rbq
        refine tm_iconst dX12_oneRoutine_48 ?_
        refine tm_icmp_eq (tgt := 58) dX12_oneRoutine_49 (by decide) ⟨by omega, by omega⟩ ⟨by decide, by decide⟩ (fun h18 => ?_) (fun h18 => ?_)
        · have nxr : ¬ ∃ q, RFD σ (σ.2.2 24 0) q := fun z => by obtain ⟨q, z⟩ := z; exact rbs.2 (by omega) q z.1 z.2.1 z.2.2.1
          refine tm_aload_n dX12_oneRoutine_58 rfl 1 rfl ?_
          refine tm_get (k := 44) (v := .ref (b + 1 + 22)) lay_12 dX12_oneRoutine_59 (by decide) fl12_82 rfl ?_
          refine tm_aload_n dX12_oneRoutine_62 rfl 1 rfl ?_
          refine tm_getS (k := 43) (t := σ.1 43) dX12_oneRoutine_63 (by decide) fl12_376 rfl (rfl) ?_
          have g19 := RG.s hR 43
          refine tm_aload_n dX12_oneRoutine_66 rfl 1 rfl ?_
          refine tm_getW (t := σ.2.2 24 0) dX12_oneRoutine_67 fl12_219 (rfl) ?_
          refine tm_last (z := σ.1 43) (v := σ.2.2 24 0) dX12_oneRoutine_70 (show mT[22]? = some (44, 3, 260) from rfl) (by decide) (by omega) (by omega) (by decide) ?_
          refine tm_aload_n dX12_oneRoutine_71 rfl 1 rfl ?_
          refine tm_dup dX12_oneRoutine_72 rfl ?_
          refine tm_getS (k := 43) (t := σ.1 43) dX12_oneRoutine_73 (by decide) fl12_376 rfl (rs_J (rfl)) ?_
          have g20 := RG.s hR 43
          refine tm_iconst dX12_oneRoutine_76 ?_
          refine tm_iadd dX12_oneRoutine_77 ?_
          refine tm_putS (k := 43) (v := (σ.1 43) + 1) lay_12 dX12_oneRoutine_78 (by decide) fl12_376 rfl (tyX12_ok 43 (by decide)) rfl rfl rfl ?_
          refine tm_sub [0, 1] rfl (b_one81 (d) (σ := (sS 43 ((σ.1 43) + 1) (sJ 44 (σ.1 43) (σ.2.2 24 0) σ))) (p := σ.1 19) (ρ := σ) ((hR.J).S (by omega)) hoh ⟨((Fr.rfl.J (by decide)).S (by decide)), (show FLT σ (sS 43 ((σ.1 43) + 1) (sJ 44 (σ.1 43) (σ.2.2 24 0) σ)) from FLT.eq rfl), hoh.2.2.2.2.2.1.fr (show Fr [26, 27, 43] [] [44] σ (sS 43 ((σ.1 43) + 1) (sJ 44 (σ.1 43) (σ.2.2 24 0) σ)) from ((Fr.rfl.J (by decide)).S (by decide))) (by decide), fun z => absurd (by omega) z, fun _ => ⟨(show (sS 43 ((σ.1 43) + 1) (sJ 44 (σ.1 43) (σ.2.2 24 0) σ)).1 43 = σ.1 43 + 1 from rs_eq), fun r _ => by rw [(show Fr [26, 27, 43] [] [44] σ (sS 43 ((σ.1 43) + 1) (sJ 44 (σ.1 43) (σ.2.2 24 0) σ)) from ((Fr.rfl.J (by decide)).S (by decide))).2.1 35 (by decide), (show Fr [26, 27, 43] [] [44] σ (sS 43 ((σ.1 43) + 1) (sJ 44 (σ.1 43) (σ.2.2 24 0) σ)) from ((Fr.rfl.J (by decide)).S (by decide))).2.1 36 (by decide)]; exact ⟨rfl, rfl⟩, fun j _ => by rw [(show Fr [26, 27, 43] [] [44] σ (sS 43 ((σ.1 43) + 1) (sJ 44 (σ.1 43) (σ.2.2 24 0) σ)) from ((Fr.rfl.J (by decide)).S (by decide))).2.1 45 (by decide)], (fun _ => by omega)⟩, by rw [show (sS 43 ((σ.1 43) + 1) (sJ 44 (σ.1 43) (σ.2.2 24 0) σ)).1 43 = σ.1 43 + 1 from rs_eq]; omega⟩ (show Fr [26, 27, 43] [] [44] σ (sS 43 ((σ.1 43) + 1) (sJ 44 (σ.1 43) (σ.2.2 24 0) σ)) from ((Fr.rfl.J (by decide)).S (by decide))) nmw (by unfold rnP; rw [ifP_t (by omega), ifP_f nxr, ifP_f (by omega)]) rfl (by omega) (fun v τ z1 z2 z3 z4 z5 z6 => ⟨_, rfl, z3, z1, z2, z4, z5, z6⟩) _  rfl)
        · refine tm_aload_n dX12_oneRoutine_52 rfl 1 rfl ?_
          refine tm_iconst dX12_oneRoutine_53 ?_
          refine tm_iload_n dX12_oneRoutine_54 rfl 0 rfl ?_
          refine tm_callV (M := m_X12_oneRoutine) (pc := 55) (ix := 274) (M' := m_X12_note) (As := [.int (iI 2), .int (iI (σ.1 19))]) (rest := []) dX12_oneRoutine_55 ok_X12_note im_X12_note se_X12_note ml12_274 np_X12_note rfl rfl (Nat.le_of_ble_eq_true rfl) (Nat.le_of_ble_eq_true rfl) rfl (c2_X12_note (d + 61) (σ := σ) (f := 2) (p := σ.1 19) hR (by omega) (by omega)) (fun r21 σ22 hp => ?_)
          obtain ⟨rfl, f24, f25, f26, f27, f28⟩ := hp
          show Tm _ _ 58 b σ22 [(1, .int (iI (σ.1 19))), (0, .ref b)] [] _
          have nt2f := f26
          have nt2n := f27
          have nt2e := f28
          have exr : ∃ q, RFD σ (σ.2.2 24 0) q := ⟨_, rbs.rfd (by omega) rbq.2⟩
          refine tm_aload_n dX12_oneRoutine_58 rfl 1 rfl ?_
          refine tm_get (k := 44) (v := .ref (b + 1 + 22)) lay_12 dX12_oneRoutine_59 (by decide) fl12_82 rfl ?_
          refine tm_aload_n dX12_oneRoutine_62 rfl 1 rfl ?_
          refine tm_getS (k := 43) (t := σ.1 43) dX12_oneRoutine_63 (by decide) fl12_376 rfl (rs_F f24 (by decide) (rfl)) ?_
          have g29 := RG.s hR 43
          refine tm_aload_n dX12_oneRoutine_66 rfl 1 rfl ?_
          refine tm_getW (t := σ.2.2 24 0) dX12_oneRoutine_67 fl12_219 (rj_F f24 (by decide) (rfl)) ?_
          refine tm_last (z := σ.1 43) (v := σ.2.2 24 0) dX12_oneRoutine_70 (show mT[22]? = some (44, 3, 260) from rfl) (by decide) (by omega) (by omega) (by decide) ?_
          refine tm_aload_n dX12_oneRoutine_71 rfl 1 rfl ?_
          refine tm_dup dX12_oneRoutine_72 rfl ?_
          refine tm_getS (k := 43) (t := σ.1 43) dX12_oneRoutine_73 (by decide) fl12_376 rfl (rs_J (rs_F f24 (by decide) (rfl))) ?_
          have g30 := RG.s hR 43
          refine tm_iconst dX12_oneRoutine_76 ?_
          refine tm_iadd dX12_oneRoutine_77 ?_
          refine tm_putS (k := 43) (v := (σ.1 43) + 1) lay_12 dX12_oneRoutine_78 (by decide) fl12_376 rfl (tyX12_ok 43 (by decide)) rfl rfl rfl ?_
          refine tm_sub [0, 1] rfl (b_one81 (d) (σ := (sS 43 ((σ.1 43) + 1) (sJ 44 (σ.1 43) (σ.2.2 24 0) σ22))) (p := σ.1 19) (ρ := σ) ((f25.J).S (by omega)) hoh ⟨(((Fr.rfl.trans (Fr.sub f24 (by decide) (by decide) (by decide))).J (by decide)).S (by decide)), (show FLT σ (sS 43 ((σ.1 43) + 1) (sJ 44 (σ.1 43) (σ.2.2 24 0) σ22)) from nt2f), hoh.2.2.2.2.2.1.fr (show Fr [26, 27, 43] [] [44] σ (sS 43 ((σ.1 43) + 1) (sJ 44 (σ.1 43) (σ.2.2 24 0) σ22)) from (((Fr.rfl.trans (Fr.sub f24 (by decide) (by decide) (by decide))).J (by decide)).S (by decide))) (by decide), fun z => absurd (by omega) z, fun _ => ⟨(show (sS 43 ((σ.1 43) + 1) (sJ 44 (σ.1 43) (σ.2.2 24 0) σ22)).1 43 = σ.1 43 + 1 from rs_eq), fun r _ => by rw [(show Fr [26, 27, 43] [] [44] σ (sS 43 ((σ.1 43) + 1) (sJ 44 (σ.1 43) (σ.2.2 24 0) σ22)) from (((Fr.rfl.trans (Fr.sub f24 (by decide) (by decide) (by decide))).J (by decide)).S (by decide))).2.1 35 (by decide), (show Fr [26, 27, 43] [] [44] σ (sS 43 ((σ.1 43) + 1) (sJ 44 (σ.1 43) (σ.2.2 24 0) σ22)) from (((Fr.rfl.trans (Fr.sub f24 (by decide) (by decide) (by decide))).J (by decide)).S (by decide))).2.1 36 (by decide)]; exact ⟨rfl, rfl⟩, fun j _ => by rw [(show Fr [26, 27, 43] [] [44] σ (sS 43 ((σ.1 43) + 1) (sJ 44 (σ.1 43) (σ.2.2 24 0) σ22)) from (((Fr.rfl.trans (Fr.sub f24 (by decide) (by decide) (by decide))).J (by decide)).S (by decide))).2.1 45 (by decide)], (fun _ => by omega)⟩, by rw [show (sS 43 ((σ.1 43) + 1) (sJ 44 (σ.1 43) (σ.2.2 24 0) σ22)).1 43 = σ.1 43 + 1 from rs_eq]; omega⟩ (show Fr [26, 27, 43] [] [44] σ (sS 43 ((σ.1 43) + 1) (sJ 44 (σ.1 43) (σ.2.2 24 0) σ22)) from (((Fr.rfl.trans (Fr.sub f24 (by decide) (by decide) (by decide))).J (by decide)).S (by decide))) nmw (by unfold rnP; rw [ifP_t (by omega), ifP_t exr, ifP_f (by omega)]; rw [← nt2e]) rfl (by omega) (fun v τ z1 z2 z3 z4 z5 z6 => ⟨_, rfl, z3, z1, z2, z4, z5, z6⟩) _  rfl)
      · refine tm_aload_n dX12_oneRoutine_34 rfl 1 rfl ?_
        refine tm_iconst dX12_oneRoutine_35 ?_
        refine tm_iload_n dX12_oneRoutine_36 rfl 0 rfl ?_
        refine tm_callV (M := m_X12_oneRoutine) (pc := 37) (ix := 274) (M' := m_X12_note) (As := [.int (iI 5), .int (iI (σ.1 19))]) (rest := []) dX12_oneRoutine_37 ok_X12_note im_X12_note se_X12_note ml12_274 np_X12_note rfl rfl (Nat.le_of_ble_eq_true rfl) (Nat.le_of_ble_eq_true rfl) rfl (c2_X12_note (d + 61) (σ := σ) (f := 5) (p := σ.1 19) hR (by omega) (by omega)) (fun r31 σ32 hp => ?_)
        obtain ⟨rfl, f34, f35, f36, f37, f38⟩ := hp
        show Tm _ _ 40 b σ32 [(1, .int (iI (σ.1 19))), (0, .ref b)] [] _
        have nt1f := f36
        have nt1n := f37
        have nt1e : σ32 = ntP 5 (σ.1 19) σ := f38
        refine tm_aload_n dX12_oneRoutine_40 rfl 1 rfl ?_
        refine tm_aload_n dX12_oneRoutine_41 rfl 1 rfl ?_
        refine tm_getW (t := σ.2.2 24 0) dX12_oneRoutine_42 fl12_219 (rj_F f34 (by decide) (rfl)) ?_
        refine tm_callV (M := m_X12_oneRoutine) (pc := 45) (ix := 363) (M' := m_X12_routineBy) (As := [.long (σ.2.2 24 0)]) (rest := []) dX12_oneRoutine_45 ok_X12_routineBy im_X12_routineBy se_X12_routineBy ml12_363 np_X12_routineBy rfl rfl (Nat.le_of_ble_eq_true rfl) (Nat.le_of_ble_eq_true rfl) rfl (c2_X12_routineBy (d + 61) (σ := σ32) (w := σ.2.2 24 0) f35 (by rw [show σ32.1 43 = σ.1 43 from rs_F f34 (by decide) (rfl)]; exact oh43.1)) (fun r39 σ40 hp => ?_)
        obtain ⟨v41, rfl, rfl, f42, f43⟩ := hp
        show Tm _ _ 48 b σ32 [(1, .int (iI (σ.1 19))), (0, .ref b)] [.int (iI v41)] _
        have k43 : σ32.1 43 = σ.1 43 := rs_F f34 (by decide) (rfl)
        have rbq := f42
        have rbs : RBY σ (σ.2.2 24 0) (v41) := (f43).bt (TBm.of (show Fr [26, 27] [] [] σ σ32 from (Fr.rfl.trans (Fr.sub f34 (by decide) (by decide) (by decide)))) (by decide) (by decide) (by decide) (by decide))
        rw [k43] at rbq
        have rbv := rbq
        refine tm_iconst dX12_oneRoutine_48 ?_
        refine tm_icmp_eq (tgt := 58) dX12_oneRoutine_49 (by decide) ⟨by omega, by omega⟩ ⟨by decide, by decide⟩ (fun h44 => ?_) (fun h44 => ?_)
        · have nxr : ¬ ∃ q, RFD σ (σ.2.2 24 0) q := fun z => by obtain ⟨q, z⟩ := z; exact rbs.2 (by omega) q z.1 z.2.1 z.2.2.1
          refine tm_aload_n dX12_oneRoutine_58 rfl 1 rfl ?_
          refine tm_get (k := 44) (v := .ref (b + 1 + 22)) lay_12 dX12_oneRoutine_59 (by decide) fl12_82 rfl ?_
          refine tm_aload_n dX12_oneRoutine_62 rfl 1 rfl ?_
          refine tm_getS (k := 43) (t := σ.1 43) dX12_oneRoutine_63 (by decide) fl12_376 rfl (rs_F f34 (by decide) (rfl)) ?_
          have g45 := RG.s hR 43
          refine tm_aload_n dX12_oneRoutine_66 rfl 1 rfl ?_
          refine tm_getW (t := σ.2.2 24 0) dX12_oneRoutine_67 fl12_219 (rj_F f34 (by decide) (rfl)) ?_
          refine tm_last (z := σ.1 43) (v := σ.2.2 24 0) dX12_oneRoutine_70 (show mT[22]? = some (44, 3, 260) from rfl) (by decide) (by omega) (by omega) (by decide) ?_
          refine tm_aload_n dX12_oneRoutine_71 rfl 1 rfl ?_
          refine tm_dup dX12_oneRoutine_72 rfl ?_
          refine tm_getS (k := 43) (t := σ.1 43) dX12_oneRoutine_73 (by decide) fl12_376 rfl (rs_J (rs_F f34 (by decide) (rfl))) ?_
          have g46 := RG.s hR 43
          refine tm_iconst dX12_oneRoutine_76 ?_
          refine tm_iadd dX12_oneRoutine_77 ?_
          refine tm_putS (k := 43) (v := (σ.1 43) + 1) lay_12 dX12_oneRoutine_78 (by decide) fl12_376 rfl (tyX12_ok 43 (by decide)) rfl rfl rfl ?_
          refine tm_sub [0, 1] rfl (b_one81 (d) (σ := (sS 43 ((σ.1 43) + 1) (sJ 44 (σ.1 43) (σ.2.2 24 0) σ32))) (p := σ.1 19) (ρ := σ) ((f35.J).S (by omega)) hoh ⟨(((Fr.rfl.trans (Fr.sub f34 (by decide) (by decide) (by decide))).J (by decide)).S (by decide)), (show FLT σ (sS 43 ((σ.1 43) + 1) (sJ 44 (σ.1 43) (σ.2.2 24 0) σ32)) from nt1f), hoh.2.2.2.2.2.1.fr (show Fr [26, 27, 43] [] [44] σ (sS 43 ((σ.1 43) + 1) (sJ 44 (σ.1 43) (σ.2.2 24 0) σ32)) from (((Fr.rfl.trans (Fr.sub f34 (by decide) (by decide) (by decide))).J (by decide)).S (by decide))) (by decide), fun z => absurd (by omega) z, fun _ => ⟨(show (sS 43 ((σ.1 43) + 1) (sJ 44 (σ.1 43) (σ.2.2 24 0) σ32)).1 43 = σ.1 43 + 1 from rs_eq), fun r _ => by rw [(show Fr [26, 27, 43] [] [44] σ (sS 43 ((σ.1 43) + 1) (sJ 44 (σ.1 43) (σ.2.2 24 0) σ32)) from (((Fr.rfl.trans (Fr.sub f34 (by decide) (by decide) (by decide))).J (by decide)).S (by decide))).2.1 35 (by decide), (show Fr [26, 27, 43] [] [44] σ (sS 43 ((σ.1 43) + 1) (sJ 44 (σ.1 43) (σ.2.2 24 0) σ32)) from (((Fr.rfl.trans (Fr.sub f34 (by decide) (by decide) (by decide))).J (by decide)).S (by decide))).2.1 36 (by decide)]; exact ⟨rfl, rfl⟩, fun j _ => by rw [(show Fr [26, 27, 43] [] [44] σ (sS 43 ((σ.1 43) + 1) (sJ 44 (σ.1 43) (σ.2.2 24 0) σ32)) from (((Fr.rfl.trans (Fr.sub f34 (by decide) (by decide) (by decide))).J (by decide)).S (by decide))).2.1 45 (by decide)], (fun z => absurd z (by have y := nt1n (by omega); exact y))⟩, by rw [show (sS 43 ((σ.1 43) + 1) (sJ 44 (σ.1 43) (σ.2.2 24 0) σ32)).1 43 = σ.1 43 + 1 from rs_eq]; omega⟩ (show Fr [26, 27, 43] [] [44] σ (sS 43 ((σ.1 43) + 1) (sJ 44 (σ.1 43) (σ.2.2 24 0) σ32)) from (((Fr.rfl.trans (Fr.sub f34 (by decide) (by decide) (by decide))).J (by decide)).S (by decide))) nmw (by unfold rnP; rw [ifP_t (by omega), ifP_f nxr, ifP_t (by omega)]; rw [← nt1e]) rfl (by omega) (fun v τ z1 z2 z3 z4 z5 z6 => ⟨_, rfl, z3, z1, z2, z4, z5, z6⟩) _  rfl)
        · refine tm_aload_n dX12_oneRoutine_52 rfl 1 rfl ?_
          refine tm_iconst dX12_oneRoutine_53 ?_
          refine tm_iload_n dX12_oneRoutine_54 rfl 0 rfl ?_
          refine tm_callV (M := m_X12_oneRoutine) (pc := 55) (ix := 274) (M' := m_X12_note) (As := [.int (iI 2), .int (iI (σ.1 19))]) (rest := []) dX12_oneRoutine_55 ok_X12_note im_X12_note se_X12_note ml12_274 np_X12_note rfl rfl (Nat.le_of_ble_eq_true rfl) (Nat.le_of_ble_eq_true rfl) rfl (c2_X12_note (d + 61) (σ := σ32) (f := 2) (p := σ.1 19) f35 (by omega) (by omega)) (fun r47 σ48 hp => ?_)
          obtain ⟨rfl, f50, f51, f52, f53, f54⟩ := hp
          show Tm _ _ 58 b σ48 [(1, .int (iI (σ.1 19))), (0, .ref b)] [] _
          have nt2f := f52
          have nt2n := f53
          have nt2e := f54
          have exr : ∃ q, RFD σ (σ.2.2 24 0) q := ⟨_, rbs.rfd (by omega) rbq.2⟩
          refine tm_aload_n dX12_oneRoutine_58 rfl 1 rfl ?_
          refine tm_get (k := 44) (v := .ref (b + 1 + 22)) lay_12 dX12_oneRoutine_59 (by decide) fl12_82 rfl ?_
          refine tm_aload_n dX12_oneRoutine_62 rfl 1 rfl ?_
          refine tm_getS (k := 43) (t := σ.1 43) dX12_oneRoutine_63 (by decide) fl12_376 rfl (rs_F f50 (by decide) (rs_F f34 (by decide) (rfl))) ?_
          have g55 := RG.s hR 43
          refine tm_aload_n dX12_oneRoutine_66 rfl 1 rfl ?_
          refine tm_getW (t := σ.2.2 24 0) dX12_oneRoutine_67 fl12_219 (rj_F f50 (by decide) (rj_F f34 (by decide) (rfl))) ?_
          refine tm_last (z := σ.1 43) (v := σ.2.2 24 0) dX12_oneRoutine_70 (show mT[22]? = some (44, 3, 260) from rfl) (by decide) (by omega) (by omega) (by decide) ?_
          refine tm_aload_n dX12_oneRoutine_71 rfl 1 rfl ?_
          refine tm_dup dX12_oneRoutine_72 rfl ?_
          refine tm_getS (k := 43) (t := σ.1 43) dX12_oneRoutine_73 (by decide) fl12_376 rfl (rs_J (rs_F f50 (by decide) (rs_F f34 (by decide) (rfl)))) ?_
          have g56 := RG.s hR 43
          refine tm_iconst dX12_oneRoutine_76 ?_
          refine tm_iadd dX12_oneRoutine_77 ?_
          refine tm_putS (k := 43) (v := (σ.1 43) + 1) lay_12 dX12_oneRoutine_78 (by decide) fl12_376 rfl (tyX12_ok 43 (by decide)) rfl rfl rfl ?_
          refine tm_sub [0, 1] rfl (b_one81 (d) (σ := (sS 43 ((σ.1 43) + 1) (sJ 44 (σ.1 43) (σ.2.2 24 0) σ48))) (p := σ.1 19) (ρ := σ) ((f51.J).S (by omega)) hoh ⟨((((Fr.rfl.trans (Fr.sub f34 (by decide) (by decide) (by decide))).trans (Fr.sub f50 (by decide) (by decide) (by decide))).J (by decide)).S (by decide)), (show FLT σ (sS 43 ((σ.1 43) + 1) (sJ 44 (σ.1 43) (σ.2.2 24 0) σ48)) from (nt1f).trans (nt2f)), hoh.2.2.2.2.2.1.fr (show Fr [26, 27, 43] [] [44] σ (sS 43 ((σ.1 43) + 1) (sJ 44 (σ.1 43) (σ.2.2 24 0) σ48)) from ((((Fr.rfl.trans (Fr.sub f34 (by decide) (by decide) (by decide))).trans (Fr.sub f50 (by decide) (by decide) (by decide))).J (by decide)).S (by decide))) (by decide), fun z => absurd (by omega) z, fun _ => ⟨(show (sS 43 ((σ.1 43) + 1) (sJ 44 (σ.1 43) (σ.2.2 24 0) σ48)).1 43 = σ.1 43 + 1 from rs_eq), fun r _ => by rw [(show Fr [26, 27, 43] [] [44] σ (sS 43 ((σ.1 43) + 1) (sJ 44 (σ.1 43) (σ.2.2 24 0) σ48)) from ((((Fr.rfl.trans (Fr.sub f34 (by decide) (by decide) (by decide))).trans (Fr.sub f50 (by decide) (by decide) (by decide))).J (by decide)).S (by decide))).2.1 35 (by decide), (show Fr [26, 27, 43] [] [44] σ (sS 43 ((σ.1 43) + 1) (sJ 44 (σ.1 43) (σ.2.2 24 0) σ48)) from ((((Fr.rfl.trans (Fr.sub f34 (by decide) (by decide) (by decide))).trans (Fr.sub f50 (by decide) (by decide) (by decide))).J (by decide)).S (by decide))).2.1 36 (by decide)]; exact ⟨rfl, rfl⟩, fun j _ => by rw [(show Fr [26, 27, 43] [] [44] σ (sS 43 ((σ.1 43) + 1) (sJ 44 (σ.1 43) (σ.2.2 24 0) σ48)) from ((((Fr.rfl.trans (Fr.sub f34 (by decide) (by decide) (by decide))).trans (Fr.sub f50 (by decide) (by decide) (by decide))).J (by decide)).S (by decide))).2.1 45 (by decide)], (fun z => absurd z (by have y := nt1n (by omega); have y2 := nt2f.1 y; exact y2))⟩, by rw [show (sS 43 ((σ.1 43) + 1) (sJ 44 (σ.1 43) (σ.2.2 24 0) σ48)).1 43 = σ.1 43 + 1 from rs_eq]; omega⟩ (show Fr [26, 27, 43] [] [44] σ (sS 43 ((σ.1 43) + 1) (sJ 44 (σ.1 43) (σ.2.2 24 0) σ48)) from ((((Fr.rfl.trans (Fr.sub f34 (by decide) (by decide) (by decide))).trans (Fr.sub f50 (by decide) (by decide) (by decide))).J (by decide)).S (by decide))) nmw (by unfold rnP; rw [ifP_t (by omega), ifP_t exr, ifP_t (by omega)]; rw [← nt1e, ← nt2e]) rfl (by omega) (fun v τ z1 z2 z3 z4 z5 z6 => ⟨_, rfl, z3, z1, z2, z4, z5, z6⟩) _  rfl)
  · refine tm_aload_n dX12_oneRoutine_12 rfl 1 rfl ?_
    refine tm_callV (M := m_X12_oneRoutine) (pc := 13) (ix := 261) (M' := m_X12_wrong) (As := []) (rest := []) dX12_oneRoutine_13 ok_X12_wrong im_X12_wrong se_X12_wrong ml12_261 np_X12_wrong rfl rfl (Nat.le_of_ble_eq_true rfl) (Nat.le_of_ble_eq_true rfl) rfl (c_X12_wrong (d + 61) (σ := σ)  hR) (fun r57 σ58 hp => ?_)
    obtain ⟨v59, rfl, f60, f61, f62, f63, f64, f65⟩ := hp
    show Tm _ _ 16 b σ58 [(1, .int (iI (σ.1 19))), (0, .ref b)] [.int (iI v59)] _
    exact tm_zret (v := v59) rfl (by omega) dX12_oneRoutine_16 (⟨_, rfl, by omega, (Fr.rfl.trans (Fr.sub f61 (by decide) (by decide) (by decide))), f62, (PBO.rfl hoh).fin (Fr.sub f61 (by decide) (by decide) (by decide)) (FLT.wr f64 f65) (fun j _ => congrFun (f61.2.1 9 (by decide)) j), fun q => absurd q (by omega), fun _ x => g30f (σ := sS 34 x σ) (nnm_ (by omega)) ((WRG.of f65).x x)⟩)
end
