/-! a routine -/
theorem Fr.set {ss ks js : List Nat} {σ τ : MS} (f : Fr ss ks js σ τ) (k : Nat) (v : Int) : Fr ss ks js (sS k v σ) (sS k v τ) := ⟨fun j hj => by
  show (if j = k then v else τ.1 j) = if j = k then v else σ.1 j
  rw [f.1 j hj], f.2.1, f.2.2⟩
theorem ADVm.any {σ τ : MS} (a : ADVm σ τ) (m : Int) : ADVm (sS 34 m σ) (sS 34 m τ) := ⟨a.1, by
  have h := a.2.1
  unfold xs at h
  have h1 : τ.1 28 = σ.1 28 := congrArg Prod.fst h
  have h2 : τ.1 29 = σ.1 29 := congrArg (fun z => z.2.1) h
  show (τ.1 28, τ.1 29, m) = (σ.1 28, σ.1 29, m)
  rw [h1, h2], a.2.2.1, a.2.2.2⟩
/-- a road from any count of items -/
def GOX (ks : List Nat) (σ : MS) (q : QR) (ks' : List Nat) (τ : MS) (q' : QR) : Prop := ∀ x, GOS ks (sS 34 x σ) q ks' (sS 34 x τ) q' []
section GX
variable {a rest new kk : List Nat} {k : Nat} {ρ σ τ : MS} {q q1 q2 : QR}
theorem GOX.start : GOX a ρ q a ρ q := fun _ => GOS.nop rfl rfl
theorem GOX.nxt (h : GOX a ρ q (k :: rest) σ q1) (g : ∀ x, GOS [k] (sS 34 x σ) q1 new (sS 34 x τ) q2 []) : GOX a ρ q (new ++ rest) τ q2 := fun x => (h x).then ((g x).more rest)
theorem GOX.fail (h : GOX a ρ q (k :: rest) σ q1) (g : ∀ x, GOF [k] (sS 34 x σ) q1 τ) : ∀ x, GOF a (sS 34 x ρ) q τ := fun x => (h x).fail ((g x).more rest)
end GX
theorem WRG.x {σ τ : MS} (h : WRG σ τ) (x : Int) : WRG (sS 34 x σ) τ := h
theorem ntP_2 {f p : Int} {A : MS} : ntP f p (ntP f p A) = ntP f p A := by
  by_cases c : 0 < A.1 25 ∧ (A.1 26 = 0 ∨ p < A.1 27 ∨ (p = A.1 27 ∧ f < A.1 26))
  · have e : ntP f p A = sS 27 p (sS 26 f A) := by unfold ntP; rw [if_pos c]
    rw [e]
    unfold ntP
    by_cases z : f = 0
    · rw [if_pos ⟨c.1, Or.inl z⟩]
      refine Prod.ext (funext fun j => ?_) rfl
      simp only [sS]
      by_cases h1 : j = 27
      · simp [h1]
      · by_cases h2 : j = 26
        · simp [h2]
        · simp [h1, h2]
    · rw [if_neg (fun y => by
        have y2 : f = 0 ∨ p < p ∨ (p = p ∧ f < f) := y.2
        omega)]
  · have e : ntP f p A = A := by unfold ntP; rw [if_neg c]
    rw [e, e]
theorem GOS.and {a b c : List Nat} {σ τ υ : MS} {q q1 q2 : QR} {l1 : List EV} (h : GOS a σ q b τ q1 l1) (g : GOS b τ q1 c υ q2 []) : GOS a σ q c υ q2 l1 := by
  have x := h.trans g
  rw [List.append_nil] at x
  exact x
theorem ntP_fr {f p : Int} {A : MS} : Fr [26, 27] [] [] A (ntP f p A) := by
  unfold ntP
  split
  · exact (Fr.rfl.S (by decide)).S (by decide)
  · exact Fr.rfl
theorem NFD_fr {ss ks js : List Nat} {σ τ : MS} {w : Int64} (f : Fr ss ks js σ τ) (h1 : 30 ∉ ss) (h2 : 35 ∉ ks) (h3 : 38 ∉ js) : NFD τ w ↔ NFD σ w := by unfold NFD; rw [f.1 30 h1, f.2.1 35 h2, f.2.2 38 h3]
/-- a parameter that is there already is noted -/
noncomputable def DPN (i p : Int) (A : MS) : MS := ifP (∃ j, 0 ≤ j ∧ j < i ∧ A.2.2 38 (12 * A.1 30 + j) = A.2.2 24 0) (ntP 2 p A) A
noncomputable def DPA (p : Int) (A : MS) : MS := ifP (A.1 30 < 6 ∧ NFD A (A.2.2 24 0)) (ntP 2 p A) A
theorem DPN.zero {p : Int} {A : MS} : A = DPN 0 p A := by
  unfold DPN
  rw [ifP_f (fun z => by obtain ⟨j, a, b, -⟩ := z; omega)]
theorem DPN.no {i p : Int} {A σ : MS} (h : σ = DPN i p A) (hn : A.2.2 38 (12 * A.1 30 + i) ≠ A.2.2 24 0) : σ = DPN (i + 1) p A := by
  rw [h]
  unfold DPN
  by_cases c : ∃ j, 0 ≤ j ∧ j < i ∧ A.2.2 38 (12 * A.1 30 + j) = A.2.2 24 0
  · obtain ⟨j, a, b, e⟩ := c
    rw [ifP_t ⟨j, a, b, e⟩, ifP_t ⟨j, a, by omega, e⟩]
  · rw [ifP_f c, ifP_f (fun z => by
      obtain ⟨j, a, b, e⟩ := z
      by_cases y : j = i
      · rw [y] at e; exact hn e
      · exact c ⟨j, a, by omega, e⟩)]
theorem DPN.yes {i p : Int} {A σ τ : MS} (h : σ = DPN i p A) (h0 : 0 ≤ i) (hy : A.2.2 38 (12 * A.1 30 + i) = A.2.2 24 0) (e : τ = ntP 2 p σ) : τ = DPN (i + 1) p A := by
  have e2 : DPN (i + 1) p A = ntP 2 p A := by unfold DPN; rw [ifP_t ⟨i, h0, by omega, hy⟩]
  rw [e, e2, h]
  unfold DPN
  by_cases c : ∃ j, 0 ≤ j ∧ j < i ∧ A.2.2 38 (12 * A.1 30 + j) = A.2.2 24 0
  · rw [ifP_t c, ntP_2]
  · rw [ifP_f c]
theorem DPN.fin1 {i p : Int} {A σ : MS} (h : σ = DPN i p A) (hi : i = 0) (hr : ¬ A.1 30 < 6) : σ = DPA p A := by
  rw [h, hi, ← DPN.zero]
  unfold DPA
  rw [ifP_f (fun z => hr z.1)]
theorem DPN.fin2 {i p : Int} {A σ : MS} (h : σ = DPN i p A) (hr : A.1 30 < 6) (hi : i = A.2.1 35 (A.1 30)) : σ = DPA p A := by
  rw [h]
  unfold DPN DPA
  by_cases c : NFD A (A.2.2 24 0)
  · rw [ifP_t (⟨hr, c⟩ : A.1 30 < 6 ∧ NFD A (A.2.2 24 0))]
    obtain ⟨n, a, b, e⟩ := c
    rw [ifP_t ⟨n, a, by omega, e⟩]
  · rw [ifP_f (fun z : A.1 30 < 6 ∧ NFD A (A.2.2 24 0) => c z.2), ifP_f (fun z => by
      obtain ⟨j, a, b, e⟩ := z
      exact c ⟨j, a, by omega, e⟩)]
theorem paP_1 {σ : MS} {m : Int} (h1 : σ.1 25 = 1) : paP (σ.2.2 24 0) (σ.1 19) m σ = nmP (σ.2.2 24 0) (σ.1 19) (DPA (σ.1 19) (ifP (m = 4) (ntP 5 (σ.1 19) σ) σ)) := by
  unfold paP
  rw [ifP_t h1]
  have f : Fr [26, 27] [] [] σ (ifP (m = 4) (ntP 5 (σ.1 19) σ) σ) := by
    by_cases c : m = 4
    · rw [ifP_t c]; exact ntP_fr
    · rw [ifP_f c]; exact Fr.rfl
  unfold DPA
  rw [f.1 30 (by decide), f.2.2 24 (by decide), show NFD (ifP (m = 4) (ntP 5 (σ.1 19) σ) σ) (σ.2.2 24 0) = NFD σ (σ.2.2 24 0) from propext (NFD_fr f (by decide) (by decide) (by decide))]
theorem paP_0 {σ : MS} {w : Int64} {p m : Int} (h1 : ¬ σ.1 25 = 1) : paP w p m σ = σ := by unfold paP; rw [ifP_f h1]
/-- the parameters are at an end, but not told yet -/
def PEN (ρ σ : MS) (m : Int) : Prop := (GOX [30] ρ (qq 0) [31] σ (0, 0, 0, m, ρ.1 19) ∧ SG σ 41) ∨ (GOX [30] ρ (qq 0) [33] σ (0, 0, 0, m, ρ.1 19) ∧ ¬ SG σ 44)
theorem PEN.go {ρ σ τ : MS} {m : Int} (h : PEN ρ σ m) (s : SAM σ τ) (e34 : ∀ x, xs (sS 34 x τ) = xs (sS 34 x σ)) (f : srt τ = srt (peP m σ)) : GOX [30] ρ (qq 0) [141, 35] τ (0, 0, 0, m, ρ.1 19) := by
  have ef : ∀ x, EFF [(7, 0, m, 0)] (sS 34 x σ) (sS 34 x τ) := fun x => EFF.pend ((show srt (sS 34 x τ) = srt (peP m σ) from f).trans (srt_pe (A := σ) (σ := sS 34 x σ) rfl))
  rcases h with ⟨g, y⟩ | ⟨g, y⟩
  · exact g.nxt (fun x => g31y (q := (0, 0, 0, m, ρ.1 19)) y ⟨s.1, e34 x, s.2.2⟩ (ef x))
  · exact g.nxt (fun x => g33n (q := (0, 0, 0, m, ρ.1 19)) y ⟨s.1, e34 x, s.2.2⟩ (ef x))
/-- tags within a block: its events are calls -/
def SBT : List Nat := [0, 1, 2, 3, 4, 6, 7, 8, 9, 20, 21, 22, 23, 24, 25, 26, 27, 28, 29, 38, 39, 40, 51, 52, 141, 159, 161, 223]
theorem stk_0 {s : Int → Int} {t : TK} {x : Int × Int × Int} {q : QR} : stk s 0 t x q = (if sgn t 45 then some ([1, 51], advT s t.2.1, x, q, []) else some ([1], t, x, q, [])) := rfl
theorem stk_1 {s : Int → Int} {t : TK} {x : Int × Int × Int} {q : QR} : stk s 1 t x q = (if t.2.2.1 = 3 ∨ nam t then some ([], advT s t.2.1, x, q, []) else if sgn t 40 then some ([2, 141], advT s t.2.1, x, q, []) else none) := rfl
theorem stk_2 {s : Int → Int} {t : TK} {x : Int × Int × Int} {q : QR} : stk s 2 t x q = (if x.1 = 8 then none else some ([3, 6], t, (x.1 + 1, x.2.1, x.2.2), q, [])) := rfl
theorem stk_3 {s : Int → Int} {t : TK} {x : Int × Int × Int} {q : QR} : stk s 3 t x q = (some ([4, 8], t, x, q, [])) := rfl
theorem stk_4 {s : Int → Int} {t : TK} {x : Int × Int × Int} {q : QR} : stk s 4 t x q = (some ([0, 9], t, x, q, [])) := rfl
theorem stk_6 {s : Int → Int} {t : TK} {x : Int × Int × Int} {q : QR} : stk s 6 t x q = (if sgn t 61 ∨ sgn t 60 then some ([3, 51, 7], advT s t.2.1, x, q, []) else some ([7], t, x, q, [])) := rfl
theorem stk_7 {s : Int → Int} {t : TK} {x : Int × Int × Int} {q : QR} : stk s 7 t x q = (some ([], t, (x.1 - 1, x.2.1, x.2.2), q, [])) := rfl
theorem stk_8 {s : Int → Int} {t : TK} {x : Int × Int × Int} {q : QR} : stk s 8 t x q = (if sgn t 43 ∨ sgn t 45 then some ([4, 51, 8], advT s t.2.1, x, q, []) else some ([], t, x, q, [])) := rfl
theorem stk_9 {s : Int → Int} {t : TK} {x : Int × Int × Int} {q : QR} : stk s 9 t x q = (if sgn t 42 then some ([0, 51, 9], advT s t.2.1, x, q, []) else some ([], t, x, q, [])) := rfl
theorem stk_20 {s : Int → Int} {t : TK} {x : Int × Int × Int} {q : QR} : stk s 20 t x q = (if wrd t 512852847717 then some ([22], t, x, q, []) else if wrd t 26982 then some ([51, 21], t, x, q, []) else if wrd t 7304564 ∨ wrd t 125780071117422 then some ([51, 39], t, x, q, []) else if nam t then some ([51, 23], t, x, q, []) else none) := rfl
theorem stk_21 {s : Int → Int} {t : TK} {x : Int × Int × Int} {q : QR} : stk s 21 t x q = (some ([2, 51, 28, 24], advT s t.2.1, x, q, [])) := rfl
theorem stk_22 {s : Int → Int} {t : TK} {x : Int × Int × Int} {q : QR} : stk s 22 t x q = (some ([52, 2, 51, 28, 52], advT s t.2.1, x, q, [])) := rfl
theorem stk_23 {s : Int → Int} {t : TK} {x : Int × Int × Int} {q : QR} : stk s 23 t x q = (some ([161, 25], advT s t.2.1, x, q, [])) := rfl
theorem stk_24 {s : Int → Int} {t : TK} {x : Int × Int × Int} {q : QR} : stk s 24 t x q = (if wrd t 1701606245 then some ([52, 28, 51], advT s t.2.1, x, q, []) else some ([51], t, x, q, [])) := rfl
theorem stk_25 {s : Int → Int} {t : TK} {x : Int × Int × Int} {q : QR} : stk s 25 t x q = (if nam t then (if sgn (advT s t.2.1) 40 then some ([26, 159], advT s t.2.1, x, (t.2.2.2.2, 0, t.1, q.2.2.2), []) else some ([2, 52, 159], (t.1, t.2.1, 2, (advT s t.2.1).2.2.2.1, t.2.2.2.2), x, q, [])) else some ([2, 52, 159], t, x, q, [])) := rfl
theorem stk_26 {s : Int → Int} {t : TK} {x : Int × Int × Int} {q : QR} : stk s 26 t x q = (if sgn (advT s t.2.1) 41 then some ([38, 141], advT s t.2.1, x, q, []) else some ([2, 27], advT s t.2.1, x, q, [])) := rfl
theorem stk_27 {s : Int → Int} {t : TK} {x : Int × Int × Int} {q : QR} : stk s 27 t x q = (if sgn t 44 then some ([2, 27], advT s t.2.1, x, (q.1, q.2.1 + 1, q.2.2), []) else some ([38, 141], t, x, (q.1, q.2.1 + 1, q.2.2), [])) := rfl
theorem stk_28 {s : Int → Int} {t : TK} {x : Int × Int × Int} {q : QR} : stk s 28 t x q = (if x.2.1 = 6 then none else some ([223, 29], t, (x.1, x.2.1 + 1, x.2.2), q, [])) := rfl
theorem stk_29 {s : Int → Int} {t : TK} {x : Int × Int × Int} {q : QR} : stk s 29 t x q = (if sgn t 125 then some ([40], advT s t.2.1, x, q, []) else some ([20, 29], t, x, q, [])) := rfl
theorem stk_38 {s : Int → Int} {t : TK} {x : Int × Int × Int} {q : QR} : stk s 38 t x q = (some ([], t, (x.1, x.2.1, x.2.2 + 2), (0, 0, 0, q.2.2.2), [(1, q.2.1, q.1)])) := rfl
theorem stk_39 {s : Int → Int} {t : TK} {x : Int × Int × Int} {q : QR} : stk s 39 t x q = (some ([2, 51, 159], advT s t.2.1, x, q, [])) := rfl
theorem stk_40 {s : Int → Int} {t : TK} {x : Int × Int × Int} {q : QR} : stk s 40 t x q = (some ([], t, (x.1, x.2.1 - 1, x.2.2), q, [])) := rfl
theorem stk_51 {s : Int → Int} {t : TK} {x : Int × Int × Int} {q : QR} : stk s 51 t x q = (some ([], t, (x.1, x.2.1, x.2.2 + 1), q, [])) := rfl
theorem stk_52 {s : Int → Int} {t : TK} {x : Int × Int × Int} {q : QR} : stk s 52 t x q = (some ([], t, (x.1, x.2.1, x.2.2 + 2), q, [])) := rfl
theorem stk_141 {s : Int → Int} {t : TK} {x : Int × Int × Int} {q : QR} : stk s 141 t x q = (if sgn t (((141 : Nat) : Int) - 100) then some ([], advT s t.2.1, x, q, []) else none) := rfl
theorem stk_159 {s : Int → Int} {t : TK} {x : Int × Int × Int} {q : QR} : stk s 159 t x q = (if sgn t (((159 : Nat) : Int) - 100) then some ([], advT s t.2.1, x, q, []) else none) := rfl
theorem stk_161 {s : Int → Int} {t : TK} {x : Int × Int × Int} {q : QR} : stk s 161 t x q = (if sgn t (((161 : Nat) : Int) - 100) then some ([], advT s t.2.1, x, q, []) else none) := rfl
theorem stk_223 {s : Int → Int} {t : TK} {x : Int × Int × Int} {q : QR} : stk s 223 t x q = (if sgn t (((223 : Nat) : Int) - 100) then some ([], advT s t.2.1, x, q, []) else none) := rfl
theorem stk_sub {s : Int → Int} {t : TK} {x : Int × Int × Int} {q : QR} {k : Nat} {r : List Nat × TK × (Int × Int × Int) × QR × List EV} (hk : k ∈ SBT) (h : stk s k t x q = some r) : (∀ j ∈ r.1, j ∈ SBT) ∧ ∀ e ∈ r.2.2.2.2, e.1 = 1 := by
  simp only [SBT, List.mem_cons, List.not_mem_nil, or_false] at hk
  rcases hk with rfl | rfl | rfl | rfl | rfl | rfl | rfl | rfl | rfl | rfl | rfl | rfl | rfl | rfl | rfl | rfl | rfl | rfl | rfl | rfl | rfl | rfl | rfl | rfl | rfl | rfl | rfl | rfl
  · rw [stk_0] at h
    repeat' (split at h)
    all_goals first
      | (cases h; constructor <;> simp [SBT])
      | cases h
  · rw [stk_1] at h
    repeat' (split at h)
    all_goals first
      | (cases h; constructor <;> simp [SBT])
      | cases h
  · rw [stk_2] at h
    repeat' (split at h)
    all_goals first
      | (cases h; constructor <;> simp [SBT])
      | cases h
  · rw [stk_3] at h
    repeat' (split at h)
    all_goals first
      | (cases h; constructor <;> simp [SBT])
      | cases h
  · rw [stk_4] at h
    repeat' (split at h)
    all_goals first
      | (cases h; constructor <;> simp [SBT])
      | cases h
  · rw [stk_6] at h
    repeat' (split at h)
    all_goals first
      | (cases h; constructor <;> simp [SBT])
      | cases h
  · rw [stk_7] at h
    repeat' (split at h)
    all_goals first
      | (cases h; constructor <;> simp [SBT])
      | cases h
  · rw [stk_8] at h
    repeat' (split at h)
    all_goals first
      | (cases h; constructor <;> simp [SBT])
      | cases h
  · rw [stk_9] at h
    repeat' (split at h)
    all_goals first
      | (cases h; constructor <;> simp [SBT])
      | cases h
  · rw [stk_20] at h
    repeat' (split at h)
    all_goals first
      | (cases h; constructor <;> simp [SBT])
      | cases h
  · rw [stk_21] at h
    repeat' (split at h)
    all_goals first
      | (cases h; constructor <;> simp [SBT])
      | cases h
  · rw [stk_22] at h
    repeat' (split at h)
    all_goals first
      | (cases h; constructor <;> simp [SBT])
      | cases h
  · rw [stk_23] at h
    repeat' (split at h)
    all_goals first
      | (cases h; constructor <;> simp [SBT])
      | cases h
  · rw [stk_24] at h
    repeat' (split at h)
    all_goals first
      | (cases h; constructor <;> simp [SBT])
      | cases h
  · rw [stk_25] at h
    repeat' (split at h)
    all_goals first
      | (cases h; constructor <;> simp [SBT])
      | cases h
  · rw [stk_26] at h
    repeat' (split at h)
    all_goals first
      | (cases h; constructor <;> simp [SBT])
      | cases h
  · rw [stk_27] at h
    repeat' (split at h)
    all_goals first
      | (cases h; constructor <;> simp [SBT])
      | cases h
  · rw [stk_28] at h
    repeat' (split at h)
    all_goals first
      | (cases h; constructor <;> simp [SBT])
      | cases h
  · rw [stk_29] at h
    repeat' (split at h)
    all_goals first
      | (cases h; constructor <;> simp [SBT])
      | cases h
  · rw [stk_38] at h
    repeat' (split at h)
    all_goals first
      | (cases h; constructor <;> simp [SBT])
      | cases h
  · rw [stk_39] at h
    repeat' (split at h)
    all_goals first
      | (cases h; constructor <;> simp [SBT])
      | cases h
  · rw [stk_40] at h
    repeat' (split at h)
    all_goals first
      | (cases h; constructor <;> simp [SBT])
      | cases h
  · rw [stk_51] at h
    repeat' (split at h)
    all_goals first
      | (cases h; constructor <;> simp [SBT])
      | cases h
  · rw [stk_52] at h
    repeat' (split at h)
    all_goals first
      | (cases h; constructor <;> simp [SBT])
      | cases h
  · rw [stk_141] at h
    repeat' (split at h)
    all_goals first
      | (cases h; constructor <;> simp [SBT])
      | cases h
  · rw [stk_159] at h
    repeat' (split at h)
    all_goals first
      | (cases h; constructor <;> simp [SBT])
      | cases h
  · rw [stk_161] at h
    repeat' (split at h)
    all_goals first
      | (cases h; constructor <;> simp [SBT])
      | cases h
  · rw [stk_223] at h
    repeat' (split at h)
    all_goals first
      | (cases h; constructor <;> simp [SBT])
      | cases h
theorem stp_sub {s : Int → Int} {a : PCf} (h : ∀ j ∈ a.1, j ∈ SBT) (hn : stp s a ≠ pF) : (∀ j ∈ (stp s a).1, j ∈ SBT) ∧ ∃ l, (stp s a).2.2.2.2 = a.2.2.2.2 ++ l ∧ ∀ e ∈ l, e.1 = 1 := by
  obtain ⟨K, t, x, q, ρ⟩ := a
  cases K with
  | nil => exact ⟨h, [], (List.append_nil _).symm, fun e he => absurd he (List.not_mem_nil)⟩
  | cons k K =>
    cases e : stk s k t x q with
    | none =>
      exfalso
      apply hn
      show (match stk s k t x q with
        | none => pF
        | some r => (r.1 ++ K, r.2.1, r.2.2.1, r.2.2.2.1, ρ ++ r.2.2.2.2)) = _
      rw [e]
    | some r =>
      have z := stk_sub (h k (List.mem_cons_self)) e
      have e2 : stp s (k :: K, t, x, q, ρ) = (r.1 ++ K, r.2.1, r.2.2.1, r.2.2.2.1, ρ ++ r.2.2.2.2) := by
        show (match stk s k t x q with
          | none => pF
          | some r => (r.1 ++ K, r.2.1, r.2.2.1, r.2.2.2.1, ρ ++ r.2.2.2.2)) = _
        rw [e]
      rw [e2]
      refine ⟨fun j hj => ?_, r.2.2.2.2, rfl, z.2⟩
      rcases List.mem_append.mp hj with w | w
      · exact z.1 j w
      · exact h j (List.mem_cons_of_mem _ w)
theorem itr_sub {s : Int → Int} (n : Nat) (a : PCf) (h : ∀ j ∈ a.1, j ∈ SBT) (hn : itr s n a ≠ pF) : ∃ l, (itr s n a).2.2.2.2 = a.2.2.2.2 ++ l ∧ ∀ e ∈ l, e.1 = 1 := by
  induction n generalizing a with
  | zero => exact ⟨[], (List.append_nil _).symm, fun e he => absurd he (List.not_mem_nil)⟩
  | succ n ih =>
    have h2 : itr s n (stp s a) ≠ pF := hn
    have h3 : stp s a ≠ pF := fun e => h2 (by rw [e]; exact itr_pF s n)
    obtain ⟨u, m, hm, he⟩ := stp_sub h h3
    obtain ⟨l, hl, hf⟩ := ih (stp s a) u h2
    refine ⟨m ++ l, ?_, fun e w => ?_⟩
    · show (itr s n (stp s a)).2.2.2.2 = _
      rw [hl, hm, List.append_assoc]
    · rcases List.mem_append.mp w with y | y
      · exact he e y
      · exact hf e y
theorem nR_1 (l : List EV) (h : ∀ e ∈ l, e.1 = 1) : nR l = 0 := by
  induction l with
  | nil => rfl
  | cons e l ih =>
    have := h e (List.mem_cons_self)
    simp only [nR]
    rw [ih (fun e w => h e (List.mem_cons_of_mem _ w)), this]
    decide
theorem GOS.nr0 {k : Nat} {σ τ : MS} {q q2 : QR} {lg : List EV} (hk : k ∈ SBT) (g : GOS [k] σ q [] τ q2 lg) : nR lg = 0 := by
  obtain ⟨n, hn⟩ := g.rc [] []
  have ne : itr (sv σ) n (cfg ([k] ++ []) σ q []) ≠ pF := by
    rw [hn]
    intro h
    have z : ([] : List Nat) = [999] := congrArg Prod.fst h
    exact absurd z (by decide)
  obtain ⟨l, hl, he⟩ := itr_sub n _ (fun j hj => by rw [List.mem_singleton.mp hj]; exact hk) ne
  rw [hn] at hl
  have e : lg = l := hl
  rw [e]
  exact nR_1 l he
/-- the head of a routine -/
def HD (ρ σ : MS) : Prop := Fr [19, 20, 22, 23, 26, 27, 43] [35, 36, 45] [24, 38, 44] ρ σ ∧ FLT ρ σ ∧ NN σ ∧ (ρ.1 25 ≠ 1 → σ.2.1 35 = ρ.2.1 35 ∧ σ.2.2 38 = ρ.2.2 38 ∧ σ.2.1 36 = ρ.2.1 36 ∧ TBm ρ σ) ∧ (ρ.1 25 = 1 → σ.1 43 = ρ.1 43 + 1 ∧ (∀ r, r ≠ ρ.1 30 → σ.2.1 35 r = ρ.2.1 35 r ∧ σ.2.1 36 r = ρ.2.1 36 r) ∧ (∀ j, j ≠ ρ.1 43 → σ.2.1 45 j = ρ.2.1 45 j) ∧ (σ.1 26 = 0 → ρ.1 30 ≠ 6)) ∧ (0 ≤ σ.1 43 ∧ σ.1 43 ≤ 260)
theorem HD.pb {ρ σ τ : MS} (h : HD ρ σ) (f : Fr [19, 20, 22, 23, 26, 27] [35] [24, 38] σ τ) (p : PBF σ τ) : HD ρ τ := by
  obtain ⟨h1, h2, h3, h4, h5, h6⟩ := h
  have e25 : σ.1 25 = ρ.1 25 := h1.1 25 (by decide)
  have e30 : σ.1 30 = ρ.1 30 := h1.1 30 (by decide)
  have fl := p.2.2.2.2.1
  refine ⟨h1.trans (Fr.sub f (by decide) (by decide) (by decide)), h2.trans fl, p.2.2.1, fun a => ?_, fun a => ?_, by rw [f.1 43 (by decide)]; exact h6⟩
  · have q := h4 a
    have w := p.2.1 (by omega)
    exact ⟨w.1.trans q.1, w.2.trans q.2.1, (f.2.1 36 (by decide)).trans q.2.2.1, q.2.2.2.trans (TBm.of f (by decide) (by decide) (by decide) (by decide))⟩
  · have q := h5 a
    refine ⟨by rw [f.1 43 (by decide)]; exact q.1, fun r b => ⟨((p.2.2.2.1 r).2 (by omega)).trans (q.2.1 r b).1, by rw [f.2.1 36 (by decide)]; exact (q.2.1 r b).2⟩, fun j b => by rw [f.2.1 45 (by decide)]; exact q.2.2.1 j b, fun b => q.2.2.2 ?_⟩
    by_cases z : σ.1 26 = 0
    · exact z
    · exact absurd b (fl.1 z)
theorem HD.told {ρ σ : MS} {z v : Int} (h : HD ρ σ) (h1 : ρ.1 25 = 1) (e : z = ρ.1 43) : HD ρ (sA 45 z v σ) := by
  obtain ⟨a1, a2, a3, a4, a5, a6⟩ := h
  have q := a5 h1
  refine ⟨a1.A (by decide), a2, a3, fun a => absurd h1 a, fun _ => ⟨q.1, q.2.1, fun j b => ?_, q.2.2.2⟩, a6⟩
  rw [show (sA 45 z v σ).2.1 45 j = σ.2.1 45 j from ra_ne (by omega) rfl]
  exact q.2.2.1 j b
theorem HD.par {ρ σ : MS} {z v : Int} (h : HD ρ σ) (h1 : ρ.1 25 = 1) (e : z = ρ.1 30) : HD ρ (sA 36 z v σ) := by
  obtain ⟨a1, a2, a3, a4, a5, a6⟩ := h
  have q := a5 h1
  refine ⟨a1.A (by decide), a2, a3, fun a => absurd h1 a, fun _ => ⟨q.1, fun r b => ⟨(q.2.1 r b).1, ?_⟩, q.2.2.1, q.2.2.2⟩, a6⟩
  rw [show (sA 36 z v σ).2.1 36 r = σ.2.1 36 r from ra_ne (by omega) rfl]
  exact (q.2.1 r b).2
/-- what is kept of a routine's reading, also where it fails -/
def PBO (σ τ : MS) : Prop := (∀ x, x ≠ 2640 → (x < 220 * σ.1 30 ∨ 220 * σ.1 30 + 220 ≤ x ∨ σ.1 25 ≠ 3 ∨ 6 ≤ σ.1 30) → IEQ σ x τ x) ∧ (σ.1 25 ≠ 1 → τ.2.1 35 = σ.2.1 35 ∧ τ.2.2 38 = σ.2.2 38 ∧ τ.2.1 36 = σ.2.1 36 ∧ TBm σ τ) ∧ NN τ ∧ FLT σ τ ∧ τ.1 25 = σ.1 25 ∧ (∀ j, (j ≠ σ.1 30 ∨ σ.1 25 ≠ 3) → τ.2.1 9 j = σ.2.1 9 j) ∧ (0 ≤ τ.1 43 ∧ τ.1 43 ≤ 260)
theorem HD.pbo {ρ σ : MS} (h : HD ρ σ) : PBO ρ σ := ⟨fun x _ _ => IEQ.of h.1 (by decide), h.2.2.2.1, h.2.2.1, h.2.1, h.1.1 25 (by decide), fun j _ => by rw [h.1.2.1 9 (by decide)], h.2.2.2.2.2⟩
theorem PBO.fr {ss ks js : List Nat} {ρ σ τ : MS} (h : PBO ρ σ) (f : Fr ss ks js σ τ) (hs : ∀ k ∈ [25, 26, 43], k ∉ ss) (hk : ∀ k ∈ [3, 4, 5, 6, 7, 8, 9, 11, 35, 36, 45], k ∉ ks) (hj : ∀ k ∈ [38, 44], k ∉ js) : PBO ρ τ := by
  obtain ⟨h1, h2, h3, h4, h5, h6, h7⟩ := h
  refine ⟨fun x a b => (h1 x a b).trans (IEQ.of f (fun k q => hk k (by revert k q; decide))), fun a => ?_, h3.fr f (hk 35 (by decide)), h4.trans (FLT.eq (f.1 26 (hs 26 (by decide)))), (f.1 25 (hs 25 (by decide))).trans h5, fun j a => by rw [f.2.1 9 (hk 9 (by decide))]; exact h6 j a, by rw [f.1 43 (hs 43 (by decide))]; exact h7⟩
  have q := h2 a
  exact ⟨(f.2.1 35 (hk 35 (by decide))).trans q.1, (f.2.2 38 (hj 38 (by decide))).trans q.2.1, (f.2.1 36 (hk 36 (by decide))).trans q.2.2.1, q.2.2.2.trans (TBm.of f (hs 43 (by decide)) (hk 11 (by decide)) (hk 45 (by decide)) (hj 44 (by decide)))⟩
theorem PBO.nd {ρ σ τ : MS} (h : PBO ρ σ) (f : Fr [19, 20, 22, 23, 26, 27] [] [24] σ τ) (fl : FLT σ τ) : PBO ρ τ := by
  obtain ⟨h1, h2, h3, h4, h5, h6, h7⟩ := h
  refine ⟨fun x a b => (h1 x a b).trans (IEQ.of f (by decide)), fun a => ?_, h3.fr f (by decide), h4.trans fl, (f.1 25 (by decide)).trans h5, fun j a => by rw [f.2.1 9 (by decide)]; exact h6 j a, by rw [f.1 43 (by decide)]; exact h7⟩
  have q := h2 a
  exact ⟨(f.2.1 35 (by decide)).trans q.1, (f.2.2 38 (by decide)).trans q.2.1, (f.2.1 36 (by decide)).trans q.2.2.1, q.2.2.2.trans (TBm.of f (by decide) (by decide) (by decide) (by decide))⟩
theorem PBO.pb {ss ks js : List Nat} {ρ σ τ : MS} (h : PBO ρ σ) (e30 : σ.1 30 = ρ.1 30) (p : PBF σ τ) (h34 : 0 ≤ σ.1 34) (f : Fr ss ks js σ τ) (hs : 43 ∉ ss) (hk : ∀ k ∈ [9, 11, 36, 45], k ∉ ks) (hj : 44 ∉ js) : PBO ρ τ := by
  obtain ⟨h1, h2, h3, h4, h5, h6, h7⟩ := h
  refine ⟨fun x a b => (h1 x a b).trans (p.1 x a (by omega)), fun a => ?_, p.2.2.1, h4.trans p.2.2.2.2.1, p.2.2.2.2.2.2.1.trans h5, fun j a => by rw [f.2.1 9 (hk 9 (by decide))]; exact h6 j a, by rw [f.1 43 hs]; exact h7⟩
  have q := h2 a
  have w := p.2.1 (by omega)
  exact ⟨w.1.trans q.1, w.2.trans q.2.1, (f.2.1 36 (hk 36 (by decide))).trans q.2.2.1, q.2.2.2.trans (TBm.of f hs (hk 11 (by decide)) (hk 45 (by decide)) hj)⟩
theorem PBO.fin {ρ σ τ : MS} (h : PBO ρ σ) (f : Fr [26, 27, 30] [9] [] σ τ) (fl : FLT σ τ) (h9 : ∀ j, (j ≠ ρ.1 30 ∨ ρ.1 25 ≠ 3) → τ.2.1 9 j = σ.2.1 9 j) : PBO ρ τ := by
  obtain ⟨h1, h2, h3, h4, h5, h6, h7⟩ := h
  refine ⟨fun x a b => (h1 x a b).trans (IEQ.of f (by decide)), fun a => ?_, h3.fr f (by decide), h4.trans fl, (f.1 25 (by decide)).trans h5, fun j a => (h9 j a).trans (h6 j a), by rw [f.1 43 (by decide)]; exact h7⟩
  have q := h2 a
  exact ⟨(f.2.1 35 (by decide)).trans q.1, (f.2.2 38 (by decide)).trans q.2.1, (f.2.1 36 (by decide)).trans q.2.2.1, q.2.2.2.trans (TBm.of f (by decide) (by decide) (by decide) (by decide))⟩
/-- phase 1 of a routine -/
def P1O (σ τ : MS) : Prop := τ.1 43 = σ.1 43 + 1 ∧ (∀ r, r ≠ σ.1 30 → τ.2.1 35 r = σ.2.1 35 r ∧ τ.2.1 36 r = σ.2.1 36 r) ∧ (∀ j, j ≠ σ.1 43 → τ.2.1 45 j = σ.2.1 45 j) ∧ (τ.1 26 = 0 → σ.1 30 ≠ 6 ∧ (σ.1 30 < 6 → τ.2.1 45 (σ.1 43) = τ.2.1 36 (σ.1 30) ∧ (0 ≤ τ.2.1 36 (σ.1 30) ∧ τ.2.1 36 (σ.1 30) ≤ 4) ∧ τ.2.1 36 (σ.1 30) ≤ τ.2.1 35 (σ.1 30)))
/-- what phase 1 found out of the routine's parameters -/
def PAM (ρ σ : MS) : Prop := ρ.1 25 = 1 → ρ.1 30 < 6 → σ.1 26 = 0 → σ.2.1 45 (ρ.1 43) = σ.2.1 36 (ρ.1 30) ∧ (0 ≤ σ.2.1 36 (ρ.1 30) ∧ σ.2.1 36 (ρ.1 30) ≤ 4) ∧ σ.2.1 36 (ρ.1 30) ≤ σ.2.1 35 (ρ.1 30)
theorem P1O.mk {ss ks js : List Nat} {ρ σ τ : MS} (h : HD ρ σ) (m : PAM ρ σ) (h1 : ρ.1 25 = 1) (f : Fr ss ks js σ τ) (hs : 43 ∉ ss) (hk : ∀ k ∈ [36, 45], k ∉ ks) (fl : FLT σ τ) (h35 : ∀ r, σ.2.1 35 r ≤ τ.2.1 35 r ∧ (r ≠ ρ.1 30 → τ.2.1 35 r = σ.2.1 35 r)) : P1O ρ τ := by
  obtain ⟨a1, a2, a3, a4, a5, a6⟩ := h
  have q := a5 h1
  unfold P1O
  rw [f.1 43 hs, f.2.1 36 (hk 36 (by decide)), f.2.1 45 (hk 45 (by decide))]
  refine ⟨q.1, fun r b => ⟨((h35 r).2 b).trans (q.2.1 r b).1, (q.2.1 r b).2⟩, q.2.2.1, fun b => ?_⟩
  have z : σ.1 26 = 0 := by
    by_cases z : σ.1 26 = 0
    · exact z
    · exact absurd b (fl.1 z)
  refine ⟨q.2.2.2 z, fun c => ?_⟩
  have w := m h1 c z
  have y := (h35 (ρ.1 30)).1
  exact ⟨w.1, w.2.1, by omega⟩
/-- the plain items of a routine -/
def PLI (σ : MS) (r : Int) : Prop := (1 ≤ σ.2.1 9 r ∧ σ.2.1 9 r ≤ 120) ∧ (∀ k, 0 ≤ k → k < σ.2.1 9 r → OKI σ 1 (220 * r + k)) ∧ (∃ l, l ≤ 119 ∧ WS (iK σ r) (iD σ r) (iO σ r) (σ.1 43) 0 (σ.2.1 9 r - 1) 0 l) ∧ iK σ r (σ.2.1 9 r - 1) = 7 ∧ (iK σ r 0 = 11 ∨ iK σ r 0 = 7 ∨ (iK σ r 0 = 13 ∧ iK σ r 1 = 11))
theorem PLI.mk {n : Int} {α β γ ω : MS} {lg : List EV} (s : SGF α β lg) (fs : FS α β) (h3 : α.1 25 = 3) (h6 : 0 ≤ α.1 30 ∧ α.1 30 < 6) (a34 : α.1 34 = 0) (a33 : α.1 33 = 0) (pb : PBF α β) (pc : PBC n α β) (he : ∀ e ∈ lg, E3 α e) (h120 : β.1 34 + 1 ≤ 120) (p2 : PBF β γ) (e34 : γ.1 34 = β.1 34 + 1) (ok : OKI γ 1 (PXx β)) (k7 : γ.2.1 3 (PXx β) = 7) (tb1 : TBm α β) (tb2 : TBm β γ) (f : Fr [30] [9] [] γ ω) (e9 : ω.2.1 9 (α.1 30) = γ.1 34) : PLI ω (α.1 30) := by
  have b6 := pb.2.2.2.2.2.1
  have b25 : β.1 25 = α.1 25 := pb.2.2.2.2.2.2.1
  have b30 : β.1 30 = α.1 30 := pb.2.2.2.2.2.2.2
  have x : PXx β = 220 * α.1 30 + β.1 34 := by unfold PXx; rw [if_pos (by omega), b30]
  rw [x] at ok k7
  obtain ⟨S1, S2⟩ := s h3 h6.2 (by omega) he
  rw [a34, a33] at S2
  have F := fs h3 h6.2 (by omega)
  rw [a34] at F
  have ig : ∀ z, IEQ γ z ω z := fun z => IEQ.of f (by decide)
  have ib : ∀ k, 0 ≤ k → k < β.1 34 → IEQ β (220 * α.1 30 + k) ω (220 * α.1 30 + k) := fun k a b => (p2.1 _ (by omega) (by omega)).trans (ig _)
  have t11 : ω.2.1 11 = γ.2.1 11 := f.2.1 11 (by decide)
  have e43 : ω.1 43 = α.1 43 := (f.1 43 (by decide)).trans (tb2.1.trans tb1.1)
  have pc7 : β.1 33 - α.1 33 ≤ β.1 34 - α.1 34 := pc.2.2.2.2.2.2.2
  unfold PLI
  rw [e9, e34]
  refine ⟨by omega, fun k a b => ?_, ⟨β.1 33, by omega, ?_⟩, ?_, ?_⟩
  · by_cases z : k = β.1 34
    · rw [z]; exact (ig _).oki t11 ok
    · exact (ib k a (by omega)).oki (t11.trans tb2.2.1) (S1 k (by omega) (by omega))
  · rw [e43, show β.1 34 + 1 - 1 = β.1 34 by omega]
    exact S2.ext (fun k a b => ⟨(ib k a b).1, (ib k a b).2.1, (ib k a b).2.2.1⟩)
  · rw [show β.1 34 + 1 - 1 = β.1 34 by omega]
    exact (ig _).1.trans k7
  · rcases F with e | e | e
    · have e0 : β.1 34 = 0 := by omega
      rw [e0] at k7
      exact Or.inr (Or.inl ((ig _).1.trans k7))
    · exact Or.inl ((ib 0 (by omega) (by omega)).1.trans e.1)
    · exact Or.inr (Or.inr ⟨(ib 0 (by omega) (by omega)).1.trans e.1.1, (ib 1 (by omega) (by omega)).1.trans e.1.2⟩)
/-- what the routine's reading may take as given -/
def HQR (σ : MS) : Prop := σ.1 25 = 3 → ∀ (τ : MS) (lg : List EV), (∀ x, GOS [30] (sS 34 x σ) (qq 0) [] τ (qq 0) lg) → (0 < nR lg → σ.1 30 < 6) ∧ ∀ e ∈ lg, E3 σ e
def ORH (σ : MS) : Prop := TOK σ ∧ (0 ≤ σ.1 25 ∧ σ.1 25 ≤ 3) ∧ (0 ≤ σ.1 30 ∧ 5 * σ.1 30 ≤ σ.1 19) ∧ (0 ≤ σ.1 31 ∧ σ.1 31 ≤ σ.1 19) ∧ (σ.1 28 = 0 ∧ σ.1 29 = 0) ∧ NN σ ∧ ((0 ≤ σ.1 43 ∧ σ.1 43 ≤ 260) ∧ (σ.1 25 = 1 → σ.1 43 = σ.1 30)) ∧ HQR σ
def ORQ (σ τ : MS) : Prop := TOK τ ∧ (τ.1 30 = σ.1 30 + 1 ∧ σ.1 19 + 5 ≤ τ.1 19 ∧ (0 ≤ τ.1 31 ∧ τ.1 31 ≤ τ.1 19) ∧ τ.1 28 = 0 ∧ τ.1 29 = 0) ∧ ∃ lg, (∀ x, GOS [30] (sS 34 x σ) (qq 0) [] τ (qq 0) lg) ∧ nR lg = 1 ∧ (σ.1 25 = 2 → τ.1 26 = 0 → ∀ e ∈ lg, E2 σ e) ∧ (σ.1 25 = 1 → P1O σ τ) ∧ (σ.1 25 = 3 → PLI τ (σ.1 30))
theorem RDY.new {σ : MS} {v : Int} (tok : TOK σ) (h25 : 0 ≤ σ.1 25 ∧ σ.1 25 ≤ 3) (h30 : 0 ≤ σ.1 30 ∧ σ.1 30 ≤ 2000) (h31 : 0 ≤ σ.1 31 ∧ σ.1 31 ≤ σ.1 19) (hv : 0 ≤ v ∧ v ≤ 12) : RDY (sS 34 0 (sS 33 0 (sS 32 v σ))) := by
  have t := tok.1
  refine ⟨tok, h25, h30, ?_, ?_, h31, ?_⟩
  · show (0 : Int) ≤ 0 ∧ (0 : Int) ≤ 2 * σ.1 19 + 10
    omega
  · show 0 ≤ v ∧ v ≤ 12 + 0
    omega
  · show (0 : Int) ≤ 0 ∧ (0 : Int) ≤ 0
    omega

