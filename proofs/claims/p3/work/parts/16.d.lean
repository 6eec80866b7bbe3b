/-! the reader's state as the automaton sees it -/
def an5 (z : Int) : Int := (iI z &&& iI 255).toInt
theorem an5_eq (z : Int) : iI (an5 z) = iI z &&& iI 255 := iI_self _
theorem an5_r (z : Int) : 0 ≤ an5 z ∧ an5 z ≤ 255 := by
  obtain ⟨w, h1, h2, h3⟩ := iI_and255 (z := z)
  unfold an5
  rw [h1, iI_toInt ⟨by omega, by omega⟩]
  exact ⟨h2, h3⟩
def sv (σ : MS) : Int → Int := fun k => if k < σ.1 21 then an5 (σ.2.1 1 k) else -1
def tks (σ : MS) : TK := (σ.1 19, σ.1 20, σ.1 22, σ.1 23, σ.2.2 24 0)
def xs (σ : MS) : Int × Int × Int := (σ.1 28, σ.1 29, σ.1 34)
def cfg (K : List Nat) (σ : MS) (q : Int64 × Int) (ρ : List EV) : PCf := (K, tks σ, xs σ, q, ρ)
def vw (σ : MS) : TK × (Int × Int × Int) × (Int → Int) := (tks σ, xs σ, sv σ)
theorem sv_fr {ss ks js : List Nat} {σ τ : MS} (f : Fr ss ks js σ τ) (h1 : 21 ∉ ss) (h2 : 1 ∉ ks) : sv τ = sv σ := by unfold sv; rw [f.1 21 h1, f.2.1 1 h2]
theorem vw_fr {ss ks js : List Nat} {σ τ : MS} (f : Fr ss ks js σ τ) (h : ∀ k ∈ [19, 20, 21, 22, 23, 28, 29, 34], k ∉ ss) (h2 : 1 ∉ ks) (h3 : 24 ∉ js) : vw τ = vw σ := by
  unfold vw tks xs
  rw [sv_fr f (h 21 (by decide)) h2, f.1 19 (h 19 (by decide)), f.1 20 (h 20 (by decide)), f.1 22 (h 22 (by decide)), f.1 23 (h 23 (by decide)), f.1 28 (h 28 (by decide)), f.1 29 (h 29 (by decide)), f.1 34 (h 34 (by decide)), f.2.2 24 h3]
def GOS (ks : List Nat) (σ : MS) (q : Int64 × Int) (ks' : List Nat) (τ : MS) (q' : Int64 × Int) (lg : List EV) : Prop := sv τ = sv σ ∧ ∀ K ρ, RCm (sv σ) (cfg (ks ++ K) σ q ρ) (cfg (ks' ++ K) τ q' (ρ ++ lg))
def GOF (ks : List Nat) (σ : MS) (q : Int64 × Int) : Prop := ∀ K ρ, RCm (sv σ) (cfg (ks ++ K) σ q ρ) pF
section GO
variable {a b c : List Nat} {σ τ υ : MS} {q q1 q2 : Int64 × Int} {l1 l2 : List EV}
theorem GOS.trans (h : GOS a σ q b τ q1 l1) (g : GOS b τ q1 c υ q2 l2) : GOS a σ q c υ q2 (l1 ++ l2) := ⟨g.1.trans h.1, fun K ρ => by
  have x := h.2 K ρ
  have y := g.2 K (ρ ++ l1)
  rw [h.1, List.append_assoc] at y
  exact x.trans y⟩
theorem GOS.fail (h : GOS a σ q b τ q1 l1) (g : GOF b τ q1) : GOF a σ q := fun K ρ => by
  have x := h.2 K ρ
  have y := g K (ρ ++ l1)
  rw [h.1] at y
  exact x.trans y
theorem GOS.more (x : List Nat) (h : GOS a σ q b τ q1 l1) : GOS (a ++ x) σ q (b ++ x) τ q1 l1 := ⟨h.1, fun K ρ => by
  have y := h.2 (x ++ K) ρ
  rw [← List.append_assoc, ← List.append_assoc] at y
  exact y⟩
theorem GOF.more (x : List Nat) (h : GOF a σ q) : GOF (a ++ x) σ q := fun K ρ => by
  have y := h (x ++ K) ρ
  rw [← List.append_assoc] at y
  exact y
theorem GOS.nop (h : vw τ = vw σ) : GOS a σ q a τ q [] := by
  unfold vw at h
  have h1 := congrArg Prod.fst h
  have h2 := congrArg (fun x => x.2.1) h
  have h3 := congrArg (fun x => x.2.2) h
  simp only at h1 h2 h3
  refine ⟨h3, fun K ρ => ?_⟩
  unfold cfg
  rw [h1, h2, List.append_nil]
  exact RCm.rfl
theorem GOS.then (h : GOS a σ q b τ q1 []) (g : GOS b τ q1 c υ q2 l2) : GOS a σ q c υ q2 l2 := h.trans g
theorem GOS.last (h : GOS a σ q b τ q1 l1) (e : vw υ = vw τ) : GOS a σ q b υ q1 l1 := by
  have := h.trans (GOS.nop (a := b) (q := q1) e)
  rw [List.append_nil] at this
  exact this
theorem GOS.one {k : Nat} (hs : sv τ = sv σ) (h : stk (sv σ) k (tks σ) (xs σ) q = some (b, tks τ, xs τ, q1, l1)) : GOS [k] σ q b τ q1 l1 := ⟨hs, fun K ρ => RCm.one (by
  show (match stk (sv σ) k (tks σ) (xs σ) q with
    | none => pF
    | some r => (r.1 ++ K, r.2.1, r.2.2.1, r.2.2.2.1, ρ ++ r.2.2.2.2)) = _
  rw [h]; rfl)⟩
theorem GOF.one {k : Nat} (h : stk (sv σ) k (tks σ) (xs σ) q = none) : GOF [k] σ q := fun K ρ => RCm.one (by
  show (match stk (sv σ) k (tks σ) (xs σ) q with
    | none => pF
    | some r => (r.1 ++ K, r.2.1, r.2.2.1, r.2.2.2.1, ρ ++ r.2.2.2.2)) = _
  rw [h])
end GO
/-- a token further -/
def ADVm (σ τ : MS) : Prop := tks τ = advT (sv σ) (σ.1 20) ∧ xs τ = xs σ ∧ sv τ = sv σ
theorem nam_iff (σ : MS) : nam (tks σ) ↔ NMW σ := by unfold nam tks NMW; simp
def SG (σ : MS) (c : Int) : Prop := σ.1 22 = 4 ∧ σ.1 23 = c
def WD (σ : MS) (w : Int64) : Prop := σ.1 22 = 2 ∧ σ.2.2 24 0 = w
/-- numbers changed, nothing else -/
def CHG (σ τ : MS) (x : Int × Int × Int) : Prop := tks τ = tks σ ∧ xs τ = x ∧ sv τ = sv σ
section TAGS
variable {σ τ : MS} {q : Int64 × Int}
theorem g0m (h : SG σ 45) (a : ADVm σ τ) : GOS [0] σ q [1, 51] τ q [] := GOS.one a.2.2 (by rw [a.1, a.2.1]; exact if_pos h)
theorem g0n (h : ¬ SG σ 45) : GOS [0] σ q [1] σ q [] := GOS.one rfl (if_neg h)
theorem g1a (h : σ.1 22 = 3 ∨ NMW σ) (a : ADVm σ τ) : GOS [1] σ q [] τ q [] := GOS.one a.2.2 (by rw [a.1, a.2.1]; exact if_pos (h.elim Or.inl (fun x => Or.inr ((nam_iff σ).mpr x))))
theorem g1n (h3 : ¬ σ.1 22 = 3) (hn : ¬ NMW σ) : ¬ ((tks σ).2.2.1 = 3 ∨ nam (tks σ)) := fun h => h.elim h3 (fun x => hn ((nam_iff σ).mp x))
theorem g1p (h3 : ¬ σ.1 22 = 3) (hn : ¬ NMW σ) (h : SG σ 40) (a : ADVm σ τ) : GOS [1] σ q [2, 141] τ q [] := GOS.one a.2.2 (by rw [a.1, a.2.1]; exact (if_neg (g1n h3 hn)).trans (if_pos h))
theorem g1f (h3 : ¬ σ.1 22 = 3) (hn : ¬ NMW σ) (h : ¬ SG σ 40) : GOF [1] σ q := GOF.one ((if_neg (g1n h3 hn)).trans (if_neg h))
theorem g2f (h : σ.1 28 = 8) : GOF [2] σ q := GOF.one (if_pos h)
theorem g2 (h : ¬ σ.1 28 = 8) (a : CHG σ τ (σ.1 28 + 1, σ.1 29, σ.1 34)) : GOS [2] σ q [3, 6] τ q [] := GOS.one a.2.2 (by rw [a.1, a.2.1]; exact if_neg h)
theorem g3 : GOS [3] σ q [4, 8] σ q [] := GOS.one rfl rfl
theorem g4 : GOS [4] σ q [0, 9] σ q [] := GOS.one rfl rfl
theorem g6y (h : SG σ 61 ∨ SG σ 60) (a : ADVm σ τ) : GOS [6] σ q [3, 51, 7] τ q [] := GOS.one a.2.2 (by rw [a.1, a.2.1]; exact if_pos h)
theorem g6n (h : ¬ SG σ 61) (h2 : ¬ SG σ 60) : GOS [6] σ q [7] σ q [] := GOS.one rfl (if_neg (fun x => x.elim h h2))
theorem g7 (a : CHG σ τ (σ.1 28 - 1, σ.1 29, σ.1 34)) : GOS [7] σ q [] τ q [] := GOS.one a.2.2 (by rw [a.1, a.2.1]; rfl)
theorem g8y (h : SG σ 43 ∨ SG σ 45) (a : ADVm σ τ) : GOS [8] σ q [4, 51, 8] τ q [] := GOS.one a.2.2 (by rw [a.1, a.2.1]; exact if_pos h)
theorem g8n (h : ¬ SG σ 43) (h2 : ¬ SG σ 45) : GOS [8] σ q [] σ q [] := GOS.one rfl (if_neg (fun x => x.elim h h2))
theorem g9y (h : SG σ 42) (a : ADVm σ τ) : GOS [9] σ q [0, 51, 9] τ q [] := GOS.one a.2.2 (by rw [a.1, a.2.1]; exact if_pos h)
theorem g9n (h : ¬ SG σ 42) : GOS [9] σ q [] σ q [] := GOS.one rfl (if_neg h)
theorem g51 (a : CHG σ τ (σ.1 28, σ.1 29, σ.1 34 + 1)) : GOS [51] σ q [] τ q [] := GOS.one a.2.2 (by rw [a.1, a.2.1]; rfl)
theorem g52 (a : CHG σ τ (σ.1 28, σ.1 29, σ.1 34 + 2)) : GOS [52] σ q [] τ q [] := GOS.one a.2.2 (by rw [a.1, a.2.1]; rfl)
theorem g20w (h : WD σ 512852847717) : GOS [20] σ q [22] σ q [] := GOS.one rfl (if_pos h)
theorem g20i (h1 : ¬ WD σ 512852847717) (h : WD σ 26982) : GOS [20] σ q [51, 21] σ q [] := GOS.one rfl ((if_neg h1).trans (if_pos h))
theorem g20o (h1 : ¬ WD σ 512852847717) (h2 : ¬ WD σ 26982) (h : WD σ 7304564 ∨ WD σ 125780071117422) : GOS [20] σ q [51, 39] σ q [] := GOS.one rfl ((if_neg h1).trans ((if_neg h2).trans (if_pos h)))
theorem g20n (h1 : ¬ WD σ 512852847717) (h2 : ¬ WD σ 26982) (h3 : ¬ WD σ 7304564) (h4 : ¬ WD σ 125780071117422) (h : NMW σ) : GOS [20] σ q [51, 23] σ q [] := GOS.one rfl ((if_neg h1).trans ((if_neg h2).trans ((if_neg (fun x => x.elim h3 h4)).trans (if_pos ((nam_iff σ).mpr h)))))
theorem g20f (h1 : ¬ WD σ 512852847717) (h2 : ¬ WD σ 26982) (h3 : ¬ WD σ 7304564) (h4 : ¬ WD σ 125780071117422) (h : ¬ NMW σ) : GOF [20] σ q := GOF.one ((if_neg h1).trans ((if_neg h2).trans ((if_neg (fun x => x.elim h3 h4)).trans (if_neg (fun x => h ((nam_iff σ).mp x))))))
theorem g21 (a : ADVm σ τ) : GOS [21] σ q [2, 51, 28, 24] τ q [] := GOS.one a.2.2 (by rw [a.1, a.2.1]; rfl)
theorem g22 (a : ADVm σ τ) : GOS [22] σ q [52, 2, 51, 28, 52] τ q [] := GOS.one a.2.2 (by rw [a.1, a.2.1]; rfl)
theorem g23 (a : ADVm σ τ) : GOS [23] σ q [161, 25] τ q [] := GOS.one a.2.2 (by rw [a.1, a.2.1]; rfl)
theorem g39 (a : ADVm σ τ) : GOS [39] σ q [2, 51, 159] τ q [] := GOS.one a.2.2 (by rw [a.1, a.2.1]; rfl)
theorem g24y (h : WD σ 1701606245) (a : ADVm σ τ) : GOS [24] σ q [52, 28, 51] τ q [] := GOS.one a.2.2 (by rw [a.1, a.2.1]; exact if_pos h)
theorem g24n (h : ¬ WD σ 1701606245) : GOS [24] σ q [51] σ q [] := GOS.one rfl (if_neg h)
theorem g25c (h : NMW σ) (a : ADVm σ τ) (h2 : SG τ 40) : GOS [25] σ q [26, 159] τ (σ.2.2 24 0, 0) [] := GOS.one a.2.2 (by
  have e : sgn (advT (sv σ) (tks σ).2.1) 40 := by rw [show advT (sv σ) (tks σ).2.1 = tks τ from a.1.symm]; exact h2
  rw [a.1, a.2.1]; exact (if_pos ((nam_iff σ).mpr h)).trans (if_pos e))
theorem g25b {υ : MS} (h : NMW σ) (a : ADVm σ τ) (h2 : ¬ SG τ 40) (e : tks υ = (σ.1 19, σ.1 20, 2, τ.1 23, σ.2.2 24 0)) (e2 : xs υ = xs σ) (e3 : sv υ = sv σ) : GOS [25] σ q [2, 52, 159] υ q [] := GOS.one e3 (by
  have e0 : ¬ sgn (advT (sv σ) (tks σ).2.1) 40 := by rw [show advT (sv σ) (tks σ).2.1 = tks τ from a.1.symm]; exact h2
  have e1 : (advT (sv σ) (tks σ).2.1).2.2.2.1 = τ.1 23 := by rw [show advT (sv σ) (tks σ).2.1 = tks τ from a.1.symm]; rfl
  rw [e, e2, ← e1]; exact (if_pos ((nam_iff σ).mpr h)).trans (if_neg e0))
theorem g25n (h : ¬ NMW σ) : GOS [25] σ q [2, 52, 159] σ q [] := GOS.one rfl (if_neg (fun x => h ((nam_iff σ).mp x)))
theorem g26y (a : ADVm σ τ) (h : SG τ 41) : GOS [26] σ q [38, 141] τ q [] := GOS.one a.2.2 (by
  have e : sgn (advT (sv σ) (tks σ).2.1) 41 := by rw [show advT (sv σ) (tks σ).2.1 = tks τ from a.1.symm]; exact h
  rw [a.1, a.2.1]; exact if_pos e)
theorem g26n (a : ADVm σ τ) (h : ¬ SG τ 41) : GOS [26] σ q [2, 27] τ q [] := GOS.one a.2.2 (by
  have e : ¬ sgn (advT (sv σ) (tks σ).2.1) 41 := by rw [show advT (sv σ) (tks σ).2.1 = tks τ from a.1.symm]; exact h
  rw [a.1, a.2.1]; exact if_neg e)
theorem g27y (h : SG σ 44) (a : ADVm σ τ) : GOS [27] σ q [2, 27] τ (q.1, q.2 + 1) [] := GOS.one a.2.2 (by rw [a.1, a.2.1]; exact if_pos h)
theorem g27n (h : ¬ SG σ 44) : GOS [27] σ q [38, 141] σ (q.1, q.2 + 1) [] := GOS.one rfl (if_neg h)
theorem g38 (a : CHG σ τ (σ.1 28, σ.1 29, σ.1 34 + 2)) : GOS [38] σ q [] τ (0, 0) [(1, q.2, q.1)] := GOS.one a.2.2 (by rw [a.1, a.2.1]; rfl)
theorem g28f (h : σ.1 29 = 6) : GOF [28] σ q := GOF.one (if_pos h)
theorem g28 (h : ¬ σ.1 29 = 6) (a : CHG σ τ (σ.1 28, σ.1 29 + 1, σ.1 34)) : GOS [28] σ q [223, 29] τ q [] := GOS.one a.2.2 (by rw [a.1, a.2.1]; exact if_neg h)
theorem g29y (h : SG σ 125) (a : ADVm σ τ) : GOS [29] σ q [40] τ q [] := GOS.one a.2.2 (by rw [a.1, a.2.1]; exact if_pos h)
theorem g29n (h : ¬ SG σ 125) : GOS [29] σ q [20, 29] σ q [] := GOS.one rfl (if_neg h)
theorem g40 (a : CHG σ τ (σ.1 28, σ.1 29 - 1, σ.1 34)) : GOS [40] σ q [] τ q [] := GOS.one a.2.2 (by rw [a.1, a.2.1]; rfl)
theorem g30 (h : NMW σ) (a : ADVm σ τ) : GOS [30] σ q [140, 31] τ q [] := GOS.one a.2.2 (by rw [a.1, a.2.1]; exact if_pos ((nam_iff σ).mpr h))
theorem g30f (h : ¬ NMW σ) : GOF [30] σ q := GOF.one (if_neg (fun x => h ((nam_iff σ).mp x)))
theorem g31y (h : SG σ 41) : GOS [31] σ q [141, 35] σ q [] := GOS.one rfl (if_pos h)
theorem g31n (h : ¬ SG σ 41) : GOS [31] σ q [32] σ q [] := GOS.one rfl (if_neg h)
theorem g32 (h : NMW σ) (a : ADVm σ τ) : GOS [32] σ q [33] τ q [] := GOS.one a.2.2 (by rw [a.1, a.2.1]; exact if_pos ((nam_iff σ).mpr h))
theorem g32f (h : ¬ NMW σ) : GOF [32] σ q := GOF.one (if_neg (fun x => h ((nam_iff σ).mp x)))
theorem g33y (h : SG σ 44) (a : ADVm σ τ) : GOS [33] σ q [32] τ q [] := GOS.one a.2.2 (by rw [a.1, a.2.1]; exact if_pos h)
theorem g33n (h : ¬ SG σ 44) : GOS [33] σ q [141, 35] σ q [] := GOS.one rfl (if_neg h)
theorem g34 : GOS [34] σ q [] σ q [(0, σ.1 34, 0)] := GOS.one rfl rfl
theorem g35 (a : CHG σ τ (σ.1 28, σ.1 29, 0)) : GOS [35] σ q [28, 51, 34] τ q [] := GOS.one a.2.2 (by rw [a.1, a.2.1]; rfl)
theorem g36y (h : σ.1 22 = 0) : GOS [36] σ q [] σ q [] := GOS.one rfl (if_pos h)
theorem g36n (h : ¬ σ.1 22 = 0) : GOS [36] σ q [30, 36] σ q [] := GOS.one rfl (if_neg h)
theorem gn_40 (h : SG σ 40) (a : ADVm σ τ) : GOS [140] σ q [] τ q [] := GOS.one a.2.2 (by rw [a.1, a.2.1]; exact if_pos h)
theorem gn_41 (h : SG σ 41) (a : ADVm σ τ) : GOS [141] σ q [] τ q [] := GOS.one a.2.2 (by rw [a.1, a.2.1]; exact if_pos h)
theorem gn_59 (h : SG σ 59) (a : ADVm σ τ) : GOS [159] σ q [] τ q [] := GOS.one a.2.2 (by rw [a.1, a.2.1]; exact if_pos h)
theorem gn_61 (h : SG σ 61) (a : ADVm σ τ) : GOS [161] σ q [] τ q [] := GOS.one a.2.2 (by rw [a.1, a.2.1]; exact if_pos h)
theorem gn_123 (h : SG σ 123) (a : ADVm σ τ) : GOS [223] σ q [] τ q [] := GOS.one a.2.2 (by rw [a.1, a.2.1]; exact if_pos h)
theorem gf_40 (h : ¬ SG σ 40) : GOF [140] σ q := GOF.one (if_neg h)
theorem gf_41 (h : ¬ SG σ 41) : GOF [141] σ q := GOF.one (if_neg h)
theorem gf_59 (h : ¬ SG σ 59) : GOF [159] σ q := GOF.one (if_neg h)
theorem gf_61 (h : ¬ SG σ 61) : GOF [161] σ q := GOF.one (if_neg h)
theorem gf_123 (h : ¬ SG σ 123) : GOF [223] σ q := GOF.one (if_neg h)
end TAGS

