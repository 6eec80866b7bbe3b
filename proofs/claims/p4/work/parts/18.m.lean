/-- arguments of the call under way -/
def CAG (m : Int) (σ : MS) : Prop := ∀ i, 0 ≤ i → i < m → i < 4 → (σ.2.1 41 i = 1 ∨ σ.2.1 41 i = 2) ∧ (σ.2.1 41 i = 2 → 0 ≤ σ.2.1 42 i ∧ σ.2.1 42 i < 12 + σ.1 34)
theorem CAG.nil {σ : MS} : CAG 0 σ := fun i a b _ => by omega
theorem CAG.mv {ss ks js : List Nat} {m : Int} {σ τ : MS} (h : CAG m σ) (f : Fr ss ks js σ τ) (h1 : 41 ∉ ks) (h2 : 42 ∉ ks) (h34 : σ.1 34 ≤ τ.1 34) : CAG m τ := fun i a b c => by
  have q := h i a b c
  rw [f.2.1 41 h1, f.2.1 42 h2]
  refine ⟨q.1, fun z => ?_⟩
  have := q.2 z
  omega
theorem CAG.put {m : Int} {σ : MS} (h : CAG m σ) (g : GTm σ) : CAG (m + 1) (sA 42 m (σ.1 40) (sA 41 m (σ.1 39) σ)) := fun i a b c => by
  by_cases e : i = m
  · rw [e, show (sA 42 m (σ.1 40) (sA 41 m (σ.1 39) σ)).2.1 41 m = σ.1 39 from ra_o (by decide) ra_eq, show (sA 42 m (σ.1 40) (sA 41 m (σ.1 39) σ)).2.1 42 m = σ.1 40 from ra_eq]
    exact g
  · rw [show (sA 42 m (σ.1 40) (sA 41 m (σ.1 39) σ)).2.1 41 i = σ.2.1 41 i from ra_o (by decide) (ra_ne e rfl), show (sA 42 m (σ.1 40) (sA 41 m (σ.1 39) σ)).2.1 42 i = σ.2.1 42 i from ra_ne e (ra_o (by decide) rfl)]
    exact h i a (by omega) c
theorem CAG.more {m : Int} {σ : MS} (h : CAG m σ) (g : 4 ≤ m) : CAG (m + 1) σ := fun i a b c => h i a (by omega) c
def CRG (σ τ : MS) (x i : Int) : Prop := ∀ j, 0 ≤ j → j < 4 → (j < i → τ.2.1 7 (4 * x + j) = σ.2.1 41 j ∧ τ.2.1 8 (4 * x + j) = σ.2.1 42 j) ∧ (i ≤ j → τ.2.1 7 (4 * x + j) = σ.2.1 7 (4 * x + j))
theorem CRG.start {σ : MS} {x : Int} : CRG σ σ x 0 := fun j a b => ⟨fun q => by omega, fun _ => rfl⟩
theorem CRG.step {σ τ : MS} {x i k v : Int} (h : CRG σ τ x i) (h0 : 0 ≤ i) (e1 : k = σ.2.1 41 i) (e2 : v = σ.2.1 42 i) : CRG σ (fArg x i k v τ) x (i + 1) := fun j a b => by
  by_cases z : j = i
  · rw [z, fArg_at.1, fArg_at.2]
    exact ⟨fun _ => ⟨e1, e2⟩, fun q => by omega⟩
  · rw [(fArg_ne z).1, (fArg_ne z).2]
    have q := h j a b
    exact ⟨fun w => q.1 (by omega), fun w => q.2 (by omega)⟩
theorem oki_call {σ τ : MS} {x k q m i : Int} (h : ITz σ x 10 k q) (hk : 0 ≤ k ∧ k < 12) (hq : 0 ≤ q ∧ q < 6) (f : Fr [] [7, 8] [] σ τ) (ha : CRG σ τ x i) (hi : i ≤ m ∧ i ≤ 4) (hc : CAG m σ) (h34 : σ.1 34 ≤ 180) (hm : σ.2.1 11 q = m) : OKI τ 1 x := by
  have e3 : τ.2.1 3 x = 10 := by rw [f.2.1 3 (by decide)]; exact h.1
  have e4 : τ.2.1 4 x = k := by rw [f.2.1 4 (by decide)]; exact h.2.1
  have e5 : τ.2.1 5 x = q := by rw [f.2.1 5 (by decide)]; exact h.2.2.1
  have en : nArgs τ x = m := by
    unfold nArgs
    rw [if_pos e3, e5, f.2.1 11 (by decide)]
    exact hm
  refine ⟨by omega, by omega, by omega, by omega, by omega, by omega, by omega, fun j j0 j4 => ?_, by omega⟩
  rw [en]
  by_cases z : j < i
  · obtain ⟨a1, a2⟩ := (ha j j0 j4).1 z
    have g := hc j j0 (by omega) j4
    rw [a1, a2]
    refine ⟨by omega, fun w => ?_⟩
    have := g.2 w
    exact ⟨by omega, by omega⟩
  · rw [(ha j j0 j4).2 (by omega), h.2.2.2.2 j j0 j4]
    exact ⟨by omega, fun w => by omega⟩
theorem TS.putc {k0 : Nat} {n m p : Int} {w : Int64} {σ τ υ : MS} {rest : List Nat} {lg : List EV} (t : TS k0 n σ (38 :: rest) τ (fun c => (w, m, p, 0, c)) lg) (f : Fr [26, 27, 34] [3, 4, 5, 6, 7, 8] [] τ υ) (pb : PBF τ υ) (e : υ.1 34 = τ.1 34 + 2) (hn : 2 ≤ n) (hrd : RDY σ) (p2 : τ.1 25 = 2 → υ.1 26 = 0 → E2 τ (1, m, w)) (hs : srt υ = srt (clP w p m τ)) : TS k0 (n - 2) σ rest υ qq (lg ++ [(1, m, w)]) := by
  have pc : PBC (-2) τ υ := by
    unfold PBC
    rw [f.1 19 (by decide), f.1 31 (by decide), f.1 32 (by decide), f.1 33 (by decide), e]
    omega
  have pc2 : PBC (n - 2) σ υ := t.2.1.trans pc
  have pp := t.1.trans pb
  have hr : RDY υ := RDY.of hrd ⟨pp.2.2.2.2.2.2.1, pp.2.2.2.2.2.2.2⟩ (by
    unfold TOK
    rw [f.1 19 (by decide), f.1 20 (by decide), f.1 21 (by decide), f.1 22 (by decide), f.1 23 (by decide)]
    exact t.2.2.1.1) pc2 (by omega)
  have hp : P2F τ υ [(1, m, w)] := fun a b e he => by
    rw [List.mem_singleton.mp he]
    exact p2 a b
  refine t.go pb pc hr (TBm.of f (by decide) (by decide) (by decide) (by decide)) hp (g38 ?_ ?_ (sv_fr f (by decide) (by decide)) (EFF.call hs))
  · unfold tks
    rw [f.1 19 (by decide), f.1 20 (by decide), f.1 22 (by decide), f.1 23 (by decide), f.2.2 24 (by decide)]
  · unfold xs
    rw [f.1 28 (by decide), f.1 29 (by decide), e]
theorem RBY.rfd {σ : MS} {w : Int64} {v : Int} (h : RBY σ w v) (h0 : 0 ≤ v) (h1 : v < σ.1 43) : RFD σ w v := ⟨h0, h1, h.1 h0⟩
theorem RFD.rby {σ : MS} {w : Int64} {v : Int} (h : RFD σ w v) : RBY σ w v := ⟨fun _ => h.2.2, fun e => absurd h.1 (by omega)⟩
theorem clP_none {σ : MS} {w : Int64} {p m v : Int} (h2 : σ.1 25 = 2) (r : RBY σ w v) (hv : v = -1) : clP w p m σ = ntP 3 p σ := by
  unfold clP
  rw [ifP_t h2, ifP_f (fun z => by obtain ⟨q, z⟩ := z; exact r.2 hv q z.1 z.2.1 z.2.2.1)]
theorem clP_bad {σ : MS} {w : Int64} {p m v : Int} (h2 : σ.1 25 = 2) (r : RBY σ w v) (hv : 0 ≤ v) (h43 : v < σ.1 43) (hm : m ≠ σ.2.1 45 v) : clP w p m σ = ntP 4 p σ := by
  unfold clP
  rw [ifP_t h2, ifP_t ⟨v, r.rfd hv h43⟩, ifP_t ⟨v, r.rfd hv h43, hm⟩]
theorem clP_ok {σ : MS} {w : Int64} {p m v : Int} (r : RBY σ w v) (hv : 0 ≤ v) (h43 : v < σ.1 43) (hm : m = σ.2.1 45 v) : clP w p m σ = σ := by
  unfold clP
  by_cases h2 : σ.1 25 = 2
  · rw [ifP_t h2, ifP_t ⟨v, r.rfd hv h43⟩, ifP_f (fun z => by
      obtain ⟨q, z1, z2⟩ := z
      have e := z1.rby.one r z1.1 hv
      rw [e] at z2
      exact z2 hm)]
  · rw [ifP_f h2]
theorem clP_off {σ : MS} {w : Int64} {p m : Int} (h2 : ¬ σ.1 25 = 2) : clP w p m σ = σ := by unfold clP; rw [ifP_f h2]
/-- the call's routine, where its event is good -/
theorem E3.rby {σ : MS} {w : Int64} {m q : Int} (h : E3 σ (1, m, w)) (r : RBY σ w q) (hq : -1 ≤ q ∧ q < σ.1 43) : (0 ≤ q ∧ q < 6) ∧ σ.2.1 11 q = m := by
  obtain ⟨v, a, b, c, d⟩ := h.2 rfl
  by_cases z : q = -1
  · exact absurd (c.1 a.1).1 (r.2 z v a.1 a.2)
  · have e := r.one c (by omega) a.1
    rw [e]
    exact ⟨⟨a.1, b⟩, d⟩

