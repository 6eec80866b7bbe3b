/-! names and routines that are looked for; what is listed -/
def NIV (σ : MS) (a : Nat) (k i2 : Int) : Prop := ∀ x : Nat, σ.2.1 48 a = (x : Int) → ∀ i, 0 ≤ i → i < i2 → σ.2.1 (1000 + x) i ≠ k
def NIY (σ : MS) (a : Nat) (k v : Int) : Prop := ∀ d x : Nat, σ.2.1 35 a = (d : Int) → σ.2.1 48 a = (x : Int) → 0 ≤ v ∧ v < σ.2.1 7 d ∧ σ.2.1 (1000 + x) v = k
def NIN (σ : MS) (a : Nat) (k : Int) : Prop := ∀ d x : Nat, σ.2.1 35 a = (d : Int) → σ.2.1 48 a = (x : Int) → ∀ i, 0 ≤ i → i < σ.2.1 7 d → σ.2.1 (1000 + x) i ≠ k
def NIQ (σ : MS) (a : Nat) (k v : Int) : Prop := (v = -1 ∧ NIN σ a k) ∨ (0 ≤ v ∧ NIY σ a k v)
/-- routines: the first of that key -/
def ROV (σ : MS) (a : Nat) (k i2 : Int) : Prop := ∀ x : Nat, σ.2.1 36 a = (x : Int) → ∀ i, 0 ≤ i → i < i2 → i < 256 → σ.2.1 (1000 + x) i ≠ k
def ROY (σ : MS) (a : Nat) (k v : Int) : Prop := (0 ≤ v ∧ v < σ.2.1 38 a) ∧ ∀ x : Nat, σ.2.1 36 a = (x : Int) → σ.2.1 (1000 + x) v = k
def ROQ (σ : MS) (a : Nat) (k v : Int) : Prop := (v = -1 ∧ ROV σ a k (σ.2.1 38 a)) ∨ (ROY σ a k v ∧ ROV σ a k v)
theorem sA_at {k : Nat} {z v i : Int} {σ : MS} : (sA k z v σ).2.1 k i = if i = z then v else σ.2.1 k i := by
  by_cases h : i = z
  · rw [if_pos h, h]; exact ra_eq
  · rw [if_neg h]; exact ra_ne h rfl
section NIX
variable {T : CT} {σ τ : MS} {a n j d x : Nat} {c : CS} {N k v p m : Int} {w : Int64} {S : Int → Int}
theorem NIQ.fd (q : NIQ σ a k v) (h : NMR σ a c) (hw : WT T σ) (ha : OB T a 5) (hk : KW k w) : v ≠ -1 ↔ fndC c w := by
  obtain ⟨d, hd, -⟩ := wf_35 hw ha
  obtain ⟨x, hx, -⟩ := wf_48 hw ha
  have e := h.1 d hd
  rcases q with ⟨q1, q2⟩ | ⟨q1, q2⟩
  · refine ⟨fun z => absurd q1 z, fun z => ?_⟩
    obtain ⟨i, i0, i1, i2⟩ := z
    exact absurd ((KW.eq (h.2 x hx i i0 i1) hk).mpr i2) (q2 d x hd hx i i0 (by rw [e]; exact i1))
  · obtain ⟨r1, r2, r3⟩ := q2 d x hd hx
    rw [e] at r2
    have g := h.2 x hx v r1 r2
    rw [r3] at g
    exact ⟨fun _ => ⟨v, r1, r2, (KW.eq g hk).mp rfl⟩, fun _ => by omega⟩
/-- a name more -/
theorem RDX.nw (h : RDX σ a S n j c N) (hw : WT T σ) (ha : OB T a 5) (hx : σ.2.1 48 a = (x : Int)) (hd : σ.2.1 35 a = (d : Int)) (hk : KW k w) (fr : FrC T [521] σ τ) (hs : τ = sA (1000 + x) c.nn k σ) : RDX (sA 7 d (c.nn + 1) τ) a S n j (nmC w c) N := by
  obtain ⟨h1, h2, h3⟩ := h
  have e35 : (sA 7 d (c.nn + 1) τ).2.1 35 = σ.2.1 35 := (sA_k (by decide)).trans (fr.1 35 (Or.inl (by decide)) (by decide))
  have e48 : (sA 7 d (c.nn + 1) τ).2.1 48 = σ.2.1 48 := (sA_k (by decide)).trans (fr.1 48 (Or.inl (by decide)) (by decide))
  have e6 : (sA 7 d (c.nn + 1) τ).2.1 6 = σ.2.1 6 := (sA_k (by decide)).trans (fr.1 6 (Or.inl (by decide)) (by decide))
  have q : RD0 (sA 7 d (c.nn + 1) τ) a S n j c := (h1.fc hw ha fr (by decide) (by decide)).pt (by decide) (by decide)
  refine ⟨⟨q.1, q.2.1, q.2.2⟩, ⟨fun d2 g => ?_, fun y g i i0 i1 => ?_⟩, h3.cg e35 e6⟩
  · rw [e35] at g
    have e : d2 = d := by omega
    rw [e]; exact ra_eq
  · rw [e48] at g
    have e : y = x := by omega
    rw [e, sA_k (by omega), hs, sA_at]
    show KW _ (up1 c.nk c.nn w i)
    by_cases z : i = c.nn
    · rw [if_pos z, z, up1_eq]; exact hk
    · rw [if_neg z, up1_ne z]
      have i2 : i < c.nn := by have : i < c.nn + 1 := i1; omega
      exact h2.2 x hx i i0 i2
/-- how many parameters -/
theorem RDX.rp (h : RDX σ a S n j c N) (hw : WT T σ) (ha : OB T a 5) (hx : σ.2.1 37 a = (x : Int)) (fr : FrC T [517] σ τ) (hs : τ = sA (1000 + x) (c.rn - 1) v σ) : RDX τ a S n j (rpC v c) N := by
  obtain ⟨⟨h1, h2, h4⟩, h5, h6⟩ := h
  obtain ⟨k1, k2, k3, k4, k5, k6⟩ := h2
  have g : ∀ k ∈ [36, 37, 38, 39, 40, 41, 42, 43, 44, 45], τ.2.1 k = σ.2.1 k := fun k w => fr.1 k (Or.inl ((by decide : ∀ k ∈ [36, 37, 38, 39, 40, 41, 42, 43, 44, 45], k < 200) k w)) ((by decide : ∀ k ∈ [36, 37, 38, 39, 40, 41, 42, 43, 44, 45], k ∉ [517]) k w)
  refine ⟨⟨h1.fc hw ha fr (by decide) (by decide), ⟨?_, fun y q => ?_, fun y q => ?_, fun y q => ?_, fun y q => ?_, fun y q => ?_⟩, h4⟩, h5.fc hw ha fr (by decide) (by decide), h6.fc fr (by decide) (by decide)⟩
  · rw [g 43 (by decide), g 44 (by decide), g 38 (by decide), g 42 (by decide), g 45 (by decide)]; exact k1
  · rw [g 36 (by decide)] at q
    rw [row_f fr (wf_36 hw ha) (by unfold HT; omega) (by decide) q]; exact k2 y q
  · rw [g 37 (by decide)] at q
    have e : y = x := by omega
    intro i i0 i1
    rw [e, hs, sA_at]
    show _ = up1 c.rp (c.rn - 1) v i
    by_cases z : i = c.rn - 1
    · rw [if_pos z, z, up1_eq]
    · rw [if_neg z, up1_ne z]; exact k3 x hx i i0 i1
  · rw [g 39 (by decide)] at q
    rw [row_f fr (wf_39 hw ha) (by unfold HT; omega) (by decide) q]; exact k4 y q
  · rw [g 40 (by decide)] at q
    rw [row_f fr (wf_40 hw ha) (by unfold HT; omega) (by decide) q]; exact k5 y q
  · rw [g 41 (by decide)] at q
    rw [row_f fr (wf_41 hw ha) (by unfold HT; omega) (by decide) q]; exact k6 y q
/-- a call is listed -/
theorem RDX.cl (h : RDX σ a S n j c N) (hw : WT T σ) (ha : OB T a 5) (fr : FrC T [42, 518, 519, 520] σ τ) (h42 : τ.2.1 42 a = c.cn + 1) (hk : KW k w) (r1 : ∀ x : Nat, σ.2.1 39 a = (x : Int) → ∀ i, τ.2.1 (1000 + x) i = if i = c.cn then k else σ.2.1 (1000 + x) i) (r2 : ∀ x : Nat, σ.2.1 40 a = (x : Int) → ∀ i, τ.2.1 (1000 + x) i = if i = c.cn then p else σ.2.1 (1000 + x) i) (r3 : ∀ x : Nat, σ.2.1 41 a = (x : Int) → ∀ i, τ.2.1 (1000 + x) i = if i = c.cn then m else σ.2.1 (1000 + x) i) (po : 6 * c.cn + 6 ≤ (j : Int)) : RDX τ a S n j (clC w p m c) N := by
  obtain ⟨⟨h1, h2, h4⟩, h5, h6⟩ := h
  obtain ⟨k1, k2, k3, k4, k5, k6⟩ := h2
  have g : ∀ k ∈ [36, 37, 38, 39, 40, 41, 43, 44, 45], τ.2.1 k = σ.2.1 k := fun k w => fr.1 k (Or.inl ((by decide : ∀ k ∈ [36, 37, 38, 39, 40, 41, 43, 44, 45], k < 200) k w)) ((by decide : ∀ k ∈ [36, 37, 38, 39, 40, 41, 43, 44, 45], k ∉ [42, 518, 519, 520]) k w)
  have lt : ∀ {i : Int}, i < (clC w p m c).cn → ¬ i = c.cn → i < c.cn := fun {i} q z => by have : i < c.cn + 1 := q; omega
  refine ⟨⟨h1.fc hw ha fr (by decide) (by decide), ⟨?_, fun y q => ?_, fun y q => ?_, fun y q i i0 i1 => ?_, fun y q i i0 i1 => ?_, fun y q i i0 i1 => ?_⟩, ?_⟩, h5.fc hw ha fr (by decide) (by decide), h6.fc fr (by decide) (by decide)⟩
  · rw [g 43 (by decide), g 44 (by decide), g 38 (by decide), h42, g 45 (by decide)]; exact ⟨k1.1, k1.2.1, k1.2.2.1, rfl, k1.2.2.2.2⟩
  · rw [g 36 (by decide)] at q
    rw [row_f fr (wf_36 hw ha) (by unfold HT; omega) (by decide) q]; exact k2 y q
  · rw [g 37 (by decide)] at q
    rw [row_f fr (wf_37 hw ha) (by unfold HT; omega) (by decide) q]; exact k3 y q
  · rw [g 39 (by decide)] at q
    rw [r1 y q i]
    show KW _ (up1 c.ck c.cn w i)
    by_cases z : i = c.cn
    · rw [if_pos z, z, up1_eq]; exact hk
    · rw [if_neg z, up1_ne z]; exact k4 y q i i0 (lt i1 z)
  · rw [g 40 (by decide)] at q
    rw [r2 y q i]
    show _ = up1 c.cp c.cn p i
    by_cases z : i = c.cn
    · rw [if_pos z, z, up1_eq]
    · rw [if_neg z, up1_ne z]; exact k5 y q i i0 (lt i1 z)
  · rw [g 41 (by decide)] at q
    rw [r3 y q i]
    show _ = up1 c.cc c.cn m i
    by_cases z : i = c.cn
    · rw [if_pos z, z, up1_eq]
    · rw [if_neg z, up1_ne z]; exact k6 y q i i0 (lt i1 z)
  · have w9 := h4.2
    refine ⟨?_, w9⟩
    show 6 * (c.cn + 1) ≤ (j : Int)
    omega
/-- a routine begins -/
theorem RD0.op (h : RD0 σ a S n j c) (hw : WT T σ) (ha : OB T a 5) (fr : FrC T [6, 7, 8, 9, 10, 35, 38, 46, 47, 516, 517] σ τ) (h38 : τ.2.1 38 a = c.rn + 1) (h35 : τ.2.1 35 a = (d : Int)) (h6 : τ.2.1 6 d = 0) (h7 : τ.2.1 7 d = 0) (hk : KW k w) (r1 : ∀ x : Nat, σ.2.1 36 a = (x : Int) → ∀ i, τ.2.1 (1000 + x) i = if i = c.rn then k else σ.2.1 (1000 + x) i) (r2 : ∀ x : Nat, σ.2.1 37 a = (x : Int) → ∀ i, τ.2.1 (1000 + x) i = if i = c.rn then 0 else σ.2.1 (1000 + x) i) (po : 5 * c.rn ≤ (j : Int)) : RDX τ a S n j (rnC w c) 0 := by
  obtain ⟨h1, h2, h4⟩ := h
  obtain ⟨k1, k2, k3, k4, k5, k6⟩ := h2
  have g : ∀ k ∈ [36, 37, 39, 40, 41, 42, 43, 44, 45, 48], τ.2.1 k = σ.2.1 k := fun k w => fr.1 k (Or.inl ((by decide : ∀ k ∈ [36, 37, 39, 40, 41, 42, 43, 44, 45, 48], k < 200) k w)) ((by decide : ∀ k ∈ [36, 37, 39, 40, 41, 42, 43, 44, 45, 48], k ∉ [6, 7, 8, 9, 10, 35, 38, 46, 47, 516, 517]) k w)
  have lt : ∀ {i : Int}, i < (rnC w c).rn → ¬ i = c.rn → i < c.rn := fun {i} q z => by have : i < c.rn + 1 := q; omega
  refine ⟨⟨h1.fc hw ha fr (by decide) (by decide), ⟨?_, fun y q i i0 i1 => ?_, fun y q i i0 i1 => ?_, fun y q => ?_, fun y q => ?_, fun y q => ?_⟩, ?_⟩, ⟨fun d2 q => ?_, fun y q i i0 i1 => ?_⟩, fun d2 q => ?_⟩
  · rw [g 43 (by decide), g 44 (by decide), h38, g 42 (by decide), g 45 (by decide)]; exact ⟨k1.1, k1.2.1, rfl, k1.2.2.2.1, k1.2.2.2.2⟩
  · rw [g 36 (by decide)] at q
    rw [r1 y q i]
    show KW _ (up1 c.rk c.rn w i)
    by_cases z : i = c.rn
    · rw [if_pos z, z, up1_eq]; exact hk
    · rw [if_neg z, up1_ne z]; exact k2 y q i i0 (lt i1 z)
  · rw [g 37 (by decide)] at q
    rw [r2 y q i]
    show _ = up1 c.rp c.rn 0 i
    by_cases z : i = c.rn
    · rw [if_pos z, z, up1_eq]
    · rw [if_neg z, up1_ne z]; exact k3 y q i i0 (lt i1 z)
  · rw [g 39 (by decide)] at q
    rw [row_f fr (wf_39 hw ha) (by unfold HT; omega) (by decide) q]; exact k4 y q
  · rw [g 40 (by decide)] at q
    rw [row_f fr (wf_40 hw ha) (by unfold HT; omega) (by decide) q]; exact k5 y q
  · rw [g 41 (by decide)] at q
    rw [row_f fr (wf_41 hw ha) (by unfold HT; omega) (by decide) q]; exact k6 y q
  · have w9 := h4.1
    refine ⟨w9, ?_, h4.2.2⟩
    show 5 * (c.rn + 1) ≤ (j : Int) + 5
    omega
  · have e : d2 = d := by omega
    rw [e]; exact h7
  · exfalso
    have i2 : i < 0 := i1
    omega
  · have e : d2 = d := by omega
    rw [e]; exact h6
/-- the statements -/
theorem RDX.sm (h : RDX σ a S n j c N) (hm : c.m ≤ (j : Int)) : RDX (sA 45 a (c.m + 1) σ) a S n j (msC (c.m + 1) c) N := by
  have e : ∀ m ∈ [33, 35, 36, 37, 38, 39, 40, 41, 42, 43, 44, 48, 6, 7, 81, 82, 83, 84, 85, 86, 87], (sA 45 a (c.m + 1) σ).2.1 m = σ.2.1 m := fun m q => sA_k (fun w => (by decide : (45 : Nat) ∉ [33, 35, 36, 37, 38, 39, 40, 41, 42, 43, 44, 48, 6, 7, 81, 82, 83, 84, 85, 86, 87]) (w ▸ q))
  have r : ∀ x : Nat, (sA 45 a (c.m + 1) σ).2.1 (1000 + x) = σ.2.1 (1000 + x) := fun x => sA_k (by omega)
  obtain ⟨⟨h1, h2, h4⟩, h5, h6⟩ := h
  obtain ⟨k1, k2, k3, k4, k5, k6⟩ := h2
  refine ⟨⟨h1.pt (by decide) (by decide), ⟨?_, fun y q => ?_, fun y q => ?_, fun y q => ?_, fun y q => ?_, fun y q => ?_⟩, ⟨h4.1, h4.2.1, by have := h4.2.2.1; show 0 ≤ c.m + 1; omega, by show c.m + 1 ≤ (j : Int) + 1; omega⟩⟩, h5.cg (fun m q => e m ((by decide : ∀ k ∈ [35, 7, 48], k ∈ [33, 35, 36, 37, 38, 39, 40, 41, 42, 43, 44, 48, 6, 7, 81, 82, 83, 84, 85, 86, 87]) m q)) (fun x _ => r x), h6.cg (e 35 (by decide)) (e 6 (by decide))⟩
  · rw [e 43 (by decide), e 44 (by decide), e 38 (by decide), e 42 (by decide)]; exact ⟨k1.1, k1.2.1, k1.2.2.1, k1.2.2.2.1, ra_eq⟩
  · rw [e 36 (by decide)] at q; rw [r y]; exact k2 y q
  · rw [e 37 (by decide)] at q; rw [r y]; exact k3 y q
  · rw [e 39 (by decide)] at q; rw [r y]; exact k4 y q
  · rw [e 40 (by decide)] at q; rw [r y]; exact k5 y q
  · rw [e 41 (by decide)] at q; rw [r y]; exact k6 y q
end NIX
theorem ROQ.fd {T : CT} {σ : MS} {a : Nat} {c : CS} {k v : Int} {w : Int64} (q : ROQ σ a k v) (h : CS0 σ a c) (hw : WT T σ) (ha : OB T a 5) (hk : KW k w) : v ≠ -1 ↔ fndQ c w := by
  obtain ⟨x, hx, -⟩ := wf_36 hw ha
  have b := wf_38 hw ha
  have e := h.1.2.2.1
  rcases q with ⟨q1, q2⟩ | ⟨q1, q2⟩
  · refine ⟨fun z => absurd q1 z, fun z => ?_⟩
    obtain ⟨i, i0, i1, i2⟩ := z
    exact absurd ((KW.eq (h.2.1 x hx i i0 i1) hk).mpr i2) (q2 x hx i i0 (by rw [e]; exact i1) (by omega))
  · obtain ⟨⟨r1, r2⟩, r3⟩ := q1
    rw [e] at r2
    have g := h.2.1 x hx v r1 r2
    rw [r3 x hx] at g
    exact ⟨fun _ => ⟨v, r1, r2, (KW.eq g hk).mp rfl⟩, fun _ => by omega⟩

