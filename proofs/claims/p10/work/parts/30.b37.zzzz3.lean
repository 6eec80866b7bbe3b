/-! a code of the class is the code of the reference -/
def RCX (T : CT) (σ τ : MS) (a xa xb xc xd xe xf c : Nat) (q : Int) : Prop :=
  c ≠ a ∧ (cdS σ c = rS τ q ∧ σ.2.1 8 c = τ.2.1 11 q) ∧ (WOK (cdW σ c) (σ.2.1 6 c) ∧ LNK (cdW σ c) (σ.2.1 6 c) ∧ RN9 σ c (τ.2.1 12)) ∧
  (σ.2.1 5 c = (adN σ 5 c : Int) ∧ σ.2.1 12 c = (adN σ 12 c : Int) ∧ σ.2.1 15 c = (adN σ 15 c : Int)) ∧
  (13 * σ.2.1 6 c ≤ ((T (adN σ 5 c)).2 : Int) ∧ (T (adN σ 12 c)).2 = 12 ∧ (T (adN σ 15 c)).2 = 144) ∧
  ∀ f, f ∈ AF6 → adN σ f c ∉ [xa, xb, xc, xd, xe, xf]
def RWF (T : CT) (σ : MS) (a xa xb xc xd xe xf y : Nat) (C : Int → Nat) (τ : MS) : Prop :=
  DX xa xb xc xd xe xf ∧ ((T xa).2 = 9 ∧ (T xb).2 = 9 ∧ (T xc).2 = 9 ∧ (T xd).2 = 108 ∧ (T xe).2 = 1728 ∧ (T xf).2 = 200) ∧ ((∀ q, 0 ≤ q → q < 6 → σ.2.1 (1000 + y) q = (C q : Int)) ∧ y ∉ [xa, xb, xc, xd, xe, xf]) ∧ ∀ q, 0 ≤ q → q < τ.1 10 → RCX T σ τ a xa xb xc xd xe xf (C q) q
section RWS
variable {T : CT} {σ σ2 τ : MS} {a xa xb xc xd xe xf y c : Nat} {q p e : Int} {C : Int → Nat}
theorem RCX.chx (h : RCX T σ τ a xa xb xc xd xe xf c q) (k : CHX (RNL a) [xa, xb, xc, xd, xe, xf] [] σ σ2) : RCX T σ2 τ a xa xb xc xd xe xf c q := by
  obtain ⟨h1, h2, h3, h4, h5, h6⟩ := h
  have fe : ∀ f : Nat, f < 1000 → σ2.2.1 f (c : Int) = σ.2.1 f c := fun f hf => k.1 f c hf (fun z hz _ w => by
    have e : z.2 = a := by
      simp only [List.mem_cons, List.not_mem_nil, or_false] at hz
      rcases hz with z | z | z | z | z | z | z | z | z | z <;> rw [z]
    rw [e] at w
    exact h1 (by omega))
  have ad : ∀ f : Nat, f < 1000 → adN σ2 f c = adN σ f c := fun f hf => by unfold adN; rw [fe f hf]
  have cs : CSM σ σ2 c := ⟨fun f _ _ => fe f (by omega), fun f hf => k.r (h6 f hf)⟩
  refine ⟨h1, ⟨by rw [cs.s]; exact h2.1, by rw [fe 8 (by decide)]; exact h2.2⟩, ⟨by rw [cs.w, fe 6 (by decide)]; exact h3.1, by rw [cs.w, fe 6 (by decide)]; exact h3.2.1, fun f f0 f1 => ?_⟩, ⟨by rw [ad 5 (by decide), fe 5 (by decide)]; exact h4.1, by rw [ad 12 (by decide), fe 12 (by decide)]; exact h4.2.1, by rw [ad 15 (by decide), fe 15 (by decide)]; exact h4.2.2⟩, ⟨by rw [ad 5 (by decide), fe 6 (by decide)]; exact h5.1, by rw [ad 12 (by decide)]; exact h5.2.1, by rw [ad 15 (by decide)]; exact h5.2.2⟩, fun f hf => ?_⟩
  · rw [fe 10 (by decide)] at f1
    rw [cs.rw (f := 14) (by decide) (by decide) (by decide), cs.rw (f := 11) (by decide) (by decide) (by decide)]
    exact h3.2.2 f f0 f1
  · have f1 : f < 1000 := by
      have hf2 := hf
      simp only [List.mem_cons, List.not_mem_nil, or_false] at hf2
      omega
    rw [ad f f1]
    exact h6 f hf
theorem RWF.chx (h : RWF T σ a xa xb xc xd xe xf y C τ) (k : CHX (RNL a) [xa, xb, xc, xd, xe, xf] [] σ σ2) : RWF T σ2 a xa xb xc xd xe xf y C τ :=
  ⟨h.1, h.2.1, ⟨fun q a b => by rw [k.r h.2.2.1.2]; exact h.2.2.1.1 q a b, h.2.2.1.2⟩, fun q a b => (h.2.2.2 q a b).chx k⟩
theorem RWF.tau {ss ks js : List Nat} {τ2 : MS} (h : RWF T σ a xa xb xc xd xe xf y C τ) (f : Fr ss ks js τ τ2) (hs : 10 ∉ ss) (hk : ∀ k ∈ [3, 4, 5, 6, 7, 8, 9, 11, 12, 14, 15, 16, 17, 18], k ∉ ks) : RWF T σ a xa xb xc xd xe xf y C τ2 := by
  refine ⟨h.1, h.2.1, h.2.2.1, fun q a b => ?_⟩
  rw [f.1 10 hs] at b
  have z := h.2.2.2 q a b
  unfold RCX at z ⊢
  rw [rs_fr f (fun k x => hk k ((by decide : ∀ k ∈ [3, 4, 5, 6, 7, 8, 9, 12, 14, 15, 16, 17, 18], k ∈ [3, 4, 5, 6, 7, 8, 9, 11, 12, 14, 15, 16, 17, 18]) k x)), f.q hk (k := 11) (by decide), f.q hk (k := 12) (by decide)]
  exact z
theorem RCX.n (h : RCX T σ τ a xa xb xc xd xe xf c q) : σ.2.1 6 c = τ.2.1 9 q := congrArg RTS.n h.2.1.1
theorem RCX.v (h : RCX T σ τ a xa xb xc xd xe xf c q) (p0 : 0 ≤ p) (p1 : p < τ.2.1 9 q) : nrm (cdW σ c p) = rI τ (220 * q + p) := by
  have e : vW (cdW σ c) p = rV τ q p := congrFun (congrArg RTS.V h.2.1.1) p
  rw [rv_in p0 p1] at e
  exact e
theorem RCX.cel (h : RCX T σ τ a xa xb xc xd xe xf c q) (p0 : 0 ≤ p) (p1 : p < τ.2.1 9 q) (h3 : e ≠ 3) (h12 : e ≠ 12) : cdW σ c p e = rI τ (220 * q + p) e := by
  rw [← h.v p0 p1]; exact (nrm_ne h3 h12).symm
theorem RCX.c3 (h : RCX T σ τ a xa xb xc xd xe xf c q) (p0 : 0 ≤ p) (p1 : p < τ.2.1 9 q) (k : τ.2.1 3 (220 * q + p) ≠ 12) : cdW σ c p 3 = rI τ (220 * q + p) 3 := by
  have e0 : cdW σ c p 0 = τ.2.1 3 (220 * q + p) := h.cel p0 p1 (by decide) (by decide)
  rw [← h.v p0 p1]; exact (nrm_3 (by rw [e0]; exact k)).symm
theorem RCX.g (h : RCX T σ τ a xa xb xc xd xe xf c q) (p0 : 0 ≤ p) (p1 : p < τ.2.1 9 q) (e0 : 0 ≤ e ∧ e ≤ 12) : jG T σ c (adN σ 5 c) p e = cdW σ c p e := by
  have n := h.n
  have l := h.2.2.2.2.1.1
  unfold jG cdW cW
  rw [if_pos ⟨⟨p0, by omega⟩, by omega⟩, if_pos ⟨⟨p0, by omega⟩, e0⟩, show p * 13 + e = 13 * p + e by omega]
theorem RCX.k (h : RCX T σ τ a xa xb xc xd xe xf c q) (p0 : 0 ≤ p) (p1 : p < τ.2.1 9 q) : jK T σ c (adN σ 5 c) p = τ.2.1 3 (220 * q + p) := by
  have n := h.n
  have l := h.2.2.2.2.1.1
  have e0 : cdW σ c p 0 = τ.2.1 3 (220 * q + p) := h.cel p0 p1 (by decide) (by decide)
  rw [← e0]
  unfold jK cdW cW
  rw [if_pos ⟨⟨p0, by omega⟩, by omega⟩, if_pos ⟨⟨p0, by omega⟩, by decide⟩, show p * 13 = 13 * p + 0 by omega]
end RWS
theorem w32_id {z : Int} (h : -2147483648 ≤ z ∧ z ≤ 2147483647) : w32 z = z := iI_toInt h
theorem jA_in {T : CT} {x : Nat} {i : Int} {σ : MS} (h : 0 ≤ i ∧ i < ((T x).2 : Int)) : jA T x i σ = σ.2.1 (1000 + x) i := if_pos h
theorem jP_in {T : CT} {x : Nat} {i y : Int} {σ : MS} (h : 0 ≤ i ∧ i < ((T x).2 : Int)) : jP T x i y σ = sA (1000 + x) i y σ := if_pos h
theorem jP_out {T : CT} {x : Nat} {i y : Int} {σ : MS} (h : ¬ (0 ≤ i ∧ i < ((T x).2 : Int))) : jP T x i y σ = σ := if_neg h
/-! depths -/
theorem dp_fr {ss ks js : List Nat} {τ τ2 : MS} {m r f : Int} (g : Fr ss ks js τ τ2) (h : 16 ∉ ks) : dp τ2 m r f = dp τ m r f := by unfold dp; rw [prm_fr g h]
theorem dpt_top {ss ks js : List Nat} {τ τ2 : MS} {t : Int} (g : Fr ss ks js τ τ2) (h : 16 ∉ ks) (h1 : 1 ≤ τ.2.1 73 0) (ht : t = τ.2.1 73 0 - 1) (e73 : τ2.2.1 73 0 = τ.2.1 73 0) (e78 : ∀ c, 0 ≤ c → c ≤ t → τ2.2.1 78 c = τ.2.1 78 c) (e80 : ∀ c, 0 ≤ c → c < t → τ2.2.1 80 c = τ.2.1 80 c) : dpt τ2 0 + dp τ 0 (τ.2.1 78 t) (τ.2.1 80 t) = dpt τ 0 + dp τ 0 (τ.2.1 78 t) (τ2.2.1 80 t) := by
  rw [dpt_dsum, dpt_dsum, e73, dsum_s (n := τ.2.1 73 0) (by omega), dsum_s (n := τ.2.1 73 0) (by omega), dsum_fr g h, dp_fr g h, show 9 * 0 + (τ.2.1 73 0 - 1) = t by omega, e78 t (by omega) (by omega)]
  rw [dsum_ext (R := τ.2.1 78) (P := τ.2.1 80) (R' := τ2.2.1 78) (P' := τ2.2.1 80) (τ.2.1 73 0 - 1).toNat (fun j a b => ⟨e78 j (by omega) (by omega), e80 j (by omega) (by omega)⟩)]
  omega
theorem dpt_push {ss ks js : List Nat} {τ τ2 : MS} (g : Fr ss ks js τ τ2) (h : 16 ∉ ks) (h1 : 0 ≤ τ.2.1 73 0) (e73 : τ2.2.1 73 0 = τ.2.1 73 0 + 1) (e : ∀ c, 0 ≤ c → c < τ.2.1 73 0 → τ2.2.1 78 c = τ.2.1 78 c ∧ τ2.2.1 80 c = τ.2.1 80 c) : dpt τ2 0 = dpt τ 0 + dp τ 0 (τ2.2.1 78 (τ.2.1 73 0)) (τ2.2.1 80 (τ.2.1 73 0)) := by
  rw [dpt_dsum, dpt_dsum, e73, dsum_s (n := τ.2.1 73 0 + 1) (by omega), dsum_fr g h, dp_fr g h, show τ.2.1 73 0 + 1 - 1 = τ.2.1 73 0 by omega, show 9 * 0 + τ.2.1 73 0 = τ.2.1 73 0 by omega]
  rw [dsum_ext (R := τ.2.1 78) (P := τ.2.1 80) (R' := τ2.2.1 78) (P' := τ2.2.1 80) (τ.2.1 73 0).toNat (fun j a b => e j (by omega) (by omega))]
theorem dpt_pop {ss ks js : List Nat} {τ τ2 : MS} (g : Fr ss ks js τ τ2) (h : 16 ∉ ks) (h1 : 1 ≤ τ.2.1 73 0) (e73 : τ2.2.1 73 0 = τ.2.1 73 0 - 1) (e : ∀ c, 0 ≤ c → c < τ.2.1 73 0 - 1 → τ2.2.1 78 c = τ.2.1 78 c ∧ τ2.2.1 80 c = τ.2.1 80 c) : dpt τ 0 = dpt τ2 0 + dp τ 0 (τ.2.1 78 (τ.2.1 73 0 - 1)) (τ.2.1 80 (τ.2.1 73 0 - 1)) := by
  rw [dpt_dsum, dpt_dsum, e73, dsum_s (n := τ.2.1 73 0) (by omega), dsum_fr g h, show 9 * 0 + (τ.2.1 73 0 - 1) = τ.2.1 73 0 - 1 by omega]
  rw [dsum_ext (R := τ.2.1 78) (P := τ.2.1 80) (R' := τ2.2.1 78) (P' := τ2.2.1 80) (τ.2.1 73 0 - 1).toNat (fun j a b => e j (by omega) (by omega))]
/-- the class counts the same frames -/
theorem jL_ch {P Q : Int → Int} {F : Int} (hF : F ≤ 12) (hp : ∀ f, 0 ≤ f → f < F → -1 ≤ Q f ∧ Q f < f) (h0 : Q 0 = -1) (h1 : ∀ f, 1 ≤ f → f < F → 0 ≤ Q f) (e : ∀ f, 1 ≤ f → f < F → P f = Q f) : ∀ (t : Nat) (f n : Int), 0 ≤ f → f < F → f ≤ t → 1 ≤ n → n + f ≤ 12 → jL P t f n = n - 1 + ch Q 13 f := by
  have cs : ∀ f, 0 ≤ f → f < F → ch Q 13 f = 1 + ch Q 13 (Q f) := fun f a b => by
    have q := hp f a b
    rw [show ch Q 13 f = 1 + ch Q 12 (Q f) by
      show (if f = -1 then 0 else 1 + ch Q 12 (Q f)) = _
      rw [if_neg (by omega)], ch_fuel hp 12 13 (Q f) q.1 (by omega) (by omega) (by omega)]
  intro t
  induction t with
  | zero =>
    intro f n a b c d g
    rw [cs f a b, show f = 0 by omega, h0, ch_m1]
    show n = _
    omega
  | succ t ih =>
    intro f n a b c d g
    show (if 0 < f ∧ n ≤ 12 then jL P t (P f) (n + 1) else n) = _
    by_cases z : 0 < f
    · have q := hp f a b
      have q1 := h1 f (by omega) b
      rw [if_pos ⟨z, by omega⟩, e f (by omega) b, ih (Q f) (n + 1) q1 (by omega) (by omega) (by omega) (by omega), cs f a b]
      omega
    · rw [if_neg (fun w => z w.1), cs f a b, show f = 0 by omega, h0, ch_m1]
      omega

