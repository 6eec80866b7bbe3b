/-! the keeper over its calls -/
theorem WT.first {T : CT} {σ : MS} {a : Nat} {K : List Nat} (w : WTn T σ) (hc : CD K T) (hl : K.length ≤ 19) (h11 : ∀ c, OB T c 11 → c = a) (g0 : σ.1 0 ≤ 30000) (g1 : σ.1 1 ≤ 1000) : WT T σ := by
  refine ⟨w.1, w.2.1, w.2.2.1, w.2.2.2.1, w.2.2.2.2, a, K, h11, hl, fun c => (hc c).symm, ?_, ?_⟩
  · generalize (K.map (fun a => phL (cLen T σ a))).sum = A
    omega
  · generalize (K.map (fun a => cLen T σ a)).sum = A
    omega
def INVX (N : Nat) (T : CT) (σ : MS) (a : Nat) : Prop := WT T σ ∧ TR σ a (20001 * (N : Int)) ∧ SEP σ a
theorem INVX.first {T : CT} {σ : MS} {a t : Nat} (w : WT T σ) (h1 : σ.2.1 110 (a : Int) = -1) (h2 : σ.2.1 103 (a : Int) = (t : Int)) (h3 : σ.2.1 57 (t : Int) = 0) : INVX 0 T σ a := ⟨w, TR.of h2 (by omega), fun p q => by omega⟩
theorem INVX.step {N : Nat} {T T2 : CT} {σ σ2 : MS} {a : Nat} {ks : List Nat} (h : INVX N T σ a) (w : WT T2 σ2) (f : FrC T ks σ σ2) (h1 : 57 ∉ ks) (h2 : 103 ∉ ks) (h3 : 0 ∉ ks) (h4 : 110 ∉ ks) : INVX (N + 1) T2 σ2 a := ⟨w, (h.2.1.frc f h2 h1).up (by omega), h.2.2.frc f h3 h2 h4⟩
theorem INVX.tr {N : Nat} {T T2 : CT} {σ σ2 : MS} {a : Nat} {ks : List Nat} {B : Int} (h : INVX N T σ a) (w : WT T2 σ2) (f : FrC T ks σ σ2) (h2 : 103 ∉ ks) (h3 : 0 ∉ ks) (h4 : 110 ∉ ks) (t : TR σ2 a B) (hB : B ≤ 20001 * ((N : Int) + 1)) : INVX (N + 1) T2 σ2 a := ⟨w, t.up (by omega), h.2.2.frc f h3 h2 h4⟩
theorem INVX.all {N : Nat} {T T2 : CT} {σ σ2 : MS} {a : Nat} {B : Int} (_ : INVX N T σ a) (w : WT T2 σ2) (t : TR σ2 a B) (s : SEP σ2 a) (hB : B ≤ 20001 * ((N : Int) + 1)) : INVX (N + 1) T2 σ2 a := ⟨w, t.up (by omega), s⟩

