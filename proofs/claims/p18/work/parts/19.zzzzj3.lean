section
def SEQ9 (σ σ2 : MS) : Prop := ∀ k : Nat, k ≠ 2 → k ≠ 3 → σ2.2.1 k = σ.2.1 k
def SNE9 (T : CT) (σ : MS) (o p c xa xb xe pe : Nat) (m : Int) : Prop := jWO T σ c (adN σ 5 c) (jID T σ o xa xb c m) < 10 → jFV T σ o c (adN σ 5 c) (adN σ 15 c) xe (jID T σ o xa xb c m) = jRG T σ p pe m
def SNX9 (T : CT) (σ : MS) (o p c xa xb xe pe : Nat) (n v : Int) : Prop := (v = 1 ∧ ∀ m, 0 ≤ m → m < n → SNE9 T σ o p c xa xb xe pe m) ∨ (v = 0 ∧ ∃ m, (0 ≤ m ∧ m < n) ∧ ¬ SNE9 T σ o p c xa xb xe pe m)
abbrev SNN9 (T : CT) (σ : MS) (o c : Nat) : Int := jA T (adN σ 14 c) (σ.2.1 71 o) σ
def SNG9 (T : CT) (σ : MS) (o xa xb c y : Nat) : Prop := jC σ y (jA T xa (σ.2.1 70 o) σ) = (c : Int) ∧ (0 ≤ σ.2.1 71 o ∧ σ.2.1 71 o ≤ 12) ∧ (0 ≤ jA T xb (σ.2.1 70 o) σ ∧ jA T xb (σ.2.1 70 o) σ ≤ 200) ∧ (0 ≤ SNN9 T σ o c ∧ SNN9 T σ o c ≤ 12) ∧ ∀ m, 0 ≤ m → m < SNN9 T σ o c → 0 ≤ jID T σ o xa xb c m ∧ jID T σ o xa xb c m ≤ 1000
def SN9 (T : CT) (σ : MS) (o p xa xb xe pe y : Nat) (v : Int) : Prop := ∀ c : Nat, SNG9 T σ o xa xb c y → SNX9 T σ o p c xa xb xe pe (SNN9 T σ o c) v
section SEQS
variable {T : CT} {σ σ2 : MS} {o p c x xa xb xe xh pe f b y a : Nat} {i k e r n v w m s : Int}
theorem SEQ9.rfl : SEQ9 σ σ := fun _ _ _ => Eq.refl _
theorem SEQ9.trans {σ3 : MS} (h : SEQ9 σ σ2) (g : SEQ9 σ2 σ3) : SEQ9 σ σ3 := fun k a b => (g k a b).trans (h k a b)
theorem SEQ9.of (h : CHX [(2, a), (3, a)] [] [] σ σ2) : SEQ9 σ σ2 := fun k h2 h3 => by
  by_cases z : k < 1000
  · funext i
    exact h.1 k i z (fun q hq e => by
      simp only [List.mem_cons, List.not_mem_nil, or_false] at hq
      rcases hq with rfl | rfl
      · exact absurd (show 2 = k from e).symm h2
      · exact absurd (show 3 = k from e).symm h3)
  · have e : k = 1000 + (k - 1000) := by omega
    rw [e]
    exact h.2.1 (k - 1000) List.not_mem_nil
theorem se_jA (h : SEQ9 σ σ2) : jA T x i σ2 = jA T x i σ := jA_cg (h _ (by omega) (by omega))
theorem se_jC (h : SEQ9 σ σ2) : jC σ2 y r = jC σ y r := by
  unfold jC
  rw [h _ (by omega) (by omega)]
theorem se_ad (h : SEQ9 σ σ2) (h2 : f ≠ 2) (h3 : f ≠ 3) : adN σ2 f b = adN σ f b := by
  unfold adN
  rw [h f h2 h3]
theorem se_jG (h : SEQ9 σ σ2) : jG T σ2 c x k e = jG T σ c x k e := by
  unfold jG
  rw [h 6 (by decide) (by decide), h (1000 + x) (by omega) (by omega)]
theorem se_jI (h : SEQ9 σ σ2) : jI T σ2 r s = jI T σ r s := by
  unfold jI
  rw [h 900 (by decide) (by decide), se_jA h]
theorem se_jWO (h : SEQ9 σ σ2) : jWO T σ2 c x i = jWO T σ c x i := by
  unfold jWO
  rw [se_jG h]
theorem se_jPT (h : SEQ9 σ σ2) : jPT T σ2 c x xh i e = jPT T σ c x xh i e := by
  unfold jPT
  rw [se_jG h, se_jA h]
theorem se_jRG (h : SEQ9 σ σ2) : jRG T σ2 o xe r = jRG T σ o xe r := by
  unfold jRG
  rw [h 70 (by decide) (by decide), se_jA h]
theorem se_jOR (h : SEQ9 σ σ2) : jOR T σ2 o xe k n = jOR T σ o xe k n := by
  unfold jOR
  rw [se_jRG h]
theorem se_jFV (h : SEQ9 σ σ2) : jFV T σ2 o c x xh xe i = jFV T σ o c x xh xe i := by
  unfold jFV
  rw [se_jWO h, se_jPT h, se_jRG h, se_jPT h, se_jPT h, se_jPT h, se_jOR h, se_jOR h]
theorem SNX9.z (h : v = 1) : SNX9 T σ o p c xa xb xe pe 0 v := Or.inl ⟨h, fun m a b => absurd b (by omega)⟩
theorem SNX9.st (h : SNX9 T σ o p c xa xb xe pe n v) (n0 : 0 ≤ n) (q : (w = v ∧ SNE9 T σ o p c xa xb xe pe n) ∨ (w = 0 ∧ ¬ SNE9 T σ o p c xa xb xe pe n)) : SNX9 T σ o p c xa xb xe pe (n + 1) w := by
  rcases h with ⟨h1, h2⟩ | ⟨h1, m, h2, h3⟩
  · rcases q with ⟨q1, q2⟩ | ⟨q1, q2⟩
    · refine Or.inl ⟨q1.trans h1, fun m a b => ?_⟩
      by_cases z : m = n
      · rw [z]; exact q2
      · exact h2 m a (by omega)
    · exact Or.inr ⟨q1, n, ⟨n0, by omega⟩, q2⟩
  · rcases q with ⟨q1, q2⟩ | ⟨q1, q2⟩
    · exact Or.inr ⟨q1.trans h1, m, by omega, h3⟩
    · exact Or.inr ⟨q1, m, by omega, h3⟩
theorem snn_of (h : JFR T σ o xa y 14 0 n) (hc : jC σ y (jA T xa (σ.2.1 70 o) σ) = (c : Int)) : n = SNN9 T σ o c := by
  rcases h with ⟨h1, _⟩ | ⟨c', x', h1, h2, h3⟩
  · exact absurd (hc ▸ h1) (by omega)
  · have e : c' = c := by have z := h1.symm.trans hc; omega
    subst e
    unfold SNN9
    rw [adN_of h2]
    exact h3
theorem SNG9.one (h : SNG9 T σ o xa xb c y) (g : SNG9 T σ o xa xb x y) : c = x := by
  have z := h.1.symm.trans g.1
  omega
end SEQS
end
