section
def jI (T : CT) (σ : MS) (r s : Int) : Int := if (0 ≤ r ∧ r < 6) ∧ 0 ≤ σ.2.1 900 r then (if jA T (σ.2.1 900 r).toNat s σ = 0 then 1 else jA T (σ.2.1 900 r).toNat s σ) else 1
def jWO (T : CT) (σ : MS) (c x : Nat) (i : Int) : Int := if i < 5 then 10 + i else if i < 10 then (if i = 5 then 1 else 2) else jG T σ c x (i - 10) 11
def jPT (T : CT) (σ : MS) (c x xh : Nat) (i e : Int) : Int := if 10 ≤ i then jG T σ c x (i - 10) e else if 6 ≤ i ∧ e = 4 then jA T xh (0 * 12 + (i - 6)) σ else 0
def jRG (T : CT) (σ : MS) (a xe : Nat) (p : Int) : Int := jA T xe (w32 (w32 (σ.2.1 70 a * 192) + p)) σ
def jOR (T : CT) (σ : MS) (a xe : Nat) (k n : Int) : Int := if k = 2 then jRG T σ a xe n else n
def jFV (T : CT) (σ : MS) (a c x xh xe : Nat) (i : Int) : Int := if 10 ≤ jWO T σ c x i then 0 else if jWO T σ c x i = 1 then jPT T σ c x xh i 4 else if jWO T σ c x i = 2 then jRG T σ a xe (jPT T σ c x xh i 4) else rkn (w32 (jWO T σ c x i - 2)) (jOR T σ a xe (jPT T σ c x xh i 3) (jPT T σ c x xh i 4)) (jOR T σ a xe (jPT T σ c x xh i 5) (jPT T σ c x xh i 6))
def jID (T : CT) (σ : MS) (a xa xb c : Nat) (m : Int) : Int := jI T σ (jA T xa (σ.2.1 70 a) σ) (jA T xb (σ.2.1 70 a) σ * slF (rwF σ 14 c) (σ.2.1 10 c) + slF (rwF σ 14 c) (σ.2.1 71 a) + m)
def jKW (w : Int) : Int := if 10 ≤ w then w else 1
def KVT (T T2 : CT) (σ σ2 : MS) (rn tl xa xb xc y bb bs bf : Nat) (k m z v : Int) (V : MS → Nat → Int → Int) : Prop := ∃ (σ1 : MS) (u : Int), CHX [(70, rn), (71, rn)] [] [] σ σ1 ∧ WT T σ1 ∧ JFN T σ rn xa xc y k u σ1 ∧ ((u = 0 ∧ v = z ∧ σ2.2.1 = σ1.2.1 ∧ σ2.2.2 = σ1.2.2) ∨ (u = 1 ∧ ((v = z ∧ (m < 0 ∨ ∃ nn, JFR T σ1 rn xa y 14 0 nn ∧ nn ≤ m) ∧ σ2.2.1 = σ1.2.1 ∧ σ2.2.2 = σ1.2.2) ∨ (0 ≤ m ∧ ∃ (nn : Int) (c : Nat), JFR T σ1 rn xa y 14 0 nn ∧ m < nn ∧ jC σ1 y (jA T xa (σ1.2.1 70 rn) σ1) = (c : Int) ∧ RFT T T2 σ1 σ2 tl c (jA T xa (σ1.2.1 70 rn) σ1) bs bb bf ∧ v = V σ2 c (jID T2 σ2 rn xa xb c m)))))
def KVH (T : CT) (σ : MS) (rn tl xa xb xc y bb bs bf : Nat) (k m : Int) : Prop := ∀ (σ1 : MS) (c : Nat), CHX [(70, rn), (71, rn)] [] [] σ σ1 → WT T σ1 → JFN T σ rn xa xc y k 1 σ1 → jC σ1 y (jA T xa (σ1.2.1 70 rn) σ1) = (c : Int) → (RTC σ1 c ∧ RFA σ1 c (jA T xa (σ1.2.1 70 rn) σ1) bb bs bf) ∧ (0 ≤ σ1.2.1 71 rn ∧ σ1.2.1 71 rn ≤ 12) ∧ (0 ≤ jA T xb (σ1.2.1 70 rn) σ1 ∧ jA T xb (σ1.2.1 70 rn) σ1 ≤ 200) ∧ ∀ (T2 : CT) (σ2 : MS) (nn : Int), GT T T2 → WT T2 σ2 → RFT T T2 σ1 σ2 tl c (jA T xa (σ1.2.1 70 rn) σ1) bs bb bf → JFR T σ1 rn xa y 14 0 nn → 0 ≤ m → m < nn → jC σ2 y (jA T2 xa (σ2.2.1 70 rn) σ2) = (c : Int) ∧ (0 ≤ σ2.2.1 71 rn ∧ σ2.2.1 71 rn ≤ 12) ∧ (0 ≤ jA T2 xb (σ2.2.1 70 rn) σ2 ∧ jA T2 xb (σ2.2.1 70 rn) σ2 ≤ 200) ∧ m ≤ 12 ∧ 0 ≤ jID T2 σ2 rn xa xb c m ∧ jID T2 σ2 rn xa xb c m ≤ 1000
theorem JFN.cc {T : CT} {σ σ1 : MS} {a xa xc y : Nat} {k u : Int} (ch : CHX [(70, a), (71, a)] [] [] σ σ1) (h : JFN T σ a xa xc y k u σ1) (hu : u = 1) : ∃ cc : Nat, jC σ1 y (jA T xa (σ1.2.1 70 a) σ1) = (cc : Int) := by
  rcases h with ⟨e, -⟩ | ⟨-, -, -, c, l, cc, -, -, e1, e2, -⟩
  · omega
  · refine ⟨cc, ?_⟩
    rw [e1, jA_cg (σ := σ) (σ2 := σ1) (ch.r (by simp))]
    unfold jC at e2 ⊢
    rw [ch.r (x := y) (by simp)]
    exact e2
end
