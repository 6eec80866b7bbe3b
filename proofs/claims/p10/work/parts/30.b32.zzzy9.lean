/-! frames of a stack: the reference's look for one -/
/-- up from frame to frame -/
def itU (P : Int → Int) : Nat → Int → Int
  | 0, f => f
  | n + 1, f => if f < 0 then f else itU P n (P f)
theorem itU_nx {P : Int → Int} : ∀ (n : Nat) (f : Int), 0 ≤ itU P n f → itU P (n + 1) f = P (itU P n f) := by
  intro n
  induction n with
  | zero =>
    intro f h
    have h : 0 ≤ f := h
    show (if f < 0 then f else P f) = P f
    rw [if_neg (by omega)]
  | succ n ih =>
    intro f h
    have e : ∀ m : Nat, itU P (m + 1) f = if f < 0 then f else itU P m (P f) := fun _ => rfl
    by_cases z : f < 0
    · rw [e n, if_pos z] at h
      omega
    · rw [e n, if_neg z] at h
      rw [e (n + 1), if_neg z, e n, if_neg z]
      exact ih (P f) h
/-- frames of the calls above c -/
def AB (σ : MS) (m c : Int) : Int := dpt σ m - dsum σ m (σ.2.1 78) (σ.2.1 80) (c + 1 - 9 * m).toNat
/-- frame k of the stack: call c, frame f -/
def FNDS (σ : MS) (m k c f : Int) : Prop := (9 * m ≤ c ∧ c < 9 * m + σ.2.1 73 m) ∧ ∃ i : Nat, k = AB σ m c + i ∧ (i : Int) < dch σ m c ∧ f = itU (pr σ m c) i (σ.2.1 80 c)
/-- on the way up a chain -/
def FNI (σ : MS) (m k c w f : Int) : Prop := ∃ i : Nat, w = k - AB σ m c - i ∧ (i : Int) + ch (pr σ m c) 13 f = dch σ m c ∧ f = itU (pr σ m c) i (σ.2.1 80 c)
section FND0
variable {σ : MS} {m k c w f g F c2 w2 v : Int}
theorem ABW (h : w = k - AB σ m c) (e : c2 = c) : w = k - AB σ m c2 := by rw [e]; exact h
theorem AB.top (h0 : 0 ≤ σ.2.1 73 m) (hc : c = 9 * m + σ.2.1 73 m - 1) : AB σ m c = 0 := by
  unfold AB
  rw [dpt_dsum, show c + 1 - 9 * m = σ.2.1 73 m by omega]
  omega
theorem AB.bot (hc : c = 9 * m - 1) : AB σ m c = dpt σ m := by
  unfold AB
  rw [show (c + 1 - 9 * m).toNat = 0 by omega]
  show dpt σ m - 0 = dpt σ m
  omega
theorem AB.nx (hc : 9 * m ≤ c) : AB σ m (c - 1) = AB σ m c + dch σ m c := by
  unfold AB
  have q := dsum_s (σ := σ) (m := m) (R := σ.2.1 78) (P := σ.2.1 80) (n := c + 1 - 9 * m) (by omega)
  rw [show 9 * m + (c + 1 - 9 * m - 1) = c by omega, show c + 1 - 9 * m - 1 = c - 1 + 1 - 9 * m by omega] at q
  rw [q, dch_dp]
  omega
theorem FNI.z (h : w = k - AB σ m c) (hf : f = σ.2.1 80 c) : FNI σ m k c w f := ⟨0, by omega, by rw [hf]; unfold dch; omega, hf⟩
theorem FNI.nx (h : FNI σ m k c w f) (hd : DEC σ m c F) (h0 : 0 ≤ f) (h1 : f < F) (hw : w2 = w - 1) (hg : pr σ m c f = g) : FNI σ m k c w2 g := by
  obtain ⟨i, e1, e2, e3⟩ := h
  have s := dch_step hd h0 h1
  have z : 0 ≤ itU (pr σ m c) i (σ.2.1 80 c) := by rw [← e3]; exact h0
  refine ⟨i + 1, by omega, by rw [hg] at s; omega, ?_⟩
  rw [itU_nx i _ z, ← e3, hg]
theorem FNI.fnd (h : FNI σ m k c w f) (hd : DEC σ m c F) (hc : 9 * m ≤ c ∧ c < 9 * m + σ.2.1 73 m) (h0 : 0 ≤ f) (h1 : f < F) (hw : w = 0) : FNDS σ m k c f := by
  obtain ⟨i, e1, e2, e3⟩ := h
  have s := dch_step hd h0 h1
  have r := (ch_rng (p := pr σ m c) 13 (pr σ m c f)).1
  exact ⟨hc, i, by omega, by omega, e3⟩
theorem FNI.out (h : FNI σ m k c w f) (hf : f = -1) (hc : 9 * m ≤ c) : w = k - AB σ m (c - 1) := by
  obtain ⟨i, e1, e2, e3⟩ := h
  rw [hf, ch_m1] at e2
  rw [AB.nx hc]
  omega
theorem fnd_no (h : w = k - AB σ m c ∧ (k < 0 ∨ 0 ≤ w)) (h0 : 9 * m - 1 ≤ c) (e : c < 9 * m ∨ w < 0) : k < 0 ∨ dpt σ m ≤ k := by
  rcases e with e | e
  · have q := AB.bot (σ := σ) (m := m) (c := c) (by omega)
    omega
  · omega
/-- isFrame -/
def IFR (σ : MS) (m k v c f : Int) : Prop := (v = 1 ∧ FNDS σ m k c f) ∨ (v = 0 ∧ (k < 0 ∨ dpt σ m ≤ k))
theorem IFR.one (h : IFR σ m k v c f) (e : v = 1) : FNDS σ m k c f := by
  rcases h with h | h
  · exact h.2
  · omega
theorem IFR.no (h : IFR σ m k v c f) (e : v = 0) : k < 0 ∨ dpt σ m ≤ k := by
  rcases h with h | h
  · omega
  · exact h.2
/-- isStack -/
def ISK (σ : MS) (k v c f : Int) : Prop := (v = 1 ∧ (σ.1 67 ≠ 0 ∧ σ.1 68 = 0 ∧ 0 ≤ k) ∧ FNDS σ 0 k c f) ∨ (v = 0 ∧ (σ.1 67 = 0 ∨ σ.1 68 ≠ 0 ∨ k < 0 ∨ dpt σ 0 ≤ k))
theorem ISK.one (h : ISK σ k v c f) (e : v = 1) : (σ.1 67 ≠ 0 ∧ σ.1 68 = 0 ∧ 0 ≤ k) ∧ FNDS σ 0 k c f := by
  rcases h with h | h
  · exact h.2
  · omega
theorem ISK.no (h : ISK σ k v c f) (e : v = 0) : σ.1 67 = 0 ∨ σ.1 68 ≠ 0 ∨ k < 0 ∨ dpt σ 0 ≤ k := by
  rcases h with h | h
  · omega
  · exact h.2
theorem AB.s0 : AB (sS 0 0 σ) m c = AB σ m c := by
  unfold AB
  rw [dsum_fr (σ := σ) (τ := sS 0 0 σ) (ss := [0]) (ks := []) (js := []) (Fr.rfl.S (by decide)) (by decide)]
  rfl
theorem ISK.s0 (h : ISK (sS 0 0 σ) k v c f) : ISK σ k v c f := by
  unfold ISK FNDS at h ⊢
  simp only [AB.s0] at h
  exact h
end FND0
/-- stack -/
def SKA (σ : MS) (k w v : Int) : Prop := (v = -1 ∧ (σ.1 67 = 0 ∨ σ.1 68 ≠ 0 ∨ k < 0 ∨ dpt σ 0 ≤ k)) ∨ ((σ.1 67 ≠ 0 ∧ σ.1 68 = 0 ∧ 0 ≤ k) ∧ ∃ c f, FNDS σ 0 k c f ∧ ((w = 0 ∧ v = σ.2.1 15 (12 * σ.2.1 78 c + f)) ∨ (w = 1 ∧ v = σ.2.1 81 (12 * c + f)) ∨ (w = 2 ∧ v = σ.2.1 12 (σ.2.1 15 (12 * σ.2.1 78 c + f))) ∨ ((w < 0 ∨ 2 < w) ∧ v = -1)))

