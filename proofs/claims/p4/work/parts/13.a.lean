/-- an item is added behind those made anew -/
def fAdd (k d o ak a : Int) (σ : MS) : MS := sS 62 (σ.1 62 + 1) (fArg (2640 + σ.1 62) 0 ak a (fItem (2640 + σ.1 62) k d o σ))
theorem fAdd_fr {k d o ak a : Int} {σ : MS} : Fr [62] [3, 4, 5, 6, 7, 8] [] σ (fAdd k d o ak a σ) := (Fr.trans (fItem_fr.sub (by decide) (by decide) (by decide)) (fArg_fr.sub (by decide) (by decide) (by decide))).S (by decide)
theorem fAdd_n {k d o ak a : Int} {σ : MS} : (fAdd k d o ak a σ).1 62 = σ.1 62 + 1 := rs_eq
theorem fItem_off {x k d o : Int} {σ : MS} : OFF x σ (fItem x k d o σ) := by
  refine ⟨fun y hy => ⟨?_, ?_, ?_, ?_⟩, fun z hz => ⟨?_, ?_⟩, rfl, rfl⟩
  · exact ra_o (by decide) (ra_o (by decide) (ra_o (by decide) (ra_o (by decide) (ra_o (by decide) (ra_o (by decide) (ra_o (by decide) (ra_o (by decide) (ra_o (by decide) (ra_o (by decide) (ra_o (by decide) (ra_ne hy rfl)))))))))))
  · exact ra_o (by decide) (ra_o (by decide) (ra_o (by decide) (ra_o (by decide) (ra_o (by decide) (ra_o (by decide) (ra_o (by decide) (ra_o (by decide) (ra_o (by decide) (ra_o (by decide) (ra_ne hy (ra_o (by decide) rfl)))))))))))
  · exact ra_o (by decide) (ra_o (by decide) (ra_o (by decide) (ra_o (by decide) (ra_o (by decide) (ra_o (by decide) (ra_o (by decide) (ra_o (by decide) (ra_o (by decide) (ra_ne hy (ra_o (by decide) (ra_o (by decide) rfl)))))))))))
  · exact ra_o (by decide) (ra_o (by decide) (ra_o (by decide) (ra_o (by decide) (ra_o (by decide) (ra_o (by decide) (ra_o (by decide) (ra_o (by decide) (ra_ne hy (ra_o (by decide) (ra_o (by decide) (ra_o (by decide) rfl)))))))))))
  · exact ra_o (by decide) (ra_ne (by omega) (ra_o (by decide) (ra_ne (by omega) (ra_o (by decide) (ra_ne (by omega) (ra_o (by decide) (ra_ne (by omega) (ra_o (by decide) (ra_o (by decide) (ra_o (by decide) (ra_o (by decide) rfl)))))))))))
  · exact ra_ne (by omega) (ra_o (by decide) (ra_ne (by omega) (ra_o (by decide) (ra_ne (by omega) (ra_o (by decide) (ra_ne (by omega) (ra_o (by decide) (ra_o (by decide) (ra_o (by decide) (ra_o (by decide) (ra_o (by decide) rfl)))))))))))
theorem OFF.S {x : Int} {k : Nat} {v : Int} {σ τ : MS} (h : OFF x σ τ) : OFF x σ (sS k v τ) := h
theorem fAdd_off {k d o ak a : Int} {σ : MS} : OFF (2640 + σ.1 62) σ (fAdd k d o ak a σ) := (fItem_off.trans (OFF.arg (by decide) (by decide))).S
theorem fItem_at {x k d o : Int} {σ : MS} : (fItem x k d o σ).2.1 3 x = k ∧ (fItem x k d o σ).2.1 4 x = d ∧ (fItem x k d o σ).2.1 5 x = o ∧ (fItem x k d o σ).2.1 6 x = 0 ∧ ∀ i, 0 ≤ i → i < 4 → (fItem x k d o σ).2.1 7 (4 * x + i) = 0 := by
  refine ⟨?_, ?_, ?_, ?_, fun i a b => ?_⟩
  · exact ra_o (by decide) (ra_o (by decide) (ra_o (by decide) (ra_o (by decide) (ra_o (by decide) (ra_o (by decide) (ra_o (by decide) (ra_o (by decide) (ra_o (by decide) (ra_o (by decide) (ra_o (by decide) ra_eq))))))))))
  · exact ra_o (by decide) (ra_o (by decide) (ra_o (by decide) (ra_o (by decide) (ra_o (by decide) (ra_o (by decide) (ra_o (by decide) (ra_o (by decide) (ra_o (by decide) (ra_o (by decide) ra_eq)))))))))
  · exact ra_o (by decide) (ra_o (by decide) (ra_o (by decide) (ra_o (by decide) (ra_o (by decide) (ra_o (by decide) (ra_o (by decide) (ra_o (by decide) (ra_o (by decide) ra_eq))))))))
  · exact ra_o (by decide) (ra_o (by decide) (ra_o (by decide) (ra_o (by decide) (ra_o (by decide) (ra_o (by decide) (ra_o (by decide) (ra_o (by decide) ra_eq)))))))
  · have c : i = 0 ∨ i = 1 ∨ i = 2 ∨ i = 3 := by omega
    rcases c with e | e | e | e
    · subst e; exact ra_o (by decide) (ra_ne (by omega) (ra_o (by decide) (ra_ne (by omega) (ra_o (by decide) (ra_ne (by omega) (ra_o (by decide) ra_eq))))))
    · subst e; exact ra_o (by decide) (ra_ne (by omega) (ra_o (by decide) (ra_ne (by omega) (ra_o (by decide) ra_eq))))
    · subst e; exact ra_o (by decide) (ra_ne (by omega) (ra_o (by decide) ra_eq))
    · subst e; exact ra_o (by decide) ra_eq
theorem fAdd_at {k d o ak a : Int} {σ : MS} : (fAdd k d o ak a σ).2.1 3 (2640 + σ.1 62) = k ∧ (fAdd k d o ak a σ).2.1 4 (2640 + σ.1 62) = d ∧ (fAdd k d o ak a σ).2.1 5 (2640 + σ.1 62) = o ∧ (fAdd k d o ak a σ).2.1 6 (2640 + σ.1 62) = 0 ∧ (fAdd k d o ak a σ).2.1 7 (4 * (2640 + σ.1 62) + 0) = ak ∧ (fAdd k d o ak a σ).2.1 8 (4 * (2640 + σ.1 62) + 0) = a ∧ ∀ i, 1 ≤ i → i < 4 → (fAdd k d o ak a σ).2.1 7 (4 * (2640 + σ.1 62) + i) = 0 := by
  obtain ⟨h1, h2, h3, h4, h5⟩ := fItem_at (x := 2640 + σ.1 62) (k := k) (d := d) (o := o) (σ := σ)
  exact ⟨ra_o (by decide) (ra_o (by decide) h1), ra_o (by decide) (ra_o (by decide) h2), ra_o (by decide) (ra_o (by decide) h3), ra_o (by decide) (ra_o (by decide) h4), ra_o (by decide) ra_eq, ra_eq, fun i a b => ra_o (by decide) (ra_ne (by omega) (h5 i (by omega) b))⟩
theorem fAdd_oki {k d o ak a F : Int} {σ : MS} (hk : 0 ≤ k ∧ k ≤ 15 ∧ k ≠ 10 ∧ k ≠ 12) (hd : k ≤ 5 → 0 ≤ d ∧ d < 192) (hl : (k = 8 ∨ k = 9 ∨ k = 13) → 0 ≤ d ∧ d < 4096) (hf : (k = 14 ∨ k = 15) → 0 ≤ d ∧ d < F) (ho : k = 11 → 0 ≤ o ∧ o < F) (ha : ak = 0 ∨ ak = 1 ∨ (ak = 2 ∧ k = 0 ∧ 0 ≤ a ∧ a < 192)) : OKI (fAdd k d o ak a σ) F (2640 + σ.1 62) := by
  obtain ⟨h1, h2, h3, h4, h5, h6, h7⟩ := fAdd_at (k := k) (d := d) (o := o) (ak := ak) (a := a) (σ := σ)
  unfold OKI
  rw [h1, h2, h3, h4]
  refine ⟨by omega, fun q => hd (by omega), hl, hf, fun q => by omega, fun q => ho (by omega), fun q => by omega, fun i x y => ?_, fun q => by omega⟩
  by_cases z : i = 0
  · subst z
    rw [h5, h6]
    refine ⟨by omega, fun q => ⟨by omega, ?_⟩⟩
    have k0 : k = 0 := by omega
    unfold nArgs; rw [h1, k0, if_neg (by decide), if_neg (by decide), if_neg (by decide), if_pos (by decide)]; decide
  · rw [h7 i (by omega) y]; exact ⟨by decide, fun q => by omega⟩
/-- a BIND is added -/
def fAddB (n f w a : Int) (σ : MS) : MS := sA 6 (2640 + σ.1 62) w (fAdd 12 n f w a σ)
theorem fAddB_fr {n f w a : Int} {σ : MS} : Fr [62] [3, 4, 5, 6, 7, 8] [] σ (fAddB n f w a σ) := fAdd_fr.A (by decide)
theorem fAddB_off {n f w a : Int} {σ : MS} : OFF (2640 + σ.1 62) σ (fAddB n f w a σ) := fAdd_off.trans (OFF.A (by decide))
theorem fAddB_oki {n f w a F : Int} {σ : MS} (hn : 0 ≤ n ∧ n < 12) (hf : 0 ≤ f ∧ f < F) (hw : w = 1 ∨ (w = 2 ∧ 0 ≤ a ∧ a < 192)) : OKI (fAddB n f w a σ) F (2640 + σ.1 62) := by
  obtain ⟨h1, h2, h3, h4, h5, h6, h7⟩ := fAdd_at (k := 12) (d := n) (o := f) (ak := w) (a := a) (σ := σ)
  have e1 : (fAddB n f w a σ).2.1 3 (2640 + σ.1 62) = 12 := ra_o (by decide) h1
  have e6 : (fAddB n f w a σ).2.1 6 (2640 + σ.1 62) = w := ra_eq
  have hm : nArgs (fAddB n f w a σ) (2640 + σ.1 62) = 1 := by unfold nArgs; rw [e1, e6, if_neg (by decide), if_pos rfl, if_neg (by omega), if_neg (by omega)]
  unfold OKI
  rw [hm, e1, e6, show (fAddB n f w a σ).2.1 4 (2640 + σ.1 62) = n from ra_o (by decide) h2, show (fAddB n f w a σ).2.1 5 (2640 + σ.1 62) = f from ra_o (by decide) h3]
  refine ⟨by decide, fun q => by omega, fun q => by omega, fun q => by omega, fun q => hn, fun q => hf, fun q => by omega, fun i x y => ?_, fun _ q => (ra_o (by decide) h5).trans q⟩
  by_cases z : i = 0
  · subst z
    rw [show (fAddB n f w a σ).2.1 7 (4 * (2640 + σ.1 62) + 0) = w from ra_o (by decide) h5, show (fAddB n f w a σ).2.1 8 (4 * (2640 + σ.1 62) + 0) = a from ra_o (by decide) h6]
    exact ⟨by omega, fun q => ⟨by omega, by decide⟩⟩
  · rw [show (fAddB n f w a σ).2.1 7 (4 * (2640 + σ.1 62) + i) = 0 from ra_o (by decide) (h7 i (by omega) y)]; exact ⟨by decide, fun q => by omega⟩
/-- what is made anew so far: a items, of the first i items of routine q, now in frame g -/
def MSG (ρ σ : MS) (FI lf : Int → Int) (q F LB out g0 a i g : Int) : Prop :=
  (∃ fr, SEG a g0 g F (fun j => σ.2.1 3 (2640 + j)) (fun j => σ.2.1 4 (2640 + j)) FI fr lf) ∧ (∀ j, 0 ≤ j → j < a → OKI σ F (2640 + j)) ∧
  (∀ j, 0 ≤ j → j < a → (σ.2.1 3 (2640 + j) = 8 ∨ σ.2.1 3 (2640 + j) = 9 ∨ σ.2.1 3 (2640 + j) = 13) → LB ≤ σ.2.1 4 (2640 + j) ∧ σ.2.1 4 (2640 + j) ≤ out) ∧
  (∀ j, 0 ≤ j → j < a → (σ.2.1 3 (2640 + j) = 8 ∨ σ.2.1 3 (2640 + j) = 9) → σ.2.1 4 (2640 + j) = out ∨ ∃ i2, 0 ≤ i2 ∧ i2 < ρ.2.1 9 q ∧ ρ.2.1 3 (220 * q + i2) = 13 ∧ σ.2.1 4 (2640 + j) = ρ.2.1 4 (220 * q + i2) + LB) ∧
  (∀ i2, 0 ≤ i2 → i2 < i → ρ.2.1 3 (220 * q + i2) = 13 → ∃ j, 0 ≤ j ∧ j < a ∧ σ.2.1 3 (2640 + j) = 13 ∧ σ.2.1 4 (2640 + j) = ρ.2.1 4 (220 * q + i2) + LB) ∧
  (∀ y, y < 2640 → IEQ ρ y σ y) ∧ σ.2.1 11 = ρ.2.1 11
theorem MSG.put {ρ σ τ : MS} {FI lf : Int → Int} {q F LB out g0 a i g g' : Int} (h : MSG ρ σ FI lf q F LB out g0 a i g) (ha : 0 ≤ a) (hg : 0 ≤ g ∧ g < F) (f : OFF (2640 + a) σ τ) (ho : OKI τ F (2640 + a)) (h7 : τ.2.1 3 (2640 + a) ≠ 7 ∧ τ.2.1 3 (2640 + a) ≠ 10)
    (hl : (τ.2.1 3 (2640 + a) = 8 ∨ τ.2.1 3 (2640 + a) = 9 ∨ τ.2.1 3 (2640 + a) = 13) → lf (τ.2.1 4 (2640 + a)) = g ∧ LB ≤ τ.2.1 4 (2640 + a) ∧ τ.2.1 4 (2640 + a) ≤ out)
    (hj : (τ.2.1 3 (2640 + a) = 8 ∨ τ.2.1 3 (2640 + a) = 9) → τ.2.1 4 (2640 + a) = out ∨ ∃ i2, 0 ≤ i2 ∧ i2 < ρ.2.1 9 q ∧ ρ.2.1 3 (220 * q + i2) = 13 ∧ τ.2.1 4 (2640 + a) = ρ.2.1 4 (220 * q + i2) + LB)
    (hx : τ.2.1 3 (2640 + a) ≠ 8 → (τ.2.1 3 (2640 + a) = 14 → FI (τ.2.1 4 (2640 + a)) = g ∧ g' = τ.2.1 4 (2640 + a) ∧ 1 ≤ τ.2.1 4 (2640 + a)) ∧ (τ.2.1 3 (2640 + a) = 15 → τ.2.1 4 (2640 + a) = g ∧ 1 ≤ τ.2.1 4 (2640 + a) ∧ g' = FI (τ.2.1 4 (2640 + a))) ∧ (τ.2.1 3 (2640 + a) ≠ 14 → τ.2.1 3 (2640 + a) ≠ 15 → g' = g)) : MSG ρ τ FI lf q F LB out g0 (a + 1) i g' := by
  obtain ⟨⟨fr, s⟩, m2, m3, m4, m5, m6, m7⟩ := h
  have e : ∀ j, 0 ≤ j → j < a → IEQ σ (2640 + j) τ (2640 + j) := fun j x y => f.ieq (by omega)
  refine ⟨s.add (g' := g') (K' := fun j => τ.2.1 3 (2640 + j)) (D' := fun j => τ.2.1 4 (2640 + j)) ha hg (fun j x y => ⟨(e j x y).1, (e j x y).2.1⟩) h7.1 h7.2 (fun w => (hl w).1) hx, fun j x y => ?_, fun j x y => ?_, fun j x y => ?_, fun i2 x y w => ?_, fun y hy => (m6 y hy).trans (f.ieq (by omega)), f.2.2.2.trans m7⟩
  · by_cases z : j = a
    · subst z; exact ho
    · exact (e j x (by omega)).oki f.2.2.2 (m2 j x (by omega))
  · by_cases z : j = a
    · subst z; exact fun w => (hl w).2
    · rw [(e j x (by omega)).1, (e j x (by omega)).2.1]; exact m3 j x (by omega)
  · by_cases z : j = a
    · subst z; exact hj
    · rw [(e j x (by omega)).1, (e j x (by omega)).2.1]; exact m4 j x (by omega)
  · obtain ⟨j, j0, j1, j2, j3⟩ := m5 i2 x y w
    exact ⟨j, j0, by omega, by rw [(e j j0 j1).1]; exact j2, by rw [(e j j0 j1).2.1]; exact j3⟩
theorem MSG.neu {ρ σ τ : MS} {FI lf : Int → Int} {q F LB out g0 a i g : Int} (h : MSG ρ σ FI lf q F LB out g0 a i g) (ha : 0 ≤ a) (hg : 0 ≤ g ∧ g < F) (f : OFF (2640 + a) σ τ) (ho : OKI τ F (2640 + a)) (hk : τ.2.1 3 (2640 + a) ≤ 6 ∨ τ.2.1 3 (2640 + a) = 11 ∨ τ.2.1 3 (2640 + a) = 12) : MSG ρ τ FI lf q F LB out g0 (a + 1) i g :=
  h.put ha hg f ho (by omega) (fun w => by omega) (fun w => by omega) (fun _ => ⟨fun w => by omega, fun w => by omega, fun _ _ => rfl⟩)
theorem MSG.fr {ss ks js : List Nat} {ρ σ τ : MS} {FI lf : Int → Int} {q F LB out g0 a i g : Int} (h : MSG ρ σ FI lf q F LB out g0 a i g) (f : Fr ss ks js σ τ) (hk : ∀ k ∈ [3, 4, 5, 6, 7, 8, 9, 11], k ∉ ks) : MSG ρ τ FI lf q F LB out g0 a i g := by
  obtain ⟨⟨fr, s⟩, m2, m3, m4, m5, m6, m7⟩ := h
  have e3 : τ.2.1 3 = σ.2.1 3 := f.q hk (k := 3) (by decide)
  have e4 : τ.2.1 4 = σ.2.1 4 := f.q hk (k := 4) (by decide)
  have e11 : τ.2.1 11 = σ.2.1 11 := f.q hk (k := 11) (by decide)
  have sub : ∀ k ∈ [3, 4, 5, 6, 7, 8], k ∉ ks := fun k q => hk k ((by decide : ∀ k ∈ [3, 4, 5, 6, 7, 8], k ∈ [3, 4, 5, 6, 7, 8, 9, 11]) k q)
  refine ⟨⟨fr, ?_⟩, fun j x y => ?_, fun j x y => ?_, fun j x y => ?_, fun i2 x y w => ?_, fun y hy => (m6 y hy).trans (IEQ.fr f sub), e11.trans m7⟩
  · rw [e3, e4]; exact s
  · exact (IEQ.fr f sub).oki e11 (m2 j x y)
  · rw [e3, e4]; exact m3 j x y
  · rw [e3, e4]; exact m4 j x y
  · rw [e3, e4]; exact m5 i2 x y w
theorem MSG.adv {ρ σ : MS} {FI lf : Int → Int} {q F LB out g0 a i g : Int} (h : MSG ρ σ FI lf q F LB out g0 a i g) (hi : ρ.2.1 3 (220 * q + i) = 13 → ∃ j, 0 ≤ j ∧ j < a ∧ σ.2.1 3 (2640 + j) = 13 ∧ σ.2.1 4 (2640 + j) = ρ.2.1 4 (220 * q + i) + LB) : MSG ρ σ FI lf q F LB out g0 a (i + 1) g := by
  obtain ⟨s, m2, m3, m4, m5, m6, m7⟩ := h
  refine ⟨s, m2, m3, m4, fun i2 x y w => ?_, m6, m7⟩
  by_cases z : i2 = i
  · subst z; exact hi w
  · exact m5 i2 x (by omega) w
/-- item y is as item x was, its registers higher by base -/
def SHI (ρ : MS) (x : Int) (τ : MS) (y base : Int) : Prop := τ.2.1 6 y = ρ.2.1 6 x ∧ ∀ j, 0 ≤ j → j < 4 → τ.2.1 7 (4 * y + j) = ρ.2.1 7 (4 * x + j) ∧ τ.2.1 8 (4 * y + j) = ρ.2.1 8 (4 * x + j) + (if ρ.2.1 7 (4 * x + j) = 2 then base else 0)
theorem shi_oki {ρ τ : MS} {x y base m F0 F : Int} (ho : OKI ρ F0 x) (h10 : ρ.2.1 3 x ≠ 10) (hs : SHI ρ x τ y base) (h11 : τ.2.1 11 = ρ.2.1 11) (hk : (τ.2.1 3 y = ρ.2.1 3 x ∧ ρ.2.1 3 x ≠ 7) ∨ (ρ.2.1 3 x = 7 ∧ τ.2.1 3 y = 0)) (hm : ∀ i, 0 ≤ i → i < nArgs ρ x → ρ.2.1 7 (4 * x + i) = 2 → ρ.2.1 8 (4 * x + i) < m) (hb : 0 ≤ base ∧ base + m ≤ 192)
    (hd : τ.2.1 3 y ≤ 5 → 0 ≤ τ.2.1 4 y ∧ τ.2.1 4 y < 192) (hl : (τ.2.1 3 y = 8 ∨ τ.2.1 3 y = 9 ∨ τ.2.1 3 y = 13) → 0 ≤ τ.2.1 4 y ∧ τ.2.1 4 y < 4096) (hf : (τ.2.1 3 y = 14 ∨ τ.2.1 3 y = 15) → 0 ≤ τ.2.1 4 y ∧ τ.2.1 4 y < F) (h12 : τ.2.1 3 y = 12 → τ.2.1 4 y = ρ.2.1 4 x) (ho5 : (τ.2.1 3 y = 11 ∨ τ.2.1 3 y = 12) → 0 ≤ τ.2.1 5 y ∧ τ.2.1 5 y < F) : OKI τ F y := by
  have k1 : (0 ≤ τ.2.1 3 y ∧ τ.2.1 3 y ≤ 15) ∧ τ.2.1 3 y ≠ 10 ∧ (τ.2.1 3 y = 12 → ρ.2.1 3 x = 12) := by
    have a := ho.1
    clear ho hd hl hf h12 ho5 hm hs
    omega
  have o5 := ho.2.2.2.2.1
  have o8 := ho.2.2.2.2.2.2.2.1
  have o9 := ho.2.2.2.2.2.2.2.2
  obtain ⟨s6, sa⟩ := hs
  have hn : nArgs τ y = nArgs ρ x := by
    unfold nArgs
    rcases hk with ⟨e, _⟩ | ⟨e, e2⟩
    · rw [e, s6, if_neg h10, if_neg h10]
    · rw [e, e2]; rfl
  unfold OKI
  rw [hn]
  refine ⟨k1.1, fun w => hd (w.elim id (fun w => absurd w k1.2.1)), hl, hf, fun w => ?_, ho5, fun w => absurd w k1.2.1, fun i a b => ?_, fun w w2 => ?_⟩
  · rw [h12 w]; exact o5 (k1.2.2 w)
  · obtain ⟨e7, e8⟩ := sa i a b
    have q := o8 i a b
    rw [e7]
    refine ⟨q.1, fun w => ?_⟩
    rw [e8, if_pos w]
    have q2 := q.2 w
    have q3 := hm i a q2.2 w
    have q4 := q2.1
    refine ⟨?_, q2.2⟩
    clear hd hl hf h12 ho5 hm o5 o8 o9 q q2 hk k1 ho
    omega
  · rw [(sa 0 (by decide) (by decide)).1]; rw [s6] at w2; exact o9 (k1.2.2 w) w2
/-- routine q is to be melted in as frame F on -/
def MQQ (ρ : MS) (q F LB out g0 : Int) (FI lf frq lfq : Int → Int) : Prop :=
  CW (ρ.2.1 9 q) (ρ.2.1 14 q) (ρ.1 10) (iK ρ q) (iD ρ q) (iO ρ q) (iF ρ q) frq lfq ∧ LEX ρ q ∧ (∀ l, l ≠ out → lf l = F + lfq (l - LB)) ∧ lf out = F ∧ FI F = g0 ∧ (∀ j, 1 ≤ j → FI (j + F) = ρ.2.1 16 (12 * q + j) + F) ∧
  (∀ k, 0 ≤ k → k < ρ.2.1 9 q → (ρ.2.1 3 (220 * q + k) = 8 ∨ ρ.2.1 3 (220 * q + k) = 9 ∨ ρ.2.1 3 (220 * q + k) = 13) → 0 ≤ ρ.2.1 4 (220 * q + k) ∧ ρ.2.1 4 (220 * q + k) + LB < out) ∧ 1 ≤ F ∧ 1 ≤ ρ.2.1 9 q ∧ 1 ≤ ρ.2.1 14 q
def Gq (ρ : MS) (q F : Int) (frq : Int → Int) (i : Int) : Int := if i < ρ.2.1 9 q then F + frq i else F
theorem Gq_rng {ρ : MS} {q F LB out g0 i : Int} {FI lf frq lfq : Int → Int} (h : MQQ ρ q F LB out g0 FI lf frq lfq) (hi : 0 ≤ i) : 0 ≤ Gq ρ q F frq i ∧ Gq ρ q F frq i < F + ρ.2.1 14 q := by
  obtain ⟨c, _, _, _, _, _, _, h1, h2, h3⟩ := h
  unfold Gq
  split
  · have := c.2.1 i hi (by assumption); omega
  · omega
theorem melt_item {ρ σ τ : MS} {q F LB out g0 a i : Int} {FI lf frq lfq : Int → Int} (m : MQQ ρ q F LB out g0 FI lf frq lfq) (h : MSG ρ σ FI lf q (F + ρ.2.1 14 q) LB out g0 a i (Gq ρ q F frq i)) (ha : 0 ≤ a) (hi : 0 ≤ i ∧ i < ρ.2.1 9 q) (f : OFF (2640 + a) σ τ) (ho : OKI τ (F + ρ.2.1 14 q) (2640 + a))
    (hk : τ.2.1 3 (2640 + a) = ρ.2.1 3 (220 * q + i)) (h7 : ρ.2.1 3 (220 * q + i) ≠ 7 ∧ ρ.2.1 3 (220 * q + i) ≠ 10) (hd : (ρ.2.1 3 (220 * q + i) = 8 ∨ ρ.2.1 3 (220 * q + i) = 9 ∨ ρ.2.1 3 (220 * q + i) = 13) → τ.2.1 4 (2640 + a) = ρ.2.1 4 (220 * q + i) + LB) (hf : (ρ.2.1 3 (220 * q + i) = 14 ∨ ρ.2.1 3 (220 * q + i) = 15) → τ.2.1 4 (2640 + a) = ρ.2.1 4 (220 * q + i) + F) :
    MSG ρ τ FI lf q (F + ρ.2.1 14 q) LB out g0 (a + 1) (i + 1) (Gq ρ q F frq (i + 1)) := by
  have gr := Gq_rng m hi.1
  obtain ⟨c, lx, m1, m2, m3, m4, m5, m6, m7, m8⟩ := m
  have gi : Gq ρ q F frq i = F + frq i := if_pos hi.2
  have c4 := c.2.2.2.1 i hi.1 hi.2
  have c3 := c.2.2.1 i hi.1 hi.2
  simp only [iK, iD, iF] at c3 c4
  refine MSG.adv (h.put ha gr f ho (by rw [hk]; exact h7) (fun w => ?_) (fun w => ?_) (fun w => ?_)) (fun w => ⟨a, ha, by omega, by rw [hk]; exact w, hd (by omega)⟩)
  · rw [hk] at w
    have e := hd w
    have l := m5 i hi.1 hi.2 w
    rw [e, m1 _ (by omega), gi, show ρ.2.1 4 (220 * q + i) + LB - LB = ρ.2.1 4 (220 * q + i) by omega, c4.1 w]
    exact ⟨rfl, by omega, by omega⟩
  · rw [hk] at w
    obtain ⟨j, j0, j1, j2, j3⟩ := lx i hi.1 hi.2 w
    exact Or.inr ⟨j, j0, j1, j2, by rw [hd (by omega), j3]⟩
  · rw [hk] at w ⊢
    have f3 := c3 h7.1 w
    have gn : Gq ρ q F frq (i + 1) = F + frq (i + 1) := if_pos f3.1
    rw [gi, gn]
    refine ⟨fun e => ?_, fun e => ?_, fun e1 e2 => ?_⟩
    · have z := f3.2.1 e
      rw [hf (Or.inl e), m4 _ z.2.2, z.1, z.2.1]
      exact ⟨by omega, by omega, by omega⟩
    · have z := f3.2.2.1 e
      rw [hf (Or.inr e), m4 _ z.2.1, ← z.2.2, ← z.1]
      exact ⟨by omega, by omega, by omega⟩
    · rw [f3.2.2.2 e1 e2]
theorem melt_ret {ρ σ τ υ : MS} {q F LB out g0 a i : Int} {FI lf frq lfq : Int → Int} (m : MQQ ρ q F LB out g0 FI lf frq lfq) (h : MSG ρ σ FI lf q (F + ρ.2.1 14 q) LB out g0 a i (Gq ρ q F frq i)) (ha : 0 ≤ a) (hi : 0 ≤ i ∧ i < ρ.2.1 9 q) (h7 : ρ.2.1 3 (220 * q + i) = 7) (hl : LB ≤ out)
    (f : OFF (2640 + a) σ τ) (ho : OKI τ (F + ρ.2.1 14 q) (2640 + a)) (hk : τ.2.1 3 (2640 + a) = 0) (f2 : OFF (2640 + (a + 1)) τ υ) (ho2 : OKI υ (F + ρ.2.1 14 q) (2640 + (a + 1))) (hk2 : υ.2.1 3 (2640 + (a + 1)) = 8) (hd2 : υ.2.1 4 (2640 + (a + 1)) = out) :
    MSG ρ υ FI lf q (F + ρ.2.1 14 q) LB out g0 (a + 1 + 1) (i + 1) (Gq ρ q F frq (i + 1)) := by
  have gr := Gq_rng m hi.1
  obtain ⟨c, lx, m1, m2, m3, m4, m5, m6, m7, m8⟩ := m
  have gi : Gq ρ q F frq i = F := by
    have := (c.2.2.2.1 i hi.1 hi.2).2 h7
    unfold Gq; rw [if_pos hi.2, this]; omega
  have h1 := h.neu ha gr f ho (by omega)
  refine MSG.adv (h1.put (g' := Gq ρ q F frq (i + 1)) (by omega) gr f2 ho2 (by omega) (fun w => ?_) (fun w => Or.inl hd2) (fun w => absurd hk2 w)) (fun w => by omega)
  rw [hd2, m2, gi]
  exact ⟨rfl, hl, by omega⟩
/-- at the end: the label behind, and LEAVE -/
theorem melt_end {ρ σ τ υ : MS} {q F LB out g0 a : Int} {FI lf frq lfq : Int → Int} (m : MQQ ρ q F LB out g0 FI lf frq lfq) (h : MSG ρ σ FI lf q (F + ρ.2.1 14 q) LB out g0 a (ρ.2.1 9 q) (Gq ρ q F frq (ρ.2.1 9 q))) (ha : 0 ≤ a) (hl : LB ≤ out) (hg0 : 0 ≤ g0 ∧ g0 < F)
    (f : OFF (2640 + a) σ τ) (ho : OKI τ (F + ρ.2.1 14 q) (2640 + a)) (hk : τ.2.1 3 (2640 + a) = 13) (hd : τ.2.1 4 (2640 + a) = out) (f2 : OFF (2640 + (a + 1)) τ υ) (ho2 : OKI υ (F + ρ.2.1 14 q) (2640 + (a + 1))) (hk2 : υ.2.1 3 (2640 + (a + 1)) = 15) (hd2 : υ.2.1 4 (2640 + (a + 1)) = F) :
    MSG ρ υ FI lf q (F + ρ.2.1 14 q) LB out g0 (a + 1 + 1) (ρ.2.1 9 q) g0 ∧ LX (a + 1 + 1) (fun j => υ.2.1 3 (2640 + j)) (fun j => υ.2.1 4 (2640 + j)) := by
  have gr := Gq_rng (i := ρ.2.1 9 q) m (by have := m.2.2.2.2.2.2.2.2.1; omega)
  obtain ⟨c, lx, m1, m2, m3, m4, m5, m6, m7, m8⟩ := m
  have gi : Gq ρ q F frq (ρ.2.1 9 q) = F := if_neg (by omega)
  rw [gi] at h gr
  have h1 := h.put (g' := F) ha gr f ho (by omega) (fun _ => by rw [hd]; exact ⟨m2, hl, by omega⟩) (fun w => by omega) (fun _ => ⟨fun w => by omega, fun w => by omega, fun _ _ => rfl⟩)
  have h2 := h1.put (g' := g0) (by omega) gr f2 ho2 (by omega) (fun w => by omega) (fun w => by omega) (fun _ => ⟨fun w => by omega, fun _ => ⟨hd2, by omega, by rw [hd2]; exact m3.symm⟩, fun _ w => absurd hk2 w⟩)
  refine ⟨h2, fun k x y e => ?_⟩
  have e13 : υ.2.1 3 (2640 + a) = 13 := by rw [(f2.ieq (y := 2640 + a) (by omega)).1]; exact hk
  have e4 : υ.2.1 4 (2640 + a) = out := by rw [(f2.ieq (y := 2640 + a) (by omega)).2.1]; exact hd
  rcases h2.2.2.2.1 k x y e with w | ⟨i2, w0, w1, w2, w3⟩
  · exact ⟨a, ha, by omega, e13, e4.trans w.symm⟩
  · obtain ⟨j, j0, j1, j2, j3⟩ := h2.2.2.2.2.1 i2 w0 w1 w2
    exact ⟨j, j0, j1, j2, j3.trans w3.symm⟩
theorem CW.fi {n F R : Int} {K D O FI FI2 fr lf : Int → Int} (h : CW n F R K D O FI fr lf) (he : ∀ f, 1 ≤ f → f < F → FI2 f = FI f) : CW n F R K D O FI2 fr lf := by
  obtain ⟨h1, h2, h3, h4, h5⟩ := h
  refine ⟨h1, h2, fun k a b x7 x8 => ?_, h4, h5⟩
  obtain ⟨g1, g2, g3, g4⟩ := h3 k a b x7 x8
  refine ⟨g1, fun e => ?_, fun e => ?_, g4⟩
  · have q := g2 e
    have r := h2 (k + 1) (by omega) g1
    rw [he _ q.2.2 (by omega)]; exact q
  · have q := g3 e
    have r := h2 k a b
    rw [he _ q.2.1 (by omega)]; exact q
/-- items behind move up by a - 1 -/
def SHU (σ0 σ : MS) (r n a i : Int) : Prop := (∀ j, 0 ≤ j → j ≤ i → IEQ σ0 (220 * r + j) σ (220 * r + j)) ∧ (∀ j, i < j → j < n → IEQ σ0 (220 * r + j) σ (220 * r + (j + (a - 1)))) ∧ (∀ y, 2640 ≤ y → IEQ σ0 y σ y) ∧ XO r σ0 σ
theorem SHU.start {σ : MS} {r n a : Int} : SHU σ σ r n a (n - 1) := ⟨fun _ _ _ => IEQ.rfl, fun j a b => by omega, fun _ _ => IEQ.rfl, XO.rfl⟩
theorem SHU.go {σ0 σ : MS} {r n a i : Int} (h : SHU σ0 σ r n a i) (hr : 0 ≤ r ∧ r < 6) (hi : 0 ≤ i ∧ i < n ∧ n + (a - 1) ≤ 220 ∧ 1 ≤ a) : SHU σ0 (fCopy (220 * r + i) (220 * r + (i + (a - 1))) σ) r n a (i - 1) := by
  obtain ⟨h1, h2, h3, h4⟩ := h
  have o := fCopy_off (f := 220 * r + i) (t := 220 * r + (i + (a - 1))) (σ := σ)
  refine ⟨fun j x y => (h1 j x (by omega)).trans (o.ieq (by omega)), fun j x y => ?_, fun y hy => (h3 y hy).trans (o.ieq (by omega)), h4.trans (o.xo (by omega) (by omega))⟩
  by_cases z : j = i
  · subst z; exact (h1 j (by omega) (by omega)).trans fCopy_ieq
  · exact (h2 j (by omega) y).trans (o.ieq (by omega))
/-- what was made anew is put in from k on -/
def CPI (σ0 σ : MS) (r k a i : Int) : Prop := (∀ j, 0 ≤ j → j < i → IEQ σ0 (2640 + j) σ (220 * r + (k + j))) ∧ (∀ j, 0 ≤ j → j < 220 → (j < k ∨ k + a ≤ j) → IEQ σ0 (220 * r + j) σ (220 * r + j)) ∧ (∀ y, 2640 ≤ y → IEQ σ0 y σ y) ∧ XO r σ0 σ
theorem CPI.start {σ : MS} {r k a : Int} : CPI σ σ r k a 0 := ⟨fun j a b => by omega, fun _ _ _ _ => IEQ.rfl, fun _ _ => IEQ.rfl, XO.rfl⟩
theorem CPI.go {σ0 σ : MS} {r k a i : Int} (h : CPI σ0 σ r k a i) (hr : 0 ≤ r ∧ r < 6) (hi : 0 ≤ i ∧ i < a ∧ 0 ≤ k ∧ k + a ≤ 220) : CPI σ0 (fCopy (2640 + i) (220 * r + (k + i)) σ) r k a (i + 1) := by
  obtain ⟨h1, h2, h3, h4⟩ := h
  have o := fCopy_off (f := 2640 + i) (t := 220 * r + (k + i)) (σ := σ)
  refine ⟨fun j x y => ?_, fun j x y w => (h2 j x y w).trans (o.ieq (by omega)), fun y hy => (h3 y hy).trans (o.ieq (by omega)), h4.trans (o.xo (by omega) (by omega))⟩
  by_cases z : j = i
  · subst z; exact (h3 _ (by omega)).trans fCopy_ieq
  · exact (h1 j x (by omega)).trans (o.ieq (by omega))
theorem OKI.up {σ : MS} {F G x : Int} (h : OKI σ F x) (hg : F ≤ G) : OKI σ G x := by
  obtain ⟨o1, o2, o3, o4, o5, o6, o7, o8, o9⟩ := h
  exact ⟨o1, o2, o3, fun q => ⟨(o4 q).1, Int.lt_of_lt_of_le (o4 q).2 hg⟩, o5, fun q => ⟨(o6 q).1, Int.lt_of_lt_of_le (o6 q).2 hg⟩, o7, o8, o9⟩
theorem melt_fin {ρ σ1 σ2 σ3 τ : MS} {r q k a F LB out g0 : Int} {FI lf frr lfr : Int → Int} (hr : 0 ≤ r ∧ r < 6) (hk : 0 ≤ k ∧ k < ρ.2.1 9 r) (h10 : ρ.2.1 3 (220 * r + k) = 10) (ha : 1 ≤ a) (hn : ρ.2.1 9 r + (a - 1) ≤ 200)
    (cw : CW (ρ.2.1 9 r) (ρ.2.1 14 r) (ρ.1 10) (iK ρ r) (iD ρ r) (iO ρ r) (iF ρ r) frr lfr) (lx : LEX ρ r) (lm : LBM ρ r) (ok : OKS ρ (ρ.2.1 14 r) r) (hF : F = ρ.2.1 14 r) (hg : g0 = frr k) (hFq : 0 ≤ ρ.2.1 14 q)
    (m : MSG ρ σ1 FI lf q (F + ρ.2.1 14 q) LB out g0 a (ρ.2.1 9 q) g0) (mx : LX a (fun j => σ1.2.1 3 (2640 + j)) (fun j => σ1.2.1 4 (2640 + j)))
    (hlb : ∀ j, 0 ≤ j → j < ρ.2.1 9 r → (ρ.2.1 3 (220 * r + j) = 8 ∨ ρ.2.1 3 (220 * r + j) = 9 ∨ ρ.2.1 3 (220 * r + j) = 13) → ρ.2.1 4 (220 * r + j) < LB) (hout : out + 2 ≤ 121 * (F + ρ.2.1 14 q)) (hFI : ∀ f, 1 ≤ f → f < F → FI f = ρ.2.1 16 (12 * r + f))
    (hit1 : ∀ y, IEQ σ1 y σ2 y) (su : SHU σ2 σ3 r (ρ.2.1 9 r) a k) {σ4 : MS} (cp : CPI σ3 σ4 r k a a) (it : ∀ y, IEQ σ4 y τ y) (t9 : τ.2.1 9 r = ρ.2.1 9 r + (a - 1)) (t14 : τ.2.1 14 r = F + ρ.2.1 14 q) (t10 : τ.1 10 = ρ.1 10) (t11 : τ.2.1 11 = ρ.2.1 11) (t16 : ∀ f, 1 ≤ f → f < F + ρ.2.1 14 q → τ.2.1 16 (12 * r + f) = FI f) :
    CODE τ r ∧ LEX τ r ∧ LBM τ r ∧ OKS τ (F + ρ.2.1 14 q) r ∧ XR r ρ τ := by
  obtain ⟨⟨frA, sg⟩, m2, m3, m4, m5, m6, m7⟩ := m
  obtain ⟨u1, u2, u3, u4⟩ := su
  obtain ⟨c1, c2, c3, c4⟩ := cp
  have k200 : k < 200 := by omega
  have r1 : ∀ i, 0 ≤ i → i < k → IEQ ρ (220 * r + i) τ (220 * r + i) := fun i x y => ((((m6 _ (by omega)).trans (hit1 _)).trans (u1 i x (by omega))).trans (c2 i x (by omega) (Or.inl y))).trans (it _)
  have r2 : ∀ i, 0 ≤ i → i < a → IEQ σ1 (2640 + i) τ (220 * r + (k + i)) := fun i x y => (((hit1 _).trans (u3 _ (by omega))).trans (c1 i x y)).trans (it _)
  have r3 : ∀ i, k < i → i < ρ.2.1 9 r → IEQ ρ (220 * r + i) τ (220 * r + (i + (a - 1))) := fun i x y => ((((m6 _ (by omega)).trans (hit1 _)).trans (u2 i x y)).trans (c2 _ (by omega) (by omega) (Or.inr (by omega)))).trans (it _)
  have from_ : ∀ i, 0 ≤ i → i < τ.2.1 9 r → (∃ j, (0 ≤ j ∧ j < ρ.2.1 9 r) ∧ IEQ ρ (220 * r + j) τ (220 * r + i)) ∨ (∃ j, (0 ≤ j ∧ j < a) ∧ IEQ σ1 (2640 + j) τ (220 * r + i)) := fun i x y => by
    by_cases z : i < k
    · exact Or.inl ⟨i, ⟨x, by omega⟩, r1 i x z⟩
    · by_cases w : i < k + a
      · have := r2 (i - k) (by omega) (by omega)
        rw [show k + (i - k) = i by omega] at this
        exact Or.inr ⟨i - k, ⟨by omega, by omega⟩, this⟩
      · have := r3 (i - (a - 1)) (by omega) (by omega)
        rw [show i - (a - 1) + (a - 1) = i by omega] at this
        exact Or.inl ⟨_, ⟨by omega, by omega⟩, this⟩
  subst hF; subst hg
  have hd : ∀ i, 0 ≤ i → i < ρ.2.1 9 r → (ρ.2.1 3 (220 * r + i) = 14 ∨ ρ.2.1 3 (220 * r + i) = 15) → ρ.2.1 4 (220 * r + i) < ρ.2.1 14 r := fun i x y e => ((ok i x y).2.2.2.1 e).2
  refine ⟨?_, ?_, fun i x y e => ?_, fun i x y => ?_, ?_⟩
  · obtain ⟨fr', lf', c⟩ := cw.splice (F' := ρ.2.1 14 r + ρ.2.1 14 q) (K' := iK τ r) (D' := iD τ r) (O' := iO τ r) hk h10 ha sg (by omega) hFI hd hlb (fun i x y e => (m3 i x y e).1) (fun i x y => ⟨(r1 i x y).1, (r1 i x y).2.1, (r1 i x y).2.2.1⟩) (fun i x y => ⟨(r2 i x y).1, (r2 i x y).2.1⟩) (fun i x y => ⟨(r3 i x y).1, (r3 i x y).2.1, (r3 i x y).2.2.1⟩)
    refine ⟨fr', lf', ?_⟩
    rw [t9, t14, t10]
    exact c.fi (fun f x y => t16 f x y)
  · have := LX.splice (K' := iK τ r) (D' := iD τ r) lx hk h10 ha mx (fun i x y => ⟨(r1 i x y).1, (r1 i x y).2.1⟩) (fun i x y => ⟨(r2 i x y).1, (r2 i x y).2.1⟩) (fun i x y => ⟨(r3 i x y).1, (r3 i x y).2.1⟩)
    unfold LEX
    rw [t9]; exact this
  · rw [t14]
    rcases from_ i x y with ⟨j, ⟨j0, j1⟩, w⟩ | ⟨j, ⟨j0, j1⟩, w⟩
    · rw [w.1] at e; rw [w.2.1]
      have := lm j j0 j1 e
      omega
    · rw [w.1] at e; rw [w.2.1]
      have := m3 j j0 j1 e
      omega
  · rcases from_ i x y with ⟨j, ⟨j0, j1⟩, w⟩ | ⟨j, ⟨j0, j1⟩, w⟩
    · have q := w.oki t11 (ok j j0 j1)
      exact OKI.up q (by omega)
    · exact w.oki (t11.trans m7.symm) (m2 j j0 j1)
  · refine ⟨fun y hy hz => ?_, fun z hz hw => ?_⟩
    · have q := ((((m6 y hz).trans (hit1 y)).trans ⟨(u4.1 y hy).1, (u4.1 y hy).2.1, (u4.1 y hy).2.2.1, (u4.1 y hy).2.2.2, fun i a b => u4.2 _ (by omega)⟩).trans ⟨(c4.1 y hy).1, (c4.1 y hy).2.1, (c4.1 y hy).2.2.1, (c4.1 y hy).2.2.2, fun i a b => c4.2 _ (by omega)⟩).trans (it y)
      exact ⟨q.1, q.2.1, q.2.2.1, q.2.2.2.1⟩
    · have hy : z / 4 < 220 * r ∨ 220 * r + 220 ≤ z / 4 := by omega
      have q := ((((m6 (z / 4) (by omega)).trans (hit1 _)).trans ⟨(u4.1 _ hy).1, (u4.1 _ hy).2.1, (u4.1 _ hy).2.2.1, (u4.1 _ hy).2.2.2, fun i a b => u4.2 _ (by omega)⟩).trans ⟨(c4.1 _ hy).1, (c4.1 _ hy).2.1, (c4.1 _ hy).2.2.1, (c4.1 _ hy).2.2.2, fun i a b => c4.2 _ (by omega)⟩).trans (it _)
      have := q.2.2.2.2 (z % 4) (by omega) (by omega)
      rw [show 4 * (z / 4) + z % 4 = z by omega] at this
      exact this
theorem RG.item {σ : MS} (h : RG σ) {x k d o : Int} (hk : -2147483648 ≤ k ∧ k ≤ 2147483647) (hd : -2147483648 ≤ d ∧ d ≤ 2147483647) (ho : -2147483648 ≤ o ∧ o ≤ 2147483647) : RG (fItem x k d o σ) := (((((((((((h.A hk).A hd).A ho).A (by decide)).A (by decide)).A (by decide)).A (by decide)).A (by decide)).A (by decide)).A (by decide)).A (by decide)).A (by decide)
theorem RG.add {σ : MS} (h : RG σ) {k d o ak a : Int} (hn : -2147483648 ≤ σ.1 62 + 1 ∧ σ.1 62 + 1 ≤ 2147483647) (hk : -2147483648 ≤ k ∧ k ≤ 2147483647) (hd : -2147483648 ≤ d ∧ d ≤ 2147483647) (ho : -2147483648 ≤ o ∧ o ≤ 2147483647) (h1 : -2147483648 ≤ ak ∧ ak ≤ 2147483647) (h2 : -2147483648 ≤ a ∧ a ≤ 2147483647) : RG (fAdd k d o ak a σ) := ((h.item hk hd ho).arg h1 h2).S hn
/-- item i of routine q has been copied behind, its registers raised -/
def MIC (ρ σ σL : MS) (x a base : Int) : Prop := OFF (2640 + a) σ σL ∧ σL.2.1 3 (2640 + a) = ρ.2.1 3 x ∧ σL.2.1 4 (2640 + a) = ρ.2.1 4 x ∧ σL.2.1 5 (2640 + a) = ρ.2.1 5 x ∧ SHI ρ x σL (2640 + a) base ∧ σL.2.1 11 = ρ.2.1 11
theorem MIC.mk {ρ σ σL : MS} {x a base : Int} (hx : x < 2640) (hi : IEQ ρ x σ x) (h11 : σ.2.1 11 = ρ.2.1 11) (hl : OFF (2640 + a) (sS 62 (a + 1) (fCopy x (2640 + a) σ)) σL) (f : Fr [] [8] [] (sS 62 (a + 1) (fCopy x (2640 + a) σ)) σL)
    (hs : ∀ u, 0 ≤ u → u < 4 → σL.2.1 8 (4 * (2640 + a) + u) = (sS 62 (a + 1) (fCopy x (2640 + a) σ)).2.1 8 (4 * (2640 + a) + u) + (if (sS 62 (a + 1) (fCopy x (2640 + a) σ)).2.1 7 (4 * (2640 + a) + u) = 2 then base else 0)) : MIC ρ σ σL x a base := by
  have o := fCopy_off (f := x) (t := 2640 + a) (σ := σ)
  have i := hi.trans (fCopy_ieq (f := x) (t := 2640 + a) (σ := σ))
  refine ⟨o.S.trans hl, ?_, ?_, ?_, ⟨?_, fun u a0 a1 => ⟨?_, ?_⟩⟩, ?_⟩
  · rw [f.2.1 3 (by decide)]; exact i.1
  · rw [f.2.1 4 (by decide)]; exact i.2.1
  · rw [f.2.1 5 (by decide)]; exact i.2.2.1
  · rw [f.2.1 6 (by decide)]; exact i.2.2.2.1
  · rw [f.2.1 7 (by decide)]; exact (i.2.2.2.2 u a0 a1).1
  · have e7 := (i.2.2.2.2 u a0 a1).1
    have e8 := (i.2.2.2.2 u a0 a1).2
    have := hs u a0 a1
    rw [this]
    show (fCopy x (2640 + a) σ).2.1 8 (4 * (2640 + a) + u) + (if (fCopy x (2640 + a) σ).2.1 7 (4 * (2640 + a) + u) = 2 then base else 0) = _
    rw [e7, e8]
  · rw [f.2.1 11 (by decide)]; exact h11
def MIH (ρ σ : MS) (q f base lb to out g0 a i m : Int) (FI lf frq lfq : Int → Int) : Prop :=
  (MQQ ρ q f lb out g0 FI lf frq lfq) ∧ (MSG ρ σ FI lf q (f + ρ.2.1 14 q) lb out g0 a i (Gq ρ q f frq i)) ∧ (0 ≤ a) ∧ (0 ≤ i ∧ i < ρ.2.1 9 q) ∧ (OKI ρ (ρ.2.1 14 q) (220 * q + i)) ∧ (ρ.2.1 3 (220 * q + i) ≠ 10) ∧ (∀ j, 0 ≤ j → j < nArgs ρ (220 * q + i) → ρ.2.1 7 (4 * (220 * q + i) + j) = 2 → ρ.2.1 8 (4 * (220 * q + i) + j) < m) ∧ (ρ.2.1 3 (220 * q + i) ≤ 5 → ρ.2.1 4 (220 * q + i) < m) ∧ (0 ≤ base ∧ base + m ≤ 192) ∧ (0 ≤ to ∧ to < 192) ∧ (0 ≤ lb ∧ lb ≤ out ∧ out < 4096) ∧ (1 ≤ f)
theorem MIH.mq {ρ σ : MS} {q f base lb to out g0 a i m : Int} {FI lf frq lfq : Int → Int} (h : MIH ρ σ q f base lb to out g0 a i m FI lf frq lfq) : MQQ ρ q f lb out g0 FI lf frq lfq := h.1
theorem MIH.ms {ρ σ : MS} {q f base lb to out g0 a i m : Int} {FI lf frq lfq : Int → Int} (h : MIH ρ σ q f base lb to out g0 a i m FI lf frq lfq) : MSG ρ σ FI lf q (f + ρ.2.1 14 q) lb out g0 a i (Gq ρ q f frq i) := h.2.1
theorem MIH.ha {ρ σ : MS} {q f base lb to out g0 a i m : Int} {FI lf frq lfq : Int → Int} (h : MIH ρ σ q f base lb to out g0 a i m FI lf frq lfq) : 0 ≤ a := h.2.2.1
theorem MIH.hi {ρ σ : MS} {q f base lb to out g0 a i m : Int} {FI lf frq lfq : Int → Int} (h : MIH ρ σ q f base lb to out g0 a i m FI lf frq lfq) : 0 ≤ i ∧ i < ρ.2.1 9 q := h.2.2.2.1
theorem MIH.ok {ρ σ : MS} {q f base lb to out g0 a i m : Int} {FI lf frq lfq : Int → Int} (h : MIH ρ σ q f base lb to out g0 a i m FI lf frq lfq) : OKI ρ (ρ.2.1 14 q) (220 * q + i) := h.2.2.2.2.1
theorem MIH.h10 {ρ σ : MS} {q f base lb to out g0 a i m : Int} {FI lf frq lfq : Int → Int} (h : MIH ρ σ q f base lb to out g0 a i m FI lf frq lfq) : ρ.2.1 3 (220 * q + i) ≠ 10 := h.2.2.2.2.2.1
theorem MIH.hm {ρ σ : MS} {q f base lb to out g0 a i m : Int} {FI lf frq lfq : Int → Int} (h : MIH ρ σ q f base lb to out g0 a i m FI lf frq lfq) : ∀ j, 0 ≤ j → j < nArgs ρ (220 * q + i) → ρ.2.1 7 (4 * (220 * q + i) + j) = 2 → ρ.2.1 8 (4 * (220 * q + i) + j) < m := h.2.2.2.2.2.2.1
theorem MIH.hd {ρ σ : MS} {q f base lb to out g0 a i m : Int} {FI lf frq lfq : Int → Int} (h : MIH ρ σ q f base lb to out g0 a i m FI lf frq lfq) : ρ.2.1 3 (220 * q + i) ≤ 5 → ρ.2.1 4 (220 * q + i) < m := h.2.2.2.2.2.2.2.1
theorem MIH.hb {ρ σ : MS} {q f base lb to out g0 a i m : Int} {FI lf frq lfq : Int → Int} (h : MIH ρ σ q f base lb to out g0 a i m FI lf frq lfq) : 0 ≤ base ∧ base + m ≤ 192 := h.2.2.2.2.2.2.2.2.1
theorem MIH.ht {ρ σ : MS} {q f base lb to out g0 a i m : Int} {FI lf frq lfq : Int → Int} (h : MIH ρ σ q f base lb to out g0 a i m FI lf frq lfq) : 0 ≤ to ∧ to < 192 := h.2.2.2.2.2.2.2.2.2.1
theorem MIH.hl {ρ σ : MS} {q f base lb to out g0 a i m : Int} {FI lf frq lfq : Int → Int} (h : MIH ρ σ q f base lb to out g0 a i m FI lf frq lfq) : 0 ≤ lb ∧ lb ≤ out ∧ out < 4096 := h.2.2.2.2.2.2.2.2.2.2.1
theorem MIH.hf {ρ σ : MS} {q f base lb to out g0 a i m : Int} {FI lf frq lfq : Int → Int} (h : MIH ρ σ q f base lb to out g0 a i m FI lf frq lfq) : 1 ≤ f := h.2.2.2.2.2.2.2.2.2.2.2
theorem mi_lab {ρ σ σL : MS} {q f base lb to out g0 a i m : Int} {FI lf frq lfq : Int → Int} (h : MIH ρ σ q f base lb to out g0 a i m FI lf frq lfq) (c : MIC ρ σ σL (220 * q + i) a base) (k : ρ.2.1 3 (220 * q + i) = 8 ∨ ρ.2.1 3 (220 * q + i) = 9 ∨ ρ.2.1 3 (220 * q + i) = 13) {v : Int} (hv : v = ρ.2.1 4 (220 * q + i) + lb) : MSG ρ (sA 4 (2640 + a) v σL) FI lf q (f + ρ.2.1 14 q) lb out g0 (a + 1) (i + 1) (Gq ρ q f frq (i + 1)) := by
  obtain ⟨c1, c2, c3, c4, c5, c6⟩ := c
  have l := h.mq.2.2.2.2.2.2.1 i h.hi.1 h.hi.2 k
  have e3 : (sA 4 (2640 + a) v σL).2.1 3 (2640 + a) = ρ.2.1 3 (220 * q + i) := c2
  have e4 : (sA 4 (2640 + a) v σL).2.1 4 (2640 + a) = v := ra_eq
  have hl := h.hl
  refine melt_item h.mq h.ms h.ha h.hi (c1.trans (OFF.A (by decide))) (shi_oki h.ok h.h10 c5 c6 (Or.inl ⟨e3, by omega⟩) h.hm h.hb ?_ ?_ ?_ ?_ ?_) e3 ⟨by omega, h.h10⟩ (fun _ => e4.trans hv) (fun w => by omega)
  · rw [e3]; intro w; omega
  · rw [e4]; intro w; omega
  · rw [e3]; intro w; omega
  · rw [e3]; intro w; omega
  · rw [e3]; intro w; omega
theorem mi_frm {ρ σ σL : MS} {q f base lb to out g0 a i m : Int} {FI lf frq lfq : Int → Int} (h : MIH ρ σ q f base lb to out g0 a i m FI lf frq lfq) (c : MIC ρ σ σL (220 * q + i) a base) (k : ρ.2.1 3 (220 * q + i) = 14 ∨ ρ.2.1 3 (220 * q + i) = 15) {v : Int} (hv : v = ρ.2.1 4 (220 * q + i) + f) : MSG ρ (sA 4 (2640 + a) v σL) FI lf q (f + ρ.2.1 14 q) lb out g0 (a + 1) (i + 1) (Gq ρ q f frq (i + 1)) := by
  obtain ⟨c1, c2, c3, c4, c5, c6⟩ := c
  have l := h.ok.2.2.2.1 k
  have e3 : (sA 4 (2640 + a) v σL).2.1 3 (2640 + a) = ρ.2.1 3 (220 * q + i) := c2
  have e4 : (sA 4 (2640 + a) v σL).2.1 4 (2640 + a) = v := ra_eq
  have hf := h.hf
  refine melt_item h.mq h.ms h.ha h.hi (c1.trans (OFF.A (by decide))) (shi_oki h.ok h.h10 c5 c6 (Or.inl ⟨e3, by omega⟩) h.hm h.hb ?_ ?_ ?_ ?_ ?_) e3 ⟨by omega, h.h10⟩ (fun w => by omega) (fun _ => e4.trans hv)
  · rw [e3]; intro w; omega
  · rw [e3]; intro w; omega
  · rw [e4]; intro w; omega
  · rw [e3]; intro w; omega
  · rw [e3]; intro w; omega
theorem mi_reg {ρ σ σL : MS} {q f base lb to out g0 a i m : Int} {FI lf frq lfq : Int → Int} (h : MIH ρ σ q f base lb to out g0 a i m FI lf frq lfq) (c : MIC ρ σ σL (220 * q + i) a base) (k : ρ.2.1 3 (220 * q + i) ≤ 5) {v : Int} (hv : v = ρ.2.1 4 (220 * q + i) + base) : MSG ρ (sA 4 (2640 + a) v σL) FI lf q (f + ρ.2.1 14 q) lb out g0 (a + 1) (i + 1) (Gq ρ q f frq (i + 1)) := by
  obtain ⟨c1, c2, c3, c4, c5, c6⟩ := c
  have l := (h.ok.2.1 (Or.inl k)).1
  have l2 := h.hd k
  have hb := h.hb
  have k0 := h.ok.1.1
  have e3 : (sA 4 (2640 + a) v σL).2.1 3 (2640 + a) = ρ.2.1 3 (220 * q + i) := c2
  have e4 : (sA 4 (2640 + a) v σL).2.1 4 (2640 + a) = v := ra_eq
  refine melt_item h.mq h.ms h.ha h.hi (c1.trans (OFF.A (by decide))) (shi_oki h.ok h.h10 c5 c6 (Or.inl ⟨e3, by omega⟩) h.hm h.hb ?_ ?_ ?_ ?_ ?_) e3 ⟨by omega, h.h10⟩ (fun w => by omega) (fun w => by omega)
  · rw [e4]; intro w; omega
  · rw [e3]; intro w; omega
  · rw [e3]; intro w; omega
  · rw [e3]; intro w; omega
  · rw [e3]; intro w; omega
theorem mi_of {ρ σ σL : MS} {q f base lb to out g0 a i m : Int} {FI lf frq lfq : Int → Int} (h : MIH ρ σ q f base lb to out g0 a i m FI lf frq lfq) (c : MIC ρ σ σL (220 * q + i) a base) (k : ρ.2.1 3 (220 * q + i) = 11 ∨ ρ.2.1 3 (220 * q + i) = 12) {v : Int} (hv : v = ρ.2.1 5 (220 * q + i) + f) : MSG ρ (sA 5 (2640 + a) v σL) FI lf q (f + ρ.2.1 14 q) lb out g0 (a + 1) (i + 1) (Gq ρ q f frq (i + 1)) := by
  obtain ⟨c1, c2, c3, c4, c5, c6⟩ := c
  have l := h.ok.2.2.2.2.2.1 k
  have hf := h.hf
  have e3 : (sA 5 (2640 + a) v σL).2.1 3 (2640 + a) = ρ.2.1 3 (220 * q + i) := c2
  have e5 : (sA 5 (2640 + a) v σL).2.1 5 (2640 + a) = v := ra_eq
  refine melt_item h.mq h.ms h.ha h.hi (c1.trans (OFF.A (by decide))) (shi_oki h.ok h.h10 c5 c6 (Or.inl ⟨e3, by omega⟩) h.hm h.hb ?_ ?_ ?_ ?_ ?_) e3 ⟨by omega, h.h10⟩ (fun w => by omega) (fun w => by omega)
  · rw [e3]; intro w; omega
  · rw [e3]; intro w; omega
  · rw [e3]; intro w; omega
  · intro _; exact c3
  · rw [e5]; intro w; omega
theorem mi_out {ρ σ σL : MS} {q f base lb to out g0 a i m : Int} {FI lf frq lfq : Int → Int} (h : MIH ρ σ q f base lb to out g0 a i m FI lf frq lfq) (c : MIC ρ σ σL (220 * q + i) a base) (k : ρ.2.1 3 (220 * q + i) = 6) : MSG ρ σL FI lf q (f + ρ.2.1 14 q) lb out g0 (a + 1) (i + 1) (Gq ρ q f frq (i + 1)) := by
  obtain ⟨c1, c2, c3, c4, c5, c6⟩ := c
  refine melt_item h.mq h.ms h.ha h.hi c1 (shi_oki h.ok h.h10 c5 c6 (Or.inl ⟨c2, by omega⟩) h.hm h.hb ?_ ?_ ?_ ?_ ?_) c2 ⟨by omega, h.h10⟩ (fun w => by omega) (fun w => by omega)
  · rw [c2]; intro w; omega
  · rw [c2]; intro w; omega
  · rw [c2]; intro w; omega
  · rw [c2]; intro w; omega
  · rw [c2]; intro w; omega
theorem mi_ret {ρ σ σL : MS} {q f base lb to out g0 a i m : Int} {FI lf frq lfq : Int → Int} (h : MIH ρ σ q f base lb to out g0 a i m FI lf frq lfq) (c : MIC ρ σ σL (220 * q + i) a base) (k : ρ.2.1 3 (220 * q + i) = 7) (ha : σL.1 62 = a + 1) : MSG ρ (fAdd 8 out 0 0 0 (sA 4 (2640 + a) to (sA 3 (2640 + a) 0 σL))) FI lf q (f + ρ.2.1 14 q) lb out g0 (a + 1 + 1) (i + 1) (Gq ρ q f frq (i + 1)) := by
  obtain ⟨c1, c2, c3, c4, c5, c6⟩ := c
  have ht := h.ht
  have hl := h.hl
  have e3 : (sA 4 (2640 + a) to (sA 3 (2640 + a) 0 σL)).2.1 3 (2640 + a) = 0 := ra_o (by decide) ra_eq
  have e4 : (sA 4 (2640 + a) to (sA 3 (2640 + a) 0 σL)).2.1 4 (2640 + a) = to := ra_eq
  have n62 : (sA 4 (2640 + a) to (sA 3 (2640 + a) 0 σL)).1 62 = a + 1 := ha
  have at_ := fAdd_at (k := 8) (d := out) (o := 0) (ak := 0) (a := 0) (σ := sA 4 (2640 + a) to (sA 3 (2640 + a) 0 σL))
  have off := fAdd_off (k := 8) (d := out) (o := 0) (ak := 0) (a := 0) (σ := sA 4 (2640 + a) to (sA 3 (2640 + a) 0 σL))
  have ok2 := fAdd_oki (k := 8) (d := out) (o := 0) (ak := 0) (a := 0) (F := f + ρ.2.1 14 q) (σ := sA 4 (2640 + a) to (sA 3 (2640 + a) 0 σL)) (by decide) (fun w => by omega) (fun w => by omega) (fun w => by omega) (fun w => by omega) (by omega)
  rw [n62] at at_ off ok2
  refine melt_ret h.mq h.ms h.ha h.hi k hl.2.1 ((c1.trans (OFF.A (by decide))).trans (OFF.A (by decide))) (shi_oki (τ := sA 4 (2640 + a) to (sA 3 (2640 + a) 0 σL)) (base := base) h.ok h.h10 c5 c6 (Or.inr ⟨k, e3⟩) h.hm h.hb ?_ ?_ ?_ ?_ ?_) e3 off ok2 at_.1 at_.2.1
  · rw [e4]; intro w; omega
  · rw [e3]; intro w; omega
  · rw [e3]; intro w; omega
  · rw [e3]; intro w; omega
  · rw [e3]; intro w; omega

