/-! go: both runs -/
/-- ahead of a CALL or ENTER with nothing but pure items between -/
def ZZ (V : Int → It) (n p : Int) : Prop := ∃ k, p ≤ k ∧ k < n ∧ (V k 0 = 10 ∨ V k 0 = 14) ∧ ∀ i, p ≤ i → i < k → V i 0 ≤ 5
def LNB (V : Int → It) (n : Int) : Prop := ∀ k, 0 ≤ k → k < n → (V k 0 = 10 ∨ V k 0 = 14) → ∃ j, lnA V k j
theorem zz_nx {V : Int → It} {n p : Int} (l : LNB V n) (p0 : 0 ≤ p) (h : ¬ (V p 0 ≤ 5)) (h11 : V p 0 ≠ 11) : ¬ ZZ V n (p + 1) := fun ⟨k, k0, k1, k2, k3⟩ => by
  obtain ⟨j, j0, j1, j2, j3⟩ := l k (by omega) k1 k2
  by_cases z : j < p
  · exact h (j3 p z (by omega))
  · by_cases w : j = p
    · rw [w] at j2; exact h11 j2
    · have := k3 j (by omega) j1; omega
theorem zz_pure {V : Int → It} {n p : Int} (h : V p 0 ≤ 5) (z : ZZ V n (p + 1)) : ZZ V n p := by
  obtain ⟨k, k0, k1, k2, k3⟩ := z
  refine ⟨k, by omega, k1, k2, fun i a b => ?_⟩
  by_cases e : i = p
  · rw [e]; exact h
  · exact k3 i (by omega) b
theorem zz_lab {V : Int → It} {n p : Int} (h : V p 0 = 13) : ¬ ZZ V n p := fun ⟨k, k0, k1, k2, k3⟩ => by
  by_cases e : k = p
  · rw [e] at k2; omega
  · have := k3 p (by omega) (by omega); omega
theorem lnb_of {τ : MS} {r : Int} (g : GDR τ r) (z : EZ (rV τ r) (τ.2.1 9 r)) : LNB (rV τ r) (τ.2.1 9 r) := fun k k0 k1 h => by
  rcases h with h | h
  · rw [rv_in k0 k1] at h
    obtain ⟨fr, lf, c⟩ := g.2.2.2.2.2.1
    obtain ⟨-, j, j0, j1, j2, -, j3⟩ := c.2.2.2.2 k k0 k1 h
    refine ⟨j, j0, j1, ?_, fun i a b => ?_⟩
    · rw [rv_in j0 (by omega)]; exact j2
    · rw [rv_in (by omega) (by omega)]; exact j3 i a b
  · exact z k k0 k1 h
/-- the top call's place is no such place -/
def NZ7 (τ : MS) : Prop := ¬ ZZ (rV τ (τ.2.1 78 (τ.2.1 73 0 - 1))) (τ.2.1 9 (τ.2.1 78 (τ.2.1 73 0 - 1))) (τ.2.1 79 (τ.2.1 73 0 - 1))
section GO7
variable {τ τ2 : MS} {t r p u w q e : Int}
theorem rv_sA {k : Nat} {i z r : Int} (h : 73 ≤ k) : rV (sA k i z τ) r = rV τ r ∧ (sA k i z τ).2.1 9 r = τ.2.1 9 r := by
  have e : ∀ m : Nat, m < 73 → (sA k i z τ).2.1 m = τ.2.1 m := fun m hm => sA_k (by omega)
  refine ⟨?_, by rw [e 9 (by decide)]⟩
  unfold rV rI
  rw [e 9 (by decide), e 3 (by decide), e 4 (by decide), e 5 (by decide), e 6 (by decide), e 7 (by decide), e 8 (by decide)]
/-- what a step does to depth and place -/
def DPS (τ τ2 : MS) (u : Int) : Prop := (u = 1 ∧ dpt τ2 0 = dpt τ 0) ∨ (u = 0 ∧ ((¬ NZ7 τ ∧ dpt τ 0 ≤ dpt τ2 0) ∨ (dpt τ2 0 = dpt τ 0 ∧ (NZ7 τ → NZ7 τ2)) ∨ (dpt τ2 0 < dpt τ 0 ∧ NZ7 τ2)))
theorem dps_of (gd : GDA τ) (ez : EZA τ) (hr : RUN τ 0) (ht : t = τ.2.1 73 0 - 1) (hrr : r = τ.2.1 78 t) (hp : p = τ.2.1 79 t) (hs : STX τ 0 t (220 * r + p) u τ2) (hu : u = 0 ∨ u = 1) : DPS τ τ2 u := by
  have h73 := hr.1
  have rc := run_c hr (c := t) (by omega) (by omega)
  have plc := hr.2.1 t (by omega) (by omega)
  rw [← hrr, ← hp] at rc plc
  have gr := gd.2 r rc.1.1 rc.1.2
  have lb := lnb_of gr (ez r rc.1.1 rc.1.2)
  have kd : rV τ r p 0 = τ.2.1 3 (220 * r + p) := by rw [rv_in rc.2.1.1 rc.2.1.2]; rfl
  have nz : NZ7 τ ↔ ¬ ZZ (rV τ r) (τ.2.1 9 r) p := by unfold NZ7; rw [← ht, ← hrr, ← hp]
  have bk := (gd.bka (m := 0) (by decide)).2 r rc.1.1 rc.1.2
  have gen : ∀ τ1 : MS, Fr [] [76, 77, 81, 82] [] τ τ1 → ∀ n, dpt (sA 79 t n τ1) 0 = dpt τ 0 ∧ (NZ7 (sA 79 t n τ1) ↔ ¬ ZZ (rV τ r) (τ.2.1 9 r) n) := fun τ1 f n => by
    have e : ∀ k : Nat, k ∈ [3, 4, 5, 6, 7, 8, 9, 16, 73, 78, 80] → (sA 79 t n τ1).2.1 k = τ.2.1 k := fun k hk => by
      rw [sA_k (by intro z; subst z; revert hk; decide)]
      exact f.2.1 k (by intro z; revert hk z; simp only [List.mem_cons, List.not_mem_nil, or_false]; omega)
    refine ⟨?_, ?_⟩
    · unfold dpt dch pr
      rw [e 73 (by decide), e 78 (by decide), e 80 (by decide), e 16 (by decide)]
    · have er : rV (sA 79 t n τ1) r = rV τ r := by
        unfold rV rI
        rw [e 9 (by decide), e 3 (by decide), e 4 (by decide), e 5 (by decide), e 6 (by decide), e 7 (by decide), e 8 (by decide)]
      unfold NZ7
      rw [e 73 (by decide), e 78 (by decide), ← ht, ← hrr, er, e 9 (by decide), show (sA 79 t n τ1).2.1 79 t = n from ra_eq]
  have F0 : ∀ {k : Nat} {i z : Int}, k ∈ [76, 77, 81, 82] → Fr [] [76, 77, 81, 82] [] τ (sA k i z τ) := fun hk => Fr.rfl.A hk
  rcases hs with hs | hs | hs | hs | hs | hs | hs | hs | hs | hs | hs
  · omega
  -- RETURN
  · rcases hs.2 with ⟨e1, -⟩ | ⟨e1, e2, e3⟩
    · omega
    refine Or.inr ⟨e1, Or.inr (Or.inr ?_)⟩
    rw [b0] at e3
    have rc2 := run_c hr (c := t - 1) (by omega) (by omega)
    have kk := hr.2.2.1 (t - 1) (by omega) (by omega)
    unfold kdm at kk
    rw [b0] at kk
    have fr : Fr [] [73, 79, 82] [] τ τ2 := by rw [e3]; exact ((Fr.rfl.A (by decide)).A (by decide)).A (by decide)
    have x73 : τ2.2.1 73 0 = τ.2.1 73 0 - 1 := by rw [e3, sA_k (by decide), sA_k (by decide)]; exact ra_eq
    have x78 : τ2.2.1 78 = τ.2.1 78 := fr.2.1 78 (by decide)
    have x80 : τ2.2.1 80 = τ.2.1 80 := fr.2.1 80 (by decide)
    have pop := dpt_pop fr (by decide) (by omega) x73 (fun c _ _ => ⟨by rw [x78], by rw [x80]⟩)
    have d1 := dp_1 (σ := τ) (m := 0) (r := τ.2.1 78 (τ.2.1 73 0 - 1)) (f := τ.2.1 80 (τ.2.1 73 0 - 1)) (by rw [← ht]; exact rc.2.2.1)
    refine ⟨by omega, ?_⟩
    unfold NZ7
    rw [x73, show τ.2.1 73 0 - 1 - 1 = t - 1 by omega, x78]
    have er : rV τ2 (τ.2.1 78 (t - 1)) = rV τ (τ.2.1 78 (t - 1)) := by
      unfold rV rI
      rw [fr.2.1 9 (by decide), fr.2.1 3 (by decide), fr.2.1 4 (by decide), fr.2.1 5 (by decide), fr.2.1 6 (by decide), fr.2.1 7 (by decide), fr.2.1 8 (by decide)]
    rw [er, fr.2.1 9 (by decide), show τ2.2.1 79 (t - 1) = τ.2.1 79 (t - 1) + 1 by rw [e3]; exact ra_eq]
    have kd2 : rV τ (τ.2.1 78 (t - 1)) (τ.2.1 79 (t - 1)) 0 = τ.2.1 3 (220 * τ.2.1 78 (t - 1) + τ.2.1 79 (t - 1)) := by rw [rv_in rc2.2.1.1 rc2.2.1.2]; rfl
    exact zz_nx (lnb_of (gd.2 _ rc2.1.1 rc2.1.2) (ez _ rc2.1.1 rc2.1.2)) rc2.2.1.1 (by rw [kd2]; omega) (by rw [kd2]; omega)
  -- pure
  · have g := gen _ (F0 (k := 82) (i := 192 * t + τ.2.1 4 (220 * r + p)) (z := wA τ t (220 * r + p) 0) (by decide)) (τ.2.1 79 t + 1)
    rw [hs.2.2]
    refine Or.inr ⟨hs.2.1, Or.inr (Or.inl ⟨g.1, fun z => g.2.mpr (fun y => (nz.mp z) ?_)⟩)⟩
    rw [← hp] at y
    exact zz_pure (by rw [kd]; omega) y
  · have g := gen _ (F0 (k := 82) (i := 192 * t + τ.2.1 4 (220 * r + p)) (z := wkd (τ.2.1 3 (220 * r + p)) (wA τ t (220 * r + p) 0) (wA τ t (220 * r + p) 1)) (by decide)) (τ.2.1 79 t + 1)
    rw [hs.2.2]
    refine Or.inr ⟨hs.2.1, Or.inr (Or.inl ⟨g.1, fun z => g.2.mpr (fun y => (nz.mp z) ?_)⟩)⟩
    rw [← hp] at y
    exact zz_pure (by rw [kd]; omega) y
  -- OUT
  · have g := gen (sA 76 0 (τ.2.1 76 0 + 1) (if τ.2.1 76 0 < 200 then sA 77 (200 * 0 + τ.2.1 76 0) (wA τ t (220 * r + p) 0) τ else τ)) (by split; exact (Fr.rfl.A (by decide)).A (by decide); exact Fr.rfl.A (by decide)) (τ.2.1 79 t + 1)
    rw [hs.2.2]
    refine Or.inr ⟨hs.2.1, Or.inr (Or.inl ⟨g.1, fun _ => g.2.mpr ?_⟩)⟩
    rw [← hp]
    exact zz_nx lb rc.2.1.1 (by rw [kd]; omega) (by rw [kd]; omega)
  -- jumps
  · obtain ⟨hk, h0, j, jt, e2⟩ := hs
    obtain ⟨j0, j13, -⟩ := jt
    rw [b0, ← hrr] at j0 j13
    have g := gen τ Fr.rfl j
    rw [e2]
    refine Or.inr ⟨h0, Or.inr (Or.inl ⟨g.1, fun _ => g.2.mpr (zz_lab ?_)⟩)⟩
    rw [rv_in j0.1 j0.2]; exact j13
  · have g := gen τ Fr.rfl (τ.2.1 79 t + 1)
    rw [hs.2.2]
    refine Or.inr ⟨hs.2.1, Or.inr (Or.inl ⟨g.1, fun _ => g.2.mpr ?_⟩)⟩
    rw [← hp]
    have hk := hs.1
    exact zz_nx lb rc.2.1.1 (by rw [kd]; omega) (by rw [kd]; omega)
  -- LINE
  · have g := gen _ (F0 (k := 81) (i := 12 * t + τ.2.1 5 (220 * r + p)) (z := τ.2.1 4 (220 * r + p)) (by decide)) (τ.2.1 79 t + 1)
    rw [hs.2.2]
    exact Or.inl ⟨hs.2.1, g.1⟩
  -- ENTER
  · refine Or.inr ⟨hs.2.1, Or.inl ⟨fun z => (nz.mp z) ⟨p, Int.le_refl _, rc.2.1.2, Or.inr (kd.trans hs.1), fun i a b => by omega⟩, ?_⟩⟩
    have kdd : kdm τ 0 r p = 14 := by unfold kdm; rw [b0]; exact hs.1
    have en := plc.enter kdd
    have ds : dsm τ 0 r p = τ.2.1 4 (220 * r + p) := by unfold dsm; rw [b0]
    rw [ds] at en
    have dps := dp_s bk en.1.rng
    rw [en.2.1] at dps
    have top := dpt_top (t := t) (τ2 := τ2) (ss := []) (ks := [79, 80, 81]) (js := []) (by rw [hs.2.2.2]; exact ((Fr.rfl.A (by decide)).A (by decide)).A (by decide)) (by decide) (by omega) ht (by rw [hs.2.2.2]; rfl) (fun _ _ _ => by rw [hs.2.2.2]; rfl) (fun c x0 x1 => by rw [hs.2.2.2, sA_k (by decide), sA_k (by decide)]; exact ra_ne (by omega) rfl)
    rw [← hrr, show τ2.2.1 80 t = τ.2.1 4 (220 * r + p) by rw [hs.2.2.2, sA_k (by decide), sA_k (by decide)]; exact ra_eq] at top
    have ge := hr.ge
    omega
  -- LEAVE
  · have kdd : kdm τ 0 r p = 15 := by unfold kdm; rw [b0]; exact hs.1
    have le := plc.leave kdd
    have ds : dsm τ 0 r p = τ.2.1 4 (220 * r + p) := by unfold dsm; rw [b0]
    rw [ds] at le
    have pm : prm τ 0 r (τ.2.1 80 t) = τ.2.1 16 (12 * r + τ.2.1 4 (220 * r + p)) := by rw [← le.2.1]; exact if_neg (by decide)
    have dps := dp_s bk plc.rng
    rw [pm] at dps
    have e3 := hs.2.2
    rw [← hrr] at e3
    have top := dpt_top (t := t) (τ2 := τ2) (ss := []) (ks := [79, 80]) (js := []) (by rw [e3]; exact (Fr.rfl.A (by decide)).A (by decide)) (by decide) (by omega) ht (by rw [e3]; rfl) (fun _ _ _ => by rw [e3]; rfl) (fun c x0 x1 => by rw [e3, sA_k (by decide)]; exact ra_ne (by omega) rfl)
    rw [← hrr, show τ2.2.1 80 t = τ.2.1 16 (12 * r + τ.2.1 4 (220 * r + p)) by rw [e3, sA_k (by decide)]; exact ra_eq] at top
    refine Or.inr ⟨hs.2.1, Or.inr (Or.inr ⟨by omega, ?_⟩)⟩
    have er : rV τ2 r = rV τ r ∧ τ2.2.1 9 r = τ.2.1 9 r := by
      rw [e3]
      exact ⟨(rv_sA (by decide)).1.trans (rv_sA (by decide)).1, (rv_sA (by decide)).2.trans (rv_sA (by decide)).2⟩
    unfold NZ7
    rw [show τ2.2.1 73 0 = τ.2.1 73 0 by rw [e3]; rfl, ← ht, show τ2.2.1 78 t = r by rw [e3]; exact hrr.symm, er.1, er.2, show τ2.2.1 79 t = p + 1 by rw [e3, hp]; exact ra_eq]
    exact zz_nx lb rc.2.1.1 (by rw [kd]; omega) (by rw [kd]; omega)
  -- CALL
  · refine Or.inr ⟨hs.2.1, Or.inl ⟨fun z => (nz.mp z) ⟨p, Int.le_refl _, rc.2.1.2, Or.inl (kd.trans hs.1), fun i a b => by omega⟩, ?_⟩⟩
    obtain ⟨τ1, ec, f2, -⟩ := hs.2.2.2
    obtain ⟨f1, c73, c8, -, c8o, -⟩ := ec
    rw [show 9 * 0 + τ.2.1 73 0 = τ.2.1 73 0 by omega] at c8 c8o
    have fr : Fr [] [73, 78, 79, 80, 81, 82] [] τ τ2 := f1.trans (Fr.sub f2 (by decide) (by decide) (by decide))
    have cq := plc.call bk (show kdm τ 0 r p = 10 by unfold kdm; rw [b0]; exact hs.1)
    have g78 : τ2.2.1 78 = τ1.2.1 78 := f2.2.1 78 (by decide)
    have g80 : τ2.2.1 80 = τ1.2.1 80 := f2.2.1 80 (by decide)
    have ps := dpt_push fr (by decide) (by omega) (by rw [f2.2.1 73 (by decide), c73]) (fun c a0 a1 => by rw [g78, g80]; exact ⟨(c8o c (by omega)).1, (c8o c (by omega)).2.2⟩)
    have d1 := dp_1 (σ := τ) (m := 0) (r := τ2.2.1 78 (τ.2.1 73 0)) (f := τ2.2.1 80 (τ.2.1 73 0)) (by rw [g80, c8.2.2]; decide)
    have ge := hr.ge
    omega
end GO7

