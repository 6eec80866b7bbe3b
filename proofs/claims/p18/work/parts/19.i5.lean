section
def DN2 (σ τ : MS) (r : Int) : Prop := τ.2.1 13 r = σ.2.1 37 r ∧ τ.2.1 17 (12 * r) = 0
theorem DNR.fr9 {ss ks js : List Nat} {σ τ : MS} {r : Int} (h : DNR σ r) (f : Fr ss ks js σ τ) (hk : ∀ k ∈ [3, 4, 5, 6, 7, 8, 9, 14, 15, 16, 18], k ∉ ks) : DNR τ r := by
  obtain ⟨a, b, c, d, e, g⟩ := h
  unfold DNR
  rw [f.2.1 14 (hk 14 (by decide)), f.2.1 15 (hk 15 (by decide)), f.2.1 16 (hk 16 (by decide)), f.2.1 18 (hk 18 (by decide)), f.2.1 9 (hk 9 (by decide))]
  have ie : ∀ x, IEQ σ x τ x := fun x => IEQ.of f (fun k q => hk k (by revert k q; decide))
  exact ⟨a, b, c, d, e, fun k y1 y2 => (ie _).symm.trans ((g k y1 y2).trans (ie _))⟩
def TBQ (S : Int → Int) (τ : MS) : Prop := ∃ es t x q ρ A, RE S ([36], advT S 0, (0, 0, 0), qq 0, []) es ([], t, x, q, ρ) ∧ ((absR A).ph = 1 ∧ (absR A).rt = 0 ∧ (absR A).ln = 0 ∧ (absR A).tn = 0 ∧ ∀ r, 0 ≤ r → r < 6 → (absR A).nn r = 0) ∧ (es.foldl uR (absR A)).nn = τ.2.1 35 ∧ (es.foldl uR (absR A)).nw = τ.2.2 38 ∧ (es.foldl uR (absR A)).tn = τ.1 43 ∧ (es.foldl uR (absR A)).tw = τ.2.2 44 ∧ ∀ r, 0 ≤ r → r < τ.1 10 → (es.foldl uR (absR A)).tm r = τ.2.1 11 r
theorem absR_srt6 {A B : MS} (h : srt A = srt B) : absR A = absR B := by
  unfold absR
  rw [srt_25 h, srt_26 h, srt_27 h, srt_30 h, srt_31 h, srt_43 h, srt_44 h, srt_45 h, srt_35 h, srt_38 h]
theorem EFF.ab6 {es : List EW} {A τ : MS} (h : EFF es A τ) (h0 : 0 < A.1 25) : absR τ = es.foldl uR (absR A) := by
  rw [← abs_fold es h0]
  exact (absR_srt6 (h A rfl)).symm
theorem TBQ.mk {S : Int → Int} {σa σb τ : MS} (g : GQ1 1 σa σb) (hS : sv σa = S) (e35 : τ.2.1 35 = σb.2.1 35) (e38 : τ.2.2 38 = σb.2.2 38) (e43 : τ.1 43 = σb.1 43) (e44 : τ.2.2 44 = σb.2.2 44) (ht : ∀ r, 0 ≤ r → r < τ.1 10 → τ.2.1 11 r = σb.2.1 45 r) : TBQ S τ := by
  obtain ⟨t, x, lg, es, ⟨re, A, ia, ef⟩, -⟩ := g
  rw [hS] at re
  have ab := ef.ab6 (by rw [ia.1.1]; decide)
  refine ⟨es, t, x, qq 0, lg, A, re, ⟨ia.1.1, ia.1.2.2.2.1, ia.1.2.2.2.2, (ia.2.1 rfl).1, (ia.2.1 rfl).2⟩, ?_, ?_, ?_, ?_, fun r a b => ?_⟩
  · rw [← ab, e35]; rfl
  · rw [← ab, e38]; rfl
  · rw [← ab, e43]; rfl
  · rw [← ab, e44]; rfl
  · rw [← ab, ht r a b]; rfl
def MDE (S : Int → Int) (τ : MS) : Prop := (∃ pk pv, ∀ nm rn tb, FITA nm rn tb τ → ∀ m0 : MK, m0.rt = 0 → m0.ln = 0 → m0.2.2.1 = (pk, pv) → ∃ t x lg m, RM S nm rn tb ([36], advT S 0, (0, 0, 0), qq 0, []) m0 ([], t, x, qq 0, lg) m ∧ ∀ r, 0 ≤ r → r < τ.1 10 → m.2.2.2.2.1 r = (τ.2.1 9 r, rV τ r) ∧ m.2.2.2.2.2 r = τ.2.1 13 r) ∧ (∀ r, 0 ≤ r → r < τ.1 10 → DNR τ r ∧ τ.2.1 17 (12 * r) = 0 ∧ τ.2.1 12 r = τ.2.1 35 r ∧ τ.2.1 11 r = τ.2.1 36 r) ∧ TBQ S τ
theorem MDE.mk {S : Int → Int} {d e τ : MS} (g : GM3 d e) (hS : sv d = S) (e10 : τ.1 10 = e.1 30) (h6 : e.1 30 ≤ 6) (h9 : ∀ j, j < 6 → τ.2.1 9 j = e.2.1 9 j) (hb : ∀ r, 0 ≤ r → r < e.1 30 → e.2.1 9 r ≤ 220) (hi : ∀ x, x < 1320 → IEQ e x τ x) (e35 : τ.2.1 35 = d.2.1 35) (e38 : τ.2.2 38 = d.2.2 38) (e43 : τ.1 43 = d.1 43) (e44 : τ.2.2 44 = d.2.2 44) (h13 : ∀ r, 0 ≤ r → r < τ.1 10 → DN2 e τ r) (dn : ∀ r, 0 ≤ r → r < τ.1 10 → DNR τ r) (tab : ∀ r, 0 ≤ r → r < τ.1 10 → τ.2.1 12 r = τ.2.1 35 r ∧ τ.2.1 11 r = τ.2.1 36 r) (tb9 : TBQ S τ) : MDE S τ := by
  refine ⟨⟨d.1 39, d.1 40, fun nm rn tb f m0 b1 b2 b3 => ?_⟩, fun r a b => ⟨dn r a b, (h13 r a b).2, tab r a b⟩, tb9⟩
  obtain ⟨t, x, lg, m, r1, d1⟩ := g nm rn tb (fun r r0 r6 => f.fit (τ := sS 30 r d) r0 r6 e35.symm e38.symm e43.symm e44.symm) m0 b1 b2 b3
  rw [hS] at r1
  refine ⟨t, x, lg, m, r1, fun r a b => ?_⟩
  have q := d1 r a (by omega)
  have b9 := hb r a (by omega)
  have ev : rV τ r = rV e r := by
    unfold rV
    rw [h9 r (by omega)]
    funext k
    by_cases z : 0 ≤ k ∧ k < e.2.1 9 r
    · rw [if_pos z, if_pos z]
      exact (hi (220 * r + k) (by omega)).ri
    · rw [if_neg z, if_neg z]
  rw [h9 r (by omega), ev, (h13 r a b).1]
  exact q
def RKP (σ τ : MS) : Prop := KPR σ τ ∧ Fr [0, 2, 19, 20, 21, 22, 23, 25, 26, 27, 28, 29, 30, 31, 32, 33, 34, 39, 40, 43] [3, 4, 5, 6, 7, 8, 9, 35, 36, 37, 41, 42, 45] [24, 38, 44] σ τ
def RD6 (S : Int → Int) (σ τ : MS) (v : Int) : Prop := (v = -1 → RKP σ τ) ∧ (v ≠ -1 → MDE S τ ∧ τ.1 67 = 0)
def RD8 (τ : MS) (v : Int) : Prop := v ≠ -1 → ∀ j, 0 ≤ j → j < 6 → τ.2.1 48 j = 0
end
