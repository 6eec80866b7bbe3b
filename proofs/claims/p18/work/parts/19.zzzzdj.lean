section
theorem kv_mid {S : Nat → Prop} {T : CT} {σ σ1 : MS} {a rn : Nat} {C : Int → Nat} {Cn : Int} (h : TGK S T σ a C Cn) (hb : BSQ S T σ a) (hw : WT T σ) (oa : OB T a 11) (ch : CHX [(70, rn), (71, rn)] [] [] σ σ1) : TGK S T σ1 a C Cn ∧ BSQ S T σ1 a := ⟨h.chx hb hw oa ch (fun p hp => by
  simp only [List.mem_cons, List.not_mem_nil, or_false] at hp
  rcases hp with rfl | rfl <;> simp) (fun x hx => absurd hx List.not_mem_nil), (hb.chx hw ch (fun p hp => by
  simp only [List.mem_cons, List.not_mem_nil, or_false] at hp
  rcases hp with rfl | rfl <;> simp [QF]) (fun x hx => absurd hx List.not_mem_nil)).2⟩
section TELS
variable {T T2 : CT} {σ σ1 σ2 τ : MS} {a c q xa xb xc xd xe xf y : Nat} {C : Int → Nat} {k m f v v2 u r n : Int} {R : Int → Int} {d : DT}
theorem tel_one {c : Nat} {q : Int} (hk : TKC σ c R) (eV : vW (cdW σ c) = rV τ q) (en : σ.2.1 6 c = τ.2.1 9 q) (eP : σ.2.1 8 c = τ.2.1 11 q) (eN : σ.2.1 7 c = τ.2.1 12 q) (eH : ∀ i, 0 ≤ i → i < τ.2.1 11 q → rwF σ 15 c i = τ.2.1 18 (144 * q + i)) (hf : (0 ≤ f ∧ f < σ.2.1 10 c) ∧ f < 12) (hm : (0 ≤ m ∧ m < rwF σ 14 c f) ∧ m < 12) (k0 : 0 ≤ k) (k1 : k ≤ τ.2.1 9 q) (ht : TLD τ q k f m d) : VID (rV τ q) (τ.2.1 9 q) (τ.2.1 11 q) (rwF σ 15 c) (if R (k * slF (rwF σ 14 c) (σ.2.1 10 c) + (slF (rwF σ 14 c) f + m)) = 0 then 1 else R (k * slF (rwF σ 14 c) (σ.2.1 10 c) + (slF (rwF σ 14 c) f + m))) ∧ d = decD (rV τ q) (rwF σ 15 c) (if R (k * slF (rwF σ 14 c) (σ.2.1 10 c) + (slF (rwF σ 14 c) f + m)) = 0 then 1 else R (k * slF (rwF σ 14 c) (σ.2.1 10 c) + (slF (rwF σ 14 c) f + m))) := by
  obtain ⟨φ, l, e⟩ := ht
  have z := hk f m hf.1.1 hf.1.2 hm.1.1 hm.1.2
  rw [eV, en, eP, eN] at z
  have bg : bgD (τ.2.1 11 q) (τ.2.1 12 q) (rwF σ 15 c) f m = bgT τ q (12 * f + m) := by
    unfold bgT
    rw [show (12 * f + m) / 12 = f by omega, show (12 * f + m) % 12 = m by omega]
    unfold bgD
    by_cases a : f = 0 ∧ m < τ.2.1 12 q
    · rw [if_pos a, if_pos a]
      by_cases b : m < τ.2.1 11 q
      · rw [if_pos b, if_pos b, eH m hm.1.1 b]
      · rw [if_neg b, if_neg b]
    · rw [if_neg a, if_neg a]
  have z2 := z.2
  rw [bg] at z2
  have dt := z2.det l k0 k1
  have dt : stC (rV τ q) (rwF σ 15 c) (R (k * slF (rwF σ 14 c) (σ.2.1 10 c) + (slF (rwF σ 14 c) f + m))) = φ k := dt
  have zv : R (k * slF (rwF σ 14 c) (σ.2.1 10 c) + (slF (rwF σ 14 c) f + m)) = 0 ∨ VID (rV τ q) (τ.2.1 9 q) (τ.2.1 11 q) (rwF σ 15 c) (R (k * slF (rwF σ 14 c) (σ.2.1 10 c) + (slF (rwF σ 14 c) f + m))) := z.1 k k0 k1
  rw [e, ← dt]
  generalize R (k * slF (rwF σ 14 c) (σ.2.1 10 c) + (slF (rwF σ 14 c) f + m)) = id at *
  by_cases i0 : id = 0
  · rw [if_pos i0, i0]
    exact ⟨Or.inl ⟨by decide, by decide⟩, rfl⟩
  · rw [if_neg i0]
    refine ⟨zv.resolve_left i0, ?_⟩
    unfold stC
    rw [if_neg i0]
    rfl
theorem wo_id {q : Int} {id : Int} (hc : RCX T σ τ a xa xb xc xd xe xf c q) (h : VID (rV τ q) (τ.2.1 9 q) (τ.2.1 11 q) (rwF σ 15 c) id) (hP : τ.2.1 11 q ≤ 4) : jWO T σ c (adN σ 5 c) id = (decD (rV τ q) (rwF σ 15 c) id).1 := by
  unfold jWO decD
  by_cases a : id < 5
  · rw [if_pos a, if_pos a]
  · rw [if_neg a, if_neg a]
    by_cases b : id = 5
    · rw [if_pos (by omega), if_pos b, if_pos b]
    · rw [if_neg b]
      by_cases d : id < 10
      · rw [if_pos d, if_neg b, if_pos d]
      · rw [if_neg d, if_neg b, if_neg d, whD_fst]
        rcases h with h | h | h
        · omega
        · omega
        · rw [hc.g (by omega) (by omega) (by decide), hc.cel (by omega) (by omega) (by decide) (by decide), rv_in (by omega) (by omega)]
theorem wr_s {R : Int → Int} (h : ¬ 2 < d.1) : wrD R d = woD R d.2.1 d.2.2.1 := if_neg h
theorem wr_m {R : Int → Int} (h : 2 < d.1) : wrD R d = wkd (d.1 - 2) (woD R d.2.1 d.2.2.1) (woD R d.2.2.2.1 d.2.2.2.2) := if_pos h
theorem kn_id {w : Int} (e : w = d.1) : jKW w = if d.1 < 10 then 1 else d.1 := by
  unfold jKW
  rw [e]
  by_cases a : 10 ≤ d.1
  · rw [if_pos a, if_neg (by omega)]
  · rw [if_neg a, if_pos (by omega)]
theorem rg_id {rn cc p : Nat} {c9 : Int} (hx : RXC σ rn xa xb xc xd xe C τ) (hl : (T xe).2 = 1728) (e70 : σ.2.1 70 rn = c9) (c0 : 0 ≤ c9) (c1 : c9 < τ.2.1 73 0) {g : Int} (g0 : 0 ≤ g) (g1 : g < 192) : jRG T σ rn xe g = τ.2.1 82 (192 * c9 + g) := by
  have t9 := hx.1.1
  unfold jRG
  rw [e70, w32_id (show -2147483648 ≤ c9 * 192 ∧ c9 * 192 ≤ 2147483647 by omega), w32_id (by omega), jA_in (by omega)]
  exact (hx.2.2.2 c9 c0 c1).2.1 g g0 g1
theorem fv_id {rn : Nat} {q c9 : Int} {id : Int} (hc : RCX T σ τ rn xa xb xc xd xe xf c q) (hx : RXC σ rn xa xb xc xd xe C τ) (hl : (T xe).2 = 1728) (e70 : σ.2.1 70 rn = c9) (c0 : 0 ≤ c9) (c1 : c9 < τ.2.1 73 0) (h : VID (rV τ q) (τ.2.1 9 q) (τ.2.1 11 q) (rwF σ 15 c) id) (w : WHO (rV τ q) (τ.2.1 9 q)) (hP : τ.2.1 11 q ≤ 4) (hH : ∀ i, 0 ≤ i → i < τ.2.1 11 q → 0 ≤ rwF σ 15 c i ∧ rwF σ 15 c i < 192) : jFV T σ rn c (adN σ 5 c) (adN σ 15 c) xe id = if (decD (rV τ q) (rwF σ 15 c) id).1 < 10 then wrD (fun g => τ.2.1 82 (192 * c9 + g)) (decD (rV τ q) (rwF σ 15 c) id) else 0 := by
  have ew := wo_id hc h hP
  have l15 := hc.2.2.2.2.1.2.2
  unfold jFV
  rw [ew]
  generalize hd : decD (rV τ q) (rwF σ 15 c) id = d
  by_cases a : 10 ≤ d.1
  · rw [if_pos a, if_neg (show ¬ d.1 < 10 by omega)]
  rw [if_neg a, if_pos (show d.1 < 10 by omega)]
  -- which number
  by_cases i5 : id < 5
  · have z : d = (10 + id, 0, 0, 0, 0) := by rw [← hd]; unfold decD; rw [if_pos i5]
    rw [z] at a
    rcases h with h | h | h
    · have a : ¬ 10 ≤ 10 + id := a
      omega
    · omega
    · omega
  by_cases e5 : id = 5
  · have z : d = (1, 1, 0, 0, 0) := by rw [← hd]; unfold decD; rw [if_neg i5, if_pos e5]
    rw [z]
    show (if (1 : Int) = 1 then jPT T σ c (adN σ 5 c) (adN σ 15 c) id 4 else _) = _
    rw [if_pos rfl]
    unfold jPT
    rw [if_neg (by omega), if_neg (by omega)]
    rfl
  by_cases i10 : id < 10
  · have z : d = (2, 2, rwF σ 15 c (id - 6), 0, 0) := by rw [← hd]; unfold decD; rw [if_neg i5, if_neg e5, if_pos i10]
    have r4 : 0 ≤ id - 6 ∧ id - 6 < τ.2.1 11 q := by
      rcases h with h | h | h
      · omega
      · omega
      · omega
    have g := hH (id - 6) r4.1 r4.2
    have pt : jPT T σ c (adN σ 5 c) (adN σ 15 c) id 4 = rwF σ 15 c (id - 6) := by
      unfold jPT
      rw [if_neg (by omega), if_pos (by omega), jA_in (by omega), show 0 * 12 + (id - 6) = id - 6 by omega]
      rfl
    rw [z]
    show (if (2 : Int) = 1 then jPT T σ c (adN σ 5 c) (adN σ 15 c) id 4 else if (2 : Int) = 2 then jRG T σ rn xe (jPT T σ c (adN σ 5 c) (adN σ 15 c) id 4) else _) = τ.2.1 82 (192 * c9 + rwF σ 15 c (id - 6))
    rw [if_neg (by decide), if_pos rfl, pt]
    exact rg_id hx hl e70 c0 c1 g.1 g.2 (cc := 0) (p := 0)
  · have hb : (10 ≤ id ∧ id < 10 + τ.2.1 9 q) ∧ CBI (rV τ q) (τ.2.1 11 q) (rwF σ 15 c) (id - 10) := by
      rcases h with h | h | h
      · omega
      · omega
      · exact h
    have k0 : 0 ≤ id - 10 := by omega
    have k1 : id - 10 < τ.2.1 9 q := by omega
    have z : d = whD (rV τ q (id - 10)) := by rw [← hd]; unfold decD; rw [if_neg i5, if_neg e5, if_neg i10]
    have w1 := (w (id - 10) k0 k1 hb.2.1).1
    have w2 := (w (id - 10) k0 k1 hb.2.1).2
    have w7 := hb.2.2.1
    have cel : ∀ e, 0 ≤ e → e ≤ 12 → e ≠ 3 → e ≠ 12 → jPT T σ c (adN σ 5 c) (adN σ 15 c) id e = rV τ q (id - 10) e := fun e e0 e1 e3 e12 => by
      unfold jPT
      rw [if_pos (by omega), hc.g k0 k1 ⟨e0, e1⟩, hc.cel k0 k1 e3 e12, rv_in k0 k1]
    have c4 := cel 4 (by decide) (by decide) (by decide) (by decide)
    have c5 := cel 5 (by decide) (by decide) (by decide) (by decide)
    have c6 := cel 6 (by decide) (by decide) (by decide) (by decide)
    -- the cells' ranges
    have ok := hc.2.2.1.1 (id - 10) k0 (by rw [hc.n]; exact k1)
    have e0 : cdW σ c (id - 10) 0 = rV τ q (id - 10) 0 := by rw [hc.cel k0 k1 (by decide) (by decide), rv_in k0 k1]
    have e11 : cdW σ c (id - 10) 11 = rV τ q (id - 10) 11 := by rw [hc.cel k0 k1 (by decide) (by decide), rv_in k0 k1]
    have e4 : cdW σ c (id - 10) 4 = rV τ q (id - 10) 4 := by rw [hc.cel k0 k1 (by decide) (by decide), rv_in k0 k1]
    have e5' : cdW σ c (id - 10) 5 = rV τ q (id - 10) 5 := by rw [hc.cel k0 k1 (by decide) (by decide), rv_in k0 k1]
    have e6 : cdW σ c (id - 10) 6 = rV τ q (id - 10) 6 := by rw [hc.cel k0 k1 (by decide) (by decide), rv_in k0 k1]
    have b12 : cdW σ c (id - 10) 0 = 12 := by rw [e0]; exact hb.2.1
    have d1 : d.1 = rV τ q (id - 10) 11 := by rw [z, whD_fst]
    rw [d1]
    by_cases q1 : rV τ q (id - 10) 11 = 1
    · have y : ¬ rV τ q (id - 10) 3 = 2 := by have := w2 (Or.inl q1); omega
      rw [if_pos q1, c4, z, whD_s (by omega), wr_s (by show ¬ 2 < rV τ q (id - 10) 11; omega)]
      exact (if_neg y : woD (fun g => τ.2.1 82 (192 * c9 + g)) (rV τ q (id - 10) 3) (rV τ q (id - 10) 4) = rV τ q (id - 10) 4).symm
    rw [if_neg q1]
    by_cases q2 : rV τ q (id - 10) 11 = 2
    · have g4 := (ok.2.2.2.2 b12 (by rw [e11]; exact Or.inr q2)).2.2.2 (by rw [e11]; exact q2)
      have y : rV τ q (id - 10) 3 = 2 := by have := w2 (Or.inr q2); omega
      rw [if_pos q2, c4, z, whD_s (by omega), wr_s (by show ¬ 2 < rV τ q (id - 10) 11; omega)]
      exact (rg_id hx hl e70 c0 c1 (by rw [← e4]; exact g4.1) (by rw [← e4]; exact g4.2) (cc := 0) (p := 0)).trans (if_pos y : woD (fun g => τ.2.1 82 (192 * c9 + g)) (rV τ q (id - 10) 3) (rV τ q (id - 10) 4) = τ.2.1 82 (192 * c9 + rV τ q (id - 10) 4)).symm
    · rw [if_neg q2]
      have w3 : 3 ≤ rV τ q (id - 10) 11 ∧ rV τ q (id - 10) 11 ≤ 7 := by omega
      have o0 := ok.2.2.1 0 (by decide) (by decide)
      have o1 := ok.2.2.1 1 (by decide) (by decide)
      have c3 : jPT T σ c (adN σ 5 c) (adN σ 15 c) id 3 = rV τ q (id - 10) 3 := by
        unfold jPT
        rw [if_pos (by omega), hc.g k0 k1 (by decide)]
        have nv := hc.v k0 k1
        rw [← rv_in k0 k1] at nv
        rw [← nv]
        show cdW σ c (id - 10) 3 = nrm (cdW σ c (id - 10)) 3
        unfold nrm
        rw [if_neg (fun z9 => by have y9 := z9.2.2; rw [e11] at y9; omega), if_neg (by decide)]
      have or1 : jOR T σ rn xe (rV τ q (id - 10) 3) (rV τ q (id - 10) 4) = woD (fun g => τ.2.1 82 (192 * c9 + g)) (rV τ q (id - 10) 3) (rV τ q (id - 10) 4) := by
        unfold jOR woD
        by_cases y : rV τ q (id - 10) 3 = 2
        · rw [if_pos y, if_pos y]
          have g := o0.2 (by have z9 := c3; unfold jPT at z9; rw [if_pos (by omega), hc.g k0 k1 (by decide)] at z9; show cdW σ c (id - 10) 3 = 2; rw [z9]; exact y)
          exact rg_id hx hl e70 c0 c1 (by rw [← e4]; exact g.1) (by rw [← e4]; exact g.2) (cc := 0) (p := 0)
        · rw [if_neg y, if_neg y]
      have or2 : jOR T σ rn xe (rV τ q (id - 10) 5) (rV τ q (id - 10) 6) = woD (fun g => τ.2.1 82 (192 * c9 + g)) (rV τ q (id - 10) 5) (rV τ q (id - 10) 6) := by
        unfold jOR woD
        by_cases y : rV τ q (id - 10) 5 = 2
        · rw [if_pos y, if_pos y]
          have g := o1.2 (by show cdW σ c (id - 10) 5 = 2; rw [e5']; exact y)
          exact rg_id hx hl e70 c0 c1 (by rw [← e6]; exact g.1) (by rw [← e6]; exact g.2) (cc := 0) (p := 0)
        · rw [if_neg y, if_neg y]
      rw [c3, c4, c5, c6, or1, or2, w32_id (by omega), z, whD_m (by omega) (by omega), wr_m (by show 2 < rV τ q (id - 10) 11; omega)]
      unfold rkn
      rw [if_pos (by omega)]
end TELS
end
