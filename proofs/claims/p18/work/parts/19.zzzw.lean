section
section KOKS
variable {S : Nat → Prop} {T T2 : CT} {σ σ2 τ τ2 : MS} {a c : Nat} {C E M : Int → Nat} {r : Int}
theorem cda_it {k : Int} (h : cdS σ c = rS τ r) (k0 : 0 ≤ k) (k1 : k < τ.2.1 9 r) : nrm (cdW σ c k) = rI τ (220 * r + k) := by
  have z : vW (cdW σ c) k = rV τ r k := congrFun (congrArg RTS.V h) k
  rw [rv_in k0 k1] at z
  exact z
theorem cdg_of (hs : cdS σ c = rS τ r) (h7 : σ.2.1 7 c = τ.2.1 12 r) (h8 : σ.2.1 8 c = τ.2.1 11 r) (hw : WOK (cdW σ c) (σ.2.1 6 c)) (hl : LNK (cdW σ c) (σ.2.1 6 c)) (hn : RN9 σ c (τ.2.1 12)) (g : GDR τ r) (np : 0 ≤ τ.2.1 11 r ∧ τ.2.1 11 r ≤ 4) (nn : τ.2.1 12 r ≤ 12) (un : UNQ (rV τ r) (τ.2.1 9 r)) (rz : RZA (rV τ r)) : cdG σ c (τ.2.1 12) (τ.1 10) ∧ GNK (cdW σ c) (σ.2.1 6 c) := by
  have e6 : σ.2.1 6 c = τ.2.1 9 r := congrArg RTS.n hs
  have e10 : σ.2.1 10 c = τ.2.1 14 r := congrArg RTS.F hs
  have eV : vW (cdW σ c) = rV τ r := congrArg RTS.V hs
  have e11 : ∀ f, 0 ≤ f → f < τ.2.1 14 r → rwF σ 11 c f = τ.2.1 15 (12 * r + f) := fun f x y => by
    have z : (if 0 ≤ f ∧ f < σ.2.1 10 c then rwF σ 11 c f else 0) = if 0 ≤ f ∧ f < τ.2.1 14 r then τ.2.1 15 (12 * r + f) else 0 := congrFun (congrArg RTS.fo hs) f
    rw [e10, if_pos ⟨x, y⟩, if_pos ⟨x, y⟩] at z
    exact z
  have e12 : ∀ f, 0 ≤ f → f < τ.2.1 14 r → rwF σ 12 c f = τ.2.1 16 (12 * r + f) := fun f x y => by
    have z : (if 0 ≤ f ∧ f < σ.2.1 10 c then rwF σ 12 c f else 0) = if 0 ≤ f ∧ f < τ.2.1 14 r then τ.2.1 16 (12 * r + f) else 0 := congrFun (congrArg RTS.fi hs) f
    rw [e10, if_pos ⟨x, y⟩, if_pos ⟨x, y⟩] at z
    exact z
  have e14 : ∀ f, 0 ≤ f → f < τ.2.1 14 r → τ.2.1 12 (τ.2.1 15 (12 * r + f)) = rwF σ 14 c f := fun f x y => by
    have q := (hn f x (by rw [e10]; exact y)).2
    rw [e11 f x y] at q
    exact q
  have e15 : ∀ f m, 0 ≤ f → f < τ.2.1 14 r → 0 ≤ m → m < rwF σ 14 c f → rwF σ 15 c (12 * f + m) = τ.2.1 18 (144 * r + 12 * f + m) := fun f m x y m0 m1 => by
    have z : (if (0 ≤ f ∧ f < σ.2.1 10 c) ∧ 0 ≤ m ∧ m < rwF σ 14 c f then rwF σ 15 c (12 * f + m) else 0) = if (0 ≤ f ∧ f < τ.2.1 14 r) ∧ 0 ≤ m ∧ m < τ.2.1 12 (τ.2.1 15 (12 * r + f)) then τ.2.1 18 (144 * r + 12 * f + m) else 0 := congrFun (congrFun (congrArg RTS.na hs) f) m
    rw [e10, e14 f x y, if_pos ⟨⟨x, y⟩, m0, m1⟩, if_pos ⟨⟨x, y⟩, m0, m1⟩] at z
    exact z
  have it : ∀ k, 0 ≤ k → k < τ.2.1 9 r → ∀ q, q ≠ 3 → q ≠ 12 → cdW σ c k q = rI τ (220 * r + k) q := fun k x y q u v => by rw [← cda_it hs x y]; exact (nrm_ne u v).symm
  have i3 : ∀ k, 0 ≤ k → k < τ.2.1 9 r → (cdW σ c k 0 ≠ 12 ∨ 10 ≤ cdW σ c k 11) → cdW σ c k 3 = τ.2.1 7 (4 * (220 * r + k) + 0) := fun k x y h => by
    have z := congrFun (cda_it hs x y) 3
    have z2 : nrm (cdW σ c k) 3 = cdW σ c k 3 := by
      unfold nrm
      rw [if_neg (fun q => by
        rcases h with h | h
        · exact h q.2.1
        · have := q.2.2; omega), if_neg (by decide)]
    rw [z2] at z
    exact z
  have k0 : ∀ k, 0 ≤ k → k < τ.2.1 9 r → cdW σ c k 0 = τ.2.1 3 (220 * r + k) := fun k x y => it k x y 0 (by decide) (by decide)
  have k1 : ∀ k, 0 ≤ k → k < τ.2.1 9 r → cdW σ c k 1 = τ.2.1 4 (220 * r + k) := fun k x y => it k x y 1 (by decide) (by decide)
  have k2 : ∀ k, 0 ≤ k → k < τ.2.1 9 r → cdW σ c k 2 = τ.2.1 5 (220 * r + k) := fun k x y => it k x y 2 (by decide) (by decide)
  have k5 : ∀ k, 0 ≤ k → k < τ.2.1 9 r → cdW σ c k 5 = τ.2.1 7 (4 * (220 * r + k) + 1) := fun k x y => it k x y 5 (by decide) (by decide)
  have k11 : ∀ k, 0 ≤ k → k < τ.2.1 9 r → cdW σ c k 11 = τ.2.1 6 (220 * r + k) := fun k x y => it k x y 11 (by decide) (by decide)
  have na : ∀ k, 0 ≤ k → k < τ.2.1 9 r → nArgs τ (220 * r + k) = 0 → ∀ i, 0 ≤ i → i < 4 → τ.2.1 7 (4 * (220 * r + k) + i) ≠ 2 := fun k x y h i i0 i1 e => by
    have z := ((g.2.2.1 k x y).2.2.2.2.2.2.2.1 i i0 i1).2 e
    rw [h] at z
    omega
  obtain ⟨fr, lf, cw⟩ := g.2.2.2.2.2.1
  have g1 := g.1
  have g14 := g.2.1.1
  have h6 : ∀ k, k < σ.2.1 6 c → k < τ.2.1 9 r := fun k y => by rw [← e6]; exact y
  have hf : ∀ f, f < σ.2.1 10 c → f < τ.2.1 14 r := fun f y => by rw [← e10]; exact y
  have hh : cdH σ c (τ.2.1 12) (τ.1 10) := by
    refine ⟨by rw [e6]; omega, by rw [e10]; exact g14, fun k x y => ?_, fun f m x y m0 m1 => ?_, fun f x y => hn f x y, fun k x y z => ?_, by rw [eV, e6]; exact cl_rs g, fun f x y => ?_⟩
    · have y := h6 k y
      have ok := g.2.2.1 k x y
      refine ⟨hw k x (by rw [e6]; exact y), fun h => ?_, fun h => ?_, fun h => ?_, fun q h => if_neg (fun w => h w.2)⟩
      · rw [k0 k x y] at h
        rw [k1 k x y, e10]
        have l := g.2.2.2.2.2.2.2.1 k x y h
        have z := (ok.2.2.1 h).1
        omega
      · rw [k0 k x y] at h
        rw [k2 k x y, e10]
        exact ok.2.2.2.2.2.1 h
      · rw [k0 k x y] at h
        rw [k1 k x y, e10]
        exact ok.2.2.2.1 h
    · have y := hf f y
      rw [e15 f m x y m0 m1]
      rw [← e14 f x y] at m1
      exact (g.2.1.2 f x y).2 m m0 m1
    · have y := h6 k y
      rw [eV] at z ⊢
      have z2 : τ.2.1 3 (220 * r + k) = 10 := by
        rw [rv_at x y] at z
        exact z
      obtain ⟨-, j, j0, j1, j2, -, j3⟩ := cw.2.2.2.2 k x y z2
      refine ⟨j, j0, j1, ?_, fun i i0 i1 => ?_⟩
      · rw [rv_at j0 (by omega)]; exact j2
      · rw [rv_at (by omega) (by omega)]; exact j3 i i0 i1
    · have y := hf f y
      rw [e12 f x y, e10]
      have fi := g.2.2.2.2.2.2.1
      by_cases z : f = 0
      · rw [z, fi.1]; omega
      · have w := fi.2 f (by omega) y
        omega
  refine ⟨⟨hh, fun j x y => ?_, fun k x y h => ?_, hl, by rw [eV, e6]; exact un, ⟨⟨by rw [h8]; exact np.1, by rw [h8]; exact np.2, by rw [h8, h7]; exact g.2.2.2.2.2.2.2.2⟩, by rw [h7]; exact nn⟩, ?_⟩, fun k x y h h2 => ?_⟩
  · have y := h6 j y
    have z := rz j
    rw [← eV] at z
    intro h
    have n : ∀ q, q ≠ 3 → q ≠ 12 → vW (cdW σ c) j q = cdW σ c j q := fun q u v => vW_ne u v
    have w := z (by rw [n 0 (by decide) (by decide)]; exact h)
    rw [n 2 (by decide) (by decide), n 5 (by decide) (by decide), n 6 (by decide) (by decide), n 7 (by decide) (by decide), n 8 (by decide) (by decide), n 9 (by decide) (by decide), n 10 (by decide) (by decide), n 11 (by decide) (by decide)] at w
    exact w
  · have y := h6 k y
    have h3 := h
    rw [k0 k x y] at h3
    have a0 : nArgs τ (220 * r + k) = 0 := by
      unfold nArgs
      rw [if_neg (by omega), if_neg (by omega), if_neg (by omega), if_neg (by omega)]
    exact ⟨by rw [i3 k x y (Or.inl (by omega))]; exact na k x y a0 0 (by decide) (by decide), by rw [k5 k x y]; exact na k x y a0 1 (by decide) (by decide)⟩
  · have z := e14 0 (Int.le_refl _) (by omega)
    have f0 : τ.2.1 15 (12 * r + 0) = r := g.2.2.2.1
    rw [f0] at z
    rw [← z, h7]
  · have y := h6 k y
    have h3 := h
    have h4 := h2
    rw [k0 k x y] at h3
    rw [k11 k x y] at h4
    have a0 : nArgs τ (220 * r + k) = 0 := by
      unfold nArgs
      rw [if_neg (by omega), if_pos h3, if_pos h4]
    exact ⟨by rw [i3 k x y (Or.inr h2)]; exact na k x y a0 0 (by decide) (by decide), by rw [k5 k x y]; exact na k x y a0 1 (by decide) (by decide)⟩
theorem kok_of (hK : KB6 S T σ a C E M) (e97 : σ.2.1 97 a = τ.1 10) (g : GDA τ) (np : PAR τ) (nn : NAM τ) (hA : CDA σ τ C) (hB : CDB τ) : KOK S T σ a C (τ.2.1 12) (τ.2.1 11) := by
  have g6 := g.1
  refine ⟨hK.1.1.1, hK.1.1.2.1, ⟨by rw [e97]; exact g6, fun q x y => (hK.1.2.1 q x y).1, fun p q a1 a2 b1 b2 e => (hK.1.2.2.1 p q a1 a2 b1 b2).1 e⟩, fun q x y => ?_⟩
  rw [e97] at y
  obtain ⟨⟨a1, a2, a3, -⟩, a4, a5, a6⟩ := hA q x y
  have B := hB q x y
  have z := cdg_of a1 a2 a3 a4 a5 a6 (g.2 q x y) (np q x (by omega)) (nn q x (by omega)).2 B.1 B.2
  rw [e97]
  exact ⟨z.1, z.2, a3.symm, a2.symm⟩
theorem KB6.pass (h : KB6 S T σ a C E M) (oa : OB T a 11) (hw : WT T σ) (fr : FrC T [5, 6, 10, 22, 25, 26, 27, 28, 29, 30, 31, 32, 56, 80] σ σ2) (pf : PFR S T σ σ2 c) (hI : INJ S T2 σ2) (gt : GT T T2) (h5 : σ2.2.1 5 c = σ.2.1 5 c ∨ ¬ ((T (adN σ2 5 c)).1 ≠ 0 ∧ (T (adN σ2 5 c)).1 < 80)) : KB6 S T2 σ2 a C E M := by
  have ff : ∀ f : Nat, f < 200 → f ∉ [5, 6, 10, 22, 25, 26, 27, 28, 29, 30, 31, 32, 56, 80] → σ2.2.1 f = σ.2.1 f := fun f h1 h2 => fr.1 f (Or.inl h1) h2
  have ad : ∀ (f : Nat) (b : Nat), f < 200 → f ∉ [5, 6, 10, 22, 25, 26, 27, 28, 29, 30, 31, 32, 56, 80] → adN σ2 f b = adN σ f b := fun f b h1 h2 => by unfold adN; rw [ff f h1 h2]
  have h9 : σ2.2.1 900 = σ.2.1 900 := fr.1 900 (Or.inr rfl) (by decide)
  have xs := KEM.xs hw oa
  have old : ∀ b, S b → T2 b = T b := fun b sb => by
    have z := h.1.1.1.1 b sb
    exact gt b (by omega) (by omega)
  have tt : ∀ b, (T b).1 ≠ 0 → (T b).1 < 80 → T2 b = T b := fun b z1 z2 => gt b z1 z2
  have sp := h.1.1.2.2
  refine ⟨h.1.mv gt hI ?_ ?_ ?_ ?_ ?_, ⟨hI, ?_, ?_, ?_⟩, ?_⟩
  · refine ⟨sp.1, fun q x y => ?_, sp.2.2⟩
    have z := sp.2.1 q x y
    rw [ad 34 _ (by decide) (by decide), pf.2.2.2 _ (Or.inl xs.1)]
    exact ⟨z.1, z.2.1, by rw [old _ z.2.1]; exact z.2.2⟩
  · intro f hf
    rw [ff f (by simp only [List.mem_cons, List.not_mem_nil, or_false] at hf; omega) (by simp only [List.mem_cons, List.not_mem_nil, or_false] at hf ⊢; omega)]
  · intro f b hf
    rw [ff f (by simp only [List.mem_cons, List.not_mem_nil, or_false] at hf; omega) (by simp only [List.mem_cons, List.not_mem_nil, or_false] at hf ⊢; omega)]
  · exact pf.2.2.2 _ (Or.inl xs.2.1)
  · exact pf.2.2.2 _ (Or.inr (Or.inl xs.2.2.1))
  · intro i t i0 i6 e f b hf sb ob
    rw [h9] at e
    have ob' : OB T b (cls f) := by unfold OB at *; rw [old b sb] at ob; exact ob
    have t1 := tb_tag hw i0 i6 e
    by_cases q : f = 5 ∧ b = c
    · rcases h5 with h5 | h5
      · have z := h.2.1.2.1 i t i0 i6 e f b hf sb ob'
        rw [q.1, q.2] at z ⊢
        unfold adN at z ⊢
        rw [h5]
        exact z
      · rw [q.1, q.2]
        intro e9
        rw [← e9, t1] at h5
        exact h5 ⟨by decide, by decide⟩
    · have z := h.2.1.2.1 i t i0 i6 e f b hf sb ob'
      unfold adN at z ⊢
      rw [pf.2.1 f b hf q]
      exact z
  · rw [ad 102 a (by decide) (by decide)]
    exact h.2.1.2.2.1
  · intro p hp
    rw [ff 110 (by decide) (by decide)] at hp
    rw [ad 0 p (by decide) (by decide), ad 1 p (by decide) (by decide)]
    exact h.2.1.2.2.2 p hp
  · rw [ad 103 a (by decide) (by decide)]
    exact h.2.2
end KOKS
section MLCG
variable {r Cn : Int} {Gs Gt : Int → RTS} {PM NM : Int → Int}
theorem MLP.cong {H H' : RTS} {k k' d : Int} (hq : H.V k 0 = 10 → Gs (H.V k 2) = Gt (H.V k 2)) (h : MLP r Gs PM NM H k H' k' d) : MLP r Gt PM NM H k H' k' d := by
  by_cases z : H.V k 0 = 10
  · unfold MLP MLD at h ⊢
    rw [← hq z]
    exact h
  · rcases h with ⟨base, lb, lq, j0, m, -⟩ | ⟨-, h⟩
    · exact absurd m.1 z
    · exact Or.inr ⟨fun m => z m.1, h⟩
theorem MLR.cong {t : Nat} {H H' : RTS} {k k' w : Int} (h : MLR r Gs PM NM t H k H' k' w) (k0 : 0 ≤ k) (u : UNQ H.V H.n) (c : CLQ H.V H.n Cn) (hg : ∀ q, 0 ≤ q → q < Cn → 0 ≤ (Gs q).n ∧ UNQ (Gs q).V (Gs q).n ∧ LZ (Gs q).V (Gs q).n) (e : ∀ q, 0 ≤ q → q < Cn → Gs q = Gt q) : MLR r Gt PM NM t H k H' k' w := by
  induction t generalizing H' k' w with
  | zero => exact h
  | succ t ih =>
    obtain ⟨H1, k1, w1, d, h1, h2, h3, h4⟩ := h
    have i := h1.un k0 u c hg
    refine ⟨H1, k1, w1, d, ih h1, h2, h3.cong (fun z => ?_), h4⟩
    have q := i.2.2 k1 i.1 h2 z
    exact e _ q.1 q.2
theorem PSV.cong {w v : Int} {H H' : RTS} (h : PSV w r Gs PM NM H H' v) (u : UNQ H.V H.n) (c : CLQ H.V H.n Cn) (hg : ∀ q, 0 ≤ q → q < Cn → 0 ≤ (Gs q).n ∧ UNQ (Gs q).V (Gs q).n ∧ LZ (Gs q).V (Gs q).n) (e : ∀ q, 0 ≤ q → q < Cn → Gs q = Gt q) : PSV w r Gt PM NM H H' v := by
  rcases h with h | h | h | h | ⟨w4, t, h⟩ | h
  · exact Or.inl h
  · exact Or.inr (Or.inl h)
  · exact Or.inr (Or.inr (Or.inl h))
  · exact Or.inr (Or.inr (Or.inr (Or.inl h)))
  · exact Or.inr (Or.inr (Or.inr (Or.inr (Or.inl ⟨w4, t, h.cong (Int.le_refl 0) u c hg e⟩))))
  · exact Or.inr (Or.inr (Or.inr (Or.inr (Or.inr h))))
end MLCG
section PAS6
variable {S : Nat → Prop} {T T2 : CT} {σ σ2 τ τ2 : MS} {a : Nat} {C E M : Int → Nat} {r w u v : Int}
theorem pass_6 (hK : KB6 S T σ a C E M) (oa : OB T a 11) (hw : WT T σ) (e97 : σ.2.1 97 a = τ.1 10) (g : GDA τ) (hA : CDA σ τ C) (hB : CDB τ) (fr : FrC T [5, 6, 10, 22, 25, 26, 27, 28, 29, 30, 31, 32, 56, 80] σ σ2) (h : PAC S T σ T2 σ2 a C (τ.2.1 12) (τ.2.1 11) w r u) (q : PSQ τ τ2 w r v) (e10 : τ2.1 10 = τ.1 10) (e11 : τ2.2.1 11 = τ.2.1 11) (e12 : τ2.2.1 12 = τ.2.1 12) (e13 : τ2.2.1 13 = τ.2.1 13) : u = v ∧ KB6 S T2 σ2 a C E M ∧ CDA σ2 τ2 C ∧ CDB τ2 := by
  have g6 := g.1
  rcases h with ⟨n1, rfl, rfl, rfl⟩ | ⟨y1, p1, pf, hI, gt, p4, p5, p6, p7, p8, -⟩
  · rcases q with ⟨-, rfl, e⟩ | ⟨m1, -⟩
    · have e9 : ∀ j, τ2.2.1 9 j = τ.2.1 9 j ∧ rV τ2 j = rV τ j := fun j => ⟨congrArg RTS.n (e j), congrArg RTS.V (e j)⟩
      refine ⟨rfl, hK, fun j x y => ?_, fun j x y => ?_⟩
      · rw [e10] at y
        have z := hA j x y
        rw [e j, e11, e12, e13]
        exact z
      · rw [e10] at y
        rw [(e9 j).1, (e9 j).2]
        exact hB j x y
    · exact absurd (show (0 ≤ w ∧ w ≤ 5) ∧ 0 ≤ r ∧ r < σ2.2.1 97 a by rw [e97]; omega) n1
  · rcases q with ⟨m1, -⟩ | ⟨m1, px, po⟩
    · rw [e97] at y1
      exact absurd (show 0 ≤ w ∧ w ≤ 5 ∧ 0 ≤ r ∧ r < τ.1 10 by omega) m1
    · have r0 := m1.2.2.1
      have r1 := m1.2.2.2
      have gr := g.2 r r0 r1
      have un : UNA τ := fun j x y => (hB j x y).1
      have hg : ∀ j, 0 ≤ j → j < τ.1 10 → 0 ≤ (rS τ j).n ∧ UNQ (rS τ j).V (rS τ j).n ∧ LZ (rS τ j).V (rS τ j).n := fun j x y => ⟨by show 0 ≤ τ.2.1 9 j; have := (g.2 j x y).1; omega, un j x y, lz_rs (g.2 j x y)⟩
      have p1' := p1
      rw [(hA r r0 r1).1.1] at p1'
      have pc := p1'.cong (Gt := rS τ) (Cn := τ.1 10) (un r r0 r1) (cl_rs gr) (fun j x y => by
        have z := hg j x y
        rw [← (hA j x y).1.1] at z
        exact z) (fun j x y => (hA j x y).1.1)
      have d := PSV.det (rg_rs gr) pc px
      have sc := (hK.co r0 (show r < 6 by omega))
      have kb := hK.pass oa hw fr pf hI gt p8
      have old : ∀ j, 0 ≤ j → j < τ.1 10 → j ≠ r → CSM σ σ2 (C j) := fun j x y n => pf.1 (C j) (hK.co x (by omega)).1 (ob50 (hK.co x (by omega)).2) (fun e => n ((hK.1.2.2.1 j r x (by omega) r0 (by omega)).1 e))
      refine ⟨d.2, kb, fun j x y => ?_, fun j x y => ?_⟩
      · rw [e10] at y
        rw [e11, e12, e13]
        by_cases z : j = r
        · subst z
          have A := hA j x y
          exact ⟨⟨d.1, (pf.2.2.1 7 (by decide)).trans A.1.2.1, (pf.2.2.1 8 (by decide)).trans A.1.2.2.1, (pf.2.2.1 9 (by decide)).trans A.1.2.2.2⟩, p4, p5, p7⟩
        · have A := hA j x y
          have cs := old j x y z
          have c6 := cs.1 6 (by decide) (by decide)
          refine ⟨⟨by rw [cs.s, po j x y z]; exact A.1.1, (cs.1 7 (by decide) (by decide)).trans A.1.2.1, (cs.1 8 (by decide) (by decide)).trans A.1.2.2.1, (cs.1 9 (by decide) (by decide)).trans A.1.2.2.2⟩, by rw [cs.w, c6]; exact A.2.1, by rw [cs.w, c6]; exact A.2.2.1, ?_⟩
          have n9 := A.2.2.2
          unfold RN9 at n9 ⊢
          rw [cs.1 10 (by decide) (by decide), cs.rw (f := 11) (by decide) (by decide) (by decide), cs.rw (f := 14) (by decide) (by decide) (by decide)]
          exact n9
      · rw [e10] at y
        by_cases z : j = r
        · subst z
          have z1 := px.un (C := τ.1 10) (by show 0 ≤ τ.2.1 9 j; have := gr.1; omega) (un j x y) (cl_rs gr) hg
          exact ⟨z1, px.rz (hB j x y).2⟩
        · have e := po j x y z
          rw [show τ2.2.1 9 j = τ.2.1 9 j from congrArg RTS.n e, show rV τ2 j = rV τ j from congrArg RTS.V e]
          exact hB j x y
theorem quiet_6 (hA : CDA σ τ C) (hB : CDB τ) (t6 : τ.1 10 ≤ 6) (hc : ∀ j, 0 ≤ j → j < 6 → CSM σ σ2 (C j)) (e : ∀ j, rS τ2 j = rS τ j) (e10 : τ2.1 10 = τ.1 10) (e11 : τ2.2.1 11 = τ.2.1 11) (e12 : τ2.2.1 12 = τ.2.1 12) (e13 : τ2.2.1 13 = τ.2.1 13) : CDA σ2 τ2 C ∧ CDB τ2 := by
  refine ⟨fun j x y => ?_, fun j x y => ?_⟩
  · rw [e10] at y
    have A := hA j x y
    have cs := hc j x (by omega)
    have c6 := cs.1 6 (by decide) (by decide)
    rw [e j, e11, e12, e13]
    refine ⟨⟨by rw [cs.s]; exact A.1.1, (cs.1 7 (by decide) (by decide)).trans A.1.2.1, (cs.1 8 (by decide) (by decide)).trans A.1.2.2.1, (cs.1 9 (by decide) (by decide)).trans A.1.2.2.2⟩, by rw [cs.w, c6]; exact A.2.1, by rw [cs.w, c6]; exact A.2.2.1, ?_⟩
    have n9 := A.2.2.2
    unfold RN9 at n9 ⊢
    rw [cs.1 10 (by decide) (by decide), cs.rw (f := 11) (by decide) (by decide) (by decide), cs.rw (f := 14) (by decide) (by decide) (by decide)]
    exact n9
  · rw [e10] at y
    rw [show τ2.2.1 9 j = τ.2.1 9 j from congrArg RTS.n (e j), show rV τ2 j = rV τ j from congrArg RTS.V (e j)]
    exact hB j x y
theorem RTA.one {Cn P N L : Int} {H : RTS} {NM : Int → Int} (h : RTA Cn H P N L NM r w u) (g : RTA Cn H P N L NM r w v) : u = v := by
  rcases h with ⟨h1, rfl⟩ | ⟨h1, h⟩ <;> rcases g with ⟨g1, rfl⟩ | ⟨g1, g⟩
  · rfl
  · exact absurd g1 h1
  · exact absurd h1 g1
  · rcases h with ⟨a1, rfl⟩ | ⟨a1, rfl⟩ | ⟨a1, rfl⟩ | ⟨a1, rfl⟩ | ⟨a1, a2⟩ | ⟨a1, rfl⟩ | ⟨a1, rfl⟩ | ⟨a1, rfl⟩ | ⟨a1, rfl⟩ <;> rcases g with ⟨b1, rfl⟩ | ⟨b1, rfl⟩ | ⟨b1, rfl⟩ | ⟨b1, rfl⟩ | ⟨b1, b2⟩ | ⟨b1, rfl⟩ | ⟨b1, rfl⟩ | ⟨b1, rfl⟩ | ⟨b1, rfl⟩ <;> first
      | rfl
      | omega
      | exact a2.det b2
theorem FRA.one {Cn f : Int} {H : RTS} (h : FRA Cn H r f w u) (g : FRA Cn H r f w v) : u = v := by
  rcases h with ⟨h1, rfl⟩ | ⟨h1, h⟩ <;> rcases g with ⟨g1, rfl⟩ | ⟨g1, g⟩
  · rfl
  · exact absurd g1 h1
  · exact absurd h1 g1
  · rcases h with ⟨a1, rfl⟩ | ⟨a1, rfl⟩ | ⟨a1, rfl⟩ | ⟨a1, rfl⟩ <;> rcases g with ⟨b1, rfl⟩ | ⟨b1, rfl⟩ | ⟨b1, rfl⟩ | ⟨b1, rfl⟩ <;> first
      | rfl
      | omega
end PAS6
end
