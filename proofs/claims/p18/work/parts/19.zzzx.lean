section
section RD6S
variable {S : Nat → Prop} {T T2 : CT} {σ σ2 τ τ2 : MS} {a : Nat} {C E M E2 M2 : Int → Nat}
theorem KB6.read (h : KB6 S T σ a C E M) (hw : WT T σ) (hw2 : WT T2 σ2) (fr : FrC T [5, 6, 7, 8, 9, 10, 35, 38, 42, 43, 44, 45, 46, 47, 50, 51, 56, 84, 85, 86, 87, 96, 97, 104, 105, 512, 516, 517, 518, 519, 520, 521, 522, 523] σ σ2) (k : KEM S T2 σ2 a C E2 M2) (n5 : N5 S T σ σ2) (gt : GT T T2) : KB6 S T2 σ2 a C E2 M2 := by
  have ff : ∀ f : Nat, f < 200 → f ∉ [5, 6, 7, 8, 9, 10, 35, 38, 42, 43, 44, 45, 46, 47, 50, 51, 56, 84, 85, 86, 87, 96, 97, 104, 105, 512, 516, 517, 518, 519, 520, 521, 522, 523] → σ2.2.1 f = σ.2.1 f := fun f h1 h2 => fr.1 f (Or.inl h1) h2
  have ad : ∀ (f : Nat) (b : Nat), f < 200 → f ∉ [5, 6, 7, 8, 9, 10, 35, 38, 42, 43, 44, 45, 46, 47, 50, 51, 56, 84, 85, 86, 87, 96, 97, 104, 105, 512, 516, 517, 518, 519, 520, 521, 522, 523] → adN σ2 f b = adN σ f b := fun f b h1 h2 => by unfold adN; rw [ff f h1 h2]
  have h9 : σ2.2.1 900 = σ.2.1 900 := fr.1 900 (Or.inr rfl) (by decide)
  have old : ∀ b, S b → T2 b = T b := fun b sb => by
    have z := h.1.1.1.1 b sb
    exact gt b (by omega) (by omega)
  refine ⟨k, ⟨k.1.1, ?_, ?_, ?_⟩, ?_⟩
  · intro i t i0 i6 e f b hf sb ob
    rw [h9] at e
    have ob' : OB T b (cls f) := by unfold OB at *; rw [old b sb] at ob; exact ob
    have t1 := tb_tag hw i0 i6 e
    have z := h.2.1.2.1 i t i0 i6 e f b hf sb ob'
    by_cases q : f = 5
    · subst q
      by_cases c : (T b).1 = 50
      · rcases n5 b sb c with y | y
        · unfold adN at z ⊢
          rw [y]
          exact z
        · intro e9
          rw [← e9, t1] at y
          exact y ⟨by decide, by decide⟩
      · have w := (ad_ex (Q := fun x => (208 ≤ (T2 x).2 ∧ (T2 x).2 ≤ 2600) ∧ ((T2 b).1 = 50 → (T2 x).1 = 1) ∧ ((T2 b).1 ≠ 50 → (T2 x).1 = 13)) (wf_5 hw2 ob)).2.2.2 (by rw [old b sb]; exact c)
        intro e9
        have t2 := gt t (by omega) (by omega)
        rw [← e9, t2, t1] at w
        exact absurd w (by decide)
    · rw [ad f b (by have := afl_lt hf; omega) (by simp only [List.mem_cons, List.not_mem_nil, or_false] at hf ⊢; omega)]
      exact z
  · rw [ad 102 a (by decide) (by decide)]
    exact h.2.1.2.2.1
  · intro p hp
    rw [ff 110 (by decide) (by decide)] at hp
    rw [ad 0 p (by decide) (by decide), ad 1 p (by decide) (by decide)]
    exact h.2.1.2.2.2 p hp
  · rw [ad 103 a (by decide) (by decide)]
    exact h.2.2
theorem RKP.rs (h : RKP τ τ2) {r : Int} (r0 : 0 ≤ r) (r6 : r < 6) (hn : τ.2.1 9 r ≤ 220) : rS τ2 r = rS τ r := by
  obtain ⟨⟨k1, k9⟩, f⟩ := h
  have ev : rV τ2 r = rV τ r := by
    unfold rV
    rw [k9]
    funext k
    by_cases z : 0 ≤ k ∧ k < τ.2.1 9 r
    · rw [if_pos z, if_pos z]
      exact (k1 (220 * r + k) (by omega)).ri
    · rw [if_neg z, if_neg z]
  unfold rS
  rw [ev, k9, f.2.1 14 (by decide), f.2.1 15 (by decide), f.2.1 16 (by decide), f.2.1 17 (by decide), f.2.1 18 (by decide), f.2.1 12 (by decide)]
theorem quiet_7 (hA : CDA σ τ C) (hB : CDB τ) (t6 : τ.1 10 ≤ 6) (hc : ∀ j, 0 ≤ j → j < 6 → CSM σ σ2 (C j)) (e : ∀ j, 0 ≤ j → j < τ.1 10 → rS τ2 j = rS τ j) (e10 : τ2.1 10 = τ.1 10) (e11 : τ2.2.1 11 = τ.2.1 11) (e12 : τ2.2.1 12 = τ.2.1 12) (e13 : τ2.2.1 13 = τ.2.1 13) : CDA σ2 τ2 C ∧ CDB τ2 := by
  refine ⟨fun j x y => ?_, fun j x y => ?_⟩
  · rw [e10] at y
    have A := hA j x y
    have cs := hc j x (by omega)
    have c6 := cs.1 6 (by decide) (by decide)
    rw [e j x y, e11, e12, e13]
    refine ⟨⟨by rw [cs.s]; exact A.1.1, (cs.1 7 (by decide) (by decide)).trans A.1.2.1, (cs.1 8 (by decide) (by decide)).trans A.1.2.2.1, (cs.1 9 (by decide) (by decide)).trans A.1.2.2.2⟩, by rw [cs.w, c6]; exact A.2.1, by rw [cs.w, c6]; exact A.2.2.1, ?_⟩
    have n9 := A.2.2.2
    unfold RN9 at n9 ⊢
    rw [cs.1 10 (by decide) (by decide), cs.rw (f := 11) (by decide) (by decide) (by decide), cs.rw (f := 14) (by decide) (by decide) (by decide)]
    exact n9
  · rw [e10] at y
    have q := e j x y
    rw [show τ2.2.1 9 j = τ.2.1 9 j from congrArg RTS.n q, show rV τ2 j = rV τ j from congrArg RTS.V q]
    exact hB j x y
theorem read_6 {Sx : Int → Int} {pk pv u v w1 w2 r0 : Int} (hK : KB6 S T σ a C E M) (hw : WT T σ) (hw2 : WT T2 σ2) (fr : FrC T [5, 6, 7, 8, 9, 10, 35, 38, 42, 43, 44, 45, 46, 47, 50, 51, 56, 84, 85, 86, 87, 96, 97, 104, 105, 512, 516, 517, 518, 519, 520, 521, 522, 523] σ σ2) (hR : RDM S C (nmQ6 Sx) (mk00 pk pv) T σ T2 σ2 a Sx u) (rq : RQ9 Sx u w1 w2 r0 (σ2.2.1 97 a)) (hs : SEN Sx) (rd : RD6 Sx τ τ2 v) (uv : u = v) (e97 : σ2.2.1 97 a = τ2.1 10) (hA : CDA σ τ C) (hB : CDB τ) (g : GDA τ) (g2 : GDA τ2) (np : PAR τ2) : ∃ E2 M2, KB6 S T2 σ2 a C E2 M2 ∧ CDA σ2 τ2 C ∧ CDB τ2 := by
  obtain ⟨⟨E2, M2, k⟩, c1, c2, n5, gt, -⟩ := hR
  have kb := hK.read hw hw2 fr k n5 gt
  refine ⟨E2, M2, kb, ?_⟩
  subst uv
  by_cases z : u = -1
  · have kp := rd.1 z
    have g6 := g.1
    exact quiet_7 hA hB (by omega) (c1 z).1 (fun j x y => kp.rs x (by omega) (by have := (g.2 j x y).1; omega)) (kp.2.1 10 (by decide)) (kp.2.2.1 11 (by decide)) (kp.2.2.1 12 (by decide)) (kp.2.2.1 13 (by decide))
  · obtain ⟨i, es, N, mz, Pf, f, ⟨t1, t2, t3⟩, ⟨b1, b2, b3, b4⟩, hp, hx, hf, hc⟩ := c2 z
    obtain ⟨t, x, p, ρ, re⟩ := tr9_end t3 t1 t2
    have ra : (RA9 (es.foldl uC c00)).1 = 0 ∧ σ2.2.1 97 a = u := by
      rcases rq with ⟨-, -, -, q, -⟩ | ⟨es2, t', x', q', ρ', re2, q1, q2, q3⟩
      · exact absurd q z
      · have d := (RE.det re re2 rfl rfl evt_nil evt_nil).2
        subst d
        by_cases y : w1 = 0
        · exact ⟨q1.symm.trans y, (q2 y).2.2⟩
        · exact absurd (q3 y).1 z
    have m := (rd.2 z).1
    have e10 : τ2.1 10 = (es.foldl uC c00).rn := by omega
    have g6 := g2.1
    exact CODES hs t3 re ra.1 (by omega) hp hf hx t2 m e10 (fun r x y => np r x (by omega)) (fun r x y => ⟨_, (g2.2 r x y).2.2.1⟩) hc
end RD6S
theorem KB6.first {T : CT} {σ : MS} {a : Nat} (hw : WT T σ) (oa : OB T a 11) (hi : INJT (fun _ => True) T σ) (hc : KCL a σ) (h9 : ∀ i, 0 ≤ i → i < 6 → σ.2.1 900 i < 0) (h110 : σ.2.1 110 a < 0) : ∃ C E M, KB6 (fun b => FIN T b ∧ True) T σ a C E M := by
  obtain ⟨C, E, M, k⟩ := KEM.first hw oa hi hc
  have o102 := (ad_ex (Q := fun x => (T x).1 = 40) (wf_102 hw oa)).2
  have o103 := (ad_ex (Q := fun x => (T x).1 = 37) (wf_103 hw oa)).2
  refine ⟨C, E, M, k, ⟨k.1.1, fun i t i0 i6 e => ?_, ⟨⟨by omega, by omega⟩, trivial⟩, fun p hp => ?_⟩, ⟨⟨by omega, by omega⟩, trivial⟩⟩
  · have z := h9 i i0 i6
    omega
  · omega
theorem cda_first {σ τ : MS} {C : Int → Nat} (h : τ.1 10 = 0) : CDA σ τ C ∧ CDB τ := ⟨fun r x y => absurd y (by omega), fun r x y => absurd y (by omega)⟩
end
