section
section MKC
variable {T : CT} {σ : MS} {a : Nat} {i k p q : Int}
def APC (T : CT) (σ σ2 : MS) (a : Nat) (k p q : Int) : Prop := (σ.2.1 6 a < 200 → cdW σ2 a = uZ (cdW σ a) (σ.2.1 6 a) (rwI k p q)) ∧ (σ2.2.1 5 a = σ.2.1 5 a ∨ (T (adN σ2 5 a)).1 = 0)
def LOC (σ σ2 : MS) (a : Nat) (i k p : Int) : Prop := σ.2.1 6 a ≤ 200 → cdW σ2 a = uZ (cdW σ a) (σ.2.1 6 a - 1) (uZ (uZ (cdW σ a (σ.2.1 6 a - 1)) (3 + 2 * i) k) (4 + 2 * i) p)
theorem k_append_c (d : Nat) (ha : OB T a 1) (hta : (T a).1 = 31) (h_k : -2147483648 ≤ k ∧ k ≤ 2147483647) (h_p : -2147483648 ≤ p ∧ p ≤ 2147483647) (h_q : -2147483648 ≤ q ∧ q ≤ 2147483647) (hw : WT T σ) (hc : σ.2.1 6 a ≤ 4999) (hk : k ≠ 14 ∧ k ≠ 15) : Tn (d + 3) m_X1_append 0 T σ [(0, .ref a), (1, .int (iI k)), (2, .int (iI p)), (3, .int (iI q))] [] (fun ro T2 σ2 => ro = none ∧ WT T2 σ2 ∧ FrC T [5, 6] σ σ2 ∧ (σ2.2.1 6 a = σ.2.1 6 a + 1) ∧ (CHN T [(5, a), (6, a)] [adN σ 5 a] [] σ σ2) ∧ (APC T σ σ2 a k p q)) := by
  have e5 := ad_1 hw ha 5 (by decide)
  refine (k_X1_append_x d ha hta h_k h_p h_q hw e5 rfl rfl hc hk).mono (fun ro T2 σ2 hp => ?_)
  obtain ⟨p1, p2, p3, ch, p5, x2, x5, xe, cw⟩ := hp
  have ax : adN σ2 5 a = x2 := adN_of x5
  refine ⟨p1, p2, p3, p5, ch, fun z => ?_, ?_⟩
  · have w := cw z
    unfold cdW
    rw [ax, p5]
    exact w
  · rcases xe with z | z
    · exact Or.inl (by rw [x5, z]; exact e5.symm)
    · exact Or.inr (by rw [ax]; exact z)
theorem k_lastOperand_c (d : Nat) (ha : OB T a 1) (hta : (T a).1 = 31) (h_i : -2147483648 ≤ i ∧ i ≤ 2147483647) (h_k : -2147483648 ≤ k ∧ k ≤ 2147483647) (h_p : -2147483648 ≤ p ∧ p ≤ 2147483647) (hw : WT T σ) (hc : 1 ≤ σ.2.1 6 a) (hi : 0 ≤ i ∧ i ≤ 3) : Tn (d + 1) m_X1_lastOperand 0 T σ [(0, .ref a), (1, .int (iI i)), (2, .int (iI k)), (3, .int (iI p))] [] (fun ro T2 σ2 => ro = none ∧ T = T2 ∧ WT T2 σ2 ∧ FrC T [] σ σ2 ∧ (CHX [] [adN σ 5 a] [] σ σ2) ∧ (LOC σ σ2 a i k p)) := by
  have e5 := ad_1 hw ha 5 (by decide)
  have n6 := wf_6 hw ha
  refine (k_X1_lastOperand_x d ha hta h_i h_k h_p hw e5 rfl rfl (by omega) hi).mono (fun ro T2 σ2 hp => ?_)
  obtain ⟨p1, p2, p3, p4, ch, lo⟩ := hp
  refine ⟨p1, p2, p3, p4, ch, fun z => ?_⟩
  have w := lo z
  have ax : adN σ2 5 a = adN σ 5 a := by unfold adN; rw [ch.f (by decide) (by simp)]
  unfold cdW
  rw [ax, ch.f (a := a) (n := 6) (by decide) (by simp)]
  exact w
end MKC
theorem jn_it {k p e l b v : Int} : uZ (uZ (uZ (uZ (rwI k p 0) (3 + 2 * 0) e) (4 + 2 * 0) l) (3 + 2 * 1) b) (4 + 2 * 1) v = it2 k p e l b v := by
  funext c
  show (if c = 6 then v else if c = 5 then b else if c = 4 then l else if c = 3 then e else if c = 0 then k else if c = 1 then p else if c = 2 then 0 else 0) = if c = 0 then k else if c = 1 then p else if c = 3 then e else if c = 4 then l else if c = 5 then b else if c = 6 then v else 0
  by_cases a6 : c = 6
  · subst a6; rfl
  · by_cases a5 : c = 5
    · subst a5; rfl
    · by_cases a4 : c = 4
      · subst a4; rfl
      · by_cases a3 : c = 3
        · subst a3; rfl
        · rw [if_neg a6, if_neg a5, if_neg a4, if_neg a3, if_neg a6, if_neg a5, if_neg a4, if_neg a3]
          by_cases a0 : c = 0
          · rw [if_pos a0, if_pos a0]
          · by_cases a1 : c = 1
            · rw [if_neg a0, if_pos a1, if_neg a0, if_pos a1]
            · rw [if_neg a0, if_neg a1, if_neg a0, if_neg a1]
              by_cases a2 : c = 2
              · rw [if_pos a2]
              · rw [if_neg a2]
theorem cdw_fld {σ : MS} {j c : Nat} {b v : Int} (h5 : j ≠ 5) (h6 : j ≠ 6) (h : j < 1000) : cdW (sA j b v σ) c = cdW σ c := by
  unfold cdW adN
  rw [sA_k (Ne.symm h5), sA_k (Ne.symm h6), cW_fld h]
end
section
section GCMS
variable {S : Int → Int} {nm : Int → Int64 → Int} {rn : Int64 → Int} {tb : Int → Int} {ks ls ms l : List Nat} {j i k : Nat} {x y z : Int × Int × Int} {q p r : QR} {F G : MK → MK}
def GCM (S : Int → Int) (nm : Int → Int64 → Int) (rn : Int64 → Int) (tb : Int → Int) (ks : List Nat) (j : Nat) (x : Int × Int × Int) (q : QR) (ls : List Nat) (i : Nat) (y : Int × Int × Int) (p : QR) (F : MK → MK) : Prop := ∀ t, TEQ t (tkS S j) → ∃ (t' : TK) (l : List EV), TEQ t' (tkS S i) ∧ ∀ (K : List Nat) (ρ : List EV) (m : MK), RM S nm rn tb (ks ++ K, t, x, q, ρ) m (ls ++ K, t', y, p, ρ ++ l) (F m)
theorem GCM.nl : GCM S nm rn tb ks j x q ks j x q id := fun t h => ⟨t, [], h, fun K ρ m => by rw [List.append_nil]; exact RM.rfl⟩
theorem GCM.gg (h : GCM S nm rn tb ks j x q ls i y p F) (g : GCM S nm rn tb ls i y p ms k z r G) : GCM S nm rn tb ks j x q ms k z r (fun m => G (F m)) := fun t a => by
  obtain ⟨t1, l1, a1, b1⟩ := h t a
  obtain ⟨t2, l2, a2, b2⟩ := g t1 a1
  refine ⟨t2, l1 ++ l2, a2, fun K ρ m => ?_⟩
  have w := b2 K (ρ ++ l1) (F m)
  rw [List.append_assoc] at w
  exact (b1 K ρ m).trans w
theorem GCM.ml (n : List Nat) (h : GCM S nm rn tb ks j x q ls i y p F) : GCM S nm rn tb (ks ++ n) j x q (ls ++ n) i y p F := fun t a => by
  obtain ⟨t1, l1, a1, b1⟩ := h t a
  refine ⟨t1, l1, a1, fun K ρ m => ?_⟩
  rw [List.append_assoc, List.append_assoc]
  exact b1 (n ++ K) ρ m
theorem GCM.st {k0 : Nat} (h : ∀ t, TEQ t (tkS S j) → ∃ (t' : TK) (l : List EV), TEQ t' (tkS S i) ∧ stk S k0 t x q = some (ls, t', y, p, l) ∧ ∀ m, mkk S nm rn tb k0 t q m = F m) : GCM S nm rn tb [k0] j x q ls i y p F := fun t a => by
  obtain ⟨t1, l1, a1, b1, c1⟩ := h t a
  refine ⟨t1, l1, a1, fun K ρ m => ?_⟩
  rw [← c1 m]
  exact RM.step b1
theorem GCM.cg (h : GCM S nm rn tb ks j x q ls i y p F) (e : ∀ m, F m = G m) : GCM S nm rn tb ks j x q ls i y p G := fun t a => by
  obtain ⟨t1, l1, a1, b1⟩ := h t a
  exact ⟨t1, l1, a1, fun K ρ m => by rw [← e m]; exact b1 K ρ m⟩
def GM (S : Int → Int) (nm : Int → Int64 → Int) (rn : Int64 → Int) (tb : Int → Int) (ks : List Nat) (j : Nat) (e b : Int) (u : UR) (ls : List Nat) (i : Nat) (f d : Int) (w : UR) (n : Int) (F : MK → MK) : Prop := ∀ N pm rp : Int, GCM S nm rn tb ks j (e, b, N) (u.1, u.2.1, u.2.2, pm, rp) ls i (f, d, N + n) (w.1, w.2.1, w.2.2, pm, rp) F
variable {e b f d f2 d2 n n2 : Int} {u w w2 : UR}
theorem GM.nl : GM S nm rn tb ks j e b u ks j e b u 0 id := fun N pm rp => by rw [Int.add_zero]; exact GCM.nl
theorem GM.gg (z : List Nat) (h : GM S nm rn tb ks j e b u (l ++ z) i f d w n F) (g : GM S nm rn tb l i f d w ms k f2 d2 w2 n2 G) : GM S nm rn tb ks j e b u (ms ++ z) k f2 d2 w2 (n + n2) (fun m => G (F m)) := fun N pm rp => by
  have v := (g (N + n) pm rp).ml z
  rw [Int.add_assoc] at v
  exact (h N pm rp).gg v
end GCMS
section MSTEPS
variable {S : Int → Int} {nm : Int → Int64 → Int} {rn : Int64 → Int} {tb : Int → Int} {j : Nat} {e b : Int} {u : UR}
theorem gm0m (hS : SB S) (h : ckd (tkS S j) = 45) : GM S nm rn tb [0] j e b u [1, 51] (j + 1) e b u 0 (fun m => m.push (0, 2, 1, [(0, 0)])) := fun N pm rp => by
  rw [Int.add_zero]; exact GCM.st (fun t a => ⟨(advT S t.2.1), _, a.nx, if_pos ((kdS hS a (c := 45) (by decide)).mp h), fun m => if_pos ((kdS hS a (c := 45) (by decide)).mp h)⟩)
theorem gm0n (hS : SB S) (h : ckd (tkS S j) ≠ 45) : GM S nm rn tb [0] j e b u [1] j e b u 0 id := fun N pm rp => by
  rw [Int.add_zero]; exact GCM.st (fun t a => ⟨t, _, a, if_neg (fun q => absurd ((kdS hS a (c := 45) (by decide)).mpr q) h), fun m => if_neg (fun q => absurd ((kdS hS a (c := 45) (by decide)).mpr q) h)⟩)
theorem gm1d (hS : SB S) (h : ckd (tkS S j) = 257) : GM S nm rn tb [1] j e b u [] (j + 1) e b u 0 (fun m => m.sP 1 (tkS S j).2.2.2.1) := fun N pm rp => by
  rw [Int.add_zero]; exact GCM.st (fun t a => ⟨(advT S t.2.1), _, a.nx, if_pos (Or.inl ((kd3 hS a).mp h)), fun m => (if_pos ((kd3 hS a).mp h)).trans (by rw [a.2.2.2.2 (fun q => by have z := (kd3 hS a).mp h; rw [a.2.2.1] at z; omega)])⟩)
theorem gm1w (hS : SB S) (h : ckd (tkS S j) = 256) : GM S nm rn tb [1] j e b u [] (j + 1) e b u 0 (fun m => m.sP 2 (nm m.rt (tkS S j).2.2.2.2)) := fun N pm rp => by
  rw [Int.add_zero]; exact GCM.st (fun t a => ⟨(advT S t.2.1), _, a.nx, if_pos (Or.inr ((kdN hS a).mp h)), fun m => (if_neg (fun q => absurd ((kd3 hS a).mpr q) (by rw [h]; decide))).trans ((if_pos ((kdN hS a).mp h)).trans (by rw [a.2.2.2.1]))⟩)
end MSTEPS
end
section
section YSTEPS
variable {S : Int → Int} {nm : Int → Int64 → Int} {rn : Int64 → Int} {tb : Int → Int} {j : Nat} {e b : Int} {u : UR}
theorem gm1p (hS : SB S) (h : ckd (tkS S j) = 40) : GM S nm rn tb [1] j e b u [2, 141] (j + 1) e b u 0 id := fun N pm rp => by
  rw [Int.add_zero]; exact GCM.st (fun t a => ⟨(advT S t.2.1), _, a.nx, ((if_neg (fun q => q.elim (fun q => absurd ((kd3 hS a).mpr q) (by rw [h]; decide)) (fun q => absurd ((kdN hS a).mpr q) (by rw [h]; decide))))).trans (if_pos ((kdS hS a (c := 40) (by decide)).mp h)), fun m => (if_neg (fun q => absurd ((kd3 hS a).mpr q) (by rw [h]; decide))).trans (if_neg (fun q => absurd ((kdN hS a).mpr q) (by rw [h]; decide)))⟩)
theorem gm2 (hS : SB S) (h : e ≠ 8) : GM S nm rn tb [2] j e b u [3, 6] j (e + 1) b u 0 id := fun N pm rp => by
  rw [Int.add_zero]; exact GCM.st (fun t a => ⟨t, _, a, if_neg h, fun m => rfl⟩)
theorem gm3 (hS : SB S)  : GM S nm rn tb [3] j e b u [4, 8] j e b u 0 id := fun N pm rp => by
  rw [Int.add_zero]; exact GCM.st (fun t a => ⟨t, _, a, rfl, fun m => rfl⟩)
theorem gm4 (hS : SB S)  : GM S nm rn tb [4] j e b u [0, 9] j e b u 0 id := fun N pm rp => by
  rw [Int.add_zero]; exact GCM.st (fun t a => ⟨t, _, a, rfl, fun m => rfl⟩)
theorem gm6e (hS : SB S) (h : ckd (tkS S j) = 61) : GM S nm rn tb [6] j e b u [3, 51, 7] (j + 1) e b u 0 (fun m => m.push (0, 4, m.pk, [(m.pv, 0)])) := fun N pm rp => by
  rw [Int.add_zero]; exact GCM.st (fun t a => ⟨(advT S t.2.1), _, a.nx, if_pos (Or.inl ((kdS hS a (c := 61) (by decide)).mp h)), fun m => if_pos ((kdS hS a (c := 61) (by decide)).mp h)⟩)
theorem gm6l (hS : SB S) (h : ckd (tkS S j) = 60) : GM S nm rn tb [6] j e b u [3, 51, 7] (j + 1) e b u 0 (fun m => m.push (0, 5, m.pk, [(m.pv, 0)])) := fun N pm rp => by
  rw [Int.add_zero]; exact GCM.st (fun t a => ⟨(advT S t.2.1), _, a.nx, if_pos (Or.inr ((kdS hS a (c := 60) (by decide)).mp h)), fun m => (if_neg (fun q => absurd ((kdS hS a (c := 61) (by decide)).mpr q) (by rw [h]; decide))).trans (if_pos ((kdS hS a (c := 60) (by decide)).mp h))⟩)
theorem gm6n (hS : SB S) (h1 : ckd (tkS S j) ≠ 61) (h2 : ckd (tkS S j) ≠ 60) : GM S nm rn tb [6] j e b u [7] j e b u 0 id := fun N pm rp => by
  rw [Int.add_zero]; exact GCM.st (fun t a => ⟨t, _, a, if_neg (fun q => q.elim (fun q => absurd ((kdS hS a (c := 61) (by decide)).mpr q) h1) (fun q => absurd ((kdS hS a (c := 60) (by decide)).mpr q) h2)), fun m => (if_neg (fun q => absurd ((kdS hS a (c := 61) (by decide)).mpr q) h1)).trans (if_neg (fun q => absurd ((kdS hS a (c := 60) (by decide)).mpr q) h2))⟩)
theorem gm7 (hS : SB S)  : GM S nm rn tb [7] j e b u [] j (e - 1) b u 0 id := fun N pm rp => by
  rw [Int.add_zero]; exact GCM.st (fun t a => ⟨t, _, a, rfl, fun m => rfl⟩)
theorem gm8p (hS : SB S) (h : ckd (tkS S j) = 43) : GM S nm rn tb [8] j e b u [4, 51, 8] (j + 1) e b u 0 (fun m => m.push (0, 1, m.pk, [(m.pv, 0)])) := fun N pm rp => by
  rw [Int.add_zero]; exact GCM.st (fun t a => ⟨(advT S t.2.1), _, a.nx, if_pos (Or.inl ((kdS hS a (c := 43) (by decide)).mp h)), fun m => if_pos ((kdS hS a (c := 43) (by decide)).mp h)⟩)
theorem gm8m (hS : SB S) (h : ckd (tkS S j) = 45) : GM S nm rn tb [8] j e b u [4, 51, 8] (j + 1) e b u 0 (fun m => m.push (0, 2, m.pk, [(m.pv, 0)])) := fun N pm rp => by
  rw [Int.add_zero]; exact GCM.st (fun t a => ⟨(advT S t.2.1), _, a.nx, if_pos (Or.inr ((kdS hS a (c := 45) (by decide)).mp h)), fun m => (if_neg (fun q => absurd ((kdS hS a (c := 43) (by decide)).mpr q) (by rw [h]; decide))).trans (if_pos ((kdS hS a (c := 45) (by decide)).mp h))⟩)
theorem gm8n (hS : SB S) (h1 : ckd (tkS S j) ≠ 43) (h2 : ckd (tkS S j) ≠ 45) : GM S nm rn tb [8] j e b u [] j e b u 0 id := fun N pm rp => by
  rw [Int.add_zero]; exact GCM.st (fun t a => ⟨t, _, a, if_neg (fun q => q.elim (fun q => absurd ((kdS hS a (c := 43) (by decide)).mpr q) h1) (fun q => absurd ((kdS hS a (c := 45) (by decide)).mpr q) h2)), fun m => (if_neg (fun q => absurd ((kdS hS a (c := 43) (by decide)).mpr q) h1)).trans (if_neg (fun q => absurd ((kdS hS a (c := 45) (by decide)).mpr q) h2))⟩)
theorem gm9y (hS : SB S) (h : ckd (tkS S j) = 42) : GM S nm rn tb [9] j e b u [0, 51, 9] (j + 1) e b u 0 (fun m => m.push (0, 3, m.pk, [(m.pv, 0)])) := fun N pm rp => by
  rw [Int.add_zero]; exact GCM.st (fun t a => ⟨(advT S t.2.1), _, a.nx, if_pos ((kdS hS a (c := 42) (by decide)).mp h), fun m => if_pos ((kdS hS a (c := 42) (by decide)).mp h)⟩)
theorem gm9n (hS : SB S) (h : ckd (tkS S j) ≠ 42) : GM S nm rn tb [9] j e b u [] j e b u 0 id := fun N pm rp => by
  rw [Int.add_zero]; exact GCM.st (fun t a => ⟨t, _, a, if_neg (fun q => absurd ((kdS hS a (c := 42) (by decide)).mpr q) h), fun m => (if_neg (fun q => absurd ((kdS hS a (c := 42) (by decide)).mpr q) h))⟩)
theorem gm51 (hS : SB S)  : GM S nm rn tb [51] j e b u [] j e b u 1 (fun m => m.one tb) := fun N pm rp => by
  exact GCM.st (fun t a => ⟨t, _, a, rfl, fun m => rfl⟩)
theorem gm52 (hS : SB S)  : GM S nm rn tb [52] j e b u [] j e b u 2 (fun m => m.two) := fun N pm rp => by
  exact GCM.st (fun t a => ⟨t, _, a, rfl, fun m => rfl⟩)
theorem gm20w (hS : SB S) (h : ckd (tkS S j) = 262) : GM S nm rn tb [20] j e b u [22] j e b u 0 (fun m => m.stm) := fun N pm rp => by
  rw [Int.add_zero]; exact GCM.st (fun t a => ⟨t, _, a, if_pos ((kdW hS a).mp h), fun m => if_pos ((kdW hS a).mp h)⟩)
theorem gm20i (hS : SB S) (h : ckd (tkS S j) = 260) : GM S nm rn tb [20] j e b u [51, 21] j e b u 0 (fun m => m.stm.push (1, 0, 0, [])) := fun N pm rp => by
  rw [Int.add_zero]; exact GCM.st (fun t a => ⟨t, _, a, (if_neg (fun q => absurd ((kdW hS a).mpr q) (by rw [h]; decide))).trans (if_pos ((kdI hS a).mp h)), fun m => if_neg (fun q => absurd ((kdW hS a).mpr q) (by rw [h]; decide))⟩)
theorem gm20o (hS : SB S) (h : ckd (tkS S j) = 258) : GM S nm rn tb [20] j e b u [51, 39] j e b u 0 (fun m => m.stm.push (1, 0, 0, [])) := fun N pm rp => by
  rw [Int.add_zero]; exact GCM.st (fun t a => ⟨t, _, a, (if_neg (fun q => absurd ((kdW hS a).mpr q) (by rw [h]; decide))).trans ((if_neg (fun q => absurd ((kdI hS a).mpr q) (by rw [h]; decide))).trans (if_pos (Or.inl ((kdO hS a).mp h)))), fun m => if_neg (fun q => absurd ((kdW hS a).mpr q) (by rw [h]; decide))⟩)
theorem gm20r (hS : SB S) (h : ckd (tkS S j) = 259) : GM S nm rn tb [20] j e b u [51, 39] j e b u 0 (fun m => m.stm.push (1, 0, 0, [])) := fun N pm rp => by
  rw [Int.add_zero]; exact GCM.st (fun t a => ⟨t, _, a, (if_neg (fun q => absurd ((kdW hS a).mpr q) (by rw [h]; decide))).trans ((if_neg (fun q => absurd ((kdI hS a).mpr q) (by rw [h]; decide))).trans (if_pos (Or.inr ((kdR hS a).mp h)))), fun m => if_neg (fun q => absurd ((kdW hS a).mpr q) (by rw [h]; decide))⟩)
theorem gm20n (hS : SB S) (h : ckd (tkS S j) = 256) : GM S nm rn tb [20] j e b u [51, 23] j e b u 0 (fun m => m.stm.push (1, 0, 0, [])) := fun N pm rp => by
  rw [Int.add_zero]; exact GCM.st (fun t a => ⟨t, _, a, (if_neg (fun q => absurd ((kdW hS a).mpr q) (by rw [h]; decide))).trans ((if_neg (fun q => absurd ((kdI hS a).mpr q) (by rw [h]; decide))).trans ((if_neg (fun q => q.elim (fun q => absurd ((kdO hS a).mpr q) (by rw [h]; decide)) (fun q => absurd ((kdR hS a).mpr q) (by rw [h]; decide)))).trans (if_pos ((kdN hS a).mp h)))), fun m => if_neg (fun q => absurd ((kdW hS a).mpr q) (by rw [h]; decide))⟩)
theorem gm21 (hS : SB S)  : GM S nm rn tb [21] j e b u [2, 51, 28, 24] (j + 1) e b u 0 (fun m => m.push (2, 0, 0, [])) := fun N pm rp => by
  rw [Int.add_zero]; exact GCM.st (fun t a => ⟨(advT S t.2.1), _, a.nx, rfl, fun m => rfl⟩)
theorem gm22 (hS : SB S)  : GM S nm rn tb [22] j e b u [52, 2, 51, 28, 52] (j + 1) e b u 0 (fun m => m.push (5, 0, 0, [])) := fun N pm rp => by
  rw [Int.add_zero]; exact GCM.st (fun t a => ⟨(advT S t.2.1), _, a.nx, rfl, fun m => rfl⟩)
theorem gm23 (hS : SB S)  : GM S nm rn tb [23] j e b u [161, 25] (j + 1) e b u 0 (fun m => m.push (8, nm m.rt (tkS S j).2.2.2.2, 0, [])) := fun N pm rp => by
  rw [Int.add_zero]; exact GCM.st (fun t a => ⟨(advT S t.2.1), _, a.nx, rfl, fun m => by show m.push (8, nm m.rt t.2.2.2.2, 0, []) = _; rw [a.2.2.2.1]⟩)
theorem gm39 (hS : SB S)  : GM S nm rn tb [39] j e b u [2, 51, 159] (j + 1) e b u 0 (fun m => if ckd (tkS S j) = 258 then m.push (10, 6, 0, []) else m.push (10, 7, 0, [])) := fun N pm rp => by
  rw [Int.add_zero]; exact GCM.st (fun t a => ⟨(advT S t.2.1), _, a.nx, rfl, fun m => (if z : ckd (tkS S j) = 258 then (if_pos ((kdO hS a).mp z)).trans (if_pos z).symm else (if_neg (fun q => z ((kdO hS a).mpr q))).trans (if_neg z).symm)⟩)
theorem gm24y (hS : SB S) (h : ckd (tkS S j) = 261) : GM S nm rn tb [24] j e b u [52, 28, 51] (j + 1) e b u 0 (fun m => m.top (fun e => if e.1 = 3 then (4, e.2.1, 0, []) else e)) := fun N pm rp => by
  rw [Int.add_zero]; exact GCM.st (fun t a => ⟨(advT S t.2.1), _, a.nx, if_pos ((kdL hS a).mp h), fun m => if_pos ((kdL hS a).mp h)⟩)
theorem gm24n (hS : SB S) (h : ckd (tkS S j) ≠ 261) : GM S nm rn tb [24] j e b u [51] j e b u 0 id := fun N pm rp => by
  rw [Int.add_zero]; exact GCM.st (fun t a => ⟨t, _, a, if_neg (fun q => absurd ((kdL hS a).mpr q) h), fun m => if_neg (fun q => absurd ((kdL hS a).mpr q) h)⟩)
theorem gm25c (hS : SB S) (h : ckd (tkS S j) = 256) (h2 : ckd (tkS S (j + 1)) = 40) : GM S nm rn tb [25] j e b u [26, 159] (j + 1) e b ((tkS S j).2.2.2.2, 0, (tkS S j).1) 0 (fun m => m.top (fun e => if e.1 = 8 then (9, e.2.1, 0, []) else e)) := fun N pm rp => by
  rw [Int.add_zero]; exact GCM.st (fun t a => ⟨(advT S t.2.1), _, a.nx, (if_pos ((kdN hS a).mp h)).trans ((if_pos ((kdS hS a.nx (c := 40) (by decide)).mp h2)).trans (by rw [a.1, a.2.2.2.1])), fun m => if_pos ⟨(kdN hS a).mp h, (kdS hS a.nx (c := 40) (by decide)).mp h2⟩⟩)
theorem gm25b (hS : SB S) (h : ckd (tkS S j) = 256) (h2 : ckd (tkS S (j + 1)) ≠ 40) : GM S nm rn tb [25] j e b u [2, 52, 159] j e b u 0 id := fun N pm rp => by
  rw [Int.add_zero]; exact GCM.st (fun t a => ⟨(t.1, t.2.1, 2, (advT S t.2.1).2.2.2.1, t.2.2.2.2), _, ⟨a.1, a.2.1, by rw [← a.2.2.1]; exact ((((kdN hS a).mp h)).1).symm, a.2.2.2.1, fun q => absurd (a.2.2.1.symm.trans (((kdN hS a).mp h)).1) q⟩, (if_pos ((kdN hS a).mp h)).trans (if_neg (fun q => h2 ((kdS hS a.nx (c := 40) (by decide)).mpr q))), fun m => if_neg (fun q => absurd ((kdS hS a.nx (c := 40) (by decide)).mpr q.2) h2)⟩)
theorem gm25n (hS : SB S) (h : ckd (tkS S j) ≠ 256) : GM S nm rn tb [25] j e b u [2, 52, 159] j e b u 0 id := fun N pm rp => by
  rw [Int.add_zero]; exact GCM.st (fun t a => ⟨t, _, a, if_neg (fun q => absurd ((kdN hS a).mpr q) h), fun m => if_neg (fun q => absurd ((kdN hS a).mpr q.1) h)⟩)
theorem gm26y (hS : SB S) (h2 : ckd (tkS S (j + 1)) = 41) : GM S nm rn tb [26] j e b u [38, 141] (j + 1) e b u 0 id := fun N pm rp => by
  rw [Int.add_zero]; exact GCM.st (fun t a => ⟨(advT S t.2.1), _, a.nx, if_pos ((kdS hS a.nx (c := 41) (by decide)).mp h2), fun m => rfl⟩)
theorem gm26n (hS : SB S) (h2 : ckd (tkS S (j + 1)) ≠ 41) : GM S nm rn tb [26] j e b u [2, 27] (j + 1) e b u 0 id := fun N pm rp => by
  rw [Int.add_zero]; exact GCM.st (fun t a => ⟨(advT S t.2.1), _, a.nx, if_neg (fun q => h2 ((kdS hS a.nx (c := 41) (by decide)).mpr q)), fun m => rfl⟩)
theorem gm27y (hS : SB S) (h : ckd (tkS S j) = 44) : GM S nm rn tb [27] j e b u [2, 27] (j + 1) e b (u.1, u.2.1 + 1, u.2.2) 0 (fun m => m.top (fun e => if e.1 = 9 then (9, e.2.1, 0, e.2.2.2 ++ [(m.pk, m.pv)]) else e)) := fun N pm rp => by
  rw [Int.add_zero]; exact GCM.st (fun t a => ⟨(advT S t.2.1), _, a.nx, if_pos ((kdS hS a (c := 44) (by decide)).mp h), fun m => rfl⟩)
theorem gm27n (hS : SB S) (h : ckd (tkS S j) ≠ 44) : GM S nm rn tb [27] j e b u [38, 141] j e b (u.1, u.2.1 + 1, u.2.2) 0 (fun m => m.top (fun e => if e.1 = 9 then (9, e.2.1, 0, e.2.2.2 ++ [(m.pk, m.pv)]) else e)) := fun N pm rp => by
  rw [Int.add_zero]; exact GCM.st (fun t a => ⟨t, _, a, if_neg (fun q => absurd ((kdS hS a (c := 44) (by decide)).mpr q) h), fun m => rfl⟩)
theorem gm38 (hS : SB S)  : GM S nm rn tb [38] j e b u [] j e b u0 2 (fun m => m.cal rn u.1) := fun N pm rp => by
  exact GCM.st (fun t a => ⟨t, _, a, rfl, fun m => rfl⟩)
theorem gm28 (hS : SB S) (h : b ≠ 6) : GM S nm rn tb [28] j e b u [223, 29] j e (b + 1) u 0 id := fun N pm rp => by
  rw [Int.add_zero]; exact GCM.st (fun t a => ⟨t, _, a, if_neg h, fun m => rfl⟩)
theorem gm29y (hS : SB S) (h : ckd (tkS S j) = 125) : GM S nm rn tb [29] j e b u [40] (j + 1) e b u 0 id := fun N pm rp => by
  rw [Int.add_zero]; exact GCM.st (fun t a => ⟨(advT S t.2.1), _, a.nx, if_pos ((kdS hS a (c := 125) (by decide)).mp h), fun m => rfl⟩)
theorem gm29n (hS : SB S) (h : ckd (tkS S j) ≠ 125) : GM S nm rn tb [29] j e b u [20, 29] j e b u 0 id := fun N pm rp => by
  rw [Int.add_zero]; exact GCM.st (fun t a => ⟨t, _, a, if_neg (fun q => absurd ((kdS hS a (c := 125) (by decide)).mpr q) h), fun m => rfl⟩)
theorem gm40 (hS : SB S)  : GM S nm rn tb [40] j e b u [] j e (b - 1) u 0 id := fun N pm rp => by
  rw [Int.add_zero]; exact GCM.st (fun t a => ⟨t, _, a, rfl, fun m => rfl⟩)
end YSTEPS
end
section
section EXMS
variable {S : Int → Int} {nm : Int → Int64 → Int} {rn : Int64 → Int} {tb : Int → Int} {ks l ms : List Nat} {j i k : Nat} {e f f2 m m2 : Int} {F G : MK → MK}
theorem GM.rd {u w : UR} {b d : Int} (h : GM S nm rn tb ks j e b u l i f d w m F) (N pm rp : Int) (K : List Nat) (ρ : List EV) (t : TK) (a : TEQ t (tkS S j)) (s0 : MK) : ∃ t' q, TEQ t' (tkS S i) ∧ RM S nm rn tb (ks ++ K, t, (e, b, N), (u.1, u.2.1, u.2.2, pm, rp), ρ) s0 (l ++ K, t', (f, d, N + m), (w.1, w.2.1, w.2.2, pm, rp), ρ ++ q) (F s0) := by
  obtain ⟨t', q, a1, a2⟩ := h N pm rp t a
  exact ⟨t', q, a1, a2 K ρ s0⟩
end EXMS
end
section
abbrev RKS (g : MS) (a : Nat) : List (Nat × Nat) := [(42, a), (43, a), (44, a), (45, a), (46, a), (47, a), (50, a), (51, a), (84, adN g 33 a), (85, adN g 33 a), (86, adN g 33 a), (87, adN g 33 a), (5, adN g 35 a), (6, adN g 35 a), (7, adN g 35 a), (8, adN g 35 a), (9, adN g 35 a)]
def RRX (g : MS) (a : Nat) : List Nat := if g.1 5 = 1 then [] else [adN g 37 a, adN g 39 a, adN g 40 a, adN g 41 a, adN g 49 a]
abbrev RRS (g : MS) (a : Nat) : List Nat := [adN g 5 (adN g 35 a), adN g 48 a] ++ RRX g a
abbrev SPC : List Nat := [5, 6, 9, 45, 46, 47, 50, 51]
def FG (Tg : CT) (g : MS) (T : CT) (σ : MS) (a : Nat) : Prop := GT Tg T ∧ CHN Tg (RKS g a) (RRS g a) [] g σ ∧ (σ.2.1 5 (adN g 35 a) = g.2.1 5 (adN g 35 a) ∨ ¬ ((Tg (adN σ 5 (adN g 35 a))).1 ≠ 0 ∧ (Tg (adN σ 5 (adN g 35 a))).1 < 80))
def BRW (W : Int → It) (n : Int) : Prop := ∀ k, 0 ≤ k → k < n → W k 0 = 12 → W k 3 = 0
def MKX (σ : MS) (a c : Nat) (m : MK) : Prop := σ.2.1 6 c = m.n ∧ (m.n ≤ 200 → vW (cdW σ c) = m.V ∧ (∀ k, 0 ≤ k → k < m.n → 0 ≤ m.V k 0) ∧ BRW (cdW σ c) m.n) ∧ σ.2.1 46 a = m.lab ∧ σ.2.1 47 a = m.tmp ∧ σ.2.1 50 a = m.pk ∧ σ.2.1 51 a = m.pv ∧ σ.2.1 45 a = m.ln ∧ σ.2.1 9 c = m.fs
def MG (Tg : CT) (g : MS) (T : CT) (σ : MS) (a : Nat) (m : MK) : Prop := FG Tg g T σ a ∧ MKX σ a (adN g 35 a) m
def MK.w (m : MK) : (Int × Int × Int × Int) × (Int × (Int → It)) × (Int × Int) := ((m.ln, m.fs, m.lab, m.tmp), m.2.1, m.2.2.1)
def MK.sN (m : MK) (v : Int) : MK := ((m.rt, v, m.fs, m.lab, m.tmp), m.2)
def MK.sF (m : MK) (v : Int) : MK := ((m.rt, m.ln, v, m.lab, m.tmp), m.2)
def MK.on (m x : MK) : MK := ((x.rt, m.ln, m.fs, m.lab, m.tmp), m.2.1, m.2.2.1, x.2.2.2)
def MK.jn (m : MK) (k e l : Int) : MK := ((m.put (it2 k (1000 + m.tmp) e l m.pk m.pv)).sP 2 (1000 + m.tmp)).sT (m.tmp + 1)
def MK.zn (m : MK) : MK := (m.put (mkI 9 m.lab 0 m.pk m.pv 0)).sL (m.lab + 1)
def MK.li (m : MK) : MK := m.put (mkI 11 m.ln 0 0 0 0)
def MK.lb (m : MK) (l : Int) : MK := m.put (mkI 13 l 0 0 0 0)
def MK.jp (m : MK) (l : Int) : MK := m.put (mkI 8 l 0 0 0 0)
def MK.nl (m : MK) : MK := m.sL (m.lab + 1)
def MK.cp (m : MK) (r : Int) : MK := m.put (mkI 0 r 0 m.pk m.pv 0)
def MK.bd (m : MK) (r : Int) : MK := m.put (bndI r)
def MK.sg (m : MK) (k : Int) : MK := m.put (mkI k 0 0 m.pk m.pv 0)
def MK.pj (m : MK) (k : Int) : MK := m.push (0, k, m.pk, [(m.pv, 0)])
def MK.el (m : MK) : MK := m.top (fun e => if e.1 = 3 then (4, e.2.1, 0, []) else e)
def MK.cl (m : MK) : MK := m.top (fun e => if e.1 = 8 then (9, e.2.1, 0, []) else e)
def MK.ag (m : MK) : MK := m.top (fun e => if e.1 = 9 then (9, e.2.1, 0, e.2.2.2 ++ [(m.pk, m.pv)]) else e)
def tb1 : Int → Int := fun _ => 1000
def MBD (m : MK) : Prop := 0 ≤ m.lab ∧ m.lab ≤ m.n ∧ 0 ≤ m.tmp ∧ m.tmp ≤ m.n
section MBDS
variable {m : MK} {i : It} {k e l r : Int}
theorem MBD.put (h : MBD m) : MBD (m.put i) := ⟨h.1, show m.lab ≤ m.n + 1 by have := h.2.1; omega, h.2.2.1, show m.tmp ≤ m.n + 1 by have := h.2.2.2; omega⟩
theorem MBD.jn (h : MBD m) : MBD (m.jn k e l) := ⟨h.1, show m.lab ≤ m.n + 1 by have := h.2.1; omega, show 0 ≤ m.tmp + 1 by have := h.2.2.1; omega, show m.tmp + 1 ≤ m.n + 1 by have := h.2.2.2; omega⟩
theorem MBD.zn (h : MBD m) : MBD m.zn := ⟨show 0 ≤ m.lab + 1 by have := h.1; omega, show m.lab + 1 ≤ m.n + 1 by have := h.2.1; omega, h.2.2.1, show m.tmp ≤ m.n + 1 by have := h.2.2.2; omega⟩
theorem MBD.np (h : MBD m) : MBD (m.nl.put i) := ⟨show 0 ≤ m.lab + 1 by have := h.1; omega, show m.lab + 1 ≤ m.n + 1 by have := h.2.1; omega, h.2.2.1, show m.tmp ≤ m.n + 1 by have := h.2.2.2; omega⟩
theorem MBD.same {q : MK} (h : MBD m) (e : m.w = q.w) : MBD q := by
  have e1 : m.lab = q.lab := congrArg (fun z => z.1.2.2.1) e
  have e2 : m.tmp = q.tmp := congrArg (fun z => z.1.2.2.2) e
  have e3 : m.n = q.n := congrArg (fun z => z.2.1.1) e
  unfold MBD at h ⊢
  rw [← e1, ← e2, ← e3]; exact h
end MBDS
section MGS
variable {Tg T T2 : CT} {g σ τ : MS} {a d n o x : Nat} {m q : MK} {v k p r i : Int} {it : It} {ks : List (Nat × Nat)} {rs : List Nat}
theorem FG.f35 (h : FG Tg g T σ a) : σ.2.1 35 a = g.2.1 35 a := h.2.1.f (by decide) (by simp)
theorem FG.f33 (h : FG Tg g T σ a) : σ.2.1 33 a = g.2.1 33 a := h.2.1.f (by decide) (by simp)
theorem FG.ad (h : FG Tg g T σ a) (hd : σ.2.1 35 a = (d : Int)) : adN g 35 a = d := adN_of (h.f35.symm.trans hd)
theorem FG.at (h : FG Tg g T σ a) (hd : σ.2.1 33 a = (d : Int)) : adN g 33 a = d := adN_of (h.f33.symm.trans hd)
theorem FG.go (h : FG Tg g T σ a) (gt : GT T T2) (kf : ∀ (j : Nat) (b : Int), j < 1000 → (∀ p, p ∈ RKS g a → p.1 = j → (p.2 : Int) ≠ b) → τ.2.1 j b = σ.2.1 j b) (kr : ∀ x, ((T x).1 ≠ 0 ∧ (T x).1 < 80) → x ∉ RRS g a → x ≠ adN σ 5 (adN g 35 a) → τ.2.1 (1000 + x) = σ.2.1 (1000 + x)) (kl : ∀ x, τ.2.2 x = σ.2.2 x) (k5 : τ.2.1 5 (adN g 35 a) = σ.2.1 5 (adN g 35 a) ∨ ¬ ((T (adN τ 5 (adN g 35 a))).1 ≠ 0 ∧ (T (adN τ 5 (adN g 35 a))).1 < 80)) : FG Tg g T2 τ a := by
  obtain ⟨h1, h2, h3⟩ := h
  refine ⟨h1.trans gt, ⟨fun j b hj hp => (kf j b hj hp).trans (h2.1 j b hj hp), fun x hx ht => ?_, fun x hx => (kl x).trans (h2.2.2 x hx)⟩, ?_⟩
  · have e := h1 x ht.1 ht.2
    refine (kr x (by rw [e]; exact ht) hx (fun w => ?_)).trans (h2.2.1 x hx ht)
    rcases h3 with z | z
    · have e2 : adN σ 5 (adN g 35 a) = adN g 5 (adN g 35 a) := by show (σ.2.1 5 _).toNat = (g.2.1 5 _).toNat; rw [z]
      exact hx (by rw [w, e2]; simp)
    · exact z (by rw [← w]; exact ht)
  · rcases k5 with z | z
    · have e : adN τ 5 (adN g 35 a) = adN σ 5 (adN g 35 a) := by show (τ.2.1 5 _).toNat = (σ.2.1 5 _).toNat; rw [z]
      rw [z, e]; exact h3
    · exact Or.inr (fun w => z (by rw [h1 _ w.1 w.2]; exact w))
theorem MG.cd (h : MG Tg g T σ a m) (hd : σ.2.1 35 a = (d : Int)) : adN g 35 a = d := h.1.ad hd
theorem MG.chx (h : MG Tg g T σ a m) (ch : CHX ks rs [] σ τ) (hk : ∀ p, p ∈ ks → p ∈ RKS g a ∧ p.1 ∉ SPC) (hr : ∀ x, x ∈ rs → x ∈ RRS g a ∧ x ≠ adN σ 5 (adN g 35 a)) : MG Tg g T τ a m := by
  obtain ⟨h1, h2⟩ := h
  have kf : ∀ n (b : Nat), n ∈ SPC → n < 1000 → τ.2.1 n b = σ.2.1 n b := fun n b hn h9 => ch.f h9 (fun w => (hk _ w).2 hn)
  refine ⟨h1.go GT.rfl (fun j b hj hp => ch.1 j b hj (fun p w e => hp p (hk p w).1 e)) (fun x _ hx hn => ch.r (fun w => hx (hr x w).1)) (fun x => ch.l (by simp)) (Or.inl (kf 5 _ (by decide) (by decide))), ?_⟩
  have e5 := kf 5 (adN g 35 a) (by decide) (by decide)
  have e6 := kf 6 (adN g 35 a) (by decide) (by decide)
  have ew : cdW τ (adN g 35 a) = cdW σ (adN g 35 a) := by
    unfold cdW
    rw [e6, show adN τ 5 (adN g 35 a) = adN σ 5 (adN g 35 a) by show (τ.2.1 5 _).toNat = (σ.2.1 5 _).toNat; rw [e5]]
    exact cW_row (ch.r (fun w => (hr _ w).2 rfl))
  unfold MKX at h2 ⊢
  rw [e6, ew, kf 46 a (by decide) (by decide), kf 47 a (by decide) (by decide), kf 50 a (by decide) (by decide), kf 51 a (by decide) (by decide), kf 45 a (by decide) (by decide), kf 9 _ (by decide) (by decide)]
  exact h2
theorem MG.fld (h : MG Tg g T σ a m) (hm : (n, o) ∈ RKS g a) (hn : n ∉ SPC) (h9 : n < 1000) : MG Tg g T (sA n o v σ) a m := h.chx (CHX.fld (CHX.rfl (ks := [(n, o)]) (rs := [])) (by simp) h9) (fun p w => by rw [List.mem_singleton.mp w]; exact ⟨hm, hn⟩) (fun x w => absurd w (by simp))
theorem MG.row (h : MG Tg g T σ a m) (hx : x ∈ RRS g a) (ne : x ≠ adN σ 5 (adN g 35 a)) : MG Tg g T (sA (1000 + x) i v σ) a m := h.chx (CHX.arr (CHX.rfl (ks := []) (rs := [x])) (by simp)) (fun p w => absurd w (by simp)) (fun y w => by rw [List.mem_singleton.mp w]; exact ⟨hx, ne⟩)
theorem MG.cg (h : MG Tg g T σ a m) (e : m.w = q.w) : MG Tg g T σ a q := by
  refine ⟨h.1, ?_⟩
  have w := h.2
  unfold MKX at w ⊢
  have e1 : m.n = q.n := congrArg (fun z => z.2.1.1) e
  have e2 : m.V = q.V := congrArg (fun z => z.2.1.2) e
  have e3 : m.lab = q.lab := congrArg (fun z => z.1.2.2.1) e
  have e4 : m.tmp = q.tmp := congrArg (fun z => z.1.2.2.2) e
  have e5 : m.pk = q.pk := congrArg (fun z => z.2.2.1) e
  have e6 : m.pv = q.pv := congrArg (fun z => z.2.2.2) e
  have e7 : m.ln = q.ln := congrArg (fun z => z.1.1) e
  have e8 : m.fs = q.fs := congrArg (fun z => z.1.2.1) e
  rw [← e1, ← e2, ← e3, ← e4, ← e5, ← e6, ← e7, ← e8]
  exact w
theorem FG.fld (h : FG Tg g T σ a) (hm : (n, o) ∈ RKS g a) (h5 : n ≠ 5) (h9 : n < 1000) : FG Tg g T (sA n o v σ) a := h.go GT.rfl (fun j b hj hp => by
    by_cases e : j = n
    · have z := hp (n, o) hm e.symm
      subst e
      exact (CHX.fld (v := v) (CHX.rfl (ks := [(j, o)]) (rs := []) (ls := []) (σ := σ)) (by simp) h9).1 j b hj (fun p w _ => by rw [List.mem_singleton.mp w]; exact z)
    · rw [sA_k e]) (fun x _ _ _ => by rw [sA_k (by omega)]) (fun _ => rfl) (Or.inl (by rw [sA_k (Ne.symm h5)]))
theorem MG.f46 (h : MG Tg g T σ a m) : MG Tg g T (sA 46 a v σ) a (m.sL v) := ⟨h.1.fld (by simp) (by decide) (by decide), by
  have w := h.2
  unfold MKX at w ⊢
  rw [sA_k (by decide), cdw_fld (by decide) (by decide) (by decide), sA_k (k := 46) (j := 47) (by decide), sA_k (k := 46) (j := 50) (by decide), sA_k (k := 46) (j := 51) (by decide), sA_k (k := 46) (j := 45) (by decide), sA_k (k := 46) (j := 9) (by decide)]
  exact ⟨w.1, w.2.1, ra_eq, w.2.2.2⟩⟩
theorem MG.f47 (h : MG Tg g T σ a m) : MG Tg g T (sA 47 a v σ) a (m.sT v) := ⟨h.1.fld (by simp) (by decide) (by decide), by
  have w := h.2
  unfold MKX at w ⊢
  rw [sA_k (by decide), cdw_fld (by decide) (by decide) (by decide), sA_k (k := 47) (j := 46) (by decide), sA_k (k := 47) (j := 50) (by decide), sA_k (k := 47) (j := 51) (by decide), sA_k (k := 47) (j := 45) (by decide), sA_k (k := 47) (j := 9) (by decide)]
  exact ⟨w.1, w.2.1, w.2.2.1, ra_eq, w.2.2.2.2⟩⟩
theorem MG.f50 (h : MG Tg g T σ a m) : MG Tg g T (sA 50 a v σ) a (m.sP v m.pv) := ⟨h.1.fld (by simp) (by decide) (by decide), by
  have w := h.2
  unfold MKX at w ⊢
  rw [sA_k (by decide), cdw_fld (by decide) (by decide) (by decide), sA_k (k := 50) (j := 46) (by decide), sA_k (k := 50) (j := 47) (by decide), sA_k (k := 50) (j := 51) (by decide), sA_k (k := 50) (j := 45) (by decide), sA_k (k := 50) (j := 9) (by decide)]
  exact ⟨w.1, w.2.1, w.2.2.1, w.2.2.2.1, ra_eq, w.2.2.2.2.2⟩⟩
theorem MG.f51 (h : MG Tg g T σ a m) : MG Tg g T (sA 51 a v σ) a (m.sP m.pk v) := ⟨h.1.fld (by simp) (by decide) (by decide), by
  have w := h.2
  unfold MKX at w ⊢
  rw [sA_k (by decide), cdw_fld (by decide) (by decide) (by decide), sA_k (k := 51) (j := 46) (by decide), sA_k (k := 51) (j := 47) (by decide), sA_k (k := 51) (j := 50) (by decide), sA_k (k := 51) (j := 45) (by decide), sA_k (k := 51) (j := 9) (by decide)]
  exact ⟨w.1, w.2.1, w.2.2.1, w.2.2.2.1, w.2.2.2.2.1, ra_eq, w.2.2.2.2.2.2⟩⟩
theorem MG.f45 (h : MG Tg g T σ a m) : MG Tg g T (sA 45 a v σ) a (m.sN v) := ⟨h.1.fld (by simp) (by decide) (by decide), by
  have w := h.2
  unfold MKX at w ⊢
  rw [sA_k (by decide), cdw_fld (by decide) (by decide) (by decide), sA_k (k := 45) (j := 46) (by decide), sA_k (k := 45) (j := 47) (by decide), sA_k (k := 45) (j := 50) (by decide), sA_k (k := 45) (j := 51) (by decide), sA_k (k := 45) (j := 9) (by decide)]
  exact ⟨w.1, w.2.1, w.2.2.1, w.2.2.2.1, w.2.2.2.2.1, w.2.2.2.2.2.1, ra_eq, w.2.2.2.2.2.2.2⟩⟩
theorem MG.f9 (h : MG Tg g T σ a m) (hd : adN g 35 a = d) : MG Tg g T (sA 9 d v σ) a (m.sF v) := ⟨h.1.fld (by rw [← hd]; simp) (by decide) (by decide), by
  have w := h.2
  unfold MKX at w ⊢
  rw [sA_k (by decide), cdw_fld (by decide) (by decide) (by decide), sA_k (k := 9) (j := 46) (by decide), sA_k (k := 9) (j := 47) (by decide), sA_k (k := 9) (j := 50) (by decide), sA_k (k := 9) (j := 51) (by decide), sA_k (k := 9) (j := 45) (by decide)]
  exact ⟨w.1, w.2.1, w.2.2.1, w.2.2.2.1, w.2.2.2.2.1, w.2.2.2.2.2.1, w.2.2.2.2.2.2.1, by rw [hd]; exact ra_eq⟩⟩
theorem nrm_rw : nrm (rwI k p r) = rwI k p r := by
  funext c
  unfold nrm
  by_cases e : c = 3 ∧ rwI k p r 0 = 12 ∧ (rwI k p r 11 = 1 ∨ rwI k p r 11 = 2)
  · have z : rwI k p r 11 = 0 := rfl
    omega
  · rw [if_neg e]
    by_cases e2 : c = 12
    · rw [if_pos e2, e2]; rfl
    · rw [if_neg e2]
theorem MG.app (h : MG Tg g T σ a m) (hd : adN g 35 a = d) (gt : GT T T2) (n1 : τ.2.1 6 d = σ.2.1 6 d + 1) (ch : CHN T [(5, d), (6, d)] [adN σ 5 d] [] σ τ) (ap : APC T σ τ d k p r) (hk0 : 0 ≤ k) : MG Tg g T2 τ a (m.put (rwI k p r)) := by
  subst hd
  have kf : ∀ n (b : Nat), n ∈ [46, 47, 50, 51, 45, 9] → τ.2.1 n b = σ.2.1 n b := fun n b hn => ch.f ((by decide : ∀ k ∈ [46, 47, 50, 51, 45, 9], k < 1000) n hn) (by simp only [List.mem_cons, List.not_mem_nil, or_false] at hn; simp; omega)
  refine ⟨h.1.go gt (fun j b hj hp => ch.1 j b hj (fun p w e => hp p (by simp only [List.mem_cons, List.not_mem_nil, or_false] at w; rcases w with rfl | rfl <;> simp) e)) (fun x ht _ hn => ch.2.1 x (by simp only [List.mem_singleton]; exact hn) ht) (fun x => ch.2.2 x (by simp)) (ap.2.imp id (fun z w => w.1 z)), ?_⟩
  have w := h.2
  unfold MKX at w ⊢
  refine ⟨by rw [n1, w.1]; rfl, fun hn => ?_, (kf 46 a (by decide)).trans w.2.2.1, (kf 47 a (by decide)).trans w.2.2.2.1, (kf 50 a (by decide)).trans w.2.2.2.2.1, (kf 51 a (by decide)).trans w.2.2.2.2.2.1, (kf 45 a (by decide)).trans w.2.2.2.2.2.2.1, (kf 9 _ (by decide)).trans w.2.2.2.2.2.2.2⟩
  have hn' : m.n + 1 ≤ 200 := hn
  refine ⟨?_, fun j j0 j1 => ?_, fun j j0 j1 q => ?_⟩
  · rw [ap.1 (by rw [w.1]; omega), vW_put, nrm_rw, (w.2.1 (by omega)).1, w.1]
    rfl
  · show 0 ≤ uZ m.V m.n (rwI k p r) j 0
    by_cases e : j = m.n
    · rw [e, uZ_eq]; exact hk0
    · rw [uZ_ne e]; exact (w.2.1 (by omega)).2.1 j j0 (by have : j < m.n + 1 := j1; omega)
  · rw [ap.1 (by rw [w.1]; omega), w.1] at q ⊢
    by_cases e : j = m.n
    · rw [e, uZ_eq]; rfl
    · rw [uZ_ne e] at q ⊢; exact (w.2.1 (by omega)).2.2 j j0 (by have : j < m.n + 1 := j1; omega) q
theorem MG.lst {it2 : It} (h : MG Tg g T σ a (m.put it)) (hd : adN g 35 a = d) (ch : CHX [] [adN σ 5 d] [] σ τ) (e : m.n + 1 ≤ 200 → nrm (cdW σ d m.n) = it → σ.2.1 6 d = m.n + 1 → ∃ j : It, cdW τ d = uZ (cdW σ d) m.n j ∧ nrm j = it2 ∧ (j 0 = 12 → j 3 = 0)) (hk0 : 0 ≤ it 0 → 0 ≤ it2 0) (hm0 : 0 ≤ m.n) : MG Tg g T τ a (m.put it2) := by
  subst hd
  have kf : ∀ n (b : Nat), n < 1000 → τ.2.1 n b = σ.2.1 n b := fun n b hn => ch.f hn (by simp)
  refine ⟨h.1.go GT.rfl (fun j b hj hp => ch.1 j b hj (fun p w => absurd w (by simp))) (fun x ht _ hn => ch.r (by simp only [List.mem_singleton]; exact hn)) (fun x => ch.l (by simp)) (Or.inl (kf 5 _ (by decide))), ?_⟩
  have w := h.2
  unfold MKX at w ⊢
  have w6 : σ.2.1 6 (adN g 35 a) = m.n + 1 := w.1
  refine ⟨(kf 6 _ (by decide)).trans w.1, fun hn => ?_, (kf 46 a (by decide)).trans w.2.2.1, (kf 47 a (by decide)).trans w.2.2.2.1, (kf 50 a (by decide)).trans w.2.2.2.2.1, (kf 51 a (by decide)).trans w.2.2.2.2.2.1, (kf 45 a (by decide)).trans w.2.2.2.2.2.2.1, (kf 9 _ (by decide)).trans w.2.2.2.2.2.2.2⟩
  have hn' : m.n + 1 ≤ 200 := hn
  have wv : vW (cdW σ (adN g 35 a)) = uZ m.V m.n it := (w.2.1 hn).1
  have wk : ∀ j, 0 ≤ j → j < m.n + 1 → 0 ≤ uZ m.V m.n it j 0 := (w.2.1 hn).2.1
  obtain ⟨j, j1, j2, j3⟩ := e hn' (by show vW (cdW σ (adN g 35 a)) m.n = it; rw [wv, uZ_eq]) w6
  refine ⟨?_, fun y y0 y1 => ?_, fun y y0 y1 q => ?_⟩
  · rw [j1, vW_put, j2, wv, uZ_uZ]
    rfl
  · show 0 ≤ uZ m.V m.n it2 y 0
    by_cases e9 : y = m.n
    · rw [e9, uZ_eq]
      exact hk0 (by have z := wk m.n hm0 (by omega); rw [uZ_eq] at z; exact z)
    · have z := wk y y0 y1
      rw [uZ_ne e9] at z ⊢
      exact z
  · rw [j1] at q ⊢
    by_cases e9 : y = m.n
    · rw [e9, uZ_eq] at q ⊢; exact j3 q
    · rw [uZ_ne e9] at q ⊢; exact (w.2.1 hn).2.2 y y0 y1 q
theorem MG.lo (h : MG Tg g T σ a (m.put it)) (hd : adN g 35 a = d) (ch : CHX [] [adN σ 5 d] [] σ τ) (lo : LOC σ τ d i k p) (hi : 0 ≤ i ∧ i ≤ 3) (h0 : it 0 ≠ 12) (hm0 : 0 ≤ m.n) : MG Tg g T τ a (m.put (uZ (uZ it (3 + 2 * i) k) (4 + 2 * i) p)) := by
  refine h.lst hd ch (fun hn e e6 => ⟨_, by rw [lo (by omega), e6, show m.n + 1 - 1 = m.n by omega], ?_⟩) (fun q => by rw [uZ_0 (by omega), uZ_0 (by omega)]; exact q) hm0
  have c0 : cdW σ d m.n 0 ≠ 12 := by
    have z : nrm (cdW σ d m.n) 0 = it 0 := by rw [e]
    rw [nrm_ne (by decide) (by decide)] at z
    rw [z]; exact h0
  have c1 : uZ (cdW σ d m.n) (3 + 2 * i) k 0 ≠ 12 := by rw [uZ_0 (by omega)]; exact c0
  exact ⟨by rw [nrm_u (by omega) c1 (by rw [uZ_0 (by omega)]; exact c1), nrm_u (by omega) c0 c1, e], fun q => absurd q (by rw [uZ_0 (by omega)]; exact c1)⟩
theorem rw_mk : rwI k p r = mkI k p r 0 0 0 := by
  funext c
  unfold rwI mkI
  by_cases e0 : c = 0
  · rw [if_pos e0, if_pos e0]
  · by_cases e1 : c = 1
    · rw [if_neg e0, if_neg e0, if_pos e1, if_pos e1]
    · by_cases e2 : c = 2
      · rw [if_neg e0, if_neg e0, if_neg e1, if_neg e1, if_pos e2, if_pos e2]
      · rw [if_neg e0, if_neg e0, if_neg e1, if_neg e1, if_neg e2, if_neg e2]
        by_cases e3 : c = 3
        · rw [if_pos e3]
        · by_cases e4 : c = 4
          · rw [if_neg e3, if_pos e4]
          · rw [if_neg e3, if_neg e4]
            by_cases e5 : c = 11
            · rw [if_pos e5]
            · rw [if_neg e5]
theorem mk_lo {b z : Int} : uZ (uZ (rwI k p r) (3 + 2 * 0) b) (4 + 2 * 0) z = mkI k p r b z 0 := by
  funext c
  show (if c = 4 then z else if c = 3 then b else if c = 0 then k else if c = 1 then p else if c = 2 then r else 0) = if c = 0 then k else if c = 1 then p else if c = 2 then r else if c = 3 then b else if c = 4 then z else if c = 11 then 0 else 0
  by_cases a4 : c = 4
  · subst a4; rfl
  · by_cases a3 : c = 3
    · subst a3; rfl
    · rw [if_neg a4, if_neg a3, if_neg a3, if_neg a4]
      by_cases a0 : c = 0
      · rw [if_pos a0, if_pos a0]
      · by_cases a1 : c = 1
        · rw [if_neg a0, if_pos a1, if_neg a0, if_pos a1]
        · rw [if_neg a0, if_neg a1, if_neg a0, if_neg a1]
          by_cases a2 : c = 2
          · rw [if_pos a2, if_pos a2]
          · rw [if_neg a2, if_neg a2]
            by_cases b1 : c = 11
            · rw [if_pos b1]
            · rw [if_neg b1]
def SWC (σ τ : MS) (d : Nat) (i k p : Int) : Prop := σ.2.1 6 d ≤ 200 → cdW τ d = uZ (cdW σ d) i (swI (cdW σ d i) k p)
theorem MG.sw (h : MG Tg g T σ a (m.put (rwI 12 p 0))) (hd : adN g 35 a = d) (ch : CHX [] [adN σ 5 d] [] σ τ) (sw : SWC σ τ d i 2 p) (hi : i = σ.2.1 6 d - 1) (hm0 : 0 ≤ m.n) : MG Tg g T τ a (m.bd p) := by
  refine h.lst hd ch (fun hn e e6 => ⟨_, by rw [sw (by omega), hi, e6, show m.n + 1 - 1 = m.n by omega], ?_⟩) (fun _ => by show (0 : Int) ≤ 12; decide) hm0
  refine ⟨?_, fun _ => rfl⟩
  have c : ∀ z, z ≠ 3 → z ≠ 12 → cdW σ d m.n z = rwI 12 p 0 z := fun z z3 z12 => by rw [← e, nrm_ne z3 z12]
  rw [nrm_sw (by rw [c 0 (by decide) (by decide)]; rfl) (Or.inr rfl) (by rw [c 5 (by decide) (by decide)]; rfl) (by rw [c 6 (by decide) (by decide)]; rfl), e]
  funext z
  show (if z = 4 then p else if z = 3 then 2 else if z = 11 then 2 else if z = 0 then 12 else if z = 1 then p else if z = 2 then 0 else 0) = if z = 0 then 12 else if z = 1 then p else if z = 2 then 0 else if z = 3 then 2 else if z = 4 then p else if z = 11 then 2 else 0
  by_cases a4 : z = 4
  · subst a4; rfl
  · by_cases a3 : z = 3
    · subst a3; rfl
    · by_cases b1 : z = 11
      · subst b1; rfl
      · rw [if_neg a4, if_neg a3, if_neg b1]
        by_cases a0 : z = 0
        · rw [if_pos a0, if_pos a0]
        · by_cases a1 : z = 1
          · rw [if_neg a0, if_pos a1, if_neg a0, if_pos a1]
          · rw [if_neg a0, if_neg a1, if_neg a0, if_neg a1]
            by_cases a2 : z = 2
            · rw [if_pos a2, if_pos a2]
            · rw [if_neg a2, if_neg a2, if_neg a3, if_neg a4, if_neg b1]
theorem cel_ne {q lo hi : Nat} (hw : WT T σ) (ho : OB T d 1) (ht : (T d).1 = 31) (hx : AR T x q lo hi) (hq : q ≠ 13) : x ≠ adN σ 5 d := fun e => by
  have z := cel_of (wf_5 hw ho) (ad_1 hw ho 5 (by decide))
  have y := z.2.2 (by omega)
  rw [← e] at y
  exact hq (hx.1.symm.trans y)
end MGS
def NMA (nm : Int → Int64 → Int) (r : Int) (c : CS) : Prop := (∀ i, 0 ≤ i → i < c.nn → nm r (c.nk i) = i) ∧ (12 ≤ c.nn → ∀ w, ¬ fndC c w → nm r w = 0)
def NI2 (es : List EW) : Prop := ∀ e, e ∈ es → e.1 ≠ 2
def RGV (c : CS) (w : Int64) (v : Int) : Prop := (0 ≤ v ∧ v < c.nn ∧ c.nk v = w) ∨ (12 ≤ c.nn ∧ ¬ fndC c w ∧ v = 0)
def CN (nm : Int → Int64 → Int) (r : Int) (c : CS) (P : Prop) : Prop := NMA nm r c → P
section NMAS
variable {nm : Int → Int64 → Int} {r v : Int} {c c2 : CS} {w : Int64} {e : EW} {es fs : List EW} {P Q R : Prop}
theorem NI2.nil : NI2 [] := fun _ h => absurd h (by simp)
theorem NI2.one (h : e.1 ≠ 2) : NI2 [e] := fun x q => by rw [List.mem_singleton.mp q]; exact h
theorem NI2.app (h : NI2 es) (g : NI2 fs) : NI2 (es ++ fs) := fun x q => (List.mem_append.mp q).elim (h x) (g x)
theorem sCn_nm (h : NMA nm r (sCn c w)) : NMA nm r c := by
  unfold sCn at h
  by_cases z : ¬ fndC c w ∧ ¬ 12 ≤ c.nn
  · rw [ifP_t z] at h
    refine ⟨fun i i0 i1 => ?_, fun q => absurd q z.2⟩
    have q := h.1 i i0 (show i < c.nn + 1 by omega)
    have e2 : up1 c.nk c.nn w i = c.nk i := by unfold up1; rw [if_neg (by omega)]
    exact (congrArg (nm r) e2).symm.trans q
  · rw [ifP_f z] at h; exact h
theorem NMA.up (h2 : e.1 ≠ 2) (h : NMA nm r (uC c e)) : NMA nm r c := by
  have k : NMA nm r (sC c e) := h
  unfold sC at k
  rw [if_neg h2] at k
  by_cases h3 : e.1 = 3
  · rw [if_pos h3] at k; exact sCn_nm k
  · rw [if_neg h3] at k
    by_cases h7 : e.1 = 7
    · rw [if_pos h7] at k; exact k
    · rw [if_neg h7] at k
      by_cases h4 : e.1 = 4
      · rw [if_pos h4] at k; exact sCn_nm k
      · rw [if_neg h4] at k
        by_cases h5 : e.1 = 5
        · rw [if_pos h5] at k; exact k
        · rw [if_neg h5] at k
          by_cases h1 : e.1 = 1
          · rw [if_pos h1] at k; exact k
          · rw [if_neg h1] at k; exact k
theorem NMA.fo (h2 : NI2 es) (h : NMA nm r (es.foldl uC c)) : NMA nm r c := by
  induction es generalizing c with
  | nil => exact h
  | cons e es ih => exact NMA.up (h2 e (by simp)) (ih (fun x q => h2 x (List.mem_cons_of_mem _ q)) h)
theorem RGV.no (h : RGV c w v) (n : NMA nm r c) : nm r w = v := by
  rcases h with ⟨a, b, e⟩ | ⟨a, b, e⟩
  · rw [← e]; exact n.1 v a b
  · rw [e]; exact n.2 a w b
theorem CN.cq (h : CN nm r c P) (e : c = c2) : CN nm r c2 P := by rw [← e]; exact h
theorem CN.up (h : CN nm r c P) (l : NMA nm r c2 → NMA nm r c) : CN nm r c2 P := fun n => h (l n)
end NMAS
noncomputable def rnQ (w : Int64) : Int := @dite Int (∃ k, KW k w) (Classical.propDecidable _) (fun h => Classical.choose h) (fun _ => 0)
theorem rnQ_of {k : Int} {w : Int64} (h : KW k w) : rnQ w = k := by
  have z : ∃ k, KW k w := ⟨k, h⟩
  unfold rnQ
  rw [dif_pos z]
  exact ((Classical.choose_spec z).eq h).mpr rfl
section GWS
variable {S : Int → Int} {nm : Int → Int64 → Int} {rn : Int64 → Int} {tb : Int → Int} {ks ls ms l : List Nat} {j i k : Nat} {e b f d f2 d2 n n2 : Int} {u w w2 : UR} {m0 m1 m2 : MK} {F : MK → MK} {r : Int} {c c2 : CS}
def GW (S : Int → Int) (nm : Int → Int64 → Int) (rn : Int64 → Int) (tb : Int → Int) (ks : List Nat) (j : Nat) (e b : Int) (u : UR) (m0 : MK) (ls : List Nat) (i : Nat) (f d : Int) (w : UR) (n : Int) (m1 : MK) : Prop := ∀ N pm rp : Int, ∀ t, TEQ t (tkS S j) → ∃ (t' : TK) (l : List EV), TEQ t' (tkS S i) ∧ ∀ (K : List Nat) (ρ : List EV), RM S nm rn tb (ks ++ K, t, (e, b, N), (u.1, u.2.1, u.2.2, pm, rp), ρ) m0 (ls ++ K, t', (f, d, N + n), (w.1, w.2.1, w.2.2, pm, rp), ρ ++ l) m1
theorem GW.of (h : GM S nm rn tb ks j e b u ls i f d w n F) (q : F m0 = m1) : GW S nm rn tb ks j e b u m0 ls i f d w n m1 := fun N pm rp t a => by
  obtain ⟨t', l, a1, a2⟩ := h N pm rp t a
  exact ⟨t', l, a1, fun K ρ => by rw [← q]; exact a2 K ρ m0⟩
theorem GW.nl : GW S nm rn tb ks j e b u m0 ks j e b u 0 m0 := GW.of GM.nl rfl
theorem GW.gg (z : List Nat) (h : GW S nm rn tb ks j e b u m0 (l ++ z) i f d w n m1) (g : GW S nm rn tb l i f d w m1 ms k f2 d2 w2 n2 m2) : GW S nm rn tb ks j e b u m0 (ms ++ z) k f2 d2 w2 (n + n2) m2 := fun N pm rp t a => by
  obtain ⟨t1, l1, a1, b1⟩ := h N pm rp t a
  obtain ⟨t2, l2, a2, b2⟩ := g (N + n) pm rp t1 a1
  refine ⟨t2, l1 ++ l2, a2, fun K ρ => ?_⟩
  have q := b2 (z ++ K) (ρ ++ l1)
  have p := b1 K ρ
  rw [List.append_assoc] at p
  rw [List.append_assoc, Int.add_assoc] at q
  rw [List.append_assoc]
  exact p.trans q
theorem CN.gg (z : List Nat) (h : CN nm r c (GW S nm rn tb ks j e b u m0 (l ++ z) i f d w n m1)) (q : NMA nm r c2 → NMA nm r c) (g : CN nm r c2 (GW S nm rn tb l i f d w m1 ms k f2 d2 w2 n2 m2)) : CN nm r c2 (GW S nm rn tb ks j e b u m0 (ms ++ z) k f2 d2 w2 (n + n2) m2) := fun y => (h (q y)).gg z (g y)
def EXW (S : Int → Int) (nm : Int → Int64 → Int) (rn : Int64 → Int) (tb : Int → Int) (e : Int) (ks : List Nat) (j : Nat) (m0 : MK) (f : Int) (ls : List Nat) (i : Nat) (n : Int) (m1 : MK) : Prop := ∀ (b : Int) (u : UR), GW S nm rn tb ks j e b u m0 ls i f b u n m1
theorem EXW.nl : EXW S nm rn tb e ks j m0 e ks j 0 m0 := fun _ _ => GW.nl
theorem CN.ge (z : List Nat) (h : CN nm r c (EXW S nm rn tb e ks j m0 f (l ++ z) i n m1)) (q : NMA nm r c2 → NMA nm r c) (g : CN nm r c2 (EXW S nm rn tb f l i m1 f2 ms k n2 m2)) : CN nm r c2 (EXW S nm rn tb e ks j m0 f2 (ms ++ z) k (n + n2) m2) := fun y b u => (h (q y) b u).gg z (g y b u)
end GWS
section FGX
variable {Tg T T2 : CT} {g σ τ : MS} {a d t : Nat} {k p r : Int}
theorem FG.app (h : FG Tg g T σ a) (hd : adN g 35 a = d) (gt : GT T T2) (ch : CHN T [(5, d), (6, d)] [adN σ 5 d] [] σ τ) (ap : APC T σ τ d k p r) : FG Tg g T2 τ a := by
  subst hd
  exact h.go gt (fun j b hj hp => ch.1 j b hj (fun p w e => hp p (by simp only [List.mem_cons, List.not_mem_nil, or_false] at w; rcases w with rfl | rfl <;> simp) e)) (fun x ht _ hn => ch.2.1 x (by simp only [List.mem_singleton]; exact hn) ht) (fun x => ch.2.2 x (by simp)) (ap.2.imp id (fun z w => w.1 z))
theorem FG.c1 (h : FG Tg g T σ a) (hd : adN g 35 a = d) (ch : CHX [] [adN σ 5 d] [] σ τ) : FG Tg g T τ a := by
  subst hd
  exact h.go GT.rfl (fun j b hj hp => ch.1 j b hj (fun p w => absurd w (by simp))) (fun x ht _ hn => ch.r (by simp only [List.mem_singleton]; exact hn)) (fun x => ch.l (by simp)) (Or.inl (ch.f (by decide) (by simp)))
theorem FG.nt (h : FG Tg g T σ a) (ch : CHX [(43, a), (44, a)] [] [] σ τ) : FG Tg g T τ a := h.go GT.rfl (fun j b hj hp => ch.1 j b hj (fun p w e => hp p (by simp only [List.mem_cons, List.not_mem_nil, or_false] at w; rcases w with rfl | rfl <;> simp) e)) (fun x ht _ hn => ch.r (by simp)) (fun x => ch.l (by simp)) (Or.inl (ch.f (by decide) (by simp)))
end FGX
end
section
section YSG
variable {S : Int → Int} {nm : Int → Int64 → Int} {rn : Int64 → Int} {tb : Int → Int} {j : Nat} {e b : Int} {u : UR}
theorem gmy41 (hS : SB S) (h : ckd (tkS S j) = 41) : GM S nm rn tb [141] j e b u [] (j + 1) e b u 0 id := fun N pm rp => by
  rw [Int.add_zero]; exact GCM.st (fun t a => ⟨(advT S t.2.1), _, a.nx, if_pos ((kdS hS a (c := 41) (by decide)).mp h), fun m => rfl⟩)
theorem gmy59 (hS : SB S) (h : ckd (tkS S j) = 59) : GM S nm rn tb [159] j e b u [] (j + 1) e b u 0 id := fun N pm rp => by
  rw [Int.add_zero]; exact GCM.st (fun t a => ⟨(advT S t.2.1), _, a.nx, if_pos ((kdS hS a (c := 59) (by decide)).mp h), fun m => rfl⟩)
theorem gmy61 (hS : SB S) (h : ckd (tkS S j) = 61) : GM S nm rn tb [161] j e b u [] (j + 1) e b u 0 id := fun N pm rp => by
  rw [Int.add_zero]; exact GCM.st (fun t a => ⟨(advT S t.2.1), _, a.nx, if_pos ((kdS hS a (c := 61) (by decide)).mp h), fun m => rfl⟩)
theorem gmy123 (hS : SB S) (h : ckd (tkS S j) = 123) : GM S nm rn tb [223] j e b u [] (j + 1) e b u 0 id := fun N pm rp => by
  rw [Int.add_zero]; exact GCM.st (fun t a => ⟨(advT S t.2.1), _, a.nx, if_pos ((kdS hS a (c := 123) (by decide)).mp h), fun m => rfl⟩)
theorem gm25s (hS : SB S) (h : ¬ (ckd (tkS S j) = 256 ∧ ckd (tkS S (j + 1)) = 40)) : GM S nm rn tb [25] j e b u [2, 52, 159] j e b u 0 id := by
  by_cases z : ckd (tkS S j) = 256
  · exact gm25b hS z (fun q => h ⟨z, q⟩)
  · exact gm25n hS z
end YSG
def MK.sK (m : MK) (v : Int) : MK := m.sP v m.pv
def MK.sV (m : MK) (v : Int) : MK := m.sP m.pk v
section MGE
variable {Tg T T2 : CT} {g σ τ : MS} {a d : Nat} {m : MK} {k p r l b z : Int}
theorem MG.li (h : MG Tg g T σ a (m.put (rwI 11 p 0))) (e : p = m.ln) : MG Tg g T σ a m.li := by rw [e, rw_mk] at h; exact h
theorem MG.lb (h : MG Tg g T σ a (m.put (rwI 13 l 0))) : MG Tg g T σ a (m.lb l) := by rw [rw_mk] at h; exact h
theorem MG.jp (h : MG Tg g T σ a (m.put (rwI 8 l 0))) : MG Tg g T σ a (m.jp l) := by rw [rw_mk] at h; exact h
theorem MG.cp (h : MG Tg g T σ a (m.put (uZ (uZ (rwI 0 r 0) (3 + 2 * 0) b) (4 + 2 * 0) z))) (e1 : b = m.pk) (e2 : z = m.pv) : MG Tg g T σ a (m.cp r) := by rw [mk_lo, e1, e2] at h; exact h
theorem MG.sg (h : MG Tg g T σ a (m.put (uZ (uZ (rwI k 0 0) (3 + 2 * 0) b) (4 + 2 * 0) z))) (e1 : b = m.pk) (e2 : z = m.pv) : MG Tg g T σ a (m.sg k) := by rw [mk_lo, e1, e2] at h; exact h
theorem MG.e50 (h : MG Tg g T σ a m) : σ.2.1 50 a = m.pk := h.2.2.2.2.2.1
theorem MG.e51 (h : MG Tg g T σ a m) : σ.2.1 51 a = m.pv := h.2.2.2.2.2.2.1
theorem MG.e45 (h : MG Tg g T σ a m) : σ.2.1 45 a = m.ln := h.2.2.2.2.2.2.2.1
theorem MG.e46 (h : MG Tg g T σ a m) : σ.2.1 46 a = m.lab := h.2.2.2.1
theorem MG.e47 (h : MG Tg g T σ a m) : σ.2.1 47 a = m.tmp := h.2.2.2.2.1
theorem MG.e6 (h : MG Tg g T σ a m) (hd : adN g 35 a = d) : σ.2.1 6 d = m.n := by rw [← hd]; exact h.2.1
theorem MG.e9 (h : MG Tg g T σ a m) (hd : adN g 35 a = d) : σ.2.1 9 d = m.fs := by rw [← hd]; exact h.2.2.2.2.2.2.2.2
end MGE
def XSM (σ : MS) (a : Nat) (S : Int → Int) (n : Nat) (e : Int) (ks : List Nat) (j : Nat) (c : CS) (N : Int) (f : Int) (ls : List Nat) (lo : Int) (nm : Int → Int64 → Int) (Tg : CT) (g : MS) (T : CT) (mx : MK) : Prop := ∃ (i : Nat) (es : List EW) (m : Int) (mw : MK), lo ≤ (i : Int) ∧ EXR S e ks j f ls i m es ∧ RDX σ a S n i (es.foldl uC c) (N + m) ∧ NI2 es ∧ MG Tg g T σ a mw ∧ MBD mw ∧ CN nm mx.rt (es.foldl uC c) (EXW S nm rnQ tb1 e ks j mx f ls i m (mw.on mx))
def XQM (σ : MS) (a : Nat) (S : Int → Int) (n : Nat) (e : Int) (ks : List Nat) (j : Nat) (c : CS) (N v : Int) (nm : Int → Int64 → Int) (Tg : CT) (g : MS) (T : CT) (mx : MK) : Prop := (v = 1 → XSM σ a S n e ks j c N e [] ((j : Int) + 1) nm Tg g T mx) ∧ (v = 0 → XFc σ a S e ks j ∧ FG Tg g T σ a)
def YSM (σ : MS) (a : Nat) (S : Int → Int) (n : Nat) (b : Int) (ks : List Nat) (j : Nat) (c : CS) (N : Int) (d : Int) (ls : List Nat) (lo : Int) (nm : Int → Int64 → Int) (Tg : CT) (g : MS) (T : CT) (mx m0 : MK) (H : MK → MK) : Prop := ∃ (i : Nat) (es : List EW) (m : Int) (mw : MK), lo ≤ (i : Int) ∧ GR S ks j 0 b u0 ls i 0 d u0 m es ∧ RDX σ a S n i (es.foldl uC c) (N + m) ∧ (es.foldl uC c).m ≤ (i : Int) ∧ NI2 es ∧ MG Tg g T σ a mw ∧ MBD mw ∧ CN nm mx.rt (es.foldl uC c) (GW S nm rnQ tb1 ks j 0 b u0 m0 ls i 0 d u0 m ((H mw).on mx))
def YQM (σ : MS) (a : Nat) (S : Int → Int) (n : Nat) (b : Int) (ks : List Nat) (j : Nat) (c : CS) (N w v : Int) (nm : Int → Int64 → Int) (Tg : CT) (g : MS) (T : CT) (mx m0 : MK) (H : MK → MK) : Prop := (v = 1 → YSM σ a S n b ks j c N b [] ((j : Int) + w) nm Tg g T mx m0 H) ∧ (v = 0 → YF σ a S b ks j ∧ FG Tg g T σ a)
def YKM (σ : MS) (a : Nat) (S : Int → Int) (n : Nat) (b : Int) (ks : List Nat) (j : Nat) (c : CS) (N : Int) (d : Int) (ls : List Nat) (lo s : Int) (nm : Int → Int64 → Int) (Tg : CT) (g : MS) (T : CT) (mx : MK) : Prop := ∃ (i : Nat) (es : List EW) (m : Int) (mw : MK), lo ≤ (i : Int) ∧ GR S ks j 0 b u0 ls i 0 d u0 m es ∧ RDX σ a S n i (es.foldl uC c) (N + m) ∧ (es.foldl uC c).m ≤ (i : Int) ∧ NI2 es ∧ MG Tg g T σ a mw ∧ MBD mw ∧ CN nm mx.rt (es.foldl uC c) (GW S nm rnQ tb1 ks j 0 b u0 mx ls i 0 d u0 m (mw.on mx)) ∧ ckd (tkS S i) = s
section STM
variable {Tg T : CT} {g σ : MS} {a : Nat} {m : MK} {v w : Int}
theorem MG.st0 (h : MG Tg g T σ a (m.sN v)) (e : v = m.ln + 1) (hf : m.fs ≠ 0) : MG Tg g T σ a m.stm := h.cg (by
  rw [e]
  show ((m.ln + 1, m.fs, m.lab, m.tmp), m.2.1, m.2.2.1) = ((m.ln + 1, (if m.fs = 0 then m.ln + 1 else m.fs), m.lab, m.tmp), m.2.1, m.2.2.1)
  rw [if_neg hf])
theorem MG.st1 (h : MG Tg g T σ a ((m.sN v).sF w)) (e : v = m.ln + 1) (e2 : w = m.ln + 1) (hf : m.fs = 0) : MG Tg g T σ a m.stm := h.cg (by
  rw [e, e2]
  show ((m.ln + 1, m.ln + 1, m.lab, m.tmp), m.2.1, m.2.2.1) = ((m.ln + 1, (if m.fs = 0 then m.ln + 1 else m.fs), m.lab, m.tmp), m.2.1, m.2.2.1)
  rw [if_pos hf])
theorem MBD.st (h : MBD m) : MBD m.stm := h
end STM
end
section
set_option maxHeartbeats 1000000 in
set_option maxRecDepth 20000 in
theorem k_X1_set_h (d : Nat) {T : CT} {σ : MS} {a : Nat} {k : Int} {c : Int} {y : Int} {x : Nat} (ha : OB T a 1) (h_k : -2147483648 ≤ k ∧ k ≤ 2147483647) (h_c : -2147483648 ≤ c ∧ c ≤ 2147483647) (h_y : -2147483648 ≤ y ∧ y ≤ 2147483647) (hw : WT T σ) (hx : σ.2.1 5 a = (x : Int)) (hc : 0 ≤ c ∧ c ≤ 12) (hk : (T a).1 ≠ 50 → 1 ≤ c) (hkr : 0 ≤ k ∧ k ≤ 5000) : Tn (d + 1) m_X1_set 0 T σ [(0, .ref a), (1, .int (iI k)), (2, .int (iI c)), (3, .int (iI y))] [] (fun ro T2 σ2 => ro = none ∧ T = T2 ∧ WT T2 σ2 ∧ FrC T [] σ σ2 ∧ (CHX [] [x] [] σ σ2)) := by
  refine tn_iload_n dX1_set_0 rfl 1 rfl ?_
  refine tn_bipush dX1_set_1 (by decide) ?_
  refine tn_imul dX1_set_3 ?_
  refine tn_iload_n dX1_set_4 rfl 2 rfl ?_
  refine tn_iadd dX1_set_5 ?_
  refine tn_istore (L' := [(4, .int (iI ((k * 13) + c))), (0, .ref a), (1, .int (iI k)), (2, .int (iI c)), (3, .int (iI y))]) dX1_set_6 (by decide) rfl ?_
  refine tn_iload_n dX1_set_8 rfl 2 rfl ?_
  refine tn_if_lt (tgt := 43) dX1_set_9 (by decide) ⟨by omega, by omega⟩ (fun h1 => ?_) (fun h1 => ?_)
  · exact tn_vret rfl dX1_set_43 ⟨rfl, rfl, hw, FrC.rfl, CHX.rfl⟩
  · refine tn_iload_n dX1_set_12 rfl 2 rfl ?_
    refine tn_aload_n dX1_set_13 rfl 1 rfl ?_
    refine tn_getI (ci := 1) (i := 1) (n := 6) (t := σ.2.1 6 a) dX1_set_14 rfl lay_1 (by decide) fl1_33 ha rfl rfl (rfl) ?_
    have g2 : ((0 : Int) ≤ σ.2.1 6 a ∧ σ.2.1 6 a ≤ 5000) ∧ ((T a).1 = 50 → σ.2.1 6 a ≤ 200) := wf_6 hw ha
    have g2x := g2.2
    replace g2 := g2.1
    clear g2x
    refine tn_icmp_ge (tgt := 43) dX1_set_17 (by decide) ⟨by omega, by omega⟩ ⟨by omega, by omega⟩ (fun h3 => ?_) (fun h3 => ?_)
    · exact tn_vret rfl dX1_set_43 ⟨rfl, rfl, hw, FrC.rfl, CHX.rfl⟩
    · refine tn_iload dX1_set_20 0 rfl ?_
      refine tn_if_lt (tgt := 43) dX1_set_22 (by decide) ⟨by omega, by omega⟩ (fun h4 => ?_) (fun h4 => ?_)
      · exact tn_vret rfl dX1_set_43 ⟨rfl, rfl, hw, FrC.rfl, CHX.rfl⟩
      · refine tn_iload dX1_set_25 0 rfl ?_
        refine tn_aload_n dX1_set_27 rfl 1 rfl ?_
        obtain ⟨hl8, hk7a, hk7b⟩ := cel_of (wf_5 hw ha) hx
        have hk7i : IA T x := by unfold IA; omega
        have hk7c : CELL T a x := ⟨hk7a, hk7b⟩
        clear hk7a hk7b
        refine tn_getR (ci := 1) (i := 0) (n := 5) (x := x) dX1_set_28 rfl lay_1 (by decide) fl1_9 ha rfl rfl (hx) ?_
        refine tn_alenX dX1_set_31 (Or.inl hk7i) ?_
        refine tn_icmp_ge (tgt := 43) dX1_set_32 (by decide) ⟨by omega, by omega⟩ ⟨by omega, by omega⟩ (fun h9 => ?_) (fun h9 => ?_)
        · exact tn_vret rfl dX1_set_43 ⟨rfl, rfl, hw, FrC.rfl, CHX.rfl⟩
        · refine tn_aload_n dX1_set_35 rfl 1 rfl ?_
          refine tn_getR (ci := 1) (i := 0) (n := 5) (x := x) dX1_set_36 rfl lay_1 (by decide) fl1_9 ha rfl rfl (hx) ?_
          refine tn_iload dX1_set_39 0 rfl ?_
          refine tn_iload_n dX1_set_41 rfl 4 rfl ?_
          refine tn_iast (z := (k * 13) + c) (v := y) dX1_set_42 hk7i (by omega) (by omega) (by omega) ?_
          exact tn_vret rfl dX1_set_43 ⟨rfl, rfl, (hw.arr (Or.inl hk7i) (hk7c.vok (by omega) (fun q r => by have q8 := hk q; omega))), (FrC.rfl.arr (hk_no (CELL.nh hk7c))), (CHX.rfl.arr (by simp))⟩
end
section
set_option maxHeartbeats 1000000 in
set_option maxRecDepth 20000 in
theorem k_X1_setWhere_h (d : Nat) {T : CT} {σ : MS} {a : Nat} {k : Int} {y : Int} {z : Int} {x : Nat} (ha : OB T a 1) (h_k : -2147483648 ≤ k ∧ k ≤ 2147483647) (h_y : -2147483648 ≤ y ∧ y ≤ 2147483647) (h_z : -2147483648 ≤ z ∧ z ≤ 2147483647) (hw : WT T σ) (hx : σ.2.1 5 a = (x : Int)) (hkr : 0 ≤ k ∧ k ≤ 5000) : Tn (d + 2) m_X1_setWhere 0 T σ [(0, .ref a), (1, .int (iI k)), (2, .int (iI y)), (3, .int (iI z))] [] (fun ro T2 σ2 => ro = none ∧ T = T2 ∧ WT T2 σ2 ∧ FrC T [] σ σ2 ∧ (CHX [] [x] [] σ σ2)) := by
  refine tn_aload_n dX1_setWhere_0 rfl 0 rfl ?_
  refine tn_iload_n dX1_setWhere_1 rfl 1 rfl ?_
  refine tn_bipush dX1_setWhere_2 (by decide) ?_
  refine tn_iload_n dX1_setWhere_4 rfl 2 rfl ?_
  obtain ⟨hl4, hk3a, hk3b⟩ := cel_of (wf_5 hw ha) hx
  have hk3i : IA T x := by unfold IA; omega
  have hk3c : CELL T a x := ⟨hk3a, hk3b⟩
  clear hk3a hk3b
  refine tn_callV (M := m_X1_setWhere) (pc := 5) (ix := 93) (ci := 1) (M' := m_X1_set) (As := [.int (iI k), .int (iI 11), .int (iI y)]) (rest := []) dX1_setWhere_5 ok_X1_set im_X1_set se_X1_set ml1_93 np_X1_set rfl rfl ha rfl (Nat.le_of_ble_eq_true rfl) (Nat.le_of_ble_eq_true rfl) rfl (k_X1_set_h (d) (T := T) (σ := σ) (a := a) (k := k) (c := 11) (y := y) (x := x) ha (by omega) (by decide) (by omega) hw (hx) (by omega) (by omega) (by omega)) (fun r5 T7 σ6 gt8 hp => ?_)
  obtain ⟨rfl, rfl, w11, F12, f9⟩ := hp
  clear gt8
  show Tn _ _ 8 T σ6 [(0, .ref a), (1, .int (iI k)), (2, .int (iI y)), (3, .int (iI z))] [] _
  refine tn_aload_n dX1_setWhere_8 rfl 0 rfl ?_
  refine tn_iload_n dX1_setWhere_9 rfl 1 rfl ?_
  refine tn_iconst dX1_setWhere_10 ?_
  refine tn_iconst dX1_setWhere_11 ?_
  refine tn_callV (M := m_X1_setWhere) (pc := 12) (ix := 93) (ci := 1) (M' := m_X1_set) (As := [.int (iI k), .int (iI 3), .int (iI 0)]) (rest := []) dX1_setWhere_12 ok_X1_set im_X1_set se_X1_set ml1_93 np_X1_set rfl rfl ha rfl (Nat.le_of_ble_eq_true rfl) (Nat.le_of_ble_eq_true rfl) rfl (k_X1_set_h (d) (T := T) (σ := σ6) (a := a) (k := k) (c := 3) (y := 0) (x := x) ha (by omega) (by decide) (by decide) w11 (rc_F F12 (Or.inl (by decide)) (by decide) (hx)) (by omega) (by omega) (by omega)) (fun r13 T15 σ14 gt16 hp => ?_)
  obtain ⟨rfl, rfl, w19, F20, f17⟩ := hp
  clear gt16
  show Tn _ _ 15 T σ14 [(0, .ref a), (1, .int (iI k)), (2, .int (iI y)), (3, .int (iI z))] [] _
  refine tn_aload_n dX1_setWhere_15 rfl 0 rfl ?_
  refine tn_iload_n dX1_setWhere_16 rfl 1 rfl ?_
  refine tn_iconst dX1_setWhere_17 ?_
  refine tn_iload_n dX1_setWhere_18 rfl 3 rfl ?_
  refine tn_callV (M := m_X1_setWhere) (pc := 19) (ix := 93) (ci := 1) (M' := m_X1_set) (As := [.int (iI k), .int (iI 4), .int (iI z)]) (rest := []) dX1_setWhere_19 ok_X1_set im_X1_set se_X1_set ml1_93 np_X1_set rfl rfl ha rfl (Nat.le_of_ble_eq_true rfl) (Nat.le_of_ble_eq_true rfl) rfl (k_X1_set_h (d) (T := T) (σ := σ14) (a := a) (k := k) (c := 4) (y := z) (x := x) ha (by omega) (by decide) (by omega) w19 (rc_F F20 (Or.inl (by decide)) (by decide) (rc_F F12 (Or.inl (by decide)) (by decide) (hx))) (by omega) (by omega) (by omega)) (fun r21 T23 σ22 gt24 hp => ?_)
  obtain ⟨rfl, rfl, w27, F28, f25⟩ := hp
  clear gt24
  show Tn _ _ 22 T σ22 [(0, .ref a), (1, .int (iI k)), (2, .int (iI y)), (3, .int (iI z))] [] _
  refine tn_aload_n dX1_setWhere_22 rfl 0 rfl ?_
  refine tn_iload_n dX1_setWhere_23 rfl 1 rfl ?_
  refine tn_iconst dX1_setWhere_24 ?_
  refine tn_iconst dX1_setWhere_25 ?_
  refine tn_callV (M := m_X1_setWhere) (pc := 26) (ix := 93) (ci := 1) (M' := m_X1_set) (As := [.int (iI k), .int (iI 5), .int (iI 0)]) (rest := []) dX1_setWhere_26 ok_X1_set im_X1_set se_X1_set ml1_93 np_X1_set rfl rfl ha rfl (Nat.le_of_ble_eq_true rfl) (Nat.le_of_ble_eq_true rfl) rfl (k_X1_set_h (d) (T := T) (σ := σ22) (a := a) (k := k) (c := 5) (y := 0) (x := x) ha (by omega) (by decide) (by decide) w27 (rc_F F28 (Or.inl (by decide)) (by decide) (rc_F F20 (Or.inl (by decide)) (by decide) (rc_F F12 (Or.inl (by decide)) (by decide) (hx)))) (by omega) (by omega) (by omega)) (fun r29 T31 σ30 gt32 hp => ?_)
  obtain ⟨rfl, rfl, w35, F36, f33⟩ := hp
  clear gt32
  show Tn _ _ 29 T σ30 [(0, .ref a), (1, .int (iI k)), (2, .int (iI y)), (3, .int (iI z))] [] _
  refine tn_aload_n dX1_setWhere_29 rfl 0 rfl ?_
  refine tn_iload_n dX1_setWhere_30 rfl 1 rfl ?_
  refine tn_bipush dX1_setWhere_31 (by decide) ?_
  refine tn_iconst dX1_setWhere_33 ?_
  refine tn_callV (M := m_X1_setWhere) (pc := 34) (ix := 93) (ci := 1) (M' := m_X1_set) (As := [.int (iI k), .int (iI 6), .int (iI 0)]) (rest := []) dX1_setWhere_34 ok_X1_set im_X1_set se_X1_set ml1_93 np_X1_set rfl rfl ha rfl (Nat.le_of_ble_eq_true rfl) (Nat.le_of_ble_eq_true rfl) rfl (k_X1_set_h (d) (T := T) (σ := σ30) (a := a) (k := k) (c := 6) (y := 0) (x := x) ha (by omega) (by decide) (by decide) w35 (rc_F F36 (Or.inl (by decide)) (by decide) (rc_F F28 (Or.inl (by decide)) (by decide) (rc_F F20 (Or.inl (by decide)) (by decide) (rc_F F12 (Or.inl (by decide)) (by decide) (hx))))) (by omega) (by omega) (by omega)) (fun r37 T39 σ38 gt40 hp => ?_)
  obtain ⟨rfl, rfl, w43, F44, f41⟩ := hp
  clear gt40
  show Tn _ _ 37 T σ38 [(0, .ref a), (1, .int (iI k)), (2, .int (iI y)), (3, .int (iI z))] [] _
  exact tn_vret rfl dX1_setWhere_37 ⟨rfl, rfl, w43, (((((FrC.rfl.trans (FrC.sub F12 (by decide))).trans (FrC.sub F20 (by decide))).trans (FrC.sub F28 (by decide))).trans (FrC.sub F36 (by decide))).trans (FrC.sub F44 (by decide))), (((((CHX.rfl.trans (CHX.sub f9 (by simp) (by simp) (by simp))).trans (CHX.sub f17 (by simp) (by simp) (by simp))).trans (CHX.sub f25 (by simp) (by simp) (by simp))).trans (CHX.sub f33 (by simp) (by simp) (by simp))).trans (CHX.sub f41 (by simp) (by simp) (by simp)))⟩
end
section
theorem k_setWhere_c (d : Nat) {T : CT} {σ : MS} {a : Nat} {i k p : Int} (ha : OB T a 1) (hta : (T a).1 = 31) (h_i : -2147483648 ≤ i ∧ i ≤ 2147483647) (h_k : -2147483648 ≤ k ∧ k ≤ 2147483647) (h_p : -2147483648 ≤ p ∧ p ≤ 2147483647) (hw : WT T σ) (hi : 0 ≤ i ∧ i < σ.2.1 6 a) : Tn (d + 2) m_X1_setWhere 0 T σ [(0, .ref a), (1, .int (iI i)), (2, .int (iI k)), (3, .int (iI p))] [] (fun ro T2 σ2 => ro = none ∧ T = T2 ∧ WT T2 σ2 ∧ FrC T [] σ σ2 ∧ (CHX [] [adN σ 5 a] [] σ σ2) ∧ (SWC σ σ2 a i k p)) := by
  have e5 := ad_1 hw ha 5 (by decide)
  by_cases z : σ.2.1 6 a ≤ 200
  · refine (k_X1_setWhere_x d ha h_i h_k h_p hw e5 rfl rfl z hi).mono (fun ro T2 σ2 hp => ?_)
    obtain ⟨p1, p2, p3, p4, ch, lo⟩ := hp
    refine ⟨p1, p2, p3, p4, ch, fun _ => ?_⟩
    have ax : adN σ2 5 a = adN σ 5 a := by unfold adN; rw [ch.f (by decide) (by simp)]
    unfold cdW
    rw [ax, ch.f (a := a) (n := 6) (by decide) (by simp)]
    exact lo
  · refine (k_X1_setWhere_h d ha h_i h_k h_p hw e5 (by have := wf_6 hw ha; omega)).mono (fun ro T2 σ2 hp => ?_)
    obtain ⟨p1, p2, p3, p4, ch⟩ := hp
    exact ⟨p1, p2, p3, p4, ch, fun q => absurd q z⟩
theorem k_setWhere_hc (d : Nat) {T : CT} {σ : MS} {a : Nat} {i k p : Int} (ha : OB T a 1) (_hta : (T a).1 = 31) (h_i : -2147483648 ≤ i ∧ i ≤ 2147483647) (h_k : -2147483648 ≤ k ∧ k ≤ 2147483647) (h_p : -2147483648 ≤ p ∧ p ≤ 2147483647) (hw : WT T σ) (hi : 0 ≤ i ∧ i ≤ 5000) : Tn (d + 2) m_X1_setWhere 0 T σ [(0, .ref a), (1, .int (iI i)), (2, .int (iI k)), (3, .int (iI p))] [] (fun ro T2 σ2 => ro = none ∧ T = T2 ∧ WT T2 σ2 ∧ FrC T [] σ σ2 ∧ (CHX [] [adN σ 5 a] [] σ σ2)) := k_X1_setWhere_h d ha h_i h_k h_p hw (ad_1 hw ha 5 (by decide)) hi
end
section
section MGC
variable {Tg T T2 : CT} {g σ τ : MS} {a d t x f : Nat} {m : MK} {k p r l b z i v : Int} {kp : Int}
theorem MG.tk (h : MG Tg g T σ a m) (ht : σ.2.1 33 a = (t : Int)) (ch : CHX [(84, t), (85, t), (86, t), (87, t)] [] [] σ τ) : MG Tg g T τ a m := by
  have e := h.1.at ht
  subst e
  refine h.chx ch (fun p hp => ?_) (fun x w => absurd w (by simp))
  simp only [List.mem_cons, List.not_mem_nil, or_false] at hp
  rcases hp with rfl | rfl | rfl | rfl <;> exact ⟨by simp, by simp⟩
theorem MG.nt (h : MG Tg g T σ a m) (ch : CHX [(43, a), (44, a)] [] [] σ τ) : MG Tg g T τ a m := by
  refine h.chx ch (fun p hp => ?_) (fun x w => absurd w (by simp))
  simp only [List.mem_cons, List.not_mem_nil, or_false] at hp
  rcases hp with rfl | rfl <;> exact ⟨by simp, by simp⟩
theorem MG.c31 (h : MG Tg g T σ a m) (hw : WT T σ) (ha : OB T a 5) : OB T (adN g 35 a) 1 ∧ (T (adN g 35 a)).1 = 31 := by
  obtain ⟨y, h1, h2⟩ := wf_35 hw ha
  rw [h.cd h1]
  exact ⟨⟨by omega, by rw [h2]; rfl, by omega⟩, h2⟩
abbrev RFL : List Nat := [37, 39, 40, 41, 48, 49]
theorem FG.fr (h : FG Tg g T σ a) (hf : f ∈ RFL) : σ.2.1 f a = g.2.1 f a := by
  simp only [List.mem_cons, List.not_mem_nil, or_false] at hf
  rcases hf with rfl | rfl | rfl | rfl | rfl | rfl <;> exact h.2.1.f (by decide) (by simp)
theorem MG.rr {q lo hi : Nat} (h : MG Tg g T σ a m) (hw : WT T σ) (ha : OB T a 5) (hf : f ∈ [37, 39, 40, 41, 49]) (hx : σ.2.1 f a = (x : Int)) (ar : AR T x q lo hi) (hq : q ≠ 13) (hg : g.1 5 = 0) : x ∈ RRS g a ∧ x ≠ adN σ 5 (adN g 35 a) := by
  have e : adN g f a = x := adN_of ((h.1.fr ((by decide : ∀ k ∈ [37, 39, 40, 41, 49], k ∈ RFL) f hf)).symm.trans hx)
  have c := h.c31 hw ha
  refine ⟨List.mem_append.mpr (Or.inr ?_), cel_ne hw c.1 c.2 ar hq⟩
  unfold RRX
  rw [if_neg (by omega)]
  simp only [List.mem_cons, List.not_mem_nil, or_false] at hf
  rcases hf with rfl | rfl | rfl | rfl | rfl <;> (rw [← e]; simp)
theorem MG.r8 {q lo hi : Nat} (h : MG Tg g T σ a m) (hw : WT T σ) (ha : OB T a 5) (hx : σ.2.1 48 a = (x : Int)) (ar : AR T x q lo hi) (hq : q ≠ 13) : x ∈ RRS g a ∧ x ≠ adN σ 5 (adN g 35 a) := by
  have e : adN g 48 a = x := adN_of ((h.1.fr (by decide)).symm.trans hx)
  have c := h.c31 hw ha
  refine ⟨List.mem_append.mpr (Or.inl ?_), cel_ne hw c.1 c.2 ar hq⟩
  rw [← e]; simp
theorem MG.pq {P : Prop} [Decidable P] (h : MG Tg g T σ a m) (hx : x ∈ RRS g a ∧ x ≠ adN σ 5 (adN g 35 a)) (e : τ = if P then sA (1000 + x) i v σ else σ) : MG Tg g T τ a m := by
  rw [e]
  by_cases q : P
  · rw [if_pos q]; exact h.row hx.1 hx.2
  · rw [if_neg q]; exact h
theorem MG.f7 (h : MG Tg g T σ a m) (hd : σ.2.1 35 a = (d : Int)) : MG Tg g T (sA 7 d v σ) a m := h.fld (by rw [← h.cd hd]; simp) (by decide) (by decide)
theorem MG.bd2 (h : MG Tg g T σ a m) (hb : MBD m) (hr : RP σ a kp) (hw : WT T σ) (ha : OB T a 5) (hk : kp ≤ 190) : (0 ≤ σ.2.1 46 a ∧ σ.2.1 46 a ≤ 100000) ∧ (0 ≤ σ.2.1 47 a ∧ σ.2.1 47 a ≤ 100000) := by
  obtain ⟨y, h1, h2⟩ := wf_35 hw ha
  have c := hr.cnt hw ha h1 hk
  have n6 := h.e6 (h.cd h1)
  have e6 := h.e46
  have e7 := h.e47
  unfold MBD at hb
  omega
theorem RGV.fd {cx : CS} {k v : Int} {w : Int64} {y : Nat} {Q : Int} (hk : KW k w) (nm : NMR σ a cx) (hd : σ.2.1 35 a = (d : Int)) (hy : σ.2.1 48 a = (y : Int)) (q : 0 ≤ v ∧ v < σ.2.1 7 d ∧ σ.2.1 (1000 + y) v = k) (hf : fndC cx w) : RGV (uC cx (4, Q, 0, w)) w v := by
  rw [uC4f hf]
  have n := nm.1 d hd
  have z := nm.2 y hy v q.1 (by omega)
  exact Or.inl ⟨q.1, by omega, by rw [q.2.2] at z; exact ((hk.eq z).mp rfl).symm⟩
theorem RGV.fu {cx : CS} {w : Int64} {Q : Int} (hf : ¬ fndC cx w) (h : 12 ≤ cx.nn) : RGV (uC cx (4, Q, 0, w)) w 0 := by
  rw [uC4n hf h]
  exact Or.inr ⟨h, hf, rfl⟩
theorem RGV.nw {cx : CS} {w : Int64} {Q v : Int} (hf : ¬ fndC cx w) (h : ¬ 12 ≤ cx.nn) (h0 : 0 ≤ cx.nn) (e : v = cx.nn) : RGV (uC cx (4, Q, 0, w)) w v := by
  rw [uC4w hf h]
  refine Or.inl ⟨by omega, ?_, ?_⟩
  · show v < cx.nn + 1; omega
  · show up1 cx.nk cx.nn w v = w
    unfold up1
    rw [if_pos e]
end MGC
theorem MG.c1 {Tg T : CT} {g σ : MS} {a d : Nat} {m : MK} {it : It} (h : MG Tg g T σ a (m.put it)) (hd : adN g 35 a = d) (h0 : 0 ≤ m.n) : 1 ≤ σ.2.1 6 d := by
  have z : σ.2.1 6 d = m.n + 1 := h.e6 hd
  omega
end
section
set_option maxHeartbeats 1000000 in
set_option maxRecDepth 20000 in
theorem k_X9_next_m (d : Nat) {T : CT} {σ : MS} {a : Nat} {Sx : Int → Int} {nx jx : Nat} (ha : OB T a 9) (hw : WT T σ) (hT : TKI σ a) (hq : TKT σ a Sx nx jx) (hne : σ.2.1 85 a ≠ 263 ∧ σ.2.1 85 a ≠ 264) : Tn (d + 1) m_X9_next 0 T σ [(0, .ref a)] [] (fun ro T2 σ2 => ro = none ∧ T = T2 ∧ WT T2 σ2 ∧ FrC T [84, 85, 86, 87] σ σ2 ∧ (TKI σ2 a) ∧ (σ.2.1 84 a ≤ σ2.2.1 84 a) ∧ (ADV σ σ2 a) ∧ (TKT σ2 a Sx nx (jx + 1)) ∧ (CHX [(84, a), (85, a), (86, a), (87, a)] [] [] σ σ2)) := by
  have hj9 : jx ≠ nx := fun e => by
    have w9 := hq.2.2.2.2
    rw [← e] at w9
    have z9 := hq.2.1.1
    omega
  have hj8 := hq.1
  refine tn_aload_n dX9_next_0 rfl 0 rfl ?_
  refine tn_getI (ci := 9) (i := 3) (n := 84) (t := σ.2.1 84 a) dX9_next_1 rfl lay_9 (by decide) fl9_45 ha rfl rfl (rfl) ?_
  have g1 : ((-1 : Int) ≤ σ.2.1 84 a ∧ σ.2.1 84 a ≤ 1200) := wf_84 hw ha
  refine tn_iconst dX9_next_4 ?_
  refine tn_iadd dX9_next_5 ?_
  refine tn_aload_n dX9_next_6 rfl 0 rfl ?_
  obtain ⟨xq2, hx3, hk4, hl5⟩ : ∃ x : Nat, σ.2.1 81 a = (x : Int) ∧ AR T x 12 1201 1201 := wf_81 hw ha
  have hk4i : IA T xq2 := by unfold IA; omega
  refine tn_getR (ci := 9) (i := 0) (n := 81) (x := xq2) dX9_next_7 rfl lay_9 (by decide) fl9_9 ha rfl rfl (hx3) ?_
  refine tn_alenX dX9_next_10 (Or.inl hk4i) ?_
  refine tn_icmp_ge (tgt := 118) dX9_next_11 (by decide) ⟨by omega, by omega⟩ ⟨by omega, by omega⟩ (fun h6 => ?_) (fun h6 => ?_)
  · have q7 : σ.2.1 84 a = σ.2.1 84 a := rfl
    have q8 : σ.2.1 85 a = σ.2.1 85 a := rfl
    exact tn_vret rfl dX9_next_118 ⟨rfl, rfl, hw, FrC.rfl, False.elim (by have z9 := hq.2.1.1; omega), False.elim (by have z9 := hq.2.1.1; omega), False.elim (by have z9 := hq.2.1.1; omega), False.elim (by have z9 := hq.2.1.1; omega), False.elim (by have z9 := hq.2.1.1; omega)⟩
  · refine tn_aload_n dX9_next_14 rfl 0 rfl ?_
    refine tn_getI (ci := 9) (i := 3) (n := 84) (t := σ.2.1 84 a) dX9_next_15 rfl lay_9 (by decide) fl9_45 ha rfl rfl (rfl) ?_
    refine tn_iconst dX9_next_18 ?_
    refine tn_iadd dX9_next_19 ?_
    refine tn_aload_n dX9_next_20 rfl 0 rfl ?_
    obtain ⟨xq9, hx10, hk11, hl12⟩ : ∃ x : Nat, σ.2.1 82 a = (x : Int) ∧ AR T x 22 1201 1201 := wf_82 hw ha
    have hk11i : IA T xq9 := by unfold IA; omega
    refine tn_getR (ci := 9) (i := 1) (n := 82) (x := xq9) dX9_next_21 rfl lay_9 (by decide) fl9_15 ha rfl rfl (hx10) ?_
    refine tn_alenX dX9_next_24 (Or.inl hk11i) ?_
    refine tn_icmp_ge (tgt := 118) dX9_next_25 (by decide) ⟨by omega, by omega⟩ ⟨by omega, by omega⟩ (fun h13 => ?_) (fun h13 => ?_)
    · have q14 : σ.2.1 84 a = σ.2.1 84 a := rfl
      have q15 : σ.2.1 85 a = σ.2.1 85 a := rfl
      exact tn_vret rfl dX9_next_118 ⟨rfl, rfl, hw, FrC.rfl, False.elim (by have z9 := hq.2.1.1; omega), False.elim (by have z9 := hq.2.1.1; omega), False.elim (by have z9 := hq.2.1.1; omega), False.elim (by have z9 := hq.2.1.1; omega), False.elim (by have z9 := hq.2.1.1; omega)⟩
    · refine tn_aload_n dX9_next_28 rfl 0 rfl ?_
      refine tn_getI (ci := 9) (i := 3) (n := 84) (t := σ.2.1 84 a) dX9_next_29 rfl lay_9 (by decide) fl9_45 ha rfl rfl (rfl) ?_
      refine tn_iconst dX9_next_32 ?_
      refine tn_iadd dX9_next_33 ?_
      refine tn_aload_n dX9_next_34 rfl 0 rfl ?_
      obtain ⟨xq16, hx17, hk18, hl19⟩ : ∃ x : Nat, σ.2.1 83 a = (x : Int) ∧ AR T x 23 1201 1201 := wf_83 hw ha
      have hk18i : IA T xq16 := by unfold IA; omega
      refine tn_getR (ci := 9) (i := 2) (n := 83) (x := xq16) dX9_next_35 rfl lay_9 (by decide) fl9_18 ha rfl rfl (hx17) ?_
      refine tn_alenX dX9_next_38 (Or.inl hk18i) ?_
      refine tn_icmp_ge (tgt := 118) dX9_next_39 (by decide) ⟨by omega, by omega⟩ ⟨by omega, by omega⟩ (fun h20 => ?_) (fun h20 => ?_)
      · have q21 : σ.2.1 84 a = σ.2.1 84 a := rfl
        have q22 : σ.2.1 85 a = σ.2.1 85 a := rfl
        exact tn_vret rfl dX9_next_118 ⟨rfl, rfl, hw, FrC.rfl, False.elim (by have z9 := hq.2.1.1; omega), False.elim (by have z9 := hq.2.1.1; omega), False.elim (by have z9 := hq.2.1.1; omega), False.elim (by have z9 := hq.2.1.1; omega), False.elim (by have z9 := hq.2.1.1; omega)⟩
      · refine tn_aload_n dX9_next_42 rfl 0 rfl ?_
        refine tn_getI (ci := 9) (i := 3) (n := 84) (t := σ.2.1 84 a) dX9_next_43 rfl lay_9 (by decide) fl9_45 ha rfl rfl (rfl) ?_
        refine tn_if_lt (tgt := 69) dX9_next_46 (by decide) ⟨by omega, by omega⟩ (fun h23 => ?_) (fun h23 => ?_)
        · refine tn_aload_n dX9_next_69 rfl 0 rfl ?_
          refine tn_dup dX9_next_70 rfl ?_
          refine tn_getI (ci := 9) (i := 3) (n := 84) (t := σ.2.1 84 a) dX9_next_71 rfl lay_9 (by decide) fl9_45 ha rfl rfl (rfl) ?_
          refine tn_iconst dX9_next_74 ?_
          refine tn_iadd dX9_next_75 ?_
          refine tn_putV (ci := 9) (i := 3) (n := 84) (r := false) (v := (σ.2.1 84 a) + 1) tyX9 tyX9_ok nmX9 dX9_next_76 rfl lay_9 (by decide) fl9_45 rfl (tyX9_ok 3 (by decide)) rfl rfl rfl ha rfl rfl ?_
          refine tn_aload_n dX9_next_79 rfl 0 rfl ?_
          refine tn_aload_n dX9_next_80 rfl 0 rfl ?_
          refine tn_getR (ci := 9) (i := 0) (n := 81) (x := xq2) dX9_next_81 rfl lay_9 (by decide) fl9_9 ha rfl rfl (rc_o (by decide) (hx3)) ?_
          refine tn_aload_n dX9_next_84 rfl 0 rfl ?_
          refine tn_getI (ci := 9) (i := 3) (n := 84) (t := (σ.2.1 84 a) + 1) dX9_next_85 rfl lay_9 (by decide) fl9_45 ha rfl rfl (ra_eq) ?_
          refine tn_ialdX (z := (σ.2.1 84 a) + 1) (hw.put (by decide) (by decide) (fo_84 (by omega))) dX9_next_88 hk4i (by omega) (by omega) (by omega) (fun v24 g25q g25 g25k => ?_)
          have g25u := g25k.2.2.1 hk4
          have g25Q : v24 = σ.2.1 (1000 + xq2) ((σ.2.1 84 a) + 1) := by rw [g25q, sA_k (by omega)]
          clear g25k g25q
          refine tn_putV (ci := 9) (i := 4) (n := 85) (r := false) (v := v24) tyX9 tyX9_ok nmX9 dX9_next_89 rfl lay_9 (by decide) fl9_30 rfl (tyX9_ok 4 (by decide)) rfl rfl rfl ha rfl rfl ?_
          refine tn_aload_n dX9_next_92 rfl 0 rfl ?_
          refine tn_aload_n dX9_next_93 rfl 0 rfl ?_
          refine tn_getR (ci := 9) (i := 1) (n := 82) (x := xq9) dX9_next_94 rfl lay_9 (by decide) fl9_15 ha rfl rfl (rc_o (by decide) (rc_o (by decide) (hx10))) ?_
          refine tn_aload_n dX9_next_97 rfl 0 rfl ?_
          refine tn_getI (ci := 9) (i := 3) (n := 84) (t := (σ.2.1 84 a) + 1) dX9_next_98 rfl lay_9 (by decide) fl9_45 ha rfl rfl (rc_o (by decide) (ra_eq)) ?_
          refine tn_ialdX (z := (σ.2.1 84 a) + 1) ((hw.put (by decide) (by decide) (fo_84 (by omega))).put (by decide) (by decide) (fo_85 (by omega))) dX9_next_101 hk11i (by omega) (by omega) (by omega) (fun v26 g27q g27 g27k => ?_)
          have g27Q : v26 = σ.2.1 (1000 + xq9) ((σ.2.1 84 a) + 1) := by rw [g27q, sA_k (by omega), sA_k (by omega)]
          clear g27k g27q
          refine tn_putV (ci := 9) (i := 5) (n := 86) (r := false) (v := v26) tyX9 tyX9_ok nmX9 dX9_next_102 rfl lay_9 (by decide) fl9_55 rfl (tyX9_ok 5 (by decide)) rfl rfl rfl ha rfl rfl ?_
          refine tn_aload_n dX9_next_105 rfl 0 rfl ?_
          refine tn_aload_n dX9_next_106 rfl 0 rfl ?_
          refine tn_getR (ci := 9) (i := 2) (n := 83) (x := xq16) dX9_next_107 rfl lay_9 (by decide) fl9_18 ha rfl rfl (rc_o (by decide) (rc_o (by decide) (rc_o (by decide) (hx17)))) ?_
          refine tn_aload_n dX9_next_110 rfl 0 rfl ?_
          refine tn_getI (ci := 9) (i := 3) (n := 84) (t := (σ.2.1 84 a) + 1) dX9_next_111 rfl lay_9 (by decide) fl9_45 ha rfl rfl (rc_o (by decide) (rc_o (by decide) (ra_eq))) ?_
          refine tn_ialdX (z := (σ.2.1 84 a) + 1) (((hw.put (by decide) (by decide) (fo_84 (by omega))).put (by decide) (by decide) (fo_85 (by omega))).put (by decide) (by decide) (fo_86 (by omega))) dX9_next_114 hk18i (by omega) (by omega) (by omega) (fun v28 g29q g29 g29k => ?_)
          have g29Q : v28 = σ.2.1 (1000 + xq16) ((σ.2.1 84 a) + 1) := by rw [g29q, sA_k (by omega), sA_k (by omega), sA_k (by omega)]
          clear g29k g29q
          refine tn_putV (ci := 9) (i := 6) (n := 87) (r := false) (v := v28) tyX9 tyX9_ok nmX9 dX9_next_115 rfl lay_9 (by decide) fl9_34 rfl (tyX9_ok 6 (by decide)) rfl rfl rfl ha rfl rfl ?_
          have q30 : (sA 87 a (v28) (sA 86 a (v26) (sA 85 a (v24) (sA 84 a ((σ.2.1 84 a) + 1) σ)))).2.1 84 a = (σ.2.1 84 a) + 1 := rc_o (by decide) (rc_o (by decide) (rc_o (by decide) (ra_eq)))
          have q31 : (sA 87 a (v28) (sA 86 a (v26) (sA 85 a (v24) (sA 84 a ((σ.2.1 84 a) + 1) σ)))).2.1 85 a = v24 := rc_o (by decide) (rc_o (by decide) (ra_eq))
          have q32 : (sA 87 a (v28) (sA 86 a (v26) (sA 85 a (v24) (sA 84 a ((σ.2.1 84 a) + 1) σ)))).2.1 84 a = (σ.2.1 84 a) + 1 := rc_o (by decide) (rc_o (by decide) (rc_o (by decide) (ra_eq)))
          have q33 : (sA 87 a (v28) (sA 86 a (v26) (sA 85 a (v24) (sA 84 a ((σ.2.1 84 a) + 1) σ)))).2.1 85 a = v24 := rc_o (by decide) (rc_o (by decide) (ra_eq))
          have q34 : (sA 87 a (v28) (sA 86 a (v26) (sA 85 a (v24) (sA 84 a ((σ.2.1 84 a) + 1) σ)))).2.1 86 a = v26 := rc_o (by decide) (ra_eq)
          have q35 : (sA 87 a (v28) (sA 86 a (v26) (sA 85 a (v24) (sA 84 a ((σ.2.1 84 a) + 1) σ)))).2.1 87 a = v28 := ra_eq
          have w36j : jx + 1 ≤ nx := by omega
          have w36 := hq.2.2.1 xq2 xq9 xq16 hx3 hx10 hx17 (jx + 1) w36j
          have w36i : σ.2.1 84 a + 1 = ((jx + 1 : Nat) : Int) := by omega
          rw [w36i] at g25Q
          rw [w36i] at g27Q
          rw [w36i] at g29Q
          exact tn_vret rfl dX9_next_118 ⟨rfl, rfl, ((((hw.put (by decide) (by decide) (fo_84 (by omega))).put (by decide) (by decide) (fo_85 (by omega))).put (by decide) (by decide) (fo_86 (by omega))).put (by decide) (by decide) (fo_87 (by omega))), ((((FrC.rfl.put (by decide) (by decide)).put (by decide) (by decide)).put (by decide) (by decide)).put (by decide) (by decide)), by unfold TKI at *; rw [q30, q31]; omega, by rw [q30]; omega, by unfold ADV TKI at *; rw [q30]; omega, ⟨⟨w36j, hq.1.2.1, by rw [q32]; omega⟩, ⟨by rw [q33, g25Q]; exact w36.1, by rw [q34, g27Q]; exact w36.2.1, by rw [q35, g29Q]; exact w36.2.2⟩, ((((hq.2.2.1).pt (by decide)).pt (by decide)).pt (by decide)).pt (by decide), hq.2.2.2⟩, ((((CHX.rfl.fld (by simp) (by decide)).fld (by simp) (by decide)).fld (by simp) (by decide)).fld (by simp) (by decide))⟩
        · refine tn_aload_n dX9_next_49 rfl 0 rfl ?_
          refine tn_getI (ci := 9) (i := 4) (n := 85) (t := σ.2.1 85 a) dX9_next_50 rfl lay_9 (by decide) fl9_30 ha rfl rfl (rfl) ?_
          have g37 : ((-2147483648 : Int) ≤ σ.2.1 85 a ∧ σ.2.1 85 a ≤ 2147483647) := wf_85 hw ha
          refine tn_sipush dX9_next_53 (by decide) ?_
          refine tn_icmp_eq (tgt := 118) dX9_next_56 (by decide) ⟨by omega, by omega⟩ ⟨by decide, by decide⟩ (fun h38 => ?_) (fun h38 => ?_)
          · have q39 : σ.2.1 84 a = σ.2.1 84 a := rfl
            have q40 : σ.2.1 85 a = σ.2.1 85 a := rfl
            exact tn_vret rfl dX9_next_118 ⟨rfl, rfl, hw, FrC.rfl, False.elim (by have z9 := hq.2.1.1; omega), False.elim (by have z9 := hq.2.1.1; omega), False.elim (by have z9 := hq.2.1.1; omega), False.elim (by have z9 := hq.2.1.1; omega), False.elim (by have z9 := hq.2.1.1; omega)⟩
          · refine tn_aload_n dX9_next_59 rfl 0 rfl ?_
            refine tn_getI (ci := 9) (i := 4) (n := 85) (t := σ.2.1 85 a) dX9_next_60 rfl lay_9 (by decide) fl9_30 ha rfl rfl (rfl) ?_
            refine tn_sipush dX9_next_63 (by decide) ?_
            refine tn_icmp_eq (tgt := 118) dX9_next_66 (by decide) ⟨by omega, by omega⟩ ⟨by decide, by decide⟩ (fun h41 => ?_) (fun h41 => ?_)
            · have q42 : σ.2.1 84 a = σ.2.1 84 a := rfl
              have q43 : σ.2.1 85 a = σ.2.1 85 a := rfl
              exact tn_vret rfl dX9_next_118 ⟨rfl, rfl, hw, FrC.rfl, False.elim (by have z9 := hq.2.1.1; omega), False.elim (by have z9 := hq.2.1.1; omega), False.elim (by have z9 := hq.2.1.1; omega), False.elim (by have z9 := hq.2.1.1; omega), False.elim (by have z9 := hq.2.1.1; omega)⟩
            · refine tn_aload_n dX9_next_69 rfl 0 rfl ?_
              refine tn_dup dX9_next_70 rfl ?_
              refine tn_getI (ci := 9) (i := 3) (n := 84) (t := σ.2.1 84 a) dX9_next_71 rfl lay_9 (by decide) fl9_45 ha rfl rfl (rfl) ?_
              refine tn_iconst dX9_next_74 ?_
              refine tn_iadd dX9_next_75 ?_
              refine tn_putV (ci := 9) (i := 3) (n := 84) (r := false) (v := (σ.2.1 84 a) + 1) tyX9 tyX9_ok nmX9 dX9_next_76 rfl lay_9 (by decide) fl9_45 rfl (tyX9_ok 3 (by decide)) rfl rfl rfl ha rfl rfl ?_
              refine tn_aload_n dX9_next_79 rfl 0 rfl ?_
              refine tn_aload_n dX9_next_80 rfl 0 rfl ?_
              refine tn_getR (ci := 9) (i := 0) (n := 81) (x := xq2) dX9_next_81 rfl lay_9 (by decide) fl9_9 ha rfl rfl (rc_o (by decide) (hx3)) ?_
              refine tn_aload_n dX9_next_84 rfl 0 rfl ?_
              refine tn_getI (ci := 9) (i := 3) (n := 84) (t := (σ.2.1 84 a) + 1) dX9_next_85 rfl lay_9 (by decide) fl9_45 ha rfl rfl (ra_eq) ?_
              refine tn_ialdX (z := (σ.2.1 84 a) + 1) (hw.put (by decide) (by decide) (fo_84 (by omega))) dX9_next_88 hk4i (by omega) (by omega) (by omega) (fun v44 g45q g45 g45k => ?_)
              have g45u := g45k.2.2.1 hk4
              have g45Q : v44 = σ.2.1 (1000 + xq2) ((σ.2.1 84 a) + 1) := by rw [g45q, sA_k (by omega)]
              clear g45k g45q
              refine tn_putV (ci := 9) (i := 4) (n := 85) (r := false) (v := v44) tyX9 tyX9_ok nmX9 dX9_next_89 rfl lay_9 (by decide) fl9_30 rfl (tyX9_ok 4 (by decide)) rfl rfl rfl ha rfl rfl ?_
              refine tn_aload_n dX9_next_92 rfl 0 rfl ?_
              refine tn_aload_n dX9_next_93 rfl 0 rfl ?_
              refine tn_getR (ci := 9) (i := 1) (n := 82) (x := xq9) dX9_next_94 rfl lay_9 (by decide) fl9_15 ha rfl rfl (rc_o (by decide) (rc_o (by decide) (hx10))) ?_
              refine tn_aload_n dX9_next_97 rfl 0 rfl ?_
              refine tn_getI (ci := 9) (i := 3) (n := 84) (t := (σ.2.1 84 a) + 1) dX9_next_98 rfl lay_9 (by decide) fl9_45 ha rfl rfl (rc_o (by decide) (ra_eq)) ?_
              refine tn_ialdX (z := (σ.2.1 84 a) + 1) ((hw.put (by decide) (by decide) (fo_84 (by omega))).put (by decide) (by decide) (fo_85 (by omega))) dX9_next_101 hk11i (by omega) (by omega) (by omega) (fun v46 g47q g47 g47k => ?_)
              have g47Q : v46 = σ.2.1 (1000 + xq9) ((σ.2.1 84 a) + 1) := by rw [g47q, sA_k (by omega), sA_k (by omega)]
              clear g47k g47q
              refine tn_putV (ci := 9) (i := 5) (n := 86) (r := false) (v := v46) tyX9 tyX9_ok nmX9 dX9_next_102 rfl lay_9 (by decide) fl9_55 rfl (tyX9_ok 5 (by decide)) rfl rfl rfl ha rfl rfl ?_
              refine tn_aload_n dX9_next_105 rfl 0 rfl ?_
              refine tn_aload_n dX9_next_106 rfl 0 rfl ?_
              refine tn_getR (ci := 9) (i := 2) (n := 83) (x := xq16) dX9_next_107 rfl lay_9 (by decide) fl9_18 ha rfl rfl (rc_o (by decide) (rc_o (by decide) (rc_o (by decide) (hx17)))) ?_
              refine tn_aload_n dX9_next_110 rfl 0 rfl ?_
              refine tn_getI (ci := 9) (i := 3) (n := 84) (t := (σ.2.1 84 a) + 1) dX9_next_111 rfl lay_9 (by decide) fl9_45 ha rfl rfl (rc_o (by decide) (rc_o (by decide) (ra_eq))) ?_
              refine tn_ialdX (z := (σ.2.1 84 a) + 1) (((hw.put (by decide) (by decide) (fo_84 (by omega))).put (by decide) (by decide) (fo_85 (by omega))).put (by decide) (by decide) (fo_86 (by omega))) dX9_next_114 hk18i (by omega) (by omega) (by omega) (fun v48 g49q g49 g49k => ?_)
              have g49Q : v48 = σ.2.1 (1000 + xq16) ((σ.2.1 84 a) + 1) := by rw [g49q, sA_k (by omega), sA_k (by omega), sA_k (by omega)]
              clear g49k g49q
              refine tn_putV (ci := 9) (i := 6) (n := 87) (r := false) (v := v48) tyX9 tyX9_ok nmX9 dX9_next_115 rfl lay_9 (by decide) fl9_34 rfl (tyX9_ok 6 (by decide)) rfl rfl rfl ha rfl rfl ?_
              have q50 : (sA 87 a (v48) (sA 86 a (v46) (sA 85 a (v44) (sA 84 a ((σ.2.1 84 a) + 1) σ)))).2.1 84 a = (σ.2.1 84 a) + 1 := rc_o (by decide) (rc_o (by decide) (rc_o (by decide) (ra_eq)))
              have q51 : (sA 87 a (v48) (sA 86 a (v46) (sA 85 a (v44) (sA 84 a ((σ.2.1 84 a) + 1) σ)))).2.1 85 a = v44 := rc_o (by decide) (rc_o (by decide) (ra_eq))
              have q52 : (sA 87 a (v48) (sA 86 a (v46) (sA 85 a (v44) (sA 84 a ((σ.2.1 84 a) + 1) σ)))).2.1 84 a = (σ.2.1 84 a) + 1 := rc_o (by decide) (rc_o (by decide) (rc_o (by decide) (ra_eq)))
              have q53 : (sA 87 a (v48) (sA 86 a (v46) (sA 85 a (v44) (sA 84 a ((σ.2.1 84 a) + 1) σ)))).2.1 85 a = v44 := rc_o (by decide) (rc_o (by decide) (ra_eq))
              have q54 : (sA 87 a (v48) (sA 86 a (v46) (sA 85 a (v44) (sA 84 a ((σ.2.1 84 a) + 1) σ)))).2.1 86 a = v46 := rc_o (by decide) (ra_eq)
              have q55 : (sA 87 a (v48) (sA 86 a (v46) (sA 85 a (v44) (sA 84 a ((σ.2.1 84 a) + 1) σ)))).2.1 87 a = v48 := ra_eq
              have w56j : jx + 1 ≤ nx := by omega
              have w56 := hq.2.2.1 xq2 xq9 xq16 hx3 hx10 hx17 (jx + 1) w56j
              have w56i : σ.2.1 84 a + 1 = ((jx + 1 : Nat) : Int) := by omega
              rw [w56i] at g45Q
              rw [w56i] at g47Q
              rw [w56i] at g49Q
              exact tn_vret rfl dX9_next_118 ⟨rfl, rfl, ((((hw.put (by decide) (by decide) (fo_84 (by omega))).put (by decide) (by decide) (fo_85 (by omega))).put (by decide) (by decide) (fo_86 (by omega))).put (by decide) (by decide) (fo_87 (by omega))), ((((FrC.rfl.put (by decide) (by decide)).put (by decide) (by decide)).put (by decide) (by decide)).put (by decide) (by decide)), by unfold TKI at *; rw [q50, q51]; omega, by rw [q50]; omega, by unfold ADV TKI at *; rw [q50]; omega, ⟨⟨w56j, hq.1.2.1, by rw [q52]; omega⟩, ⟨by rw [q53, g45Q]; exact w56.1, by rw [q54, g47Q]; exact w56.2.1, by rw [q55, g49Q]; exact w56.2.2⟩, ((((hq.2.2.1).pt (by decide)).pt (by decide)).pt (by decide)).pt (by decide), hq.2.2.2⟩, ((((CHX.rfl.fld (by simp) (by decide)).fld (by simp) (by decide)).fld (by simp) (by decide)).fld (by simp) (by decide))⟩
end
section
set_option maxHeartbeats 1000000 in
set_option maxRecDepth 20000 in
theorem k_X5_refuse_m (d : Nat) {T : CT} {σ : MS} {a : Nat} {Sx : Int → Int} {nx jx : Nat} (ha : OB T a 5) (hw : WT T σ) (hTK : TKR σ a Sx nx jx) : Tn (d + 1) m_X5_refuse 0 T σ [(0, .ref a)] [] (fun ro T2 σ2 => ∃ v : Int, ro = some (.int (iI v)) ∧ T = T2 ∧ WT T2 σ2 ∧ FrC T [43, 44] σ σ2 ∧ (v = 0 ∨ v = 1) ∧ (v = 0) ∧ (FLC σ2 a (tkS Sx jx).1) ∧ (TKR σ2 a Sx nx jx) ∧ (CHX [(43, a), (44, a)] [] [] σ σ2)) := by
  refine tn_aload_n dX5_refuse_0 rfl 0 rfl ?_
  refine tn_iconst dX5_refuse_1 ?_
  refine tn_putV (ci := 5) (i := 10) (n := 43) (r := false) (v := 1) tyX5 tyX5_ok nmX5 dX5_refuse_2 rfl lay_5 (by decide) fl5_51 rfl (tyX5_ok 10 (by decide)) rfl rfl rfl ha rfl rfl ?_
  refine tn_aload_n dX5_refuse_5 rfl 0 rfl ?_
  refine tn_aload_n dX5_refuse_6 rfl 0 rfl ?_
  obtain ⟨xq1, hx2, hk3⟩ : ∃ x : Nat, σ.2.1 33 a = (x : Int) ∧ (T x).1 = 39 := wf_33 hw ha
  have hk3o : OB T xq1 9 := ⟨by omega, by rw [hk3]; rfl, by omega⟩
  refine tn_getR (ci := 5) (i := 0) (n := 33) (x := xq1) dX5_refuse_7 rfl lay_5 (by decide) fl5_12 ha rfl rfl (rc_o (by decide) (hx2)) ?_
  refine tn_getI (ci := 9) (i := 6) (n := 87) (t := σ.2.1 87 xq1) dX5_refuse_10 rfl lay_9 (by decide) fl5_74 hk3o rfl rfl (rc_o (by decide) (rfl)) ?_
  have g5 : ((-2147483648 : Int) ≤ σ.2.1 87 xq1 ∧ σ.2.1 87 xq1 ≤ 2147483647) := wf_87 hw hk3o
  refine tn_putV (ci := 5) (i := 11) (n := 44) (r := false) (v := σ.2.1 87 xq1) tyX5 tyX5_ok nmX5 dX5_refuse_13 rfl lay_5 (by decide) fl5_55 rfl (tyX5_ok 11 (by decide)) rfl rfl rfl ha rfl rfl ?_
  refine tn_iconst dX5_refuse_16 ?_
  have q6 : (sA 44 a (σ.2.1 87 xq1) (sA 43 a (1) σ)).2.1 43 a = 1 := rc_o (by decide) (ra_eq)
  have q7 : (sA 44 a (σ.2.1 87 xq1) (sA 43 a (1) σ)).2.1 44 a = σ.2.1 87 xq1 := ra_eq
  have w8 : σ.2.1 87 xq1 = (tkS Sx jx).1 := (hTK.2 xq1 hx2).2.1.2.2
  exact tn_zret (v := 0) rfl (by decide) dX5_refuse_17 ⟨_, rfl, rfl, ((hw.put (by decide) (by decide) (fo_43 (by omega))).put (by decide) (by decide) (fo_44 (by omega))), ((FrC.rfl.put (by decide) (by decide)).put (by decide) (by decide)), by omega, rfl, ⟨q6, q7.trans w8⟩, (hTK.pt (by decide) (by decide)).pt (by decide) (by decide), ((CHX.rfl.fld (by simp) (by decide)).fld (by simp) (by decide))⟩
end
section
set_option maxHeartbeats 1000000 in
set_option maxRecDepth 20000 in
theorem k_X5_note_m (d : Nat) {T : CT} {σ : MS} {a : Nat} {f : Int} {p : Int} (ha : OB T a 5) (h_f : -2147483648 ≤ f ∧ f ≤ 2147483647) (h_p : -2147483648 ≤ p ∧ p ≤ 2147483647) (hw : WT T σ) : Tn (d + 1) m_X5_note 0 T σ [(0, .ref a), (1, .int (iI f)), (2, .int (iI p))] [] (fun ro T2 σ2 => ro = none ∧ T = T2 ∧ WT T2 σ2 ∧ FrC T [43, 44] σ σ2 ∧ (NTQ σ σ2 a f p) ∧ (CHX [(43, a), (44, a)] [] [] σ σ2)) := by
  refine tn_aload_n dX5_note_0 rfl 0 rfl ?_
  refine tn_getI (ci := 5) (i := 10) (n := 43) (t := σ.2.1 43 a) dX5_note_1 rfl lay_5 (by decide) fl5_51 ha rfl rfl (rfl) ?_
  have g1 : ((-2147483648 : Int) ≤ σ.2.1 43 a ∧ σ.2.1 43 a ≤ 2147483647) := wf_43 hw ha
  refine tn_if_eq (tgt := 31) dX5_note_4 (by decide) ⟨by omega, by omega⟩ (fun h2 => ?_) (fun h2 => ?_)
  · refine tn_aload_n dX5_note_31 rfl 0 rfl ?_
    refine tn_iload_n dX5_note_32 rfl 1 rfl ?_
    refine tn_putV (ci := 5) (i := 10) (n := 43) (r := false) (v := f) tyX5 tyX5_ok nmX5 dX5_note_33 rfl lay_5 (by decide) fl5_51 rfl (tyX5_ok 10 (by decide)) rfl rfl rfl ha rfl rfl ?_
    refine tn_aload_n dX5_note_36 rfl 0 rfl ?_
    refine tn_iload_n dX5_note_37 rfl 2 rfl ?_
    refine tn_putV (ci := 5) (i := 11) (n := 44) (r := false) (v := p) tyX5 tyX5_ok nmX5 dX5_note_38 rfl lay_5 (by decide) fl5_55 rfl (tyX5_ok 11 (by decide)) rfl rfl rfl ha rfl rfl ?_
    have q3 : (sA 44 a (p) (sA 43 a (f) σ)).2.1 43 a = f := rc_o (by decide) (ra_eq)
    have q4 : (sA 44 a (p) (sA 43 a (f) σ)).2.1 44 a = p := ra_eq
    exact tn_vret rfl dX5_note_41 ⟨rfl, rfl, ((hw.put (by decide) (by decide) (fo_43 (by omega))).put (by decide) (by decide) (fo_44 (by omega))), ((FrC.rfl.put (by decide) (by decide)).put (by decide) (by decide)), by unfold NTQ cntN; rw [q3, q4, if_pos (by simp only; omega)], ((CHX.rfl.fld (by simp) (by decide)).fld (by simp) (by decide))⟩
  · refine tn_iload_n dX5_note_7 rfl 2 rfl ?_
    refine tn_aload_n dX5_note_8 rfl 0 rfl ?_
    refine tn_getI (ci := 5) (i := 11) (n := 44) (t := σ.2.1 44 a) dX5_note_9 rfl lay_5 (by decide) fl5_55 ha rfl rfl (rfl) ?_
    have g5 : ((-2147483648 : Int) ≤ σ.2.1 44 a ∧ σ.2.1 44 a ≤ 2147483647) := wf_44 hw ha
    refine tn_icmp_lt (tgt := 31) dX5_note_12 (by decide) ⟨by omega, by omega⟩ ⟨by omega, by omega⟩ (fun h6 => ?_) (fun h6 => ?_)
    · refine tn_aload_n dX5_note_31 rfl 0 rfl ?_
      refine tn_iload_n dX5_note_32 rfl 1 rfl ?_
      refine tn_putV (ci := 5) (i := 10) (n := 43) (r := false) (v := f) tyX5 tyX5_ok nmX5 dX5_note_33 rfl lay_5 (by decide) fl5_51 rfl (tyX5_ok 10 (by decide)) rfl rfl rfl ha rfl rfl ?_
      refine tn_aload_n dX5_note_36 rfl 0 rfl ?_
      refine tn_iload_n dX5_note_37 rfl 2 rfl ?_
      refine tn_putV (ci := 5) (i := 11) (n := 44) (r := false) (v := p) tyX5 tyX5_ok nmX5 dX5_note_38 rfl lay_5 (by decide) fl5_55 rfl (tyX5_ok 11 (by decide)) rfl rfl rfl ha rfl rfl ?_
      have q7 : (sA 44 a (p) (sA 43 a (f) σ)).2.1 43 a = f := rc_o (by decide) (ra_eq)
      have q8 : (sA 44 a (p) (sA 43 a (f) σ)).2.1 44 a = p := ra_eq
      exact tn_vret rfl dX5_note_41 ⟨rfl, rfl, ((hw.put (by decide) (by decide) (fo_43 (by omega))).put (by decide) (by decide) (fo_44 (by omega))), ((FrC.rfl.put (by decide) (by decide)).put (by decide) (by decide)), by unfold NTQ cntN; rw [q7, q8, if_pos (by simp only; omega)], ((CHX.rfl.fld (by simp) (by decide)).fld (by simp) (by decide))⟩
    · refine tn_iload_n dX5_note_15 rfl 2 rfl ?_
      refine tn_aload_n dX5_note_16 rfl 0 rfl ?_
      refine tn_getI (ci := 5) (i := 11) (n := 44) (t := σ.2.1 44 a) dX5_note_17 rfl lay_5 (by decide) fl5_55 ha rfl rfl (rfl) ?_
      refine tn_icmp_ne (tgt := 41) dX5_note_20 (by decide) ⟨by omega, by omega⟩ ⟨by omega, by omega⟩ (fun h9 => ?_) (fun h9 => ?_)
      · have q10 : σ.2.1 43 a = σ.2.1 43 a := rfl
        have q11 : σ.2.1 44 a = σ.2.1 44 a := rfl
        exact tn_vret rfl dX5_note_41 ⟨rfl, rfl, hw, FrC.rfl, by unfold NTQ cntN; rw [if_neg (by simp only; omega)], CHX.rfl⟩
      · refine tn_iload_n dX5_note_23 rfl 1 rfl ?_
        refine tn_aload_n dX5_note_24 rfl 0 rfl ?_
        refine tn_getI (ci := 5) (i := 10) (n := 43) (t := σ.2.1 43 a) dX5_note_25 rfl lay_5 (by decide) fl5_51 ha rfl rfl (rfl) ?_
        refine tn_icmp_ge (tgt := 41) dX5_note_28 (by decide) ⟨by omega, by omega⟩ ⟨by omega, by omega⟩ (fun h12 => ?_) (fun h12 => ?_)
        · have q13 : σ.2.1 43 a = σ.2.1 43 a := rfl
          have q14 : σ.2.1 44 a = σ.2.1 44 a := rfl
          exact tn_vret rfl dX5_note_41 ⟨rfl, rfl, hw, FrC.rfl, by unfold NTQ cntN; rw [if_neg (by simp only; omega)], CHX.rfl⟩
        · refine tn_aload_n dX5_note_31 rfl 0 rfl ?_
          refine tn_iload_n dX5_note_32 rfl 1 rfl ?_
          refine tn_putV (ci := 5) (i := 10) (n := 43) (r := false) (v := f) tyX5 tyX5_ok nmX5 dX5_note_33 rfl lay_5 (by decide) fl5_51 rfl (tyX5_ok 10 (by decide)) rfl rfl rfl ha rfl rfl ?_
          refine tn_aload_n dX5_note_36 rfl 0 rfl ?_
          refine tn_iload_n dX5_note_37 rfl 2 rfl ?_
          refine tn_putV (ci := 5) (i := 11) (n := 44) (r := false) (v := p) tyX5 tyX5_ok nmX5 dX5_note_38 rfl lay_5 (by decide) fl5_55 rfl (tyX5_ok 11 (by decide)) rfl rfl rfl ha rfl rfl ?_
          have q15 : (sA 44 a (p) (sA 43 a (f) σ)).2.1 43 a = f := rc_o (by decide) (ra_eq)
          have q16 : (sA 44 a (p) (sA 43 a (f) σ)).2.1 44 a = p := ra_eq
          exact tn_vret rfl dX5_note_41 ⟨rfl, rfl, ((hw.put (by decide) (by decide) (fo_43 (by omega))).put (by decide) (by decide) (fo_44 (by omega))), ((FrC.rfl.put (by decide) (by decide)).put (by decide) (by decide)), by unfold NTQ cntN; rw [q15, q16, if_pos (by simp only; omega)], ((CHX.rfl.fld (by simp) (by decide)).fld (by simp) (by decide))⟩
end
section
set_option maxHeartbeats 1000000 in
set_option maxRecDepth 20000 in
theorem k_X5_taken_m (d : Nat) {T : CT} {σ : MS} {a : Nat} {s : Int} {kp : Int} {Sx : Int → Int} {nx jx : Nat} {cx : CS} {Nx : Int} {Tg : CT} {gs : MS} {mx : MK} (ha : OB T a 5) (h_s : -2147483648 ≤ s ∧ s ≤ 2147483647) (hw : WT T σ) (hs : 40 ≤ s ∧ s ≤ 125) (hfx : RDX σ a Sx nx jx cx Nx) (hmg : MG Tg gs T σ a mx) (hkp : kp ≤ 150) (hrp : RP σ a kp) : Tn (d + 2) m_X5_taken 0 T σ [(0, .ref a), (1, .int (iI s))] [] (fun ro T2 σ2 => ∃ v : Int, ro = some (.int (iI v)) ∧ T = T2 ∧ WT T2 σ2 ∧ FrC T [43, 44, 84, 85, 86, 87] σ σ2 ∧ (v = 0 ∨ v = 1) ∧ (TQ σ2 a Sx nx jx cx Nx s v) ∧ (MG Tg gs T σ2 a mx) ∧ (RP σ2 a (kp - 4 * v))) := by
  have hSb := hfx.1.sb
  refine tn_aload_n dX5_taken_0 rfl 0 rfl ?_
  obtain ⟨xq1, hx2, hk3⟩ : ∃ x : Nat, σ.2.1 33 a = (x : Int) ∧ (T x).1 = 39 := wf_33 hw ha
  have hk3o : OB T xq1 9 := ⟨by omega, by rw [hk3]; rfl, by omega⟩
  refine tn_getR (ci := 5) (i := 0) (n := 33) (x := xq1) dX5_taken_1 rfl lay_5 (by decide) fl5_12 ha rfl rfl (hx2) ?_
  refine tn_getI (ci := 9) (i := 4) (n := 85) (t := σ.2.1 85 xq1) dX5_taken_4 rfl lay_9 (by decide) fl5_71 hk3o rfl rfl (rfl) ?_
  have g5 : ((-2147483648 : Int) ≤ σ.2.1 85 xq1 ∧ σ.2.1 85 xq1 ≤ 2147483647) := wf_85 hw hk3o
  have g5kd : σ.2.1 85 xq1 = ckd (tkS Sx jx) := (rfl).symm.trans ((hfx).1.kd (hx2))
  refine tn_iload_n dX5_taken_7 rfl 1 rfl ?_
  refine tn_icmp_eq (tgt := 16) dX5_taken_8 (by decide) ⟨by omega, by omega⟩ ⟨by omega, by omega⟩ (fun h6 => ?_) (fun h6 => ?_)
  · refine tn_aload_n dX5_taken_16 rfl 0 rfl ?_
    refine tn_getR (ci := 5) (i := 0) (n := 33) (x := xq1) dX5_taken_17 rfl lay_5 (by decide) fl5_12 ha rfl rfl (hx2) ?_
    refine tn_callV (M := m_X5_taken) (pc := 20) (ix := 93) (ci := 9) (M' := m_X9_next) (As := []) (rest := []) dX5_taken_20 ok_X9_next im_X9_next se_X9_next ml5_93 np_X9_next rfl rfl hk3o rfl (Nat.le_of_ble_eq_true rfl) (Nat.le_of_ble_eq_true rfl) rfl (k_X9_next_m (d) (T := T) (σ := σ) (a := xq1) hk3o hw (RP.tk hrp hw ha (hx2)) ((hfx).1.tk (hx2)) (by rw [(hfx).1.kd (hx2)]; omega)) (fun r7 T9 σ8 gt10 hp => ?_)
    obtain ⟨rfl, rfl, w17, F18, f11, f12, f13, f14, f15⟩ := hp
    clear gt10
    have fx19 : RDX σ8 a Sx nx (jx + 1) (cx) (Nx) := RDX.nx hfx hw ha (hx2) F18 f14
    have rp20 : RP σ8 a (kp - 4) := RP.next4 hrp (hx2) F18 (by decide) (by decide) (by decide) f11 f13 (by rw [show σ.2.1 85 xq1 = σ.2.1 85 xq1 from rfl]; omega)
    show Tn _ _ 23 T σ8 [(0, .ref a), (1, .int (iI s))] [] _
    refine tn_iconst dX5_taken_23 ?_
    have mg21 : MG Tg gs T σ8 a mx := (MG.tk hmg (hx2) f15)
    exact tn_zret (v := 1) rfl (by decide) dX5_taken_24 ⟨_, rfl, rfl, w17, (FrC.rfl.trans (FrC.sub F18 (by decide))), by omega, ⟨fun _ => ⟨by omega, fx19⟩, fun q => absurd q (by decide)⟩, mg21, (RP.up rp20 (by omega))⟩
  · refine tn_aload_n dX5_taken_11 rfl 0 rfl ?_
    refine tn_callV (M := m_X5_taken) (pc := 12) (ix := 90) (ci := 5) (M' := m_X5_refuse) (As := []) (rest := []) dX5_taken_12 ok_X5_refuse im_X5_refuse se_X5_refuse ml5_90 np_X5_refuse rfl rfl ha rfl (Nat.le_of_ble_eq_true rfl) (Nat.le_of_ble_eq_true rfl) rfl (k_X5_refuse_m (d) (T := T) (σ := σ) (a := a) ha hw (hfx).1.1) (fun r22 T24 σ23 gt25 hp => ?_)
    obtain ⟨v31, rfl, rfl, w32, F33, f26, f27, f28, f29, f30⟩ := hp
    clear gt25
    have rp34 : RP σ23 a (kp) := RP.frc hrp F33 (by decide) (by decide) (by decide) (by decide) (by decide)
    show Tn _ _ 15 T σ23 [(0, .ref a), (1, .int (iI s))] [.int (iI v31)] _
    have mg35 : MG Tg gs T σ23 a mx := (MG.nt hmg f30)
    exact tn_zret (v := v31) rfl (by omega) dX5_taken_15 ⟨_, rfl, rfl, w32, (FrC.rfl.trans (FrC.sub F33 (by decide))), by omega, ⟨fun q => absurd q (by omega), fun _ => ⟨by omega, f28, f29⟩⟩, mg35, (RP.up rp34 (by omega))⟩
end
section
set_option maxHeartbeats 1000000 in
set_option maxRecDepth 20000 in
theorem k_X5_register_m (d : Nat) {T : CT} {σ : MS} {a : Nat} {Sx : Int → Int} {nx jx : Nat} {cx : CS} {Nx : Int} {Tg : CT} {gs : MS} {mx : MK} (ha : OB T a 5) (hw : WT T σ) (hfx : RDX σ a Sx nx jx cx Nx) (hkd : ckd (tkS Sx jx) = 256) (hmg : MG Tg gs T σ a mx) : Tn (d + 2) m_X5_register 0 T σ [(0, .ref a)] [] (fun ro T2 σ2 => ∃ v : Int, ro = some (.int (iI v)) ∧ T = T2 ∧ WT T2 σ2 ∧ FrC T [7, 43, 44, 521] σ σ2 ∧ (-2147483648 ≤ v ∧ v ≤ 2147483647) ∧ (RDX σ2 a Sx nx jx (uC cx (4, (tkS Sx jx).1, 0, (tkS Sx jx).2.2.2.2)) Nx) ∧ (RGV (uC cx (4, (tkS Sx jx).1, 0, (tkS Sx jx).2.2.2.2)) (tkS Sx jx).2.2.2.2 v) ∧ (MG Tg gs T σ2 a mx)) := by
  have hSb := hfx.1.sb
  refine tn_aload_n dX5_register_0 rfl 0 rfl ?_
  refine tn_aload_n dX5_register_1 rfl 0 rfl ?_
  obtain ⟨xq1, hx2, hk3⟩ : ∃ x : Nat, σ.2.1 33 a = (x : Int) ∧ (T x).1 = 39 := wf_33 hw ha
  have hk3o : OB T xq1 9 := ⟨by omega, by rw [hk3]; rfl, by omega⟩
  refine tn_getR (ci := 5) (i := 0) (n := 33) (x := xq1) dX5_register_2 rfl lay_5 (by decide) fl5_12 ha rfl rfl (hx2) ?_
  refine tn_getI (ci := 9) (i := 5) (n := 86) (t := σ.2.1 86 xq1) dX5_register_5 rfl lay_9 (by decide) fl5_96 hk3o rfl rfl (rfl) ?_
  have g5 : ((-2147483648 : Int) ≤ σ.2.1 86 xq1 ∧ σ.2.1 86 xq1 ≤ 2147483647) := wf_86 hw hk3o
  have g5ky : NKY (tkS Sx jx) (σ.2.1 86 xq1) := by rw [← show σ.2.1 86 xq1 = σ.2.1 86 xq1 from rfl]; exact (hfx).1.ky (hx2)
  refine tn_callV (M := m_X5_register) (pc := 8) (ix := 173) (ci := 5) (M' := m_X5_nameIndex) (As := [.int (iI (σ.2.1 86 xq1))]) (rest := []) dX5_register_8 ok_X5_nameIndex im_X5_nameIndex se_X5_nameIndex ml5_173 np_X5_nameIndex rfl rfl ha rfl (Nat.le_of_ble_eq_true rfl) (Nat.le_of_ble_eq_true rfl) rfl (k_X5_nameIndex_f (d) (T := T) (σ := σ) (a := a) (k := σ.2.1 86 xq1) ha (by omega) hw ) (fun r6 T8 σ7 gt9 hp => ?_)
  obtain ⟨v12, rfl, rfl, rfl, f10, f11⟩ := hp
  clear gt9
  have nf13k : KW (σ.2.1 86 xq1) (tkS Sx jx).2.2.2.2 := g5ky.kw ((ck_nam (tkS_v hSb jx)).mp hkd).1
  have nf13 : v12 ≠ -1 ↔ fndC cx (tkS Sx jx).2.2.2.2 := NIQ.fd f11 hfx.2.1 hw ha nf13k
  show Tn _ _ 11 T σ [(0, .ref a)] [.int (iI v12)] _
  refine tn_istore_n (L' := [(1, .int (iI v12)), (0, .ref a)]) dX5_register_11 rfl (by decide) rfl ?_
  refine tn_iload_n dX5_register_12 rfl 0 rfl ?_
  refine tn_iconst dX5_register_13 ?_
  refine tn_icmp_eq (tgt := 19) dX5_register_14 (by decide) ⟨by omega, by omega⟩ ⟨by decide, by decide⟩ (fun h14 => ?_) (fun h14 => ?_)
  · obtain ⟨xq15, hx16, hk17⟩ : ∃ x : Nat, σ.2.1 35 a = (x : Int) ∧ (T x).1 = 31 := wf_35 hw ha
    have hk17o : OB T xq15 1 := ⟨by omega, by rw [hk17]; rfl, by omega⟩
    have g719 : σ.2.1 7 xq15 = cx.nn := hfx.2.1.1 xq15 hx16
    refine tn_aload_n dX5_register_19 rfl 1 rfl ?_
    refine tn_getR (ci := 5) (i := 2) (n := 35) (x := xq15) dX5_register_20 rfl lay_5 (by decide) fl5_47 ha rfl rfl (hx16) ?_
    refine tn_getI (ci := 1) (i := 2) (n := 7) (t := σ.2.1 7 xq15) dX5_register_23 rfl lay_1 (by decide) fl5_152 hk17o rfl rfl (rfl) ?_
    have g20 : ((0 : Int) ≤ σ.2.1 7 xq15 ∧ σ.2.1 7 xq15 ≤ 12) := wf_7 hw hk17o
    refine tn_bipush dX5_register_26 (by decide) ?_
    refine tn_icmp_lt (tgt := 45) dX5_register_28 (by decide) ⟨by omega, by omega⟩ ⟨by decide, by decide⟩ (fun h21 => ?_) (fun h21 => ?_)
    · refine tn_aload_n dX5_register_45 rfl 1 rfl ?_
      obtain ⟨xq22, hx23, hk24, hl25⟩ : ∃ x : Nat, σ.2.1 48 a = (x : Int) ∧ AR T x 21 12 12 := wf_48 hw ha
      have hk24i : IA T xq22 := by unfold IA; omega
      refine tn_getR (ci := 5) (i := 15) (n := 48) (x := xq22) dX5_register_46 rfl lay_5 (by decide) fl5_40 ha rfl rfl (hx23) ?_
      refine tn_aload_n dX5_register_49 rfl 1 rfl ?_
      refine tn_getR (ci := 5) (i := 2) (n := 35) (x := xq15) dX5_register_50 rfl lay_5 (by decide) fl5_47 ha rfl rfl (hx16) ?_
      refine tn_getI (ci := 1) (i := 2) (n := 7) (t := σ.2.1 7 xq15) dX5_register_53 rfl lay_1 (by decide) fl5_152 hk17o rfl rfl (rfl) ?_
      refine tn_aload_n dX5_register_56 rfl 1 rfl ?_
      refine tn_getR (ci := 5) (i := 0) (n := 33) (x := xq1) dX5_register_57 rfl lay_5 (by decide) fl5_12 ha rfl rfl (hx2) ?_
      refine tn_getI (ci := 9) (i := 5) (n := 86) (t := σ.2.1 86 xq1) dX5_register_60 rfl lay_9 (by decide) fl5_96 hk3o rfl rfl (rfl) ?_
      refine tn_callSN (M := m_X5_register) (pc := 63) (ix := 129) (M' := m_X11_put) (As := [.ref xq22, .int (iI (σ.2.1 7 xq15)), .int (iI (σ.2.1 86 xq1))]) (rest := []) dX5_register_63 ok_X11_put stt_X11_put nl5_129 np_X11_put rfl (Nat.le_of_ble_eq_true rfl) (Nat.le_of_ble_eq_true rfl) rfl (k_X11_put_21 (d) (T := T) (σ := σ) (x := xq22) (i := σ.2.1 7 xq15) (y := σ.2.1 86 xq1) hk24i (by omega) hk24 (by omega) (by omega) hw ) (fun r26 T28 σ27 gt29 hp => ?_)
      obtain ⟨rfl, rfl, w32, F33, f30⟩ := hp
      clear gt29
      have ar34 : xq22 ∈ RRS gs a ∧ xq22 ≠ adN σ 5 (adN gs 35 a) := MG.r8 hmg hw ha (hx23) (ar_of (wf_48 hw ha) (hx23)) (by decide)
      show Tn _ _ 66 T σ27 [(1, .int (iI v12)), (0, .ref a)] [] _
      refine tn_aload_n dX5_register_66 rfl 1 rfl ?_
      refine tn_getR (ci := 5) (i := 2) (n := 35) (x := xq15) dX5_register_67 rfl lay_5 (by decide) fl5_47 ha rfl rfl (rc_F F33 (Or.inl (by decide)) (by decide) (hx16)) ?_
      refine tn_dup dX5_register_70 rfl ?_
      refine tn_getI (ci := 1) (i := 2) (n := 7) (t := σ.2.1 7 xq15) dX5_register_71 rfl lay_1 (by decide) fl5_152 hk17o rfl rfl (rc_F F33 (Or.inl (by decide)) (by decide) (rfl)) ?_
      refine tn_iconst dX5_register_74 ?_
      refine tn_iadd dX5_register_75 ?_
      refine tn_putV (ci := 1) (i := 2) (n := 7) (r := false) (v := (σ.2.1 7 xq15) + 1) tyX1 tyX1_ok nmX1 dX5_register_76 rfl lay_1 (by decide) fl5_152 rfl (tyX1_ok 2 (by decide)) rfl rfl rfl hk17o rfl rfl ?_
      refine tn_aload_n dX5_register_79 rfl 1 rfl ?_
      refine tn_getR (ci := 5) (i := 2) (n := 35) (x := xq15) dX5_register_80 rfl lay_5 (by decide) fl5_47 ha rfl rfl (rc_o (by decide) (rc_F F33 (Or.inl (by decide)) (by decide) (hx16))) ?_
      refine tn_getI (ci := 1) (i := 2) (n := 7) (t := (σ.2.1 7 xq15) + 1) dX5_register_83 rfl lay_1 (by decide) fl5_152 hk17o rfl rfl (ra_eq) ?_
      refine tn_iconst dX5_register_86 ?_
      refine tn_isub dX5_register_87 ?_
      have w35 := RDX.nw hfx hw ha hx23 hx16 nf13k F33 (by rw [f30, if_pos ⟨by omega, by omega⟩, g719])
      have mg36 : MG Tg gs T (sA 7 xq15 ((σ.2.1 7 xq15) + 1) σ27) a mx := (MG.f7 (MG.pq hmg ar34 f30) (rc_F F33 (Or.inl (by decide)) (by decide) (hx16)))
      exact tn_iret rfl dX5_register_88 ⟨_, rfl, rfl, (w32.put (by decide) (by decide) (fo_7 (by omega))), ((FrC.rfl.trans (FrC.sub F33 (by decide))).put (by decide) (by decide)), by omega, RDX.cq (by rw [← g719] at w35; exact w35) (uC4w (fun q => absurd (nf13.mpr q) (by omega)) (by omega)).symm, RGV.nw (fun q => absurd (nf13.mpr q) (by omega)) (by omega) (by have z9 := wf_7 hw (code_ob hw ha hx16); omega) (by omega), mg36⟩
    · refine tn_aload_n dX5_register_31 rfl 1 rfl ?_
      refine tn_iconst dX5_register_32 ?_
      refine tn_aload_n dX5_register_33 rfl 1 rfl ?_
      refine tn_getR (ci := 5) (i := 0) (n := 33) (x := xq1) dX5_register_34 rfl lay_5 (by decide) fl5_12 ha rfl rfl (hx2) ?_
      refine tn_getI (ci := 9) (i := 6) (n := 87) (t := σ.2.1 87 xq1) dX5_register_37 rfl lay_9 (by decide) fl5_74 hk3o rfl rfl (rfl) ?_
      have g37 : ((-2147483648 : Int) ≤ σ.2.1 87 xq1 ∧ σ.2.1 87 xq1 ≤ 2147483647) := wf_87 hw hk3o
      have g37pl : σ.2.1 87 xq1 = (tkS Sx jx).1 := (rfl).symm.trans ((hfx).1.pl (hx2))
      refine tn_callV (M := m_X5_register) (pc := 40) (ix := 113) (ci := 5) (M' := m_X5_note) (As := [.int (iI 5), .int (iI (σ.2.1 87 xq1))]) (rest := []) dX5_register_40 ok_X5_note im_X5_note se_X5_note ml5_113 np_X5_note rfl rfl ha rfl (Nat.le_of_ble_eq_true rfl) (Nat.le_of_ble_eq_true rfl) rfl (k_X5_note_m (d) (T := T) (σ := σ) (a := a) (f := 5) (p := σ.2.1 87 xq1) ha (by decide) (by omega) hw ) (fun r38 T40 σ39 gt41 hp => ?_)
      obtain ⟨rfl, rfl, w45, F46, f42, f43⟩ := hp
      clear gt41
      have fx47 : RDX σ39 a Sx nx jx (fpC (cntN 5 (σ.2.1 87 xq1) (cx).fp) (cx)) (Nx) := RDX.nt hfx hw ha F46 f42
      show Tn _ _ 43 T σ39 [(1, .int (iI v12)), (0, .ref a)] [] _
      refine tn_iconst dX5_register_43 ?_
      have mg48 : MG Tg gs T σ39 a mx := (MG.nt hmg f43)
      exact tn_iret rfl dX5_register_44 ⟨_, rfl, rfl, w45, (FrC.rfl.trans (FrC.sub F46 (by decide))), by omega, RDX.cq fx47 (by rw [g37pl]; exact (uC4n (fun q => absurd (nf13.mpr q) (by omega)) (by omega)).symm), RGV.fu (fun q => absurd (nf13.mpr q) (by omega)) (by omega), mg48⟩
  · refine tn_iload_n dX5_register_17 rfl 0 rfl ?_
    obtain ⟨xq49, hx50, hk51⟩ : ∃ x : Nat, σ.2.1 35 a = (x : Int) ∧ (T x).1 = 31 := wf_35 hw ha
    have hk51o : OB T xq49 1 := ⟨by omega, by rw [hk51]; rfl, by omega⟩
    obtain ⟨xq53, hx54, hk55, hl56⟩ : ∃ x : Nat, σ.2.1 48 a = (x : Int) ∧ AR T x 21 12 12 := wf_48 hw ha
    have hk55i : IA T xq53 := by unfold IA; omega
    exact tn_iret rfl dX5_register_18 ⟨_, rfl, rfl, hw, FrC.rfl, by omega, RDX.cq hfx (uC4f (nf13.mp (by omega))).symm, RGV.fd nf13k hfx.2.1 hx50 hx54 ((f11.resolve_left (fun q9 => absurd q9.1 (by omega))).2 xq49 xq53 hx50 hx54) (nf13.mp (by omega)), hmg⟩
end
section
set_option maxHeartbeats 1000000 in
set_option maxRecDepth 20000 in
theorem k_X5_join_n (d : Nat) {T : CT} {σ : MS} {a : Nat} {k : Int} {e : Int} {l : Int} {kp : Int} {Sx : Int → Int} {nx jx : Nat} {cx : CS} {Nx : Int} {Tg : CT} {gs : MS} {mx : MK} (ha : OB T a 5) (h_k : -2147483648 ≤ k ∧ k ≤ 2147483647) (h_e : -2147483648 ≤ e ∧ e ≤ 2147483647) (h_l : -2147483648 ≤ l ∧ l ≤ 2147483647) (hw : WT T σ) (hk : k ≠ 14 ∧ k ≠ 15) (hk2 : k ≠ 12 ∧ 0 ≤ k) (hfx : RDX σ a Sx nx jx cx Nx) (hmg : MG Tg gs T σ a mx) (hmb : MBD mx) (hkp : kp ≤ 150) (hrp : RP σ a kp) : Tn (d + 4) m_X5_join 0 T σ [(0, .ref a), (1, .int (iI k)), (2, .int (iI e)), (3, .int (iI l))] [] (fun ro T2 σ2 => ro = none ∧ WT T2 σ2 ∧ FrC T [5, 6, 47, 50, 51] σ σ2 ∧ (RDX σ2 a Sx nx jx cx (Nx + 1)) ∧ (MG Tg gs T2 σ2 a (mx.jn k e l)) ∧ (RP σ2 a (kp + 1))) := by
  have hSb := hfx.1.sb
  have hb2 := MG.bd2 hmg hmb hrp hw ha (by omega)
  refine tn_sipush dX5_join_0 (by decide) ?_
  refine tn_aload_n dX5_join_3 rfl 0 rfl ?_
  refine tn_getI (ci := 5) (i := 14) (n := 47) (t := σ.2.1 47 a) dX5_join_4 rfl lay_5 (by decide) fl5_136 ha rfl rfl (rfl) ?_
  have g1 : ((-2147483648 : Int) ≤ σ.2.1 47 a ∧ σ.2.1 47 a ≤ 2147483647) := wf_47 hw ha
  refine tn_iadd dX5_join_7 ?_
  refine tn_istore (L' := [(4, .int (iI (1000 + (σ.2.1 47 a)))), (0, .ref a), (1, .int (iI k)), (2, .int (iI e)), (3, .int (iI l))]) dX5_join_8 (by decide) rfl ?_
  refine tn_aload_n dX5_join_10 rfl 1 rfl ?_
  refine tn_dup dX5_join_11 rfl ?_
  refine tn_getI (ci := 5) (i := 14) (n := 47) (t := σ.2.1 47 a) dX5_join_12 rfl lay_5 (by decide) fl5_136 ha rfl rfl (rfl) ?_
  refine tn_iconst dX5_join_15 ?_
  refine tn_iadd dX5_join_16 ?_
  refine tn_putV (ci := 5) (i := 14) (n := 47) (r := false) (v := (σ.2.1 47 a) + 1) tyX5 tyX5_ok nmX5 dX5_join_17 rfl lay_5 (by decide) fl5_136 rfl (tyX5_ok 14 (by decide)) rfl rfl rfl ha rfl rfl ?_
  refine tn_aload_n dX5_join_20 rfl 1 rfl ?_
  obtain ⟨xq2, hx3, hk4⟩ : ∃ x : Nat, σ.2.1 35 a = (x : Int) ∧ (T x).1 = 31 := wf_35 hw ha
  have hk4o : OB T xq2 1 := ⟨by omega, by rw [hk4]; rfl, by omega⟩
  refine tn_getR (ci := 5) (i := 2) (n := 35) (x := xq2) dX5_join_21 rfl lay_5 (by decide) fl5_47 ha rfl rfl (rc_o (by decide) (hx3)) ?_
  refine tn_iload_n dX5_join_24 rfl 2 rfl ?_
  refine tn_iload dX5_join_25 0 rfl ?_
  refine tn_iconst dX5_join_27 ?_
  refine tn_callV (M := m_X5_join) (pc := 28) (ix := 139) (ci := 1) (M' := m_X1_append) (As := [.int (iI k), .int (iI (1000 + (σ.2.1 47 a))), .int (iI 0)]) (rest := []) dX5_join_28 ok_X1_append im_X1_append se_X1_append ml5_139 np_X1_append rfl rfl hk4o rfl (Nat.le_of_ble_eq_true rfl) (Nat.le_of_ble_eq_true rfl) rfl (k_append_c (d) (T := T) (σ := (sA 47 a ((σ.2.1 47 a) + 1) σ)) (a := xq2) (k := k) (p := 1000 + (σ.2.1 47 a)) (q := 0) hk4o hk4 (by omega) (by omega) (by decide) (hw.put (by decide) (by decide) (fo_47 (by omega))) (RP.cnt (hrp.put (by decide)) (hw.put (by decide) (by decide) (fo_47 (by omega))) ha (rc_o (by decide) (hx3)) (by omega)) (by omega)) (fun r6 T8 σ7 gt9 hp => ?_)
  obtain ⟨rfl, w14, F15, f10, f11, f12⟩ := hp
  have mg16 : MG Tg gs T (sA 47 a ((σ.2.1 47 a) + 1) σ) a ((mx).sT ((σ.2.1 47 a) + 1)) := (MG.f47 hmg)
  have nn17 : 0 ≤ (((mx).sT ((σ.2.1 47 a) + 1))).n := by have z7 : WT T (sA 47 a ((σ.2.1 47 a) + 1) σ) := (hw.put (by decide) (by decide) (fo_47 (by omega))); have z6 : (sA 47 a ((σ.2.1 47 a) + 1) σ).2.1 35 a = (xq2 : Int) := rc_o (by decide) (hx3); have z9 := wf_6 z7 (code_ob z7 ha z6); have z8 := MG.e6 mg16 (MG.cd mg16 z6); omega
  have a3518 : (sA 47 a ((σ.2.1 47 a) + 1) σ).2.1 35 a = (xq2 : Int) := rc_o (by decide) (hx3)
  have fx19 : RDX σ7 a Sx nx jx (cx) (Nx + 1) := RDX.ap (hfx.pt (by decide) (by decide)) (hw.put (by decide) (by decide) (fo_47 (by omega))) ha (rc_o (by decide) (hx3)) F15 f10
  replace ha : OB T8 a 5 := gt9.ob ha
  have rp20 : RP σ7 a (kp + 1) := RP.app (hrp.put (by decide)) (rc_o (by decide) (hx3)) F15 (by decide) (by decide) (by decide) (by decide) f10
  have mg21 : MG Tg gs T8 σ7 a ((((mx).sT ((σ.2.1 47 a) + 1))).put (rwI (k) (1000 + (σ.2.1 47 a)) (0))) := MG.app mg16 (MG.cd mg16 a3518) gt9 f10 f11 f12 (by omega)
  show Tn _ _ 31 T8 σ7 [(4, .int (iI (1000 + (σ.2.1 47 a)))), (0, .ref a), (1, .int (iI k)), (2, .int (iI e)), (3, .int (iI l))] [] _
  refine tn_aload_n dX5_join_31 rfl 1 rfl ?_
  obtain ⟨xq22, hx23, hk24⟩ : ∃ x : Nat, σ7.2.1 35 a = (x : Int) ∧ (T8 x).1 = 31 := wf_35 w14 ha
  have hk24o : OB T8 xq22 1 := ⟨by omega, by rw [hk24]; rfl, by omega⟩
  refine tn_getR (ci := 5) (i := 2) (n := 35) (x := xq22) dX5_join_32 rfl lay_5 (by decide) fl5_47 ha rfl rfl (hx23) ?_
  refine tn_iconst dX5_join_35 ?_
  refine tn_iload_n dX5_join_36 rfl 3 rfl ?_
  refine tn_iload_n dX5_join_37 rfl 4 rfl ?_
  have c626 : 1 ≤ σ7.2.1 6 xq22 := MG.c1 (m := ((mx).sT ((σ.2.1 47 a) + 1))) mg21 (MG.cd mg21 (hx23)) nn17
  refine tn_callV (M := m_X5_join) (pc := 38) (ix := 143) (ci := 1) (M' := m_X1_lastOperand) (As := [.int (iI 0), .int (iI e), .int (iI l)]) (rest := []) dX5_join_38 ok_X1_lastOperand im_X1_lastOperand se_X1_lastOperand ml5_143 np_X1_lastOperand rfl rfl hk24o rfl (Nat.le_of_ble_eq_true rfl) (Nat.le_of_ble_eq_true rfl) rfl (k_lastOperand_c (d + 2) (T := T8) (σ := σ7) (a := xq22) (i := 0) (k := e) (p := l) hk24o hk24 (by decide) (by omega) (by omega) w14 (by omega) (by omega)) (fun r27 T29 σ28 gt30 hp => ?_)
  obtain ⟨rfl, rfl, w34, F35, f31, f32⟩ := hp
  clear gt30
  have mg36 : MG Tg gs T8 σ28 a ((((mx).sT ((σ.2.1 47 a) + 1))).put (uZ (uZ (rwI (k) (1000 + (σ.2.1 47 a)) (0)) (3 + 2 * 0) (e)) (4 + 2 * 0) (l))) := MG.lo (m := ((mx).sT ((σ.2.1 47 a) + 1))) mg21 (MG.cd mg21 (show σ7.2.1 35 a = (xq22 : Int) from hx23)) f31 f32 (by decide) (by show (k : Int) ≠ 12; omega) nn17
  have fx37 : RDX σ28 a Sx nx jx (cx) (Nx + 1) := RDX.fc fx19 w14 ha F35 (by decide) (by decide)
  have rp38 : RP σ28 a (kp + 1) := RP.frc rp20 F35 (by decide) (by decide) (by decide) (by decide) (by decide)
  show Tn _ _ 41 T8 σ28 [(4, .int (iI (1000 + (σ.2.1 47 a)))), (0, .ref a), (1, .int (iI k)), (2, .int (iI e)), (3, .int (iI l))] [] _
  refine tn_aload_n dX5_join_41 rfl 1 rfl ?_
  refine tn_getR (ci := 5) (i := 2) (n := 35) (x := xq22) dX5_join_42 rfl lay_5 (by decide) fl5_47 ha rfl rfl (rc_F F35 (Or.inl (by decide)) (by decide) (hx23)) ?_
  refine tn_iconst dX5_join_45 ?_
  refine tn_aload_n dX5_join_46 rfl 1 rfl ?_
  refine tn_getI (ci := 5) (i := 17) (n := 50) (t := σ7.2.1 50 a) dX5_join_47 rfl lay_5 (by decide) fl5_216 ha rfl rfl (rc_F F35 (Or.inl (by decide)) (by decide) (rfl)) ?_
  have g39 : ((-2147483648 : Int) ≤ σ7.2.1 50 a ∧ σ7.2.1 50 a ≤ 2147483647) := wf_50 w14 ha
  refine tn_aload_n dX5_join_50 rfl 1 rfl ?_
  refine tn_getI (ci := 5) (i := 18) (n := 51) (t := σ7.2.1 51 a) dX5_join_51 rfl lay_5 (by decide) fl5_219 ha rfl rfl (rc_F F35 (Or.inl (by decide)) (by decide) (rfl)) ?_
  have g40 : ((-2147483648 : Int) ≤ σ7.2.1 51 a ∧ σ7.2.1 51 a ≤ 2147483647) := wf_51 w14 ha
  have c641 : 1 ≤ σ28.2.1 6 xq22 := MG.c1 (m := ((mx).sT ((σ.2.1 47 a) + 1))) mg36 (MG.cd mg36 (rc_F F35 (Or.inl (by decide)) (by decide) (hx23))) nn17
  refine tn_callV (M := m_X5_join) (pc := 54) (ix := 143) (ci := 1) (M' := m_X1_lastOperand) (As := [.int (iI 1), .int (iI (σ7.2.1 50 a)), .int (iI (σ7.2.1 51 a))]) (rest := []) dX5_join_54 ok_X1_lastOperand im_X1_lastOperand se_X1_lastOperand ml5_143 np_X1_lastOperand rfl rfl hk24o rfl (Nat.le_of_ble_eq_true rfl) (Nat.le_of_ble_eq_true rfl) rfl (k_lastOperand_c (d + 2) (T := T8) (σ := σ28) (a := xq22) (i := 1) (k := σ7.2.1 50 a) (p := σ7.2.1 51 a) hk24o hk24 (by decide) (by omega) (by omega) w34 (by omega) (by omega)) (fun r42 T44 σ43 gt45 hp => ?_)
  obtain ⟨rfl, rfl, w49, F50, f46, f47⟩ := hp
  clear gt45
  have mg51 : MG Tg gs T8 σ43 a ((((mx).sT ((σ.2.1 47 a) + 1))).put (uZ (uZ (uZ (uZ (rwI (k) (1000 + (σ.2.1 47 a)) (0)) (3 + 2 * 0) (e)) (4 + 2 * 0) (l)) (3 + 2 * 1) (σ7.2.1 50 a)) (4 + 2 * 1) (σ7.2.1 51 a))) := MG.lo (m := ((mx).sT ((σ.2.1 47 a) + 1))) mg36 (MG.cd mg36 (show σ28.2.1 35 a = (xq22 : Int) from rc_F F35 (Or.inl (by decide)) (by decide) (hx23))) f46 f47 (by decide) (by show (k : Int) ≠ 12; omega) nn17
  have z52 : σ7.2.1 50 a = mx.pk := by have z0 := MG.e50 mg36; have z1 : σ28.2.1 50 a = mx.pk := z0; have z2 : σ28.2.1 50 a = σ7.2.1 50 a := rc_F F35 (Or.inl (by decide)) (by decide) (rfl); omega
  have z53 : σ7.2.1 51 a = mx.pv := by have z0 := MG.e51 mg36; have z1 : σ28.2.1 51 a = mx.pv := z0; have z2 : σ28.2.1 51 a = σ7.2.1 51 a := rc_F F35 (Or.inl (by decide)) (by decide) (rfl); omega
  have fx54 : RDX σ43 a Sx nx jx (cx) (Nx + 1) := RDX.fc fx37 w34 ha F50 (by decide) (by decide)
  have rp55 : RP σ43 a (kp + 1) := RP.frc rp38 F50 (by decide) (by decide) (by decide) (by decide) (by decide)
  show Tn _ _ 57 T8 σ43 [(4, .int (iI (1000 + (σ.2.1 47 a)))), (0, .ref a), (1, .int (iI k)), (2, .int (iI e)), (3, .int (iI l))] [] _
  refine tn_aload_n dX5_join_57 rfl 1 rfl ?_
  refine tn_iconst dX5_join_58 ?_
  refine tn_putV (ci := 5) (i := 17) (n := 50) (r := false) (v := 2) tyX5 tyX5_ok nmX5 dX5_join_59 rfl lay_5 (by decide) fl5_216 rfl (tyX5_ok 17 (by decide)) rfl rfl rfl ha rfl rfl ?_
  refine tn_aload_n dX5_join_62 rfl 1 rfl ?_
  refine tn_iload dX5_join_63 0 rfl ?_
  refine tn_putV (ci := 5) (i := 18) (n := 51) (r := false) (v := 1000 + (σ.2.1 47 a)) tyX5 tyX5_ok nmX5 dX5_join_65 rfl lay_5 (by decide) fl5_219 rfl (tyX5_ok 18 (by decide)) rfl rfl rfl ha rfl rfl ?_
  have mg56 : MG Tg gs T8 (sA 51 a (1000 + (σ.2.1 47 a)) (sA 50 a (2) σ43)) a ((((((((mx).sT ((σ.2.1 47 a) + 1))).put (uZ (uZ (uZ (uZ (rwI (k) (1000 + (σ.2.1 47 a)) (0)) (3 + 2 * 0) (e)) (4 + 2 * 0) (l)) (3 + 2 * 1) (σ7.2.1 50 a)) (4 + 2 * 1) (σ7.2.1 51 a)))).sK (2))).sV (1000 + (σ.2.1 47 a))) := (MG.f51 (MG.f50 mg51))
  have j479 : σ.2.1 47 a = mx.tmp := MG.e47 hmg
  exact tn_vret rfl dX5_join_68 ⟨rfl, ((w49.put (by decide) (by decide) (fo_50 (by omega))).put (by decide) (by decide) (fo_51 (by omega))), ((((((FrC.rfl.put (by decide) (by decide)).trans (FrC.sub F15 (by decide))).trans (FrC.sub (FrC.old F35 gt9) (by decide))).trans (FrC.sub (FrC.old F50 gt9) (by decide))).put (by decide) (by decide)).put (by decide) (by decide)), RDX.nq ((fx54.pt (by decide) (by decide)).pt (by decide) (by decide)) (by omega), (MG.cg mg56 (by rw [jn_it, j479, z52, z53]; rfl)), (RP.up ((rp55.put (by decide)).put (by decide)) (by omega))⟩
end
section
set_option maxHeartbeats 1000000 in
set_option maxRecDepth 20000 in
theorem k_X5_newLabel_n (d : Nat) {T : CT} {σ : MS} {a : Nat} {Sx : Int → Int} {nx jx : Nat} {cx : CS} {Nx : Int} {Tg : CT} {gs : MS} {mx : MK} (ha : OB T a 5) (hw : WT T σ) (hfx : RDX σ a Sx nx jx cx Nx) (hmg : MG Tg gs T σ a mx) (hlb : 0 ≤ σ.2.1 46 a ∧ σ.2.1 46 a ≤ 100000) : Tn (d + 1) m_X5_newLabel 0 T σ [(0, .ref a)] [] (fun ro T2 σ2 => ∃ v : Int, ro = some (.int (iI v)) ∧ T = T2 ∧ WT T2 σ2 ∧ FrC T [46] σ σ2 ∧ (-2147483648 ≤ v ∧ v ≤ 2147483647) ∧ (v = mx.lab) ∧ (MG Tg gs T σ2 a mx.nl)) := by
  have hSb := hfx.1.sb
  refine tn_aload_n dX5_newLabel_0 rfl 0 rfl ?_
  refine tn_dup dX5_newLabel_1 rfl ?_
  refine tn_getI (ci := 5) (i := 13) (n := 46) (t := σ.2.1 46 a) dX5_newLabel_2 rfl lay_5 (by decide) fl5_133 ha rfl rfl (rfl) ?_
  have g1 : ((-2147483648 : Int) ≤ σ.2.1 46 a ∧ σ.2.1 46 a ≤ 2147483647) := wf_46 hw ha
  refine tn_iconst dX5_newLabel_5 ?_
  refine tn_iadd dX5_newLabel_6 ?_
  refine tn_putV (ci := 5) (i := 13) (n := 46) (r := false) (v := (σ.2.1 46 a) + 1) tyX5 tyX5_ok nmX5 dX5_newLabel_7 rfl lay_5 (by decide) fl5_133 rfl (tyX5_ok 13 (by decide)) rfl rfl rfl ha rfl rfl ?_
  refine tn_aload_n dX5_newLabel_10 rfl 0 rfl ?_
  refine tn_getI (ci := 5) (i := 13) (n := 46) (t := (σ.2.1 46 a) + 1) dX5_newLabel_11 rfl lay_5 (by decide) fl5_133 ha rfl rfl (ra_eq) ?_
  refine tn_iconst dX5_newLabel_14 ?_
  refine tn_isub dX5_newLabel_15 ?_
  have mg2 : MG Tg gs T (sA 46 a ((σ.2.1 46 a) + 1) σ) a ((mx).sL ((σ.2.1 46 a) + 1)) := (MG.f46 hmg)
  exact tn_iret rfl dX5_newLabel_16 ⟨_, rfl, rfl, (hw.put (by decide) (by decide) (fo_46 (by omega))), (FrC.rfl.put (by decide) (by decide)), by omega, (by have z1 := MG.e46 hmg; omega), (MG.cg mg2 (by rw [show σ.2.1 46 a = mx.lab from MG.e46 hmg]; rfl))⟩
end
section
set_option maxHeartbeats 1000000 in
set_option maxRecDepth 20000 in
theorem k_X5_zeroToNew_n (d : Nat) {T : CT} {σ : MS} {a : Nat} {kp : Int} {Sx : Int → Int} {nx jx : Nat} {cx : CS} {Nx : Int} {Tg : CT} {gs : MS} {mx : MK} (ha : OB T a 5) (hw : WT T σ) (hfx : RDX σ a Sx nx jx cx Nx) (hmg : MG Tg gs T σ a mx) (hmb : MBD mx) (hkp : kp ≤ 150) (hrp : RP σ a kp) : Tn (d + 4) m_X5_zeroToNew 0 T σ [(0, .ref a)] [] (fun ro T2 σ2 => ∃ v : Int, ro = some (.int (iI v)) ∧ WT T2 σ2 ∧ FrC T [5, 6, 46] σ σ2 ∧ (-2147483648 ≤ v ∧ v ≤ 2147483647) ∧ (RDX σ2 a Sx nx jx cx (Nx + 1)) ∧ (v = mx.lab) ∧ (MG Tg gs T2 σ2 a mx.zn) ∧ (RP σ2 a (kp + 1))) := by
  have hSb := hfx.1.sb
  have hb2 := MG.bd2 hmg hmb hrp hw ha (by omega)
  refine tn_aload_n dX5_zeroToNew_0 rfl 0 rfl ?_
  refine tn_callV (M := m_X5_zeroToNew) (pc := 1) (ix := 238) (ci := 5) (M' := m_X5_newLabel) (As := []) (rest := []) dX5_zeroToNew_1 ok_X5_newLabel im_X5_newLabel se_X5_newLabel ml5_238 np_X5_newLabel rfl rfl ha rfl (Nat.le_of_ble_eq_true rfl) (Nat.le_of_ble_eq_true rfl) rfl (k_X5_newLabel_n (d + 2) (T := T) (σ := σ) (a := a) (Tg := Tg) (gs := gs) (mx := mx) ha hw hfx hmg hb2.1) (fun r1 T3 σ2 gt4 hp => ?_)
  obtain ⟨v8, rfl, rfl, w9, F10, f5, f6, f7⟩ := hp
  clear gt4
  have fx11 : RDX σ2 a Sx nx jx (cx) (Nx) := RDX.fc hfx hw ha F10 (by decide) (by decide)
  have rp12 : RP σ2 a (kp) := RP.frc hrp F10 (by decide) (by decide) (by decide) (by decide) (by decide)
  show Tn _ _ 4 T σ2 [(0, .ref a)] [.int (iI v8)] _
  refine tn_istore_n (L' := [(1, .int (iI v8)), (0, .ref a)]) dX5_zeroToNew_4 rfl (by decide) rfl ?_
  refine tn_aload_n dX5_zeroToNew_5 rfl 1 rfl ?_
  obtain ⟨xq13, hx14, hk15⟩ : ∃ x : Nat, σ.2.1 35 a = (x : Int) ∧ (T x).1 = 31 := wf_35 hw ha
  have hk15o : OB T xq13 1 := ⟨by omega, by rw [hk15]; rfl, by omega⟩
  refine tn_getR (ci := 5) (i := 2) (n := 35) (x := xq13) dX5_zeroToNew_6 rfl lay_5 (by decide) fl5_47 ha rfl rfl (rc_F F10 (Or.inl (by decide)) (by decide) (hx14)) ?_
  refine tn_bipush dX5_zeroToNew_9 (by decide) ?_
  refine tn_iload_n dX5_zeroToNew_11 rfl 0 rfl ?_
  refine tn_iconst dX5_zeroToNew_12 ?_
  refine tn_callV (M := m_X5_zeroToNew) (pc := 13) (ix := 139) (ci := 1) (M' := m_X1_append) (As := [.int (iI 9), .int (iI v8), .int (iI 0)]) (rest := []) dX5_zeroToNew_13 ok_X1_append im_X1_append se_X1_append ml5_139 np_X1_append rfl rfl hk15o rfl (Nat.le_of_ble_eq_true rfl) (Nat.le_of_ble_eq_true rfl) rfl (k_append_c (d) (T := T) (σ := σ2) (a := xq13) (k := 9) (p := v8) (q := 0) hk15o hk15 (by decide) (by omega) (by decide) w9 (RP.cnt rp12 w9 ha (rc_F F10 (Or.inl (by decide)) (by decide) (hx14)) (by omega)) (by omega)) (fun r17 T19 σ18 gt20 hp => ?_)
  obtain ⟨rfl, w25, F26, f21, f22, f23⟩ := hp
  have nn27 : 0 ≤ (((mx).nl)).n := by have z7 : WT T σ2 := w9; have z6 : σ2.2.1 35 a = (xq13 : Int) := rc_F F10 (Or.inl (by decide)) (by decide) (hx14); have z9 := wf_6 z7 (code_ob z7 ha z6); have z8 := MG.e6 f7 (MG.cd f7 z6); omega
  have a3528 : σ2.2.1 35 a = (xq13 : Int) := rc_F F10 (Or.inl (by decide)) (by decide) (hx14)
  have fx29 : RDX σ18 a Sx nx jx (cx) (Nx + 1) := RDX.ap fx11 w9 ha (rc_F F10 (Or.inl (by decide)) (by decide) (hx14)) F26 f21
  replace ha : OB T19 a 5 := gt20.ob ha
  have rp30 : RP σ18 a (kp + 1) := RP.app rp12 (rc_F F10 (Or.inl (by decide)) (by decide) (hx14)) F26 (by decide) (by decide) (by decide) (by decide) f21
  have mg31 : MG Tg gs T19 σ18 a ((((mx).nl)).put (rwI (9) (v8) (0))) := MG.app f7 (MG.cd f7 a3528) gt20 f21 f22 f23 (by omega)
  show Tn _ _ 16 T19 σ18 [(1, .int (iI v8)), (0, .ref a)] [] _
  refine tn_aload_n dX5_zeroToNew_16 rfl 1 rfl ?_
  obtain ⟨xq32, hx33, hk34⟩ : ∃ x : Nat, σ18.2.1 35 a = (x : Int) ∧ (T19 x).1 = 31 := wf_35 w25 ha
  have hk34o : OB T19 xq32 1 := ⟨by omega, by rw [hk34]; rfl, by omega⟩
  refine tn_getR (ci := 5) (i := 2) (n := 35) (x := xq32) dX5_zeroToNew_17 rfl lay_5 (by decide) fl5_47 ha rfl rfl (hx33) ?_
  refine tn_iconst dX5_zeroToNew_20 ?_
  refine tn_aload_n dX5_zeroToNew_21 rfl 1 rfl ?_
  refine tn_getI (ci := 5) (i := 17) (n := 50) (t := σ18.2.1 50 a) dX5_zeroToNew_22 rfl lay_5 (by decide) fl5_216 ha rfl rfl (rfl) ?_
  have g36 : ((-2147483648 : Int) ≤ σ18.2.1 50 a ∧ σ18.2.1 50 a ≤ 2147483647) := wf_50 w25 ha
  refine tn_aload_n dX5_zeroToNew_25 rfl 1 rfl ?_
  refine tn_getI (ci := 5) (i := 18) (n := 51) (t := σ18.2.1 51 a) dX5_zeroToNew_26 rfl lay_5 (by decide) fl5_219 ha rfl rfl (rfl) ?_
  have g37 : ((-2147483648 : Int) ≤ σ18.2.1 51 a ∧ σ18.2.1 51 a ≤ 2147483647) := wf_51 w25 ha
  have c638 : 1 ≤ σ18.2.1 6 xq32 := MG.c1 (m := ((mx).nl)) mg31 (MG.cd mg31 (hx33)) nn27
  refine tn_callV (M := m_X5_zeroToNew) (pc := 29) (ix := 143) (ci := 1) (M' := m_X1_lastOperand) (As := [.int (iI 0), .int (iI (σ18.2.1 50 a)), .int (iI (σ18.2.1 51 a))]) (rest := []) dX5_zeroToNew_29 ok_X1_lastOperand im_X1_lastOperand se_X1_lastOperand ml5_143 np_X1_lastOperand rfl rfl hk34o rfl (Nat.le_of_ble_eq_true rfl) (Nat.le_of_ble_eq_true rfl) rfl (k_lastOperand_c (d + 2) (T := T19) (σ := σ18) (a := xq32) (i := 0) (k := σ18.2.1 50 a) (p := σ18.2.1 51 a) hk34o hk34 (by decide) (by omega) (by omega) w25 (by omega) (by omega)) (fun r39 T41 σ40 gt42 hp => ?_)
  obtain ⟨rfl, rfl, w46, F47, f43, f44⟩ := hp
  clear gt42
  have mg48 : MG Tg gs T19 σ40 a ((((mx).nl)).put (uZ (uZ (rwI (9) (v8) (0)) (3 + 2 * 0) (σ18.2.1 50 a)) (4 + 2 * 0) (σ18.2.1 51 a))) := MG.lo (m := ((mx).nl)) mg31 (MG.cd mg31 (show σ18.2.1 35 a = (xq32 : Int) from hx33)) f43 f44 (by decide) (by show (9 : Int) ≠ 12; omega) nn27
  have z49 : σ18.2.1 50 a = mx.pk := by have z0 := MG.e50 mg31; have z1 : σ18.2.1 50 a = mx.pk := z0; have z2 : σ18.2.1 50 a = σ18.2.1 50 a := rfl; omega
  have z50 : σ18.2.1 51 a = mx.pv := by have z0 := MG.e51 mg31; have z1 : σ18.2.1 51 a = mx.pv := z0; have z2 : σ18.2.1 51 a = σ18.2.1 51 a := rfl; omega
  have fx51 : RDX σ40 a Sx nx jx (cx) (Nx + 1) := RDX.fc fx29 w25 ha F47 (by decide) (by decide)
  have rp52 : RP σ40 a (kp + 1) := RP.frc rp30 F47 (by decide) (by decide) (by decide) (by decide) (by decide)
  show Tn _ _ 32 T19 σ40 [(1, .int (iI v8)), (0, .ref a)] [] _
  refine tn_iload_n dX5_zeroToNew_32 rfl 0 rfl ?_
  exact tn_iret rfl dX5_zeroToNew_33 ⟨_, rfl, w46, (((FrC.rfl.trans (FrC.sub F10 (by decide))).trans (FrC.sub F26 (by decide))).trans (FrC.sub (FrC.old F47 gt20) (by decide))), by omega, RDX.nq fx51 (by omega), f6, (MG.cg mg48 (by rw [mk_lo, show v8 = mx.lab from f6, z49, z50]; rfl)), (RP.up rp52 (by omega))⟩
end
section
set_option maxHeartbeats 1000000 in
set_option maxRecDepth 20000 in
theorem k_X5_atom_m (d : Nat) {T : CT} {σ : MS} {a : Nat} {dp : Int} {kp : Int} {lv : Nat} {Sx : Int → Int} {nx jx : Nat} {cx : CS} {Nx : Int} {Tg : CT} {gs : MS} {mx : MK} {nm : Int → Int64 → Int} {eo : Int} (ha : OB T a 5) (h_dp : -2147483648 ≤ dp ∧ dp ≤ 2147483647) (hw : WT T σ) (hex : ∀ (d : Nat) {T : CT} {σ : MS} {a : Nat} {dp : Int} {kp : Int} {Sx : Int → Int} {nx jx : Nat} {cx : CS} {Nx : Int} {Tg : CT} {gs : MS} {mx : MK} {nm : Int → Int64 → Int} {eo : Int} (ha : OB T a 5) (h_dp : -2147483648 ≤ dp ∧ dp ≤ 2147483647) (hw : WT T σ) (hdp : 1 ≤ dp ∧ dp ≤ 9) (hlv : 9 ≤ dp + (lv : Int)) (hfx : RDX σ a Sx nx jx cx Nx) (hmg : MG Tg gs T σ a mx) (hmb : MBD mx) (heo : eo = dp - 1) (hkp : kp ≤ 150) (hrp : RP σ a kp), Tn (d + 5 * lv + 10) m_X5_expression 0 T σ [(0, .ref a), (1, .int (iI dp))] [] (fun ro T2 σ2 => ∃ v : Int, ro = some (.int (iI v)) ∧ WT T2 σ2 ∧ FrC T [5, 6, 7, 43, 44, 47, 50, 51, 84, 85, 86, 87, 521] σ σ2 ∧ (v = 0 ∨ v = 1) ∧ (XQM σ2 a Sx nx (eo) [2] jx cx Nx v nm Tg gs T2 mx) ∧ (RP σ2 a (kp - 4 * v)))) (hdp : 1 ≤ dp ∧ dp ≤ 8) (hlv : 8 ≤ dp + (lv : Int)) (hfx : RDX σ a Sx nx jx cx Nx) (hmg : MG Tg gs T σ a mx) (hmb : MBD mx) (heo : eo = dp) (hkp : kp ≤ 150) (hrp : RP σ a kp) : Tn (d + 5 * lv + 11) m_X5_atom 0 T σ [(0, .ref a), (1, .int (iI dp))] [] (fun ro T2 σ2 => ∃ v : Int, ro = some (.int (iI v)) ∧ WT T2 σ2 ∧ FrC T [5, 6, 7, 43, 44, 47, 50, 51, 84, 85, 86, 87, 521] σ σ2 ∧ (v = 0 ∨ v = 1) ∧ (XQM σ2 a Sx nx (eo) [1] jx cx Nx v nm Tg gs T2 mx) ∧ (RP σ2 a (kp - 4 * v))) := by
  have hSb := hfx.1.sb
  refine tn_aload_n dX5_atom_0 rfl 0 rfl ?_
  obtain ⟨xq1, hx2, hk3⟩ : ∃ x : Nat, σ.2.1 33 a = (x : Int) ∧ (T x).1 = 39 := wf_33 hw ha
  have hk3o : OB T xq1 9 := ⟨by omega, by rw [hk3]; rfl, by omega⟩
  refine tn_getR (ci := 5) (i := 0) (n := 33) (x := xq1) dX5_atom_1 rfl lay_5 (by decide) fl5_12 ha rfl rfl (hx2) ?_
  refine tn_getI (ci := 9) (i := 4) (n := 85) (t := σ.2.1 85 xq1) dX5_atom_4 rfl lay_9 (by decide) fl5_71 hk3o rfl rfl (rfl) ?_
  have g5 : ((-2147483648 : Int) ≤ σ.2.1 85 xq1 ∧ σ.2.1 85 xq1 ≤ 2147483647) := wf_85 hw hk3o
  have g5kd : σ.2.1 85 xq1 = ckd (tkS Sx jx) := (rfl).symm.trans ((hfx).1.kd (hx2))
  refine tn_bipush dX5_atom_7 (by decide) ?_
  refine tn_icmp_ne (tgt := 44) dX5_atom_9 (by decide) ⟨by omega, by omega⟩ ⟨by decide, by decide⟩ (fun h6 => ?_) (fun h6 => ?_)
  · refine tn_aload_n dX5_atom_44 rfl 0 rfl ?_
    refine tn_getR (ci := 5) (i := 0) (n := 33) (x := xq1) dX5_atom_45 rfl lay_5 (by decide) fl5_12 ha rfl rfl (hx2) ?_
    refine tn_getI (ci := 9) (i := 4) (n := 85) (t := σ.2.1 85 xq1) dX5_atom_48 rfl lay_9 (by decide) fl5_71 hk3o rfl rfl (rfl) ?_
    refine tn_sipush dX5_atom_51 (by decide) ?_
    refine tn_icmp_ne (tgt := 76) dX5_atom_54 (by decide) ⟨by omega, by omega⟩ ⟨by decide, by decide⟩ (fun h7 => ?_) (fun h7 => ?_)
    · refine tn_aload_n dX5_atom_76 rfl 0 rfl ?_
      refine tn_getR (ci := 5) (i := 0) (n := 33) (x := xq1) dX5_atom_77 rfl lay_5 (by decide) fl5_12 ha rfl rfl (hx2) ?_
      refine tn_getI (ci := 9) (i := 4) (n := 85) (t := σ.2.1 85 xq1) dX5_atom_80 rfl lay_9 (by decide) fl5_71 hk3o rfl rfl (rfl) ?_
      refine tn_sipush dX5_atom_83 (by decide) ?_
      refine tn_icmp_ne (tgt := 105) dX5_atom_86 (by decide) ⟨by omega, by omega⟩ ⟨by decide, by decide⟩ (fun h8 => ?_) (fun h8 => ?_)
      · refine tn_aload_n dX5_atom_105 rfl 0 rfl ?_
        refine tn_callV (M := m_X5_atom) (pc := 106) (ix := 90) (ci := 5) (M' := m_X5_refuse) (As := []) (rest := []) dX5_atom_106 ok_X5_refuse im_X5_refuse se_X5_refuse ml5_90 np_X5_refuse rfl rfl ha rfl (Nat.le_of_ble_eq_true rfl) (Nat.le_of_ble_eq_true rfl) rfl (k_X5_refuse_m (d + 5 * lv + 9) (T := T) (σ := σ) (a := a) ha hw (hfx).1.1) (fun r9 T11 σ10 gt12 hp => ?_)
        obtain ⟨v18, rfl, rfl, w19, F20, f13, f14, f15, f16, f17⟩ := hp
        clear gt12
        have pc21 : EXF Sx (eo) [1] jx (tkS Sx jx).1 := fun _ _ => x1f hSb (by omega) (by omega) (by omega)
        have rf220 : EXR Sx (eo) [1] jx (eo) [1] jx (0) ([]) := EXR.nl
        have rf22 : EXF Sx (eo) [1] jx ((tkS Sx jx).1) := EXR.fl (l := [1]) [] rf220 pc21
        have rp23 : RP σ10 a (kp) := RP.frc hrp F20 (by decide) (by decide) (by decide) (by decide) (by decide)
        show Tn _ _ 109 T σ10 [(0, .ref a), (1, .int (iI dp))] [.int (iI v18)] _
        have mg26 : MG Tg gs T σ10 a mx := (MG.nt hmg f17)
        have rb25 : XFc σ10 a Sx (eo) [1] jx ∧ FG Tg gs T σ10 a := ⟨⟨_, rf22, f15⟩, (mg26).1⟩
        exact tn_zret (v := v18) rfl (by omega) dX5_atom_109 ⟨_, rfl, w19, (FrC.rfl.trans (FrC.sub F20 (by decide))), by omega, ⟨fun q => absurd q (by omega), fun _ => rb25⟩, (RP.up rp23 (by omega))⟩
      · refine tn_aload_n dX5_atom_89 rfl 0 rfl ?_
        refine tn_iconst dX5_atom_90 ?_
        refine tn_putV (ci := 5) (i := 17) (n := 50) (r := false) (v := 2) tyX5 tyX5_ok nmX5 dX5_atom_91 rfl lay_5 (by decide) fl5_216 rfl (tyX5_ok 17 (by decide)) rfl rfl rfl ha rfl rfl ?_
        refine tn_aload_n dX5_atom_94 rfl 0 rfl ?_
        refine tn_aload_n dX5_atom_95 rfl 0 rfl ?_
        have mg27 : MG Tg gs T (sA 50 a (2) σ) a ((mx).sK (2)) := (MG.f50 hmg)
        refine tn_callV (M := m_X5_atom) (pc := 96) (ix := 176) (ci := 5) (M' := m_X5_register) (As := []) (rest := [.ref a]) dX5_atom_96 ok_X5_register im_X5_register se_X5_register ml5_176 np_X5_register rfl rfl ha rfl (Nat.le_of_ble_eq_true rfl) (Nat.le_of_ble_eq_true rfl) rfl (k_X5_register_m (d + 5 * lv + 8) (T := T) (σ := (sA 50 a (2) σ)) (a := a) (Tg := Tg) (gs := gs) (mx := ((mx).sK (2))) ha (hw.put (by decide) (by decide) (fo_50 (by omega))) (hfx.pt (by decide) (by decide)) (by omega) mg27) (fun r28 T30 σ29 gt31 hp => ?_)
        obtain ⟨v36, rfl, rfl, w37, F38, f32, f33, f34, f35⟩ := hp
        clear gt31
        have rp39 : RP σ29 a (kp) := RP.frc (hrp.put (by decide)) F38 (by decide) (by decide) (by decide) (by decide) (by decide)
        show Tn _ _ 99 T σ29 [(0, .ref a), (1, .int (iI dp))] [.int (iI v36), .ref a] _
        refine tn_putV (ci := 5) (i := 18) (n := 51) (r := false) (v := v36) tyX5 tyX5_ok nmX5 dX5_atom_99 rfl lay_5 (by decide) fl5_219 rfl (tyX5_ok 18 (by decide)) rfl rfl rfl ha rfl rfl ?_
        refine tn_goto (tgt := 110) dX5_atom_102 (by decide) ?_
        refine tn_aload_n dX5_atom_110 rfl 0 rfl ?_
        refine tn_getR (ci := 5) (i := 0) (n := 33) (x := xq1) dX5_atom_111 rfl lay_5 (by decide) fl5_12 ha rfl rfl (rc_o (by decide) (rc_F F38 (Or.inl (by decide)) (by decide) (rc_o (by decide) (hx2)))) ?_
        have q44 : (sA 51 a (v36) σ29).2.1 84 xq1 = σ.2.1 84 xq1 := rc_o (by decide) (rc_F F38 (Or.inl (by decide)) (by decide) (rc_o (by decide) (rfl)))
        refine tn_callV (M := m_X5_atom) (pc := 114) (ix := 93) (ci := 9) (M' := m_X9_next) (As := []) (rest := []) dX5_atom_114 ok_X9_next im_X9_next se_X9_next ml5_93 np_X9_next rfl rfl hk3o rfl (Nat.le_of_ble_eq_true rfl) (Nat.le_of_ble_eq_true rfl) rfl (k_X9_next_m (d + 5 * lv + 9) (T := T) (σ := (sA 51 a (v36) σ29)) (a := xq1) hk3o (w37.put (by decide) (by decide) (fo_51 (by omega))) (RP.tk (rp39.put (by decide)) (w37.put (by decide) (by decide) (fo_51 (by omega))) ha (rc_o (by decide) (rc_F F38 (Or.inl (by decide)) (by decide) (rc_o (by decide) (hx2))))) (((f33.pt (by decide) (by decide))).1.tk (rc_o (by decide) (rc_F F38 (Or.inl (by decide)) (by decide) (rc_o (by decide) (hx2))))) (by rw [((f33.pt (by decide) (by decide))).1.kd (rc_o (by decide) (rc_F F38 (Or.inl (by decide)) (by decide) (rc_o (by decide) (hx2))))]; omega)) (fun r40 T42 σ41 gt43 hp => ?_)
        obtain ⟨rfl, rfl, w51, F52, f45, f46, f47, f48, f49⟩ := hp
        clear gt43
        have mg53 : MG Tg gs T (sA 51 a (v36) σ29) a ((((mx).sK (2))).sV (v36)) := (MG.f51 f35)
        have pc55 : EXR Sx (eo) [1] jx (eo) [] (jx + 1) 0 [(4, (tkS Sx jx).1, 0, (tkS Sx jx).2.2.2.2)] := fun _ _ => x1w hSb (by omega)
        have pm56 : CN nm mx.rt (uC (cx) (4, (tkS Sx jx).1, 0, (tkS Sx jx).2.2.2.2)) (EXW Sx nm rnQ tb1 (eo) [1] jx mx (eo) [] (jx + 1) 0 (mx.sP 2 (v36))) := fun hn9 b9 u9 => GW.of (gm1w hSb (by omega)) (congrArg (fun z9 => mx.sP 2 z9) (RGV.no f34 hn9))
        have rd570 : EXR Sx (eo) [1] jx (eo) [1] jx (0) ([]) := EXR.nl
        have rd57a : EXR Sx (eo) [1] jx (eo) [] (jx + 1) (0 + 0) ([] ++ [(4, (tkS Sx jx).1, 0, (tkS Sx jx).2.2.2.2)]) := EXR.gg (l := [1]) (ms := []) [] rd570 pc55
        have rd57 : EXR Sx (eo) [1] jx (eo) [] (jx + 1) (0 + 0) ([(4, (tkS Sx jx).1, 0, (tkS Sx jx).2.2.2.2)]) := rd57a
        have rm580 : CN nm mx.rt (cx) (EXW Sx nm rnQ tb1 (eo) [1] jx mx (eo) [1] jx (0) mx) := fun _ => EXW.nl
        have rm58 : CN nm mx.rt (uC (cx) (4, (tkS Sx jx).1, 0, (tkS Sx jx).2.2.2.2)) (EXW Sx nm rnQ tb1 (eo) [1] jx mx (eo) [] (jx + 1) (0 + 0) (mx.sP 2 (v36))) := CN.ge (l := [1]) (ms := []) [] rm580 (fun q9 => (fun q9 => q9) (NMA.up (show (4 : Int) ≠ 2 by decide) q9)) pm56
        have fx54 : RDX σ41 a Sx nx (jx + 1) (uC (cx) (4, (tkS Sx jx).1, 0, (tkS Sx jx).2.2.2.2)) (Nx) := RDX.nx (f33.pt (by decide) (by decide)) (w37.put (by decide) (by decide) (fo_51 (by omega))) ha (rc_o (by decide) (rc_F F38 (Or.inl (by decide)) (by decide) (rc_o (by decide) (hx2)))) F52 f48
        have rp59 : RP σ41 a (kp - 4) := RP.next4 (rp39.put (by decide)) (rc_o (by decide) (rc_F F38 (Or.inl (by decide)) (by decide) (rc_o (by decide) (hx2)))) F52 (by decide) (by decide) (by decide) f45 f47 (by rw [show (sA 51 a (v36) σ29).2.1 85 xq1 = σ.2.1 85 xq1 from rc_o (by decide) (rc_F F38 (Or.inl (by decide)) (by decide) (rc_o (by decide) (rfl)))]; omega)
        show Tn _ _ 117 T σ41 [(0, .ref a), (1, .int (iI dp))] [] _
        refine tn_iconst dX5_atom_117 ?_
        have mg64 : MG Tg gs T σ41 a ((((mx).sK (2))).sV (v36)) := (MG.tk mg53 (rc_o (by decide) (rc_F F38 (Or.inl (by decide)) (by decide) (rc_o (by decide) (hx2)))) f49)
        have hz65e : (mx.sP 2 (v36)) = (((((mx).sK (2))).sV (v36))).on mx := rfl
        have hz65c : (uC (cx) (4, (tkS Sx jx).1, 0, (tkS Sx jx).2.2.2.2)) = ([(4, (tkS Sx jx).1, 0, (tkS Sx jx).2.2.2.2)]).foldl uC cx := (by simp only [List.foldl_append, List.foldl_cons, List.foldl_nil])
        have hz65 : CN nm mx.rt (([(4, (tkS Sx jx).1, 0, (tkS Sx jx).2.2.2.2)]).foldl uC cx) (EXW Sx nm rnQ tb1 (eo) [1] jx mx (eo) [] (jx + 1) (0 + 0) ((((((mx).sK (2))).sV (v36))).on mx)) := by
          have q9 := CN.up (c2 := uC (cx) (4, (tkS Sx jx).1, 0, (tkS Sx jx).2.2.2.2)) rm58 (fun q9 => q9)
          rw [hz65e, hz65c] at q9
          exact q9
        have ra62 : XSM σ41 a Sx nx (eo) [1] jx cx Nx (eo) [] ((jx : Int) + 1) nm Tg gs T mx := ⟨(jx + 1), [(4, (tkS Sx jx).1, 0, (tkS Sx jx).2.2.2.2)], 0 + 0, ((((mx).sK (2))).sV (v36)), (by omega), rd57, RDX.nq (RDX.cq fx54 hz65c) (by omega), (NI2.one (show (4 : Int) ≠ 2 by decide)), mg64, hmb, hz65⟩
        exact tn_zret (v := 1) rfl (by decide) dX5_atom_118 ⟨_, rfl, w51, ((((FrC.rfl.put (by decide) (by decide)).trans (FrC.sub F38 (by decide))).put (by decide) (by decide)).trans (FrC.sub F52 (by decide))), by omega, ⟨fun _ => ra62, fun q => absurd q (by decide)⟩, (RP.up rp59 (by omega))⟩
    · refine tn_aload_n dX5_atom_57 rfl 0 rfl ?_
      refine tn_iconst dX5_atom_58 ?_
      refine tn_putV (ci := 5) (i := 17) (n := 50) (r := false) (v := 1) tyX5 tyX5_ok nmX5 dX5_atom_59 rfl lay_5 (by decide) fl5_216 rfl (tyX5_ok 17 (by decide)) rfl rfl rfl ha rfl rfl ?_
      refine tn_aload_n dX5_atom_62 rfl 0 rfl ?_
      refine tn_aload_n dX5_atom_63 rfl 0 rfl ?_
      refine tn_getR (ci := 5) (i := 0) (n := 33) (x := xq1) dX5_atom_64 rfl lay_5 (by decide) fl5_12 ha rfl rfl (rc_o (by decide) (hx2)) ?_
      refine tn_getI (ci := 9) (i := 5) (n := 86) (t := σ.2.1 86 xq1) dX5_atom_67 rfl lay_9 (by decide) fl5_96 hk3o rfl rfl (rc_o (by decide) (rfl)) ?_
      have g66 : ((-2147483648 : Int) ≤ σ.2.1 86 xq1 ∧ σ.2.1 86 xq1 ≤ 2147483647) := wf_86 hw hk3o
      have g66ky : NKY (tkS Sx jx) (σ.2.1 86 xq1) := by rw [← show (sA 50 a (1) σ).2.1 86 xq1 = σ.2.1 86 xq1 from rc_o (by decide) (rfl)]; exact ((hfx.pt (by decide) (by decide))).1.ky (rc_o (by decide) (hx2))
      refine tn_putV (ci := 5) (i := 18) (n := 51) (r := false) (v := σ.2.1 86 xq1) tyX5 tyX5_ok nmX5 dX5_atom_70 rfl lay_5 (by decide) fl5_219 rfl (tyX5_ok 18 (by decide)) rfl rfl rfl ha rfl rfl ?_
      refine tn_goto (tgt := 110) dX5_atom_73 (by decide) ?_
      refine tn_aload_n dX5_atom_110 rfl 0 rfl ?_
      refine tn_getR (ci := 5) (i := 0) (n := 33) (x := xq1) dX5_atom_111 rfl lay_5 (by decide) fl5_12 ha rfl rfl (rc_o (by decide) (rc_o (by decide) (hx2))) ?_
      have q71 : (sA 51 a (σ.2.1 86 xq1) (sA 50 a (1) σ)).2.1 84 xq1 = σ.2.1 84 xq1 := rc_o (by decide) (rc_o (by decide) (rfl))
      refine tn_callV (M := m_X5_atom) (pc := 114) (ix := 93) (ci := 9) (M' := m_X9_next) (As := []) (rest := []) dX5_atom_114 ok_X9_next im_X9_next se_X9_next ml5_93 np_X9_next rfl rfl hk3o rfl (Nat.le_of_ble_eq_true rfl) (Nat.le_of_ble_eq_true rfl) rfl (k_X9_next_m (d + 5 * lv + 9) (T := T) (σ := (sA 51 a (σ.2.1 86 xq1) (sA 50 a (1) σ))) (a := xq1) hk3o ((hw.put (by decide) (by decide) (fo_50 (by omega))).put (by decide) (by decide) (fo_51 (by omega))) (RP.tk ((hrp.put (by decide)).put (by decide)) ((hw.put (by decide) (by decide) (fo_50 (by omega))).put (by decide) (by decide) (fo_51 (by omega))) ha (rc_o (by decide) (rc_o (by decide) (hx2)))) ((((hfx.pt (by decide) (by decide)).pt (by decide) (by decide))).1.tk (rc_o (by decide) (rc_o (by decide) (hx2)))) (by rw [(((hfx.pt (by decide) (by decide)).pt (by decide) (by decide))).1.kd (rc_o (by decide) (rc_o (by decide) (hx2)))]; omega)) (fun r67 T69 σ68 gt70 hp => ?_)
      obtain ⟨rfl, rfl, w78, F79, f72, f73, f74, f75, f76⟩ := hp
      clear gt70
      have mg80 : MG Tg gs T (sA 51 a (σ.2.1 86 xq1) (sA 50 a (1) σ)) a ((((mx).sK (1))).sV (σ.2.1 86 xq1)) := (MG.f51 (MG.f50 hmg))
      have pc82 : EXR Sx (eo) [1] jx (eo) [] (jx + 1) 0 [] := fun _ _ => x1d hSb (by omega)
      have pm83 : CN nm mx.rt (cx) (EXW Sx nm rnQ tb1 (eo) [1] jx mx (eo) [] (jx + 1) 0 (mx.sP 1 (tkS Sx jx).2.2.2.1)) := fun hn9 b9 u9 => GW.of (gm1d hSb (by omega)) rfl
      have rd840 : EXR Sx (eo) [1] jx (eo) [1] jx (0) ([]) := EXR.nl
      have rd84 : EXR Sx (eo) [1] jx (eo) [] (jx + 1) (0 + 0) ([]) := EXR.g0 (l := [1]) (ms := []) [] rd840 pc82
      have rm850 : CN nm mx.rt (cx) (EXW Sx nm rnQ tb1 (eo) [1] jx mx (eo) [1] jx (0) mx) := fun _ => EXW.nl
      have rm85 : CN nm mx.rt (cx) (EXW Sx nm rnQ tb1 (eo) [1] jx mx (eo) [] (jx + 1) (0 + 0) (mx.sP 1 (tkS Sx jx).2.2.2.1)) := CN.ge (l := [1]) (ms := []) [] rm850 (fun q9 => q9) pm83
      have fx81 : RDX σ68 a Sx nx (jx + 1) (cx) (Nx) := RDX.nx ((hfx.pt (by decide) (by decide)).pt (by decide) (by decide)) ((hw.put (by decide) (by decide) (fo_50 (by omega))).put (by decide) (by decide) (fo_51 (by omega))) ha (rc_o (by decide) (rc_o (by decide) (hx2))) F79 f75
      have rp86 : RP σ68 a (kp - 4) := RP.next4 ((hrp.put (by decide)).put (by decide)) (rc_o (by decide) (rc_o (by decide) (hx2))) F79 (by decide) (by decide) (by decide) f72 f74 (by rw [show (sA 51 a (σ.2.1 86 xq1) (sA 50 a (1) σ)).2.1 85 xq1 = σ.2.1 85 xq1 from rc_o (by decide) (rc_o (by decide) (rfl))]; omega)
      show Tn _ _ 117 T σ68 [(0, .ref a), (1, .int (iI dp))] [] _
      refine tn_iconst dX5_atom_117 ?_
      have mg91 : MG Tg gs T σ68 a ((((mx).sK (1))).sV (σ.2.1 86 xq1)) := (MG.tk mg80 (rc_o (by decide) (rc_o (by decide) (hx2))) f76)
      have hz92e : (mx.sP 1 (tkS Sx jx).2.2.2.1) = (((((mx).sK (1))).sV (σ.2.1 86 xq1))).on mx := (by rw [show (tkS Sx jx).2.2.2.1 = σ.2.1 86 xq1 from (g66ky.2 ((ck_num (tkS_v hSb jx)).mp (by omega))).symm]; rfl)
      have hz92c : (cx) = ([]).foldl uC cx := rfl
      have hz92 : CN nm mx.rt (([]).foldl uC cx) (EXW Sx nm rnQ tb1 (eo) [1] jx mx (eo) [] (jx + 1) (0 + 0) ((((((mx).sK (1))).sV (σ.2.1 86 xq1))).on mx)) := by
        have q9 := CN.up (c2 := cx) rm85 (fun q9 => q9)
        rw [hz92e, hz92c] at q9
        exact q9
      have ra89 : XSM σ68 a Sx nx (eo) [1] jx cx Nx (eo) [] ((jx : Int) + 1) nm Tg gs T mx := ⟨(jx + 1), [], 0 + 0, ((((mx).sK (1))).sV (σ.2.1 86 xq1)), (by omega), rd84, RDX.nq (RDX.cq fx81 hz92c) (by omega), NI2.nil, mg91, hmb, hz92⟩
      exact tn_zret (v := 1) rfl (by decide) dX5_atom_118 ⟨_, rfl, w78, (((FrC.rfl.put (by decide) (by decide)).put (by decide) (by decide)).trans (FrC.sub F79 (by decide))), by omega, ⟨fun _ => ra89, fun q => absurd q (by decide)⟩, (RP.up rp86 (by omega))⟩
  · refine tn_aload_n dX5_atom_12 rfl 0 rfl ?_
    refine tn_getR (ci := 5) (i := 0) (n := 33) (x := xq1) dX5_atom_13 rfl lay_5 (by decide) fl5_12 ha rfl rfl (hx2) ?_
    refine tn_callV (M := m_X5_atom) (pc := 16) (ix := 93) (ci := 9) (M' := m_X9_next) (As := []) (rest := []) dX5_atom_16 ok_X9_next im_X9_next se_X9_next ml5_93 np_X9_next rfl rfl hk3o rfl (Nat.le_of_ble_eq_true rfl) (Nat.le_of_ble_eq_true rfl) rfl (k_X9_next_m (d + 5 * lv + 9) (T := T) (σ := σ) (a := xq1) hk3o hw (RP.tk hrp hw ha (hx2)) ((hfx).1.tk (hx2)) (by rw [(hfx).1.kd (hx2)]; omega)) (fun r93 T95 σ94 gt96 hp => ?_)
    obtain ⟨rfl, rfl, w103, F104, f97, f98, f99, f100, f101⟩ := hp
    clear gt96
    have pc106 : EXR Sx (eo) [1] jx (eo) [2, 141] (jx + 1) 0 [] := fun _ _ => x1p hSb (by omega)
    have pm107 : CN nm mx.rt (cx) (EXW Sx nm rnQ tb1 (eo) [1] jx mx (eo) [2, 141] (jx + 1) 0 mx) := fun hn9 b9 u9 => GW.of (gm1p hSb (by omega)) rfl
    have rd1080 : EXR Sx (eo) [1] jx (eo) [1] jx (0) ([]) := EXR.nl
    have rd108 : EXR Sx (eo) [1] jx (eo) [2, 141] (jx + 1) (0 + 0) ([]) := EXR.g0 (l := [1]) (ms := [2, 141]) [] rd1080 pc106
    have rm1090 : CN nm mx.rt (cx) (EXW Sx nm rnQ tb1 (eo) [1] jx mx (eo) [1] jx (0) mx) := fun _ => EXW.nl
    have rm109 : CN nm mx.rt (cx) (EXW Sx nm rnQ tb1 (eo) [1] jx mx (eo) [2, 141] (jx + 1) (0 + 0) mx) := CN.ge (l := [1]) (ms := [2, 141]) [] rm1090 (fun q9 => q9) pm107
    have fx105 : RDX σ94 a Sx nx (jx + 1) (cx) (Nx) := RDX.nx hfx hw ha (hx2) F104 f100
    have rp110 : RP σ94 a (kp - 4) := RP.next4 hrp (hx2) F104 (by decide) (by decide) (by decide) f97 f99 (by rw [show σ.2.1 85 xq1 = σ.2.1 85 xq1 from rfl]; omega)
    show Tn _ _ 19 T σ94 [(0, .ref a), (1, .int (iI dp))] [] _
    refine tn_aload_n dX5_atom_19 rfl 0 rfl ?_
    refine tn_iload_n dX5_atom_20 rfl 1 rfl ?_
    refine tn_iconst dX5_atom_21 ?_
    refine tn_iadd dX5_atom_22 ?_
    have mg111 : MG Tg gs T σ94 a mx := (MG.tk hmg (hx2) f101)
    refine tn_callV (M := m_X5_atom) (pc := 23) (ix := 213) (ci := 5) (M' := m_X5_expression) (As := [.int (iI (dp + 1))]) (rest := []) dX5_atom_23 ok_X5_expression im_X5_expression se_X5_expression ml5_213 np_X5_expression rfl rfl ha rfl (Nat.le_of_ble_eq_true rfl) (Nat.le_of_ble_eq_true rfl) rfl (hex (d) (T := T) (σ := σ94) (a := a) (dp := dp + 1) (kp := kp - 4) (eo := eo) (nm := nm) (Tg := Tg) (gs := gs) (mx := mx) ha (by omega) w103 (by omega) (by omega) fx105 mg111 hmb (by omega) (by omega) rp110) (fun r112 T114 σ113 gt115 hp => ?_)
    obtain ⟨v119, rfl, w120, F121, f116, f117, f118⟩ := hp
    replace ha : OB T114 a 5 := gt115.ob ha
    have rp123 : RP σ113 a (kp - 4 * v119 - 4) := RP.up f118 (by omega)
    show Tn _ _ 26 T114 σ113 [(0, .ref a), (1, .int (iI dp))] [.int (iI v119)] _
    refine tn_if_eq (tgt := 42) dX5_atom_26 (by decide) ⟨by omega, by omega⟩ (fun h124 => ?_) (fun h124 => ?_)
    · refine tn_iconst dX5_atom_42 ?_
      obtain ⟨⟨pl127, g128, fx129⟩, nf130⟩ := f117.2 (by omega)
      have rf131 : EXF Sx (eo) [1] jx (pl127) := EXR.fl (l := [2]) [141] rd108 g128
      have rb126 : XFc σ113 a Sx (eo) [1] jx ∧ FG Tg gs T114 σ113 a := ⟨⟨_, rf131, fx129⟩, nf130⟩
      exact tn_zret (v := 0) rfl (by decide) dX5_atom_43 ⟨_, rfl, w120, ((FrC.rfl.trans (FrC.sub F104 (by decide))).trans (FrC.sub F121 (by decide))), by omega, ⟨fun q => absurd q (by decide), fun _ => rb126⟩, (RP.up rp123 (by omega))⟩
    · refine tn_aload_n dX5_atom_29 rfl 0 rfl ?_
      refine tn_bipush dX5_atom_30 (by decide) ?_
      obtain ⟨i132, es133, m134, mw135, lo136, rr137, fx138, ni139, mgq140, mb141, cn142⟩ := f117.1 (by omega)
      have pm143 : CN nm mx.rt (es133.foldl uC (cx)) (EXW Sx nm rnQ tb1 (eo) [2] (jx + 1) mx (eo) [] i132 m134 (mw135.on mx)) := cn142
      have rd144a : EXR Sx (eo) [1] jx (eo) [141] i132 (0 + 0 + m134) ([] ++ es133) := EXR.gg (l := [2]) (ms := []) [141] rd108 rr137
      have rd144 : EXR Sx (eo) [1] jx (eo) [141] i132 (0 + 0 + m134) (es133) := rd144a
      have rm145 : CN nm mx.rt (es133.foldl uC (cx)) (EXW Sx nm rnQ tb1 (eo) [1] jx mx (eo) [141] i132 (0 + 0 + m134) (mw135.on mx)) := CN.ge (l := [2]) (ms := []) [141] rm109 (fun q9 => (fun q9 => q9) (NMA.fo ni139 q9)) pm143
      refine tn_callV (M := m_X5_atom) (pc := 32) (ix := 102) (ci := 5) (M' := m_X5_taken) (As := [.int (iI 41)]) (rest := []) dX5_atom_32 ok_X5_taken im_X5_taken se_X5_taken ml5_102 np_X5_taken rfl rfl ha rfl (Nat.le_of_ble_eq_true rfl) (Nat.le_of_ble_eq_true rfl) rfl (k_X5_taken_m (d + 5 * lv + 8) (T := T114) (σ := σ113) (a := a) (s := 41) (kp := kp - 4 * v119 - 4) (Tg := Tg) (gs := gs) (mx := mw135) ha (by decide) w120 (by omega) fx138 mgq140 (by omega) rp123) (fun r146 T148 σ147 gt149 hp => ?_)
      obtain ⟨v154, rfl, rfl, w155, F156, f150, f151, f152, f153⟩ := hp
      clear gt149
      have rp158 : RP σ147 a (kp - 4 * v119 - 4 * v154 - 4) := RP.up f153 (by omega)
      show Tn _ _ 35 T114 σ147 [(0, .ref a), (1, .int (iI dp))] [.int (iI v154)] _
      refine tn_if_eq (tgt := 42) dX5_atom_35 (by decide) ⟨by omega, by omega⟩ (fun h159 => ?_) (fun h159 => ?_)
      · refine tn_iconst dX5_atom_42 ?_
        obtain ⟨kd162, fx163, tk164⟩ := f151.2 (by omega)
        have pc165 : EXF Sx (eo) [141] i132 (tkS Sx i132).1 := fun _ _ => z41 hSb kd162
        have rf166 : EXF Sx (eo) [1] jx ((tkS Sx i132).1) := EXR.fl (l := [141]) [] rd144 pc165
        have rb161 : XFc σ147 a Sx (eo) [1] jx ∧ FG Tg gs T114 σ147 a := ⟨⟨_, rf166, fx163⟩, (f152).1⟩
        exact tn_zret (v := 0) rfl (by decide) dX5_atom_43 ⟨_, rfl, w155, (((FrC.rfl.trans (FrC.sub F104 (by decide))).trans (FrC.sub F121 (by decide))).trans (FrC.sub (FrC.old F156 gt115) (by decide))), by omega, ⟨fun q => absurd q (by decide), fun _ => rb161⟩, (RP.up rp158 (by omega))⟩
      · refine tn_iconst dX5_atom_38 ?_
        refine tn_goto (tgt := 43) dX5_atom_39 (by decide) ?_
        obtain ⟨kd172, fx171⟩ := f151.1 (by omega)
        have pc173 : EXR Sx (eo) [141] i132 (eo) [] (i132 + 1) 0 [] := fun _ _ => y41 hSb kd172
        have pm174 : CN nm mx.rt (es133.foldl uC (cx)) (EXW Sx nm rnQ tb1 (eo) [141] i132 (mw135.on mx) (eo) [] (i132 + 1) 0 (mw135.on mx)) := fun _ _ _ => GW.of (gmy41 hSb kd172) rfl
        have rd175 : EXR Sx (eo) [1] jx (eo) [] (i132 + 1) (0 + 0 + m134 + 0) (es133) := EXR.g0 (l := [141]) (ms := []) [] rd144 pc173
        have rm176 : CN nm mx.rt (es133.foldl uC (cx)) (EXW Sx nm rnQ tb1 (eo) [1] jx mx (eo) [] (i132 + 1) (0 + 0 + m134 + 0) (mw135.on mx)) := CN.ge (l := [141]) (ms := []) [] rm145 (fun q9 => q9) pm174
        have hz177e : (mw135.on mx) = (mw135).on mx := rfl
        have hz177c : (es133.foldl uC (cx)) = (es133).foldl uC cx := rfl
        have hz177 : CN nm mx.rt ((es133).foldl uC cx) (EXW Sx nm rnQ tb1 (eo) [1] jx mx (eo) [] (i132 + 1) (0 + 0 + m134 + 0) ((mw135).on mx)) := by
          have q9 := CN.up (c2 := es133.foldl uC (cx)) rm176 (fun q9 => q9)
          rw [hz177e, hz177c] at q9
          exact q9
        have ra169 : XSM σ147 a Sx nx (eo) [1] jx cx Nx (eo) [] ((jx : Int) + 1) nm Tg gs T114 mx := ⟨(i132 + 1), es133, 0 + 0 + m134 + 0, mw135, (by omega), rd175, RDX.nq (RDX.cq fx171 hz177c) (by omega), ni139, f152, mb141, hz177⟩
        exact tn_zret (v := 1) rfl (by decide) dX5_atom_43 ⟨_, rfl, w155, (((FrC.rfl.trans (FrC.sub F104 (by decide))).trans (FrC.sub F121 (by decide))).trans (FrC.sub (FrC.old F156 gt115) (by decide))), by omega, ⟨fun _ => ra169, fun q => absurd q (by decide)⟩, (RP.up rp158 (by omega))⟩
end
section
set_option maxHeartbeats 1000000 in
set_option maxRecDepth 20000 in
theorem k_X5_factor_m (d : Nat) {T : CT} {σ : MS} {a : Nat} {dp : Int} {kp : Int} {lv : Nat} {Sx : Int → Int} {nx jx : Nat} {cx : CS} {Nx : Int} {Tg : CT} {gs : MS} {mx : MK} {nm : Int → Int64 → Int} {eo : Int} (ha : OB T a 5) (h_dp : -2147483648 ≤ dp ∧ dp ≤ 2147483647) (hw : WT T σ) (hex : ∀ (d : Nat) {T : CT} {σ : MS} {a : Nat} {dp : Int} {kp : Int} {Sx : Int → Int} {nx jx : Nat} {cx : CS} {Nx : Int} {Tg : CT} {gs : MS} {mx : MK} {nm : Int → Int64 → Int} {eo : Int} (ha : OB T a 5) (h_dp : -2147483648 ≤ dp ∧ dp ≤ 2147483647) (hw : WT T σ) (hdp : 1 ≤ dp ∧ dp ≤ 9) (hlv : 9 ≤ dp + (lv : Int)) (hfx : RDX σ a Sx nx jx cx Nx) (hmg : MG Tg gs T σ a mx) (hmb : MBD mx) (heo : eo = dp - 1) (hkp : kp ≤ 150) (hrp : RP σ a kp), Tn (d + 5 * lv + 10) m_X5_expression 0 T σ [(0, .ref a), (1, .int (iI dp))] [] (fun ro T2 σ2 => ∃ v : Int, ro = some (.int (iI v)) ∧ WT T2 σ2 ∧ FrC T [5, 6, 7, 43, 44, 47, 50, 51, 84, 85, 86, 87, 521] σ σ2 ∧ (v = 0 ∨ v = 1) ∧ (XQM σ2 a Sx nx (eo) [2] jx cx Nx v nm Tg gs T2 mx) ∧ (RP σ2 a (kp - 4 * v)))) (hdp : 1 ≤ dp ∧ dp ≤ 8) (hlv : 8 ≤ dp + (lv : Int)) (hfx : RDX σ a Sx nx jx cx Nx) (hmg : MG Tg gs T σ a mx) (hmb : MBD mx) (heo : eo = dp) (hkp : kp ≤ 150) (hrp : RP σ a kp) : Tn (d + 5 * lv + 12) m_X5_factor 0 T σ [(0, .ref a), (1, .int (iI dp))] [] (fun ro T2 σ2 => ∃ v : Int, ro = some (.int (iI v)) ∧ WT T2 σ2 ∧ FrC T [5, 6, 7, 43, 44, 47, 50, 51, 84, 85, 86, 87, 521] σ σ2 ∧ (v = 0 ∨ v = 1) ∧ (XQM σ2 a Sx nx (eo) [0] jx cx Nx v nm Tg gs T2 mx) ∧ (RP σ2 a (kp - 4 * v))) := by
  have hSb := hfx.1.sb
  refine tn_aload_n dX5_factor_0 rfl 0 rfl ?_
  obtain ⟨xq1, hx2, hk3⟩ : ∃ x : Nat, σ.2.1 33 a = (x : Int) ∧ (T x).1 = 39 := wf_33 hw ha
  have hk3o : OB T xq1 9 := ⟨by omega, by rw [hk3]; rfl, by omega⟩
  refine tn_getR (ci := 5) (i := 0) (n := 33) (x := xq1) dX5_factor_1 rfl lay_5 (by decide) fl5_12 ha rfl rfl (hx2) ?_
  refine tn_getI (ci := 9) (i := 4) (n := 85) (t := σ.2.1 85 xq1) dX5_factor_4 rfl lay_9 (by decide) fl5_71 hk3o rfl rfl (rfl) ?_
  have g5 : ((-2147483648 : Int) ≤ σ.2.1 85 xq1 ∧ σ.2.1 85 xq1 ≤ 2147483647) := wf_85 hw hk3o
  have g5kd : σ.2.1 85 xq1 = ckd (tkS Sx jx) := (rfl).symm.trans ((hfx).1.kd (hx2))
  refine tn_bipush dX5_factor_7 (by decide) ?_
  refine tn_icmp_eq (tgt := 18) dX5_factor_9 (by decide) ⟨by omega, by omega⟩ ⟨by decide, by decide⟩ (fun h6 => ?_) (fun h6 => ?_)
  · refine tn_aload_n dX5_factor_18 rfl 0 rfl ?_
    refine tn_getR (ci := 5) (i := 0) (n := 33) (x := xq1) dX5_factor_19 rfl lay_5 (by decide) fl5_12 ha rfl rfl (hx2) ?_
    refine tn_callV (M := m_X5_factor) (pc := 22) (ix := 93) (ci := 9) (M' := m_X9_next) (As := []) (rest := []) dX5_factor_22 ok_X9_next im_X9_next se_X9_next ml5_93 np_X9_next rfl rfl hk3o rfl (Nat.le_of_ble_eq_true rfl) (Nat.le_of_ble_eq_true rfl) rfl (k_X9_next_m (d + 5 * lv + 10) (T := T) (σ := σ) (a := xq1) hk3o hw (RP.tk hrp hw ha (hx2)) ((hfx).1.tk (hx2)) (by rw [(hfx).1.kd (hx2)]; omega)) (fun r7 T9 σ8 gt10 hp => ?_)
    obtain ⟨rfl, rfl, w17, F18, f11, f12, f13, f14, f15⟩ := hp
    clear gt10
    have pc20 : EXR Sx (eo) [0] jx (eo) [1, 51] (jx + 1) 0 [] := fun _ _ => x0m hSb (by omega)
    have pm21 : CN nm mx.rt (cx) (EXW Sx nm rnQ tb1 (eo) [0] jx mx (eo) [1, 51] (jx + 1) 0 (mx.push (0, 2, 1, [(0, 0)]))) := fun hn9 b9 u9 => GW.of (gm0m hSb (by omega)) rfl
    have rd220 : EXR Sx (eo) [0] jx (eo) [0] jx (0) ([]) := EXR.nl
    have rd22 : EXR Sx (eo) [0] jx (eo) [1, 51] (jx + 1) (0 + 0) ([]) := EXR.g0 (l := [0]) (ms := [1, 51]) [] rd220 pc20
    have rm230 : CN nm mx.rt (cx) (EXW Sx nm rnQ tb1 (eo) [0] jx mx (eo) [0] jx (0) mx) := fun _ => EXW.nl
    have rm23 : CN nm mx.rt (cx) (EXW Sx nm rnQ tb1 (eo) [0] jx mx (eo) [1, 51] (jx + 1) (0 + 0) (mx.push (0, 2, 1, [(0, 0)]))) := CN.ge (l := [0]) (ms := [1, 51]) [] rm230 (fun q9 => q9) pm21
    have fx19 : RDX σ8 a Sx nx (jx + 1) (cx) (Nx) := RDX.nx hfx hw ha (hx2) F18 f14
    have rp24 : RP σ8 a (kp - 4) := RP.next4 hrp (hx2) F18 (by decide) (by decide) (by decide) f11 f13 (by rw [show σ.2.1 85 xq1 = σ.2.1 85 xq1 from rfl]; omega)
    show Tn _ _ 25 T σ8 [(0, .ref a), (1, .int (iI dp))] [] _
    refine tn_aload_n dX5_factor_25 rfl 0 rfl ?_
    refine tn_iload_n dX5_factor_26 rfl 1 rfl ?_
    have mg25 : MG Tg gs T σ8 a mx := (MG.tk hmg (hx2) f15)
    have sy26 : (mx).w = ((mx.push (0, 2, 1, [(0, 0)]))).w := rfl
    refine tn_callV (M := m_X5_factor) (pc := 27) (ix := 253) (ci := 5) (M' := m_X5_atom) (As := [.int (iI dp)]) (rest := []) dX5_factor_27 ok_X5_atom im_X5_atom se_X5_atom ml5_253 np_X5_atom rfl rfl ha rfl (Nat.le_of_ble_eq_true rfl) (Nat.le_of_ble_eq_true rfl) rfl (k_X5_atom_m (d) (T := T) (σ := σ8) (a := a) (dp := dp) (kp := kp - 4) (lv := lv) (eo := eo) (nm := nm) (Tg := Tg) (gs := gs) (mx := (mx.push (0, 2, 1, [(0, 0)]))) ha (by omega) w17 hex (by omega) (by omega) fx19 (MG.cg mg25 sy26) (MBD.same hmb sy26) (by omega) (by omega) rp24) (fun r27 T29 σ28 gt30 hp => ?_)
    obtain ⟨v34, rfl, w35, F36, f31, f32, f33⟩ := hp
    replace ha : OB T29 a 5 := gt30.ob ha
    have rp38 : RP σ28 a (kp - 4 * v34 - 4) := RP.up f33 (by omega)
    show Tn _ _ 30 T29 σ28 [(0, .ref a), (1, .int (iI dp))] [.int (iI v34)] _
    refine tn_if_ne (tgt := 35) dX5_factor_30 (by decide) ⟨by omega, by omega⟩ (fun h39 => ?_) (fun h39 => ?_)
    · refine tn_aload_n dX5_factor_35 rfl 0 rfl ?_
      refine tn_iconst dX5_factor_36 ?_
      refine tn_iconst dX5_factor_37 ?_
      refine tn_iconst dX5_factor_38 ?_
      obtain ⟨i40, es41, m42, mw43, lo44, rr45, fx46, ni47, mgq48, mb49, cn50⟩ := f32.1 (by omega)
      have pm51 : CN nm mx.rt (es41.foldl uC (cx)) (EXW Sx nm rnQ tb1 (eo) [1] (jx + 1) (mx.push (0, 2, 1, [(0, 0)])) (eo) [] i40 m42 (mw43.on (mx.push (0, 2, 1, [(0, 0)])))) := cn50
      have rd52a : EXR Sx (eo) [0] jx (eo) [51] i40 (0 + 0 + m42) ([] ++ es41) := EXR.gg (l := [1]) (ms := []) [51] rd22 rr45
      have rd52 : EXR Sx (eo) [0] jx (eo) [51] i40 (0 + 0 + m42) (es41) := rd52a
      have rm53 : CN nm mx.rt (es41.foldl uC (cx)) (EXW Sx nm rnQ tb1 (eo) [0] jx mx (eo) [51] i40 (0 + 0 + m42) (mw43.on (mx.push (0, 2, 1, [(0, 0)])))) := CN.ge (l := [1]) (ms := []) [51] rm23 (fun q9 => (fun q9 => q9) (NMA.fo ni47 q9)) pm51
      refine tn_callV (M := m_X5_factor) (pc := 39) (ix := 244) (ci := 5) (M' := m_X5_join) (As := [.int (iI 2), .int (iI 1), .int (iI 0)]) (rest := []) dX5_factor_39 ok_X5_join im_X5_join se_X5_join ml5_244 np_X5_join rfl rfl ha rfl (Nat.le_of_ble_eq_true rfl) (Nat.le_of_ble_eq_true rfl) rfl (k_X5_join_n (d + 5 * lv + 7) (T := T29) (σ := σ28) (a := a) (k := 2) (e := 1) (l := 0) (kp := kp - 4 * v34 - 4) (Tg := Tg) (gs := gs) (mx := mw43) ha (by decide) (by decide) (by decide) w35 (by omega) (by omega) fx46 mgq48 mb49 (by omega) rp38) (fun r54 T56 σ55 gt57 hp => ?_)
      obtain ⟨rfl, w62, F63, f58, f59, f60⟩ := hp
      replace ha : OB T56 a 5 := gt57.ob ha
      have rp65 : RP σ55 a (kp - 4 * v34 - 3) := RP.up f60 (by omega)
      show Tn _ _ 42 T56 σ55 [(0, .ref a), (1, .int (iI dp))] [] _
      refine tn_iconst dX5_factor_42 ?_
      have pc70 : EXR Sx (eo) [51] i40 (eo) [] i40 1 [] := fun _ _ => x51 hSb 
      have pm71 : CN nm mx.rt (es41.foldl uC (cx)) (EXW Sx nm rnQ tb1 (eo) [51] i40 (mw43.on (mx.push (0, 2, 1, [(0, 0)]))) (eo) [] i40 1 ((mw43.on (mx.push (0, 2, 1, [(0, 0)]))).one tb1)) := fun hn9 b9 u9 => GW.of (gm51 hSb ) rfl
      have rd72 : EXR Sx (eo) [0] jx (eo) [] i40 (0 + 0 + m42 + 1) (es41) := EXR.g0 (l := [51]) (ms := []) [] rd52 pc70
      have rm73 : CN nm mx.rt (es41.foldl uC (cx)) (EXW Sx nm rnQ tb1 (eo) [0] jx mx (eo) [] i40 (0 + 0 + m42 + 1) ((mw43.on (mx.push (0, 2, 1, [(0, 0)]))).one tb1)) := CN.ge (l := [51]) (ms := []) [] rm53 (fun q9 => q9) pm71
      have hz74e : ((mw43.on (mx.push (0, 2, 1, [(0, 0)]))).one tb1) = (((mw43).jn (2) (1) (0))).on mx := rfl
      have hz74c : (es41.foldl uC (cx)) = (es41).foldl uC cx := rfl
      have hz74 : CN nm mx.rt ((es41).foldl uC cx) (EXW Sx nm rnQ tb1 (eo) [0] jx mx (eo) [] i40 (0 + 0 + m42 + 1) ((((mw43).jn (2) (1) (0))).on mx)) := by
        have q9 := CN.up (c2 := es41.foldl uC (cx)) rm73 (fun q9 => q9)
        rw [hz74e, hz74c] at q9
        exact q9
      have ra68 : XSM σ55 a Sx nx (eo) [0] jx cx Nx (eo) [] ((jx : Int) + 1) nm Tg gs T56 mx := ⟨i40, es41, 0 + 0 + m42 + 1, ((mw43).jn (2) (1) (0)), (by omega), rd72, RDX.nq (RDX.cq f58 hz74c) (by omega), ni47, f59, (MBD.jn mb49), hz74⟩
      exact tn_zret (v := 1) rfl (by decide) dX5_factor_43 ⟨_, rfl, w62, (((FrC.rfl.trans (FrC.sub F18 (by decide))).trans (FrC.sub F36 (by decide))).trans (FrC.sub (FrC.old F63 gt30) (by decide))), by omega, ⟨fun _ => ra68, fun q => absurd q (by decide)⟩, (RP.up rp65 (by omega))⟩
    · refine tn_iconst dX5_factor_33 ?_
      obtain ⟨⟨pl77, g78, fx79⟩, nf80⟩ := f32.2 (by omega)
      have rf81 : EXF Sx (eo) [0] jx (pl77) := EXR.fl (l := [1]) [51] rd22 g78
      have rb76 : XFc σ28 a Sx (eo) [0] jx ∧ FG Tg gs T29 σ28 a := ⟨⟨_, rf81, fx79⟩, nf80⟩
      exact tn_zret (v := 0) rfl (by decide) dX5_factor_34 ⟨_, rfl, w35, ((FrC.rfl.trans (FrC.sub F18 (by decide))).trans (FrC.sub F36 (by decide))), by omega, ⟨fun q => absurd q (by decide), fun _ => rb76⟩, (RP.up rp38 (by omega))⟩
  · refine tn_aload_n dX5_factor_12 rfl 0 rfl ?_
    refine tn_iload_n dX5_factor_13 rfl 1 rfl ?_
    have pc82 : EXR Sx (eo) [0] jx (eo) [1] jx 0 [] := fun _ _ => x0n hSb (by omega)
    have pm83 : CN nm mx.rt (cx) (EXW Sx nm rnQ tb1 (eo) [0] jx mx (eo) [1] jx 0 mx) := fun hn9 b9 u9 => GW.of (gm0n hSb (by omega)) rfl
    have rd840 : EXR Sx (eo) [0] jx (eo) [0] jx (0) ([]) := EXR.nl
    have rd84 : EXR Sx (eo) [0] jx (eo) [1] jx (0 + 0) ([]) := EXR.g0 (l := [0]) (ms := [1]) [] rd840 pc82
    have rm850 : CN nm mx.rt (cx) (EXW Sx nm rnQ tb1 (eo) [0] jx mx (eo) [0] jx (0) mx) := fun _ => EXW.nl
    have rm85 : CN nm mx.rt (cx) (EXW Sx nm rnQ tb1 (eo) [0] jx mx (eo) [1] jx (0 + 0) mx) := CN.ge (l := [0]) (ms := [1]) [] rm850 (fun q9 => q9) pm83
    refine tn_callV (M := m_X5_factor) (pc := 14) (ix := 253) (ci := 5) (M' := m_X5_atom) (As := [.int (iI dp)]) (rest := []) dX5_factor_14 ok_X5_atom im_X5_atom se_X5_atom ml5_253 np_X5_atom rfl rfl ha rfl (Nat.le_of_ble_eq_true rfl) (Nat.le_of_ble_eq_true rfl) rfl (k_X5_atom_m (d) (T := T) (σ := σ) (a := a) (dp := dp) (kp := kp) (lv := lv) (eo := eo) (nm := nm) (Tg := Tg) (gs := gs) (mx := mx) ha (by omega) hw hex (by omega) (by omega) hfx hmg hmb (by omega) (by omega) hrp) (fun r86 T88 σ87 gt89 hp => ?_)
    obtain ⟨v93, rfl, w94, F95, f90, f91, f92⟩ := hp
    replace ha : OB T88 a 5 := gt89.ob ha
    show Tn _ _ 17 T88 σ87 [(0, .ref a), (1, .int (iI dp))] [.int (iI v93)] _
    have ra97 : v93 = 1 → XSM σ87 a Sx nx (eo) [0] jx cx Nx (eo) [] ((jx : Int) + 1) nm Tg gs T88 mx := fun hv => by
      obtain ⟨i99, es100, m101, mw102, lo103, rr104, fx105, ni106, mgq107, mb108, cn109⟩ := f91.1 hv
      have pm110 : CN nm mx.rt (es100.foldl uC (cx)) (EXW Sx nm rnQ tb1 (eo) [1] jx mx (eo) [] i99 m101 (mw102.on mx)) := cn109
      have rd111a : EXR Sx (eo) [0] jx (eo) [] i99 (0 + 0 + m101) ([] ++ es100) := EXR.gg (l := [1]) (ms := []) [] rd84 rr104
      have rd111 : EXR Sx (eo) [0] jx (eo) [] i99 (0 + 0 + m101) (es100) := rd111a
      have rm112 : CN nm mx.rt (es100.foldl uC (cx)) (EXW Sx nm rnQ tb1 (eo) [0] jx mx (eo) [] i99 (0 + 0 + m101) (mw102.on mx)) := CN.ge (l := [1]) (ms := []) [] rm85 (fun q9 => (fun q9 => q9) (NMA.fo ni106 q9)) pm110
      have hz113e : (mw102.on mx) = (mw102).on mx := rfl
      have hz113c : (es100.foldl uC (cx)) = (es100).foldl uC cx := rfl
      have hz113 : CN nm mx.rt ((es100).foldl uC cx) (EXW Sx nm rnQ tb1 (eo) [0] jx mx (eo) [] i99 (0 + 0 + m101) ((mw102).on mx)) := by
        have q9 := CN.up (c2 := es100.foldl uC (cx)) rm112 (fun q9 => q9)
        rw [hz113e, hz113c] at q9
        exact q9
      exact ⟨i99, es100, 0 + 0 + m101, mw102, (by omega), rd111, RDX.nq (RDX.cq fx105 hz113c) (by omega), ni106, mgq107, mb108, hz113⟩
    have rb98 : v93 = 0 → XFc σ87 a Sx (eo) [0] jx ∧ FG Tg gs T88 σ87 a := fun hv => by
      obtain ⟨⟨pl114, g115, fx116⟩, nf117⟩ := f91.2 hv
      have rf118 : EXF Sx (eo) [0] jx (pl114) := EXR.fl (l := [1]) [] rd84 g115
      exact ⟨⟨_, rf118, fx116⟩, nf117⟩
    exact tn_zret (v := v93) rfl (by omega) dX5_factor_17 ⟨_, rfl, w94, (FrC.rfl.trans (FrC.sub F95 (by decide))), by omega, ⟨ra97, rb98⟩, (RP.up f92 (by omega))⟩
end
section
set_option maxHeartbeats 1000000 in
set_option maxRecDepth 20000 in
theorem l_X5_term_m_12 (d : Nat) {T0 : CT} {σ0 : MS} {a : Nat} {c1 : Int} {Sx : Int → Int} {nx : Nat} {jx : Nat} {cx : CS} {Nx : Int} {nm : Int → Int64 → Int} {Tg : CT} {gs : MS} {mx : MK} {eo : Int} {kp : Int} {lv : Nat} {post : Option Value → CT → MS → Prop} (r_c1 : 1 ≤ c1 ∧ c1 ≤ 8) (hw0 : WT T0 σ0) (hlv : 8 ≤ c1 + (lv : Int)) (heo : eo = c1) (hkp : kp ≤ 150) (hex : ∀ (d : Nat) {T : CT} {σ : MS} {a : Nat} {dp : Int} {kp : Int} {Sx : Int → Int} {nx jx : Nat} {cx : CS} {Nx : Int} {Tg : CT} {gs : MS} {mx : MK} {nm : Int → Int64 → Int} {eo : Int} (ha : OB T a 5) (h_dp : -2147483648 ≤ dp ∧ dp ≤ 2147483647) (hw : WT T σ) (hdp : 1 ≤ dp ∧ dp ≤ 9) (hlv : 9 ≤ dp + (lv : Int)) (hfx : RDX σ a Sx nx jx cx Nx) (hmg : MG Tg gs T σ a mx) (hmb : MBD mx) (heo : eo = dp - 1) (hkp : kp ≤ 150) (hrp : RP σ a kp), Tn (d + 5 * lv + 10) m_X5_expression 0 T σ [(0, .ref a), (1, .int (iI dp))] [] (fun ro T2 σ2 => ∃ v : Int, ro = some (.int (iI v)) ∧ WT T2 σ2 ∧ FrC T [5, 6, 7, 43, 44, 47, 50, 51, 84, 85, 86, 87, 521] σ σ2 ∧ (v = 0 ∨ v = 1) ∧ (XQM σ2 a Sx nx (eo) [2] jx cx Nx v nm Tg gs T2 mx) ∧ (RP σ2 a (kp - 4 * v)))) (hx_57 : ∀ (T : CT) (i2 : Int) (σ : MS) , (GT T0 T) → (WT T σ) → (FrC T0 [5, 6, 7, 43, 44, 47, 50, 51, 84, 85, 86, 87, 521] σ0 σ) → (OB T a 5) → (0 ≤ i2 ∧ i2 ≤ 2147483647) → (True) → (RP σ a kp) → (XFc σ a Sx (eo) [4] jx ∧ FG Tg gs T σ a) → Tn (d + 5 * lv + 13) m_X5_term 57 T σ [(0, .ref a), (1, .int (iI c1)), (2, .int (iI i2))] [] post) (hx_73 : ∀ (T : CT) (i2 : Int) (σ : MS) , (GT T0 T) → (WT T σ) → (FrC T0 [5, 6, 7, 43, 44, 47, 50, 51, 84, 85, 86, 87, 521] σ0 σ) → (OB T a 5) → (0 ≤ i2 ∧ i2 ≤ 2147483647) → (True) → (RP σ a kp) → (XSM σ a Sx nx (eo) [4] jx cx Nx (eo) [] ((jx : Int) + 1) nm Tg gs T mx) → Tn (d + 5 * lv + 13) m_X5_term 73 T σ [(0, .ref a), (1, .int (iI c1)), (2, .int (iI i2))] [] post) : ∀ (n : Nat) (T : CT) (i2 : Int) (σ : MS) , (GT T0 T) → (WT T σ) → (FrC T0 [5, 6, 7, 43, 44, 47, 50, 51, 84, 85, 86, 87, 521] σ0 σ) → (OB T a 5) → (0 ≤ i2 ∧ i2 ≤ 2147483647) → (XSM σ a Sx nx (eo) [4] jx cx Nx (eo) [9] ((jx : Int) + 1 + i2) nm Tg gs T mx) → (RP σ a kp) → (2147483700 - i2).toNat = n → Tn (d + 5 * lv + 13) m_X5_term 12 T σ [(0, .ref a), (1, .int (iI c1)), (2, .int (iI i2))] [] post := by
  intro n
  induction n using Nat.strongRecOn with
  | _ n ih =>
    intro T i2 σ hG hw hF h_a r_i2 hx hrp hm
    obtain ⟨jy, ey, my, mw, loy, rdy, hfy, niy, mgy, mby, cny⟩ := hx
    have hSb := hfy.1.sb
    have hjn := RDX.jn hfy hw h_a
    refine tn_iload_n dX5_term_12 rfl 2 rfl ?_
    refine tn_sipush dX5_term_13 (by decide) ?_
    refine tn_icmp_ge (tgt := 73) dX5_term_16 (by decide) ⟨by omega, by omega⟩ ⟨by decide, by decide⟩ (fun h1 => ?_) (fun h1 => ?_)
    · exact tn_sub [0, 1, 2] rfl (hx_73 T (i2) σ hG hw (FrC.rfl.trans (FrC.sub hF (by decide))) h_a (by omega) True.intro (RP.up hrp (by omega)) (False.elim (by omega)))
    · refine tn_aload_n dX5_term_19 rfl 0 rfl ?_
      obtain ⟨xq2, hx3, hk4⟩ : ∃ x : Nat, σ.2.1 33 a = (x : Int) ∧ (T x).1 = 39 := wf_33 hw h_a
      have hk4o : OB T xq2 9 := ⟨by omega, by rw [hk4]; rfl, by omega⟩
      refine tn_getR (ci := 5) (i := 0) (n := 33) (x := xq2) dX5_term_20 rfl lay_5 (by decide) fl5_12 h_a rfl rfl (hx3) ?_
      refine tn_getI (ci := 9) (i := 4) (n := 85) (t := σ.2.1 85 xq2) dX5_term_23 rfl lay_9 (by decide) fl5_71 hk4o rfl rfl (rfl) ?_
      have g6 : ((-2147483648 : Int) ≤ σ.2.1 85 xq2 ∧ σ.2.1 85 xq2 ≤ 2147483647) := wf_85 hw hk4o
      have g6kd : σ.2.1 85 xq2 = ckd (tkS Sx jy) := (rfl).symm.trans ((hfy).1.kd (hx3))
      refine tn_bipush dX5_term_26 (by decide) ?_
      refine tn_icmp_ne (tgt := 73) dX5_term_28 (by decide) ⟨by omega, by omega⟩ ⟨by decide, by decide⟩ (fun h7 => ?_) (fun h7 => ?_)
      · have pc8 : EXR Sx (eo) [9] jy (eo) [] jy 0 [] := fun _ _ => x9n hSb (by omega)
        have pm9 : CN nm mx.rt (ey.foldl uC cx) (EXW Sx nm rnQ tb1 (eo) [9] jy (mw.on mx) (eo) [] jy 0 (mw.on mx)) := fun hn9 b9 u9 => GW.of (gm9n hSb (by omega)) rfl
        have rd10 : EXR Sx (eo) [4] jx (eo) [] jy (my + 0) (ey) := EXR.g0 (l := [9]) (ms := []) [] rdy pc8
        have rm11 : CN nm mx.rt (ey.foldl uC cx) (EXW Sx nm rnQ tb1 (eo) [4] jx mx (eo) [] jy (my + 0) (mw.on mx)) := CN.ge (l := [9]) (ms := []) [] cny (fun q9 => q9) pm9
        have hz13e : (mw.on mx) = (mw).on mx := rfl
        have hz13c : (ey.foldl uC cx) = (ey).foldl uC cx := rfl
        have hz13 : CN nm mx.rt ((ey).foldl uC cx) (EXW Sx nm rnQ tb1 (eo) [4] jx mx (eo) [] jy (my + 0) ((mw).on mx)) := by
          have q9 := CN.up (c2 := ey.foldl uC cx) rm11 (fun q9 => q9)
          rw [hz13e, hz13c] at q9
          exact q9
        have hx12 : XSM σ a Sx nx (eo) [4] jx cx Nx (eo) [] ((jx : Int) + 1) nm Tg gs T mx := ⟨jy, ey, my + 0, mw, (by omega), rd10, RDX.nq (RDX.cq hfy hz13c) (by omega), niy, mgy, mby, hz13⟩
        exact tn_sub [0, 1, 2] rfl (hx_73 T (i2) σ hG hw (FrC.rfl.trans (FrC.sub hF (by decide))) h_a (by omega) True.intro (RP.up hrp (by omega)) hx12)
      · refine tn_aload_n dX5_term_31 rfl 0 rfl ?_
        refine tn_getI (ci := 5) (i := 17) (n := 50) (t := σ.2.1 50 a) dX5_term_32 rfl lay_5 (by decide) fl5_216 h_a rfl rfl (rfl) ?_
        have g14 : ((-2147483648 : Int) ≤ σ.2.1 50 a ∧ σ.2.1 50 a ≤ 2147483647) := wf_50 hw h_a
        have g14pk : σ.2.1 50 a = (mw).pk := (rfl).symm.trans (MG.e50 mgy)
        refine tn_istore_n (L' := [(3, .int (iI (σ.2.1 50 a))), (0, .ref a), (1, .int (iI c1)), (2, .int (iI i2))]) dX5_term_35 rfl (by decide) rfl ?_
        refine tn_aload_n dX5_term_36 rfl 1 rfl ?_
        refine tn_getI (ci := 5) (i := 18) (n := 51) (t := σ.2.1 51 a) dX5_term_37 rfl lay_5 (by decide) fl5_219 h_a rfl rfl (rfl) ?_
        have g15 : ((-2147483648 : Int) ≤ σ.2.1 51 a ∧ σ.2.1 51 a ≤ 2147483647) := wf_51 hw h_a
        have g15pv : σ.2.1 51 a = (mw).pv := (rfl).symm.trans (MG.e51 mgy)
        refine tn_istore (L' := [(4, .int (iI (σ.2.1 51 a))), (3, .int (iI (σ.2.1 50 a))), (0, .ref a), (1, .int (iI c1)), (2, .int (iI i2))]) dX5_term_40 (by decide) rfl ?_
        refine tn_aload_n dX5_term_42 rfl 2 rfl ?_
        refine tn_getR (ci := 5) (i := 0) (n := 33) (x := xq2) dX5_term_43 rfl lay_5 (by decide) fl5_12 h_a rfl rfl (hx3) ?_
        refine tn_callV (M := m_X5_term) (pc := 46) (ix := 93) (ci := 9) (M' := m_X9_next) (As := []) (rest := []) dX5_term_46 ok_X9_next im_X9_next se_X9_next ml5_93 np_X9_next rfl rfl hk4o rfl (Nat.le_of_ble_eq_true rfl) (Nat.le_of_ble_eq_true rfl) rfl (k_X9_next_m (d + 5 * lv + 11) (T := T) (σ := σ) (a := xq2) hk4o hw (RP.tk hrp hw h_a (hx3)) ((hfy).1.tk (hx3)) (by rw [(hfy).1.kd (hx3)]; omega)) (fun r16 T18 σ17 gt19 hp => ?_)
        obtain ⟨rfl, rfl, w26, F27, f20, f21, f22, f23, f24⟩ := hp
        clear gt19
        have pc29 : EXR Sx (eo) [9] jy (eo) [0, 51, 9] (jy + 1) 0 [] := fun _ _ => x9y hSb (by omega)
        have pm30 : CN nm mx.rt (ey.foldl uC cx) (EXW Sx nm rnQ tb1 (eo) [9] jy (mw.on mx) (eo) [0, 51, 9] (jy + 1) 0 ((mw.on mx).pj 3)) := fun hn9 b9 u9 => GW.of (gm9y hSb (by omega)) rfl
        have rd31 : EXR Sx (eo) [4] jx (eo) [0, 51, 9] (jy + 1) (my + 0) (ey) := EXR.g0 (l := [9]) (ms := [0, 51, 9]) [] rdy pc29
        have rm32 : CN nm mx.rt (ey.foldl uC cx) (EXW Sx nm rnQ tb1 (eo) [4] jx mx (eo) [0, 51, 9] (jy + 1) (my + 0) ((mw.on mx).pj 3)) := CN.ge (l := [9]) (ms := [0, 51, 9]) [] cny (fun q9 => q9) pm30
        have fx28 : RDX σ17 a Sx nx (jy + 1) (ey.foldl uC cx) (Nx + my) := RDX.nx hfy hw h_a (hx3) F27 f23
        have rp33 : RP σ17 a (kp - 4) := RP.next4 hrp (hx3) F27 (by decide) (by decide) (by decide) f20 f22 (by rw [show σ.2.1 85 xq2 = σ.2.1 85 xq2 from rfl]; omega)
        show Tn _ _ 49 T σ17 [(4, .int (iI (σ.2.1 51 a))), (3, .int (iI (σ.2.1 50 a))), (0, .ref a), (1, .int (iI c1)), (2, .int (iI i2))] [] _
        refine tn_aload_n dX5_term_49 rfl 2 rfl ?_
        refine tn_iload_n dX5_term_50 rfl 3 rfl ?_
        have mg34 : MG Tg gs T σ17 a mw := (MG.tk mgy (hx3) f24)
        have sy35 : (mw).w = (((mw.on mx).pj 3)).w := rfl
        refine tn_callV (M := m_X5_term) (pc := 51) (ix := 250) (ci := 5) (M' := m_X5_factor) (As := [.int (iI c1)]) (rest := []) dX5_term_51 ok_X5_factor im_X5_factor se_X5_factor ml5_250 np_X5_factor rfl rfl h_a rfl (Nat.le_of_ble_eq_true rfl) (Nat.le_of_ble_eq_true rfl) rfl (k_X5_factor_m (d) (T := T) (σ := σ17) (a := a) (dp := c1) (kp := kp - 4) (lv := lv) (eo := eo) (nm := nm) (Tg := Tg) (gs := gs) (mx := ((mw.on mx).pj 3)) h_a (by omega) w26 hex (by omega) (by omega) fx28 (MG.cg mg34 sy35) (MBD.same mby sy35) (by omega) (by omega) rp33) (fun r36 T38 σ37 gt39 hp => ?_)
        obtain ⟨v43, rfl, w44, F45, f40, f41, f42⟩ := hp
        replace h_a : OB T38 a 5 := gt39.ob h_a
        have rp47 : RP σ37 a (kp - 4 * v43 - 4) := RP.up f42 (by omega)
        show Tn _ _ 54 T38 σ37 [(4, .int (iI (σ.2.1 51 a))), (3, .int (iI (σ.2.1 50 a))), (0, .ref a), (1, .int (iI c1)), (2, .int (iI i2))] [.int (iI v43)] _
        refine tn_if_ne (tgt := 59) dX5_term_54 (by decide) ⟨by omega, by omega⟩ (fun h48 => ?_) (fun h48 => ?_)
        · refine tn_aload_n dX5_term_59 rfl 2 rfl ?_
          refine tn_iconst dX5_term_60 ?_
          refine tn_iload_n dX5_term_61 rfl 1 rfl ?_
          refine tn_iload dX5_term_62 0 rfl ?_
          obtain ⟨i49, es50, m51, mw52, lo53, rr54, fx55, ni56, mgq57, mb58, cn59⟩ := f41.1 (by omega)
          have pm60 : CN nm mx.rt (es50.foldl uC (ey.foldl uC cx)) (EXW Sx nm rnQ tb1 (eo) [0] (jy + 1) ((mw.on mx).pj 3) (eo) [] i49 m51 (mw52.on ((mw.on mx).pj 3))) := cn59
          have rd61 : EXR Sx (eo) [4] jx (eo) [51, 9] i49 (my + 0 + m51) (ey ++ es50) := EXR.gg (l := [0]) (ms := []) [51, 9] rd31 rr54
          have rm62 : CN nm mx.rt (es50.foldl uC (ey.foldl uC cx)) (EXW Sx nm rnQ tb1 (eo) [4] jx mx (eo) [51, 9] i49 (my + 0 + m51) (mw52.on ((mw.on mx).pj 3))) := CN.ge (l := [0]) (ms := []) [51, 9] rm32 (fun q9 => (fun q9 => q9) (NMA.fo ni56 q9)) pm60
          refine tn_callV (M := m_X5_term) (pc := 64) (ix := 244) (ci := 5) (M' := m_X5_join) (As := [.int (iI 3), .int (iI (σ.2.1 50 a)), .int (iI (σ.2.1 51 a))]) (rest := []) dX5_term_64 ok_X5_join im_X5_join se_X5_join ml5_244 np_X5_join rfl rfl h_a rfl (Nat.le_of_ble_eq_true rfl) (Nat.le_of_ble_eq_true rfl) rfl (k_X5_join_n (d + 5 * lv + 8) (T := T38) (σ := σ37) (a := a) (k := 3) (e := σ.2.1 50 a) (l := σ.2.1 51 a) (kp := kp - 4 * v43 - 4) (Tg := Tg) (gs := gs) (mx := mw52) h_a (by decide) (by omega) (by omega) w44 (by omega) (by omega) fx55 mgq57 mb58 (by omega) rp47) (fun r63 T65 σ64 gt66 hp => ?_)
          obtain ⟨rfl, w71, F72, f67, f68, f69⟩ := hp
          have mj73 := f68
          rw [show σ.2.1 50 a = (mw).pk from g14pk, show σ.2.1 51 a = (mw).pv from g15pv] at mj73
          replace h_a : OB T65 a 5 := gt66.ob h_a
          have rp75 : RP σ64 a (kp - 4 * v43 - 3) := RP.up f69 (by omega)
          show Tn _ _ 67 T65 σ64 [(4, .int (iI (σ.2.1 51 a))), (3, .int (iI (σ.2.1 50 a))), (0, .ref a), (1, .int (iI c1)), (2, .int (iI i2))] [] _
          refine tn_iinc (q0 := 4) (L' := [(2, .int (iI (i2 + 1))), (4, .int (iI (σ.2.1 51 a))), (3, .int (iI (σ.2.1 50 a))), (0, .ref a), (1, .int (iI c1))]) dX5_term_67 rfl (by decide) rfl ?_
          refine tn_goto (tgt := 12) dX5_term_70 (by decide) ?_
          have pc76 : EXR Sx (eo) [51] i49 (eo) [] i49 1 [] := fun _ _ => x51 hSb 
          have pm77 : CN nm mx.rt (es50.foldl uC (ey.foldl uC cx)) (EXW Sx nm rnQ tb1 (eo) [51] i49 (mw52.on ((mw.on mx).pj 3)) (eo) [] i49 1 ((mw52.on ((mw.on mx).pj 3)).one tb1)) := fun hn9 b9 u9 => GW.of (gm51 hSb ) rfl
          have rd78 : EXR Sx (eo) [4] jx (eo) [9] i49 (my + 0 + m51 + 1) (ey ++ es50) := EXR.g0 (l := [51]) (ms := []) [9] rd61 pc76
          have rm79 : CN nm mx.rt (es50.foldl uC (ey.foldl uC cx)) (EXW Sx nm rnQ tb1 (eo) [4] jx mx (eo) [9] i49 (my + 0 + m51 + 1) ((mw52.on ((mw.on mx).pj 3)).one tb1)) := CN.ge (l := [51]) (ms := []) [9] rm62 (fun q9 => q9) pm77
          have hz81e : ((mw52.on ((mw.on mx).pj 3)).one tb1) = (((mw52).jn (3) ((mw).pk) ((mw).pv))).on mx := rfl
          have hz81c : (es50.foldl uC (ey.foldl uC cx)) = (ey ++ es50).foldl uC cx := (by simp only [List.foldl_append, List.foldl_cons, List.foldl_nil])
          have hz81 : CN nm mx.rt ((ey ++ es50).foldl uC cx) (EXW Sx nm rnQ tb1 (eo) [4] jx mx (eo) [9] i49 (my + 0 + m51 + 1) ((((mw52).jn (3) ((mw).pk) ((mw).pv))).on mx)) := by
            have q9 := CN.up (c2 := es50.foldl uC (ey.foldl uC cx)) rm79 (fun q9 => q9)
            rw [hz81e, hz81c] at q9
            exact q9
          have hx80 : XSM σ64 a Sx nx (eo) [4] jx cx Nx (eo) [9] ((jx : Int) + 1 + (i2 + 1)) nm Tg gs T65 mx := ⟨i49, ey ++ es50, my + 0 + m51 + 1, ((mw52).jn (3) ((mw).pk) ((mw).pv)), (by omega), rd78, RDX.nq (RDX.cq f67 hz81c) (by omega), (NI2.app niy ni56), mj73, (MBD.jn mb58), hz81⟩
          exact tn_sub [3, 4, 0] rfl (ih _ (by omega) T65 (i2 + 1) σ64 (GT.trans (GT.trans hG gt39) gt66) w71 ((((FrC.rfl.trans (FrC.sub hF (by decide))).trans (FrC.sub (FrC.old F27 hG) (by decide))).trans (FrC.sub (FrC.old F45 hG) (by decide))).trans (FrC.sub (FrC.old F72 (GT.trans hG gt39)) (by decide))) h_a (by omega) hx80 (RP.up rp75 (by omega)) rfl)
        · obtain ⟨⟨pl82, g83, fx84⟩, nf85⟩ := f41.2 (by omega)
          have rf86 : EXF Sx (eo) [4] jx (pl82) := EXR.fl (l := [0]) [51, 9] rd31 g83
          exact tn_sub [2, 3, 4] rfl (hx_57 T38 (i2) σ37 (GT.trans hG gt39) w44 (((FrC.rfl.trans (FrC.sub hF (by decide))).trans (FrC.sub (FrC.old F27 hG) (by decide))).trans (FrC.sub (FrC.old F45 hG) (by decide))) h_a (by omega) True.intro (RP.up rp47 (by omega)) ⟨⟨_, rf86, fx84⟩, nf85⟩)
set_option maxHeartbeats 1000000 in
set_option maxRecDepth 20000 in
theorem k_X5_term_m (d : Nat) {T : CT} {σ : MS} {a : Nat} {dp : Int} {kp : Int} {lv : Nat} {Sx : Int → Int} {nx jx : Nat} {cx : CS} {Nx : Int} {Tg : CT} {gs : MS} {mx : MK} {nm : Int → Int64 → Int} {eo : Int} (ha : OB T a 5) (h_dp : -2147483648 ≤ dp ∧ dp ≤ 2147483647) (hw : WT T σ) (hex : ∀ (d : Nat) {T : CT} {σ : MS} {a : Nat} {dp : Int} {kp : Int} {Sx : Int → Int} {nx jx : Nat} {cx : CS} {Nx : Int} {Tg : CT} {gs : MS} {mx : MK} {nm : Int → Int64 → Int} {eo : Int} (ha : OB T a 5) (h_dp : -2147483648 ≤ dp ∧ dp ≤ 2147483647) (hw : WT T σ) (hdp : 1 ≤ dp ∧ dp ≤ 9) (hlv : 9 ≤ dp + (lv : Int)) (hfx : RDX σ a Sx nx jx cx Nx) (hmg : MG Tg gs T σ a mx) (hmb : MBD mx) (heo : eo = dp - 1) (hkp : kp ≤ 150) (hrp : RP σ a kp), Tn (d + 5 * lv + 10) m_X5_expression 0 T σ [(0, .ref a), (1, .int (iI dp))] [] (fun ro T2 σ2 => ∃ v : Int, ro = some (.int (iI v)) ∧ WT T2 σ2 ∧ FrC T [5, 6, 7, 43, 44, 47, 50, 51, 84, 85, 86, 87, 521] σ σ2 ∧ (v = 0 ∨ v = 1) ∧ (XQM σ2 a Sx nx (eo) [2] jx cx Nx v nm Tg gs T2 mx) ∧ (RP σ2 a (kp - 4 * v)))) (hdp : 1 ≤ dp ∧ dp ≤ 8) (hlv : 8 ≤ dp + (lv : Int)) (hfx : RDX σ a Sx nx jx cx Nx) (hmg : MG Tg gs T σ a mx) (hmb : MBD mx) (heo : eo = dp) (hkp : kp ≤ 150) (hrp : RP σ a kp) : Tn (d + 5 * lv + 13) m_X5_term 0 T σ [(0, .ref a), (1, .int (iI dp))] [] (fun ro T2 σ2 => ∃ v : Int, ro = some (.int (iI v)) ∧ WT T2 σ2 ∧ FrC T [5, 6, 7, 43, 44, 47, 50, 51, 84, 85, 86, 87, 521] σ σ2 ∧ (v = 0 ∨ v = 1) ∧ (XQM σ2 a Sx nx (eo) [4] jx cx Nx v nm Tg gs T2 mx) ∧ (RP σ2 a (kp - 4 * v))) := by
  have hSb := hfx.1.sb
  refine tn_aload_n dX5_term_0 rfl 0 rfl ?_
  refine tn_iload_n dX5_term_1 rfl 1 rfl ?_
  have pc1 : EXR Sx (eo) [4] jx (eo) [0, 9] jx 0 [] := fun _ _ => x4 hSb 
  have pm2 : CN nm mx.rt (cx) (EXW Sx nm rnQ tb1 (eo) [4] jx mx (eo) [0, 9] jx 0 mx) := fun hn9 b9 u9 => GW.of (gm4 hSb ) rfl
  have rd30 : EXR Sx (eo) [4] jx (eo) [4] jx (0) ([]) := EXR.nl
  have rd3 : EXR Sx (eo) [4] jx (eo) [0, 9] jx (0 + 0) ([]) := EXR.g0 (l := [4]) (ms := [0, 9]) [] rd30 pc1
  have rm40 : CN nm mx.rt (cx) (EXW Sx nm rnQ tb1 (eo) [4] jx mx (eo) [4] jx (0) mx) := fun _ => EXW.nl
  have rm4 : CN nm mx.rt (cx) (EXW Sx nm rnQ tb1 (eo) [4] jx mx (eo) [0, 9] jx (0 + 0) mx) := CN.ge (l := [4]) (ms := [0, 9]) [] rm40 (fun q9 => q9) pm2
  refine tn_callV (M := m_X5_term) (pc := 2) (ix := 250) (ci := 5) (M' := m_X5_factor) (As := [.int (iI dp)]) (rest := []) dX5_term_2 ok_X5_factor im_X5_factor se_X5_factor ml5_250 np_X5_factor rfl rfl ha rfl (Nat.le_of_ble_eq_true rfl) (Nat.le_of_ble_eq_true rfl) rfl (k_X5_factor_m (d) (T := T) (σ := σ) (a := a) (dp := dp) (kp := kp) (lv := lv) (eo := eo) (nm := nm) (Tg := Tg) (gs := gs) (mx := mx) ha (by omega) hw hex (by omega) (by omega) hfx hmg hmb (by omega) (by omega) hrp) (fun r5 T7 σ6 gt8 hp => ?_)
  obtain ⟨v12, rfl, w13, F14, f9, f10, f11⟩ := hp
  replace ha : OB T7 a 5 := gt8.ob ha
  show Tn _ _ 5 T7 σ6 [(0, .ref a), (1, .int (iI dp))] [.int (iI v12)] _
  refine tn_if_ne (tgt := 10) dX5_term_5 (by decide) ⟨by omega, by omega⟩ (fun h16 => ?_) (fun h16 => ?_)
  · refine tn_iconst dX5_term_10 ?_
    refine tn_istore_n (L' := [(2, .int (iI 0)), (0, .ref a), (1, .int (iI dp))]) dX5_term_11 rfl (by decide) rfl ?_
    obtain ⟨i17, es18, m19, mw20, lo21, rr22, fx23, ni24, mgq25, mb26, cn27⟩ := f10.1 (by omega)
    have pm28 : CN nm mx.rt (es18.foldl uC (cx)) (EXW Sx nm rnQ tb1 (eo) [0] jx mx (eo) [] i17 m19 (mw20.on mx)) := cn27
    have rd29a : EXR Sx (eo) [4] jx (eo) [9] i17 (0 + 0 + m19) ([] ++ es18) := EXR.gg (l := [0]) (ms := []) [9] rd3 rr22
    have rd29 : EXR Sx (eo) [4] jx (eo) [9] i17 (0 + 0 + m19) (es18) := rd29a
    have rm30 : CN nm mx.rt (es18.foldl uC (cx)) (EXW Sx nm rnQ tb1 (eo) [4] jx mx (eo) [9] i17 (0 + 0 + m19) (mw20.on mx)) := CN.ge (l := [0]) (ms := []) [9] rm4 (fun q9 => (fun q9 => q9) (NMA.fo ni24 q9)) pm28
    have hz32e : (mw20.on mx) = (mw20).on mx := rfl
    have hz32c : (es18.foldl uC (cx)) = (es18).foldl uC cx := rfl
    have hz32 : CN nm mx.rt ((es18).foldl uC cx) (EXW Sx nm rnQ tb1 (eo) [4] jx mx (eo) [9] i17 (0 + 0 + m19) ((mw20).on mx)) := by
      have q9 := CN.up (c2 := es18.foldl uC (cx)) rm30 (fun q9 => q9)
      rw [hz32e, hz32c] at q9
      exact q9
    have hx31 : XSM σ6 a Sx nx (eo) [4] jx cx Nx (eo) [9] ((jx : Int) + 1 + (0)) nm Tg gs T7 mx := ⟨i17, es18, 0 + 0 + m19, mw20, (by omega), rd29, RDX.nq (RDX.cq fx23 hz32c) (by omega), ni24, mgq25, mb26, hz32⟩
    refine tn_sub [1, 2, 0] rfl (l_X5_term_m_12 (d) (σ0 := σ6) (T0 := T7) (a := a) (c1 := dp) (kp := kp - 4 * v12) (lv := lv) (Sx := Sx) (nx := nx) (jx := jx) (cx := cx) (Nx := Nx) (nm := nm) (Tg := Tg) (gs := gs) (mx := mx) (eo := eo) (by omega) w13 (by omega) heo (by omega) hex (fun T35 i233 σ34 gt36 w37 F38 q39 r40 f41 f42 f43 => ?_) (fun T46 i244 σ45 gt47 w48 F49 q50 r51 f52 f53 f54 => ?_) _ T7 (0) σ6 GT.rfl w13 FrC.rfl ha (by omega) hx31 f11 rfl)
    · show Tn _ _ 57 T35 σ34 [(0, .ref a), (1, .int (iI dp)), (2, .int (iI i233))] [] _
      refine tn_iconst dX5_term_57 ?_
      exact tn_zret (v := 0) rfl (by decide) dX5_term_58 ⟨_, rfl, w37, ((FrC.rfl.trans (FrC.sub F14 (by decide))).trans (FrC.sub (FrC.old F38 gt8) (by decide))), by omega, ⟨fun q => absurd q (by decide), fun _ => f43⟩, (RP.up f42 (by omega))⟩
    · show Tn _ _ 73 T46 σ45 [(0, .ref a), (1, .int (iI dp)), (2, .int (iI i244))] [] _
      refine tn_iconst dX5_term_73 ?_
      exact tn_zret (v := 1) rfl (by decide) dX5_term_74 ⟨_, rfl, w48, ((FrC.rfl.trans (FrC.sub F14 (by decide))).trans (FrC.sub (FrC.old F49 gt8) (by decide))), by omega, ⟨fun _ => f54, fun q => absurd q (by decide)⟩, (RP.up f53 (by omega))⟩
  · refine tn_iconst dX5_term_8 ?_
    obtain ⟨⟨pl57, g58, fx59⟩, nf60⟩ := f10.2 (by omega)
    have rf61 : EXF Sx (eo) [4] jx (pl57) := EXR.fl (l := [0]) [9] rd3 g58
    have rb56 : XFc σ6 a Sx (eo) [4] jx ∧ FG Tg gs T7 σ6 a := ⟨⟨_, rf61, fx59⟩, nf60⟩
    exact tn_zret (v := 0) rfl (by decide) dX5_term_9 ⟨_, rfl, w13, (FrC.rfl.trans (FrC.sub F14 (by decide))), by omega, ⟨fun q => absurd q (by decide), fun _ => rb56⟩, (RP.up f11 (by omega))⟩
end
