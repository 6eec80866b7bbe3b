section
section WRDS
variable {s S : Int → Int}
theorem run_ex (hs : SEN s) : ∀ (k : Nat) (p : Int), (1300 - p).toNat = k → ∃ n : Nat, (p ≤ 1300 → p + n ≤ 1300) ∧ (∀ j : Nat, j < n → 97 ≤ s (p + j) ∧ s (p + j) ≤ 122) ∧ ¬ (97 ≤ s (p + n) ∧ s (p + n) ≤ 122)
  | 0, p, e => ⟨0, fun h => by omega, fun j h => absurd h (by omega), fun h => by
      have z := hs (p + (0 : Nat)) (by omega)
      omega⟩
  | k + 1, p, e => by
    by_cases c : 97 ≤ s p ∧ s p ≤ 122
    · obtain ⟨n, a, b, d⟩ := run_ex hs k (p + 1) (by omega)
      refine ⟨n + 1, fun h => by have := a (by omega); omega, fun j h => ?_, ?_⟩
      · by_cases z : j = 0
        · rw [z]; rw [show p + ((0 : Nat) : Int) = p by omega]; exact c
        · have y := b (j - 1) (by omega)
          rw [show p + 1 + ((j - 1 : Nat) : Int) = p + j by omega] at y
          exact y
      · rw [show p + ((n + 1 : Nat) : Int) = p + 1 + n by omega]; exact d
    · exact ⟨0, fun h => by omega, fun j h => absurd h (by omega), by rw [show p + ((0 : Nat) : Int) = p by omega]; exact c⟩
theorem tok_kw (hs : SEN s) {m : Int} (h : (advT s m).2.2.1 = 2) : ∃ k, KW k (advT s m).2.2.2.2 := by
  unfold advT at *
  generalize wsp s m = p at *
  unfold advP at *
  by_cases c0 : s p < 0
  · rw [if_pos c0] at h; exact absurd (show (0 : Int) = 2 from h) (by decide)
  rw [if_neg c0] at h ⊢
  by_cases c1 : 97 ≤ s p ∧ s p ≤ 122
  · rw [if_pos c1] at h ⊢
    obtain ⟨n, a, b, d⟩ := run_ex hs _ p rfl
    have hp : p ≤ 1300 := by
      by_cases z : 1300 ≤ p
      · have := hs p z; omega
      · omega
    have ct := ltp_cnt n (c := 0) (w := 0) (a hp) b d
    have h6 : (n : Int) ≤ 6 := by
      by_cases z : 6 < (ltp s p 0 0).2.2
      · rw [if_pos z] at h; exact absurd (show (1 : Int) = 2 from h) (by decide)
      · have := ct.2; omega
    have rn := ltp_run (s := s) (p := p) n (by omega) (a hp) b
    refine ⟨k5 (lts s p n), lts s p n, lts_ltr n b, by rw [lts_len]; omega, rfl, ?_⟩
    show (ltp s p 0 0).2.1 = _
    rw [rn, ltp_e d]
  · rw [if_neg c1] at h ⊢
    by_cases c2 : 48 ≤ s p ∧ s p ≤ 57
    · rw [if_pos c2] at h
      exfalso
      by_cases z : 7 < (dgp s p 0 0).2.2
      · rw [if_pos z] at h; exact absurd (show (1 : Int) = 2 from h) (by decide)
      · rw [if_neg z] at h; exact absurd (show (3 : Int) = 2 from h) (by decide)
    · rw [if_neg c2] at h
      exfalso
      by_cases z : sgZ (s p) < 0
      · rw [if_pos z] at h; exact absurd (show (1 : Int) = 2 from h) (by decide)
      · rw [if_neg z] at h; exact absurd (show (4 : Int) = 2 from h) (by decide)
def WKA (a : PCf) : Prop := (a.2.1.2.2.1 = 2 → ∃ k, KW k a.2.1.2.2.2.2) ∧ ∃ k, KW k a.2.2.2.1.1
theorem kw_0 : ∃ k, KW k 0 := ⟨0, [], fun b q => absurd q (by simp), by decide, rfl, rfl⟩
theorem stk_kw {k : Nat} {t : TK} {x : Int × Int × Int} {q : QR} {r : List Nat × TK × (Int × Int × Int) × QR × List EV} (hs : SEN s) (ht : t.2.2.1 = 2 → ∃ k, KW k t.2.2.2.2) (hq : ∃ k, KW k q.1) (h : stk s k t x q = some r) : (r.2.1.2.2.1 = 2 → ∃ k, KW k r.2.1.2.2.2.2) ∧ ∃ k, KW k r.2.2.2.1.1 := by
  have ao : (advT s t.2.1).2.2.1 = 2 → ∃ k, KW k (advT s t.2.1).2.2.2.2 := fun z => tok_kw hs z
  unfold stk at h
  split at h
  all_goals (repeat' split at h)
  all_goals (cases h)
  all_goals first
    | exact ⟨ao, hq⟩
    | exact ⟨ht, hq⟩
    | exact ⟨ht, kw_0⟩
    | exact ⟨ao, ht (‹nam t›).1⟩
    | exact ⟨fun _ => ht (‹nam t›).1, hq⟩
theorem WKA.stp {a : PCf} (hs : SEN s) (h : WKA a) : WKA (stp s a) := by
  obtain ⟨K, t, x, q, ρ⟩ := a
  cases K with
  | nil => exact h
  | cons k K =>
    show WKA (match stk s k t x q with
      | none => pF
      | some r => (r.1 ++ K, r.2.1, r.2.2.1, r.2.2.2.1, ρ ++ r.2.2.2.2))
    cases e : stk s k t x q with
    | none =>
      show WKA pF
      exact ⟨fun z => absurd (show (0 : Int) = 2 from z) (by decide), kw_0⟩
    | some r =>
      show WKA (r.1 ++ K, r.2.1, r.2.2.1, r.2.2.2.1, ρ ++ r.2.2.2.2)
      have y := stk_kw (r := r) hs h.1 h.2 e
      exact ⟨y.1, y.2⟩
theorem mkn_cong {nm : Int → Int64 → Int} {rn rn2 : Int64 → Int} {tb : Int → Int} : ∀ (n : Nat) {a : PCf} {m : MK}, (∀ e ∈ evs s n a, e.1 = 1 → rn e.2.2.2 = rn2 e.2.2.2) → mkn s nm rn tb n a m = mkn s nm rn2 tb n a m
  | 0, _, _, _ => rfl
  | n + 1, a, m, h => by
    show mkn s nm rn tb n (stp s a) (mkt s nm rn tb a m) = mkn s nm rn2 tb n (stp s a) (mkt s nm rn2 tb a m)
    have h2 : ∀ e ∈ evs s n (stp s a), e.1 = 1 → rn e.2.2.2 = rn2 e.2.2.2 := fun e q => h e (by show e ∈ evt s a ++ evs s n (stp s a); exact List.mem_append_right _ q)
    have e1 : mkt s nm rn tb a m = mkt s nm rn2 tb a m := by
      obtain ⟨K, t, x, q, ρ⟩ := a
      cases K with
      | nil => rfl
      | cons k K =>
        show (match stk s k t x q with
          | none => m
          | some _ => mkk s nm rn tb k t q m) = (match stk s k t x q with
          | none => m
          | some _ => mkk s nm rn2 tb k t q m)
        cases e : stk s k t x q with
        | none => rfl
        | some r =>
          show mkk s nm rn tb k t q m = mkk s nm rn2 tb k t q m
          by_cases z : k = 38
          · subst z
            have w : rn q.1 = rn2 q.1 := h (1, q.2.2.1, q.2.1, q.1) (by
              show _ ∈ evt s (38 :: K, t, x, q, ρ) ++ evs s n (stp s (38 :: K, t, x, q, ρ))
              rw [evt_s (by decide) e]
              exact List.mem_append_left _ (List.mem_singleton.mpr rfl)) rfl
            show m.cal rn q.1 = m.cal rn2 q.1
            unfold MK.cal
            rw [w]
          · unfold mkk
            split
            all_goals first
              | rfl
              | exact absurd rfl z
    rw [e1]
    exact mkn_cong n h2
theorem RM.cong {nm : Int → Int64 → Int} {rn rn2 : Int64 → Int} {tb : Int → Int} {a b b2 : PCf} {m m1 : MK} {es : List EW} (h : RM s nm rn tb a m b m1) (g : RE s a es b2) (hb : stp s b = b) (eb : evt s b = []) (hb2 : stp s b2 = b2) (eb2 : evt s b2 = []) (hr : ∀ e ∈ es, e.1 = 1 → rn e.2.2.2 = rn2 e.2.2.2) : RM s nm rn2 tb a m b m1 := by
  obtain ⟨n, h1, h2⟩ := h
  obtain ⟨k, g1, g2⟩ := g
  refine ⟨n, h1, ?_⟩
  rw [← h2]
  refine (mkn_cong n (fun e q => hr e ?_)).symm
  have d : evs s n a = es := by
    by_cases z : n ≤ k
    · obtain ⟨j, rfl⟩ : ∃ j, k = n + j := ⟨k - n, by omega⟩
      rw [evs_add, h1, evs_fix hb eb, List.append_nil] at g2
      exact g2
    · obtain ⟨j, rfl⟩ : ∃ j, n = k + j := ⟨n - k, by omega⟩
      rw [evs_add, g1, evs_fix hb2 eb2, List.append_nil]
      exact g2
  rw [d] at q
  exact q
theorem evs_kw (hs : SEN s) : ∀ (n : Nat) {a : PCf}, WKA a → ∀ e ∈ evs s n a, e.1 = 1 → ∃ k, KW k e.2.2.2
  | 0, _, _, e, q => absurd q (by show e ∉ ([] : List EW); simp)
  | n + 1, a, h, e, q => fun k1 => by
    have q2 : e ∈ evt s a ++ evs s n (stp s a) := q
    rcases List.mem_append.mp q2 with z | z
    · obtain ⟨K, t, x, p, ρ⟩ := a
      cases K with
      | nil => exact absurd z (by show e ∉ ([] : List EW); simp)
      | cons k K =>
        have z2 : e ∈ (if k = 999 then [] else match stk s k t x p with
          | none => [(9, t.1, 0, 0)]
          | some _ => evk k t x p) := z
        by_cases c : k = 999
        · rw [if_pos c] at z2; exact absurd z2 (by simp)
        · rw [if_neg c] at z2
          cases es : stk s k t x p with
          | none =>
            rw [es] at z2
            rw [List.mem_singleton.mp z2] at k1
            exact absurd (show (9 : Int) = 1 from k1) (by decide)
          | some r =>
            rw [es] at z2
            have z3 : e ∈ evk k t x p := z2
            unfold evk at z3
            split at z3
            all_goals (repeat' split at z3)
            all_goals first
              | exact absurd z3 List.not_mem_nil
              | (have y := List.mem_singleton.mp z3
                 rw [y]
                 exact h.2)
              | (have y := congrArg (fun z : EW => z.1) (List.mem_singleton.mp z3)
                 have y2 := k1.symm.trans y
                 simp at y2)
    · exact evs_kw hs n (h.stp hs) e z k1
theorem RE.kw (hs : SEN S) {es : List EW} {t : TK} {x : Int × Int × Int} {q : QR} {ρ : List EV} (h : RE S ([36], advT S 0, (0, 0, 0), qq 0, []) es ([], t, x, q, ρ)) : ∀ e ∈ es, e.1 = 1 → ∃ k, KW k e.2.2.2 := by
  obtain ⟨n, -, h2⟩ := h
  rw [← h2]
  exact evs_kw hs n ⟨fun z => tok_kw hs z, kw_0⟩
end WRDS
section NTB
variable {r : RS} {c : CS}
def ST0 (r : RS) : Prop := r.ph = 1 ∧ r.rt = 0 ∧ r.ln = 0 ∧ r.tn = 0 ∧ ∀ k, 0 ≤ k → k < 6 → r.nn k = 0
theorem K1.pre : ∀ (e1 : List EW) {e2 : List EW} {r : RS} {c : CS} {N1 NC Z : List NT} {md : Nat} {pc lo : Int}, K1 r c N1 NC Z md pc lo → SHP (e1 ++ e2) md pc lo → ∃ N1' NC' Z' md' pc' lo', K1 (e1.foldl uR r) (e1.foldl uC c) N1' NC' Z' md' pc' lo' ∧ SHP e2 md' pc' lo'
  | [], _, r, c, N1, NC, Z, md, pc, lo, h, s => ⟨N1, NC, Z, md, pc, lo, h, s⟩
  | e :: es, _, r, c, N1, NC, Z, md, pc, lo, h, s => by
    rcases s with ⟨rfl, k, a, s⟩ | ⟨rfl, k, a, m, s⟩ | ⟨rfl, k, m, s⟩ | ⟨rfl, k, a, s⟩ | ⟨rfl, k, s⟩ | ⟨rfl, k, s⟩
    · exact K1.pre es (h.s2 k a) s
    · exact K1.pre es (h.s3 k a m) s
    · exact K1.pre es (h.s7 k m) s
    · rcases k with k | k
      · exact K1.pre es (h.s4 k a) s
      · exact K1.pre es (h.s5 k a) s
    · exact K1.pre es (h.s1 k) s
    · exact K1.pre es (h.s0 k) s
theorem K1.ini (hr : ST0 r) (hf : r.fp = (0, -1)) : K1 r c00 [] [] [] 0 0 0 := by
  obtain ⟨r1, r3, r4, r5, r6⟩ := hr
  refine ⟨r1, by rw [hf]; exact LST.nil, LST.nil, DMN.nil, DMN.nil, fun n q => q, by rw [r3]; exact Int.le_refl _, r5, Or.inl ⟨rfl, r3.symm⟩, fun j x y => absurd y (by show ¬ j < 0; omega), fun j x y => absurd y (by show ¬ (j < 0 - 1 ∨ j < 0 ∧ (0 : Nat) ≠ 1); omega), fun q => absurd q (by decide), r4, fun q => absurd rfl q, ⟨Int.le_refl _, by decide⟩, fun k x y => r6 k (by rw [r3] at x; omega) y, fun q => absurd q (by show ¬ (7 : Int) ≤ 0; decide), fun q => absurd q (by show ¬ (41 : Int) ≤ 0; decide), fun q => absurd q (by decide)⟩
theorem uR_old {e : EW} {k : Int} (h0 : 0 ≤ k) (hk : k < r.rt) (h6 : r.rt < 6 → 0 ≤ r.nn r.rt ∧ r.nn r.rt ≤ 12) : k < (uR r e).rt ∧ (uR r e).nn k = r.nn k ∧ ∀ i, 0 ≤ i → i < 12 → (uR r e).nw (12 * k + i) = r.nw (12 * k + i) := by
  have nm : ∀ (w : Int64), (sNm r w).rt = r.rt ∧ (sNm r w).nn k = r.nn k ∧ ∀ i, 0 ≤ i → i < 12 → (sNm r w).nw (12 * k + i) = r.nw (12 * k + i) := fun w => by
    unfold sNm
    by_cases z : r.ph = 1 ∧ r.rt < 6 ∧ ¬ fndN r w ∧ r.nn r.rt ≠ 12
    · rw [ifP_t z]
      have b := h6 z.2.1
      refine ⟨rfl, ?_, fun i a b2 => ?_⟩
      · show up1 r.nn r.rt (r.nn r.rt + 1) k = r.nn k
        unfold up1
        rw [if_neg (by omega)]
      · show up1 r.nw (12 * r.rt + r.nn r.rt) w (12 * k + i) = r.nw (12 * k + i)
        unfold up1
        rw [if_neg (by omega)]
    · rw [ifP_f z]
      exact ⟨rfl, rfl, fun _ _ _ => rfl⟩
  have id : k < r.rt ∧ r.nn k = r.nn k ∧ ∀ i, 0 ≤ i → i < 12 → r.nw (12 * k + i) = r.nw (12 * k + i) := ⟨hk, rfl, fun _ _ _ => rfl⟩
  show k < (sR r e).rt ∧ (sR r e).nn k = r.nn k ∧ ∀ i, 0 ≤ i → i < 12 → (sR r e).nw (12 * k + i) = r.nw (12 * k + i)
  have nm2 : ∀ (w : Int64), k < (sNm r w).rt ∧ (sNm r w).nn k = r.nn k ∧ ∀ i, 0 ≤ i → i < 12 → (sNm r w).nw (12 * k + i) = r.nw (12 * k + i) := fun w => ⟨by rw [(nm w).1]; exact hk, (nm w).2⟩
  unfold sR
  split
  · by_cases z : r.ph = 1
    · rw [ifP_t z]; exact id
    · rw [ifP_f z]; exact id
  split
  · by_cases z : r.ph = 1
    · rw [ifP_t z]; exact nm2 _
    · rw [ifP_f z]; exact id
  split
  · by_cases z : r.ph = 1
    · rw [ifP_t z]; exact id
    · rw [ifP_f z]; exact id
  split
  · exact nm2 _
  split
  · exact id
  split
  · exact id
  split
  · exact ⟨by show k < r.rt + 1; omega, id.2⟩
  exact id
theorem fold_old : ∀ (es : List EW) {r : RS} {k : Int}, 0 ≤ k → k < r.rt → NBD r → (es.foldl uR r).nn k = r.nn k ∧ ∀ i, 0 ≤ i → i < 12 → (es.foldl uR r).nw (12 * k + i) = r.nw (12 * k + i)
  | [], _, _, _, _, _ => ⟨rfl, fun _ _ _ => rfl⟩
  | e :: es, r, k, h0, hk, hb => by
    have a := uR_old (e := e) h0 hk (fun z => hb r.rt (by omega) z)
    have b := (uR_m (e := e) (show 0 ≤ r.rt by omega) hb).2.1
    have c := fold_old es (r := uR r e) h0 a.1 b
    exact ⟨c.1.trans a.2.1, fun i x y => (c.2 i x y).trans (a.2.2 i x y)⟩
def NFQ (r r' : RS) : Prop := r.1 = r'.1 ∧ r.2.2 = r'.2.2
theorem NFQ.u {r r' : RS} {e : EW} (h : NFQ r r') : NFQ (uR r e) (uR r' e) := by
  obtain ⟨p, f, x⟩ := r
  obtain ⟨p', f', x'⟩ := r'
  obtain ⟨h1, h2⟩ := h
  have h1 : p = p' := h1
  have h2 : x = x' := h2
  subst h1 h2
  have nm : ∀ w, NFQ (sNm (p, f, x) w) (sNm (p, f', x) w) := fun w => by
    unfold sNm
    by_cases z : RS.ph (p, f, x) = 1 ∧ RS.rt (p, f, x) < 6 ∧ ¬ fndN (p, f, x) w ∧ RS.nn (p, f, x) (RS.rt (p, f, x)) ≠ 12
    · rw [ifP_t z, ifP_t (show RS.ph (p, f', x) = 1 ∧ RS.rt (p, f', x) < 6 ∧ ¬ fndN (p, f', x) w ∧ RS.nn (p, f', x) (RS.rt (p, f', x)) ≠ 12 from z)]
      exact ⟨rfl, rfl⟩
    · rw [ifP_f z, ifP_f (show ¬ (RS.ph (p, f', x) = 1 ∧ RS.rt (p, f', x) < 6 ∧ ¬ fndN (p, f', x) w ∧ RS.nn (p, f', x) (RS.rt (p, f', x)) ≠ 12) from z)]
      exact ⟨rfl, rfl⟩
  have go : NFQ (sR (p, f, x) e) (sR (p, f', x) e) := by
    unfold sR
    by_cases c2 : e.1 = 2
    · rw [if_pos c2, if_pos c2]
      by_cases z : p = 1
      · rw [ifP_t (show RS.ph (p, f, x) = 1 from z), ifP_t (show RS.ph (p, f', x) = 1 from z)]; exact ⟨rfl, rfl⟩
      · rw [ifP_f (show ¬ RS.ph (p, f, x) = 1 from z), ifP_f (show ¬ RS.ph (p, f', x) = 1 from z)]; exact ⟨rfl, rfl⟩
    rw [if_neg c2, if_neg c2]
    by_cases c3 : e.1 = 3
    · rw [if_pos c3, if_pos c3]
      by_cases z : p = 1
      · rw [ifP_t (show RS.ph (p, f, x) = 1 from z), ifP_t (show RS.ph (p, f', x) = 1 from z)]; exact nm _
      · rw [ifP_f (show ¬ RS.ph (p, f, x) = 1 from z), ifP_f (show ¬ RS.ph (p, f', x) = 1 from z)]; exact ⟨rfl, rfl⟩
    rw [if_neg c3, if_neg c3]
    by_cases c7 : e.1 = 7
    · rw [if_pos c7, if_pos c7]
      by_cases z : p = 1
      · rw [ifP_t (show RS.ph (p, f, x) = 1 from z), ifP_t (show RS.ph (p, f', x) = 1 from z)]; exact ⟨rfl, rfl⟩
      · rw [ifP_f (show ¬ RS.ph (p, f, x) = 1 from z), ifP_f (show ¬ RS.ph (p, f', x) = 1 from z)]; exact ⟨rfl, rfl⟩
    rw [if_neg c7, if_neg c7]
    by_cases c4 : e.1 = 4
    · rw [if_pos c4, if_pos c4]; exact nm _
    rw [if_neg c4, if_neg c4]
    by_cases c5 : e.1 = 5
    · rw [if_pos c5, if_pos c5]; exact ⟨rfl, rfl⟩
    rw [if_neg c5, if_neg c5]
    by_cases c1 : e.1 = 1
    · rw [if_pos c1, if_pos c1]; exact ⟨rfl, rfl⟩
    rw [if_neg c1, if_neg c1]
    by_cases c0 : e.1 = 0
    · rw [if_pos c0, if_pos c0]; exact ⟨rfl, rfl⟩
    rw [if_neg c0, if_neg c0]
    exact ⟨rfl, rfl⟩
  exact ⟨go.1, go.2⟩
theorem NFQ.fold : ∀ (es : List EW) {r r' : RS}, NFQ r r' → NFQ (es.foldl uR r) (es.foldl uR r')
  | [], _, _, h => h
  | _ :: es, _, _, h => NFQ.fold es h.u
theorem fold_b : ∀ (es : List EW) {r : RS}, 0 ≤ r.rt → NBD r → NBD (es.foldl uR r)
  | [], _, _, h => h
  | e :: es, r, h0, hb => by
    have q := uR_m (e := e) h0 hb
    exact fold_b es q.2.2.1 q.2.1
theorem names_end {es : List EW} {Pf : Int → List EW} {q : Int} (hr : ST0 r) (s : SHP es 0 0 0) (hp : PFX es Pf) (q0 : 0 ≤ q) (q1 : q < (es.foldl uC c00).rn) (q6 : q < 6) : (es.foldl uR r).nn q = ((Pf q).foldl uC c00).nn ∧ (0 ≤ ((Pf q).foldl uC c00).nn ∧ ((Pf q).foldl uC c00).nn ≤ 12) ∧ ∀ i, 0 ≤ i → i < ((Pf q).foldl uC c00).nn → (es.foldl uR r).nw (12 * q + i) = ((Pf q).foldl uC c00).nk i := by
  obtain ⟨rn1, p, m, w, e2, ee⟩ := hp q q0 q1
  have hr2 : ST0 (r.1, (0, -1), r.2.2) := hr
  have nf : NFQ r (r.1, (0, -1), r.2.2) := ⟨rfl, rfl⟩
  have nbd : NBD r := fun k x y => by rw [hr.2.2.2.2 k x y]; omega
  have s2 := s
  rw [ee] at s2
  obtain ⟨N1, NC, Z, md, pc, lo, k, sh⟩ := K1.pre (Pf q) (K1.ini hr2 rfl) s2
  have md2 : md = 2 := by
    rcases sh with ⟨-, z, -⟩ | ⟨-, z, -⟩ | ⟨-, z, -⟩ | ⟨-, z, -⟩ | ⟨-, z, -⟩ | ⟨z, -⟩
    · exact absurd z (by show ¬ (0 : Int) = 2; decide)
    · exact absurd z (by show ¬ (0 : Int) = 3; decide)
    · exact absurd z (by show ¬ (0 : Int) = 7; decide)
    · exact absurd z (by show ¬ ((0 : Int) = 4 ∨ (0 : Int) = 5); decide)
    · exact absurd z (by show ¬ (0 : Int) = 1; decide)
    · exact z
  have n1 := NFQ.fold (Pf q) nf
  have ert : ((Pf q).foldl uR r).rt = ((Pf q).foldl uR (r.1, (0, -1), r.2.2)).rt := congrArg (fun z => z.1) n1.2
  have enn : ((Pf q).foldl uR r).nn = ((Pf q).foldl uR (r.1, (0, -1), r.2.2)).nn := congrArg (fun z => z.2.2.2.2.2.1) n1.2
  have enw : ((Pf q).foldl uR r).nw = ((Pf q).foldl uR (r.1, (0, -1), r.2.2)).nw := congrArg (fun z => z.2.2.2.2.2.2) n1.2
  have rt : ((Pf q).foldl uR r).rt = q := by
    rcases k.rt with z | z
    · omega
    · rw [ert]; omega
  have kn := k.nn (by omega) (by rw [← ert, rt]; exact q6)
  rw [← ert, rt, ← enn, ← enw] at kn
  have eu : (es.foldl uR r) = e2.foldl uR (uR ((Pf q).foldl uR r) (0, p, m, w)) := by rw [ee, List.foldl_append]; rfl
  have u0 : (uR ((Pf q).foldl uR r) (0, p, m, w)).rt = q + 1 ∧ (uR ((Pf q).foldl uR r) (0, p, m, w)).nn = ((Pf q).foldl uR r).nn ∧ (uR ((Pf q).foldl uR r) (0, p, m, w)).nw = ((Pf q).foldl uR r).nw := ⟨by show ((Pf q).foldl uR r).rt + 1 = q + 1; rw [rt], rfl, rfl⟩
  have fb : NBD ((Pf q).foldl uR r) := fold_b (Pf q) (by rw [hr.2.1]; exact Int.le_refl _) nbd
  have fo := fold_old e2 (r := uR ((Pf q).foldl uR r) (0, p, m, w)) (k := q) q0 (by rw [u0.1]; omega) (fun j x y => by rw [u0.2.1]; exact fb j x y)
  rw [eu]
  rw [u0.2.1, u0.2.2] at fo
  refine ⟨fo.1.trans kn.1, k.nb, fun i x y => ?_⟩
  rw [fo.2 i x (by have := k.nb; omega)]
  exact kn.2 i x y
end NTB
def DSC (c : CS) : Prop := ∀ i j, 0 ≤ i → i < j → j < c.nn → c.nk i ≠ c.nk j
theorem DSC.nm {c : CS} {w : Int64} (h : DSC c) : DSC (sCn c w) := by
  unfold sCn
  by_cases z : ¬ fndC c w ∧ ¬ 12 ≤ c.nn
  · rw [ifP_t z]
    intro i j a b d
    have d2 : j < c.nn + 1 := d
    show up1 c.nk c.nn w i ≠ up1 c.nk c.nn w j
    unfold up1
    rw [if_neg (by omega)]
    by_cases e : j = c.nn
    · rw [if_pos e]
      exact fun q => z.1 ⟨i, a, by omega, q⟩
    · rw [if_neg e]
      exact h i j a b (by omega)
  · rw [ifP_f z]; exact h
theorem DSC.u {c : CS} {e : EW} (h : DSC c) : DSC (uC c e) := by
  show DSC (CS.mk _ _ _ _ _ _ _ _ (sC c e).nn (sC c e).nk _)
  have go : ∀ i j, 0 ≤ i → i < j → j < (sC c e).nn → (sC c e).nk i ≠ (sC c e).nk j := by
    unfold sC
    split
    · exact fun i j a b d => absurd d (by show ¬ j < 0; omega)
    split
    · exact h.nm
    split
    · exact h
    split
    · exact h.nm
    split
    · exact h
    split
    · exact h
    exact h
  exact go
theorem DSC.fold : ∀ (es : List EW) {c : CS}, DSC c → DSC (es.foldl uC c)
  | [], _, h => h
  | _ :: es, _, h => DSC.fold es h.u
theorem dsc_0 : DSC c00 := fun i j a b d => absurd d (by show ¬ j < 0; omega)
def rs0 : RS := RS.mk 1 (0, -1) 0 0 0 (fun _ => 0) (fun _ => 0) (fun _ => 0) (fun _ => 0)
theorem st0_0 : ST0 rs0 := ⟨rfl, rfl, rfl, rfl, fun _ _ _ => rfl⟩
theorem call_found {es : List EW} (s : SHP es 0 0 0) (r9 : (RA9 (es.foldl uC c00)).1 = 0) : ∀ e ∈ es, e.1 = 1 → fndQ (es.foldl uC c00) e.2.2.2 := fun e he k1 => by
  obtain ⟨pc, lo, k⟩ := K1.run es (K1.ini st0_0 rfl) s
  have l2 := LST.fold (cSs (es.foldl uC c00) (es.foldl uC c00).cn.toNat) k.l2 (pos_cSs _ _)
  have nil : cSs (es.foldl uC c00) (es.foldl uC c00).cn.toNat = [] := by
    rcases l2.2 with ⟨z, -⟩ | ⟨z, -⟩
    · exact (List.append_eq_nil_iff.mp z).2
    · have p := l2.1 _ z
      have p2 : 0 < (RA9 (es.foldl uC c00)).1 := p
      omega
  have cl := CLS.run es (c := c00) (L := []) ⟨rfl, fun i e q => by simp at q⟩
  rw [List.nil_append] at cl
  obtain ⟨i, hi⟩ := List.mem_iff_getElem?.mp ((cls1_mem es).mpr ⟨he, k1⟩)
  have ck := (cl.2 i e hi).1
  have hl : i < (es.foldl uC c00).cn.toNat := by
    rw [cl.1]
    exact Classical.byContradiction fun q => by rw [List.getElem?_eq_none (by omega)] at hi; simp at hi
  apply Classical.byContradiction
  intro nf
  have m : ((es.foldl uC c00).cp i, (3 : Int)) ∈ cSs (es.foldl uC c00) (es.foldl uC c00).cn.toNat := (cSs_mem _).mpr ⟨i, hl, by
    unfold cS
    rw [ifP_f (fun z => by
      obtain ⟨q, a, b, d, -⟩ := z
      exact nf ⟨q, a, b, d.trans ck⟩)]
    exact List.mem_singleton.mpr rfl⟩
  rw [nil] at m
  exact absurd m (by simp)
def NLK (f : RS) (q : Int) (w : Int64) (v : Int) : Prop := (0 ≤ v ∧ v < f.nn q ∧ f.nw (12 * q + v) = w ∧ ∀ j, 0 ≤ j → j < v → f.nw (12 * q + j) ≠ w) ∨ ((∀ j, 0 ≤ j → j < f.nn q → f.nw (12 * q + j) ≠ w) ∧ v = 0)
theorem NLK.one {f : RS} {q : Int} {w : Int64} {v u : Int} (h : NLK f q w v) (g : NLK f q w u) : v = u := by
  rcases h with ⟨a1, a2, a3, a4⟩ | ⟨a1, a2⟩
  · rcases g with ⟨b1, b2, b3, b4⟩ | ⟨b1, b2⟩
    · by_cases c : v < u
      · exact absurd a3 (b4 v a1 c)
      · by_cases c2 : u < v
        · exact absurd b3 (a4 u b1 c2)
        · omega
    · exact absurd a3 (b1 v a1 a2)
  · rcases g with ⟨b1, b2, b3, b4⟩ | ⟨b1, b2⟩
    · exact absurd b3 (a1 u b1 b2)
    · omega
theorem NLK.c {f g : RS} {q : Int} {w : Int64} {v : Int} (h : NLK f q w v) (en : g.nn q = f.nn q) (ew : ∀ i, 0 ≤ i → i < f.nn q → g.nw (12 * q + i) = f.nw (12 * q + i)) : NLK g q w v := by
  rcases h with ⟨a1, a2, a3, a4⟩ | ⟨a1, a2⟩
  · exact Or.inl ⟨a1, by rw [en]; exact a2, by rw [ew v a1 a2]; exact a3, fun j x y => by rw [ew j x (by omega)]; exact a4 j x y⟩
  · exact Or.inr ⟨fun j x y => by rw [en] at y; rw [ew j x y]; exact a1 j x y, a2⟩
def NP6 (S : Int → Int) (q : Int) (w : Int64) (v : Int) : Prop := v < 1000 ∧ ∃ es t x p ρ r0, RE S ([36], advT S 0, (0, 0, 0), qq 0, []) es ([], t, x, p, ρ) ∧ ST0 r0 ∧ NLK (es.foldl uR r0) q w v
noncomputable def nmQ6 (S : Int → Int) (q : Int) (w : Int64) : Int := @dite Int (∃ v, NP6 S q w v) (Classical.propDecidable _) (fun h => Classical.choose h) (fun _ => 0)
theorem nmQ6_lt (S : Int → Int) (q : Int) (w : Int64) : nmQ6 S q w < 1000 := by
  unfold nmQ6
  by_cases h : ∃ v, NP6 S q w v
  · rw [dif_pos h]; exact (Classical.choose_spec h).1
  · rw [dif_neg h]; decide
theorem nmQ6_at {S : Int → Int} {es : List EW} {t : TK} {x : Int × Int × Int} {p : QR} {ρ : List EV} {r : RS} {Pf : Int → List EW} {q : Int} {w : Int64} {v : Int} (hs : SEN S) (re : RE S ([36], advT S 0, (0, 0, 0), qq 0, []) es ([], t, x, p, ρ)) (hr : ST0 r) (hp : PFX es Pf) (q0 : 0 ≤ q) (q1 : q < (es.foldl uC c00).rn) (q6 : q < 6) (h : NLK (es.foldl uR r) q w v) : nmQ6 S q w = v := by
  have sh := re.shp hs
  have n1 := names_end hr sh hp q0 q1 q6
  have vb : v < 1000 := by
    rcases h with ⟨a1, a2, -⟩ | ⟨-, a2⟩
    · rw [n1.1] at a2; omega
    · omega
  have ex : ∃ v, NP6 S q w v := ⟨v, vb, es, t, x, p, ρ, r, re, hr, h⟩
  unfold nmQ6
  rw [dif_pos ex]
  obtain ⟨-, es2, t2, x2, p2, ρ2, r2, re2, hr2, h2⟩ := Classical.choose_spec ex
  have d := (RE.det re re2 rfl rfl evt_nil evt_nil).2
  subst d
  have n2 := names_end hr2 sh hp q0 q1 q6
  exact NLK.one (h2.c (n1.1.trans n2.1.symm) (fun i a b => by rw [n2.1] at b; rw [n1.2.2 i a b, n2.2.2 i a b])) h
theorem nmQ6_hi {S : Int → Int} {es : List EW} {t : TK} {x : Int × Int × Int} {p : QR} {ρ : List EV} {r : RS} {q : Int} {w : Int64} (hs : SEN S) (re : RE S ([36], advT S 0, (0, 0, 0), qq 0, []) es ([], t, x, p, ρ)) (hr : ST0 r) (q1 : (es.foldl uC c00).rn ≤ q) (q6 : q < 6) : nmQ6 S q w = 0 ∧ (es.foldl uR r).nn q = 0 := by
  have sh := re.shp hs
  have z : ∀ r, ST0 r → (es.foldl uR r).nn q = 0 := fun r hr => by
    have nf := NFQ.fold es (show NFQ r (r.1, (0, -1), r.2.2) from ⟨rfl, rfl⟩)
    obtain ⟨pc, lo, k1⟩ := K1.run es (K1.ini (r := (r.1, (0, -1), r.2.2)) hr rfl) sh
    have e : (es.foldl uR r).nn q = (es.foldl uR (r.1, (0, -1), r.2.2)).nn q := congrFun (congrArg (fun z => z.2.2.2.2.2.1) nf.2) q
    rw [e]
    refine k1.nl q ?_ q6
    rcases k1.rt with y | y
    · omega
    · exact absurd rfl y.1
  refine ⟨?_, z r hr⟩
  have nlk : NLK (es.foldl uR r) q w 0 := Or.inr ⟨fun j a b => by rw [z r hr] at b; omega, rfl⟩
  have ex : ∃ v, NP6 S q w v := ⟨0, by decide, es, t, x, p, ρ, r, re, hr, nlk⟩
  unfold nmQ6
  rw [dif_pos ex]
  obtain ⟨-, es2, t2, x2, p2, ρ2, r2, re2, hr2, h2⟩ := Classical.choose_spec ex
  have d := (RE.det re re2 rfl rfl evt_nil evt_nil).2
  subst d
  rcases h2 with ⟨a1, a2, -⟩ | ⟨-, a2⟩
  · rw [z r2 hr2] at a2; omega
  · exact a2
end
section
def IBR (i : It) : Prop := (i 0 = 12 → i 3 = 2 ∧ i 5 = 0 ∧ i 6 = 0 ∧ i 11 = 2) ∧ rZ7 i
theorem ibr_z : IBR zI := ⟨fun h => absurd h (by show ¬ (0 : Int) = 12; decide), fun h => absurd h (by show ¬ (0 : Int) = 7; decide)⟩
theorem ibr_mk {k d ak a : Int} (h : k ≠ 12) : IBR (mkI k d 0 ak a 0) := ⟨fun q => absurd q h, fun _ => ⟨rfl, rfl, rfl, rfl, rfl, rfl, rfl, rfl⟩⟩
theorem ibr_b {n : Int} : IBR (bndI n) := ⟨fun _ => ⟨rfl, rfl, rfl, rfl⟩, fun h => absurd h (by show ¬ (12 : Int) = 7; decide)⟩
theorem ibr_2 {k d ak a bk b : Int} (h : k ≤ 5) : IBR (it2 k d ak a bk b) := ⟨fun q => absurd q (by show ¬ k = 12; omega), fun q => absurd q (by show ¬ k = 7; omega)⟩
theorem ibr_c {d q : Int} {as : List (Int × Int)} : IBR (itC d q as) := ⟨fun h => absurd h (by show ¬ (10 : Int) = 12; decide), fun h => absurd h (by show ¬ (10 : Int) = 7; decide)⟩
section MKBS
variable {s : Int → Int} {nm : Int → Int64 → Int} {rn : Int64 → Int} {tb : Int → Int} {a b : PCf} {m m1 : MK}
def MKB (m : MK) : Prop := (∀ k, IBR (m.V k)) ∧ ∀ r k, IBR ((m.2.2.2.2.1 r).2 k)
theorem ibr_u {V : Int → It} {n : Int} {x : It} (h : ∀ k, IBR (V k)) (hx : IBR x) : ∀ k, IBR (uZ V n x k) := fun k => by
  by_cases e : k = n
  · rw [e, uZ_eq]; exact hx
  · rw [uZ_ne e]; exact h k
theorem MKB.put {i : It} (h : MKB m) (hi : IBR i) : MKB (m.put i) := ⟨ibr_u h.1 hi, h.2⟩
theorem mkb_one (h : MKB m) : MKB (m.one tb) := by
  unfold MK.one
  split
  · exact h
  · rename_i e S _
    repeat' split
    all_goals first
      | exact h
      | exact h.put (ibr_mk (by decide))
      | exact h.put (ibr_2 (by omega))
      | exact h.put (ibr_2 (by decide))
theorem mkb_two (h : MKB m) : MKB m.two := by
  unfold MK.two
  split
  · exact h
  · repeat' split
    all_goals first
      | exact h
      | exact (h.put (ibr_mk (by decide))).put (ibr_mk (by decide))
      | exact (h.put (ibr_mk (by decide))).put ibr_b
theorem mkb_cal {w : Int64} (h : MKB m) : MKB (m.cal rn w) := by
  unfold MK.cal
  split
  · exact h
  · split
    · exact (h.put ibr_c).put ibr_b
    · exact h
theorem mkb_top {f : ME → ME} (h : MKB m) : MKB (m.top f) := by
  unfold MK.top
  split
  · exact h
  · exact h
theorem mkb_k {k : Nat} {t : TK} {q : QR} (h : MKB m) : MKB (mkk s nm rn tb k t q m) := by
  unfold mkk
  split
  case h_13 =>
    refine ⟨h.1, fun r => ?_⟩
    show ∀ k, IBR ((uZ m.2.2.2.2.1 m.rt (m.n, m.V) r).2 k)
    by_cases z : r = m.rt
    · rw [z, uZ_eq]; exact h.1
    · rw [uZ_ne z]; exact h.2 r
  case h_14 => exact ⟨fun _ => ibr_z, h.2⟩
  all_goals first
    | exact mkb_one h
    | exact mkb_two h
    | exact mkb_cal h
    | exact mkb_top h
    | exact h
    | (repeat' split) <;> first | exact h | exact mkb_top h
theorem mkb_t (h : MKB m) : MKB (mkt s nm rn tb a m) := by
  unfold mkt
  split
  · exact h
  · split
    · exact h
    · exact mkb_k h
theorem RM.mkb (r : RM s nm rn tb a m b m1) (h : MKB m) : MKB m1 := by
  obtain ⟨n, e0, e⟩ := r
  subst e
  clear e0
  induction n generalizing a m with
  | zero => exact h
  | succ n ih => exact ih (mkb_t h)
end MKBS
theorem nargs2 {τ : MS} {y : Int} (h : τ.2.1 3 y ≠ 10) : nArgs τ y ≤ 2 := by
  unfold nArgs
  rw [if_neg h]
  repeat' split
  all_goals decide
theorem wok_raw {i : It} {τ : MS} {F y : Int} (hn : nrm i = rI τ y) (ok : OKI τ F y) (ib : IBR (rI τ y)) (h3 : i 0 = 12 → i 3 = 0) : iOK i := by
  obtain ⟨k0, k1, -, -, -, -, -, k8, -⟩ := ok
  have e : ∀ c, c ≠ 3 → c ≠ 12 → i c = rI τ y c := fun c a b => by rw [← hn]; exact (nrm_ne a b).symm
  have e0 : i 0 = τ.2.1 3 y := e 0 (by decide) (by decide)
  have e1 : i 1 = τ.2.1 4 y := e 1 (by decide) (by decide)
  have en : i 0 ≠ 12 → i 3 = τ.2.1 7 (4 * y + 0) := fun h => by
    have z := nrm_3 (i := i) h
    rw [← z, hn]
    rfl
  have opK : ∀ j, 0 ≤ j → j < 4 → (j = 0 → i 0 ≠ 12) → i (3 + 2 * j) = τ.2.1 7 (4 * y + j) := fun j a b d => by
    by_cases z : j = 0
    · subst z; exact en (d rfl)
    · rw [e (3 + 2 * j) (by omega) (by omega), riK a b]
  have opN : ∀ j, 0 ≤ j → j < 4 → i (4 + 2 * j) = τ.2.1 8 (4 * y + j) := fun j a b => by rw [e (4 + 2 * j) (by omega) (by omega), riN a b]
  refine ⟨by rw [e0]; exact k0, fun h => by rw [e0] at h; rw [e1]; exact k1 h, fun j a b => ?_, fun h => ?_, fun h w => ?_⟩
  · by_cases z : j = 0 ∧ i 0 = 12
    · have q := h3 z.2
      rw [z.1]
      show (0 ≤ i 3 ∧ i 3 ≤ 2) ∧ (i 3 = 2 → _)
      rw [q]
      exact ⟨by decide, fun u => absurd u (by decide)⟩
    · have o := k8 j a b
      rw [opK j a b (fun u v => z ⟨u, v⟩), opN j a b]
      exact ⟨o.1, fun u => (o.2 u).1⟩
  · have n2 := nargs2 (τ := τ) (y := y) (by rw [← e0]; exact h)
    have o2 := k8 2 (by decide) (by decide)
    have o3 := k8 3 (by decide) (by decide)
    have a2 : i 7 = τ.2.1 7 (4 * y + 2) := opK 2 (by decide) (by decide) (fun u => absurd u (by decide))
    have a3 : i 9 = τ.2.1 7 (4 * y + 3) := opK 3 (by decide) (by decide) (fun u => absurd u (by decide))
    rw [a2, a3]
    exact ⟨fun u => by have := (o2.2 u).2; omega, fun u => by have := (o3.2 u).2; omega⟩
  · have b := ib.1 (by show τ.2.1 3 y = 12; rw [← e0]; exact h)
    have o0 := k8 0 (by decide) (by decide)
    have b3 : τ.2.1 7 (4 * y + 0) = 2 := b.1
    refine ⟨h3 h, by rw [e 5 (by decide) (by decide)]; exact b.2.1, by rw [e 6 (by decide) (by decide)]; exact b.2.2.1, fun _ => ?_⟩
    have a4 : i 4 = τ.2.1 8 (4 * y + 0) := opN 0 (by decide) (by decide)
    rw [a4]
    exact (o0.2 b3).1
theorem nn_c9 {N c : Int} {i : It} (hc : c = 0 ∨ c = 3) : nnI N i c = i c := by
  unfold nnI
  rw [rn3_c, dI_n (fun ⟨m, p, q, _⟩ => by omega)]
  unfold rn1
  split
  · rw [uZ_ne (by omega)]
  · rfl
theorem st_c9 {f : Int → Int} {c : Int} {i : It} (hc : c = 0 ∨ c = 3) : stI f i c = i c := by
  unfold stI
  split
  · rw [uZ_ne (by omega)]
  · rfl
theorem stnn_3 {f : Int → Int} {N : Int} {i : It} (h : (stI f (nnI N i)) 0 = 12) (h3 : i 0 = 12 → i 3 = 0) : (stI f (nnI N i)) 3 = 0 := by
  rw [st_c9 (Or.inl rfl), nn_c9 (Or.inl rfl)] at h
  rw [st_c9 (Or.inr rfl), nn_c9 (Or.inr rfl)]
  exact h3 h
theorem vw_out {σ : MS} {b : Nat} {k : Int} (h : ¬ (0 ≤ k ∧ k < σ.2.1 6 b)) : vW (cdW σ b) k = zI := by
  have e : cdW σ b k = zI := by
    funext c
    exact (cW_out h).symm
  funext c
  show nrm (cdW σ b k) c = 0
  rw [e]
  by_cases c3 : c = 3
  · subst c3; rw [nrm_3 (by show ¬ (0 : Int) = 12; decide)]; rfl
  · by_cases c12 : c = 12
    · subst c12; exact nrm_12
    · rw [nrm_ne c3 c12]; rfl
end
section
def mk00 (k v : Int) : MK := ((0, 0, 0, 0, 0), (0, fun _ => zI), (k, v), [], (fun _ => (0, fun _ => zI), fun _ => 0))
def CDA (σ τ : MS) (C : Int → Nat) : Prop := ∀ r, 0 ≤ r → r < τ.1 10 → (cdS σ (C r) = rS τ r ∧ σ.2.1 7 (C r) = τ.2.1 12 r ∧ σ.2.1 8 (C r) = τ.2.1 11 r ∧ σ.2.1 9 (C r) = τ.2.1 13 r) ∧ (WOK (cdW σ (C r)) (σ.2.1 6 (C r)) ∧ LNK (cdW σ (C r)) (σ.2.1 6 (C r)) ∧ RN9 σ (C r) (τ.2.1 12))
theorem mkb_0 {k v : Int} : MKB (mk00 k v) := ⟨fun _ => ibr_z, fun _ _ => ibr_z⟩
theorem mki_0 {k v : Int} : MKI (mk00 k v) := by
  refine ⟨⟨Int.le_refl _, fun i j x y => absurd y (by show ¬ i < 0; omega), fun i x y => absurd y (by show ¬ i < 0; omega), fun l q => ?_, ?_⟩, fun r i j a b => absurd b (by show ¬ i < 0; omega)⟩
  · exact absurd q (by show ¬ l ∈ (([] : List Int)); simp)
  · exact List.nodup_nil
def CDB (τ : MS) : Prop := ∀ r, 0 ≤ r → r < τ.1 10 → UNQ (rV τ r) (τ.2.1 9 r) ∧ RZA (rV τ r)
section CDS6
variable {S : Int → Int} {τ σ : MS} {es : List EW} {t : TK} {x : Int × Int × Int} {p : QR} {ρ : List EV} {Pf : Int → List EW} {f : Int → Int}
theorem nma_S {r : RS} {q : Int} (hs : SEN S) (re : RE S ([36], advT S 0, (0, 0, 0), qq 0, []) es ([], t, x, p, ρ)) (hr : ST0 r) (hp : PFX es Pf) (q0 : 0 ≤ q) (q1 : q < (es.foldl uC c00).rn) (q6 : q < 6) : NMA (nmQ6 S) q ((Pf q).foldl uC c00) := by
  have n1 := names_end hr (re.shp hs) hp q0 q1 q6
  have ds := DSC.fold (Pf q) dsc_0
  refine ⟨fun i a b => nmQ6_at hs re hr hp q0 q1 q6 (Or.inl ⟨a, by rw [n1.1]; exact b, n1.2.2 i a b, fun j u v => ?_⟩), fun _ w nf => nmQ6_at hs re hr hp q0 q1 q6 (Or.inr ⟨fun j u v => ?_, rfl⟩)⟩
  · rw [n1.2.2 j u (by omega)]
    exact ds j i u v b
  · rw [n1.1] at v
    rw [n1.2.2 j u v]
    exact fun e => nf ⟨j, u, v, e⟩
theorem txw_end {nm : Int → Int64 → Int} {rn : Int64 → Int} {tb : Int → Int} {z0 mz : MK} {i : Nat} {N : Int} (hB : SB S) (h : TXW S nm rn tb z0 i N mz) (hk : ckd (tkS S i) = 264) : ∃ t x p ρ, RM S nm rn tb ([36], advT S 0, (0, 0, 0), qq 0, []) z0 ([], t, x, p, ρ) mz := by
  have g := GCW.gg h (GCW.of (gr36y hB hk) (show id mz = mz from rfl))
  obtain ⟨t1, l, -, e⟩ := g (advT S 0) ⟨rfl, rfl, rfl, rfl, fun _ => rfl⟩
  exact ⟨_, _, _, _, e [] []⟩
theorem tr9_end {i : Nat} {N : Int} (hB : SB S) (h : TR9 S i N es) (hk : ckd (tkS S i) = 264) : ∃ t x p ρ, RE S ([36], advT S 0, (0, 0, 0), qq 0, []) es ([], t, x, p, ρ) := by
  have g := GCS.gg h (r36y hB hk)
  obtain ⟨t1, l, -, e⟩ := g (advT S 0) ⟨rfl, rfl, rfl, rfl, fun _ => rfl⟩
  have w := e [] []
  rw [List.append_nil es] at w
  exact ⟨_, _, _, _, w⟩
theorem nn0 : ∀ {es : List EW}, 0 ≤ (es.foldl uC c00).nn := fun {es} => by
  have key : ∀ (es : List EW) (c : CS), 0 ≤ c.nn → 0 ≤ (es.foldl uC c).nn := fun es => by
    induction es with
    | nil => exact fun c h => h
    | cons e es ih =>
      intro c h
      refine ih (uC c e) ?_
      have nm : ∀ w, 0 ≤ (sCn c w).nn := fun w => by
        unfold sCn
        by_cases z : ¬ fndC c w ∧ ¬ 12 ≤ c.nn
        · rw [ifP_t z]; show 0 ≤ c.nn + 1; omega
        · rw [ifP_f z]; exact h
      show 0 ≤ (sC c e).nn
      unfold sC
      split
      · exact Int.le_refl _
      split
      · exact nm _
      split
      · exact h
      split
      · exact nm _
      split
      · exact h
      split
      · exact h
      exact h
  exact key es c00 (Int.le_refl _)
noncomputable def rnR (τ : MS) (w : Int64) : Int := Classical.epsilon (fun v => RNV τ w v)
theorem rnR_at {w : Int64} {v : Int} (h : RNV τ w v) : rnR τ w = v := RNV.one (Classical.epsilon_spec (p := fun v => RNV τ w v) ⟨v, h⟩) h
theorem rnv_30 {w : Int64} {v r : Int} (h : RNV (sS 30 r τ) w v) : RNV τ w v := h
theorem rnQ_kw {w : Int64} (h : ∃ k, KW k w) : KW (rnQ w) w := by
  unfold rnQ
  rw [dif_pos h]
  exact Classical.choose_spec h
theorem makers {pk pv : Int} {i : Nat} {N : Int} {mz : MK} (hs : SEN S) (hB : SB S) (re : RE S ([36], advT S 0, (0, 0, 0), qq 0, []) es ([], t, x, p, ρ)) (r9 : (RA9 (es.foldl uC c00)).1 = 0) (r6 : (es.foldl uC c00).rn ≤ 6) (hp : PFX es Pf) (hf : RFC (es.foldl uC c00) f) (hx : (∀ q, 0 ≤ q → q < (es.foldl uC c00).rn → NMA (nmQ6 S) q ((Pf q).foldl uC c00)) → TXW S (nmQ6 S) rnQ tb1 (mk00 pk pv) i N mz) (hk : ckd (tkS S i) = 264) (hm : MDE S τ) (e10 : τ.1 10 = (es.foldl uC c00).rn) : ∀ r, 0 ≤ r → r < τ.1 10 → (mz.dn r).1 = τ.2.1 9 r ∧ (∀ k, 0 ≤ k → k < (mz.dn r).1 → rV τ r k = mpI (τ.2.1 35 r) f ((mz.dn r).2 k) ∧ ((mz.dn r).2 k 0 = 12 → (mz.dn r).2 k 4 < 1000)) ∧ mz.fr r = τ.2.1 13 r ∧ τ.2.1 35 r = ((Pf r).foldl uC c00).nn ∧ τ.2.1 11 r = (es.foldl uC c00).rp r ∧ ((Pf r).foldl uC c00).nn ≤ 12 ∧ (∀ k, IBR (rV τ r k)) ∧ UNQ (rV τ r) (τ.2.1 9 r) := by
  obtain ⟨⟨pk2, pv2, mr⟩, -, es2, t2, x2, q2, ρ2, A, re2, sA, tnn, tnw, ttn, ttw, ttm⟩ := hm
  have d := (RE.det re re2 rfl rfl evt_nil evt_nil).2
  subst d
  have sh := re.shp hs
  have st : ST0 (absR A) := sA
  have nma : ∀ q, 0 ≤ q → q < (es.foldl uC c00).rn → NMA (nmQ6 S) q ((Pf q).foldl uC c00) := fun q a b => nma_S hs re st hp a b (by omega)
  obtain ⟨t3, x3, p3, ρ3, rc⟩ := txw_end hB (hx nma) hk
  -- the reference's numbers fit
  have nf := NFQ.fold es (show NFQ (absR A) ((absR A).1, (0, -1), (absR A).2.2) from ⟨rfl, rfl⟩)
  obtain ⟨pc, lo, k1⟩ := K1.run es (K1.ini (r := ((absR A).1, (0, -1), (absR A).2.2)) st rfl) sh
  have etn : (es.foldl uR (absR A)).tn = (es.foldl uC c00).rn := (congrArg (fun z => z.2.2.1) nf.2).trans k1.tn
  have etw : ∀ j, 0 ≤ j → j < (es.foldl uC c00).rn → (es.foldl uR (absR A)).tw j = (es.foldl uC c00).rk j := fun j a b => (congrFun (congrArg (fun z => z.2.2.2.1) nf.2) j).trans (k1.tw j a b)
  have etm : ∀ j, 0 ≤ j → j < (es.foldl uC c00).rn → (es.foldl uR (absR A)).tm j = (es.foldl uC c00).rp j := fun j a b => (congrFun (congrArg (fun z => z.2.2.2.2.1) nf.2) j).trans (k1.tm j a (Or.inr ⟨b, by decide⟩))
  have fa : FITA (nmQ6 S) (rnR τ) (fun r => τ.2.1 35 r) τ := fun r r0 r6 => by
    refine ⟨fun w v h => ?_, fun w v h => rnR_at (rnv_30 h), rfl⟩
    show nmQ6 S r w = v
    by_cases z : r < (es.foldl uC c00).rn
    · refine nmQ6_at hs re st hp r0 z r6 ?_
      unfold NLK
      rw [tnn, tnw]
      exact h
    · have y := nmQ6_hi (w := w) hs re st (show (es.foldl uC c00).rn ≤ r by omega) r6
      rw [y.1]
      have y2 := y.2
      rw [tnn] at y2
      rcases h with ⟨a1, a2, -⟩ | ⟨-, a2⟩
      · have a3 : v < τ.2.1 35 r := a2
        omega
      · exact a2.symm
  obtain ⟨t4, x4, l4, m', rm1, dm⟩ := mr _ _ _ fa (mk00 pk2 pv2) rfl rfl rfl
  have cg : ∀ e ∈ es, e.1 = 1 → rnR τ e.2.2.2 = f (rnQ e.2.2.2) := fun e he k9 => by
    have kw := rnQ_kw (re.kw hs e he k9)
    have fd := ((hf _ _ kw).1 (call_found sh r9 e he k9))
    refine rnR_at (Or.inl ⟨f (rnQ e.2.2.2), ⟨fd.1.1, ?_, ?_, fun j a b => ?_⟩, (if_pos (by omega)).symm⟩)
    · rw [← ttn, etn]; exact fd.1.2
    · rw [← ttw, etw _ fd.1.1 fd.1.2]; exact fd.2.1
    · rw [← ttw, etw j a (by omega)]; exact fd.2.2 j a b
  have rm2 := RM.cong (rn2 := fun w => f (rnQ w)) rm1 re rfl evt_nil rfl evt_nil cg
  have dd := (RLM.fin (f := f) (Nf := fun r => τ.2.1 35 r) (nmQ6_lt S) rc rm2 rfl (fun _ => rfl) (RLM.hd rfl ⟨rfl, fun q => ⟨rfl, fun k a b => absurd b (by show ¬ k < 0; omega)⟩⟩ (Or.inr (Or.inl rfl)))).2
  intro r a b
  have d9 := dm r a b
  have q9 := dd.2 r
  have e1 : m'.dn r = (τ.2.1 9 r, rV τ r) := d9.1
  have ne := names_end st sh hp a (by omega) (show r < 6 by omega)
  rw [e1] at q9
  have mb := (rm1.mkb mkb_0).2 r
  have mi := (rm1.mki mki_0).2 r
  rw [d9.1] at mb mi
  refine ⟨q9.1.symm, q9.2, ?_, ?_, ?_, ne.2.1.2, mb, mi⟩
  · rw [← dd.1]; exact d9.2
  · rw [← tnn]; exact ne.1
  · rw [← ttm r a b]; exact etm r a (by omega)
theorem CODES {C : Int → Nat} {pk pv : Int} {i : Nat} {N : Int} {mz : MK} (hs : SEN S) (hB : SB S) (re : RE S ([36], advT S 0, (0, 0, 0), qq 0, []) es ([], t, x, p, ρ)) (r9 : (RA9 (es.foldl uC c00)).1 = 0) (r6 : (es.foldl uC c00).rn ≤ 6) (hp : PFX es Pf) (hf : RFC (es.foldl uC c00) f) (hx : (∀ q, 0 ≤ q → q < (es.foldl uC c00).rn → NMA (nmQ6 S) q ((Pf q).foldl uC c00)) → TXW S (nmQ6 S) rnQ tb1 (mk00 pk pv) i N mz) (hk : ckd (tkS S i) = 264) (hm : MDE S τ) (e10 : τ.1 10 = (es.foldl uC c00).rn) (hP : ∀ r, 0 ≤ r → r < τ.1 10 → 0 ≤ τ.2.1 11 r ∧ τ.2.1 11 r ≤ 4) (hw : ∀ r, 0 ≤ r → r < τ.1 10 → ∃ F, OKS τ F r) (hc : ∀ q, 0 ≤ q → q < (es.foldl uC c00).rn → (mz.dn q).1 ≤ 120 ∧ CDT σ (C q) q (mz.dn q).1 (mz.dn q).2 (mz.fr q) ((Pf q).foldl uC c00).nn ((es.foldl uC c00).rp q) f) : CDA σ τ C ∧ CDB τ := by
  refine ⟨fun r a b => ?_, fun r a b => ?_⟩
  rotate_left
  · have mk := makers hs hB re r9 r6 hp hf hx hk hm e10 r a b
    exact ⟨mk.2.2.2.2.2.2.2, fun k => (mk.2.2.2.2.2.2.1 k).2⟩
  have mk := makers hs hB re r9 r6 hp hf hx hk hm e10 r a b
  obtain ⟨m1, m2, m3, m4, m5, m6, m7, -⟩ := mk
  obtain ⟨c1, s0, e, ck, cs⟩ := hc r a (by omega)
  obtain ⟨-, hd, -⟩ := hm
  obtain ⟨dn, d17, d12, d11⟩ := hd r a b
  obtain ⟨k1, ⟨k6, k7, k8, k9, k14⟩, kl, kw⟩ := ck
  obtain ⟨⟨⟨f6, f7, f9, f10⟩, f8⟩, ⟨r11, r12, r13, r14, r15⟩, W, w1, w2, w3⟩ := cs
  obtain ⟨g14, g15, g16, g18, -, -⟩ := dn
  have eV : vW (cdW s0 e) = rV τ r := by
    funext k
    by_cases z : 0 ≤ k ∧ k < (mz.dn r).1
    · rw [(m2 k z.1 z.2).1, ← w1]
      show nrm (cdW s0 e k) = mpI (τ.2.1 35 r) f (nrm (W k))
      rw [w3 k z.1 z.2, m4]
      exact nn_mp (fun q => by
        have y := (m2 k z.1 z.2).2
        rw [← w1] at y
        have y0 : vW W k 0 = W k 0 := vW_0
        have y4 : vW W k 4 = W k 4 := vW_ne (by decide) (by decide)
        rw [y0, y4] at y
        exact y q)
    · rw [vw_out (by rw [f6]; exact z)]
      exact (if_neg (by rw [← m1]; exact z)).symm
  have eS : cdS σ (C r) = rS τ r := by
    rw [k1]
    unfold cdS cRS rS
    rw [f6, f10, m1, eV, g14]
    refine Prod.ext rfl (Prod.ext rfl (Prod.ext rfl (Prod.ext ?_ (Prod.ext ?_ (Prod.ext ?_ ?_)))))
    · funext g
      show (if 0 ≤ g ∧ g < 1 then rwF s0 11 e g else 0) = if 0 ≤ g ∧ g < 1 then τ.2.1 15 (12 * r + g) else 0
      by_cases z : 0 ≤ g ∧ g < 1
      · have e0 : g = 0 := by omega
        rw [if_pos z, if_pos z, e0, r11, show 12 * r + 0 = 12 * r by omega, g15]
      · rw [if_neg z, if_neg z]
    · funext g
      show (if 0 ≤ g ∧ g < 1 then rwF s0 12 e g else 0) = if 0 ≤ g ∧ g < 1 then τ.2.1 16 (12 * r + g) else 0
      by_cases z : 0 ≤ g ∧ g < 1
      · have e0 : g = 0 := by omega
        rw [if_pos z, if_pos z, e0, r12, show 12 * r + 0 = 12 * r by omega, g16]
      · rw [if_neg z, if_neg z]
    · funext g
      show (if 0 ≤ g ∧ g < 1 then rwF s0 13 e g else 0) = if 0 ≤ g ∧ g < 1 then τ.2.1 17 (12 * r + g) else 0
      by_cases z : 0 ≤ g ∧ g < 1
      · have e0 : g = 0 := by omega
        rw [if_pos z, if_pos z, e0, r13, show 12 * r + 0 = 12 * r by omega, d17]
      · rw [if_neg z, if_neg z]
    · funext g m
      show (if (0 ≤ g ∧ g < 1) ∧ 0 ≤ m ∧ m < rwF s0 14 e g then rwF s0 15 e (12 * g + m) else 0) = if (0 ≤ g ∧ g < 1) ∧ 0 ≤ m ∧ m < τ.2.1 12 (τ.2.1 15 (12 * r + g)) then τ.2.1 18 (144 * r + 12 * g + m) else 0
      by_cases z : 0 ≤ g ∧ g < 1
      · have e0 : g = 0 := by omega
        rw [e0, r14, show 12 * r + 0 = 12 * r by omega, g15, d12, m4]
        by_cases y : 0 ≤ m ∧ m < ((Pf r).foldl uC c00).nn
        · rw [if_pos ⟨⟨Int.le_refl _, by decide⟩, y⟩, if_pos ⟨⟨Int.le_refl _, by decide⟩, y⟩, show 12 * 0 + m = m by omega, r15 m y.1 y.2, show 144 * r + 12 * 0 + m = 144 * r + m by omega, g18 m y.1 (by omega)]
        · rw [if_neg (fun q => y q.2), if_neg (fun q => y q.2)]
      · rw [if_neg (fun q => z q.1), if_neg (fun q => z q.1)]
  have p8 : s0.2.1 8 e = τ.2.1 11 r := by
    rw [f8 (by rw [← m5]; exact (hP r a b).2), m5]
  have c10 : σ.2.1 10 (C r) = 1 := (congrArg (fun H : RTS => H.2.2.1) k1).trans f10
  have c11 : rwF σ 11 (C r) 0 = r := by
    have z := congrFun (congrArg (fun H : RTS => H.2.2.2.1) k1) 0
    have z2 : (if (0 : Int) ≤ 0 ∧ (0 : Int) < σ.2.1 10 (C r) then rwF σ 11 (C r) 0 else 0) = if (0 : Int) ≤ 0 ∧ (0 : Int) < s0.2.1 10 e then rwF s0 11 e 0 else 0 := z
    rw [c10, f10, if_pos (by decide), if_pos (by decide), r11] at z2
    exact z2
  refine ⟨⟨eS, by rw [k7, f7, d12, m4], by rw [k8, p8], by rw [k9, f9, m3]⟩, kw ?_, kl, ?_⟩
  · intro k a0 a1
    rw [f6] at a1
    obtain ⟨F, ok⟩ := hw r a b
    have ek : nrm (cdW s0 e k) = rI τ (220 * r + k) := by
      have z := congrFun eV k
      rw [show rV τ r k = rI τ (220 * r + k) from if_pos ⟨a0, by rw [← m1]; exact a1⟩] at z
      exact z
    refine wok_raw ek (ok k a0 (by rw [← m1]; exact a1)) ?_ (fun q => ?_)
    · have z := m7 k
      rw [show rV τ r k = rI τ (220 * r + k) from if_pos ⟨a0, by rw [← m1]; exact a1⟩] at z
      exact z
    · rw [w3 k a0 a1] at q ⊢
      exact stnn_3 q (fun u => w2 k a0 a1 u)
  · intro g g0 g1
    rw [c10] at g1
    have e0 : g = 0 := by omega
    rw [e0, k14, r14, c11, d12, m4]
    have z := m6
    have z2 := nn0 (es := Pf r)
    exact ⟨⟨z2, z⟩, rfl⟩
end CDS6
end
section
section KOKS
variable {S : Nat → Prop} {T T2 : CT} {σ σ2 τ τ2 : MS} {a c : Nat} {C E M : Int → Nat} {r : Int}
theorem cda_it {k : Int} (h : cdS σ c = rS τ r) (k0 : 0 ≤ k) (k1 : k < τ.2.1 9 r) : nrm (cdW σ c k) = rI τ (220 * r + k) := by
  have z : vW (cdW σ c) k = rV τ r k := congrFun (congrArg RTS.V h) k
  rw [rv_in k0 k1] at z
  exact z
theorem cdg_of (hs : cdS σ c = rS τ r) (h7 : σ.2.1 7 c = τ.2.1 12 r) (h8 : σ.2.1 8 c = τ.2.1 11 r) (hw : WOK (cdW σ c) (σ.2.1 6 c)) (hl : LNK (cdW σ c) (σ.2.1 6 c)) (hn : RN9 σ c (τ.2.1 12)) (g : GDR τ r) (np : 0 ≤ τ.2.1 11 r ∧ τ.2.1 11 r ≤ 4) (nn : τ.2.1 12 r ≤ 12) (un : UNQ (rV τ r) (τ.2.1 9 r)) (rz : RZA (rV τ r)) : cdG σ c (τ.2.1 12) (τ.1 10) ∧ GNK (cdW σ c) (σ.2.1 6 c) := by
  have e6 : σ.2.1 6 c = τ.2.1 9 r := congrArg RTS.n hs
  have e10 : σ.2.1 10 c = τ.2.1 14 r := congrArg RTS.F hs
  have eV : vW (cdW σ c) = rV τ r := congrArg RTS.V hs
  have e11 : ∀ f, 0 ≤ f → f < τ.2.1 14 r → rwF σ 11 c f = τ.2.1 15 (12 * r + f) := fun f x y => by
    have z : (if 0 ≤ f ∧ f < σ.2.1 10 c then rwF σ 11 c f else 0) = if 0 ≤ f ∧ f < τ.2.1 14 r then τ.2.1 15 (12 * r + f) else 0 := congrFun (congrArg RTS.fo hs) f
    rw [e10, if_pos ⟨x, y⟩, if_pos ⟨x, y⟩] at z
    exact z
  have e12 : ∀ f, 0 ≤ f → f < τ.2.1 14 r → rwF σ 12 c f = τ.2.1 16 (12 * r + f) := fun f x y => by
    have z : (if 0 ≤ f ∧ f < σ.2.1 10 c then rwF σ 12 c f else 0) = if 0 ≤ f ∧ f < τ.2.1 14 r then τ.2.1 16 (12 * r + f) else 0 := congrFun (congrArg RTS.fi hs) f
    rw [e10, if_pos ⟨x, y⟩, if_pos ⟨x, y⟩] at z
    exact z
  have e14 : ∀ f, 0 ≤ f → f < τ.2.1 14 r → τ.2.1 12 (τ.2.1 15 (12 * r + f)) = rwF σ 14 c f := fun f x y => by
    have q := (hn f x (by rw [e10]; exact y)).2
    rw [e11 f x y] at q
    exact q
  have e15 : ∀ f m, 0 ≤ f → f < τ.2.1 14 r → 0 ≤ m → m < rwF σ 14 c f → rwF σ 15 c (12 * f + m) = τ.2.1 18 (144 * r + 12 * f + m) := fun f m x y m0 m1 => by
    have z : (if (0 ≤ f ∧ f < σ.2.1 10 c) ∧ 0 ≤ m ∧ m < rwF σ 14 c f then rwF σ 15 c (12 * f + m) else 0) = if (0 ≤ f ∧ f < τ.2.1 14 r) ∧ 0 ≤ m ∧ m < τ.2.1 12 (τ.2.1 15 (12 * r + f)) then τ.2.1 18 (144 * r + 12 * f + m) else 0 := congrFun (congrFun (congrArg RTS.na hs) f) m
    rw [e10, e14 f x y, if_pos ⟨⟨x, y⟩, m0, m1⟩, if_pos ⟨⟨x, y⟩, m0, m1⟩] at z
    exact z
  have it : ∀ k, 0 ≤ k → k < τ.2.1 9 r → ∀ q, q ≠ 3 → q ≠ 12 → cdW σ c k q = rI τ (220 * r + k) q := fun k x y q u v => by rw [← cda_it hs x y]; exact (nrm_ne u v).symm
  have i3 : ∀ k, 0 ≤ k → k < τ.2.1 9 r → (cdW σ c k 0 ≠ 12 ∨ 10 ≤ cdW σ c k 11) → cdW σ c k 3 = τ.2.1 7 (4 * (220 * r + k) + 0) := fun k x y h => by
    have z := congrFun (cda_it hs x y) 3
    have z2 : nrm (cdW σ c k) 3 = cdW σ c k 3 := by
      unfold nrm
      rw [if_neg (fun q => by
        rcases h with h | h
        · exact h q.2.1
        · have := q.2.2; omega), if_neg (by decide)]
    rw [z2] at z
    exact z
  have k0 : ∀ k, 0 ≤ k → k < τ.2.1 9 r → cdW σ c k 0 = τ.2.1 3 (220 * r + k) := fun k x y => it k x y 0 (by decide) (by decide)
  have k1 : ∀ k, 0 ≤ k → k < τ.2.1 9 r → cdW σ c k 1 = τ.2.1 4 (220 * r + k) := fun k x y => it k x y 1 (by decide) (by decide)
  have k2 : ∀ k, 0 ≤ k → k < τ.2.1 9 r → cdW σ c k 2 = τ.2.1 5 (220 * r + k) := fun k x y => it k x y 2 (by decide) (by decide)
  have k5 : ∀ k, 0 ≤ k → k < τ.2.1 9 r → cdW σ c k 5 = τ.2.1 7 (4 * (220 * r + k) + 1) := fun k x y => it k x y 5 (by decide) (by decide)
  have k11 : ∀ k, 0 ≤ k → k < τ.2.1 9 r → cdW σ c k 11 = τ.2.1 6 (220 * r + k) := fun k x y => it k x y 11 (by decide) (by decide)
  have na : ∀ k, 0 ≤ k → k < τ.2.1 9 r → nArgs τ (220 * r + k) = 0 → ∀ i, 0 ≤ i → i < 4 → τ.2.1 7 (4 * (220 * r + k) + i) ≠ 2 := fun k x y h i i0 i1 e => by
    have z := ((g.2.2.1 k x y).2.2.2.2.2.2.2.1 i i0 i1).2 e
    rw [h] at z
    omega
  obtain ⟨fr, lf, cw⟩ := g.2.2.2.2.2.1
  have g1 := g.1
  have g14 := g.2.1.1
  have h6 : ∀ k, k < σ.2.1 6 c → k < τ.2.1 9 r := fun k y => by rw [← e6]; exact y
  have hf : ∀ f, f < σ.2.1 10 c → f < τ.2.1 14 r := fun f y => by rw [← e10]; exact y
  have hh : cdH σ c (τ.2.1 12) (τ.1 10) := by
    refine ⟨by rw [e6]; omega, by rw [e10]; exact g14, fun k x y => ?_, fun f m x y m0 m1 => ?_, fun f x y => hn f x y, fun k x y z => ?_, by rw [eV, e6]; exact cl_rs g, fun f x y => ?_⟩
    · have y := h6 k y
      have ok := g.2.2.1 k x y
      refine ⟨hw k x (by rw [e6]; exact y), fun h => ?_, fun h => ?_, fun h => ?_, fun q h => if_neg (fun w => h w.2)⟩
      · rw [k0 k x y] at h
        rw [k1 k x y, e10]
        have l := g.2.2.2.2.2.2.2.1 k x y h
        have z := (ok.2.2.1 h).1
        omega
      · rw [k0 k x y] at h
        rw [k2 k x y, e10]
        exact ok.2.2.2.2.2.1 h
      · rw [k0 k x y] at h
        rw [k1 k x y, e10]
        exact ok.2.2.2.1 h
    · have y := hf f y
      rw [e15 f m x y m0 m1]
      rw [← e14 f x y] at m1
      exact (g.2.1.2 f x y).2 m m0 m1
    · have y := h6 k y
      rw [eV] at z ⊢
      have z2 : τ.2.1 3 (220 * r + k) = 10 := by
        rw [rv_at x y] at z
        exact z
      obtain ⟨-, j, j0, j1, j2, -, j3⟩ := cw.2.2.2.2 k x y z2
      refine ⟨j, j0, j1, ?_, fun i i0 i1 => ?_⟩
      · rw [rv_at j0 (by omega)]; exact j2
      · rw [rv_at (by omega) (by omega)]; exact j3 i i0 i1
    · have y := hf f y
      rw [e12 f x y, e10]
      have fi := g.2.2.2.2.2.2.1
      by_cases z : f = 0
      · rw [z, fi.1]; omega
      · have w := fi.2 f (by omega) y
        omega
  refine ⟨⟨hh, fun j x y => ?_, fun k x y h => ?_, hl, by rw [eV, e6]; exact un, ⟨⟨by rw [h8]; exact np.1, by rw [h8]; exact np.2, by rw [h8, h7]; exact g.2.2.2.2.2.2.2.2⟩, by rw [h7]; exact nn⟩, ?_⟩, fun k x y h h2 => ?_⟩
  · have y := h6 j y
    have z := rz j
    rw [← eV] at z
    intro h
    have n : ∀ q, q ≠ 3 → q ≠ 12 → vW (cdW σ c) j q = cdW σ c j q := fun q u v => vW_ne u v
    have w := z (by rw [n 0 (by decide) (by decide)]; exact h)
    rw [n 2 (by decide) (by decide), n 5 (by decide) (by decide), n 6 (by decide) (by decide), n 7 (by decide) (by decide), n 8 (by decide) (by decide), n 9 (by decide) (by decide), n 10 (by decide) (by decide), n 11 (by decide) (by decide)] at w
    exact w
  · have y := h6 k y
    have h3 := h
    rw [k0 k x y] at h3
    have a0 : nArgs τ (220 * r + k) = 0 := by
      unfold nArgs
      rw [if_neg (by omega), if_neg (by omega), if_neg (by omega), if_neg (by omega)]
    exact ⟨by rw [i3 k x y (Or.inl (by omega))]; exact na k x y a0 0 (by decide) (by decide), by rw [k5 k x y]; exact na k x y a0 1 (by decide) (by decide)⟩
  · have z := e14 0 (Int.le_refl _) (by omega)
    have f0 : τ.2.1 15 (12 * r + 0) = r := g.2.2.2.1
    rw [f0] at z
    rw [← z, h7]
  · have y := h6 k y
    have h3 := h
    have h4 := h2
    rw [k0 k x y] at h3
    rw [k11 k x y] at h4
    have a0 : nArgs τ (220 * r + k) = 0 := by
      unfold nArgs
      rw [if_neg (by omega), if_pos h3, if_pos h4]
    exact ⟨by rw [i3 k x y (Or.inr h2)]; exact na k x y a0 0 (by decide) (by decide), by rw [k5 k x y]; exact na k x y a0 1 (by decide) (by decide)⟩
theorem kok_of (hK : KB6 S T σ a C E M) (e97 : σ.2.1 97 a = τ.1 10) (g : GDA τ) (np : PAR τ) (nn : NAM τ) (hA : CDA σ τ C) (hB : CDB τ) : KOK S T σ a C (τ.2.1 12) (τ.2.1 11) := by
  have g6 := g.1
  refine ⟨hK.1.1.1, hK.1.1.2.1, ⟨by rw [e97]; exact g6, fun q x y => (hK.1.2.1 q x y).1, fun p q a1 a2 b1 b2 e => (hK.1.2.2.1 p q a1 a2 b1 b2).1 e⟩, fun q x y => ?_⟩
  rw [e97] at y
  obtain ⟨⟨a1, a2, a3, -⟩, a4, a5, a6⟩ := hA q x y
  have B := hB q x y
  have z := cdg_of a1 a2 a3 a4 a5 a6 (g.2 q x y) (np q x (by omega)) (nn q x (by omega)).2 B.1 B.2
  rw [e97]
  exact ⟨z.1, z.2, a3.symm, a2.symm⟩
theorem KB6.pass (h : KB6 S T σ a C E M) (oa : OB T a 11) (hw : WT T σ) (fr : FrC T [5, 6, 10, 22, 25, 26, 27, 28, 29, 30, 31, 32, 56, 80] σ σ2) (pf : PFR S T σ σ2 c) (hI : INJ S T2 σ2) (gt : GT T T2) (h5 : σ2.2.1 5 c = σ.2.1 5 c ∨ ¬ ((T (adN σ2 5 c)).1 ≠ 0 ∧ (T (adN σ2 5 c)).1 < 80)) : KB6 S T2 σ2 a C E M := by
  have ff : ∀ f : Nat, f < 200 → f ∉ [5, 6, 10, 22, 25, 26, 27, 28, 29, 30, 31, 32, 56, 80] → σ2.2.1 f = σ.2.1 f := fun f h1 h2 => fr.1 f (Or.inl h1) h2
  have ad : ∀ (f : Nat) (b : Nat), f < 200 → f ∉ [5, 6, 10, 22, 25, 26, 27, 28, 29, 30, 31, 32, 56, 80] → adN σ2 f b = adN σ f b := fun f b h1 h2 => by unfold adN; rw [ff f h1 h2]
  have h9 : σ2.2.1 900 = σ.2.1 900 := fr.1 900 (Or.inr rfl) (by decide)
  have xs := KEM.xs hw oa
  have old : ∀ b, S b → T2 b = T b := fun b sb => by
    have z := h.1.1.1.1 b sb
    exact gt b (by omega) (by omega)
  have tt : ∀ b, (T b).1 ≠ 0 → (T b).1 < 80 → T2 b = T b := fun b z1 z2 => gt b z1 z2
  have sp := h.1.1.2.2
  refine ⟨h.1.mv gt hI ?_ ?_ ?_ ?_ ?_, ⟨hI, ?_, ?_, ?_⟩, ?_⟩
  · refine ⟨sp.1, fun q x y => ?_, sp.2.2⟩
    have z := sp.2.1 q x y
    rw [ad 34 _ (by decide) (by decide), pf.2.2.2 _ (Or.inl xs.1)]
    exact ⟨z.1, z.2.1, by rw [old _ z.2.1]; exact z.2.2⟩
  · intro f hf
    rw [ff f (by simp only [List.mem_cons, List.not_mem_nil, or_false] at hf; omega) (by simp only [List.mem_cons, List.not_mem_nil, or_false] at hf ⊢; omega)]
  · intro f b hf
    rw [ff f (by simp only [List.mem_cons, List.not_mem_nil, or_false] at hf; omega) (by simp only [List.mem_cons, List.not_mem_nil, or_false] at hf ⊢; omega)]
  · exact pf.2.2.2 _ (Or.inl xs.2.1)
  · exact pf.2.2.2 _ (Or.inr (Or.inl xs.2.2.1))
  · intro i t i0 i6 e f b hf sb ob
    rw [h9] at e
    have ob' : OB T b (cls f) := by unfold OB at *; rw [old b sb] at ob; exact ob
    have t1 := tb_tag hw i0 i6 e
    by_cases q : f = 5 ∧ b = c
    · rcases h5 with h5 | h5
      · have z := h.2.1.2.1 i t i0 i6 e f b hf sb ob'
        rw [q.1, q.2] at z ⊢
        unfold adN at z ⊢
        rw [h5]
        exact z
      · rw [q.1, q.2]
        intro e9
        rw [← e9, t1] at h5
        exact h5 ⟨by decide, by decide⟩
    · have z := h.2.1.2.1 i t i0 i6 e f b hf sb ob'
      unfold adN at z ⊢
      rw [pf.2.1 f b hf q]
      exact z
  · rw [ad 102 a (by decide) (by decide)]
    exact h.2.1.2.2.1
  · intro p hp
    rw [ff 110 (by decide) (by decide)] at hp
    rw [ad 0 p (by decide) (by decide), ad 1 p (by decide) (by decide)]
    exact h.2.1.2.2.2 p hp
  · rw [ad 103 a (by decide) (by decide)]
    exact h.2.2
end KOKS
section MLCG
variable {r Cn : Int} {Gs Gt : Int → RTS} {PM NM : Int → Int}
theorem MLP.cong {H H' : RTS} {k k' d : Int} (hq : H.V k 0 = 10 → Gs (H.V k 2) = Gt (H.V k 2)) (h : MLP r Gs PM NM H k H' k' d) : MLP r Gt PM NM H k H' k' d := by
  by_cases z : H.V k 0 = 10
  · unfold MLP MLD at h ⊢
    rw [← hq z]
    exact h
  · rcases h with ⟨base, lb, lq, j0, m, -⟩ | ⟨-, h⟩
    · exact absurd m.1 z
    · exact Or.inr ⟨fun m => z m.1, h⟩
theorem MLR.cong {t : Nat} {H H' : RTS} {k k' w : Int} (h : MLR r Gs PM NM t H k H' k' w) (k0 : 0 ≤ k) (u : UNQ H.V H.n) (c : CLQ H.V H.n Cn) (hg : ∀ q, 0 ≤ q → q < Cn → 0 ≤ (Gs q).n ∧ UNQ (Gs q).V (Gs q).n ∧ LZ (Gs q).V (Gs q).n) (e : ∀ q, 0 ≤ q → q < Cn → Gs q = Gt q) : MLR r Gt PM NM t H k H' k' w := by
  induction t generalizing H' k' w with
  | zero => exact h
  | succ t ih =>
    obtain ⟨H1, k1, w1, d, h1, h2, h3, h4⟩ := h
    have i := h1.un k0 u c hg
    refine ⟨H1, k1, w1, d, ih h1, h2, h3.cong (fun z => ?_), h4⟩
    have q := i.2.2 k1 i.1 h2 z
    exact e _ q.1 q.2
theorem PSV.cong {w v : Int} {H H' : RTS} (h : PSV w r Gs PM NM H H' v) (u : UNQ H.V H.n) (c : CLQ H.V H.n Cn) (hg : ∀ q, 0 ≤ q → q < Cn → 0 ≤ (Gs q).n ∧ UNQ (Gs q).V (Gs q).n ∧ LZ (Gs q).V (Gs q).n) (e : ∀ q, 0 ≤ q → q < Cn → Gs q = Gt q) : PSV w r Gt PM NM H H' v := by
  rcases h with h | h | h | h | ⟨w4, t, h⟩ | h
  · exact Or.inl h
  · exact Or.inr (Or.inl h)
  · exact Or.inr (Or.inr (Or.inl h))
  · exact Or.inr (Or.inr (Or.inr (Or.inl h)))
  · exact Or.inr (Or.inr (Or.inr (Or.inr (Or.inl ⟨w4, t, h.cong (Int.le_refl 0) u c hg e⟩))))
  · exact Or.inr (Or.inr (Or.inr (Or.inr (Or.inr h))))
end MLCG
section PAS6
variable {S : Nat → Prop} {T T2 : CT} {σ σ2 τ τ2 : MS} {a : Nat} {C E M : Int → Nat} {r w u v : Int}
theorem pass_6 (hK : KB6 S T σ a C E M) (oa : OB T a 11) (hw : WT T σ) (e97 : σ.2.1 97 a = τ.1 10) (g : GDA τ) (hA : CDA σ τ C) (hB : CDB τ) (fr : FrC T [5, 6, 10, 22, 25, 26, 27, 28, 29, 30, 31, 32, 56, 80] σ σ2) (h : PAC S T σ T2 σ2 a C (τ.2.1 12) (τ.2.1 11) w r u) (q : PSQ τ τ2 w r v) (e10 : τ2.1 10 = τ.1 10) (e11 : τ2.2.1 11 = τ.2.1 11) (e12 : τ2.2.1 12 = τ.2.1 12) (e13 : τ2.2.1 13 = τ.2.1 13) : u = v ∧ KB6 S T2 σ2 a C E M ∧ CDA σ2 τ2 C ∧ CDB τ2 := by
  have g6 := g.1
  rcases h with ⟨n1, rfl, rfl, rfl⟩ | ⟨y1, p1, pf, hI, gt, p4, p5, p6, p7, p8⟩
  · rcases q with ⟨-, rfl, e⟩ | ⟨m1, -⟩
    · have e9 : ∀ j, τ2.2.1 9 j = τ.2.1 9 j ∧ rV τ2 j = rV τ j := fun j => ⟨congrArg RTS.n (e j), congrArg RTS.V (e j)⟩
      refine ⟨rfl, hK, fun j x y => ?_, fun j x y => ?_⟩
      · rw [e10] at y
        have z := hA j x y
        rw [e j, e11, e12, e13]
        exact z
      · rw [e10] at y
        rw [(e9 j).1, (e9 j).2]
        exact hB j x y
    · exact absurd (show (0 ≤ w ∧ w ≤ 5) ∧ 0 ≤ r ∧ r < σ2.2.1 97 a by rw [e97]; omega) n1
  · rcases q with ⟨m1, -⟩ | ⟨m1, px, po⟩
    · rw [e97] at y1
      exact absurd (show 0 ≤ w ∧ w ≤ 5 ∧ 0 ≤ r ∧ r < τ.1 10 by omega) m1
    · have r0 := m1.2.2.1
      have r1 := m1.2.2.2
      have gr := g.2 r r0 r1
      have un : UNA τ := fun j x y => (hB j x y).1
      have hg : ∀ j, 0 ≤ j → j < τ.1 10 → 0 ≤ (rS τ j).n ∧ UNQ (rS τ j).V (rS τ j).n ∧ LZ (rS τ j).V (rS τ j).n := fun j x y => ⟨by show 0 ≤ τ.2.1 9 j; have := (g.2 j x y).1; omega, un j x y, lz_rs (g.2 j x y)⟩
      have p1' := p1
      rw [(hA r r0 r1).1.1] at p1'
      have pc := p1'.cong (Gt := rS τ) (Cn := τ.1 10) (un r r0 r1) (cl_rs gr) (fun j x y => by
        have z := hg j x y
        rw [← (hA j x y).1.1] at z
        exact z) (fun j x y => (hA j x y).1.1)
      have d := PSV.det (rg_rs gr) pc px
      have sc := (hK.co r0 (show r < 6 by omega))
      have kb := hK.pass oa hw fr pf hI gt p8
      have old : ∀ j, 0 ≤ j → j < τ.1 10 → j ≠ r → CSM σ σ2 (C j) := fun j x y n => pf.1 (C j) (hK.co x (by omega)).1 (ob50 (hK.co x (by omega)).2) (fun e => n ((hK.1.2.2.1 j r x (by omega) r0 (by omega)).1 e))
      refine ⟨d.2, kb, fun j x y => ?_, fun j x y => ?_⟩
      · rw [e10] at y
        rw [e11, e12, e13]
        by_cases z : j = r
        · subst z
          have A := hA j x y
          exact ⟨⟨d.1, (pf.2.2.1 7 (by decide)).trans A.1.2.1, (pf.2.2.1 8 (by decide)).trans A.1.2.2.1, (pf.2.2.1 9 (by decide)).trans A.1.2.2.2⟩, p4, p5, p7⟩
        · have A := hA j x y
          have cs := old j x y z
          have c6 := cs.1 6 (by decide) (by decide)
          refine ⟨⟨by rw [cs.s, po j x y z]; exact A.1.1, (cs.1 7 (by decide) (by decide)).trans A.1.2.1, (cs.1 8 (by decide) (by decide)).trans A.1.2.2.1, (cs.1 9 (by decide) (by decide)).trans A.1.2.2.2⟩, by rw [cs.w, c6]; exact A.2.1, by rw [cs.w, c6]; exact A.2.2.1, ?_⟩
          have n9 := A.2.2.2
          unfold RN9 at n9 ⊢
          rw [cs.1 10 (by decide) (by decide), cs.rw (f := 11) (by decide) (by decide) (by decide), cs.rw (f := 14) (by decide) (by decide) (by decide)]
          exact n9
      · rw [e10] at y
        by_cases z : j = r
        · subst z
          have z1 := px.un (C := τ.1 10) (by show 0 ≤ τ.2.1 9 j; have := gr.1; omega) (un j x y) (cl_rs gr) hg
          exact ⟨z1, px.rz (hB j x y).2⟩
        · have e := po j x y z
          rw [show τ2.2.1 9 j = τ.2.1 9 j from congrArg RTS.n e, show rV τ2 j = rV τ j from congrArg RTS.V e]
          exact hB j x y
theorem quiet_6 (hA : CDA σ τ C) (hB : CDB τ) (t6 : τ.1 10 ≤ 6) (hc : ∀ j, 0 ≤ j → j < 6 → CSM σ σ2 (C j)) (e : ∀ j, rS τ2 j = rS τ j) (e10 : τ2.1 10 = τ.1 10) (e11 : τ2.2.1 11 = τ.2.1 11) (e12 : τ2.2.1 12 = τ.2.1 12) (e13 : τ2.2.1 13 = τ.2.1 13) : CDA σ2 τ2 C ∧ CDB τ2 := by
  refine ⟨fun j x y => ?_, fun j x y => ?_⟩
  · rw [e10] at y
    have A := hA j x y
    have cs := hc j x (by omega)
    have c6 := cs.1 6 (by decide) (by decide)
    rw [e j, e11, e12, e13]
    refine ⟨⟨by rw [cs.s]; exact A.1.1, (cs.1 7 (by decide) (by decide)).trans A.1.2.1, (cs.1 8 (by decide) (by decide)).trans A.1.2.2.1, (cs.1 9 (by decide) (by decide)).trans A.1.2.2.2⟩, by rw [cs.w, c6]; exact A.2.1, by rw [cs.w, c6]; exact A.2.2.1, ?_⟩
    have n9 := A.2.2.2
    unfold RN9 at n9 ⊢
    rw [cs.1 10 (by decide) (by decide), cs.rw (f := 11) (by decide) (by decide) (by decide), cs.rw (f := 14) (by decide) (by decide) (by decide)]
    exact n9
  · rw [e10] at y
    rw [show τ2.2.1 9 j = τ.2.1 9 j from congrArg RTS.n (e j), show rV τ2 j = rV τ j from congrArg RTS.V (e j)]
    exact hB j x y
theorem RTA.one {Cn P N L : Int} {H : RTS} {NM : Int → Int} (h : RTA Cn H P N L NM r w u) (g : RTA Cn H P N L NM r w v) : u = v := by
  rcases h with ⟨h1, rfl⟩ | ⟨h1, h⟩ <;> rcases g with ⟨g1, rfl⟩ | ⟨g1, g⟩
  · rfl
  · exact absurd g1 h1
  · exact absurd h1 g1
  · rcases h with ⟨a1, rfl⟩ | ⟨a1, rfl⟩ | ⟨a1, rfl⟩ | ⟨a1, rfl⟩ | ⟨a1, a2⟩ | ⟨a1, rfl⟩ | ⟨a1, rfl⟩ | ⟨a1, rfl⟩ | ⟨a1, rfl⟩ <;> rcases g with ⟨b1, rfl⟩ | ⟨b1, rfl⟩ | ⟨b1, rfl⟩ | ⟨b1, rfl⟩ | ⟨b1, b2⟩ | ⟨b1, rfl⟩ | ⟨b1, rfl⟩ | ⟨b1, rfl⟩ | ⟨b1, rfl⟩ <;> first
      | rfl
      | omega
      | exact a2.det b2
theorem FRA.one {Cn f : Int} {H : RTS} (h : FRA Cn H r f w u) (g : FRA Cn H r f w v) : u = v := by
  rcases h with ⟨h1, rfl⟩ | ⟨h1, h⟩ <;> rcases g with ⟨g1, rfl⟩ | ⟨g1, g⟩
  · rfl
  · exact absurd g1 h1
  · exact absurd h1 g1
  · rcases h with ⟨a1, rfl⟩ | ⟨a1, rfl⟩ | ⟨a1, rfl⟩ | ⟨a1, rfl⟩ <;> rcases g with ⟨b1, rfl⟩ | ⟨b1, rfl⟩ | ⟨b1, rfl⟩ | ⟨b1, rfl⟩ <;> first
      | rfl
      | omega
end PAS6
end
section
section RD6S
variable {S : Nat → Prop} {T T2 : CT} {σ σ2 τ τ2 : MS} {a : Nat} {C E M E2 M2 : Int → Nat}
theorem KB6.read (h : KB6 S T σ a C E M) (hw : WT T σ) (hw2 : WT T2 σ2) (fr : FrC T [5, 6, 7, 8, 9, 10, 35, 38, 42, 43, 44, 45, 46, 47, 50, 51, 56, 84, 85, 86, 87, 96, 97, 104, 105, 512, 516, 517, 518, 519, 520, 521, 522, 523] σ σ2) (k : KEM S T2 σ2 a C E2 M2) (n5 : N5 S T σ σ2) (gt : GT T T2) : KB6 S T2 σ2 a C E2 M2 := by
  have ff : ∀ f : Nat, f < 200 → f ∉ [5, 6, 7, 8, 9, 10, 35, 38, 42, 43, 44, 45, 46, 47, 50, 51, 56, 84, 85, 86, 87, 96, 97, 104, 105, 512, 516, 517, 518, 519, 520, 521, 522, 523] → σ2.2.1 f = σ.2.1 f := fun f h1 h2 => fr.1 f (Or.inl h1) h2
  have ad : ∀ (f : Nat) (b : Nat), f < 200 → f ∉ [5, 6, 7, 8, 9, 10, 35, 38, 42, 43, 44, 45, 46, 47, 50, 51, 56, 84, 85, 86, 87, 96, 97, 104, 105, 512, 516, 517, 518, 519, 520, 521, 522, 523] → adN σ2 f b = adN σ f b := fun f b h1 h2 => by unfold adN; rw [ff f h1 h2]
  have h9 : σ2.2.1 900 = σ.2.1 900 := fr.1 900 (Or.inr rfl) (by decide)
  have old : ∀ b, S b → T2 b = T b := fun b sb => by
    have z := h.1.1.1.1 b sb
    exact gt b (by omega) (by omega)
  refine ⟨k, ⟨k.1.1, ?_, ?_, ?_⟩, ?_⟩
  · intro i t i0 i6 e f b hf sb ob
    rw [h9] at e
    have ob' : OB T b (cls f) := by unfold OB at *; rw [old b sb] at ob; exact ob
    have t1 := tb_tag hw i0 i6 e
    have z := h.2.1.2.1 i t i0 i6 e f b hf sb ob'
    by_cases q : f = 5
    · subst q
      by_cases c : (T b).1 = 50
      · rcases n5 b sb c with y | y
        · unfold adN at z ⊢
          rw [y]
          exact z
        · intro e9
          rw [← e9, t1] at y
          exact y ⟨by decide, by decide⟩
      · have w := (ad_ex (Q := fun x => (208 ≤ (T2 x).2 ∧ (T2 x).2 ≤ 2600) ∧ ((T2 b).1 = 50 → (T2 x).1 = 1) ∧ ((T2 b).1 ≠ 50 → (T2 x).1 = 13)) (wf_5 hw2 ob)).2.2.2 (by rw [old b sb]; exact c)
        intro e9
        have t2 := gt t (by omega) (by omega)
        rw [← e9, t2, t1] at w
        exact absurd w (by decide)
    · rw [ad f b (by have := afl_lt hf; omega) (by simp only [List.mem_cons, List.not_mem_nil, or_false] at hf ⊢; omega)]
      exact z
  · rw [ad 102 a (by decide) (by decide)]
    exact h.2.1.2.2.1
  · intro p hp
    rw [ff 110 (by decide) (by decide)] at hp
    rw [ad 0 p (by decide) (by decide), ad 1 p (by decide) (by decide)]
    exact h.2.1.2.2.2 p hp
  · rw [ad 103 a (by decide) (by decide)]
    exact h.2.2
theorem RKP.rs (h : RKP τ τ2) {r : Int} (r0 : 0 ≤ r) (r6 : r < 6) (hn : τ.2.1 9 r ≤ 220) : rS τ2 r = rS τ r := by
  obtain ⟨⟨k1, k9⟩, f⟩ := h
  have ev : rV τ2 r = rV τ r := by
    unfold rV
    rw [k9]
    funext k
    by_cases z : 0 ≤ k ∧ k < τ.2.1 9 r
    · rw [if_pos z, if_pos z]
      exact (k1 (220 * r + k) (by omega)).ri
    · rw [if_neg z, if_neg z]
  unfold rS
  rw [ev, k9, f.2.1 14 (by decide), f.2.1 15 (by decide), f.2.1 16 (by decide), f.2.1 17 (by decide), f.2.1 18 (by decide), f.2.1 12 (by decide)]
theorem quiet_7 (hA : CDA σ τ C) (hB : CDB τ) (t6 : τ.1 10 ≤ 6) (hc : ∀ j, 0 ≤ j → j < 6 → CSM σ σ2 (C j)) (e : ∀ j, 0 ≤ j → j < τ.1 10 → rS τ2 j = rS τ j) (e10 : τ2.1 10 = τ.1 10) (e11 : τ2.2.1 11 = τ.2.1 11) (e12 : τ2.2.1 12 = τ.2.1 12) (e13 : τ2.2.1 13 = τ.2.1 13) : CDA σ2 τ2 C ∧ CDB τ2 := by
  refine ⟨fun j x y => ?_, fun j x y => ?_⟩
  · rw [e10] at y
    have A := hA j x y
    have cs := hc j x (by omega)
    have c6 := cs.1 6 (by decide) (by decide)
    rw [e j x y, e11, e12, e13]
    refine ⟨⟨by rw [cs.s]; exact A.1.1, (cs.1 7 (by decide) (by decide)).trans A.1.2.1, (cs.1 8 (by decide) (by decide)).trans A.1.2.2.1, (cs.1 9 (by decide) (by decide)).trans A.1.2.2.2⟩, by rw [cs.w, c6]; exact A.2.1, by rw [cs.w, c6]; exact A.2.2.1, ?_⟩
    have n9 := A.2.2.2
    unfold RN9 at n9 ⊢
    rw [cs.1 10 (by decide) (by decide), cs.rw (f := 11) (by decide) (by decide) (by decide), cs.rw (f := 14) (by decide) (by decide) (by decide)]
    exact n9
  · rw [e10] at y
    have q := e j x y
    rw [show τ2.2.1 9 j = τ.2.1 9 j from congrArg RTS.n q, show rV τ2 j = rV τ j from congrArg RTS.V q]
    exact hB j x y
theorem read_6 {Sx : Int → Int} {pk pv u v w1 w2 r0 : Int} (hK : KB6 S T σ a C E M) (hw : WT T σ) (hw2 : WT T2 σ2) (fr : FrC T [5, 6, 7, 8, 9, 10, 35, 38, 42, 43, 44, 45, 46, 47, 50, 51, 56, 84, 85, 86, 87, 96, 97, 104, 105, 512, 516, 517, 518, 519, 520, 521, 522, 523] σ σ2) (hR : RDM S C (nmQ6 Sx) (mk00 pk pv) T σ T2 σ2 a Sx u) (rq : RQ9 Sx u w1 w2 r0 (σ2.2.1 97 a)) (hs : SEN Sx) (rd : RD6 Sx τ τ2 v) (uv : u = v) (e97 : σ2.2.1 97 a = τ2.1 10) (hA : CDA σ τ C) (hB : CDB τ) (g : GDA τ) (g2 : GDA τ2) (np : PAR τ2) : ∃ E2 M2, KB6 S T2 σ2 a C E2 M2 ∧ CDA σ2 τ2 C ∧ CDB τ2 := by
  obtain ⟨⟨E2, M2, k⟩, c1, c2, n5, gt⟩ := hR
  have kb := hK.read hw hw2 fr k n5 gt
  refine ⟨E2, M2, kb, ?_⟩
  subst uv
  by_cases z : u = -1
  · have kp := rd.1 z
    have g6 := g.1
    exact quiet_7 hA hB (by omega) (c1 z).1 (fun j x y => kp.rs x (by omega) (by have := (g.2 j x y).1; omega)) (kp.2.1 10 (by decide)) (kp.2.2.1 11 (by decide)) (kp.2.2.1 12 (by decide)) (kp.2.2.1 13 (by decide))
  · obtain ⟨i, es, N, mz, Pf, f, ⟨t1, t2, t3⟩, ⟨b1, b2, b3, b4⟩, hp, hx, hf, hc⟩ := c2 z
    obtain ⟨t, x, p, ρ, re⟩ := tr9_end t3 t1 t2
    have ra : (RA9 (es.foldl uC c00)).1 = 0 ∧ σ2.2.1 97 a = u := by
      rcases rq with ⟨-, -, -, q, -⟩ | ⟨es2, t', x', q', ρ', re2, q1, q2, q3⟩
      · exact absurd q z
      · have d := (RE.det re re2 rfl rfl evt_nil evt_nil).2
        subst d
        by_cases y : w1 = 0
        · exact ⟨q1.symm.trans y, (q2 y).2.2⟩
        · exact absurd (q3 y).1 z
    have m := (rd.2 z).1
    have e10 : τ2.1 10 = (es.foldl uC c00).rn := by omega
    have g6 := g2.1
    exact CODES hs t3 re ra.1 (by omega) hp hf hx t2 m e10 (fun r x y => np r x (by omega)) (fun r x y => ⟨_, (g2.2 r x y).2.2.1⟩) hc
end RD6S
theorem KB6.first {T : CT} {σ : MS} {a : Nat} (hw : WT T σ) (oa : OB T a 11) (hi : INJT (fun _ => True) T σ) (hc : KCL a σ) (h9 : ∀ i, 0 ≤ i → i < 6 → σ.2.1 900 i < 0) (h110 : σ.2.1 110 a < 0) : ∃ C E M, KB6 (fun b => FIN T b ∧ True) T σ a C E M := by
  obtain ⟨C, E, M, k⟩ := KEM.first hw oa hi hc
  have o102 := (ad_ex (Q := fun x => (T x).1 = 40) (wf_102 hw oa)).2
  have o103 := (ad_ex (Q := fun x => (T x).1 = 37) (wf_103 hw oa)).2
  refine ⟨C, E, M, k, ⟨k.1.1, fun i t i0 i6 e => ?_, ⟨⟨by omega, by omega⟩, trivial⟩, fun p hp => ?_⟩, ⟨⟨by omega, by omega⟩, trivial⟩⟩
  · have z := h9 i i0 i6
    omega
  · omega
theorem cda_first {σ τ : MS} {C : Int → Nat} (h : τ.1 10 = 0) : CDA σ τ C ∧ CDB τ := ⟨fun r x y => absurd y (by omega), fun r x y => absurd y (by omega)⟩
end
section
def EZ (V : Int → It) (n : Int) : Prop := ∀ k, 0 ≤ k → k < n → V k 0 = 14 → ∃ j, lnA V k j
theorem lnA.cg {V W : Int → It} {k j : Int} (h : lnA V k j) (e : ∀ i, 0 ≤ i → i < k → W i 0 = V i 0) : lnA W k j := by
  obtain ⟨h0, h1, h2, h3⟩ := h
  exact ⟨h0, h1, by rw [e j h0 h1]; exact h2, fun i a b => by rw [e i (by omega) b]; exact h3 i a b⟩
theorem EZ.cg {V W : Int → It} {n : Int} (h : EZ V n) (e : ∀ i, 0 ≤ i → i < n → W i 0 = V i 0) : EZ W n := fun k a b c => by
  rw [e k a b] at c
  obtain ⟨j, q⟩ := h k a b c
  exact ⟨j, q.cg (fun i x y => e i x (by omega))⟩
theorem EZ.add {O : Int → It} {m : Int} {x : It} (h : EZ O m) (hx : x 0 = 14 → ∃ j, lnA O m j) : EZ (uZ O m x) (m + 1) := fun k a b e => by
  by_cases z : k = m
  · subst z
    rw [uZ_eq] at e
    obtain ⟨j, q⟩ := hx e
    exact ⟨j, q.cg (fun i c d => by rw [uZ_ne (by omega)])⟩
  · rw [uZ_ne z] at e
    obtain ⟨j, q⟩ := h k a (by omega) e
    exact ⟨j, q.cg (fun i c d => by rw [uZ_ne (by omega)])⟩
theorem ln_line {O : Int → It} {m : Int} {x : It} (m0 : 0 ≤ m) (hx : x 0 = 11) : ∃ j, lnA (uZ O m x) (m + 1) j := ⟨m, m0, by omega, by rw [uZ_eq]; exact hx, fun i a b => by omega⟩
theorem ln_pure {O : Int → It} {m : Int} {x : It} (hx : x 0 ≤ 5) (h : ∃ j, lnA O m j) : ∃ j, lnA (uZ O m x) (m + 1) j := by
  obtain ⟨j, h0, h1, h2, h3⟩ := h
  refine ⟨j, h0, by omega, by rw [uZ_ne (by omega)]; exact h2, fun i a b => ?_⟩
  by_cases z : i = m
  · rw [z, uZ_eq]; exact hx
  · rw [uZ_ne z]; exact h3 i a (by omega)
theorem ln_back {V : Int → It} {n : Int} (h : ∃ j, lnA V (n + 1) j) : V n 0 = 11 ∨ (V n 0 ≤ 5 ∧ ∃ j, lnA V n j) := by
  obtain ⟨j, h0, h1, h2, h3⟩ := h
  by_cases z : j = n
  · rw [z] at h2; exact Or.inl h2
  · exact Or.inr ⟨h3 n (by omega) (by omega), j, h0, by omega, h2, fun i a b => h3 i a (by omega)⟩
def fzI (V : Int → It) (n m : Int) (O : Int → It) : Prop := 0 ≤ m ∧ EZ O m ∧ ((∃ j, lnA V n j) → ∃ j, lnA O m j)
theorem fzI.add {V O : Int → It} {n m N : Int} {x : It} (h : fzI V n m O) (u : EZ V N) (n0 : 0 ≤ n) (n1 : n < N) (k1 : x 0 = 14 → V n 0 = 14) (k2 : V n 0 = 11 → x 0 = 11) (k3 : V n 0 ≤ 5 → x 0 ≤ 5) : fzI V (n + 1) (m + 1) (uZ O m x) := by
  obtain ⟨h0, h1, h2⟩ := h
  refine ⟨by omega, h1.add (fun e => h2 (u n n0 n1 (k1 e))), fun q => ?_⟩
  rcases ln_back q with q | ⟨q, z⟩
  · exact ln_line h0 (k2 q)
  · exact ln_pure (k3 q) (h2 z)
theorem fzI.no {V O : Int → It} {n m : Int} (h : fzI V n m O) (k1 : V n 0 ≠ 11) (k2 : ¬ V n 0 ≤ 5) : fzI V (n + 1) m O := by
  obtain ⟨h0, h1, h2⟩ := h
  refine ⟨h0, h1, fun q => ?_⟩
  rcases ln_back q with q | ⟨q, z⟩
  · exact absurd q k1
  · exact absurd q k2
theorem fo_z {K : KN} {i : It} (h : i 0 ≤ 10) : foZ (foA (foO K i 4)) 0 ≤ 10 ∧ (i 0 ≤ 5 → foZ (foA (foO K i 4)) 0 ≤ 5) ∧ (zer1 (foA (foO K i 4)) → i 0 = 9) := by
  have e0 : foO K i 4 0 = i 0 := if_neg (by omega)
  have e1 : foA (foO K i 4) 0 = i 0 ∨ (foA (foO K i 4) 0 = 0 ∧ i 0 ≤ 5) := by
    unfold foA
    by_cases a : five2 (foO K i 4)
    · rw [dI_y a]
      refine Or.inr ⟨?_, ?_⟩
      · show uZ (uZ (uZ (uZ (uZ (foO K i 4) 0 0) 3 _) 4 _) 5 0) 6 0 0 = 0
        rw [uZ_ne (by decide), uZ_ne (by decide), uZ_ne (by decide), uZ_ne (by decide), uZ_eq]
      · have := a.2.1; omega
    · rw [dI_n a]; exact Or.inl e0
  have e2 : foZ (foA (foO K i 4)) 0 = foA (foO K i 4) 0 ∨ (foZ (foA (foO K i 4)) 0 = 8 ∧ foA (foO K i 4) 0 = 9) := by
    unfold foZ
    by_cases a : zer1 (foA (foO K i 4))
    · rw [dI_y a, uZ_ne (by decide), uZ_ne (by decide), uZ_eq]
      exact Or.inr ⟨rfl, a.1⟩
    · rw [dI_n a]; exact Or.inl rfl
  refine ⟨by omega, fun q => by omega, fun q => ?_⟩
  have := q.1
  omega
theorem fo_b0 {K : KN} {i : It} (h : i 0 = 12) : foB K i 0 = 12 := by
  unfold foB
  by_cases a : i 11 = 2 ∧ (K (i 4)).1 = 1
  · rw [dI_y a, uZ_ne (by decide), uZ_ne (by decide), uZ_ne (by decide), h]
  · rw [dI_n a, h]
theorem EZ.fold {V : Int → It} {N : Int} (u : EZ V N) {n : Nat} (hn : (n : Int) ≤ N) : fzI V n (foS V n).2.1 (foS V n).2.2.2 := by
  induction n with
  | zero => exact ⟨Int.le_refl _, fun k a b => absurd b (by show ¬ k < 0; omega), fun ⟨j, q⟩ => by have := q.1; have := q.2.1; omega⟩
  | succ n ih =>
    have h := ih (by omega)
    show fzI V ((n + 1 : Nat) : Int) (foT (foS V n) (V n)).2.1 (foT (foS V n) (V n)).2.2.2
    rw [show ((n + 1 : Nat) : Int) = (n : Int) + 1 by omega]
    unfold foT
    by_cases a : V n 0 = 13
    · rw [if_pos a]
      exact h.add u (by omega) (by omega) (fun e => e) (fun e => e) (fun e => e)
    · rw [if_neg a]
      by_cases b : V n 0 = 12
      · rw [if_pos b]
        have q := fo_b0 (K := (foS V n).1) b
        exact h.add u (by omega) (by omega) (fun e => by omega) (fun e => by omega) (fun e => by omega)
      · rw [if_neg b]
        by_cases c : V n 0 ≤ 10
        · rw [if_pos c]
          have q := fo_z (K := (foS V n).1) c
          unfold foX
          by_cases z : zer1 (foA (foO (foS V n).1 (V n) 4)) ∧ foA (foO (foS V n).1 (V n) 4) 4 ≠ 0
          · rw [dI_y z, dI_y z]
            have z9 := q.2.2 z.1
            exact h.no (by omega) (by omega)
          · rw [dI_n z, dI_n z]
            exact h.add u (by omega) (by omega) (fun e => by omega) (fun e => by omega) q.2.1
        · rw [if_neg c]
          exact h.add u (by omega) (by omega) (fun e => e) (fun e => e) (fun e => e)
theorem RCG.back {V : Int → It} {n k : Int} (h : RCG V n 0 (fun _ => False) (k + 1)) (k0 : 0 ≤ k) (h13 : V (k + 1) 0 ≠ 13) : RCG V n 0 (fun _ => False) k := by
  have q := h (fun i => RCG V n 0 (fun _ => False) i ∧ (i = k + 1 → RCG V n 0 (fun _ => False) k)) ⟨RCG.z, fun e => by omega⟩ (fun i t a b c d e => ⟨c.1.s a b d e, fun z => by
    rcases e with ⟨_, e⟩ | ⟨_, e⟩
    · have w : i = k := by omega
      rw [← w]; exact c.1
    · rw [z] at e; exact absurd e.2.2.1 h13⟩)
  exact q.2 rfl
def dzI (V : Int → It) (N n m : Int) (O : Int → It) : Prop := 0 ≤ m ∧ EZ O m ∧ (RCG V N 0 (fun _ => False) n → V n 0 ≠ 13 → (∃ j, lnA V n j) → ∃ j, lnA O m j)
theorem EZ.unr {V : Int → It} {N : Int} (u : EZ V N) {n : Nat} (hn : (n : Int) ≤ N) : dzI V N n (dr1 V N n).1 (dr1 V N n).2.2 := by
  induction n with
  | zero => exact ⟨Int.le_refl _, fun k a b => absurd b (by show ¬ k < 0; omega), fun _ _ ⟨j, q⟩ => by have := q.1; have := q.2.1; omega⟩
  | succ n ih =>
    obtain ⟨h0, h1, h2⟩ := ih (by omega)
    show dzI V N ((n + 1 : Nat) : Int) (dI (RCG V N 0 (fun _ => False) n) ((dr1 V N n).1 + 1, (dr1 V N n).2.1, uZ (dr1 V N n).2.2 (dr1 V N n).1 (V n)) ((dr1 V N n).1, (dr1 V N n).2.1 + (if V n 0 ≤ 10 then 1 else 0), (dr1 V N n).2.2)).1 (dI (RCG V N 0 (fun _ => False) n) ((dr1 V N n).1 + 1, (dr1 V N n).2.1, uZ (dr1 V N n).2.2 (dr1 V N n).1 (V n)) ((dr1 V N n).1, (dr1 V N n).2.1 + (if V n 0 ≤ 10 then 1 else 0), (dr1 V N n).2.2)).2.2
    rw [show ((n + 1 : Nat) : Int) = (n : Int) + 1 by omega]
    by_cases r : RCG V N 0 (fun _ => False) n
    · rw [dI_y r]
      refine ⟨by show 0 ≤ (dr1 V N n).1 + 1; omega, h1.add (fun e => h2 r (by omega) (u n (by omega) (by omega) e)), fun x y z => ?_⟩
      rcases ln_back z with q | ⟨q, z⟩
      · exact ln_line h0 q
      · exact ln_pure q (h2 r (by omega) z)
    · rw [dI_n r]
      exact ⟨h0, h1, fun x y _ => absurd (x.back (by omega) y) r⟩
theorem EZ.out {V : Int → It} {n k : Int} (h : EZ V n) (k0 : 0 ≤ k) (h5 : V k 0 ≤ 5) : EZ (toV (rbV V n k) k) (n - 1) := by
  have e0 : ∀ i, toV (rbV V n k) k i 0 = V (if i < k then i else i + 1) 0 := fun i => by
    unfold toV
    by_cases x : i < k
    · rw [if_pos x, if_pos x]; exact rb_13.1
    · rw [if_neg x, if_neg x]; exact rb_13.1
  intro e a b c
  rw [e0] at c
  by_cases x : e < k
  · rw [if_pos x] at c
    obtain ⟨j, q⟩ := h e a (by omega) c
    refine ⟨j, q.cg (fun i y z => by rw [e0, if_pos (by omega)])⟩
  · rw [if_neg x] at c
    obtain ⟨j, q0, q1, q2, q3⟩ := h (e + 1) (by omega) (by omega) c
    have jk : j ≠ k := fun z => by rw [z] at q2; omega
    by_cases y : j < k
    · refine ⟨j, q0, by omega, by rw [e0, if_pos y]; exact q2, fun i s t => ?_⟩
      rw [e0]
      by_cases z : i < k
      · rw [if_pos z]; exact q3 i s (by omega)
      · rw [if_neg z]; exact q3 (i + 1) (by omega) (by omega)
    · refine ⟨j - 1, by omega, by omega, by rw [e0, if_neg (by omega), show j - 1 + 1 = j by omega]; exact q2, fun i s t => ?_⟩
      rw [e0, if_neg (by omega)]
      exact q3 (i + 1) (by omega) (by omega)
theorem EZ.drt {t : Nat} {V V' : Int → It} {n n' : Int} (u : EZ V n) (h : DRT t V n V' n') : EZ V' n' := by
  induction t generalizing V' n' with
  | zero => rw [h.1, h.2]; exact u
  | succ t ih =>
    obtain ⟨V1, n1, k, h1, h2, h3, h4⟩ := h
    rw [h3, h4]
    exact (ih h1).out h2.1 h2.2.2.1.1
theorem EZ.drop {V V' : Int → It} {n n' w : Int} (u : EZ V n) (n0 : 0 ≤ n) (h : DRX V n V' n' w) : EZ V' n' := by
  obtain ⟨t, h1, _⟩ := h
  exact (u.unr (n := n.toNat) (by omega)).2.1.drt h1
theorem EZ.set {V : Int → It} {n k : Int} {x : It} (h : EZ V n) (h5 : V k 0 ≤ 5) (hx : x 0 ≤ 5) : EZ (uZ V k x) n := fun e a b c => by
  have z : e ≠ k := fun z => by rw [z, uZ_eq] at c; omega
  rw [uZ_ne z] at c
  obtain ⟨j, q0, q1, q2, q3⟩ := h e a b c
  have jk : j ≠ k := fun z => by rw [z] at q2; omega
  refine ⟨j, q0, q1, by rw [uZ_ne jk]; exact q2, fun i s t => ?_⟩
  by_cases y : i = k
  · rw [y, uZ_eq]; exact hx
  · rw [uZ_ne y]; exact q3 i s t
theorem EZ.als {n : Nat} {N : Int} {V V' : Int → It} {w : Int} (u : EZ V N) (h : ALS n V V' w) : EZ V' N := by
  induction n generalizing V' w with
  | zero => rw [h.1]; exact u
  | succ n ih =>
    obtain ⟨V1, w1, d, h1, h2, h3⟩ := h
    rcases h2 with ⟨j, a, b, c, e⟩ | ⟨a, b, c⟩
    · rw [c]
      refine (ih h1).set a.2 ?_
      show uZ (uZ (uZ (uZ (uZ (V1 n) 0 0) 3 _) 4 _) 5 0) 6 0 0 ≤ 5
      rw [uZ_ne (by decide), uZ_ne (by decide), uZ_ne (by decide), uZ_ne (by decide), uZ_eq]
      decide
    · rw [b]; exact ih h1
theorem EZ.li {V : Int → It} {n k p : Int} (h : EZ V n) (h5 : V k 0 ≤ 5) (hp : 0 ≤ p ∧ p ≤ k ∧ k < n) : EZ (liV V k p) n := by
  have lp : ∀ i, i = p → liV V k p i 0 = V k 0 := fun i z => by unfold liV; rw [if_pos z]
  have lm : ∀ i, p < i → i ≤ k → liV V k p i 0 = V (i - 1) 0 := fun i y z => by unfold liV; rw [if_neg (by omega), if_pos ⟨y, z⟩]
  have lo : ∀ i, (i < p ∨ k < i) → liV V k p i 0 = V i 0 := fun i y => by unfold liV; rw [if_neg (by omega), if_neg (by omega)]
  have chain : ∀ e e' j j', lnA V e j → (e' = e ∧ (e < p ∨ k < e) ∨ e' = e + 1 ∧ p ≤ e ∧ e < k) → (j' = j ∧ (j < p ∨ k < j) ∨ j' = j + 1 ∧ p ≤ j ∧ j < k) → lnA (liV V k p) e' j' := fun e e' j j' q he hj => by
    obtain ⟨q0, q1, q2, q3⟩ := q
    refine ⟨by omega, by omega, ?_, fun i s t => ?_⟩
    · rcases hj with ⟨z1, z2⟩ | ⟨z1, z2⟩
      · rw [z1, lo j z2]; exact q2
      · rw [z1, lm (j + 1) (by omega) (by omega), show j + 1 - 1 = j by omega]; exact q2
    · by_cases x : i = p
      · rw [lp i x]; exact h5
      · by_cases y : p < i ∧ i ≤ k
        · rw [lm i y.1 y.2]; exact q3 (i - 1) (by omega) (by omega)
        · rw [lo i (by omega)]; exact q3 i (by omega) (by omega)
  intro e a b c
  by_cases x : e = p
  · rw [lp e x] at c; omega
  · by_cases y : p < e ∧ e ≤ k
    · rw [lm e y.1 y.2] at c
      obtain ⟨j, q⟩ := h (e - 1) (by omega) (by omega) c
      have jk : j ≠ k := fun z => by have := q.2.1; omega
      by_cases w : j < p ∨ k < j
      · exact ⟨j, chain (e - 1) e j j q (Or.inr (by omega)) (Or.inl ⟨rfl, w⟩)⟩
      · exact ⟨j + 1, chain (e - 1) e j (j + 1) q (Or.inr (by omega)) (Or.inr (by omega))⟩
    · rw [lo e (by omega)] at c
      obtain ⟨j, q⟩ := h e a b c
      have jk : j ≠ k := fun z => by have z2 := q.2.2.1; rw [z] at z2; omega
      by_cases w : j < p ∨ k < j
      · exact ⟨j, chain e e j j q (Or.inl (by omega)) (Or.inl ⟨rfl, w⟩)⟩
      · exact ⟨j + 1, chain e e j (j + 1) q (Or.inl (by omega)) (Or.inr (by omega))⟩
theorem EZ.mvt {H : Int → Prop} {n q p a : Int} {t : Nat} {V A : Int → It} (u : EZ V n) (h : MVT H n q t V p A a) (h0 : 0 ≤ p) (h1 : q < n) : EZ A n ∧ a = p + t := by
  induction t generalizing A a with
  | zero => rw [h.1, h.2]; exact ⟨u, by omega⟩
  | succ t ih =>
    obtain ⟨V1, p1, k, g1, g2, g3, g4⟩ := h
    obtain ⟨i1, i2⟩ := ih g1
    have z1 := g2.1
    have z2 := g2.2.1
    rw [g3, g4]
    exact ⟨i1.li g2.2.2.1.1 (by omega), by omega⟩
theorem EZ.mva {H : Int → Prop} {n w : Int} {t : Nat} {V V' : Int → It} (u : EZ V n) (h : MVA H n t V V' w) (ht : (t : Int) ≤ n) : EZ V' n := by
  induction t generalizing V' w with
  | zero => rw [h.1]; exact u
  | succ t ih =>
    obtain ⟨V1, w1, d, h1, h2, h3⟩ := h
    have i := ih h1 (by omega)
    rcases h2 with ⟨a, b, c⟩ | ⟨a, q, b, c⟩
    · rw [b]; exact i
    · rcases c with ⟨_, c, _⟩ | ⟨_, s, p', c, _⟩
      · rw [c]; exact i
      · exact (i.mvt c (by omega) b.2.1).1
theorem EZ.sh {V : Int → It} {n : Int} {nb : Int → Int} {bg : Int → Prop} (u : EZ V n) : EZ (shV V n nb bg) n := by
  refine u.cg (fun i a b => ?_)
  have ek : ubV V n nb bg i 0 = V i 0 := by
    unfold ubV
    by_cases z : (0 ≤ i ∧ i < n) ∧ V i 0 = 12 ∧ RCG V n 0 (fun _ => False) i ∧ ∃ u, rdI (V i) u ∧ lsV V n nb bg i u
    · rw [dI_y z]
      unfold goI
      rw [uZ_ne (by decide), uZ_ne (by decide), uZ_ne (by decide), uZ_ne (by decide), uZ_ne (by decide)]
    · rw [dI_n z]
  unfold shV
  rw [if_pos ⟨a, b⟩]
  show (if (0 : Int) = 1 ∧ _ then _ else if ((0 : Int) = 4 ∨ (0 : Int) = 6 ∨ (0 : Int) = 8 ∨ (0 : Int) = 10) ∧ _ then _ else ubV V n nb bg i 0) = V i 0
  rw [if_neg (fun z => absurd z.1 (by decide)), if_neg (fun z => absurd z.1 (by decide)), ek]
def EZ1 (O : Int → It) (m : Int) : Prop := ∀ k, 0 ≤ k → k < m → O k 0 = 14 → k = 0 ∨ ∃ j, lnA O k j
def bzI (V : Int → It) (k : Int) (s : BB) : Prop := 1 ≤ s.1 ∧ EZ1 s.2 s.1 ∧ ((∃ j, lnA V k j) → ∃ j, lnA s.2 s.1 j)
theorem EZ1.add {O : Int → It} {m : Int} {x : It} (h : EZ1 O m) (hx : x 0 = 14 → ∃ j, lnA O m j) : EZ1 (uZ O m x) (m + 1) := fun k a b e => by
  by_cases z : k = m
  · subst z
    rw [uZ_eq] at e
    obtain ⟨j, q⟩ := hx e
    exact Or.inr ⟨j, q.cg (fun i c d => by rw [uZ_ne (by omega)])⟩
  · rw [uZ_ne z] at e
    rcases h k a (by omega) e with q | ⟨j, q⟩
    · exact Or.inl q
    · exact Or.inr ⟨j, q.cg (fun i c d => by rw [uZ_ne (by omega)])⟩
theorem ln_no {V : Int → It} : ¬ ∃ j, lnA V 0 j := fun ⟨j, q⟩ => by have := q.1; have := q.2.1; omega
theorem bzI.add0 {V : Int → It} {s : BB} {x : It} (h : bzI V 0 s) (hx : x 0 ≠ 14) : bzI V 0 (bA s x) := ⟨by have := h.1; show 1 ≤ s.1 + 1; omega, h.2.1.add (fun e => absurd e hx), fun q => absurd q ln_no⟩
theorem bz_1 {V : Int → It} {f base P : Int} {na : Int → Int} {x : It} {s : BB} {n : Nat} (h : bzI V 0 s) : bzI V 0 (mb1 f base P na x s n) := by
  induction n with
  | zero => exact h
  | succ n ih =>
    show bzI V 0 (nmS f base P na x n (mb1 f base P na x s n))
    unfold nmS
    by_cases a : (n : Int) < P
    · rw [if_pos a]
      exact (ih.add0 (by rw [mk_0]; decide)).add0 (by rw [mk_0]; decide)
    · rw [if_neg a]
      exact ih.add0 (by rw [mk_0]; decide)
theorem bz_2 {V : Int → It} {base : Int} {lv : Int → Prop} {s : BB} {n : Nat} (h : bzI V 0 s) : bzI V 0 (mb2 base lv s n) := by
  induction n with
  | zero => exact h
  | succ n ih =>
    show bzI V 0 (dI (lv n) (bA (mb2 base lv s n) _) (mb2 base lv s n))
    by_cases a : lv n
    · rw [dI_y a]
      exact ih.add0 (by rw [mk_0]; decide)
    · rw [dI_n a]; exact ih
theorem bz_3 {V : Int → It} {f base lb to out n : Int} {s : BB} {k : Nat} (h : bzI V 0 s) (u : EZ V n) (hk : (k : Int) ≤ n) : bzI V k (mb3 f base lb to out V s k) := by
  induction k with
  | zero => exact h
  | succ k ih =>
    obtain ⟨i0, i1, i2⟩ := ih (by omega)
    rw [show ((k + 1 : Nat) : Int) = (k : Int) + 1 by omega]
    show bzI V ((k : Int) + 1) (if V k 0 = 7 then bA (bA (mb3 f base lb to out V s k) (uZ (uZ (shO base (V k)) 0 0) 1 to)) (mkI 8 out 0 0 0 0) else bA (mb3 f base lb to out V s k) (mlI f base lb (V k)))
    by_cases a : V k 0 = 7
    · rw [if_pos a]
      refine ⟨by show 1 ≤ (mb3 f base lb to out V s k).1 + 1 + 1; omega, (i1.add (fun e => absurd e (by rw [uZ_ne (by decide), uZ_eq]; decide))).add (fun e => absurd e (by rw [mk_0]; decide)), fun q => ?_⟩
      rcases ln_back q with q | ⟨q, -⟩
      · omega
      · omega
    · rw [if_neg a]
      refine ⟨by show 1 ≤ (mb3 f base lb to out V s k).1 + 1; omega, i1.add (fun e => i2 (u k (by omega) (by omega) (by rw [ml_0] at e; exact e))), fun q => ?_⟩
      rcases ln_back q with q | ⟨q, z⟩
      · exact ln_line (by omega) (by rw [ml_0]; exact q)
      · exact ln_pure (by rw [ml_0]; exact q) (i2 z)
theorem bz_m {f base lb out to P N nq : Int} {na : Int → Int} {x : It} {lv : Int → Prop} {V : Int → It} (u : EZ V nq) (hn : 0 ≤ nq) : 1 ≤ (mkB f base lb out to P N nq na x lv V).1 ∧ EZ1 (mkB f base lb out to P N nq na x lv V).2 (mkB f base lb out to P N nq na x lv V).1 := by
  unfold mkB
  have b0 : bzI V 0 (bA (0, fun _ => zI) (mkI 14 f 0 0 0 0)) := ⟨by show (1 : Int) ≤ 0 + 1; decide, fun k a b e => Or.inl (by have b : k < 0 + 1 := b; omega), fun q => absurd q ln_no⟩
  have b3 := bz_3 (f := f) (base := base) (lb := lb) (to := to) (out := out) (k := nq.toNat) (bz_2 (base := base) (lv := lv) (n := 192) (bz_1 (f := f) (base := base) (P := P) (na := na) (x := x) (n := N.toNat) b0)) u (by omega)
  obtain ⟨c0, c1, c2⟩ := b3
  exact ⟨by show 1 ≤ (mb3 f base lb to out V (mb2 base lv (mb1 f base P na x (bA (0, fun _ => zI) (mkI 14 f 0 0 0 0)) N.toNat) 192) nq.toNat).1 + 1 + 1; omega, (c1.add (fun e => absurd e (by rw [mk_0]; decide))).add (fun e => absurd e (by rw [mk_0]; decide))⟩
theorem EZ.sp {V B : Int → It} {n k a j0 : Int} (u : EZ V n) (h10 : V k 0 = 10) (hl : lnA V k j0) (ub : EZ1 B a) (hk : 0 ≤ k ∧ k < n) (a0 : 1 ≤ a) : EZ (spV V k a B) (n + a - 1) := by
  have s1 : ∀ i, i < k → spV V k a B i 0 = V i 0 := fun i z => by unfold spV; rw [if_pos z]
  have s2 : ∀ i, k ≤ i → i < k + a → spV V k a B i 0 = B (i - k) 0 := fun i y z => by unfold spV; rw [if_neg (by omega), if_pos z]
  have s3 : ∀ i, k + a ≤ i → spV V k a B i 0 = V (i - a + 1) 0 := fun i z => by unfold spV; rw [if_neg (by omega), if_neg (by omega)]
  intro e x y c
  by_cases p : e < k
  · rw [s1 e p] at c
    obtain ⟨j, q⟩ := u e x (by omega) c
    exact ⟨j, q.cg (fun i _ z => s1 i (by omega))⟩
  · by_cases r : e < k + a
    · rw [s2 e (by omega) r] at c
      rcases ub (e - k) (by omega) (by omega) c with q | ⟨j, q0, q1, q2, q3⟩
      · rw [show e = k by omega]
        exact ⟨j0, hl.cg (fun i _ z => s1 i z)⟩
      · refine ⟨k + j, by omega, by omega, by rw [s2 _ (by omega) (by omega), show k + j - k = j by omega]; exact q2, fun i s t => ?_⟩
        rw [s2 i (by omega) (by omega)]
        exact q3 (i - k) (by omega) (by omega)
    · rw [s3 e (by omega)] at c
      obtain ⟨j, q0, q1, q2, q3⟩ := u (e - a + 1) (by omega) (by omega) c
      have jk : k < j := by
        by_cases w : k < j
        · exact w
        · by_cases w2 : j = k
          · rw [w2] at q2; omega
          · have := q3 k (by omega) (by omega); omega
      refine ⟨j + a - 1, by omega, by omega, by rw [s3 _ (by omega), show j + a - 1 - a + 1 = j by omega]; exact q2, fun i s t => ?_⟩
      rw [s3 i (by omega)]
      exact q3 _ (by omega) (by omega)
theorem MLR.ez {r C : Int} {Gs : Int → RTS} {PM NM : Int → Int} {t : Nat} {H H' : RTS} {k k' w : Int} (h : MLR r Gs PM NM t H k H' k' w) (k0 : 0 ≤ k) (u : UNQ H.V H.n) (c : CLQ H.V H.n C) (hg : ∀ q, 0 ≤ q → q < C → 0 ≤ (Gs q).n ∧ UNQ (Gs q).V (Gs q).n ∧ LZ (Gs q).V (Gs q).n) (z : EZ H.V H.n) (hz : ∀ q, 0 ≤ q → q < C → EZ (Gs q).V (Gs q).n) : EZ H'.V H'.n := by
  induction t generalizing H' k' w with
  | zero => rw [h.1]; exact z
  | succ t ih =>
    obtain ⟨H1, k1, w1, d, h1, h2, h3, h4⟩ := h
    obtain ⟨i0, i1, i2⟩ := h1.un k0 u c hg
    have i3 := ih h1
    rcases h3 with ⟨base, lb, lq, j0, m, m1, m2, m3, m4, e1, e2, e3⟩ | ⟨m, e1, e2, e3⟩
    · have q := i2 k1 i0 h2 m.1
      have b := bz_m (f := H1.F) (base := base) (lb := lb) (out := lb + lq) (to := H1.V k1 1) (P := PM (H1.V k1 2)) (N := NM (H1.V k1 2)) (na := (Gs (H1.V k1 2)).na 0) (x := H1.V k1) (lv := lvS (Gs (H1.V k1 2)) (PM (H1.V k1 2))) (hz _ q.1 q.2) (hg _ q.1 q.2).1
      rw [e1]
      exact i3.sp m.1 m4 b.2 ⟨i0, h2⟩ b.1
    · rw [e1]; exact i3
theorem PSV.ez {w r C : Int} {Gs : Int → RTS} {PM NM : Int → Int} {H H' : RTS} {v : Int} (h : PSV w r Gs PM NM H H' v) (n0 : 0 ≤ H.n) (u : UNQ H.V H.n) (c : CLQ H.V H.n C) (hg : ∀ q, 0 ≤ q → q < C → 0 ≤ (Gs q).n ∧ UNQ (Gs q).V (Gs q).n ∧ LZ (Gs q).V (Gs q).n) (z : EZ H.V H.n) (hz : ∀ q, 0 ≤ q → q < C → EZ (Gs q).V (Gs q).n) : EZ H'.V H'.n := by
  rcases h with ⟨-, ⟨K, e⟩, -⟩ | ⟨-, h, -⟩ | ⟨-, h, e, -⟩ | ⟨-, h, e, -⟩ | ⟨-, t, h⟩ | ⟨-, nb, -, -, e, -⟩
  · have q := (z.fold (n := H.n.toNat) (by omega)).2.1
    rw [e] at q
    exact q
  · exact z.drop n0 h
  · rw [e]; exact z.mva h (by omega)
  · rw [e]; exact z.als h
  · exact h.ez (Int.le_refl 0) u c hg z hz
  · rw [e]; exact z.sh
def EZA (σ : MS) : Prop := ∀ q, 0 ≤ q → q < σ.1 10 → EZ (rV σ q) (σ.2.1 9 q)
theorem EZA.step {σ τ : MS} {w r v : Int} (h : PSQ σ τ w r v) (g : GDA σ) (e10 : τ.1 10 = σ.1 10) (u : UNA σ) (z : EZA σ) : EZA τ := fun q q0 q1 => by
  rw [e10] at q1
  have oth : rS τ q = rS σ q → EZ (rV τ q) (τ.2.1 9 q) := fun e => by
    rw [show τ.2.1 9 q = σ.2.1 9 q from congrArg RTS.n e, show rV τ q = rV σ q from congrArg RTS.V e]
    exact z q q0 q1
  rcases h with ⟨_, _, h⟩ | ⟨hw, h1, h2⟩
  · exact oth (h q)
  · by_cases e : q = r
    · subst e
      have gq := g.2 q q0 q1
      exact h1.ez (C := σ.1 10) (by show 0 ≤ σ.2.1 9 q; have := gq.1; omega) (u q q0 q1) (cl_rs gq) (fun j a b => ⟨by show 0 ≤ σ.2.1 9 j; have := (g.2 j a b).1; omega, u j a b, lz_rs (g.2 j a b)⟩) (z q q0 q1) (fun j a b => z j a b)
    · exact oth (h2 q q0 q1 e)
theorem ez_one {σ : MS} {r : Int} (g : GDR σ r) (h1 : σ.2.1 14 r = 1) : EZ (rV σ r) (σ.2.1 9 r) := fun k a b c => by
  rw [rv_at a b] at c
  obtain ⟨fr, lf, q⟩ := g.2.2.2.2.2.1
  have c : iK σ r k = 14 := c
  have e := q.2.2.1 k a b (by omega) (by omega)
  have e2 := e.2.1 c
  have e3 := q.2.1 (k + 1) (by omega) e.1
  rw [h1] at e3
  omega
end
section
def wth (σ : MS) (c k v : Int) : Int := if k = 2 then σ.2.1 82 (192 * c + v) else v
def wA (σ : MS) (t x n : Int) : Int := wth σ t (σ.2.1 7 (4 * x + n)) (σ.2.1 8 (4 * x + n))
theorem wA_0 {σ : MS} {t x v : Int} (h : v = wth σ t (σ.2.1 7 (4 * x)) (σ.2.1 8 (4 * x))) : v = wA σ t x 0 := by
  unfold wA
  rw [Int.add_zero]
  exact h
def ZR (k : Nat) (a b : Int) (σ τ : MS) : Prop := ∀ j, τ.2.1 k j = if a ≤ j ∧ j < b then 0 else σ.2.1 k j
theorem ZR.z {k : Nat} {a b : Int} {σ : MS} (e : b = a) : ZR k a b σ σ := fun j => by rw [if_neg (by omega)]
theorem ZR.put {k : Nat} {a b b2 : Int} {σ τ : MS} (h : ZR k a b σ τ) (hb : a ≤ b) (e : b2 = b + 1) : ZR k a b2 σ (sA k b 0 τ) := fun j => by
  by_cases z : j = b
  · rw [z, show (sA k b 0 τ).2.1 k b = 0 from ra_eq, if_pos ⟨hb, by omega⟩]
  · rw [show (sA k b 0 τ).2.1 k j = τ.2.1 k j from ra_ne z rfl, h j]
    by_cases y : a ≤ j ∧ j < b
    · rw [if_pos y, if_pos ⟨y.1, by omega⟩]
    · rw [if_neg y, if_neg (by omega)]
theorem ZR.l {k : Nat} {a b : Int} {σ σ1 τ : MS} (h : ZR k a b σ1 τ) (e : σ1.2.1 k = σ.2.1 k) : ZR k a b σ τ := fun j => by rw [h j, e]
theorem ZR.r {k : Nat} {a b : Int} {σ τ τ2 : MS} (h : ZR k a b σ τ) (e : τ2.2.1 k = τ.2.1 k) : ZR k a b σ τ2 := fun j => by rw [e]; exact h j
def pwR (H W : Int → Int) : Nat → (Int → Int) → Int → Int
  | 0, R => R
  | n + 1, R => uZ (pwR H W n R) (H n) (W n)
theorem pwR_c {H H2 W W2 R R2 : Int → Int} {n : Nat} (h : ∀ i : Int, 0 ≤ i → i < (n : Int) → H i = H2 i ∧ W i = W2 i) {g : Int} (hr : R g = R2 g) : pwR H W n R g = pwR H2 W2 n R2 g := by
  induction n with
  | zero => exact hr
  | succ n ih =>
    have q := h n (by omega) (by omega)
    show uZ (pwR H W n R) (H n) (W n) g = uZ (pwR H2 W2 n R2) (H2 n) (W2 n) g
    unfold uZ
    rw [q.1, q.2, ih (fun i a b => h i a (by omega))]
def hmP (σ : MS) (m q n : Int) : Int := if m = 2 then n else σ.2.1 18 (144 * q + n)
theorem hmp_of {σ : MS} {m q n v : Int} (h1 : m = 2 → v = n) (h2 : m ≠ 2 → v = σ.2.1 18 (144 * q + n)) : v = hmP σ m q n := by
  unfold hmP
  by_cases e : m = 2
  · rw [if_pos e]; exact h1 e
  · rw [if_neg e]; exact h2 e
theorem hmp_r {σ : MS} {m q n : Int} (hn : 0 ≤ n ∧ n < 192) (h : m ≠ 2 → 0 ≤ σ.2.1 18 (144 * q + n) ∧ σ.2.1 18 (144 * q + n) < 192) : 0 ≤ hmP σ m q n ∧ hmP σ m q n < 192 := by
  unfold hmP
  by_cases e : m = 2
  · rw [if_pos e]; exact hn
  · rw [if_neg e]; exact h e
def PWG (H W : Int → Int) (B : Int) (σ : MS) (n : Int) (τ : MS) : Prop := ∀ j, τ.2.1 82 j = if B ≤ j ∧ j < B + 192 then pwR H W n.toNat (fun g => σ.2.1 82 (B + g)) (j - B) else σ.2.1 82 j
theorem PWG.z {H W : Int → Int} {B : Int} {σ : MS} : PWG H W B σ 0 σ := fun j => by
  by_cases y : B ≤ j ∧ j < B + 192
  · rw [if_pos y]
    show σ.2.1 82 j = σ.2.1 82 (B + (j - B))
    rw [show B + (j - B) = j by omega]
  · rw [if_neg y]
theorem PWG.put {H W : Int → Int} {B n i w : Int} {σ τ : MS} (h : PWG H W B σ n τ) (n0 : 0 ≤ n) (hr : 0 ≤ H n ∧ H n < 192) (hi : i = B + H n) (hw : w = W n) : PWG H W B σ (n + 1) (sA 82 i w τ) := fun j => by
  have e : (n + 1).toNat = n.toNat + 1 := by omega
  have e2 : ((n.toNat : Nat) : Int) = n := by omega
  rw [e]
  have un : pwR H W (n.toNat + 1) (fun g => σ.2.1 82 (B + g)) = uZ (pwR H W n.toNat (fun g => σ.2.1 82 (B + g))) (H n) (W n) := by
    show uZ (pwR H W n.toNat (fun g => σ.2.1 82 (B + g))) (H ((n.toNat : Nat) : Int)) (W ((n.toNat : Nat) : Int)) = _
    rw [e2]
  rw [un]
  by_cases z : j = i
  · rw [z, show (sA 82 i w τ).2.1 82 i = w from ra_eq, if_pos (by omega), show i - B = H n by omega, uZ_eq]
    exact hw
  · rw [show (sA 82 i w τ).2.1 82 j = τ.2.1 82 j from ra_ne z rfl, h j]
    by_cases y : B ≤ j ∧ j < B + 192
    · rw [if_pos y, if_pos y, uZ_ne (by omega)]
    · rw [if_neg y, if_neg y]
theorem PWG.w {H W : Int → Int} {c n k v : Int} {σ τ : MS} (h : PWG H W (192 * c + 192) σ n τ) (hv : k = 2 → 0 ≤ v ∧ v < 192) : wth τ c k v = wth σ c k v := by
  unfold wth
  by_cases e : k = 2
  · have q := hv e
    rw [if_pos e, if_pos e, h (192 * c + v), if_neg (by omega)]
  · rw [if_neg e, if_neg e]
def ECX (σ : MS) (m q : Int) (τ : MS) : Prop := Fr [] [73, 78, 79, 80, 81, 82] [] σ τ ∧ τ.2.1 73 m = σ.2.1 73 m + 1 ∧ (τ.2.1 78 (9 * m + σ.2.1 73 m) = q ∧ τ.2.1 79 (9 * m + σ.2.1 73 m) = 0 ∧ τ.2.1 80 (9 * m + σ.2.1 73 m) = 0) ∧ (∀ j, j ≠ m → τ.2.1 73 j = σ.2.1 73 j) ∧ (∀ j, j ≠ 9 * m + σ.2.1 73 m → τ.2.1 78 j = σ.2.1 78 j ∧ τ.2.1 79 j = σ.2.1 79 j ∧ τ.2.1 80 j = σ.2.1 80 j) ∧ (ZR 81 (12 * (9 * m + σ.2.1 73 m)) (12 * (9 * m + σ.2.1 73 m) + 12) σ τ ∧ ZR 82 (192 * (9 * m + σ.2.1 73 m)) (192 * (9 * m + σ.2.1 73 m) + 192) σ τ)
def CLX7 (σ : MS) (m t x : Int) (σ2 : MS) : Prop := ∃ τ, ECX σ m (σ.2.1 5 x) τ ∧ Fr [] [82] [] τ σ2 ∧ PWG (hmP τ m (σ.2.1 5 x)) (wA τ t x) (192 * t + 192) τ (σ.2.1 11 (σ.2.1 5 x)) σ2
def RTX (σ : MS) (m c w v : Int) (σ2 : MS) : Prop :=
  (v = 2 ∧ σ.2.1 73 m = 1 ∧ σ2 = sA 75 m w (sA 73 m (σ.2.1 73 m - 1) σ)) ∨
  (v = 0 ∧ 2 ≤ σ.2.1 73 m ∧ σ2 = sA 79 (c - 1) (σ.2.1 79 (c - 1) + 1) (sA 82 (192 * (c - 1) + σ.2.1 4 (220 * (bkm m + σ.2.1 78 (c - 1)) + σ.2.1 79 (c - 1))) w (sA 73 m (σ.2.1 73 m - 1) σ)))
def JTO (σ : MS) (m t x j : Int) : Prop := (0 ≤ j ∧ j < σ.2.1 9 (bkm m + σ.2.1 78 t)) ∧ σ.2.1 3 (220 * (bkm m + σ.2.1 78 t) + j) = 13 ∧ σ.2.1 4 (220 * (bkm m + σ.2.1 78 t) + j) = σ.2.1 4 x
def STX (σ : MS) (m t x v : Int) (σ2 : MS) : Prop :=
  (v = 3 ∧ (σ.2.1 3 x = 10 ∨ σ.2.1 3 x = 14) ∧ dpt σ m = 9 ∧ σ2 = σ) ∨
  (σ.2.1 3 x = 7 ∧ RTX σ m t (wA σ t x 0) v σ2) ∨
  (σ.2.1 3 x = 0 ∧ v = 0 ∧ σ2 = sA 79 t (σ.2.1 79 t + 1) (sA 82 (192 * t + σ.2.1 4 x) (wA σ t x 0) σ)) ∨
  ((1 ≤ σ.2.1 3 x ∧ σ.2.1 3 x ≤ 5) ∧ v = 0 ∧ σ2 = sA 79 t (σ.2.1 79 t + 1) (sA 82 (192 * t + σ.2.1 4 x) (wkd (σ.2.1 3 x) (wA σ t x 0) (wA σ t x 1)) σ)) ∨
  (σ.2.1 3 x = 6 ∧ v = 0 ∧ σ2 = sA 79 t (σ.2.1 79 t + 1) (sA 76 m (σ.2.1 76 m + 1) (if σ.2.1 76 m < 200 then sA 77 (200 * m + σ.2.1 76 m) (wA σ t x 0) σ else σ))) ∨
  ((σ.2.1 3 x = 8 ∨ (σ.2.1 3 x = 9 ∧ wA σ t x 0 = 0)) ∧ v = 0 ∧ ∃ j, JTO σ m t x j ∧ σ2 = sA 79 t j σ) ∨
  (((σ.2.1 3 x = 9 ∧ wA σ t x 0 ≠ 0) ∨ σ.2.1 3 x = 12 ∨ σ.2.1 3 x = 13) ∧ v = 0 ∧ σ2 = sA 79 t (σ.2.1 79 t + 1) σ) ∨
  (σ.2.1 3 x = 11 ∧ v = 1 ∧ σ2 = sA 79 t (σ.2.1 79 t + 1) (sA 81 (12 * t + σ.2.1 5 x) (σ.2.1 4 x) σ)) ∨
  (σ.2.1 3 x = 14 ∧ v = 0 ∧ dpt σ m ≠ 9 ∧ σ2 = sA 79 t (σ.2.1 79 t + 1) (sA 81 (12 * t + σ.2.1 4 x) 0 (sA 80 t (σ.2.1 4 x) σ))) ∨
  (σ.2.1 3 x = 15 ∧ v = 0 ∧ σ2 = sA 79 t (σ.2.1 79 t + 1) (sA 80 t (σ.2.1 16 (12 * σ.2.1 78 t + σ.2.1 4 x)) σ)) ∨
  (σ.2.1 3 x = 10 ∧ v = 0 ∧ dpt σ m ≠ 9 ∧ CLX7 σ m t x σ2)
def STQ (σ : MS) (m v : Int) (σ2 : MS) : Prop := STX σ m (9 * m + σ.2.1 73 m - 1) (220 * (bkm m + σ.2.1 78 (9 * m + σ.2.1 73 m - 1)) + σ.2.1 79 (9 * m + σ.2.1 73 m - 1)) v σ2
def gST (w q v d e : Int) : Prop := v = 1 ∧ (w = 0 ∨ (w = 1 ∧ d ≤ q) ∨ (w = 2 ∧ e = 1))
def GWY (σ τ : MS) : Prop := RUN τ 0 ∧ Fr [68, 69, 70] [73, 75, 76, 77, 78, 79, 80, 81, 82] [] σ τ ∧ (0 ≤ τ.2.1 76 0 ∧ τ.2.1 76 0 ≤ 1000000000) ∧ 0 ≤ τ.1 70 ∧ τ.1 70 ≤ 1500000000
def RCH (w q : Int) : Nat → MS → Int → MS → Prop
  | 0, σ, e, τ => τ = σ ∧ e = 0
  | t + 1, σ, e, τ => ∃ e1 τ1 v τ2, RCH w q t σ e1 τ1 ∧ GWY σ τ1 ∧ STQ τ1 0 v τ2 ∧ (v = 0 ∨ v = 1) ∧ τ = sS 70 (τ1.1 70 + 1) τ2 ∧ ((e = 0 ∨ e = 1) ∧ (e = 1 ↔ e1 = 1 ∨ dpt τ 0 < q)) ∧ ¬ gST w q v (dpt τ 0) e
theorem RCH.s {w q i e e2 v : Int} {σ τ1 τ2 : MS} (h : RCH w q i.toNat σ e τ1) (i0 : 0 ≤ i) (gw : GWY σ τ1) (s : STQ τ1 0 v τ2) (hv : v = 0 ∨ v = 1) (he : (e2 = 0 ∨ e2 = 1) ∧ (e2 = 1 ↔ e = 1 ∨ dpt (sS 70 (τ1.1 70 + 1) τ2) 0 < q)) (hn : ¬ gST w q v (dpt (sS 70 (τ1.1 70 + 1) τ2) 0) e2) : RCH w q (i + 1).toNat σ e2 (sS 70 (τ1.1 70 + 1) τ2) := by
  rw [show (i + 1).toNat = i.toNat + 1 by omega]
  exact ⟨e, τ1, v, τ2, h, gw, s, hv, rfl, he, hn⟩
def GOE (w q nn : Int) (σ : MS) (v : Int) (σ2 : MS) : Prop := ∃ (t : Nat) (e : Int) (τ : MS), RCH w q t σ e τ ∧ GWY σ τ ∧ (((t : Int) = nn ∧ v = 2 ∧ σ2 = τ) ∨ ((t : Int) < nn ∧ ∃ k τ2, STQ τ 0 k τ2 ∧ ((k = 3 ∧ v = 3 ∧ σ2 = sS 69 1 τ2) ∨ (k = 2 ∧ v = 0 ∧ σ2 = sS 68 1 (sS 70 (τ.1 70 + 1) τ2)) ∨ (v = 1 ∧ σ2 = sS 70 (τ.1 70 + 1) τ2 ∧ ∃ e2, ((e2 = 0 ∨ e2 = 1) ∧ (e2 = 1 ↔ e = 1 ∨ dpt σ2 0 < q)) ∧ gST w q k (dpt σ2 0) e2))))
def GOF7 (σ : MS) (w nn v : Int) (σ2 : MS) : Prop :=
  (¬ (σ.1 67 ≠ 0 ∧ (0 ≤ w ∧ w ≤ 2) ∧ 1 ≤ nn ∧ nn ≤ 20000) ∧ v = -1 ∧ σ2 = sS 0 0 σ) ∨
  ((σ.1 67 ≠ 0 ∧ (0 ≤ w ∧ w ≤ 2) ∧ 1 ≤ nn ∧ nn ≤ 20000) ∧ ((σ.1 69 ≠ 0 ∧ v = 3 ∧ σ2 = sS 0 0 σ) ∨ (σ.1 69 = 0 ∧ σ.1 68 ≠ 0 ∧ v = 0 ∧ σ2 = sS 0 0 σ) ∨ (σ.1 69 = 0 ∧ σ.1 68 = 0 ∧ GOE w (dpt σ 0) nn (sS 0 0 σ) v σ2)))
def prW (a b c d n : Int) : Int := if n = 0 then a else if n = 1 then b else if n = 2 then c else d
def SMQ7 (σ : MS) (m x a b c d : Int) (τ : MS) : Prop := (∀ g, 0 ≤ g → g < 192 → τ.2.1 82 (192 * (9 * m) + g) = pwR (hmP σ m x) (prW a b c d) (σ.2.1 11 x).toNat (fun _ => 0) g) ∧ (∀ f, 0 ≤ f → f < 12 → τ.2.1 81 (12 * (9 * m) + f) = 0) ∧ τ.2.1 75 m = 0 ∧ (∀ j, (j < 192 * (9 * m) ∨ 192 * (9 * m) + 192 ≤ j) → τ.2.1 82 j = σ.2.1 82 j) ∧ (∀ j, (j < 12 * (9 * m) ∨ 12 * (9 * m) + 12 ≤ j) → τ.2.1 81 j = σ.2.1 81 j) ∧ ∀ j, j ≠ m → τ.2.1 75 j = σ.2.1 75 j
theorem smq_of {σ s σE σ2 : MS} {m x a b c d : Int} (e73 : s.2.1 73 m = 0) (z : ZR 81 (12 * (9 * m + s.2.1 73 m)) (12 * (9 * m + s.2.1 73 m) + 12) s σE ∧ ZR 82 (192 * (9 * m + s.2.1 73 m)) (192 * (9 * m + s.2.1 73 m) + 192) s σE) (p : PWG (hmP σE m x) (prW a b c d) (1728 * m) σE (σE.2.1 11 x) σ2) (fE : Fr [] [73, 78, 79, 80, 81, 82] [] s σE) (f2 : Fr [] [82] [] σE σ2) (e : (s.2.1 81 = σ.2.1 81 ∧ s.2.1 82 = σ.2.1 82) ∧ s.2.1 11 = σ.2.1 11 ∧ s.2.1 18 = σ.2.1 18) (h75 : s.2.1 75 m = 0 ∧ ∀ j, j ≠ m → s.2.1 75 j = σ.2.1 75 j) : SMQ7 σ m x a b c d σ2 := by
  obtain ⟨z1, z2⟩ := z
  rw [e73, show 9 * m + 0 = 9 * m by omega] at z1 z2
  have e11 : σE.2.1 11 = σ.2.1 11 := (fE.2.1 11 (by decide)).trans e.2.1
  have e18 : σE.2.1 18 = σ.2.1 18 := (fE.2.1 18 (by decide)).trans e.2.2
  have eh : hmP σE m x = hmP σ m x := by unfold hmP; rw [e18]
  rw [eh, e11] at p
  have f81 : σ2.2.1 81 = σE.2.1 81 := f2.2.1 81 (by decide)
  have f75 : σ2.2.1 75 = s.2.1 75 := (f2.2.1 75 (by decide)).trans (fE.2.1 75 (by decide))
  refine ⟨fun g g0 g1 => ?_, fun f f0 f1 => ?_, by rw [f75]; exact h75.1, fun j hj => ?_, fun j hj => ?_, fun j hj => by rw [f75]; exact h75.2 j hj⟩
  · rw [p (192 * (9 * m) + g), if_pos (by omega), show 192 * (9 * m) + g - 1728 * m = g by omega]
    refine pwR_c (fun i _ _ => ⟨rfl, rfl⟩) ?_
    show σE.2.1 82 (1728 * m + g) = 0
    rw [z2 _, if_pos (by omega)]
  · rw [f81, z1 _, if_pos (by omega)]
  · rw [p j, if_neg (by omega), z2 j, if_neg (by omega), e.1.2]
  · rw [f81, z1 j, if_neg (by omega), e.1.1]
def STS (σ : MS) (x a b c d v : Int) (τ : MS) : Prop := (v = 0 ∧ τ = sS 0 0 σ) ∨ (v = 1 ∧ (0 ≤ x ∧ x < σ.1 10) ∧ (τ.1 67 = 1 ∧ τ.1 68 = 0 ∧ τ.1 69 = 0 ∧ τ.1 70 = 0) ∧ (τ.2.1 73 0 = 1 ∧ (τ.2.1 78 0 = x ∧ τ.2.1 79 0 = 0 ∧ τ.2.1 80 0 = 0) ∧ τ.2.1 76 0 = 0) ∧ SMQ7 σ 0 x a b c d τ)
def RNA (σ : MS) (w v : Int) : Prop := (σ.1 67 = 0 ∧ v = -1) ∨ (σ.1 67 ≠ 0 ∧ ((w = 0 ∧ σ.1 68 ≠ 0 ∧ v = -1) ∨ (w = 0 ∧ σ.1 68 = 0 ∧ v = σ.2.1 79 (σ.2.1 73 0 - 1)) ∨ (w = 1 ∧ v = σ.2.1 76 0) ∨ (w = 2 ∧ v = σ.1 70) ∨ (w = 3 ∧ v = σ.2.1 75 0) ∨ (w = 4 ∧ σ.1 68 ≠ 0 ∧ v = 0) ∨ (w = 4 ∧ σ.1 68 = 0 ∧ v = dpt σ 0) ∨ (w = 5 ∧ σ.1 69 ≠ 0 ∧ v = 1) ∨ (w = 5 ∧ σ.1 69 = 0 ∧ v = 0) ∨ ((w < 0 ∨ 5 < w) ∧ v = -1)))
def PRA (σ : MS) (x v : Int) : Prop := ((σ.1 67 ≠ 0 ∧ 0 ≤ x ∧ x < 200 ∧ x < σ.2.1 76 0) ∧ v = σ.2.1 77 x) ∨ (¬ (σ.1 67 ≠ 0 ∧ 0 ≤ x ∧ x < 200 ∧ x < σ.2.1 76 0) ∧ v = 0)
end
section
set_option maxHeartbeats 4000000 in
set_option maxRecDepth 20000 in
theorem f_X12_worth (d : Nat) {b : Nat} {σ : MS} {c : Int} {k : Int} {w : Int} (hk : k = 2 → 0 ≤ 192 * c + w ∧ 192 * c + w < 5184) (hR : RG σ) (h_k : -2147483648 ≤ k ∧ k ≤ 2147483647) (h_w : -2147483648 ≤ w ∧ w ≤ 2147483647) : Tm (d + 1) m_X12_worth 0 b σ [(0, .ref b), (1, .int (iI c)), (2, .int (iI k)), (3, .int (iI w))] [] (fun ro σ2 => ∃ v : Int, ro = some (.int (iI v)) ∧ σ = σ2 ∧ (-2147483648 ≤ v ∧ v ≤ 2147483647) ∧ (v = wth σ c k w)) := by
  refine tm_iload_n dX12_worth_0 rfl 2 rfl ?_
  refine tm_iconst dX12_worth_1 ?_
  refine tm_icmp_ne (tgt := 20) dX12_worth_2 (by decide) ⟨by omega, by omega⟩ ⟨by decide, by decide⟩ (fun h1 => ?_) (fun h1 => ?_)
  · refine tm_iload_n dX12_worth_20 rfl 3 rfl ?_
    exact tm_iret rfl dX12_worth_21 (⟨_, rfl, rfl, by omega, by unfold wth; split <;> first | rfl | omega⟩)
  · refine tm_aload_n dX12_worth_5 rfl 0 rfl ?_
    refine tm_get (k := 82) (v := .ref (b + 1 + 53)) lay_12 dX12_worth_6 (by decide) fl12_179 rfl ?_
    refine tm_sipush dX12_worth_9 (by decide) ?_
    refine tm_iload_n dX12_worth_12 rfl 1 rfl ?_
    refine tm_imul dX12_worth_13 ?_
    refine tm_iload_n dX12_worth_14 rfl 3 rfl ?_
    refine tm_iadd dX12_worth_15 ?_
    refine tm_iald (z := (192 * c) + w) (v := σ.2.1 82 ((192 * c) + w)) dX12_worth_16 (show mT[53]? = some (82, 0, 5184) from rfl) (by omega) (by omega) (by decide) (rfl) ?_
    have g2 := RG.a hR 82 ((192 * c) + w)
    refine tm_goto (tgt := 21) dX12_worth_17 (by decide) ?_
    exact tm_iret rfl dX12_worth_21 (⟨_, rfl, rfl, by omega, by unfold wth; split <;> first | rfl | omega⟩)
set_option maxHeartbeats 4000000 in
set_option maxRecDepth 20000 in
theorem f_enter1 (d : Nat) {b : Nat} {σ0 : MS} {m : Int} {r : Int} {c : Int} {post : Option Value → MS → Prop} (hc : 0 ≤ c ∧ c < 27) (hx_72 : ∀ (f : Int) (σ : MS) , (Fr [] [81] [] σ0 σ) → (RG σ) → (ZR 81 (12 * c) (12 * c + 12) σ0 σ) → Tm (d + 1) m_X12_enterCall 72 b σ [(4, .int (iI f)), (3, .int (iI c)), (0, .ref b), (1, .int (iI m)), (2, .int (iI r))] [] post) : ∀ (n : Nat) (f : Int) (σ : MS) , (Fr [] [81] [] σ0 σ) → (RG σ) → (0 ≤ f ∧ f ≤ 12) → (ZR 81 (12 * c) (12 * c + f) σ0 σ) → (12 - f).toNat = n → Tm (d + 1) m_X12_enterCall 46 b σ [(4, .int (iI f)), (3, .int (iI c)), (0, .ref b), (1, .int (iI m)), (2, .int (iI r))] [] post := by
  intro n
  induction n using Nat.strongRecOn with
  | _ n ih =>
    intro f σ hF hR h0 hz hm
    refine tm_iload dX12_enterCall_46 0 rfl ?_
    refine tm_bipush dX12_enterCall_48 (by decide) ?_
    refine tm_icmp_ge (tgt := 72) dX12_enterCall_50 (by decide) ⟨by omega, by omega⟩ ⟨by decide, by decide⟩ (fun h1 => ?_) (fun h1 => ?_)
    · exact tm_sub [0, 1, 2, 3, 4] rfl (hx_72 (f) σ (Fr.rfl.trans (Fr.sub hF (by decide) (by decide) (by decide))) hR (by rw [show 12 * c + 12 = 12 * c + f by omega]; exact hz))
    · refine tm_aload_n dX12_enterCall_53 rfl 2 rfl ?_
      refine tm_get (k := 81) (v := .ref (b + 1 + 52)) lay_12 dX12_enterCall_54 (by decide) fl12_176 rfl ?_
      refine tm_bipush dX12_enterCall_57 (by decide) ?_
      refine tm_iload_n dX12_enterCall_59 rfl 1 rfl ?_
      refine tm_imul dX12_enterCall_60 ?_
      refine tm_iload dX12_enterCall_61 0 rfl ?_
      refine tm_iadd dX12_enterCall_63 ?_
      refine tm_iconst dX12_enterCall_64 ?_
      refine tm_iast (z := (12 * c) + f) (v := 0) dX12_enterCall_65 (show mT[52]? = some (81, 0, 324) from rfl) (by omega) (by omega) (by decide) ?_
      refine tm_iinc (q0 := 0) (L' := [(4, .int (iI (f + 1))), (3, .int (iI c)), (0, .ref b), (1, .int (iI m)), (2, .int (iI r))]) dX12_enterCall_66 rfl (by decide) rfl ?_
      refine tm_goto (tgt := 46) dX12_enterCall_69 (by decide) ?_
      exact tm_sub [0, 1, 2, 3, 4] rfl (ih _ (by omega) (f + 1) (sA 81 ((12 * c) + f) (0) σ) ((Fr.rfl.trans (Fr.sub hF (by decide) (by decide) (by decide))).A (by decide)) (hR.A (by omega)) (by omega) (hz.put (by omega) (by omega)) rfl)
set_option maxHeartbeats 4000000 in
set_option maxRecDepth 20000 in
theorem f_enter2 (d : Nat) {b : Nat} {σ0 : MS} {m : Int} {r : Int} {c : Int} {post : Option Value → MS → Prop} (hc : 0 ≤ c ∧ c < 27) (hx_103 : ∀ (f : Int) (σ : MS) , (Fr [] [82] [] σ0 σ) → (RG σ) → (ZR 82 (192 * c) (192 * c + 192) σ0 σ) → Tm (d + 1) m_X12_enterCall 103 b σ [(4, .int (iI f)), (3, .int (iI c)), (0, .ref b), (1, .int (iI m)), (2, .int (iI r))] [] post) : ∀ (n : Nat) (f : Int) (σ : MS) , (Fr [] [82] [] σ0 σ) → (RG σ) → (0 ≤ f ∧ f ≤ 192) → (ZR 82 (192 * c) (192 * c + f) σ0 σ) → (192 - f).toNat = n → Tm (d + 1) m_X12_enterCall 75 b σ [(4, .int (iI f)), (3, .int (iI c)), (0, .ref b), (1, .int (iI m)), (2, .int (iI r))] [] post := by
  intro n
  induction n using Nat.strongRecOn with
  | _ n ih =>
    intro f σ hF hR h0 hz hm
    refine tm_iload dX12_enterCall_75 0 rfl ?_
    refine tm_sipush dX12_enterCall_77 (by decide) ?_
    refine tm_icmp_ge (tgt := 103) dX12_enterCall_80 (by decide) ⟨by omega, by omega⟩ ⟨by decide, by decide⟩ (fun h1 => ?_) (fun h1 => ?_)
    · exact tm_sub [0, 1, 2, 3, 4] rfl (hx_103 (f) σ (Fr.rfl.trans (Fr.sub hF (by decide) (by decide) (by decide))) hR (by rw [show 192 * c + 192 = 192 * c + f by omega]; exact hz))
    · refine tm_aload_n dX12_enterCall_83 rfl 2 rfl ?_
      refine tm_get (k := 82) (v := .ref (b + 1 + 53)) lay_12 dX12_enterCall_84 (by decide) fl12_179 rfl ?_
      refine tm_sipush dX12_enterCall_87 (by decide) ?_
      refine tm_iload_n dX12_enterCall_90 rfl 1 rfl ?_
      refine tm_imul dX12_enterCall_91 ?_
      refine tm_iload dX12_enterCall_92 0 rfl ?_
      refine tm_iadd dX12_enterCall_94 ?_
      refine tm_iconst dX12_enterCall_95 ?_
      refine tm_iast (z := (192 * c) + f) (v := 0) dX12_enterCall_96 (show mT[53]? = some (82, 0, 5184) from rfl) (by omega) (by omega) (by decide) ?_
      refine tm_iinc (q0 := 0) (L' := [(4, .int (iI (f + 1))), (3, .int (iI c)), (0, .ref b), (1, .int (iI m)), (2, .int (iI r))]) dX12_enterCall_97 rfl (by decide) rfl ?_
      refine tm_goto (tgt := 75) dX12_enterCall_100 (by decide) ?_
      exact tm_sub [0, 1, 2, 3, 4] rfl (ih _ (by omega) (f + 1) (sA 82 ((192 * c) + f) (0) σ) ((Fr.rfl.trans (Fr.sub hF (by decide) (by decide) (by decide))).A (by decide)) (hR.A (by omega)) (by omega) (hz.put (by omega) (by omega)) rfl)
set_option maxHeartbeats 4000000 in
set_option maxRecDepth 20000 in
theorem f_X12_enterCall (d : Nat) {b : Nat} {σ : MS} {m : Int} {r : Int} (hR : RG σ) (hm : 0 ≤ m ∧ m ≤ 2) (hc : 0 ≤ σ.2.1 73 m ∧ σ.2.1 73 m ≤ 8) (h_r : -2147483648 ≤ r ∧ r ≤ 2147483647) : Tm (d + 1) m_X12_enterCall 0 b σ [(0, .ref b), (1, .int (iI m)), (2, .int (iI r))] [] (fun ro σ2 => ro = none ∧ (Fr [] [73, 78, 79, 80, 81, 82] [] σ σ2) ∧ (RG σ2) ∧ (σ2.2.1 73 m = σ.2.1 73 m + 1) ∧ (σ2.2.1 78 (9 * m + σ.2.1 73 m) = r ∧ σ2.2.1 79 (9 * m + σ.2.1 73 m) = 0 ∧ σ2.2.1 80 (9 * m + σ.2.1 73 m) = 0) ∧ (∀ j, j ≠ m → σ2.2.1 73 j = σ.2.1 73 j) ∧ (∀ j, j ≠ 9 * m + σ.2.1 73 m → σ2.2.1 78 j = σ.2.1 78 j ∧ σ2.2.1 79 j = σ.2.1 79 j ∧ σ2.2.1 80 j = σ.2.1 80 j) ∧ (ZR 81 (12 * (9 * m + σ.2.1 73 m)) (12 * (9 * m + σ.2.1 73 m) + 12) σ σ2 ∧ ZR 82 (192 * (9 * m + σ.2.1 73 m)) (192 * (9 * m + σ.2.1 73 m) + 192) σ σ2)) := by
  refine tm_bipush dX12_enterCall_0 (by decide) ?_
  refine tm_iload_n dX12_enterCall_2 rfl 1 rfl ?_
  refine tm_imul dX12_enterCall_3 ?_
  refine tm_aload_n dX12_enterCall_4 rfl 0 rfl ?_
  refine tm_get (k := 73) (v := .ref (b + 1 + 44)) lay_12 dX12_enterCall_5 (by decide) fl12_152 rfl ?_
  refine tm_iload_n dX12_enterCall_8 rfl 1 rfl ?_
  refine tm_iald (z := m) (v := σ.2.1 73 m) dX12_enterCall_9 (show mT[44]? = some (73, 0, 3) from rfl) (by omega) (by omega) (by decide) (rfl) ?_
  have g1 := RG.a hR 73 (m)
  refine tm_iadd dX12_enterCall_10 ?_
  refine tm_istore_n (L' := [(3, .int (iI ((9 * m) + (σ.2.1 73 m)))), (0, .ref b), (1, .int (iI m)), (2, .int (iI r))]) dX12_enterCall_11 rfl (by decide) rfl ?_
  refine tm_aload_n dX12_enterCall_12 rfl 1 rfl ?_
  refine tm_get (k := 73) (v := .ref (b + 1 + 44)) lay_12 dX12_enterCall_13 (by decide) fl12_152 rfl ?_
  refine tm_iload_n dX12_enterCall_16 rfl 2 rfl ?_
  refine tm_dup2 dX12_enterCall_17 rfl rfl ?_
  refine tm_iald (z := m) (v := σ.2.1 73 m) dX12_enterCall_18 (show mT[44]? = some (73, 0, 3) from rfl) (by omega) (by omega) (by decide) (rfl) ?_
  have g2 := RG.a hR 73 (m)
  refine tm_iconst dX12_enterCall_19 ?_
  refine tm_iadd dX12_enterCall_20 ?_
  refine tm_iast (z := m) (v := (σ.2.1 73 m) + 1) dX12_enterCall_21 (show mT[44]? = some (73, 0, 3) from rfl) (by omega) (by omega) (by decide) ?_
  refine tm_aload_n dX12_enterCall_22 rfl 1 rfl ?_
  refine tm_get (k := 78) (v := .ref (b + 1 + 49)) lay_12 dX12_enterCall_23 (by decide) fl12_167 rfl ?_
  refine tm_iload_n dX12_enterCall_26 rfl 0 rfl ?_
  refine tm_iload_n dX12_enterCall_27 rfl 3 rfl ?_
  refine tm_iast (z := (9 * m) + (σ.2.1 73 m)) (v := r) dX12_enterCall_28 (show mT[49]? = some (78, 0, 27) from rfl) (by omega) (by omega) (by decide) ?_
  refine tm_aload_n dX12_enterCall_29 rfl 1 rfl ?_
  refine tm_get (k := 79) (v := .ref (b + 1 + 50)) lay_12 dX12_enterCall_30 (by decide) fl12_170 rfl ?_
  refine tm_iload_n dX12_enterCall_33 rfl 0 rfl ?_
  refine tm_iconst dX12_enterCall_34 ?_
  refine tm_iast (z := (9 * m) + (σ.2.1 73 m)) (v := 0) dX12_enterCall_35 (show mT[50]? = some (79, 0, 27) from rfl) (by omega) (by omega) (by decide) ?_
  refine tm_aload_n dX12_enterCall_36 rfl 1 rfl ?_
  refine tm_get (k := 80) (v := .ref (b + 1 + 51)) lay_12 dX12_enterCall_37 (by decide) fl12_173 rfl ?_
  refine tm_iload_n dX12_enterCall_40 rfl 0 rfl ?_
  refine tm_iconst dX12_enterCall_41 ?_
  refine tm_iast (z := (9 * m) + (σ.2.1 73 m)) (v := 0) dX12_enterCall_42 (show mT[51]? = some (80, 0, 27) from rfl) (by omega) (by omega) (by decide) ?_
  refine tm_iconst dX12_enterCall_43 ?_
  refine tm_istore (L' := [(4, .int (iI 0)), (3, .int (iI ((9 * m) + (σ.2.1 73 m)))), (0, .ref b), (1, .int (iI m)), (2, .int (iI r))]) dX12_enterCall_44 (by decide) rfl ?_
  refine tm_sub [0, 1, 2, 3, 4] rfl (f_enter1 (d) (σ0 := (sA 80 ((9 * m) + (σ.2.1 73 m)) (0) (sA 79 ((9 * m) + (σ.2.1 73 m)) (0) (sA 78 ((9 * m) + (σ.2.1 73 m)) (r) (sA 73 (m) ((σ.2.1 73 m) + 1) σ))))) (m := m) (r := r) (c := (9 * m) + (σ.2.1 73 m)) (by omega) (fun f8 σ9 F5 R6 f7 => ?_) _ (0) (sA 80 ((9 * m) + (σ.2.1 73 m)) (0) (sA 79 ((9 * m) + (σ.2.1 73 m)) (0) (sA 78 ((9 * m) + (σ.2.1 73 m)) (r) (sA 73 (m) ((σ.2.1 73 m) + 1) σ)))) Fr.rfl ((((hR.A (by omega)).A (by omega)).A (by omega)).A (by omega)) (by omega) (ZR.z (by omega)) rfl)
  show Tm _ _ 72 b σ9 [(4, .int (iI f8)), (3, .int (iI ((9 * m) + (σ.2.1 73 m)))), (0, .ref b), (1, .int (iI m)), (2, .int (iI r))] [] _
  have z81 := f7
  refine tm_iconst dX12_enterCall_72 ?_
  refine tm_istore (L' := [(4, .int (iI 0)), (3, .int (iI ((9 * m) + (σ.2.1 73 m)))), (0, .ref b), (1, .int (iI m)), (2, .int (iI r))]) dX12_enterCall_73 (by decide) rfl ?_
  refine tm_sub [0, 1, 2, 3, 4] rfl (f_enter2 (d) (σ0 := σ9) (m := m) (r := r) (c := (9 * m) + (σ.2.1 73 m)) (by omega) (fun f15 σ16 F12 R13 f14 => ?_) _ (0) σ9 Fr.rfl R6 (by omega) (ZR.z (by omega)) rfl)
  show Tm _ _ 103 b σ16 [(4, .int (iI f15)), (3, .int (iI ((9 * m) + (σ.2.1 73 m)))), (0, .ref b), (1, .int (iI m)), (2, .int (iI r))] [] _
  exact tm_vret rfl dX12_enterCall_103 (⟨rfl, ((((((Fr.rfl.A (by decide)).A (by decide)).A (by decide)).A (by decide)).trans (Fr.sub F5 (by decide) (by decide) (by decide))).trans (Fr.sub F12 (by decide) (by decide) (by decide))), R13, ra_F F12 (by decide) (ra_F F5 (by decide) (ra_o (by decide) (ra_o (by decide) (ra_o (by decide) (ra_eq))))), ⟨(ra_F F12 (by decide) (ra_F F5 (by decide) (ra_o (by decide) (ra_o (by decide) (ra_eq))))), (ra_F F12 (by decide) (ra_F F5 (by decide) (ra_o (by decide) (ra_eq)))), (ra_F F12 (by decide) (ra_F F5 (by decide) (ra_eq)))⟩, fun j hj => ra_F F12 (by decide) (ra_F F5 (by decide) (ra_o (by decide) (ra_o (by decide) (ra_o (by decide) (ra_ne hj (rfl)))))), fun j hj => ⟨ra_F F12 (by decide) (ra_F F5 (by decide) (ra_o (by decide) (ra_o (by decide) (ra_ne hj (ra_o (by decide) (rfl)))))), ra_F F12 (by decide) (ra_F F5 (by decide) (ra_o (by decide) (ra_ne hj (ra_o (by decide) (ra_o (by decide) (rfl)))))), ra_F F12 (by decide) (ra_F F5 (by decide) (ra_ne hj (ra_o (by decide) (ra_o (by decide) (ra_o (by decide) (rfl))))))⟩, ⟨(z81.l rfl).r (F12.2.1 81 (by decide)), f14.l (F5.2.1 82 (by decide))⟩⟩)
set_option maxHeartbeats 4000000 in
set_option maxRecDepth 20000 in
theorem f_X12_returns (d : Nat) {b : Nat} {σ : MS} {m : Int} {c : Int} {w : Int} (hR : RG σ) (hm2 : 0 ≤ m ∧ m ≤ 2) (hrun : RUN σ m) (hbka : BKA σ m) (hc : c = 9 * m + σ.2.1 73 m - 1) (h_w : -2147483648 ≤ w ∧ w ≤ 2147483647) : Tm (d + 2) m_X12_returns 0 b σ [(0, .ref b), (1, .int (iI m)), (2, .int (iI c)), (3, .int (iI w))] [] (fun ro σ2 => ∃ v : Int, ro = some (.int (iI v)) ∧ (Fr [] [73, 75, 79, 82] [] σ σ2) ∧ (RG σ2) ∧ ((v = 2 ∧ σ2.2.1 73 m = 0) ∨ (v = 0 ∧ RUN σ2 m)) ∧ (XM m σ σ2) ∧ (v = 0 → σ2.2.1 73 m = σ.2.1 73 m - 1 ∧ 2 ≤ σ.2.1 73 m ∧ (∀ z, σ2.2.1 78 z = σ.2.1 78 z) ∧ (∀ z, z ≠ c - 1 → σ2.2.1 79 z = σ.2.1 79 z) ∧ σ2.2.1 79 (c - 1) = σ.2.1 79 (c - 1) + 1) ∧ (RTX σ m c w v σ2)) := by
  have h1 := hrun.1
  have hR6 := hbka.1
  refine tm_aload_n dX12_returns_0 rfl 0 rfl ?_
  refine tm_get (k := 73) (v := .ref (b + 1 + 44)) lay_12 dX12_returns_1 (by decide) fl12_152 rfl ?_
  refine tm_iload_n dX12_returns_4 rfl 1 rfl ?_
  refine tm_dup2 dX12_returns_5 rfl rfl ?_
  refine tm_iald (z := m) (v := σ.2.1 73 m) dX12_returns_6 (show mT[44]? = some (73, 0, 3) from rfl) (by omega) (by omega) (by decide) (rfl) ?_
  have g1 := RG.a hR 73 (m)
  refine tm_iconst dX12_returns_7 ?_
  refine tm_isub dX12_returns_8 ?_
  refine tm_iast (z := m) (v := (σ.2.1 73 m) - 1) dX12_returns_9 (show mT[44]? = some (73, 0, 3) from rfl) (by omega) (by omega) (by decide) ?_
  refine tm_aload_n dX12_returns_10 rfl 0 rfl ?_
  refine tm_get (k := 73) (v := .ref (b + 1 + 44)) lay_12 dX12_returns_11 (by decide) fl12_152 rfl ?_
  refine tm_iload_n dX12_returns_14 rfl 1 rfl ?_
  refine tm_iald (z := m) (v := (σ.2.1 73 m) - 1) dX12_returns_15 (show mT[44]? = some (73, 0, 3) from rfl) (by omega) (by omega) (by decide) (ra_eq) ?_
  refine tm_if_ne (tgt := 28) dX12_returns_16 (by decide) ⟨by omega, by omega⟩ (fun h2 => ?_) (fun h2 => ?_)
  · have hp := hrun.2.1 (c - 1) (by omega) (by omega)
    have hk10 := hrun.2.2.1 (c - 1) (by omega) (by omega)
    have hbg := hbka.2 _ hp.1.1 hp.1.2
    have hp1 := hp.1
    have hp2 := hp.2.1
    have hb9 := hbg.1
    have hoki := hbg.2.1 _ hp.2.1.1 hp.2.1.2
    have hdd := hoki.2.1 (Or.inr hk10)
    refine tm_iload_n dX12_returns_28 rfl 2 rfl ?_
    refine tm_iconst dX12_returns_29 ?_
    refine tm_isub dX12_returns_30 ?_
    refine tm_istore (L' := [(4, .int (iI (c - 1))), (0, .ref b), (1, .int (iI m)), (2, .int (iI c)), (3, .int (iI w))]) dX12_returns_31 (by decide) rfl ?_
    refine tm_aload_n dX12_returns_33 rfl 1 rfl ?_
    refine tm_aload_n dX12_returns_34 rfl 1 rfl ?_
    refine tm_iload_n dX12_returns_35 rfl 2 rfl ?_
    refine tm_callV (M := m_X12_returns) (pc := 36) (ix := 542) (M' := m_X12_bank) (As := [.int (iI m)]) (rest := [.ref b]) dX12_returns_36 ok_X12_bank im_X12_bank se_X12_bank ml12_542 np_X12_bank rfl rfl (Nat.le_of_ble_eq_true rfl) (Nat.le_of_ble_eq_true rfl) rfl (c_X12_bank (d) (σ := (sA 73 (m) ((σ.2.1 73 m) - 1) σ)) (m := m) (by omega)) (fun r3 σ4 hp => ?_)
    obtain ⟨v5, rfl, rfl, f6, f7, f8⟩ := hp
    show Tm _ _ 39 b (sA 73 (m) ((σ.2.1 73 m) - 1) σ) [(4, .int (iI (c - 1))), (0, .ref b), (1, .int (iI m)), (2, .int (iI c)), (3, .int (iI w))] [.int (iI v5), .ref b] _
    have hbv : v5 = bkm m := bkm_2 f7 f8
    rw [← hbv] at hp2 hb9 hdd
    refine tm_aload_n dX12_returns_39 rfl 1 rfl ?_
    refine tm_get (k := 78) (v := .ref (b + 1 + 49)) lay_12 dX12_returns_40 (by decide) fl12_167 rfl ?_
    refine tm_iload dX12_returns_43 0 rfl ?_
    refine tm_iald (z := c - 1) (v := σ.2.1 78 (c - 1)) dX12_returns_45 (show mT[49]? = some (78, 0, 27) from rfl) (by omega) (by omega) (by decide) (ra_o (by decide) (rfl)) ?_
    have g9 := RG.a hR 78 (c - 1)
    refine tm_iadd dX12_returns_46 ?_
    refine tm_aload_n dX12_returns_47 rfl 1 rfl ?_
    refine tm_get (k := 79) (v := .ref (b + 1 + 50)) lay_12 dX12_returns_48 (by decide) fl12_170 rfl ?_
    refine tm_iload dX12_returns_51 0 rfl ?_
    refine tm_iald (z := c - 1) (v := σ.2.1 79 (c - 1)) dX12_returns_53 (show mT[50]? = some (79, 0, 27) from rfl) (by omega) (by omega) (by decide) (ra_o (by decide) (rfl)) ?_
    have g10 := RG.a hR 79 (c - 1)
    refine tm_callV (M := m_X12_returns) (pc := 54) (ix := 203) (M' := m_X12_at) (As := [.int (iI (v5 + (σ.2.1 78 (c - 1)))), .int (iI (σ.2.1 79 (c - 1)))]) (rest := []) dX12_returns_54 ok_X12_at im_X12_at se_X12_at ml12_203 np_X12_at rfl rfl (Nat.le_of_ble_eq_true rfl) (Nat.le_of_ble_eq_true rfl) rfl (c_X12_at (d) (σ := (sA 73 (m) ((σ.2.1 73 m) - 1) σ)) (x := v5 + (σ.2.1 78 (c - 1))) (k := σ.2.1 79 (c - 1)) ) (fun r11 σ12 hp => ?_)
    obtain ⟨v13, rfl, rfl, f14⟩ := hp
    subst f14
    show Tm _ _ 57 b (sA 73 (m) ((σ.2.1 73 m) - 1) σ) [(4, .int (iI (c - 1))), (0, .ref b), (1, .int (iI m)), (2, .int (iI c)), (3, .int (iI w))] [.int (iI (220 * (v5 + (σ.2.1 78 (c - 1))) + (σ.2.1 79 (c - 1))))] _
    refine tm_istore (L' := [(5, .int (iI (220 * (v5 + (σ.2.1 78 (c - 1))) + (σ.2.1 79 (c - 1))))), (4, .int (iI (c - 1))), (0, .ref b), (1, .int (iI m)), (2, .int (iI c)), (3, .int (iI w))]) dX12_returns_57 (by decide) rfl ?_
    refine tm_aload_n dX12_returns_59 rfl 2 rfl ?_
    refine tm_get (k := 82) (v := .ref (b + 1 + 53)) lay_12 dX12_returns_60 (by decide) fl12_179 rfl ?_
    refine tm_sipush dX12_returns_63 (by decide) ?_
    refine tm_iload dX12_returns_66 1 rfl ?_
    refine tm_imul dX12_returns_68 ?_
    refine tm_aload_n dX12_returns_69 rfl 2 rfl ?_
    refine tm_get (k := 4) (v := .ref (b + 1 + 2)) lay_12 dX12_returns_70 (by decide) fl12_17 rfl ?_
    refine tm_iload dX12_returns_73 0 rfl ?_
    refine tm_iald (z := 220 * (v5 + (σ.2.1 78 (c - 1))) + (σ.2.1 79 (c - 1))) (v := σ.2.1 4 (220 * (v5 + (σ.2.1 78 (c - 1))) + (σ.2.1 79 (c - 1)))) dX12_returns_75 (show mT[2]? = some (4, 0, 2860) from rfl) (by omega) (by omega) (by decide) (ra_o (by decide) (rfl)) ?_
    have g15 := RG.a hR 4 (220 * (v5 + (σ.2.1 78 (c - 1))) + (σ.2.1 79 (c - 1)))
    refine tm_iadd dX12_returns_76 ?_
    refine tm_iload_n dX12_returns_77 rfl 5 rfl ?_
    refine tm_iast (z := (192 * (c - 1)) + (σ.2.1 4 (220 * (v5 + (σ.2.1 78 (c - 1))) + (σ.2.1 79 (c - 1))))) (v := w) dX12_returns_78 (show mT[53]? = some (82, 0, 5184) from rfl) (by omega) (by omega) (by decide) ?_
    refine tm_aload_n dX12_returns_79 rfl 2 rfl ?_
    refine tm_get (k := 79) (v := .ref (b + 1 + 50)) lay_12 dX12_returns_80 (by decide) fl12_170 rfl ?_
    refine tm_iload dX12_returns_83 1 rfl ?_
    refine tm_dup2 dX12_returns_85 rfl rfl ?_
    refine tm_iald (z := c - 1) (v := σ.2.1 79 (c - 1)) dX12_returns_86 (show mT[50]? = some (79, 0, 27) from rfl) (by omega) (by omega) (by decide) (ra_o (by decide) (ra_o (by decide) (rfl))) ?_
    have g16 := RG.a hR 79 (c - 1)
    refine tm_iconst dX12_returns_87 ?_
    refine tm_iadd dX12_returns_88 ?_
    refine tm_iast (z := c - 1) (v := (σ.2.1 79 (c - 1)) + 1) dX12_returns_89 (show mT[50]? = some (79, 0, 27) from rfl) (by omega) (by omega) (by decide) ?_
    refine tm_iconst dX12_returns_90 ?_
    exact tm_iret rfl dX12_returns_91 (⟨_, rfl, (((Fr.rfl.A (by decide)).A (by decide)).A (by decide)), (((hR.A (by omega)).A (by omega)).A (by omega)), Or.inr ⟨rfl, hrun.pop (d := c - 1) (by omega) (by omega) (show Fr [] [73, 79, 82] [] σ (sA 79 (c - 1) ((σ.2.1 79 (c - 1)) + 1) (sA 82 ((192 * (c - 1)) + (σ.2.1 4 (220 * (v5 + (σ.2.1 78 (c - 1))) + (σ.2.1 79 (c - 1))))) (w) (sA 73 (m) ((σ.2.1 73 m) - 1) σ))) from (((Fr.rfl.A (by decide)).A (by decide)).A (by decide))) (by decide) (by decide) (ra_o (by decide) (ra_o (by decide) ra_eq)) (fun _ => rfl) (fun _ => rfl) (fun z hz => ra_ne hz rfl) ra_eq⟩, ⟨fun j hj => ⟨ra_o (by decide) (ra_o (by decide) (ra_ne hj rfl)), rfl⟩, fun z hz => ⟨rfl, ra_ne (by omega) rfl, rfl⟩⟩, fun _ => ⟨ra_o (by decide) (ra_o (by decide) ra_eq), (by omega), (fun _ => rfl), (fun z hz => ra_ne hz rfl), ra_eq⟩, Or.inr ⟨rfl, by omega, by rw [← hbv]⟩⟩)
  · refine tm_aload_n dX12_returns_19 rfl 0 rfl ?_
    refine tm_get (k := 75) (v := .ref (b + 1 + 46)) lay_12 dX12_returns_20 (by decide) fl12_158 rfl ?_
    refine tm_iload_n dX12_returns_23 rfl 1 rfl ?_
    refine tm_iload_n dX12_returns_24 rfl 3 rfl ?_
    refine tm_iast (z := m) (v := w) dX12_returns_25 (show mT[46]? = some (75, 0, 3) from rfl) (by omega) (by omega) (by decide) ?_
    refine tm_iconst dX12_returns_26 ?_
    exact tm_iret rfl dX12_returns_27 (⟨_, rfl, ((Fr.rfl.A (by decide)).A (by decide)), ((hR.A (by omega)).A (by omega)), Or.inl ⟨rfl, ra_o (by decide) (ra_eq.trans (by omega))⟩, ⟨fun j hj => ⟨ra_o (by decide) (ra_ne hj rfl), rfl⟩, fun z hz => ⟨rfl, rfl, rfl⟩⟩, fun q => absurd q (by decide), Or.inl ⟨rfl, by omega, rfl⟩⟩)
end
