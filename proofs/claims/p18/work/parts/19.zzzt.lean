section
section WRDS
variable {s S : Int → Int}
theorem run_ex (hs : SEN s) : ∀ (k : Nat) (p : Int), (1300 - p).toNat = k → ∃ n : Nat, (p ≤ 1300 → p + n ≤ 1300) ∧ (∀ j : Nat, j < n → 97 ≤ s (p + j) ∧ s (p + j) ≤ 122) ∧ ¬ (97 ≤ s (p + n) ∧ s (p + n) ≤ 122)
  | 0, p, e => ⟨0, fun h => by omega, fun j h => absurd h (by omega), fun h => by
      have z := hs (p + (0 : Nat)) (by omega)
      omega⟩
  | k + 1, p, e => by
    by_cases c : 97 ≤ s p ∧ s p ≤ 122
    · obtain ⟨n, a, b, d⟩ := run_ex hs k (p + 1) (by omega)
      refine ⟨n + 1, fun h => by have := a (by omega); omega, fun j h => ?_, ?_⟩
      · by_cases z : j = 0
        · rw [z]; rw [show p + ((0 : Nat) : Int) = p by omega]; exact c
        · have y := b (j - 1) (by omega)
          rw [show p + 1 + ((j - 1 : Nat) : Int) = p + j by omega] at y
          exact y
      · rw [show p + ((n + 1 : Nat) : Int) = p + 1 + n by omega]; exact d
    · exact ⟨0, fun h => by omega, fun j h => absurd h (by omega), by rw [show p + ((0 : Nat) : Int) = p by omega]; exact c⟩
/-- a NAME's word is one of letters -/
theorem tok_kw (hs : SEN s) {m : Int} (h : (advT s m).2.2.1 = 2) : ∃ k, KW k (advT s m).2.2.2.2 := by
  unfold advT at *
  generalize wsp s m = p at *
  unfold advP at *
  by_cases c0 : s p < 0
  · rw [if_pos c0] at h; exact absurd (show (0 : Int) = 2 from h) (by decide)
  rw [if_neg c0] at h ⊢
  by_cases c1 : 97 ≤ s p ∧ s p ≤ 122
  · rw [if_pos c1] at h ⊢
    obtain ⟨n, a, b, d⟩ := run_ex hs _ p rfl
    have hp : p ≤ 1300 := by
      by_cases z : 1300 ≤ p
      · have := hs p z; omega
      · omega
    have ct := ltp_cnt n (c := 0) (w := 0) (a hp) b d
    have h6 : (n : Int) ≤ 6 := by
      by_cases z : 6 < (ltp s p 0 0).2.2
      · rw [if_pos z] at h; exact absurd (show (1 : Int) = 2 from h) (by decide)
      · have := ct.2; omega
    have rn := ltp_run (s := s) (p := p) n (by omega) (a hp) b
    refine ⟨k5 (lts s p n), lts s p n, lts_ltr n b, by rw [lts_len]; omega, rfl, ?_⟩
    show (ltp s p 0 0).2.1 = _
    rw [rn, ltp_e d]
  · rw [if_neg c1] at h ⊢
    by_cases c2 : 48 ≤ s p ∧ s p ≤ 57
    · rw [if_pos c2] at h
      exfalso
      by_cases z : 7 < (dgp s p 0 0).2.2
      · rw [if_pos z] at h; exact absurd (show (1 : Int) = 2 from h) (by decide)
      · rw [if_neg z] at h; exact absurd (show (3 : Int) = 2 from h) (by decide)
    · rw [if_neg c2] at h
      exfalso
      by_cases z : sgZ (s p) < 0
      · rw [if_pos z] at h; exact absurd (show (1 : Int) = 2 from h) (by decide)
      · rw [if_neg z] at h; exact absurd (show (4 : Int) = 2 from h) (by decide)
/-- the token's word and the call's word are of letters -/
def WKA (a : PCf) : Prop := (a.2.1.2.2.1 = 2 → ∃ k, KW k a.2.1.2.2.2.2) ∧ ∃ k, KW k a.2.2.2.1.1
theorem kw_0 : ∃ k, KW k 0 := ⟨0, [], fun b q => absurd q (by simp), by decide, rfl, rfl⟩
theorem stk_kw {k : Nat} {t : TK} {x : Int × Int × Int} {q : QR} {r : List Nat × TK × (Int × Int × Int) × QR × List EV} (hs : SEN s) (ht : t.2.2.1 = 2 → ∃ k, KW k t.2.2.2.2) (hq : ∃ k, KW k q.1) (h : stk s k t x q = some r) : (r.2.1.2.2.1 = 2 → ∃ k, KW k r.2.1.2.2.2.2) ∧ ∃ k, KW k r.2.2.2.1.1 := by
  have ao : (advT s t.2.1).2.2.1 = 2 → ∃ k, KW k (advT s t.2.1).2.2.2.2 := fun z => tok_kw hs z
  unfold stk at h
  split at h
  all_goals (repeat' split at h)
  all_goals (cases h)
  all_goals first
    | exact ⟨ao, hq⟩
    | exact ⟨ht, hq⟩
    | exact ⟨ht, kw_0⟩
    | exact ⟨ao, ht (‹nam t›).1⟩
    | exact ⟨fun _ => ht (‹nam t›).1, hq⟩
theorem WKA.stp {a : PCf} (hs : SEN s) (h : WKA a) : WKA (stp s a) := by
  obtain ⟨K, t, x, q, ρ⟩ := a
  cases K with
  | nil => exact h
  | cons k K =>
    show WKA (match stk s k t x q with
      | none => pF
      | some r => (r.1 ++ K, r.2.1, r.2.2.1, r.2.2.2.1, ρ ++ r.2.2.2.2))
    cases e : stk s k t x q with
    | none =>
      show WKA pF
      exact ⟨fun z => absurd (show (0 : Int) = 2 from z) (by decide), kw_0⟩
    | some r =>
      show WKA (r.1 ++ K, r.2.1, r.2.2.1, r.2.2.2.1, ρ ++ r.2.2.2.2)
      have y := stk_kw (r := r) hs h.1 h.2 e
      exact ⟨y.1, y.2⟩
/-- roads make alike where the calls' routines have the same numbers -/
theorem mkn_cong {nm : Int → Int64 → Int} {rn rn2 : Int64 → Int} {tb : Int → Int} : ∀ (n : Nat) {a : PCf} {m : MK}, (∀ e ∈ evs s n a, e.1 = 1 → rn e.2.2.2 = rn2 e.2.2.2) → mkn s nm rn tb n a m = mkn s nm rn2 tb n a m
  | 0, _, _, _ => rfl
  | n + 1, a, m, h => by
    show mkn s nm rn tb n (stp s a) (mkt s nm rn tb a m) = mkn s nm rn2 tb n (stp s a) (mkt s nm rn2 tb a m)
    have h2 : ∀ e ∈ evs s n (stp s a), e.1 = 1 → rn e.2.2.2 = rn2 e.2.2.2 := fun e q => h e (by show e ∈ evt s a ++ evs s n (stp s a); exact List.mem_append_right _ q)
    have e1 : mkt s nm rn tb a m = mkt s nm rn2 tb a m := by
      obtain ⟨K, t, x, q, ρ⟩ := a
      cases K with
      | nil => rfl
      | cons k K =>
        show (match stk s k t x q with
          | none => m
          | some _ => mkk s nm rn tb k t q m) = (match stk s k t x q with
          | none => m
          | some _ => mkk s nm rn2 tb k t q m)
        cases e : stk s k t x q with
        | none => rfl
        | some r =>
          show mkk s nm rn tb k t q m = mkk s nm rn2 tb k t q m
          by_cases z : k = 38
          · subst z
            have w : rn q.1 = rn2 q.1 := h (1, q.2.2.1, q.2.1, q.1) (by
              show _ ∈ evt s (38 :: K, t, x, q, ρ) ++ evs s n (stp s (38 :: K, t, x, q, ρ))
              rw [evt_s (by decide) e]
              exact List.mem_append_left _ (List.mem_singleton.mpr rfl)) rfl
            show m.cal rn q.1 = m.cal rn2 q.1
            unfold MK.cal
            rw [w]
          · unfold mkk
            split
            all_goals first
              | rfl
              | exact absurd rfl z
    rw [e1]
    exact mkn_cong n h2
theorem RM.cong {nm : Int → Int64 → Int} {rn rn2 : Int64 → Int} {tb : Int → Int} {a b b2 : PCf} {m m1 : MK} {es : List EW} (h : RM s nm rn tb a m b m1) (g : RE s a es b2) (hb : stp s b = b) (eb : evt s b = []) (hb2 : stp s b2 = b2) (eb2 : evt s b2 = []) (hr : ∀ e ∈ es, e.1 = 1 → rn e.2.2.2 = rn2 e.2.2.2) : RM s nm rn2 tb a m b m1 := by
  obtain ⟨n, h1, h2⟩ := h
  obtain ⟨k, g1, g2⟩ := g
  refine ⟨n, h1, ?_⟩
  rw [← h2]
  refine (mkn_cong n (fun e q => hr e ?_)).symm
  have d : evs s n a = es := by
    by_cases z : n ≤ k
    · obtain ⟨j, rfl⟩ : ∃ j, k = n + j := ⟨k - n, by omega⟩
      rw [evs_add, h1, evs_fix hb eb, List.append_nil] at g2
      exact g2
    · obtain ⟨j, rfl⟩ : ∃ j, n = k + j := ⟨n - k, by omega⟩
      rw [evs_add, g1, evs_fix hb2 eb2, List.append_nil]
      exact g2
  rw [d] at q
  exact q
/-- the words of calls -/
theorem evs_kw (hs : SEN s) : ∀ (n : Nat) {a : PCf}, WKA a → ∀ e ∈ evs s n a, e.1 = 1 → ∃ k, KW k e.2.2.2
  | 0, _, _, e, q => absurd q (by show e ∉ ([] : List EW); simp)
  | n + 1, a, h, e, q => fun k1 => by
    have q2 : e ∈ evt s a ++ evs s n (stp s a) := q
    rcases List.mem_append.mp q2 with z | z
    · obtain ⟨K, t, x, p, ρ⟩ := a
      cases K with
      | nil => exact absurd z (by show e ∉ ([] : List EW); simp)
      | cons k K =>
        have z2 : e ∈ (if k = 999 then [] else match stk s k t x p with
          | none => [(9, t.1, 0, 0)]
          | some _ => evk k t x p) := z
        by_cases c : k = 999
        · rw [if_pos c] at z2; exact absurd z2 (by simp)
        · rw [if_neg c] at z2
          cases es : stk s k t x p with
          | none =>
            rw [es] at z2
            rw [List.mem_singleton.mp z2] at k1
            exact absurd (show (9 : Int) = 1 from k1) (by decide)
          | some r =>
            rw [es] at z2
            have z3 : e ∈ evk k t x p := z2
            unfold evk at z3
            split at z3
            all_goals (repeat' split at z3)
            all_goals first
              | exact absurd z3 List.not_mem_nil
              | (have y := List.mem_singleton.mp z3
                 rw [y]
                 exact h.2)
              | (have y := congrArg (fun z : EW => z.1) (List.mem_singleton.mp z3)
                 have y2 := k1.symm.trans y
                 simp at y2)
    · exact evs_kw hs n (h.stp hs) e z k1
theorem RE.kw (hs : SEN S) {es : List EW} {t : TK} {x : Int × Int × Int} {q : QR} {ρ : List EV} (h : RE S ([36], advT S 0, (0, 0, 0), qq 0, []) es ([], t, x, q, ρ)) : ∀ e ∈ es, e.1 = 1 → ∃ k, KW k e.2.2.2 := by
  obtain ⟨n, -, h2⟩ := h
  rw [← h2]
  exact evs_kw hs n ⟨fun z => tok_kw hs z, kw_0⟩
end WRDS
section NTB
variable {r : RS} {c : CS}
def ST0 (r : RS) : Prop := r.ph = 1 ∧ r.rt = 0 ∧ r.ln = 0 ∧ r.tn = 0 ∧ ∀ k, 0 ≤ k → k < 6 → r.nn k = 0
theorem K1.pre : ∀ (e1 : List EW) {e2 : List EW} {r : RS} {c : CS} {N1 NC Z : List NT} {md : Nat} {pc lo : Int}, K1 r c N1 NC Z md pc lo → SHP (e1 ++ e2) md pc lo → ∃ N1' NC' Z' md' pc' lo', K1 (e1.foldl uR r) (e1.foldl uC c) N1' NC' Z' md' pc' lo' ∧ SHP e2 md' pc' lo'
  | [], _, r, c, N1, NC, Z, md, pc, lo, h, s => ⟨N1, NC, Z, md, pc, lo, h, s⟩
  | e :: es, _, r, c, N1, NC, Z, md, pc, lo, h, s => by
    rcases s with ⟨rfl, k, a, s⟩ | ⟨rfl, k, a, m, s⟩ | ⟨rfl, k, m, s⟩ | ⟨rfl, k, a, s⟩ | ⟨rfl, k, s⟩ | ⟨rfl, k, s⟩
    · exact K1.pre es (h.s2 k a) s
    · exact K1.pre es (h.s3 k a m) s
    · exact K1.pre es (h.s7 k m) s
    · rcases k with k | k
      · exact K1.pre es (h.s4 k a) s
      · exact K1.pre es (h.s5 k a) s
    · exact K1.pre es (h.s1 k) s
    · exact K1.pre es (h.s0 k) s
theorem K1.ini (hr : ST0 r) (hf : r.fp = (0, -1)) : K1 r c00 [] [] [] 0 0 0 := by
  obtain ⟨r1, r3, r4, r5, r6⟩ := hr
  refine ⟨r1, by rw [hf]; exact LST.nil, LST.nil, DMN.nil, DMN.nil, fun n q => q, by rw [r3]; exact Int.le_refl _, r5, Or.inl ⟨rfl, r3.symm⟩, fun j x y => absurd y (by show ¬ j < 0; omega), fun j x y => absurd y (by show ¬ (j < 0 - 1 ∨ j < 0 ∧ (0 : Nat) ≠ 1); omega), fun q => absurd q (by decide), r4, fun q => absurd rfl q, ⟨Int.le_refl _, by decide⟩, fun k x y => r6 k (by rw [r3] at x; omega) y, fun q => absurd q (by show ¬ (7 : Int) ≤ 0; decide), fun q => absurd q (by show ¬ (41 : Int) ≤ 0; decide), fun q => absurd q (by decide)⟩
/-- a routine that has ended keeps its names -/
theorem uR_old {e : EW} {k : Int} (h0 : 0 ≤ k) (hk : k < r.rt) (h6 : r.rt < 6 → 0 ≤ r.nn r.rt ∧ r.nn r.rt ≤ 12) : k < (uR r e).rt ∧ (uR r e).nn k = r.nn k ∧ ∀ i, 0 ≤ i → i < 12 → (uR r e).nw (12 * k + i) = r.nw (12 * k + i) := by
  have nm : ∀ (w : Int64), (sNm r w).rt = r.rt ∧ (sNm r w).nn k = r.nn k ∧ ∀ i, 0 ≤ i → i < 12 → (sNm r w).nw (12 * k + i) = r.nw (12 * k + i) := fun w => by
    unfold sNm
    by_cases z : r.ph = 1 ∧ r.rt < 6 ∧ ¬ fndN r w ∧ r.nn r.rt ≠ 12
    · rw [ifP_t z]
      have b := h6 z.2.1
      refine ⟨rfl, ?_, fun i a b2 => ?_⟩
      · show up1 r.nn r.rt (r.nn r.rt + 1) k = r.nn k
        unfold up1
        rw [if_neg (by omega)]
      · show up1 r.nw (12 * r.rt + r.nn r.rt) w (12 * k + i) = r.nw (12 * k + i)
        unfold up1
        rw [if_neg (by omega)]
    · rw [ifP_f z]
      exact ⟨rfl, rfl, fun _ _ _ => rfl⟩
  have id : k < r.rt ∧ r.nn k = r.nn k ∧ ∀ i, 0 ≤ i → i < 12 → r.nw (12 * k + i) = r.nw (12 * k + i) := ⟨hk, rfl, fun _ _ _ => rfl⟩
  show k < (sR r e).rt ∧ (sR r e).nn k = r.nn k ∧ ∀ i, 0 ≤ i → i < 12 → (sR r e).nw (12 * k + i) = r.nw (12 * k + i)
  have nm2 : ∀ (w : Int64), k < (sNm r w).rt ∧ (sNm r w).nn k = r.nn k ∧ ∀ i, 0 ≤ i → i < 12 → (sNm r w).nw (12 * k + i) = r.nw (12 * k + i) := fun w => ⟨by rw [(nm w).1]; exact hk, (nm w).2⟩
  unfold sR
  split
  · by_cases z : r.ph = 1
    · rw [ifP_t z]; exact id
    · rw [ifP_f z]; exact id
  split
  · by_cases z : r.ph = 1
    · rw [ifP_t z]; exact nm2 _
    · rw [ifP_f z]; exact id
  split
  · by_cases z : r.ph = 1
    · rw [ifP_t z]; exact id
    · rw [ifP_f z]; exact id
  split
  · exact nm2 _
  split
  · exact id
  split
  · exact id
  split
  · exact ⟨by show k < r.rt + 1; omega, id.2⟩
  exact id
theorem fold_old : ∀ (es : List EW) {r : RS} {k : Int}, 0 ≤ k → k < r.rt → NBD r → (es.foldl uR r).nn k = r.nn k ∧ ∀ i, 0 ≤ i → i < 12 → (es.foldl uR r).nw (12 * k + i) = r.nw (12 * k + i)
  | [], _, _, _, _, _ => ⟨rfl, fun _ _ _ => rfl⟩
  | e :: es, r, k, h0, hk, hb => by
    have a := uR_old (e := e) h0 hk (fun z => hb r.rt (by omega) z)
    have b := (uR_m (e := e) (show 0 ≤ r.rt by omega) hb).2.1
    have c := fold_old es (r := uR r e) h0 a.1 b
    exact ⟨c.1.trans a.2.1, fun i x y => (c.2 i x y).trans (a.2.2 i x y)⟩
/-- the noted fault does not matter for the tables -/
def NFQ (r r' : RS) : Prop := r.1 = r'.1 ∧ r.2.2 = r'.2.2
theorem NFQ.u {r r' : RS} {e : EW} (h : NFQ r r') : NFQ (uR r e) (uR r' e) := by
  obtain ⟨p, f, x⟩ := r
  obtain ⟨p', f', x'⟩ := r'
  obtain ⟨h1, h2⟩ := h
  have h1 : p = p' := h1
  have h2 : x = x' := h2
  subst h1 h2
  have nm : ∀ w, NFQ (sNm (p, f, x) w) (sNm (p, f', x) w) := fun w => by
    unfold sNm
    by_cases z : RS.ph (p, f, x) = 1 ∧ RS.rt (p, f, x) < 6 ∧ ¬ fndN (p, f, x) w ∧ RS.nn (p, f, x) (RS.rt (p, f, x)) ≠ 12
    · rw [ifP_t z, ifP_t (show RS.ph (p, f', x) = 1 ∧ RS.rt (p, f', x) < 6 ∧ ¬ fndN (p, f', x) w ∧ RS.nn (p, f', x) (RS.rt (p, f', x)) ≠ 12 from z)]
      exact ⟨rfl, rfl⟩
    · rw [ifP_f z, ifP_f (show ¬ (RS.ph (p, f', x) = 1 ∧ RS.rt (p, f', x) < 6 ∧ ¬ fndN (p, f', x) w ∧ RS.nn (p, f', x) (RS.rt (p, f', x)) ≠ 12) from z)]
      exact ⟨rfl, rfl⟩
  have go : NFQ (sR (p, f, x) e) (sR (p, f', x) e) := by
    unfold sR
    by_cases c2 : e.1 = 2
    · rw [if_pos c2, if_pos c2]
      by_cases z : p = 1
      · rw [ifP_t (show RS.ph (p, f, x) = 1 from z), ifP_t (show RS.ph (p, f', x) = 1 from z)]; exact ⟨rfl, rfl⟩
      · rw [ifP_f (show ¬ RS.ph (p, f, x) = 1 from z), ifP_f (show ¬ RS.ph (p, f', x) = 1 from z)]; exact ⟨rfl, rfl⟩
    rw [if_neg c2, if_neg c2]
    by_cases c3 : e.1 = 3
    · rw [if_pos c3, if_pos c3]
      by_cases z : p = 1
      · rw [ifP_t (show RS.ph (p, f, x) = 1 from z), ifP_t (show RS.ph (p, f', x) = 1 from z)]; exact nm _
      · rw [ifP_f (show ¬ RS.ph (p, f, x) = 1 from z), ifP_f (show ¬ RS.ph (p, f', x) = 1 from z)]; exact ⟨rfl, rfl⟩
    rw [if_neg c3, if_neg c3]
    by_cases c7 : e.1 = 7
    · rw [if_pos c7, if_pos c7]
      by_cases z : p = 1
      · rw [ifP_t (show RS.ph (p, f, x) = 1 from z), ifP_t (show RS.ph (p, f', x) = 1 from z)]; exact ⟨rfl, rfl⟩
      · rw [ifP_f (show ¬ RS.ph (p, f, x) = 1 from z), ifP_f (show ¬ RS.ph (p, f', x) = 1 from z)]; exact ⟨rfl, rfl⟩
    rw [if_neg c7, if_neg c7]
    by_cases c4 : e.1 = 4
    · rw [if_pos c4, if_pos c4]; exact nm _
    rw [if_neg c4, if_neg c4]
    by_cases c5 : e.1 = 5
    · rw [if_pos c5, if_pos c5]; exact ⟨rfl, rfl⟩
    rw [if_neg c5, if_neg c5]
    by_cases c1 : e.1 = 1
    · rw [if_pos c1, if_pos c1]; exact ⟨rfl, rfl⟩
    rw [if_neg c1, if_neg c1]
    by_cases c0 : e.1 = 0
    · rw [if_pos c0, if_pos c0]; exact ⟨rfl, rfl⟩
    rw [if_neg c0, if_neg c0]
    exact ⟨rfl, rfl⟩
  exact ⟨go.1, go.2⟩
theorem NFQ.fold : ∀ (es : List EW) {r r' : RS}, NFQ r r' → NFQ (es.foldl uR r) (es.foldl uR r')
  | [], _, _, h => h
  | _ :: es, _, _, h => NFQ.fold es h.u
theorem fold_b : ∀ (es : List EW) {r : RS}, 0 ≤ r.rt → NBD r → NBD (es.foldl uR r)
  | [], _, _, h => h
  | e :: es, r, h0, hb => by
    have q := uR_m (e := e) h0 hb
    exact fold_b es q.2.2.1 q.2.1
/-- the names of a routine at the text's end are those at its end -/
theorem names_end {es : List EW} {Pf : Int → List EW} {q : Int} (hr : ST0 r) (s : SHP es 0 0 0) (hp : PFX es Pf) (q0 : 0 ≤ q) (q1 : q < (es.foldl uC c00).rn) (q6 : q < 6) : (es.foldl uR r).nn q = ((Pf q).foldl uC c00).nn ∧ (0 ≤ ((Pf q).foldl uC c00).nn ∧ ((Pf q).foldl uC c00).nn ≤ 12) ∧ ∀ i, 0 ≤ i → i < ((Pf q).foldl uC c00).nn → (es.foldl uR r).nw (12 * q + i) = ((Pf q).foldl uC c00).nk i := by
  obtain ⟨rn1, p, m, w, e2, ee⟩ := hp q q0 q1
  have hr2 : ST0 (r.1, (0, -1), r.2.2) := hr
  have nf : NFQ r (r.1, (0, -1), r.2.2) := ⟨rfl, rfl⟩
  have nbd : NBD r := fun k x y => by rw [hr.2.2.2.2 k x y]; omega
  have s2 := s
  rw [ee] at s2
  obtain ⟨N1, NC, Z, md, pc, lo, k, sh⟩ := K1.pre (Pf q) (K1.ini hr2 rfl) s2
  have md2 : md = 2 := by
    rcases sh with ⟨-, z, -⟩ | ⟨-, z, -⟩ | ⟨-, z, -⟩ | ⟨-, z, -⟩ | ⟨-, z, -⟩ | ⟨z, -⟩
    · exact absurd z (by show ¬ (0 : Int) = 2; decide)
    · exact absurd z (by show ¬ (0 : Int) = 3; decide)
    · exact absurd z (by show ¬ (0 : Int) = 7; decide)
    · exact absurd z (by show ¬ ((0 : Int) = 4 ∨ (0 : Int) = 5); decide)
    · exact absurd z (by show ¬ (0 : Int) = 1; decide)
    · exact z
  have n1 := NFQ.fold (Pf q) nf
  have ert : ((Pf q).foldl uR r).rt = ((Pf q).foldl uR (r.1, (0, -1), r.2.2)).rt := congrArg (fun z => z.1) n1.2
  have enn : ((Pf q).foldl uR r).nn = ((Pf q).foldl uR (r.1, (0, -1), r.2.2)).nn := congrArg (fun z => z.2.2.2.2.2.1) n1.2
  have enw : ((Pf q).foldl uR r).nw = ((Pf q).foldl uR (r.1, (0, -1), r.2.2)).nw := congrArg (fun z => z.2.2.2.2.2.2) n1.2
  have rt : ((Pf q).foldl uR r).rt = q := by
    rcases k.rt with z | z
    · omega
    · rw [ert]; omega
  have kn := k.nn (by omega) (by rw [← ert, rt]; exact q6)
  rw [← ert, rt, ← enn, ← enw] at kn
  have eu : (es.foldl uR r) = e2.foldl uR (uR ((Pf q).foldl uR r) (0, p, m, w)) := by rw [ee, List.foldl_append]; rfl
  have u0 : (uR ((Pf q).foldl uR r) (0, p, m, w)).rt = q + 1 ∧ (uR ((Pf q).foldl uR r) (0, p, m, w)).nn = ((Pf q).foldl uR r).nn ∧ (uR ((Pf q).foldl uR r) (0, p, m, w)).nw = ((Pf q).foldl uR r).nw := ⟨by show ((Pf q).foldl uR r).rt + 1 = q + 1; rw [rt], rfl, rfl⟩
  have fb : NBD ((Pf q).foldl uR r) := fold_b (Pf q) (by rw [hr.2.1]; exact Int.le_refl _) nbd
  have fo := fold_old e2 (r := uR ((Pf q).foldl uR r) (0, p, m, w)) (k := q) q0 (by rw [u0.1]; omega) (fun j x y => by rw [u0.2.1]; exact fb j x y)
  rw [eu]
  rw [u0.2.1, u0.2.2] at fo
  refine ⟨fo.1.trans kn.1, k.nb, fun i x y => ?_⟩
  rw [fo.2 i x (by have := k.nb; omega)]
  exact kn.2 i x y
end NTB
/-- a state to begin with -/
def rs0 : RS := RS.mk 1 (0, -1) 0 0 0 (fun _ => 0) (fun _ => 0) (fun _ => 0) (fun _ => 0)
theorem st0_0 : ST0 rs0 := ⟨rfl, rfl, rfl, rfl, fun _ _ _ => rfl⟩
theorem call_found {es : List EW} (s : SHP es 0 0 0) (r9 : (RA9 (es.foldl uC c00)).1 = 0) : ∀ e ∈ es, e.1 = 1 → fndQ (es.foldl uC c00) e.2.2.2 := fun e he k1 => by
  obtain ⟨pc, lo, k⟩ := K1.run es (K1.ini st0_0 rfl) s
  have l2 := LST.fold (cSs (es.foldl uC c00) (es.foldl uC c00).cn.toNat) k.l2 (pos_cSs _ _)
  have nil : cSs (es.foldl uC c00) (es.foldl uC c00).cn.toNat = [] := by
    rcases l2.2 with ⟨z, -⟩ | ⟨z, -⟩
    · exact (List.append_eq_nil_iff.mp z).2
    · have p := l2.1 _ z
      have p2 : 0 < (RA9 (es.foldl uC c00)).1 := p
      omega
  have cl := CLS.run es (c := c00) (L := []) ⟨rfl, fun i e q => by simp at q⟩
  rw [List.nil_append] at cl
  obtain ⟨i, hi⟩ := List.mem_iff_getElem?.mp ((cls1_mem es).mpr ⟨he, k1⟩)
  have ck := (cl.2 i e hi).1
  have hl : i < (es.foldl uC c00).cn.toNat := by
    rw [cl.1]
    exact Classical.byContradiction fun q => by rw [List.getElem?_eq_none (by omega)] at hi; simp at hi
  apply Classical.byContradiction
  intro nf
  have m : ((es.foldl uC c00).cp i, (3 : Int)) ∈ cSs (es.foldl uC c00) (es.foldl uC c00).cn.toNat := (cSs_mem _).mpr ⟨i, hl, by
    unfold cS
    rw [ifP_f (fun z => by
      obtain ⟨q, a, b, d, -⟩ := z
      exact nf ⟨q, a, b, d.trans ck⟩)]
    exact List.mem_singleton.mpr rfl⟩
  rw [nil] at m
  exact absurd m (by simp)
def NLK (f : RS) (q : Int) (w : Int64) (v : Int) : Prop := (0 ≤ v ∧ v < f.nn q ∧ f.nw (12 * q + v) = w ∧ ∀ j, 0 ≤ j → j < v → f.nw (12 * q + j) ≠ w) ∨ ((∀ j, 0 ≤ j → j < f.nn q → f.nw (12 * q + j) ≠ w) ∧ v = 0)
theorem NLK.one {f : RS} {q : Int} {w : Int64} {v u : Int} (h : NLK f q w v) (g : NLK f q w u) : v = u := by
  rcases h with ⟨a1, a2, a3, a4⟩ | ⟨a1, a2⟩
  · rcases g with ⟨b1, b2, b3, b4⟩ | ⟨b1, b2⟩
    · by_cases c : v < u
      · exact absurd a3 (b4 v a1 c)
      · by_cases c2 : u < v
        · exact absurd b3 (a4 u b1 c2)
        · omega
    · exact absurd a3 (b1 v a1 a2)
  · rcases g with ⟨b1, b2, b3, b4⟩ | ⟨b1, b2⟩
    · exact absurd b3 (a1 u b1 b2)
    · omega
theorem NLK.c {f g : RS} {q : Int} {w : Int64} {v : Int} (h : NLK f q w v) (en : g.nn q = f.nn q) (ew : ∀ i, 0 ≤ i → i < f.nn q → g.nw (12 * q + i) = f.nw (12 * q + i)) : NLK g q w v := by
  rcases h with ⟨a1, a2, a3, a4⟩ | ⟨a1, a2⟩
  · exact Or.inl ⟨a1, by rw [en]; exact a2, by rw [ew v a1 a2]; exact a3, fun j x y => by rw [ew j x (by omega)]; exact a4 j x y⟩
  · exact Or.inr ⟨fun j x y => by rw [en] at y; rw [ew j x y]; exact a1 j x y, a2⟩
def NP6 (S : Int → Int) (q : Int) (w : Int64) (v : Int) : Prop := v < 1000 ∧ ∃ es t x p ρ r0, RE S ([36], advT S 0, (0, 0, 0), qq 0, []) es ([], t, x, p, ρ) ∧ ST0 r0 ∧ NLK (es.foldl uR r0) q w v
noncomputable def nmQ6 (S : Int → Int) (q : Int) (w : Int64) : Int := @dite Int (∃ v, NP6 S q w v) (Classical.propDecidable _) (fun h => Classical.choose h) (fun _ => 0)
theorem nmQ6_lt (S : Int → Int) (q : Int) (w : Int64) : nmQ6 S q w < 1000 := by
  unfold nmQ6
  by_cases h : ∃ v, NP6 S q w v
  · rw [dif_pos h]; exact (Classical.choose_spec h).1
  · rw [dif_neg h]; decide
theorem nmQ6_at {S : Int → Int} {es : List EW} {t : TK} {x : Int × Int × Int} {p : QR} {ρ : List EV} {r : RS} {Pf : Int → List EW} {q : Int} {w : Int64} {v : Int} (hs : SEN S) (re : RE S ([36], advT S 0, (0, 0, 0), qq 0, []) es ([], t, x, p, ρ)) (hr : ST0 r) (hp : PFX es Pf) (q0 : 0 ≤ q) (q1 : q < (es.foldl uC c00).rn) (q6 : q < 6) (h : NLK (es.foldl uR r) q w v) : nmQ6 S q w = v := by
  have sh := re.shp hs
  have n1 := names_end hr sh hp q0 q1 q6
  have vb : v < 1000 := by
    rcases h with ⟨a1, a2, -⟩ | ⟨-, a2⟩
    · rw [n1.1] at a2; omega
    · omega
  have ex : ∃ v, NP6 S q w v := ⟨v, vb, es, t, x, p, ρ, r, re, hr, h⟩
  unfold nmQ6
  rw [dif_pos ex]
  obtain ⟨-, es2, t2, x2, p2, ρ2, r2, re2, hr2, h2⟩ := Classical.choose_spec ex
  have d := (RE.det re re2 rfl rfl evt_nil evt_nil).2
  subst d
  have n2 := names_end hr2 sh hp q0 q1 q6
  exact NLK.one (h2.c (n1.1.trans n2.1.symm) (fun i a b => by rw [n2.1] at b; rw [n1.2.2 i a b, n2.2.2 i a b])) h
theorem nmQ6_hi {S : Int → Int} {es : List EW} {t : TK} {x : Int × Int × Int} {p : QR} {ρ : List EV} {r : RS} {q : Int} {w : Int64} (hs : SEN S) (re : RE S ([36], advT S 0, (0, 0, 0), qq 0, []) es ([], t, x, p, ρ)) (hr : ST0 r) (q1 : (es.foldl uC c00).rn ≤ q) (q6 : q < 6) : nmQ6 S q w = 0 ∧ (es.foldl uR r).nn q = 0 := by
  have sh := re.shp hs
  have z : ∀ r, ST0 r → (es.foldl uR r).nn q = 0 := fun r hr => by
    have nf := NFQ.fold es (show NFQ r (r.1, (0, -1), r.2.2) from ⟨rfl, rfl⟩)
    obtain ⟨pc, lo, k1⟩ := K1.run es (K1.ini (r := (r.1, (0, -1), r.2.2)) hr rfl) sh
    have e : (es.foldl uR r).nn q = (es.foldl uR (r.1, (0, -1), r.2.2)).nn q := congrFun (congrArg (fun z => z.2.2.2.2.2.1) nf.2) q
    rw [e]
    refine k1.nl q ?_ q6
    rcases k1.rt with y | y
    · omega
    · exact absurd rfl y.1
  refine ⟨?_, z r hr⟩
  have nlk : NLK (es.foldl uR r) q w 0 := Or.inr ⟨fun j a b => by rw [z r hr] at b; omega, rfl⟩
  have ex : ∃ v, NP6 S q w v := ⟨0, by decide, es, t, x, p, ρ, r, re, hr, nlk⟩
  unfold nmQ6
  rw [dif_pos ex]
  obtain ⟨-, es2, t2, x2, p2, ρ2, r2, re2, hr2, h2⟩ := Classical.choose_spec ex
  have d := (RE.det re re2 rfl rfl evt_nil evt_nil).2
  subst d
  rcases h2 with ⟨a1, a2, -⟩ | ⟨-, a2⟩
  · rw [z r2 hr2] at a2; omega
  · exact a2
end
section
/-- the maker's first state -/
def mk00 (k v : Int) : MK := ((0, 0, 0, 0, 0), (0, fun _ => zI), (k, v), [], (fun _ => (0, fun _ => zI), fun _ => 0))
/-- what else is kept of the reference's codes -/
def CDB (τ : MS) : Prop := ∀ r, 0 ≤ r → r < τ.1 10 → UNQ (rV τ r) (τ.2.1 9 r) ∧ RZA (rV τ r)
section CDS6
variable {S : Int → Int} {τ σ : MS} {es : List EW} {t : TK} {x : Int × Int × Int} {p : QR} {ρ : List EV} {Pf : Int → List EW} {f : Int → Int}
noncomputable def rnR (τ : MS) (w : Int64) : Int := Classical.epsilon (fun v => RNV τ w v)
theorem rnR_at {w : Int64} {v : Int} (h : RNV τ w v) : rnR τ w = v := RNV.one (Classical.epsilon_spec (p := fun v => RNV τ w v) ⟨v, h⟩) h
theorem rnv_30 {w : Int64} {v r : Int} (h : RNV (sS 30 r τ) w v) : RNV τ w v := h
theorem rnQ_kw {w : Int64} (h : ∃ k, KW k w) : KW (rnQ w) w := by
  unfold rnQ
  rw [dif_pos h]
  exact Classical.choose_spec h
end CDS6
end
section
section KOKS
variable {S : Nat → Prop} {T T2 : CT} {σ σ2 τ τ2 : MS} {a c : Nat} {C E M : Int → Nat} {r : Int}
end KOKS
section MLCG
variable {r Cn : Int} {Gs Gt : Int → RTS} {PM NM : Int → Int}
theorem MLP.cong {H H' : RTS} {k k' d : Int} (hq : H.V k 0 = 10 → Gs (H.V k 2) = Gt (H.V k 2)) (h : MLP r Gs PM NM H k H' k' d) : MLP r Gt PM NM H k H' k' d := by
  by_cases z : H.V k 0 = 10
  · unfold MLP MLD at h ⊢
    rw [← hq z]
    exact h
  · rcases h with ⟨base, lb, lq, j0, m, -⟩ | ⟨-, h⟩
    · exact absurd m.1 z
    · exact Or.inr ⟨fun m => z m.1, h⟩
theorem MLR.cong {t : Nat} {H H' : RTS} {k k' w : Int} (h : MLR r Gs PM NM t H k H' k' w) (k0 : 0 ≤ k) (u : UNQ H.V H.n) (c : CLQ H.V H.n Cn) (hg : ∀ q, 0 ≤ q → q < Cn → 0 ≤ (Gs q).n ∧ UNQ (Gs q).V (Gs q).n ∧ LZ (Gs q).V (Gs q).n) (e : ∀ q, 0 ≤ q → q < Cn → Gs q = Gt q) : MLR r Gt PM NM t H k H' k' w := by
  induction t generalizing H' k' w with
  | zero => exact h
  | succ t ih =>
    obtain ⟨H1, k1, w1, d, h1, h2, h3, h4⟩ := h
    have i := h1.un k0 u c hg
    refine ⟨H1, k1, w1, d, ih h1, h2, h3.cong (fun z => ?_), h4⟩
    have q := i.2.2 k1 i.1 h2 z
    exact e _ q.1 q.2
theorem PSV.cong {w v : Int} {H H' : RTS} (h : PSV w r Gs PM NM H H' v) (u : UNQ H.V H.n) (c : CLQ H.V H.n Cn) (hg : ∀ q, 0 ≤ q → q < Cn → 0 ≤ (Gs q).n ∧ UNQ (Gs q).V (Gs q).n ∧ LZ (Gs q).V (Gs q).n) (e : ∀ q, 0 ≤ q → q < Cn → Gs q = Gt q) : PSV w r Gt PM NM H H' v := by
  rcases h with h | h | h | h | ⟨w4, t, h⟩ | h
  · exact Or.inl h
  · exact Or.inr (Or.inl h)
  · exact Or.inr (Or.inr (Or.inl h))
  · exact Or.inr (Or.inr (Or.inr (Or.inl h)))
  · exact Or.inr (Or.inr (Or.inr (Or.inr (Or.inl ⟨w4, t, h.cong (Int.le_refl 0) u c hg e⟩))))
  · exact Or.inr (Or.inr (Or.inr (Or.inr (Or.inr h))))
end MLCG
section PAS6
variable {S : Nat → Prop} {T T2 : CT} {σ σ2 τ τ2 : MS} {a : Nat} {C E M : Int → Nat} {r w u v : Int}
end PAS6
end
section
theorem b0 {r : Int} : bkm 0 + r = r := by show (0 : Int) + r = r; omega
section STEP7
variable {T : CT} {σ σ2 τ τ2 : MS} {a xa xb xc xd xe xf y : Nat} {C : Int → Nat} {t r p j v w g : Int}
end STEP7
end
section
/-- no two parameters share a register -/
def PMD (H : Int → Int) (P : Int) : Prop := ∀ i j, 0 ≤ i → i < P → 0 ≤ j → j < P → H i = H j → i = j
section DEC
variable {V : Int → It} {n P id k r x y : Int} {H : Int → Int} {i j : It}
end DEC
section CJS
variable {V : Int → It} {n P was iz id k : Int} {H : Int → Int}
end CJS
section SLS
variable {Hn : Int → Int} {f g m u F : Int}
end SLS
section TRI
variable {V : Int → It} {H Hn : Int → Int} {n P F k z id y bk f m : Int}
end TRI
abbrev TBL : Type := Int → Int → Int
section TBS
variable {V : Int → It} {H Hn : Int → Int} {n P N F wd k t : Int} {tb tb2 : TBL} {b st : Int → Int}
end TBS
end
section
def whI (PM : Int → Int) (i : It) : Prop := 0 ≤ i 0 ∧ (∀ j, 0 ≤ j → j < nAr PM i → j < 4 → (i (3 + 2 * j) = 1 ∨ i (3 + 2 * j) = 2)) ∧ (i 0 = 12 → ((1 ≤ i 11 ∧ i 11 ≤ 7) ∨ (11 ≤ i 11 ∧ i 11 ≤ 14)) ∧ ((i 11 = 1 ∨ i 11 = 2) → i 3 = i 11))
def KKn (K : KN) : Prop := ∀ g, (K g).1 = 0 ∨ (K g).1 = 1 ∨ (K g).1 = 2
section WHS
variable {PM : Int → Int} {V V' O : Int → It} {n n' m k w : Int} {x i : It} {K : KN}
theorem nAr_1 (h : i 0 = 0 ∨ i 0 = 6 ∨ i 0 = 7 ∨ i 0 = 9) : nAr PM i = 1 := by
  unfold nAr
  rw [if_neg (by omega), if_neg (by omega), if_neg (by omega), if_pos h]
theorem nAr_2 (h : 1 ≤ i 0 ∧ i 0 ≤ 5) : nAr PM i = 2 := by
  unfold nAr
  rw [if_neg (by omega), if_neg (by omega), if_pos h]
theorem nAr_0 (h : i 0 = 8 ∨ i 0 = 11 ∨ 13 ≤ i 0) : nAr PM i = 0 := by
  unfold nAr
  rw [if_neg (by omega), if_neg (by omega), if_neg (by omega), if_neg (by omega)]
theorem nAr_b (h : i 0 = 12) : nAr PM i = if 10 ≤ i 11 then 0 else if 2 < i 11 then 2 else 1 := by
  unfold nAr
  rw [if_neg (by omega), if_pos h]
theorem nAr_c {j : It} (h0 : j 0 = i 0) (h2 : i 0 = 10 → j 2 = i 2) (h11 : j 11 = i 11) : nAr PM j = nAr PM i := by
  unfold nAr
  rw [h0, h11]
  by_cases c : i 0 = 10
  · rw [if_pos c, if_pos c, h2 c]
  · rw [if_neg c, if_neg c]
theorem wh_0 (h0 : 0 ≤ i 0) (h : i 0 = 8 ∨ i 0 = 11 ∨ 13 ≤ i 0) : whI PM i := ⟨h0, fun j a b => by rw [nAr_0 h] at b; omega, fun e => by omega⟩
theorem wh_1 (h : i 0 = 0 ∨ i 0 = 6 ∨ i 0 = 7 ∨ i 0 = 9) (h3 : i 3 = 1 ∨ i 3 = 2) : whI PM i := ⟨by omega, fun j a b _ => by
  rw [nAr_1 h] at b
  rw [show j = 0 by omega]; exact h3, fun e => by omega⟩
theorem wh_b (h : i 0 = 12) (h11 : i 11 = 1 ∨ i 11 = 2) (h3 : i 3 = i 11) : whI PM i := ⟨by omega, fun j a b _ => by
  rw [nAr_b h, if_neg (by omega), if_neg (by omega)] at b
  rw [show j = 0 by omega]
  show i 3 = 1 ∨ i 3 = 2
  omega, fun _ => ⟨Or.inl (by omega), fun _ => h3⟩⟩
theorem wh_g (h : i 0 = 12) (h11 : 11 ≤ i 11 ∧ i 11 ≤ 14) : whI PM i := ⟨by omega, fun j a b _ => by
  rw [nAr_b h, if_pos (by omega)] at b
  omega, fun _ => ⟨Or.inr h11, fun q => by omega⟩⟩
theorem wh_s (h : i 0 = 12) (h11 : 3 ≤ i 11 ∧ i 11 ≤ 7) (h3 : i 3 = 1 ∨ i 3 = 2) (h5 : i 5 = 1 ∨ i 5 = 2) : whI PM i := ⟨by omega, fun j a b _ => by
  rw [nAr_b h, if_neg (by omega), if_pos (by omega)] at b
  have : j = 0 ∨ j = 1 := by omega
  rcases this with rfl | rfl
  · exact h3
  · exact h5, fun _ => ⟨Or.inl (by omega), fun q => by omega⟩⟩
/-- the same kinds -/
theorem wh_c {j : It} (h : whI PM i) (h0 : j 0 = i 0) (h2 : i 0 = 10 → j 2 = i 2) (h11 : j 11 = i 11) (hk : ∀ u, 0 ≤ u → u < 4 → j (3 + 2 * u) = i (3 + 2 * u)) : whI PM j := ⟨by rw [h0]; exact h.1, fun u a b c => by
  rw [nAr_c h0 h2 h11] at b
  rw [hk u a c]; exact h.2.1 u a b c, fun e => by
  rw [h0] at e
  have q := h.2.2 e
  rw [h11, show j 3 = i 3 from hk 0 (by decide) (by decide)]; exact q⟩
theorem wh_3 (h : whI PM i) (h0 : i 0 = 0 ∨ i 0 = 6 ∨ i 0 = 7 ∨ i 0 = 9 ∨ (1 ≤ i 0 ∧ i 0 ≤ 5)) : i 3 = 1 ∨ i 3 = 2 := by
  refine h.2.1 0 (by decide) ?_ (by decide)
  by_cases c : 1 ≤ i 0 ∧ i 0 ≤ 5
  · rw [nAr_2 c]; decide
  · rw [nAr_1 (by omega)]; decide
theorem wh_5 (h : whI PM i) (h0 : 1 ≤ i 0 ∧ i 0 ≤ 5) : i 5 = 1 ∨ i 5 = 2 := h.2.1 1 (by decide) (by rw [nAr_2 h0]; decide) (by decide)
/-- FOLD -/
theorem foO_c {c : Int} (h : c < 3 ∨ 11 ≤ c) : foO K i 4 c = i c := if_neg (by omega)
theorem foO_kd (hk : KKn K) {u : Int} (u0 : 0 ≤ u) (u1 : u < 4) : foO K i 4 (3 + 2 * u) = i (3 + 2 * u) ∨ foO K i 4 (3 + 2 * u) = 1 ∨ foO K i 4 (3 + 2 * u) = 2 := by
  have e : (3 + 2 * u - 3) / 2 = u := by omega
  unfold foO
  rw [e]
  by_cases c : 3 ≤ 3 + 2 * u ∧ 3 + 2 * u < 3 + 2 * 4 ∧ i (3 + 2 * u) = 2 ∧ (K (i (4 + 2 * u))).1 ≠ 0
  · rw [if_pos c, if_pos (by omega)]
    have q := hk (i (4 + 2 * u))
    have w := c.2.2.2
    omega
  · rw [if_neg c]; exact Or.inl rfl
theorem wh_foO (h : whI PM i) (hk : KKn K) (h12 : i 0 ≠ 12) : whI PM (foO K i 4) := ⟨by rw [foO_c (by decide)]; exact h.1, fun j a b c => by
  rw [nAr_c (foO_c (by decide)) (fun _ => foO_c (by decide)) (foO_c (by decide))] at b
  rcases foO_kd (i := i) hk a c with q | q
  · rw [q]; exact h.2.1 j a b c
  · exact q, fun e => absurd ((foO_c (K := K) (i := i) (c := 0) (by decide)).symm.trans e) h12⟩
theorem wh_foA (h : whI PM i) : whI PM (foA i) := by
  unfold foA
  by_cases c : five2 i
  · rw [dI_y c]
    refine wh_1 (Or.inl ?_) (Or.inl ?_)
    · show uZ (uZ (uZ (uZ (uZ i 0 0) 3 _) 4 _) 5 0) 6 0 0 = 0
      rw [uZ_ne (by decide), uZ_ne (by decide), uZ_ne (by decide), uZ_ne (by decide), uZ_eq]
    · show uZ (uZ (uZ (uZ (uZ i 0 0) 3 _) 4 _) 5 0) 6 0 3 = 1
      rw [uZ_ne (by decide), uZ_ne (by decide), uZ_ne (by decide), uZ_eq]
  · rw [dI_n c]; exact h
theorem wh_foZ (h : whI PM i) : whI PM (foZ i) := by
  unfold foZ
  by_cases c : zer1 i
  · rw [dI_y c]
    have e : uZ (uZ (uZ i 0 8) 3 0) 4 0 0 = 8 := by rw [uZ_ne (by decide), uZ_ne (by decide), uZ_eq]
    exact wh_0 (by rw [e]; decide) (Or.inl e)
  · rw [dI_n c]; exact h
theorem wh_foB (h : whI PM i) (h0 : i 0 = 12) : whI PM (foB K i) := by
  unfold foB
  by_cases c : i 11 = 2 ∧ (K (i 4)).1 = 1
  · rw [dI_y c]
    refine wh_b ?_ (Or.inl ?_) ?_
    · rw [uZ_ne (by decide), uZ_ne (by decide), uZ_ne (by decide)]; exact h0
    · rw [uZ_ne (by decide), uZ_ne (by decide), uZ_eq]
    · rw [uZ_ne (by decide), uZ_eq, uZ_ne (by decide), uZ_ne (by decide), uZ_eq]
  · rw [dI_n c]; exact h
theorem kk_lrn (h : whI PM i) (hk : KKn K) : KKn (lrn i K) := by
  unfold lrn
  by_cases c : i 0 ≤ 5 ∨ i 0 = 10
  · rw [dI_y c]
    intro g
    unfold lrnF
    by_cases a : g = i 1
    · rw [if_pos a]
      by_cases b : i 0 = 0 ∧ ¬ (i 3 = 2 ∧ i 4 = i 1) ∧ i 3 ≠ 0
      · rw [if_pos b]
        have q := wh_3 h (Or.inl b.1)
        exact Or.inr q
      · rw [if_neg b]; exact Or.inl rfl
    · rw [if_neg a]
      by_cases b : K g = (2, i 1)
      · rw [if_pos b]; exact Or.inl rfl
      · rw [if_neg b]; exact hk g
  · rw [dI_n c]; exact hk
/-- of the first n items -/
def WHN (PM : Int → Int) (V : Int → It) (n : Int) : Prop := ∀ k, 0 ≤ k → k < n → whI PM (V k)
theorem WHN.put (h : WHN PM V n) (hx : whI PM x) : WHN PM (uZ V n x) (n + 1) := fun k a b => by
  by_cases e : k = n
  · rw [e, uZ_eq]; exact hx
  · rw [uZ_ne e]; exact h k a (by omega)
theorem WHN.set (h : WHN PM V n) (hx : whI PM x) : WHN PM (uZ V k x) n := fun j a b => by
  by_cases e : j = k
  · rw [e, uZ_eq]; exact hx
  · rw [uZ_ne e]; exact h j a b
theorem kk_z : KKn (fun _ => (0, 0)) := fun _ => Or.inl rfl
theorem WHN.fold (h : WHN PM V n) (t : Nat) (ht : (t : Int) ≤ n) : KKn (foS V t).1 ∧ 0 ≤ (foS V t).2.1 ∧ WHN PM (foS V t).2.2.2 (foS V t).2.1 := by
  induction t with
  | zero => exact ⟨kk_z, Int.le_refl _, fun k a b => absurd b (by show ¬ k < 0; omega)⟩
  | succ t ih =>
    obtain ⟨i1, i2, i3⟩ := ih (by omega)
    have v := h t (by omega) (by omega)
    show KKn (foT (foS V t) (V t)).1 ∧ 0 ≤ (foT (foS V t) (V t)).2.1 ∧ WHN PM (foT (foS V t) (V t)).2.2.2 (foT (foS V t) (V t)).2.1
    unfold foT
    by_cases a : V t 0 = 13
    · rw [if_pos a]; exact ⟨kk_z, by show 0 ≤ (foS V t).2.1 + 1; omega, i3.put v⟩
    · rw [if_neg a]
      by_cases b : V t 0 = 12
      · rw [if_pos b]; exact ⟨i1, by show 0 ≤ (foS V t).2.1 + 1; omega, i3.put (wh_foB v b)⟩
      · rw [if_neg b]
        by_cases c : V t 0 ≤ 10
        · rw [if_pos c]
          have y := wh_foZ (wh_foA (wh_foO v i1 b))
          have kl := kk_lrn y i1
          unfold foX
          by_cases z : zer1 (foA (foO (foS V t).1 (V t) 4)) ∧ foA (foO (foS V t).1 (V t) 4) 4 ≠ 0
          · show KKn (lrn _ _) ∧ 0 ≤ dI _ _ _ ∧ WHN PM (dI _ _ _) (dI _ _ _)
            rw [dI_y z, dI_y z]; exact ⟨kl, i2, i3⟩
          · show KKn (lrn _ _) ∧ 0 ≤ dI _ _ _ ∧ WHN PM (dI _ _ _) (dI _ _ _)
            rw [dI_n z, dI_n z]; exact ⟨kl, by omega, i3.put y⟩
        · rw [if_neg c]; exact ⟨i1, by show 0 ≤ (foS V t).2.1 + 1; omega, i3.put v⟩
/-- DROP -/
theorem WHN.to (h : WHN PM V n) (hk : 0 ≤ k ∧ k < n) : WHN PM (toV V k) (n - 1) := fun i a b => by
  unfold toV
  by_cases c : i < k
  · rw [if_pos c]; exact h i a (by omega)
  · rw [if_neg c]; exact h (i + 1) (by omega) (by omega)
theorem wh_goI (h : i 0 = 12) (hw : 11 ≤ w ∧ w ≤ 14) : whI PM (goI i w) := by
  refine wh_g ?_ ?_
  · show uZ (uZ (uZ (uZ (uZ i 11 w) 3 0) 4 0) 5 0) 6 0 0 = 12
    rw [uZ_ne (by decide), uZ_ne (by decide), uZ_ne (by decide), uZ_ne (by decide), uZ_ne (by decide)]; exact h
  · show 11 ≤ uZ (uZ (uZ (uZ (uZ i 11 w) 3 0) 4 0) 5 0) 6 0 11 ∧ uZ (uZ (uZ (uZ (uZ i 11 w) 3 0) 4 0) 5 0) 6 0 11 ≤ 14
    rw [uZ_ne (by decide), uZ_ne (by decide), uZ_ne (by decide), uZ_ne (by decide), uZ_eq]; exact hw
theorem wh_tkI (h : i 0 = 12) (hx : whI PM x) (h5 : x 0 ≤ 5) : whI PM (tkI x i) := by
  have x0 := hx.1
  unfold tkI
  by_cases c : x 0 = 0
  · rw [if_pos c]
    have q := wh_3 hx (Or.inl c)
    refine wh_b ?_ ?_ ?_
    · rw [uZ_ne (by decide), uZ_ne (by decide), uZ_ne (by decide)]; exact h
    · rw [uZ_ne (by decide), uZ_ne (by decide), uZ_eq]; exact q
    · rw [uZ_ne (by decide), uZ_eq, uZ_ne (by decide), uZ_ne (by decide), uZ_eq]
  · rw [if_neg c]
    have q3 := wh_3 hx (Or.inr (Or.inr (Or.inr (Or.inr ⟨by omega, h5⟩))))
    have q5 := wh_5 hx ⟨by omega, h5⟩
    refine wh_s ?_ ?_ ?_ ?_
    · rw [uZ_ne (by decide), uZ_ne (by decide), uZ_ne (by decide), uZ_ne (by decide), uZ_ne (by decide)]; exact h
    · rw [uZ_ne (by decide), uZ_ne (by decide), uZ_ne (by decide), uZ_ne (by decide), uZ_eq]; omega
    · rw [uZ_ne (by decide), uZ_ne (by decide), uZ_ne (by decide), uZ_eq]; exact q3
    · rw [uZ_ne (by decide), uZ_eq]; exact q5
theorem WHN.rb (h : WHN PM V n) (hk : 0 ≤ k ∧ k < n) (h5 : V k 0 ≤ 5) : WHN PM (rbV V n k) n := fun i a b => by
  unfold rbV
  by_cases c : nrV V n k i ∧ V i 0 = 12 ∧ V i 11 = 2 ∧ V i 4 = V k 1
  · rw [dI_y c]; exact wh_tkI c.2.1 (h k hk.1 hk.2) h5
  · rw [dI_n c]
    by_cases d : (0 ≤ i ∧ i < n) ∧ RCG V n (k + 1) (fun j => wrT (V j) (V k 1)) i ∧ V i 0 = 12 ∧ rdI (V i) (V k 1)
    · rw [dI_y d]; exact wh_goI d.2.2.1 (by decide)
    · rw [dI_n d]; exact h i a b
theorem WHN.drr (h : WHN PM V n) (t : Nat) (ht : (t : Int) ≤ n) : 0 ≤ (dr1 V n t).1 ∧ WHN PM (dr1 V n t).2.2 (dr1 V n t).1 := by
  induction t with
  | zero => exact ⟨Int.le_refl _, fun k a b => absurd b (by show ¬ k < 0; omega)⟩
  | succ t ih =>
    obtain ⟨i1, i2⟩ := ih (by omega)
    show 0 ≤ (dI (RCG V n 0 (fun _ => False) t) ((dr1 V n t).1 + 1, (dr1 V n t).2.1, uZ (dr1 V n t).2.2 (dr1 V n t).1 (V t)) ((dr1 V n t).1, (dr1 V n t).2.1 + (if V t 0 ≤ 10 then 1 else 0), (dr1 V n t).2.2)).1 ∧ WHN PM (dI (RCG V n 0 (fun _ => False) t) ((dr1 V n t).1 + 1, (dr1 V n t).2.1, uZ (dr1 V n t).2.2 (dr1 V n t).1 (V t)) ((dr1 V n t).1, (dr1 V n t).2.1 + (if V t 0 ≤ 10 then 1 else 0), (dr1 V n t).2.2)).2.2 (dI (RCG V n 0 (fun _ => False) t) ((dr1 V n t).1 + 1, (dr1 V n t).2.1, uZ (dr1 V n t).2.2 (dr1 V n t).1 (V t)) ((dr1 V n t).1, (dr1 V n t).2.1 + (if V t 0 ≤ 10 then 1 else 0), (dr1 V n t).2.2)).1
    by_cases c : RCG V n 0 (fun _ => False) t
    · rw [dI_y c]; exact ⟨by show 0 ≤ (dr1 V n t).1 + 1; omega, i2.put (h t (by omega) (by omega))⟩
    · rw [dI_n c]; exact ⟨i1, i2⟩
theorem WHN.drt {t : Nat} (h : WHN PM V n) (g : DRT t V n V' n') : WHN PM V' n' := by
  induction t generalizing V' n' with
  | zero => rw [g.1, g.2]; exact h
  | succ t ih =>
    obtain ⟨V1, n1, k, h1, h2, h3, h4⟩ := g
    rw [h3, h4]
    exact ((ih h1).rb ⟨h2.1, h2.2.1⟩ h2.2.2.1.1).to ⟨h2.1, h2.2.1⟩
/-- MOVE, ALIKE -/
theorem WHN.li {p : Int} (h : WHN PM V n) (hp : 0 ≤ p) (hk : p ≤ k ∧ k < n) : WHN PM (liV V k p) n := fun i a b => by
  unfold liV
  by_cases c : i = p
  · rw [if_pos c]; exact h k (by omega) hk.2
  · rw [if_neg c]
    by_cases d : p < i ∧ i ≤ k
    · rw [if_pos d]; exact h (i - 1) (by omega) (by omega)
    · rw [if_neg d]; exact h i a b
theorem WHN.mvt {H : Int → Prop} {q p a : Int} {t : Nat} (u : WHN PM V n) (hp : 0 ≤ p) (hq : q < n) (h : MVT H n q t V p V' a) : WHN PM V' n ∧ 0 ≤ a := by
  induction t generalizing V' a with
  | zero => rw [h.1, h.2]; exact ⟨u, hp⟩
  | succ t ih =>
    obtain ⟨V1, p1, k, g1, g2, g3, g4⟩ := h
    obtain ⟨i1, i2⟩ := ih g1
    rw [g3, g4]; exact ⟨i1.li i2 ⟨g2.1, by have := g2.2.1; omega⟩, by omega⟩
theorem WHN.mva {H : Int → Prop} {t : Nat} (u : WHN PM V n) (h : MVA H n t V V' w) (ht : (t : Int) ≤ n) : WHN PM V' n := by
  induction t generalizing V' w with
  | zero => rw [h.1]; exact u
  | succ t ih =>
    obtain ⟨V1, w1, d, h1, h2, h3⟩ := h
    have i := ih h1 (by omega)
    rcases h2 with ⟨a, b, c⟩ | ⟨a, q, b, ⟨c, d, e⟩ | ⟨c, t, p, d, e, f⟩⟩
    · rw [b]; exact i
    · rw [d]; exact i
    · exact (i.mvt (by omega) b.2.1 d).1
theorem wh_cpy {v : Int} {j : Int} (hj : j = 1 ∨ j = 2) : whI PM (cpyI i j v) := by
  refine wh_1 (Or.inl ?_) ?_
  · show uZ (uZ (uZ (uZ (uZ i 0 0) 3 _) 4 _) 5 0) 6 0 0 = 0
    rw [uZ_ne (by decide), uZ_ne (by decide), uZ_ne (by decide), uZ_ne (by decide), uZ_eq]
  · show uZ (uZ (uZ (uZ (uZ i 0 0) 3 j) 4 _) 5 0) 6 0 3 = 1 ∨ uZ (uZ (uZ (uZ (uZ i 0 0) 3 j) 4 _) 5 0) 6 0 3 = 2
    rw [uZ_ne (by decide), uZ_ne (by decide), uZ_ne (by decide), uZ_eq]; exact hj
theorem WHN.als {t : Nat} (u : WHN PM V n) (h : ALS t V V' w) : WHN PM V' n := by
  induction t generalizing V' w with
  | zero => rw [h.1]; exact u
  | succ t ih =>
    obtain ⟨V1, w1, d, h1, h2, h3⟩ := h
    rcases h2 with ⟨j, a, b, c, e⟩ | ⟨a, b, c⟩
    · rw [c]; exact (ih h1).set (wh_cpy (Or.inr rfl))
    · rw [b]; exact ih h1
/-- SHARE -/
theorem wh_rn {nb : Int → Int} (h : whI PM i) : whI PM (rnI nb i) := by
  have e : ∀ c, c = 0 ∨ c = 2 ∨ c = 3 ∨ c = 5 ∨ c = 7 ∨ c = 9 ∨ c = 11 → rnI nb i c = i c := fun c hc => by
    unfold rnI
    rw [if_neg (by omega), if_neg (fun y => by have := y.1; omega)]
  refine wh_c h (e 0 (by omega)) (fun _ => e 2 (by omega)) (e 11 (by omega)) (fun u a b => e _ (by omega))
theorem WHN.sh {nb : Int → Int} {bg : Int → Prop} (u : WHN PM V n) : WHN PM (shV V n nb bg) n := fun i a b => by
  unfold shV
  rw [if_pos ⟨a, b⟩]
  refine wh_rn ?_
  unfold ubV
  by_cases c : (0 ≤ i ∧ i < n) ∧ V i 0 = 12 ∧ RCG V n 0 (fun _ => False) i ∧ ∃ u, rdI (V i) u ∧ lsV V n nb bg i u
  · rw [dI_y c]; exact wh_goI c.2.1 (by decide)
  · rw [dI_n c]; exact u i a b
/-- MELT -/
def WHB (PM : Int → Int) (s : BB) : Prop := 0 ≤ s.1 ∧ WHN PM s.2 s.1
theorem WHB.add {s : BB} (h : WHB PM s) (hx : whI PM x) : WHB PM (bA s x) := ⟨by show 0 ≤ s.1 + 1; have := h.1; omega, h.2.put hx⟩
theorem wh_m1 {a b c d e f : Int} (h0 : 0 ≤ a) (h : a = 8 ∨ a = 11 ∨ 13 ≤ a) : whI PM (mkI a b c d e f) := wh_0 h0 h
theorem WHB.one {f base P : Int} {na : Int → Int} {y : It} {s : BB} (h : WHB PM s) (hy : ∀ j, 0 ≤ j → j < P → y (3 + 2 * j) = 1 ∨ y (3 + 2 * j) = 2) (t : Nat) : WHB PM (mb1 f base P na y s t) := by
  induction t with
  | zero => exact h
  | succ t ih =>
    show WHB PM (nmS f base P na y t (mb1 f base P na y s t))
    unfold nmS
    by_cases c : (t : Int) < P
    · rw [if_pos c]
      exact (ih.add (wh_1 (Or.inl rfl) (hy t (by omega) c))).add (wh_b rfl (Or.inr rfl) rfl)
    · rw [if_neg c]
      exact ih.add (wh_b rfl (Or.inl rfl) rfl)
theorem WHB.two {base : Int} {lv : Int → Prop} {s : BB} (h : WHB PM s) (t : Nat) : WHB PM (mb2 base lv s t) := by
  induction t with
  | zero => exact h
  | succ t ih =>
    show WHB PM (dI (lv t) (bA (mb2 base lv s t) (mkI 0 (base + t) 0 1 0 0)) (mb2 base lv s t))
    by_cases a : lv t
    · rw [dI_y a]; exact ih.add (wh_1 (Or.inl rfl) (Or.inl rfl))
    · rw [dI_n a]; exact ih
theorem wh_ml {f base lb : Int} (h : whI PM i) : whI PM (mlI f base lb i) := by
  have so : ∀ c, c ≠ 4 → c ≠ 6 → c ≠ 8 → c ≠ 10 → shO base i c = i c := fun c a b d e => if_neg (by omega)
  have ks : ∀ (z v : Int), z = 1 ∨ z = 2 → ∀ u, 0 ≤ u → u < 4 → uZ (shO base i) z v (3 + 2 * u) = i (3 + 2 * u) := fun z v hz u a b => by
    rw [uZ_ne (by omega)]; exact so _ (by omega) (by omega) (by omega) (by omega)
  unfold mlI
  by_cases a : i 0 = 8 ∨ i 0 = 9 ∨ i 0 = 13
  · rw [if_pos a]
    exact wh_c h ((uZ_ne (by decide)).trans (so 0 (by decide) (by decide) (by decide) (by decide))) (fun e => by omega) ((uZ_ne (by decide)).trans (so 11 (by decide) (by decide) (by decide) (by decide))) (ks _ _ (Or.inl rfl))
  · rw [if_neg a]
    by_cases b : i 0 = 11 ∨ i 0 = 12
    · rw [if_pos b]
      exact wh_c h ((uZ_ne (by decide)).trans (so 0 (by decide) (by decide) (by decide) (by decide))) (fun e => by omega) ((uZ_ne (by decide)).trans (so 11 (by decide) (by decide) (by decide) (by decide))) (ks _ _ (Or.inr rfl))
    · rw [if_neg b]
      by_cases c : i 0 = 14 ∨ i 0 = 15
      · rw [if_pos c]
        exact wh_c h ((uZ_ne (by decide)).trans (so 0 (by decide) (by decide) (by decide) (by decide))) (fun e => by omega) ((uZ_ne (by decide)).trans (so 11 (by decide) (by decide) (by decide) (by decide))) (ks _ _ (Or.inl rfl))
      · rw [if_neg c]
        by_cases d : i 0 = 6
        · rw [if_pos d]
          exact wh_c h (so 0 (by decide) (by decide) (by decide) (by decide)) (fun e => by omega) (so 11 (by decide) (by decide) (by decide) (by decide)) (fun u a b => so _ (by omega) (by omega) (by omega) (by omega))
        · rw [if_neg d]
          exact wh_c h ((uZ_ne (by decide)).trans (so 0 (by decide) (by decide) (by decide) (by decide))) (fun _ => (uZ_ne (by decide)).trans (so 2 (by decide) (by decide) (by decide) (by decide))) ((uZ_ne (by decide)).trans (so 11 (by decide) (by decide) (by decide) (by decide))) (ks _ _ (Or.inl rfl))
theorem WHB.three {f base lb to out : Int} {s : BB} (h : WHB PM s) (hV : WHN PM V n) (t : Nat) (ht : (t : Int) ≤ n) : WHB PM (mb3 f base lb to out V s t) := by
  induction t with
  | zero => exact h
  | succ t ih =>
    have ih := ih (by omega)
    have v := hV t (by omega) (by omega)
    show WHB PM (if V t 0 = 7 then bA (bA (mb3 f base lb to out V s t) (uZ (uZ (shO base (V t)) 0 0) 1 to)) (mkI 8 out 0 0 0 0) else bA (mb3 f base lb to out V s t) (mlI f base lb (V t)))
    by_cases a : V t 0 = 7
    · rw [if_pos a]
      refine (ih.add (wh_1 (Or.inl ?_) ?_)).add (wh_m1 (by decide) (Or.inl rfl))
      · rw [uZ_ne (by decide), uZ_eq]
      · rw [uZ_ne (by decide), uZ_ne (by decide), show shO base (V t) 3 = V t 3 from if_neg (by omega)]
        exact wh_3 v (by omega)
    · rw [if_neg a]
      exact ih.add (wh_ml v)
theorem WHB.mm1 {f base lb out to P N nq : Int} {na : Int → Int} {y : It} {lv : Int → Prop} (hV : WHN PM V nq) (h0 : 0 ≤ nq) (hy : ∀ j, 0 ≤ j → j < P → y (3 + 2 * j) = 1 ∨ y (3 + 2 * j) = 2) : WHB PM (mkB f base lb out to P N nq na y lv V) :=
  ((((((show WHB PM ((0 : Int), fun _ => zI) from ⟨Int.le_refl _, fun k a b => absurd b (by show ¬ k < 0; omega)⟩).add (wh_m1 (by decide) (Or.inr (Or.inr (by decide))))).one hy _).two _).three hV _ (by omega)).add (wh_m1 (by decide) (Or.inr (Or.inr (by decide))))).add (wh_m1 (by decide) (Or.inr (Or.inr (by decide))))
theorem WHN.sp {B : BB} (u : WHN PM V n) (b : WHB PM B) (hk : 0 ≤ k ∧ k < n) : WHN PM (spV V k B.1 B.2) (n + B.1 - 1) := fun i a c => by
  unfold spV
  by_cases d : i < k
  · rw [if_pos d]; exact u i a (by omega)
  · rw [if_neg d]
    by_cases e : i < k + B.1
    · rw [if_pos e]; exact b.2 _ (by omega) (by omega)
    · rw [if_neg e]; exact u _ (by omega) (by omega)
end WHS
/-- no CALL stands in it -/
def NCL (G : RTS) : Prop := ∀ j, 0 ≤ j → j < G.n → G.V j 0 ≠ 10
/-- of all that a pass needs: the routine's items, the others', the parameters -/
theorem WHN.mlr {r : Int} {Gs : Int → RTS} {PM NM : Int → Int} {t : Nat} {H H' : RTS} {k k' w : Int} (u : WHN PM H.V H.n) (k0 : 0 ≤ k) (hG : ∀ q, NCL (Gs q) → ((0 ≤ (Gs q).n) ∧ WHN PM (Gs q).V (Gs q).n) ∧ PM q ≤ 4) (h : MLR r Gs PM NM t H k H' k' w) : WHN PM H'.V H'.n ∧ 0 ≤ k' := by
  induction t generalizing H' k' w with
  | zero => rw [h.1, h.2.1]; exact ⟨u, k0⟩
  | succ t ih =>
    obtain ⟨H1, k1, w1, d, h1, h2, h3, h4⟩ := h
    obtain ⟨i, j⟩ := ih h1
    rcases h3 with ⟨base, lb, lq, j0, m, m1, m2, m3, m4, e1, e2, e3⟩ | ⟨m, e1, e2, e3⟩
    · have v := i k1 j h2
      obtain ⟨hg, hP⟩ := hG (H1.V k1 2) m.2.2.1
      have B : WHB PM (mkS H1 (Gs (H1.V k1 2)) k1 base lb lq (PM (H1.V k1 2)) (NM (H1.V k1 2))) := WHB.mm1 hg.2 hg.1 (fun c c0 c1 => v.2.1 c c0 (by unfold nAr; rw [if_pos m.1]; exact c1) (by omega))
      rw [e1, e2]
      exact ⟨WHN.sp i B ⟨j, h2⟩, by have := B.1; omega⟩
    · rw [e1, e2]; exact ⟨i, by omega⟩
theorem PSV.wh {w r v : Int} {Gs : Int → RTS} {PM NM : Int → Int} {H H' : RTS} (h : PSV w r Gs PM NM H H' v) (u : WHN PM H.V H.n) (h0 : 0 ≤ H.n) (hG : ∀ q, NCL (Gs q) → ((0 ≤ (Gs q).n) ∧ WHN PM (Gs q).V (Gs q).n) ∧ PM q ≤ 4) : WHN PM H'.V H'.n := by
  rcases h with ⟨a, ⟨K, b⟩, _⟩ | ⟨a, ⟨t, b, _⟩, _⟩ | ⟨a, b, d, _⟩ | ⟨a, b, d, _⟩ | ⟨a, t, b⟩ | ⟨a, nb, b, b1, b2, b3⟩
  · have z := u.fold H.n.toNat (by omega)
    rw [b] at z
    exact z.2.2
  · exact (u.drr _ (by omega)).2.drt b
  · rw [d]; exact u.mva b (by omega)
  · rw [d]; exact u.als b
  · exact (u.mlr (Int.le_refl 0) hG b).1
  · rw [b2]; exact u.sh
/-- the parameters' registers stay apart -/
theorem PSV.pmd {w r v : Int} {Gs : Int → RTS} {PM NM : Int → Int} {H H' : RTS} (h : PSV w r Gs PM NM H H' v) (u : PMD (H.na 0) (PM r)) (hF : 0 < H.F) (hN : PM r ≤ NM (H.fo 0)) (hR : ∀ m, 0 ≤ m → m < PM r → 0 ≤ H.na 0 m ∧ H.na 0 m < 192) (hG : ∀ q, NCL (Gs q) → 0 ≤ (Gs q).F) : PMD (H'.na 0) (PM r) := by
  have same : H'.2.2 = H.2.2 → PMD (H'.na 0) (PM r) := fun e => by
    have e2 : H'.na = H.na := congrArg (fun z : Int × (Int → Int) × (Int → Int) × (Int → Int) × (Int → Int → Int) => z.2.2.2.2) e
    rw [e2]; exact u
  rcases h with ⟨a, b, c⟩ | ⟨a, b, c⟩ | ⟨a, b, d, c⟩ | ⟨a, b, d, c⟩ | ⟨a, t, b⟩ | ⟨a, nb, b, b1, b2, b3⟩
  · exact same c
  · exact same c
  · exact same c
  · exact same c
  · have g : ∀ (t : Nat) {H' : RTS} {k' w : Int}, MLR r Gs PM NM t H 0 H' k' w → H'.na 0 = H.na 0 ∧ 0 < H'.F := by
      intro t
      induction t with
      | zero => intro H' k' w h; rw [h.1]; exact ⟨rfl, hF⟩
      | succ t ih =>
        intro H' k' w h
        obtain ⟨H1, k1, w1, d, h1, h2, h3, h4⟩ := h
        obtain ⟨i, j⟩ := ih h1
        rcases h3 with ⟨base, lb, lq, j0, m, m1, m2, m3, m4, e1, e2, e3⟩ | ⟨m, e1, e2, e3⟩
        · rw [e1]
          refine ⟨?_, ?_⟩
          · rw [← i]
            funext m
            exact if_pos j
          · show 0 < H1.F + (Gs (H1.V k1 2)).F
            have := hG (H1.V k1 2) m.2.2.1
            omega
        · rw [e1]; exact ⟨i, j⟩
    rw [(g t b).1]; exact u
  · rw [b2]
    intro i j i0 i1 j0 j1 e
    have e1 : ∀ m, 0 ≤ m → m < PM r → (shS H (PM r) NM nb).na 0 m = nb (H.na 0 m) := fun m m0 m1 => if_pos ⟨⟨Int.le_refl _, hF⟩, m0, by omega⟩
    rw [e1 i i0 i1, e1 j j0 j1] at e
    have x := hR i i0 i1
    have y := hR j j0 j1
    have od : ∀ a c, 0 ≤ a → a < PM r → 0 ≤ c → c < PM r → H.na 0 a ≠ H.na 0 c → odV H.V H.n (pmS H (PM r)) (H.na 0 a) (H.na 0 c) := fun a c a0 a1 c0 c1 ne => ⟨ne, Or.inl ⟨Or.inl ⟨a, a0, a1, rfl⟩, Or.inl ⟨c, c0, c1, rfl⟩⟩⟩
    refine u i j i0 i1 j0 j1 ?_
    by_cases l : H.na 0 i < H.na 0 j
    · exact absurd e ((b _ y.1 y.2).2.1 _ x.1 l (od j i j0 j1 i0 i1 (by omega)))
    · by_cases m : H.na 0 j < H.na 0 i
      · exact absurd e.symm ((b _ x.1 x.2).2.1 _ y.1 m (od i j i0 i1 j0 j1 (by omega)))
      · omega
end
section
def bnI (B : Int → Int → Prop) (i : It) : Prop := i 0 = 12 → B (i 2) (i 1)
def BNN (B : Int → Int → Prop) (V : Int → It) (n : Int) : Prop := ∀ k, 0 ≤ k → k < n → bnI B (V k)
section BNS
variable {B B' : Int → Int → Prop} {V V' O : Int → It} {n n' m k w p a : Int} {x i j : It} {K : KN}
theorem bn_ne (h : i 0 ≠ 12) : bnI B i := fun e => absurd e h
theorem bn_c (h : bnI B i) (h0 : j 0 = i 0) (h1 : j 1 = i 1) (h2 : j 2 = i 2) : bnI B j := fun e => by
  rw [h1, h2]; exact h (h0.symm.trans e)
theorem BNN.put (h : BNN B V n) (hx : bnI B x) : BNN B (uZ V n x) (n + 1) := fun k a b => by
  by_cases e : k = n
  · rw [e, uZ_eq]; exact hx
  · rw [uZ_ne e]; exact h k a (by omega)
theorem BNN.set (h : BNN B V n) (hx : bnI B x) : BNN B (uZ V k x) n := fun j a b => by
  by_cases e : j = k
  · rw [e, uZ_eq]; exact hx
  · rw [uZ_ne e]; exact h j a b
theorem BNN.up (h : BNN B V n) (hB : ∀ f m, B f m → B' f m) : BNN B' V n := fun k a b e => hB _ _ (h k a b e)
theorem bn_foB (h : bnI B i) : bnI B (foB K i) := by
  unfold foB
  by_cases c : i 11 = 2 ∧ (K (i 4)).1 = 1
  · rw [dI_y c]
    exact bn_c h (by rw [uZ_ne (by decide), uZ_ne (by decide), uZ_ne (by decide)]) (by rw [uZ_ne (by decide), uZ_ne (by decide), uZ_ne (by decide)]) (by rw [uZ_ne (by decide), uZ_ne (by decide), uZ_ne (by decide)])
  · rw [dI_n c]; exact h
theorem bn_cpy {v u : Int} : bnI B (cpyI i v u) := by
  refine bn_ne ?_
  show uZ (uZ (uZ (uZ (uZ i 0 0) 3 v) 4 u) 5 0) 6 0 0 ≠ 12
  rw [uZ_ne (by decide), uZ_ne (by decide), uZ_ne (by decide), uZ_ne (by decide), uZ_eq]
  decide
theorem bn_act (h : i 0 ≠ 12) : bnI B (foZ (foA (foO K i 4))) := by
  have q : foA (foO K i 4) 0 ≠ 12 := by
    unfold foA
    by_cases c : five2 (foO K i 4)
    · rw [dI_y c]
      show uZ (uZ (uZ (uZ (uZ (foO K i 4) 0 0) 3 _) 4 _) 5 0) 6 0 0 ≠ 12
      rw [uZ_ne (by decide), uZ_ne (by decide), uZ_ne (by decide), uZ_ne (by decide), uZ_eq]
      decide
    · rw [dI_n c, foO_c (by decide)]; exact h
  refine bn_ne ?_
  unfold foZ
  by_cases c : zer1 (foA (foO K i 4))
  · rw [dI_y c, uZ_ne (by decide), uZ_ne (by decide), uZ_eq]; decide
  · rw [dI_n c]; exact q
theorem BNN.fold (h : BNN B V n) (t : Nat) (ht : (t : Int) ≤ n) : 0 ≤ (foS V t).2.1 ∧ BNN B (foS V t).2.2.2 (foS V t).2.1 := by
  induction t with
  | zero => exact ⟨Int.le_refl _, fun k a b => absurd b (by show ¬ k < 0; omega)⟩
  | succ t ih =>
    obtain ⟨i2, i3⟩ := ih (by omega)
    have v := h t (by omega) (by omega)
    show 0 ≤ (foT (foS V t) (V t)).2.1 ∧ BNN B (foT (foS V t) (V t)).2.2.2 (foT (foS V t) (V t)).2.1
    unfold foT
    by_cases a : V t 0 = 13
    · rw [if_pos a]; exact ⟨by show 0 ≤ (foS V t).2.1 + 1; omega, i3.put v⟩
    · rw [if_neg a]
      by_cases b : V t 0 = 12
      · rw [if_pos b]; exact ⟨by show 0 ≤ (foS V t).2.1 + 1; omega, i3.put (bn_foB v)⟩
      · rw [if_neg b]
        by_cases c : V t 0 ≤ 10
        · rw [if_pos c]
          have y : bnI B (foZ (foA (foO (foS V t).1 (V t) 4))) := bn_act b
          unfold foX
          by_cases z : zer1 (foA (foO (foS V t).1 (V t) 4)) ∧ foA (foO (foS V t).1 (V t) 4) 4 ≠ 0
          · show 0 ≤ dI _ _ _ ∧ BNN B (dI _ _ _) (dI _ _ _)
            rw [dI_y z, dI_y z]; exact ⟨i2, i3⟩
          · show 0 ≤ dI _ _ _ ∧ BNN B (dI _ _ _) (dI _ _ _)
            rw [dI_n z, dI_n z]; exact ⟨by omega, i3.put y⟩
        · rw [if_neg c]; exact ⟨by show 0 ≤ (foS V t).2.1 + 1; omega, i3.put v⟩
/-- DROP -/
theorem BNN.to (h : BNN B V n) (hk : 0 ≤ k ∧ k < n) : BNN B (toV V k) (n - 1) := fun i a b => by
  unfold toV
  by_cases c : i < k
  · rw [if_pos c]; exact h i a (by omega)
  · rw [if_neg c]; exact h (i + 1) (by omega) (by omega)
theorem bn_goI (h : bnI B i) : bnI B (goI i w) := by
  have e : ∀ c, c < 3 → goI i w c = i c := fun c hc => by
    show uZ (uZ (uZ (uZ (uZ i 11 w) 3 0) 4 0) 5 0) 6 0 c = i c
    rw [uZ_ne (by omega), uZ_ne (by omega), uZ_ne (by omega), uZ_ne (by omega), uZ_ne (by omega)]
  exact bn_c h (e 0 (by decide)) (e 1 (by decide)) (e 2 (by decide))
theorem bn_tkI (h : bnI B i) : bnI B (tkI x i) := by
  have e : ∀ c, c < 3 → tkI x i c = i c := fun c hc => by
    unfold tkI
    by_cases z : x 0 = 0
    · rw [if_pos z, uZ_ne (by omega), uZ_ne (by omega), uZ_ne (by omega)]
    · rw [if_neg z, uZ_ne (by omega), uZ_ne (by omega), uZ_ne (by omega), uZ_ne (by omega), uZ_ne (by omega)]
  exact bn_c h (e 0 (by decide)) (e 1 (by decide)) (e 2 (by decide))
theorem BNN.rb (h : BNN B V n) : BNN B (rbV V n k) n := fun i a b => by
  unfold rbV
  by_cases c : nrV V n k i ∧ V i 0 = 12 ∧ V i 11 = 2 ∧ V i 4 = V k 1
  · rw [dI_y c]; exact bn_tkI (h i a b)
  · rw [dI_n c]
    by_cases d : (0 ≤ i ∧ i < n) ∧ RCG V n (k + 1) (fun j => wrT (V j) (V k 1)) i ∧ V i 0 = 12 ∧ rdI (V i) (V k 1)
    · rw [dI_y d]; exact bn_goI (h i a b)
    · rw [dI_n d]; exact h i a b
theorem BNN.drr (h : BNN B V n) (t : Nat) (ht : (t : Int) ≤ n) : 0 ≤ (dr1 V n t).1 ∧ BNN B (dr1 V n t).2.2 (dr1 V n t).1 := by
  induction t with
  | zero => exact ⟨Int.le_refl _, fun k a b => absurd b (by show ¬ k < 0; omega)⟩
  | succ t ih =>
    obtain ⟨i1, i2⟩ := ih (by omega)
    show 0 ≤ (dI (RCG V n 0 (fun _ => False) t) ((dr1 V n t).1 + 1, (dr1 V n t).2.1, uZ (dr1 V n t).2.2 (dr1 V n t).1 (V t)) ((dr1 V n t).1, (dr1 V n t).2.1 + (if V t 0 ≤ 10 then 1 else 0), (dr1 V n t).2.2)).1 ∧ BNN B (dI (RCG V n 0 (fun _ => False) t) ((dr1 V n t).1 + 1, (dr1 V n t).2.1, uZ (dr1 V n t).2.2 (dr1 V n t).1 (V t)) ((dr1 V n t).1, (dr1 V n t).2.1 + (if V t 0 ≤ 10 then 1 else 0), (dr1 V n t).2.2)).2.2 (dI (RCG V n 0 (fun _ => False) t) ((dr1 V n t).1 + 1, (dr1 V n t).2.1, uZ (dr1 V n t).2.2 (dr1 V n t).1 (V t)) ((dr1 V n t).1, (dr1 V n t).2.1 + (if V t 0 ≤ 10 then 1 else 0), (dr1 V n t).2.2)).1
    by_cases c : RCG V n 0 (fun _ => False) t
    · rw [dI_y c]; exact ⟨by show 0 ≤ (dr1 V n t).1 + 1; omega, i2.put (h t (by omega) (by omega))⟩
    · rw [dI_n c]; exact ⟨i1, i2⟩
theorem BNN.drt {t : Nat} (h : BNN B V n) (g : DRT t V n V' n') : BNN B V' n' := by
  induction t generalizing V' n' with
  | zero => rw [g.1, g.2]; exact h
  | succ t ih =>
    obtain ⟨V1, n1, k, h1, h2, h3, h4⟩ := g
    rw [h3, h4]
    exact (ih h1).rb.to ⟨h2.1, h2.2.1⟩
/-- MOVE, ALIKE -/
theorem BNN.li (h : BNN B V n) (hp : 0 ≤ p) (hk : p ≤ k ∧ k < n) : BNN B (liV V k p) n := fun i a b => by
  unfold liV
  by_cases c : i = p
  · rw [if_pos c]; exact h k (by omega) hk.2
  · rw [if_neg c]
    by_cases d : p < i ∧ i ≤ k
    · rw [if_pos d]; exact h (i - 1) (by omega) (by omega)
    · rw [if_neg d]; exact h i a b
theorem BNN.mvt {H : Int → Prop} {q : Int} {t : Nat} (u : BNN B V n) (hp : 0 ≤ p) (hq : q < n) (h : MVT H n q t V p V' a) : BNN B V' n ∧ 0 ≤ a := by
  induction t generalizing V' a with
  | zero => rw [h.1, h.2]; exact ⟨u, hp⟩
  | succ t ih =>
    obtain ⟨V1, p1, k, g1, g2, g3, g4⟩ := h
    obtain ⟨i1, i2⟩ := ih g1
    rw [g3, g4]; exact ⟨i1.li i2 ⟨g2.1, by have := g2.2.1; omega⟩, by omega⟩
theorem BNN.mva {H : Int → Prop} {t : Nat} (u : BNN B V n) (h : MVA H n t V V' w) (ht : (t : Int) ≤ n) : BNN B V' n := by
  induction t generalizing V' w with
  | zero => rw [h.1]; exact u
  | succ t ih =>
    obtain ⟨V1, w1, d, h1, h2, h3⟩ := h
    have i := ih h1 (by omega)
    rcases h2 with ⟨a, b, c⟩ | ⟨a, q, b, ⟨c, d, e⟩ | ⟨c, t, p, d, e, f⟩⟩
    · rw [b]; exact i
    · rw [d]; exact i
    · exact (i.mvt (by omega) b.2.1 d).1
theorem BNN.als {t : Nat} (u : BNN B V n) (h : ALS t V V' w) : BNN B V' n := by
  induction t generalizing V' w with
  | zero => rw [h.1]; exact u
  | succ t ih =>
    obtain ⟨V1, w1, d, h1, h2, h3⟩ := h
    rcases h2 with ⟨j, a, b, c, e⟩ | ⟨a, b, c⟩
    · rw [c]; exact (ih h1).set bn_cpy
    · rw [b]; exact ih h1
/-- SHARE -/
theorem bn_rn {nb : Int → Int} (h : bnI B i) : bnI B (rnI nb i) := fun e => by
  have e0 : rnI nb i 0 = i 0 := by
    unfold rnI
    rw [if_neg (by omega), if_neg (fun y => by have := y.1; omega)]
  have e12 : i 0 = 12 := e0.symm.trans e
  have e1 : rnI nb i 1 = i 1 := by
    unfold rnI
    rw [if_neg (by omega), if_neg (fun y => by have := y.1; omega)]
  have e2 : rnI nb i 2 = i 2 := by
    unfold rnI
    rw [if_neg (by omega), if_neg (fun y => by have := y.1; omega)]
  rw [e1, e2]; exact h e12
theorem BNN.sh {nb : Int → Int} {bg : Int → Prop} (u : BNN B V n) : BNN B (shV V n nb bg) n := fun i a b => by
  unfold shV
  rw [if_pos ⟨a, b⟩]
  refine bn_rn ?_
  unfold ubV
  by_cases c : (0 ≤ i ∧ i < n) ∧ V i 0 = 12 ∧ RCG V n 0 (fun _ => False) i ∧ ∃ u, rdI (V i) u ∧ lsV V n nb bg i u
  · rw [dI_y c]; exact bn_goI (u i a b)
  · rw [dI_n c]; exact u i a b
/-- MELT -/
def BNB (B : Int → Int → Prop) (s : BB) : Prop := 0 ≤ s.1 ∧ BNN B s.2 s.1
theorem BNB.add {s : BB} (h : BNB B s) (hx : bnI B x) : BNB B (bA s x) := ⟨by show 0 ≤ s.1 + 1; have := h.1; omega, h.2.put hx⟩
theorem bn_m {a b c d e f : Int} (h : a ≠ 12) : bnI B (mkI a b c d e f) := bn_ne h
theorem BNB.one {f base P : Int} {na : Int → Int} {y : It} {s : BB} (h : BNB B s) (t : Nat) (hb : ∀ j : Int, 0 ≤ j → j < t → B f j) : BNB B (mb1 f base P na y s t) := by
  induction t with
  | zero => exact h
  | succ t ih =>
    have ih := ih (fun j a b => hb j a (by omega))
    have b := hb t (by omega) (by omega)
    show BNB B (nmS f base P na y t (mb1 f base P na y s t))
    unfold nmS
    by_cases c : (t : Int) < P
    · rw [if_pos c]
      exact (ih.add (bn_m (by decide))).add (fun _ => b)
    · rw [if_neg c]
      exact ih.add (fun _ => b)
theorem BNB.two {base : Int} {lv : Int → Prop} {s : BB} (h : BNB B s) (t : Nat) : BNB B (mb2 base lv s t) := by
  induction t with
  | zero => exact h
  | succ t ih =>
    show BNB B (dI (lv t) (bA (mb2 base lv s t) (mkI 0 (base + t) 0 1 0 0)) (mb2 base lv s t))
    by_cases a : lv t
    · rw [dI_y a]; exact ih.add (bn_m (by decide))
    · rw [dI_n a]; exact ih
theorem bn_ml {f base lb : Int} (h : bnI B i) (hB : ∀ u m, B u m → B' (u + f) m) : bnI B' (mlI f base lb i) := by
  have so : ∀ c, c < 3 → shO base i c = i c := fun c hc => if_neg (by omega)
  by_cases z : i 0 = 12
  · intro _
    unfold mlI
    rw [if_neg (by omega), if_pos (by omega), uZ_eq, uZ_ne (by decide), so 1 (by decide)]
    exact hB _ _ (h z)
  · refine bn_ne ?_
    unfold mlI
    by_cases a : i 0 = 8 ∨ i 0 = 9 ∨ i 0 = 13
    · rw [if_pos a, uZ_ne (by decide), so 0 (by decide)]; exact z
    · rw [if_neg a]
      by_cases b : i 0 = 11 ∨ i 0 = 12
      · rw [if_pos b, uZ_ne (by decide), so 0 (by decide)]; exact z
      · rw [if_neg b]
        by_cases c : i 0 = 14 ∨ i 0 = 15
        · rw [if_pos c, uZ_ne (by decide), so 0 (by decide)]; exact z
        · rw [if_neg c]
          by_cases d : i 0 = 6
          · rw [if_pos d, so 0 (by decide)]; exact z
          · rw [if_neg d, uZ_ne (by decide), so 0 (by decide)]; exact z
theorem BNB.three {f base lb to out : Int} {s : BB} (h : BNB B' s) (hV : BNN B V n) (hB : ∀ u m, B u m → B' (u + f) m) (t : Nat) (ht : (t : Int) ≤ n) : BNB B' (mb3 f base lb to out V s t) := by
  induction t with
  | zero => exact h
  | succ t ih =>
    have ih := ih (by omega)
    have v := hV t (by omega) (by omega)
    show BNB B' (if V t 0 = 7 then bA (bA (mb3 f base lb to out V s t) (uZ (uZ (shO base (V t)) 0 0) 1 to)) (mkI 8 out 0 0 0 0) else bA (mb3 f base lb to out V s t) (mlI f base lb (V t)))
    by_cases a : V t 0 = 7
    · rw [if_pos a]
      refine (ih.add (bn_ne ?_)).add (bn_m (by decide))
      rw [uZ_ne (by decide), uZ_eq]; decide
    · rw [if_neg a]
      exact ih.add (bn_ml v hB)
theorem BNB.mm1 {f base lb out to P N nq : Int} {na : Int → Int} {y : It} {lv : Int → Prop} (hV : BNN B V nq) (h0 : 0 ≤ nq) (hB : ∀ u m, B u m → B' (u + f) m) (hb : ∀ j, 0 ≤ j → j < N → B' f j) : BNB B' (mkB f base lb out to P N nq na y lv V) :=
  ((((((show BNB B' ((0 : Int), fun _ => zI) from ⟨Int.le_refl _, fun k a b => absurd b (by show ¬ k < 0; omega)⟩).add (bn_m (by decide))).one _ (fun j a b => hb j a (by omega))).two _).three hV hB _ (by omega)).add (bn_m (by decide))).add (bn_m (by decide))
theorem BNN.sp {M : BB} (u : BNN B V n) (b : BNB B M) (hk : 0 ≤ k ∧ k < n) : BNN B (spV V k M.1 M.2) (n + M.1 - 1) := fun i a c => by
  unfold spV
  by_cases d : i < k
  · rw [if_pos d]; exact u i a (by omega)
  · rw [if_neg d]
    by_cases e : i < k + M.1
    · rw [if_pos e]; exact b.2 _ (by omega) (by omega)
    · rw [if_neg e]; exact u _ (by omega) (by omega)
end BNS
/-- frames and names of a routine's state -/
def bnB (NM : Int → Int) (H : RTS) (f m : Int) : Prop := (0 ≤ f ∧ f < H.F) ∧ 0 ≤ m ∧ m < NM (H.fo f)
def BNR (NM : Int → Int) (H : RTS) : Prop := BNN (bnB NM H) H.V H.n
theorem BNN.mlr {r : Int} {Gs : Int → RTS} {PM NM : Int → Int} {t : Nat} {H H' : RTS} {k k' w : Int} (u : BNR NM H) (k0 : 0 ≤ k) (hF : 0 ≤ H.F) (hG : ∀ q, NCL (Gs q) → (((0 ≤ (Gs q).n) ∧ 0 < (Gs q).F) ∧ BNR NM (Gs q)) ∧ (Gs q).fo 0 = q) (h : MLR r Gs PM NM t H k H' k' w) : (BNR NM H' ∧ 0 ≤ H'.F) ∧ 0 ≤ k' := by
  induction t generalizing H' k' w with
  | zero => rw [h.1, h.2.1]; exact ⟨⟨u, hF⟩, k0⟩
  | succ t ih =>
    obtain ⟨H1, k1, w1, d, h1, h2, h3, h4⟩ := h
    obtain ⟨⟨i, iF⟩, j⟩ := ih h1
    rcases h3 with ⟨base, lb, lq, j0, m, m1, m2, m3, m4, e1, e2, e3⟩ | ⟨m, e1, e2, e3⟩
    · obtain ⟨g, f0⟩ := hG (H1.V k1 2) m.2.2.1
      have F' : H'.F = H1.F + (Gs (H1.V k1 2)).F := by rw [e1]; rfl
      have fo' : ∀ f, H'.fo f = if f < H1.F then H1.fo f else if f < H1.F + (Gs (H1.V k1 2)).F then (Gs (H1.V k1 2)).fo (f - H1.F) else 0 := fun f => by rw [e1]; rfl
      have up : ∀ f m, bnB NM H1 f m → bnB NM H' f m := fun f m q => by
        unfold bnB at q ⊢
        rw [F', fo' f, if_pos q.1.2]
        exact ⟨⟨q.1.1, by have := g.1.2; omega⟩, q.2⟩
      have sh : ∀ f m, bnB NM (Gs (H1.V k1 2)) f m → bnB NM H' (f + H1.F) m := fun f m q => by
        unfold bnB at q ⊢
        rw [F', fo' (f + H1.F), if_neg (by omega), if_pos (by omega), show f + H1.F - H1.F = f by omega]
        exact ⟨by omega, q.2⟩
      have own : ∀ j, 0 ≤ j → j < NM (H1.V k1 2) → bnB NM H' H1.F j := fun j a b => by
        unfold bnB
        rw [F', fo' H1.F, if_neg (by omega), if_pos (by have := g.1.2; omega), show H1.F - H1.F = 0 by omega, f0]
        exact ⟨by have := g.1.2; omega, a, b⟩
      have Bq : BNB (bnB NM H') (mkS H1 (Gs (H1.V k1 2)) k1 base lb lq (PM (H1.V k1 2)) (NM (H1.V k1 2))) := BNB.mm1 g.2 g.1.1 sh own
      have V' : H'.V = spV H1.V k1 (mkS H1 (Gs (H1.V k1 2)) k1 base lb lq (PM (H1.V k1 2)) (NM (H1.V k1 2))).1 (mkS H1 (Gs (H1.V k1 2)) k1 base lb lq (PM (H1.V k1 2)) (NM (H1.V k1 2))).2 := by rw [e1]; rfl
      have n' : H'.n = H1.n + (mkS H1 (Gs (H1.V k1 2)) k1 base lb lq (PM (H1.V k1 2)) (NM (H1.V k1 2))).1 - 1 := by rw [e1]; rfl
      refine ⟨⟨?_, by rw [F']; have := g.1.2; omega⟩, by rw [e2]; have := Bq.1; omega⟩
      unfold BNR
      rw [V', n']
      exact BNN.sp (i.up up) Bq ⟨j, h2⟩
    · rw [e1, e2]; exact ⟨⟨i, iF⟩, by omega⟩
theorem PSV.bn {w r v : Int} {Gs : Int → RTS} {PM NM : Int → Int} {H H' : RTS} (h : PSV w r Gs PM NM H H' v) (u : BNR NM H) (hn : 0 ≤ H.n) (hF : 0 ≤ H.F) (hG : ∀ q, NCL (Gs q) → (((0 ≤ (Gs q).n) ∧ 0 < (Gs q).F) ∧ BNR NM (Gs q)) ∧ (Gs q).fo 0 = q) : BNR NM H' := by
  have same : ∀ {V' : Int → It} {n' : Int}, H'.2.2 = H.2.2 → H'.V = V' → H'.n = n' → BNN (bnB NM H) V' n' → BNR NM H' := fun e a b c => by
    have e1 : H'.F = H.F := congrArg (fun z : Int × (Int → Int) × (Int → Int) × (Int → Int) × (Int → Int → Int) => z.1) e
    have e2 : H'.fo = H.fo := congrArg (fun z : Int × (Int → Int) × (Int → Int) × (Int → Int) × (Int → Int → Int) => z.2.1) e
    have e3 : bnB NM H' = bnB NM H := by funext f m; unfold bnB; rw [e1, e2]
    unfold BNR
    rw [e3, a, b]; exact c
  rcases h with ⟨a, ⟨K, b⟩, c⟩ | ⟨a, ⟨t, b, _⟩, c⟩ | ⟨a, b, d, c⟩ | ⟨a, b, d, c⟩ | ⟨a, t, b⟩ | ⟨a, nb, b, b1, b2, b3⟩
  · have z := BNN.fold u H.n.toNat (by omega)
    rw [b] at z
    exact same c rfl rfl z.2
  · exact same c rfl rfl ((BNN.drr u _ (by omega)).2.drt b)
  · exact same c rfl d (BNN.mva u b (by omega))
  · exact same c rfl d (BNN.als u b)
  · exact (BNN.mlr u (Int.le_refl 0) hF hG b).1.1
  · rw [b2]
    exact BNN.sh u
end
section
abbrev tyS (S : List ME) : List Int := S.map (fun e => e.1)
def cnP (L : List Int) (S : List Int) : Option (List Int) := match S with
  | [] => none
  | e :: S => if e ∈ L then some S else none
def cnT (k : Nat) (S : List Int) : Option (List Int) :=
  if k = 51 then (match S with
    | [] => none
    | e :: S => if e = 2 then some (3 :: S) else if e = 6 then some (7 :: S) else if e ∈ [0, 1, 3, 10, 11] then some S else none)
  else if k = 52 then (match S with
    | [] => none
    | e :: S => if e = 5 then some (6 :: S) else if e = 4 then some (3 :: S) else if e ∈ [7, 8] then some S else none)
  else if k = 24 then cnP [3] S
  else if k = 25 then cnP [8] S
  else if k = 26 ∨ k = 27 ∨ k = 38 then cnP [9] S
  else if k = 30 ∨ k = 31 ∨ k = 32 ∨ k = 33 ∨ k = 35 ∨ k = 36 then (match S with
    | [] => some []
    | _ :: _ => none)
  else some S
def rnT : List Nat → List Int → Option (List Int)
  | [], S => some S
  | k :: K, S => match cnT k S with
    | none => none
    | some S' => rnT K S'
section RNT
variable {s : Int → Int} {nm : Int → Int64 → Int} {rn : Int64 → Int} {tb : Int → Int} {k : Nat} {K K2 : List Nat} {t : TK} {x : Int × Int × Int} {q : QR} {r : List Nat × TK × (Int × Int × Int) × QR × List EV} {m : MK} {S S' S2 : List Int} {w : Int64} {e : ME} {S0 : List ME}
theorem rnT_c (h : cnT k S = some S') : rnT (k :: K) S = rnT K S' := by
  show (match cnT k S with
    | none => none
    | some S' => rnT K S') = _
  rw [h]
theorem rnT_ex (h : rnT (k :: K) S = some S2) : ∃ S', cnT k S = some S' ∧ rnT K S' = some S2 := by
  cases e : cnT k S with
  | none =>
    have h : (match cnT k S with
      | none => none
      | some S' => rnT K S') = some S2 := h
    rw [e] at h
    exact absurd h (by simp)
  | some S' => exact ⟨S', rfl, by rw [rnT_c e] at h; exact h⟩
theorem rnT_app : ∀ (K : List Nat) {S S' : List Int}, rnT K S = some S' → rnT (K ++ K2) S = rnT K2 S'
  | [], S, S', h => by
    have h : some S = some S' := h
    rw [Option.some.inj h]; rfl
  | k :: K, S, S', h => by
    obtain ⟨S1, h1, h2⟩ := rnT_ex h
    show rnT (k :: (K ++ K2)) S = _
    rw [rnT_c h1]
    exact rnT_app K h2
theorem cnT_n (h : ¬ (k = 51 ∨ k = 52 ∨ k = 24 ∨ k = 25 ∨ k = 26 ∨ k = 27 ∨ k = 38 ∨ k = 30 ∨ k = 31 ∨ k = 32 ∨ k = 33 ∨ k = 35 ∨ k = 36)) : cnT k S = some S := by
  unfold cnT
  rw [if_neg (by omega), if_neg (by omega), if_neg (by omega), if_neg (by omega), if_neg (by omega), if_neg (by omega)]
theorem rnT_n (h : ∀ y ∈ K, ¬ (y = 51 ∨ y = 52 ∨ y = 24 ∨ y = 25 ∨ y = 26 ∨ y = 27 ∨ y = 38 ∨ y = 30 ∨ y = 31 ∨ y = 32 ∨ y = 33 ∨ y = 35 ∨ y = 36)) : rnT K S = some S := by
  induction K with
  | nil => rfl
  | cons k K ih =>
    rw [rnT_c (cnT_n (h k List.mem_cons_self))]
    exact ih (fun y hy => h y (List.mem_cons_of_mem _ hy))
theorem cnP_1 {z : Int} (h : cnP [z] S = some S') : S = z :: S' := by
  cases S with
  | nil => exact absurd h (by simp [cnP])
  | cons e S =>
    have h : (if e ∈ [z] then some S else none) = some S' := h
    by_cases c : e ∈ [z]
    · rw [if_pos c] at h
      rw [Option.some.inj h, List.mem_singleton.mp c]
    · rw [if_neg c] at h
      exact absurd h (by simp)
/-- what 51 does -/
theorem one_fx (hs : m.S = e :: S0) : (e.1 = 0 ∧ m.one tb = (((m.put (it2 (if e.2.1 < 6 then e.2.1 else 5) (tb m.rt + m.tmp) e.2.2.1 ((e.2.2.2.headD (0, 0)).1) m.pk m.pv)).sS S0).sP 2 (tb m.rt + m.tmp)).sT (m.tmp + 1)) ∨ (e.1 = 1 ∧ m.one tb = (m.put (mkI 11 m.ln 0 0 0 0)).sS S0) ∨ (e.1 = 2 ∧ m.one tb = ((m.put (mkI 9 m.lab 0 m.pk m.pv 0)).sS ((3, m.lab, 0, []) :: S0)).sL (m.lab + 1)) ∨ (e.1 = 3 ∧ m.one tb = (m.put (mkI 13 e.2.1 0 0 0 0)).sS S0) ∨ (e.1 = 6 ∧ m.one tb = ((m.put (mkI 9 m.lab 0 m.pk m.pv 0)).sS ((7, e.2.1, m.lab, []) :: S0)).sL (m.lab + 1)) ∨ (e.1 = 10 ∧ m.one tb = (m.put (mkI (if e.2.1 = 6 then 6 else 7) 0 0 m.pk m.pv 0)).sS S0) ∨ (e.1 = 11 ∧ m.one tb = (m.put (mkI 7 0 0 1 0 0)).sS S0) ∨ (e.1 ∉ [2, 6, 0, 1, 3, 10, 11] ∧ m.one tb = m) := by
  by_cases c0 : e.1 = 0
  · exact Or.inl ⟨c0, by unfold MK.one; rw [hs]; exact if_pos c0⟩
  refine Or.inr ?_
  by_cases c1 : e.1 = 1
  · exact Or.inl ⟨c1, by unfold MK.one; rw [hs]; exact (if_neg c0).trans (if_pos c1)⟩
  refine Or.inr ?_
  by_cases c2 : e.1 = 2
  · exact Or.inl ⟨c2, by unfold MK.one; rw [hs]; exact ((if_neg c0).trans (if_neg c1)).trans (if_pos c2)⟩
  refine Or.inr ?_
  by_cases c3 : e.1 = 3
  · exact Or.inl ⟨c3, by unfold MK.one; rw [hs]; exact (((if_neg c0).trans (if_neg c1)).trans (if_neg c2)).trans (if_pos c3)⟩
  refine Or.inr ?_
  by_cases c6 : e.1 = 6
  · exact Or.inl ⟨c6, by unfold MK.one; rw [hs]; exact ((((if_neg c0).trans (if_neg c1)).trans (if_neg c2)).trans (if_neg c3)).trans (if_pos c6)⟩
  refine Or.inr ?_
  by_cases c10 : e.1 = 10
  · exact Or.inl ⟨c10, by unfold MK.one; rw [hs]; exact (((((if_neg c0).trans (if_neg c1)).trans (if_neg c2)).trans (if_neg c3)).trans (if_neg c6)).trans (if_pos c10)⟩
  refine Or.inr ?_
  by_cases c11 : e.1 = 11
  · exact Or.inl ⟨c11, by unfold MK.one; rw [hs]; exact ((((((if_neg c0).trans (if_neg c1)).trans (if_neg c2)).trans (if_neg c3)).trans (if_neg c6)).trans (if_neg c10)).trans (if_pos c11)⟩
  refine Or.inr ⟨?_, by unfold MK.one; rw [hs]; exact ((((((if_neg c0).trans (if_neg c1)).trans (if_neg c2)).trans (if_neg c3)).trans (if_neg c6)).trans (if_neg c10)).trans (if_neg c11)⟩
  simp only [List.mem_cons, List.not_mem_nil, or_false, not_or]
  exact ⟨c2, c6, c0, c1, c3, c10, c11⟩
theorem two_fx (hs : m.S = e :: S0) : (e.1 = 8 ∧ m.two = ((m.put (mkI 0 e.2.1 0 m.pk m.pv 0)).put (bndI e.2.1)).sS S0) ∨ (e.1 = 5 ∧ m.two = (((m.put (mkI 13 m.lab 0 0 0 0)).put (mkI 11 m.ln 0 0 0 0)).sS ((6, m.lab, 0, []) :: S0)).sL (m.lab + 1)) ∨ (e.1 = 4 ∧ m.two = (((m.put (mkI 8 m.lab 0 0 0 0)).put (mkI 13 e.2.1 0 0 0 0)).sS ((3, m.lab, 0, []) :: S0)).sL (m.lab + 1)) ∨ (e.1 = 7 ∧ m.two = ((m.put (mkI 8 e.2.1 0 0 0 0)).put (mkI 13 e.2.2.1 0 0 0 0)).sS S0) ∨ (e.1 ∉ [5, 4, 7, 8] ∧ m.two = m) := by
  by_cases c8 : e.1 = 8
  · exact Or.inl ⟨c8, by unfold MK.two; rw [hs]; exact if_pos c8⟩
  refine Or.inr ?_
  by_cases c5 : e.1 = 5
  · exact Or.inl ⟨c5, by unfold MK.two; rw [hs]; exact (if_neg c8).trans (if_pos c5)⟩
  refine Or.inr ?_
  by_cases c4 : e.1 = 4
  · exact Or.inl ⟨c4, by unfold MK.two; rw [hs]; exact ((if_neg c8).trans (if_neg c5)).trans (if_pos c4)⟩
  refine Or.inr ?_
  by_cases c7 : e.1 = 7
  · exact Or.inl ⟨c7, by unfold MK.two; rw [hs]; exact (((if_neg c8).trans (if_neg c5)).trans (if_neg c4)).trans (if_pos c7)⟩
  refine Or.inr ⟨?_, by unfold MK.two; rw [hs]; exact (((if_neg c8).trans (if_neg c5)).trans (if_neg c4)).trans (if_neg c7)⟩
  simp only [List.mem_cons, List.not_mem_nil, or_false, not_or]
  exact ⟨c5, c4, c7, c8⟩
theorem cal_fx (hs : m.S = e :: S0) : (e.1 = 9 ∧ m.cal rn w = ((m.put (itC e.2.1 (rn w) e.2.2.2)).put (bndI e.2.1)).sS S0) ∨ (e.1 ≠ 9 ∧ m.cal rn w = m) := by
  by_cases c : e.1 = 9
  · exact Or.inl ⟨c, by unfold MK.cal; rw [hs]; exact if_pos c⟩
  · exact Or.inr ⟨c, by unfold MK.cal; rw [hs]; exact if_neg c⟩
theorem ty_c (h : tyS m.S = S) {z : Int} {L : List Int} (e0 : S = z :: L) : ∃ e S0, m.S = e :: S0 ∧ e.1 = z ∧ tyS S0 = L := by
  cases hs : m.S with
  | nil => rw [hs, e0] at h; exact absurd h (by simp)
  | cons e S0 =>
    rw [hs, e0] at h
    have h : e.1 :: tyS S0 = z :: L := h
    obtain ⟨a, b⟩ := List.cons.inj h
    exact ⟨e, S0, rfl, a, b⟩
theorem rnT_51 (h : cnT 51 (tyS m.S) = some S') : tyS (m.one tb).S = S' := by
  cases hs : m.S with
  | nil => rw [hs] at h; exact absurd h (by simp [cnT])
  | cons e S0 =>
    rw [hs] at h
    have h : (if e.1 = 2 then some (3 :: tyS S0) else if e.1 = 6 then some (7 :: tyS S0) else if e.1 ∈ [0, 1, 3, 10, 11] then some (tyS S0) else none) = some S' := h
    rcases one_fx (tb := tb) hs with ⟨a, b⟩ | ⟨a, b⟩ | ⟨a, b⟩ | ⟨a, b⟩ | ⟨a, b⟩ | ⟨a, b⟩ | ⟨a, b⟩ | ⟨a, b⟩
    · rw [b]; rw [a] at h; exact Option.some.inj h
    · rw [b]; rw [a] at h; exact Option.some.inj h
    · rw [b]; rw [a] at h; exact Option.some.inj h
    · rw [b]; rw [a] at h; exact Option.some.inj h
    · rw [b]; rw [a] at h; exact Option.some.inj h
    · rw [b]; rw [a] at h; exact Option.some.inj h
    · rw [b]; rw [a] at h; exact Option.some.inj h
    · simp only [List.mem_cons, List.not_mem_nil, or_false, not_or] at a
      rw [if_neg a.1, if_neg a.2.1, if_neg (by simp only [List.mem_cons, List.not_mem_nil, or_false, not_or]; exact a.2.2)] at h
      exact absurd h (by simp)
theorem rnT_52 (h : cnT 52 (tyS m.S) = some S') : tyS m.two.S = S' := by
  cases hs : m.S with
  | nil => rw [hs] at h; exact absurd h (by simp [cnT])
  | cons e S0 =>
    rw [hs] at h
    have h : (if e.1 = 5 then some (6 :: tyS S0) else if e.1 = 4 then some (3 :: tyS S0) else if e.1 ∈ [7, 8] then some (tyS S0) else none) = some S' := h
    rcases two_fx hs with ⟨a, b⟩ | ⟨a, b⟩ | ⟨a, b⟩ | ⟨a, b⟩ | ⟨a, b⟩
    · rw [b]; rw [a] at h; exact Option.some.inj h
    · rw [b]; rw [a] at h; exact Option.some.inj h
    · rw [b]; rw [a] at h; exact Option.some.inj h
    · rw [b]; rw [a] at h; exact Option.some.inj h
    · simp only [List.mem_cons, List.not_mem_nil, or_false, not_or] at a
      rw [if_neg a.1, if_neg a.2.1, if_neg (by simp only [List.mem_cons, List.not_mem_nil, or_false, not_or]; exact a.2.2)] at h
      exact absurd h (by simp)
/-- a step keeps what is open fitting -/
theorem rnT_st (h : cnT k (tyS m.S) = some S') (hs : stk s k t x q = some r) : rnT r.1 (tyS (mkk s nm rn tb k t q m).S) = some S' := by
  have nt : ¬ (k = 51 ∨ k = 52 ∨ k = 24 ∨ k = 25 ∨ k = 26 ∨ k = 27 ∨ k = 38 ∨ k = 30 ∨ k = 31 ∨ k = 32 ∨ k = 33 ∨ k = 35 ∨ k = 36) → S' = tyS m.S := fun n => by rw [cnT_n n] at h; exact (Option.some.inj h).symm
  by_cases k0 : k = 0
  · subst k0
    rw [nt (by decide)]
    by_cases z : sgn t 45
    · obtain rfl := Option.some.inj (hs.symm.trans (if_pos z))
      rw [show mkk s nm rn tb 0 t q m = m.push (0, 2, 1, [(0, 0)]) from if_pos z]
      rfl
    · obtain rfl := Option.some.inj (hs.symm.trans (if_neg z))
      rw [show mkk s nm rn tb 0 t q m = m from if_neg z]
      rfl
  by_cases k1 : k = 1
  · subst k1
    rw [nt (by decide)]
    have eS : (mkk s nm rn tb 1 t q m).S = m.S := by
      show (if t.2.2.1 = 3 then m.sP 1 t.2.2.2.1 else if nam t then m.sP 2 (nm m.rt t.2.2.2.2) else m).S = m.S
      repeat' split
      all_goals rfl
    rw [eS]
    by_cases z : t.2.2.1 = 3 ∨ nam t
    · obtain rfl := Option.some.inj (hs.symm.trans (if_pos z)); rfl
    · by_cases y : sgn t 40
      · obtain rfl := Option.some.inj (hs.symm.trans ((if_neg z).trans (if_pos y))); rfl
      · exact absurd (hs.symm.trans ((if_neg z).trans (if_neg y))) (by simp)
  by_cases k6 : k = 6
  · subst k6
    rw [nt (by decide)]
    by_cases z : sgn t 61
    · obtain rfl := Option.some.inj (hs.symm.trans (if_pos (Or.inl z)))
      rw [show mkk s nm rn tb 6 t q m = m.push (0, 4, m.pk, [(m.pv, 0)]) from if_pos z]
      rfl
    · by_cases y : sgn t 60
      · obtain rfl := Option.some.inj (hs.symm.trans (if_pos (Or.inr y)))
        rw [show mkk s nm rn tb 6 t q m = m.push (0, 5, m.pk, [(m.pv, 0)]) from (if_neg z).trans (if_pos y)]
        rfl
      · obtain rfl := Option.some.inj (hs.symm.trans (if_neg (fun o => o.elim z y)))
        rw [show mkk s nm rn tb 6 t q m = m from (if_neg z).trans (if_neg y)]
        rfl
  by_cases k8 : k = 8
  · subst k8
    rw [nt (by decide)]
    by_cases z : sgn t 43
    · obtain rfl := Option.some.inj (hs.symm.trans (if_pos (Or.inl z)))
      rw [show mkk s nm rn tb 8 t q m = m.push (0, 1, m.pk, [(m.pv, 0)]) from if_pos z]
      rfl
    · by_cases y : sgn t 45
      · obtain rfl := Option.some.inj (hs.symm.trans (if_pos (Or.inr y)))
        rw [show mkk s nm rn tb 8 t q m = m.push (0, 2, m.pk, [(m.pv, 0)]) from (if_neg z).trans (if_pos y)]
        rfl
      · obtain rfl := Option.some.inj (hs.symm.trans (if_neg (fun o => o.elim z y)))
        rw [show mkk s nm rn tb 8 t q m = m from (if_neg z).trans (if_neg y)]
        rfl
  by_cases k9 : k = 9
  · subst k9
    rw [nt (by decide)]
    by_cases z : sgn t 42
    · obtain rfl := Option.some.inj (hs.symm.trans (if_pos z))
      rw [show mkk s nm rn tb 9 t q m = m.push (0, 3, m.pk, [(m.pv, 0)]) from if_pos z]
      rfl
    · obtain rfl := Option.some.inj (hs.symm.trans (if_neg z))
      rw [show mkk s nm rn tb 9 t q m = m from if_neg z]
      rfl
  by_cases k20 : k = 20
  · subst k20
    rw [nt (by decide)]
    by_cases z : wrd t 512852847717
    · obtain rfl := Option.some.inj (hs.symm.trans (if_pos z))
      rw [show mkk s nm rn tb 20 t q m = m.stm from if_pos z]
      rfl
    · rw [show mkk s nm rn tb 20 t q m = m.stm.push (1, 0, 0, []) from if_neg z]
      by_cases y : wrd t 26982
      · obtain rfl := Option.some.inj (hs.symm.trans ((if_neg z).trans (if_pos y))); rfl
      · by_cases u : wrd t 7304564 ∨ wrd t 125780071117422
        · obtain rfl := Option.some.inj (hs.symm.trans (((if_neg z).trans (if_neg y)).trans (if_pos u))); rfl
        · by_cases v : nam t
          · obtain rfl := Option.some.inj (hs.symm.trans ((((if_neg z).trans (if_neg y)).trans (if_neg u)).trans (if_pos v))); rfl
          · exact absurd (hs.symm.trans ((((if_neg z).trans (if_neg y)).trans (if_neg u)).trans (if_neg v))) (by simp)
  by_cases k21 : k = 21
  · subst k21
    rw [nt (by decide)]
    obtain rfl := Option.some.inj (hs.symm.trans rfl)
    rfl
  by_cases k22 : k = 22
  · subst k22
    rw [nt (by decide)]
    obtain rfl := Option.some.inj (hs.symm.trans rfl)
    rfl
  by_cases k23 : k = 23
  · subst k23
    rw [nt (by decide)]
    obtain rfl := Option.some.inj (hs.symm.trans rfl)
    rfl
  by_cases k24 : k = 24
  · subst k24
    obtain ⟨e, S0, hS, e3, eL⟩ := ty_c rfl (cnP_1 h)
    by_cases z : wrd t 1701606245
    · obtain rfl := Option.some.inj (hs.symm.trans (if_pos z))
      rw [show mkk s nm rn tb 24 t q m = m.top (fun e => if e.1 = 3 then (4, e.2.1, 0, []) else e) from if_pos z, top_S hS, if_pos e3]
      show rnT [52, 28, 51] (4 :: tyS S0) = some S'
      rw [eL]; rfl
    · obtain rfl := Option.some.inj (hs.symm.trans (if_neg z))
      rw [show mkk s nm rn tb 24 t q m = m from if_neg z, hS]
      show rnT [51] (e.1 :: tyS S0) = some S'
      rw [e3, eL]; rfl
  by_cases k25 : k = 25
  · subst k25
    obtain ⟨e, S0, hS, e8, eL⟩ := ty_c rfl (cnP_1 h)
    by_cases z : nam t
    · by_cases y : sgn (advT s t.2.1) 40
      · obtain rfl := Option.some.inj (hs.symm.trans ((if_pos z).trans (if_pos y)))
        rw [show mkk s nm rn tb 25 t q m = m.top (fun e => if e.1 = 8 then (9, e.2.1, 0, []) else e) from if_pos ⟨z, y⟩, top_S hS, if_pos e8]
        show rnT [26, 159] (9 :: tyS S0) = some S'
        rw [eL]; rfl
      · obtain rfl := Option.some.inj (hs.symm.trans ((if_pos z).trans (if_neg y)))
        rw [show mkk s nm rn tb 25 t q m = m from if_neg (fun o => y o.2), hS]
        show rnT [2, 52, 159] (e.1 :: tyS S0) = some S'
        rw [e8, eL]; rfl
    · obtain rfl := Option.some.inj (hs.symm.trans (if_neg z))
      rw [show mkk s nm rn tb 25 t q m = m from if_neg (fun o => z o.1), hS]
      show rnT [2, 52, 159] (e.1 :: tyS S0) = some S'
      rw [e8, eL]; rfl
  by_cases k26 : k = 26
  · subst k26
    rw [mkk_df (by decide), cnP_1 h]
    by_cases z : sgn (advT s t.2.1) 41
    · obtain rfl := Option.some.inj (hs.symm.trans (if_pos z)); rfl
    · obtain rfl := Option.some.inj (hs.symm.trans (if_neg z)); rfl
  by_cases k27 : k = 27
  · subst k27
    obtain ⟨e, S0, hS, e9, eL⟩ := ty_c rfl (cnP_1 h)
    rw [show mkk s nm rn tb 27 t q m = m.top (fun e => if e.1 = 9 then (9, e.2.1, 0, e.2.2.2 ++ [(m.pk, m.pv)]) else e) from rfl, top_S hS, if_pos e9]
    by_cases z : sgn t 44
    · obtain rfl := Option.some.inj (hs.symm.trans (if_pos z))
      show rnT [2, 27] (9 :: tyS S0) = some S'
      rw [eL]; rfl
    · obtain rfl := Option.some.inj (hs.symm.trans (if_neg z))
      show rnT [38, 141] (9 :: tyS S0) = some S'
      rw [eL]; rfl
  by_cases k34 : k = 34
  · subst k34
    rw [nt (by decide)]
    obtain rfl := Option.some.inj (hs.symm.trans rfl)
    rfl
  by_cases k35 : k = 35
  · subst k35
    obtain rfl := Option.some.inj (hs.symm.trans rfl)
    have e0 : S' = [] := by
      cases e : tyS m.S with
      | nil => rw [e] at h; exact (Option.some.inj h).symm
      | cons z L => rw [e] at h; exact absurd h (by simp [cnT])
    rw [e0]; rfl
  by_cases kr : k = 30 ∨ k = 31 ∨ k = 32 ∨ k = 33 ∨ k = 36
  · have e0 : tyS m.S = [] ∧ S' = [] := by
      cases e : tyS m.S with
      | nil =>
        rw [e] at h
        rcases kr with rfl | rfl | rfl | rfl | rfl <;> exact ⟨rfl, (Option.some.inj h).symm⟩
      | cons z L =>
        rw [e] at h
        rcases kr with rfl | rfl | rfl | rfl | rfl <;> exact absurd h (by simp [cnT])
    rw [mkk_df (by omega), e0.1, e0.2]
    rcases kr with rfl | rfl | rfl | rfl | rfl
    all_goals (simp only [stk] at hs; repeat' split at hs)
    all_goals first
      | (cases hs; done)
      | (cases hs; rfl)
  by_cases k38 : k = 38
  · subst k38
    obtain rfl := Option.some.inj (hs.symm.trans rfl)
    obtain ⟨e, S0, hS, e9, eL⟩ := ty_c rfl (cnP_1 h)
    rw [show mkk s nm rn tb 38 t q m = m.cal rn q.1 from rfl, cal_S hS e9, eL]
    rfl
  by_cases k39 : k = 39
  · subst k39
    rw [nt (by decide)]
    obtain rfl := Option.some.inj (hs.symm.trans rfl)
    by_cases z : wrd t 7304564
    · rw [show mkk s nm rn tb 39 t q m = m.push (10, 6, 0, []) from if_pos z]; rfl
    · rw [show mkk s nm rn tb 39 t q m = m.push (10, 7, 0, []) from if_neg z]; rfl
  by_cases k51 : k = 51
  · subst k51
    obtain rfl := Option.some.inj (hs.symm.trans rfl)
    show some (tyS (m.one tb).S) = some S'
    rw [rnT_51 h]
  by_cases k52 : k = 52
  · subst k52
    obtain rfl := Option.some.inj (hs.symm.trans rfl)
    show some (tyS m.two.S) = some S'
    rw [rnT_52 h]
  rw [mkk_df (by omega), nt (by omega)]
  refine rnT_n (fun y hy => ?_)
  unfold stk at hs
  split at hs
  all_goals (repeat' split at hs)
  all_goals first
    | exact absurd rfl (by assumption)
    | (exfalso; omega)
    | (cases hs; done)
    | (cases hs; exact absurd hy List.not_mem_nil)
    | (cases hs; simp only [List.mem_cons, List.not_mem_nil, or_false] at hy; omega)
end RNT
def CTG (k : Nat) : Prop := k = 23 ∨ k = 25 ∨ k = 26 ∨ k = 27 ∨ k = 38
def C0T (K : List Nat) : Prop := ∀ k ∈ K, ¬ CTG k
def STG (k : Nat) : Prop := CTG k ∨ (20 ≤ k ∧ k ≤ 40)
def OKC : List Nat → Prop
  | [] => True
  | k :: K => (STG k → C0T K) ∧ OKC K
section OKCS
variable {s : Int → Int} {k : Nat} {K : List Nat} {t : TK} {x : Int × Int × Int} {q : QR} {r : List Nat × TK × (Int × Int × Int) × QR × List EV}
theorem c0_c (h : ¬ CTG k) (g : C0T K) : C0T (k :: K) := fun y hy => (List.mem_cons.mp hy).elim (fun e => by rw [e]; exact h) (g y)
theorem OKC.n (h : ¬ STG k) (g : OKC K) : OKC (k :: K) := ⟨fun z => absurd z h, g⟩
theorem OKC.sg (h : C0T K) (g : OKC K) : OKC (k :: K) := ⟨fun _ => h, g⟩
theorem OKC.st (h : OKC (k :: K)) (hs : stk s k t x q = some r) : OKC (r.1 ++ K) := by
  obtain ⟨h1, h2⟩ := h
  have nc : ∀ y : Nat, y = 24 ∨ y = 28 ∨ y = 29 ∨ y = 51 ∨ y = 52 ∨ y = 141 ∨ y = 159 ∨ y = 2 ∨ y = 36 ∨ y = 34 ∨ y = 35 ∨ y = 31 ∨ y = 33 ∨ y = 30 ∨ y = 32 ∨ y = 21 ∨ y = 39 ∨ y = 22 ∨ y = 20 ∨ y = 40 → ¬ CTG y := fun y hy => by unfold CTG; omega
  by_cases g : STG k
  · have c := h1 g
    unfold stk at hs
    split at hs
    all_goals (repeat' split at hs)
    all_goals first
      | (cases hs; done)
      | (cases hs; exact h2)
      | (cases hs; exact OKC.sg c h2)
      | (cases hs; exact OKC.n (by unfold STG CTG; omega) (OKC.sg c h2))
      | (cases hs; exact OKC.sg (c0_c (nc _ (by decide)) c) (OKC.n (by unfold STG CTG; omega) h2))
      | (cases hs; exact OKC.sg (c0_c (nc _ (by decide)) c) (OKC.sg c h2))
      | (cases hs; exact OKC.n (by unfold STG CTG; omega) (OKC.n (by unfold STG CTG; omega) (OKC.n (by unfold STG CTG; omega) h2)))
      | (cases hs; exact OKC.n (by unfold STG CTG; omega) (OKC.n (by unfold STG CTG; omega) (OKC.sg (c0_c (nc _ (by decide)) c) (OKC.sg c h2))))
      | (cases hs; exact OKC.n (by unfold STG CTG; omega) (OKC.n (by unfold STG CTG; omega) (OKC.n (by unfold STG CTG; omega) (OKC.sg (c0_c (nc _ (by decide)) c) (OKC.n (by unfold STG CTG; omega) h2)))))
      | (cases hs; exact OKC.n (by unfold STG CTG; omega) (OKC.sg (c0_c (nc _ (by decide)) c) (OKC.n (by unfold STG CTG; omega) h2)))
      | (cases hs; exact OKC.sg (c0_c (nc _ (by decide)) (c0_c (nc _ (by decide)) c)) (OKC.n (by unfold STG CTG; omega) (OKC.sg c h2)))
      | (exfalso; revert g; unfold STG CTG; omega)
  · unfold stk at hs
    split at hs
    all_goals (repeat' split at hs)
    all_goals first
      | (cases hs; done)
      | (cases hs; exact h2)
      | (cases hs; exact OKC.n (by unfold STG CTG; omega) h2)
      | (cases hs; exact OKC.n (by unfold STG CTG; omega) (OKC.n (by unfold STG CTG; omega) h2))
      | (cases hs; exact OKC.n (by unfold STG CTG; omega) (OKC.n (by unfold STG CTG; omega) (OKC.n (by unfold STG CTG; omega) h2)))
      | (exfalso; apply g; unfold STG CTG; omega)
end OKCS
def n9T (S : List Int) : Nat := (S.filter (fun e => e = 9)).length
def ncT (K : List Nat) : Nat := (K.filter (fun k => k = 26 ∨ k = 27 ∨ k = 38)).length
section N9S
variable {k : Nat} {K : List Nat} {S S' : List Int}
theorem n9_c {e : Int} : n9T (e :: S) = (if e = 9 then 1 else 0) + n9T S := by
  unfold n9T
  by_cases z : e = 9
  · rw [if_pos z, List.filter_cons_of_pos (by simpa using z), List.length_cons]; omega
  · rw [if_neg z, List.filter_cons_of_neg (by simpa using z)]; omega
theorem nc_c : ncT (k :: K) = (if k = 26 ∨ k = 27 ∨ k = 38 then 1 else 0) + ncT K := by
  unfold ncT
  by_cases z : k = 26 ∨ k = 27 ∨ k = 38
  · rw [if_pos z, List.filter_cons_of_pos (by simpa using z), List.length_cons]; omega
  · rw [if_neg z, List.filter_cons_of_neg (by simpa using z)]; omega
theorem nc_0 (h : C0T K) : ncT K = 0 := by
  induction K with
  | nil => rfl
  | cons k K ih =>
    rw [nc_c, ih (fun y hy => h y (List.mem_cons_of_mem _ hy)), if_neg (fun z => h k List.mem_cons_self (by unfold CTG; omega))]
theorem n9_k (h : cnT k S = some S') : n9T S = (if k = 26 ∨ k = 27 ∨ k = 38 then 1 else 0) + n9T S' := by
  by_cases k51 : k = 51
  · subst k51
    cases S with
    | nil => exact absurd h (by simp [cnT])
    | cons e S =>
      have h : (if e = 2 then some (3 :: S) else if e = 6 then some (7 :: S) else if e ∈ [0, 1, 3, 10, 11] then some S else none) = some S' := h
      rw [if_neg (by decide), n9_c]
      by_cases a : e = 2
      · rw [if_pos a] at h; rw [← Option.some.inj h, n9_c, if_neg (by omega), if_neg (by decide)]; omega
      · rw [if_neg a] at h
        by_cases b : e = 6
        · rw [if_pos b] at h; rw [← Option.some.inj h, n9_c, if_neg (by omega), if_neg (by decide)]; omega
        · rw [if_neg b] at h
          by_cases c : e ∈ [0, 1, 3, 10, 11]
          · rw [if_pos c] at h
            simp only [List.mem_cons, List.not_mem_nil, or_false] at c
            rw [← Option.some.inj h, if_neg (by omega)]
          · rw [if_neg c] at h; exact absurd h (by simp)
  by_cases k52 : k = 52
  · subst k52
    cases S with
    | nil => exact absurd h (by simp [cnT])
    | cons e S =>
      have h : (if e = 5 then some (6 :: S) else if e = 4 then some (3 :: S) else if e ∈ [7, 8] then some S else none) = some S' := h
      rw [if_neg (by decide), n9_c]
      by_cases a : e = 5
      · rw [if_pos a] at h; rw [← Option.some.inj h, n9_c, if_neg (by omega), if_neg (by decide)]; omega
      · rw [if_neg a] at h
        by_cases b : e = 4
        · rw [if_pos b] at h; rw [← Option.some.inj h, n9_c, if_neg (by omega), if_neg (by decide)]; omega
        · rw [if_neg b] at h
          by_cases c : e ∈ [7, 8]
          · rw [if_pos c] at h
            simp only [List.mem_cons, List.not_mem_nil, or_false] at c
            rw [← Option.some.inj h, if_neg (by omega)]
          · rw [if_neg c] at h; exact absurd h (by simp)
  by_cases k24 : k = 24
  · subst k24
    rw [cnP_1 h, n9_c, if_neg (by decide), if_neg (by decide)]
  by_cases k25 : k = 25
  · subst k25
    rw [cnP_1 h, n9_c, if_neg (by decide), if_neg (by decide)]
  by_cases k9 : k = 26 ∨ k = 27 ∨ k = 38
  · have h9 : cnP [9] S = some S' := by
      unfold cnT at h
      rw [if_neg k51, if_neg k52, if_neg k24, if_neg k25, if_pos k9] at h
      exact h
    rw [cnP_1 h9, n9_c, if_pos rfl, if_pos k9]
  by_cases k35 : k = 30 ∨ k = 31 ∨ k = 32 ∨ k = 33 ∨ k = 35 ∨ k = 36
  · cases S with
    | nil =>
      have h : some [] = some S' := by rcases k35 with rfl | rfl | rfl | rfl | rfl | rfl <;> exact h
      rw [← Option.some.inj h, if_neg k9]; rfl
    | cons e S => rcases k35 with rfl | rfl | rfl | rfl | rfl | rfl <;> exact absurd h (by simp [cnT])
  · rw [cnT_n (by omega)] at h
    rw [Option.some.inj h, if_neg k9]; omega
theorem n9_r : ∀ (K : List Nat) {S S' : List Int}, rnT K S = some S' → n9T S = ncT K + n9T S'
  | [], S, S', h => by
    have h : some S = some S' := h
    rw [Option.some.inj h]
    show _ = 0 + _
    omega
  | k :: K, S, S', h => by
    obtain ⟨S1, h1, h2⟩ := rnT_ex h
    rw [n9_k h1, nc_c, n9_r K h2]
    omega
theorem n9_z (h : n9T S = 0) : ∀ e ∈ S, e ≠ 9 := fun e he z => by
  have q : e ∈ S.filter (fun e => e = 9) := List.mem_filter.mpr ⟨he, by simpa using z⟩
  have w : S.filter (fun e => e = 9) = [] := List.eq_nil_of_length_eq_zero h
  rw [w] at q
  exact absurd q List.not_mem_nil
end N9S
end
section
def B0J (NN : Int → Int) (q f v : Int) : Prop := f = 0 ∧ 0 ≤ v ∧ v < NN q
def PKO (k : Int) : Prop := k = 1 ∨ k = 2
def BDJ (PM NN : Int → Int) (q : Int) (V : Int → It) (n : Int) : Prop := 0 ≤ n ∧ WHN PM V n ∧ BNN (B0J NN q) V n
def EJ (NN : Int → Int) (rt E : Int) (e : ME) : Prop := (e.1 = 0 → 0 ≤ e.2.1 ∧ PKO e.2.2.1) ∧ (e.1 = 8 ∨ e.1 = 9 → 0 ≤ e.2.1 ∧ e.2.1 < NN rt) ∧ (e.1 = 9 → (e.2.2.2.length : Int) = E ∧ ∀ z ∈ e.2.2.2, PKO z.1)
def JBR (PM NN : Int → Int) (K : List Nat) (E : Int) (m : MK) : Prop := (∀ e ∈ m.S, EJ NN m.rt E e) ∧ (34 ∈ K → BDJ PM NN m.rt m.V m.n) ∧ ∀ y, BDJ PM NN y (m.dn y).2 (m.dn y).1
section JBS
variable {PM NN tb : Int → Int} {s : Int → Int} {nm : Int → Int64 → Int} {rn : Int64 → Int} {k : Nat} {K K2 : List Nat} {t : TK} {x : Int × Int × Int} {q : QR} {r : List Nat × TK × (Int × Int × Int) × QR × List EV} {m : MK} {E E' y n a b rt : Int} {V : Int → It} {i : It} {e : ME} {S0 : List ME} {w : Int64} {l : List (Int × Int)}
theorem wh_it2 {k d ak a bk b : Int} (h0 : 0 ≤ k) (h5 : k ≤ 5) (ha : PKO ak) (hb : PKO bk) : whI PM (it2 k d ak a bk b) := by
  by_cases z : k = 0
  · exact wh_1 (Or.inl z) ha
  · have e2 : nAr PM (it2 k d ak a bk b) = 2 := nAr_2 (show 1 ≤ k ∧ k ≤ 5 by omega)
    refine ⟨show 0 ≤ k from h0, fun j p q _ => ?_, fun e => absurd (show k = 12 from e) (by omega)⟩
    rw [e2] at q
    have hj : j = 0 ∨ j = 1 := by omega
    rcases hj with rfl | rfl
    · show it2 k d ak a bk b 3 = 1 ∨ it2 k d ak a bk b 3 = 2
      exact ha
    · show it2 k d ak a bk b 5 = 1 ∨ it2 k d ak a bk b 5 = 2
      exact hb
theorem argA_mem : ∀ (as : List (Int × Int)) (i : Nat), i < as.length → argA as i ∈ as
  | [], i, h => absurd h (Nat.not_lt_zero _)
  | a :: as, 0, _ => List.mem_cons_self
  | a :: as, i + 1, h => List.mem_cons_of_mem _ (argA_mem as i (Nat.lt_of_succ_lt_succ h))
theorem wh_itC {d q : Int} {as : List (Int × Int)} (h : PM q ≤ (as.length : Int)) (ha : ∀ z ∈ as, PKO z.1) : whI PM (itC d q as) := by
  have g : ∀ i : Nat, (i : Int) < PM q → PKO (argA as i).1 := fun i hi => ha _ (argA_mem as i (by omega))
  have e2 : nAr PM (itC d q as) = PM q := if_pos rfl
  refine ⟨by show (0 : Int) ≤ 10; decide, fun j p q2 c => ?_, fun e => absurd (show (10 : Int) = 12 from e) (by decide)⟩
  rw [e2] at q2
  have hj : j = 0 ∨ j = 1 ∨ j = 2 ∨ j = 3 := by omega
  rcases hj with rfl | rfl | rfl | rfl
  · exact g 0 (by omega)
  · exact g 1 (by omega)
  · exact g 2 (by omega)
  · exact g 3 (by omega)
theorem bdj_put (h : BDJ PM NN y V n) (w : whI PM i) (b : bnI (B0J NN y) i) : BDJ PM NN y (uZ V n i) (n + 1) := ⟨by have := h.1; omega, h.2.1.put w, h.2.2.put b⟩
theorem EJ.ev1 (h : EJ NN rt E e) (h9 : e.1 ≠ 9) : EJ NN rt E' e := ⟨h.1, h.2.1, fun z => absurd z h9⟩
theorem ej_o (h0 : e.1 ≠ 0) (h8 : e.1 ≠ 8) (h9 : e.1 ≠ 9) : EJ NN rt E e := ⟨fun z => absurd z h0, fun z => (z.elim h8 h9).elim, fun z => absurd z h9⟩
theorem ej_0 (h0 : 0 ≤ a) (hk : PKO b) : EJ NN rt E (0, a, b, l) := ⟨fun _ => ⟨h0, hk⟩, fun z => absurd z (by show ¬ ((0 : Int) = 8 ∨ (0 : Int) = 9); decide), fun z => absurd z (by show ¬ (0 : Int) = 9; decide)⟩
theorem ej_8 (h : 0 ≤ a ∧ a < NN rt) : EJ NN rt E (8, a, 0, l) := ⟨fun z => absurd z (by show ¬ (8 : Int) = 0; decide), fun _ => h, fun z => absurd z (by show ¬ (8 : Int) = 9; decide)⟩
theorem ej_9 (h : 0 ≤ a ∧ a < NN rt) (hl : (l.length : Int) = E) (hz : ∀ z ∈ l, PKO z.1) : EJ NN rt E (9, a, 0, l) := ⟨fun z => absurd z (by show ¬ (9 : Int) = 0; decide), fun _ => h, fun _ => ⟨hl, hz⟩⟩
theorem ej_cons (h : EJ NN rt E e) (hS : ∀ z ∈ S0, EJ NN rt E z) : ∀ z ∈ e :: S0, EJ NN rt E z := fun z hz => (List.mem_cons.mp hz).elim (fun u => by rw [u]; exact h) (hS z)
theorem JBR.KK (h : JBR PM NN K E m) (hk : 34 ∈ K2 → 34 ∈ K) : JBR PM NN K2 E m := ⟨h.1, fun z => h.2.1 (hk z), h.2.2⟩
theorem JBR.sS (h : JBR PM NN K E m) (hS : ∀ e ∈ S0, EJ NN m.rt E' e) : JBR PM NN K E' (m.sS S0) := ⟨hS, h.2.1, h.2.2⟩
theorem JBR.sP (h : JBR PM NN K E m) : JBR PM NN K E (m.sP a b) := ⟨h.1, h.2.1, h.2.2⟩
theorem JBR.sL (h : JBR PM NN K E m) : JBR PM NN K E (m.sL a) := ⟨h.1, h.2.1, h.2.2⟩
theorem JBR.sT (h : JBR PM NN K E m) : JBR PM NN K E (m.sT a) := ⟨h.1, h.2.1, h.2.2⟩
theorem JBR.stm (h : JBR PM NN K E m) : JBR PM NN K E m.stm := ⟨h.1, h.2.1, h.2.2⟩
theorem JBR.psh (h : JBR PM NN K E m) (he : EJ NN m.rt E e) : JBR PM NN K E (m.push e) := ⟨ej_cons he h.1, h.2.1, h.2.2⟩
theorem JBR.put (h : JBR PM NN K E m) (hw : whI PM i) (hb : bnI (B0J NN m.rt) i) : JBR PM NN K E (m.put i) := ⟨h.1, fun z => bdj_put (h.2.1 z) hw hb, h.2.2⟩
theorem JBR.rest (h : JBR PM NN K E m) (hs : m.S = e :: S0) : EJ NN m.rt E e ∧ ∀ z ∈ S0, EJ NN m.rt E z := ⟨h.1 e (by rw [hs]; exact List.mem_cons_self), fun z hz => h.1 z (by rw [hs]; exact List.mem_cons_of_mem _ hz)⟩
/-- an item without operands, or with one -/
theorem JBR.p0 {k d o ak a w : Int} (h : JBR PM NN K E m) (hk : k = 8 ∨ k = 11 ∨ k = 13) : JBR PM NN K E (m.put (mkI k d o ak a w)) := h.put (wh_m1 (by omega) (by omega)) (bn_ne (show k ≠ 12 by omega))
theorem JBR.p1 {k d o ak a w : Int} (h : JBR PM NN K E m) (hk : k = 0 ∨ k = 6 ∨ k = 7 ∨ k = 9) (ha : PKO ak) : JBR PM NN K E (m.put (mkI k d o ak a w)) := h.put (wh_1 hk ha) (bn_ne (show k ≠ 12 by omega))
theorem JBR.pb (h : JBR PM NN K E m) (ha : 0 ≤ a ∧ a < NN m.rt) : JBR PM NN K E (m.put (bndI a)) := h.put (wh_b rfl (Or.inr rfl) rfl) (fun _ => ⟨rfl, ha⟩)
theorem JBR.one (h : JBR PM NN K E m) (hp : PKO m.pk ∨ ∃ e S0, m.S = e :: S0 ∧ (e.1 = 11 ∨ e.1 = 1)) : JBR PM NN K E (m.one tb) := by
  cases hs : m.S with
  | nil => rw [show m.one tb = m by unfold MK.one; rw [hs]]; exact h
  | cons e S0 =>
    obtain ⟨he, hS0⟩ := h.rest hs
    have pk : e.1 ≠ 11 → e.1 ≠ 1 → PKO m.pk := fun a b => hp.elim id (fun ⟨e', S', x, y⟩ => by
      have z := List.cons.inj (hs.symm.trans x)
      rw [← z.1] at y
      exact absurd y (by omega))
    rcases one_fx (tb := tb) hs with ⟨a, b⟩ | ⟨a, b⟩ | ⟨a, b⟩ | ⟨a, b⟩ | ⟨a, b⟩ | ⟨a, b⟩ | ⟨a, b⟩ | ⟨a, b⟩
    · rw [b]
      have k5 : 0 ≤ (if e.2.1 < 6 then e.2.1 else 5) ∧ (if e.2.1 < 6 then e.2.1 else 5) ≤ 5 := by
        have := (he.1 a).1
        split <;> omega
      exact JBR.sT (JBR.sP (JBR.sS (h.put (wh_it2 k5.1 k5.2 (he.1 a).2 (pk (by omega) (by omega))) (bn_ne (show (if e.2.1 < 6 then e.2.1 else 5) ≠ 12 by omega))) hS0))
    · rw [b]; exact JBR.sS (h.p0 (by decide)) hS0
    · rw [b]; exact JBR.sL (JBR.sS (h.p1 (by decide) (pk (by omega) (by omega))) (ej_cons (ej_o (show (3 : Int) ≠ 0 by decide) (show (3 : Int) ≠ 8 by decide) (show (3 : Int) ≠ 9 by decide)) hS0))
    · rw [b]; exact JBR.sS (h.p0 (by decide)) hS0
    · rw [b]; exact JBR.sL (JBR.sS (h.p1 (by decide) (pk (by omega) (by omega))) (ej_cons (ej_o (show (7 : Int) ≠ 0 by decide) (show (7 : Int) ≠ 8 by decide) (show (7 : Int) ≠ 9 by decide)) hS0))
    · rw [b]; exact JBR.sS (h.p1 (by split <;> decide) (pk (by omega) (by omega))) hS0
    · rw [b]; exact JBR.sS (h.p1 (by decide) (Or.inl rfl)) hS0
    · rw [b]; exact h
theorem JBR.two (h : JBR PM NN K E m) (hp : PKO m.pk ∨ ∃ e S0, m.S = e :: S0 ∧ e.1 = 5) : JBR PM NN K E m.two := by
  cases hs : m.S with
  | nil => rw [show m.two = m by unfold MK.two; rw [hs]]; exact h
  | cons e S0 =>
    obtain ⟨he, hS0⟩ := h.rest hs
    have pk : e.1 ≠ 5 → PKO m.pk := fun a => hp.elim id (fun ⟨e', S', x, y⟩ => by
      have z := List.cons.inj (hs.symm.trans x)
      rw [← z.1] at y
      exact absurd y a)
    rcases two_fx hs with ⟨a, b⟩ | ⟨a, b⟩ | ⟨a, b⟩ | ⟨a, b⟩ | ⟨a, b⟩
    · rw [b]; exact JBR.sS (JBR.pb (h.p1 (by decide) (pk (by omega))) (he.2.1 (Or.inl a))) hS0
    · rw [b]; exact JBR.sL (JBR.sS (JBR.p0 (h.p0 (by decide)) (by decide)) (ej_cons (ej_o (show (6 : Int) ≠ 0 by decide) (show (6 : Int) ≠ 8 by decide) (show (6 : Int) ≠ 9 by decide)) hS0))
    · rw [b]; exact JBR.sL (JBR.sS (JBR.p0 (h.p0 (by decide)) (by decide)) (ej_cons (ej_o (show (3 : Int) ≠ 0 by decide) (show (3 : Int) ≠ 8 by decide) (show (3 : Int) ≠ 9 by decide)) hS0))
    · rw [b]; exact JBR.sS (JBR.p0 (h.p0 (by decide)) (by decide)) hS0
    · rw [b]; exact h
theorem JBR.cal (h : JBR PM NN K E m) (hs : m.S = e :: S0) (h9 : e.1 = 9) (hS : ∀ z ∈ S0, z.1 ≠ 9) (hC : PM (rn w) ≤ E) : JBR PM NN K E' (m.cal rn w) := by
  obtain ⟨he, hS0⟩ := h.rest hs
  rcases cal_fx (rn := rn) (w := w) hs with ⟨a, b⟩ | ⟨a, b⟩
  · rw [b]
    have q := he.2.2 h9
    exact JBR.sS (JBR.pb (h.put (wh_itC (by rw [q.1]; exact hC) q.2) (bn_ne (show (10 : Int) ≠ 12 by decide))) (he.2.1 (Or.inr h9))) (fun z hz => (hS0 z hz).ev1 (hS z hz))
  · exact absurd h9 a
theorem no34 (h : stk s k t x q = some r) (hk : k ≠ 35) : 34 ∉ r.1 := by
  unfold stk at h
  split at h
  all_goals (repeat' split at h)
  all_goals first
    | (cases h; done)
    | (cases h; simp; done)
    | exact absurd rfl hk
theorem q2e (h : stk s k t x q = some r) (h25 : k ≠ 25) (h27 : k ≠ 27) (h38 : k ≠ 38) : r.2.2.2.1.2.1 = q.2.1 := by
  unfold stk at h
  split at h
  all_goals (repeat' split at h)
  all_goals first
    | (cases h; done)
    | (cases h; rfl)
    | exact absurd rfl h25
    | exact absurd rfl h27
    | exact absurd rfl h38
theorem one_pk : PKO (m.one tb).pk ∨ (m.one tb).pk = m.pk := by
  unfold MK.one
  split
  · exact Or.inr rfl
  · repeat' split
    all_goals first
      | exact Or.inr rfl
      | exact Or.inl (Or.inr rfl)
theorem mkk_pk : PKO (mkk s nm rn tb k t q m).pk ∨ (mkk s nm rn tb k t q m).pk = m.pk := by
  unfold mkk
  split
  all_goals first
    | exact one_pk
    | exact Or.inr (congrArg Prod.fst two_q.2.2)
    | exact Or.inr (congrArg Prod.fst cal_q.2.2)
    | exact Or.inr (congrArg Prod.fst top_q.2.2)
    | exact Or.inr rfl
    | (repeat' split) <;> first | exact Or.inr rfl | exact Or.inl (Or.inl rfl) | exact Or.inl (Or.inr rfl) | exact Or.inr (congrArg Prod.fst top_q.2.2)
theorem mkk_rt (hk : k ≠ 34) : (mkk s nm rn tb k t q m).rt = m.rt := by
  unfold mkk
  split
  all_goals first
    | exact absurd rfl hk
    | exact one_q.2
    | exact two_q.2.1
    | exact cal_q.2.1
    | exact top_q.2.1
    | rfl
    | (repeat' split) <;> first | rfl | exact top_q.2.1
theorem top_s {g : ME → ME} (h : m.S = e :: S0) : m.top g = m.sS (g e :: S0) := by
  unfold MK.top
  rw [h]
/-- a step keeps it -/
theorem JBR.st (h : JBR PM NN (k :: K) q.2.1 m) (hs : stk s k t x q = some r) (hN : k = 23 → 0 ≤ nm m.rt t.2.2.2.2 ∧ nm m.rt t.2.2.2.2 < NN m.rt) (hC : k = 38 → PM (rn q.1) ≤ q.2.1) (hp : k = 6 ∨ k = 8 ∨ k = 9 ∨ k = 27 → PKO m.pk) (h51 : k = 51 → PKO m.pk ∨ ∃ e S0, m.S = e :: S0 ∧ (e.1 = 11 ∨ e.1 = 1)) (h52 : k = 52 → PKO m.pk ∨ ∃ e S0, m.S = e :: S0 ∧ e.1 = 5) (n25 : k = 25 → (∃ e S0, m.S = e :: S0 ∧ e.1 = 8) ∧ ∀ e ∈ m.S, e.1 ≠ 9) (n9 : k = 27 ∨ k = 38 → ∃ e S0, m.S = e :: S0 ∧ e.1 = 9 ∧ ∀ z ∈ S0, z.1 ≠ 9) (k34 : k = 34 → 34 ∉ K ∧ m.S = []) : JBR PM NN (r.1 ++ K) r.2.2.2.1.2.1 (mkk s nm rn tb k t q m) := by
  by_cases k35 : k = 35
  · subst k35
    obtain rfl := Option.some.inj (hs.symm.trans rfl)
    refine ⟨fun e he => ?_, fun _ => ⟨Int.le_refl _, fun k a b => absurd (show k < 0 from b) (by omega), fun k a b => absurd (show k < 0 from b) (by omega)⟩, h.2.2⟩
    have z : e = (11, 0, 0, []) := List.mem_singleton.mp he
    rw [z]
    exact ej_o (show (11 : Int) ≠ 0 by decide) (show (11 : Int) ≠ 8 by decide) (show (11 : Int) ≠ 9 by decide)
  by_cases k34' : k = 34
  · subst k34'
    obtain rfl := Option.some.inj (hs.symm.trans rfl)
    refine ⟨fun e he => absurd (show e ∈ m.S from he) (by rw [(k34 rfl).2]; exact List.not_mem_nil), fun z => absurd (show 34 ∈ K from z) (k34 rfl).1, fun y => ?_⟩
    · show BDJ PM NN y (uZ m.dn m.rt (m.n, m.V) y).2 (uZ m.dn m.rt (m.n, m.V) y).1
      by_cases z : y = m.rt
      · rw [z, uZ_eq]; exact h.2.1 List.mem_cons_self
      · rw [uZ_ne z]; exact h.2.2 y
  have kk : 34 ∈ r.1 ++ K → 34 ∈ k :: K := fun z => List.mem_cons_of_mem _ ((List.mem_append.mp z).elim (fun u => absurd u (no34 hs k35)) id)
  by_cases k25 : k = 25
  · subst k25
    obtain ⟨⟨e, S0, hS, e8⟩, n25⟩ := n25 rfl
    by_cases z : nam t ∧ sgn (advT s t.2.1) 40
    · obtain rfl := Option.some.inj (hs.symm.trans ((if_pos z.1).trans (if_pos z.2)))
      rw [show mkk s nm rn tb 25 t q m = m.top (fun e => if e.1 = 8 then (9, e.2.1, 0, []) else e) from if_pos z, top_s hS, if_pos e8]
      obtain ⟨he, hS0⟩ := h.rest hS
      exact JBR.sS (h.KK kk) (ej_cons (ej_9 (he.2.1 (Or.inl e8)) rfl (fun z hz => absurd hz List.not_mem_nil)) (fun z hz => (hS0 z hz).ev1 (n25 z (by rw [hS]; exact List.mem_cons_of_mem _ hz))))
    · rw [show mkk s nm rn tb 25 t q m = m from if_neg z]
      refine ⟨fun e he => (h.1 e he).ev1 (n25 e he), fun u => h.2.1 (kk u), h.2.2⟩
  by_cases k27 : k = 27
  · subst k27
    obtain ⟨e, S0, hS, e9, n9⟩ := n9 (Or.inl rfl)
    obtain ⟨he, hS0⟩ := h.rest hS
    have q9 := he.2.2 e9
    have eq : r.2.2.2.1.2.1 = q.2.1 + 1 := by
      by_cases z : sgn t 44
      · obtain rfl := Option.some.inj (hs.symm.trans (if_pos z)); rfl
      · obtain rfl := Option.some.inj (hs.symm.trans (if_neg z)); rfl
    rw [show mkk s nm rn tb 27 t q m = m.top (fun e => if e.1 = 9 then (9, e.2.1, 0, e.2.2.2 ++ [(m.pk, m.pv)]) else e) from rfl, top_s hS, if_pos e9, eq]
    refine JBR.sS (h.KK kk) (ej_cons (ej_9 (he.2.1 (Or.inr e9)) (by rw [List.length_append, List.length_singleton, ← q9.1]; omega) (fun z hz => ?_)) (fun z hz => (hS0 z hz).ev1 (n9 z hz)))
    rcases List.mem_append.mp hz with u | u
    · exact q9.2 z u
    · rw [List.mem_singleton.mp u]; exact hp (Or.inr (Or.inr (Or.inr rfl)))
  by_cases k38 : k = 38
  · subst k38
    obtain ⟨e, S0, hS, e9, n9⟩ := n9 (Or.inr rfl)
    rw [show mkk s nm rn tb 38 t q m = m.cal rn q.1 from rfl]
    exact JBR.cal (h.KK kk) hS e9 n9 (hC rfl)
  rw [q2e hs k25 k27 k38]
  replace h := h.KK kk
  clear kk
  by_cases k0 : k = 0
  · subst k0
    by_cases z : sgn t 45
    · rw [show mkk s nm rn tb 0 t q m = m.push (0, 2, 1, [(0, 0)]) from if_pos z]
      exact h.psh (ej_0 (by decide) (Or.inl rfl))
    · rw [show mkk s nm rn tb 0 t q m = m from if_neg z]; exact h
  by_cases k1 : k = 1
  · subst k1
    show JBR PM NN (r.1 ++ K) q.2.1 (if t.2.2.1 = 3 then m.sP 1 t.2.2.2.1 else if nam t then m.sP 2 (nm m.rt t.2.2.2.2) else m)
    repeat' split
    · exact h.sP
    · exact h.sP
    · exact h
  by_cases k6 : k = 6
  · subst k6
    have p := hp (Or.inl rfl)
    show JBR PM NN (r.1 ++ K) q.2.1 (if sgn t 61 then m.push (0, 4, m.pk, [(m.pv, 0)]) else if sgn t 60 then m.push (0, 5, m.pk, [(m.pv, 0)]) else m)
    repeat' split
    · exact h.psh (ej_0 (by decide) p)
    · exact h.psh (ej_0 (by decide) p)
    · exact h
  by_cases k8 : k = 8
  · subst k8
    have p := hp (Or.inr (Or.inl rfl))
    show JBR PM NN (r.1 ++ K) q.2.1 (if sgn t 43 then m.push (0, 1, m.pk, [(m.pv, 0)]) else if sgn t 45 then m.push (0, 2, m.pk, [(m.pv, 0)]) else m)
    repeat' split
    · exact h.psh (ej_0 (by decide) p)
    · exact h.psh (ej_0 (by decide) p)
    · exact h
  by_cases k9 : k = 9
  · subst k9
    have p := hp (Or.inr (Or.inr (Or.inl rfl)))
    show JBR PM NN (r.1 ++ K) q.2.1 (if sgn t 42 then m.push (0, 3, m.pk, [(m.pv, 0)]) else m)
    repeat' split
    · exact h.psh (ej_0 (by decide) p)
    · exact h
  by_cases k20 : k = 20
  · subst k20
    show JBR PM NN (r.1 ++ K) q.2.1 (if wrd t 512852847717 then m.stm else m.stm.push (1, 0, 0, []))
    repeat' split
    · exact h.stm
    · exact h.stm.psh (ej_o (show (1 : Int) ≠ 0 by decide) (show (1 : Int) ≠ 8 by decide) (show (1 : Int) ≠ 9 by decide))
  by_cases k21 : k = 21
  · subst k21
    exact h.psh (e := (2, 0, 0, [])) (ej_o (show (2 : Int) ≠ 0 by decide) (show (2 : Int) ≠ 8 by decide) (show (2 : Int) ≠ 9 by decide))
  by_cases k22 : k = 22
  · subst k22
    exact h.psh (e := (5, 0, 0, [])) (ej_o (show (5 : Int) ≠ 0 by decide) (show (5 : Int) ≠ 8 by decide) (show (5 : Int) ≠ 9 by decide))
  by_cases k23 : k = 23
  · subst k23
    exact h.psh (e := (8, nm m.rt t.2.2.2.2, 0, [])) (ej_8 (hN rfl))
  by_cases k24 : k = 24
  · subst k24
    show JBR PM NN (r.1 ++ K) q.2.1 (if wrd t 1701606245 then m.top (fun e => if e.1 = 3 then (4, e.2.1, 0, []) else e) else m)
    split
    · cases hS : m.S with
      | nil => rw [show m.top (fun e => if e.1 = 3 then (4, e.2.1, 0, []) else e) = m by unfold MK.top; rw [hS]]; exact h
      | cons e S0 =>
        obtain ⟨he, hS0⟩ := h.rest hS
        rw [top_s hS]
        refine JBR.sS h (ej_cons ?_ hS0)
        show EJ NN m.rt q.2.1 (if e.1 = 3 then (4, e.2.1, 0, []) else e)
        split
        · exact ej_o (show (4 : Int) ≠ 0 by decide) (show (4 : Int) ≠ 8 by decide) (show (4 : Int) ≠ 9 by decide)
        · exact he
    · exact h
  by_cases k39 : k = 39
  · subst k39
    show JBR PM NN (r.1 ++ K) q.2.1 (if wrd t 7304564 then m.push (10, 6, 0, []) else m.push (10, 7, 0, []))
    split
    · exact h.psh (ej_o (show (10 : Int) ≠ 0 by decide) (show (10 : Int) ≠ 8 by decide) (show (10 : Int) ≠ 9 by decide))
    · exact h.psh (ej_o (show (10 : Int) ≠ 0 by decide) (show (10 : Int) ≠ 8 by decide) (show (10 : Int) ≠ 9 by decide))
  by_cases k51 : k = 51
  · subst k51; exact JBR.one h (h51 rfl)
  by_cases k52 : k = 52
  · subst k52; exact JBR.two h (h52 rfl)
  rw [mkk_df (by omega)]
  exact h
end JBS
def JM (PM NN tb : Int → Int) (p0 p2 : Int) (K : List Nat) (E : Int) (M m : MK) : Prop := RLM tb (fun x => x) K M m ∧ ((PKO M.pk ∨ M.pk = p0) ∧ (PKO m.pk ∨ m.pk = p2)) ∧ (rnT K (tyS m.S) = some [] ∧ OKC K) ∧ JBR PM NN K E m
def z0E : List EW → Int
  | [] => 0
  | e :: es => (if e.1 = 0 then 1 else 0) + z0E es
def NOK (N : Int → Int64 → Prop) (C : EW → Prop) : Int → List EW → Prop
  | _, [] => True
  | y, e :: es => (e.1 = 4 → N y e.2.2.2) ∧ (e.1 = 1 → C e) ∧ NOK N C (if e.1 = 0 then y + 1 else y) es
section JMS
variable {PM NN tb : Int → Int} {s : Int → Int} {nm : Int → Int64 → Int} {rn : Int64 → Int} {k : Nat} {K : List Nat} {t : TK} {x : Int × Int × Int} {q : QR} {ρ : List EV} {r : List Nat × TK × (Int × Int × Int) × QR × List EV} {M m : MK} {E y p0 p2 : Int} {N : Int → Int64 → Prop} {C : EW → Prop} {es fs : List EW}
theorem hdr_h (h : HDR (k :: K)) : k = 36 ∨ k = 30 ∨ k = 140 ∨ k = 31 ∨ k = 141 ∨ k = 32 ∨ k = 33 ∨ k = 35 := by
  rcases h with a | a | a | a | a | a | a | a | a
  · exact absurd a (by simp)
  all_goals (have b := (List.cons.inj a).1; omega)
theorem jm_q (h : RLM tb (fun x => x) (k :: K) M m) (hM : PKO M.pk ∨ M.pk = p0) (hm : PKO m.pk ∨ m.pk = p2) (h0 : p0 ≠ p2) (hk : ¬ (k = 36 ∨ k = 30 ∨ k = 140 ∨ k = 31 ∨ k = 141 ∨ k = 32 ∨ k = 33 ∨ k = 35)) : (PKO m.pk ∨ DIR (k :: K) M.S) ∧ SLR (tb M.rt) M.S m.S ∧ BOT (k :: K) := by
  obtain ⟨-, -, c⟩ := h
  rcases c with c | ⟨b, ⟨-, -, sl⟩, d⟩
  · exact absurd (hdr_h c) hk
  · refine ⟨d.imp (fun p => ?_) id, sl, b⟩
    have e : m.pk = M.pk := p.1
    rcases hM with u | u
    · rw [e]; exact u
    · rcases hm with v | v
      · exact v
      · exact absurd (u.symm.trans (e.symm.trans v)) h0
theorem slr_1 {N : Int} {S S' : List ME} {e : ME} {S0 : List ME} (h : SLR N S S') (hS : S = e :: S0) : ∃ e' S1, S' = e' :: S1 ∧ e'.1 = e.1 := by
  rw [hS] at h
  obtain ⟨e', S1, a, b, -⟩ := h.cons
  exact ⟨e', S1, a, b.1⟩
theorem n9_no {S : List ME} (h : n9T (tyS S) = 0) : ∀ e ∈ S, e.1 ≠ 9 := fun e he => n9_z h e.1 (List.mem_map.mpr ⟨e, he, rfl⟩)
theorem JM.st (hnm : ∀ r w, nm r w < 1000) (hp : p0 ≠ p2) (h : JM PM NN tb p0 p2 (k :: K) q.2.1 M m) (hs : stk s k t x q = some r) (hN : k = 23 → 0 ≤ nm m.rt t.2.2.2.2 ∧ nm m.rt t.2.2.2.2 < NN m.rt) (hC : k = 38 → PM (rn q.1) ≤ q.2.1) : JM PM NN tb p0 p2 (r.1 ++ K) r.2.2.2.1.2.1 (mkk s nm rn tb1 k t q M) (mkk s nm rn tb k t q m) := by
  obtain ⟨h1, ⟨hM, hm⟩, ⟨hr, hO⟩, hJ⟩ := h
  have g1 : RLM tb (fun x => x) (r.1 ++ K) (mkk s nm rn tb1 k t q M) (mkk s nm rn tb k t q m) := RLM.step (rn := rn) hnm h1 hs
  obtain ⟨S1, c1, c2⟩ := rnT_ex hr
  have g3 : rnT (r.1 ++ K) (tyS (mkk s nm rn tb k t q m).S) = some [] := (rnT_app r.1 (rnT_st c1 hs)).trans c2
  have up : ∀ {tb : Int → Int} {m : MK} {p : Int}, PKO m.pk ∨ m.pk = p → PKO (mkk s nm rn tb k t q m).pk ∨ (mkk s nm rn tb k t q m).pk = p := by
    intro tb m p u
    rcases mkk_pk (s := s) (nm := nm) (rn := rn) (tb := tb) (k := k) (t := t) (q := q) (m := m) with v | v
    · exact Or.inl v
    · rw [v]; exact u
  refine ⟨g1, ⟨up hM, up hm⟩, ⟨g3, hO.st hs⟩, ?_⟩
  have n9 : n9T (tyS m.S) = ncT (k :: K) := by
    have z := n9_r _ hr
    have z2 : n9T ([] : List Int) = 0 := rfl
    omega
  have cg : CTG k → ncT K = 0 := fun z => nc_0 (hO.1 (Or.inl z))
  refine JBR.st hJ hs hN hC (fun z => ?_) (fun z => ?_) (fun z => ?_) (fun z => ?_) (fun z => ?_) (fun z => ?_)
  · have d := (jm_q h1 hM hm hp (by omega)).1
    exact d.elim id (fun d => (d.no (by omega)).elim)
  · subst z
    obtain ⟨d, sl, -⟩ := jm_q h1 hM hm hp (by omega)
    refine d.imp id (fun d => ?_)
    obtain ⟨e, S', d1, d2⟩ := d.b51
    obtain ⟨e', S2, a, b⟩ := slr_1 sl d1
    exact ⟨e', S2, a, by rw [b]; exact d2.imp (fun u => u.1) (fun u => u.1)⟩
  · subst z
    obtain ⟨d, sl, -⟩ := jm_q h1 hM hm hp (by omega)
    refine d.imp id (fun d => ?_)
    obtain ⟨e, S', d1, d2, -⟩ := d.b52
    obtain ⟨e', S2, a, b⟩ := slr_1 sl d1
    exact ⟨e', S2, a, b.trans d2⟩
  · subst z
    obtain ⟨e, S0, a, b, -⟩ := ty_c (m := m) rfl (cnP_1 (show cnP [8] (tyS m.S) = some S1 from c1))
    refine ⟨⟨e, S0, a, b⟩, n9_no ?_⟩
    rw [n9, nc_c, cg (Or.inr (Or.inl rfl)), if_neg (by decide)]
  · have c9 : cnP [9] (tyS m.S) = some S1 := by
      rcases z with rfl | rfl
      · exact c1
      · exact c1
    obtain ⟨e, S0, a, b, c⟩ := ty_c (m := m) rfl (cnP_1 c9)
    refine ⟨e, S0, a, b, n9_no ?_⟩
    have w : n9T (tyS m.S) = 1 := by
      rw [n9, nc_c, cg (by unfold CTG; omega), if_pos (by omega)]
    rw [cnP_1 c9, n9_c, if_pos rfl] at w
    rw [c]; omega
  · subst z
    obtain ⟨-, -, p, e, nt⟩ := jm_q h1 hM hm hp (by omega)
    have p0 : p = [] := by
      cases p with
      | nil => rfl
      | cons a p =>
        have b : (34 : Nat) = a := (List.cons.inj e).1
        have n := nt a List.mem_cons_self
        rw [← b] at n
        exact absurd n (by unfold NTg; omega)
    rw [p0] at e
    have eK : K = [36] := (List.cons.inj e).2
    refine ⟨by rw [eK]; decide, ?_⟩
    have z : S1 = tyS m.S := by
      rw [cnT_n (by decide)] at c1
      exact (Option.some.inj c1).symm
    rw [eK, z] at c2
    have c4 : tyS m.S = [] := by
      cases e : tyS m.S with
      | nil => rfl
      | cons z0 L => rw [e] at c2; exact absurd c2 (by simp [rnT, cnT])
    cases e : m.S with
    | nil => rfl
    | cons e0 S0 =>
      rw [e] at c4
      exact absurd (show e0.1 :: tyS S0 = [] from c4) (by simp)
theorem NOK.tl (h : NOK N C y (evk k t x q ++ fs)) (hk : k ≠ 34) : NOK N C y fs := by
  unfold evk at h
  split at h
  all_goals (repeat' split at h)
  all_goals first
    | exact h
    | exact h.2.2
    | exact absurd rfl hk
theorem nok_23 (h : NOK N C y (evk 23 t x q ++ fs)) : N y t.2.2.2.2 := h.1 rfl
theorem nok_38 (h : NOK N C y (evk 38 t x q ++ fs)) : C (1, q.2.2.1, q.2.1, q.1) := h.2.1 rfl
theorem nok_34 (h : NOK N C y (evk 34 t x q ++ fs)) : NOK N C (y + 1) fs := h.2.2
theorem JM.run (hnm : ∀ r w, nm r w < 1000) (hp : p0 ≠ p2) (hN : ∀ y w, N y w → 0 ≤ nm y w ∧ nm y w < NN y) (hC : ∀ e, C e → PM (rn e.2.2.2) ≤ e.2.2.1) : ∀ (n : Nat) {a : PCf} {M m : MK}, (JM PM NN tb p0 p2 a.1 a.2.2.2.1.2.1 M m ∨ a = pF) → NOK N C m.rt (evs s n a) → JM PM NN tb p0 p2 (itr s n a).1 (itr s n a).2.2.2.1.2.1 (mkn s nm rn tb1 n a M) (mkn s nm rn tb n a m) ∨ itr s n a = pF
  | 0, _, _, _, h, _ => h
  | n + 1, a, M, m, h, e => by
    rcases h with h | h
    · obtain ⟨K0, t, x, q, ρ⟩ := a
      show JM PM NN tb p0 p2 (itr s n (stp s (K0, t, x, q, ρ))).1 (itr s n (stp s (K0, t, x, q, ρ))).2.2.2.1.2.1 (mkn s nm rn tb1 n (stp s (K0, t, x, q, ρ)) (mkt s nm rn tb1 (K0, t, x, q, ρ) M)) (mkn s nm rn tb n (stp s (K0, t, x, q, ρ)) (mkt s nm rn tb (K0, t, x, q, ρ) m)) ∨ itr s n (stp s (K0, t, x, q, ρ)) = pF
      have e : NOK N C m.rt (evt s (K0, t, x, q, ρ) ++ evs s n (stp s (K0, t, x, q, ρ))) := e
      cases K0 with
      | nil => exact JM.run hnm hp hN hC n (Or.inl h) e
      | cons k K =>
        cases es : stk s k t x q with
        | none => rw [stp_none es]; exact Or.inr (itr_fix (stp_pF s) n)
        | some r =>
          have ev : evt s (k :: K, t, x, q, ρ) = evk k t x q := by
            by_cases z : k = 999
            · subst z
              exact (if_pos rfl : (if (999 : Nat) = 999 then ([] : List EW) else match stk s 999 t x q with
                | none => [(9, t.1, 0, 0)]
                | some _ => evk 999 t x q) = [])
            · exact evt_s z es
          rw [ev] at e
          rw [mkt_s es, mkt_s es, stp_some es]
          rw [stp_some es] at e
          refine JM.run hnm hp hN hC n (Or.inl (h.st hnm hp es (fun z => ?_) (fun z => ?_))) ?_
          · subst z; exact hN _ _ (nok_23 e)
          · subst z; exact hC _ (nok_38 e)
          · by_cases z : k = 34
            · subst z; exact nok_34 e
            · rw [mkk_rt z]; exact e.tl z
    · exact Or.inr (by rw [h]; exact itr_fix (stp_pF s) _)
/-- what was made of a whole text -/
theorem JM.fin {p v : Int} {m' : MK} {t0 t1 t2 : TK} {x0 x1 x2 : Int × Int × Int} {q0 q1 q2 : QR} {l0 l1 l2 : List EV} (hnm : ∀ r w, nm r w < 1000) (hN : ∀ y w, N y w → 0 ≤ nm y w ∧ nm y w < NN y) (hC : ∀ e, C e → PM (rn e.2.2.2) ≤ e.2.2.1) (h : RM s nm rn tb ([36], t0, x0, q0, l0) (mk00 p v) ([], t1, x1, q1, l1) m') (g : RE s ([36], t0, x0, q0, l0) es ([], t2, x2, q2, l2)) (ok : NOK N C 0 es) : ∀ y, BDJ PM NN y (m'.dn y).2 (m'.dn y).1 := by
  obtain ⟨n, h1, h2⟩ := h
  obtain ⟨k, g1, g2⟩ := g
  have d : evs s n ([36], t0, x0, q0, l0) = es := by
    by_cases z : n ≤ k
    · obtain ⟨j, rfl⟩ : ∃ j, k = n + j := ⟨k - n, by omega⟩
      rw [evs_add, h1, evs_fix rfl evt_nil, List.append_nil] at g2
      exact g2
    · obtain ⟨j, rfl⟩ : ∃ j, n = k + j := ⟨n - k, by omega⟩
      rw [evs_add, g1, evs_fix rfl evt_nil, List.append_nil]
      exact g2
  have j0 : JM PM NN tb (p + 1) p [36] q0.2.1 (mk00 (p + 1) v) (mk00 p v) := ⟨RLM.hd rfl ⟨rfl, fun q => ⟨rfl, fun k a b => absurd (show k < 0 from b) (by omega)⟩⟩ (Or.inr (Or.inl rfl)), ⟨Or.inr rfl, Or.inr rfl⟩, ⟨rfl, fun _ z hz => absurd hz List.not_mem_nil, trivial⟩, fun e he => absurd he List.not_mem_nil, fun z => absurd z (by decide), fun y => ⟨Int.le_refl _, fun k a b => absurd (show k < 0 from b) (by omega), fun k a b => absurd (show k < 0 from b) (by omega)⟩⟩
  have w := JM.run (s := s) (rn := rn) hnm (show p + 1 ≠ p by omega) hN hC n (a := ([36], t0, x0, q0, l0)) (Or.inl j0) (by rw [d]; exact ok)
  rw [h1, h2] at w
  rcases w with w | w
  · exact w.2.2.2.2.2
  · exact absurd (congrArg Prod.fst w) (by show ¬ ([] : List Nat) = [999]; simp)
end JMS
def KNF (r : RS) (y : Int) (w : Int64) : Prop := ∃ i, (0 ≤ i ∧ i < 12) ∧ i < r.nn y ∧ r.nw (12 * y + i) = w
section NKT
variable {r : RS} {y : Int} {w w2 : Int64} {e : EW} {es : List EW} {c : CS} {N : Int → Int64 → Prop} {C : EW → Prop}
theorem knf_nm (h : KNF r y w) (hy : 0 ≤ y ∧ y ≤ r.rt) (hb : NBD r) : KNF (sNm r w2) y w := by
  unfold sNm
  by_cases z : r.ph = 1 ∧ r.rt < 6 ∧ ¬ fndN r w2 ∧ r.nn r.rt ≠ 12
  · rw [ifP_t z]
    obtain ⟨i, i0, i1, i2⟩ := h
    have b := hb r.rt (by omega) z.2.1
    refine ⟨i, i0, ?_, ?_⟩
    · show i < up1 r.nn r.rt (r.nn r.rt + 1) y
      unfold up1
      by_cases u : y = r.rt
      · rw [if_pos u]; rw [u] at i1; omega
      · rw [if_neg u]; exact i1
    · show up1 r.nw (12 * r.rt + r.nn r.rt) w2 (12 * y + i) = w
      unfold up1
      rw [if_neg (by
        by_cases u : y = r.rt
        · rw [u] at i1 ⊢; omega
        · omega)]
      exact i2
  · rw [ifP_f z]; exact h
theorem rt_u : (uR r e).rt = r.rt + (if e.1 = 0 then 1 else 0) := by
  show (sR r e).rt = _
  have nm : ∀ w, (sNm r w).rt = r.rt := fun w => by
    unfold sNm
    by_cases z : r.ph = 1 ∧ r.rt < 6 ∧ ¬ fndN r w ∧ r.nn r.rt ≠ 12
    · rw [ifP_t z]
    · rw [ifP_f z]
  unfold sR
  by_cases c2 : e.1 = 2
  · rw [if_pos c2, if_neg (by omega)]
    by_cases z : r.ph = 1
    · rw [ifP_t z]; show r.rt = r.rt + 0; omega
    · rw [ifP_f z]; omega
  rw [if_neg c2]
  by_cases c3 : e.1 = 3
  · rw [if_pos c3, if_neg (by omega)]
    by_cases z : r.ph = 1
    · rw [ifP_t z, nm]; omega
    · rw [ifP_f z]; omega
  rw [if_neg c3]
  by_cases c7 : e.1 = 7
  · rw [if_pos c7, if_neg (by omega)]
    by_cases z : r.ph = 1
    · rw [ifP_t z]; show r.rt = r.rt + 0; omega
    · rw [ifP_f z]; omega
  rw [if_neg c7]
  by_cases c4 : e.1 = 4
  · rw [if_pos c4, if_neg (by omega), nm]; omega
  rw [if_neg c4]
  by_cases c5 : e.1 = 5
  · rw [if_pos c5, if_neg (by omega)]; show r.rt = r.rt + 0; omega
  rw [if_neg c5]
  by_cases c1 : e.1 = 1
  · rw [if_pos c1, if_neg (by omega)]; omega
  rw [if_neg c1]
  by_cases c0 : e.1 = 0
  · rw [if_pos c0, if_pos c0]
  · rw [if_neg c0, if_neg c0]; omega
theorem KNF.u (h : KNF r y w) (hy : 0 ≤ y ∧ y ≤ r.rt) (hb : NBD r) : KNF (uR r e) y w := by
  have go : KNF (sR r e) y w := by
    unfold sR
    split
    · by_cases z : r.ph = 1
      · rw [ifP_t z]; exact h
      · rw [ifP_f z]; exact h
    split
    · by_cases z : r.ph = 1
      · rw [ifP_t z]; exact knf_nm h hy hb
      · rw [ifP_f z]; exact h
    split
    · by_cases z : r.ph = 1
      · rw [ifP_t z]; exact h
      · rw [ifP_f z]; exact h
    split
    · exact knf_nm h hy hb
    split
    · exact h
    split
    · exact h
    split
    · exact h
    exact h
  exact go
theorem KNF.fold : ∀ (es : List EW) {r : RS}, KNF r y w → 0 ≤ y → y ≤ r.rt → NBD r → KNF (es.foldl uR r) y w
  | [], _, h, _, _, _ => h
  | e :: es, r, h, y0, y1, hb => by
    refine KNF.fold es (h.u (e := e) ⟨y0, y1⟩ hb) y0 ?_ (uR_m (e := e) (show 0 ≤ r.rt by omega) hb).2.1
    rw [rt_u]
    split <;> omega
theorem rt_fold : ∀ (es : List EW) {r : RS}, (es.foldl uR r).rt = r.rt + z0E es
  | [], r => by show r.rt = r.rt + 0; omega
  | e :: es, r => by
    show (es.foldl uR (uR r e)).rt = r.rt + ((if e.1 = 0 then 1 else 0) + z0E es)
    rw [rt_fold es, rt_u]
    omega
theorem nok_of : ∀ (es : List EW) {y : Int}, (∀ e1 e e2, es = e1 ++ e :: e2 → (e.1 = 4 → N (y + z0E e1) e.2.2.2) ∧ (e.1 = 1 → C e)) → NOK N C y es
  | [], _, _ => trivial
  | e :: es, y, h => ⟨fun z => by
      have q := (h [] e es rfl).1 z
      rw [show y + z0E [] = y by show y + 0 = y; omega] at q
      exact q, (h [] e es rfl).2, nok_of es (fun e1 x e2 q => by
      have g := h (e :: e1) x e2 (by rw [q]; rfl)
      refine ⟨fun z => ?_, g.2⟩
      have w := g.1 z
      have eq : (if e.1 = 0 then y + 1 else y) + z0E e1 = y + z0E (e :: e1) := by
        show _ = y + ((if e.1 = 0 then 1 else 0) + z0E e1)
        by_cases u : e.1 = 0
        · rw [if_pos u, if_pos u]; omega
        · rw [if_neg u, if_neg u]; omega
      rw [eq]; exact w)⟩
theorem rn_u : c.rn ≤ (uC c e).rn := by
  show c.rn ≤ (sC c e).rn
  have nm : ∀ w, (sCn c w).rn = c.rn := fun w => by
    unfold sCn
    by_cases z : ¬ fndC c w ∧ ¬ 12 ≤ c.nn
    · rw [ifP_t z]
    · rw [ifP_f z]
  unfold sC
  split
  · show c.rn ≤ c.rn + 1; omega
  split
  · show c.rn ≤ (sCn c _).rn; rw [nm]; exact Int.le_refl _
  split
  · exact Int.le_refl _
  split
  · rw [nm]; exact Int.le_refl _
  split
  · exact Int.le_refl _
  split
  · exact Int.le_refl _
  exact Int.le_refl _
theorem rn_f : ∀ (es : List EW) {c : CS}, c.rn ≤ (es.foldl uC c).rn
  | [], _ => Int.le_refl _
  | e :: es, c => Int.le_trans (rn_u (e := e)) (rn_f es)
theorem cnt_z9 : ∀ (M : List NT) {a : FP}, POS M → (cnts M a).1 = 0 → M = [] ∧ a.1 = 0
  | [], _, _, h => ⟨rfl, h⟩
  | n :: M, a, g, h => by
    have q := cnt_z9 M (a := cntN n.2 n.1 a) (fun m w => g m (List.mem_cons_of_mem _ w)) h
    have p := g n List.mem_cons_self
    exact (cntN_z (by omega) q.2).elim
/-- a name that is told is known behind -/
theorem knf_4 {e1 : List EW} {N1 NC Z : List NT} {pc lo : Int} {r1 : RS} {c1 : CS} (k : K1 r1 c1 N1 NC Z 2 pc lo) (h4 : e.1 = 4) (h6 : r1.rt < 6) (hc : (uC c1 e).fp.1 = 0) : KNF (uR r1 e) r1.rt e.2.2.2 := by
  have kn := k.nn (by decide) h6
  have kb := k.nb
  have en : nC c1 e = nCn c1 e.2.2.2 e.2.1 := by
    unfold nC
    rw [if_neg (by omega), if_neg (by omega), if_neg (by omega), if_pos h4]
  have n0 : nCn c1 e.2.2.2 e.2.1 = [] := by
    have z : (cnts (nC c1 e) c1.fp).1 = 0 := hc
    rw [← en]
    exact (cnt_z9 _ (pos_C c1 e) z).1
  have ok : fndC c1 e.2.2.2 ∨ c1.nn < 12 := by
    apply Classical.byContradiction
    intro q
    have q1 : ¬ fndC c1 e.2.2.2 ∧ 12 ≤ c1.nn := ⟨fun u => q (Or.inl u), by
      apply Classical.byContradiction
      intro u
      exact q (Or.inr (by omega))⟩
    unfold nCn at n0
    rw [ifP_t q1] at n0
    exact absurd n0 (by simp)
  have go : KNF (sR r1 e) r1.rt e.2.2.2 := by
    have es : sR r1 e = sNm r1 e.2.2.2 := by
      unfold sR
      rw [if_neg (by omega), if_neg (by omega), if_neg (by omega), if_pos h4]
    rw [es]
    unfold sNm
    by_cases z : r1.ph = 1 ∧ r1.rt < 6 ∧ ¬ fndN r1 e.2.2.2 ∧ r1.nn r1.rt ≠ 12
    · rw [ifP_t z]
      refine ⟨r1.nn r1.rt, ⟨by omega, by omega⟩, ?_, ?_⟩
      · show r1.nn r1.rt < up1 r1.nn r1.rt (r1.nn r1.rt + 1) r1.rt
        unfold up1
        rw [if_pos rfl]; omega
      · show up1 r1.nw (12 * r1.rt + r1.nn r1.rt) e.2.2.2 (12 * r1.rt + r1.nn r1.rt) = e.2.2.2
        unfold up1
        rw [if_pos rfl]
    · rw [ifP_f z]
      have fd : fndN r1 e.2.2.2 := by
        apply Classical.byContradiction
        intro q
        refine z ⟨k.ph, h6, q, fun u => ?_⟩
        rcases ok with o | o
        · obtain ⟨n, a, b, d⟩ := o
          exact q ⟨n, a, by rw [kn.1]; exact b, by rw [kn.2 n a b]; exact d⟩
        · omega
      obtain ⟨i, a, b, d⟩ := fd
      exact ⟨i, ⟨a, by rw [kn.1] at b; omega⟩, b, d⟩
  exact go
/-- no note: no fault of the class's, and none of its calls' -/
theorem ra9_0 (s : SHP es 0 0 0) (r9 : (RA9 (es.foldl uC c00)).1 = 0) : (es.foldl uC c00).fp.1 = 0 ∧ cSs (es.foldl uC c00) (es.foldl uC c00).cn.toNat = [] := by
  obtain ⟨pc, lo, k⟩ := K1.run es (K1.ini st0_0 rfl) s
  have l2 := LST.fold (cSs (es.foldl uC c00) (es.foldl uC c00).cn.toNat) k.l2 (pos_cSs _ _)
  rcases l2.2 with ⟨z, -⟩ | ⟨z, -⟩
  · have z2 := List.append_eq_nil_iff.mp z
    refine ⟨?_, z2.2⟩
    have l := k.l2.2
    rw [z2.1] at l
    rcases l with ⟨-, l⟩ | ⟨l, -⟩
    · rw [l]
    · exact absurd l List.not_mem_nil
  · have p := l2.1 _ z
    have p2 : 0 < (RA9 (es.foldl uC c00)).1 := p
    omega
/-- a call has as many operands as its routine has parameters -/
theorem call_args {f : Int → Int} (s : SHP es 0 0 0) (r9 : (RA9 (es.foldl uC c00)).1 = 0) (hf : RFC (es.foldl uC c00) f) (he : e ∈ es) (k1 : e.1 = 1) (kw : ∃ k, KW k e.2.2.2) : (es.foldl uC c00).rp (f (rnQ e.2.2.2)) = e.2.2.1 := by
  have nil := (ra9_0 s r9).2
  have cl := CLS.run es (c := c00) (L := []) ⟨rfl, fun i e q => by simp at q⟩
  rw [List.nil_append] at cl
  obtain ⟨i, hi⟩ := List.mem_iff_getElem?.mp ((cls1_mem es).mpr ⟨he, k1⟩)
  obtain ⟨ck, -, cc⟩ := cl.2 i e hi
  have hl : i < (es.foldl uC c00).cn.toNat := by
    rw [cl.1]
    exact Classical.byContradiction fun q => by rw [List.getElem?_eq_none (by omega)] at hi; simp at hi
  have fd := (hf _ _ (rnQ_kw kw)).1 (call_found s r9 e he k1)
  apply Classical.byContradiction
  intro ne
  have m : ((es.foldl uC c00).cp i, (4 : Int)) ∈ cSs (es.foldl uC c00) (es.foldl uC c00).cn.toNat := (cSs_mem _).mpr ⟨i, hl, by
    unfold cS
    have ex : (0 ≤ f (rnQ e.2.2.2) ∧ f (rnQ e.2.2.2) < (es.foldl uC c00).rn ∧ (es.foldl uC c00).rk (f (rnQ e.2.2.2)) = (es.foldl uC c00).ck i ∧ ∀ j, 0 ≤ j → j < f (rnQ e.2.2.2) → (es.foldl uC c00).rk j ≠ (es.foldl uC c00).ck i) := ⟨fd.1.1, fd.1.2, by rw [ck]; exact fd.2.1, fun j a b => by rw [ck]; exact fd.2.2 j a b⟩
    rw [ifP_t ⟨_, ex⟩, ifP_t ⟨_, ex, by rw [cc]; exact ne⟩]
    exact List.mem_singleton.mpr rfl⟩
  rw [nil] at m
  exact absurd m (by simp)
theorem nok_text {f PM : Int → Int} {r0 : RS} (hr : ST0 r0) (s : SHP es 0 0 0) (r9 : (RA9 (es.foldl uC c00)).1 = 0) (r6 : (es.foldl uC c00).rn ≤ 6) (hf : RFC (es.foldl uC c00) f) (kw : ∀ e ∈ es, e.1 = 1 → ∃ k, KW k e.2.2.2) (hP : ∀ r, 0 ≤ r → r < (es.foldl uC c00).rn → PM r = (es.foldl uC c00).rp r) : NOK (fun y w => (0 ≤ y ∧ y < (es.foldl uC c00).rn) ∧ KNF (es.foldl uR r0) y w) (fun e => PM (f (rnQ e.2.2.2)) ≤ e.2.2.1) 0 es := by
  refine nok_of es (fun e1 e e2 q => ⟨fun h4 => ?_, fun h1 => ?_⟩)
  rotate_left
  · have he : e ∈ es := by rw [q]; exact List.mem_append_right _ List.mem_cons_self
    have fd := (hf _ _ (rnQ_kw (kw e he h1))).1 (call_found s r9 e he h1)
    show PM (f (rnQ e.2.2.2)) ≤ e.2.2.1
    rw [hP _ fd.1.1 fd.1.2, call_args s r9 hf he h1 (kw e he h1)]
    exact Int.le_refl _
  have hr2 : ST0 (r0.1, (0, -1), r0.2.2) := hr
  have nf := NFQ.fold es (show NFQ r0 (r0.1, (0, -1), r0.2.2) from ⟨rfl, rfl⟩)
  have nbd : NBD (r0.1, (0, -1), r0.2.2) := fun k x y => by rw [hr2.2.2.2.2 k x y]; omega
  have s2 := s
  rw [q] at s2
  obtain ⟨N1, NC, Z, md, pc, lo, k, sh⟩ := K1.pre e1 (K1.ini hr2 rfl) s2
  have md2 : md = 2 := by
    rcases sh with ⟨-, z, -⟩ | ⟨-, z, -⟩ | ⟨-, z, -⟩ | ⟨z, -⟩ | ⟨-, z, -⟩ | ⟨-, z, -⟩
    · omega
    · omega
    · omega
    · exact z
    · omega
    · omega
  subst md2
  have ec : es.foldl uC c00 = e2.foldl uC (uC (e1.foldl uC c00) e) := by rw [q, List.foldl_append]; rfl
  have er : es.foldl uR (r0.1, (0, -1), r0.2.2) = e2.foldl uR (uR (e1.foldl uR (r0.1, (0, -1), r0.2.2)) e) := by rw [q, List.foldl_append]; rfl
  have fp := (ra9_0 s r9).1
  rw [ec] at fp
  have fp1 := fo_fp0 fp
  have rr : (e1.foldl uR (r0.1, (0, -1), r0.2.2)).rt = 0 + z0E e1 := by
    rw [rt_fold e1]
    show RS.rt r0 + z0E e1 = 0 + z0E e1
    rw [hr.2.1]
  have rt := k.rt
  have m1 : (e1.foldl uC c00).rn ≤ (es.foldl uC c00).rn := by
    rw [q, List.foldl_append]; exact rn_f _
  have y0 := k.rt0
  have y1 : (e1.foldl uR (r0.1, (0, -1), r0.2.2)).rt < (es.foldl uC c00).rn := by omega
  have w := knf_4 (e1 := e1) k h4 (by omega) fp1
  have nb1 := fold_b e1 (r := (r0.1, (0, -1), r0.2.2)) (by show 0 ≤ RS.rt r0; rw [hr.2.1]; exact Int.le_refl _) nbd
  have w2 := KNF.fold e2 w y0 (by rw [rt_u]; split <;> omega) (uR_m (e := e) y0 nb1).2.1
  rw [← er, rr] at w2
  rw [rr] at y0 y1
  refine ⟨⟨y0, y1⟩, ?_⟩
  have enn : (es.foldl uR r0).nn = (es.foldl uR (r0.1, (0, -1), r0.2.2)).nn := congrArg (fun z => z.2.2.2.2.2.1) nf.2
  have enw : (es.foldl uR r0).nw = (es.foldl uR (r0.1, (0, -1), r0.2.2)).nw := congrArg (fun z => z.2.2.2.2.2.2) nf.2
  unfold KNF at w2 ⊢
  rw [enn, enw]
  exact w2
end NKT
end
