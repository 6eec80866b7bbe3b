section
section WRDS
variable {s S : Int → Int}
theorem run_ex (hs : SEN s) : ∀ (k : Nat) (p : Int), (1300 - p).toNat = k → ∃ n : Nat, (p ≤ 1300 → p + n ≤ 1300) ∧ (∀ j : Nat, j < n → 97 ≤ s (p + j) ∧ s (p + j) ≤ 122) ∧ ¬ (97 ≤ s (p + n) ∧ s (p + n) ≤ 122)
  | 0, p, e => ⟨0, fun h => by omega, fun j h => absurd h (by omega), fun h => by
      have z := hs (p + (0 : Nat)) (by omega)
      omega⟩
  | k + 1, p, e => by
    by_cases c : 97 ≤ s p ∧ s p ≤ 122
    · obtain ⟨n, a, b, d⟩ := run_ex hs k (p + 1) (by omega)
      refine ⟨n + 1, fun h => by have := a (by omega); omega, fun j h => ?_, ?_⟩
      · by_cases z : j = 0
        · rw [z]; rw [show p + ((0 : Nat) : Int) = p by omega]; exact c
        · have y := b (j - 1) (by omega)
          rw [show p + 1 + ((j - 1 : Nat) : Int) = p + j by omega] at y
          exact y
      · rw [show p + ((n + 1 : Nat) : Int) = p + 1 + n by omega]; exact d
    · exact ⟨0, fun h => by omega, fun j h => absurd h (by omega), by rw [show p + ((0 : Nat) : Int) = p by omega]; exact c⟩
theorem tok_kw (hs : SEN s) {m : Int} (h : (advT s m).2.2.1 = 2) : ∃ k, KW k (advT s m).2.2.2.2 := by
  unfold advT at *
  generalize wsp s m = p at *
  unfold advP at *
  by_cases c0 : s p < 0
  · rw [if_pos c0] at h; exact absurd (show (0 : Int) = 2 from h) (by decide)
  rw [if_neg c0] at h ⊢
  by_cases c1 : 97 ≤ s p ∧ s p ≤ 122
  · rw [if_pos c1] at h ⊢
    obtain ⟨n, a, b, d⟩ := run_ex hs _ p rfl
    have hp : p ≤ 1300 := by
      by_cases z : 1300 ≤ p
      · have := hs p z; omega
      · omega
    have ct := ltp_cnt n (c := 0) (w := 0) (a hp) b d
    have h6 : (n : Int) ≤ 6 := by
      by_cases z : 6 < (ltp s p 0 0).2.2
      · rw [if_pos z] at h; exact absurd (show (1 : Int) = 2 from h) (by decide)
      · have := ct.2; omega
    have rn := ltp_run (s := s) (p := p) n (by omega) (a hp) b
    refine ⟨k5 (lts s p n), lts s p n, lts_ltr n b, by rw [lts_len]; omega, rfl, ?_⟩
    show (ltp s p 0 0).2.1 = _
    rw [rn, ltp_e d]
  · rw [if_neg c1] at h ⊢
    by_cases c2 : 48 ≤ s p ∧ s p ≤ 57
    · rw [if_pos c2] at h
      exfalso
      by_cases z : 7 < (dgp s p 0 0).2.2
      · rw [if_pos z] at h; exact absurd (show (1 : Int) = 2 from h) (by decide)
      · rw [if_neg z] at h; exact absurd (show (3 : Int) = 2 from h) (by decide)
    · rw [if_neg c2] at h
      exfalso
      by_cases z : sgZ (s p) < 0
      · rw [if_pos z] at h; exact absurd (show (1 : Int) = 2 from h) (by decide)
      · rw [if_neg z] at h; exact absurd (show (4 : Int) = 2 from h) (by decide)
def WKA (a : PCf) : Prop := (a.2.1.2.2.1 = 2 → ∃ k, KW k a.2.1.2.2.2.2) ∧ ∃ k, KW k a.2.2.2.1.1
theorem kw_0 : ∃ k, KW k 0 := ⟨0, [], fun b q => absurd q (by simp), by decide, rfl, rfl⟩
theorem stk_kw {k : Nat} {t : TK} {x : Int × Int × Int} {q : QR} {r : List Nat × TK × (Int × Int × Int) × QR × List EV} (hs : SEN s) (ht : t.2.2.1 = 2 → ∃ k, KW k t.2.2.2.2) (hq : ∃ k, KW k q.1) (h : stk s k t x q = some r) : (r.2.1.2.2.1 = 2 → ∃ k, KW k r.2.1.2.2.2.2) ∧ ∃ k, KW k r.2.2.2.1.1 := by
  have ao : (advT s t.2.1).2.2.1 = 2 → ∃ k, KW k (advT s t.2.1).2.2.2.2 := fun z => tok_kw hs z
  unfold stk at h
  split at h
  all_goals (repeat' split at h)
  all_goals (cases h)
  all_goals first
    | exact ⟨ao, hq⟩
    | exact ⟨ht, hq⟩
    | exact ⟨ht, kw_0⟩
    | exact ⟨ao, ht (‹nam t›).1⟩
    | exact ⟨fun _ => ht (‹nam t›).1, hq⟩
theorem WKA.stp {a : PCf} (hs : SEN s) (h : WKA a) : WKA (stp s a) := by
  obtain ⟨K, t, x, q, ρ⟩ := a
  cases K with
  | nil => exact h
  | cons k K =>
    show WKA (match stk s k t x q with
      | none => pF
      | some r => (r.1 ++ K, r.2.1, r.2.2.1, r.2.2.2.1, ρ ++ r.2.2.2.2))
    cases e : stk s k t x q with
    | none =>
      show WKA pF
      exact ⟨fun z => absurd (show (0 : Int) = 2 from z) (by decide), kw_0⟩
    | some r =>
      show WKA (r.1 ++ K, r.2.1, r.2.2.1, r.2.2.2.1, ρ ++ r.2.2.2.2)
      have y := stk_kw (r := r) hs h.1 h.2 e
      exact ⟨y.1, y.2⟩
theorem mkn_cong {nm : Int → Int64 → Int} {rn rn2 : Int64 → Int} {tb : Int → Int} : ∀ (n : Nat) {a : PCf} {m : MK}, (∀ e ∈ evs s n a, e.1 = 1 → rn e.2.2.2 = rn2 e.2.2.2) → mkn s nm rn tb n a m = mkn s nm rn2 tb n a m
  | 0, _, _, _ => rfl
  | n + 1, a, m, h => by
    show mkn s nm rn tb n (stp s a) (mkt s nm rn tb a m) = mkn s nm rn2 tb n (stp s a) (mkt s nm rn2 tb a m)
    have h2 : ∀ e ∈ evs s n (stp s a), e.1 = 1 → rn e.2.2.2 = rn2 e.2.2.2 := fun e q => h e (by show e ∈ evt s a ++ evs s n (stp s a); exact List.mem_append_right _ q)
    have e1 : mkt s nm rn tb a m = mkt s nm rn2 tb a m := by
      obtain ⟨K, t, x, q, ρ⟩ := a
      cases K with
      | nil => rfl
      | cons k K =>
        show (match stk s k t x q with
          | none => m
          | some _ => mkk s nm rn tb k t q m) = (match stk s k t x q with
          | none => m
          | some _ => mkk s nm rn2 tb k t q m)
        cases e : stk s k t x q with
        | none => rfl
        | some r =>
          show mkk s nm rn tb k t q m = mkk s nm rn2 tb k t q m
          by_cases z : k = 38
          · subst z
            have w : rn q.1 = rn2 q.1 := h (1, q.2.2.1, q.2.1, q.1) (by
              show _ ∈ evt s (38 :: K, t, x, q, ρ) ++ evs s n (stp s (38 :: K, t, x, q, ρ))
              rw [evt_s (by decide) e]
              exact List.mem_append_left _ (List.mem_singleton.mpr rfl)) rfl
            show m.cal rn q.1 = m.cal rn2 q.1
            unfold MK.cal
            rw [w]
          · unfold mkk
            split
            all_goals first
              | rfl
              | exact absurd rfl z
    rw [e1]
    exact mkn_cong n h2
theorem RM.cong {nm : Int → Int64 → Int} {rn rn2 : Int64 → Int} {tb : Int → Int} {a b b2 : PCf} {m m1 : MK} {es : List EW} (h : RM s nm rn tb a m b m1) (g : RE s a es b2) (hb : stp s b = b) (eb : evt s b = []) (hb2 : stp s b2 = b2) (eb2 : evt s b2 = []) (hr : ∀ e ∈ es, e.1 = 1 → rn e.2.2.2 = rn2 e.2.2.2) : RM s nm rn2 tb a m b m1 := by
  obtain ⟨n, h1, h2⟩ := h
  obtain ⟨k, g1, g2⟩ := g
  refine ⟨n, h1, ?_⟩
  rw [← h2]
  refine (mkn_cong n (fun e q => hr e ?_)).symm
  have d : evs s n a = es := by
    by_cases z : n ≤ k
    · obtain ⟨j, rfl⟩ : ∃ j, k = n + j := ⟨k - n, by omega⟩
      rw [evs_add, h1, evs_fix hb eb, List.append_nil] at g2
      exact g2
    · obtain ⟨j, rfl⟩ : ∃ j, n = k + j := ⟨n - k, by omega⟩
      rw [evs_add, g1, evs_fix hb2 eb2, List.append_nil]
      exact g2
  rw [d] at q
  exact q
theorem evs_kw (hs : SEN s) : ∀ (n : Nat) {a : PCf}, WKA a → ∀ e ∈ evs s n a, e.1 = 1 → ∃ k, KW k e.2.2.2
  | 0, _, _, e, q => absurd q (by show e ∉ ([] : List EW); simp)
  | n + 1, a, h, e, q => fun k1 => by
    have q2 : e ∈ evt s a ++ evs s n (stp s a) := q
    rcases List.mem_append.mp q2 with z | z
    · obtain ⟨K, t, x, p, ρ⟩ := a
      cases K with
      | nil => exact absurd z (by show e ∉ ([] : List EW); simp)
      | cons k K =>
        have z2 : e ∈ (if k = 999 then [] else match stk s k t x p with
          | none => [(9, t.1, 0, 0)]
          | some _ => evk k t x p) := z
        by_cases c : k = 999
        · rw [if_pos c] at z2; exact absurd z2 (by simp)
        · rw [if_neg c] at z2
          cases es : stk s k t x p with
          | none =>
            rw [es] at z2
            rw [List.mem_singleton.mp z2] at k1
            exact absurd (show (9 : Int) = 1 from k1) (by decide)
          | some r =>
            rw [es] at z2
            have z3 : e ∈ evk k t x p := z2
            unfold evk at z3
            split at z3
            all_goals (repeat' split at z3)
            all_goals first
              | exact absurd z3 List.not_mem_nil
              | (have y := List.mem_singleton.mp z3
                 rw [y]
                 exact h.2)
              | (have y := congrArg (fun z : EW => z.1) (List.mem_singleton.mp z3)
                 have y2 := k1.symm.trans y
                 simp at y2)
    · exact evs_kw hs n (h.stp hs) e z k1
theorem RE.kw (hs : SEN S) {es : List EW} {t : TK} {x : Int × Int × Int} {q : QR} {ρ : List EV} (h : RE S ([36], advT S 0, (0, 0, 0), qq 0, []) es ([], t, x, q, ρ)) : ∀ e ∈ es, e.1 = 1 → ∃ k, KW k e.2.2.2 := by
  obtain ⟨n, -, h2⟩ := h
  rw [← h2]
  exact evs_kw hs n ⟨fun z => tok_kw hs z, kw_0⟩
end WRDS
section NTB
variable {r : RS} {c : CS}
def ST0 (r : RS) : Prop := r.ph = 1 ∧ r.rt = 0 ∧ r.ln = 0 ∧ r.tn = 0 ∧ ∀ k, 0 ≤ k → k < 6 → r.nn k = 0
theorem K1.pre : ∀ (e1 : List EW) {e2 : List EW} {r : RS} {c : CS} {N1 NC Z : List NT} {md : Nat} {pc lo : Int}, K1 r c N1 NC Z md pc lo → SHP (e1 ++ e2) md pc lo → ∃ N1' NC' Z' md' pc' lo', K1 (e1.foldl uR r) (e1.foldl uC c) N1' NC' Z' md' pc' lo' ∧ SHP e2 md' pc' lo'
  | [], _, r, c, N1, NC, Z, md, pc, lo, h, s => ⟨N1, NC, Z, md, pc, lo, h, s⟩
  | e :: es, _, r, c, N1, NC, Z, md, pc, lo, h, s => by
    rcases s with ⟨rfl, k, a, s⟩ | ⟨rfl, k, a, m, s⟩ | ⟨rfl, k, m, s⟩ | ⟨rfl, k, a, s⟩ | ⟨rfl, k, s⟩ | ⟨rfl, k, s⟩
    · exact K1.pre es (h.s2 k a) s
    · exact K1.pre es (h.s3 k a m) s
    · exact K1.pre es (h.s7 k m) s
    · rcases k with k | k
      · exact K1.pre es (h.s4 k a) s
      · exact K1.pre es (h.s5 k a) s
    · exact K1.pre es (h.s1 k) s
    · exact K1.pre es (h.s0 k) s
theorem K1.ini (hr : ST0 r) (hf : r.fp = (0, -1)) : K1 r c00 [] [] [] 0 0 0 := by
  obtain ⟨r1, r3, r4, r5, r6⟩ := hr
  refine ⟨r1, by rw [hf]; exact LST.nil, LST.nil, DMN.nil, DMN.nil, fun n q => q, by rw [r3]; exact Int.le_refl _, r5, Or.inl ⟨rfl, r3.symm⟩, fun j x y => absurd y (by show ¬ j < 0; omega), fun j x y => absurd y (by show ¬ (j < 0 - 1 ∨ j < 0 ∧ (0 : Nat) ≠ 1); omega), fun q => absurd q (by decide), r4, fun q => absurd rfl q, ⟨Int.le_refl _, by decide⟩, fun k x y => r6 k (by rw [r3] at x; omega) y, fun q => absurd q (by show ¬ (7 : Int) ≤ 0; decide), fun q => absurd q (by show ¬ (41 : Int) ≤ 0; decide), fun q => absurd q (by decide)⟩
theorem uR_old {e : EW} {k : Int} (h0 : 0 ≤ k) (hk : k < r.rt) (h6 : r.rt < 6 → 0 ≤ r.nn r.rt ∧ r.nn r.rt ≤ 12) : k < (uR r e).rt ∧ (uR r e).nn k = r.nn k ∧ ∀ i, 0 ≤ i → i < 12 → (uR r e).nw (12 * k + i) = r.nw (12 * k + i) := by
  have nm : ∀ (w : Int64), (sNm r w).rt = r.rt ∧ (sNm r w).nn k = r.nn k ∧ ∀ i, 0 ≤ i → i < 12 → (sNm r w).nw (12 * k + i) = r.nw (12 * k + i) := fun w => by
    unfold sNm
    by_cases z : r.ph = 1 ∧ r.rt < 6 ∧ ¬ fndN r w ∧ r.nn r.rt ≠ 12
    · rw [ifP_t z]
      have b := h6 z.2.1
      refine ⟨rfl, ?_, fun i a b2 => ?_⟩
      · show up1 r.nn r.rt (r.nn r.rt + 1) k = r.nn k
        unfold up1
        rw [if_neg (by omega)]
      · show up1 r.nw (12 * r.rt + r.nn r.rt) w (12 * k + i) = r.nw (12 * k + i)
        unfold up1
        rw [if_neg (by omega)]
    · rw [ifP_f z]
      exact ⟨rfl, rfl, fun _ _ _ => rfl⟩
  have id : k < r.rt ∧ r.nn k = r.nn k ∧ ∀ i, 0 ≤ i → i < 12 → r.nw (12 * k + i) = r.nw (12 * k + i) := ⟨hk, rfl, fun _ _ _ => rfl⟩
  show k < (sR r e).rt ∧ (sR r e).nn k = r.nn k ∧ ∀ i, 0 ≤ i → i < 12 → (sR r e).nw (12 * k + i) = r.nw (12 * k + i)
  have nm2 : ∀ (w : Int64), k < (sNm r w).rt ∧ (sNm r w).nn k = r.nn k ∧ ∀ i, 0 ≤ i → i < 12 → (sNm r w).nw (12 * k + i) = r.nw (12 * k + i) := fun w => ⟨by rw [(nm w).1]; exact hk, (nm w).2⟩
  unfold sR
  split
  · by_cases z : r.ph = 1
    · rw [ifP_t z]; exact id
    · rw [ifP_f z]; exact id
  split
  · by_cases z : r.ph = 1
    · rw [ifP_t z]; exact nm2 _
    · rw [ifP_f z]; exact id
  split
  · by_cases z : r.ph = 1
    · rw [ifP_t z]; exact id
    · rw [ifP_f z]; exact id
  split
  · exact nm2 _
  split
  · exact id
  split
  · exact id
  split
  · exact ⟨by show k < r.rt + 1; omega, id.2⟩
  exact id
theorem fold_old : ∀ (es : List EW) {r : RS} {k : Int}, 0 ≤ k → k < r.rt → NBD r → (es.foldl uR r).nn k = r.nn k ∧ ∀ i, 0 ≤ i → i < 12 → (es.foldl uR r).nw (12 * k + i) = r.nw (12 * k + i)
  | [], _, _, _, _, _ => ⟨rfl, fun _ _ _ => rfl⟩
  | e :: es, r, k, h0, hk, hb => by
    have a := uR_old (e := e) h0 hk (fun z => hb r.rt (by omega) z)
    have b := (uR_m (e := e) (show 0 ≤ r.rt by omega) hb).2.1
    have c := fold_old es (r := uR r e) h0 a.1 b
    exact ⟨c.1.trans a.2.1, fun i x y => (c.2 i x y).trans (a.2.2 i x y)⟩
def NFQ (r r' : RS) : Prop := r.1 = r'.1 ∧ r.2.2 = r'.2.2
theorem NFQ.u {r r' : RS} {e : EW} (h : NFQ r r') : NFQ (uR r e) (uR r' e) := by
  obtain ⟨p, f, x⟩ := r
  obtain ⟨p', f', x'⟩ := r'
  obtain ⟨h1, h2⟩ := h
  have h1 : p = p' := h1
  have h2 : x = x' := h2
  subst h1 h2
  have nm : ∀ w, NFQ (sNm (p, f, x) w) (sNm (p, f', x) w) := fun w => by
    unfold sNm
    by_cases z : RS.ph (p, f, x) = 1 ∧ RS.rt (p, f, x) < 6 ∧ ¬ fndN (p, f, x) w ∧ RS.nn (p, f, x) (RS.rt (p, f, x)) ≠ 12
    · rw [ifP_t z, ifP_t (show RS.ph (p, f', x) = 1 ∧ RS.rt (p, f', x) < 6 ∧ ¬ fndN (p, f', x) w ∧ RS.nn (p, f', x) (RS.rt (p, f', x)) ≠ 12 from z)]
      exact ⟨rfl, rfl⟩
    · rw [ifP_f z, ifP_f (show ¬ (RS.ph (p, f', x) = 1 ∧ RS.rt (p, f', x) < 6 ∧ ¬ fndN (p, f', x) w ∧ RS.nn (p, f', x) (RS.rt (p, f', x)) ≠ 12) from z)]
      exact ⟨rfl, rfl⟩
  have go : NFQ (sR (p, f, x) e) (sR (p, f', x) e) := by
    unfold sR
    by_cases c2 : e.1 = 2
    · rw [if_pos c2, if_pos c2]
      by_cases z : p = 1
      · rw [ifP_t (show RS.ph (p, f, x) = 1 from z), ifP_t (show RS.ph (p, f', x) = 1 from z)]; exact ⟨rfl, rfl⟩
      · rw [ifP_f (show ¬ RS.ph (p, f, x) = 1 from z), ifP_f (show ¬ RS.ph (p, f', x) = 1 from z)]; exact ⟨rfl, rfl⟩
    rw [if_neg c2, if_neg c2]
    by_cases c3 : e.1 = 3
    · rw [if_pos c3, if_pos c3]
      by_cases z : p = 1
      · rw [ifP_t (show RS.ph (p, f, x) = 1 from z), ifP_t (show RS.ph (p, f', x) = 1 from z)]; exact nm _
      · rw [ifP_f (show ¬ RS.ph (p, f, x) = 1 from z), ifP_f (show ¬ RS.ph (p, f', x) = 1 from z)]; exact ⟨rfl, rfl⟩
    rw [if_neg c3, if_neg c3]
    by_cases c7 : e.1 = 7
    · rw [if_pos c7, if_pos c7]
      by_cases z : p = 1
      · rw [ifP_t (show RS.ph (p, f, x) = 1 from z), ifP_t (show RS.ph (p, f', x) = 1 from z)]; exact ⟨rfl, rfl⟩
      · rw [ifP_f (show ¬ RS.ph (p, f, x) = 1 from z), ifP_f (show ¬ RS.ph (p, f', x) = 1 from z)]; exact ⟨rfl, rfl⟩
    rw [if_neg c7, if_neg c7]
    by_cases c4 : e.1 = 4
    · rw [if_pos c4, if_pos c4]; exact nm _
    rw [if_neg c4, if_neg c4]
    by_cases c5 : e.1 = 5
    · rw [if_pos c5, if_pos c5]; exact ⟨rfl, rfl⟩
    rw [if_neg c5, if_neg c5]
    by_cases c1 : e.1 = 1
    · rw [if_pos c1, if_pos c1]; exact ⟨rfl, rfl⟩
    rw [if_neg c1, if_neg c1]
    by_cases c0 : e.1 = 0
    · rw [if_pos c0, if_pos c0]; exact ⟨rfl, rfl⟩
    rw [if_neg c0, if_neg c0]
    exact ⟨rfl, rfl⟩
  exact ⟨go.1, go.2⟩
theorem NFQ.fold : ∀ (es : List EW) {r r' : RS}, NFQ r r' → NFQ (es.foldl uR r) (es.foldl uR r')
  | [], _, _, h => h
  | _ :: es, _, _, h => NFQ.fold es h.u
theorem fold_b : ∀ (es : List EW) {r : RS}, 0 ≤ r.rt → NBD r → NBD (es.foldl uR r)
  | [], _, _, h => h
  | e :: es, r, h0, hb => by
    have q := uR_m (e := e) h0 hb
    exact fold_b es q.2.2.1 q.2.1
theorem names_end {es : List EW} {Pf : Int → List EW} {q : Int} (hr : ST0 r) (s : SHP es 0 0 0) (hp : PFX es Pf) (q0 : 0 ≤ q) (q1 : q < (es.foldl uC c00).rn) (q6 : q < 6) : (es.foldl uR r).nn q = ((Pf q).foldl uC c00).nn ∧ (0 ≤ ((Pf q).foldl uC c00).nn ∧ ((Pf q).foldl uC c00).nn ≤ 12) ∧ ∀ i, 0 ≤ i → i < ((Pf q).foldl uC c00).nn → (es.foldl uR r).nw (12 * q + i) = ((Pf q).foldl uC c00).nk i := by
  obtain ⟨rn1, p, m, w, e2, ee⟩ := hp q q0 q1
  have hr2 : ST0 (r.1, (0, -1), r.2.2) := hr
  have nf : NFQ r (r.1, (0, -1), r.2.2) := ⟨rfl, rfl⟩
  have nbd : NBD r := fun k x y => by rw [hr.2.2.2.2 k x y]; omega
  have s2 := s
  rw [ee] at s2
  obtain ⟨N1, NC, Z, md, pc, lo, k, sh⟩ := K1.pre (Pf q) (K1.ini hr2 rfl) s2
  have md2 : md = 2 := by
    rcases sh with ⟨-, z, -⟩ | ⟨-, z, -⟩ | ⟨-, z, -⟩ | ⟨-, z, -⟩ | ⟨-, z, -⟩ | ⟨z, -⟩
    · exact absurd z (by show ¬ (0 : Int) = 2; decide)
    · exact absurd z (by show ¬ (0 : Int) = 3; decide)
    · exact absurd z (by show ¬ (0 : Int) = 7; decide)
    · exact absurd z (by show ¬ ((0 : Int) = 4 ∨ (0 : Int) = 5); decide)
    · exact absurd z (by show ¬ (0 : Int) = 1; decide)
    · exact z
  have n1 := NFQ.fold (Pf q) nf
  have ert : ((Pf q).foldl uR r).rt = ((Pf q).foldl uR (r.1, (0, -1), r.2.2)).rt := congrArg (fun z => z.1) n1.2
  have enn : ((Pf q).foldl uR r).nn = ((Pf q).foldl uR (r.1, (0, -1), r.2.2)).nn := congrArg (fun z => z.2.2.2.2.2.1) n1.2
  have enw : ((Pf q).foldl uR r).nw = ((Pf q).foldl uR (r.1, (0, -1), r.2.2)).nw := congrArg (fun z => z.2.2.2.2.2.2) n1.2
  have rt : ((Pf q).foldl uR r).rt = q := by
    rcases k.rt with z | z
    · omega
    · rw [ert]; omega
  have kn := k.nn (by omega) (by rw [← ert, rt]; exact q6)
  rw [← ert, rt, ← enn, ← enw] at kn
  have eu : (es.foldl uR r) = e2.foldl uR (uR ((Pf q).foldl uR r) (0, p, m, w)) := by rw [ee, List.foldl_append]; rfl
  have u0 : (uR ((Pf q).foldl uR r) (0, p, m, w)).rt = q + 1 ∧ (uR ((Pf q).foldl uR r) (0, p, m, w)).nn = ((Pf q).foldl uR r).nn ∧ (uR ((Pf q).foldl uR r) (0, p, m, w)).nw = ((Pf q).foldl uR r).nw := ⟨by show ((Pf q).foldl uR r).rt + 1 = q + 1; rw [rt], rfl, rfl⟩
  have fb : NBD ((Pf q).foldl uR r) := fold_b (Pf q) (by rw [hr.2.1]; exact Int.le_refl _) nbd
  have fo := fold_old e2 (r := uR ((Pf q).foldl uR r) (0, p, m, w)) (k := q) q0 (by rw [u0.1]; omega) (fun j x y => by rw [u0.2.1]; exact fb j x y)
  rw [eu]
  rw [u0.2.1, u0.2.2] at fo
  refine ⟨fo.1.trans kn.1, k.nb, fun i x y => ?_⟩
  rw [fo.2 i x (by have := k.nb; omega)]
  exact kn.2 i x y
end NTB
def DSC (c : CS) : Prop := ∀ i j, 0 ≤ i → i < j → j < c.nn → c.nk i ≠ c.nk j
theorem DSC.nm {c : CS} {w : Int64} (h : DSC c) : DSC (sCn c w) := by
  unfold sCn
  by_cases z : ¬ fndC c w ∧ ¬ 12 ≤ c.nn
  · rw [ifP_t z]
    intro i j a b d
    have d2 : j < c.nn + 1 := d
    show up1 c.nk c.nn w i ≠ up1 c.nk c.nn w j
    unfold up1
    rw [if_neg (by omega)]
    by_cases e : j = c.nn
    · rw [if_pos e]
      exact fun q => z.1 ⟨i, a, by omega, q⟩
    · rw [if_neg e]
      exact h i j a b (by omega)
  · rw [ifP_f z]; exact h
theorem DSC.u {c : CS} {e : EW} (h : DSC c) : DSC (uC c e) := by
  show DSC (CS.mk _ _ _ _ _ _ _ _ (sC c e).nn (sC c e).nk _)
  have go : ∀ i j, 0 ≤ i → i < j → j < (sC c e).nn → (sC c e).nk i ≠ (sC c e).nk j := by
    unfold sC
    split
    · exact fun i j a b d => absurd d (by show ¬ j < 0; omega)
    split
    · exact h.nm
    split
    · exact h
    split
    · exact h.nm
    split
    · exact h
    split
    · exact h
    exact h
  exact go
theorem DSC.fold : ∀ (es : List EW) {c : CS}, DSC c → DSC (es.foldl uC c)
  | [], _, h => h
  | _ :: es, _, h => DSC.fold es h.u
theorem dsc_0 : DSC c00 := fun i j a b d => absurd d (by show ¬ j < 0; omega)
def rs0 : RS := RS.mk 1 (0, -1) 0 0 0 (fun _ => 0) (fun _ => 0) (fun _ => 0) (fun _ => 0)
theorem st0_0 : ST0 rs0 := ⟨rfl, rfl, rfl, rfl, fun _ _ _ => rfl⟩
theorem call_found {es : List EW} (s : SHP es 0 0 0) (r9 : (RA9 (es.foldl uC c00)).1 = 0) : ∀ e ∈ es, e.1 = 1 → fndQ (es.foldl uC c00) e.2.2.2 := fun e he k1 => by
  obtain ⟨pc, lo, k⟩ := K1.run es (K1.ini st0_0 rfl) s
  have l2 := LST.fold (cSs (es.foldl uC c00) (es.foldl uC c00).cn.toNat) k.l2 (pos_cSs _ _)
  have nil : cSs (es.foldl uC c00) (es.foldl uC c00).cn.toNat = [] := by
    rcases l2.2 with ⟨z, -⟩ | ⟨z, -⟩
    · exact (List.append_eq_nil_iff.mp z).2
    · have p := l2.1 _ z
      have p2 : 0 < (RA9 (es.foldl uC c00)).1 := p
      omega
  have cl := CLS.run es (c := c00) (L := []) ⟨rfl, fun i e q => by simp at q⟩
  rw [List.nil_append] at cl
  obtain ⟨i, hi⟩ := List.mem_iff_getElem?.mp ((cls1_mem es).mpr ⟨he, k1⟩)
  have ck := (cl.2 i e hi).1
  have hl : i < (es.foldl uC c00).cn.toNat := by
    rw [cl.1]
    exact Classical.byContradiction fun q => by rw [List.getElem?_eq_none (by omega)] at hi; simp at hi
  apply Classical.byContradiction
  intro nf
  have m : ((es.foldl uC c00).cp i, (3 : Int)) ∈ cSs (es.foldl uC c00) (es.foldl uC c00).cn.toNat := (cSs_mem _).mpr ⟨i, hl, by
    unfold cS
    rw [ifP_f (fun z => by
      obtain ⟨q, a, b, d, -⟩ := z
      exact nf ⟨q, a, b, d.trans ck⟩)]
    exact List.mem_singleton.mpr rfl⟩
  rw [nil] at m
  exact absurd m (by simp)
def NLK (f : RS) (q : Int) (w : Int64) (v : Int) : Prop := (0 ≤ v ∧ v < f.nn q ∧ f.nw (12 * q + v) = w ∧ ∀ j, 0 ≤ j → j < v → f.nw (12 * q + j) ≠ w) ∨ ((∀ j, 0 ≤ j → j < f.nn q → f.nw (12 * q + j) ≠ w) ∧ v = 0)
theorem NLK.one {f : RS} {q : Int} {w : Int64} {v u : Int} (h : NLK f q w v) (g : NLK f q w u) : v = u := by
  rcases h with ⟨a1, a2, a3, a4⟩ | ⟨a1, a2⟩
  · rcases g with ⟨b1, b2, b3, b4⟩ | ⟨b1, b2⟩
    · by_cases c : v < u
      · exact absurd a3 (b4 v a1 c)
      · by_cases c2 : u < v
        · exact absurd b3 (a4 u b1 c2)
        · omega
    · exact absurd a3 (b1 v a1 a2)
  · rcases g with ⟨b1, b2, b3, b4⟩ | ⟨b1, b2⟩
    · exact absurd b3 (a1 u b1 b2)
    · omega
theorem NLK.c {f g : RS} {q : Int} {w : Int64} {v : Int} (h : NLK f q w v) (en : g.nn q = f.nn q) (ew : ∀ i, 0 ≤ i → i < f.nn q → g.nw (12 * q + i) = f.nw (12 * q + i)) : NLK g q w v := by
  rcases h with ⟨a1, a2, a3, a4⟩ | ⟨a1, a2⟩
  · exact Or.inl ⟨a1, by rw [en]; exact a2, by rw [ew v a1 a2]; exact a3, fun j x y => by rw [ew j x (by omega)]; exact a4 j x y⟩
  · exact Or.inr ⟨fun j x y => by rw [en] at y; rw [ew j x y]; exact a1 j x y, a2⟩
def NP6 (S : Int → Int) (q : Int) (w : Int64) (v : Int) : Prop := v < 1000 ∧ ∃ es t x p ρ r0, RE S ([36], advT S 0, (0, 0, 0), qq 0, []) es ([], t, x, p, ρ) ∧ ST0 r0 ∧ NLK (es.foldl uR r0) q w v
noncomputable def nmQ6 (S : Int → Int) (q : Int) (w : Int64) : Int := @dite Int (∃ v, NP6 S q w v) (Classical.propDecidable _) (fun h => Classical.choose h) (fun _ => 0)
theorem nmQ6_lt (S : Int → Int) (q : Int) (w : Int64) : nmQ6 S q w < 1000 := by
  unfold nmQ6
  by_cases h : ∃ v, NP6 S q w v
  · rw [dif_pos h]; exact (Classical.choose_spec h).1
  · rw [dif_neg h]; decide
theorem nmQ6_at {S : Int → Int} {es : List EW} {t : TK} {x : Int × Int × Int} {p : QR} {ρ : List EV} {r : RS} {Pf : Int → List EW} {q : Int} {w : Int64} {v : Int} (hs : SEN S) (re : RE S ([36], advT S 0, (0, 0, 0), qq 0, []) es ([], t, x, p, ρ)) (hr : ST0 r) (hp : PFX es Pf) (q0 : 0 ≤ q) (q1 : q < (es.foldl uC c00).rn) (q6 : q < 6) (h : NLK (es.foldl uR r) q w v) : nmQ6 S q w = v := by
  have sh := re.shp hs
  have n1 := names_end hr sh hp q0 q1 q6
  have vb : v < 1000 := by
    rcases h with ⟨a1, a2, -⟩ | ⟨-, a2⟩
    · rw [n1.1] at a2; omega
    · omega
  have ex : ∃ v, NP6 S q w v := ⟨v, vb, es, t, x, p, ρ, r, re, hr, h⟩
  unfold nmQ6
  rw [dif_pos ex]
  obtain ⟨-, es2, t2, x2, p2, ρ2, r2, re2, hr2, h2⟩ := Classical.choose_spec ex
  have d := (RE.det re re2 rfl rfl evt_nil evt_nil).2
  subst d
  have n2 := names_end hr2 sh hp q0 q1 q6
  exact NLK.one (h2.c (n1.1.trans n2.1.symm) (fun i a b => by rw [n2.1] at b; rw [n1.2.2 i a b, n2.2.2 i a b])) h
theorem nmQ6_hi {S : Int → Int} {es : List EW} {t : TK} {x : Int × Int × Int} {p : QR} {ρ : List EV} {r : RS} {q : Int} {w : Int64} (hs : SEN S) (re : RE S ([36], advT S 0, (0, 0, 0), qq 0, []) es ([], t, x, p, ρ)) (hr : ST0 r) (q1 : (es.foldl uC c00).rn ≤ q) (q6 : q < 6) : nmQ6 S q w = 0 ∧ (es.foldl uR r).nn q = 0 := by
  have sh := re.shp hs
  have z : ∀ r, ST0 r → (es.foldl uR r).nn q = 0 := fun r hr => by
    have nf := NFQ.fold es (show NFQ r (r.1, (0, -1), r.2.2) from ⟨rfl, rfl⟩)
    obtain ⟨pc, lo, k1⟩ := K1.run es (K1.ini (r := (r.1, (0, -1), r.2.2)) hr rfl) sh
    have e : (es.foldl uR r).nn q = (es.foldl uR (r.1, (0, -1), r.2.2)).nn q := congrFun (congrArg (fun z => z.2.2.2.2.2.1) nf.2) q
    rw [e]
    refine k1.nl q ?_ q6
    rcases k1.rt with y | y
    · omega
    · exact absurd rfl y.1
  refine ⟨?_, z r hr⟩
  have nlk : NLK (es.foldl uR r) q w 0 := Or.inr ⟨fun j a b => by rw [z r hr] at b; omega, rfl⟩
  have ex : ∃ v, NP6 S q w v := ⟨0, by decide, es, t, x, p, ρ, r, re, hr, nlk⟩
  unfold nmQ6
  rw [dif_pos ex]
  obtain ⟨-, es2, t2, x2, p2, ρ2, r2, re2, hr2, h2⟩ := Classical.choose_spec ex
  have d := (RE.det re re2 rfl rfl evt_nil evt_nil).2
  subst d
  rcases h2 with ⟨a1, a2, -⟩ | ⟨-, a2⟩
  · rw [z r2 hr2] at a2; omega
  · exact a2
end
section
def IBR (i : It) : Prop := (i 0 = 12 → i 3 = 2 ∧ i 5 = 0 ∧ i 6 = 0 ∧ i 11 = 2) ∧ rZ7 i
theorem ibr_z : IBR zI := ⟨fun h => absurd h (by show ¬ (0 : Int) = 12; decide), fun h => absurd h (by show ¬ (0 : Int) = 7; decide)⟩
theorem ibr_mk {k d ak a : Int} (h : k ≠ 12) : IBR (mkI k d 0 ak a 0) := ⟨fun q => absurd q h, fun _ => ⟨rfl, rfl, rfl, rfl, rfl, rfl, rfl, rfl⟩⟩
theorem ibr_b {n : Int} : IBR (bndI n) := ⟨fun _ => ⟨rfl, rfl, rfl, rfl⟩, fun h => absurd h (by show ¬ (12 : Int) = 7; decide)⟩
theorem ibr_2 {k d ak a bk b : Int} (h : k ≤ 5) : IBR (it2 k d ak a bk b) := ⟨fun q => absurd q (by show ¬ k = 12; omega), fun q => absurd q (by show ¬ k = 7; omega)⟩
theorem ibr_c {d q : Int} {as : List (Int × Int)} : IBR (itC d q as) := ⟨fun h => absurd h (by show ¬ (10 : Int) = 12; decide), fun h => absurd h (by show ¬ (10 : Int) = 7; decide)⟩
section MKBS
variable {s : Int → Int} {nm : Int → Int64 → Int} {rn : Int64 → Int} {tb : Int → Int} {a b : PCf} {m m1 : MK}
def MKB (m : MK) : Prop := (∀ k, IBR (m.V k)) ∧ ∀ r k, IBR ((m.2.2.2.2.1 r).2 k)
theorem ibr_u {V : Int → It} {n : Int} {x : It} (h : ∀ k, IBR (V k)) (hx : IBR x) : ∀ k, IBR (uZ V n x k) := fun k => by
  by_cases e : k = n
  · rw [e, uZ_eq]; exact hx
  · rw [uZ_ne e]; exact h k
theorem MKB.put {i : It} (h : MKB m) (hi : IBR i) : MKB (m.put i) := ⟨ibr_u h.1 hi, h.2⟩
theorem mkb_one (h : MKB m) : MKB (m.one tb) := by
  unfold MK.one
  split
  · exact h
  · rename_i e S _
    repeat' split
    all_goals first
      | exact h
      | exact h.put (ibr_mk (by decide))
      | exact h.put (ibr_2 (by omega))
      | exact h.put (ibr_2 (by decide))
theorem mkb_two (h : MKB m) : MKB m.two := by
  unfold MK.two
  split
  · exact h
  · repeat' split
    all_goals first
      | exact h
      | exact (h.put (ibr_mk (by decide))).put (ibr_mk (by decide))
      | exact (h.put (ibr_mk (by decide))).put ibr_b
theorem mkb_cal {w : Int64} (h : MKB m) : MKB (m.cal rn w) := by
  unfold MK.cal
  split
  · exact h
  · split
    · exact (h.put ibr_c).put ibr_b
    · exact h
theorem mkb_top {f : ME → ME} (h : MKB m) : MKB (m.top f) := by
  unfold MK.top
  split
  · exact h
  · exact h
theorem mkb_k {k : Nat} {t : TK} {q : QR} (h : MKB m) : MKB (mkk s nm rn tb k t q m) := by
  unfold mkk
  split
  case h_13 =>
    refine ⟨h.1, fun r => ?_⟩
    show ∀ k, IBR ((uZ m.2.2.2.2.1 m.rt (m.n, m.V) r).2 k)
    by_cases z : r = m.rt
    · rw [z, uZ_eq]; exact h.1
    · rw [uZ_ne z]; exact h.2 r
  case h_14 => exact ⟨fun _ => ibr_z, h.2⟩
  all_goals first
    | exact mkb_one h
    | exact mkb_two h
    | exact mkb_cal h
    | exact mkb_top h
    | exact h
    | (repeat' split) <;> first | exact h | exact mkb_top h
theorem mkb_t (h : MKB m) : MKB (mkt s nm rn tb a m) := by
  unfold mkt
  split
  · exact h
  · split
    · exact h
    · exact mkb_k h
theorem RM.mkb (r : RM s nm rn tb a m b m1) (h : MKB m) : MKB m1 := by
  obtain ⟨n, e0, e⟩ := r
  subst e
  clear e0
  induction n generalizing a m with
  | zero => exact h
  | succ n ih => exact ih (mkb_t h)
end MKBS
theorem nargs2 {τ : MS} {y : Int} (h : τ.2.1 3 y ≠ 10) : nArgs τ y ≤ 2 := by
  unfold nArgs
  rw [if_neg h]
  repeat' split
  all_goals decide
theorem wok_raw {i : It} {τ : MS} {F y : Int} (hn : nrm i = rI τ y) (ok : OKI τ F y) (ib : IBR (rI τ y)) (h3 : i 0 = 12 → i 3 = 0) : iOK i := by
  obtain ⟨k0, k1, -, -, -, -, -, k8, -⟩ := ok
  have e : ∀ c, c ≠ 3 → c ≠ 12 → i c = rI τ y c := fun c a b => by rw [← hn]; exact (nrm_ne a b).symm
  have e0 : i 0 = τ.2.1 3 y := e 0 (by decide) (by decide)
  have e1 : i 1 = τ.2.1 4 y := e 1 (by decide) (by decide)
  have en : i 0 ≠ 12 → i 3 = τ.2.1 7 (4 * y + 0) := fun h => by
    have z := nrm_3 (i := i) h
    rw [← z, hn]
    rfl
  have opK : ∀ j, 0 ≤ j → j < 4 → (j = 0 → i 0 ≠ 12) → i (3 + 2 * j) = τ.2.1 7 (4 * y + j) := fun j a b d => by
    by_cases z : j = 0
    · subst z; exact en (d rfl)
    · rw [e (3 + 2 * j) (by omega) (by omega), riK a b]
  have opN : ∀ j, 0 ≤ j → j < 4 → i (4 + 2 * j) = τ.2.1 8 (4 * y + j) := fun j a b => by rw [e (4 + 2 * j) (by omega) (by omega), riN a b]
  refine ⟨by rw [e0]; exact k0, fun h => by rw [e0] at h; rw [e1]; exact k1 h, fun j a b => ?_, fun h => ?_, fun h w => ?_⟩
  · by_cases z : j = 0 ∧ i 0 = 12
    · have q := h3 z.2
      rw [z.1]
      show (0 ≤ i 3 ∧ i 3 ≤ 2) ∧ (i 3 = 2 → _)
      rw [q]
      exact ⟨by decide, fun u => absurd u (by decide)⟩
    · have o := k8 j a b
      rw [opK j a b (fun u v => z ⟨u, v⟩), opN j a b]
      exact ⟨o.1, fun u => (o.2 u).1⟩
  · have n2 := nargs2 (τ := τ) (y := y) (by rw [← e0]; exact h)
    have o2 := k8 2 (by decide) (by decide)
    have o3 := k8 3 (by decide) (by decide)
    have a2 : i 7 = τ.2.1 7 (4 * y + 2) := opK 2 (by decide) (by decide) (fun u => absurd u (by decide))
    have a3 : i 9 = τ.2.1 7 (4 * y + 3) := opK 3 (by decide) (by decide) (fun u => absurd u (by decide))
    rw [a2, a3]
    exact ⟨fun u => by have := (o2.2 u).2; omega, fun u => by have := (o3.2 u).2; omega⟩
  · have b := ib.1 (by show τ.2.1 3 y = 12; rw [← e0]; exact h)
    have o0 := k8 0 (by decide) (by decide)
    have b3 : τ.2.1 7 (4 * y + 0) = 2 := b.1
    refine ⟨h3 h, by rw [e 5 (by decide) (by decide)]; exact b.2.1, by rw [e 6 (by decide) (by decide)]; exact b.2.2.1, fun _ => ?_⟩
    have a4 : i 4 = τ.2.1 8 (4 * y + 0) := opN 0 (by decide) (by decide)
    rw [a4]
    exact (o0.2 b3).1
theorem nn_c9 {N c : Int} {i : It} (hc : c = 0 ∨ c = 3) : nnI N i c = i c := by
  unfold nnI
  rw [rn3_c, dI_n (fun ⟨m, p, q, _⟩ => by omega)]
  unfold rn1
  split
  · rw [uZ_ne (by omega)]
  · rfl
theorem st_c9 {f : Int → Int} {c : Int} {i : It} (hc : c = 0 ∨ c = 3) : stI f i c = i c := by
  unfold stI
  split
  · rw [uZ_ne (by omega)]
  · rfl
theorem stnn_3 {f : Int → Int} {N : Int} {i : It} (h : (stI f (nnI N i)) 0 = 12) (h3 : i 0 = 12 → i 3 = 0) : (stI f (nnI N i)) 3 = 0 := by
  rw [st_c9 (Or.inl rfl), nn_c9 (Or.inl rfl)] at h
  rw [st_c9 (Or.inr rfl), nn_c9 (Or.inr rfl)]
  exact h3 h
theorem vw_out {σ : MS} {b : Nat} {k : Int} (h : ¬ (0 ≤ k ∧ k < σ.2.1 6 b)) : vW (cdW σ b) k = zI := by
  have e : cdW σ b k = zI := by
    funext c
    exact (cW_out h).symm
  funext c
  show nrm (cdW σ b k) c = 0
  rw [e]
  by_cases c3 : c = 3
  · subst c3; rw [nrm_3 (by show ¬ (0 : Int) = 12; decide)]; rfl
  · by_cases c12 : c = 12
    · subst c12; exact nrm_12
    · rw [nrm_ne c3 c12]; rfl
end
section
def mk00 (k v : Int) : MK := ((0, 0, 0, 0, 0), (0, fun _ => zI), (k, v), [], (fun _ => (0, fun _ => zI), fun _ => 0))
def CDA (σ τ : MS) (C : Int → Nat) : Prop := ∀ r, 0 ≤ r → r < τ.1 10 → (cdS σ (C r) = rS τ r ∧ σ.2.1 7 (C r) = τ.2.1 12 r ∧ σ.2.1 8 (C r) = τ.2.1 11 r ∧ σ.2.1 9 (C r) = τ.2.1 13 r) ∧ (WOK (cdW σ (C r)) (σ.2.1 6 (C r)) ∧ LNK (cdW σ (C r)) (σ.2.1 6 (C r)) ∧ RN9 σ (C r) (τ.2.1 12))
theorem mkb_0 {k v : Int} : MKB (mk00 k v) := ⟨fun _ => ibr_z, fun _ _ => ibr_z⟩
theorem mki_0 {k v : Int} : MKI (mk00 k v) := by
  refine ⟨⟨Int.le_refl _, fun i j x y => absurd y (by show ¬ i < 0; omega), fun i x y => absurd y (by show ¬ i < 0; omega), fun l q => ?_, ?_⟩, fun r i j a b => absurd b (by show ¬ i < 0; omega)⟩
  · exact absurd q (by show ¬ l ∈ (([] : List Int)); simp)
  · exact List.nodup_nil
def CDB (τ : MS) : Prop := ∀ r, 0 ≤ r → r < τ.1 10 → UNQ (rV τ r) (τ.2.1 9 r) ∧ RZA (rV τ r)
section CDS6
variable {S : Int → Int} {τ σ : MS} {es : List EW} {t : TK} {x : Int × Int × Int} {p : QR} {ρ : List EV} {Pf : Int → List EW} {f : Int → Int}
theorem nma_S {r : RS} {q : Int} (hs : SEN S) (re : RE S ([36], advT S 0, (0, 0, 0), qq 0, []) es ([], t, x, p, ρ)) (hr : ST0 r) (hp : PFX es Pf) (q0 : 0 ≤ q) (q1 : q < (es.foldl uC c00).rn) (q6 : q < 6) : NMA (nmQ6 S) q ((Pf q).foldl uC c00) := by
  have n1 := names_end hr (re.shp hs) hp q0 q1 q6
  have ds := DSC.fold (Pf q) dsc_0
  refine ⟨fun i a b => nmQ6_at hs re hr hp q0 q1 q6 (Or.inl ⟨a, by rw [n1.1]; exact b, n1.2.2 i a b, fun j u v => ?_⟩), fun _ w nf => nmQ6_at hs re hr hp q0 q1 q6 (Or.inr ⟨fun j u v => ?_, rfl⟩)⟩
  · rw [n1.2.2 j u (by omega)]
    exact ds j i u v b
  · rw [n1.1] at v
    rw [n1.2.2 j u v]
    exact fun e => nf ⟨j, u, v, e⟩
theorem txw_end {nm : Int → Int64 → Int} {rn : Int64 → Int} {tb : Int → Int} {z0 mz : MK} {i : Nat} {N : Int} (hB : SB S) (h : TXW S nm rn tb z0 i N mz) (hk : ckd (tkS S i) = 264) : ∃ t x p ρ, RM S nm rn tb ([36], advT S 0, (0, 0, 0), qq 0, []) z0 ([], t, x, p, ρ) mz := by
  have g := GCW.gg h (GCW.of (gr36y hB hk) (show id mz = mz from rfl))
  obtain ⟨t1, l, -, e⟩ := g (advT S 0) ⟨rfl, rfl, rfl, rfl, fun _ => rfl⟩
  exact ⟨_, _, _, _, e [] []⟩
theorem tr9_end {i : Nat} {N : Int} (hB : SB S) (h : TR9 S i N es) (hk : ckd (tkS S i) = 264) : ∃ t x p ρ, RE S ([36], advT S 0, (0, 0, 0), qq 0, []) es ([], t, x, p, ρ) := by
  have g := GCS.gg h (r36y hB hk)
  obtain ⟨t1, l, -, e⟩ := g (advT S 0) ⟨rfl, rfl, rfl, rfl, fun _ => rfl⟩
  have w := e [] []
  rw [List.append_nil es] at w
  exact ⟨_, _, _, _, w⟩
theorem nn0 : ∀ {es : List EW}, 0 ≤ (es.foldl uC c00).nn := fun {es} => by
  have key : ∀ (es : List EW) (c : CS), 0 ≤ c.nn → 0 ≤ (es.foldl uC c).nn := fun es => by
    induction es with
    | nil => exact fun c h => h
    | cons e es ih =>
      intro c h
      refine ih (uC c e) ?_
      have nm : ∀ w, 0 ≤ (sCn c w).nn := fun w => by
        unfold sCn
        by_cases z : ¬ fndC c w ∧ ¬ 12 ≤ c.nn
        · rw [ifP_t z]; show 0 ≤ c.nn + 1; omega
        · rw [ifP_f z]; exact h
      show 0 ≤ (sC c e).nn
      unfold sC
      split
      · exact Int.le_refl _
      split
      · exact nm _
      split
      · exact h
      split
      · exact nm _
      split
      · exact h
      split
      · exact h
      exact h
  exact key es c00 (Int.le_refl _)
noncomputable def rnR (τ : MS) (w : Int64) : Int := Classical.epsilon (fun v => RNV τ w v)
theorem rnR_at {w : Int64} {v : Int} (h : RNV τ w v) : rnR τ w = v := RNV.one (Classical.epsilon_spec (p := fun v => RNV τ w v) ⟨v, h⟩) h
theorem rnv_30 {w : Int64} {v r : Int} (h : RNV (sS 30 r τ) w v) : RNV τ w v := h
theorem rnQ_kw {w : Int64} (h : ∃ k, KW k w) : KW (rnQ w) w := by
  unfold rnQ
  rw [dif_pos h]
  exact Classical.choose_spec h
theorem makers {pk pv : Int} {i : Nat} {N : Int} {mz : MK} (hs : SEN S) (hB : SB S) (re : RE S ([36], advT S 0, (0, 0, 0), qq 0, []) es ([], t, x, p, ρ)) (r9 : (RA9 (es.foldl uC c00)).1 = 0) (r6 : (es.foldl uC c00).rn ≤ 6) (hp : PFX es Pf) (hf : RFC (es.foldl uC c00) f) (hx : (∀ q, 0 ≤ q → q < (es.foldl uC c00).rn → NMA (nmQ6 S) q ((Pf q).foldl uC c00)) → TXW S (nmQ6 S) rnQ tb1 (mk00 pk pv) i N mz) (hk : ckd (tkS S i) = 264) (hm : MDE S τ) (e10 : τ.1 10 = (es.foldl uC c00).rn) : ∀ r, 0 ≤ r → r < τ.1 10 → (mz.dn r).1 = τ.2.1 9 r ∧ (∀ k, 0 ≤ k → k < (mz.dn r).1 → rV τ r k = mpI (τ.2.1 35 r) f ((mz.dn r).2 k) ∧ ((mz.dn r).2 k 0 = 12 → (mz.dn r).2 k 4 < 1000)) ∧ mz.fr r = τ.2.1 13 r ∧ τ.2.1 35 r = ((Pf r).foldl uC c00).nn ∧ τ.2.1 11 r = (es.foldl uC c00).rp r ∧ ((Pf r).foldl uC c00).nn ≤ 12 ∧ (∀ k, IBR (rV τ r k)) ∧ UNQ (rV τ r) (τ.2.1 9 r) := by
  obtain ⟨⟨pk2, pv2, mr⟩, -, es2, t2, x2, q2, ρ2, A, re2, sA, tnn, tnw, ttn, ttw, ttm⟩ := hm
  have d := (RE.det re re2 rfl rfl evt_nil evt_nil).2
  subst d
  have sh := re.shp hs
  have st : ST0 (absR A) := sA
  have nma : ∀ q, 0 ≤ q → q < (es.foldl uC c00).rn → NMA (nmQ6 S) q ((Pf q).foldl uC c00) := fun q a b => nma_S hs re st hp a b (by omega)
  obtain ⟨t3, x3, p3, ρ3, rc⟩ := txw_end hB (hx nma) hk
  -- the reference's numbers fit
  have nf := NFQ.fold es (show NFQ (absR A) ((absR A).1, (0, -1), (absR A).2.2) from ⟨rfl, rfl⟩)
  obtain ⟨pc, lo, k1⟩ := K1.run es (K1.ini (r := ((absR A).1, (0, -1), (absR A).2.2)) st rfl) sh
  have etn : (es.foldl uR (absR A)).tn = (es.foldl uC c00).rn := (congrArg (fun z => z.2.2.1) nf.2).trans k1.tn
  have etw : ∀ j, 0 ≤ j → j < (es.foldl uC c00).rn → (es.foldl uR (absR A)).tw j = (es.foldl uC c00).rk j := fun j a b => (congrFun (congrArg (fun z => z.2.2.2.1) nf.2) j).trans (k1.tw j a b)
  have etm : ∀ j, 0 ≤ j → j < (es.foldl uC c00).rn → (es.foldl uR (absR A)).tm j = (es.foldl uC c00).rp j := fun j a b => (congrFun (congrArg (fun z => z.2.2.2.2.1) nf.2) j).trans (k1.tm j a (Or.inr ⟨b, by decide⟩))
  have fa : FITA (nmQ6 S) (rnR τ) (fun r => τ.2.1 35 r) τ := fun r r0 r6 => by
    refine ⟨fun w v h => ?_, fun w v h => rnR_at (rnv_30 h), rfl⟩
    show nmQ6 S r w = v
    by_cases z : r < (es.foldl uC c00).rn
    · refine nmQ6_at hs re st hp r0 z r6 ?_
      unfold NLK
      rw [tnn, tnw]
      exact h
    · have y := nmQ6_hi (w := w) hs re st (show (es.foldl uC c00).rn ≤ r by omega) r6
      rw [y.1]
      have y2 := y.2
      rw [tnn] at y2
      rcases h with ⟨a1, a2, -⟩ | ⟨-, a2⟩
      · have a3 : v < τ.2.1 35 r := a2
        omega
      · exact a2.symm
  obtain ⟨t4, x4, l4, m', rm1, dm⟩ := mr _ _ _ fa (mk00 pk2 pv2) rfl rfl rfl
  have cg : ∀ e ∈ es, e.1 = 1 → rnR τ e.2.2.2 = f (rnQ e.2.2.2) := fun e he k9 => by
    have kw := rnQ_kw (re.kw hs e he k9)
    have fd := ((hf _ _ kw).1 (call_found sh r9 e he k9))
    refine rnR_at (Or.inl ⟨f (rnQ e.2.2.2), ⟨fd.1.1, ?_, ?_, fun j a b => ?_⟩, (if_pos (by omega)).symm⟩)
    · rw [← ttn, etn]; exact fd.1.2
    · rw [← ttw, etw _ fd.1.1 fd.1.2]; exact fd.2.1
    · rw [← ttw, etw j a (by omega)]; exact fd.2.2 j a b
  have rm2 := RM.cong (rn2 := fun w => f (rnQ w)) rm1 re rfl evt_nil rfl evt_nil cg
  have dd := (RLM.fin (f := f) (Nf := fun r => τ.2.1 35 r) (nmQ6_lt S) rc rm2 rfl (fun _ => rfl) (RLM.hd rfl ⟨rfl, fun q => ⟨rfl, fun k a b => absurd b (by show ¬ k < 0; omega)⟩⟩ (Or.inr (Or.inl rfl)))).2
  intro r a b
  have d9 := dm r a b
  have q9 := dd.2 r
  have e1 : m'.dn r = (τ.2.1 9 r, rV τ r) := d9.1
  have ne := names_end st sh hp a (by omega) (show r < 6 by omega)
  rw [e1] at q9
  have mb := (rm1.mkb mkb_0).2 r
  have mi := (rm1.mki mki_0).2 r
  rw [d9.1] at mb mi
  refine ⟨q9.1.symm, q9.2, ?_, ?_, ?_, ne.2.1.2, mb, mi⟩
  · rw [← dd.1]; exact d9.2
  · rw [← tnn]; exact ne.1
  · rw [← ttm r a b]; exact etm r a (by omega)
theorem CODES {C : Int → Nat} {pk pv : Int} {i : Nat} {N : Int} {mz : MK} (hs : SEN S) (hB : SB S) (re : RE S ([36], advT S 0, (0, 0, 0), qq 0, []) es ([], t, x, p, ρ)) (r9 : (RA9 (es.foldl uC c00)).1 = 0) (r6 : (es.foldl uC c00).rn ≤ 6) (hp : PFX es Pf) (hf : RFC (es.foldl uC c00) f) (hx : (∀ q, 0 ≤ q → q < (es.foldl uC c00).rn → NMA (nmQ6 S) q ((Pf q).foldl uC c00)) → TXW S (nmQ6 S) rnQ tb1 (mk00 pk pv) i N mz) (hk : ckd (tkS S i) = 264) (hm : MDE S τ) (e10 : τ.1 10 = (es.foldl uC c00).rn) (hP : ∀ r, 0 ≤ r → r < τ.1 10 → 0 ≤ τ.2.1 11 r ∧ τ.2.1 11 r ≤ 4) (hw : ∀ r, 0 ≤ r → r < τ.1 10 → ∃ F, OKS τ F r) (hc : ∀ q, 0 ≤ q → q < (es.foldl uC c00).rn → (mz.dn q).1 ≤ 120 ∧ CDT σ (C q) q (mz.dn q).1 (mz.dn q).2 (mz.fr q) ((Pf q).foldl uC c00).nn ((es.foldl uC c00).rp q) f) : CDA σ τ C ∧ CDB τ := by
  refine ⟨fun r a b => ?_, fun r a b => ?_⟩
  rotate_left
  · have mk := makers hs hB re r9 r6 hp hf hx hk hm e10 r a b
    exact ⟨mk.2.2.2.2.2.2.2, fun k => (mk.2.2.2.2.2.2.1 k).2⟩
  have mk := makers hs hB re r9 r6 hp hf hx hk hm e10 r a b
  obtain ⟨m1, m2, m3, m4, m5, m6, m7, -⟩ := mk
  obtain ⟨c1, s0, e, ck, cs⟩ := hc r a (by omega)
  obtain ⟨-, hd, -⟩ := hm
  obtain ⟨dn, d17, d12, d11⟩ := hd r a b
  obtain ⟨k1, ⟨k6, k7, k8, k9, k14⟩, kl, kw⟩ := ck
  obtain ⟨⟨⟨f6, f7, f9, f10⟩, f8⟩, ⟨r11, r12, r13, r14, r15⟩, W, w1, w2, w3⟩ := cs
  obtain ⟨g14, g15, g16, g18, -, -⟩ := dn
  have eV : vW (cdW s0 e) = rV τ r := by
    funext k
    by_cases z : 0 ≤ k ∧ k < (mz.dn r).1
    · rw [(m2 k z.1 z.2).1, ← w1]
      show nrm (cdW s0 e k) = mpI (τ.2.1 35 r) f (nrm (W k))
      rw [w3 k z.1 z.2, m4]
      exact nn_mp (fun q => by
        have y := (m2 k z.1 z.2).2
        rw [← w1] at y
        have y0 : vW W k 0 = W k 0 := vW_0
        have y4 : vW W k 4 = W k 4 := vW_ne (by decide) (by decide)
        rw [y0, y4] at y
        exact y q)
    · rw [vw_out (by rw [f6]; exact z)]
      exact (if_neg (by rw [← m1]; exact z)).symm
  have eS : cdS σ (C r) = rS τ r := by
    rw [k1]
    unfold cdS cRS rS
    rw [f6, f10, m1, eV, g14]
    refine Prod.ext rfl (Prod.ext rfl (Prod.ext rfl (Prod.ext ?_ (Prod.ext ?_ (Prod.ext ?_ ?_)))))
    · funext g
      show (if 0 ≤ g ∧ g < 1 then rwF s0 11 e g else 0) = if 0 ≤ g ∧ g < 1 then τ.2.1 15 (12 * r + g) else 0
      by_cases z : 0 ≤ g ∧ g < 1
      · have e0 : g = 0 := by omega
        rw [if_pos z, if_pos z, e0, r11, show 12 * r + 0 = 12 * r by omega, g15]
      · rw [if_neg z, if_neg z]
    · funext g
      show (if 0 ≤ g ∧ g < 1 then rwF s0 12 e g else 0) = if 0 ≤ g ∧ g < 1 then τ.2.1 16 (12 * r + g) else 0
      by_cases z : 0 ≤ g ∧ g < 1
      · have e0 : g = 0 := by omega
        rw [if_pos z, if_pos z, e0, r12, show 12 * r + 0 = 12 * r by omega, g16]
      · rw [if_neg z, if_neg z]
    · funext g
      show (if 0 ≤ g ∧ g < 1 then rwF s0 13 e g else 0) = if 0 ≤ g ∧ g < 1 then τ.2.1 17 (12 * r + g) else 0
      by_cases z : 0 ≤ g ∧ g < 1
      · have e0 : g = 0 := by omega
        rw [if_pos z, if_pos z, e0, r13, show 12 * r + 0 = 12 * r by omega, d17]
      · rw [if_neg z, if_neg z]
    · funext g m
      show (if (0 ≤ g ∧ g < 1) ∧ 0 ≤ m ∧ m < rwF s0 14 e g then rwF s0 15 e (12 * g + m) else 0) = if (0 ≤ g ∧ g < 1) ∧ 0 ≤ m ∧ m < τ.2.1 12 (τ.2.1 15 (12 * r + g)) then τ.2.1 18 (144 * r + 12 * g + m) else 0
      by_cases z : 0 ≤ g ∧ g < 1
      · have e0 : g = 0 := by omega
        rw [e0, r14, show 12 * r + 0 = 12 * r by omega, g15, d12, m4]
        by_cases y : 0 ≤ m ∧ m < ((Pf r).foldl uC c00).nn
        · rw [if_pos ⟨⟨Int.le_refl _, by decide⟩, y⟩, if_pos ⟨⟨Int.le_refl _, by decide⟩, y⟩, show 12 * 0 + m = m by omega, r15 m y.1 y.2, show 144 * r + 12 * 0 + m = 144 * r + m by omega, g18 m y.1 (by omega)]
        · rw [if_neg (fun q => y q.2), if_neg (fun q => y q.2)]
      · rw [if_neg (fun q => z q.1), if_neg (fun q => z q.1)]
  have p8 : s0.2.1 8 e = τ.2.1 11 r := by
    rw [f8 (by rw [← m5]; exact (hP r a b).2), m5]
  have c10 : σ.2.1 10 (C r) = 1 := (congrArg (fun H : RTS => H.2.2.1) k1).trans f10
  have c11 : rwF σ 11 (C r) 0 = r := by
    have z := congrFun (congrArg (fun H : RTS => H.2.2.2.1) k1) 0
    have z2 : (if (0 : Int) ≤ 0 ∧ (0 : Int) < σ.2.1 10 (C r) then rwF σ 11 (C r) 0 else 0) = if (0 : Int) ≤ 0 ∧ (0 : Int) < s0.2.1 10 e then rwF s0 11 e 0 else 0 := z
    rw [c10, f10, if_pos (by decide), if_pos (by decide), r11] at z2
    exact z2
  refine ⟨⟨eS, by rw [k7, f7, d12, m4], by rw [k8, p8], by rw [k9, f9, m3]⟩, kw ?_, kl, ?_⟩
  · intro k a0 a1
    rw [f6] at a1
    obtain ⟨F, ok⟩ := hw r a b
    have ek : nrm (cdW s0 e k) = rI τ (220 * r + k) := by
      have z := congrFun eV k
      rw [show rV τ r k = rI τ (220 * r + k) from if_pos ⟨a0, by rw [← m1]; exact a1⟩] at z
      exact z
    refine wok_raw ek (ok k a0 (by rw [← m1]; exact a1)) ?_ (fun q => ?_)
    · have z := m7 k
      rw [show rV τ r k = rI τ (220 * r + k) from if_pos ⟨a0, by rw [← m1]; exact a1⟩] at z
      exact z
    · rw [w3 k a0 a1] at q ⊢
      exact stnn_3 q (fun u => w2 k a0 a1 u)
  · intro g g0 g1
    rw [c10] at g1
    have e0 : g = 0 := by omega
    rw [e0, k14, r14, c11, d12, m4]
    have z := m6
    have z2 := nn0 (es := Pf r)
    exact ⟨⟨z2, z⟩, rfl⟩
end CDS6
end
