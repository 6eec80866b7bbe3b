section
abbrev tyS (S : List ME) : List Int := S.map (fun e => e.1)
def cnP (L : List Int) (S : List Int) : Option (List Int) := match S with
  | [] => none
  | e :: S => if e ∈ L then some S else none
def cnT (k : Nat) (S : List Int) : Option (List Int) :=
  if k = 51 then (match S with
    | [] => none
    | e :: S => if e = 2 then some (3 :: S) else if e = 6 then some (7 :: S) else if e ∈ [0, 1, 3, 10, 11] then some S else none)
  else if k = 52 then (match S with
    | [] => none
    | e :: S => if e = 5 then some (6 :: S) else if e = 4 then some (3 :: S) else if e ∈ [7, 8] then some S else none)
  else if k = 24 then cnP [3] S
  else if k = 25 then cnP [8] S
  else if k = 26 ∨ k = 27 ∨ k = 38 then cnP [9] S
  else if k = 30 ∨ k = 31 ∨ k = 32 ∨ k = 33 ∨ k = 35 ∨ k = 36 then (match S with
    | [] => some []
    | _ :: _ => none)
  else some S
def rnT : List Nat → List Int → Option (List Int)
  | [], S => some S
  | k :: K, S => match cnT k S with
    | none => none
    | some S' => rnT K S'
section RNT
variable {s : Int → Int} {nm : Int → Int64 → Int} {rn : Int64 → Int} {tb : Int → Int} {k : Nat} {K K2 : List Nat} {t : TK} {x : Int × Int × Int} {q : QR} {r : List Nat × TK × (Int × Int × Int) × QR × List EV} {m : MK} {S S' S2 : List Int} {w : Int64} {e : ME} {S0 : List ME}
theorem rnT_c (h : cnT k S = some S') : rnT (k :: K) S = rnT K S' := by
  show (match cnT k S with
    | none => none
    | some S' => rnT K S') = _
  rw [h]
theorem rnT_ex (h : rnT (k :: K) S = some S2) : ∃ S', cnT k S = some S' ∧ rnT K S' = some S2 := by
  cases e : cnT k S with
  | none =>
    have h : (match cnT k S with
      | none => none
      | some S' => rnT K S') = some S2 := h
    rw [e] at h
    exact absurd h (by simp)
  | some S' => exact ⟨S', rfl, by rw [rnT_c e] at h; exact h⟩
theorem rnT_app : ∀ (K : List Nat) {S S' : List Int}, rnT K S = some S' → rnT (K ++ K2) S = rnT K2 S'
  | [], S, S', h => by
    have h : some S = some S' := h
    rw [Option.some.inj h]; rfl
  | k :: K, S, S', h => by
    obtain ⟨S1, h1, h2⟩ := rnT_ex h
    show rnT (k :: (K ++ K2)) S = _
    rw [rnT_c h1]
    exact rnT_app K h2
theorem cnT_n (h : ¬ (k = 51 ∨ k = 52 ∨ k = 24 ∨ k = 25 ∨ k = 26 ∨ k = 27 ∨ k = 38 ∨ k = 30 ∨ k = 31 ∨ k = 32 ∨ k = 33 ∨ k = 35 ∨ k = 36)) : cnT k S = some S := by
  unfold cnT
  rw [if_neg (by omega), if_neg (by omega), if_neg (by omega), if_neg (by omega), if_neg (by omega), if_neg (by omega)]
theorem rnT_n (h : ∀ y ∈ K, ¬ (y = 51 ∨ y = 52 ∨ y = 24 ∨ y = 25 ∨ y = 26 ∨ y = 27 ∨ y = 38 ∨ y = 30 ∨ y = 31 ∨ y = 32 ∨ y = 33 ∨ y = 35 ∨ y = 36)) : rnT K S = some S := by
  induction K with
  | nil => rfl
  | cons k K ih =>
    rw [rnT_c (cnT_n (h k List.mem_cons_self))]
    exact ih (fun y hy => h y (List.mem_cons_of_mem _ hy))
theorem cnP_1 {z : Int} (h : cnP [z] S = some S') : S = z :: S' := by
  cases S with
  | nil => exact absurd h (by simp [cnP])
  | cons e S =>
    have h : (if e ∈ [z] then some S else none) = some S' := h
    by_cases c : e ∈ [z]
    · rw [if_pos c] at h
      rw [Option.some.inj h, List.mem_singleton.mp c]
    · rw [if_neg c] at h
      exact absurd h (by simp)
theorem one_fx (hs : m.S = e :: S0) : (e.1 = 0 ∧ m.one tb = (((m.put (it2 (if e.2.1 < 6 then e.2.1 else 5) (tb m.rt + m.tmp) e.2.2.1 ((e.2.2.2.headD (0, 0)).1) m.pk m.pv)).sS S0).sP 2 (tb m.rt + m.tmp)).sT (m.tmp + 1)) ∨ (e.1 = 1 ∧ m.one tb = (m.put (mkI 11 m.ln 0 0 0 0)).sS S0) ∨ (e.1 = 2 ∧ m.one tb = ((m.put (mkI 9 m.lab 0 m.pk m.pv 0)).sS ((3, m.lab, 0, []) :: S0)).sL (m.lab + 1)) ∨ (e.1 = 3 ∧ m.one tb = (m.put (mkI 13 e.2.1 0 0 0 0)).sS S0) ∨ (e.1 = 6 ∧ m.one tb = ((m.put (mkI 9 m.lab 0 m.pk m.pv 0)).sS ((7, e.2.1, m.lab, []) :: S0)).sL (m.lab + 1)) ∨ (e.1 = 10 ∧ m.one tb = (m.put (mkI (if e.2.1 = 6 then 6 else 7) 0 0 m.pk m.pv 0)).sS S0) ∨ (e.1 = 11 ∧ m.one tb = (m.put (mkI 7 0 0 1 0 0)).sS S0) ∨ (e.1 ∉ [2, 6, 0, 1, 3, 10, 11] ∧ m.one tb = m) := by
  by_cases c0 : e.1 = 0
  · exact Or.inl ⟨c0, by unfold MK.one; rw [hs]; exact if_pos c0⟩
  refine Or.inr ?_
  by_cases c1 : e.1 = 1
  · exact Or.inl ⟨c1, by unfold MK.one; rw [hs]; exact (if_neg c0).trans (if_pos c1)⟩
  refine Or.inr ?_
  by_cases c2 : e.1 = 2
  · exact Or.inl ⟨c2, by unfold MK.one; rw [hs]; exact ((if_neg c0).trans (if_neg c1)).trans (if_pos c2)⟩
  refine Or.inr ?_
  by_cases c3 : e.1 = 3
  · exact Or.inl ⟨c3, by unfold MK.one; rw [hs]; exact (((if_neg c0).trans (if_neg c1)).trans (if_neg c2)).trans (if_pos c3)⟩
  refine Or.inr ?_
  by_cases c6 : e.1 = 6
  · exact Or.inl ⟨c6, by unfold MK.one; rw [hs]; exact ((((if_neg c0).trans (if_neg c1)).trans (if_neg c2)).trans (if_neg c3)).trans (if_pos c6)⟩
  refine Or.inr ?_
  by_cases c10 : e.1 = 10
  · exact Or.inl ⟨c10, by unfold MK.one; rw [hs]; exact (((((if_neg c0).trans (if_neg c1)).trans (if_neg c2)).trans (if_neg c3)).trans (if_neg c6)).trans (if_pos c10)⟩
  refine Or.inr ?_
  by_cases c11 : e.1 = 11
  · exact Or.inl ⟨c11, by unfold MK.one; rw [hs]; exact ((((((if_neg c0).trans (if_neg c1)).trans (if_neg c2)).trans (if_neg c3)).trans (if_neg c6)).trans (if_neg c10)).trans (if_pos c11)⟩
  refine Or.inr ⟨?_, by unfold MK.one; rw [hs]; exact ((((((if_neg c0).trans (if_neg c1)).trans (if_neg c2)).trans (if_neg c3)).trans (if_neg c6)).trans (if_neg c10)).trans (if_neg c11)⟩
  simp only [List.mem_cons, List.not_mem_nil, or_false, not_or]
  exact ⟨c2, c6, c0, c1, c3, c10, c11⟩
theorem two_fx (hs : m.S = e :: S0) : (e.1 = 8 ∧ m.two = ((m.put (mkI 0 e.2.1 0 m.pk m.pv 0)).put (bndI e.2.1)).sS S0) ∨ (e.1 = 5 ∧ m.two = (((m.put (mkI 13 m.lab 0 0 0 0)).put (mkI 11 m.ln 0 0 0 0)).sS ((6, m.lab, 0, []) :: S0)).sL (m.lab + 1)) ∨ (e.1 = 4 ∧ m.two = (((m.put (mkI 8 m.lab 0 0 0 0)).put (mkI 13 e.2.1 0 0 0 0)).sS ((3, m.lab, 0, []) :: S0)).sL (m.lab + 1)) ∨ (e.1 = 7 ∧ m.two = ((m.put (mkI 8 e.2.1 0 0 0 0)).put (mkI 13 e.2.2.1 0 0 0 0)).sS S0) ∨ (e.1 ∉ [5, 4, 7, 8] ∧ m.two = m) := by
  by_cases c8 : e.1 = 8
  · exact Or.inl ⟨c8, by unfold MK.two; rw [hs]; exact if_pos c8⟩
  refine Or.inr ?_
  by_cases c5 : e.1 = 5
  · exact Or.inl ⟨c5, by unfold MK.two; rw [hs]; exact (if_neg c8).trans (if_pos c5)⟩
  refine Or.inr ?_
  by_cases c4 : e.1 = 4
  · exact Or.inl ⟨c4, by unfold MK.two; rw [hs]; exact ((if_neg c8).trans (if_neg c5)).trans (if_pos c4)⟩
  refine Or.inr ?_
  by_cases c7 : e.1 = 7
  · exact Or.inl ⟨c7, by unfold MK.two; rw [hs]; exact (((if_neg c8).trans (if_neg c5)).trans (if_neg c4)).trans (if_pos c7)⟩
  refine Or.inr ⟨?_, by unfold MK.two; rw [hs]; exact (((if_neg c8).trans (if_neg c5)).trans (if_neg c4)).trans (if_neg c7)⟩
  simp only [List.mem_cons, List.not_mem_nil, or_false, not_or]
  exact ⟨c5, c4, c7, c8⟩
theorem cal_fx (hs : m.S = e :: S0) : (e.1 = 9 ∧ m.cal rn w = ((m.put (itC e.2.1 (rn w) e.2.2.2)).put (bndI e.2.1)).sS S0) ∨ (e.1 ≠ 9 ∧ m.cal rn w = m) := by
  by_cases c : e.1 = 9
  · exact Or.inl ⟨c, by unfold MK.cal; rw [hs]; exact if_pos c⟩
  · exact Or.inr ⟨c, by unfold MK.cal; rw [hs]; exact if_neg c⟩
theorem ty_c (h : tyS m.S = S) {z : Int} {L : List Int} (e0 : S = z :: L) : ∃ e S0, m.S = e :: S0 ∧ e.1 = z ∧ tyS S0 = L := by
  cases hs : m.S with
  | nil => rw [hs, e0] at h; exact absurd h (by simp)
  | cons e S0 =>
    rw [hs, e0] at h
    have h : e.1 :: tyS S0 = z :: L := h
    obtain ⟨a, b⟩ := List.cons.inj h
    exact ⟨e, S0, rfl, a, b⟩
theorem rnT_51 (h : cnT 51 (tyS m.S) = some S') : tyS (m.one tb).S = S' := by
  cases hs : m.S with
  | nil => rw [hs] at h; exact absurd h (by simp [cnT])
  | cons e S0 =>
    rw [hs] at h
    have h : (if e.1 = 2 then some (3 :: tyS S0) else if e.1 = 6 then some (7 :: tyS S0) else if e.1 ∈ [0, 1, 3, 10, 11] then some (tyS S0) else none) = some S' := h
    rcases one_fx (tb := tb) hs with ⟨a, b⟩ | ⟨a, b⟩ | ⟨a, b⟩ | ⟨a, b⟩ | ⟨a, b⟩ | ⟨a, b⟩ | ⟨a, b⟩ | ⟨a, b⟩
    · rw [b]; rw [a] at h; exact Option.some.inj h
    · rw [b]; rw [a] at h; exact Option.some.inj h
    · rw [b]; rw [a] at h; exact Option.some.inj h
    · rw [b]; rw [a] at h; exact Option.some.inj h
    · rw [b]; rw [a] at h; exact Option.some.inj h
    · rw [b]; rw [a] at h; exact Option.some.inj h
    · rw [b]; rw [a] at h; exact Option.some.inj h
    · simp only [List.mem_cons, List.not_mem_nil, or_false, not_or] at a
      rw [if_neg a.1, if_neg a.2.1, if_neg (by simp only [List.mem_cons, List.not_mem_nil, or_false, not_or]; exact a.2.2)] at h
      exact absurd h (by simp)
theorem rnT_52 (h : cnT 52 (tyS m.S) = some S') : tyS m.two.S = S' := by
  cases hs : m.S with
  | nil => rw [hs] at h; exact absurd h (by simp [cnT])
  | cons e S0 =>
    rw [hs] at h
    have h : (if e.1 = 5 then some (6 :: tyS S0) else if e.1 = 4 then some (3 :: tyS S0) else if e.1 ∈ [7, 8] then some (tyS S0) else none) = some S' := h
    rcases two_fx hs with ⟨a, b⟩ | ⟨a, b⟩ | ⟨a, b⟩ | ⟨a, b⟩ | ⟨a, b⟩
    · rw [b]; rw [a] at h; exact Option.some.inj h
    · rw [b]; rw [a] at h; exact Option.some.inj h
    · rw [b]; rw [a] at h; exact Option.some.inj h
    · rw [b]; rw [a] at h; exact Option.some.inj h
    · simp only [List.mem_cons, List.not_mem_nil, or_false, not_or] at a
      rw [if_neg a.1, if_neg a.2.1, if_neg (by simp only [List.mem_cons, List.not_mem_nil, or_false, not_or]; exact a.2.2)] at h
      exact absurd h (by simp)
theorem rnT_st (h : cnT k (tyS m.S) = some S') (hs : stk s k t x q = some r) : rnT r.1 (tyS (mkk s nm rn tb k t q m).S) = some S' := by
  have nt : ¬ (k = 51 ∨ k = 52 ∨ k = 24 ∨ k = 25 ∨ k = 26 ∨ k = 27 ∨ k = 38 ∨ k = 30 ∨ k = 31 ∨ k = 32 ∨ k = 33 ∨ k = 35 ∨ k = 36) → S' = tyS m.S := fun n => by rw [cnT_n n] at h; exact (Option.some.inj h).symm
  by_cases k0 : k = 0
  · subst k0
    rw [nt (by decide)]
    by_cases z : sgn t 45
    · obtain rfl := Option.some.inj (hs.symm.trans (if_pos z))
      rw [show mkk s nm rn tb 0 t q m = m.push (0, 2, 1, [(0, 0)]) from if_pos z]
      rfl
    · obtain rfl := Option.some.inj (hs.symm.trans (if_neg z))
      rw [show mkk s nm rn tb 0 t q m = m from if_neg z]
      rfl
  by_cases k1 : k = 1
  · subst k1
    rw [nt (by decide)]
    have eS : (mkk s nm rn tb 1 t q m).S = m.S := by
      show (if t.2.2.1 = 3 then m.sP 1 t.2.2.2.1 else if nam t then m.sP 2 (nm m.rt t.2.2.2.2) else m).S = m.S
      repeat' split
      all_goals rfl
    rw [eS]
    by_cases z : t.2.2.1 = 3 ∨ nam t
    · obtain rfl := Option.some.inj (hs.symm.trans (if_pos z)); rfl
    · by_cases y : sgn t 40
      · obtain rfl := Option.some.inj (hs.symm.trans ((if_neg z).trans (if_pos y))); rfl
      · exact absurd (hs.symm.trans ((if_neg z).trans (if_neg y))) (by simp)
  by_cases k6 : k = 6
  · subst k6
    rw [nt (by decide)]
    by_cases z : sgn t 61
    · obtain rfl := Option.some.inj (hs.symm.trans (if_pos (Or.inl z)))
      rw [show mkk s nm rn tb 6 t q m = m.push (0, 4, m.pk, [(m.pv, 0)]) from if_pos z]
      rfl
    · by_cases y : sgn t 60
      · obtain rfl := Option.some.inj (hs.symm.trans (if_pos (Or.inr y)))
        rw [show mkk s nm rn tb 6 t q m = m.push (0, 5, m.pk, [(m.pv, 0)]) from (if_neg z).trans (if_pos y)]
        rfl
      · obtain rfl := Option.some.inj (hs.symm.trans (if_neg (fun o => o.elim z y)))
        rw [show mkk s nm rn tb 6 t q m = m from (if_neg z).trans (if_neg y)]
        rfl
  by_cases k8 : k = 8
  · subst k8
    rw [nt (by decide)]
    by_cases z : sgn t 43
    · obtain rfl := Option.some.inj (hs.symm.trans (if_pos (Or.inl z)))
      rw [show mkk s nm rn tb 8 t q m = m.push (0, 1, m.pk, [(m.pv, 0)]) from if_pos z]
      rfl
    · by_cases y : sgn t 45
      · obtain rfl := Option.some.inj (hs.symm.trans (if_pos (Or.inr y)))
        rw [show mkk s nm rn tb 8 t q m = m.push (0, 2, m.pk, [(m.pv, 0)]) from (if_neg z).trans (if_pos y)]
        rfl
      · obtain rfl := Option.some.inj (hs.symm.trans (if_neg (fun o => o.elim z y)))
        rw [show mkk s nm rn tb 8 t q m = m from (if_neg z).trans (if_neg y)]
        rfl
  by_cases k9 : k = 9
  · subst k9
    rw [nt (by decide)]
    by_cases z : sgn t 42
    · obtain rfl := Option.some.inj (hs.symm.trans (if_pos z))
      rw [show mkk s nm rn tb 9 t q m = m.push (0, 3, m.pk, [(m.pv, 0)]) from if_pos z]
      rfl
    · obtain rfl := Option.some.inj (hs.symm.trans (if_neg z))
      rw [show mkk s nm rn tb 9 t q m = m from if_neg z]
      rfl
  by_cases k20 : k = 20
  · subst k20
    rw [nt (by decide)]
    by_cases z : wrd t 512852847717
    · obtain rfl := Option.some.inj (hs.symm.trans (if_pos z))
      rw [show mkk s nm rn tb 20 t q m = m.stm from if_pos z]
      rfl
    · rw [show mkk s nm rn tb 20 t q m = m.stm.push (1, 0, 0, []) from if_neg z]
      by_cases y : wrd t 26982
      · obtain rfl := Option.some.inj (hs.symm.trans ((if_neg z).trans (if_pos y))); rfl
      · by_cases u : wrd t 7304564 ∨ wrd t 125780071117422
        · obtain rfl := Option.some.inj (hs.symm.trans (((if_neg z).trans (if_neg y)).trans (if_pos u))); rfl
        · by_cases v : nam t
          · obtain rfl := Option.some.inj (hs.symm.trans ((((if_neg z).trans (if_neg y)).trans (if_neg u)).trans (if_pos v))); rfl
          · exact absurd (hs.symm.trans ((((if_neg z).trans (if_neg y)).trans (if_neg u)).trans (if_neg v))) (by simp)
  by_cases k21 : k = 21
  · subst k21
    rw [nt (by decide)]
    obtain rfl := Option.some.inj (hs.symm.trans rfl)
    rfl
  by_cases k22 : k = 22
  · subst k22
    rw [nt (by decide)]
    obtain rfl := Option.some.inj (hs.symm.trans rfl)
    rfl
  by_cases k23 : k = 23
  · subst k23
    rw [nt (by decide)]
    obtain rfl := Option.some.inj (hs.symm.trans rfl)
    rfl
  by_cases k24 : k = 24
  · subst k24
    obtain ⟨e, S0, hS, e3, eL⟩ := ty_c rfl (cnP_1 h)
    by_cases z : wrd t 1701606245
    · obtain rfl := Option.some.inj (hs.symm.trans (if_pos z))
      rw [show mkk s nm rn tb 24 t q m = m.top (fun e => if e.1 = 3 then (4, e.2.1, 0, []) else e) from if_pos z, top_S hS, if_pos e3]
      show rnT [52, 28, 51] (4 :: tyS S0) = some S'
      rw [eL]; rfl
    · obtain rfl := Option.some.inj (hs.symm.trans (if_neg z))
      rw [show mkk s nm rn tb 24 t q m = m from if_neg z, hS]
      show rnT [51] (e.1 :: tyS S0) = some S'
      rw [e3, eL]; rfl
  by_cases k25 : k = 25
  · subst k25
    obtain ⟨e, S0, hS, e8, eL⟩ := ty_c rfl (cnP_1 h)
    by_cases z : nam t
    · by_cases y : sgn (advT s t.2.1) 40
      · obtain rfl := Option.some.inj (hs.symm.trans ((if_pos z).trans (if_pos y)))
        rw [show mkk s nm rn tb 25 t q m = m.top (fun e => if e.1 = 8 then (9, e.2.1, 0, []) else e) from if_pos ⟨z, y⟩, top_S hS, if_pos e8]
        show rnT [26, 159] (9 :: tyS S0) = some S'
        rw [eL]; rfl
      · obtain rfl := Option.some.inj (hs.symm.trans ((if_pos z).trans (if_neg y)))
        rw [show mkk s nm rn tb 25 t q m = m from if_neg (fun o => y o.2), hS]
        show rnT [2, 52, 159] (e.1 :: tyS S0) = some S'
        rw [e8, eL]; rfl
    · obtain rfl := Option.some.inj (hs.symm.trans (if_neg z))
      rw [show mkk s nm rn tb 25 t q m = m from if_neg (fun o => z o.1), hS]
      show rnT [2, 52, 159] (e.1 :: tyS S0) = some S'
      rw [e8, eL]; rfl
  by_cases k26 : k = 26
  · subst k26
    rw [mkk_df (by decide), cnP_1 h]
    by_cases z : sgn (advT s t.2.1) 41
    · obtain rfl := Option.some.inj (hs.symm.trans (if_pos z)); rfl
    · obtain rfl := Option.some.inj (hs.symm.trans (if_neg z)); rfl
  by_cases k27 : k = 27
  · subst k27
    obtain ⟨e, S0, hS, e9, eL⟩ := ty_c rfl (cnP_1 h)
    rw [show mkk s nm rn tb 27 t q m = m.top (fun e => if e.1 = 9 then (9, e.2.1, 0, e.2.2.2 ++ [(m.pk, m.pv)]) else e) from rfl, top_S hS, if_pos e9]
    by_cases z : sgn t 44
    · obtain rfl := Option.some.inj (hs.symm.trans (if_pos z))
      show rnT [2, 27] (9 :: tyS S0) = some S'
      rw [eL]; rfl
    · obtain rfl := Option.some.inj (hs.symm.trans (if_neg z))
      show rnT [38, 141] (9 :: tyS S0) = some S'
      rw [eL]; rfl
  by_cases k34 : k = 34
  · subst k34
    rw [nt (by decide)]
    obtain rfl := Option.some.inj (hs.symm.trans rfl)
    rfl
  by_cases k35 : k = 35
  · subst k35
    obtain rfl := Option.some.inj (hs.symm.trans rfl)
    have e0 : S' = [] := by
      cases e : tyS m.S with
      | nil => rw [e] at h; exact (Option.some.inj h).symm
      | cons z L => rw [e] at h; exact absurd h (by simp [cnT])
    rw [e0]; rfl
  by_cases kr : k = 30 ∨ k = 31 ∨ k = 32 ∨ k = 33 ∨ k = 36
  · have e0 : tyS m.S = [] ∧ S' = [] := by
      cases e : tyS m.S with
      | nil =>
        rw [e] at h
        rcases kr with rfl | rfl | rfl | rfl | rfl <;> exact ⟨rfl, (Option.some.inj h).symm⟩
      | cons z L =>
        rw [e] at h
        rcases kr with rfl | rfl | rfl | rfl | rfl <;> exact absurd h (by simp [cnT])
    rw [mkk_df (by omega), e0.1, e0.2]
    rcases kr with rfl | rfl | rfl | rfl | rfl
    all_goals (simp only [stk] at hs; repeat' split at hs)
    all_goals first
      | (cases hs; done)
      | (cases hs; rfl)
  by_cases k38 : k = 38
  · subst k38
    obtain rfl := Option.some.inj (hs.symm.trans rfl)
    obtain ⟨e, S0, hS, e9, eL⟩ := ty_c rfl (cnP_1 h)
    rw [show mkk s nm rn tb 38 t q m = m.cal rn q.1 from rfl, cal_S hS e9, eL]
    rfl
  by_cases k39 : k = 39
  · subst k39
    rw [nt (by decide)]
    obtain rfl := Option.some.inj (hs.symm.trans rfl)
    by_cases z : wrd t 7304564
    · rw [show mkk s nm rn tb 39 t q m = m.push (10, 6, 0, []) from if_pos z]; rfl
    · rw [show mkk s nm rn tb 39 t q m = m.push (10, 7, 0, []) from if_neg z]; rfl
  by_cases k51 : k = 51
  · subst k51
    obtain rfl := Option.some.inj (hs.symm.trans rfl)
    show some (tyS (m.one tb).S) = some S'
    rw [rnT_51 h]
  by_cases k52 : k = 52
  · subst k52
    obtain rfl := Option.some.inj (hs.symm.trans rfl)
    show some (tyS m.two.S) = some S'
    rw [rnT_52 h]
  rw [mkk_df (by omega), nt (by omega)]
  refine rnT_n (fun y hy => ?_)
  unfold stk at hs
  split at hs
  all_goals (repeat' split at hs)
  all_goals first
    | exact absurd rfl (by assumption)
    | (exfalso; omega)
    | (cases hs; done)
    | (cases hs; exact absurd hy List.not_mem_nil)
    | (cases hs; simp only [List.mem_cons, List.not_mem_nil, or_false] at hy; omega)
end RNT
def CTG (k : Nat) : Prop := k = 23 ∨ k = 25 ∨ k = 26 ∨ k = 27 ∨ k = 38
def C0T (K : List Nat) : Prop := ∀ k ∈ K, ¬ CTG k
def STG (k : Nat) : Prop := CTG k ∨ (20 ≤ k ∧ k ≤ 40)
def OKC : List Nat → Prop
  | [] => True
  | k :: K => (STG k → C0T K) ∧ OKC K
section OKCS
variable {s : Int → Int} {k : Nat} {K : List Nat} {t : TK} {x : Int × Int × Int} {q : QR} {r : List Nat × TK × (Int × Int × Int) × QR × List EV}
theorem c0_c (h : ¬ CTG k) (g : C0T K) : C0T (k :: K) := fun y hy => (List.mem_cons.mp hy).elim (fun e => by rw [e]; exact h) (g y)
theorem OKC.n (h : ¬ STG k) (g : OKC K) : OKC (k :: K) := ⟨fun z => absurd z h, g⟩
theorem OKC.sg (h : C0T K) (g : OKC K) : OKC (k :: K) := ⟨fun _ => h, g⟩
theorem OKC.st (h : OKC (k :: K)) (hs : stk s k t x q = some r) : OKC (r.1 ++ K) := by
  obtain ⟨h1, h2⟩ := h
  have nc : ∀ y : Nat, y = 24 ∨ y = 28 ∨ y = 29 ∨ y = 51 ∨ y = 52 ∨ y = 141 ∨ y = 159 ∨ y = 2 ∨ y = 36 ∨ y = 34 ∨ y = 35 ∨ y = 31 ∨ y = 33 ∨ y = 30 ∨ y = 32 ∨ y = 21 ∨ y = 39 ∨ y = 22 ∨ y = 20 ∨ y = 40 → ¬ CTG y := fun y hy => by unfold CTG; omega
  by_cases g : STG k
  · have c := h1 g
    unfold stk at hs
    split at hs
    all_goals (repeat' split at hs)
    all_goals first
      | (cases hs; done)
      | (cases hs; exact h2)
      | (cases hs; exact OKC.sg c h2)
      | (cases hs; exact OKC.n (by unfold STG CTG; omega) (OKC.sg c h2))
      | (cases hs; exact OKC.sg (c0_c (nc _ (by decide)) c) (OKC.n (by unfold STG CTG; omega) h2))
      | (cases hs; exact OKC.sg (c0_c (nc _ (by decide)) c) (OKC.sg c h2))
      | (cases hs; exact OKC.n (by unfold STG CTG; omega) (OKC.n (by unfold STG CTG; omega) (OKC.n (by unfold STG CTG; omega) h2)))
      | (cases hs; exact OKC.n (by unfold STG CTG; omega) (OKC.n (by unfold STG CTG; omega) (OKC.sg (c0_c (nc _ (by decide)) c) (OKC.sg c h2))))
      | (cases hs; exact OKC.n (by unfold STG CTG; omega) (OKC.n (by unfold STG CTG; omega) (OKC.n (by unfold STG CTG; omega) (OKC.sg (c0_c (nc _ (by decide)) c) (OKC.n (by unfold STG CTG; omega) h2)))))
      | (cases hs; exact OKC.n (by unfold STG CTG; omega) (OKC.sg (c0_c (nc _ (by decide)) c) (OKC.n (by unfold STG CTG; omega) h2)))
      | (cases hs; exact OKC.sg (c0_c (nc _ (by decide)) (c0_c (nc _ (by decide)) c)) (OKC.n (by unfold STG CTG; omega) (OKC.sg c h2)))
      | (exfalso; revert g; unfold STG CTG; omega)
  · unfold stk at hs
    split at hs
    all_goals (repeat' split at hs)
    all_goals first
      | (cases hs; done)
      | (cases hs; exact h2)
      | (cases hs; exact OKC.n (by unfold STG CTG; omega) h2)
      | (cases hs; exact OKC.n (by unfold STG CTG; omega) (OKC.n (by unfold STG CTG; omega) h2))
      | (cases hs; exact OKC.n (by unfold STG CTG; omega) (OKC.n (by unfold STG CTG; omega) (OKC.n (by unfold STG CTG; omega) h2)))
      | (exfalso; apply g; unfold STG CTG; omega)
end OKCS
def n9T (S : List Int) : Nat := (S.filter (fun e => e = 9)).length
def ncT (K : List Nat) : Nat := (K.filter (fun k => k = 26 ∨ k = 27 ∨ k = 38)).length
section N9S
variable {k : Nat} {K : List Nat} {S S' : List Int}
theorem n9_c {e : Int} : n9T (e :: S) = (if e = 9 then 1 else 0) + n9T S := by
  unfold n9T
  by_cases z : e = 9
  · rw [if_pos z, List.filter_cons_of_pos (by simpa using z), List.length_cons]; omega
  · rw [if_neg z, List.filter_cons_of_neg (by simpa using z)]; omega
theorem nc_c : ncT (k :: K) = (if k = 26 ∨ k = 27 ∨ k = 38 then 1 else 0) + ncT K := by
  unfold ncT
  by_cases z : k = 26 ∨ k = 27 ∨ k = 38
  · rw [if_pos z, List.filter_cons_of_pos (by simpa using z), List.length_cons]; omega
  · rw [if_neg z, List.filter_cons_of_neg (by simpa using z)]; omega
theorem nc_0 (h : C0T K) : ncT K = 0 := by
  induction K with
  | nil => rfl
  | cons k K ih =>
    rw [nc_c, ih (fun y hy => h y (List.mem_cons_of_mem _ hy)), if_neg (fun z => h k List.mem_cons_self (by unfold CTG; omega))]
theorem n9_k (h : cnT k S = some S') : n9T S = (if k = 26 ∨ k = 27 ∨ k = 38 then 1 else 0) + n9T S' := by
  by_cases k51 : k = 51
  · subst k51
    cases S with
    | nil => exact absurd h (by simp [cnT])
    | cons e S =>
      have h : (if e = 2 then some (3 :: S) else if e = 6 then some (7 :: S) else if e ∈ [0, 1, 3, 10, 11] then some S else none) = some S' := h
      rw [if_neg (by decide), n9_c]
      by_cases a : e = 2
      · rw [if_pos a] at h; rw [← Option.some.inj h, n9_c, if_neg (by omega), if_neg (by decide)]; omega
      · rw [if_neg a] at h
        by_cases b : e = 6
        · rw [if_pos b] at h; rw [← Option.some.inj h, n9_c, if_neg (by omega), if_neg (by decide)]; omega
        · rw [if_neg b] at h
          by_cases c : e ∈ [0, 1, 3, 10, 11]
          · rw [if_pos c] at h
            simp only [List.mem_cons, List.not_mem_nil, or_false] at c
            rw [← Option.some.inj h, if_neg (by omega)]
          · rw [if_neg c] at h; exact absurd h (by simp)
  by_cases k52 : k = 52
  · subst k52
    cases S with
    | nil => exact absurd h (by simp [cnT])
    | cons e S =>
      have h : (if e = 5 then some (6 :: S) else if e = 4 then some (3 :: S) else if e ∈ [7, 8] then some S else none) = some S' := h
      rw [if_neg (by decide), n9_c]
      by_cases a : e = 5
      · rw [if_pos a] at h; rw [← Option.some.inj h, n9_c, if_neg (by omega), if_neg (by decide)]; omega
      · rw [if_neg a] at h
        by_cases b : e = 4
        · rw [if_pos b] at h; rw [← Option.some.inj h, n9_c, if_neg (by omega), if_neg (by decide)]; omega
        · rw [if_neg b] at h
          by_cases c : e ∈ [7, 8]
          · rw [if_pos c] at h
            simp only [List.mem_cons, List.not_mem_nil, or_false] at c
            rw [← Option.some.inj h, if_neg (by omega)]
          · rw [if_neg c] at h; exact absurd h (by simp)
  by_cases k24 : k = 24
  · subst k24
    rw [cnP_1 h, n9_c, if_neg (by decide), if_neg (by decide)]
  by_cases k25 : k = 25
  · subst k25
    rw [cnP_1 h, n9_c, if_neg (by decide), if_neg (by decide)]
  by_cases k9 : k = 26 ∨ k = 27 ∨ k = 38
  · have h9 : cnP [9] S = some S' := by
      unfold cnT at h
      rw [if_neg k51, if_neg k52, if_neg k24, if_neg k25, if_pos k9] at h
      exact h
    rw [cnP_1 h9, n9_c, if_pos rfl, if_pos k9]
  by_cases k35 : k = 30 ∨ k = 31 ∨ k = 32 ∨ k = 33 ∨ k = 35 ∨ k = 36
  · cases S with
    | nil =>
      have h : some [] = some S' := by rcases k35 with rfl | rfl | rfl | rfl | rfl | rfl <;> exact h
      rw [← Option.some.inj h, if_neg k9]; rfl
    | cons e S => rcases k35 with rfl | rfl | rfl | rfl | rfl | rfl <;> exact absurd h (by simp [cnT])
  · rw [cnT_n (by omega)] at h
    rw [Option.some.inj h, if_neg k9]; omega
theorem n9_r : ∀ (K : List Nat) {S S' : List Int}, rnT K S = some S' → n9T S = ncT K + n9T S'
  | [], S, S', h => by
    have h : some S = some S' := h
    rw [Option.some.inj h]
    show _ = 0 + _
    omega
  | k :: K, S, S', h => by
    obtain ⟨S1, h1, h2⟩ := rnT_ex h
    rw [n9_k h1, nc_c, n9_r K h2]
    omega
theorem n9_z (h : n9T S = 0) : ∀ e ∈ S, e ≠ 9 := fun e he z => by
  have q : e ∈ S.filter (fun e => e = 9) := List.mem_filter.mpr ⟨he, by simpa using z⟩
  have w : S.filter (fun e => e = 9) = [] := List.eq_nil_of_length_eq_zero h
  rw [w] at q
  exact absurd q List.not_mem_nil
end N9S
end
