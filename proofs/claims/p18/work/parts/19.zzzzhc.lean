section
def S8T (k : Nat) : Prop := k = 20 ∨ k = 21 ∨ k = 22 ∨ k = 24 ∨ k = 28 ∨ k = 29 ∨ k = 30 ∨ k = 31 ∨ k = 32 ∨ k = 33 ∨ k = 35 ∨ k = 36
def no9 (S : List Int) : Prop := ∀ z ∈ S, z ≠ 0 ∧ z ≠ 9
def use8 : List Nat → List Int → Prop
  | [], _ => False
  | k :: K, S => 4 < k ∧ ((k = 6 ∨ k = 8 ∨ k = 9 ∨ k = 27) ∨ (k = 51 ∧ ∃ z S', S = z :: S' ∧ (z = 0 ∨ z = 2 ∨ z = 6 ∨ z = 10)) ∨ (k = 52 ∧ ∃ S', S = 8 :: S') ∨ ∃ S', cnT k S = some S' ∧ use8 K S')
def sg8 (k : Nat) (S : List Int) : Prop := S8T k ∨ (k = 51 ∧ ∃ S', S = 3 :: S') ∨ (k = 52 ∧ ∃ z S', S = z :: S' ∧ (z = 4 ∨ z = 5 ∨ z = 7))
def ok8 : List Nat → List Int → Prop
  | [], _ => True
  | k :: K, S => (sg8 k S → no9 S ∧ ∀ S', cnT k S = some S' → ¬ use8 K S') ∧ ∀ S', cnT k S = some S' → ok8 K S'
section OK8
variable {k : Nat} {K : List Nat} {S S1 S' : List Int} {z : Int}
theorem no9_c (h : no9 S) (h0 : z ≠ 0 ∧ z ≠ 9) : no9 (z :: S) := fun y hy => (List.mem_cons.mp hy).elim (fun e => by rw [e]; exact h0) (h y)
theorem no9_t (h : no9 (z :: S)) : no9 S := fun y hy => h y (List.mem_cons_of_mem _ hy)
theorem us_lo (h : k ≤ 4) : ¬ use8 (k :: K) S := fun z => by have := z.1; omega
theorem us_n (h4 : 4 < k) (h6 : ¬ (k = 6 ∨ k = 8 ∨ k = 9)) (n : ¬ (k = 51 ∨ k = 52 ∨ k = 24 ∨ k = 25 ∨ k = 26 ∨ k = 27 ∨ k = 38 ∨ k = 30 ∨ k = 31 ∨ k = 32 ∨ k = 33 ∨ k = 35 ∨ k = 36)) : use8 (k :: K) S ↔ use8 K S := by
  constructor
  · rintro ⟨-, a | ⟨a, -⟩ | ⟨a, -⟩ | ⟨S', a, b⟩⟩
    · omega
    · omega
    · omega
    · rw [cnT_n n] at a
      obtain rfl := Option.some.inj a
      exact b
  · exact fun a => ⟨h4, Or.inr (Or.inr (Or.inr ⟨S, cnT_n n, a⟩))⟩
theorem c51_p (h : z = 0 ∨ z = 1 ∨ z = 3 ∨ z = 10 ∨ z = 11) : cnT 51 (z :: S) = some S := by
  show (if z = 2 then some (3 :: S) else if z = 6 then some (7 :: S) else if z ∈ [0, 1, 3, 10, 11] then some S else none) = some S
  rw [if_neg (by omega), if_neg (by omega), if_pos (by simp only [List.mem_cons, List.not_mem_nil, or_false]; exact h)]
theorem c51_2 : cnT 51 (2 :: S) = some (3 :: S) := rfl
theorem c51_6 : cnT 51 (6 :: S) = some (7 :: S) := rfl
theorem c52_5 : cnT 52 (5 :: S) = some (6 :: S) := rfl
theorem c52_4 : cnT 52 (4 :: S) = some (3 :: S) := rfl
theorem c52_7 : cnT 52 (7 :: S) = some S := rfl
theorem c52_8 : cnT 52 (8 :: S) = some S := rfl
theorem us_c (c : cnT k S = some S1) (h6 : ¬ (k = 6 ∨ k = 8 ∨ k = 9 ∨ k = 27)) (h51 : k = 51 → ∀ z S', S = z :: S' → ¬ (z = 0 ∨ z = 2 ∨ z = 6 ∨ z = 10)) (h52 : k = 52 → ∀ S', S ≠ 8 :: S') (u : use8 (k :: K) S) : use8 K S1 := by
  obtain ⟨-, a | ⟨a, z, S', b, d⟩ | ⟨a, S', b⟩ | ⟨S', a, b⟩⟩ := u
  · exact absurd a h6
  · exact absurd d (h51 a z S' b)
  · exact absurd b (h52 a S')
  · rw [c] at a
    obtain rfl := Option.some.inj a
    exact b
theorem us_51 (h : z = 1 ∨ z = 3 ∨ z = 11) (u : use8 (51 :: K) (z :: S)) : use8 K S := us_c (c51_p (by omega)) (by decide) (fun _ y S' e => by have := (List.cons.inj e).1; omega) (fun a => by omega) u
theorem us_52 (c : cnT 52 (z :: S) = some S1) (h : z ≠ 8) (u : use8 (52 :: K) (z :: S)) : use8 K S1 := us_c c (by decide) (fun a => by omega) (fun _ S' e => h (List.cons.inj e).1) u
theorem us_p (c : cnT k S = some S1) (h : k = 24 ∨ k = 25 ∨ k = 26 ∨ k = 38 ∨ k = 30 ∨ k = 31 ∨ k = 32 ∨ k = 33 ∨ k = 35 ∨ k = 36) (u : use8 (k :: K) S) : use8 K S1 := us_c c (by omega) (fun a => by omega) (fun a => by omega) u
theorem us_i (c : cnT k S = some S1) (h4 : 4 < k) (u : use8 K S1) : use8 (k :: K) S := ⟨h4, Or.inr (Or.inr (Or.inr ⟨S1, c, u⟩))⟩
theorem ok_c (c : cnT k S = some S1) (hs : sg8 k S → no9 S ∧ ¬ use8 K S1) (h : ok8 K S1) : ok8 (k :: K) S := by
  refine ⟨fun a => ⟨(hs a).1, fun S' e => ?_⟩, fun S' e => ?_⟩
  · rw [c] at e
    obtain rfl := Option.some.inj e
    exact (hs a).2
  · rw [c] at e
    obtain rfl := Option.some.inj e
    exact h
theorem ok_n (n : ¬ (k = 51 ∨ k = 52 ∨ k = 24 ∨ k = 25 ∨ k = 26 ∨ k = 27 ∨ k = 38 ∨ k = 30 ∨ k = 31 ∨ k = 32 ∨ k = 33 ∨ k = 35 ∨ k = 36)) (h : ok8 K S) (hs : S8T k → no9 S ∧ ¬ use8 K S) : ok8 (k :: K) S := ok_c (cnT_n n) (fun a => by
  rcases a with a | ⟨a, -⟩ | ⟨a, -⟩
  · exact hs a
  · omega
  · omega) h
theorem ok_x (c : cnT k S = some S1) (h : k = 25 ∨ k = 26 ∨ k = 27 ∨ k = 38) (g : ok8 K S1) : ok8 (k :: K) S := ok_c c (fun a => by
  rcases a with a | ⟨a, -⟩ | ⟨a, -⟩
  · unfold S8T at a; omega
  · omega
  · omega) g
theorem ok_51 (c : cnT 51 (z :: S) = some S1) (h3 : z = 3 → no9 S ∧ ¬ use8 K S1) (g : ok8 K S1) : ok8 (51 :: K) (z :: S) := ok_c c (fun a => by
  rcases a with a | ⟨-, S', e⟩ | ⟨a, -⟩
  · unfold S8T at a; omega
  · obtain ⟨e1, -⟩ := List.cons.inj e
    exact ⟨no9_c (h3 e1).1 (by omega), (h3 e1).2⟩
  · omega) g
theorem ok_52 (c : cnT 52 (z :: S) = some S1) (h4 : z = 4 ∨ z = 5 ∨ z = 7 → no9 S ∧ ¬ use8 K S1) (g : ok8 K S1) : ok8 (52 :: K) (z :: S) := ok_c c (fun a => by
  rcases a with a | ⟨a, -⟩ | ⟨-, y, S', e, d⟩
  · unfold S8T at a; omega
  · omega
  · obtain ⟨e1, -⟩ := List.cons.inj e
    rw [← e1] at d
    exact ⟨no9_c (h4 d).1 (by omega), (h4 d).2⟩) g
theorem ok_d (h : ok8 (k :: K) S) (c : cnT k S = some S1) : ok8 K S1 ∧ (sg8 k S → no9 S ∧ ¬ use8 K S1) := ⟨h.2 S1 c, fun a => ⟨(h.1 a).1, (h.1 a).2 S1 c⟩⟩
end OK8
section OK9
variable {s : Int → Int} {nm : Int → Int64 → Int} {rn : Int64 → Int} {tb : Int → Int} {k : Nat} {K : List Nat} {t : TK} {x : Int × Int × Int} {q : QR} {r : List Nat × TK × (Int × Int × Int) × QR × List EV} {m : MK} {S S' : List Int} {e : ME} {S0 : List ME}
def OS8 (k : Nat) (K K2 : List Nat) (S S2 : List Int) : Prop := ok8 K2 S2 ∧ (use8 K2 S2 → k = 1 ∨ (k = 51 ∧ ∃ S', S = 0 :: S') ∨ (use8 (k :: K) S ∧ ¬ (50 < k ∧ sg8 k S)))
theorem os_no {K2 : List Nat} {S2 : List Int} (h : ok8 K2 S2) (u : ¬ use8 K2 S2) : OS8 k K K2 S S2 := ⟨h, fun a => absurd a u⟩
theorem os_k {K2 : List Nat} {S2 : List Int} (h : ok8 K2 S2) (hk : k ≤ 50) (u : use8 K2 S2 → use8 (k :: K) S) : OS8 k K K2 S S2 := ⟨h, fun a => Or.inr (Or.inr ⟨u a, fun z => by have := z.1; omega⟩)⟩
theorem ok8_st (h : ok8 (k :: K) (tyS m.S)) (hc : cnT k (tyS m.S) = some S') (hs : stk s k t x q = some r) : OS8 k K (r.1 ++ K) (tyS m.S) (tyS (mkk s nm rn tb k t q m).S) := by
  obtain ⟨hK, hg⟩ := ok_d h hc
  have nt : ¬ (k = 51 ∨ k = 52 ∨ k = 24 ∨ k = 25 ∨ k = 26 ∨ k = 27 ∨ k = 38 ∨ k = 30 ∨ k = 31 ∨ k = 32 ∨ k = 33 ∨ k = 35 ∨ k = 36) → S' = tyS m.S := fun n => by rw [cnT_n n] at hc; exact (Option.some.inj hc).symm
  by_cases k0 : k = 0
  · subst k0
    rw [nt (by decide)] at hK
    by_cases z : sgn t 45
    · obtain rfl := Option.some.inj (hs.symm.trans (if_pos z))
      rw [show mkk s nm rn tb 0 t q m = m.push (0, 2, 1, [(0, 0)]) from if_pos z]
      show OS8 0 K (1 :: 51 :: K) (tyS m.S) (0 :: tyS m.S)
      exact os_no (ok_n (by decide) (ok_51 (c51_p (Or.inl rfl)) (fun a => by omega) hK) (fun a => by unfold S8T at a; omega)) (us_lo (by decide))
    · obtain rfl := Option.some.inj (hs.symm.trans (if_neg z))
      rw [show mkk s nm rn tb 0 t q m = m from if_neg z]
      show OS8 0 K (1 :: K) (tyS m.S) (tyS m.S)
      exact os_no (ok_n (by decide) hK (fun a => by unfold S8T at a; omega)) (us_lo (by decide))
  by_cases k1 : k = 1
  · subst k1
    rw [nt (by decide)] at hK
    have eS : (mkk s nm rn tb 1 t q m).S = m.S := by
      show (if t.2.2.1 = 3 then m.sP 1 t.2.2.2.1 else if nam t then m.sP 2 (nm m.rt t.2.2.2.2) else m).S = m.S
      repeat' split
      all_goals rfl
    rw [eS]
    by_cases z : t.2.2.1 = 3 ∨ nam t
    · obtain rfl := Option.some.inj (hs.symm.trans (if_pos z))
      exact ⟨hK, fun _ => Or.inl rfl⟩
    · by_cases y : sgn t 40
      · obtain rfl := Option.some.inj (hs.symm.trans ((if_neg z).trans (if_pos y)))
        show OS8 1 K (2 :: 141 :: K) (tyS m.S) (tyS m.S)
        exact os_no (ok_n (by decide) (ok_n (by decide) hK (fun a => by unfold S8T at a; omega)) (fun a => by unfold S8T at a; omega)) (us_lo (by decide))
      · exact absurd (hs.symm.trans ((if_neg z).trans (if_neg y))) (by simp)
  have rg : ∀ (k2 : Nat), k2 = 3 ∨ k2 = 4 ∨ k2 = 0 → ∀ (y z : Int) (k3 : Nat), y = 0 → (k3 = 7 ∨ k3 = 8 ∨ k3 = 9) → ok8 K (tyS m.S) → ok8 (k2 :: 51 :: k3 :: K) (y :: tyS m.S) := fun k2 h2 y z k3 hy h3 g => by
    refine ok_n (by omega) ?_ (fun a => by unfold S8T at a; omega)
    rw [hy]
    exact ok_51 (c51_p (Or.inl rfl)) (fun a => by omega) (ok_n (by omega) g (fun a => by unfold S8T at a; omega))
  by_cases k6 : k = 6
  · subst k6
    rw [nt (by decide)] at hK
    by_cases z : sgn t 61
    · obtain rfl := Option.some.inj (hs.symm.trans (if_pos (Or.inl z)))
      rw [show mkk s nm rn tb 6 t q m = m.push (0, 4, m.pk, [(m.pv, 0)]) from if_pos z]
      show OS8 6 K (3 :: 51 :: 7 :: K) (tyS m.S) (0 :: tyS m.S)
      exact os_no (rg 3 (by decide) 0 0 7 rfl (by decide) hK) (us_lo (by decide))
    · by_cases y : sgn t 60
      · obtain rfl := Option.some.inj (hs.symm.trans (if_pos (Or.inr y)))
        rw [show mkk s nm rn tb 6 t q m = m.push (0, 5, m.pk, [(m.pv, 0)]) from (if_neg z).trans (if_pos y)]
        show OS8 6 K (3 :: 51 :: 7 :: K) (tyS m.S) (0 :: tyS m.S)
        exact os_no (rg 3 (by decide) 0 0 7 rfl (by decide) hK) (us_lo (by decide))
      · obtain rfl := Option.some.inj (hs.symm.trans (if_neg (fun o => o.elim z y)))
        rw [show mkk s nm rn tb 6 t q m = m from (if_neg z).trans (if_neg y)]
        show OS8 6 K (7 :: K) (tyS m.S) (tyS m.S)
        exact os_k (ok_n (by decide) hK (fun a => by unfold S8T at a; omega)) (by decide) (fun _ => ⟨by decide, Or.inl (Or.inl rfl)⟩)
  by_cases k8 : k = 8
  · subst k8
    rw [nt (by decide)] at hK
    by_cases z : sgn t 43
    · obtain rfl := Option.some.inj (hs.symm.trans (if_pos (Or.inl z)))
      rw [show mkk s nm rn tb 8 t q m = m.push (0, 1, m.pk, [(m.pv, 0)]) from if_pos z]
      show OS8 8 K (4 :: 51 :: 8 :: K) (tyS m.S) (0 :: tyS m.S)
      exact os_no (rg 4 (by decide) 0 0 8 rfl (by decide) hK) (us_lo (by decide))
    · by_cases y : sgn t 45
      · obtain rfl := Option.some.inj (hs.symm.trans (if_pos (Or.inr y)))
        rw [show mkk s nm rn tb 8 t q m = m.push (0, 2, m.pk, [(m.pv, 0)]) from (if_neg z).trans (if_pos y)]
        show OS8 8 K (4 :: 51 :: 8 :: K) (tyS m.S) (0 :: tyS m.S)
        exact os_no (rg 4 (by decide) 0 0 8 rfl (by decide) hK) (us_lo (by decide))
      · obtain rfl := Option.some.inj (hs.symm.trans (if_neg (fun o => o.elim z y)))
        rw [show mkk s nm rn tb 8 t q m = m from (if_neg z).trans (if_neg y)]
        show OS8 8 K K (tyS m.S) (tyS m.S)
        exact os_k hK (by decide) (fun _ => ⟨by decide, Or.inl (Or.inr (Or.inl rfl))⟩)
  by_cases k9 : k = 9
  · subst k9
    rw [nt (by decide)] at hK
    by_cases z : sgn t 42
    · obtain rfl := Option.some.inj (hs.symm.trans (if_pos z))
      rw [show mkk s nm rn tb 9 t q m = m.push (0, 3, m.pk, [(m.pv, 0)]) from if_pos z]
      show OS8 9 K (0 :: 51 :: 9 :: K) (tyS m.S) (0 :: tyS m.S)
      exact os_no (rg 0 (by decide) 0 0 9 rfl (by decide) hK) (us_lo (by decide))
    · obtain rfl := Option.some.inj (hs.symm.trans (if_neg z))
      rw [show mkk s nm rn tb 9 t q m = m from if_neg z]
      show OS8 9 K K (tyS m.S) (tyS m.S)
      exact os_k hK (by decide) (fun _ => ⟨by decide, Or.inl (Or.inr (Or.inr (Or.inl rfl)))⟩)
  by_cases k20 : k = 20
  · subst k20
    rw [nt (by decide)] at hK hg
    obtain ⟨g9, gu⟩ := hg (Or.inl (Or.inl rfl))
    have q1 : ∀ y : Nat, y = 21 ∨ y = 39 ∨ y = 23 → OS8 20 K (51 :: y :: K) (tyS m.S) (1 :: tyS m.S) := fun y hy => by
      refine os_no (ok_51 (c51_p (Or.inr (Or.inl rfl))) (fun a => by omega) (ok_n (by omega) hK (fun _ => ⟨g9, gu⟩))) (fun u => gu ?_)
      exact (us_n (by omega) (by omega) (by omega)).mp (us_51 (Or.inl rfl) u)
    by_cases z : wrd t 512852847717
    · obtain rfl := Option.some.inj (hs.symm.trans (if_pos z))
      rw [show mkk s nm rn tb 20 t q m = m.stm from if_pos z]
      show OS8 20 K (22 :: K) (tyS m.S) (tyS m.S)
      exact os_no (ok_n (by decide) hK (fun _ => ⟨g9, gu⟩)) (fun u => gu ((us_n (by decide) (by decide) (by decide)).mp u))
    · rw [show mkk s nm rn tb 20 t q m = m.stm.push (1, 0, 0, []) from if_neg z]
      by_cases y : wrd t 26982
      · obtain rfl := Option.some.inj (hs.symm.trans ((if_neg z).trans (if_pos y)))
        exact q1 21 (by decide)
      · by_cases u : wrd t 7304564 ∨ wrd t 125780071117422
        · obtain rfl := Option.some.inj (hs.symm.trans (((if_neg z).trans (if_neg y)).trans (if_pos u)))
          exact q1 39 (by decide)
        · by_cases v : nam t
          · obtain rfl := Option.some.inj (hs.symm.trans ((((if_neg z).trans (if_neg y)).trans (if_neg u)).trans (if_pos v)))
            exact q1 23 (by decide)
          · exact absurd (hs.symm.trans ((((if_neg z).trans (if_neg y)).trans (if_neg u)).trans (if_neg v))) (by simp)
  by_cases k21 : k = 21
  · subst k21
    rw [nt (by decide)] at hK hg
    obtain ⟨g9, gu⟩ := hg (Or.inl (Or.inr (Or.inl rfl)))
    obtain rfl := Option.some.inj (hs.symm.trans rfl)
    show OS8 21 K (2 :: 51 :: 28 :: 24 :: K) (tyS m.S) (2 :: tyS m.S)
    have c24 : cnT 24 (3 :: tyS m.S) = some (tyS m.S) := rfl
    have g3 : no9 (3 :: tyS m.S) := no9_c g9 (by decide)
    refine os_no (ok_n (by decide) (ok_51 c51_2 (fun a => by omega) (ok_n (by decide) (ok_c c24 (fun _ => ⟨g3, gu⟩) hK) (fun _ => ⟨g3, fun u => gu (us_p c24 (Or.inl rfl) u)⟩))) (fun a => by unfold S8T at a; omega)) (us_lo (by decide))
  by_cases k22 : k = 22
  · subst k22
    rw [nt (by decide)] at hK hg
    obtain ⟨g9, gu⟩ := hg (Or.inl (Or.inr (Or.inr (Or.inl rfl))))
    obtain rfl := Option.some.inj (hs.symm.trans rfl)
    show OS8 22 K (52 :: 2 :: 51 :: 28 :: 52 :: K) (tyS m.S) (5 :: tyS m.S)
    have g7 : no9 (7 :: tyS m.S) := no9_c g9 (by decide)
    refine os_no (ok_52 c52_5 (fun _ => ⟨g9, us_lo (by decide)⟩) (ok_n (by decide) (ok_51 c51_6 (fun a => by omega) (ok_n (by decide) (ok_52 c52_7 (fun _ => ⟨g9, gu⟩) hK) (fun _ => ⟨g7, fun u => gu (us_52 c52_7 (by decide) u)⟩))) (fun a => by unfold S8T at a; omega))) (fun u => us_lo (by decide) (us_52 c52_5 (by decide) u))
  by_cases k23 : k = 23
  · subst k23
    rw [nt (by decide)] at hK
    obtain rfl := Option.some.inj (hs.symm.trans rfl)
    show OS8 23 K (161 :: 25 :: K) (tyS m.S) (8 :: tyS m.S)
    have c25 : cnT 25 (8 :: tyS m.S) = some (tyS m.S) := rfl
    exact os_k (ok_n (by decide) (ok_x c25 (Or.inl rfl) hK) (fun a => by unfold S8T at a; omega)) (by decide) (fun u => (us_n (by decide) (by decide) (by decide)).mpr (us_p c25 (Or.inr (Or.inl rfl)) ((us_n (by decide) (by decide) (by decide)).mp u)))
  by_cases k24 : k = 24
  · subst k24
    obtain ⟨g9, gu⟩ := hg (Or.inl (Or.inr (Or.inr (Or.inr (Or.inl rfl)))))
    obtain ⟨e, S0, hS, e3, eL⟩ := ty_c rfl (cnP_1 hc)
    rw [cnP_1 hc] at g9
    by_cases z : wrd t 1701606245
    · obtain rfl := Option.some.inj (hs.symm.trans (if_pos z))
      rw [show mkk s nm rn tb 24 t q m = m.top (fun e => if e.1 = 3 then (4, e.2.1, 0, []) else e) from if_pos z, top_S hS, if_pos e3]
      show OS8 24 K (52 :: 28 :: 51 :: K) (tyS m.S) (4 :: tyS S0)
      rw [eL]
      have u1 : ¬ use8 (51 :: K) (3 :: S') := fun u => gu (us_51 (Or.inr (Or.inl rfl)) u)
      have u2 : ¬ use8 (28 :: 51 :: K) (3 :: S') := fun u => u1 ((us_n (by decide) (by decide) (by decide)).mp u)
      exact os_no (ok_52 c52_4 (fun _ => ⟨no9_t g9, u2⟩) (ok_n (by decide) (ok_51 (c51_p (Or.inr (Or.inr (Or.inl rfl)))) (fun _ => ⟨no9_t g9, gu⟩) hK) (fun _ => ⟨g9, u1⟩))) (fun u => u2 (us_52 c52_4 (by decide) u))
    · obtain rfl := Option.some.inj (hs.symm.trans (if_neg z))
      rw [show mkk s nm rn tb 24 t q m = m from if_neg z]
      show OS8 24 K (51 :: K) (tyS m.S) (tyS m.S)
      rw [cnP_1 hc]
      exact os_no (ok_51 (c51_p (Or.inr (Or.inr (Or.inl rfl)))) (fun _ => ⟨no9_t g9, gu⟩) hK) (fun u => gu (us_51 (Or.inr (Or.inl rfl)) u))
  by_cases k25 : k = 25
  · subst k25
    obtain ⟨e, S0, hS, e8, eL⟩ := ty_c rfl (cnP_1 hc)
    have old : use8 K S' → use8 (25 :: K) (tyS m.S) := fun u => us_i hc (by decide) u
    have two : OS8 25 K (2 :: 52 :: 159 :: K) (tyS m.S) (8 :: S') := os_no (ok_n (by decide) (ok_52 c52_8 (fun a => by omega) (ok_n (by decide) hK (fun a => by unfold S8T at a; omega))) (fun a => by unfold S8T at a; omega)) (us_lo (by decide))
    by_cases z : nam t
    · by_cases y : sgn (advT s t.2.1) 40
      · obtain rfl := Option.some.inj (hs.symm.trans ((if_pos z).trans (if_pos y)))
        rw [show mkk s nm rn tb 25 t q m = m.top (fun e => if e.1 = 8 then (9, e.2.1, 0, []) else e) from if_pos ⟨z, y⟩, top_S hS, if_pos e8]
        show OS8 25 K (26 :: 159 :: K) (tyS m.S) (9 :: tyS S0)
        rw [eL]
        have c26 : cnT 26 (9 :: S') = some S' := rfl
        exact os_k (ok_x c26 (Or.inr (Or.inl rfl)) (ok_n (by decide) hK (fun a => by unfold S8T at a; omega))) (by decide) (fun u => old ((us_n (by decide) (by decide) (by decide)).mp (us_p c26 (Or.inr (Or.inr (Or.inl rfl))) u)))
      · obtain rfl := Option.some.inj (hs.symm.trans ((if_pos z).trans (if_neg y)))
        rw [show mkk s nm rn tb 25 t q m = m from if_neg (fun o => y o.2)]
        show OS8 25 K (2 :: 52 :: 159 :: K) (tyS m.S) (tyS m.S)
        have e2 := cnP_1 hc
        rw [e2] at two ⊢
        exact two
    · obtain rfl := Option.some.inj (hs.symm.trans (if_neg z))
      rw [show mkk s nm rn tb 25 t q m = m from if_neg (fun o => z o.1)]
      show OS8 25 K (2 :: 52 :: 159 :: K) (tyS m.S) (tyS m.S)
      have e2 := cnP_1 hc
      rw [e2] at two ⊢
      exact two
  have c38 : cnT 38 (9 :: S') = some S' := rfl
  by_cases k26 : k = 26
  · subst k26
    rw [mkk_df (by decide)]
    have e2 := cnP_1 hc
    by_cases z : sgn (advT s t.2.1) 41
    · obtain rfl := Option.some.inj (hs.symm.trans (if_pos z))
      show OS8 26 K (38 :: 141 :: K) (tyS m.S) (tyS m.S)
      refine os_k ?_ (by decide) (fun u => us_i hc (by decide) ?_)
      · rw [e2]; exact ok_x c38 (Or.inr (Or.inr (Or.inr rfl))) (ok_n (by decide) hK (fun a => by unfold S8T at a; omega))
      · rw [e2] at u
        exact (us_n (by decide) (by decide) (by decide)).mp (us_p c38 (Or.inr (Or.inr (Or.inr (Or.inl rfl)))) u)
    · obtain rfl := Option.some.inj (hs.symm.trans (if_neg z))
      show OS8 26 K (2 :: 27 :: K) (tyS m.S) (tyS m.S)
      refine os_no ?_ (us_lo (by decide))
      rw [e2]
      exact ok_n (by decide) (ok_x (show cnT 27 (9 :: S') = some S' from rfl) (Or.inr (Or.inr (Or.inl rfl))) hK) (fun a => by unfold S8T at a; omega)
  by_cases k27 : k = 27
  · subst k27
    obtain ⟨e, S0, hS, e9, eL⟩ := ty_c rfl (cnP_1 hc)
    rw [show mkk s nm rn tb 27 t q m = m.top (fun e => if e.1 = 9 then (9, e.2.1, 0, e.2.2.2 ++ [(m.pk, m.pv)]) else e) from rfl, top_S hS, if_pos e9]
    by_cases z : sgn t 44
    · obtain rfl := Option.some.inj (hs.symm.trans (if_pos z))
      show OS8 27 K (2 :: 27 :: K) (tyS m.S) (9 :: tyS S0)
      rw [eL]
      exact os_no (ok_n (by decide) (ok_x (show cnT 27 (9 :: S') = some S' from rfl) (Or.inr (Or.inr (Or.inl rfl))) hK) (fun a => by unfold S8T at a; omega)) (us_lo (by decide))
    · obtain rfl := Option.some.inj (hs.symm.trans (if_neg z))
      show OS8 27 K (38 :: 141 :: K) (tyS m.S) (9 :: tyS S0)
      rw [eL]
      exact os_k (ok_x c38 (Or.inr (Or.inr (Or.inr rfl))) (ok_n (by decide) hK (fun a => by unfold S8T at a; omega))) (by decide) (fun _ => ⟨by decide, Or.inl (Or.inr (Or.inr (Or.inr rfl)))⟩)
  by_cases k35 : k = 35
  · subst k35
    obtain rfl := Option.some.inj (hs.symm.trans rfl)
    have e0 : S' = [] := by
      cases e : tyS m.S with
      | nil => rw [e] at hc; exact (Option.some.inj hc).symm
      | cons z L => rw [e] at hc; exact absurd hc (by simp [cnT])
    obtain ⟨g9, gu⟩ := hg (Or.inl (by unfold S8T; omega))
    rw [e0] at hK gu
    show OS8 35 K (28 :: 51 :: 34 :: K) (tyS m.S) [11]
    have g11 : no9 [11] := fun y hy => by rw [List.mem_singleton.mp hy]; decide
    have u1 : ¬ use8 (51 :: 34 :: K) [11] := fun u => gu ((us_n (by decide) (by decide) (by decide)).mp (us_51 (Or.inr (Or.inr rfl)) u))
    exact os_no (ok_n (by decide) (ok_51 (c51_p (by decide)) (fun a => by omega) (ok_n (by decide) hK (fun a => by unfold S8T at a; omega))) (fun _ => ⟨g11, u1⟩)) (fun u => u1 ((us_n (by decide) (by decide) (by decide)).mp u))
  by_cases k38 : k = 38
  · subst k38
    obtain rfl := Option.some.inj (hs.symm.trans rfl)
    obtain ⟨e, S0, hS, e9, eL⟩ := ty_c rfl (cnP_1 hc)
    rw [show mkk s nm rn tb 38 t q m = m.cal rn q.1 from rfl, cal_S hS e9, eL]
    exact os_k hK (by decide) (fun u => us_i hc (by decide) u)
  by_cases k39 : k = 39
  · subst k39
    rw [nt (by decide)] at hK
    obtain rfl := Option.some.inj (hs.symm.trans rfl)
    have e2 : tyS (mkk s nm rn tb 39 t q m).S = 10 :: tyS m.S := by
      by_cases z : wrd t 7304564
      · rw [show mkk s nm rn tb 39 t q m = m.push (10, 6, 0, []) from if_pos z]; rfl
      · rw [show mkk s nm rn tb 39 t q m = m.push (10, 7, 0, []) from if_neg z]; rfl
    rw [e2]
    show OS8 39 K (2 :: 51 :: 159 :: K) (tyS m.S) (10 :: tyS m.S)
    exact os_no (ok_n (by decide) (ok_51 (c51_p (by decide)) (fun a => by omega) (ok_n (by decide) hK (fun a => by unfold S8T at a; omega))) (fun a => by unfold S8T at a; omega)) (us_lo (by decide))
  by_cases k51 : k = 51
  · subst k51
    obtain rfl := Option.some.inj (hs.symm.trans rfl)
    show OS8 51 K K (tyS m.S) (tyS (m.one tb).S)
    rw [rnT_51 hc]
    refine ⟨hK, fun u => ?_⟩
    by_cases c : ∃ S', tyS m.S = 0 :: S'
    · exact Or.inr (Or.inl ⟨rfl, c⟩)
    · exact Or.inr (Or.inr ⟨us_i hc (by decide) u, fun z => (hg z.2).2 u⟩)
  by_cases k52 : k = 52
  · subst k52
    obtain rfl := Option.some.inj (hs.symm.trans rfl)
    show OS8 52 K K (tyS m.S) (tyS m.two.S)
    rw [rnT_52 hc]
    exact ⟨hK, fun u => Or.inr (Or.inr ⟨us_i hc (by decide) u, fun z => (hg z.2).2 u⟩)⟩
  by_cases kr : k = 30 ∨ k = 31 ∨ k = 32 ∨ k = 33 ∨ k = 36
  · -- the head of a routine: nothing is open
    have e0 : tyS m.S = [] ∧ S' = [] := by
      cases e : tyS m.S with
      | nil =>
        rw [e] at hc
        rcases kr with rfl | rfl | rfl | rfl | rfl <;> exact ⟨rfl, (Option.some.inj hc).symm⟩
      | cons z L =>
        rw [e] at hc
        rcases kr with rfl | rfl | rfl | rfl | rfl <;> exact absurd hc (by simp [cnT])
    obtain ⟨g9, gu⟩ := hg (Or.inl (by unfold S8T; omega))
    rw [mkk_df (by omega), e0.1]
    rw [e0.1] at g9
    rw [e0.2] at hK gu
    have c9 : ∀ y : Nat, y = 30 ∨ y = 31 ∨ y = 32 ∨ y = 33 ∨ y = 35 ∨ y = 36 → cnT y [] = some [] := fun y hy => by
      rcases hy with rfl | rfl | rfl | rfl | rfl | rfl <;> rfl
    have one : ∀ y : Nat, y = 30 ∨ y = 31 ∨ y = 32 ∨ y = 33 ∨ y = 35 ∨ y = 36 → ∀ K2 : List Nat, ok8 K2 [] ∧ ¬ use8 K2 [] → ok8 (y :: K2) [] ∧ ¬ use8 (y :: K2) [] := fun y hy K2 a => ⟨ok_c (c9 y hy) (fun _ => ⟨g9, a.2⟩) a.1, fun u => a.2 (us_c (c9 y hy) (by omega) (fun z => by omega) (fun z => by omega) u)⟩
    have oth : ∀ y : Nat, y = 140 ∨ y = 141 → ∀ K2 : List Nat, ok8 K2 [] ∧ ¬ use8 K2 [] → OS8 k K (y :: K2) [] [] := fun y hy K2 a => os_no (ok_n (by omega) a.1 (fun z => by unfold S8T at z; omega)) (fun u => a.2 ((us_n (by omega) (by omega) (by omega)).mp u))
    by_cases k36 : k = 36
    · subst k36
      by_cases z : t.2.2.1 = 0
      · obtain rfl := Option.some.inj (hs.symm.trans (if_pos z))
        exact os_no hK gu
      · obtain rfl := Option.some.inj (hs.symm.trans (if_neg z))
        have o := one 30 (by decide) (36 :: K) (one 36 (by decide) K ⟨hK, gu⟩)
        exact os_no o.1 o.2
    by_cases k30' : k = 30
    · subst k30'
      by_cases z : nam t
      · obtain rfl := Option.some.inj (hs.symm.trans (if_pos z))
        exact oth 140 (Or.inl rfl) (31 :: K) (one 31 (by decide) K ⟨hK, gu⟩)
      · exact absurd (hs.symm.trans (if_neg z)) (by simp)
    by_cases k31 : k = 31
    · subst k31
      by_cases z : sgn t 41
      · obtain rfl := Option.some.inj (hs.symm.trans (if_pos z))
        exact oth 141 (Or.inr rfl) (35 :: K) (one 35 (by decide) K ⟨hK, gu⟩)
      · obtain rfl := Option.some.inj (hs.symm.trans (if_neg z))
        have o := one 32 (by decide) K ⟨hK, gu⟩
        exact os_no o.1 o.2
    by_cases k32 : k = 32
    · subst k32
      by_cases z : nam t
      · obtain rfl := Option.some.inj (hs.symm.trans (if_pos z))
        have o := one 33 (by decide) K ⟨hK, gu⟩
        exact os_no o.1 o.2
      · exact absurd (hs.symm.trans (if_neg z)) (by simp)
    have k33 : k = 33 := by omega
    subst k33
    by_cases z : sgn t 44
    · obtain rfl := Option.some.inj (hs.symm.trans (if_pos z))
      have o := one 32 (by decide) K ⟨hK, gu⟩
      exact os_no o.1 o.2
    · obtain rfl := Option.some.inj (hs.symm.trans (if_neg z))
      exact oth 141 (Or.inr rfl) (35 :: K) (one 35 (by decide) K ⟨hK, gu⟩)
  by_cases k34 : k = 34
  · subst k34
    obtain rfl := Option.some.inj (hs.symm.trans rfl)
    rw [nt (by decide)] at hK
    show OS8 34 K K (tyS m.S) (tyS m.S)
    exact ⟨hK, fun u => Or.inr (Or.inr ⟨(us_n (by decide) (by decide) (by decide)).mpr u, fun z => by have := z.1; omega⟩)⟩
  -- the others change nothing of what is open
  rw [mkk_df (by omega)]
  have eS := nt (by omega)
  rw [eS] at hK hg
  by_cases k28 : k = 28
  · subst k28
    obtain ⟨g9, gu⟩ := hg (Or.inl (by unfold S8T; omega))
    by_cases z : x.2.1 = 6
    · exact absurd (hs.symm.trans (if_pos z)) (by simp)
    · obtain rfl := Option.some.inj (hs.symm.trans (if_neg z))
      show OS8 28 K (223 :: 29 :: K) (tyS m.S) (tyS m.S)
      have u1 : ¬ use8 (29 :: K) (tyS m.S) := fun u => gu ((us_n (by decide) (by decide) (by decide)).mp u)
      exact os_no (ok_n (by decide) (ok_n (by decide) hK (fun _ => ⟨g9, gu⟩)) (fun a => by unfold S8T at a; omega)) (fun u => u1 ((us_n (by decide) (by decide) (by decide)).mp u))
  by_cases k29 : k = 29
  · subst k29
    obtain ⟨g9, gu⟩ := hg (Or.inl (by unfold S8T; omega))
    by_cases z : sgn t 125
    · obtain rfl := Option.some.inj (hs.symm.trans (if_pos z))
      show OS8 29 K (40 :: K) (tyS m.S) (tyS m.S)
      exact os_no (ok_n (by decide) hK (fun a => by unfold S8T at a; omega)) (fun u => gu ((us_n (by decide) (by decide) (by decide)).mp u))
    · obtain rfl := Option.some.inj (hs.symm.trans (if_neg z))
      show OS8 29 K (20 :: 29 :: K) (tyS m.S) (tyS m.S)
      have u1 : ¬ use8 (29 :: K) (tyS m.S) := fun u => gu ((us_n (by decide) (by decide) (by decide)).mp u)
      exact os_no (ok_n (by decide) (ok_n (by decide) hK (fun _ => ⟨g9, gu⟩)) (fun _ => ⟨g9, u1⟩)) (fun u => u1 ((us_n (by decide) (by decide) (by decide)).mp u))
  by_cases k2 : k = 2
  · subst k2
    by_cases z : x.1 = 8
    · exact absurd (hs.symm.trans (if_pos z)) (by simp)
    · obtain rfl := Option.some.inj (hs.symm.trans (if_neg z))
      exact os_no (ok_n (by decide) (ok_n (by decide) hK (fun a => by unfold S8T at a; omega)) (fun a => by unfold S8T at a; omega)) (us_lo (by decide))
  by_cases k3 : k = 3
  · subst k3
    obtain rfl := Option.some.inj (hs.symm.trans rfl)
    exact os_no (ok_n (by decide) (ok_n (by decide) hK (fun a => by unfold S8T at a; omega)) (fun a => by unfold S8T at a; omega)) (us_lo (by decide))
  by_cases k4 : k = 4
  · subst k4
    obtain rfl := Option.some.inj (hs.symm.trans rfl)
    exact os_no (ok_n (by decide) (ok_n (by decide) hK (fun a => by unfold S8T at a; omega)) (fun a => by unfold S8T at a; omega)) (us_lo (by decide))
  -- 7, 34, 40, and a sign that is due: one tag less
  have e1 : r.1 = [] := by
    unfold stk at hs
    split at hs
    all_goals (repeat' split at hs)
    all_goals first
      | exact absurd rfl (by assumption)
      | (exfalso; omega)
      | (cases hs <;> rfl)
  rw [e1]
  refine ⟨hK, fun u => Or.inr (Or.inr ⟨(us_n (by omega) (by omega) (by omega)).mpr u, fun z => ?_⟩)⟩
  rcases z.2 with a | ⟨a, -⟩ | ⟨a, -⟩
  · unfold S8T at a; omega
  · omega
  · omega
end OK9
end
