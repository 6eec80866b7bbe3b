section
def FR8 (N : Int) (V : Int → It) (n g : Int) : Prop := g < N ∨ ∃ j, (0 ≤ j ∧ j < n) ∧ wrT (V j) g ∧ ∀ i, j < i → i < n → V i 0 ≠ 13
def GDV (N : Int) (V : Int → It) (n : Int) : Prop := 0 ≤ n ∧ ∀ i, 0 ≤ i → i < n → V i 0 ≠ 12 → ∀ g, rdI (V i) g → V i 0 ≠ 13 ∧ FR8 N V i g
def OPF (N : Int) (V : Int → It) (n k v : Int) : Prop := k = 2 → FR8 N V n v
def EF8 (N : Int) (V : Int → It) (n : Int) (e : ME) : Prop := (e.1 = 0 → OPF N V n e.2.2.1 ((e.2.2.2.headD (0, 0)).1)) ∧ (e.1 = 9 → ∀ z ∈ e.2.2.2, OPF N V n z.1 z.2)
def BD8 (N : Int) (m : MK) : Prop := GDV N m.V m.n ∧ AR8 m.V m.n ∧ ∀ e ∈ m.S, EF8 N m.V m.n e
section FRS
variable {N n g k v d o a b w ak bk : Int} {V : Int → It} {x : It} {e : ME} {m : MK} {S : List ME} {as : List (Int × Int)}
theorem FR8.up (h : FR8 N V n g) (hx : x 0 ≠ 13) : FR8 N (uZ V n x) (n + 1) g := by
  rcases h with h | ⟨j, j0, j1, j2⟩
  · exact Or.inl h
  · refine Or.inr ⟨j, by omega, by rw [uZ_ne (by omega)]; exact j1, fun i a b => ?_⟩
    by_cases e : i = n
    · rw [e, uZ_eq]; exact hx
    · rw [uZ_ne e]; exact j2 i a (by omega)
theorem FR8.wv (h0 : 0 ≤ n) (h : wrT x g) : FR8 N (uZ V n x) (n + 1) g := Or.inr ⟨n, by omega, by rw [uZ_eq]; exact h, fun i a b => by omega⟩
theorem OPF.up (h : OPF N V n k v) (hx : x 0 ≠ 13) : OPF N (uZ V n x) (n + 1) k v := fun z => (h z).up hx
theorem EF8.up (h : EF8 N V n e) (hx : x 0 ≠ 13) : EF8 N (uZ V n x) (n + 1) e := ⟨fun z => (h.1 z).up hx, fun z y hy => (h.2 z y hy).up hx⟩
theorem ef_o (h0 : e.1 ≠ 0) (h9 : e.1 ≠ 9) : EF8 N V n e := ⟨fun z => absurd z h0, fun z => absurd z h9⟩
theorem GDV.put (h : GDV N V n) (hx : x 0 ≠ 12 → ∀ g, rdI x g → x 0 ≠ 13 ∧ FR8 N V n g) : GDV N (uZ V n x) (n + 1) := by
  refine ⟨by have := h.1; omega, fun i i0 i1 i12 g hr => ?_⟩
  have keep : ∀ i g, i ≤ n → FR8 N V i g → FR8 N (uZ V n x) i g := fun i g a q => by
    rcases q with q | ⟨j, j0, j1, j2⟩
    · exact Or.inl q
    · exact Or.inr ⟨j, j0, by rw [uZ_ne (by omega)]; exact j1, fun y b c => by rw [uZ_ne (by omega)]; exact j2 y b c⟩
  by_cases e : i = n
  · rw [e, uZ_eq] at i12 hr
    rw [e, uZ_eq]
    obtain ⟨a, b⟩ := hx i12 g hr
    exact ⟨a, keep n g (Int.le_refl _) b⟩
  · rw [uZ_ne e] at i12 hr ⊢
    obtain ⟨a, b⟩ := h.2 i i0 (by omega) i12 g hr
    exact ⟨a, keep i g (by omega) b⟩
theorem AR8.put (h : AR8 V n) (hx : x 0 ≠ 10 → x 7 ≠ 2 ∧ x 9 ≠ 2) : AR8 (uZ V n x) (n + 1) := fun i i0 i1 i10 => by
  by_cases e : i = n
  · rw [e, uZ_eq] at i10 ⊢; exact hx i10
  · rw [uZ_ne e] at i10 ⊢; exact h i i0 (by omega) i10
theorem rd_mk (h : rdI (mkI k d o ak a w) g) : ak = 2 ∧ a = g := by
  rcases rdI_iff.mp h with ⟨p, q⟩ | ⟨p, q⟩ | ⟨p, q⟩ | ⟨p, q⟩
  · exact ⟨p, q⟩
  · have p : (0 : Int) = 2 := p
    omega
  · have p : (0 : Int) = 2 := p
    omega
  · have p : (0 : Int) = 2 := p
    omega
theorem rd_it2 (h : rdI (it2 k d ak a bk b) g) : (ak = 2 ∧ a = g) ∨ (bk = 2 ∧ b = g) := by
  rcases rdI_iff.mp h with ⟨p, q⟩ | ⟨p, q⟩ | ⟨p, q⟩ | ⟨p, q⟩
  · exact Or.inl ⟨p, q⟩
  · exact Or.inr ⟨p, q⟩
  · have p : (0 : Int) = 2 := p
    omega
  · have p : (0 : Int) = 2 := p
    omega
theorem arg_in (i : Nat) (h : (argA as i).1 = 2) : argA as i ∈ as := by
  by_cases c : i < as.length
  · exact argA_mem as i c
  · exfalso
    have e : argA as i = (0, 0) := by
      unfold argA
      rw [List.getD_eq_getElem?_getD, List.getElem?_eq_none (by omega)]
      rfl
    rw [e] at h
    have h : (0 : Int) = 2 := h
    omega
theorem rd_itC (h : rdI (itC d o as) g) : ∃ z ∈ as, z.1 = 2 ∧ z.2 = g := by
  rcases rdI_iff.mp h with ⟨p, q⟩ | ⟨p, q⟩ | ⟨p, q⟩ | ⟨p, q⟩
  · exact ⟨argA as 0, arg_in 0 p, p, q⟩
  · exact ⟨argA as 1, arg_in 1 p, p, q⟩
  · exact ⟨argA as 2, arg_in 2 p, p, q⟩
  · exact ⟨argA as 3, arg_in 3 p, p, q⟩
theorem ar_mk : mkI k d o ak a w 0 ≠ 10 → mkI k d o ak a w 7 ≠ 2 ∧ mkI k d o ak a w 9 ≠ 2 := fun _ => ⟨by show (0 : Int) ≠ 2; decide, by show (0 : Int) ≠ 2; decide⟩
theorem ar_it2 : it2 k d ak a bk b 0 ≠ 10 → it2 k d ak a bk b 7 ≠ 2 ∧ it2 k d ak a bk b 9 ≠ 2 := fun _ => ⟨by show (0 : Int) ≠ 2; decide, by show (0 : Int) ≠ 2; decide⟩
theorem BD8.put (h : BD8 N m) (hx : x 0 ≠ 13) (hr : x 0 ≠ 12 → ∀ g, rdI x g → FR8 N m.V m.n g) (ha : x 0 ≠ 10 → x 7 ≠ 2 ∧ x 9 ≠ 2) : BD8 N (m.put x) := ⟨h.1.put (fun a g b => ⟨hx, hr a g b⟩), h.2.1.put ha, fun e he => (h.2.2 e he).up hx⟩
theorem BD8.sS (h : BD8 N m) (hS : ∀ e ∈ S, EF8 N m.V m.n e) : BD8 N (m.sS S) := ⟨h.1, h.2.1, hS⟩
theorem BD8.m1 (h : BD8 N m) (hk : k ≠ 13) (hr : ak = 2 → FR8 N m.V m.n a) : BD8 N (m.put (mkI k d o ak a w)) := h.put hk (fun _ g q => by obtain ⟨p, q⟩ := rd_mk q; rw [← q]; exact hr p) ar_mk
theorem BD8.lb (h : BD8 N m) (h9 : ∀ e ∈ S, e.1 ≠ 0 ∧ e.1 ≠ 9) : BD8 N ((m.put (mkI 13 d 0 0 0 0)).sS S) := ⟨h.1.put (fun _ g q => by have := (rd_mk q).1; omega), h.2.1.put ar_mk, fun e he => ef_o (h9 e he).1 (h9 e he).2⟩
theorem BD8.mm {m2 : MK} (h : BD8 N m) (e1 : m2.2.1 = m.2.1) (e2 : m2.S = m.S) : BD8 N m2 := by
  unfold BD8 MK.V MK.n at h ⊢
  rw [e1, e2]; exact h
end FRS
section BHS
variable {s : Int → Int} {k : Nat} {K : List Nat} {t : TK} {x : Int × Int × Int} {q : QR} {r : List Nat × TK × (Int × Int × Int) × QR × List EV}
theorem hdr_st (h3 : HDR (k :: K)) (hs : stk s k t x q = some r) : (k ≠ 35 ∧ HDR (r.1 ++ K)) ∨ (k = 35 ∧ K = [36] ∧ r.1 = [28, 51, 34]) := by
  rcases h3 with h3 | h3 | h3 | h3 | h3 | h3 | h3 | h3 | h3
  · exact absurd h3 (by simp)
  · obtain ⟨rfl, rfl⟩ := List.cons.inj h3
    by_cases z : t.2.2.1 = 0
    · obtain rfl := Option.some.inj (hs.symm.trans (if_pos z))
      exact Or.inl ⟨by decide, Or.inl rfl⟩
    · obtain rfl := Option.some.inj (hs.symm.trans (if_neg z))
      exact Or.inl ⟨by decide, Or.inr (Or.inr (Or.inl rfl))⟩
  · obtain ⟨rfl, rfl⟩ := List.cons.inj h3
    by_cases z : nam t
    · obtain rfl := Option.some.inj (hs.symm.trans (if_pos z))
      exact Or.inl ⟨by decide, Or.inr (Or.inr (Or.inr (Or.inl rfl)))⟩
    · exact absurd (hs.symm.trans (if_neg z)) (by simp)
  · obtain ⟨rfl, rfl⟩ := List.cons.inj h3
    by_cases z : sgn t (((140 : Nat) : Int) - 100)
    · obtain rfl := Option.some.inj (hs.symm.trans (if_pos z))
      exact Or.inl ⟨by decide, Or.inr (Or.inr (Or.inr (Or.inr (Or.inl rfl))))⟩
    · exact absurd (hs.symm.trans (if_neg z)) (by simp)
  · obtain ⟨rfl, rfl⟩ := List.cons.inj h3
    by_cases z : sgn t 41
    · obtain rfl := Option.some.inj (hs.symm.trans (if_pos z))
      exact Or.inl ⟨by decide, Or.inr (Or.inr (Or.inr (Or.inr (Or.inr (Or.inl rfl)))))⟩
    · obtain rfl := Option.some.inj (hs.symm.trans (if_neg z))
      exact Or.inl ⟨by decide, Or.inr (Or.inr (Or.inr (Or.inr (Or.inr (Or.inr (Or.inl rfl))))))⟩
  · obtain ⟨rfl, rfl⟩ := List.cons.inj h3
    by_cases z : sgn t (((141 : Nat) : Int) - 100)
    · obtain rfl := Option.some.inj (hs.symm.trans (if_pos z))
      exact Or.inl ⟨by decide, Or.inr (Or.inr (Or.inr (Or.inr (Or.inr (Or.inr (Or.inr (Or.inr rfl)))))))⟩
    · exact absurd (hs.symm.trans (if_neg z)) (by simp)
  · obtain ⟨rfl, rfl⟩ := List.cons.inj h3
    by_cases z : nam t
    · obtain rfl := Option.some.inj (hs.symm.trans (if_pos z))
      exact Or.inl ⟨by decide, Or.inr (Or.inr (Or.inr (Or.inr (Or.inr (Or.inr (Or.inr (Or.inl rfl)))))))⟩
    · exact absurd (hs.symm.trans (if_neg z)) (by simp)
  · obtain ⟨rfl, rfl⟩ := List.cons.inj h3
    by_cases z : sgn t 44
    · obtain rfl := Option.some.inj (hs.symm.trans (if_pos z))
      exact Or.inl ⟨by decide, Or.inr (Or.inr (Or.inr (Or.inr (Or.inr (Or.inr (Or.inl rfl))))))⟩
    · obtain rfl := Option.some.inj (hs.symm.trans (if_neg z))
      exact Or.inl ⟨by decide, Or.inr (Or.inr (Or.inr (Or.inr (Or.inr (Or.inl rfl)))))⟩
  · obtain ⟨rfl, rfl⟩ := List.cons.inj h3
    obtain rfl := Option.some.inj (hs.symm.trans rfl)
    exact Or.inr ⟨rfl, rfl, rfl⟩
theorem bot_st (h : BOT (k :: K)) (hs : stk s k t x q = some r) : (k = 34 ∧ K = [36] ∧ r.1 = []) ∨ (NTg k ∧ BOT (r.1 ++ K)) := by
  obtain ⟨p, hp, hn⟩ := h
  cases p with
  | nil =>
    obtain ⟨rfl, rfl⟩ := List.cons.inj hp
    obtain rfl := Option.some.inj (hs.symm.trans rfl)
    exact Or.inl ⟨rfl, rfl, rfl⟩
  | cons k2 p2 =>
    obtain ⟨rfl, rfl⟩ := List.cons.inj hp
    have hk : NTg k := hn k (by simp)
    exact Or.inr ⟨hk, ⟨r.1 ++ p2, (List.append_assoc _ _ _).symm, fun y hy => (List.mem_append.mp hy).elim (ntg_stk hk hs y) (fun z => hn y (List.mem_cons_of_mem _ z))⟩⟩
end BHS
def US8 (N : Int) (K : List Nat) (m : MK) : Prop := use8 K (tyS m.S) → OPF N m.V m.n m.pk m.pv
section BDS
variable {s : Int → Int} {nm : Int → Int64 → Int} {rn : Int64 → Int} {tb : Int → Int} {k : Nat} {K K2 : List Nat} {t : TK} {x : Int × Int × Int} {q : QR} {r : List Nat × TK × (Int × Int × Int) × QR × List EV} {m : MK} {N : Int} {S' : List Int} {e : ME} {S0 : List ME}
theorem BD8.psh (h : BD8 N m) (he : EF8 N m.V m.n e) : BD8 N (m.push e) := h.sS (fun y hy => (List.mem_cons.mp hy).elim (fun z => by rw [z]; exact he) (h.2.2 y))
theorem bd_tl (h : BD8 N m) (hs : m.S = e :: S0) : EF8 N m.V m.n e ∧ ∀ y ∈ S0, EF8 N m.V m.n y := ⟨h.2.2 e (by rw [hs]; exact List.mem_cons_self), fun y hy => h.2.2 y (by rw [hs]; exact List.mem_cons_of_mem _ hy)⟩
theorem no_ty (h : no9 (tyS (e :: S0))) : ∀ y ∈ S0, y.1 ≠ 0 ∧ y.1 ≠ 9 := fun y hy => h y.1 (List.mem_map.mpr ⟨y, List.mem_cons_of_mem _ hy, rfl⟩)
theorem BD8.one (h : BD8 N m) (u : US8 N (51 :: K) m) (hg : sg8 51 (tyS m.S) → no9 (tyS m.S)) (ho : use8 K2 (tyS (m.one tb).S) → (∃ S', tyS m.S = 0 :: S') ∨ (use8 (51 :: K) (tyS m.S) ∧ ¬ sg8 51 (tyS m.S))) : BD8 N (m.one tb) ∧ US8 N K2 (m.one tb) := by
  cases hs : m.S with
  | nil =>
    have e1 : m.one tb = m := by unfold MK.one; rw [hs]
    rw [e1] at ho ⊢
    refine ⟨h, fun z => ?_⟩
    rcases ho z with ⟨S', a⟩ | ⟨a, -⟩
    · rw [hs] at a; exact absurd a (by simp)
    · exact u a
  | cons e S0 =>
    obtain ⟨he, hS⟩ := bd_tl h hs
    have t1 : tyS m.S = e.1 :: tyS S0 := by rw [hs]; rfl
    have opn : e.1 = 0 ∨ e.1 = 2 ∨ e.1 = 6 ∨ e.1 = 10 → OPF N m.V m.n m.pk m.pv := fun a => u ⟨by decide, Or.inr (Or.inl ⟨rfl, e.1, tyS S0, t1, a⟩)⟩
    have old : e.1 ≠ 0 → use8 K2 (tyS (m.one tb).S) → OPF N m.V m.n m.pk m.pv ∧ ¬ sg8 51 (tyS m.S) := fun a z => by
      rcases ho z with ⟨S', b⟩ | b
      · rw [t1] at b; exact absurd (List.cons.inj b).1 a
      · exact ⟨u b.1, b.2⟩
    rcases one_fx (tb := tb) hs with ⟨a, b⟩ | ⟨a, b⟩ | ⟨a, b⟩ | ⟨a, b⟩ | ⟨a, b⟩ | ⟨a, b⟩ | ⟨a, b⟩ | ⟨a, b⟩
    · rw [b]
      have k5 : (if e.2.1 < 6 then e.2.1 else 5) ≤ 5 := by split <;> omega
      have z0 : it2 (if e.2.1 < 6 then e.2.1 else 5) (tb m.rt + m.tmp) e.2.2.1 ((e.2.2.2.headD (0, 0)).1) m.pk m.pv 0 = if e.2.1 < 6 then e.2.1 else 5 := rfl
      have p := h.put (x := it2 (if e.2.1 < 6 then e.2.1 else 5) (tb m.rt + m.tmp) e.2.2.1 ((e.2.2.2.headD (0, 0)).1) m.pk m.pv) (by rw [z0]; omega) (fun _ g y => by
        rcases rd_it2 y with ⟨c, d⟩ | ⟨c, d⟩
        · rw [← d]; exact he.1 a c
        · rw [← d]; exact opn (Or.inl a) c) ar_it2
      refine ⟨BD8.mm (p.sS (S := S0) (fun y hy => (hS y hy).up (by rw [z0]; omega))) rfl rfl, fun _ _ => ?_⟩
      exact FR8.wv h.1.1 ⟨Or.inl (by rw [z0]; exact k5), rfl⟩
    · rw [b] at old ⊢
      refine ⟨(h.m1 (show (11 : Int) ≠ 13 by decide) (fun z => by omega)).sS (fun y hy => (hS y hy).up (show (11 : Int) ≠ 13 by decide)), fun z => ?_⟩
      exact (old (by omega) z).1.up (show (11 : Int) ≠ 13 by decide)
    · rw [b] at old ⊢
      refine ⟨BD8.mm (BD8.sS (S := (3, m.lab, 0, []) :: S0) (h.m1 (k := 9) (d := m.lab) (o := 0) (w := 0) (show (9 : Int) ≠ 13 by decide) (opn (Or.inr (Or.inl a)))) (fun y hy => ?_)) rfl rfl, fun z => ?_⟩
      · rcases List.mem_cons.mp hy with c | c
        · rw [c]; exact ef_o (show (3 : Int) ≠ 0 by decide) (show (3 : Int) ≠ 9 by decide)
        · exact (hS y c).up (show (9 : Int) ≠ 13 by decide)
      · exact (old (by omega) z).1.up (show (9 : Int) ≠ 13 by decide)
    · rw [b] at old ⊢
      have sg : sg8 51 (tyS m.S) := Or.inr (Or.inl ⟨rfl, tyS S0, by rw [t1, a]⟩)
      have n9 := hg sg
      rw [hs] at n9
      exact ⟨h.lb (no_ty n9), fun z => absurd sg (old (by omega) z).2⟩
    · rw [b] at old ⊢
      refine ⟨BD8.mm (BD8.sS (S := (7, e.2.1, m.lab, []) :: S0) (h.m1 (k := 9) (d := m.lab) (o := 0) (w := 0) (show (9 : Int) ≠ 13 by decide) (opn (Or.inr (Or.inr (Or.inl a))))) (fun y hy => ?_)) rfl rfl, fun z => ?_⟩
      · rcases List.mem_cons.mp hy with c | c
        · rw [c]; exact ef_o (show (7 : Int) ≠ 0 by decide) (show (7 : Int) ≠ 9 by decide)
        · exact (hS y c).up (show (9 : Int) ≠ 13 by decide)
      · exact (old (by omega) z).1.up (show (9 : Int) ≠ 13 by decide)
    · rw [b] at old ⊢
      have k13 : mkI (if e.2.1 = 6 then 6 else 7) 0 0 m.pk m.pv 0 0 ≠ 13 := by
        show (if e.2.1 = 6 then (6 : Int) else 7) ≠ 13
        split <;> omega
      refine ⟨(h.m1 k13 (opn (Or.inr (Or.inr (Or.inr a))))).sS (fun y hy => (hS y hy).up k13), fun z => ?_⟩
      exact (old (by omega) z).1.up k13
    · rw [b] at old ⊢
      refine ⟨(h.m1 (show (7 : Int) ≠ 13 by decide) (fun z => by omega)).sS (fun y hy => (hS y hy).up (show (7 : Int) ≠ 13 by decide)), fun z => ?_⟩
      exact (old (by omega) z).1.up (show (7 : Int) ≠ 13 by decide)
    · rw [b] at old ⊢
      exact ⟨h, fun z => (old (fun c => a (by rw [c]; decide)) z).1⟩
theorem BD8.two (h : BD8 N m) (u : US8 N (52 :: K) m) (hg : sg8 52 (tyS m.S) → no9 (tyS m.S)) (ho : use8 K2 (tyS m.two.S) → use8 (52 :: K) (tyS m.S) ∧ ¬ sg8 52 (tyS m.S)) : BD8 N m.two ∧ US8 N K2 m.two := by
  cases hs : m.S with
  | nil =>
    have e1 : m.two = m := by unfold MK.two; rw [hs]
    rw [e1] at ho ⊢
    exact ⟨h, fun z => u (ho z).1⟩
  | cons e S0 =>
    obtain ⟨he, hS⟩ := bd_tl h hs
    have t1 : tyS m.S = e.1 :: tyS S0 := by rw [hs]; rfl
    have lab : e.1 = 4 ∨ e.1 = 5 ∨ e.1 = 7 → (∀ y ∈ S0, y.1 ≠ 0 ∧ y.1 ≠ 9) ∧ sg8 52 (tyS m.S) := fun a => by
      have sg : sg8 52 (tyS m.S) := Or.inr (Or.inr ⟨rfl, e.1, tyS S0, t1, a⟩)
      have n9 := hg sg
      rw [hs] at n9
      exact ⟨no_ty n9, sg⟩
    have bdk : ∀ {mm : MK} (d : Int), BD8 N mm → BD8 N (mm.put (bndI d)) := fun d z => z.put (show (12 : Int) ≠ 13 by decide) (fun y => absurd rfl y) ar_mk
    rcases two_fx hs with ⟨a, b⟩ | ⟨a, b⟩ | ⟨a, b⟩ | ⟨a, b⟩ | ⟨a, b⟩
    · rw [b] at ho ⊢
      have op : OPF N m.V m.n m.pk m.pv := u ⟨by decide, Or.inr (Or.inr (Or.inl ⟨rfl, tyS S0, by rw [t1, a]⟩))⟩
      refine ⟨(bdk e.2.1 (h.m1 (k := 0) (d := e.2.1) (o := 0) (w := 0) (show (0 : Int) ≠ 13 by decide) op)).sS (fun y hy => ((hS y hy).up (show (0 : Int) ≠ 13 by decide)).up (show (12 : Int) ≠ 13 by decide)), fun _ => ?_⟩
      exact (op.up (x := mkI 0 e.2.1 0 m.pk m.pv 0) (show (0 : Int) ≠ 13 by decide)).up (show (12 : Int) ≠ 13 by decide)
    · rw [b] at ho ⊢
      obtain ⟨n0, sg⟩ := lab (Or.inr (Or.inl a))
      have z1 := h.lb (d := m.lab) (S := (6, m.lab, 0, []) :: S0) (fun y hy => (List.mem_cons.mp hy).elim (fun c => by rw [c]; exact ⟨show (6 : Int) ≠ 0 by decide, show (6 : Int) ≠ 9 by decide⟩) (n0 y))
      have z2 := z1.m1 (k := 11) (d := m.ln) (o := 0) (ak := 0) (a := 0) (w := 0) (show (11 : Int) ≠ 13 by decide) (fun c => by omega)
      exact ⟨BD8.mm z2 rfl rfl, fun z => absurd sg (ho z).2⟩
    · rw [b] at ho ⊢
      obtain ⟨n0, sg⟩ := lab (Or.inl a)
      have z1 := h.m1 (k := 8) (d := m.lab) (o := 0) (ak := 0) (a := 0) (w := 0) (show (8 : Int) ≠ 13 by decide) (fun c => by omega)
      have z2 := z1.lb (d := e.2.1) (S := (3, m.lab, 0, []) :: S0) (fun y hy => (List.mem_cons.mp hy).elim (fun c => by rw [c]; exact ⟨show (3 : Int) ≠ 0 by decide, show (3 : Int) ≠ 9 by decide⟩) (n0 y))
      exact ⟨BD8.mm z2 rfl rfl, fun z => absurd sg (ho z).2⟩
    · rw [b] at ho ⊢
      obtain ⟨n0, sg⟩ := lab (Or.inr (Or.inr a))
      have z1 := h.m1 (k := 8) (d := e.2.1) (o := 0) (ak := 0) (a := 0) (w := 0) (show (8 : Int) ≠ 13 by decide) (fun c => by omega)
      exact ⟨z1.lb (d := e.2.2.1) (S := S0) n0, fun z => absurd sg (ho z).2⟩
    · rw [b] at ho ⊢
      exact ⟨h, fun z => u (ho z).1⟩
theorem BD8.cal {w : Int64} (h : BD8 N m) (u : use8 K2 (tyS (m.cal rn w).S) → OPF N m.V m.n m.pk m.pv) : BD8 N (m.cal rn w) ∧ US8 N K2 (m.cal rn w) := by
  cases hs : m.S with
  | nil =>
    have e1 : m.cal rn w = m := by unfold MK.cal; rw [hs]
    rw [e1] at u ⊢
    exact ⟨h, u⟩
  | cons e S0 =>
    obtain ⟨he, hS⟩ := bd_tl h hs
    rcases cal_fx (rn := rn) (w := w) hs with ⟨a, b⟩ | ⟨a, b⟩
    · rw [b] at u ⊢
      have z1 := h.put (x := itC e.2.1 (rn w) e.2.2.2) (show (10 : Int) ≠ 13 by decide) (fun _ g y => by
        obtain ⟨z, z1, z2, z3⟩ := rd_itC y
        rw [← z3]; exact he.2 a z z1 z2) (fun c => absurd rfl c)
      have z2 := z1.put (x := bndI e.2.1) (show (12 : Int) ≠ 13 by decide) (fun y => absurd rfl y) ar_mk
      refine ⟨z2.sS (fun y hy => ((hS y hy).up (show (10 : Int) ≠ 13 by decide)).up (show (12 : Int) ≠ 13 by decide)), fun z => ?_⟩
      exact ((u z).up (x := itC e.2.1 (rn w) e.2.2.2) (show (10 : Int) ≠ 13 by decide)).up (show (12 : Int) ≠ 13 by decide)
    · rw [b] at u ⊢; exact ⟨h, u⟩
theorem BD8.st (hk : NTg k) (h : BD8 N m) (u : US8 N (k :: K) m) (hok : ok8 (k :: K) (tyS m.S)) (hc : cnT k (tyS m.S) = some S') (hs : stk s k t x q = some r) (hN : k = 1 → nam t → nm m.rt t.2.2.2.2 < N) : BD8 N (mkk s nm rn tb k t q m) ∧ US8 N (r.1 ++ K) (mkk s nm rn tb k t q m) := by
  obtain ⟨-, os⟩ := ok8_st (nm := nm) (rn := rn) (tb := tb) hok hc hs
  have sg : sg8 k (tyS m.S) → no9 (tyS m.S) := fun a => ((ok_d hok hc).2 a).1
  -- where the latest part stays
  have keep : ∀ {m2 : MK}, k ≠ 1 → k < 50 → m2 = mkk s nm rn tb k t q m → (m2.2.1 = m.2.1 ∧ m2.pk = m.pk ∧ m2.pv = m.pv) → US8 N (r.1 ++ K) m2 := fun {m2} a b c d z => by
    rw [c] at z
    rcases os z with y | ⟨y, -⟩ | ⟨y, -⟩
    · exact absurd y a
    · omega
    · have w := u y
      unfold OPF MK.V MK.n at w ⊢
      rw [d.1, d.2.1, d.2.2]; exact w
  by_cases k1 : k = 1
  · subst k1
    by_cases z : t.2.2.1 = 3
    · rw [show mkk s nm rn tb 1 t q m = m.sP 1 t.2.2.2.1 from if_pos z]
      exact ⟨h.mm rfl rfl, fun _ y => absurd y (by show ¬ (1 : Int) = 2; decide)⟩
    · by_cases y : nam t
      · rw [show mkk s nm rn tb 1 t q m = m.sP 2 (nm m.rt t.2.2.2.2) from (if_neg z).trans (if_pos y)]
        exact ⟨h.mm rfl rfl, fun _ _ => Or.inl (hN rfl y)⟩
      · rw [show mkk s nm rn tb 1 t q m = m from (if_neg z).trans (if_neg y)]
        refine ⟨h, ?_⟩
        by_cases v : sgn t 40
        · obtain rfl := Option.some.inj (hs.symm.trans ((if_neg (fun o => o.elim z y)).trans (if_pos v)))
          exact fun w => absurd w (us_lo (by decide))
        · exact absurd (hs.symm.trans ((if_neg (fun o => o.elim z y)).trans (if_neg v))) (by simp)
  by_cases k0 : k = 0
  · subst k0
    by_cases z : sgn t 45
    · have e := show mkk s nm rn tb 0 t q m = m.push (0, 2, 1, [(0, 0)]) from if_pos z
      rw [e]
      exact ⟨h.psh ⟨fun _ y => absurd y (by show ¬ (1 : Int) = 2; decide), fun y => absurd y (by show ¬ (0 : Int) = 9; decide)⟩, keep (by decide) (by decide) e.symm ⟨rfl, rfl, rfl⟩⟩
    · have e := show mkk s nm rn tb 0 t q m = m from if_neg z
      rw [e]; exact ⟨h, keep (by decide) (by decide) e.symm ⟨rfl, rfl, rfl⟩⟩
  have opp : k = 6 ∨ k = 8 ∨ k = 9 ∨ k = 27 → OPF N m.V m.n m.pk m.pv := fun a => u ⟨by omega, Or.inl a⟩
  have ep : ∀ c : Int, (k = 6 ∨ k = 8 ∨ k = 9) → EF8 N m.V m.n (0, c, m.pk, [(m.pv, 0)]) := fun c a => ⟨fun _ => opp (by omega), fun y => absurd y (by show ¬ (0 : Int) = 9; decide)⟩
  by_cases k6 : k = 6
  · subst k6
    by_cases z : sgn t 61
    · have e := show mkk s nm rn tb 6 t q m = m.push (0, 4, m.pk, [(m.pv, 0)]) from if_pos z
      rw [e]; exact ⟨h.psh (ep 4 (by decide)), keep (by decide) (by decide) e.symm ⟨rfl, rfl, rfl⟩⟩
    · by_cases y : sgn t 60
      · have e := show mkk s nm rn tb 6 t q m = m.push (0, 5, m.pk, [(m.pv, 0)]) from (if_neg z).trans (if_pos y)
        rw [e]; exact ⟨h.psh (ep 5 (by decide)), keep (by decide) (by decide) e.symm ⟨rfl, rfl, rfl⟩⟩
      · have e := show mkk s nm rn tb 6 t q m = m from (if_neg z).trans (if_neg y)
        rw [e]; exact ⟨h, keep (by decide) (by decide) e.symm ⟨rfl, rfl, rfl⟩⟩
  by_cases k8 : k = 8
  · subst k8
    by_cases z : sgn t 43
    · have e := show mkk s nm rn tb 8 t q m = m.push (0, 1, m.pk, [(m.pv, 0)]) from if_pos z
      rw [e]; exact ⟨h.psh (ep 1 (by decide)), keep (by decide) (by decide) e.symm ⟨rfl, rfl, rfl⟩⟩
    · by_cases y : sgn t 45
      · have e := show mkk s nm rn tb 8 t q m = m.push (0, 2, m.pk, [(m.pv, 0)]) from (if_neg z).trans (if_pos y)
        rw [e]; exact ⟨h.psh (ep 2 (by decide)), keep (by decide) (by decide) e.symm ⟨rfl, rfl, rfl⟩⟩
      · have e := show mkk s nm rn tb 8 t q m = m from (if_neg z).trans (if_neg y)
        rw [e]; exact ⟨h, keep (by decide) (by decide) e.symm ⟨rfl, rfl, rfl⟩⟩
  by_cases k9 : k = 9
  · subst k9
    by_cases z : sgn t 42
    · have e := show mkk s nm rn tb 9 t q m = m.push (0, 3, m.pk, [(m.pv, 0)]) from if_pos z
      rw [e]; exact ⟨h.psh (ep 3 (by decide)), keep (by decide) (by decide) e.symm ⟨rfl, rfl, rfl⟩⟩
    · have e := show mkk s nm rn tb 9 t q m = m from if_neg z
      rw [e]; exact ⟨h, keep (by decide) (by decide) e.symm ⟨rfl, rfl, rfl⟩⟩
  by_cases k20 : k = 20
  · subst k20
    by_cases z : wrd t 512852847717
    · have e := show mkk s nm rn tb 20 t q m = m.stm from if_pos z
      rw [e]; exact ⟨h.mm rfl rfl, keep (by decide) (by decide) e.symm ⟨rfl, rfl, rfl⟩⟩
    · have e := show mkk s nm rn tb 20 t q m = m.stm.push (1, 0, 0, []) from if_neg z
      rw [e]; exact ⟨BD8.psh (m := m.stm) (h.mm rfl rfl) (ef_o (show (1 : Int) ≠ 0 by decide) (show (1 : Int) ≠ 9 by decide)), keep (by decide) (by decide) e.symm ⟨rfl, rfl, rfl⟩⟩
  by_cases k21 : k = 21
  · subst k21
    exact ⟨h.psh (e := (2, 0, 0, [])) (ef_o (show (2 : Int) ≠ 0 by decide) (show (2 : Int) ≠ 9 by decide)), keep (by decide) (by decide) rfl ⟨rfl, rfl, rfl⟩⟩
  by_cases k22 : k = 22
  · subst k22
    exact ⟨h.psh (e := (5, 0, 0, [])) (ef_o (show (5 : Int) ≠ 0 by decide) (show (5 : Int) ≠ 9 by decide)), keep (by decide) (by decide) rfl ⟨rfl, rfl, rfl⟩⟩
  by_cases k23 : k = 23
  · subst k23
    exact ⟨h.psh (e := (8, nm m.rt t.2.2.2.2, 0, [])) (ef_o (show (8 : Int) ≠ 0 by decide) (show (8 : Int) ≠ 9 by decide)), keep (by decide) (by decide) rfl ⟨rfl, rfl, rfl⟩⟩
  by_cases k39 : k = 39
  · subst k39
    by_cases z : wrd t 7304564
    · have e := show mkk s nm rn tb 39 t q m = m.push (10, 6, 0, []) from if_pos z
      rw [e]; exact ⟨h.psh (ef_o (show (10 : Int) ≠ 0 by decide) (show (10 : Int) ≠ 9 by decide)), keep (by decide) (by decide) e.symm ⟨rfl, rfl, rfl⟩⟩
    · have e := show mkk s nm rn tb 39 t q m = m.push (10, 7, 0, []) from if_neg z
      rw [e]; exact ⟨h.psh (ef_o (show (10 : Int) ≠ 0 by decide) (show (10 : Int) ≠ 9 by decide)), keep (by decide) (by decide) e.symm ⟨rfl, rfl, rfl⟩⟩
  have tp : ∀ f : ME → ME, (∀ e, EF8 N m.V m.n e → EF8 N m.V m.n (f e)) → BD8 N (m.top f) ∧ ((m.top f).2.1 = m.2.1 ∧ (m.top f).pk = m.pk ∧ (m.top f).pv = m.pv) := fun f hf => by
    cases hS : m.S with
    | nil =>
      have e1 : m.top f = m := by unfold MK.top; rw [hS]
      rw [e1]; exact ⟨h, rfl, rfl, rfl⟩
    | cons e S0 =>
      rw [top_s hS]
      obtain ⟨he, hS0⟩ := bd_tl h hS
      exact ⟨h.sS (fun y hy => (List.mem_cons.mp hy).elim (fun c => by rw [c]; exact hf e he) (hS0 y)), rfl, rfl, rfl⟩
  by_cases k24 : k = 24
  · subst k24
    by_cases z : wrd t 1701606245
    · have e := show mkk s nm rn tb 24 t q m = m.top (fun e => if e.1 = 3 then (4, e.2.1, 0, []) else e) from if_pos z
      obtain ⟨a, b⟩ := tp (fun e => if e.1 = 3 then (4, e.2.1, 0, []) else e) (fun e he => by
        by_cases c : e.1 = 3
        · rw [if_pos c]; exact ef_o (show (4 : Int) ≠ 0 by decide) (show (4 : Int) ≠ 9 by decide)
        · rw [if_neg c]; exact he)
      rw [e]; exact ⟨a, keep (by decide) (by decide) e.symm b⟩
    · have e := show mkk s nm rn tb 24 t q m = m from if_neg z
      rw [e]; exact ⟨h, keep (by decide) (by decide) e.symm ⟨rfl, rfl, rfl⟩⟩
  by_cases k25 : k = 25
  · subst k25
    by_cases z : nam t ∧ sgn (advT s t.2.1) 40
    · have e := show mkk s nm rn tb 25 t q m = m.top (fun e => if e.1 = 8 then (9, e.2.1, 0, []) else e) from if_pos z
      obtain ⟨a, b⟩ := tp (fun e => if e.1 = 8 then (9, e.2.1, 0, []) else e) (fun e he => by
        by_cases c : e.1 = 8
        · rw [if_pos c]; exact ⟨fun y => absurd y (by show ¬ (9 : Int) = 0; decide), fun _ y hy => absurd hy List.not_mem_nil⟩
        · rw [if_neg c]; exact he)
      rw [e]; exact ⟨a, keep (by decide) (by decide) e.symm b⟩
    · have e := show mkk s nm rn tb 25 t q m = m from if_neg z
      rw [e]; exact ⟨h, keep (by decide) (by decide) e.symm ⟨rfl, rfl, rfl⟩⟩
  by_cases k27 : k = 27
  · subst k27
    have op := opp (by decide)
    have e := show mkk s nm rn tb 27 t q m = m.top (fun e => if e.1 = 9 then (9, e.2.1, 0, e.2.2.2 ++ [(m.pk, m.pv)]) else e) from rfl
    obtain ⟨a, b⟩ := tp (fun e => if e.1 = 9 then (9, e.2.1, 0, e.2.2.2 ++ [(m.pk, m.pv)]) else e) (fun e he => by
      by_cases c : e.1 = 9
      · rw [if_pos c]
        refine ⟨fun y => absurd y (by show ¬ (9 : Int) = 0; decide), fun _ y hy => ?_⟩
        rcases List.mem_append.mp hy with w | w
        · exact he.2 c y w
        · rw [List.mem_singleton.mp w]; exact op
      · rw [if_neg c]; exact he)
    rw [e]; exact ⟨a, keep (by decide) (by decide) e.symm b⟩
  by_cases k38 : k = 38
  · subst k38
    have e := show mkk s nm rn tb 38 t q m = m.cal rn q.1 from rfl
    rw [e] at os ⊢
    refine h.cal (fun z => ?_)
    rcases os z with y | ⟨y, -⟩ | ⟨y, -⟩
    · omega
    · omega
    · exact u y
  by_cases k51 : k = 51
  · subst k51
    have e := show mkk s nm rn tb 51 t q m = m.one tb from rfl
    rw [e] at os ⊢
    refine BD8.one h u sg (fun z => ?_)
    rcases os z with y | ⟨-, y⟩ | ⟨y, w⟩
    · omega
    · exact Or.inl y
    · exact Or.inr ⟨y, fun v => w ⟨by decide, v⟩⟩
  by_cases k52 : k = 52
  · subst k52
    have e := show mkk s nm rn tb 52 t q m = m.two from rfl
    rw [e] at os ⊢
    refine BD8.two h u sg (fun z => ?_)
    rcases os z with y | ⟨y, -⟩ | ⟨y, w⟩
    · omega
    · omega
    · exact ⟨y, fun v => w ⟨by decide, v⟩⟩
  have n34 : ¬ (k = 34 ∨ k = 35) := by
    unfold NTg at hk
    omega
  have e := mkk_df (s := s) (nm := nm) (rn := rn) (tb := tb) (t := t) (q := q) (m := m) (k := k) (by omega)
  rw [e] at os ⊢
  refine ⟨h, fun z => ?_⟩
  rcases os z with y | ⟨y, -⟩ | ⟨y, -⟩
  · exact absurd y k1
  · exact absurd y k51
  · exact u y
end BDS
def JO8 (NN : Int → Int) (K : List Nat) (m : MK) : Prop := (HDR K ∨ (BOT K ∧ BD8 (NN m.rt) m ∧ US8 (NN m.rt) K m)) ∧ (rnT K (tyS m.S) = some [] ∧ ok8 K (tyS m.S)) ∧ ∀ y, GDV (NN y) (m.dn y).2 (m.dn y).1 ∧ AR8 (m.dn y).2 (m.dn y).1
section JOS
variable {NN tb : Int → Int} {s : Int → Int} {nm : Int → Int64 → Int} {rn : Int64 → Int} {k : Nat} {K : List Nat} {t : TK} {x : Int × Int × Int} {q : QR} {r : List Nat × TK × (Int × Int × Int) × QR × List EV} {m : MK} {y : Int} {N : Int → Int64 → Prop} {C : EW → Prop} {es fs : List EW}
theorem mkk_dn (hk : k ≠ 34) : (mkk s nm rn tb k t q m).dn = m.dn := by
  unfold mkk
  split
  all_goals (repeat' split)
  all_goals first
    | rfl
    | exact congrArg Prod.fst top_q.1
    | exact congrArg Prod.fst cal_q.1
    | exact congrArg Prod.fst one_q.1
    | exact congrArg Prod.fst two_q.1
    | exact absurd rfl hk
theorem JO8.st (h : JO8 NN (k :: K) m) (hs : stk s k t x q = some r) (hN : k = 1 → nam t → nm m.rt t.2.2.2.2 < NN m.rt) : JO8 NN (r.1 ++ K) (mkk s nm rn tb k t q m) := by
  obtain ⟨hb, ⟨ht, hok⟩, hd⟩ := h
  obtain ⟨S', hc, hc2⟩ := rnT_ex ht
  have t2 : rnT (r.1 ++ K) (tyS (mkk s nm rn tb k t q m).S) = some [] := (rnT_app r.1 (rnT_st (nm := nm) (rn := rn) (tb := tb) hc hs)).trans hc2
  have o2 := (ok8_st (nm := nm) (rn := rn) (tb := tb) hok hc hs).1
  rcases hb with hb | ⟨hb, hB, hU⟩
  · rcases hdr_st hb hs with ⟨n35, z⟩ | ⟨rfl, rfl, e1⟩
    · have n34 : k ≠ 34 := fun z => by have := hdr_h hb; omega
      exact ⟨Or.inl z, ⟨t2, o2⟩, by rw [mkk_dn n34]; exact hd⟩
    · refine ⟨Or.inr ⟨⟨[28, 51], by rw [e1]; rfl, fun y hy => ?_⟩, ⟨⟨Int.le_refl _, fun i a b => absurd (show i < 0 from b) (by omega)⟩, fun i a b => absurd (show i < 0 from b) (by omega), fun e he => ?_⟩, fun u => ?_⟩, ⟨t2, o2⟩, hd⟩
      · simp only [List.mem_cons, List.not_mem_nil, or_false] at hy
        rcases hy with rfl | rfl
        · exact Or.inl (by decide)
        · exact Or.inr (by decide)
      · have he : e ∈ [((11 : Int), (0 : Int), (0 : Int), ([] : List (Int × Int)))] := he
        rw [List.mem_singleton.mp he]
        exact ef_o (show (11 : Int) ≠ 0 by decide) (show (11 : Int) ≠ 9 by decide)
      · exfalso
        rw [e1] at u
        have u : use8 [28, 51, 34, 36] [11] := u
        have u2 := us_51 (Or.inr (Or.inr rfl)) ((us_n (by decide) (by decide) (by decide)).mp u)
        exact us_c (show cnT 36 [] = some [] from rfl) (by decide) (fun a => by omega) (fun a => by omega) ((us_n (by decide) (by decide) (by decide)).mp u2)
  · rcases bot_st hb hs with ⟨rfl, rfl, e1⟩ | ⟨hk, z⟩
    · refine ⟨Or.inl (by rw [e1]; exact Or.inr (Or.inl rfl)), ⟨t2, o2⟩, fun y => ?_⟩
      show GDV (NN y) (uZ m.2.2.2.2.1 m.rt (m.n, m.V) y).2 (uZ m.2.2.2.2.1 m.rt (m.n, m.V) y).1 ∧ AR8 (uZ m.2.2.2.2.1 m.rt (m.n, m.V) y).2 (uZ m.2.2.2.2.1 m.rt (m.n, m.V) y).1
      by_cases c : y = m.rt
      · rw [c, uZ_eq]; exact ⟨hB.1, hB.2.1⟩
      · rw [uZ_ne c]; exact hd y
    · have n34 : k ≠ 34 := fun c => by unfold NTg at hk; omega
      obtain ⟨b1, b2⟩ := BD8.st (nm := nm) (rn := rn) (tb := tb) hk hB hU hok hc hs hN
      refine ⟨Or.inr ⟨z, ?_, ?_⟩, ⟨t2, o2⟩, by rw [mkk_dn n34]; exact hd⟩
      · rw [mkk_rt n34]; exact b1
      · rw [mkk_rt n34]; exact b2
theorem nok_1 (h : NOK N C y (evk 1 t x q ++ fs)) (hn : nam t) : N y t.2.2.2.2 := by
  have e : evk 1 t x q = [(4, t.1, 0, t.2.2.2.2)] := if_pos hn
  rw [e] at h
  exact h.1 rfl
theorem JO8.run (hN : ∀ y w, N y w → nm y w < NN y) : ∀ (n : Nat) {a : PCf} {m : MK}, (JO8 NN a.1 m ∨ a = pF) → NOK N C m.rt (evs s n a) → JO8 NN (itr s n a).1 (mkn s nm rn tb n a m) ∨ itr s n a = pF
  | 0, _, _, h, _ => h
  | n + 1, a, m, h, e => by
    rcases h with h | h
    · obtain ⟨K0, t, x, q, ρ⟩ := a
      show JO8 NN (itr s n (stp s (K0, t, x, q, ρ))).1 (mkn s nm rn tb n (stp s (K0, t, x, q, ρ)) (mkt s nm rn tb (K0, t, x, q, ρ) m)) ∨ itr s n (stp s (K0, t, x, q, ρ)) = pF
      have e : NOK N C m.rt (evt s (K0, t, x, q, ρ) ++ evs s n (stp s (K0, t, x, q, ρ))) := e
      cases K0 with
      | nil => exact JO8.run hN n (Or.inl h) e
      | cons k K =>
        cases es : stk s k t x q with
        | none => rw [stp_none es]; exact Or.inr (itr_fix (stp_pF s) n)
        | some r =>
          have ev : evt s (k :: K, t, x, q, ρ) = evk k t x q := by
            by_cases z : k = 999
            · subst z
              exact (if_pos rfl : (if (999 : Nat) = 999 then ([] : List EW) else match stk s 999 t x q with
                | none => [(9, t.1, 0, 0)]
                | some _ => evk 999 t x q) = [])
            · exact evt_s z es
          rw [ev] at e
          rw [mkt_s es, stp_some es]
          rw [stp_some es] at e
          refine JO8.run hN n (Or.inl (h.st es (fun z hn => ?_))) ?_
          · subst z; exact hN _ _ (nok_1 e hn)
          · by_cases z : k = 34
            · subst z; exact nok_34 e
            · rw [mkk_rt z]; exact e.tl z
    · exact Or.inr (by rw [h]; exact itr_fix (stp_pF s) _)
theorem JO8.fin {p v : Int} {m' : MK} {t0 t1 t2 : TK} {x0 x1 x2 : Int × Int × Int} {q0 q1 q2 : QR} {l0 l1 l2 : List EV} (hN : ∀ y w, N y w → nm y w < NN y) (h : RM s nm rn tb ([36], t0, x0, q0, l0) (mk00 p v) ([], t1, x1, q1, l1) m') (g : RE s ([36], t0, x0, q0, l0) es ([], t2, x2, q2, l2)) (ok : NOK N C 0 es) : ∀ y, GDV (NN y) (m'.dn y).2 (m'.dn y).1 ∧ AR8 (m'.dn y).2 (m'.dn y).1 := by
  obtain ⟨n, h1, h2⟩ := h
  obtain ⟨k, g1, g2⟩ := g
  have d : evs s n ([36], t0, x0, q0, l0) = es := by
    by_cases z : n ≤ k
    · obtain ⟨j, rfl⟩ : ∃ j, k = n + j := ⟨k - n, by omega⟩
      rw [evs_add, h1, evs_fix rfl evt_nil, List.append_nil] at g2
      exact g2
    · obtain ⟨j, rfl⟩ : ∃ j, n = k + j := ⟨n - k, by omega⟩
      rw [evs_add, g1, evs_fix rfl evt_nil, List.append_nil]
      exact g2
  have j0 : JO8 NN [36] (mk00 p v) := ⟨Or.inl (Or.inr (Or.inl rfl)), ⟨rfl, ok_c (show cnT 36 [] = some [] from rfl) (fun _ => ⟨fun z hz => absurd hz List.not_mem_nil, fun u => u⟩) trivial⟩, fun y => ⟨⟨Int.le_refl _, fun i a b => absurd (show i < 0 from b) (by omega)⟩, fun i a b => absurd (show i < 0 from b) (by omega)⟩⟩
  have w := JO8.run (s := s) (rn := rn) (tb := tb) hN n (a := ([36], t0, x0, q0, l0)) (Or.inl j0) (by rw [d]; exact ok)
  rw [h1, h2] at w
  rcases w with w | w
  · exact w.2.2
  · exact absurd (congrArg Prod.fst w) (by show ¬ ([] : List Nat) = [999]; simp)
end JOS
theorem S2T.made {N : Int} {V : Int → It} {n : Int} {H : Int → Prop} (h : GDV N V n) (hH : ∀ g, LVV V n 0 g → g < N → H g) : S2T V n H := fun g a => by
  have q : g < N ∨ ∃ j, (0 ≤ j ∧ j < 0) ∧ wrT (V j) g ∧ ∀ i, j < i → i ≤ 0 → i < n → V i 0 ≠ 13 := by
    refine a.ind (P := fun k g => g < N ∨ ∃ j, (0 ≤ j ∧ j < k) ∧ wrT (V j) g ∧ ∀ i, j < i → i ≤ k → i < n → V i 0 ≠ 13) (fun k g k0 kn q => ?_)
    rcases q with ⟨q1, q2, -⟩ | ⟨q1, t, q2, q3⟩
    · obtain ⟨a1, a2⟩ := h.2 k k0 kn q1 g q2
      rcases a2 with a2 | ⟨j, j0, j1, j2⟩
      · exact Or.inl a2
      · refine Or.inr ⟨j, j0, j1, fun i b c d => ?_⟩
        by_cases e : i = k
        · rw [e]; exact a1
        · exact j2 i b (by omega)
    · rcases q3 with q3 | ⟨j, j0, j1, j2⟩
      · exact Or.inl q3
      · rcases q2 with ⟨-, e⟩ | ⟨-, e⟩
        · rw [e] at j0 j2
          have jk : j ≠ k := fun z => q1 (by rw [← z]; exact j1)
          exact Or.inr ⟨j, by omega, j1, fun i b c d => j2 i b (by omega) d⟩
        · exact absurd e.2.2.1 (j2 t j0.2 (Int.le_refl _) e.2.1)
  rcases q with q | ⟨j, j0, -⟩
  · exact hH g a.lv q
  · omega
end
