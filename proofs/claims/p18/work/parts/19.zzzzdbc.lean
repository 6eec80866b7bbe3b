section
def B0J (NN : Int → Int) (q f v : Int) : Prop := f = 0 ∧ 0 ≤ v ∧ v < NN q
def PKO (k : Int) : Prop := k = 1 ∨ k = 2
def BDJ (PM NN : Int → Int) (q : Int) (V : Int → It) (n : Int) : Prop := 0 ≤ n ∧ WHN PM V n ∧ BNN (B0J NN q) V n
def EJ (NN : Int → Int) (rt E : Int) (e : ME) : Prop := (e.1 = 0 → 0 ≤ e.2.1 ∧ PKO e.2.2.1) ∧ (e.1 = 8 ∨ e.1 = 9 → 0 ≤ e.2.1 ∧ e.2.1 < NN rt) ∧ (e.1 = 9 → (e.2.2.2.length : Int) = E ∧ ∀ z ∈ e.2.2.2, PKO z.1)
def JBR (PM NN : Int → Int) (K : List Nat) (E : Int) (m : MK) : Prop := (∀ e ∈ m.S, EJ NN m.rt E e) ∧ (34 ∈ K → BDJ PM NN m.rt m.V m.n) ∧ ∀ y, BDJ PM NN y (m.dn y).2 (m.dn y).1
section JBS
variable {PM NN tb : Int → Int} {s : Int → Int} {nm : Int → Int64 → Int} {rn : Int64 → Int} {k : Nat} {K K2 : List Nat} {t : TK} {x : Int × Int × Int} {q : QR} {r : List Nat × TK × (Int × Int × Int) × QR × List EV} {m : MK} {E E' y n a b rt : Int} {V : Int → It} {i : It} {e : ME} {S0 : List ME} {w : Int64} {l : List (Int × Int)}
theorem wh_it2 {k d ak a bk b : Int} (h0 : 0 ≤ k) (h5 : k ≤ 5) (ha : PKO ak) (hb : PKO bk) : whI PM (it2 k d ak a bk b) := by
  by_cases z : k = 0
  · exact wh_1 (Or.inl z) ha
  · have e2 : nAr PM (it2 k d ak a bk b) = 2 := nAr_2 (show 1 ≤ k ∧ k ≤ 5 by omega)
    refine ⟨show 0 ≤ k from h0, fun j p q _ => ?_, fun e => absurd (show k = 12 from e) (by omega)⟩
    rw [e2] at q
    have hj : j = 0 ∨ j = 1 := by omega
    rcases hj with rfl | rfl
    · show it2 k d ak a bk b 3 = 1 ∨ it2 k d ak a bk b 3 = 2
      exact ha
    · show it2 k d ak a bk b 5 = 1 ∨ it2 k d ak a bk b 5 = 2
      exact hb
theorem argA_mem : ∀ (as : List (Int × Int)) (i : Nat), i < as.length → argA as i ∈ as
  | [], i, h => absurd h (Nat.not_lt_zero _)
  | a :: as, 0, _ => List.mem_cons_self
  | a :: as, i + 1, h => List.mem_cons_of_mem _ (argA_mem as i (Nat.lt_of_succ_lt_succ h))
theorem wh_itC {d q : Int} {as : List (Int × Int)} (h : PM q ≤ (as.length : Int)) (ha : ∀ z ∈ as, PKO z.1) : whI PM (itC d q as) := by
  have g : ∀ i : Nat, (i : Int) < PM q → PKO (argA as i).1 := fun i hi => ha _ (argA_mem as i (by omega))
  have e2 : nAr PM (itC d q as) = PM q := if_pos rfl
  refine ⟨by show (0 : Int) ≤ 10; decide, fun j p q2 c => ?_, fun e => absurd (show (10 : Int) = 12 from e) (by decide)⟩
  rw [e2] at q2
  have hj : j = 0 ∨ j = 1 ∨ j = 2 ∨ j = 3 := by omega
  rcases hj with rfl | rfl | rfl | rfl
  · exact g 0 (by omega)
  · exact g 1 (by omega)
  · exact g 2 (by omega)
  · exact g 3 (by omega)
theorem bdj_put (h : BDJ PM NN y V n) (w : whI PM i) (b : bnI (B0J NN y) i) : BDJ PM NN y (uZ V n i) (n + 1) := ⟨by have := h.1; omega, h.2.1.put w, h.2.2.put b⟩
theorem EJ.ev1 (h : EJ NN rt E e) (h9 : e.1 ≠ 9) : EJ NN rt E' e := ⟨h.1, h.2.1, fun z => absurd z h9⟩
theorem ej_o (h0 : e.1 ≠ 0) (h8 : e.1 ≠ 8) (h9 : e.1 ≠ 9) : EJ NN rt E e := ⟨fun z => absurd z h0, fun z => (z.elim h8 h9).elim, fun z => absurd z h9⟩
theorem ej_0 (h0 : 0 ≤ a) (hk : PKO b) : EJ NN rt E (0, a, b, l) := ⟨fun _ => ⟨h0, hk⟩, fun z => absurd z (by show ¬ ((0 : Int) = 8 ∨ (0 : Int) = 9); decide), fun z => absurd z (by show ¬ (0 : Int) = 9; decide)⟩
theorem ej_8 (h : 0 ≤ a ∧ a < NN rt) : EJ NN rt E (8, a, 0, l) := ⟨fun z => absurd z (by show ¬ (8 : Int) = 0; decide), fun _ => h, fun z => absurd z (by show ¬ (8 : Int) = 9; decide)⟩
theorem ej_9 (h : 0 ≤ a ∧ a < NN rt) (hl : (l.length : Int) = E) (hz : ∀ z ∈ l, PKO z.1) : EJ NN rt E (9, a, 0, l) := ⟨fun z => absurd z (by show ¬ (9 : Int) = 0; decide), fun _ => h, fun _ => ⟨hl, hz⟩⟩
theorem ej_cons (h : EJ NN rt E e) (hS : ∀ z ∈ S0, EJ NN rt E z) : ∀ z ∈ e :: S0, EJ NN rt E z := fun z hz => (List.mem_cons.mp hz).elim (fun u => by rw [u]; exact h) (hS z)
theorem JBR.KK (h : JBR PM NN K E m) (hk : 34 ∈ K2 → 34 ∈ K) : JBR PM NN K2 E m := ⟨h.1, fun z => h.2.1 (hk z), h.2.2⟩
theorem JBR.sS (h : JBR PM NN K E m) (hS : ∀ e ∈ S0, EJ NN m.rt E' e) : JBR PM NN K E' (m.sS S0) := ⟨hS, h.2.1, h.2.2⟩
theorem JBR.sP (h : JBR PM NN K E m) : JBR PM NN K E (m.sP a b) := ⟨h.1, h.2.1, h.2.2⟩
theorem JBR.sL (h : JBR PM NN K E m) : JBR PM NN K E (m.sL a) := ⟨h.1, h.2.1, h.2.2⟩
theorem JBR.sT (h : JBR PM NN K E m) : JBR PM NN K E (m.sT a) := ⟨h.1, h.2.1, h.2.2⟩
theorem JBR.stm (h : JBR PM NN K E m) : JBR PM NN K E m.stm := ⟨h.1, h.2.1, h.2.2⟩
theorem JBR.psh (h : JBR PM NN K E m) (he : EJ NN m.rt E e) : JBR PM NN K E (m.push e) := ⟨ej_cons he h.1, h.2.1, h.2.2⟩
theorem JBR.put (h : JBR PM NN K E m) (hw : whI PM i) (hb : bnI (B0J NN m.rt) i) : JBR PM NN K E (m.put i) := ⟨h.1, fun z => bdj_put (h.2.1 z) hw hb, h.2.2⟩
theorem JBR.rest (h : JBR PM NN K E m) (hs : m.S = e :: S0) : EJ NN m.rt E e ∧ ∀ z ∈ S0, EJ NN m.rt E z := ⟨h.1 e (by rw [hs]; exact List.mem_cons_self), fun z hz => h.1 z (by rw [hs]; exact List.mem_cons_of_mem _ hz)⟩
theorem JBR.p0 {k d o ak a w : Int} (h : JBR PM NN K E m) (hk : k = 8 ∨ k = 11 ∨ k = 13) : JBR PM NN K E (m.put (mkI k d o ak a w)) := h.put (wh_m1 (by omega) (by omega)) (bn_ne (show k ≠ 12 by omega))
theorem JBR.p1 {k d o ak a w : Int} (h : JBR PM NN K E m) (hk : k = 0 ∨ k = 6 ∨ k = 7 ∨ k = 9) (ha : PKO ak) : JBR PM NN K E (m.put (mkI k d o ak a w)) := h.put (wh_1 hk ha) (bn_ne (show k ≠ 12 by omega))
theorem JBR.pb (h : JBR PM NN K E m) (ha : 0 ≤ a ∧ a < NN m.rt) : JBR PM NN K E (m.put (bndI a)) := h.put (wh_b rfl (Or.inr rfl) rfl) (fun _ => ⟨rfl, ha⟩)
theorem JBR.one (h : JBR PM NN K E m) (hp : PKO m.pk ∨ ∃ e S0, m.S = e :: S0 ∧ (e.1 = 11 ∨ e.1 = 1)) : JBR PM NN K E (m.one tb) := by
  cases hs : m.S with
  | nil => rw [show m.one tb = m by unfold MK.one; rw [hs]]; exact h
  | cons e S0 =>
    obtain ⟨he, hS0⟩ := h.rest hs
    have pk : e.1 ≠ 11 → e.1 ≠ 1 → PKO m.pk := fun a b => hp.elim id (fun ⟨e', S', x, y⟩ => by
      have z := List.cons.inj (hs.symm.trans x)
      rw [← z.1] at y
      exact absurd y (by omega))
    rcases one_fx (tb := tb) hs with ⟨a, b⟩ | ⟨a, b⟩ | ⟨a, b⟩ | ⟨a, b⟩ | ⟨a, b⟩ | ⟨a, b⟩ | ⟨a, b⟩ | ⟨a, b⟩
    · rw [b]
      have k5 : 0 ≤ (if e.2.1 < 6 then e.2.1 else 5) ∧ (if e.2.1 < 6 then e.2.1 else 5) ≤ 5 := by
        have := (he.1 a).1
        split <;> omega
      exact JBR.sT (JBR.sP (JBR.sS (h.put (wh_it2 k5.1 k5.2 (he.1 a).2 (pk (by omega) (by omega))) (bn_ne (show (if e.2.1 < 6 then e.2.1 else 5) ≠ 12 by omega))) hS0))
    · rw [b]; exact JBR.sS (h.p0 (by decide)) hS0
    · rw [b]; exact JBR.sL (JBR.sS (h.p1 (by decide) (pk (by omega) (by omega))) (ej_cons (ej_o (show (3 : Int) ≠ 0 by decide) (show (3 : Int) ≠ 8 by decide) (show (3 : Int) ≠ 9 by decide)) hS0))
    · rw [b]; exact JBR.sS (h.p0 (by decide)) hS0
    · rw [b]; exact JBR.sL (JBR.sS (h.p1 (by decide) (pk (by omega) (by omega))) (ej_cons (ej_o (show (7 : Int) ≠ 0 by decide) (show (7 : Int) ≠ 8 by decide) (show (7 : Int) ≠ 9 by decide)) hS0))
    · rw [b]; exact JBR.sS (h.p1 (by split <;> decide) (pk (by omega) (by omega))) hS0
    · rw [b]; exact JBR.sS (h.p1 (by decide) (Or.inl rfl)) hS0
    · rw [b]; exact h
theorem JBR.two (h : JBR PM NN K E m) (hp : PKO m.pk ∨ ∃ e S0, m.S = e :: S0 ∧ e.1 = 5) : JBR PM NN K E m.two := by
  cases hs : m.S with
  | nil => rw [show m.two = m by unfold MK.two; rw [hs]]; exact h
  | cons e S0 =>
    obtain ⟨he, hS0⟩ := h.rest hs
    have pk : e.1 ≠ 5 → PKO m.pk := fun a => hp.elim id (fun ⟨e', S', x, y⟩ => by
      have z := List.cons.inj (hs.symm.trans x)
      rw [← z.1] at y
      exact absurd y a)
    rcases two_fx hs with ⟨a, b⟩ | ⟨a, b⟩ | ⟨a, b⟩ | ⟨a, b⟩ | ⟨a, b⟩
    · rw [b]; exact JBR.sS (JBR.pb (h.p1 (by decide) (pk (by omega))) (he.2.1 (Or.inl a))) hS0
    · rw [b]; exact JBR.sL (JBR.sS (JBR.p0 (h.p0 (by decide)) (by decide)) (ej_cons (ej_o (show (6 : Int) ≠ 0 by decide) (show (6 : Int) ≠ 8 by decide) (show (6 : Int) ≠ 9 by decide)) hS0))
    · rw [b]; exact JBR.sL (JBR.sS (JBR.p0 (h.p0 (by decide)) (by decide)) (ej_cons (ej_o (show (3 : Int) ≠ 0 by decide) (show (3 : Int) ≠ 8 by decide) (show (3 : Int) ≠ 9 by decide)) hS0))
    · rw [b]; exact JBR.sS (JBR.p0 (h.p0 (by decide)) (by decide)) hS0
    · rw [b]; exact h
theorem JBR.cal (h : JBR PM NN K E m) (hs : m.S = e :: S0) (h9 : e.1 = 9) (hS : ∀ z ∈ S0, z.1 ≠ 9) (hC : PM (rn w) ≤ E) : JBR PM NN K E' (m.cal rn w) := by
  obtain ⟨he, hS0⟩ := h.rest hs
  rcases cal_fx (rn := rn) (w := w) hs with ⟨a, b⟩ | ⟨a, b⟩
  · rw [b]
    have q := he.2.2 h9
    exact JBR.sS (JBR.pb (h.put (wh_itC (by rw [q.1]; exact hC) q.2) (bn_ne (show (10 : Int) ≠ 12 by decide))) (he.2.1 (Or.inr h9))) (fun z hz => (hS0 z hz).ev1 (hS z hz))
  · exact absurd h9 a
theorem no34 (h : stk s k t x q = some r) (hk : k ≠ 35) : 34 ∉ r.1 := by
  unfold stk at h
  split at h
  all_goals (repeat' split at h)
  all_goals first
    | (cases h; done)
    | (cases h; simp; done)
    | exact absurd rfl hk
theorem q2e (h : stk s k t x q = some r) (h25 : k ≠ 25) (h27 : k ≠ 27) (h38 : k ≠ 38) : r.2.2.2.1.2.1 = q.2.1 := by
  unfold stk at h
  split at h
  all_goals (repeat' split at h)
  all_goals first
    | (cases h; done)
    | (cases h; rfl)
    | exact absurd rfl h25
    | exact absurd rfl h27
    | exact absurd rfl h38
theorem one_pk : PKO (m.one tb).pk ∨ (m.one tb).pk = m.pk := by
  unfold MK.one
  split
  · exact Or.inr rfl
  · repeat' split
    all_goals first
      | exact Or.inr rfl
      | exact Or.inl (Or.inr rfl)
theorem mkk_pk : PKO (mkk s nm rn tb k t q m).pk ∨ (mkk s nm rn tb k t q m).pk = m.pk := by
  unfold mkk
  split
  all_goals first
    | exact one_pk
    | exact Or.inr (congrArg Prod.fst two_q.2.2)
    | exact Or.inr (congrArg Prod.fst cal_q.2.2)
    | exact Or.inr (congrArg Prod.fst top_q.2.2)
    | exact Or.inr rfl
    | (repeat' split) <;> first | exact Or.inr rfl | exact Or.inl (Or.inl rfl) | exact Or.inl (Or.inr rfl) | exact Or.inr (congrArg Prod.fst top_q.2.2)
theorem mkk_rt (hk : k ≠ 34) : (mkk s nm rn tb k t q m).rt = m.rt := by
  unfold mkk
  split
  all_goals first
    | exact absurd rfl hk
    | exact one_q.2
    | exact two_q.2.1
    | exact cal_q.2.1
    | exact top_q.2.1
    | rfl
    | (repeat' split) <;> first | rfl | exact top_q.2.1
theorem top_s {g : ME → ME} (h : m.S = e :: S0) : m.top g = m.sS (g e :: S0) := by
  unfold MK.top
  rw [h]
theorem JBR.st (h : JBR PM NN (k :: K) q.2.1 m) (hs : stk s k t x q = some r) (hN : k = 23 → 0 ≤ nm m.rt t.2.2.2.2 ∧ nm m.rt t.2.2.2.2 < NN m.rt) (hC : k = 38 → PM (rn q.1) ≤ q.2.1) (hp : k = 6 ∨ k = 8 ∨ k = 9 ∨ k = 27 → PKO m.pk) (h51 : k = 51 → PKO m.pk ∨ ∃ e S0, m.S = e :: S0 ∧ (e.1 = 11 ∨ e.1 = 1)) (h52 : k = 52 → PKO m.pk ∨ ∃ e S0, m.S = e :: S0 ∧ e.1 = 5) (n25 : k = 25 → (∃ e S0, m.S = e :: S0 ∧ e.1 = 8) ∧ ∀ e ∈ m.S, e.1 ≠ 9) (n9 : k = 27 ∨ k = 38 → ∃ e S0, m.S = e :: S0 ∧ e.1 = 9 ∧ ∀ z ∈ S0, z.1 ≠ 9) (k34 : k = 34 → 34 ∉ K ∧ m.S = []) : JBR PM NN (r.1 ++ K) r.2.2.2.1.2.1 (mkk s nm rn tb k t q m) := by
  by_cases k35 : k = 35
  · subst k35
    obtain rfl := Option.some.inj (hs.symm.trans rfl)
    refine ⟨fun e he => ?_, fun _ => ⟨Int.le_refl _, fun k a b => absurd (show k < 0 from b) (by omega), fun k a b => absurd (show k < 0 from b) (by omega)⟩, h.2.2⟩
    have z : e = (11, 0, 0, []) := List.mem_singleton.mp he
    rw [z]
    exact ej_o (show (11 : Int) ≠ 0 by decide) (show (11 : Int) ≠ 8 by decide) (show (11 : Int) ≠ 9 by decide)
  by_cases k34' : k = 34
  · subst k34'
    obtain rfl := Option.some.inj (hs.symm.trans rfl)
    refine ⟨fun e he => absurd (show e ∈ m.S from he) (by rw [(k34 rfl).2]; exact List.not_mem_nil), fun z => absurd (show 34 ∈ K from z) (k34 rfl).1, fun y => ?_⟩
    · show BDJ PM NN y (uZ m.dn m.rt (m.n, m.V) y).2 (uZ m.dn m.rt (m.n, m.V) y).1
      by_cases z : y = m.rt
      · rw [z, uZ_eq]; exact h.2.1 List.mem_cons_self
      · rw [uZ_ne z]; exact h.2.2 y
  have kk : 34 ∈ r.1 ++ K → 34 ∈ k :: K := fun z => List.mem_cons_of_mem _ ((List.mem_append.mp z).elim (fun u => absurd u (no34 hs k35)) id)
  by_cases k25 : k = 25
  · subst k25
    obtain ⟨⟨e, S0, hS, e8⟩, n25⟩ := n25 rfl
    by_cases z : nam t ∧ sgn (advT s t.2.1) 40
    · obtain rfl := Option.some.inj (hs.symm.trans ((if_pos z.1).trans (if_pos z.2)))
      rw [show mkk s nm rn tb 25 t q m = m.top (fun e => if e.1 = 8 then (9, e.2.1, 0, []) else e) from if_pos z, top_s hS, if_pos e8]
      obtain ⟨he, hS0⟩ := h.rest hS
      exact JBR.sS (h.KK kk) (ej_cons (ej_9 (he.2.1 (Or.inl e8)) rfl (fun z hz => absurd hz List.not_mem_nil)) (fun z hz => (hS0 z hz).ev1 (n25 z (by rw [hS]; exact List.mem_cons_of_mem _ hz))))
    · rw [show mkk s nm rn tb 25 t q m = m from if_neg z]
      refine ⟨fun e he => (h.1 e he).ev1 (n25 e he), fun u => h.2.1 (kk u), h.2.2⟩
  by_cases k27 : k = 27
  · subst k27
    obtain ⟨e, S0, hS, e9, n9⟩ := n9 (Or.inl rfl)
    obtain ⟨he, hS0⟩ := h.rest hS
    have q9 := he.2.2 e9
    have eq : r.2.2.2.1.2.1 = q.2.1 + 1 := by
      by_cases z : sgn t 44
      · obtain rfl := Option.some.inj (hs.symm.trans (if_pos z)); rfl
      · obtain rfl := Option.some.inj (hs.symm.trans (if_neg z)); rfl
    rw [show mkk s nm rn tb 27 t q m = m.top (fun e => if e.1 = 9 then (9, e.2.1, 0, e.2.2.2 ++ [(m.pk, m.pv)]) else e) from rfl, top_s hS, if_pos e9, eq]
    refine JBR.sS (h.KK kk) (ej_cons (ej_9 (he.2.1 (Or.inr e9)) (by rw [List.length_append, List.length_singleton, ← q9.1]; omega) (fun z hz => ?_)) (fun z hz => (hS0 z hz).ev1 (n9 z hz)))
    rcases List.mem_append.mp hz with u | u
    · exact q9.2 z u
    · rw [List.mem_singleton.mp u]; exact hp (Or.inr (Or.inr (Or.inr rfl)))
  by_cases k38 : k = 38
  · subst k38
    obtain ⟨e, S0, hS, e9, n9⟩ := n9 (Or.inr rfl)
    rw [show mkk s nm rn tb 38 t q m = m.cal rn q.1 from rfl]
    exact JBR.cal (h.KK kk) hS e9 n9 (hC rfl)
  rw [q2e hs k25 k27 k38]
  replace h := h.KK kk
  clear kk
  by_cases k0 : k = 0
  · subst k0
    by_cases z : sgn t 45
    · rw [show mkk s nm rn tb 0 t q m = m.push (0, 2, 1, [(0, 0)]) from if_pos z]
      exact h.psh (ej_0 (by decide) (Or.inl rfl))
    · rw [show mkk s nm rn tb 0 t q m = m from if_neg z]; exact h
  by_cases k1 : k = 1
  · subst k1
    show JBR PM NN (r.1 ++ K) q.2.1 (if t.2.2.1 = 3 then m.sP 1 t.2.2.2.1 else if nam t then m.sP 2 (nm m.rt t.2.2.2.2) else m)
    repeat' split
    · exact h.sP
    · exact h.sP
    · exact h
  by_cases k6 : k = 6
  · subst k6
    have p := hp (Or.inl rfl)
    show JBR PM NN (r.1 ++ K) q.2.1 (if sgn t 61 then m.push (0, 4, m.pk, [(m.pv, 0)]) else if sgn t 60 then m.push (0, 5, m.pk, [(m.pv, 0)]) else m)
    repeat' split
    · exact h.psh (ej_0 (by decide) p)
    · exact h.psh (ej_0 (by decide) p)
    · exact h
  by_cases k8 : k = 8
  · subst k8
    have p := hp (Or.inr (Or.inl rfl))
    show JBR PM NN (r.1 ++ K) q.2.1 (if sgn t 43 then m.push (0, 1, m.pk, [(m.pv, 0)]) else if sgn t 45 then m.push (0, 2, m.pk, [(m.pv, 0)]) else m)
    repeat' split
    · exact h.psh (ej_0 (by decide) p)
    · exact h.psh (ej_0 (by decide) p)
    · exact h
  by_cases k9 : k = 9
  · subst k9
    have p := hp (Or.inr (Or.inr (Or.inl rfl)))
    show JBR PM NN (r.1 ++ K) q.2.1 (if sgn t 42 then m.push (0, 3, m.pk, [(m.pv, 0)]) else m)
    repeat' split
    · exact h.psh (ej_0 (by decide) p)
    · exact h
  by_cases k20 : k = 20
  · subst k20
    show JBR PM NN (r.1 ++ K) q.2.1 (if wrd t 512852847717 then m.stm else m.stm.push (1, 0, 0, []))
    repeat' split
    · exact h.stm
    · exact h.stm.psh (ej_o (show (1 : Int) ≠ 0 by decide) (show (1 : Int) ≠ 8 by decide) (show (1 : Int) ≠ 9 by decide))
  by_cases k21 : k = 21
  · subst k21
    exact h.psh (e := (2, 0, 0, [])) (ej_o (show (2 : Int) ≠ 0 by decide) (show (2 : Int) ≠ 8 by decide) (show (2 : Int) ≠ 9 by decide))
  by_cases k22 : k = 22
  · subst k22
    exact h.psh (e := (5, 0, 0, [])) (ej_o (show (5 : Int) ≠ 0 by decide) (show (5 : Int) ≠ 8 by decide) (show (5 : Int) ≠ 9 by decide))
  by_cases k23 : k = 23
  · subst k23
    exact h.psh (e := (8, nm m.rt t.2.2.2.2, 0, [])) (ej_8 (hN rfl))
  by_cases k24 : k = 24
  · subst k24
    show JBR PM NN (r.1 ++ K) q.2.1 (if wrd t 1701606245 then m.top (fun e => if e.1 = 3 then (4, e.2.1, 0, []) else e) else m)
    split
    · cases hS : m.S with
      | nil => rw [show m.top (fun e => if e.1 = 3 then (4, e.2.1, 0, []) else e) = m by unfold MK.top; rw [hS]]; exact h
      | cons e S0 =>
        obtain ⟨he, hS0⟩ := h.rest hS
        rw [top_s hS]
        refine JBR.sS h (ej_cons ?_ hS0)
        show EJ NN m.rt q.2.1 (if e.1 = 3 then (4, e.2.1, 0, []) else e)
        split
        · exact ej_o (show (4 : Int) ≠ 0 by decide) (show (4 : Int) ≠ 8 by decide) (show (4 : Int) ≠ 9 by decide)
        · exact he
    · exact h
  by_cases k39 : k = 39
  · subst k39
    show JBR PM NN (r.1 ++ K) q.2.1 (if wrd t 7304564 then m.push (10, 6, 0, []) else m.push (10, 7, 0, []))
    split
    · exact h.psh (ej_o (show (10 : Int) ≠ 0 by decide) (show (10 : Int) ≠ 8 by decide) (show (10 : Int) ≠ 9 by decide))
    · exact h.psh (ej_o (show (10 : Int) ≠ 0 by decide) (show (10 : Int) ≠ 8 by decide) (show (10 : Int) ≠ 9 by decide))
  by_cases k51 : k = 51
  · subst k51; exact JBR.one h (h51 rfl)
  by_cases k52 : k = 52
  · subst k52; exact JBR.two h (h52 rfl)
  rw [mkk_df (by omega)]
  exact h
end JBS
def JM (PM NN tb : Int → Int) (p0 p2 : Int) (K : List Nat) (E : Int) (M m : MK) : Prop := RLM tb (fun x => x) K M m ∧ ((PKO M.pk ∨ M.pk = p0) ∧ (PKO m.pk ∨ m.pk = p2)) ∧ (rnT K (tyS m.S) = some [] ∧ OKC K) ∧ JBR PM NN K E m
def z0E : List EW → Int
  | [] => 0
  | e :: es => (if e.1 = 0 then 1 else 0) + z0E es
def NOK (N : Int → Int64 → Prop) (C : EW → Prop) : Int → List EW → Prop
  | _, [] => True
  | y, e :: es => (e.1 = 4 → N y e.2.2.2) ∧ (e.1 = 1 → C e) ∧ NOK N C (if e.1 = 0 then y + 1 else y) es
section JMS
variable {PM NN tb : Int → Int} {s : Int → Int} {nm : Int → Int64 → Int} {rn : Int64 → Int} {k : Nat} {K : List Nat} {t : TK} {x : Int × Int × Int} {q : QR} {ρ : List EV} {r : List Nat × TK × (Int × Int × Int) × QR × List EV} {M m : MK} {E y p0 p2 : Int} {N : Int → Int64 → Prop} {C : EW → Prop} {es fs : List EW}
theorem hdr_h (h : HDR (k :: K)) : k = 36 ∨ k = 30 ∨ k = 140 ∨ k = 31 ∨ k = 141 ∨ k = 32 ∨ k = 33 ∨ k = 35 := by
  rcases h with a | a | a | a | a | a | a | a | a
  · exact absurd a (by simp)
  all_goals (have b := (List.cons.inj a).1; omega)
theorem jm_q (h : RLM tb (fun x => x) (k :: K) M m) (hM : PKO M.pk ∨ M.pk = p0) (hm : PKO m.pk ∨ m.pk = p2) (h0 : p0 ≠ p2) (hk : ¬ (k = 36 ∨ k = 30 ∨ k = 140 ∨ k = 31 ∨ k = 141 ∨ k = 32 ∨ k = 33 ∨ k = 35)) : (PKO m.pk ∨ DIR (k :: K) M.S) ∧ SLR (tb M.rt) M.S m.S ∧ BOT (k :: K) := by
  obtain ⟨-, -, c⟩ := h
  rcases c with c | ⟨b, ⟨-, -, sl⟩, d⟩
  · exact absurd (hdr_h c) hk
  · refine ⟨d.imp (fun p => ?_) id, sl, b⟩
    have e : m.pk = M.pk := p.1
    rcases hM with u | u
    · rw [e]; exact u
    · rcases hm with v | v
      · exact v
      · exact absurd (u.symm.trans (e.symm.trans v)) h0
theorem slr_1 {N : Int} {S S' : List ME} {e : ME} {S0 : List ME} (h : SLR N S S') (hS : S = e :: S0) : ∃ e' S1, S' = e' :: S1 ∧ e'.1 = e.1 := by
  rw [hS] at h
  obtain ⟨e', S1, a, b, -⟩ := h.cons
  exact ⟨e', S1, a, b.1⟩
theorem n9_no {S : List ME} (h : n9T (tyS S) = 0) : ∀ e ∈ S, e.1 ≠ 9 := fun e he => n9_z h e.1 (List.mem_map.mpr ⟨e, he, rfl⟩)
theorem JM.st (hnm : ∀ r w, nm r w < 1000) (hp : p0 ≠ p2) (h : JM PM NN tb p0 p2 (k :: K) q.2.1 M m) (hs : stk s k t x q = some r) (hN : k = 23 → 0 ≤ nm m.rt t.2.2.2.2 ∧ nm m.rt t.2.2.2.2 < NN m.rt) (hC : k = 38 → PM (rn q.1) ≤ q.2.1) : JM PM NN tb p0 p2 (r.1 ++ K) r.2.2.2.1.2.1 (mkk s nm rn tb1 k t q M) (mkk s nm rn tb k t q m) := by
  obtain ⟨h1, ⟨hM, hm⟩, ⟨hr, hO⟩, hJ⟩ := h
  have g1 : RLM tb (fun x => x) (r.1 ++ K) (mkk s nm rn tb1 k t q M) (mkk s nm rn tb k t q m) := RLM.step (rn := rn) hnm h1 hs
  obtain ⟨S1, c1, c2⟩ := rnT_ex hr
  have g3 : rnT (r.1 ++ K) (tyS (mkk s nm rn tb k t q m).S) = some [] := (rnT_app r.1 (rnT_st c1 hs)).trans c2
  have up : ∀ {tb : Int → Int} {m : MK} {p : Int}, PKO m.pk ∨ m.pk = p → PKO (mkk s nm rn tb k t q m).pk ∨ (mkk s nm rn tb k t q m).pk = p := by
    intro tb m p u
    rcases mkk_pk (s := s) (nm := nm) (rn := rn) (tb := tb) (k := k) (t := t) (q := q) (m := m) with v | v
    · exact Or.inl v
    · rw [v]; exact u
  refine ⟨g1, ⟨up hM, up hm⟩, ⟨g3, hO.st hs⟩, ?_⟩
  have n9 : n9T (tyS m.S) = ncT (k :: K) := by
    have z := n9_r _ hr
    have z2 : n9T ([] : List Int) = 0 := rfl
    omega
  have cg : CTG k → ncT K = 0 := fun z => nc_0 (hO.1 (Or.inl z))
  refine JBR.st hJ hs hN hC (fun z => ?_) (fun z => ?_) (fun z => ?_) (fun z => ?_) (fun z => ?_) (fun z => ?_)
  · have d := (jm_q h1 hM hm hp (by omega)).1
    exact d.elim id (fun d => (d.no (by omega)).elim)
  · subst z
    obtain ⟨d, sl, -⟩ := jm_q h1 hM hm hp (by omega)
    refine d.imp id (fun d => ?_)
    obtain ⟨e, S', d1, d2⟩ := d.b51
    obtain ⟨e', S2, a, b⟩ := slr_1 sl d1
    exact ⟨e', S2, a, by rw [b]; exact d2.imp (fun u => u.1) (fun u => u.1)⟩
  · subst z
    obtain ⟨d, sl, -⟩ := jm_q h1 hM hm hp (by omega)
    refine d.imp id (fun d => ?_)
    obtain ⟨e, S', d1, d2, -⟩ := d.b52
    obtain ⟨e', S2, a, b⟩ := slr_1 sl d1
    exact ⟨e', S2, a, b.trans d2⟩
  · subst z
    obtain ⟨e, S0, a, b, -⟩ := ty_c (m := m) rfl (cnP_1 (show cnP [8] (tyS m.S) = some S1 from c1))
    refine ⟨⟨e, S0, a, b⟩, n9_no ?_⟩
    rw [n9, nc_c, cg (Or.inr (Or.inl rfl)), if_neg (by decide)]
  · have c9 : cnP [9] (tyS m.S) = some S1 := by
      rcases z with rfl | rfl
      · exact c1
      · exact c1
    obtain ⟨e, S0, a, b, c⟩ := ty_c (m := m) rfl (cnP_1 c9)
    refine ⟨e, S0, a, b, n9_no ?_⟩
    have w : n9T (tyS m.S) = 1 := by
      rw [n9, nc_c, cg (by unfold CTG; omega), if_pos (by omega)]
    rw [cnP_1 c9, n9_c, if_pos rfl] at w
    rw [c]; omega
  · subst z
    obtain ⟨-, -, p, e, nt⟩ := jm_q h1 hM hm hp (by omega)
    have p0 : p = [] := by
      cases p with
      | nil => rfl
      | cons a p =>
        have b : (34 : Nat) = a := (List.cons.inj e).1
        have n := nt a List.mem_cons_self
        rw [← b] at n
        exact absurd n (by unfold NTg; omega)
    rw [p0] at e
    have eK : K = [36] := (List.cons.inj e).2
    refine ⟨by rw [eK]; decide, ?_⟩
    have z : S1 = tyS m.S := by
      rw [cnT_n (by decide)] at c1
      exact (Option.some.inj c1).symm
    rw [eK, z] at c2
    have c4 : tyS m.S = [] := by
      cases e : tyS m.S with
      | nil => rfl
      | cons z0 L => rw [e] at c2; exact absurd c2 (by simp [rnT, cnT])
    cases e : m.S with
    | nil => rfl
    | cons e0 S0 =>
      rw [e] at c4
      exact absurd (show e0.1 :: tyS S0 = [] from c4) (by simp)
theorem NOK.tl (h : NOK N C y (evk k t x q ++ fs)) (hk : k ≠ 34) : NOK N C y fs := by
  unfold evk at h
  split at h
  all_goals (repeat' split at h)
  all_goals first
    | exact h
    | exact h.2.2
    | exact absurd rfl hk
theorem nok_23 (h : NOK N C y (evk 23 t x q ++ fs)) : N y t.2.2.2.2 := h.1 rfl
theorem nok_38 (h : NOK N C y (evk 38 t x q ++ fs)) : C (1, q.2.2.1, q.2.1, q.1) := h.2.1 rfl
theorem nok_34 (h : NOK N C y (evk 34 t x q ++ fs)) : NOK N C (y + 1) fs := h.2.2
theorem JM.run (hnm : ∀ r w, nm r w < 1000) (hp : p0 ≠ p2) (hN : ∀ y w, N y w → 0 ≤ nm y w ∧ nm y w < NN y) (hC : ∀ e, C e → PM (rn e.2.2.2) ≤ e.2.2.1) : ∀ (n : Nat) {a : PCf} {M m : MK}, (JM PM NN tb p0 p2 a.1 a.2.2.2.1.2.1 M m ∨ a = pF) → NOK N C m.rt (evs s n a) → JM PM NN tb p0 p2 (itr s n a).1 (itr s n a).2.2.2.1.2.1 (mkn s nm rn tb1 n a M) (mkn s nm rn tb n a m) ∨ itr s n a = pF
  | 0, _, _, _, h, _ => h
  | n + 1, a, M, m, h, e => by
    rcases h with h | h
    · obtain ⟨K0, t, x, q, ρ⟩ := a
      show JM PM NN tb p0 p2 (itr s n (stp s (K0, t, x, q, ρ))).1 (itr s n (stp s (K0, t, x, q, ρ))).2.2.2.1.2.1 (mkn s nm rn tb1 n (stp s (K0, t, x, q, ρ)) (mkt s nm rn tb1 (K0, t, x, q, ρ) M)) (mkn s nm rn tb n (stp s (K0, t, x, q, ρ)) (mkt s nm rn tb (K0, t, x, q, ρ) m)) ∨ itr s n (stp s (K0, t, x, q, ρ)) = pF
      have e : NOK N C m.rt (evt s (K0, t, x, q, ρ) ++ evs s n (stp s (K0, t, x, q, ρ))) := e
      cases K0 with
      | nil => exact JM.run hnm hp hN hC n (Or.inl h) e
      | cons k K =>
        cases es : stk s k t x q with
        | none => rw [stp_none es]; exact Or.inr (itr_fix (stp_pF s) n)
        | some r =>
          have ev : evt s (k :: K, t, x, q, ρ) = evk k t x q := by
            by_cases z : k = 999
            · subst z
              exact (if_pos rfl : (if (999 : Nat) = 999 then ([] : List EW) else match stk s 999 t x q with
                | none => [(9, t.1, 0, 0)]
                | some _ => evk 999 t x q) = [])
            · exact evt_s z es
          rw [ev] at e
          rw [mkt_s es, mkt_s es, stp_some es]
          rw [stp_some es] at e
          refine JM.run hnm hp hN hC n (Or.inl (h.st hnm hp es (fun z => ?_) (fun z => ?_))) ?_
          · subst z; exact hN _ _ (nok_23 e)
          · subst z; exact hC _ (nok_38 e)
          · by_cases z : k = 34
            · subst z; exact nok_34 e
            · rw [mkk_rt z]; exact e.tl z
    · exact Or.inr (by rw [h]; exact itr_fix (stp_pF s) _)
theorem JM.fin {p v : Int} {m' : MK} {t0 t1 t2 : TK} {x0 x1 x2 : Int × Int × Int} {q0 q1 q2 : QR} {l0 l1 l2 : List EV} (hnm : ∀ r w, nm r w < 1000) (hN : ∀ y w, N y w → 0 ≤ nm y w ∧ nm y w < NN y) (hC : ∀ e, C e → PM (rn e.2.2.2) ≤ e.2.2.1) (h : RM s nm rn tb ([36], t0, x0, q0, l0) (mk00 p v) ([], t1, x1, q1, l1) m') (g : RE s ([36], t0, x0, q0, l0) es ([], t2, x2, q2, l2)) (ok : NOK N C 0 es) : ∀ y, BDJ PM NN y (m'.dn y).2 (m'.dn y).1 := by
  obtain ⟨n, h1, h2⟩ := h
  obtain ⟨k, g1, g2⟩ := g
  have d : evs s n ([36], t0, x0, q0, l0) = es := by
    by_cases z : n ≤ k
    · obtain ⟨j, rfl⟩ : ∃ j, k = n + j := ⟨k - n, by omega⟩
      rw [evs_add, h1, evs_fix rfl evt_nil, List.append_nil] at g2
      exact g2
    · obtain ⟨j, rfl⟩ : ∃ j, n = k + j := ⟨n - k, by omega⟩
      rw [evs_add, g1, evs_fix rfl evt_nil, List.append_nil]
      exact g2
  have j0 : JM PM NN tb (p + 1) p [36] q0.2.1 (mk00 (p + 1) v) (mk00 p v) := ⟨RLM.hd rfl ⟨rfl, fun q => ⟨rfl, fun k a b => absurd (show k < 0 from b) (by omega)⟩⟩ (Or.inr (Or.inl rfl)), ⟨Or.inr rfl, Or.inr rfl⟩, ⟨rfl, fun _ z hz => absurd hz List.not_mem_nil, trivial⟩, fun e he => absurd he List.not_mem_nil, fun z => absurd z (by decide), fun y => ⟨Int.le_refl _, fun k a b => absurd (show k < 0 from b) (by omega), fun k a b => absurd (show k < 0 from b) (by omega)⟩⟩
  have w := JM.run (s := s) (rn := rn) hnm (show p + 1 ≠ p by omega) hN hC n (a := ([36], t0, x0, q0, l0)) (Or.inl j0) (by rw [d]; exact ok)
  rw [h1, h2] at w
  rcases w with w | w
  · exact w.2.2.2.2.2
  · exact absurd (congrArg Prod.fst w) (by show ¬ ([] : List Nat) = [999]; simp)
end JMS
def KNF (r : RS) (y : Int) (w : Int64) : Prop := ∃ i, (0 ≤ i ∧ i < 12) ∧ i < r.nn y ∧ r.nw (12 * y + i) = w
section NKT
variable {r : RS} {y : Int} {w w2 : Int64} {e : EW} {es : List EW} {c : CS} {N : Int → Int64 → Prop} {C : EW → Prop}
theorem knf_nm (h : KNF r y w) (hy : 0 ≤ y ∧ y ≤ r.rt) (hb : NBD r) : KNF (sNm r w2) y w := by
  unfold sNm
  by_cases z : r.ph = 1 ∧ r.rt < 6 ∧ ¬ fndN r w2 ∧ r.nn r.rt ≠ 12
  · rw [ifP_t z]
    obtain ⟨i, i0, i1, i2⟩ := h
    have b := hb r.rt (by omega) z.2.1
    refine ⟨i, i0, ?_, ?_⟩
    · show i < up1 r.nn r.rt (r.nn r.rt + 1) y
      unfold up1
      by_cases u : y = r.rt
      · rw [if_pos u]; rw [u] at i1; omega
      · rw [if_neg u]; exact i1
    · show up1 r.nw (12 * r.rt + r.nn r.rt) w2 (12 * y + i) = w
      unfold up1
      rw [if_neg (by
        by_cases u : y = r.rt
        · rw [u] at i1 ⊢; omega
        · omega)]
      exact i2
  · rw [ifP_f z]; exact h
theorem rt_u : (uR r e).rt = r.rt + (if e.1 = 0 then 1 else 0) := by
  show (sR r e).rt = _
  have nm : ∀ w, (sNm r w).rt = r.rt := fun w => by
    unfold sNm
    by_cases z : r.ph = 1 ∧ r.rt < 6 ∧ ¬ fndN r w ∧ r.nn r.rt ≠ 12
    · rw [ifP_t z]
    · rw [ifP_f z]
  unfold sR
  by_cases c2 : e.1 = 2
  · rw [if_pos c2, if_neg (by omega)]
    by_cases z : r.ph = 1
    · rw [ifP_t z]; show r.rt = r.rt + 0; omega
    · rw [ifP_f z]; omega
  rw [if_neg c2]
  by_cases c3 : e.1 = 3
  · rw [if_pos c3, if_neg (by omega)]
    by_cases z : r.ph = 1
    · rw [ifP_t z, nm]; omega
    · rw [ifP_f z]; omega
  rw [if_neg c3]
  by_cases c7 : e.1 = 7
  · rw [if_pos c7, if_neg (by omega)]
    by_cases z : r.ph = 1
    · rw [ifP_t z]; show r.rt = r.rt + 0; omega
    · rw [ifP_f z]; omega
  rw [if_neg c7]
  by_cases c4 : e.1 = 4
  · rw [if_pos c4, if_neg (by omega), nm]; omega
  rw [if_neg c4]
  by_cases c5 : e.1 = 5
  · rw [if_pos c5, if_neg (by omega)]; show r.rt = r.rt + 0; omega
  rw [if_neg c5]
  by_cases c1 : e.1 = 1
  · rw [if_pos c1, if_neg (by omega)]; omega
  rw [if_neg c1]
  by_cases c0 : e.1 = 0
  · rw [if_pos c0, if_pos c0]
  · rw [if_neg c0, if_neg c0]; omega
theorem KNF.u (h : KNF r y w) (hy : 0 ≤ y ∧ y ≤ r.rt) (hb : NBD r) : KNF (uR r e) y w := by
  have go : KNF (sR r e) y w := by
    unfold sR
    split
    · by_cases z : r.ph = 1
      · rw [ifP_t z]; exact h
      · rw [ifP_f z]; exact h
    split
    · by_cases z : r.ph = 1
      · rw [ifP_t z]; exact knf_nm h hy hb
      · rw [ifP_f z]; exact h
    split
    · by_cases z : r.ph = 1
      · rw [ifP_t z]; exact h
      · rw [ifP_f z]; exact h
    split
    · exact knf_nm h hy hb
    split
    · exact h
    split
    · exact h
    split
    · exact h
    exact h
  exact go
theorem KNF.fold : ∀ (es : List EW) {r : RS}, KNF r y w → 0 ≤ y → y ≤ r.rt → NBD r → KNF (es.foldl uR r) y w
  | [], _, h, _, _, _ => h
  | e :: es, r, h, y0, y1, hb => by
    refine KNF.fold es (h.u (e := e) ⟨y0, y1⟩ hb) y0 ?_ (uR_m (e := e) (show 0 ≤ r.rt by omega) hb).2.1
    rw [rt_u]
    split <;> omega
theorem rt_fold : ∀ (es : List EW) {r : RS}, (es.foldl uR r).rt = r.rt + z0E es
  | [], r => by show r.rt = r.rt + 0; omega
  | e :: es, r => by
    show (es.foldl uR (uR r e)).rt = r.rt + ((if e.1 = 0 then 1 else 0) + z0E es)
    rw [rt_fold es, rt_u]
    omega
theorem nok_of : ∀ (es : List EW) {y : Int}, (∀ e1 e e2, es = e1 ++ e :: e2 → (e.1 = 4 → N (y + z0E e1) e.2.2.2) ∧ (e.1 = 1 → C e)) → NOK N C y es
  | [], _, _ => trivial
  | e :: es, y, h => ⟨fun z => by
      have q := (h [] e es rfl).1 z
      rw [show y + z0E [] = y by show y + 0 = y; omega] at q
      exact q, (h [] e es rfl).2, nok_of es (fun e1 x e2 q => by
      have g := h (e :: e1) x e2 (by rw [q]; rfl)
      refine ⟨fun z => ?_, g.2⟩
      have w := g.1 z
      have eq : (if e.1 = 0 then y + 1 else y) + z0E e1 = y + z0E (e :: e1) := by
        show _ = y + ((if e.1 = 0 then 1 else 0) + z0E e1)
        by_cases u : e.1 = 0
        · rw [if_pos u, if_pos u]; omega
        · rw [if_neg u, if_neg u]; omega
      rw [eq]; exact w)⟩
theorem rn_u : c.rn ≤ (uC c e).rn := by
  show c.rn ≤ (sC c e).rn
  have nm : ∀ w, (sCn c w).rn = c.rn := fun w => by
    unfold sCn
    by_cases z : ¬ fndC c w ∧ ¬ 12 ≤ c.nn
    · rw [ifP_t z]
    · rw [ifP_f z]
  unfold sC
  split
  · show c.rn ≤ c.rn + 1; omega
  split
  · show c.rn ≤ (sCn c _).rn; rw [nm]; exact Int.le_refl _
  split
  · exact Int.le_refl _
  split
  · rw [nm]; exact Int.le_refl _
  split
  · exact Int.le_refl _
  split
  · exact Int.le_refl _
  exact Int.le_refl _
theorem rn_f : ∀ (es : List EW) {c : CS}, c.rn ≤ (es.foldl uC c).rn
  | [], _ => Int.le_refl _
  | e :: es, c => Int.le_trans (rn_u (e := e)) (rn_f es)
theorem cnt_z9 : ∀ (M : List NT) {a : FP}, POS M → (cnts M a).1 = 0 → M = [] ∧ a.1 = 0
  | [], _, _, h => ⟨rfl, h⟩
  | n :: M, a, g, h => by
    have q := cnt_z9 M (a := cntN n.2 n.1 a) (fun m w => g m (List.mem_cons_of_mem _ w)) h
    have p := g n List.mem_cons_self
    exact (cntN_z (by omega) q.2).elim
theorem knf_4 {e1 : List EW} {N1 NC Z : List NT} {pc lo : Int} {r1 : RS} {c1 : CS} (k : K1 r1 c1 N1 NC Z 2 pc lo) (h4 : e.1 = 4) (h6 : r1.rt < 6) (hc : (uC c1 e).fp.1 = 0) : KNF (uR r1 e) r1.rt e.2.2.2 := by
  have kn := k.nn (by decide) h6
  have kb := k.nb
  have en : nC c1 e = nCn c1 e.2.2.2 e.2.1 := by
    unfold nC
    rw [if_neg (by omega), if_neg (by omega), if_neg (by omega), if_pos h4]
  have n0 : nCn c1 e.2.2.2 e.2.1 = [] := by
    have z : (cnts (nC c1 e) c1.fp).1 = 0 := hc
    rw [← en]
    exact (cnt_z9 _ (pos_C c1 e) z).1
  have ok : fndC c1 e.2.2.2 ∨ c1.nn < 12 := by
    apply Classical.byContradiction
    intro q
    have q1 : ¬ fndC c1 e.2.2.2 ∧ 12 ≤ c1.nn := ⟨fun u => q (Or.inl u), by
      apply Classical.byContradiction
      intro u
      exact q (Or.inr (by omega))⟩
    unfold nCn at n0
    rw [ifP_t q1] at n0
    exact absurd n0 (by simp)
  have go : KNF (sR r1 e) r1.rt e.2.2.2 := by
    have es : sR r1 e = sNm r1 e.2.2.2 := by
      unfold sR
      rw [if_neg (by omega), if_neg (by omega), if_neg (by omega), if_pos h4]
    rw [es]
    unfold sNm
    by_cases z : r1.ph = 1 ∧ r1.rt < 6 ∧ ¬ fndN r1 e.2.2.2 ∧ r1.nn r1.rt ≠ 12
    · rw [ifP_t z]
      refine ⟨r1.nn r1.rt, ⟨by omega, by omega⟩, ?_, ?_⟩
      · show r1.nn r1.rt < up1 r1.nn r1.rt (r1.nn r1.rt + 1) r1.rt
        unfold up1
        rw [if_pos rfl]; omega
      · show up1 r1.nw (12 * r1.rt + r1.nn r1.rt) e.2.2.2 (12 * r1.rt + r1.nn r1.rt) = e.2.2.2
        unfold up1
        rw [if_pos rfl]
    · rw [ifP_f z]
      have fd : fndN r1 e.2.2.2 := by
        apply Classical.byContradiction
        intro q
        refine z ⟨k.ph, h6, q, fun u => ?_⟩
        rcases ok with o | o
        · obtain ⟨n, a, b, d⟩ := o
          exact q ⟨n, a, by rw [kn.1]; exact b, by rw [kn.2 n a b]; exact d⟩
        · omega
      obtain ⟨i, a, b, d⟩ := fd
      exact ⟨i, ⟨a, by rw [kn.1] at b; omega⟩, b, d⟩
  exact go
theorem ra9_0 (s : SHP es 0 0 0) (r9 : (RA9 (es.foldl uC c00)).1 = 0) : (es.foldl uC c00).fp.1 = 0 ∧ cSs (es.foldl uC c00) (es.foldl uC c00).cn.toNat = [] := by
  obtain ⟨pc, lo, k⟩ := K1.run es (K1.ini st0_0 rfl) s
  have l2 := LST.fold (cSs (es.foldl uC c00) (es.foldl uC c00).cn.toNat) k.l2 (pos_cSs _ _)
  rcases l2.2 with ⟨z, -⟩ | ⟨z, -⟩
  · have z2 := List.append_eq_nil_iff.mp z
    refine ⟨?_, z2.2⟩
    have l := k.l2.2
    rw [z2.1] at l
    rcases l with ⟨-, l⟩ | ⟨l, -⟩
    · rw [l]
    · exact absurd l List.not_mem_nil
  · have p := l2.1 _ z
    have p2 : 0 < (RA9 (es.foldl uC c00)).1 := p
    omega
theorem call_args {f : Int → Int} (s : SHP es 0 0 0) (r9 : (RA9 (es.foldl uC c00)).1 = 0) (hf : RFC (es.foldl uC c00) f) (he : e ∈ es) (k1 : e.1 = 1) (kw : ∃ k, KW k e.2.2.2) : (es.foldl uC c00).rp (f (rnQ e.2.2.2)) = e.2.2.1 := by
  have nil := (ra9_0 s r9).2
  have cl := CLS.run es (c := c00) (L := []) ⟨rfl, fun i e q => by simp at q⟩
  rw [List.nil_append] at cl
  obtain ⟨i, hi⟩ := List.mem_iff_getElem?.mp ((cls1_mem es).mpr ⟨he, k1⟩)
  obtain ⟨ck, -, cc⟩ := cl.2 i e hi
  have hl : i < (es.foldl uC c00).cn.toNat := by
    rw [cl.1]
    exact Classical.byContradiction fun q => by rw [List.getElem?_eq_none (by omega)] at hi; simp at hi
  have fd := (hf _ _ (rnQ_kw kw)).1 (call_found s r9 e he k1)
  apply Classical.byContradiction
  intro ne
  have m : ((es.foldl uC c00).cp i, (4 : Int)) ∈ cSs (es.foldl uC c00) (es.foldl uC c00).cn.toNat := (cSs_mem _).mpr ⟨i, hl, by
    unfold cS
    have ex : (0 ≤ f (rnQ e.2.2.2) ∧ f (rnQ e.2.2.2) < (es.foldl uC c00).rn ∧ (es.foldl uC c00).rk (f (rnQ e.2.2.2)) = (es.foldl uC c00).ck i ∧ ∀ j, 0 ≤ j → j < f (rnQ e.2.2.2) → (es.foldl uC c00).rk j ≠ (es.foldl uC c00).ck i) := ⟨fd.1.1, fd.1.2, by rw [ck]; exact fd.2.1, fun j a b => by rw [ck]; exact fd.2.2 j a b⟩
    rw [ifP_t ⟨_, ex⟩, ifP_t ⟨_, ex, by rw [cc]; exact ne⟩]
    exact List.mem_singleton.mpr rfl⟩
  rw [nil] at m
  exact absurd m (by simp)
theorem nok_text {f PM : Int → Int} {r0 : RS} (hr : ST0 r0) (s : SHP es 0 0 0) (r9 : (RA9 (es.foldl uC c00)).1 = 0) (r6 : (es.foldl uC c00).rn ≤ 6) (hf : RFC (es.foldl uC c00) f) (kw : ∀ e ∈ es, e.1 = 1 → ∃ k, KW k e.2.2.2) (hP : ∀ r, 0 ≤ r → r < (es.foldl uC c00).rn → PM r = (es.foldl uC c00).rp r) : NOK (fun y w => (0 ≤ y ∧ y < (es.foldl uC c00).rn) ∧ KNF (es.foldl uR r0) y w) (fun e => PM (f (rnQ e.2.2.2)) ≤ e.2.2.1) 0 es := by
  refine nok_of es (fun e1 e e2 q => ⟨fun h4 => ?_, fun h1 => ?_⟩)
  rotate_left
  · have he : e ∈ es := by rw [q]; exact List.mem_append_right _ List.mem_cons_self
    have fd := (hf _ _ (rnQ_kw (kw e he h1))).1 (call_found s r9 e he h1)
    show PM (f (rnQ e.2.2.2)) ≤ e.2.2.1
    rw [hP _ fd.1.1 fd.1.2, call_args s r9 hf he h1 (kw e he h1)]
    exact Int.le_refl _
  have hr2 : ST0 (r0.1, (0, -1), r0.2.2) := hr
  have nf := NFQ.fold es (show NFQ r0 (r0.1, (0, -1), r0.2.2) from ⟨rfl, rfl⟩)
  have nbd : NBD (r0.1, (0, -1), r0.2.2) := fun k x y => by rw [hr2.2.2.2.2 k x y]; omega
  have s2 := s
  rw [q] at s2
  obtain ⟨N1, NC, Z, md, pc, lo, k, sh⟩ := K1.pre e1 (K1.ini hr2 rfl) s2
  have md2 : md = 2 := by
    rcases sh with ⟨-, z, -⟩ | ⟨-, z, -⟩ | ⟨-, z, -⟩ | ⟨z, -⟩ | ⟨-, z, -⟩ | ⟨-, z, -⟩
    · omega
    · omega
    · omega
    · exact z
    · omega
    · omega
  subst md2
  have ec : es.foldl uC c00 = e2.foldl uC (uC (e1.foldl uC c00) e) := by rw [q, List.foldl_append]; rfl
  have er : es.foldl uR (r0.1, (0, -1), r0.2.2) = e2.foldl uR (uR (e1.foldl uR (r0.1, (0, -1), r0.2.2)) e) := by rw [q, List.foldl_append]; rfl
  have fp := (ra9_0 s r9).1
  rw [ec] at fp
  have fp1 := fo_fp0 fp
  have rr : (e1.foldl uR (r0.1, (0, -1), r0.2.2)).rt = 0 + z0E e1 := by
    rw [rt_fold e1]
    show RS.rt r0 + z0E e1 = 0 + z0E e1
    rw [hr.2.1]
  have rt := k.rt
  have m1 : (e1.foldl uC c00).rn ≤ (es.foldl uC c00).rn := by
    rw [q, List.foldl_append]; exact rn_f _
  have y0 := k.rt0
  have y1 : (e1.foldl uR (r0.1, (0, -1), r0.2.2)).rt < (es.foldl uC c00).rn := by omega
  have w := knf_4 (e1 := e1) k h4 (by omega) fp1
  have nb1 := fold_b e1 (r := (r0.1, (0, -1), r0.2.2)) (by show 0 ≤ RS.rt r0; rw [hr.2.1]; exact Int.le_refl _) nbd
  have w2 := KNF.fold e2 w y0 (by rw [rt_u]; split <;> omega) (uR_m (e := e) y0 nb1).2.1
  rw [← er, rr] at w2
  rw [rr] at y0 y1
  refine ⟨⟨y0, y1⟩, ?_⟩
  have enn : (es.foldl uR r0).nn = (es.foldl uR (r0.1, (0, -1), r0.2.2)).nn := congrArg (fun z => z.2.2.2.2.2.1) nf.2
  have enw : (es.foldl uR r0).nw = (es.foldl uR (r0.1, (0, -1), r0.2.2)).nw := congrArg (fun z => z.2.2.2.2.2.2) nf.2
  unfold KNF at w2 ⊢
  rw [enn, enw]
  exact w2
end NKT
end
