/-! how the tellings of a road follow each other -/
theorem wsk_ge {s : Int → Int} : ∀ (f : Nat) (n : Int), n ≤ wsk s f n
  | 0, n => Int.le_refl n
  | f + 1, n => by
    show n ≤ (if s n = 10 ∨ s n = 32 then wsk s f (n + 1) else n)
    by_cases c : s n = 10 ∨ s n = 32
    · rw [if_pos c]; have := wsk_ge (s := s) f (n + 1); omega
    · rw [if_neg c]; exact Int.le_refl _
theorem ltk_ge {s : Int → Int} : ∀ (f : Nat) (n : Int) (w : Int64) (c : Int), n ≤ (ltk s f n w c).1
  | 0, n, _, _ => Int.le_refl n
  | f + 1, n, w, c => by
    show n ≤ (if 97 ≤ s n ∧ s n ≤ 122 then ltk s f (n + 1) (shw w (s n)) (c + 1) else (n, w, c)).1
    by_cases q : 97 ≤ s n ∧ s n ≤ 122
    · rw [if_pos q]; have := ltk_ge (s := s) f (n + 1) (shw w (s n)) (c + 1); omega
    · rw [if_neg q]; exact Int.le_refl _
theorem dgk_ge {s : Int → Int} : ∀ (f : Nat) (n v c : Int), n ≤ (dgk s f n v c).1
  | 0, n, _, _ => Int.le_refl n
  | f + 1, n, v, c => by
    show n ≤ (if 48 ≤ s n ∧ s n ≤ 57 then dgk s f (n + 1) (dgv v c (s n)) (c + 1) else (n, v, c)).1
    by_cases q : 48 ≤ s n ∧ s n ≤ 57
    · rw [if_pos q]; have := dgk_ge (s := s) f (n + 1) (dgv v c (s n)) (c + 1); omega
    · rw [if_neg q]; exact Int.le_refl _
theorem ltp_gt {s : Int → Int} {n c : Int} {w : Int64} (h : n < 1300) (q : 97 ≤ s n ∧ s n ≤ 122) : n < (ltp s n w c).1 := by
  rw [ltp_s h q]
  have : n + 1 ≤ (ltp s (n + 1) (shw w (s n)) (c + 1)).1 := ltk_ge _ _ _ _
  omega
theorem dgp_gt {s : Int → Int} {n v c : Int} (h : n < 1300) (q : 48 ≤ s n ∧ s n ≤ 57) : n < (dgp s n v c).1 := by
  rw [dgp_s h q]
  have : n + 1 ≤ (dgp s (n + 1) (dgv v c (s n)) (c + 1)).1 := dgk_ge _ _ _ _
  omega
def TKW (t : TK) : Prop := t.1 ≤ t.2.1 ∧ (t.2.2.1 ≠ 0 → t.1 < t.2.1)
def SEN (s : Int → Int) : Prop := ∀ k, 1300 ≤ k → s k < 0
theorem advP_w {s : Int → Int} (hs : SEN s) (p : Int) : (advP s p).1 = p ∧ TKW (advP s p) := by
  unfold advP TKW
  by_cases c0 : s p < 0
  · rw [if_pos c0]; exact ⟨rfl, Int.le_refl _, fun q => absurd rfl q⟩
  · have hp : p < 1300 := Classical.byContradiction fun z => c0 (hs p (by omega))
    rw [if_neg c0]
    by_cases c1 : 97 ≤ s p ∧ s p ≤ 122
    · rw [if_pos c1]
      have g := ltp_gt (w := 0) (c := 0) hp c1
      exact ⟨rfl, by show p ≤ (ltp s p 0 0).1; omega, fun _ => g⟩
    · rw [if_neg c1]
      by_cases c2 : 48 ≤ s p ∧ s p ≤ 57
      · rw [if_pos c2]
        have g := dgp_gt (v := 0) (c := 0) hp c2
        exact ⟨rfl, by show p ≤ (dgp s p 0 0).1; omega, fun _ => g⟩
      · rw [if_neg c2]
        exact ⟨rfl, by show p ≤ p + 1; omega, fun _ => by show p < p + 1; omega⟩
theorem advT_w {s : Int → Int} (hs : SEN s) (n : Int) : n ≤ (advT s n).1 ∧ TKW (advT s n) := by
  have h := advP_w hs (wsp s n)
  have g : n ≤ wsp s n := wsk_ge _ _
  exact ⟨by show n ≤ (advP s (wsp s n)).1; rw [h.1]; exact g, h.2⟩
theorem adv_ok {s : Int → Int} {t : TK} (hs : SEN s) (hw : TKW t) : TKW (advT s t.2.1) ∧ t.1 ≤ (advT s t.2.1).1 := by
  have h := advT_w hs t.2.1
  exact ⟨h.2, by have := h.1; have := hw.1; omega⟩
/-- tags within a routine's block -/
abbrev NTg (y : Nat) : Prop := y < 30 ∨ (36 < y ∧ y ≠ 999)
theorem ntg {l : List Nat} (h : l.all (fun y => decide (NTg y)) = true) : ∀ y ∈ l, NTg y := fun y q => of_decide_eq_true (List.all_eq_true.mp h y q)
theorem stk_body {s : Int → Int} {k : Nat} {t : TK} {x : Int × Int × Int} {q : QR} {r : List Nat × TK × (Int × Int × Int) × QR × List EV} (hs : SEN s) (hk : NTg k) (hw : TKW t) (h : stk s k t x q = some r) : (∀ y ∈ r.1, NTg y) ∧ TKW r.2.1 ∧ t.1 ≤ r.2.1.1 := by
  have ao := adv_ok hs hw
  unfold stk at h
  split at h
  all_goals (try (exact absurd hk (by decide)))
  all_goals (repeat' split at h)
  all_goals (cases h)
  all_goals first
    | exact ⟨ntg rfl, ao.1, ao.2⟩
    | exact ⟨ntg rfl, hw, Int.le_refl _⟩
    | exact ⟨ntg rfl, ⟨hw.1, fun _ => hw.2 (by rename_i u _ _; rw [u.1]; decide)⟩, Int.le_refl _⟩
theorem evk_body {k : Nat} {t : TK} {x : Int × Int × Int} {q : QR} (hk : NTg k) : evk k t x q = [] ∨ ∃ e, evk k t x q = [e] ∧ ((e.1 = 4 ∨ e.1 = 5) ∧ e.2.1 = t.1 ∨ e.1 = 1) := by
  unfold evk
  split
  all_goals (try (exact absurd hk (by decide)))
  · by_cases c : nam t
    · rw [if_pos c]; exact Or.inr ⟨_, rfl, Or.inl ⟨Or.inl rfl, rfl⟩⟩
    · rw [if_neg c]; exact Or.inl rfl
  · exact Or.inr ⟨_, rfl, Or.inl ⟨Or.inr rfl, rfl⟩⟩
  · exact Or.inr ⟨_, rfl, Or.inl ⟨Or.inl rfl, rfl⟩⟩
  · exact Or.inr ⟨_, rfl, Or.inr rfl⟩
  · exact Or.inl rfl
/-- the tags: outside of a routine, in its parameters, behind them -/
def KSH (K : List Nat) (md : Nat) : Prop := (md = 0 ∧ (K = [] ∨ K = [36] ∨ K = [30, 36])) ∨ (md = 1 ∧ (K = [140, 31, 36] ∨ K = [31, 36] ∨ K = [32, 36] ∨ K = [33, 36])) ∨ (md = 2 ∧ ∃ p x, K = p ++ [x, 36] ∧ (x = 34 ∨ x = 35) ∧ ∀ y ∈ p, NTg y)
theorem itr_fF {s : Int → Int} (n : Nat) : itr s n pF = pF := itr_fix (stp_pF s) n
theorem stp_some {s : Int → Int} {k : Nat} {K : List Nat} {t : TK} {x : Int × Int × Int} {q : QR} {ρ : List EV} {r : List Nat × TK × (Int × Int × Int) × QR × List EV} (h : stk s k t x q = some r) : stp s (k :: K, t, x, q, ρ) = (r.1 ++ K, r.2.1, r.2.2.1, r.2.2.2.1, ρ ++ r.2.2.2.2) := by
  show (match stk s k t x q with | none => pF | some r => (r.1 ++ K, r.2.1, r.2.2.1, r.2.2.2.1, ρ ++ r.2.2.2.2)) = _
  rw [h]
theorem stp_none {s : Int → Int} {k : Nat} {K : List Nat} {t : TK} {x : Int × Int × Int} {q : QR} {ρ : List EV} (h : stk s k t x q = none) : stp s (k :: K, t, x, q, ρ) = pF := by
  show (match stk s k t x q with | none => pF | some r => (r.1 ++ K, r.2.1, r.2.2.1, r.2.2.2.1, ρ ++ r.2.2.2.2)) = _
  rw [h]
/-- tellings of a road that comes to its end -/
theorem shape {s : Int → Int} (hs : SEN s) : ∀ (n : Nat) {K : List Nat} {t : TK} {x : Int × Int × Int} {q : QR} {ρ : List EV} {md : Nat} {pc lo : Int} {b : PCf}, KSH K md → TKW t → lo ≤ t.1 → (md = 1 → pc = q.2.2.2.1) → itr s n (K, t, x, q, ρ) = b → b.1 = [] → SHP (evs s n (K, t, x, q, ρ)) md pc lo
  | 0, K, t, x, q, ρ, md, pc, lo, b, hk, hw, hl, hp, hi, hb => by
    have e : K = [] := by have : (K, t, x, q, ρ) = b := hi; rw [← this] at hb; exact hb
    show md = 0
    rcases hk with ⟨h, -⟩ | ⟨-, h⟩ | ⟨-, p, y, h, -⟩
    · exact h
    · rw [e] at h; simp at h
    · rw [e] at h; simp at h
  | n + 1, K, t, x, q, ρ, md, pc, lo, b, hk, hw, hl, hp, hi, hb => by
    have hi : itr s n (stp s (K, t, x, q, ρ)) = b := hi
    have nf : stp s (K, t, x, q, ρ) ≠ pF := fun e => by
      rw [e, itr_fF] at hi
      rw [← hi] at hb
      exact absurd hb (by decide)
    show SHP (evt s (K, t, x, q, ρ) ++ evs s n (stp s (K, t, x, q, ρ))) md pc lo
    have one : ∀ {k : Nat} {K' : List Nat}, K = k :: K' → ∃ r, stk s k t x q = some r := fun {k K'} e => by
      cases h : stk s k t x q with
      | none => exact absurd (by rw [e]; exact stp_none h) nf
      | some r => exact ⟨r, rfl⟩
    have ao := adv_ok hs hw
    rcases hk with ⟨rfl, h⟩ | ⟨rfl, h⟩ | ⟨rfl, p, y, h, hy, hN⟩
    · rcases h with rfl | rfl | rfl
      · rw [evt_nil]
        exact shape hs n (Or.inl ⟨rfl, Or.inl rfl⟩) hw hl hp hi hb
      · obtain ⟨r, hr⟩ := one rfl
        rw [stp_some hr] at hi ⊢
        rw [evt_s (by decide) hr]
        have e : evk 36 t x q = [] := rfl
        rw [e]
        have hr2 : (if t.2.2.1 = 0 then some (([] : List Nat), t, x, q, ([] : List EV)) else some ([30, 36], t, x, q, [])) = some r := hr
        by_cases c : t.2.2.1 = 0
        · rw [if_pos c] at hr2
          cases hr2
          exact shape hs n (Or.inl ⟨rfl, Or.inl rfl⟩) hw hl hp hi hb
        · rw [if_neg c] at hr2
          cases hr2
          exact shape hs n (Or.inl ⟨rfl, Or.inr (Or.inr rfl)⟩) hw hl hp hi hb
      · obtain ⟨r, hr⟩ := one rfl
        rw [stp_some hr] at hi ⊢
        rw [evt_s (by decide) hr]
        have e : evk 30 t x q = [(2, t.1, 0, t.2.2.2.2)] := rfl
        rw [e]
        have hr2 : (if nam t then some ([140, 31], advT s t.2.1, x, (q.1, q.2.1, q.2.2.1, 0, t.1), ([] : List EV)) else none) = some r := hr
        by_cases c : nam t
        · rw [if_pos c] at hr2
          cases hr2
          have tw := hw.2 (by rw [c.1]; decide)
          have av := advT_w hs t.2.1
          exact Or.inl ⟨rfl, rfl, hl, shape hs n (Or.inr (Or.inl ⟨rfl, Or.inl rfl⟩)) ao.1 (by show t.1 + 1 ≤ (advT s t.2.1).1; have := av.1; omega) (fun _ => rfl) hi hb⟩
        · rw [if_neg c] at hr2
          cases hr2
    · rcases h with rfl | rfl | rfl | rfl
      · obtain ⟨r, hr⟩ := one rfl
        rw [stp_some hr] at hi ⊢
        rw [evt_s (by decide) hr]
        have e : evk 140 t x q = [] := rfl
        rw [e]
        have hr2 : (if sgn t (((140 : Nat) : Int) - 100) then some (([] : List Nat), advT s t.2.1, x, q, ([] : List EV)) else none) = some r := hr
        by_cases c : sgn t (((140 : Nat) : Int) - 100)
        · rw [if_pos c] at hr2
          cases hr2
          exact shape hs n (Or.inr (Or.inl ⟨rfl, Or.inr (Or.inl rfl)⟩)) ao.1 (Int.le_trans hl ao.2) hp hi hb
        · rw [if_neg c] at hr2
          cases hr2
      · obtain ⟨r, hr⟩ := one rfl
        rw [stp_some hr] at hi ⊢
        rw [evt_s (by decide) hr]
        have e : evk 31 t x q = if sgn t 41 then [(7, 0, q.2.2.2.1, 0)] else [] := rfl
        rw [e]
        have hr2 : (if sgn t 41 then some ([141, 35], t, x, q, ([] : List EV)) else some ([32], t, x, q, [])) = some r := hr
        by_cases c : sgn t 41
        · rw [if_pos c] at hr2 ⊢
          cases hr2
          exact Or.inr (Or.inr (Or.inl ⟨rfl, rfl, (hp rfl).symm, shape hs n (Or.inr (Or.inr ⟨rfl, [141], 35, rfl, Or.inr rfl, ntg rfl⟩)) hw hl (fun z => absurd z (by decide)) hi hb⟩))
        · rw [if_neg c] at hr2 ⊢
          cases hr2
          exact shape hs n (Or.inr (Or.inl ⟨rfl, Or.inr (Or.inr (Or.inl rfl))⟩)) hw hl hp hi hb
      · obtain ⟨r, hr⟩ := one rfl
        rw [stp_some hr] at hi ⊢
        rw [evt_s (by decide) hr]
        have e : evk 32 t x q = [(3, t.1, q.2.2.2.1, t.2.2.2.2)] := rfl
        rw [e]
        have hr2 : (if nam t then some ([33], advT s t.2.1, x, (q.1, q.2.1, q.2.2.1, q.2.2.2.1 + 1, q.2.2.2.2), ([] : List EV)) else none) = some r := hr
        by_cases c : nam t
        · rw [if_pos c] at hr2
          cases hr2
          exact Or.inr (Or.inl ⟨rfl, rfl, hl, (hp rfl).symm, shape hs n (Or.inr (Or.inl ⟨rfl, Or.inr (Or.inr (Or.inr rfl))⟩)) ao.1 ao.2 (fun _ => by show pc + 1 = q.2.2.2.1 + 1; rw [hp rfl]) hi hb⟩)
        · rw [if_neg c] at hr2
          cases hr2
      · obtain ⟨r, hr⟩ := one rfl
        rw [stp_some hr] at hi ⊢
        rw [evt_s (by decide) hr]
        have e : evk 33 t x q = if sgn t 44 then [] else [(7, 0, q.2.2.2.1, 0)] := rfl
        rw [e]
        have hr2 : (if sgn t 44 then some ([32], advT s t.2.1, x, q, ([] : List EV)) else some ([141, 35], t, x, q, [])) = some r := hr
        by_cases c : sgn t 44
        · rw [if_pos c] at hr2 ⊢
          cases hr2
          exact shape hs n (Or.inr (Or.inl ⟨rfl, Or.inr (Or.inr (Or.inl rfl))⟩)) ao.1 (Int.le_trans hl ao.2) hp hi hb
        · rw [if_neg c] at hr2 ⊢
          cases hr2
          exact Or.inr (Or.inr (Or.inl ⟨rfl, rfl, (hp rfl).symm, shape hs n (Or.inr (Or.inr ⟨rfl, [141], 35, rfl, Or.inr rfl, ntg rfl⟩)) hw hl (fun z => absurd z (by decide)) hi hb⟩))
    · cases p with
      | nil =>
        rcases hy with rfl | rfl
        · subst h
          obtain ⟨r, hr⟩ := one (k := 34) (K' := [36]) rfl
          have hi : itr s n (stp s (34 :: [36], t, x, q, ρ)) = b := hi
          show SHP (evt s (34 :: [36], t, x, q, ρ) ++ evs s n (stp s (34 :: [36], t, x, q, ρ))) 2 pc lo
          rw [stp_some hr] at hi ⊢
          rw [evt_s (by decide) hr]
          have e : evk 34 t x q = [(0, q.2.2.2.2, x.2.2, 0)] := rfl
          rw [e]
          cases hr
          exact Or.inr (Or.inr (Or.inr (Or.inr (Or.inr ⟨rfl, rfl, shape hs n (Or.inl ⟨rfl, Or.inr (Or.inl rfl)⟩) hw hl (fun z => absurd z (by decide)) hi hb⟩))))
        · subst h
          obtain ⟨r, hr⟩ := one (k := 35) (K' := [36]) rfl
          have hi : itr s n (stp s (35 :: [36], t, x, q, ρ)) = b := hi
          show SHP (evt s (35 :: [36], t, x, q, ρ) ++ evs s n (stp s (35 :: [36], t, x, q, ρ))) 2 pc lo
          rw [stp_some hr] at hi ⊢
          rw [evt_s (by decide) hr]
          have e : evk 35 t x q = [] := rfl
          rw [e]
          cases hr
          exact shape hs n (Or.inr (Or.inr ⟨rfl, [28, 51], 34, rfl, Or.inl rfl, ntg rfl⟩)) hw hl (fun z => absurd z (by decide)) hi hb
      | cons k p =>
        subst h
        obtain ⟨r, hr⟩ := one (k := k) (K' := p ++ [y, 36]) rfl
        have hi : itr s n (stp s (k :: (p ++ [y, 36]), t, x, q, ρ)) = b := hi
        show SHP (evt s (k :: (p ++ [y, 36]), t, x, q, ρ) ++ evs s n (stp s (k :: (p ++ [y, 36]), t, x, q, ρ))) 2 pc lo
        have hk := hN k List.mem_cons_self
        obtain ⟨g1, g2, g3⟩ := stk_body hs hk hw hr
        rw [stp_some hr] at hi ⊢
        rw [evt_s (by omega) hr]
        have ks : KSH (r.1 ++ (p ++ [y, 36])) 2 := Or.inr (Or.inr ⟨rfl, r.1 ++ p, y, by rw [List.append_assoc], hy, fun z w => (List.mem_append.mp w).elim (g1 z) (fun w => hN z (List.mem_cons_of_mem _ w))⟩)
        rcases evk_body (t := t) (x := x) (q := q) hk with e | ⟨e, he, h4 | h1⟩
        · rw [e]
          exact shape hs n ks g2 (Int.le_trans hl g3) (fun z => absurd z (by decide)) hi hb
        · rw [he]
          exact Or.inr (Or.inr (Or.inr (Or.inl ⟨rfl, h4.1, by rw [h4.2]; exact hl, shape hs n ks g2 (by rw [h4.2]; exact g3) (fun z => absurd z (by decide)) hi hb⟩)))
        · rw [he]
          exact Or.inr (Or.inr (Or.inr (Or.inr (Or.inl ⟨rfl, h1, shape hs n ks g2 (Int.le_trans hl g3) (fun z => absurd z (by decide)) hi hb⟩))))
/-- the tellings of a whole text -/
theorem RE.shp {s : Int → Int} {es : List EW} {x x' : Int × Int × Int} {q q' : QR} {ρ ρ' : List EV} {t' : TK} (hs : SEN s) (h : RE s ([36], advT s 0, x, q, ρ) es ([], t', x', q', ρ')) : SHP es 0 0 0 := by
  obtain ⟨n, h1, h2⟩ := h
  rw [← h2]
  have w := advT_w hs 0
  exact shape hs n (Or.inl ⟨Eq.refl _, Or.inr (Or.inl (Eq.refl _))⟩) w.2 w.1 (fun z => absurd z (by decide)) h1 (Eq.refl _)

