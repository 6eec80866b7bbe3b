/-! what lies on the road to an end -/
theorem RCm.mid {s : Int → Int} {a b c : PCf} (h : RCm s a b) (g : RCm s a c) (hc : stp s c = c) : RCm s b c := by
  obtain ⟨n, hn⟩ := h
  obtain ⟨m, hm⟩ := g
  by_cases z : n ≤ m
  · refine ⟨m - n, ?_⟩
    rw [← hn, ← itr_add, show n + (m - n) = m by omega]
    exact hm
  · refine ⟨0, ?_⟩
    have e : itr s n a = itr s (n - m) c := by rw [← hm, ← itr_add]; congr 1; omega
    rw [itr_fix hc] at e
    exact hn.symm.trans e
theorem stp_log {s : Int → Int} {a : PCf} (h : stp s a ≠ pF) : ∃ l, (stp s a).2.2.2.2 = a.2.2.2.2 ++ l := by
  obtain ⟨K, t, x, q, ρ⟩ := a
  cases K with
  | nil => exact ⟨[], (List.append_nil _).symm⟩
  | cons k K =>
    cases e : stk s k t x q with
    | none =>
      exfalso
      apply h
      show (match stk s k t x q with
        | none => pF
        | some r => (r.1 ++ K, r.2.1, r.2.2.1, r.2.2.2.1, ρ ++ r.2.2.2.2)) = _
      rw [e]
    | some r =>
      refine ⟨r.2.2.2.2, ?_⟩
      show (match stk s k t x q with
        | none => pF
        | some r => (r.1 ++ K, r.2.1, r.2.2.1, r.2.2.2.1, ρ ++ r.2.2.2.2)).2.2.2.2 = _
      rw [e]
theorem itr_pF (s : Int → Int) (n : Nat) : itr s n pF = pF := itr_fix (stp_pF s) n
theorem itr_log {s : Int → Int} (n : Nat) (a : PCf) (h : itr s n a ≠ pF) : ∃ l, (itr s n a).2.2.2.2 = a.2.2.2.2 ++ l := by
  induction n generalizing a with
  | zero => exact ⟨[], (List.append_nil _).symm⟩
  | succ n ih =>
    have h2 : itr s n (stp s a) ≠ pF := h
    obtain ⟨l, hl⟩ := ih (stp s a) h2
    have h3 : stp s a ≠ pF := fun e => h2 (by rw [e]; exact itr_pF s n)
    obtain ⟨m, hm⟩ := stp_log h3
    refine ⟨m ++ l, ?_⟩
    show (itr s n (stp s a)).2.2.2.2 = _
    rw [hl, hm, List.append_assoc]
theorem RCm.log {s : Int → Int} {a b : PCf} (h : RCm s a b) (hb : b ≠ pF) : ∃ l, b.2.2.2.2 = a.2.2.2.2 ++ l := by
  obtain ⟨n, hn⟩ := h
  rw [← hn] at hb ⊢
  exact itr_log n a hb
/-- how many routines have ended -/
def nR : List EV → Int
  | [] => 0
  | e :: l => (if e.1 = 0 then 1 else 0) + nR l
theorem nR_app (a b : List EV) : nR (a ++ b) = nR a + nR b := by
  induction a with
  | nil => simp [nR]
  | cons e l ih => simp only [List.cons_append, nR, ih]; omega
theorem nR_0 (a : List EV) : 0 ≤ nR a := by
  induction a with
  | nil => exact Int.le_refl _
  | cons e l ih => simp only [nR]; split <;> omega

