section
section NAM9S
variable {T : CT} {s τ τ2 : MS} {o p xa xb xc xd xe xf y : Nat} {C : Int → Nat} {m k c f g q cc u : Int}
theorem vw_dsum : ∀ n : Nat, dsum (vwm m g τ) 0 ((vwm m g τ).2.1 78) ((vwm m g τ).2.1 80) n = dsum τ m (τ.2.1 78) (τ.2.1 80) n
  | 0 => rfl
  | n + 1 => by
    show dsum (vwm m g τ) 0 ((vwm m g τ).2.1 78) ((vwm m g τ).2.1 80) n + dp (vwm m g τ) 0 ((vwm m g τ).2.1 78 (9 * 0 + (n : Int))) ((vwm m g τ).2.1 80 (9 * 0 + (n : Int))) = dsum τ m (τ.2.1 78) (τ.2.1 80) n + dp τ m (τ.2.1 78 (9 * m + (n : Int))) (τ.2.1 80 (9 * m + (n : Int)))
    rw [vw_dsum n, vw_78, vw_80, show 9 * m + (9 * 0 + (n : Int)) = 9 * m + n by omega]
    unfold dp
    rw [vw_prm]
theorem vw_ab : AB (vwm m g τ) 0 c = AB τ m (9 * m + c) := by
  unfold AB
  rw [vw_dpt, vw_dsum, show 9 * m + c + 1 - 9 * m = c + 1 - 9 * 0 by omega]
theorem vw_fnds (h : FNDS τ m k c f) : FNDS (vwm m g τ) 0 k (c - 9 * m) f := by
  obtain ⟨h1, i, h2, h3, h4⟩ := h
  have ec : 9 * m + (c - 9 * m) = c := by omega
  refine ⟨⟨by omega, by rw [vw_73]; omega⟩, i, by rw [vw_ab, ec]; exact h2, by rw [vw_dch, ec]; exact h3, ?_⟩
  rw [vw_80, ec, show pr (vwm m g τ) 0 (c - 9 * m) = pr τ m c from funext (fun f => by rw [vw_pr, ec])]
  exact h4
def TLX9 (T : CT) (σ : MS) (c : Nat) (q : Int) : Prop := ∃ t : Nat, σ.2.1 900 q = (t : Int) ∧ TKC σ c (σ.2.1 (1000 + t)) ∧ (σ.2.1 6 c + 1) * slF (rwF σ 14 c) (σ.2.1 10 c) ≤ ((T t).2 : Int)
theorem nam9 (tl : TLX9 T s (C q) q) (rt : RTC s (C q)) (e7 : s.2.1 7 (C q) = τ.2.1 12 q) (hwf : RWF T s o xa xb xc xd xe xf y C τ) (rx : RXC s o xa xb xc xd xe C τ) (gd : GDA τ) (np : PAR τ) (hW : CDW τ) (ru : RUN τ 0) (k14 : (T (adN s 14 (C q))).2 = 12) (c0 : 0 ≤ cc ∧ cc < τ.2.1 73 0) (hq : q = τ.2.1 78 cc) (e70 : s.2.1 70 o = cc) (e71 : s.2.1 71 o = f) (hf : 0 ≤ f ∧ f < τ.2.1 14 q) :
    SNG9 T s o xa xb (C q) y ∧ SNN9 T s o (C q) = τ.2.1 12 (τ.2.1 15 (12 * q + f)) ∧ ∀ (m : Int) (d : DT), 0 ≤ m → m < τ.2.1 12 (τ.2.1 15 (12 * q + f)) → TLD τ q (τ.2.1 79 cc) f m d → jWO T s (C q) (adN s 5 (C q)) (jID T s o xa xb (C q) m) = d.1 ∧ (d.1 < 10 → jFV T s o (C q) (adN s 5 (C q)) (adN s 15 (C q)) xe (jID T s o xa xb (C q) m) = wrD (fun g => τ.2.1 82 (192 * cc + g)) d) := by
  have rc := run_c ru c0.1 c0.2
  rw [← hq] at rc
  have t9 := ru.1
  have l := hwf.2.1
  have h2 := hwf.2.2.2 q rc.1.1 rc.1.2
  have gr := gd.2 q rc.1.1 rc.1.2
  have t6 := gd.1
  have F12 := gr.2.1.1
  have n200 := gr.1
  have rxc := (rx.2.2.2 cc c0.1 c0.2).1
  have ra : jA T xa cc s = q := by rw [jA_in (by omega), hq]; exact rxc.1
  have rb : jA T xb cc s = τ.2.1 79 cc := by rw [jA_in (by omega)]; exact rxc.2.1
  have rj : jC s y q = (C q : Int) := by
    unfold jC
    rw [if_pos (by omega)]
    exact hwf.2.2.1.1 q rc.1.1 (by omega)
  obtain ⟨t, t1, tk, tm⟩ := tl
  obtain ⟨r1, ⟨rn12, rF, -, -⟩, -⟩ := rt
  have eF : s.2.1 10 (C q) = τ.2.1 14 q := congrArg (fun H : RTS => H.2.2.1) h2.2.1.1
  have en : s.2.1 6 (C q) = τ.2.1 9 q := h2.n
  have nb := rn12 f hf.1 (by omega)
  have w14 : rwF s 14 (C q) f = τ.2.1 12 (τ.2.1 15 (12 * q + f)) := nm7 h2 hf.1 hf.2
  have snn : SNN9 T s o (C q) = rwF s 14 (C q) f := by
    show jA T (adN s 14 (C q)) (s.2.1 71 o) s = rwF s 14 (C q) f
    rw [e71, jA_in (by omega)]
    rfl
  have hn : ∀ q', 0 ≤ q' → q' < s.2.1 10 (C q) → 0 ≤ rwF s 14 (C q) q' := fun q' a b => (rn12 q' a b).1
  have sl := slF_lt hn hf.1 (show f < s.2.1 10 (C q) by omega) (Int.le_refl _)
  have sp := slF_pos hn hf.1 (show f ≤ s.2.1 10 (C q) by omega)
  have ji : ∀ m, 0 ≤ m → m < rwF s 14 (C q) f → jID T s o xa xb (C q) m = if s.2.1 (1000 + t) (τ.2.1 79 cc * slF (rwF s 14 (C q)) (s.2.1 10 (C q)) + (slF (rwF s 14 (C q)) f + m)) = 0 then 1 else s.2.1 (1000 + t) (τ.2.1 79 cc * slF (rwF s 14 (C q)) (s.2.1 10 (C q)) + (slF (rwF s 14 (C q)) f + m)) := fun m m0 m1 => by
    have ri := rw_in8 (kk := τ.2.1 79 cc) (n := s.2.1 6 (C q)) (wd := slF (rwF s 14 (C q)) (s.2.1 10 (C q))) (x := slF (rwF s 14 (C q)) f + m) (by omega) (by omega) rc.2.1.1 (by omega) (by omega)
    exact jid8 (m := m) (c := C q) e70 e71 ra rb ⟨rc.1.1, by omega⟩ t1 rfl rfl ⟨ri.1, by omega⟩
  have P4 := r1.2.2.2.1
  refine ⟨⟨by rw [e70, ra]; exact rj, by rw [e71]; omega, by rw [e70, rb]; omega, by rw [snn]; exact nb, fun m m0 m1 => ?_⟩, snn.trans w14, fun m d m0 m1 td => ?_⟩
  · rw [snn] at m1
    rw [ji m m0 m1]
    have id9 := (tk f m hf.1 (by omega) m0 m1).1 (τ.2.1 79 cc) rc.2.1.1 (by omega)
    have id9 : s.2.1 (1000 + t) (τ.2.1 79 cc * slF (rwF s 14 (C q)) (s.2.1 10 (C q)) + (slF (rwF s 14 (C q)) f + m)) = 0 ∨ VID (vW (cdW s (C q))) (s.2.1 6 (C q)) (s.2.1 8 (C q)) (rwF s 15 (C q)) (s.2.1 (1000 + t) (τ.2.1 79 cc * slF (rwF s 14 (C q)) (s.2.1 10 (C q)) + (slF (rwF s 14 (C q)) f + m))) := id9
    generalize s.2.1 (1000 + t) (τ.2.1 79 cc * slF (rwF s 14 (C q)) (s.2.1 10 (C q)) + (slF (rwF s 14 (C q)) f + m)) = id at *
    by_cases z : id = 0
    · rw [if_pos z]; exact ⟨by decide, by decide⟩
    · rw [if_neg z]
      rcases id9.resolve_left z with w | w | w
      · omega
      · omega
      · have := w.1; omega
  · rw [← w14] at m1
    have te := tel_one (f := f) (m := m) tk (congrArg (fun H : RTS => H.2.1) h2.2.1.1) h2.n h2.2.1.2 e7 (fun i i0 i1 => eH8 h2 gr i0 (by have := gr.2.2.2.2.2.2.2.2; omega)) ⟨⟨hf.1, by omega⟩, by omega⟩ ⟨⟨m0, m1⟩, by omega⟩ rc.2.1.1 (by omega) td
    rw [ji m m0 m1]
    refine ⟨(wo_id h2 te.1 (np q rc.1.1 (by omega)).2).trans (congrArg Prod.fst te.2.symm), fun d10 => ?_⟩
    rw [fv_id h2 rx l.2.2.2.2.1 e70 c0.1 c0.2 te.1 (cdw_who hW rc.1.1 rc.1.2) (np q rc.1.1 (by omega)).2 (fun i i0 i1 => by
      have f0 : τ.2.1 15 (12 * q + 0) = q := gr.2.2.2.1
      have PN := gr.2.2.2.2.2.2.2.2
      have z := (gr.2.1.2 0 (Int.le_refl _) (by omega)).2 i i0 (by rw [f0]; omega)
      rw [show 144 * q + 12 * 0 + i = 144 * q + i by omega] at z
      rw [eH8 h2 gr i0 (by omega)]
      exact z), if_pos (by rw [← te.2]; exact d10), ← te.2]
theorem rt9 {w : Int} (hwf : RWF T s o xa xb xc xd xe xf y C τ) (rx : RXC s o xa xb xc xd xe C τ) (gd : GDA τ) (ru : RUN τ 0) (k11 : (T (adN s 11 (C q))).2 = 12) (c0 : 0 ≤ cc ∧ cc < τ.2.1 73 0) (hq : q = τ.2.1 78 cc) (e70 : s.2.1 70 o = cc) (e71 : s.2.1 71 o = f) (hf : 0 ≤ f ∧ f < τ.2.1 14 q) (hi : ∃ i : Nat, itU (pr τ 0 cc) i (τ.2.1 80 cc) = f) (h : JFR T s o xa y 11 (-1) w) : w = τ.2.1 15 (12 * q + f) ∧ jLN T s o xd = τ.2.1 81 (12 * cc + f) := by
  have rc := run_c ru c0.1 c0.2
  rw [← hq] at rc
  have t9 := ru.1
  have l := hwf.2.1
  have h2 := hwf.2.2.2 q rc.1.1 rc.1.2
  have gr := gd.2 q rc.1.1 rc.1.2
  have t6 := gd.1
  have F12 := gr.2.1.1
  have rxc := rx.2.2.2 cc c0.1 c0.2
  have ra : jA T xa cc s = q := by rw [jA_in (by omega), hq]; exact rxc.1.1
  have rj : jC s y q = (C q : Int) := by
    unfold jC
    rw [if_pos (by omega)]
    exact hwf.2.2.1.1 q rc.1.1 (by omega)
  refine ⟨?_, ?_⟩
  · rcases h with ⟨z, -⟩ | ⟨c, x, e1, e2, e3⟩
    · rw [e70, ra, rj] at z; omega
    · rw [e70, ra, rj] at e1
      have ec : c = C q := by omega
      rw [ec] at e2
      have e := of7 h2 hf.1 hf.2
      unfold rwF at e
      rw [adN_of e2] at e k11
      rw [e3, e71, jA_in (by omega), e]
  · obtain ⟨i, hi⟩ := hi
    have hln := rxc.2.2 f (by omega) ⟨hf.1, i, hi⟩
    unfold jLN
    rw [e70, e71, w32_id (show -2147483648 ≤ cc * 12 ∧ cc * 12 ≤ 2147483647 by omega), w32_id (by omega), jA_in (by omega), hln]
end NAM9S
end
