section
section IS9
variable {T : CT} {σ σ2 τ τ2 : MS} {o xa xb xc xd xe xf y : Nat} {C : Int → Nat} {m x g u0 u1 u2 u3 : Int}
theorem jbg_66 (hb : JBG T σ o xa xb xc xd xe y x u0 u1 u2 u3 σ2) : σ2.2.1 66 o = 0 := by
  obtain ⟨s0, oc, pw⟩ := hb
  rw [jpw_66 pw, joc_66 oc, sA_k (by decide), sA_k (by decide)]
  exact ra_eq
theorem vwm_frt {ss ks js : List Nat} (F : Fr ss ks js τ τ2) (h : ∀ k ∈ ks, 19 ≤ k) : Fr ss ks js (vwm m g τ) (vwm m g τ2) := by
  have B : Fr ss ks js (bk2 m τ) (bk2 m τ2) := bk_frt F
  refine ⟨fun n hn => ?_, fun k hk => ?_, fun k hk => B.2.2 k hk⟩
  · show (if n = 67 then (1 : Int) else if n = 68 ∨ n = 69 then 0 else if n = 70 then g else (bk2 m τ2).1 n) = (if n = 67 then (1 : Int) else if n = 68 ∨ n = 69 then 0 else if n = 70 then g else (bk2 m τ).1 n)
    rw [B.1 n hn]
  · funext j
    rw [vw_m, vw_m, B.2.1 k hk]
theorem sts_vw (hx : 0 ≤ x ∧ x < τ.1 10) (p4 : τ.2.1 11 x ≤ 144) (hs : SMA9 τ m x u0 u1 u2 u3 τ2) : STS (vwm m 0 τ) x u0 u1 u2 u3 1 (vwm m 0 τ2) := by
  obtain ⟨F, t73, ⟨t78, t79, t80⟩, X, t76, q82, q81, q75, r82, r81, r75⟩ := hs
  refine Or.inr ⟨rfl, by rw [vw_10]; exact hx, vw_67, ⟨by rw [vw_73]; exact t73, ⟨by rw [vw_78, Int.add_zero]; exact t78, by rw [vw_79, Int.add_zero]; exact t79, by rw [vw_80, Int.add_zero]; exact t80⟩, by rw [vw_76]; exact t76⟩, fun g g0 g1 => ?_, fun f f0 f1 => ?_, by rw [vw_75]; exact q75, fun j hj => ?_, fun j hj => ?_, fun j hj => ?_⟩
  · rw [vw_82, show 1728 * m + (192 * (9 * 0) + g) = 192 * (9 * m) + g by omega, q82 g g0 g1, vw_12 (k := 11) (Or.inl (by decide)) (by decide)]
    refine pwR_c (fun i i0 i1 => ⟨?_, rfl⟩) rfl
    show (if m = 2 then i else τ.2.1 18 (144 * x + i)) = (vwm m 0 τ).2.1 18 (144 * x + i)
    rw [vw_k (by decide)]
    unfold bk2
    by_cases z : m = 2
    · rw [if_pos z, if_pos z, vb_18]; omega
    · rw [if_neg z, if_neg z]
  · rw [vw_81, show 108 * m + (12 * (9 * 0) + f) = 12 * (9 * m) + f by omega]; exact q81 f f0 f1
  · rw [vw_82, vw_82]; exact r82 _ (by omega)
  · rw [vw_81, vw_81]; exact r81 _ (by omega)
  · rw [vw_g (by decide), vw_g (by decide)]
    exact r75 (m + j) (by omega)
theorem ev_start (hx : 0 ≤ x ∧ x < τ.1 10) (gd : m ≠ 2 → GDA τ) (np : PAR τ) (bk : BKA τ m) (hs : SMA9 τ m x u0 u1 u2 u3 τ2) : EVR τ2 m x (prW u0 u1 u2 u3) [] := by
  obtain ⟨F, t73, ⟨t78, t79, t80⟩, X, t76, q82, -⟩ := hs
  have C6 := bk.1
  have p4 := np x hx.1 (by omega)
  have bq := bk.2 x hx.1 hx.2
  have d0 : dch τ2 m (9 * m) = 1 := by
    have e1 : dch τ2 m (9 * m) = ch (prm τ m x) 13 0 := by
      unfold dch pr prm
      rw [t80, t78, F.2.1 16 (by decide)]
    have hp := bq.2.2.2.2.2.1
    have f1 := bq.2.2.2.2.1
    have p0 := hp 0 (Int.le_refl _) (by omega)
    rw [e1, ch_1 hp (Int.le_refl _) (by omega) f1.2, show prm τ m x 0 = -1 by omega, ch_n]
    rfl
  have pq : prg8 τ2 m = prg8 τ m ∧ pM8 τ2 = pM8 τ := prg_fr F (by decide) (by decide)
  have pm : pM8 τ x = τ.2.1 11 x := if_pos ⟨hx.1, by omega⟩
  have hm : ∀ i, 0 ≤ i → i < τ.2.1 11 x → hmP τ m x i = (prg8 τ m x).na 0 i ∧ 0 ≤ (prg8 τ m x).na 0 i ∧ (prg8 τ m x).na 0 i < 192 := fun i i0 i1 => by
    unfold prg8 hmP
    rw [gsT_y hx]
    by_cases m2 : m = 2
    · rw [if_pos m2, if_pos m2]
      show i = i ∧ 0 ≤ i ∧ i < 192
      omega
    · rw [if_neg m2, if_neg m2]
      have gr := (gd m2).2 _ hx.1 hx.2
      obtain ⟨-, -, w⟩ := fo0_r gr
      have pn9 := gr.2.2.2.2.2.2.2.2
      have w2 := w i i0 (by omega)
      refine ⟨?_, w2⟩
      show τ.2.1 18 (144 * x + i) = if ((0 : Int) ≤ 0 ∧ (0 : Int) < τ.2.1 14 x) ∧ 0 ≤ i ∧ i < τ.2.1 12 (τ.2.1 15 (12 * x + 0)) then τ.2.1 18 (144 * x + 12 * 0 + i) else 0
      have f0 : τ.2.1 15 (12 * x + 0) = x := gr.2.2.2.1
      rw [f0, if_pos ⟨⟨Int.le_refl _, by have := gr.2.1.1.1; omega⟩, i0, by omega⟩, show 144 * x + 12 * 0 + i = 144 * x + i by omega]
  have rg : rgf τ2 (9 * m) = cal8 (prg8 τ m x) (pM8 τ x) (prW u0 u1 u2 u3) := by
    rw [pm]
    funext g
    unfold rgf cal8
    by_cases z : 0 ≤ g ∧ g < 192
    · rw [if_pos z, q82 g z.1 z.2]
      exact pwR_c (fun i i0 i1 => ⟨(hm i i0 (by omega)).1, rfl⟩) rfl
    · rw [if_neg z]
      exact (pw_no (na := (prg8 τ m x).na 0) (g := g) (R := fun _ => 0) (p := (τ.2.1 11 x).toNat) (fun i i0 i1 e => z (by have := (hm i i0 (by omega)).2; rw [e] at this; exact this))).symm
  have ab : ab8 τ2 m (τ2.2.1 73 m).toNat = [(x, 0, cal8 (prg8 τ2 m x) (pM8 τ2 x) (prW u0 u1 u2 u3), 1)] := by
    rw [t73, pq.1, pq.2]
    show (τ2.2.1 78 (9 * m + ((0 : Nat) : Int)), τ2.2.1 79 (9 * m + ((0 : Nat) : Int)), rgf τ2 (9 * m + ((0 : Nat) : Int)), sm (fun j => dch τ2 m (9 * m + j)) 0 + dch τ2 m (9 * m + ((0 : Nat) : Int))) :: [] = _
    rw [show 9 * m + ((0 : Nat) : Int) = 9 * m by omega, t78, t79, rg, d0]
    rfl
  exact ⟨⟨0, rfl, ab⟩, t76, fun i _ b => absurd b (Nat.not_lt_zero _)⟩
theorem start9 (hw : RWF T σ o xa xb xc xd xe xf y C (bk2 m τ)) (gx : GDX (bk2 m τ)) (hx : 0 ≤ x ∧ x < τ.1 10) (gd : m ≠ 2 → GDA τ) (np : PAR τ) (bk : BKA τ m) (hb : JBG T σ o xa xb xc xd xe y x u0 u1 u2 u3 σ2) (hs : SMA9 τ m x u0 u1 u2 u3 τ2) : SDE σ2 o xa xb xc xd xe xf C m τ2 x (prW u0 u1 u2 u3) [] ∧ σ2.2.1 67 o = 0 := by
  have C6 := bk.1
  have p4 := np x hx.1 (by omega)
  have hwv : RWF T σ o xa xb xc xd xe xf y C (vwm m 0 τ) := rwf_vw hw Fr.rfl
  have fv : Fr [0, 67, 68, 69, 70] [73, 74, 75, 76, 78, 79, 80, 81, 82] [] (vwm m 0 τ) (vwm m 0 τ2) := Fr.sub (vwm_frt hs.1 (by decide)) (by simp) (by simp) (by simp)
  have ev := ev_start hx gd np bk hs
  have L := start7 hwv (gdx_bk gx) hb fv (sts_vw hx (by omega) hs)
  rcases L with ⟨-, z⟩ | ⟨-, rp, g67, ⟨c1, -, -, rx⟩ | ⟨-, -, z, -⟩ | ⟨-, z, -⟩⟩
  · exact absurd z (by rw [vw_67.1]; decide)
  · have e67 : σ2.2.1 67 o = 0 := g67.trans vw_67.2.2.2
    refine ⟨⟨?_, ev, jbg_66 hb, hs.2.2.2.2.2.2.2.1⟩, e67⟩
    rw [e67]
    exact ⟨c1, rx, rp, g67⟩
  · exact absurd vw_67.2.2.1 z
  · exact absurd vw_67.2.1 z
end IS9
end
