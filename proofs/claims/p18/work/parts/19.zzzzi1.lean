section
section VWR
variable {τ τ2 : MS} {m g r p f q k x : Int}
theorem vw_ik : iK (vwm m g τ) r = iK τ (bkm m + r) := by
  funext k
  exact vw_i (x := 220 * (bkm m + r) + k) (by decide) (by omega)
theorem vw_id : iD (vwm m g τ) r = iD τ (bkm m + r) := by
  funext k
  exact vw_i (x := 220 * (bkm m + r) + k) (by decide) (by omega)
theorem vw_io : iO (vwm m g τ) r = iO τ (bkm m + r) := by
  funext k
  exact vw_i (x := 220 * (bkm m + r) + k) (by decide) (by omega)
theorem vw_fm : fm (vwm m g τ) 0 r = fm τ m r := by
  unfold fm
  rw [if_neg (by decide), vw_k (by decide)]
  unfold bk2
  by_cases z : m = 2
  · rw [if_pos z, if_pos z]; exact vb_14
  · rw [if_neg z, if_neg z]
theorem vw_prm : prm (vwm m g τ) 0 r = prm τ m r := funext (fun f => vw_16)
theorem vw_plc (h : PLC τ m r p f) : PLC (vwm m g τ) 0 r p f := by
  unfold PLC at h ⊢
  rw [vw_10, b0, vw_9, vw_fm, vw_ik, vw_id, vw_io, vw_prm]
  exact h
theorem vw_run (h : RUN τ m) : RUN (vwm m g τ) 0 := by
  obtain ⟨h1, h2, h3, h4⟩ := h
  unfold RUN
  rw [vw_73, vw_dpt]
  refine ⟨h1, fun c c0 c1 => ?_, fun c c0 c1 => ?_, h4⟩
  · rw [vw_78, vw_79, vw_80]
    exact vw_plc (h2 (9 * m + c) (by omega) (by omega))
  · have e := h3 (9 * m + c) (by omega) (by omega)
    unfold kdm at e ⊢
    rw [vw_78, vw_79, b0, vw_i (x := 220 * (bkm m + τ.2.1 78 (9 * m + c)) + τ.2.1 79 (9 * m + c)) (by decide) (by omega)]
    exact e
theorem vb_ieq : IEQ τ (1320 + x) (vb τ) x := by
  have a : ∀ k : Nat, 3 ≤ k ∧ k ≤ 6 → (vb τ).2.1 k x = τ.2.1 k (1320 + x) := fun k hk => by
    rw [vb_i (by omega), show vbo k = 1320 from if_pos (by omega)]
  refine ⟨a 3 (by decide), a 4 (by decide), a 5 (by decide), a 6 (by decide), fun i i0 i1 => ⟨?_, ?_⟩⟩
  · rw [vb_i (by decide), show vbo 7 = 5280 from rfl, show 5280 + (4 * x + i) = 4 * (1320 + x) + i by omega]
  · rw [vb_i (by decide), show vbo 8 = 5280 from rfl, show 5280 + (4 * x + i) = 4 * (1320 + x) + i by omega]
theorem ri_ie2 {y : Int} (h : IEQ τ x τ2 y) : rI τ2 y = rI τ x := by
  obtain ⟨a3, a4, a5, a6, ar⟩ := h
  have r0 := ar 0 (by decide) (by decide)
  have r1 := ar 1 (by decide) (by decide)
  have r2 := ar 2 (by decide) (by decide)
  have r3 := ar 3 (by decide) (by decide)
  funext c
  unfold rI
  rw [a3, a4, a5, a6, r0.1, r0.2, r1.1, r1.2, r2.1, r2.2, r3.1, r3.2]
theorem vb_ri : rI (vb τ) x = rI τ (1320 + x) := ri_ie2 vb_ieq
theorem vb_9 : (vb τ).2.1 9 r = τ.2.1 9 (6 + r) := by rw [vb_i (by decide), show vbo 9 = 6 from rfl]
theorem vb_rv : rV (vb τ) r = rV τ (6 + r) := by
  funext k
  unfold rV
  rw [vb_9, vb_ri, show 1320 + (220 * r + k) = 220 * (6 + r) + k by omega]
theorem vb_na : nArgs (vb τ) x = nArgs τ (1320 + x) := by
  obtain ⟨e3, e4, e5, e6, -⟩ := vb_ieq (τ := τ) (x := x)
  unfold nArgs
  rw [e3, e5, e6, vb_o (Or.inl (by decide))]
theorem vb_oki (h : OKI τ k (1320 + x)) : OKI (vb τ) k x := by
  obtain ⟨e3, e4, e5, e6, ea⟩ := vb_ieq (τ := τ) (x := x)
  obtain ⟨h1, h2, h3, h4, h5, h6, h7, h8, h9⟩ := h
  unfold OKI
  rw [e3, e4, e5, e6, vb_na]
  refine ⟨h1, h2, h3, h4, h5, h6, h7, fun i i0 i1 => ?_, fun a b => ?_⟩
  · rw [(ea i i0 i1).1, (ea i i0 i1).2]; exact h8 i i0 i1
  · rw [(ea 0 (by decide) (by decide)).1]; exact h9 a b
def LBT (τ : MS) (r : Int) : Prop := ∀ k, 0 ≤ k → k < τ.2.1 9 (6 + r) → (τ.2.1 3 (220 * (6 + r) + k) = 8 ∨ τ.2.1 3 (220 * (6 + r) + k) = 9 ∨ τ.2.1 3 (220 * (6 + r) + k) = 13) → τ.2.1 4 (220 * (6 + r) + k) + 2 ≤ 121
theorem gdr_vb (b : BKG τ 2 r) (l : LBT τ r) (r0 : 0 ≤ r ∧ r < 6) (nm : 0 ≤ τ.2.1 12 r ∧ τ.2.1 12 r ≤ 12) (pn : τ.2.1 11 r ≤ τ.2.1 12 r) : GDR (vb τ) r := by
  have b6 : bkm 2 = 6 := rfl
  have f1 : fm τ 2 r = 1 := rfl
  obtain ⟨h1, h2, h3, ⟨fr, lf, cw⟩, -⟩ := b
  rw [b6] at h1 h2 h3 cw
  rw [f1] at h2 cw
  have i4 : ∀ k, IEQ τ (220 * (6 + r) + k) (vb τ) (220 * r + k) := fun k => by
    have z := vb_ieq (τ := τ) (x := 220 * r + k)
    rw [show 1320 + (220 * r + k) = 220 * (6 + r) + k by omega] at z
    exact z
  refine ⟨by rw [vb_9]; exact h1, ⟨⟨by rw [vb_14]; decide, by rw [vb_14]; decide⟩, fun f a b => ?_⟩, fun k a b => ?_, ?_, fun k a b c => ?_, ⟨fr, lf, ?_⟩, ⟨vb_16, fun f a b => ?_⟩, fun k a b c => ?_, by rw [vb_o (Or.inl (by decide)), vb_o (Or.inl (by decide))]; exact pn⟩
  · rw [vb_14] at b
    have f0 : f = 0 := by omega
    subst f0
    have e15 : (vb τ).2.1 15 (12 * r + 0) = r := by rw [vb_15]; omega
    rw [e15]
    refine ⟨r0, fun n n0 n1 => ?_⟩
    rw [vb_o (Or.inl (by decide))] at n1
    rw [vb_18]
    omega
  · rw [vb_9] at b
    rw [vb_14]
    have z := h2 k a b
    rw [show 220 * (6 + r) + k = 1320 + (220 * r + k) by omega] at z
    exact vb_oki z
  · show (vb τ).2.1 15 (12 * r + 0) = r
    rw [vb_15]; omega
  · rw [vb_9] at b
    have e := i4 k
    rw [e.1] at c
    obtain ⟨j, j0, j1, j2, j3⟩ := h3 k a b c
    have ej := i4 j
    refine ⟨j, j0, by rw [vb_9]; exact j1, by rw [ej.1]; exact j2, by rw [ej.2.1, e.2.1]; exact j3⟩
  · have ek : iK (vb τ) r = iK τ (6 + r) := funext (fun k => (i4 k).1)
    have ed : iD (vb τ) r = iD τ (6 + r) := funext (fun k => (i4 k).2.1)
    have eo : iO (vb τ) r = iO τ (6 + r) := funext (fun k => (i4 k).2.2.1)
    have ef : iF (vb τ) r = prm τ 2 r := funext (fun f => (if_pos rfl : prm τ 2 r f = -1).symm)
    rw [vb_9, vb_14, ek, ed, eo, ef]
    exact cw
  · rw [vb_14] at b; omega
  · rw [vb_9] at b
    have e := i4 k
    rw [e.1] at c
    rw [e.2.1, vb_14]
    have z := l k a b c
    omega
def VBI (τ : MS) : Prop := ∀ r, 0 ≤ r → r < τ.1 10 → UNQ (rV τ (6 + r)) (τ.2.1 9 (6 + r)) ∧ EZ (rV τ (6 + r)) (τ.2.1 9 (6 + r)) ∧ LBT τ r
theorem gdx_vb (h : VBI τ) (b : BKA τ 2) (np : PAR τ) (nm : NAM τ) (pn : ∀ r, 0 ≤ r → r < τ.1 10 → τ.2.1 11 r ≤ τ.2.1 12 r) : GDX (vb τ) := by
  have t6 := b.1
  refine ⟨⟨b.1, fun r r0 r1 => gdr_vb (b.2 r r0 r1) (h r r0 r1).2.2 ⟨r0, by have r1 : r < τ.1 10 := r1; omega⟩ (nm r r0 (by have r1 : r < τ.1 10 := r1; omega)) (pn r r0 r1)⟩, fun r r0 r1 => ?_, fun r r0 r1 => ?_, fun r r0 r1 => ?_⟩
  · rw [vb_o (Or.inl (by decide))]; exact np r r0 r1
  · rw [vb_rv, vb_9]; exact (h r r0 r1).1
  · rw [vb_rv, vb_9]; exact (h r r0 r1).2.1
theorem gdx_vw1 (h : GDX τ) (hm : m ≠ 2) : GDX (vwm m g τ) := by
  have e : bk2 m τ = τ := if_neg hm
  have f := vwm_fr (m := m) (g := g) (τ := τ)
  rw [e] at f
  refine ⟨h.1.fr f (by decide) (by decide), h.2.1.fr f (by decide), fun q a b => ?_, fun q a b => ?_⟩
  · rw [f.1 10 (by decide)] at b
    have w := h.2.2.1 q a b
    rw [show rV (vwm m g τ) q = rV τ q from congrArg RTS.V (rs_fr f (by decide)), f.2.1 9 (by decide)]
    exact w
  · rw [f.1 10 (by decide)] at b
    have w := h.2.2.2 q a b
    rw [show rV (vwm m g τ) q = rV τ q from congrArg RTS.V (rs_fr f (by decide)), f.2.1 9 (by decide)]
    exact w
theorem gdx_vw2 (h : GDX (vb τ)) : GDX (vwm 2 g τ) := by
  have f := vwm_fr (m := 2) (g := g) (τ := τ)
  have e : bk2 2 τ = vb τ := if_pos rfl
  rw [e] at f
  refine ⟨h.1.fr f (by decide) (by decide), h.2.1.fr f (by decide), fun q a b => ?_, fun q a b => ?_⟩
  · rw [f.1 10 (by decide)] at b
    have w := h.2.2.1 q a b
    rw [show rV (vwm 2 g τ) q = rV (vb τ) q from congrArg RTS.V (rs_fr f (by decide)), f.2.1 9 (by decide)]
    exact w
  · rw [f.1 10 (by decide)] at b
    have w := h.2.2.2 q a b
    rw [show rV (vwm 2 g τ) q = rV (vb τ) q from congrArg RTS.V (rs_fr f (by decide)), f.2.1 9 (by decide)]
    exact w
end VWR
end
