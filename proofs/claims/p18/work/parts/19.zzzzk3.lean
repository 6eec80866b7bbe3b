section
section PLN9
variable {T : CT} {σ σ2 σ3 σj τ τ2 τ3 τj : MS} {o p xa xb xc xd xe xf y : Nat} {C : Int → Nat} {m u v g x pv : Int} {W : Int → Int} {L : List E8}
theorem vb_frt {ss ks js : List Nat} (h : Fr ss ks js τ τ2) : Fr ss ks js (vb τ) (vb τ2) := by
  refine ⟨fun k hk => h.1 k hk, fun k hk => ?_, fun k hk => h.2.2 k hk⟩
  have e := h.2.1 k hk
  funext j
  show (if k = 14 then (1 : Int) else if k = 15 then j / 12 else if k = 16 then -1 else if k = 17 then 0 else if k = 18 then j % 144 else τ2.2.1 k (vbo k + j)) = (if k = 14 then (1 : Int) else if k = 15 then j / 12 else if k = 16 then -1 else if k = 17 then 0 else if k = 18 then j % 144 else τ.2.1 k (vbo k + j))
  rw [e]
theorem bk_frt {ss ks js : List Nat} (h : Fr ss ks js τ τ2) : Fr ss ks js (bk2 m τ) (bk2 m τ2) := by
  unfold bk2
  split
  · exact vb_frt h
  · exact h
theorem gdx_bk (h : GDX (bk2 m τ)) : GDX (vwm m g τ) := by
  unfold bk2 at h
  by_cases z : m = 2
  · subst z
    rw [if_pos rfl] at h
    exact gdx_vw2 h
  · rw [if_neg z] at h
    exact gdx_vw1 h z
abbrev GW9 : List Nat := [73, 75, 76, 77, 78, 79, 80, 81, 82]
theorem rwf_vw (hw : RWF T σ o xa xb xc xd xe xf y C (bk2 m τ)) (F : Fr [] GW9 [] τ τ2) : RWF T σ o xa xb xc xd xe xf y C (vwm m g τ2) :=
  (hw.tau (bk_frt F) (by decide) (by decide)).tau vwm_fr (by decide) (by decide)
theorem gdx_f (h : GDX (bk2 m τ)) (F : Fr [] GW9 [] τ τ2) : GDX (bk2 m τ2) := h.fr (Fr.sub (bk_frt F) (by decide) (by decide) (by decide))
def EN9 (τ : MS) (m : Int) : Prop := BKA τ m ∧ PAR τ ∧ (m ≠ 2 → GDA τ)
theorem EN9.fr (h : EN9 τ m) (F : Fr [] GW9 [] τ τ2) : EN9 τ2 m := ⟨h.1.fr F (by decide) (by decide), h.2.1.fr F (by decide), fun z => (h.2.2 z).fr F (by decide) (by decide)⟩
theorem JSN9.pre {t : Nat} {j : Nat} (h : JSN9 T o xa xb xc xd xe xf y t σ σ2) (hj : j < t) : ∃ σj σ', JSN9 T o xa xb xc xd xe xf y j σ σj ∧ CHX (RNL o) [xa, xb, xc, xd, xe, xf] [] σ σj ∧ σj.2.1 56 o = 1 ∧ JST T σj o xa xb xc xd xe xf y 0 σ' := by
  induction t generalizing σ2 with
  | zero => omega
  | succ t ih =>
    obtain ⟨σ1, h1, h2, h3, h4⟩ := h
    by_cases z : j = t
    · subst z
      exact ⟨σ1, σ2, h1, h2, h3, h4⟩
    · exact ih h1 (by omega)
theorem SLN9.pre {t : Nat} {j : Nat} (h : SLN9 m t τ τ2) (hj : j < t) : ∃ τj τ', SLN9 m j τ τj ∧ WAY9 m τ τj ∧ STQ τj m 0 τ' := by
  induction t generalizing τ2 with
  | zero => omega
  | succ t ih =>
    obtain ⟨τ1, h1, h2, h3⟩ := h
    by_cases z : j = t
    · subst z
      exact ⟨τ1, τ2, h1, h2, h3⟩
    · exact ih h1 (by omega)
theorem sil9 {j : Nat} (S : SDE σ o xa xb xc xd xe xf C m τ x W L) (hw : RWF T σ o xa xb xc xd xe xf y C (bk2 m τ)) (gx : GDX (bk2 m τ)) (E : EN9 τ m) (hm : 1 ≤ m ∧ m ≤ 2) (bg : 0 ≤ σ.2.1 67 o ∧ σ.2.1 67 o + j ≤ 1500000000) (hj : JSN9 T o xa xb xc xd xe xf y j σ σj) (hs : SLN9 m j τ τj) : ∃ L2, SDE σj o xa xb xc xd xe xf C m τj x W L2 ∧ nl8 L2 = nl8 L ∧ σj.2.1 67 o = σ.2.1 67 o + j ∧ (∀ i, i ≠ m → XJ i τ τj) ∧ Fr [] GW9 [] τ τj := by
  induction j generalizing σj τj with
  | zero =>
    rw [show σj = σ from hj, show τj = τ from hs]
    exact ⟨L, S, rfl, by omega, fun _ _ => XJ.rfl, Fr.rfl⟩
  | succ j ih =>
    obtain ⟨σ1, c1, c2, c3, c4⟩ := hj
    obtain ⟨τ1, r1, r2, r3⟩ := hs
    obtain ⟨L1, i1, i2, i3, i4, i5⟩ := ih (by omega) c1 r1
    have E1 := E.fr i5
    obtain ⟨L2, ⟨-, n0⟩, h⟩ := sde_st i1 (rwf_vw (hw.chx c2) i5) (gdx_bk (gdx_f gx i5)) r2.1 E1.1 E1.2.1 E1.2.2 r2.2.2.2 (by omega) c4 r3
    rcases h with ⟨-, -, S2, e67⟩ | ⟨hu, -⟩
    · exact ⟨L2, S2, (n0 (by decide)).trans i2, by omega, fun i hi => (i4 i hi).trans (XJ.stq r3 hm hi r2.1 E1.1 r2.2.2.2.1), i5.trans (stq_fr r3)⟩
    · omega
theorem pln9 {n : Nat} (S : SDE σ o xa xb xc xd xe xf C m τ x W L) (hw : RWF T σ o xa xb xc xd xe xf y C (bk2 m τ)) (gx : GDX (bk2 m τ)) (E : EN9 τ m) (hm : 1 ≤ m ∧ m ≤ 2) (bg : 0 ≤ σ.2.1 67 o ∧ σ.2.1 67 o ≤ 1400000000) (hn : (n : Int) ≤ 100000) (hj : JPL9 T σ o xa xb xc xd xe xf y v σ2) (hs : NXT9 m τ n pv τ3) : ∃ L2, ((v = 1 ∧ pv = 1 ∧ SDE σ2 o xa xb xc xd xe xf C m τ3 x W L2 ∧ nl8 L2 = nl8 L + 1 ∧ ∃ L0 : List E8, L2 = L0 ++ [(2, 0)]) ∨ (v = 0 ∧ (pv = 2 ∨ pv = 3) ∧ SDD σ2 o m τ3 x W L2 pv ∧ nl8 L2 = nl8 L)) ∧ (∀ i, i ≠ m → XJ i τ τ3) ∧ Fr [] GW9 [] τ τ3 ∧ (v = 1 → σ2.2.1 67 o = σ.2.1 67 o + n + 1) := by
  obtain ⟨t, σ1, c1, c2, c3⟩ := hj
  obtain ⟨τ1, r1, r2, r3, r4⟩ := hs
  rcases Nat.lt_trichotomy t n with q | q | q
  · obtain ⟨τt, τ', s1, s2, s3⟩ := r1.pre q
    obtain ⟨L1, i1, i2, i3, i4, i5⟩ := sil9 S hw gx E hm (by omega) c1 s1
    have E1 := E.fr i5
    rcases c3 with ⟨d1, d2, d3, d4⟩ | ⟨d1, d2, d3⟩
    · obtain ⟨L2, -, h⟩ := sde_st i1 (rwf_vw (hw.chx c2) i5) (gdx_bk (gdx_f gx i5)) s2.1 E1.1 E1.2.1 E1.2.2 s2.2.2.2 (by omega) d4 s3
      rcases h with ⟨-, h, -⟩ | ⟨h, -⟩ <;> omega
    · exact absurd ⟨by omega, i1.1.1⟩ d3
  · subst q
    obtain ⟨L1, i1, i2, i3, i4, i5⟩ := sil9 S hw gx E hm (by omega) c1 r1
    have E1 := E.fr i5
    rcases c3 with ⟨d1, d2, d3, d4⟩ | ⟨d1, d2, d3⟩
    · obtain ⟨L2, nn, h⟩ := sde_st i1 (rwf_vw (hw.chx c2) i5) (gdx_bk (gdx_f gx i5)) r2.1 E1.1 E1.2.1 E1.2.2 r2.2.2.2 (by omega) d4 r3
      rcases h with ⟨-, h, S2, h67⟩ | ⟨-, h, -⟩
      · have nz := nn.1 h.symm
        exact ⟨L2, Or.inl ⟨d1, h.symm, S2, by omega, nz.2⟩, fun i hi => (i4 i hi).trans (XJ.stq r3 hm hi r2.1 E1.1 r2.2.2.2.1), i5.trans (stq_fr r3), fun _ => by omega⟩
      · omega
    · exact absurd ⟨by omega, i1.1.1⟩ d3
  · have key : ∀ σ', JSN9 T o xa xb xc xd xe xf y (n + 1) σ σ' → ∃ L2, (pv = 2 ∨ pv = 3) ∧ SDD σ' o m τ3 x W L2 pv ∧ nl8 L2 = nl8 L ∧ (∀ i, i ≠ m → XJ i τ τ3) ∧ Fr [] GW9 [] τ τ3 := fun σ' hh => by
      obtain ⟨σn, a1, a2, a3, a4⟩ := hh
      obtain ⟨L1, i1, i2, i3, i4, i5⟩ := sil9 S hw gx E hm (by omega) a1 r1
      have E1 := E.fr i5
      obtain ⟨L2, nn, h⟩ := sde_st i1 (rwf_vw (hw.chx a2) i5) (gdx_bk (gdx_f gx i5)) r2.1 E1.1 E1.2.1 E1.2.2 r2.2.2.2 (by omega) a4 r3
      rcases h with ⟨-, h, -⟩ | ⟨hu, -, hd⟩
      · exact absurd h.symm r4
      · exact ⟨L2, hu, hd, (nn.2 (by omega)).trans i2, fun i hi => (i4 i hi).trans (XJ.stq r3 hm hi r2.1 E1.1 r2.2.2.2.1), i5.trans (stq_fr r3)⟩
    have ne1 : ∀ {σ' : MS} {L2 : List E8}, SDD σ' o m τ3 x W L2 pv → σ'.2.1 56 o ≠ 1 := fun h => by
      obtain ⟨-, -, -, L0, ⟨-, z, -⟩ | ⟨-, z, -⟩⟩ := h <;> omega
    by_cases z : t = n + 1
    · subst z
      obtain ⟨L2, k1, k2, k3, k4, k5⟩ := key _ c1
      rcases c3 with ⟨d1, d2, d3, d4⟩ | ⟨d1, d2, d3⟩
      · exact absurd d2 (ne1 k2)
      · exact ⟨L2, Or.inr ⟨d1, k1, by rw [d2]; exact k2, k3⟩, k4, k5, fun e => by omega⟩
    · obtain ⟨σj, σ', a1, a2, a3, a4⟩ := c1.pre (j := n + 1) (by omega)
      obtain ⟨L2, k1, k2, k3, k4, k5⟩ := key _ a1
      exact absurd a3 (ne1 k2)
end PLN9
end
