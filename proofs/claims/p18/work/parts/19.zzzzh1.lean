section
def SC8 (H H2 : RTS) (ρ : Int → G8 → Int → G8 → Prop) (k : Int) (R : G8) (k1 : Int) (R1 : G8) : Prop :=
  (∀ d e k2 R2 d2, ist H k R d e k2 R2 d2 → ∃ k3 R3, ist H2 k1 R1 d e k3 R3 d2 ∧ ρ k2 R2 k3 R3) ∧
    ((H.V k 0 = 10 ∨ H.V k 0 = 7 ∨ H.V k 0 = 14) → (0 ≤ k1 ∧ k1 < H2.n) ∧ H2.V k1 0 = H.V k 0) ∧
    (H.V k 0 = 10 → H2.V k1 2 = H.V k 2 ∧ (∀ j, 0 ≤ j → j < 4 → opv R1 (H2.V k1) j = opv R (H.V k) j) ∧ ∀ v, ρ (k + 1) (uZ R (H.V k 1) v) (k1 + 1) (uZ R1 (H2.V k1 1) v)) ∧
    (H.V k 0 = 7 → opv R1 (H2.V k1) 0 = opv R (H.V k) 0)
def SI8 (H : RTS) (ρ : Int → G8 → Int → G8 → Prop) (k : Int) (R : G8) (k1 : Int) (R1 : G8) : Prop :=
  (∀ d e k2 R2 d2, ist H k R d e k2 R2 d2 → e = (0, 0) ∧ d2 = d ∧ ρ k2 R2 k1 R1) ∧ H.V k 0 ≠ 7 ∧ H.V k 0 ≠ 10 ∧ H.V k 0 ≠ 14
section SCS
variable {H H2 : RTS} {ρ : Int → G8 → Int → G8 → Prop} {k k1 k' : Int} {R R1 R' : G8}
theorem sc8 (hb : 0 ≤ k1 ∧ k1 < H2.n) (i0 : H2.V k1 0 = H.V k 0 ∨ (H.V k 0 ≤ 5 ∧ H2.V k1 0 ≤ 5))
    (o : H.V k 0 = 6 ∨ H.V k 0 = 7 ∨ H.V k 0 = 9 → opv R1 (H2.V k1) 0 = opv R (H.V k) 0)
    (c : H.V k 0 = 10 → H2.V k1 2 = H.V k 2 ∧ ∀ j, 0 ≤ j → j < 4 → opv R1 (H2.V k1) j = opv R (H.V k) j)
    (f : H.V k 0 ≠ 7 → H.V k 0 ≠ 8 → 5 < H.V k 0 → H.V k 0 ≠ 10 → (H.V k 0 = 9 → opv R (H.V k) 0 ≠ 0) → ρ (k + 1) R (k1 + 1) R1)
    (w : H.V k 0 ≤ 5 → ρ (k + 1) (uZ R (H.V k 1) (val8 R (H.V k))) (k1 + 1) (uZ R1 (H2.V k1 1) (val8 R1 (H2.V k1))))
    (v : H.V k 0 = 10 → ∀ v, ρ (k + 1) (uZ R (H.V k 1) v) (k1 + 1) (uZ R1 (H2.V k1 1) v))
    (j : H.V k 0 = 8 ∨ (H.V k 0 = 9 ∧ opv R (H.V k) 0 = 0) → ∀ l, TGv H.V H.n k l → ∃ l', TGv H2.V H2.n k1 l' ∧ ρ l R l' R1) : SC8 H H2 ρ k R k1 R1 := by
  have i1 : 5 < H.V k 0 → H2.V k1 0 = H.V k 0 := fun a => by
    rcases i0 with z | z
    · exact z
    · omega
  refine ⟨fun d e k2 R2 d2 h => ?_, fun h => ⟨hb, i1 (by omega)⟩, fun h => ⟨(c h).1, (c h).2, v h⟩, fun h => o (Or.inr (Or.inl h))⟩
  obtain ⟨-, h⟩ := h
  rcases h with ⟨a, e1, e2, e3, e4⟩ | ⟨a, e1, e2, e3, e4⟩ | ⟨a, e1, e2, e3, e4⟩ | ⟨a, e1, e2, e3, e4⟩ | ⟨a, e1, e2, e3, e4⟩ | ⟨a, a8, e1, e2, e3, e4⟩ | ⟨a, e1, e2, e3, e4⟩
  · rw [e1, e2, e3, e4]
    refine ⟨k1 + 1, _, ⟨hb, Or.inl ⟨?_, rfl, rfl, rfl, rfl⟩⟩, w a⟩
    rcases i0 with z | z
    · omega
    · exact z.2
  · rw [e1, e2, e3, e4]
    exact ⟨k1 + 1, R1, ⟨hb, Or.inr (Or.inl ⟨(i1 (by omega)).trans a, by rw [o (Or.inl a)], rfl, rfl, rfl⟩)⟩, f (by omega) (by omega) (by omega) (by omega) (fun z => by omega)⟩
  · rw [e1, e3, e4]
    obtain ⟨l', g1, g2⟩ := j a k2 e2
    refine ⟨l', R1, ⟨hb, Or.inr (Or.inr (Or.inl ⟨?_, rfl, g1, rfl, rfl⟩))⟩, g2⟩
    rcases a with z | z
    · exact Or.inl ((i1 (by omega)).trans z)
    · exact Or.inr ⟨(i1 (by omega)).trans z.1, (o (Or.inr (Or.inr z.1))).trans z.2⟩
  · rw [e1, e2, e3, e4]
    refine ⟨k1 + 1, R1, ⟨hb, Or.inr (Or.inr (Or.inr (Or.inl ⟨?_, rfl, rfl, rfl, rfl⟩)))⟩, ?_⟩
    · rcases a with z | z | z
      · exact Or.inl ⟨(i1 (by omega)).trans z.1, fun y => z.2 ((o (Or.inr (Or.inr z.1))).symm.trans y)⟩
      · exact Or.inr (Or.inl ((i1 (by omega)).trans z))
      · exact Or.inr (Or.inr ((i1 (by omega)).trans z))
    · rcases a with z | z | z
      · exact f (by omega) (by omega) (by omega) (by omega) (fun _ => z.2)
      · exact f (by omega) (by omega) (by omega) (by omega) (fun y => by omega)
      · exact f (by omega) (by omega) (by omega) (by omega) (fun y => by omega)
  · rw [e1, e2, e3, e4]
    exact ⟨k1 + 1, R1, ⟨hb, Or.inr (Or.inr (Or.inr (Or.inr (Or.inl ⟨(i1 (by omega)).trans a, rfl, rfl, rfl, rfl⟩))))⟩, f (by omega) (by omega) (by omega) (by omega) (fun y => by omega)⟩
  · rw [e1, e2, e3, e4]
    exact ⟨k1 + 1, R1, ⟨hb, Or.inr (Or.inr (Or.inr (Or.inr (Or.inr (Or.inl ⟨(i1 (by omega)).trans a, a8, rfl, rfl, rfl, rfl⟩)))))⟩, f (by omega) (by omega) (by omega) (by omega) (fun y => by omega)⟩
  · rw [e1, e2, e3, e4]
    exact ⟨k1 + 1, R1, ⟨hb, Or.inr (Or.inr (Or.inr (Or.inr (Or.inr (Or.inr ⟨(i1 (by omega)).trans a, rfl, rfl, rfl, rfl⟩)))))⟩, f (by omega) (by omega) (by omega) (by omega) (fun y => by omega)⟩
theorem sc9 (a9 : H.V k 0 = 9) (z : opv R (H.V k) 0 = 0) (hb : 0 ≤ k1 ∧ k1 < H2.n) (i0 : H2.V k1 0 = 8) (j : ∀ l, TGv H.V H.n k l → ∃ l', TGv H2.V H2.n k1 l' ∧ ρ l R l' R1) : SC8 H H2 ρ k R k1 R1 := by
  refine ⟨fun d e k2 R2 d2 h => ?_, fun h => absurd h (by omega), fun h => absurd h (by omega), fun h => absurd h (by omega)⟩
  obtain ⟨-, h⟩ := h
  rcases h with ⟨a, -⟩ | ⟨a, -⟩ | ⟨a, e1, e2, e3, e4⟩ | ⟨a, e1, e2, e3, e4⟩ | ⟨a, -⟩ | ⟨a, -⟩ | ⟨a, -⟩
  · omega
  · omega
  · rw [e1, e3, e4]
    obtain ⟨l', g1, g2⟩ := j k2 e2
    exact ⟨l', R1, ⟨hb, Or.inr (Or.inr (Or.inl ⟨Or.inl i0, rfl, g1, rfl, rfl⟩))⟩, g2⟩
  · rcases a with y | y | y
    · exact absurd z y.2
    · omega
    · omega
  · omega
  · omega
  · omega
theorem si9 (a9 : H.V k 0 = 9) (z : opv R (H.V k) 0 ≠ 0) (f : ρ (k + 1) R k1 R1) : SI8 H ρ k R k1 R1 := by
  refine ⟨fun d e k2 R2 d2 h => ?_, by omega, by omega, by omega⟩
  obtain ⟨-, h⟩ := h
  rcases h with ⟨a, -⟩ | ⟨a, -⟩ | ⟨a, e1, e2, e3, e4⟩ | ⟨a, e1, e2, e3, e4⟩ | ⟨a, -⟩ | ⟨a, -⟩ | ⟨a, -⟩
  · omega
  · omega
  · rcases a with y | y
    · omega
    · exact absurd y.2 z
  · rw [e1, e2, e3, e4]; exact ⟨rfl, rfl, f⟩
  · omega
  · omega
  · omega
theorem si5 (a5 : H.V k 0 ≤ 5) (f : ρ (k + 1) (uZ R (H.V k 1) (val8 R (H.V k))) k1 R1) : SI8 H ρ k R k1 R1 := by
  refine ⟨fun d e k2 R2 d2 h => ?_, by omega, by omega, by omega⟩
  obtain ⟨-, h⟩ := h
  rcases h with ⟨a, e1, e2, e3, e4⟩ | ⟨a, -⟩ | ⟨a, -⟩ | ⟨a, -⟩ | ⟨a, -⟩ | ⟨a, -⟩ | ⟨a, -⟩
  · rw [e1, e2, e3, e4]; exact ⟨rfl, rfl, f⟩
  · omega
  · omega
  · omega
  · omega
  · omega
  · omega
theorem ls8_si (h : SI8 H ρ k R k' R') : ∃ (n : Nat) (k1 : Int) (R1 : G8), (∀ d, sil H2 d n k' R' k1 R1) ∧
    (((∀ d e k2 R2 d2, ist H k R d e k2 R2 d2 → e = (0, 0) ∧ d2 = d ∧ ρ k2 R2 k1 R1) ∧ H.V k 0 ≠ 7 ∧ H.V k 0 ≠ 10 ∧ H.V k 0 ≠ 14) ∨ SC8 H H2 ρ k R k1 R1) := ⟨0, k', R', fun _ => sil.z, Or.inl h⟩
theorem ls8_sc (h : SC8 H H2 ρ k R k' R') : ∃ (n : Nat) (k1 : Int) (R1 : G8), (∀ d, sil H2 d n k' R' k1 R1) ∧
    (((∀ d e k2 R2 d2, ist H k R d e k2 R2 d2 → e = (0, 0) ∧ d2 = d ∧ ρ k2 R2 k1 R1) ∧ H.V k 0 ≠ 7 ∧ H.V k 0 ≠ 10 ∧ H.V k 0 ≠ 14) ∨ SC8 H H2 ρ k R k1 R1) := ⟨0, k', R', fun _ => sil.z, Or.inr h⟩
theorem ls8_s1 (s : ∀ d, ist H2 k' R' d (0, 0) k1 R1 d) (h : SC8 H H2 ρ k R k1 R1) : ∃ (n : Nat) (k1 : Int) (R1 : G8), (∀ d, sil H2 d n k' R' k1 R1) ∧
    (((∀ d e k2 R2 d2, ist H k R d e k2 R2 d2 → e = (0, 0) ∧ d2 = d ∧ ρ k2 R2 k1 R1) ∧ H.V k 0 ≠ 7 ∧ H.V k 0 ≠ 10 ∧ H.V k 0 ≠ 14) ∨ SC8 H H2 ρ k R k1 R1) := ⟨1, k1, R1, fun d => sil.one (s d), Or.inr h⟩
end SCS
def fOut (K : KN) (i : It) : Prop := i 0 = 9 ∧ zer1 (foA (foO K i 4)) ∧ foA (foO K i 4) 4 ≠ 0
noncomputable def fIt (K : KN) (i : It) : It := if i 0 = 13 then i else if i 0 = 12 then foB K i else if i 0 ≤ 10 then foZ (foA (foO K i 4)) else i
def kvd (K : KN) (R : G8) : Prop := ∀ g, (K g).1 ≠ 0 → R g = if (K g).1 = 2 then R (K g).2 else (K g).2
section FOL8
variable {V : Int → It} {K : KN} {R : G8} {i j : It} {t s : Nat} {m g : Int}
theorem foO_kk (h0 : 0 ≤ m) (h4 : m < 4) : foO K i 4 (3 + 2 * m) = if i (3 + 2 * m) = 2 ∧ (K (i (4 + 2 * m))).1 ≠ 0 then (K (i (4 + 2 * m))).1 else i (3 + 2 * m) := by
  show (if 3 ≤ 3 + 2 * m ∧ 3 + 2 * m < 3 + 2 * 4 ∧ i (3 + 2 * ((3 + 2 * m - 3) / 2)) = 2 ∧ (K (i (4 + 2 * ((3 + 2 * m - 3) / 2)))).1 ≠ 0 then (if (3 + 2 * m - 3) % 2 = 0 then (K (i (4 + 2 * ((3 + 2 * m - 3) / 2)))).1 else (K (i (4 + 2 * ((3 + 2 * m - 3) / 2)))).2) else i (3 + 2 * m)) = _
  rw [show (3 + 2 * m - 3) / 2 = m by omega, show (3 + 2 * m - 3) % 2 = 0 by omega]
  by_cases c : i (3 + 2 * m) = 2 ∧ (K (i (4 + 2 * m))).1 ≠ 0
  · rw [if_pos c, if_pos ⟨by omega, by omega, c.1, c.2⟩]; rfl
  · rw [if_neg c, if_neg (fun z => c z.2.2)]
theorem foO_kv (h0 : 0 ≤ m) (h4 : m < 4) : foO K i 4 (4 + 2 * m) = if i (3 + 2 * m) = 2 ∧ (K (i (4 + 2 * m))).1 ≠ 0 then (K (i (4 + 2 * m))).2 else i (4 + 2 * m) := by
  show (if 3 ≤ 4 + 2 * m ∧ 4 + 2 * m < 3 + 2 * 4 ∧ i (3 + 2 * ((4 + 2 * m - 3) / 2)) = 2 ∧ (K (i (4 + 2 * ((4 + 2 * m - 3) / 2)))).1 ≠ 0 then (if (4 + 2 * m - 3) % 2 = 0 then (K (i (4 + 2 * ((4 + 2 * m - 3) / 2)))).1 else (K (i (4 + 2 * ((4 + 2 * m - 3) / 2)))).2) else i (4 + 2 * m)) = _
  rw [show (4 + 2 * m - 3) / 2 = m by omega, show (4 + 2 * m - 3) % 2 = 1 by omega]
  by_cases c : i (3 + 2 * m) = 2 ∧ (K (i (4 + 2 * m))).1 ≠ 0
  · rw [if_pos c, if_pos ⟨by omega, by omega, c.1, c.2⟩]; rfl
  · rw [if_neg c, if_neg (fun z => c z.2.2)]
theorem foO_lo {c : Int} (h : c < 3) : foO K i 4 c = i c := if_neg (by omega)
theorem kvd_z : kvd (fun _ => (0, 0)) R := fun _ h => absurd rfl h
theorem kvd_op (h : kvd K R) (h0 : 0 ≤ m) (h4 : m < 4) : opv R (foO K i 4) m = opv R i m := by
  unfold opv
  rw [foO_kk h0 h4, foO_kv h0 h4]
  by_cases c : i (3 + 2 * m) = 2 ∧ (K (i (4 + 2 * m))).1 ≠ 0
  · rw [if_pos c, if_pos c, if_pos c.1]; exact (h _ c.2).symm
  · rw [if_neg c, if_neg c]
theorem opv_0 : opv R i 0 = if i 3 = 2 then R (i 4) else i 4 := rfl
theorem opv_1 : opv R i 1 = if i 5 = 2 then R (i 6) else i 6 := rfl
theorem kvd_l (h : kvd K R) {v : Int} (hv : j 0 = 0 → v = opv R j 0) (hk : j 0 ≤ 5 ∨ j 0 = 10) : kvd (lrn j K) (uZ R (j 1) v) := by
  have e : lrn j K = lrnF j K := by unfold lrn; rw [dI_y hk]
  rw [e]
  intro g hg
  by_cases e1 : g = j 1
  · have e2 : lrnF j K g = if j 0 = 0 ∧ ¬ (j 3 = 2 ∧ j 4 = j 1) ∧ j 3 ≠ 0 then (j 3, j 4) else (0, 0) := if_pos e1
    by_cases c : j 0 = 0 ∧ ¬ (j 3 = 2 ∧ j 4 = j 1) ∧ j 3 ≠ 0
    · rw [if_pos c] at e2
      rw [e2, e1, uZ_eq, hv c.1, opv_0]
      show _ = if j 3 = 2 then uZ R (j 1) _ (j 4) else j 4
      by_cases z : j 3 = 2
      · rw [if_pos z, if_pos z, uZ_ne (fun y => c.2.1 ⟨z, y⟩)]
      · rw [if_neg z, if_neg z]
    · rw [if_neg c] at e2
      rw [e2] at hg
      exact absurd rfl hg
  · have e2 : lrnF j K g = if K g = (2, j 1) then (0, 0) else K g := if_neg e1
    by_cases c : K g = (2, j 1)
    · rw [if_pos c] at e2
      rw [e2] at hg
      exact absurd rfl hg
    · rw [if_neg c] at e2
      rw [e2] at hg ⊢
      rw [uZ_ne e1, h g hg]
      by_cases z : (K g).1 = 2
      · rw [if_pos z, if_pos z, uZ_ne (fun y => c (Prod.ext z y))]
      · rw [if_neg z, if_neg z]
theorem kvd_no (hk : ¬ (j 0 ≤ 5 ∨ j 0 = 10)) : lrn j K = K := by unfold lrn; rw [dI_n hk]
theorem foA_hi (h : 5 < i 0) : foA i = i := by unfold foA; rw [dI_n (fun z => by have := z.2.1; omega)]
theorem foA_0 : foA i 0 = dI (five2 i) 0 (i 0) := by
  unfold foA
  by_cases c : five2 i
  · rw [dI_y c, dI_y c]
    show uZ (uZ (uZ (uZ (uZ i 0 0) 3 _) 4 _) 5 0) 6 0 0 = 0
    rw [uZ_ne (by decide), uZ_ne (by decide), uZ_ne (by decide), uZ_ne (by decide), uZ_eq]
  · rw [dI_n c, dI_n c]
theorem zer9 (h : zer1 (foA (foO K i 4))) : i 0 = 9 := by
  have a := h.1
  rw [foA_0] at a
  by_cases c : five2 (foO K i 4)
  · rw [dI_y c] at a; omega
  · rw [dI_n c, foO_lo (by decide)] at a; exact a
theorem fo_st : (fOut (foS V t).1 (V t) ∧ (foS V (t + 1)).2.1 = (foS V t).2.1 ∧ (foS V (t + 1)).2.2.2 = (foS V t).2.2.2) ∨ (¬ fOut (foS V t).1 (V t) ∧ (foS V (t + 1)).2.1 = (foS V t).2.1 + 1 ∧ (foS V (t + 1)).2.2.2 = uZ (foS V t).2.2.2 (foS V t).2.1 (fIt (foS V t).1 (V t))) := by
  show (fOut (foS V t).1 (V t) ∧ (foT (foS V t) (V t)).2.1 = (foS V t).2.1 ∧ (foT (foS V t) (V t)).2.2.2 = (foS V t).2.2.2) ∨ (¬ fOut (foS V t).1 (V t) ∧ (foT (foS V t) (V t)).2.1 = (foS V t).2.1 + 1 ∧ (foT (foS V t) (V t)).2.2.2 = uZ (foS V t).2.2.2 (foS V t).2.1 (fIt (foS V t).1 (V t)))
  unfold foT
  by_cases a : V t 0 = 13
  · rw [if_pos a]
    refine Or.inr ⟨fun z => by have := z.1; omega, rfl, ?_⟩
    unfold fIt; rw [if_pos a]
  · rw [if_neg a]
    by_cases b : V t 0 = 12
    · rw [if_pos b]
      refine Or.inr ⟨fun z => by have := z.1; omega, rfl, ?_⟩
      unfold fIt; rw [if_neg a, if_pos b]
    · rw [if_neg b]
      by_cases c : V t 0 ≤ 10
      · rw [if_pos c]
        unfold foX
        by_cases z : zer1 (foA (foO (foS V t).1 (V t) 4)) ∧ foA (foO (foS V t).1 (V t) 4) 4 ≠ 0
        · exact Or.inl ⟨⟨zer9 z.1, z⟩, dI_y z, dI_y z⟩
        · refine Or.inr ⟨fun y => z y.2, dI_n z, (dI_n z).trans ?_⟩
          unfold fIt; rw [if_neg a, if_neg b, if_pos c]
      · rw [if_neg c]
        refine Or.inr ⟨fun z => by have := z.1; omega, rfl, ?_⟩
        unfold fIt; rw [if_neg a, if_neg b, if_neg c]
theorem fo8k : (foS V (t + 1)).1 = if V t 0 = 13 then (fun _ => (0, 0)) else if V t 0 ≤ 10 then lrn (foZ (foA (foO (foS V t).1 (V t) 4))) (foS V t).1 else (foS V t).1 := by
  show (foT (foS V t) (V t)).1 = _
  unfold foT
  by_cases a : V t 0 = 13
  · rw [if_pos a, if_pos a]
  · rw [if_neg a, if_neg a]
    by_cases b : V t 0 = 12
    · rw [if_pos b, if_neg (by omega)]
    · rw [if_neg b]
      by_cases c : V t 0 ≤ 10
      · rw [if_pos c, if_pos c]; rfl
      · rw [if_neg c, if_neg c]
theorem fo_nn : 0 ≤ (foS V t).2.1 := by
  induction t with
  | zero => exact Int.le_refl _
  | succ t ih =>
    rcases fo_st (V := V) (t := t) with h | h
    · rw [h.2.1]; exact ih
    · rw [h.2.1]; omega
theorem fo_mo (u : Nat) : (foS V t).2.1 ≤ (foS V (t + u)).2.1 := by
  induction u with
  | zero => exact Int.le_refl _
  | succ u ih =>
    rcases fo_st (V := V) (t := t + u) with h | h
    · rw [show t + (u + 1) = t + u + 1 by omega, h.2.1]; exact ih
    · rw [show t + (u + 1) = t + u + 1 by omega, h.2.1]; omega
theorem fo_kp (u : Nat) (hm : m < (foS V t).2.1) : (foS V (t + u)).2.2.2 m = (foS V t).2.2.2 m := by
  induction u with
  | zero => rfl
  | succ u ih =>
    have q := fo_mo (V := V) (t := t) u
    rcases fo_st (V := V) (t := t + u) with h | h
    · rw [show t + (u + 1) = t + u + 1 by omega, h.2.2]; exact ih
    · rw [show t + (u + 1) = t + u + 1 by omega, h.2.2, uZ_ne (by omega)]; exact ih
theorem fo_at (h : t < s) (hk : ¬ fOut (foS V t).1 (V t)) : (foS V t).2.1 < (foS V s).2.1 ∧ (foS V s).2.2.2 (foS V t).2.1 = fIt (foS V t).1 (V t) := by
  obtain ⟨u, rfl⟩ : ∃ u, s = t + 1 + u := ⟨s - (t + 1), by omega⟩
  rcases fo_st (V := V) (t := t) with z | z
  · exact absurd z.1 hk
  · have q := fo_mo (V := V) (t := t + 1) u
    refine ⟨by omega, ?_⟩
    rw [fo_kp u (by omega), z.2.2, uZ_eq]
theorem fo_v (h : kvd K R) (h5 : i 0 ≤ 5) : foZ (foA (foO K i 4)) 0 ≤ 5 ∧ foZ (foA (foO K i 4)) 1 = i 1 ∧ val8 R (foZ (foA (foO K i 4))) = val8 R i := by
  have z : foZ (foA (foO K i 4)) = foA (foO K i 4) := by
    unfold foZ
    rw [dI_n (fun y => by have := zer9 y; omega)]
  have o0 := kvd_op (i := i) h (m := 0) (by decide) (by decide)
  have o1 := kvd_op (i := i) h (m := 1) (by decide) (by decide)
  rw [z]
  unfold foA
  by_cases c : five2 (foO K i 4)
  · rw [dI_y c]
    have c0 : foO K i 4 0 = i 0 := foO_lo (by decide)
    have e0 : cpyI (foO K i 4) 1 (wkd (foO K i 4 0) (foO K i 4 4) (foO K i 4 6)) 0 = 0 := by
      show uZ (uZ (uZ (uZ (uZ (foO K i 4) 0 0) 3 1) 4 _) 5 0) 6 0 0 = 0
      rw [uZ_ne (by decide), uZ_ne (by decide), uZ_ne (by decide), uZ_ne (by decide), uZ_eq]
    have e1 : cpyI (foO K i 4) 1 (wkd (foO K i 4 0) (foO K i 4 4) (foO K i 4 6)) 1 = i 1 := by
      show uZ (uZ (uZ (uZ (uZ (foO K i 4) 0 0) 3 1) 4 _) 5 0) 6 0 1 = i 1
      rw [uZ_ne (by decide), uZ_ne (by decide), uZ_ne (by decide), uZ_ne (by decide), uZ_ne (by decide), foO_lo (by decide)]
    have e3 : cpyI (foO K i 4) 1 (wkd (foO K i 4 0) (foO K i 4 4) (foO K i 4 6)) 3 = 1 := by
      show uZ (uZ (uZ (uZ (uZ (foO K i 4) 0 0) 3 1) 4 _) 5 0) 6 0 3 = 1
      rw [uZ_ne (by decide), uZ_ne (by decide), uZ_ne (by decide), uZ_eq]
    have e4 : cpyI (foO K i 4) 1 (wkd (foO K i 4 0) (foO K i 4 4) (foO K i 4 6)) 4 = wkd (foO K i 4 0) (foO K i 4 4) (foO K i 4 6) := by
      show uZ (uZ (uZ (uZ (uZ (foO K i 4) 0 0) 3 1) 4 _) 5 0) 6 0 4 = _
      rw [uZ_ne (by decide), uZ_ne (by decide), uZ_eq]
    refine ⟨by rw [e0]; decide, e1, ?_⟩
    unfold val8
    rw [if_pos e0, opv_0, if_neg (by rw [e3]; decide), e4, if_neg (by have := c.1; omega), ← o0, ← o1, opv_0, opv_1, if_neg (by rw [c.2.2.1]; decide), if_neg (by rw [c.2.2.2]; decide), c0]
  · rw [dI_n c]
    refine ⟨by rw [foO_lo (by decide)]; exact h5, foO_lo (by decide), ?_⟩
    unfold val8
    rw [foO_lo (by decide), o0, o1]
theorem fo_o (h5 : 5 < i 0) (h9 : ¬ zer1 (foA (foO K i 4))) : foZ (foA (foO K i 4)) = foO K i 4 := by
  unfold foZ
  rw [dI_n h9, foA_hi (by rw [foO_lo (by decide)]; exact h5)]
theorem fo8z (h9 : zer1 (foA (foO K i 4))) : foZ (foA (foO K i 4)) 0 = 8 ∧ foZ (foA (foO K i 4)) 1 = i 1 := by
  have e : foA (foO K i 4) = foO K i 4 := foA_hi (by rw [foO_lo (by decide), zer9 h9]; decide)
  unfold foZ
  rw [dI_y h9, e]
  exact ⟨by rw [uZ_ne (by decide), uZ_ne (by decide), uZ_eq], by rw [uZ_ne (by decide), uZ_ne (by decide), uZ_ne (by decide), foO_lo (by decide)]⟩
theorem foB_0 : foB K i 0 = i 0 := by
  unfold foB
  by_cases c : i 11 = 2 ∧ (K (i 4)).1 = 1
  · rw [dI_y c, uZ_ne (by decide), uZ_ne (by decide), uZ_ne (by decide)]
  · rw [dI_n c]
end FOL8
def rhF (V : Int → It) (k : Int) (R : G8) (k' : Int) (R' : G8) : Prop := R' = R ∧ k' = (foS V k.toNat).2.1 ∧ (V k 0 ≠ 13 → kvd (foS V k.toNat).1 R)
theorem ls_fold {H H2 : RTS} {w : Int} (h : ∃ K, foS H.V H.n.toNat = (K, H2.n, w, H2.V)) : LS8 H H2 (rhF H.V) := by
  obtain ⟨K9, hf⟩ := h
  have eN : (foS H.V H.n.toNat).2.1 = H2.n := by rw [hf]
  have eW : (foS H.V H.n.toNat).2.2.2 = H2.V := by rw [hf]
  intro k R k' R' hr k0 kn
  obtain ⟨e1, e2, hk⟩ := hr
  obtain ⟨t, rfl⟩ : ∃ t : Nat, k = t := ⟨k.toNat, by omega⟩
  have e3 : ((t : Int)).toNat = t := by omega
  have e4 : ((t : Int) + 1).toNat = t + 1 := by omega
  rw [e3] at e2 hk
  rw [e1, e2]
  have ht : t < H.n.toNat := by omega
  -- a LABEL
  have lab : ∀ l : Int, 0 ≤ l → l < H.n → H.V l 0 = 13 → H2.V (foS H.V l.toNat).2.1 = H.V l ∧ 0 ≤ (foS H.V l.toNat).2.1 ∧ (foS H.V l.toNat).2.1 < H2.n := fun l a b c => by
    obtain ⟨u, rfl⟩ : ∃ u : Nat, l = u := ⟨l.toNat, by omega⟩
    rw [show ((u : Int)).toNat = u by omega]
    have q := fo_at (V := H.V) (t := u) (s := H.n.toNat) (by omega) (fun z => by have := z.1; omega)
    rw [eN, eW] at q
    refine ⟨q.2.trans ?_, fo_nn, q.1⟩
    unfold fIt; rw [if_pos c]
  have jmp : H2.V (foS H.V t).2.1 1 = H.V t 1 → ∀ l, TGv H.V H.n t l → ∃ l', TGv H2.V H2.n (foS H.V t).2.1 l' ∧ rhF H.V l R l' R := fun e1 l a => by
    obtain ⟨q1, q2, q3⟩ := lab l a.1 a.2.1 a.2.2.1
    exact ⟨_, ⟨q2, q3, by rw [q1]; exact a.2.2.1, by rw [q1, e1]; exact a.2.2.2⟩, rfl, rfl, fun z => absurd a.2.2.1 z⟩
  by_cases o : fOut (foS H.V t).1 (H.V t)
  · have hv := hk (by have := o.1; omega)
    have hx : foA (foO (foS H.V t).1 (H.V t) 4) = foO (foS H.V t).1 (H.V t) 4 := foA_hi (by rw [foO_lo (by decide), o.1]; decide)
    have z3 := o.2.1.2
    have z4 := o.2.2
    rw [hx] at z3 z4
    refine ls8_si (si9 o.1 ?_ ⟨rfl, ?_, fun _ => ?_⟩)
    · rw [← kvd_op hv (by decide) (by decide), opv_0, if_neg (by rw [z3]; decide)]; exact z4
    · rw [e4]
      rcases fo_st (V := H.V) (t := t) with q | q
      · exact q.2.1.symm
      · exact absurd o q.1
    · rw [e4, fo8k, if_neg (by have := o.1; omega), if_pos (by have := o.1; omega), kvd_no (by have := (fo8z o.2.1).1; omega)]
      exact hv
  · obtain ⟨b1, b2⟩ := fo_at (V := H.V) ht o
    rw [eN] at b1
    rw [eW] at b2
    have eS : (foS H.V (t + 1)).2.1 = (foS H.V t).2.1 + 1 := by
      rcases fo_st (V := H.V) (t := t) with q | q
      · exact absurd q.1 o
      · exact q.2.1
    have hb : 0 ≤ (foS H.V t).2.1 ∧ (foS H.V t).2.1 < H2.n := ⟨fo_nn, b1⟩
    -- the knowledge behind
    have on : ∀ R2, (H.V t 0 ≠ 13 → kvd (foS H.V (t + 1)).1 R2) → rhF H.V (t + 1) R2 ((foS H.V t).2.1 + 1) R2 := fun R2 a => by
      refine ⟨rfl, by rw [e4, eS], fun _ => ?_⟩
      rw [e4]
      by_cases c : H.V t 0 = 13
      · rw [fo8k, if_pos c]; exact kvd_z
      · exact a c
    by_cases c10 : 10 < H.V t 0
    · -- MARKS
      have i0 : H2.V (foS H.V t).2.1 0 = H.V t 0 := by
        rw [b2]
        unfold fIt
        by_cases a : H.V t 0 = 13
        · rw [if_pos a]
        · rw [if_neg a]
          by_cases b : H.V t 0 = 12
          · rw [if_pos b, foB_0]
          · rw [if_neg b, if_neg (by omega)]
      exact ls8_sc (sc8 hb (Or.inl i0) (fun z => by omega) (fun z => by omega) (fun _ _ _ _ _ => on R (fun c => by rw [fo8k, if_neg c, if_neg (by omega)]; exact hk c)) (fun z => by omega) (fun z => by omega) (fun z => by omega))
    · have hv := hk (by omega)
      have y : H2.V (foS H.V t).2.1 = foZ (foA (foO (foS H.V t).1 (H.V t) 4)) := by
        rw [b2]
        unfold fIt
        rw [if_neg (by omega), if_neg (by omega), if_pos (by omega)]
      have k1 : (foS H.V (t + 1)).1 = lrn (foZ (foA (foO (foS H.V t).1 (H.V t) 4))) (foS H.V t).1 := by rw [fo8k, if_neg (by omega), if_pos (by omega)]
      by_cases c5 : H.V t 0 ≤ 5
      · obtain ⟨v1, v2, v3⟩ := fo_v (i := H.V t) hv c5
        refine ls8_sc (sc8 hb (Or.inr ⟨c5, by rw [y]; exact v1⟩) (fun z => by omega) (fun z => by omega) (fun _ _ z => by omega) (fun _ => ?_) (fun z => by omega) (fun z => by omega))
        rw [y, v3, v2]
        refine on _ (fun _ => ?_)
        rw [k1, ← v2]
        refine kvd_l hv (fun z => ?_) (Or.inl v1)
        rw [← v3]; exact if_pos z
      · by_cases z9 : zer1 (foA (foO (foS H.V t).1 (H.V t) 4))
        · -- ZERO of 0
          have hx : foA (foO (foS H.V t).1 (H.V t) 4) = foO (foS H.V t).1 (H.V t) 4 := foA_hi (by rw [foO_lo (by decide)]; omega)
          have z3 := z9.2
          rw [hx] at z3
          have q9 := zer9 z9
          refine ls8_sc (sc9 q9 ?_ hb (by rw [y]; exact (fo8z z9).1) (jmp (by rw [y]; exact (fo8z z9).2)))
          rw [← kvd_op hv (by decide) (by decide), opv_0, if_neg (by rw [z3]; decide)]
          by_cases z4 : foO (foS H.V t).1 (H.V t) 4 4 = 0
          · exact z4
          · exact absurd ⟨q9, z9, by rw [hx]; exact z4⟩ o
        · rw [fo_o (by omega) z9] at y k1
          have op : ∀ j, 0 ≤ j → j < 4 → opv R (H2.V (foS H.V t).2.1) j = opv R (H.V t) j := fun j a b => by rw [y]; exact kvd_op hv a b
          have y0 : H2.V (foS H.V t).2.1 0 = H.V t 0 := by rw [y]; exact foO_lo (by decide)
          have y1 : H2.V (foS H.V t).2.1 1 = H.V t 1 := by rw [y]; exact foO_lo (by decide)
          have y2 : H2.V (foS H.V t).2.1 2 = H.V t 2 := by rw [y]; exact foO_lo (by decide)
          refine ls8_sc (sc8 hb (Or.inl y0) (fun _ => op 0 (by decide) (by decide)) (fun _ => ⟨y2, op⟩) (fun _ _ _ z _ => on R (fun _ => ?_)) (fun z => by omega) (fun z v => ?_) (fun _ => jmp y1))
          · rw [k1, kvd_no (by rw [foO_lo (by decide)]; omega)]; exact hv
          · rw [y1]
            refine on _ (fun _ => ?_)
            rw [k1, ← y1, y]
            exact kvd_l hv (fun q => by rw [foO_lo (by decide)] at q; omega) (Or.inr (by rw [foO_lo (by decide)]; exact z))
theorem st_fold {H H2 : RTS} {P : Int} (e : H2.2.2 = H.2.2) : ST8 H H2 P (rhF H.V) := fun W => by
  refine ⟨?_, rfl, fun _ => kvd_z⟩
  unfold cal8
  rw [show H2.na = H.na by unfold RTS.na; rw [e]]
end
