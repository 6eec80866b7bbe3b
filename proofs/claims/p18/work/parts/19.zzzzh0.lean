section
abbrev G8 : Type := Int → Int
abbrev F8 : Type := Int × Int × G8 × Int
abbrev E8 : Type := Int × Int
section MAC8
variable {Gs Gs2 : Int → RTS} {PM : Int → Int} {s s1 s2 t t2 rest : List F8} {L L2 : List E8} {e : E8} {q k k2 d d2 r P : Int} {R R2 : G8} {H H2 : RTS}
variable {ρ : Int → G8 → Int → G8 → Prop}
end MAC8
end
section
section SCS
variable {H H2 : RTS} {ρ : Int → G8 → Int → G8 → Prop} {k k1 k' : Int} {R R1 R' : G8}
end SCS
def fOut (K : KN) (i : It) : Prop := i 0 = 9 ∧ zer1 (foA (foO K i 4)) ∧ foA (foO K i 4) 4 ≠ 0
noncomputable def fIt (K : KN) (i : It) : It := if i 0 = 13 then i else if i 0 = 12 then foB K i else if i 0 ≤ 10 then foZ (foA (foO K i 4)) else i
section FOL8
variable {V : Int → It} {K : KN} {R : G8} {i j : It} {t s : Nat} {m g : Int}
theorem foO_kk (h0 : 0 ≤ m) (h4 : m < 4) : foO K i 4 (3 + 2 * m) = if i (3 + 2 * m) = 2 ∧ (K (i (4 + 2 * m))).1 ≠ 0 then (K (i (4 + 2 * m))).1 else i (3 + 2 * m) := by
  show (if 3 ≤ 3 + 2 * m ∧ 3 + 2 * m < 3 + 2 * 4 ∧ i (3 + 2 * ((3 + 2 * m - 3) / 2)) = 2 ∧ (K (i (4 + 2 * ((3 + 2 * m - 3) / 2)))).1 ≠ 0 then (if (3 + 2 * m - 3) % 2 = 0 then (K (i (4 + 2 * ((3 + 2 * m - 3) / 2)))).1 else (K (i (4 + 2 * ((3 + 2 * m - 3) / 2)))).2) else i (3 + 2 * m)) = _
  rw [show (3 + 2 * m - 3) / 2 = m by omega, show (3 + 2 * m - 3) % 2 = 0 by omega]
  by_cases c : i (3 + 2 * m) = 2 ∧ (K (i (4 + 2 * m))).1 ≠ 0
  · rw [if_pos c, if_pos ⟨by omega, by omega, c.1, c.2⟩]; rfl
  · rw [if_neg c, if_neg (fun z => c z.2.2)]
theorem foO_kv (h0 : 0 ≤ m) (h4 : m < 4) : foO K i 4 (4 + 2 * m) = if i (3 + 2 * m) = 2 ∧ (K (i (4 + 2 * m))).1 ≠ 0 then (K (i (4 + 2 * m))).2 else i (4 + 2 * m) := by
  show (if 3 ≤ 4 + 2 * m ∧ 4 + 2 * m < 3 + 2 * 4 ∧ i (3 + 2 * ((4 + 2 * m - 3) / 2)) = 2 ∧ (K (i (4 + 2 * ((4 + 2 * m - 3) / 2)))).1 ≠ 0 then (if (4 + 2 * m - 3) % 2 = 0 then (K (i (4 + 2 * ((4 + 2 * m - 3) / 2)))).1 else (K (i (4 + 2 * ((4 + 2 * m - 3) / 2)))).2) else i (4 + 2 * m)) = _
  rw [show (4 + 2 * m - 3) / 2 = m by omega, show (4 + 2 * m - 3) % 2 = 1 by omega]
  by_cases c : i (3 + 2 * m) = 2 ∧ (K (i (4 + 2 * m))).1 ≠ 0
  · rw [if_pos c, if_pos ⟨by omega, by omega, c.1, c.2⟩]; rfl
  · rw [if_neg c, if_neg (fun z => c z.2.2)]
theorem foO_lo {c : Int} (h : c < 3) : foO K i 4 c = i c := if_neg (by omega)
theorem kvd_no (hk : ¬ (j 0 ≤ 5 ∨ j 0 = 10)) : lrn j K = K := by unfold lrn; rw [dI_n hk]
theorem foA_hi (h : 5 < i 0) : foA i = i := by unfold foA; rw [dI_n (fun z => by have := z.2.1; omega)]
theorem foA_0 : foA i 0 = dI (five2 i) 0 (i 0) := by
  unfold foA
  by_cases c : five2 i
  · rw [dI_y c, dI_y c]
    show uZ (uZ (uZ (uZ (uZ i 0 0) 3 _) 4 _) 5 0) 6 0 0 = 0
    rw [uZ_ne (by decide), uZ_ne (by decide), uZ_ne (by decide), uZ_ne (by decide), uZ_eq]
  · rw [dI_n c, dI_n c]
theorem zer9 (h : zer1 (foA (foO K i 4))) : i 0 = 9 := by
  have a := h.1
  rw [foA_0] at a
  by_cases c : five2 (foO K i 4)
  · rw [dI_y c] at a; omega
  · rw [dI_n c, foO_lo (by decide)] at a; exact a
theorem fo_st : (fOut (foS V t).1 (V t) ∧ (foS V (t + 1)).2.1 = (foS V t).2.1 ∧ (foS V (t + 1)).2.2.2 = (foS V t).2.2.2) ∨ (¬ fOut (foS V t).1 (V t) ∧ (foS V (t + 1)).2.1 = (foS V t).2.1 + 1 ∧ (foS V (t + 1)).2.2.2 = uZ (foS V t).2.2.2 (foS V t).2.1 (fIt (foS V t).1 (V t))) := by
  show (fOut (foS V t).1 (V t) ∧ (foT (foS V t) (V t)).2.1 = (foS V t).2.1 ∧ (foT (foS V t) (V t)).2.2.2 = (foS V t).2.2.2) ∨ (¬ fOut (foS V t).1 (V t) ∧ (foT (foS V t) (V t)).2.1 = (foS V t).2.1 + 1 ∧ (foT (foS V t) (V t)).2.2.2 = uZ (foS V t).2.2.2 (foS V t).2.1 (fIt (foS V t).1 (V t)))
  unfold foT
  by_cases a : V t 0 = 13
  · rw [if_pos a]
    refine Or.inr ⟨fun z => by have := z.1; omega, rfl, ?_⟩
    unfold fIt; rw [if_pos a]
  · rw [if_neg a]
    by_cases b : V t 0 = 12
    · rw [if_pos b]
      refine Or.inr ⟨fun z => by have := z.1; omega, rfl, ?_⟩
      unfold fIt; rw [if_neg a, if_pos b]
    · rw [if_neg b]
      by_cases c : V t 0 ≤ 10
      · rw [if_pos c]
        unfold foX
        by_cases z : zer1 (foA (foO (foS V t).1 (V t) 4)) ∧ foA (foO (foS V t).1 (V t) 4) 4 ≠ 0
        · exact Or.inl ⟨⟨zer9 z.1, z⟩, dI_y z, dI_y z⟩
        · refine Or.inr ⟨fun y => z y.2, dI_n z, (dI_n z).trans ?_⟩
          unfold fIt; rw [if_neg a, if_neg b, if_pos c]
      · rw [if_neg c]
        refine Or.inr ⟨fun z => by have := z.1; omega, rfl, ?_⟩
        unfold fIt; rw [if_neg a, if_neg b, if_neg c]
theorem fo8k : (foS V (t + 1)).1 = if V t 0 = 13 then (fun _ => (0, 0)) else if V t 0 ≤ 10 then lrn (foZ (foA (foO (foS V t).1 (V t) 4))) (foS V t).1 else (foS V t).1 := by
  show (foT (foS V t) (V t)).1 = _
  unfold foT
  by_cases a : V t 0 = 13
  · rw [if_pos a, if_pos a]
  · rw [if_neg a, if_neg a]
    by_cases b : V t 0 = 12
    · rw [if_pos b, if_neg (by omega)]
    · rw [if_neg b]
      by_cases c : V t 0 ≤ 10
      · rw [if_pos c, if_pos c]; rfl
      · rw [if_neg c, if_neg c]
theorem fo_mo (u : Nat) : (foS V t).2.1 ≤ (foS V (t + u)).2.1 := by
  induction u with
  | zero => exact Int.le_refl _
  | succ u ih =>
    rcases fo_st (V := V) (t := t + u) with h | h
    · rw [show t + (u + 1) = t + u + 1 by omega, h.2.1]; exact ih
    · rw [show t + (u + 1) = t + u + 1 by omega, h.2.1]; omega
theorem fo_kp (u : Nat) (hm : m < (foS V t).2.1) : (foS V (t + u)).2.2.2 m = (foS V t).2.2.2 m := by
  induction u with
  | zero => rfl
  | succ u ih =>
    have q := fo_mo (V := V) (t := t) u
    rcases fo_st (V := V) (t := t + u) with h | h
    · rw [show t + (u + 1) = t + u + 1 by omega, h.2.2]; exact ih
    · rw [show t + (u + 1) = t + u + 1 by omega, h.2.2, uZ_ne (by omega)]; exact ih
theorem fo_at (h : t < s) (hk : ¬ fOut (foS V t).1 (V t)) : (foS V t).2.1 < (foS V s).2.1 ∧ (foS V s).2.2.2 (foS V t).2.1 = fIt (foS V t).1 (V t) := by
  obtain ⟨u, rfl⟩ : ∃ u, s = t + 1 + u := ⟨s - (t + 1), by omega⟩
  rcases fo_st (V := V) (t := t) with z | z
  · exact absurd z.1 hk
  · have q := fo_mo (V := V) (t := t + 1) u
    refine ⟨by omega, ?_⟩
    rw [fo_kp u (by omega), z.2.2, uZ_eq]
theorem fo_o (h5 : 5 < i 0) (h9 : ¬ zer1 (foA (foO K i 4))) : foZ (foA (foO K i 4)) = foO K i 4 := by
  unfold foZ
  rw [dI_n h9, foA_hi (by rw [foO_lo (by decide)]; exact h5)]
theorem fo8z (h9 : zer1 (foA (foO K i 4))) : foZ (foA (foO K i 4)) 0 = 8 ∧ foZ (foA (foO K i 4)) 1 = i 1 := by
  have e : foA (foO K i 4) = foO K i 4 := foA_hi (by rw [foO_lo (by decide), zer9 h9]; decide)
  unfold foZ
  rw [dI_y h9, e]
  exact ⟨by rw [uZ_ne (by decide), uZ_ne (by decide), uZ_eq], by rw [uZ_ne (by decide), uZ_ne (by decide), uZ_ne (by decide), foO_lo (by decide)]⟩
theorem foB_0 : foB K i 0 = i 0 := by
  unfold foB
  by_cases c : i 11 = 2 ∧ (K (i 4)).1 = 1
  · rw [dI_y c, uZ_ne (by decide), uZ_ne (by decide), uZ_ne (by decide)]
  · rw [dI_n c]
end FOL8
end
section
section TRS
variable {PM : Int → Int} {r : Int} {H H1 H2 : RTS} {ρ : Int → G8 → Int → G8 → Prop}
end TRS
section DRO8
variable {V : Int → It} {n m : Int} {t s : Nat} {R : G8}
theorem dr_st : (RCG V n 0 (fun _ => False) t ∧ (dr1 V n (t + 1)).1 = (dr1 V n t).1 + 1 ∧ (dr1 V n (t + 1)).2.2 = uZ (dr1 V n t).2.2 (dr1 V n t).1 (V t)) ∨ (¬ RCG V n 0 (fun _ => False) t ∧ (dr1 V n (t + 1)).1 = (dr1 V n t).1 ∧ (dr1 V n (t + 1)).2.2 = (dr1 V n t).2.2) := by
  show (RCG V n 0 (fun _ => False) t ∧ (dI (RCG V n 0 (fun _ => False) t) ((dr1 V n t).1 + 1, (dr1 V n t).2.1, uZ (dr1 V n t).2.2 (dr1 V n t).1 (V t)) ((dr1 V n t).1, (dr1 V n t).2.1 + (if V t 0 ≤ 10 then 1 else 0), (dr1 V n t).2.2)).1 = (dr1 V n t).1 + 1 ∧ (dI (RCG V n 0 (fun _ => False) t) ((dr1 V n t).1 + 1, (dr1 V n t).2.1, uZ (dr1 V n t).2.2 (dr1 V n t).1 (V t)) ((dr1 V n t).1, (dr1 V n t).2.1 + (if V t 0 ≤ 10 then 1 else 0), (dr1 V n t).2.2)).2.2 = uZ (dr1 V n t).2.2 (dr1 V n t).1 (V t)) ∨ (¬ RCG V n 0 (fun _ => False) t ∧ (dI (RCG V n 0 (fun _ => False) t) ((dr1 V n t).1 + 1, (dr1 V n t).2.1, uZ (dr1 V n t).2.2 (dr1 V n t).1 (V t)) ((dr1 V n t).1, (dr1 V n t).2.1 + (if V t 0 ≤ 10 then 1 else 0), (dr1 V n t).2.2)).1 = (dr1 V n t).1 ∧ (dI (RCG V n 0 (fun _ => False) t) ((dr1 V n t).1 + 1, (dr1 V n t).2.1, uZ (dr1 V n t).2.2 (dr1 V n t).1 (V t)) ((dr1 V n t).1, (dr1 V n t).2.1 + (if V t 0 ≤ 10 then 1 else 0), (dr1 V n t).2.2)).2.2 = (dr1 V n t).2.2)
  by_cases c : RCG V n 0 (fun _ => False) t
  · rw [dI_y c]; exact Or.inl ⟨c, rfl, rfl⟩
  · rw [dI_n c]; exact Or.inr ⟨c, rfl, rfl⟩
theorem dr_mo (u : Nat) : (dr1 V n t).1 ≤ (dr1 V n (t + u)).1 := by
  induction u with
  | zero => exact Int.le_refl _
  | succ u ih =>
    rcases dr_st (V := V) (n := n) (t := t + u) with h | h
    · rw [show t + (u + 1) = t + u + 1 by omega, h.2.1]; omega
    · rw [show t + (u + 1) = t + u + 1 by omega, h.2.1]; exact ih
theorem dr_kp (u : Nat) (hm : m < (dr1 V n t).1) : (dr1 V n (t + u)).2.2 m = (dr1 V n t).2.2 m := by
  induction u with
  | zero => rfl
  | succ u ih =>
    have q := dr_mo (V := V) (n := n) (t := t) u
    rcases dr_st (V := V) (n := n) (t := t + u) with h | h
    · rw [show t + (u + 1) = t + u + 1 by omega, h.2.2, uZ_ne (by omega)]; exact ih
    · rw [show t + (u + 1) = t + u + 1 by omega, h.2.2]; exact ih
theorem dr_at (h : t < s) (hk : RCG V n 0 (fun _ => False) t) : (dr1 V n t).1 < (dr1 V n s).1 ∧ (dr1 V n s).2.2 (dr1 V n t).1 = V t := by
  obtain ⟨u, rfl⟩ : ∃ u, s = t + 1 + u := ⟨s - (t + 1), by omega⟩
  rcases dr_st (V := V) (n := n) (t := t) with z | z
  · have q := dr_mo (V := V) (n := n) (t := t + 1) u
    refine ⟨by omega, ?_⟩
    rw [dr_kp u (by omega), z.2.2, uZ_eq]
  · exact absurd hk z.1
end DRO8
section DRL8
variable {V : Int → It} {n k x j g : Int} {R R' : G8} {i : It}
theorem rb_0 (c : Int) (h : c < 3) : rbV V n x k c = V k c := by
  unfold rbV
  by_cases a : nrV V n x k ∧ V k 0 = 12 ∧ V k 11 = 2 ∧ V k 4 = V x 1
  · rw [dI_y a]
    unfold tkI
    by_cases z : V x 0 = 0
    · rw [if_pos z, uZ_ne (by omega), uZ_ne (by omega), uZ_ne (by omega)]
    · rw [if_neg z, uZ_ne (by omega), uZ_ne (by omega), uZ_ne (by omega), uZ_ne (by omega), uZ_ne (by omega)]
  · rw [dI_n a]
    by_cases b : (0 ≤ k ∧ k < n) ∧ RCG V n (x + 1) (fun j => wrT (V j) (V x 1)) k ∧ V k 0 = 12 ∧ rdI (V k) (V x 1)
    · rw [dI_y b]
      show uZ (uZ (uZ (uZ (uZ (V k) 11 12) 3 0) 4 0) 5 0) 6 0 c = V k c
      rw [uZ_ne (by omega), uZ_ne (by omega), uZ_ne (by omega), uZ_ne (by omega), uZ_ne (by omega)]
    · rw [dI_n b]
theorem rb_n (h : V k 0 ≠ 12) : rbV V n x k = V k := by
  unfold rbV
  rw [dI_n (fun z => h z.2.1), dI_n (fun z => h z.2.2.1)]
end DRL8
section TRD
variable {PM : Int → Int} {r : Int} {H : RTS}
end TRD
end
section
section ALK8
variable {V : Int → It} {n k x j m : Int} {R : G8} {i : It}
theorem cpy_c (v u : Int) : cpyI i v u 0 = 0 ∧ cpyI i v u 1 = i 1 ∧ cpyI i v u 3 = v ∧ cpyI i v u 4 = u := by
  refine ⟨?_, ?_, ?_, ?_⟩
  · show uZ (uZ (uZ (uZ (uZ i 0 0) 3 v) 4 u) 5 0) 6 0 0 = 0
    rw [uZ_ne (by decide), uZ_ne (by decide), uZ_ne (by decide), uZ_ne (by decide), uZ_eq]
  · show uZ (uZ (uZ (uZ (uZ i 0 0) 3 v) 4 u) 5 0) 6 0 1 = i 1
    rw [uZ_ne (by decide), uZ_ne (by decide), uZ_ne (by decide), uZ_ne (by decide), uZ_ne (by decide)]
  · show uZ (uZ (uZ (uZ (uZ i 0 0) 3 v) 4 u) 5 0) 6 0 3 = v
    rw [uZ_ne (by decide), uZ_ne (by decide), uZ_ne (by decide), uZ_eq]
  · show uZ (uZ (uZ (uZ (uZ i 0 0) 3 v) 4 u) 5 0) 6 0 4 = u
    rw [uZ_ne (by decide), uZ_ne (by decide), uZ_eq]
end ALK8
section SHR8
variable {V : Int → It} {n k g x y m P : Int} {nb : Int → Int} {bg Q : Int → Prop} {R R' : G8} {i : It}
end SHR8
end
section
def TLV (V : Int → It) (n k g : Int) : Prop := ∀ S : Int → Int → Prop, (∀ i g, 0 ≤ i → i < n → ((V i 0 ≠ 12 ∧ rdI (V i) g ∧ (5 < V i 0 ∨ S (i + 1) (V i 1))) ∨ (¬ wrT (V i) g ∧ ∃ t, EDv V n i t ∧ S t g)) → S i g) → S k g
def S2T (V : Int → It) (n : Int) (N : Int → Prop) : Prop := ∀ g, TLV V n 0 g → N g
/-- jumps -/
def JE8 (V : Int → It) (n s l : Int) : Prop := (0 ≤ s ∧ s < n) ∧ (V s 0 = 8 ∨ V s 0 = 9) ∧ TGv V n s l
def NBK (V : Int → It) (n : Int) : Prop := (∀ s l, JE8 V n s l → l < s → V s 0 = 8) ∧ ∀ s l s2 l2, JE8 V n s l → JE8 V n s2 l2 → l2 ≤ s2 → l2 ≤ l → l ≤ s2 → l2 ≤ s ∧ (l = l2 ∨ s ≤ s2)
section TLS
variable {V V' : Int → It} {n n' k g t x : Int} {N : Int → Prop}
theorem TLV.us (h0 : 0 ≤ k) (h1 : k < n) (h : V k 0 ≠ 12) (hr : rdI (V k) g) (h5 : 5 < V k 0) : TLV V n k g := fun _ b => b k g h0 h1 (Or.inl ⟨h, hr, Or.inl h5⟩)
theorem TLV.th (h0 : 0 ≤ k) (h1 : k < n) (h : V k 0 ≠ 12) (hr : rdI (V k) g) (h5 : TLV V n (k + 1) (V k 1)) : TLV V n k g := fun S b => b k g h0 h1 (Or.inl ⟨h, hr, Or.inr (h5 S b)⟩)
theorem TLV.on (h0 : 0 ≤ k) (h1 : k < n) (hw : ¬ wrT (V k) g) (e : EDv V n k t) (h : TLV V n t g) : TLV V n k g := fun S b => b k g h0 h1 (Or.inr ⟨hw, t, e, h S b⟩)
/-- what holds where it is so for one item more holds for all that is truly live -/
theorem TLV.ind {P : Int → Int → Prop} (h : TLV V n k g) (hp : ∀ i g, 0 ≤ i → i < n → ((V i 0 ≠ 12 ∧ rdI (V i) g ∧ (5 < V i 0 ∨ P (i + 1) (V i 1))) ∨ (¬ wrT (V i) g ∧ ∃ t, EDv V n i t ∧ P t g)) → P i g) : P k g := h P hp
theorem TLV.lv (h : TLV V n k g) : LVV V n k g := h.ind (fun i g i0 i1 q => by
  rcases q with ⟨a, b, -⟩ | ⟨a, t, b, c⟩
  · exact LVV.rd i0 i1 a b
  · exact LVV.on i0 i1 a b c)
/-- jumps that stand as they stood -/
theorem NBK.emb {Φ : Int → Int → Prop} (h : NBK V n)
    (h1 : ∀ i, 0 ≤ i → i < n' → (V' i 0 = 8 ∨ V' i 0 = 9 ∨ V' i 0 = 13) → ∃ j, Φ i j ∧ (0 ≤ j ∧ j < n) ∧ V j 1 = V' i 1 ∧ (V' i 0 = 13 → V j 0 = 13) ∧ (V' i 0 = 9 → V j 0 = 9) ∧ (V' i 0 = 8 → V j 0 = 8 ∨ V j 0 = 9))
    (h2 : ∀ i j i2 j2, Φ i j → Φ i2 j2 → (i < i2 ↔ j < j2)) : NBK V' n' := by
  have ed : ∀ s l, JE8 V' n' s l → ∃ s0 l0, Φ s s0 ∧ Φ l l0 ∧ JE8 V n s0 l0 ∧ (V' s 0 = 9 → V s0 0 = 9) := fun s l a => by
    obtain ⟨⟨a0, a1⟩, a2, a3, a4, a5, a6⟩ := a
    obtain ⟨s0, b1, b2, b3, b4, b5, b6⟩ := h1 s a0 a1 (by rcases a2 with z | z; exact Or.inl z; exact Or.inr (Or.inl z))
    obtain ⟨l0, c1, c2, c3, c4, -, -⟩ := h1 l a3 a4 (Or.inr (Or.inr a5))
    refine ⟨s0, l0, b1, c1, ⟨b2, ?_, c2.1, c2.2, c4 a5, by rw [c3, b3]; exact a6⟩, b5⟩
    rcases a2 with z | z
    · exact b6 z
    · exact Or.inr (b5 z)
  refine ⟨fun s l a b => ?_, fun s l s2 l2 a b c d e => ?_⟩
  · obtain ⟨s0, l0, b1, b2, b3, b4⟩ := ed s l a
    have q := h.1 s0 l0 b3 ((h2 l l0 s s0 b2 b1).mp b)
    rcases a.2.1 with z | z
    · exact z
    · have := b4 z; omega
  · obtain ⟨s0, l0, b1, b2, b3, -⟩ := ed s l a
    obtain ⟨s3, l3, c1, c2, c3, -⟩ := ed s2 l2 b
    have m1 := h2 s2 s3 l2 l3 c1 c2
    have m2 := h2 l l0 l2 l3 b2 c2
    have m3 := h2 s2 s3 l l0 c1 b2
    have m4 := h2 s s0 l2 l3 b1 c2
    have m5 := h2 l2 l3 l l0 c2 b2
    have m6 := h2 s2 s3 s s0 c1 b1
    obtain ⟨q1, q2⟩ := h.2 s0 l0 s3 l3 b3 c3 (by omega) (by omega) (by omega)
    refine ⟨by omega, ?_⟩
    rcases q2 with z | z
    · exact Or.inl (by omega)
    · exact Or.inr (by omega)
theorem NBK.same (h : NBK V n) (hs : ∀ i, 0 ≤ i → i < n → (V' i 0 = 8 ∨ V' i 0 = 9 ∨ V' i 0 = 13) → V i 0 = V' i 0 ∧ V i 1 = V' i 1) : NBK V' n := by
  refine h.emb (Φ := fun i j => i = j) (fun i a b c => ?_) (fun i j i2 j2 a b => by omega)
  obtain ⟨q0, q1⟩ := hs i a b c
  exact ⟨i, rfl, ⟨a, b⟩, q1, fun z => by omega, fun z => by omega, fun z => by omega⟩
end TLS
section FOT8
variable {V : Int → It} {n g h : Int} {t s : Nat} {K : KN} {i : It} {N : Int → Prop}
/-- each kept place comes of an item -/
theorem fo_ex {m : Int} (h0 : 0 ≤ m) (h1 : m < (foS V s).2.1) : ∃ t : Nat, t < s ∧ ¬ fOut (foS V t).1 (V t) ∧ (foS V t).2.1 = m := by
  induction s with
  | zero => exact absurd h1 (by show ¬ m < 0; omega)
  | succ s ih =>
    rcases fo_st (V := V) (t := s) with z | z
    · rw [z.2.1] at h1
      obtain ⟨t, a, b⟩ := ih h1
      exact ⟨t, by omega, b⟩
    · rw [z.2.1] at h1
      by_cases e : m = (foS V s).2.1
      · exact ⟨s, by omega, z.1, e.symm⟩
      · obtain ⟨t, a, b⟩ := ih (by omega)
        exact ⟨t, by omega, b⟩
theorem fo_lt (ht : ¬ fOut (foS V t).1 (V t)) (hs : ¬ fOut (foS V s).1 (V s)) : (foS V t).2.1 < (foS V s).2.1 ↔ t < s := by
  constructor
  · intro a
    by_cases c : t < s
    · exact c
    · obtain ⟨u, e⟩ : ∃ u, t = s + u := ⟨t - s, by omega⟩
      have q := fo_mo (V := V) (t := s) u
      rw [e] at a; omega
  · intro a; exact (fo_at a ht).1
theorem fIt_k (h : fIt K i 0 = 8 ∨ fIt K i 0 = 9 ∨ fIt K i 0 = 13) : i 1 = fIt K i 1 ∧ (fIt K i 0 = 13 → i 0 = 13) ∧ (fIt K i 0 = 9 → i 0 = 9) ∧ (fIt K i 0 = 8 → i 0 = 8 ∨ i 0 = 9) := by
  unfold fIt at h ⊢
  by_cases a : i 0 = 13
  · rw [if_pos a] at h ⊢; exact ⟨rfl, fun z => z, fun z => z, fun z => Or.inl z⟩
  · rw [if_neg a] at h ⊢
    by_cases b : i 0 = 12
    · rw [if_pos b, foB_0] at h; omega
    · rw [if_neg b] at h ⊢
      by_cases c : i 0 ≤ 10
      · rw [if_pos c] at h ⊢
        by_cases c5 : i 0 ≤ 5
        · exfalso
          have z : foZ (foA (foO K i 4)) = foA (foO K i 4) := by
            unfold foZ
            rw [dI_n (fun y => by have := zer9 y; omega)]
          rw [z, foA_0] at h
          by_cases d : five2 (foO K i 4)
          · rw [dI_y d] at h; omega
          · rw [dI_n d, foO_lo (by decide)] at h; omega
        · by_cases d : zer1 (foA (foO K i 4))
          · have q := fo8z d
            have q9 := zer9 d
            exact ⟨q.2.symm, fun z => by omega, fun z => by omega, fun z => Or.inr q9⟩
          · rw [fo_o (by omega) d, foO_lo (by decide)] at h
            rw [fo_o (by omega) d, foO_lo (by decide), foO_lo (by decide)]
            exact ⟨rfl, fun z => z, fun z => z, fun z => Or.inl z⟩
      · rw [if_neg c] at h ⊢; exact ⟨rfl, fun z => z, fun z => z, fun z => Or.inl z⟩
theorem NBK.fold (h : NBK V n) (h0 : 0 ≤ n) : NBK (foS V n.toNat).2.2.2 (foS V n.toNat).2.1 := by
  refine h.emb (Φ := fun m j => ∃ t : Nat, (t : Int) = j ∧ ¬ fOut (foS V t).1 (V t) ∧ (foS V t).2.1 = m) (fun m a b c => ?_) (fun i j i2 j2 a b => ?_)
  · obtain ⟨t, t1, t2, t3⟩ := fo_ex a b
    have q := (fo_at t1 t2).2
    rw [t3] at q
    rw [q] at c ⊢
    obtain ⟨k1, k2, k3, k4⟩ := fIt_k c
    exact ⟨t, ⟨t, rfl, t2, t3⟩, by omega, k1, k2, k3, k4⟩
  · obtain ⟨t, a1, a2, a3⟩ := a
    obtain ⟨u, b1, b2, b3⟩ := b
    rw [← a1, ← b1, ← a3, ← b3, fo_lt a2 b2]
    omega
/-- what FOLD reads: it was read, or is what one that was read is known as -/
theorem foO_rd (h : rdI (foO K i 4) g) : rdI i g ∨ ∃ r, K r = (2, g) ∧ rdI i r := by
  obtain ⟨j, j0, j4, e3, e4⟩ := h
  rw [foO_kk j0 j4] at e3
  rw [foO_kv j0 j4] at e4
  by_cases c : i (3 + 2 * j) = 2 ∧ (K (i (4 + 2 * j))).1 ≠ 0
  · rw [if_pos c] at e3 e4
    exact Or.inr ⟨i (4 + 2 * j), Prod.ext e3 e4, j, j0, j4, c.1, rfl⟩
  · rw [if_neg c] at e3 e4
    exact Or.inl ⟨j, j0, j4, e3, e4⟩
theorem fIt_rd (h12 : i 0 ≠ 12) (h : rdI (fIt K i) g) : rdI i g ∨ ∃ r, K r = (2, g) ∧ rdI i r ∧ i 0 ≤ 10 := by
  unfold fIt at h
  by_cases a : i 0 = 13
  · rw [if_pos a] at h; exact Or.inl h
  · rw [if_neg a, if_neg h12] at h
    by_cases c : i 0 ≤ 10
    · rw [if_pos c] at h
      have q : rdI (foO K i 4) g := by
        have q1 : rdI (foA (foO K i 4)) g := by
          unfold foZ at h
          by_cases d : zer1 (foA (foO K i 4))
          · rw [dI_y d] at h
            obtain ⟨j, j0, j4, e3, e4⟩ := h
            by_cases z : j = 0
            · rw [z] at e3; rw [show (3 : Int) + 2 * 0 = 3 by decide, uZ_ne (by decide), uZ_eq] at e3; omega
            · exact ⟨j, j0, j4, by rw [uZ_ne (by omega), uZ_ne (by omega), uZ_ne (by omega)] at e3; exact e3, by rw [uZ_ne (by omega), uZ_ne (by omega), uZ_ne (by omega)] at e4; exact e4⟩
          · rw [dI_n d] at h; exact h
        unfold foA at q1
        by_cases d : five2 (foO K i 4)
        · rw [dI_y d] at q1
          obtain ⟨j, j0, j4, e3, e4⟩ := q1
          have f3 : ∀ v u c, 6 < c → cpyI (foO K i 4) v u c = foO K i 4 c := fun v u c hc => by
            show uZ (uZ (uZ (uZ (uZ (foO K i 4) 0 0) 3 v) 4 u) 5 0) 6 0 c = _
            rw [uZ_ne (by omega), uZ_ne (by omega), uZ_ne (by omega), uZ_ne (by omega), uZ_ne (by omega)]
          by_cases z : j = 0
          · rw [z] at e3
            have := (cpy_c (i := foO K i 4) 1 (wkd (foO K i 4 0) (foO K i 4 4) (foO K i 4 6))).2.2.1
            rw [show (3 : Int) + 2 * 0 = 3 by decide, this] at e3; omega
          · by_cases y : j = 1
            · rw [y] at e3
              have : cpyI (foO K i 4) 1 (wkd (foO K i 4 0) (foO K i 4 4) (foO K i 4 6)) 5 = 0 := by
                show uZ (uZ (uZ (uZ (uZ (foO K i 4) 0 0) 3 1) 4 _) 5 0) 6 0 5 = 0
                rw [uZ_ne (by decide), uZ_eq]
              rw [show (3 : Int) + 2 * 1 = 5 by decide, this] at e3; omega
            · rw [f3 _ _ _ (by omega)] at e3 e4
              exact ⟨j, j0, j4, e3, e4⟩
        · rw [dI_n d] at q1; exact q1
      rcases foO_rd q with z | ⟨r, z1, z2⟩
      · exact Or.inl z
      · exact Or.inr ⟨r, z1, z2, c⟩
    · rw [if_neg c] at h; exact Or.inl h
theorem fIt_w (h5 : i 0 ≤ 5) : fIt K i 0 ≤ 5 ∧ fIt K i 1 = i 1 := by
  have z : foZ (foA (foO K i 4)) = foA (foO K i 4) := by
    unfold foZ
    rw [dI_n (fun y => by have := zer9 y; omega)]
  unfold fIt
  rw [if_neg (by omega), if_neg (by omega), if_pos (by omega), z]
  unfold foA
  by_cases d : five2 (foO K i 4)
  · rw [dI_y d]
    obtain ⟨c0, c1, -, -⟩ := cpy_c (i := foO K i 4) 1 (wkd (foO K i 4 0) (foO K i 4 4) (foO K i 4 6))
    exact ⟨by rw [c0]; decide, by rw [c1]; exact foO_lo (by decide)⟩
  · rw [dI_n d]
    exact ⟨by rw [foO_lo (by decide)]; exact h5, foO_lo (by decide)⟩
theorem fIt_h (h5 : 5 < i 0) : 5 < fIt K i 0 ∧ (fIt K i 0 = 10 ↔ i 0 = 10) ∧ (i 0 = 10 → fIt K i 1 = i 1) := by
  unfold fIt
  by_cases a : i 0 = 13
  · rw [if_pos a]; exact ⟨h5, Iff.rfl, fun _ => rfl⟩
  · rw [if_neg a]
    by_cases b : i 0 = 12
    · rw [if_pos b, foB_0]; exact ⟨h5, Iff.rfl, fun z => by omega⟩
    · rw [if_neg b]
      by_cases c : i 0 ≤ 10
      · rw [if_pos c]
        by_cases d : zer1 (foA (foO K i 4))
        · have q := fo8z d
          have q9 := zer9 d
          rw [q.1]; exact ⟨by decide, ⟨fun z => by omega, fun z => by omega⟩, fun z => by omega⟩
        · rw [fo_o h5 d, foO_lo (by decide), foO_lo (by decide)]; exact ⟨h5, Iff.rfl, fun _ => rfl⟩
      · rw [if_neg c]; exact ⟨h5, Iff.rfl, fun _ => rfl⟩
/-- at t: truly live, or what a truly live one is known as -/
def FQ8 (V : Int → It) (n : Int) (t : Nat) (h : Int) : Prop := TLV V n t h ∨ (V t 0 ≠ 13 ∧ ∃ r, (foS V t).1 r = (2, h) ∧ TLV V n t r)
/-- one item back -/
theorem fq_back {d : Int} (ht : (t : Int) < n) (hn8 : ¬ (V t 0 = 8 ∨ V t 0 = 7)) (q : FQ8 V n (t + 1) d) (hw : ¬ wrT (V t) d) : FQ8 V n t d := by
  have ed : EDv V n t (t + 1) := Or.inl ⟨hn8, rfl⟩
  rcases q with q | ⟨q0, r, q1, q2⟩
  · exact Or.inl (TLV.on (by omega) ht hw ed (by have z := q; rw [show ((t + 1 : Nat) : Int) = t + 1 by omega] at z; exact z))
  · rw [show ((t + 1 : Nat) : Int) = t + 1 by omega] at q2 q0
    by_cases a : V t 0 = 13
    · rw [fo8k, if_pos a] at q1
      have : (0 : Int) = 2 := congrArg Prod.fst q1
      omega
    · rw [fo8k, if_neg a] at q1
      by_cases b : V t 0 ≤ 10
      · rw [if_pos b] at q1
        by_cases c : V t 0 ≤ 5 ∨ V t 0 = 10
        · -- it writes
          have y0 : foZ (foA (foO (foS V t).1 (V t) 4)) 0 ≤ 5 ∨ foZ (foA (foO (foS V t).1 (V t) 4)) 0 = 10 := by
            rcases c with c | c
            · have := (fIt_w (K := (foS V t).1) c).1
              unfold fIt at this
              rw [if_neg a, if_neg (by omega), if_pos b] at this
              exact Or.inl this
            · have := (fIt_h (K := (foS V t).1) (i := V t) (by omega)).2.1.mpr c
              unfold fIt at this
              rw [if_neg a, if_neg (by omega), if_pos b] at this
              exact Or.inr this
          have y1 : foZ (foA (foO (foS V t).1 (V t) 4)) 1 = V t 1 := by
            rcases c with c | c
            · have := (fIt_w (K := (foS V t).1) c).2
              unfold fIt at this
              rw [if_neg a, if_neg (by omega), if_pos b] at this
              exact this
            · have := (fIt_h (K := (foS V t).1) (i := V t) (by omega)).2.2 c
              unfold fIt at this
              rw [if_neg a, if_neg (by omega), if_pos b] at this
              exact this
          have el : lrn (foZ (foA (foO (foS V t).1 (V t) 4))) (foS V t).1 = lrnF (foZ (foA (foO (foS V t).1 (V t) 4))) (foS V t).1 := by unfold lrn; rw [dI_y y0]
          rw [el] at q1
          by_cases e1 : r = V t 1
          · -- it is learned here: COPY of it
            have e2 : lrnF (foZ (foA (foO (foS V t).1 (V t) 4))) (foS V t).1 r = if foZ (foA (foO (foS V t).1 (V t) 4)) 0 = 0 ∧ ¬ (foZ (foA (foO (foS V t).1 (V t) 4)) 3 = 2 ∧ foZ (foA (foO (foS V t).1 (V t) 4)) 4 = foZ (foA (foO (foS V t).1 (V t) 4)) 1) ∧ foZ (foA (foO (foS V t).1 (V t) 4)) 3 ≠ 0 then (foZ (foA (foO (foS V t).1 (V t) 4)) 3, foZ (foA (foO (foS V t).1 (V t) 4)) 4) else (0, 0) := if_pos (by rw [y1]; exact e1)
            rw [q1] at e2
            by_cases e3 : foZ (foA (foO (foS V t).1 (V t) 4)) 0 = 0 ∧ ¬ (foZ (foA (foO (foS V t).1 (V t) 4)) 3 = 2 ∧ foZ (foA (foO (foS V t).1 (V t) 4)) 4 = foZ (foA (foO (foS V t).1 (V t) 4)) 1) ∧ foZ (foA (foO (foS V t).1 (V t) 4)) 3 ≠ 0
            · rw [if_pos e3] at e2
              have f3 : (2 : Int) = foZ (foA (foO (foS V t).1 (V t) 4)) 3 := congrArg Prod.fst e2
              have f4 : d = foZ (foA (foO (foS V t).1 (V t) 4)) 4 := congrArg Prod.snd e2
              have c5 : V t 0 ≤ 5 := by
                rcases c with c | c
                · exact c
                · have := (fIt_h (K := (foS V t).1) (i := V t) (by omega)).2.1.mpr c
                  unfold fIt at this
                  rw [if_neg a, if_neg (by omega), if_pos b] at this
                  omega
              have rd : rdI (fIt (foS V t).1 (V t)) d := by
                refine ⟨0, by decide, by decide, ?_, ?_⟩
                · unfold fIt; rw [if_neg a, if_neg (by omega), if_pos b]; exact f3.symm
                · unfold fIt; rw [if_neg a, if_neg (by omega), if_pos b]; exact f4.symm
              rw [e1] at q2
              rcases fIt_rd (by omega) rd with z | ⟨r2, z1, z2, -⟩
              · exact Or.inl (TLV.th (by omega) ht (by omega) z q2)
              · exact Or.inr ⟨a, r2, z1, TLV.th (by omega) ht (by omega) z2 q2⟩
            · rw [if_neg e3] at e2
              have : (2 : Int) = 0 := congrArg Prod.fst e2
              omega
          · have e2 : lrnF (foZ (foA (foO (foS V t).1 (V t) 4))) (foS V t).1 r = if (foS V t).1 r = (2, foZ (foA (foO (foS V t).1 (V t) 4)) 1) then (0, 0) else (foS V t).1 r := if_neg (by rw [y1]; exact e1)
            rw [q1] at e2
            by_cases e3 : (foS V t).1 r = (2, foZ (foA (foO (foS V t).1 (V t) 4)) 1)
            · rw [if_pos e3] at e2
              have : (2 : Int) = 0 := congrArg Prod.fst e2
              omega
            · rw [if_neg e3] at e2
              exact Or.inr ⟨a, r, e2.symm, TLV.on (by omega) ht (fun z => e1 z.2.symm) ed q2⟩
        · have y0 : ¬ (foZ (foA (foO (foS V t).1 (V t) 4)) 0 ≤ 5 ∨ foZ (foA (foO (foS V t).1 (V t) 4)) 0 = 10) := by
            have w := fIt_h (K := (foS V t).1) (i := V t) (by omega)
            unfold fIt at w
            rw [if_neg a, if_neg (by omega), if_pos b] at w
            have := w.2.1
            omega
          rw [kvd_no y0] at q1
          exact Or.inr ⟨a, r, q1, TLV.on (by omega) ht (fun z => c z.1) ed q2⟩
      · rw [if_neg b] at q1
        exact Or.inr ⟨a, r, q1, TLV.on (by omega) ht (fun z => by have := z.1; omega) ed q2⟩
/-- behind an item that writes r, it is r itself that is truly live -/
theorem fq_dst (q : FQ8 V n (t + 1) (V t 1)) (hk : V t 0 ≤ 5) : TLV V n (t + 1) (V t 1) := by
  rcases q with q | ⟨-, r, q1, -⟩
  · have z := q; rw [show ((t + 1 : Nat) : Int) = t + 1 by omega] at z; exact z
  · exfalso
    have w := fIt_w (K := (foS V t).1) hk
    unfold fIt at w
    rw [if_neg (by omega), if_neg (by omega), if_pos (by omega)] at w
    rw [fo8k, if_neg (by omega), if_pos (by omega)] at q1
    have el : lrn (foZ (foA (foO (foS V t).1 (V t) 4))) (foS V t).1 = lrnF (foZ (foA (foO (foS V t).1 (V t) 4))) (foS V t).1 := by unfold lrn; rw [dI_y (Or.inl w.1)]
    rw [el] at q1
    by_cases e1 : r = V t 1
    · have e2 : lrnF (foZ (foA (foO (foS V t).1 (V t) 4))) (foS V t).1 r = if foZ (foA (foO (foS V t).1 (V t) 4)) 0 = 0 ∧ ¬ (foZ (foA (foO (foS V t).1 (V t) 4)) 3 = 2 ∧ foZ (foA (foO (foS V t).1 (V t) 4)) 4 = foZ (foA (foO (foS V t).1 (V t) 4)) 1) ∧ foZ (foA (foO (foS V t).1 (V t) 4)) 3 ≠ 0 then (foZ (foA (foO (foS V t).1 (V t) 4)) 3, foZ (foA (foO (foS V t).1 (V t) 4)) 4) else (0, 0) := if_pos (by rw [w.2]; exact e1)
      rw [q1] at e2
      by_cases e3 : foZ (foA (foO (foS V t).1 (V t) 4)) 0 = 0 ∧ ¬ (foZ (foA (foO (foS V t).1 (V t) 4)) 3 = 2 ∧ foZ (foA (foO (foS V t).1 (V t) 4)) 4 = foZ (foA (foO (foS V t).1 (V t) 4)) 1) ∧ foZ (foA (foO (foS V t).1 (V t) 4)) 3 ≠ 0
      · rw [if_pos e3] at e2
        exact e3.2.1 ⟨(congrArg Prod.fst e2).symm, (congrArg Prod.snd e2).symm.trans w.2.symm⟩
      · rw [if_neg e3] at e2
        have : (2 : Int) = 0 := congrArg Prod.fst e2
        omega
    · have e2 : lrnF (foZ (foA (foO (foS V t).1 (V t) 4))) (foS V t).1 r = if (foS V t).1 r = (2, foZ (foA (foO (foS V t).1 (V t) 4)) 1) then (0, 0) else (foS V t).1 r := if_neg (by rw [w.2]; exact e1)
      rw [q1] at e2
      by_cases e3 : (foS V t).1 r = (2, foZ (foA (foO (foS V t).1 (V t) 4)) 1)
      · rw [if_pos e3] at e2
        have : (2 : Int) = 0 := congrArg Prod.fst e2
        omega
      · rw [if_neg e3] at e2
        rw [← e2, w.2] at e3
        exact e3 rfl
/-- places of the same number: items between went out -/
theorem fq_down (u : Nat) (hs : ((t + u : Nat) : Int) < n) (e : (foS V (t + u)).2.1 = (foS V t).2.1) (q : FQ8 V n (t + u) h) : FQ8 V n t h := by
  induction u with
  | zero => exact q
  | succ u ih =>
    have m1 := fo_mo (V := V) (t := t) u
    have e1 : (foS V (t + u + 1)).2.1 = (foS V t).2.1 := e
    rcases fo_st (V := V) (t := t + u) with z | z
    · refine ih (by omega) (by rw [← e1]; exact z.2.1.symm) (fq_back (by omega) (by have := z.1.1; omega) q ?_)
      intro y
      have := z.1.1
      have := y.1
      omega
    · rw [z.2.1] at e1; omega
theorem fo_tl (hn : 0 ≤ n) {m : Int} (hl : TLV (foS V n.toNat).2.2.2 (foS V n.toNat).2.1 m g) : ∀ t : Nat, (t : Int) ≤ n → (foS V t).2.1 = m → FQ8 V n t g := by
  refine hl.ind (P := fun m g => ∀ t : Nat, (t : Int) ≤ n → (foS V t).2.1 = m → FQ8 V n t g) (fun m g m0 m1 q t tn em => ?_)
  obtain ⟨s, s1, s2, s3⟩ := fo_ex m0 m1
  have hy := (fo_at s1 s2).2
  rw [s3] at hy
  have ts : t ≤ s := by
    by_cases c : t ≤ s
    · exact c
    · obtain ⟨u, rfl⟩ : ∃ u, t = s + 1 + u := ⟨t - (s + 1), by omega⟩
      have m2 := fo_mo (V := V) (t := s + 1) u
      rcases fo_st (V := V) (t := s) with z | z
      · exact absurd z.1 s2
      · omega
  obtain ⟨u, rfl⟩ : ∃ u, s = t + u := ⟨s - t, by omega⟩
  have sn : ((t + u : Nat) : Int) < n := by omega
  refine fq_down u sn (by rw [s3, em]) ?_
  have eS : (foS V (t + u + 1)).2.1 = m + 1 := by
    rcases fo_st (V := V) (t := t + u) with z | z
    · exact absurd z.1 s2
    · rw [z.2.1, s3]
  rw [hy] at q
  rcases q with ⟨q1, q2, q3⟩ | ⟨q1, l, q2, q3⟩
  · have k12 : V ((t + u : Nat) : Int) 0 ≠ 12 := fun z => by
      apply q1
      unfold fIt
      rw [if_neg (by omega), if_pos z, foB_0]; exact z
    have tl : ∀ r, rdI (V ((t + u : Nat) : Int)) r → TLV V n ((t + u : Nat) : Int) r := fun r hr => by
      by_cases c5 : V ((t + u : Nat) : Int) 0 ≤ 5
      · have w := fIt_w (K := (foS V (t + u)).1) c5
        rcases q3 with z | z
        · omega
        · have zz := z (t + u + 1) (by omega) eS
          rw [w.2] at zz
          exact TLV.th (by omega) sn k12 hr (fq_dst zz c5)
      · exact TLV.us (by omega) sn k12 hr (by omega)
    rcases fIt_rd k12 q2 with z | ⟨r, z1, z2, z3⟩
    · exact Or.inl (tl g z)
    · by_cases c : V ((t + u : Nat) : Int) 0 = 13
      · omega
      · exact Or.inr ⟨c, r, z1, tl r z2⟩
  · have nw : ¬ wrT (V ((t + u : Nat) : Int)) g := fun z => by
      apply q1
      rcases z.1 with y | y
      · have w := fIt_w (K := (foS V (t + u)).1) y
        exact ⟨Or.inl w.1, w.2.trans z.2⟩
      · have w := fIt_h (K := (foS V (t + u)).1) (i := V ((t + u : Nat) : Int)) (by omega)
        exact ⟨Or.inr (w.2.1.mpr y), (w.2.2 y).trans z.2⟩
    rcases q2 with ⟨a, b⟩ | ⟨a, b⟩
    · -- on
      rw [hy] at a
      have n8 : ¬ (V ((t + u : Nat) : Int) 0 = 8 ∨ V ((t + u : Nat) : Int) 0 = 7) := fun z => a (by
        unfold fIt
        rw [if_neg (by omega), if_neg (by omega), if_pos (by omega), fo_o (by omega) (fun y => by have := zer9 y; omega), foO_lo (by decide)]
        exact z)
      exact fq_back sn n8 (q3 (t + u + 1) (by omega) (by rw [eS, b])) nw
    · -- a jump
      rw [hy] at a
      have k := fIt_k (K := (foS V (t + u)).1) (i := V ((t + u : Nat) : Int)) (by omega)
      obtain ⟨b0, b1, b2, b3⟩ := b
      obtain ⟨v, v1, v2, v3⟩ := fo_ex b0 b1
      have hv := (fo_at v1 v2).2
      rw [v3] at hv
      rw [hv] at b2 b3
      have kv := fIt_k (K := (foS V v).1) (i := V v) (by omega)
      rw [hy] at b3
      have k13 := kv.2.1 b2
      have ed : EDv V n ((t + u : Nat) : Int) v := Or.inr ⟨by
        rcases a with z | z
        · exact k.2.2.2 z
        · exact Or.inr (k.2.2.1 z), by omega, by omega, k13, by rw [kv.1, k.1]; exact b3⟩
      have w := q3 v (by omega) v3
      rcases w with w | w
      · exact Or.inl (TLV.on (by omega) sn nw ed w)
      · exact absurd k13 w.1
theorem S2T.fold (h : S2T V n N) (hn : 0 ≤ n) : S2T (foS V n.toNat).2.2.2 (foS V n.toNat).2.1 N := fun g a => by
  rcases fo_tl hn a 0 (by omega) rfl with z | ⟨-, r, z, -⟩
  · exact h g z
  · have : (0 : Int) = 2 := congrArg Prod.fst z
    omega
end FOT8
end
section
section DRT8
variable {V V' : Int → It} {n n' m g x : Int} {t s : Nat} {N : Int → Prop}
theorem dr_ex (h0 : 0 ≤ m) (h1 : m < (dr1 V n s).1) : ∃ t : Nat, t < s ∧ RCG V n 0 (fun _ => False) t ∧ (dr1 V n t).1 = m := by
  induction s with
  | zero => exact absurd h1 (by show ¬ m < 0; omega)
  | succ s ih =>
    rcases dr_st (V := V) (n := n) (t := s) with z | z
    · rw [z.2.1] at h1
      by_cases e : m = (dr1 V n s).1
      · exact ⟨s, by omega, z.1, e.symm⟩
      · obtain ⟨t, a, b⟩ := ih (by omega)
        exact ⟨t, by omega, b⟩
    · rw [z.2.1] at h1
      obtain ⟨t, a, b⟩ := ih h1
      exact ⟨t, by omega, b⟩
theorem dr_lt (ht : RCG V n 0 (fun _ => False) t) (hs : RCG V n 0 (fun _ => False) s) : (dr1 V n t).1 < (dr1 V n s).1 ↔ t < s := by
  constructor
  · intro a
    by_cases c : t < s
    · exact c
    · obtain ⟨u, e⟩ : ∃ u, t = s + u := ⟨t - s, by omega⟩
      have q := dr_mo (V := V) (n := n) (t := s) u
      rw [e] at a; omega
  · intro a; exact (dr_at a ht).1
theorem NBK.dr1k (h : NBK V n) (hn : 0 ≤ n) : NBK (dr1 V n n.toNat).2.2 (dr1 V n n.toNat).1 := by
  refine h.emb (Φ := fun m j => ∃ t : Nat, (t : Int) = j ∧ RCG V n 0 (fun _ => False) t ∧ (dr1 V n t).1 = m) (fun m a b _ => ?_) (fun i j i2 j2 a b => ?_)
  · obtain ⟨t, t1, t2, t3⟩ := dr_ex a b
    have q := (dr_at t1 t2).2
    rw [t3] at q
    rw [q]
    exact ⟨t, ⟨t, rfl, t2, t3⟩, by omega, rfl, fun z => z, fun z => z, fun z => Or.inl z⟩
  · obtain ⟨t, a1, a2, a3⟩ := a
    obtain ⟨u, b1, b2, b3⟩ := b
    rw [← a1, ← b1, ← a3, ← b3, dr_lt a2 b2]
    omega
theorem S2T.dr1k (h : S2T V n N) (hn : 0 ≤ n) : S2T (dr1 V n n.toNat).2.2 (dr1 V n n.toNat).1 N := fun g a => by
  have q : ∀ t : Nat, RCG V n 0 (fun _ => False) t → (dr1 V n t).1 = 0 → TLV V n t g := by
    refine a.ind (P := fun m g => ∀ t : Nat, RCG V n 0 (fun _ => False) t → (dr1 V n t).1 = m → TLV V n t g) (fun m g m0 m1 q t rt em => ?_)
    obtain ⟨s, s1, s2, s3⟩ := dr_ex m0 m1
    have e : s = t := by
      by_cases c : s = t
      · exact c
      · have c1 := dr_lt s2 rt
        have c2 := dr_lt rt s2
        omega
    subst e
    have hy := (dr_at s1 s2).2
    rw [s3] at hy
    have eS : (dr1 V n (s + 1)).1 = m + 1 := by
      rcases dr_st (V := V) (n := n) (t := s) with z | z
      · rw [z.2.1, s3]
      · exact absurd s2 z.1
    have sn : (s : Int) < n := by omega
    have nx : ¬ (V s 0 = 8 ∨ V s 0 = 7) → RCG V n 0 (fun _ => False) ((s + 1 : Nat) : Int) := fun z => by
      rw [show ((s + 1 : Nat) : Int) = s + 1 by omega]
      exact s2.s (by omega) sn (fun y => y) (Or.inl ⟨z, rfl⟩)
    rw [hy] at q
    rcases q with ⟨q1, q2, q3⟩ | ⟨q1, l, q2, q3⟩
    · rcases q3 with z | z
      · exact TLV.us (by omega) sn q1 q2 z
      · by_cases c : 5 < V s 0
        · exact TLV.us (by omega) sn q1 q2 c
        · have w := z (s + 1) (nx (by omega)) eS
          rw [show ((s + 1 : Nat) : Int) = s + 1 by omega] at w
          exact TLV.th (by omega) sn q1 q2 w
    · rcases q2 with ⟨b1, b2⟩ | ⟨b1, b0, b2, b3, b4⟩
      · rw [hy] at b1
        have w := q3 (s + 1) (nx b1) (by rw [eS, b2])
        rw [show ((s + 1 : Nat) : Int) = s + 1 by omega] at w
        exact TLV.on (by omega) sn q1 (Or.inl ⟨b1, rfl⟩) w
      · rw [hy] at b1 b4
        obtain ⟨v, v1, v2, v3⟩ := dr_ex b0 b2
        have hv := (dr_at v1 v2).2
        rw [v3] at hv
        rw [hv] at b3 b4
        exact TLV.on (by omega) sn q1 (Or.inr ⟨b1, by omega, by omega, b3, b4⟩) (q3 v v2 v3)
  exact h g (q 0 RCG.z rfl)
theorem NBK.drL (h : NBK V n) (hx : lastD V n x) : NBK (toV (rbV V n x) x) (n - 1) := by
  obtain ⟨x0, xn, ⟨x5, -⟩, -⟩ := hx
  refine h.emb (Φ := fun m j => j ≠ x ∧ m = if j ≤ x then j else j - 1) (fun m a b c => ?_) (fun i j i2 j2 a b => ?_)
  · have e : toV (rbV V n x) x m = rbV V n x (if m < x then m else m + 1) := by
      unfold toV
      by_cases c : m < x
      · rw [if_pos c, if_pos c]
      · rw [if_neg c, if_neg c]
    rw [e, rb_0 0 (by decide)] at c
    rw [e, rb_0 0 (by decide), rb_0 1 (by decide)]
    refine ⟨if m < x then m else m + 1, ?_, ?_, rfl, fun z => z, fun z => z, fun z => Or.inl z⟩
    · by_cases d : m < x
      · rw [if_pos d]; exact ⟨by omega, by rw [if_pos (by omega)]⟩
      · rw [if_neg d]; exact ⟨by omega, by rw [if_neg (by omega)]; omega⟩
    · by_cases d : m < x
      · rw [if_pos d]; omega
      · rw [if_neg d]; omega
  · obtain ⟨a1, a2⟩ := a
    obtain ⟨b1, b2⟩ := b
    rw [a2, b2]
    by_cases c : j ≤ x
    · rw [if_pos c]
      by_cases d : j2 ≤ x
      · rw [if_pos d]
      · rw [if_neg d]; omega
    · rw [if_neg c]
      by_cases d : j2 ≤ x
      · rw [if_pos d]; omega
      · rw [if_neg d]; omega
theorem S2T.drL (h : S2T V n N) (hx : lastD V n x) : S2T (toV (rbV V n x) x) (n - 1) N := fun g a => by
  obtain ⟨x0, xn, ⟨x5, xd⟩, -⟩ := hx
  have bk : ∀ g, TLV V n (x + 1) g → TLV V n x g := fun g a => TLV.on x0 xn (fun z => xd (by rw [z.2]; exact a.lv)) (Or.inl ⟨by omega, rfl⟩) a
  have q : ∀ k, (0 : Int) = (if k ≤ x then k else k - 1) → TLV V n k g := by
    refine a.ind (P := fun m g => ∀ k, m = (if k ≤ x then k else k - 1) → TLV V n k g) (fun m g m0 m1 q k ek => ?_)
    -- the item itself first
    have main : ∀ k, k ≠ x → m = (if k ≤ x then k else k - 1) → TLV V n k g := fun k kx ek => by
      have hk : 0 ≤ k ∧ k < n := by
        by_cases d : k ≤ x
        · rw [if_pos d] at ek; omega
        · rw [if_neg d] at ek; omega
      have e : toV (rbV V n x) x m = rbV V n x k := by
        unfold toV
        by_cases d : k ≤ x
        · rw [if_pos d] at ek; rw [if_pos (by omega), ek]
        · rw [if_neg d] at ek; rw [if_neg (by omega), ek, show k - 1 + 1 = k by omega]
      have nx : m + 1 = (if k + 1 ≤ x then k + 1 else k + 1 - 1) := by
        by_cases d : k ≤ x
        · rw [if_pos d] at ek; rw [if_pos (by omega)]; omega
        · rw [if_neg d] at ek; rw [if_neg (by omega)]; omega
      rw [e] at q
      rcases q with ⟨q1, q2, q3⟩ | ⟨q1, l, q2, q3⟩
      · rw [rb_0 0 (by decide)] at q1 q3
        rw [rb_n q1] at q2
        rw [rb_0 1 (by decide)] at q3
        rcases q3 with z | z
        · exact TLV.us hk.1 hk.2 q1 q2 z
        · exact TLV.th hk.1 hk.2 q1 q2 (z (k + 1) nx)
      · have nw : ¬ wrT (V k) g := fun z => q1 ⟨by rw [rb_0 0 (by decide)]; exact z.1, by rw [rb_0 1 (by decide)]; exact z.2⟩
        rcases q2 with ⟨b1, b2⟩ | ⟨b1, b0, b2, b3, b4⟩
        · rw [e, rb_0 0 (by decide)] at b1
          exact TLV.on hk.1 hk.2 nw (Or.inl ⟨b1, rfl⟩) (q3 (k + 1) (by rw [b2]; exact nx))
        · rw [e, rb_0 0 (by decide)] at b1
          rw [e, rb_0 1 (by decide)] at b4
          have el : toV (rbV V n x) x l = rbV V n x (if l < x then l else l + 1) := by
            unfold toV
            by_cases c : l < x
            · rw [if_pos c, if_pos c]
            · rw [if_neg c, if_neg c]
          rw [el, rb_0 0 (by decide)] at b3
          rw [el, rb_0 1 (by decide)] at b4
          refine TLV.on hk.1 hk.2 nw (Or.inr ⟨b1, ?_, ?_, b3, b4⟩) (q3 _ ?_)
          · by_cases d : l < x
            · rw [if_pos d]; exact b0
            · rw [if_neg d]; omega
          · by_cases d : l < x
            · rw [if_pos d]; omega
            · rw [if_neg d]; omega
          · by_cases d : l < x
            · rw [if_pos d, if_pos (by omega)]
            · rw [if_neg d, if_neg (by omega)]; omega
    by_cases kx : k = x
    · rw [kx] at ek ⊢
      exact bk g (main (x + 1) (by omega) (by rw [ek, if_pos (by omega), if_neg (by omega)]; omega))
    · exact main k kx ek
  exact h g (q 0 (by rw [if_pos x0]))
theorem DRT.kp {H : Int → Prop} {t : Nat} (h : NBK V n) (h2 : S2T V n H) (g : DRT t V n V' n') : NBK V' n' ∧ S2T V' n' H := by
  induction t generalizing V' n' with
  | zero => rw [g.1, g.2]; exact ⟨h, h2⟩
  | succ t ih =>
    obtain ⟨V1, n1, k, g1, g2, g3, g4⟩ := g
    obtain ⟨i1, i2⟩ := ih g1
    rw [g3, g4]
    exact ⟨i1.drL g2, i2.drL g2⟩
theorem DRX.kp {H : Int → Prop} {w : Int} (hn : 0 ≤ n) (h : NBK V n) (h2 : S2T V n H) (g : DRX V n V' n' w) : NBK V' n' ∧ S2T V' n' H := by
  obtain ⟨t, g1, -, -⟩ := g
  exact DRT.kp (h.dr1k hn) (h2.dr1k hn) g1
end DRT8
/-- no more than two REG but of CALL -/
def AR8 (V : Int → It) (n : Int) : Prop := ∀ i, 0 ≤ i → i < n → V i 0 ≠ 10 → V i 7 ≠ 2 ∧ V i 9 ≠ 2
section ALT8
variable {V V' : Int → It} {n g x j k : Int} {N : Int → Prop} {i : It}
theorem rd_two (h : i 7 ≠ 2 ∧ i 9 ≠ 2) (hr : rdI i g) : (i 3 = 2 ∧ i 4 = g) ∨ (i 5 = 2 ∧ i 6 = g) := by
  rcases rdI_iff.mp hr with z | z | z | z
  · exact Or.inl z
  · exact Or.inr z
  · exact absurd z.1 h.1
  · exact absurd z.1 h.2
theorem NBK.ali (h : NBK V n) (hf : isF (V x)) : NBK (uZ V x (cpyI (V x) 2 (V j 1))) n := by
  refine h.same (fun i _ _ c => ?_)
  by_cases e : i = x
  · rw [e, uZ_eq, (cpy_c 2 (V j 1)).1] at c; omega
  · rw [uZ_ne e]; exact ⟨rfl, rfl⟩
theorem S2T.ali (h : S2T V n N) (ha : AR8 V n) (hx : 0 ≤ x ∧ x < n) (hf : isF (V x)) (ht : TWF V x j) : S2T (uZ V x (cpyI (V x) 2 (V j 1))) n N := fun g a => by
  obtain ⟨j0, jx, j13, ⟨⟨t0, t3, t4, t5, t6⟩, tn, tw, tr3, tr5⟩, tl⟩ := ht
  have q : TLV V n 0 g ∨ ((j < 0 ∧ (0 : Int) ≤ x) ∧ g = V j 1 ∧ (V j 3 = 2 → TLV V n 0 (V j 4)) ∧ (V j 5 = 2 → TLV V n 0 (V j 6))) := by
    refine a.ind (P := fun k g => TLV V n k g ∨ ((j < k ∧ k ≤ x) ∧ g = V j 1 ∧ (V j 3 = 2 → TLV V n k (V j 4)) ∧ (V j 5 = 2 → TLV V n k (V j 6)))) (fun k g k0 kn q => ?_)
    have jmp : ∀ l, V l 0 = 13 → ¬ (j < l ∧ l ≤ x) := fun l a b => by
      by_cases c : l = x
      · rw [c] at a; have := hf.2; omega
      · exact (tl l b.1 (by omega)).1 a
    obtain ⟨c0, c1, c3, c4⟩ := cpy_c (i := V x) 2 (V j 1)
    by_cases ex : k = x
    · rw [ex, uZ_eq] at q
      rcases q with ⟨q1, q2, q3⟩ | ⟨q1, l, q2, q3⟩
      · -- it reads what stands ahead
        rw [c0, c1] at q3
        have d1 : TLV V n (x + 1) (V x 1) := by
          rcases q3 with z | z
          · omega
          · rcases z with z | z
            · exact z
            · have := z.1.2; omega
        have hr : ∀ b, rdI (V x) b → TLV V n x b := fun b hb => TLV.th hx.1 hx.2 (by have := hf.2; omega) hb d1
        have g1 : g = V j 1 ∨ rdI (V x) g := by
          obtain ⟨m, m0, m4, e3, e4⟩ := q2
          have hi : ∀ c, 6 < c → cpyI (V x) 2 (V j 1) c = V x c := fun c hc => by
            show uZ (uZ (uZ (uZ (uZ (V x) 0 0) 3 2) 4 _) 5 0) 6 0 c = _
            rw [uZ_ne (by omega), uZ_ne (by omega), uZ_ne (by omega), uZ_ne (by omega), uZ_ne (by omega)]
          by_cases z : m = 0
          · rw [z] at e4
            rw [show (4 : Int) + 2 * 0 = 4 by decide, c4] at e4
            exact Or.inl e4.symm
          · by_cases y : m = 1
            · rw [y] at e3
              have : cpyI (V x) 2 (V j 1) 5 = 0 := by
                show uZ (uZ (uZ (uZ (uZ (V x) 0 0) 3 2) 4 _) 5 0) 6 0 5 = 0
                rw [uZ_ne (by decide), uZ_eq]
              rw [show (3 : Int) + 2 * 1 = 5 by decide, this] at e3; omega
            · rw [hi _ (by omega)] at e3 e4
              exact Or.inr ⟨m, m0, m4, e3, e4⟩
        rw [ex]
        rcases g1 with z | z
        · refine Or.inr ⟨⟨jx, Int.le_refl _⟩, z, fun y => hr _ ?_, fun y => hr _ ?_⟩
          · exact ⟨0, by decide, by decide, t3.symm.trans y, t4.symm⟩
          · exact ⟨1, by decide, by decide, t5.symm.trans y, t6.symm⟩
        · exact Or.inl (hr g z)
      · -- on
        have nw : ¬ wrT (V x) g := fun z => q1 ⟨Or.inl (by rw [c0]; decide), c1.trans z.2⟩
        have el : l = x + 1 := by
          rcases q2 with z | z
          · exact z.2
          · have := z.1; rw [uZ_eq, c0] at this; omega
        rw [el] at q3
        rw [ex]
        rcases q3 with z | z
        · exact Or.inl (TLV.on hx.1 hx.2 nw (Or.inl ⟨by have := hf.2; omega, rfl⟩) z)
        · have := z.1.2; omega
    · rw [uZ_ne ex] at q
      -- the operands of j, one item back
      have bk : ∀ b, j < k → k < x → TLV V n (k + 1) b → ¬ wrT (V k) b → ¬ (V k 0 = 8 ∨ V k 0 = 7) → TLV V n k b := fun b _ _ z w u => TLV.on k0 kn w (Or.inl ⟨u, rfl⟩) z
      rcases q with ⟨q1, q2, q3⟩ | ⟨q1, l, q2, q3⟩
      · rcases q3 with z | z
        · exact Or.inl (TLV.us k0 kn q1 q2 z)
        · by_cases c : 5 < V k 0
          · exact Or.inl (TLV.us k0 kn q1 q2 c)
          · rcases z with z | ⟨z1, z2, z3, z4⟩
            · exact Or.inl (TLV.th k0 kn q1 q2 z)
            · -- its r is j's
              have ej : k = j := by
                by_cases e : k = j
                · exact e
                · exact absurd (tw k (by omega) (by omega) ⟨Or.inl (by omega), z2⟩) (fun y => y)
              rw [ej] at q2 k0 kn ⊢
              have rd := rd_two (ha j k0 kn (by rw [t0]; have := hf.2; omega)) q2
              rw [ej] at z3 z4
              refine Or.inl ?_
              rcases rd with y | y
              · rw [← y.2]
                refine TLV.on k0 kn (fun w => tn ⟨0, by decide, by decide, y.1, w.2.symm⟩) (Or.inl ⟨by rw [t0]; have := hf.2; omega, rfl⟩) (z3 y.1)
              · rw [← y.2]
                refine TLV.on k0 kn (fun w => tn ⟨1, by decide, by decide, y.1, w.2.symm⟩) (Or.inl ⟨by rw [t0]; have := hf.2; omega, rfl⟩) (z4 y.1)
      · have ed : EDv V n k l := by
          rcases q2 with z | z
          · exact Or.inl ⟨by rw [uZ_ne ex] at z; exact z.1, z.2⟩
          · obtain ⟨a1, b0, b1, b2, b3⟩ := z
            rw [uZ_ne ex] at a1 b3
            have lx : l ≠ x := fun w => by rw [w, uZ_eq, c0] at b2; omega
            rw [uZ_ne lx] at b2 b3
            exact Or.inr ⟨a1, b0, b1, b2, b3⟩
        rcases q3 with z | ⟨z1, z2, z3, z4⟩
        · exact Or.inl (TLV.on k0 kn q1 ed z)
        · -- k + 1 stands between
          rcases ed with ⟨u1, u2⟩ | ⟨-, u2⟩
          · rw [u2] at z1 z3 z4
            have kj : k ≠ j := fun w => q1 ⟨by rw [w, t0]; have := hf.2; omega, by rw [w, z2]⟩
            refine Or.inr ⟨⟨by omega, by omega⟩, z2, fun y => ?_, fun y => ?_⟩
            · exact bk _ (by omega) (by omega) (z3 y) (tr3 y k (by omega) (by omega)) u1
            · exact bk _ (by omega) (by omega) (z4 y) (tr5 y k (by omega) (by omega)) u1
          · exact absurd z1 (jmp l u2.2.2.1)
  rcases q with z | z
  · exact h g z
  · have := z.1.1; omega
theorem AR8.ali (ha : AR8 V n) (hf : isF (V x)) : AR8 (uZ V x (cpyI (V x) 2 (V j 1))) n := fun i i0 i1 i10 => by
  by_cases e : i = x
  · rw [e, uZ_eq]
    have hi : ∀ c, 6 < c → cpyI (V x) 2 (V j 1) c = V x c := fun c hc => by
      show uZ (uZ (uZ (uZ (uZ (V x) 0 0) 3 2) 4 _) 5 0) 6 0 c = _
      rw [uZ_ne (by omega), uZ_ne (by omega), uZ_ne (by omega), uZ_ne (by omega), uZ_ne (by omega)]
    rw [hi 7 (by decide), hi 9 (by decide)]
    exact ha x (by omega) (by omega) (by have := hf.2; omega)
  · rw [uZ_ne e] at i10 ⊢; exact ha i i0 i1 i10
theorem ALS.kp {H : Int → Prop} {w : Int} {t : Nat} (ht : (t : Int) ≤ n) (h : NBK V n) (h2 : S2T V n H) (ha : AR8 V n) (g : ALS t V V' w) : NBK V' n ∧ S2T V' n H ∧ AR8 V' n := by
  induction t generalizing V' w with
  | zero => rw [g.1]; exact ⟨h, h2, ha⟩
  | succ t ih =>
    obtain ⟨V1, w1, d, g1, g2, g3⟩ := g
    obtain ⟨i1, i2, i3⟩ := ih (by omega) g1
    rcases g2 with ⟨j, a, b, c, e⟩ | ⟨a, b, c⟩
    · rw [c]; exact ⟨i1.ali a, i2.ali i3 ⟨by omega, by omega⟩ a b, i3.ali a⟩
    · rw [b]; exact ⟨i1, i2, i3⟩
end ALT8
section SHT8
variable {V : Int → It} {n g k : Int} {nb : Int → Int} {Q bg N N' : Int → Prop} {i : It}
end SHT8
end
section
section AR9
variable {V V' : Int → It} {n n' k x m w : Int} {nb : Int → Int} {bg : Int → Prop} {K : KN} {i : It}
theorem ar_fI (h : i 0 ≠ 10 → i 7 ≠ 2 ∧ i 9 ≠ 2) (h10 : fIt K i 0 ≠ 10) : fIt K i 7 ≠ 2 ∧ fIt K i 9 ≠ 2 := by
  have i10 : i 0 ≠ 10 := fun z => h10 ((fIt_h (K := K) (i := i) (by omega)).2.1.mpr z)
  obtain ⟨h7, h9⟩ := h i10
  have o7 : foO K i 4 7 = i 7 := by
    have z := foO_kk (K := K) (i := i) (m := 2) (by decide) (by decide)
    have e : foO K i 4 7 = if i 7 = 2 ∧ (K (i 8)).1 ≠ 0 then (K (i 8)).1 else i 7 := z
    rw [e, if_neg (fun y => h7 y.1)]
  have o9 : foO K i 4 9 = i 9 := by
    have z := foO_kk (K := K) (i := i) (m := 3) (by decide) (by decide)
    have e : foO K i 4 9 = if i 9 = 2 ∧ (K (i 10)).1 ≠ 0 then (K (i 10)).1 else i 9 := z
    rw [e, if_neg (fun y => h9 y.1)]
  have a7 : ∀ c, c = 7 ∨ c = 9 → foA (foO K i 4) c = foO K i 4 c := fun c hc => by
    unfold foA
    by_cases d : five2 (foO K i 4)
    · rw [dI_y d]
      show uZ (uZ (uZ (uZ (uZ (foO K i 4) 0 0) 3 1) 4 _) 5 0) 6 0 c = _
      rw [uZ_ne (by omega), uZ_ne (by omega), uZ_ne (by omega), uZ_ne (by omega), uZ_ne (by omega)]
    · rw [dI_n d]
  have z7 : ∀ c, c = 7 ∨ c = 9 → foZ (foA (foO K i 4)) c = foA (foO K i 4) c := fun c hc => by
    unfold foZ
    by_cases d : zer1 (foA (foO K i 4))
    · rw [dI_y d, uZ_ne (by omega), uZ_ne (by omega), uZ_ne (by omega)]
    · rw [dI_n d]
  have b7 : ∀ c, c = 7 ∨ c = 9 → foB K i c = i c := fun c hc => by
    unfold foB
    by_cases d : i 11 = 2 ∧ (K (i 4)).1 = 1
    · rw [dI_y d, uZ_ne (by omega), uZ_ne (by omega), uZ_ne (by omega)]
    · rw [dI_n d]
  unfold fIt
  by_cases a : i 0 = 13
  · rw [if_pos a]; exact ⟨h7, h9⟩
  · rw [if_neg a]
    by_cases b : i 0 = 12
    · rw [if_pos b, b7 7 (Or.inl rfl), b7 9 (Or.inr rfl)]; exact ⟨h7, h9⟩
    · rw [if_neg b]
      by_cases c : i 0 ≤ 10
      · rw [if_pos c, z7 7 (Or.inl rfl), z7 9 (Or.inr rfl), a7 7 (Or.inl rfl), a7 9 (Or.inr rfl), o7, o9]; exact ⟨h7, h9⟩
      · rw [if_neg c]; exact ⟨h7, h9⟩
theorem AR8.fold (hn : 0 ≤ n) (h : AR8 V n) : AR8 (foS V n.toNat).2.2.2 (foS V n.toNat).2.1 := fun m a b => by
  obtain ⟨t, t1, t2, t3⟩ := fo_ex a b
  have q := (fo_at t1 t2).2
  rw [t3] at q
  rw [q]
  exact ar_fI (h t (by omega) (by omega))
theorem AR8.dr1k (hn : 0 ≤ n) (h : AR8 V n) : AR8 (dr1 V n n.toNat).2.2 (dr1 V n n.toNat).1 := fun m a b => by
  obtain ⟨t, t1, t2, t3⟩ := dr_ex a b
  have q := (dr_at t1 t2).2
  rw [t3] at q
  rw [q]
  exact h t (by omega) (by omega)
theorem rb_79 (c : Int) (h : c = 7 ∨ c = 9) : rbV V n x k c = V k c := by
  unfold rbV
  by_cases a : nrV V n x k ∧ V k 0 = 12 ∧ V k 11 = 2 ∧ V k 4 = V x 1
  · rw [dI_y a]
    unfold tkI
    by_cases z : V x 0 = 0
    · rw [if_pos z, uZ_ne (by omega), uZ_ne (by omega), uZ_ne (by omega)]
    · rw [if_neg z, uZ_ne (by omega), uZ_ne (by omega), uZ_ne (by omega), uZ_ne (by omega), uZ_ne (by omega)]
  · rw [dI_n a]
    by_cases b : (0 ≤ k ∧ k < n) ∧ RCG V n (x + 1) (fun j => wrT (V j) (V x 1)) k ∧ V k 0 = 12 ∧ rdI (V k) (V x 1)
    · rw [dI_y b]
      show uZ (uZ (uZ (uZ (uZ (V k) 11 12) 3 0) 4 0) 5 0) 6 0 c = V k c
      rw [uZ_ne (by omega), uZ_ne (by omega), uZ_ne (by omega), uZ_ne (by omega), uZ_ne (by omega)]
    · rw [dI_n b]
theorem AR8.drL (h : AR8 V n) (x0 : 0 ≤ x) (xn : x < n) : AR8 (toV (rbV V n x) x) (n - 1) := fun m a b => by
  unfold toV
  by_cases c : m < x
  · rw [if_pos c, rb_0 0 (by decide), rb_79 7 (Or.inl rfl), rb_79 9 (Or.inr rfl)]; exact h m a (by omega)
  · rw [if_neg c, rb_0 0 (by decide), rb_79 7 (Or.inl rfl), rb_79 9 (Or.inr rfl)]; exact h (m + 1) (by omega) (by omega)
end AR9
section ABS
variable {s : BB} {i x : It} {f base P N k lb lq j0 to out n : Int} {na NM lv : Int → Int} {l : Int → Prop} {H G : RTS} {V : Int → It}
end ABS
section TRX
variable {Gs : Int → RTS} {PM PV NM : Int → Int} {r C w v k k' : Int} {H H1 H2 H' : RTS} {t : Nat}
end TRX
end
section
section NBS
variable {V V' : Int → It} {n n' lab a b t s : Int} {S : List ME} {e e' : ME} {x : It} {L : List Int}
theorem NBK.put (h : NBK V n) (h0 : 0 ≤ n) (hx : x 0 ≠ 8 ∧ x 0 ≠ 9 ∧ x 0 ≠ 13) : NBK (uZ V n x) (n + 1) := by
  refine h.emb (Φ := fun i j => i = j) (fun i a b c => ?_) (fun i j i2 j2 a b => by omega)
  by_cases e : i = n
  · rw [e, uZ_eq] at c; omega
  · rw [uZ_ne e]
    exact ⟨i, rfl, ⟨a, by omega⟩, rfl, fun z => z, fun z => z, fun z => Or.inl z⟩
end NBS
section JLS
variable {m : MK} {e : ME} {S0 : List ME} {tb : Int → Int} {rn : Int64 → Int} {w : Int64}
end JLS
section JDS
variable {s : Int → Int} {nm : Int → Int64 → Int} {rn : Int64 → Int} {tb : Int → Int} {k : Nat} {t : TK} {q : QR} {m m1 : MK} {a b : PCf} {e : ME}
end JDS
end
section
section FRS
variable {N n g k v d o a b w ak bk : Int} {V : Int → It} {x : It} {e : ME} {m : MK} {S : List ME} {as : List (Int × Int)}
theorem AR8.put (h : AR8 V n) (hx : x 0 ≠ 10 → x 7 ≠ 2 ∧ x 9 ≠ 2) : AR8 (uZ V n x) (n + 1) := fun i i0 i1 i10 => by
  by_cases e : i = n
  · rw [e, uZ_eq] at i10 ⊢; exact hx i10
  · rw [uZ_ne e] at i10 ⊢; exact h i i0 (by omega) i10
end FRS
section BHS
variable {s : Int → Int} {k : Nat} {K : List Nat} {t : TK} {x : Int × Int × Int} {q : QR} {r : List Nat × TK × (Int × Int × Int) × QR × List EV}
end BHS
section BDS
variable {s : Int → Int} {nm : Int → Int64 → Int} {rn : Int64 → Int} {tb : Int → Int} {k : Nat} {K K2 : List Nat} {t : TK} {x : Int × Int × Int} {q : QR} {r : List Nat × TK × (Int × Int × Int) × QR × List EV} {m : MK} {N : Int} {S' : List Int} {e : ME} {S0 : List ME}
end BDS
section JOS
variable {NN tb : Int → Int} {s : Int → Int} {nm : Int → Int64 → Int} {rn : Int64 → Int} {k : Nat} {K : List Nat} {t : TK} {x : Int × Int × Int} {q : QR} {r : List Nat × TK × (Int × Int × Int) × QR × List EV} {m : MK} {y : Int} {N : Int → Int64 → Prop} {C : EW → Prop} {es fs : List EW}
end JOS
end
section
/-- the text's own codes in the codes' place -/
def vbo (k : Nat) : Int := if k = 3 ∨ k = 4 ∨ k = 5 ∨ k = 6 then 1320 else if k = 7 ∨ k = 8 then 5280 else if k = 9 then 6 else 0
def vb (τ : MS) : MS := (τ.1, fun k j => if k = 14 then 1 else if k = 15 then j / 12 else if k = 16 then -1 else if k = 17 then 0 else if k = 18 then j % 144 else τ.2.1 k (vbo k + j), τ.2.2)
section VWS
variable {τ τ2 : MS} {m g t x c j v w u n r q f : Int} {k : Nat}
end VWS
end
