section
def lrnF (i : It) (K : KN) : KN := fun g => if g = i 1 then (if i 0 = 0 ∧ ¬ (i 3 = 2 ∧ i 4 = i 1) ∧ i 3 ≠ 0 then (i 3, i 4) else (0, 0)) else if K g = (2, i 1) then (0, 0) else K g
noncomputable def lrn (i : It) (K : KN) : KN := dI (i 0 ≤ 5 ∨ i 0 = 10) (lrnF i K) K
def foO (K : KN) (i : It) (m : Int) : It := fun c => if 3 ≤ c ∧ c < 3 + 2 * m ∧ i (3 + 2 * ((c - 3) / 2)) = 2 ∧ (K (i (4 + 2 * ((c - 3) / 2)))).1 ≠ 0 then (if (c - 3) % 2 = 0 then (K (i (4 + 2 * ((c - 3) / 2)))).1 else (K (i (4 + 2 * ((c - 3) / 2)))).2) else i c
def foC (K : KN) (i : It) (m : Int) : Prop := ∃ j, 0 ≤ j ∧ j < m ∧ i (3 + 2 * j) = 2 ∧ (K (i (4 + 2 * j))).1 ≠ 0
def cpyI (i : It) (k v : Int) : It := uZ (uZ (uZ (uZ (uZ i 0 0) 3 k) 4 v) 5 0) 6 0
def w32 (z : Int) : Int := (iI z).toInt
def wkd (k a b : Int) : Int := if k = 1 then w32 (a + b) else if k = 2 then w32 (a - b) else if k = 3 then w32 (a * b) else if k = 4 then (if a = b then 1 else 0) else (if a < b then 1 else 0)
def five2 (i : It) : Prop := 1 ≤ i 0 ∧ i 0 ≤ 5 ∧ i 3 = 1 ∧ i 5 = 1
noncomputable def foA (i : It) : It := dI (five2 i) (cpyI i 1 (wkd (i 0) (i 4) (i 6))) i
def zer1 (i : It) : Prop := i 0 = 9 ∧ i 3 = 1
noncomputable def foZ (i : It) : It := dI (zer1 i) (uZ (uZ (uZ i 0 8) 3 0) 4 0) i
noncomputable def foB (K : KN) (i : It) : It := dI (i 11 = 2 ∧ (K (i 4)).1 = 1) (uZ (uZ (uZ i 11 1) 3 1) 4 (K (i 4)).2) i
abbrev FOT : Type := KN × Int × Int × (Int → It)
noncomputable def foX (s : FOT) (i : It) : FOT :=
  (lrn (foZ (foA (foO s.1 i 4))) s.1,
   dI (zer1 (foA (foO s.1 i 4)) ∧ foA (foO s.1 i 4) 4 ≠ 0) s.2.1 (s.2.1 + 1),
   dI (foC s.1 i 4 ∨ five2 (foO s.1 i 4) ∨ zer1 (foA (foO s.1 i 4))) (s.2.2.1 + 1) s.2.2.1,
   dI (zer1 (foA (foO s.1 i 4)) ∧ foA (foO s.1 i 4) 4 ≠ 0) s.2.2.2 (uZ s.2.2.2 s.2.1 (foZ (foA (foO s.1 i 4)))))
noncomputable def foT (s : FOT) (i : It) : FOT :=
  if i 0 = 13 then (fun _ => (0, 0), s.2.1 + 1, s.2.2.1, uZ s.2.2.2 s.2.1 i)
  else if i 0 = 12 then (s.1, s.2.1 + 1, s.2.2.1, uZ s.2.2.2 s.2.1 (foB s.1 i))
  else if i 0 ≤ 10 then foX s i
  else (s.1, s.2.1 + 1, s.2.2.1, uZ s.2.2.2 s.2.1 i)
noncomputable def foS (V : Int → It) : Nat → FOT
  | 0 => (fun _ => (0, 0), 0, 0, fun _ => zI)
  | n + 1 => foT (foS V n) (V n)
theorem foS_s {V : Int → It} {k : Int} (h : 0 ≤ k) : foS V (k + 1).toNat = foT (foS V k.toNat) (V k) := by
  rw [show (k + 1).toNat = k.toNat + 1 by omega]
  show foT (foS V k.toNat) (V ((k.toNat : Nat) : Int)) = _
  rw [show ((k.toNat : Nat) : Int) = k by omega]
section FOO
variable {K : KN} {i : It} {m : Int}
theorem foO_0 : foO K i 0 = i := by
  funext c
  exact if_neg (by omega)
theorem foO_k (h : 0 ≤ m) : foO K i m (3 + 2 * m) = i (3 + 2 * m) := if_neg (by omega)
theorem foO_n (h : 0 ≤ m) : foO K i m (4 + 2 * m) = i (4 + 2 * m) := if_neg (by omega)
theorem foO_y (h0 : 0 ≤ m) (h : i (3 + 2 * m) = 2) (hk : (K (i (4 + 2 * m))).1 ≠ 0) : foO K i (m + 1) = uZ (uZ (foO K i m) (3 + 2 * m) (K (i (4 + 2 * m))).1) (4 + 2 * m) (K (i (4 + 2 * m))).2 := by
  funext c
  by_cases e : c = 4 + 2 * m
  · rw [e, uZ_eq]
    unfold foO
    rw [show (4 + 2 * m - 3) / 2 = m by omega, if_pos ⟨by omega, by omega, h, hk⟩, if_neg (by omega)]
  · rw [uZ_ne e]
    by_cases e2 : c = 3 + 2 * m
    · rw [e2, uZ_eq]
      unfold foO
      rw [show (3 + 2 * m - 3) / 2 = m by omega, if_pos ⟨by omega, by omega, h, hk⟩, if_pos (by omega)]
    · rw [uZ_ne e2]
      unfold foO
      by_cases q : 3 ≤ c ∧ c < 3 + 2 * m
      · by_cases w : i (3 + 2 * ((c - 3) / 2)) = 2 ∧ (K (i (4 + 2 * ((c - 3) / 2)))).1 ≠ 0
        · exact (if_pos ⟨q.1, by omega, w.1, w.2⟩).trans (if_pos ⟨q.1, q.2, w.1, w.2⟩).symm
        · rw [if_neg (fun z => w ⟨z.2.2.1, z.2.2.2⟩), if_neg (fun z => w ⟨z.2.2.1, z.2.2.2⟩)]
      · rw [if_neg (fun z => by omega), if_neg (fun z => q ⟨z.1, z.2.1⟩)]
theorem foO_no (h0 : 0 ≤ m) (h : ¬ (i (3 + 2 * m) = 2 ∧ (K (i (4 + 2 * m))).1 ≠ 0)) : foO K i (m + 1) = foO K i m := by
  funext c
  unfold foO
  by_cases q : 3 ≤ c ∧ c < 3 + 2 * m
  · by_cases w : i (3 + 2 * ((c - 3) / 2)) = 2 ∧ (K (i (4 + 2 * ((c - 3) / 2)))).1 ≠ 0
    · exact (if_pos ⟨q.1, by omega, w.1, w.2⟩).trans (if_pos ⟨q.1, q.2, w.1, w.2⟩).symm
    · rw [if_neg (fun z => w ⟨z.2.2.1, z.2.2.2⟩), if_neg (fun z => w ⟨z.2.2.1, z.2.2.2⟩)]
  · rw [if_neg (fun z => ?_), if_neg (fun z => q ⟨z.1, z.2.1⟩)]
    obtain ⟨z1, z2, z3, z4⟩ := z
    have e : (c - 3) / 2 = m := by omega
    rw [e] at z3 z4
    exact h ⟨z3, z4⟩
theorem foC_s : foC K i (m + 1) ↔ foC K i m ∨ (0 ≤ m ∧ i (3 + 2 * m) = 2 ∧ (K (i (4 + 2 * m))).1 ≠ 0) := by
  constructor
  · rintro ⟨j, a, b, c, e⟩
    by_cases q : j = m
    · subst q; exact Or.inr ⟨a, c, e⟩
    · exact Or.inl ⟨j, a, by omega, c, e⟩
  · rintro (⟨j, a, b, c, e⟩ | ⟨a, c, e⟩)
    · exact ⟨j, a, by omega, c, e⟩
    · exact ⟨m, a, by omega, c, e⟩
theorem foC_0 : ¬ foC K i 0 := fun ⟨j, a, b, _⟩ => by omega
theorem foO_up {n : Nat} (h0 : 0 ≤ m) (h : ∀ j, m ≤ j → j < m + n → i (3 + 2 * j) ≠ 2) : foO K i (m + n) = foO K i m ∧ (foC K i (m + n) ↔ foC K i m) := by
  induction n with
  | zero => exact ⟨by rw [show m + ((0 : Nat) : Int) = m by omega], by rw [show m + ((0 : Nat) : Int) = m by omega]⟩
  | succ n ih =>
    have q := ih (fun j a b => h j a (by omega))
    have w : i (3 + 2 * (m + n)) ≠ 2 := h (m + n) (by omega) (by omega)
    rw [show m + ((n + 1 : Nat) : Int) = (m + n) + 1 by omega]
    exact ⟨(foO_no (by omega) (fun z => w z.1)).trans q.1, foC_s.trans ⟨fun z => z.elim q.2.mp (fun z => absurd z.2.1 w), fun z => Or.inl (q.2.mpr z)⟩⟩
theorem foO_4 (h0 : 0 ≤ m) (h4 : m ≤ 4) (h : ∀ j, m ≤ j → j < 4 → i (3 + 2 * j) ≠ 2) : foO K i 4 = foO K i m ∧ (foC K i 4 ↔ foC K i m) := by
  have q := foO_up (K := K) (i := i) (m := m) (n := (4 - m).toNat) h0 (fun j a b => h j a (by omega))
  rw [show m + (((4 - m).toNat : Nat) : Int) = 4 by omega] at q
  exact q
end FOO
def knA (σ : MS) : KN := fun g => if 0 ≤ g ∧ g < 192 ∧ σ.2.1 60 g ≠ 0 then (σ.2.1 60 g, σ.2.1 61 g) else (0, 0)
section KNA
variable {σ τ : MS} {g : Int}
theorem Fr.kn {ss ks js : List Nat} (f : Fr ss ks js σ τ) (h : ∀ k ∈ [60, 61], k ∉ ks) : knA τ = knA σ := by
  funext g
  unfold knA
  rw [f.2.1 60 (h 60 (by decide)), f.2.1 61 (h 61 (by decide))]
theorem kn_1 (h0 : 0 ≤ g) (h1 : g < 192) : (knA σ g).1 = σ.2.1 60 g := by
  unfold knA
  by_cases e : σ.2.1 60 g = 0
  · rw [if_neg (fun z => z.2.2 e)]; exact e.symm
  · rw [if_pos ⟨h0, h1, e⟩]
theorem kn_2 (h0 : 0 ≤ g) (h1 : g < 192) (h : σ.2.1 60 g ≠ 0) : (knA σ g).2 = σ.2.1 61 g := by
  unfold knA
  rw [if_pos ⟨h0, h1, h⟩]
theorem kn_z (h : ∀ g, 0 ≤ g → g < 192 → σ.2.1 60 g = 0) : knA σ = fun _ => (0, 0) := by
  funext g
  exact if_neg (fun z => z.2.2 (h g z.1 z.2.1))
def LNG (σ0 σ : MS) (w g : Int) : Prop := ∀ j, 0 ≤ j → j < 192 → σ.2.1 60 j = (if j < g ∧ σ0.2.1 60 j = 2 ∧ σ0.2.1 61 j = w then 0 else σ0.2.1 60 j)
theorem LNG.put {σ0 : MS} {w v : Int} (h : LNG σ0 σ w g) (h0 : 0 ≤ g ∧ g < 192) (hv : (σ.2.1 60 g = 2 ∧ σ0.2.1 61 g = w → v = 0) ∧ (¬ (σ.2.1 60 g = 2 ∧ σ0.2.1 61 g = w) → v = σ.2.1 60 g)) : LNG σ0 (sA 60 g v σ) w (g + 1) := fun j a b => by
  have hg := h g h0.1 h0.2
  rw [if_neg (by omega)] at hg
  by_cases e : j = g
  · subst e
    rw [show (sA 60 j v σ).2.1 60 j = v from ra_eq]
    by_cases q : σ0.2.1 60 j = 2 ∧ σ0.2.1 61 j = w
    · rw [if_pos ⟨by omega, q⟩]; exact hv.1 ⟨by omega, q.2⟩
    · rw [if_neg (fun z => q z.2)]; rw [hv.2 (fun z => q ⟨by omega, z.2⟩)]; exact hg
  · rw [show (sA 60 g v σ).2.1 60 j = σ.2.1 60 j from ra_ne e rfl, h j a b]
    by_cases q : j < g ∧ σ0.2.1 60 j = 2 ∧ σ0.2.1 61 j = w
    · rw [if_pos q, if_pos ⟨by omega, q.2⟩]
    · rw [if_neg q, if_neg (fun z => q ⟨by omega, z.2⟩)]
theorem LNG.start {σ0 : MS} {w : Int} : LNG σ0 σ0 w 0 := fun j a b => by rw [if_neg (by omega)]
theorem lrn_no {x : Int} (h : ¬ (σ.2.1 3 x ≤ 5 ∨ σ.2.1 3 x = 10)) : knA σ = lrn (rI σ x) (knA σ) := by
  unfold lrn
  rw [dI_n (show ¬ (rI σ x 0 ≤ 5 ∨ rI σ x 0 = 10) from h)]
theorem lrn_fg {x w : Int} (hl : LNG (sA 60 w 0 σ) τ w 192) (h61 : τ.2.1 61 = σ.2.1 61) (hw : (σ.2.1 3 x ≤ 5 ∨ σ.2.1 3 x = 10) ∧ σ.2.1 4 x = w ∧ 0 ≤ w ∧ w < 192) {j : Int} (hj : j ≠ w) : knA τ j = lrn (rI σ x) (knA σ) j := by
  unfold lrn
  rw [dI_y (show rI σ x 0 ≤ 5 ∨ rI σ x 0 = 10 from hw.1)]
  unfold lrnF
  rw [ri1, hw.2.1, if_neg hj]
  unfold knA
  by_cases b : 0 ≤ j ∧ j < 192
  · have q := hl j b.1 b.2
    rw [show (sA 60 w 0 σ).2.1 60 j = σ.2.1 60 j from ra_ne hj rfl, show (sA 60 w 0 σ).2.1 61 j = σ.2.1 61 j from rfl] at q
    rw [q, h61]
    by_cases z : σ.2.1 60 j = 0
    · rw [if_neg (show ¬ (j < 192 ∧ σ.2.1 60 j = 2 ∧ σ.2.1 61 j = w) by omega), if_neg (show ¬ (0 ≤ j ∧ j < 192 ∧ σ.2.1 60 j ≠ 0) from fun y => y.2.2 z), if_neg (show ¬ ((0, 0) : Int × Int) = (2, w) from fun y => by injection y with y1 y2; omega)]
    · rw [if_pos (show 0 ≤ j ∧ j < 192 ∧ σ.2.1 60 j ≠ 0 from ⟨b.1, b.2, z⟩)]
      by_cases p : σ.2.1 60 j = 2 ∧ σ.2.1 61 j = w
      · rw [if_pos (show j < 192 ∧ σ.2.1 60 j = 2 ∧ σ.2.1 61 j = w from ⟨b.2, p⟩), if_neg (by simp), if_pos (show (σ.2.1 60 j, σ.2.1 61 j) = (2, w) by rw [p.1, p.2])]
      · rw [if_neg (show ¬ (j < 192 ∧ σ.2.1 60 j = 2 ∧ σ.2.1 61 j = w) from fun y => p y.2), if_pos (show 0 ≤ j ∧ j < 192 ∧ σ.2.1 60 j ≠ 0 from ⟨b.1, b.2, z⟩), if_neg (fun y => p (by injection y with y1 y2; exact ⟨y1, y2⟩))]
  · rw [if_neg (fun y => b ⟨y.1, y.2.1⟩), if_neg (show ¬ (0 ≤ j ∧ j < 192 ∧ σ.2.1 60 j ≠ 0) from fun y => b ⟨y.1, y.2.1⟩), if_neg (show ¬ ((0, 0) : Int × Int) = (2, w) from fun y => by injection y with y1 y2; omega)]
theorem lrn_w0 {x w : Int} (hl : LNG (sA 60 w 0 σ) τ w 192) (h61 : τ.2.1 61 = σ.2.1 61) (hw : (σ.2.1 3 x ≤ 5 ∨ σ.2.1 3 x = 10) ∧ σ.2.1 4 x = w ∧ 0 ≤ w ∧ w < 192) (hn : ¬ (σ.2.1 3 x = 0 ∧ ¬ (σ.2.1 7 (4 * x) = 2 ∧ σ.2.1 8 (4 * x) = w))) : knA τ = lrn (rI σ x) (knA σ) := by
  funext j
  by_cases e : j = w
  · have q := hl w hw.2.2.1 hw.2.2.2
    rw [show (sA 60 w 0 σ).2.1 60 w = 0 from ra_eq, if_neg (by omega)] at q
    unfold lrn
    rw [dI_y (show rI σ x 0 ≤ 5 ∨ rI σ x 0 = 10 from hw.1)]
    unfold lrnF
    rw [ri0, ri1, ri3, ri4, hw.2.1, if_pos e, e, Int.add_zero]
    unfold knA
    rw [if_neg (fun y => y.2.2 q), if_neg (fun y => hn ⟨y.1, y.2.1⟩)]
  · exact lrn_fg hl h61 hw e
theorem lrn_kv {x w k v : Int} (hl : LNG (sA 60 w 0 σ) τ w 192) (h61 : τ.2.1 61 = σ.2.1 61) (hw : (σ.2.1 3 x ≤ 5 ∨ σ.2.1 3 x = 10) ∧ σ.2.1 4 x = w ∧ 0 ≤ w ∧ w < 192) (hc : σ.2.1 3 x = 0) (hk : σ.2.1 7 (4 * x) = k ∧ σ.2.1 8 (4 * x) = v) (hn : ¬ (k = 2 ∧ v = w)) : knA (sA 61 w v (sA 60 w k τ)) = lrn (rI σ x) (knA σ) := by
  funext j
  by_cases e : j = w
  · unfold lrn
    rw [dI_y (show rI σ x 0 ≤ 5 ∨ rI σ x 0 = 10 from hw.1)]
    unfold lrnF
    rw [ri0, ri1, ri3, ri4, hw.2.1, if_pos e, e, Int.add_zero, hk.1, hk.2]
    unfold knA
    rw [show (sA 61 w v (sA 60 w k τ)).2.1 60 w = k from ra_o (by decide) ra_eq, show (sA 61 w v (sA 60 w k τ)).2.1 61 w = v from ra_eq]
    by_cases q : k = 0
    · rw [if_neg (fun y => y.2.2 q), if_neg (fun y => y.2.2 q)]
    · rw [if_pos ⟨hw.2.2.1, hw.2.2.2, q⟩, if_pos ⟨hc, hn, q⟩]
  · rw [← lrn_fg hl h61 hw e]
    unfold knA
    rw [show (sA 61 w v (sA 60 w k τ)).2.1 60 j = τ.2.1 60 j from ra_o (by decide) (ra_ne e rfl), show (sA 61 w v (sA 60 w k τ)).2.1 61 j = τ.2.1 61 j from ra_ne e rfl]
end KNA
end
section
section PI
variable {σ0 σ : MS} {K : KN} {x i w : Int}
theorem foO_hk {t : It} {m j : Int} (h : m ≤ j) (h2 : 0 ≤ m) : foO K t m (3 + 2 * j) = t (3 + 2 * j) := if_neg (by omega)
theorem foO_hn {t : It} {m j : Int} (h : m ≤ j) (h2 : 0 ≤ m) : foO K t m (4 + 2 * j) = t (4 + 2 * j) := if_neg (by omega)
theorem pi_at (h : rI σ x = foO K (rI σ0 x) i) (h0 : 0 ≤ i) {j : Int} (a : i ≤ j) (b : j < 4) : rI σ0 x (3 + 2 * j) = σ.2.1 7 (4 * x + j) ∧ rI σ0 x (4 + 2 * j) = σ.2.1 8 (4 * x + j) := by
  have e1 := congrFun h (3 + 2 * j)
  have e2 := congrFun h (4 + 2 * j)
  rw [foO_hk a h0, riK (by omega) b] at e1
  rw [foO_hn a h0, riN (by omega) b] at e2
  exact ⟨e1.symm, e2.symm⟩
theorem pi_no (h : rI σ x = foO K (rI σ0 x) i ∧ (w = 1 ↔ foC K (rI σ0 x) i)) (h0 : 0 ≤ i) (h4 : i < 4) (hn : ¬ (σ.2.1 7 (4 * x + i) = 2 ∧ (K (σ.2.1 8 (4 * x + i))).1 ≠ 0)) : rI σ x = foO K (rI σ0 x) (i + 1) ∧ (w = 1 ↔ foC K (rI σ0 x) (i + 1)) := by
  have e := pi_at h.1 h0 (Int.le_refl i) h4
  rw [← e.1, ← e.2] at hn
  refine ⟨h.1.trans (foO_no h0 hn).symm, h.2.trans ⟨fun q => foC_s.mpr (Or.inl q), fun q => ?_⟩⟩
  rcases foC_s.mp q with q | q
  · exact q
  · exact absurd ⟨q.2.1, q.2.2⟩ hn
theorem pi_yes (h : rI σ x = foO (knA σ0) (rI σ0 x) i ∧ (w = 1 ↔ foC (knA σ0) (rI σ0 x) i)) (h0 : 0 ≤ i) (h4 : i < 4) (hy : σ.2.1 7 (4 * x + i) = 2) (hg : 0 ≤ σ.2.1 8 (4 * x + i) ∧ σ.2.1 8 (4 * x + i) < 192) (hk : σ0.2.1 60 (σ.2.1 8 (4 * x + i)) ≠ 0) : rI (fArg x i (σ0.2.1 60 (σ.2.1 8 (4 * x + i))) (σ0.2.1 61 (σ.2.1 8 (4 * x + i))) σ) x = foO (knA σ0) (rI σ0 x) (i + 1) ∧ ((1 : Int) = 1 ↔ foC (knA σ0) (rI σ0 x) (i + 1)) := by
  have e := pi_at h.1 h0 (Int.le_refl i) h4
  have k1 := kn_1 (σ := σ0) hg.1 hg.2
  have k2 := kn_2 (σ := σ0) hg.1 hg.2 hk
  have c1 : rI σ0 x (3 + 2 * i) = 2 := e.1.trans hy
  have c2 : (knA σ0 (rI σ0 x (4 + 2 * i))).1 ≠ 0 := by rw [e.2, k1]; exact hk
  refine ⟨?_, fun _ => foC_s.mpr (Or.inr ⟨h0, c1, c2⟩), fun _ => rfl⟩
  rw [foO_y h0 c1 c2, ri_arg h0 h4, h.1, e.2, k1, k2]
theorem pi_end (h : rI σ x = foO K (rI σ0 x) i ∧ (w = 1 ↔ foC K (rI σ0 x) i)) (h0 : 0 ≤ i) (h4 : i ≤ 4) (hn : ∀ j, i ≤ j → j < 4 → σ.2.1 7 (4 * x + j) ≠ 2) : rI σ x = foO K (rI σ0 x) 4 ∧ (w = 1 ↔ foC K (rI σ0 x) 4) := by
  have q := foO_4 (K := K) (i := rI σ0 x) h0 h4 (fun j a b => by rw [(pi_at h.1 h0 a b).1]; exact hn j a b)
  exact ⟨h.1.trans q.1.symm, h.2.trans q.2.symm⟩
end PI
def FOY (ρ σ : MS) (r k t w : Int) : Prop := foS (rV ρ r) k.toNat = (knA σ, t, w, oV σ r t)
def FOX (ρ σ : MS) (r k t w gs : Int) : Prop := foS (rV ρ r) (k + 1).toNat = (knA σ, t + (1 - gs), w, if gs = 0 then uZ (oV σ r t) t (rI σ (220 * r + k)) else oV σ r t)
def FOI (ρ σ : MS) (r k ce : Int) : Prop := rI σ (220 * r + k) = foA (foO (knA σ) (rV ρ r k) 4) ∧ (ce = 1 ↔ foC (knA σ) (rV ρ r k) 4 ∨ five2 (foO (knA σ) (rV ρ r k) 4)) ∧ rV ρ r k 0 ≤ 10
section FOYS
variable {ρ σ τ : MS} {r k t w gs ce : Int}
theorem FOX.skip (h : FOX ρ σ r k t w gs) (e : gs = 1) : FOY ρ σ r (k + 1) t w := by
  unfold FOX at h
  unfold FOY
  rw [h, e, if_neg (by decide), show t + (1 - 1) = t by omega]
theorem FOX.keep (h : FOX ρ σ r k t w gs) (e : gs = 0) (h0 : 0 ≤ t) : FOY ρ (fCopy (220 * r + k) (220 * r + t) σ) r (k + 1) (t + 1) w := by
  unfold FOX at h
  unfold FOY
  rw [h, e, if_pos rfl, ov_copy h0, fCopy_fr.kn (by decide), show t + (1 - 0) = t + 1 by omega]
theorem ov_off {x : Int} (o : OFF x σ τ) (hx : 220 * r + t ≤ x) : oV τ r t = oV σ r t := ov_ext (fun j a b => o.ri (by omega))
theorem ov_fr {ss ks js : List Nat} (f : Fr ss ks js σ τ) (h : ∀ k ∈ [3, 4, 5, 6, 7, 8], k ∉ ks) : oV τ r t = oV σ r t := ov_ext (fun j a b => by rw [f.ri h])
theorem rv_fr {ss ks js : List Nat} (f : Fr ss ks js σ τ) (h : ∀ k ∈ [3, 4, 5, 6, 7, 8, 9], k ∉ ks) : rV τ r = rV σ r := by
  rw [rv_ov, rv_ov, f.q h (k := 9) (by decide)]
  exact ov_fr f (fun k q => h k (by simp at q ⊢; omega))
theorem FOY.off (h : FOY ρ σ r k t w) (o : OFF (220 * r + k) σ τ) (ht : t ≤ k) (hk : knA τ = knA σ) : FOY ρ τ r k t w := by
  unfold FOY at h ⊢
  rw [h, hk, ov_off o (by omega)]
theorem FOX.of (h : FOY ρ σ r k t w) (h0 : 0 ≤ k) {s : FOT} {w' : Int} (e : foT (knA σ, t, w, oV σ r t) (rV ρ r k) = s) (hs : s = (knA τ, t + (1 - gs), w', if gs = 0 then uZ (oV τ r t) t (rI τ (220 * r + k)) else oV τ r t)) : FOX ρ τ r k t w' gs := by
  unfold FOY at h
  unfold FOX
  rw [foS_s h0, h, e, hs]
theorem FOX.lab {ss ks js : List Nat} (h : FOY ρ σ r k t w) (h0 : 0 ≤ k) (hi : rI σ (220 * r + k) = rV ρ r k) (h13 : σ.2.1 3 (220 * r + k) = 13) (f : Fr ss ks js σ τ) (hf : ∀ k ∈ [3, 4, 5, 6, 7, 8], k ∉ ks) (hz : ∀ g, 0 ≤ g → g < 192 → τ.2.1 60 g = 0) : FOX ρ τ r k t w 0 := by
  have e0 : rV ρ r k 0 = 13 := by rw [← hi]; exact h13
  refine FOX.of h h0 rfl ?_
  unfold foT
  rw [if_pos e0, kn_z hz, if_pos rfl, ov_fr f hf, f.ri hf, hi]
  rfl
theorem FOX.oth (h : FOY ρ σ r k t w) (h0 : 0 ≤ k) (hi : rI σ (220 * r + k) = rV ρ r k) (h10 : 10 < σ.2.1 3 (220 * r + k)) (h13 : σ.2.1 3 (220 * r + k) ≠ 13) (hb : σ.2.1 3 (220 * r + k) = 12 → σ.2.1 6 (220 * r + k) = 2 → (knA σ (σ.2.1 8 (4 * (220 * r + k)))).1 ≠ 1) : FOX ρ σ r k t w 0 := by
  have e0 : rV ρ r k 0 = σ.2.1 3 (220 * r + k) := by rw [← hi]; rfl
  refine FOX.of h h0 rfl ?_
  unfold foT
  rw [e0, if_neg h13, if_pos rfl, ← hi]
  by_cases q : σ.2.1 3 (220 * r + k) = 12
  · rw [if_pos q]
    have e : foB (knA σ) (rI σ (220 * r + k)) = rI σ (220 * r + k) := by
      unfold foB
      refine dI_n (fun z => hb q z.1 ?_)
      have := z.2
      rw [ri4, Int.add_zero] at this
      exact this
    rw [show (knA σ, t, w, oV σ r t).1 = knA σ from rfl, e]
    rfl
  · rw [if_neg q, if_neg (by omega)]
    rfl
theorem FOX.bind (h : FOY ρ σ r k t w) (h0 : 0 ≤ k) (ht : t ≤ k) (hi : rI σ (220 * r + k) = rV ρ r k) (h12 : σ.2.1 3 (220 * r + k) = 12) (h2 : σ.2.1 6 (220 * r + k) = 2) {g : Int} (hg : σ.2.1 8 (4 * (220 * r + k)) = g) (hg2 : 0 ≤ g ∧ g < 192) (h1 : σ.2.1 60 g = 1) : FOX ρ (fArg (220 * r + k) 0 1 (σ.2.1 61 g) (sA 6 (220 * r + k) 1 σ)) r k t w 0 := by
  have e0 : rV ρ r k 0 = 12 := by rw [← hi]; exact h12
  have k1 := kn_1 (σ := σ) hg2.1 hg2.2
  have k2 := kn_2 (σ := σ) hg2.1 hg2.2 (by omega)
  have f9 : Fr [] [6, 7, 8] [] σ (fArg (220 * r + k) 0 1 (σ.2.1 61 g) (sA 6 (220 * r + k) 1 σ)) := Fr.trans (Fr.A Fr.rfl (by decide)) (fArg_fr.sub (by decide) (by decide) (by decide))
  refine FOX.of h h0 rfl ?_
  unfold foT
  rw [e0, if_neg (by decide), if_pos rfl, if_pos rfl, f9.kn (by decide), ov_off ((OFF.A (by decide)).trans (OFF.arg (by decide) (by decide))) (by omega), ri_arg0, ri_A6, ← hi]
  have e : foB (knA σ) (rI σ (220 * r + k)) = uZ (uZ (uZ (rI σ (220 * r + k)) 11 1) 3 1) 4 (σ.2.1 61 g) := by
    unfold foB
    rw [ri4, ri11, Int.add_zero, hg, k1, dI_y ⟨h2, h1⟩, k2]
  rw [show (knA σ, t, w, oV σ r t).1 = knA σ from rfl, e]
  rfl
theorem zer_ri {x : Int} : zer1 (rI σ x) ↔ σ.2.1 3 x = 9 ∧ σ.2.1 7 (4 * x) = 1 := by
  unfold zer1
  rw [ri0, ri3, Int.add_zero]
theorem FOX.no {w' : Int} (h : FOY ρ σ r k t w) (hi : FOI ρ σ r k ce) (h0 : 0 ≤ k) (hz : ¬ (σ.2.1 3 (220 * r + k) = 9 ∧ σ.2.1 7 (4 * (220 * r + k)) = 1)) (f : Fr [] [60, 61] [] σ τ) (hl : knA τ = lrn (rI σ (220 * r + k)) (knA σ)) (hc : (ce = 0 ∨ ce = 1) ∧ w' = w + ce) (h13 : rV ρ r k 0 ≠ 13 ∧ rV ρ r k 0 ≠ 12) : FOX ρ τ r k t w' 0 := by
  obtain ⟨i1, i2, i3⟩ := hi
  have nz : ¬ zer1 (rI σ (220 * r + k)) := fun q => hz (zer_ri.mp q)
  refine FOX.of h h0 rfl ?_
  unfold foT
  rw [if_neg h13.1, if_neg h13.2, if_pos i3, if_pos rfl]
  unfold foX
  simp only []
  rw [← i1, show foZ (rI σ (220 * r + k)) = rI σ (220 * r + k) from dI_n nz, dI_n (show ¬ (zer1 (rI σ (220 * r + k)) ∧ rI σ (220 * r + k) 4 ≠ 0) from fun z => nz z.1), dI_n (show ¬ (zer1 (rI σ (220 * r + k)) ∧ rI σ (220 * r + k) 4 ≠ 0) from fun z => nz z.1), hl, f.ri (by decide), ov_fr f (by decide)]
  have e : dI (foC (knA σ) (rV ρ r k) 4 ∨ five2 (foO (knA σ) (rV ρ r k) 4) ∨ zer1 (rI σ (220 * r + k))) (w + 1) w = w' := by
    rcases hc with ⟨q | q, e⟩
    · rw [dI_n (fun z => ?_)]
      · omega
      · have : ¬ ce = 1 := by omega
        rcases z with z | z | z
        · exact this (i2.mpr (Or.inl z))
        · exact this (i2.mpr (Or.inr z))
        · exact nz z
    · rw [dI_y ?_]
      · omega
      · rcases i2.mp q with z | z
        · exact Or.inl z
        · exact Or.inr (Or.inl z)
  rw [e]
  rfl
theorem FOX.yes (h : FOY ρ σ r k t w) (hi : FOI ρ σ r k ce) (h0 : 0 ≤ k) (ht : t ≤ k) (hz : σ.2.1 3 (220 * r + k) = 9 ∧ σ.2.1 7 (4 * (220 * r + k)) = 1) (f : Fr [] [60, 61] [] (fArg (220 * r + k) 0 0 0 (sA 3 (220 * r + k) 8 σ)) τ) (hl : knA τ = lrn (rI (fArg (220 * r + k) 0 0 0 (sA 3 (220 * r + k) 8 σ)) (220 * r + k)) (knA (fArg (220 * r + k) 0 0 0 (sA 3 (220 * r + k) 8 σ)))) (hg : (gs = 0 ∧ σ.2.1 8 (4 * (220 * r + k)) = 0) ∨ (gs = 1 ∧ σ.2.1 8 (4 * (220 * r + k)) ≠ 0)) (h13 : rV ρ r k 0 ≠ 13 ∧ rV ρ r k 0 ≠ 12) : FOX ρ τ r k t (w + 1) gs := by
  obtain ⟨i1, i2, i3⟩ := hi
  have yz : zer1 (rI σ (220 * r + k)) := zer_ri.mpr hz
  have f9 : Fr [] [3, 7, 8] [] σ (fArg (220 * r + k) 0 0 0 (sA 3 (220 * r + k) 8 σ)) := Fr.trans (Fr.A Fr.rfl (by decide)) (fArg_fr.sub (by decide) (by decide) (by decide))
  have ez : rI (fArg (220 * r + k) 0 0 0 (sA 3 (220 * r + k) 8 σ)) (220 * r + k) = foZ (rI σ (220 * r + k)) := by
    rw [ri_arg0, ri_A3]
    exact (dI_y yz).symm
  refine FOX.of h h0 rfl ?_
  unfold foT
  rw [if_neg h13.1, if_neg h13.2, if_pos i3]
  unfold foX
  simp only []
  rw [← i1, dI_y (Or.inr (Or.inr yz)), hl, ez, f9.kn (by decide), f.ri (by decide), ez, ov_fr f (by decide), ov_off ((OFF.A (by decide)).trans (OFF.arg (by decide) (by decide))) (by omega)]
  have e4 : rI σ (220 * r + k) 4 = σ.2.1 8 (4 * (220 * r + k)) := by rw [ri4, Int.add_zero]
  rcases hg with ⟨q, e⟩ | ⟨q, e⟩
  · rw [q, if_pos rfl, dI_n (show ¬ (zer1 (rI σ (220 * r + k)) ∧ rI σ (220 * r + k) 4 ≠ 0) from fun z => z.2 (by rw [e4]; exact e)), dI_n (show ¬ (zer1 (rI σ (220 * r + k)) ∧ rI σ (220 * r + k) 4 ≠ 0) from fun z => z.2 (by rw [e4]; exact e))]
    rfl
  · rw [q, if_neg (by decide), dI_y (show zer1 (rI σ (220 * r + k)) ∧ rI σ (220 * r + k) 4 ≠ 0 from ⟨yz, by rw [e4]; exact e⟩), dI_y (show zer1 (rI σ (220 * r + k)) ∧ rI σ (220 * r + k) 4 ≠ 0 from ⟨yz, by rw [e4]; exact e⟩), show t + (1 - 1) = t by omega]
theorem cpy_ri {x v : Int} : rI (fCpy x 1 v σ) x = cpyI (rI σ x) 1 v := by
  unfold fCpy cpyI
  rw [ri_arg1, ri_arg0, ri_A3]
theorem fCpy_fr {x v : Int} : Fr [] [3, 7, 8] [] σ (fCpy x 1 v σ) := Fr.trans (Fr.trans (Fr.A Fr.rfl (by decide)) (fArg_fr.sub (by decide) (by decide) (by decide))) (fArg_fr.sub (by decide) (by decide) (by decide))
theorem five_ri {x : Int} : five2 (rI σ x) ↔ 1 ≤ σ.2.1 3 x ∧ σ.2.1 3 x ≤ 5 ∧ σ.2.1 7 (4 * x) = 1 ∧ σ.2.1 7 (4 * x + 1) = 1 := by
  unfold five2
  rw [ri0, ri3, ri5, Int.add_zero]
theorem FOI.no (hi : rI σ (220 * r + k) = rV ρ r k) (h10 : σ.2.1 3 (220 * r + k) ≤ 10) (f : Fr [] [7, 8] [] σ τ) (hp : rI τ (220 * r + k) = foO (knA σ) (rI σ (220 * r + k)) 4 ∧ (ce = 1 ↔ foC (knA σ) (rI σ (220 * r + k)) 4)) (h5 : ¬ (1 ≤ τ.2.1 3 (220 * r + k) ∧ τ.2.1 3 (220 * r + k) ≤ 5 ∧ τ.2.1 7 (4 * (220 * r + k)) = 1 ∧ τ.2.1 7 (4 * (220 * r + k) + 1) = 1)) : FOI ρ τ r k ce := by
  have e := f.kn (by decide)
  have n5 : ¬ five2 (foO (knA σ) (rV ρ r k) 4) := fun q => h5 (five_ri.mp (by rw [hp.1, hi]; exact q))
  unfold FOI
  rw [e, hp.1, hi]
  refine ⟨(dI_n n5).symm, ?_, by rw [← hi]; exact h10⟩
  rw [hp.2, hi]
  exact ⟨Or.inl, fun q => q.elim id (fun z => absurd z n5)⟩
theorem FOI.yes {u v : Int} (hi : rI σ (220 * r + k) = rV ρ r k) (h10 : σ.2.1 3 (220 * r + k) ≤ 10) (f : Fr [] [7, 8] [] σ τ) (hp : rI τ (220 * r + k) = foO (knA σ) (rI σ (220 * r + k)) 4 ∧ (u = 1 ↔ foC (knA σ) (rI σ (220 * r + k)) 4)) (h5 : 1 ≤ τ.2.1 3 (220 * r + k) ∧ τ.2.1 3 (220 * r + k) ≤ 5 ∧ τ.2.1 7 (4 * (220 * r + k)) = 1 ∧ τ.2.1 7 (4 * (220 * r + k) + 1) = 1) (hv : v = wkd (τ.2.1 3 (220 * r + k)) (τ.2.1 8 (4 * (220 * r + k))) (τ.2.1 8 (4 * (220 * r + k) + 1))) : FOI ρ (fCpy (220 * r + k) 1 v τ) r k 1 := by
  have e := f.kn (by decide)
  have y5 : five2 (foO (knA σ) (rV ρ r k) 4) := by rw [← hi, ← hp.1]; exact five_ri.mpr h5
  unfold FOI
  rw [fCpy_fr.kn (by decide), e, cpy_ri, hv]
  refine ⟨?_, ⟨fun _ => Or.inr y5, fun _ => rfl⟩, by rw [← hi]; exact h10⟩
  unfold foA
  rw [dI_y y5, ← hi, ← hp.1, ri0, ri4, ri6, Int.add_zero]
end FOYS
theorem FOY.start {σ : MS} {r : Int} (hz : ∀ g, 0 ≤ g → g < 192 → σ.2.1 60 g = 0) : FOY σ σ r 0 0 0 := by
  unfold FOY
  rw [kn_z hz, ov_0]
  rfl
theorem FOY.fin {σ σ1 τ : MS} {r n t w : Int} (h : FOY σ1 τ r n t w) (e : rV σ1 r = rV σ r) (hn : n = σ.2.1 9 r) : ∃ K, foS (rV σ r) (σ.2.1 9 r).toNat = (K, (sA 9 r t τ).2.1 9 r, w, rV (sA 9 r t τ) r) := by
  refine ⟨knA τ, ?_⟩
  unfold FOY at h
  rw [e, hn] at h
  rw [h, show (sA 9 r t τ).2.1 9 r = t from ra_eq, rv_ov, show (sA 9 r t τ).2.1 9 r = t from ra_eq]
  rfl
end
section
set_option maxHeartbeats 1000000 in
set_option maxRecDepth 20000 in
theorem f_X12_worked (d : Nat) {b : Nat} {σ : MS} {k : Int} {x : Int} {y : Int} (h_k : -2147483648 ≤ k ∧ k ≤ 2147483647) (h_x : -2147483648 ≤ x ∧ x ≤ 2147483647) (h_y : -2147483648 ≤ y ∧ y ≤ 2147483647) (hk : 1 ≤ k ∧ k ≤ 5) : Tm (d + 1) m_X12_worked 0 b σ [(0, .int (iI k)), (1, .int (iI x)), (2, .int (iI y))] [] (fun ro σ2 => ∃ v : Int, ro = some (.int (iI v)) ∧ σ = σ2 ∧ (-2147483648 ≤ v ∧ v ≤ 2147483647) ∧ (v = wkd k x y)) := by
  refine tm_iload_n dX12_worked_0 rfl 0 rfl ?_
  by_cases h1 : k < 1 ∨ 4 < k
  · refine tm_tableOut (tgt := 55) dX12_worked_1 ⟨by omega, by omega⟩ h1 (by decide) ?_
    refine tm_iload_n dX12_worked_55 rfl 1 rfl ?_
    refine tm_iload_n dX12_worked_56 rfl 2 rfl ?_
    refine tm_icmp_ge (tgt := 64) dX12_worked_57 (by decide) ⟨by omega, by omega⟩ ⟨by omega, by omega⟩ (fun h2 => ?_) (fun h2 => ?_)
    · refine tm_iconst dX12_worked_64 ?_
      exact tm_iret rfl dX12_worked_65 (⟨_, rfl, rfl, by decide, by unfold wkd; (repeat' split) <;> first | rfl | omega⟩)
    · refine tm_iconst dX12_worked_60 ?_
      refine tm_goto (tgt := 65) dX12_worked_61 (by decide) ?_
      exact tm_iret rfl dX12_worked_65 (⟨_, rfl, rfl, by decide, by unfold wkd; (repeat' split) <;> first | rfl | omega⟩)
  · have h1c : k = 1 ∨ k = 2 ∨ k = 3 ∨ k = 4 := by omega
    rcases h1c with h1v | h1v | h1v | h1v
    · refine tm_tableIn (tgt := 32) dX12_worked_1 ⟨by omega, by omega⟩ (by omega) (by omega) (show _ = some (31) by rw [h1v]; rfl) (by decide) ?_
      refine tm_iload_n dX12_worked_32 rfl 1 rfl ?_
      refine tm_iload_n dX12_worked_33 rfl 2 rfl ?_
      refine tm_iadd dX12_worked_34 ?_
      exact tm_iret rfl dX12_worked_35 (⟨w32 (x + y), congrArg (fun q => some (Value.int q)) (iI_self _).symm, rfl, inR_toInt _, by unfold wkd; (repeat' split) <;> first | rfl | omega⟩)
    · refine tm_tableIn (tgt := 36) dX12_worked_1 ⟨by omega, by omega⟩ (by omega) (by omega) (show _ = some (35) by rw [h1v]; rfl) (by decide) ?_
      refine tm_iload_n dX12_worked_36 rfl 1 rfl ?_
      refine tm_iload_n dX12_worked_37 rfl 2 rfl ?_
      refine tm_isub dX12_worked_38 ?_
      exact tm_iret rfl dX12_worked_39 (⟨w32 (x - y), congrArg (fun q => some (Value.int q)) (iI_self _).symm, rfl, inR_toInt _, by unfold wkd; (repeat' split) <;> first | rfl | omega⟩)
    · refine tm_tableIn (tgt := 40) dX12_worked_1 ⟨by omega, by omega⟩ (by omega) (by omega) (show _ = some (39) by rw [h1v]; rfl) (by decide) ?_
      refine tm_iload_n dX12_worked_40 rfl 1 rfl ?_
      refine tm_iload_n dX12_worked_41 rfl 2 rfl ?_
      refine tm_imul dX12_worked_42 ?_
      exact tm_iret rfl dX12_worked_43 (⟨w32 (x * y), congrArg (fun q => some (Value.int q)) (iI_self _).symm, rfl, inR_toInt _, by unfold wkd; (repeat' split) <;> first | rfl | omega⟩)
    · refine tm_tableIn (tgt := 44) dX12_worked_1 ⟨by omega, by omega⟩ (by omega) (by omega) (show _ = some (43) by rw [h1v]; rfl) (by decide) ?_
      refine tm_iload_n dX12_worked_44 rfl 1 rfl ?_
      refine tm_iload_n dX12_worked_45 rfl 2 rfl ?_
      refine tm_icmp_ne (tgt := 53) dX12_worked_46 (by decide) ⟨by omega, by omega⟩ ⟨by omega, by omega⟩ (fun h3 => ?_) (fun h3 => ?_)
      · refine tm_iconst dX12_worked_53 ?_
        exact tm_iret rfl dX12_worked_54 (⟨_, rfl, rfl, by decide, by unfold wkd; (repeat' split) <;> first | rfl | omega⟩)
      · refine tm_iconst dX12_worked_49 ?_
        refine tm_goto (tgt := 54) dX12_worked_50 (by decide) ?_
        exact tm_iret rfl dX12_worked_54 (⟨_, rfl, rfl, by decide, by unfold wkd; (repeat' split) <;> first | rfl | omega⟩)
set_option maxHeartbeats 1000000 in
set_option maxRecDepth 20000 in
theorem f_forget (d : Nat) {b : Nat} {σ0 : MS} {post : Option Value → MS → Prop} (hx_22 : ∀ (g : Int) (σ : MS) , (Fr [] [60] [] σ0 σ) → (RG σ) → (KNW σ) → (∀ j, 0 ≤ j → j < 192 → σ.2.1 60 j = 0) → Tm (d + 1) m_X12_forgetAll 22 b σ [(1, .int (iI g)), (0, .ref b)] [] post) : ∀ (n : Nat) (g : Int) (σ : MS) , (Fr [] [60] [] σ0 σ) → (RG σ) → (0 ≤ g ∧ g ≤ 192) → (KNW σ) → (∀ j, 0 ≤ j → j < g → σ.2.1 60 j = 0) → (192 - g).toNat = n → Tm (d + 1) m_X12_forgetAll 2 b σ [(1, .int (iI g)), (0, .ref b)] [] post := by
  intro n
  induction n using Nat.strongRecOn with
  | _ n ih =>
    intro g σ hF hR h0 hkn hj hm
    refine tm_iload_n dX12_forgetAll_2 rfl 0 rfl ?_
    refine tm_sipush dX12_forgetAll_3 (by decide) ?_
    refine tm_icmp_ge (tgt := 22) dX12_forgetAll_6 (by decide) ⟨by omega, by omega⟩ ⟨by decide, by decide⟩ (fun h1 => ?_) (fun h1 => ?_)
    · exact tm_sub [0, 1] rfl (hx_22 (g) σ (Fr.rfl.trans (Fr.sub hF (by decide) (by decide) (by decide))) hR hkn (fun j a c => hj j a (by omega)))
    · refine tm_aload_n dX12_forgetAll_9 rfl 1 rfl ?_
      refine tm_get (k := 60) (v := .ref (b + 1 + 38)) lay_12 dX12_forgetAll_10 (by decide) fl12_133 rfl ?_
      refine tm_iload_n dX12_forgetAll_13 rfl 0 rfl ?_
      refine tm_iconst dX12_forgetAll_14 ?_
      refine tm_iast (z := g) (v := 0) dX12_forgetAll_15 (show mT[38]? = some (60, 0, 192) from rfl) (by omega) (by omega) (by decide) ?_
      refine tm_iinc (q0 := 0) (L' := [(1, .int (iI (g + 1))), (0, .ref b)]) dX12_forgetAll_16 rfl (by decide) rfl ?_
      refine tm_goto (tgt := 2) dX12_forgetAll_19 (by decide) ?_
      exact tm_sub [0, 1] rfl (ih _ (by omega) (g + 1) (sA 60 (g) (0) σ) ((Fr.rfl.trans (Fr.sub hF (by decide) (by decide) (by decide))).A (by decide)) (hR.A (by omega)) (by omega) (hkn.z (Or.inl rfl)) (fun j a c => by
          by_cases q : j = g
          · subst q; exact ra_eq
          · exact ra_ne q (hj j a (by omega))) rfl)
set_option maxHeartbeats 1000000 in
set_option maxRecDepth 20000 in
theorem f_X12_forgetAll (d : Nat) {b : Nat} {σ : MS} (hR : RG σ) (hkn : KNW σ) : Tm (d + 1) m_X12_forgetAll 0 b σ [(0, .ref b)] [] (fun ro σ2 => ro = none ∧ (Fr [] [60] [] σ σ2) ∧ (RG σ2) ∧ (KNW σ2) ∧ (∀ j, 0 ≤ j → j < 192 → σ2.2.1 60 j = 0)) := by
  refine tm_iconst dX12_forgetAll_0 ?_
  refine tm_istore_n (L' := [(1, .int (iI 0)), (0, .ref b)]) dX12_forgetAll_1 rfl (by decide) rfl ?_
  refine tm_sub [0, 1] rfl (f_forget (d) (σ0 := σ)  (fun g7 σ8 F3 R4 f5 f6 => ?_) _ (0) σ Fr.rfl hR (by omega) hkn (fun j a c => by omega) rfl)
  show Tm _ _ 22 b σ8 [(1, .int (iI g7)), (0, .ref b)] [] _
  exact tm_vret rfl dX12_forgetAll_22 (⟨rfl, (Fr.rfl.trans (Fr.sub F3 (by decide) (by decide) (by decide))), R4, f5, f6⟩)
set_option maxHeartbeats 1000000 in
set_option maxRecDepth 20000 in
theorem f_learn (d : Nat) {b : Nat} {σ0 : MS} {x : Int} {w : Int} {post : Option Value → MS → Prop} (hR0 : RG σ0) (h_w : -2147483648 ≤ w ∧ w ≤ 2147483647) (hx_78 : ∀ (g : Int) (σ : MS) , (Fr [] [60] [] σ0 σ) → (RG σ) → (KNW σ) → (LNG σ0 σ w 192) → Tm (d + 1) m_X12_learn 78 b σ [(3, .int (iI g)), (2, .int (iI w)), (0, .ref b), (1, .int (iI x))] [] post) : ∀ (n : Nat) (g : Int) (σ : MS) , (Fr [] [60] [] σ0 σ) → (RG σ) → (0 ≤ g ∧ g ≤ 192) → (KNW σ) → (LNG σ0 σ w g) → (192 - g).toNat = n → Tm (d + 1) m_X12_learn 29 b σ [(3, .int (iI g)), (2, .int (iI w)), (0, .ref b), (1, .int (iI x))] [] post := by
  intro n
  induction n using Nat.strongRecOn with
  | _ n ih =>
    intro g σ hF hR h0 hkn hln hm
    refine tm_iload_n dX12_learn_29 rfl 0 rfl ?_
    refine tm_sipush dX12_learn_30 (by decide) ?_
    refine tm_icmp_ge (tgt := 78) dX12_learn_33 (by decide) ⟨by omega, by omega⟩ ⟨by decide, by decide⟩ (fun h1 => ?_) (fun h1 => ?_)
    · exact tm_sub [0, 1, 2, 3] rfl (hx_78 (g) σ (Fr.rfl.trans (Fr.sub hF (by decide) (by decide) (by decide))) hR hkn (by rw [show (192 : Int) = g by omega]; exact hln))
    · refine tm_aload_n dX12_learn_36 rfl 2 rfl ?_
      refine tm_get (k := 60) (v := .ref (b + 1 + 38)) lay_12 dX12_learn_37 (by decide) fl12_133 rfl ?_
      refine tm_iload_n dX12_learn_40 rfl 0 rfl ?_
      refine tm_aload_n dX12_learn_41 rfl 2 rfl ?_
      refine tm_get (k := 60) (v := .ref (b + 1 + 38)) lay_12 dX12_learn_42 (by decide) fl12_133 rfl ?_
      refine tm_iload_n dX12_learn_45 rfl 0 rfl ?_
      refine tm_iald (z := g) (v := σ.2.1 60 g) dX12_learn_46 (show mT[38]? = some (60, 0, 192) from rfl) (by omega) (by omega) (by decide) (rfl) ?_
      have g2 := RG.a hR 60 (g)
      refine tm_iconst dX12_learn_47 ?_
      refine tm_icmp_ne (tgt := 65) dX12_learn_48 (by decide) ⟨by omega, by omega⟩ ⟨by decide, by decide⟩ (fun h3 => ?_) (fun h3 => ?_)
      · refine tm_aload_n dX12_learn_65 rfl 2 rfl ?_
        refine tm_get (k := 60) (v := .ref (b + 1 + 38)) lay_12 dX12_learn_66 (by decide) fl12_133 rfl ?_
        refine tm_iload_n dX12_learn_69 rfl 0 rfl ?_
        refine tm_iald (z := g) (v := σ.2.1 60 g) dX12_learn_70 (show mT[38]? = some (60, 0, 192) from rfl) (by omega) (by omega) (by decide) (rfl) ?_
        have g4 := RG.a hR 60 (g)
        refine tm_iast (z := g) (v := σ.2.1 60 g) dX12_learn_71 (show mT[38]? = some (60, 0, 192) from rfl) (by omega) (by omega) (by decide) ?_
        refine tm_iinc (q0 := 0) (L' := [(3, .int (iI (g + 1))), (2, .int (iI w)), (0, .ref b), (1, .int (iI x))]) dX12_learn_72 rfl (by decide) rfl ?_
        refine tm_goto (tgt := 29) dX12_learn_75 (by decide) ?_
        exact tm_sub [0, 1, 2, 3] rfl (ih _ (by omega) (g + 1) (sA 60 (g) (σ.2.1 60 g) σ) ((Fr.rfl.trans (Fr.sub hF (by decide) (by decide) (by decide))).A (by decide)) (hR.A (by omega)) (by omega) (hkn.z (by omega)) (hln.put (by omega) ⟨fun z => by omega, fun z => by omega⟩) rfl)
      · refine tm_aload_n dX12_learn_51 rfl 2 rfl ?_
        refine tm_get (k := 61) (v := .ref (b + 1 + 39)) lay_12 dX12_learn_52 (by decide) fl12_136 rfl ?_
        refine tm_iload_n dX12_learn_55 rfl 0 rfl ?_
        refine tm_iald (z := g) (v := σ0.2.1 61 g) dX12_learn_56 (show mT[39]? = some (61, 0, 192) from rfl) (by omega) (by omega) (by decide) (ra_F hF (by decide) (rfl)) ?_
        have g5 := RG.a hR0 61 (g)
        refine tm_iload_n dX12_learn_57 rfl 1 rfl ?_
        refine tm_icmp_ne (tgt := 65) dX12_learn_58 (by decide) ⟨by omega, by omega⟩ ⟨by omega, by omega⟩ (fun h6 => ?_) (fun h6 => ?_)
        · refine tm_aload_n dX12_learn_65 rfl 2 rfl ?_
          refine tm_get (k := 60) (v := .ref (b + 1 + 38)) lay_12 dX12_learn_66 (by decide) fl12_133 rfl ?_
          refine tm_iload_n dX12_learn_69 rfl 0 rfl ?_
          refine tm_iald (z := g) (v := σ.2.1 60 g) dX12_learn_70 (show mT[38]? = some (60, 0, 192) from rfl) (by omega) (by omega) (by decide) (rfl) ?_
          have g7 := RG.a hR 60 (g)
          refine tm_iast (z := g) (v := σ.2.1 60 g) dX12_learn_71 (show mT[38]? = some (60, 0, 192) from rfl) (by omega) (by omega) (by decide) ?_
          refine tm_iinc (q0 := 0) (L' := [(3, .int (iI (g + 1))), (2, .int (iI w)), (0, .ref b), (1, .int (iI x))]) dX12_learn_72 rfl (by decide) rfl ?_
          refine tm_goto (tgt := 29) dX12_learn_75 (by decide) ?_
          exact tm_sub [0, 1, 2, 3] rfl (ih _ (by omega) (g + 1) (sA 60 (g) (σ.2.1 60 g) σ) ((Fr.rfl.trans (Fr.sub hF (by decide) (by decide) (by decide))).A (by decide)) (hR.A (by omega)) (by omega) (hkn.z (by omega)) (hln.put (by omega) ⟨fun z => by omega, fun z => by omega⟩) rfl)
        · refine tm_iconst dX12_learn_61 ?_
          refine tm_goto (tgt := 71) dX12_learn_62 (by decide) ?_
          refine tm_iast (z := g) (v := 0) dX12_learn_71 (show mT[38]? = some (60, 0, 192) from rfl) (by omega) (by omega) (by decide) ?_
          refine tm_iinc (q0 := 0) (L' := [(3, .int (iI (g + 1))), (2, .int (iI w)), (0, .ref b), (1, .int (iI x))]) dX12_learn_72 rfl (by decide) rfl ?_
          refine tm_goto (tgt := 29) dX12_learn_75 (by decide) ?_
          exact tm_sub [0, 1, 2, 3] rfl (ih _ (by omega) (g + 1) (sA 60 (g) (0) σ) ((Fr.rfl.trans (Fr.sub hF (by decide) (by decide) (by decide))).A (by decide)) (hR.A (by omega)) (by omega) (hkn.z (by omega)) (hln.put (by omega) ⟨fun z => by omega, fun z => by omega⟩) rfl)
set_option maxHeartbeats 1000000 in
set_option maxRecDepth 20000 in
theorem f_X12_learn (d : Nat) {b : Nat} {σ : MS} {x : Int} {F : Int} (hx : 0 ≤ x ∧ x < 2860) (hR : RG σ) (hkn : KNW σ) (hok : OKI σ F x) : Tm (d + 2) m_X12_learn 0 b σ [(0, .ref b), (1, .int (iI x))] [] (fun ro σ2 => ro = none ∧ (Fr [] [60, 61] [] σ σ2) ∧ (RG σ2) ∧ (KNW σ2) ∧ (knA σ2 = lrn (rI σ x) (knA σ))) := by
  have q2 := hok.2.1
  have q3 := hok.2.2.2.2.2.2.2.1 0 (by decide) (by decide)
  rw [Int.add_zero] at q3
  refine tm_aload_n dX12_learn_0 rfl 0 rfl ?_
  refine tm_get (k := 3) (v := .ref (b + 1 + 1)) lay_12 dX12_learn_1 (by decide) fl12_13 rfl ?_
  refine tm_iload_n dX12_learn_4 rfl 1 rfl ?_
  refine tm_iald (z := x) (v := σ.2.1 3 x) dX12_learn_5 (show mT[1]? = some (3, 0, 2860) from rfl) (by omega) (by omega) (by decide) (rfl) ?_
  have g1 := RG.a hR 3 (x)
  refine tm_callS (M := m_X12_learn) (pc := 6) (ix := 192) (M' := m_X12_writes) (As := [.int (iI (σ.2.1 3 x))]) (rest := []) dX12_learn_6 ok_X12_writes stt_X12_writes ml12_192 np_X12_writes rfl (Nat.le_of_ble_eq_true rfl) (Nat.le_of_ble_eq_true rfl) rfl (c_X12_writes (d) (σ := σ) (x := σ.2.1 3 x) (by omega)) (fun r2 σ3 hp => ?_)
  obtain ⟨v4, rfl, rfl, f5, f6⟩ := hp
  show Tm _ _ 9 b σ [(0, .ref b), (1, .int (iI x))] [.int (iI v4)] _
  refine tm_if_ne (tgt := 13) dX12_learn_9 (by decide) ⟨by omega, by omega⟩ (fun h7 => ?_) (fun h7 => ?_)
  · refine tm_aload_n dX12_learn_13 rfl 0 rfl ?_
    refine tm_get (k := 4) (v := .ref (b + 1 + 2)) lay_12 dX12_learn_14 (by decide) fl12_17 rfl ?_
    refine tm_iload_n dX12_learn_17 rfl 1 rfl ?_
    refine tm_iald (z := x) (v := σ.2.1 4 x) dX12_learn_18 (show mT[2]? = some (4, 0, 2860) from rfl) (by omega) (by omega) (by decide) (rfl) ?_
    have g8 := RG.a hR 4 (x)
    refine tm_istore_n (L' := [(2, .int (iI (σ.2.1 4 x))), (0, .ref b), (1, .int (iI x))]) dX12_learn_19 rfl (by decide) rfl ?_
    refine tm_aload_n dX12_learn_20 rfl 1 rfl ?_
    refine tm_get (k := 60) (v := .ref (b + 1 + 38)) lay_12 dX12_learn_21 (by decide) fl12_133 rfl ?_
    refine tm_iload_n dX12_learn_24 rfl 0 rfl ?_
    refine tm_iconst dX12_learn_25 ?_
    refine tm_iast (z := σ.2.1 4 x) (v := 0) dX12_learn_26 (show mT[38]? = some (60, 0, 192) from rfl) (by omega) (by omega) (by decide) ?_
    refine tm_iconst dX12_learn_27 ?_
    refine tm_istore_n (L' := [(3, .int (iI 0)), (2, .int (iI (σ.2.1 4 x))), (0, .ref b), (1, .int (iI x))]) dX12_learn_28 rfl (by decide) rfl ?_
    refine tm_sub [0, 1, 2, 3] rfl (f_learn (d + 1) (σ0 := (sA 60 (σ.2.1 4 x) (0) σ)) (x := x) (w := σ.2.1 4 x) (hR.A (by omega)) (by omega) (fun g15 σ16 F11 R12 f13 f14 => ?_) _ (0) (sA 60 (σ.2.1 4 x) (0) σ) Fr.rfl (hR.A (by omega)) (by omega) (hkn.z (by omega)) LNG.start rfl)
    show Tm _ _ 78 b σ16 [(3, .int (iI g15)), (2, .int (iI (σ.2.1 4 x))), (0, .ref b), (1, .int (iI x))] [] _
    have hkn1 := f13
    have hln1 := f14
    refine tm_aload_n dX12_learn_78 rfl 2 rfl ?_
    refine tm_get (k := 3) (v := .ref (b + 1 + 1)) lay_12 dX12_learn_79 (by decide) fl12_13 rfl ?_
    refine tm_iload_n dX12_learn_82 rfl 3 rfl ?_
    refine tm_iald (z := x) (v := σ.2.1 3 x) dX12_learn_83 (show mT[1]? = some (3, 0, 2860) from rfl) (by omega) (by omega) (by decide) (ra_F F11 (by decide) (ra_o (by decide) (rfl))) ?_
    have g17 := RG.a hR 3 (x)
    refine tm_if_ne (tgt := 139) dX12_learn_84 (by decide) ⟨by omega, by omega⟩ (fun h18 => ?_) (fun h18 => ?_)
    · exact tm_vret rfl dX12_learn_139 (⟨rfl, ((Fr.rfl.A (by decide)).trans (Fr.sub F11 (by decide) (by decide) (by decide))), R12, hkn1, lrn_w0 (x := x) hln1 (by rw [F11.2.1 61 (by decide)]; rfl) ⟨by omega, rfl, by omega, by omega⟩ (fun z => by omega)⟩)
    · refine tm_aload_n dX12_learn_87 rfl 2 rfl ?_
      refine tm_get (k := 7) (v := .ref (b + 1 + 5)) lay_12 dX12_learn_88 (by decide) fl12_26 rfl ?_
      refine tm_iconst dX12_learn_91 ?_
      refine tm_iload_n dX12_learn_92 rfl 3 rfl ?_
      refine tm_imul dX12_learn_93 ?_
      refine tm_iald (z := 4 * x) (v := σ.2.1 7 (4 * x)) dX12_learn_94 (show mT[5]? = some (7, 0, 11440) from rfl) (by omega) (by omega) (by decide) (ra_F F11 (by decide) (ra_o (by decide) (rfl))) ?_
      have g19 := RG.a hR 7 (4 * x)
      refine tm_iconst dX12_learn_95 ?_
      refine tm_icmp_ne (tgt := 111) dX12_learn_96 (by decide) ⟨by omega, by omega⟩ ⟨by decide, by decide⟩ (fun h20 => ?_) (fun h20 => ?_)
      · refine tm_aload_n dX12_learn_111 rfl 2 rfl ?_
        refine tm_get (k := 60) (v := .ref (b + 1 + 38)) lay_12 dX12_learn_112 (by decide) fl12_133 rfl ?_
        refine tm_iload_n dX12_learn_115 rfl 1 rfl ?_
        refine tm_aload_n dX12_learn_116 rfl 2 rfl ?_
        refine tm_get (k := 7) (v := .ref (b + 1 + 5)) lay_12 dX12_learn_117 (by decide) fl12_26 rfl ?_
        refine tm_iconst dX12_learn_120 ?_
        refine tm_iload_n dX12_learn_121 rfl 3 rfl ?_
        refine tm_imul dX12_learn_122 ?_
        refine tm_iald (z := 4 * x) (v := σ.2.1 7 (4 * x)) dX12_learn_123 (show mT[5]? = some (7, 0, 11440) from rfl) (by omega) (by omega) (by decide) (ra_F F11 (by decide) (ra_o (by decide) (rfl))) ?_
        have g21 := RG.a hR 7 (4 * x)
        refine tm_iast (z := σ.2.1 4 x) (v := σ.2.1 7 (4 * x)) dX12_learn_124 (show mT[38]? = some (60, 0, 192) from rfl) (by omega) (by omega) (by decide) ?_
        refine tm_aload_n dX12_learn_125 rfl 2 rfl ?_
        refine tm_get (k := 61) (v := .ref (b + 1 + 39)) lay_12 dX12_learn_126 (by decide) fl12_136 rfl ?_
        refine tm_iload_n dX12_learn_129 rfl 1 rfl ?_
        refine tm_aload_n dX12_learn_130 rfl 2 rfl ?_
        refine tm_get (k := 8) (v := .ref (b + 1 + 6)) lay_12 dX12_learn_131 (by decide) fl12_29 rfl ?_
        refine tm_iconst dX12_learn_134 ?_
        refine tm_iload_n dX12_learn_135 rfl 3 rfl ?_
        refine tm_imul dX12_learn_136 ?_
        refine tm_iald (z := 4 * x) (v := σ.2.1 8 (4 * x)) dX12_learn_137 (show mT[6]? = some (8, 0, 11440) from rfl) (by omega) (by omega) (by decide) (ra_o (by decide) (ra_F F11 (by decide) (ra_o (by decide) (rfl)))) ?_
        have g22 := RG.a hR 8 (4 * x)
        refine tm_iast (z := σ.2.1 4 x) (v := σ.2.1 8 (4 * x)) dX12_learn_138 (show mT[39]? = some (61, 0, 192) from rfl) (by omega) (by omega) (by decide) ?_
        exact tm_vret rfl dX12_learn_139 (⟨rfl, ((((Fr.rfl.A (by decide)).trans (Fr.sub F11 (by decide) (by decide) (by decide))).A (by decide)).A (by decide)), ((R12.A (by omega)).A (by omega)), hkn1.kv (by omega) (by omega), lrn_kv (x := x) hln1 (by rw [F11.2.1 61 (by decide)]; rfl) ⟨by omega, rfl, by omega, by omega⟩ (by omega) ⟨rfl, rfl⟩ (fun z => by omega)⟩)
      · refine tm_aload_n dX12_learn_99 rfl 2 rfl ?_
        refine tm_get (k := 8) (v := .ref (b + 1 + 6)) lay_12 dX12_learn_100 (by decide) fl12_29 rfl ?_
        refine tm_iconst dX12_learn_103 ?_
        refine tm_iload_n dX12_learn_104 rfl 3 rfl ?_
        refine tm_imul dX12_learn_105 ?_
        refine tm_iald (z := 4 * x) (v := σ.2.1 8 (4 * x)) dX12_learn_106 (show mT[6]? = some (8, 0, 11440) from rfl) (by omega) (by omega) (by decide) (ra_F F11 (by decide) (ra_o (by decide) (rfl))) ?_
        have g23 := RG.a hR 8 (4 * x)
        refine tm_iload_n dX12_learn_107 rfl 1 rfl ?_
        refine tm_icmp_eq (tgt := 139) dX12_learn_108 (by decide) ⟨by omega, by omega⟩ ⟨by omega, by omega⟩ (fun h24 => ?_) (fun h24 => ?_)
        · exact tm_vret rfl dX12_learn_139 (⟨rfl, ((Fr.rfl.A (by decide)).trans (Fr.sub F11 (by decide) (by decide) (by decide))), R12, hkn1, lrn_w0 (x := x) hln1 (by rw [F11.2.1 61 (by decide)]; rfl) ⟨by omega, rfl, by omega, by omega⟩ (fun z => by omega)⟩)
        · refine tm_aload_n dX12_learn_111 rfl 2 rfl ?_
          refine tm_get (k := 60) (v := .ref (b + 1 + 38)) lay_12 dX12_learn_112 (by decide) fl12_133 rfl ?_
          refine tm_iload_n dX12_learn_115 rfl 1 rfl ?_
          refine tm_aload_n dX12_learn_116 rfl 2 rfl ?_
          refine tm_get (k := 7) (v := .ref (b + 1 + 5)) lay_12 dX12_learn_117 (by decide) fl12_26 rfl ?_
          refine tm_iconst dX12_learn_120 ?_
          refine tm_iload_n dX12_learn_121 rfl 3 rfl ?_
          refine tm_imul dX12_learn_122 ?_
          refine tm_iald (z := 4 * x) (v := σ.2.1 7 (4 * x)) dX12_learn_123 (show mT[5]? = some (7, 0, 11440) from rfl) (by omega) (by omega) (by decide) (ra_F F11 (by decide) (ra_o (by decide) (rfl))) ?_
          have g25 := RG.a hR 7 (4 * x)
          refine tm_iast (z := σ.2.1 4 x) (v := σ.2.1 7 (4 * x)) dX12_learn_124 (show mT[38]? = some (60, 0, 192) from rfl) (by omega) (by omega) (by decide) ?_
          refine tm_aload_n dX12_learn_125 rfl 2 rfl ?_
          refine tm_get (k := 61) (v := .ref (b + 1 + 39)) lay_12 dX12_learn_126 (by decide) fl12_136 rfl ?_
          refine tm_iload_n dX12_learn_129 rfl 1 rfl ?_
          refine tm_aload_n dX12_learn_130 rfl 2 rfl ?_
          refine tm_get (k := 8) (v := .ref (b + 1 + 6)) lay_12 dX12_learn_131 (by decide) fl12_29 rfl ?_
          refine tm_iconst dX12_learn_134 ?_
          refine tm_iload_n dX12_learn_135 rfl 3 rfl ?_
          refine tm_imul dX12_learn_136 ?_
          refine tm_iald (z := 4 * x) (v := σ.2.1 8 (4 * x)) dX12_learn_137 (show mT[6]? = some (8, 0, 11440) from rfl) (by omega) (by omega) (by decide) (ra_o (by decide) (ra_F F11 (by decide) (ra_o (by decide) (rfl)))) ?_
          have g26 := RG.a hR 8 (4 * x)
          refine tm_iast (z := σ.2.1 4 x) (v := σ.2.1 8 (4 * x)) dX12_learn_138 (show mT[39]? = some (61, 0, 192) from rfl) (by omega) (by omega) (by decide) ?_
          exact tm_vret rfl dX12_learn_139 (⟨rfl, ((((Fr.rfl.A (by decide)).trans (Fr.sub F11 (by decide) (by decide) (by decide))).A (by decide)).A (by decide)), ((R12.A (by omega)).A (by omega)), hkn1.kv (by omega) (by omega), lrn_kv (x := x) hln1 (by rw [F11.2.1 61 (by decide)]; rfl) ⟨by omega, rfl, by omega, by omega⟩ (by omega) ⟨rfl, rfl⟩ (fun z => by omega)⟩)
  · exact tm_vret rfl dX12_learn_12 (⟨rfl, Fr.rfl, hR, hkn, lrn_no (by omega)⟩)
set_option maxHeartbeats 1000000 in
set_option maxRecDepth 20000 in
theorem f_putsIn (d : Nat) {b : Nat} {σ0 : MS} {x : Int} {F : Int} {post : Option Value → MS → Prop} (hx : 0 ≤ x ∧ x < 2860) (hR0 : RG σ0) (hpar : PAR σ0) (hkn : KNW σ0) (hact : σ0.2.1 3 x ≤ 10) (hx_77 : ∀ (w : Int) (i : Int) (σ : MS) , (Fr [] [7, 8] [] σ0 σ) → (RG σ) → (w = 0 ∨ w = 1) → (OKI σ F x) → (OFF x σ0 σ) → (rI σ x = foO (knA σ0) (rI σ0 x) 4 ∧ (w = 1 ↔ foC (knA σ0) (rI σ0 x) 4)) → Tm (d + 4) m_X12_putsIn 77 b σ [(3, .int (iI i)), (2, .int (iI w)), (0, .ref b), (1, .int (iI x))] [] post) : ∀ (n : Nat) (w : Int) (i : Int) (σ : MS) , (Fr [] [7, 8] [] σ0 σ) → (RG σ) → ((w = 0 ∨ w = 1) ∧ 0 ≤ i ∧ i ≤ 4) → (OKI σ F x) → (OFF x σ0 σ) → (rI σ x = foO (knA σ0) (rI σ0 x) i ∧ (w = 1 ↔ foC (knA σ0) (rI σ0 x) i)) → (4 - i).toNat = n → Tm (d + 4) m_X12_putsIn 4 b σ [(3, .int (iI i)), (2, .int (iI w)), (0, .ref b), (1, .int (iI x))] [] post := by
  intro n
  induction n using Nat.strongRecOn with
  | _ n ih =>
    intro w i σ hF hR h0 hok hff hfo hm
    have q3 : σ.2.1 3 = σ0.2.1 3 := hF.2.1 3 (by decide)
    refine tm_iload_n dX12_putsIn_4 rfl 0 rfl ?_
    refine tm_aload_n dX12_putsIn_5 rfl 2 rfl ?_
    refine tm_iload_n dX12_putsIn_6 rfl 3 rfl ?_
    refine tm_callV (M := m_X12_putsIn) (pc := 7) (ix := 199) (M' := m_X12_args) (As := [.int (iI x)]) (rest := [.int (iI i)]) dX12_putsIn_7 ok_X12_args im_X12_args se_X12_args ml12_199 np_X12_args rfl rfl (Nat.le_of_ble_eq_true rfl) (Nat.le_of_ble_eq_true rfl) rfl (c_X12_args (d) (σ := σ) (x := x) (by omega) hR hok.2.2.2.2.2.2.1 (hpar.fr hF (by decide))) (fun r1 σ2 hp => ?_)
    obtain ⟨v3, rfl, rfl, f4, f5⟩ := hp
    show Tm _ _ 10 b σ [(3, .int (iI i)), (2, .int (iI w)), (0, .ref b), (1, .int (iI x))] [.int (iI v3), .int (iI i)] _
    refine tm_icmp_ge (tgt := 77) dX12_putsIn_10 (by decide) ⟨by omega, by omega⟩ ⟨by omega, by omega⟩ (fun h6 => ?_) (fun h6 => ?_)
    · exact tm_sub [0, 1, 2, 3] rfl (hx_77 (w) (i) σ (Fr.rfl.trans (Fr.sub hF (by decide) (by decide) (by decide))) hR (by omega) hok hff (pi_end hfo (by omega) (by omega) (fun j a b q => by have e := (hok.2.2.2.2.2.2.2.1 j (by omega) b).2 q; omega)))
    · have q2 := hok.2.2.2.2.2.2.2.1 i (by omega) (by omega)
      refine tm_aload_n dX12_putsIn_13 rfl 2 rfl ?_
      refine tm_get (k := 8) (v := .ref (b + 1 + 6)) lay_12 dX12_putsIn_14 (by decide) fl12_29 rfl ?_
      refine tm_iconst dX12_putsIn_17 ?_
      refine tm_iload_n dX12_putsIn_18 rfl 3 rfl ?_
      refine tm_imul dX12_putsIn_19 ?_
      refine tm_iload_n dX12_putsIn_20 rfl 0 rfl ?_
      refine tm_iadd dX12_putsIn_21 ?_
      refine tm_iald (z := (4 * x) + i) (v := σ.2.1 8 ((4 * x) + i)) dX12_putsIn_22 (show mT[6]? = some (8, 0, 11440) from rfl) (by omega) (by omega) (by decide) (rfl) ?_
      have g7 := RG.a hR 8 ((4 * x) + i)
      refine tm_istore (L' := [(4, .int (iI (σ.2.1 8 ((4 * x) + i)))), (3, .int (iI i)), (2, .int (iI w)), (0, .ref b), (1, .int (iI x))]) dX12_putsIn_23 (by decide) rfl ?_
      refine tm_aload_n dX12_putsIn_25 rfl 3 rfl ?_
      refine tm_get (k := 7) (v := .ref (b + 1 + 5)) lay_12 dX12_putsIn_26 (by decide) fl12_26 rfl ?_
      refine tm_iconst dX12_putsIn_29 ?_
      refine tm_iload_n dX12_putsIn_30 rfl 4 rfl ?_
      refine tm_imul dX12_putsIn_31 ?_
      refine tm_iload_n dX12_putsIn_32 rfl 1 rfl ?_
      refine tm_iadd dX12_putsIn_33 ?_
      refine tm_iald (z := (4 * x) + i) (v := σ.2.1 7 ((4 * x) + i)) dX12_putsIn_34 (show mT[5]? = some (7, 0, 11440) from rfl) (by omega) (by omega) (by decide) (rfl) ?_
      have g8 := RG.a hR 7 ((4 * x) + i)
      refine tm_iconst dX12_putsIn_35 ?_
      refine tm_icmp_ne (tgt := 71) dX12_putsIn_36 (by decide) ⟨by omega, by omega⟩ ⟨by decide, by decide⟩ (fun h10 => ?_) (fun h10 => ?_)
      · refine tm_iinc (q0 := 1) (L' := [(3, .int (iI (i + 1))), (4, .int (iI (σ.2.1 8 ((4 * x) + i)))), (2, .int (iI w)), (0, .ref b), (1, .int (iI x))]) dX12_putsIn_71 rfl (by decide) rfl ?_
        refine tm_goto (tgt := 4) dX12_putsIn_74 (by decide) ?_
        exact tm_sub [0, 2, 3, 4] rfl (ih _ (by omega) (w) (i + 1) σ (Fr.rfl.trans (Fr.sub hF (by decide) (by decide) (by decide))) hR (by omega) hok hff (pi_no hfo (by omega) (by omega) (fun z => by have e := (q2.2 z.1).1; have z2 := z.2; rw [kn_1 (by omega) (by omega)] at z2; omega)) rfl)
      · refine tm_aload_n dX12_putsIn_39 rfl 3 rfl ?_
        refine tm_get (k := 60) (v := .ref (b + 1 + 38)) lay_12 dX12_putsIn_40 (by decide) fl12_133 rfl ?_
        refine tm_iload dX12_putsIn_43 0 rfl ?_
        refine tm_iald (z := σ.2.1 8 ((4 * x) + i)) (v := σ0.2.1 60 (σ.2.1 8 ((4 * x) + i))) dX12_putsIn_45 (show mT[38]? = some (60, 0, 192) from rfl) (by omega) (by omega) (by decide) (ra_F hF (by decide) (rfl)) ?_
        have g11 := RG.a hR0 60 (σ.2.1 8 ((4 * x) + i))
        have := hkn (σ.2.1 8 ((4 * x) + i))
        refine tm_if_eq (tgt := 71) dX12_putsIn_46 (by decide) ⟨by omega, by omega⟩ (fun h12 => ?_) (fun h12 => ?_)
        · refine tm_iinc (q0 := 1) (L' := [(3, .int (iI (i + 1))), (4, .int (iI (σ.2.1 8 ((4 * x) + i)))), (2, .int (iI w)), (0, .ref b), (1, .int (iI x))]) dX12_putsIn_71 rfl (by decide) rfl ?_
          refine tm_goto (tgt := 4) dX12_putsIn_74 (by decide) ?_
          exact tm_sub [0, 2, 3, 4] rfl (ih _ (by omega) (w) (i + 1) σ (Fr.rfl.trans (Fr.sub hF (by decide) (by decide) (by decide))) hR (by omega) hok hff (pi_no hfo (by omega) (by omega) (fun z => by have e := (q2.2 z.1).1; have z2 := z.2; rw [kn_1 (by omega) (by omega)] at z2; omega)) rfl)
        · refine tm_aload_n dX12_putsIn_49 rfl 3 rfl ?_
          refine tm_iload_n dX12_putsIn_50 rfl 4 rfl ?_
          refine tm_iload_n dX12_putsIn_51 rfl 1 rfl ?_
          refine tm_aload_n dX12_putsIn_52 rfl 3 rfl ?_
          refine tm_get (k := 60) (v := .ref (b + 1 + 38)) lay_12 dX12_putsIn_53 (by decide) fl12_133 rfl ?_
          refine tm_iload dX12_putsIn_56 0 rfl ?_
          refine tm_iald (z := σ.2.1 8 ((4 * x) + i)) (v := σ0.2.1 60 (σ.2.1 8 ((4 * x) + i))) dX12_putsIn_58 (show mT[38]? = some (60, 0, 192) from rfl) (by omega) (by omega) (by decide) (ra_F hF (by decide) (rfl)) ?_
          have g13 := RG.a hR0 60 (σ.2.1 8 ((4 * x) + i))
          have := hkn (σ.2.1 8 ((4 * x) + i))
          refine tm_aload_n dX12_putsIn_59 rfl 3 rfl ?_
          refine tm_get (k := 61) (v := .ref (b + 1 + 39)) lay_12 dX12_putsIn_60 (by decide) fl12_136 rfl ?_
          refine tm_iload dX12_putsIn_63 0 rfl ?_
          refine tm_iald (z := σ.2.1 8 ((4 * x) + i)) (v := σ0.2.1 61 (σ.2.1 8 ((4 * x) + i))) dX12_putsIn_65 (show mT[39]? = some (61, 0, 192) from rfl) (by omega) (by omega) (by decide) (ra_F hF (by decide) (rfl)) ?_
          have g14 := RG.a hR0 61 (σ.2.1 8 ((4 * x) + i))
          refine tm_callV (M := m_X12_putsIn) (pc := 66) (ix := 298) (M' := m_X12_setArg) (As := [.int (iI x), .int (iI i), .int (iI (σ0.2.1 60 (σ.2.1 8 ((4 * x) + i)))), .int (iI (σ0.2.1 61 (σ.2.1 8 ((4 * x) + i))))]) (rest := []) dX12_putsIn_66 ok_X12_setArg im_X12_setArg se_X12_setArg ml12_298 np_X12_setArg rfl rfl (Nat.le_of_ble_eq_true rfl) (Nat.le_of_ble_eq_true rfl) rfl (c_X12_setArg (d + 2) (σ := σ) (x := x) (i := i) (k := σ0.2.1 60 (σ.2.1 8 ((4 * x) + i))) (w := σ0.2.1 61 (σ.2.1 8 ((4 * x) + i))) (by omega)) (fun r15 σ16 hp => ?_)
          obtain ⟨rfl, f18⟩ := hp
          subst f18
          show Tm _ _ 69 b (fArg (x) (i) (σ0.2.1 60 (σ.2.1 8 ((4 * x) + i))) (σ0.2.1 61 (σ.2.1 8 ((4 * x) + i))) σ) [(4, .int (iI (σ.2.1 8 ((4 * x) + i)))), (3, .int (iI i)), (2, .int (iI w)), (0, .ref b), (1, .int (iI x))] [] _
          refine tm_iconst dX12_putsIn_69 ?_
          refine tm_istore_n (L' := [(2, .int (iI 1)), (4, .int (iI (σ.2.1 8 ((4 * x) + i)))), (3, .int (iI i)), (0, .ref b), (1, .int (iI x))]) dX12_putsIn_70 rfl (by decide) rfl ?_
          refine tm_iinc (q0 := 2) (L' := [(3, .int (iI (i + 1))), (2, .int (iI 1)), (4, .int (iI (σ.2.1 8 ((4 * x) + i)))), (0, .ref b), (1, .int (iI x))]) dX12_putsIn_71 rfl (by decide) rfl ?_
          refine tm_goto (tgt := 4) dX12_putsIn_74 (by decide) ?_
          exact tm_sub [0, 1, 3, 4] rfl (ih _ (by omega) (1) (i + 1) (fArg (x) (i) (σ0.2.1 60 (σ.2.1 8 ((4 * x) + i))) (σ0.2.1 61 (σ.2.1 8 ((4 * x) + i))) σ) ((Fr.rfl.trans (Fr.sub hF (by decide) (by decide) (by decide))).trans (Fr.sub fArg_fr (by decide) (by decide) (by decide))) (hR.arg (by omega) (by omega)) (by omega) (oki_arg2 hok (by omega) (by omega) (by omega) (by omega) (by omega) (by rw [q3]; omega)) (hff.trans (OFF.arg (by omega) (by omega))) (pi_yes hfo (by omega) (by omega) (by omega) (q2.2 (by omega)).1 (by omega)) rfl)
set_option maxHeartbeats 1000000 in
set_option maxRecDepth 20000 in
theorem f_X12_putsIn (d : Nat) {b : Nat} {σ : MS} {x : Int} {F : Int} (hx : 0 ≤ x ∧ x < 2860) (hR : RG σ) (hpar : PAR σ) (hkn : KNW σ) (hact : σ.2.1 3 x ≤ 10) (hok : OKI σ F x) : Tm (d + 4) m_X12_putsIn 0 b σ [(0, .ref b), (1, .int (iI x))] [] (fun ro σ2 => ∃ v : Int, ro = some (.int (iI v)) ∧ ((v = 0 ∨ v = 1)) ∧ (Fr [] [7, 8] [] σ σ2) ∧ (RG σ2) ∧ (OKI σ2 F x) ∧ (OFF x σ σ2) ∧ (rI σ2 x = foO (knA σ) (rI σ x) 4 ∧ (v = 1 ↔ foC (knA σ) (rI σ x) 4))) := by
  refine tm_iconst dX12_putsIn_0 ?_
  refine tm_istore_n (L' := [(2, .int (iI 0)), (0, .ref b), (1, .int (iI x))]) dX12_putsIn_1 rfl (by decide) rfl ?_
  refine tm_iconst dX12_putsIn_2 ?_
  refine tm_istore_n (L' := [(3, .int (iI 0)), (2, .int (iI 0)), (0, .ref b), (1, .int (iI x))]) dX12_putsIn_3 rfl (by decide) rfl ?_
  refine tm_sub [0, 1, 2, 3] rfl (f_putsIn (d) (σ0 := σ) (x := x) (F := F) hx hR hpar hkn hact (fun w10 i11 σ12 F4 R5 f6 f7 f8 f9 => ?_) _ (0) (0) σ Fr.rfl hR (by omega) hok OFF.rfl ⟨foO_0.symm, fun q => absurd q (by decide), fun q => absurd q foC_0⟩ rfl)
  show Tm _ _ 77 b σ12 [(3, .int (iI i11)), (2, .int (iI w10)), (0, .ref b), (1, .int (iI x))] [] _
  refine tm_iload_n dX12_putsIn_77 rfl 1 rfl ?_
  exact tm_zret (v := w10) rfl (by omega) dX12_putsIn_78 (⟨_, rfl, by omega, (Fr.rfl.trans (Fr.sub F4 (by decide) (by decide) (by decide))), R5, f7, f8, f9⟩)
end
section
set_option maxHeartbeats 1000000 in
set_option maxRecDepth 20000 in
theorem f_fold335 (d : Nat) {b : Nat} {σ0 : MS} {r : Int} {F : Int} {k : Int} {w : Int} {gs : Int} {ρ : MS} {post : Option Value → MS → Prop} (hr : 0 ≤ r ∧ r < 6) (hg : (gs = 0 ∨ gs = 1) ∧ (gs = 1 → ρ.2.1 3 (220 * r + k) = 9)) (hk : 0 ≤ k ∧ k < 220) (hx_355 : ∀ (t : Int) (σ : MS) , (Fr [] [3, 4, 5, 6, 7, 8] [] σ0 σ) → (RG σ) → (0 ≤ t ∧ t ≤ k + 1) → (FLP ρ σ r F (k + 1) t) → (KNW σ) → (FOY ρ σ r (k + 1) t w) → Tm (d + 2) m_X12_fold 355 b σ [(6, .int (iI gs)), (5, .int (iI (220 * r + k))), (4, .int (iI k)), (3, .int (iI t)), (2, .int (iI w)), (0, .ref b), (1, .int (iI r))] [] post) : ∀ (n : Nat) (t : Int) (σ : MS) , (Fr [] [3, 4, 5, 6, 7, 8] [] σ0 σ) → (RG σ) → (0 ≤ t ∧ t ≤ k) → (FWK ρ σ r F k t) → (KNW σ) → (FOX ρ σ r k t w gs) → ((0 : Int)).toNat = n → Tm (d + 2) m_X12_fold 335 b σ [(6, .int (iI gs)), (5, .int (iI (220 * r + k))), (4, .int (iI k)), (3, .int (iI t)), (2, .int (iI w)), (0, .ref b), (1, .int (iI r))] [] post := by
  intro n
  induction n using Nat.strongRecOn with
  | _ n ih =>
    intro t σ hF hR h0 hw hkn hfo hm
    refine tm_iload dX12_fold_335 0 rfl ?_
    refine tm_if_ne (tgt := 355) dX12_fold_337 (by decide) ⟨by omega, by omega⟩ (fun h1 => ?_) (fun h1 => ?_)
    · exact tm_sub [0, 1, 2, 3, 4, 5, 6] rfl (hx_355 (t) σ (Fr.rfl.trans (Fr.sub hF (by decide) (by decide) (by decide))) hR (by omega) (hw.skip hk.1 (hg.2 (by omega))) hkn (hfo.skip (by omega)))
    · refine tm_aload_n dX12_fold_340 rfl 5 rfl ?_
      refine tm_iload dX12_fold_341 1 rfl ?_
      refine tm_aload_n dX12_fold_343 rfl 5 rfl ?_
      refine tm_iload_n dX12_fold_344 rfl 6 rfl ?_
      refine tm_iload_n dX12_fold_345 rfl 3 rfl ?_
      refine tm_callV (M := m_X12_fold) (pc := 346) (ix := 203) (M' := m_X12_at) (As := [.int (iI r), .int (iI t)]) (rest := [.int (iI (220 * r + k)), .ref b]) dX12_fold_346 ok_X12_at im_X12_at se_X12_at ml12_203 np_X12_at rfl rfl (Nat.le_of_ble_eq_true rfl) (Nat.le_of_ble_eq_true rfl) rfl (c_X12_at (d) (σ := σ) (x := r) (k := t) ) (fun r2 σ3 hp => ?_)
      obtain ⟨v4, rfl, rfl, f5⟩ := hp
      subst f5
      show Tm _ _ 349 b σ [(6, .int (iI gs)), (5, .int (iI (220 * r + k))), (4, .int (iI k)), (3, .int (iI t)), (2, .int (iI w)), (0, .ref b), (1, .int (iI r))] [.int (iI (220 * r + t)), .int (iI (220 * r + k)), .ref b] _
      refine tm_callV (M := m_X12_fold) (pc := 349) (ix := 394) (M' := m_X12_copyItem) (As := [.int (iI (220 * r + k)), .int (iI (220 * r + t))]) (rest := []) dX12_fold_349 ok_X12_copyItem im_X12_copyItem se_X12_copyItem ml12_394 np_X12_copyItem rfl rfl (Nat.le_of_ble_eq_true rfl) (Nat.le_of_ble_eq_true rfl) rfl (c_X12_copyItem (d) (σ := σ) (f := 220 * r + k) (t := 220 * r + t) (by omega) (by omega)) (fun r6 σ7 hp => ?_)
      obtain ⟨rfl, f9⟩ := hp
      subst f9
      show Tm _ _ 352 b (fCopy (220 * r + k) (220 * r + t) σ) [(6, .int (iI gs)), (5, .int (iI (220 * r + k))), (4, .int (iI k)), (3, .int (iI t)), (2, .int (iI w)), (0, .ref b), (1, .int (iI r))] [] _
      refine tm_iinc (q0 := 3) (L' := [(3, .int (iI (t + 1))), (6, .int (iI gs)), (5, .int (iI (220 * r + k))), (4, .int (iI k)), (2, .int (iI w)), (0, .ref b), (1, .int (iI r))]) dX12_fold_352 rfl (by decide) rfl ?_
      exact tm_sub [1, 2, 3, 0, 4, 5, 6] rfl (hx_355 (t + 1) (fCopy (220 * r + k) (220 * r + t) σ) ((Fr.rfl.trans (Fr.sub hF (by decide) (by decide) (by decide))).trans (Fr.sub fCopy_fr (by decide) (by decide) (by decide))) (hR.copy) (by omega) (hw.keep (by omega)) (hkn.fr fCopy_fr (by decide)) (hfo.keep (by omega) (by omega)))
set_option maxHeartbeats 1000000 in
set_option maxRecDepth 20000 in
theorem f_fold251 (d : Nat) {b : Nat} {σ0 : MS} {r : Int} {F : Int} {k : Int} {ρ : MS} {post : Option Value → MS → Prop} (hr : 0 ≤ r ∧ r < 6) (hR0 : RG σ0) (hk : 0 ≤ k ∧ k < 220) (h13 : rV ρ r k 0 ≠ 13 ∧ rV ρ r k 0 ≠ 12) (hx_355 : ∀ (ce : Int) (w : Int) (gs : Int) (t : Int) (σ : MS) , (Fr [] [3, 4, 5, 6, 7, 8, 60, 61] [] σ0 σ) → (RG σ) → (0 ≤ w ∧ w ≤ k + 1) → (0 ≤ t ∧ t ≤ k + 1) → (FLP ρ σ r F (k + 1) t) → (KNW σ) → (FOY ρ σ r (k + 1) t w) → Tm (d + 3) m_X12_fold 355 b σ [(6, .int (iI gs)), (5, .int (iI (220 * r + k))), (4, .int (iI k)), (3, .int (iI t)), (2, .int (iI w)), (0, .ref b), (1, .int (iI r))] [] post) : ∀ (n : Nat) (ce : Int) (w : Int) (gs : Int) (t : Int) (σ : MS) , (Fr [] [3, 4, 5, 6, 7, 8, 60, 61] [] σ0 σ) → (RG σ) → (0 ≤ t ∧ t ≤ k ∧ (ce = 0 ∨ ce = 1) ∧ gs = 0 ∧ 0 ≤ w ∧ w ≤ k) → (FWK ρ σ r F k t) → (KNW σ) → (FOY ρ σ r k t w) → (FOI ρ σ r k ce) → ((0 : Int)).toNat = n → Tm (d + 3) m_X12_fold 251 b σ [(7, .int (iI ce)), (6, .int (iI gs)), (5, .int (iI (220 * r + k))), (4, .int (iI k)), (3, .int (iI t)), (2, .int (iI w)), (0, .ref b), (1, .int (iI r))] [] post := by
  intro n
  induction n using Nat.strongRecOn with
  | _ n ih =>
    intro ce w gs t σ hF hR h0 hw hkn hfo hfi hm
    have hok := hw.ok
    have hok1 := hok.1
    have ho8 := hok.2.2.2.2.2.2.2.1 0 (by decide) (by decide)
    rw [Int.add_zero] at ho8
    refine tm_aload_n dX12_fold_251 rfl 6 rfl ?_
    refine tm_get (k := 3) (v := .ref (b + 1 + 1)) lay_12 dX12_fold_252 (by decide) fl12_13 rfl ?_
    refine tm_iload dX12_fold_255 2 rfl ?_
    refine tm_iald (z := 220 * r + k) (v := σ.2.1 3 (220 * r + k)) dX12_fold_257 (show mT[1]? = some (3, 0, 2860) from rfl) (by omega) (by omega) (by decide) (rfl) ?_
    have g1 := RG.a hR 3 (220 * r + k)
    refine tm_bipush dX12_fold_258 (by decide) ?_
    refine tm_icmp_ne (tgt := 316) dX12_fold_260 (by decide) ⟨by omega, by omega⟩ ⟨by decide, by decide⟩ (fun h2 => ?_) (fun h2 => ?_)
    · have hwN := hw
      refine tm_iload_n dX12_fold_316 rfl 5 rfl ?_
      refine tm_iload dX12_fold_317 0 rfl ?_
      refine tm_if_eq (tgt := 326) dX12_fold_319 (by decide) ⟨by omega, by omega⟩ (fun h3 => ?_) (fun h3 => ?_)
      · refine tm_iconst dX12_fold_326 ?_
        refine tm_iadd dX12_fold_327 ?_
        refine tm_istore_n (L' := [(2, .int (iI (w + 0))), (7, .int (iI ce)), (6, .int (iI gs)), (5, .int (iI (220 * r + k))), (4, .int (iI k)), (3, .int (iI t)), (0, .ref b), (1, .int (iI r))]) dX12_fold_328 rfl (by decide) rfl ?_
        refine tm_aload_n dX12_fold_329 rfl 6 rfl ?_
        refine tm_iload dX12_fold_330 3 rfl ?_
        refine tm_callV (M := m_X12_fold) (pc := 332) (ix := 469) (M' := m_X12_learn) (As := [.int (iI (220 * r + k))]) (rest := []) dX12_fold_332 ok_X12_learn im_X12_learn se_X12_learn ml12_469 np_X12_learn rfl rfl (Nat.le_of_ble_eq_true rfl) (Nat.le_of_ble_eq_true rfl) rfl (f_X12_learn (d) (σ := σ) (x := 220 * r + k) (F := F) (by omega) hR hkn hwN.ok) (fun r4 σ5 hp => ?_)
        obtain ⟨rfl, f7, f8, f9, f10⟩ := hp
        show Tm _ _ 335 b σ5 [(2, .int (iI (w + 0))), (7, .int (iI ce)), (6, .int (iI gs)), (5, .int (iI (220 * r + k))), (4, .int (iI k)), (3, .int (iI t)), (0, .ref b), (1, .int (iI r))] [] _
        refine tm_sub [2, 3, 4, 5, 0, 6, 7] rfl (f_fold335 (d + 1) (σ0 := σ5) (r := r) (k := k) (w := w + 0) (gs := gs) (F := F) (ρ := ρ) hr (by omega) (by omega) (fun t19 σ20 F13 R14 f15 f16 f17 f18 => ?_) _ (t) σ5 Fr.rfl f8 (by omega) (hwN.fr f7 (by decide)) (by assumption) (by rw [show gs = 0 by omega]; exact FOX.no hfo hfi (by omega) (fun z => by omega) f7 f10 ⟨by omega, by omega⟩ h13) rfl)
        show Tm _ _ 355 b σ20 [(6, .int (iI gs)), (5, .int (iI (220 * r + k))), (4, .int (iI k)), (3, .int (iI t19)), (2, .int (iI (w + 0))), (0, .ref b), (1, .int (iI r))] [] _
        exact tm_sub [0, 1, 2, 3, 4, 5, 6] rfl (hx_355 (0) (w + 0) (gs) (t19) σ20 (((Fr.rfl.trans (Fr.sub hF (by decide) (by decide) (by decide))).trans (Fr.sub f7 (by decide) (by decide) (by decide))).trans (Fr.sub F13 (by decide) (by decide) (by decide))) R14 (by omega) (by omega) f16 f17 f18)
      · refine tm_iconst dX12_fold_322 ?_
        refine tm_goto (tgt := 327) dX12_fold_323 (by decide) ?_
        refine tm_iadd dX12_fold_327 ?_
        refine tm_istore_n (L' := [(2, .int (iI (w + 1))), (7, .int (iI ce)), (6, .int (iI gs)), (5, .int (iI (220 * r + k))), (4, .int (iI k)), (3, .int (iI t)), (0, .ref b), (1, .int (iI r))]) dX12_fold_328 rfl (by decide) rfl ?_
        refine tm_aload_n dX12_fold_329 rfl 6 rfl ?_
        refine tm_iload dX12_fold_330 3 rfl ?_
        refine tm_callV (M := m_X12_fold) (pc := 332) (ix := 469) (M' := m_X12_learn) (As := [.int (iI (220 * r + k))]) (rest := []) dX12_fold_332 ok_X12_learn im_X12_learn se_X12_learn ml12_469 np_X12_learn rfl rfl (Nat.le_of_ble_eq_true rfl) (Nat.le_of_ble_eq_true rfl) rfl (f_X12_learn (d) (σ := σ) (x := 220 * r + k) (F := F) (by omega) hR hkn hwN.ok) (fun r21 σ22 hp => ?_)
        obtain ⟨rfl, f24, f25, f26, f27⟩ := hp
        show Tm _ _ 335 b σ22 [(2, .int (iI (w + 1))), (7, .int (iI ce)), (6, .int (iI gs)), (5, .int (iI (220 * r + k))), (4, .int (iI k)), (3, .int (iI t)), (0, .ref b), (1, .int (iI r))] [] _
        refine tm_sub [2, 3, 4, 5, 0, 6, 7] rfl (f_fold335 (d + 1) (σ0 := σ22) (r := r) (k := k) (w := w + 1) (gs := gs) (F := F) (ρ := ρ) hr (by omega) (by omega) (fun t36 σ37 F30 R31 f32 f33 f34 f35 => ?_) _ (t) σ22 Fr.rfl f25 (by omega) (hwN.fr f24 (by decide)) (by assumption) (by rw [show gs = 0 by omega]; exact FOX.no hfo hfi (by omega) (fun z => by omega) f24 f27 ⟨by omega, by omega⟩ h13) rfl)
        show Tm _ _ 355 b σ37 [(6, .int (iI gs)), (5, .int (iI (220 * r + k))), (4, .int (iI k)), (3, .int (iI t36)), (2, .int (iI (w + 1))), (0, .ref b), (1, .int (iI r))] [] _
        exact tm_sub [0, 1, 2, 3, 4, 5, 6] rfl (hx_355 (0) (w + 1) (gs) (t36) σ37 (((Fr.rfl.trans (Fr.sub hF (by decide) (by decide) (by decide))).trans (Fr.sub f24 (by decide) (by decide) (by decide))).trans (Fr.sub F30 (by decide) (by decide) (by decide))) R31 (by omega) (by omega) f33 f34 f35)
    · refine tm_aload_n dX12_fold_263 rfl 6 rfl ?_
      refine tm_get (k := 7) (v := .ref (b + 1 + 5)) lay_12 dX12_fold_264 (by decide) fl12_26 rfl ?_
      refine tm_iconst dX12_fold_267 ?_
      refine tm_iload dX12_fold_268 2 rfl ?_
      refine tm_imul dX12_fold_270 ?_
      refine tm_iald (z := 4 * (220 * r + k)) (v := σ.2.1 7 (4 * (220 * r + k))) dX12_fold_271 (show mT[5]? = some (7, 0, 11440) from rfl) (by omega) (by omega) (by decide) (rfl) ?_
      have g38 := RG.a hR 7 (4 * (220 * r + k))
      refine tm_iconst dX12_fold_272 ?_
      refine tm_icmp_ne (tgt := 316) dX12_fold_273 (by decide) ⟨by omega, by omega⟩ ⟨by decide, by decide⟩ (fun h39 => ?_) (fun h39 => ?_)
      · have hwN := hw
        refine tm_iload_n dX12_fold_316 rfl 5 rfl ?_
        refine tm_iload dX12_fold_317 0 rfl ?_
        refine tm_if_eq (tgt := 326) dX12_fold_319 (by decide) ⟨by omega, by omega⟩ (fun h40 => ?_) (fun h40 => ?_)
        · refine tm_iconst dX12_fold_326 ?_
          refine tm_iadd dX12_fold_327 ?_
          refine tm_istore_n (L' := [(2, .int (iI (w + 0))), (7, .int (iI ce)), (6, .int (iI gs)), (5, .int (iI (220 * r + k))), (4, .int (iI k)), (3, .int (iI t)), (0, .ref b), (1, .int (iI r))]) dX12_fold_328 rfl (by decide) rfl ?_
          refine tm_aload_n dX12_fold_329 rfl 6 rfl ?_
          refine tm_iload dX12_fold_330 3 rfl ?_
          refine tm_callV (M := m_X12_fold) (pc := 332) (ix := 469) (M' := m_X12_learn) (As := [.int (iI (220 * r + k))]) (rest := []) dX12_fold_332 ok_X12_learn im_X12_learn se_X12_learn ml12_469 np_X12_learn rfl rfl (Nat.le_of_ble_eq_true rfl) (Nat.le_of_ble_eq_true rfl) rfl (f_X12_learn (d) (σ := σ) (x := 220 * r + k) (F := F) (by omega) hR hkn hwN.ok) (fun r41 σ42 hp => ?_)
          obtain ⟨rfl, f44, f45, f46, f47⟩ := hp
          show Tm _ _ 335 b σ42 [(2, .int (iI (w + 0))), (7, .int (iI ce)), (6, .int (iI gs)), (5, .int (iI (220 * r + k))), (4, .int (iI k)), (3, .int (iI t)), (0, .ref b), (1, .int (iI r))] [] _
          refine tm_sub [2, 3, 4, 5, 0, 6, 7] rfl (f_fold335 (d + 1) (σ0 := σ42) (r := r) (k := k) (w := w + 0) (gs := gs) (F := F) (ρ := ρ) hr (by omega) (by omega) (fun t56 σ57 F50 R51 f52 f53 f54 f55 => ?_) _ (t) σ42 Fr.rfl f45 (by omega) (hwN.fr f44 (by decide)) (by assumption) (by rw [show gs = 0 by omega]; exact FOX.no hfo hfi (by omega) (fun z => by omega) f44 f47 ⟨by omega, by omega⟩ h13) rfl)
          show Tm _ _ 355 b σ57 [(6, .int (iI gs)), (5, .int (iI (220 * r + k))), (4, .int (iI k)), (3, .int (iI t56)), (2, .int (iI (w + 0))), (0, .ref b), (1, .int (iI r))] [] _
          exact tm_sub [0, 1, 2, 3, 4, 5, 6] rfl (hx_355 (0) (w + 0) (gs) (t56) σ57 (((Fr.rfl.trans (Fr.sub hF (by decide) (by decide) (by decide))).trans (Fr.sub f44 (by decide) (by decide) (by decide))).trans (Fr.sub F50 (by decide) (by decide) (by decide))) R51 (by omega) (by omega) f53 f54 f55)
        · refine tm_iconst dX12_fold_322 ?_
          refine tm_goto (tgt := 327) dX12_fold_323 (by decide) ?_
          refine tm_iadd dX12_fold_327 ?_
          refine tm_istore_n (L' := [(2, .int (iI (w + 1))), (7, .int (iI ce)), (6, .int (iI gs)), (5, .int (iI (220 * r + k))), (4, .int (iI k)), (3, .int (iI t)), (0, .ref b), (1, .int (iI r))]) dX12_fold_328 rfl (by decide) rfl ?_
          refine tm_aload_n dX12_fold_329 rfl 6 rfl ?_
          refine tm_iload dX12_fold_330 3 rfl ?_
          refine tm_callV (M := m_X12_fold) (pc := 332) (ix := 469) (M' := m_X12_learn) (As := [.int (iI (220 * r + k))]) (rest := []) dX12_fold_332 ok_X12_learn im_X12_learn se_X12_learn ml12_469 np_X12_learn rfl rfl (Nat.le_of_ble_eq_true rfl) (Nat.le_of_ble_eq_true rfl) rfl (f_X12_learn (d) (σ := σ) (x := 220 * r + k) (F := F) (by omega) hR hkn hwN.ok) (fun r58 σ59 hp => ?_)
          obtain ⟨rfl, f61, f62, f63, f64⟩ := hp
          show Tm _ _ 335 b σ59 [(2, .int (iI (w + 1))), (7, .int (iI ce)), (6, .int (iI gs)), (5, .int (iI (220 * r + k))), (4, .int (iI k)), (3, .int (iI t)), (0, .ref b), (1, .int (iI r))] [] _
          refine tm_sub [2, 3, 4, 5, 0, 6, 7] rfl (f_fold335 (d + 1) (σ0 := σ59) (r := r) (k := k) (w := w + 1) (gs := gs) (F := F) (ρ := ρ) hr (by omega) (by omega) (fun t73 σ74 F67 R68 f69 f70 f71 f72 => ?_) _ (t) σ59 Fr.rfl f62 (by omega) (hwN.fr f61 (by decide)) (by assumption) (by rw [show gs = 0 by omega]; exact FOX.no hfo hfi (by omega) (fun z => by omega) f61 f64 ⟨by omega, by omega⟩ h13) rfl)
          show Tm _ _ 355 b σ74 [(6, .int (iI gs)), (5, .int (iI (220 * r + k))), (4, .int (iI k)), (3, .int (iI t73)), (2, .int (iI (w + 1))), (0, .ref b), (1, .int (iI r))] [] _
          exact tm_sub [0, 1, 2, 3, 4, 5, 6] rfl (hx_355 (0) (w + 1) (gs) (t73) σ74 (((Fr.rfl.trans (Fr.sub hF (by decide) (by decide) (by decide))).trans (Fr.sub f61 (by decide) (by decide) (by decide))).trans (Fr.sub F67 (by decide) (by decide) (by decide))) R68 (by omega) (by omega) f70 f71 f72)
      · refine tm_aload_n dX12_fold_276 rfl 6 rfl ?_
        refine tm_get (k := 8) (v := .ref (b + 1 + 6)) lay_12 dX12_fold_277 (by decide) fl12_29 rfl ?_
        refine tm_iconst dX12_fold_280 ?_
        refine tm_iload dX12_fold_281 2 rfl ?_
        refine tm_imul dX12_fold_283 ?_
        refine tm_iald (z := 4 * (220 * r + k)) (v := σ.2.1 8 (4 * (220 * r + k))) dX12_fold_284 (show mT[6]? = some (8, 0, 11440) from rfl) (by omega) (by omega) (by decide) (rfl) ?_
        have g75 := RG.a hR 8 (4 * (220 * r + k))
        refine tm_if_eq (tgt := 292) dX12_fold_285 (by decide) ⟨by omega, by omega⟩ (fun h76 => ?_) (fun h76 => ?_)
        · refine tm_iconst dX12_fold_292 ?_
          refine tm_istore (L' := [(6, .int (iI 0)), (7, .int (iI ce)), (5, .int (iI (220 * r + k))), (4, .int (iI k)), (3, .int (iI t)), (2, .int (iI w)), (0, .ref b), (1, .int (iI r))]) dX12_fold_293 (by decide) rfl ?_
          refine tm_aload_n dX12_fold_295 rfl 6 rfl ?_
          refine tm_get (k := 3) (v := .ref (b + 1 + 1)) lay_12 dX12_fold_296 (by decide) fl12_13 rfl ?_
          refine tm_iload dX12_fold_299 2 rfl ?_
          refine tm_bipush dX12_fold_301 (by decide) ?_
          refine tm_iast (z := 220 * r + k) (v := 8) dX12_fold_303 (show mT[1]? = some (3, 0, 2860) from rfl) (by omega) (by omega) (by decide) ?_
          refine tm_aload_n dX12_fold_304 rfl 6 rfl ?_
          refine tm_iload dX12_fold_305 2 rfl ?_
          refine tm_iconst dX12_fold_307 ?_
          refine tm_iconst dX12_fold_308 ?_
          refine tm_iconst dX12_fold_309 ?_
          refine tm_callV (M := m_X12_fold) (pc := 310) (ix := 298) (M' := m_X12_setArg) (As := [.int (iI (220 * r + k)), .int (iI 0), .int (iI 0), .int (iI 0)]) (rest := []) dX12_fold_310 ok_X12_setArg im_X12_setArg se_X12_setArg ml12_298 np_X12_setArg rfl rfl (Nat.le_of_ble_eq_true rfl) (Nat.le_of_ble_eq_true rfl) rfl (c_X12_setArg (d + 1) (σ := (sA 3 (220 * r + k) (8) σ)) (x := 220 * r + k) (i := 0) (k := 0) (w := 0) (by omega)) (fun r77 σ78 hp => ?_)
          obtain ⟨rfl, f80⟩ := hp
          subst f80
          show Tm _ _ 313 b (fArg (220 * r + k) (0) (0) (0) (sA 3 (220 * r + k) (8) σ)) [(6, .int (iI 0)), (7, .int (iI ce)), (5, .int (iI (220 * r + k))), (4, .int (iI k)), (3, .int (iI t)), (2, .int (iI w)), (0, .ref b), (1, .int (iI r))] [] _
          refine tm_iconst dX12_fold_313 ?_
          refine tm_istore (L' := [(7, .int (iI 1)), (6, .int (iI 0)), (5, .int (iI (220 * r + k))), (4, .int (iI k)), (3, .int (iI t)), (2, .int (iI w)), (0, .ref b), (1, .int (iI r))]) dX12_fold_314 (by decide) rfl ?_
          have hwN := hw.jump (by omega) (by omega)
          have hz9 := hw.z9 (by omega)
          refine tm_iload_n dX12_fold_316 rfl 5 rfl ?_
          refine tm_iload dX12_fold_317 0 rfl ?_
          refine tm_if_eq (tgt := 326) dX12_fold_319 (by decide) ⟨by decide, by decide⟩ (fun h => absurd h (by decide)) (fun _ => ?_)
          refine tm_iconst dX12_fold_322 ?_
          refine tm_goto (tgt := 327) dX12_fold_323 (by decide) ?_
          refine tm_iadd dX12_fold_327 ?_
          refine tm_istore_n (L' := [(2, .int (iI (w + 1))), (7, .int (iI 1)), (6, .int (iI 0)), (5, .int (iI (220 * r + k))), (4, .int (iI k)), (3, .int (iI t)), (0, .ref b), (1, .int (iI r))]) dX12_fold_328 rfl (by decide) rfl ?_
          refine tm_aload_n dX12_fold_329 rfl 6 rfl ?_
          refine tm_iload dX12_fold_330 3 rfl ?_
          refine tm_callV (M := m_X12_fold) (pc := 332) (ix := 469) (M' := m_X12_learn) (As := [.int (iI (220 * r + k))]) (rest := []) dX12_fold_332 ok_X12_learn im_X12_learn se_X12_learn ml12_469 np_X12_learn rfl rfl (Nat.le_of_ble_eq_true rfl) (Nat.le_of_ble_eq_true rfl) rfl (f_X12_learn (d) (σ := (fArg (220 * r + k) (0) (0) (0) (sA 3 (220 * r + k) (8) σ))) (x := 220 * r + k) (F := F) (by omega) ((hR.A (by omega)).arg (by omega) (by omega)) (hkn.fr (Fr.trans (Fr.A (Fr.rfl (ss := []) (ks := [3, 7, 8]) (js := [])) (by decide)) (fArg_fr.sub (by decide) (by decide) (by decide))) (by decide)) hwN.ok) (fun r82 σ83 hp => ?_)
          obtain ⟨rfl, f85, f86, f87, f88⟩ := hp
          show Tm _ _ 335 b σ83 [(2, .int (iI (w + 1))), (7, .int (iI 1)), (6, .int (iI 0)), (5, .int (iI (220 * r + k))), (4, .int (iI k)), (3, .int (iI t)), (0, .ref b), (1, .int (iI r))] [] _
          refine tm_sub [2, 3, 4, 5, 0, 6, 7] rfl (f_fold335 (d + 1) (σ0 := σ83) (r := r) (k := k) (w := w + 1) (gs := 0) (F := F) (ρ := ρ) hr (by omega) (by omega) (fun t97 σ98 F91 R92 f93 f94 f95 f96 => ?_) _ (t) σ83 Fr.rfl f86 (by omega) (hwN.fr f85 (by decide)) (by assumption) (FOX.yes hfo hfi (by omega) (by omega) ⟨by omega, by omega⟩ f85 f88 (by omega) h13) rfl)
          show Tm _ _ 355 b σ98 [(6, .int (iI 0)), (5, .int (iI (220 * r + k))), (4, .int (iI k)), (3, .int (iI t97)), (2, .int (iI (w + 1))), (0, .ref b), (1, .int (iI r))] [] _
          exact tm_sub [0, 1, 2, 3, 4, 5, 6] rfl (hx_355 (0) (w + 1) (0) (t97) σ98 (((((Fr.rfl.trans (Fr.sub hF (by decide) (by decide) (by decide))).A (by decide)).trans (Fr.sub fArg_fr (by decide) (by decide) (by decide))).trans (Fr.sub f85 (by decide) (by decide) (by decide))).trans (Fr.sub F91 (by decide) (by decide) (by decide))) R92 (by omega) (by omega) f94 f95 f96)
        · refine tm_iconst dX12_fold_288 ?_
          refine tm_goto (tgt := 293) dX12_fold_289 (by decide) ?_
          refine tm_istore (L' := [(6, .int (iI 1)), (7, .int (iI ce)), (5, .int (iI (220 * r + k))), (4, .int (iI k)), (3, .int (iI t)), (2, .int (iI w)), (0, .ref b), (1, .int (iI r))]) dX12_fold_293 (by decide) rfl ?_
          refine tm_aload_n dX12_fold_295 rfl 6 rfl ?_
          refine tm_get (k := 3) (v := .ref (b + 1 + 1)) lay_12 dX12_fold_296 (by decide) fl12_13 rfl ?_
          refine tm_iload dX12_fold_299 2 rfl ?_
          refine tm_bipush dX12_fold_301 (by decide) ?_
          refine tm_iast (z := 220 * r + k) (v := 8) dX12_fold_303 (show mT[1]? = some (3, 0, 2860) from rfl) (by omega) (by omega) (by decide) ?_
          refine tm_aload_n dX12_fold_304 rfl 6 rfl ?_
          refine tm_iload dX12_fold_305 2 rfl ?_
          refine tm_iconst dX12_fold_307 ?_
          refine tm_iconst dX12_fold_308 ?_
          refine tm_iconst dX12_fold_309 ?_
          refine tm_callV (M := m_X12_fold) (pc := 310) (ix := 298) (M' := m_X12_setArg) (As := [.int (iI (220 * r + k)), .int (iI 0), .int (iI 0), .int (iI 0)]) (rest := []) dX12_fold_310 ok_X12_setArg im_X12_setArg se_X12_setArg ml12_298 np_X12_setArg rfl rfl (Nat.le_of_ble_eq_true rfl) (Nat.le_of_ble_eq_true rfl) rfl (c_X12_setArg (d + 1) (σ := (sA 3 (220 * r + k) (8) σ)) (x := 220 * r + k) (i := 0) (k := 0) (w := 0) (by omega)) (fun r99 σ100 hp => ?_)
          obtain ⟨rfl, f102⟩ := hp
          subst f102
          show Tm _ _ 313 b (fArg (220 * r + k) (0) (0) (0) (sA 3 (220 * r + k) (8) σ)) [(6, .int (iI 1)), (7, .int (iI ce)), (5, .int (iI (220 * r + k))), (4, .int (iI k)), (3, .int (iI t)), (2, .int (iI w)), (0, .ref b), (1, .int (iI r))] [] _
          refine tm_iconst dX12_fold_313 ?_
          refine tm_istore (L' := [(7, .int (iI 1)), (6, .int (iI 1)), (5, .int (iI (220 * r + k))), (4, .int (iI k)), (3, .int (iI t)), (2, .int (iI w)), (0, .ref b), (1, .int (iI r))]) dX12_fold_314 (by decide) rfl ?_
          have hwN := hw.jump (by omega) (by omega)
          have hz9 := hw.z9 (by omega)
          refine tm_iload_n dX12_fold_316 rfl 5 rfl ?_
          refine tm_iload dX12_fold_317 0 rfl ?_
          refine tm_if_eq (tgt := 326) dX12_fold_319 (by decide) ⟨by decide, by decide⟩ (fun h => absurd h (by decide)) (fun _ => ?_)
          refine tm_iconst dX12_fold_322 ?_
          refine tm_goto (tgt := 327) dX12_fold_323 (by decide) ?_
          refine tm_iadd dX12_fold_327 ?_
          refine tm_istore_n (L' := [(2, .int (iI (w + 1))), (7, .int (iI 1)), (6, .int (iI 1)), (5, .int (iI (220 * r + k))), (4, .int (iI k)), (3, .int (iI t)), (0, .ref b), (1, .int (iI r))]) dX12_fold_328 rfl (by decide) rfl ?_
          refine tm_aload_n dX12_fold_329 rfl 6 rfl ?_
          refine tm_iload dX12_fold_330 3 rfl ?_
          refine tm_callV (M := m_X12_fold) (pc := 332) (ix := 469) (M' := m_X12_learn) (As := [.int (iI (220 * r + k))]) (rest := []) dX12_fold_332 ok_X12_learn im_X12_learn se_X12_learn ml12_469 np_X12_learn rfl rfl (Nat.le_of_ble_eq_true rfl) (Nat.le_of_ble_eq_true rfl) rfl (f_X12_learn (d) (σ := (fArg (220 * r + k) (0) (0) (0) (sA 3 (220 * r + k) (8) σ))) (x := 220 * r + k) (F := F) (by omega) ((hR.A (by omega)).arg (by omega) (by omega)) (hkn.fr (Fr.trans (Fr.A (Fr.rfl (ss := []) (ks := [3, 7, 8]) (js := [])) (by decide)) (fArg_fr.sub (by decide) (by decide) (by decide))) (by decide)) hwN.ok) (fun r104 σ105 hp => ?_)
          obtain ⟨rfl, f107, f108, f109, f110⟩ := hp
          show Tm _ _ 335 b σ105 [(2, .int (iI (w + 1))), (7, .int (iI 1)), (6, .int (iI 1)), (5, .int (iI (220 * r + k))), (4, .int (iI k)), (3, .int (iI t)), (0, .ref b), (1, .int (iI r))] [] _
          refine tm_sub [2, 3, 4, 5, 0, 6, 7] rfl (f_fold335 (d + 1) (σ0 := σ105) (r := r) (k := k) (w := w + 1) (gs := 1) (F := F) (ρ := ρ) hr (by omega) (by omega) (fun t119 σ120 F113 R114 f115 f116 f117 f118 => ?_) _ (t) σ105 Fr.rfl f108 (by omega) (hwN.fr f107 (by decide)) (by assumption) (FOX.yes hfo hfi (by omega) (by omega) ⟨by omega, by omega⟩ f107 f110 (by omega) h13) rfl)
          show Tm _ _ 355 b σ120 [(6, .int (iI 1)), (5, .int (iI (220 * r + k))), (4, .int (iI k)), (3, .int (iI t119)), (2, .int (iI (w + 1))), (0, .ref b), (1, .int (iI r))] [] _
          exact tm_sub [0, 1, 2, 3, 4, 5, 6] rfl (hx_355 (0) (w + 1) (1) (t119) σ120 (((((Fr.rfl.trans (Fr.sub hF (by decide) (by decide) (by decide))).A (by decide)).trans (Fr.sub fArg_fr (by decide) (by decide) (by decide))).trans (Fr.sub f107 (by decide) (by decide) (by decide))).trans (Fr.sub F113 (by decide) (by decide) (by decide))) R114 (by omega) (by omega) f116 f117 f118)
set_option maxHeartbeats 1000000 in
set_option maxRecDepth 20000 in
theorem f_fold127 (d : Nat) {b : Nat} {σ0 : MS} {r : Int} {F : Int} {k : Int} {ρ : MS} {post : Option Value → MS → Prop} (hr : 0 ≤ r ∧ r < 6) (hR0 : RG σ0) (hpar : PAR σ0) (hk : 0 ≤ k ∧ k < 220) (hx_355 : ∀ (w : Int) (gs : Int) (t : Int) (σ : MS) , (Fr [] [3, 4, 5, 6, 7, 8, 60, 61] [] σ0 σ) → (RG σ) → (0 ≤ w ∧ w ≤ k + 1) → (0 ≤ t ∧ t ≤ k + 1) → (FLP ρ σ r F (k + 1) t) → (KNW σ) → (FOY ρ σ r (k + 1) t w) → Tm (d + 5) m_X12_fold 355 b σ [(6, .int (iI gs)), (5, .int (iI (220 * r + k))), (4, .int (iI k)), (3, .int (iI t)), (2, .int (iI w)), (0, .ref b), (1, .int (iI r))] [] post) : ∀ (n : Nat) (w : Int) (gs : Int) (t : Int) (σ : MS) , (Fr [] [3, 4, 5, 6, 7, 8, 60, 61] [] σ0 σ) → (RG σ) → (0 ≤ t ∧ t ≤ k ∧ gs = 0 ∧ 0 ≤ w ∧ w ≤ k) → (FWK ρ σ r F k t) → (KNW σ) → (FOY ρ σ r k t w) → (rI σ (220 * r + k) = rV ρ r k) → (σ.2.1 3 (220 * r + k) ≠ 13 ∧ (σ.2.1 3 (220 * r + k) = 12 → σ.2.1 6 (220 * r + k) = 2 → (knA σ (σ.2.1 8 (4 * (220 * r + k)))).1 ≠ 1)) → ((0 : Int)).toNat = n → Tm (d + 5) m_X12_fold 127 b σ [(6, .int (iI gs)), (5, .int (iI (220 * r + k))), (4, .int (iI k)), (3, .int (iI t)), (2, .int (iI w)), (0, .ref b), (1, .int (iI r))] [] post := by
  intro n
  induction n using Nat.strongRecOn with
  | _ n ih =>
    intro w gs t σ hF hR h0 hw hkn hfo hfi hnb hm
    have hok := hw.ok
    have hok1 := hok.1
    refine tm_aload_n dX12_fold_127 rfl 5 rfl ?_
    refine tm_get (k := 3) (v := .ref (b + 1 + 1)) lay_12 dX12_fold_128 (by decide) fl12_13 rfl ?_
    refine tm_iload dX12_fold_131 1 rfl ?_
    refine tm_iald (z := 220 * r + k) (v := σ.2.1 3 (220 * r + k)) dX12_fold_133 (show mT[1]? = some (3, 0, 2860) from rfl) (by omega) (by omega) (by decide) (rfl) ?_
    have g1 := RG.a hR 3 (220 * r + k)
    refine tm_callS (M := m_X12_fold) (pc := 134) (ix := 401) (M' := m_X12_isAct) (As := [.int (iI (σ.2.1 3 (220 * r + k)))]) (rest := []) dX12_fold_134 ok_X12_isAct stt_X12_isAct ml12_401 np_X12_isAct rfl (Nat.le_of_ble_eq_true rfl) (Nat.le_of_ble_eq_true rfl) rfl (c_X12_isAct (d + 3) (σ := σ) (x := σ.2.1 3 (220 * r + k)) (by omega)) (fun r2 σ3 hp => ?_)
    obtain ⟨v4, rfl, rfl, f5, f6⟩ := hp
    show Tm _ _ 137 b σ [(6, .int (iI gs)), (5, .int (iI (220 * r + k))), (4, .int (iI k)), (3, .int (iI t)), (2, .int (iI w)), (0, .ref b), (1, .int (iI r))] [.int (iI v4)] _
    refine tm_if_eq (tgt := 335) dX12_fold_137 (by decide) ⟨by omega, by omega⟩ (fun h7 => ?_) (fun h7 => ?_)
    · refine tm_sub [0, 1, 2, 3, 4, 5, 6] rfl (f_fold335 (d + 3) (σ0 := σ) (r := r) (k := k) (w := w) (gs := gs) (F := F) (ρ := ρ) hr (by omega) (by omega) (fun t16 σ17 F10 R11 f12 f13 f14 f15 => ?_) _ (t) σ Fr.rfl hR (by omega) hw hkn (by rw [show gs = 0 by omega]; exact FOX.oth hfo (by omega) hfi (by omega) hnb.1 hnb.2) rfl)
      show Tm _ _ 355 b σ17 [(6, .int (iI gs)), (5, .int (iI (220 * r + k))), (4, .int (iI k)), (3, .int (iI t16)), (2, .int (iI w)), (0, .ref b), (1, .int (iI r))] [] _
      exact tm_sub [0, 1, 2, 3, 4, 5, 6] rfl (hx_355 (w) (gs) (t16) σ17 ((Fr.rfl.trans (Fr.sub hF (by decide) (by decide) (by decide))).trans (Fr.sub F10 (by decide) (by decide) (by decide))) R11 (by omega) (by omega) f13 f14 f15)
    · refine tm_aload_n dX12_fold_140 rfl 5 rfl ?_
      refine tm_iload dX12_fold_141 1 rfl ?_
      refine tm_callV (M := m_X12_fold) (pc := 143) (ix := 463) (M' := m_X12_putsIn) (As := [.int (iI (220 * r + k))]) (rest := []) dX12_fold_143 ok_X12_putsIn im_X12_putsIn se_X12_putsIn ml12_463 np_X12_putsIn rfl rfl (Nat.le_of_ble_eq_true rfl) (Nat.le_of_ble_eq_true rfl) rfl (f_X12_putsIn (d) (σ := σ) (x := 220 * r + k) (F := F) (by omega) hR (hpar.fr hF (by decide)) hkn (by omega) hok) (fun r18 σ19 hp => ?_)
      obtain ⟨v20, rfl, f21, f22, f23, f24, f25, f26⟩ := hp
      show Tm _ _ 146 b σ19 [(6, .int (iI gs)), (5, .int (iI (220 * r + k))), (4, .int (iI k)), (3, .int (iI t)), (2, .int (iI w)), (0, .ref b), (1, .int (iI r))] [.int (iI v20)] _
      have hw1 := hw.puts (by omega) f25 f22 f24
      have hkn1 := hkn.fr f22 (by decide)
      have e3p : σ19.2.1 3 = σ.2.1 3 := f22.2.1 3 (by decide)
      have hq8 := hw1.ok.2.2.2.2.2.2.2.1 0 (by decide) (by decide)
      have hq1 := hw1.ok.2.2.2.2.2.2.2.1 1 (by decide) (by decide)
      rw [Int.add_zero] at hq8
      have hfo1 := hfo.off f25 (by omega) (f22.kn (by decide))
      have hpu := f26
      have fpu := f22
      clear f26
      refine tm_istore (L' := [(7, .int (iI v20)), (6, .int (iI gs)), (5, .int (iI (220 * r + k))), (4, .int (iI k)), (3, .int (iI t)), (2, .int (iI w)), (0, .ref b), (1, .int (iI r))]) dX12_fold_146 (by decide) rfl ?_
      refine tm_aload_n dX12_fold_148 rfl 6 rfl ?_
      refine tm_get (k := 3) (v := .ref (b + 1 + 1)) lay_12 dX12_fold_149 (by decide) fl12_13 rfl ?_
      refine tm_iload dX12_fold_152 2 rfl ?_
      refine tm_iald (z := 220 * r + k) (v := σ.2.1 3 (220 * r + k)) dX12_fold_154 (show mT[1]? = some (3, 0, 2860) from rfl) (by omega) (by omega) (by decide) (ra_F f22 (by decide) (rfl)) ?_
      have g27 := RG.a hR 3 (220 * r + k)
      refine tm_callS (M := m_X12_fold) (pc := 155) (ix := 196) (M' := m_X12_isFive) (As := [.int (iI (σ.2.1 3 (220 * r + k)))]) (rest := []) dX12_fold_155 ok_X12_isFive stt_X12_isFive ml12_196 np_X12_isFive rfl (Nat.le_of_ble_eq_true rfl) (Nat.le_of_ble_eq_true rfl) rfl (c_X12_isFive (d + 2) (σ := σ19) (x := σ.2.1 3 (220 * r + k)) (by omega)) (fun r28 σ29 hp => ?_)
      obtain ⟨v30, rfl, rfl, f31, f32⟩ := hp
      show Tm _ _ 158 b σ19 [(7, .int (iI v20)), (6, .int (iI gs)), (5, .int (iI (220 * r + k))), (4, .int (iI k)), (3, .int (iI t)), (2, .int (iI w)), (0, .ref b), (1, .int (iI r))] [.int (iI v30)] _
      refine tm_if_eq (tgt := 251) dX12_fold_158 (by decide) ⟨by omega, by omega⟩ (fun h33 => ?_) (fun h33 => ?_)
      · refine tm_sub [0, 1, 2, 3, 4, 5, 6, 7] rfl (f_fold251 (d + 2) (σ0 := σ19) (r := r) (k := k) (F := F) (ρ := ρ) hr f23 (by omega) (by rw [← hfi]; exact ⟨hnb.1, by show ¬ σ.2.1 3 (220 * r + k) = 12; omega⟩) (fun ce46 w47 gs48 t49 σ50 F39 R40 f41 f42 f43 f44 f45 => ?_) _ (v20) (w) (gs) (t) σ19 Fr.rfl f23 (by omega) hw1 hkn1 hfo1 (FOI.no hfi (by omega) fpu hpu (fun z => by rw [e3p] at z; omega)) rfl)
        show Tm _ _ 355 b σ50 [(6, .int (iI gs48)), (5, .int (iI (220 * r + k))), (4, .int (iI k)), (3, .int (iI t49)), (2, .int (iI w47)), (0, .ref b), (1, .int (iI r))] [] _
        exact tm_sub [0, 1, 2, 3, 4, 5, 6] rfl (hx_355 (w47) (gs48) (t49) σ50 (((Fr.rfl.trans (Fr.sub hF (by decide) (by decide) (by decide))).trans (Fr.sub f22 (by decide) (by decide) (by decide))).trans (Fr.sub F39 (by decide) (by decide) (by decide))) R40 (by omega) (by omega) f43 f44 f45)
      · refine tm_aload_n dX12_fold_161 rfl 6 rfl ?_
        refine tm_get (k := 7) (v := .ref (b + 1 + 5)) lay_12 dX12_fold_162 (by decide) fl12_26 rfl ?_
        refine tm_iconst dX12_fold_165 ?_
        refine tm_iload dX12_fold_166 2 rfl ?_
        refine tm_imul dX12_fold_168 ?_
        refine tm_iald (z := 4 * (220 * r + k)) (v := σ19.2.1 7 (4 * (220 * r + k))) dX12_fold_169 (show mT[5]? = some (7, 0, 11440) from rfl) (by omega) (by omega) (by decide) (rfl) ?_
        have g51 := RG.a f23 7 (4 * (220 * r + k))
        refine tm_iconst dX12_fold_170 ?_
        refine tm_icmp_ne (tgt := 251) dX12_fold_171 (by decide) ⟨by omega, by omega⟩ ⟨by decide, by decide⟩ (fun h52 => ?_) (fun h52 => ?_)
        · refine tm_sub [0, 1, 2, 3, 4, 5, 6, 7] rfl (f_fold251 (d + 2) (σ0 := σ19) (r := r) (k := k) (F := F) (ρ := ρ) hr f23 (by omega) (by rw [← hfi]; exact ⟨hnb.1, by show ¬ σ.2.1 3 (220 * r + k) = 12; omega⟩) (fun ce65 w66 gs67 t68 σ69 F58 R59 f60 f61 f62 f63 f64 => ?_) _ (v20) (w) (gs) (t) σ19 Fr.rfl f23 (by omega) hw1 hkn1 hfo1 (FOI.no hfi (by omega) fpu hpu (fun z => by rw [e3p] at z; omega)) rfl)
          show Tm _ _ 355 b σ69 [(6, .int (iI gs67)), (5, .int (iI (220 * r + k))), (4, .int (iI k)), (3, .int (iI t68)), (2, .int (iI w66)), (0, .ref b), (1, .int (iI r))] [] _
          exact tm_sub [0, 1, 2, 3, 4, 5, 6] rfl (hx_355 (w66) (gs67) (t68) σ69 (((Fr.rfl.trans (Fr.sub hF (by decide) (by decide) (by decide))).trans (Fr.sub f22 (by decide) (by decide) (by decide))).trans (Fr.sub F58 (by decide) (by decide) (by decide))) R59 (by omega) (by omega) f62 f63 f64)
        · refine tm_aload_n dX12_fold_174 rfl 6 rfl ?_
          refine tm_get (k := 7) (v := .ref (b + 1 + 5)) lay_12 dX12_fold_175 (by decide) fl12_26 rfl ?_
          refine tm_iconst dX12_fold_178 ?_
          refine tm_iload dX12_fold_179 2 rfl ?_
          refine tm_imul dX12_fold_181 ?_
          refine tm_iconst dX12_fold_182 ?_
          refine tm_iadd dX12_fold_183 ?_
          refine tm_iald (z := (4 * (220 * r + k)) + 1) (v := σ19.2.1 7 ((4 * (220 * r + k)) + 1)) dX12_fold_184 (show mT[5]? = some (7, 0, 11440) from rfl) (by omega) (by omega) (by decide) (rfl) ?_
          have g70 := RG.a f23 7 ((4 * (220 * r + k)) + 1)
          refine tm_iconst dX12_fold_185 ?_
          refine tm_icmp_ne (tgt := 251) dX12_fold_186 (by decide) ⟨by omega, by omega⟩ ⟨by decide, by decide⟩ (fun h71 => ?_) (fun h71 => ?_)
          · refine tm_sub [0, 1, 2, 3, 4, 5, 6, 7] rfl (f_fold251 (d + 2) (σ0 := σ19) (r := r) (k := k) (F := F) (ρ := ρ) hr f23 (by omega) (by rw [← hfi]; exact ⟨hnb.1, by show ¬ σ.2.1 3 (220 * r + k) = 12; omega⟩) (fun ce84 w85 gs86 t87 σ88 F77 R78 f79 f80 f81 f82 f83 => ?_) _ (v20) (w) (gs) (t) σ19 Fr.rfl f23 (by omega) hw1 hkn1 hfo1 (FOI.no hfi (by omega) fpu hpu (fun z => by rw [e3p] at z; omega)) rfl)
            show Tm _ _ 355 b σ88 [(6, .int (iI gs86)), (5, .int (iI (220 * r + k))), (4, .int (iI k)), (3, .int (iI t87)), (2, .int (iI w85)), (0, .ref b), (1, .int (iI r))] [] _
            exact tm_sub [0, 1, 2, 3, 4, 5, 6] rfl (hx_355 (w85) (gs86) (t87) σ88 (((Fr.rfl.trans (Fr.sub hF (by decide) (by decide) (by decide))).trans (Fr.sub f22 (by decide) (by decide) (by decide))).trans (Fr.sub F77 (by decide) (by decide) (by decide))) R78 (by omega) (by omega) f81 f82 f83)
          · refine tm_aload_n dX12_fold_189 rfl 6 rfl ?_
            refine tm_get (k := 3) (v := .ref (b + 1 + 1)) lay_12 dX12_fold_190 (by decide) fl12_13 rfl ?_
            refine tm_iload dX12_fold_193 2 rfl ?_
            refine tm_iald (z := 220 * r + k) (v := σ.2.1 3 (220 * r + k)) dX12_fold_195 (show mT[1]? = some (3, 0, 2860) from rfl) (by omega) (by omega) (by decide) (ra_F f22 (by decide) (rfl)) ?_
            have g89 := RG.a hR 3 (220 * r + k)
            refine tm_aload_n dX12_fold_196 rfl 6 rfl ?_
            refine tm_get (k := 8) (v := .ref (b + 1 + 6)) lay_12 dX12_fold_197 (by decide) fl12_29 rfl ?_
            refine tm_iconst dX12_fold_200 ?_
            refine tm_iload dX12_fold_201 2 rfl ?_
            refine tm_imul dX12_fold_203 ?_
            refine tm_iald (z := 4 * (220 * r + k)) (v := σ19.2.1 8 (4 * (220 * r + k))) dX12_fold_204 (show mT[6]? = some (8, 0, 11440) from rfl) (by omega) (by omega) (by decide) (rfl) ?_
            have g90 := RG.a f23 8 (4 * (220 * r + k))
            refine tm_aload_n dX12_fold_205 rfl 6 rfl ?_
            refine tm_get (k := 8) (v := .ref (b + 1 + 6)) lay_12 dX12_fold_206 (by decide) fl12_29 rfl ?_
            refine tm_iconst dX12_fold_209 ?_
            refine tm_iload dX12_fold_210 2 rfl ?_
            refine tm_imul dX12_fold_212 ?_
            refine tm_iconst dX12_fold_213 ?_
            refine tm_iadd dX12_fold_214 ?_
            refine tm_iald (z := (4 * (220 * r + k)) + 1) (v := σ19.2.1 8 ((4 * (220 * r + k)) + 1)) dX12_fold_215 (show mT[6]? = some (8, 0, 11440) from rfl) (by omega) (by omega) (by decide) (rfl) ?_
            have g91 := RG.a f23 8 ((4 * (220 * r + k)) + 1)
            refine tm_callS (M := m_X12_fold) (pc := 216) (ix := 466) (M' := m_X12_worked) (As := [.int (iI (σ.2.1 3 (220 * r + k))), .int (iI (σ19.2.1 8 (4 * (220 * r + k)))), .int (iI (σ19.2.1 8 ((4 * (220 * r + k)) + 1)))]) (rest := []) dX12_fold_216 ok_X12_worked stt_X12_worked ml12_466 np_X12_worked rfl (Nat.le_of_ble_eq_true rfl) (Nat.le_of_ble_eq_true rfl) rfl (f_X12_worked (d + 3) (σ := σ19) (k := σ.2.1 3 (220 * r + k)) (x := σ19.2.1 8 (4 * (220 * r + k))) (y := σ19.2.1 8 ((4 * (220 * r + k)) + 1)) (by omega) (by omega) (by omega) (by omega)) (fun r92 σ93 hp => ?_)
            obtain ⟨v94, rfl, rfl, f95, f96⟩ := hp
            show Tm _ _ 219 b σ19 [(7, .int (iI v20)), (6, .int (iI gs)), (5, .int (iI (220 * r + k))), (4, .int (iI k)), (3, .int (iI t)), (2, .int (iI w)), (0, .ref b), (1, .int (iI r))] [.int (iI v94)] _
            have hwk := f96
            refine tm_istore (L' := [(8, .int (iI v94)), (7, .int (iI v20)), (6, .int (iI gs)), (5, .int (iI (220 * r + k))), (4, .int (iI k)), (3, .int (iI t)), (2, .int (iI w)), (0, .ref b), (1, .int (iI r))]) dX12_fold_219 (by decide) rfl ?_
            refine tm_aload_n dX12_fold_221 rfl 7 rfl ?_
            refine tm_get (k := 3) (v := .ref (b + 1 + 1)) lay_12 dX12_fold_222 (by decide) fl12_13 rfl ?_
            refine tm_iload dX12_fold_225 3 rfl ?_
            refine tm_iconst dX12_fold_227 ?_
            refine tm_iast (z := 220 * r + k) (v := 0) dX12_fold_228 (show mT[1]? = some (3, 0, 2860) from rfl) (by omega) (by omega) (by decide) ?_
            refine tm_aload_n dX12_fold_229 rfl 7 rfl ?_
            refine tm_iload dX12_fold_230 3 rfl ?_
            refine tm_iconst dX12_fold_232 ?_
            refine tm_iconst dX12_fold_233 ?_
            refine tm_iload dX12_fold_234 0 rfl ?_
            refine tm_callV (M := m_X12_fold) (pc := 236) (ix := 298) (M' := m_X12_setArg) (As := [.int (iI (220 * r + k)), .int (iI 0), .int (iI 1), .int (iI v94)]) (rest := []) dX12_fold_236 ok_X12_setArg im_X12_setArg se_X12_setArg ml12_298 np_X12_setArg rfl rfl (Nat.le_of_ble_eq_true rfl) (Nat.le_of_ble_eq_true rfl) rfl (c_X12_setArg (d + 3) (σ := (sA 3 (220 * r + k) (0) σ19)) (x := 220 * r + k) (i := 0) (k := 1) (w := v94) (by omega)) (fun r97 σ98 hp => ?_)
            obtain ⟨rfl, f100⟩ := hp
            subst f100
            show Tm _ _ 239 b (fArg (220 * r + k) (0) (1) (v94) (sA 3 (220 * r + k) (0) σ19)) [(8, .int (iI v94)), (7, .int (iI v20)), (6, .int (iI gs)), (5, .int (iI (220 * r + k))), (4, .int (iI k)), (3, .int (iI t)), (2, .int (iI w)), (0, .ref b), (1, .int (iI r))] [] _
            refine tm_aload_n dX12_fold_239 rfl 7 rfl ?_
            refine tm_iload dX12_fold_240 3 rfl ?_
            refine tm_iconst dX12_fold_242 ?_
            refine tm_iconst dX12_fold_243 ?_
            refine tm_iconst dX12_fold_244 ?_
            refine tm_callV (M := m_X12_fold) (pc := 245) (ix := 298) (M' := m_X12_setArg) (As := [.int (iI (220 * r + k)), .int (iI 1), .int (iI 0), .int (iI 0)]) (rest := []) dX12_fold_245 ok_X12_setArg im_X12_setArg se_X12_setArg ml12_298 np_X12_setArg rfl rfl (Nat.le_of_ble_eq_true rfl) (Nat.le_of_ble_eq_true rfl) rfl (c_X12_setArg (d + 3) (σ := (fArg (220 * r + k) (0) (1) (v94) (sA 3 (220 * r + k) (0) σ19))) (x := 220 * r + k) (i := 1) (k := 0) (w := 0) (by omega)) (fun r101 σ102 hp => ?_)
            obtain ⟨rfl, f104⟩ := hp
            subst f104
            show Tm _ _ 248 b (fArg (220 * r + k) (1) (0) (0) (fArg (220 * r + k) (0) (1) (v94) (sA 3 (220 * r + k) (0) σ19))) [(8, .int (iI v94)), (7, .int (iI v20)), (6, .int (iI gs)), (5, .int (iI (220 * r + k))), (4, .int (iI k)), (3, .int (iI t)), (2, .int (iI w)), (0, .ref b), (1, .int (iI r))] [] _
            refine tm_iconst dX12_fold_248 ?_
            refine tm_istore (L' := [(7, .int (iI 1)), (8, .int (iI v94)), (6, .int (iI gs)), (5, .int (iI (220 * r + k))), (4, .int (iI k)), (3, .int (iI t)), (2, .int (iI w)), (0, .ref b), (1, .int (iI r))]) dX12_fold_249 (by decide) rfl ?_
            refine tm_sub [0, 2, 3, 4, 5, 6, 7, 8] rfl (f_fold251 (d + 2) (σ0 := (fArg (220 * r + k) (1) (0) (0) (fArg (220 * r + k) (0) (1) (v94) (sA 3 (220 * r + k) (0) σ19)))) (r := r) (k := k) (F := F) (ρ := ρ) hr (((f23.A (by omega)).arg (by omega) (by omega)).arg (by omega) (by omega)) (by omega) (by rw [← hfi]; exact ⟨hnb.1, by show ¬ σ.2.1 3 (220 * r + k) = 12; omega⟩) (fun ce117 w118 gs119 t120 σ121 F110 R111 f112 f113 f114 f115 f116 => ?_) _ (1) (w) (gs) (t) (fArg (220 * r + k) (1) (0) (0) (fArg (220 * r + k) (0) (1) (v94) (sA 3 (220 * r + k) (0) σ19))) Fr.rfl (((f23.A (by omega)).arg (by omega) (by omega)).arg (by omega) (by omega)) (by omega) (hw1.cpy (by omega) (by rw [e3p]; omega)) (hkn1.fr (show Fr [] [3, 7, 8] [] _ (fCpy _ _ _ _) from fCpy_fr) (by decide)) (hfo1.off fCpy_off (by omega) (fCpy_fr.kn (by decide))) (FOI.yes hfi (by omega) fpu hpu (by rw [e3p]; omega) (by rw [e3p]; exact hwk)) rfl)
            show Tm _ _ 355 b σ121 [(6, .int (iI gs119)), (5, .int (iI (220 * r + k))), (4, .int (iI k)), (3, .int (iI t120)), (2, .int (iI w118)), (0, .ref b), (1, .int (iI r))] [] _
            exact tm_sub [0, 1, 2, 3, 4, 5, 6] rfl (hx_355 (w118) (gs119) (t120) σ121 ((((((Fr.rfl.trans (Fr.sub hF (by decide) (by decide) (by decide))).trans (Fr.sub f22 (by decide) (by decide) (by decide))).A (by decide)).trans (Fr.sub fArg_fr (by decide) (by decide) (by decide))).trans (Fr.sub fArg_fr (by decide) (by decide) (by decide))).trans (Fr.sub F110 (by decide) (by decide) (by decide))) R111 (by omega) (by omega) f114 f115 f116)
set_option maxHeartbeats 1000000 in
set_option maxRecDepth 20000 in
theorem f_fold (d : Nat) {b : Nat} {σ0 : MS} {r : Int} {F : Int} {post : Option Value → MS → Prop} (hr : 0 ≤ r ∧ r < 6) (hR0 : RG σ0) (hit : ITM σ0) (hpar : PAR σ0) (hok : OKS σ0 F r) (hx_361 : ∀ (w : Int) (t : Int) (k : Int) (σ : MS) , (Fr [] [3, 4, 5, 6, 7, 8, 60, 61] [] σ0 σ) → (RG σ) → (0 ≤ t ∧ t ≤ σ0.2.1 9 r ∧ 0 ≤ w ∧ w ≤ 220) → (FLP σ0 σ r F (σ0.2.1 9 r) t) → (KNW σ) → (FOY σ0 σ r (σ0.2.1 9 r) t w) → Tm (d + 6) m_X12_fold 361 b σ [(4, .int (iI k)), (3, .int (iI t)), (2, .int (iI w)), (0, .ref b), (1, .int (iI r))] [] post) : ∀ (n : Nat) (w : Int) (t : Int) (k : Int) (σ : MS) , (Fr [] [3, 4, 5, 6, 7, 8, 60, 61] [] σ0 σ) → (RG σ) → (0 ≤ t ∧ t ≤ k ∧ k ≤ σ0.2.1 9 r ∧ 0 ≤ w ∧ w ≤ k) → (FLP σ0 σ r F k t) → (KNW σ) → (FOY σ0 σ r k t w) → (220 - k).toNat = n → Tm (d + 6) m_X12_fold 11 b σ [(4, .int (iI k)), (3, .int (iI t)), (2, .int (iI w)), (0, .ref b), (1, .int (iI r))] [] post := by
  intro n
  induction n using Nat.strongRecOn with
  | _ n ih =>
    intro w t k σ hF hR h0 hlp hkn hfo hm
    have q1 := hit r (by omega) (by omega)
    have q9 : σ.2.1 9 r = σ0.2.1 9 r := by rw [hF.2.1 9 (by decide)]
    refine tm_iload dX12_fold_11 0 rfl ?_
    refine tm_aload_n dX12_fold_13 rfl 3 rfl ?_
    refine tm_get (k := 9) (v := .ref (b + 1 + 7)) lay_12 dX12_fold_14 (by decide) fl12_32 rfl ?_
    refine tm_iload_n dX12_fold_17 rfl 4 rfl ?_
    refine tm_iald (z := r) (v := σ0.2.1 9 r) dX12_fold_18 (show mT[7]? = some (9, 0, 13) from rfl) (by omega) (by omega) (by decide) (ra_F hF (by decide) (rfl)) ?_
    have g1 := RG.a hR0 9 (r)
    refine tm_icmp_ge (tgt := 361) dX12_fold_19 (by decide) ⟨by omega, by omega⟩ ⟨by omega, by omega⟩ (fun h2 => ?_) (fun h2 => ?_)
    · exact tm_sub [0, 1, 2, 3, 4] rfl (hx_361 (w) (t) (k) σ (Fr.rfl.trans (Fr.sub hF (by decide) (by decide) (by decide))) hR (by omega) (by rw [show σ0.2.1 9 r = k by omega]; exact hlp) hkn (by rw [show σ0.2.1 9 r = k by omega]; exact hfo))
    · have hw := hlp.wk (by omega) (hok k (by omega) (by omega))
      have hok1 := hw.ok.1
      have ho8 := hw.ok.2.2.2.2.2.2.2.1 0 (by decide) (by decide)
      have ho9 := hw.ok.2.2.2.2.2.2.2.2
      rw [Int.add_zero] at ho8 ho9
      have hfi0 : rI σ (220 * r + k) = rV σ0 r k := by rw [rv_in (by omega) (by omega)]; exact (hlp.2.1 k (by omega) (by omega)).ri
      refine tm_aload_n dX12_fold_22 rfl 3 rfl ?_
      refine tm_iload_n dX12_fold_23 rfl 4 rfl ?_
      refine tm_iload dX12_fold_24 0 rfl ?_
      refine tm_callV (M := m_X12_fold) (pc := 26) (ix := 203) (M' := m_X12_at) (As := [.int (iI r), .int (iI k)]) (rest := []) dX12_fold_26 ok_X12_at im_X12_at se_X12_at ml12_203 np_X12_at rfl rfl (Nat.le_of_ble_eq_true rfl) (Nat.le_of_ble_eq_true rfl) rfl (c_X12_at (d + 4) (σ := σ) (x := r) (k := k) ) (fun r3 σ4 hp => ?_)
      obtain ⟨v5, rfl, rfl, f6⟩ := hp
      subst f6
      show Tm _ _ 29 b σ [(4, .int (iI k)), (3, .int (iI t)), (2, .int (iI w)), (0, .ref b), (1, .int (iI r))] [.int (iI (220 * r + k))] _
      refine tm_istore (L' := [(5, .int (iI (220 * r + k))), (4, .int (iI k)), (3, .int (iI t)), (2, .int (iI w)), (0, .ref b), (1, .int (iI r))]) dX12_fold_29 (by decide) rfl ?_
      refine tm_iconst dX12_fold_31 ?_
      refine tm_istore (L' := [(6, .int (iI 0)), (5, .int (iI (220 * r + k))), (4, .int (iI k)), (3, .int (iI t)), (2, .int (iI w)), (0, .ref b), (1, .int (iI r))]) dX12_fold_32 (by decide) rfl ?_
      refine tm_aload_n dX12_fold_34 rfl 5 rfl ?_
      refine tm_get (k := 3) (v := .ref (b + 1 + 1)) lay_12 dX12_fold_35 (by decide) fl12_13 rfl ?_
      refine tm_iload dX12_fold_38 1 rfl ?_
      refine tm_iald (z := 220 * r + k) (v := σ.2.1 3 (220 * r + k)) dX12_fold_40 (show mT[1]? = some (3, 0, 2860) from rfl) (by omega) (by omega) (by decide) (rfl) ?_
      have g7 := RG.a hR 3 (220 * r + k)
      refine tm_bipush dX12_fold_41 (by decide) ?_
      refine tm_icmp_ne (tgt := 53) dX12_fold_43 (by decide) ⟨by omega, by omega⟩ ⟨by decide, by decide⟩ (fun h8 => ?_) (fun h8 => ?_)
      · refine tm_aload_n dX12_fold_53 rfl 5 rfl ?_
        refine tm_get (k := 3) (v := .ref (b + 1 + 1)) lay_12 dX12_fold_54 (by decide) fl12_13 rfl ?_
        refine tm_iload dX12_fold_57 1 rfl ?_
        refine tm_iald (z := 220 * r + k) (v := σ.2.1 3 (220 * r + k)) dX12_fold_59 (show mT[1]? = some (3, 0, 2860) from rfl) (by omega) (by omega) (by decide) (rfl) ?_
        have g9 := RG.a hR 3 (220 * r + k)
        refine tm_bipush dX12_fold_60 (by decide) ?_
        refine tm_icmp_ne (tgt := 127) dX12_fold_62 (by decide) ⟨by omega, by omega⟩ ⟨by decide, by decide⟩ (fun h10 => ?_) (fun h10 => ?_)
        · refine tm_sub [0, 1, 2, 3, 4, 5, 6] rfl (f_fold127 (d + 1) (σ0 := σ) (r := r) (k := k) (F := F) (ρ := σ0) hr hR (hpar.fr hF (by decide)) (by omega) (fun w22 gs23 t24 σ25 F15 R16 f17 f18 f19 f20 f21 => ?_) _ (w) (0) (t) σ Fr.rfl hR (by omega) hw hkn hfo hfi0 ⟨by omega, fun a b c => by have e9 := ho9 a b; have e8 := (ho8.2 (by omega)).1; rw [kn_1 (by omega) (by omega)] at c; omega⟩ rfl)
          show Tm _ _ 355 b σ25 [(6, .int (iI gs23)), (5, .int (iI (220 * r + k))), (4, .int (iI k)), (3, .int (iI t24)), (2, .int (iI w22)), (0, .ref b), (1, .int (iI r))] [] _
          refine tm_iinc (q0 := 2) (L' := [(4, .int (iI (k + 1))), (6, .int (iI gs23)), (5, .int (iI (220 * r + k))), (3, .int (iI t24)), (2, .int (iI w22)), (0, .ref b), (1, .int (iI r))]) dX12_fold_355 rfl (by decide) rfl ?_
          refine tm_goto (tgt := 11) dX12_fold_358 (by decide) ?_
          exact tm_sub [0, 3, 4, 5, 6] rfl (ih _ (by omega) (w22) (t24) (k + 1) σ25 ((Fr.rfl.trans (Fr.sub hF (by decide) (by decide) (by decide))).trans (Fr.sub F15 (by decide) (by decide) (by decide))) R16 (by omega) f19 f20 f21 rfl)
        · refine tm_aload_n dX12_fold_65 rfl 5 rfl ?_
          refine tm_get (k := 6) (v := .ref (b + 1 + 4)) lay_12 dX12_fold_66 (by decide) fl12_23 rfl ?_
          refine tm_iload dX12_fold_69 1 rfl ?_
          refine tm_iald (z := 220 * r + k) (v := σ.2.1 6 (220 * r + k)) dX12_fold_71 (show mT[4]? = some (6, 0, 2860) from rfl) (by omega) (by omega) (by decide) (rfl) ?_
          have g26 := RG.a hR 6 (220 * r + k)
          refine tm_iconst dX12_fold_72 ?_
          refine tm_icmp_ne (tgt := 127) dX12_fold_73 (by decide) ⟨by omega, by omega⟩ ⟨by decide, by decide⟩ (fun h32 => ?_) (fun h32 => ?_)
          · refine tm_sub [0, 1, 2, 3, 4, 5, 6] rfl (f_fold127 (d + 1) (σ0 := σ) (r := r) (k := k) (F := F) (ρ := σ0) hr hR (hpar.fr hF (by decide)) (by omega) (fun w44 gs45 t46 σ47 F37 R38 f39 f40 f41 f42 f43 => ?_) _ (w) (0) (t) σ Fr.rfl hR (by omega) hw hkn hfo hfi0 ⟨by omega, fun a b c => by have e9 := ho9 a b; have e8 := (ho8.2 (by omega)).1; rw [kn_1 (by omega) (by omega)] at c; omega⟩ rfl)
            show Tm _ _ 355 b σ47 [(6, .int (iI gs45)), (5, .int (iI (220 * r + k))), (4, .int (iI k)), (3, .int (iI t46)), (2, .int (iI w44)), (0, .ref b), (1, .int (iI r))] [] _
            refine tm_iinc (q0 := 2) (L' := [(4, .int (iI (k + 1))), (6, .int (iI gs45)), (5, .int (iI (220 * r + k))), (3, .int (iI t46)), (2, .int (iI w44)), (0, .ref b), (1, .int (iI r))]) dX12_fold_355 rfl (by decide) rfl ?_
            refine tm_goto (tgt := 11) dX12_fold_358 (by decide) ?_
            exact tm_sub [0, 3, 4, 5, 6] rfl (ih _ (by omega) (w44) (t46) (k + 1) σ47 ((Fr.rfl.trans (Fr.sub hF (by decide) (by decide) (by decide))).trans (Fr.sub F37 (by decide) (by decide) (by decide))) R38 (by omega) f41 f42 f43 rfl)
          · have hkk := ho9 (by omega) (by omega)
            refine tm_aload_n dX12_fold_76 rfl 5 rfl ?_
            refine tm_get (k := 60) (v := .ref (b + 1 + 38)) lay_12 dX12_fold_77 (by decide) fl12_133 rfl ?_
            refine tm_aload_n dX12_fold_80 rfl 5 rfl ?_
            refine tm_get (k := 8) (v := .ref (b + 1 + 6)) lay_12 dX12_fold_81 (by decide) fl12_29 rfl ?_
            refine tm_iconst dX12_fold_84 ?_
            refine tm_iload dX12_fold_85 1 rfl ?_
            refine tm_imul dX12_fold_87 ?_
            refine tm_iald (z := 4 * (220 * r + k)) (v := σ.2.1 8 (4 * (220 * r + k))) dX12_fold_88 (show mT[6]? = some (8, 0, 11440) from rfl) (by omega) (by omega) (by decide) (rfl) ?_
            have g48 := RG.a hR 8 (4 * (220 * r + k))
            refine tm_iald (z := σ.2.1 8 (4 * (220 * r + k))) (v := σ.2.1 60 (σ.2.1 8 (4 * (220 * r + k)))) dX12_fold_89 (show mT[38]? = some (60, 0, 192) from rfl) (by omega) (by omega) (by decide) (rfl) ?_
            have g49 := RG.a hR 60 (σ.2.1 8 (4 * (220 * r + k)))
            have := hkn (σ.2.1 8 (4 * (220 * r + k)))
            refine tm_iconst dX12_fold_90 ?_
            refine tm_icmp_ne (tgt := 127) dX12_fold_91 (by decide) ⟨by omega, by omega⟩ ⟨by decide, by decide⟩ (fun h50 => ?_) (fun h50 => ?_)
            · refine tm_sub [0, 1, 2, 3, 4, 5, 6] rfl (f_fold127 (d + 1) (σ0 := σ) (r := r) (k := k) (F := F) (ρ := σ0) hr hR (hpar.fr hF (by decide)) (by omega) (fun w62 gs63 t64 σ65 F55 R56 f57 f58 f59 f60 f61 => ?_) _ (w) (0) (t) σ Fr.rfl hR (by omega) hw hkn hfo hfi0 ⟨by omega, fun a b c => by have e9 := ho9 a b; have e8 := (ho8.2 (by omega)).1; rw [kn_1 (by omega) (by omega)] at c; omega⟩ rfl)
              show Tm _ _ 355 b σ65 [(6, .int (iI gs63)), (5, .int (iI (220 * r + k))), (4, .int (iI k)), (3, .int (iI t64)), (2, .int (iI w62)), (0, .ref b), (1, .int (iI r))] [] _
              refine tm_iinc (q0 := 2) (L' := [(4, .int (iI (k + 1))), (6, .int (iI gs63)), (5, .int (iI (220 * r + k))), (3, .int (iI t64)), (2, .int (iI w62)), (0, .ref b), (1, .int (iI r))]) dX12_fold_355 rfl (by decide) rfl ?_
              refine tm_goto (tgt := 11) dX12_fold_358 (by decide) ?_
              exact tm_sub [0, 3, 4, 5, 6] rfl (ih _ (by omega) (w62) (t64) (k + 1) σ65 ((Fr.rfl.trans (Fr.sub hF (by decide) (by decide) (by decide))).trans (Fr.sub F55 (by decide) (by decide) (by decide))) R56 (by omega) f59 f60 f61 rfl)
            · refine tm_aload_n dX12_fold_94 rfl 5 rfl ?_
              refine tm_get (k := 6) (v := .ref (b + 1 + 4)) lay_12 dX12_fold_95 (by decide) fl12_23 rfl ?_
              refine tm_iload dX12_fold_98 1 rfl ?_
              refine tm_iconst dX12_fold_100 ?_
              refine tm_iast (z := 220 * r + k) (v := 1) dX12_fold_101 (show mT[4]? = some (6, 0, 2860) from rfl) (by omega) (by omega) (by decide) ?_
              refine tm_aload_n dX12_fold_102 rfl 5 rfl ?_
              refine tm_iload dX12_fold_103 1 rfl ?_
              refine tm_iconst dX12_fold_105 ?_
              refine tm_iconst dX12_fold_106 ?_
              refine tm_aload_n dX12_fold_107 rfl 5 rfl ?_
              refine tm_get (k := 61) (v := .ref (b + 1 + 39)) lay_12 dX12_fold_108 (by decide) fl12_136 rfl ?_
              refine tm_aload_n dX12_fold_111 rfl 5 rfl ?_
              refine tm_get (k := 8) (v := .ref (b + 1 + 6)) lay_12 dX12_fold_112 (by decide) fl12_29 rfl ?_
              refine tm_iconst dX12_fold_115 ?_
              refine tm_iload dX12_fold_116 1 rfl ?_
              refine tm_imul dX12_fold_118 ?_
              refine tm_iald (z := 4 * (220 * r + k)) (v := σ.2.1 8 (4 * (220 * r + k))) dX12_fold_119 (show mT[6]? = some (8, 0, 11440) from rfl) (by omega) (by omega) (by decide) (ra_o (by decide) (rfl)) ?_
              have g66 := RG.a hR 8 (4 * (220 * r + k))
              refine tm_iald (z := σ.2.1 8 (4 * (220 * r + k))) (v := σ.2.1 61 (σ.2.1 8 (4 * (220 * r + k)))) dX12_fold_120 (show mT[39]? = some (61, 0, 192) from rfl) (by omega) (by omega) (by decide) (ra_o (by decide) (rfl)) ?_
              have g67 := RG.a hR 61 (σ.2.1 8 (4 * (220 * r + k)))
              refine tm_callV (M := m_X12_fold) (pc := 121) (ix := 298) (M' := m_X12_setArg) (As := [.int (iI (220 * r + k)), .int (iI 0), .int (iI 1), .int (iI (σ.2.1 61 (σ.2.1 8 (4 * (220 * r + k)))))]) (rest := []) dX12_fold_121 ok_X12_setArg im_X12_setArg se_X12_setArg ml12_298 np_X12_setArg rfl rfl (Nat.le_of_ble_eq_true rfl) (Nat.le_of_ble_eq_true rfl) rfl (c_X12_setArg (d + 4) (σ := (sA 6 (220 * r + k) (1) σ)) (x := 220 * r + k) (i := 0) (k := 1) (w := σ.2.1 61 (σ.2.1 8 (4 * (220 * r + k)))) (by omega)) (fun r68 σ69 hp => ?_)
              obtain ⟨rfl, f71⟩ := hp
              subst f71
              show Tm _ _ 124 b (fArg (220 * r + k) (0) (1) (σ.2.1 61 (σ.2.1 8 (4 * (220 * r + k)))) (sA 6 (220 * r + k) (1) σ)) [(6, .int (iI 0)), (5, .int (iI (220 * r + k))), (4, .int (iI k)), (3, .int (iI t)), (2, .int (iI w)), (0, .ref b), (1, .int (iI r))] [] _
              refine tm_goto (tgt := 335) dX12_fold_124 (by decide) ?_
              refine tm_sub [0, 1, 2, 3, 4, 5, 6] rfl (f_fold335 (d + 4) (σ0 := (fArg (220 * r + k) (0) (1) (σ.2.1 61 (σ.2.1 8 (4 * (220 * r + k)))) (sA 6 (220 * r + k) (1) σ))) (r := r) (k := k) (w := w) (gs := 0) (F := F) (ρ := σ0) hr (by omega) (by omega) (fun t80 σ81 F74 R75 f76 f77 f78 f79 => ?_) _ (t) (fArg (220 * r + k) (0) (1) (σ.2.1 61 (σ.2.1 8 (4 * (220 * r + k)))) (sA 6 (220 * r + k) (1) σ)) Fr.rfl ((hR.A (by omega)).arg (by omega) (by omega)) (by omega) (hw.bind (by omega) (by omega) (by omega)) (hkn.fr (show Fr [] [6, 7, 8] [] _ _ from Fr.trans (Fr.A Fr.rfl (by decide)) (fArg_fr.sub (by decide) (by decide) (by decide))) (by decide)) (FOX.bind hfo (by omega) (by omega) hfi0 (by omega) (by omega) rfl (by omega) (by omega)) rfl)
              show Tm _ _ 355 b σ81 [(6, .int (iI 0)), (5, .int (iI (220 * r + k))), (4, .int (iI k)), (3, .int (iI t80)), (2, .int (iI w)), (0, .ref b), (1, .int (iI r))] [] _
              refine tm_iinc (q0 := 2) (L' := [(4, .int (iI (k + 1))), (6, .int (iI 0)), (5, .int (iI (220 * r + k))), (3, .int (iI t80)), (2, .int (iI w)), (0, .ref b), (1, .int (iI r))]) dX12_fold_355 rfl (by decide) rfl ?_
              refine tm_goto (tgt := 11) dX12_fold_358 (by decide) ?_
              exact tm_sub [0, 3, 4, 5, 6] rfl (ih _ (by omega) (w) (t80) (k + 1) σ81 ((((Fr.rfl.trans (Fr.sub hF (by decide) (by decide) (by decide))).A (by decide)).trans (Fr.sub fArg_fr (by decide) (by decide) (by decide))).trans (Fr.sub F74 (by decide) (by decide) (by decide))) R75 (by omega) f77 f78 f79 rfl)
      · refine tm_aload_n dX12_fold_46 rfl 5 rfl ?_
        refine tm_callV (M := m_X12_fold) (pc := 47) (ix := 460) (M' := m_X12_forgetAll) (As := []) (rest := []) dX12_fold_47 ok_X12_forgetAll im_X12_forgetAll se_X12_forgetAll ml12_460 np_X12_forgetAll rfl rfl (Nat.le_of_ble_eq_true rfl) (Nat.le_of_ble_eq_true rfl) rfl (f_X12_forgetAll (d + 4) (σ := σ)  hR hkn) (fun r82 σ83 hp => ?_)
        obtain ⟨rfl, f85, f86, f87, f88⟩ := hp
        show Tm _ _ 50 b σ83 [(6, .int (iI 0)), (5, .int (iI (220 * r + k))), (4, .int (iI k)), (3, .int (iI t)), (2, .int (iI w)), (0, .ref b), (1, .int (iI r))] [] _
        refine tm_goto (tgt := 335) dX12_fold_50 (by decide) ?_
        refine tm_sub [0, 1, 2, 3, 4, 5, 6] rfl (f_fold335 (d + 4) (σ0 := σ83) (r := r) (k := k) (w := w) (gs := 0) (F := F) (ρ := σ0) hr (by omega) (by omega) (fun t97 σ98 F91 R92 f93 f94 f95 f96 => ?_) _ (t) σ83 Fr.rfl f86 (by omega) (hw.fr f85 (by decide)) f87 (FOX.lab hfo (by omega) hfi0 (by omega) f85 (by decide) f88) rfl)
        show Tm _ _ 355 b σ98 [(6, .int (iI 0)), (5, .int (iI (220 * r + k))), (4, .int (iI k)), (3, .int (iI t97)), (2, .int (iI w)), (0, .ref b), (1, .int (iI r))] [] _
        refine tm_iinc (q0 := 2) (L' := [(4, .int (iI (k + 1))), (6, .int (iI 0)), (5, .int (iI (220 * r + k))), (3, .int (iI t97)), (2, .int (iI w)), (0, .ref b), (1, .int (iI r))]) dX12_fold_355 rfl (by decide) rfl ?_
        refine tm_goto (tgt := 11) dX12_fold_358 (by decide) ?_
        exact tm_sub [0, 3, 4, 5, 6] rfl (ih _ (by omega) (w) (t97) (k + 1) σ98 (((Fr.rfl.trans (Fr.sub hF (by decide) (by decide) (by decide))).trans (Fr.sub f85 (by decide) (by decide) (by decide))).trans (Fr.sub F91 (by decide) (by decide) (by decide))) R92 (by omega) f94 f95 f96 rfl)
end
section
set_option maxHeartbeats 1000000 in
set_option maxRecDepth 20000 in
theorem f_X12_fold (d : Nat) {b : Nat} {σ : MS} {r : Int} {F : Int} (hr : 0 ≤ r ∧ r < 6) (hR : RG σ) (hit : ITM σ) (hpar : PAR σ) (hok : OKS σ F r) (hkn : KNW σ) (hn : 1 ≤ σ.2.1 9 r) (hcd : CODE σ r) (hlex : LEX σ r) (hlm : LBM σ r) : Tm (d + 6) m_X12_fold 0 b σ [(0, .ref b), (1, .int (iI r))] [] (fun ro σ2 => ∃ v : Int, ro = some (.int (iI v)) ∧ (Fr [] [3, 4, 5, 6, 7, 8, 9, 60, 61] [] σ σ2) ∧ (RG σ2) ∧ ((1 ≤ σ2.2.1 9 r ∧ σ2.2.1 9 r ≤ σ.2.1 9 r) ∧ ∀ j, j ≠ r → σ2.2.1 9 j = σ.2.1 9 j) ∧ (XO r σ σ2) ∧ (OKS σ2 F r) ∧ (CODE σ2 r) ∧ (LEX σ2 r) ∧ (LBM σ2 r) ∧ (KNW σ2) ∧ (∃ K, foS (rV σ r) (σ.2.1 9 r).toNat = (K, σ2.2.1 9 r, v, rV σ2 r))) := by
  have q1 := hit r (by omega) (by omega)
  refine tm_iconst dX12_fold_0 ?_
  refine tm_istore_n (L' := [(2, .int (iI 0)), (0, .ref b), (1, .int (iI r))]) dX12_fold_1 rfl (by decide) rfl ?_
  refine tm_iconst dX12_fold_2 ?_
  refine tm_istore_n (L' := [(3, .int (iI 0)), (2, .int (iI 0)), (0, .ref b), (1, .int (iI r))]) dX12_fold_3 rfl (by decide) rfl ?_
  refine tm_aload_n dX12_fold_4 rfl 2 rfl ?_
  refine tm_callV (M := m_X12_fold) (pc := 5) (ix := 460) (M' := m_X12_forgetAll) (As := []) (rest := []) dX12_fold_5 ok_X12_forgetAll im_X12_forgetAll se_X12_forgetAll ml12_460 np_X12_forgetAll rfl rfl (Nat.le_of_ble_eq_true rfl) (Nat.le_of_ble_eq_true rfl) rfl (f_X12_forgetAll (d + 4) (σ := σ)  hR hkn) (fun r1 σ2 hp => ?_)
  obtain ⟨rfl, f4, f5, f6, f7⟩ := hp
  show Tm _ _ 8 b σ2 [(3, .int (iI 0)), (2, .int (iI 0)), (0, .ref b), (1, .int (iI r))] [] _
  refine tm_iconst dX12_fold_8 ?_
  refine tm_istore (L' := [(4, .int (iI 0)), (3, .int (iI 0)), (2, .int (iI 0)), (0, .ref b), (1, .int (iI r))]) dX12_fold_9 (by decide) rfl ?_
  refine tm_sub [0, 1, 2, 3, 4] rfl (f_fold (d) (σ0 := σ2) (r := r) (F := F) hr f5 (hit.fr (show Fr [] [60] [] σ σ2 from (Fr.rfl.trans (Fr.sub f4 (by decide) (by decide) (by decide)))) (by decide)) (hpar.fr (show Fr [] [60] [] σ σ2 from (Fr.rfl.trans (Fr.sub f4 (by decide) (by decide) (by decide)))) (by decide)) (hok.fr (show Fr [] [60] [] σ σ2 from (Fr.rfl.trans (Fr.sub f4 (by decide) (by decide) (by decide)))) (by decide)) (fun w18 t19 k20 σ21 F12 R13 f14 f15 f16 f17 => ?_) _ (0) (0) (0) σ2 Fr.rfl f5 (by rw [((show Fr [] [60] [] σ σ2 from (Fr.rfl.trans (Fr.sub f4 (by decide) (by decide) (by decide))))).2.1 9 (by decide)]; omega) FLP.start f6 (FOY.start f7) rfl)
  show Tm _ _ 361 b σ21 [(4, .int (iI k20)), (3, .int (iI t19)), (2, .int (iI w18)), (0, .ref b), (1, .int (iI r))] [] _
  have e9 : σ2.2.1 9 r = σ.2.1 9 r := by rw [((show Fr [] [60] [] σ σ2 from (Fr.rfl.trans (Fr.sub f4 (by decide) (by decide) (by decide))))).2.1 9 (by decide)]
  have hfin := FLP.fin f15 ⟨rfl, by omega⟩ F12 (hcd.fr (show Fr [] [60] [] σ σ2 from (Fr.rfl.trans (Fr.sub f4 (by decide) (by decide) (by decide)))) (by decide) (by decide)) (hlex.fr (show Fr [] [60] [] σ σ2 from (Fr.rfl.trans (Fr.sub f4 (by decide) (by decide) (by decide)))) (by decide)) (hlm.fr (show Fr [] [60] [] σ σ2 from (Fr.rfl.trans (Fr.sub f4 (by decide) (by decide) (by decide)))) (by decide))
  have hxo := (XO.fr (r := r) (show Fr [] [60] [] σ σ2 from (Fr.rfl.trans (Fr.sub f4 (by decide) (by decide) (by decide)))) (by decide)).trans f15.2.2.1
  have hkn2 := f16
  have hfo2 := FOY.fin f17 (rv_fr (show Fr [] [60] [] σ σ2 from (Fr.rfl.trans (Fr.sub f4 (by decide) (by decide) (by decide)))) (by decide)) e9
  refine tm_aload_n dX12_fold_361 rfl 3 rfl ?_
  refine tm_get (k := 9) (v := .ref (b + 1 + 7)) lay_12 dX12_fold_362 (by decide) fl12_32 rfl ?_
  refine tm_iload_n dX12_fold_365 rfl 4 rfl ?_
  refine tm_iload_n dX12_fold_366 rfl 1 rfl ?_
  refine tm_iast (z := r) (v := t19) dX12_fold_367 (show mT[7]? = some (9, 0, 13) from rfl) (by omega) (by omega) (by decide) ?_
  refine tm_iload_n dX12_fold_368 rfl 2 rfl ?_
  exact tm_iret rfl dX12_fold_369 (⟨_, rfl, (((Fr.rfl.trans (Fr.sub f4 (by decide) (by decide) (by decide))).trans (Fr.sub F12 (by decide) (by decide) (by decide))).A (by decide)), (R13.A (by omega)), ⟨by rw [show (sA 9 (r) (t19) σ21).2.1 9 r = t19 from ra_eq]; omega, fun j hj => ra_ne hj (by rw [((show Fr [] [3, 4, 5, 6, 7, 8, 60, 61] [] σ σ21 from ((Fr.rfl.trans (Fr.sub f4 (by decide) (by decide) (by decide))).trans (Fr.sub F12 (by decide) (by decide) (by decide))))).2.1 9 (by decide)])⟩, hxo.trans (XO.fr ((Fr.rfl (ss := []) (ks := [9]) (js := [])).A (by decide)) (by decide)), hfin.2.2.2.2, hfin.1, hfin.2.2.1, hfin.2.2.2.1, hkn2.fr ((Fr.rfl (ss := []) (ks := [9]) (js := [])).A (by decide)) (by decide), hfo2⟩)
end
section
def wrT (i : It) (g : Int) : Prop := (i 0 ≤ 5 ∨ i 0 = 10) ∧ i 1 = g
def rdI (i : It) (g : Int) : Prop := ∃ j, 0 ≤ j ∧ j < 4 ∧ i (3 + 2 * j) = 2 ∧ i (4 + 2 * j) = g
def nwB (V : Int → It) (a b g : Int) : Prop := ∀ i, a ≤ i → i ≤ b → ¬ wrT (V i) g
noncomputable def cN (P : Int → Prop) (a : Int) : Nat → Int
  | 0 => 0
  | n + 1 => cN P a n + dI (P (a + n)) 1 0
theorem cN_s {P : Int → Prop} {a k : Int} (h : a ≤ k) : cN P a (k + 1 - a).toNat = cN P a (k - a).toNat + dI (P k) 1 0 := by
  rw [show (k + 1 - a).toNat = (k - a).toNat + 1 by omega]
  show cN P a (k - a).toNat + dI (P (a + (((k - a).toNat : Nat) : Int))) 1 0 = _
  rw [show a + (((k - a).toNat : Nat) : Int) = k by omega]
theorem cN_0 {P : Int → Prop} {a : Int} {n : Nat} : 0 ≤ cN P a n ∧ (cN P a n = 0 ↔ ∀ i, a ≤ i → i < a + n → ¬ P i) := by
  induction n with
  | zero => exact ⟨Int.le_refl _, fun _ i a b => by omega, fun _ => rfl⟩
  | succ n ih =>
    show (0 ≤ cN P a n + dI (P (a + n)) 1 0) ∧ (cN P a n + dI (P (a + n)) 1 0 = 0 ↔ _)
    by_cases q : P (a + n)
    · rw [dI_y q]
      exact ⟨by omega, fun e => by omega, fun e => absurd q (e _ (by omega) (by omega))⟩
    · rw [dI_n q]
      refine ⟨by omega, fun e i x y => ?_, fun e => ?_⟩
      · by_cases w : i = a + n
        · subst w; exact q
        · exact ih.2.mp (by omega) i x (by omega)
      · have := ih.2.mpr (fun i x y => e i x (by omega)); omega
theorem cN_1 {P : Int → Prop} {a k : Int} {n : Nat} (h : P k) (h0 : a ≤ k) (h1 : k < a + n) : cN P a n = 1 ↔ ∀ i, a ≤ i → i < a + n → i ≠ k → ¬ P i := by
  induction n with
  | zero => omega
  | succ n ih =>
    show cN P a n + dI (P (a + n)) 1 0 = 1 ↔ _
    by_cases e : k = a + n
    · rw [← e, dI_y h]
      have q := (cN_0 (P := P) (a := a) (n := n)).2
      refine ⟨fun z i x y w => q.mp (by omega) i x (by omega), fun z => ?_⟩
      have := q.mpr (fun i x y => z i x (by omega) (by omega))
      omega
    · have ih := ih (by omega)
      by_cases q : P (a + n)
      · rw [dI_y q]
        have p := cN_0 (P := P) (a := a) (n := n)
        refine ⟨fun z i x y w => ?_, fun z => absurd q (z _ (by omega) (by omega) (fun w => e w.symm))⟩
        exact absurd h (p.2.mp (by omega) k h0 (by omega))
      · rw [dI_n q]
        refine ⟨fun z i x y w => ?_, fun z => ?_⟩
        · by_cases u : i = a + n
          · subst u; exact q
          · exact ih.mp (by omega) i x (by omega) w
        · have := ih.mpr (fun i x y => z i x (by omega)); omega
def wrA (σ : MS) (r g : Int) : Int → Prop := fun k => wrT (rI σ (220 * r + k)) g
theorem OKI.lean {σ : MS} {F x g : Int} (h : OKI σ F x) (hn : nArgs σ x ≤ 4) : LEAN σ x g ↔ rdI (rI σ x) g := by
  constructor
  · rintro ⟨i, a, b, c, e⟩
    exact ⟨i, a, by omega, by rw [riK a (by omega)]; exact c, by rw [riN a (by omega)]; exact e⟩
  · rintro ⟨i, a, b, c, e⟩
    rw [riK a b] at c
    rw [riN a b] at e
    exact ⟨i, a, ((h.2.2.2.2.2.2.2.1 i a b).2 c).2, c, e⟩
theorem nArgs_4 {σ : MS} {F x : Int} (h : OKI σ F x) (hp : PAR σ) : 0 ≤ nArgs σ x ∧ nArgs σ x ≤ 4 := by
  unfold nArgs
  by_cases e : σ.2.1 3 x = 10
  · rw [if_pos e]
    have q := h.2.2.2.2.2.2.1 e
    exact hp _ q.1 q.2
  · rw [if_neg e]
    (repeat' split) <;> omega
def twn (V : Int → It) (k j : Int) : Prop := (V j 0 = V k 0 ∧ V j 3 = V k 3 ∧ V j 4 = V k 4 ∧ V j 5 = V k 5 ∧ V j 6 = V k 6) ∧ ¬ rdI (V j) (V j 1) ∧ nwB V (j + 1) (k - 1) (V j 1) ∧ (V j 3 = 2 → nwB V (j + 1) (k - 1) (V j 4)) ∧ (V j 5 = 2 → nwB V (j + 1) (k - 1) (V j 6))
def noT (V : Int → It) (k j : Int) : Prop := ∀ i, j < i → i < k → V i 0 ≠ 13 ∧ ¬ twn V k i
def TWF (V : Int → It) (k j : Int) : Prop := 0 ≤ j ∧ j < k ∧ V j 0 ≠ 13 ∧ twn V k j ∧ noT V k j
theorem TWF.det {V : Int → It} {k i j : Int} (h : TWF V k i) (g : TWF V k j) : i = j := by
  by_cases a : i < j
  · exact absurd g.2.2.2.1 (h.2.2.2.2 j a g.2.1).2
  · by_cases b : j < i
    · exact absurd h.2.2.2.1 (g.2.2.2.2 i b h.2.1).2
    · omega
def isF (i : It) : Prop := 1 ≤ i 0 ∧ i 0 ≤ 5
def ALI (V : Int → It) (k : Int) (V' : Int → It) (d : Int) : Prop := (∃ j, isF (V k) ∧ TWF V k j ∧ V' = uZ V k (cpyI (V k) 2 (V j 1)) ∧ d = 1) ∨ ((isF (V k) → ∀ j, ¬ TWF V k j) ∧ V' = V ∧ d = 0)
theorem ALI.det {V V1 V2 : Int → It} {k d1 d2 : Int} (h : ALI V k V1 d1) (g : ALI V k V2 d2) : V1 = V2 ∧ d1 = d2 := by
  rcases h with ⟨i, a, b, c, e⟩ | ⟨a, b, c⟩ <;> rcases g with ⟨j, p, q, r, s⟩ | ⟨p, q, r⟩
  · rw [b.det q] at c
    exact ⟨c.trans r.symm, e.trans s.symm⟩
  · exact absurd b (p a i)
  · exact absurd q (a p j)
  · exact ⟨b.trans q.symm, c.trans r.symm⟩
def ALS : Nat → (Int → It) → (Int → It) → Int → Prop
  | 0, V, V', w => V' = V ∧ w = 0
  | n + 1, V, V', w => ∃ V1 w1 d, ALS n V V1 w1 ∧ ALI V1 n V' d ∧ w = w1 + d
theorem ALS.det {n : Nat} {V V1 V2 : Int → It} {w1 w2 : Int} (h : ALS n V V1 w1) (g : ALS n V V2 w2) : V1 = V2 ∧ w1 = w2 := by
  induction n generalizing V1 V2 w1 w2 with
  | zero => exact ⟨h.1.trans g.1.symm, h.2.trans g.2.symm⟩
  | succ n ih =>
    obtain ⟨A, a, d, h1, h2, h3⟩ := h
    obtain ⟨B, b, e, g1, g2, g3⟩ := g
    obtain ⟨q1, q2⟩ := ih h1 g1
    subst q1
    obtain ⟨q3, q4⟩ := h2.det g2
    exact ⟨q3, by omega⟩
theorem ALS.s {k : Int} {V V1 V2 : Int → It} {w d : Int} (h : ALS k.toNat V V1 w) (h0 : 0 ≤ k) (g : ALI V1 k V2 d) : ALS (k + 1).toNat V V2 (w + d) := by
  rw [show (k + 1).toNat = k.toNat + 1 by omega]
  exact ⟨V1, w, d, h, by rw [show ((k.toNat : Nat) : Int) = k by omega]; exact g, rfl⟩
def STB (σ : MS) (r j k i : Int) : Prop := ¬ LEAN σ (220 * r + j) (σ.2.1 4 (220 * r + j)) ∧ (∀ u, j + 1 ≤ u → u ≤ k - 1 → ¬ wrA σ r (σ.2.1 4 (220 * r + j)) u) ∧ ∀ e, 0 ≤ e → e < i → σ.2.1 7 (4 * (220 * r + j) + e) = 2 → ∀ u, j + 1 ≤ u → u ≤ k - 1 → ¬ wrA σ r (σ.2.1 8 (4 * (220 * r + j) + e)) u
theorem STB.mono {σ : MS} {r j k i i2 : Int} (h : STB σ r j k i) (g : i2 ≤ i) : STB σ r j k i2 := ⟨h.1, h.2.1, fun e a b => h.2.2 e a (by omega)⟩
theorem STB.s {σ : MS} {r j k i : Int} (h0 : 0 ≤ i) : STB σ r j k (i + 1) ↔ STB σ r j k i ∧ (σ.2.1 7 (4 * (220 * r + j) + i) = 2 → ∀ u, j + 1 ≤ u → u ≤ k - 1 → ¬ wrA σ r (σ.2.1 8 (4 * (220 * r + j) + i)) u) := by
  constructor
  · intro h
    exact ⟨h.mono (by omega), h.2.2 i h0 (by omega)⟩
  · rintro ⟨h, g⟩
    refine ⟨h.1, h.2.1, fun e a b => ?_⟩
    by_cases q : e = i
    · subst q; exact g
    · exact h.2.2 e a (by omega)
theorem rv_at {σ : MS} {r k c : Int} (h0 : 0 ≤ k) (h1 : k < σ.2.1 9 r) : rV σ r k c = rI σ (220 * r + k) c := by rw [rv_in h0 h1]
theorem nwB_rv {σ : MS} {r a b g : Int} (ha : 0 ≤ a) (hb : b < σ.2.1 9 r) : nwB (rV σ r) a b g ↔ ∀ u, a ≤ u → u ≤ b → ¬ wrA σ r g u := by
  unfold nwB wrA
  constructor
  · intro h u x y
    have := h u x y
    rw [rv_in (by omega) (by omega)] at this
    exact this
  · intro h u x y
    rw [rv_in (by omega) (by omega)]
    exact h u x y
theorem twn_rv {σ : MS} {r F j k : Int} (h0 : 0 ≤ j) (h1 : j < k) (h2 : k < σ.2.1 9 r) (ho : OKI σ F (220 * r + j)) (hp : PAR σ) : twn (rV σ r) k j ↔ ((σ.2.1 3 (220 * r + j) = σ.2.1 3 (220 * r + k)) ∧ ∀ i, 0 ≤ i → i < 2 → σ.2.1 7 (4 * (220 * r + j) + i) = σ.2.1 7 (4 * (220 * r + k) + i) ∧ σ.2.1 8 (4 * (220 * r + j) + i) = σ.2.1 8 (4 * (220 * r + k) + i)) ∧ STB σ r j k 2 := by
  unfold twn STB
  rw [nwB_rv (by omega) (by omega), nwB_rv (by omega) (by omega), nwB_rv (by omega) (by omega), rv_in h0 (by omega), rv_in (k := k) (by omega) h2, ho.lean (nArgs_4 ho hp).2]
  simp only [ri0, ri1, ri3, ri4, ri5, ri6]
  constructor
  · rintro ⟨⟨a, b, c, d, e⟩, f, g, h, i⟩
    refine ⟨⟨a, fun u x y => ?_⟩, f, g, fun u x y => ?_⟩
    · have q : u = 0 ∨ u = 1 := by omega
      rcases q with rfl | rfl
      · exact ⟨b, c⟩
      · exact ⟨d, e⟩
    · have q : u = 0 ∨ u = 1 := by omega
      rcases q with rfl | rfl
      · exact h
      · exact i
  · rintro ⟨⟨a, b⟩, f, g, h⟩
    exact ⟨⟨a, (b 0 (by decide) (by decide)).1, (b 0 (by decide) (by decide)).2, (b 1 (by decide) (by decide)).1, (b 1 (by decide) (by decide)).2⟩, f, g, h 0 (by decide) (by decide), h 1 (by decide) (by decide)⟩
theorem rv_off {σ τ : MS} {r k : Int} (o : OFF (220 * r + k) σ τ) (h0 : 0 ≤ k) (h1 : k < σ.2.1 9 r) : rV τ r = uZ (rV σ r) k (rI τ (220 * r + k)) := by
  funext j
  by_cases e : j = k
  · rw [e, uZ_eq]
    exact rv_in h0 (by rw [o.2.2.1]; exact h1)
  · rw [uZ_ne e]
    unfold rV
    rw [o.2.2.1, o.ri (by omega)]
theorem cpy2_ri {σ : MS} {x k v : Int} : rI (fCpy x k v σ) x = cpyI (rI σ x) k v := by
  unfold fCpy cpyI
  rw [ri_arg1, ri_arg0, ri_A3]
theorem ALI.yes {σ : MS} {r k j : Int} (h0 : 0 ≤ j ∧ j < k) (h2 : k < σ.2.1 9 r) (h5 : 1 ≤ σ.2.1 3 (220 * r + k) ∧ σ.2.1 3 (220 * r + k) ≤ 5) (h13 : σ.2.1 3 (220 * r + j) ≠ 13) (ht : twn (rV σ r) k j) (hn : noT (rV σ r) k j) : ALI (rV σ r) k (rV (fCpy (220 * r + k) 2 (σ.2.1 4 (220 * r + j)) σ) r) 1 := by
  refine Or.inl ⟨j, ?_, ⟨h0.1, h0.2, ?_, ht, hn⟩, ?_, rfl⟩
  · unfold isF; rw [rv_in (by omega) h2]; exact h5
  · rw [rv_in h0.1 (by omega)]; exact h13
  · rw [rv_off fCpy_off (by omega) h2, cpy2_ri, rv_in (k := k) (by omega) h2, rv_in (k := j) h0.1 (by omega)]
    rfl
theorem ALI.no5 {V : Int → It} {k : Int} (h : ¬ isF (V k)) : ALI V k V 0 := Or.inr ⟨fun q => absurd q h, rfl, rfl⟩
theorem ALI.none {V : Int → It} {k j : Int} (hk : j < k) (hj : j < 0 ∨ V j 0 = 13) (hn : noT V k j) : ALI V k V 0 := by
  refine Or.inr ⟨fun _ i t => ?_, rfl, rfl⟩
  by_cases a : j < i
  · exact (hn i a t.2.1).2 t.2.2.2.1
  · rcases hj with q | q
    · have := t.1; omega
    · by_cases b : i = j
      · subst b
        exact t.2.2.1 q
      · exact (t.2.2.2.2 j (by omega) hk).1 q
theorem noT.s {V : Int → It} {k j : Int} (h : noT V k j) (g : V j 0 ≠ 13 ∧ ¬ twn V k j) : noT V k (j - 1) := fun i a b => by
  by_cases e : i = j
  · subst e; exact g
  · exact h i (by omega) b
theorem noT.start {V : Int → It} {k : Int} : noT V k (k - 1) := fun i a b => by omega
theorem wr0 {P : Int → Prop} {v a b : Int} (h : v = cN P a (b + 1 - a).toNat) (hv : v = 0) : ∀ u, a ≤ u → u ≤ b → ¬ P u := fun u x y => (cN_0 (P := P) (a := a) (n := (b + 1 - a).toNat)).2.mp (by omega) u x (by omega)
theorem wr0n {P : Int → Prop} {v a b : Int} (h : v = cN P a (b + 1 - a).toNat) (hv : ¬ v = 0) : ¬ ∀ u, a ≤ u → u ≤ b → ¬ P u := fun z => hv (by
  rw [h]
  exact (cN_0 (P := P) (a := a) (n := (b + 1 - a).toNat)).2.mpr (fun u x y => z u x (by omega)))
end
section
set_option maxHeartbeats 1000000 in
set_option maxRecDepth 20000 in
theorem f_written (d : Nat) {b : Nat} {σ : MS} {r : Int} {fr : Int} {to : Int} {g : Int} {post : Option Value → MS → Prop} (hr : 0 ≤ r ∧ r < 12) (hR : RG σ) (hto : -1 ≤ to ∧ to < 220 ∧ 0 ≤ fr) (h_g : -2147483648 ≤ g ∧ g ≤ 2147483647) (hx_44 : ∀ (n1 : Int) (k : Int) , (0 ≤ n1 ∧ n1 ≤ 221) → (n1 = cN (wrA σ r g) fr (to + 1 - fr).toNat) → Tm (d + 3) m_X12_written 44 b σ [(6, .int (iI k)), (5, .int (iI n1)), (0, .ref b), (1, .int (iI r)), (2, .int (iI fr)), (3, .int (iI to)), (4, .int (iI g))] [] post) : ∀ (n : Nat) (n1 : Int) (k : Int) , (0 ≤ n1 ∧ n1 ≤ k ∧ k ≤ 221 ∧ fr ≤ k ∧ (k ≤ to + 1 ∨ k = fr)) → (n1 = cN (wrA σ r g) fr (k - fr).toNat) → (221 - k).toNat = n → Tm (d + 3) m_X12_written 6 b σ [(6, .int (iI k)), (5, .int (iI n1)), (0, .ref b), (1, .int (iI r)), (2, .int (iI fr)), (3, .int (iI to)), (4, .int (iI g))] [] post := by
  intro n
  induction n using Nat.strongRecOn with
  | _ n ih =>
    intro n1 k h0 hc hm
    refine tm_iload dX12_written_6 0 rfl ?_
    refine tm_iload_n dX12_written_8 rfl 5 rfl ?_
    refine tm_icmp_gt (tgt := 44) dX12_written_9 (by decide) ⟨by omega, by omega⟩ ⟨by omega, by omega⟩ (fun h1 => ?_) (fun h1 => ?_)
    · exact tm_sub [0, 1, 2, 3, 4, 5, 6] rfl (hx_44 (n1) (k) (by omega) (by rw [show (to + 1 - fr).toNat = (k - fr).toNat by omega]; exact hc))
    · refine tm_iload dX12_written_12 1 rfl ?_
      refine tm_aload_n dX12_written_14 rfl 2 rfl ?_
      refine tm_aload_n dX12_written_15 rfl 2 rfl ?_
      refine tm_iload_n dX12_written_16 rfl 3 rfl ?_
      refine tm_iload dX12_written_17 0 rfl ?_
      refine tm_callV (M := m_X12_written) (pc := 19) (ix := 203) (M' := m_X12_at) (As := [.int (iI r), .int (iI k)]) (rest := [.ref b, .int (iI n1)]) dX12_written_19 ok_X12_at im_X12_at se_X12_at ml12_203 np_X12_at rfl rfl (Nat.le_of_ble_eq_true rfl) (Nat.le_of_ble_eq_true rfl) rfl (c_X12_at (d + 1) (σ := σ) (x := r) (k := k) ) (fun r2 σ3 hp => ?_)
      obtain ⟨v4, rfl, rfl, f5⟩ := hp
      subst f5
      show Tm _ _ 22 b σ [(6, .int (iI k)), (5, .int (iI n1)), (0, .ref b), (1, .int (iI r)), (2, .int (iI fr)), (3, .int (iI to)), (4, .int (iI g))] [.int (iI (220 * r + k)), .ref b, .int (iI n1)] _
      refine tm_iload dX12_written_22 6 rfl ?_
      refine tm_callV (M := m_X12_written) (pc := 24) (ix := 436) (M' := m_X12_writesTo) (As := [.int (iI (220 * r + k)), .int (iI g)]) (rest := [.int (iI n1)]) dX12_written_24 ok_X12_writesTo im_X12_writesTo se_X12_writesTo ml12_436 np_X12_writesTo rfl rfl (Nat.le_of_ble_eq_true rfl) (Nat.le_of_ble_eq_true rfl) rfl (c_X12_writesTo (d) (σ := σ) (x := 220 * r + k) (g := g) (by omega) hR (by omega)) (fun r6 σ7 hp => ?_)
      obtain ⟨v8, rfl, rfl, f9, f10⟩ := hp
      show Tm _ _ 27 b σ [(6, .int (iI k)), (5, .int (iI n1)), (0, .ref b), (1, .int (iI r)), (2, .int (iI fr)), (3, .int (iI to)), (4, .int (iI g))] [.int (iI v8), .int (iI n1)] _
      refine tm_if_eq (tgt := 34) dX12_written_27 (by decide) ⟨by omega, by omega⟩ (fun h11 => ?_) (fun h11 => ?_)
      · refine tm_iconst dX12_written_34 ?_
        refine tm_iadd dX12_written_35 ?_
        refine tm_istore (L' := [(5, .int (iI (n1 + 0))), (6, .int (iI k)), (0, .ref b), (1, .int (iI r)), (2, .int (iI fr)), (3, .int (iI to)), (4, .int (iI g))]) dX12_written_36 (by decide) rfl ?_
        refine tm_iinc (q0 := 1) (L' := [(6, .int (iI (k + 1))), (5, .int (iI (n1 + 0))), (0, .ref b), (1, .int (iI r)), (2, .int (iI fr)), (3, .int (iI to)), (4, .int (iI g))]) dX12_written_38 rfl (by decide) rfl ?_
        refine tm_goto (tgt := 6) dX12_written_41 (by decide) ?_
        exact tm_sub [0, 1, 2, 3, 4, 5, 6] rfl (ih _ (by omega) (n1 + 0) (k + 1) (by omega) (by rw [cN_s (by omega)]; first | (rw [dI_y (show wrA σ r g k from f10.mp (by omega))]; omega) | (rw [dI_n (show ¬ wrA σ r g k from fun z => by have e9 := f10.mpr z; omega)]; omega)) rfl)
      · refine tm_iconst dX12_written_30 ?_
        refine tm_goto (tgt := 35) dX12_written_31 (by decide) ?_
        refine tm_iadd dX12_written_35 ?_
        refine tm_istore (L' := [(5, .int (iI (n1 + 1))), (6, .int (iI k)), (0, .ref b), (1, .int (iI r)), (2, .int (iI fr)), (3, .int (iI to)), (4, .int (iI g))]) dX12_written_36 (by decide) rfl ?_
        refine tm_iinc (q0 := 1) (L' := [(6, .int (iI (k + 1))), (5, .int (iI (n1 + 1))), (0, .ref b), (1, .int (iI r)), (2, .int (iI fr)), (3, .int (iI to)), (4, .int (iI g))]) dX12_written_38 rfl (by decide) rfl ?_
        refine tm_goto (tgt := 6) dX12_written_41 (by decide) ?_
        exact tm_sub [0, 1, 2, 3, 4, 5, 6] rfl (ih _ (by omega) (n1 + 1) (k + 1) (by omega) (by rw [cN_s (by omega)]; first | (rw [dI_y (show wrA σ r g k from f10.mp (by omega))]; omega) | (rw [dI_n (show ¬ wrA σ r g k from fun z => by have e9 := f10.mpr z; omega)]; omega)) rfl)
set_option maxHeartbeats 1000000 in
set_option maxRecDepth 20000 in
theorem f_X12_written (d : Nat) {b : Nat} {σ : MS} {r : Int} {fr : Int} {to : Int} {g : Int} (hr : 0 ≤ r ∧ r < 12) (hR : RG σ) (hto : -1 ≤ to ∧ to < 220) (hfr : 0 ≤ fr ∧ fr ≤ 221) (h_g : -2147483648 ≤ g ∧ g ≤ 2147483647) : Tm (d + 3) m_X12_written 0 b σ [(0, .ref b), (1, .int (iI r)), (2, .int (iI fr)), (3, .int (iI to)), (4, .int (iI g))] [] (fun ro σ2 => ∃ v : Int, ro = some (.int (iI v)) ∧ σ = σ2 ∧ (0 ≤ v ∧ v ≤ 221) ∧ (v = cN (wrA σ r g) fr (to + 1 - fr).toNat)) := by
  refine tm_iconst dX12_written_0 ?_
  refine tm_istore (L' := [(5, .int (iI 0)), (0, .ref b), (1, .int (iI r)), (2, .int (iI fr)), (3, .int (iI to)), (4, .int (iI g))]) dX12_written_1 (by decide) rfl ?_
  refine tm_iload_n dX12_written_3 rfl 3 rfl ?_
  refine tm_istore (L' := [(6, .int (iI fr)), (5, .int (iI 0)), (0, .ref b), (1, .int (iI r)), (2, .int (iI fr)), (3, .int (iI to)), (4, .int (iI g))]) dX12_written_4 (by decide) rfl ?_
  refine tm_sub [0, 1, 2, 3, 4, 5, 6] rfl (f_written (d) (σ := σ) (r := r) (fr := fr) (to := to) (g := g) (by omega) hR (by omega) (by omega) (fun n17 k8 f5 f6 => ?_) _ (0) (fr) (by omega) (by rw [show (fr - fr).toNat = 0 by omega]; rfl) rfl)
  show Tm _ _ 44 b σ [(6, .int (iI k8)), (5, .int (iI n17)), (0, .ref b), (1, .int (iI r)), (2, .int (iI fr)), (3, .int (iI to)), (4, .int (iI g))] [] _
  refine tm_iload dX12_written_44 1 rfl ?_
  exact tm_iret rfl dX12_written_46 (⟨_, rfl, rfl, by omega, f6⟩)
set_option maxHeartbeats 1000000 in
set_option maxRecDepth 20000 in
theorem f_X12_isAlike (d : Nat) {b : Nat} {σ : MS} {x : Int} {y : Int} (hx : 0 ≤ x ∧ x < 2860) (hy : 0 ≤ y ∧ y < 2860) (hR : RG σ) : Tm (d + 1) m_X12_isAlike 0 b σ [(0, .ref b), (1, .int (iI x)), (2, .int (iI y))] [] (fun ro σ2 => ∃ v : Int, ro = some (.int (iI v)) ∧ σ = σ2 ∧ ((v = 0 ∨ v = 1)) ∧ ((v = 1 ↔ σ.2.1 3 x = σ.2.1 3 y ∧ ∀ i, 0 ≤ i → i < 2 → σ.2.1 7 (4 * x + i) = σ.2.1 7 (4 * y + i) ∧ σ.2.1 8 (4 * x + i) = σ.2.1 8 (4 * y + i)))) := by
  refine tm_aload_n dX12_isAlike_0 rfl 0 rfl ?_
  refine tm_get (k := 3) (v := .ref (b + 1 + 1)) lay_12 dX12_isAlike_1 (by decide) fl12_13 rfl ?_
  refine tm_iload_n dX12_isAlike_4 rfl 1 rfl ?_
  refine tm_iald (z := x) (v := σ.2.1 3 x) dX12_isAlike_5 (show mT[1]? = some (3, 0, 2860) from rfl) (by omega) (by omega) (by decide) (rfl) ?_
  have g1 := RG.a hR 3 (x)
  refine tm_aload_n dX12_isAlike_6 rfl 0 rfl ?_
  refine tm_get (k := 3) (v := .ref (b + 1 + 1)) lay_12 dX12_isAlike_7 (by decide) fl12_13 rfl ?_
  refine tm_iload_n dX12_isAlike_10 rfl 2 rfl ?_
  refine tm_iald (z := y) (v := σ.2.1 3 y) dX12_isAlike_11 (show mT[1]? = some (3, 0, 2860) from rfl) (by omega) (by omega) (by decide) (rfl) ?_
  have g2 := RG.a hR 3 (y)
  refine tm_icmp_eq (tgt := 17) dX12_isAlike_12 (by decide) ⟨by omega, by omega⟩ ⟨by omega, by omega⟩ (fun h3 => ?_) (fun h3 => ?_)
  · refine tm_iconst dX12_isAlike_17 ?_
    refine tm_istore_n (L' := [(3, .int (iI 0)), (0, .ref b), (1, .int (iI x)), (2, .int (iI y))]) dX12_isAlike_18 rfl (by decide) rfl ?_
    refine tm_iload_n dX12_isAlike_19 rfl 0 rfl ?_
    refine tm_iconst dX12_isAlike_20 ?_
    refine tm_icmp_ge (tgt := 78) dX12_isAlike_21 (by decide) ⟨by decide, by decide⟩ ⟨by decide, by decide⟩ (fun h => absurd h (by decide)) (fun _ => ?_)
    refine tm_aload_n dX12_isAlike_24 rfl 1 rfl ?_
    refine tm_get (k := 7) (v := .ref (b + 1 + 5)) lay_12 dX12_isAlike_25 (by decide) fl12_26 rfl ?_
    refine tm_iconst dX12_isAlike_28 ?_
    refine tm_iload_n dX12_isAlike_29 rfl 2 rfl ?_
    refine tm_imul dX12_isAlike_30 ?_
    refine tm_iload_n dX12_isAlike_31 rfl 0 rfl ?_
    refine tm_iadd dX12_isAlike_32 ?_
    refine tm_iald (z := (4 * x) + 0) (v := σ.2.1 7 ((4 * x) + 0)) dX12_isAlike_33 (show mT[5]? = some (7, 0, 11440) from rfl) (by omega) (by omega) (by decide) (rfl) ?_
    have g5 := RG.a hR 7 ((4 * x) + 0)
    refine tm_aload_n dX12_isAlike_34 rfl 1 rfl ?_
    refine tm_get (k := 7) (v := .ref (b + 1 + 5)) lay_12 dX12_isAlike_35 (by decide) fl12_26 rfl ?_
    refine tm_iconst dX12_isAlike_38 ?_
    refine tm_iload_n dX12_isAlike_39 rfl 3 rfl ?_
    refine tm_imul dX12_isAlike_40 ?_
    refine tm_iload_n dX12_isAlike_41 rfl 0 rfl ?_
    refine tm_iadd dX12_isAlike_42 ?_
    refine tm_iald (z := (4 * y) + 0) (v := σ.2.1 7 ((4 * y) + 0)) dX12_isAlike_43 (show mT[5]? = some (7, 0, 11440) from rfl) (by omega) (by omega) (by decide) (rfl) ?_
    have g6 := RG.a hR 7 ((4 * y) + 0)
    refine tm_icmp_ne (tgt := 70) dX12_isAlike_44 (by decide) ⟨by omega, by omega⟩ ⟨by omega, by omega⟩ (fun h7 => ?_) (fun h7 => ?_)
    · refine tm_iconst dX12_isAlike_70 ?_
      exact tm_zret (v := 0) rfl (by decide) dX12_isAlike_71 (⟨_, rfl, rfl, Or.inl rfl, fun h => absurd h (by decide), fun z => by
      have e0 := z.2 0 (by decide) (by decide)
      have e1 := z.2 1 (by decide) (by decide)
      have e3 := z.1
      omega⟩)
    · refine tm_aload_n dX12_isAlike_47 rfl 1 rfl ?_
      refine tm_get (k := 8) (v := .ref (b + 1 + 6)) lay_12 dX12_isAlike_48 (by decide) fl12_29 rfl ?_
      refine tm_iconst dX12_isAlike_51 ?_
      refine tm_iload_n dX12_isAlike_52 rfl 2 rfl ?_
      refine tm_imul dX12_isAlike_53 ?_
      refine tm_iload_n dX12_isAlike_54 rfl 0 rfl ?_
      refine tm_iadd dX12_isAlike_55 ?_
      refine tm_iald (z := (4 * x) + 0) (v := σ.2.1 8 ((4 * x) + 0)) dX12_isAlike_56 (show mT[6]? = some (8, 0, 11440) from rfl) (by omega) (by omega) (by decide) (rfl) ?_
      have g8 := RG.a hR 8 ((4 * x) + 0)
      refine tm_aload_n dX12_isAlike_57 rfl 1 rfl ?_
      refine tm_get (k := 8) (v := .ref (b + 1 + 6)) lay_12 dX12_isAlike_58 (by decide) fl12_29 rfl ?_
      refine tm_iconst dX12_isAlike_61 ?_
      refine tm_iload_n dX12_isAlike_62 rfl 3 rfl ?_
      refine tm_imul dX12_isAlike_63 ?_
      refine tm_iload_n dX12_isAlike_64 rfl 0 rfl ?_
      refine tm_iadd dX12_isAlike_65 ?_
      refine tm_iald (z := (4 * y) + 0) (v := σ.2.1 8 ((4 * y) + 0)) dX12_isAlike_66 (show mT[6]? = some (8, 0, 11440) from rfl) (by omega) (by omega) (by decide) (rfl) ?_
      have g9 := RG.a hR 8 ((4 * y) + 0)
      refine tm_icmp_eq (tgt := 72) dX12_isAlike_67 (by decide) ⟨by omega, by omega⟩ ⟨by omega, by omega⟩ (fun h10 => ?_) (fun h10 => ?_)
      · refine tm_iinc (q0 := 0) (L' := [(3, .int (iI 1)), (0, .ref b), (1, .int (iI x)), (2, .int (iI y))]) dX12_isAlike_72 rfl (by decide) rfl ?_
        refine tm_goto (tgt := 19) dX12_isAlike_75 (by decide) ?_
        refine tm_iload_n dX12_isAlike_19 rfl 0 rfl ?_
        refine tm_iconst dX12_isAlike_20 ?_
        refine tm_icmp_ge (tgt := 78) dX12_isAlike_21 (by decide) ⟨by decide, by decide⟩ ⟨by decide, by decide⟩ (fun h => absurd h (by decide)) (fun _ => ?_)
        refine tm_aload_n dX12_isAlike_24 rfl 1 rfl ?_
        refine tm_get (k := 7) (v := .ref (b + 1 + 5)) lay_12 dX12_isAlike_25 (by decide) fl12_26 rfl ?_
        refine tm_iconst dX12_isAlike_28 ?_
        refine tm_iload_n dX12_isAlike_29 rfl 2 rfl ?_
        refine tm_imul dX12_isAlike_30 ?_
        refine tm_iload_n dX12_isAlike_31 rfl 0 rfl ?_
        refine tm_iadd dX12_isAlike_32 ?_
        refine tm_iald (z := (4 * x) + 1) (v := σ.2.1 7 ((4 * x) + 1)) dX12_isAlike_33 (show mT[5]? = some (7, 0, 11440) from rfl) (by omega) (by omega) (by decide) (rfl) ?_
        have g12 := RG.a hR 7 ((4 * x) + 1)
        refine tm_aload_n dX12_isAlike_34 rfl 1 rfl ?_
        refine tm_get (k := 7) (v := .ref (b + 1 + 5)) lay_12 dX12_isAlike_35 (by decide) fl12_26 rfl ?_
        refine tm_iconst dX12_isAlike_38 ?_
        refine tm_iload_n dX12_isAlike_39 rfl 3 rfl ?_
        refine tm_imul dX12_isAlike_40 ?_
        refine tm_iload_n dX12_isAlike_41 rfl 0 rfl ?_
        refine tm_iadd dX12_isAlike_42 ?_
        refine tm_iald (z := (4 * y) + 1) (v := σ.2.1 7 ((4 * y) + 1)) dX12_isAlike_43 (show mT[5]? = some (7, 0, 11440) from rfl) (by omega) (by omega) (by decide) (rfl) ?_
        have g13 := RG.a hR 7 ((4 * y) + 1)
        refine tm_icmp_ne (tgt := 70) dX12_isAlike_44 (by decide) ⟨by omega, by omega⟩ ⟨by omega, by omega⟩ (fun h14 => ?_) (fun h14 => ?_)
        · refine tm_iconst dX12_isAlike_70 ?_
          exact tm_zret (v := 0) rfl (by decide) dX12_isAlike_71 (⟨_, rfl, rfl, Or.inl rfl, fun h => absurd h (by decide), fun z => by
      have e0 := z.2 0 (by decide) (by decide)
      have e1 := z.2 1 (by decide) (by decide)
      have e3 := z.1
      omega⟩)
        · refine tm_aload_n dX12_isAlike_47 rfl 1 rfl ?_
          refine tm_get (k := 8) (v := .ref (b + 1 + 6)) lay_12 dX12_isAlike_48 (by decide) fl12_29 rfl ?_
          refine tm_iconst dX12_isAlike_51 ?_
          refine tm_iload_n dX12_isAlike_52 rfl 2 rfl ?_
          refine tm_imul dX12_isAlike_53 ?_
          refine tm_iload_n dX12_isAlike_54 rfl 0 rfl ?_
          refine tm_iadd dX12_isAlike_55 ?_
          refine tm_iald (z := (4 * x) + 1) (v := σ.2.1 8 ((4 * x) + 1)) dX12_isAlike_56 (show mT[6]? = some (8, 0, 11440) from rfl) (by omega) (by omega) (by decide) (rfl) ?_
          have g15 := RG.a hR 8 ((4 * x) + 1)
          refine tm_aload_n dX12_isAlike_57 rfl 1 rfl ?_
          refine tm_get (k := 8) (v := .ref (b + 1 + 6)) lay_12 dX12_isAlike_58 (by decide) fl12_29 rfl ?_
          refine tm_iconst dX12_isAlike_61 ?_
          refine tm_iload_n dX12_isAlike_62 rfl 3 rfl ?_
          refine tm_imul dX12_isAlike_63 ?_
          refine tm_iload_n dX12_isAlike_64 rfl 0 rfl ?_
          refine tm_iadd dX12_isAlike_65 ?_
          refine tm_iald (z := (4 * y) + 1) (v := σ.2.1 8 ((4 * y) + 1)) dX12_isAlike_66 (show mT[6]? = some (8, 0, 11440) from rfl) (by omega) (by omega) (by decide) (rfl) ?_
          have g16 := RG.a hR 8 ((4 * y) + 1)
          refine tm_icmp_eq (tgt := 72) dX12_isAlike_67 (by decide) ⟨by omega, by omega⟩ ⟨by omega, by omega⟩ (fun h17 => ?_) (fun h17 => ?_)
          · refine tm_iinc (q0 := 0) (L' := [(3, .int (iI 2)), (0, .ref b), (1, .int (iI x)), (2, .int (iI y))]) dX12_isAlike_72 rfl (by decide) rfl ?_
            refine tm_goto (tgt := 19) dX12_isAlike_75 (by decide) ?_
            refine tm_iload_n dX12_isAlike_19 rfl 0 rfl ?_
            refine tm_iconst dX12_isAlike_20 ?_
            refine tm_icmp_ge (tgt := 78) dX12_isAlike_21 (by decide) ⟨by decide, by decide⟩ ⟨by decide, by decide⟩ (fun _ => ?_) (fun h => absurd h (by decide))
            refine tm_iconst dX12_isAlike_78 ?_
            exact tm_zret (v := 1) rfl (by decide) dX12_isAlike_79 (⟨_, rfl, rfl, Or.inr rfl, fun _ => ⟨by omega, fun i a b => by
      have e : i = 0 ∨ i = 1 := by omega
      rcases e with rfl | rfl <;> exact ⟨by omega, by omega⟩⟩, fun _ => rfl⟩)
          · refine tm_iconst dX12_isAlike_70 ?_
            exact tm_zret (v := 0) rfl (by decide) dX12_isAlike_71 (⟨_, rfl, rfl, Or.inl rfl, fun h => absurd h (by decide), fun z => by
      have e0 := z.2 0 (by decide) (by decide)
      have e1 := z.2 1 (by decide) (by decide)
      have e3 := z.1
      omega⟩)
      · refine tm_iconst dX12_isAlike_70 ?_
        exact tm_zret (v := 0) rfl (by decide) dX12_isAlike_71 (⟨_, rfl, rfl, Or.inl rfl, fun h => absurd h (by decide), fun z => by
      have e0 := z.2 0 (by decide) (by decide)
      have e1 := z.2 1 (by decide) (by decide)
      have e3 := z.1
      omega⟩)
  · refine tm_iconst dX12_isAlike_15 ?_
    exact tm_zret (v := 0) rfl (by decide) dX12_isAlike_16 (⟨_, rfl, rfl, Or.inl rfl, fun h => absurd h (by decide), fun z => by
      have e0 := z.2 0 (by decide) (by decide)
      have e1 := z.2 1 (by decide) (by decide)
      have e3 := z.1
      omega⟩)
set_option maxHeartbeats 1000000 in
set_option maxRecDepth 20000 in
theorem f_stands (d : Nat) {b : Nat} {σ : MS} {r : Int} {F : Int} {j : Int} {k : Int} {post : Option Value → MS → Prop} (hr : 0 ≤ r ∧ r < 6) (hR : RG σ) (hit : ITM σ) (hpar : PAR σ) (hok : OKS σ F r) (hk : 0 ≤ j ∧ j < k ∧ k ≤ σ.2.1 9 r) (hx_121 : ∀ (w : Int) (i : Int) , (w = 0 ∨ w = 1) → (w = 1 ↔ STB σ r j k 2) → Tm (d + 4) m_X12_stands 121 b σ [(6, .int (iI i)), (5, .int (iI w)), (4, .int (iI (220 * r + j))), (0, .ref b), (1, .int (iI r)), (2, .int (iI j)), (3, .int (iI k))] [] post) : ∀ (n : Nat) (w : Int) (i : Int) , ((w = 0 ∨ w = 1) ∧ 0 ≤ i ∧ i ≤ 2) → (w = 1 ↔ STB σ r j k i) → (2 - i).toNat = n → Tm (d + 4) m_X12_stands 55 b σ [(6, .int (iI i)), (5, .int (iI w)), (4, .int (iI (220 * r + j))), (0, .ref b), (1, .int (iI r)), (2, .int (iI j)), (3, .int (iI k))] [] post := by
  intro n
  induction n using Nat.strongRecOn with
  | _ n ih =>
    intro w i h0 hs hm
    have q1 := hit r (by omega) (by omega)
    refine tm_iload dX12_stands_55 0 rfl ?_
    refine tm_iconst dX12_stands_57 ?_
    refine tm_icmp_ge (tgt := 121) dX12_stands_58 (by decide) ⟨by omega, by omega⟩ ⟨by decide, by decide⟩ (fun h1 => ?_) (fun h1 => ?_)
    · exact tm_sub [0, 1, 2, 3, 4, 5, 6] rfl (hx_121 (w) (i) (by omega) (by first | (rw [show (2 : Int) = i by omega]; exact hs) | exact ⟨fun q => absurd q (by omega), fun q => absurd (hs.mpr (q.mono (by omega))) (by omega)⟩))
    · refine tm_iload dX12_stands_61 1 rfl ?_
      refine tm_if_eq (tgt := 121) dX12_stands_63 (by decide) ⟨by omega, by omega⟩ (fun h2 => ?_) (fun h2 => ?_)
      · exact tm_sub [0, 1, 2, 3, 4, 5, 6] rfl (hx_121 (w) (i) (by omega) (by first | (rw [show (2 : Int) = i by omega]; exact hs) | exact ⟨fun q => absurd q (by omega), fun q => absurd (hs.mpr (q.mono (by omega))) (by omega)⟩))
      · have q2 := hok.arg (k := j) (by omega) (by omega) (i := i) (by omega) (by omega)
        refine tm_aload_n dX12_stands_66 rfl 3 rfl ?_
        refine tm_get (k := 7) (v := .ref (b + 1 + 5)) lay_12 dX12_stands_67 (by decide) fl12_26 rfl ?_
        refine tm_iconst dX12_stands_70 ?_
        refine tm_iload dX12_stands_71 2 rfl ?_
        refine tm_imul dX12_stands_73 ?_
        refine tm_iload dX12_stands_74 0 rfl ?_
        refine tm_iadd dX12_stands_76 ?_
        refine tm_iald (z := (4 * (220 * r + j)) + i) (v := σ.2.1 7 ((4 * (220 * r + j)) + i)) dX12_stands_77 (show mT[5]? = some (7, 0, 11440) from rfl) (by omega) (by omega) (by decide) (rfl) ?_
        have g3 := RG.a hR 7 ((4 * (220 * r + j)) + i)
        refine tm_iconst dX12_stands_78 ?_
        refine tm_icmp_ne (tgt := 108) dX12_stands_79 (by decide) ⟨by omega, by omega⟩ ⟨by decide, by decide⟩ (fun h4 => ?_) (fun h4 => ?_)
        · refine tm_iconst dX12_stands_108 ?_
          refine tm_goto (tgt := 113) dX12_stands_109 (by decide) ?_
          refine tm_istore (L' := [(5, .int (iI 1)), (6, .int (iI i)), (4, .int (iI (220 * r + j))), (0, .ref b), (1, .int (iI r)), (2, .int (iI j)), (3, .int (iI k))]) dX12_stands_113 (by decide) rfl ?_
          refine tm_iinc (q0 := 1) (L' := [(6, .int (iI (i + 1))), (5, .int (iI 1)), (4, .int (iI (220 * r + j))), (0, .ref b), (1, .int (iI r)), (2, .int (iI j)), (3, .int (iI k))]) dX12_stands_115 rfl (by decide) rfl ?_
          refine tm_goto (tgt := 55) dX12_stands_118 (by decide) ?_
          exact tm_sub [0, 1, 2, 3, 4, 5, 6] rfl (ih _ (by omega) (1) (i + 1) (by omega) ⟨fun _ => (STB.s (by omega)).mpr ⟨hs.mp (by omega), fun q => absurd q (by omega)⟩, fun _ => rfl⟩ rfl)
        · refine tm_aload_n dX12_stands_82 rfl 3 rfl ?_
          refine tm_iload_n dX12_stands_83 rfl 4 rfl ?_
          refine tm_iload_n dX12_stands_84 rfl 5 rfl ?_
          refine tm_iconst dX12_stands_85 ?_
          refine tm_iadd dX12_stands_86 ?_
          refine tm_iload_n dX12_stands_87 rfl 6 rfl ?_
          refine tm_iconst dX12_stands_88 ?_
          refine tm_isub dX12_stands_89 ?_
          refine tm_aload_n dX12_stands_90 rfl 3 rfl ?_
          refine tm_get (k := 8) (v := .ref (b + 1 + 6)) lay_12 dX12_stands_91 (by decide) fl12_29 rfl ?_
          refine tm_iconst dX12_stands_94 ?_
          refine tm_iload dX12_stands_95 2 rfl ?_
          refine tm_imul dX12_stands_97 ?_
          refine tm_iload dX12_stands_98 0 rfl ?_
          refine tm_iadd dX12_stands_100 ?_
          refine tm_iald (z := (4 * (220 * r + j)) + i) (v := σ.2.1 8 ((4 * (220 * r + j)) + i)) dX12_stands_101 (show mT[6]? = some (8, 0, 11440) from rfl) (by omega) (by omega) (by decide) (rfl) ?_
          have g5 := RG.a hR 8 ((4 * (220 * r + j)) + i)
          refine tm_callV (M := m_X12_stands) (pc := 102) (ix := 486) (M' := m_X12_written) (As := [.int (iI r), .int (iI (j + 1)), .int (iI (k - 1)), .int (iI (σ.2.1 8 ((4 * (220 * r + j)) + i)))]) (rest := []) dX12_stands_102 ok_X12_written im_X12_written se_X12_written ml12_486 np_X12_written rfl rfl (Nat.le_of_ble_eq_true rfl) (Nat.le_of_ble_eq_true rfl) rfl (f_X12_written (d) (σ := σ) (r := r) (fr := j + 1) (to := k - 1) (g := σ.2.1 8 ((4 * (220 * r + j)) + i)) (by omega) hR (by omega) (by omega) (by omega)) (fun r6 σ7 hp => ?_)
          obtain ⟨v8, rfl, rfl, f9, f10⟩ := hp
          show Tm _ _ 105 b σ [(6, .int (iI i)), (5, .int (iI w)), (4, .int (iI (220 * r + j))), (0, .ref b), (1, .int (iI r)), (2, .int (iI j)), (3, .int (iI k))] [.int (iI v8)] _
          refine tm_if_ne (tgt := 112) dX12_stands_105 (by decide) ⟨by omega, by omega⟩ (fun h11 => ?_) (fun h11 => ?_)
          · refine tm_iconst dX12_stands_112 ?_
            refine tm_istore (L' := [(5, .int (iI 0)), (6, .int (iI i)), (4, .int (iI (220 * r + j))), (0, .ref b), (1, .int (iI r)), (2, .int (iI j)), (3, .int (iI k))]) dX12_stands_113 (by decide) rfl ?_
            refine tm_iinc (q0 := 1) (L' := [(6, .int (iI (i + 1))), (5, .int (iI 0)), (4, .int (iI (220 * r + j))), (0, .ref b), (1, .int (iI r)), (2, .int (iI j)), (3, .int (iI k))]) dX12_stands_115 rfl (by decide) rfl ?_
            refine tm_goto (tgt := 55) dX12_stands_118 (by decide) ?_
            exact tm_sub [0, 1, 2, 3, 4, 5, 6] rfl (ih _ (by omega) (0) (i + 1) (by omega) ⟨fun q => absurd q (by decide), fun q => absurd (((STB.s (by omega)).mp q).2 (by omega)) (wr0n f10 (by omega))⟩ rfl)
          · refine tm_iconst dX12_stands_108 ?_
            refine tm_goto (tgt := 113) dX12_stands_109 (by decide) ?_
            refine tm_istore (L' := [(5, .int (iI 1)), (6, .int (iI i)), (4, .int (iI (220 * r + j))), (0, .ref b), (1, .int (iI r)), (2, .int (iI j)), (3, .int (iI k))]) dX12_stands_113 (by decide) rfl ?_
            refine tm_iinc (q0 := 1) (L' := [(6, .int (iI (i + 1))), (5, .int (iI 1)), (4, .int (iI (220 * r + j))), (0, .ref b), (1, .int (iI r)), (2, .int (iI j)), (3, .int (iI k))]) dX12_stands_115 rfl (by decide) rfl ?_
            refine tm_goto (tgt := 55) dX12_stands_118 (by decide) ?_
            exact tm_sub [0, 1, 2, 3, 4, 5, 6] rfl (ih _ (by omega) (1) (i + 1) (by omega) ⟨fun _ => (STB.s (by omega)).mpr ⟨hs.mp (by omega), fun q => wr0 f10 (by omega)⟩, fun _ => rfl⟩ rfl)
set_option maxHeartbeats 1000000 in
set_option maxRecDepth 20000 in
theorem f_X12_stands (d : Nat) {b : Nat} {σ : MS} {r : Int} {j : Int} {k : Int} {F : Int} (hr : 0 ≤ r ∧ r < 6) (hR : RG σ) (hit : ITM σ) (hpar : PAR σ) (hok : OKS σ F r) (hk : 0 ≤ j ∧ j < k ∧ k ≤ σ.2.1 9 r) : Tm (d + 5) m_X12_stands 0 b σ [(0, .ref b), (1, .int (iI r)), (2, .int (iI j)), (3, .int (iI k))] [] (fun ro σ2 => ∃ v : Int, ro = some (.int (iI v)) ∧ σ = σ2 ∧ ((v = 0 ∨ v = 1)) ∧ ((v = 1 ↔ STB σ r j k 2))) := by
  have q1 := hit r (by omega) (by omega)
  refine tm_aload_n dX12_stands_0 rfl 0 rfl ?_
  refine tm_iload_n dX12_stands_1 rfl 1 rfl ?_
  refine tm_iload_n dX12_stands_2 rfl 2 rfl ?_
  refine tm_callV (M := m_X12_stands) (pc := 3) (ix := 203) (M' := m_X12_at) (As := [.int (iI r), .int (iI j)]) (rest := []) dX12_stands_3 ok_X12_at im_X12_at se_X12_at ml12_203 np_X12_at rfl rfl (Nat.le_of_ble_eq_true rfl) (Nat.le_of_ble_eq_true rfl) rfl (c_X12_at (d + 3) (σ := σ) (x := r) (k := j) ) (fun r1 σ2 hp => ?_)
  obtain ⟨v3, rfl, rfl, f4⟩ := hp
  subst f4
  show Tm _ _ 6 b σ [(0, .ref b), (1, .int (iI r)), (2, .int (iI j)), (3, .int (iI k))] [.int (iI (220 * r + j))] _
  refine tm_istore (L' := [(4, .int (iI (220 * r + j))), (0, .ref b), (1, .int (iI r)), (2, .int (iI j)), (3, .int (iI k))]) dX12_stands_6 (by decide) rfl ?_
  refine tm_aload_n dX12_stands_8 rfl 1 rfl ?_
  refine tm_iload dX12_stands_9 0 rfl ?_
  refine tm_aload_n dX12_stands_11 rfl 1 rfl ?_
  refine tm_get (k := 4) (v := .ref (b + 1 + 2)) lay_12 dX12_stands_12 (by decide) fl12_17 rfl ?_
  refine tm_iload dX12_stands_15 0 rfl ?_
  refine tm_iald (z := 220 * r + j) (v := σ.2.1 4 (220 * r + j)) dX12_stands_17 (show mT[2]? = some (4, 0, 2860) from rfl) (by omega) (by omega) (by decide) (rfl) ?_
  have g5 := RG.a hR 4 (220 * r + j)
  refine tm_callV (M := m_X12_stands) (pc := 18) (ix := 439) (M' := m_X12_leansOn) (As := [.int (iI (220 * r + j)), .int (iI (σ.2.1 4 (220 * r + j)))]) (rest := []) dX12_stands_18 ok_X12_leansOn im_X12_leansOn se_X12_leansOn ml12_439 np_X12_leansOn rfl rfl (Nat.le_of_ble_eq_true rfl) (Nat.le_of_ble_eq_true rfl) rfl (c_X12_leansOn (d) (σ := σ) (x := 220 * r + j) (g := σ.2.1 4 (220 * r + j)) (by omega) hR (hok.of (by omega) (by omega)) hpar (by omega)) (fun r6 σ7 hp => ?_)
  obtain ⟨v8, rfl, rfl, f9, f10⟩ := hp
  show Tm _ _ 21 b σ [(4, .int (iI (220 * r + j))), (0, .ref b), (1, .int (iI r)), (2, .int (iI j)), (3, .int (iI k))] [.int (iI v8)] _
  have hLE := f10
  refine tm_if_ne (tgt := 49) dX12_stands_21 (by decide) ⟨by omega, by omega⟩ (fun h11 => ?_) (fun h11 => ?_)
  · refine tm_iconst dX12_stands_49 ?_
    refine tm_istore (L' := [(5, .int (iI 0)), (4, .int (iI (220 * r + j))), (0, .ref b), (1, .int (iI r)), (2, .int (iI j)), (3, .int (iI k))]) dX12_stands_50 (by decide) rfl ?_
    refine tm_iconst dX12_stands_52 ?_
    refine tm_istore (L' := [(6, .int (iI 0)), (5, .int (iI 0)), (4, .int (iI (220 * r + j))), (0, .ref b), (1, .int (iI r)), (2, .int (iI j)), (3, .int (iI k))]) dX12_stands_53 (by decide) rfl ?_
    refine tm_sub [0, 1, 2, 3, 4, 5, 6] rfl (f_stands (d + 1) (σ := σ) (r := r) (j := j) (k := k) (F := F) (by omega) hR hit hpar hok (by omega) (fun w18 i19 f16 f17 => ?_) _ (0) (0) (by omega) ⟨fun q => absurd q (by decide), fun q => absurd (hLE.mp (by omega)) q.1⟩ rfl)
    show Tm _ _ 121 b σ [(6, .int (iI i19)), (5, .int (iI w18)), (4, .int (iI (220 * r + j))), (0, .ref b), (1, .int (iI r)), (2, .int (iI j)), (3, .int (iI k))] [] _
    refine tm_iload dX12_stands_121 1 rfl ?_
    exact tm_zret (v := w18) rfl (by omega) dX12_stands_123 (⟨_, rfl, rfl, by omega, f17⟩)
  · refine tm_aload_n dX12_stands_24 rfl 1 rfl ?_
    refine tm_iload_n dX12_stands_25 rfl 2 rfl ?_
    refine tm_iload_n dX12_stands_26 rfl 3 rfl ?_
    refine tm_iconst dX12_stands_27 ?_
    refine tm_iadd dX12_stands_28 ?_
    refine tm_iload_n dX12_stands_29 rfl 4 rfl ?_
    refine tm_iconst dX12_stands_30 ?_
    refine tm_isub dX12_stands_31 ?_
    refine tm_aload_n dX12_stands_32 rfl 1 rfl ?_
    refine tm_get (k := 4) (v := .ref (b + 1 + 2)) lay_12 dX12_stands_33 (by decide) fl12_17 rfl ?_
    refine tm_iload dX12_stands_36 0 rfl ?_
    refine tm_iald (z := 220 * r + j) (v := σ.2.1 4 (220 * r + j)) dX12_stands_38 (show mT[2]? = some (4, 0, 2860) from rfl) (by omega) (by omega) (by decide) (rfl) ?_
    have g20 := RG.a hR 4 (220 * r + j)
    refine tm_callV (M := m_X12_stands) (pc := 39) (ix := 486) (M' := m_X12_written) (As := [.int (iI r), .int (iI (j + 1)), .int (iI (k - 1)), .int (iI (σ.2.1 4 (220 * r + j)))]) (rest := []) dX12_stands_39 ok_X12_written im_X12_written se_X12_written ml12_486 np_X12_written rfl rfl (Nat.le_of_ble_eq_true rfl) (Nat.le_of_ble_eq_true rfl) rfl (f_X12_written (d + 1) (σ := σ) (r := r) (fr := j + 1) (to := k - 1) (g := σ.2.1 4 (220 * r + j)) (by omega) hR (by omega) (by omega) (by omega)) (fun r21 σ22 hp => ?_)
    obtain ⟨v23, rfl, rfl, f24, f25⟩ := hp
    show Tm _ _ 42 b σ [(4, .int (iI (220 * r + j))), (0, .ref b), (1, .int (iI r)), (2, .int (iI j)), (3, .int (iI k))] [.int (iI v23)] _
    have hWR := f25
    refine tm_if_ne (tgt := 49) dX12_stands_42 (by decide) ⟨by omega, by omega⟩ (fun h32 => ?_) (fun h32 => ?_)
    · refine tm_iconst dX12_stands_49 ?_
      refine tm_istore (L' := [(5, .int (iI 0)), (4, .int (iI (220 * r + j))), (0, .ref b), (1, .int (iI r)), (2, .int (iI j)), (3, .int (iI k))]) dX12_stands_50 (by decide) rfl ?_
      refine tm_iconst dX12_stands_52 ?_
      refine tm_istore (L' := [(6, .int (iI 0)), (5, .int (iI 0)), (4, .int (iI (220 * r + j))), (0, .ref b), (1, .int (iI r)), (2, .int (iI j)), (3, .int (iI k))]) dX12_stands_53 (by decide) rfl ?_
      refine tm_sub [0, 1, 2, 3, 4, 5, 6] rfl (f_stands (d + 1) (σ := σ) (r := r) (j := j) (k := k) (F := F) (by omega) hR hit hpar hok (by omega) (fun w39 i40 f37 f38 => ?_) _ (0) (0) (by omega) ⟨fun q => absurd q (by decide), fun q => absurd q.2.1 (wr0n hWR (by omega))⟩ rfl)
      show Tm _ _ 121 b σ [(6, .int (iI i40)), (5, .int (iI w39)), (4, .int (iI (220 * r + j))), (0, .ref b), (1, .int (iI r)), (2, .int (iI j)), (3, .int (iI k))] [] _
      refine tm_iload dX12_stands_121 1 rfl ?_
      exact tm_zret (v := w39) rfl (by omega) dX12_stands_123 (⟨_, rfl, rfl, by omega, f38⟩)
    · refine tm_iconst dX12_stands_45 ?_
      refine tm_goto (tgt := 50) dX12_stands_46 (by decide) ?_
      refine tm_istore (L' := [(5, .int (iI 1)), (4, .int (iI (220 * r + j))), (0, .ref b), (1, .int (iI r)), (2, .int (iI j)), (3, .int (iI k))]) dX12_stands_50 (by decide) rfl ?_
      refine tm_iconst dX12_stands_52 ?_
      refine tm_istore (L' := [(6, .int (iI 0)), (5, .int (iI 1)), (4, .int (iI (220 * r + j))), (0, .ref b), (1, .int (iI r)), (2, .int (iI j)), (3, .int (iI k))]) dX12_stands_53 (by decide) rfl ?_
      refine tm_sub [0, 1, 2, 3, 4, 5, 6] rfl (f_stands (d + 1) (σ := σ) (r := r) (j := j) (k := k) (F := F) (by omega) hR hit hpar hok (by omega) (fun w47 i48 f45 f46 => ?_) _ (1) (0) (by omega) ⟨fun _ => ⟨fun q => absurd (hLE.mpr q) (by omega), wr0 hWR (by omega), fun e a b => by omega⟩, fun _ => rfl⟩ rfl)
      show Tm _ _ 121 b σ [(6, .int (iI i48)), (5, .int (iI w47)), (4, .int (iI (220 * r + j))), (0, .ref b), (1, .int (iI r)), (2, .int (iI j)), (3, .int (iI k))] [] _
      refine tm_iload dX12_stands_121 1 rfl ?_
      exact tm_zret (v := w47) rfl (by omega) dX12_stands_123 (⟨_, rfl, rfl, by omega, f46⟩)
set_option maxHeartbeats 1000000 in
set_option maxRecDepth 20000 in
theorem f_alike2 (d : Nat) {b : Nat} {σ : MS} {r : Int} {F : Int} {n1 : Int} {k : Int} {post : Option Value → MS → Prop} (hr : 0 ≤ r ∧ r < 6) (hR : RG σ) (hit : ITM σ) (hpar : PAR σ) (hok : OKS σ F r) (hk : 0 ≤ k ∧ k < σ.2.1 9 r ∧ 1 ≤ σ.2.1 3 (220 * r + k) ∧ σ.2.1 3 (220 * r + k) ≤ 5) (hx_98 : ∀ (j : Int) , (-1 ≤ j ∧ j < k) → (0 ≤ j → σ.2.1 3 (220 * r + j) = 13 ∨ σ.2.1 3 (220 * r + j) = σ.2.1 3 (220 * r + k)) → (noT (rV σ r) k j) → (0 ≤ j → σ.2.1 3 (220 * r + j) = 13 ∨ twn (rV σ r) k j) → Tm (d + 6) m_X12_alike 98 b σ [(5, .int (iI j)), (4, .int (iI (220 * r + k))), (3, .int (iI k)), (2, .int (iI n1)), (0, .ref b), (1, .int (iI r))] [] post) : ∀ (n : Nat) (j : Int) , (-1 ≤ j ∧ j < k) → (noT (rV σ r) k j) → (j + 1).toNat = n → Tm (d + 6) m_X12_alike 43 b σ [(5, .int (iI j)), (4, .int (iI (220 * r + k))), (3, .int (iI k)), (2, .int (iI n1)), (0, .ref b), (1, .int (iI r))] [] post := by
  intro n
  induction n using Nat.strongRecOn with
  | _ n ih =>
    intro j h0 hno hm
    have q1 := hit r (by omega) (by omega)
    refine tm_iload dX12_alike_43 0 rfl ?_
    refine tm_if_lt (tgt := 98) dX12_alike_45 (by decide) ⟨by omega, by omega⟩ (fun h1 => ?_) (fun h1 => ?_)
    · exact tm_sub [0, 1, 2, 3, 4, 5] rfl (hx_98 (j) (by omega) (fun q => Or.inl (by omega)) hno (fun q => Or.inl (by omega)))
    · refine tm_aload_n dX12_alike_48 rfl 4 rfl ?_
      refine tm_get (k := 3) (v := .ref (b + 1 + 1)) lay_12 dX12_alike_49 (by decide) fl12_13 rfl ?_
      refine tm_aload_n dX12_alike_52 rfl 4 rfl ?_
      refine tm_iload_n dX12_alike_53 rfl 5 rfl ?_
      refine tm_iload dX12_alike_54 0 rfl ?_
      refine tm_callV (M := m_X12_alike) (pc := 56) (ix := 203) (M' := m_X12_at) (As := [.int (iI r), .int (iI j)]) (rest := [.ref (b + 1 + 1)]) dX12_alike_56 ok_X12_at im_X12_at se_X12_at ml12_203 np_X12_at rfl rfl (Nat.le_of_ble_eq_true rfl) (Nat.le_of_ble_eq_true rfl) rfl (c_X12_at (d + 4) (σ := σ) (x := r) (k := j) ) (fun r2 σ3 hp => ?_)
      obtain ⟨v4, rfl, rfl, f5⟩ := hp
      subst f5
      show Tm _ _ 59 b σ [(5, .int (iI j)), (4, .int (iI (220 * r + k))), (3, .int (iI k)), (2, .int (iI n1)), (0, .ref b), (1, .int (iI r))] [.int (iI (220 * r + j)), .ref (b + 1 + 1)] _
      refine tm_iald (z := 220 * r + j) (v := σ.2.1 3 (220 * r + j)) dX12_alike_59 (show mT[1]? = some (3, 0, 2860) from rfl) (by omega) (by omega) (by decide) (rfl) ?_
      have g6 := RG.a hR 3 (220 * r + j)
      refine tm_bipush dX12_alike_60 (by decide) ?_
      refine tm_icmp_eq (tgt := 98) dX12_alike_62 (by decide) ⟨by omega, by omega⟩ ⟨by decide, by decide⟩ (fun h7 => ?_) (fun h7 => ?_)
      · exact tm_sub [0, 1, 2, 3, 4, 5] rfl (hx_98 (j) (by omega) (fun q => Or.inl (by omega)) hno (fun q => Or.inl (by omega)))
      · refine tm_aload_n dX12_alike_65 rfl 4 rfl ?_
        refine tm_aload_n dX12_alike_66 rfl 4 rfl ?_
        refine tm_iload_n dX12_alike_67 rfl 5 rfl ?_
        refine tm_iload dX12_alike_68 0 rfl ?_
        refine tm_callV (M := m_X12_alike) (pc := 70) (ix := 203) (M' := m_X12_at) (As := [.int (iI r), .int (iI j)]) (rest := [.ref b]) dX12_alike_70 ok_X12_at im_X12_at se_X12_at ml12_203 np_X12_at rfl rfl (Nat.le_of_ble_eq_true rfl) (Nat.le_of_ble_eq_true rfl) rfl (c_X12_at (d + 4) (σ := σ) (x := r) (k := j) ) (fun r8 σ9 hp => ?_)
        obtain ⟨v10, rfl, rfl, f11⟩ := hp
        subst f11
        show Tm _ _ 73 b σ [(5, .int (iI j)), (4, .int (iI (220 * r + k))), (3, .int (iI k)), (2, .int (iI n1)), (0, .ref b), (1, .int (iI r))] [.int (iI (220 * r + j)), .ref b] _
        refine tm_iload dX12_alike_73 1 rfl ?_
        refine tm_callV (M := m_X12_alike) (pc := 75) (ix := 494) (M' := m_X12_isAlike) (As := [.int (iI (220 * r + j)), .int (iI (220 * r + k))]) (rest := []) dX12_alike_75 ok_X12_isAlike im_X12_isAlike se_X12_isAlike ml12_494 np_X12_isAlike rfl rfl (Nat.le_of_ble_eq_true rfl) (Nat.le_of_ble_eq_true rfl) rfl (f_X12_isAlike (d + 4) (σ := σ) (x := 220 * r + j) (y := 220 * r + k) (by omega) (by omega) hR) (fun r12 σ13 hp => ?_)
        obtain ⟨v14, rfl, rfl, f15, f16⟩ := hp
        show Tm _ _ 78 b σ [(5, .int (iI j)), (4, .int (iI (220 * r + k))), (3, .int (iI k)), (2, .int (iI n1)), (0, .ref b), (1, .int (iI r))] [.int (iI v14)] _
        have hAL := f16
        refine tm_if_eq (tgt := 92) dX12_alike_78 (by decide) ⟨by omega, by omega⟩ (fun h17 => ?_) (fun h17 => ?_)
        · refine tm_iinc (q0 := 0) (L' := [(5, .int (iI (j + (-1)))), (4, .int (iI (220 * r + k))), (3, .int (iI k)), (2, .int (iI n1)), (0, .ref b), (1, .int (iI r))]) dX12_alike_92 rfl (by decide) rfl ?_
          refine tm_goto (tgt := 43) dX12_alike_95 (by decide) ?_
          exact tm_sub [0, 1, 2, 3, 4, 5] rfl (ih _ (by omega) (j + (-1)) (by omega) (by rw [show j + (-1) = j - 1 by omega]; exact hno.s ⟨by rw [rv_at (by omega) (by omega)]; show ¬ σ.2.1 3 (220 * r + j) = 13; omega, fun q => absurd (hAL.mpr ((twn_rv (by omega) (by omega) (by omega) (hok j (by omega) (by omega)) hpar).mp q).1) (by omega)⟩) rfl)
        · refine tm_aload_n dX12_alike_81 rfl 4 rfl ?_
          refine tm_iload_n dX12_alike_82 rfl 5 rfl ?_
          refine tm_iload dX12_alike_83 0 rfl ?_
          refine tm_iload_n dX12_alike_85 rfl 2 rfl ?_
          refine tm_callV (M := m_X12_alike) (pc := 86) (ix := 497) (M' := m_X12_stands) (As := [.int (iI r), .int (iI j), .int (iI k)]) (rest := []) dX12_alike_86 ok_X12_stands im_X12_stands se_X12_stands ml12_497 np_X12_stands rfl rfl (Nat.le_of_ble_eq_true rfl) (Nat.le_of_ble_eq_true rfl) rfl (f_X12_stands (d) (σ := σ) (r := r) (j := j) (k := k) (F := F) (by omega) hR hit hpar hok (by omega)) (fun r18 σ19 hp => ?_)
          obtain ⟨v20, rfl, rfl, f21, f22⟩ := hp
          show Tm _ _ 89 b σ [(5, .int (iI j)), (4, .int (iI (220 * r + k))), (3, .int (iI k)), (2, .int (iI n1)), (0, .ref b), (1, .int (iI r))] [.int (iI v20)] _
          have hST := f22
          refine tm_if_ne (tgt := 98) dX12_alike_89 (by decide) ⟨by omega, by omega⟩ (fun h23 => ?_) (fun h23 => ?_)
          · exact tm_sub [0, 1, 2, 3, 4, 5] rfl (hx_98 (j) (by omega) (fun _ => Or.inr (hAL.mp (by omega)).1) hno (fun _ => Or.inr ((twn_rv (by omega) (by omega) (by omega) (hok j (by omega) (by omega)) hpar).mpr ⟨hAL.mp (by omega), hST.mp (by omega)⟩)))
          · refine tm_iinc (q0 := 0) (L' := [(5, .int (iI (j + (-1)))), (4, .int (iI (220 * r + k))), (3, .int (iI k)), (2, .int (iI n1)), (0, .ref b), (1, .int (iI r))]) dX12_alike_92 rfl (by decide) rfl ?_
            refine tm_goto (tgt := 43) dX12_alike_95 (by decide) ?_
            exact tm_sub [0, 1, 2, 3, 4, 5] rfl (ih _ (by omega) (j + (-1)) (by omega) (by rw [show j + (-1) = j - 1 by omega]; exact hno.s ⟨by rw [rv_at (by omega) (by omega)]; show ¬ σ.2.1 3 (220 * r + j) = 13; omega, fun q => absurd (hST.mpr ((twn_rv (by omega) (by omega) (by omega) (hok j (by omega) (by omega)) hpar).mp q).2) (by omega)⟩) rfl)
set_option maxHeartbeats 1000000 in
set_option maxRecDepth 20000 in
theorem f_alike1 (d : Nat) {b : Nat} {σ0 : MS} {r : Int} {F : Int} {post : Option Value → MS → Prop} (hr : 0 ≤ r ∧ r < 6) (hR0 : RG σ0) (hit : ITM σ0) (hpar : PAR σ0) (hx_170 : ∀ (n1 : Int) (k : Int) (σ : MS) , (Fr [] [3, 7, 8] [] σ0 σ) → (RG σ) → (0 ≤ n1 ∧ n1 ≤ 220) → (OKS σ F r) → (XO r σ0 σ) → (KC σ0 σ) → (ALS (σ0.2.1 9 r).toNat (rV σ0 r) (rV σ r) n1) → Tm (d + 6) m_X12_alike 170 b σ [(3, .int (iI k)), (2, .int (iI n1)), (0, .ref b), (1, .int (iI r))] [] post) : ∀ (n : Nat) (n1 : Int) (k : Int) (σ : MS) , (Fr [] [3, 7, 8] [] σ0 σ) → (RG σ) → (0 ≤ n1 ∧ n1 ≤ k ∧ k ≤ σ0.2.1 9 r) → (OKS σ F r) → (XO r σ0 σ) → (KC σ0 σ) → (ALS k.toNat (rV σ0 r) (rV σ r) n1) → (220 - k).toNat = n → Tm (d + 6) m_X12_alike 4 b σ [(3, .int (iI k)), (2, .int (iI n1)), (0, .ref b), (1, .int (iI r))] [] post := by
  intro n
  induction n using Nat.strongRecOn with
  | _ n ih =>
    intro n1 k σ hF hR h0 hok hxo hkc hal hm
    have hit1 := hit.fr hF (by decide)
    have hpar1 := hpar.fr hF (by decide)
    have q1 := hit r (by omega) (by omega)
    have q9 : σ.2.1 9 r = σ0.2.1 9 r := by rw [hF.2.1 9 (by decide)]
    have q4 : σ.2.1 4 = σ0.2.1 4 := hF.2.1 4 (by decide)
    refine tm_iload_n dX12_alike_4 rfl 0 rfl ?_
    refine tm_aload_n dX12_alike_5 rfl 2 rfl ?_
    refine tm_get (k := 9) (v := .ref (b + 1 + 7)) lay_12 dX12_alike_6 (by decide) fl12_32 rfl ?_
    refine tm_iload_n dX12_alike_9 rfl 3 rfl ?_
    refine tm_iald (z := r) (v := σ0.2.1 9 r) dX12_alike_10 (show mT[7]? = some (9, 0, 13) from rfl) (by omega) (by omega) (by decide) (ra_F hF (by decide) (rfl)) ?_
    have g1 := RG.a hR0 9 (r)
    refine tm_icmp_ge (tgt := 170) dX12_alike_11 (by decide) ⟨by omega, by omega⟩ ⟨by omega, by omega⟩ (fun h2 => ?_) (fun h2 => ?_)
    · exact tm_sub [0, 1, 2, 3] rfl (hx_170 (n1) (k) σ (Fr.rfl.trans (Fr.sub hF (by decide) (by decide) (by decide))) hR (by omega) hok hxo hkc (by rw [show σ0.2.1 9 r = k by omega]; exact hal))
    · refine tm_aload_n dX12_alike_14 rfl 2 rfl ?_
      refine tm_iload_n dX12_alike_15 rfl 3 rfl ?_
      refine tm_iload_n dX12_alike_16 rfl 0 rfl ?_
      refine tm_callV (M := m_X12_alike) (pc := 17) (ix := 203) (M' := m_X12_at) (As := [.int (iI r), .int (iI k)]) (rest := []) dX12_alike_17 ok_X12_at im_X12_at se_X12_at ml12_203 np_X12_at rfl rfl (Nat.le_of_ble_eq_true rfl) (Nat.le_of_ble_eq_true rfl) rfl (c_X12_at (d + 4) (σ := σ) (x := r) (k := k) ) (fun r3 σ4 hp => ?_)
      obtain ⟨v5, rfl, rfl, f6⟩ := hp
      subst f6
      show Tm _ _ 20 b σ [(3, .int (iI k)), (2, .int (iI n1)), (0, .ref b), (1, .int (iI r))] [.int (iI (220 * r + k))] _
      refine tm_istore (L' := [(4, .int (iI (220 * r + k))), (3, .int (iI k)), (2, .int (iI n1)), (0, .ref b), (1, .int (iI r))]) dX12_alike_20 (by decide) rfl ?_
      refine tm_aload_n dX12_alike_22 rfl 3 rfl ?_
      refine tm_get (k := 3) (v := .ref (b + 1 + 1)) lay_12 dX12_alike_23 (by decide) fl12_13 rfl ?_
      refine tm_iload dX12_alike_26 0 rfl ?_
      refine tm_iald (z := 220 * r + k) (v := σ.2.1 3 (220 * r + k)) dX12_alike_28 (show mT[1]? = some (3, 0, 2860) from rfl) (by omega) (by omega) (by decide) (rfl) ?_
      have g7 := RG.a hR 3 (220 * r + k)
      refine tm_callS (M := m_X12_alike) (pc := 29) (ix := 196) (M' := m_X12_isFive) (As := [.int (iI (σ.2.1 3 (220 * r + k)))]) (rest := []) dX12_alike_29 ok_X12_isFive stt_X12_isFive ml12_196 np_X12_isFive rfl (Nat.le_of_ble_eq_true rfl) (Nat.le_of_ble_eq_true rfl) rfl (c_X12_isFive (d + 3) (σ := σ) (x := σ.2.1 3 (220 * r + k)) (by omega)) (fun r8 σ9 hp => ?_)
      obtain ⟨v10, rfl, rfl, f11, f12⟩ := hp
      show Tm _ _ 32 b σ [(4, .int (iI (220 * r + k))), (3, .int (iI k)), (2, .int (iI n1)), (0, .ref b), (1, .int (iI r))] [.int (iI v10)] _
      refine tm_if_ne (tgt := 38) dX12_alike_32 (by decide) ⟨by omega, by omega⟩ (fun h13 => ?_) (fun h13 => ?_)
      · refine tm_iload_n dX12_alike_38 rfl 1 rfl ?_
        refine tm_iconst dX12_alike_39 ?_
        refine tm_isub dX12_alike_40 ?_
        refine tm_istore (L' := [(5, .int (iI (k - 1))), (4, .int (iI (220 * r + k))), (3, .int (iI k)), (2, .int (iI n1)), (0, .ref b), (1, .int (iI r))]) dX12_alike_41 (by decide) rfl ?_
        refine tm_sub [0, 1, 2, 3, 4, 5] rfl (f_alike2 (d) (σ := σ) (r := r) (n1 := n1) (k := k) (F := F) hr hR hit1 hpar1 hok (by omega) (fun j21 f17 f18 f19 f20 => ?_) _ (k - 1) (by omega) noT.start rfl)
        show Tm _ _ 98 b σ [(5, .int (iI j21)), (4, .int (iI (220 * r + k))), (3, .int (iI k)), (2, .int (iI n1)), (0, .ref b), (1, .int (iI r))] [] _
        have hNT := f19
        have hTW := f20
        refine tm_iload dX12_alike_98 0 rfl ?_
        refine tm_if_lt (tgt := 164) dX12_alike_100 (by decide) ⟨by omega, by omega⟩ (fun h22 => ?_) (fun h22 => ?_)
        · refine tm_iinc (q0 := 2) (L' := [(3, .int (iI (k + 1))), (5, .int (iI j21)), (4, .int (iI (220 * r + k))), (2, .int (iI n1)), (0, .ref b), (1, .int (iI r))]) dX12_alike_164 rfl (by decide) rfl ?_
          refine tm_goto (tgt := 4) dX12_alike_167 (by decide) ?_
          exact tm_sub [0, 3, 4, 5] rfl (ih _ (by omega) (n1) (k + 1) σ (Fr.rfl.trans (Fr.sub hF (by decide) (by decide) (by decide))) hR (by omega) hok hxo hkc (by have e9 := hal.s (by omega) (ALI.none (j := j21) (by omega) (by first | exact Or.inl (by omega) | exact Or.inr (by rw [rv_at (by omega) (by omega)]; show σ.2.1 3 _ = 13; omega)) hNT); rwa [Int.add_zero] at e9) rfl)
        · refine tm_aload_n dX12_alike_103 rfl 4 rfl ?_
          refine tm_get (k := 3) (v := .ref (b + 1 + 1)) lay_12 dX12_alike_104 (by decide) fl12_13 rfl ?_
          refine tm_aload_n dX12_alike_107 rfl 4 rfl ?_
          refine tm_iload_n dX12_alike_108 rfl 5 rfl ?_
          refine tm_iload dX12_alike_109 0 rfl ?_
          refine tm_callV (M := m_X12_alike) (pc := 111) (ix := 203) (M' := m_X12_at) (As := [.int (iI r), .int (iI j21)]) (rest := [.ref (b + 1 + 1)]) dX12_alike_111 ok_X12_at im_X12_at se_X12_at ml12_203 np_X12_at rfl rfl (Nat.le_of_ble_eq_true rfl) (Nat.le_of_ble_eq_true rfl) rfl (c_X12_at (d + 4) (σ := σ) (x := r) (k := j21) ) (fun r23 σ24 hp => ?_)
          obtain ⟨v25, rfl, rfl, f26⟩ := hp
          subst f26
          show Tm _ _ 114 b σ [(5, .int (iI j21)), (4, .int (iI (220 * r + k))), (3, .int (iI k)), (2, .int (iI n1)), (0, .ref b), (1, .int (iI r))] [.int (iI (220 * r + j21)), .ref (b + 1 + 1)] _
          refine tm_iald (z := 220 * r + j21) (v := σ.2.1 3 (220 * r + j21)) dX12_alike_114 (show mT[1]? = some (3, 0, 2860) from rfl) (by omega) (by omega) (by decide) (rfl) ?_
          have g27 := RG.a hR 3 (220 * r + j21)
          refine tm_bipush dX12_alike_115 (by decide) ?_
          refine tm_icmp_eq (tgt := 164) dX12_alike_117 (by decide) ⟨by omega, by omega⟩ ⟨by decide, by decide⟩ (fun h32 => ?_) (fun h32 => ?_)
          · refine tm_iinc (q0 := 2) (L' := [(3, .int (iI (k + 1))), (5, .int (iI j21)), (4, .int (iI (220 * r + k))), (2, .int (iI n1)), (0, .ref b), (1, .int (iI r))]) dX12_alike_164 rfl (by decide) rfl ?_
            refine tm_goto (tgt := 4) dX12_alike_167 (by decide) ?_
            exact tm_sub [0, 3, 4, 5] rfl (ih _ (by omega) (n1) (k + 1) σ (Fr.rfl.trans (Fr.sub hF (by decide) (by decide) (by decide))) hR (by omega) hok hxo hkc (by have e9 := hal.s (by omega) (ALI.none (j := j21) (by omega) (by first | exact Or.inl (by omega) | exact Or.inr (by rw [rv_at (by omega) (by omega)]; show σ.2.1 3 _ = 13; omega)) hNT); rwa [Int.add_zero] at e9) rfl)
          · have q5 := hok.dest (k := j21) (by omega) (by omega) (by omega)
            rw [q4] at q5
            refine tm_aload_n dX12_alike_120 rfl 4 rfl ?_
            refine tm_get (k := 4) (v := .ref (b + 1 + 2)) lay_12 dX12_alike_121 (by decide) fl12_17 rfl ?_
            refine tm_aload_n dX12_alike_124 rfl 4 rfl ?_
            refine tm_iload_n dX12_alike_125 rfl 5 rfl ?_
            refine tm_iload dX12_alike_126 0 rfl ?_
            refine tm_callV (M := m_X12_alike) (pc := 128) (ix := 203) (M' := m_X12_at) (As := [.int (iI r), .int (iI j21)]) (rest := [.ref (b + 1 + 2)]) dX12_alike_128 ok_X12_at im_X12_at se_X12_at ml12_203 np_X12_at rfl rfl (Nat.le_of_ble_eq_true rfl) (Nat.le_of_ble_eq_true rfl) rfl (c_X12_at (d + 4) (σ := σ) (x := r) (k := j21) ) (fun r33 σ34 hp => ?_)
            obtain ⟨v35, rfl, rfl, f36⟩ := hp
            subst f36
            show Tm _ _ 131 b σ [(5, .int (iI j21)), (4, .int (iI (220 * r + k))), (3, .int (iI k)), (2, .int (iI n1)), (0, .ref b), (1, .int (iI r))] [.int (iI (220 * r + j21)), .ref (b + 1 + 2)] _
            refine tm_iald (z := 220 * r + j21) (v := σ0.2.1 4 (220 * r + j21)) dX12_alike_131 (show mT[2]? = some (4, 0, 2860) from rfl) (by omega) (by omega) (by decide) (ra_F hF (by decide) (rfl)) ?_
            have g37 := RG.a hR0 4 (220 * r + j21)
            refine tm_istore (L' := [(6, .int (iI (σ0.2.1 4 (220 * r + j21)))), (5, .int (iI j21)), (4, .int (iI (220 * r + k))), (3, .int (iI k)), (2, .int (iI n1)), (0, .ref b), (1, .int (iI r))]) dX12_alike_132 (by decide) rfl ?_
            refine tm_aload_n dX12_alike_134 rfl 5 rfl ?_
            refine tm_get (k := 3) (v := .ref (b + 1 + 1)) lay_12 dX12_alike_135 (by decide) fl12_13 rfl ?_
            refine tm_iload dX12_alike_138 2 rfl ?_
            refine tm_iconst dX12_alike_140 ?_
            refine tm_iast (z := 220 * r + k) (v := 0) dX12_alike_141 (show mT[1]? = some (3, 0, 2860) from rfl) (by omega) (by omega) (by decide) ?_
            refine tm_aload_n dX12_alike_142 rfl 5 rfl ?_
            refine tm_iload dX12_alike_143 2 rfl ?_
            refine tm_iconst dX12_alike_145 ?_
            refine tm_iconst dX12_alike_146 ?_
            refine tm_iload dX12_alike_147 0 rfl ?_
            refine tm_callV (M := m_X12_alike) (pc := 149) (ix := 298) (M' := m_X12_setArg) (As := [.int (iI (220 * r + k)), .int (iI 0), .int (iI 2), .int (iI (σ0.2.1 4 (220 * r + j21)))]) (rest := []) dX12_alike_149 ok_X12_setArg im_X12_setArg se_X12_setArg ml12_298 np_X12_setArg rfl rfl (Nat.le_of_ble_eq_true rfl) (Nat.le_of_ble_eq_true rfl) rfl (c_X12_setArg (d + 4) (σ := (sA 3 (220 * r + k) (0) σ)) (x := 220 * r + k) (i := 0) (k := 2) (w := σ0.2.1 4 (220 * r + j21)) (by omega)) (fun r38 σ39 hp => ?_)
            obtain ⟨rfl, f41⟩ := hp
            subst f41
            show Tm _ _ 152 b (fArg (220 * r + k) (0) (2) (σ0.2.1 4 (220 * r + j21)) (sA 3 (220 * r + k) (0) σ)) [(6, .int (iI (σ0.2.1 4 (220 * r + j21)))), (5, .int (iI j21)), (4, .int (iI (220 * r + k))), (3, .int (iI k)), (2, .int (iI n1)), (0, .ref b), (1, .int (iI r))] [] _
            refine tm_aload_n dX12_alike_152 rfl 5 rfl ?_
            refine tm_iload dX12_alike_153 2 rfl ?_
            refine tm_iconst dX12_alike_155 ?_
            refine tm_iconst dX12_alike_156 ?_
            refine tm_iconst dX12_alike_157 ?_
            refine tm_callV (M := m_X12_alike) (pc := 158) (ix := 298) (M' := m_X12_setArg) (As := [.int (iI (220 * r + k)), .int (iI 1), .int (iI 0), .int (iI 0)]) (rest := []) dX12_alike_158 ok_X12_setArg im_X12_setArg se_X12_setArg ml12_298 np_X12_setArg rfl rfl (Nat.le_of_ble_eq_true rfl) (Nat.le_of_ble_eq_true rfl) rfl (c_X12_setArg (d + 4) (σ := (fArg (220 * r + k) (0) (2) (σ0.2.1 4 (220 * r + j21)) (sA 3 (220 * r + k) (0) σ))) (x := 220 * r + k) (i := 1) (k := 0) (w := 0) (by omega)) (fun r42 σ43 hp => ?_)
            obtain ⟨rfl, f45⟩ := hp
            subst f45
            show Tm _ _ 161 b (fArg (220 * r + k) (1) (0) (0) (fArg (220 * r + k) (0) (2) (σ0.2.1 4 (220 * r + j21)) (sA 3 (220 * r + k) (0) σ))) [(6, .int (iI (σ0.2.1 4 (220 * r + j21)))), (5, .int (iI j21)), (4, .int (iI (220 * r + k))), (3, .int (iI k)), (2, .int (iI n1)), (0, .ref b), (1, .int (iI r))] [] _
            refine tm_iinc (q0 := 4) (L' := [(2, .int (iI (n1 + 1))), (6, .int (iI (σ0.2.1 4 (220 * r + j21)))), (5, .int (iI j21)), (4, .int (iI (220 * r + k))), (3, .int (iI k)), (0, .ref b), (1, .int (iI r))]) dX12_alike_161 rfl (by decide) rfl ?_
            refine tm_iinc (q0 := 4) (L' := [(3, .int (iI (k + 1))), (2, .int (iI (n1 + 1))), (6, .int (iI (σ0.2.1 4 (220 * r + j21)))), (5, .int (iI j21)), (4, .int (iI (220 * r + k))), (0, .ref b), (1, .int (iI r))]) dX12_alike_164 rfl (by decide) rfl ?_
            refine tm_goto (tgt := 4) dX12_alike_167 (by decide) ?_
            exact tm_sub [0, 1, 5, 6] rfl (ih _ (by omega) (n1 + 1) (k + 1) (fArg (220 * r + k) (1) (0) (0) (fArg (220 * r + k) (0) (2) (σ0.2.1 4 (220 * r + j21)) (sA 3 (220 * r + k) (0) σ))) ((((Fr.rfl.trans (Fr.sub hF (by decide) (by decide) (by decide))).A (by decide)).trans (Fr.sub fArg_fr (by decide) (by decide) (by decide))).trans (Fr.sub fArg_fr (by decide) (by decide) (by decide))) (((hR.A (by omega)).arg (by omega) (by omega)).arg (by omega) (by omega)) (by omega) (fCpy_off.oks hok (fCpy_oki (hok k (by omega) (by omega)) (by omega) (by omega) (by omega))) (hxo.trans (fCpy_off.xo (by omega) (by omega))) (hkc.cpy (by omega)) (by rw [← q4]; exact hal.s (by omega) (ALI.yes (j := j21) (by omega) (by omega) (by omega) (by omega) ((hTW (by omega)).resolve_left (by omega)) hNT)) rfl)
      · refine tm_goto (tgt := 164) dX12_alike_35 (by decide) ?_
        refine tm_iinc (q0 := 1) (L' := [(3, .int (iI (k + 1))), (4, .int (iI (220 * r + k))), (2, .int (iI n1)), (0, .ref b), (1, .int (iI r))]) dX12_alike_164 rfl (by decide) rfl ?_
        refine tm_goto (tgt := 4) dX12_alike_167 (by decide) ?_
        exact tm_sub [0, 2, 3, 4] rfl (ih _ (by omega) (n1) (k + 1) σ (Fr.rfl.trans (Fr.sub hF (by decide) (by decide) (by decide))) hR (by omega) hok hxo hkc (by have e9 := hal.s (by omega) (ALI.no5 (fun z => by unfold isF at z; rw [rv_in (by omega) (by omega)] at z; have z2 : 1 ≤ σ.2.1 3 (220 * r + k) ∧ σ.2.1 3 (220 * r + k) ≤ 5 := z; omega)); rwa [Int.add_zero] at e9) rfl)
set_option maxHeartbeats 1000000 in
set_option maxRecDepth 20000 in
theorem f_X12_alike (d : Nat) {b : Nat} {σ : MS} {r : Int} {F : Int} (hr : 0 ≤ r ∧ r < 6) (hR : RG σ) (hit : ITM σ) (hpar : PAR σ) (hok : OKS σ F r) : Tm (d + 6) m_X12_alike 0 b σ [(0, .ref b), (1, .int (iI r))] [] (fun ro σ2 => ∃ v : Int, ro = some (.int (iI v)) ∧ (Fr [] [3, 7, 8] [] σ σ2) ∧ (RG σ2) ∧ (OKS σ2 F r) ∧ (XO r σ σ2) ∧ (KC σ σ2) ∧ (ALS (σ.2.1 9 r).toNat (rV σ r) (rV σ2 r) v)) := by
  have q1 := hit r (by omega) (by omega)
  refine tm_iconst dX12_alike_0 ?_
  refine tm_istore_n (L' := [(2, .int (iI 0)), (0, .ref b), (1, .int (iI r))]) dX12_alike_1 rfl (by decide) rfl ?_
  refine tm_iconst dX12_alike_2 ?_
  refine tm_istore_n (L' := [(3, .int (iI 0)), (2, .int (iI 0)), (0, .ref b), (1, .int (iI r))]) dX12_alike_3 rfl (by decide) rfl ?_
  refine tm_sub [0, 1, 2, 3] rfl (f_alike1 (d) (σ0 := σ) (r := r) (F := F) hr hR hit hpar (fun n111 k12 σ13 F4 R5 f6 f7 f8 f9 f10 => ?_) _ (0) (0) σ Fr.rfl hR (by omega) hok XO.rfl KC.rfl ⟨rfl, rfl⟩ rfl)
  show Tm _ _ 170 b σ13 [(3, .int (iI k12)), (2, .int (iI n111)), (0, .ref b), (1, .int (iI r))] [] _
  refine tm_iload_n dX12_alike_170 rfl 1 rfl ?_
  exact tm_iret rfl dX12_alike_171 (⟨_, rfl, (Fr.rfl.trans (Fr.sub F4 (by decide) (by decide) (by decide))), R5, f7, f8, f9, f10⟩)
end
section
def NMM (σ : MS) (r g : Int) : Prop := ∃ f, 0 ≤ f ∧ f < σ.2.1 14 r ∧ ∃ n, 0 ≤ n ∧ n < σ.2.1 12 (σ.2.1 15 (12 * r + f)) ∧ σ.2.1 18 (144 * r + 12 * f + n) = g
theorem NMM.fr {ss ks js : List Nat} {σ τ : MS} {r : Int} (f : Fr ss ks js σ τ) (h : ∀ k ∈ [12, 14, 15, 18], k ∉ ks) : NMM τ r = NMM σ r := by
  funext g
  unfold NMM
  rw [f.q h (k := 12) (by decide), f.q h (k := 14) (by decide), f.q h (k := 15) (by decide), f.q h (k := 18) (by decide)]
def mvK (H : Int → Prop) (n : Int) (V : Int → It) (p q k : Int) : Prop := V k 0 ≤ 5 ∧ ¬ H (V k 1) ∧ (∀ i, 0 ≤ i → i < n → i ≠ k → ¬ wrT (V i) (V k 1)) ∧ ∀ u, 0 ≤ u → u < 4 → V k (3 + 2 * u) = 2 → nwB V p q (V k (4 + 2 * u))
def liV (V : Int → It) (k p : Int) : Int → It := fun i => if i = p then V k else if p < i ∧ i ≤ k then V (i - 1) else V i
def mv1 (H : Int → Prop) (n : Int) (V : Int → It) (p q k : Int) : Prop := p ≤ k ∧ k ≤ q ∧ mvK H n V p q k ∧ ∀ i, p ≤ i → i < k → ¬ mvK H n V p q i
theorem mv1.det {H : Int → Prop} {n p q i j : Int} {V : Int → It} (h : mv1 H n V p q i) (g : mv1 H n V p q j) : i = j := by
  by_cases a : i < j
  · exact absurd h.2.2.1 (g.2.2.2 i h.1 a)
  · by_cases b : j < i
    · exact absurd g.2.2.1 (h.2.2.2 j g.1 b)
    · omega
def mvN (H : Int → Prop) (n : Int) (V : Int → It) (p q : Int) : Prop := ∀ i, p ≤ i → i ≤ q → ¬ mvK H n V p q i
def MVT (H : Int → Prop) (n q : Int) : Nat → (Int → It) → Int → (Int → It) → Int → Prop
  | 0, V, p, V', p' => V' = V ∧ p' = p
  | t + 1, V, p, V', p' => ∃ V1 p1 k, MVT H n q t V p V1 p1 ∧ mv1 H n V1 p1 q k ∧ V' = liV V1 k p1 ∧ p' = p1 + 1
section MV
variable {H : Int → Prop} {n q p : Int} {V A B : Int → It} {a b : Int}
theorem MVT.det {t : Nat} (h : MVT H n q t V p A a) (g : MVT H n q t V p B b) : A = B ∧ a = b := by
  induction t generalizing A B a b with
  | zero => exact ⟨h.1.trans g.1.symm, h.2.trans g.2.symm⟩
  | succ t ih =>
    obtain ⟨C, c, k, h1, h2, h3, h4⟩ := h
    obtain ⟨D, d, l, g1, g2, g3, g4⟩ := g
    obtain ⟨e1, e2⟩ := ih h1 g1
    subst e1 e2
    have e3 := h2.det g2
    subst e3
    exact ⟨h3.trans g3.symm, h4.trans g4.symm⟩
theorem MVT.cut {s t : Nat} (h : MVT H n q s V p A a) (g : t < s) : ∃ C c k, MVT H n q t V p C c ∧ mv1 H n C c q k := by
  induction s generalizing A a with
  | zero => omega
  | succ s ih =>
    obtain ⟨C, c, k, h1, h2, h3, h4⟩ := h
    by_cases e : t = s
    · subst e; exact ⟨C, c, k, h1, h2⟩
    · exact ih h1 (by omega)
theorem MVT.end {s t : Nat} (h : MVT H n q s V p A a) (hn : mvN H n A a q) (g : MVT H n q t V p B b) (gn : mvN H n B b q) : s = t ∧ A = B := by
  have e : s = t := by
    by_cases x : s < t
    · obtain ⟨C, c, k, h1, h2⟩ := g.cut x
      obtain ⟨e1, e2⟩ := h.det h1
      subst e1 e2
      exact absurd h2.2.2.1 (hn k h2.1 h2.2.1)
    · by_cases y : t < s
      · obtain ⟨C, c, k, h1, h2⟩ := h.cut y
        obtain ⟨e1, e2⟩ := g.det h1
        subst e1 e2
        exact absurd h2.2.2.1 (gn k h2.1 h2.2.1)
      · omega
  subst e
  exact ⟨rfl, (h.det g).1⟩
end MV
def LJ (V : Int → It) (n p q : Int) : Prop := p ≤ q ∧ q < n ∧ (p < q → V q 0 = 8 ∧ V q 1 = V p 1) ∧ ∀ i, q < i → i < n → ¬ (V i 0 = 8 ∧ V i 1 = V p 1)
theorem LJ.det {V : Int → It} {n p q u : Int} (h : LJ V n p q) (g : LJ V n p u) : q = u := by
  by_cases a : q < u
  · exact absurd (g.2.2.1 (by have := h.1; omega)) (h.2.2.2 u a g.2.1)
  · by_cases b : u < q
    · exact absurd (h.2.2.1 (by have := g.1; omega)) (g.2.2.2 q b h.2.1)
    · omega
def MVO (H : Int → Prop) (n : Int) (V : Int → It) (p0 : Int) (V' : Int → It) (d : Int) : Prop := (V p0 0 ≠ 13 ∧ V' = V ∧ d = 0) ∨ (V p0 0 = 13 ∧ ∃ q, LJ V n p0 q ∧ ((q = p0 ∧ V' = V ∧ d = 0) ∨ (p0 < q ∧ ∃ t : Nat, ∃ p', MVT H n q t V p0 V' p' ∧ mvN H n V' p' q ∧ d = t)))
theorem MVO.det {H : Int → Prop} {n p0 d e : Int} {V A B : Int → It} (h : MVO H n V p0 A d) (g : MVO H n V p0 B e) : A = B ∧ d = e := by
  rcases h with ⟨a, b, c⟩ | ⟨a, q, b, c⟩ <;> rcases g with ⟨x, y, z⟩ | ⟨x, u, y, z⟩
  · exact ⟨b.trans y.symm, c.trans z.symm⟩
  · exact absurd x a
  · exact absurd a x
  · have e1 := b.det y
    subst e1
    rcases c with ⟨c1, c2, c3⟩ | ⟨c1, s, p1, c2, c3, c4⟩ <;> rcases z with ⟨z1, z2, z3⟩ | ⟨z1, t, p2, z2, z3, z4⟩
    · exact ⟨c2.trans z2.symm, c3.trans z3.symm⟩
    · omega
    · omega
    · obtain ⟨q1, q2⟩ := c2.end c3 z2 z3
      subst q1
      exact ⟨q2, c4.trans z4.symm⟩
def MVA (H : Int → Prop) (n : Int) : Nat → (Int → It) → (Int → It) → Int → Prop
  | 0, V, V', w => V' = V ∧ w = 0
  | t + 1, V, V', w => ∃ V1 w1 d, MVA H n t V V1 w1 ∧ MVO H n V1 (n - 1 - t) V' d ∧ w = w1 + d
theorem MVA.det {H : Int → Prop} {n : Int} {t : Nat} {V A B : Int → It} {a b : Int} (h : MVA H n t V A a) (g : MVA H n t V B b) : A = B ∧ a = b := by
  induction t generalizing A B a b with
  | zero => exact ⟨h.1.trans g.1.symm, h.2.trans g.2.symm⟩
  | succ t ih =>
    obtain ⟨C, c, d, h1, h2, h3⟩ := h
    obtain ⟨D, e, f, g1, g2, g3⟩ := g
    obtain ⟨q1, q2⟩ := ih h1 g1
    subst q1
    obtain ⟨q3, q4⟩ := h2.det g2
    exact ⟨q3, by omega⟩
theorem MVA.s {H : Int → Prop} {n p d w : Int} {V V1 V2 : Int → It} (h : MVA H n (n - 1 - p).toNat V V1 w) (h0 : p < n) (g : MVO H n V1 p V2 d) : MVA H n (n - 1 - (p - 1)).toNat V V2 (w + d) := by
  rw [show (n - 1 - (p - 1)).toNat = (n - 1 - p).toNat + 1 by omega]
  exact ⟨V1, w, d, h, by rw [show n - 1 - (((n - 1 - p).toNat : Nat) : Int) = p by omega]; exact g, rfl⟩
def MVG (σ : MS) (r k fr to m : Int) : Prop := ∀ u, 0 ≤ u → u < m → σ.2.1 7 (4 * (220 * r + k) + u) = 2 → ∀ i, fr ≤ i → i ≤ to → ¬ wrA σ r (σ.2.1 8 (4 * (220 * r + k) + u)) i
theorem mvK_rv {σ : MS} {r k p q v : Int} (h0 : 0 ≤ k) (h1 : k < σ.2.1 9 r) (hp : 0 ≤ p) (hq : q < σ.2.1 9 r) (h5 : σ.2.1 3 (220 * r + k) ≤ 5) (hv : v = cN (wrA σ r (σ.2.1 4 (220 * r + k))) 0 (σ.2.1 9 r - 1 + 1 - 0).toNat) : mvK (NMM σ r) (σ.2.1 9 r) (rV σ r) p q k ↔ ¬ NMM σ r (σ.2.1 4 (220 * r + k)) ∧ v = 1 ∧ MVG σ r k p q 4 := by
  have hw : wrA σ r (σ.2.1 4 (220 * r + k)) k := ⟨Or.inl h5, rfl⟩
  have c1 := cN_1 (n := (σ.2.1 9 r - 1 + 1 - 0).toNat) hw h0 (by omega)
  unfold mvK MVG
  rw [hv, c1, rv_in h0 h1, ri1]
  constructor
  · rintro ⟨a, b, c, e⟩
    refine ⟨b, fun i x y z => ?_, fun u x y z i s t => ?_⟩
    · have := c i x (by omega) z
      rw [rv_in x (by omega)] at this
      exact this
    · have := e u x y (by rw [riK x y]; exact z)
      rw [riN x y] at this
      exact (nwB_rv hp hq).mp this i s t
  · rintro ⟨b, c, e⟩
    refine ⟨h5, b, fun i x y z => ?_, fun u x y z => ?_⟩
    · rw [rv_in x y]
      exact c i x (by omega) z
    · rw [riK x y] at z
      rw [riN x y]
      exact (nwB_rv hp hq).mpr (e u x y z)
theorem MVG.up {σ : MS} {r k fr to m F : Int} (h : MVG σ r k fr to m) (ho : OKI σ F (220 * r + k)) (hm : nArgs σ (220 * r + k) ≤ m) : MVG σ r k fr to 4 := fun u a b c => h u a (by have := ((ho.2.2.2.2.2.2.2.1 u a b).2 c).2; omega) c
theorem mvK_no {σ : MS} {r k p q : Int} {H : Int → Prop} {n : Int} (h0 : 0 ≤ k) (h1 : k < σ.2.1 9 r) (h : ¬ σ.2.1 3 (220 * r + k) ≤ 5) : ¬ mvK H n (rV σ r) p q k := fun z => by
  have := z.1
  rw [rv_in h0 h1, ri0] at this
  exact h this
theorem mv_li {σ τ : MS} {r k p : Int} (hr : 0 ≤ r ∧ r < 6) (hk : 0 ≤ p ∧ p ≤ k ∧ k < σ.2.1 9 r ∧ σ.2.1 9 r ≤ 220) (h : SHF (fCopy (220 * r + k) 2640 σ) τ r k p) (h9 : τ.2.1 9 r = σ.2.1 9 r) : rV (fCopy 2640 (220 * r + p) τ) r = liV (rV σ r) k p := by
  obtain ⟨s1, s2, s3, s4, s5⟩ := h
  have e9 : (fCopy 2640 (220 * r + p) τ).2.1 9 r = σ.2.1 9 r := h9
  have o : ∀ j, j ≠ 2640 → rI (fCopy (220 * r + k) 2640 σ) j = rI σ j := fun j e => fCopy_off.ri e
  have o2 : ∀ j, j ≠ p → rI (fCopy 2640 (220 * r + p) τ) (220 * r + j) = rI τ (220 * r + j) := fun j e => fCopy_off.ri (by omega)
  funext j
  unfold liV
  by_cases b : 0 ≤ j ∧ j < σ.2.1 9 r
  · rw [rv_in b.1 (by rw [e9]; exact b.2)]
    by_cases e : j = p
    · rw [if_pos e, e, ri_copy, s4.ri, ri_copy, rv_in (by omega) hk.2.2.1]
    · rw [if_neg e, o2 j e]
      by_cases q : p < j ∧ j ≤ k
      · rw [if_pos q, (s2 j q.1 q.2).ri, o _ (by omega), rv_in (by omega) (by omega)]
      · rw [if_neg q, rv_in b.1 b.2]
        by_cases w : j ≤ p
        · rw [(s1 j b.1 w).ri, o _ (by omega)]
        · rw [(s3 j (by omega) (by omega)).ri, o _ (by omega)]
  · rw [show rV (fCopy 2640 (220 * r + p) τ) r j = zI from if_neg (by rw [e9]; exact b), if_neg (by omega), if_neg (by omega)]
    exact (if_neg b).symm
theorem mv_q0 {H : Int → Prop} {n q p p' : Int} {V V' : Int → It} {t : Nat} (z : q ≤ p) (h : p ≤ q) (e : MVT H n q t V p V' p') (h13 : V p 0 = 13) : (q = p ∧ V' = V ∧ (t : Int) = 0) ∨ (p < q ∧ ∃ s : Nat, ∃ u, MVT H n q s V p V' u ∧ mvN H n V' u q ∧ (t : Int) = s) := by
  have e0 : t = 0 := by
    by_cases w : 0 < t
    · obtain ⟨C, c, k, h1, h2⟩ := e.cut w
      obtain ⟨x1, x2⟩ := h1
      rw [x1, x2] at h2
      have : k = p := by have := h2.1; have := h2.2.1; omega
      subst this
      have := h2.2.2.1.1
      omega
    · omega
  subst e0
  exact Or.inl ⟨by omega, e.1, rfl⟩
end
