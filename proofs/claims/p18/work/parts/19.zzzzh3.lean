section
def rhA (V : Int → It) (x j k : Int) (R : G8) (k' : Int) (R' : G8) : Prop := k' = k ∧ R' = R ∧ (j < k → k ≤ x → R (V j 1) = val8 R (V j))
section ALK8
variable {V : Int → It} {n k x j m : Int} {R : G8} {i : It}
theorem op_ne {g v : Int} (h : ¬ rdI i g) (h0 : 0 ≤ m) (h4 : m < 4) : opv (uZ R g v) i m = opv R i m := by
  unfold opv
  by_cases c : i (3 + 2 * m) = 2
  · rw [if_pos c, if_pos c, uZ_ne (fun z => h ⟨m, h0, h4, c, z⟩)]
  · rw [if_neg c, if_neg c]
theorem val_ne {g v : Int} (h : ¬ rdI i g) : val8 (uZ R g v) i = val8 R i := by
  unfold val8
  rw [op_ne h (by decide) (by decide), op_ne h (by decide) (by decide)]
theorem op_n2 {g v : Int} (h0 : i 3 = 2 → i 4 ≠ g) (h1 : i 5 = 2 → i 6 ≠ g) : val8 (uZ R g v) i = val8 R i := by
  have a0 : opv (uZ R g v) i 0 = opv R i 0 := by
    rw [opv_0, opv_0]
    by_cases c : i 3 = 2
    · rw [if_pos c, if_pos c, uZ_ne (h0 c)]
    · rw [if_neg c, if_neg c]
  have a1 : opv (uZ R g v) i 1 = opv R i 1 := by
    rw [opv_1, opv_1]
    by_cases c : i 5 = 2
    · rw [if_pos c, if_pos c, uZ_ne (h1 c)]
    · rw [if_neg c, if_neg c]
  unfold val8
  rw [a0, a1]
theorem val_c {a b : It} (h0 : a 0 = b 0) (h3 : a 3 = b 3) (h4 : a 4 = b 4) (h5 : a 5 = b 5) (h6 : a 6 = b 6) : val8 R a = val8 R b := by
  unfold val8
  rw [opv_0, opv_0, opv_1, opv_1, h0, h3, h4, h5, h6]
theorem cpy_c (v u : Int) : cpyI i v u 0 = 0 ∧ cpyI i v u 1 = i 1 ∧ cpyI i v u 3 = v ∧ cpyI i v u 4 = u := by
  refine ⟨?_, ?_, ?_, ?_⟩
  · show uZ (uZ (uZ (uZ (uZ i 0 0) 3 v) 4 u) 5 0) 6 0 0 = 0
    rw [uZ_ne (by decide), uZ_ne (by decide), uZ_ne (by decide), uZ_ne (by decide), uZ_eq]
  · show uZ (uZ (uZ (uZ (uZ i 0 0) 3 v) 4 u) 5 0) 6 0 1 = i 1
    rw [uZ_ne (by decide), uZ_ne (by decide), uZ_ne (by decide), uZ_ne (by decide), uZ_ne (by decide)]
  · show uZ (uZ (uZ (uZ (uZ i 0 0) 3 v) 4 u) 5 0) 6 0 3 = v
    rw [uZ_ne (by decide), uZ_ne (by decide), uZ_ne (by decide), uZ_eq]
  · show uZ (uZ (uZ (uZ (uZ i 0 0) 3 v) 4 u) 5 0) 6 0 4 = u
    rw [uZ_ne (by decide), uZ_ne (by decide), uZ_eq]
end ALK8
theorem ls_ali {H : RTS} {x j : Int} (hx : 0 ≤ x ∧ x < H.n) (hf : isF (H.V x)) (ht : TWF H.V x j) : LS8 H (H.n, uZ H.V x (cpyI (H.V x) 2 (H.V j 1)), H.2.2) (rhA H.V x j) := by
  obtain ⟨j0, jx, j13, ⟨⟨t0, t3, t4, t5, t6⟩, tn, tw, tr3, tr5⟩, tl⟩ := ht
  intro k R k' R' hr k0 kn
  obtain ⟨e1, e2, hk⟩ := hr
  rw [e1, e2]
  have jmp : ∀ l, H.V l 0 = 13 → ¬ (j < l ∧ l ≤ x) := fun l a b => by
    by_cases c : l = x
    · rw [c] at a; have := hf.2; omega
    · exact (tl l b.1 (by omega)).1 a
  by_cases ex : k = x
  · -- the item that is alike
    have ey : uZ H.V x (cpyI (H.V x) 2 (H.V j 1)) k = cpyI (H.V x) 2 (H.V j 1) := by rw [ex, uZ_eq]
    obtain ⟨c0, c1, c3, c4⟩ := cpy_c (i := H.V x) 2 (H.V j 1)
    refine ls8_sc (sc8 (H2 := (H.n, uZ H.V x (cpyI (H.V x) 2 (H.V j 1)), H.2.2)) ⟨k0, kn⟩ (Or.inr ⟨by rw [ex]; exact hf.2, ?_⟩) (fun a => ?_) (fun a => ?_) (fun _ _ a _ _ => ?_) (fun a => ?_) (fun a => ?_) (fun a => ?_))
    · show uZ H.V x (cpyI (H.V x) 2 (H.V j 1)) k 0 ≤ 5
      rw [ey, c0]; decide
    · rw [ex] at a; have := hf.2; omega
    · rw [ex] at a; have := hf.2; omega
    · rw [ex] at a; have := hf.2; omega
    · show rhA H.V x j (k + 1) _ (k + 1) (uZ R (uZ H.V x (cpyI (H.V x) 2 (H.V j 1)) k 1) (val8 R (uZ H.V x (cpyI (H.V x) 2 (H.V j 1)) k)))
      refine ⟨rfl, ?_, fun _ z => by omega⟩
      have v1 : val8 R (cpyI (H.V x) 2 (H.V j 1)) = R (H.V j 1) := by
        unfold val8
        rw [if_pos c0, opv_0, if_pos c3, c4]
      rw [ey, v1, c1, hk (by omega) (by omega), val_c t0 t3 t4 t5 t6, ex]
    · rw [ex] at a; have := hf.2; omega
    · rw [ex] at a; have := hf.2; omega
  · have ey : uZ H.V x (cpyI (H.V x) 2 (H.V j 1)) k = H.V k := uZ_ne ex
    -- behind an item that writes
    have wr : ∀ g v, wrT (H.V k) g → (k = j → g = H.V j 1 ∧ (v = val8 R (H.V j))) → rhA H.V x j (k + 1) (uZ R g v) (k + 1) (uZ R g v) := fun g v a b => by
      refine ⟨rfl, rfl, fun y z => ?_⟩
      by_cases ej : k = j
      · obtain ⟨b1, b2⟩ := b ej
        rw [b1, uZ_eq, b2, val_ne tn]
      · have n1 := tw k (by omega) (by omega)
        have g1 : H.V j 1 ≠ g := fun w => n1 (by rw [w]; exact a)
        rw [uZ_ne g1, hk (by omega) (by omega)]
        refine (op_n2 (fun c w => ?_) (fun c w => ?_)).symm
        · exact tr3 c k (by omega) (by omega) (by rw [w]; exact a)
        · exact tr5 c k (by omega) (by omega) (by rw [w]; exact a)
    refine ls8_sc (sc8 (H2 := (H.n, uZ H.V x (cpyI (H.V x) 2 (H.V j 1)), H.2.2)) ⟨k0, kn⟩ (Or.inl ?_) (fun a => ?_) (fun a => ⟨?_, fun m _ _ => ?_⟩) (fun _ _ a b _ => ?_) (fun a => ?_) (fun a v => ?_) (fun a l hl => ?_))
    · show uZ H.V x (cpyI (H.V x) 2 (H.V j 1)) k 0 = _; rw [ey]
    · show opv R (uZ H.V x (cpyI (H.V x) 2 (H.V j 1)) k) 0 = _; rw [ey]
    · show uZ H.V x (cpyI (H.V x) 2 (H.V j 1)) k 2 = _; rw [ey]
    · show opv R (uZ H.V x (cpyI (H.V x) 2 (H.V j 1)) k) m = _; rw [ey]
    · refine ⟨rfl, rfl, fun y z => hk ?_ (by omega)⟩
      by_cases ej : k = j
      · rw [ej, t0] at a; have := hf.2; omega
      · omega
    · show rhA H.V x j (k + 1) _ (k + 1) (uZ R (uZ H.V x (cpyI (H.V x) 2 (H.V j 1)) k 1) (val8 R (uZ H.V x (cpyI (H.V x) 2 (H.V j 1)) k)))
      rw [ey]
      exact wr _ _ ⟨Or.inl a, rfl⟩ (fun z => by rw [z]; exact ⟨rfl, rfl⟩)
    · show rhA H.V x j (k + 1) _ (k + 1) (uZ R (uZ H.V x (cpyI (H.V x) 2 (H.V j 1)) k 1) v)
      rw [ey]
      exact wr _ _ ⟨Or.inr a, rfl⟩ (fun z => by rw [z, t0] at a; have := hf.2; omega)
    · have lx : l ≠ x := fun z => by have := hl.2.2.1; rw [z] at this; have := hf.2; omega
      refine ⟨l, ⟨hl.1, hl.2.1, ?_, ?_⟩, rfl, rfl, fun y z => absurd ⟨y, z⟩ (jmp l hl.2.2.1)⟩
      · show uZ H.V x (cpyI (H.V x) 2 (H.V j 1)) l 0 = 13; rw [uZ_ne lx]; exact hl.2.2.1
      · show uZ H.V x (cpyI (H.V x) 2 (H.V j 1)) l 1 = uZ H.V x (cpyI (H.V x) 2 (H.V j 1)) k 1; rw [uZ_ne lx, ey]; exact hl.2.2.2
theorem st_ali {H H2 : RTS} {x j P : Int} (hj : 0 ≤ j) (e : H2.2.2 = H.2.2) : ST8 H H2 P (rhA H.V x j) := fun W => by
  refine ⟨rfl, ?_, fun z => by omega⟩
  unfold cal8
  rw [show H2.na = H.na by unfold RTS.na; rw [e]]
theorem TRN8.als {PM : Int → Int} {r : Int} (hP : ∀ q, PM q ≤ 4) {X : Int × (Int → Int) × (Int → Int) × (Int → Int) × (Int → Int → Int)} {V V' : Int → It} {n w : Int} {t : Nat} (ht : (t : Int) ≤ n) (h : ALS t V V' w) : TRN8 PM r (n, V, X) (n, V', X) := by
  induction t generalizing V' w with
  | zero => rw [h.1]; exact TRN8.rf
  | succ t ih =>
    obtain ⟨V1, w1, d, h1, h2, h3⟩ := h
    refine (ih (by omega) h1).trans ?_
    rcases h2 with ⟨j, a, b, c, e⟩ | ⟨a, b, c⟩
    · rw [c]
      exact TRN8.of hP (ls_ali (H := (n, V1, X)) ⟨by omega, by show (t : Int) < n; omega⟩ a b) (st_ali (H := (n, V1, X)) (x := t) b.1 rfl)
    · rw [b]; exact TRN8.rf
def rhS (V : Int → It) (n : Int) (nb : Int → Int) (k : Int) (R : G8) (k' : Int) (R' : G8) : Prop := k' = k ∧ ∀ g, LVV V n k g → R' (nb g) = R g
def RG8 (V : Int → It) (n : Int) : Prop := (∀ i, 0 ≤ i → i < n → (V i 0 ≤ 5 ∨ V i 0 = 10) → 0 ≤ V i 1 ∧ V i 1 < 192) ∧ ∀ i, 0 ≤ i → i < n → ∀ j, 0 ≤ j → j < 4 → V i (3 + 2 * j) = 2 → 0 ≤ V i (4 + 2 * j) ∧ V i (4 + 2 * j) < 192
section SHR8
variable {V : Int → It} {n k g x y m P : Int} {nb : Int → Int} {bg Q : Int → Prop} {R R' : G8} {i : It}
theorem lv_rg (h : RG8 V n) (l : LVV V n k g) : 0 ≤ g ∧ g < 192 := by
  obtain ⟨i, i0, i1, j, j0, j1, j2, j3⟩ := l.rx
  rw [← j3]; exact h.2 i i0 i1 j j0 j1 j2
theorem nb_ne {od : Int → Int → Prop} (h : nbV od 192 nb) (hs : ∀ x y, od x y → od y x) (hx : 0 ≤ x ∧ x < 192) (hy : 0 ≤ y ∧ y < 192) (e : x ≠ y) (o : od x y) : nb x ≠ nb y := by
  by_cases c : x < y
  · exact (h y hy.1 hy.2).2.1 x hx.1 c (hs x y o)
  · exact fun z => (h x hx.1 hx.2).2.1 y hy.1 (by omega) o z.symm
theorem od_s (o : odV V n Q x y) : odV V n Q y x := ⟨fun z => o.1 z.symm, by
  rcases o.2 with z | z | z
  · exact Or.inl ⟨z.2, z.1⟩
  · exact Or.inr (Or.inr z)
  · exact Or.inr (Or.inl z)⟩
theorem sv_k (k0 : 0 ≤ k) (kn : k < n) : shV V n nb bg k = rnI nb (ubV V n nb bg k) := if_pos ⟨k0, kn⟩
theorem ub8c {c : Int} (h : c < 3) : ubV V n nb bg k c = V k c := by
  unfold ubV
  by_cases a : (0 ≤ k ∧ k < n) ∧ V k 0 = 12 ∧ RCG V n 0 (fun _ => False) k ∧ ∃ u, rdI (V k) u ∧ lsV V n nb bg k u
  · rw [dI_y a]
    show uZ (uZ (uZ (uZ (uZ (V k) 11 13) 3 0) 4 0) 5 0) 6 0 c = V k c
    rw [uZ_ne (by omega), uZ_ne (by omega), uZ_ne (by omega), uZ_ne (by omega), uZ_ne (by omega)]
  · rw [dI_n a]
theorem ub8n (h : V k 0 ≠ 12) : ubV V n nb bg k = V k := by unfold ubV; rw [dI_n (fun z => h z.2.1)]
theorem rn_lo {c : Int} (h : c < 3) (h1 : c ≠ 1) : rnI nb i c = i c := by
  show (if c = 1 ∧ (i 0 ≤ 5 ∨ i 0 = 10) then nb (i 1) else if (c = 4 ∨ c = 6 ∨ c = 8 ∨ c = 10) ∧ i (c - 1) = 2 then nb (i c) else i c) = i c
  rw [if_neg (fun z => h1 z.1), if_neg (by omega)]
theorem rn_1 : rnI nb i 1 = if i 0 ≤ 5 ∨ i 0 = 10 then nb (i 1) else i 1 := by
  show (if (1 : Int) = 1 ∧ (i 0 ≤ 5 ∨ i 0 = 10) then nb (i 1) else if ((1 : Int) = 4 ∨ (1 : Int) = 6 ∨ (1 : Int) = 8 ∨ (1 : Int) = 10) ∧ i (1 - 1) = 2 then nb (i 1) else i 1) = _
  by_cases c : i 0 ≤ 5 ∨ i 0 = 10
  · rw [if_pos ⟨rfl, c⟩, if_pos c]
  · rw [if_neg (fun z => c z.2), if_neg c, if_neg (by omega)]
theorem rn8op (h : ∀ g, rdI i g → R' (nb g) = R g) (m0 : 0 ≤ m) (m4 : m < 4) : opv R' (rnI nb i) m = opv R i m := by
  have e3 : rnI nb i (3 + 2 * m) = i (3 + 2 * m) := by
    show (if 3 + 2 * m = 1 ∧ (i 0 ≤ 5 ∨ i 0 = 10) then nb (i 1) else if (3 + 2 * m = 4 ∨ 3 + 2 * m = 6 ∨ 3 + 2 * m = 8 ∨ 3 + 2 * m = 10) ∧ i (3 + 2 * m - 1) = 2 then nb (i (3 + 2 * m)) else i (3 + 2 * m)) = _
    rw [if_neg (fun z => by omega), if_neg (fun z => by omega)]
  have e4 : rnI nb i (4 + 2 * m) = if i (3 + 2 * m) = 2 then nb (i (4 + 2 * m)) else i (4 + 2 * m) := by
    show (if 4 + 2 * m = 1 ∧ (i 0 ≤ 5 ∨ i 0 = 10) then nb (i 1) else if (4 + 2 * m = 4 ∨ 4 + 2 * m = 6 ∨ 4 + 2 * m = 8 ∨ 4 + 2 * m = 10) ∧ i (4 + 2 * m - 1) = 2 then nb (i (4 + 2 * m)) else i (4 + 2 * m)) = _
    rw [if_neg (fun z => by omega), show 4 + 2 * m - 1 = 3 + 2 * m by omega]
    by_cases c : i (3 + 2 * m) = 2
    · rw [if_pos c, if_pos ⟨by omega, c⟩]
    · rw [if_neg c, if_neg (fun z => c z.2)]
  unfold opv
  rw [e3, e4]
  by_cases c : i (3 + 2 * m) = 2
  · rw [if_pos c, if_pos c, if_pos c]; exact h _ ⟨m, m0, m4, c, rfl⟩
  · rw [if_neg c, if_neg c, if_neg c]
end SHR8
theorem ls_shr {H : RTS} {nb : Int → Int} {Q bg : Int → Prop} {X : Int × (Int → Int) × (Int → Int) × (Int → Int) × (Int → Int → Int)} (hr : RG8 H.V H.n) (hn : nbV (odV H.V H.n Q) 192 nb) : LS8 H (H.n, shV H.V H.n nb bg, X) (rhS H.V H.n nb) := by
  intro k R k' R' h k0 kn
  obtain ⟨e1, hl⟩ := h
  rw [e1]
  have ek : shV H.V H.n nb bg k = rnI nb (ubV H.V H.n nb bg k) := sv_k k0 kn
  have y0 : shV H.V H.n nb bg k 0 = H.V k 0 := by rw [ek, rn_lo (by decide) (by decide), ub8c (by decide)]
  have y2 : shV H.V H.n nb bg k 2 = H.V k 2 := by rw [ek, rn_lo (by decide) (by decide), ub8c (by decide)]
  have y1 : shV H.V H.n nb bg k 1 = if H.V k 0 ≤ 5 ∨ H.V k 0 = 10 then nb (H.V k 1) else H.V k 1 := by rw [ek, rn_1, ub8c (by decide), ub8c (by decide)]
  have op : H.V k 0 ≠ 12 → ∀ m, 0 ≤ m → m < 4 → opv R' (shV H.V H.n nb bg k) m = opv R (H.V k) m := fun a m m0 m4 => by
    rw [ek, ub8n a]
    exact rn8op (fun g b => hl g (LVV.rd k0 kn a b)) m0 m4
  have wr : (H.V k 0 ≤ 5 ∨ H.V k 0 = 10) → ∀ v, rhS H.V H.n nb (k + 1) (uZ R (H.V k 1) v) (k + 1) (uZ R' (shV H.V H.n nb bg k 1) v) := fun a v => by
    refine ⟨rfl, fun g b => ?_⟩
    rw [y1, if_pos a]
    by_cases e : g = H.V k 1
    · rw [e, uZ_eq, uZ_eq]
    · rw [uZ_ne e, uZ_ne]
      · exact hl g (LVV.on k0 kn (fun z => e z.2.symm) (Or.inl ⟨by omega, rfl⟩) b)
      · exact nb_ne hn (fun _ _ => od_s) (lv_rg hr b) (hr.1 k k0 kn a) e ⟨e, Or.inr (Or.inr ⟨k, k0, kn, ⟨a, rfl⟩, b⟩)⟩
  refine ls8_sc (sc8 (H2 := (H.n, shV H.V H.n nb bg, X)) ⟨k0, kn⟩ (Or.inl y0) (fun a => op (by omega) 0 (by decide) (by decide)) (fun a => ⟨y2, fun m m0 m4 => op (by omega) m m0 m4⟩) (fun a b c d _ => ?_) (fun a => ?_) (fun a v => wr (Or.inr a) v) (fun a l b => ?_))
  · exact ⟨rfl, fun g b2 => hl g (LVV.on k0 kn (fun z => by have := z.1; omega) (Or.inl ⟨by omega, rfl⟩) b2)⟩
  · have q : val8 R' (shV H.V H.n nb bg k) = val8 R (H.V k) := by
      unfold val8
      rw [y0, op (by omega) 0 (by decide) (by decide), op (by omega) 1 (by decide) (by decide)]
    show rhS H.V H.n nb (k + 1) _ (k + 1) (uZ R' (shV H.V H.n nb bg k 1) (val8 R' (shV H.V H.n nb bg k)))
    rw [q]; exact wr (Or.inl a) _
  · have hk : H.V k 0 = 8 ∨ H.V k 0 = 9 := a.elim Or.inl (fun z => Or.inr z.1)
    refine ⟨l, ⟨b.1, b.2.1, ?_, ?_⟩, rfl, fun g c => hl g (LVV.on k0 kn (fun z => by have := z.1; omega) (Or.inr ⟨hk, b⟩) c)⟩
    · show shV H.V H.n nb bg l 0 = 13
      rw [sv_k b.1 b.2.1, rn_lo (by decide) (by decide), ub8c (by decide)]; exact b.2.2.1
    · show shV H.V H.n nb bg l 1 = shV H.V H.n nb bg k 1
      rw [y1, if_neg (by omega), sv_k b.1 b.2.1, rn_1, ub8c (by decide), ub8c (by decide), if_neg (by have := b.2.2.1; omega)]; exact b.2.2.2
theorem pw_nb {H W nb R R' : Int → Int} {g : Int} {Q : Int → Prop} {p : Nat} (h0 : R' (nb g) = R g) (hne : ∀ m : Int, 0 ≤ m → m < p → g ≠ H m → nb g ≠ nb (H m)) : pwR (fun m => nb (H m)) W p R' (nb g) = pwR H W p R g := by
  induction p with
  | zero => exact h0
  | succ p ih =>
    show uZ (pwR (fun m => nb (H m)) W p R') (nb (H p)) (W p) (nb g) = uZ (pwR H W p R) (H p) (W p) g
    by_cases e : g = H p
    · rw [e, uZ_eq, uZ_eq]
    · rw [uZ_ne e, uZ_ne (hne p (by omega) (by omega) e)]
      exact ih (fun m a b => hne m a (by omega))
theorem st_shr {H : RTS} {nb : Int → Int} {bg : Int → Prop} {P : Int} {X : Int × (Int → Int) × (Int → Int) × (Int → Int) × (Int → Int → Int)} (hr : RG8 H.V H.n) (hp : ∀ m, 0 ≤ m → m < P → 0 ≤ H.na 0 m ∧ H.na 0 m < 192) (hX : ∀ m, 0 ≤ m → m < P → X.2.2.2.2 0 m = nb (H.na 0 m)) (hn : nbV (odV H.V H.n (pmS H P)) 192 nb) : ST8 H (H.n, shV H.V H.n nb bg, X) P (rhS H.V H.n nb) := fun W => by
  refine ⟨rfl, fun g a => ?_⟩
  unfold cal8
  have e1 : pwR (RTS.na (H.n, shV H.V H.n nb bg, X) 0) W P.toNat (fun _ => 0) (nb g) = pwR (fun m => nb (H.na 0 m)) W P.toNat (fun _ => 0) (nb g) := pwR_c (fun i b c => ⟨hX i b (by omega), rfl⟩) rfl
  rw [e1]
  refine pw_nb (Q := fun _ => True) rfl (fun m b c e => ?_)
  exact nb_ne hn (fun _ _ => od_s) (lv_rg hr a) (hp m b (by omega)) e ⟨e, Or.inl ⟨Or.inr a, Or.inl ⟨m, b, by omega, rfl⟩⟩⟩
theorem TRN8.share {PM NM : Int → Int} {r : Int} {H : RTS} {nb : Int → Int} (hP : ∀ q, PM q ≤ 4) (hr : RG8 H.V H.n) (hF : 0 < H.F) (hm : ∀ m, 0 ≤ m → m < PM r → m < NM (H.fo 0) ∧ 0 ≤ H.na 0 m ∧ H.na 0 m < 192) (hn : nbV (odV H.V H.n (pmS H (PM r))) 192 nb) : TRN8 PM r H (shS H (PM r) NM nb) := by
  refine TRN8.of (ρ := rhS H.V H.n nb) hP (ls_shr hr hn) (st_shr hr (fun m a b => (hm m a b).2) (fun m a b => ?_) hn)
  show (if (0 ≤ (0 : Int) ∧ 0 < H.F) ∧ 0 ≤ m ∧ m < NM (H.fo 0) then nb (H.na 0 m) else 0) = nb (H.na 0 m)
  rw [if_pos ⟨⟨Int.le_refl _, hF⟩, a, (hm m a b).1⟩]
end
