section
def PF8 (s s' : BB) : Prop := s.1 ≤ s'.1 ∧ ∀ m, m < s.1 → s'.2 m = s.2 m
noncomputable def hdB (f base P N : Int) (na : Int → Int) (x : It) (lv : Int → Prop) : BB := mb2 base lv (mb1 f base P na x (bA (0, fun _ => zI) (mkI 14 f 0 0 0 0)) N.toNat) 192
noncomputable def bdB (f base lb to out : Int) (Vq : Int → It) (s : BB) (j : Int) : BB := mb3 f base lb to out Vq s j.toNat
section PFS
variable {s s1 s2 : BB} {i x : It} {f base P lb to out m j k : Int} {na W : Int → Int} {lv : Int → Prop} {V : Int → It} {t u : Nat}
theorem PF8.rf : PF8 s s := ⟨Int.le_refl _, fun _ _ => rfl⟩
theorem PF8.tr (h : PF8 s s1) (g : PF8 s1 s2) : PF8 s s2 := ⟨by have := h.1; have := g.1; omega, fun m a => (g.2 m (by have := h.1; omega)).trans (h.2 m a)⟩
theorem PF8.add : PF8 s (bA s i) := ⟨by show s.1 ≤ s.1 + 1; omega, fun m a => uZ_ne (by omega)⟩
theorem PF8.at (h : PF8 (bA s i) s2) : s.1 + 1 ≤ s2.1 ∧ s2.2 s.1 = i := ⟨h.1, (h.2 s.1 (by show s.1 < s.1 + 1; omega)).trans uZ_eq⟩
theorem pf_nm : PF8 s (nmS f base P na x m s) := by
  unfold nmS
  by_cases c : m < P
  · rw [if_pos c]; exact PF8.add.tr PF8.add
  · rw [if_neg c]; exact PF8.add
theorem pf_1 (u : Nat) : PF8 (mb1 f base P na x s t) (mb1 f base P na x s (t + u)) := by
  induction u with
  | zero => exact PF8.rf
  | succ u ih => exact ih.tr pf_nm
theorem pf_2s : PF8 (mb2 base lv s t) (mb2 base lv s (t + 1)) := by
  show PF8 (mb2 base lv s t) (dI (lv t) (bA (mb2 base lv s t) (mkI 0 (base + t) 0 1 0 0)) (mb2 base lv s t))
  by_cases c : lv t
  · rw [dI_y c]; exact PF8.add
  · rw [dI_n c]; exact PF8.rf
theorem pf_2 (u : Nat) : PF8 (mb2 base lv s t) (mb2 base lv s (t + u)) := by
  induction u with
  | zero => exact PF8.rf
  | succ u ih => exact ih.tr pf_2s
theorem pf_3s : PF8 (mb3 f base lb to out V s t) (mb3 f base lb to out V s (t + 1)) := by
  show PF8 (mb3 f base lb to out V s t) (if V t 0 = 7 then bA (bA (mb3 f base lb to out V s t) (uZ (uZ (shO base (V t)) 0 0) 1 to)) (mkI 8 out 0 0 0 0) else bA (mb3 f base lb to out V s t) (mlI f base lb (V t)))
  by_cases c : V t 0 = 7
  · rw [if_pos c]; exact PF8.add.tr PF8.add
  · rw [if_neg c]; exact PF8.add
theorem pf_3 (u : Nat) : PF8 (mb3 f base lb to out V s t) (mb3 f base lb to out V s (t + u)) := by
  induction u with
  | zero => exact PF8.rf
  | succ u ih => exact ih.tr pf_3s
theorem sil.tr {H : RTS} {d k k1 k2 : Int} {R R1 R2 : G8} {m n : Nat} (h : sil H d m k R k1 R1) (g : sil H d n k1 R1 k2 R2) : sil H d (m + n) k R k2 R2 := by
  induction m generalizing k R with
  | zero =>
    obtain ⟨e1, e2⟩ := h
    rw [← e1, ← e2, Nat.zero_add]; exact g
  | succ m ih =>
    obtain ⟨k3, R3, h1, h2⟩ := h
    rw [show m + 1 + n = m + n + 1 by omega]
    exact ⟨k3, R3, h1, ih h2⟩
end PFS
section PWS
variable {na W : Int → Int} {R R0 : Int → Int} {base g : Int} {p : Nat}
theorem pw_lo (h : ∀ m : Int, 0 ≤ m → m < p → 0 ≤ na m) {x : Int} (hx : x < base) : pwR (fun m => base + na m) W p R x = R x := by
  induction p with
  | zero => rfl
  | succ p ih =>
    show uZ (pwR (fun m => base + na m) W p R) (base + na p) (W p) x = R x
    have := h p (by omega) (by omega)
    rw [uZ_ne (by omega)]
    exact ih (fun m a b => h m a (by omega))
theorem pw_hi (h : ∃ m : Int, 0 ≤ m ∧ m < p ∧ na m = g) : pwR (fun m => base + na m) W p R (base + g) = pwR na W p R0 g := by
  induction p with
  | zero => obtain ⟨m, a, b, -⟩ := h; omega
  | succ p ih =>
    show uZ (pwR (fun m => base + na m) W p R) (base + na p) (W p) (base + g) = uZ (pwR na W p R0) (na p) (W p) g
    by_cases e : g = na p
    · rw [e, uZ_eq, uZ_eq]
    · rw [uZ_ne (by omega), uZ_ne e]
      obtain ⟨m, a, b, c⟩ := h
      refine ih ⟨m, a, ?_, c⟩
      by_cases z : m = p
      · rw [z] at c; exact absurd c.symm e
      · omega
theorem pw_no (h : ∀ m : Int, 0 ≤ m → m < p → na m ≠ g) : pwR na W p R g = R g := by
  induction p with
  | zero => rfl
  | succ p ih =>
    show uZ (pwR na W p R) (na p) (W p) g = R g
    rw [uZ_ne (fun z => h p (by omega) (by omega) z.symm)]
    exact ih (fun m a b => h m a (by omega))
end PWS
section HDS
variable {H2 : RTS} {M : BB} {f base P N k n1 : Int} {na : Int → Int} {x : It} {lv : Int → Prop}
theorem mk_op {R : G8} {d o w ak a : Int} : val8 R (mkI 0 d o ak a w) = if ak = 2 then R a else a := by
  unfold val8
  rw [if_pos (show mkI 0 d o ak a w 0 = 0 from rfl), opv_0]
  rfl
theorem hd_cp {d o w ak a : Int} {R : G8} {s : BB} (hM : ∀ m, 0 ≤ m → m < M.1 → H2.V (k + m) = M.2 m) (hn : k + M.1 ≤ H2.n) (k0 : 0 ≤ k) (s0 : 0 ≤ s.1) (h : PF8 (bA s (mkI 0 o 0 ak a w)) M) : ist H2 (k + s.1) R d (0, 0) (k + s.1 + 1) (uZ R o (if ak = 2 then R a else a)) d := by
  obtain ⟨h1, h2⟩ := h.at
  have e := hM s.1 s0 (by omega)
  rw [h2] at e
  refine ⟨by omega, Or.inl ⟨?_, rfl, rfl, ?_, rfl⟩⟩
  · rw [e]; show (0 : Int) ≤ 5; decide
  · rw [e, mk_op]; rfl
theorem hd_bd {d o ff w ak a : Int} {R : G8} {s : BB} (hM : ∀ m, 0 ≤ m → m < M.1 → H2.V (k + m) = M.2 m) (hn : k + M.1 ≤ H2.n) (k0 : 0 ≤ k) (s0 : 0 ≤ s.1) (h : PF8 (bA s (mkI 12 o ff ak a w)) M) : ist H2 (k + s.1) R d (0, 0) (k + s.1 + 1) R d := by
  obtain ⟨h1, h2⟩ := h.at
  have e := hM s.1 s0 (by omega)
  rw [h2] at e
  exact ⟨by omega, Or.inr (Or.inr (Or.inr (Or.inl ⟨Or.inr (Or.inl (by rw [e]; rfl)), rfl, rfl, rfl, rfl⟩)))⟩
theorem nn8_1 {s : BB} (s0 : 0 ≤ s.1) (t : Nat) : 0 ≤ (mb1 f base P na x s t).1 := by
  have := (pf_1 (f := f) (base := base) (P := P) (na := na) (x := x) (s := s) (t := 0) t).1
  rw [Nat.zero_add] at this
  have e : (mb1 f base P na x s 0).1 = s.1 := rfl
  omega
theorem nn8_2 {s : BB} (s0 : 0 ≤ s.1) (t : Nat) : 0 ≤ (mb2 base lv s t).1 := by
  have := (pf_2 (base := base) (lv := lv) (s := s) (t := 0) t).1
  rw [Nat.zero_add] at this
  have e : (mb2 base lv s 0).1 = s.1 := rfl
  omega
theorem hd_1 {R : G8} {d : Int} {s : BB} (hM : ∀ m, 0 ≤ m → m < M.1 → H2.V (k + m) = M.2 m) (hn : k + M.1 ≤ H2.n) (k0 : 0 ≤ k) (s0 : 0 ≤ s.1) (h4 : P ≤ 4) (hx : ∀ g, rdI x g → g < base) (hna : ∀ m, 0 ≤ m → m < P → 0 ≤ na m) (t : Nat) (h : PF8 (mb1 f base P na x s t) M) : ∃ n, sil H2 d n (k + s.1) R (k + (mb1 f base P na x s t).1) (pwR (fun m => base + na m) (opv R x) (if (t : Int) < P then t else P.toNat) R) := by
  induction t with
  | zero =>
    refine ⟨0, rfl, ?_⟩
    by_cases c : ((0 : Nat) : Int) < P
    · rw [if_pos c]; rfl
    · rw [if_neg c, show P.toNat = 0 by omega]; rfl
  | succ t ih =>
    have pf : PF8 (mb1 f base P na x s t) M := (pf_1 1).tr h
    obtain ⟨n, hs⟩ := ih pf
    have e : mb1 f base P na x s (t + 1) = nmS f base P na x t (mb1 f base P na x s t) := rfl
    rw [e] at h ⊢
    unfold nmS at h ⊢
    have z0 := nn8_1 (f := f) (base := base) (P := P) (na := na) (x := x) s0 t
    by_cases c : (t : Int) < P
    · rw [if_pos c] at h hs ⊢
      have h1 : PF8 (bA (mb1 f base P na x s t) (mkI 0 (base + na t) 0 (x (3 + 2 * t)) (x (4 + 2 * t)) 0)) M := PF8.add.tr h
      have i1 := hd_cp (d := d) (R := pwR (fun m => base + na m) (opv R x) t R) hM hn k0 z0 h1
      have i2 := hd_bd (d := d) (R := uZ (pwR (fun m => base + na m) (opv R x) t R) (base + na t) (if x (3 + 2 * t) = 2 then pwR (fun m => base + na m) (opv R x) t R (x (4 + 2 * t)) else x (4 + 2 * t))) hM hn k0 (by show 0 ≤ (mb1 f base P na x s t).1 + 1; omega) h
      have ev : (if x (3 + 2 * t) = 2 then pwR (fun m => base + na m) (opv R x) t R (x (4 + 2 * t)) else x (4 + 2 * t)) = opv R x t := by
        unfold opv
        by_cases z : x (3 + 2 * t) = 2
        · rw [if_pos z, if_pos z]
          exact pw_lo (fun m a b => hna m a (by omega)) (hx _ ⟨t, by omega, by omega, z, rfl⟩)
        · rw [if_neg z, if_neg z]
      have ew : pwR (fun m => base + na m) (opv R x) (if ((t + 1 : Nat) : Int) < P then t + 1 else P.toNat) R = uZ (pwR (fun m => base + na m) (opv R x) t R) (base + na t) (opv R x t) := by
        have e9 : (if ((t + 1 : Nat) : Int) < P then t + 1 else P.toNat) = t + 1 := by
          by_cases y : ((t + 1 : Nat) : Int) < P
          · rw [if_pos y]
          · rw [if_neg y]; omega
        rw [e9]; rfl
      rw [ev] at i1 i2
      rw [ew]
      refine ⟨n + (1 + 1), hs.tr ((sil.one i1).tr (sil.one ?_))⟩
      have e5 : k + ((mb1 f base P na x s t).1 + 1) = k + (mb1 f base P na x s t).1 + 1 := by omega
      have i3 : ist H2 (k + ((mb1 f base P na x s t).1 + 1)) (uZ (pwR (fun m => base + na m) (opv R x) t R) (base + na t) (opv R x t)) d (0, 0) (k + ((mb1 f base P na x s t).1 + 1) + 1) (uZ (pwR (fun m => base + na m) (opv R x) t R) (base + na t) (opv R x t)) d := i2
      rw [e5] at i3
      have e6 : k + (bA (bA (mb1 f base P na x s t) (mkI 0 (base + na t) 0 (x (3 + 2 * t)) (x (4 + 2 * t)) 0)) (mkI 12 t f 2 (base + na t) 2)).1 = k + (mb1 f base P na x s t).1 + 1 + 1 := by
        show k + ((mb1 f base P na x s t).1 + 1 + 1) = _; omega
      rw [e6]; exact i3
    · rw [if_neg c] at h hs ⊢
      have i1 := hd_bd (d := d) (R := pwR (fun m => base + na m) (opv R x) P.toNat R) hM hn k0 z0 h
      rw [if_neg (by omega)]
      refine ⟨n + 1, hs.tr (sil.one ?_)⟩
      have e6 : k + (bA (mb1 f base P na x s t) (mkI 12 t f 1 0 1)).1 = k + (mb1 f base P na x s t).1 + 1 := by
        show k + ((mb1 f base P na x s t).1 + 1) = _; omega
      rw [e6]; exact i1
theorem hd_2 {R : G8} {d : Int} {s : BB} (hM : ∀ m, 0 ≤ m → m < M.1 → H2.V (k + m) = M.2 m) (hn : k + M.1 ≤ H2.n) (k0 : 0 ≤ k) (s0 : 0 ≤ s.1) (t : Nat) (h : PF8 (mb2 base lv s t) M) : ∃ n R2, sil H2 d n (k + s.1) R (k + (mb2 base lv s t).1) R2 ∧ AG8 base R R2 ∧ ∀ g : Int, 0 ≤ g → (g < t ∧ lv g → R2 (base + g) = 0) ∧ (¬ (g < t ∧ lv g) → R2 (base + g) = R (base + g)) := by
  induction t with
  | zero => exact ⟨0, R, ⟨rfl, rfl⟩, fun _ _ => rfl, fun g a => ⟨fun z => by have := z.1; omega, fun _ => rfl⟩⟩
  | succ t ih =>
    have pf : PF8 (mb2 base lv s t) M := pf_2s.tr h
    obtain ⟨n, R2, hs, ag, hg⟩ := ih pf
    have e : mb2 base lv s (t + 1) = dI (lv t) (bA (mb2 base lv s t) (mkI 0 (base + t) 0 1 0 0)) (mb2 base lv s t) := rfl
    rw [e] at h ⊢
    have z0 := nn8_2 (base := base) (lv := lv) s0 t
    by_cases c : lv t
    · rw [dI_y c] at h ⊢
      have i1 := hd_cp (d := d) (R := R2) hM hn k0 z0 h
      rw [if_neg (by decide)] at i1
      refine ⟨n + 1, uZ R2 (base + t) 0, hs.tr (sil.one ?_), ag.hi (by omega), fun g a => ?_⟩
      · have e6 : k + (bA (mb2 base lv s t) (mkI 0 (base + t) 0 1 0 0)).1 = k + (mb2 base lv s t).1 + 1 := by
          show k + ((mb2 base lv s t).1 + 1) = _; omega
        rw [e6]; exact i1
      · by_cases z : g = t
        · rw [z, uZ_eq]
          exact ⟨fun _ => rfl, fun y => absurd ⟨by omega, c⟩ y⟩
        · rw [uZ_ne (by omega)]
          exact ⟨fun y => (hg g a).1 ⟨by omega, y.2⟩, fun y => (hg g a).2 (fun w => y ⟨by omega, w.2⟩)⟩
    · rw [dI_n c] at h ⊢
      refine ⟨n, R2, hs, ag, fun g a => ⟨fun y => (hg g a).1 ⟨?_, y.2⟩, fun y => (hg g a).2 (fun w => y ⟨by omega, w.2⟩)⟩⟩
      by_cases z : g = t
      · rw [z] at y; exact absurd y.2 c
      · omega
theorem hd_all {G : RTS} {R : G8} {d : Int} (hM : ∀ m, 0 ≤ m → m < M.1 → H2.V (k + m) = M.2 m) (hn : k + M.1 ≤ H2.n) (k0 : 0 ≤ k) (hP : 0 ≤ P ∧ P ≤ 4) (hN : P ≤ N) (hx : ∀ g, rdI x g → g < base) (hna : ∀ m, 0 ≤ m → m < P → 0 ≤ G.na 0 m) (hl : ∀ g, lv g ↔ LVV G.V G.n 0 g ∧ ¬ pmS G P g) (hr : ∀ g, LVV G.V G.n 0 g → g < 192) (h : PF8 (hdB f base P N (G.na 0) x lv) M) : ∃ n R2, sil H2 d n (k + 1) R (k + (hdB f base P N (G.na 0) x lv).1) R2 ∧ AG8 base R R2 ∧ ∀ g, 0 ≤ g → LVV G.V G.n 0 g → R2 (base + g) = cal8 G P (opv R x) g := by
  have s0 : (0 : Int) ≤ (bA (0, fun _ => zI) (mkI 14 f 0 0 0 0)).1 := by show (0 : Int) ≤ 0 + 1; decide
  have pf1 : PF8 (mb1 f base P (G.na 0) x (bA (0, fun _ => zI) (mkI 14 f 0 0 0 0)) N.toNat) M := by
    have z := pf_2 (base := base) (lv := lv) (s := mb1 f base P (G.na 0) x (bA (0, fun _ => zI) (mkI 14 f 0 0 0 0)) N.toNat) (t := 0) 192
    exact PF8.tr z h
  obtain ⟨n, h1⟩ := hd_1 (R := R) (d := d) (na := G.na 0) hM hn k0 s0 hP.2 hx hna N.toNat pf1
  obtain ⟨n2, R2, h2, ag, hg⟩ := hd_2 (R := pwR (fun m => base + G.na 0 m) (opv R x) (if (N.toNat : Int) < P then N.toNat else P.toNat) R) (d := d) (lv := lv) hM hn k0 (nn8_1 s0 N.toNat) 192 h
  have e9 : (if (N.toNat : Int) < P then N.toNat else P.toNat) = P.toNat := if_neg (by omega)
  rw [e9] at h1 h2 ag hg
  have a0 : AG8 base R (pwR (fun m => base + G.na 0 m) (opv R x) P.toNat R) := fun y hy => pw_lo (fun m a b => hna m a (by omega)) hy
  refine ⟨n + n2, R2, ?_, fun y hy => (ag y hy).trans (a0 y hy), fun g g0 lg => ?_⟩
  · exact sil.tr h1 h2
  · unfold cal8
    by_cases c : pmS G P g
    · rw [(hg g g0).2 (fun z => ((hl g).mp z.2).2 c)]
      obtain ⟨m, m0, m1, m2⟩ := c
      exact pw_hi ⟨m, m0, by omega, m2⟩
    · rw [(hg g g0).1 ⟨by have := hr g lg; omega, (hl g).mpr ⟨lg, c⟩⟩, pw_no (fun m a b z => c ⟨m, a, by omega, z⟩)]
end HDS
end
