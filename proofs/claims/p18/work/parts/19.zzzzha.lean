section
def gI8 (base : Int) (x i : It) : Prop := (i 0 = 0 ∧ base ≤ i 1 ∧ ∀ g, rdI i g → rdI x g) ∨ i 0 = 12
def GB8 (base : Int) (x : It) (s : BB) : Prop := 1 ≤ s.1 ∧ ∀ m, 1 ≤ m → m < s.1 → gI8 base x (s.2 m)
section GBS
variable {s : BB} {i x : It} {f base P N k lb lq j0 : Int} {na NM lv : Int → Int} {l : Int → Prop} {H G : RTS} {V : Int → It}
theorem GB8.add (h : GB8 base x s) (hi : gI8 base x i) : GB8 base x (bA s i) := ⟨by show 1 ≤ s.1 + 1; have := h.1; omega, fun m a b => by
  by_cases e : m = s.1
  · show gI8 base x (uZ s.2 s.1 i m)
    rw [e, uZ_eq]; exact hi
  · show gI8 base x (uZ s.2 s.1 i m)
    rw [uZ_ne e]; exact h.2 m a (by have : m < s.1 + 1 := b; omega)⟩
theorem gi_12 {a b c d e : Int} : gI8 base x (mkI 12 a b c d e) := Or.inr rfl
theorem gi_0 {o ak a : Int} (hb : base ≤ o) (h : ak = 2 → rdI x a) : gI8 base x (mkI 0 o 0 ak a 0) := Or.inl ⟨rfl, hb, fun g ⟨m, m0, m4, e3, e4⟩ => by
  by_cases z : m = 0
  · rw [z] at e3 e4
    have e5 : ak = 2 := e3
    have e6 : a = g := e4
    rw [← e6]; exact h e5
  · have e5 : mkI 0 o 0 ak a 0 (3 + 2 * m) = 0 := by
      show (if 3 + 2 * m = 0 then (0 : Int) else if 3 + 2 * m = 1 then o else if 3 + 2 * m = 2 then 0 else if 3 + 2 * m = 3 then ak else if 3 + 2 * m = 4 then a else if 3 + 2 * m = 11 then 0 else 0) = 0
      rw [if_neg (by omega), if_neg (by omega), if_neg (by omega), if_neg (by omega), if_neg (by omega), if_neg (by omega)]
    rw [e5] at e3; omega⟩
theorem GB8.one (h : GB8 base x s) (hP : P ≤ 4) (hn : ∀ m, 0 ≤ m → m < P → 0 ≤ na m) (t : Nat) : GB8 base x (mb1 f base P na x s t) := by
  induction t with
  | zero => exact h
  | succ t ih =>
    show GB8 base x (nmS f base P na x t (mb1 f base P na x s t))
    unfold nmS
    by_cases c : (t : Int) < P
    · rw [if_pos c]
      exact (ih.add (gi_0 (by have := hn t (by omega) c; omega) (fun z => ⟨t, by omega, by omega, z, rfl⟩))).add gi_12
    · rw [if_neg c]; exact ih.add gi_12
theorem GB8.two (h : GB8 base x s) (t : Nat) : GB8 base x (mb2 base l s t) := by
  induction t with
  | zero => exact h
  | succ t ih =>
    show GB8 base x (dI (l t) (bA (mb2 base l s t) (mkI 0 (base + t) 0 1 0 0)) (mb2 base l s t))
    by_cases c : l t
    · rw [dI_y c]; exact ih.add (gi_0 (by omega) (fun z => by omega))
    · rw [dI_n c]; exact ih
theorem hd_gb (hP : P ≤ 4) (hn : ∀ m, 0 ≤ m → m < P → 0 ≤ na m) : GB8 base x (hdB f base P N na x l) :=
  GB8.two (GB8.one (show GB8 base x (bA (0, fun _ => zI) (mkI 14 f 0 0 0 0)) from ⟨by show (1 : Int) ≤ 0 + 1; decide, fun m a b => by have : m < 0 + 1 := b; omega⟩) hP hn _) _
theorem hd_wr {g : Int} (hN : P ≤ N) (g0 : 0 ≤ g) (g1 : g < 192) (h : (∃ m, 0 ≤ m ∧ m < P ∧ na m = g) ∨ l g) : ∃ m, 1 ≤ m ∧ m < (hdB f base P N na x l).1 ∧ wrT ((hdB f base P N na x l).2 m) (base + g) := by
  have b0 : ∀ t, 1 ≤ (mb1 f base P na x (bA (0, fun _ => zI) (mkI 14 f 0 0 0 0)) t).1 := fun t => by
    have b := (pf_1 (f := f) (base := base) (P := P) (na := na) (x := x) (s := bA (0, fun _ => zI) (mkI 14 f 0 0 0 0)) (t := 0) t).1
    rw [Nat.zero_add] at b
    have c : (mb1 f base P na x (bA (0, fun _ => zI) (mkI 14 f 0 0 0 0)) 0).1 = 1 := rfl
    omega
  rcases h with ⟨m, m0, m1, m2⟩ | h
  · obtain ⟨t, rfl⟩ : ∃ t : Nat, m = t := ⟨m.toNat, by omega⟩
    have p1 : PF8 (bA (mb1 f base P na x (bA (0, fun _ => zI) (mkI 14 f 0 0 0 0)) t) (mkI 0 (base + na t) 0 (x (3 + 2 * t)) (x (4 + 2 * t)) 0)) (mb1 f base P na x (bA (0, fun _ => zI) (mkI 14 f 0 0 0 0)) (t + 1)) := by
      show PF8 _ (nmS f base P na x t (mb1 f base P na x (bA (0, fun _ => zI) (mkI 14 f 0 0 0 0)) t))
      unfold nmS
      rw [if_pos m1]; exact PF8.add
    obtain ⟨u, e⟩ : ∃ u, N.toNat = t + 1 + u := ⟨N.toNat - (t + 1), by omega⟩
    have p2 := pf_1 (f := f) (base := base) (P := P) (na := na) (x := x) (s := bA (0, fun _ => zI) (mkI 14 f 0 0 0 0)) (t := t + 1) u
    rw [← e] at p2
    have p3 := pf_2 (base := base) (lv := l) (s := mb1 f base P na x (bA (0, fun _ => zI) (mkI 14 f 0 0 0 0)) N.toNat) (t := 0) 192
    rw [Nat.zero_add] at p3
    have q := (p1.tr (p2.tr p3)).at
    refine ⟨_, b0 t, by have := q.1; unfold hdB; omega, ?_⟩
    have q2 : (hdB f base P N na x l).2 (mb1 f base P na x (bA (0, fun _ => zI) (mkI 14 f 0 0 0 0)) t).1 = mkI 0 (base + na t) 0 (x (3 + 2 * t)) (x (4 + 2 * t)) 0 := q.2
    rw [q2]
    exact ⟨Or.inl (show (0 : Int) ≤ 5 by decide), by show base + na t = base + g; rw [m2]⟩
  · obtain ⟨t, rfl⟩ : ∃ t : Nat, g = t := ⟨g.toNat, by omega⟩
    have p1 : PF8 (bA (mb2 base l (mb1 f base P na x (bA (0, fun _ => zI) (mkI 14 f 0 0 0 0)) N.toNat) t) (mkI 0 (base + t) 0 1 0 0)) (mb2 base l (mb1 f base P na x (bA (0, fun _ => zI) (mkI 14 f 0 0 0 0)) N.toNat) (t + 1)) := by
      show PF8 _ (dI (l t) (bA (mb2 base l (mb1 f base P na x (bA (0, fun _ => zI) (mkI 14 f 0 0 0 0)) N.toNat) t) (mkI 0 (base + t) 0 1 0 0)) (mb2 base l (mb1 f base P na x (bA (0, fun _ => zI) (mkI 14 f 0 0 0 0)) N.toNat) t))
      rw [dI_y h]; exact PF8.rf
    obtain ⟨u, e⟩ : ∃ u, 192 = t + 1 + u := ⟨192 - (t + 1), by omega⟩
    have p2 := pf_2 (base := base) (lv := l) (s := mb1 f base P na x (bA (0, fun _ => zI) (mkI 14 f 0 0 0 0)) N.toNat) (t := t + 1) u
    rw [← e] at p2
    have q := (p1.tr p2).at
    have b2 := (pf_2 (base := base) (lv := l) (s := mb1 f base P na x (bA (0, fun _ => zI) (mkI 14 f 0 0 0 0)) N.toNat) (t := 0) t).1
    rw [Nat.zero_add] at b2
    have c2 : (mb2 base l (mb1 f base P na x (bA (0, fun _ => zI) (mkI 14 f 0 0 0 0)) N.toNat) 0).1 = (mb1 f base P na x (bA (0, fun _ => zI) (mkI 14 f 0 0 0 0)) N.toNat).1 := rfl
    have c1 := b0 N.toNat
    refine ⟨(mb2 base l (mb1 f base P na x (bA (0, fun _ => zI) (mkI 14 f 0 0 0 0)) N.toNat) t).1, by omega, by have := q.1; unfold hdB; omega, ?_⟩
    have q2 : (hdB f base P N na x l).2 (mb2 base l (mb1 f base P na x (bA (0, fun _ => zI) (mkI 14 f 0 0 0 0)) N.toNat) t).1 = mkI 0 (base + t) 0 1 0 0 := q.2
    rw [q2]
    exact ⟨Or.inl (show (0 : Int) ≤ 5 by decide), rfl⟩
def MSX (H G H2 : RTS) (k base : Int) (bp : Int → Int) : Prop := ((∀ m, 0 < m → k + m < bp 0 → gI8 base (H.V k) (H2.V (k + m))) ∧ (∀ g, 0 ≤ g → LVV G.V G.n 0 g → ∃ m, 0 < m ∧ k + m < bp 0 ∧ wrT (H2.V (k + m)) (base + g)) ∧ 1 ≤ G.n) ∧
  ((∀ g, ¬ rdI (H2.V k) g ∧ ¬ rdI (H2.V (bp G.n)) g ∧ ¬ rdI (H2.V (bp G.n + 1)) g) ∧ ∀ j, 0 ≤ j → j < G.n → G.V j 0 = 7 → (∀ g, ¬ rdI (H2.V (bp j + 1)) g) ∧ bp (j + 1) = bp j + 2 ∧ ∀ g, rdI (H2.V (bp j)) g → ∃ o, rdI (G.V j) o ∧ g = base + o) ∧
  ((∀ j, 0 ≤ j → j < G.n → G.V j 0 ≠ 7 → G.V j 0 ≠ 8 → j + 1 < G.n) ∧ ∀ i j, 0 ≤ i → i < j → j ≤ G.n → bp i < bp j)
theorem nr_mk {kd d o : Int} {g : Int} : ¬ rdI (mkI kd d o 0 0 0) g := fun ⟨m, m0, m4, e3, e4⟩ => by
  have e5 : mkI kd d o 0 0 0 (3 + 2 * m) = 0 := by
    show (if 3 + 2 * m = 0 then kd else if 3 + 2 * m = 1 then d else if 3 + 2 * m = 2 then o else if 3 + 2 * m = 3 then 0 else if 3 + 2 * m = 4 then 0 else if 3 + 2 * m = 11 then 0 else 0) = 0
    rw [if_neg (by omega), if_neg (by omega), if_neg (by omega)]
    by_cases z : m = 0
    · rw [if_pos (by omega)]
    · rw [if_neg (by omega), if_neg (by omega), if_neg (by omega)]
  rw [e5] at e3; omega
theorem msx_of (hk : 0 ≤ k) (hn : 1 ≤ G.n) (hP : 0 ≤ P ∧ P ≤ 4 ∧ P ≤ N) (hr : RG8 G.V G.n) (hna : ∀ m, 0 ≤ m → m < P → 0 ≤ G.na 0 m) (hl : ∀ j, 0 ≤ j → j < G.n → G.V j 0 ≠ 7 → G.V j 0 ≠ 8 → j + 1 < G.n) : MSX H G (mltS H G k base lb lq j0 P N NM) k base (bpM H G k base lb lq P N) := by
  have c := bd_pf (base := base) (lb := lb) (f := H.F) (to := H.V k 1) (out := lb + lq) (V := G.V) (s := hdB H.F base P N (G.na 0) (H.V k) (lvS G P)) (Int.le_refl 0) (show 0 ≤ G.n by omega)
  have dd : PF8 (bdB H.F base lb (H.V k 1) (lb + lq) G.V (hdB H.F base P N (G.na 0) (H.V k) (lvS G P)) G.n) (mkS H G k base lb lq P N) := by rw [mk_eq]; exact PF8.add.tr PF8.add
  have pf : PF8 (hdB H.F base P N (G.na 0) (H.V k) (lvS G P)) (mkS H G k base lb lq P N) := PF8.tr c dd
  have b0 : bpM H G k base lb lq P N 0 = k + (hdB H.F base P N (G.na 0) (H.V k) (lvS G P)).1 := rfl
  have at_ : ∀ m, 0 ≤ m → k + m < bpM H G k base lb lq P N 0 → (mltS H G k base lb lq j0 P N NM).V (k + m) = (hdB H.F base P N (G.na 0) (H.V k) (lvS G P)).2 m := fun m a b => by
    have p1 := pf.1
    rw [ml_V a (by omega)]
    exact pf.2 m (by omega)
  have gb := hd_gb (x := H.V k) (base := base) (f := H.F) (N := N) (l := lvS G P) hP.2.1 hna
  obtain ⟨en1, en2, en3⟩ := ml_end (H := H) (G := G) (k := k) (base := base) (lb := lb) (lq := lq) (P := P) (N := N) (j0 := j0) (NM := NM) hk (show 0 ≤ G.n by omega)
  refine ⟨⟨fun m a b => ?_, fun g g0 a => ?_, hn⟩, ⟨fun g => ⟨?_, by rw [en1]; exact nr_mk, by rw [en2]; exact nr_mk⟩, fun j j0' jn j7 => ?_⟩, hl, fun i j a b c => ml_mo hk a c b⟩
  · rw [at_ m (by omega) b]
    exact gb.2 m (by omega) (by omega)
  · have w : (∃ m, 0 ≤ m ∧ m < P ∧ G.na 0 m = g) ∨ lvS G P g := by
      by_cases z : pmS G P g
      · exact Or.inl z
      · exact Or.inr ⟨a, z⟩
    obtain ⟨m, m1, m2, m3⟩ := hd_wr (f := H.F) (base := base) (x := H.V k) hP.2.2 g0 (lv_rg hr a).2 w
    exact ⟨m, by omega, by omega, by rw [at_ m (by omega) (by omega)]; exact m3⟩
  · have e := at_ 0 (Int.le_refl 0) (by have := gb.1; omega)
    rw [Int.add_zero] at e
    have a := pf_1 (f := H.F) (base := base) (P := P) (na := G.na 0) (x := H.V k) (s := bA (0, fun _ => zI) (mkI 14 H.F 0 0 0 0)) (t := 0) N.toNat
    have b := pf_2 (base := base) (lv := lvS G P) (s := mb1 H.F base P (G.na 0) (H.V k) (bA (0, fun _ => zI) (mkI 14 H.F 0 0 0 0)) N.toNat) (t := 0) 192
    rw [Nat.zero_add] at a b
    have f : PF8 (bA (0, fun _ => zI) (mkI 14 H.F 0 0 0 0)) (hdB H.F base P N (G.na 0) (H.V k) (lvS G P)) := PF8.tr a b
    have f2 : (hdB H.F base P N (G.na 0) (H.V k) (lvS G P)).2 0 = mkI 14 H.F 0 0 0 0 := f.at.2
    rw [e, f2]; exact nr_mk
  · obtain ⟨z1, z2, z3⟩ := (ml_at (lb := lb) (lq := lq) (base := base) (P := P) (N := N) (H := H) (j0 := j0) (NM := NM) hk j0' jn).2.2 j7
    refine ⟨fun g => by rw [z3]; exact nr_mk, z1, fun g w => ?_⟩
    rw [z2] at w
    obtain ⟨m, m0, m4, e3, e4⟩ := w
    rw [uZ_ne (by omega), uZ_ne (by omega), so_3] at e3
    rw [uZ_ne (by omega), uZ_ne (by omega), so_4 m0 m4, if_pos e3] at e4
    exact ⟨_, ⟨m, m0, m4, e3, rfl⟩, by omega⟩
end GBS
def LAB8 (H G H2 : RTS) (k A : Int) (bp : Int → Int) : Prop := ∀ t l, (0 ≤ t ∧ t < H2.n) → (0 ≤ l ∧ l < H2.n) → (H2.V t 0 = 8 ∨ H2.V t 0 = 9) → H2.V l 0 = 13 → H2.V l 1 = H2.V t 1 → (∃ a b, t = plM k A a ∧ a ≠ k ∧ (0 ≤ a ∧ a < H.n) ∧ l = plM k A b ∧ b ≠ k ∧ (0 ≤ b ∧ b < H.n)) ∨ (∃ a b, t = bp a ∧ (0 ≤ a ∧ a < G.n) ∧ (G.V a 0 = 8 ∨ G.V a 0 = 9) ∧ l = bp b ∧ TGv G.V G.n a b) ∨ (∃ a, t = bp a + 1 ∧ (0 ≤ a ∧ a < G.n) ∧ G.V a 0 = 7 ∧ l = bp G.n)
def PT8 (H G H2 : RTS) (k base A : Int) (bp : Int → Int) (i g : Int) : Prop := (0 ≤ i ∧ i < H2.n) ∧
    (∀ a, a ≠ k → 0 ≤ a → a < H.n → i = plM k A a → g < base ∧ TLV H.V H.n a g) ∧
    (∀ m, 0 ≤ m → i = k + m → k + m < bp 0 → (g < base ∧ TLV H.V H.n k g) ∨ (base ≤ g ∧ TLV G.V G.n 0 (g - base) ∧ ∃ m2, 0 < m2 ∧ m2 < m ∧ wrT (H2.V (k + m2)) g)) ∧
    (∀ j, 0 ≤ j → j < G.n → i = bp j → (g < base ∧ g ≠ H.V k 1 ∧ TLV H.V H.n (k + 1) g) ∨ (base ≤ g ∧ TLV G.V G.n j (g - base))) ∧
    (∀ j, 0 ≤ j → j < G.n → G.V j 0 = 7 → i = bp j + 1 → g < base ∧ TLV H.V H.n (k + 1) g) ∧
    (i = bp G.n ∨ i = bp G.n + 1 → g < base ∧ TLV H.V H.n (k + 1) g)
section MLT8
variable {H G H2 : RTS} {k base A P : Int} {bp lv : Int → Int}
theorem bi_rd {i i2 : It} {g : Int} (b : BI8 base i i2) (h : rdI i2 g) : ∃ o, rdI i o ∧ g = base + o := by
  obtain ⟨m, m0, m4, e3, e4⟩ := h
  obtain ⟨f3, f4⟩ := b.2.2 m m0 m4
  rw [f3] at e3
  rw [f4, if_pos e3] at e4
  exact ⟨_, ⟨m, m0, m4, e3, rfl⟩, by omega⟩
theorem MSH.tl (s : MSH H G H2 k base A P bp lv) (x : MSX H G H2 k base bp) (lab : LAB8 H G H2 k A bp) {i g : Int} (h : TLV H2.V H2.n i g) : PT8 H G H2 k base A bp i g := by
  have s' := s
  obtain ⟨⟨hk, k10, gn, n2, a1⟩, -, ⟨ent, -⟩, ⟨b1, b2, b3, b4⟩, ⟨⟨c1, c2⟩, c3, c4, c5⟩, ⟨na, nc⟩, -, g1, g2, g3⟩ := s
  obtain ⟨⟨x1, x2, x3⟩, ⟨x4, x5⟩, x6, mo⟩ := x
  have bp0 : k < bp 0 := (b4 0 (Int.le_refl 0) (by omega)).1
  have pl1 : plM k A (k + 1) = bp G.n + 2 := by unfold plM; rw [if_neg (by omega)]; omega
  -- places: the caller's stand apart from the block's
  have pl_o : ∀ a, a ≠ k → plM k A a < k ∨ bp G.n + 2 ≤ plM k A a := fun a ak => by
    unfold plM
    by_cases c : a ≤ k
    · rw [if_pos c]; omega
    · rw [if_neg c]; omega
  have bp_i : ∀ j, 0 ≤ j → j < G.n → k < bp j ∧ bp j + 1 ≤ bp G.n := fun j a b => ⟨(b4 j a b).1, by have := mo j G.n a b (Int.le_refl _); omega⟩
  -- from the CALL on
  have callk : ∀ g, g ≠ H.V k 1 → TLV H.V H.n (k + 1) g → TLV H.V H.n k g := fun g a b => TLV.on hk.1 hk.2 (fun z => a z.2.symm) (Or.inl ⟨by omega, rfl⟩) b
  refine h.ind (P := PT8 H G H2 k base A bp) (fun i g i0 i1 q => ?_)
  refine ⟨⟨i0, i1⟩, fun a ak a0 an ei => ?_, fun m m0 ei mb => ?_, fun j j0 jn ei => ?_, fun j j0 jn j7 ei => ?_, fun ei => ?_⟩
  · -- the caller's items
    have ev := pl_v s' ak
    rw [← ei] at ev
    have po := pl_o a ak
    rw [← ei] at po
    have nx : ∀ y, PT8 H G H2 k base A bp (i + 1) y → a + 1 < H.n ∧ y < base ∧ TLV H.V H.n (a + 1) y := fun y z => by
      have e1 : i + 1 = plM k A (a + 1) := by rw [ei]; exact (pl_n ak).symm
      have an2 : a + 1 < H.n := by
        by_cases c : a + 1 < H.n
        · exact c
        · exfalso
          have w := z.1.2
          rw [n2, e1] at w
          unfold plM at w
          by_cases d : a + 1 ≤ k
          · omega
          · rw [if_neg d] at w; omega
      refine ⟨an2, ?_⟩
      by_cases c : a + 1 = k
      · have e2 : plM k A (a + 1) = k := by unfold plM; rw [if_pos (by omega)]; exact c
        rcases z.2.2.1 0 (Int.le_refl 0) (by omega) (by omega) with w | ⟨-, -, m2, w1, w2, -⟩
        · rw [c]; exact w
        · omega
      · exact z.2.1 (a + 1) c (by omega) an2 e1
    rw [ev] at q
    rcases q with ⟨q1, q2, q3⟩ | ⟨q1, t, q2, q3⟩
    · refine ⟨g1 a a0 an g (Or.inr q2), ?_⟩
      by_cases c : 5 < H.V a 0
      · exact TLV.us a0 an q1 q2 c
      · rcases q3 with z | z
        · exact absurd z c
        · exact TLV.th a0 an q1 q2 (nx _ z).2.2
    · rcases q2 with ⟨u1, u2⟩ | ⟨u1, u0, u2, u3, u4⟩
      · rw [ev] at u1
        rw [u2] at q3
        obtain ⟨w1, w2, w3⟩ := nx g q3
        exact ⟨w2, TLV.on a0 an q1 (Or.inl ⟨u1, rfl⟩) w3⟩
      · rcases lab i t ⟨i0, i1⟩ ⟨u0, u2⟩ u1 u3 u4 with ⟨a2, b, -, -, -, e2, bk, bn⟩ | ⟨a2, b, e2, e3, -⟩ | ⟨a2, e2, e3, -⟩
        · have el := pl_v s' bk
          rw [← e2] at el
          rw [el, ev] at u4
          rw [el] at u3
          rw [ev] at u1
          obtain ⟨w2, w3⟩ := q3.2.1 b bk bn.1 bn.2 e2
          exact ⟨w2, TLV.on a0 an q1 (Or.inr ⟨u1, bn.1, bn.2, u3, u4⟩) w3⟩
        · exfalso
          have := bp_i a2 e3.1 e3.2
          omega
        · exfalso
          have := bp_i a2 e3.1 e3.2
          omega
  · -- ENTER and the header
    have nx : PT8 H G H2 k base A bp (i + 1) g → ¬ wrT (H2.V i) g → (g < base ∧ TLV H.V H.n k g) ∨ (base ≤ g ∧ TLV G.V G.n 0 (g - base) ∧ ∃ m2, 0 < m2 ∧ m2 < m ∧ wrT (H2.V (k + m2)) g) := fun z nw => by
      by_cases c : k + m + 1 < bp 0
      · rcases z.2.2.1 (m + 1) (by omega) (by omega) (by omega) with w | ⟨w1, w2, m2, w3, w4, w5⟩
        · exact Or.inl w
        · refine Or.inr ⟨w1, w2, m2, w3, ?_, w5⟩
          by_cases e : m2 = m
          · rw [e, ← ei] at w5; exact absurd w5 nw
          · omega
      · rcases z.2.2.2.1 0 (Int.le_refl 0) (by omega) (by omega) with ⟨w1, w2, w3⟩ | ⟨w1, w2⟩
        · exact Or.inl ⟨w1, callk g w2 w3⟩
        · obtain ⟨m2, y1, y2, y3⟩ := x2 (g - base) (by omega) w2.lv
          rw [show base + (g - base) = g by omega] at y3
          refine Or.inr ⟨w1, w2, m2, y1, ?_, y3⟩
          by_cases e : m2 = m
          · rw [e, ← ei] at y3; exact absurd y3 nw
          · omega
    by_cases em : m = 0
    · rw [em, Int.add_zero] at ei
      rcases q with ⟨q1, q2, q3⟩ | ⟨q1, t, q2, q3⟩
      · rw [ei] at q2; exact absurd q2 (x4 g).1
      · rcases q2 with ⟨u1, u2⟩ | ⟨u1, -⟩
        · rw [u2] at q3; exact nx q3 q1
        · rw [ei] at u1; omega
    · have gi := x1 m (by omega) mb
      rw [← ei] at gi
      rcases q with ⟨q1, q2, q3⟩ | ⟨q1, t, q2, q3⟩
      · rcases gi with ⟨-, -, gi⟩ | gi
        · have rd := gi g q2
          exact Or.inl ⟨g1 k hk.1 hk.2 g (Or.inr rd), TLV.us hk.1 hk.2 (by omega) rd (by omega)⟩
        · exact absurd gi q1
      · rcases q2 with ⟨u1, u2⟩ | ⟨u1, -⟩
        · rw [u2] at q3; exact nx q3 q1
        · rcases gi with ⟨gi, -, -⟩ | gi
          · omega
          · omega
  · -- the body
    obtain ⟨w1, w2⟩ := bp_i j j0 jn
    by_cases c7 : G.V j 0 = 7
    · obtain ⟨⟨y0, y1, -⟩, -, -⟩ := b3 j j0 jn c7
      rcases q with ⟨q1, q2, q3⟩ | ⟨q1, t, q2, q3⟩
      · rw [ei] at q2
        obtain ⟨o, r1, r2⟩ := (x5 j j0 jn c7).2.2 g q2
        have o0 := g2 j j0 jn o r1
        refine Or.inr ⟨by omega, ?_⟩
        rw [show g - base = o by omega]
        exact TLV.us j0 jn (by omega) r1 (by omega)
      · rcases q2 with ⟨u1, u2⟩ | ⟨u1, -⟩
        · rw [u2] at q3
          obtain ⟨r1, r2⟩ := q3.2.2.2.2.1 j j0 jn c7 (by omega)
          refine Or.inl ⟨r1, fun z => q1 ?_, r2⟩
          rw [ei]
          exact ⟨Or.inl (by omega), by rw [y1, z]⟩
        · rw [ei, y0] at u1; omega
    · obtain ⟨e1, bi⟩ := b1 j j0 jn c7
      have nx : ∀ y, ¬ (G.V j 0 = 8 ∨ G.V j 0 = 7) → PT8 H G H2 k base A bp (i + 1) y → (y < base ∧ y ≠ H.V k 1 ∧ TLV H.V H.n (k + 1) y) ∨ (base ≤ y ∧ TLV G.V G.n (j + 1) (y - base)) := fun y n8 z => z.2.2.2.1 (j + 1) (by omega) (x6 j j0 jn c7 (by omega)) (by omega)
      rw [ei] at q
      rcases q with ⟨q1, q2, q3⟩ | ⟨q1, t, q2, q3⟩
      · obtain ⟨o, r1, r2⟩ := bi_rd bi q2
        have o0 := g2 j j0 jn o r1
        rw [bi.1] at q1 q3
        refine Or.inr ⟨by omega, ?_⟩
        rw [show g - base = o by omega]
        by_cases c : 5 < G.V j 0
        · exact TLV.us j0 jn q1 r1 c
        · rcases q3 with z | z
          · exact absurd z c
          · rw [bi.2.1 (by omega), ← ei] at z
            have d0 := g3 j j0 jn (by omega)
            rcases nx _ (by omega) z with w | w
            · omega
            · have w3 := w.2
              rw [show G.V j 1 + base - base = G.V j 1 by omega] at w3
              exact TLV.th j0 jn q1 r1 w3
      · have nw : base ≤ g → ¬ wrT (G.V j) (g - base) := fun a z => by
          have c5 : G.V j 0 ≤ 5 := z.1.elim id (fun y => absurd y (nc j j0 jn))
          exact q1 ⟨Or.inl (by rw [bi.1]; exact c5), by rw [bi.2.1 c5, z.2]; omega⟩
        rcases q2 with ⟨u1, u2⟩ | ⟨u1, u0, u2, u3, u4⟩
        · rw [bi.1] at u1
          rw [u2, ← ei] at q3
          rcases nx g u1 q3 with w | w
          · exact Or.inl w
          · exact Or.inr ⟨w.1, TLV.on j0 jn (nw w.1) (Or.inl ⟨u1, rfl⟩) w.2⟩
        · rcases lab (bp j) t (by rw [← ei]; exact ⟨i0, i1⟩) ⟨u0, u2⟩ u1 u3 u4 with ⟨a2, b, e2, ak, -⟩ | ⟨a2, b, e2, e3, e4, e5, e6⟩ | ⟨a2, e2, e3, e4, -⟩
          · exfalso
            have := pl_o a2 ak
            omega
          · have ea : a2 = j := by
              by_cases c : a2 < j
              · have := mo a2 j e3.1 c (by omega); omega
              · by_cases d : j < a2
                · have := mo j a2 j0 d (by omega); omega
                · omega
            rw [ea] at e4 e6
            rcases q3.2.2.2.1 b e6.1 e6.2.1 e5 with w | w
            · exact Or.inl w
            · exact Or.inr ⟨w.1, TLV.on j0 jn (nw w.1) (Or.inr ⟨e4, e6⟩) w.2⟩
          · exfalso
            have f := (x5 a2 e3.1 e3.2 e4).2.1
            by_cases c : a2 + 1 = j
            · rw [c] at f; omega
            · by_cases d : a2 + 1 < j
              · have := mo (a2 + 1) j (by omega) d (by omega); omega
              · by_cases e : j = a2
                · rw [e] at c7; exact c7 e4
                · have := mo j a2 j0 (by omega) (by omega); omega
  · -- JUMP behind what was RETURN
    obtain ⟨-, z0, -⟩ := b3 j j0 jn j7
    obtain ⟨nr, f, -⟩ := x5 j j0 jn j7
    rw [ei] at q
    rcases q with ⟨q1, q2, q3⟩ | ⟨q1, t, q2, q3⟩
    · exact absurd q2 (nr g)
    · rcases q2 with ⟨u1, u2⟩ | ⟨u1, u0, u2, u3, u4⟩
      · exact absurd (Or.inl z0) u1
      · rcases lab (bp j + 1) t (by rw [← ei]; exact ⟨i0, i1⟩) ⟨u0, u2⟩ u1 u3 u4 with ⟨a2, b, e2, ak, -⟩ | ⟨a2, b, e2, e3, e4, e5, e6⟩ | ⟨a2, e2, e3, e4, e5⟩
        · exfalso
          have := pl_o a2 ak
          have := bp_i j j0 jn
          omega
        · exfalso
          by_cases c : a2 < j
          · have := mo a2 j e3.1 c (by omega); omega
          · by_cases d : a2 = j
            · rw [d] at e2; omega
            · by_cases e : a2 = j + 1
              · rw [e] at e2; omega
              · have := mo (j + 1) a2 (by omega) (by omega) (by omega); omega
        · exact q3.2.2.2.2.2 (Or.inl e5)
  · -- LABEL, LEAVE
    rcases ei with ei | ei
    · rw [ei] at q
      rcases q with ⟨q1, q2, q3⟩ | ⟨q1, t, q2, q3⟩
      · exact absurd q2 (x4 g).2.1
      · rcases q2 with ⟨u1, u2⟩ | ⟨u1, -⟩
        · exact q3.2.2.2.2.2 (Or.inr u2)
        · omega
    · rw [ei] at q
      rcases q with ⟨q1, q2, q3⟩ | ⟨q1, t, q2, q3⟩
      · exact absurd q2 (x4 g).2.2
      · rcases q2 with ⟨u1, u2⟩ | ⟨u1, -⟩
        · have et : t = plM k A (k + 1) := by rw [pl1, u2]; omega
          have kn : k + 1 < H.n := by have := q3.1.2; omega
          exact q3.2.1 (k + 1) (by omega) (by omega) kn et
        · omega
theorem S2T.melt {N N2 : Int → Prop} (h : S2T H.V H.n N) (s : MSH H G H2 k base A P bp lv) (x : MSX H G H2 k base bp) (lab : LAB8 H G H2 k A bp) (hN : ∀ g, N g → N2 g) : S2T H2.V H2.n N2 := fun g a => by
  have z := s.tl x lab a
  have bp0 : k < bp 0 := (s.2.2.2.1.2.2.2 0 (Int.le_refl 0) (by have := x.1.2.2; omega)).1
  have hk := s.1.1
  by_cases c : k = 0
  · rcases z.2.2.1 0 (Int.le_refl 0) (by omega) (by omega) with w | ⟨-, -, m2, w1, w2, -⟩
    · rw [c] at w; exact hN g (h g w.2)
    · omega
  · exact hN g (h g (z.2.1 0 (fun w => c w.symm) (Int.le_refl 0) (by omega) (by unfold plM; rw [if_pos hk.1])).2)
theorem NBK.melt (h : NBK H.V H.n) (hg : NBK G.V G.n) (s : MSH H G H2 k base A P bp lv) (x : MSX H G H2 k base bp) (lab : LAB8 H G H2 k A bp) : NBK H2.V H2.n := by
  have s' := s
  obtain ⟨⟨hk, k10, gn, n2, a1⟩, -, ⟨ent, -⟩, ⟨b1, b2, b3, b4⟩, ⟨⟨c1, c2⟩, c3, c4, c5⟩, ⟨na, nc⟩, -, g1, g2, g3⟩ := s
  obtain ⟨⟨x1, x2, x3⟩, ⟨x4, x5⟩, x6, mo⟩ := x
  have pl_o : ∀ a, a ≠ k → (a < k ∧ plM k A a = a) ∨ (k < a ∧ plM k A a = a + A - 1 ∧ bp G.n + 2 ≤ plM k A a) := fun a ak => by
    unfold plM
    by_cases c : a ≤ k
    · rw [if_pos c]; exact Or.inl ⟨by omega, rfl⟩
    · rw [if_neg c]; exact Or.inr ⟨by omega, rfl, by omega⟩
  have bp_i : ∀ j, 0 ≤ j → j < G.n → k < bp j ∧ bp j + 1 ≤ bp G.n := fun j a b => ⟨(b4 j a b).1, by have := mo j G.n a b (Int.le_refl _); omega⟩
  have bp_m : ∀ i j, 0 ≤ i → i ≤ G.n → 0 ≤ j → j ≤ G.n → (bp i < bp j ↔ i < j) := fun i j a b c d => by
    constructor
    · intro z
      by_cases e : i < j
      · exact e
      · by_cases e2 : i = j
        · rw [e2] at z; omega
        · have := mo j i c (by omega) b; omega
    · intro z; exact mo i j a z d
  have ed : ∀ t l, JE8 H2.V H2.n t l → (∃ a b, t = plM k A a ∧ l = plM k A b ∧ (a ≠ k ∧ b ≠ k) ∧ JE8 H.V H.n a b ∧ H2.V t 0 = H.V a 0) ∨ (∃ a b, t = bp a ∧ l = bp b ∧ JE8 G.V G.n a b ∧ H2.V t 0 = G.V a 0) ∨ (∃ a, t = bp a + 1 ∧ (0 ≤ a ∧ a < G.n) ∧ l = bp G.n ∧ t < l ∧ H2.V t 0 = 8) := fun t l ⟨t0, t1, l0, l1, l2, l3⟩ => by
    rcases lab t l t0 ⟨l0, l1⟩ t1 l2 l3 with ⟨a, b, e1, ak, an, e2, bk, bn⟩ | ⟨a, b, e1, an, a8, e2, e3⟩ | ⟨a, e1, an, a7, e2⟩
    · have ea := pl_v s' ak
      have eb := pl_v s' bk
      rw [← e1] at ea
      rw [← e2] at eb
      rw [ea] at t1 l3
      rw [eb] at l2 l3
      exact Or.inl ⟨a, b, e1, e2, ⟨ak, bk⟩, ⟨an, t1, bn.1, bn.2, l2, l3⟩, by rw [ea]⟩
    · have bi := (b1 a an.1 an.2 (by omega)).2
      exact Or.inr (Or.inl ⟨a, b, e1, e2, ⟨an, a8, e3⟩, by rw [e1]; exact bi.1⟩)
    · have f := (x5 a an.1 an.2 a7).2.1
      have m2 : bp (a + 1) ≤ bp G.n := by
        by_cases c : a + 1 = G.n
        · rw [c]; exact Int.le_refl _
        · have := mo (a + 1) G.n (by omega) (by omega) (Int.le_refl _); omega
      exact Or.inr (Or.inr ⟨a, e1, an, e2, by omega, by rw [e1]; exact (b3 a an.1 an.2 a7).2.1⟩)
  refine ⟨fun t l e lt => ?_, fun t l t2 l2 e e2 q1 q2 q3 => ?_⟩
  · rcases ed t l e with ⟨a, b, e1, e3, ⟨ak, bk⟩, j, ek⟩ | ⟨a, b, e1, e3, j, ek⟩ | ⟨a, e1, an, e3, tl, ek⟩
    · rw [ek]
      refine h.1 a b j ?_
      have := pl_o a ak
      have := pl_o b bk
      omega
    · rw [ek]
      refine hg.1 a b j ((bp_m b a j.2.2.1 (by have := j.2.2.2.1; omega) j.1.1 (by have := j.1.2; omega)).mp (by omega))
    · omega
  · rcases ed t2 l2 e2 with ⟨a2, b2', f1, f2, ⟨ak2, bk2⟩, j2, -⟩ | ⟨a2, b2', f1, f2, j2, -⟩ | ⟨a2, f1, an2, f2, tl2, -⟩
    · have oa2 := pl_o a2 ak2
      have ob2 := pl_o b2' bk2
      rcases ed t l e with ⟨a, b, e1, e3, ⟨ak, bk⟩, j, ek⟩ | ⟨a, b, e1, e3, j, ek⟩ | ⟨a, e1, an, e3, tl, ek⟩
      · have oa := pl_o a ak
        have ob := pl_o b bk
        obtain ⟨r1, r2⟩ := h.2 a b a2 b2' j j2 (by omega) (by omega) (by omega)
        refine ⟨by omega, ?_⟩
        rcases r2 with r2 | r2
        · rw [r2] at e3; exact Or.inl (by rw [e3, f2])
        · exact Or.inr (by omega)
      · have oa := bp_i a j.1.1 j.1.2
        have ob := bp_i b j.2.2.1 j.2.2.2.1
        exact ⟨by omega, Or.inr (by omega)⟩
      · have oa := bp_i a an.1 an.2
        exact ⟨by omega, Or.inr (by omega)⟩
    · have oa2 := bp_i a2 j2.1.1 j2.1.2
      have ob2 := bp_i b2' j2.2.2.1 j2.2.2.2.1
      rcases ed t l e with ⟨a, b, e1, e3, ⟨ak, bk⟩, j, ek⟩ | ⟨a, b, e1, e3, j, ek⟩ | ⟨a, e1, an, e3, tl, ek⟩
      · have ob := pl_o b bk
        omega
      · have u : ∀ y, 0 ≤ y ∧ y < G.n → 0 ≤ y ∧ y ≤ G.n := fun y w => ⟨w.1, by omega⟩
        have ra := u a j.1
        have rb := u b ⟨j.2.2.1, j.2.2.2.1⟩
        have ra2 := u a2 j2.1
        have rb2 := u b2' ⟨j2.2.2.1, j2.2.2.2.1⟩
        have m1 := bp_m a2 b2' ra2.1 ra2.2 rb2.1 rb2.2
        have m2 := bp_m b b2' rb.1 rb.2 rb2.1 rb2.2
        have m3 := bp_m a2 b ra2.1 ra2.2 rb.1 rb.2
        have m4 := bp_m a b2' ra.1 ra.2 rb2.1 rb2.2
        have m5 := bp_m a2 a ra2.1 ra2.2 ra.1 ra.2
        obtain ⟨r1, r2⟩ := hg.2 a b a2 b2' j j2 (by omega) (by omega) (by omega)
        refine ⟨by omega, ?_⟩
        rcases r2 with r2 | r2
        · rw [r2] at e3; exact Or.inl (by rw [e3, f2])
        · exact Or.inr (by omega)
      · omega
    · omega
end MLT8
end
