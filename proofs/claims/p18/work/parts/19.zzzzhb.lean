section
section AR9
variable {V V' : Int → It} {n n' k x m w : Int} {nb : Int → Int} {bg : Int → Prop} {K : KN} {i : It}
theorem ar_fI (h : i 0 ≠ 10 → i 7 ≠ 2 ∧ i 9 ≠ 2) (h10 : fIt K i 0 ≠ 10) : fIt K i 7 ≠ 2 ∧ fIt K i 9 ≠ 2 := by
  have i10 : i 0 ≠ 10 := fun z => h10 ((fIt_h (K := K) (i := i) (by omega)).2.1.mpr z)
  obtain ⟨h7, h9⟩ := h i10
  have o7 : foO K i 4 7 = i 7 := by
    have z := foO_kk (K := K) (i := i) (m := 2) (by decide) (by decide)
    have e : foO K i 4 7 = if i 7 = 2 ∧ (K (i 8)).1 ≠ 0 then (K (i 8)).1 else i 7 := z
    rw [e, if_neg (fun y => h7 y.1)]
  have o9 : foO K i 4 9 = i 9 := by
    have z := foO_kk (K := K) (i := i) (m := 3) (by decide) (by decide)
    have e : foO K i 4 9 = if i 9 = 2 ∧ (K (i 10)).1 ≠ 0 then (K (i 10)).1 else i 9 := z
    rw [e, if_neg (fun y => h9 y.1)]
  have a7 : ∀ c, c = 7 ∨ c = 9 → foA (foO K i 4) c = foO K i 4 c := fun c hc => by
    unfold foA
    by_cases d : five2 (foO K i 4)
    · rw [dI_y d]
      show uZ (uZ (uZ (uZ (uZ (foO K i 4) 0 0) 3 1) 4 _) 5 0) 6 0 c = _
      rw [uZ_ne (by omega), uZ_ne (by omega), uZ_ne (by omega), uZ_ne (by omega), uZ_ne (by omega)]
    · rw [dI_n d]
  have z7 : ∀ c, c = 7 ∨ c = 9 → foZ (foA (foO K i 4)) c = foA (foO K i 4) c := fun c hc => by
    unfold foZ
    by_cases d : zer1 (foA (foO K i 4))
    · rw [dI_y d, uZ_ne (by omega), uZ_ne (by omega), uZ_ne (by omega)]
    · rw [dI_n d]
  have b7 : ∀ c, c = 7 ∨ c = 9 → foB K i c = i c := fun c hc => by
    unfold foB
    by_cases d : i 11 = 2 ∧ (K (i 4)).1 = 1
    · rw [dI_y d, uZ_ne (by omega), uZ_ne (by omega), uZ_ne (by omega)]
    · rw [dI_n d]
  unfold fIt
  by_cases a : i 0 = 13
  · rw [if_pos a]; exact ⟨h7, h9⟩
  · rw [if_neg a]
    by_cases b : i 0 = 12
    · rw [if_pos b, b7 7 (Or.inl rfl), b7 9 (Or.inr rfl)]; exact ⟨h7, h9⟩
    · rw [if_neg b]
      by_cases c : i 0 ≤ 10
      · rw [if_pos c, z7 7 (Or.inl rfl), z7 9 (Or.inr rfl), a7 7 (Or.inl rfl), a7 9 (Or.inr rfl), o7, o9]; exact ⟨h7, h9⟩
      · rw [if_neg c]; exact ⟨h7, h9⟩
theorem AR8.fold (hn : 0 ≤ n) (h : AR8 V n) : AR8 (foS V n.toNat).2.2.2 (foS V n.toNat).2.1 := fun m a b => by
  obtain ⟨t, t1, t2, t3⟩ := fo_ex a b
  have q := (fo_at t1 t2).2
  rw [t3] at q
  rw [q]
  exact ar_fI (h t (by omega) (by omega))
theorem AR8.dr1k (hn : 0 ≤ n) (h : AR8 V n) : AR8 (dr1 V n n.toNat).2.2 (dr1 V n n.toNat).1 := fun m a b => by
  obtain ⟨t, t1, t2, t3⟩ := dr_ex a b
  have q := (dr_at t1 t2).2
  rw [t3] at q
  rw [q]
  exact h t (by omega) (by omega)
theorem rb_79 (c : Int) (h : c = 7 ∨ c = 9) : rbV V n x k c = V k c := by
  unfold rbV
  by_cases a : nrV V n x k ∧ V k 0 = 12 ∧ V k 11 = 2 ∧ V k 4 = V x 1
  · rw [dI_y a]
    unfold tkI
    by_cases z : V x 0 = 0
    · rw [if_pos z, uZ_ne (by omega), uZ_ne (by omega), uZ_ne (by omega)]
    · rw [if_neg z, uZ_ne (by omega), uZ_ne (by omega), uZ_ne (by omega), uZ_ne (by omega), uZ_ne (by omega)]
  · rw [dI_n a]
    by_cases b : (0 ≤ k ∧ k < n) ∧ RCG V n (x + 1) (fun j => wrT (V j) (V x 1)) k ∧ V k 0 = 12 ∧ rdI (V k) (V x 1)
    · rw [dI_y b]
      show uZ (uZ (uZ (uZ (uZ (V k) 11 12) 3 0) 4 0) 5 0) 6 0 c = V k c
      rw [uZ_ne (by omega), uZ_ne (by omega), uZ_ne (by omega), uZ_ne (by omega), uZ_ne (by omega)]
    · rw [dI_n b]
theorem AR8.drL (h : AR8 V n) (x0 : 0 ≤ x) (xn : x < n) : AR8 (toV (rbV V n x) x) (n - 1) := fun m a b => by
  unfold toV
  by_cases c : m < x
  · rw [if_pos c, rb_0 0 (by decide), rb_79 7 (Or.inl rfl), rb_79 9 (Or.inr rfl)]; exact h m a (by omega)
  · rw [if_neg c, rb_0 0 (by decide), rb_79 7 (Or.inl rfl), rb_79 9 (Or.inr rfl)]; exact h (m + 1) (by omega) (by omega)
theorem AR8.drx (hn : 0 ≤ n) (h : AR8 V n) (g : DRX V n V' n' w) : AR8 V' n' := by
  obtain ⟨t, g1, -, -⟩ := g
  have key : ∀ (t : Nat) (V' : Int → It) (n' : Int), DRT t (dr1 V n n.toNat).2.2 (dr1 V n n.toNat).1 V' n' → AR8 V' n' := fun t => by
    induction t with
    | zero => intro V' n' g; rw [g.1, g.2]; exact h.dr1k hn
    | succ t ih =>
      intro V' n' g
      obtain ⟨V1, n1, k, g1, g2, g3, g4⟩ := g
      rw [g3, g4]
      exact (ih V1 n1 g1).drL g2.1 g2.2.1
  exact key t V' n' g1
theorem AR8.shr (h : AR8 V n) : AR8 (shV V n nb bg) n := fun k k0 kn => by
  rw [sv_0 k0 kn, sv_k k0 kn]
  intro a
  have q := h k k0 kn a
  have r7 : ∀ c, c = 7 ∨ c = 9 → rnI nb (ubV V n nb bg k) c = ubV V n nb bg k c := fun c hc => by
    show (if c = 1 ∧ (ubV V n nb bg k 0 ≤ 5 ∨ ubV V n nb bg k 0 = 10) then nb (ubV V n nb bg k 1) else if (c = 4 ∨ c = 6 ∨ c = 8 ∨ c = 10) ∧ ubV V n nb bg k (c - 1) = 2 then nb (ubV V n nb bg k c) else ubV V n nb bg k c) = _
    rw [if_neg (fun z => by omega), if_neg (fun z => by omega)]
  have u7 : ∀ c, c = 7 ∨ c = 9 → ubV V n nb bg k c = V k c := fun c hc => by
    unfold ubV
    by_cases b : (0 ≤ k ∧ k < n) ∧ V k 0 = 12 ∧ RCG V n 0 (fun _ => False) k ∧ ∃ u, rdI (V k) u ∧ lsV V n nb bg k u
    · rw [dI_y b]
      show uZ (uZ (uZ (uZ (uZ (V k) 11 13) 3 0) 4 0) 5 0) 6 0 c = V k c
      rw [uZ_ne (by omega), uZ_ne (by omega), uZ_ne (by omega), uZ_ne (by omega), uZ_ne (by omega)]
    · rw [dI_n b]
  rw [r7 7 (Or.inl rfl), r7 9 (Or.inr rfl), u7 7 (Or.inl rfl), u7 9 (Or.inr rfl)]
  exact q
end AR9
def AB8 (s : BB) : Prop := 0 ≤ s.1 ∧ ∀ m, 0 ≤ m → m < s.1 → s.2 m 0 ≠ 10 → s.2 m 7 ≠ 2 ∧ s.2 m 9 ≠ 2
section ABS
variable {s : BB} {i x : It} {f base P N k lb lq j0 to out n : Int} {na NM lv : Int → Int} {l : Int → Prop} {H G : RTS} {V : Int → It}
theorem AB8.add (h : AB8 s) (hi : i 0 ≠ 10 → i 7 ≠ 2 ∧ i 9 ≠ 2) : AB8 (bA s i) := ⟨by show 0 ≤ s.1 + 1; have := h.1; omega, fun m a b => by
  by_cases e : m = s.1
  · show uZ s.2 s.1 i m 0 ≠ 10 → uZ s.2 s.1 i m 7 ≠ 2 ∧ uZ s.2 s.1 i m 9 ≠ 2
    rw [e, uZ_eq]; exact hi
  · show uZ s.2 s.1 i m 0 ≠ 10 → uZ s.2 s.1 i m 7 ≠ 2 ∧ uZ s.2 s.1 i m 9 ≠ 2
    rw [uZ_ne e]; exact h.2 m a (by have : m < s.1 + 1 := b; omega)⟩
theorem ab_m {a b c d e w : Int} : mkI a b c d e w 0 ≠ 10 → mkI a b c d e w 7 ≠ 2 ∧ mkI a b c d e w 9 ≠ 2 := fun _ => ⟨by show (0 : Int) ≠ 2; decide, by show (0 : Int) ≠ 2; decide⟩
theorem AB8.one (h : AB8 s) (t : Nat) : AB8 (mb1 f base P na x s t) := by
  induction t with
  | zero => exact h
  | succ t ih =>
    show AB8 (nmS f base P na x t (mb1 f base P na x s t))
    unfold nmS
    by_cases c : (t : Int) < P
    · rw [if_pos c]; exact (ih.add ab_m).add ab_m
    · rw [if_neg c]; exact ih.add ab_m
theorem AB8.two (h : AB8 s) (t : Nat) : AB8 (mb2 base l s t) := by
  induction t with
  | zero => exact h
  | succ t ih =>
    show AB8 (dI (l t) (bA (mb2 base l s t) (mkI 0 (base + t) 0 1 0 0)) (mb2 base l s t))
    by_cases c : l t
    · rw [dI_y c]; exact ih.add ab_m
    · rw [dI_n c]; exact ih
theorem ab_ml (h : i 7 ≠ 2 ∧ i 9 ≠ 2) : mlI f base lb i 7 ≠ 2 ∧ mlI f base lb i 9 ≠ 2 := by
  have s7 : shO base i 7 = i 7 := so_c (by omega)
  have s9 : shO base i 9 = i 9 := so_c (by omega)
  unfold mlI
  by_cases a : i 0 = 8 ∨ i 0 = 9 ∨ i 0 = 13
  · rw [if_pos a, uZ_ne (by decide), uZ_ne (by decide), s7, s9]; exact h
  · rw [if_neg a]
    by_cases b : i 0 = 11 ∨ i 0 = 12
    · rw [if_pos b, uZ_ne (by decide), uZ_ne (by decide), s7, s9]; exact h
    · rw [if_neg b]
      by_cases c : i 0 = 14 ∨ i 0 = 15
      · rw [if_pos c, uZ_ne (by decide), uZ_ne (by decide), s7, s9]; exact h
      · rw [if_neg c]
        by_cases d : i 0 = 6
        · rw [if_pos d, s7, s9]; exact h
        · rw [if_neg d, uZ_ne (by decide), uZ_ne (by decide), s7, s9]; exact h
theorem AB8.three (h : AB8 s) (hV : AR8 V n) (nc : ∀ j, 0 ≤ j → j < n → V j 0 ≠ 10) (t : Nat) (ht : (t : Int) ≤ n) : AB8 (mb3 f base lb to out V s t) := by
  induction t with
  | zero => exact h
  | succ t ih =>
    have ih := ih (by omega)
    have v := hV t (by omega) (by omega) (nc t (by omega) (by omega))
    show AB8 (if V t 0 = 7 then bA (bA (mb3 f base lb to out V s t) (uZ (uZ (shO base (V t)) 0 0) 1 to)) (mkI 8 out 0 0 0 0) else bA (mb3 f base lb to out V s t) (mlI f base lb (V t)))
    by_cases a : V t 0 = 7
    · rw [if_pos a]
      refine (ih.add (fun _ => ?_)).add ab_m
      rw [uZ_ne (by decide), uZ_ne (by decide), uZ_ne (by decide), uZ_ne (by decide), so_c (by omega), so_c (by omega)]
      exact v
    · rw [if_neg a]
      exact ih.add (fun _ => ab_ml v)
theorem AR8.melt (h : AR8 H.V H.n) (hg : AR8 G.V G.n) (hk : 0 ≤ k ∧ k < H.n) (hn : 0 ≤ G.n) (nc : ∀ j, 0 ≤ j → j < G.n → G.V j 0 ≠ 10) : AR8 (mltS H G k base lb lq j0 P N NM).V (mltS H G k base lb lq j0 P N NM).n := by
  have ab : AB8 (mkS H G k base lb lq P N) := ((((show AB8 (bA (0, fun _ => zI) (mkI 14 H.F 0 0 0 0)) from AB8.add ⟨Int.le_refl _, fun m a b => absurd b (by show ¬ m < 0; omega)⟩ ab_m).one N.toNat).two 192).three hg nc G.n.toNat (by omega)).add ab_m |>.add ab_m
  intro i i0 i1
  have n2 : (mltS H G k base lb lq j0 P N NM).n = H.n + (mkS H G k base lb lq P N).1 - 1 := rfl
  rw [n2] at i1
  show spV H.V k (mkS H G k base lb lq P N).1 (mkS H G k base lb lq P N).2 i 0 ≠ 10 → spV H.V k (mkS H G k base lb lq P N).1 (mkS H G k base lb lq P N).2 i 7 ≠ 2 ∧ spV H.V k (mkS H G k base lb lq P N).1 (mkS H G k base lb lq P N).2 i 9 ≠ 2
  unfold spV
  by_cases c : i < k
  · rw [if_pos c]; exact h i i0 (by omega)
  · rw [if_neg c]
    by_cases d : i < k + (mkS H G k base lb lq P N).1
    · rw [if_pos d]; exact ab.2 _ (by omega) (by omega)
    · rw [if_neg d]; exact h _ (by omega) (by omega)
theorem pos_ex {bp : Int → Int} {t : Int} (M : Nat) (h0 : bp 0 ≤ t) (h1 : t < bp M) : ∃ j : Int, (0 ≤ j ∧ j < M) ∧ bp j ≤ t ∧ t < bp (j + 1) := by
  induction M with
  | zero =>
    have e : bp ((0 : Nat) : Int) = bp 0 := rfl
    rw [e] at h1; omega
  | succ M ih =>
    by_cases c : t < bp M
    · obtain ⟨j, a, b⟩ := ih c
      exact ⟨j, by omega, b⟩
    · exact ⟨M, by omega, by omega, by have e : ((M + 1 : Nat) : Int) = (M : Int) + 1 := by omega
                                       rw [e] at h1; exact h1⟩
theorem ml_cl (hk : 0 ≤ k ∧ k < H.n) (hn : 1 ≤ G.n) (hP : 0 ≤ P ∧ P ≤ 4 ∧ P ≤ N) (hr : RG8 G.V G.n) (hna : ∀ m, 0 ≤ m → m < P → 0 ≤ G.na 0 m) (nc : ∀ j, 0 ≤ j → j < G.n → G.V j 0 ≠ 10) (hl : ∀ j, 0 ≤ j → j < G.n → G.V j 0 ≠ 7 → G.V j 0 ≠ 8 → j + 1 < G.n) {y : Int} (y0 : 0 ≤ y) (y1 : y < (mltS H G k base lb lq j0 P N NM).n) (h9 : (mltS H G k base lb lq j0 P N NM).V y 0 = 8 ∨ (mltS H G k base lb lq j0 P N NM).V y 0 = 9 ∨ (mltS H G k base lb lq j0 P N NM).V y 0 = 13) :
    (∃ a, y = plM k (mkS H G k base lb lq P N).1 a ∧ a ≠ k ∧ (0 ≤ a ∧ a < H.n) ∧ (mltS H G k base lb lq j0 P N NM).V y = H.V a) ∨
    (∃ j, y = bpM H G k base lb lq P N j ∧ (0 ≤ j ∧ j < G.n) ∧ (mltS H G k base lb lq j0 P N NM).V y 0 = G.V j 0 ∧ (mltS H G k base lb lq j0 P N NM).V y 1 = G.V j 1 + lb) ∨
    (∃ j, y = bpM H G k base lb lq P N j + 1 ∧ (0 ≤ j ∧ j < G.n) ∧ G.V j 0 = 7 ∧ (mltS H G k base lb lq j0 P N NM).V y 0 = 8 ∧ (mltS H G k base lb lq j0 P N NM).V y 1 = lb + lq) ∨
    (y = bpM H G k base lb lq P N G.n ∧ (mltS H G k base lb lq j0 P N NM).V y 0 = 13 ∧ (mltS H G k base lb lq j0 P N NM).V y 1 = lb + lq) := by
  have eA := mk_A (H := H) (G := G) (k := k) (base := base) (lb := lb) (lq := lq) (P := P) (N := N)
  obtain ⟨en1, en2, en3⟩ := ml_end (H := H) (G := G) (base := base) (lb := lb) (lq := lq) (P := P) (N := N) (j0 := j0) (NM := NM) hk.1 (show 0 ≤ G.n by omega)
  have n2 : (mltS H G k base lb lq j0 P N NM).n = H.n + (mkS H G k base lb lq P N).1 - 1 := rfl
  have b1 := ml8_0 (H := H) (G := G) (base := base) (lb := lb) (lq := lq) (P := P) (N := N) hk.1
  rw [n2] at y1
  by_cases c : y < k
  · refine Or.inl ⟨y, ?_, by omega, by omega, ?_⟩
    · unfold plM; rw [if_pos (by omega)]
    · show spV H.V k _ _ y = H.V y
      unfold spV; rw [if_pos c]
  · by_cases d : y < k + (mkS H G k base lb lq P N).1
    · by_cases e : y < bpM H G k base lb lq P N 0
      · exfalso
        obtain ⟨⟨x1, -, -⟩, -⟩ := msx_of (H := H) (G := G) (k := k) (base := base) (lb := lb) (lq := lq) (P := P) (N := N) (j0 := j0) (NM := NM) hk.1 hn hP hr hna hl
        by_cases z : y = k
        · -- ENTER
          have a := pf_1 (f := H.F) (base := base) (P := P) (na := G.na 0) (x := H.V k) (s := bA (0, fun _ => zI) (mkI 14 H.F 0 0 0 0)) (t := 0) N.toNat
          have b := pf_2 (base := base) (lv := lvS G P) (s := mb1 H.F base P (G.na 0) (H.V k) (bA (0, fun _ => zI) (mkI 14 H.F 0 0 0 0)) N.toNat) (t := 0) 192
          rw [Nat.zero_add] at a b
          have c1 := bd_pf (base := base) (lb := lb) (f := H.F) (to := H.V k 1) (out := lb + lq) (V := G.V) (s := hdB H.F base P N (G.na 0) (H.V k) (lvS G P)) (Int.le_refl 0) (show 0 ≤ G.n by omega)
          have d1 : PF8 (bdB H.F base lb (H.V k 1) (lb + lq) G.V (hdB H.F base P N (G.na 0) (H.V k) (lvS G P)) G.n) (mkS H G k base lb lq P N) := by rw [mk_eq]; exact PF8.add.tr PF8.add
          have pf : PF8 (bA (0, fun _ => zI) (mkI 14 H.F 0 0 0 0)) (mkS H G k base lb lq P N) := PF8.tr (PF8.tr a (PF8.tr b c1)) d1
          have e2 := ml_V (H := H) (G := G) (k := k) (base := base) (lb := lb) (lq := lq) (P := P) (N := N) (j0 := j0) (NM := NM) (m := 0) (Int.le_refl 0) (by omega)
          have f2 : (mkS H G k base lb lq P N).2 0 = mkI 14 H.F 0 0 0 0 := pf.at.2
          rw [Int.add_zero, f2] at e2
          rw [z, e2] at h9
          have w : mkI 14 H.F 0 0 0 0 0 = 14 := rfl
          rw [w] at h9; omega
        · have gi := x1 (y - k) (by omega) (by omega)
          rw [show k + (y - k) = y by omega] at gi
          rcases gi with ⟨g, -, -⟩ | g
          · rw [g] at h9; omega
          · rw [g] at h9; omega
      · by_cases f : y < bpM H G k base lb lq P N G.n
        · obtain ⟨M, eM⟩ : ∃ M : Nat, G.n = M := ⟨G.n.toNat, by omega⟩
          obtain ⟨j, jn, j1, j2⟩ := pos_ex (bp := bpM H G k base lb lq P N) (t := y) M (by omega) (by rw [← eM]; exact f)
          obtain ⟨-, m1, m2⟩ := ml_at (lb := lb) (lq := lq) (base := base) (P := P) (N := N) (H := H) (j0 := j0) (NM := NM) hk.1 jn.1 (show j < G.n by omega)
          by_cases c7 : G.V j 0 = 7
          · obtain ⟨z1, z2, z3⟩ := m2 c7
            by_cases g : y = bpM H G k base lb lq P N j
            · exfalso
              rw [g, z2, uZ_ne (by decide), uZ_eq] at h9; omega
            · have ey : y = bpM H G k base lb lq P N j + 1 := by omega
              refine Or.inr (Or.inr (Or.inl ⟨j, ey, ⟨jn.1, by omega⟩, c7, ?_, ?_⟩))
              · rw [ey, z3]; rfl
              · rw [ey, z3]; rfl
          · obtain ⟨z1, z2⟩ := m1 c7
            have ey : y = bpM H G k base lb lq P N j := by omega
            obtain ⟨bi, bl⟩ := ml_bi (lb := lb) (base := base) (f := H.F) c7 (nc j jn.1 (by omega))
            refine Or.inr (Or.inl ⟨j, ey, ⟨jn.1, by omega⟩, by rw [ey, z2]; exact bi.1, ?_⟩)
            rw [ey, z2]
            rw [ey, z2, bi.1] at h9
            exact bl h9
        · by_cases g : y = bpM H G k base lb lq P N G.n
          · exact Or.inr (Or.inr (Or.inr ⟨g, by rw [g, en1]; rfl, by rw [g, en1]; rfl⟩))
          · exfalso
            have ey : y = bpM H G k base lb lq P N G.n + 1 := by omega
            rw [ey, en2] at h9
            have w : mkI 15 H.F 0 0 0 0 0 = 15 := rfl
            rw [w] at h9; omega
    · refine Or.inl ⟨y - (mkS H G k base lb lq P N).1 + 1, ?_, by omega, by omega, ?_⟩
      · unfold plM; rw [if_neg (by omega)]; omega
      · show spV H.V k _ _ y = _
        unfold spV; rw [if_neg c, if_neg d]
theorem lab_of (hk : 0 ≤ k ∧ k < H.n) (hn : 1 ≤ G.n) (hP : 0 ≤ P ∧ P ≤ 4 ∧ P ≤ N) (hr : RG8 G.V G.n) (hna : ∀ m, 0 ≤ m → m < P → 0 ≤ G.na 0 m) (nc : ∀ j, 0 ≤ j → j < G.n → G.V j 0 ≠ 10) (hl : ∀ j, 0 ≤ j → j < G.n → G.V j 0 ≠ 7 → G.V j 0 ≠ 8 → j + 1 < G.n) (hb : mxV (lbV H.V H.n) lb) (hq : mxV (lbV G.V G.n) lq) (h0 : ∀ j, 0 ≤ j → j < G.n → (G.V j 0 = 8 ∨ G.V j 0 = 9 ∨ G.V j 0 = 13) → 0 ≤ G.V j 1) : LAB8 H G (mltS H G k base lb lq j0 P N NM) k (mkS H G k base lb lq P N).1 (bpM H G k base lb lq P N) := by
  intro t l t0 l0 ht h13 e
  have q0 := hq.1
  rcases ml_cl (base := base) (lb := lb) (lq := lq) (j0 := j0) (NM := NM) hk hn hP hr hna nc hl t0.1 t0.2 (by rcases ht with z | z; exact Or.inl z; exact Or.inr (Or.inl z)) with ⟨a, a1, a2, a3, a4⟩ | ⟨a, a1, a2, a3, a4⟩ | ⟨a, a1, a2, a7, a3, a4⟩ | ⟨a1, a3, a4⟩
  · have la : H.V a 1 < lb := hb.2.1 a a3.1 a3.2 (by rw [a4] at ht; rcases ht with z | z; exact Or.inl z; exact Or.inr (Or.inl z))
    rw [a4] at e
    rcases ml_cl (base := base) (lb := lb) (lq := lq) (j0 := j0) (NM := NM) hk hn hP hr hna nc hl l0.1 l0.2 (Or.inr (Or.inr h13)) with ⟨b, b1, b2, b3, b4⟩ | ⟨b, b1, b2, b3, b4⟩ | ⟨b, b1, b2, b7, b3, b4⟩ | ⟨b1, b3, b4⟩
    · exact Or.inl ⟨a, b, a1, a2, a3, b1, b2, b3⟩
    · have := h0 b b2.1 b2.2 (by omega)
      omega
    · omega
    · omega
  · have la := hq.2.1 a a2.1 a2.2 (by omega)
    have lz := h0 a a2.1 a2.2 (by omega)
    rcases ml_cl (base := base) (lb := lb) (lq := lq) (j0 := j0) (NM := NM) hk hn hP hr hna nc hl l0.1 l0.2 (Or.inr (Or.inr h13)) with ⟨b, b1, b2, b3, b4⟩ | ⟨b, b1, b2, b3, b4⟩ | ⟨b, b1, b2, b7, b3, b4⟩ | ⟨b1, b3, b4⟩
    · have lb1 : H.V b 1 < lb := hb.2.1 b b3.1 b3.2 (by rw [b4] at h13; exact Or.inr (Or.inr h13))
      rw [b4] at e
      omega
    · exact Or.inr (Or.inl ⟨a, b, a1, a2, by omega, b1, b2.1, b2.2, by omega, by omega⟩)
    · omega
    · omega
  · rcases ml_cl (base := base) (lb := lb) (lq := lq) (j0 := j0) (NM := NM) hk hn hP hr hna nc hl l0.1 l0.2 (Or.inr (Or.inr h13)) with ⟨b, b1, b2, b3, b4⟩ | ⟨b, b1, b2, b3, b4⟩ | ⟨b, b1, b2, b7, b3, b4⟩ | ⟨b1, b3, b4⟩
    · have lb1 : H.V b 1 < lb := hb.2.1 b b3.1 b3.2 (by rw [b4] at h13; exact Or.inr (Or.inr h13))
      rw [b4] at e
      omega
    · have := hq.2.1 b b2.1 b2.2 (by omega)
      omega
    · omega
    · exact Or.inr (Or.inr ⟨a, a1, a2, a7, b1⟩)
  · omega
end ABS
def RW8 (NM PM : Int → Int) (q : Int) (H : RTS) : Prop := (1 ≤ H.n ∧ 0 < H.F) ∧ RG8 H.V H.n ∧ ((0 ≤ PM q ∧ PM q ≤ 4 ∧ PM q ≤ NM q) ∧ H.fo 0 = q ∧ ∀ m, 0 ≤ m → m < PM q → 0 ≤ H.na 0 m ∧ H.na 0 m < 192) ∧ (∃ lv, LVL8 H.V H.n lv) ∧ (∀ j, 0 ≤ j → j < H.n → H.V j 0 ≠ 7 → H.V j 0 ≠ 8 → j + 1 < H.n) ∧ ∀ j, 0 ≤ j → j < H.n → (H.V j 0 = 8 ∨ H.V j 0 = 9 ∨ H.V j 0 = 13) → 0 ≤ H.V j 1
def TRG (Gs : Int → RTS) (PM : Int → Int) (r : Int) (H H2 : RTS) : Prop := ∀ q W L, beh8 (uZ Gs r H) PM q W L → beh8 (uZ Gs r H2) PM q W L
section TRX
variable {Gs : Int → RTS} {PM PV NM : Int → Int} {r C w v k k' : Int} {H H1 H2 H' : RTS} {t : Nat}
theorem TRN8.g (h : TRN8 PM r H H2) : TRG Gs PM r H H2 := fun q W L b => by
  have z := h (uZ Gs r H) uZ_eq q W L b
  have e : uZ (uZ Gs r H) r H2 = uZ Gs r H2 := by
    funext i
    by_cases c : i = r
    · rw [c, uZ_eq, uZ_eq]
    · rw [uZ_ne c, uZ_ne c, uZ_ne c]
  rw [e] at z
  exact z
theorem TRG.tr (h : TRG Gs PM r H H1) (g : TRG Gs PM r H1 H2) : TRG Gs PM r H H2 := fun q W L b => g q W L (h q W L b)
theorem TRG.mlr (hP : ∀ q, PM q ≤ 4) (hV : ∀ q, 0 ≤ q → q < C → PM q = PV q) (h : MLR r Gs PV NM t H k H' k' w) (k0 : 0 ≤ k) (u : UNQ H.V H.n) (c : CLQ H.V H.n C) (hu : ∀ q, 0 ≤ q → q < C → UNQ (Gs q).V (Gs q).n) (hg : ∀ q, 0 ≤ q → q < C → RW8 NM PV q (Gs q) ∧ KP8 (Gs q).V (Gs q).n (hmS (Gs q) NM)) (F0 : 0 < H.F) (kp : KP8 H.V H.n (hmS H NM)) : TRG Gs PM r H H' ∧ KP8 H'.V H'.n (hmS H' NM) ∧ 0 < H'.F := by
  induction t generalizing H' k' w with
  | zero => rw [h.1]; exact ⟨fun _ _ _ b => b, kp, F0⟩
  | succ t ih =>
    obtain ⟨H1, k1, w1, d, h1, h2, h3, h4⟩ := h
    obtain ⟨i1, i2, i3⟩ := ih h1
    have hz : ∀ q, 0 ≤ q → q < C → 0 ≤ (Gs q).n ∧ UNQ (Gs q).V (Gs q).n ∧ LZ (Gs q).V (Gs q).n := fun q a b => by
      obtain ⟨⟨y1, -⟩, -, -, -, -, y6⟩ := (hg q a b).1
      exact ⟨by omega, hu q a b, fun j j0 jn z => y6 j j0 jn (Or.inr (Or.inr z))⟩
    obtain ⟨k1z, -, c1⟩ := MLR.un h1 k0 u c hz
    rcases h3 with ⟨base, lb, lq, j0, m, m1, m2, m3, m4, e1, e2, e3⟩ | ⟨m, e1, e2, e3⟩
    · obtain ⟨m10, mr, mc⟩ := m
      have cq := c1 k1 k1z h2 m10
      obtain ⟨⟨⟨y1, y2⟩, y3, ⟨y4, y5, y6⟩, ⟨lv, y7⟩, y8, y9⟩, gk⟩ := hg _ cq.1 cq.2
      have yn : ∀ m, 0 ≤ m → m < PV (H1.V k1 2) → 0 ≤ (Gs (H1.V k1 2)).na 0 m := fun m a b => (y6 m a b).1
      have sh : MSH H1 (Gs (H1.V k1 2)) (mltS H1 (Gs (H1.V k1 2)) k1 base lb lq j0 (PV (H1.V k1 2)) (NM (H1.V k1 2)) NM) k1 base _ _ _ lv := msh_of (NM := NM) (j0 := j0) (lb := lb) (lq := lq) ⟨k1z, h2⟩ m10 (by omega) i3 m1 y4 y3 yn mc.1 y7
      have sx : MSX H1 (Gs (H1.V k1 2)) (mltS H1 (Gs (H1.V k1 2)) k1 base lb lq j0 (PV (H1.V k1 2)) (NM (H1.V k1 2)) NM) k1 base _ := msx_of (NM := NM) (j0 := j0) (lb := lb) (lq := lq) k1z y1 y4 y3 yn y8
      have lab := lab_of (base := base) (NM := NM) (j0 := j0) ⟨k1z, h2⟩ y1 y4 y3 yn mc.1 y8 m2 m3 y9
      rw [e1]
      refine ⟨i1.tr (fun q W L b => ?_), ⟨i2.1.melt gk.1 sh sx lab, i2.2.1.melt sh sx lab (fun g hgn => ?_), i2.2.2.melt gk.2.2 ⟨k1z, h2⟩ (by omega) mc.1⟩, ?_⟩
      · refine sim_ml.beh (r := r) (q := H1.V k1 2) (k := k1) (base := base) (Gs := uZ Gs r H1) (A := (mkS H1 (Gs (H1.V k1 2)) k1 base lb lq (PV (H1.V k1 2)) (NM (H1.V k1 2))).1) (bp := bpM H1 (Gs (H1.V k1 2)) k1 base lb lq (PV (H1.V k1 2)) (NM (H1.V k1 2))) (lv := lv) (fun i ci => by rw [uZ_ne ci, uZ_ne ci]) hP ⟨mr, by rw [uZ_eq]⟩ ?_ b
        · rw [uZ_eq, uZ_eq, uZ_ne mr, hV _ cq.1 cq.2]; exact sh
      · obtain ⟨f, f0, f1, n, n0, n1, n2⟩ := hgn
        refine ⟨f, f0, ?_, n, n0, ?_, ?_⟩
        · show f < H1.F + (Gs (H1.V k1 2)).F; omega
        · show n < NM (if f < H1.F then H1.fo f else _)
          rw [if_pos f1]; exact n1
        · show (if f < H1.F then H1.na f n else _) = g
          rw [if_pos f1]; exact n2
      · show 0 < H1.F + (Gs (H1.V k1 2)).F; omega
    · rw [e1]; exact ⟨i1, i2, i3⟩
theorem TRG.psv (hP : ∀ q, PM q ≤ 4) (hV : ∀ q, 0 ≤ q → q < C → PM q = PV q) (h : PSV w r Gs PV NM (Gs r) H' v) (hr : 0 ≤ r ∧ r < C) (u : UNQ (Gs r).V (Gs r).n) (c : CLQ (Gs r).V (Gs r).n C) (hu : ∀ q, 0 ≤ q → q < C → UNQ (Gs q).V (Gs q).n) (hg : ∀ q, 0 ≤ q → q < C → RW8 NM PV q (Gs q) ∧ KP8 (Gs q).V (Gs q).n (hmS (Gs q) NM)) : TRG Gs PM r (Gs r) H' ∧ KP8 H'.V H'.n (hmS H' NM) := by
  obtain ⟨⟨⟨y1, y2⟩, y3, ⟨y4, y5, y6⟩, ⟨lv, y7⟩, y8, y9⟩, kp⟩ := hg r hr.1 hr.2
  have n0 : 0 ≤ (Gs r).n := by omega
  have hm : ∀ {X : RTS}, X.2.2 = (Gs r).2.2 → hmS X NM = hmS (Gs r) NM := fun {X} e => by
    have e1 : X.F = (Gs r).F := congrArg (fun z => z.1) e
    have e2 : X.fo = (Gs r).fo := congrArg (fun z => z.2.1) e
    have e3 : X.na = (Gs r).na := congrArg (fun z => z.2.2.2.2) e
    funext g; unfold hmS; rw [e1, e2, e3]
  have tup : ∀ {X : RTS}, X.2.2 = (Gs r).2.2 → X = (X.n, X.V, (Gs r).2.2) := fun {X} e => by rw [← e]; rfl
  rcases h with ⟨-, h, e⟩ | ⟨-, h, e⟩ | ⟨-, h, en, e⟩ | ⟨-, h, en, e⟩ | ⟨-, t, h⟩ | ⟨-, nb, h1, h2, h3, -⟩
  · refine ⟨(TRN8.fold hP h e).g, ?_⟩
    obtain ⟨K, hf⟩ := h
    have eN : (foS (Gs r).V (Gs r).n.toNat).2.1 = H'.n := by rw [hf]
    have eW : (foS (Gs r).V (Gs r).n.toNat).2.2.2 = H'.V := by rw [hf]
    rw [hm e, ← eN, ← eW]
    exact ⟨kp.1.fold n0, kp.2.1.fold n0, AR8.fold n0 kp.2.2⟩
  · have z := TRN8.drop (r := r) (H := Gs r) hP h
    rw [← tup e] at z
    refine ⟨z.g, ?_⟩
    rw [hm e]
    obtain ⟨a, b⟩ := DRX.kp n0 kp.1 kp.2.1 h
    exact ⟨a, b, AR8.drx n0 kp.2.2 h⟩
  · obtain ⟨a, b⟩ := TRN8.mva (PM := PM) (r := r) (X := (Gs r).2.2) hP (by omega) kp h
    have ex : H' = ((Gs r).n, H'.V, (Gs r).2.2) := by rw [← en]; exact tup e
    have ey : Gs r = ((Gs r).n, (Gs r).V, (Gs r).2.2) := rfl
    rw [hm e, en]
    refine ⟨?_, b⟩
    rw [ex]
    exact a.g
  · have a := TRN8.als (PM := PM) (r := r) (X := (Gs r).2.2) (n := (Gs r).n) hP (by omega) h
    obtain ⟨b1, b2, b3⟩ := ALS.kp (H := hmS (Gs r) NM) (n := (Gs r).n) (by omega) kp.1 kp.2.1 kp.2.2 h
    have ex : H' = ((Gs r).n, H'.V, (Gs r).2.2) := by rw [← en]; exact tup e
    rw [hm e, en]
    refine ⟨?_, b1, b2, b3⟩
    rw [ex]
    exact a.g
  · obtain ⟨a, b, -⟩ := TRG.mlr hP hV h (Int.le_refl 0) u c hu hg y2 kp
    exact ⟨a, b⟩
  · have er := hV r hr.1 hr.2
    rw [← er] at h1 h3
    rw [h3]
    have hpm : ∀ m, 0 ≤ m → m < PM r → m < NM ((Gs r).fo 0) ∧ 0 ≤ (Gs r).na 0 m ∧ (Gs r).na 0 m < 192 := fun m a b => by
      rw [er] at b
      exact ⟨by rw [y5]; omega, y6 m a b⟩
    refine ⟨(TRN8.share hP y3 y2 hpm h1).g, kp.1.shr, kp.2.1.shr y3 h1 (fun g q => ?_), AR8.shr kp.2.2⟩
    obtain ⟨f, f0, f1, n, m0, m1, m2⟩ := q
    refine ⟨f, f0, f1, n, m0, m1, ?_⟩
    show (if (0 ≤ f ∧ f < (Gs r).F) ∧ 0 ≤ n ∧ n < NM ((Gs r).fo f) then nb ((Gs r).na f n) else 0) = nb g
    rw [if_pos ⟨⟨f0, f1⟩, m0, m1⟩, m2]
end TRX
end
