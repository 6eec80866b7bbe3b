section
section MSO
variable {H G : RTS} {k base lb lq j0 P N : Int} {NM lv : Int → Int}
noncomputable def bpM (H G : RTS) (k base lb lq P N j : Int) : Int := k + (bdB H.F base lb (H.V k 1) (lb + lq) G.V (hdB H.F base P N (G.na 0) (H.V k) (lvS G P)) j).1
theorem mk_eq : mkS H G k base lb lq P N = bA (bA (bdB H.F base lb (H.V k 1) (lb + lq) G.V (hdB H.F base P N (G.na 0) (H.V k) (lvS G P)) G.n) (mkI 13 (lb + lq) 0 0 0 0)) (mkI 15 H.F 0 0 0 0) := rfl
theorem mk_A : k + (mkS H G k base lb lq P N).1 = bpM H G k base lb lq P N G.n + 2 := by
  rw [mk_eq]
  show k + ((bdB H.F base lb (H.V k 1) (lb + lq) G.V (hdB H.F base P N (G.na 0) (H.V k) (lvS G P)) G.n).1 + 1 + 1) = k + (bdB H.F base lb (H.V k 1) (lb + lq) G.V (hdB H.F base P N (G.na 0) (H.V k) (lvS G P)) G.n).1 + 2
  omega
theorem ml_V {m : Int} (h0 : 0 ≤ m) (h1 : m < (mkS H G k base lb lq P N).1) : (mltS H G k base lb lq j0 P N NM).V (k + m) = (mkS H G k base lb lq P N).2 m := by
  show spV H.V k (mkS H G k base lb lq P N).1 (mkS H G k base lb lq P N).2 (k + m) = _
  unfold spV
  rw [if_neg (by omega), if_pos (by omega), show k + m - k = m by omega]
theorem bd_s {f to out j : Int} {V : Int → It} {s : BB} (h : 0 ≤ j) : bdB f base lb to out V s (j + 1) = if V j 0 = 7 then bA (bA (bdB f base lb to out V s j) (uZ (uZ (shO base (V j)) 0 0) 1 to)) (mkI 8 out 0 0 0 0) else bA (bdB f base lb to out V s j) (mlI f base lb (V j)) := mb3_s h
theorem bd_pf {f to out j n : Int} {V : Int → It} {s : BB} (h : 0 ≤ j) (hn : j ≤ n) : PF8 (bdB f base lb to out V s j) (bdB f base lb to out V s n) := by
  unfold bdB
  obtain ⟨u, e⟩ : ∃ u, n.toNat = j.toNat + u := ⟨n.toNat - j.toNat, by omega⟩
  rw [e]; exact pf_3 u
theorem bd_0 {f to out : Int} {V : Int → It} {s : BB} : bdB f base lb to out V s 0 = s := rfl
theorem hd_n1 {f : Int} {na : Int → Int} {x : It} {l : Int → Prop} : 1 ≤ (hdB f base P N na x l).1 := by
  have a := (pf_2 (base := base) (lv := l) (s := mb1 f base P na x (bA (0, fun _ => zI) (mkI 14 f 0 0 0 0)) N.toNat) (t := 0) 192).1
  have b := (pf_1 (f := f) (base := base) (P := P) (na := na) (x := x) (s := bA (0, fun _ => zI) (mkI 14 f 0 0 0 0)) (t := 0) N.toNat).1
  rw [Nat.zero_add] at a b
  have c : (mb1 f base P na x (bA (0, fun _ => zI) (mkI 14 f 0 0 0 0)) 0).1 = 1 := rfl
  have d : (mb2 base l (mb1 f base P na x (bA (0, fun _ => zI) (mkI 14 f 0 0 0 0)) N.toNat) 0).1 = (mb1 f base P na x (bA (0, fun _ => zI) (mkI 14 f 0 0 0 0)) N.toNat).1 := rfl
  unfold hdB
  omega
theorem so_c {i : It} {c : Int} (h : ¬ ((c = 4 ∨ c = 6 ∨ c = 8 ∨ c = 10) ∧ i (c - 1) = 2)) : shO base i c = i c := if_neg h
theorem so_4 {i : It} {m : Int} (m0 : 0 ≤ m) (m4 : m < 4) : shO base i (4 + 2 * m) = if i (3 + 2 * m) = 2 then i (4 + 2 * m) + base else i (4 + 2 * m) := by
  show (if (4 + 2 * m = 4 ∨ 4 + 2 * m = 6 ∨ 4 + 2 * m = 8 ∨ 4 + 2 * m = 10) ∧ i (4 + 2 * m - 1) = 2 then i (4 + 2 * m) + base else i (4 + 2 * m)) = _
  rw [show 4 + 2 * m - 1 = 3 + 2 * m by omega]
  by_cases c : i (3 + 2 * m) = 2
  · rw [if_pos c, if_pos ⟨by omega, c⟩]
  · rw [if_neg c, if_neg (fun z => c z.2)]
theorem so_3 {i : It} {m : Int} : shO base i (3 + 2 * m) = i (3 + 2 * m) := so_c (fun z => by omega)
theorem ml_bi {f : Int} {i : It} (h7 : i 0 ≠ 7) (h10 : i 0 ≠ 10) : BI8 base i (mlI f base lb i) ∧ (i 0 = 8 ∨ i 0 = 9 ∨ i 0 = 13 → mlI f base lb i 1 = i 1 + lb) := by
  unfold mlI
  by_cases a : i 0 = 8 ∨ i 0 = 9 ∨ i 0 = 13
  · rw [if_pos a]
    exact ⟨⟨by rw [uZ_ne (by decide), so_c (by omega)], fun z => by omega, fun m m0 m4 => ⟨by rw [uZ_ne (by omega), so_3], by rw [uZ_ne (by omega), so_4 m0 m4]⟩⟩, fun _ => uZ_eq⟩
  · rw [if_neg a]
    by_cases b : i 0 = 11 ∨ i 0 = 12
    · rw [if_pos b]
      exact ⟨⟨by rw [uZ_ne (by decide), so_c (by omega)], fun z => by omega, fun m m0 m4 => ⟨by rw [uZ_ne (by omega), so_3], by rw [uZ_ne (by omega), so_4 m0 m4]⟩⟩, fun z => absurd z a⟩
    · rw [if_neg b]
      by_cases c : i 0 = 14 ∨ i 0 = 15
      · rw [if_pos c]
        exact ⟨⟨by rw [uZ_ne (by decide), so_c (by omega)], fun z => by omega, fun m m0 m4 => ⟨by rw [uZ_ne (by omega), so_3], by rw [uZ_ne (by omega), so_4 m0 m4]⟩⟩, fun z => absurd z a⟩
      · rw [if_neg c]
        by_cases d : i 0 = 6
        · rw [if_pos d]
          exact ⟨⟨so_c (by omega), fun z => by omega, fun m m0 m4 => ⟨so_3, so_4 m0 m4⟩⟩, fun z => absurd z a⟩
        · rw [if_neg d]
          exact ⟨⟨by rw [uZ_ne (by decide), so_c (by omega)], fun _ => uZ_eq, fun m m0 m4 => ⟨by rw [uZ_ne (by omega), so_3], by rw [uZ_ne (by omega), so_4 m0 m4]⟩⟩, fun z => absurd z a⟩
theorem ml_at {j : Int} (hk : 0 ≤ k) (hj : 0 ≤ j) (hn : j < G.n) : (bpM H G k base lb lq P N j + 1 ≤ bpM H G k base lb lq P N (j + 1) ∧ bpM H G k base lb lq P N (j + 1) ≤ bpM H G k base lb lq P N G.n) ∧ (G.V j 0 ≠ 7 → bpM H G k base lb lq P N (j + 1) = bpM H G k base lb lq P N j + 1 ∧ (mltS H G k base lb lq j0 P N NM).V (bpM H G k base lb lq P N j) = mlI H.F base lb (G.V j)) ∧ (G.V j 0 = 7 → bpM H G k base lb lq P N (j + 1) = bpM H G k base lb lq P N j + 2 ∧ (mltS H G k base lb lq j0 P N NM).V (bpM H G k base lb lq P N j) = uZ (uZ (shO base (G.V j)) 0 0) 1 (H.V k 1) ∧ (mltS H G k base lb lq j0 P N NM).V (bpM H G k base lb lq P N j + 1) = mkI 8 (lb + lq) 0 0 0 0) := by
  have e := bd_s (base := base) (lb := lb) (f := H.F) (to := H.V k 1) (out := lb + lq) (V := G.V) (s := hdB H.F base P N (G.na 0) (H.V k) (lvS G P)) hj
  have p1 := bd_pf (base := base) (lb := lb) (f := H.F) (to := H.V k 1) (out := lb + lq) (V := G.V) (s := hdB H.F base P N (G.na 0) (H.V k) (lvS G P)) (show 0 ≤ j + 1 by omega) (show j + 1 ≤ G.n by omega)
  have p0 := bd_pf (base := base) (lb := lb) (f := H.F) (to := H.V k 1) (out := lb + lq) (V := G.V) (s := hdB H.F base P N (G.na 0) (H.V k) (lvS G P)) (Int.le_refl 0) hj
  have h1 := hd_n1 (base := base) (P := P) (N := N) (f := H.F) (na := G.na 0) (x := H.V k) (l := lvS G P)
  have n0 : 0 ≤ (bdB H.F base lb (H.V k 1) (lb + lq) G.V (hdB H.F base P N (G.na 0) (H.V k) (lvS G P)) j).1 := by have := p0.1; rw [bd_0] at this; omega
  have pM : PF8 (bdB H.F base lb (H.V k 1) (lb + lq) G.V (hdB H.F base P N (G.na 0) (H.V k) (lvS G P)) G.n) (mkS H G k base lb lq P N) := by rw [mk_eq]; exact PF8.add.tr PF8.add
  have pj := p1.tr pM
  have q1 := p1.1
  have qM := pM.1
  unfold bpM
  rw [e] at pj q1 ⊢
  by_cases c : G.V j 0 = 7
  · rw [if_pos c] at pj q1 ⊢
    have a2 := pj.at
    have a1 := (PF8.add.tr pj).at
    have s1 : (bA (bdB H.F base lb (H.V k 1) (lb + lq) G.V (hdB H.F base P N (G.na 0) (H.V k) (lvS G P)) j) (uZ (uZ (shO base (G.V j)) 0 0) 1 (H.V k 1))).1 = (bdB H.F base lb (H.V k 1) (lb + lq) G.V (hdB H.F base P N (G.na 0) (H.V k) (lvS G P)) j).1 + 1 := rfl
    have s2 : (bA (bA (bdB H.F base lb (H.V k 1) (lb + lq) G.V (hdB H.F base P N (G.na 0) (H.V k) (lvS G P)) j) (uZ (uZ (shO base (G.V j)) 0 0) 1 (H.V k 1))) (mkI 8 (lb + lq) 0 0 0 0)).1 = (bdB H.F base lb (H.V k 1) (lb + lq) G.V (hdB H.F base P N (G.na 0) (H.V k) (lvS G P)) j).1 + 1 + 1 := rfl
    rw [s1] at a2
    rw [s2] at q1
    refine ⟨⟨by rw [s2]; omega, by rw [s2]; omega⟩, fun z => absurd c z, fun _ => ⟨by rw [s2]; omega, ?_, ?_⟩⟩
    · rw [ml_V n0 (by omega)]; exact a1.2
    · rw [show k + (bdB H.F base lb (H.V k 1) (lb + lq) G.V (hdB H.F base P N (G.na 0) (H.V k) (lvS G P)) j).1 + 1 = k + ((bdB H.F base lb (H.V k 1) (lb + lq) G.V (hdB H.F base P N (G.na 0) (H.V k) (lvS G P)) j).1 + 1) by omega, ml_V (by omega) (by omega)]
      exact a2.2
  · rw [if_neg c] at pj q1 ⊢
    have a1 := pj.at
    have s1 : (bA (bdB H.F base lb (H.V k 1) (lb + lq) G.V (hdB H.F base P N (G.na 0) (H.V k) (lvS G P)) j) (mlI H.F base lb (G.V j))).1 = (bdB H.F base lb (H.V k 1) (lb + lq) G.V (hdB H.F base P N (G.na 0) (H.V k) (lvS G P)) j).1 + 1 := rfl
    rw [s1] at q1
    refine ⟨⟨by rw [s1]; omega, by rw [s1]; omega⟩, fun _ => ⟨by rw [s1]; omega, ?_⟩, fun z => absurd z c⟩
    rw [ml_V n0 (by omega)]; exact a1.2
theorem ml_mo {i j : Int} (hk : 0 ≤ k) (hi : 0 ≤ i) (hn : j ≤ G.n) (h : i < j) : bpM H G k base lb lq P N i < bpM H G k base lb lq P N j := by
  have a := (ml_at (lb := lb) (lq := lq) (base := base) (P := P) (N := N) (H := H) (j0 := 0) (NM := fun _ => 0) hk hi (show i < G.n by omega)).1.1
  have b := (bd_pf (base := base) (lb := lb) (f := H.F) (to := H.V k 1) (out := lb + lq) (V := G.V) (s := hdB H.F base P N (G.na 0) (H.V k) (lvS G P)) (show 0 ≤ i + 1 by omega) (show i + 1 ≤ j by omega)).1
  have c : bpM H G k base lb lq P N (i + 1) ≤ bpM H G k base lb lq P N j := by unfold bpM; omega
  omega
theorem ml8_0 (hk : 0 ≤ k) : k + 1 ≤ bpM H G k base lb lq P N 0 := by
  have := hd_n1 (base := base) (P := P) (N := N) (f := H.F) (na := G.na 0) (x := H.V k) (l := lvS G P)
  unfold bpM
  rw [bd_0]; omega
theorem ml_end (hk : 0 ≤ k) (hn : 0 ≤ G.n) : (mltS H G k base lb lq j0 P N NM).V (bpM H G k base lb lq P N G.n) = mkI 13 (lb + lq) 0 0 0 0 ∧ (mltS H G k base lb lq j0 P N NM).V (bpM H G k base lb lq P N G.n + 1) = mkI 15 H.F 0 0 0 0 ∧ k + 1 ≤ bpM H G k base lb lq P N G.n := by
  have h1 := hd_n1 (base := base) (P := P) (N := N) (f := H.F) (na := G.na 0) (x := H.V k) (l := lvS G P)
  have p0 := (bd_pf (base := base) (lb := lb) (f := H.F) (to := H.V k 1) (out := lb + lq) (V := G.V) (s := hdB H.F base P N (G.na 0) (H.V k) (lvS G P)) (Int.le_refl 0) hn).1
  rw [bd_0] at p0
  have a2 : PF8 (bA (bA (bdB H.F base lb (H.V k 1) (lb + lq) G.V (hdB H.F base P N (G.na 0) (H.V k) (lvS G P)) G.n) (mkI 13 (lb + lq) 0 0 0 0)) (mkI 15 H.F 0 0 0 0)) (mkS H G k base lb lq P N) := by rw [mk_eq]; exact PF8.rf
  have b2 := a2.at
  have b1 := (PF8.add.tr a2).at
  have s1 : (bA (bdB H.F base lb (H.V k 1) (lb + lq) G.V (hdB H.F base P N (G.na 0) (H.V k) (lvS G P)) G.n) (mkI 13 (lb + lq) 0 0 0 0)).1 = (bdB H.F base lb (H.V k 1) (lb + lq) G.V (hdB H.F base P N (G.na 0) (H.V k) (lvS G P)) G.n).1 + 1 := rfl
  rw [s1] at b2
  unfold bpM
  refine ⟨?_, ?_, by omega⟩
  · rw [ml_V (by omega) (by omega)]; exact b1.2
  · rw [show k + (bdB H.F base lb (H.V k 1) (lb + lq) G.V (hdB H.F base P N (G.na 0) (H.V k) (lvS G P)) G.n).1 + 1 = k + ((bdB H.F base lb (H.V k 1) (lb + lq) G.V (hdB H.F base P N (G.na 0) (H.V k) (lvS G P)) G.n).1 + 1) by omega, ml_V (by omega) (by omega)]
    exact b2.2
def LVL8 (V : Int → It) (n : Int) (lv : Int → Int) : Prop := lv 0 = 1 ∧ (∀ j, 0 ≤ j → j < n → V j 0 = 7 → lv j = 1) ∧ ∀ j t, 0 ≤ j → j < n → EDv V n j t → lv t = if V j 0 = 14 then lv j + 1 else if V j 0 = 15 then lv j - 1 else lv j
theorem msh_of (hk : 0 ≤ k ∧ k < H.n) (k10 : H.V k 0 = 10) (hn : 0 ≤ G.n) (hF : 0 < H.F) (hb : mxV (rgV H.V H.n (hmS H NM)) base) (hP : 0 ≤ P ∧ P ≤ 4 ∧ P ≤ N) (hr : RG8 G.V G.n) (hna : ∀ m, 0 ≤ m → m < P → 0 ≤ G.na 0 m) (nc : ∀ j, 0 ≤ j → j < G.n → G.V j 0 ≠ 10) (hl : LVL8 G.V G.n lv) : MSH H G (mltS H G k base lb lq j0 P N NM) k base (mkS H G k base lb lq P N).1 P (bpM H G k base lb lq P N) lv := by
  have eA := mk_A (H := H) (G := G) (k := k) (base := base) (lb := lb) (lq := lq) (P := P) (N := N)
  obtain ⟨en1, en2, en3⟩ := ml_end (H := H) (G := G) (base := base) (lb := lb) (lq := lq) (P := P) (N := N) (j0 := j0) (NM := NM) hk.1 hn
  have n2 : (mltS H G k base lb lq j0 P N NM).n = H.n + (mkS H G k base lb lq P N).1 - 1 := rfl
  have rg := hb.2.1.2
  have rx : ∀ g, rdI (H.V k) g → g < base := fun g a => rg k hk.1 hk.2 g (Or.inr a)
  have hM : ∀ m, 0 ≤ m → m < (mkS H G k base lb lq P N).1 → (mltS H G k base lb lq j0 P N NM).V (k + m) = (mkS H G k base lb lq P N).2 m := fun m a b => ml_V a b
  refine ⟨⟨hk, k10, hn, n2, by omega⟩, ⟨fun i a => ?_, fun i a => ?_⟩, ⟨?_, fun d R => ?_⟩, ⟨fun j jz jn a => ?_, fun j jz jn a l b => ?_, fun j jz jn a => ?_, fun j jz jn => ?_⟩, ⟨⟨by rw [en1]; rfl, by rw [en2]; rfl⟩, by omega, by omega, by rw [n2]; omega⟩, ⟨fun g _ => ?_, nc⟩, hl, rg, fun i i0 i1 g a => ?_, fun i i0 i1 a => (hr.1 i i0 i1 (Or.inl a)).1⟩
  · show spV H.V k _ _ i = H.V i
    unfold spV; rw [if_pos a]
  · show spV H.V k _ _ (i + (mkS H G k base lb lq P N).1 - 1) = H.V i
    unfold spV
    rw [if_neg (by omega), if_neg (by omega), show i + (mkS H G k base lb lq P N).1 - 1 - (mkS H G k base lb lq P N).1 + 1 = i by omega]
  · -- ENTER
    have pf : PF8 (bA (0, fun _ => zI) (mkI 14 H.F 0 0 0 0)) (mkS H G k base lb lq P N) := by
      have a := pf_1 (f := H.F) (base := base) (P := P) (na := G.na 0) (x := H.V k) (s := bA (0, fun _ => zI) (mkI 14 H.F 0 0 0 0)) (t := 0) N.toNat
      have b := pf_2 (base := base) (lv := lvS G P) (s := mb1 H.F base P (G.na 0) (H.V k) (bA (0, fun _ => zI) (mkI 14 H.F 0 0 0 0)) N.toNat) (t := 0) 192
      rw [Nat.zero_add] at a b
      have c := bd_pf (base := base) (lb := lb) (f := H.F) (to := H.V k 1) (out := lb + lq) (V := G.V) (s := hdB H.F base P N (G.na 0) (H.V k) (lvS G P)) (Int.le_refl 0) hn
      have d : PF8 (bdB H.F base lb (H.V k 1) (lb + lq) G.V (hdB H.F base P N (G.na 0) (H.V k) (lvS G P)) G.n) (mkS H G k base lb lq P N) := by rw [mk_eq]; exact PF8.add.tr PF8.add
      exact PF8.tr (PF8.tr a (PF8.tr b c)) d
    have e := hM 0 (Int.le_refl 0) (by omega)
    have f := pf.at.2
    rw [Int.add_zero] at e
    rw [e]
    have f2 : (mkS H G k base lb lq P N).2 0 = mkI 14 H.F 0 0 0 0 := f
    rw [f2]; rfl
  · -- the header
    have c := bd_pf (base := base) (lb := lb) (f := H.F) (to := H.V k 1) (out := lb + lq) (V := G.V) (s := hdB H.F base P N (G.na 0) (H.V k) (lvS G P)) (Int.le_refl 0) hn
    have dd : PF8 (bdB H.F base lb (H.V k 1) (lb + lq) G.V (hdB H.F base P N (G.na 0) (H.V k) (lvS G P)) G.n) (mkS H G k base lb lq P N) := by rw [mk_eq]; exact PF8.add.tr PF8.add
    have pf : PF8 (hdB H.F base P N (G.na 0) (H.V k) (lvS G P)) (mkS H G k base lb lq P N) := PF8.tr c dd
    exact hd_all (G := G) (R := R) (d := d) hM (by rw [n2]; omega) hk.1 ⟨hP.1, hP.2.1⟩ hP.2.2 rx hna (fun g => Iff.rfl) (fun g a => (lv_rg hr a).2) pf
  · obtain ⟨-, z, -⟩ := ml_at (lb := lb) (lq := lq) (base := base) (P := P) (N := N) (H := H) (j0 := j0) (NM := NM) hk.1 jz jn
    obtain ⟨z1, z2⟩ := z a
    rw [z2]
    exact ⟨z1, (ml_bi a (nc j jz jn)).1⟩
  · have zj := (ml_at (lb := lb) (lq := lq) (base := base) (P := P) (N := N) (H := H) (j0 := j0) (NM := NM) hk.1 jz jn).2.1 (by omega)
    have zl := (ml_at (lb := lb) (lq := lq) (base := base) (P := P) (N := N) (H := H) (j0 := j0) (NM := NM) hk.1 b.1 b.2.1).2.1 (by have := b.2.2.1; omega)
    rw [zj.2, zl.2, (ml_bi (lb := lb) (base := base) (f := H.F) (by omega) (nc j jz jn)).2 (by omega), (ml_bi (lb := lb) (base := base) (f := H.F) (by have := b.2.2.1; omega) (nc l b.1 b.2.1)).2 (Or.inr (Or.inr b.2.2.1)), b.2.2.2]
  · obtain ⟨z1, z2, z3⟩ := (ml_at (lb := lb) (lq := lq) (base := base) (P := P) (N := N) (H := H) (j0 := j0) (NM := NM) hk.1 jz jn).2.2 a
    rw [z2, z3, en1]
    refine ⟨⟨by rw [uZ_ne (by decide), uZ_eq], uZ_eq, by rw [uZ_ne (by decide), uZ_ne (by decide)]; exact so_3 (m := 0), ?_⟩, rfl, rfl⟩
    rw [uZ_ne (by decide), uZ_ne (by decide)]
    exact so_4 (m := 0) (by decide) (by decide)
  · have a := ml8_0 (H := H) (G := G) (base := base) (lb := lb) (lq := lq) (P := P) (N := N) hk.1
    have b := ml_mo (H := H) (G := G) (base := base) (lb := lb) (lq := lq) (P := P) (N := N) (k := k) hk.1 jz (Int.le_refl G.n) jn
    rw [n2]
    refine ⟨?_, by omega⟩
    by_cases z : j = 0
    · rw [z]; omega
    · have c := ml_mo (H := H) (G := G) (base := base) (lb := lb) (lq := lq) (P := P) (N := N) (k := k) (i := 0) (j := j) hk.1 (Int.le_refl 0) (by omega) (by omega)
      omega
  · show (if (0 : Int) < H.F then H.na 0 g else _) = H.na 0 g
    rw [if_pos hF]
  · obtain ⟨m, m0, m4, e3, e4⟩ := a
    rw [← e4]; exact (hr.2 i i0 i1 m m0 m4 e3).1
end MSO
end
