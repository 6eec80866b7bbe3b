section
def RWT (W : Int → It) (n P N F wd : Int) (Rh Rn : Int → Int) : Prop := ((WOK W n ∧ LNK W n ∧ UNQ (vW W) n) ∧ WHO (vW W) n ∧ PMD Rh P ∧ (0 ≤ P ∧ P ≤ 4 ∧ P ≤ N) ∧ 0 ≤ n ∧ n ≤ 200) ∧ ((∀ q, 0 ≤ q → q < F → 0 ≤ Rn q ∧ Rn q ≤ 12) ∧ (1 ≤ F ∧ F ≤ 12) ∧ N = Rn 0 ∧ wd = slF Rn F) ∧ (∀ k, 0 ≤ k → k < n → W k 0 = 12 → (0 ≤ W k 2 ∧ W k 2 < F) ∧ 0 ≤ W k 1 ∧ W k 1 < Rn (W k 2)) ∧ ∀ k, 0 ≤ k → k < n → W k 0 = 15 → 0 ≤ W k 1 ∧ W k 1 < F
section NBR
variable {W : Int → It} {n P N F wd k j f id r : Int} {Rh Rn B : Int → Int} {i : It}
theorem slF_ub (hn : ∀ q, 0 ≤ q → q < F → 0 ≤ Rn q ∧ Rn q ≤ 12) : ∀ t : Nat, (t : Int) ≤ F → slF Rn t ≤ 1 + 12 * t := by
  intro t
  induction t with
  | zero => intro _; exact Int.le_refl _
  | succ t ih =>
    intro h
    have a := ih (by omega)
    have b := slF_s (Hn := Rn) (f := (t : Int)) (by omega)
    have c := hn t (by omega) (by omega)
    rw [show ((t + 1 : Nat) : Int) = (t : Int) + 1 by omega]
    omega
theorem RWT.hn (x : RWT W n P N F wd Rh Rn) : ∀ q, 0 ≤ q → q < F → 0 ≤ Rn q := fun q a b => (x.2.1.1 q a b).1
theorem RWT.wdr (x : RWT W n P N F wd Rh Rn) : 1 ≤ wd ∧ wd ≤ 145 := by
  have f := x.2.1.2.1
  have e := x.2.1.2.2.2
  have p := slF_pos (f := F) x.hn (by omega) (by omega)
  have u := slF_ub x.2.1.1 F.toNat (by omega)
  rw [show ((F.toNat : Nat) : Int) = F by omega] at u
  omega
theorem RWT.bd (x : RWT W n P N F wd Rh Rn) (k0 : 0 ≤ k) (k1 : k < n) (h : W k 0 = 12) : (0 ≤ W k 2 ∧ W k 2 < 12) ∧ (0 ≤ W k 1 ∧ W k 1 < 12) ∧ slF Rn (W k 2) + W k 1 < wd := by
  have f := x.2.1.2.1
  have q := x.2.2.1 k k0 k1 h
  have u := (x.2.1.1 _ q.1.1 q.1.2).2
  have l := slF_lt (g := F) x.hn q.1.1 q.1.2 (by omega)
  have e := x.2.1.2.2.2
  omega
theorem RWT.lv (x : RWT W n P N F wd Rh Rn) (k0 : 0 ≤ k) (k1 : k < n) (h : W k 0 = 15) : (0 ≤ W k 1 ∧ W k 1 < 12) ∧ 0 ≤ Rn (W k 1) ∧ slF Rn (W k 1) + Rn (W k 1) ≤ wd := by
  have f := x.2.1.2.1
  have q := x.2.2.2 k k0 k1 h
  have u := (x.2.1.1 _ q.1 q.2).1
  have l := slF_lt (g := F) x.hn q.1 q.2 (by omega)
  have e := x.2.1.2.2.2
  omega
theorem vW_11 : vW W k 11 = W k 11 := vW_ne (by decide) (by decide)
theorem vW_2 : vW W k 2 = W k 2 := vW_ne (by decide) (by decide)
theorem vW_4 : vW W k 4 = W k 4 := vW_ne (by decide) (by decide)
theorem vW_5 : vW W k 5 = W k 5 := vW_ne (by decide) (by decide)
theorem vW_6 : vW W k 6 = W k 6 := vW_ne (by decide) (by decide)
theorem nrm_3x (h : ¬ (i 11 = 1 ∨ i 11 = 2)) : nrm i 3 = i 3 := by
  unfold nrm
  rw [if_neg (fun q => h q.2.2), if_neg (by decide)]
theorem smW_d (hb : W k 0 = 12) (h : smW W f k) : whD (vW W f) = whD (vW W k) := by
  obtain ⟨h0, h11, h3, h4, h5, h6⟩ := h
  have e3 : vW W f 3 = vW W k 3 := by
    show nrm (W f) 3 = nrm (W k) 3
    unfold nrm
    rw [h0, hb, h11, h3]
  unfold whD
  rw [e3, vW_11, vW_11, vW_4, vW_4, vW_5, vW_5, vW_6, vW_6, h11, h4, h5, h6]
theorem d_smW (x : RWT W n P N F wd Rh Rn) (j0 : 0 ≤ j) (j1 : j < n) (k0 : 0 ≤ k) (k1 : k < n) (hj : W j 0 = 12) (hb : W k 0 = 12) (hg : ¬ 10 ≤ W k 11) (e : whD (vW W j) = whD (vW W k)) : smW W j k := by
  have e11 : W j 11 = W k 11 := by
    have q := whD_fst.symm.trans ((congrArg Prod.fst e).trans whD_fst)
    rw [vW_11, vW_11] at q
    exact q
  have wj := (x.1.1.1 j j0 j1).2.2.2.2 hj
  have wk := (x.1.1.1 k k0 k1).2.2.2.2 hb
  have wh := (x.1.2.1 k k0 k1 (by rw [vW_0]; exact hb)).1
  rw [vW_11] at wh
  by_cases s : W k 11 ≤ 2
  · have a := wj (by omega)
    have b := wk (by omega)
    rw [whD_s (by rw [vW_11]; omega), whD_s (by rw [vW_11]; omega)] at e
    have e4 : vW W j 4 = vW W k 4 := congrArg (fun d : DT => d.2.2.1) e
    rw [vW_4, vW_4] at e4
    exact ⟨hj, e11, by omega, e4, by omega, by omega⟩
  · rw [whD_m (by rw [vW_11]; omega) (by rw [vW_11]; omega), whD_m (by rw [vW_11]; omega) (by rw [vW_11]; omega)] at e
    have e3 : nrm (W j) 3 = nrm (W k) 3 := congrArg (fun d : DT => d.2.1) e
    have e4 : vW W j 4 = vW W k 4 := congrArg (fun d : DT => d.2.2.1) e
    have e5 : vW W j 5 = vW W k 5 := congrArg (fun d : DT => d.2.2.2.1) e
    have e6 : vW W j 6 = vW W k 6 := congrArg (fun d : DT => d.2.2.2.2) e
    rw [nrm_3x (by omega), nrm_3x (by omega)] at e3
    rw [vW_4, vW_4] at e4
    rw [vW_5, vW_5] at e5
    rw [vW_6, vW_6] at e6
    exact ⟨hj, e11, e3, e4, e5, e6⟩
theorem NBW.nbi (x : RWT W n P N F wd Rh Rn) (k0 : 0 ≤ k) (k1 : k < n) (hb : W k 0 = 12) (h : NBW W Rh P k id) : NBI (vW W) n P Rh k id := by
  have hw := x.1.2.1
  have hb2 : vW W k 0 = 12 := by rw [vW_0]; exact hb
  have hP := x.1.2.2.2.1.2.1
  rcases h with ⟨a, e⟩ | ⟨a, ⟨b, c, e⟩ | ⟨b, ⟨c, q, q1, q2, e⟩ | ⟨c, f, f1, f2, e, g⟩⟩⟩
  · have z := NBI.gone (P := P) (H := Rh) hw k0 k1 hb2 (by rw [vW_11]; exact a)
    rw [vW_11] at z
    rw [e]; exact z
  · rw [e]; exact NBI.zero hw k0 k1 hb2 (by rw [vW_11]; exact b) (by rw [vW_4]; exact c)
  · rw [e]; exact NBI.par hw k0 k1 hb2 (by rw [vW_11]; exact c) q1.1 q1.2 hP (by rw [vW_4]; exact q2)
  · rw [e]
    refine NBI.first hw f1.1 f1.2 k1 hb2 ?_ (by rw [vW_11]; exact a) (fun z => ?_) (fun z q q0 q1 => ?_) ?_ (fun j j0 j1 hj z => ?_)
    · rcases f2 with f2 | f2
      · rw [f2]; exact hb2
      · rw [vW_0]; exact f2.1
    · rw [vW_11, vW_4] at z
      exact b z
    · rw [vW_11] at z
      rw [vW_4]
      exact c z q q0 q1
    · rcases f2 with f2 | f2
      · rw [f2]
      · exact smW_d hb f2
    · rw [vW_0] at hj
      exact g j j0 j1 (d_smW x j0 (by omega) k0 k1 hj hb a z)
theorem RWT.tfx (x : RWT W n P N F wd Rh Rn) (nb : ∀ k, 0 ≤ k → k < n → W k 0 = 12 → NBW W Rh P k (B k)) : TFX (vW W) n P Rh Rn F wd B := by
  refine ⟨⟨x.1.2.1, x.1.2.2.1, x.1.2.2.2.1.2.1, x.1.2.2.2.2.1⟩, ⟨x.hn, x.2.1.2.2.2⟩, fun k k0 k1 h => ?_, fun k k0 k1 h => ?_⟩
  · rw [vW_0] at h
    rw [vW_2, vW_1]
    exact ⟨(nb k k0 k1 h).nbi x k0 k1 h, x.2.2.1 k k0 k1 h⟩
  · rw [vW_0] at h
    rw [vW_1]
    exact x.2.2.2 k k0 k1 h
theorem lnJ_iff (x : RWT W n P N F wd Rh Rn) (a : VID (vW W) n P Rh id) : lnJ W n Rh id r ↔ lnI (vW W) Rh id r := by
  have hP := x.1.2.2.2.1
  unfold lnJ lnI
  rcases a with a | a | ⟨a, c⟩
  · exact ⟨fun q => absurd q.1 (fun z => by omega), fun q => by omega⟩
  · exact ⟨fun q => Or.inl ⟨by omega, q.2.elim (fun z => z.2) (fun z => by omega)⟩, fun q => ⟨by omega, Or.inl ⟨by omega, q.elim (fun z => z.2) (fun z => by omega)⟩⟩⟩
  · have b0 : W (id - 10) 0 = 12 := by rw [← vW_0 (W := W)]; exact c.1
    have b7 := c.2.1
    have wh := (x.1.2.1 (id - 10) (by omega) (by omega) c.1).1
    have wk := (x.1.1.1 (id - 10) (by omega) (by omega)).2.2.2.2 b0
    rw [vW_11] at b7 wh
    rw [vW_11, vW_4, vW_5, vW_6]
    unfold lnW
    have e3 : vW W (id - 10) 3 = if W (id - 10) 11 = 1 ∨ W (id - 10) 11 = 2 then W (id - 10) 11 else W (id - 10) 3 := by
      by_cases s : W (id - 10) 11 = 1 ∨ W (id - 10) 11 = 2
      · rw [if_pos s]; exact nrm_b b0 s
      · rw [if_neg s]; exact nrm_3x s
    rw [e3]
    constructor
    · rintro ⟨-, q | ⟨-, q1, -, q⟩⟩
      · omega
      · refine Or.inr ⟨a.1, ?_⟩
        rcases q with q | ⟨q2, q⟩
        · exact Or.inl q
        · by_cases s : W (id - 10) 11 = 1 ∨ W (id - 10) 11 = 2
          · have z := wk s
            omega
          · rw [if_neg s]
            exact Or.inr ⟨q2, q.imp (fun z => z) (fun z => ⟨by omega, z.1, z.2⟩)⟩
    · rintro (q | ⟨q1, q⟩)
      · omega
      · refine ⟨by omega, Or.inr ⟨by omega, by omega, b0, ?_⟩⟩
        rcases q with q | ⟨q2, q⟩
        · exact Or.inl q
        · refine Or.inr ⟨q2, ?_⟩
          rcases q with q | q
          · by_cases s : W (id - 10) 11 = 1 ∨ W (id - 10) 11 = 2
            · rw [if_pos s] at q; omega
            · rw [if_neg s] at q; exact Or.inl q
          · exact Or.inr ⟨q.2.1, q.2.2⟩
end NBR
def tbR (wd : Int) (R : Int → Int) : TBL := fun k i => R (k * wd + i)
section TBR
variable {W : Int → It} {n P N F wd k j t i c0 c1 ch r : Int} {Rh Rn B R R0 R1 R2 S S3 : Int → Int} {Mn : Nat}
theorem row_in (i0 : 0 ≤ i) (i1 : i < wd) : (t * wd ≤ j * wd + i ∧ j * wd + i < t * wd + wd) ↔ j = t := by
  constructor
  · intro h
    by_cases a : j < t
    · have q : (j + 1) * wd ≤ t * wd := Int.mul_le_mul_of_nonneg_right (by omega) (by omega)
      rw [Int.add_mul, Int.one_mul] at q
      omega
    · by_cases b : t < j
      · have q : (t + 1) * wd ≤ j * wd := Int.mul_le_mul_of_nonneg_right (by omega) (by omega)
        rw [Int.add_mul, Int.one_mul] at q
        omega
      · omega
  · intro h
    rw [h]
    omega
theorem row_rg (hM : (Mn : Int) = (n + 1) * wd) (hw : 0 ≤ wd) (q0 : 0 ≤ j) (q1 : j ≤ n) : 0 ≤ j * wd ∧ j * wd + wd ≤ (Mn : Int) := by
  have a : 0 ≤ j * wd := Int.mul_nonneg q0 hw
  have b : (j + 1) * wd ≤ (n + 1) * wd := Int.mul_le_mul_of_nonneg_right (by omega) hw
  rw [Int.add_mul, Int.one_mul] at b
  omega
theorem CM2.e {b : Int} (h : CM2 R0 R S b wd c0 ch) (hb : b = t * wd) (i0 : 0 ≤ i) (i1 : i < wd) : tbR wd R j i = if j = t then cjI (tbR wd R0 j i) (S i) else tbR wd R0 j i := by
  have q := h.1 (j * wd + i)
  show R (j * wd + i) = _
  rw [q, hb]
  by_cases z : j = t
  · rw [if_pos ((row_in i0 i1).mpr z), if_pos z, z, show t * wd + i - t * wd = i by omega]; rfl
  · rw [if_neg (fun y => z ((row_in i0 i1).mp y)), if_neg z]; rfl
theorem CM2.rk {b : Int} (h : CM2 R0 R S b wd c0 ch) (hs : ∀ i, 0 ≤ i → i < wd → S i ≠ 0) (hb : 0 ≤ b ∧ b + wd ≤ (Mn : Int)) : rkN R Mn ≤ rkN R0 Mn ∧ (ch = c0 ∨ rkN R Mn < rkN R0 Mn) := by
  have m : ∀ z, 0 ≤ z → z < (Mn : Int) → rkI (R z) ≤ rkI (R0 z) := fun z z0 z1 => by
    rw [h.1 z]
    by_cases y : b ≤ z ∧ z < b + wd
    · rw [if_pos y]; exact (rk_cj (hs _ (by omega) (by omega))).1
    · rw [if_neg y]; exact Nat.le_refl _
  refine ⟨rkN_mono m, ?_⟩
  rcases h.2.2.2 with e | ⟨z, q, ne⟩
  · exact Or.inl e
  · refine Or.inr (rkN_lt m (y := z) (by omega) (by omega) ?_)
    have e := h.1 z
    rw [if_pos q] at e
    rw [e] at ne ⊢
    exact (rk_cj (hs _ (by omega) (by omega))).2 ne
theorem CMT.rk (h : CMT n wd t R0 R S c0 ch) (hs : ∀ i, 0 ≤ i → i < wd → S i ≠ 0) (hM : (Mn : Int) = (n + 1) * wd) (hw : 0 ≤ wd) : rkN R Mn ≤ rkN R0 Mn ∧ (ch = c0 ∨ rkN R Mn < rkN R0 Mn) := by
  rcases h with ⟨-, e, e2⟩ | ⟨q, h⟩
  · rw [e]; exact ⟨Nat.le_refl _, Or.inl e2⟩
  · exact h.rk hs (row_rg hM hw q.1 q.2)
theorem CMT.chg (h : CMT n wd t R0 R S c0 ch) : (R = R0 ∧ ch = c0) ∨ ch = 1 := by
  rcases h with ⟨-, e, e2⟩ | ⟨-, h⟩
  · exact Or.inl ⟨e, e2⟩
  · rcases h.2.1 with q | q
    · exact Or.inr q
    · exact Or.inl ⟨q.2, q.1⟩
theorem GTX.tst (x : RWT W n P N F wd Rh Rn) (k0 : 0 ≤ k) (k1 : k < n) (hv : ∀ z, 0 ≤ z → z < wd → VID (vW W) n P Rh (R (k * wd + z))) {S1 S2 : Int → Int} (wb : WBQ W n k r) (g1 : GT1 W n Rh (fun z => R (k * wd + z)) r wd S1) (g2 : (W k 0 = 12 ∧ S2 = uZ S1 (slF Rn (W k 2) + W k 1) (B k)) ∨ (W k 0 ≠ 12 ∧ S2 = S1)) (g3 : (W k 0 = 15 ∧ GT2 S2 S3 (slF Rn (W k 1)) (Rn (W k 1))) ∨ (W k 0 ≠ 15 ∧ S3 = S2)) : TST (vW W) Rh Rn wd B k (tbR wd R) S3 := fun z z0 z1 => by
  have q := g1 z z0 z1
  show trI _ _ _ _ _ z (R (k * wd + z)) (S3 z)
  unfold trI
  rw [vW_0, vW_1, vW_2]
  by_cases b : W k 0 = 12
  · have er : r = -1 := by
      rcases wb with w | w
      · have := w.2.1; omega
      · exact w.2
    have e1 : S1 z = R (k * wd + z) := q.elim (fun y => absurd er y.1.1) (fun y => y.2)
    have e2 := (g2.resolve_right (fun y => y.1 b)).2
    have e3 := (g3.resolve_left (fun y => by have := y.1; omega)).2
    refine Or.inl ⟨b, ?_⟩
    rw [e3, e2]
    by_cases c : z = slF Rn (W k 2) + W k 1
    · exact Or.inl ⟨c, by rw [c, uZ_eq]⟩
    · exact Or.inr ⟨c, by rw [uZ_ne c]; exact e1⟩
  · have e2 := (g2.resolve_left (fun y => b y.1)).2
    by_cases l : W k 0 = 15
    · have er : r = -1 := by
        rcases wb with w | w
        · have := w.2.1; omega
        · exact w.2
      have e1 : S1 z = R (k * wd + z) := q.elim (fun y => absurd er y.1.1) (fun y => y.2)
      have e3 := (g3.resolve_right (fun y => y.1 l)).2 z
      refine Or.inr (Or.inl ⟨l, ?_⟩)
      by_cases c : slF Rn (W k 1) ≤ z ∧ z < slF Rn (W k 1) + Rn (W k 1)
      · exact Or.inl ⟨c, by rw [e3, if_pos c]⟩
      · exact Or.inr ⟨c, by rw [e3, if_neg c, e2]; exact e1⟩
    · have e3 := (g3.resolve_left (fun y => l y.1)).2
      refine Or.inr (Or.inr ⟨⟨b, l⟩, ?_⟩)
      rw [e3, e2]
      have iff := lnJ_iff (r := r) x (hv z z0 z1)
      rcases wb with w | w
      · have w1 := (x.1.1.1 k k0 k1).2.1 (by have := w.2.1; omega)
        have er := w.2.2
        rw [er] at iff
        rcases q with ⟨q1, q2⟩ | ⟨q1, q2⟩
        · rw [er] at q1
          exact Or.inl ⟨⟨by have := w.2.1; omega, iff.mp q1.2⟩, q2⟩
        · rw [er] at q1
          exact Or.inr ⟨fun y => q1 ⟨by omega, iff.mpr y.2⟩, q2⟩
      · have k9 := (x.1.1.1 k k0 k1).1
        rcases q with ⟨q1, q2⟩ | ⟨q1, q2⟩
        · exact absurd w.2 q1.1
        · exact Or.inr ⟨fun y => w.1 ⟨⟨k0, k1⟩, by have := y.1; omega⟩, q2⟩
theorem TST.cg {V : Int → It} {H Hn b st : Int → Int} {tb tb2 : TBL} (s : TST V H Hn wd b k tb st) (e : ∀ i, 0 ≤ i → i < wd → tb2 k i = tb k i) : TST V H Hn wd b k tb2 st := fun i a c => by
  rw [e i a c]; exact s i a c
theorem GTX.step (x : RWT W n P N F wd Rh Rn) (nb : ∀ k, 0 ≤ k → k < n → W k 0 = 12 → NBW W Rh P k (B k)) (g : GTX W n wd Rh Rn B k R R2 c0 ch) (h : TBK (vW W) n P N Rh Rn F wd (tbR wd R)) (k0 : 0 ≤ k) (k1 : k < n) (hM : (Mn : Int) = (n + 1) * wd) : TBK (vW W) n P N Rh Rn F wd (tbR wd R2) ∧ (rkN R2 Mn ≤ rkN R Mn ∧ (ch = c0 ∨ rkN R2 Mn < rkN R Mn)) ∧ ((R2 = R ∧ ch = c0) ∨ ch = 1) ∧ (R2 = R → tbR wd R k 0 ≠ 0 → ∃ st, TST (vW W) Rh Rn wd B k (tbR wd R) st ∧ TCE (vW W) Rh n wd k (tbR wd R) st) := by
  have xf := x.tfx nb
  have xw := x.wdr
  rcases g with ⟨g0, g1, g2⟩ | ⟨g0, r, S1, S2, S3, R1, c1, f, t, wb, g1, g2, g3, fl, tg, cf, ct⟩
  · refine ⟨by rw [g1]; exact h, by rw [g1]; exact ⟨Nat.le_refl _, Or.inl g2⟩, Or.inl ⟨g1, g2⟩, fun _ q => absurd ?_ q⟩
    show R (k * wd + 0) = 0
    rw [Int.add_zero]; exact g0
  · have hr : tbR wd R k 0 ≠ 0 := by
      show R (k * wd + 0) ≠ 0
      rw [Int.add_zero]; exact g0
    have hv : ∀ z, 0 ≤ z → z < wd → VID (vW W) n P Rh (R (k * wd + z)) := fun z z0 z1 => by
      have q := h.1 k z k0 (by omega) z0 z1
      exact q.1.elim (fun y => absurd (q.2.mp y) hr) (fun y => y)
    have s := GTX.tst x k0 k1 hv wb g1 g2 g3
    have sv : ∀ i, 0 ≤ i → i < wd → VID (vW W) n P Rh (S3 i) := fun i a b => s.vid xf h k0 k1 hr a b
    have sz : ∀ i, 0 ≤ i → i < wd → S3 i ≠ 0 := fun i a b => (sv i a b).ne
    have ed := fun t' => ed_c (t := t') x.1.1.2.1 x.1.1.2.2 ⟨k0, k1⟩ fl tg
    have sd : ∀ t', EDv (vW W) n k t' → ∀ f m, 0 ≤ f → f < F → 0 ≤ m → m < Rn f → ∀ ψ, ClD (vW W) n (bgD P N Rh f m) f m ψ → leD (some (decD (vW W) Rh (S3 (slF Rn f + m)))) (ψ t') := fun t' e f m f0 f1 m0 m1 ψ c => s.snd h xf k0 k1 hr e f0 f1 m0 m1 c
    -- the way that falls on
    have A : TBK (vW W) n P N Rh Rn F wd (tbR wd R1) ∧ (∀ i, 0 ≤ i → i < wd → tbR wd R1 k i = tbR wd R k i) ∧ (rkN R1 Mn ≤ rkN R Mn ∧ (c1 = c0 ∨ rkN R1 Mn < rkN R Mn)) ∧ ((R1 = R ∧ c1 = c0) ∨ c1 = 1) ∧ (f = 1 → ∀ i, 0 ≤ i → i < wd → leD (some (decD (vW W) Rh (S3 i))) (stC (vW W) Rh (tbR wd R1 (k + 1) i))) := by
      rcases cf with ⟨f1, cf⟩ | ⟨f0, e1, e2⟩
      · have rk := cf.rk sz hM (by omega)
        have cc := cf.chg
        rcases cf with ⟨q, -⟩ | ⟨q, cm⟩
        · exact absurd (by omega : 0 ≤ k + 1 ∧ k + 1 ≤ n) q
        · have e : ∀ j i, 0 ≤ i → i < wd → tbR wd R1 j i = if j = k + 1 then cjI (tbR wd R j i) (S3 i) else tbR wd R j i := fun j i a b => cm.e (t := k + 1) rfl a b
          refine ⟨h.come xf s k0 k1 hr sv (sd _ ((ed _).mpr (Or.inl ⟨f1, rfl⟩))) q.1 q.2 (fun j i _ _ a b => e j i a b) (by omega), fun i a b => by rw [e k i a b, if_neg (by omega)], rk, cc, fun _ i a b => ?_⟩
          rw [e _ i a b, if_pos rfl]
          exact cj_is (sv i a b)
      · rw [e1, e2]
        exact ⟨h, fun _ _ _ => rfl, ⟨Nat.le_refl _, Or.inl rfl⟩, Or.inl ⟨rfl, rfl⟩, fun q => by omega⟩
    obtain ⟨h1, ek, rk1, cc1, on1⟩ := A
    have s1 := s.cg ek
    have hr1 : tbR wd R1 k 0 ≠ 0 := by rw [ek 0 (by omega) (by omega)]; exact hr
    -- the way to a label
    have Bq : TBK (vW W) n P N Rh Rn F wd (tbR wd R2) ∧ (∀ j i, 0 ≤ i → i < wd → leD (stC (vW W) Rh (tbR wd R1 j i)) (stC (vW W) Rh (tbR wd R2 j i))) ∧ (0 ≤ t → t ≤ n → ∀ i, 0 ≤ i → i < wd → leD (some (decD (vW W) Rh (S3 i))) (stC (vW W) Rh (tbR wd R2 t i))) := by
      rcases ct with ⟨q, e1, e2⟩ | ⟨q, cm⟩
      · rw [e1]
        exact ⟨h1, fun _ _ _ _ => leD.rfl, fun a b => absurd ⟨a, b⟩ q⟩
      · have e : ∀ j i, 0 ≤ i → i < wd → tbR wd R2 j i = if j = t then cjI (tbR wd R1 j i) (S3 i) else tbR wd R1 j i := fun j i a b => cm.e (t := t) rfl a b
        refine ⟨h1.come xf s1 k0 k1 hr1 sv (sd _ ((ed _).mpr (Or.inr ⟨q.1, rfl⟩))) q.1 q.2 (fun j i _ _ a b => e j i a b) (by omega), fun j i a b => ?_, fun _ _ i a b => ?_⟩
        · rw [e j i a b]
          by_cases z : j = t
          · rw [if_pos z]; exact cj_was (sv i a b)
          · rw [if_neg z]; exact leD.rfl
        · rw [e t i a b, if_pos rfl]
          exact cj_is (sv i a b)
    have rk2 := ct.rk sz hM (by omega)
    have cc2 := ct.chg
    refine ⟨Bq.1, ⟨Nat.le_trans rk2.1 rk1.1, ?_⟩, ?_, fun e _ => ⟨S3, s, fun t' w i a b => ?_⟩⟩
    · rcases rk2.2 with y | y
      · rcases rk1.2 with z | z
        · exact Or.inl (y.trans z)
        · exact Or.inr (Nat.lt_of_le_of_lt rk2.1 z)
      · exact Or.inr (Nat.lt_of_lt_of_le y rk1.1)
    · rcases cc2 with ⟨y, z⟩ | y
      · rcases cc1 with ⟨u, w⟩ | u
        · exact Or.inl ⟨y.trans u, z.trans w⟩
        · exact Or.inr (z.trans u)
      · exact Or.inr y
    · rw [← e]
      rcases (ed t').mp w with ⟨f1, q⟩ | ⟨t0, q⟩
      · rw [q]
        exact (on1 f1 i a b).trans (Bq.2.1 _ i a b)
      · have tn := (w.in k0 k1).2
        rw [q] at tn ⊢
        exact Bq.2.2 t0 tn i a b
theorem BGX.tbk (x : RWT W n P N F wd Rh Rn) (g : BGX N P wd R0 R) (hz : ∀ z, 0 ≤ z → z < (n + 1) * wd → R0 z = 0) : TBK (vW W) n P N Rh Rn F wd (tbR wd R) := by
  obtain ⟨R1, g2, g3⟩ := g
  have xw := x.wdr
  have xP := x.1.2.2.2.1
  have xF := x.2.1.2.1
  have xN := x.2.1.2.2.1
  have e0 : ∀ i, 0 ≤ i → i < wd → tbR wd R 0 i = if 1 ≤ i ∧ i < 1 + N then (if i - 1 < P then 6 + (i - 1) else 5) else 1 := fun i a b => by
    show R (0 * wd + i) = _
    rw [Int.zero_mul, Int.zero_add, g3 i]
    by_cases q : 1 ≤ i ∧ i < 1 + N
    · rw [if_pos q, if_pos q]
    · rw [if_neg q, if_neg q, g2 i, if_pos ⟨a, b⟩]
  have ek : ∀ k i, 1 ≤ k → k ≤ n → 0 ≤ i → i < wd → tbR wd R k i = 0 := fun k i a b c d => by
    have m : (1 : Int) * wd ≤ k * wd := Int.mul_le_mul_of_nonneg_right (by omega) (by omega)
    have rg := row_rg (Mn := ((n + 1) * wd).toNat) (n := n) (wd := wd) (j := k) (by have z : 0 ≤ (n + 1) * wd := Int.mul_nonneg (by omega) (by omega); omega) (by omega) (by omega) b
    have s0 := slF_lt (Hn := Rn) (f := 0) (g := F) x.hn (by decide) (by omega) (by omega)
    rw [slF_0, ← xN, ← x.2.1.2.2.2] at s0
    rw [Int.one_mul] at m
    show R (k * wd + i) = 0
    rw [g3, if_neg (by omega), g2, if_neg (by omega)]
    exact hz _ (by omega) (by omega)
  have v0 : ∀ i, 0 ≤ i → i < wd → VID (vW W) n P Rh (tbR wd R 0 i) := fun i a b => by
    rw [e0 i a b]
    by_cases q : 1 ≤ i ∧ i < 1 + N
    · rw [if_pos q]
      by_cases p : i - 1 < P
      · rw [if_pos p]; exact Or.inr (Or.inl (by omega))
      · rw [if_neg p]; exact Or.inl (by decide)
    · rw [if_neg q]; exact Or.inl (by decide)
  have d0 : ∀ f m, 0 ≤ f → f < F → 0 ≤ m → m < Rn f → stC (vW W) Rh (tbR wd R 0 (slF Rn f + m)) = some (bgD P N Rh f m) := fun f m f0 f1 m0 m1 => by
    have p1 := slF_pos (f := f) x.hn f0 (by omega)
    have p2 := slF_lt (g := F) x.hn f0 f1 (by omega)
    have p3 := x.2.1.2.2.2
    have sl : 0 ≤ slF Rn f + m ∧ slF Rn f + m < wd := by omega
    rw [stC_n (v0 _ sl.1 sl.2).ne, e0 _ sl.1 sl.2]
    congr 1
    unfold bgD
    by_cases z : f = 0
    · rw [z, slF_0]
      rw [z, ← xN] at m1
      rw [if_pos (show 1 ≤ 1 + m ∧ 1 + m < 1 + N by omega), if_pos (show (0 : Int) = 0 ∧ m < N from ⟨rfl, m1⟩)]
      by_cases p : m < P
      · rw [if_pos (show 1 + m - 1 < P by omega), if_pos p, decD_6 (by omega), show 6 + (1 + m - 1) - 6 = m by omega]
      · rw [if_neg (show ¬ 1 + m - 1 < P by omega), if_neg p, decD_5 rfl]
    · have s0 := slF_lt (Hn := Rn) (f := 0) (g := f) x.hn (by decide) (by omega) (by omega)
      rw [slF_0, ← xN] at s0
      rw [if_neg (by omega), if_neg (by omega)]
      exact decD_1 (by decide)
  refine ⟨fun k i k0 k1 i0 i1 => ?_, fun f m f0 f1 m0 m1 ψ c k k0 k1 => ?_, ?_, fun f m f0 f1 m0 m1 => ?_⟩
  · by_cases z : k = 0
    · rw [z]
      exact ⟨Or.inr (v0 i i0 i1), fun q => absurd q (v0 i i0 i1).ne, fun q => absurd q (v0 0 (by decide) (by omega)).ne⟩
    · rw [ek k i (by omega) k1 i0 i1, ek k 0 (by omega) k1 (by decide) (by omega)]
      exact ⟨Or.inl rfl, Iff.rfl⟩
  · show leD (stC (vW W) Rh (tbR wd R k (slF Rn f + m))) (ψ k)
    by_cases z : k = 0
    · rw [z, d0 f m f0 f1 m0 m1]; exact c.1
    · have p1 := slF_pos (f := f) x.hn f0 (by omega)
      have p2 := slF_lt (g := F) x.hn f0 f1 (by omega)
      have p3 := x.2.1.2.2.2
      rw [ek k _ (by omega) k1 (by omega) (by omega), stC_0]
      exact Or.inl rfl
  · exact (v0 0 (by decide) (by omega)).ne
  · rw [d0 f m f0 f1 m0 m1]; exact leD.rfl
def TOKT (V : Int → It) (n P N : Int) (H Hn : Int → Int) (F : Int) (tb : TBL) : Prop := ∀ f m, 0 ≤ f → f < F → 0 ≤ m → m < Hn f → (∀ k, 0 ≤ k → k ≤ n → tb k (slF Hn f + m) = 0 ∨ VID V n P H (tb k (slF Hn f + m))) ∧ LFD V n (bgD P N H f m) f m (fun k => stC V H (tb k (slF Hn f + m)))
def RDS (W : Int → It) (n P N F wd : Int) (Rh Rn B : Int → Int) (Mn : Nat) (rk0 k : Int) (R : Int → Int) (ch : Int) : Prop := TBK (vW W) n P N Rh Rn F wd (tbR wd R) ∧ ((rkN R Mn : Int) ≤ rk0 ∧ (ch = 0 ∨ (rkN R Mn : Int) < rk0)) ∧ (ch = 0 → TCL (vW W) Rh Rn n wd B k (tbR wd R))
theorem RDS.step {rk0 : Int} (h : RDS W n P N F wd Rh Rn B Mn rk0 k R c0) (x : RWT W n P N F wd Rh Rn) (nb : ∀ k, 0 ≤ k → k < n → W k 0 = 12 → NBW W Rh P k (B k)) (g : GTX W n wd Rh Rn B k R R2 c0 ch) (k0 : 0 ≤ k) (k1 : k < n) (hM : (Mn : Int) = (n + 1) * wd) (hc : c0 = 0 ∨ c0 = 1) : RDS W n P N F wd Rh Rn B Mn rk0 (k + 1) R2 ch := by
  obtain ⟨h1, h2, h3⟩ := h
  obtain ⟨s1, s2, s3, s4⟩ := g.step x nb h1 k0 k1 hM
  refine ⟨s1, ⟨by have := s2.1; omega, ?_⟩, fun e j j0 j1 hj => ?_⟩
  · rcases s2.2 with e | e
    · rcases h2.2 with q | q
      · exact Or.inl (e.trans q)
      · exact Or.inr (by have := s2.1; omega)
    · exact Or.inr (by have := h2.1; omega)
  · have e2 : R2 = R ∧ ch = c0 := s3.resolve_right (by omega)
    rw [e2.1] at hj ⊢
    by_cases z : j = k
    · rw [z] at hj ⊢; exact s4 e2.1 hj
    · exact h3 (by omega) j j0 (by omega) hj
def RDR (W : Int → It) (n P N F wd : Int) (Rh Rn B : Int → Int) (Mn : Nat) (i : Int) (R : Int → Int) (ch : Int) : Prop := TBK (vW W) n P N Rh Rn F wd (tbR wd R) ∧ (i + (rkN R Mn : Int) ≤ 58290 + (if ch = 0 then 1 else 0)) ∧ (ch = 0 → TCL (vW W) Rh Rn n wd B n (tbR wd R))
theorem RDR.in (h : RDR W n P N F wd Rh Rn B Mn i R ch) : RDS W n P N F wd Rh Rn B Mn (rkN R Mn) 0 R 0 := ⟨h.1, ⟨Int.le_refl _, Or.inl rfl⟩, fun _ j a b => absurd b (by omega)⟩
theorem RDR.next (h : RDR W n P N F wd Rh Rn B Mn i R c0) (hc : c0 ≠ 0) (g : RDS W n P N F wd Rh Rn B Mn (rkN R Mn) n R2 ch) : RDR W n P N F wd Rh Rn B Mn (i + 1) R2 ch := by
  refine ⟨g.1, ?_, g.2.2⟩
  have a := h.2.1
  rw [if_neg hc] at a
  have b := g.2.1
  by_cases z : ch = 0
  · rw [if_pos z]; omega
  · rw [if_neg z]
    have := b.2.resolve_left z
    omega
theorem RDR.start (x : RWT W n P N F wd Rh Rn) (hM : (Mn : Int) = (n + 1) * wd) (h : TBK (vW W) n P N Rh Rn F wd (tbR wd R)) : RDR W n P N F wd Rh Rn B Mn 0 R 1 := by
  refine ⟨h, ?_, fun e => absurd e (by decide)⟩
  have q := rkN_le (f := R) (N := Mn)
  have w := x.wdr
  have nn := x.1.2.2.2.2
  have m : (n + 1) * wd ≤ 201 * wd := Int.mul_le_mul_of_nonneg_right (by omega) (by omega)
  rw [if_neg (by decide)]
  omega
theorem RDR.fin (h : RDR W n P N F wd Rh Rn B Mn i R 0) (x : RWT W n P N F wd Rh Rn) (nb : ∀ k, 0 ≤ k → k < n → W k 0 = 12 → NBW W Rh P k (B k)) : TOKT (vW W) n P N Rh Rn F (tbR wd R) := fun f m f0 f1 m0 m1 => by
  have xf := x.tfx nb
  have sl := xf.slot f0 f1 m0 m1
  exact ⟨fun k k0 k1 => (h.1.1 k _ k0 k1 sl.1 sl.2).1, h.1.fin xf (h.2.2 rfl) f0 f1 m0 m1⟩
end TBR
section RFT
variable {W : Int → It} {n P N F wd k i z : Int} {Rh Rn B R R2 : Int → Int}
theorem RWT.nm (x : RWT W n P N F wd Rh Rn) : 1 + N ≤ wd ∧ 0 ≤ N ∧ N ≤ 12 := by
  have f := x.2.1.2.1
  have s0 := slF_lt (Hn := Rn) (f := 0) (g := F) x.hn (by decide) (by omega) (by omega)
  have u := x.2.1.1 0 (by decide) (by omega)
  rw [slF_0, ← x.2.1.2.2.1, ← x.2.1.2.2.2] at s0
  rw [← x.2.1.2.2.1] at u
  omega
theorem RWT.zz (x : RWT W n P N F wd Rh Rn) (h : z = (n + 1) * wd) : wd ≤ z ∧ z ≤ 29145 := by
  have w := x.wdr
  have nn := x.1.2.2.2.2
  have a : (1 : Int) * wd ≤ (n + 1) * wd := Int.mul_le_mul_of_nonneg_right (by omega) (by omega)
  have b : (n + 1) * wd ≤ 201 * wd := Int.mul_le_mul_of_nonneg_right (by omega) (by omega)
  omega
theorem NBX.on (h : ∀ k, 0 ≤ k → k < i → W k 0 = 12 → NBW W Rh P k (R k)) (g : NBX W Rh P i R R2) : ∀ k, 0 ≤ k → k < i + 1 → W k 0 = 12 → NBW W Rh P k (R2 k) := fun k a b c => by
  rcases g with ⟨g, e⟩ | ⟨g, id, e1, e⟩
  · rw [e]
    exact h k a (by
      by_cases q : k = i
      · rw [q] at c; exact absurd c g
      · omega) c
  · rw [e]
    by_cases q : k = i
    · rw [q, uZ_eq]; exact e1
    · rw [uZ_ne q]; exact h k a (by omega) c
end RFT
def RTC (σ : MS) (c : Nat) : Prop := RWT (cdW σ c) (σ.2.1 6 c) (σ.2.1 8 c) (σ.2.1 7 c) (σ.2.1 10 c) (slF (rwF σ 14 c) (σ.2.1 10 c)) (rwF σ 15 c) (rwF σ 14 c)
def TKC (σ : MS) (c : Nat) (R : Int → Int) : Prop := TOKT (vW (cdW σ c)) (σ.2.1 6 c) (σ.2.1 8 c) (σ.2.1 7 c) (rwF σ 15 c) (rwF σ 14 c) (σ.2.1 10 c) (tbR (slF (rwF σ 14 c) (σ.2.1 10 c)) R)
def RFA (σ : MS) (c : Nat) (r : Int) (xb xs xf : Nat) : Prop := ((adN σ 5 c ≠ xb ∧ adN σ 5 c ≠ xs ∧ adN σ 5 c ≠ xf) ∧ (adN σ 15 c ≠ xb ∧ adN σ 15 c ≠ xs ∧ adN σ 15 c ≠ xf) ∧ (adN σ 14 c ≠ xb ∧ adN σ 14 c ≠ xs ∧ adN σ 14 c ≠ xf) ∧ xb ≠ xs ∧ xb ≠ xf ∧ xs ≠ xf) ∧ ∀ t : Nat, σ.2.1 900 r = (t : Int) → (∀ f, f ∈ AF6 → t ≠ adN σ f c) ∧ t ≠ xb ∧ t ≠ xs ∧ t ≠ xf
def RFT (T T2 : CT) (σ σ2 : MS) (a c : Nat) (r : Int) (xs xb xf : Nat) : Prop := (¬ ((0 ≤ r ∧ r < 6) ∧ σ.2.1 (1000 + xf) r = 0) ∧ σ2.2.1 = σ.2.1 ∧ σ2.2.2 = σ.2.2) ∨ (((0 ≤ r ∧ r < 6) ∧ σ.2.1 (1000 + xf) r = 0) ∧ ∃ t : Nat, (σ.2.1 900 r = (t : Int) ∨ (T t).1 = 0) ∧ σ2.2.1 900 r = (t : Int) ∧ CHN T [(92, a), (93, a), (94, a), (900, r.toNat)] [t, xs, xb, xf] [] σ σ2 ∧ σ2.2.1 (1000 + xf) = uZ (σ.2.1 (1000 + xf)) r 1 ∧ TKC σ c (σ2.2.1 (1000 + t)) ∧ (σ.2.1 6 c + 1) * slF (rwF σ 14 c) (σ.2.1 10 c) ≤ ((T2 t).2 : Int))
theorem RFT.rfq {T T2 : CT} {σ σ2 : MS} {a c : Nat} {r : Int} {xs xb xf : Nat} (h : RFT T T2 σ σ2 a c r xs xb xf) : RFQ T σ σ2 a r xs xb xf := by
  rcases h with ⟨-, h⟩ | ⟨h, t, h1, h2, h3, -⟩
  · exact Or.inl h
  · exact Or.inr ⟨h.1, t, h1, h2, h3⟩
theorem CSM.w2 {σ τ : MS} {b : Nat} (h : CSM σ τ b) : cW τ (adN σ 5 b) (σ.2.1 6 b) = cdW σ b := by
  have z := h.w
  unfold cdW at z
  rw [h.ad (f := 5) (by decide) (by decide), h.1 6 (by decide) (by decide)] at z
  exact z
theorem rfa_ne {x xh xn xb xs xf t : Nat} (h : (x ≠ xb ∧ x ≠ xs ∧ x ≠ xf) ∧ (xh ≠ xb ∧ xh ≠ xs ∧ xh ≠ xf) ∧ (xn ≠ xb ∧ xn ≠ xs ∧ xn ≠ xf) ∧ xb ≠ xs ∧ xb ≠ xf ∧ xs ≠ xf) (g5 : t ≠ x) (g15 : t ≠ xh) (g14 : t ≠ xn) (gb : t ≠ xb ∧ t ≠ xs ∧ t ≠ xf) : x ≠ xb ∧ x ≠ xs ∧ x ≠ t ∧ x ≠ xf ∧ xh ≠ xb ∧ xh ≠ xs ∧ xh ≠ t ∧ xh ≠ xf ∧ xn ≠ xb ∧ xn ≠ xs ∧ xn ≠ t ∧ xn ≠ xf ∧ xb ≠ xs ∧ xb ≠ t ∧ xb ≠ xf ∧ xs ≠ t ∧ xs ≠ xf ∧ t ≠ xf := by
  obtain ⟨⟨a1, a2, a3⟩, ⟨b1, b2, b3⟩, ⟨c1, c2, c3⟩, d1, d2, d3⟩ := h
  obtain ⟨e1, e2, e3⟩ := gb
  exact ⟨a1, a2, Ne.symm g5, a3, b1, b2, Ne.symm g15, b3, c1, c2, Ne.symm g14, c3, d1, Ne.symm e1, d2, Ne.symm e2, d3, e3⟩
end
