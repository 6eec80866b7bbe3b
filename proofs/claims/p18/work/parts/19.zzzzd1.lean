section
def whI (PM : Int → Int) (i : It) : Prop := 0 ≤ i 0 ∧ (∀ j, 0 ≤ j → j < nAr PM i → j < 4 → (i (3 + 2 * j) = 1 ∨ i (3 + 2 * j) = 2)) ∧ (i 0 = 12 → ((1 ≤ i 11 ∧ i 11 ≤ 7) ∨ (11 ≤ i 11 ∧ i 11 ≤ 14)) ∧ ((i 11 = 1 ∨ i 11 = 2) → i 3 = i 11))
def KKn (K : KN) : Prop := ∀ g, (K g).1 = 0 ∨ (K g).1 = 1 ∨ (K g).1 = 2
section WHS
variable {PM : Int → Int} {V V' O : Int → It} {n n' m k w : Int} {x i : It} {K : KN}
theorem nAr_1 (h : i 0 = 0 ∨ i 0 = 6 ∨ i 0 = 7 ∨ i 0 = 9) : nAr PM i = 1 := by
  unfold nAr
  rw [if_neg (by omega), if_neg (by omega), if_neg (by omega), if_pos h]
theorem nAr_2 (h : 1 ≤ i 0 ∧ i 0 ≤ 5) : nAr PM i = 2 := by
  unfold nAr
  rw [if_neg (by omega), if_neg (by omega), if_pos h]
theorem nAr_0 (h : i 0 = 8 ∨ i 0 = 11 ∨ 13 ≤ i 0) : nAr PM i = 0 := by
  unfold nAr
  rw [if_neg (by omega), if_neg (by omega), if_neg (by omega), if_neg (by omega)]
theorem nAr_b (h : i 0 = 12) : nAr PM i = if 10 ≤ i 11 then 0 else if 2 < i 11 then 2 else 1 := by
  unfold nAr
  rw [if_neg (by omega), if_pos h]
theorem nAr_c {j : It} (h0 : j 0 = i 0) (h2 : i 0 = 10 → j 2 = i 2) (h11 : j 11 = i 11) : nAr PM j = nAr PM i := by
  unfold nAr
  rw [h0, h11]
  by_cases c : i 0 = 10
  · rw [if_pos c, if_pos c, h2 c]
  · rw [if_neg c, if_neg c]
theorem wh_0 (h0 : 0 ≤ i 0) (h : i 0 = 8 ∨ i 0 = 11 ∨ 13 ≤ i 0) : whI PM i := ⟨h0, fun j a b => by rw [nAr_0 h] at b; omega, fun e => by omega⟩
theorem wh_1 (h : i 0 = 0 ∨ i 0 = 6 ∨ i 0 = 7 ∨ i 0 = 9) (h3 : i 3 = 1 ∨ i 3 = 2) : whI PM i := ⟨by omega, fun j a b _ => by
  rw [nAr_1 h] at b
  rw [show j = 0 by omega]; exact h3, fun e => by omega⟩
theorem wh_b (h : i 0 = 12) (h11 : i 11 = 1 ∨ i 11 = 2) (h3 : i 3 = i 11) : whI PM i := ⟨by omega, fun j a b _ => by
  rw [nAr_b h, if_neg (by omega), if_neg (by omega)] at b
  rw [show j = 0 by omega]
  show i 3 = 1 ∨ i 3 = 2
  omega, fun _ => ⟨Or.inl (by omega), fun _ => h3⟩⟩
theorem wh_g (h : i 0 = 12) (h11 : 11 ≤ i 11 ∧ i 11 ≤ 14) : whI PM i := ⟨by omega, fun j a b _ => by
  rw [nAr_b h, if_pos (by omega)] at b
  omega, fun _ => ⟨Or.inr h11, fun q => by omega⟩⟩
theorem wh_s (h : i 0 = 12) (h11 : 3 ≤ i 11 ∧ i 11 ≤ 7) (h3 : i 3 = 1 ∨ i 3 = 2) (h5 : i 5 = 1 ∨ i 5 = 2) : whI PM i := ⟨by omega, fun j a b _ => by
  rw [nAr_b h, if_neg (by omega), if_pos (by omega)] at b
  have : j = 0 ∨ j = 1 := by omega
  rcases this with rfl | rfl
  · exact h3
  · exact h5, fun _ => ⟨Or.inl (by omega), fun q => by omega⟩⟩
theorem wh_c {j : It} (h : whI PM i) (h0 : j 0 = i 0) (h2 : i 0 = 10 → j 2 = i 2) (h11 : j 11 = i 11) (hk : ∀ u, 0 ≤ u → u < 4 → j (3 + 2 * u) = i (3 + 2 * u)) : whI PM j := ⟨by rw [h0]; exact h.1, fun u a b c => by
  rw [nAr_c h0 h2 h11] at b
  rw [hk u a c]; exact h.2.1 u a b c, fun e => by
  rw [h0] at e
  have q := h.2.2 e
  rw [h11, show j 3 = i 3 from hk 0 (by decide) (by decide)]; exact q⟩
theorem wh_3 (h : whI PM i) (h0 : i 0 = 0 ∨ i 0 = 6 ∨ i 0 = 7 ∨ i 0 = 9 ∨ (1 ≤ i 0 ∧ i 0 ≤ 5)) : i 3 = 1 ∨ i 3 = 2 := by
  refine h.2.1 0 (by decide) ?_ (by decide)
  by_cases c : 1 ≤ i 0 ∧ i 0 ≤ 5
  · rw [nAr_2 c]; decide
  · rw [nAr_1 (by omega)]; decide
theorem wh_5 (h : whI PM i) (h0 : 1 ≤ i 0 ∧ i 0 ≤ 5) : i 5 = 1 ∨ i 5 = 2 := h.2.1 1 (by decide) (by rw [nAr_2 h0]; decide) (by decide)
theorem foO_c {c : Int} (h : c < 3 ∨ 11 ≤ c) : foO K i 4 c = i c := if_neg (by omega)
theorem foO_kd (hk : KKn K) {u : Int} (u0 : 0 ≤ u) (u1 : u < 4) : foO K i 4 (3 + 2 * u) = i (3 + 2 * u) ∨ foO K i 4 (3 + 2 * u) = 1 ∨ foO K i 4 (3 + 2 * u) = 2 := by
  have e : (3 + 2 * u - 3) / 2 = u := by omega
  unfold foO
  rw [e]
  by_cases c : 3 ≤ 3 + 2 * u ∧ 3 + 2 * u < 3 + 2 * 4 ∧ i (3 + 2 * u) = 2 ∧ (K (i (4 + 2 * u))).1 ≠ 0
  · rw [if_pos c, if_pos (by omega)]
    have q := hk (i (4 + 2 * u))
    have w := c.2.2.2
    omega
  · rw [if_neg c]; exact Or.inl rfl
theorem wh_foO (h : whI PM i) (hk : KKn K) (h12 : i 0 ≠ 12) : whI PM (foO K i 4) := ⟨by rw [foO_c (by decide)]; exact h.1, fun j a b c => by
  rw [nAr_c (foO_c (by decide)) (fun _ => foO_c (by decide)) (foO_c (by decide))] at b
  rcases foO_kd (i := i) hk a c with q | q
  · rw [q]; exact h.2.1 j a b c
  · exact q, fun e => absurd ((foO_c (K := K) (i := i) (c := 0) (by decide)).symm.trans e) h12⟩
theorem wh_foA (h : whI PM i) : whI PM (foA i) := by
  unfold foA
  by_cases c : five2 i
  · rw [dI_y c]
    refine wh_1 (Or.inl ?_) (Or.inl ?_)
    · show uZ (uZ (uZ (uZ (uZ i 0 0) 3 _) 4 _) 5 0) 6 0 0 = 0
      rw [uZ_ne (by decide), uZ_ne (by decide), uZ_ne (by decide), uZ_ne (by decide), uZ_eq]
    · show uZ (uZ (uZ (uZ (uZ i 0 0) 3 _) 4 _) 5 0) 6 0 3 = 1
      rw [uZ_ne (by decide), uZ_ne (by decide), uZ_ne (by decide), uZ_eq]
  · rw [dI_n c]; exact h
theorem wh_foZ (h : whI PM i) : whI PM (foZ i) := by
  unfold foZ
  by_cases c : zer1 i
  · rw [dI_y c]
    have e : uZ (uZ (uZ i 0 8) 3 0) 4 0 0 = 8 := by rw [uZ_ne (by decide), uZ_ne (by decide), uZ_eq]
    exact wh_0 (by rw [e]; decide) (Or.inl e)
  · rw [dI_n c]; exact h
theorem wh_foB (h : whI PM i) (h0 : i 0 = 12) : whI PM (foB K i) := by
  unfold foB
  by_cases c : i 11 = 2 ∧ (K (i 4)).1 = 1
  · rw [dI_y c]
    refine wh_b ?_ (Or.inl ?_) ?_
    · rw [uZ_ne (by decide), uZ_ne (by decide), uZ_ne (by decide)]; exact h0
    · rw [uZ_ne (by decide), uZ_ne (by decide), uZ_eq]
    · rw [uZ_ne (by decide), uZ_eq, uZ_ne (by decide), uZ_ne (by decide), uZ_eq]
  · rw [dI_n c]; exact h
theorem kk_lrn (h : whI PM i) (hk : KKn K) : KKn (lrn i K) := by
  unfold lrn
  by_cases c : i 0 ≤ 5 ∨ i 0 = 10
  · rw [dI_y c]
    intro g
    unfold lrnF
    by_cases a : g = i 1
    · rw [if_pos a]
      by_cases b : i 0 = 0 ∧ ¬ (i 3 = 2 ∧ i 4 = i 1) ∧ i 3 ≠ 0
      · rw [if_pos b]
        have q := wh_3 h (Or.inl b.1)
        exact Or.inr q
      · rw [if_neg b]; exact Or.inl rfl
    · rw [if_neg a]
      by_cases b : K g = (2, i 1)
      · rw [if_pos b]; exact Or.inl rfl
      · rw [if_neg b]; exact hk g
  · rw [dI_n c]; exact hk
def WHN (PM : Int → Int) (V : Int → It) (n : Int) : Prop := ∀ k, 0 ≤ k → k < n → whI PM (V k)
theorem WHN.put (h : WHN PM V n) (hx : whI PM x) : WHN PM (uZ V n x) (n + 1) := fun k a b => by
  by_cases e : k = n
  · rw [e, uZ_eq]; exact hx
  · rw [uZ_ne e]; exact h k a (by omega)
theorem WHN.set (h : WHN PM V n) (hx : whI PM x) : WHN PM (uZ V k x) n := fun j a b => by
  by_cases e : j = k
  · rw [e, uZ_eq]; exact hx
  · rw [uZ_ne e]; exact h j a b
theorem kk_z : KKn (fun _ => (0, 0)) := fun _ => Or.inl rfl
theorem WHN.fold (h : WHN PM V n) (t : Nat) (ht : (t : Int) ≤ n) : KKn (foS V t).1 ∧ 0 ≤ (foS V t).2.1 ∧ WHN PM (foS V t).2.2.2 (foS V t).2.1 := by
  induction t with
  | zero => exact ⟨kk_z, Int.le_refl _, fun k a b => absurd b (by show ¬ k < 0; omega)⟩
  | succ t ih =>
    obtain ⟨i1, i2, i3⟩ := ih (by omega)
    have v := h t (by omega) (by omega)
    show KKn (foT (foS V t) (V t)).1 ∧ 0 ≤ (foT (foS V t) (V t)).2.1 ∧ WHN PM (foT (foS V t) (V t)).2.2.2 (foT (foS V t) (V t)).2.1
    unfold foT
    by_cases a : V t 0 = 13
    · rw [if_pos a]; exact ⟨kk_z, by show 0 ≤ (foS V t).2.1 + 1; omega, i3.put v⟩
    · rw [if_neg a]
      by_cases b : V t 0 = 12
      · rw [if_pos b]; exact ⟨i1, by show 0 ≤ (foS V t).2.1 + 1; omega, i3.put (wh_foB v b)⟩
      · rw [if_neg b]
        by_cases c : V t 0 ≤ 10
        · rw [if_pos c]
          have y := wh_foZ (wh_foA (wh_foO v i1 b))
          have kl := kk_lrn y i1
          unfold foX
          by_cases z : zer1 (foA (foO (foS V t).1 (V t) 4)) ∧ foA (foO (foS V t).1 (V t) 4) 4 ≠ 0
          · show KKn (lrn _ _) ∧ 0 ≤ dI _ _ _ ∧ WHN PM (dI _ _ _) (dI _ _ _)
            rw [dI_y z, dI_y z]; exact ⟨kl, i2, i3⟩
          · show KKn (lrn _ _) ∧ 0 ≤ dI _ _ _ ∧ WHN PM (dI _ _ _) (dI _ _ _)
            rw [dI_n z, dI_n z]; exact ⟨kl, by omega, i3.put y⟩
        · rw [if_neg c]; exact ⟨i1, by show 0 ≤ (foS V t).2.1 + 1; omega, i3.put v⟩
theorem WHN.to (h : WHN PM V n) (hk : 0 ≤ k ∧ k < n) : WHN PM (toV V k) (n - 1) := fun i a b => by
  unfold toV
  by_cases c : i < k
  · rw [if_pos c]; exact h i a (by omega)
  · rw [if_neg c]; exact h (i + 1) (by omega) (by omega)
theorem wh_goI (h : i 0 = 12) (hw : 11 ≤ w ∧ w ≤ 14) : whI PM (goI i w) := by
  refine wh_g ?_ ?_
  · show uZ (uZ (uZ (uZ (uZ i 11 w) 3 0) 4 0) 5 0) 6 0 0 = 12
    rw [uZ_ne (by decide), uZ_ne (by decide), uZ_ne (by decide), uZ_ne (by decide), uZ_ne (by decide)]; exact h
  · show 11 ≤ uZ (uZ (uZ (uZ (uZ i 11 w) 3 0) 4 0) 5 0) 6 0 11 ∧ uZ (uZ (uZ (uZ (uZ i 11 w) 3 0) 4 0) 5 0) 6 0 11 ≤ 14
    rw [uZ_ne (by decide), uZ_ne (by decide), uZ_ne (by decide), uZ_ne (by decide), uZ_eq]; exact hw
theorem wh_tkI (h : i 0 = 12) (hx : whI PM x) (h5 : x 0 ≤ 5) : whI PM (tkI x i) := by
  have x0 := hx.1
  unfold tkI
  by_cases c : x 0 = 0
  · rw [if_pos c]
    have q := wh_3 hx (Or.inl c)
    refine wh_b ?_ ?_ ?_
    · rw [uZ_ne (by decide), uZ_ne (by decide), uZ_ne (by decide)]; exact h
    · rw [uZ_ne (by decide), uZ_ne (by decide), uZ_eq]; exact q
    · rw [uZ_ne (by decide), uZ_eq, uZ_ne (by decide), uZ_ne (by decide), uZ_eq]
  · rw [if_neg c]
    have q3 := wh_3 hx (Or.inr (Or.inr (Or.inr (Or.inr ⟨by omega, h5⟩))))
    have q5 := wh_5 hx ⟨by omega, h5⟩
    refine wh_s ?_ ?_ ?_ ?_
    · rw [uZ_ne (by decide), uZ_ne (by decide), uZ_ne (by decide), uZ_ne (by decide), uZ_ne (by decide)]; exact h
    · rw [uZ_ne (by decide), uZ_ne (by decide), uZ_ne (by decide), uZ_ne (by decide), uZ_eq]; omega
    · rw [uZ_ne (by decide), uZ_ne (by decide), uZ_ne (by decide), uZ_eq]; exact q3
    · rw [uZ_ne (by decide), uZ_eq]; exact q5
theorem WHN.rb (h : WHN PM V n) (hk : 0 ≤ k ∧ k < n) (h5 : V k 0 ≤ 5) : WHN PM (rbV V n k) n := fun i a b => by
  unfold rbV
  by_cases c : nrV V n k i ∧ V i 0 = 12 ∧ V i 11 = 2 ∧ V i 4 = V k 1
  · rw [dI_y c]; exact wh_tkI c.2.1 (h k hk.1 hk.2) h5
  · rw [dI_n c]
    by_cases d : (0 ≤ i ∧ i < n) ∧ RCG V n (k + 1) (fun j => wrT (V j) (V k 1)) i ∧ V i 0 = 12 ∧ rdI (V i) (V k 1)
    · rw [dI_y d]; exact wh_goI d.2.2.1 (by decide)
    · rw [dI_n d]; exact h i a b
theorem WHN.drr (h : WHN PM V n) (t : Nat) (ht : (t : Int) ≤ n) : 0 ≤ (dr1 V n t).1 ∧ WHN PM (dr1 V n t).2.2 (dr1 V n t).1 := by
  induction t with
  | zero => exact ⟨Int.le_refl _, fun k a b => absurd b (by show ¬ k < 0; omega)⟩
  | succ t ih =>
    obtain ⟨i1, i2⟩ := ih (by omega)
    show 0 ≤ (dI (RCG V n 0 (fun _ => False) t) ((dr1 V n t).1 + 1, (dr1 V n t).2.1, uZ (dr1 V n t).2.2 (dr1 V n t).1 (V t)) ((dr1 V n t).1, (dr1 V n t).2.1 + (if V t 0 ≤ 10 then 1 else 0), (dr1 V n t).2.2)).1 ∧ WHN PM (dI (RCG V n 0 (fun _ => False) t) ((dr1 V n t).1 + 1, (dr1 V n t).2.1, uZ (dr1 V n t).2.2 (dr1 V n t).1 (V t)) ((dr1 V n t).1, (dr1 V n t).2.1 + (if V t 0 ≤ 10 then 1 else 0), (dr1 V n t).2.2)).2.2 (dI (RCG V n 0 (fun _ => False) t) ((dr1 V n t).1 + 1, (dr1 V n t).2.1, uZ (dr1 V n t).2.2 (dr1 V n t).1 (V t)) ((dr1 V n t).1, (dr1 V n t).2.1 + (if V t 0 ≤ 10 then 1 else 0), (dr1 V n t).2.2)).1
    by_cases c : RCG V n 0 (fun _ => False) t
    · rw [dI_y c]; exact ⟨by show 0 ≤ (dr1 V n t).1 + 1; omega, i2.put (h t (by omega) (by omega))⟩
    · rw [dI_n c]; exact ⟨i1, i2⟩
theorem WHN.drt {t : Nat} (h : WHN PM V n) (g : DRT t V n V' n') : WHN PM V' n' := by
  induction t generalizing V' n' with
  | zero => rw [g.1, g.2]; exact h
  | succ t ih =>
    obtain ⟨V1, n1, k, h1, h2, h3, h4⟩ := g
    rw [h3, h4]
    exact ((ih h1).rb ⟨h2.1, h2.2.1⟩ h2.2.2.1.1).to ⟨h2.1, h2.2.1⟩
theorem WHN.li {p : Int} (h : WHN PM V n) (hp : 0 ≤ p) (hk : p ≤ k ∧ k < n) : WHN PM (liV V k p) n := fun i a b => by
  unfold liV
  by_cases c : i = p
  · rw [if_pos c]; exact h k (by omega) hk.2
  · rw [if_neg c]
    by_cases d : p < i ∧ i ≤ k
    · rw [if_pos d]; exact h (i - 1) (by omega) (by omega)
    · rw [if_neg d]; exact h i a b
theorem WHN.mvt {H : Int → Prop} {q p a : Int} {t : Nat} (u : WHN PM V n) (hp : 0 ≤ p) (hq : q < n) (h : MVT H n q t V p V' a) : WHN PM V' n ∧ 0 ≤ a := by
  induction t generalizing V' a with
  | zero => rw [h.1, h.2]; exact ⟨u, hp⟩
  | succ t ih =>
    obtain ⟨V1, p1, k, g1, g2, g3, g4⟩ := h
    obtain ⟨i1, i2⟩ := ih g1
    rw [g3, g4]; exact ⟨i1.li i2 ⟨g2.1, by have := g2.2.1; omega⟩, by omega⟩
theorem WHN.mva {H : Int → Prop} {t : Nat} (u : WHN PM V n) (h : MVA H n t V V' w) (ht : (t : Int) ≤ n) : WHN PM V' n := by
  induction t generalizing V' w with
  | zero => rw [h.1]; exact u
  | succ t ih =>
    obtain ⟨V1, w1, d, h1, h2, h3⟩ := h
    have i := ih h1 (by omega)
    rcases h2 with ⟨a, b, c⟩ | ⟨a, q, b, ⟨c, d, e⟩ | ⟨c, t, p, d, e, f⟩⟩
    · rw [b]; exact i
    · rw [d]; exact i
    · exact (i.mvt (by omega) b.2.1 d).1
theorem wh_cpy {v : Int} {j : Int} (hj : j = 1 ∨ j = 2) : whI PM (cpyI i j v) := by
  refine wh_1 (Or.inl ?_) ?_
  · show uZ (uZ (uZ (uZ (uZ i 0 0) 3 _) 4 _) 5 0) 6 0 0 = 0
    rw [uZ_ne (by decide), uZ_ne (by decide), uZ_ne (by decide), uZ_ne (by decide), uZ_eq]
  · show uZ (uZ (uZ (uZ (uZ i 0 0) 3 j) 4 _) 5 0) 6 0 3 = 1 ∨ uZ (uZ (uZ (uZ (uZ i 0 0) 3 j) 4 _) 5 0) 6 0 3 = 2
    rw [uZ_ne (by decide), uZ_ne (by decide), uZ_ne (by decide), uZ_eq]; exact hj
theorem WHN.als {t : Nat} (u : WHN PM V n) (h : ALS t V V' w) : WHN PM V' n := by
  induction t generalizing V' w with
  | zero => rw [h.1]; exact u
  | succ t ih =>
    obtain ⟨V1, w1, d, h1, h2, h3⟩ := h
    rcases h2 with ⟨j, a, b, c, e⟩ | ⟨a, b, c⟩
    · rw [c]; exact (ih h1).set (wh_cpy (Or.inr rfl))
    · rw [b]; exact ih h1
theorem wh_rn {nb : Int → Int} (h : whI PM i) : whI PM (rnI nb i) := by
  have e : ∀ c, c = 0 ∨ c = 2 ∨ c = 3 ∨ c = 5 ∨ c = 7 ∨ c = 9 ∨ c = 11 → rnI nb i c = i c := fun c hc => by
    unfold rnI
    rw [if_neg (by omega), if_neg (fun y => by have := y.1; omega)]
  refine wh_c h (e 0 (by omega)) (fun _ => e 2 (by omega)) (e 11 (by omega)) (fun u a b => e _ (by omega))
theorem WHN.sh {nb : Int → Int} {bg : Int → Prop} (u : WHN PM V n) : WHN PM (shV V n nb bg) n := fun i a b => by
  unfold shV
  rw [if_pos ⟨a, b⟩]
  refine wh_rn ?_
  unfold ubV
  by_cases c : (0 ≤ i ∧ i < n) ∧ V i 0 = 12 ∧ RCG V n 0 (fun _ => False) i ∧ ∃ u, rdI (V i) u ∧ lsV V n nb bg i u
  · rw [dI_y c]; exact wh_goI c.2.1 (by decide)
  · rw [dI_n c]; exact u i a b
def WHB (PM : Int → Int) (s : BB) : Prop := 0 ≤ s.1 ∧ WHN PM s.2 s.1
theorem WHB.add {s : BB} (h : WHB PM s) (hx : whI PM x) : WHB PM (bA s x) := ⟨by show 0 ≤ s.1 + 1; have := h.1; omega, h.2.put hx⟩
theorem wh_m1 {a b c d e f : Int} (h0 : 0 ≤ a) (h : a = 8 ∨ a = 11 ∨ 13 ≤ a) : whI PM (mkI a b c d e f) := wh_0 h0 h
theorem WHB.one {f base P : Int} {na : Int → Int} {y : It} {s : BB} (h : WHB PM s) (hy : ∀ j, 0 ≤ j → j < P → y (3 + 2 * j) = 1 ∨ y (3 + 2 * j) = 2) (t : Nat) : WHB PM (mb1 f base P na y s t) := by
  induction t with
  | zero => exact h
  | succ t ih =>
    show WHB PM (nmS f base P na y t (mb1 f base P na y s t))
    unfold nmS
    by_cases c : (t : Int) < P
    · rw [if_pos c]
      exact (ih.add (wh_1 (Or.inl rfl) (hy t (by omega) c))).add (wh_b rfl (Or.inr rfl) rfl)
    · rw [if_neg c]
      exact ih.add (wh_b rfl (Or.inl rfl) rfl)
theorem WHB.two {base : Int} {lv : Int → Prop} {s : BB} (h : WHB PM s) (t : Nat) : WHB PM (mb2 base lv s t) := by
  induction t with
  | zero => exact h
  | succ t ih =>
    show WHB PM (dI (lv t) (bA (mb2 base lv s t) (mkI 0 (base + t) 0 1 0 0)) (mb2 base lv s t))
    by_cases a : lv t
    · rw [dI_y a]; exact ih.add (wh_1 (Or.inl rfl) (Or.inl rfl))
    · rw [dI_n a]; exact ih
theorem wh_ml {f base lb : Int} (h : whI PM i) : whI PM (mlI f base lb i) := by
  have so : ∀ c, c ≠ 4 → c ≠ 6 → c ≠ 8 → c ≠ 10 → shO base i c = i c := fun c a b d e => if_neg (by omega)
  have ks : ∀ (z v : Int), z = 1 ∨ z = 2 → ∀ u, 0 ≤ u → u < 4 → uZ (shO base i) z v (3 + 2 * u) = i (3 + 2 * u) := fun z v hz u a b => by
    rw [uZ_ne (by omega)]; exact so _ (by omega) (by omega) (by omega) (by omega)
  unfold mlI
  by_cases a : i 0 = 8 ∨ i 0 = 9 ∨ i 0 = 13
  · rw [if_pos a]
    exact wh_c h ((uZ_ne (by decide)).trans (so 0 (by decide) (by decide) (by decide) (by decide))) (fun e => by omega) ((uZ_ne (by decide)).trans (so 11 (by decide) (by decide) (by decide) (by decide))) (ks _ _ (Or.inl rfl))
  · rw [if_neg a]
    by_cases b : i 0 = 11 ∨ i 0 = 12
    · rw [if_pos b]
      exact wh_c h ((uZ_ne (by decide)).trans (so 0 (by decide) (by decide) (by decide) (by decide))) (fun e => by omega) ((uZ_ne (by decide)).trans (so 11 (by decide) (by decide) (by decide) (by decide))) (ks _ _ (Or.inr rfl))
    · rw [if_neg b]
      by_cases c : i 0 = 14 ∨ i 0 = 15
      · rw [if_pos c]
        exact wh_c h ((uZ_ne (by decide)).trans (so 0 (by decide) (by decide) (by decide) (by decide))) (fun e => by omega) ((uZ_ne (by decide)).trans (so 11 (by decide) (by decide) (by decide) (by decide))) (ks _ _ (Or.inl rfl))
      · rw [if_neg c]
        by_cases d : i 0 = 6
        · rw [if_pos d]
          exact wh_c h (so 0 (by decide) (by decide) (by decide) (by decide)) (fun e => by omega) (so 11 (by decide) (by decide) (by decide) (by decide)) (fun u a b => so _ (by omega) (by omega) (by omega) (by omega))
        · rw [if_neg d]
          exact wh_c h ((uZ_ne (by decide)).trans (so 0 (by decide) (by decide) (by decide) (by decide))) (fun _ => (uZ_ne (by decide)).trans (so 2 (by decide) (by decide) (by decide) (by decide))) ((uZ_ne (by decide)).trans (so 11 (by decide) (by decide) (by decide) (by decide))) (ks _ _ (Or.inl rfl))
theorem WHB.three {f base lb to out : Int} {s : BB} (h : WHB PM s) (hV : WHN PM V n) (t : Nat) (ht : (t : Int) ≤ n) : WHB PM (mb3 f base lb to out V s t) := by
  induction t with
  | zero => exact h
  | succ t ih =>
    have ih := ih (by omega)
    have v := hV t (by omega) (by omega)
    show WHB PM (if V t 0 = 7 then bA (bA (mb3 f base lb to out V s t) (uZ (uZ (shO base (V t)) 0 0) 1 to)) (mkI 8 out 0 0 0 0) else bA (mb3 f base lb to out V s t) (mlI f base lb (V t)))
    by_cases a : V t 0 = 7
    · rw [if_pos a]
      refine (ih.add (wh_1 (Or.inl ?_) ?_)).add (wh_m1 (by decide) (Or.inl rfl))
      · rw [uZ_ne (by decide), uZ_eq]
      · rw [uZ_ne (by decide), uZ_ne (by decide), show shO base (V t) 3 = V t 3 from if_neg (by omega)]
        exact wh_3 v (by omega)
    · rw [if_neg a]
      exact ih.add (wh_ml v)
theorem WHB.mm1 {f base lb out to P N nq : Int} {na : Int → Int} {y : It} {lv : Int → Prop} (hV : WHN PM V nq) (h0 : 0 ≤ nq) (hy : ∀ j, 0 ≤ j → j < P → y (3 + 2 * j) = 1 ∨ y (3 + 2 * j) = 2) : WHB PM (mkB f base lb out to P N nq na y lv V) :=
  ((((((show WHB PM ((0 : Int), fun _ => zI) from ⟨Int.le_refl _, fun k a b => absurd b (by show ¬ k < 0; omega)⟩).add (wh_m1 (by decide) (Or.inr (Or.inr (by decide))))).one hy _).two _).three hV _ (by omega)).add (wh_m1 (by decide) (Or.inr (Or.inr (by decide))))).add (wh_m1 (by decide) (Or.inr (Or.inr (by decide))))
theorem WHN.sp {B : BB} (u : WHN PM V n) (b : WHB PM B) (hk : 0 ≤ k ∧ k < n) : WHN PM (spV V k B.1 B.2) (n + B.1 - 1) := fun i a c => by
  unfold spV
  by_cases d : i < k
  · rw [if_pos d]; exact u i a (by omega)
  · rw [if_neg d]
    by_cases e : i < k + B.1
    · rw [if_pos e]; exact b.2 _ (by omega) (by omega)
    · rw [if_neg e]; exact u _ (by omega) (by omega)
end WHS
def NCL (G : RTS) : Prop := ∀ j, 0 ≤ j → j < G.n → G.V j 0 ≠ 10
theorem WHN.mlr {r : Int} {Gs : Int → RTS} {PM NM : Int → Int} {t : Nat} {H H' : RTS} {k k' w : Int} (u : WHN PM H.V H.n) (k0 : 0 ≤ k) (hG : ∀ q, NCL (Gs q) → ((0 ≤ (Gs q).n) ∧ WHN PM (Gs q).V (Gs q).n) ∧ PM q ≤ 4) (h : MLR r Gs PM NM t H k H' k' w) : WHN PM H'.V H'.n ∧ 0 ≤ k' := by
  induction t generalizing H' k' w with
  | zero => rw [h.1, h.2.1]; exact ⟨u, k0⟩
  | succ t ih =>
    obtain ⟨H1, k1, w1, d, h1, h2, h3, h4⟩ := h
    obtain ⟨i, j⟩ := ih h1
    rcases h3 with ⟨base, lb, lq, j0, m, m1, m2, m3, m4, e1, e2, e3⟩ | ⟨m, e1, e2, e3⟩
    · have v := i k1 j h2
      obtain ⟨hg, hP⟩ := hG (H1.V k1 2) m.2.2.1
      have B : WHB PM (mkS H1 (Gs (H1.V k1 2)) k1 base lb lq (PM (H1.V k1 2)) (NM (H1.V k1 2))) := WHB.mm1 hg.2 hg.1 (fun c c0 c1 => v.2.1 c c0 (by unfold nAr; rw [if_pos m.1]; exact c1) (by omega))
      rw [e1, e2]
      exact ⟨WHN.sp i B ⟨j, h2⟩, by have := B.1; omega⟩
    · rw [e1, e2]; exact ⟨i, by omega⟩
theorem PSV.wh {w r v : Int} {Gs : Int → RTS} {PM NM : Int → Int} {H H' : RTS} (h : PSV w r Gs PM NM H H' v) (u : WHN PM H.V H.n) (h0 : 0 ≤ H.n) (hG : ∀ q, NCL (Gs q) → ((0 ≤ (Gs q).n) ∧ WHN PM (Gs q).V (Gs q).n) ∧ PM q ≤ 4) : WHN PM H'.V H'.n := by
  rcases h with ⟨a, ⟨K, b⟩, _⟩ | ⟨a, ⟨t, b, _⟩, _⟩ | ⟨a, b, d, _⟩ | ⟨a, b, d, _⟩ | ⟨a, t, b⟩ | ⟨a, nb, b, b1, b2, b3⟩
  · have z := u.fold H.n.toNat (by omega)
    rw [b] at z
    exact z.2.2
  · exact (u.drr _ (by omega)).2.drt b
  · rw [d]; exact u.mva b (by omega)
  · rw [d]; exact u.als b
  · exact (u.mlr (Int.le_refl 0) hG b).1
  · rw [b2]; exact u.sh
theorem PSV.pmd {w r v : Int} {Gs : Int → RTS} {PM NM : Int → Int} {H H' : RTS} (h : PSV w r Gs PM NM H H' v) (u : PMD (H.na 0) (PM r)) (hF : 0 < H.F) (hN : PM r ≤ NM (H.fo 0)) (hR : ∀ m, 0 ≤ m → m < PM r → 0 ≤ H.na 0 m ∧ H.na 0 m < 192) (hG : ∀ q, NCL (Gs q) → 0 ≤ (Gs q).F) : PMD (H'.na 0) (PM r) := by
  have same : H'.2.2 = H.2.2 → PMD (H'.na 0) (PM r) := fun e => by
    have e2 : H'.na = H.na := congrArg (fun z : Int × (Int → Int) × (Int → Int) × (Int → Int) × (Int → Int → Int) => z.2.2.2.2) e
    rw [e2]; exact u
  rcases h with ⟨a, b, c⟩ | ⟨a, b, c⟩ | ⟨a, b, d, c⟩ | ⟨a, b, d, c⟩ | ⟨a, t, b⟩ | ⟨a, nb, b, b1, b2, b3⟩
  · exact same c
  · exact same c
  · exact same c
  · exact same c
  · have g : ∀ (t : Nat) {H' : RTS} {k' w : Int}, MLR r Gs PM NM t H 0 H' k' w → H'.na 0 = H.na 0 ∧ 0 < H'.F := by
      intro t
      induction t with
      | zero => intro H' k' w h; rw [h.1]; exact ⟨rfl, hF⟩
      | succ t ih =>
        intro H' k' w h
        obtain ⟨H1, k1, w1, d, h1, h2, h3, h4⟩ := h
        obtain ⟨i, j⟩ := ih h1
        rcases h3 with ⟨base, lb, lq, j0, m, m1, m2, m3, m4, e1, e2, e3⟩ | ⟨m, e1, e2, e3⟩
        · rw [e1]
          refine ⟨?_, ?_⟩
          · rw [← i]
            funext m
            exact if_pos j
          · show 0 < H1.F + (Gs (H1.V k1 2)).F
            have := hG (H1.V k1 2) m.2.2.1
            omega
        · rw [e1]; exact ⟨i, j⟩
    rw [(g t b).1]; exact u
  · rw [b2]
    intro i j i0 i1 j0 j1 e
    have e1 : ∀ m, 0 ≤ m → m < PM r → (shS H (PM r) NM nb).na 0 m = nb (H.na 0 m) := fun m m0 m1 => if_pos ⟨⟨Int.le_refl _, hF⟩, m0, by omega⟩
    rw [e1 i i0 i1, e1 j j0 j1] at e
    have x := hR i i0 i1
    have y := hR j j0 j1
    have od : ∀ a c, 0 ≤ a → a < PM r → 0 ≤ c → c < PM r → H.na 0 a ≠ H.na 0 c → odV H.V H.n (pmS H (PM r)) (H.na 0 a) (H.na 0 c) := fun a c a0 a1 c0 c1 ne => ⟨ne, Or.inl ⟨Or.inl ⟨a, a0, a1, rfl⟩, Or.inl ⟨c, c0, c1, rfl⟩⟩⟩
    refine u i j i0 i1 j0 j1 ?_
    by_cases l : H.na 0 i < H.na 0 j
    · exact absurd e ((b _ y.1 y.2).2.1 _ x.1 l (od j i j0 j1 i0 i1 (by omega)))
    · by_cases m : H.na 0 j < H.na 0 i
      · exact absurd e.symm ((b _ x.1 x.2).2.1 _ y.1 m (od i j i0 i1 j0 j1 (by omega)))
      · omega
end
