section
def bnI (B : Int → Int → Prop) (i : It) : Prop := i 0 = 12 → B (i 2) (i 1)
def BNN (B : Int → Int → Prop) (V : Int → It) (n : Int) : Prop := ∀ k, 0 ≤ k → k < n → bnI B (V k)
section BNS
variable {B B' : Int → Int → Prop} {V V' O : Int → It} {n n' m k w p a : Int} {x i j : It} {K : KN}
theorem bn_ne (h : i 0 ≠ 12) : bnI B i := fun e => absurd e h
theorem bn_c (h : bnI B i) (h0 : j 0 = i 0) (h1 : j 1 = i 1) (h2 : j 2 = i 2) : bnI B j := fun e => by
  rw [h1, h2]; exact h (h0.symm.trans e)
theorem BNN.put (h : BNN B V n) (hx : bnI B x) : BNN B (uZ V n x) (n + 1) := fun k a b => by
  by_cases e : k = n
  · rw [e, uZ_eq]; exact hx
  · rw [uZ_ne e]; exact h k a (by omega)
theorem BNN.set (h : BNN B V n) (hx : bnI B x) : BNN B (uZ V k x) n := fun j a b => by
  by_cases e : j = k
  · rw [e, uZ_eq]; exact hx
  · rw [uZ_ne e]; exact h j a b
theorem BNN.up (h : BNN B V n) (hB : ∀ f m, B f m → B' f m) : BNN B' V n := fun k a b e => hB _ _ (h k a b e)
theorem bn_foB (h : bnI B i) : bnI B (foB K i) := by
  unfold foB
  by_cases c : i 11 = 2 ∧ (K (i 4)).1 = 1
  · rw [dI_y c]
    exact bn_c h (by rw [uZ_ne (by decide), uZ_ne (by decide), uZ_ne (by decide)]) (by rw [uZ_ne (by decide), uZ_ne (by decide), uZ_ne (by decide)]) (by rw [uZ_ne (by decide), uZ_ne (by decide), uZ_ne (by decide)])
  · rw [dI_n c]; exact h
theorem bn_cpy {v u : Int} : bnI B (cpyI i v u) := by
  refine bn_ne ?_
  show uZ (uZ (uZ (uZ (uZ i 0 0) 3 v) 4 u) 5 0) 6 0 0 ≠ 12
  rw [uZ_ne (by decide), uZ_ne (by decide), uZ_ne (by decide), uZ_ne (by decide), uZ_eq]
  decide
theorem bn_act (h : i 0 ≠ 12) : bnI B (foZ (foA (foO K i 4))) := by
  have q : foA (foO K i 4) 0 ≠ 12 := by
    unfold foA
    by_cases c : five2 (foO K i 4)
    · rw [dI_y c]
      show uZ (uZ (uZ (uZ (uZ (foO K i 4) 0 0) 3 _) 4 _) 5 0) 6 0 0 ≠ 12
      rw [uZ_ne (by decide), uZ_ne (by decide), uZ_ne (by decide), uZ_ne (by decide), uZ_eq]
      decide
    · rw [dI_n c, foO_c (by decide)]; exact h
  refine bn_ne ?_
  unfold foZ
  by_cases c : zer1 (foA (foO K i 4))
  · rw [dI_y c, uZ_ne (by decide), uZ_ne (by decide), uZ_eq]; decide
  · rw [dI_n c]; exact q
theorem BNN.fold (h : BNN B V n) (t : Nat) (ht : (t : Int) ≤ n) : 0 ≤ (foS V t).2.1 ∧ BNN B (foS V t).2.2.2 (foS V t).2.1 := by
  induction t with
  | zero => exact ⟨Int.le_refl _, fun k a b => absurd b (by show ¬ k < 0; omega)⟩
  | succ t ih =>
    obtain ⟨i2, i3⟩ := ih (by omega)
    have v := h t (by omega) (by omega)
    show 0 ≤ (foT (foS V t) (V t)).2.1 ∧ BNN B (foT (foS V t) (V t)).2.2.2 (foT (foS V t) (V t)).2.1
    unfold foT
    by_cases a : V t 0 = 13
    · rw [if_pos a]; exact ⟨by show 0 ≤ (foS V t).2.1 + 1; omega, i3.put v⟩
    · rw [if_neg a]
      by_cases b : V t 0 = 12
      · rw [if_pos b]; exact ⟨by show 0 ≤ (foS V t).2.1 + 1; omega, i3.put (bn_foB v)⟩
      · rw [if_neg b]
        by_cases c : V t 0 ≤ 10
        · rw [if_pos c]
          have y : bnI B (foZ (foA (foO (foS V t).1 (V t) 4))) := bn_act b
          unfold foX
          by_cases z : zer1 (foA (foO (foS V t).1 (V t) 4)) ∧ foA (foO (foS V t).1 (V t) 4) 4 ≠ 0
          · show 0 ≤ dI _ _ _ ∧ BNN B (dI _ _ _) (dI _ _ _)
            rw [dI_y z, dI_y z]; exact ⟨i2, i3⟩
          · show 0 ≤ dI _ _ _ ∧ BNN B (dI _ _ _) (dI _ _ _)
            rw [dI_n z, dI_n z]; exact ⟨by omega, i3.put y⟩
        · rw [if_neg c]; exact ⟨by show 0 ≤ (foS V t).2.1 + 1; omega, i3.put v⟩
theorem BNN.to (h : BNN B V n) (hk : 0 ≤ k ∧ k < n) : BNN B (toV V k) (n - 1) := fun i a b => by
  unfold toV
  by_cases c : i < k
  · rw [if_pos c]; exact h i a (by omega)
  · rw [if_neg c]; exact h (i + 1) (by omega) (by omega)
theorem bn_goI (h : bnI B i) : bnI B (goI i w) := by
  have e : ∀ c, c < 3 → goI i w c = i c := fun c hc => by
    show uZ (uZ (uZ (uZ (uZ i 11 w) 3 0) 4 0) 5 0) 6 0 c = i c
    rw [uZ_ne (by omega), uZ_ne (by omega), uZ_ne (by omega), uZ_ne (by omega), uZ_ne (by omega)]
  exact bn_c h (e 0 (by decide)) (e 1 (by decide)) (e 2 (by decide))
theorem bn_tkI (h : bnI B i) : bnI B (tkI x i) := by
  have e : ∀ c, c < 3 → tkI x i c = i c := fun c hc => by
    unfold tkI
    by_cases z : x 0 = 0
    · rw [if_pos z, uZ_ne (by omega), uZ_ne (by omega), uZ_ne (by omega)]
    · rw [if_neg z, uZ_ne (by omega), uZ_ne (by omega), uZ_ne (by omega), uZ_ne (by omega), uZ_ne (by omega)]
  exact bn_c h (e 0 (by decide)) (e 1 (by decide)) (e 2 (by decide))
theorem BNN.rb (h : BNN B V n) : BNN B (rbV V n k) n := fun i a b => by
  unfold rbV
  by_cases c : nrV V n k i ∧ V i 0 = 12 ∧ V i 11 = 2 ∧ V i 4 = V k 1
  · rw [dI_y c]; exact bn_tkI (h i a b)
  · rw [dI_n c]
    by_cases d : (0 ≤ i ∧ i < n) ∧ RCG V n (k + 1) (fun j => wrT (V j) (V k 1)) i ∧ V i 0 = 12 ∧ rdI (V i) (V k 1)
    · rw [dI_y d]; exact bn_goI (h i a b)
    · rw [dI_n d]; exact h i a b
theorem BNN.drr (h : BNN B V n) (t : Nat) (ht : (t : Int) ≤ n) : 0 ≤ (dr1 V n t).1 ∧ BNN B (dr1 V n t).2.2 (dr1 V n t).1 := by
  induction t with
  | zero => exact ⟨Int.le_refl _, fun k a b => absurd b (by show ¬ k < 0; omega)⟩
  | succ t ih =>
    obtain ⟨i1, i2⟩ := ih (by omega)
    show 0 ≤ (dI (RCG V n 0 (fun _ => False) t) ((dr1 V n t).1 + 1, (dr1 V n t).2.1, uZ (dr1 V n t).2.2 (dr1 V n t).1 (V t)) ((dr1 V n t).1, (dr1 V n t).2.1 + (if V t 0 ≤ 10 then 1 else 0), (dr1 V n t).2.2)).1 ∧ BNN B (dI (RCG V n 0 (fun _ => False) t) ((dr1 V n t).1 + 1, (dr1 V n t).2.1, uZ (dr1 V n t).2.2 (dr1 V n t).1 (V t)) ((dr1 V n t).1, (dr1 V n t).2.1 + (if V t 0 ≤ 10 then 1 else 0), (dr1 V n t).2.2)).2.2 (dI (RCG V n 0 (fun _ => False) t) ((dr1 V n t).1 + 1, (dr1 V n t).2.1, uZ (dr1 V n t).2.2 (dr1 V n t).1 (V t)) ((dr1 V n t).1, (dr1 V n t).2.1 + (if V t 0 ≤ 10 then 1 else 0), (dr1 V n t).2.2)).1
    by_cases c : RCG V n 0 (fun _ => False) t
    · rw [dI_y c]; exact ⟨by show 0 ≤ (dr1 V n t).1 + 1; omega, i2.put (h t (by omega) (by omega))⟩
    · rw [dI_n c]; exact ⟨i1, i2⟩
theorem BNN.drt {t : Nat} (h : BNN B V n) (g : DRT t V n V' n') : BNN B V' n' := by
  induction t generalizing V' n' with
  | zero => rw [g.1, g.2]; exact h
  | succ t ih =>
    obtain ⟨V1, n1, k, h1, h2, h3, h4⟩ := g
    rw [h3, h4]
    exact (ih h1).rb.to ⟨h2.1, h2.2.1⟩
theorem BNN.li (h : BNN B V n) (hp : 0 ≤ p) (hk : p ≤ k ∧ k < n) : BNN B (liV V k p) n := fun i a b => by
  unfold liV
  by_cases c : i = p
  · rw [if_pos c]; exact h k (by omega) hk.2
  · rw [if_neg c]
    by_cases d : p < i ∧ i ≤ k
    · rw [if_pos d]; exact h (i - 1) (by omega) (by omega)
    · rw [if_neg d]; exact h i a b
theorem BNN.mvt {H : Int → Prop} {q : Int} {t : Nat} (u : BNN B V n) (hp : 0 ≤ p) (hq : q < n) (h : MVT H n q t V p V' a) : BNN B V' n ∧ 0 ≤ a := by
  induction t generalizing V' a with
  | zero => rw [h.1, h.2]; exact ⟨u, hp⟩
  | succ t ih =>
    obtain ⟨V1, p1, k, g1, g2, g3, g4⟩ := h
    obtain ⟨i1, i2⟩ := ih g1
    rw [g3, g4]; exact ⟨i1.li i2 ⟨g2.1, by have := g2.2.1; omega⟩, by omega⟩
theorem BNN.mva {H : Int → Prop} {t : Nat} (u : BNN B V n) (h : MVA H n t V V' w) (ht : (t : Int) ≤ n) : BNN B V' n := by
  induction t generalizing V' w with
  | zero => rw [h.1]; exact u
  | succ t ih =>
    obtain ⟨V1, w1, d, h1, h2, h3⟩ := h
    have i := ih h1 (by omega)
    rcases h2 with ⟨a, b, c⟩ | ⟨a, q, b, ⟨c, d, e⟩ | ⟨c, t, p, d, e, f⟩⟩
    · rw [b]; exact i
    · rw [d]; exact i
    · exact (i.mvt (by omega) b.2.1 d).1
theorem BNN.als {t : Nat} (u : BNN B V n) (h : ALS t V V' w) : BNN B V' n := by
  induction t generalizing V' w with
  | zero => rw [h.1]; exact u
  | succ t ih =>
    obtain ⟨V1, w1, d, h1, h2, h3⟩ := h
    rcases h2 with ⟨j, a, b, c, e⟩ | ⟨a, b, c⟩
    · rw [c]; exact (ih h1).set bn_cpy
    · rw [b]; exact ih h1
theorem bn_rn {nb : Int → Int} (h : bnI B i) : bnI B (rnI nb i) := fun e => by
  have e0 : rnI nb i 0 = i 0 := by
    unfold rnI
    rw [if_neg (by omega), if_neg (fun y => by have := y.1; omega)]
  have e12 : i 0 = 12 := e0.symm.trans e
  have e1 : rnI nb i 1 = i 1 := by
    unfold rnI
    rw [if_neg (by omega), if_neg (fun y => by have := y.1; omega)]
  have e2 : rnI nb i 2 = i 2 := by
    unfold rnI
    rw [if_neg (by omega), if_neg (fun y => by have := y.1; omega)]
  rw [e1, e2]; exact h e12
theorem BNN.sh {nb : Int → Int} {bg : Int → Prop} (u : BNN B V n) : BNN B (shV V n nb bg) n := fun i a b => by
  unfold shV
  rw [if_pos ⟨a, b⟩]
  refine bn_rn ?_
  unfold ubV
  by_cases c : (0 ≤ i ∧ i < n) ∧ V i 0 = 12 ∧ RCG V n 0 (fun _ => False) i ∧ ∃ u, rdI (V i) u ∧ lsV V n nb bg i u
  · rw [dI_y c]; exact bn_goI (u i a b)
  · rw [dI_n c]; exact u i a b
def BNB (B : Int → Int → Prop) (s : BB) : Prop := 0 ≤ s.1 ∧ BNN B s.2 s.1
theorem BNB.add {s : BB} (h : BNB B s) (hx : bnI B x) : BNB B (bA s x) := ⟨by show 0 ≤ s.1 + 1; have := h.1; omega, h.2.put hx⟩
theorem bn_m {a b c d e f : Int} (h : a ≠ 12) : bnI B (mkI a b c d e f) := bn_ne h
theorem BNB.one {f base P : Int} {na : Int → Int} {y : It} {s : BB} (h : BNB B s) (t : Nat) (hb : ∀ j : Int, 0 ≤ j → j < t → B f j) : BNB B (mb1 f base P na y s t) := by
  induction t with
  | zero => exact h
  | succ t ih =>
    have ih := ih (fun j a b => hb j a (by omega))
    have b := hb t (by omega) (by omega)
    show BNB B (nmS f base P na y t (mb1 f base P na y s t))
    unfold nmS
    by_cases c : (t : Int) < P
    · rw [if_pos c]
      exact (ih.add (bn_m (by decide))).add (fun _ => b)
    · rw [if_neg c]
      exact ih.add (fun _ => b)
theorem BNB.two {base : Int} {lv : Int → Prop} {s : BB} (h : BNB B s) (t : Nat) : BNB B (mb2 base lv s t) := by
  induction t with
  | zero => exact h
  | succ t ih =>
    show BNB B (dI (lv t) (bA (mb2 base lv s t) (mkI 0 (base + t) 0 1 0 0)) (mb2 base lv s t))
    by_cases a : lv t
    · rw [dI_y a]; exact ih.add (bn_m (by decide))
    · rw [dI_n a]; exact ih
theorem bn_ml {f base lb : Int} (h : bnI B i) (hB : ∀ u m, B u m → B' (u + f) m) : bnI B' (mlI f base lb i) := by
  have so : ∀ c, c < 3 → shO base i c = i c := fun c hc => if_neg (by omega)
  by_cases z : i 0 = 12
  · intro _
    unfold mlI
    rw [if_neg (by omega), if_pos (by omega), uZ_eq, uZ_ne (by decide), so 1 (by decide)]
    exact hB _ _ (h z)
  · refine bn_ne ?_
    unfold mlI
    by_cases a : i 0 = 8 ∨ i 0 = 9 ∨ i 0 = 13
    · rw [if_pos a, uZ_ne (by decide), so 0 (by decide)]; exact z
    · rw [if_neg a]
      by_cases b : i 0 = 11 ∨ i 0 = 12
      · rw [if_pos b, uZ_ne (by decide), so 0 (by decide)]; exact z
      · rw [if_neg b]
        by_cases c : i 0 = 14 ∨ i 0 = 15
        · rw [if_pos c, uZ_ne (by decide), so 0 (by decide)]; exact z
        · rw [if_neg c]
          by_cases d : i 0 = 6
          · rw [if_pos d, so 0 (by decide)]; exact z
          · rw [if_neg d, uZ_ne (by decide), so 0 (by decide)]; exact z
theorem BNB.three {f base lb to out : Int} {s : BB} (h : BNB B' s) (hV : BNN B V n) (hB : ∀ u m, B u m → B' (u + f) m) (t : Nat) (ht : (t : Int) ≤ n) : BNB B' (mb3 f base lb to out V s t) := by
  induction t with
  | zero => exact h
  | succ t ih =>
    have ih := ih (by omega)
    have v := hV t (by omega) (by omega)
    show BNB B' (if V t 0 = 7 then bA (bA (mb3 f base lb to out V s t) (uZ (uZ (shO base (V t)) 0 0) 1 to)) (mkI 8 out 0 0 0 0) else bA (mb3 f base lb to out V s t) (mlI f base lb (V t)))
    by_cases a : V t 0 = 7
    · rw [if_pos a]
      refine (ih.add (bn_ne ?_)).add (bn_m (by decide))
      rw [uZ_ne (by decide), uZ_eq]; decide
    · rw [if_neg a]
      exact ih.add (bn_ml v hB)
theorem BNB.mm1 {f base lb out to P N nq : Int} {na : Int → Int} {y : It} {lv : Int → Prop} (hV : BNN B V nq) (h0 : 0 ≤ nq) (hB : ∀ u m, B u m → B' (u + f) m) (hb : ∀ j, 0 ≤ j → j < N → B' f j) : BNB B' (mkB f base lb out to P N nq na y lv V) :=
  ((((((show BNB B' ((0 : Int), fun _ => zI) from ⟨Int.le_refl _, fun k a b => absurd b (by show ¬ k < 0; omega)⟩).add (bn_m (by decide))).one _ (fun j a b => hb j a (by omega))).two _).three hV hB _ (by omega)).add (bn_m (by decide))).add (bn_m (by decide))
theorem BNN.sp {M : BB} (u : BNN B V n) (b : BNB B M) (hk : 0 ≤ k ∧ k < n) : BNN B (spV V k M.1 M.2) (n + M.1 - 1) := fun i a c => by
  unfold spV
  by_cases d : i < k
  · rw [if_pos d]; exact u i a (by omega)
  · rw [if_neg d]
    by_cases e : i < k + M.1
    · rw [if_pos e]; exact b.2 _ (by omega) (by omega)
    · rw [if_neg e]; exact u _ (by omega) (by omega)
end BNS
def bnB (NM : Int → Int) (H : RTS) (f m : Int) : Prop := (0 ≤ f ∧ f < H.F) ∧ 0 ≤ m ∧ m < NM (H.fo f)
def BNR (NM : Int → Int) (H : RTS) : Prop := BNN (bnB NM H) H.V H.n
theorem BNN.mlr {r : Int} {Gs : Int → RTS} {PM NM : Int → Int} {t : Nat} {H H' : RTS} {k k' w : Int} (u : BNR NM H) (k0 : 0 ≤ k) (hF : 0 ≤ H.F) (hG : ∀ q, NCL (Gs q) → (((0 ≤ (Gs q).n) ∧ 0 < (Gs q).F) ∧ BNR NM (Gs q)) ∧ (Gs q).fo 0 = q) (h : MLR r Gs PM NM t H k H' k' w) : (BNR NM H' ∧ 0 ≤ H'.F) ∧ 0 ≤ k' := by
  induction t generalizing H' k' w with
  | zero => rw [h.1, h.2.1]; exact ⟨⟨u, hF⟩, k0⟩
  | succ t ih =>
    obtain ⟨H1, k1, w1, d, h1, h2, h3, h4⟩ := h
    obtain ⟨⟨i, iF⟩, j⟩ := ih h1
    rcases h3 with ⟨base, lb, lq, j0, m, m1, m2, m3, m4, e1, e2, e3⟩ | ⟨m, e1, e2, e3⟩
    · obtain ⟨g, f0⟩ := hG (H1.V k1 2) m.2.2.1
      have F' : H'.F = H1.F + (Gs (H1.V k1 2)).F := by rw [e1]; rfl
      have fo' : ∀ f, H'.fo f = if f < H1.F then H1.fo f else if f < H1.F + (Gs (H1.V k1 2)).F then (Gs (H1.V k1 2)).fo (f - H1.F) else 0 := fun f => by rw [e1]; rfl
      have up : ∀ f m, bnB NM H1 f m → bnB NM H' f m := fun f m q => by
        unfold bnB at q ⊢
        rw [F', fo' f, if_pos q.1.2]
        exact ⟨⟨q.1.1, by have := g.1.2; omega⟩, q.2⟩
      have sh : ∀ f m, bnB NM (Gs (H1.V k1 2)) f m → bnB NM H' (f + H1.F) m := fun f m q => by
        unfold bnB at q ⊢
        rw [F', fo' (f + H1.F), if_neg (by omega), if_pos (by omega), show f + H1.F - H1.F = f by omega]
        exact ⟨by omega, q.2⟩
      have own : ∀ j, 0 ≤ j → j < NM (H1.V k1 2) → bnB NM H' H1.F j := fun j a b => by
        unfold bnB
        rw [F', fo' H1.F, if_neg (by omega), if_pos (by have := g.1.2; omega), show H1.F - H1.F = 0 by omega, f0]
        exact ⟨by have := g.1.2; omega, a, b⟩
      have Bq : BNB (bnB NM H') (mkS H1 (Gs (H1.V k1 2)) k1 base lb lq (PM (H1.V k1 2)) (NM (H1.V k1 2))) := BNB.mm1 g.2 g.1.1 sh own
      have V' : H'.V = spV H1.V k1 (mkS H1 (Gs (H1.V k1 2)) k1 base lb lq (PM (H1.V k1 2)) (NM (H1.V k1 2))).1 (mkS H1 (Gs (H1.V k1 2)) k1 base lb lq (PM (H1.V k1 2)) (NM (H1.V k1 2))).2 := by rw [e1]; rfl
      have n' : H'.n = H1.n + (mkS H1 (Gs (H1.V k1 2)) k1 base lb lq (PM (H1.V k1 2)) (NM (H1.V k1 2))).1 - 1 := by rw [e1]; rfl
      refine ⟨⟨?_, by rw [F']; have := g.1.2; omega⟩, by rw [e2]; have := Bq.1; omega⟩
      unfold BNR
      rw [V', n']
      exact BNN.sp (i.up up) Bq ⟨j, h2⟩
    · rw [e1, e2]; exact ⟨⟨i, iF⟩, by omega⟩
theorem PSV.bn {w r v : Int} {Gs : Int → RTS} {PM NM : Int → Int} {H H' : RTS} (h : PSV w r Gs PM NM H H' v) (u : BNR NM H) (hn : 0 ≤ H.n) (hF : 0 ≤ H.F) (hG : ∀ q, NCL (Gs q) → (((0 ≤ (Gs q).n) ∧ 0 < (Gs q).F) ∧ BNR NM (Gs q)) ∧ (Gs q).fo 0 = q) : BNR NM H' := by
  have same : ∀ {V' : Int → It} {n' : Int}, H'.2.2 = H.2.2 → H'.V = V' → H'.n = n' → BNN (bnB NM H) V' n' → BNR NM H' := fun e a b c => by
    have e1 : H'.F = H.F := congrArg (fun z : Int × (Int → Int) × (Int → Int) × (Int → Int) × (Int → Int → Int) => z.1) e
    have e2 : H'.fo = H.fo := congrArg (fun z : Int × (Int → Int) × (Int → Int) × (Int → Int) × (Int → Int → Int) => z.2.1) e
    have e3 : bnB NM H' = bnB NM H := by funext f m; unfold bnB; rw [e1, e2]
    unfold BNR
    rw [e3, a, b]; exact c
  rcases h with ⟨a, ⟨K, b⟩, c⟩ | ⟨a, ⟨t, b, _⟩, c⟩ | ⟨a, b, d, c⟩ | ⟨a, b, d, c⟩ | ⟨a, t, b⟩ | ⟨a, nb, b, b1, b2, b3⟩
  · have z := BNN.fold u H.n.toNat (by omega)
    rw [b] at z
    exact same c rfl rfl z.2
  · exact same c rfl rfl ((BNN.drr u _ (by omega)).2.drt b)
  · exact same c rfl d (BNN.mva u b (by omega))
  · exact same c rfl d (BNN.als u b)
  · exact (BNN.mlr u (Int.le_refl 0) hF hG b).1.1
  · rw [b2]
    exact BNN.sh u
end
