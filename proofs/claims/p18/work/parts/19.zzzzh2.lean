section
def TRN8 (PM : Int → Int) (r : Int) (H H2 : RTS) : Prop := ∀ Gs : Int → RTS, Gs r = H → ∀ q W L, beh8 Gs PM q W L → beh8 (uZ Gs r H2) PM q W L
section TRS
variable {PM : Int → Int} {r : Int} {H H1 H2 : RTS} {ρ : Int → G8 → Int → G8 → Prop}
theorem TRN8.rf : TRN8 PM r H H := fun Gs e q W L h => by
  have z : uZ Gs r H = Gs := by
    funext i
    by_cases c : i = r
    · rw [c, uZ_eq, e]
    · rw [uZ_ne c]
  rw [z]; exact h
theorem TRN8.trans (h : TRN8 PM r H H1) (g : TRN8 PM r H1 H2) : TRN8 PM r H H2 := fun Gs e q W L b => by
  have z : uZ (uZ Gs r H1) r H2 = uZ Gs r H2 := by
    funext i
    by_cases c : i = r
    · rw [c, uZ_eq, uZ_eq]
    · rw [uZ_ne c, uZ_ne c, uZ_ne c]
  have y := g (uZ Gs r H1) uZ_eq q W L (h Gs e q W L b)
  rw [z] at y
  exact y
theorem TRN8.of (hP : ∀ q, PM q ≤ 4) (hL : LS8 H H2 ρ) (h0 : ST8 H H2 (PM r) ρ) : TRN8 PM r H H2 := fun Gs e q W L b => by
  refine sim8.beh (r := r) (ρ := ρ) (fun i c => uZ_ne c) hP ?_ ?_ b
  · rw [e, uZ_eq]; exact hL
  · rw [e, uZ_eq]; exact h0
theorem TRN8.fold {w : Int} (hP : ∀ q, PM q ≤ 4) (h : ∃ K, foS H.V H.n.toNat = (K, H2.n, w, H2.V)) (e : H2.2.2 = H.2.2) : TRN8 PM r H H2 := TRN8.of hP (ls_fold h) (st_fold e)
end TRS
section DRO8
variable {V : Int → It} {n m : Int} {t s : Nat} {R : G8}
theorem dr_st : (RCG V n 0 (fun _ => False) t ∧ (dr1 V n (t + 1)).1 = (dr1 V n t).1 + 1 ∧ (dr1 V n (t + 1)).2.2 = uZ (dr1 V n t).2.2 (dr1 V n t).1 (V t)) ∨ (¬ RCG V n 0 (fun _ => False) t ∧ (dr1 V n (t + 1)).1 = (dr1 V n t).1 ∧ (dr1 V n (t + 1)).2.2 = (dr1 V n t).2.2) := by
  show (RCG V n 0 (fun _ => False) t ∧ (dI (RCG V n 0 (fun _ => False) t) ((dr1 V n t).1 + 1, (dr1 V n t).2.1, uZ (dr1 V n t).2.2 (dr1 V n t).1 (V t)) ((dr1 V n t).1, (dr1 V n t).2.1 + (if V t 0 ≤ 10 then 1 else 0), (dr1 V n t).2.2)).1 = (dr1 V n t).1 + 1 ∧ (dI (RCG V n 0 (fun _ => False) t) ((dr1 V n t).1 + 1, (dr1 V n t).2.1, uZ (dr1 V n t).2.2 (dr1 V n t).1 (V t)) ((dr1 V n t).1, (dr1 V n t).2.1 + (if V t 0 ≤ 10 then 1 else 0), (dr1 V n t).2.2)).2.2 = uZ (dr1 V n t).2.2 (dr1 V n t).1 (V t)) ∨ (¬ RCG V n 0 (fun _ => False) t ∧ (dI (RCG V n 0 (fun _ => False) t) ((dr1 V n t).1 + 1, (dr1 V n t).2.1, uZ (dr1 V n t).2.2 (dr1 V n t).1 (V t)) ((dr1 V n t).1, (dr1 V n t).2.1 + (if V t 0 ≤ 10 then 1 else 0), (dr1 V n t).2.2)).1 = (dr1 V n t).1 ∧ (dI (RCG V n 0 (fun _ => False) t) ((dr1 V n t).1 + 1, (dr1 V n t).2.1, uZ (dr1 V n t).2.2 (dr1 V n t).1 (V t)) ((dr1 V n t).1, (dr1 V n t).2.1 + (if V t 0 ≤ 10 then 1 else 0), (dr1 V n t).2.2)).2.2 = (dr1 V n t).2.2)
  by_cases c : RCG V n 0 (fun _ => False) t
  · rw [dI_y c]; exact Or.inl ⟨c, rfl, rfl⟩
  · rw [dI_n c]; exact Or.inr ⟨c, rfl, rfl⟩
theorem dr_nn : 0 ≤ (dr1 V n t).1 := by
  induction t with
  | zero => exact Int.le_refl _
  | succ t ih =>
    rcases dr_st (V := V) (n := n) (t := t) with h | h
    · rw [h.2.1]; omega
    · rw [h.2.1]; exact ih
theorem dr_mo (u : Nat) : (dr1 V n t).1 ≤ (dr1 V n (t + u)).1 := by
  induction u with
  | zero => exact Int.le_refl _
  | succ u ih =>
    rcases dr_st (V := V) (n := n) (t := t + u) with h | h
    · rw [show t + (u + 1) = t + u + 1 by omega, h.2.1]; omega
    · rw [show t + (u + 1) = t + u + 1 by omega, h.2.1]; exact ih
theorem dr_kp (u : Nat) (hm : m < (dr1 V n t).1) : (dr1 V n (t + u)).2.2 m = (dr1 V n t).2.2 m := by
  induction u with
  | zero => rfl
  | succ u ih =>
    have q := dr_mo (V := V) (n := n) (t := t) u
    rcases dr_st (V := V) (n := n) (t := t + u) with h | h
    · rw [show t + (u + 1) = t + u + 1 by omega, h.2.2, uZ_ne (by omega)]; exact ih
    · rw [show t + (u + 1) = t + u + 1 by omega, h.2.2]; exact ih
theorem dr_at (h : t < s) (hk : RCG V n 0 (fun _ => False) t) : (dr1 V n t).1 < (dr1 V n s).1 ∧ (dr1 V n s).2.2 (dr1 V n t).1 = V t := by
  obtain ⟨u, rfl⟩ : ∃ u, s = t + 1 + u := ⟨s - (t + 1), by omega⟩
  rcases dr_st (V := V) (n := n) (t := t) with z | z
  · have q := dr_mo (V := V) (n := n) (t := t + 1) u
    refine ⟨by omega, ?_⟩
    rw [dr_kp u (by omega), z.2.2, uZ_eq]
  · exact absurd hk z.1
end DRO8
def rhD (V : Int → It) (n k : Int) (R : G8) (k' : Int) (R' : G8) : Prop := R' = R ∧ k' = (dr1 V n k.toNat).1 ∧ RCG V n 0 (fun _ => False) k
theorem ls_dr1 {H : RTS} : LS8 H ((dr1 H.V H.n H.n.toNat).1, (dr1 H.V H.n H.n.toNat).2.2, H.2.2) (rhD H.V H.n) := by
  intro k R k' R' hr k0 kn
  obtain ⟨e1, e2, hk⟩ := hr
  obtain ⟨t, rfl⟩ : ∃ t : Nat, k = t := ⟨k.toNat, by omega⟩
  have e3 : ((t : Int)).toNat = t := by omega
  have e4 : ((t : Int) + 1).toNat = t + 1 := by omega
  rw [e3] at e2
  rw [e1, e2]
  have ht : t < H.n.toNat := by omega
  obtain ⟨b1, b2⟩ := dr_at (n := H.n) ht hk
  have eS : (dr1 H.V H.n (t + 1)).1 = (dr1 H.V H.n t).1 + 1 := by
    rcases dr_st (V := H.V) (n := H.n) (t := t) with q | q
    · exact q.2.1
    · exact absurd hk q.1
  have on : ∀ R2, ¬ (H.V t 0 = 8 ∨ H.V t 0 = 7) → rhD H.V H.n (t + 1) R2 ((dr1 H.V H.n t).1 + 1) R2 := fun R2 a => ⟨rfl, by rw [e4, eS], hk.s k0 kn (fun z => z) (Or.inl ⟨a, rfl⟩)⟩
  refine ls8_sc (sc8 (H2 := ((dr1 H.V H.n H.n.toNat).1, (dr1 H.V H.n H.n.toNat).2.2, H.2.2)) ⟨dr_nn, b1⟩ (Or.inl ?_) (fun _ => ?_) (fun _ => ⟨?_, fun j _ _ => ?_⟩) (fun a b _ _ _ => on R (by omega)) (fun a => ?_) (fun a v => ?_) (fun a l hl => ?_))
  · show (dr1 H.V H.n H.n.toNat).2.2 _ 0 = _; rw [b2]
  · show opv R ((dr1 H.V H.n H.n.toNat).2.2 _) 0 = _; rw [b2]
  · show (dr1 H.V H.n H.n.toNat).2.2 _ 2 = _; rw [b2]
  · show opv R ((dr1 H.V H.n H.n.toNat).2.2 _) j = _; rw [b2]
  · show rhD H.V H.n (t + 1) _ _ (uZ R ((dr1 H.V H.n H.n.toNat).2.2 _ 1) (val8 R ((dr1 H.V H.n H.n.toNat).2.2 _)))
    rw [b2]; exact on _ (by omega)
  · show rhD H.V H.n (t + 1) _ _ (uZ R ((dr1 H.V H.n H.n.toNat).2.2 _ 1) v)
    rw [b2]; exact on _ (by omega)
  · have hl2 := hk.s k0 kn (fun z => z) (Or.inr ⟨a.elim Or.inl (fun z => Or.inr z.1), hl⟩)
    obtain ⟨u, rfl⟩ : ∃ u : Nat, l = u := ⟨l.toNat, by have := hl.1; omega⟩
    have q := dr_at (V := H.V) (n := H.n) (t := u) (s := H.n.toNat) (by have := hl.2.1; omega) hl2
    refine ⟨(dr1 H.V H.n u).1, ⟨dr_nn, q.1, ?_, ?_⟩, rfl, ?_, hl2⟩
    · show (dr1 H.V H.n H.n.toNat).2.2 _ 0 = 13; rw [q.2]; exact hl.2.2.1
    · show (dr1 H.V H.n H.n.toNat).2.2 _ 1 = (dr1 H.V H.n H.n.toNat).2.2 _ 1; rw [q.2, b2]; exact hl.2.2.2
    · rw [show ((u : Int)).toNat = u by omega]
theorem st_dr1 {H H2 : RTS} {P : Int} (e : H2.2.2 = H.2.2) : ST8 H H2 P (rhD H.V H.n) := fun W => by
  refine ⟨?_, rfl, RCG.z⟩
  unfold cal8
  rw [show H2.na = H.na by unfold RTS.na; rw [e]]
def rhL (V : Int → It) (n x k : Int) (R : G8) (k' : Int) (R' : G8) : Prop := (k' = if k ≤ x then k else k - 1) ∧ ∀ g, LVV V n k g → R' g = R g
section DRL8
variable {V : Int → It} {n k x j g : Int} {R R' : G8} {i : It}
theorem lv_op (h : ∀ g, LVV V n k g → R' g = R g) (k0 : 0 ≤ k) (kn : k < n) (h12 : V k 0 ≠ 12) (j0 : 0 ≤ j) (j4 : j < 4) : opv R' (V k) j = opv R (V k) j := by
  unfold opv
  by_cases c : V k (3 + 2 * j) = 2
  · rw [if_pos c, if_pos c]; exact h _ (LVV.rd k0 kn h12 ⟨j, j0, j4, c, rfl⟩)
  · rw [if_neg c, if_neg c]
theorem lv_val (h : ∀ g, LVV V n k g → R' g = R g) (k0 : 0 ≤ k) (kn : k < n) (h5 : V k 0 ≤ 5) : val8 R' (V k) = val8 R (V k) := by
  unfold val8
  rw [lv_op h k0 kn (by omega) (by decide) (by decide), lv_op h k0 kn (by omega) (by decide) (by decide)]
theorem lv_on (h : ∀ g, LVV V n k g → R' g = R g) (k0 : 0 ≤ k) (kn : k < n) {t : Int} (e : EDv V n k t) (hw : ∀ g, ¬ wrT (V k) g) : ∀ g, LVV V n t g → R' g = R g := fun g a => h g (LVV.on k0 kn (hw g) e a)
theorem lv_wr (h : ∀ g, LVV V n k g → R' g = R g) (k0 : 0 ≤ k) (kn : k < n) (hk : V k 0 ≤ 5 ∨ V k 0 = 10) (v : Int) : ∀ g, LVV V n (k + 1) g → uZ R' (V k 1) v g = uZ R (V k 1) v g := fun g a => by
  by_cases e : g = V k 1
  · rw [e, uZ_eq, uZ_eq]
  · rw [uZ_ne e, uZ_ne e]
    exact h g (LVV.on k0 kn (fun z => e z.2.symm) (Or.inl ⟨by omega, rfl⟩) a)
theorem nw_of (h : ¬ (V k 0 ≤ 5 ∨ V k 0 = 10)) : ∀ g, ¬ wrT (V k) g := fun _ z => h z.1
theorem rb_0 (c : Int) (h : c < 3) : rbV V n x k c = V k c := by
  unfold rbV
  by_cases a : nrV V n x k ∧ V k 0 = 12 ∧ V k 11 = 2 ∧ V k 4 = V x 1
  · rw [dI_y a]
    unfold tkI
    by_cases z : V x 0 = 0
    · rw [if_pos z, uZ_ne (by omega), uZ_ne (by omega), uZ_ne (by omega)]
    · rw [if_neg z, uZ_ne (by omega), uZ_ne (by omega), uZ_ne (by omega), uZ_ne (by omega), uZ_ne (by omega)]
  · rw [dI_n a]
    by_cases b : (0 ≤ k ∧ k < n) ∧ RCG V n (x + 1) (fun j => wrT (V j) (V x 1)) k ∧ V k 0 = 12 ∧ rdI (V k) (V x 1)
    · rw [dI_y b]
      show uZ (uZ (uZ (uZ (uZ (V k) 11 12) 3 0) 4 0) 5 0) 6 0 c = V k c
      rw [uZ_ne (by omega), uZ_ne (by omega), uZ_ne (by omega), uZ_ne (by omega), uZ_ne (by omega)]
    · rw [dI_n b]
theorem rb_n (h : V k 0 ≠ 12) : rbV V n x k = V k := by
  unfold rbV
  rw [dI_n (fun z => h z.2.1), dI_n (fun z => h z.2.2.1)]
end DRL8
theorem ls_dr2 {H : RTS} {x : Int} (hx : lastD H.V H.n x) : LS8 H (H.n - 1, toV (rbV H.V H.n x) x, H.2.2) (rhL H.V H.n x) := by
  obtain ⟨x0, xn, ⟨x5, xd⟩, -⟩ := hx
  intro k R k' R' hr k0 kn
  obtain ⟨e2, hl⟩ := hr
  by_cases ex : k = x
  · -- the item that goes out
    refine ls8_si (si5 (by rw [ex]; exact x5) ⟨?_, fun g a => ?_⟩)
    · rw [e2, ex, if_pos (by omega), if_neg (by omega)]; omega
    · rw [uZ_ne (fun z => xd (by rw [← ex, ← z]; exact a))]
      exact hl g (LVV.on k0 kn (fun z => xd (by rw [← ex, z.2]; exact a)) (Or.inl ⟨by rw [ex]; omega, rfl⟩) a)
  · have at_ : ∀ l : Int, l ≠ x → toV (rbV H.V H.n x) x (if l ≤ x then l else l - 1) = rbV H.V H.n x l := fun l a => by
      unfold toV
      by_cases c : l ≤ x
      · rw [if_pos c, if_pos (by omega)]
      · rw [if_neg c, if_neg (by omega)]
        rw [show l - 1 + 1 = l by omega]
    have ay := at_ k ex
    rw [← e2] at ay
    have on : ∀ R2 R3, (∀ g, LVV H.V H.n (k + 1) g → R3 g = R2 g) → rhL H.V H.n x (k + 1) R2 (k' + 1) R3 := fun R2 R3 a => by
      refine ⟨?_, a⟩
      rw [e2]
      by_cases c : k ≤ x
      · rw [if_pos c, if_pos (by omega)]
      · rw [if_neg c, if_neg (by omega)]; omega
    have hb : 0 ≤ k' ∧ k' < H.n - 1 := by
      rw [e2]
      by_cases c : k ≤ x
      · rw [if_pos c]; omega
      · rw [if_neg c]; omega
    have c0 : ∀ c, c < 3 → toV (rbV H.V H.n x) x k' c = H.V k c := fun c a => by rw [ay]; exact rb_0 c a
    have c1 : H.V k 0 ≠ 12 → toV (rbV H.V H.n x) x k' = H.V k := fun a => by rw [ay]; exact rb_n a
    refine ls8_sc (sc8 (H2 := (H.n - 1, toV (rbV H.V H.n x) x, H.2.2)) hb (Or.inl (c0 0 (by decide))) (fun a => ?_) (fun a => ⟨c0 2 (by decide), fun j j0 j4 => ?_⟩) (fun a b c d _ => ?_) (fun a => ?_) (fun a v => ?_) (fun a l hl2 => ?_))
    · show opv R' (toV (rbV H.V H.n x) x k') 0 = _
      rw [c1 (by omega)]; exact lv_op hl k0 kn (by omega) (by decide) (by decide)
    · show opv R' (toV (rbV H.V H.n x) x k') j = _
      rw [c1 (by omega)]; exact lv_op hl k0 kn (by omega) j0 j4
    · exact on R R' (lv_on hl k0 kn (Or.inl ⟨by omega, rfl⟩) (nw_of (by omega)))
    · show rhL H.V H.n x (k + 1) _ _ (uZ R' (toV (rbV H.V H.n x) x k' 1) (val8 R' (toV (rbV H.V H.n x) x k')))
      rw [c1 (by omega), lv_val hl k0 kn a]
      exact on _ _ (lv_wr hl k0 kn (Or.inl a) _)
    · show rhL H.V H.n x (k + 1) _ _ (uZ R' (toV (rbV H.V H.n x) x k' 1) v)
      rw [c1 (by omega)]
      exact on _ _ (lv_wr hl k0 kn (Or.inr a) _)
    · have hk : H.V k 0 = 8 ∨ H.V k 0 = 9 := a.elim Or.inl (fun z => Or.inr z.1)
      have lx : l ≠ x := fun z => by have := hl2.2.2.1; rw [z] at this; omega
      have al := at_ l lx
      have l0 := hl2.1
      have ln := hl2.2.1
      have g13 := hl2.2.2.1
      refine ⟨if l ≤ x then l else l - 1, ⟨?_, ?_, ?_, ?_⟩, rfl, lv_on hl k0 kn (Or.inr ⟨hk, hl2⟩) (nw_of (by omega))⟩
      · by_cases c : l ≤ x
        · rw [if_pos c]; exact l0
        · rw [if_neg c]; omega
      · show (if l ≤ x then l else l - 1) < H.n - 1
        by_cases c : l ≤ x
        · rw [if_pos c]; omega
        · rw [if_neg c]; omega
      · show toV (rbV H.V H.n x) x (if l ≤ x then l else l - 1) 0 = 13
        rw [al, rb_0 0 (by decide)]; exact g13
      · show toV (rbV H.V H.n x) x (if l ≤ x then l else l - 1) 1 = toV (rbV H.V H.n x) x k' 1
        rw [al, rb_0 1 (by decide), c0 1 (by decide)]; exact hl2.2.2.2
theorem st_dr2 {H H2 : RTS} {x P : Int} (hx : 0 ≤ x) (e : H2.2.2 = H.2.2) : ST8 H H2 P (rhL H.V H.n x) := fun W => by
  refine ⟨(if_pos hx).symm, fun g _ => ?_⟩
  unfold cal8
  rw [show H2.na = H.na by unfold RTS.na; rw [e]]
section TRD
variable {PM : Int → Int} {r : Int} {H : RTS}
theorem TRN8.drt (hP : ∀ q, PM q ≤ 4) {X : Int × (Int → Int) × (Int → Int) × (Int → Int) × (Int → Int → Int)} {V V' : Int → It} {n n' : Int} {t : Nat} (h : DRT t V n V' n') : TRN8 PM r (n, V, X) (n', V', X) := by
  induction t generalizing V' n' with
  | zero => rw [h.1, h.2]; exact TRN8.rf
  | succ t ih =>
    obtain ⟨V1, n1, k, h1, h2, h3, h4⟩ := h
    rw [h3, h4]
    exact (ih h1).trans (TRN8.of hP (ls_dr2 (H := (n1, V1, X)) h2) (st_dr2 (H := (n1, V1, X)) h2.1 rfl))
theorem TRN8.drop (hP : ∀ q, PM q ≤ 4) {V' : Int → It} {n' w : Int} (h : DRX H.V H.n V' n' w) : TRN8 PM r H (n', V', H.2.2) := by
  obtain ⟨t, h1, -, -⟩ := h
  exact (TRN8.of hP ls_dr1 (st_dr1 rfl)).trans (TRN8.drt hP h1)
end TRD
end
