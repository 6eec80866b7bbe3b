section
def decD (V : Int → It) (H : Int → Int) (id : Int) : DT := if id < 5 then (10 + id, 0, 0, 0, 0) else if id = 5 then (1, 1, 0, 0, 0) else if id < 10 then (2, 2, H (id - 6), 0, 0) else whD (V (id - 10))
def WHO (V : Int → It) (n : Int) : Prop := ∀ k, 0 ≤ k → k < n → V k 0 = 12 → ((1 ≤ V k 11 ∧ V k 11 ≤ 7) ∨ (11 ≤ V k 11 ∧ V k 11 ≤ 14)) ∧ ((V k 11 = 1 ∨ V k 11 = 2) → V k 3 = V k 11)
def PMD (H : Int → Int) (P : Int) : Prop := ∀ i j, 0 ≤ i → i < P → 0 ≤ j → j < P → H i = H j → i = j
def CBI (V : Int → It) (P : Int) (H : Int → Int) (k : Int) : Prop := V k 0 = 12 ∧ V k 11 ≤ 7 ∧ (V k 11 = 1 → V k 4 ≠ 0) ∧ (V k 11 = 2 → ∀ i, 0 ≤ i → i < P → H i ≠ V k 4) ∧ ∀ j, 0 ≤ j → j < k → V j 0 = 12 → whD (V j) ≠ whD (V k)
def VID (V : Int → It) (n P : Int) (H : Int → Int) (id : Int) : Prop := (1 ≤ id ∧ id ≤ 5) ∨ (6 ≤ id ∧ id < 6 + P) ∨ ((10 ≤ id ∧ id < 10 + n) ∧ CBI V P H (id - 10))
section DEC
variable {V : Int → It} {n P id k r x y : Int} {H : Int → Int} {i j : It}
theorem whD_fst : (whD i).1 = i 11 := by
  unfold whD
  by_cases a : 10 ≤ i 11
  · rw [if_pos a]
  · by_cases b : 2 < i 11
    · rw [if_neg a, if_pos b]
    · rw [if_neg a, if_neg b]
theorem whD_s (h : i 11 ≤ 2) : whD i = (i 11, i 3, i 4, 0, 0) := by
  unfold whD
  rw [if_neg (by omega), if_neg (by omega)]
theorem whD_g (h : 10 ≤ i 11) : whD i = (i 11, 0, 0, 0, 0) := if_pos h
theorem whD_m (h : 2 < i 11) (g : i 11 < 10) : whD i = (i 11, i 3, i 4, i 5, i 6) := by
  unfold whD
  rw [if_neg (by omega), if_pos h]
theorem decD_1 (h : id ≤ 4) : decD V H id = (10 + id, 0, 0, 0, 0) := if_pos (by omega)
theorem decD_5 (h : id = 5) : decD V H id = (1, 1, 0, 0, 0) := by
  unfold decD
  rw [if_neg (by omega), if_pos h]
theorem decD_6 (h : 6 ≤ id ∧ id < 10) : decD V H id = (2, 2, H (id - 6), 0, 0) := by
  unfold decD
  rw [if_neg (by omega), if_neg (by omega), if_pos (by omega)]
theorem decD_x (h : 10 ≤ id) : decD V H id = whD (V (id - 10)) := by
  unfold decD
  rw [if_neg (by omega), if_neg (by omega), if_neg (by omega)]
def VSH (V : Int → It) (P : Int) (H : Int → Int) (id : Int) (d : DT) : Prop := ((1 ≤ id ∧ id ≤ 4) ∧ d = (10 + id, 0, 0, 0, 0)) ∨ (id = 5 ∧ d = (1, 1, 0, 0, 0)) ∨ ((6 ≤ id ∧ id < 6 + P) ∧ d = (2, 2, H (id - 6), 0, 0)) ∨ (10 ≤ id ∧ CBI V P H (id - 10) ∧ d = whD (V (id - 10)))
theorem VID.sh (h : VID V n P H id) (hP : P ≤ 4) : VSH V P H id (decD V H id) := by
  rcases h with h | h | h
  · by_cases z : id = 5
    · exact Or.inr (Or.inl ⟨z, decD_5 z⟩)
    · exact Or.inl ⟨by omega, decD_1 (by omega)⟩
  · exact Or.inr (Or.inr (Or.inl ⟨h, decD_6 (by omega)⟩))
  · exact Or.inr (Or.inr (Or.inr ⟨h.1.1, h.2, decD_x h.1.1⟩))
theorem cbi_5 (h : CBI V P H k) : whD (V k) ≠ (1, 1, 0, 0, 0) := fun e => by
  have f : V k 11 = 1 := whD_fst.symm.trans (congrArg Prod.fst e)
  rw [whD_s (by omega)] at e
  have g : V k 4 = 0 := congrArg (fun d : DT => d.2.2.1) e
  exact h.2.2.1 f g
theorem cbi_6 (h : CBI V P H k) {q : Int} (q0 : 0 ≤ q) (q1 : q < P) : whD (V k) ≠ (2, 2, H q, 0, 0) := fun e => by
  have f : V k 11 = 2 := whD_fst.symm.trans (congrArg Prod.fst e)
  rw [whD_s (by omega)] at e
  have g : V k 4 = H q := congrArg (fun d : DT => d.2.2.1) e
  exact h.2.2.2.1 f q q0 q1 g.symm
theorem cbi_1 (h : CBI V P H k) {q : Int} (q0 : 1 ≤ q) : whD (V k) ≠ (10 + q, 0, 0, 0, 0) := fun e => by
  have f : V k 11 = 10 + q := whD_fst.symm.trans (congrArg Prod.fst e)
  have := h.2.1
  omega
theorem dec_inj (hp : PMD H P) (hP : P ≤ 4) (a : VID V n P H x) (b : VID V n P H y) (e : decD V H x = decD V H y) : x = y := by
  have a := a.sh hP
  have b := b.sh hP
  rw [← e] at b
  rcases a with ⟨a1, a2⟩ | ⟨a1, a2⟩ | ⟨a1, a2⟩ | ⟨a1, a3, a2⟩
  · rcases b with ⟨b1, b2⟩ | ⟨b1, b2⟩ | ⟨b1, b2⟩ | ⟨b1, b3, b2⟩
    · have q : 10 + x = 10 + y := congrArg Prod.fst (a2.symm.trans b2)
      omega
    · have q : 10 + x = 1 := congrArg Prod.fst (a2.symm.trans b2)
      omega
    · have q : 10 + x = 2 := congrArg Prod.fst (a2.symm.trans b2)
      omega
    · exact absurd (b2.symm.trans a2) (cbi_1 b3 a1.1)
  · rcases b with ⟨b1, b2⟩ | ⟨b1, b2⟩ | ⟨b1, b2⟩ | ⟨b1, b3, b2⟩
    · have q : (1 : Int) = 10 + y := congrArg Prod.fst (a2.symm.trans b2)
      omega
    · omega
    · have q : (1 : Int) = 2 := congrArg Prod.fst (a2.symm.trans b2)
      omega
    · exact absurd (b2.symm.trans a2) (cbi_5 b3)
  · rcases b with ⟨b1, b2⟩ | ⟨b1, b2⟩ | ⟨b1, b2⟩ | ⟨b1, b3, b2⟩
    · have q : (2 : Int) = 10 + y := congrArg Prod.fst (a2.symm.trans b2)
      omega
    · have q : (2 : Int) = 1 := congrArg Prod.fst (a2.symm.trans b2)
      omega
    · have q : H (x - 6) = H (y - 6) := congrArg (fun d : DT => d.2.2.1) (a2.symm.trans b2)
      have w := hp _ _ (by omega) (by omega) (by omega) (by omega) q
      omega
    · exact absurd (b2.symm.trans a2) (cbi_6 b3 (by omega) (by omega))
  · rcases b with ⟨b1, b2⟩ | ⟨b1, b2⟩ | ⟨b1, b2⟩ | ⟨b1, b3, b2⟩
    · exact absurd (a2.symm.trans b2) (cbi_1 a3 b1.1)
    · exact absurd (a2.symm.trans b2) (cbi_5 a3)
    · exact absurd (a2.symm.trans b2) (cbi_6 a3 (by omega) (by omega))
    · have q := a2.symm.trans b2
      by_cases l : x < y
      · exact absurd q (b3.2.2.2.2 _ (by omega) (by omega) a3.1)
      · by_cases m : y < x
        · exact absurd q.symm (a3.2.2.2.2 _ (by omega) (by omega) b3.1)
        · omega
def NBI (V : Int → It) (n P : Int) (H : Int → Int) (k id : Int) : Prop := VID V n P H id ∧ decD V H id = whD (V k)
theorem NBI.gone (hw : WHO V n) (h0 : 0 ≤ k) (h1 : k < n) (hb : V k 0 = 12) (h : 10 ≤ V k 11) : NBI V n P H k (V k 11 - 10) := by
  have q := (hw k h0 h1 hb).1
  refine ⟨Or.inl (by omega), ?_⟩
  rw [decD_1 (by omega), whD_g h, show 10 + (V k 11 - 10) = V k 11 by omega]
theorem NBI.zero (hw : WHO V n) (h0 : 0 ≤ k) (h1 : k < n) (hb : V k 0 = 12) (h : V k 11 = 1) (hz : V k 4 = 0) : NBI V n P H k 5 := by
  have q := (hw k h0 h1 hb).2 (Or.inl h)
  refine ⟨Or.inl (by omega), ?_⟩
  rw [decD_5 rfl, whD_s (by omega), q, hz, h]
theorem NBI.par {q : Int} (hw : WHO V n) (h0 : 0 ≤ k) (h1 : k < n) (hb : V k 0 = 12) (h : V k 11 = 2) (q0 : 0 ≤ q) (q1 : q < P) (hP : P ≤ 4) (hq : H q = V k 4) : NBI V n P H k (6 + q) := by
  have w := (hw k h0 h1 hb).2 (Or.inr h)
  refine ⟨Or.inr (Or.inl (by omega)), ?_⟩
  rw [decD_6 (by omega), whD_s (by omega), w, h, show 6 + q - 6 = q by omega, hq]
theorem NBI.first {f : Int} (hw : WHO V n) (f0 : 0 ≤ f) (f1 : f ≤ k) (h1 : k < n) (hb : V k 0 = 12) (hf : V f 0 = 12) (h : ¬ 10 ≤ V k 11) (hz : ¬ (V k 11 = 1 ∧ V k 4 = 0)) (hp : V k 11 = 2 → ∀ q, 0 ≤ q → q < P → H q ≠ V k 4) (he : whD (V f) = whD (V k)) (hl : ∀ j, 0 ≤ j → j < f → V j 0 = 12 → whD (V j) ≠ whD (V k)) : NBI V n P H k (10 + f) := by
  have e11 : V f 11 = V k 11 := whD_fst.symm.trans ((congrArg Prod.fst he).trans whD_fst)
  have q := (hw k (by omega) h1 hb).1
  have e4 : V k 11 ≤ 2 → V f 4 = V k 4 := fun z => by
    rw [whD_s (by omega), whD_s (by omega)] at he
    exact congrArg (fun d : DT => d.2.2.1) he
  refine ⟨Or.inr (Or.inr ⟨by omega, ?_⟩), ?_⟩
  · rw [show 10 + f - 10 = f by omega]
    refine ⟨hf, by omega, fun z1 z2 => hz ⟨by omega, by rw [← e4 (by omega)]; exact z2⟩, fun z1 i a b c => hp (by omega) i a b (by rw [← e4 (by omega)]; exact c), fun j a b c => ?_⟩
    rw [he]; exact hl j a b c
  · rw [decD_x (by omega), show 10 + f - 10 = f by omega, he]
theorem ln_dec (hw : WHO V n) (hP : P ≤ 4) (a : VID V n P H id) : lnD (decD V H id) r ↔ ((6 ≤ id ∧ id < 10) ∧ H (id - 6) = r) ∨ (10 ≤ id ∧ ((V (id - 10) 11 = 2 ∧ V (id - 10) 4 = r) ∨ (V (id - 10) 11 ≠ 2 ∧ ((V (id - 10) 3 = 2 ∧ V (id - 10) 4 = r) ∨ (2 < V (id - 10) 11 ∧ V (id - 10) 5 = 2 ∧ V (id - 10) 6 = r))))) := by
  rcases a with a | a | a
  · constructor
    · intro l
      by_cases z : id = 5
      · rw [decD_5 z] at l
        rcases l with l | l
        · exact absurd (show (1 : Int) = 2 from l.1) (by decide)
        · exact absurd (show (0 : Int) = 2 from l.1) (by decide)
      · rw [decD_1 (by omega)] at l
        rcases l with l | l
        · exact absurd (show (0 : Int) = 2 from l.1) (by decide)
        · exact absurd (show (0 : Int) = 2 from l.1) (by decide)
    · intro l; omega
  · rw [decD_6 (by omega)]
    constructor
    · intro l
      rcases l with l | l
      · exact Or.inl ⟨by omega, l.2⟩
      · exact absurd (show (0 : Int) = 2 from l.1) (by decide)
    · intro l
      rcases l with l | l
      · exact Or.inl ⟨rfl, l.2⟩
      · omega
  · have b := a.2
    have w := hw (id - 10) (by omega) (by omega) b.1
    have b7 := b.2.1
    rw [decD_x a.1.1]
    by_cases s : V (id - 10) 11 ≤ 2
    · have w3 := w.2 (by omega)
      rw [whD_s s, w3]
      constructor
      · intro l
        rcases l with l | l
        · have l1 : V (id - 10) 11 = 2 := l.1
          exact Or.inr ⟨a.1.1, Or.inl ⟨l1, l.2⟩⟩
        · exact absurd (show (0 : Int) = 2 from l.1) (by decide)
      · intro l
        rcases l with l | ⟨-, l | ⟨l1, l | l⟩⟩
        · omega
        · exact Or.inl ⟨l.1, l.2⟩
        · omega
        · omega
    · rw [whD_m (by omega) (by omega)]
      constructor
      · intro l
        rcases l with l | l
        · exact Or.inr ⟨a.1.1, Or.inr ⟨by omega, Or.inl ⟨l.1, l.2⟩⟩⟩
        · exact Or.inr ⟨a.1.1, Or.inr ⟨by omega, Or.inr ⟨by omega, l.1, l.2⟩⟩⟩
      · intro l
        rcases l with l | ⟨-, l | ⟨l1, l | l⟩⟩
        · omega
        · omega
        · exact Or.inl ⟨l.1, l.2⟩
        · exact Or.inr ⟨l.2.1, l.2.2⟩
end DEC
def stC (V : Int → It) (H : Int → Int) (id : Int) : Option DT := if id = 0 then none else some (decD V H id)
def cjI (was iz : Int) : Int := if was = iz ∨ was = 4 then was else if was = 0 then iz else 4
section CJS
variable {V : Int → It} {n P was iz id k : Int} {H : Int → Int}
theorem dec_4 : decD V H 4 = topD := decD_1 (by decide)
theorem stC_n (h : id ≠ 0) : stC V H id = some (decD V H id) := if_neg h
theorem stC_0 : stC V H 0 = none := if_pos rfl
theorem VID.ne (h : VID V n P H id) : id ≠ 0 := by
  rcases h with h | h | h
  · omega
  · omega
  · have := h.1; omega
theorem VID.four : VID V n P H 4 := Or.inl (by decide)
theorem cj_vid (a : was = 0 ∨ VID V n P H was) (b : VID V n P H iz) : VID V n P H (cjI was iz) := by
  unfold cjI
  by_cases z : was = iz ∨ was = 4
  · rw [if_pos z]
    rcases z with z | z
    · rw [z]; exact b
    · rw [z]; exact VID.four
  · rw [if_neg z]
    by_cases q : was = 0
    · rw [if_pos q]; exact b
    · rw [if_neg q]; exact VID.four
theorem cj_was (b : VID V n P H iz) : leD (stC V H was) (stC V H (cjI was iz)) := by
  unfold cjI
  by_cases z : was = iz ∨ was = 4
  · rw [if_pos z]; exact leD.rfl
  · rw [if_neg z]
    by_cases q : was = 0
    · rw [q, stC_0]; exact Or.inl rfl
    · rw [if_neg q, stC_n (id := 4) (by decide), dec_4]; exact leD.top
theorem cj_is (b : VID V n P H iz) : leD (some (decD V H iz)) (stC V H (cjI was iz)) := by
  unfold cjI
  by_cases z : was = iz ∨ was = 4
  · rw [if_pos z]
    rcases z with z | z
    · rw [z, stC_n b.ne]; exact leD.rfl
    · rw [z, stC_n (id := 4) (by decide), dec_4]; exact leD.top
  · rw [if_neg z]
    by_cases q : was = 0
    · rw [if_pos q, stC_n b.ne]; exact leD.rfl
    · rw [if_neg q, stC_n (id := 4) (by decide), dec_4]; exact leD.top
theorem cj_le {u : Option DT} (hp : PMD H P) (hP : P ≤ 4) (a : was = 0 ∨ VID V n P H was) (b : VID V n P H iz) (h1 : leD (stC V H was) u) (h2 : leD (some (decD V H iz)) u) : leD (stC V H (cjI was iz)) u := by
  unfold cjI
  by_cases z : was = iz ∨ was = 4
  · rw [if_pos z]; exact h1
  · rw [if_neg z]
    by_cases q : was = 0
    · rw [if_pos q, stC_n b.ne]; exact h2
    · rw [if_neg q]
      rcases a with a | a
      · exact absurd a q
      · rw [stC_n a.ne] at h1
        have w := leD.join h1 h2 (fun e => z (Or.inl (dec_inj hp hP a b e)))
        rw [w]; exact leD.top
def rkI (id : Int) : Nat := if id = 0 then 2 else if id = 4 then 0 else 1
theorem rk_cj (h : iz ≠ 0) : rkI (cjI was iz) ≤ rkI was ∧ (cjI was iz ≠ was → rkI (cjI was iz) < rkI was) := by
  unfold cjI rkI
  by_cases z : was = iz ∨ was = 4
  · rw [if_pos z]; exact ⟨Nat.le_refl _, fun q => absurd rfl q⟩
  · rw [if_neg z]
    by_cases q : was = 0
    · rw [if_pos q, if_neg h, if_pos q]
      by_cases w : iz = 4
      · rw [if_pos w]; omega
      · rw [if_neg w]; omega
    · rw [if_neg q, if_neg (show ¬ ((4 : Int) = 0) by decide), if_pos rfl, if_neg q, if_neg (fun e => z (Or.inr e))]
      omega
def rkN (f : Int → Int) : Nat → Nat
  | 0 => 0
  | N + 1 => rkN f N + rkI (f N)
theorem rkN_le {f : Int → Int} {N : Nat} : rkN f N ≤ 2 * N := by
  induction N with
  | zero => exact Nat.le_refl _
  | succ N ih =>
    have q : rkI (f N) ≤ 2 := by
      unfold rkI
      by_cases z : f N = 0
      · rw [if_pos z]; exact Nat.le_refl _
      · rw [if_neg z]
        by_cases w : f N = 4
        · rw [if_pos w]; omega
        · rw [if_neg w]; omega
    show rkN f N + rkI (f N) ≤ 2 * (N + 1)
    omega
theorem rkN_mono {f g : Int → Int} {N : Nat} (h : ∀ z : Int, 0 ≤ z → z < (N : Int) → rkI (g z) ≤ rkI (f z)) : rkN g N ≤ rkN f N := by
  induction N with
  | zero => exact Nat.le_refl _
  | succ N ih =>
    have a := ih (fun z p q => h z p (by omega))
    have b := h N (by omega) (by omega)
    show rkN g N + rkI (g N) ≤ rkN f N + rkI (f N)
    omega
theorem rkN_lt {f g : Int → Int} {N : Nat} (h : ∀ z : Int, 0 ≤ z → z < (N : Int) → rkI (g z) ≤ rkI (f z)) {y : Int} (y0 : 0 ≤ y) (y1 : y < N) (hy : rkI (g y) < rkI (f y)) : rkN g N < rkN f N := by
  induction N with
  | zero => omega
  | succ N ih =>
    show rkN g N + rkI (g N) < rkN f N + rkI (f N)
    by_cases z : y = (N : Int)
    · have a := rkN_mono (N := N) (fun z p q => h z p (by omega))
      rw [z] at hy
      omega
    · have a := ih (fun z p q => h z p (by omega)) (by omega)
      have b := h N (by omega) (by omega)
      omega
end CJS
def slN (Hn : Int → Int) : Nat → Int
  | 0 => 1
  | f + 1 => slN Hn f + Hn f
def slF (Hn : Int → Int) (f : Int) : Int := slN Hn f.toNat
section SLS
variable {Hn : Int → Int} {f g m u F : Int}
theorem slF_s (h : 0 ≤ f) : slF Hn (f + 1) = slF Hn f + Hn f := by
  unfold slF
  rw [show (f + 1).toNat = f.toNat + 1 by omega]
  show slN Hn f.toNat + Hn ((f.toNat : Nat) : Int) = _
  rw [show ((f.toNat : Nat) : Int) = f by omega]
theorem slF_0 : slF Hn 0 = 1 := rfl
theorem slF_up (hn : ∀ q, 0 ≤ q → q < F → 0 ≤ Hn q) (h0 : 0 ≤ f) : ∀ j : Nat, f + j < F → slF Hn f + Hn f ≤ slF Hn (f + 1 + j) := by
  intro j
  induction j with
  | zero => intro _; rw [show f + 1 + ((0 : Nat) : Int) = f + 1 by omega, slF_s h0]; exact Int.le_refl _
  | succ j ih =>
    intro h
    have a := ih (by omega)
    have b := slF_s (Hn := Hn) (f := f + 1 + j) (by omega)
    have c := hn (f + 1 + j) (by omega) (by omega)
    rw [show f + 1 + ((j + 1 : Nat) : Int) = f + 1 + j + 1 by omega]
    omega
theorem slF_lt (hn : ∀ q, 0 ≤ q → q < F → 0 ≤ Hn q) (h0 : 0 ≤ f) (h : f < g) (hg : g ≤ F) : slF Hn f + Hn f ≤ slF Hn g := by
  have q := slF_up hn h0 (g - f - 1).toNat (by omega)
  rw [show f + 1 + ((g - f - 1).toNat : Int) = g by omega] at q
  exact q
theorem slF_pos (hn : ∀ q, 0 ≤ q → q < F → 0 ≤ Hn q) (h0 : 0 ≤ f) (h : f ≤ F) : 1 ≤ slF Hn f := by
  by_cases z : f = 0
  · rw [z]; exact Int.le_refl _
  · have q := slF_lt (f := 0) hn (by decide) (show 0 < f by omega) h
    have w := hn 0 (by decide) (by omega)
    rw [slF_0] at q
    omega
theorem slF_in (hn : ∀ q, 0 ≤ q → q < F → 0 ≤ Hn q) (f0 : 0 ≤ f) (f1 : f < F) (g0 : 0 ≤ g) (g1 : g < F) (m0 : 0 ≤ m) (m1 : m < Hn f) : (slF Hn g ≤ slF Hn f + m ∧ slF Hn f + m < slF Hn g + Hn g) ↔ f = g := by
  constructor
  · intro h
    by_cases a : f < g
    · have := slF_lt hn f0 a (by omega); omega
    · by_cases b : g < f
      · have := slF_lt hn g0 b (by omega); omega
      · omega
  · intro h
    rw [← h]
    omega
theorem slF_eq (hn : ∀ q, 0 ≤ q → q < F → 0 ≤ Hn q) (f0 : 0 ≤ f) (f1 : f < F) (g0 : 0 ≤ g) (g1 : g < F) (m0 : 0 ≤ m) (m1 : m < Hn f) (u0 : 0 ≤ u) (u1 : u < Hn g) : slF Hn f + m = slF Hn g + u ↔ (g = f ∧ u = m) := by
  constructor
  · intro h
    have e := (slF_in hn f0 f1 g0 g1 m0 m1).mp (by omega)
    rw [e] at h
    exact ⟨e.symm, by omega⟩
  · intro h
    rw [h.1, h.2]
end SLS
def lnI (V : Int → It) (H : Int → Int) (id r : Int) : Prop := ((6 ≤ id ∧ id < 10) ∧ H (id - 6) = r) ∨ (10 ≤ id ∧ ((V (id - 10) 11 = 2 ∧ V (id - 10) 4 = r) ∨ (V (id - 10) 11 ≠ 2 ∧ ((V (id - 10) 3 = 2 ∧ V (id - 10) 4 = r) ∨ (2 < V (id - 10) 11 ∧ V (id - 10) 5 = 2 ∧ V (id - 10) 6 = r)))))
def trI (V : Int → It) (H Hn : Int → Int) (bk : Int) (i : It) (z id y : Int) : Prop := (i 0 = 12 ∧ ((z = slF Hn (i 2) + i 1 ∧ y = bk) ∨ (z ≠ slF Hn (i 2) + i 1 ∧ y = id))) ∨ (i 0 = 15 ∧ (((slF Hn (i 1) ≤ z ∧ z < slF Hn (i 1) + Hn (i 1)) ∧ y = 1) ∨ (¬ (slF Hn (i 1) ≤ z ∧ z < slF Hn (i 1) + Hn (i 1)) ∧ y = id))) ∨ ((i 0 ≠ 12 ∧ i 0 ≠ 15) ∧ ((((i 0 ≤ 5 ∨ i 0 = 10) ∧ lnI V H id (i 1)) ∧ y = 3) ∨ (¬ ((i 0 ≤ 5 ∨ i 0 = 10) ∧ lnI V H id (i 1)) ∧ y = id)))
section TRI
variable {V : Int → It} {H Hn : Int → Int} {n P F k z id y bk f m : Int}
theorem trI.vid (h : trI V H Hn bk (V k) z id y) (a : VID V n P H id) (b : V k 0 = 12 → VID V n P H bk) : VID V n P H y := by
  rcases h with ⟨h0, h | h⟩ | ⟨h0, h | h⟩ | ⟨h0, h | h⟩
  · rw [h.2]; exact b h0
  · rw [h.2]; exact a
  · rw [h.2]; exact Or.inl (by decide)
  · rw [h.2]; exact a
  · rw [h.2]; exact Or.inl (by decide)
  · rw [h.2]; exact a
theorem trI.dec (h : trI V H Hn bk (V k) (slF Hn f + m) id y) (hw : WHO V n) (hP : P ≤ 4) (a : VID V n P H id) (b : V k 0 = 12 → NBI V n P H k bk) (hn : ∀ q, 0 ≤ q → q < F → 0 ≤ Hn q) (f0 : 0 ≤ f) (f1 : f < F) (m0 : 0 ≤ m) (m1 : m < Hn f) (hY : V k 0 = 12 → (0 ≤ V k 2 ∧ V k 2 < F) ∧ 0 ≤ V k 1 ∧ V k 1 < Hn (V k 2)) (hX : V k 0 = 15 → 0 ≤ V k 1 ∧ V k 1 < F) : decD V H y = trD f m (V k) (decD V H id) := by
  rcases h with ⟨h0, h⟩ | ⟨h0, h⟩ | ⟨h0, h⟩
  · have q := hY h0
    have e := slF_eq hn f0 f1 q.1.1 q.1.2 m0 m1 q.2.1 q.2.2
    rw [trD_bind h0]
    rcases h with ⟨h1, h2⟩ | ⟨h1, h2⟩
    · rw [if_pos (e.mp h1), h2]; exact (b h0).2
    · rw [if_neg (fun w => h1 (e.mpr w)), h2]
  · have q := hX h0
    have e := slF_in hn f0 f1 q.1 q.2 m0 m1
    rw [trD_leave h0]
    rcases h with ⟨h1, h2⟩ | ⟨h1, h2⟩
    · rw [if_pos (e.mp h1).symm, h2]; exact decD_1 (by decide)
    · rw [if_neg (fun w => h1 (e.mpr w.symm)), h2]
  · have e : lnD (decD V H id) (V k 1) ↔ lnI V H id (V k 1) := ln_dec hw hP a
    rw [trD_oth h0.1 h0.2]
    rcases h with ⟨h1, h2⟩ | ⟨h1, h2⟩
    · rw [if_pos ⟨h1.1, e.mpr h1.2⟩, h2]; exact decD_1 (by decide)
    · rw [if_neg (fun w => h1 ⟨w.1, e.mp w.2⟩), h2]
end TRI
abbrev TBL : Type := Int → Int → Int
def TBK (V : Int → It) (n P N : Int) (H Hn : Int → Int) (F wd : Int) (tb : TBL) : Prop := (∀ k i, 0 ≤ k → k ≤ n → 0 ≤ i → i < wd → (tb k i = 0 ∨ VID V n P H (tb k i)) ∧ (tb k i = 0 ↔ tb k 0 = 0)) ∧ (∀ f m, 0 ≤ f → f < F → 0 ≤ m → m < Hn f → SND V n (bgD P N H f m) f m (fun k => stC V H (tb k (slF Hn f + m)))) ∧ tb 0 0 ≠ 0 ∧ ∀ f m, 0 ≤ f → f < F → 0 ≤ m → m < Hn f → leD (some (bgD P N H f m)) (stC V H (tb 0 (slF Hn f + m)))
def TST (V : Int → It) (H Hn : Int → Int) (wd : Int) (b : Int → Int) (k : Int) (tb : TBL) (st : Int → Int) : Prop := ∀ i, 0 ≤ i → i < wd → trI V H Hn (b k) (V k) i (tb k i) (st i)
def TCE (V : Int → It) (H : Int → Int) (n wd k : Int) (tb : TBL) (st : Int → Int) : Prop := ∀ t, EDv V n k t → ∀ i, 0 ≤ i → i < wd → leD (some (decD V H (st i))) (stC V H (tb t i))
def TCL (V : Int → It) (H Hn : Int → Int) (n wd : Int) (b : Int → Int) (k : Int) (tb : TBL) : Prop := ∀ j, 0 ≤ j → j < k → tb j 0 ≠ 0 → ∃ st, TST V H Hn wd b j tb st ∧ TCE V H n wd j tb st
section TBS
variable {V : Int → It} {H Hn : Int → Int} {n P N F wd k t : Int} {tb tb2 : TBL} {b st : Int → Int}
def TFX (V : Int → It) (n P : Int) (H Hn : Int → Int) (F wd : Int) (b : Int → Int) : Prop := (WHO V n ∧ PMD H P ∧ P ≤ 4 ∧ 0 ≤ n) ∧ ((∀ q, 0 ≤ q → q < F → 0 ≤ Hn q) ∧ wd = slF Hn F) ∧ (∀ k, 0 ≤ k → k < n → V k 0 = 12 → NBI V n P H k (b k) ∧ (0 ≤ V k 2 ∧ V k 2 < F) ∧ 0 ≤ V k 1 ∧ V k 1 < Hn (V k 2)) ∧ ∀ k, 0 ≤ k → k < n → V k 0 = 15 → 0 ≤ V k 1 ∧ V k 1 < F
theorem TFX.slot (x : TFX V n P H Hn F wd b) {f m : Int} (f0 : 0 ≤ f) (f1 : f < F) (m0 : 0 ≤ m) (m1 : m < Hn f) : 0 ≤ slF Hn f + m ∧ slF Hn f + m < wd := by
  have a := slF_pos (f := f) x.2.1.1 f0 (by omega)
  have q := slF_lt (g := F) x.2.1.1 f0 f1 (by omega)
  have w := x.2.1.2
  omega
theorem TST.vid (s : TST V H Hn wd b k tb st) (x : TFX V n P H Hn F wd b) (h : TBK V n P N H Hn F wd tb) (k0 : 0 ≤ k) (k1 : k < n) (hr : tb k 0 ≠ 0) {i : Int} (i0 : 0 ≤ i) (i1 : i < wd) : VID V n P H (st i) := by
  have q := h.1 k i k0 (by omega) i0 i1
  have a : VID V n P H (tb k i) := q.1.elim (fun z => absurd (q.2.mp z) hr) (fun z => z)
  exact (s i i0 i1).vid a (fun z => (x.2.2.1 k k0 k1 z).1.1)
theorem TBK.come (h : TBK V n P N H Hn F wd tb) (x : TFX V n P H Hn F wd b) (s : TST V H Hn wd b k tb st) (k0 : 0 ≤ k) (k1 : k < n) (hr : tb k 0 ≠ 0) (hsv : ∀ i, 0 ≤ i → i < wd → VID V n P H (st i)) (hsd : ∀ f m, 0 ≤ f → f < F → 0 ≤ m → m < Hn f → ∀ ψ, ClD V n (bgD P N H f m) f m ψ → leD (some (decD V H (st (slF Hn f + m)))) (ψ t)) (t0 : 0 ≤ t) (t1 : t ≤ n) (e : ∀ j i, 0 ≤ j → j ≤ n → 0 ≤ i → i < wd → tb2 j i = if j = t then cjI (tb j i) (st i) else tb j i) (w0 : 0 < wd) : TBK V n P N H Hn F wd tb2 := by
  obtain ⟨a1, a2, a3, a4⟩ := h
  have nz : ∀ i, 0 ≤ i → i < wd → tb2 t i ≠ 0 := fun i i0 i1 => by
    rw [e t i t0 t1 i0 i1, if_pos rfl]
    exact (cj_vid (a1 t i t0 t1 i0 i1).1 (hsv i i0 i1)).ne
  refine ⟨fun j i j0 j1 i0 i1 => ?_, fun f m f0 f1 m0 m1 => ?_, ?_, fun f m f0 f1 m0 m1 => ?_⟩
  · by_cases z : j = t
    · rw [z]
      have q := nz i i0 i1
      have w := nz 0 (by decide) w0
      refine ⟨Or.inr ?_, fun r => absurd r q, fun r => absurd r w⟩
      rw [e t i t0 t1 i0 i1, if_pos rfl]
      exact cj_vid (a1 t i t0 t1 i0 i1).1 (hsv i i0 i1)
    · rw [e j i j0 j1 i0 i1, e j 0 j0 j1 (by decide) w0, if_neg z, if_neg z]
      exact a1 j i j0 j1 i0 i1
  · have sl := x.slot f0 f1 m0 m1
    intro ψ c j j0 j1
    show leD (stC V H (tb2 j (slF Hn f + m))) (ψ j)
    rw [e j _ j0 j1 sl.1 sl.2]
    by_cases z : j = t
    · rw [if_pos z, z]
      exact cj_le x.1.2.1 x.1.2.2.1 (a1 t _ t0 t1 sl.1 sl.2).1 (hsv _ sl.1 sl.2) (a2 f m f0 f1 m0 m1 ψ c t t0 t1) (hsd f m f0 f1 m0 m1 ψ c)
    · rw [if_neg z]; exact a2 f m f0 f1 m0 m1 ψ c j j0 j1
  · by_cases z : (0 : Int) = t
    · have q := nz 0 (by decide) w0
      rw [← z] at q; exact q
    · rw [e 0 0 (by decide) (by omega) (by decide) w0, if_neg z]; exact a3
  · have sl := x.slot f0 f1 m0 m1
    rw [e 0 _ (by decide) (by omega) sl.1 sl.2]
    by_cases z : (0 : Int) = t
    · rw [if_pos z]
      exact (a4 f m f0 f1 m0 m1).trans (cj_was (hsv _ sl.1 sl.2))
    · rw [if_neg z]; exact a4 f m f0 f1 m0 m1
theorem TST.snd (s : TST V H Hn wd b k tb st) (h : TBK V n P N H Hn F wd tb) (x : TFX V n P H Hn F wd b) (k0 : 0 ≤ k) (k1 : k < n) (hr : tb k 0 ≠ 0) (e : EDv V n k t) {f m : Int} (f0 : 0 ≤ f) (f1 : f < F) (m0 : 0 ≤ m) (m1 : m < Hn f) {ψ : Int → Option DT} (c : ClD V n (bgD P N H f m) f m ψ) : leD (some (decD V H (st (slF Hn f + m)))) (ψ t) := by
  have sl := x.slot f0 f1 m0 m1
  have q := h.1 k _ k0 (by omega) sl.1 sl.2
  have nz : tb k (slF Hn f + m) ≠ 0 := fun z => hr (q.2.mp z)
  have a : VID V n P H (tb k (slF Hn f + m)) := q.1.elim (fun z => absurd z nz) (fun z => z)
  rw [(s _ sl.1 sl.2).dec x.1.1 x.1.2.2.1 a (fun z => (x.2.2.1 k k0 k1 z).1) x.2.1.1 f0 f1 m0 m1 (fun z => (x.2.2.1 k k0 k1 z).2) (fun z => x.2.2.2 k k0 k1 z)]
  have w : leD (stC V H (tb k (slF Hn f + m))) (ψ k) := h.2.1 f m f0 f1 m0 m1 ψ c k k0 (by omega)
  rw [stC_n nz] at w
  exact c.step k0 k1 e w
theorem TBK.fin (h : TBK V n P N H Hn F wd tb) (x : TFX V n P H Hn F wd b) (c : TCL V H Hn n wd b n tb) {f m : Int} (f0 : 0 ≤ f) (f1 : f < F) (m0 : 0 ≤ m) (m1 : m < Hn f) : LFD V n (bgD P N H f m) f m (fun k => stC V H (tb k (slF Hn f + m))) := by
  refine ⟨⟨h.2.2.2 f m f0 f1 m0 m1, fun k t d k0 k1 e q => ?_⟩, h.2.1 f m f0 f1 m0 m1⟩
  have q : stC V H (tb k (slF Hn f + m)) = some d := q
  have sl := x.slot f0 f1 m0 m1
  have r := h.1 k _ k0 (by omega) sl.1 sl.2
  have nz : tb k (slF Hn f + m) ≠ 0 := fun z => by rw [z, stC_0] at q; exact absurd q (by simp)
  have a : VID V n P H (tb k (slF Hn f + m)) := r.1.elim (fun z => absurd z nz) (fun z => z)
  obtain ⟨st, s1, s2⟩ := c k k0 k1 (fun z => nz (r.2.mpr z))
  have w := s2 t e _ sl.1 sl.2
  rw [(s1 _ sl.1 sl.2).dec x.1.1 x.1.2.2.1 a (fun z => (x.2.2.1 k k0 k1 z).1) x.2.1.1 f0 f1 m0 m1 (fun z => (x.2.2.1 k k0 k1 z).2) (fun z => x.2.2.2 k k0 k1 z)] at w
  rw [stC_n nz] at q
  rw [← Option.some.inj q]
  exact w
end TBS
end
