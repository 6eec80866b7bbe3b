section
abbrev G8 : Type := Int → Int
abbrev F8 : Type := Int × Int × G8 × Int
abbrev E8 : Type := Int × Int
def opv (R : G8) (i : It) (j : Int) : Int := if i (3 + 2 * j) = 2 then R (i (4 + 2 * j)) else i (4 + 2 * j)
def val8 (R : G8) (i : It) : Int := if i 0 = 0 then opv R i 0 else wkd (i 0) (opv R i 0) (opv R i 1)
def ist (H : RTS) (k : Int) (R : G8) (d : Int) (e : E8) (k2 : Int) (R2 : G8) (d2 : Int) : Prop :=
  (0 ≤ k ∧ k < H.n) ∧ (
  (H.V k 0 ≤ 5 ∧ e = (0, 0) ∧ k2 = k + 1 ∧ R2 = uZ R (H.V k 1) (val8 R (H.V k)) ∧ d2 = d) ∨
  (H.V k 0 = 6 ∧ e = (1, opv R (H.V k) 0) ∧ k2 = k + 1 ∧ R2 = R ∧ d2 = d) ∨
  ((H.V k 0 = 8 ∨ (H.V k 0 = 9 ∧ opv R (H.V k) 0 = 0)) ∧ e = (0, 0) ∧ TGv H.V H.n k k2 ∧ R2 = R ∧ d2 = d) ∨
  (((H.V k 0 = 9 ∧ opv R (H.V k) 0 ≠ 0) ∨ H.V k 0 = 12 ∨ H.V k 0 = 13) ∧ e = (0, 0) ∧ k2 = k + 1 ∧ R2 = R ∧ d2 = d) ∨
  (H.V k 0 = 11 ∧ e = (2, 0) ∧ k2 = k + 1 ∧ R2 = R ∧ d2 = d) ∨
  (H.V k 0 = 14 ∧ d ≤ 8 ∧ e = (0, 0) ∧ k2 = k + 1 ∧ R2 = R ∧ d2 = d + 1) ∨
  (H.V k 0 = 15 ∧ e = (0, 0) ∧ k2 = k + 1 ∧ R2 = R ∧ d2 = d - 1))
def cal8 (G : RTS) (P : Int) (W : Int → Int) : G8 := pwR (G.na 0) W P.toNat (fun _ => 0)
def stp8 (Gs : Int → RTS) (PM : Int → Int) (s : List F8) (e : E8) (s2 : List F8) : Prop :=
  ∃ (r k : Int) (R : G8) (d : Int) (rest : List F8), s = (r, k, R, d) :: rest ∧ (
    (∃ k2 R2 d2, ist (Gs r) k R d e k2 R2 d2 ∧ s2 = (r, k2, R2, d2) :: rest) ∨
    ((0 ≤ k ∧ k < (Gs r).n) ∧ (
      ((Gs r).V k 0 = 10 ∧ d ≤ 8 ∧ e = (0, 0) ∧ s2 = ((Gs r).V k 2, 0, cal8 (Gs ((Gs r).V k 2)) (PM ((Gs r).V k 2)) (opv R ((Gs r).V k)), d + 1) :: (r, k, R, d) :: rest) ∨
      (((Gs r).V k 0 = 10 ∨ (Gs r).V k 0 = 14) ∧ 9 ≤ d ∧ e = (4, 0) ∧ s2 = []) ∨
      ((Gs r).V k 0 = 7 ∧ ((rest = [] ∧ e = (3, opv R ((Gs r).V k) 0) ∧ s2 = []) ∨ ∃ (r1 k1 : Int) (R1 : G8) (d1 : Int) (rest1 : List F8), rest = (r1, k1, R1, d1) :: rest1 ∧ e = (0, 0) ∧ s2 = (r1, k1 + 1, uZ R1 ((Gs r1).V k1 1) (opv R ((Gs r).V k) 0), d1) :: rest1)))))
def ev8 (e : E8) : List E8 := if e = (0, 0) then [] else [e]
def run8 (Gs : Int → RTS) (PM : Int → Int) : Nat → List F8 → List E8 → List F8 → Prop
  | 0, s, L, s2 => L = [] ∧ s2 = s
  | n + 1, s, L, s2 => ∃ e s1 L1, stp8 Gs PM s e s1 ∧ run8 Gs PM n s1 L1 s2 ∧ L = ev8 e ++ L1
def sil (H : RTS) (d : Int) : Nat → Int → G8 → Int → G8 → Prop
  | 0, k, R, k2, R2 => k2 = k ∧ R2 = R
  | n + 1, k, R, k2, R2 => ∃ k1 R1, ist H k R d (0, 0) k1 R1 d ∧ sil H d n k1 R1 k2 R2
theorem ev8_z : ev8 (0, 0) = [] := if_pos rfl
section MAC8
variable {Gs Gs2 : Int → RTS} {PM : Int → Int} {s s1 s2 t t2 rest : List F8} {L L2 : List E8} {e : E8} {q k k2 d d2 r P : Int} {R R2 : G8} {H H2 : RTS}
theorem run8.trans {m n : Nat} (h : run8 Gs PM m s L s1) (g : run8 Gs PM n s1 L2 s2) : run8 Gs PM (m + n) s (L ++ L2) s2 := by
  induction m generalizing s L with
  | zero =>
    obtain ⟨e1, e2⟩ := h
    rw [e1, ← e2, Nat.zero_add]
    exact g
  | succ m ih =>
    obtain ⟨e, x, L1, h1, h2, e1⟩ := h
    rw [show m + 1 + n = m + n + 1 by omega, e1, List.append_assoc]
    exact ⟨e, x, L1 ++ L2, h1, ih h2, rfl⟩
theorem run8.one (h : stp8 Gs PM s e s2) : run8 Gs PM 1 s (ev8 e) s2 := ⟨e, s2, [], h, ⟨rfl, rfl⟩, (List.append_nil _).symm⟩
theorem ist.stp (h : ist (Gs q) k R d e k2 R2 d2) : stp8 Gs PM ((q, k, R, d) :: rest) e ((q, k2, R2, d2) :: rest) := ⟨q, k, R, d, rest, rfl, Or.inl ⟨k2, R2, d2, h, rfl⟩⟩
theorem sil.run {n : Nat} (h : sil (Gs q) d n k R k2 R2) : run8 Gs PM n ((q, k, R, d) :: rest) [] ((q, k2, R2, d) :: rest) := by
  induction n generalizing k R with
  | zero =>
    obtain ⟨e1, e2⟩ := h
    rw [e1, e2]
    exact ⟨rfl, rfl⟩
  | succ n ih =>
    obtain ⟨k1, R1, h1, h2⟩ := h
    exact ⟨(0, 0), _, [], h1.stp, ih h2, by rw [ev8_z]; rfl⟩
theorem sil.z : sil H d 0 k R k R := ⟨rfl, rfl⟩
theorem sil.one (h : ist H k R d (0, 0) k2 R2 d) : sil H d 1 k R k2 R2 := ⟨k2, R2, h, rfl, rfl⟩
def LS8 (H H2 : RTS) (ρ : Int → G8 → Int → G8 → Prop) : Prop := ∀ k R k' R', ρ k R k' R' → 0 ≤ k → k < H.n → ∃ (n : Nat) (k1 : Int) (R1 : G8), (∀ d, sil H2 d n k' R' k1 R1) ∧
  (((∀ d e k2 R2 d2, ist H k R d e k2 R2 d2 → e = (0, 0) ∧ d2 = d ∧ ρ k2 R2 k1 R1) ∧ H.V k 0 ≠ 7 ∧ H.V k 0 ≠ 10 ∧ H.V k 0 ≠ 14) ∨
   ((∀ d e k2 R2 d2, ist H k R d e k2 R2 d2 → ∃ k3 R3, ist H2 k1 R1 d e k3 R3 d2 ∧ ρ k2 R2 k3 R3) ∧
    ((H.V k 0 = 10 ∨ H.V k 0 = 7 ∨ H.V k 0 = 14) → (0 ≤ k1 ∧ k1 < H2.n) ∧ H2.V k1 0 = H.V k 0) ∧
    (H.V k 0 = 10 → H2.V k1 2 = H.V k 2 ∧ (∀ j, 0 ≤ j → j < 4 → opv R1 (H2.V k1) j = opv R (H.V k) j) ∧ ∀ v, ρ (k + 1) (uZ R (H.V k 1) v) (k1 + 1) (uZ R1 (H2.V k1 1) v)) ∧
    (H.V k 0 = 7 → opv R1 (H2.V k1) 0 = opv R (H.V k) 0)))
def ST8 (H H2 : RTS) (P : Int) (ρ : Int → G8 → Int → G8 → Prop) : Prop := ∀ W : Int → Int, ρ 0 (cal8 H P W) 0 (cal8 H2 P W)
def wt8 (Gs Gs2 : Int → RTS) (r : Int) (ρ : Int → G8 → Int → G8 → Prop) : List F8 → List F8 → Prop
  | [], t => t = []
  | (q, k, R, d) :: s, t => ∃ k' R' t', t = (q, k', R', d) :: t' ∧ ((q ≠ r ∧ k' = k ∧ R' = R) ∨ (q = r ∧ ∀ v, ρ (k + 1) (uZ R ((Gs q).V k 1) v) (k' + 1) (uZ R' ((Gs2 q).V k' 1) v))) ∧ wt8 Gs Gs2 r ρ s t'
def rl8 (Gs Gs2 : Int → RTS) (r : Int) (ρ : Int → G8 → Int → G8 → Prop) (s t : List F8) : Prop := (s = [] ∧ t = []) ∨ ∃ q k R d rest k' R' rest', s = (q, k, R, d) :: rest ∧ t = (q, k', R', d) :: rest' ∧ ((q ≠ r ∧ k' = k ∧ R' = R) ∨ (q = r ∧ ρ k R k' R')) ∧ wt8 Gs Gs2 r ρ rest rest'
variable {ρ : Int → G8 → Int → G8 → Prop}
theorem cal8_c {W W2 : Int → Int} (hj : ∀ j, 0 ≤ j → j < 4 → W2 j = W j) (hP : P ≤ 4) : cal8 H P W2 = cal8 H P W := by
  funext g
  exact pwR_c (fun i a b => ⟨rfl, hj i a (by omega)⟩) rfl
theorem top8 {c : Int} {W W2 : Int → Int} (hG : ∀ q, q ≠ r → Gs2 q = Gs q) (hP : PM c ≤ 4) (h0 : ST8 (Gs r) (Gs2 r) (PM r) ρ) (hj : ∀ j, 0 ≤ j → j < 4 → W2 j = W j) : (c ≠ r ∧ (0 : Int) = 0 ∧ cal8 (Gs2 c) (PM c) W2 = cal8 (Gs c) (PM c) W) ∨ (c = r ∧ ρ 0 (cal8 (Gs c) (PM c) W) 0 (cal8 (Gs2 c) (PM c) W2)) := by
  by_cases e : c = r
  · subst e
    refine Or.inr ⟨rfl, ?_⟩
    rw [cal8_c (H := Gs2 c) hj hP]
    exact h0 W
  · exact Or.inl ⟨e, rfl, by rw [hG c e]; exact cal8_c hj hP⟩
theorem sim8 (hG : ∀ q, q ≠ r → Gs2 q = Gs q) (hP : ∀ q, PM q ≤ 4) (hL : LS8 (Gs r) (Gs2 r) ρ) (h0 : ST8 (Gs r) (Gs2 r) (PM r) ρ) (h : rl8 Gs Gs2 r ρ s t) (st : stp8 Gs PM s e s2) : ∃ n t2, run8 Gs2 PM n t (ev8 e) t2 ∧ rl8 Gs Gs2 r ρ s2 t2 := by
  obtain ⟨q, k, R, d, rest, es, st⟩ := st
  rcases h with ⟨h1, -⟩ | ⟨q0, k0, R0, d0, rest0, k', R', rest', h1, rfl, hr, hw⟩
  · rw [h1] at es
    exact absurd es (by simp)
  rw [h1] at es
  simp only [List.cons.injEq, Prod.mk.injEq] at es
  obtain ⟨⟨rfl, rfl, rfl, rfl⟩, rfl⟩ := es
  rcases hr with ⟨hq, rfl, rfl⟩ | ⟨rfl, hr⟩
  · -- another routine: step by step the same
    have eG := hG q0 hq
    rcases st with ⟨k2, R2, d2, hi, rfl⟩ | ⟨hb, hc | hf | ⟨h7, hc⟩⟩
    · exact ⟨1, _, run8.one (ist.stp (Gs := Gs2) (by rw [eG]; exact hi)), Or.inr ⟨q0, k2, R2, d2, rest0, k2, R2, rest', rfl, rfl, Or.inl ⟨hq, rfl, rfl⟩, hw⟩⟩
    · obtain ⟨c1, c2, rfl, rfl⟩ := hc
      refine ⟨1, _, run8.one ⟨q0, k', R', d0, rest', rfl, Or.inr ⟨by rw [eG]; exact hb, Or.inl ⟨by rw [eG]; exact c1, c2, rfl, rfl⟩⟩⟩, Or.inr ⟨_, _, _, _, _, _, _, _, rfl, ?_, top8 (W := opv R' ((Gs q0).V k')) (W2 := opv R' ((Gs2 q0).V k')) hG (hP _) h0 (fun j _ _ => by rw [eG]), ⟨k', R', rest', rfl, Or.inl ⟨hq, rfl, rfl⟩, hw⟩⟩⟩
      rw [eG]
    · obtain ⟨c1, c2, rfl, rfl⟩ := hf
      exact ⟨1, [], run8.one ⟨q0, k', R', d0, rest', rfl, Or.inr ⟨by rw [eG]; exact hb, Or.inr (Or.inl ⟨by rw [eG]; exact c1, c2, rfl, rfl⟩)⟩⟩, Or.inl ⟨rfl, rfl⟩⟩
    · rcases hc with ⟨rfl, rfl, rfl⟩ | ⟨r1, k1, R1, d1, rest1, rfl, rfl, rfl⟩
      · have e1 : rest' = [] := hw
        subst e1
        exact ⟨1, [], run8.one ⟨q0, k', R', d0, [], rfl, Or.inr ⟨by rw [eG]; exact hb, Or.inr (Or.inr ⟨by rw [eG]; exact h7, Or.inl ⟨rfl, by rw [eG], rfl⟩⟩)⟩⟩, Or.inl ⟨rfl, rfl⟩⟩
      · obtain ⟨k9, R9, t9, rfl, h9, hw9⟩ := hw
        refine ⟨1, _, run8.one ⟨q0, k', R', d0, _, rfl, Or.inr ⟨by rw [eG]; exact hb, Or.inr (Or.inr ⟨by rw [eG]; exact h7, Or.inr ⟨r1, k9, R9, d1, t9, rfl, rfl, rfl⟩⟩)⟩⟩, Or.inr ⟨_, _, _, _, _, _, _, _, rfl, rfl, ?_, hw9⟩⟩
        rcases h9 with ⟨n9, rfl, rfl⟩ | ⟨e9, h9⟩
        · exact Or.inl ⟨n9, rfl, by rw [hG r1 n9, eG]⟩
        · exact Or.inr ⟨e9, by rw [eG]; exact h9 _⟩
  · -- the routine whose code is new
    rcases st with ⟨k2, R2, d2, hi, rfl⟩ | ⟨hb, hc⟩
    · obtain ⟨n, k1, R1, hs, hm⟩ := hL k0 R0 k' R' hr hi.1.1 hi.1.2
      rcases hm with ⟨hm, -⟩ | ⟨hm, -⟩
      · obtain ⟨rfl, rfl, hρ⟩ := hm _ _ _ _ _ hi
        refine ⟨n, _, ?_, Or.inr ⟨q0, k2, R2, _, rest0, k1, R1, rest', rfl, rfl, Or.inr ⟨rfl, hρ⟩, hw⟩⟩
        rw [ev8_z]
        exact (hs _).run
      · obtain ⟨k3, R3, hi3, hρ⟩ := hm _ _ _ _ _ hi
        exact ⟨n + 1, _, (hs _).run.trans (run8.one hi3.stp), Or.inr ⟨q0, k2, R2, _, rest0, k3, R3, rest', rfl, rfl, Or.inr ⟨rfl, hρ⟩, hw⟩⟩
    · obtain ⟨n, k1, R1, hs, hm⟩ := hL k0 R0 k' R' hr hb.1 hb.2
      have run := fun d rest => (hs d).run (Gs := Gs2) (PM := PM) (q := q0) (rest := rest)
      rcases hm with ⟨-, n7, n10, n14⟩ | ⟨-, m1, m10, m7⟩
      · exfalso
        rcases hc with hc | hc | hc
        · exact n10 hc.1
        · rcases hc.1 with z | z
          · exact n10 z
          · exact n14 z
        · exact n7 hc.1
      · rcases hc with ⟨c1, c2, rfl, rfl⟩ | ⟨c1, c2, rfl, rfl⟩ | ⟨h7, hc⟩
        · obtain ⟨b1, e1⟩ := m1 (Or.inl c1)
          obtain ⟨e2, ej, hv⟩ := m10 c1
          refine ⟨n + 1, _, (run d0 rest').trans (run8.one ⟨q0, k1, R1, d0, rest', rfl, Or.inr ⟨b1, Or.inl ⟨e1.trans c1, c2, rfl, rfl⟩⟩⟩), Or.inr ⟨_, _, _, _, _, _, _, _, rfl, ?_, top8 (W := opv R0 ((Gs q0).V k0)) (W2 := opv R1 ((Gs2 q0).V k1)) hG (hP _) h0 ej, ⟨k1, R1, rest', rfl, Or.inr ⟨rfl, hv⟩, hw⟩⟩⟩
          rw [e2]
        · obtain ⟨b1, e1⟩ := m1 (by rcases c1 with z | z; exact Or.inl z; exact Or.inr (Or.inr z))
          exact ⟨n + 1, [], (run d0 rest').trans (run8.one ⟨q0, k1, R1, d0, rest', rfl, Or.inr ⟨b1, Or.inr (Or.inl ⟨by rw [e1]; exact c1, c2, rfl, rfl⟩)⟩⟩), Or.inl ⟨rfl, rfl⟩⟩
        · obtain ⟨b1, e1⟩ := m1 (Or.inr (Or.inl h7))
          have ev := m7 h7
          rcases hc with ⟨rfl, rfl, rfl⟩ | ⟨r1, k9, R9, d1, rest1, rfl, rfl, rfl⟩
          · have e3 : rest' = [] := hw
            subst e3
            exact ⟨n + 1, [], (run d0 []).trans (run8.one ⟨q0, k1, R1, d0, [], rfl, Or.inr ⟨b1, Or.inr (Or.inr ⟨e1.trans h7, Or.inl ⟨rfl, by rw [ev], rfl⟩⟩)⟩⟩), Or.inl ⟨rfl, rfl⟩⟩
          · obtain ⟨k8, R8, t8, rfl, h8, hw8⟩ := hw
            refine ⟨n + 1, _, (run d0 _).trans (run8.one ⟨q0, k1, R1, d0, _, rfl, Or.inr ⟨b1, Or.inr (Or.inr ⟨e1.trans h7, Or.inr ⟨r1, k8, R8, d1, t8, rfl, rfl, rfl⟩⟩)⟩⟩), Or.inr ⟨_, _, _, _, _, _, _, _, rfl, rfl, ?_, hw8⟩⟩
            rw [ev]
            rcases h8 with ⟨n9, rfl, rfl⟩ | ⟨e9, h8⟩
            · exact Or.inl ⟨n9, rfl, by rw [hG r1 n9]⟩
            · exact Or.inr ⟨e9, h8 _⟩
theorem sim8.runs {n : Nat} (hG : ∀ q, q ≠ r → Gs2 q = Gs q) (hP : ∀ q, PM q ≤ 4) (hL : LS8 (Gs r) (Gs2 r) ρ) (h0 : ST8 (Gs r) (Gs2 r) (PM r) ρ) (h : rl8 Gs Gs2 r ρ s t) (g : run8 Gs PM n s L s2) : ∃ m t2, run8 Gs2 PM m t L t2 ∧ rl8 Gs Gs2 r ρ s2 t2 := by
  induction n generalizing s t L with
  | zero =>
    obtain ⟨e1, e2⟩ := g
    rw [e1, e2]
    exact ⟨0, t, ⟨rfl, rfl⟩, h⟩
  | succ n ih =>
    obtain ⟨e, x, L1, g1, g2, rfl⟩ := g
    obtain ⟨m, y, h1, h2⟩ := sim8 hG hP hL h0 h g1
    obtain ⟨m2, z, h3, h4⟩ := ih h2 g2
    exact ⟨m + m2, z, h1.trans h3, h4⟩
def beh8 (Gs : Int → RTS) (PM : Int → Int) (q : Int) (W : Int → Int) (L : List E8) : Prop := ∃ n s2, run8 Gs PM n [(q, 0, cal8 (Gs q) (PM q) W, 1)] L s2
theorem sim8.beh {W : Int → Int} (hG : ∀ q, q ≠ r → Gs2 q = Gs q) (hP : ∀ q, PM q ≤ 4) (hL : LS8 (Gs r) (Gs2 r) ρ) (h0 : ST8 (Gs r) (Gs2 r) (PM r) ρ) (h : beh8 Gs PM q W L) : beh8 Gs2 PM q W L := by
  obtain ⟨n, s2, g⟩ := h
  obtain ⟨m, t2, w, -⟩ := sim8.runs (t := [(q, 0, cal8 (Gs2 q) (PM q) W, 1)]) hG hP hL h0 (Or.inr ⟨q, 0, _, 1, [], 0, _, [], rfl, rfl, top8 (W := W) (W2 := W) hG (hP q) h0 (fun _ _ _ => rfl), rfl⟩) g
  exact ⟨m, t2, w⟩
end MAC8
end
