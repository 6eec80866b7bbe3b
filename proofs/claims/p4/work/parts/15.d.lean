/-- plain code: the first place, and where a jump goes back -/
def PLN (σ : MS) (r : Int) : Prop := (kdm σ 2 r 0 = 11 ∨ kdm σ 2 r 0 = 7 ∨ (kdm σ 2 r 0 = 13 ∧ kdm σ 2 r 1 = 11)) ∧ ∀ p j, 0 ≤ p → p < σ.2.1 9 (6 + r) → 0 ≤ j → j < σ.2.1 9 (6 + r) → (kdm σ 2 r p = 8 ∨ kdm σ 2 r p = 9) → kdm σ 2 r j = 13 → dsm σ 2 r j = dsm σ 2 r p → p < j ∨ kdm σ 2 r (j + 1) = 11
/-- how far the next line is, at most -/
def rkp (σ : MS) (r p : Int) : Int := if kdm σ 2 r p = 11 ∨ kdm σ 2 r p = 7 then 1 else if kdm σ 2 r p = 13 ∧ kdm σ 2 r (p + 1) = 11 then 2 else 4 * (σ.2.1 9 (6 + r) - p) + 3
def rks (σ : MS) (R P : Int → Int) : Nat → Int
  | 0 => 0
  | n + 1 => rks σ R P n + 4 * (σ.2.1 9 (6 + R (18 + n)) - P (18 + n))
def rk (σ : MS) : Int := rks σ (σ.2.1 78) (σ.2.1 79) (σ.2.1 73 2 - 1).toNat + rkp σ (σ.2.1 78 (18 + σ.2.1 73 2 - 1)) (σ.2.1 79 (18 + σ.2.1 73 2 - 1))
theorem rks_ext {σ : MS} {R P R' P' : Int → Int} (n : Nat) (h : ∀ j : Int, 18 ≤ j → j < 18 + n → R' j = R j ∧ P' j = P j) : rks σ R' P' n = rks σ R P n := by
  induction n with
  | zero => rfl
  | succ n ih =>
    unfold rks
    rw [ih (fun j a b => h j a (by omega)), (h (18 + n) (by omega) (by omega)).1, (h (18 + n) (by omega) (by omega)).2]
theorem rks_fr {ss ks js : List Nat} {σ τ : MS} {R P : Int → Int} (f : Fr ss ks js σ τ) (h : 9 ∉ ks) (n : Nat) : rks τ R P n = rks σ R P n := by
  induction n with
  | zero => rfl
  | succ n ih => unfold rks; rw [ih, f.2.1 9 h]
theorem rkp_fr {ss ks js : List Nat} {σ τ : MS} {r p : Int} (f : Fr ss ks js σ τ) (h : 9 ∉ ks) (h3 : 3 ∉ ks) : rkp τ r p = rkp σ r p := by
  unfold rkp kdm; rw [f.2.1 9 h, f.2.1 3 h3]
theorem rkp_1 {σ : MS} {r p : Int} (h : p < σ.2.1 9 (6 + r)) : 1 ≤ rkp σ r p := by
  unfold rkp
  split
  · omega
  · split <;> omega
theorem rkp_le {σ : MS} {r p : Int} (h : p < σ.2.1 9 (6 + r)) : rkp σ r p ≤ 4 * (σ.2.1 9 (6 + r) - p) + 3 := by
  unfold rkp
  split
  · omega
  · split <;> omega
theorem rks_s {σ : MS} {n : Int} {R P : Int → Int} (h : 1 ≤ n) : rks σ R P n.toNat = rks σ R P (n - 1).toNat + 4 * (σ.2.1 9 (6 + R (18 + (n - 1))) - P (18 + (n - 1))) := by
  rw [show n.toNat = (n - 1).toNat + 1 by omega]
  show rks σ R P (n - 1).toNat + 4 * (σ.2.1 9 (6 + R (18 + ((n - 1).toNat : Int))) - P (18 + ((n - 1).toNat : Int))) = _
  rw [show ((n - 1).toNat : Int) = n - 1 by omega]
theorem rks_b {σ : MS} {R P : Int → Int} (n : Nat) (h : ∀ j : Int, 18 ≤ j → j < 18 + n → 0 ≤ P j ∧ P j < σ.2.1 9 (6 + R j) ∧ σ.2.1 9 (6 + R j) ≤ 200) : 0 ≤ rks σ R P n ∧ rks σ R P n ≤ 800 * n := by
  induction n with
  | zero => exact ⟨Int.le_refl _, Int.le_refl _⟩
  | succ n ih =>
    have a := ih (fun j a b => h j a (by omega))
    have b := h (18 + n) (by omega) (by omega)
    unfold rks
    omega
theorem rk_b {σ : MS} (h : RUN σ 2) (b : BKA σ 2) : 0 ≤ rk σ ∧ rk σ ≤ 8003 := by
  obtain ⟨h1, h2, h3, h4⟩ := h
  have key : ∀ j : Int, 18 ≤ j → j < 18 + σ.2.1 73 2 → 0 ≤ σ.2.1 79 j ∧ σ.2.1 79 j < σ.2.1 9 (6 + σ.2.1 78 j) ∧ σ.2.1 9 (6 + σ.2.1 78 j) ≤ 200 := fun j x y => by
    have p := h2 j (by omega) (by omega)
    have q := (b.2 _ p.1.1 p.1.2).1.2
    exact ⟨p.2.1.1, p.2.1.2, q⟩
  have a := rks_b (σ := σ) (R := σ.2.1 78) (P := σ.2.1 79) (σ.2.1 73 2 - 1).toNat (fun j x y => key j x (by omega))
  have k := key (18 + σ.2.1 73 2 - 1) (by omega) (by omega)
  have c := rkp_1 (σ := σ) k.2.1
  have d := rkp_le (σ := σ) k.2.1
  unfold rk
  omega
theorem rk_fall {ss ks js : List Nat} {σ τ : MS} (h : RUN σ 2) (hn : ∀ r, 0 ≤ r → r < σ.1 10 → PLN σ r) (ht : RUN τ 2) (g : Fr ss ks js σ τ) (hs : 10 ∉ ss) (hk : ∀ k ∈ [3, 4, 9], k ∉ ks) (s : STP σ 2 0 τ) : rk τ < rk σ := by
  have e9 : 9 ∉ ks := hk 9 (by decide)
  have e3 : 3 ∉ ks := hk 3 (by decide)
  have e10 := g.1 10 hs
  have g9 := g.2.1 9 e9
  obtain ⟨h1, h2, h3, h4⟩ := h
  obtain ⟨t1, t2, t3, t4⟩ := ht
  have p := h2 (9 * 2 + σ.2.1 73 2 - 1) (by omega) (by omega)
  have p2 : σ.2.1 79 (9 * 2 + σ.2.1 73 2 - 1) < σ.2.1 9 (6 + σ.2.1 78 (9 * 2 + σ.2.1 73 2 - 1)) := p.2.1.2
  have pp := hn _ p.1.1 p.1.2
  unfold rk
  rw [rks_fr g e9, rkp_fr g e9 e3]
  rcases s rfl with ⟨a1, a2, a3, a4, a5, a6⟩ | ⟨a1, a2, a3, a4⟩ | ⟨a1, a2, a3, a4, a5⟩
  · rw [a3, rks_ext (R := σ.2.1 78) (P := σ.2.1 79) _ (fun j x y => ⟨a4 j, a5 j (by omega)⟩), a4]
    have q := t2 (9 * 2 + σ.2.1 73 2 - 1) (by omega) (by omega)
    have q2 : τ.2.1 79 (9 * 2 + σ.2.1 73 2 - 1) < τ.2.1 9 (6 + τ.2.1 78 (9 * 2 + σ.2.1 73 2 - 1)) := q.2.1.2
    rw [g9, a4] at q2
    show _ + rkp σ (σ.2.1 78 (9 * 2 + σ.2.1 73 2 - 1)) (τ.2.1 79 (9 * 2 + σ.2.1 73 2 - 1)) < _ + rkp σ (σ.2.1 78 (9 * 2 + σ.2.1 73 2 - 1)) (σ.2.1 79 (9 * 2 + σ.2.1 73 2 - 1))
    have L := rkp_le (σ := σ) q2
    have q0 := q.2.1.1
    have p0 := p.2.1.1
    suffices rkp σ (σ.2.1 78 (9 * 2 + σ.2.1 73 2 - 1)) (τ.2.1 79 (9 * 2 + σ.2.1 73 2 - 1)) < rkp σ (σ.2.1 78 (9 * 2 + σ.2.1 73 2 - 1)) (σ.2.1 79 (9 * 2 + σ.2.1 73 2 - 1)) by omega
    generalize σ.2.1 78 (9 * 2 + σ.2.1 73 2 - 1) = r at *
    generalize τ.2.1 79 (9 * 2 + σ.2.1 73 2 - 1) = k at *
    generalize σ.2.1 79 (9 * 2 + σ.2.1 73 2 - 1) = i at *
    rcases a6 with e | ⟨b1, b2, b3⟩
    · have E : rkp σ r i = if kdm σ 2 r i = 13 ∧ kdm σ 2 r (i + 1) = 11 then 2 else 4 * (σ.2.1 9 (6 + r) - i) + 3 := by unfold rkp; exact if_neg (by omega)
      by_cases z : kdm σ 2 r i = 13 ∧ kdm σ 2 r (i + 1) = 11
      · rw [if_pos z] at E
        have : rkp σ r k = 1 := by rw [e]; unfold rkp; exact if_pos (Or.inl z.2)
        omega
      · rw [if_neg z] at E
        omega
    · have E : rkp σ r i = 4 * (σ.2.1 9 (6 + r) - i) + 3 := by unfold rkp; rw [if_neg (by omega), if_neg (by omega)]
      rcases pp.2 i k p0 p2 q0 q2 b1 b2 b3 with z | z
      · omega
      · have : rkp σ r k = 2 := by unfold rkp; rw [if_neg (by omega), if_pos ⟨b2, z⟩]
        omega
  · rw [a2, show σ.2.1 73 2 + 1 - 1 = σ.2.1 73 2 by omega, rks_ext (R := σ.2.1 78) (P := σ.2.1 79) _ (fun j x y => a3 j (by omega) (by omega)), rks_s h1.1, show (18 : Int) + (σ.2.1 73 2 + 1) - 1 = 9 * 2 + σ.2.1 73 2 by omega, a4, show (18 : Int) + (σ.2.1 73 2 - 1) = 9 * 2 + σ.2.1 73 2 - 1 by omega, show (18 : Int) + σ.2.1 73 2 - 1 = 9 * 2 + σ.2.1 73 2 - 1 by omega]
    have q := t2 (9 * 2 + σ.2.1 73 2) (by omega) (by omega)
    have pq := (hn _ q.1.1 (by rw [← e10]; exact q.1.2)).1
    have E : rkp σ (σ.2.1 78 (9 * 2 + σ.2.1 73 2 - 1)) (σ.2.1 79 (9 * 2 + σ.2.1 73 2 - 1)) = 4 * (σ.2.1 9 (6 + σ.2.1 78 (9 * 2 + σ.2.1 73 2 - 1)) - σ.2.1 79 (9 * 2 + σ.2.1 73 2 - 1)) + 3 := by unfold rkp; rw [if_neg (by omega), if_neg (by omega)]
    have E2 : rkp σ (τ.2.1 78 (9 * 2 + σ.2.1 73 2)) 0 ≤ 2 := by
      unfold rkp
      split
      · omega
      · split
        · omega
        · exfalso
          rw [show (0 : Int) + 1 = 1 from rfl] at *
          omega
    omega
  · have c := rkp_1 (σ := σ) p2
    have q := t2 (9 * 2 + σ.2.1 73 2 - 2) (by omega) (by omega)
    have q2 : τ.2.1 79 (9 * 2 + σ.2.1 73 2 - 2) < τ.2.1 9 (6 + τ.2.1 78 (9 * 2 + σ.2.1 73 2 - 2)) := q.2.1.2
    rw [g9, a3] at q2
    have L := rkp_le (σ := σ) q2
    rw [a1, rks_ext (R := σ.2.1 78) (P := σ.2.1 79) _ (fun j x y => ⟨a3 j, a4 j (by omega)⟩), rks_s (n := σ.2.1 73 2 - 1) (by omega), a3, show (18 : Int) + (σ.2.1 73 2 - 1) - 1 = 9 * 2 + σ.2.1 73 2 - 2 by omega, show (18 : Int) + (σ.2.1 73 2 - 1 - 1) = 9 * 2 + σ.2.1 73 2 - 2 by omega]
    show _ + rkp σ (σ.2.1 78 (9 * 2 + σ.2.1 73 2 - 2)) (τ.2.1 79 (9 * 2 + σ.2.1 73 2 - 2)) < _ + rkp σ (σ.2.1 78 (9 * 2 + σ.2.1 73 2 - 1)) (σ.2.1 79 (9 * 2 + σ.2.1 73 2 - 1))
    omega
theorem PLN.fr {ss ks js : List Nat} {σ τ : MS} {r : Int} (h : PLN σ r) (g : Fr ss ks js σ τ) (hk : ∀ k ∈ [3, 4, 9], k ∉ ks) : PLN τ r := by
  unfold PLN kdm dsm
  rw [g.q hk (k := 3) (by decide), g.q hk (k := 4) (by decide), g.q hk (k := 9) (by decide)]
  exact h
/-- a run that has just begun -/
theorem RUN.new {σ : MS} {m x : Int} (hx : 0 ≤ x ∧ x < σ.1 10) (b : BKG σ m x) (e73 : σ.2.1 73 m = 1) (e : σ.2.1 78 (9 * m) = x ∧ σ.2.1 79 (9 * m) = 0 ∧ σ.2.1 80 (9 * m) = 0) : RUN σ m := by
  refine ⟨by omega, fun c a d => ?_, fun c a d => by omega, ?_⟩
  · have : c = 9 * m := by omega
    rw [this, e.1, e.2.1, e.2.2]
    exact PLC.start b hx
  · rw [dpt_dsum, e73]
    show dsum σ m (σ.2.1 78) (σ.2.1 80) 1 ≤ 9
    unfold dsum dsum
    rw [show (9 * m + ((0 : Nat) : Int)) = 9 * m by omega, e.1, e.2.2, dp_0 b]
    omega
/-- all plain codes stand well -/
def PLA (σ : MS) : Prop := BKA σ 2 ∧ ∀ r, 0 ≤ r → r < σ.1 10 → PLN σ r
theorem PLA.fr {ss ks js : List Nat} {σ τ : MS} (h : PLA σ) (g : Fr ss ks js σ τ) (hs : 10 ∉ ss) (hk : ∀ k ∈ [3, 4, 5, 6, 7, 8, 9, 11, 14, 16, 18], k ∉ ks) : PLA τ := ⟨h.1.fr g hs hk, fun r a b => (h.2 r a (by rw [← g.1 10 hs]; exact b)).fr g (fun k q => hk k (by revert k q; decide))⟩
theorem XM.rfl {m : Int} {σ : MS} : XM m σ σ := ⟨fun _ _ => ⟨_root_.rfl, _root_.rfl⟩, fun _ _ => ⟨_root_.rfl, _root_.rfl, _root_.rfl⟩⟩
theorem XM.trans {m : Int} {σ τ υ : MS} (h : XM m σ τ) (g : XM m τ υ) : XM m σ υ := ⟨fun j hj => ⟨(g.1 j hj).1.trans (h.1 j hj).1, (g.1 j hj).2.trans (h.1 j hj).2⟩, fun c hc => ⟨(g.2 c hc).1.trans (h.2 c hc).1, (g.2 c hc).2.1.trans (h.2 c hc).2.1, (g.2 c hc).2.2.trans (h.2 c hc).2.2⟩⟩
theorem XM.of {ss ks js : List Nat} {m : Int} {σ τ : MS} (g : Fr ss ks js σ τ) (hk : ∀ k ∈ [73, 76, 78, 79, 80], k ∉ ks) : XM m σ τ := ⟨fun j _ => by rw [g.q hk (k := 73) (by decide), g.q hk (k := 76) (by decide)]; exact ⟨_root_.rfl, _root_.rfl⟩, fun c _ => by rw [g.q hk (k := 78) (by decide), g.q hk (k := 79) (by decide), g.q hk (k := 80) (by decide)]; exact ⟨_root_.rfl, _root_.rfl, _root_.rfl⟩⟩
theorem RUN.fr {ss ks js : List Nat} {σ τ : MS} {m : Int} (h : RUN σ m) (g : Fr ss ks js σ τ) (hs : 10 ∉ ss) (hk : ∀ k ∈ [3, 4, 5, 9, 14, 16, 73, 76, 78, 79, 80], k ∉ ks) : RUN τ m := h.oth (m := m + 1) (by omega) (XM.of g (fun k q => hk k (by revert k q; decide))) g hs (fun k q => hk k (by revert k q; decide))
/-- the codes between two states: nothing of them changed -/
def CDK : List Nat := [3, 4, 5, 6, 7, 8, 9, 11, 14, 16, 18]

theorem ml12_569 : Cond.methodLink RX12 569 yX12_step ∈ pWW := pw10 (List.mem_of_getElem? (i := 17) rfl) rfl
theorem dX12_go_64 : decode cX12_go 64 = .ok (.iload 5, 2) := by decide +kernel
theorem dX12_go_66 : decode cX12_go 66 = .ok (.iload_n 2, 1) := by decide +kernel
theorem dX12_go_67 : decode cX12_go 67 = .ok (.if_icmp .ge 108, 3) := by decide +kernel
theorem dX12_go_70 : decode cX12_go 70 = .ok (.aload_n 0, 1) := by decide +kernel
theorem dX12_go_71 : decode cX12_go 71 = .ok (.iconst 0, 1) := by decide +kernel
theorem dX12_go_72 : decode cX12_go 72 = .ok (.invokevirtual 569, 3) := by decide +kernel
theorem dX12_go_75 : decode cX12_go 75 = .ok (.istore 6, 2) := by decide +kernel
theorem dX12_go_77 : decode cX12_go 77 = .ok (.iload 6, 2) := by decide +kernel
theorem dX12_go_79 : decode cX12_go 79 = .ok (.iconst 3, 1) := by decide +kernel
theorem dX12_go_80 : decode cX12_go 80 = .ok (.if_icmp .ne 10, 3) := by decide +kernel
theorem dX12_go_90 : decode cX12_go 90 = .ok (.aload_n 0, 1) := by decide +kernel
theorem dX12_go_91 : decode cX12_go 91 = .ok (.dup, 1) := by decide +kernel
theorem dX12_go_92 : decode cX12_go 92 = .ok (.getfield 566, 3) := by decide +kernel
theorem dX12_go_95 : decode cX12_go 95 = .ok (.iconst 1, 1) := by decide +kernel
theorem dX12_go_96 : decode cX12_go 96 = .ok (.iadd, 1) := by decide +kernel
theorem dX12_go_97 : decode cX12_go 97 = .ok (.putfield 566, 3) := by decide +kernel
theorem dX12_go_100 : decode cX12_go 100 = .ok (.iload 6, 2) := by decide +kernel
theorem dX12_go_102 : decode cX12_go 102 = .ok (.iconst 2, 1) := by decide +kernel
theorem dX12_go_103 : decode cX12_go 103 = .ok (.if_icmp .ne 10, 3) := by decide +kernel
theorem dX12_go_113 : decode cX12_go 113 = .ok (.aload_n 0, 1) := by decide +kernel
theorem dX12_go_114 : decode cX12_go 114 = .ok (.iconst 0, 1) := by decide +kernel
theorem dX12_go_115 : decode cX12_go 115 = .ok (.invokevirtual 554, 3) := by decide +kernel
theorem dX12_go_118 : decode cX12_go 118 = .ok (.istore 7, 2) := by decide +kernel
theorem dX12_go_120 : decode cX12_go 120 = .ok (.iload 4, 2) := by decide +kernel
theorem dX12_go_122 : decode cX12_go 122 = .ok (.iload 7, 2) := by decide +kernel
theorem dX12_go_124 : decode cX12_go 124 = .ok (.iload_n 3, 1) := by decide +kernel
theorem dX12_go_125 : decode cX12_go 125 = .ok (.if_icmp .ge 7, 3) := by decide +kernel
theorem dX12_go_132 : decode cX12_go 132 = .ok (.iconst 0, 1) := by decide +kernel
theorem dX12_go_133 : decode cX12_go 133 = .ok (.ior, 1) := by decide +kernel
theorem dX12_go_134 : decode cX12_go 134 = .ok (.istore 4, 2) := by decide +kernel
theorem dX12_go_136 : decode cX12_go 136 = .ok (.iload 6, 2) := by decide +kernel
theorem dX12_go_138 : decode cX12_go 138 = .ok (.iconst 1, 1) := by decide +kernel
theorem dX12_go_139 : decode cX12_go 139 = .ok (.if_icmp .ne 30, 3) := by decide +kernel
theorem dX12_go_169 : decode cX12_go 169 = .ok (.iinc 5 1, 3) := by decide +kernel
theorem dX12_go_172 : decode cX12_go 172 = .ok (.goto (-108), 3) := by decide +kernel
theorem dX12_go_142 : decode cX12_go 142 = .ok (.iload_n 1, 1) := by decide +kernel
theorem dX12_go_143 : decode cX12_go 143 = .ok (.ifCond .eq 24, 3) := by decide +kernel
theorem dX12_go_167 : decode cX12_go 167 = .ok (.iconst 1, 1) := by decide +kernel
theorem dX12_go_168 : decode cX12_go 168 = .ok (.ireturn, 1) := by decide +kernel
theorem dX12_go_146 : decode cX12_go 146 = .ok (.iload_n 1, 1) := by decide +kernel
theorem dX12_go_147 : decode cX12_go 147 = .ok (.iconst 1, 1) := by decide +kernel
theorem dX12_go_148 : decode cX12_go 148 = .ok (.if_icmp .ne 9, 3) := by decide +kernel
theorem dX12_go_157 : decode cX12_go 157 = .ok (.iload_n 1, 1) := by decide +kernel
theorem dX12_go_158 : decode cX12_go 158 = .ok (.iconst 2, 1) := by decide +kernel
theorem dX12_go_159 : decode cX12_go 159 = .ok (.if_icmp .ne 10, 3) := by decide +kernel
theorem dX12_go_162 : decode cX12_go 162 = .ok (.iload 4, 2) := by decide +kernel
theorem dX12_go_164 : decode cX12_go 164 = .ok (.ifCond .eq 5, 3) := by decide +kernel
theorem dX12_go_151 : decode cX12_go 151 = .ok (.iload 7, 2) := by decide +kernel
theorem dX12_go_153 : decode cX12_go 153 = .ok (.iload_n 3, 1) := by decide +kernel
theorem dX12_go_154 : decode cX12_go 154 = .ok (.if_icmp .le 13, 3) := by decide +kernel
theorem dX12_go_128 : decode cX12_go 128 = .ok (.iconst 1, 1) := by decide +kernel
theorem dX12_go_129 : decode cX12_go 129 = .ok (.goto 4, 3) := by decide +kernel
theorem dX12_go_106 : decode cX12_go 106 = .ok (.aload_n 0, 1) := by decide +kernel
theorem dX12_go_107 : decode cX12_go 107 = .ok (.iconst 1, 1) := by decide +kernel
theorem dX12_go_108 : decode cX12_go 108 = .ok (.putfield 560, 3) := by decide +kernel
theorem dX12_go_111 : decode cX12_go 111 = .ok (.iconst 0, 1) := by decide +kernel
theorem dX12_go_112 : decode cX12_go 112 = .ok (.ireturn, 1) := by decide +kernel
theorem dX12_go_83 : decode cX12_go 83 = .ok (.aload_n 0, 1) := by decide +kernel
theorem dX12_go_84 : decode cX12_go 84 = .ok (.iconst 1, 1) := by decide +kernel
theorem dX12_go_85 : decode cX12_go 85 = .ok (.putfield 563, 3) := by decide +kernel
theorem dX12_go_88 : decode cX12_go 88 = .ok (.iconst 3, 1) := by decide +kernel
theorem dX12_go_89 : decode cX12_go 89 = .ok (.ireturn, 1) := by decide +kernel
set_option maxHeartbeats 4000000 in
set_option maxRecDepth 20000 in
theorem l_go (d : Nat) {b : Nat} {σ0 : MS} {w : Int} {nn : Int} {q : Int} {post : Option Value → MS → Prop} (hR0 : RG σ0) (hbka : BKA σ0 0) (hit : ITM σ0) (hpar : PAR σ0) (hn : 1 ≤ nn ∧ nn ≤ 20000) (hG : 0 ≤ σ0.1 70 ∧ σ0.1 70 ≤ 1000000000) (hP : 0 ≤ σ0.2.1 76 0 ∧ σ0.2.1 76 0 ≤ 900000000) (hq : 0 ≤ q ∧ q ≤ 117) (h_w : -2147483648 ≤ w ∧ w ≤ 2147483647) (hx_175 : ∀ (i : Int) (e : Int) (σ : MS) , (Fr [68, 69, 70] [73, 75, 76, 77, 78, 79, 80, 81, 82] [] σ0 σ) → (RG σ) → (RUN σ 0) → (XM 0 σ0 σ) → (σ0.1 70 ≤ σ.1 70 ∧ σ.1 70 ≤ σ0.1 70 + 20000) → (σ0.2.1 76 0 ≤ σ.2.1 76 0 ∧ σ.2.1 76 0 ≤ σ0.2.1 76 0 + 20000) → Tm (d + 4) m_X12_go 175 b σ [(0, .ref b)] [] post) (hret : ∀ (v : Int) (τ : MS), Fr [68, 69, 70] [73, 75, 76, 77, 78, 79, 80, 81, 82] [] σ0 τ → RG τ → (τ.1 68 = 0 → RUN τ 0) → XM 0 σ0 τ → (σ0.1 70 ≤ τ.1 70 ∧ τ.1 70 ≤ σ0.1 70 + 20000) → (σ0.2.1 76 0 ≤ τ.2.1 76 0 ∧ τ.2.1 76 0 ≤ σ0.2.1 76 0 + 20000) → post (some (.int (iI v))) τ) : ∀ (n : Nat) (i : Int) (e : Int) (σ : MS) , (Fr [68, 69, 70] [73, 75, 76, 77, 78, 79, 80, 81, 82] [] σ0 σ) → (RG σ) → (0 ≤ i ∧ i ≤ nn ∧ (e = 0 ∨ e = 1)) → (RUN σ 0) → (XM 0 σ0 σ) → (σ0.1 70 ≤ σ.1 70 ∧ σ.1 70 ≤ σ0.1 70 + i) → (σ0.2.1 76 0 ≤ σ.2.1 76 0 ∧ σ.2.1 76 0 ≤ σ0.2.1 76 0 + i) → (nn - i).toNat = n → Tm (d + 4) m_X12_go 64 b σ [(5, .int (iI i)), (4, .int (iI e)), (3, .int (iI q)), (0, .ref b), (1, .int (iI w)), (2, .int (iI nn))] [] post := by
  intro n
  induction n using Nat.strongRecOn with
  | _ n ih =>
    intro i e σ hF hR h0 hrun hx0 hg hp hm
    refine tm_iload dX12_go_64 0 rfl ?_
    refine tm_iload_n dX12_go_66 rfl 5 rfl ?_
    refine tm_icmp_ge (tgt := 175) dX12_go_67 (by decide) ⟨by omega, by omega⟩ ⟨by omega, by omega⟩ (fun h1 => ?_) (fun h1 => ?_)
    · exact tm_sub [3] rfl (hx_175 (0) (0) σ (Fr.rfl.trans (Fr.sub hF (by decide) (by decide) (by decide))) hR hrun hx0 (by omega) (by omega))
    · refine tm_aload_n dX12_go_70 rfl 3 rfl ?_
      refine tm_iconst dX12_go_71 ?_
      refine tm_callV (M := m_X12_go) (pc := 72) (ix := 569) (M' := m_X12_step) (As := [.int (iI 0)]) (rest := []) dX12_go_72 ok_X12_step im_X12_step se_X12_step ml12_569 np_X12_step rfl rfl (Nat.le_of_ble_eq_true rfl) (Nat.le_of_ble_eq_true rfl) rfl (c_X12_step (d) (σ := σ) (m := 0) hR (by decide) hrun (hbka.fr hF (by decide) (by decide)) (hit.fr hF (by decide)) (hpar.fr hF (by decide)) (by omega)) (fun r2 σ3 hp => ?_)
      obtain ⟨v4, rfl, f5, f6, f7, f8, f9, f10⟩ := hp
      show Tm _ _ 75 b σ3 [(5, .int (iI i)), (4, .int (iI e)), (3, .int (iI q)), (0, .ref b), (1, .int (iI w)), (2, .int (iI nn))] [.int (iI v4)] _
      have hrs : v4 ≠ 2 → RUN σ3 0 := fun q => by rcases f7 with ⟨a, e1⟩ | ⟨a, _⟩ | ⟨_, h⟩; rw [e1]; exact hrun; exact absurd a q; exact h
      have hxs := f8
      have hps := f9
      have h70 : σ3.1 70 = σ.1 70 := f5.1 70 (by decide)
      refine tm_istore (L' := [(6, .int (iI v4)), (5, .int (iI i)), (4, .int (iI e)), (3, .int (iI q)), (0, .ref b), (1, .int (iI w)), (2, .int (iI nn))]) dX12_go_75 (by decide) rfl ?_
      refine tm_iload dX12_go_77 0 rfl ?_
      refine tm_iconst dX12_go_79 ?_
      refine tm_icmp_ne (tgt := 90) dX12_go_80 (by decide) ⟨by omega, by omega⟩ ⟨by decide, by decide⟩ (fun h11 => ?_) (fun h11 => ?_)
      · refine tm_aload_n dX12_go_90 rfl 4 rfl ?_
        refine tm_dup dX12_go_91 rfl ?_
        refine tm_getS (k := 70) (t := σ.1 70) dX12_go_92 (by decide) fl12_566 rfl (rs_F f5 (by decide) (rfl)) ?_
        have g12 := RG.s hR 70
        refine tm_iconst dX12_go_95 ?_
        refine tm_iadd dX12_go_96 ?_
        refine tm_putS (k := 70) (v := (σ.1 70) + 1) lay_12 dX12_go_97 (by decide) fl12_566 rfl (tyX12_ok 70 (by decide)) rfl rfl rfl ?_
        refine tm_iload dX12_go_100 0 rfl ?_
        refine tm_iconst dX12_go_102 ?_
        refine tm_icmp_ne (tgt := 113) dX12_go_103 (by decide) ⟨by omega, by omega⟩ ⟨by decide, by decide⟩ (fun h13 => ?_) (fun h13 => ?_)
        · refine tm_aload_n dX12_go_113 rfl 4 rfl ?_
          have hrn := (hrs (by omega)).fr (show Fr [68, 69, 70] [] [] σ3 (sS 70 ((σ.1 70) + 1) σ3) from (Fr.rfl.S (by decide))) (by decide) (by decide)
          have hbk2 := hbka.fr (show Fr [68, 69, 70] [73, 75, 76, 77, 78, 79, 80, 81, 82] [] σ0 (sS 70 ((σ.1 70) + 1) σ3) from (((Fr.rfl.trans (Fr.sub hF (by decide) (by decide) (by decide))).trans (Fr.sub f5 (by decide) (by decide) (by decide))).S (by decide))) (by decide) (by decide)
          have hrr : (0 ≤ (sS 70 ((σ.1 70) + 1) σ3).2.1 73 0 ∧ (sS 70 ((σ.1 70) + 1) σ3).2.1 73 0 ≤ 9) ∧ ∀ c, 9 * 0 ≤ c → c < 9 * 0 + (sS 70 ((σ.1 70) + 1) σ3).2.1 73 0 → DEC (sS 70 ((σ.1 70) + 1) σ3) 0 c (fn (sS 70 ((σ.1 70) + 1) σ3) 0 c) := ⟨⟨by have := hrn.1; omega, hrn.1.2⟩, hrn.dec hbk2.2 hbk2.1.2⟩
          refine tm_iconst dX12_go_114 ?_
          refine tm_callV (M := m_X12_go) (pc := 115) (ix := 554) (M' := m_X12_depth) (As := [.int (iI 0)]) (rest := []) dX12_go_115 ok_X12_depth im_X12_depth se_X12_depth ml12_554 np_X12_depth rfl rfl (Nat.le_of_ble_eq_true rfl) (Nat.le_of_ble_eq_true rfl) rfl (c_X12_depth (d + 2) (σ := (sS 70 ((σ.1 70) + 1) σ3)) (m := 0) (f6.S (by omega)) (by decide) hrr.1 (fun c a e => ⟨_, hrr.2 c a e⟩)) (fun r14 σ15 hp => ?_)
          obtain ⟨v16, rfl, rfl, f17, f18⟩ := hp
          show Tm _ _ 118 b (sS 70 ((σ.1 70) + 1) σ3) [(6, .int (iI v4)), (5, .int (iI i)), (4, .int (iI e)), (3, .int (iI q)), (0, .ref b), (1, .int (iI w)), (2, .int (iI nn))] [.int (iI v16)] _
          refine tm_istore (L' := [(7, .int (iI v16)), (6, .int (iI v4)), (5, .int (iI i)), (4, .int (iI e)), (3, .int (iI q)), (0, .ref b), (1, .int (iI w)), (2, .int (iI nn))]) dX12_go_118 (by decide) rfl ?_
          refine tm_iload dX12_go_120 3 rfl ?_
          refine tm_iload dX12_go_122 0 rfl ?_
          refine tm_iload_n dX12_go_124 rfl 4 rfl ?_
          refine tm_icmp_ge (tgt := 132) dX12_go_125 (by decide) ⟨by omega, by omega⟩ ⟨by omega, by omega⟩ (fun h19 => ?_) (fun h19 => ?_)
          · refine tm_iconst dX12_go_132 ?_
            refine tm_iorZ (x := e) (y := 0) dX12_go_133 (by omega) (by omega) (fun c20 g21 => ?_)
            refine tm_istore (L' := [(4, .int (iI c20)), (7, .int (iI v16)), (6, .int (iI v4)), (5, .int (iI i)), (3, .int (iI q)), (0, .ref b), (1, .int (iI w)), (2, .int (iI nn))]) dX12_go_134 (by decide) rfl ?_
            refine tm_iload dX12_go_136 2 rfl ?_
            refine tm_iconst dX12_go_138 ?_
            refine tm_icmp_ne (tgt := 169) dX12_go_139 (by decide) ⟨by omega, by omega⟩ ⟨by decide, by decide⟩ (fun h22 => ?_) (fun h22 => ?_)
            · refine tm_iinc (q0 := 3) (L' := [(5, .int (iI (i + 1))), (4, .int (iI c20)), (7, .int (iI v16)), (6, .int (iI v4)), (3, .int (iI q)), (0, .ref b), (1, .int (iI w)), (2, .int (iI nn))]) dX12_go_169 rfl (by decide) rfl ?_
              refine tm_goto (tgt := 64) dX12_go_172 (by decide) ?_
              exact tm_sub [0, 1, 4, 5, 6, 7] rfl (ih _ (by omega) (i + 1) (c20) (sS 70 ((σ.1 70) + 1) σ3) (((Fr.rfl.trans (Fr.sub hF (by decide) (by decide) (by decide))).trans (Fr.sub f5 (by decide) (by decide) (by decide))).S (by decide)) (f6.S (by omega)) (by omega) (hrs (by omega) |>.fr (show Fr [68, 69, 70] [] [] σ3 (sS 70 ((σ.1 70) + 1) σ3) from (Fr.rfl.S (by decide))) (by decide) (by decide)) (hx0.trans (hxs.trans (XM.of (show Fr [68, 69, 70] [] [] σ3 (sS 70 ((σ.1 70) + 1) σ3) from (Fr.rfl.S (by decide))) (by decide)))) (by rw [show (sS 70 ((σ.1 70) + 1) σ3).1 70 = (σ.1 70) + 1 from rs_eq]; omega) (by rw [show (sS 70 ((σ.1 70) + 1) σ3).2.1 76 0 = σ3.2.1 76 0 from ra_S (rfl)]; omega) rfl)
            · refine tm_iload_n dX12_go_142 rfl 6 rfl ?_
              refine tm_if_eq (tgt := 167) dX12_go_143 (by decide) ⟨by omega, by omega⟩ (fun h23 => ?_) (fun h23 => ?_)
              · refine tm_iconst dX12_go_167 ?_
                exact tm_iret rfl dX12_go_168 (hret _ _ (((Fr.rfl.trans (Fr.sub hF (by decide) (by decide) (by decide))).trans (Fr.sub f5 (by decide) (by decide) (by decide))).S (by decide)) (f6.S (by omega)) (fun _ => (hrs (by omega)).fr (show Fr [68, 69, 70] [] [] σ3 (sS 70 ((σ.1 70) + 1) σ3) from (Fr.rfl.S (by decide))) (by decide) (by decide)) (hx0.trans (hxs.trans (XM.of (show Fr [68, 69, 70] [] [] σ3 (sS 70 ((σ.1 70) + 1) σ3) from (Fr.rfl.S (by decide))) (by decide)))) (by rw [show (sS 70 ((σ.1 70) + 1) σ3).1 70 = (σ.1 70) + 1 from rs_eq]; omega) (by rw [show (sS 70 ((σ.1 70) + 1) σ3).2.1 76 0 = σ3.2.1 76 0 from ra_S (rfl)]; omega))
              · refine tm_iload_n dX12_go_146 rfl 6 rfl ?_
                refine tm_iconst dX12_go_147 ?_
                refine tm_icmp_ne (tgt := 157) dX12_go_148 (by decide) ⟨by omega, by omega⟩ ⟨by decide, by decide⟩ (fun h24 => ?_) (fun h24 => ?_)
                · refine tm_iload_n dX12_go_157 rfl 6 rfl ?_
                  refine tm_iconst dX12_go_158 ?_
                  refine tm_icmp_ne (tgt := 169) dX12_go_159 (by decide) ⟨by omega, by omega⟩ ⟨by decide, by decide⟩ (fun h25 => ?_) (fun h25 => ?_)
                  · refine tm_iinc (q0 := 3) (L' := [(5, .int (iI (i + 1))), (4, .int (iI c20)), (7, .int (iI v16)), (6, .int (iI v4)), (3, .int (iI q)), (0, .ref b), (1, .int (iI w)), (2, .int (iI nn))]) dX12_go_169 rfl (by decide) rfl ?_
                    refine tm_goto (tgt := 64) dX12_go_172 (by decide) ?_
                    exact tm_sub [0, 1, 4, 5, 6, 7] rfl (ih _ (by omega) (i + 1) (c20) (sS 70 ((σ.1 70) + 1) σ3) (((Fr.rfl.trans (Fr.sub hF (by decide) (by decide) (by decide))).trans (Fr.sub f5 (by decide) (by decide) (by decide))).S (by decide)) (f6.S (by omega)) (by omega) (hrs (by omega) |>.fr (show Fr [68, 69, 70] [] [] σ3 (sS 70 ((σ.1 70) + 1) σ3) from (Fr.rfl.S (by decide))) (by decide) (by decide)) (hx0.trans (hxs.trans (XM.of (show Fr [68, 69, 70] [] [] σ3 (sS 70 ((σ.1 70) + 1) σ3) from (Fr.rfl.S (by decide))) (by decide)))) (by rw [show (sS 70 ((σ.1 70) + 1) σ3).1 70 = (σ.1 70) + 1 from rs_eq]; omega) (by rw [show (sS 70 ((σ.1 70) + 1) σ3).2.1 76 0 = σ3.2.1 76 0 from ra_S (rfl)]; omega) rfl)
                  · refine tm_iload dX12_go_162 0 rfl ?_
                    refine tm_if_eq (tgt := 169) dX12_go_164 (by decide) ⟨by omega, by omega⟩ (fun h26 => ?_) (fun h26 => ?_)
                    · refine tm_iinc (q0 := 3) (L' := [(5, .int (iI (i + 1))), (4, .int (iI c20)), (7, .int (iI v16)), (6, .int (iI v4)), (3, .int (iI q)), (0, .ref b), (1, .int (iI w)), (2, .int (iI nn))]) dX12_go_169 rfl (by decide) rfl ?_
                      refine tm_goto (tgt := 64) dX12_go_172 (by decide) ?_
                      exact tm_sub [0, 1, 4, 5, 6, 7] rfl (ih _ (by omega) (i + 1) (c20) (sS 70 ((σ.1 70) + 1) σ3) (((Fr.rfl.trans (Fr.sub hF (by decide) (by decide) (by decide))).trans (Fr.sub f5 (by decide) (by decide) (by decide))).S (by decide)) (f6.S (by omega)) (by omega) (hrs (by omega) |>.fr (show Fr [68, 69, 70] [] [] σ3 (sS 70 ((σ.1 70) + 1) σ3) from (Fr.rfl.S (by decide))) (by decide) (by decide)) (hx0.trans (hxs.trans (XM.of (show Fr [68, 69, 70] [] [] σ3 (sS 70 ((σ.1 70) + 1) σ3) from (Fr.rfl.S (by decide))) (by decide)))) (by rw [show (sS 70 ((σ.1 70) + 1) σ3).1 70 = (σ.1 70) + 1 from rs_eq]; omega) (by rw [show (sS 70 ((σ.1 70) + 1) σ3).2.1 76 0 = σ3.2.1 76 0 from ra_S (rfl)]; omega) rfl)
                    · refine tm_iconst dX12_go_167 ?_
                      exact tm_iret rfl dX12_go_168 (hret _ _ (((Fr.rfl.trans (Fr.sub hF (by decide) (by decide) (by decide))).trans (Fr.sub f5 (by decide) (by decide) (by decide))).S (by decide)) (f6.S (by omega)) (fun _ => (hrs (by omega)).fr (show Fr [68, 69, 70] [] [] σ3 (sS 70 ((σ.1 70) + 1) σ3) from (Fr.rfl.S (by decide))) (by decide) (by decide)) (hx0.trans (hxs.trans (XM.of (show Fr [68, 69, 70] [] [] σ3 (sS 70 ((σ.1 70) + 1) σ3) from (Fr.rfl.S (by decide))) (by decide)))) (by rw [show (sS 70 ((σ.1 70) + 1) σ3).1 70 = (σ.1 70) + 1 from rs_eq]; omega) (by rw [show (sS 70 ((σ.1 70) + 1) σ3).2.1 76 0 = σ3.2.1 76 0 from ra_S (rfl)]; omega))
                · refine tm_iload dX12_go_151 1 rfl ?_
                  refine tm_iload_n dX12_go_153 rfl 4 rfl ?_
                  refine tm_icmp_le (tgt := 167) dX12_go_154 (by decide) ⟨by omega, by omega⟩ ⟨by omega, by omega⟩ (fun h27 => ?_) (fun h27 => ?_)
                  · refine tm_iconst dX12_go_167 ?_
                    exact tm_iret rfl dX12_go_168 (hret _ _ (((Fr.rfl.trans (Fr.sub hF (by decide) (by decide) (by decide))).trans (Fr.sub f5 (by decide) (by decide) (by decide))).S (by decide)) (f6.S (by omega)) (fun _ => (hrs (by omega)).fr (show Fr [68, 69, 70] [] [] σ3 (sS 70 ((σ.1 70) + 1) σ3) from (Fr.rfl.S (by decide))) (by decide) (by decide)) (hx0.trans (hxs.trans (XM.of (show Fr [68, 69, 70] [] [] σ3 (sS 70 ((σ.1 70) + 1) σ3) from (Fr.rfl.S (by decide))) (by decide)))) (by rw [show (sS 70 ((σ.1 70) + 1) σ3).1 70 = (σ.1 70) + 1 from rs_eq]; omega) (by rw [show (sS 70 ((σ.1 70) + 1) σ3).2.1 76 0 = σ3.2.1 76 0 from ra_S (rfl)]; omega))
                  · refine tm_iload_n dX12_go_157 rfl 6 rfl ?_
                    refine tm_iconst dX12_go_158 ?_
                    refine tm_icmp_ne (tgt := 169) dX12_go_159 (by decide) ⟨by omega, by omega⟩ ⟨by decide, by decide⟩ (fun h28 => ?_) (fun h28 => ?_)
                    · refine tm_iinc (q0 := 3) (L' := [(5, .int (iI (i + 1))), (4, .int (iI c20)), (7, .int (iI v16)), (6, .int (iI v4)), (3, .int (iI q)), (0, .ref b), (1, .int (iI w)), (2, .int (iI nn))]) dX12_go_169 rfl (by decide) rfl ?_
                      refine tm_goto (tgt := 64) dX12_go_172 (by decide) ?_
                      exact tm_sub [0, 1, 4, 5, 6, 7] rfl (ih _ (by omega) (i + 1) (c20) (sS 70 ((σ.1 70) + 1) σ3) (((Fr.rfl.trans (Fr.sub hF (by decide) (by decide) (by decide))).trans (Fr.sub f5 (by decide) (by decide) (by decide))).S (by decide)) (f6.S (by omega)) (by omega) (hrs (by omega) |>.fr (show Fr [68, 69, 70] [] [] σ3 (sS 70 ((σ.1 70) + 1) σ3) from (Fr.rfl.S (by decide))) (by decide) (by decide)) (hx0.trans (hxs.trans (XM.of (show Fr [68, 69, 70] [] [] σ3 (sS 70 ((σ.1 70) + 1) σ3) from (Fr.rfl.S (by decide))) (by decide)))) (by rw [show (sS 70 ((σ.1 70) + 1) σ3).1 70 = (σ.1 70) + 1 from rs_eq]; omega) (by rw [show (sS 70 ((σ.1 70) + 1) σ3).2.1 76 0 = σ3.2.1 76 0 from ra_S (rfl)]; omega) rfl)
                    · refine tm_iload dX12_go_162 0 rfl ?_
                      refine tm_if_eq (tgt := 169) dX12_go_164 (by decide) ⟨by omega, by omega⟩ (fun h29 => ?_) (fun h29 => ?_)
                      · refine tm_iinc (q0 := 3) (L' := [(5, .int (iI (i + 1))), (4, .int (iI c20)), (7, .int (iI v16)), (6, .int (iI v4)), (3, .int (iI q)), (0, .ref b), (1, .int (iI w)), (2, .int (iI nn))]) dX12_go_169 rfl (by decide) rfl ?_
                        refine tm_goto (tgt := 64) dX12_go_172 (by decide) ?_
                        exact tm_sub [0, 1, 4, 5, 6, 7] rfl (ih _ (by omega) (i + 1) (c20) (sS 70 ((σ.1 70) + 1) σ3) (((Fr.rfl.trans (Fr.sub hF (by decide) (by decide) (by decide))).trans (Fr.sub f5 (by decide) (by decide) (by decide))).S (by decide)) (f6.S (by omega)) (by omega) (hrs (by omega) |>.fr (show Fr [68, 69, 70] [] [] σ3 (sS 70 ((σ.1 70) + 1) σ3) from (Fr.rfl.S (by decide))) (by decide) (by decide)) (hx0.trans (hxs.trans (XM.of (show Fr [68, 69, 70] [] [] σ3 (sS 70 ((σ.1 70) + 1) σ3) from (Fr.rfl.S (by decide))) (by decide)))) (by rw [show (sS 70 ((σ.1 70) + 1) σ3).1 70 = (σ.1 70) + 1 from rs_eq]; omega) (by rw [show (sS 70 ((σ.1 70) + 1) σ3).2.1 76 0 = σ3.2.1 76 0 from ra_S (rfl)]; omega) rfl)
                      · refine tm_iconst dX12_go_167 ?_
                        exact tm_iret rfl dX12_go_168 (hret _ _ (((Fr.rfl.trans (Fr.sub hF (by decide) (by decide) (by decide))).trans (Fr.sub f5 (by decide) (by decide) (by decide))).S (by decide)) (f6.S (by omega)) (fun _ => (hrs (by omega)).fr (show Fr [68, 69, 70] [] [] σ3 (sS 70 ((σ.1 70) + 1) σ3) from (Fr.rfl.S (by decide))) (by decide) (by decide)) (hx0.trans (hxs.trans (XM.of (show Fr [68, 69, 70] [] [] σ3 (sS 70 ((σ.1 70) + 1) σ3) from (Fr.rfl.S (by decide))) (by decide)))) (by rw [show (sS 70 ((σ.1 70) + 1) σ3).1 70 = (σ.1 70) + 1 from rs_eq]; omega) (by rw [show (sS 70 ((σ.1 70) + 1) σ3).2.1 76 0 = σ3.2.1 76 0 from ra_S (rfl)]; omega))
          · refine tm_iconst dX12_go_128 ?_
            refine tm_goto (tgt := 133) dX12_go_129 (by decide) ?_
            refine tm_iorZ (x := e) (y := 1) dX12_go_133 (by omega) (by omega) (fun c30 g31 => ?_)
            refine tm_istore (L' := [(4, .int (iI c30)), (7, .int (iI v16)), (6, .int (iI v4)), (5, .int (iI i)), (3, .int (iI q)), (0, .ref b), (1, .int (iI w)), (2, .int (iI nn))]) dX12_go_134 (by decide) rfl ?_
            refine tm_iload dX12_go_136 2 rfl ?_
            refine tm_iconst dX12_go_138 ?_
            refine tm_icmp_ne (tgt := 169) dX12_go_139 (by decide) ⟨by omega, by omega⟩ ⟨by decide, by decide⟩ (fun h32 => ?_) (fun h32 => ?_)
            · refine tm_iinc (q0 := 3) (L' := [(5, .int (iI (i + 1))), (4, .int (iI c30)), (7, .int (iI v16)), (6, .int (iI v4)), (3, .int (iI q)), (0, .ref b), (1, .int (iI w)), (2, .int (iI nn))]) dX12_go_169 rfl (by decide) rfl ?_
              refine tm_goto (tgt := 64) dX12_go_172 (by decide) ?_
              exact tm_sub [0, 1, 4, 5, 6, 7] rfl (ih _ (by omega) (i + 1) (c30) (sS 70 ((σ.1 70) + 1) σ3) (((Fr.rfl.trans (Fr.sub hF (by decide) (by decide) (by decide))).trans (Fr.sub f5 (by decide) (by decide) (by decide))).S (by decide)) (f6.S (by omega)) (by omega) (hrs (by omega) |>.fr (show Fr [68, 69, 70] [] [] σ3 (sS 70 ((σ.1 70) + 1) σ3) from (Fr.rfl.S (by decide))) (by decide) (by decide)) (hx0.trans (hxs.trans (XM.of (show Fr [68, 69, 70] [] [] σ3 (sS 70 ((σ.1 70) + 1) σ3) from (Fr.rfl.S (by decide))) (by decide)))) (by rw [show (sS 70 ((σ.1 70) + 1) σ3).1 70 = (σ.1 70) + 1 from rs_eq]; omega) (by rw [show (sS 70 ((σ.1 70) + 1) σ3).2.1 76 0 = σ3.2.1 76 0 from ra_S (rfl)]; omega) rfl)
            · refine tm_iload_n dX12_go_142 rfl 6 rfl ?_
              refine tm_if_eq (tgt := 167) dX12_go_143 (by decide) ⟨by omega, by omega⟩ (fun h33 => ?_) (fun h33 => ?_)
              · refine tm_iconst dX12_go_167 ?_
                exact tm_iret rfl dX12_go_168 (hret _ _ (((Fr.rfl.trans (Fr.sub hF (by decide) (by decide) (by decide))).trans (Fr.sub f5 (by decide) (by decide) (by decide))).S (by decide)) (f6.S (by omega)) (fun _ => (hrs (by omega)).fr (show Fr [68, 69, 70] [] [] σ3 (sS 70 ((σ.1 70) + 1) σ3) from (Fr.rfl.S (by decide))) (by decide) (by decide)) (hx0.trans (hxs.trans (XM.of (show Fr [68, 69, 70] [] [] σ3 (sS 70 ((σ.1 70) + 1) σ3) from (Fr.rfl.S (by decide))) (by decide)))) (by rw [show (sS 70 ((σ.1 70) + 1) σ3).1 70 = (σ.1 70) + 1 from rs_eq]; omega) (by rw [show (sS 70 ((σ.1 70) + 1) σ3).2.1 76 0 = σ3.2.1 76 0 from ra_S (rfl)]; omega))
              · refine tm_iload_n dX12_go_146 rfl 6 rfl ?_
                refine tm_iconst dX12_go_147 ?_
                refine tm_icmp_ne (tgt := 157) dX12_go_148 (by decide) ⟨by omega, by omega⟩ ⟨by decide, by decide⟩ (fun h34 => ?_) (fun h34 => ?_)
                · refine tm_iload_n dX12_go_157 rfl 6 rfl ?_
                  refine tm_iconst dX12_go_158 ?_
                  refine tm_icmp_ne (tgt := 169) dX12_go_159 (by decide) ⟨by omega, by omega⟩ ⟨by decide, by decide⟩ (fun h35 => ?_) (fun h35 => ?_)
                  · refine tm_iinc (q0 := 3) (L' := [(5, .int (iI (i + 1))), (4, .int (iI c30)), (7, .int (iI v16)), (6, .int (iI v4)), (3, .int (iI q)), (0, .ref b), (1, .int (iI w)), (2, .int (iI nn))]) dX12_go_169 rfl (by decide) rfl ?_
                    refine tm_goto (tgt := 64) dX12_go_172 (by decide) ?_
                    exact tm_sub [0, 1, 4, 5, 6, 7] rfl (ih _ (by omega) (i + 1) (c30) (sS 70 ((σ.1 70) + 1) σ3) (((Fr.rfl.trans (Fr.sub hF (by decide) (by decide) (by decide))).trans (Fr.sub f5 (by decide) (by decide) (by decide))).S (by decide)) (f6.S (by omega)) (by omega) (hrs (by omega) |>.fr (show Fr [68, 69, 70] [] [] σ3 (sS 70 ((σ.1 70) + 1) σ3) from (Fr.rfl.S (by decide))) (by decide) (by decide)) (hx0.trans (hxs.trans (XM.of (show Fr [68, 69, 70] [] [] σ3 (sS 70 ((σ.1 70) + 1) σ3) from (Fr.rfl.S (by decide))) (by decide)))) (by rw [show (sS 70 ((σ.1 70) + 1) σ3).1 70 = (σ.1 70) + 1 from rs_eq]; omega) (by rw [show (sS 70 ((σ.1 70) + 1) σ3).2.1 76 0 = σ3.2.1 76 0 from ra_S (rfl)]; omega) rfl)
                  · refine tm_iload dX12_go_162 0 rfl ?_
                    refine tm_if_eq (tgt := 169) dX12_go_164 (by decide) ⟨by omega, by omega⟩ (fun h36 => ?_) (fun h36 => ?_)
                    · refine tm_iinc (q0 := 3) (L' := [(5, .int (iI (i + 1))), (4, .int (iI c30)), (7, .int (iI v16)), (6, .int (iI v4)), (3, .int (iI q)), (0, .ref b), (1, .int (iI w)), (2, .int (iI nn))]) dX12_go_169 rfl (by decide) rfl ?_
                      refine tm_goto (tgt := 64) dX12_go_172 (by decide) ?_
                      exact tm_sub [0, 1, 4, 5, 6, 7] rfl (ih _ (by omega) (i + 1) (c30) (sS 70 ((σ.1 70) + 1) σ3) (((Fr.rfl.trans (Fr.sub hF (by decide) (by decide) (by decide))).trans (Fr.sub f5 (by decide) (by decide) (by decide))).S (by decide)) (f6.S (by omega)) (by omega) (hrs (by omega) |>.fr (show Fr [68, 69, 70] [] [] σ3 (sS 70 ((σ.1 70) + 1) σ3) from (Fr.rfl.S (by decide))) (by decide) (by decide)) (hx0.trans (hxs.trans (XM.of (show Fr [68, 69, 70] [] [] σ3 (sS 70 ((σ.1 70) + 1) σ3) from (Fr.rfl.S (by decide))) (by decide)))) (by rw [show (sS 70 ((σ.1 70) + 1) σ3).1 70 = (σ.1 70) + 1 from rs_eq]; omega) (by rw [show (sS 70 ((σ.1 70) + 1) σ3).2.1 76 0 = σ3.2.1 76 0 from ra_S (rfl)]; omega) rfl)
                    · refine tm_iconst dX12_go_167 ?_
                      exact tm_iret rfl dX12_go_168 (hret _ _ (((Fr.rfl.trans (Fr.sub hF (by decide) (by decide) (by decide))).trans (Fr.sub f5 (by decide) (by decide) (by decide))).S (by decide)) (f6.S (by omega)) (fun _ => (hrs (by omega)).fr (show Fr [68, 69, 70] [] [] σ3 (sS 70 ((σ.1 70) + 1) σ3) from (Fr.rfl.S (by decide))) (by decide) (by decide)) (hx0.trans (hxs.trans (XM.of (show Fr [68, 69, 70] [] [] σ3 (sS 70 ((σ.1 70) + 1) σ3) from (Fr.rfl.S (by decide))) (by decide)))) (by rw [show (sS 70 ((σ.1 70) + 1) σ3).1 70 = (σ.1 70) + 1 from rs_eq]; omega) (by rw [show (sS 70 ((σ.1 70) + 1) σ3).2.1 76 0 = σ3.2.1 76 0 from ra_S (rfl)]; omega))
                · refine tm_iload dX12_go_151 1 rfl ?_
                  refine tm_iload_n dX12_go_153 rfl 4 rfl ?_
                  refine tm_icmp_le (tgt := 167) dX12_go_154 (by decide) ⟨by omega, by omega⟩ ⟨by omega, by omega⟩ (fun h37 => ?_) (fun h37 => ?_)
                  · refine tm_iconst dX12_go_167 ?_
                    exact tm_iret rfl dX12_go_168 (hret _ _ (((Fr.rfl.trans (Fr.sub hF (by decide) (by decide) (by decide))).trans (Fr.sub f5 (by decide) (by decide) (by decide))).S (by decide)) (f6.S (by omega)) (fun _ => (hrs (by omega)).fr (show Fr [68, 69, 70] [] [] σ3 (sS 70 ((σ.1 70) + 1) σ3) from (Fr.rfl.S (by decide))) (by decide) (by decide)) (hx0.trans (hxs.trans (XM.of (show Fr [68, 69, 70] [] [] σ3 (sS 70 ((σ.1 70) + 1) σ3) from (Fr.rfl.S (by decide))) (by decide)))) (by rw [show (sS 70 ((σ.1 70) + 1) σ3).1 70 = (σ.1 70) + 1 from rs_eq]; omega) (by rw [show (sS 70 ((σ.1 70) + 1) σ3).2.1 76 0 = σ3.2.1 76 0 from ra_S (rfl)]; omega))
                  · refine tm_iload_n dX12_go_157 rfl 6 rfl ?_
                    refine tm_iconst dX12_go_158 ?_
                    refine tm_icmp_ne (tgt := 169) dX12_go_159 (by decide) ⟨by omega, by omega⟩ ⟨by decide, by decide⟩ (fun h38 => ?_) (fun h38 => ?_)
                    · refine tm_iinc (q0 := 3) (L' := [(5, .int (iI (i + 1))), (4, .int (iI c30)), (7, .int (iI v16)), (6, .int (iI v4)), (3, .int (iI q)), (0, .ref b), (1, .int (iI w)), (2, .int (iI nn))]) dX12_go_169 rfl (by decide) rfl ?_
                      refine tm_goto (tgt := 64) dX12_go_172 (by decide) ?_
                      exact tm_sub [0, 1, 4, 5, 6, 7] rfl (ih _ (by omega) (i + 1) (c30) (sS 70 ((σ.1 70) + 1) σ3) (((Fr.rfl.trans (Fr.sub hF (by decide) (by decide) (by decide))).trans (Fr.sub f5 (by decide) (by decide) (by decide))).S (by decide)) (f6.S (by omega)) (by omega) (hrs (by omega) |>.fr (show Fr [68, 69, 70] [] [] σ3 (sS 70 ((σ.1 70) + 1) σ3) from (Fr.rfl.S (by decide))) (by decide) (by decide)) (hx0.trans (hxs.trans (XM.of (show Fr [68, 69, 70] [] [] σ3 (sS 70 ((σ.1 70) + 1) σ3) from (Fr.rfl.S (by decide))) (by decide)))) (by rw [show (sS 70 ((σ.1 70) + 1) σ3).1 70 = (σ.1 70) + 1 from rs_eq]; omega) (by rw [show (sS 70 ((σ.1 70) + 1) σ3).2.1 76 0 = σ3.2.1 76 0 from ra_S (rfl)]; omega) rfl)
                    · refine tm_iload dX12_go_162 0 rfl ?_
                      refine tm_if_eq (tgt := 169) dX12_go_164 (by decide) ⟨by omega, by omega⟩ (fun h39 => ?_) (fun h39 => ?_)
                      · refine tm_iinc (q0 := 3) (L' := [(5, .int (iI (i + 1))), (4, .int (iI c30)), (7, .int (iI v16)), (6, .int (iI v4)), (3, .int (iI q)), (0, .ref b), (1, .int (iI w)), (2, .int (iI nn))]) dX12_go_169 rfl (by decide) rfl ?_
                        refine tm_goto (tgt := 64) dX12_go_172 (by decide) ?_
                        exact tm_sub [0, 1, 4, 5, 6, 7] rfl (ih _ (by omega) (i + 1) (c30) (sS 70 ((σ.1 70) + 1) σ3) (((Fr.rfl.trans (Fr.sub hF (by decide) (by decide) (by decide))).trans (Fr.sub f5 (by decide) (by decide) (by decide))).S (by decide)) (f6.S (by omega)) (by omega) (hrs (by omega) |>.fr (show Fr [68, 69, 70] [] [] σ3 (sS 70 ((σ.1 70) + 1) σ3) from (Fr.rfl.S (by decide))) (by decide) (by decide)) (hx0.trans (hxs.trans (XM.of (show Fr [68, 69, 70] [] [] σ3 (sS 70 ((σ.1 70) + 1) σ3) from (Fr.rfl.S (by decide))) (by decide)))) (by rw [show (sS 70 ((σ.1 70) + 1) σ3).1 70 = (σ.1 70) + 1 from rs_eq]; omega) (by rw [show (sS 70 ((σ.1 70) + 1) σ3).2.1 76 0 = σ3.2.1 76 0 from ra_S (rfl)]; omega) rfl)
                      · refine tm_iconst dX12_go_167 ?_
                        exact tm_iret rfl dX12_go_168 (hret _ _ (((Fr.rfl.trans (Fr.sub hF (by decide) (by decide) (by decide))).trans (Fr.sub f5 (by decide) (by decide) (by decide))).S (by decide)) (f6.S (by omega)) (fun _ => (hrs (by omega)).fr (show Fr [68, 69, 70] [] [] σ3 (sS 70 ((σ.1 70) + 1) σ3) from (Fr.rfl.S (by decide))) (by decide) (by decide)) (hx0.trans (hxs.trans (XM.of (show Fr [68, 69, 70] [] [] σ3 (sS 70 ((σ.1 70) + 1) σ3) from (Fr.rfl.S (by decide))) (by decide)))) (by rw [show (sS 70 ((σ.1 70) + 1) σ3).1 70 = (σ.1 70) + 1 from rs_eq]; omega) (by rw [show (sS 70 ((σ.1 70) + 1) σ3).2.1 76 0 = σ3.2.1 76 0 from ra_S (rfl)]; omega))
        · refine tm_aload_n dX12_go_106 rfl 4 rfl ?_
          refine tm_iconst dX12_go_107 ?_
          refine tm_putS (k := 68) (v := 1) lay_12 dX12_go_108 (by decide) fl12_560 rfl (tyX12_ok 68 (by decide)) rfl rfl rfl ?_
          refine tm_iconst dX12_go_111 ?_
          exact tm_iret rfl dX12_go_112 (hret _ _ ((((Fr.rfl.trans (Fr.sub hF (by decide) (by decide) (by decide))).trans (Fr.sub f5 (by decide) (by decide) (by decide))).S (by decide)).S (by decide)) ((f6.S (by omega)).S (by omega)) (fun q => absurd (q.symm.trans (show (sS 68 1 (sS 70 ((σ.1 70) + 1) σ3)).1 68 = 1 from rs_eq)) (by decide)) (hx0.trans (hxs.trans (XM.of (show Fr [68, 69, 70] [] [] σ3 (sS 68 1 (sS 70 ((σ.1 70) + 1) σ3)) from ((Fr.rfl.S (by decide)).S (by decide))) (by decide)))) (by rw [show (sS 68 1 (sS 70 ((σ.1 70) + 1) σ3)).1 70 = (σ.1 70) + 1 from rs_o (by decide) (rs_eq)]; omega) (by rw [show (sS 68 1 (sS 70 ((σ.1 70) + 1) σ3)).2.1 76 0 = σ3.2.1 76 0 from ra_S (ra_S (rfl))]; omega))
      · refine tm_aload_n dX12_go_83 rfl 4 rfl ?_
        refine tm_iconst dX12_go_84 ?_
        refine tm_putS (k := 69) (v := 1) lay_12 dX12_go_85 (by decide) fl12_563 rfl (tyX12_ok 69 (by decide)) rfl rfl rfl ?_
        refine tm_iconst dX12_go_88 ?_
        exact tm_iret rfl dX12_go_89 (hret _ _ (((Fr.rfl.trans (Fr.sub hF (by decide) (by decide) (by decide))).trans (Fr.sub f5 (by decide) (by decide) (by decide))).S (by decide)) (f6.S (by omega)) (fun _ => (hrs (by omega)).fr (show Fr [68, 69, 70] [] [] σ3 (sS 69 1 σ3) from (Fr.rfl.S (by decide))) (by decide) (by decide)) (hx0.trans (hxs.trans (XM.of (show Fr [68, 69, 70] [] [] σ3 (sS 69 1 σ3) from (Fr.rfl.S (by decide))) (by decide)))) (by rw [show (sS 69 1 σ3).1 70 = σ.1 70 from rs_o (by decide) (rs_F f5 (by decide) (rfl))]; omega) (by rw [show (sS 69 1 σ3).2.1 76 0 = σ3.2.1 76 0 from ra_S (rfl)]; omega))
theorem dX12_go_0 : decode cX12_go 0 = .ok (.aload_n 0, 1) := by decide +kernel
theorem dX12_go_1 : decode cX12_go 1 = .ok (.iconst 0, 1) := by decide +kernel
theorem dX12_go_2 : decode cX12_go 2 = .ok (.putfield 185, 3) := by decide +kernel
theorem dX12_go_5 : decode cX12_go 5 = .ok (.aload_n 0, 1) := by decide +kernel
theorem dX12_go_6 : decode cX12_go 6 = .ok (.getfield 397, 3) := by decide +kernel
theorem dX12_go_9 : decode cX12_go 9 = .ok (.ifCond .eq 23, 3) := by decide +kernel
theorem dX12_go_32 : decode cX12_go 32 = .ok (.iconst (-1), 1) := by decide +kernel
theorem dX12_go_33 : decode cX12_go 33 = .ok (.ireturn, 1) := by decide +kernel
theorem dX12_go_12 : decode cX12_go 12 = .ok (.iload_n 1, 1) := by decide +kernel
theorem dX12_go_13 : decode cX12_go 13 = .ok (.iconst 0, 1) := by decide +kernel
theorem dX12_go_14 : decode cX12_go 14 = .ok (.iconst 2, 1) := by decide +kernel
theorem dX12_go_15 : decode cX12_go 15 = .ok (.invokestatic 188, 3) := by decide +kernel
theorem dX12_go_18 : decode cX12_go 18 = .ok (.ifCond .eq 14, 3) := by decide +kernel
theorem dX12_go_21 : decode cX12_go 21 = .ok (.iload_n 2, 1) := by decide +kernel
theorem dX12_go_22 : decode cX12_go 22 = .ok (.iconst 1, 1) := by decide +kernel
theorem dX12_go_23 : decode cX12_go 23 = .ok (.sipush 20000, 3) := by decide +kernel
theorem dX12_go_26 : decode cX12_go 26 = .ok (.invokestatic 188, 3) := by decide +kernel
theorem dX12_go_29 : decode cX12_go 29 = .ok (.ifCond .ne 5, 3) := by decide +kernel
theorem dX12_go_34 : decode cX12_go 34 = .ok (.aload_n 0, 1) := by decide +kernel
theorem dX12_go_35 : decode cX12_go 35 = .ok (.getfield 563, 3) := by decide +kernel
theorem dX12_go_38 : decode cX12_go 38 = .ok (.ifCond .eq 5, 3) := by decide +kernel
theorem dX12_go_43 : decode cX12_go 43 = .ok (.aload_n 0, 1) := by decide +kernel
theorem dX12_go_44 : decode cX12_go 44 = .ok (.getfield 560, 3) := by decide +kernel
theorem dX12_go_47 : decode cX12_go 47 = .ok (.ifCond .eq 5, 3) := by decide +kernel
theorem dX12_go_52 : decode cX12_go 52 = .ok (.aload_n 0, 1) := by decide +kernel
theorem dX12_go_53 : decode cX12_go 53 = .ok (.iconst 0, 1) := by decide +kernel
theorem dX12_go_54 : decode cX12_go 54 = .ok (.invokevirtual 554, 3) := by decide +kernel
theorem dX12_go_57 : decode cX12_go 57 = .ok (.istore_n 3, 1) := by decide +kernel
theorem dX12_go_58 : decode cX12_go 58 = .ok (.iconst 0, 1) := by decide +kernel
theorem dX12_go_59 : decode cX12_go 59 = .ok (.istore 4, 2) := by decide +kernel
theorem dX12_go_61 : decode cX12_go 61 = .ok (.iconst 0, 1) := by decide +kernel
theorem dX12_go_62 : decode cX12_go 62 = .ok (.istore 5, 2) := by decide +kernel
theorem dX12_go_175 : decode cX12_go 175 = .ok (.iconst 2, 1) := by decide +kernel
theorem dX12_go_176 : decode cX12_go 176 = .ok (.ireturn, 1) := by decide +kernel
theorem dX12_go_50 : decode cX12_go 50 = .ok (.iconst 0, 1) := by decide +kernel
theorem dX12_go_51 : decode cX12_go 51 = .ok (.ireturn, 1) := by decide +kernel
theorem dX12_go_41 : decode cX12_go 41 = .ok (.iconst 3, 1) := by decide +kernel
theorem dX12_go_42 : decode cX12_go 42 = .ok (.ireturn, 1) := by decide +kernel
set_option maxHeartbeats 4000000 in
set_option maxRecDepth 20000 in
theorem c_X12_go (d : Nat) {b : Nat} {σ : MS} {w : Int} {nn : Int} (hR : RG σ) (hit : ITM σ) (hpar : PAR σ) (hbka : BKA σ 0) (hr7 : σ.1 67 ≠ 0 → σ.1 68 = 0 → RUN σ 0) (hG : 0 ≤ σ.1 70 ∧ σ.1 70 ≤ 1000000000) (hP : 0 ≤ σ.2.1 76 0 ∧ σ.2.1 76 0 ≤ 900000000) (h_w : -2147483648 ≤ w ∧ w ≤ 2147483647) (h_nn : -2147483648 ≤ nn ∧ nn ≤ 2147483647) : Tm (d + 4) m_X12_go 0 b σ [(0, .ref b), (1, .int (iI w)), (2, .int (iI nn))] [] (fun ro σ2 => ∃ v : Int, ro = some (.int (iI v)) ∧ (Fr [0, 68, 69, 70] [73, 75, 76, 77, 78, 79, 80, 81, 82] [] σ σ2) ∧ (RG σ2) ∧ (σ2.1 67 ≠ 0 → σ2.1 68 = 0 → RUN σ2 0) ∧ (XM 0 σ σ2) ∧ (σ.1 70 ≤ σ2.1 70 ∧ σ2.1 70 ≤ σ.1 70 + 20000) ∧ (σ.2.1 76 0 ≤ σ2.2.1 76 0 ∧ σ2.2.1 76 0 ≤ σ.2.1 76 0 + 20000)) := by
  refine tm_aload_n dX12_go_0 rfl 0 rfl ?_
  refine tm_iconst dX12_go_1 ?_
  refine tm_putS (k := 0) (v := 0) lay_12 dX12_go_2 (by decide) fl12_185 rfl (tyX12_ok 0 (by decide)) rfl rfl rfl ?_
  refine tm_aload_n dX12_go_5 rfl 0 rfl ?_
  refine tm_getS (k := 67) (t := σ.1 67) dX12_go_6 (by decide) fl12_397 rfl (rs_o (by decide) (rfl)) ?_
  have g1 := RG.s hR 67
  refine tm_if_eq (tgt := 32) dX12_go_9 (by decide) ⟨by omega, by omega⟩ (fun h2 => ?_) (fun h2 => ?_)
  · refine tm_iconst dX12_go_32 ?_
    exact tm_iret rfl dX12_go_33 (⟨_, rfl, (Fr.rfl.S (by decide)), (hR.S (by omega)), fun a c => (hr7 a c).fr (Fr.rfl.S (by decide) : Fr [0] [] [] σ (sS 0 0 σ)) (by decide) (by decide), XM.of (Fr.rfl.S (by decide) : Fr [0] [] [] σ (sS 0 0 σ)) (by decide), ⟨Int.le_refl _, by show σ.1 70 ≤ σ.1 70 + 20000; omega⟩, ⟨Int.le_refl _, by show σ.2.1 76 0 ≤ σ.2.1 76 0 + 20000; omega⟩⟩)
  · refine tm_iload_n dX12_go_12 rfl 1 rfl ?_
    refine tm_iconst dX12_go_13 ?_
    refine tm_iconst dX12_go_14 ?_
    refine tm_callS (M := m_X12_go) (pc := 15) (ix := 188) (M' := m_X12_in) (As := [.int (iI w), .int (iI 0), .int (iI 2)]) (rest := []) dX12_go_15 ok_X12_in stt_X12_in ml12_188 np_X12_in rfl (Nat.le_of_ble_eq_true rfl) (Nat.le_of_ble_eq_true rfl) rfl (c_X12_in (d + 2) (σ := (sS 0 0 σ)) (x := w) (lo := 0) (hi := 2) (by omega) (by omega) (by omega)) (fun r3 σ4 hp => ?_)
    obtain ⟨v5, rfl, rfl, f6, f7⟩ := hp
    show Tm _ _ 18 b (sS 0 0 σ) [(0, .ref b), (1, .int (iI w)), (2, .int (iI nn))] [.int (iI v5)] _
    refine tm_if_eq (tgt := 32) dX12_go_18 (by decide) ⟨by omega, by omega⟩ (fun h8 => ?_) (fun h8 => ?_)
    · refine tm_iconst dX12_go_32 ?_
      exact tm_iret rfl dX12_go_33 (⟨_, rfl, (Fr.rfl.S (by decide)), (hR.S (by omega)), fun a c => (hr7 a c).fr (Fr.rfl.S (by decide) : Fr [0] [] [] σ (sS 0 0 σ)) (by decide) (by decide), XM.of (Fr.rfl.S (by decide) : Fr [0] [] [] σ (sS 0 0 σ)) (by decide), ⟨Int.le_refl _, by show σ.1 70 ≤ σ.1 70 + 20000; omega⟩, ⟨Int.le_refl _, by show σ.2.1 76 0 ≤ σ.2.1 76 0 + 20000; omega⟩⟩)
    · refine tm_iload_n dX12_go_21 rfl 2 rfl ?_
      refine tm_iconst dX12_go_22 ?_
      refine tm_sipush dX12_go_23 (by decide) ?_
      refine tm_callS (M := m_X12_go) (pc := 26) (ix := 188) (M' := m_X12_in) (As := [.int (iI nn), .int (iI 1), .int (iI 20000)]) (rest := []) dX12_go_26 ok_X12_in stt_X12_in ml12_188 np_X12_in rfl (Nat.le_of_ble_eq_true rfl) (Nat.le_of_ble_eq_true rfl) rfl (c_X12_in (d + 2) (σ := (sS 0 0 σ)) (x := nn) (lo := 1) (hi := 20000) (by omega) (by omega) (by omega)) (fun r9 σ10 hp => ?_)
      obtain ⟨v11, rfl, rfl, f12, f13⟩ := hp
      show Tm _ _ 29 b (sS 0 0 σ) [(0, .ref b), (1, .int (iI w)), (2, .int (iI nn))] [.int (iI v11)] _
      refine tm_if_ne (tgt := 34) dX12_go_29 (by decide) ⟨by omega, by omega⟩ (fun h14 => ?_) (fun h14 => ?_)
      · refine tm_aload_n dX12_go_34 rfl 0 rfl ?_
        refine tm_getS (k := 69) (t := σ.1 69) dX12_go_35 (by decide) fl12_563 rfl (rs_o (by decide) (rfl)) ?_
        have g15 := RG.s hR 69
        refine tm_if_eq (tgt := 43) dX12_go_38 (by decide) ⟨by omega, by omega⟩ (fun h16 => ?_) (fun h16 => ?_)
        · refine tm_aload_n dX12_go_43 rfl 0 rfl ?_
          refine tm_getS (k := 68) (t := σ.1 68) dX12_go_44 (by decide) fl12_560 rfl (rs_o (by decide) (rfl)) ?_
          have g17 := RG.s hR 68
          refine tm_if_eq (tgt := 52) dX12_go_47 (by decide) ⟨by omega, by omega⟩ (fun h18 => ?_) (fun h18 => ?_)
          · refine tm_aload_n dX12_go_52 rfl 0 rfl ?_
            have hrn := (hr7 (by omega) (by omega)).fr (Fr.rfl.S (by decide) : Fr [0] [] [] σ (sS 0 0 σ)) (by decide) (by decide)
            have hbk2 := hbka.fr (Fr.rfl.S (by decide) : Fr [0] [] [] σ (sS 0 0 σ)) (by decide) (by decide)
            have hrr : (0 ≤ (sS 0 0 σ).2.1 73 0 ∧ (sS 0 0 σ).2.1 73 0 ≤ 9) ∧ ∀ c, 9 * 0 ≤ c → c < 9 * 0 + (sS 0 0 σ).2.1 73 0 → DEC (sS 0 0 σ) 0 c (fn (sS 0 0 σ) 0 c) := ⟨⟨by have := hrn.1; omega, hrn.1.2⟩, hrn.dec hbk2.2 hbk2.1.2⟩
            refine tm_iconst dX12_go_53 ?_
            refine tm_callV (M := m_X12_go) (pc := 54) (ix := 554) (M' := m_X12_depth) (As := [.int (iI 0)]) (rest := []) dX12_go_54 ok_X12_depth im_X12_depth se_X12_depth ml12_554 np_X12_depth rfl rfl (Nat.le_of_ble_eq_true rfl) (Nat.le_of_ble_eq_true rfl) rfl (c_X12_depth (d + 2) (σ := (sS 0 0 σ)) (m := 0) (hR.S (by omega)) (by decide) hrr.1 (fun c a e => ⟨_, hrr.2 c a e⟩)) (fun r19 σ20 hp => ?_)
            obtain ⟨v21, rfl, rfl, f22, f23⟩ := hp
            show Tm _ _ 57 b (sS 0 0 σ) [(0, .ref b), (1, .int (iI w)), (2, .int (iI nn))] [.int (iI v21)] _
            refine tm_istore_n (L' := [(3, .int (iI v21)), (0, .ref b), (1, .int (iI w)), (2, .int (iI nn))]) dX12_go_57 rfl (by decide) rfl ?_
            refine tm_iconst dX12_go_58 ?_
            refine tm_istore (L' := [(4, .int (iI 0)), (3, .int (iI v21)), (0, .ref b), (1, .int (iI w)), (2, .int (iI nn))]) dX12_go_59 (by decide) rfl ?_
            refine tm_iconst dX12_go_61 ?_
            refine tm_istore (L' := [(5, .int (iI 0)), (4, .int (iI 0)), (3, .int (iI v21)), (0, .ref b), (1, .int (iI w)), (2, .int (iI nn))]) dX12_go_62 (by decide) rfl ?_
            refine tm_sub [0, 1, 2, 3, 4, 5] rfl (l_go (d) (σ0 := (sS 0 0 σ)) (w := w) (nn := nn) (q := v21) (hR.S (by omega)) hbk2 (hit.fr (Fr.rfl.S (by decide) : Fr [0] [] [] σ (sS 0 0 σ)) (by decide)) (hpar.fr (Fr.rfl.S (by decide) : Fr [0] [] [] σ (sS 0 0 σ)) (by decide)) (by omega) hG hP (by omega) (by omega) (fun i33 e34 σ35 F27 R28 f29 f30 f31 f32 => ?_) (fun v τ hF2 hR2 hru hxm hgb hpb => ⟨_, rfl, ((Fr.rfl.S (by decide) : Fr [0, 68, 69, 70] [73, 75, 76, 77, 78, 79, 80, 81, 82] [] σ (sS 0 0 σ)).trans (Fr.sub hF2 (by decide) (by decide) (by decide))), hR2, fun _ c => hru c, XM.trans (XM.of (Fr.rfl.S (by decide) : Fr [0] [] [] σ (sS 0 0 σ)) (by decide)) hxm, hgb, hpb⟩) _ (0) (0) (sS 0 0 σ) Fr.rfl (hR.S (by omega)) (by omega) hrn XM.rfl ⟨Int.le_refl _, by omega⟩ ⟨Int.le_refl _, by omega⟩ rfl)
            show Tm _ _ 175 b σ35 [(0, .ref b)] [] _
            refine tm_iconst dX12_go_175 ?_
            exact tm_iret rfl dX12_go_176 (⟨_, rfl, ((Fr.rfl.S (by decide) : Fr [0, 68, 69, 70] [73, 75, 76, 77, 78, 79, 80, 81, 82] [] σ (sS 0 0 σ)).trans (Fr.sub F27 (by decide) (by decide) (by decide))), R28, fun _ _ => f29, XM.trans (XM.of (Fr.rfl.S (by decide) : Fr [0] [] [] σ (sS 0 0 σ)) (by decide)) f30, f31, f32⟩)
          · refine tm_iconst dX12_go_50 ?_
            exact tm_iret rfl dX12_go_51 (⟨_, rfl, (Fr.rfl.S (by decide)), (hR.S (by omega)), fun a c => (hr7 a c).fr (Fr.rfl.S (by decide) : Fr [0] [] [] σ (sS 0 0 σ)) (by decide) (by decide), XM.of (Fr.rfl.S (by decide) : Fr [0] [] [] σ (sS 0 0 σ)) (by decide), ⟨Int.le_refl _, by show σ.1 70 ≤ σ.1 70 + 20000; omega⟩, ⟨Int.le_refl _, by show σ.2.1 76 0 ≤ σ.2.1 76 0 + 20000; omega⟩⟩)
        · refine tm_iconst dX12_go_41 ?_
          exact tm_iret rfl dX12_go_42 (⟨_, rfl, (Fr.rfl.S (by decide)), (hR.S (by omega)), fun a c => (hr7 a c).fr (Fr.rfl.S (by decide) : Fr [0] [] [] σ (sS 0 0 σ)) (by decide) (by decide), XM.of (Fr.rfl.S (by decide) : Fr [0] [] [] σ (sS 0 0 σ)) (by decide), ⟨Int.le_refl _, by show σ.1 70 ≤ σ.1 70 + 20000; omega⟩, ⟨Int.le_refl _, by show σ.2.1 76 0 ≤ σ.2.1 76 0 + 20000; omega⟩⟩)
      · refine tm_iconst dX12_go_32 ?_
        exact tm_iret rfl dX12_go_33 (⟨_, rfl, (Fr.rfl.S (by decide)), (hR.S (by omega)), fun a c => (hr7 a c).fr (Fr.rfl.S (by decide) : Fr [0] [] [] σ (sS 0 0 σ)) (by decide) (by decide), XM.of (Fr.rfl.S (by decide) : Fr [0] [] [] σ (sS 0 0 σ)) (by decide), ⟨Int.le_refl _, by show σ.1 70 ≤ σ.1 70 + 20000; omega⟩, ⟨Int.le_refl _, by show σ.2.1 76 0 ≤ σ.2.1 76 0 + 20000; omega⟩⟩)
