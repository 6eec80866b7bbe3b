section
def PLN (σ : MS) (r : Int) : Prop := (kdm σ 2 r 0 = 11 ∨ kdm σ 2 r 0 = 7 ∨ (kdm σ 2 r 0 = 13 ∧ kdm σ 2 r 1 = 11)) ∧ ∀ p j, 0 ≤ p → p < σ.2.1 9 (6 + r) → 0 ≤ j → j < σ.2.1 9 (6 + r) → (kdm σ 2 r p = 8 ∨ kdm σ 2 r p = 9) → kdm σ 2 r j = 13 → dsm σ 2 r j = dsm σ 2 r p → p < j ∨ kdm σ 2 r (j + 1) = 11
def rkp (σ : MS) (r p : Int) : Int := if kdm σ 2 r p = 11 ∨ kdm σ 2 r p = 7 then 1 else if kdm σ 2 r p = 13 ∧ kdm σ 2 r (p + 1) = 11 then 2 else 4 * (σ.2.1 9 (6 + r) - p) + 3
def rks (σ : MS) (R P : Int → Int) : Nat → Int
  | 0 => 0
  | n + 1 => rks σ R P n + 4 * (σ.2.1 9 (6 + R (18 + n)) - P (18 + n))
def rk (σ : MS) : Int := rks σ (σ.2.1 78) (σ.2.1 79) (σ.2.1 73 2 - 1).toNat + rkp σ (σ.2.1 78 (18 + σ.2.1 73 2 - 1)) (σ.2.1 79 (18 + σ.2.1 73 2 - 1))
theorem rks_ext {σ : MS} {R P R' P' : Int → Int} (n : Nat) (h : ∀ j : Int, 18 ≤ j → j < 18 + n → R' j = R j ∧ P' j = P j) : rks σ R' P' n = rks σ R P n := by
  induction n with
  | zero => rfl
  | succ n ih =>
    unfold rks
    rw [ih (fun j a b => h j a (by omega)), (h (18 + n) (by omega) (by omega)).1, (h (18 + n) (by omega) (by omega)).2]
theorem rks_fr {ss ks js : List Nat} {σ τ : MS} {R P : Int → Int} (f : Fr ss ks js σ τ) (h : 9 ∉ ks) (n : Nat) : rks τ R P n = rks σ R P n := by
  induction n with
  | zero => rfl
  | succ n ih => unfold rks; rw [ih, f.2.1 9 h]
theorem rkp_fr {ss ks js : List Nat} {σ τ : MS} {r p : Int} (f : Fr ss ks js σ τ) (h : 9 ∉ ks) (h3 : 3 ∉ ks) : rkp τ r p = rkp σ r p := by
  unfold rkp kdm; rw [f.2.1 9 h, f.2.1 3 h3]
theorem rkp_1 {σ : MS} {r p : Int} (h : p < σ.2.1 9 (6 + r)) : 1 ≤ rkp σ r p := by
  unfold rkp
  split
  · omega
  · split <;> omega
theorem rkp_le {σ : MS} {r p : Int} (h : p < σ.2.1 9 (6 + r)) : rkp σ r p ≤ 4 * (σ.2.1 9 (6 + r) - p) + 3 := by
  unfold rkp
  split
  · omega
  · split <;> omega
theorem rks_s {σ : MS} {n : Int} {R P : Int → Int} (h : 1 ≤ n) : rks σ R P n.toNat = rks σ R P (n - 1).toNat + 4 * (σ.2.1 9 (6 + R (18 + (n - 1))) - P (18 + (n - 1))) := by
  rw [show n.toNat = (n - 1).toNat + 1 by omega]
  show rks σ R P (n - 1).toNat + 4 * (σ.2.1 9 (6 + R (18 + ((n - 1).toNat : Int))) - P (18 + ((n - 1).toNat : Int))) = _
  rw [show ((n - 1).toNat : Int) = n - 1 by omega]
theorem rks_b {σ : MS} {R P : Int → Int} (n : Nat) (h : ∀ j : Int, 18 ≤ j → j < 18 + n → 0 ≤ P j ∧ P j < σ.2.1 9 (6 + R j) ∧ σ.2.1 9 (6 + R j) ≤ 200) : 0 ≤ rks σ R P n ∧ rks σ R P n ≤ 800 * n := by
  induction n with
  | zero => exact ⟨Int.le_refl _, Int.le_refl _⟩
  | succ n ih =>
    have a := ih (fun j a b => h j a (by omega))
    have b := h (18 + n) (by omega) (by omega)
    unfold rks
    omega
theorem rk_b {σ : MS} (h : RUN σ 2) (b : BKA σ 2) : 0 ≤ rk σ ∧ rk σ ≤ 8003 := by
  obtain ⟨h1, h2, h3, h4⟩ := h
  have key : ∀ j : Int, 18 ≤ j → j < 18 + σ.2.1 73 2 → 0 ≤ σ.2.1 79 j ∧ σ.2.1 79 j < σ.2.1 9 (6 + σ.2.1 78 j) ∧ σ.2.1 9 (6 + σ.2.1 78 j) ≤ 200 := fun j x y => by
    have p := h2 j (by omega) (by omega)
    have q := (b.2 _ p.1.1 p.1.2).1.2
    exact ⟨p.2.1.1, p.2.1.2, q⟩
  have a := rks_b (σ := σ) (R := σ.2.1 78) (P := σ.2.1 79) (σ.2.1 73 2 - 1).toNat (fun j x y => key j x (by omega))
  have k := key (18 + σ.2.1 73 2 - 1) (by omega) (by omega)
  have c := rkp_1 (σ := σ) k.2.1
  have d := rkp_le (σ := σ) k.2.1
  unfold rk
  omega
theorem rk_fall {ss ks js : List Nat} {σ τ : MS} (h : RUN σ 2) (hn : ∀ r, 0 ≤ r → r < σ.1 10 → PLN σ r) (ht : RUN τ 2) (g : Fr ss ks js σ τ) (hs : 10 ∉ ss) (hk : ∀ k ∈ [3, 4, 9], k ∉ ks) (s : STP σ 2 0 τ) : rk τ < rk σ := by
  have e9 : 9 ∉ ks := hk 9 (by decide)
  have e3 : 3 ∉ ks := hk 3 (by decide)
  have e10 := g.1 10 hs
  have g9 := g.2.1 9 e9
  obtain ⟨h1, h2, h3, h4⟩ := h
  obtain ⟨t1, t2, t3, t4⟩ := ht
  have p := h2 (9 * 2 + σ.2.1 73 2 - 1) (by omega) (by omega)
  have p2 : σ.2.1 79 (9 * 2 + σ.2.1 73 2 - 1) < σ.2.1 9 (6 + σ.2.1 78 (9 * 2 + σ.2.1 73 2 - 1)) := p.2.1.2
  have pp := hn _ p.1.1 p.1.2
  unfold rk
  rw [rks_fr g e9, rkp_fr g e9 e3]
  rcases s rfl with ⟨a1, a2, a3, a4, a5, a6⟩ | ⟨a1, a2, a3, a4⟩ | ⟨a1, a2, a3, a4, a5⟩
  · rw [a3, rks_ext (R := σ.2.1 78) (P := σ.2.1 79) _ (fun j x y => ⟨a4 j, a5 j (by omega)⟩), a4]
    have q := t2 (9 * 2 + σ.2.1 73 2 - 1) (by omega) (by omega)
    have q2 : τ.2.1 79 (9 * 2 + σ.2.1 73 2 - 1) < τ.2.1 9 (6 + τ.2.1 78 (9 * 2 + σ.2.1 73 2 - 1)) := q.2.1.2
    rw [g9, a4] at q2
    show _ + rkp σ (σ.2.1 78 (9 * 2 + σ.2.1 73 2 - 1)) (τ.2.1 79 (9 * 2 + σ.2.1 73 2 - 1)) < _ + rkp σ (σ.2.1 78 (9 * 2 + σ.2.1 73 2 - 1)) (σ.2.1 79 (9 * 2 + σ.2.1 73 2 - 1))
    have L := rkp_le (σ := σ) q2
    have q0 := q.2.1.1
    have p0 := p.2.1.1
    suffices rkp σ (σ.2.1 78 (9 * 2 + σ.2.1 73 2 - 1)) (τ.2.1 79 (9 * 2 + σ.2.1 73 2 - 1)) < rkp σ (σ.2.1 78 (9 * 2 + σ.2.1 73 2 - 1)) (σ.2.1 79 (9 * 2 + σ.2.1 73 2 - 1)) by omega
    generalize σ.2.1 78 (9 * 2 + σ.2.1 73 2 - 1) = r at *
    generalize τ.2.1 79 (9 * 2 + σ.2.1 73 2 - 1) = k at *
    generalize σ.2.1 79 (9 * 2 + σ.2.1 73 2 - 1) = i at *
    rcases a6 with e | ⟨b1, b2, b3⟩
    · have E : rkp σ r i = if kdm σ 2 r i = 13 ∧ kdm σ 2 r (i + 1) = 11 then 2 else 4 * (σ.2.1 9 (6 + r) - i) + 3 := by unfold rkp; exact if_neg (by omega)
      by_cases z : kdm σ 2 r i = 13 ∧ kdm σ 2 r (i + 1) = 11
      · rw [if_pos z] at E
        have : rkp σ r k = 1 := by rw [e]; unfold rkp; exact if_pos (Or.inl z.2)
        omega
      · rw [if_neg z] at E
        omega
    · have E : rkp σ r i = 4 * (σ.2.1 9 (6 + r) - i) + 3 := by unfold rkp; rw [if_neg (by omega), if_neg (by omega)]
      rcases pp.2 i k p0 p2 q0 q2 b1 b2 b3 with z | z
      · omega
      · have : rkp σ r k = 2 := by unfold rkp; rw [if_neg (by omega), if_pos ⟨b2, z⟩]
        omega
  · rw [a2, show σ.2.1 73 2 + 1 - 1 = σ.2.1 73 2 by omega, rks_ext (R := σ.2.1 78) (P := σ.2.1 79) _ (fun j x y => a3 j (by omega) (by omega)), rks_s h1.1, show (18 : Int) + (σ.2.1 73 2 + 1) - 1 = 9 * 2 + σ.2.1 73 2 by omega, a4, show (18 : Int) + (σ.2.1 73 2 - 1) = 9 * 2 + σ.2.1 73 2 - 1 by omega, show (18 : Int) + σ.2.1 73 2 - 1 = 9 * 2 + σ.2.1 73 2 - 1 by omega]
    have q := t2 (9 * 2 + σ.2.1 73 2) (by omega) (by omega)
    have pq := (hn _ q.1.1 (by rw [← e10]; exact q.1.2)).1
    have E : rkp σ (σ.2.1 78 (9 * 2 + σ.2.1 73 2 - 1)) (σ.2.1 79 (9 * 2 + σ.2.1 73 2 - 1)) = 4 * (σ.2.1 9 (6 + σ.2.1 78 (9 * 2 + σ.2.1 73 2 - 1)) - σ.2.1 79 (9 * 2 + σ.2.1 73 2 - 1)) + 3 := by unfold rkp; rw [if_neg (by omega), if_neg (by omega)]
    have E2 : rkp σ (τ.2.1 78 (9 * 2 + σ.2.1 73 2)) 0 ≤ 2 := by
      unfold rkp
      split
      · omega
      · split
        · omega
        · exfalso
          rw [show (0 : Int) + 1 = 1 from rfl] at *
          omega
    omega
  · have c := rkp_1 (σ := σ) p2
    have q := t2 (9 * 2 + σ.2.1 73 2 - 2) (by omega) (by omega)
    have q2 : τ.2.1 79 (9 * 2 + σ.2.1 73 2 - 2) < τ.2.1 9 (6 + τ.2.1 78 (9 * 2 + σ.2.1 73 2 - 2)) := q.2.1.2
    rw [g9, a3] at q2
    have L := rkp_le (σ := σ) q2
    rw [a1, rks_ext (R := σ.2.1 78) (P := σ.2.1 79) _ (fun j x y => ⟨a3 j, a4 j (by omega)⟩), rks_s (n := σ.2.1 73 2 - 1) (by omega), a3, show (18 : Int) + (σ.2.1 73 2 - 1) - 1 = 9 * 2 + σ.2.1 73 2 - 2 by omega, show (18 : Int) + (σ.2.1 73 2 - 1 - 1) = 9 * 2 + σ.2.1 73 2 - 2 by omega]
    show _ + rkp σ (σ.2.1 78 (9 * 2 + σ.2.1 73 2 - 2)) (τ.2.1 79 (9 * 2 + σ.2.1 73 2 - 2)) < _ + rkp σ (σ.2.1 78 (9 * 2 + σ.2.1 73 2 - 1)) (σ.2.1 79 (9 * 2 + σ.2.1 73 2 - 1))
    omega
theorem PLN.fr {ss ks js : List Nat} {σ τ : MS} {r : Int} (h : PLN σ r) (g : Fr ss ks js σ τ) (hk : ∀ k ∈ [3, 4, 9], k ∉ ks) : PLN τ r := by
  unfold PLN kdm dsm
  rw [g.q hk (k := 3) (by decide), g.q hk (k := 4) (by decide), g.q hk (k := 9) (by decide)]
  exact h
theorem RUN.new {σ : MS} {m x : Int} (hx : 0 ≤ x ∧ x < σ.1 10) (b : BKG σ m x) (e73 : σ.2.1 73 m = 1) (e : σ.2.1 78 (9 * m) = x ∧ σ.2.1 79 (9 * m) = 0 ∧ σ.2.1 80 (9 * m) = 0) : RUN σ m := by
  refine ⟨by omega, fun c a d => ?_, fun c a d => by omega, ?_⟩
  · have : c = 9 * m := by omega
    rw [this, e.1, e.2.1, e.2.2]
    exact PLC.start b hx
  · rw [dpt_dsum, e73]
    show dsum σ m (σ.2.1 78) (σ.2.1 80) 1 ≤ 9
    unfold dsum dsum
    rw [show (9 * m + ((0 : Nat) : Int)) = 9 * m by omega, e.1, e.2.2, dp_0 b]
    omega
def PLA (σ : MS) : Prop := BKA σ 2 ∧ ∀ r, 0 ≤ r → r < σ.1 10 → PLN σ r
theorem PLA.fr {ss ks js : List Nat} {σ τ : MS} (h : PLA σ) (g : Fr ss ks js σ τ) (hs : 10 ∉ ss) (hk : ∀ k ∈ [3, 4, 5, 6, 7, 8, 9, 11, 14, 16, 18], k ∉ ks) : PLA τ := ⟨h.1.fr g hs hk, fun r a b => (h.2 r a (by rw [← g.1 10 hs]; exact b)).fr g (fun k q => hk k (by revert k q; decide))⟩
theorem XM.rfl {m : Int} {σ : MS} : XM m σ σ := ⟨fun _ _ => ⟨_root_.rfl, _root_.rfl⟩, fun _ _ => ⟨_root_.rfl, _root_.rfl, _root_.rfl⟩⟩
theorem XM.trans {m : Int} {σ τ υ : MS} (h : XM m σ τ) (g : XM m τ υ) : XM m σ υ := ⟨fun j hj => ⟨(g.1 j hj).1.trans (h.1 j hj).1, (g.1 j hj).2.trans (h.1 j hj).2⟩, fun c hc => ⟨(g.2 c hc).1.trans (h.2 c hc).1, (g.2 c hc).2.1.trans (h.2 c hc).2.1, (g.2 c hc).2.2.trans (h.2 c hc).2.2⟩⟩
theorem XM.of {ss ks js : List Nat} {m : Int} {σ τ : MS} (g : Fr ss ks js σ τ) (hk : ∀ k ∈ [73, 76, 78, 79, 80], k ∉ ks) : XM m σ τ := ⟨fun j _ => by rw [g.q hk (k := 73) (by decide), g.q hk (k := 76) (by decide)]; exact ⟨_root_.rfl, _root_.rfl⟩, fun c _ => by rw [g.q hk (k := 78) (by decide), g.q hk (k := 79) (by decide), g.q hk (k := 80) (by decide)]; exact ⟨_root_.rfl, _root_.rfl, _root_.rfl⟩⟩
theorem RUN.fr {ss ks js : List Nat} {σ τ : MS} {m : Int} (h : RUN σ m) (g : Fr ss ks js σ τ) (hs : 10 ∉ ss) (hk : ∀ k ∈ [3, 4, 5, 9, 14, 16, 73, 76, 78, 79, 80], k ∉ ks) : RUN τ m := h.oth (m := m + 1) (by omega) (XM.of g (fun k q => hk k (by revert k q; decide))) g hs (fun k q => hk k (by revert k q; decide))
theorem ml12_569 : Cond.methodLink RX12 569 yX12_step ∈ pWW := pw10 (List.mem_of_getElem? (i := 17) rfl) rfl
theorem dX12_go_64 : decode cX12_go 64 = .ok (.iload 5, 2) := by decide +kernel
theorem dX12_go_66 : decode cX12_go 66 = .ok (.iload_n 2, 1) := by decide +kernel
theorem dX12_go_67 : decode cX12_go 67 = .ok (.if_icmp .ge 108, 3) := by decide +kernel
theorem dX12_go_70 : decode cX12_go 70 = .ok (.aload_n 0, 1) := by decide +kernel
theorem dX12_go_71 : decode cX12_go 71 = .ok (.iconst 0, 1) := by decide +kernel
theorem dX12_go_72 : decode cX12_go 72 = .ok (.invokevirtual 569, 3) := by decide +kernel
theorem dX12_go_75 : decode cX12_go 75 = .ok (.istore 6, 2) := by decide +kernel
theorem dX12_go_77 : decode cX12_go 77 = .ok (.iload 6, 2) := by decide +kernel
theorem dX12_go_79 : decode cX12_go 79 = .ok (.iconst 3, 1) := by decide +kernel
theorem dX12_go_80 : decode cX12_go 80 = .ok (.if_icmp .ne 10, 3) := by decide +kernel
theorem dX12_go_90 : decode cX12_go 90 = .ok (.aload_n 0, 1) := by decide +kernel
theorem dX12_go_91 : decode cX12_go 91 = .ok (.dup, 1) := by decide +kernel
theorem dX12_go_92 : decode cX12_go 92 = .ok (.getfield 566, 3) := by decide +kernel
theorem dX12_go_95 : decode cX12_go 95 = .ok (.iconst 1, 1) := by decide +kernel
theorem dX12_go_96 : decode cX12_go 96 = .ok (.iadd, 1) := by decide +kernel
theorem dX12_go_97 : decode cX12_go 97 = .ok (.putfield 566, 3) := by decide +kernel
theorem dX12_go_100 : decode cX12_go 100 = .ok (.iload 6, 2) := by decide +kernel
theorem dX12_go_102 : decode cX12_go 102 = .ok (.iconst 2, 1) := by decide +kernel
theorem dX12_go_103 : decode cX12_go 103 = .ok (.if_icmp .ne 10, 3) := by decide +kernel
theorem dX12_go_113 : decode cX12_go 113 = .ok (.aload_n 0, 1) := by decide +kernel
theorem dX12_go_114 : decode cX12_go 114 = .ok (.iconst 0, 1) := by decide +kernel
theorem dX12_go_115 : decode cX12_go 115 = .ok (.invokevirtual 554, 3) := by decide +kernel
theorem dX12_go_118 : decode cX12_go 118 = .ok (.istore 7, 2) := by decide +kernel
theorem dX12_go_120 : decode cX12_go 120 = .ok (.iload 4, 2) := by decide +kernel
theorem dX12_go_122 : decode cX12_go 122 = .ok (.iload 7, 2) := by decide +kernel
theorem dX12_go_124 : decode cX12_go 124 = .ok (.iload_n 3, 1) := by decide +kernel
theorem dX12_go_125 : decode cX12_go 125 = .ok (.if_icmp .ge 7, 3) := by decide +kernel
theorem dX12_go_132 : decode cX12_go 132 = .ok (.iconst 0, 1) := by decide +kernel
theorem dX12_go_133 : decode cX12_go 133 = .ok (.ior, 1) := by decide +kernel
theorem dX12_go_134 : decode cX12_go 134 = .ok (.istore 4, 2) := by decide +kernel
theorem dX12_go_136 : decode cX12_go 136 = .ok (.iload 6, 2) := by decide +kernel
theorem dX12_go_138 : decode cX12_go 138 = .ok (.iconst 1, 1) := by decide +kernel
theorem dX12_go_139 : decode cX12_go 139 = .ok (.if_icmp .ne 30, 3) := by decide +kernel
theorem dX12_go_169 : decode cX12_go 169 = .ok (.iinc 5 1, 3) := by decide +kernel
theorem dX12_go_172 : decode cX12_go 172 = .ok (.goto (-108), 3) := by decide +kernel
theorem dX12_go_142 : decode cX12_go 142 = .ok (.iload_n 1, 1) := by decide +kernel
theorem dX12_go_143 : decode cX12_go 143 = .ok (.ifCond .eq 24, 3) := by decide +kernel
theorem dX12_go_167 : decode cX12_go 167 = .ok (.iconst 1, 1) := by decide +kernel
theorem dX12_go_168 : decode cX12_go 168 = .ok (.ireturn, 1) := by decide +kernel
theorem dX12_go_146 : decode cX12_go 146 = .ok (.iload_n 1, 1) := by decide +kernel
theorem dX12_go_147 : decode cX12_go 147 = .ok (.iconst 1, 1) := by decide +kernel
theorem dX12_go_148 : decode cX12_go 148 = .ok (.if_icmp .ne 9, 3) := by decide +kernel
theorem dX12_go_157 : decode cX12_go 157 = .ok (.iload_n 1, 1) := by decide +kernel
theorem dX12_go_158 : decode cX12_go 158 = .ok (.iconst 2, 1) := by decide +kernel
theorem dX12_go_159 : decode cX12_go 159 = .ok (.if_icmp .ne 10, 3) := by decide +kernel
theorem dX12_go_162 : decode cX12_go 162 = .ok (.iload 4, 2) := by decide +kernel
theorem dX12_go_164 : decode cX12_go 164 = .ok (.ifCond .eq 5, 3) := by decide +kernel
theorem dX12_go_151 : decode cX12_go 151 = .ok (.iload 7, 2) := by decide +kernel
theorem dX12_go_153 : decode cX12_go 153 = .ok (.iload_n 3, 1) := by decide +kernel
theorem dX12_go_154 : decode cX12_go 154 = .ok (.if_icmp .le 13, 3) := by decide +kernel
theorem dX12_go_128 : decode cX12_go 128 = .ok (.iconst 1, 1) := by decide +kernel
theorem dX12_go_129 : decode cX12_go 129 = .ok (.goto 4, 3) := by decide +kernel
theorem dX12_go_106 : decode cX12_go 106 = .ok (.aload_n 0, 1) := by decide +kernel
theorem dX12_go_107 : decode cX12_go 107 = .ok (.iconst 1, 1) := by decide +kernel
theorem dX12_go_108 : decode cX12_go 108 = .ok (.putfield 560, 3) := by decide +kernel
theorem dX12_go_111 : decode cX12_go 111 = .ok (.iconst 0, 1) := by decide +kernel
theorem dX12_go_112 : decode cX12_go 112 = .ok (.ireturn, 1) := by decide +kernel
theorem dX12_go_83 : decode cX12_go 83 = .ok (.aload_n 0, 1) := by decide +kernel
theorem dX12_go_84 : decode cX12_go 84 = .ok (.iconst 1, 1) := by decide +kernel
theorem dX12_go_85 : decode cX12_go 85 = .ok (.putfield 563, 3) := by decide +kernel
theorem dX12_go_88 : decode cX12_go 88 = .ok (.iconst 3, 1) := by decide +kernel
theorem dX12_go_89 : decode cX12_go 89 = .ok (.ireturn, 1) := by decide +kernel
set_option maxHeartbeats 4000000 in
set_option maxRecDepth 20000 in
theorem l_go (d : Nat) {b : Nat} {σ0 : MS} {w : Int} {nn : Int} {q : Int} {post : Option Value → MS → Prop} (hR0 : RG σ0) (hbka : BKA σ0 0) (hit : ITM σ0) (hpar : PAR σ0) (hn : 1 ≤ nn ∧ nn ≤ 20000) (hG : 0 ≤ σ0.1 70 ∧ σ0.1 70 ≤ 1000000000) (hP : 0 ≤ σ0.2.1 76 0 ∧ σ0.2.1 76 0 ≤ 900000000) (hq : 0 ≤ q ∧ q ≤ 117) (h_w : -2147483648 ≤ w ∧ w ≤ 2147483647) (hx_175 : ∀ (i : Int) (e : Int) (σ : MS) , (Fr [68, 69, 70] [73, 75, 76, 77, 78, 79, 80, 81, 82] [] σ0 σ) → (RG σ) → (RUN σ 0) → (XM 0 σ0 σ) → (σ0.1 70 ≤ σ.1 70 ∧ σ.1 70 ≤ σ0.1 70 + 20000) → (σ0.2.1 76 0 ≤ σ.2.1 76 0 ∧ σ.2.1 76 0 ≤ σ0.2.1 76 0 + 20000) → Tm (d + 4) m_X12_go 175 b σ [(0, .ref b)] [] post) (hret : ∀ (v : Int) (τ : MS), Fr [68, 69, 70] [73, 75, 76, 77, 78, 79, 80, 81, 82] [] σ0 τ → RG τ → (τ.1 68 = 0 → RUN τ 0) → XM 0 σ0 τ → (σ0.1 70 ≤ τ.1 70 ∧ τ.1 70 ≤ σ0.1 70 + 20000) → (σ0.2.1 76 0 ≤ τ.2.1 76 0 ∧ τ.2.1 76 0 ≤ σ0.2.1 76 0 + 20000) → post (some (.int (iI v))) τ) : ∀ (n : Nat) (i : Int) (e : Int) (σ : MS) , (Fr [68, 69, 70] [73, 75, 76, 77, 78, 79, 80, 81, 82] [] σ0 σ) → (RG σ) → (0 ≤ i ∧ i ≤ nn ∧ (e = 0 ∨ e = 1)) → (RUN σ 0) → (XM 0 σ0 σ) → (σ0.1 70 ≤ σ.1 70 ∧ σ.1 70 ≤ σ0.1 70 + i) → (σ0.2.1 76 0 ≤ σ.2.1 76 0 ∧ σ.2.1 76 0 ≤ σ0.2.1 76 0 + i) → (nn - i).toNat = n → Tm (d + 4) m_X12_go 64 b σ [(5, .int (iI i)), (4, .int (iI e)), (3, .int (iI q)), (0, .ref b), (1, .int (iI w)), (2, .int (iI nn))] [] post := by
  intro n
  induction n using Nat.strongRecOn with
  | _ n ih =>
    intro i e σ hF hR h0 hrun hx0 hg hp hm
    refine tm_iload dX12_go_64 0 rfl ?_
    refine tm_iload_n dX12_go_66 rfl 5 rfl ?_
    refine tm_icmp_ge (tgt := 175) dX12_go_67 (by decide) ⟨by omega, by omega⟩ ⟨by omega, by omega⟩ (fun h1 => ?_) (fun h1 => ?_)
    · exact tm_sub [3] rfl (hx_175 (0) (0) σ (Fr.rfl.trans (Fr.sub hF (by decide) (by decide) (by decide))) hR hrun hx0 (by omega) (by omega))
    · refine tm_aload_n dX12_go_70 rfl 3 rfl ?_
      refine tm_iconst dX12_go_71 ?_
      refine tm_callV (M := m_X12_go) (pc := 72) (ix := 569) (M' := m_X12_step) (As := [.int (iI 0)]) (rest := []) dX12_go_72 ok_X12_step im_X12_step se_X12_step ml12_569 np_X12_step rfl rfl (Nat.le_of_ble_eq_true rfl) (Nat.le_of_ble_eq_true rfl) rfl (c_X12_step (d) (σ := σ) (m := 0) hR (by decide) hrun (hbka.fr hF (by decide) (by decide)) (hit.fr hF (by decide)) (hpar.fr hF (by decide)) (by omega)) (fun r2 σ3 hp => ?_)
      obtain ⟨v4, rfl, f5, f6, f7, f8, f9, f10⟩ := hp
      show Tm _ _ 75 b σ3 [(5, .int (iI i)), (4, .int (iI e)), (3, .int (iI q)), (0, .ref b), (1, .int (iI w)), (2, .int (iI nn))] [.int (iI v4)] _
      have hrs : v4 ≠ 2 → RUN σ3 0 := fun q => by rcases f7 with ⟨a, e1⟩ | ⟨a, _⟩ | ⟨_, h⟩; rw [e1]; exact hrun; exact absurd a q; exact h
      have hxs := f8
      have hps := f9
      have h70 : σ3.1 70 = σ.1 70 := f5.1 70 (by decide)
      refine tm_istore (L' := [(6, .int (iI v4)), (5, .int (iI i)), (4, .int (iI e)), (3, .int (iI q)), (0, .ref b), (1, .int (iI w)), (2, .int (iI nn))]) dX12_go_75 (by decide) rfl ?_
      refine tm_iload dX12_go_77 0 rfl ?_
      refine tm_iconst dX12_go_79 ?_
      refine tm_icmp_ne (tgt := 90) dX12_go_80 (by decide) ⟨by omega, by omega⟩ ⟨by decide, by decide⟩ (fun h11 => ?_) (fun h11 => ?_)
      · refine tm_aload_n dX12_go_90 rfl 4 rfl ?_
        refine tm_dup dX12_go_91 rfl ?_
        refine tm_getS (k := 70) (t := σ.1 70) dX12_go_92 (by decide) fl12_566 rfl (rs_F f5 (by decide) (rfl)) ?_
        have g12 := RG.s hR 70
        refine tm_iconst dX12_go_95 ?_
        refine tm_iadd dX12_go_96 ?_
        refine tm_putS (k := 70) (v := (σ.1 70) + 1) lay_12 dX12_go_97 (by decide) fl12_566 rfl (tyX12_ok 70 (by decide)) rfl rfl rfl ?_
        refine tm_iload dX12_go_100 0 rfl ?_
        refine tm_iconst dX12_go_102 ?_
        refine tm_icmp_ne (tgt := 113) dX12_go_103 (by decide) ⟨by omega, by omega⟩ ⟨by decide, by decide⟩ (fun h13 => ?_) (fun h13 => ?_)
        · refine tm_aload_n dX12_go_113 rfl 4 rfl ?_
          have hrn := (hrs (by omega)).fr (show Fr [68, 69, 70] [] [] σ3 (sS 70 ((σ.1 70) + 1) σ3) from (Fr.rfl.S (by decide))) (by decide) (by decide)
          have hbk2 := hbka.fr (show Fr [68, 69, 70] [73, 75, 76, 77, 78, 79, 80, 81, 82] [] σ0 (sS 70 ((σ.1 70) + 1) σ3) from (((Fr.rfl.trans (Fr.sub hF (by decide) (by decide) (by decide))).trans (Fr.sub f5 (by decide) (by decide) (by decide))).S (by decide))) (by decide) (by decide)
          have hrr : (0 ≤ (sS 70 ((σ.1 70) + 1) σ3).2.1 73 0 ∧ (sS 70 ((σ.1 70) + 1) σ3).2.1 73 0 ≤ 9) ∧ ∀ c, 9 * 0 ≤ c → c < 9 * 0 + (sS 70 ((σ.1 70) + 1) σ3).2.1 73 0 → DEC (sS 70 ((σ.1 70) + 1) σ3) 0 c (fn (sS 70 ((σ.1 70) + 1) σ3) 0 c) := ⟨⟨by have := hrn.1; omega, hrn.1.2⟩, hrn.dec hbk2.2 hbk2.1.2⟩
          refine tm_iconst dX12_go_114 ?_
          refine tm_callV (M := m_X12_go) (pc := 115) (ix := 554) (M' := m_X12_depth) (As := [.int (iI 0)]) (rest := []) dX12_go_115 ok_X12_depth im_X12_depth se_X12_depth ml12_554 np_X12_depth rfl rfl (Nat.le_of_ble_eq_true rfl) (Nat.le_of_ble_eq_true rfl) rfl (c_X12_depth (d + 2) (σ := (sS 70 ((σ.1 70) + 1) σ3)) (m := 0) (f6.S (by omega)) (by decide) hrr.1 (fun c a e => ⟨_, hrr.2 c a e⟩)) (fun r14 σ15 hp => ?_)
          obtain ⟨v16, rfl, rfl, f17, f18⟩ := hp
          show Tm _ _ 118 b (sS 70 ((σ.1 70) + 1) σ3) [(6, .int (iI v4)), (5, .int (iI i)), (4, .int (iI e)), (3, .int (iI q)), (0, .ref b), (1, .int (iI w)), (2, .int (iI nn))] [.int (iI v16)] _
          refine tm_istore (L' := [(7, .int (iI v16)), (6, .int (iI v4)), (5, .int (iI i)), (4, .int (iI e)), (3, .int (iI q)), (0, .ref b), (1, .int (iI w)), (2, .int (iI nn))]) dX12_go_118 (by decide) rfl ?_
          refine tm_iload dX12_go_120 3 rfl ?_
          refine tm_iload dX12_go_122 0 rfl ?_
          refine tm_iload_n dX12_go_124 rfl 4 rfl ?_
          refine tm_icmp_ge (tgt := 132) dX12_go_125 (by decide) ⟨by omega, by omega⟩ ⟨by omega, by omega⟩ (fun h19 => ?_) (fun h19 => ?_)
          · refine tm_iconst dX12_go_132 ?_
            refine tm_iorZ (x := e) (y := 0) dX12_go_133 (by omega) (by omega) (fun c20 g21 => ?_)
            refine tm_istore (L' := [(4, .int (iI c20)), (7, .int (iI v16)), (6, .int (iI v4)), (5, .int (iI i)), (3, .int (iI q)), (0, .ref b), (1, .int (iI w)), (2, .int (iI nn))]) dX12_go_134 (by decide) rfl ?_
            refine tm_iload dX12_go_136 2 rfl ?_
            refine tm_iconst dX12_go_138 ?_
            refine tm_icmp_ne (tgt := 169) dX12_go_139 (by decide) ⟨by omega, by omega⟩ ⟨by decide, by decide⟩ (fun h22 => ?_) (fun h22 => ?_)
            · refine tm_iinc (q0 := 3) (L' := [(5, .int (iI (i + 1))), (4, .int (iI c20)), (7, .int (iI v16)), (6, .int (iI v4)), (3, .int (iI q)), (0, .ref b), (1, .int (iI w)), (2, .int (iI nn))]) dX12_go_169 rfl (by decide) rfl ?_
              refine tm_goto (tgt := 64) dX12_go_172 (by decide) ?_
              exact tm_sub [0, 1, 4, 5, 6, 7] rfl (ih _ (by omega) (i + 1) (c20) (sS 70 ((σ.1 70) + 1) σ3) (((Fr.rfl.trans (Fr.sub hF (by decide) (by decide) (by decide))).trans (Fr.sub f5 (by decide) (by decide) (by decide))).S (by decide)) (f6.S (by omega)) (by omega) (hrs (by omega) |>.fr (show Fr [68, 69, 70] [] [] σ3 (sS 70 ((σ.1 70) + 1) σ3) from (Fr.rfl.S (by decide))) (by decide) (by decide)) (hx0.trans (hxs.trans (XM.of (show Fr [68, 69, 70] [] [] σ3 (sS 70 ((σ.1 70) + 1) σ3) from (Fr.rfl.S (by decide))) (by decide)))) (by rw [show (sS 70 ((σ.1 70) + 1) σ3).1 70 = (σ.1 70) + 1 from rs_eq]; omega) (by rw [show (sS 70 ((σ.1 70) + 1) σ3).2.1 76 0 = σ3.2.1 76 0 from ra_S (rfl)]; omega) rfl)
            · refine tm_iload_n dX12_go_142 rfl 6 rfl ?_
              refine tm_if_eq (tgt := 167) dX12_go_143 (by decide) ⟨by omega, by omega⟩ (fun h23 => ?_) (fun h23 => ?_)
              · refine tm_iconst dX12_go_167 ?_
                exact tm_iret rfl dX12_go_168 (hret _ _ (((Fr.rfl.trans (Fr.sub hF (by decide) (by decide) (by decide))).trans (Fr.sub f5 (by decide) (by decide) (by decide))).S (by decide)) (f6.S (by omega)) (fun _ => (hrs (by omega)).fr (show Fr [68, 69, 70] [] [] σ3 (sS 70 ((σ.1 70) + 1) σ3) from (Fr.rfl.S (by decide))) (by decide) (by decide)) (hx0.trans (hxs.trans (XM.of (show Fr [68, 69, 70] [] [] σ3 (sS 70 ((σ.1 70) + 1) σ3) from (Fr.rfl.S (by decide))) (by decide)))) (by rw [show (sS 70 ((σ.1 70) + 1) σ3).1 70 = (σ.1 70) + 1 from rs_eq]; omega) (by rw [show (sS 70 ((σ.1 70) + 1) σ3).2.1 76 0 = σ3.2.1 76 0 from ra_S (rfl)]; omega))
              · refine tm_iload_n dX12_go_146 rfl 6 rfl ?_
                refine tm_iconst dX12_go_147 ?_
                refine tm_icmp_ne (tgt := 157) dX12_go_148 (by decide) ⟨by omega, by omega⟩ ⟨by decide, by decide⟩ (fun h24 => ?_) (fun h24 => ?_)
                · refine tm_iload_n dX12_go_157 rfl 6 rfl ?_
                  refine tm_iconst dX12_go_158 ?_
                  refine tm_icmp_ne (tgt := 169) dX12_go_159 (by decide) ⟨by omega, by omega⟩ ⟨by decide, by decide⟩ (fun h25 => ?_) (fun h25 => ?_)
                  · refine tm_iinc (q0 := 3) (L' := [(5, .int (iI (i + 1))), (4, .int (iI c20)), (7, .int (iI v16)), (6, .int (iI v4)), (3, .int (iI q)), (0, .ref b), (1, .int (iI w)), (2, .int (iI nn))]) dX12_go_169 rfl (by decide) rfl ?_
                    refine tm_goto (tgt := 64) dX12_go_172 (by decide) ?_
                    exact tm_sub [0, 1, 4, 5, 6, 7] rfl (ih _ (by omega) (i + 1) (c20) (sS 70 ((σ.1 70) + 1) σ3) (((Fr.rfl.trans (Fr.sub hF (by decide) (by decide) (by decide))).trans (Fr.sub f5 (by decide) (by decide) (by decide))).S (by decide)) (f6.S (by omega)) (by omega) (hrs (by omega) |>.fr (show Fr [68, 69, 70] [] [] σ3 (sS 70 ((σ.1 70) + 1) σ3) from (Fr.rfl.S (by decide))) (by decide) (by decide)) (hx0.trans (hxs.trans (XM.of (show Fr [68, 69, 70] [] [] σ3 (sS 70 ((σ.1 70) + 1) σ3) from (Fr.rfl.S (by decide))) (by decide)))) (by rw [show (sS 70 ((σ.1 70) + 1) σ3).1 70 = (σ.1 70) + 1 from rs_eq]; omega) (by rw [show (sS 70 ((σ.1 70) + 1) σ3).2.1 76 0 = σ3.2.1 76 0 from ra_S (rfl)]; omega) rfl)
                  · refine tm_iload dX12_go_162 0 rfl ?_
                    refine tm_if_eq (tgt := 169) dX12_go_164 (by decide) ⟨by omega, by omega⟩ (fun h26 => ?_) (fun h26 => ?_)
                    · refine tm_iinc (q0 := 3) (L' := [(5, .int (iI (i + 1))), (4, .int (iI c20)), (7, .int (iI v16)), (6, .int (iI v4)), (3, .int (iI q)), (0, .ref b), (1, .int (iI w)), (2, .int (iI nn))]) dX12_go_169 rfl (by decide) rfl ?_
                      refine tm_goto (tgt := 64) dX12_go_172 (by decide) ?_
                      exact tm_sub [0, 1, 4, 5, 6, 7] rfl (ih _ (by omega) (i + 1) (c20) (sS 70 ((σ.1 70) + 1) σ3) (((Fr.rfl.trans (Fr.sub hF (by decide) (by decide) (by decide))).trans (Fr.sub f5 (by decide) (by decide) (by decide))).S (by decide)) (f6.S (by omega)) (by omega) (hrs (by omega) |>.fr (show Fr [68, 69, 70] [] [] σ3 (sS 70 ((σ.1 70) + 1) σ3) from (Fr.rfl.S (by decide))) (by decide) (by decide)) (hx0.trans (hxs.trans (XM.of (show Fr [68, 69, 70] [] [] σ3 (sS 70 ((σ.1 70) + 1) σ3) from (Fr.rfl.S (by decide))) (by decide)))) (by rw [show (sS 70 ((σ.1 70) + 1) σ3).1 70 = (σ.1 70) + 1 from rs_eq]; omega) (by rw [show (sS 70 ((σ.1 70) + 1) σ3).2.1 76 0 = σ3.2.1 76 0 from ra_S (rfl)]; omega) rfl)
                    · refine tm_iconst dX12_go_167 ?_
                      exact tm_iret rfl dX12_go_168 (hret _ _ (((Fr.rfl.trans (Fr.sub hF (by decide) (by decide) (by decide))).trans (Fr.sub f5 (by decide) (by decide) (by decide))).S (by decide)) (f6.S (by omega)) (fun _ => (hrs (by omega)).fr (show Fr [68, 69, 70] [] [] σ3 (sS 70 ((σ.1 70) + 1) σ3) from (Fr.rfl.S (by decide))) (by decide) (by decide)) (hx0.trans (hxs.trans (XM.of (show Fr [68, 69, 70] [] [] σ3 (sS 70 ((σ.1 70) + 1) σ3) from (Fr.rfl.S (by decide))) (by decide)))) (by rw [show (sS 70 ((σ.1 70) + 1) σ3).1 70 = (σ.1 70) + 1 from rs_eq]; omega) (by rw [show (sS 70 ((σ.1 70) + 1) σ3).2.1 76 0 = σ3.2.1 76 0 from ra_S (rfl)]; omega))
                · refine tm_iload dX12_go_151 1 rfl ?_
                  refine tm_iload_n dX12_go_153 rfl 4 rfl ?_
                  refine tm_icmp_le (tgt := 167) dX12_go_154 (by decide) ⟨by omega, by omega⟩ ⟨by omega, by omega⟩ (fun h27 => ?_) (fun h27 => ?_)
                  · refine tm_iconst dX12_go_167 ?_
                    exact tm_iret rfl dX12_go_168 (hret _ _ (((Fr.rfl.trans (Fr.sub hF (by decide) (by decide) (by decide))).trans (Fr.sub f5 (by decide) (by decide) (by decide))).S (by decide)) (f6.S (by omega)) (fun _ => (hrs (by omega)).fr (show Fr [68, 69, 70] [] [] σ3 (sS 70 ((σ.1 70) + 1) σ3) from (Fr.rfl.S (by decide))) (by decide) (by decide)) (hx0.trans (hxs.trans (XM.of (show Fr [68, 69, 70] [] [] σ3 (sS 70 ((σ.1 70) + 1) σ3) from (Fr.rfl.S (by decide))) (by decide)))) (by rw [show (sS 70 ((σ.1 70) + 1) σ3).1 70 = (σ.1 70) + 1 from rs_eq]; omega) (by rw [show (sS 70 ((σ.1 70) + 1) σ3).2.1 76 0 = σ3.2.1 76 0 from ra_S (rfl)]; omega))
                  · refine tm_iload_n dX12_go_157 rfl 6 rfl ?_
                    refine tm_iconst dX12_go_158 ?_
                    refine tm_icmp_ne (tgt := 169) dX12_go_159 (by decide) ⟨by omega, by omega⟩ ⟨by decide, by decide⟩ (fun h28 => ?_) (fun h28 => ?_)
                    · refine tm_iinc (q0 := 3) (L' := [(5, .int (iI (i + 1))), (4, .int (iI c20)), (7, .int (iI v16)), (6, .int (iI v4)), (3, .int (iI q)), (0, .ref b), (1, .int (iI w)), (2, .int (iI nn))]) dX12_go_169 rfl (by decide) rfl ?_
                      refine tm_goto (tgt := 64) dX12_go_172 (by decide) ?_
                      exact tm_sub [0, 1, 4, 5, 6, 7] rfl (ih _ (by omega) (i + 1) (c20) (sS 70 ((σ.1 70) + 1) σ3) (((Fr.rfl.trans (Fr.sub hF (by decide) (by decide) (by decide))).trans (Fr.sub f5 (by decide) (by decide) (by decide))).S (by decide)) (f6.S (by omega)) (by omega) (hrs (by omega) |>.fr (show Fr [68, 69, 70] [] [] σ3 (sS 70 ((σ.1 70) + 1) σ3) from (Fr.rfl.S (by decide))) (by decide) (by decide)) (hx0.trans (hxs.trans (XM.of (show Fr [68, 69, 70] [] [] σ3 (sS 70 ((σ.1 70) + 1) σ3) from (Fr.rfl.S (by decide))) (by decide)))) (by rw [show (sS 70 ((σ.1 70) + 1) σ3).1 70 = (σ.1 70) + 1 from rs_eq]; omega) (by rw [show (sS 70 ((σ.1 70) + 1) σ3).2.1 76 0 = σ3.2.1 76 0 from ra_S (rfl)]; omega) rfl)
                    · refine tm_iload dX12_go_162 0 rfl ?_
                      refine tm_if_eq (tgt := 169) dX12_go_164 (by decide) ⟨by omega, by omega⟩ (fun h29 => ?_) (fun h29 => ?_)
                      · refine tm_iinc (q0 := 3) (L' := [(5, .int (iI (i + 1))), (4, .int (iI c20)), (7, .int (iI v16)), (6, .int (iI v4)), (3, .int (iI q)), (0, .ref b), (1, .int (iI w)), (2, .int (iI nn))]) dX12_go_169 rfl (by decide) rfl ?_
                        refine tm_goto (tgt := 64) dX12_go_172 (by decide) ?_
                        exact tm_sub [0, 1, 4, 5, 6, 7] rfl (ih _ (by omega) (i + 1) (c20) (sS 70 ((σ.1 70) + 1) σ3) (((Fr.rfl.trans (Fr.sub hF (by decide) (by decide) (by decide))).trans (Fr.sub f5 (by decide) (by decide) (by decide))).S (by decide)) (f6.S (by omega)) (by omega) (hrs (by omega) |>.fr (show Fr [68, 69, 70] [] [] σ3 (sS 70 ((σ.1 70) + 1) σ3) from (Fr.rfl.S (by decide))) (by decide) (by decide)) (hx0.trans (hxs.trans (XM.of (show Fr [68, 69, 70] [] [] σ3 (sS 70 ((σ.1 70) + 1) σ3) from (Fr.rfl.S (by decide))) (by decide)))) (by rw [show (sS 70 ((σ.1 70) + 1) σ3).1 70 = (σ.1 70) + 1 from rs_eq]; omega) (by rw [show (sS 70 ((σ.1 70) + 1) σ3).2.1 76 0 = σ3.2.1 76 0 from ra_S (rfl)]; omega) rfl)
                      · refine tm_iconst dX12_go_167 ?_
                        exact tm_iret rfl dX12_go_168 (hret _ _ (((Fr.rfl.trans (Fr.sub hF (by decide) (by decide) (by decide))).trans (Fr.sub f5 (by decide) (by decide) (by decide))).S (by decide)) (f6.S (by omega)) (fun _ => (hrs (by omega)).fr (show Fr [68, 69, 70] [] [] σ3 (sS 70 ((σ.1 70) + 1) σ3) from (Fr.rfl.S (by decide))) (by decide) (by decide)) (hx0.trans (hxs.trans (XM.of (show Fr [68, 69, 70] [] [] σ3 (sS 70 ((σ.1 70) + 1) σ3) from (Fr.rfl.S (by decide))) (by decide)))) (by rw [show (sS 70 ((σ.1 70) + 1) σ3).1 70 = (σ.1 70) + 1 from rs_eq]; omega) (by rw [show (sS 70 ((σ.1 70) + 1) σ3).2.1 76 0 = σ3.2.1 76 0 from ra_S (rfl)]; omega))
          · refine tm_iconst dX12_go_128 ?_
            refine tm_goto (tgt := 133) dX12_go_129 (by decide) ?_
            refine tm_iorZ (x := e) (y := 1) dX12_go_133 (by omega) (by omega) (fun c30 g31 => ?_)
            refine tm_istore (L' := [(4, .int (iI c30)), (7, .int (iI v16)), (6, .int (iI v4)), (5, .int (iI i)), (3, .int (iI q)), (0, .ref b), (1, .int (iI w)), (2, .int (iI nn))]) dX12_go_134 (by decide) rfl ?_
            refine tm_iload dX12_go_136 2 rfl ?_
            refine tm_iconst dX12_go_138 ?_
            refine tm_icmp_ne (tgt := 169) dX12_go_139 (by decide) ⟨by omega, by omega⟩ ⟨by decide, by decide⟩ (fun h32 => ?_) (fun h32 => ?_)
            · refine tm_iinc (q0 := 3) (L' := [(5, .int (iI (i + 1))), (4, .int (iI c30)), (7, .int (iI v16)), (6, .int (iI v4)), (3, .int (iI q)), (0, .ref b), (1, .int (iI w)), (2, .int (iI nn))]) dX12_go_169 rfl (by decide) rfl ?_
              refine tm_goto (tgt := 64) dX12_go_172 (by decide) ?_
              exact tm_sub [0, 1, 4, 5, 6, 7] rfl (ih _ (by omega) (i + 1) (c30) (sS 70 ((σ.1 70) + 1) σ3) (((Fr.rfl.trans (Fr.sub hF (by decide) (by decide) (by decide))).trans (Fr.sub f5 (by decide) (by decide) (by decide))).S (by decide)) (f6.S (by omega)) (by omega) (hrs (by omega) |>.fr (show Fr [68, 69, 70] [] [] σ3 (sS 70 ((σ.1 70) + 1) σ3) from (Fr.rfl.S (by decide))) (by decide) (by decide)) (hx0.trans (hxs.trans (XM.of (show Fr [68, 69, 70] [] [] σ3 (sS 70 ((σ.1 70) + 1) σ3) from (Fr.rfl.S (by decide))) (by decide)))) (by rw [show (sS 70 ((σ.1 70) + 1) σ3).1 70 = (σ.1 70) + 1 from rs_eq]; omega) (by rw [show (sS 70 ((σ.1 70) + 1) σ3).2.1 76 0 = σ3.2.1 76 0 from ra_S (rfl)]; omega) rfl)
            · refine tm_iload_n dX12_go_142 rfl 6 rfl ?_
              refine tm_if_eq (tgt := 167) dX12_go_143 (by decide) ⟨by omega, by omega⟩ (fun h33 => ?_) (fun h33 => ?_)
              · refine tm_iconst dX12_go_167 ?_
                exact tm_iret rfl dX12_go_168 (hret _ _ (((Fr.rfl.trans (Fr.sub hF (by decide) (by decide) (by decide))).trans (Fr.sub f5 (by decide) (by decide) (by decide))).S (by decide)) (f6.S (by omega)) (fun _ => (hrs (by omega)).fr (show Fr [68, 69, 70] [] [] σ3 (sS 70 ((σ.1 70) + 1) σ3) from (Fr.rfl.S (by decide))) (by decide) (by decide)) (hx0.trans (hxs.trans (XM.of (show Fr [68, 69, 70] [] [] σ3 (sS 70 ((σ.1 70) + 1) σ3) from (Fr.rfl.S (by decide))) (by decide)))) (by rw [show (sS 70 ((σ.1 70) + 1) σ3).1 70 = (σ.1 70) + 1 from rs_eq]; omega) (by rw [show (sS 70 ((σ.1 70) + 1) σ3).2.1 76 0 = σ3.2.1 76 0 from ra_S (rfl)]; omega))
              · refine tm_iload_n dX12_go_146 rfl 6 rfl ?_
                refine tm_iconst dX12_go_147 ?_
                refine tm_icmp_ne (tgt := 157) dX12_go_148 (by decide) ⟨by omega, by omega⟩ ⟨by decide, by decide⟩ (fun h34 => ?_) (fun h34 => ?_)
                · refine tm_iload_n dX12_go_157 rfl 6 rfl ?_
                  refine tm_iconst dX12_go_158 ?_
                  refine tm_icmp_ne (tgt := 169) dX12_go_159 (by decide) ⟨by omega, by omega⟩ ⟨by decide, by decide⟩ (fun h35 => ?_) (fun h35 => ?_)
                  · refine tm_iinc (q0 := 3) (L' := [(5, .int (iI (i + 1))), (4, .int (iI c30)), (7, .int (iI v16)), (6, .int (iI v4)), (3, .int (iI q)), (0, .ref b), (1, .int (iI w)), (2, .int (iI nn))]) dX12_go_169 rfl (by decide) rfl ?_
                    refine tm_goto (tgt := 64) dX12_go_172 (by decide) ?_
                    exact tm_sub [0, 1, 4, 5, 6, 7] rfl (ih _ (by omega) (i + 1) (c30) (sS 70 ((σ.1 70) + 1) σ3) (((Fr.rfl.trans (Fr.sub hF (by decide) (by decide) (by decide))).trans (Fr.sub f5 (by decide) (by decide) (by decide))).S (by decide)) (f6.S (by omega)) (by omega) (hrs (by omega) |>.fr (show Fr [68, 69, 70] [] [] σ3 (sS 70 ((σ.1 70) + 1) σ3) from (Fr.rfl.S (by decide))) (by decide) (by decide)) (hx0.trans (hxs.trans (XM.of (show Fr [68, 69, 70] [] [] σ3 (sS 70 ((σ.1 70) + 1) σ3) from (Fr.rfl.S (by decide))) (by decide)))) (by rw [show (sS 70 ((σ.1 70) + 1) σ3).1 70 = (σ.1 70) + 1 from rs_eq]; omega) (by rw [show (sS 70 ((σ.1 70) + 1) σ3).2.1 76 0 = σ3.2.1 76 0 from ra_S (rfl)]; omega) rfl)
                  · refine tm_iload dX12_go_162 0 rfl ?_
                    refine tm_if_eq (tgt := 169) dX12_go_164 (by decide) ⟨by omega, by omega⟩ (fun h36 => ?_) (fun h36 => ?_)
                    · refine tm_iinc (q0 := 3) (L' := [(5, .int (iI (i + 1))), (4, .int (iI c30)), (7, .int (iI v16)), (6, .int (iI v4)), (3, .int (iI q)), (0, .ref b), (1, .int (iI w)), (2, .int (iI nn))]) dX12_go_169 rfl (by decide) rfl ?_
                      refine tm_goto (tgt := 64) dX12_go_172 (by decide) ?_
                      exact tm_sub [0, 1, 4, 5, 6, 7] rfl (ih _ (by omega) (i + 1) (c30) (sS 70 ((σ.1 70) + 1) σ3) (((Fr.rfl.trans (Fr.sub hF (by decide) (by decide) (by decide))).trans (Fr.sub f5 (by decide) (by decide) (by decide))).S (by decide)) (f6.S (by omega)) (by omega) (hrs (by omega) |>.fr (show Fr [68, 69, 70] [] [] σ3 (sS 70 ((σ.1 70) + 1) σ3) from (Fr.rfl.S (by decide))) (by decide) (by decide)) (hx0.trans (hxs.trans (XM.of (show Fr [68, 69, 70] [] [] σ3 (sS 70 ((σ.1 70) + 1) σ3) from (Fr.rfl.S (by decide))) (by decide)))) (by rw [show (sS 70 ((σ.1 70) + 1) σ3).1 70 = (σ.1 70) + 1 from rs_eq]; omega) (by rw [show (sS 70 ((σ.1 70) + 1) σ3).2.1 76 0 = σ3.2.1 76 0 from ra_S (rfl)]; omega) rfl)
                    · refine tm_iconst dX12_go_167 ?_
                      exact tm_iret rfl dX12_go_168 (hret _ _ (((Fr.rfl.trans (Fr.sub hF (by decide) (by decide) (by decide))).trans (Fr.sub f5 (by decide) (by decide) (by decide))).S (by decide)) (f6.S (by omega)) (fun _ => (hrs (by omega)).fr (show Fr [68, 69, 70] [] [] σ3 (sS 70 ((σ.1 70) + 1) σ3) from (Fr.rfl.S (by decide))) (by decide) (by decide)) (hx0.trans (hxs.trans (XM.of (show Fr [68, 69, 70] [] [] σ3 (sS 70 ((σ.1 70) + 1) σ3) from (Fr.rfl.S (by decide))) (by decide)))) (by rw [show (sS 70 ((σ.1 70) + 1) σ3).1 70 = (σ.1 70) + 1 from rs_eq]; omega) (by rw [show (sS 70 ((σ.1 70) + 1) σ3).2.1 76 0 = σ3.2.1 76 0 from ra_S (rfl)]; omega))
                · refine tm_iload dX12_go_151 1 rfl ?_
                  refine tm_iload_n dX12_go_153 rfl 4 rfl ?_
                  refine tm_icmp_le (tgt := 167) dX12_go_154 (by decide) ⟨by omega, by omega⟩ ⟨by omega, by omega⟩ (fun h37 => ?_) (fun h37 => ?_)
                  · refine tm_iconst dX12_go_167 ?_
                    exact tm_iret rfl dX12_go_168 (hret _ _ (((Fr.rfl.trans (Fr.sub hF (by decide) (by decide) (by decide))).trans (Fr.sub f5 (by decide) (by decide) (by decide))).S (by decide)) (f6.S (by omega)) (fun _ => (hrs (by omega)).fr (show Fr [68, 69, 70] [] [] σ3 (sS 70 ((σ.1 70) + 1) σ3) from (Fr.rfl.S (by decide))) (by decide) (by decide)) (hx0.trans (hxs.trans (XM.of (show Fr [68, 69, 70] [] [] σ3 (sS 70 ((σ.1 70) + 1) σ3) from (Fr.rfl.S (by decide))) (by decide)))) (by rw [show (sS 70 ((σ.1 70) + 1) σ3).1 70 = (σ.1 70) + 1 from rs_eq]; omega) (by rw [show (sS 70 ((σ.1 70) + 1) σ3).2.1 76 0 = σ3.2.1 76 0 from ra_S (rfl)]; omega))
                  · refine tm_iload_n dX12_go_157 rfl 6 rfl ?_
                    refine tm_iconst dX12_go_158 ?_
                    refine tm_icmp_ne (tgt := 169) dX12_go_159 (by decide) ⟨by omega, by omega⟩ ⟨by decide, by decide⟩ (fun h38 => ?_) (fun h38 => ?_)
                    · refine tm_iinc (q0 := 3) (L' := [(5, .int (iI (i + 1))), (4, .int (iI c30)), (7, .int (iI v16)), (6, .int (iI v4)), (3, .int (iI q)), (0, .ref b), (1, .int (iI w)), (2, .int (iI nn))]) dX12_go_169 rfl (by decide) rfl ?_
                      refine tm_goto (tgt := 64) dX12_go_172 (by decide) ?_
                      exact tm_sub [0, 1, 4, 5, 6, 7] rfl (ih _ (by omega) (i + 1) (c30) (sS 70 ((σ.1 70) + 1) σ3) (((Fr.rfl.trans (Fr.sub hF (by decide) (by decide) (by decide))).trans (Fr.sub f5 (by decide) (by decide) (by decide))).S (by decide)) (f6.S (by omega)) (by omega) (hrs (by omega) |>.fr (show Fr [68, 69, 70] [] [] σ3 (sS 70 ((σ.1 70) + 1) σ3) from (Fr.rfl.S (by decide))) (by decide) (by decide)) (hx0.trans (hxs.trans (XM.of (show Fr [68, 69, 70] [] [] σ3 (sS 70 ((σ.1 70) + 1) σ3) from (Fr.rfl.S (by decide))) (by decide)))) (by rw [show (sS 70 ((σ.1 70) + 1) σ3).1 70 = (σ.1 70) + 1 from rs_eq]; omega) (by rw [show (sS 70 ((σ.1 70) + 1) σ3).2.1 76 0 = σ3.2.1 76 0 from ra_S (rfl)]; omega) rfl)
                    · refine tm_iload dX12_go_162 0 rfl ?_
                      refine tm_if_eq (tgt := 169) dX12_go_164 (by decide) ⟨by omega, by omega⟩ (fun h39 => ?_) (fun h39 => ?_)
                      · refine tm_iinc (q0 := 3) (L' := [(5, .int (iI (i + 1))), (4, .int (iI c30)), (7, .int (iI v16)), (6, .int (iI v4)), (3, .int (iI q)), (0, .ref b), (1, .int (iI w)), (2, .int (iI nn))]) dX12_go_169 rfl (by decide) rfl ?_
                        refine tm_goto (tgt := 64) dX12_go_172 (by decide) ?_
                        exact tm_sub [0, 1, 4, 5, 6, 7] rfl (ih _ (by omega) (i + 1) (c30) (sS 70 ((σ.1 70) + 1) σ3) (((Fr.rfl.trans (Fr.sub hF (by decide) (by decide) (by decide))).trans (Fr.sub f5 (by decide) (by decide) (by decide))).S (by decide)) (f6.S (by omega)) (by omega) (hrs (by omega) |>.fr (show Fr [68, 69, 70] [] [] σ3 (sS 70 ((σ.1 70) + 1) σ3) from (Fr.rfl.S (by decide))) (by decide) (by decide)) (hx0.trans (hxs.trans (XM.of (show Fr [68, 69, 70] [] [] σ3 (sS 70 ((σ.1 70) + 1) σ3) from (Fr.rfl.S (by decide))) (by decide)))) (by rw [show (sS 70 ((σ.1 70) + 1) σ3).1 70 = (σ.1 70) + 1 from rs_eq]; omega) (by rw [show (sS 70 ((σ.1 70) + 1) σ3).2.1 76 0 = σ3.2.1 76 0 from ra_S (rfl)]; omega) rfl)
                      · refine tm_iconst dX12_go_167 ?_
                        exact tm_iret rfl dX12_go_168 (hret _ _ (((Fr.rfl.trans (Fr.sub hF (by decide) (by decide) (by decide))).trans (Fr.sub f5 (by decide) (by decide) (by decide))).S (by decide)) (f6.S (by omega)) (fun _ => (hrs (by omega)).fr (show Fr [68, 69, 70] [] [] σ3 (sS 70 ((σ.1 70) + 1) σ3) from (Fr.rfl.S (by decide))) (by decide) (by decide)) (hx0.trans (hxs.trans (XM.of (show Fr [68, 69, 70] [] [] σ3 (sS 70 ((σ.1 70) + 1) σ3) from (Fr.rfl.S (by decide))) (by decide)))) (by rw [show (sS 70 ((σ.1 70) + 1) σ3).1 70 = (σ.1 70) + 1 from rs_eq]; omega) (by rw [show (sS 70 ((σ.1 70) + 1) σ3).2.1 76 0 = σ3.2.1 76 0 from ra_S (rfl)]; omega))
        · refine tm_aload_n dX12_go_106 rfl 4 rfl ?_
          refine tm_iconst dX12_go_107 ?_
          refine tm_putS (k := 68) (v := 1) lay_12 dX12_go_108 (by decide) fl12_560 rfl (tyX12_ok 68 (by decide)) rfl rfl rfl ?_
          refine tm_iconst dX12_go_111 ?_
          exact tm_iret rfl dX12_go_112 (hret _ _ ((((Fr.rfl.trans (Fr.sub hF (by decide) (by decide) (by decide))).trans (Fr.sub f5 (by decide) (by decide) (by decide))).S (by decide)).S (by decide)) ((f6.S (by omega)).S (by omega)) (fun q => absurd (q.symm.trans (show (sS 68 1 (sS 70 ((σ.1 70) + 1) σ3)).1 68 = 1 from rs_eq)) (by decide)) (hx0.trans (hxs.trans (XM.of (show Fr [68, 69, 70] [] [] σ3 (sS 68 1 (sS 70 ((σ.1 70) + 1) σ3)) from ((Fr.rfl.S (by decide)).S (by decide))) (by decide)))) (by rw [show (sS 68 1 (sS 70 ((σ.1 70) + 1) σ3)).1 70 = (σ.1 70) + 1 from rs_o (by decide) (rs_eq)]; omega) (by rw [show (sS 68 1 (sS 70 ((σ.1 70) + 1) σ3)).2.1 76 0 = σ3.2.1 76 0 from ra_S (ra_S (rfl))]; omega))
      · refine tm_aload_n dX12_go_83 rfl 4 rfl ?_
        refine tm_iconst dX12_go_84 ?_
        refine tm_putS (k := 69) (v := 1) lay_12 dX12_go_85 (by decide) fl12_563 rfl (tyX12_ok 69 (by decide)) rfl rfl rfl ?_
        refine tm_iconst dX12_go_88 ?_
        exact tm_iret rfl dX12_go_89 (hret _ _ (((Fr.rfl.trans (Fr.sub hF (by decide) (by decide) (by decide))).trans (Fr.sub f5 (by decide) (by decide) (by decide))).S (by decide)) (f6.S (by omega)) (fun _ => (hrs (by omega)).fr (show Fr [68, 69, 70] [] [] σ3 (sS 69 1 σ3) from (Fr.rfl.S (by decide))) (by decide) (by decide)) (hx0.trans (hxs.trans (XM.of (show Fr [68, 69, 70] [] [] σ3 (sS 69 1 σ3) from (Fr.rfl.S (by decide))) (by decide)))) (by rw [show (sS 69 1 σ3).1 70 = σ.1 70 from rs_o (by decide) (rs_F f5 (by decide) (rfl))]; omega) (by rw [show (sS 69 1 σ3).2.1 76 0 = σ3.2.1 76 0 from ra_S (rfl)]; omega))
theorem dX12_go_0 : decode cX12_go 0 = .ok (.aload_n 0, 1) := by decide +kernel
theorem dX12_go_1 : decode cX12_go 1 = .ok (.iconst 0, 1) := by decide +kernel
theorem dX12_go_2 : decode cX12_go 2 = .ok (.putfield 185, 3) := by decide +kernel
theorem dX12_go_5 : decode cX12_go 5 = .ok (.aload_n 0, 1) := by decide +kernel
theorem dX12_go_6 : decode cX12_go 6 = .ok (.getfield 397, 3) := by decide +kernel
theorem dX12_go_9 : decode cX12_go 9 = .ok (.ifCond .eq 23, 3) := by decide +kernel
theorem dX12_go_32 : decode cX12_go 32 = .ok (.iconst (-1), 1) := by decide +kernel
theorem dX12_go_33 : decode cX12_go 33 = .ok (.ireturn, 1) := by decide +kernel
theorem dX12_go_12 : decode cX12_go 12 = .ok (.iload_n 1, 1) := by decide +kernel
theorem dX12_go_13 : decode cX12_go 13 = .ok (.iconst 0, 1) := by decide +kernel
theorem dX12_go_14 : decode cX12_go 14 = .ok (.iconst 2, 1) := by decide +kernel
theorem dX12_go_15 : decode cX12_go 15 = .ok (.invokestatic 188, 3) := by decide +kernel
theorem dX12_go_18 : decode cX12_go 18 = .ok (.ifCond .eq 14, 3) := by decide +kernel
theorem dX12_go_21 : decode cX12_go 21 = .ok (.iload_n 2, 1) := by decide +kernel
theorem dX12_go_22 : decode cX12_go 22 = .ok (.iconst 1, 1) := by decide +kernel
theorem dX12_go_23 : decode cX12_go 23 = .ok (.sipush 20000, 3) := by decide +kernel
theorem dX12_go_26 : decode cX12_go 26 = .ok (.invokestatic 188, 3) := by decide +kernel
theorem dX12_go_29 : decode cX12_go 29 = .ok (.ifCond .ne 5, 3) := by decide +kernel
theorem dX12_go_34 : decode cX12_go 34 = .ok (.aload_n 0, 1) := by decide +kernel
theorem dX12_go_35 : decode cX12_go 35 = .ok (.getfield 563, 3) := by decide +kernel
theorem dX12_go_38 : decode cX12_go 38 = .ok (.ifCond .eq 5, 3) := by decide +kernel
theorem dX12_go_43 : decode cX12_go 43 = .ok (.aload_n 0, 1) := by decide +kernel
theorem dX12_go_44 : decode cX12_go 44 = .ok (.getfield 560, 3) := by decide +kernel
theorem dX12_go_47 : decode cX12_go 47 = .ok (.ifCond .eq 5, 3) := by decide +kernel
theorem dX12_go_52 : decode cX12_go 52 = .ok (.aload_n 0, 1) := by decide +kernel
theorem dX12_go_53 : decode cX12_go 53 = .ok (.iconst 0, 1) := by decide +kernel
theorem dX12_go_54 : decode cX12_go 54 = .ok (.invokevirtual 554, 3) := by decide +kernel
theorem dX12_go_57 : decode cX12_go 57 = .ok (.istore_n 3, 1) := by decide +kernel
theorem dX12_go_58 : decode cX12_go 58 = .ok (.iconst 0, 1) := by decide +kernel
theorem dX12_go_59 : decode cX12_go 59 = .ok (.istore 4, 2) := by decide +kernel
theorem dX12_go_61 : decode cX12_go 61 = .ok (.iconst 0, 1) := by decide +kernel
theorem dX12_go_62 : decode cX12_go 62 = .ok (.istore 5, 2) := by decide +kernel
theorem dX12_go_175 : decode cX12_go 175 = .ok (.iconst 2, 1) := by decide +kernel
theorem dX12_go_176 : decode cX12_go 176 = .ok (.ireturn, 1) := by decide +kernel
theorem dX12_go_50 : decode cX12_go 50 = .ok (.iconst 0, 1) := by decide +kernel
theorem dX12_go_51 : decode cX12_go 51 = .ok (.ireturn, 1) := by decide +kernel
theorem dX12_go_41 : decode cX12_go 41 = .ok (.iconst 3, 1) := by decide +kernel
theorem dX12_go_42 : decode cX12_go 42 = .ok (.ireturn, 1) := by decide +kernel
set_option maxHeartbeats 4000000 in
set_option maxRecDepth 20000 in
theorem c_X12_go (d : Nat) {b : Nat} {σ : MS} {w : Int} {nn : Int} (hR : RG σ) (hit : ITM σ) (hpar : PAR σ) (hbka : BKA σ 0) (hr7 : σ.1 67 ≠ 0 → σ.1 68 = 0 → RUN σ 0) (hG : 0 ≤ σ.1 70 ∧ σ.1 70 ≤ 1000000000) (hP : 0 ≤ σ.2.1 76 0 ∧ σ.2.1 76 0 ≤ 900000000) (h_w : -2147483648 ≤ w ∧ w ≤ 2147483647) (h_nn : -2147483648 ≤ nn ∧ nn ≤ 2147483647) : Tm (d + 4) m_X12_go 0 b σ [(0, .ref b), (1, .int (iI w)), (2, .int (iI nn))] [] (fun ro σ2 => ∃ v : Int, ro = some (.int (iI v)) ∧ (Fr [0, 68, 69, 70] [73, 75, 76, 77, 78, 79, 80, 81, 82] [] σ σ2) ∧ (RG σ2) ∧ (σ2.1 67 ≠ 0 → σ2.1 68 = 0 → RUN σ2 0) ∧ (XM 0 σ σ2) ∧ (σ.1 70 ≤ σ2.1 70 ∧ σ2.1 70 ≤ σ.1 70 + 20000) ∧ (σ.2.1 76 0 ≤ σ2.2.1 76 0 ∧ σ2.2.1 76 0 ≤ σ.2.1 76 0 + 20000)) := by
  refine tm_aload_n dX12_go_0 rfl 0 rfl ?_
  refine tm_iconst dX12_go_1 ?_
  refine tm_putS (k := 0) (v := 0) lay_12 dX12_go_2 (by decide) fl12_185 rfl (tyX12_ok 0 (by decide)) rfl rfl rfl ?_
  refine tm_aload_n dX12_go_5 rfl 0 rfl ?_
  refine tm_getS (k := 67) (t := σ.1 67) dX12_go_6 (by decide) fl12_397 rfl (rs_o (by decide) (rfl)) ?_
  have g1 := RG.s hR 67
  refine tm_if_eq (tgt := 32) dX12_go_9 (by decide) ⟨by omega, by omega⟩ (fun h2 => ?_) (fun h2 => ?_)
  · refine tm_iconst dX12_go_32 ?_
    exact tm_iret rfl dX12_go_33 (⟨_, rfl, (Fr.rfl.S (by decide)), (hR.S (by omega)), fun a c => (hr7 a c).fr (Fr.rfl.S (by decide) : Fr [0] [] [] σ (sS 0 0 σ)) (by decide) (by decide), XM.of (Fr.rfl.S (by decide) : Fr [0] [] [] σ (sS 0 0 σ)) (by decide), ⟨Int.le_refl _, by show σ.1 70 ≤ σ.1 70 + 20000; omega⟩, ⟨Int.le_refl _, by show σ.2.1 76 0 ≤ σ.2.1 76 0 + 20000; omega⟩⟩)
  · refine tm_iload_n dX12_go_12 rfl 1 rfl ?_
    refine tm_iconst dX12_go_13 ?_
    refine tm_iconst dX12_go_14 ?_
    refine tm_callS (M := m_X12_go) (pc := 15) (ix := 188) (M' := m_X12_in) (As := [.int (iI w), .int (iI 0), .int (iI 2)]) (rest := []) dX12_go_15 ok_X12_in stt_X12_in ml12_188 np_X12_in rfl (Nat.le_of_ble_eq_true rfl) (Nat.le_of_ble_eq_true rfl) rfl (c_X12_in (d + 2) (σ := (sS 0 0 σ)) (x := w) (lo := 0) (hi := 2) (by omega) (by omega) (by omega)) (fun r3 σ4 hp => ?_)
    obtain ⟨v5, rfl, rfl, f6, f7⟩ := hp
    show Tm _ _ 18 b (sS 0 0 σ) [(0, .ref b), (1, .int (iI w)), (2, .int (iI nn))] [.int (iI v5)] _
    refine tm_if_eq (tgt := 32) dX12_go_18 (by decide) ⟨by omega, by omega⟩ (fun h8 => ?_) (fun h8 => ?_)
    · refine tm_iconst dX12_go_32 ?_
      exact tm_iret rfl dX12_go_33 (⟨_, rfl, (Fr.rfl.S (by decide)), (hR.S (by omega)), fun a c => (hr7 a c).fr (Fr.rfl.S (by decide) : Fr [0] [] [] σ (sS 0 0 σ)) (by decide) (by decide), XM.of (Fr.rfl.S (by decide) : Fr [0] [] [] σ (sS 0 0 σ)) (by decide), ⟨Int.le_refl _, by show σ.1 70 ≤ σ.1 70 + 20000; omega⟩, ⟨Int.le_refl _, by show σ.2.1 76 0 ≤ σ.2.1 76 0 + 20000; omega⟩⟩)
    · refine tm_iload_n dX12_go_21 rfl 2 rfl ?_
      refine tm_iconst dX12_go_22 ?_
      refine tm_sipush dX12_go_23 (by decide) ?_
      refine tm_callS (M := m_X12_go) (pc := 26) (ix := 188) (M' := m_X12_in) (As := [.int (iI nn), .int (iI 1), .int (iI 20000)]) (rest := []) dX12_go_26 ok_X12_in stt_X12_in ml12_188 np_X12_in rfl (Nat.le_of_ble_eq_true rfl) (Nat.le_of_ble_eq_true rfl) rfl (c_X12_in (d + 2) (σ := (sS 0 0 σ)) (x := nn) (lo := 1) (hi := 20000) (by omega) (by omega) (by omega)) (fun r9 σ10 hp => ?_)
      obtain ⟨v11, rfl, rfl, f12, f13⟩ := hp
      show Tm _ _ 29 b (sS 0 0 σ) [(0, .ref b), (1, .int (iI w)), (2, .int (iI nn))] [.int (iI v11)] _
      refine tm_if_ne (tgt := 34) dX12_go_29 (by decide) ⟨by omega, by omega⟩ (fun h14 => ?_) (fun h14 => ?_)
      · refine tm_aload_n dX12_go_34 rfl 0 rfl ?_
        refine tm_getS (k := 69) (t := σ.1 69) dX12_go_35 (by decide) fl12_563 rfl (rs_o (by decide) (rfl)) ?_
        have g15 := RG.s hR 69
        refine tm_if_eq (tgt := 43) dX12_go_38 (by decide) ⟨by omega, by omega⟩ (fun h16 => ?_) (fun h16 => ?_)
        · refine tm_aload_n dX12_go_43 rfl 0 rfl ?_
          refine tm_getS (k := 68) (t := σ.1 68) dX12_go_44 (by decide) fl12_560 rfl (rs_o (by decide) (rfl)) ?_
          have g17 := RG.s hR 68
          refine tm_if_eq (tgt := 52) dX12_go_47 (by decide) ⟨by omega, by omega⟩ (fun h18 => ?_) (fun h18 => ?_)
          · refine tm_aload_n dX12_go_52 rfl 0 rfl ?_
            have hrn := (hr7 (by omega) (by omega)).fr (Fr.rfl.S (by decide) : Fr [0] [] [] σ (sS 0 0 σ)) (by decide) (by decide)
            have hbk2 := hbka.fr (Fr.rfl.S (by decide) : Fr [0] [] [] σ (sS 0 0 σ)) (by decide) (by decide)
            have hrr : (0 ≤ (sS 0 0 σ).2.1 73 0 ∧ (sS 0 0 σ).2.1 73 0 ≤ 9) ∧ ∀ c, 9 * 0 ≤ c → c < 9 * 0 + (sS 0 0 σ).2.1 73 0 → DEC (sS 0 0 σ) 0 c (fn (sS 0 0 σ) 0 c) := ⟨⟨by have := hrn.1; omega, hrn.1.2⟩, hrn.dec hbk2.2 hbk2.1.2⟩
            refine tm_iconst dX12_go_53 ?_
            refine tm_callV (M := m_X12_go) (pc := 54) (ix := 554) (M' := m_X12_depth) (As := [.int (iI 0)]) (rest := []) dX12_go_54 ok_X12_depth im_X12_depth se_X12_depth ml12_554 np_X12_depth rfl rfl (Nat.le_of_ble_eq_true rfl) (Nat.le_of_ble_eq_true rfl) rfl (c_X12_depth (d + 2) (σ := (sS 0 0 σ)) (m := 0) (hR.S (by omega)) (by decide) hrr.1 (fun c a e => ⟨_, hrr.2 c a e⟩)) (fun r19 σ20 hp => ?_)
            obtain ⟨v21, rfl, rfl, f22, f23⟩ := hp
            show Tm _ _ 57 b (sS 0 0 σ) [(0, .ref b), (1, .int (iI w)), (2, .int (iI nn))] [.int (iI v21)] _
            refine tm_istore_n (L' := [(3, .int (iI v21)), (0, .ref b), (1, .int (iI w)), (2, .int (iI nn))]) dX12_go_57 rfl (by decide) rfl ?_
            refine tm_iconst dX12_go_58 ?_
            refine tm_istore (L' := [(4, .int (iI 0)), (3, .int (iI v21)), (0, .ref b), (1, .int (iI w)), (2, .int (iI nn))]) dX12_go_59 (by decide) rfl ?_
            refine tm_iconst dX12_go_61 ?_
            refine tm_istore (L' := [(5, .int (iI 0)), (4, .int (iI 0)), (3, .int (iI v21)), (0, .ref b), (1, .int (iI w)), (2, .int (iI nn))]) dX12_go_62 (by decide) rfl ?_
            refine tm_sub [0, 1, 2, 3, 4, 5] rfl (l_go (d) (σ0 := (sS 0 0 σ)) (w := w) (nn := nn) (q := v21) (hR.S (by omega)) hbk2 (hit.fr (Fr.rfl.S (by decide) : Fr [0] [] [] σ (sS 0 0 σ)) (by decide)) (hpar.fr (Fr.rfl.S (by decide) : Fr [0] [] [] σ (sS 0 0 σ)) (by decide)) (by omega) hG hP (by omega) (by omega) (fun i33 e34 σ35 F27 R28 f29 f30 f31 f32 => ?_) (fun v τ hF2 hR2 hru hxm hgb hpb => ⟨_, rfl, ((Fr.rfl.S (by decide) : Fr [0, 68, 69, 70] [73, 75, 76, 77, 78, 79, 80, 81, 82] [] σ (sS 0 0 σ)).trans (Fr.sub hF2 (by decide) (by decide) (by decide))), hR2, fun _ c => hru c, XM.trans (XM.of (Fr.rfl.S (by decide) : Fr [0] [] [] σ (sS 0 0 σ)) (by decide)) hxm, hgb, hpb⟩) _ (0) (0) (sS 0 0 σ) Fr.rfl (hR.S (by omega)) (by omega) hrn XM.rfl ⟨Int.le_refl _, by omega⟩ ⟨Int.le_refl _, by omega⟩ rfl)
            show Tm _ _ 175 b σ35 [(0, .ref b)] [] _
            refine tm_iconst dX12_go_175 ?_
            exact tm_iret rfl dX12_go_176 (⟨_, rfl, ((Fr.rfl.S (by decide) : Fr [0, 68, 69, 70] [73, 75, 76, 77, 78, 79, 80, 81, 82] [] σ (sS 0 0 σ)).trans (Fr.sub F27 (by decide) (by decide) (by decide))), R28, fun _ _ => f29, XM.trans (XM.of (Fr.rfl.S (by decide) : Fr [0] [] [] σ (sS 0 0 σ)) (by decide)) f30, f31, f32⟩)
          · refine tm_iconst dX12_go_50 ?_
            exact tm_iret rfl dX12_go_51 (⟨_, rfl, (Fr.rfl.S (by decide)), (hR.S (by omega)), fun a c => (hr7 a c).fr (Fr.rfl.S (by decide) : Fr [0] [] [] σ (sS 0 0 σ)) (by decide) (by decide), XM.of (Fr.rfl.S (by decide) : Fr [0] [] [] σ (sS 0 0 σ)) (by decide), ⟨Int.le_refl _, by show σ.1 70 ≤ σ.1 70 + 20000; omega⟩, ⟨Int.le_refl _, by show σ.2.1 76 0 ≤ σ.2.1 76 0 + 20000; omega⟩⟩)
        · refine tm_iconst dX12_go_41 ?_
          exact tm_iret rfl dX12_go_42 (⟨_, rfl, (Fr.rfl.S (by decide)), (hR.S (by omega)), fun a c => (hr7 a c).fr (Fr.rfl.S (by decide) : Fr [0] [] [] σ (sS 0 0 σ)) (by decide) (by decide), XM.of (Fr.rfl.S (by decide) : Fr [0] [] [] σ (sS 0 0 σ)) (by decide), ⟨Int.le_refl _, by show σ.1 70 ≤ σ.1 70 + 20000; omega⟩, ⟨Int.le_refl _, by show σ.2.1 76 0 ≤ σ.2.1 76 0 + 20000; omega⟩⟩)
      · refine tm_iconst dX12_go_32 ?_
        exact tm_iret rfl dX12_go_33 (⟨_, rfl, (Fr.rfl.S (by decide)), (hR.S (by omega)), fun a c => (hr7 a c).fr (Fr.rfl.S (by decide) : Fr [0] [] [] σ (sS 0 0 σ)) (by decide) (by decide), XM.of (Fr.rfl.S (by decide) : Fr [0] [] [] σ (sS 0 0 σ)) (by decide), ⟨Int.le_refl _, by show σ.1 70 ≤ σ.1 70 + 20000; omega⟩, ⟨Int.le_refl _, by show σ.2.1 76 0 ≤ σ.2.1 76 0 + 20000; omega⟩⟩)
end
section
def X0 (m : Int) (σ τ : MS) : Prop := (τ.2.1 73 m = σ.2.1 73 m ∧ τ.2.1 76 m = σ.2.1 76 m) ∧ ∀ c, 9 * m ≤ c → c < 9 * m + 9 → τ.2.1 78 c = σ.2.1 78 c ∧ τ.2.1 79 c = σ.2.1 79 c ∧ τ.2.1 80 c = σ.2.1 80 c
theorem X0.rfl {m : Int} {σ : MS} : X0 m σ σ := ⟨⟨_root_.rfl, _root_.rfl⟩, fun _ _ _ => ⟨_root_.rfl, _root_.rfl, _root_.rfl⟩⟩
theorem X0.trans {m : Int} {σ τ υ : MS} (h : X0 m σ τ) (g : X0 m τ υ) : X0 m σ υ := ⟨⟨g.1.1.trans h.1.1, g.1.2.trans h.1.2⟩, fun c a b => ⟨(g.2 c a b).1.trans (h.2 c a b).1, (g.2 c a b).2.1.trans (h.2 c a b).2.1, (g.2 c a b).2.2.trans (h.2 c a b).2.2⟩⟩
theorem XM.x0 {m j : Int} {σ τ : MS} (h : XM m σ τ) (hj : j ≠ m) : X0 j σ τ := ⟨h.1 j hj, fun c a b => h.2 c (by omega)⟩
theorem X0.of {ss ks js : List Nat} {m : Int} {σ τ : MS} (g : Fr ss ks js σ τ) (hk : ∀ k ∈ [73, 76, 78, 79, 80], k ∉ ks) : X0 m σ τ := (XM.of (m := m + 1) g hk).x0 (by omega)
theorem RUN.x0 {ss ks js : List Nat} {σ τ : MS} {m : Int} (h : RUN σ m) (x : X0 m σ τ) (g : Fr ss ks js σ τ) (hs : 10 ∉ ss) (hk : ∀ k ∈ [3, 4, 5, 9, 14, 16], k ∉ ks) : RUN τ m := by
  obtain ⟨h1, h2, h3, h4⟩ := h
  have e73 := x.1.1
  have ee := x.2
  refine ⟨by rw [e73]; exact h1, fun c a b => ?_, fun c a b => ?_, ?_⟩
  · rw [e73] at b
    rw [(ee c a (by omega)).1, (ee c a (by omega)).2.1, (ee c a (by omega)).2.2]; exact (h2 c a b).fr g hs hk
  · rw [e73] at b
    rw [(ee c a (by omega)).1, (ee c a (by omega)).2.1]
    unfold kdm; rw [g.q hk (k := 3) (by decide)]
    exact h3 c a b
  · rw [dpt_dsum] at h4 ⊢
    rw [e73, dsum_fr g (hk 16 (by decide)), dsum_ext (R := σ.2.1 78) (P := σ.2.1 80) _ (fun j a b => ⟨(ee j a (by omega)).1, (ee j a (by omega)).2.2⟩)]
    exact h4
theorem GDA.bka {σ : MS} {m : Int} (h : GDA σ) (hm : m ≠ 2) : BKA σ m := ⟨h.1, fun r a b => (h.2 r a b).bkg hm⟩
theorem RUN.hd {σ : MS} {m : Int} (h : RUN σ m) (b : BKA σ m) : (0 ≤ σ.2.1 73 m ∧ σ.2.1 73 m ≤ 9) ∧ ∀ c, 9 * m ≤ c → c < 9 * m + σ.2.1 73 m → DEC σ m c (fn σ m c) := ⟨⟨by have := h.1; omega, h.1.2⟩, h.dec b.2 b.1.2⟩

set_option maxHeartbeats 4000000 in
set_option maxRecDepth 20000 in
theorem l_isFr2b (d : Nat) {b : Nat} {σ : MS} {m : Int} {k : Int} {c : Int} {post : Option Value → MS → Prop} (hR : RG σ) (hm2 : 0 ≤ m ∧ m ≤ 2) (hmc : 0 ≤ σ.2.1 73 m ∧ σ.2.1 73 m ≤ 9) (hde : ∀ c, 9 * m ≤ c → c < 9 * m + σ.2.1 73 m → DEC σ m c (fn σ m c)) (hc : 9 * m ≤ c ∧ c < 9 * m + σ.2.1 73 m) (hx_98 : ∀ (w : Int) (f : Int) , (0 ≤ w ∧ w ≤ 2147483647) → (k ≤ w + 13 * (9 * m + σ.2.1 73 m - 1 - c) + 13) → Tm (d + 1) m_X12_isFrame 98 b σ [(5, .int (iI f)), (4, .int (iI c)), (3, .int (iI w)), (0, .ref b), (1, .int (iI m)), (2, .int (iI k))] [] post) (hr1 : ∀ c f, 9 * m ≤ c → c < 9 * m + σ.2.1 73 m → 0 ≤ f → f < fn σ m c → k ≤ 117 → post (some (.int (iI 1))) (sS 84 f (sS 83 c σ))) : ∀ (n : Nat) (w : Int) (f : Int) , (-1 ≤ f ∧ f < fn σ m c ∧ 0 ≤ w ∧ w ≤ 2147483647) → (k ≤ w + 13 * (9 * m + σ.2.1 73 m - 1 - c) + (12 - f)) → (f + 1).toNat = n → Tm (d + 1) m_X12_isFrame 39 b σ [(5, .int (iI f)), (4, .int (iI c)), (3, .int (iI w)), (0, .ref b), (1, .int (iI m)), (2, .int (iI k))] [] post := by
  intro n
  induction n using Nat.strongRecOn with
  | _ n ih =>
    intro w f h0 hk hm
    have hd := hde c hc.1 hc.2
    have hd1 := hd.1
    have hd2 := hd.2.1
    refine tm_iload dX12_isFrame_39 0 rfl ?_
    refine tm_iconst dX12_isFrame_41 ?_
    refine tm_icmp_eq (tgt := 98) dX12_isFrame_42 (by decide) ⟨by omega, by omega⟩ ⟨by decide, by decide⟩ (fun h1 => ?_) (fun h1 => ?_)
    · exact tm_sub [0, 1, 2, 3, 4, 5] rfl (hx_98 (w) (f) (by omega) (by omega))
    · refine tm_iload_n dX12_isFrame_45 rfl 2 rfl ?_
      refine tm_if_ne (tgt := 63) dX12_isFrame_46 (by decide) ⟨by omega, by omega⟩ (fun h2 => ?_) (fun h2 => ?_)
      · have hdd := hd.2.2 f (by omega) (by omega)
        refine tm_iinc (q0 := 2) (L' := [(3, .int (iI (w + (-1)))), (5, .int (iI f)), (4, .int (iI c)), (0, .ref b), (1, .int (iI m)), (2, .int (iI k))]) dX12_isFrame_63 rfl (by decide) rfl ?_
        refine tm_iload_n dX12_isFrame_66 rfl 4 rfl ?_
        refine tm_iconst dX12_isFrame_67 ?_
        refine tm_icmp_ne (tgt := 75) dX12_isFrame_68 (by decide) ⟨by omega, by omega⟩ ⟨by decide, by decide⟩ (fun h3 => ?_) (fun h3 => ?_)
        · have hpr : pr σ m c f = σ.2.1 16 (12 * σ.2.1 78 c + f) := if_neg (by omega)
          rw [hpr] at hdd
          refine tm_aload_n dX12_isFrame_75 rfl 3 rfl ?_
          refine tm_get (k := 16) (v := .ref (b + 1 + 13)) lay_12 dX12_isFrame_76 (by decide) fl12_50 rfl ?_
          refine tm_bipush dX12_isFrame_79 (by decide) ?_
          refine tm_aload_n dX12_isFrame_81 rfl 3 rfl ?_
          refine tm_get (k := 78) (v := .ref (b + 1 + 49)) lay_12 dX12_isFrame_82 (by decide) fl12_167 rfl ?_
          refine tm_iload dX12_isFrame_85 2 rfl ?_
          refine tm_iald (z := c) (v := σ.2.1 78 c) dX12_isFrame_87 (show mT[49]? = some (78, 0, 27) from rfl) (by omega) (by omega) (by decide) (rfl) ?_
          have g4 := RG.a hR 78 (c)
          refine tm_imul dX12_isFrame_88 ?_
          refine tm_iload dX12_isFrame_89 1 rfl ?_
          refine tm_iadd dX12_isFrame_91 ?_
          refine tm_iald (z := (12 * (σ.2.1 78 c)) + f) (v := σ.2.1 16 ((12 * (σ.2.1 78 c)) + f)) dX12_isFrame_92 (show mT[13]? = some (16, 0, 72) from rfl) (by omega) (by omega) (by decide) (rfl) ?_
          have g5 := RG.a hR 16 ((12 * (σ.2.1 78 c)) + f)
          refine tm_istore (L' := [(5, .int (iI (σ.2.1 16 ((12 * (σ.2.1 78 c)) + f)))), (3, .int (iI (w + (-1)))), (4, .int (iI c)), (0, .ref b), (1, .int (iI m)), (2, .int (iI k))]) dX12_isFrame_93 (by decide) rfl ?_
          refine tm_goto (tgt := 39) dX12_isFrame_95 (by decide) ?_
          exact tm_sub [0, 2, 1, 3, 4, 5] rfl (ih _ (by omega) (w + (-1)) (σ.2.1 16 ((12 * (σ.2.1 78 c)) + f)) (by omega) (by omega) rfl)
        · have hpr : pr σ m c f = -1 := if_pos (by omega)
          rw [hpr] at hdd
          refine tm_iconst dX12_isFrame_71 ?_
          refine tm_goto (tgt := 93) dX12_isFrame_72 (by decide) ?_
          refine tm_istore (L' := [(5, .int (iI (-1))), (3, .int (iI (w + (-1)))), (4, .int (iI c)), (0, .ref b), (1, .int (iI m)), (2, .int (iI k))]) dX12_isFrame_93 (by decide) rfl ?_
          refine tm_goto (tgt := 39) dX12_isFrame_95 (by decide) ?_
          exact tm_sub [0, 2, 1, 3, 4, 5] rfl (ih _ (by omega) (w + (-1)) (-1) (by omega) (by omega) rfl)
      · refine tm_aload_n dX12_isFrame_49 rfl 3 rfl ?_
        refine tm_iload dX12_isFrame_50 1 rfl ?_
        refine tm_putS (k := 83) (v := c) lay_12 dX12_isFrame_52 (by decide) fl12_572 rfl (tyX12_ok 83 (by decide)) rfl rfl rfl ?_
        refine tm_aload_n dX12_isFrame_55 rfl 3 rfl ?_
        refine tm_iload dX12_isFrame_56 0 rfl ?_
        refine tm_putS (k := 84) (v := f) lay_12 dX12_isFrame_58 (by decide) fl12_575 rfl (tyX12_ok 84 (by decide)) rfl rfl rfl ?_
        refine tm_iconst dX12_isFrame_61 ?_
        exact tm_zret (v := 1) rfl (by decide) dX12_isFrame_62 (hr1 c f hc.1 hc.2 (by omega) (by omega) (by omega))
set_option maxHeartbeats 4000000 in
set_option maxRecDepth 20000 in
theorem l_isFr1b (d : Nat) {b : Nat} {σ : MS} {m : Int} {k : Int} {post : Option Value → MS → Prop} (hR : RG σ) (hm2 : 0 ≤ m ∧ m ≤ 2) (hmc : 0 ≤ σ.2.1 73 m ∧ σ.2.1 73 m ≤ 9) (hde : ∀ c, 9 * m ≤ c → c < 9 * m + σ.2.1 73 m → DEC σ m c (fn σ m c)) (hx_104 : ∀ (w : Int) (c : Int) , Tm (d + 1) m_X12_isFrame 104 b σ [(4, .int (iI c)), (3, .int (iI w)), (0, .ref b), (1, .int (iI m)), (2, .int (iI k))] [] post) (hr1 : ∀ c f, 9 * m ≤ c → c < 9 * m + σ.2.1 73 m → 0 ≤ f → f < fn σ m c → k ≤ 117 → post (some (.int (iI 1))) (sS 84 f (sS 83 c σ))) : ∀ (n : Nat) (w : Int) (c : Int) , (9 * m - 1 ≤ c ∧ c < 9 * m + σ.2.1 73 m ∧ -2147483648 ≤ w ∧ w ≤ 2147483647) → (k ≤ w + 13 * (9 * m + σ.2.1 73 m - 1 - c)) → (c + 1 - 9 * m).toNat = n → Tm (d + 1) m_X12_isFrame 17 b σ [(4, .int (iI c)), (3, .int (iI w)), (0, .ref b), (1, .int (iI m)), (2, .int (iI k))] [] post := by
  intro n
  induction n using Nat.strongRecOn with
  | _ n ih =>
    intro w c h0 hk hm
    refine tm_iload dX12_isFrame_17 0 rfl ?_
    refine tm_bipush dX12_isFrame_19 (by decide) ?_
    refine tm_iload_n dX12_isFrame_21 rfl 3 rfl ?_
    refine tm_imul dX12_isFrame_22 ?_
    refine tm_icmp_lt (tgt := 104) dX12_isFrame_23 (by decide) ⟨by omega, by omega⟩ ⟨by omega, by omega⟩ (fun h1 => ?_) (fun h1 => ?_)
    · exact tm_sub [0, 1, 2, 3, 4] rfl (hx_104 (w) (c) )
    · refine tm_iload_n dX12_isFrame_26 rfl 1 rfl ?_
      refine tm_if_lt (tgt := 104) dX12_isFrame_27 (by decide) ⟨by omega, by omega⟩ (fun h2 => ?_) (fun h2 => ?_)
      · exact tm_sub [0, 1, 2, 3, 4] rfl (hx_104 (w) (c) )
      · have hd := hde c (by omega) (by omega)
        have hd2 := hd.2.1
        refine tm_aload_n dX12_isFrame_30 rfl 2 rfl ?_
        refine tm_get (k := 80) (v := .ref (b + 1 + 51)) lay_12 dX12_isFrame_31 (by decide) fl12_173 rfl ?_
        refine tm_iload dX12_isFrame_34 0 rfl ?_
        refine tm_iald (z := c) (v := σ.2.1 80 c) dX12_isFrame_36 (show mT[51]? = some (80, 0, 27) from rfl) (by omega) (by omega) (by decide) (rfl) ?_
        have g3 := RG.a hR 80 (c)
        refine tm_istore (L' := [(5, .int (iI (σ.2.1 80 c))), (4, .int (iI c)), (3, .int (iI w)), (0, .ref b), (1, .int (iI m)), (2, .int (iI k))]) dX12_isFrame_37 (by decide) rfl ?_
        refine tm_sub [0, 1, 2, 3, 4, 5] rfl (l_isFr2b (d) (σ := σ) (m := m) (k := k) (c := c) hR hm2 hmc hde ⟨by omega, by omega⟩ (fun w10 f11 f8 f9 => ?_) hr1 _ (w) (σ.2.1 80 c) (by omega) (by omega) rfl)
        show Tm _ _ 98 b σ [(5, .int (iI f11)), (4, .int (iI c)), (3, .int (iI w10)), (0, .ref b), (1, .int (iI m)), (2, .int (iI k))] [] _
        refine tm_iinc (q0 := 1) (L' := [(4, .int (iI (c + (-1)))), (5, .int (iI f11)), (3, .int (iI w10)), (0, .ref b), (1, .int (iI m)), (2, .int (iI k))]) dX12_isFrame_98 rfl (by decide) rfl ?_
        refine tm_goto (tgt := 17) dX12_isFrame_101 (by decide) ?_
        exact tm_sub [0, 2, 3, 4, 5] rfl (ih _ (by omega) (w10) (c + (-1)) (by omega) (by omega) rfl)
set_option maxHeartbeats 4000000 in
set_option maxRecDepth 20000 in
theorem c2_X12_isFrame (d : Nat) {b : Nat} {σ : MS} {m : Int} {k : Int} (hR : RG σ) (hm2 : 0 ≤ m ∧ m ≤ 2) (hmc : 0 ≤ σ.2.1 73 m ∧ σ.2.1 73 m ≤ 9) (hde : ∀ c, 9 * m ≤ c → c < 9 * m + σ.2.1 73 m → DEC σ m c (fn σ m c)) (h_k : -2147483648 ≤ k ∧ k ≤ 2147483647) : Tm (d + 1) m_X12_isFrame 0 b σ [(0, .ref b), (1, .int (iI m)), (2, .int (iI k))] [] (fun ro σ2 => ∃ v : Int, ro = some (.int (iI v)) ∧ ((v = 0 ∨ v = 1)) ∧ (Fr [83, 84] [] [] σ σ2) ∧ (RG σ2) ∧ (v = 1 → 9 * m ≤ σ2.1 83 ∧ σ2.1 83 < 9 * m + σ.2.1 73 m ∧ 0 ≤ σ2.1 84 ∧ σ2.1 84 < fn σ m (σ2.1 83)) ∧ (v = 1 → k ≤ 117) ∧ (v = 0 → σ2 = σ)) := by
  refine tm_iload_n dX12_isFrame_0 rfl 2 rfl ?_
  refine tm_istore_n (L' := [(3, .int (iI k)), (0, .ref b), (1, .int (iI m)), (2, .int (iI k))]) dX12_isFrame_1 rfl (by decide) rfl ?_
  refine tm_bipush dX12_isFrame_2 (by decide) ?_
  refine tm_iload_n dX12_isFrame_4 rfl 2 rfl ?_
  refine tm_imul dX12_isFrame_5 ?_
  refine tm_aload_n dX12_isFrame_6 rfl 1 rfl ?_
  refine tm_get (k := 73) (v := .ref (b + 1 + 44)) lay_12 dX12_isFrame_7 (by decide) fl12_152 rfl ?_
  refine tm_iload_n dX12_isFrame_10 rfl 2 rfl ?_
  refine tm_iald (z := m) (v := σ.2.1 73 m) dX12_isFrame_11 (show mT[44]? = some (73, 0, 3) from rfl) (by omega) (by omega) (by decide) (rfl) ?_
  have g1 := RG.a hR 73 (m)
  refine tm_iadd dX12_isFrame_12 ?_
  refine tm_iconst dX12_isFrame_13 ?_
  refine tm_isub dX12_isFrame_14 ?_
  refine tm_istore (L' := [(4, .int (iI (((9 * m) + (σ.2.1 73 m)) - 1))), (3, .int (iI k)), (0, .ref b), (1, .int (iI m)), (2, .int (iI k))]) dX12_isFrame_15 (by decide) rfl ?_
  refine tm_sub [0, 1, 2, 3, 4] rfl (l_isFr1b (d) (σ := σ) (m := m) (k := k) hR hm2 hmc hde (fun w6 c7 => ?_) (fun c f a e g i kk => ⟨_, rfl, by omega, (Fr.rfl.S (by decide)).S (by decide), (hR.S (by omega)).S (by have := (hde c a e).2.1; omega), fun _ => ⟨a, e, g, i⟩, fun _ => kk, fun q => absurd q (by decide)⟩) _ (k) (((9 * m) + (σ.2.1 73 m)) - 1) (by omega) (by omega) rfl)
  show Tm _ _ 104 b σ [(4, .int (iI c7)), (3, .int (iI w6)), (0, .ref b), (1, .int (iI m)), (2, .int (iI k))] [] _
  refine tm_iconst dX12_isFrame_104 ?_
  exact tm_zret (v := 0) rfl (by decide) dX12_isFrame_105 (⟨_, rfl, by omega, Fr.rfl, hR, fun q => absurd q (by decide), fun q => absurd q (by decide), fun _ => rfl⟩)
set_option maxHeartbeats 4000000 in
set_option maxRecDepth 20000 in
theorem c2_X12_startMachine (d : Nat) {b : Nat} {σ : MS} {m : Int} {x : Int} {a1 : Int} {a2 : Int} {a3 : Int} {a4 : Int} (hm2 : 0 ≤ m ∧ m ≤ 2) (hx : 0 ≤ x ∧ x < 6) (hR : RG σ) (hpm : 0 ≤ σ.2.1 11 x ∧ σ.2.1 11 x ≤ 4) (hnm : ∀ n, 0 ≤ n → n < σ.2.1 11 x → 0 ≤ σ.2.1 18 (144 * x + n) ∧ σ.2.1 18 (144 * x + n) < 192) (h_a1 : -2147483648 ≤ a1 ∧ a1 ≤ 2147483647) (h_a2 : -2147483648 ≤ a2 ∧ a2 ≤ 2147483647) (h_a3 : -2147483648 ≤ a3 ∧ a3 ≤ 2147483647) (h_a4 : -2147483648 ≤ a4 ∧ a4 ≤ 2147483647) : Tm (d + 2) m_X12_startMachine 0 b σ [(0, .ref b), (1, .int (iI m)), (2, .int (iI x)), (3, .int (iI a1)), (4, .int (iI a2)), (5, .int (iI a3)), (6, .int (iI a4))] [] (fun ro σ2 => ro = none ∧ (Fr [] [73, 74, 75, 76, 78, 79, 80, 81, 82] [] σ σ2) ∧ (RG σ2) ∧ (σ2.2.1 73 m = 1) ∧ (σ2.2.1 78 (9 * m) = x ∧ σ2.2.1 79 (9 * m) = 0 ∧ σ2.2.1 80 (9 * m) = 0) ∧ (∀ j, j ≠ m → X0 j σ σ2) ∧ (σ2.2.1 76 m = 0)) := by
  refine tm_aload_n dX12_startMachine_0 rfl 0 rfl ?_
  refine tm_get (k := 73) (v := .ref (b + 1 + 44)) lay_12 dX12_startMachine_1 (by decide) fl12_152 rfl ?_
  refine tm_iload_n dX12_startMachine_4 rfl 1 rfl ?_
  refine tm_iconst dX12_startMachine_5 ?_
  refine tm_iast (z := m) (v := 0) dX12_startMachine_6 (show mT[44]? = some (73, 0, 3) from rfl) (by omega) (by omega) (by decide) ?_
  refine tm_aload_n dX12_startMachine_7 rfl 0 rfl ?_
  refine tm_get (k := 74) (v := .ref (b + 1 + 45)) lay_12 dX12_startMachine_8 (by decide) fl12_155 rfl ?_
  refine tm_iload_n dX12_startMachine_11 rfl 1 rfl ?_
  refine tm_iconst dX12_startMachine_12 ?_
  refine tm_iast (z := m) (v := 0) dX12_startMachine_13 (show mT[45]? = some (74, 0, 3) from rfl) (by omega) (by omega) (by decide) ?_
  refine tm_aload_n dX12_startMachine_14 rfl 0 rfl ?_
  refine tm_get (k := 75) (v := .ref (b + 1 + 46)) lay_12 dX12_startMachine_15 (by decide) fl12_158 rfl ?_
  refine tm_iload_n dX12_startMachine_18 rfl 1 rfl ?_
  refine tm_iconst dX12_startMachine_19 ?_
  refine tm_iast (z := m) (v := 0) dX12_startMachine_20 (show mT[46]? = some (75, 0, 3) from rfl) (by omega) (by omega) (by decide) ?_
  refine tm_aload_n dX12_startMachine_21 rfl 0 rfl ?_
  refine tm_get (k := 76) (v := .ref (b + 1 + 47)) lay_12 dX12_startMachine_22 (by decide) fl12_161 rfl ?_
  refine tm_iload_n dX12_startMachine_25 rfl 1 rfl ?_
  refine tm_iconst dX12_startMachine_26 ?_
  refine tm_iast (z := m) (v := 0) dX12_startMachine_27 (show mT[47]? = some (76, 0, 3) from rfl) (by omega) (by omega) (by decide) ?_
  have z73 : (sA 76 (m) (0) (sA 75 (m) (0) (sA 74 (m) (0) (sA 73 (m) (0) σ)))).2.1 73 m = 0 := ra_o (by decide) (ra_o (by decide) (ra_o (by decide) ra_eq))
  refine tm_aload_n dX12_startMachine_28 rfl 0 rfl ?_
  refine tm_iload_n dX12_startMachine_29 rfl 1 rfl ?_
  refine tm_iload_n dX12_startMachine_30 rfl 2 rfl ?_
  refine tm_callV (M := m_X12_startMachine) (pc := 31) (ix := 536) (M' := m_X12_enterCall) (As := [.int (iI m), .int (iI x)]) (rest := []) dX12_startMachine_31 ok_X12_enterCall im_X12_enterCall se_X12_enterCall ml12_536 np_X12_enterCall rfl rfl (Nat.le_of_ble_eq_true rfl) (Nat.le_of_ble_eq_true rfl) rfl (c_X12_enterCall (d) (σ := (sA 76 (m) (0) (sA 75 (m) (0) (sA 74 (m) (0) (sA 73 (m) (0) σ))))) (m := m) (r := x) ((((hR.A (by omega)).A (by omega)).A (by omega)).A (by omega)) hm2 (by rw [z73]; decide) (by omega)) (fun r1 σ2 hp => ?_)
  obtain ⟨rfl, f4, f5, f6, f7, f8, f9⟩ := hp
  show Tm _ _ 34 b σ2 [(0, .ref b), (1, .int (iI m)), (2, .int (iI x)), (3, .int (iI a1)), (4, .int (iI a2)), (5, .int (iI a3)), (6, .int (iI a4))] [] _
  have hE2 := f6
  have hE3 := f7
  have hE4 := f8
  have hE5 := f9
  refine tm_iconst dX12_startMachine_34 ?_
  refine tm_istore (L' := [(7, .int (iI 0)), (0, .ref b), (1, .int (iI m)), (2, .int (iI x)), (3, .int (iI a1)), (4, .int (iI a2)), (5, .int (iI a3)), (6, .int (iI a4))]) dX12_startMachine_35 (by decide) rfl ?_
  refine tm_sub [0, 1, 2, 3, 4, 5, 6, 7] rfl (l_startM (d) (σ0 := σ2) (m := m) (x := x) (a1 := a1) (a2 := a2) (a3 := a3) (a4 := a4) hm2 hx f5 (by rw [((show Fr [] [73, 74, 75, 76, 78, 79, 80, 81, 82] [] σ σ2 from (((((Fr.rfl.A (by decide)).A (by decide)).A (by decide)).A (by decide)).trans (Fr.sub f4 (by decide) (by decide) (by decide))))).2.1 11 (by decide)]; exact hpm) (by rw [((show Fr [] [73, 74, 75, 76, 78, 79, 80, 81, 82] [] σ σ2 from (((((Fr.rfl.A (by decide)).A (by decide)).A (by decide)).A (by decide)).trans (Fr.sub f4 (by decide) (by decide) (by decide))))).2.1 11 (by decide), ((show Fr [] [73, 74, 75, 76, 78, 79, 80, 81, 82] [] σ σ2 from (((((Fr.rfl.A (by decide)).A (by decide)).A (by decide)).A (by decide)).trans (Fr.sub f4 (by decide) (by decide) (by decide))))).2.1 18 (by decide)]; exact hnm) (by omega) (by omega) (by omega) (by omega) (fun n114 σ15 F12 R13 => ?_) _ (0) σ2 Fr.rfl f5 (by omega) rfl)
  show Tm _ _ 106 b σ15 [(7, .int (iI n114)), (0, .ref b), (1, .int (iI m)), (2, .int (iI x)), (3, .int (iI a1)), (4, .int (iI a2)), (5, .int (iI a3)), (6, .int (iI a4))] [] _
  exact tm_vret rfl dX12_startMachine_106 (⟨rfl, ((((((Fr.rfl.A (by decide)).A (by decide)).A (by decide)).A (by decide)).trans (Fr.sub f4 (by decide) (by decide) (by decide))).trans (Fr.sub F12 (by decide) (by decide) (by decide))), R13, ra_F F12 (by decide) (hE2.trans (by rw [z73]; rfl)), by rw [z73] at hE3; rw [show 9 * m + 0 = 9 * m by omega] at hE3; exact ⟨ra_F F12 (by decide) hE3.1, ra_F F12 (by decide) hE3.2.1, ra_F F12 (by decide) hE3.2.2⟩, fun j hj => ⟨⟨ra_F F12 (by decide) ((hE4 j hj).trans (ra_o (by decide) (ra_o (by decide) (ra_o (by decide) (ra_ne hj rfl))))), ra_F F12 (by decide) (ra_F f4 (by decide) (ra_ne hj rfl))⟩, fun z a e => by rw [z73] at hE5; have q := hE5 z (by omega); exact ⟨ra_F F12 (by decide) (q.1.trans rfl), ra_F F12 (by decide) (q.2.1.trans rfl), ra_F F12 (by decide) (q.2.2.trans rfl)⟩⟩, ra_F F12 (by decide) (ra_F f4 (by decide) (ra_eq))⟩)
end
section
theorem dX12_areAlike_140 : decode cX12_areAlike 140 = .ok (.iload 8, 2) := by decide +kernel
theorem dX12_areAlike_142 : decode cX12_areAlike 142 = .ok (.aload_n 0, 1) := by decide +kernel
theorem dX12_areAlike_143 : decode cX12_areAlike 143 = .ok (.getfield 38, 3) := by decide +kernel
theorem dX12_areAlike_146 : decode cX12_areAlike 146 = .ok (.iload_n 3, 1) := by decide +kernel
theorem dX12_areAlike_147 : decode cX12_areAlike 147 = .ok (.iaload, 1) := by decide +kernel
theorem dX12_areAlike_148 : decode cX12_areAlike 148 = .ok (.if_icmp .ge 93, 3) := by decide +kernel
theorem dX12_areAlike_151 : decode cX12_areAlike 151 = .ok (.iload_n 1, 1) := by decide +kernel
theorem dX12_areAlike_152 : decode cX12_areAlike 152 = .ok (.ifCond .eq 89, 3) := by decide +kernel
theorem dX12_areAlike_155 : decode cX12_areAlike 155 = .ok (.aload_n 0, 1) := by decide +kernel
theorem dX12_areAlike_156 : decode cX12_areAlike 156 = .ok (.iload 8, 2) := by decide +kernel
theorem dX12_areAlike_158 : decode cX12_areAlike 158 = .ok (.invokevirtual 587, 3) := by decide +kernel
theorem dX12_areAlike_161 : decode cX12_areAlike 161 = .ok (.istore 9, 2) := by decide +kernel
theorem dX12_areAlike_163 : decode cX12_areAlike 163 = .ok (.aload_n 0, 1) := by decide +kernel
theorem dX12_areAlike_164 : decode cX12_areAlike 164 = .ok (.getfield 99, 3) := by decide +kernel
theorem dX12_areAlike_167 : decode cX12_areAlike 167 = .ok (.iload 9, 2) := by decide +kernel
theorem dX12_areAlike_169 : decode cX12_areAlike 169 = .ok (.iaload, 1) := by decide +kernel
theorem dX12_areAlike_170 : decode cX12_areAlike 170 = .ok (.bipush 10, 2) := by decide +kernel
theorem dX12_areAlike_172 : decode cX12_areAlike 172 = .ok (.if_icmp .ge 7, 3) := by decide +kernel
theorem dX12_areAlike_179 : decode cX12_areAlike 179 = .ok (.iconst 0, 1) := by decide +kernel
theorem dX12_areAlike_180 : decode cX12_areAlike 180 = .ok (.istore 10, 2) := by decide +kernel
theorem dX12_areAlike_182 : decode cX12_areAlike 182 = .ok (.aload_n 0, 1) := by decide +kernel
theorem dX12_areAlike_183 : decode cX12_areAlike 183 = .ok (.getfield 182, 3) := by decide +kernel
theorem dX12_areAlike_186 : decode cX12_areAlike 186 = .ok (.iload 10, 2) := by decide +kernel
theorem dX12_areAlike_188 : decode cX12_areAlike 188 = .ok (.ifCond .eq 7, 3) := by decide +kernel
theorem dX12_areAlike_195 : decode cX12_areAlike 195 = .ok (.iconst 1, 1) := by decide +kernel
theorem dX12_areAlike_196 : decode cX12_areAlike 196 = .ok (.dup2, 1) := by decide +kernel
theorem dX12_areAlike_197 : decode cX12_areAlike 197 = .ok (.iaload, 1) := by decide +kernel
theorem dX12_areAlike_198 : decode cX12_areAlike 198 = .ok (.iconst 1, 1) := by decide +kernel
theorem dX12_areAlike_199 : decode cX12_areAlike 199 = .ok (.iadd, 1) := by decide +kernel
theorem dX12_areAlike_200 : decode cX12_areAlike 200 = .ok (.iastore, 1) := by decide +kernel
theorem dX12_areAlike_201 : decode cX12_areAlike 201 = .ok (.iload 10, 2) := by decide +kernel
theorem dX12_areAlike_203 : decode cX12_areAlike 203 = .ok (.ifCond .eq 26, 3) := by decide +kernel
theorem dX12_areAlike_229 : decode cX12_areAlike 229 = .ok (.iconst 1, 1) := by decide +kernel
theorem dX12_areAlike_230 : decode cX12_areAlike 230 = .ok (.goto 4, 3) := by decide +kernel
theorem dX12_areAlike_234 : decode cX12_areAlike 234 = .ok (.istore_n 1, 1) := by decide +kernel
theorem dX12_areAlike_235 : decode cX12_areAlike 235 = .ok (.iinc 8 1, 3) := by decide +kernel
theorem dX12_areAlike_238 : decode cX12_areAlike 238 = .ok (.goto (-98), 3) := by decide +kernel
theorem dX12_areAlike_175 : decode cX12_areAlike 175 = .ok (.iconst 1, 1) := by decide +kernel
theorem dX12_areAlike_176 : decode cX12_areAlike 176 = .ok (.goto 4, 3) := by decide +kernel
theorem dX12_areAlike_191 : decode cX12_areAlike 191 = .ok (.iconst 0, 1) := by decide +kernel
theorem dX12_areAlike_192 : decode cX12_areAlike 192 = .ok (.goto 4, 3) := by decide +kernel
theorem dX12_areAlike_206 : decode cX12_areAlike 206 = .ok (.aload_n 0, 1) := by decide +kernel
theorem dX12_areAlike_207 : decode cX12_areAlike 207 = .ok (.iload 9, 2) := by decide +kernel
theorem dX12_areAlike_209 : decode cX12_areAlike 209 = .ok (.invokevirtual 590, 3) := by decide +kernel
theorem dX12_areAlike_212 : decode cX12_areAlike 212 = .ok (.aload_n 0, 1) := by decide +kernel
theorem dX12_areAlike_213 : decode cX12_areAlike 213 = .ok (.getfield 179, 3) := by decide +kernel
theorem dX12_areAlike_216 : decode cX12_areAlike 216 = .ok (.sipush 192, 3) := by decide +kernel
theorem dX12_areAlike_219 : decode cX12_areAlike 219 = .ok (.iload 7, 2) := by decide +kernel
theorem dX12_areAlike_221 : decode cX12_areAlike 221 = .ok (.imul, 1) := by decide +kernel
theorem dX12_areAlike_222 : decode cX12_areAlike 222 = .ok (.iload 8, 2) := by decide +kernel
theorem dX12_areAlike_224 : decode cX12_areAlike 224 = .ok (.iadd, 1) := by decide +kernel
theorem dX12_areAlike_225 : decode cX12_areAlike 225 = .ok (.iaload, 1) := by decide +kernel
theorem dX12_areAlike_226 : decode cX12_areAlike 226 = .ok (.if_icmp .ne 7, 3) := by decide +kernel
theorem dX12_areAlike_233 : decode cX12_areAlike 233 = .ok (.iconst 0, 1) := by decide +kernel
set_option maxHeartbeats 4000000 in
set_option maxRecDepth 20000 in
theorem l_areA2 (d : Nat) {b : Nat} {σ0 : MS} {k : Int} {r3 : Int} {x4 : Int} {c5 : Int} {f6 : Int} {c7 : Int} {post : Option Value → MS → Prop} (hR0 : RG σ0) (hit : ITM σ0) (hpar : PAR σ0) (hnam : NAM σ0) (hgd : GDA σ0) (hgg : (0 ≤ σ0.1 83 ∧ σ0.1 83 < 27) ∧ (0 ≤ σ0.2.1 78 (σ0.1 83) ∧ σ0.2.1 78 (σ0.1 83) < σ0.1 10) ∧ (0 ≤ σ0.2.1 79 (σ0.1 83) ∧ σ0.2.1 79 (σ0.1 83) ≤ 219) ∧ (0 ≤ σ0.1 84 ∧ σ0.1 84 < 12)) (hr3 : 0 ≤ r3 ∧ r3 < 6) (hc7 : 0 ≤ c7 ∧ c7 < 27) (hC : (0 ≤ σ0.2.1 86 0 ∧ σ0.2.1 86 0 ≤ 1000000000) ∧ 0 ≤ σ0.2.1 86 1 ∧ σ0.2.1 86 1 ≤ 1000000000) (hx_241 : ∀ (n8 : Int) (a : Int) (σ : MS) , (Fr [] [46, 47, 48, 49, 50, 51, 52, 53, 54, 55, 56, 57, 58, 86] [] σ0 σ) → (RG σ) → (a = 0 ∨ a = 1) → (LAB σ) → (BO 47 σ) → (BO 48 σ) → (SSA σ) → (SCA σ) → ((σ0.2.1 86 0 ≤ σ.2.1 86 0 ∧ σ.2.1 86 0 ≤ σ0.2.1 86 0 + 12) ∧ σ0.2.1 86 1 ≤ σ.2.1 86 1 ∧ σ.2.1 86 1 ≤ σ0.2.1 86 1 + 12) → Tm (d + 8) m_X12_areAlike 241 b σ [(1, .int (iI a)), (2, .int (iI k)), (0, .ref b)] [] post) : ∀ (n : Nat) (n8 : Int) (a : Int) (σ : MS) , (Fr [] [46, 47, 48, 49, 50, 51, 52, 53, 54, 55, 56, 57, 58, 86] [] σ0 σ) → (RG σ) → (0 ≤ n8 ∧ n8 ≤ 12 ∧ (a = 0 ∨ a = 1)) → (LAB σ) → (BO 47 σ) → (BO 48 σ) → (SSA σ) → (SCA σ) → ((σ0.2.1 86 0 ≤ σ.2.1 86 0 ∧ σ.2.1 86 0 ≤ σ0.2.1 86 0 + n8) ∧ σ0.2.1 86 1 ≤ σ.2.1 86 1 ∧ σ.2.1 86 1 ≤ σ0.2.1 86 1 + n8) → (12 - n8).toNat = n → Tm (d + 8) m_X12_areAlike 140 b σ [(8, .int (iI n8)), (7, .int (iI c7)), (6, .int (iI f6)), (5, .int (iI c5)), (4, .int (iI x4)), (3, .int (iI r3)), (1, .int (iI a)), (2, .int (iI k)), (0, .ref b)] [] post := by
  intro n
  induction n using Nat.strongRecOn with
  | _ n ih =>
    intro n8 a σ hF hR h0 hl hbo hbh hss hsc hcb hm
    have hnm := hnam r3 (by omega) (by omega)
    have hg1 := hgg
    rw [← hF.2.1 78 (by decide), ← hF.1 83 (by decide), ← hF.1 84 (by decide), ← hF.2.1 79 (by decide), ← hF.1 10 (by decide)] at hg1
    have hg1c := hg1.1
    refine tm_iload dX12_areAlike_140 0 rfl ?_
    refine tm_aload_n dX12_areAlike_142 rfl 8 rfl ?_
    refine tm_get (k := 12) (v := .ref (b + 1 + 9)) lay_12 dX12_areAlike_143 (by decide) fl12_38 rfl ?_
    refine tm_iload_n dX12_areAlike_146 rfl 5 rfl ?_
    refine tm_iald (z := r3) (v := σ0.2.1 12 r3) dX12_areAlike_147 (show mT[9]? = some (12, 0, 6) from rfl) (by omega) (by omega) (by decide) (ra_F hF (by decide) (rfl)) ?_
    have g1 := RG.a hR0 12 (r3)
    refine tm_icmp_ge (tgt := 241) dX12_areAlike_148 (by decide) ⟨by omega, by omega⟩ ⟨by omega, by omega⟩ (fun h2 => ?_) (fun h2 => ?_)
    · exact tm_sub [6, 7, 8] rfl (hx_241 (0) (a) σ (Fr.rfl.trans (Fr.sub hF (by decide) (by decide) (by decide))) hR (by omega) hl hbo hbh hss hsc (by omega))
    · refine tm_iload_n dX12_areAlike_151 rfl 6 rfl ?_
      refine tm_if_eq (tgt := 241) dX12_areAlike_152 (by decide) ⟨by omega, by omega⟩ (fun h3 => ?_) (fun h3 => ?_)
      · exact tm_sub [6, 7, 8] rfl (hx_241 (0) (a) σ (Fr.rfl.trans (Fr.sub hF (by decide) (by decide) (by decide))) hR (by omega) hl hbo hbh hss hsc (by omega))
      · refine tm_aload_n dX12_areAlike_155 rfl 8 rfl ?_
        refine tm_iload dX12_areAlike_156 0 rfl ?_
        refine tm_callV (M := m_X12_areAlike) (pc := 158) (ix := 587) (M' := m_X12_stateAt) (As := [.int (iI n8)]) (rest := []) dX12_areAlike_158 ok_X12_stateAt im_X12_stateAt se_X12_stateAt ml12_587 np_X12_stateAt rfl rfl (Nat.le_of_ble_eq_true rfl) (Nat.le_of_ble_eq_true rfl) rfl (c_X12_stateAt (d + 1) (σ := σ) (n := n8) hR (hit.fr hF (by decide)) (hpar.fr hF (by decide)) (hnam.fr hF (by decide)) (hgd.fr hF (by decide) (by decide)).rtn hl hbo hbh hss hsc hg1 (by omega)) (fun r4 σ5 hp => ?_)
        obtain ⟨v6, rfl, f7, f8, f9, f10, f11, f12, f13, f14⟩ := hp
        show Tm _ _ 161 b σ5 [(8, .int (iI n8)), (7, .int (iI c7)), (6, .int (iI f6)), (5, .int (iI c5)), (4, .int (iI x4)), (3, .int (iI r3)), (1, .int (iI a)), (2, .int (iI k)), (0, .ref b)] [.int (iI v6)] _
        have k2 := f9
        have k3 := f10
        have k4 := f11
        have k5 := f12
        have k6 := f13
        refine tm_istore (L' := [(9, .int (iI v6)), (8, .int (iI n8)), (7, .int (iI c7)), (6, .int (iI f6)), (5, .int (iI c5)), (4, .int (iI x4)), (3, .int (iI r3)), (1, .int (iI a)), (2, .int (iI k)), (0, .ref b)]) dX12_areAlike_161 (by decide) rfl ?_
        refine tm_aload_n dX12_areAlike_163 rfl 9 rfl ?_
        refine tm_get (k := 49) (v := .ref (b + 1 + 27)) lay_12 dX12_areAlike_164 (by decide) fl12_99 rfl ?_
        refine tm_iload dX12_areAlike_167 0 rfl ?_
        refine tm_iald (z := v6) (v := σ5.2.1 49 v6) dX12_areAlike_169 (show mT[27]? = some (49, 0, 190944) from rfl) (by omega) (by omega) (by decide) (rfl) ?_
        have g15 := RG.a f8 49 (v6)
        refine tm_bipush dX12_areAlike_170 (by decide) ?_
        refine tm_icmp_ge (tgt := 179) dX12_areAlike_172 (by decide) ⟨by omega, by omega⟩ ⟨by decide, by decide⟩ (fun h16 => ?_) (fun h16 => ?_)
        · refine tm_iconst dX12_areAlike_179 ?_
          refine tm_istore (L' := [(10, .int (iI 0)), (9, .int (iI v6)), (8, .int (iI n8)), (7, .int (iI c7)), (6, .int (iI f6)), (5, .int (iI c5)), (4, .int (iI x4)), (3, .int (iI r3)), (1, .int (iI a)), (2, .int (iI k)), (0, .ref b)]) dX12_areAlike_180 (by decide) rfl ?_
          refine tm_aload_n dX12_areAlike_182 rfl 10 rfl ?_
          refine tm_get (k := 86) (v := .ref (b + 1 + 54)) lay_12 dX12_areAlike_183 (by decide) fl12_182 rfl ?_
          refine tm_iload dX12_areAlike_186 0 rfl ?_
          refine tm_if_eq (tgt := 195) dX12_areAlike_188 (by decide) ⟨by decide, by decide⟩ (fun _ => ?_) (fun h => absurd h (by decide))
          refine tm_iconst dX12_areAlike_195 ?_
          refine tm_dup2 dX12_areAlike_196 rfl rfl ?_
          refine tm_iald (z := 1) (v := σ.2.1 86 1) dX12_areAlike_197 (show mT[54]? = some (86, 0, 3) from rfl) (by omega) (by omega) (by decide) (ra_F f7 (by decide) (rfl)) ?_
          have g18 := RG.a hR 86 (1)
          refine tm_iconst dX12_areAlike_198 ?_
          refine tm_iadd dX12_areAlike_199 ?_
          refine tm_iast (z := 1) (v := (σ.2.1 86 1) + 1) dX12_areAlike_200 (show mT[54]? = some (86, 0, 3) from rfl) (by omega) (by omega) (by decide) ?_
          refine tm_iload dX12_areAlike_201 0 rfl ?_
          refine tm_if_eq (tgt := 229) dX12_areAlike_203 (by decide) ⟨by decide, by decide⟩ (fun _ => ?_) (fun h => absurd h (by decide))
          refine tm_iconst dX12_areAlike_229 ?_
          refine tm_goto (tgt := 234) dX12_areAlike_230 (by decide) ?_
          refine tm_istore_n (L' := [(1, .int (iI 1)), (10, .int (iI 0)), (9, .int (iI v6)), (8, .int (iI n8)), (7, .int (iI c7)), (6, .int (iI f6)), (5, .int (iI c5)), (4, .int (iI x4)), (3, .int (iI r3)), (2, .int (iI k)), (0, .ref b)]) dX12_areAlike_234 rfl (by decide) rfl ?_
          refine tm_iinc (q0 := 3) (L' := [(8, .int (iI (n8 + 1))), (1, .int (iI 1)), (10, .int (iI 0)), (9, .int (iI v6)), (7, .int (iI c7)), (6, .int (iI f6)), (5, .int (iI c5)), (4, .int (iI x4)), (3, .int (iI r3)), (2, .int (iI k)), (0, .ref b)]) dX12_areAlike_235 rfl (by decide) rfl ?_
          refine tm_goto (tgt := 140) dX12_areAlike_238 (by decide) ?_
          exact tm_sub [0, 4, 5, 6, 7, 8, 1, 9, 10] rfl (ih _ (by omega) (n8 + 1) (1) (sA 86 (1) ((σ.2.1 86 1) + 1) σ5) (((Fr.rfl.trans (Fr.sub hF (by decide) (by decide) (by decide))).trans (Fr.sub f7 (by decide) (by decide) (by decide))).A (by decide)) (f8.A (by omega)) (by omega) (k2.fr (show Fr [] [86] [] σ5 (sA 86 (1) ((σ.2.1 86 1) + 1) σ5) from (Fr.rfl.A (by decide))) (by decide)) (k3.fr (show Fr [] [86] [] σ5 (sA 86 (1) ((σ.2.1 86 1) + 1) σ5) from (Fr.rfl.A (by decide))) (by decide)) (k4.fr (show Fr [] [86] [] σ5 (sA 86 (1) ((σ.2.1 86 1) + 1) σ5) from (Fr.rfl.A (by decide))) (by decide)) (k5.fr (show Fr [] [86] [] σ5 (sA 86 (1) ((σ.2.1 86 1) + 1) σ5) from (Fr.rfl.A (by decide))) (by decide)) (k6.fr (show Fr [] [86] [] σ5 (sA 86 (1) ((σ.2.1 86 1) + 1) σ5) from (Fr.rfl.A (by decide))) (by decide)) (by rw [(show (sA 86 (1) ((σ.2.1 86 1) + 1) σ5).2.1 86 0 = σ.2.1 86 0 from ra_ne (by omega) (ra_F f7 (by decide) (rfl))), (show (sA 86 (1) ((σ.2.1 86 1) + 1) σ5).2.1 86 1 = (σ.2.1 86 1) + 1 from ra_eq)]; omega) rfl)
        · refine tm_iconst dX12_areAlike_175 ?_
          refine tm_goto (tgt := 180) dX12_areAlike_176 (by decide) ?_
          refine tm_istore (L' := [(10, .int (iI 1)), (9, .int (iI v6)), (8, .int (iI n8)), (7, .int (iI c7)), (6, .int (iI f6)), (5, .int (iI c5)), (4, .int (iI x4)), (3, .int (iI r3)), (1, .int (iI a)), (2, .int (iI k)), (0, .ref b)]) dX12_areAlike_180 (by decide) rfl ?_
          refine tm_aload_n dX12_areAlike_182 rfl 10 rfl ?_
          refine tm_get (k := 86) (v := .ref (b + 1 + 54)) lay_12 dX12_areAlike_183 (by decide) fl12_182 rfl ?_
          refine tm_iload dX12_areAlike_186 0 rfl ?_
          refine tm_if_eq (tgt := 195) dX12_areAlike_188 (by decide) ⟨by decide, by decide⟩ (fun h => absurd h (by decide)) (fun _ => ?_)
          refine tm_iconst dX12_areAlike_191 ?_
          refine tm_goto (tgt := 196) dX12_areAlike_192 (by decide) ?_
          refine tm_dup2 dX12_areAlike_196 rfl rfl ?_
          refine tm_iald (z := 0) (v := σ.2.1 86 0) dX12_areAlike_197 (show mT[54]? = some (86, 0, 3) from rfl) (by omega) (by omega) (by decide) (ra_F f7 (by decide) (rfl)) ?_
          have g21 := RG.a hR 86 (0)
          refine tm_iconst dX12_areAlike_198 ?_
          refine tm_iadd dX12_areAlike_199 ?_
          refine tm_iast (z := 0) (v := (σ.2.1 86 0) + 1) dX12_areAlike_200 (show mT[54]? = some (86, 0, 3) from rfl) (by omega) (by omega) (by decide) ?_
          refine tm_iload dX12_areAlike_201 0 rfl ?_
          refine tm_if_eq (tgt := 229) dX12_areAlike_203 (by decide) ⟨by decide, by decide⟩ (fun h => absurd h (by decide)) (fun _ => ?_)
          refine tm_aload_n dX12_areAlike_206 rfl 10 rfl ?_
          refine tm_iload dX12_areAlike_207 1 rfl ?_
          refine tm_callV (M := m_X12_areAlike) (pc := 209) (ix := 590) (M' := m_X12_stateWorth) (As := [.int (iI v6)]) (rest := []) dX12_areAlike_209 ok_X12_stateWorth im_X12_stateWorth se_X12_stateWorth ml12_590 np_X12_stateWorth rfl rfl (Nat.le_of_ble_eq_true rfl) (Nat.le_of_ble_eq_true rfl) rfl (c_X12_stateWorth (d + 5) (σ := (sA 86 (0) ((σ.2.1 86 0) + 1) σ5)) (y := v6) (f8.A (by omega)) (by rw [show (sA 86 (0) ((σ.2.1 86 0) + 1) σ5).1 83 = σ.1 83 from rs_A (rs_F f7 (by decide) rfl)]; omega) (by omega) (k5.fr (show Fr [] [86] [] σ5 (sA 86 (0) ((σ.2.1 86 0) + 1) σ5) from (Fr.rfl.A (by decide))) (by decide))) (fun r23 σ24 hp => ?_)
          obtain ⟨v25, rfl, rfl, f26⟩ := hp
          show Tm _ _ 212 b (sA 86 (0) ((σ.2.1 86 0) + 1) σ5) [(10, .int (iI 1)), (9, .int (iI v6)), (8, .int (iI n8)), (7, .int (iI c7)), (6, .int (iI f6)), (5, .int (iI c5)), (4, .int (iI x4)), (3, .int (iI r3)), (1, .int (iI a)), (2, .int (iI k)), (0, .ref b)] [.int (iI v25)] _
          refine tm_aload_n dX12_areAlike_212 rfl 10 rfl ?_
          refine tm_get (k := 82) (v := .ref (b + 1 + 53)) lay_12 dX12_areAlike_213 (by decide) fl12_179 rfl ?_
          refine tm_sipush dX12_areAlike_216 (by decide) ?_
          refine tm_iload dX12_areAlike_219 3 rfl ?_
          refine tm_imul dX12_areAlike_221 ?_
          refine tm_iload dX12_areAlike_222 2 rfl ?_
          refine tm_iadd dX12_areAlike_224 ?_
          refine tm_iald (z := (192 * c7) + n8) (v := σ0.2.1 82 ((192 * c7) + n8)) dX12_areAlike_225 (show mT[53]? = some (82, 0, 5184) from rfl) (by omega) (by omega) (by decide) (ra_o (by decide) (ra_F f7 (by decide) (ra_F hF (by decide) (rfl)))) ?_
          have g27 := RG.a hR0 82 ((192 * c7) + n8)
          refine tm_icmp_ne (tgt := 233) dX12_areAlike_226 (by decide) ⟨by omega, by omega⟩ ⟨by omega, by omega⟩ (fun h28 => ?_) (fun h28 => ?_)
          · refine tm_iconst dX12_areAlike_233 ?_
            refine tm_istore_n (L' := [(1, .int (iI 0)), (10, .int (iI 1)), (9, .int (iI v6)), (8, .int (iI n8)), (7, .int (iI c7)), (6, .int (iI f6)), (5, .int (iI c5)), (4, .int (iI x4)), (3, .int (iI r3)), (2, .int (iI k)), (0, .ref b)]) dX12_areAlike_234 rfl (by decide) rfl ?_
            refine tm_iinc (q0 := 3) (L' := [(8, .int (iI (n8 + 1))), (1, .int (iI 0)), (10, .int (iI 1)), (9, .int (iI v6)), (7, .int (iI c7)), (6, .int (iI f6)), (5, .int (iI c5)), (4, .int (iI x4)), (3, .int (iI r3)), (2, .int (iI k)), (0, .ref b)]) dX12_areAlike_235 rfl (by decide) rfl ?_
            refine tm_goto (tgt := 140) dX12_areAlike_238 (by decide) ?_
            exact tm_sub [0, 4, 5, 6, 7, 8, 1, 9, 10] rfl (ih _ (by omega) (n8 + 1) (0) (sA 86 (0) ((σ.2.1 86 0) + 1) σ5) (((Fr.rfl.trans (Fr.sub hF (by decide) (by decide) (by decide))).trans (Fr.sub f7 (by decide) (by decide) (by decide))).A (by decide)) (f8.A (by omega)) (by omega) (k2.fr (show Fr [] [86] [] σ5 (sA 86 (0) ((σ.2.1 86 0) + 1) σ5) from (Fr.rfl.A (by decide))) (by decide)) (k3.fr (show Fr [] [86] [] σ5 (sA 86 (0) ((σ.2.1 86 0) + 1) σ5) from (Fr.rfl.A (by decide))) (by decide)) (k4.fr (show Fr [] [86] [] σ5 (sA 86 (0) ((σ.2.1 86 0) + 1) σ5) from (Fr.rfl.A (by decide))) (by decide)) (k5.fr (show Fr [] [86] [] σ5 (sA 86 (0) ((σ.2.1 86 0) + 1) σ5) from (Fr.rfl.A (by decide))) (by decide)) (k6.fr (show Fr [] [86] [] σ5 (sA 86 (0) ((σ.2.1 86 0) + 1) σ5) from (Fr.rfl.A (by decide))) (by decide)) (by rw [(show (sA 86 (0) ((σ.2.1 86 0) + 1) σ5).2.1 86 0 = (σ.2.1 86 0) + 1 from ra_eq), (show (sA 86 (0) ((σ.2.1 86 0) + 1) σ5).2.1 86 1 = σ.2.1 86 1 from ra_ne (by omega) (ra_F f7 (by decide) (rfl)))]; omega) rfl)
          · refine tm_iconst dX12_areAlike_229 ?_
            refine tm_goto (tgt := 234) dX12_areAlike_230 (by decide) ?_
            refine tm_istore_n (L' := [(1, .int (iI 1)), (10, .int (iI 1)), (9, .int (iI v6)), (8, .int (iI n8)), (7, .int (iI c7)), (6, .int (iI f6)), (5, .int (iI c5)), (4, .int (iI x4)), (3, .int (iI r3)), (2, .int (iI k)), (0, .ref b)]) dX12_areAlike_234 rfl (by decide) rfl ?_
            refine tm_iinc (q0 := 3) (L' := [(8, .int (iI (n8 + 1))), (1, .int (iI 1)), (10, .int (iI 1)), (9, .int (iI v6)), (7, .int (iI c7)), (6, .int (iI f6)), (5, .int (iI c5)), (4, .int (iI x4)), (3, .int (iI r3)), (2, .int (iI k)), (0, .ref b)]) dX12_areAlike_235 rfl (by decide) rfl ?_
            refine tm_goto (tgt := 140) dX12_areAlike_238 (by decide) ?_
            exact tm_sub [0, 4, 5, 6, 7, 8, 1, 9, 10] rfl (ih _ (by omega) (n8 + 1) (1) (sA 86 (0) ((σ.2.1 86 0) + 1) σ5) (((Fr.rfl.trans (Fr.sub hF (by decide) (by decide) (by decide))).trans (Fr.sub f7 (by decide) (by decide) (by decide))).A (by decide)) (f8.A (by omega)) (by omega) (k2.fr (show Fr [] [86] [] σ5 (sA 86 (0) ((σ.2.1 86 0) + 1) σ5) from (Fr.rfl.A (by decide))) (by decide)) (k3.fr (show Fr [] [86] [] σ5 (sA 86 (0) ((σ.2.1 86 0) + 1) σ5) from (Fr.rfl.A (by decide))) (by decide)) (k4.fr (show Fr [] [86] [] σ5 (sA 86 (0) ((σ.2.1 86 0) + 1) σ5) from (Fr.rfl.A (by decide))) (by decide)) (k5.fr (show Fr [] [86] [] σ5 (sA 86 (0) ((σ.2.1 86 0) + 1) σ5) from (Fr.rfl.A (by decide))) (by decide)) (k6.fr (show Fr [] [86] [] σ5 (sA 86 (0) ((σ.2.1 86 0) + 1) σ5) from (Fr.rfl.A (by decide))) (by decide)) (by rw [(show (sA 86 (0) ((σ.2.1 86 0) + 1) σ5).2.1 86 0 = (σ.2.1 86 0) + 1 from ra_eq), (show (sA 86 (0) ((σ.2.1 86 0) + 1) σ5).2.1 86 1 = σ.2.1 86 1 from ra_ne (by omega) (ra_F f7 (by decide) (rfl)))]; omega) rfl)
end
section
theorem dX12_areAlike_28 : decode cX12_areAlike 28 = .ok (.iload_n 1, 1) := by decide +kernel
theorem dX12_areAlike_29 : decode cX12_areAlike 29 = .ok (.ifCond .eq 218, 3) := by decide +kernel
theorem dX12_areAlike_32 : decode cX12_areAlike 32 = .ok (.aload_n 0, 1) := by decide +kernel
theorem dX12_areAlike_33 : decode cX12_areAlike 33 = .ok (.iconst 1, 1) := by decide +kernel
theorem dX12_areAlike_34 : decode cX12_areAlike 34 = .ok (.iload_n 2, 1) := by decide +kernel
theorem dX12_areAlike_35 : decode cX12_areAlike 35 = .ok (.invokevirtual 578, 3) := by decide +kernel
theorem dX12_areAlike_38 : decode cX12_areAlike 38 = .ok (.ifCond .eq 209, 3) := by decide +kernel
theorem dX12_areAlike_41 : decode cX12_areAlike 41 = .ok (.aload_n 0, 1) := by decide +kernel
theorem dX12_areAlike_42 : decode cX12_areAlike 42 = .ok (.iconst 1, 1) := by decide +kernel
theorem dX12_areAlike_43 : decode cX12_areAlike 43 = .ok (.invokevirtual 584, 3) := by decide +kernel
theorem dX12_areAlike_46 : decode cX12_areAlike 46 = .ok (.istore_n 3, 1) := by decide +kernel
theorem dX12_areAlike_47 : decode cX12_areAlike 47 = .ok (.aload_n 0, 1) := by decide +kernel
theorem dX12_areAlike_48 : decode cX12_areAlike 48 = .ok (.getfield 176, 3) := by decide +kernel
theorem dX12_areAlike_51 : decode cX12_areAlike 51 = .ok (.bipush 12, 2) := by decide +kernel
theorem dX12_areAlike_53 : decode cX12_areAlike 53 = .ok (.aload_n 0, 1) := by decide +kernel
theorem dX12_areAlike_54 : decode cX12_areAlike 54 = .ok (.getfield 572, 3) := by decide +kernel
theorem dX12_areAlike_57 : decode cX12_areAlike 57 = .ok (.imul, 1) := by decide +kernel
theorem dX12_areAlike_58 : decode cX12_areAlike 58 = .ok (.aload_n 0, 1) := by decide +kernel
theorem dX12_areAlike_59 : decode cX12_areAlike 59 = .ok (.getfield 575, 3) := by decide +kernel
theorem dX12_areAlike_62 : decode cX12_areAlike 62 = .ok (.iadd, 1) := by decide +kernel
theorem dX12_areAlike_63 : decode cX12_areAlike 63 = .ok (.iaload, 1) := by decide +kernel
theorem dX12_areAlike_64 : decode cX12_areAlike 64 = .ok (.istore 4, 2) := by decide +kernel
theorem dX12_areAlike_66 : decode cX12_areAlike 66 = .ok (.aload_n 0, 1) := by decide +kernel
theorem dX12_areAlike_67 : decode cX12_areAlike 67 = .ok (.getfield 572, 3) := by decide +kernel
theorem dX12_areAlike_70 : decode cX12_areAlike 70 = .ok (.istore 5, 2) := by decide +kernel
theorem dX12_areAlike_72 : decode cX12_areAlike 72 = .ok (.aload_n 0, 1) := by decide +kernel
theorem dX12_areAlike_73 : decode cX12_areAlike 73 = .ok (.getfield 575, 3) := by decide +kernel
theorem dX12_areAlike_76 : decode cX12_areAlike 76 = .ok (.istore 6, 2) := by decide +kernel
theorem dX12_areAlike_78 : decode cX12_areAlike 78 = .ok (.aload_n 0, 1) := by decide +kernel
theorem dX12_areAlike_79 : decode cX12_areAlike 79 = .ok (.iconst 2, 1) := by decide +kernel
theorem dX12_areAlike_80 : decode cX12_areAlike 80 = .ok (.iload_n 2, 1) := by decide +kernel
theorem dX12_areAlike_81 : decode cX12_areAlike 81 = .ok (.invokevirtual 578, 3) := by decide +kernel
theorem dX12_areAlike_84 : decode cX12_areAlike 84 = .ok (.ifCond .eq 33, 3) := by decide +kernel
theorem dX12_areAlike_117 : decode cX12_areAlike 117 = .ok (.iconst 0, 1) := by decide +kernel
theorem dX12_areAlike_118 : decode cX12_areAlike 118 = .ok (.istore_n 1, 1) := by decide +kernel
theorem dX12_areAlike_119 : decode cX12_areAlike 119 = .ok (.aload_n 0, 1) := by decide +kernel
theorem dX12_areAlike_120 : decode cX12_areAlike 120 = .ok (.getfield 572, 3) := by decide +kernel
theorem dX12_areAlike_123 : decode cX12_areAlike 123 = .ok (.istore 7, 2) := by decide +kernel
theorem dX12_areAlike_125 : decode cX12_areAlike 125 = .ok (.aload_n 0, 1) := by decide +kernel
theorem dX12_areAlike_126 : decode cX12_areAlike 126 = .ok (.iload 5, 2) := by decide +kernel
theorem dX12_areAlike_128 : decode cX12_areAlike 128 = .ok (.putfield 572, 3) := by decide +kernel
theorem dX12_areAlike_131 : decode cX12_areAlike 131 = .ok (.aload_n 0, 1) := by decide +kernel
theorem dX12_areAlike_132 : decode cX12_areAlike 132 = .ok (.iload 6, 2) := by decide +kernel
theorem dX12_areAlike_134 : decode cX12_areAlike 134 = .ok (.putfield 575, 3) := by decide +kernel
theorem dX12_areAlike_137 : decode cX12_areAlike 137 = .ok (.iconst 0, 1) := by decide +kernel
theorem dX12_areAlike_138 : decode cX12_areAlike 138 = .ok (.istore 8, 2) := by decide +kernel
theorem dX12_areAlike_241 : decode cX12_areAlike 241 = .ok (.iinc 2 1, 3) := by decide +kernel
theorem dX12_areAlike_244 : decode cX12_areAlike 244 = .ok (.goto (-216), 3) := by decide +kernel
theorem dX12_areAlike_87 : decode cX12_areAlike 87 = .ok (.aload_n 0, 1) := by decide +kernel
theorem dX12_areAlike_88 : decode cX12_areAlike 88 = .ok (.iconst 2, 1) := by decide +kernel
theorem dX12_areAlike_89 : decode cX12_areAlike 89 = .ok (.invokevirtual 584, 3) := by decide +kernel
theorem dX12_areAlike_92 : decode cX12_areAlike 92 = .ok (.iload_n 3, 1) := by decide +kernel
theorem dX12_areAlike_93 : decode cX12_areAlike 93 = .ok (.if_icmp .ne 24, 3) := by decide +kernel
theorem dX12_areAlike_96 : decode cX12_areAlike 96 = .ok (.aload_n 0, 1) := by decide +kernel
theorem dX12_areAlike_97 : decode cX12_areAlike 97 = .ok (.getfield 176, 3) := by decide +kernel
theorem dX12_areAlike_100 : decode cX12_areAlike 100 = .ok (.bipush 12, 2) := by decide +kernel
theorem dX12_areAlike_102 : decode cX12_areAlike 102 = .ok (.aload_n 0, 1) := by decide +kernel
theorem dX12_areAlike_103 : decode cX12_areAlike 103 = .ok (.getfield 572, 3) := by decide +kernel
theorem dX12_areAlike_106 : decode cX12_areAlike 106 = .ok (.imul, 1) := by decide +kernel
theorem dX12_areAlike_107 : decode cX12_areAlike 107 = .ok (.iaload, 1) := by decide +kernel
theorem dX12_areAlike_108 : decode cX12_areAlike 108 = .ok (.iload 4, 2) := by decide +kernel
theorem dX12_areAlike_110 : decode cX12_areAlike 110 = .ok (.if_icmp .ne 7, 3) := by decide +kernel
theorem dX12_areAlike_113 : decode cX12_areAlike 113 = .ok (.iconst 1, 1) := by decide +kernel
theorem dX12_areAlike_114 : decode cX12_areAlike 114 = .ok (.goto 4, 3) := by decide +kernel
set_option maxHeartbeats 4000000 in
set_option maxRecDepth 20000 in
theorem l_areA1 (d : Nat) {b : Nat} {σ0 : MS} {post : Option Value → MS → Prop} (hR0 : RG σ0) (hit : ITM σ0) (hpar : PAR σ0) (hnam : NAM σ0) (hgd : GDA σ0) (hr1 : RUN σ0 1) (hr2 : RUN σ0 2) (hb2 : BKA σ0 2) (hC : (0 ≤ σ0.2.1 86 0 ∧ σ0.2.1 86 0 ≤ 900000000) ∧ 0 ≤ σ0.2.1 86 1 ∧ σ0.2.1 86 1 ≤ 900000000) (hx_247 : ∀ (a : Int) (k : Int) (σ : MS) , (Fr [83, 84] [46, 47, 48, 49, 50, 51, 52, 53, 54, 55, 56, 57, 58, 86] [] σ0 σ) → (RG σ) → (a = 0 ∨ a = 1) → (LAB σ) → (BO 47 σ) → (BO 48 σ) → (SSA σ) → (SCA σ) → ((σ0.2.1 86 0 ≤ σ.2.1 86 0 ∧ σ.2.1 86 0 ≤ σ0.2.1 86 0 + 1416) ∧ σ0.2.1 86 1 ≤ σ.2.1 86 1 ∧ σ.2.1 86 1 ≤ σ0.2.1 86 1 + 1416) → Tm (d + 8) m_X12_areAlike 247 b σ [(2, .int (iI k)), (1, .int (iI a)), (0, .ref b)] [] post) : ∀ (n : Nat) (a : Int) (k : Int) (σ : MS) , (Fr [83, 84] [46, 47, 48, 49, 50, 51, 52, 53, 54, 55, 56, 57, 58, 86] [] σ0 σ) → (RG σ) → (0 ≤ k ∧ k ≤ 118 ∧ (a = 0 ∨ a = 1)) → (LAB σ) → (BO 47 σ) → (BO 48 σ) → (SSA σ) → (SCA σ) → ((σ0.2.1 86 0 ≤ σ.2.1 86 0 ∧ σ.2.1 86 0 ≤ σ0.2.1 86 0 + 12 * k) ∧ σ0.2.1 86 1 ≤ σ.2.1 86 1 ∧ σ.2.1 86 1 ≤ σ0.2.1 86 1 + 12 * k) → (118 - k).toNat = n → Tm (d + 8) m_X12_areAlike 28 b σ [(2, .int (iI k)), (1, .int (iI a)), (0, .ref b)] [] post := by
  intro n
  induction n using Nat.strongRecOn with
  | _ n ih =>
    intro a k σ hF hR h0 hl hbo hbh hss hsc hcb hm
    refine tm_iload_n dX12_areAlike_28 rfl 1 rfl ?_
    refine tm_if_eq (tgt := 247) dX12_areAlike_29 (by decide) ⟨by omega, by omega⟩ (fun h1 => ?_) (fun h1 => ?_)
    · exact tm_sub [0, 1, 2] rfl (hx_247 (a) (k) σ (Fr.rfl.trans (Fr.sub hF (by decide) (by decide) (by decide))) hR (by omega) hl hbo hbh hss hsc (by omega))
    · have hgd2 := hgd.fr hF (by decide) (by decide)
      have hb1s := hgd2.bka (m := 1) (by decide)
      have hb2s := hb2.fr hF (by decide) (by decide)
      have hr1s := hr1.fr hF (by decide) (by decide)
      have hr2s := hr2.fr hF (by decide) (by decide)
      have hd1 := hr1s.hd hb1s
      refine tm_aload_n dX12_areAlike_32 rfl 2 rfl ?_
      refine tm_iconst dX12_areAlike_33 ?_
      refine tm_iload_n dX12_areAlike_34 rfl 0 rfl ?_
      refine tm_callV (M := m_X12_areAlike) (pc := 35) (ix := 578) (M' := m_X12_isFrame) (As := [.int (iI 1), .int (iI k)]) (rest := []) dX12_areAlike_35 ok_X12_isFrame im_X12_isFrame se_X12_isFrame ml12_578 np_X12_isFrame rfl rfl (Nat.le_of_ble_eq_true rfl) (Nat.le_of_ble_eq_true rfl) rfl (c2_X12_isFrame (d + 6) (σ := σ) (m := 1) (k := k) hR (by decide) hd1.1 hd1.2 (by omega)) (fun r2 σ3 hp => ?_)
      obtain ⟨v4, rfl, f5, f6, f7, f8, f9, f10⟩ := hp
      show Tm _ _ 38 b σ3 [(2, .int (iI k)), (1, .int (iI a)), (0, .ref b)] [.int (iI v4)] _
      refine tm_if_eq (tgt := 247) dX12_areAlike_38 (by decide) ⟨by omega, by omega⟩ (fun h11 => ?_) (fun h11 => ?_)
      · exact tm_sub [0, 1, 2] rfl (hx_247 (a) (k) σ3 ((Fr.rfl.trans (Fr.sub hF (by decide) (by decide) (by decide))).trans (Fr.sub f6 (by decide) (by decide) (by decide))) f7 (by omega) (hl.fr f6 (by decide)) (hbo.fr f6 (by decide)) (hbh.fr f6 (by decide)) (hss.fr f6 (by decide)) (hsc.fr f6 (by decide)) (by rw [f6.2.1 86 (by decide)]; omega))
      · have gt := f8 (by omega)
        have hk117 := f9 (by omega)
        have hpl := hr1s.2.1 (σ3.1 83) (by omega) (by have := gt.2.1; omega)
        have hpl1 := hpl.1
        have hpl2 := hpl.2.1
        have hgr := hgd2.2 _ hpl1.1 hpl1.2
        have hofr := hgr.2.1
        have hfn : fn σ 1 (σ3.1 83) = σ.2.1 14 (σ.2.1 78 (σ3.1 83)) := if_neg (by decide)
        have hfr := hofr.2 (σ3.1 84) (by omega) (by omega)
        have hofr1 := hofr.1
        have h61 := hgd2.1
        have hmc1 := hd1.1
        have hit9 := hgr.1
        have hbk0 : bkm 1 = 0 := if_neg (by decide)
        rw [hbk0, Int.zero_add] at hpl2
        refine tm_aload_n dX12_areAlike_41 rfl 2 rfl ?_
        refine tm_iconst dX12_areAlike_42 ?_
        refine tm_callV (M := m_X12_areAlike) (pc := 43) (ix := 584) (M' := m_X12_routineIn) (As := [.int (iI 1)]) (rest := []) dX12_areAlike_43 ok_X12_routineIn im_X12_routineIn se_X12_routineIn ml12_584 np_X12_routineIn rfl rfl (Nat.le_of_ble_eq_true rfl) (Nat.le_of_ble_eq_true rfl) rfl (c_X12_routineIn (d + 6) (σ := σ3) (m := 1) f7 (by omega) (by intro _; rw [f6.2.1 78 (by decide)]; omega) (by omega)) (fun r12 σ13 hp => ?_)
        obtain ⟨v14, rfl, rfl, f15, f16⟩ := hp
        show Tm _ _ 46 b σ3 [(2, .int (iI k)), (1, .int (iI a)), (0, .ref b)] [.int (iI v14)] _
        have hv3 := f16 (by decide)
        rw [f6.2.1 15 (by decide), f6.2.1 78 (by decide)] at hv3
        have hr3b : 0 ≤ v14 ∧ v14 < 6 := by rw [hv3]; exact hfr.1
        refine tm_istore_n (L' := [(3, .int (iI v14)), (2, .int (iI k)), (1, .int (iI a)), (0, .ref b)]) dX12_areAlike_46 rfl (by decide) rfl ?_
        refine tm_aload_n dX12_areAlike_47 rfl 3 rfl ?_
        refine tm_get (k := 81) (v := .ref (b + 1 + 52)) lay_12 dX12_areAlike_48 (by decide) fl12_176 rfl ?_
        refine tm_bipush dX12_areAlike_51 (by decide) ?_
        refine tm_aload_n dX12_areAlike_53 rfl 3 rfl ?_
        refine tm_getS (k := 83) (t := σ3.1 83) dX12_areAlike_54 (by decide) fl12_572 rfl (rfl) ?_
        have g17 := RG.s f7 83
        refine tm_imul dX12_areAlike_57 ?_
        refine tm_aload_n dX12_areAlike_58 rfl 3 rfl ?_
        refine tm_getS (k := 84) (t := σ3.1 84) dX12_areAlike_59 (by decide) fl12_575 rfl (rfl) ?_
        have g18 := RG.s f7 84
        refine tm_iadd dX12_areAlike_62 ?_
        refine tm_iald (z := (12 * (σ3.1 83)) + (σ3.1 84)) (v := σ0.2.1 81 ((12 * (σ3.1 83)) + (σ3.1 84))) dX12_areAlike_63 (show mT[52]? = some (81, 0, 324) from rfl) (by omega) (by omega) (by decide) (ra_F f6 (by decide) (ra_F hF (by decide) (rfl))) ?_
        have g19 := RG.a hR0 81 ((12 * (σ3.1 83)) + (σ3.1 84))
        refine tm_istore (L' := [(4, .int (iI (σ0.2.1 81 ((12 * (σ3.1 83)) + (σ3.1 84))))), (3, .int (iI v14)), (2, .int (iI k)), (1, .int (iI a)), (0, .ref b)]) dX12_areAlike_64 (by decide) rfl ?_
        refine tm_aload_n dX12_areAlike_66 rfl 4 rfl ?_
        refine tm_getS (k := 83) (t := σ3.1 83) dX12_areAlike_67 (by decide) fl12_572 rfl (rfl) ?_
        have g20 := RG.s f7 83
        refine tm_istore (L' := [(5, .int (iI (σ3.1 83))), (4, .int (iI (σ0.2.1 81 ((12 * (σ3.1 83)) + (σ3.1 84))))), (3, .int (iI v14)), (2, .int (iI k)), (1, .int (iI a)), (0, .ref b)]) dX12_areAlike_70 (by decide) rfl ?_
        refine tm_aload_n dX12_areAlike_72 rfl 5 rfl ?_
        refine tm_getS (k := 84) (t := σ3.1 84) dX12_areAlike_73 (by decide) fl12_575 rfl (rfl) ?_
        have g21 := RG.s f7 84
        refine tm_istore (L' := [(6, .int (iI (σ3.1 84))), (5, .int (iI (σ3.1 83))), (4, .int (iI (σ0.2.1 81 ((12 * (σ3.1 83)) + (σ3.1 84))))), (3, .int (iI v14)), (2, .int (iI k)), (1, .int (iI a)), (0, .ref b)]) dX12_areAlike_76 (by decide) rfl ?_
        have hr2t := hr2s.fr f6 (by decide) (by decide)
        have hb2t := hb2s.fr f6 (by decide) (by decide)
        have hd2 := hr2t.hd hb2t
        have hc5 : σ3.1 83 = σ3.1 83 := rfl
        refine tm_aload_n dX12_areAlike_78 rfl 6 rfl ?_
        refine tm_iconst dX12_areAlike_79 ?_
        refine tm_iload_n dX12_areAlike_80 rfl 4 rfl ?_
        refine tm_callV (M := m_X12_areAlike) (pc := 81) (ix := 578) (M' := m_X12_isFrame) (As := [.int (iI 2), .int (iI k)]) (rest := []) dX12_areAlike_81 ok_X12_isFrame im_X12_isFrame se_X12_isFrame ml12_578 np_X12_isFrame rfl rfl (Nat.le_of_ble_eq_true rfl) (Nat.le_of_ble_eq_true rfl) rfl (c2_X12_isFrame (d + 6) (σ := σ3) (m := 2) (k := k) f7 (by decide) hd2.1 hd2.2 (by omega)) (fun r22 σ23 hp => ?_)
        obtain ⟨v24, rfl, f25, f26, f27, f28, f29, f30⟩ := hp
        show Tm _ _ 84 b σ23 [(6, .int (iI (σ3.1 84))), (5, .int (iI (σ3.1 83))), (4, .int (iI (σ0.2.1 81 ((12 * (σ3.1 83)) + (σ3.1 84))))), (3, .int (iI v14)), (2, .int (iI k)), (1, .int (iI a)), (0, .ref b)] [.int (iI v24)] _
        have gt2 := f28
        have ge2 := f30
        have hmc2 := hd2.1
        have hfn2 : ∀ c, fn σ3 2 c = 1 := fun c => if_pos rfl
        have hc7 : 0 ≤ σ23.1 83 ∧ σ23.1 83 < 27 := by rcases (show v24 = 0 ∨ v24 = 1 from f25) with q | q; rw [ge2 q]; omega; have := gt2 q; omega
        refine tm_if_eq (tgt := 117) dX12_areAlike_84 (by decide) ⟨by omega, by omega⟩ (fun h31 => ?_) (fun h31 => ?_)
        · refine tm_iconst dX12_areAlike_117 ?_
          refine tm_istore_n (L' := [(1, .int (iI 0)), (6, .int (iI (σ3.1 84))), (5, .int (iI (σ3.1 83))), (4, .int (iI (σ0.2.1 81 ((12 * (σ3.1 83)) + (σ3.1 84))))), (3, .int (iI v14)), (2, .int (iI k)), (0, .ref b)]) dX12_areAlike_118 rfl (by decide) rfl ?_
          refine tm_aload_n dX12_areAlike_119 rfl 6 rfl ?_
          refine tm_getS (k := 83) (t := σ23.1 83) dX12_areAlike_120 (by decide) fl12_572 rfl (rfl) ?_
          have g32 := RG.s f27 83
          refine tm_istore (L' := [(7, .int (iI (σ23.1 83))), (1, .int (iI 0)), (6, .int (iI (σ3.1 84))), (5, .int (iI (σ3.1 83))), (4, .int (iI (σ0.2.1 81 ((12 * (σ3.1 83)) + (σ3.1 84))))), (3, .int (iI v14)), (2, .int (iI k)), (0, .ref b)]) dX12_areAlike_123 (by decide) rfl ?_
          refine tm_aload_n dX12_areAlike_125 rfl 7 rfl ?_
          refine tm_iload dX12_areAlike_126 3 rfl ?_
          refine tm_putS (k := 83) (v := σ3.1 83) lay_12 dX12_areAlike_128 (by decide) fl12_572 rfl (tyX12_ok 83 (by decide)) rfl rfl rfl ?_
          refine tm_aload_n dX12_areAlike_131 rfl 7 rfl ?_
          refine tm_iload dX12_areAlike_132 2 rfl ?_
          refine tm_putS (k := 84) (v := σ3.1 84) lay_12 dX12_areAlike_134 (by decide) fl12_575 rfl (tyX12_ok 84 (by decide)) rfl rfl rfl ?_
          refine tm_iconst dX12_areAlike_137 ?_
          refine tm_istore (L' := [(8, .int (iI 0)), (7, .int (iI (σ23.1 83))), (1, .int (iI 0)), (6, .int (iI (σ3.1 84))), (5, .int (iI (σ3.1 83))), (4, .int (iI (σ0.2.1 81 ((12 * (σ3.1 83)) + (σ3.1 84))))), (3, .int (iI v14)), (2, .int (iI k)), (0, .ref b)]) dX12_areAlike_138 (by decide) rfl ?_
          refine tm_sub [0, 1, 3, 4, 5, 6, 2, 7, 8] rfl (l_areA2 (d) (σ0 := (sS 84 (σ3.1 84) (sS 83 (σ3.1 83) σ23))) (k := k) (r3 := v14) (x4 := σ0.2.1 81 ((12 * (σ3.1 83)) + (σ3.1 84))) (c5 := σ3.1 83) (f6 := σ3.1 84) (c7 := σ23.1 83) ((f27.S (by omega)).S (by omega)) (hit.fr (show Fr [83, 84] [46, 47, 48, 49, 50, 51, 52, 53, 54, 55, 56, 57, 58, 86] [] σ0 (sS 84 (σ3.1 84) (sS 83 (σ3.1 83) σ23)) from (((((Fr.rfl.trans (Fr.sub hF (by decide) (by decide) (by decide))).trans (Fr.sub f6 (by decide) (by decide) (by decide))).trans (Fr.sub f26 (by decide) (by decide) (by decide))).S (by decide)).S (by decide))) (by decide)) (hpar.fr (show Fr [83, 84] [46, 47, 48, 49, 50, 51, 52, 53, 54, 55, 56, 57, 58, 86] [] σ0 (sS 84 (σ3.1 84) (sS 83 (σ3.1 83) σ23)) from (((((Fr.rfl.trans (Fr.sub hF (by decide) (by decide) (by decide))).trans (Fr.sub f6 (by decide) (by decide) (by decide))).trans (Fr.sub f26 (by decide) (by decide) (by decide))).S (by decide)).S (by decide))) (by decide)) (hnam.fr (show Fr [83, 84] [46, 47, 48, 49, 50, 51, 52, 53, 54, 55, 56, 57, 58, 86] [] σ0 (sS 84 (σ3.1 84) (sS 83 (σ3.1 83) σ23)) from (((((Fr.rfl.trans (Fr.sub hF (by decide) (by decide) (by decide))).trans (Fr.sub f6 (by decide) (by decide) (by decide))).trans (Fr.sub f26 (by decide) (by decide) (by decide))).S (by decide)).S (by decide))) (by decide)) (hgd2.fr (show Fr [83, 84] [] [] σ (sS 84 (σ3.1 84) (sS 83 (σ3.1 83) σ23)) from ((((Fr.rfl.trans (Fr.sub f6 (by decide) (by decide) (by decide))).trans (Fr.sub f26 (by decide) (by decide) (by decide))).S (by decide)).S (by decide))) (by decide) (by decide)) (by rw [show (sS 84 (σ3.1 84) (sS 83 (σ3.1 83) σ23)).1 83 = σ3.1 83 from rs_o (by decide) (rs_eq), show (sS 84 (σ3.1 84) (sS 83 (σ3.1 83) σ23)).1 84 = σ3.1 84 from rs_eq, (show Fr [83, 84] [46, 47, 48, 49, 50, 51, 52, 53, 54, 55, 56, 57, 58, 86] [] σ0 (sS 84 (σ3.1 84) (sS 83 (σ3.1 83) σ23)) from (((((Fr.rfl.trans (Fr.sub hF (by decide) (by decide) (by decide))).trans (Fr.sub f6 (by decide) (by decide) (by decide))).trans (Fr.sub f26 (by decide) (by decide) (by decide))).S (by decide)).S (by decide))).2.1 78 (by decide), (show Fr [83, 84] [46, 47, 48, 49, 50, 51, 52, 53, 54, 55, 56, 57, 58, 86] [] σ0 (sS 84 (σ3.1 84) (sS 83 (σ3.1 83) σ23)) from (((((Fr.rfl.trans (Fr.sub hF (by decide) (by decide) (by decide))).trans (Fr.sub f6 (by decide) (by decide) (by decide))).trans (Fr.sub f26 (by decide) (by decide) (by decide))).S (by decide)).S (by decide))).2.1 79 (by decide), (show Fr [83, 84] [46, 47, 48, 49, 50, 51, 52, 53, 54, 55, 56, 57, 58, 86] [] σ0 (sS 84 (σ3.1 84) (sS 83 (σ3.1 83) σ23)) from (((((Fr.rfl.trans (Fr.sub hF (by decide) (by decide) (by decide))).trans (Fr.sub f6 (by decide) (by decide) (by decide))).trans (Fr.sub f26 (by decide) (by decide) (by decide))).S (by decide)).S (by decide))).1 10 (by decide), ← hF.2.1 78 (by decide), ← hF.2.1 79 (by decide), ← hF.1 10 (by decide)]; omega) hr3b hc7 (by rw [(show Fr [83, 84] [] [] σ (sS 84 (σ3.1 84) (sS 83 (σ3.1 83) σ23)) from ((((Fr.rfl.trans (Fr.sub f6 (by decide) (by decide) (by decide))).trans (Fr.sub f26 (by decide) (by decide) (by decide))).S (by decide)).S (by decide))).2.1 86 (by decide)]; omega) (fun n845 a46 σ47 F36 R37 f38 f39 f40 f41 f42 f43 f44 => ?_) _ (0) (0) (sS 84 (σ3.1 84) (sS 83 (σ3.1 83) σ23)) Fr.rfl ((f27.S (by omega)).S (by omega)) (by omega) (hl.fr (show Fr [83, 84] [] [] σ (sS 84 (σ3.1 84) (sS 83 (σ3.1 83) σ23)) from ((((Fr.rfl.trans (Fr.sub f6 (by decide) (by decide) (by decide))).trans (Fr.sub f26 (by decide) (by decide) (by decide))).S (by decide)).S (by decide))) (by decide)) (hbo.fr (show Fr [83, 84] [] [] σ (sS 84 (σ3.1 84) (sS 83 (σ3.1 83) σ23)) from ((((Fr.rfl.trans (Fr.sub f6 (by decide) (by decide) (by decide))).trans (Fr.sub f26 (by decide) (by decide) (by decide))).S (by decide)).S (by decide))) (by decide)) (hbh.fr (show Fr [83, 84] [] [] σ (sS 84 (σ3.1 84) (sS 83 (σ3.1 83) σ23)) from ((((Fr.rfl.trans (Fr.sub f6 (by decide) (by decide) (by decide))).trans (Fr.sub f26 (by decide) (by decide) (by decide))).S (by decide)).S (by decide))) (by decide)) (hss.fr (show Fr [83, 84] [] [] σ (sS 84 (σ3.1 84) (sS 83 (σ3.1 83) σ23)) from ((((Fr.rfl.trans (Fr.sub f6 (by decide) (by decide) (by decide))).trans (Fr.sub f26 (by decide) (by decide) (by decide))).S (by decide)).S (by decide))) (by decide)) (hsc.fr (show Fr [83, 84] [] [] σ (sS 84 (σ3.1 84) (sS 83 (σ3.1 83) σ23)) from ((((Fr.rfl.trans (Fr.sub f6 (by decide) (by decide) (by decide))).trans (Fr.sub f26 (by decide) (by decide) (by decide))).S (by decide)).S (by decide))) (by decide)) ⟨⟨Int.le_refl _, by omega⟩, Int.le_refl _, by omega⟩ rfl)
          show Tm _ _ 241 b σ47 [(1, .int (iI a46)), (2, .int (iI k)), (0, .ref b)] [] _
          refine tm_iinc (q0 := 1) (L' := [(2, .int (iI (k + 1))), (1, .int (iI a46)), (0, .ref b)]) dX12_areAlike_241 rfl (by decide) rfl ?_
          refine tm_goto (tgt := 28) dX12_areAlike_244 (by decide) ?_
          exact tm_sub [0, 1, 2] rfl (ih _ (by omega) (a46) (k + 1) σ47 ((((((Fr.rfl.trans (Fr.sub hF (by decide) (by decide) (by decide))).trans (Fr.sub f6 (by decide) (by decide) (by decide))).trans (Fr.sub f26 (by decide) (by decide) (by decide))).S (by decide)).S (by decide)).trans (Fr.sub F36 (by decide) (by decide) (by decide))) R37 (by omega) f39 f40 f41 f42 f43 (by have q := f44; rw [(show Fr [83, 84] [] [] σ (sS 84 (σ3.1 84) (sS 83 (σ3.1 83) σ23)) from ((((Fr.rfl.trans (Fr.sub f6 (by decide) (by decide) (by decide))).trans (Fr.sub f26 (by decide) (by decide) (by decide))).S (by decide)).S (by decide))).2.1 86 (by decide)] at q; omega) rfl)
        · refine tm_aload_n dX12_areAlike_87 rfl 6 rfl ?_
          refine tm_iconst dX12_areAlike_88 ?_
          refine tm_callV (M := m_X12_areAlike) (pc := 89) (ix := 584) (M' := m_X12_routineIn) (As := [.int (iI 2)]) (rest := []) dX12_areAlike_89 ok_X12_routineIn im_X12_routineIn se_X12_routineIn ml12_584 np_X12_routineIn rfl rfl (Nat.le_of_ble_eq_true rfl) (Nat.le_of_ble_eq_true rfl) rfl (c_X12_routineIn (d + 6) (σ := σ23) (m := 2) f27 hc7 (fun q => absurd rfl q) (by omega)) (fun r48 σ49 hp => ?_)
          obtain ⟨v50, rfl, rfl, f51, f52⟩ := hp
          show Tm _ _ 92 b σ23 [(6, .int (iI (σ3.1 84))), (5, .int (iI (σ3.1 83))), (4, .int (iI (σ0.2.1 81 ((12 * (σ3.1 83)) + (σ3.1 84))))), (3, .int (iI v14)), (2, .int (iI k)), (1, .int (iI a)), (0, .ref b)] [.int (iI v50)] _
          have hr78 := (f27).a 78 (σ23.1 83)
          refine tm_iload_n dX12_areAlike_92 rfl 3 rfl ?_
          refine tm_icmp_ne (tgt := 117) dX12_areAlike_93 (by decide) ⟨by omega, by omega⟩ ⟨by omega, by omega⟩ (fun h53 => ?_) (fun h53 => ?_)
          · refine tm_iconst dX12_areAlike_117 ?_
            refine tm_istore_n (L' := [(1, .int (iI 0)), (6, .int (iI (σ3.1 84))), (5, .int (iI (σ3.1 83))), (4, .int (iI (σ0.2.1 81 ((12 * (σ3.1 83)) + (σ3.1 84))))), (3, .int (iI v14)), (2, .int (iI k)), (0, .ref b)]) dX12_areAlike_118 rfl (by decide) rfl ?_
            refine tm_aload_n dX12_areAlike_119 rfl 6 rfl ?_
            refine tm_getS (k := 83) (t := σ23.1 83) dX12_areAlike_120 (by decide) fl12_572 rfl (rfl) ?_
            have g54 := RG.s f27 83
            refine tm_istore (L' := [(7, .int (iI (σ23.1 83))), (1, .int (iI 0)), (6, .int (iI (σ3.1 84))), (5, .int (iI (σ3.1 83))), (4, .int (iI (σ0.2.1 81 ((12 * (σ3.1 83)) + (σ3.1 84))))), (3, .int (iI v14)), (2, .int (iI k)), (0, .ref b)]) dX12_areAlike_123 (by decide) rfl ?_
            refine tm_aload_n dX12_areAlike_125 rfl 7 rfl ?_
            refine tm_iload dX12_areAlike_126 3 rfl ?_
            refine tm_putS (k := 83) (v := σ3.1 83) lay_12 dX12_areAlike_128 (by decide) fl12_572 rfl (tyX12_ok 83 (by decide)) rfl rfl rfl ?_
            refine tm_aload_n dX12_areAlike_131 rfl 7 rfl ?_
            refine tm_iload dX12_areAlike_132 2 rfl ?_
            refine tm_putS (k := 84) (v := σ3.1 84) lay_12 dX12_areAlike_134 (by decide) fl12_575 rfl (tyX12_ok 84 (by decide)) rfl rfl rfl ?_
            refine tm_iconst dX12_areAlike_137 ?_
            refine tm_istore (L' := [(8, .int (iI 0)), (7, .int (iI (σ23.1 83))), (1, .int (iI 0)), (6, .int (iI (σ3.1 84))), (5, .int (iI (σ3.1 83))), (4, .int (iI (σ0.2.1 81 ((12 * (σ3.1 83)) + (σ3.1 84))))), (3, .int (iI v14)), (2, .int (iI k)), (0, .ref b)]) dX12_areAlike_138 (by decide) rfl ?_
            refine tm_sub [0, 1, 3, 4, 5, 6, 2, 7, 8] rfl (l_areA2 (d) (σ0 := (sS 84 (σ3.1 84) (sS 83 (σ3.1 83) σ23))) (k := k) (r3 := v14) (x4 := σ0.2.1 81 ((12 * (σ3.1 83)) + (σ3.1 84))) (c5 := σ3.1 83) (f6 := σ3.1 84) (c7 := σ23.1 83) ((f27.S (by omega)).S (by omega)) (hit.fr (show Fr [83, 84] [46, 47, 48, 49, 50, 51, 52, 53, 54, 55, 56, 57, 58, 86] [] σ0 (sS 84 (σ3.1 84) (sS 83 (σ3.1 83) σ23)) from (((((Fr.rfl.trans (Fr.sub hF (by decide) (by decide) (by decide))).trans (Fr.sub f6 (by decide) (by decide) (by decide))).trans (Fr.sub f26 (by decide) (by decide) (by decide))).S (by decide)).S (by decide))) (by decide)) (hpar.fr (show Fr [83, 84] [46, 47, 48, 49, 50, 51, 52, 53, 54, 55, 56, 57, 58, 86] [] σ0 (sS 84 (σ3.1 84) (sS 83 (σ3.1 83) σ23)) from (((((Fr.rfl.trans (Fr.sub hF (by decide) (by decide) (by decide))).trans (Fr.sub f6 (by decide) (by decide) (by decide))).trans (Fr.sub f26 (by decide) (by decide) (by decide))).S (by decide)).S (by decide))) (by decide)) (hnam.fr (show Fr [83, 84] [46, 47, 48, 49, 50, 51, 52, 53, 54, 55, 56, 57, 58, 86] [] σ0 (sS 84 (σ3.1 84) (sS 83 (σ3.1 83) σ23)) from (((((Fr.rfl.trans (Fr.sub hF (by decide) (by decide) (by decide))).trans (Fr.sub f6 (by decide) (by decide) (by decide))).trans (Fr.sub f26 (by decide) (by decide) (by decide))).S (by decide)).S (by decide))) (by decide)) (hgd2.fr (show Fr [83, 84] [] [] σ (sS 84 (σ3.1 84) (sS 83 (σ3.1 83) σ23)) from ((((Fr.rfl.trans (Fr.sub f6 (by decide) (by decide) (by decide))).trans (Fr.sub f26 (by decide) (by decide) (by decide))).S (by decide)).S (by decide))) (by decide) (by decide)) (by rw [show (sS 84 (σ3.1 84) (sS 83 (σ3.1 83) σ23)).1 83 = σ3.1 83 from rs_o (by decide) (rs_eq), show (sS 84 (σ3.1 84) (sS 83 (σ3.1 83) σ23)).1 84 = σ3.1 84 from rs_eq, (show Fr [83, 84] [46, 47, 48, 49, 50, 51, 52, 53, 54, 55, 56, 57, 58, 86] [] σ0 (sS 84 (σ3.1 84) (sS 83 (σ3.1 83) σ23)) from (((((Fr.rfl.trans (Fr.sub hF (by decide) (by decide) (by decide))).trans (Fr.sub f6 (by decide) (by decide) (by decide))).trans (Fr.sub f26 (by decide) (by decide) (by decide))).S (by decide)).S (by decide))).2.1 78 (by decide), (show Fr [83, 84] [46, 47, 48, 49, 50, 51, 52, 53, 54, 55, 56, 57, 58, 86] [] σ0 (sS 84 (σ3.1 84) (sS 83 (σ3.1 83) σ23)) from (((((Fr.rfl.trans (Fr.sub hF (by decide) (by decide) (by decide))).trans (Fr.sub f6 (by decide) (by decide) (by decide))).trans (Fr.sub f26 (by decide) (by decide) (by decide))).S (by decide)).S (by decide))).2.1 79 (by decide), (show Fr [83, 84] [46, 47, 48, 49, 50, 51, 52, 53, 54, 55, 56, 57, 58, 86] [] σ0 (sS 84 (σ3.1 84) (sS 83 (σ3.1 83) σ23)) from (((((Fr.rfl.trans (Fr.sub hF (by decide) (by decide) (by decide))).trans (Fr.sub f6 (by decide) (by decide) (by decide))).trans (Fr.sub f26 (by decide) (by decide) (by decide))).S (by decide)).S (by decide))).1 10 (by decide), ← hF.2.1 78 (by decide), ← hF.2.1 79 (by decide), ← hF.1 10 (by decide)]; omega) hr3b hc7 (by rw [(show Fr [83, 84] [] [] σ (sS 84 (σ3.1 84) (sS 83 (σ3.1 83) σ23)) from ((((Fr.rfl.trans (Fr.sub f6 (by decide) (by decide) (by decide))).trans (Fr.sub f26 (by decide) (by decide) (by decide))).S (by decide)).S (by decide))).2.1 86 (by decide)]; omega) (fun n867 a68 σ69 F58 R59 f60 f61 f62 f63 f64 f65 f66 => ?_) _ (0) (0) (sS 84 (σ3.1 84) (sS 83 (σ3.1 83) σ23)) Fr.rfl ((f27.S (by omega)).S (by omega)) (by omega) (hl.fr (show Fr [83, 84] [] [] σ (sS 84 (σ3.1 84) (sS 83 (σ3.1 83) σ23)) from ((((Fr.rfl.trans (Fr.sub f6 (by decide) (by decide) (by decide))).trans (Fr.sub f26 (by decide) (by decide) (by decide))).S (by decide)).S (by decide))) (by decide)) (hbo.fr (show Fr [83, 84] [] [] σ (sS 84 (σ3.1 84) (sS 83 (σ3.1 83) σ23)) from ((((Fr.rfl.trans (Fr.sub f6 (by decide) (by decide) (by decide))).trans (Fr.sub f26 (by decide) (by decide) (by decide))).S (by decide)).S (by decide))) (by decide)) (hbh.fr (show Fr [83, 84] [] [] σ (sS 84 (σ3.1 84) (sS 83 (σ3.1 83) σ23)) from ((((Fr.rfl.trans (Fr.sub f6 (by decide) (by decide) (by decide))).trans (Fr.sub f26 (by decide) (by decide) (by decide))).S (by decide)).S (by decide))) (by decide)) (hss.fr (show Fr [83, 84] [] [] σ (sS 84 (σ3.1 84) (sS 83 (σ3.1 83) σ23)) from ((((Fr.rfl.trans (Fr.sub f6 (by decide) (by decide) (by decide))).trans (Fr.sub f26 (by decide) (by decide) (by decide))).S (by decide)).S (by decide))) (by decide)) (hsc.fr (show Fr [83, 84] [] [] σ (sS 84 (σ3.1 84) (sS 83 (σ3.1 83) σ23)) from ((((Fr.rfl.trans (Fr.sub f6 (by decide) (by decide) (by decide))).trans (Fr.sub f26 (by decide) (by decide) (by decide))).S (by decide)).S (by decide))) (by decide)) ⟨⟨Int.le_refl _, by omega⟩, Int.le_refl _, by omega⟩ rfl)
            show Tm _ _ 241 b σ69 [(1, .int (iI a68)), (2, .int (iI k)), (0, .ref b)] [] _
            refine tm_iinc (q0 := 1) (L' := [(2, .int (iI (k + 1))), (1, .int (iI a68)), (0, .ref b)]) dX12_areAlike_241 rfl (by decide) rfl ?_
            refine tm_goto (tgt := 28) dX12_areAlike_244 (by decide) ?_
            exact tm_sub [0, 1, 2] rfl (ih _ (by omega) (a68) (k + 1) σ69 ((((((Fr.rfl.trans (Fr.sub hF (by decide) (by decide) (by decide))).trans (Fr.sub f6 (by decide) (by decide) (by decide))).trans (Fr.sub f26 (by decide) (by decide) (by decide))).S (by decide)).S (by decide)).trans (Fr.sub F58 (by decide) (by decide) (by decide))) R59 (by omega) f61 f62 f63 f64 f65 (by have q := f66; rw [(show Fr [83, 84] [] [] σ (sS 84 (σ3.1 84) (sS 83 (σ3.1 83) σ23)) from ((((Fr.rfl.trans (Fr.sub f6 (by decide) (by decide) (by decide))).trans (Fr.sub f26 (by decide) (by decide) (by decide))).S (by decide)).S (by decide))).2.1 86 (by decide)] at q; omega) rfl)
          · refine tm_aload_n dX12_areAlike_96 rfl 6 rfl ?_
            refine tm_get (k := 81) (v := .ref (b + 1 + 52)) lay_12 dX12_areAlike_97 (by decide) fl12_176 rfl ?_
            refine tm_bipush dX12_areAlike_100 (by decide) ?_
            refine tm_aload_n dX12_areAlike_102 rfl 6 rfl ?_
            refine tm_getS (k := 83) (t := σ23.1 83) dX12_areAlike_103 (by decide) fl12_572 rfl (rfl) ?_
            have g70 := RG.s f27 83
            refine tm_imul dX12_areAlike_106 ?_
            refine tm_iald (z := 12 * (σ23.1 83)) (v := σ0.2.1 81 (12 * (σ23.1 83))) dX12_areAlike_107 (show mT[52]? = some (81, 0, 324) from rfl) (by omega) (by omega) (by decide) (ra_F f26 (by decide) (ra_F f6 (by decide) (ra_F hF (by decide) (rfl)))) ?_
            have g71 := RG.a hR0 81 (12 * (σ23.1 83))
            refine tm_iload dX12_areAlike_108 2 rfl ?_
            refine tm_icmp_ne (tgt := 117) dX12_areAlike_110 (by decide) ⟨by omega, by omega⟩ ⟨by omega, by omega⟩ (fun h72 => ?_) (fun h72 => ?_)
            · refine tm_iconst dX12_areAlike_117 ?_
              refine tm_istore_n (L' := [(1, .int (iI 0)), (6, .int (iI (σ3.1 84))), (5, .int (iI (σ3.1 83))), (4, .int (iI (σ0.2.1 81 ((12 * (σ3.1 83)) + (σ3.1 84))))), (3, .int (iI v14)), (2, .int (iI k)), (0, .ref b)]) dX12_areAlike_118 rfl (by decide) rfl ?_
              refine tm_aload_n dX12_areAlike_119 rfl 6 rfl ?_
              refine tm_getS (k := 83) (t := σ23.1 83) dX12_areAlike_120 (by decide) fl12_572 rfl (rfl) ?_
              have g73 := RG.s f27 83
              refine tm_istore (L' := [(7, .int (iI (σ23.1 83))), (1, .int (iI 0)), (6, .int (iI (σ3.1 84))), (5, .int (iI (σ3.1 83))), (4, .int (iI (σ0.2.1 81 ((12 * (σ3.1 83)) + (σ3.1 84))))), (3, .int (iI v14)), (2, .int (iI k)), (0, .ref b)]) dX12_areAlike_123 (by decide) rfl ?_
              refine tm_aload_n dX12_areAlike_125 rfl 7 rfl ?_
              refine tm_iload dX12_areAlike_126 3 rfl ?_
              refine tm_putS (k := 83) (v := σ3.1 83) lay_12 dX12_areAlike_128 (by decide) fl12_572 rfl (tyX12_ok 83 (by decide)) rfl rfl rfl ?_
              refine tm_aload_n dX12_areAlike_131 rfl 7 rfl ?_
              refine tm_iload dX12_areAlike_132 2 rfl ?_
              refine tm_putS (k := 84) (v := σ3.1 84) lay_12 dX12_areAlike_134 (by decide) fl12_575 rfl (tyX12_ok 84 (by decide)) rfl rfl rfl ?_
              refine tm_iconst dX12_areAlike_137 ?_
              refine tm_istore (L' := [(8, .int (iI 0)), (7, .int (iI (σ23.1 83))), (1, .int (iI 0)), (6, .int (iI (σ3.1 84))), (5, .int (iI (σ3.1 83))), (4, .int (iI (σ0.2.1 81 ((12 * (σ3.1 83)) + (σ3.1 84))))), (3, .int (iI v14)), (2, .int (iI k)), (0, .ref b)]) dX12_areAlike_138 (by decide) rfl ?_
              refine tm_sub [0, 1, 3, 4, 5, 6, 2, 7, 8] rfl (l_areA2 (d) (σ0 := (sS 84 (σ3.1 84) (sS 83 (σ3.1 83) σ23))) (k := k) (r3 := v14) (x4 := σ0.2.1 81 ((12 * (σ3.1 83)) + (σ3.1 84))) (c5 := σ3.1 83) (f6 := σ3.1 84) (c7 := σ23.1 83) ((f27.S (by omega)).S (by omega)) (hit.fr (show Fr [83, 84] [46, 47, 48, 49, 50, 51, 52, 53, 54, 55, 56, 57, 58, 86] [] σ0 (sS 84 (σ3.1 84) (sS 83 (σ3.1 83) σ23)) from (((((Fr.rfl.trans (Fr.sub hF (by decide) (by decide) (by decide))).trans (Fr.sub f6 (by decide) (by decide) (by decide))).trans (Fr.sub f26 (by decide) (by decide) (by decide))).S (by decide)).S (by decide))) (by decide)) (hpar.fr (show Fr [83, 84] [46, 47, 48, 49, 50, 51, 52, 53, 54, 55, 56, 57, 58, 86] [] σ0 (sS 84 (σ3.1 84) (sS 83 (σ3.1 83) σ23)) from (((((Fr.rfl.trans (Fr.sub hF (by decide) (by decide) (by decide))).trans (Fr.sub f6 (by decide) (by decide) (by decide))).trans (Fr.sub f26 (by decide) (by decide) (by decide))).S (by decide)).S (by decide))) (by decide)) (hnam.fr (show Fr [83, 84] [46, 47, 48, 49, 50, 51, 52, 53, 54, 55, 56, 57, 58, 86] [] σ0 (sS 84 (σ3.1 84) (sS 83 (σ3.1 83) σ23)) from (((((Fr.rfl.trans (Fr.sub hF (by decide) (by decide) (by decide))).trans (Fr.sub f6 (by decide) (by decide) (by decide))).trans (Fr.sub f26 (by decide) (by decide) (by decide))).S (by decide)).S (by decide))) (by decide)) (hgd2.fr (show Fr [83, 84] [] [] σ (sS 84 (σ3.1 84) (sS 83 (σ3.1 83) σ23)) from ((((Fr.rfl.trans (Fr.sub f6 (by decide) (by decide) (by decide))).trans (Fr.sub f26 (by decide) (by decide) (by decide))).S (by decide)).S (by decide))) (by decide) (by decide)) (by rw [show (sS 84 (σ3.1 84) (sS 83 (σ3.1 83) σ23)).1 83 = σ3.1 83 from rs_o (by decide) (rs_eq), show (sS 84 (σ3.1 84) (sS 83 (σ3.1 83) σ23)).1 84 = σ3.1 84 from rs_eq, (show Fr [83, 84] [46, 47, 48, 49, 50, 51, 52, 53, 54, 55, 56, 57, 58, 86] [] σ0 (sS 84 (σ3.1 84) (sS 83 (σ3.1 83) σ23)) from (((((Fr.rfl.trans (Fr.sub hF (by decide) (by decide) (by decide))).trans (Fr.sub f6 (by decide) (by decide) (by decide))).trans (Fr.sub f26 (by decide) (by decide) (by decide))).S (by decide)).S (by decide))).2.1 78 (by decide), (show Fr [83, 84] [46, 47, 48, 49, 50, 51, 52, 53, 54, 55, 56, 57, 58, 86] [] σ0 (sS 84 (σ3.1 84) (sS 83 (σ3.1 83) σ23)) from (((((Fr.rfl.trans (Fr.sub hF (by decide) (by decide) (by decide))).trans (Fr.sub f6 (by decide) (by decide) (by decide))).trans (Fr.sub f26 (by decide) (by decide) (by decide))).S (by decide)).S (by decide))).2.1 79 (by decide), (show Fr [83, 84] [46, 47, 48, 49, 50, 51, 52, 53, 54, 55, 56, 57, 58, 86] [] σ0 (sS 84 (σ3.1 84) (sS 83 (σ3.1 83) σ23)) from (((((Fr.rfl.trans (Fr.sub hF (by decide) (by decide) (by decide))).trans (Fr.sub f6 (by decide) (by decide) (by decide))).trans (Fr.sub f26 (by decide) (by decide) (by decide))).S (by decide)).S (by decide))).1 10 (by decide), ← hF.2.1 78 (by decide), ← hF.2.1 79 (by decide), ← hF.1 10 (by decide)]; omega) hr3b hc7 (by rw [(show Fr [83, 84] [] [] σ (sS 84 (σ3.1 84) (sS 83 (σ3.1 83) σ23)) from ((((Fr.rfl.trans (Fr.sub f6 (by decide) (by decide) (by decide))).trans (Fr.sub f26 (by decide) (by decide) (by decide))).S (by decide)).S (by decide))).2.1 86 (by decide)]; omega) (fun n886 a87 σ88 F77 R78 f79 f80 f81 f82 f83 f84 f85 => ?_) _ (0) (0) (sS 84 (σ3.1 84) (sS 83 (σ3.1 83) σ23)) Fr.rfl ((f27.S (by omega)).S (by omega)) (by omega) (hl.fr (show Fr [83, 84] [] [] σ (sS 84 (σ3.1 84) (sS 83 (σ3.1 83) σ23)) from ((((Fr.rfl.trans (Fr.sub f6 (by decide) (by decide) (by decide))).trans (Fr.sub f26 (by decide) (by decide) (by decide))).S (by decide)).S (by decide))) (by decide)) (hbo.fr (show Fr [83, 84] [] [] σ (sS 84 (σ3.1 84) (sS 83 (σ3.1 83) σ23)) from ((((Fr.rfl.trans (Fr.sub f6 (by decide) (by decide) (by decide))).trans (Fr.sub f26 (by decide) (by decide) (by decide))).S (by decide)).S (by decide))) (by decide)) (hbh.fr (show Fr [83, 84] [] [] σ (sS 84 (σ3.1 84) (sS 83 (σ3.1 83) σ23)) from ((((Fr.rfl.trans (Fr.sub f6 (by decide) (by decide) (by decide))).trans (Fr.sub f26 (by decide) (by decide) (by decide))).S (by decide)).S (by decide))) (by decide)) (hss.fr (show Fr [83, 84] [] [] σ (sS 84 (σ3.1 84) (sS 83 (σ3.1 83) σ23)) from ((((Fr.rfl.trans (Fr.sub f6 (by decide) (by decide) (by decide))).trans (Fr.sub f26 (by decide) (by decide) (by decide))).S (by decide)).S (by decide))) (by decide)) (hsc.fr (show Fr [83, 84] [] [] σ (sS 84 (σ3.1 84) (sS 83 (σ3.1 83) σ23)) from ((((Fr.rfl.trans (Fr.sub f6 (by decide) (by decide) (by decide))).trans (Fr.sub f26 (by decide) (by decide) (by decide))).S (by decide)).S (by decide))) (by decide)) ⟨⟨Int.le_refl _, by omega⟩, Int.le_refl _, by omega⟩ rfl)
              show Tm _ _ 241 b σ88 [(1, .int (iI a87)), (2, .int (iI k)), (0, .ref b)] [] _
              refine tm_iinc (q0 := 1) (L' := [(2, .int (iI (k + 1))), (1, .int (iI a87)), (0, .ref b)]) dX12_areAlike_241 rfl (by decide) rfl ?_
              refine tm_goto (tgt := 28) dX12_areAlike_244 (by decide) ?_
              exact tm_sub [0, 1, 2] rfl (ih _ (by omega) (a87) (k + 1) σ88 ((((((Fr.rfl.trans (Fr.sub hF (by decide) (by decide) (by decide))).trans (Fr.sub f6 (by decide) (by decide) (by decide))).trans (Fr.sub f26 (by decide) (by decide) (by decide))).S (by decide)).S (by decide)).trans (Fr.sub F77 (by decide) (by decide) (by decide))) R78 (by omega) f80 f81 f82 f83 f84 (by have q := f85; rw [(show Fr [83, 84] [] [] σ (sS 84 (σ3.1 84) (sS 83 (σ3.1 83) σ23)) from ((((Fr.rfl.trans (Fr.sub f6 (by decide) (by decide) (by decide))).trans (Fr.sub f26 (by decide) (by decide) (by decide))).S (by decide)).S (by decide))).2.1 86 (by decide)] at q; omega) rfl)
            · refine tm_iconst dX12_areAlike_113 ?_
              refine tm_goto (tgt := 118) dX12_areAlike_114 (by decide) ?_
              refine tm_istore_n (L' := [(1, .int (iI 1)), (6, .int (iI (σ3.1 84))), (5, .int (iI (σ3.1 83))), (4, .int (iI (σ0.2.1 81 ((12 * (σ3.1 83)) + (σ3.1 84))))), (3, .int (iI v14)), (2, .int (iI k)), (0, .ref b)]) dX12_areAlike_118 rfl (by decide) rfl ?_
              refine tm_aload_n dX12_areAlike_119 rfl 6 rfl ?_
              refine tm_getS (k := 83) (t := σ23.1 83) dX12_areAlike_120 (by decide) fl12_572 rfl (rfl) ?_
              have g89 := RG.s f27 83
              refine tm_istore (L' := [(7, .int (iI (σ23.1 83))), (1, .int (iI 1)), (6, .int (iI (σ3.1 84))), (5, .int (iI (σ3.1 83))), (4, .int (iI (σ0.2.1 81 ((12 * (σ3.1 83)) + (σ3.1 84))))), (3, .int (iI v14)), (2, .int (iI k)), (0, .ref b)]) dX12_areAlike_123 (by decide) rfl ?_
              refine tm_aload_n dX12_areAlike_125 rfl 7 rfl ?_
              refine tm_iload dX12_areAlike_126 3 rfl ?_
              refine tm_putS (k := 83) (v := σ3.1 83) lay_12 dX12_areAlike_128 (by decide) fl12_572 rfl (tyX12_ok 83 (by decide)) rfl rfl rfl ?_
              refine tm_aload_n dX12_areAlike_131 rfl 7 rfl ?_
              refine tm_iload dX12_areAlike_132 2 rfl ?_
              refine tm_putS (k := 84) (v := σ3.1 84) lay_12 dX12_areAlike_134 (by decide) fl12_575 rfl (tyX12_ok 84 (by decide)) rfl rfl rfl ?_
              refine tm_iconst dX12_areAlike_137 ?_
              refine tm_istore (L' := [(8, .int (iI 0)), (7, .int (iI (σ23.1 83))), (1, .int (iI 1)), (6, .int (iI (σ3.1 84))), (5, .int (iI (σ3.1 83))), (4, .int (iI (σ0.2.1 81 ((12 * (σ3.1 83)) + (σ3.1 84))))), (3, .int (iI v14)), (2, .int (iI k)), (0, .ref b)]) dX12_areAlike_138 (by decide) rfl ?_
              refine tm_sub [0, 1, 3, 4, 5, 6, 2, 7, 8] rfl (l_areA2 (d) (σ0 := (sS 84 (σ3.1 84) (sS 83 (σ3.1 83) σ23))) (k := k) (r3 := v14) (x4 := σ0.2.1 81 ((12 * (σ3.1 83)) + (σ3.1 84))) (c5 := σ3.1 83) (f6 := σ3.1 84) (c7 := σ23.1 83) ((f27.S (by omega)).S (by omega)) (hit.fr (show Fr [83, 84] [46, 47, 48, 49, 50, 51, 52, 53, 54, 55, 56, 57, 58, 86] [] σ0 (sS 84 (σ3.1 84) (sS 83 (σ3.1 83) σ23)) from (((((Fr.rfl.trans (Fr.sub hF (by decide) (by decide) (by decide))).trans (Fr.sub f6 (by decide) (by decide) (by decide))).trans (Fr.sub f26 (by decide) (by decide) (by decide))).S (by decide)).S (by decide))) (by decide)) (hpar.fr (show Fr [83, 84] [46, 47, 48, 49, 50, 51, 52, 53, 54, 55, 56, 57, 58, 86] [] σ0 (sS 84 (σ3.1 84) (sS 83 (σ3.1 83) σ23)) from (((((Fr.rfl.trans (Fr.sub hF (by decide) (by decide) (by decide))).trans (Fr.sub f6 (by decide) (by decide) (by decide))).trans (Fr.sub f26 (by decide) (by decide) (by decide))).S (by decide)).S (by decide))) (by decide)) (hnam.fr (show Fr [83, 84] [46, 47, 48, 49, 50, 51, 52, 53, 54, 55, 56, 57, 58, 86] [] σ0 (sS 84 (σ3.1 84) (sS 83 (σ3.1 83) σ23)) from (((((Fr.rfl.trans (Fr.sub hF (by decide) (by decide) (by decide))).trans (Fr.sub f6 (by decide) (by decide) (by decide))).trans (Fr.sub f26 (by decide) (by decide) (by decide))).S (by decide)).S (by decide))) (by decide)) (hgd2.fr (show Fr [83, 84] [] [] σ (sS 84 (σ3.1 84) (sS 83 (σ3.1 83) σ23)) from ((((Fr.rfl.trans (Fr.sub f6 (by decide) (by decide) (by decide))).trans (Fr.sub f26 (by decide) (by decide) (by decide))).S (by decide)).S (by decide))) (by decide) (by decide)) (by rw [show (sS 84 (σ3.1 84) (sS 83 (σ3.1 83) σ23)).1 83 = σ3.1 83 from rs_o (by decide) (rs_eq), show (sS 84 (σ3.1 84) (sS 83 (σ3.1 83) σ23)).1 84 = σ3.1 84 from rs_eq, (show Fr [83, 84] [46, 47, 48, 49, 50, 51, 52, 53, 54, 55, 56, 57, 58, 86] [] σ0 (sS 84 (σ3.1 84) (sS 83 (σ3.1 83) σ23)) from (((((Fr.rfl.trans (Fr.sub hF (by decide) (by decide) (by decide))).trans (Fr.sub f6 (by decide) (by decide) (by decide))).trans (Fr.sub f26 (by decide) (by decide) (by decide))).S (by decide)).S (by decide))).2.1 78 (by decide), (show Fr [83, 84] [46, 47, 48, 49, 50, 51, 52, 53, 54, 55, 56, 57, 58, 86] [] σ0 (sS 84 (σ3.1 84) (sS 83 (σ3.1 83) σ23)) from (((((Fr.rfl.trans (Fr.sub hF (by decide) (by decide) (by decide))).trans (Fr.sub f6 (by decide) (by decide) (by decide))).trans (Fr.sub f26 (by decide) (by decide) (by decide))).S (by decide)).S (by decide))).2.1 79 (by decide), (show Fr [83, 84] [46, 47, 48, 49, 50, 51, 52, 53, 54, 55, 56, 57, 58, 86] [] σ0 (sS 84 (σ3.1 84) (sS 83 (σ3.1 83) σ23)) from (((((Fr.rfl.trans (Fr.sub hF (by decide) (by decide) (by decide))).trans (Fr.sub f6 (by decide) (by decide) (by decide))).trans (Fr.sub f26 (by decide) (by decide) (by decide))).S (by decide)).S (by decide))).1 10 (by decide), ← hF.2.1 78 (by decide), ← hF.2.1 79 (by decide), ← hF.1 10 (by decide)]; omega) hr3b hc7 (by rw [(show Fr [83, 84] [] [] σ (sS 84 (σ3.1 84) (sS 83 (σ3.1 83) σ23)) from ((((Fr.rfl.trans (Fr.sub f6 (by decide) (by decide) (by decide))).trans (Fr.sub f26 (by decide) (by decide) (by decide))).S (by decide)).S (by decide))).2.1 86 (by decide)]; omega) (fun n8102 a103 σ104 F93 R94 f95 f96 f97 f98 f99 f100 f101 => ?_) _ (0) (1) (sS 84 (σ3.1 84) (sS 83 (σ3.1 83) σ23)) Fr.rfl ((f27.S (by omega)).S (by omega)) (by omega) (hl.fr (show Fr [83, 84] [] [] σ (sS 84 (σ3.1 84) (sS 83 (σ3.1 83) σ23)) from ((((Fr.rfl.trans (Fr.sub f6 (by decide) (by decide) (by decide))).trans (Fr.sub f26 (by decide) (by decide) (by decide))).S (by decide)).S (by decide))) (by decide)) (hbo.fr (show Fr [83, 84] [] [] σ (sS 84 (σ3.1 84) (sS 83 (σ3.1 83) σ23)) from ((((Fr.rfl.trans (Fr.sub f6 (by decide) (by decide) (by decide))).trans (Fr.sub f26 (by decide) (by decide) (by decide))).S (by decide)).S (by decide))) (by decide)) (hbh.fr (show Fr [83, 84] [] [] σ (sS 84 (σ3.1 84) (sS 83 (σ3.1 83) σ23)) from ((((Fr.rfl.trans (Fr.sub f6 (by decide) (by decide) (by decide))).trans (Fr.sub f26 (by decide) (by decide) (by decide))).S (by decide)).S (by decide))) (by decide)) (hss.fr (show Fr [83, 84] [] [] σ (sS 84 (σ3.1 84) (sS 83 (σ3.1 83) σ23)) from ((((Fr.rfl.trans (Fr.sub f6 (by decide) (by decide) (by decide))).trans (Fr.sub f26 (by decide) (by decide) (by decide))).S (by decide)).S (by decide))) (by decide)) (hsc.fr (show Fr [83, 84] [] [] σ (sS 84 (σ3.1 84) (sS 83 (σ3.1 83) σ23)) from ((((Fr.rfl.trans (Fr.sub f6 (by decide) (by decide) (by decide))).trans (Fr.sub f26 (by decide) (by decide) (by decide))).S (by decide)).S (by decide))) (by decide)) ⟨⟨Int.le_refl _, by omega⟩, Int.le_refl _, by omega⟩ rfl)
              show Tm _ _ 241 b σ104 [(1, .int (iI a103)), (2, .int (iI k)), (0, .ref b)] [] _
              refine tm_iinc (q0 := 1) (L' := [(2, .int (iI (k + 1))), (1, .int (iI a103)), (0, .ref b)]) dX12_areAlike_241 rfl (by decide) rfl ?_
              refine tm_goto (tgt := 28) dX12_areAlike_244 (by decide) ?_
              exact tm_sub [0, 1, 2] rfl (ih _ (by omega) (a103) (k + 1) σ104 ((((((Fr.rfl.trans (Fr.sub hF (by decide) (by decide) (by decide))).trans (Fr.sub f6 (by decide) (by decide) (by decide))).trans (Fr.sub f26 (by decide) (by decide) (by decide))).S (by decide)).S (by decide)).trans (Fr.sub F93 (by decide) (by decide) (by decide))) R94 (by omega) f96 f97 f98 f99 f100 (by have q := f101; rw [(show Fr [83, 84] [] [] σ (sS 84 (σ3.1 84) (sS 83 (σ3.1 83) σ23)) from ((((Fr.rfl.trans (Fr.sub f6 (by decide) (by decide) (by decide))).trans (Fr.sub f26 (by decide) (by decide) (by decide))).S (by decide)).S (by decide))).2.1 86 (by decide)] at q; omega) rfl)
theorem ml12_593 : Cond.methodLink RX12 593 yX12_arePrintsAlike ∈ pWW := pw10 (List.mem_of_getElem? (i := 81) rfl) rfl
theorem dX12_areAlike_0 : decode cX12_areAlike 0 = .ok (.aload_n 0, 1) := by decide +kernel
theorem dX12_areAlike_1 : decode cX12_areAlike 1 = .ok (.iconst 1, 1) := by decide +kernel
theorem dX12_areAlike_2 : decode cX12_areAlike 2 = .ok (.invokevirtual 554, 3) := by decide +kernel
theorem dX12_areAlike_5 : decode cX12_areAlike 5 = .ok (.aload_n 0, 1) := by decide +kernel
theorem dX12_areAlike_6 : decode cX12_areAlike 6 = .ok (.iconst 2, 1) := by decide +kernel
theorem dX12_areAlike_7 : decode cX12_areAlike 7 = .ok (.invokevirtual 554, 3) := by decide +kernel
theorem dX12_areAlike_10 : decode cX12_areAlike 10 = .ok (.if_icmp .ne 14, 3) := by decide +kernel
theorem dX12_areAlike_24 : decode cX12_areAlike 24 = .ok (.iconst 0, 1) := by decide +kernel
theorem dX12_areAlike_25 : decode cX12_areAlike 25 = .ok (.istore_n 1, 1) := by decide +kernel
theorem dX12_areAlike_26 : decode cX12_areAlike 26 = .ok (.iconst 0, 1) := by decide +kernel
theorem dX12_areAlike_27 : decode cX12_areAlike 27 = .ok (.istore_n 2, 1) := by decide +kernel
theorem dX12_areAlike_247 : decode cX12_areAlike 247 = .ok (.iload_n 1, 1) := by decide +kernel
theorem dX12_areAlike_248 : decode cX12_areAlike 248 = .ok (.ireturn, 1) := by decide +kernel
theorem dX12_areAlike_13 : decode cX12_areAlike 13 = .ok (.aload_n 0, 1) := by decide +kernel
theorem dX12_areAlike_14 : decode cX12_areAlike 14 = .ok (.invokevirtual 593, 3) := by decide +kernel
theorem dX12_areAlike_17 : decode cX12_areAlike 17 = .ok (.ifCond .eq 7, 3) := by decide +kernel
theorem dX12_areAlike_20 : decode cX12_areAlike 20 = .ok (.iconst 1, 1) := by decide +kernel
theorem dX12_areAlike_21 : decode cX12_areAlike 21 = .ok (.goto 4, 3) := by decide +kernel
set_option maxHeartbeats 4000000 in
set_option maxRecDepth 20000 in
theorem c_X12_areAlike (d : Nat) {b : Nat} {σ : MS} (hR : RG σ) (hit : ITM σ) (hpar : PAR σ) (hnam : NAM σ) (hgd : GDA σ) (hl : LAB σ) (hbo : BO 47 σ) (hbh : BO 48 σ) (hss : SSA σ) (hsc : SCA σ) (hr1 : RUN σ 1) (hr2 : RUN σ 2) (hb2 : BKA σ 2) (hC : (0 ≤ σ.2.1 86 0 ∧ σ.2.1 86 0 ≤ 900000000) ∧ 0 ≤ σ.2.1 86 1 ∧ σ.2.1 86 1 ≤ 900000000) : Tm (d + 8) m_X12_areAlike 0 b σ [(0, .ref b)] [] (fun ro σ2 => ∃ v : Int, ro = some (.int (iI v)) ∧ ((v = 0 ∨ v = 1)) ∧ (Fr [83, 84] [46, 47, 48, 49, 50, 51, 52, 53, 54, 55, 56, 57, 58, 86] [] σ σ2) ∧ (RG σ2) ∧ (LAB σ2) ∧ (BO 47 σ2) ∧ (BO 48 σ2) ∧ (SSA σ2) ∧ (SCA σ2) ∧ ((σ.2.1 86 0 ≤ σ2.2.1 86 0 ∧ σ2.2.1 86 0 ≤ σ.2.1 86 0 + 1416) ∧ σ.2.1 86 1 ≤ σ2.2.1 86 1 ∧ σ2.2.1 86 1 ≤ σ.2.1 86 1 + 1416)) := by
  have hb1 := hgd.bka (m := 1) (by decide)
  have hd1 := hr1.hd hb1
  have hd2 := hr2.hd hb2
  refine tm_aload_n dX12_areAlike_0 rfl 0 rfl ?_
  refine tm_iconst dX12_areAlike_1 ?_
  refine tm_callV (M := m_X12_areAlike) (pc := 2) (ix := 554) (M' := m_X12_depth) (As := [.int (iI 1)]) (rest := []) dX12_areAlike_2 ok_X12_depth im_X12_depth se_X12_depth ml12_554 np_X12_depth rfl rfl (Nat.le_of_ble_eq_true rfl) (Nat.le_of_ble_eq_true rfl) rfl (c_X12_depth (d + 6) (σ := σ) (m := 1) hR (by decide) hd1.1 (fun c a e => ⟨_, hd1.2 c a e⟩)) (fun r1 σ2 hp => ?_)
  obtain ⟨v3, rfl, rfl, f4, f5⟩ := hp
  show Tm _ _ 5 b σ [(0, .ref b)] [.int (iI v3)] _
  refine tm_aload_n dX12_areAlike_5 rfl 0 rfl ?_
  refine tm_iconst dX12_areAlike_6 ?_
  refine tm_callV (M := m_X12_areAlike) (pc := 7) (ix := 554) (M' := m_X12_depth) (As := [.int (iI 2)]) (rest := [.int (iI v3)]) dX12_areAlike_7 ok_X12_depth im_X12_depth se_X12_depth ml12_554 np_X12_depth rfl rfl (Nat.le_of_ble_eq_true rfl) (Nat.le_of_ble_eq_true rfl) rfl (c_X12_depth (d + 6) (σ := σ) (m := 2) hR (by decide) hd2.1 (fun c a e => ⟨_, hd2.2 c a e⟩)) (fun r6 σ7 hp => ?_)
  obtain ⟨v8, rfl, rfl, f9, f10⟩ := hp
  show Tm _ _ 10 b σ [(0, .ref b)] [.int (iI v8), .int (iI v3)] _
  refine tm_icmp_ne (tgt := 24) dX12_areAlike_10 (by decide) ⟨by omega, by omega⟩ ⟨by omega, by omega⟩ (fun h11 => ?_) (fun h11 => ?_)
  · refine tm_iconst dX12_areAlike_24 ?_
    refine tm_istore_n (L' := [(1, .int (iI 0)), (0, .ref b)]) dX12_areAlike_25 rfl (by decide) rfl ?_
    refine tm_iconst dX12_areAlike_26 ?_
    refine tm_istore_n (L' := [(2, .int (iI 0)), (1, .int (iI 0)), (0, .ref b)]) dX12_areAlike_27 rfl (by decide) rfl ?_
    refine tm_sub [0, 1, 2] rfl (l_areA1 (d) (σ0 := σ) hR hit hpar hnam hgd hr1 hr2 hb2 hC (fun a24 k25 σ26 F15 R16 f17 f18 f19 f20 f21 f22 f23 => ?_) _ (0) (0) σ Fr.rfl hR (by omega) hl hbo hbh hss hsc ⟨⟨Int.le_refl _, by omega⟩, Int.le_refl _, by omega⟩ rfl)
    show Tm _ _ 247 b σ26 [(2, .int (iI k25)), (1, .int (iI a24)), (0, .ref b)] [] _
    refine tm_iload_n dX12_areAlike_247 rfl 1 rfl ?_
    exact tm_zret (v := a24) rfl (by omega) dX12_areAlike_248 (⟨_, rfl, f17, (Fr.rfl.trans (Fr.sub F15 (by decide) (by decide) (by decide))), R16, f18, f19, f20, f21, f22, f23⟩)
  · refine tm_aload_n dX12_areAlike_13 rfl 0 rfl ?_
    refine tm_callV (M := m_X12_areAlike) (pc := 14) (ix := 593) (M' := m_X12_arePrintsAlike) (As := []) (rest := []) dX12_areAlike_14 ok_X12_arePrintsAlike im_X12_arePrintsAlike se_X12_arePrintsAlike ml12_593 np_X12_arePrintsAlike rfl rfl (Nat.le_of_ble_eq_true rfl) (Nat.le_of_ble_eq_true rfl) rfl (c_X12_arePrintsAlike (d + 6) (σ := σ)  hR) (fun r27 σ28 hp => ?_)
    obtain ⟨v29, rfl, rfl, f30⟩ := hp
    show Tm _ _ 17 b σ [(0, .ref b)] [.int (iI v29)] _
    refine tm_if_eq (tgt := 24) dX12_areAlike_17 (by decide) ⟨by omega, by omega⟩ (fun h31 => ?_) (fun h31 => ?_)
    · refine tm_iconst dX12_areAlike_24 ?_
      refine tm_istore_n (L' := [(1, .int (iI 0)), (0, .ref b)]) dX12_areAlike_25 rfl (by decide) rfl ?_
      refine tm_iconst dX12_areAlike_26 ?_
      refine tm_istore_n (L' := [(2, .int (iI 0)), (1, .int (iI 0)), (0, .ref b)]) dX12_areAlike_27 rfl (by decide) rfl ?_
      refine tm_sub [0, 1, 2] rfl (l_areA1 (d) (σ0 := σ) hR hit hpar hnam hgd hr1 hr2 hb2 hC (fun a44 k45 σ46 F35 R36 f37 f38 f39 f40 f41 f42 f43 => ?_) _ (0) (0) σ Fr.rfl hR (by omega) hl hbo hbh hss hsc ⟨⟨Int.le_refl _, by omega⟩, Int.le_refl _, by omega⟩ rfl)
      show Tm _ _ 247 b σ46 [(2, .int (iI k45)), (1, .int (iI a44)), (0, .ref b)] [] _
      refine tm_iload_n dX12_areAlike_247 rfl 1 rfl ?_
      exact tm_zret (v := a44) rfl (by omega) dX12_areAlike_248 (⟨_, rfl, f37, (Fr.rfl.trans (Fr.sub F35 (by decide) (by decide) (by decide))), R36, f38, f39, f40, f41, f42, f43⟩)
    · refine tm_iconst dX12_areAlike_20 ?_
      refine tm_goto (tgt := 25) dX12_areAlike_21 (by decide) ?_
      refine tm_istore_n (L' := [(1, .int (iI 1)), (0, .ref b)]) dX12_areAlike_25 rfl (by decide) rfl ?_
      refine tm_iconst dX12_areAlike_26 ?_
      refine tm_istore_n (L' := [(2, .int (iI 0)), (1, .int (iI 1)), (0, .ref b)]) dX12_areAlike_27 rfl (by decide) rfl ?_
      refine tm_sub [0, 1, 2] rfl (l_areA1 (d) (σ0 := σ) hR hit hpar hnam hgd hr1 hr2 hb2 hC (fun a59 k60 σ61 F50 R51 f52 f53 f54 f55 f56 f57 f58 => ?_) _ (1) (0) σ Fr.rfl hR (by omega) hl hbo hbh hss hsc ⟨⟨Int.le_refl _, by omega⟩, Int.le_refl _, by omega⟩ rfl)
      show Tm _ _ 247 b σ61 [(2, .int (iI k60)), (1, .int (iI a59)), (0, .ref b)] [] _
      refine tm_iload_n dX12_areAlike_247 rfl 1 rfl ?_
      exact tm_zret (v := a59) rfl (by omega) dX12_areAlike_248 (⟨_, rfl, f52, (Fr.rfl.trans (Fr.sub F50 (by decide) (by decide) (by decide))), R51, f53, f54, f55, f56, f57, f58⟩)
end
