section
def WAY9 (m : Int) (σ τ : MS) : Prop := RUN τ m ∧ Fr [] [73, 75, 76, 77, 78, 79, 80, 81, 82] [] σ τ ∧ XM m σ τ ∧ 0 ≤ τ.2.1 76 m ∧ τ.2.1 76 m ≤ 1000000000
def SLN9 (m : Int) : Nat → MS → MS → Prop
  | 0, σ, τ => τ = σ
  | n + 1, σ, τ => ∃ τ1, SLN9 m n σ τ1 ∧ WAY9 m σ τ1 ∧ STQ τ1 m 0 τ
def NXT9 (m : Int) (σ : MS) (n : Nat) (v : Int) (τ : MS) : Prop := ∃ τ1, SLN9 m n σ τ1 ∧ WAY9 m σ τ1 ∧ STQ τ1 m v τ ∧ v ≠ 0
def SB9 (m : Int) (σ0 : MS) (L0 s lf : Int) (σ : MS) : Prop := (s = 0 ∧ ∃ n : Nat, SLN9 m n σ0 σ ∧ lf = L0 - n) ∨ (s ≠ 0 ∧ ∃ n : Nat, NXT9 m σ0 n s σ ∧ (n : Int) < L0 ∧ ((s = 3 ∧ lf = L0 - n) ∨ (s ≠ 3 ∧ lf = L0 - n - 1)))
def SP9 (m : Int) (σ0 : MS) (s : Int) (σ : MS) : Prop := (s = 0 ∧ ∃ n : Nat, SLN9 m n σ0 σ ∧ (n : Int) + rk σ ≤ rk σ0) ∨ (s ≠ 0 ∧ ∃ n : Nat, NXT9 m σ0 n s σ ∧ (n : Int) ≤ rk σ0)
def BRN9 : Nat → MS → Int → MS → Int → Prop
  | 0, σ, L, τ, l => τ = σ ∧ l = L
  | k + 1, σ, L, τ, l => ∃ (τ1 : MS) (l1 : Int), BRN9 k σ L τ1 l1 ∧ Fr [83, 84] [46, 47, 48, 49, 50, 51, 52, 53, 54, 55, 56, 57, 58, 73, 74, 75, 76, 77, 78, 79, 80, 81, 82, 86] [] σ τ1 ∧ ∃ (n n2 : Nat) (τ2 τ3 : MS), NXT9 1 τ1 n 1 τ2 ∧ (n : Int) < l1 ∧ NXT9 2 τ2 n2 1 τ3 ∧ (n2 : Int) ≤ rk τ2 ∧ AAQ τ3 1 ∧ Fr [83, 84] [46, 47, 48, 49, 50, 51, 52, 53, 54, 55, 56, 57, 58, 86] [] τ3 τ ∧ l = l1 - n - 1
def BRX9 (σ : MS) (L cnt lf : Int) (τ : MS) : Prop := ∃ k : Nat, cnt = (k : Int) ∧ BRN9 k σ L τ lf
def BEN9 (τ3 : MS) (iz pl c v : Int) : Prop := (iz ≠ pl ∧ v = -2 - c) ∨ (iz = pl ∧ iz ≠ 1 ∧ ((PAQ τ3 1 ∧ (iz = 3 ∨ τ3.2.1 75 1 = τ3.2.1 75 2) ∧ v = c) ∨ ((PAQ τ3 0 ∨ (iz ≠ 3 ∧ τ3.2.1 75 1 ≠ τ3.2.1 75 2)) ∧ v = -2 - c))) ∨ (iz = 1 ∧ pl = 1 ∧ AAQ τ3 0 ∧ v = -2 - c)
def BEX9 (σ : MS) (L v : Int) : Prop := ∃ (k : Nat) (τ1 : MS) (l1 : Int), BRN9 k σ L τ1 l1 ∧ Fr [83, 84] [46, 47, 48, 49, 50, 51, 52, 53, 54, 55, 56, 57, 58, 73, 74, 75, 76, 77, 78, 79, 80, 81, 82, 86] [] σ τ1 ∧ ((∃ (n : Nat) (τ2 : MS), SLN9 1 n τ1 τ2 ∧ (n : Int) = l1 ∧ v = k) ∨ ∃ (n n2 : Nat) (iz pl : Int) (τ2 τ3 : MS), NXT9 1 τ1 n iz τ2 ∧ (n : Int) < l1 ∧ NXT9 2 τ2 n2 pl τ3 ∧ (n2 : Int) ≤ rk τ2 ∧ BEN9 τ3 iz pl k v)
section BES9
variable {σ σ0 σ2 σ3 σ4 τ : MS} {m L L0 s s2 lf lf2 v cnt : Int}
theorem SB9.z : SB9 m σ0 L0 0 L0 σ0 := Or.inl ⟨rfl, 0, rfl, by omega⟩
theorem SB9.st (h : SB9 m σ0 L0 s lf σ) (hs : s = 0) (hl : 0 < lf) (w : WAY9 m σ0 σ) (q : STQ σ m v τ) (e : (v = 3 ∧ lf2 = lf) ∨ (v ≠ 3 ∧ lf2 = lf - 1)) : SB9 m σ0 L0 v lf2 τ := by
  rcases h with ⟨-, n, h1, h2⟩ | ⟨h0, -⟩
  · by_cases z : v = 0
    · refine Or.inl ⟨z, n + 1, ⟨σ, h1, w, by rw [← z]; exact q⟩, by omega⟩
    · exact Or.inr ⟨z, n, ⟨σ, h1, w, q, z⟩, by omega, by omega⟩
  · exact absurd hs h0
theorem SP9.z : SP9 m σ0 0 σ0 := Or.inl ⟨rfl, 0, rfl, by omega⟩
theorem SP9.st (h : SP9 m σ0 s σ) (hs : s = 0) (w : WAY9 m σ0 σ) (q : STQ σ m v τ) (hb : 0 ≤ rk σ) (hf : v = 0 → rk τ < rk σ) : SP9 m σ0 v τ := by
  rcases h with ⟨-, n, h1, h2⟩ | ⟨h0, -⟩
  · by_cases z : v = 0
    · have := hf z
      exact Or.inl ⟨z, n + 1, ⟨σ, h1, w, by rw [← z]; exact q⟩, by omega⟩
    · exact Or.inr ⟨z, n, ⟨σ, h1, w, q, z⟩, by omega⟩
  · exact absurd hs h0
theorem SP9.n0 (h : SP9 m σ0 s σ) (e : s = 0) : SP9 m σ0 0 σ := by rw [← e]; exact h
theorem BRX9.z : BRX9 σ L 0 L σ := ⟨0, rfl, rfl, rfl⟩
theorem BRX9.st (h : BRX9 σ0 L cnt lf σ) (f : Fr [83, 84] [46, 47, 48, 49, 50, 51, 52, 53, 54, 55, 56, 57, 58, 73, 74, 75, 76, 77, 78, 79, 80, 81, 82, 86] [] σ0 σ) (a : SB9 1 σ lf s lf2 σ2) (e : s = 1) (p : SP9 2 σ2 s2 σ3) (e2 : s2 = 1) (q : AAQ σ3 v) (ev : v = 1) (g : Fr [83, 84] [46, 47, 48, 49, 50, 51, 52, 53, 54, 55, 56, 57, 58, 86] [] σ3 σ4) : BRX9 σ0 L (cnt + 1) lf2 σ4 := by
  obtain ⟨k, h1, h2⟩ := h
  subst e
  subst e2
  subst ev
  rcases a with ⟨z, -⟩ | ⟨-, n, a1, a2, a3⟩
  · omega
  · rcases p with ⟨z, -⟩ | ⟨-, n2, p1, p2⟩
    · omega
    · exact ⟨k + 1, by omega, σ, lf, h2, f, n, n2, σ2, σ3, a1, a2, p1, p2, q, g, by omega⟩
theorem BEX9.a (h : BRX9 σ0 L cnt lf σ) (f : Fr [83, 84] [46, 47, 48, 49, 50, 51, 52, 53, 54, 55, 56, 57, 58, 73, 74, 75, 76, 77, 78, 79, 80, 81, 82, 86] [] σ0 σ) (a : SB9 1 σ lf s lf2 σ2) (e : s = 0) (e2 : lf2 ≤ 0) (l0 : 0 ≤ lf2) (ev : v = cnt) : BEX9 σ0 L v := by
  obtain ⟨k, h1, h2⟩ := h
  rcases a with ⟨-, n, a1, a2⟩ | ⟨z, -⟩
  · exact ⟨k, σ, lf, h2, f, Or.inl ⟨n, σ2, a1, by omega, by omega⟩⟩
  · exact absurd e z
theorem BEX9.b (h : BRX9 σ0 L cnt lf σ) (f : Fr [83, 84] [46, 47, 48, 49, 50, 51, 52, 53, 54, 55, 56, 57, 58, 73, 74, 75, 76, 77, 78, 79, 80, 81, 82, 86] [] σ0 σ) (a : SB9 1 σ lf s lf2 σ2) (e : s ≠ 0) (p : SP9 2 σ2 s2 σ3) (e2 : s2 ≠ 0) (q : BEN9 σ3 s s2 cnt v) : BEX9 σ0 L v := by
  obtain ⟨k, h1, h2⟩ := h
  rcases a with ⟨z, -⟩ | ⟨-, n, a1, a2, -⟩
  · exact absurd z e
  · rcases p with ⟨z, -⟩ | ⟨-, n2, p1, p2⟩
    · exact absurd z e2
    · exact ⟨k, σ, lf, h2, f, Or.inr ⟨n, n2, s, s2, σ2, σ3, a1, a2, p1, p2, by rw [← h1]; exact q⟩⟩
end BES9
def SMA9 (σ : MS) (m x a b c d : Int) (τ : MS) : Prop := Fr [] [73, 74, 75, 76, 78, 79, 80, 81, 82] [] σ τ ∧ τ.2.1 73 m = 1 ∧ (τ.2.1 78 (9 * m) = x ∧ τ.2.1 79 (9 * m) = 0 ∧ τ.2.1 80 (9 * m) = 0) ∧ (∀ j, j ≠ m → X0 j σ τ) ∧ τ.2.1 76 m = 0 ∧ SMQ7 σ m x a b c d τ
def RBS9 (σ : MS) (x a b c d n v : Int) : Prop := (¬ ((0 ≤ x ∧ x < σ.1 10) ∧ 1 ≤ n ∧ n ≤ 20000) ∧ v = -1) ∨ (((0 ≤ x ∧ x < σ.1 10) ∧ 1 ≤ n ∧ n ≤ 20000) ∧ ∃ s1 s2 s3, Fr [0, 85] [86] [] σ s1 ∧ SMA9 s1 1 x a b c d s2 ∧ SMA9 s2 2 x a b c d s3 ∧ BEX9 s3 n v)
end
