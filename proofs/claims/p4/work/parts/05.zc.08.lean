/-! a letter more: the reference's word, the class's key -/
theorem sho_nat {X B k : Nat} (h : B < 2 ^ k) : X <<< k ||| B = 2 ^ k * X + B := by
  rw [← Nat.shiftLeft_add_eq_or_of_lt h, Nat.shiftLeft_eq, Nat.mul_comm]
theorem shw_eq {x b : Int} (h0 : 0 ≤ x) (h1 : x < 1099511627776) (hb : 0 ≤ b ∧ b < 256) : shw (Int64.ofInt x) b = Int64.ofInt (256 * x + b) := by
  obtain ⟨X, rfl⟩ := Int.eq_ofNat_of_zero_le h0
  obtain ⟨B, rfl⟩ := Int.eq_ofNat_of_zero_le hb.1
  have e1 : ((iI 8).toInt64 &&& 63) = (8 : Int64) := by decide
  have e2 : (iI (B : Int)).toInt64 = Int64.ofInt (B : Int) := by
    apply Int64.toInt_inj.mp
    rw [Int32.toInt_toInt64, iI_toInt ⟨by omega, by omega⟩, Int64.toInt_ofInt_of_le (by first | (simp; done) | (simp; omega)) (by first | (simp; done) | (simp; omega))]
  unfold shw
  rw [e1, e2]
  apply Int64.toBitVec_inj.mp
  rw [Int64.toBitVec_or, Int64.toBitVec_shiftLeft, Int64.toBitVec_ofInt, Int64.toBitVec_ofInt, Int64.toBitVec_ofInt]
  have e3 : ((8 : Int64).toBitVec.smod 64) = 8#64 := by decide
  rw [e3]
  apply BitVec.eq_of_toNat_eq
  have f : ∀ N : Nat, N < 2 ^ 64 → (BitVec.ofInt 64 (N : Int)).toNat = N := fun N h => by
    rw [BitVec.toNat_ofInt]
    rw [show ((N : Int) % ((2 ^ 64 : Nat) : Int)) = ((N % 2 ^ 64 : Nat) : Int) by omega, Int.toNat_natCast, Nat.mod_eq_of_lt h]
  have hX : X < 2 ^ 40 := by omega
  have hB : B < 2 ^ 8 := by omega
  rw [BitVec.toNat_or, BitVec.shiftLeft_eq', BitVec.toNat_shiftLeft, f X (by omega), f B (by omega), show (256 * (X : Int) + (B : Int)) = ((256 * X + B : Nat) : Int) by omega, f (256 * X + B) (by omega)]
  rw [show (8#64 : BitVec 64).toNat = 8 by rfl, Nat.mod_eq_of_lt (by rw [Nat.shiftLeft_eq]; omega), sho_nat hB]
/-- the class's step -/
def sh5 (x y : Int) : Int := ((iI x <<< (iI 5 &&& 31)) ||| iI y).toInt
theorem sh5_i (x y : Int) : iI (sh5 x y) = (iI x <<< (iI 5 &&& 31)) ||| iI y := iI_self _
theorem sh5_eq {x y : Int} (h0 : 0 ≤ x) (h1 : x < 33554432) (hb : 0 ≤ y ∧ y < 32) : sh5 x y = 32 * x + y := by
  obtain ⟨X, rfl⟩ := Int.eq_ofNat_of_zero_le h0
  obtain ⟨B, rfl⟩ := Int.eq_ofNat_of_zero_le hb.1
  have key : (iI (X : Int) <<< (iI 5 &&& 31)) ||| iI (B : Int) = iI (32 * (X : Int) + (B : Int)) := by
    have e1 : (iI 5 &&& 31) = (5 : Int32) := by decide
    rw [e1]
    show (Int32.ofInt (X : Int) <<< (5 : Int32)) ||| Int32.ofInt (B : Int) = Int32.ofInt (32 * (X : Int) + (B : Int))
    apply Int32.toBitVec_inj.mp
    rw [Int32.toBitVec_or, Int32.toBitVec_shiftLeft, Int32.toBitVec_ofInt, Int32.toBitVec_ofInt, Int32.toBitVec_ofInt]
    have e3 : ((5 : Int32).toBitVec.smod 32) = 5#32 := by decide
    rw [e3]
    apply BitVec.eq_of_toNat_eq
    have f : ∀ N : Nat, N < 2 ^ 32 → (BitVec.ofInt 32 (N : Int)).toNat = N := fun N h => by
      rw [BitVec.toNat_ofInt]
      rw [show ((N : Int) % ((2 ^ 32 : Nat) : Int)) = ((N % 2 ^ 32 : Nat) : Int) by omega, Int.toNat_natCast, Nat.mod_eq_of_lt h]
    have hX : X < 2 ^ 25 := by omega
    have hB : B < 2 ^ 5 := by omega
    rw [BitVec.toNat_or, BitVec.shiftLeft_eq', BitVec.toNat_shiftLeft, f X (by omega), f B (by omega), show (32 * (X : Int) + (B : Int)) = ((32 * X + B : Nat) : Int) by omega, f (32 * X + B) (by omega)]
    rw [show (5#32 : BitVec 32).toNat = 5 by rfl, Nat.mod_eq_of_lt (by rw [Nat.shiftLeft_eq]; omega), sho_nat hB]
  unfold sh5
  rw [key, iI_toInt ⟨by omega, by omega⟩]
/-- letters from p on, the last one first -/
def lts (s : Int → Int) (p : Int) : Nat → List Int
  | 0 => []
  | n + 1 => s (p + n) :: lts s p n
theorem lts_len {s : Int → Int} {p : Int} : ∀ n, (lts s p n).length = n
  | 0 => rfl
  | n + 1 => by show (lts s p n).length + 1 = n + 1; rw [lts_len n]
theorem lts_ltr {s : Int → Int} {p : Int} : ∀ (n : Nat), (∀ j : Nat, j < n → 97 ≤ s (p + j) ∧ s (p + j) ≤ 122) → LTR (lts s p n)
  | 0, _ => fun b q => absurd q (by show ¬ b ∈ ([] : List Int); simp)
  | n + 1, h => fun b q => by
    rcases List.mem_cons.mp (show b ∈ s (p + n) :: lts s p n from q) with q | q
    · rw [q]; exact h n (by omega)
    · exact lts_ltr n (fun j w => h j (by omega)) b q
/-- behind n letters, six at most -/
theorem ltp_run {s : Int → Int} {p : Int} : ∀ (n : Nat), n ≤ 6 → p + n ≤ 1300 → (∀ j : Nat, j < n → 97 ≤ s (p + j) ∧ s (p + j) ≤ 122) → ltp s p 0 0 = ltp s (p + n) (Int64.ofInt (w8 (lts s p n))) n
  | 0, _, _, _ => by
    show ltp s p 0 0 = ltp s (p + ((0 : Nat) : Int)) (Int64.ofInt 0) ((0 : Nat) : Int)
    rw [show p + ((0 : Nat) : Int) = p by omega]; rfl
  | n + 1, h6, hp, h => by
    have hl := lts_ltr (s := s) (p := p) n (fun j w => h j (by omega))
    have b1 := w8_0 _ hl
    have b2 := w8_b 5 _ hl (by rw [lts_len]; omega)
    rw [show (256 : Int) ^ 5 = 1099511627776 by decide] at b2
    have hn := h n (by omega)
    rw [ltp_run n (by omega) (by omega) (fun j w => h j (by omega)), ltp_s (by omega) hn, shw_eq b1 b2 ⟨by omega, by omega⟩]
    rw [show p + ((n + 1 : Nat) : Int) = p + (n : Int) + 1 by omega, show ((n + 1 : Nat) : Int) = (n : Int) + 1 by omega]
    rfl
/-- the count of letters alone -/
theorem ltp_cnt {s : Int → Int} : ∀ (n : Nat) {p c : Int} {w : Int64}, p + n ≤ 1300 → (∀ j : Nat, j < n → 97 ≤ s (p + j) ∧ s (p + j) ≤ 122) → ¬ (97 ≤ s (p + n) ∧ s (p + n) ≤ 122) → (ltp s p w c).1 = p + n ∧ (ltp s p w c).2.2 = c + n
  | 0, p, c, w, _, _, h => by
    rw [show p + ((0 : Nat) : Int) = p by omega] at h ⊢
    rw [ltp_e h]; exact ⟨rfl, by show c = c + ((0 : Nat) : Int); omega⟩
  | n + 1, p, c, w, hp, h, g => by
    have h0 := h 0 (by omega)
    rw [show p + ((0 : Nat) : Int) = p by omega] at h0
    rw [ltp_s (by omega) h0]
    have q := ltp_cnt n (p := p + 1) (c := c + 1) (w := shw w (s p)) (by omega) (fun j w => by rw [show p + 1 + (j : Int) = p + ((j + 1 : Nat) : Int) by omega]; exact h (j + 1) (by omega)) (by rw [show p + 1 + (n : Int) = p + ((n + 1 : Nat) : Int) by omega]; exact g)
    exact ⟨by rw [q.1]; omega, by rw [q.2]; omega⟩
theorem dgp_cnt {s : Int → Int} : ∀ (n : Nat) {p c v : Int}, p + n ≤ 1300 → (∀ j : Nat, j < n → 48 ≤ s (p + j) ∧ s (p + j) ≤ 57) → ¬ (48 ≤ s (p + n) ∧ s (p + n) ≤ 57) → (dgp s p v c).1 = p + n ∧ (dgp s p v c).2.2 = c + n
  | 0, p, c, v, _, _, h => by
    rw [show p + ((0 : Nat) : Int) = p by omega] at h ⊢
    rw [dgp_e h]; exact ⟨rfl, by show c = c + ((0 : Nat) : Int); omega⟩
  | n + 1, p, c, v, hp, h, g => by
    have h0 := h 0 (by omega)
    rw [show p + ((0 : Nat) : Int) = p by omega] at h0
    rw [dgp_s (by omega) h0]
    have q := dgp_cnt n (p := p + 1) (c := c + 1) (v := dgv v c (s p)) (by omega) (fun j w => by rw [show p + 1 + (j : Int) = p + ((j + 1 : Nat) : Int) by omega]; exact h (j + 1) (by omega)) (by rw [show p + 1 + (n : Int) = p + ((n + 1 : Nat) : Int) by omega]; exact g)
    exact ⟨by rw [q.1]; omega, by rw [q.2]; omega⟩

