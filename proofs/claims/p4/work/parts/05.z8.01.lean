theorem hfd_0 : ∀ (τ : MS) (x : Nat), (∀ j, j < 200 → τ.2.1 j (x : Int) = dfF j) → cF 0 τ x = [.null, .null, .int 0, .int 0, .int 0] := fun τ x h => by
  show cL 0 [true, true, false, false, false] τ x = _
  simp only [cL]
  rw [h 0 (by decide), h 1 (by decide), h 2 (by decide), h 3 (by decide), h 4 (by decide)]
  rfl
theorem hfd_1 : ∀ (τ : MS) (x : Nat), (∀ j, j < 200 → τ.2.1 j (x : Int) = dfF j) → cF 1 τ x = [.null, .int 0, .int 0, .int 0, .int 0, .int 0, .null, .null, .null, .null, .null, .null] := fun τ x h => by
  show cL 5 [true, false, false, false, false, false, true, true, true, true, true, true] τ x = _
  simp only [cL]
  rw [h 5 (by decide), h 6 (by decide), h 7 (by decide), h 8 (by decide), h 9 (by decide), h 10 (by decide), h 11 (by decide), h 12 (by decide), h 13 (by decide), h 14 (by decide), h 15 (by decide), h 16 (by decide)]
  rfl
theorem hfd_2 : ∀ (τ : MS) (x : Nat), (∀ j, j < 200 → τ.2.1 j (x : Int) = dfF j) → cF 2 τ x = [.null] := fun τ x h => by
  show cL 17 [true] τ x = _
  simp only [cL]
  rw [h 17 (by decide)]
  rfl
theorem hfd_3 : ∀ (τ : MS) (x : Nat), (∀ j, j < 200 → τ.2.1 j (x : Int) = dfF j) → cF 3 τ x = [.null, .null, .null, .null, .int 0] := fun τ x h => by
  show cL 18 [true, true, true, true, false] τ x = _
  simp only [cL]
  rw [h 18 (by decide), h 19 (by decide), h 20 (by decide), h 21 (by decide), h 22 (by decide)]
  rfl
theorem hfd_4 : ∀ (τ : MS) (x : Nat), (∀ j, j < 200 → τ.2.1 j (x : Int) = dfF j) → cF 4 τ x = [.null, .null, .null, .null, .int 0, .int 0, .int 0, .int 0, .int 0, .int 0] := fun τ x h => by
  show cL 23 [true, true, true, true, false, false, false, false, false, false] τ x = _
  simp only [cL]
  rw [h 23 (by decide), h 24 (by decide), h 25 (by decide), h 26 (by decide), h 27 (by decide), h 28 (by decide), h 29 (by decide), h 30 (by decide), h 31 (by decide), h 32 (by decide)]
  rfl
theorem hfd_5 : ∀ (τ : MS) (x : Nat), (∀ j, j < 200 → τ.2.1 j (x : Int) = dfF j) → cF 5 τ x = [.null, .null, .null, .null, .null, .int 0, .null, .null, .null, .int 0, .int 0, .int 0, .int 0, .int 0, .int 0, .null, .null, .int 0, .int 0] := fun τ x h => by
  show cL 33 [true, true, true, true, true, false, true, true, true, false, false, false, false, false, false, true, true, false, false] τ x = _
  simp only [cL]
  rw [h 33 (by decide), h 34 (by decide), h 35 (by decide), h 36 (by decide), h 37 (by decide), h 38 (by decide), h 39 (by decide), h 40 (by decide), h 41 (by decide), h 42 (by decide), h 43 (by decide), h 44 (by decide), h 45 (by decide), h 46 (by decide), h 47 (by decide), h 48 (by decide), h 49 (by decide), h 50 (by decide), h 51 (by decide)]
  rfl
theorem hfd_6 : ∀ (τ : MS) (x : Nat), (∀ j, j < 200 → τ.2.1 j (x : Int) = dfF j) → cF 6 τ x = [.null, .null, .null] := fun τ x h => by
  show cL 52 [true, true, true] τ x = _
  simp only [cL]
  rw [h 52 (by decide), h 53 (by decide), h 54 (by decide)]
  rfl
theorem hfd_7 : ∀ (τ : MS) (x : Nat), (∀ j, j < 200 → τ.2.1 j (x : Int) = dfF j) → cF 7 τ x = [.null, .int 0, .int 0, .int 0, .null, .null, .null, .null, .null, .null, .int 0, .int 0, .int 0, .int 0, .null, .int 0, .int 0] := fun τ x h => by
  show cL 55 [true, false, false, false, true, true, true, true, true, true, false, false, false, false, true, false, false] τ x = _
  simp only [cL]
  rw [h 55 (by decide), h 56 (by decide), h 57 (by decide), h 58 (by decide), h 59 (by decide), h 60 (by decide), h 61 (by decide), h 62 (by decide), h 63 (by decide), h 64 (by decide), h 65 (by decide), h 66 (by decide), h 67 (by decide), h 68 (by decide), h 69 (by decide), h 70 (by decide), h 71 (by decide)]
  rfl
theorem hfd_8 : ∀ (τ : MS) (x : Nat), (∀ j, j < 200 → τ.2.1 j (x : Int) = dfF j) → cF 8 τ x = [.null, .null, .null, .null, .null, .null, .null, .null, .int 0] := fun τ x h => by
  show cL 72 [true, true, true, true, true, true, true, true, false] τ x = _
  simp only [cL]
  rw [h 72 (by decide), h 73 (by decide), h 74 (by decide), h 75 (by decide), h 76 (by decide), h 77 (by decide), h 78 (by decide), h 79 (by decide), h 80 (by decide)]
  rfl
theorem hfd_9 : ∀ (τ : MS) (x : Nat), (∀ j, j < 200 → τ.2.1 j (x : Int) = dfF j) → cF 9 τ x = [.null, .null, .null, .int 0, .int 0, .int 0, .int 0] := fun τ x h => by
  show cL 81 [true, true, true, false, false, false, false] τ x = _
  simp only [cL]
  rw [h 81 (by decide), h 82 (by decide), h 83 (by decide), h 84 (by decide), h 85 (by decide), h 86 (by decide), h 87 (by decide)]
  rfl
theorem hfd_10 : ∀ (τ : MS) (x : Nat), (∀ j, j < 200 → τ.2.1 j (x : Int) = dfF j) → cF 10 τ x = [.null, .null, .null, .null, .null, .int 0, .int 0] := fun τ x h => by
  show cL 88 [true, true, true, true, true, false, false] τ x = _
  simp only [cL]
  rw [h 88 (by decide), h 89 (by decide), h 90 (by decide), h 91 (by decide), h 92 (by decide), h 93 (by decide), h 94 (by decide)]
  rfl
theorem hfd_11 : ∀ (τ : MS) (x : Nat), (∀ j, j < 200 → τ.2.1 j (x : Int) = dfF j) → cF 11 τ x = [.null, .int 0, .int 0, .null, .null, .null, .null, .null, .null, .int 0, .int 0, .null, .null, .null, .null, .null] := fun τ x h => by
  show cL 95 [true, false, false, true, true, true, true, true, true, false, false, true, true, true, true, true] τ x = _
  simp only [cL]
  rw [h 95 (by decide), h 96 (by decide), h 97 (by decide), h 98 (by decide), h 99 (by decide), h 100 (by decide), h 101 (by decide), h 102 (by decide), h 103 (by decide), h 104 (by decide), h 105 (by decide), h 106 (by decide), h 107 (by decide), h 108 (by decide), h 109 (by decide), h 110 (by decide)]
  rfl
