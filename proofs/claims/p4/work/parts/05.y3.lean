/-! what each field may hold: q is the object's tag -/
def cls (n : Nat) : Nat := if n < 5 then 0 else if n < 17 then 1 else if n < 18 then 2 else if n < 23 then 3 else if n < 33 then 4 else if n < 52 then 5 else if n < 55 then 6 else if n < 72 then 7 else if n < 81 then 8 else if n < 88 then 9 else if n < 95 then 10 else if n < 111 then 11 else 99
def AR (T : CT) (x k : Nat) (lo hi : Nat) : Prop := (T x).1 = k ∧ lo ≤ (T x).2 ∧ (T x).2 ≤ hi
/-- a value that a row of numbers may hold at i: q is the row's tag -/
def VOK (q : Nat) (i v : Int) : Prop := (-2147483648 ≤ v ∧ v ≤ 2147483647) ∧ (q = 11 → 0 ≤ v ∧ v ≤ 12) ∧ (q = 12 → i = 1200 → v = 0 ∨ v = 263 ∨ v = 264) ∧ (q = 13 → i % 13 = 0 → v ≠ 14 ∧ v ≠ 15) ∧ (q = 14 → v = 0)
theorem vok_1 {q : Nat} {i v : Int} (h : q = 1 ∨ (15 ≤ q ∧ q ≤ 24) ∨ q = 2) (hv : -2147483648 ≤ v ∧ v ≤ 2147483647) : VOK q i v := ⟨hv, fun e => by omega, fun e => by omega, fun e => by omega, fun e => by omega⟩
theorem vok_0 {q : Nat} {i : Int} : VOK q i 0 := ⟨⟨by omega, by omega⟩, fun _ => ⟨by omega, by omega⟩, fun _ _ => Or.inl rfl, fun _ _ => ⟨by omega, by omega⟩, fun _ => rfl⟩
theorem vok_z {q : Nat} {i v : Int} (h : v = 0) : VOK q i v := by rw [h]; exact vok_0
theorem vok_11 {i v : Int} (hv : 0 ≤ v ∧ v ≤ 12) : VOK 11 i v := ⟨⟨by omega, by omega⟩, fun _ => hv, fun e => by omega, fun e => by omega, fun e => by omega⟩
theorem vok_13 {q : Nat} {i v : Int} (h : q = 1 ∨ q = 13) (hv : -2147483648 ≤ v ∧ v ≤ 2147483647) (hk : q = 13 → i % 13 = 0 → v ≠ 14 ∧ v ≠ 15) : VOK q i v := ⟨hv, fun e => by omega, fun e => by omega, hk, fun e => by omega⟩
def FOL : List (Nat → CT → Int → Prop) := [
  (fun q T v => ∃ x : Nat, v = (x : Int) ∧ (T x).1 = 37),
  (fun q T v => ∃ x : Nat, v = (x : Int) ∧ (T x).1 = 57),
  (fun q T v => ((-2147483648 : Int) ≤ v ∧ v ≤ 2147483647)),
  (fun q T v => ((-2147483648 : Int) ≤ v ∧ v ≤ 2147483647)),
  (fun q T v => ((-2147483648 : Int) ≤ v ∧ v ≤ 2147483647)),
  (fun q T v => ∃ x : Nat, v = (x : Int) ∧ (208 ≤ (T x).2 ∧ (T x).2 ≤ 2600) ∧ (q = 50 → (T x).1 = 1) ∧ (q ≠ 50 → (T x).1 = 13)),
  (fun q T v => ((0 : Int) ≤ v ∧ v ≤ 5000) ∧ (q = 50 → v ≤ 200)),
  (fun q T v => ((0 : Int) ≤ v ∧ v ≤ 12)),
  (fun q T v => ((0 : Int) ≤ v ∧ v ≤ 4)),
  (fun q T v => ((-2147483648 : Int) ≤ v ∧ v ≤ 2147483647)),
  (fun q T v => ((0 : Int) ≤ v ∧ v ≤ 12)),
  (fun q T v => ∃ x : Nat, v = (x : Int) ∧ AR T x 1 12 12),
  (fun q T v => ∃ x : Nat, v = (x : Int) ∧ AR T x 1 12 12),
  (fun q T v => ∃ x : Nat, v = (x : Int) ∧ AR T x 1 12 12),
  (fun q T v => ∃ x : Nat, v = (x : Int) ∧ AR T x 11 12 12),
  (fun q T v => ∃ x : Nat, v = (x : Int) ∧ AR T x 1 144 144),
  (fun q T v => ∃ x : Nat, v = (x : Int) ∧ AR T x 1 13 13),
  (fun q T v => ∃ x : Nat, v = (x : Int) ∧ (T x).1 = 33),
  (fun q T v => ∃ x : Nat, v = (x : Int) ∧ AR T x 3 603 603),
  (fun q T v => ∃ x : Nat, v = (x : Int) ∧ AR T x 3 3 3),
  (fun q T v => ∃ x : Nat, v = (x : Int) ∧ AR T x 1 201 201),
  (fun q T v => ∃ x : Nat, v = (x : Int) ∧ AR T x 1 201 201),
  (fun q T v => ((-2147483648 : Int) ≤ v ∧ v ≤ 2147483647)),
  (fun q T v => ∃ x : Nat, v = (x : Int) ∧ (T x).1 = 33),
  (fun q T v => ∃ x : Nat, v = (x : Int) ∧ AR T x 1 8 8),
  (fun q T v => v < 0 ∨ ∃ x : Nat, v = (x : Int) ∧ (T x).1 = 50),
  (fun q T v => v < 0 ∨ ∃ x : Nat, v = (x : Int) ∧ (T x).1 = 50),
  (fun q T v => ((-2147483648 : Int) ≤ v ∧ v ≤ 2147483647)),
  (fun q T v => ((-2147483648 : Int) ≤ v ∧ v ≤ 2147483647)),
  (fun q T v => ((-2147483648 : Int) ≤ v ∧ v ≤ 2147483647)),
  (fun q T v => ((-2147483648 : Int) ≤ v ∧ v ≤ 2147483647)),
  (fun q T v => ((-2147483648 : Int) ≤ v ∧ v ≤ 2147483647)),
  (fun q T v => ((-2147483648 : Int) ≤ v ∧ v ≤ 2147483647)),
  (fun q T v => ∃ x : Nat, v = (x : Int) ∧ (T x).1 = 39),
  (fun q T v => ∃ x : Nat, v = (x : Int) ∧ AR T x 4 7 7),
  (fun q T v => ∃ x : Nat, v = (x : Int) ∧ (T x).1 = 31),
  (fun q T v => ∃ x : Nat, v = (x : Int) ∧ AR T x 16 256 256),
  (fun q T v => ∃ x : Nat, v = (x : Int) ∧ AR T x 17 256 256),
  (fun q T v => ((0 : Int) ≤ v ∧ v ≤ 256)),
  (fun q T v => ∃ x : Nat, v = (x : Int) ∧ AR T x 18 256 256),
  (fun q T v => ∃ x : Nat, v = (x : Int) ∧ AR T x 19 256 256),
  (fun q T v => ∃ x : Nat, v = (x : Int) ∧ AR T x 20 256 256),
  (fun q T v => ((0 : Int) ≤ v ∧ v ≤ 256)),
  (fun q T v => ((-2147483648 : Int) ≤ v ∧ v ≤ 2147483647)),
  (fun q T v => ((-2147483648 : Int) ≤ v ∧ v ≤ 2147483647)),
  (fun q T v => ((-2147483648 : Int) ≤ v ∧ v ≤ 2147483647)),
  (fun q T v => ((-2147483648 : Int) ≤ v ∧ v ≤ 2147483647)),
  (fun q T v => ((-2147483648 : Int) ≤ v ∧ v ≤ 2147483647)),
  (fun q T v => ∃ x : Nat, v = (x : Int) ∧ AR T x 21 12 12),
  (fun q T v => ∃ x : Nat, v = (x : Int) ∧ AR T x 1 8 8),
  (fun q T v => ((-2147483648 : Int) ≤ v ∧ v ≤ 2147483647)),
  (fun q T v => ((-2147483648 : Int) ≤ v ∧ v ≤ 2147483647)),
  (fun q T v => ∃ x : Nat, v = (x : Int) ∧ AR T x 1 192 192),
  (fun q T v => ∃ x : Nat, v = (x : Int) ∧ AR T x 1 192 192),
  (fun q T v => ∃ x : Nat, v = (x : Int) ∧ AR T x 3 3 3),
  (fun q T v => ∃ x : Nat, v = (x : Int) ∧ (T x).2 = 6 ∧ (q = 57 → (T x).1 = 4) ∧ (q ≠ 57 → (T x).1 = 5)),
  (fun q T v => ((-2147483648 : Int) ≤ v ∧ v ≤ 2147483647)),
  (fun q T v => ((0 : Int) ≤ v ∧ v ≤ 11184800) ∧ (q = 57 → v ≤ 8)),
  (fun q T v => ((-2147483648 : Int) ≤ v ∧ v ≤ 2147483647)),
  (fun q T v => ∃ x : Nat, v = (x : Int) ∧ AR T x 15 9 9),
  (fun q T v => ∃ x : Nat, v = (x : Int) ∧ AR T x 1 9 9),
  (fun q T v => ∃ x : Nat, v = (x : Int) ∧ (T x).2 = 9 ∧ (q = 57 → (T x).1 = 14) ∧ (q ≠ 57 → (T x).1 = 1)),
  (fun q T v => ∃ x : Nat, v = (x : Int) ∧ AR T x 1 108 108),
  (fun q T v => ∃ x : Nat, v = (x : Int) ∧ AR T x 1 1728 1728),
  (fun q T v => ∃ x : Nat, v = (x : Int) ∧ AR T x 1 200 200),
  (fun q T v => ((-2147483648 : Int) ≤ v ∧ v ≤ 2147483647)),
  (fun q T v => ((-2147483648 : Int) ≤ v ∧ v ≤ 2147483647)),
  (fun q T v => ((-2147483648 : Int) ≤ v ∧ v ≤ 2147483647)),
  (fun q T v => ((-2147483648 : Int) ≤ v ∧ v ≤ 2147483647)),
  (fun q T v => v < 0 ∨ ∃ x : Nat, v = (x : Int) ∧ (q = 57 → (T x).1 = 31) ∧ (q ≠ 57 → (T x).1 = 50)),
  (fun q T v => ((-2147483648 : Int) ≤ v ∧ v ≤ 2147483647)),
  (fun q T v => ((-2147483648 : Int) ≤ v ∧ v ≤ 2147483647)),
  (fun q T v => ∃ x : Nat, v = (x : Int) ∧ (T x).1 = 33),
  (fun q T v => ∃ x : Nat, v = (x : Int) ∧ AR T x 3 576 576),
  (fun q T v => ∃ x : Nat, v = (x : Int) ∧ AR T x 3 3 3),
  (fun q T v => ∃ x : Nat, v = (x : Int) ∧ AR T x 1 192 192),
  (fun q T v => ∃ x : Nat, v = (x : Int) ∧ AR T x 3 576 576),
  (fun q T v => ∃ x : Nat, v = (x : Int) ∧ AR T x 3 603 603),
  (fun q T v => ∃ x : Nat, v = (x : Int) ∧ AR T x 1 201 201),
  (fun q T v => ∃ x : Nat, v = (x : Int) ∧ AR T x 3 3 3),
  (fun q T v => ((0 : Int) ≤ v ∧ v ≤ 1)),
  (fun q T v => ∃ x : Nat, v = (x : Int) ∧ AR T x 12 1201 1201),
  (fun q T v => ∃ x : Nat, v = (x : Int) ∧ AR T x 22 1201 1201),
  (fun q T v => ∃ x : Nat, v = (x : Int) ∧ AR T x 23 1201 1201),
  (fun q T v => ((-1 : Int) ≤ v ∧ v ≤ 1200)),
  (fun q T v => ((-2147483648 : Int) ≤ v ∧ v ≤ 2147483647)),
  (fun q T v => ((-2147483648 : Int) ≤ v ∧ v ≤ 2147483647)),
  (fun q T v => ((-2147483648 : Int) ≤ v ∧ v ≤ 2147483647)),
  (fun q T v => ∃ x : Nat, v = (x : Int) ∧ AR T x 7 6 6),
  (fun q T v => ∃ x : Nat, v = (x : Int) ∧ AR T x 1 6 6),
  (fun q T v => ∃ x : Nat, v = (x : Int) ∧ AR T x 1 200 200),
  (fun q T v => ∃ x : Nat, v = (x : Int) ∧ AR T x 1 145 145),
  (fun q T v => v < 0 ∨ ∃ x : Nat, v = (x : Int) ∧ AR T x 1 0 32788),
  (fun q T v => ((0 : Int) ≤ v ∧ v ≤ 145)),
  (fun q T v => ((0 : Int) ≤ v ∧ v ≤ 1)),
  (fun q T v => ∃ x : Nat, v = (x : Int) ∧ AR T x 2 1200 1200),
  (fun q T v => ((0 : Int) ≤ v ∧ v ≤ 1200)),
  (fun q T v => ((0 : Int) ≤ v ∧ v ≤ 6)),
  (fun q T v => ∃ x : Nat, v = (x : Int) ∧ AR T x 4 6 6),
  (fun q T v => ∃ x : Nat, v = (x : Int) ∧ AR T x 5 6 6),
  (fun q T v => ∃ x : Nat, v = (x : Int) ∧ (T x).1 = 35),
  (fun q T v => ∃ x : Nat, v = (x : Int) ∧ (T x).1 = 33),
  (fun q T v => ∃ x : Nat, v = (x : Int) ∧ (T x).1 = 40),
  (fun q T v => ∃ x : Nat, v = (x : Int) ∧ (T x).1 = 37),
  (fun q T v => ((-2147483648 : Int) ≤ v ∧ v ≤ 2147483647)),
  (fun q T v => ((-2147483648 : Int) ≤ v ∧ v ≤ 2147483647)),
  (fun q T v => ∃ x : Nat, v = (x : Int) ∧ (T x).1 = 36),
  (fun q T v => ∃ x : Nat, v = (x : Int) ∧ (T x).1 = 32),
  (fun q T v => ∃ x : Nat, v = (x : Int) ∧ (T x).1 = 34),
  (fun q T v => ∃ x : Nat, v = (x : Int) ∧ (T x).1 = 38),
  (fun q T v => v < 0 ∨ ∃ x : Nat, v = (x : Int) ∧ (T x).1 = 30)]
def FO (n q : Nat) (T : CT) (v : Int) : Prop := (FOL.getD n (fun _ _ _ => True)) q T v
/-- numbers in rows -/
def WTA (T : CT) (σ : MS) : Prop := ∀ a, (IA T a ∨ (T a).1 = 2) → ∀ i, VOK (T a).1 i (σ.2.1 (1000 + a) i)
/-- codes in rows -/
def WTQ (T : CT) (σ : MS) : Prop := (∀ a, (T a).1 = 4 → ∀ i, 0 ≤ i → i < ((T a).2 : Int) → ∃ x : Nat, σ.2.1 (1000 + a) i = (x : Int) ∧ (T x).1 = 31) ∧ (∀ a, (T a).1 = 5 → ∀ i, 0 ≤ i → i < ((T a).2 : Int) → ∃ x : Nat, σ.2.1 (1000 + a) i = (x : Int) ∧ (T x).1 = 50)
/-- the row of tables -/
def WTM (T : CT) (σ : MS) : Prop := (∀ a b, (T a).1 = 7 → (T b).1 = 7 → a = b) ∧ ∀ i, 0 ≤ i → i < 6 → σ.2.1 900 i < 0 ∨ ∃ x : Nat, σ.2.1 900 i = (x : Int) ∧ AR T x 1 0 32788
/-- the cells of a code hold its items -/
def WTC (T : CT) (σ : MS) : Prop := ∀ a x : Nat, OB T a 1 → σ.2.1 5 a = (x : Int) → 13 * σ.2.1 6 a ≤ ((T x).2 : Int) ∨ 2600 ≤ (T x).2
/-- what was made is paid for -/
def phL (n : Nat) : Nat := if n < 2600 then 1000 + 2 * n else 8800
def cLen (T : CT) (σ : MS) (a : Nat) : Nat := (T (σ.2.1 5 a).toNat).2
def tLen (T : CT) (σ : MS) (i : Int) : Nat := if σ.2.1 900 i < 0 then 0 else (T (σ.2.1 900 i).toNat).2
def tSum (f : Int → Nat) : Nat := f 0 + f 1 + f 2 + f 3 + f 4 + f 5
def prS (σ : MS) (b : Nat) : Nat := if σ.2.1 110 b < 0 then 0 else 5000
def BUD (e e1 b : Nat) (K : List Nat) (T : CT) (σ : MS) : Prop := K.length ≤ 19 ∧ (∀ a, a ∈ K ↔ OB T a 1) ∧ (σ.1 0 ≤ ((30000 + (K.map (fun a => phL (cLen T σ a))).sum + 9 * tSum (tLen T σ) + prS σ b + e : Nat) : Int)) ∧ (σ.1 1 ≤ ((1000 + (K.map (fun a => cLen T σ a)).sum + tSum (tLen T σ) + prS σ b + e1 : Nat) : Int))
def WTs (e e1 : Nat) (T : CT) (σ : MS) : Prop := (∀ n a, n < 111 → OB T a (cls n) → FO n (T a).1 T (σ.2.1 n a)) ∧ WTC T σ ∧ WTA T σ ∧ WTQ T σ ∧ WTM T σ ∧ ∃ b K, (∀ a, OB T a 11 → a = b) ∧ BUD e e1 b K T σ
def WT (T : CT) (σ : MS) : Prop := WTs 0 0 T σ
section WTS
variable {T : CT} {σ τ : MS} {n a : Nat} {v z : Int}
theorem cLen_put (h : n ≠ 5) : cLen T (sA n z v σ) = cLen T σ := by
  funext b; unfold cLen; rw [sA_k (by omega)]
theorem tLen_put (h : n ≠ 900) : tLen T (sA n z v σ) = tLen T σ := by
  funext b; unfold tLen; rw [sA_k (by omega)]
theorem prS_put {b : Nat} (h : n ≠ 110) : prS (sA n z v σ) b = prS σ b := by
  unfold prS; rw [sA_k (by omega)]
theorem BUD.put {e e1 b : Nat} {K : List Nat} (h : BUD e e1 b K T σ) (h1 : n ≠ 5) (h2 : n ≠ 900) (h3 : n ≠ 110) : BUD e e1 b K T (sA n z v σ) := by
  unfold BUD
  rw [cLen_put h1, tLen_put h2, prS_put h3]
  exact h
/-- a field is written -/
theorem WT.put0 (h : WT T σ) (hn : n < 111) (hv : FO n (T a).1 T v) (hc : WTC T (sA n a v σ)) (hb : ∃ b K, (∀ a, OB T a 11 → a = b) ∧ BUD 0 0 b K T (sA n a v σ)) : WT T (sA n a v σ) := by
  obtain ⟨h1, h2, h3, h4, h5, h6⟩ := h
  refine ⟨fun m b q w => ?_, hc, fun b q => ?_, ⟨fun b q => ?_, fun b q => ?_⟩, ⟨h5.1, ?_⟩, hb⟩
  · by_cases e : m = n
    · by_cases f : b = a
      · rw [e, f, show (sA n a v σ).2.1 n a = v from ra_eq]; exact hv
      · rw [sA_ne (by omega)]; exact h1 m b q w
    · rw [sA_k e]; exact h1 m b q w
  · rw [sA_k (by omega)]; exact h3 b q
  · rw [sA_k (by omega)]; exact h4.1 b q
  · rw [sA_k (by omega)]; exact h4.2 b q
  · rw [sA_k (by omega)]; exact h5.2
theorem WT.put (h : WT T σ) (hn : n < 111) (h5 : n ≠ 5 ∧ n ≠ 6 ∧ n ≠ 110) (hv : FO n (T a).1 T v) : WT T (sA n a v σ) := by
  obtain ⟨b, K, e, w⟩ := h.2.2.2.2.2
  refine h.put0 hn hv (fun c x q r => ?_) ⟨b, K, e, w.put h5.1 (by omega) h5.2.2⟩
  rw [sA_k (by omega)] at r
  rw [sA_k (by omega)]
  exact h.2.1 c x q r
theorem WT.put6 {x : Nat} (h : WT T σ) (hx : σ.2.1 5 a = (x : Int)) (hv : FO 6 (T a).1 T v) (hl : 13 * v ≤ ((T x).2 : Int) ∨ 2600 ≤ (T x).2) : WT T (sA 6 a v σ) := by
  obtain ⟨b, K, e, w⟩ := h.2.2.2.2.2
  refine h.put0 (by omega) hv (fun c y q r => ?_) ⟨b, K, e, w.put (by omega) (by omega) (by omega)⟩
  rw [sA_k (by omega)] at r
  by_cases f : c = a
  · rw [f] at r
    have e2 : y = x := by omega
    rw [f, show (sA 6 a v σ).2.1 6 a = v from ra_eq, e2]
    exact hl
  · rw [sA_ne (by omega)]
    exact h.2.1 c y q r
/-- a row is written -/
theorem WT.row {f : Int → Int} (h : WT T σ) (ha : IA T a ∨ (T a).1 = 2) (hv : ∀ i, VOK (T a).1 i (f i)) : WT T (rowS (1000 + a) f σ) := by
  obtain ⟨h1, h2, h3, h4, h5, b, K, h6, h7⟩ := h
  have ha2 : (T a).1 ≠ 4 ∧ (T a).1 ≠ 5 := by unfold IA at ha; omega
  refine ⟨fun m b q w => by rw [rowS_ne (by omega)]; exact h1 m b q w, fun c x q r => ?_, fun b q i => ?_, ⟨fun b q => ?_, fun b q => ?_⟩, ⟨h5.1, by rw [rowS_ne (by omega)]; exact h5.2⟩, b, K, h6, ?_⟩
  · rw [rowS_ne (by omega)] at r; rw [rowS_ne (by omega)]; exact h2 c x q r
  · by_cases e : b = a
    · rw [e, rowS_eq]; exact hv i
    · rw [rowS_ne (by omega)]; exact h3 b q i
  · have hb : b ≠ a := fun e => by rw [e] at q; omega
    rw [rowS_ne (by omega)]; exact h4.1 b q
  · have hb : b ≠ a := fun e => by rw [e] at q; omega
    rw [rowS_ne (by omega)]; exact h4.2 b q
  · have e1 : cLen T (rowS (1000 + a) f σ) = cLen T σ := by funext b; unfold cLen; rw [rowS_ne (by omega)]
    have e2 : tLen T (rowS (1000 + a) f σ) = tLen T σ := by funext b; unfold tLen; rw [rowS_ne (by omega)]
    have e3 : prS (rowS (1000 + a) f σ) b = prS σ b := by unfold prS; rw [rowS_ne (by omega)]
    unfold BUD
    rw [e1, e2, e3]
    exact h7
theorem sA_row {r : Nat} : sA r z v σ = rowS r (fun q => if q = z then v else σ.2.1 r q) σ := rfl
/-- a number of an array is written -/
theorem WT.arr (h : WT T σ) (ha : IA T a ∨ (T a).1 = 2) (hv : VOK (T a).1 z v) : WT T (sA (1000 + a) z v σ) := by
  rw [sA_row]
  refine h.row ha (fun i => ?_)
  by_cases e : i = z
  · rw [if_pos e, e]; exact hv
  · rw [if_neg e]; exact h.2.2.1 a ha i
theorem WT.lng {w : Int64} (h : WT T σ) : WT T (sJ n z w σ) := h
theorem WT.rowL {f : Int → Int64} (h : WT T σ) : WT T (rowL n f σ) := h
/-- a code in a row of codes -/
theorem WT.rq {x : Nat} (h : WT T σ) (ha : (T a).1 = 4 ∧ (T x).1 = 31 ∨ (T a).1 = 5 ∧ (T x).1 = 50) : WT T (sA (1000 + a) z x σ) := by
  obtain ⟨h1, h2, h3, h4, h5, b, K, h6, h7⟩ := h
  refine ⟨fun m b q w => by rw [sA_k (by omega)]; exact h1 m b q w, fun c x q r => ?_, fun b q i => ?_, ⟨fun b q i i0 i1 => ?_, fun b q i i0 i1 => ?_⟩, ⟨h5.1, by rw [sA_k (by omega)]; exact h5.2⟩, b, K, h6, h7.put (by omega) (by omega) (by omega)⟩
  · rw [sA_k (by omega)] at r; rw [sA_k (by omega)]; exact h2 c x q r
  · have hb : b ≠ a := fun e => by unfold IA at q; rw [e] at q; omega
    rw [sA_k (by omega)]; exact h3 b q i
  · by_cases e : b = a
    · by_cases f : i = z
      · rw [e, f, show (sA (1000 + a) z x σ).2.1 (1000 + a) z = x from ra_eq]; rw [e] at q; exact ⟨x, rfl, by omega⟩
      · rw [sA_ne f]; exact h4.1 b q i i0 i1
    · rw [sA_k (by omega)]; exact h4.1 b q i i0 i1
  · by_cases e : b = a
    · by_cases f : i = z
      · rw [e, f, show (sA (1000 + a) z x σ).2.1 (1000 + a) z = x from ra_eq]; rw [e] at q; exact ⟨x, rfl, by omega⟩
      · rw [sA_ne f]; exact h4.2 b q i i0 i1
    · rw [sA_k (by omega)]; exact h4.2 b q i i0 i1
end WTS
/-- rows whose numbers are told: the tape, the tokens, routineAt, the reader's lists; 500 + tag among the fields: such rows were written -/
def HT (q : Nat) : Prop := q = 2 ∨ q = 12 ∨ (15 ≤ q ∧ q ≤ 24)
def NH (T : CT) (x : Nat) : Prop := ¬ HT (T x).1
def HK (T : CT) (ks : List Nat) (a : Nat) : Prop := HT (T a).1 → 500 + (T a).1 ∈ ks
theorem hk_in {T : CT} {ks : List Nat} {a q : Nat} (h : (T a).1 = q) (m : 500 + q ∈ ks) : HK T ks a := fun _ => by rw [h]; exact m
theorem hk_inG {T T2 : CT} {ks : List Nat} {a q : Nat} (g : GT T T2) (h : (T2 a).1 = q) (m : 500 + q ∈ ks) : HK T ks a := fun w => by
  have e := g a (by unfold HT at w; omega) (by unfold HT at w; omega)
  rw [← e, h]; exact m
theorem hk_no {T : CT} {ks : List Nat} {a : Nat} (h : NH T a) : HK T ks a := fun q => absurd q h
theorem nh_k {T : CT} {x k : Nat} (h : (T x).1 = k) (g : ¬ HT k) : NH T x := fun q => g (by rw [← h]; exact q)
theorem GT.nh {T T2 : CT} {x : Nat} (g : GT T T2) (h : NH T2 x) : NH T x := fun w => h (by
  rw [g x (by unfold HT at w; omega) (by unfold HT at w; omega)]; exact w)
/-- of the fields only these were written -/
def FrC (T : CT) (ks : List Nat) (σ τ : MS) : Prop := (∀ k, (k < 200 ∨ k = 900) → k ∉ ks → τ.2.1 k = σ.2.1 k) ∧ (∀ a, HT (T a).1 → 500 + (T a).1 ∉ ks → τ.2.1 (1000 + a) = σ.2.1 (1000 + a))
section FRC
variable {T T2 : CT} {ks ls : List Nat} {σ τ υ : MS} {k : Nat}
theorem FrC.rfl : FrC T ks σ σ := ⟨fun _ _ _ => Eq.refl _, fun _ _ _ => Eq.refl _⟩
theorem FrC.trans (h : FrC T ks σ τ) (g : FrC T ks τ υ) : FrC T ks σ υ := ⟨fun k a b => (g.1 k a b).trans (h.1 k a b), fun k a b => (g.2 k a b).trans (h.2 k a b)⟩
theorem FrC.sub (h : FrC T ks σ τ) (e : ∀ k ∈ ks, k ∈ ls) : FrC T ls σ τ := ⟨fun k a b => h.1 k a (fun q => b (e k q)), fun x y z => h.2 x y (fun q => z (e _ q))⟩
theorem FrC.old (h : FrC T2 ks σ τ) (g : GT T T2) : FrC T ks σ τ := ⟨h.1, fun a b c => by
  have e := g a (by unfold HT at b; omega) (by unfold HT at b; omega)
  exact h.2 a (by rw [e]; exact b) (by rw [e]; exact c)⟩
theorem FrC.put {z v : Int} (h : FrC T ks σ τ) (hk : k ∈ ks) (h2 : k < 200) : FrC T ks σ (sA k z v τ) := ⟨fun j a b => by
  rw [sA_k (fun e => b (by rw [e]; exact hk))]
  exact h.1 j a b, fun a b c => by rw [sA_k (by omega)]; exact h.2 a b c⟩
theorem FrC.put9 {z v : Int} (h : FrC T ks σ τ) (hk : 900 ∈ ks) : FrC T ks σ (sA 900 z v τ) := ⟨fun j a b => by
  rw [sA_k (fun e => b (by rw [e]; exact hk))]
  exact h.1 j a b, fun a b c => by rw [sA_k (by omega)]; exact h.2 a b c⟩
theorem FrC.row {a : Nat} {f : Int → Int} (h : FrC T ks σ τ) (ha : HK T ks a) : FrC T ks σ (rowS (1000 + a) f τ) := ⟨fun j q b => by
  rw [rowS_ne (by omega)]
  exact h.1 j q b, fun x b c => by
    have e : x ≠ a := fun e => c (by rw [e]; exact ha (by rw [← e]; exact b))
    rw [rowS_ne (by omega)]; exact h.2 x b c⟩
theorem FrC.arr {a : Nat} {z v : Int} (h : FrC T ks σ τ) (ha : HK T ks a) : FrC T ks σ (sA (1000 + a) z v τ) := by
  rw [sA_row]; exact h.row ha
theorem FrC.lng {a : Nat} {z : Int} {v : Int64} (h : FrC T ks σ τ) : FrC T ks σ (sJ a z v τ) := h
theorem FrC.rowL {a : Nat} {f : Int → Int64} (h : FrC T ks σ τ) : FrC T ks σ (rowL a f τ) := h
theorem FrC.gh {n : Nat} (h : FrC T ks σ τ) : FrC T ks σ (gh n τ) := h
theorem rc_F {z v : Int} (f : FrC T ks σ τ) (h : k < 200 ∨ k = 900) (g : k ∉ ks) (e : σ.2.1 k z = v) : τ.2.1 k z = v := by
  rw [f.1 k h g]; exact e
theorem rc_o {j : Nat} {z i w v : Int} (h : k ≠ j) (e : σ.2.1 k z = v) : (sA j i w σ).2.1 k z = v := ra_o h e
theorem rc_a {a : Nat} {z i w v : Int} (h : k < 200 ∨ k = 900) (e : σ.2.1 k z = v) : (sA (1000 + a) i w σ).2.1 k z = v := ra_o (by omega) e
theorem rc_r {a : Nat} {f : Int → Int} {z v : Int} (h : k < 200 ∨ k = 900) (e : σ.2.1 k z = v) : (rowS (1000 + a) f σ).2.1 k z = v := by rw [rowS_ne (by omega)]; exact e
end FRC
/-! what grows -/
section GRW
variable {T T2 : CT} {a c k : Nat}
theorem GT.kk (g : GT T T2) (h : (T a).1 = k) (h0 : 0 < k) (h1 : k < 80) : (T2 a).1 = k := by rw [g a (by omega) (by omega)]; exact h
theorem GT.ob (g : GT T T2) (h : OB T a c) : OB T2 a c := by
  have e := g a (by have := h.1; omega) h.2.2
  unfold OB; rw [e]; exact h
theorem GT.ia (g : GT T T2) (h : IA T a) : IA T2 a := by
  have e := g a (by unfold IA at h; omega) (by unfold IA at h; omega)
  unfold IA; rw [e]; exact h
theorem GT.at (g : GT T T2) (h : 0 < (T a).1 ∧ (T a).1 < 80) : T2 a = T a := g a (by omega) h.2
end GRW
/-! reading -/
section RDN
variable {d : Nat} {M : MT} {pc : Nat} {T : CT} {σ : MS} {L : List (Nat × Value)} {st : List Value} {post : Option Value → CT → MS → Prop} {a : Nat}
theorem tn_ialdX {z : Int} (hw : WT T σ) (hd : decode M.2.1 pc = .ok (.iaload, 1)) (ha : IA T a) (h0 : 0 ≤ z) (h1 : z < ((T a).2 : Int)) (hn : (T a).2 ≤ 2147483647) (kk : ∀ v, v = σ.2.1 (1000 + a) z → -2147483648 ≤ v ∧ v ≤ 2147483647 → VOK (T a).1 z v → Tn d M (pc + 1) T σ L (.int (iI v) :: st) post) : Tn d M pc T σ L (.int (iI z) :: .ref a :: st) post :=
  tn_iald hd ha h0 h1 hn rfl (kk _ rfl (hw.2.2.1 a (Or.inl ha) z).1 (hw.2.2.1 a (Or.inl ha) z))
theorem tn_baldX {z : Int} (hw : WT T σ) (hd : decode M.2.1 pc = .ok (.baload, 1)) (ha : (T a).1 = 2) (h0 : 0 ≤ z) (h1 : z < ((T a).2 : Int)) (hn : (T a).2 ≤ 2147483647) (kk : ∀ v, -2147483648 ≤ v ∧ v ≤ 2147483647 → Tn d M (pc + 1) T σ L (.int (iI v) :: st) post) : Tn d M pc T σ L (.int (iI z) :: .ref a :: st) post :=
  tn_bald hd ha h0 h1 hn rfl (kk _ (hw.2.2.1 a (Or.inr ha) z).1)
theorem tn_laldX {z : Int} (hd : decode M.2.1 pc = .ok (.laload, 1)) (ha : (T a).1 = 3) (h0 : 0 ≤ z) (h1 : z < ((T a).2 : Int)) (hn : (T a).2 ≤ 2147483647) (kk : ∀ v, Tn d M (pc + 1) T σ L (.long v :: st) post) : Tn d M pc T σ L (.int (iI z) :: .ref a :: st) post :=
  tn_lald hd ha h0 h1 hn rfl (kk _)
theorem tn_alenX (hd : decode M.2.1 pc = .ok (.arraylength, 1)) (ha : IA T a ∨ (T a).1 = 2 ∨ (T a).1 = 3 ∨ (T a).1 = 4 ∨ (T a).1 = 5 ∨ (T a).1 = 7) (kk : Tn d M (pc + 1) T σ L (.int (iI ((T a).2 : Int)) :: st) post) : Tn d M pc T σ L (.ref a :: st) post := by
  rcases ha with h | h | h | h | h | h
  · exact tn_alen hd (fun P0 => ovC_i h) rfl kk
  · exact tn_alen hd (fun P0 => ovC_b h) rfl kk
  · exact tn_alen hd (fun P0 => ovC_l h) rfl kk
  · exact tn_alen hd (fun P0 => ovC_q (by omega)) rfl kk
  · exact tn_alen hd (fun P0 => ovC_q (by omega)) rfl kk
  · exact tn_alen hd (fun P0 => ovC_m h) rfl kk
theorem tn_longX {w : Int64} (kk : ∀ v, Tn d M pc T σ L (.long v :: st) post) : Tn d M pc T σ L (.long w :: st) post := kk w
end RDN

section WFS
variable {T : CT} {σ : MS} {a q : Nat} {v : Int}
theorem wf_0 (h : WT T σ) (ha : OB T a 0) : ∃ x : Nat, σ.2.1 0 a = (x : Int) ∧ (T x).1 = 37 := h.1 0 a (by decide) ha
theorem fo_0 (h : ∃ x : Nat, v = (x : Int) ∧ (T x).1 = 37) : FO 0 q T v := h
theorem wf_1 (h : WT T σ) (ha : OB T a 0) : ∃ x : Nat, σ.2.1 1 a = (x : Int) ∧ (T x).1 = 57 := h.1 1 a (by decide) ha
theorem fo_1 (h : ∃ x : Nat, v = (x : Int) ∧ (T x).1 = 57) : FO 1 q T v := h
theorem wf_2 (h : WT T σ) (ha : OB T a 0) : ((-2147483648 : Int) ≤ σ.2.1 2 a ∧ σ.2.1 2 a ≤ 2147483647) := h.1 2 a (by decide) ha
theorem fo_2 (h : ((-2147483648 : Int) ≤ v ∧ v ≤ 2147483647)) : FO 2 q T v := h
theorem wf_3 (h : WT T σ) (ha : OB T a 0) : ((-2147483648 : Int) ≤ σ.2.1 3 a ∧ σ.2.1 3 a ≤ 2147483647) := h.1 3 a (by decide) ha
theorem fo_3 (h : ((-2147483648 : Int) ≤ v ∧ v ≤ 2147483647)) : FO 3 q T v := h
theorem wf_4 (h : WT T σ) (ha : OB T a 0) : ((-2147483648 : Int) ≤ σ.2.1 4 a ∧ σ.2.1 4 a ≤ 2147483647) := h.1 4 a (by decide) ha
theorem fo_4 (h : ((-2147483648 : Int) ≤ v ∧ v ≤ 2147483647)) : FO 4 q T v := h
theorem wf_5 (h : WT T σ) (ha : OB T a 1) : ∃ x : Nat, σ.2.1 5 a = (x : Int) ∧ (208 ≤ (T x).2 ∧ (T x).2 ≤ 2600) ∧ ((T a).1 = 50 → (T x).1 = 1) ∧ ((T a).1 ≠ 50 → (T x).1 = 13) := h.1 5 a (by decide) ha
theorem fo_5 (h : ∃ x : Nat, v = (x : Int) ∧ (208 ≤ (T x).2 ∧ (T x).2 ≤ 2600) ∧ (q = 50 → (T x).1 = 1) ∧ (q ≠ 50 → (T x).1 = 13)) : FO 5 q T v := h
theorem wf_6 (h : WT T σ) (ha : OB T a 1) : ((0 : Int) ≤ σ.2.1 6 a ∧ σ.2.1 6 a ≤ 5000) ∧ ((T a).1 = 50 → σ.2.1 6 a ≤ 200) := h.1 6 a (by decide) ha
theorem fo_6 (h : ((0 : Int) ≤ v ∧ v ≤ 5000) ∧ (q = 50 → v ≤ 200)) : FO 6 q T v := h
theorem wf_7 (h : WT T σ) (ha : OB T a 1) : ((0 : Int) ≤ σ.2.1 7 a ∧ σ.2.1 7 a ≤ 12) := h.1 7 a (by decide) ha
theorem fo_7 (h : ((0 : Int) ≤ v ∧ v ≤ 12)) : FO 7 q T v := h
theorem wf_8 (h : WT T σ) (ha : OB T a 1) : ((0 : Int) ≤ σ.2.1 8 a ∧ σ.2.1 8 a ≤ 4) := h.1 8 a (by decide) ha
theorem fo_8 (h : ((0 : Int) ≤ v ∧ v ≤ 4)) : FO 8 q T v := h
theorem wf_9 (h : WT T σ) (ha : OB T a 1) : ((-2147483648 : Int) ≤ σ.2.1 9 a ∧ σ.2.1 9 a ≤ 2147483647) := h.1 9 a (by decide) ha
theorem fo_9 (h : ((-2147483648 : Int) ≤ v ∧ v ≤ 2147483647)) : FO 9 q T v := h
theorem wf_10 (h : WT T σ) (ha : OB T a 1) : ((0 : Int) ≤ σ.2.1 10 a ∧ σ.2.1 10 a ≤ 12) := h.1 10 a (by decide) ha
theorem fo_10 (h : ((0 : Int) ≤ v ∧ v ≤ 12)) : FO 10 q T v := h
theorem wf_11 (h : WT T σ) (ha : OB T a 1) : ∃ x : Nat, σ.2.1 11 a = (x : Int) ∧ AR T x 1 12 12 := h.1 11 a (by decide) ha
theorem fo_11 (h : ∃ x : Nat, v = (x : Int) ∧ AR T x 1 12 12) : FO 11 q T v := h
theorem wf_12 (h : WT T σ) (ha : OB T a 1) : ∃ x : Nat, σ.2.1 12 a = (x : Int) ∧ AR T x 1 12 12 := h.1 12 a (by decide) ha
theorem fo_12 (h : ∃ x : Nat, v = (x : Int) ∧ AR T x 1 12 12) : FO 12 q T v := h
theorem wf_13 (h : WT T σ) (ha : OB T a 1) : ∃ x : Nat, σ.2.1 13 a = (x : Int) ∧ AR T x 1 12 12 := h.1 13 a (by decide) ha
theorem fo_13 (h : ∃ x : Nat, v = (x : Int) ∧ AR T x 1 12 12) : FO 13 q T v := h
theorem wf_14 (h : WT T σ) (ha : OB T a 1) : ∃ x : Nat, σ.2.1 14 a = (x : Int) ∧ AR T x 11 12 12 := h.1 14 a (by decide) ha
theorem fo_14 (h : ∃ x : Nat, v = (x : Int) ∧ AR T x 11 12 12) : FO 14 q T v := h
theorem wf_15 (h : WT T σ) (ha : OB T a 1) : ∃ x : Nat, σ.2.1 15 a = (x : Int) ∧ AR T x 1 144 144 := h.1 15 a (by decide) ha
theorem fo_15 (h : ∃ x : Nat, v = (x : Int) ∧ AR T x 1 144 144) : FO 15 q T v := h
theorem wf_16 (h : WT T σ) (ha : OB T a 1) : ∃ x : Nat, σ.2.1 16 a = (x : Int) ∧ AR T x 1 13 13 := h.1 16 a (by decide) ha
theorem fo_16 (h : ∃ x : Nat, v = (x : Int) ∧ AR T x 1 13 13) : FO 16 q T v := h
theorem wf_17 (h : WT T σ) (ha : OB T a 2) : ∃ x : Nat, σ.2.1 17 a = (x : Int) ∧ (T x).1 = 33 := h.1 17 a (by decide) ha
theorem fo_17 (h : ∃ x : Nat, v = (x : Int) ∧ (T x).1 = 33) : FO 17 q T v := h
theorem wf_18 (h : WT T σ) (ha : OB T a 3) : ∃ x : Nat, σ.2.1 18 a = (x : Int) ∧ AR T x 3 603 603 := h.1 18 a (by decide) ha
theorem fo_18 (h : ∃ x : Nat, v = (x : Int) ∧ AR T x 3 603 603) : FO 18 q T v := h
theorem wf_19 (h : WT T σ) (ha : OB T a 3) : ∃ x : Nat, σ.2.1 19 a = (x : Int) ∧ AR T x 3 3 3 := h.1 19 a (by decide) ha
theorem fo_19 (h : ∃ x : Nat, v = (x : Int) ∧ AR T x 3 3 3) : FO 19 q T v := h
theorem wf_20 (h : WT T σ) (ha : OB T a 3) : ∃ x : Nat, σ.2.1 20 a = (x : Int) ∧ AR T x 1 201 201 := h.1 20 a (by decide) ha
theorem fo_20 (h : ∃ x : Nat, v = (x : Int) ∧ AR T x 1 201 201) : FO 20 q T v := h
theorem wf_21 (h : WT T σ) (ha : OB T a 3) : ∃ x : Nat, σ.2.1 21 a = (x : Int) ∧ AR T x 1 201 201 := h.1 21 a (by decide) ha
theorem fo_21 (h : ∃ x : Nat, v = (x : Int) ∧ AR T x 1 201 201) : FO 21 q T v := h
theorem wf_22 (h : WT T σ) (ha : OB T a 3) : ((-2147483648 : Int) ≤ σ.2.1 22 a ∧ σ.2.1 22 a ≤ 2147483647) := h.1 22 a (by decide) ha
theorem fo_22 (h : ((-2147483648 : Int) ≤ v ∧ v ≤ 2147483647)) : FO 22 q T v := h
theorem wf_23 (h : WT T σ) (ha : OB T a 4) : ∃ x : Nat, σ.2.1 23 a = (x : Int) ∧ (T x).1 = 33 := h.1 23 a (by decide) ha
theorem fo_23 (h : ∃ x : Nat, v = (x : Int) ∧ (T x).1 = 33) : FO 23 q T v := h
theorem wf_24 (h : WT T σ) (ha : OB T a 4) : ∃ x : Nat, σ.2.1 24 a = (x : Int) ∧ AR T x 1 8 8 := h.1 24 a (by decide) ha
theorem fo_24 (h : ∃ x : Nat, v = (x : Int) ∧ AR T x 1 8 8) : FO 24 q T v := h
theorem wf_25 (h : WT T σ) (ha : OB T a 4) : σ.2.1 25 a < 0 ∨ ∃ x : Nat, σ.2.1 25 a = (x : Int) ∧ (T x).1 = 50 := h.1 25 a (by decide) ha
theorem fo_25 (h : v < 0 ∨ ∃ x : Nat, v = (x : Int) ∧ (T x).1 = 50) : FO 25 q T v := h
theorem wf_26 (h : WT T σ) (ha : OB T a 4) : σ.2.1 26 a < 0 ∨ ∃ x : Nat, σ.2.1 26 a = (x : Int) ∧ (T x).1 = 50 := h.1 26 a (by decide) ha
theorem fo_26 (h : v < 0 ∨ ∃ x : Nat, v = (x : Int) ∧ (T x).1 = 50) : FO 26 q T v := h
theorem wf_27 (h : WT T σ) (ha : OB T a 4) : ((-2147483648 : Int) ≤ σ.2.1 27 a ∧ σ.2.1 27 a ≤ 2147483647) := h.1 27 a (by decide) ha
theorem fo_27 (h : ((-2147483648 : Int) ≤ v ∧ v ≤ 2147483647)) : FO 27 q T v := h
theorem wf_28 (h : WT T σ) (ha : OB T a 4) : ((-2147483648 : Int) ≤ σ.2.1 28 a ∧ σ.2.1 28 a ≤ 2147483647) := h.1 28 a (by decide) ha
theorem fo_28 (h : ((-2147483648 : Int) ≤ v ∧ v ≤ 2147483647)) : FO 28 q T v := h
theorem wf_29 (h : WT T σ) (ha : OB T a 4) : ((-2147483648 : Int) ≤ σ.2.1 29 a ∧ σ.2.1 29 a ≤ 2147483647) := h.1 29 a (by decide) ha
theorem fo_29 (h : ((-2147483648 : Int) ≤ v ∧ v ≤ 2147483647)) : FO 29 q T v := h
theorem wf_30 (h : WT T σ) (ha : OB T a 4) : ((-2147483648 : Int) ≤ σ.2.1 30 a ∧ σ.2.1 30 a ≤ 2147483647) := h.1 30 a (by decide) ha
theorem fo_30 (h : ((-2147483648 : Int) ≤ v ∧ v ≤ 2147483647)) : FO 30 q T v := h
theorem wf_31 (h : WT T σ) (ha : OB T a 4) : ((-2147483648 : Int) ≤ σ.2.1 31 a ∧ σ.2.1 31 a ≤ 2147483647) := h.1 31 a (by decide) ha
theorem fo_31 (h : ((-2147483648 : Int) ≤ v ∧ v ≤ 2147483647)) : FO 31 q T v := h
theorem wf_32 (h : WT T σ) (ha : OB T a 4) : ((-2147483648 : Int) ≤ σ.2.1 32 a ∧ σ.2.1 32 a ≤ 2147483647) := h.1 32 a (by decide) ha
theorem fo_32 (h : ((-2147483648 : Int) ≤ v ∧ v ≤ 2147483647)) : FO 32 q T v := h
theorem wf_33 (h : WT T σ) (ha : OB T a 5) : ∃ x : Nat, σ.2.1 33 a = (x : Int) ∧ (T x).1 = 39 := h.1 33 a (by decide) ha
theorem fo_33 (h : ∃ x : Nat, v = (x : Int) ∧ (T x).1 = 39) : FO 33 q T v := h
theorem wf_34 (h : WT T σ) (ha : OB T a 5) : ∃ x : Nat, σ.2.1 34 a = (x : Int) ∧ AR T x 4 7 7 := h.1 34 a (by decide) ha
theorem fo_34 (h : ∃ x : Nat, v = (x : Int) ∧ AR T x 4 7 7) : FO 34 q T v := h
theorem wf_35 (h : WT T σ) (ha : OB T a 5) : ∃ x : Nat, σ.2.1 35 a = (x : Int) ∧ (T x).1 = 31 := h.1 35 a (by decide) ha
theorem fo_35 (h : ∃ x : Nat, v = (x : Int) ∧ (T x).1 = 31) : FO 35 q T v := h
theorem wf_36 (h : WT T σ) (ha : OB T a 5) : ∃ x : Nat, σ.2.1 36 a = (x : Int) ∧ AR T x 16 256 256 := h.1 36 a (by decide) ha
theorem fo_36 (h : ∃ x : Nat, v = (x : Int) ∧ AR T x 16 256 256) : FO 36 q T v := h
theorem wf_37 (h : WT T σ) (ha : OB T a 5) : ∃ x : Nat, σ.2.1 37 a = (x : Int) ∧ AR T x 17 256 256 := h.1 37 a (by decide) ha
theorem fo_37 (h : ∃ x : Nat, v = (x : Int) ∧ AR T x 17 256 256) : FO 37 q T v := h
theorem wf_38 (h : WT T σ) (ha : OB T a 5) : ((0 : Int) ≤ σ.2.1 38 a ∧ σ.2.1 38 a ≤ 256) := h.1 38 a (by decide) ha
theorem fo_38 (h : ((0 : Int) ≤ v ∧ v ≤ 256)) : FO 38 q T v := h
theorem wf_39 (h : WT T σ) (ha : OB T a 5) : ∃ x : Nat, σ.2.1 39 a = (x : Int) ∧ AR T x 18 256 256 := h.1 39 a (by decide) ha
theorem fo_39 (h : ∃ x : Nat, v = (x : Int) ∧ AR T x 18 256 256) : FO 39 q T v := h
theorem wf_40 (h : WT T σ) (ha : OB T a 5) : ∃ x : Nat, σ.2.1 40 a = (x : Int) ∧ AR T x 19 256 256 := h.1 40 a (by decide) ha
theorem fo_40 (h : ∃ x : Nat, v = (x : Int) ∧ AR T x 19 256 256) : FO 40 q T v := h
theorem wf_41 (h : WT T σ) (ha : OB T a 5) : ∃ x : Nat, σ.2.1 41 a = (x : Int) ∧ AR T x 20 256 256 := h.1 41 a (by decide) ha
theorem fo_41 (h : ∃ x : Nat, v = (x : Int) ∧ AR T x 20 256 256) : FO 41 q T v := h
theorem wf_42 (h : WT T σ) (ha : OB T a 5) : ((0 : Int) ≤ σ.2.1 42 a ∧ σ.2.1 42 a ≤ 256) := h.1 42 a (by decide) ha
theorem fo_42 (h : ((0 : Int) ≤ v ∧ v ≤ 256)) : FO 42 q T v := h
theorem wf_43 (h : WT T σ) (ha : OB T a 5) : ((-2147483648 : Int) ≤ σ.2.1 43 a ∧ σ.2.1 43 a ≤ 2147483647) := h.1 43 a (by decide) ha
theorem fo_43 (h : ((-2147483648 : Int) ≤ v ∧ v ≤ 2147483647)) : FO 43 q T v := h
theorem wf_44 (h : WT T σ) (ha : OB T a 5) : ((-2147483648 : Int) ≤ σ.2.1 44 a ∧ σ.2.1 44 a ≤ 2147483647) := h.1 44 a (by decide) ha
theorem fo_44 (h : ((-2147483648 : Int) ≤ v ∧ v ≤ 2147483647)) : FO 44 q T v := h
theorem wf_45 (h : WT T σ) (ha : OB T a 5) : ((-2147483648 : Int) ≤ σ.2.1 45 a ∧ σ.2.1 45 a ≤ 2147483647) := h.1 45 a (by decide) ha
theorem fo_45 (h : ((-2147483648 : Int) ≤ v ∧ v ≤ 2147483647)) : FO 45 q T v := h
theorem wf_46 (h : WT T σ) (ha : OB T a 5) : ((-2147483648 : Int) ≤ σ.2.1 46 a ∧ σ.2.1 46 a ≤ 2147483647) := h.1 46 a (by decide) ha
theorem fo_46 (h : ((-2147483648 : Int) ≤ v ∧ v ≤ 2147483647)) : FO 46 q T v := h
theorem wf_47 (h : WT T σ) (ha : OB T a 5) : ((-2147483648 : Int) ≤ σ.2.1 47 a ∧ σ.2.1 47 a ≤ 2147483647) := h.1 47 a (by decide) ha
theorem fo_47 (h : ((-2147483648 : Int) ≤ v ∧ v ≤ 2147483647)) : FO 47 q T v := h
theorem wf_48 (h : WT T σ) (ha : OB T a 5) : ∃ x : Nat, σ.2.1 48 a = (x : Int) ∧ AR T x 21 12 12 := h.1 48 a (by decide) ha
theorem fo_48 (h : ∃ x : Nat, v = (x : Int) ∧ AR T x 21 12 12) : FO 48 q T v := h
theorem wf_49 (h : WT T σ) (ha : OB T a 5) : ∃ x : Nat, σ.2.1 49 a = (x : Int) ∧ AR T x 1 8 8 := h.1 49 a (by decide) ha
theorem fo_49 (h : ∃ x : Nat, v = (x : Int) ∧ AR T x 1 8 8) : FO 49 q T v := h
theorem wf_50 (h : WT T σ) (ha : OB T a 5) : ((-2147483648 : Int) ≤ σ.2.1 50 a ∧ σ.2.1 50 a ≤ 2147483647) := h.1 50 a (by decide) ha
theorem fo_50 (h : ((-2147483648 : Int) ≤ v ∧ v ≤ 2147483647)) : FO 50 q T v := h
theorem wf_51 (h : WT T σ) (ha : OB T a 5) : ((-2147483648 : Int) ≤ σ.2.1 51 a ∧ σ.2.1 51 a ≤ 2147483647) := h.1 51 a (by decide) ha
theorem fo_51 (h : ((-2147483648 : Int) ≤ v ∧ v ≤ 2147483647)) : FO 51 q T v := h
theorem wf_52 (h : WT T σ) (ha : OB T a 6) : ∃ x : Nat, σ.2.1 52 a = (x : Int) ∧ AR T x 1 192 192 := h.1 52 a (by decide) ha
theorem fo_52 (h : ∃ x : Nat, v = (x : Int) ∧ AR T x 1 192 192) : FO 52 q T v := h
theorem wf_53 (h : WT T σ) (ha : OB T a 6) : ∃ x : Nat, σ.2.1 53 a = (x : Int) ∧ AR T x 1 192 192 := h.1 53 a (by decide) ha
theorem fo_53 (h : ∃ x : Nat, v = (x : Int) ∧ AR T x 1 192 192) : FO 53 q T v := h
theorem wf_54 (h : WT T σ) (ha : OB T a 6) : ∃ x : Nat, σ.2.1 54 a = (x : Int) ∧ AR T x 3 3 3 := h.1 54 a (by decide) ha
theorem fo_54 (h : ∃ x : Nat, v = (x : Int) ∧ AR T x 3 3 3) : FO 54 q T v := h
theorem wf_55 (h : WT T σ) (ha : OB T a 7) : ∃ x : Nat, σ.2.1 55 a = (x : Int) ∧ (T x).2 = 6 ∧ ((T a).1 = 57 → (T x).1 = 4) ∧ ((T a).1 ≠ 57 → (T x).1 = 5) := h.1 55 a (by decide) ha
theorem fo_55 (h : ∃ x : Nat, v = (x : Int) ∧ (T x).2 = 6 ∧ (q = 57 → (T x).1 = 4) ∧ (q ≠ 57 → (T x).1 = 5)) : FO 55 q T v := h
theorem wf_56 (h : WT T σ) (ha : OB T a 7) : ((-2147483648 : Int) ≤ σ.2.1 56 a ∧ σ.2.1 56 a ≤ 2147483647) := h.1 56 a (by decide) ha
theorem fo_56 (h : ((-2147483648 : Int) ≤ v ∧ v ≤ 2147483647)) : FO 56 q T v := h
theorem wf_57 (h : WT T σ) (ha : OB T a 7) : ((0 : Int) ≤ σ.2.1 57 a ∧ σ.2.1 57 a ≤ 11184800) ∧ ((T a).1 = 57 → σ.2.1 57 a ≤ 8) := h.1 57 a (by decide) ha
theorem fo_57 (h : ((0 : Int) ≤ v ∧ v ≤ 11184800) ∧ (q = 57 → v ≤ 8)) : FO 57 q T v := h
theorem wf_58 (h : WT T σ) (ha : OB T a 7) : ((-2147483648 : Int) ≤ σ.2.1 58 a ∧ σ.2.1 58 a ≤ 2147483647) := h.1 58 a (by decide) ha
theorem fo_58 (h : ((-2147483648 : Int) ≤ v ∧ v ≤ 2147483647)) : FO 58 q T v := h
theorem wf_59 (h : WT T σ) (ha : OB T a 7) : ∃ x : Nat, σ.2.1 59 a = (x : Int) ∧ AR T x 15 9 9 := h.1 59 a (by decide) ha
theorem fo_59 (h : ∃ x : Nat, v = (x : Int) ∧ AR T x 15 9 9) : FO 59 q T v := h
theorem wf_60 (h : WT T σ) (ha : OB T a 7) : ∃ x : Nat, σ.2.1 60 a = (x : Int) ∧ AR T x 1 9 9 := h.1 60 a (by decide) ha
theorem fo_60 (h : ∃ x : Nat, v = (x : Int) ∧ AR T x 1 9 9) : FO 60 q T v := h
theorem wf_61 (h : WT T σ) (ha : OB T a 7) : ∃ x : Nat, σ.2.1 61 a = (x : Int) ∧ (T x).2 = 9 ∧ ((T a).1 = 57 → (T x).1 = 14) ∧ ((T a).1 ≠ 57 → (T x).1 = 1) := h.1 61 a (by decide) ha
theorem fo_61 (h : ∃ x : Nat, v = (x : Int) ∧ (T x).2 = 9 ∧ (q = 57 → (T x).1 = 14) ∧ (q ≠ 57 → (T x).1 = 1)) : FO 61 q T v := h
theorem wf_62 (h : WT T σ) (ha : OB T a 7) : ∃ x : Nat, σ.2.1 62 a = (x : Int) ∧ AR T x 1 108 108 := h.1 62 a (by decide) ha
theorem fo_62 (h : ∃ x : Nat, v = (x : Int) ∧ AR T x 1 108 108) : FO 62 q T v := h
theorem wf_63 (h : WT T σ) (ha : OB T a 7) : ∃ x : Nat, σ.2.1 63 a = (x : Int) ∧ AR T x 1 1728 1728 := h.1 63 a (by decide) ha
theorem fo_63 (h : ∃ x : Nat, v = (x : Int) ∧ AR T x 1 1728 1728) : FO 63 q T v := h
theorem wf_64 (h : WT T σ) (ha : OB T a 7) : ∃ x : Nat, σ.2.1 64 a = (x : Int) ∧ AR T x 1 200 200 := h.1 64 a (by decide) ha
theorem fo_64 (h : ∃ x : Nat, v = (x : Int) ∧ AR T x 1 200 200) : FO 64 q T v := h
theorem wf_65 (h : WT T σ) (ha : OB T a 7) : ((-2147483648 : Int) ≤ σ.2.1 65 a ∧ σ.2.1 65 a ≤ 2147483647) := h.1 65 a (by decide) ha
theorem fo_65 (h : ((-2147483648 : Int) ≤ v ∧ v ≤ 2147483647)) : FO 65 q T v := h
theorem wf_66 (h : WT T σ) (ha : OB T a 7) : ((-2147483648 : Int) ≤ σ.2.1 66 a ∧ σ.2.1 66 a ≤ 2147483647) := h.1 66 a (by decide) ha
theorem fo_66 (h : ((-2147483648 : Int) ≤ v ∧ v ≤ 2147483647)) : FO 66 q T v := h
theorem wf_67 (h : WT T σ) (ha : OB T a 7) : ((-2147483648 : Int) ≤ σ.2.1 67 a ∧ σ.2.1 67 a ≤ 2147483647) := h.1 67 a (by decide) ha
theorem fo_67 (h : ((-2147483648 : Int) ≤ v ∧ v ≤ 2147483647)) : FO 67 q T v := h
theorem wf_68 (h : WT T σ) (ha : OB T a 7) : ((-2147483648 : Int) ≤ σ.2.1 68 a ∧ σ.2.1 68 a ≤ 2147483647) := h.1 68 a (by decide) ha
theorem fo_68 (h : ((-2147483648 : Int) ≤ v ∧ v ≤ 2147483647)) : FO 68 q T v := h
theorem wf_69 (h : WT T σ) (ha : OB T a 7) : σ.2.1 69 a < 0 ∨ ∃ x : Nat, σ.2.1 69 a = (x : Int) ∧ ((T a).1 = 57 → (T x).1 = 31) ∧ ((T a).1 ≠ 57 → (T x).1 = 50) := h.1 69 a (by decide) ha
theorem fo_69 (h : v < 0 ∨ ∃ x : Nat, v = (x : Int) ∧ (q = 57 → (T x).1 = 31) ∧ (q ≠ 57 → (T x).1 = 50)) : FO 69 q T v := h
theorem wf_70 (h : WT T σ) (ha : OB T a 7) : ((-2147483648 : Int) ≤ σ.2.1 70 a ∧ σ.2.1 70 a ≤ 2147483647) := h.1 70 a (by decide) ha
theorem fo_70 (h : ((-2147483648 : Int) ≤ v ∧ v ≤ 2147483647)) : FO 70 q T v := h
theorem wf_71 (h : WT T σ) (ha : OB T a 7) : ((-2147483648 : Int) ≤ σ.2.1 71 a ∧ σ.2.1 71 a ≤ 2147483647) := h.1 71 a (by decide) ha
theorem fo_71 (h : ((-2147483648 : Int) ≤ v ∧ v ≤ 2147483647)) : FO 71 q T v := h
theorem wf_72 (h : WT T σ) (ha : OB T a 8) : ∃ x : Nat, σ.2.1 72 a = (x : Int) ∧ (T x).1 = 33 := h.1 72 a (by decide) ha
theorem fo_72 (h : ∃ x : Nat, v = (x : Int) ∧ (T x).1 = 33) : FO 72 q T v := h
theorem wf_73 (h : WT T σ) (ha : OB T a 8) : ∃ x : Nat, σ.2.1 73 a = (x : Int) ∧ AR T x 3 576 576 := h.1 73 a (by decide) ha
theorem fo_73 (h : ∃ x : Nat, v = (x : Int) ∧ AR T x 3 576 576) : FO 73 q T v := h
theorem wf_74 (h : WT T σ) (ha : OB T a 8) : ∃ x : Nat, σ.2.1 74 a = (x : Int) ∧ AR T x 3 3 3 := h.1 74 a (by decide) ha
theorem fo_74 (h : ∃ x : Nat, v = (x : Int) ∧ AR T x 3 3 3) : FO 74 q T v := h
theorem wf_75 (h : WT T σ) (ha : OB T a 8) : ∃ x : Nat, σ.2.1 75 a = (x : Int) ∧ AR T x 1 192 192 := h.1 75 a (by decide) ha
theorem fo_75 (h : ∃ x : Nat, v = (x : Int) ∧ AR T x 1 192 192) : FO 75 q T v := h
theorem wf_76 (h : WT T σ) (ha : OB T a 8) : ∃ x : Nat, σ.2.1 76 a = (x : Int) ∧ AR T x 3 576 576 := h.1 76 a (by decide) ha
theorem fo_76 (h : ∃ x : Nat, v = (x : Int) ∧ AR T x 3 576 576) : FO 76 q T v := h
theorem wf_77 (h : WT T σ) (ha : OB T a 8) : ∃ x : Nat, σ.2.1 77 a = (x : Int) ∧ AR T x 3 603 603 := h.1 77 a (by decide) ha
theorem fo_77 (h : ∃ x : Nat, v = (x : Int) ∧ AR T x 3 603 603) : FO 77 q T v := h
theorem wf_78 (h : WT T σ) (ha : OB T a 8) : ∃ x : Nat, σ.2.1 78 a = (x : Int) ∧ AR T x 1 201 201 := h.1 78 a (by decide) ha
theorem fo_78 (h : ∃ x : Nat, v = (x : Int) ∧ AR T x 1 201 201) : FO 78 q T v := h
theorem wf_79 (h : WT T σ) (ha : OB T a 8) : ∃ x : Nat, σ.2.1 79 a = (x : Int) ∧ AR T x 3 3 3 := h.1 79 a (by decide) ha
theorem fo_79 (h : ∃ x : Nat, v = (x : Int) ∧ AR T x 3 3 3) : FO 79 q T v := h
theorem wf_80 (h : WT T σ) (ha : OB T a 8) : ((0 : Int) ≤ σ.2.1 80 a ∧ σ.2.1 80 a ≤ 1) := h.1 80 a (by decide) ha
theorem fo_80 (h : ((0 : Int) ≤ v ∧ v ≤ 1)) : FO 80 q T v := h
theorem wf_81 (h : WT T σ) (ha : OB T a 9) : ∃ x : Nat, σ.2.1 81 a = (x : Int) ∧ AR T x 12 1201 1201 := h.1 81 a (by decide) ha
theorem fo_81 (h : ∃ x : Nat, v = (x : Int) ∧ AR T x 12 1201 1201) : FO 81 q T v := h
theorem wf_82 (h : WT T σ) (ha : OB T a 9) : ∃ x : Nat, σ.2.1 82 a = (x : Int) ∧ AR T x 22 1201 1201 := h.1 82 a (by decide) ha
theorem fo_82 (h : ∃ x : Nat, v = (x : Int) ∧ AR T x 22 1201 1201) : FO 82 q T v := h
theorem wf_83 (h : WT T σ) (ha : OB T a 9) : ∃ x : Nat, σ.2.1 83 a = (x : Int) ∧ AR T x 23 1201 1201 := h.1 83 a (by decide) ha
theorem fo_83 (h : ∃ x : Nat, v = (x : Int) ∧ AR T x 23 1201 1201) : FO 83 q T v := h
theorem wf_84 (h : WT T σ) (ha : OB T a 9) : ((-1 : Int) ≤ σ.2.1 84 a ∧ σ.2.1 84 a ≤ 1200) := h.1 84 a (by decide) ha
theorem fo_84 (h : ((-1 : Int) ≤ v ∧ v ≤ 1200)) : FO 84 q T v := h
theorem wf_85 (h : WT T σ) (ha : OB T a 9) : ((-2147483648 : Int) ≤ σ.2.1 85 a ∧ σ.2.1 85 a ≤ 2147483647) := h.1 85 a (by decide) ha
theorem fo_85 (h : ((-2147483648 : Int) ≤ v ∧ v ≤ 2147483647)) : FO 85 q T v := h
theorem wf_86 (h : WT T σ) (ha : OB T a 9) : ((-2147483648 : Int) ≤ σ.2.1 86 a ∧ σ.2.1 86 a ≤ 2147483647) := h.1 86 a (by decide) ha
theorem fo_86 (h : ((-2147483648 : Int) ≤ v ∧ v ≤ 2147483647)) : FO 86 q T v := h
theorem wf_87 (h : WT T σ) (ha : OB T a 9) : ((-2147483648 : Int) ≤ σ.2.1 87 a ∧ σ.2.1 87 a ≤ 2147483647) := h.1 87 a (by decide) ha
theorem fo_87 (h : ((-2147483648 : Int) ≤ v ∧ v ≤ 2147483647)) : FO 87 q T v := h
theorem wf_88 (h : WT T σ) (ha : OB T a 10) : ∃ x : Nat, σ.2.1 88 a = (x : Int) ∧ AR T x 7 6 6 := h.1 88 a (by decide) ha
theorem fo_88 (h : ∃ x : Nat, v = (x : Int) ∧ AR T x 7 6 6) : FO 88 q T v := h
theorem wf_89 (h : WT T σ) (ha : OB T a 10) : ∃ x : Nat, σ.2.1 89 a = (x : Int) ∧ AR T x 1 6 6 := h.1 89 a (by decide) ha
theorem fo_89 (h : ∃ x : Nat, v = (x : Int) ∧ AR T x 1 6 6) : FO 89 q T v := h
theorem wf_90 (h : WT T σ) (ha : OB T a 10) : ∃ x : Nat, σ.2.1 90 a = (x : Int) ∧ AR T x 1 200 200 := h.1 90 a (by decide) ha
theorem fo_90 (h : ∃ x : Nat, v = (x : Int) ∧ AR T x 1 200 200) : FO 90 q T v := h
theorem wf_91 (h : WT T σ) (ha : OB T a 10) : ∃ x : Nat, σ.2.1 91 a = (x : Int) ∧ AR T x 1 145 145 := h.1 91 a (by decide) ha
theorem fo_91 (h : ∃ x : Nat, v = (x : Int) ∧ AR T x 1 145 145) : FO 91 q T v := h
theorem wf_92 (h : WT T σ) (ha : OB T a 10) : σ.2.1 92 a < 0 ∨ ∃ x : Nat, σ.2.1 92 a = (x : Int) ∧ AR T x 1 0 32788 := h.1 92 a (by decide) ha
theorem fo_92 (h : v < 0 ∨ ∃ x : Nat, v = (x : Int) ∧ AR T x 1 0 32788) : FO 92 q T v := h
theorem wf_93 (h : WT T σ) (ha : OB T a 10) : ((0 : Int) ≤ σ.2.1 93 a ∧ σ.2.1 93 a ≤ 145) := h.1 93 a (by decide) ha
theorem fo_93 (h : ((0 : Int) ≤ v ∧ v ≤ 145)) : FO 93 q T v := h
theorem wf_94 (h : WT T σ) (ha : OB T a 10) : ((0 : Int) ≤ σ.2.1 94 a ∧ σ.2.1 94 a ≤ 1) := h.1 94 a (by decide) ha
theorem fo_94 (h : ((0 : Int) ≤ v ∧ v ≤ 1)) : FO 94 q T v := h
theorem wf_95 (h : WT T σ) (ha : OB T a 11) : ∃ x : Nat, σ.2.1 95 a = (x : Int) ∧ AR T x 2 1200 1200 := h.1 95 a (by decide) ha
theorem fo_95 (h : ∃ x : Nat, v = (x : Int) ∧ AR T x 2 1200 1200) : FO 95 q T v := h
theorem wf_96 (h : WT T σ) (ha : OB T a 11) : ((0 : Int) ≤ σ.2.1 96 a ∧ σ.2.1 96 a ≤ 1200) := h.1 96 a (by decide) ha
theorem fo_96 (h : ((0 : Int) ≤ v ∧ v ≤ 1200)) : FO 96 q T v := h
theorem wf_97 (h : WT T σ) (ha : OB T a 11) : ((0 : Int) ≤ σ.2.1 97 a ∧ σ.2.1 97 a ≤ 6) := h.1 97 a (by decide) ha
theorem fo_97 (h : ((0 : Int) ≤ v ∧ v ≤ 6)) : FO 97 q T v := h
theorem wf_98 (h : WT T σ) (ha : OB T a 11) : ∃ x : Nat, σ.2.1 98 a = (x : Int) ∧ AR T x 4 6 6 := h.1 98 a (by decide) ha
theorem fo_98 (h : ∃ x : Nat, v = (x : Int) ∧ AR T x 4 6 6) : FO 98 q T v := h
theorem wf_99 (h : WT T σ) (ha : OB T a 11) : ∃ x : Nat, σ.2.1 99 a = (x : Int) ∧ AR T x 5 6 6 := h.1 99 a (by decide) ha
theorem fo_99 (h : ∃ x : Nat, v = (x : Int) ∧ AR T x 5 6 6) : FO 99 q T v := h
theorem wf_100 (h : WT T σ) (ha : OB T a 11) : ∃ x : Nat, σ.2.1 100 a = (x : Int) ∧ (T x).1 = 35 := h.1 100 a (by decide) ha
theorem fo_100 (h : ∃ x : Nat, v = (x : Int) ∧ (T x).1 = 35) : FO 100 q T v := h
theorem wf_101 (h : WT T σ) (ha : OB T a 11) : ∃ x : Nat, σ.2.1 101 a = (x : Int) ∧ (T x).1 = 33 := h.1 101 a (by decide) ha
theorem fo_101 (h : ∃ x : Nat, v = (x : Int) ∧ (T x).1 = 33) : FO 101 q T v := h
theorem wf_102 (h : WT T σ) (ha : OB T a 11) : ∃ x : Nat, σ.2.1 102 a = (x : Int) ∧ (T x).1 = 40 := h.1 102 a (by decide) ha
theorem fo_102 (h : ∃ x : Nat, v = (x : Int) ∧ (T x).1 = 40) : FO 102 q T v := h
theorem wf_103 (h : WT T σ) (ha : OB T a 11) : ∃ x : Nat, σ.2.1 103 a = (x : Int) ∧ (T x).1 = 37 := h.1 103 a (by decide) ha
theorem fo_103 (h : ∃ x : Nat, v = (x : Int) ∧ (T x).1 = 37) : FO 103 q T v := h
theorem wf_104 (h : WT T σ) (ha : OB T a 11) : ((-2147483648 : Int) ≤ σ.2.1 104 a ∧ σ.2.1 104 a ≤ 2147483647) := h.1 104 a (by decide) ha
theorem fo_104 (h : ((-2147483648 : Int) ≤ v ∧ v ≤ 2147483647)) : FO 104 q T v := h
theorem wf_105 (h : WT T σ) (ha : OB T a 11) : ((-2147483648 : Int) ≤ σ.2.1 105 a ∧ σ.2.1 105 a ≤ 2147483647) := h.1 105 a (by decide) ha
theorem fo_105 (h : ((-2147483648 : Int) ≤ v ∧ v ≤ 2147483647)) : FO 105 q T v := h
theorem wf_106 (h : WT T σ) (ha : OB T a 11) : ∃ x : Nat, σ.2.1 106 a = (x : Int) ∧ (T x).1 = 36 := h.1 106 a (by decide) ha
theorem fo_106 (h : ∃ x : Nat, v = (x : Int) ∧ (T x).1 = 36) : FO 106 q T v := h
theorem wf_107 (h : WT T σ) (ha : OB T a 11) : ∃ x : Nat, σ.2.1 107 a = (x : Int) ∧ (T x).1 = 32 := h.1 107 a (by decide) ha
theorem fo_107 (h : ∃ x : Nat, v = (x : Int) ∧ (T x).1 = 32) : FO 107 q T v := h
theorem wf_108 (h : WT T σ) (ha : OB T a 11) : ∃ x : Nat, σ.2.1 108 a = (x : Int) ∧ (T x).1 = 34 := h.1 108 a (by decide) ha
theorem fo_108 (h : ∃ x : Nat, v = (x : Int) ∧ (T x).1 = 34) : FO 108 q T v := h
theorem wf_109 (h : WT T σ) (ha : OB T a 11) : ∃ x : Nat, σ.2.1 109 a = (x : Int) ∧ (T x).1 = 38 := h.1 109 a (by decide) ha
theorem fo_109 (h : ∃ x : Nat, v = (x : Int) ∧ (T x).1 = 38) : FO 109 q T v := h
theorem wf_110 (h : WT T σ) (ha : OB T a 11) : σ.2.1 110 a < 0 ∨ ∃ x : Nat, σ.2.1 110 a = (x : Int) ∧ (T x).1 = 30 := h.1 110 a (by decide) ha
theorem fo_110 (h : v < 0 ∨ ∃ x : Nat, v = (x : Int) ∧ (T x).1 = 30) : FO 110 q T v := h
end WFS
