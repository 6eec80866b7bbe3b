abbrev RXJ7 : String := "java/util/Arrays"
/-- the tag of a code's cells -/
def CELL (T : CT) (a x : Nat) : Prop := ((T a).1 = 50 → (T x).1 = 1) ∧ ((T a).1 ≠ 50 → (T x).1 = 13)
theorem CELL.nh {T : CT} {a x : Nat} (h : CELL T a x) : NH T x := by
  unfold CELL at h; unfold NH HT; omega
theorem CELL.tag {T : CT} {a x : Nat} (h : CELL T a x) : (T x).1 = 1 ∨ (T x).1 = 13 := by
  unfold CELL at h; omega
theorem CELL.vok {T : CT} {a x : Nat} {i v : Int} (h : CELL T a x) (hv : -2147483648 ≤ v ∧ v ≤ 2147483647) (hk : (T a).1 ≠ 50 → i % 13 = 0 → v ≠ 14 ∧ v ≠ 15) : VOK (T x).1 i v :=
  vok_13 h.tag hv (fun q => hk (fun e => by have := h.1 e; omega))
def RROW (T : CT) (a x : Nat) : Prop := ((T a).1 = 57 → (T x).1 = 4) ∧ ((T a).1 ≠ 57 → (T x).1 = 5)
/-- a code of a run -/
def RC (T : CT) (a x : Nat) : Prop := ((T a).1 = 57 → (T x).1 = 31) ∧ ((T a).1 ≠ 57 → (T x).1 = 50)
def QC (T : CT) (r x : Nat) : Prop := ((T r).1 = 4 → (T x).1 = 31) ∧ ((T r).1 = 5 → (T x).1 = 50)
theorem codeRow {T : CT} {σ : MS} {r : Nat} {i : Int} (hw : WT T σ) (hr : (T r).1 = 4 ∨ (T r).1 = 5) (h0 : 0 ≤ i) (h1 : i < ((T r).2 : Int)) : ∃ x : Nat, σ.2.1 (1000 + r) i = (x : Int) ∧ OB T x 1 ∧ QC T r x := by
  rcases hr with h | h
  · obtain ⟨x, a, b⟩ := hw.2.2.2.1.1 r h i h0 h1
    exact ⟨x, a, ⟨by omega, by rw [b]; rfl, by omega⟩, fun _ => b, fun q => by omega⟩
  · obtain ⟨x, a, b⟩ := hw.2.2.2.1.2 r h i h0 h1
    exact ⟨x, a, ⟨by omega, by rw [b]; rfl, by omega⟩, fun q => by omega, fun _ => b⟩
theorem RROW.rc {T : CT} {a r x : Nat} (h : RROW T a r) (g : QC T r x) : RC T a x := ⟨fun q => g.1 (h.1 q), fun q => g.2 (h.2 q)⟩
theorem mul_rng {x y a b c d : Int} (h1 : 0 ≤ x) (h2 : x ≤ b) (h3 : 0 ≤ y) (h4 : y ≤ d) (_ : a = 0) (h5 : b * d = c) : a ≤ x * y ∧ x * y ≤ c := by
  have q1 : 0 ≤ x * y := Int.mul_nonneg h1 h3
  have q2 : x * y ≤ b * d := Int.mul_le_mul h2 h4 h3 (by omega)
  omega
theorem ak_rng {v : Int} (h : inR v ∧ ∃ j : Nat, j < 8 ∧ iI v = akI.getD j 0) : 0 ≤ v ∧ v ≤ 11 := by
  obtain ⟨h1, j, hj, e⟩ := h
  have e2 : v = (akI.getD j 0).toInt := by rw [← e, iI_toInt h1]
  have : j = 0 ∨ j = 1 ∨ j = 2 ∨ j = 3 ∨ j = 4 ∨ j = 5 ∨ j = 6 ∨ j = 7 := by omega
  rcases this with h | h | h | h | h | h | h | h <;> subst h <;> (rw [e2]; decide)
theorem nar_b (x : Int32) : ∃ v : Int, (-2147483648 ≤ v ∧ v ≤ 2147483647) ∧ vp_nar .byte x = iI v := ⟨(vp_nar .byte x).toInt, inR_toInt _, (iI_self _).symm⟩
theorem wr_ex (t : Int) : ∃ z : Int, inR z ∧ iI t = iI z := ⟨iw t, iw_rng t, (iw_eq t).symm⟩
theorem rj_id {P : Prop} (h : P) : P := h
theorem GT.lenI {T T2 : CT} {x : Nat} (g : GT T T2) (h : IA T x) : (T2 x).2 = (T x).2 := by rw [g x (by unfold IA at h; omega) (by unfold IA at h; omega)]
theorem GT.lenK {T T2 : CT} {x k : Nat} (g : GT T T2) (h : (T x).1 = k) (h0 : 0 < k) (h1 : k < 80) : (T2 x).2 = (T x).2 := by rw [g x (by omega) (by omega)]
theorem GT.lenQ {T T2 : CT} {x : Nat} (g : GT T T2) (h : (T x).1 = 4 ∨ (T x).1 = 5) : (T2 x).2 = (T x).2 := by rw [g x (by omega) (by omega)]
/-- what at() answers -/
def ATV (T : CT) (σ : MS) (x : Nat) (i : Int) : Int := if 0 ≤ i ∧ i < ((T x).2 : Int) then σ.2.1 (1000 + x) i else 0
theorem atv_in {T : CT} {σ : MS} {x : Nat} {i v : Int} (h0 : 0 ≤ i) (h1 : i < ((T x).2 : Int)) (h : v = σ.2.1 (1000 + x) i) : v = ATV T σ x i := by unfold ATV; rw [if_pos ⟨h0, h1⟩]; exact h
theorem atv_out {T : CT} {σ : MS} {x : Nat} {i : Int} (h : i < 0 ∨ ((T x).2 : Int) ≤ i) : 0 = ATV T σ x i := by unfold ATV; rw [if_neg (by omega)]
/-- the kind of an item of made code -/
def KND (T : CT) (a : Nat) (v : Int) : Prop := (T a).1 ≠ 50 → v ≠ 14 ∧ v ≠ 15
theorem CELL.knd {T : CT} {a x : Nat} {i v : Int} (h : CELL T a x) (hv : VOK (T x).1 i v) (hi : i % 13 = 0) : KND T a v := fun q => hv.2.2.2.1 (h.2 q) hi
theorem knd_m1 {T : CT} {a : Nat} : KND T a (-1) := fun _ => ⟨by omega, by omega⟩
theorem vok_cp1 {T : CT} {σ : MS} {a b : Nat} {sp dp n : Int} (hw : WT T σ) (ha : IA T a) (hb : IA T b) (ht : (T b).1 = 1 ∨ (T b).1 = 15) : ∀ i, VOK (T b).1 i (cpZ (σ.2.1 (1000 + a)) (σ.2.1 (1000 + b)) sp dp n i) := fun i => by
  refine vok_1 (by omega) ?_
  unfold cpZ
  by_cases h : dp ≤ i ∧ i < dp + n
  · rw [if_pos h]; exact (hw.2.2.1 a (Or.inl ha) _).1
  · rw [if_neg h]; exact (hw.2.2.1 b (Or.inl hb) _).1
theorem vok_cp11 {T : CT} {σ : MS} {a b : Nat} {sp dp n : Int} (hw : WT T σ) (ha : (T a).1 = 11) (hb : (T b).1 = 11) : ∀ i, VOK (T b).1 i (cpZ (σ.2.1 (1000 + a)) (σ.2.1 (1000 + b)) sp dp n i) := fun i => by
  rw [hb]
  refine vok_11 ?_
  unfold cpZ
  by_cases h : dp ≤ i ∧ i < dp + n
  · rw [if_pos h]; exact (hw.2.2.1 a (Or.inl (by unfold IA; omega)) _).2.1 ha
  · rw [if_neg h]; exact (hw.2.2.1 b (Or.inl (by unfold IA; omega)) _).2.1 hb
section BOO
variable {d : Nat} {M : MT} {pc : Nat} {T : CT} {σ : MS} {L : List (Nat × Value)} {st : List Value} {post : Option Value → CT → MS → Prop}
theorem tn_bor {x y : Int} (hx : x = 0 ∨ x = 1) (hy : y = 0 ∨ y = 1) (kk : ∀ z, (z = 0 ∨ z = 1) → Tn d M pc T σ L (.int (iI z) :: st) post) : Tn d M pc T σ L (.int (iI x ||| iI y) :: st) post := by
  rcases hx with rfl | rfl <;> rcases hy with rfl | rfl
  · exact kk 0 (Or.inl rfl)
  · exact kk 1 (Or.inr rfl)
  · exact kk 1 (Or.inr rfl)
  · exact kk 1 (Or.inr rfl)
theorem tn_band {x y : Int} (hx : x = 0 ∨ x = 1) (hy : y = 0 ∨ y = 1) (kk : ∀ z, (z = 0 ∨ z = 1) → Tn d M pc T σ L (.int (iI z) :: st) post) : Tn d M pc T σ L (.int (iI x &&& iI y) :: st) post := by
  rcases hx with rfl | rfl <;> rcases hy with rfl | rfl
  · exact kk 0 (Or.inl rfl)
  · exact kk 0 (Or.inl rfl)
  · exact kk 0 (Or.inl rfl)
  · exact kk 1 (Or.inr rfl)
end BOO
theorem fz_b {v : Int} (h : v = 0 ∨ v = 1) : fits .boolean (.int (iI v)) = true := by rcases h with rfl | rfl <;> rfl

abbrev cJ7_rangeCheck_23922 : ByteArray := prog_22_method_30_code
def yJ7_rangeCheck_23922 : MethodName := ⟨RXJ7, "rangeCheck", "(III)V"⟩
abbrev cJ7_fill_bad5a : ByteArray := prog_22_method_102_code
def yJ7_fill_bad5a : MethodName := ⟨RXJ7, "fill", "([JIIJ)V"⟩
abbrev cJ7_fill_53178 : ByteArray := prog_22_method_103_code
def yJ7_fill_53178 : MethodName := ⟨RXJ7, "fill", "([II)V"⟩
abbrev cJ7_fill_fda19 : ByteArray := prog_22_method_104_code
def yJ7_fill_fda19 : MethodName := ⟨RXJ7, "fill", "([IIII)V"⟩
abbrev cJ7_copyOf_59c91 : ByteArray := prog_22_method_123_code
def yJ7_copyOf_59c91 : MethodName := ⟨RXJ7, "copyOf", "([II)[I"⟩
