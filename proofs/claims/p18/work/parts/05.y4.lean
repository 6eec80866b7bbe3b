section
abbrev RXJ7 : String := "java/util/Arrays"
def CELL (T : CT) (a x : Nat) : Prop := ((T a).1 = 50 → (T x).1 = 1) ∧ ((T a).1 ≠ 50 → (T x).1 = 13)
theorem CELL.nh {T : CT} {a x : Nat} (h : CELL T a x) : NH T x := by
  unfold CELL at h; unfold NH HT; omega
theorem CELL.tag {T : CT} {a x : Nat} (h : CELL T a x) : (T x).1 = 1 ∨ (T x).1 = 13 := by
  unfold CELL at h; omega
theorem CELL.vok {T : CT} {a x : Nat} {i v : Int} (h : CELL T a x) (hv : -2147483648 ≤ v ∧ v ≤ 2147483647) (hk : (T a).1 ≠ 50 → i % 13 = 0 → v ≠ 14 ∧ v ≠ 15) : VOK (T x).1 i v :=
  vok_13 h.tag hv (fun q => hk (fun e => by have := h.1 e; omega))
def RROW (T : CT) (a x : Nat) : Prop := ((T a).1 = 57 → (T x).1 = 4) ∧ ((T a).1 ≠ 57 → (T x).1 = 5)
def RC (T : CT) (a x : Nat) : Prop := ((T a).1 = 57 → (T x).1 = 31) ∧ ((T a).1 ≠ 57 → (T x).1 = 50)
def QC (T : CT) (r x : Nat) : Prop := ((T r).1 = 4 → (T x).1 = 31) ∧ ((T r).1 = 5 → (T x).1 = 50)
theorem codeRow {T : CT} {σ : MS} {r : Nat} {i : Int} (hw : WT T σ) (hr : (T r).1 = 4 ∨ (T r).1 = 5) (h0 : 0 ≤ i) (h1 : i < ((T r).2 : Int)) : ∃ x : Nat, σ.2.1 (1000 + r) i = (x : Int) ∧ OB T x 1 ∧ QC T r x := by
  rcases hr with h | h
  · obtain ⟨x, a, b⟩ := hw.2.2.2.1.1 r h i h0 h1
    exact ⟨x, a, ⟨by omega, by rw [b]; rfl, by omega⟩, fun _ => b, fun q => by omega⟩
  · obtain ⟨x, a, b⟩ := hw.2.2.2.1.2 r h i h0 h1
    exact ⟨x, a, ⟨by omega, by rw [b]; rfl, by omega⟩, fun q => by omega, fun _ => b⟩
theorem RROW.rc {T : CT} {a r x : Nat} (h : RROW T a r) (g : QC T r x) : RC T a x := ⟨fun q => g.1 (h.1 q), fun q => g.2 (h.2 q)⟩
theorem mul_rng {x y a b c d : Int} (h1 : 0 ≤ x) (h2 : x ≤ b) (h3 : 0 ≤ y) (h4 : y ≤ d) (_ : a = 0) (h5 : b * d = c) : a ≤ x * y ∧ x * y ≤ c := by
  have q1 : 0 ≤ x * y := Int.mul_nonneg h1 h3
  have q2 : x * y ≤ b * d := Int.mul_le_mul h2 h4 h3 (by omega)
  omega
theorem ak_rng {v : Int} (h : inR v ∧ ∃ j : Nat, j < 8 ∧ iI v = akI.getD j 0) : 0 ≤ v ∧ v ≤ 11 := by
  obtain ⟨h1, j, hj, e⟩ := h
  have e2 : v = (akI.getD j 0).toInt := by rw [← e, iI_toInt h1]
  have : j = 0 ∨ j = 1 ∨ j = 2 ∨ j = 3 ∨ j = 4 ∨ j = 5 ∨ j = 6 ∨ j = 7 := by omega
  rcases this with h | h | h | h | h | h | h | h <;> subst h <;> (rw [e2]; decide)
theorem GT.lenK {T T2 : CT} {x k : Nat} (g : GT T T2) (h : (T x).1 = k) (h0 : 0 < k) (h1 : k < 80) : (T2 x).2 = (T x).2 := by rw [g x (by omega) (by omega)]
theorem GT.lenQ {T T2 : CT} {x : Nat} (g : GT T T2) (h : (T x).1 = 4 ∨ (T x).1 = 5) : (T2 x).2 = (T x).2 := by rw [g x (by omega) (by omega)]
def ATV (T : CT) (σ : MS) (x : Nat) (i : Int) : Int := if 0 ≤ i ∧ i < ((T x).2 : Int) then σ.2.1 (1000 + x) i else 0
theorem atv_in {T : CT} {σ : MS} {x : Nat} {i v : Int} (h0 : 0 ≤ i) (h1 : i < ((T x).2 : Int)) (h : v = σ.2.1 (1000 + x) i) : v = ATV T σ x i := by unfold ATV; rw [if_pos ⟨h0, h1⟩]; exact h
theorem atv_out {T : CT} {σ : MS} {x : Nat} {i : Int} (h : i < 0 ∨ ((T x).2 : Int) ≤ i) : 0 = ATV T σ x i := by unfold ATV; rw [if_neg (by omega)]
def KND (T : CT) (a : Nat) (v : Int) : Prop := (T a).1 ≠ 50 → v ≠ 14 ∧ v ≠ 15
theorem CELL.knd {T : CT} {a x : Nat} {i v : Int} (h : CELL T a x) (hv : VOK (T x).1 i v) (hi : i % 13 = 0) : KND T a v := fun q => hv.2.2.2.1 (h.2 q) hi
theorem knd_m1 {T : CT} {a : Nat} : KND T a (-1) := fun _ => ⟨by omega, by omega⟩
theorem vok_cp1 {T : CT} {σ : MS} {a b : Nat} {sp dp n : Int} (hw : WT T σ) (ha : IA T a) (hb : IA T b) (ht : (T b).1 = 1 ∨ (T b).1 = 15) : ∀ i, VOK (T b).1 i (cpZ (σ.2.1 (1000 + a)) (σ.2.1 (1000 + b)) sp dp n i) := fun i => by
  refine vok_1 (by omega) ?_
  unfold cpZ
  by_cases h : dp ≤ i ∧ i < dp + n
  · rw [if_pos h]; exact (hw.2.2.1 a (Or.inl ha) _).1
  · rw [if_neg h]; exact (hw.2.2.1 b (Or.inl hb) _).1
theorem vok_cp11 {T : CT} {σ : MS} {a b : Nat} {sp dp n : Int} (hw : WT T σ) (ha : (T a).1 = 11) (hb : (T b).1 = 11) : ∀ i, VOK (T b).1 i (cpZ (σ.2.1 (1000 + a)) (σ.2.1 (1000 + b)) sp dp n i) := fun i => by
  rw [hb]
  refine vok_11 ?_
  unfold cpZ
  by_cases h : dp ≤ i ∧ i < dp + n
  · rw [if_pos h]; exact (hw.2.2.1 a (Or.inl (by unfold IA; omega)) _).2.1 ha
  · rw [if_neg h]; exact (hw.2.2.1 b (Or.inl (by unfold IA; omega)) _).2.1 hb
section BOO
variable {d : Nat} {M : MT} {pc : Nat} {T : CT} {σ : MS} {L : List (Nat × Value)} {st : List Value} {post : Option Value → CT → MS → Prop}
end BOO
theorem fz_b {v : Int} (h : v = 0 ∨ v = 1) : fits .boolean (.int (iI v)) = true := by rcases h with rfl | rfl <;> rfl

abbrev cJ7_rangeCheck_23922 : ByteArray := prog_22_method_30_code
def yJ7_rangeCheck_23922 : MethodName := ⟨RXJ7, "rangeCheck", "(III)V"⟩
abbrev cJ7_fill_bad5a : ByteArray := prog_22_method_102_code
def yJ7_fill_bad5a : MethodName := ⟨RXJ7, "fill", "([JIIJ)V"⟩
abbrev cJ7_fill_53178 : ByteArray := prog_22_method_103_code
def yJ7_fill_53178 : MethodName := ⟨RXJ7, "fill", "([II)V"⟩
abbrev cJ7_fill_fda19 : ByteArray := prog_22_method_104_code
def yJ7_fill_fda19 : MethodName := ⟨RXJ7, "fill", "([IIII)V"⟩
abbrev cJ7_copyOf_59c91 : ByteArray := prog_22_method_123_code
def yJ7_copyOf_59c91 : MethodName := ⟨RXJ7, "copyOf", "([II)[I"⟩
end
section
section FMS
variable {T T2 : CT} {q : Nat} {v : Int}
theorem fm_0 (g : GT T T2) (h : FO 0 q T v) : FO 0 q T2 v := by
  obtain ⟨x, hx, hk⟩ := h
  exact ⟨x, hx, by rw [g x (by omega) (by omega)]; exact hk⟩
theorem fm_1 (g : GT T T2) (h : FO 1 q T v) : FO 1 q T2 v := by
  obtain ⟨x, hx, hk⟩ := h
  exact ⟨x, hx, by rw [g x (by omega) (by omega)]; exact hk⟩
theorem fm_2 (g : GT T T2) (h : FO 2 q T v) : FO 2 q T2 v := h
theorem fm_3 (g : GT T T2) (h : FO 3 q T v) : FO 3 q T2 v := h
theorem fm_4 (g : GT T T2) (h : FO 4 q T v) : FO 4 q T2 v := h
theorem fm_5 (g : GT T T2) (h : FO 5 q T v) : FO 5 q T2 v := by
  obtain ⟨x, hx, hl, h1, h2⟩ := h
  have e := g x (by omega) (by omega)
  exact ⟨x, hx, by rw [e]; exact hl, by rw [e]; exact h1, by rw [e]; exact h2⟩
theorem fm_6 (g : GT T T2) (h : FO 6 q T v) : FO 6 q T2 v := h
theorem fm_7 (g : GT T T2) (h : FO 7 q T v) : FO 7 q T2 v := h
theorem fm_8 (g : GT T T2) (h : FO 8 q T v) : FO 8 q T2 v := h
theorem fm_9 (g : GT T T2) (h : FO 9 q T v) : FO 9 q T2 v := h
theorem fm_10 (g : GT T T2) (h : FO 10 q T v) : FO 10 q T2 v := h
theorem fm_11 (g : GT T T2) (h : FO 11 q T v) : FO 11 q T2 v := by
  obtain ⟨x, hx, hk, hl⟩ := h
  exact ⟨x, hx, by unfold AR; rw [g x (by omega) (by omega)]; exact ⟨hk, hl⟩⟩
theorem fm_12 (g : GT T T2) (h : FO 12 q T v) : FO 12 q T2 v := by
  obtain ⟨x, hx, hk, hl⟩ := h
  exact ⟨x, hx, by unfold AR; rw [g x (by omega) (by omega)]; exact ⟨hk, hl⟩⟩
theorem fm_13 (g : GT T T2) (h : FO 13 q T v) : FO 13 q T2 v := by
  obtain ⟨x, hx, hk, hl⟩ := h
  exact ⟨x, hx, by unfold AR; rw [g x (by omega) (by omega)]; exact ⟨hk, hl⟩⟩
theorem fm_14 (g : GT T T2) (h : FO 14 q T v) : FO 14 q T2 v := by
  obtain ⟨x, hx, hk, hl⟩ := h
  exact ⟨x, hx, by unfold AR; rw [g x (by omega) (by omega)]; exact ⟨hk, hl⟩⟩
theorem fm_15 (g : GT T T2) (h : FO 15 q T v) : FO 15 q T2 v := by
  obtain ⟨x, hx, hk, hl⟩ := h
  exact ⟨x, hx, by unfold AR; rw [g x (by omega) (by omega)]; exact ⟨hk, hl⟩⟩
theorem fm_16 (g : GT T T2) (h : FO 16 q T v) : FO 16 q T2 v := by
  obtain ⟨x, hx, hk, hl⟩ := h
  exact ⟨x, hx, by unfold AR; rw [g x (by omega) (by omega)]; exact ⟨hk, hl⟩⟩
theorem fm_17 (g : GT T T2) (h : FO 17 q T v) : FO 17 q T2 v := by
  obtain ⟨x, hx, hk⟩ := h
  exact ⟨x, hx, by rw [g x (by omega) (by omega)]; exact hk⟩
theorem fm_18 (g : GT T T2) (h : FO 18 q T v) : FO 18 q T2 v := by
  obtain ⟨x, hx, hk, hl⟩ := h
  exact ⟨x, hx, by unfold AR; rw [g x (by omega) (by omega)]; exact ⟨hk, hl⟩⟩
theorem fm_19 (g : GT T T2) (h : FO 19 q T v) : FO 19 q T2 v := by
  obtain ⟨x, hx, hk, hl⟩ := h
  exact ⟨x, hx, by unfold AR; rw [g x (by omega) (by omega)]; exact ⟨hk, hl⟩⟩
theorem fm_20 (g : GT T T2) (h : FO 20 q T v) : FO 20 q T2 v := by
  obtain ⟨x, hx, hk, hl⟩ := h
  exact ⟨x, hx, by unfold AR; rw [g x (by omega) (by omega)]; exact ⟨hk, hl⟩⟩
theorem fm_21 (g : GT T T2) (h : FO 21 q T v) : FO 21 q T2 v := by
  obtain ⟨x, hx, hk, hl⟩ := h
  exact ⟨x, hx, by unfold AR; rw [g x (by omega) (by omega)]; exact ⟨hk, hl⟩⟩
theorem fm_22 (g : GT T T2) (h : FO 22 q T v) : FO 22 q T2 v := h
theorem fm_23 (g : GT T T2) (h : FO 23 q T v) : FO 23 q T2 v := by
  obtain ⟨x, hx, hk⟩ := h
  exact ⟨x, hx, by rw [g x (by omega) (by omega)]; exact hk⟩
theorem fm_24 (g : GT T T2) (h : FO 24 q T v) : FO 24 q T2 v := by
  obtain ⟨x, hx, hk, hl⟩ := h
  exact ⟨x, hx, by unfold AR; rw [g x (by omega) (by omega)]; exact ⟨hk, hl⟩⟩
theorem fm_25 (g : GT T T2) (h : FO 25 q T v) : FO 25 q T2 v := by
  rcases h with h | ⟨x, hx, hk⟩
  · exact Or.inl h
  · exact Or.inr ⟨x, hx, by rw [g x (by omega) (by omega)]; exact hk⟩
theorem fm_26 (g : GT T T2) (h : FO 26 q T v) : FO 26 q T2 v := by
  rcases h with h | ⟨x, hx, hk⟩
  · exact Or.inl h
  · exact Or.inr ⟨x, hx, by rw [g x (by omega) (by omega)]; exact hk⟩
theorem fm_27 (g : GT T T2) (h : FO 27 q T v) : FO 27 q T2 v := h
theorem fm_28 (g : GT T T2) (h : FO 28 q T v) : FO 28 q T2 v := h
theorem fm_29 (g : GT T T2) (h : FO 29 q T v) : FO 29 q T2 v := h
theorem fm_30 (g : GT T T2) (h : FO 30 q T v) : FO 30 q T2 v := h
theorem fm_31 (g : GT T T2) (h : FO 31 q T v) : FO 31 q T2 v := h
theorem fm_32 (g : GT T T2) (h : FO 32 q T v) : FO 32 q T2 v := h
theorem fm_33 (g : GT T T2) (h : FO 33 q T v) : FO 33 q T2 v := by
  obtain ⟨x, hx, hk⟩ := h
  exact ⟨x, hx, by rw [g x (by omega) (by omega)]; exact hk⟩
theorem fm_34 (g : GT T T2) (h : FO 34 q T v) : FO 34 q T2 v := by
  obtain ⟨x, hx, hk, hl⟩ := h
  exact ⟨x, hx, by unfold AR; rw [g x (by omega) (by omega)]; exact ⟨hk, hl⟩⟩
theorem fm_35 (g : GT T T2) (h : FO 35 q T v) : FO 35 q T2 v := by
  obtain ⟨x, hx, hk⟩ := h
  exact ⟨x, hx, by rw [g x (by omega) (by omega)]; exact hk⟩
theorem fm_36 (g : GT T T2) (h : FO 36 q T v) : FO 36 q T2 v := by
  obtain ⟨x, hx, hk, hl⟩ := h
  exact ⟨x, hx, by unfold AR; rw [g x (by omega) (by omega)]; exact ⟨hk, hl⟩⟩
theorem fm_37 (g : GT T T2) (h : FO 37 q T v) : FO 37 q T2 v := by
  obtain ⟨x, hx, hk, hl⟩ := h
  exact ⟨x, hx, by unfold AR; rw [g x (by omega) (by omega)]; exact ⟨hk, hl⟩⟩
theorem fm_38 (g : GT T T2) (h : FO 38 q T v) : FO 38 q T2 v := h
theorem fm_39 (g : GT T T2) (h : FO 39 q T v) : FO 39 q T2 v := by
  obtain ⟨x, hx, hk, hl⟩ := h
  exact ⟨x, hx, by unfold AR; rw [g x (by omega) (by omega)]; exact ⟨hk, hl⟩⟩
theorem fm_40 (g : GT T T2) (h : FO 40 q T v) : FO 40 q T2 v := by
  obtain ⟨x, hx, hk, hl⟩ := h
  exact ⟨x, hx, by unfold AR; rw [g x (by omega) (by omega)]; exact ⟨hk, hl⟩⟩
theorem fm_41 (g : GT T T2) (h : FO 41 q T v) : FO 41 q T2 v := by
  obtain ⟨x, hx, hk, hl⟩ := h
  exact ⟨x, hx, by unfold AR; rw [g x (by omega) (by omega)]; exact ⟨hk, hl⟩⟩
theorem fm_42 (g : GT T T2) (h : FO 42 q T v) : FO 42 q T2 v := h
theorem fm_43 (g : GT T T2) (h : FO 43 q T v) : FO 43 q T2 v := h
theorem fm_44 (g : GT T T2) (h : FO 44 q T v) : FO 44 q T2 v := h
theorem fm_45 (g : GT T T2) (h : FO 45 q T v) : FO 45 q T2 v := h
theorem fm_46 (g : GT T T2) (h : FO 46 q T v) : FO 46 q T2 v := h
theorem fm_47 (g : GT T T2) (h : FO 47 q T v) : FO 47 q T2 v := h
theorem fm_48 (g : GT T T2) (h : FO 48 q T v) : FO 48 q T2 v := by
  obtain ⟨x, hx, hk, hl⟩ := h
  exact ⟨x, hx, by unfold AR; rw [g x (by omega) (by omega)]; exact ⟨hk, hl⟩⟩
theorem fm_49 (g : GT T T2) (h : FO 49 q T v) : FO 49 q T2 v := by
  obtain ⟨x, hx, hk, hl⟩ := h
  exact ⟨x, hx, by unfold AR; rw [g x (by omega) (by omega)]; exact ⟨hk, hl⟩⟩
theorem fm_50 (g : GT T T2) (h : FO 50 q T v) : FO 50 q T2 v := h
theorem fm_51 (g : GT T T2) (h : FO 51 q T v) : FO 51 q T2 v := h
theorem fm_52 (g : GT T T2) (h : FO 52 q T v) : FO 52 q T2 v := by
  obtain ⟨x, hx, hk, hl⟩ := h
  exact ⟨x, hx, by unfold AR; rw [g x (by omega) (by omega)]; exact ⟨hk, hl⟩⟩
theorem fm_53 (g : GT T T2) (h : FO 53 q T v) : FO 53 q T2 v := by
  obtain ⟨x, hx, hk, hl⟩ := h
  exact ⟨x, hx, by unfold AR; rw [g x (by omega) (by omega)]; exact ⟨hk, hl⟩⟩
theorem fm_54 (g : GT T T2) (h : FO 54 q T v) : FO 54 q T2 v := by
  obtain ⟨x, hx, hk, hl⟩ := h
  exact ⟨x, hx, by unfold AR; rw [g x (by omega) (by omega)]; exact ⟨hk, hl⟩⟩
theorem fm_55 (g : GT T T2) (h : FO 55 q T v) : FO 55 q T2 v := by
  obtain ⟨x, hx, hl, h1, h2⟩ := h
  have e := g x (by omega) (by omega)
  exact ⟨x, hx, by rw [e]; exact hl, by rw [e]; exact h1, by rw [e]; exact h2⟩
theorem fm_56 (g : GT T T2) (h : FO 56 q T v) : FO 56 q T2 v := h
theorem fm_57 (g : GT T T2) (h : FO 57 q T v) : FO 57 q T2 v := h
theorem fm_58 (g : GT T T2) (h : FO 58 q T v) : FO 58 q T2 v := h
theorem fm_59 (g : GT T T2) (h : FO 59 q T v) : FO 59 q T2 v := by
  obtain ⟨x, hx, hk, hl⟩ := h
  exact ⟨x, hx, by unfold AR; rw [g x (by omega) (by omega)]; exact ⟨hk, hl⟩⟩
theorem fm_60 (g : GT T T2) (h : FO 60 q T v) : FO 60 q T2 v := by
  obtain ⟨x, hx, hk, hl⟩ := h
  exact ⟨x, hx, by unfold AR; rw [g x (by omega) (by omega)]; exact ⟨hk, hl⟩⟩
theorem fm_61 (g : GT T T2) (h : FO 61 q T v) : FO 61 q T2 v := by
  obtain ⟨x, hx, hl, h1, h2⟩ := h
  have e := g x (by omega) (by omega)
  exact ⟨x, hx, by rw [e]; exact hl, by rw [e]; exact h1, by rw [e]; exact h2⟩
theorem fm_62 (g : GT T T2) (h : FO 62 q T v) : FO 62 q T2 v := by
  obtain ⟨x, hx, hk, hl⟩ := h
  exact ⟨x, hx, by unfold AR; rw [g x (by omega) (by omega)]; exact ⟨hk, hl⟩⟩
theorem fm_63 (g : GT T T2) (h : FO 63 q T v) : FO 63 q T2 v := by
  obtain ⟨x, hx, hk, hl⟩ := h
  exact ⟨x, hx, by unfold AR; rw [g x (by omega) (by omega)]; exact ⟨hk, hl⟩⟩
theorem fm_64 (g : GT T T2) (h : FO 64 q T v) : FO 64 q T2 v := by
  obtain ⟨x, hx, hk, hl⟩ := h
  exact ⟨x, hx, by unfold AR; rw [g x (by omega) (by omega)]; exact ⟨hk, hl⟩⟩
theorem fm_65 (g : GT T T2) (h : FO 65 q T v) : FO 65 q T2 v := h
theorem fm_66 (g : GT T T2) (h : FO 66 q T v) : FO 66 q T2 v := h
theorem fm_67 (g : GT T T2) (h : FO 67 q T v) : FO 67 q T2 v := h
theorem fm_68 (g : GT T T2) (h : FO 68 q T v) : FO 68 q T2 v := h
theorem fm_69 (g : GT T T2) (h : FO 69 q T v) : FO 69 q T2 v := by
  rcases h with h | ⟨x, hx, h1, h2⟩
  · exact Or.inl h
  · have e := g x (by omega) (by omega)
    exact Or.inr ⟨x, hx, by rw [e]; exact h1, by rw [e]; exact h2⟩
theorem fm_70 (g : GT T T2) (h : FO 70 q T v) : FO 70 q T2 v := h
theorem fm_71 (g : GT T T2) (h : FO 71 q T v) : FO 71 q T2 v := h
theorem fm_72 (g : GT T T2) (h : FO 72 q T v) : FO 72 q T2 v := by
  obtain ⟨x, hx, hk⟩ := h
  exact ⟨x, hx, by rw [g x (by omega) (by omega)]; exact hk⟩
theorem fm_73 (g : GT T T2) (h : FO 73 q T v) : FO 73 q T2 v := by
  obtain ⟨x, hx, hk, hl⟩ := h
  exact ⟨x, hx, by unfold AR; rw [g x (by omega) (by omega)]; exact ⟨hk, hl⟩⟩
theorem fm_74 (g : GT T T2) (h : FO 74 q T v) : FO 74 q T2 v := by
  obtain ⟨x, hx, hk, hl⟩ := h
  exact ⟨x, hx, by unfold AR; rw [g x (by omega) (by omega)]; exact ⟨hk, hl⟩⟩
theorem fm_75 (g : GT T T2) (h : FO 75 q T v) : FO 75 q T2 v := by
  obtain ⟨x, hx, hk, hl⟩ := h
  exact ⟨x, hx, by unfold AR; rw [g x (by omega) (by omega)]; exact ⟨hk, hl⟩⟩
theorem fm_76 (g : GT T T2) (h : FO 76 q T v) : FO 76 q T2 v := by
  obtain ⟨x, hx, hk, hl⟩ := h
  exact ⟨x, hx, by unfold AR; rw [g x (by omega) (by omega)]; exact ⟨hk, hl⟩⟩
theorem fm_77 (g : GT T T2) (h : FO 77 q T v) : FO 77 q T2 v := by
  obtain ⟨x, hx, hk, hl⟩ := h
  exact ⟨x, hx, by unfold AR; rw [g x (by omega) (by omega)]; exact ⟨hk, hl⟩⟩
theorem fm_78 (g : GT T T2) (h : FO 78 q T v) : FO 78 q T2 v := by
  obtain ⟨x, hx, hk, hl⟩ := h
  exact ⟨x, hx, by unfold AR; rw [g x (by omega) (by omega)]; exact ⟨hk, hl⟩⟩
theorem fm_79 (g : GT T T2) (h : FO 79 q T v) : FO 79 q T2 v := by
  obtain ⟨x, hx, hk, hl⟩ := h
  exact ⟨x, hx, by unfold AR; rw [g x (by omega) (by omega)]; exact ⟨hk, hl⟩⟩
theorem fm_80 (g : GT T T2) (h : FO 80 q T v) : FO 80 q T2 v := h
theorem fm_81 (g : GT T T2) (h : FO 81 q T v) : FO 81 q T2 v := by
  obtain ⟨x, hx, hk, hl⟩ := h
  exact ⟨x, hx, by unfold AR; rw [g x (by omega) (by omega)]; exact ⟨hk, hl⟩⟩
theorem fm_82 (g : GT T T2) (h : FO 82 q T v) : FO 82 q T2 v := by
  obtain ⟨x, hx, hk, hl⟩ := h
  exact ⟨x, hx, by unfold AR; rw [g x (by omega) (by omega)]; exact ⟨hk, hl⟩⟩
theorem fm_83 (g : GT T T2) (h : FO 83 q T v) : FO 83 q T2 v := by
  obtain ⟨x, hx, hk, hl⟩ := h
  exact ⟨x, hx, by unfold AR; rw [g x (by omega) (by omega)]; exact ⟨hk, hl⟩⟩
theorem fm_84 (g : GT T T2) (h : FO 84 q T v) : FO 84 q T2 v := h
theorem fm_85 (g : GT T T2) (h : FO 85 q T v) : FO 85 q T2 v := h
theorem fm_86 (g : GT T T2) (h : FO 86 q T v) : FO 86 q T2 v := h
theorem fm_87 (g : GT T T2) (h : FO 87 q T v) : FO 87 q T2 v := h
theorem fm_88 (g : GT T T2) (h : FO 88 q T v) : FO 88 q T2 v := by
  obtain ⟨x, hx, hk, hl⟩ := h
  exact ⟨x, hx, by unfold AR; rw [g x (by omega) (by omega)]; exact ⟨hk, hl⟩⟩
theorem fm_89 (g : GT T T2) (h : FO 89 q T v) : FO 89 q T2 v := by
  obtain ⟨x, hx, hk, hl⟩ := h
  exact ⟨x, hx, by unfold AR; rw [g x (by omega) (by omega)]; exact ⟨hk, hl⟩⟩
theorem fm_90 (g : GT T T2) (h : FO 90 q T v) : FO 90 q T2 v := by
  obtain ⟨x, hx, hk, hl⟩ := h
  exact ⟨x, hx, by unfold AR; rw [g x (by omega) (by omega)]; exact ⟨hk, hl⟩⟩
theorem fm_91 (g : GT T T2) (h : FO 91 q T v) : FO 91 q T2 v := by
  obtain ⟨x, hx, hk, hl⟩ := h
  exact ⟨x, hx, by unfold AR; rw [g x (by omega) (by omega)]; exact ⟨hk, hl⟩⟩
theorem fm_92 (g : GT T T2) (h : FO 92 q T v) : FO 92 q T2 v := by
  rcases h with h | ⟨x, hx, hk, hl⟩
  · exact Or.inl h
  · exact Or.inr ⟨x, hx, by unfold AR; rw [g x (by omega) (by omega)]; exact ⟨hk, hl⟩⟩
theorem fm_93 (g : GT T T2) (h : FO 93 q T v) : FO 93 q T2 v := h
theorem fm_94 (g : GT T T2) (h : FO 94 q T v) : FO 94 q T2 v := h
theorem fm_95 (g : GT T T2) (h : FO 95 q T v) : FO 95 q T2 v := by
  obtain ⟨x, hx, hk, hl⟩ := h
  exact ⟨x, hx, by unfold AR; rw [g x (by omega) (by omega)]; exact ⟨hk, hl⟩⟩
theorem fm_96 (g : GT T T2) (h : FO 96 q T v) : FO 96 q T2 v := h
theorem fm_97 (g : GT T T2) (h : FO 97 q T v) : FO 97 q T2 v := h
theorem fm_98 (g : GT T T2) (h : FO 98 q T v) : FO 98 q T2 v := by
  obtain ⟨x, hx, hk, hl⟩ := h
  exact ⟨x, hx, by unfold AR; rw [g x (by omega) (by omega)]; exact ⟨hk, hl⟩⟩
theorem fm_99 (g : GT T T2) (h : FO 99 q T v) : FO 99 q T2 v := by
  obtain ⟨x, hx, hk, hl⟩ := h
  exact ⟨x, hx, by unfold AR; rw [g x (by omega) (by omega)]; exact ⟨hk, hl⟩⟩
theorem fm_100 (g : GT T T2) (h : FO 100 q T v) : FO 100 q T2 v := by
  obtain ⟨x, hx, hk⟩ := h
  exact ⟨x, hx, by rw [g x (by omega) (by omega)]; exact hk⟩
theorem fm_101 (g : GT T T2) (h : FO 101 q T v) : FO 101 q T2 v := by
  obtain ⟨x, hx, hk⟩ := h
  exact ⟨x, hx, by rw [g x (by omega) (by omega)]; exact hk⟩
theorem fm_102 (g : GT T T2) (h : FO 102 q T v) : FO 102 q T2 v := by
  obtain ⟨x, hx, hk⟩ := h
  exact ⟨x, hx, by rw [g x (by omega) (by omega)]; exact hk⟩
theorem fm_103 (g : GT T T2) (h : FO 103 q T v) : FO 103 q T2 v := by
  obtain ⟨x, hx, hk⟩ := h
  exact ⟨x, hx, by rw [g x (by omega) (by omega)]; exact hk⟩
theorem fm_104 (g : GT T T2) (h : FO 104 q T v) : FO 104 q T2 v := h
theorem fm_105 (g : GT T T2) (h : FO 105 q T v) : FO 105 q T2 v := h
theorem fm_106 (g : GT T T2) (h : FO 106 q T v) : FO 106 q T2 v := by
  obtain ⟨x, hx, hk⟩ := h
  exact ⟨x, hx, by rw [g x (by omega) (by omega)]; exact hk⟩
theorem fm_107 (g : GT T T2) (h : FO 107 q T v) : FO 107 q T2 v := by
  obtain ⟨x, hx, hk⟩ := h
  exact ⟨x, hx, by rw [g x (by omega) (by omega)]; exact hk⟩
theorem fm_108 (g : GT T T2) (h : FO 108 q T v) : FO 108 q T2 v := by
  obtain ⟨x, hx, hk⟩ := h
  exact ⟨x, hx, by rw [g x (by omega) (by omega)]; exact hk⟩
theorem fm_109 (g : GT T T2) (h : FO 109 q T v) : FO 109 q T2 v := by
  obtain ⟨x, hx, hk⟩ := h
  exact ⟨x, hx, by rw [g x (by omega) (by omega)]; exact hk⟩
theorem fm_110 (g : GT T T2) (h : FO 110 q T v) : FO 110 q T2 v := by
  rcases h with h | ⟨x, hx, hk⟩
  · exact Or.inl h
  · exact Or.inr ⟨x, hx, by rw [g x (by omega) (by omega)]; exact hk⟩
theorem fo_mono : ∀ n, n < 111 → GT T T2 → FO n q T v → FO n q T2 v := fun n hn g h => match n, hn, h with
  | 0, _, h => fm_0 g h
  | 1, _, h => fm_1 g h
  | 2, _, h => fm_2 g h
  | 3, _, h => fm_3 g h
  | 4, _, h => fm_4 g h
  | 5, _, h => fm_5 g h
  | 6, _, h => fm_6 g h
  | 7, _, h => fm_7 g h
  | 8, _, h => fm_8 g h
  | 9, _, h => fm_9 g h
  | 10, _, h => fm_10 g h
  | 11, _, h => fm_11 g h
  | 12, _, h => fm_12 g h
  | 13, _, h => fm_13 g h
  | 14, _, h => fm_14 g h
  | 15, _, h => fm_15 g h
  | 16, _, h => fm_16 g h
  | 17, _, h => fm_17 g h
  | 18, _, h => fm_18 g h
  | 19, _, h => fm_19 g h
  | 20, _, h => fm_20 g h
  | 21, _, h => fm_21 g h
  | 22, _, h => fm_22 g h
  | 23, _, h => fm_23 g h
  | 24, _, h => fm_24 g h
  | 25, _, h => fm_25 g h
  | 26, _, h => fm_26 g h
  | 27, _, h => fm_27 g h
  | 28, _, h => fm_28 g h
  | 29, _, h => fm_29 g h
  | 30, _, h => fm_30 g h
  | 31, _, h => fm_31 g h
  | 32, _, h => fm_32 g h
  | 33, _, h => fm_33 g h
  | 34, _, h => fm_34 g h
  | 35, _, h => fm_35 g h
  | 36, _, h => fm_36 g h
  | 37, _, h => fm_37 g h
  | 38, _, h => fm_38 g h
  | 39, _, h => fm_39 g h
  | 40, _, h => fm_40 g h
  | 41, _, h => fm_41 g h
  | 42, _, h => fm_42 g h
  | 43, _, h => fm_43 g h
  | 44, _, h => fm_44 g h
  | 45, _, h => fm_45 g h
  | 46, _, h => fm_46 g h
  | 47, _, h => fm_47 g h
  | 48, _, h => fm_48 g h
  | 49, _, h => fm_49 g h
  | 50, _, h => fm_50 g h
  | 51, _, h => fm_51 g h
  | 52, _, h => fm_52 g h
  | 53, _, h => fm_53 g h
  | 54, _, h => fm_54 g h
  | 55, _, h => fm_55 g h
  | 56, _, h => fm_56 g h
  | 57, _, h => fm_57 g h
  | 58, _, h => fm_58 g h
  | 59, _, h => fm_59 g h
  | 60, _, h => fm_60 g h
  | 61, _, h => fm_61 g h
  | 62, _, h => fm_62 g h
  | 63, _, h => fm_63 g h
  | 64, _, h => fm_64 g h
  | 65, _, h => fm_65 g h
  | 66, _, h => fm_66 g h
  | 67, _, h => fm_67 g h
  | 68, _, h => fm_68 g h
  | 69, _, h => fm_69 g h
  | 70, _, h => fm_70 g h
  | 71, _, h => fm_71 g h
  | 72, _, h => fm_72 g h
  | 73, _, h => fm_73 g h
  | 74, _, h => fm_74 g h
  | 75, _, h => fm_75 g h
  | 76, _, h => fm_76 g h
  | 77, _, h => fm_77 g h
  | 78, _, h => fm_78 g h
  | 79, _, h => fm_79 g h
  | 80, _, h => fm_80 g h
  | 81, _, h => fm_81 g h
  | 82, _, h => fm_82 g h
  | 83, _, h => fm_83 g h
  | 84, _, h => fm_84 g h
  | 85, _, h => fm_85 g h
  | 86, _, h => fm_86 g h
  | 87, _, h => fm_87 g h
  | 88, _, h => fm_88 g h
  | 89, _, h => fm_89 g h
  | 90, _, h => fm_90 g h
  | 91, _, h => fm_91 g h
  | 92, _, h => fm_92 g h
  | 93, _, h => fm_93 g h
  | 94, _, h => fm_94 g h
  | 95, _, h => fm_95 g h
  | 96, _, h => fm_96 g h
  | 97, _, h => fm_97 g h
  | 98, _, h => fm_98 g h
  | 99, _, h => fm_99 g h
  | 100, _, h => fm_100 g h
  | 101, _, h => fm_101 g h
  | 102, _, h => fm_102 g h
  | 103, _, h => fm_103 g h
  | 104, _, h => fm_104 g h
  | 105, _, h => fm_105 g h
  | 106, _, h => fm_106 g h
  | 107, _, h => fm_107 g h
  | 108, _, h => fm_108 g h
  | 109, _, h => fm_109 g h
  | 110, _, h => fm_110 g h
  | k + 111, hn, _ => absurd hn (by omega)
end FMS
theorem sum_le {K : List Nat} {f g : Nat → Nat} (h : ∀ c, c ∈ K → f c ≤ g c) : (K.map f).sum ≤ (K.map g).sum := by
  induction K with
  | nil => simp
  | cons c K ih =>
    simp only [List.map_cons, List.sum_cons]
    have h1 := ih (fun c hc => h c (List.mem_cons_of_mem _ hc))
    have h2 := h c (List.mem_cons_self ..)
    omega
theorem sum_up {K : List Nat} {f g : Nat → Nat} {a n : Nat} (ha : a ∈ K) (h : ∀ c, c ∈ K → f c ≤ g c) (hn : f a + n ≤ g a) : (K.map f).sum + n ≤ (K.map g).sum := by
  induction K with
  | nil => simp at ha
  | cons c K ih =>
    simp only [List.map_cons, List.sum_cons]
    have hr : ∀ c, c ∈ K → f c ≤ g c := fun c hc => h c (List.mem_cons_of_mem _ hc)
    rcases List.mem_cons.mp ha with e | e
    · subst e
      have h1 := sum_le hr
      omega
    · have h1 := ih e hr
      have h2 := h c (List.mem_cons_self ..)
      omega
theorem phL_grow {m n : Nat} (h1 : m < n) (h2 : n = 2600 ∨ (2 * m ≤ n ∧ n < 2600)) : phL m + n ≤ phL n := by
  unfold phL
  rw [if_pos (by omega)]
  by_cases h : n < 2600
  · rw [if_pos h]; omega
  · rw [if_neg h]; omega
section MKS
variable {T : CT} {σ τ : MS} {e e1 a x y k N : Nat} {v : Int} {f : Int → Int}
def WTx (e e1 : Nat) (T : CT) (σ : MS) (a : Nat) : Prop := (∀ n a, n < 111 → OB T a (cls n) → FO n (T a).1 T (σ.2.1 n a)) ∧ (∀ c x : Nat, c ≠ a → OB T c 1 → σ.2.1 5 c = (x : Int) → 13 * σ.2.1 6 c ≤ ((T x).2 : Int) ∨ 2600 ≤ (T x).2) ∧ WTA T σ ∧ WTQ T σ ∧ WTM T σ ∧ ∃ b K, (∀ a, OB T a 11 → a = b) ∧ BUD e e1 b K T σ
theorem WT.wx (h : WT T σ) : WTx 0 0 T σ a := ⟨h.1, fun c x _ q r => h.2.1 c x q r, h.2.2⟩
theorem WT.put6x (h : WT T σ) (hv : FO 6 (T a).1 T v) : WTx 0 0 T (sA 6 a v σ) a := by
  obtain ⟨h1, h2, h3, h4, h5, b, K, h6, h7⟩ := h
  refine ⟨fun m b q w => ?_, fun c x hc q r => ?_, fun b q => ?_, ⟨fun b q => ?_, fun b q => ?_⟩, ⟨h5.1, ?_⟩, b, K, h6, h7.put (by omega) (by omega) (by omega)⟩
  · by_cases e : m = 6
    · by_cases f : b = a
      · rw [e, f, show (sA 6 a v σ).2.1 6 a = v from ra_eq]; exact hv
      · rw [sA_ne (by omega)]; exact h1 m b q w
    · rw [sA_k e]; exact h1 m b q w
  · rw [sA_k (by omega)] at r
    rw [sA_ne (by omega)]
    exact h2 c x q r
  · rw [sA_k (by omega)]; exact h3 b q
  · rw [sA_k (by omega)]; exact h4.1 b q
  · rw [sA_k (by omega)]; exact h4.2 b q
  · rw [sA_k (by omega)]; exact h5.2
theorem tT_gt (hx : (T x).1 = 0) : ∀ a, (T a).1 ≠ 0 → tT T x k N a = T a := fun a h => tT_ne (fun e => h (by rw [e]; exact hx))
theorem tT_ob {c ci : Nat} (hk : k < 30) (h : OB (tT T x k N) c ci) : OB T c ci := by
  have e : c ≠ x := fun e => by
    unfold OB at h; rw [e, tT_eq] at h
    have := h.1
    have h9 : 30 ≤ k := this
    omega
  unfold OB at h ⊢; rw [tT_ne e] at h; exact h
theorem ob_tT {c ci : Nat} (hx : (T x).1 = 0) (h : OB T c ci) : OB (tT T x k N) c ci := by
  unfold OB at h ⊢; rw [tT_gt hx c (by omega)]; exact h
theorem cells_at {c : Nat} (h1 : ∀ n a, n < 111 → OB T a (cls n) → FO n (T a).1 T (σ.2.1 n a)) (hc : OB T c 1) : ∃ y : Nat, σ.2.1 5 c = (y : Int) ∧ ((T y).1 = 1 ∨ (T y).1 = 13) ∧ 208 ≤ (T y).2 ∧ (T y).2 ≤ 2600 := by
  obtain ⟨y, e1, e2, e3, e4⟩ : FO 5 (T c).1 T (σ.2.1 5 c) := h1 5 c (by decide) hc
  exact ⟨y, e1, by omega, e2.1, e2.2⟩
theorem WTx.newI (h : WTx e e1 T σ a) (hx : (T x).1 = 0) (hk : k = 1 ∨ (11 ≤ k ∧ k ≤ 24)) (hf : ∀ i, VOK k i (f i)) (hN : 1 ≤ N) : WTx (e + N) (e1 + 1) (tT T x k N) (rowS (1000 + x) f (gh N σ)) a := by
  obtain ⟨h1, h2, h3, h4, h5, b, K, h6, h7⟩ := h
  have g := tT_gt (k := k) (N := N) hx
  have gg : GT T (tT T x k N) := fun a p _ => g a p
  have rr : ∀ n, n < 1000 → (rowS (1000 + x) f (gh N σ)).2.1 n = σ.2.1 n := fun n hn => by rw [rowS_ne (by omega)]; rfl
  have hk30 : k < 30 := by omega
  have cl : ∀ c, OB T c 1 → cLen (tT T x k N) (rowS (1000 + x) f (gh N σ)) c = cLen T σ c := fun c hc => by
    obtain ⟨y, e1, e2, -⟩ := cells_at h1 hc
    unfold cLen
    rw [rr 5 (by omega), e1]
    show (tT T x k N y).2 = (T y).2
    rw [g y (by omega)]
  have tl : ∀ i : Int, 0 ≤ i → i < 6 → tLen (tT T x k N) (rowS (1000 + x) f (gh N σ)) i = tLen T σ i := fun i i0 i1 => by
    unfold tLen
    rw [rr 900 (by omega)]
    rcases h5.2 i i0 i1 with q | ⟨y, q1, q2⟩
    · rw [if_pos q, if_pos q]
    · rw [q1, if_neg (by omega), if_neg (by omega)]
      show (tT T x k N y).2 = (T y).2
      rw [g y (by have := q2.1; omega)]
  refine ⟨fun n c q w => ?_, fun c y hc q r => ?_, fun c q i => ?_, ⟨fun c q i i0 i1 => ?_, fun c q i i0 i1 => ?_⟩, ⟨fun c c' q q' => ?_, fun i i0 i1 => ?_⟩, b, K, fun c hc => h6 c (tT_ob hk30 hc), h7.1, fun c => ⟨fun hc => ob_tT hx ((h7.2.1 c).mp hc), fun hc => (h7.2.1 c).mpr (tT_ob hk30 hc)⟩, ?_, ?_⟩
  · have hc := tT_ob hk30 w
    rw [rr n (by omega), g c (by have := hc.1; omega)]
    exact fo_mono n q gg (h1 n c q hc)
  · have hc2 := tT_ob hk30 q
    rw [rr 5 (by omega)] at r
    rw [rr 6 (by omega)]
    obtain ⟨y2, e1, e2, -⟩ := cells_at h1 hc2
    have e3 : y2 = y := by omega
    rw [g y (by rw [← e3]; omega)]
    exact h2 c y hc hc2 r
  · by_cases e : c = x
    · rw [e, rowS_eq, tT_eq]; exact hf i
    · rw [rowS_ne (by omega)]
      have e2 : tT T x k N c = T c := tT_ne e
      have q2 : IA T c ∨ (T c).1 = 2 := by unfold IA at q ⊢; rw [e2] at q; exact q
      rw [e2]; exact h3 c q2 i
  · have e : c ≠ x := fun e => by rw [e, tT_eq] at q; have q9 : k = 4 := q; omega
    have e2 : tT T x k N c = T c := tT_ne e
    rw [e2] at q i1
    rw [rowS_ne (by omega)]
    obtain ⟨y, w1, w2⟩ := h4.1 c q i i0 i1
    exact ⟨y, w1, by rw [g y (by omega)]; exact w2⟩
  · have e : c ≠ x := fun e => by rw [e, tT_eq] at q; have q9 : k = 5 := q; omega
    have e2 : tT T x k N c = T c := tT_ne e
    rw [e2] at q i1
    rw [rowS_ne (by omega)]
    obtain ⟨y, w1, w2⟩ := h4.2 c q i i0 i1
    exact ⟨y, w1, by rw [g y (by omega)]; exact w2⟩
  · have e : ∀ c, (tT T x k N c).1 = 7 → (T c).1 = 7 := fun c q => by
      have e : c ≠ x := fun e => by rw [e, tT_eq] at q; have q9 : k = 7 := q; omega
      rw [tT_ne e] at q; exact q
    exact h5.1 c c' (e c q) (e c' q')
  · rw [rr 900 (by omega)]
    rcases h5.2 i i0 i1 with q | ⟨y, q1, q2⟩
    · exact Or.inl q
    · exact Or.inr ⟨y, q1, by unfold AR; rw [g y (by have := q2.1; omega)]; exact q2⟩
  · have e1 : (K.map (fun a => phL (cLen (tT T x k N) (rowS (1000 + x) f (gh N σ)) a))) = K.map (fun a => phL (cLen T σ a)) := List.map_congr_left (fun c hc => by rw [cl c ((h7.2.1 c).mp hc)])
    have e2 : tSum (tLen (tT T x k N) (rowS (1000 + x) f (gh N σ))) = tSum (tLen T σ) := by unfold tSum; rw [tl 0 (by omega) (by omega), tl 1 (by omega) (by omega), tl 2 (by omega) (by omega), tl 3 (by omega) (by omega), tl 4 (by omega) (by omega), tl 5 (by omega) (by omega)]
    have e3 : prS (rowS (1000 + x) f (gh N σ)) b = prS σ b := by unfold prS; rw [rr 110 (by omega)]
    rw [e1, e2, e3]
    show σ.1 0 + (N : Int) ≤ _
    have := h7.2.2.1
    omega
  · have e1 : (K.map (fun a => cLen (tT T x k N) (rowS (1000 + x) f (gh N σ)) a)) = K.map (fun a => cLen T σ a) := List.map_congr_left (fun c hc => by rw [cl c ((h7.2.1 c).mp hc)])
    have e2 : tSum (tLen (tT T x k N) (rowS (1000 + x) f (gh N σ))) = tSum (tLen T σ) := by unfold tSum; rw [tl 0 (by omega) (by omega), tl 1 (by omega) (by omega), tl 2 (by omega) (by omega), tl 3 (by omega) (by omega), tl 4 (by omega) (by omega), tl 5 (by omega) (by omega)]
    have e3 : prS (rowS (1000 + x) f (gh N σ)) b = prS σ b := by unfold prS; rw [rr 110 (by omega)]
    rw [e1, e2, e3]
    show σ.1 1 + 1 ≤ _
    have := h7.2.2.2
    omega
theorem WTx.pay5 (h : WTx N 1 T σ a) (ha : OB T a 1) (hx : CELL T a x) (hN : (T x).2 = N) (hl : 208 ≤ N ∧ N ≤ 2600) (hy : σ.2.1 5 a = (y : Int)) (h1 : (T y).2 < N) (h2 : N = 2600 ∨ (2 * (T y).2 ≤ N ∧ N < 2600)) (hc : 13 * σ.2.1 6 a ≤ (N : Int) ∨ 2600 ≤ N) : WT T (sA 5 a x σ) := by
  obtain ⟨w1, w2, w3, w4, w5, b, K, w6, w7⟩ := h
  have cl : ∀ c, c ≠ a → cLen T (sA 5 a x σ) c = cLen T σ c := fun c hc => by unfold cLen; rw [sA_ne (by omega)]
  have ca : cLen T (sA 5 a x σ) a = N := by unfold cLen; rw [show (sA 5 a x σ).2.1 5 a = (x : Int) from ra_eq]; exact hN
  have cb : cLen T σ a = (T y).2 := by unfold cLen; rw [hy]; rfl
  have ka := (w7.2.1 a).mpr ha
  refine ⟨fun m b q w => ?_, fun c z q r => ?_, fun b q => ?_, ⟨fun b q => ?_, fun b q => ?_⟩, ⟨w5.1, ?_⟩, b, K, w6, w7.1, w7.2.1, ?_, ?_⟩
  · by_cases e : m = 5
    · by_cases f : b = a
      · rw [e, f, show (sA 5 a x σ).2.1 5 a = (x : Int) from ra_eq]; exact fo_5 ⟨x, rfl, by omega, hx.1, hx.2⟩
      · rw [sA_ne (by omega)]; exact w1 m b q w
    · rw [sA_k e]; exact w1 m b q w
  · by_cases f : c = a
    · rw [f, show (sA 5 a x σ).2.1 5 a = (x : Int) from ra_eq] at r
      have e : z = x := by omega
      rw [f, sA_k (by omega), e, hN]
      omega
    · rw [sA_ne (by omega)] at r
      rw [sA_ne (by omega)]
      exact w2 c z f q r
  · rw [sA_k (by omega)]; exact w3 b q
  · rw [sA_k (by omega)]; exact w4.1 b q
  · rw [sA_k (by omega)]; exact w4.2 b q
  · rw [sA_k (by omega)]; exact w5.2
  · have s1 : (K.map (fun a => phL (cLen T σ a))).sum + N ≤ (K.map (fun c => phL (cLen T (sA 5 a x σ) c))).sum := by
      refine sum_up ka (fun c _ => ?_) ?_
      · by_cases f : c = a
        · rw [f, ca, cb]; have := phL_grow h1 h2; omega
        · rw [cl c f]; exact Nat.le_refl _
      · rw [ca, cb]; exact phL_grow h1 h2
    have e2 : tLen T (sA 5 a x σ) = tLen T σ := tLen_put (by omega)
    have e3 : prS (sA 5 a x σ) b = prS σ b := prS_put (by omega)
    rw [e2, e3]
    show σ.1 0 ≤ _
    have := w7.2.2.1
    omega
  · have s1 : (K.map (fun a => cLen T σ a)).sum + 1 ≤ (K.map (fun c => cLen T (sA 5 a x σ) c)).sum := by
      refine sum_up ka (fun c _ => ?_) ?_
      · by_cases f : c = a
        · rw [f, ca, cb]; omega
        · rw [cl c f]; exact Nat.le_refl _
      · rw [ca, cb]; omega
    have e2 : tLen T (sA 5 a x σ) = tLen T σ := tLen_put (by omega)
    have e3 : prS (sA 5 a x σ) b = prS σ b := prS_put (by omega)
    rw [e2, e3]
    show σ.1 1 ≤ _
    have := w7.2.2.2
    omega
end MKS
end
section
theorem lay_0 : ∀ w ∈ u_ws RX0 TX0 5, w ∈ pWW := pLay (fun k hk => match k, hk with
  | 0, _ => pw6 (List.mem_of_getElem? (i := 190) rfl) rfl
  | 1, _ => pw6 (List.mem_of_getElem? (i := 192) rfl) rfl
  | 2, _ => pw6 (List.mem_of_getElem? (i := 194) rfl) rfl
  | 3, _ => pw6 (List.mem_of_getElem? (i := 196) rfl) rfl
  | 4, _ => pw6 (List.mem_of_getElem? (i := 198) rfl) rfl
  | k + 5, h => absurd h (by omega))
theorem lay_1 : ∀ w ∈ u_ws RX1 TX1 12, w ∈ pWW := pLay (fun k hk => match k, hk with
  | 0, _ => pw1 (List.mem_of_getElem? (i := 128) rfl) rfl
  | 1, _ => pw1 (List.mem_of_getElem? (i := 130) rfl) rfl
  | 2, _ => pw1 (List.mem_of_getElem? (i := 132) rfl) rfl
  | 3, _ => pw1 (List.mem_of_getElem? (i := 134) rfl) rfl
  | 4, _ => pw1 (List.mem_of_getElem? (i := 136) rfl) rfl
  | 5, _ => pw1 (List.mem_of_getElem? (i := 138) rfl) rfl
  | 6, _ => pw1 (List.mem_of_getElem? (i := 140) rfl) rfl
  | 7, _ => pw1 (List.mem_of_getElem? (i := 142) rfl) rfl
  | 8, _ => pw1 (List.mem_of_getElem? (i := 144) rfl) rfl
  | 9, _ => pw1 (List.mem_of_getElem? (i := 146) rfl) rfl
  | 10, _ => pw1 (List.mem_of_getElem? (i := 148) rfl) rfl
  | 11, _ => pw1 (List.mem_of_getElem? (i := 150) rfl) rfl
  | k + 12, h => absurd h (by omega))
theorem lay_2 : ∀ w ∈ u_ws RX2 TX2 1, w ∈ pWW := pLay (fun k hk => match k, hk with
  | 0, _ => pw2 (List.mem_of_getElem? (i := 52) rfl) rfl
  | k + 1, h => absurd h (by omega))
theorem lay_3 : ∀ w ∈ u_ws RX3 TX3 5, w ∈ pWW := pLay (fun k hk => match k, hk with
  | 0, _ => pw1 (List.mem_of_getElem? (i := 227) rfl) rfl
  | 1, _ => pw1 (List.mem_of_getElem? (i := 229) rfl) rfl
  | 2, _ => pw1 (List.mem_of_getElem? (i := 231) rfl) rfl
  | 3, _ => pw1 (List.mem_of_getElem? (i := 233) rfl) rfl
  | 4, _ => pw1 (List.mem_of_getElem? (i := 235) rfl) rfl
  | k + 5, h => absurd h (by omega))
theorem lay_4 : ∀ w ∈ u_ws RX4 TX4 10, w ∈ pWW := pLay (fun k hk => match k, hk with
  | 0, _ => pw2 (List.mem_of_getElem? (i := 71) rfl) rfl
  | 1, _ => pw2 (List.mem_of_getElem? (i := 73) rfl) rfl
  | 2, _ => pw2 (List.mem_of_getElem? (i := 75) rfl) rfl
  | 3, _ => pw2 (List.mem_of_getElem? (i := 77) rfl) rfl
  | 4, _ => pw2 (List.mem_of_getElem? (i := 79) rfl) rfl
  | 5, _ => pw2 (List.mem_of_getElem? (i := 81) rfl) rfl
  | 6, _ => pw2 (List.mem_of_getElem? (i := 83) rfl) rfl
  | 7, _ => pw2 (List.mem_of_getElem? (i := 85) rfl) rfl
  | 8, _ => pw2 (List.mem_of_getElem? (i := 87) rfl) rfl
  | 9, _ => pw2 (List.mem_of_getElem? (i := 89) rfl) rfl
  | k + 10, h => absurd h (by omega))
theorem lay_5 : ∀ w ∈ u_ws RX5 TX5 19, w ∈ pWW := pLay (fun k hk => match k, hk with
  | 0, _ => pw1 (List.mem_of_getElem? (i := 175) rfl) rfl
  | 1, _ => pw1 (List.mem_of_getElem? (i := 177) rfl) rfl
  | 2, _ => pw1 (List.mem_of_getElem? (i := 179) rfl) rfl
  | 3, _ => pw1 (List.mem_of_getElem? (i := 181) rfl) rfl
  | 4, _ => pw1 (List.mem_of_getElem? (i := 183) rfl) rfl
  | 5, _ => pw1 (List.mem_of_getElem? (i := 185) rfl) rfl
  | 6, _ => pw1 (List.mem_of_getElem? (i := 187) rfl) rfl
  | 7, _ => pw1 (List.mem_of_getElem? (i := 189) rfl) rfl
  | 8, _ => pw1 (List.mem_of_getElem? (i := 191) rfl) rfl
  | 9, _ => pw1 (List.mem_of_getElem? (i := 193) rfl) rfl
  | 10, _ => pw1 (List.mem_of_getElem? (i := 195) rfl) rfl
  | 11, _ => pw1 (List.mem_of_getElem? (i := 197) rfl) rfl
  | 12, _ => pw1 (List.mem_of_getElem? (i := 199) rfl) rfl
  | 13, _ => pw1 (List.mem_of_getElem? (i := 201) rfl) rfl
  | 14, _ => pw1 (List.mem_of_getElem? (i := 203) rfl) rfl
  | 15, _ => pw1 (List.mem_of_getElem? (i := 205) rfl) rfl
  | 16, _ => pw1 (List.mem_of_getElem? (i := 207) rfl) rfl
  | 17, _ => pw1 (List.mem_of_getElem? (i := 209) rfl) rfl
  | 18, _ => pw1 (List.mem_of_getElem? (i := 211) rfl) rfl
  | k + 19, h => absurd h (by omega))
theorem lay_6 : ∀ w ∈ u_ws RX6 TX6 3, w ∈ pWW := pLay (fun k hk => match k, hk with
  | 0, _ => pw2 (List.mem_of_getElem? (i := 38) rfl) rfl
  | 1, _ => pw2 (List.mem_of_getElem? (i := 40) rfl) rfl
  | 2, _ => pw2 (List.mem_of_getElem? (i := 42) rfl) rfl
  | k + 3, h => absurd h (by omega))
theorem lay_7 : ∀ w ∈ u_ws RX7 TX7 17, w ∈ pWW := pLay (fun k hk => match k, hk with
  | 0, _ => pw2 (List.mem_of_getElem? (i := 161) rfl) rfl
  | 1, _ => pw2 (List.mem_of_getElem? (i := 163) rfl) rfl
  | 2, _ => pw2 (List.mem_of_getElem? (i := 165) rfl) rfl
  | 3, _ => pw2 (List.mem_of_getElem? (i := 167) rfl) rfl
  | 4, _ => pw2 (List.mem_of_getElem? (i := 169) rfl) rfl
  | 5, _ => pw2 (List.mem_of_getElem? (i := 171) rfl) rfl
  | 6, _ => pw2 (List.mem_of_getElem? (i := 173) rfl) rfl
  | 7, _ => pw2 (List.mem_of_getElem? (i := 175) rfl) rfl
  | 8, _ => pw2 (List.mem_of_getElem? (i := 177) rfl) rfl
  | 9, _ => pw2 (List.mem_of_getElem? (i := 179) rfl) rfl
  | 10, _ => pw2 (List.mem_of_getElem? (i := 181) rfl) rfl
  | 11, _ => pw2 (List.mem_of_getElem? (i := 183) rfl) rfl
  | 12, _ => pw2 (List.mem_of_getElem? (i := 185) rfl) rfl
  | 13, _ => pw2 (List.mem_of_getElem? (i := 187) rfl) rfl
  | 14, _ => pw2 (List.mem_of_getElem? (i := 189) rfl) rfl
  | 15, _ => pw2 (List.mem_of_getElem? (i := 191) rfl) rfl
  | 16, _ => pw2 (List.mem_of_getElem? (i := 193) rfl) rfl
  | k + 17, h => absurd h (by omega))
theorem lay_8 : ∀ w ∈ u_ws RX8 TX8 9, w ∈ pWW := pLay (fun k hk => match k, hk with
  | 0, _ => pw2 (List.mem_of_getElem? (i := 107) rfl) rfl
  | 1, _ => pw2 (List.mem_of_getElem? (i := 109) rfl) rfl
  | 2, _ => pw2 (List.mem_of_getElem? (i := 111) rfl) rfl
  | 3, _ => pw2 (List.mem_of_getElem? (i := 113) rfl) rfl
  | 4, _ => pw2 (List.mem_of_getElem? (i := 115) rfl) rfl
  | 5, _ => pw2 (List.mem_of_getElem? (i := 117) rfl) rfl
  | 6, _ => pw2 (List.mem_of_getElem? (i := 119) rfl) rfl
  | 7, _ => pw2 (List.mem_of_getElem? (i := 121) rfl) rfl
  | 8, _ => pw2 (List.mem_of_getElem? (i := 123) rfl) rfl
  | k + 9, h => absurd h (by omega))
theorem lay_9 : ∀ w ∈ u_ws RX9 TX9 7, w ∈ pWW := pLay (fun k hk => match k, hk with
  | 0, _ => pw1 (List.mem_of_getElem? (i := 54) rfl) rfl
  | 1, _ => pw1 (List.mem_of_getElem? (i := 56) rfl) rfl
  | 2, _ => pw1 (List.mem_of_getElem? (i := 58) rfl) rfl
  | 3, _ => pw1 (List.mem_of_getElem? (i := 60) rfl) rfl
  | 4, _ => pw1 (List.mem_of_getElem? (i := 62) rfl) rfl
  | 5, _ => pw1 (List.mem_of_getElem? (i := 64) rfl) rfl
  | 6, _ => pw1 (List.mem_of_getElem? (i := 66) rfl) rfl
  | k + 7, h => absurd h (by omega))
theorem lay_10 : ∀ w ∈ u_ws RX10 TX10 7, w ∈ pWW := pLay (fun k hk => match k, hk with
  | 0, _ => pw2 (List.mem_of_getElem? (i := 14) rfl) rfl
  | 1, _ => pw2 (List.mem_of_getElem? (i := 16) rfl) rfl
  | 2, _ => pw2 (List.mem_of_getElem? (i := 18) rfl) rfl
  | 3, _ => pw2 (List.mem_of_getElem? (i := 20) rfl) rfl
  | 4, _ => pw2 (List.mem_of_getElem? (i := 22) rfl) rfl
  | 5, _ => pw2 (List.mem_of_getElem? (i := 24) rfl) rfl
  | 6, _ => pw2 (List.mem_of_getElem? (i := 26) rfl) rfl
  | k + 7, h => absurd h (by omega))
theorem lay_11 : ∀ w ∈ u_ws RX11 TX11 16, w ∈ pWW := pLay (fun k hk => match k, hk with
  | 0, _ => pw2 (List.mem_of_getElem? (i := 212) rfl) rfl
  | 1, _ => pw2 (List.mem_of_getElem? (i := 214) rfl) rfl
  | 2, _ => pw2 (List.mem_of_getElem? (i := 216) rfl) rfl
  | 3, _ => pw2 (List.mem_of_getElem? (i := 218) rfl) rfl
  | 4, _ => pw2 (List.mem_of_getElem? (i := 220) rfl) rfl
  | 5, _ => pw2 (List.mem_of_getElem? (i := 222) rfl) rfl
  | 6, _ => pw2 (List.mem_of_getElem? (i := 224) rfl) rfl
  | 7, _ => pw2 (List.mem_of_getElem? (i := 226) rfl) rfl
  | 8, _ => pw2 (List.mem_of_getElem? (i := 228) rfl) rfl
  | 9, _ => pw2 (List.mem_of_getElem? (i := 230) rfl) rfl
  | 10, _ => pw2 (List.mem_of_getElem? (i := 232) rfl) rfl
  | 11, _ => pw2 (List.mem_of_getElem? (i := 234) rfl) rfl
  | 12, _ => pw2 (List.mem_of_getElem? (i := 236) rfl) rfl
  | 13, _ => pw2 (List.mem_of_getElem? (i := 238) rfl) rfl
  | 14, _ => pw3 (List.mem_of_getElem? (i := 0) rfl) rfl
  | 15, _ => pw3 (List.mem_of_getElem? (i := 2) rfl) rfl
  | k + 16, h => absurd h (by omega))
theorem stM_max : Cond.static Lib.Math.max.name ∈ pWW := pw3 (List.mem_of_getElem? (i := 33) rfl) rfl
theorem cdM_max : Cond.code Lib.Math.max.name Lib.Math.max.code 2 (some .int) ∈ pWW := pw3 (List.mem_of_getElem? (i := 34) rfl) rfl
theorem stM_min : Cond.static Lib.Math.min.name ∈ pWW := pw3 (List.mem_of_getElem? (i := 30) rfl) rfl
theorem cdM_min : Cond.code Lib.Math.min.name Lib.Math.min.code 2 (some .int) ∈ pWW := pw3 (List.mem_of_getElem? (i := 31) rfl) rfl
theorem iniM : Cond.initialized "java/lang/Math" ∈ pWW := pw1 (List.mem_of_getElem? (i := 13) rfl) rfl
theorem acNat : Cond.native arraycopyName ∈ pWW := pw3 (List.mem_of_getElem? (i := 143) rfl) rfl
theorem acSt : Cond.static arraycopyName ∈ pWW := pw3 (List.mem_of_getElem? (i := 142) rfl) rfl
theorem acIni : Cond.initialized "java/lang/System" ∈ pWW := pw1 (List.mem_of_getElem? (i := 15) rfl) rfl
theorem arC_int : Cond.arrayClass .int ∈ pWW := pw1 (List.mem_of_getElem? (i := 70) rfl) rfl
theorem arC_byte : Cond.arrayClass .byte ∈ pWW := pw1 (List.mem_of_getElem? (i := 69) rfl) rfl
theorem arC_long : Cond.arrayClass .long ∈ pWW := pw1 (List.mem_of_getElem? (i := 238) rfl) rfl
theorem cd_J7_fill_53178 : Cond.code yJ7_fill_53178 cJ7_fill_53178 4 none ∈ pWW := pw3 (List.mem_of_getElem? (i := 161) rfl) rfl
theorem ini_J7 : Cond.initialized RXJ7 ∈ pWW := pw1 (List.mem_of_getElem? (i := 14) rfl) rfl
abbrev m_J7_fill_53178 : MT := (yJ7_fill_53178, cJ7_fill_53178, 4, none)
theorem ok_J7_fill_53178 : pOk m_J7_fill_53178 := ⟨⟨cd_J7_fill_53178, ini_J7⟩, by decide +kernel, ⟨by decide +kernel, by decide +kernel⟩, Nat.le_of_ble_eq_true rfl⟩
theorem np_J7_fill_53178 : (parseMethodDescriptor yJ7_fill_53178.desc).map (fun d => d.parameters.length) = some 2 := by decide +kernel
theorem stt_J7_fill_53178 : Cond.static yJ7_fill_53178 ∈ pWW := pw3 (List.mem_of_getElem? (i := 160) rfl) rfl
theorem cd_J7_fill_fda19 : Cond.code yJ7_fill_fda19 cJ7_fill_fda19 5 none ∈ pWW := pw3 (List.mem_of_getElem? (i := 146) rfl) rfl
abbrev m_J7_fill_fda19 : MT := (yJ7_fill_fda19, cJ7_fill_fda19, 5, none)
theorem ok_J7_fill_fda19 : pOk m_J7_fill_fda19 := ⟨⟨cd_J7_fill_fda19, ini_J7⟩, by decide +kernel, ⟨by decide +kernel, by decide +kernel⟩, Nat.le_of_ble_eq_true rfl⟩
theorem np_J7_fill_fda19 : (parseMethodDescriptor yJ7_fill_fda19.desc).map (fun d => d.parameters.length) = some 4 := by decide +kernel
theorem stt_J7_fill_fda19 : Cond.static yJ7_fill_fda19 ∈ pWW := pw3 (List.mem_of_getElem? (i := 145) rfl) rfl
theorem cd_J7_fill_bad5a : Cond.code yJ7_fill_bad5a cJ7_fill_bad5a 6 none ∈ pWW := pw5 (List.mem_of_getElem? (i := 32) rfl) rfl
abbrev m_J7_fill_bad5a : MT := (yJ7_fill_bad5a, cJ7_fill_bad5a, 6, none)
theorem ok_J7_fill_bad5a : pOk m_J7_fill_bad5a := ⟨⟨cd_J7_fill_bad5a, ini_J7⟩, by decide +kernel, ⟨by decide +kernel, by decide +kernel⟩, Nat.le_of_ble_eq_true rfl⟩
theorem np_J7_fill_bad5a : (parseMethodDescriptor yJ7_fill_bad5a.desc).map (fun d => d.parameters.length) = some 4 := by decide +kernel
theorem stt_J7_fill_bad5a : Cond.static yJ7_fill_bad5a ∈ pWW := pw5 (List.mem_of_getElem? (i := 31) rfl) rfl
theorem cd_J7_rangeCheck_23922 : Cond.code yJ7_rangeCheck_23922 cJ7_rangeCheck_23922 3 none ∈ pWW := pw3 (List.mem_of_getElem? (i := 149) rfl) rfl
abbrev m_J7_rangeCheck_23922 : MT := (yJ7_rangeCheck_23922, cJ7_rangeCheck_23922, 3, none)
theorem ok_J7_rangeCheck_23922 : pOk m_J7_rangeCheck_23922 := ⟨⟨cd_J7_rangeCheck_23922, ini_J7⟩, by decide +kernel, ⟨by decide +kernel, by decide +kernel⟩, Nat.le_of_ble_eq_true rfl⟩
theorem np_J7_rangeCheck_23922 : (parseMethodDescriptor yJ7_rangeCheck_23922.desc).map (fun d => d.parameters.length) = some 3 := by decide +kernel
theorem stt_J7_rangeCheck_23922 : Cond.static yJ7_rangeCheck_23922 ∈ pWW := pw3 (List.mem_of_getElem? (i := 148) rfl) rfl
theorem cd_J7_copyOf_59c91 : Cond.code yJ7_copyOf_59c91 cJ7_copyOf_59c91 3 (some (.array .int)) ∈ pWW := pw3 (List.mem_of_getElem? (i := 132) rfl) rfl
abbrev m_J7_copyOf_59c91 : MT := (yJ7_copyOf_59c91, cJ7_copyOf_59c91, 3, (some (.array .int)))
theorem ok_J7_copyOf_59c91 : pOk m_J7_copyOf_59c91 := ⟨⟨cd_J7_copyOf_59c91, ini_J7⟩, by decide +kernel, ⟨by decide +kernel, by decide +kernel⟩, Nat.le_of_ble_eq_true rfl⟩
theorem np_J7_copyOf_59c91 : (parseMethodDescriptor yJ7_copyOf_59c91.desc).map (fun d => d.parameters.length) = some 2 := by decide +kernel
theorem stt_J7_copyOf_59c91 : Cond.static yJ7_copyOf_59c91 ∈ pWW := pw3 (List.mem_of_getElem? (i := 131) rfl) rfl
theorem cd_X11_isFive : Cond.code yX11_isFive cX11_isFive 1 (some .boolean) ∈ pWW := pw4 (List.mem_of_getElem? (i := 208) rfl) rfl
theorem ini_11 : Cond.initialized RX11 ∈ pWW := pw1 (List.mem_of_getElem? (i := 1) rfl) rfl
abbrev m_X11_isFive : MT := (yX11_isFive, cX11_isFive, 1, (some .boolean))
theorem ok_X11_isFive : pOk m_X11_isFive := ⟨⟨cd_X11_isFive, ini_11⟩, by decide +kernel, ⟨by decide +kernel, by decide +kernel⟩, Nat.le_of_ble_eq_true rfl⟩
theorem np_X11_isFive : (parseMethodDescriptor yX11_isFive.desc).map (fun d => d.parameters.length) = some 1 := by decide +kernel
theorem stt_X11_isFive : Cond.static yX11_isFive ∈ pWW := pw4 (List.mem_of_getElem? (i := 207) rfl) rfl
theorem dX11_isFive_0 : decode cX11_isFive 0 = .ok (.iload_n 0, 1) := by decide +kernel
theorem dX11_isFive_1 : decode cX11_isFive 1 = .ok (.iconst 1, 1) := by decide +kernel
theorem dX11_isFive_2 : decode cX11_isFive 2 = .ok (.if_icmp .lt 12, 3) := by decide +kernel
theorem dX11_isFive_14 : decode cX11_isFive 14 = .ok (.iconst 0, 1) := by decide +kernel
theorem dX11_isFive_15 : decode cX11_isFive 15 = .ok (.ireturn, 1) := by decide +kernel
theorem dX11_isFive_5 : decode cX11_isFive 5 = .ok (.iload_n 0, 1) := by decide +kernel
theorem dX11_isFive_6 : decode cX11_isFive 6 = .ok (.iconst 5, 1) := by decide +kernel
theorem dX11_isFive_7 : decode cX11_isFive 7 = .ok (.if_icmp .gt 7, 3) := by decide +kernel
theorem dX11_isFive_10 : decode cX11_isFive 10 = .ok (.iconst 1, 1) := by decide +kernel
theorem dX11_isFive_11 : decode cX11_isFive 11 = .ok (.goto 4, 3) := by decide +kernel
theorem cd_X11_isPure : Cond.code yX11_isPure cX11_isPure 1 (some .boolean) ∈ pWW := pw4 (List.mem_of_getElem? (i := 4) rfl) rfl
abbrev m_X11_isPure : MT := (yX11_isPure, cX11_isPure, 1, (some .boolean))
theorem ok_X11_isPure : pOk m_X11_isPure := ⟨⟨cd_X11_isPure, ini_11⟩, by decide +kernel, ⟨by decide +kernel, by decide +kernel⟩, Nat.le_of_ble_eq_true rfl⟩
theorem np_X11_isPure : (parseMethodDescriptor yX11_isPure.desc).map (fun d => d.parameters.length) = some 1 := by decide +kernel
theorem stt_X11_isPure : Cond.static yX11_isPure ∈ pWW := pw4 (List.mem_of_getElem? (i := 3) rfl) rfl
theorem dX11_isPure_0 : decode cX11_isPure 0 = .ok (.iload_n 0, 1) := by decide +kernel
theorem dX11_isPure_1 : decode cX11_isPure 1 = .ok (.ifCond .lt 12, 3) := by decide +kernel
theorem dX11_isPure_13 : decode cX11_isPure 13 = .ok (.iconst 0, 1) := by decide +kernel
theorem dX11_isPure_14 : decode cX11_isPure 14 = .ok (.ireturn, 1) := by decide +kernel
theorem dX11_isPure_4 : decode cX11_isPure 4 = .ok (.iload_n 0, 1) := by decide +kernel
theorem dX11_isPure_5 : decode cX11_isPure 5 = .ok (.iconst 5, 1) := by decide +kernel
theorem dX11_isPure_6 : decode cX11_isPure 6 = .ok (.if_icmp .gt 7, 3) := by decide +kernel
theorem dX11_isPure_9 : decode cX11_isPure 9 = .ok (.iconst 1, 1) := by decide +kernel
theorem dX11_isPure_10 : decode cX11_isPure 10 = .ok (.goto 4, 3) := by decide +kernel
set_option maxRecDepth 20000 in
theorem k_X11_isPure (d : Nat) {T : CT} {σ : MS} {k : Int} (h_k : -2147483648 ≤ k ∧ k ≤ 2147483647) (hw : WT T σ) : Tn (d + 1) m_X11_isPure 0 T σ [(0, .int (iI k))] [] (fun ro T2 σ2 => ∃ v : Int, ro = some (.int (iI v)) ∧ T = T2 ∧ σ = σ2 ∧ (v = 0 ∨ v = 1)) := by
  refine tn_iload_n dX11_isPure_0 rfl 0 rfl ?_
  refine tn_if_lt (tgt := 13) dX11_isPure_1 (by decide) ⟨by omega, by omega⟩ (fun h1 => ?_) (fun h1 => ?_)
  · refine tn_iconst dX11_isPure_13 ?_
    exact tn_zret (v := 0) rfl (by decide) dX11_isPure_14 ⟨_, rfl, rfl, rfl, by omega⟩
  · refine tn_iload_n dX11_isPure_4 rfl 0 rfl ?_
    refine tn_iconst dX11_isPure_5 ?_
    refine tn_icmp_gt (tgt := 13) dX11_isPure_6 (by decide) ⟨by omega, by omega⟩ ⟨by decide, by decide⟩ (fun h2 => ?_) (fun h2 => ?_)
    · refine tn_iconst dX11_isPure_13 ?_
      exact tn_zret (v := 0) rfl (by decide) dX11_isPure_14 ⟨_, rfl, rfl, rfl, by omega⟩
    · refine tn_iconst dX11_isPure_9 ?_
      refine tn_goto (tgt := 14) dX11_isPure_10 (by decide) ?_
      exact tn_zret (v := 1) rfl (by decide) dX11_isPure_14 ⟨_, rfl, rfl, rfl, by omega⟩
theorem cd_X11_isAct : Cond.code yX11_isAct cX11_isAct 1 (some .boolean) ∈ pWW := pw4 (List.mem_of_getElem? (i := 69) rfl) rfl
abbrev m_X11_isAct : MT := (yX11_isAct, cX11_isAct, 1, (some .boolean))
theorem ok_X11_isAct : pOk m_X11_isAct := ⟨⟨cd_X11_isAct, ini_11⟩, by decide +kernel, ⟨by decide +kernel, by decide +kernel⟩, Nat.le_of_ble_eq_true rfl⟩
theorem np_X11_isAct : (parseMethodDescriptor yX11_isAct.desc).map (fun d => d.parameters.length) = some 1 := by decide +kernel
theorem stt_X11_isAct : Cond.static yX11_isAct ∈ pWW := pw4 (List.mem_of_getElem? (i := 68) rfl) rfl
theorem dX11_isAct_0 : decode cX11_isAct 0 = .ok (.iload_n 0, 1) := by decide +kernel
theorem dX11_isAct_1 : decode cX11_isAct 1 = .ok (.ifCond .lt 13, 3) := by decide +kernel
theorem dX11_isAct_14 : decode cX11_isAct 14 = .ok (.iconst 0, 1) := by decide +kernel
theorem dX11_isAct_15 : decode cX11_isAct 15 = .ok (.ireturn, 1) := by decide +kernel
theorem dX11_isAct_4 : decode cX11_isAct 4 = .ok (.iload_n 0, 1) := by decide +kernel
theorem dX11_isAct_5 : decode cX11_isAct 5 = .ok (.bipush 10, 2) := by decide +kernel
theorem dX11_isAct_7 : decode cX11_isAct 7 = .ok (.if_icmp .gt 7, 3) := by decide +kernel
theorem dX11_isAct_10 : decode cX11_isAct 10 = .ok (.iconst 1, 1) := by decide +kernel
theorem dX11_isAct_11 : decode cX11_isAct 11 = .ok (.goto 4, 3) := by decide +kernel
theorem cd_X11_reckon : Cond.code yX11_reckon cX11_reckon 3 (some .int) ∈ pWW := pw4 (List.mem_of_getElem? (i := 211) rfl) rfl
abbrev m_X11_reckon : MT := (yX11_reckon, cX11_reckon, 3, (some .int))
theorem ok_X11_reckon : pOk m_X11_reckon := ⟨⟨cd_X11_reckon, ini_11⟩, by decide +kernel, ⟨by decide +kernel, by decide +kernel⟩, Nat.le_of_ble_eq_true rfl⟩
theorem np_X11_reckon : (parseMethodDescriptor yX11_reckon.desc).map (fun d => d.parameters.length) = some 3 := by decide +kernel
theorem stt_X11_reckon : Cond.static yX11_reckon ∈ pWW := pw4 (List.mem_of_getElem? (i := 210) rfl) rfl
theorem dX11_reckon_0 : decode cX11_reckon 0 = .ok (.iload_n 0, 1) := by decide +kernel
theorem dX11_reckon_1 : decode cX11_reckon 1 = .ok (.tableswitch 69 1 5 #[35, 39, 43, 47, 58], 35) := by decide +kernel
theorem dX11_reckon_70 : decode cX11_reckon 70 = .ok (.iload_n 1, 1) := by decide +kernel
theorem dX11_reckon_71 : decode cX11_reckon 71 = .ok (.ireturn, 1) := by decide +kernel
theorem dX11_reckon_36 : decode cX11_reckon 36 = .ok (.iload_n 1, 1) := by decide +kernel
theorem dX11_reckon_37 : decode cX11_reckon 37 = .ok (.iload_n 2, 1) := by decide +kernel
theorem dX11_reckon_38 : decode cX11_reckon 38 = .ok (.iadd, 1) := by decide +kernel
theorem dX11_reckon_39 : decode cX11_reckon 39 = .ok (.ireturn, 1) := by decide +kernel
theorem dX11_reckon_40 : decode cX11_reckon 40 = .ok (.iload_n 1, 1) := by decide +kernel
theorem dX11_reckon_41 : decode cX11_reckon 41 = .ok (.iload_n 2, 1) := by decide +kernel
theorem dX11_reckon_42 : decode cX11_reckon 42 = .ok (.isub, 1) := by decide +kernel
theorem dX11_reckon_43 : decode cX11_reckon 43 = .ok (.ireturn, 1) := by decide +kernel
theorem dX11_reckon_44 : decode cX11_reckon 44 = .ok (.iload_n 1, 1) := by decide +kernel
theorem dX11_reckon_45 : decode cX11_reckon 45 = .ok (.iload_n 2, 1) := by decide +kernel
theorem dX11_reckon_46 : decode cX11_reckon 46 = .ok (.imul, 1) := by decide +kernel
theorem dX11_reckon_47 : decode cX11_reckon 47 = .ok (.ireturn, 1) := by decide +kernel
theorem dX11_reckon_48 : decode cX11_reckon 48 = .ok (.iload_n 1, 1) := by decide +kernel
theorem dX11_reckon_49 : decode cX11_reckon 49 = .ok (.iload_n 2, 1) := by decide +kernel
theorem dX11_reckon_50 : decode cX11_reckon 50 = .ok (.if_icmp .ne 7, 3) := by decide +kernel
theorem dX11_reckon_57 : decode cX11_reckon 57 = .ok (.iconst 0, 1) := by decide +kernel
theorem dX11_reckon_58 : decode cX11_reckon 58 = .ok (.ireturn, 1) := by decide +kernel
theorem dX11_reckon_53 : decode cX11_reckon 53 = .ok (.iconst 1, 1) := by decide +kernel
theorem dX11_reckon_54 : decode cX11_reckon 54 = .ok (.goto 4, 3) := by decide +kernel
theorem dX11_reckon_59 : decode cX11_reckon 59 = .ok (.iload_n 1, 1) := by decide +kernel
theorem dX11_reckon_60 : decode cX11_reckon 60 = .ok (.iload_n 2, 1) := by decide +kernel
theorem dX11_reckon_61 : decode cX11_reckon 61 = .ok (.if_icmp .ge 7, 3) := by decide +kernel
theorem dX11_reckon_68 : decode cX11_reckon 68 = .ok (.iconst 0, 1) := by decide +kernel
theorem dX11_reckon_69 : decode cX11_reckon 69 = .ok (.ireturn, 1) := by decide +kernel
theorem dX11_reckon_64 : decode cX11_reckon 64 = .ok (.iconst 1, 1) := by decide +kernel
theorem dX11_reckon_65 : decode cX11_reckon 65 = .ok (.goto 4, 3) := by decide +kernel
set_option maxRecDepth 20000 in
theorem k_X11_reckon (d : Nat) {T : CT} {σ : MS} {k : Int} {x : Int} {y : Int} (h_k : -2147483648 ≤ k ∧ k ≤ 2147483647) (h_x : -2147483648 ≤ x ∧ x ≤ 2147483647) (h_y : -2147483648 ≤ y ∧ y ≤ 2147483647) (hw : WT T σ) : Tn (d + 1) m_X11_reckon 0 T σ [(0, .int (iI k)), (1, .int (iI x)), (2, .int (iI y))] [] (fun ro T2 σ2 => ∃ v : Int, ro = some (.int (iI v)) ∧ T = T2 ∧ σ = σ2 ∧ (-2147483648 ≤ v ∧ v ≤ 2147483647)) := by
  refine tn_iload_n dX11_reckon_0 rfl 0 rfl ?_
  by_cases h1 : k < 1 ∨ 5 < k
  · refine tn_tableOut (tgt := 70) dX11_reckon_1 (x := k) ⟨by omega, by omega⟩ h1 (by decide) ?_
    refine tn_iload_n dX11_reckon_70 rfl 1 rfl ?_
    exact tn_iret rfl dX11_reckon_71 ⟨_, rfl, rfl, rfl, by omega⟩
  · have h2 : k = 1 ∨ k = 2 ∨ k = 3 ∨ k = 4 ∨ k = 5 := by omega
    rcases h2 with h2 | h2 | h2 | h2 | h2
    · refine tn_tableIn (tgt := 36) (off := 35) dX11_reckon_1 (x := k) ⟨by omega, by omega⟩ (by omega) (by omega) (by rw [h2]; rfl) (by decide) ?_
      refine tn_iload_n dX11_reckon_36 rfl 1 rfl ?_
      refine tn_iload_n dX11_reckon_37 rfl 2 rfl ?_
      refine tn_iadd dX11_reckon_38 ?_
      refine tn_any (fun z3 g4 => ?_)
      have g4r : -2147483648 ≤ z3 ∧ z3 ≤ 2147483647 := g4
      exact tn_iret rfl dX11_reckon_39 ⟨_, rfl, rfl, rfl, by omega⟩
    · refine tn_tableIn (tgt := 40) (off := 39) dX11_reckon_1 (x := k) ⟨by omega, by omega⟩ (by omega) (by omega) (by rw [h2]; rfl) (by decide) ?_
      refine tn_iload_n dX11_reckon_40 rfl 1 rfl ?_
      refine tn_iload_n dX11_reckon_41 rfl 2 rfl ?_
      refine tn_isub dX11_reckon_42 ?_
      refine tn_any (fun z5 g6 => ?_)
      have g6r : -2147483648 ≤ z5 ∧ z5 ≤ 2147483647 := g6
      exact tn_iret rfl dX11_reckon_43 ⟨_, rfl, rfl, rfl, by omega⟩
    · refine tn_tableIn (tgt := 44) (off := 43) dX11_reckon_1 (x := k) ⟨by omega, by omega⟩ (by omega) (by omega) (by rw [h2]; rfl) (by decide) ?_
      refine tn_iload_n dX11_reckon_44 rfl 1 rfl ?_
      refine tn_iload_n dX11_reckon_45 rfl 2 rfl ?_
      refine tn_imul dX11_reckon_46 ?_
      refine tn_any (fun z7 g8 => ?_)
      have g8r : -2147483648 ≤ z7 ∧ z7 ≤ 2147483647 := g8
      exact tn_iret rfl dX11_reckon_47 ⟨_, rfl, rfl, rfl, by omega⟩
    · refine tn_tableIn (tgt := 48) (off := 47) dX11_reckon_1 (x := k) ⟨by omega, by omega⟩ (by omega) (by omega) (by rw [h2]; rfl) (by decide) ?_
      refine tn_iload_n dX11_reckon_48 rfl 1 rfl ?_
      refine tn_iload_n dX11_reckon_49 rfl 2 rfl ?_
      refine tn_icmp_ne (tgt := 57) dX11_reckon_50 (by decide) ⟨by omega, by omega⟩ ⟨by omega, by omega⟩ (fun h9 => ?_) (fun h9 => ?_)
      · refine tn_iconst dX11_reckon_57 ?_
        exact tn_iret rfl dX11_reckon_58 ⟨_, rfl, rfl, rfl, by omega⟩
      · refine tn_iconst dX11_reckon_53 ?_
        refine tn_goto (tgt := 58) dX11_reckon_54 (by decide) ?_
        exact tn_iret rfl dX11_reckon_58 ⟨_, rfl, rfl, rfl, by omega⟩
    · refine tn_tableIn (tgt := 59) (off := 58) dX11_reckon_1 (x := k) ⟨by omega, by omega⟩ (by omega) (by omega) (by rw [h2]; rfl) (by decide) ?_
      refine tn_iload_n dX11_reckon_59 rfl 1 rfl ?_
      refine tn_iload_n dX11_reckon_60 rfl 2 rfl ?_
      refine tn_icmp_ge (tgt := 68) dX11_reckon_61 (by decide) ⟨by omega, by omega⟩ ⟨by omega, by omega⟩ (fun h10 => ?_) (fun h10 => ?_)
      · refine tn_iconst dX11_reckon_68 ?_
        exact tn_iret rfl dX11_reckon_69 ⟨_, rfl, rfl, rfl, by omega⟩
      · refine tn_iconst dX11_reckon_64 ?_
        refine tn_goto (tgt := 69) dX11_reckon_65 (by decide) ?_
        exact tn_iret rfl dX11_reckon_69 ⟨_, rfl, rfl, rfl, by omega⟩
theorem cd_X11_at : Cond.code yX11_at cX11_at 2 (some .int) ∈ pWW := pw3 (List.mem_of_getElem? (i := 79) rfl) rfl
abbrev m_X11_at : MT := (yX11_at, cX11_at, 2, (some .int))
theorem ok_X11_at : pOk m_X11_at := ⟨⟨cd_X11_at, ini_11⟩, by decide +kernel, ⟨by decide +kernel, by decide +kernel⟩, Nat.le_of_ble_eq_true rfl⟩
theorem np_X11_at : (parseMethodDescriptor yX11_at.desc).map (fun d => d.parameters.length) = some 2 := by decide +kernel
theorem stt_X11_at : Cond.static yX11_at ∈ pWW := pw3 (List.mem_of_getElem? (i := 78) rfl) rfl
theorem dX11_at_0 : decode cX11_at 0 = .ok (.aload_n 0, 1) := by decide +kernel
theorem dX11_at_1 : decode cX11_at 1 = .ok (.ifnull 19, 3) := by decide +kernel
theorem dX11_at_4 : decode cX11_at 4 = .ok (.iload_n 1, 1) := by decide +kernel
theorem dX11_at_5 : decode cX11_at 5 = .ok (.ifCond .lt 15, 3) := by decide +kernel
theorem dX11_at_20 : decode cX11_at 20 = .ok (.iconst 0, 1) := by decide +kernel
theorem dX11_at_21 : decode cX11_at 21 = .ok (.ireturn, 1) := by decide +kernel
theorem dX11_at_8 : decode cX11_at 8 = .ok (.iload_n 1, 1) := by decide +kernel
theorem dX11_at_9 : decode cX11_at 9 = .ok (.aload_n 0, 1) := by decide +kernel
theorem dX11_at_10 : decode cX11_at 10 = .ok (.arraylength, 1) := by decide +kernel
theorem dX11_at_11 : decode cX11_at 11 = .ok (.if_icmp .ge 9, 3) := by decide +kernel
theorem dX11_at_14 : decode cX11_at 14 = .ok (.aload_n 0, 1) := by decide +kernel
theorem dX11_at_15 : decode cX11_at 15 = .ok (.iload_n 1, 1) := by decide +kernel
theorem dX11_at_16 : decode cX11_at 16 = .ok (.iaload, 1) := by decide +kernel
theorem dX11_at_17 : decode cX11_at 17 = .ok (.goto 4, 3) := by decide +kernel
set_option maxRecDepth 20000 in
theorem k_X11_at (d : Nat) {T : CT} {σ : MS} {x : Nat} {i : Int} (h_x : IA T x) (l_x : (T x).2 ≤ 1000000) (h_i : -2147483648 ≤ i ∧ i ≤ 2147483647) (hw : WT T σ) : Tn (d + 1) m_X11_at 0 T σ [(0, .ref x), (1, .int (iI i))] [] (fun ro T2 σ2 => ∃ v : Int, ro = some (.int (iI v)) ∧ T = T2 ∧ σ = σ2 ∧ (-2147483648 ≤ v ∧ v ≤ 2147483647) ∧ (VOK (T x).1 i v) ∧ (v = ATV T σ x i)) := by
  refine tn_aload_n dX11_at_0 rfl 0 rfl ?_
  refine tn_ifnull dX11_at_1 ?_
  refine tn_iload_n dX11_at_4 rfl 1 rfl ?_
  refine tn_if_lt (tgt := 20) dX11_at_5 (by decide) ⟨by omega, by omega⟩ (fun h1 => ?_) (fun h1 => ?_)
  · refine tn_iconst dX11_at_20 ?_
    exact tn_iret rfl dX11_at_21 ⟨_, rfl, rfl, rfl, by omega, vok_0, atv_out (by omega)⟩
  · refine tn_iload_n dX11_at_8 rfl 1 rfl ?_
    refine tn_aload_n dX11_at_9 rfl 0 rfl ?_
    refine tn_alenX dX11_at_10 (Or.inl h_x) ?_
    refine tn_icmp_ge (tgt := 20) dX11_at_11 (by decide) ⟨by omega, by omega⟩ ⟨by omega, by omega⟩ (fun h2 => ?_) (fun h2 => ?_)
    · refine tn_iconst dX11_at_20 ?_
      exact tn_iret rfl dX11_at_21 ⟨_, rfl, rfl, rfl, by omega, vok_0, atv_out (by omega)⟩
    · refine tn_aload_n dX11_at_14 rfl 0 rfl ?_
      refine tn_iload_n dX11_at_15 rfl 1 rfl ?_
      refine tn_ialdX (z := i) hw dX11_at_16 h_x (by omega) (by omega) (by omega) (fun v3 g4q g4 g4k => ?_)
      have g4u := g4k
      have g4w := atv_in (T := T) (by omega) (by omega) g4q
      clear g4k g4q
      refine tn_goto (tgt := 21) dX11_at_17 (by decide) ?_
      exact tn_iret rfl dX11_at_21 ⟨_, rfl, rfl, rfl, by omega, by assumption, by assumption⟩
set_option maxRecDepth 20000 in
theorem k_X11_at_0 (d : Nat) {T : CT} {σ : MS} {i : Int} (h_i : -2147483648 ≤ i ∧ i ≤ 2147483647) (hw : WT T σ) : Tn (d + 1) m_X11_at 0 T σ [(0, .null), (1, .int (iI i))] [] (fun ro T2 σ2 => ∃ v : Int, ro = some (.int (iI v)) ∧ T = T2 ∧ σ = σ2 ∧ (0 ≤ v ∧ v ≤ 0)) := by
  refine tn_aload_nN dX11_at_0 rfl 0 rfl ?_
  refine tn_ifnullN (tgt := 20) dX11_at_1 (by decide) ?_
  refine tn_iconst dX11_at_20 ?_
  exact tn_iret rfl dX11_at_21 ⟨_, rfl, rfl, rfl, by omega⟩
theorem cd_X11_put : Cond.code yX11_put cX11_put 3 none ∈ pWW := pw3 (List.mem_of_getElem? (i := 56) rfl) rfl
abbrev m_X11_put : MT := (yX11_put, cX11_put, 3, none)
theorem ok_X11_put : pOk m_X11_put := ⟨⟨cd_X11_put, ini_11⟩, by decide +kernel, ⟨by decide +kernel, by decide +kernel⟩, Nat.le_of_ble_eq_true rfl⟩
theorem np_X11_put : (parseMethodDescriptor yX11_put.desc).map (fun d => d.parameters.length) = some 3 := by decide +kernel
theorem stt_X11_put : Cond.static yX11_put ∈ pWW := pw3 (List.mem_of_getElem? (i := 55) rfl) rfl
theorem dX11_put_0 : decode cX11_put 0 = .ok (.aload_n 0, 1) := by decide +kernel
theorem dX11_put_1 : decode cX11_put 1 = .ok (.ifnull 17, 3) := by decide +kernel
theorem dX11_put_4 : decode cX11_put 4 = .ok (.iload_n 1, 1) := by decide +kernel
theorem dX11_put_5 : decode cX11_put 5 = .ok (.ifCond .lt 13, 3) := by decide +kernel
theorem dX11_put_18 : decode cX11_put 18 = .ok (.return_, 1) := by decide +kernel
theorem dX11_put_8 : decode cX11_put 8 = .ok (.iload_n 1, 1) := by decide +kernel
theorem dX11_put_9 : decode cX11_put 9 = .ok (.aload_n 0, 1) := by decide +kernel
theorem dX11_put_10 : decode cX11_put 10 = .ok (.arraylength, 1) := by decide +kernel
theorem dX11_put_11 : decode cX11_put 11 = .ok (.if_icmp .ge 7, 3) := by decide +kernel
theorem dX11_put_14 : decode cX11_put 14 = .ok (.aload_n 0, 1) := by decide +kernel
theorem dX11_put_15 : decode cX11_put 15 = .ok (.iload_n 1, 1) := by decide +kernel
theorem dX11_put_16 : decode cX11_put 16 = .ok (.iload_n 2, 1) := by decide +kernel
theorem dX11_put_17 : decode cX11_put 17 = .ok (.iastore, 1) := by decide +kernel
set_option maxRecDepth 20000 in
theorem k_X11_put (d : Nat) {T : CT} {σ : MS} {x : Nat} {i : Int} {y : Int} (h_x : IA T x) (l_x : (T x).2 ≤ 1000000) (h_i : -2147483648 ≤ i ∧ i ≤ 2147483647) (h_y : -2147483648 ≤ y ∧ y ≤ 2147483647) (hw : WT T σ) (n_x : NH T x) (k_x : VOK (T x).1 i y) : Tn (d + 1) m_X11_put 0 T σ [(0, .ref x), (1, .int (iI i)), (2, .int (iI y))] [] (fun ro T2 σ2 => ro = none ∧ T = T2 ∧ WT T2 σ2 ∧ FrC T [] σ σ2) := by
  refine tn_aload_n dX11_put_0 rfl 0 rfl ?_
  refine tn_ifnull dX11_put_1 ?_
  refine tn_iload_n dX11_put_4 rfl 1 rfl ?_
  refine tn_if_lt (tgt := 18) dX11_put_5 (by decide) ⟨by omega, by omega⟩ (fun h1 => ?_) (fun h1 => ?_)
  · exact tn_vret rfl dX11_put_18 ⟨rfl, rfl, hw, FrC.rfl⟩
  · refine tn_iload_n dX11_put_8 rfl 1 rfl ?_
    refine tn_aload_n dX11_put_9 rfl 0 rfl ?_
    refine tn_alenX dX11_put_10 (Or.inl h_x) ?_
    refine tn_icmp_ge (tgt := 18) dX11_put_11 (by decide) ⟨by omega, by omega⟩ ⟨by omega, by omega⟩ (fun h2 => ?_) (fun h2 => ?_)
    · exact tn_vret rfl dX11_put_18 ⟨rfl, rfl, hw, FrC.rfl⟩
    · refine tn_aload_n dX11_put_14 rfl 0 rfl ?_
      refine tn_iload_n dX11_put_15 rfl 1 rfl ?_
      refine tn_iload_n dX11_put_16 rfl 2 rfl ?_
      refine tn_iast (z := i) (v := y) dX11_put_17 h_x (by omega) (by omega) (by omega) ?_
      exact tn_vret rfl dX11_put_18 ⟨rfl, rfl, (hw.arr (Or.inl h_x) k_x), (FrC.rfl.arr (hk_no n_x))⟩
set_option maxRecDepth 20000 in
theorem k_X11_put_12 (d : Nat) {T : CT} {σ : MS} {x : Nat} {i : Int} {y : Int} (h_x : IA T x) (l_x : (T x).2 ≤ 1000000) (t_x : (T x).1 = 12) (h_i : -2147483648 ≤ i ∧ i ≤ 2147483647) (h_y : -2147483648 ≤ y ∧ y ≤ 2147483647) (hw : WT T σ) (k_x : VOK (T x).1 i y) : Tn (d + 1) m_X11_put 0 T σ [(0, .ref x), (1, .int (iI i)), (2, .int (iI y))] [] (fun ro T2 σ2 => ro = none ∧ T = T2 ∧ WT T2 σ2 ∧ FrC T [512] σ σ2 ∧ (σ2 = (if 0 ≤ i ∧ i < ((T x).2 : Int) then sA (1000 + x) i y σ else σ))) := by
  refine tn_aload_n dX11_put_0 rfl 0 rfl ?_
  refine tn_ifnull dX11_put_1 ?_
  refine tn_iload_n dX11_put_4 rfl 1 rfl ?_
  refine tn_if_lt (tgt := 18) dX11_put_5 (by decide) ⟨by omega, by omega⟩ (fun h1 => ?_) (fun h1 => ?_)
  · exact tn_vret rfl dX11_put_18 ⟨rfl, rfl, hw, FrC.rfl, (if_neg (by omega)).symm⟩
  · refine tn_iload_n dX11_put_8 rfl 1 rfl ?_
    refine tn_aload_n dX11_put_9 rfl 0 rfl ?_
    refine tn_alenX dX11_put_10 (Or.inl h_x) ?_
    refine tn_icmp_ge (tgt := 18) dX11_put_11 (by decide) ⟨by omega, by omega⟩ ⟨by omega, by omega⟩ (fun h2 => ?_) (fun h2 => ?_)
    · exact tn_vret rfl dX11_put_18 ⟨rfl, rfl, hw, FrC.rfl, (if_neg (by omega)).symm⟩
    · refine tn_aload_n dX11_put_14 rfl 0 rfl ?_
      refine tn_iload_n dX11_put_15 rfl 1 rfl ?_
      refine tn_iload_n dX11_put_16 rfl 2 rfl ?_
      refine tn_iast (z := i) (v := y) dX11_put_17 h_x (by omega) (by omega) (by omega) ?_
      exact tn_vret rfl dX11_put_18 ⟨rfl, rfl, (hw.arr (Or.inl h_x) k_x), (FrC.rfl.arr (hk_in t_x (by decide))), (if_pos ⟨by omega, by omega⟩).symm⟩
set_option maxRecDepth 20000 in
theorem k_X11_put_15 (d : Nat) {T : CT} {σ : MS} {x : Nat} {i : Int} {y : Int} (h_x : IA T x) (l_x : (T x).2 ≤ 1000000) (t_x : (T x).1 = 15) (h_i : -2147483648 ≤ i ∧ i ≤ 2147483647) (h_y : -2147483648 ≤ y ∧ y ≤ 2147483647) (hw : WT T σ) : Tn (d + 1) m_X11_put 0 T σ [(0, .ref x), (1, .int (iI i)), (2, .int (iI y))] [] (fun ro T2 σ2 => ro = none ∧ T = T2 ∧ WT T2 σ2 ∧ FrC T [515] σ σ2 ∧ (σ2 = (if 0 ≤ i ∧ i < ((T x).2 : Int) then sA (1000 + x) i y σ else σ))) := by
  refine tn_aload_n dX11_put_0 rfl 0 rfl ?_
  refine tn_ifnull dX11_put_1 ?_
  refine tn_iload_n dX11_put_4 rfl 1 rfl ?_
  refine tn_if_lt (tgt := 18) dX11_put_5 (by decide) ⟨by omega, by omega⟩ (fun h1 => ?_) (fun h1 => ?_)
  · exact tn_vret rfl dX11_put_18 ⟨rfl, rfl, hw, FrC.rfl, (if_neg (by omega)).symm⟩
  · refine tn_iload_n dX11_put_8 rfl 1 rfl ?_
    refine tn_aload_n dX11_put_9 rfl 0 rfl ?_
    refine tn_alenX dX11_put_10 (Or.inl h_x) ?_
    refine tn_icmp_ge (tgt := 18) dX11_put_11 (by decide) ⟨by omega, by omega⟩ ⟨by omega, by omega⟩ (fun h2 => ?_) (fun h2 => ?_)
    · exact tn_vret rfl dX11_put_18 ⟨rfl, rfl, hw, FrC.rfl, (if_neg (by omega)).symm⟩
    · refine tn_aload_n dX11_put_14 rfl 0 rfl ?_
      refine tn_iload_n dX11_put_15 rfl 1 rfl ?_
      refine tn_iload_n dX11_put_16 rfl 2 rfl ?_
      refine tn_iast (z := i) (v := y) dX11_put_17 h_x (by omega) (by omega) (by omega) ?_
      exact tn_vret rfl dX11_put_18 ⟨rfl, rfl, (hw.arr (Or.inl h_x) (vok_1 (by have q9 := t_x; omega) (by omega))), (FrC.rfl.arr (hk_in t_x (by decide))), (if_pos ⟨by omega, by omega⟩).symm⟩
set_option maxRecDepth 20000 in
theorem k_X11_put_16 (d : Nat) {T : CT} {σ : MS} {x : Nat} {i : Int} {y : Int} (h_x : IA T x) (l_x : (T x).2 ≤ 1000000) (t_x : (T x).1 = 16) (h_i : -2147483648 ≤ i ∧ i ≤ 2147483647) (h_y : -2147483648 ≤ y ∧ y ≤ 2147483647) (hw : WT T σ) : Tn (d + 1) m_X11_put 0 T σ [(0, .ref x), (1, .int (iI i)), (2, .int (iI y))] [] (fun ro T2 σ2 => ro = none ∧ T = T2 ∧ WT T2 σ2 ∧ FrC T [516] σ σ2 ∧ (σ2 = (if 0 ≤ i ∧ i < ((T x).2 : Int) then sA (1000 + x) i y σ else σ))) := by
  refine tn_aload_n dX11_put_0 rfl 0 rfl ?_
  refine tn_ifnull dX11_put_1 ?_
  refine tn_iload_n dX11_put_4 rfl 1 rfl ?_
  refine tn_if_lt (tgt := 18) dX11_put_5 (by decide) ⟨by omega, by omega⟩ (fun h1 => ?_) (fun h1 => ?_)
  · exact tn_vret rfl dX11_put_18 ⟨rfl, rfl, hw, FrC.rfl, (if_neg (by omega)).symm⟩
  · refine tn_iload_n dX11_put_8 rfl 1 rfl ?_
    refine tn_aload_n dX11_put_9 rfl 0 rfl ?_
    refine tn_alenX dX11_put_10 (Or.inl h_x) ?_
    refine tn_icmp_ge (tgt := 18) dX11_put_11 (by decide) ⟨by omega, by omega⟩ ⟨by omega, by omega⟩ (fun h2 => ?_) (fun h2 => ?_)
    · exact tn_vret rfl dX11_put_18 ⟨rfl, rfl, hw, FrC.rfl, (if_neg (by omega)).symm⟩
    · refine tn_aload_n dX11_put_14 rfl 0 rfl ?_
      refine tn_iload_n dX11_put_15 rfl 1 rfl ?_
      refine tn_iload_n dX11_put_16 rfl 2 rfl ?_
      refine tn_iast (z := i) (v := y) dX11_put_17 h_x (by omega) (by omega) (by omega) ?_
      exact tn_vret rfl dX11_put_18 ⟨rfl, rfl, (hw.arr (Or.inl h_x) (vok_1 (by have q9 := t_x; omega) (by omega))), (FrC.rfl.arr (hk_in t_x (by decide))), (if_pos ⟨by omega, by omega⟩).symm⟩
set_option maxRecDepth 20000 in
theorem k_X11_put_17 (d : Nat) {T : CT} {σ : MS} {x : Nat} {i : Int} {y : Int} (h_x : IA T x) (l_x : (T x).2 ≤ 1000000) (t_x : (T x).1 = 17) (h_i : -2147483648 ≤ i ∧ i ≤ 2147483647) (h_y : -2147483648 ≤ y ∧ y ≤ 2147483647) (hw : WT T σ) : Tn (d + 1) m_X11_put 0 T σ [(0, .ref x), (1, .int (iI i)), (2, .int (iI y))] [] (fun ro T2 σ2 => ro = none ∧ T = T2 ∧ WT T2 σ2 ∧ FrC T [517] σ σ2 ∧ (σ2 = (if 0 ≤ i ∧ i < ((T x).2 : Int) then sA (1000 + x) i y σ else σ))) := by
  refine tn_aload_n dX11_put_0 rfl 0 rfl ?_
  refine tn_ifnull dX11_put_1 ?_
  refine tn_iload_n dX11_put_4 rfl 1 rfl ?_
  refine tn_if_lt (tgt := 18) dX11_put_5 (by decide) ⟨by omega, by omega⟩ (fun h1 => ?_) (fun h1 => ?_)
  · exact tn_vret rfl dX11_put_18 ⟨rfl, rfl, hw, FrC.rfl, (if_neg (by omega)).symm⟩
  · refine tn_iload_n dX11_put_8 rfl 1 rfl ?_
    refine tn_aload_n dX11_put_9 rfl 0 rfl ?_
    refine tn_alenX dX11_put_10 (Or.inl h_x) ?_
    refine tn_icmp_ge (tgt := 18) dX11_put_11 (by decide) ⟨by omega, by omega⟩ ⟨by omega, by omega⟩ (fun h2 => ?_) (fun h2 => ?_)
    · exact tn_vret rfl dX11_put_18 ⟨rfl, rfl, hw, FrC.rfl, (if_neg (by omega)).symm⟩
    · refine tn_aload_n dX11_put_14 rfl 0 rfl ?_
      refine tn_iload_n dX11_put_15 rfl 1 rfl ?_
      refine tn_iload_n dX11_put_16 rfl 2 rfl ?_
      refine tn_iast (z := i) (v := y) dX11_put_17 h_x (by omega) (by omega) (by omega) ?_
      exact tn_vret rfl dX11_put_18 ⟨rfl, rfl, (hw.arr (Or.inl h_x) (vok_1 (by have q9 := t_x; omega) (by omega))), (FrC.rfl.arr (hk_in t_x (by decide))), (if_pos ⟨by omega, by omega⟩).symm⟩
set_option maxRecDepth 20000 in
theorem k_X11_put_18 (d : Nat) {T : CT} {σ : MS} {x : Nat} {i : Int} {y : Int} (h_x : IA T x) (l_x : (T x).2 ≤ 1000000) (t_x : (T x).1 = 18) (h_i : -2147483648 ≤ i ∧ i ≤ 2147483647) (h_y : -2147483648 ≤ y ∧ y ≤ 2147483647) (hw : WT T σ) : Tn (d + 1) m_X11_put 0 T σ [(0, .ref x), (1, .int (iI i)), (2, .int (iI y))] [] (fun ro T2 σ2 => ro = none ∧ T = T2 ∧ WT T2 σ2 ∧ FrC T [518] σ σ2 ∧ (σ2 = (if 0 ≤ i ∧ i < ((T x).2 : Int) then sA (1000 + x) i y σ else σ))) := by
  refine tn_aload_n dX11_put_0 rfl 0 rfl ?_
  refine tn_ifnull dX11_put_1 ?_
  refine tn_iload_n dX11_put_4 rfl 1 rfl ?_
  refine tn_if_lt (tgt := 18) dX11_put_5 (by decide) ⟨by omega, by omega⟩ (fun h1 => ?_) (fun h1 => ?_)
  · exact tn_vret rfl dX11_put_18 ⟨rfl, rfl, hw, FrC.rfl, (if_neg (by omega)).symm⟩
  · refine tn_iload_n dX11_put_8 rfl 1 rfl ?_
    refine tn_aload_n dX11_put_9 rfl 0 rfl ?_
    refine tn_alenX dX11_put_10 (Or.inl h_x) ?_
    refine tn_icmp_ge (tgt := 18) dX11_put_11 (by decide) ⟨by omega, by omega⟩ ⟨by omega, by omega⟩ (fun h2 => ?_) (fun h2 => ?_)
    · exact tn_vret rfl dX11_put_18 ⟨rfl, rfl, hw, FrC.rfl, (if_neg (by omega)).symm⟩
    · refine tn_aload_n dX11_put_14 rfl 0 rfl ?_
      refine tn_iload_n dX11_put_15 rfl 1 rfl ?_
      refine tn_iload_n dX11_put_16 rfl 2 rfl ?_
      refine tn_iast (z := i) (v := y) dX11_put_17 h_x (by omega) (by omega) (by omega) ?_
      exact tn_vret rfl dX11_put_18 ⟨rfl, rfl, (hw.arr (Or.inl h_x) (vok_1 (by have q9 := t_x; omega) (by omega))), (FrC.rfl.arr (hk_in t_x (by decide))), (if_pos ⟨by omega, by omega⟩).symm⟩
set_option maxRecDepth 20000 in
theorem k_X11_put_19 (d : Nat) {T : CT} {σ : MS} {x : Nat} {i : Int} {y : Int} (h_x : IA T x) (l_x : (T x).2 ≤ 1000000) (t_x : (T x).1 = 19) (h_i : -2147483648 ≤ i ∧ i ≤ 2147483647) (h_y : -2147483648 ≤ y ∧ y ≤ 2147483647) (hw : WT T σ) : Tn (d + 1) m_X11_put 0 T σ [(0, .ref x), (1, .int (iI i)), (2, .int (iI y))] [] (fun ro T2 σ2 => ro = none ∧ T = T2 ∧ WT T2 σ2 ∧ FrC T [519] σ σ2 ∧ (σ2 = (if 0 ≤ i ∧ i < ((T x).2 : Int) then sA (1000 + x) i y σ else σ))) := by
  refine tn_aload_n dX11_put_0 rfl 0 rfl ?_
  refine tn_ifnull dX11_put_1 ?_
  refine tn_iload_n dX11_put_4 rfl 1 rfl ?_
  refine tn_if_lt (tgt := 18) dX11_put_5 (by decide) ⟨by omega, by omega⟩ (fun h1 => ?_) (fun h1 => ?_)
  · exact tn_vret rfl dX11_put_18 ⟨rfl, rfl, hw, FrC.rfl, (if_neg (by omega)).symm⟩
  · refine tn_iload_n dX11_put_8 rfl 1 rfl ?_
    refine tn_aload_n dX11_put_9 rfl 0 rfl ?_
    refine tn_alenX dX11_put_10 (Or.inl h_x) ?_
    refine tn_icmp_ge (tgt := 18) dX11_put_11 (by decide) ⟨by omega, by omega⟩ ⟨by omega, by omega⟩ (fun h2 => ?_) (fun h2 => ?_)
    · exact tn_vret rfl dX11_put_18 ⟨rfl, rfl, hw, FrC.rfl, (if_neg (by omega)).symm⟩
    · refine tn_aload_n dX11_put_14 rfl 0 rfl ?_
      refine tn_iload_n dX11_put_15 rfl 1 rfl ?_
      refine tn_iload_n dX11_put_16 rfl 2 rfl ?_
      refine tn_iast (z := i) (v := y) dX11_put_17 h_x (by omega) (by omega) (by omega) ?_
      exact tn_vret rfl dX11_put_18 ⟨rfl, rfl, (hw.arr (Or.inl h_x) (vok_1 (by have q9 := t_x; omega) (by omega))), (FrC.rfl.arr (hk_in t_x (by decide))), (if_pos ⟨by omega, by omega⟩).symm⟩
set_option maxRecDepth 20000 in
theorem k_X11_put_20 (d : Nat) {T : CT} {σ : MS} {x : Nat} {i : Int} {y : Int} (h_x : IA T x) (l_x : (T x).2 ≤ 1000000) (t_x : (T x).1 = 20) (h_i : -2147483648 ≤ i ∧ i ≤ 2147483647) (h_y : -2147483648 ≤ y ∧ y ≤ 2147483647) (hw : WT T σ) : Tn (d + 1) m_X11_put 0 T σ [(0, .ref x), (1, .int (iI i)), (2, .int (iI y))] [] (fun ro T2 σ2 => ro = none ∧ T = T2 ∧ WT T2 σ2 ∧ FrC T [520] σ σ2 ∧ (σ2 = (if 0 ≤ i ∧ i < ((T x).2 : Int) then sA (1000 + x) i y σ else σ))) := by
  refine tn_aload_n dX11_put_0 rfl 0 rfl ?_
  refine tn_ifnull dX11_put_1 ?_
  refine tn_iload_n dX11_put_4 rfl 1 rfl ?_
  refine tn_if_lt (tgt := 18) dX11_put_5 (by decide) ⟨by omega, by omega⟩ (fun h1 => ?_) (fun h1 => ?_)
  · exact tn_vret rfl dX11_put_18 ⟨rfl, rfl, hw, FrC.rfl, (if_neg (by omega)).symm⟩
  · refine tn_iload_n dX11_put_8 rfl 1 rfl ?_
    refine tn_aload_n dX11_put_9 rfl 0 rfl ?_
    refine tn_alenX dX11_put_10 (Or.inl h_x) ?_
    refine tn_icmp_ge (tgt := 18) dX11_put_11 (by decide) ⟨by omega, by omega⟩ ⟨by omega, by omega⟩ (fun h2 => ?_) (fun h2 => ?_)
    · exact tn_vret rfl dX11_put_18 ⟨rfl, rfl, hw, FrC.rfl, (if_neg (by omega)).symm⟩
    · refine tn_aload_n dX11_put_14 rfl 0 rfl ?_
      refine tn_iload_n dX11_put_15 rfl 1 rfl ?_
      refine tn_iload_n dX11_put_16 rfl 2 rfl ?_
      refine tn_iast (z := i) (v := y) dX11_put_17 h_x (by omega) (by omega) (by omega) ?_
      exact tn_vret rfl dX11_put_18 ⟨rfl, rfl, (hw.arr (Or.inl h_x) (vok_1 (by have q9 := t_x; omega) (by omega))), (FrC.rfl.arr (hk_in t_x (by decide))), (if_pos ⟨by omega, by omega⟩).symm⟩
set_option maxRecDepth 20000 in
theorem k_X11_put_21 (d : Nat) {T : CT} {σ : MS} {x : Nat} {i : Int} {y : Int} (h_x : IA T x) (l_x : (T x).2 ≤ 1000000) (t_x : (T x).1 = 21) (h_i : -2147483648 ≤ i ∧ i ≤ 2147483647) (h_y : -2147483648 ≤ y ∧ y ≤ 2147483647) (hw : WT T σ) : Tn (d + 1) m_X11_put 0 T σ [(0, .ref x), (1, .int (iI i)), (2, .int (iI y))] [] (fun ro T2 σ2 => ro = none ∧ T = T2 ∧ WT T2 σ2 ∧ FrC T [521] σ σ2 ∧ (σ2 = (if 0 ≤ i ∧ i < ((T x).2 : Int) then sA (1000 + x) i y σ else σ))) := by
  refine tn_aload_n dX11_put_0 rfl 0 rfl ?_
  refine tn_ifnull dX11_put_1 ?_
  refine tn_iload_n dX11_put_4 rfl 1 rfl ?_
  refine tn_if_lt (tgt := 18) dX11_put_5 (by decide) ⟨by omega, by omega⟩ (fun h1 => ?_) (fun h1 => ?_)
  · exact tn_vret rfl dX11_put_18 ⟨rfl, rfl, hw, FrC.rfl, (if_neg (by omega)).symm⟩
  · refine tn_iload_n dX11_put_8 rfl 1 rfl ?_
    refine tn_aload_n dX11_put_9 rfl 0 rfl ?_
    refine tn_alenX dX11_put_10 (Or.inl h_x) ?_
    refine tn_icmp_ge (tgt := 18) dX11_put_11 (by decide) ⟨by omega, by omega⟩ ⟨by omega, by omega⟩ (fun h2 => ?_) (fun h2 => ?_)
    · exact tn_vret rfl dX11_put_18 ⟨rfl, rfl, hw, FrC.rfl, (if_neg (by omega)).symm⟩
    · refine tn_aload_n dX11_put_14 rfl 0 rfl ?_
      refine tn_iload_n dX11_put_15 rfl 1 rfl ?_
      refine tn_iload_n dX11_put_16 rfl 2 rfl ?_
      refine tn_iast (z := i) (v := y) dX11_put_17 h_x (by omega) (by omega) (by omega) ?_
      exact tn_vret rfl dX11_put_18 ⟨rfl, rfl, (hw.arr (Or.inl h_x) (vok_1 (by have q9 := t_x; omega) (by omega))), (FrC.rfl.arr (hk_in t_x (by decide))), (if_pos ⟨by omega, by omega⟩).symm⟩
set_option maxRecDepth 20000 in
theorem k_X11_put_22 (d : Nat) {T : CT} {σ : MS} {x : Nat} {i : Int} {y : Int} (h_x : IA T x) (l_x : (T x).2 ≤ 1000000) (t_x : (T x).1 = 22) (h_i : -2147483648 ≤ i ∧ i ≤ 2147483647) (h_y : -2147483648 ≤ y ∧ y ≤ 2147483647) (hw : WT T σ) : Tn (d + 1) m_X11_put 0 T σ [(0, .ref x), (1, .int (iI i)), (2, .int (iI y))] [] (fun ro T2 σ2 => ro = none ∧ T = T2 ∧ WT T2 σ2 ∧ FrC T [522] σ σ2 ∧ (σ2 = (if 0 ≤ i ∧ i < ((T x).2 : Int) then sA (1000 + x) i y σ else σ))) := by
  refine tn_aload_n dX11_put_0 rfl 0 rfl ?_
  refine tn_ifnull dX11_put_1 ?_
  refine tn_iload_n dX11_put_4 rfl 1 rfl ?_
  refine tn_if_lt (tgt := 18) dX11_put_5 (by decide) ⟨by omega, by omega⟩ (fun h1 => ?_) (fun h1 => ?_)
  · exact tn_vret rfl dX11_put_18 ⟨rfl, rfl, hw, FrC.rfl, (if_neg (by omega)).symm⟩
  · refine tn_iload_n dX11_put_8 rfl 1 rfl ?_
    refine tn_aload_n dX11_put_9 rfl 0 rfl ?_
    refine tn_alenX dX11_put_10 (Or.inl h_x) ?_
    refine tn_icmp_ge (tgt := 18) dX11_put_11 (by decide) ⟨by omega, by omega⟩ ⟨by omega, by omega⟩ (fun h2 => ?_) (fun h2 => ?_)
    · exact tn_vret rfl dX11_put_18 ⟨rfl, rfl, hw, FrC.rfl, (if_neg (by omega)).symm⟩
    · refine tn_aload_n dX11_put_14 rfl 0 rfl ?_
      refine tn_iload_n dX11_put_15 rfl 1 rfl ?_
      refine tn_iload_n dX11_put_16 rfl 2 rfl ?_
      refine tn_iast (z := i) (v := y) dX11_put_17 h_x (by omega) (by omega) (by omega) ?_
      exact tn_vret rfl dX11_put_18 ⟨rfl, rfl, (hw.arr (Or.inl h_x) (vok_1 (by have q9 := t_x; omega) (by omega))), (FrC.rfl.arr (hk_in t_x (by decide))), (if_pos ⟨by omega, by omega⟩).symm⟩
set_option maxRecDepth 20000 in
theorem k_X11_put_23 (d : Nat) {T : CT} {σ : MS} {x : Nat} {i : Int} {y : Int} (h_x : IA T x) (l_x : (T x).2 ≤ 1000000) (t_x : (T x).1 = 23) (h_i : -2147483648 ≤ i ∧ i ≤ 2147483647) (h_y : -2147483648 ≤ y ∧ y ≤ 2147483647) (hw : WT T σ) : Tn (d + 1) m_X11_put 0 T σ [(0, .ref x), (1, .int (iI i)), (2, .int (iI y))] [] (fun ro T2 σ2 => ro = none ∧ T = T2 ∧ WT T2 σ2 ∧ FrC T [523] σ σ2 ∧ (σ2 = (if 0 ≤ i ∧ i < ((T x).2 : Int) then sA (1000 + x) i y σ else σ))) := by
  refine tn_aload_n dX11_put_0 rfl 0 rfl ?_
  refine tn_ifnull dX11_put_1 ?_
  refine tn_iload_n dX11_put_4 rfl 1 rfl ?_
  refine tn_if_lt (tgt := 18) dX11_put_5 (by decide) ⟨by omega, by omega⟩ (fun h1 => ?_) (fun h1 => ?_)
  · exact tn_vret rfl dX11_put_18 ⟨rfl, rfl, hw, FrC.rfl, (if_neg (by omega)).symm⟩
  · refine tn_iload_n dX11_put_8 rfl 1 rfl ?_
    refine tn_aload_n dX11_put_9 rfl 0 rfl ?_
    refine tn_alenX dX11_put_10 (Or.inl h_x) ?_
    refine tn_icmp_ge (tgt := 18) dX11_put_11 (by decide) ⟨by omega, by omega⟩ ⟨by omega, by omega⟩ (fun h2 => ?_) (fun h2 => ?_)
    · exact tn_vret rfl dX11_put_18 ⟨rfl, rfl, hw, FrC.rfl, (if_neg (by omega)).symm⟩
    · refine tn_aload_n dX11_put_14 rfl 0 rfl ?_
      refine tn_iload_n dX11_put_15 rfl 1 rfl ?_
      refine tn_iload_n dX11_put_16 rfl 2 rfl ?_
      refine tn_iast (z := i) (v := y) dX11_put_17 h_x (by omega) (by omega) (by omega) ?_
      exact tn_vret rfl dX11_put_18 ⟨rfl, rfl, (hw.arr (Or.inl h_x) (vok_1 (by have q9 := t_x; omega) (by omega))), (FrC.rfl.arr (hk_in t_x (by decide))), (if_pos ⟨by omega, by omega⟩).symm⟩
theorem cd_X11_bitsAt : Cond.code yX11_bitsAt cX11_bitsAt 2 (some .long) ∈ pWW := pw5 (List.mem_of_getElem? (i := 39) rfl) rfl
abbrev m_X11_bitsAt : MT := (yX11_bitsAt, cX11_bitsAt, 2, (some .long))
theorem ok_X11_bitsAt : pOk m_X11_bitsAt := ⟨⟨cd_X11_bitsAt, ini_11⟩, by decide +kernel, ⟨by decide +kernel, by decide +kernel⟩, Nat.le_of_ble_eq_true rfl⟩
theorem np_X11_bitsAt : (parseMethodDescriptor yX11_bitsAt.desc).map (fun d => d.parameters.length) = some 2 := by decide +kernel
theorem stt_X11_bitsAt : Cond.static yX11_bitsAt ∈ pWW := pw5 (List.mem_of_getElem? (i := 38) rfl) rfl
theorem dX11_bitsAt_0 : decode cX11_bitsAt 0 = .ok (.aload_n 0, 1) := by decide +kernel
theorem dX11_bitsAt_1 : decode cX11_bitsAt 1 = .ok (.ifnull 19, 3) := by decide +kernel
theorem dX11_bitsAt_4 : decode cX11_bitsAt 4 = .ok (.iload_n 1, 1) := by decide +kernel
theorem dX11_bitsAt_5 : decode cX11_bitsAt 5 = .ok (.ifCond .lt 15, 3) := by decide +kernel
theorem dX11_bitsAt_20 : decode cX11_bitsAt 20 = .ok (.lconst 0, 1) := by decide +kernel
theorem dX11_bitsAt_21 : decode cX11_bitsAt 21 = .ok (.lreturn, 1) := by decide +kernel
theorem dX11_bitsAt_8 : decode cX11_bitsAt 8 = .ok (.iload_n 1, 1) := by decide +kernel
theorem dX11_bitsAt_9 : decode cX11_bitsAt 9 = .ok (.aload_n 0, 1) := by decide +kernel
theorem dX11_bitsAt_10 : decode cX11_bitsAt 10 = .ok (.arraylength, 1) := by decide +kernel
theorem dX11_bitsAt_11 : decode cX11_bitsAt 11 = .ok (.if_icmp .ge 9, 3) := by decide +kernel
theorem dX11_bitsAt_14 : decode cX11_bitsAt 14 = .ok (.aload_n 0, 1) := by decide +kernel
theorem dX11_bitsAt_15 : decode cX11_bitsAt 15 = .ok (.iload_n 1, 1) := by decide +kernel
theorem dX11_bitsAt_16 : decode cX11_bitsAt 16 = .ok (.laload, 1) := by decide +kernel
theorem dX11_bitsAt_17 : decode cX11_bitsAt 17 = .ok (.goto 4, 3) := by decide +kernel
theorem cd_X11_putBits : Cond.code yX11_putBits cX11_putBits 4 none ∈ pWW := pw5 (List.mem_of_getElem? (i := 42) rfl) rfl
abbrev m_X11_putBits : MT := (yX11_putBits, cX11_putBits, 4, none)
theorem ok_X11_putBits : pOk m_X11_putBits := ⟨⟨cd_X11_putBits, ini_11⟩, by decide +kernel, ⟨by decide +kernel, by decide +kernel⟩, Nat.le_of_ble_eq_true rfl⟩
theorem np_X11_putBits : (parseMethodDescriptor yX11_putBits.desc).map (fun d => d.parameters.length) = some 3 := by decide +kernel
theorem stt_X11_putBits : Cond.static yX11_putBits ∈ pWW := pw5 (List.mem_of_getElem? (i := 41) rfl) rfl
theorem dX11_putBits_0 : decode cX11_putBits 0 = .ok (.aload_n 0, 1) := by decide +kernel
theorem dX11_putBits_1 : decode cX11_putBits 1 = .ok (.ifnull 17, 3) := by decide +kernel
theorem dX11_putBits_4 : decode cX11_putBits 4 = .ok (.iload_n 1, 1) := by decide +kernel
theorem dX11_putBits_5 : decode cX11_putBits 5 = .ok (.ifCond .lt 13, 3) := by decide +kernel
theorem dX11_putBits_18 : decode cX11_putBits 18 = .ok (.return_, 1) := by decide +kernel
theorem dX11_putBits_8 : decode cX11_putBits 8 = .ok (.iload_n 1, 1) := by decide +kernel
theorem dX11_putBits_9 : decode cX11_putBits 9 = .ok (.aload_n 0, 1) := by decide +kernel
theorem dX11_putBits_10 : decode cX11_putBits 10 = .ok (.arraylength, 1) := by decide +kernel
theorem dX11_putBits_11 : decode cX11_putBits 11 = .ok (.if_icmp .ge 7, 3) := by decide +kernel
theorem dX11_putBits_14 : decode cX11_putBits 14 = .ok (.aload_n 0, 1) := by decide +kernel
theorem dX11_putBits_15 : decode cX11_putBits 15 = .ok (.iload_n 1, 1) := by decide +kernel
theorem dX11_putBits_16 : decode cX11_putBits 16 = .ok (.lload_n 2, 1) := by decide +kernel
theorem dX11_putBits_17 : decode cX11_putBits 17 = .ok (.lastore, 1) := by decide +kernel
theorem cd_X11_has : Cond.code yX11_has cX11_has 3 (some .boolean) ∈ pWW := pw5 (List.mem_of_getElem? (i := 70) rfl) rfl
abbrev m_X11_has : MT := (yX11_has, cX11_has, 3, (some .boolean))
theorem ok_X11_has : pOk m_X11_has := ⟨⟨cd_X11_has, ini_11⟩, by decide +kernel, ⟨by decide +kernel, by decide +kernel⟩, Nat.le_of_ble_eq_true rfl⟩
theorem np_X11_has : (parseMethodDescriptor yX11_has.desc).map (fun d => d.parameters.length) = some 3 := by decide +kernel
theorem stt_X11_has : Cond.static yX11_has ∈ pWW := pw5 (List.mem_of_getElem? (i := 69) rfl) rfl
theorem ml11_313 : Cond.methodLink RX11 313 yX11_bitsAt ∈ pWW := pw5 (List.mem_of_getElem? (i := 50) rfl) rfl
theorem dX11_has_0 : decode cX11_has 0 = .ok (.iload_n 2, 1) := by decide +kernel
theorem dX11_has_1 : decode cX11_has 1 = .ok (.ifCond .lt 38, 3) := by decide +kernel
theorem dX11_has_39 : decode cX11_has 39 = .ok (.iconst 0, 1) := by decide +kernel
theorem dX11_has_40 : decode cX11_has 40 = .ok (.ireturn, 1) := by decide +kernel
theorem dX11_has_4 : decode cX11_has 4 = .ok (.iload_n 2, 1) := by decide +kernel
theorem dX11_has_5 : decode cX11_has 5 = .ok (.sipush 192, 3) := by decide +kernel
theorem dX11_has_8 : decode cX11_has 8 = .ok (.if_icmp .ge 31, 3) := by decide +kernel
theorem dX11_has_11 : decode cX11_has 11 = .ok (.aload_n 0, 1) := by decide +kernel
theorem dX11_has_12 : decode cX11_has 12 = .ok (.iload_n 1, 1) := by decide +kernel
theorem dX11_has_13 : decode cX11_has 13 = .ok (.iconst 3, 1) := by decide +kernel
theorem dX11_has_14 : decode cX11_has 14 = .ok (.imul, 1) := by decide +kernel
theorem dX11_has_15 : decode cX11_has 15 = .ok (.iload_n 2, 1) := by decide +kernel
theorem dX11_has_16 : decode cX11_has 16 = .ok (.bipush 6, 2) := by decide +kernel
theorem dX11_has_18 : decode cX11_has 18 = .ok (.ishr, 1) := by decide +kernel
theorem dX11_has_19 : decode cX11_has 19 = .ok (.iadd, 1) := by decide +kernel
theorem dX11_has_20 : decode cX11_has 20 = .ok (.invokestatic 313, 3) := by decide +kernel
theorem dX11_has_23 : decode cX11_has 23 = .ok (.iload_n 2, 1) := by decide +kernel
theorem dX11_has_24 : decode cX11_has 24 = .ok (.bipush 63, 2) := by decide +kernel
theorem dX11_has_26 : decode cX11_has 26 = .ok (.iand, 1) := by decide +kernel
theorem dX11_has_27 : decode cX11_has 27 = .ok (.lushr, 1) := by decide +kernel
theorem dX11_has_28 : decode cX11_has 28 = .ok (.lconst 1, 1) := by decide +kernel
theorem dX11_has_29 : decode cX11_has 29 = .ok (.land, 1) := by decide +kernel
theorem dX11_has_30 : decode cX11_has 30 = .ok (.lconst 0, 1) := by decide +kernel
theorem dX11_has_31 : decode cX11_has 31 = .ok (.lcmp, 1) := by decide +kernel
theorem dX11_has_32 : decode cX11_has 32 = .ok (.ifCond .eq 7, 3) := by decide +kernel
theorem dX11_has_35 : decode cX11_has 35 = .ok (.iconst 1, 1) := by decide +kernel
theorem dX11_has_36 : decode cX11_has 36 = .ok (.goto 4, 3) := by decide +kernel
theorem cd_X11_include : Cond.code yX11_include cX11_include 4 none ∈ pWW := pw5 (List.mem_of_getElem? (i := 58) rfl) rfl
abbrev m_X11_include : MT := (yX11_include, cX11_include, 4, none)
theorem ok_X11_include : pOk m_X11_include := ⟨⟨cd_X11_include, ini_11⟩, by decide +kernel, ⟨by decide +kernel, by decide +kernel⟩, Nat.le_of_ble_eq_true rfl⟩
theorem np_X11_include : (parseMethodDescriptor yX11_include.desc).map (fun d => d.parameters.length) = some 3 := by decide +kernel
theorem stt_X11_include : Cond.static yX11_include ∈ pWW := pw5 (List.mem_of_getElem? (i := 57) rfl) rfl
theorem ml11_317 : Cond.methodLink RX11 317 yX11_putBits ∈ pWW := pw5 (List.mem_of_getElem? (i := 52) rfl) rfl
theorem dX11_include_0 : decode cX11_include 0 = .ok (.iload_n 2, 1) := by decide +kernel
theorem dX11_include_1 : decode cX11_include 1 = .ok (.ifCond .lt 36, 3) := by decide +kernel
theorem dX11_include_37 : decode cX11_include 37 = .ok (.return_, 1) := by decide +kernel
theorem dX11_include_4 : decode cX11_include 4 = .ok (.iload_n 2, 1) := by decide +kernel
theorem dX11_include_5 : decode cX11_include 5 = .ok (.sipush 192, 3) := by decide +kernel
theorem dX11_include_8 : decode cX11_include 8 = .ok (.if_icmp .ge 29, 3) := by decide +kernel
theorem dX11_include_11 : decode cX11_include 11 = .ok (.iload_n 1, 1) := by decide +kernel
theorem dX11_include_12 : decode cX11_include 12 = .ok (.iconst 3, 1) := by decide +kernel
theorem dX11_include_13 : decode cX11_include 13 = .ok (.imul, 1) := by decide +kernel
theorem dX11_include_14 : decode cX11_include 14 = .ok (.iload_n 2, 1) := by decide +kernel
theorem dX11_include_15 : decode cX11_include 15 = .ok (.bipush 6, 2) := by decide +kernel
theorem dX11_include_17 : decode cX11_include 17 = .ok (.ishr, 1) := by decide +kernel
theorem dX11_include_18 : decode cX11_include 18 = .ok (.iadd, 1) := by decide +kernel
theorem dX11_include_19 : decode cX11_include 19 = .ok (.istore_n 3, 1) := by decide +kernel
theorem dX11_include_20 : decode cX11_include 20 = .ok (.aload_n 0, 1) := by decide +kernel
theorem dX11_include_21 : decode cX11_include 21 = .ok (.iload_n 3, 1) := by decide +kernel
theorem dX11_include_22 : decode cX11_include 22 = .ok (.aload_n 0, 1) := by decide +kernel
theorem dX11_include_23 : decode cX11_include 23 = .ok (.iload_n 3, 1) := by decide +kernel
theorem dX11_include_24 : decode cX11_include 24 = .ok (.invokestatic 313, 3) := by decide +kernel
theorem dX11_include_27 : decode cX11_include 27 = .ok (.lconst 1, 1) := by decide +kernel
theorem dX11_include_28 : decode cX11_include 28 = .ok (.iload_n 2, 1) := by decide +kernel
theorem dX11_include_29 : decode cX11_include 29 = .ok (.bipush 63, 2) := by decide +kernel
theorem dX11_include_31 : decode cX11_include 31 = .ok (.iand, 1) := by decide +kernel
theorem dX11_include_32 : decode cX11_include 32 = .ok (.lshl, 1) := by decide +kernel
theorem dX11_include_33 : decode cX11_include 33 = .ok (.lor, 1) := by decide +kernel
theorem dX11_include_34 : decode cX11_include 34 = .ok (.invokestatic 317, 3) := by decide +kernel
theorem cd_X11_exclude : Cond.code yX11_exclude cX11_exclude 4 none ∈ pWW := pw5 (List.mem_of_getElem? (i := 49) rfl) rfl
abbrev m_X11_exclude : MT := (yX11_exclude, cX11_exclude, 4, none)
theorem ok_X11_exclude : pOk m_X11_exclude := ⟨⟨cd_X11_exclude, ini_11⟩, by decide +kernel, ⟨by decide +kernel, by decide +kernel⟩, Nat.le_of_ble_eq_true rfl⟩
theorem np_X11_exclude : (parseMethodDescriptor yX11_exclude.desc).map (fun d => d.parameters.length) = some 3 := by decide +kernel
theorem stt_X11_exclude : Cond.static yX11_exclude ∈ pWW := pw5 (List.mem_of_getElem? (i := 48) rfl) rfl
theorem cst11_321 : Cond.constantLong RX11 321 (-1) ∈ pWW := pw5 (List.mem_of_getElem? (i := 51) rfl) rfl
theorem dX11_exclude_0 : decode cX11_exclude 0 = .ok (.iload_n 2, 1) := by decide +kernel
theorem dX11_exclude_1 : decode cX11_exclude 1 = .ok (.ifCond .lt 40, 3) := by decide +kernel
theorem dX11_exclude_41 : decode cX11_exclude 41 = .ok (.return_, 1) := by decide +kernel
theorem dX11_exclude_4 : decode cX11_exclude 4 = .ok (.iload_n 2, 1) := by decide +kernel
theorem dX11_exclude_5 : decode cX11_exclude 5 = .ok (.sipush 192, 3) := by decide +kernel
theorem dX11_exclude_8 : decode cX11_exclude 8 = .ok (.if_icmp .ge 33, 3) := by decide +kernel
theorem dX11_exclude_11 : decode cX11_exclude 11 = .ok (.iload_n 1, 1) := by decide +kernel
theorem dX11_exclude_12 : decode cX11_exclude 12 = .ok (.iconst 3, 1) := by decide +kernel
theorem dX11_exclude_13 : decode cX11_exclude 13 = .ok (.imul, 1) := by decide +kernel
theorem dX11_exclude_14 : decode cX11_exclude 14 = .ok (.iload_n 2, 1) := by decide +kernel
theorem dX11_exclude_15 : decode cX11_exclude 15 = .ok (.bipush 6, 2) := by decide +kernel
theorem dX11_exclude_17 : decode cX11_exclude 17 = .ok (.ishr, 1) := by decide +kernel
theorem dX11_exclude_18 : decode cX11_exclude 18 = .ok (.iadd, 1) := by decide +kernel
theorem dX11_exclude_19 : decode cX11_exclude 19 = .ok (.istore_n 3, 1) := by decide +kernel
theorem dX11_exclude_20 : decode cX11_exclude 20 = .ok (.aload_n 0, 1) := by decide +kernel
theorem dX11_exclude_21 : decode cX11_exclude 21 = .ok (.iload_n 3, 1) := by decide +kernel
theorem dX11_exclude_22 : decode cX11_exclude 22 = .ok (.aload_n 0, 1) := by decide +kernel
theorem dX11_exclude_23 : decode cX11_exclude 23 = .ok (.iload_n 3, 1) := by decide +kernel
theorem dX11_exclude_24 : decode cX11_exclude 24 = .ok (.invokestatic 313, 3) := by decide +kernel
theorem dX11_exclude_27 : decode cX11_exclude 27 = .ok (.lconst 1, 1) := by decide +kernel
theorem dX11_exclude_28 : decode cX11_exclude 28 = .ok (.iload_n 2, 1) := by decide +kernel
theorem dX11_exclude_29 : decode cX11_exclude 29 = .ok (.bipush 63, 2) := by decide +kernel
theorem dX11_exclude_31 : decode cX11_exclude 31 = .ok (.iand, 1) := by decide +kernel
theorem dX11_exclude_32 : decode cX11_exclude 32 = .ok (.lshl, 1) := by decide +kernel
theorem dX11_exclude_33 : decode cX11_exclude 33 = .ok (.ldc2_w 321, 3) := by decide +kernel
theorem dX11_exclude_36 : decode cX11_exclude 36 = .ok (.lxor, 1) := by decide +kernel
theorem dX11_exclude_37 : decode cX11_exclude 37 = .ok (.land, 1) := by decide +kernel
theorem dX11_exclude_38 : decode cX11_exclude 38 = .ok (.invokestatic 317, 3) := by decide +kernel
theorem dJ7_rangeCheck_23922_0 : decode cJ7_rangeCheck_23922 0 = .ok (.iload_n 1, 1) := by decide +kernel
theorem dJ7_rangeCheck_23922_1 : decode cJ7_rangeCheck_23922 1 = .ok (.iload_n 2, 1) := by decide +kernel
theorem dJ7_rangeCheck_23922_2 : decode cJ7_rangeCheck_23922 2 = .ok (.if_icmp .le 44, 3) := by decide +kernel
theorem dJ7_rangeCheck_23922_46 : decode cJ7_rangeCheck_23922 46 = .ok (.iload_n 1, 1) := by decide +kernel
theorem dJ7_rangeCheck_23922_47 : decode cJ7_rangeCheck_23922 47 = .ok (.ifCond .ge 12, 3) := by decide +kernel
theorem dJ7_rangeCheck_23922_59 : decode cJ7_rangeCheck_23922 59 = .ok (.iload_n 2, 1) := by decide +kernel
theorem dJ7_rangeCheck_23922_60 : decode cJ7_rangeCheck_23922 60 = .ok (.iload_n 0, 1) := by decide +kernel
theorem dJ7_rangeCheck_23922_61 : decode cJ7_rangeCheck_23922 61 = .ok (.if_icmp .le 12, 3) := by decide +kernel
theorem dJ7_rangeCheck_23922_73 : decode cJ7_rangeCheck_23922 73 = .ok (.return_, 1) := by decide +kernel
set_option maxRecDepth 20000 in
theorem k_J7_rangeCheck_23922 (d : Nat) {T : CT} {σ : MS} {n : Int} {f : Int} {t : Int} (h_n : -2147483648 ≤ n ∧ n ≤ 2147483647) (h_f : -2147483648 ≤ f ∧ f ≤ 2147483647) (h_t : -2147483648 ≤ t ∧ t ≤ 2147483647) (hw : WT T σ) (hr : 0 ≤ f ∧ f ≤ t ∧ t ≤ n) : Tn (d + 1) m_J7_rangeCheck_23922 0 T σ [(0, .int (iI n)), (1, .int (iI f)), (2, .int (iI t))] [] (fun ro T2 σ2 => ro = none ∧ T = T2 ∧ σ = σ2) := by
  refine tn_iload_n dJ7_rangeCheck_23922_0 rfl 1 rfl ?_
  refine tn_iload_n dJ7_rangeCheck_23922_1 rfl 2 rfl ?_
  refine tn_icmp_le (tgt := 46) dJ7_rangeCheck_23922_2 (by decide) ⟨by omega, by omega⟩ ⟨by omega, by omega⟩ (fun h1 => ?_) (fun h1 => ?_)
  · refine tn_iload_n dJ7_rangeCheck_23922_46 rfl 1 rfl ?_
    refine tn_if_ge (tgt := 59) dJ7_rangeCheck_23922_47 (by decide) ⟨by omega, by omega⟩ (fun h2 => ?_) (fun h2 => ?_)
    · refine tn_iload_n dJ7_rangeCheck_23922_59 rfl 2 rfl ?_
      refine tn_iload_n dJ7_rangeCheck_23922_60 rfl 0 rfl ?_
      refine tn_icmp_le (tgt := 73) dJ7_rangeCheck_23922_61 (by decide) ⟨by omega, by omega⟩ ⟨by omega, by omega⟩ (fun h3 => ?_) (fun h3 => ?_)
      · exact tn_vret rfl dJ7_rangeCheck_23922_73 ⟨rfl, rfl, rfl⟩
      · exact absurd True.intro (by omega)
    · exact absurd True.intro (by omega)
  · exact absurd True.intro (by omega)
theorem dJ7_fill_53178_0 : decode cJ7_fill_53178 0 = .ok (.iconst 0, 1) := by decide +kernel
theorem dJ7_fill_53178_1 : decode cJ7_fill_53178 1 = .ok (.istore_n 2, 1) := by decide +kernel
theorem dJ7_fill_53178_2 : decode cJ7_fill_53178 2 = .ok (.aload_n 0, 1) := by decide +kernel
theorem dJ7_fill_53178_3 : decode cJ7_fill_53178 3 = .ok (.arraylength, 1) := by decide +kernel
theorem dJ7_fill_53178_4 : decode cJ7_fill_53178 4 = .ok (.istore_n 3, 1) := by decide +kernel
theorem dJ7_fill_53178_5 : decode cJ7_fill_53178 5 = .ok (.iload_n 2, 1) := by decide +kernel
theorem dJ7_fill_53178_6 : decode cJ7_fill_53178 6 = .ok (.iload_n 3, 1) := by decide +kernel
theorem dJ7_fill_53178_7 : decode cJ7_fill_53178 7 = .ok (.if_icmp .ge 13, 3) := by decide +kernel
theorem dJ7_fill_53178_10 : decode cJ7_fill_53178 10 = .ok (.aload_n 0, 1) := by decide +kernel
theorem dJ7_fill_53178_11 : decode cJ7_fill_53178 11 = .ok (.iload_n 2, 1) := by decide +kernel
theorem dJ7_fill_53178_12 : decode cJ7_fill_53178 12 = .ok (.iload_n 1, 1) := by decide +kernel
theorem dJ7_fill_53178_13 : decode cJ7_fill_53178 13 = .ok (.iastore, 1) := by decide +kernel
theorem dJ7_fill_53178_14 : decode cJ7_fill_53178 14 = .ok (.iinc 2 1, 3) := by decide +kernel
theorem dJ7_fill_53178_17 : decode cJ7_fill_53178 17 = .ok (.goto (-12), 3) := by decide +kernel
set_option maxRecDepth 20000 in
theorem l_J7_fill_53178_5 (d : Nat) {T : CT} {σ0 : MS} {rx0 : Nat} {c1 : Int} {c3 : Int} {post : Option Value → CT → MS → Prop} (h_rx0 : IA T rx0) (l_rx0 : (T rx0).2 ≤ 1000000) (r_c1 : 0 ≤ c1 ∧ c1 ≤ 0) (r_c3 : 0 ≤ c3 ∧ c3 ≤ 1000000) (hw0 : WT T σ0) (n_rx0 : NH T rx0) (hc3 : c3 ≤ ((T rx0).2 : Int)) (hx_20 : ∀ (i2 : Int) (σ : MS) , (WT T σ) → (FrC T [] σ0 σ) → (0 ≤ i2 ∧ i2 ≤ 2147483647) → Tn (d + 1) m_J7_fill_53178 20 T σ [(0, .ref rx0), (1, .int (iI c1)), (2, .int (iI i2)), (3, .int (iI c3))] [] post) : ∀ (n : Nat) (i2 : Int) (σ : MS) , (WT T σ) → (FrC T [] σ0 σ) → (0 ≤ i2 ∧ i2 ≤ 2147483647) → (2147483700 - i2).toNat = n → Tn (d + 1) m_J7_fill_53178 5 T σ [(0, .ref rx0), (1, .int (iI c1)), (2, .int (iI i2)), (3, .int (iI c3))] [] post := by
  intro n
  induction n using Nat.strongRecOn with
  | _ n ih =>
    intro i2 σ hw hF r_i2 hm
    refine tn_iload_n dJ7_fill_53178_5 rfl 2 rfl ?_
    refine tn_iload_n dJ7_fill_53178_6 rfl 3 rfl ?_
    refine tn_icmp_ge (tgt := 20) dJ7_fill_53178_7 (by decide) ⟨by omega, by omega⟩ ⟨by omega, by omega⟩ (fun h1 => ?_) (fun h1 => ?_)
    · exact tn_sub [0, 1, 2, 3] rfl (hx_20 (i2) σ hw (FrC.rfl.trans (FrC.sub hF (by decide))) (by omega))
    · refine tn_aload_n dJ7_fill_53178_10 rfl 0 rfl ?_
      refine tn_iload_n dJ7_fill_53178_11 rfl 2 rfl ?_
      refine tn_iload_n dJ7_fill_53178_12 rfl 1 rfl ?_
      refine tn_iast (z := i2) (v := c1) dJ7_fill_53178_13 h_rx0 (by omega) (by omega) (by omega) ?_
      refine tn_iinc (q0 := 2) (L' := [(2, .int (iI (i2 + 1))), (0, .ref rx0), (1, .int (iI c1)), (3, .int (iI c3))]) dJ7_fill_53178_14 rfl (by decide) rfl ?_
      refine tn_goto (tgt := 5) dJ7_fill_53178_17 (by decide) ?_
      exact tn_sub [1, 2, 0, 3] rfl (ih _ (by omega) (i2 + 1) (sA (1000 + rx0) (i2) (c1) σ) (hw.arr (Or.inl h_rx0) (vok_z (by omega))) ((FrC.rfl.trans (FrC.sub hF (by decide))).arr (hk_no n_rx0)) (by omega) rfl)
theorem dJ7_fill_53178_20 : decode cJ7_fill_53178 20 = .ok (.return_, 1) := by decide +kernel
set_option maxRecDepth 20000 in
theorem k_J7_fill_53178 (d : Nat) {T : CT} {σ : MS} {x : Nat} {y : Int} (h_x : IA T x) (l_x : (T x).2 ≤ 1000000) (h_y : -2147483648 ≤ y ∧ y ≤ 2147483647) (hw : WT T σ) (n_x : NH T x) (hy : y = 0) : Tn (d + 1) m_J7_fill_53178 0 T σ [(0, .ref x), (1, .int (iI y))] [] (fun ro T2 σ2 => ro = none ∧ T = T2 ∧ WT T2 σ2 ∧ FrC T [] σ σ2) := by
  refine tn_iconst dJ7_fill_53178_0 ?_
  refine tn_istore_n (L' := [(2, .int (iI 0)), (0, .ref x), (1, .int (iI y))]) dJ7_fill_53178_1 rfl (by decide) rfl ?_
  refine tn_aload_n dJ7_fill_53178_2 rfl 1 rfl ?_
  refine tn_alenX dJ7_fill_53178_3 (Or.inl h_x) ?_
  refine tn_istore_n (L' := [(3, .int (iI (((T x).2 : Int)))), (2, .int (iI 0)), (0, .ref x), (1, .int (iI y))]) dJ7_fill_53178_4 rfl (by decide) rfl ?_
  refine tn_sub [2, 3, 1, 0] rfl (l_J7_fill_53178_5 (d) (T := T) (σ0 := σ) (rx0 := x) (c1 := y) (c3 := ((T x).2 : Int)) h_x (by omega) (by omega) (by omega) hw n_x (by omega) (fun i21 σ2 w5 F6 r7 => ?_) _ (0) σ hw FrC.rfl (by omega) rfl)
  show Tn _ _ 20 T σ2 [(0, .ref x), (1, .int (iI y)), (2, .int (iI i21)), (3, .int (iI (((T x).2 : Int))))] [] _
  exact tn_vret rfl dJ7_fill_53178_20 ⟨rfl, rfl, w5, (FrC.rfl.trans (FrC.sub F6 (by decide)))⟩
theorem mlJ7_13 : Cond.methodLink RXJ7 13 yJ7_rangeCheck_23922 ∈ pWW := pw3 (List.mem_of_getElem? (i := 147) rfl) rfl
theorem dJ7_fill_fda19_0 : decode cJ7_fill_fda19 0 = .ok (.aload_n 0, 1) := by decide +kernel
theorem dJ7_fill_fda19_1 : decode cJ7_fill_fda19 1 = .ok (.arraylength, 1) := by decide +kernel
theorem dJ7_fill_fda19_2 : decode cJ7_fill_fda19 2 = .ok (.iload_n 1, 1) := by decide +kernel
theorem dJ7_fill_fda19_3 : decode cJ7_fill_fda19 3 = .ok (.iload_n 2, 1) := by decide +kernel
theorem dJ7_fill_fda19_4 : decode cJ7_fill_fda19 4 = .ok (.invokestatic 13, 3) := by decide +kernel
theorem dJ7_fill_fda19_7 : decode cJ7_fill_fda19 7 = .ok (.iload_n 1, 1) := by decide +kernel
theorem dJ7_fill_fda19_8 : decode cJ7_fill_fda19 8 = .ok (.istore 4, 2) := by decide +kernel
theorem dJ7_fill_fda19_10 : decode cJ7_fill_fda19 10 = .ok (.iload 4, 2) := by decide +kernel
theorem dJ7_fill_fda19_12 : decode cJ7_fill_fda19 12 = .ok (.iload_n 2, 1) := by decide +kernel
theorem dJ7_fill_fda19_13 : decode cJ7_fill_fda19 13 = .ok (.if_icmp .ge 14, 3) := by decide +kernel
theorem dJ7_fill_fda19_16 : decode cJ7_fill_fda19 16 = .ok (.aload_n 0, 1) := by decide +kernel
theorem dJ7_fill_fda19_17 : decode cJ7_fill_fda19 17 = .ok (.iload 4, 2) := by decide +kernel
theorem dJ7_fill_fda19_19 : decode cJ7_fill_fda19 19 = .ok (.iload_n 3, 1) := by decide +kernel
theorem dJ7_fill_fda19_20 : decode cJ7_fill_fda19 20 = .ok (.iastore, 1) := by decide +kernel
theorem dJ7_fill_fda19_21 : decode cJ7_fill_fda19 21 = .ok (.iinc 4 1, 3) := by decide +kernel
theorem dJ7_fill_fda19_24 : decode cJ7_fill_fda19 24 = .ok (.goto (-14), 3) := by decide +kernel
set_option maxRecDepth 20000 in
theorem l_J7_fill_fda19_10 (d : Nat) {T : CT} {σ0 : MS} {rx0 : Nat} {c2 : Int} {c3 : Int} {post : Option Value → CT → MS → Prop} (h_rx0 : IA T rx0) (l_rx0 : (T rx0).2 ≤ 1000000) (r_c2 : -2147483648 ≤ c2 ∧ c2 ≤ 2147483647) (r_c3 : 0 ≤ c3 ∧ c3 ≤ 0) (hw0 : WT T σ0) (n_rx0 : NH T rx0) (hc2 : c2 ≤ ((T rx0).2 : Int)) (hx_27 : ∀ (i4 : Int) (σ : MS) , (WT T σ) → (FrC T [] σ0 σ) → (0 ≤ i4 ∧ i4 ≤ 2147483647) → Tn (d + 2) m_J7_fill_fda19 27 T σ [(0, .ref rx0), (2, .int (iI c2)), (3, .int (iI c3)), (4, .int (iI i4))] [] post) : ∀ (n : Nat) (i4 : Int) (σ : MS) , (WT T σ) → (FrC T [] σ0 σ) → (0 ≤ i4 ∧ i4 ≤ 2147483647) → (2147483700 - i4).toNat = n → Tn (d + 2) m_J7_fill_fda19 10 T σ [(0, .ref rx0), (2, .int (iI c2)), (3, .int (iI c3)), (4, .int (iI i4))] [] post := by
  intro n
  induction n using Nat.strongRecOn with
  | _ n ih =>
    intro i4 σ hw hF r_i4 hm
    refine tn_iload dJ7_fill_fda19_10 3 rfl ?_
    refine tn_iload_n dJ7_fill_fda19_12 rfl 1 rfl ?_
    refine tn_icmp_ge (tgt := 27) dJ7_fill_fda19_13 (by decide) ⟨by omega, by omega⟩ ⟨by omega, by omega⟩ (fun h1 => ?_) (fun h1 => ?_)
    · exact tn_sub [0, 1, 2, 3] rfl (hx_27 (i4) σ hw (FrC.rfl.trans (FrC.sub hF (by decide))) (by omega))
    · refine tn_aload_n dJ7_fill_fda19_16 rfl 0 rfl ?_
      refine tn_iload dJ7_fill_fda19_17 3 rfl ?_
      refine tn_iload_n dJ7_fill_fda19_19 rfl 2 rfl ?_
      refine tn_iast (z := i4) (v := c3) dJ7_fill_fda19_20 h_rx0 (by omega) (by omega) (by omega) ?_
      refine tn_iinc (q0 := 3) (L' := [(4, .int (iI (i4 + 1))), (0, .ref rx0), (2, .int (iI c2)), (3, .int (iI c3))]) dJ7_fill_fda19_21 rfl (by decide) rfl ?_
      refine tn_goto (tgt := 10) dJ7_fill_fda19_24 (by decide) ?_
      exact tn_sub [1, 2, 3, 0] rfl (ih _ (by omega) (i4 + 1) (sA (1000 + rx0) (i4) (c3) σ) (hw.arr (Or.inl h_rx0) (vok_z (by omega))) ((FrC.rfl.trans (FrC.sub hF (by decide))).arr (hk_no n_rx0)) (by omega) rfl)
theorem dJ7_fill_fda19_27 : decode cJ7_fill_fda19 27 = .ok (.return_, 1) := by decide +kernel
set_option maxRecDepth 20000 in
theorem k_J7_fill_fda19 (d : Nat) {T : CT} {σ : MS} {x : Nat} {f : Int} {t : Int} {y : Int} (h_x : IA T x) (l_x : (T x).2 ≤ 1000000) (h_f : -2147483648 ≤ f ∧ f ≤ 2147483647) (h_t : -2147483648 ≤ t ∧ t ≤ 2147483647) (h_y : -2147483648 ≤ y ∧ y ≤ 2147483647) (hw : WT T σ) (n_x : NH T x) (hy : y = 0) (hf : 0 ≤ f ∧ f ≤ t ∧ t ≤ ((T x).2 : Int)) : Tn (d + 2) m_J7_fill_fda19 0 T σ [(0, .ref x), (1, .int (iI f)), (2, .int (iI t)), (3, .int (iI y))] [] (fun ro T2 σ2 => ro = none ∧ T = T2 ∧ WT T2 σ2 ∧ FrC T [] σ σ2) := by
  refine tn_aload_n dJ7_fill_fda19_0 rfl 0 rfl ?_
  refine tn_alenX dJ7_fill_fda19_1 (Or.inl h_x) ?_
  refine tn_iload_n dJ7_fill_fda19_2 rfl 1 rfl ?_
  refine tn_iload_n dJ7_fill_fda19_3 rfl 2 rfl ?_
  refine tn_callS (M := m_J7_fill_fda19) (pc := 4) (ix := 13) (M' := m_J7_rangeCheck_23922) (As := [.int (iI (((T x).2 : Int))), .int (iI f), .int (iI t)]) (rest := []) dJ7_fill_fda19_4 ok_J7_rangeCheck_23922 stt_J7_rangeCheck_23922 mlJ7_13 np_J7_rangeCheck_23922 rfl (Nat.le_of_ble_eq_true rfl) (Nat.le_of_ble_eq_true rfl) rfl (k_J7_rangeCheck_23922 (d) (T := T) (σ := σ) (n := ((T x).2 : Int)) (f := f) (t := t) (by omega) (by omega) (by omega) hw (by omega)) (fun r1 T3 σ2 gt4 hp => ?_)
  obtain ⟨rfl, rfl, rfl⟩ := hp
  clear gt4
  show Tn _ _ 7 T σ [(0, .ref x), (1, .int (iI f)), (2, .int (iI t)), (3, .int (iI y))] [] _
  refine tn_iload_n dJ7_fill_fda19_7 rfl 1 rfl ?_
  refine tn_istore (L' := [(4, .int (iI f)), (0, .ref x), (1, .int (iI f)), (2, .int (iI t)), (3, .int (iI y))]) dJ7_fill_fda19_8 (by decide) rfl ?_
  refine tn_sub [1, 3, 4, 0] rfl (l_J7_fill_fda19_10 (d) (T := T) (σ0 := σ) (rx0 := x) (c2 := t) (c3 := y) h_x (by omega) (by omega) (by omega) hw n_x (by omega) (fun i46 σ7 w10 F11 r12 => ?_) _ (f) σ hw FrC.rfl (by omega) rfl)
  show Tn _ _ 27 T σ7 [(0, .ref x), (2, .int (iI t)), (3, .int (iI y)), (4, .int (iI i46))] [] _
  exact tn_vret rfl dJ7_fill_fda19_27 ⟨rfl, rfl, w10, (FrC.rfl.trans (FrC.sub F11 (by decide)))⟩
theorem dJ7_fill_bad5a_0 : decode cJ7_fill_bad5a 0 = .ok (.aload_n 0, 1) := by decide +kernel
theorem dJ7_fill_bad5a_1 : decode cJ7_fill_bad5a 1 = .ok (.arraylength, 1) := by decide +kernel
theorem dJ7_fill_bad5a_2 : decode cJ7_fill_bad5a 2 = .ok (.iload_n 1, 1) := by decide +kernel
theorem dJ7_fill_bad5a_3 : decode cJ7_fill_bad5a 3 = .ok (.iload_n 2, 1) := by decide +kernel
theorem dJ7_fill_bad5a_4 : decode cJ7_fill_bad5a 4 = .ok (.invokestatic 13, 3) := by decide +kernel
theorem dJ7_fill_bad5a_7 : decode cJ7_fill_bad5a 7 = .ok (.iload_n 1, 1) := by decide +kernel
theorem dJ7_fill_bad5a_8 : decode cJ7_fill_bad5a 8 = .ok (.istore 5, 2) := by decide +kernel
theorem dJ7_fill_bad5a_10 : decode cJ7_fill_bad5a 10 = .ok (.iload 5, 2) := by decide +kernel
theorem dJ7_fill_bad5a_12 : decode cJ7_fill_bad5a 12 = .ok (.iload_n 2, 1) := by decide +kernel
theorem dJ7_fill_bad5a_13 : decode cJ7_fill_bad5a 13 = .ok (.if_icmp .ge 14, 3) := by decide +kernel
theorem dJ7_fill_bad5a_16 : decode cJ7_fill_bad5a 16 = .ok (.aload_n 0, 1) := by decide +kernel
theorem dJ7_fill_bad5a_17 : decode cJ7_fill_bad5a 17 = .ok (.iload 5, 2) := by decide +kernel
theorem dJ7_fill_bad5a_19 : decode cJ7_fill_bad5a 19 = .ok (.lload_n 3, 1) := by decide +kernel
theorem dJ7_fill_bad5a_20 : decode cJ7_fill_bad5a 20 = .ok (.lastore, 1) := by decide +kernel
theorem dJ7_fill_bad5a_21 : decode cJ7_fill_bad5a 21 = .ok (.iinc 5 1, 3) := by decide +kernel
theorem dJ7_fill_bad5a_24 : decode cJ7_fill_bad5a 24 = .ok (.goto (-14), 3) := by decide +kernel
theorem dJ7_fill_bad5a_27 : decode cJ7_fill_bad5a 27 = .ok (.return_, 1) := by decide +kernel
theorem cd_X11_clear : Cond.code yX11_clear cX11_clear 2 none ∈ pWW := pw5 (List.mem_of_getElem? (i := 28) rfl) rfl
abbrev m_X11_clear : MT := (yX11_clear, cX11_clear, 2, none)
theorem ok_X11_clear : pOk m_X11_clear := ⟨⟨cd_X11_clear, ini_11⟩, by decide +kernel, ⟨by decide +kernel, by decide +kernel⟩, Nat.le_of_ble_eq_true rfl⟩
theorem np_X11_clear : (parseMethodDescriptor yX11_clear.desc).map (fun d => d.parameters.length) = some 2 := by decide +kernel
theorem stt_X11_clear : Cond.static yX11_clear ∈ pWW := pw5 (List.mem_of_getElem? (i := 27) rfl) rfl
theorem mlm11_110 : Cond.methodLink RX11 110 Lib.Math.min.name ∈ pWW := pw4 (List.mem_of_getElem? (i := 15) rfl) rfl
theorem mlm11_323 : Cond.methodLink RX11 323 Lib.Math.max.name ∈ pWW := pw5 (List.mem_of_getElem? (i := 29) rfl) rfl
theorem ml11_326 : Cond.methodLink RX11 326 yJ7_fill_bad5a ∈ pWW := pw5 (List.mem_of_getElem? (i := 30) rfl) rfl
theorem dX11_clear_0 : decode cX11_clear 0 = .ok (.aload_n 0, 1) := by decide +kernel
theorem dX11_clear_1 : decode cX11_clear 1 = .ok (.iconst 0, 1) := by decide +kernel
theorem dX11_clear_2 : decode cX11_clear 2 = .ok (.iconst 0, 1) := by decide +kernel
theorem dX11_clear_3 : decode cX11_clear 3 = .ok (.iload_n 1, 1) := by decide +kernel
theorem dX11_clear_4 : decode cX11_clear 4 = .ok (.aload_n 0, 1) := by decide +kernel
theorem dX11_clear_5 : decode cX11_clear 5 = .ok (.arraylength, 1) := by decide +kernel
theorem dX11_clear_6 : decode cX11_clear 6 = .ok (.invokestatic 110, 3) := by decide +kernel
theorem dX11_clear_9 : decode cX11_clear 9 = .ok (.invokestatic 323, 3) := by decide +kernel
theorem dX11_clear_12 : decode cX11_clear 12 = .ok (.lconst 0, 1) := by decide +kernel
theorem dX11_clear_13 : decode cX11_clear 13 = .ok (.invokestatic 326, 3) := by decide +kernel
theorem dX11_clear_16 : decode cX11_clear 16 = .ok (.return_, 1) := by decide +kernel
theorem cd_X11_tapeNumber : Cond.code yX11_tapeNumber cX11_tapeNumber 3 none ∈ pWW := pw3 (List.mem_of_getElem? (i := 12) rfl) rfl
abbrev m_X11_tapeNumber : MT := (yX11_tapeNumber, cX11_tapeNumber, 3, none)
theorem ok_X11_tapeNumber : pOk m_X11_tapeNumber := ⟨⟨cd_X11_tapeNumber, ini_11⟩, by decide +kernel, ⟨by decide +kernel, by decide +kernel⟩, Nat.le_of_ble_eq_true rfl⟩
theorem np_X11_tapeNumber : (parseMethodDescriptor yX11_tapeNumber.desc).map (fun d => d.parameters.length) = some 1 := by decide +kernel
theorem im_X11_tapeNumber : Cond.instanceMethod yX11_tapeNumber ∈ pWW := pw3 (List.mem_of_getElem? (i := 11) rfl) rfl
theorem se_X11_tapeNumber : Cond.selects RX11 yX11_tapeNumber yX11_tapeNumber ∈ pWW := pws (List.mem_map.mpr ⟨_, lw_pin 0 rfl, rfl⟩) rfl
theorem fl11_87 : Cond.fieldLink RX11 87 (TX11 1).1 (TX11 1).2.1 (TX11 1).2.2.1 ∈ pWW := pw2 (List.mem_of_getElem? (i := 197) rfl) rfl
theorem fl11_9 : Cond.fieldLink RX11 9 (TX11 0).1 (TX11 0).2.1 (TX11 0).2.2.1 ∈ pWW := pw2 (List.mem_of_getElem? (i := 196) rfl) rfl
theorem dX11_tapeNumber_0 : decode cX11_tapeNumber 0 = .ok (.bipush 24, 2) := by decide +kernel
theorem dX11_tapeNumber_2 : decode cX11_tapeNumber 2 = .ok (.istore_n 2, 1) := by decide +kernel
theorem dX11_tapeNumber_3 : decode cX11_tapeNumber 3 = .ok (.iload_n 2, 1) := by decide +kernel
theorem dX11_tapeNumber_4 : decode cX11_tapeNumber 4 = .ok (.ifCond .lt 51, 3) := by decide +kernel
theorem dX11_tapeNumber_7 : decode cX11_tapeNumber 7 = .ok (.aload_n 0, 1) := by decide +kernel
theorem dX11_tapeNumber_8 : decode cX11_tapeNumber 8 = .ok (.getfield 87, 3) := by decide +kernel
theorem dX11_tapeNumber_11 : decode cX11_tapeNumber 11 = .ok (.ifCond .lt 38, 3) := by decide +kernel
theorem dX11_tapeNumber_14 : decode cX11_tapeNumber 14 = .ok (.aload_n 0, 1) := by decide +kernel
theorem dX11_tapeNumber_15 : decode cX11_tapeNumber 15 = .ok (.getfield 87, 3) := by decide +kernel
theorem dX11_tapeNumber_18 : decode cX11_tapeNumber 18 = .ok (.aload_n 0, 1) := by decide +kernel
theorem dX11_tapeNumber_19 : decode cX11_tapeNumber 19 = .ok (.getfield 9, 3) := by decide +kernel
theorem dX11_tapeNumber_22 : decode cX11_tapeNumber 22 = .ok (.arraylength, 1) := by decide +kernel
theorem dX11_tapeNumber_23 : decode cX11_tapeNumber 23 = .ok (.if_icmp .ge 26, 3) := by decide +kernel
theorem dX11_tapeNumber_49 : decode cX11_tapeNumber 49 = .ok (.iinc 2 (-8), 3) := by decide +kernel
theorem dX11_tapeNumber_52 : decode cX11_tapeNumber 52 = .ok (.goto (-49), 3) := by decide +kernel
theorem dX11_tapeNumber_26 : decode cX11_tapeNumber 26 = .ok (.aload_n 0, 1) := by decide +kernel
theorem dX11_tapeNumber_27 : decode cX11_tapeNumber 27 = .ok (.getfield 9, 3) := by decide +kernel
theorem dX11_tapeNumber_30 : decode cX11_tapeNumber 30 = .ok (.aload_n 0, 1) := by decide +kernel
theorem dX11_tapeNumber_31 : decode cX11_tapeNumber 31 = .ok (.getfield 87, 3) := by decide +kernel
theorem dX11_tapeNumber_34 : decode cX11_tapeNumber 34 = .ok (.iload_n 1, 1) := by decide +kernel
theorem dX11_tapeNumber_35 : decode cX11_tapeNumber 35 = .ok (.iload_n 2, 1) := by decide +kernel
theorem dX11_tapeNumber_36 : decode cX11_tapeNumber 36 = .ok (.iushr, 1) := by decide +kernel
theorem dX11_tapeNumber_37 : decode cX11_tapeNumber 37 = .ok (.i2b, 1) := by decide +kernel
theorem dX11_tapeNumber_38 : decode cX11_tapeNumber 38 = .ok (.bastore, 1) := by decide +kernel
theorem dX11_tapeNumber_39 : decode cX11_tapeNumber 39 = .ok (.aload_n 0, 1) := by decide +kernel
theorem dX11_tapeNumber_40 : decode cX11_tapeNumber 40 = .ok (.dup, 1) := by decide +kernel
theorem dX11_tapeNumber_41 : decode cX11_tapeNumber 41 = .ok (.getfield 87, 3) := by decide +kernel
theorem dX11_tapeNumber_44 : decode cX11_tapeNumber 44 = .ok (.iconst 1, 1) := by decide +kernel
theorem dX11_tapeNumber_45 : decode cX11_tapeNumber 45 = .ok (.iadd, 1) := by decide +kernel
theorem dX11_tapeNumber_46 : decode cX11_tapeNumber 46 = .ok (.putfield 87, 3) := by decide +kernel
theorem dX11_tapeNumber_55 : decode cX11_tapeNumber 55 = .ok (.return_, 1) := by decide +kernel
end
section
theorem cd_X1_empty : Cond.code yX1_empty cX1_empty 2 none ∈ pWW := pw3 (List.mem_of_getElem? (i := 89) rfl) rfl
theorem ini_1 : Cond.initialized RX1 ∈ pWW := pw1 (List.mem_of_getElem? (i := 4) rfl) rfl
abbrev m_X1_empty : MT := (yX1_empty, cX1_empty, 2, none)
theorem ok_X1_empty : pOk m_X1_empty := ⟨⟨cd_X1_empty, ini_1⟩, by decide +kernel, ⟨by decide +kernel, by decide +kernel⟩, Nat.le_of_ble_eq_true rfl⟩
theorem np_X1_empty : (parseMethodDescriptor yX1_empty.desc).map (fun d => d.parameters.length) = some 1 := by decide +kernel
theorem im_X1_empty : Cond.instanceMethod yX1_empty ∈ pWW := pw3 (List.mem_of_getElem? (i := 87) rfl) rfl
theorem se_X1_empty : Cond.selects RX1 yX1_empty yX1_empty ∈ pWW := pw3 (List.mem_of_getElem? (i := 88) rfl) rfl
theorem fl1_33 : Cond.fieldLink RX1 33 (TX1 1).1 (TX1 1).2.1 (TX1 1).2.2.1 ∈ pWW := pw1 (List.mem_of_getElem? (i := 78) rfl) rfl
theorem fl1_37 : Cond.fieldLink RX1 37 (TX1 2).1 (TX1 2).2.1 (TX1 2).2.2.1 ∈ pWW := pw1 (List.mem_of_getElem? (i := 87) rfl) rfl
theorem fl1_40 : Cond.fieldLink RX1 40 (TX1 3).1 (TX1 3).2.1 (TX1 3).2.2.1 ∈ pWW := pw1 (List.mem_of_getElem? (i := 92) rfl) rfl
theorem fl1_43 : Cond.fieldLink RX1 43 (TX1 4).1 (TX1 4).2.1 (TX1 4).2.2.1 ∈ pWW := pw1 (List.mem_of_getElem? (i := 99) rfl) rfl
theorem fl1_46 : Cond.fieldLink RX1 46 (TX1 5).1 (TX1 5).2.1 (TX1 5).2.2.1 ∈ pWW := pw1 (List.mem_of_getElem? (i := 102) rfl) rfl
theorem fl1_15 : Cond.fieldLink RX1 15 (TX1 6).1 (TX1 6).2.1 (TX1 6).2.2.1 ∈ pWW := pw1 (List.mem_of_getElem? (i := 107) rfl) rfl
theorem nl1_49 : (RX1, 49, yX11_put, "LineKeeper") ∈ nst_M := List.mem_of_getElem? (i := 8) rfl
theorem fl1_18 : Cond.fieldLink RX1 18 (TX1 7).1 (TX1 7).2.1 (TX1 7).2.2.1 ∈ pWW := pw1 (List.mem_of_getElem? (i := 111) rfl) rfl
theorem fl1_21 : Cond.fieldLink RX1 21 (TX1 8).1 (TX1 8).2.1 (TX1 8).2.2.1 ∈ pWW := pw1 (List.mem_of_getElem? (i := 115) rfl) rfl
theorem fl1_24 : Cond.fieldLink RX1 24 (TX1 9).1 (TX1 9).2.1 (TX1 9).2.2.1 ∈ pWW := pw1 (List.mem_of_getElem? (i := 118) rfl) rfl
theorem dX1_empty_0 : decode cX1_empty 0 = .ok (.aload_n 0, 1) := by decide +kernel
theorem dX1_empty_1 : decode cX1_empty 1 = .ok (.iconst 0, 1) := by decide +kernel
theorem dX1_empty_2 : decode cX1_empty 2 = .ok (.putfield 33, 3) := by decide +kernel
theorem dX1_empty_5 : decode cX1_empty 5 = .ok (.aload_n 0, 1) := by decide +kernel
theorem dX1_empty_6 : decode cX1_empty 6 = .ok (.iconst 0, 1) := by decide +kernel
theorem dX1_empty_7 : decode cX1_empty 7 = .ok (.putfield 37, 3) := by decide +kernel
theorem dX1_empty_10 : decode cX1_empty 10 = .ok (.aload_n 0, 1) := by decide +kernel
theorem dX1_empty_11 : decode cX1_empty 11 = .ok (.iconst 0, 1) := by decide +kernel
theorem dX1_empty_12 : decode cX1_empty 12 = .ok (.putfield 40, 3) := by decide +kernel
theorem dX1_empty_15 : decode cX1_empty 15 = .ok (.aload_n 0, 1) := by decide +kernel
theorem dX1_empty_16 : decode cX1_empty 16 = .ok (.iconst 0, 1) := by decide +kernel
theorem dX1_empty_17 : decode cX1_empty 17 = .ok (.putfield 43, 3) := by decide +kernel
theorem dX1_empty_20 : decode cX1_empty 20 = .ok (.aload_n 0, 1) := by decide +kernel
theorem dX1_empty_21 : decode cX1_empty 21 = .ok (.iconst 1, 1) := by decide +kernel
theorem dX1_empty_22 : decode cX1_empty 22 = .ok (.putfield 46, 3) := by decide +kernel
theorem dX1_empty_25 : decode cX1_empty 25 = .ok (.aload_n 0, 1) := by decide +kernel
theorem dX1_empty_26 : decode cX1_empty 26 = .ok (.getfield 15, 3) := by decide +kernel
theorem dX1_empty_29 : decode cX1_empty 29 = .ok (.iconst 0, 1) := by decide +kernel
theorem dX1_empty_30 : decode cX1_empty 30 = .ok (.iload_n 1, 1) := by decide +kernel
theorem dX1_empty_31 : decode cX1_empty 31 = .ok (.invokestatic 49, 3) := by decide +kernel
theorem dX1_empty_34 : decode cX1_empty 34 = .ok (.aload_n 0, 1) := by decide +kernel
theorem dX1_empty_35 : decode cX1_empty 35 = .ok (.getfield 18, 3) := by decide +kernel
theorem dX1_empty_38 : decode cX1_empty 38 = .ok (.iconst 0, 1) := by decide +kernel
theorem dX1_empty_39 : decode cX1_empty 39 = .ok (.iconst (-1), 1) := by decide +kernel
theorem dX1_empty_40 : decode cX1_empty 40 = .ok (.invokestatic 49, 3) := by decide +kernel
theorem dX1_empty_43 : decode cX1_empty 43 = .ok (.aload_n 0, 1) := by decide +kernel
theorem dX1_empty_44 : decode cX1_empty 44 = .ok (.getfield 21, 3) := by decide +kernel
theorem dX1_empty_47 : decode cX1_empty 47 = .ok (.iconst 0, 1) := by decide +kernel
theorem dX1_empty_48 : decode cX1_empty 48 = .ok (.iconst 0, 1) := by decide +kernel
theorem dX1_empty_49 : decode cX1_empty 49 = .ok (.invokestatic 49, 3) := by decide +kernel
theorem dX1_empty_52 : decode cX1_empty 52 = .ok (.aload_n 0, 1) := by decide +kernel
theorem dX1_empty_53 : decode cX1_empty 53 = .ok (.getfield 24, 3) := by decide +kernel
theorem dX1_empty_56 : decode cX1_empty 56 = .ok (.iconst 0, 1) := by decide +kernel
theorem dX1_empty_57 : decode cX1_empty 57 = .ok (.iconst 0, 1) := by decide +kernel
theorem dX1_empty_58 : decode cX1_empty 58 = .ok (.invokestatic 49, 3) := by decide +kernel
theorem dX1_empty_61 : decode cX1_empty 61 = .ok (.return_, 1) := by decide +kernel
end
section
theorem cd_X1_get : Cond.code yX1_get cX1_get 4 (some .int) ∈ pWW := pw4 (List.mem_of_getElem? (i := 8) rfl) rfl
abbrev m_X1_get : MT := (yX1_get, cX1_get, 4, (some .int))
theorem ok_X1_get : pOk m_X1_get := ⟨⟨cd_X1_get, ini_1⟩, by decide +kernel, ⟨by decide +kernel, by decide +kernel⟩, Nat.le_of_ble_eq_true rfl⟩
theorem np_X1_get : (parseMethodDescriptor yX1_get.desc).map (fun d => d.parameters.length) = some 2 := by decide +kernel
theorem im_X1_get : Cond.instanceMethod yX1_get ∈ pWW := pw4 (List.mem_of_getElem? (i := 6) rfl) rfl
theorem se_X1_get : Cond.selects RX1 yX1_get yX1_get ∈ pWW := pw4 (List.mem_of_getElem? (i := 7) rfl) rfl
theorem fl1_9 : Cond.fieldLink RX1 9 (TX1 0).1 (TX1 0).2.1 (TX1 0).2.2.1 ∈ pWW := pw1 (List.mem_of_getElem? (i := 77) rfl) rfl
theorem dX1_get_0 : decode cX1_get 0 = .ok (.iload_n 1, 1) := by decide +kernel
theorem dX1_get_1 : decode cX1_get 1 = .ok (.bipush 13, 2) := by decide +kernel
theorem dX1_get_3 : decode cX1_get 3 = .ok (.imul, 1) := by decide +kernel
theorem dX1_get_4 : decode cX1_get 4 = .ok (.iload_n 2, 1) := by decide +kernel
theorem dX1_get_5 : decode cX1_get 5 = .ok (.iadd, 1) := by decide +kernel
theorem dX1_get_6 : decode cX1_get 6 = .ok (.istore_n 3, 1) := by decide +kernel
theorem dX1_get_7 : decode cX1_get 7 = .ok (.iload_n 1, 1) := by decide +kernel
theorem dX1_get_8 : decode cX1_get 8 = .ok (.ifCond .lt 33, 3) := by decide +kernel
theorem dX1_get_41 : decode cX1_get 41 = .ok (.iconst 0, 1) := by decide +kernel
theorem dX1_get_42 : decode cX1_get 42 = .ok (.ireturn, 1) := by decide +kernel
theorem dX1_get_11 : decode cX1_get 11 = .ok (.iload_n 1, 1) := by decide +kernel
theorem dX1_get_12 : decode cX1_get 12 = .ok (.aload_n 0, 1) := by decide +kernel
theorem dX1_get_13 : decode cX1_get 13 = .ok (.getfield 33, 3) := by decide +kernel
theorem dX1_get_16 : decode cX1_get 16 = .ok (.if_icmp .ge 25, 3) := by decide +kernel
theorem dX1_get_19 : decode cX1_get 19 = .ok (.iload_n 3, 1) := by decide +kernel
theorem dX1_get_20 : decode cX1_get 20 = .ok (.ifCond .lt 21, 3) := by decide +kernel
theorem dX1_get_23 : decode cX1_get 23 = .ok (.iload_n 3, 1) := by decide +kernel
theorem dX1_get_24 : decode cX1_get 24 = .ok (.aload_n 0, 1) := by decide +kernel
theorem dX1_get_25 : decode cX1_get 25 = .ok (.getfield 9, 3) := by decide +kernel
theorem dX1_get_28 : decode cX1_get 28 = .ok (.arraylength, 1) := by decide +kernel
theorem dX1_get_29 : decode cX1_get 29 = .ok (.if_icmp .ge 12, 3) := by decide +kernel
theorem dX1_get_32 : decode cX1_get 32 = .ok (.aload_n 0, 1) := by decide +kernel
theorem dX1_get_33 : decode cX1_get 33 = .ok (.getfield 9, 3) := by decide +kernel
theorem dX1_get_36 : decode cX1_get 36 = .ok (.iload_n 3, 1) := by decide +kernel
theorem dX1_get_37 : decode cX1_get 37 = .ok (.iaload, 1) := by decide +kernel
theorem dX1_get_38 : decode cX1_get 38 = .ok (.goto 4, 3) := by decide +kernel
set_option maxRecDepth 20000 in
theorem k_X1_get (d : Nat) {T : CT} {σ : MS} {a : Nat} {k : Int} {c : Int} (ha : OB T a 1) (h_k : -2147483648 ≤ k ∧ k ≤ 2147483647) (h_c : -2147483648 ≤ c ∧ c ≤ 2147483647) (hw : WT T σ) (hc : 0 ≤ c ∧ c ≤ 12) : Tn (d + 1) m_X1_get 0 T σ [(0, .ref a), (1, .int (iI k)), (2, .int (iI c))] [] (fun ro T2 σ2 => ∃ v : Int, ro = some (.int (iI v)) ∧ T = T2 ∧ σ = σ2 ∧ (-2147483648 ≤ v ∧ v ≤ 2147483647)) := by
  refine tn_iload_n dX1_get_0 rfl 1 rfl ?_
  refine tn_bipush dX1_get_1 (by decide) ?_
  refine tn_imul dX1_get_3 ?_
  refine tn_iload_n dX1_get_4 rfl 2 rfl ?_
  refine tn_iadd dX1_get_5 ?_
  refine tn_istore_n (L' := [(3, .int (iI ((k * 13) + c))), (0, .ref a), (1, .int (iI k)), (2, .int (iI c))]) dX1_get_6 rfl (by decide) rfl ?_
  refine tn_iload_n dX1_get_7 rfl 2 rfl ?_
  refine tn_if_lt (tgt := 41) dX1_get_8 (by decide) ⟨by omega, by omega⟩ (fun h1 => ?_) (fun h1 => ?_)
  · refine tn_iconst dX1_get_41 ?_
    exact tn_iret rfl dX1_get_42 ⟨_, rfl, rfl, rfl, by omega⟩
  · refine tn_iload_n dX1_get_11 rfl 2 rfl ?_
    refine tn_aload_n dX1_get_12 rfl 1 rfl ?_
    refine tn_getI (ci := 1) (i := 1) (n := 6) (t := σ.2.1 6 a) dX1_get_13 rfl lay_1 (by decide) fl1_33 ha rfl rfl (rfl) ?_
    have g2 : ((0 : Int) ≤ σ.2.1 6 a ∧ σ.2.1 6 a ≤ 5000) ∧ ((T a).1 = 50 → σ.2.1 6 a ≤ 200) := wf_6 hw ha
    have g2x := g2.2
    replace g2 := g2.1
    clear g2x
    refine tn_icmp_ge (tgt := 41) dX1_get_16 (by decide) ⟨by omega, by omega⟩ ⟨by omega, by omega⟩ (fun h3 => ?_) (fun h3 => ?_)
    · refine tn_iconst dX1_get_41 ?_
      exact tn_iret rfl dX1_get_42 ⟨_, rfl, rfl, rfl, by omega⟩
    · refine tn_iload_n dX1_get_19 rfl 0 rfl ?_
      refine tn_if_lt (tgt := 41) dX1_get_20 (by decide) ⟨by omega, by omega⟩ (fun h4 => ?_) (fun h4 => ?_)
      · refine tn_iconst dX1_get_41 ?_
        exact tn_iret rfl dX1_get_42 ⟨_, rfl, rfl, rfl, by omega⟩
      · refine tn_iload_n dX1_get_23 rfl 0 rfl ?_
        refine tn_aload_n dX1_get_24 rfl 1 rfl ?_
        obtain ⟨x5, hx6, hl8, hk7a, hk7b⟩ := wf_5 hw ha
        have hk7i : IA T x5 := by unfold IA; omega
        have hk7c : CELL T a x5 := ⟨hk7a, hk7b⟩
        clear hk7a hk7b
        refine tn_getR (ci := 1) (i := 0) (n := 5) (x := x5) dX1_get_25 rfl lay_1 (by decide) fl1_9 ha rfl rfl (hx6) ?_
        refine tn_alenX dX1_get_28 (Or.inl hk7i) ?_
        refine tn_icmp_ge (tgt := 41) dX1_get_29 (by decide) ⟨by omega, by omega⟩ ⟨by omega, by omega⟩ (fun h9 => ?_) (fun h9 => ?_)
        · refine tn_iconst dX1_get_41 ?_
          exact tn_iret rfl dX1_get_42 ⟨_, rfl, rfl, rfl, by omega⟩
        · refine tn_aload_n dX1_get_32 rfl 1 rfl ?_
          refine tn_getR (ci := 1) (i := 0) (n := 5) (x := x5) dX1_get_33 rfl lay_1 (by decide) fl1_9 ha rfl rfl (hx6) ?_
          refine tn_iload_n dX1_get_36 rfl 0 rfl ?_
          refine tn_ialdX (z := (k * 13) + c) hw dX1_get_37 hk7i (by omega) (by omega) (by omega) (fun v10 g11q g11 g11k => ?_)
          clear g11k g11q
          refine tn_goto (tgt := 42) dX1_get_38 (by decide) ?_
          exact tn_iret rfl dX1_get_42 ⟨_, rfl, rfl, rfl, by omega⟩
end
section
theorem cd_X1_set : Cond.code yX1_set cX1_set 5 none ∈ pWW := pw3 (List.mem_of_getElem? (i := 205) rfl) rfl
abbrev m_X1_set : MT := (yX1_set, cX1_set, 5, none)
theorem ok_X1_set : pOk m_X1_set := ⟨⟨cd_X1_set, ini_1⟩, by decide +kernel, ⟨by decide +kernel, by decide +kernel⟩, Nat.le_of_ble_eq_true rfl⟩
theorem np_X1_set : (parseMethodDescriptor yX1_set.desc).map (fun d => d.parameters.length) = some 3 := by decide +kernel
theorem im_X1_set : Cond.instanceMethod yX1_set ∈ pWW := pw3 (List.mem_of_getElem? (i := 203) rfl) rfl
theorem se_X1_set : Cond.selects RX1 yX1_set yX1_set ∈ pWW := pw3 (List.mem_of_getElem? (i := 204) rfl) rfl
theorem dX1_set_0 : decode cX1_set 0 = .ok (.iload_n 1, 1) := by decide +kernel
theorem dX1_set_1 : decode cX1_set 1 = .ok (.bipush 13, 2) := by decide +kernel
theorem dX1_set_3 : decode cX1_set 3 = .ok (.imul, 1) := by decide +kernel
theorem dX1_set_4 : decode cX1_set 4 = .ok (.iload_n 2, 1) := by decide +kernel
theorem dX1_set_5 : decode cX1_set 5 = .ok (.iadd, 1) := by decide +kernel
theorem dX1_set_6 : decode cX1_set 6 = .ok (.istore 4, 2) := by decide +kernel
theorem dX1_set_8 : decode cX1_set 8 = .ok (.iload_n 1, 1) := by decide +kernel
theorem dX1_set_9 : decode cX1_set 9 = .ok (.ifCond .lt 34, 3) := by decide +kernel
theorem dX1_set_43 : decode cX1_set 43 = .ok (.return_, 1) := by decide +kernel
theorem dX1_set_12 : decode cX1_set 12 = .ok (.iload_n 1, 1) := by decide +kernel
theorem dX1_set_13 : decode cX1_set 13 = .ok (.aload_n 0, 1) := by decide +kernel
theorem dX1_set_14 : decode cX1_set 14 = .ok (.getfield 33, 3) := by decide +kernel
theorem dX1_set_17 : decode cX1_set 17 = .ok (.if_icmp .ge 26, 3) := by decide +kernel
theorem dX1_set_20 : decode cX1_set 20 = .ok (.iload 4, 2) := by decide +kernel
theorem dX1_set_22 : decode cX1_set 22 = .ok (.ifCond .lt 21, 3) := by decide +kernel
theorem dX1_set_25 : decode cX1_set 25 = .ok (.iload 4, 2) := by decide +kernel
theorem dX1_set_27 : decode cX1_set 27 = .ok (.aload_n 0, 1) := by decide +kernel
theorem dX1_set_28 : decode cX1_set 28 = .ok (.getfield 9, 3) := by decide +kernel
theorem dX1_set_31 : decode cX1_set 31 = .ok (.arraylength, 1) := by decide +kernel
theorem dX1_set_32 : decode cX1_set 32 = .ok (.if_icmp .ge 11, 3) := by decide +kernel
theorem dX1_set_35 : decode cX1_set 35 = .ok (.aload_n 0, 1) := by decide +kernel
theorem dX1_set_36 : decode cX1_set 36 = .ok (.getfield 9, 3) := by decide +kernel
theorem dX1_set_39 : decode cX1_set 39 = .ok (.iload 4, 2) := by decide +kernel
theorem dX1_set_41 : decode cX1_set 41 = .ok (.iload_n 3, 1) := by decide +kernel
theorem dX1_set_42 : decode cX1_set 42 = .ok (.iastore, 1) := by decide +kernel
set_option maxRecDepth 20000 in
theorem k_X1_set (d : Nat) {T : CT} {σ : MS} {a : Nat} {k : Int} {c : Int} {y : Int} (ha : OB T a 1) (h_k : -2147483648 ≤ k ∧ k ≤ 2147483647) (h_c : -2147483648 ≤ c ∧ c ≤ 2147483647) (h_y : -2147483648 ≤ y ∧ y ≤ 2147483647) (hw : WT T σ) (hc : 0 ≤ c ∧ c ≤ 12) (hk : (T a).1 ≠ 50 → 1 ≤ c) : Tn (d + 1) m_X1_set 0 T σ [(0, .ref a), (1, .int (iI k)), (2, .int (iI c)), (3, .int (iI y))] [] (fun ro T2 σ2 => ro = none ∧ T = T2 ∧ WT T2 σ2 ∧ FrC T [] σ σ2) := by
  refine tn_iload_n dX1_set_0 rfl 1 rfl ?_
  refine tn_bipush dX1_set_1 (by decide) ?_
  refine tn_imul dX1_set_3 ?_
  refine tn_iload_n dX1_set_4 rfl 2 rfl ?_
  refine tn_iadd dX1_set_5 ?_
  refine tn_istore (L' := [(4, .int (iI ((k * 13) + c))), (0, .ref a), (1, .int (iI k)), (2, .int (iI c)), (3, .int (iI y))]) dX1_set_6 (by decide) rfl ?_
  refine tn_iload_n dX1_set_8 rfl 2 rfl ?_
  refine tn_if_lt (tgt := 43) dX1_set_9 (by decide) ⟨by omega, by omega⟩ (fun h1 => ?_) (fun h1 => ?_)
  · exact tn_vret rfl dX1_set_43 ⟨rfl, rfl, hw, FrC.rfl⟩
  · refine tn_iload_n dX1_set_12 rfl 2 rfl ?_
    refine tn_aload_n dX1_set_13 rfl 1 rfl ?_
    refine tn_getI (ci := 1) (i := 1) (n := 6) (t := σ.2.1 6 a) dX1_set_14 rfl lay_1 (by decide) fl1_33 ha rfl rfl (rfl) ?_
    have g2 : ((0 : Int) ≤ σ.2.1 6 a ∧ σ.2.1 6 a ≤ 5000) ∧ ((T a).1 = 50 → σ.2.1 6 a ≤ 200) := wf_6 hw ha
    have g2x := g2.2
    replace g2 := g2.1
    clear g2x
    refine tn_icmp_ge (tgt := 43) dX1_set_17 (by decide) ⟨by omega, by omega⟩ ⟨by omega, by omega⟩ (fun h3 => ?_) (fun h3 => ?_)
    · exact tn_vret rfl dX1_set_43 ⟨rfl, rfl, hw, FrC.rfl⟩
    · refine tn_iload dX1_set_20 0 rfl ?_
      refine tn_if_lt (tgt := 43) dX1_set_22 (by decide) ⟨by omega, by omega⟩ (fun h4 => ?_) (fun h4 => ?_)
      · exact tn_vret rfl dX1_set_43 ⟨rfl, rfl, hw, FrC.rfl⟩
      · refine tn_iload dX1_set_25 0 rfl ?_
        refine tn_aload_n dX1_set_27 rfl 1 rfl ?_
        obtain ⟨x5, hx6, hl8, hk7a, hk7b⟩ := wf_5 hw ha
        have hk7i : IA T x5 := by unfold IA; omega
        have hk7c : CELL T a x5 := ⟨hk7a, hk7b⟩
        clear hk7a hk7b
        refine tn_getR (ci := 1) (i := 0) (n := 5) (x := x5) dX1_set_28 rfl lay_1 (by decide) fl1_9 ha rfl rfl (hx6) ?_
        refine tn_alenX dX1_set_31 (Or.inl hk7i) ?_
        refine tn_icmp_ge (tgt := 43) dX1_set_32 (by decide) ⟨by omega, by omega⟩ ⟨by omega, by omega⟩ (fun h9 => ?_) (fun h9 => ?_)
        · exact tn_vret rfl dX1_set_43 ⟨rfl, rfl, hw, FrC.rfl⟩
        · refine tn_aload_n dX1_set_35 rfl 1 rfl ?_
          refine tn_getR (ci := 1) (i := 0) (n := 5) (x := x5) dX1_set_36 rfl lay_1 (by decide) fl1_9 ha rfl rfl (hx6) ?_
          refine tn_iload dX1_set_39 0 rfl ?_
          refine tn_iload_n dX1_set_41 rfl 4 rfl ?_
          refine tn_iast (z := (k * 13) + c) (v := y) dX1_set_42 hk7i (by omega) (by omega) (by omega) ?_
          exact tn_vret rfl dX1_set_43 ⟨rfl, rfl, (hw.arr (Or.inl hk7i) (hk7c.vok (by omega) (fun q r => by have q8 := hk q; omega))), (FrC.rfl.arr (hk_no (CELL.nh hk7c)))⟩
end
section
theorem cd_X1_kindAt : Cond.code yX1_kindAt cX1_kindAt 2 (some .int) ∈ pWW := pw4 (List.mem_of_getElem? (i := 1) rfl) rfl
abbrev m_X1_kindAt : MT := (yX1_kindAt, cX1_kindAt, 2, (some .int))
theorem ok_X1_kindAt : pOk m_X1_kindAt := ⟨⟨cd_X1_kindAt, ini_1⟩, by decide +kernel, ⟨by decide +kernel, by decide +kernel⟩, Nat.le_of_ble_eq_true rfl⟩
theorem np_X1_kindAt : (parseMethodDescriptor yX1_kindAt.desc).map (fun d => d.parameters.length) = some 1 := by decide +kernel
theorem im_X1_kindAt : Cond.instanceMethod yX1_kindAt ∈ pWW := pw3 (List.mem_of_getElem? (i := 239) rfl) rfl
theorem se_X1_kindAt : Cond.selects RX1 yX1_kindAt yX1_kindAt ∈ pWW := pw4 (List.mem_of_getElem? (i := 0) rfl) rfl
theorem dX1_kindAt_0 : decode cX1_kindAt 0 = .ok (.iload_n 1, 1) := by decide +kernel
theorem dX1_kindAt_1 : decode cX1_kindAt 1 = .ok (.ifCond .lt 35, 3) := by decide +kernel
theorem dX1_kindAt_36 : decode cX1_kindAt 36 = .ok (.iconst (-1), 1) := by decide +kernel
theorem dX1_kindAt_37 : decode cX1_kindAt 37 = .ok (.ireturn, 1) := by decide +kernel
theorem dX1_kindAt_4 : decode cX1_kindAt 4 = .ok (.iload_n 1, 1) := by decide +kernel
theorem dX1_kindAt_5 : decode cX1_kindAt 5 = .ok (.aload_n 0, 1) := by decide +kernel
theorem dX1_kindAt_6 : decode cX1_kindAt 6 = .ok (.getfield 33, 3) := by decide +kernel
theorem dX1_kindAt_9 : decode cX1_kindAt 9 = .ok (.if_icmp .ge 27, 3) := by decide +kernel
theorem dX1_kindAt_12 : decode cX1_kindAt 12 = .ok (.iload_n 1, 1) := by decide +kernel
theorem dX1_kindAt_13 : decode cX1_kindAt 13 = .ok (.bipush 13, 2) := by decide +kernel
theorem dX1_kindAt_15 : decode cX1_kindAt 15 = .ok (.imul, 1) := by decide +kernel
theorem dX1_kindAt_16 : decode cX1_kindAt 16 = .ok (.aload_n 0, 1) := by decide +kernel
theorem dX1_kindAt_17 : decode cX1_kindAt 17 = .ok (.getfield 9, 3) := by decide +kernel
theorem dX1_kindAt_20 : decode cX1_kindAt 20 = .ok (.arraylength, 1) := by decide +kernel
theorem dX1_kindAt_21 : decode cX1_kindAt 21 = .ok (.if_icmp .ge 15, 3) := by decide +kernel
theorem dX1_kindAt_24 : decode cX1_kindAt 24 = .ok (.aload_n 0, 1) := by decide +kernel
theorem dX1_kindAt_25 : decode cX1_kindAt 25 = .ok (.getfield 9, 3) := by decide +kernel
theorem dX1_kindAt_28 : decode cX1_kindAt 28 = .ok (.iload_n 1, 1) := by decide +kernel
theorem dX1_kindAt_29 : decode cX1_kindAt 29 = .ok (.bipush 13, 2) := by decide +kernel
theorem dX1_kindAt_31 : decode cX1_kindAt 31 = .ok (.imul, 1) := by decide +kernel
theorem dX1_kindAt_32 : decode cX1_kindAt 32 = .ok (.iaload, 1) := by decide +kernel
theorem dX1_kindAt_33 : decode cX1_kindAt 33 = .ok (.goto 4, 3) := by decide +kernel
set_option maxRecDepth 20000 in
theorem k_X1_kindAt (d : Nat) {T : CT} {σ : MS} {a : Nat} {k : Int} (ha : OB T a 1) (h_k : -2147483648 ≤ k ∧ k ≤ 2147483647) (hw : WT T σ) : Tn (d + 1) m_X1_kindAt 0 T σ [(0, .ref a), (1, .int (iI k))] [] (fun ro T2 σ2 => ∃ v : Int, ro = some (.int (iI v)) ∧ T = T2 ∧ σ = σ2 ∧ (-2147483648 ≤ v ∧ v ≤ 2147483647) ∧ (KND T a v)) := by
  refine tn_iload_n dX1_kindAt_0 rfl 1 rfl ?_
  refine tn_if_lt (tgt := 36) dX1_kindAt_1 (by decide) ⟨by omega, by omega⟩ (fun h1 => ?_) (fun h1 => ?_)
  · refine tn_iconst dX1_kindAt_36 ?_
    exact tn_iret rfl dX1_kindAt_37 ⟨_, rfl, rfl, rfl, by omega, knd_m1⟩
  · refine tn_iload_n dX1_kindAt_4 rfl 1 rfl ?_
    refine tn_aload_n dX1_kindAt_5 rfl 0 rfl ?_
    refine tn_getI (ci := 1) (i := 1) (n := 6) (t := σ.2.1 6 a) dX1_kindAt_6 rfl lay_1 (by decide) fl1_33 ha rfl rfl (rfl) ?_
    have g2 : ((0 : Int) ≤ σ.2.1 6 a ∧ σ.2.1 6 a ≤ 5000) ∧ ((T a).1 = 50 → σ.2.1 6 a ≤ 200) := wf_6 hw ha
    have g2x := g2.2
    replace g2 := g2.1
    clear g2x
    refine tn_icmp_ge (tgt := 36) dX1_kindAt_9 (by decide) ⟨by omega, by omega⟩ ⟨by omega, by omega⟩ (fun h3 => ?_) (fun h3 => ?_)
    · refine tn_iconst dX1_kindAt_36 ?_
      exact tn_iret rfl dX1_kindAt_37 ⟨_, rfl, rfl, rfl, by omega, knd_m1⟩
    · refine tn_iload_n dX1_kindAt_12 rfl 1 rfl ?_
      refine tn_bipush dX1_kindAt_13 (by decide) ?_
      refine tn_imul dX1_kindAt_15 ?_
      refine tn_aload_n dX1_kindAt_16 rfl 0 rfl ?_
      obtain ⟨x4, hx5, hl7, hk6a, hk6b⟩ := wf_5 hw ha
      have hk6i : IA T x4 := by unfold IA; omega
      have hk6c : CELL T a x4 := ⟨hk6a, hk6b⟩
      clear hk6a hk6b
      refine tn_getR (ci := 1) (i := 0) (n := 5) (x := x4) dX1_kindAt_17 rfl lay_1 (by decide) fl1_9 ha rfl rfl (hx5) ?_
      refine tn_alenX dX1_kindAt_20 (Or.inl hk6i) ?_
      refine tn_icmp_ge (tgt := 36) dX1_kindAt_21 (by decide) ⟨by omega, by omega⟩ ⟨by omega, by omega⟩ (fun h8 => ?_) (fun h8 => ?_)
      · refine tn_iconst dX1_kindAt_36 ?_
        exact tn_iret rfl dX1_kindAt_37 ⟨_, rfl, rfl, rfl, by omega, knd_m1⟩
      · refine tn_aload_n dX1_kindAt_24 rfl 0 rfl ?_
        refine tn_getR (ci := 1) (i := 0) (n := 5) (x := x4) dX1_kindAt_25 rfl lay_1 (by decide) fl1_9 ha rfl rfl (hx5) ?_
        refine tn_iload_n dX1_kindAt_28 rfl 1 rfl ?_
        refine tn_bipush dX1_kindAt_29 (by decide) ?_
        refine tn_imul dX1_kindAt_31 ?_
        refine tn_ialdX (z := k * 13) hw dX1_kindAt_32 hk6i (by omega) (by omega) (by omega) (fun v9 g10q g10 g10k => ?_)
        have g10u := hk6c.knd g10k (by omega)
        clear g10k g10q
        refine tn_goto (tgt := 37) dX1_kindAt_33 (by decide) ?_
        exact tn_iret rfl dX1_kindAt_37 ⟨_, rfl, rfl, rfl, by omega, by assumption⟩
end
section
theorem cd_X1_homeOf : Cond.code yX1_homeOf cX1_homeOf 3 (some .int) ∈ pWW := pw4 (List.mem_of_getElem? (i := 78) rfl) rfl
abbrev m_X1_homeOf : MT := (yX1_homeOf, cX1_homeOf, 3, (some .int))
theorem ok_X1_homeOf : pOk m_X1_homeOf := ⟨⟨cd_X1_homeOf, ini_1⟩, by decide +kernel, ⟨by decide +kernel, by decide +kernel⟩, Nat.le_of_ble_eq_true rfl⟩
theorem np_X1_homeOf : (parseMethodDescriptor yX1_homeOf.desc).map (fun d => d.parameters.length) = some 2 := by decide +kernel
theorem im_X1_homeOf : Cond.instanceMethod yX1_homeOf ∈ pWW := pw4 (List.mem_of_getElem? (i := 76) rfl) rfl
theorem se_X1_homeOf : Cond.selects RX1 yX1_homeOf yX1_homeOf ∈ pWW := pw4 (List.mem_of_getElem? (i := 77) rfl) rfl
theorem fl1_27 : Cond.fieldLink RX1 27 (TX1 10).1 (TX1 10).2.1 (TX1 10).2.2.1 ∈ pWW := pw1 (List.mem_of_getElem? (i := 123) rfl) rfl
theorem nl1_53 : (RX1, 53, yX11_at, "LineKeeper") ∈ nst_M := List.mem_of_getElem? (i := 14) rfl
theorem dX1_homeOf_0 : decode cX1_homeOf 0 = .ok (.aload_n 0, 1) := by decide +kernel
theorem dX1_homeOf_1 : decode cX1_homeOf 1 = .ok (.getfield 27, 3) := by decide +kernel
theorem dX1_homeOf_4 : decode cX1_homeOf 4 = .ok (.iload_n 1, 1) := by decide +kernel
theorem dX1_homeOf_5 : decode cX1_homeOf 5 = .ok (.bipush 12, 2) := by decide +kernel
theorem dX1_homeOf_7 : decode cX1_homeOf 7 = .ok (.imul, 1) := by decide +kernel
theorem dX1_homeOf_8 : decode cX1_homeOf 8 = .ok (.iload_n 2, 1) := by decide +kernel
theorem dX1_homeOf_9 : decode cX1_homeOf 9 = .ok (.iadd, 1) := by decide +kernel
theorem dX1_homeOf_10 : decode cX1_homeOf 10 = .ok (.invokestatic 53, 3) := by decide +kernel
theorem dX1_homeOf_13 : decode cX1_homeOf 13 = .ok (.ireturn, 1) := by decide +kernel
set_option maxRecDepth 20000 in
theorem k_X1_homeOf (d : Nat) {T : CT} {σ : MS} {a : Nat} {f : Int} {m : Int} (ha : OB T a 1) (h_f : -2147483648 ≤ f ∧ f ≤ 2147483647) (h_m : -2147483648 ≤ m ∧ m ≤ 2147483647) (hw : WT T σ) : Tn (d + 2) m_X1_homeOf 0 T σ [(0, .ref a), (1, .int (iI f)), (2, .int (iI m))] [] (fun ro T2 σ2 => ∃ v : Int, ro = some (.int (iI v)) ∧ T = T2 ∧ σ = σ2 ∧ (-2147483648 ≤ v ∧ v ≤ 2147483647)) := by
  refine tn_aload_n dX1_homeOf_0 rfl 0 rfl ?_
  obtain ⟨x1, hx2, hk3, hl4⟩ : ∃ x : Nat, σ.2.1 15 a = (x : Int) ∧ AR T x 1 144 144 := wf_15 hw ha
  have hk3i : IA T x1 := by unfold IA; omega
  refine tn_getR (ci := 1) (i := 10) (n := 15) (x := x1) dX1_homeOf_1 rfl lay_1 (by decide) fl1_27 ha rfl rfl (hx2) ?_
  refine tn_iload_n dX1_homeOf_4 rfl 1 rfl ?_
  refine tn_bipush dX1_homeOf_5 (by decide) ?_
  refine tn_imul dX1_homeOf_7 ?_
  refine tn_any (fun z5 g6 => ?_)
  have g6r : -2147483648 ≤ z5 ∧ z5 ≤ 2147483647 := g6
  refine tn_iload_n dX1_homeOf_8 rfl 2 rfl ?_
  refine tn_iadd dX1_homeOf_9 ?_
  refine tn_any (fun z7 g8 => ?_)
  have g8r : -2147483648 ≤ z7 ∧ z7 ≤ 2147483647 := g8
  refine tn_callSN (M := m_X1_homeOf) (pc := 10) (ix := 53) (M' := m_X11_at) (As := [.ref x1, .int (iI z7)]) (rest := []) dX1_homeOf_10 ok_X11_at stt_X11_at nl1_53 np_X11_at rfl (Nat.le_of_ble_eq_true rfl) (Nat.le_of_ble_eq_true rfl) rfl (k_X11_at (d) (T := T) (σ := σ) (x := x1) (i := z7) hk3i (by omega) (by omega) hw ) (fun r9 T11 σ10 gt12 hp => ?_)
  obtain ⟨v16, rfl, rfl, rfl, f13, f14, f15⟩ := hp
  clear gt12
  clear f14 f15
  show Tn _ _ 13 T σ [(0, .ref a), (1, .int (iI f)), (2, .int (iI m))] [.int (iI v16)] _
  exact tn_iret rfl dX1_homeOf_13 ⟨_, rfl, rfl, rfl, by omega⟩
end
section
theorem cd_X1_slotOf : Cond.code yX1_slotOf cX1_slotOf 5 (some .int) ∈ pWW := pw4 (List.mem_of_getElem? (i := 112) rfl) rfl
abbrev m_X1_slotOf : MT := (yX1_slotOf, cX1_slotOf, 5, (some .int))
theorem ok_X1_slotOf : pOk m_X1_slotOf := ⟨⟨cd_X1_slotOf, ini_1⟩, by decide +kernel, ⟨by decide +kernel, by decide +kernel⟩, Nat.le_of_ble_eq_true rfl⟩
theorem np_X1_slotOf : (parseMethodDescriptor yX1_slotOf.desc).map (fun d => d.parameters.length) = some 2 := by decide +kernel
theorem im_X1_slotOf : Cond.instanceMethod yX1_slotOf ∈ pWW := pw4 (List.mem_of_getElem? (i := 110) rfl) rfl
theorem se_X1_slotOf : Cond.selects RX1 yX1_slotOf yX1_slotOf ∈ pWW := pw4 (List.mem_of_getElem? (i := 111) rfl) rfl
theorem dX1_slotOf_0 : decode cX1_slotOf 0 = .ok (.iconst 1, 1) := by decide +kernel
theorem dX1_slotOf_1 : decode cX1_slotOf 1 = .ok (.iload_n 2, 1) := by decide +kernel
theorem dX1_slotOf_2 : decode cX1_slotOf 2 = .ok (.iadd, 1) := by decide +kernel
theorem dX1_slotOf_3 : decode cX1_slotOf 3 = .ok (.istore_n 3, 1) := by decide +kernel
theorem dX1_slotOf_4 : decode cX1_slotOf 4 = .ok (.iconst 0, 1) := by decide +kernel
theorem dX1_slotOf_5 : decode cX1_slotOf 5 = .ok (.istore 4, 2) := by decide +kernel
theorem dX1_slotOf_7 : decode cX1_slotOf 7 = .ok (.iload 4, 2) := by decide +kernel
theorem dX1_slotOf_9 : decode cX1_slotOf 9 = .ok (.iload_n 1, 1) := by decide +kernel
theorem dX1_slotOf_10 : decode cX1_slotOf 10 = .ok (.if_icmp .ge 29, 3) := by decide +kernel
theorem dX1_slotOf_13 : decode cX1_slotOf 13 = .ok (.iload 4, 2) := by decide +kernel
theorem dX1_slotOf_15 : decode cX1_slotOf 15 = .ok (.aload_n 0, 1) := by decide +kernel
theorem dX1_slotOf_16 : decode cX1_slotOf 16 = .ok (.getfield 24, 3) := by decide +kernel
theorem dX1_slotOf_19 : decode cX1_slotOf 19 = .ok (.arraylength, 1) := by decide +kernel
theorem dX1_slotOf_20 : decode cX1_slotOf 20 = .ok (.if_icmp .ge 19, 3) := by decide +kernel
theorem dX1_slotOf_23 : decode cX1_slotOf 23 = .ok (.iload_n 3, 1) := by decide +kernel
theorem dX1_slotOf_24 : decode cX1_slotOf 24 = .ok (.aload_n 0, 1) := by decide +kernel
theorem dX1_slotOf_25 : decode cX1_slotOf 25 = .ok (.getfield 24, 3) := by decide +kernel
theorem dX1_slotOf_28 : decode cX1_slotOf 28 = .ok (.iload 4, 2) := by decide +kernel
theorem dX1_slotOf_30 : decode cX1_slotOf 30 = .ok (.iaload, 1) := by decide +kernel
theorem dX1_slotOf_31 : decode cX1_slotOf 31 = .ok (.iadd, 1) := by decide +kernel
theorem dX1_slotOf_32 : decode cX1_slotOf 32 = .ok (.istore_n 3, 1) := by decide +kernel
theorem dX1_slotOf_33 : decode cX1_slotOf 33 = .ok (.iinc 4 1, 3) := by decide +kernel
theorem dX1_slotOf_36 : decode cX1_slotOf 36 = .ok (.goto (-29), 3) := by decide +kernel
set_option maxRecDepth 20000 in
theorem l_X1_slotOf_7 (d : Nat) {T : CT} {σ : MS} {a : Nat} {c1 : Int} {mg : Int} {post : Option Value → CT → MS → Prop} (h_a : OB T a 1) (r_c1 : -2147483648 ≤ c1 ∧ c1 ≤ 2147483647) (hw : WT T σ) (hx_39 : ∀ (i3 : Int) (i4 : Int) , (-2147483648 ≤ i3 ∧ i3 ≤ 2147483647) → (0 ≤ i4 ∧ i4 ≤ 12) → (mg + 1 ≤ i3 ∧ i3 ≤ 1 + mg + 12 * i4 ∧ -2147483000 ≤ mg ∧ mg ≤ 2147483000) → Tn (d + 1) m_X1_slotOf 39 T σ [(0, .ref a), (1, .int (iI c1)), (3, .int (iI i3)), (4, .int (iI i4))] [] post) : ∀ (n : Nat) (i3 : Int) (i4 : Int) , (-2147483648 ≤ i3 ∧ i3 ≤ 2147483647) → (0 ≤ i4 ∧ i4 ≤ 12) → (mg + 1 ≤ i3 ∧ i3 ≤ 1 + mg + 12 * i4 ∧ -2147483000 ≤ mg ∧ mg ≤ 2147483000) → (2147483700 - i4).toNat = n → Tn (d + 1) m_X1_slotOf 7 T σ [(0, .ref a), (1, .int (iI c1)), (3, .int (iI i3)), (4, .int (iI i4))] [] post := by
  intro n
  induction n using Nat.strongRecOn with
  | _ n ih =>
    intro i3 i4 r_i3 r_i4 h0 hm
    refine tn_iload dX1_slotOf_7 3 rfl ?_
    refine tn_iload_n dX1_slotOf_9 rfl 1 rfl ?_
    refine tn_icmp_ge (tgt := 39) dX1_slotOf_10 (by decide) ⟨by omega, by omega⟩ ⟨by omega, by omega⟩ (fun h1 => ?_) (fun h1 => ?_)
    · exact tn_sub [0, 1, 2, 3] rfl (hx_39 (i3) (i4) (by omega) (by omega) (by omega))
    · refine tn_iload dX1_slotOf_13 3 rfl ?_
      refine tn_aload_n dX1_slotOf_15 rfl 0 rfl ?_
      obtain ⟨x2, hx3, hk4, hl5⟩ : ∃ x : Nat, σ.2.1 14 a = (x : Int) ∧ AR T x 11 12 12 := wf_14 hw h_a
      have hk4i : IA T x2 := by unfold IA; omega
      refine tn_getR (ci := 1) (i := 9) (n := 14) (x := x2) dX1_slotOf_16 rfl lay_1 (by decide) fl1_24 h_a rfl rfl (hx3) ?_
      refine tn_alenX dX1_slotOf_19 (Or.inl hk4i) ?_
      refine tn_icmp_ge (tgt := 39) dX1_slotOf_20 (by decide) ⟨by omega, by omega⟩ ⟨by omega, by omega⟩ (fun h6 => ?_) (fun h6 => ?_)
      · exact tn_sub [0, 1, 2, 3] rfl (hx_39 (i3) (i4) (by omega) (by omega) (by omega))
      · refine tn_iload_n dX1_slotOf_23 rfl 2 rfl ?_
        refine tn_aload_n dX1_slotOf_24 rfl 0 rfl ?_
        refine tn_getR (ci := 1) (i := 9) (n := 14) (x := x2) dX1_slotOf_25 rfl lay_1 (by decide) fl1_24 h_a rfl rfl (hx3) ?_
        refine tn_iload dX1_slotOf_28 3 rfl ?_
        refine tn_ialdX (z := i4) hw dX1_slotOf_30 hk4i (by omega) (by omega) (by omega) (fun v7 g8q g8 g8k => ?_)
        have g8n := g8k.2.1 hk4
        clear g8k g8q
        refine tn_iadd dX1_slotOf_31 ?_
        refine tn_istore_n (L' := [(3, .int (iI (i3 + v7))), (0, .ref a), (1, .int (iI c1)), (4, .int (iI i4))]) dX1_slotOf_32 rfl (by decide) rfl ?_
        refine tn_iinc (q0 := 3) (L' := [(4, .int (iI (i4 + 1))), (3, .int (iI (i3 + v7))), (0, .ref a), (1, .int (iI c1))]) dX1_slotOf_33 rfl (by decide) rfl ?_
        refine tn_goto (tgt := 7) dX1_slotOf_36 (by decide) ?_
        exact tn_sub [2, 3, 1, 0] rfl (ih _ (by omega) (i3 + v7) (i4 + 1) (by omega) (by omega) (by omega) rfl)
theorem dX1_slotOf_39 : decode cX1_slotOf 39 = .ok (.iload_n 3, 1) := by decide +kernel
theorem dX1_slotOf_40 : decode cX1_slotOf 40 = .ok (.ireturn, 1) := by decide +kernel
set_option maxRecDepth 20000 in
theorem k_X1_slotOf (d : Nat) {T : CT} {σ : MS} {a : Nat} {f : Int} {m : Int} (ha : OB T a 1) (h_f : -2147483648 ≤ f ∧ f ≤ 2147483647) (h_m : -2147483648 ≤ m ∧ m ≤ 2147483647) (hw : WT T σ) (hm : -2147483000 ≤ m ∧ m ≤ 2147483000) : Tn (d + 1) m_X1_slotOf 0 T σ [(0, .ref a), (1, .int (iI f)), (2, .int (iI m))] [] (fun ro T2 σ2 => ∃ v : Int, ro = some (.int (iI v)) ∧ T = T2 ∧ σ = σ2 ∧ (-2147483648 ≤ v ∧ v ≤ 2147483647) ∧ (1 + m ≤ v ∧ v ≤ 145 + m)) := by
  refine tn_iconst dX1_slotOf_0 ?_
  refine tn_iload_n dX1_slotOf_1 rfl 2 rfl ?_
  refine tn_iadd dX1_slotOf_2 ?_
  refine tn_istore_n (L' := [(3, .int (iI (1 + m))), (0, .ref a), (1, .int (iI f)), (2, .int (iI m))]) dX1_slotOf_3 rfl (by decide) rfl ?_
  refine tn_iconst dX1_slotOf_4 ?_
  refine tn_istore (L' := [(4, .int (iI 0)), (3, .int (iI (1 + m))), (0, .ref a), (1, .int (iI f)), (2, .int (iI m))]) dX1_slotOf_5 (by decide) rfl ?_
  refine tn_sub [2, 3, 1, 0] rfl (l_X1_slotOf_7 (d) (T := T) (σ := σ) (a := a) (c1 := f) (mg := m) ha (by omega) hw (fun i31 i42 r8 r9 f10 => ?_) _ (1 + m) (0) (by omega) (by omega) (by omega) rfl)
  show Tn _ _ 39 T σ [(0, .ref a), (1, .int (iI f)), (3, .int (iI i31)), (4, .int (iI i42))] [] _
  refine tn_iload_n dX1_slotOf_39 rfl 2 rfl ?_
  exact tn_iret rfl dX1_slotOf_40 ⟨_, rfl, rfl, rfl, by omega, by omega⟩
end
section
theorem cd_X1_hasName : Cond.code yX1_hasName cX1_hasName 3 (some .boolean) ∈ pWW := pw4 (List.mem_of_getElem? (i := 104) rfl) rfl
abbrev m_X1_hasName : MT := (yX1_hasName, cX1_hasName, 3, (some .boolean))
theorem ok_X1_hasName : pOk m_X1_hasName := ⟨⟨cd_X1_hasName, ini_1⟩, by decide +kernel, ⟨by decide +kernel, by decide +kernel⟩, Nat.le_of_ble_eq_true rfl⟩
theorem np_X1_hasName : (parseMethodDescriptor yX1_hasName.desc).map (fun d => d.parameters.length) = some 2 := by decide +kernel
theorem im_X1_hasName : Cond.instanceMethod yX1_hasName ∈ pWW := pw4 (List.mem_of_getElem? (i := 102) rfl) rfl
theorem se_X1_hasName : Cond.selects RX1 yX1_hasName yX1_hasName ∈ pWW := pw4 (List.mem_of_getElem? (i := 103) rfl) rfl
theorem dX1_hasName_0 : decode cX1_hasName 0 = .ok (.iload_n 1, 1) := by decide +kernel
theorem dX1_hasName_1 : decode cX1_hasName 1 = .ok (.ifCond .lt 31, 3) := by decide +kernel
theorem dX1_hasName_32 : decode cX1_hasName 32 = .ok (.iconst 0, 1) := by decide +kernel
theorem dX1_hasName_33 : decode cX1_hasName 33 = .ok (.ireturn, 1) := by decide +kernel
theorem dX1_hasName_4 : decode cX1_hasName 4 = .ok (.iload_n 1, 1) := by decide +kernel
theorem dX1_hasName_5 : decode cX1_hasName 5 = .ok (.aload_n 0, 1) := by decide +kernel
theorem dX1_hasName_6 : decode cX1_hasName 6 = .ok (.getfield 46, 3) := by decide +kernel
theorem dX1_hasName_9 : decode cX1_hasName 9 = .ok (.if_icmp .ge 23, 3) := by decide +kernel
theorem dX1_hasName_12 : decode cX1_hasName 12 = .ok (.iload_n 2, 1) := by decide +kernel
theorem dX1_hasName_13 : decode cX1_hasName 13 = .ok (.ifCond .lt 19, 3) := by decide +kernel
theorem dX1_hasName_16 : decode cX1_hasName 16 = .ok (.iload_n 2, 1) := by decide +kernel
theorem dX1_hasName_17 : decode cX1_hasName 17 = .ok (.aload_n 0, 1) := by decide +kernel
theorem dX1_hasName_18 : decode cX1_hasName 18 = .ok (.getfield 24, 3) := by decide +kernel
theorem dX1_hasName_21 : decode cX1_hasName 21 = .ok (.iload_n 1, 1) := by decide +kernel
theorem dX1_hasName_22 : decode cX1_hasName 22 = .ok (.invokestatic 53, 3) := by decide +kernel
theorem dX1_hasName_25 : decode cX1_hasName 25 = .ok (.if_icmp .ge 7, 3) := by decide +kernel
theorem dX1_hasName_28 : decode cX1_hasName 28 = .ok (.iconst 1, 1) := by decide +kernel
theorem dX1_hasName_29 : decode cX1_hasName 29 = .ok (.goto 4, 3) := by decide +kernel
set_option maxRecDepth 20000 in
theorem k_X1_hasName (d : Nat) {T : CT} {σ : MS} {a : Nat} {f : Int} {m : Int} (ha : OB T a 1) (h_f : -2147483648 ≤ f ∧ f ≤ 2147483647) (h_m : -2147483648 ≤ m ∧ m ≤ 2147483647) (hw : WT T σ) : Tn (d + 2) m_X1_hasName 0 T σ [(0, .ref a), (1, .int (iI f)), (2, .int (iI m))] [] (fun ro T2 σ2 => ∃ v : Int, ro = some (.int (iI v)) ∧ T = T2 ∧ σ = σ2 ∧ (v = 0 ∨ v = 1)) := by
  refine tn_iload_n dX1_hasName_0 rfl 1 rfl ?_
  refine tn_if_lt (tgt := 32) dX1_hasName_1 (by decide) ⟨by omega, by omega⟩ (fun h1 => ?_) (fun h1 => ?_)
  · refine tn_iconst dX1_hasName_32 ?_
    exact tn_zret (v := 0) rfl (by decide) dX1_hasName_33 ⟨_, rfl, rfl, rfl, by omega⟩
  · refine tn_iload_n dX1_hasName_4 rfl 1 rfl ?_
    refine tn_aload_n dX1_hasName_5 rfl 0 rfl ?_
    refine tn_getI (ci := 1) (i := 5) (n := 10) (t := σ.2.1 10 a) dX1_hasName_6 rfl lay_1 (by decide) fl1_46 ha rfl rfl (rfl) ?_
    have g2 : ((0 : Int) ≤ σ.2.1 10 a ∧ σ.2.1 10 a ≤ 12) := wf_10 hw ha
    refine tn_icmp_ge (tgt := 32) dX1_hasName_9 (by decide) ⟨by omega, by omega⟩ ⟨by omega, by omega⟩ (fun h3 => ?_) (fun h3 => ?_)
    · refine tn_iconst dX1_hasName_32 ?_
      exact tn_zret (v := 0) rfl (by decide) dX1_hasName_33 ⟨_, rfl, rfl, rfl, by omega⟩
    · refine tn_iload_n dX1_hasName_12 rfl 2 rfl ?_
      refine tn_if_lt (tgt := 32) dX1_hasName_13 (by decide) ⟨by omega, by omega⟩ (fun h4 => ?_) (fun h4 => ?_)
      · refine tn_iconst dX1_hasName_32 ?_
        exact tn_zret (v := 0) rfl (by decide) dX1_hasName_33 ⟨_, rfl, rfl, rfl, by omega⟩
      · refine tn_iload_n dX1_hasName_16 rfl 2 rfl ?_
        refine tn_aload_n dX1_hasName_17 rfl 0 rfl ?_
        obtain ⟨x5, hx6, hk7, hl8⟩ : ∃ x : Nat, σ.2.1 14 a = (x : Int) ∧ AR T x 11 12 12 := wf_14 hw ha
        have hk7i : IA T x5 := by unfold IA; omega
        refine tn_getR (ci := 1) (i := 9) (n := 14) (x := x5) dX1_hasName_18 rfl lay_1 (by decide) fl1_24 ha rfl rfl (hx6) ?_
        refine tn_iload_n dX1_hasName_21 rfl 1 rfl ?_
        refine tn_callSN (M := m_X1_hasName) (pc := 22) (ix := 53) (M' := m_X11_at) (As := [.ref x5, .int (iI f)]) (rest := [.int (iI m)]) dX1_hasName_22 ok_X11_at stt_X11_at nl1_53 np_X11_at rfl (Nat.le_of_ble_eq_true rfl) (Nat.le_of_ble_eq_true rfl) rfl (k_X11_at (d) (T := T) (σ := σ) (x := x5) (i := f) hk7i (by omega) (by omega) hw ) (fun r9 T11 σ10 gt12 hp => ?_)
        obtain ⟨v16, rfl, rfl, rfl, f13, f14, f15⟩ := hp
        clear gt12
        have f14n := f14.2.1 hk7
        clear f14 f15
        show Tn _ _ 25 T σ [(0, .ref a), (1, .int (iI f)), (2, .int (iI m))] [.int (iI v16), .int (iI m)] _
        refine tn_icmp_ge (tgt := 32) dX1_hasName_25 (by decide) ⟨by omega, by omega⟩ ⟨by omega, by omega⟩ (fun h17 => ?_) (fun h17 => ?_)
        · refine tn_iconst dX1_hasName_32 ?_
          exact tn_zret (v := 0) rfl (by decide) dX1_hasName_33 ⟨_, rfl, rfl, rfl, by omega⟩
        · refine tn_iconst dX1_hasName_28 ?_
          refine tn_goto (tgt := 33) dX1_hasName_29 (by decide) ?_
          exact tn_zret (v := 1) rfl (by decide) dX1_hasName_33 ⟨_, rfl, rfl, rfl, by omega⟩
end
section
theorem cd_X1_lastOperand : Cond.code yX1_lastOperand cX1_lastOperand 5 none ∈ pWW := pw3 (List.mem_of_getElem? (i := 189) rfl) rfl
abbrev m_X1_lastOperand : MT := (yX1_lastOperand, cX1_lastOperand, 5, none)
theorem ok_X1_lastOperand : pOk m_X1_lastOperand := ⟨⟨cd_X1_lastOperand, ini_1⟩, by decide +kernel, ⟨by decide +kernel, by decide +kernel⟩, Nat.le_of_ble_eq_true rfl⟩
theorem np_X1_lastOperand : (parseMethodDescriptor yX1_lastOperand.desc).map (fun d => d.parameters.length) = some 3 := by decide +kernel
theorem im_X1_lastOperand : Cond.instanceMethod yX1_lastOperand ∈ pWW := pw3 (List.mem_of_getElem? (i := 187) rfl) rfl
theorem se_X1_lastOperand : Cond.selects RX1 yX1_lastOperand yX1_lastOperand ∈ pWW := pw3 (List.mem_of_getElem? (i := 188) rfl) rfl
theorem dX1_lastOperand_0 : decode cX1_lastOperand 0 = .ok (.aload_n 0, 1) := by decide +kernel
theorem dX1_lastOperand_1 : decode cX1_lastOperand 1 = .ok (.getfield 33, 3) := by decide +kernel
theorem dX1_lastOperand_4 : decode cX1_lastOperand 4 = .ok (.iconst 1, 1) := by decide +kernel
theorem dX1_lastOperand_5 : decode cX1_lastOperand 5 = .ok (.isub, 1) := by decide +kernel
theorem dX1_lastOperand_6 : decode cX1_lastOperand 6 = .ok (.bipush 13, 2) := by decide +kernel
theorem dX1_lastOperand_8 : decode cX1_lastOperand 8 = .ok (.imul, 1) := by decide +kernel
theorem dX1_lastOperand_9 : decode cX1_lastOperand 9 = .ok (.iconst 3, 1) := by decide +kernel
theorem dX1_lastOperand_10 : decode cX1_lastOperand 10 = .ok (.iadd, 1) := by decide +kernel
theorem dX1_lastOperand_11 : decode cX1_lastOperand 11 = .ok (.iconst 2, 1) := by decide +kernel
theorem dX1_lastOperand_12 : decode cX1_lastOperand 12 = .ok (.iload_n 1, 1) := by decide +kernel
theorem dX1_lastOperand_13 : decode cX1_lastOperand 13 = .ok (.imul, 1) := by decide +kernel
theorem dX1_lastOperand_14 : decode cX1_lastOperand 14 = .ok (.iadd, 1) := by decide +kernel
theorem dX1_lastOperand_15 : decode cX1_lastOperand 15 = .ok (.istore 4, 2) := by decide +kernel
theorem dX1_lastOperand_17 : decode cX1_lastOperand 17 = .ok (.iload_n 1, 1) := by decide +kernel
theorem dX1_lastOperand_18 : decode cX1_lastOperand 18 = .ok (.ifCond .lt 43, 3) := by decide +kernel
theorem dX1_lastOperand_61 : decode cX1_lastOperand 61 = .ok (.return_, 1) := by decide +kernel
theorem dX1_lastOperand_21 : decode cX1_lastOperand 21 = .ok (.iload_n 1, 1) := by decide +kernel
theorem dX1_lastOperand_22 : decode cX1_lastOperand 22 = .ok (.iconst 4, 1) := by decide +kernel
theorem dX1_lastOperand_23 : decode cX1_lastOperand 23 = .ok (.if_icmp .ge 38, 3) := by decide +kernel
theorem dX1_lastOperand_26 : decode cX1_lastOperand 26 = .ok (.iload 4, 2) := by decide +kernel
theorem dX1_lastOperand_28 : decode cX1_lastOperand 28 = .ok (.ifCond .lt 33, 3) := by decide +kernel
theorem dX1_lastOperand_31 : decode cX1_lastOperand 31 = .ok (.iload 4, 2) := by decide +kernel
theorem dX1_lastOperand_33 : decode cX1_lastOperand 33 = .ok (.iconst 1, 1) := by decide +kernel
theorem dX1_lastOperand_34 : decode cX1_lastOperand 34 = .ok (.iadd, 1) := by decide +kernel
theorem dX1_lastOperand_35 : decode cX1_lastOperand 35 = .ok (.aload_n 0, 1) := by decide +kernel
theorem dX1_lastOperand_36 : decode cX1_lastOperand 36 = .ok (.getfield 9, 3) := by decide +kernel
theorem dX1_lastOperand_39 : decode cX1_lastOperand 39 = .ok (.arraylength, 1) := by decide +kernel
theorem dX1_lastOperand_40 : decode cX1_lastOperand 40 = .ok (.if_icmp .ge 21, 3) := by decide +kernel
theorem dX1_lastOperand_43 : decode cX1_lastOperand 43 = .ok (.aload_n 0, 1) := by decide +kernel
theorem dX1_lastOperand_44 : decode cX1_lastOperand 44 = .ok (.getfield 9, 3) := by decide +kernel
theorem dX1_lastOperand_47 : decode cX1_lastOperand 47 = .ok (.iload 4, 2) := by decide +kernel
theorem dX1_lastOperand_49 : decode cX1_lastOperand 49 = .ok (.iload_n 2, 1) := by decide +kernel
theorem dX1_lastOperand_50 : decode cX1_lastOperand 50 = .ok (.iastore, 1) := by decide +kernel
theorem dX1_lastOperand_51 : decode cX1_lastOperand 51 = .ok (.aload_n 0, 1) := by decide +kernel
theorem dX1_lastOperand_52 : decode cX1_lastOperand 52 = .ok (.getfield 9, 3) := by decide +kernel
theorem dX1_lastOperand_55 : decode cX1_lastOperand 55 = .ok (.iload 4, 2) := by decide +kernel
theorem dX1_lastOperand_57 : decode cX1_lastOperand 57 = .ok (.iconst 1, 1) := by decide +kernel
theorem dX1_lastOperand_58 : decode cX1_lastOperand 58 = .ok (.iadd, 1) := by decide +kernel
theorem dX1_lastOperand_59 : decode cX1_lastOperand 59 = .ok (.iload_n 3, 1) := by decide +kernel
theorem dX1_lastOperand_60 : decode cX1_lastOperand 60 = .ok (.iastore, 1) := by decide +kernel
set_option maxRecDepth 20000 in
theorem k_X1_lastOperand (d : Nat) {T : CT} {σ : MS} {a : Nat} {i : Int} {k : Int} {y : Int} (ha : OB T a 1) (h_i : -2147483648 ≤ i ∧ i ≤ 2147483647) (h_k : -2147483648 ≤ k ∧ k ≤ 2147483647) (h_y : -2147483648 ≤ y ∧ y ≤ 2147483647) (hw : WT T σ) : Tn (d + 1) m_X1_lastOperand 0 T σ [(0, .ref a), (1, .int (iI i)), (2, .int (iI k)), (3, .int (iI y))] [] (fun ro T2 σ2 => ro = none ∧ T = T2 ∧ WT T2 σ2 ∧ FrC T [] σ σ2) := by
  refine tn_aload_n dX1_lastOperand_0 rfl 0 rfl ?_
  refine tn_getI (ci := 1) (i := 1) (n := 6) (t := σ.2.1 6 a) dX1_lastOperand_1 rfl lay_1 (by decide) fl1_33 ha rfl rfl (rfl) ?_
  have g1 : ((0 : Int) ≤ σ.2.1 6 a ∧ σ.2.1 6 a ≤ 5000) ∧ ((T a).1 = 50 → σ.2.1 6 a ≤ 200) := wf_6 hw ha
  have g1x := g1.2
  replace g1 := g1.1
  clear g1x
  refine tn_iconst dX1_lastOperand_4 ?_
  refine tn_isub dX1_lastOperand_5 ?_
  refine tn_bipush dX1_lastOperand_6 (by decide) ?_
  refine tn_imul dX1_lastOperand_8 ?_
  refine tn_iconst dX1_lastOperand_9 ?_
  refine tn_iadd dX1_lastOperand_10 ?_
  refine tn_iconst dX1_lastOperand_11 ?_
  refine tn_iload_n dX1_lastOperand_12 rfl 1 rfl ?_
  refine tn_imul dX1_lastOperand_13 ?_
  refine tn_iadd dX1_lastOperand_14 ?_
  refine tn_istore (L' := [(4, .int (iI (((((σ.2.1 6 a) - 1) * 13) + 3) + (2 * i)))), (0, .ref a), (1, .int (iI i)), (2, .int (iI k)), (3, .int (iI y))]) dX1_lastOperand_15 (by decide) rfl ?_
  refine tn_iload_n dX1_lastOperand_17 rfl 2 rfl ?_
  refine tn_if_lt (tgt := 61) dX1_lastOperand_18 (by decide) ⟨by omega, by omega⟩ (fun h2 => ?_) (fun h2 => ?_)
  · exact tn_vret rfl dX1_lastOperand_61 ⟨rfl, rfl, hw, FrC.rfl⟩
  · refine tn_iload_n dX1_lastOperand_21 rfl 2 rfl ?_
    refine tn_iconst dX1_lastOperand_22 ?_
    refine tn_icmp_ge (tgt := 61) dX1_lastOperand_23 (by decide) ⟨by omega, by omega⟩ ⟨by decide, by decide⟩ (fun h3 => ?_) (fun h3 => ?_)
    · exact tn_vret rfl dX1_lastOperand_61 ⟨rfl, rfl, hw, FrC.rfl⟩
    · refine tn_iload dX1_lastOperand_26 0 rfl ?_
      refine tn_if_lt (tgt := 61) dX1_lastOperand_28 (by decide) ⟨by omega, by omega⟩ (fun h4 => ?_) (fun h4 => ?_)
      · exact tn_vret rfl dX1_lastOperand_61 ⟨rfl, rfl, hw, FrC.rfl⟩
      · refine tn_iload dX1_lastOperand_31 0 rfl ?_
        refine tn_iconst dX1_lastOperand_33 ?_
        refine tn_iadd dX1_lastOperand_34 ?_
        refine tn_aload_n dX1_lastOperand_35 rfl 1 rfl ?_
        obtain ⟨x5, hx6, hl8, hk7a, hk7b⟩ := wf_5 hw ha
        have hk7i : IA T x5 := by unfold IA; omega
        have hk7c : CELL T a x5 := ⟨hk7a, hk7b⟩
        clear hk7a hk7b
        refine tn_getR (ci := 1) (i := 0) (n := 5) (x := x5) dX1_lastOperand_36 rfl lay_1 (by decide) fl1_9 ha rfl rfl (hx6) ?_
        refine tn_alenX dX1_lastOperand_39 (Or.inl hk7i) ?_
        refine tn_icmp_ge (tgt := 61) dX1_lastOperand_40 (by decide) ⟨by omega, by omega⟩ ⟨by omega, by omega⟩ (fun h9 => ?_) (fun h9 => ?_)
        · exact tn_vret rfl dX1_lastOperand_61 ⟨rfl, rfl, hw, FrC.rfl⟩
        · refine tn_aload_n dX1_lastOperand_43 rfl 1 rfl ?_
          refine tn_getR (ci := 1) (i := 0) (n := 5) (x := x5) dX1_lastOperand_44 rfl lay_1 (by decide) fl1_9 ha rfl rfl (hx6) ?_
          refine tn_iload dX1_lastOperand_47 0 rfl ?_
          refine tn_iload_n dX1_lastOperand_49 rfl 3 rfl ?_
          refine tn_iast (z := ((((σ.2.1 6 a) - 1) * 13) + 3) + (2 * i)) (v := k) dX1_lastOperand_50 hk7i (by omega) (by omega) (by omega) ?_
          refine tn_aload_n dX1_lastOperand_51 rfl 1 rfl ?_
          refine tn_getR (ci := 1) (i := 0) (n := 5) (x := x5) dX1_lastOperand_52 rfl lay_1 (by decide) fl1_9 ha rfl rfl (rc_a (Or.inl (by decide)) (hx6)) ?_
          refine tn_iload dX1_lastOperand_55 0 rfl ?_
          refine tn_iconst dX1_lastOperand_57 ?_
          refine tn_iadd dX1_lastOperand_58 ?_
          refine tn_iload_n dX1_lastOperand_59 rfl 4 rfl ?_
          refine tn_iast (z := (((((σ.2.1 6 a) - 1) * 13) + 3) + (2 * i)) + 1) (v := y) dX1_lastOperand_60 hk7i (by omega) (by omega) (by omega) ?_
          exact tn_vret rfl dX1_lastOperand_61 ⟨rfl, rfl, ((hw.arr (Or.inl hk7i) (hk7c.vok (by omega) (fun q r => by omega))).arr (Or.inl hk7i) (hk7c.vok (by omega) (fun q r => by omega))), ((FrC.rfl.arr (hk_no (CELL.nh hk7c))).arr (hk_no (CELL.nh hk7c)))⟩
end
section
theorem cd_X1_rowOfLabel : Cond.code yX1_rowOfLabel cX1_rowOfLabel 3 (some .int) ∈ pWW := pw4 (List.mem_of_getElem? (i := 31) rfl) rfl
abbrev m_X1_rowOfLabel : MT := (yX1_rowOfLabel, cX1_rowOfLabel, 3, (some .int))
theorem ok_X1_rowOfLabel : pOk m_X1_rowOfLabel := ⟨⟨cd_X1_rowOfLabel, ini_1⟩, by decide +kernel, ⟨by decide +kernel, by decide +kernel⟩, Nat.le_of_ble_eq_true rfl⟩
theorem np_X1_rowOfLabel : (parseMethodDescriptor yX1_rowOfLabel.desc).map (fun d => d.parameters.length) = some 1 := by decide +kernel
theorem im_X1_rowOfLabel : Cond.instanceMethod yX1_rowOfLabel ∈ pWW := pw4 (List.mem_of_getElem? (i := 30) rfl) rfl
theorem se_X1_rowOfLabel : Cond.selects RX1 yX1_rowOfLabel yX1_rowOfLabel ∈ pWW := pws (List.mem_map.mpr ⟨_, lw_pin 35 rfl, rfl⟩) rfl
theorem ml1_86 : Cond.methodLink RX1 86 yX1_get ∈ pWW := pw4 (List.mem_of_getElem? (i := 5) rfl) rfl
theorem dX1_rowOfLabel_0 : decode cX1_rowOfLabel 0 = .ok (.iconst 0, 1) := by decide +kernel
theorem dX1_rowOfLabel_1 : decode cX1_rowOfLabel 1 = .ok (.istore_n 2, 1) := by decide +kernel
theorem dX1_rowOfLabel_2 : decode cX1_rowOfLabel 2 = .ok (.iload_n 2, 1) := by decide +kernel
theorem dX1_rowOfLabel_3 : decode cX1_rowOfLabel 3 = .ok (.aload_n 0, 1) := by decide +kernel
theorem dX1_rowOfLabel_4 : decode cX1_rowOfLabel 4 = .ok (.getfield 33, 3) := by decide +kernel
theorem dX1_rowOfLabel_7 : decode cX1_rowOfLabel 7 = .ok (.if_icmp .ge 32, 3) := by decide +kernel
theorem dX1_rowOfLabel_10 : decode cX1_rowOfLabel 10 = .ok (.aload_n 0, 1) := by decide +kernel
theorem dX1_rowOfLabel_11 : decode cX1_rowOfLabel 11 = .ok (.iload_n 2, 1) := by decide +kernel
theorem dX1_rowOfLabel_12 : decode cX1_rowOfLabel 12 = .ok (.iconst 0, 1) := by decide +kernel
theorem dX1_rowOfLabel_13 : decode cX1_rowOfLabel 13 = .ok (.invokevirtual 86, 3) := by decide +kernel
theorem dX1_rowOfLabel_16 : decode cX1_rowOfLabel 16 = .ok (.bipush 13, 2) := by decide +kernel
theorem dX1_rowOfLabel_18 : decode cX1_rowOfLabel 18 = .ok (.if_icmp .ne 15, 3) := by decide +kernel
theorem dX1_rowOfLabel_33 : decode cX1_rowOfLabel 33 = .ok (.iinc 2 1, 3) := by decide +kernel
theorem dX1_rowOfLabel_36 : decode cX1_rowOfLabel 36 = .ok (.goto (-34), 3) := by decide +kernel
theorem dX1_rowOfLabel_21 : decode cX1_rowOfLabel 21 = .ok (.aload_n 0, 1) := by decide +kernel
theorem dX1_rowOfLabel_22 : decode cX1_rowOfLabel 22 = .ok (.iload_n 2, 1) := by decide +kernel
theorem dX1_rowOfLabel_23 : decode cX1_rowOfLabel 23 = .ok (.iconst 1, 1) := by decide +kernel
theorem dX1_rowOfLabel_24 : decode cX1_rowOfLabel 24 = .ok (.invokevirtual 86, 3) := by decide +kernel
theorem dX1_rowOfLabel_27 : decode cX1_rowOfLabel 27 = .ok (.iload_n 1, 1) := by decide +kernel
theorem dX1_rowOfLabel_28 : decode cX1_rowOfLabel 28 = .ok (.if_icmp .ne 5, 3) := by decide +kernel
set_option maxRecDepth 20000 in
theorem l_X1_rowOfLabel_2 (d : Nat) {T : CT} {σ : MS} {a : Nat} {c1 : Int} {post : Option Value → CT → MS → Prop} (h_a : OB T a 1) (r_c1 : -2147483648 ≤ c1 ∧ c1 ≤ 2147483647) (hw : WT T σ) (hx_31 : ∀ (i2 : Int) , (0 ≤ i2 ∧ i2 ≤ 2147483647) → Tn (d + 2) m_X1_rowOfLabel 31 T σ [(0, .ref a), (1, .int (iI c1)), (2, .int (iI i2))] [] post) (hx_39 : ∀ (i2 : Int) , (0 ≤ i2 ∧ i2 ≤ 2147483647) → Tn (d + 2) m_X1_rowOfLabel 39 T σ [(0, .ref a), (1, .int (iI c1)), (2, .int (iI i2))] [] post) : ∀ (n : Nat) (i2 : Int) , (0 ≤ i2 ∧ i2 ≤ 2147483647) → (2147483700 - i2).toNat = n → Tn (d + 2) m_X1_rowOfLabel 2 T σ [(0, .ref a), (1, .int (iI c1)), (2, .int (iI i2))] [] post := by
  intro n
  induction n using Nat.strongRecOn with
  | _ n ih =>
    intro i2 r_i2 hm
    refine tn_iload_n dX1_rowOfLabel_2 rfl 2 rfl ?_
    refine tn_aload_n dX1_rowOfLabel_3 rfl 0 rfl ?_
    refine tn_getI (ci := 1) (i := 1) (n := 6) (t := σ.2.1 6 a) dX1_rowOfLabel_4 rfl lay_1 (by decide) fl1_33 h_a rfl rfl (rfl) ?_
    have g1 : ((0 : Int) ≤ σ.2.1 6 a ∧ σ.2.1 6 a ≤ 5000) ∧ ((T a).1 = 50 → σ.2.1 6 a ≤ 200) := wf_6 hw h_a
    have g1x := g1.2
    replace g1 := g1.1
    clear g1x
    refine tn_icmp_ge (tgt := 39) dX1_rowOfLabel_7 (by decide) ⟨by omega, by omega⟩ ⟨by omega, by omega⟩ (fun h2 => ?_) (fun h2 => ?_)
    · exact tn_sub [0, 1, 2] rfl (hx_39 (i2) (by omega))
    · refine tn_aload_n dX1_rowOfLabel_10 rfl 0 rfl ?_
      refine tn_iload_n dX1_rowOfLabel_11 rfl 2 rfl ?_
      refine tn_iconst dX1_rowOfLabel_12 ?_
      refine tn_callV (M := m_X1_rowOfLabel) (pc := 13) (ix := 86) (ci := 1) (M' := m_X1_get) (As := [.int (iI i2), .int (iI 0)]) (rest := []) dX1_rowOfLabel_13 ok_X1_get im_X1_get se_X1_get ml1_86 np_X1_get rfl rfl h_a rfl (Nat.le_of_ble_eq_true rfl) (Nat.le_of_ble_eq_true rfl) rfl (k_X1_get (d) (T := T) (σ := σ) (a := a) (k := i2) (c := 0) h_a (by omega) (by decide) hw (by omega)) (fun r3 T5 σ4 gt6 hp => ?_)
      obtain ⟨v8, rfl, rfl, rfl, f7⟩ := hp
      clear gt6
      show Tn _ _ 16 T σ [(0, .ref a), (1, .int (iI c1)), (2, .int (iI i2))] [.int (iI v8)] _
      refine tn_bipush dX1_rowOfLabel_16 (by decide) ?_
      refine tn_icmp_ne (tgt := 33) dX1_rowOfLabel_18 (by decide) ⟨by omega, by omega⟩ ⟨by decide, by decide⟩ (fun h9 => ?_) (fun h9 => ?_)
      · refine tn_iinc (q0 := 2) (L' := [(2, .int (iI (i2 + 1))), (0, .ref a), (1, .int (iI c1))]) dX1_rowOfLabel_33 rfl (by decide) rfl ?_
        refine tn_goto (tgt := 2) dX1_rowOfLabel_36 (by decide) ?_
        exact tn_sub [1, 2, 0] rfl (ih _ (by omega) (i2 + 1) (by omega) rfl)
      · refine tn_aload_n dX1_rowOfLabel_21 rfl 0 rfl ?_
        refine tn_iload_n dX1_rowOfLabel_22 rfl 2 rfl ?_
        refine tn_iconst dX1_rowOfLabel_23 ?_
        refine tn_callV (M := m_X1_rowOfLabel) (pc := 24) (ix := 86) (ci := 1) (M' := m_X1_get) (As := [.int (iI i2), .int (iI 1)]) (rest := []) dX1_rowOfLabel_24 ok_X1_get im_X1_get se_X1_get ml1_86 np_X1_get rfl rfl h_a rfl (Nat.le_of_ble_eq_true rfl) (Nat.le_of_ble_eq_true rfl) rfl (k_X1_get (d) (T := T) (σ := σ) (a := a) (k := i2) (c := 1) h_a (by omega) (by decide) hw (by omega)) (fun r10 T12 σ11 gt13 hp => ?_)
        obtain ⟨v15, rfl, rfl, rfl, f14⟩ := hp
        clear gt13
        show Tn _ _ 27 T σ [(0, .ref a), (1, .int (iI c1)), (2, .int (iI i2))] [.int (iI v15)] _
        refine tn_iload_n dX1_rowOfLabel_27 rfl 1 rfl ?_
        refine tn_icmp_ne (tgt := 33) dX1_rowOfLabel_28 (by decide) ⟨by omega, by omega⟩ ⟨by omega, by omega⟩ (fun h16 => ?_) (fun h16 => ?_)
        · refine tn_iinc (q0 := 2) (L' := [(2, .int (iI (i2 + 1))), (0, .ref a), (1, .int (iI c1))]) dX1_rowOfLabel_33 rfl (by decide) rfl ?_
          refine tn_goto (tgt := 2) dX1_rowOfLabel_36 (by decide) ?_
          exact tn_sub [1, 2, 0] rfl (ih _ (by omega) (i2 + 1) (by omega) rfl)
        · exact tn_sub [0, 1, 2] rfl (hx_31 (i2) (by omega))
theorem dX1_rowOfLabel_31 : decode cX1_rowOfLabel 31 = .ok (.iload_n 2, 1) := by decide +kernel
theorem dX1_rowOfLabel_32 : decode cX1_rowOfLabel 32 = .ok (.ireturn, 1) := by decide +kernel
theorem dX1_rowOfLabel_39 : decode cX1_rowOfLabel 39 = .ok (.iconst (-1), 1) := by decide +kernel
theorem dX1_rowOfLabel_40 : decode cX1_rowOfLabel 40 = .ok (.ireturn, 1) := by decide +kernel
set_option maxRecDepth 20000 in
theorem k_X1_rowOfLabel (d : Nat) {T : CT} {σ : MS} {a : Nat} {l : Int} (ha : OB T a 1) (h_l : -2147483648 ≤ l ∧ l ≤ 2147483647) (hw : WT T σ) : Tn (d + 2) m_X1_rowOfLabel 0 T σ [(0, .ref a), (1, .int (iI l))] [] (fun ro T2 σ2 => ∃ v : Int, ro = some (.int (iI v)) ∧ T = T2 ∧ σ = σ2 ∧ (-2147483648 ≤ v ∧ v ≤ 2147483647)) := by
  refine tn_iconst dX1_rowOfLabel_0 ?_
  refine tn_istore_n (L' := [(2, .int (iI 0)), (0, .ref a), (1, .int (iI l))]) dX1_rowOfLabel_1 rfl (by decide) rfl ?_
  refine tn_sub [1, 2, 0] rfl (l_X1_rowOfLabel_2 (d) (T := T) (σ := σ) (a := a) (c1 := l) ha (by omega) hw (fun i21 r7 => ?_) (fun i28 r14 => ?_) _ (0) (by omega) rfl)
  · show Tn _ _ 31 T σ [(0, .ref a), (1, .int (iI l)), (2, .int (iI i21))] [] _
    refine tn_iload_n dX1_rowOfLabel_31 rfl 2 rfl ?_
    exact tn_iret rfl dX1_rowOfLabel_32 ⟨_, rfl, rfl, rfl, by omega⟩
  · show Tn _ _ 39 T σ [(0, .ref a), (1, .int (iI l)), (2, .int (iI i28))] [] _
    refine tn_iconst dX1_rowOfLabel_39 ?_
    exact tn_iret rfl dX1_rowOfLabel_40 ⟨_, rfl, rfl, rfl, by omega⟩
end
section
theorem cd_X1_link : Cond.code yX1_link cX1_link 3 none ∈ pWW := pw4 (List.mem_of_getElem? (i := 27) rfl) rfl
abbrev m_X1_link : MT := (yX1_link, cX1_link, 3, none)
theorem ok_X1_link : pOk m_X1_link := ⟨⟨cd_X1_link, ini_1⟩, by decide +kernel, ⟨by decide +kernel, by decide +kernel⟩, Nat.le_of_ble_eq_true rfl⟩
theorem np_X1_link : (parseMethodDescriptor yX1_link.desc).map (fun d => d.parameters.length) = some 0 := by decide +kernel
theorem im_X1_link : Cond.instanceMethod yX1_link ∈ pWW := pw4 (List.mem_of_getElem? (i := 25) rfl) rfl
theorem se_X1_link : Cond.selects RX1 yX1_link yX1_link ∈ pWW := pw4 (List.mem_of_getElem? (i := 26) rfl) rfl
theorem ml1_89 : Cond.methodLink RX1 89 yX1_rowOfLabel ∈ pWW := pw4 (List.mem_of_getElem? (i := 28) rfl) rfl
theorem ml1_93 : Cond.methodLink RX1 93 yX1_set ∈ pWW := pw3 (List.mem_of_getElem? (i := 202) rfl) rfl
theorem dX1_link_0 : decode cX1_link 0 = .ok (.iconst 0, 1) := by decide +kernel
theorem dX1_link_1 : decode cX1_link 1 = .ok (.istore_n 1, 1) := by decide +kernel
theorem dX1_link_2 : decode cX1_link 2 = .ok (.iload_n 1, 1) := by decide +kernel
theorem dX1_link_3 : decode cX1_link 3 = .ok (.aload_n 0, 1) := by decide +kernel
theorem dX1_link_4 : decode cX1_link 4 = .ok (.getfield 33, 3) := by decide +kernel
theorem dX1_link_7 : decode cX1_link 7 = .ok (.if_icmp .ge 45, 3) := by decide +kernel
theorem dX1_link_10 : decode cX1_link 10 = .ok (.aload_n 0, 1) := by decide +kernel
theorem dX1_link_11 : decode cX1_link 11 = .ok (.iload_n 1, 1) := by decide +kernel
theorem dX1_link_12 : decode cX1_link 12 = .ok (.iconst 0, 1) := by decide +kernel
theorem dX1_link_13 : decode cX1_link 13 = .ok (.invokevirtual 86, 3) := by decide +kernel
theorem dX1_link_16 : decode cX1_link 16 = .ok (.istore_n 2, 1) := by decide +kernel
theorem dX1_link_17 : decode cX1_link 17 = .ok (.iload_n 2, 1) := by decide +kernel
theorem dX1_link_18 : decode cX1_link 18 = .ok (.bipush 8, 2) := by decide +kernel
theorem dX1_link_20 : decode cX1_link 20 = .ok (.if_icmp .eq 9, 3) := by decide +kernel
theorem dX1_link_29 : decode cX1_link 29 = .ok (.aload_n 0, 1) := by decide +kernel
theorem dX1_link_30 : decode cX1_link 30 = .ok (.iload_n 1, 1) := by decide +kernel
theorem dX1_link_31 : decode cX1_link 31 = .ok (.bipush 12, 2) := by decide +kernel
theorem dX1_link_33 : decode cX1_link 33 = .ok (.aload_n 0, 1) := by decide +kernel
theorem dX1_link_34 : decode cX1_link 34 = .ok (.aload_n 0, 1) := by decide +kernel
theorem dX1_link_35 : decode cX1_link 35 = .ok (.iload_n 1, 1) := by decide +kernel
theorem dX1_link_36 : decode cX1_link 36 = .ok (.iconst 1, 1) := by decide +kernel
theorem dX1_link_37 : decode cX1_link 37 = .ok (.invokevirtual 86, 3) := by decide +kernel
theorem dX1_link_40 : decode cX1_link 40 = .ok (.invokevirtual 89, 3) := by decide +kernel
theorem dX1_link_43 : decode cX1_link 43 = .ok (.invokevirtual 93, 3) := by decide +kernel
theorem dX1_link_46 : decode cX1_link 46 = .ok (.iinc 1 1, 3) := by decide +kernel
theorem dX1_link_49 : decode cX1_link 49 = .ok (.goto (-47), 3) := by decide +kernel
theorem dX1_link_23 : decode cX1_link 23 = .ok (.iload_n 2, 1) := by decide +kernel
theorem dX1_link_24 : decode cX1_link 24 = .ok (.bipush 9, 2) := by decide +kernel
theorem dX1_link_26 : decode cX1_link 26 = .ok (.if_icmp .ne 20, 3) := by decide +kernel
set_option maxRecDepth 20000 in
theorem l_X1_link_2 (d : Nat) {T : CT} {σ0 : MS} {a : Nat} {post : Option Value → CT → MS → Prop} (h_a : OB T a 1) (hw0 : WT T σ0) (hx_52 : ∀ (i1 : Int) (σ : MS) , (WT T σ) → (FrC T [] σ0 σ) → (0 ≤ i1 ∧ i1 ≤ 2147483647) → Tn (d + 3) m_X1_link 52 T σ [(0, .ref a), (1, .int (iI i1))] [] post) : ∀ (n : Nat) (i1 : Int) (σ : MS) , (WT T σ) → (FrC T [] σ0 σ) → (0 ≤ i1 ∧ i1 ≤ 2147483647) → (2147483700 - i1).toNat = n → Tn (d + 3) m_X1_link 2 T σ [(0, .ref a), (1, .int (iI i1))] [] post := by
  intro n
  induction n using Nat.strongRecOn with
  | _ n ih =>
    intro i1 σ hw hF r_i1 hm
    refine tn_iload_n dX1_link_2 rfl 1 rfl ?_
    refine tn_aload_n dX1_link_3 rfl 0 rfl ?_
    refine tn_getI (ci := 1) (i := 1) (n := 6) (t := σ0.2.1 6 a) dX1_link_4 rfl lay_1 (by decide) fl1_33 h_a rfl rfl (rc_F hF (Or.inl (by decide)) (by decide) (rfl)) ?_
    have g1 : ((0 : Int) ≤ σ0.2.1 6 a ∧ σ0.2.1 6 a ≤ 5000) ∧ ((T a).1 = 50 → σ0.2.1 6 a ≤ 200) := wf_6 hw0 h_a
    have g1x := g1.2
    replace g1 := g1.1
    clear g1x
    refine tn_icmp_ge (tgt := 52) dX1_link_7 (by decide) ⟨by omega, by omega⟩ ⟨by omega, by omega⟩ (fun h2 => ?_) (fun h2 => ?_)
    · exact tn_sub [0, 1] rfl (hx_52 (i1) σ hw (FrC.rfl.trans (FrC.sub hF (by decide))) (by omega))
    · refine tn_aload_n dX1_link_10 rfl 0 rfl ?_
      refine tn_iload_n dX1_link_11 rfl 1 rfl ?_
      refine tn_iconst dX1_link_12 ?_
      refine tn_callV (M := m_X1_link) (pc := 13) (ix := 86) (ci := 1) (M' := m_X1_get) (As := [.int (iI i1), .int (iI 0)]) (rest := []) dX1_link_13 ok_X1_get im_X1_get se_X1_get ml1_86 np_X1_get rfl rfl h_a rfl (Nat.le_of_ble_eq_true rfl) (Nat.le_of_ble_eq_true rfl) rfl (k_X1_get (d + 1) (T := T) (σ := σ) (a := a) (k := i1) (c := 0) h_a (by omega) (by decide) hw (by omega)) (fun r3 T5 σ4 gt6 hp => ?_)
      obtain ⟨v8, rfl, rfl, rfl, f7⟩ := hp
      clear gt6
      show Tn _ _ 16 T σ [(0, .ref a), (1, .int (iI i1))] [.int (iI v8)] _
      refine tn_istore_n (L' := [(2, .int (iI v8)), (0, .ref a), (1, .int (iI i1))]) dX1_link_16 rfl (by decide) rfl ?_
      refine tn_iload_n dX1_link_17 rfl 0 rfl ?_
      refine tn_bipush dX1_link_18 (by decide) ?_
      refine tn_icmp_eq (tgt := 29) dX1_link_20 (by decide) ⟨by omega, by omega⟩ ⟨by decide, by decide⟩ (fun h9 => ?_) (fun h9 => ?_)
      · refine tn_aload_n dX1_link_29 rfl 1 rfl ?_
        refine tn_iload_n dX1_link_30 rfl 2 rfl ?_
        refine tn_bipush dX1_link_31 (by decide) ?_
        refine tn_aload_n dX1_link_33 rfl 1 rfl ?_
        refine tn_aload_n dX1_link_34 rfl 1 rfl ?_
        refine tn_iload_n dX1_link_35 rfl 2 rfl ?_
        refine tn_iconst dX1_link_36 ?_
        refine tn_callV (M := m_X1_link) (pc := 37) (ix := 86) (ci := 1) (M' := m_X1_get) (As := [.int (iI i1), .int (iI 1)]) (rest := [.ref a, .int (iI 12), .int (iI i1), .ref a]) dX1_link_37 ok_X1_get im_X1_get se_X1_get ml1_86 np_X1_get rfl rfl h_a rfl (Nat.le_of_ble_eq_true rfl) (Nat.le_of_ble_eq_true rfl) rfl (k_X1_get (d + 1) (T := T) (σ := σ) (a := a) (k := i1) (c := 1) h_a (by omega) (by decide) hw (by omega)) (fun r10 T12 σ11 gt13 hp => ?_)
        obtain ⟨v15, rfl, rfl, rfl, f14⟩ := hp
        clear gt13
        show Tn _ _ 40 T σ [(2, .int (iI v8)), (0, .ref a), (1, .int (iI i1))] [.int (iI v15), .ref a, .int (iI 12), .int (iI i1), .ref a] _
        refine tn_callV (M := m_X1_link) (pc := 40) (ix := 89) (ci := 1) (M' := m_X1_rowOfLabel) (As := [.int (iI v15)]) (rest := [.int (iI 12), .int (iI i1), .ref a]) dX1_link_40 ok_X1_rowOfLabel im_X1_rowOfLabel se_X1_rowOfLabel ml1_89 np_X1_rowOfLabel rfl rfl h_a rfl (Nat.le_of_ble_eq_true rfl) (Nat.le_of_ble_eq_true rfl) rfl (k_X1_rowOfLabel (d) (T := T) (σ := σ) (a := a) (l := v15) h_a (by omega) hw ) (fun r16 T18 σ17 gt19 hp => ?_)
        obtain ⟨v21, rfl, rfl, rfl, f20⟩ := hp
        clear gt19
        show Tn _ _ 43 T σ [(2, .int (iI v8)), (0, .ref a), (1, .int (iI i1))] [.int (iI v21), .int (iI 12), .int (iI i1), .ref a] _
        refine tn_callV (M := m_X1_link) (pc := 43) (ix := 93) (ci := 1) (M' := m_X1_set) (As := [.int (iI i1), .int (iI 12), .int (iI v21)]) (rest := []) dX1_link_43 ok_X1_set im_X1_set se_X1_set ml1_93 np_X1_set rfl rfl h_a rfl (Nat.le_of_ble_eq_true rfl) (Nat.le_of_ble_eq_true rfl) rfl (k_X1_set (d + 1) (T := T) (σ := σ) (a := a) (k := i1) (c := 12) (y := v21) h_a (by omega) (by decide) (by omega) hw (by omega) (by omega)) (fun r22 T24 σ23 gt25 hp => ?_)
        obtain ⟨rfl, rfl, w27, F28⟩ := hp
        clear gt25
        show Tn _ _ 46 T σ23 [(2, .int (iI v8)), (0, .ref a), (1, .int (iI i1))] [] _
        refine tn_iinc (q0 := 2) (L' := [(1, .int (iI (i1 + 1))), (2, .int (iI v8)), (0, .ref a)]) dX1_link_46 rfl (by decide) rfl ?_
        refine tn_goto (tgt := 2) dX1_link_49 (by decide) ?_
        exact tn_sub [2, 0] rfl (ih _ (by omega) (i1 + 1) σ23 w27 ((FrC.rfl.trans (FrC.sub hF (by decide))).trans (FrC.sub F28 (by decide))) (by omega) rfl)
      · refine tn_iload_n dX1_link_23 rfl 0 rfl ?_
        refine tn_bipush dX1_link_24 (by decide) ?_
        refine tn_icmp_ne (tgt := 46) dX1_link_26 (by decide) ⟨by omega, by omega⟩ ⟨by decide, by decide⟩ (fun h29 => ?_) (fun h29 => ?_)
        · refine tn_iinc (q0 := 2) (L' := [(1, .int (iI (i1 + 1))), (2, .int (iI v8)), (0, .ref a)]) dX1_link_46 rfl (by decide) rfl ?_
          refine tn_goto (tgt := 2) dX1_link_49 (by decide) ?_
          exact tn_sub [2, 0] rfl (ih _ (by omega) (i1 + 1) σ hw (FrC.rfl.trans (FrC.sub hF (by decide))) (by omega) rfl)
        · refine tn_aload_n dX1_link_29 rfl 1 rfl ?_
          refine tn_iload_n dX1_link_30 rfl 2 rfl ?_
          refine tn_bipush dX1_link_31 (by decide) ?_
          refine tn_aload_n dX1_link_33 rfl 1 rfl ?_
          refine tn_aload_n dX1_link_34 rfl 1 rfl ?_
          refine tn_iload_n dX1_link_35 rfl 2 rfl ?_
          refine tn_iconst dX1_link_36 ?_
          refine tn_callV (M := m_X1_link) (pc := 37) (ix := 86) (ci := 1) (M' := m_X1_get) (As := [.int (iI i1), .int (iI 1)]) (rest := [.ref a, .int (iI 12), .int (iI i1), .ref a]) dX1_link_37 ok_X1_get im_X1_get se_X1_get ml1_86 np_X1_get rfl rfl h_a rfl (Nat.le_of_ble_eq_true rfl) (Nat.le_of_ble_eq_true rfl) rfl (k_X1_get (d + 1) (T := T) (σ := σ) (a := a) (k := i1) (c := 1) h_a (by omega) (by decide) hw (by omega)) (fun r30 T32 σ31 gt33 hp => ?_)
          obtain ⟨v35, rfl, rfl, rfl, f34⟩ := hp
          clear gt33
          show Tn _ _ 40 T σ [(2, .int (iI v8)), (0, .ref a), (1, .int (iI i1))] [.int (iI v35), .ref a, .int (iI 12), .int (iI i1), .ref a] _
          refine tn_callV (M := m_X1_link) (pc := 40) (ix := 89) (ci := 1) (M' := m_X1_rowOfLabel) (As := [.int (iI v35)]) (rest := [.int (iI 12), .int (iI i1), .ref a]) dX1_link_40 ok_X1_rowOfLabel im_X1_rowOfLabel se_X1_rowOfLabel ml1_89 np_X1_rowOfLabel rfl rfl h_a rfl (Nat.le_of_ble_eq_true rfl) (Nat.le_of_ble_eq_true rfl) rfl (k_X1_rowOfLabel (d) (T := T) (σ := σ) (a := a) (l := v35) h_a (by omega) hw ) (fun r36 T38 σ37 gt39 hp => ?_)
          obtain ⟨v41, rfl, rfl, rfl, f40⟩ := hp
          clear gt39
          show Tn _ _ 43 T σ [(2, .int (iI v8)), (0, .ref a), (1, .int (iI i1))] [.int (iI v41), .int (iI 12), .int (iI i1), .ref a] _
          refine tn_callV (M := m_X1_link) (pc := 43) (ix := 93) (ci := 1) (M' := m_X1_set) (As := [.int (iI i1), .int (iI 12), .int (iI v41)]) (rest := []) dX1_link_43 ok_X1_set im_X1_set se_X1_set ml1_93 np_X1_set rfl rfl h_a rfl (Nat.le_of_ble_eq_true rfl) (Nat.le_of_ble_eq_true rfl) rfl (k_X1_set (d + 1) (T := T) (σ := σ) (a := a) (k := i1) (c := 12) (y := v41) h_a (by omega) (by decide) (by omega) hw (by omega) (by omega)) (fun r42 T44 σ43 gt45 hp => ?_)
          obtain ⟨rfl, rfl, w47, F48⟩ := hp
          clear gt45
          show Tn _ _ 46 T σ43 [(2, .int (iI v8)), (0, .ref a), (1, .int (iI i1))] [] _
          refine tn_iinc (q0 := 2) (L' := [(1, .int (iI (i1 + 1))), (2, .int (iI v8)), (0, .ref a)]) dX1_link_46 rfl (by decide) rfl ?_
          refine tn_goto (tgt := 2) dX1_link_49 (by decide) ?_
          exact tn_sub [2, 0] rfl (ih _ (by omega) (i1 + 1) σ43 w47 ((FrC.rfl.trans (FrC.sub hF (by decide))).trans (FrC.sub F48 (by decide))) (by omega) rfl)
theorem dX1_link_52 : decode cX1_link 52 = .ok (.return_, 1) := by decide +kernel
set_option maxRecDepth 20000 in
theorem k_X1_link (d : Nat) {T : CT} {σ : MS} {a : Nat} (ha : OB T a 1) (hw : WT T σ) : Tn (d + 3) m_X1_link 0 T σ [(0, .ref a)] [] (fun ro T2 σ2 => ro = none ∧ T = T2 ∧ WT T2 σ2 ∧ FrC T [] σ σ2) := by
  refine tn_iconst dX1_link_0 ?_
  refine tn_istore_n (L' := [(1, .int (iI 0)), (0, .ref a)]) dX1_link_1 rfl (by decide) rfl ?_
  refine tn_sub [1, 0] rfl (l_X1_link_2 (d) (T := T) (σ0 := σ) (a := a) ha hw (fun i11 σ2 w5 F6 r7 => ?_) _ (0) σ hw FrC.rfl (by omega) rfl)
  show Tn _ _ 52 T σ2 [(0, .ref a), (1, .int (iI i11))] [] _
  exact tn_vret rfl dX1_link_52 ⟨rfl, rfl, w5, (FrC.rfl.trans (FrC.sub F6 (by decide)))⟩
end
section
theorem cd_X1_writtenBy : Cond.code yX1_writtenBy cX1_writtenBy 3 (some .int) ∈ pWW := pw3 (List.mem_of_getElem? (i := 237) rfl) rfl
abbrev m_X1_writtenBy : MT := (yX1_writtenBy, cX1_writtenBy, 3, (some .int))
theorem ok_X1_writtenBy : pOk m_X1_writtenBy := ⟨⟨cd_X1_writtenBy, ini_1⟩, by decide +kernel, ⟨by decide +kernel, by decide +kernel⟩, Nat.le_of_ble_eq_true rfl⟩
theorem np_X1_writtenBy : (parseMethodDescriptor yX1_writtenBy.desc).map (fun d => d.parameters.length) = some 1 := by decide +kernel
theorem im_X1_writtenBy : Cond.instanceMethod yX1_writtenBy ∈ pWW := pw3 (List.mem_of_getElem? (i := 235) rfl) rfl
theorem se_X1_writtenBy : Cond.selects RX1 yX1_writtenBy yX1_writtenBy ∈ pWW := pw3 (List.mem_of_getElem? (i := 236) rfl) rfl
theorem ml1_97 : Cond.methodLink RX1 97 yX1_kindAt ∈ pWW := pw3 (List.mem_of_getElem? (i := 238) rfl) rfl
theorem nl1_100 : (RX1, 100, yX11_isPure, "LineKeeper") ∈ nst_M := List.mem_of_getElem? (i := 11) rfl
theorem dX1_writtenBy_0 : decode cX1_writtenBy 0 = .ok (.aload_n 0, 1) := by decide +kernel
theorem dX1_writtenBy_1 : decode cX1_writtenBy 1 = .ok (.iload_n 1, 1) := by decide +kernel
theorem dX1_writtenBy_2 : decode cX1_writtenBy 2 = .ok (.invokevirtual 97, 3) := by decide +kernel
theorem dX1_writtenBy_5 : decode cX1_writtenBy 5 = .ok (.istore_n 2, 1) := by decide +kernel
theorem dX1_writtenBy_6 : decode cX1_writtenBy 6 = .ok (.iload_n 2, 1) := by decide +kernel
theorem dX1_writtenBy_7 : decode cX1_writtenBy 7 = .ok (.invokestatic 100, 3) := by decide +kernel
theorem dX1_writtenBy_10 : decode cX1_writtenBy 10 = .ok (.ifCond .ne 9, 3) := by decide +kernel
theorem dX1_writtenBy_19 : decode cX1_writtenBy 19 = .ok (.aload_n 0, 1) := by decide +kernel
theorem dX1_writtenBy_20 : decode cX1_writtenBy 20 = .ok (.iload_n 1, 1) := by decide +kernel
theorem dX1_writtenBy_21 : decode cX1_writtenBy 21 = .ok (.iconst 1, 1) := by decide +kernel
theorem dX1_writtenBy_22 : decode cX1_writtenBy 22 = .ok (.invokevirtual 86, 3) := by decide +kernel
theorem dX1_writtenBy_25 : decode cX1_writtenBy 25 = .ok (.goto 4, 3) := by decide +kernel
theorem dX1_writtenBy_29 : decode cX1_writtenBy 29 = .ok (.ireturn, 1) := by decide +kernel
theorem dX1_writtenBy_13 : decode cX1_writtenBy 13 = .ok (.iload_n 2, 1) := by decide +kernel
theorem dX1_writtenBy_14 : decode cX1_writtenBy 14 = .ok (.bipush 10, 2) := by decide +kernel
theorem dX1_writtenBy_16 : decode cX1_writtenBy 16 = .ok (.if_icmp .ne 12, 3) := by decide +kernel
theorem dX1_writtenBy_28 : decode cX1_writtenBy 28 = .ok (.iconst (-1), 1) := by decide +kernel
set_option maxRecDepth 20000 in
theorem k_X1_writtenBy (d : Nat) {T : CT} {σ : MS} {a : Nat} {k : Int} (ha : OB T a 1) (h_k : -2147483648 ≤ k ∧ k ≤ 2147483647) (hw : WT T σ) : Tn (d + 2) m_X1_writtenBy 0 T σ [(0, .ref a), (1, .int (iI k))] [] (fun ro T2 σ2 => ∃ v : Int, ro = some (.int (iI v)) ∧ T = T2 ∧ σ = σ2 ∧ (-2147483648 ≤ v ∧ v ≤ 2147483647)) := by
  refine tn_aload_n dX1_writtenBy_0 rfl 0 rfl ?_
  refine tn_iload_n dX1_writtenBy_1 rfl 1 rfl ?_
  refine tn_callV (M := m_X1_writtenBy) (pc := 2) (ix := 97) (ci := 1) (M' := m_X1_kindAt) (As := [.int (iI k)]) (rest := []) dX1_writtenBy_2 ok_X1_kindAt im_X1_kindAt se_X1_kindAt ml1_97 np_X1_kindAt rfl rfl ha rfl (Nat.le_of_ble_eq_true rfl) (Nat.le_of_ble_eq_true rfl) rfl (k_X1_kindAt (d) (T := T) (σ := σ) (a := a) (k := k) ha (by omega) hw ) (fun r1 T3 σ2 gt4 hp => ?_)
  obtain ⟨v7, rfl, rfl, rfl, f5, f6⟩ := hp
  clear gt4
  clear f6
  show Tn _ _ 5 T σ [(0, .ref a), (1, .int (iI k))] [.int (iI v7)] _
  refine tn_istore_n (L' := [(2, .int (iI v7)), (0, .ref a), (1, .int (iI k))]) dX1_writtenBy_5 rfl (by decide) rfl ?_
  refine tn_iload_n dX1_writtenBy_6 rfl 0 rfl ?_
  refine tn_callSN (M := m_X1_writtenBy) (pc := 7) (ix := 100) (M' := m_X11_isPure) (As := [.int (iI v7)]) (rest := []) dX1_writtenBy_7 ok_X11_isPure stt_X11_isPure nl1_100 np_X11_isPure rfl (Nat.le_of_ble_eq_true rfl) (Nat.le_of_ble_eq_true rfl) rfl (k_X11_isPure (d) (T := T) (σ := σ) (k := v7) (by omega) hw ) (fun r8 T10 σ9 gt11 hp => ?_)
  obtain ⟨v13, rfl, rfl, rfl, f12⟩ := hp
  clear gt11
  show Tn _ _ 10 T σ [(2, .int (iI v7)), (0, .ref a), (1, .int (iI k))] [.int (iI v13)] _
  refine tn_if_ne (tgt := 19) dX1_writtenBy_10 (by decide) ⟨by omega, by omega⟩ (fun h14 => ?_) (fun h14 => ?_)
  · refine tn_aload_n dX1_writtenBy_19 rfl 1 rfl ?_
    refine tn_iload_n dX1_writtenBy_20 rfl 2 rfl ?_
    refine tn_iconst dX1_writtenBy_21 ?_
    refine tn_callV (M := m_X1_writtenBy) (pc := 22) (ix := 86) (ci := 1) (M' := m_X1_get) (As := [.int (iI k), .int (iI 1)]) (rest := []) dX1_writtenBy_22 ok_X1_get im_X1_get se_X1_get ml1_86 np_X1_get rfl rfl ha rfl (Nat.le_of_ble_eq_true rfl) (Nat.le_of_ble_eq_true rfl) rfl (k_X1_get (d) (T := T) (σ := σ) (a := a) (k := k) (c := 1) ha (by omega) (by decide) hw (by omega)) (fun r15 T17 σ16 gt18 hp => ?_)
    obtain ⟨v20, rfl, rfl, rfl, f19⟩ := hp
    clear gt18
    show Tn _ _ 25 T σ [(2, .int (iI v7)), (0, .ref a), (1, .int (iI k))] [.int (iI v20)] _
    refine tn_goto (tgt := 29) dX1_writtenBy_25 (by decide) ?_
    exact tn_iret rfl dX1_writtenBy_29 ⟨_, rfl, rfl, rfl, by omega⟩
  · refine tn_iload_n dX1_writtenBy_13 rfl 0 rfl ?_
    refine tn_bipush dX1_writtenBy_14 (by decide) ?_
    refine tn_icmp_ne (tgt := 28) dX1_writtenBy_16 (by decide) ⟨by omega, by omega⟩ ⟨by decide, by decide⟩ (fun h21 => ?_) (fun h21 => ?_)
    · refine tn_iconst dX1_writtenBy_28 ?_
      exact tn_iret rfl dX1_writtenBy_29 ⟨_, rfl, rfl, rfl, by omega⟩
    · refine tn_aload_n dX1_writtenBy_19 rfl 1 rfl ?_
      refine tn_iload_n dX1_writtenBy_20 rfl 2 rfl ?_
      refine tn_iconst dX1_writtenBy_21 ?_
      refine tn_callV (M := m_X1_writtenBy) (pc := 22) (ix := 86) (ci := 1) (M' := m_X1_get) (As := [.int (iI k), .int (iI 1)]) (rest := []) dX1_writtenBy_22 ok_X1_get im_X1_get se_X1_get ml1_86 np_X1_get rfl rfl ha rfl (Nat.le_of_ble_eq_true rfl) (Nat.le_of_ble_eq_true rfl) rfl (k_X1_get (d) (T := T) (σ := σ) (a := a) (k := k) (c := 1) ha (by omega) (by decide) hw (by omega)) (fun r22 T24 σ23 gt25 hp => ?_)
      obtain ⟨v27, rfl, rfl, rfl, f26⟩ := hp
      clear gt25
      show Tn _ _ 25 T σ [(2, .int (iI v7)), (0, .ref a), (1, .int (iI k))] [.int (iI v27)] _
      refine tn_goto (tgt := 29) dX1_writtenBy_25 (by decide) ?_
      exact tn_iret rfl dX1_writtenBy_29 ⟨_, rfl, rfl, rfl, by omega⟩
end
section
theorem cd_X1_fallsOn : Cond.code yX1_fallsOn cX1_fallsOn 3 (some .boolean) ∈ pWW := pw4 (List.mem_of_getElem? (i := 151) rfl) rfl
abbrev m_X1_fallsOn : MT := (yX1_fallsOn, cX1_fallsOn, 3, (some .boolean))
theorem ok_X1_fallsOn : pOk m_X1_fallsOn := ⟨⟨cd_X1_fallsOn, ini_1⟩, by decide +kernel, ⟨by decide +kernel, by decide +kernel⟩, Nat.le_of_ble_eq_true rfl⟩
theorem np_X1_fallsOn : (parseMethodDescriptor yX1_fallsOn.desc).map (fun d => d.parameters.length) = some 1 := by decide +kernel
theorem im_X1_fallsOn : Cond.instanceMethod yX1_fallsOn ∈ pWW := pw4 (List.mem_of_getElem? (i := 149) rfl) rfl
theorem se_X1_fallsOn : Cond.selects RX1 yX1_fallsOn yX1_fallsOn ∈ pWW := pw4 (List.mem_of_getElem? (i := 150) rfl) rfl
theorem dX1_fallsOn_0 : decode cX1_fallsOn 0 = .ok (.aload_n 0, 1) := by decide +kernel
theorem dX1_fallsOn_1 : decode cX1_fallsOn 1 = .ok (.iload_n 1, 1) := by decide +kernel
theorem dX1_fallsOn_2 : decode cX1_fallsOn 2 = .ok (.invokevirtual 97, 3) := by decide +kernel
theorem dX1_fallsOn_5 : decode cX1_fallsOn 5 = .ok (.istore_n 2, 1) := by decide +kernel
theorem dX1_fallsOn_6 : decode cX1_fallsOn 6 = .ok (.iload_n 2, 1) := by decide +kernel
theorem dX1_fallsOn_7 : decode cX1_fallsOn 7 = .ok (.bipush 8, 2) := by decide +kernel
theorem dX1_fallsOn_9 : decode cX1_fallsOn 9 = .ok (.if_icmp .eq 13, 3) := by decide +kernel
theorem dX1_fallsOn_22 : decode cX1_fallsOn 22 = .ok (.iconst 0, 1) := by decide +kernel
theorem dX1_fallsOn_23 : decode cX1_fallsOn 23 = .ok (.ireturn, 1) := by decide +kernel
theorem dX1_fallsOn_12 : decode cX1_fallsOn 12 = .ok (.iload_n 2, 1) := by decide +kernel
theorem dX1_fallsOn_13 : decode cX1_fallsOn 13 = .ok (.bipush 7, 2) := by decide +kernel
theorem dX1_fallsOn_15 : decode cX1_fallsOn 15 = .ok (.if_icmp .eq 7, 3) := by decide +kernel
theorem dX1_fallsOn_18 : decode cX1_fallsOn 18 = .ok (.iconst 1, 1) := by decide +kernel
theorem dX1_fallsOn_19 : decode cX1_fallsOn 19 = .ok (.goto 4, 3) := by decide +kernel
end
section
theorem cd_X1_targetOf : Cond.code yX1_targetOf cX1_targetOf 3 (some .int) ∈ pWW := pw4 (List.mem_of_getElem? (i := 159) rfl) rfl
abbrev m_X1_targetOf : MT := (yX1_targetOf, cX1_targetOf, 3, (some .int))
theorem ok_X1_targetOf : pOk m_X1_targetOf := ⟨⟨cd_X1_targetOf, ini_1⟩, by decide +kernel, ⟨by decide +kernel, by decide +kernel⟩, Nat.le_of_ble_eq_true rfl⟩
theorem np_X1_targetOf : (parseMethodDescriptor yX1_targetOf.desc).map (fun d => d.parameters.length) = some 1 := by decide +kernel
theorem im_X1_targetOf : Cond.instanceMethod yX1_targetOf ∈ pWW := pw4 (List.mem_of_getElem? (i := 157) rfl) rfl
theorem se_X1_targetOf : Cond.selects RX1 yX1_targetOf yX1_targetOf ∈ pWW := pw4 (List.mem_of_getElem? (i := 158) rfl) rfl
theorem dX1_targetOf_0 : decode cX1_targetOf 0 = .ok (.aload_n 0, 1) := by decide +kernel
theorem dX1_targetOf_1 : decode cX1_targetOf 1 = .ok (.iload_n 1, 1) := by decide +kernel
theorem dX1_targetOf_2 : decode cX1_targetOf 2 = .ok (.invokevirtual 97, 3) := by decide +kernel
theorem dX1_targetOf_5 : decode cX1_targetOf 5 = .ok (.istore_n 2, 1) := by decide +kernel
theorem dX1_targetOf_6 : decode cX1_targetOf 6 = .ok (.iload_n 2, 1) := by decide +kernel
theorem dX1_targetOf_7 : decode cX1_targetOf 7 = .ok (.bipush 8, 2) := by decide +kernel
theorem dX1_targetOf_9 : decode cX1_targetOf 9 = .ok (.if_icmp .eq 9, 3) := by decide +kernel
theorem dX1_targetOf_18 : decode cX1_targetOf 18 = .ok (.aload_n 0, 1) := by decide +kernel
theorem dX1_targetOf_19 : decode cX1_targetOf 19 = .ok (.iload_n 1, 1) := by decide +kernel
theorem dX1_targetOf_20 : decode cX1_targetOf 20 = .ok (.bipush 12, 2) := by decide +kernel
theorem dX1_targetOf_22 : decode cX1_targetOf 22 = .ok (.invokevirtual 86, 3) := by decide +kernel
theorem dX1_targetOf_25 : decode cX1_targetOf 25 = .ok (.goto 4, 3) := by decide +kernel
theorem dX1_targetOf_29 : decode cX1_targetOf 29 = .ok (.ireturn, 1) := by decide +kernel
theorem dX1_targetOf_12 : decode cX1_targetOf 12 = .ok (.iload_n 2, 1) := by decide +kernel
theorem dX1_targetOf_13 : decode cX1_targetOf 13 = .ok (.bipush 9, 2) := by decide +kernel
theorem dX1_targetOf_15 : decode cX1_targetOf 15 = .ok (.if_icmp .ne 13, 3) := by decide +kernel
theorem dX1_targetOf_28 : decode cX1_targetOf 28 = .ok (.iconst (-1), 1) := by decide +kernel
end
