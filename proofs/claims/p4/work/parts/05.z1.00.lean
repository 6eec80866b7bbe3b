theorem mlmJ7 : Cond.methodLink RXJ7 304 Lib.Math.min.name ∈ pWW := pw3 (List.mem_of_getElem? (i := 140) rfl) rfl
theorem mlaJ7 : Cond.methodLink RXJ7 150 arraycopyName ∈ pWW := pw3 (List.mem_of_getElem? (i := 141) rfl) rfl

theorem dJ7_copyOf_59c91_0 : decode cJ7_copyOf_59c91 0 = .ok (.iload_n 1, 1) := by decide +kernel
theorem dJ7_copyOf_59c91_1 : decode cJ7_copyOf_59c91 1 = .ok (.aload_n 0, 1) := by decide +kernel
theorem dJ7_copyOf_59c91_2 : decode cJ7_copyOf_59c91 2 = .ok (.arraylength, 1) := by decide +kernel
theorem dJ7_copyOf_59c91_3 : decode cJ7_copyOf_59c91 3 = .ok (.if_icmp .ne 11, 3) := by decide +kernel
theorem dJ7_copyOf_59c91_6 : decode cJ7_copyOf_59c91 6 = .ok (.aload_n 0, 1) := by decide +kernel
theorem dJ7_copyOf_59c91_7 : decode cJ7_copyOf_59c91 7 = .ok (.invokevirtual 316, 3) := by decide +kernel
theorem dJ7_copyOf_59c91_10 : decode cJ7_copyOf_59c91 10 = .ok (.checkcast 317, 3) := by decide +kernel
theorem dJ7_copyOf_59c91_13 : decode cJ7_copyOf_59c91 13 = .ok (.areturn, 1) := by decide +kernel
theorem dJ7_copyOf_59c91_14 : decode cJ7_copyOf_59c91 14 = .ok (.iload_n 1, 1) := by decide +kernel
theorem dJ7_copyOf_59c91_15 : decode cJ7_copyOf_59c91 15 = .ok (.newarray .int, 2) := by decide +kernel
theorem dJ7_copyOf_59c91_17 : decode cJ7_copyOf_59c91 17 = .ok (.astore_n 2, 1) := by decide +kernel
theorem dJ7_copyOf_59c91_18 : decode cJ7_copyOf_59c91 18 = .ok (.aload_n 0, 1) := by decide +kernel
theorem dJ7_copyOf_59c91_19 : decode cJ7_copyOf_59c91 19 = .ok (.iconst 0, 1) := by decide +kernel
theorem dJ7_copyOf_59c91_20 : decode cJ7_copyOf_59c91 20 = .ok (.aload_n 2, 1) := by decide +kernel
theorem dJ7_copyOf_59c91_21 : decode cJ7_copyOf_59c91 21 = .ok (.iconst 0, 1) := by decide +kernel
theorem dJ7_copyOf_59c91_22 : decode cJ7_copyOf_59c91 22 = .ok (.aload_n 0, 1) := by decide +kernel
theorem dJ7_copyOf_59c91_23 : decode cJ7_copyOf_59c91 23 = .ok (.arraylength, 1) := by decide +kernel
theorem dJ7_copyOf_59c91_24 : decode cJ7_copyOf_59c91 24 = .ok (.iload_n 1, 1) := by decide +kernel
theorem dJ7_copyOf_59c91_25 : decode cJ7_copyOf_59c91 25 = .ok (.invokestatic 304, 3) := by decide +kernel
theorem dJ7_copyOf_59c91_28 : decode cJ7_copyOf_59c91 28 = .ok (.invokestatic 150, 3) := by decide +kernel
theorem dJ7_copyOf_59c91_31 : decode cJ7_copyOf_59c91 31 = .ok (.aload_n 2, 1) := by decide +kernel
theorem dJ7_copyOf_59c91_32 : decode cJ7_copyOf_59c91 32 = .ok (.areturn, 1) := by decide +kernel
theorem rowS_rowS {r : Nat} {f g : Int → Int} {σ : MS} : rowS r f (rowS r g σ) = rowS r f σ := by
  unfold rowS
  simp only [Prod.mk.injEq, true_and, and_true]
  funext j
  by_cases h : j = r
  · simp [h]
  · simp [h]
/-- Arrays.copyOf -/
theorem k_copyOf (d : Nat) {T : CT} {σ : MS} {a : Nat} {z : Int} {N : Nat} (ha : IA T a) (hl : (T a).2 ≤ 1000000) (hv : ∀ i, VOK (T a).1 i (σ.2.1 (1000 + a) i)) (hz : z = (N : Int)) (hN : N ≤ 1000000) (hlt : (T a).2 < N) : Tn (d + 1) m_J7_copyOf_59c91 0 T σ [(0, .ref a), (1, .int (iI z))] [] (fun ro T2 σ2 => ∃ (x : Nat) (f : Int → Int), ro = some (.ref x) ∧ (T x).1 = 0 ∧ T2 = tT T x (T a).1 N ∧ σ2 = rowS (1000 + x) f (gh N σ) ∧ ∀ i, VOK (T a).1 i (f i)) := by
  refine tn_iload_n dJ7_copyOf_59c91_0 rfl 1 rfl ?_
  refine tn_aload_n dJ7_copyOf_59c91_1 rfl 0 rfl ?_
  refine tn_alenX dJ7_copyOf_59c91_2 (Or.inl ha) ?_
  refine tn_icmp_ne (tgt := 14) dJ7_copyOf_59c91_3 (by decide) ⟨by omega, by omega⟩ ⟨by omega, by omega⟩ (fun _ => ?_) (fun h => absurd h (by omega))
  refine tn_iload_n dJ7_copyOf_59c91_14 rfl 1 rfl ?_
  refine tn_newI (N := N) (k := (T a).1) dJ7_copyOf_59c91_15 arC_int ha hz hN (fun x hx => ?_)
  have hax : a ≠ x := fun e => by unfold IA at ha; rw [e] at ha; omega
  have hTa : tT T x (T a).1 N a = T a := tT_ne hax
  have ha2 : IA (tT T x (T a).1 N) a := by unfold IA; rw [hTa]; exact ha
  have hx2 : IA (tT T x (T a).1 N) x := by unfold IA; rw [tT_eq]; exact ha
  have hxl : (tT T x (T a).1 N x).2 = N := by rw [tT_eq]
  have hal : (tT T x (T a).1 N a).2 = (T a).2 := by rw [hTa]
  generalize hT2 : tT T x (T a).1 N = T2 at ha2 hx2 hxl hal
  refine tn_astore_n (L' := [(2, .ref x), (0, .ref a), (1, .int (iI z))]) dJ7_copyOf_59c91_17 rfl (by decide) rfl ?_
  refine tn_aload_n dJ7_copyOf_59c91_18 rfl 1 rfl ?_
  refine tn_iconst dJ7_copyOf_59c91_19 ?_
  refine tn_aload_n dJ7_copyOf_59c91_20 rfl 0 rfl ?_
  refine tn_iconst dJ7_copyOf_59c91_21 ?_
  refine tn_aload_n dJ7_copyOf_59c91_22 rfl 1 rfl ?_
  refine tn_alenX dJ7_copyOf_59c91_23 (Or.inl ha2) ?_
  refine tn_iload_n dJ7_copyOf_59c91_24 rfl 2 rfl ?_
  refine tn_mmin (x := ((T2 a).2 : Int)) (y := z) dJ7_copyOf_59c91_25 mlmJ7 stM_min iniM cdM_min (by omega) (Nat.le_of_ble_eq_true rfl) ⟨by omega, by omega⟩ ⟨by omega, by omega⟩ (fun m hm => ?_)
  refine tn_acopyI (a := a) (b := x) (sp := 0) (dp := 0) (n := m) dJ7_copyOf_59c91_28 mlaJ7 acNat acSt acIni ha2 hx2 ⟨by omega, by omega⟩ (by omega) (by omega) (by omega) (by omega) (by omega) (by omega) (Nat.le_of_ble_eq_true rfl) ?_
  refine tn_aload_n dJ7_copyOf_59c91_31 rfl 0 rfl ?_
  refine tn_aret rfl (Or.inr ⟨_, rfl⟩) (Or.inr ⟨_, rfl⟩) dJ7_copyOf_59c91_32 ⟨x, _, rfl, hx, hT2.symm, rowS_rowS, fun i => ?_⟩
  have e1 : (rowS (1000 + x) (fun _ => 0) (gh N σ)).2.1 (1000 + a) = σ.2.1 (1000 + a) := by rw [rowS_ne (by omega)]; rfl
  rw [e1, rowS_eq]
  unfold cpZ
  by_cases h : (0 : Int) ≤ i ∧ i < 0 + m
  · rw [if_pos h, show (0 : Int) + (i - 0) = i by omega]; exact hv i
  · rw [if_neg h]; exact vok_0
section APP
variable {T : CT} {σ τ : MS} {a x y N : Nat} {f : Int → Int}
theorem WTx.app (h : WTx 0 0 T τ a) (ha : OB T a 1) (hy : τ.2.1 5 a = (y : Int)) (hx0 : (T x).1 = 0) (hf : ∀ i, VOK (T y).1 i (f i)) (hl : 208 ≤ N ∧ N ≤ 2600) (h1 : (T y).2 < N) (h2 : N = 2600 ∨ (2 * (T y).2 ≤ N ∧ N < 2600)) (hc : 13 * τ.2.1 6 a ≤ (N : Int) ∨ 2600 ≤ N) : WT (tT T x (T y).1 N) (sA 5 a x (rowS (1000 + x) f (gh N τ))) := by
  obtain ⟨y2, e1, e2, e3, e4⟩ : FO 5 (T a).1 T (τ.2.1 5 a) := h.1 5 a (by decide) ha
  have ey : y2 = y := by omega
  subst ey
  have hk : (T y2).1 = 1 ∨ (11 ≤ (T y2).1 ∧ (T y2).1 ≤ 24) := by omega
  have w := h.newI hx0 hk hf (by omega : 1 ≤ N)
  rw [Nat.zero_add, Nat.zero_add] at w
  have hne : a ≠ x := fun e => by have := ha.1; rw [e] at this; omega
  have hyx : y2 ≠ x := fun e => by rw [e] at hk; omega
  have ga : tT T x (T y2).1 N a = T a := tT_ne hne
  have gy : tT T x (T y2).1 N y2 = T y2 := tT_ne hyx
  refine w.pay5 (y := y2) (ob_tT hx0 ha) ?_ (by rw [tT_eq]) hl (by rw [rowS_ne (by omega)]; exact hy) (by rw [gy]; exact h1) (by rw [gy]; exact h2) (by rw [rowS_ne (by omega)]; exact hc)
  unfold CELL
  rw [ga, tT_eq]
  exact ⟨e3, e4⟩
theorem cell_of (hw : WT T σ) (ha : OB T a 1) (hx : σ.2.1 5 a = (x : Int)) : CELL T a x ∧ IA T x := by
  obtain ⟨y, e1, e2, e3, e4⟩ := wf_5 hw ha
  have e : y = x := by omega
  subst e
  exact ⟨⟨e3, e4⟩, by unfold IA; omega⟩
end APP
/-- the cells have room -/
def HR (T : CT) (σ : MS) (a : Nat) (n : Int) : Prop := ∀ x : Nat, σ.2.1 5 a = (x : Int) → 13 * n ≤ ((T x).2 : Int)
theorem HR.of {T : CT} {σ : MS} {a x : Nat} {n : Int} (hx : σ.2.1 5 a = (x : Int)) (h : 13 * n ≤ ((T x).2 : Int)) : HR T σ a n := fun y q => by
  have e : y = x := by omega
  rw [e]; exact h

