section
def SSA (σ : MS) : Prop := ∀ y, (σ.2.1 50 y = 2 → 0 ≤ σ.2.1 51 y ∧ σ.2.1 51 y < 192) ∧ (σ.2.1 52 y = 2 → 0 ≤ σ.2.1 53 y ∧ σ.2.1 53 y < 192)
def SCA (σ : MS) : Prop := ∀ y, (σ.2.1 55 y = 2 → 0 ≤ σ.2.1 56 y ∧ σ.2.1 56 y < 192) ∧ (σ.2.1 57 y = 2 → 0 ≤ σ.2.1 58 y ∧ σ.2.1 58 y < 192)
def fNow (n w ka a kb c : Int) (σ : MS) : MS := sA 58 n c (sA 57 n kb (sA 56 n a (sA 55 n ka (sA 54 n w σ))))
def fSt (y w ka a kb c : Int) (σ : MS) : MS := sA 53 y c (sA 52 y kb (sA 51 y a (sA 50 y ka (sA 49 y w σ))))
theorem fNow_fr {n w ka a kb c : Int} {σ : MS} : Fr [] [54, 55, 56, 57, 58] [] σ (fNow n w ka a kb c σ) := ((((Fr.rfl.A (by decide)).A (by decide)).A (by decide)).A (by decide)).A (by decide)
theorem SSA.fr {ss ks js : List Nat} {σ τ : MS} (h : SSA σ) (f : Fr ss ks js σ τ) (hk : ∀ k ∈ [50, 51, 52, 53], k ∉ ks) : SSA τ := by
  unfold SSA
  rw [f.q hk (k := 50) (by decide), f.q hk (k := 51) (by decide), f.q hk (k := 52) (by decide), f.q hk (k := 53) (by decide)]
  exact h
theorem SCA.fr {ss ks js : List Nat} {σ τ : MS} (h : SCA σ) (f : Fr ss ks js σ τ) (hk : ∀ k ∈ [55, 56, 57, 58], k ∉ ks) : SCA τ := by
  unfold SCA
  rw [f.q hk (k := 55) (by decide), f.q hk (k := 56) (by decide), f.q hk (k := 57) (by decide), f.q hk (k := 58) (by decide)]
  exact h
theorem SCA.put {σ : MS} (h : SCA σ) {n w ka a kb c : Int} (h1 : ka = 2 → 0 ≤ a ∧ a < 192) (h2 : kb = 2 → 0 ≤ c ∧ c < 192) : SCA (fNow n w ka a kb c σ) := fun y => by
  simp only [fNow, sA, if_true, show ¬ (55 = 58) by decide, show ¬ (55 = 57) by decide, show ¬ (55 = 56) by decide, show ¬ (56 = 58) by decide, show ¬ (56 = 57) by decide, show ¬ (56 = 55) by decide, show ¬ (57 = 58) by decide, show ¬ (57 = 56) by decide, show ¬ (57 = 55) by decide, show ¬ (58 = 57) by decide, show ¬ (58 = 56) by decide, show ¬ (58 = 55) by decide, show ¬ (58 = 54) by decide, show ¬ (57 = 54) by decide, show ¬ (56 = 54) by decide, show ¬ (55 = 54) by decide, if_false]
  by_cases e : y = n
  · simp only [if_pos e]; exact ⟨h1, h2⟩
  · simp only [if_neg e]; exact h y
theorem SSA.put {σ : MS} (h : SSA σ) {n w ka a kb c : Int} (h1 : ka = 2 → 0 ≤ a ∧ a < 192) (h2 : kb = 2 → 0 ≤ c ∧ c < 192) : SSA (fSt n w ka a kb c σ) := fun y => by
  simp only [fSt, sA, if_true, show ¬ (50 = 53) by decide, show ¬ (50 = 52) by decide, show ¬ (50 = 51) by decide, show ¬ (50 = 49) by decide, show ¬ (51 = 53) by decide, show ¬ (51 = 52) by decide, show ¬ (51 = 50) by decide, show ¬ (51 = 49) by decide, show ¬ (52 = 53) by decide, show ¬ (52 = 51) by decide, show ¬ (52 = 50) by decide, show ¬ (52 = 49) by decide, show ¬ (53 = 52) by decide, show ¬ (53 = 51) by decide, show ¬ (53 = 50) by decide, show ¬ (53 = 49) by decide, if_false]
  by_cases e : y = n
  · simp only [if_pos e]; exact ⟨h1, h2⟩
  · simp only [if_neg e]; exact h y
theorem RG.now {σ : MS} (h : RG σ) {n w ka a kb c : Int} (h1 : (-2147483648 ≤ w ∧ w ≤ 2147483647) ∧ (-2147483648 ≤ ka ∧ ka ≤ 2147483647) ∧ (-2147483648 ≤ a ∧ a ≤ 2147483647) ∧ (-2147483648 ≤ kb ∧ kb ≤ 2147483647) ∧ (-2147483648 ≤ c ∧ c ≤ 2147483647)) : RG (fNow n w ka a kb c σ) := ((((h.A h1.1).A h1.2.1).A h1.2.2.1).A h1.2.2.2.1).A h1.2.2.2.2

theorem fl12_114 : Cond.fieldLink RX12 114 (TX12 54).1 (TX12 54).2.1 (TX12 54).2.2.1 ∈ pWW := pw7 (List.mem_of_getElem? (i := 61) rfl) rfl
theorem fl12_117 : Cond.fieldLink RX12 117 (TX12 55).1 (TX12 55).2.1 (TX12 55).2.2.1 ∈ pWW := pw7 (List.mem_of_getElem? (i := 62) rfl) rfl
theorem fl12_120 : Cond.fieldLink RX12 120 (TX12 56).1 (TX12 56).2.1 (TX12 56).2.2.1 ∈ pWW := pw7 (List.mem_of_getElem? (i := 63) rfl) rfl
theorem fl12_123 : Cond.fieldLink RX12 123 (TX12 57).1 (TX12 57).2.1 (TX12 57).2.2.1 ∈ pWW := pw7 (List.mem_of_getElem? (i := 64) rfl) rfl
theorem fl12_126 : Cond.fieldLink RX12 126 (TX12 58).1 (TX12 58).2.1 (TX12 58).2.2.1 ∈ pWW := pw7 (List.mem_of_getElem? (i := 65) rfl) rfl
theorem dX12_setNow_0 : decode cX12_setNow 0 = .ok (.aload_n 0, 1) := by decide +kernel
theorem dX12_setNow_1 : decode cX12_setNow 1 = .ok (.getfield 114, 3) := by decide +kernel
theorem dX12_setNow_4 : decode cX12_setNow 4 = .ok (.iload_n 1, 1) := by decide +kernel
theorem dX12_setNow_5 : decode cX12_setNow 5 = .ok (.iload_n 2, 1) := by decide +kernel
theorem dX12_setNow_6 : decode cX12_setNow 6 = .ok (.iastore, 1) := by decide +kernel
theorem dX12_setNow_7 : decode cX12_setNow 7 = .ok (.aload_n 0, 1) := by decide +kernel
theorem dX12_setNow_8 : decode cX12_setNow 8 = .ok (.getfield 117, 3) := by decide +kernel
theorem dX12_setNow_11 : decode cX12_setNow 11 = .ok (.iload_n 1, 1) := by decide +kernel
theorem dX12_setNow_12 : decode cX12_setNow 12 = .ok (.iload_n 3, 1) := by decide +kernel
theorem dX12_setNow_13 : decode cX12_setNow 13 = .ok (.iastore, 1) := by decide +kernel
theorem dX12_setNow_14 : decode cX12_setNow 14 = .ok (.aload_n 0, 1) := by decide +kernel
theorem dX12_setNow_15 : decode cX12_setNow 15 = .ok (.getfield 120, 3) := by decide +kernel
theorem dX12_setNow_18 : decode cX12_setNow 18 = .ok (.iload_n 1, 1) := by decide +kernel
theorem dX12_setNow_19 : decode cX12_setNow 19 = .ok (.iload 4, 2) := by decide +kernel
theorem dX12_setNow_21 : decode cX12_setNow 21 = .ok (.iastore, 1) := by decide +kernel
theorem dX12_setNow_22 : decode cX12_setNow 22 = .ok (.aload_n 0, 1) := by decide +kernel
theorem dX12_setNow_23 : decode cX12_setNow 23 = .ok (.getfield 123, 3) := by decide +kernel
theorem dX12_setNow_26 : decode cX12_setNow 26 = .ok (.iload_n 1, 1) := by decide +kernel
theorem dX12_setNow_27 : decode cX12_setNow 27 = .ok (.iload 5, 2) := by decide +kernel
theorem dX12_setNow_29 : decode cX12_setNow 29 = .ok (.iastore, 1) := by decide +kernel
theorem dX12_setNow_30 : decode cX12_setNow 30 = .ok (.aload_n 0, 1) := by decide +kernel
theorem dX12_setNow_31 : decode cX12_setNow 31 = .ok (.getfield 126, 3) := by decide +kernel
theorem dX12_setNow_34 : decode cX12_setNow 34 = .ok (.iload_n 1, 1) := by decide +kernel
theorem dX12_setNow_35 : decode cX12_setNow 35 = .ok (.iload 6, 2) := by decide +kernel
theorem dX12_setNow_37 : decode cX12_setNow 37 = .ok (.iastore, 1) := by decide +kernel
theorem dX12_setNow_38 : decode cX12_setNow 38 = .ok (.return_, 1) := by decide +kernel
set_option maxHeartbeats 40000000 in
set_option maxRecDepth 20000 in
theorem c_X12_setNow (d : Nat) {b : Nat} {σ : MS} {n : Int} {w : Int} {ka : Int} {a : Int} {kb : Int} {c : Int} (hn : 0 ≤ n ∧ n < 144) : Tm (d + 1) m_X12_setNow 0 b σ [(0, .ref b), (1, .int (iI n)), (2, .int (iI w)), (3, .int (iI ka)), (4, .int (iI a)), (5, .int (iI kb)), (6, .int (iI c))] [] (fun ro σ2 => ro = none ∧ (σ2 = fNow n w ka a kb c σ)) := by
  refine tm_aload_n dX12_setNow_0 rfl 0 rfl ?_
  refine tm_get (k := 54) (v := .ref (b + 1 + 32)) lay_12 dX12_setNow_1 (by decide) fl12_114 rfl ?_
  refine tm_iload_n dX12_setNow_4 rfl 1 rfl ?_
  refine tm_iload_n dX12_setNow_5 rfl 2 rfl ?_
  refine tm_iast (z := n) (v := w) dX12_setNow_6 (show mT[32]? = some (54, 0, 144) from rfl) (by omega) (by omega) (by decide) ?_
  refine tm_aload_n dX12_setNow_7 rfl 0 rfl ?_
  refine tm_get (k := 55) (v := .ref (b + 1 + 33)) lay_12 dX12_setNow_8 (by decide) fl12_117 rfl ?_
  refine tm_iload_n dX12_setNow_11 rfl 1 rfl ?_
  refine tm_iload_n dX12_setNow_12 rfl 3 rfl ?_
  refine tm_iast (z := n) (v := ka) dX12_setNow_13 (show mT[33]? = some (55, 0, 144) from rfl) (by omega) (by omega) (by decide) ?_
  refine tm_aload_n dX12_setNow_14 rfl 0 rfl ?_
  refine tm_get (k := 56) (v := .ref (b + 1 + 34)) lay_12 dX12_setNow_15 (by decide) fl12_120 rfl ?_
  refine tm_iload_n dX12_setNow_18 rfl 1 rfl ?_
  refine tm_iload dX12_setNow_19 4 rfl ?_
  refine tm_iast (z := n) (v := a) dX12_setNow_21 (show mT[34]? = some (56, 0, 144) from rfl) (by omega) (by omega) (by decide) ?_
  refine tm_aload_n dX12_setNow_22 rfl 0 rfl ?_
  refine tm_get (k := 57) (v := .ref (b + 1 + 35)) lay_12 dX12_setNow_23 (by decide) fl12_123 rfl ?_
  refine tm_iload_n dX12_setNow_26 rfl 1 rfl ?_
  refine tm_iload dX12_setNow_27 5 rfl ?_
  refine tm_iast (z := n) (v := kb) dX12_setNow_29 (show mT[35]? = some (57, 0, 144) from rfl) (by omega) (by omega) (by decide) ?_
  refine tm_aload_n dX12_setNow_30 rfl 0 rfl ?_
  refine tm_get (k := 58) (v := .ref (b + 1 + 36)) lay_12 dX12_setNow_31 (by decide) fl12_126 rfl ?_
  refine tm_iload_n dX12_setNow_34 rfl 1 rfl ?_
  refine tm_iload dX12_setNow_35 6 rfl ?_
  refine tm_iast (z := n) (v := c) dX12_setNow_37 (show mT[36]? = some (58, 0, 144) from rfl) (by omega) (by omega) (by decide) ?_
  exact tm_vret rfl dX12_setNow_38 (⟨rfl, rfl⟩)
theorem fl12_99 : Cond.fieldLink RX12 99 (TX12 49).1 (TX12 49).2.1 (TX12 49).2.2.1 ∈ pWW := pw7 (List.mem_of_getElem? (i := 56) rfl) rfl
theorem fl12_102 : Cond.fieldLink RX12 102 (TX12 50).1 (TX12 50).2.1 (TX12 50).2.2.1 ∈ pWW := pw7 (List.mem_of_getElem? (i := 57) rfl) rfl
theorem fl12_105 : Cond.fieldLink RX12 105 (TX12 51).1 (TX12 51).2.1 (TX12 51).2.2.1 ∈ pWW := pw7 (List.mem_of_getElem? (i := 58) rfl) rfl
theorem fl12_108 : Cond.fieldLink RX12 108 (TX12 52).1 (TX12 52).2.1 (TX12 52).2.2.1 ∈ pWW := pw7 (List.mem_of_getElem? (i := 59) rfl) rfl
theorem fl12_111 : Cond.fieldLink RX12 111 (TX12 53).1 (TX12 53).2.1 (TX12 53).2.2.1 ∈ pWW := pw7 (List.mem_of_getElem? (i := 60) rfl) rfl
theorem ml12_416 : Cond.methodLink RX12 416 yX12_setNow ∈ pWW := pw9 (List.mem_of_getElem? (i := 82) rfl) rfl
theorem dX12_behindItem_2 : decode cX12_behindItem 2 = .ok (.iload_n 3, 1) := by decide +kernel
theorem dX12_behindItem_3 : decode cX12_behindItem 3 = .ok (.sipush 144, 3) := by decide +kernel
theorem dX12_behindItem_6 : decode cX12_behindItem 6 = .ok (.if_icmp .ge 64, 3) := by decide +kernel
theorem dX12_behindItem_9 : decode cX12_behindItem 9 = .ok (.sipush 31824, 3) := by decide +kernel
theorem dX12_behindItem_12 : decode cX12_behindItem 12 = .ok (.iload_n 1, 1) := by decide +kernel
theorem dX12_behindItem_13 : decode cX12_behindItem 13 = .ok (.imul, 1) := by decide +kernel
theorem dX12_behindItem_14 : decode cX12_behindItem 14 = .ok (.sipush 144, 3) := by decide +kernel
theorem dX12_behindItem_17 : decode cX12_behindItem 17 = .ok (.iload_n 2, 1) := by decide +kernel
theorem dX12_behindItem_18 : decode cX12_behindItem 18 = .ok (.imul, 1) := by decide +kernel
theorem dX12_behindItem_19 : decode cX12_behindItem 19 = .ok (.iadd, 1) := by decide +kernel
theorem dX12_behindItem_20 : decode cX12_behindItem 20 = .ok (.iload_n 3, 1) := by decide +kernel
theorem dX12_behindItem_21 : decode cX12_behindItem 21 = .ok (.iadd, 1) := by decide +kernel
theorem dX12_behindItem_22 : decode cX12_behindItem 22 = .ok (.istore 4, 2) := by decide +kernel
theorem dX12_behindItem_24 : decode cX12_behindItem 24 = .ok (.aload_n 0, 1) := by decide +kernel
theorem dX12_behindItem_25 : decode cX12_behindItem 25 = .ok (.iload_n 3, 1) := by decide +kernel
theorem dX12_behindItem_26 : decode cX12_behindItem 26 = .ok (.aload_n 0, 1) := by decide +kernel
theorem dX12_behindItem_27 : decode cX12_behindItem 27 = .ok (.getfield 99, 3) := by decide +kernel
theorem dX12_behindItem_30 : decode cX12_behindItem 30 = .ok (.iload 4, 2) := by decide +kernel
theorem dX12_behindItem_32 : decode cX12_behindItem 32 = .ok (.iaload, 1) := by decide +kernel
theorem dX12_behindItem_33 : decode cX12_behindItem 33 = .ok (.aload_n 0, 1) := by decide +kernel
theorem dX12_behindItem_34 : decode cX12_behindItem 34 = .ok (.getfield 102, 3) := by decide +kernel
theorem dX12_behindItem_37 : decode cX12_behindItem 37 = .ok (.iload 4, 2) := by decide +kernel
theorem dX12_behindItem_39 : decode cX12_behindItem 39 = .ok (.iaload, 1) := by decide +kernel
theorem dX12_behindItem_40 : decode cX12_behindItem 40 = .ok (.aload_n 0, 1) := by decide +kernel
theorem dX12_behindItem_41 : decode cX12_behindItem 41 = .ok (.getfield 105, 3) := by decide +kernel
theorem dX12_behindItem_44 : decode cX12_behindItem 44 = .ok (.iload 4, 2) := by decide +kernel
theorem dX12_behindItem_46 : decode cX12_behindItem 46 = .ok (.iaload, 1) := by decide +kernel
theorem dX12_behindItem_47 : decode cX12_behindItem 47 = .ok (.aload_n 0, 1) := by decide +kernel
theorem dX12_behindItem_48 : decode cX12_behindItem 48 = .ok (.getfield 108, 3) := by decide +kernel
theorem dX12_behindItem_51 : decode cX12_behindItem 51 = .ok (.iload 4, 2) := by decide +kernel
theorem dX12_behindItem_53 : decode cX12_behindItem 53 = .ok (.iaload, 1) := by decide +kernel
theorem dX12_behindItem_54 : decode cX12_behindItem 54 = .ok (.aload_n 0, 1) := by decide +kernel
theorem dX12_behindItem_55 : decode cX12_behindItem 55 = .ok (.getfield 111, 3) := by decide +kernel
theorem dX12_behindItem_58 : decode cX12_behindItem 58 = .ok (.iload 4, 2) := by decide +kernel
theorem dX12_behindItem_60 : decode cX12_behindItem 60 = .ok (.iaload, 1) := by decide +kernel
theorem dX12_behindItem_61 : decode cX12_behindItem 61 = .ok (.invokevirtual 416, 3) := by decide +kernel
theorem dX12_behindItem_64 : decode cX12_behindItem 64 = .ok (.iinc 3 1, 3) := by decide +kernel
theorem dX12_behindItem_67 : decode cX12_behindItem 67 = .ok (.goto (-65), 3) := by decide +kernel
set_option maxHeartbeats 40000000 in
set_option maxRecDepth 20000 in
theorem l_behind1 (d : Nat) {b : Nat} {σ0 : MS} {r : Int} {k : Int} {post : Option Value → MS → Prop} (hr : 0 ≤ r ∧ r < 6) (hR0 : RG σ0) (hss : SSA σ0) (hk : 0 ≤ k ∧ k ≤ 220) (hx_70 : ∀ (n1 : Int) (σ : MS) , (Fr [] [54, 55, 56, 57, 58] [] σ0 σ) → (RG σ) → (SCA σ) → Tm (d + 2) m_X12_behindItem 70 b σ [(3, .int (iI n1)), (0, .ref b), (1, .int (iI r)), (2, .int (iI k))] [] post) : ∀ (n : Nat) (n1 : Int) (σ : MS) , (Fr [] [54, 55, 56, 57, 58] [] σ0 σ) → (RG σ) → (0 ≤ n1 ∧ n1 ≤ 144) → (SCA σ) → (144 - n1).toNat = n → Tm (d + 2) m_X12_behindItem 2 b σ [(3, .int (iI n1)), (0, .ref b), (1, .int (iI r)), (2, .int (iI k))] [] post := by
  intro n
  induction n using Nat.strongRecOn with
  | _ n ih =>
    intro n1 σ hF hR h0 hsc hm
    refine tm_iload_n dX12_behindItem_2 rfl 0 rfl ?_
    refine tm_sipush dX12_behindItem_3 (by decide) ?_
    refine tm_icmp_ge (tgt := 70) dX12_behindItem_6 (by decide) ⟨by omega, by omega⟩ ⟨by decide, by decide⟩ (fun h1 => ?_) (fun h1 => ?_)
    · exact tm_sub [0, 1, 2, 3] rfl (hx_70 (n1) σ (Fr.rfl.trans (Fr.sub hF (by decide) (by decide) (by decide))) hR hsc)
    · refine tm_sipush dX12_behindItem_9 (by decide) ?_
      refine tm_iload_n dX12_behindItem_12 rfl 2 rfl ?_
      refine tm_imul dX12_behindItem_13 ?_
      refine tm_sipush dX12_behindItem_14 (by decide) ?_
      refine tm_iload_n dX12_behindItem_17 rfl 3 rfl ?_
      refine tm_imul dX12_behindItem_18 ?_
      refine tm_iadd dX12_behindItem_19 ?_
      refine tm_iload_n dX12_behindItem_20 rfl 0 rfl ?_
      refine tm_iadd dX12_behindItem_21 ?_
      refine tm_istore (L' := [(4, .int (iI (((31824 * r) + (144 * k)) + n1))), (3, .int (iI n1)), (0, .ref b), (1, .int (iI r)), (2, .int (iI k))]) dX12_behindItem_22 (by decide) rfl ?_
      refine tm_aload_n dX12_behindItem_24 rfl 2 rfl ?_
      refine tm_iload_n dX12_behindItem_25 rfl 1 rfl ?_
      refine tm_aload_n dX12_behindItem_26 rfl 2 rfl ?_
      refine tm_get (k := 49) (v := .ref (b + 1 + 27)) lay_12 dX12_behindItem_27 (by decide) fl12_99 rfl ?_
      refine tm_iload dX12_behindItem_30 0 rfl ?_
      refine tm_iald (z := ((31824 * r) + (144 * k)) + n1) (v := σ0.2.1 49 (((31824 * r) + (144 * k)) + n1)) dX12_behindItem_32 (show mT[27]? = some (49, 0, 190944) from rfl) (by omega) (by omega) (by decide) (ra_F hF (by decide) (rfl)) ?_
      have g2 := RG.a hR0 49 (((31824 * r) + (144 * k)) + n1)
      refine tm_aload_n dX12_behindItem_33 rfl 2 rfl ?_
      refine tm_get (k := 50) (v := .ref (b + 1 + 28)) lay_12 dX12_behindItem_34 (by decide) fl12_102 rfl ?_
      refine tm_iload dX12_behindItem_37 0 rfl ?_
      refine tm_iald (z := ((31824 * r) + (144 * k)) + n1) (v := σ0.2.1 50 (((31824 * r) + (144 * k)) + n1)) dX12_behindItem_39 (show mT[28]? = some (50, 0, 190944) from rfl) (by omega) (by omega) (by decide) (ra_F hF (by decide) (rfl)) ?_
      have g3 := RG.a hR0 50 (((31824 * r) + (144 * k)) + n1)
      refine tm_aload_n dX12_behindItem_40 rfl 2 rfl ?_
      refine tm_get (k := 51) (v := .ref (b + 1 + 29)) lay_12 dX12_behindItem_41 (by decide) fl12_105 rfl ?_
      refine tm_iload dX12_behindItem_44 0 rfl ?_
      refine tm_iald (z := ((31824 * r) + (144 * k)) + n1) (v := σ0.2.1 51 (((31824 * r) + (144 * k)) + n1)) dX12_behindItem_46 (show mT[29]? = some (51, 0, 190944) from rfl) (by omega) (by omega) (by decide) (ra_F hF (by decide) (rfl)) ?_
      have g4 := RG.a hR0 51 (((31824 * r) + (144 * k)) + n1)
      refine tm_aload_n dX12_behindItem_47 rfl 2 rfl ?_
      refine tm_get (k := 52) (v := .ref (b + 1 + 30)) lay_12 dX12_behindItem_48 (by decide) fl12_108 rfl ?_
      refine tm_iload dX12_behindItem_51 0 rfl ?_
      refine tm_iald (z := ((31824 * r) + (144 * k)) + n1) (v := σ0.2.1 52 (((31824 * r) + (144 * k)) + n1)) dX12_behindItem_53 (show mT[30]? = some (52, 0, 190944) from rfl) (by omega) (by omega) (by decide) (ra_F hF (by decide) (rfl)) ?_
      have g5 := RG.a hR0 52 (((31824 * r) + (144 * k)) + n1)
      refine tm_aload_n dX12_behindItem_54 rfl 2 rfl ?_
      refine tm_get (k := 53) (v := .ref (b + 1 + 31)) lay_12 dX12_behindItem_55 (by decide) fl12_111 rfl ?_
      refine tm_iload dX12_behindItem_58 0 rfl ?_
      refine tm_iald (z := ((31824 * r) + (144 * k)) + n1) (v := σ0.2.1 53 (((31824 * r) + (144 * k)) + n1)) dX12_behindItem_60 (show mT[31]? = some (53, 0, 190944) from rfl) (by omega) (by omega) (by decide) (ra_F hF (by decide) (rfl)) ?_
      have g6 := RG.a hR0 53 (((31824 * r) + (144 * k)) + n1)
      refine tm_callV (M := m_X12_behindItem) (pc := 61) (ix := 416) (M' := m_X12_setNow) (As := [.int (iI n1), .int (iI (σ0.2.1 49 (((31824 * r) + (144 * k)) + n1))), .int (iI (σ0.2.1 50 (((31824 * r) + (144 * k)) + n1))), .int (iI (σ0.2.1 51 (((31824 * r) + (144 * k)) + n1))), .int (iI (σ0.2.1 52 (((31824 * r) + (144 * k)) + n1))), .int (iI (σ0.2.1 53 (((31824 * r) + (144 * k)) + n1)))]) (rest := []) dX12_behindItem_61 ok_X12_setNow im_X12_setNow se_X12_setNow ml12_416 np_X12_setNow rfl rfl (Nat.le_of_ble_eq_true rfl) (Nat.le_of_ble_eq_true rfl) rfl (c_X12_setNow (d) (σ := σ) (n := n1) (w := σ0.2.1 49 (((31824 * r) + (144 * k)) + n1)) (ka := σ0.2.1 50 (((31824 * r) + (144 * k)) + n1)) (a := σ0.2.1 51 (((31824 * r) + (144 * k)) + n1)) (kb := σ0.2.1 52 (((31824 * r) + (144 * k)) + n1)) (c := σ0.2.1 53 (((31824 * r) + (144 * k)) + n1)) (by omega)) (fun r7 σ8 hp => ?_)
      obtain ⟨rfl, f10⟩ := hp
      subst f10
      show Tm _ _ 64 b (fNow (n1) (σ0.2.1 49 (((31824 * r) + (144 * k)) + n1)) (σ0.2.1 50 (((31824 * r) + (144 * k)) + n1)) (σ0.2.1 51 (((31824 * r) + (144 * k)) + n1)) (σ0.2.1 52 (((31824 * r) + (144 * k)) + n1)) (σ0.2.1 53 (((31824 * r) + (144 * k)) + n1)) σ) [(4, .int (iI (((31824 * r) + (144 * k)) + n1))), (3, .int (iI n1)), (0, .ref b), (1, .int (iI r)), (2, .int (iI k))] [] _
      refine tm_iinc (q0 := 1) (L' := [(3, .int (iI (n1 + 1))), (4, .int (iI (((31824 * r) + (144 * k)) + n1))), (0, .ref b), (1, .int (iI r)), (2, .int (iI k))]) dX12_behindItem_64 rfl (by decide) rfl ?_
      refine tm_goto (tgt := 2) dX12_behindItem_67 (by decide) ?_
      exact tm_sub [0, 2, 3, 4] rfl (ih _ (by omega) (n1 + 1) (fNow (n1) (σ0.2.1 49 (((31824 * r) + (144 * k)) + n1)) (σ0.2.1 50 (((31824 * r) + (144 * k)) + n1)) (σ0.2.1 51 (((31824 * r) + (144 * k)) + n1)) (σ0.2.1 52 (((31824 * r) + (144 * k)) + n1)) (σ0.2.1 53 (((31824 * r) + (144 * k)) + n1)) σ) ((Fr.rfl.trans (Fr.sub hF (by decide) (by decide) (by decide))).trans (Fr.sub fNow_fr (by decide) (by decide) (by decide))) (hR.now (by omega)) (by omega) (hsc.put (hss _).1 (hss _).2) rfl)
theorem dX12_behindItem_209 : decode cX12_behindItem 209 = .ok (.iload 4, 2) := by decide +kernel
theorem dX12_behindItem_211 : decode cX12_behindItem 211 = .ok (.bipush 12, 2) := by decide +kernel
theorem dX12_behindItem_213 : decode cX12_behindItem 213 = .ok (.if_icmp .ge 31, 3) := by decide +kernel
theorem dX12_behindItem_216 : decode cX12_behindItem 216 = .ok (.aload_n 0, 1) := by decide +kernel
theorem dX12_behindItem_217 : decode cX12_behindItem 217 = .ok (.bipush 12, 2) := by decide +kernel
theorem dX12_behindItem_219 : decode cX12_behindItem 219 = .ok (.aload_n 0, 1) := by decide +kernel
theorem dX12_behindItem_220 : decode cX12_behindItem 220 = .ok (.getfield 17, 3) := by decide +kernel
theorem dX12_behindItem_223 : decode cX12_behindItem 223 = .ok (.iload_n 3, 1) := by decide +kernel
theorem dX12_behindItem_224 : decode cX12_behindItem 224 = .ok (.iaload, 1) := by decide +kernel
theorem dX12_behindItem_225 : decode cX12_behindItem 225 = .ok (.imul, 1) := by decide +kernel
theorem dX12_behindItem_226 : decode cX12_behindItem 226 = .ok (.iload 4, 2) := by decide +kernel
theorem dX12_behindItem_228 : decode cX12_behindItem 228 = .ok (.iadd, 1) := by decide +kernel
theorem dX12_behindItem_229 : decode cX12_behindItem 229 = .ok (.bipush 11, 2) := by decide +kernel
theorem dX12_behindItem_231 : decode cX12_behindItem 231 = .ok (.iconst 0, 1) := by decide +kernel
theorem dX12_behindItem_232 : decode cX12_behindItem 232 = .ok (.iconst 0, 1) := by decide +kernel
theorem dX12_behindItem_233 : decode cX12_behindItem 233 = .ok (.iconst 0, 1) := by decide +kernel
theorem dX12_behindItem_234 : decode cX12_behindItem 234 = .ok (.iconst 0, 1) := by decide +kernel
theorem dX12_behindItem_235 : decode cX12_behindItem 235 = .ok (.invokevirtual 416, 3) := by decide +kernel
theorem dX12_behindItem_238 : decode cX12_behindItem 238 = .ok (.iinc 4 1, 3) := by decide +kernel
theorem dX12_behindItem_241 : decode cX12_behindItem 241 = .ok (.goto (-32), 3) := by decide +kernel
set_option maxHeartbeats 40000000 in
set_option maxRecDepth 20000 in
theorem l_behind2 (d : Nat) {b : Nat} {σ0 : MS} {r : Int} {k : Int} {post : Option Value → MS → Prop} (hr : 0 ≤ r ∧ r < 6) (hR0 : RG σ0) (hk : 0 ≤ k ∧ k < 220) (hfe : 0 ≤ σ0.2.1 4 (220 * r + k) ∧ σ0.2.1 4 (220 * r + k) < 12) (hx_244 : ∀ (n1 : Int) (σ : MS) , (Fr [] [54, 55, 56, 57, 58] [] σ0 σ) → (RG σ) → (SCA σ) → Tm (d + 2) m_X12_behindItem 244 b σ [(4, .int (iI n1)), (3, .int (iI (220 * r + k))), (0, .ref b), (1, .int (iI r)), (2, .int (iI k))] [] post) : ∀ (n : Nat) (n1 : Int) (σ : MS) , (Fr [] [54, 55, 56, 57, 58] [] σ0 σ) → (RG σ) → (0 ≤ n1 ∧ n1 ≤ 12) → (SCA σ) → (12 - n1).toNat = n → Tm (d + 2) m_X12_behindItem 209 b σ [(4, .int (iI n1)), (3, .int (iI (220 * r + k))), (0, .ref b), (1, .int (iI r)), (2, .int (iI k))] [] post := by
  intro n
  induction n using Nat.strongRecOn with
  | _ n ih =>
    intro n1 σ hF hR h0 hsc hm
    refine tm_iload dX12_behindItem_209 0 rfl ?_
    refine tm_bipush dX12_behindItem_211 (by decide) ?_
    refine tm_icmp_ge (tgt := 244) dX12_behindItem_213 (by decide) ⟨by omega, by omega⟩ ⟨by decide, by decide⟩ (fun h1 => ?_) (fun h1 => ?_)
    · exact tm_sub [0, 1, 2, 3, 4] rfl (hx_244 (n1) σ (Fr.rfl.trans (Fr.sub hF (by decide) (by decide) (by decide))) hR hsc)
    · refine tm_aload_n dX12_behindItem_216 rfl 2 rfl ?_
      refine tm_bipush dX12_behindItem_217 (by decide) ?_
      refine tm_aload_n dX12_behindItem_219 rfl 2 rfl ?_
      refine tm_get (k := 4) (v := .ref (b + 1 + 2)) lay_12 dX12_behindItem_220 (by decide) fl12_17 rfl ?_
      refine tm_iload_n dX12_behindItem_223 rfl 1 rfl ?_
      refine tm_iald (z := 220 * r + k) (v := σ0.2.1 4 (220 * r + k)) dX12_behindItem_224 (show mT[2]? = some (4, 0, 2860) from rfl) (by omega) (by omega) (by decide) (ra_F hF (by decide) (rfl)) ?_
      have g2 := RG.a hR0 4 (220 * r + k)
      refine tm_imul dX12_behindItem_225 ?_
      refine tm_iload dX12_behindItem_226 0 rfl ?_
      refine tm_iadd dX12_behindItem_228 ?_
      refine tm_bipush dX12_behindItem_229 (by decide) ?_
      refine tm_iconst dX12_behindItem_231 ?_
      refine tm_iconst dX12_behindItem_232 ?_
      refine tm_iconst dX12_behindItem_233 ?_
      refine tm_iconst dX12_behindItem_234 ?_
      refine tm_callV (M := m_X12_behindItem) (pc := 235) (ix := 416) (M' := m_X12_setNow) (As := [.int (iI ((12 * (σ0.2.1 4 (220 * r + k))) + n1)), .int (iI 11), .int (iI 0), .int (iI 0), .int (iI 0), .int (iI 0)]) (rest := []) dX12_behindItem_235 ok_X12_setNow im_X12_setNow se_X12_setNow ml12_416 np_X12_setNow rfl rfl (Nat.le_of_ble_eq_true rfl) (Nat.le_of_ble_eq_true rfl) rfl (c_X12_setNow (d) (σ := σ) (n := (12 * (σ0.2.1 4 (220 * r + k))) + n1) (w := 11) (ka := 0) (a := 0) (kb := 0) (c := 0) (by omega)) (fun r3 σ4 hp => ?_)
      obtain ⟨rfl, f6⟩ := hp
      subst f6
      show Tm _ _ 238 b (fNow ((12 * (σ0.2.1 4 (220 * r + k))) + n1) (11) (0) (0) (0) (0) σ) [(4, .int (iI n1)), (3, .int (iI (220 * r + k))), (0, .ref b), (1, .int (iI r)), (2, .int (iI k))] [] _
      refine tm_iinc (q0 := 0) (L' := [(4, .int (iI (n1 + 1))), (3, .int (iI (220 * r + k))), (0, .ref b), (1, .int (iI r)), (2, .int (iI k))]) dX12_behindItem_238 rfl (by decide) rfl ?_
      refine tm_goto (tgt := 209) dX12_behindItem_241 (by decide) ?_
      exact tm_sub [0, 1, 2, 3, 4] rfl (ih _ (by omega) (n1 + 1) (fNow ((12 * (σ0.2.1 4 (220 * r + k))) + n1) (11) (0) (0) (0) (0) σ) ((Fr.rfl.trans (Fr.sub hF (by decide) (by decide) (by decide))).trans (Fr.sub fNow_fr (by decide) (by decide) (by decide))) (hR.now (by omega)) (by omega) (hsc.put (by omega) (by omega)) rfl)
theorem dX12_behindItem_247 : decode cX12_behindItem 247 = .ok (.iload 4, 2) := by decide +kernel
theorem dX12_behindItem_249 : decode cX12_behindItem 249 = .ok (.sipush 144, 3) := by decide +kernel
theorem dX12_behindItem_252 : decode cX12_behindItem 252 = .ok (.if_icmp .ge 87, 3) := by decide +kernel
theorem dX12_behindItem_255 : decode cX12_behindItem 255 = .ok (.aload_n 0, 1) := by decide +kernel
theorem dX12_behindItem_256 : decode cX12_behindItem 256 = .ok (.getfield 13, 3) := by decide +kernel
theorem dX12_behindItem_259 : decode cX12_behindItem 259 = .ok (.iload_n 3, 1) := by decide +kernel
theorem dX12_behindItem_260 : decode cX12_behindItem 260 = .ok (.iaload, 1) := by decide +kernel
theorem dX12_behindItem_261 : decode cX12_behindItem 261 = .ok (.invokestatic 192, 3) := by decide +kernel
theorem dX12_behindItem_264 : decode cX12_behindItem 264 = .ok (.ifCond .eq 75, 3) := by decide +kernel
theorem dX12_behindItem_267 : decode cX12_behindItem 267 = .ok (.aload_n 0, 1) := by decide +kernel
theorem dX12_behindItem_268 : decode cX12_behindItem 268 = .ok (.getfield 117, 3) := by decide +kernel
theorem dX12_behindItem_271 : decode cX12_behindItem 271 = .ok (.iload 4, 2) := by decide +kernel
theorem dX12_behindItem_273 : decode cX12_behindItem 273 = .ok (.iaload, 1) := by decide +kernel
theorem dX12_behindItem_274 : decode cX12_behindItem 274 = .ok (.iconst 2, 1) := by decide +kernel
theorem dX12_behindItem_275 : decode cX12_behindItem 275 = .ok (.if_icmp .ne 19, 3) := by decide +kernel
theorem dX12_behindItem_294 : decode cX12_behindItem 294 = .ok (.aload_n 0, 1) := by decide +kernel
theorem dX12_behindItem_295 : decode cX12_behindItem 295 = .ok (.getfield 123, 3) := by decide +kernel
theorem dX12_behindItem_298 : decode cX12_behindItem 298 = .ok (.iload 4, 2) := by decide +kernel
theorem dX12_behindItem_300 : decode cX12_behindItem 300 = .ok (.iaload, 1) := by decide +kernel
theorem dX12_behindItem_301 : decode cX12_behindItem 301 = .ok (.iconst 2, 1) := by decide +kernel
theorem dX12_behindItem_302 : decode cX12_behindItem 302 = .ok (.if_icmp .ne 31, 3) := by decide +kernel
theorem dX12_behindItem_333 : decode cX12_behindItem 333 = .ok (.iinc 4 1, 3) := by decide +kernel
theorem dX12_behindItem_336 : decode cX12_behindItem 336 = .ok (.goto (-89), 3) := by decide +kernel
theorem dX12_behindItem_305 : decode cX12_behindItem 305 = .ok (.aload_n 0, 1) := by decide +kernel
theorem dX12_behindItem_306 : decode cX12_behindItem 306 = .ok (.getfield 126, 3) := by decide +kernel
theorem dX12_behindItem_309 : decode cX12_behindItem 309 = .ok (.iload 4, 2) := by decide +kernel
theorem dX12_behindItem_311 : decode cX12_behindItem 311 = .ok (.iaload, 1) := by decide +kernel
theorem dX12_behindItem_312 : decode cX12_behindItem 312 = .ok (.aload_n 0, 1) := by decide +kernel
theorem dX12_behindItem_313 : decode cX12_behindItem 313 = .ok (.getfield 17, 3) := by decide +kernel
theorem dX12_behindItem_316 : decode cX12_behindItem 316 = .ok (.iload_n 3, 1) := by decide +kernel
theorem dX12_behindItem_317 : decode cX12_behindItem 317 = .ok (.iaload, 1) := by decide +kernel
theorem dX12_behindItem_318 : decode cX12_behindItem 318 = .ok (.if_icmp .ne 15, 3) := by decide +kernel
theorem dX12_behindItem_321 : decode cX12_behindItem 321 = .ok (.aload_n 0, 1) := by decide +kernel
theorem dX12_behindItem_322 : decode cX12_behindItem 322 = .ok (.iload 4, 2) := by decide +kernel
theorem dX12_behindItem_324 : decode cX12_behindItem 324 = .ok (.bipush 13, 2) := by decide +kernel
theorem dX12_behindItem_326 : decode cX12_behindItem 326 = .ok (.iconst 0, 1) := by decide +kernel
theorem dX12_behindItem_327 : decode cX12_behindItem 327 = .ok (.iconst 0, 1) := by decide +kernel
theorem dX12_behindItem_328 : decode cX12_behindItem 328 = .ok (.iconst 0, 1) := by decide +kernel
theorem dX12_behindItem_329 : decode cX12_behindItem 329 = .ok (.iconst 0, 1) := by decide +kernel
theorem dX12_behindItem_330 : decode cX12_behindItem 330 = .ok (.invokevirtual 416, 3) := by decide +kernel
theorem dX12_behindItem_278 : decode cX12_behindItem 278 = .ok (.aload_n 0, 1) := by decide +kernel
theorem dX12_behindItem_279 : decode cX12_behindItem 279 = .ok (.getfield 120, 3) := by decide +kernel
theorem dX12_behindItem_282 : decode cX12_behindItem 282 = .ok (.iload 4, 2) := by decide +kernel
theorem dX12_behindItem_284 : decode cX12_behindItem 284 = .ok (.iaload, 1) := by decide +kernel
theorem dX12_behindItem_285 : decode cX12_behindItem 285 = .ok (.aload_n 0, 1) := by decide +kernel
theorem dX12_behindItem_286 : decode cX12_behindItem 286 = .ok (.getfield 17, 3) := by decide +kernel
theorem dX12_behindItem_289 : decode cX12_behindItem 289 = .ok (.iload_n 3, 1) := by decide +kernel
theorem dX12_behindItem_290 : decode cX12_behindItem 290 = .ok (.iaload, 1) := by decide +kernel
theorem dX12_behindItem_291 : decode cX12_behindItem 291 = .ok (.if_icmp .eq 30, 3) := by decide +kernel
set_option maxHeartbeats 40000000 in
set_option maxRecDepth 20000 in
theorem l_behind3 (d : Nat) {b : Nat} {σ0 : MS} {r : Int} {k : Int} {post : Option Value → MS → Prop} (hr : 0 ≤ r ∧ r < 6) (hR0 : RG σ0) (hk : 0 ≤ k ∧ k < 220) (hx_339 : ∀ (n1 : Int) (σ : MS) , (Fr [] [54, 55, 56, 57, 58] [] σ0 σ) → (RG σ) → (SCA σ) → Tm (d + 2) m_X12_behindItem 339 b σ [(4, .int (iI n1)), (3, .int (iI (220 * r + k))), (0, .ref b), (1, .int (iI r)), (2, .int (iI k))] [] post) : ∀ (n : Nat) (n1 : Int) (σ : MS) , (Fr [] [54, 55, 56, 57, 58] [] σ0 σ) → (RG σ) → (0 ≤ n1 ∧ n1 ≤ 144) → (SCA σ) → (144 - n1).toNat = n → Tm (d + 2) m_X12_behindItem 247 b σ [(4, .int (iI n1)), (3, .int (iI (220 * r + k))), (0, .ref b), (1, .int (iI r)), (2, .int (iI k))] [] post := by
  intro n
  induction n using Nat.strongRecOn with
  | _ n ih =>
    intro n1 σ hF hR h0 hsc hm
    refine tm_iload dX12_behindItem_247 0 rfl ?_
    refine tm_sipush dX12_behindItem_249 (by decide) ?_
    refine tm_icmp_ge (tgt := 339) dX12_behindItem_252 (by decide) ⟨by omega, by omega⟩ ⟨by decide, by decide⟩ (fun h1 => ?_) (fun h1 => ?_)
    · exact tm_sub [0, 1, 2, 3, 4] rfl (hx_339 (n1) σ (Fr.rfl.trans (Fr.sub hF (by decide) (by decide) (by decide))) hR hsc)
    · refine tm_aload_n dX12_behindItem_255 rfl 2 rfl ?_
      refine tm_get (k := 3) (v := .ref (b + 1 + 1)) lay_12 dX12_behindItem_256 (by decide) fl12_13 rfl ?_
      refine tm_iload_n dX12_behindItem_259 rfl 1 rfl ?_
      refine tm_iald (z := 220 * r + k) (v := σ0.2.1 3 (220 * r + k)) dX12_behindItem_260 (show mT[1]? = some (3, 0, 2860) from rfl) (by omega) (by omega) (by decide) (ra_F hF (by decide) (rfl)) ?_
      have g2 := RG.a hR0 3 (220 * r + k)
      refine tm_callS (M := m_X12_behindItem) (pc := 261) (ix := 192) (M' := m_X12_writes) (As := [.int (iI (σ0.2.1 3 (220 * r + k)))]) (rest := []) dX12_behindItem_261 ok_X12_writes stt_X12_writes ml12_192 np_X12_writes rfl (Nat.le_of_ble_eq_true rfl) (Nat.le_of_ble_eq_true rfl) rfl (c_X12_writes (d) (σ := σ) (x := σ0.2.1 3 (220 * r + k)) (by omega)) (fun r3 σ4 hp => ?_)
      obtain ⟨v5, rfl, rfl, f6, f7⟩ := hp
      show Tm _ _ 264 b σ [(4, .int (iI n1)), (3, .int (iI (220 * r + k))), (0, .ref b), (1, .int (iI r)), (2, .int (iI k))] [.int (iI v5)] _
      refine tm_if_eq (tgt := 339) dX12_behindItem_264 (by decide) ⟨by omega, by omega⟩ (fun h8 => ?_) (fun h8 => ?_)
      · exact tm_sub [0, 1, 2, 3, 4] rfl (hx_339 (n1) σ (Fr.rfl.trans (Fr.sub hF (by decide) (by decide) (by decide))) hR hsc)
      · refine tm_aload_n dX12_behindItem_267 rfl 2 rfl ?_
        refine tm_get (k := 55) (v := .ref (b + 1 + 33)) lay_12 dX12_behindItem_268 (by decide) fl12_117 rfl ?_
        refine tm_iload dX12_behindItem_271 0 rfl ?_
        refine tm_iald (z := n1) (v := σ.2.1 55 n1) dX12_behindItem_273 (show mT[33]? = some (55, 0, 144) from rfl) (by omega) (by omega) (by decide) (rfl) ?_
        have g9 := RG.a hR 55 (n1)
        refine tm_iconst dX12_behindItem_274 ?_
        refine tm_icmp_ne (tgt := 294) dX12_behindItem_275 (by decide) ⟨by omega, by omega⟩ ⟨by decide, by decide⟩ (fun h10 => ?_) (fun h10 => ?_)
        · refine tm_aload_n dX12_behindItem_294 rfl 2 rfl ?_
          refine tm_get (k := 57) (v := .ref (b + 1 + 35)) lay_12 dX12_behindItem_295 (by decide) fl12_123 rfl ?_
          refine tm_iload dX12_behindItem_298 0 rfl ?_
          refine tm_iald (z := n1) (v := σ.2.1 57 n1) dX12_behindItem_300 (show mT[35]? = some (57, 0, 144) from rfl) (by omega) (by omega) (by decide) (rfl) ?_
          have g11 := RG.a hR 57 (n1)
          refine tm_iconst dX12_behindItem_301 ?_
          refine tm_icmp_ne (tgt := 333) dX12_behindItem_302 (by decide) ⟨by omega, by omega⟩ ⟨by decide, by decide⟩ (fun h12 => ?_) (fun h12 => ?_)
          · refine tm_iinc (q0 := 0) (L' := [(4, .int (iI (n1 + 1))), (3, .int (iI (220 * r + k))), (0, .ref b), (1, .int (iI r)), (2, .int (iI k))]) dX12_behindItem_333 rfl (by decide) rfl ?_
            refine tm_goto (tgt := 247) dX12_behindItem_336 (by decide) ?_
            exact tm_sub [0, 1, 2, 3, 4] rfl (ih _ (by omega) (n1 + 1) σ (Fr.rfl.trans (Fr.sub hF (by decide) (by decide) (by decide))) hR (by omega) (by first | exact hsc | exact hsc.put (by omega) (by omega)) rfl)
          · refine tm_aload_n dX12_behindItem_305 rfl 2 rfl ?_
            refine tm_get (k := 58) (v := .ref (b + 1 + 36)) lay_12 dX12_behindItem_306 (by decide) fl12_126 rfl ?_
            refine tm_iload dX12_behindItem_309 0 rfl ?_
            refine tm_iald (z := n1) (v := σ.2.1 58 n1) dX12_behindItem_311 (show mT[36]? = some (58, 0, 144) from rfl) (by omega) (by omega) (by decide) (rfl) ?_
            have g13 := RG.a hR 58 (n1)
            refine tm_aload_n dX12_behindItem_312 rfl 2 rfl ?_
            refine tm_get (k := 4) (v := .ref (b + 1 + 2)) lay_12 dX12_behindItem_313 (by decide) fl12_17 rfl ?_
            refine tm_iload_n dX12_behindItem_316 rfl 1 rfl ?_
            refine tm_iald (z := 220 * r + k) (v := σ0.2.1 4 (220 * r + k)) dX12_behindItem_317 (show mT[2]? = some (4, 0, 2860) from rfl) (by omega) (by omega) (by decide) (ra_F hF (by decide) (rfl)) ?_
            have g14 := RG.a hR0 4 (220 * r + k)
            refine tm_icmp_ne (tgt := 333) dX12_behindItem_318 (by decide) ⟨by omega, by omega⟩ ⟨by omega, by omega⟩ (fun h15 => ?_) (fun h15 => ?_)
            · refine tm_iinc (q0 := 0) (L' := [(4, .int (iI (n1 + 1))), (3, .int (iI (220 * r + k))), (0, .ref b), (1, .int (iI r)), (2, .int (iI k))]) dX12_behindItem_333 rfl (by decide) rfl ?_
              refine tm_goto (tgt := 247) dX12_behindItem_336 (by decide) ?_
              exact tm_sub [0, 1, 2, 3, 4] rfl (ih _ (by omega) (n1 + 1) σ (Fr.rfl.trans (Fr.sub hF (by decide) (by decide) (by decide))) hR (by omega) (by first | exact hsc | exact hsc.put (by omega) (by omega)) rfl)
            · refine tm_aload_n dX12_behindItem_321 rfl 2 rfl ?_
              refine tm_iload dX12_behindItem_322 0 rfl ?_
              refine tm_bipush dX12_behindItem_324 (by decide) ?_
              refine tm_iconst dX12_behindItem_326 ?_
              refine tm_iconst dX12_behindItem_327 ?_
              refine tm_iconst dX12_behindItem_328 ?_
              refine tm_iconst dX12_behindItem_329 ?_
              refine tm_callV (M := m_X12_behindItem) (pc := 330) (ix := 416) (M' := m_X12_setNow) (As := [.int (iI n1), .int (iI 13), .int (iI 0), .int (iI 0), .int (iI 0), .int (iI 0)]) (rest := []) dX12_behindItem_330 ok_X12_setNow im_X12_setNow se_X12_setNow ml12_416 np_X12_setNow rfl rfl (Nat.le_of_ble_eq_true rfl) (Nat.le_of_ble_eq_true rfl) rfl (c_X12_setNow (d) (σ := σ) (n := n1) (w := 13) (ka := 0) (a := 0) (kb := 0) (c := 0) (by omega)) (fun r16 σ17 hp => ?_)
              obtain ⟨rfl, f19⟩ := hp
              subst f19
              show Tm _ _ 333 b (fNow (n1) (13) (0) (0) (0) (0) σ) [(4, .int (iI n1)), (3, .int (iI (220 * r + k))), (0, .ref b), (1, .int (iI r)), (2, .int (iI k))] [] _
              refine tm_iinc (q0 := 0) (L' := [(4, .int (iI (n1 + 1))), (3, .int (iI (220 * r + k))), (0, .ref b), (1, .int (iI r)), (2, .int (iI k))]) dX12_behindItem_333 rfl (by decide) rfl ?_
              refine tm_goto (tgt := 247) dX12_behindItem_336 (by decide) ?_
              exact tm_sub [0, 1, 2, 3, 4] rfl (ih _ (by omega) (n1 + 1) (fNow (n1) (13) (0) (0) (0) (0) σ) ((Fr.rfl.trans (Fr.sub hF (by decide) (by decide) (by decide))).trans (Fr.sub fNow_fr (by decide) (by decide) (by decide))) (hR.now (by omega)) (by omega) (by first | exact hsc | exact hsc.put (by omega) (by omega)) rfl)
        · refine tm_aload_n dX12_behindItem_278 rfl 2 rfl ?_
          refine tm_get (k := 56) (v := .ref (b + 1 + 34)) lay_12 dX12_behindItem_279 (by decide) fl12_120 rfl ?_
          refine tm_iload dX12_behindItem_282 0 rfl ?_
          refine tm_iald (z := n1) (v := σ.2.1 56 n1) dX12_behindItem_284 (show mT[34]? = some (56, 0, 144) from rfl) (by omega) (by omega) (by decide) (rfl) ?_
          have g20 := RG.a hR 56 (n1)
          refine tm_aload_n dX12_behindItem_285 rfl 2 rfl ?_
          refine tm_get (k := 4) (v := .ref (b + 1 + 2)) lay_12 dX12_behindItem_286 (by decide) fl12_17 rfl ?_
          refine tm_iload_n dX12_behindItem_289 rfl 1 rfl ?_
          refine tm_iald (z := 220 * r + k) (v := σ0.2.1 4 (220 * r + k)) dX12_behindItem_290 (show mT[2]? = some (4, 0, 2860) from rfl) (by omega) (by omega) (by decide) (ra_F hF (by decide) (rfl)) ?_
          have g21 := RG.a hR0 4 (220 * r + k)
          refine tm_icmp_eq (tgt := 321) dX12_behindItem_291 (by decide) ⟨by omega, by omega⟩ ⟨by omega, by omega⟩ (fun h22 => ?_) (fun h22 => ?_)
          · refine tm_aload_n dX12_behindItem_321 rfl 2 rfl ?_
            refine tm_iload dX12_behindItem_322 0 rfl ?_
            refine tm_bipush dX12_behindItem_324 (by decide) ?_
            refine tm_iconst dX12_behindItem_326 ?_
            refine tm_iconst dX12_behindItem_327 ?_
            refine tm_iconst dX12_behindItem_328 ?_
            refine tm_iconst dX12_behindItem_329 ?_
            refine tm_callV (M := m_X12_behindItem) (pc := 330) (ix := 416) (M' := m_X12_setNow) (As := [.int (iI n1), .int (iI 13), .int (iI 0), .int (iI 0), .int (iI 0), .int (iI 0)]) (rest := []) dX12_behindItem_330 ok_X12_setNow im_X12_setNow se_X12_setNow ml12_416 np_X12_setNow rfl rfl (Nat.le_of_ble_eq_true rfl) (Nat.le_of_ble_eq_true rfl) rfl (c_X12_setNow (d) (σ := σ) (n := n1) (w := 13) (ka := 0) (a := 0) (kb := 0) (c := 0) (by omega)) (fun r23 σ24 hp => ?_)
            obtain ⟨rfl, f26⟩ := hp
            subst f26
            show Tm _ _ 333 b (fNow (n1) (13) (0) (0) (0) (0) σ) [(4, .int (iI n1)), (3, .int (iI (220 * r + k))), (0, .ref b), (1, .int (iI r)), (2, .int (iI k))] [] _
            refine tm_iinc (q0 := 0) (L' := [(4, .int (iI (n1 + 1))), (3, .int (iI (220 * r + k))), (0, .ref b), (1, .int (iI r)), (2, .int (iI k))]) dX12_behindItem_333 rfl (by decide) rfl ?_
            refine tm_goto (tgt := 247) dX12_behindItem_336 (by decide) ?_
            exact tm_sub [0, 1, 2, 3, 4] rfl (ih _ (by omega) (n1 + 1) (fNow (n1) (13) (0) (0) (0) (0) σ) ((Fr.rfl.trans (Fr.sub hF (by decide) (by decide) (by decide))).trans (Fr.sub fNow_fr (by decide) (by decide) (by decide))) (hR.now (by omega)) (by omega) (by first | exact hsc | exact hsc.put (by omega) (by omega)) rfl)
          · refine tm_aload_n dX12_behindItem_294 rfl 2 rfl ?_
            refine tm_get (k := 57) (v := .ref (b + 1 + 35)) lay_12 dX12_behindItem_295 (by decide) fl12_123 rfl ?_
            refine tm_iload dX12_behindItem_298 0 rfl ?_
            refine tm_iald (z := n1) (v := σ.2.1 57 n1) dX12_behindItem_300 (show mT[35]? = some (57, 0, 144) from rfl) (by omega) (by omega) (by decide) (rfl) ?_
            have g27 := RG.a hR 57 (n1)
            refine tm_iconst dX12_behindItem_301 ?_
            refine tm_icmp_ne (tgt := 333) dX12_behindItem_302 (by decide) ⟨by omega, by omega⟩ ⟨by decide, by decide⟩ (fun h28 => ?_) (fun h28 => ?_)
            · refine tm_iinc (q0 := 0) (L' := [(4, .int (iI (n1 + 1))), (3, .int (iI (220 * r + k))), (0, .ref b), (1, .int (iI r)), (2, .int (iI k))]) dX12_behindItem_333 rfl (by decide) rfl ?_
              refine tm_goto (tgt := 247) dX12_behindItem_336 (by decide) ?_
              exact tm_sub [0, 1, 2, 3, 4] rfl (ih _ (by omega) (n1 + 1) σ (Fr.rfl.trans (Fr.sub hF (by decide) (by decide) (by decide))) hR (by omega) (by first | exact hsc | exact hsc.put (by omega) (by omega)) rfl)
            · refine tm_aload_n dX12_behindItem_305 rfl 2 rfl ?_
              refine tm_get (k := 58) (v := .ref (b + 1 + 36)) lay_12 dX12_behindItem_306 (by decide) fl12_126 rfl ?_
              refine tm_iload dX12_behindItem_309 0 rfl ?_
              refine tm_iald (z := n1) (v := σ.2.1 58 n1) dX12_behindItem_311 (show mT[36]? = some (58, 0, 144) from rfl) (by omega) (by omega) (by decide) (rfl) ?_
              have g29 := RG.a hR 58 (n1)
              refine tm_aload_n dX12_behindItem_312 rfl 2 rfl ?_
              refine tm_get (k := 4) (v := .ref (b + 1 + 2)) lay_12 dX12_behindItem_313 (by decide) fl12_17 rfl ?_
              refine tm_iload_n dX12_behindItem_316 rfl 1 rfl ?_
              refine tm_iald (z := 220 * r + k) (v := σ0.2.1 4 (220 * r + k)) dX12_behindItem_317 (show mT[2]? = some (4, 0, 2860) from rfl) (by omega) (by omega) (by decide) (ra_F hF (by decide) (rfl)) ?_
              have g30 := RG.a hR0 4 (220 * r + k)
              refine tm_icmp_ne (tgt := 333) dX12_behindItem_318 (by decide) ⟨by omega, by omega⟩ ⟨by omega, by omega⟩ (fun h31 => ?_) (fun h31 => ?_)
              · refine tm_iinc (q0 := 0) (L' := [(4, .int (iI (n1 + 1))), (3, .int (iI (220 * r + k))), (0, .ref b), (1, .int (iI r)), (2, .int (iI k))]) dX12_behindItem_333 rfl (by decide) rfl ?_
                refine tm_goto (tgt := 247) dX12_behindItem_336 (by decide) ?_
                exact tm_sub [0, 1, 2, 3, 4] rfl (ih _ (by omega) (n1 + 1) σ (Fr.rfl.trans (Fr.sub hF (by decide) (by decide) (by decide))) hR (by omega) (by first | exact hsc | exact hsc.put (by omega) (by omega)) rfl)
              · refine tm_aload_n dX12_behindItem_321 rfl 2 rfl ?_
                refine tm_iload dX12_behindItem_322 0 rfl ?_
                refine tm_bipush dX12_behindItem_324 (by decide) ?_
                refine tm_iconst dX12_behindItem_326 ?_
                refine tm_iconst dX12_behindItem_327 ?_
                refine tm_iconst dX12_behindItem_328 ?_
                refine tm_iconst dX12_behindItem_329 ?_
                refine tm_callV (M := m_X12_behindItem) (pc := 330) (ix := 416) (M' := m_X12_setNow) (As := [.int (iI n1), .int (iI 13), .int (iI 0), .int (iI 0), .int (iI 0), .int (iI 0)]) (rest := []) dX12_behindItem_330 ok_X12_setNow im_X12_setNow se_X12_setNow ml12_416 np_X12_setNow rfl rfl (Nat.le_of_ble_eq_true rfl) (Nat.le_of_ble_eq_true rfl) rfl (c_X12_setNow (d) (σ := σ) (n := n1) (w := 13) (ka := 0) (a := 0) (kb := 0) (c := 0) (by omega)) (fun r32 σ33 hp => ?_)
                obtain ⟨rfl, f35⟩ := hp
                subst f35
                show Tm _ _ 333 b (fNow (n1) (13) (0) (0) (0) (0) σ) [(4, .int (iI n1)), (3, .int (iI (220 * r + k))), (0, .ref b), (1, .int (iI r)), (2, .int (iI k))] [] _
                refine tm_iinc (q0 := 0) (L' := [(4, .int (iI (n1 + 1))), (3, .int (iI (220 * r + k))), (0, .ref b), (1, .int (iI r)), (2, .int (iI k))]) dX12_behindItem_333 rfl (by decide) rfl ?_
                refine tm_goto (tgt := 247) dX12_behindItem_336 (by decide) ?_
                exact tm_sub [0, 1, 2, 3, 4] rfl (ih _ (by omega) (n1 + 1) (fNow (n1) (13) (0) (0) (0) (0) σ) ((Fr.rfl.trans (Fr.sub hF (by decide) (by decide) (by decide))).trans (Fr.sub fNow_fr (by decide) (by decide) (by decide))) (hR.now (by omega)) (by omega) (by first | exact hsc | exact hsc.put (by omega) (by omega)) rfl)
theorem dX12_behindItem_0 : decode cX12_behindItem 0 = .ok (.iconst 0, 1) := by decide +kernel
theorem dX12_behindItem_1 : decode cX12_behindItem 1 = .ok (.istore_n 3, 1) := by decide +kernel
theorem dX12_behindItem_70 : decode cX12_behindItem 70 = .ok (.aload_n 0, 1) := by decide +kernel
theorem dX12_behindItem_71 : decode cX12_behindItem 71 = .ok (.iload_n 1, 1) := by decide +kernel
theorem dX12_behindItem_72 : decode cX12_behindItem 72 = .ok (.iload_n 2, 1) := by decide +kernel
theorem dX12_behindItem_73 : decode cX12_behindItem 73 = .ok (.invokevirtual 203, 3) := by decide +kernel
theorem dX12_behindItem_76 : decode cX12_behindItem 76 = .ok (.istore_n 3, 1) := by decide +kernel
theorem dX12_behindItem_77 : decode cX12_behindItem 77 = .ok (.aload_n 0, 1) := by decide +kernel
theorem dX12_behindItem_78 : decode cX12_behindItem 78 = .ok (.getfield 13, 3) := by decide +kernel
theorem dX12_behindItem_81 : decode cX12_behindItem 81 = .ok (.iload_n 3, 1) := by decide +kernel
theorem dX12_behindItem_82 : decode cX12_behindItem 82 = .ok (.iaload, 1) := by decide +kernel
theorem dX12_behindItem_83 : decode cX12_behindItem 83 = .ok (.bipush 12, 2) := by decide +kernel
theorem dX12_behindItem_85 : decode cX12_behindItem 85 = .ok (.if_icmp .ne 110, 3) := by decide +kernel
theorem dX12_behindItem_195 : decode cX12_behindItem 195 = .ok (.aload_n 0, 1) := by decide +kernel
theorem dX12_behindItem_196 : decode cX12_behindItem 196 = .ok (.getfield 13, 3) := by decide +kernel
theorem dX12_behindItem_199 : decode cX12_behindItem 199 = .ok (.iload_n 3, 1) := by decide +kernel
theorem dX12_behindItem_200 : decode cX12_behindItem 200 = .ok (.iaload, 1) := by decide +kernel
theorem dX12_behindItem_201 : decode cX12_behindItem 201 = .ok (.bipush 15, 2) := by decide +kernel
theorem dX12_behindItem_203 : decode cX12_behindItem 203 = .ok (.if_icmp .ne 41, 3) := by decide +kernel
theorem dX12_behindItem_244 : decode cX12_behindItem 244 = .ok (.iconst 0, 1) := by decide +kernel
theorem dX12_behindItem_245 : decode cX12_behindItem 245 = .ok (.istore 4, 2) := by decide +kernel
theorem dX12_behindItem_339 : decode cX12_behindItem 339 = .ok (.return_, 1) := by decide +kernel
theorem dX12_behindItem_206 : decode cX12_behindItem 206 = .ok (.iconst 0, 1) := by decide +kernel
theorem dX12_behindItem_207 : decode cX12_behindItem 207 = .ok (.istore 4, 2) := by decide +kernel
theorem dX12_behindItem_88 : decode cX12_behindItem 88 = .ok (.aload_n 0, 1) := by decide +kernel
theorem dX12_behindItem_89 : decode cX12_behindItem 89 = .ok (.iload_n 3, 1) := by decide +kernel
theorem dX12_behindItem_90 : decode cX12_behindItem 90 = .ok (.invokevirtual 199, 3) := by decide +kernel
theorem dX12_behindItem_93 : decode cX12_behindItem 93 = .ok (.istore 4, 2) := by decide +kernel
theorem dX12_behindItem_95 : decode cX12_behindItem 95 = .ok (.aload_n 0, 1) := by decide +kernel
theorem dX12_behindItem_96 : decode cX12_behindItem 96 = .ok (.bipush 12, 2) := by decide +kernel
theorem dX12_behindItem_98 : decode cX12_behindItem 98 = .ok (.aload_n 0, 1) := by decide +kernel
theorem dX12_behindItem_99 : decode cX12_behindItem 99 = .ok (.getfield 20, 3) := by decide +kernel
theorem dX12_behindItem_102 : decode cX12_behindItem 102 = .ok (.iload_n 3, 1) := by decide +kernel
theorem dX12_behindItem_103 : decode cX12_behindItem 103 = .ok (.iaload, 1) := by decide +kernel
theorem dX12_behindItem_104 : decode cX12_behindItem 104 = .ok (.imul, 1) := by decide +kernel
theorem dX12_behindItem_105 : decode cX12_behindItem 105 = .ok (.aload_n 0, 1) := by decide +kernel
theorem dX12_behindItem_106 : decode cX12_behindItem 106 = .ok (.getfield 17, 3) := by decide +kernel
theorem dX12_behindItem_109 : decode cX12_behindItem 109 = .ok (.iload_n 3, 1) := by decide +kernel
theorem dX12_behindItem_110 : decode cX12_behindItem 110 = .ok (.iaload, 1) := by decide +kernel
theorem dX12_behindItem_111 : decode cX12_behindItem 111 = .ok (.iadd, 1) := by decide +kernel
theorem dX12_behindItem_112 : decode cX12_behindItem 112 = .ok (.aload_n 0, 1) := by decide +kernel
theorem dX12_behindItem_113 : decode cX12_behindItem 113 = .ok (.getfield 23, 3) := by decide +kernel
theorem dX12_behindItem_116 : decode cX12_behindItem 116 = .ok (.iload_n 3, 1) := by decide +kernel
theorem dX12_behindItem_117 : decode cX12_behindItem 117 = .ok (.iaload, 1) := by decide +kernel
theorem dX12_behindItem_118 : decode cX12_behindItem 118 = .ok (.iload 4, 2) := by decide +kernel
theorem dX12_behindItem_120 : decode cX12_behindItem 120 = .ok (.ifCond .le 14, 3) := by decide +kernel
theorem dX12_behindItem_134 : decode cX12_behindItem 134 = .ok (.iconst 0, 1) := by decide +kernel
theorem dX12_behindItem_135 : decode cX12_behindItem 135 = .ok (.iload 4, 2) := by decide +kernel
theorem dX12_behindItem_137 : decode cX12_behindItem 137 = .ok (.ifCond .le 14, 3) := by decide +kernel
theorem dX12_behindItem_151 : decode cX12_behindItem 151 = .ok (.iconst 0, 1) := by decide +kernel
theorem dX12_behindItem_152 : decode cX12_behindItem 152 = .ok (.iload 4, 2) := by decide +kernel
theorem dX12_behindItem_154 : decode cX12_behindItem 154 = .ok (.iconst 1, 1) := by decide +kernel
theorem dX12_behindItem_155 : decode cX12_behindItem 155 = .ok (.if_icmp .le 16, 3) := by decide +kernel
theorem dX12_behindItem_171 : decode cX12_behindItem 171 = .ok (.iconst 0, 1) := by decide +kernel
theorem dX12_behindItem_172 : decode cX12_behindItem 172 = .ok (.iload 4, 2) := by decide +kernel
theorem dX12_behindItem_174 : decode cX12_behindItem 174 = .ok (.iconst 1, 1) := by decide +kernel
theorem dX12_behindItem_175 : decode cX12_behindItem 175 = .ok (.if_icmp .le 16, 3) := by decide +kernel
theorem dX12_behindItem_191 : decode cX12_behindItem 191 = .ok (.iconst 0, 1) := by decide +kernel
theorem dX12_behindItem_192 : decode cX12_behindItem 192 = .ok (.invokevirtual 416, 3) := by decide +kernel
theorem dX12_behindItem_158 : decode cX12_behindItem 158 = .ok (.aload_n 0, 1) := by decide +kernel
theorem dX12_behindItem_159 : decode cX12_behindItem 159 = .ok (.getfield 26, 3) := by decide +kernel
theorem dX12_behindItem_162 : decode cX12_behindItem 162 = .ok (.iconst 4, 1) := by decide +kernel
theorem dX12_behindItem_163 : decode cX12_behindItem 163 = .ok (.iload_n 3, 1) := by decide +kernel
theorem dX12_behindItem_164 : decode cX12_behindItem 164 = .ok (.imul, 1) := by decide +kernel
theorem dX12_behindItem_165 : decode cX12_behindItem 165 = .ok (.iconst 1, 1) := by decide +kernel
theorem dX12_behindItem_166 : decode cX12_behindItem 166 = .ok (.iadd, 1) := by decide +kernel
theorem dX12_behindItem_167 : decode cX12_behindItem 167 = .ok (.iaload, 1) := by decide +kernel
theorem dX12_behindItem_168 : decode cX12_behindItem 168 = .ok (.goto 4, 3) := by decide +kernel
theorem dX12_behindItem_178 : decode cX12_behindItem 178 = .ok (.aload_n 0, 1) := by decide +kernel
theorem dX12_behindItem_179 : decode cX12_behindItem 179 = .ok (.getfield 29, 3) := by decide +kernel
theorem dX12_behindItem_182 : decode cX12_behindItem 182 = .ok (.iconst 4, 1) := by decide +kernel
theorem dX12_behindItem_183 : decode cX12_behindItem 183 = .ok (.iload_n 3, 1) := by decide +kernel
theorem dX12_behindItem_184 : decode cX12_behindItem 184 = .ok (.imul, 1) := by decide +kernel
theorem dX12_behindItem_185 : decode cX12_behindItem 185 = .ok (.iconst 1, 1) := by decide +kernel
theorem dX12_behindItem_186 : decode cX12_behindItem 186 = .ok (.iadd, 1) := by decide +kernel
theorem dX12_behindItem_187 : decode cX12_behindItem 187 = .ok (.iaload, 1) := by decide +kernel
theorem dX12_behindItem_188 : decode cX12_behindItem 188 = .ok (.goto 4, 3) := by decide +kernel
theorem dX12_behindItem_123 : decode cX12_behindItem 123 = .ok (.aload_n 0, 1) := by decide +kernel
theorem dX12_behindItem_124 : decode cX12_behindItem 124 = .ok (.getfield 26, 3) := by decide +kernel
theorem dX12_behindItem_127 : decode cX12_behindItem 127 = .ok (.iconst 4, 1) := by decide +kernel
theorem dX12_behindItem_128 : decode cX12_behindItem 128 = .ok (.iload_n 3, 1) := by decide +kernel
theorem dX12_behindItem_129 : decode cX12_behindItem 129 = .ok (.imul, 1) := by decide +kernel
theorem dX12_behindItem_130 : decode cX12_behindItem 130 = .ok (.iaload, 1) := by decide +kernel
theorem dX12_behindItem_131 : decode cX12_behindItem 131 = .ok (.goto 4, 3) := by decide +kernel
theorem dX12_behindItem_140 : decode cX12_behindItem 140 = .ok (.aload_n 0, 1) := by decide +kernel
theorem dX12_behindItem_141 : decode cX12_behindItem 141 = .ok (.getfield 29, 3) := by decide +kernel
theorem dX12_behindItem_144 : decode cX12_behindItem 144 = .ok (.iconst 4, 1) := by decide +kernel
theorem dX12_behindItem_145 : decode cX12_behindItem 145 = .ok (.iload_n 3, 1) := by decide +kernel
theorem dX12_behindItem_146 : decode cX12_behindItem 146 = .ok (.imul, 1) := by decide +kernel
theorem dX12_behindItem_147 : decode cX12_behindItem 147 = .ok (.iaload, 1) := by decide +kernel
theorem dX12_behindItem_148 : decode cX12_behindItem 148 = .ok (.goto 4, 3) := by decide +kernel
set_option maxHeartbeats 40000000 in
set_option maxRecDepth 20000 in
theorem c_X12_behindItem (d : Nat) {b : Nat} {σ : MS} {r : Int} {k : Int} {F : Int} (hr : 0 ≤ r ∧ r < 6) (hR : RG σ) (hit : ITM σ) (hpar : PAR σ) (hok : OKS σ F r) (hF12 : 1 ≤ F ∧ F ≤ 12) (hss : SSA σ) (hsc : SCA σ) (hk : 0 ≤ k ∧ k < σ.2.1 9 r) : Tm (d + 4) m_X12_behindItem 0 b σ [(0, .ref b), (1, .int (iI r)), (2, .int (iI k))] [] (fun ro σ2 => ro = none ∧ (Fr [] [54, 55, 56, 57, 58] [] σ σ2) ∧ (RG σ2) ∧ (SCA σ2)) := by
  have q1 := hit r (by omega) (by omega)
  have q2 := (hok k (by omega) (by omega))
  have q3 := q2.2.2.2.1
  have q4 := q2.2.2.2.2.1
  have q5 := q2.2.2.2.2.2.1
  have q6 := q2.2.2.2.2.2.2.2.1 0 (by decide) (by decide)
  have q7 := q2.2.2.2.2.2.2.2.1 1 (by decide) (by decide)
  rw [Int.add_zero] at q6
  refine tm_iconst dX12_behindItem_0 ?_
  refine tm_istore_n (L' := [(3, .int (iI 0)), (0, .ref b), (1, .int (iI r)), (2, .int (iI k))]) dX12_behindItem_1 rfl (by decide) rfl ?_
  refine tm_sub [0, 1, 2, 3] rfl (l_behind1 (d + 2) (σ0 := σ) (r := r) (k := k) hr hR hss (by omega) (fun n16 σ7 F3 R4 f5 => ?_) _ (0) σ Fr.rfl hR (by omega) hsc rfl)
  show Tm _ _ 70 b σ7 [(3, .int (iI n16)), (0, .ref b), (1, .int (iI r)), (2, .int (iI k))] [] _
  refine tm_aload_n dX12_behindItem_70 rfl 1 rfl ?_
  refine tm_iload_n dX12_behindItem_71 rfl 2 rfl ?_
  refine tm_iload_n dX12_behindItem_72 rfl 3 rfl ?_
  refine tm_callV (M := m_X12_behindItem) (pc := 73) (ix := 203) (M' := m_X12_at) (As := [.int (iI r), .int (iI k)]) (rest := []) dX12_behindItem_73 ok_X12_at im_X12_at se_X12_at ml12_203 np_X12_at rfl rfl (Nat.le_of_ble_eq_true rfl) (Nat.le_of_ble_eq_true rfl) rfl (c_X12_at (d + 2) (σ := σ7) (x := r) (k := k) ) (fun r8 σ9 hp => ?_)
  obtain ⟨v10, rfl, rfl, f11⟩ := hp
  subst f11
  show Tm _ _ 76 b σ7 [(3, .int (iI n16)), (0, .ref b), (1, .int (iI r)), (2, .int (iI k))] [.int (iI (220 * r + k))] _
  refine tm_istore_n (L' := [(3, .int (iI (220 * r + k))), (0, .ref b), (1, .int (iI r)), (2, .int (iI k))]) dX12_behindItem_76 rfl (by decide) rfl ?_
  refine tm_aload_n dX12_behindItem_77 rfl 1 rfl ?_
  refine tm_get (k := 3) (v := .ref (b + 1 + 1)) lay_12 dX12_behindItem_78 (by decide) fl12_13 rfl ?_
  refine tm_iload_n dX12_behindItem_81 rfl 0 rfl ?_
  refine tm_iald (z := 220 * r + k) (v := σ.2.1 3 (220 * r + k)) dX12_behindItem_82 (show mT[1]? = some (3, 0, 2860) from rfl) (by omega) (by omega) (by decide) (ra_F F3 (by decide) (rfl)) ?_
  have g12 := RG.a hR 3 (220 * r + k)
  refine tm_bipush dX12_behindItem_83 (by decide) ?_
  refine tm_icmp_ne (tgt := 195) dX12_behindItem_85 (by decide) ⟨by omega, by omega⟩ ⟨by decide, by decide⟩ (fun h13 => ?_) (fun h13 => ?_)
  · refine tm_aload_n dX12_behindItem_195 rfl 1 rfl ?_
    refine tm_get (k := 3) (v := .ref (b + 1 + 1)) lay_12 dX12_behindItem_196 (by decide) fl12_13 rfl ?_
    refine tm_iload_n dX12_behindItem_199 rfl 0 rfl ?_
    refine tm_iald (z := 220 * r + k) (v := σ.2.1 3 (220 * r + k)) dX12_behindItem_200 (show mT[1]? = some (3, 0, 2860) from rfl) (by omega) (by omega) (by decide) (ra_F F3 (by decide) (rfl)) ?_
    have g14 := RG.a hR 3 (220 * r + k)
    refine tm_bipush dX12_behindItem_201 (by decide) ?_
    refine tm_icmp_ne (tgt := 244) dX12_behindItem_203 (by decide) ⟨by omega, by omega⟩ ⟨by decide, by decide⟩ (fun h15 => ?_) (fun h15 => ?_)
    · refine tm_iconst dX12_behindItem_244 ?_
      refine tm_istore (L' := [(4, .int (iI 0)), (3, .int (iI (220 * r + k))), (0, .ref b), (1, .int (iI r)), (2, .int (iI k))]) dX12_behindItem_245 (by decide) rfl ?_
      refine tm_sub [0, 1, 2, 3, 4] rfl (l_behind3 (d + 2) (σ0 := σ7) (r := r) (k := k) (by omega) R4 (by omega) (fun n121 σ22 F18 R19 f20 => ?_) _ (0) σ7 Fr.rfl R4 (by omega) (by first | assumption | exact SCA.put (by assumption) (by omega) (by omega)) rfl)
      show Tm _ _ 339 b σ22 [(4, .int (iI n121)), (3, .int (iI (220 * r + k))), (0, .ref b), (1, .int (iI r)), (2, .int (iI k))] [] _
      exact tm_vret rfl dX12_behindItem_339 (⟨rfl, ((Fr.rfl.trans (Fr.sub F3 (by decide) (by decide) (by decide))).trans (Fr.sub F18 (by decide) (by decide) (by decide))), R19, f20⟩)
    · refine tm_iconst dX12_behindItem_206 ?_
      refine tm_istore (L' := [(4, .int (iI 0)), (3, .int (iI (220 * r + k))), (0, .ref b), (1, .int (iI r)), (2, .int (iI k))]) dX12_behindItem_207 (by decide) rfl ?_
      refine tm_sub [0, 1, 2, 3, 4] rfl (l_behind2 (d + 2) (σ0 := σ7) (r := r) (k := k) (by omega) R4 (by omega) (by rw [((show Fr [] [54, 55, 56, 57, 58] [] σ σ7 from (Fr.rfl.trans (Fr.sub F3 (by decide) (by decide) (by decide))))).2.1 4 (by decide)]; omega) (fun n128 σ29 F25 R26 f27 => ?_) _ (0) σ7 Fr.rfl R4 (by omega) (by first | assumption | exact SCA.put (by assumption) (by omega) (by omega)) rfl)
      show Tm _ _ 244 b σ29 [(4, .int (iI n128)), (3, .int (iI (220 * r + k))), (0, .ref b), (1, .int (iI r)), (2, .int (iI k))] [] _
      refine tm_iconst dX12_behindItem_244 ?_
      refine tm_istore (L' := [(4, .int (iI 0)), (3, .int (iI (220 * r + k))), (0, .ref b), (1, .int (iI r)), (2, .int (iI k))]) dX12_behindItem_245 (by decide) rfl ?_
      refine tm_sub [0, 1, 2, 3, 4] rfl (l_behind3 (d + 2) (σ0 := σ29) (r := r) (k := k) (by omega) R26 (by omega) (fun n135 σ36 F32 R33 f34 => ?_) _ (0) σ29 Fr.rfl R26 (by omega) (by first | assumption | exact SCA.put (by assumption) (by omega) (by omega)) rfl)
      show Tm _ _ 339 b σ36 [(4, .int (iI n135)), (3, .int (iI (220 * r + k))), (0, .ref b), (1, .int (iI r)), (2, .int (iI k))] [] _
      exact tm_vret rfl dX12_behindItem_339 (⟨rfl, (((Fr.rfl.trans (Fr.sub F3 (by decide) (by decide) (by decide))).trans (Fr.sub F25 (by decide) (by decide) (by decide))).trans (Fr.sub F32 (by decide) (by decide) (by decide))), R33, f34⟩)
  · refine tm_aload_n dX12_behindItem_88 rfl 1 rfl ?_
    refine tm_iload_n dX12_behindItem_89 rfl 0 rfl ?_
    refine tm_callV (M := m_X12_behindItem) (pc := 90) (ix := 199) (M' := m_X12_args) (As := [.int (iI (220 * r + k))]) (rest := []) dX12_behindItem_90 ok_X12_args im_X12_args se_X12_args ml12_199 np_X12_args rfl rfl (Nat.le_of_ble_eq_true rfl) (Nat.le_of_ble_eq_true rfl) rfl (c_X12_args (d) (σ := σ7) (x := 220 * r + k) (by omega) R4 (OKS.of (hok.fr (show Fr [] [54, 55, 56, 57, 58] [] σ σ7 from (Fr.rfl.trans (Fr.sub F3 (by decide) (by decide) (by decide)))) (by decide)) (by omega) (by rw [((show Fr [] [54, 55, 56, 57, 58] [] σ σ7 from (Fr.rfl.trans (Fr.sub F3 (by decide) (by decide) (by decide))))).2.1 9 (by decide)]; omega)) (hpar.fr (show Fr [] [54, 55, 56, 57, 58] [] σ σ7 from (Fr.rfl.trans (Fr.sub F3 (by decide) (by decide) (by decide)))) (by decide))) (fun r37 σ38 hp => ?_)
    obtain ⟨v39, rfl, rfl, f40, f41⟩ := hp
    show Tm _ _ 93 b σ7 [(3, .int (iI (220 * r + k))), (0, .ref b), (1, .int (iI r)), (2, .int (iI k))] [.int (iI v39)] _
    refine tm_istore (L' := [(4, .int (iI v39)), (3, .int (iI (220 * r + k))), (0, .ref b), (1, .int (iI r)), (2, .int (iI k))]) dX12_behindItem_93 (by decide) rfl ?_
    refine tm_aload_n dX12_behindItem_95 rfl 2 rfl ?_
    refine tm_bipush dX12_behindItem_96 (by decide) ?_
    refine tm_aload_n dX12_behindItem_98 rfl 2 rfl ?_
    refine tm_get (k := 5) (v := .ref (b + 1 + 3)) lay_12 dX12_behindItem_99 (by decide) fl12_20 rfl ?_
    refine tm_iload_n dX12_behindItem_102 rfl 1 rfl ?_
    refine tm_iald (z := 220 * r + k) (v := σ.2.1 5 (220 * r + k)) dX12_behindItem_103 (show mT[3]? = some (5, 0, 2860) from rfl) (by omega) (by omega) (by decide) (ra_F F3 (by decide) (rfl)) ?_
    have g42 := RG.a hR 5 (220 * r + k)
    refine tm_imul dX12_behindItem_104 ?_
    refine tm_aload_n dX12_behindItem_105 rfl 2 rfl ?_
    refine tm_get (k := 4) (v := .ref (b + 1 + 2)) lay_12 dX12_behindItem_106 (by decide) fl12_17 rfl ?_
    refine tm_iload_n dX12_behindItem_109 rfl 1 rfl ?_
    refine tm_iald (z := 220 * r + k) (v := σ.2.1 4 (220 * r + k)) dX12_behindItem_110 (show mT[2]? = some (4, 0, 2860) from rfl) (by omega) (by omega) (by decide) (ra_F F3 (by decide) (rfl)) ?_
    have g43 := RG.a hR 4 (220 * r + k)
    refine tm_iadd dX12_behindItem_111 ?_
    refine tm_aload_n dX12_behindItem_112 rfl 2 rfl ?_
    refine tm_get (k := 6) (v := .ref (b + 1 + 4)) lay_12 dX12_behindItem_113 (by decide) fl12_23 rfl ?_
    refine tm_iload_n dX12_behindItem_116 rfl 1 rfl ?_
    refine tm_iald (z := 220 * r + k) (v := σ.2.1 6 (220 * r + k)) dX12_behindItem_117 (show mT[4]? = some (6, 0, 2860) from rfl) (by omega) (by omega) (by decide) (ra_F F3 (by decide) (rfl)) ?_
    have g44 := RG.a hR 6 (220 * r + k)
    refine tm_iload dX12_behindItem_118 0 rfl ?_
    refine tm_if_le (tgt := 134) dX12_behindItem_120 (by decide) ⟨by omega, by omega⟩ (fun h45 => ?_) (fun h45 => ?_)
    · refine tm_iconst dX12_behindItem_134 ?_
      refine tm_iload dX12_behindItem_135 0 rfl ?_
      refine tm_if_le (tgt := 151) dX12_behindItem_137 (by decide) ⟨by omega, by omega⟩ (fun h46 => ?_) (fun h46 => ?_)
      · refine tm_iconst dX12_behindItem_151 ?_
        refine tm_iload dX12_behindItem_152 0 rfl ?_
        refine tm_iconst dX12_behindItem_154 ?_
        refine tm_icmp_le (tgt := 171) dX12_behindItem_155 (by decide) ⟨by omega, by omega⟩ ⟨by decide, by decide⟩ (fun h47 => ?_) (fun h47 => ?_)
        · refine tm_iconst dX12_behindItem_171 ?_
          refine tm_iload dX12_behindItem_172 0 rfl ?_
          refine tm_iconst dX12_behindItem_174 ?_
          refine tm_icmp_le (tgt := 191) dX12_behindItem_175 (by decide) ⟨by omega, by omega⟩ ⟨by decide, by decide⟩ (fun h48 => ?_) (fun h48 => ?_)
          · refine tm_iconst dX12_behindItem_191 ?_
            refine tm_callV (M := m_X12_behindItem) (pc := 192) (ix := 416) (M' := m_X12_setNow) (As := [.int (iI ((12 * (σ.2.1 5 (220 * r + k))) + (σ.2.1 4 (220 * r + k)))), .int (iI (σ.2.1 6 (220 * r + k))), .int (iI 0), .int (iI 0), .int (iI 0), .int (iI 0)]) (rest := []) dX12_behindItem_192 ok_X12_setNow im_X12_setNow se_X12_setNow ml12_416 np_X12_setNow rfl rfl (Nat.le_of_ble_eq_true rfl) (Nat.le_of_ble_eq_true rfl) rfl (c_X12_setNow (d + 2) (σ := σ7) (n := (12 * (σ.2.1 5 (220 * r + k))) + (σ.2.1 4 (220 * r + k))) (w := σ.2.1 6 (220 * r + k)) (ka := 0) (a := 0) (kb := 0) (c := 0) (by omega)) (fun r49 σ50 hp => ?_)
            obtain ⟨rfl, f52⟩ := hp
            subst f52
            show Tm _ _ 195 b (fNow ((12 * (σ.2.1 5 (220 * r + k))) + (σ.2.1 4 (220 * r + k))) (σ.2.1 6 (220 * r + k)) (0) (0) (0) (0) σ7) [(4, .int (iI v39)), (3, .int (iI (220 * r + k))), (0, .ref b), (1, .int (iI r)), (2, .int (iI k))] [] _
            refine tm_aload_n dX12_behindItem_195 rfl 2 rfl ?_
            refine tm_get (k := 3) (v := .ref (b + 1 + 1)) lay_12 dX12_behindItem_196 (by decide) fl12_13 rfl ?_
            refine tm_iload_n dX12_behindItem_199 rfl 1 rfl ?_
            refine tm_iald (z := 220 * r + k) (v := σ.2.1 3 (220 * r + k)) dX12_behindItem_200 (show mT[1]? = some (3, 0, 2860) from rfl) (by omega) (by omega) (by decide) (ra_F fNow_fr (by decide) (ra_F F3 (by decide) (rfl))) ?_
            have g53 := RG.a hR 3 (220 * r + k)
            refine tm_bipush dX12_behindItem_201 (by decide) ?_
            refine tm_icmp_ne (tgt := 244) dX12_behindItem_203 (by decide) ⟨by omega, by omega⟩ ⟨by decide, by decide⟩ (fun h54 => ?_) (fun h54 => ?_)
            · refine tm_iconst dX12_behindItem_244 ?_
              refine tm_istore (L' := [(4, .int (iI 0)), (3, .int (iI (220 * r + k))), (0, .ref b), (1, .int (iI r)), (2, .int (iI k))]) dX12_behindItem_245 (by decide) rfl ?_
              refine tm_sub [0, 1, 2, 3, 4] rfl (l_behind3 (d + 2) (σ0 := (fNow ((12 * (σ.2.1 5 (220 * r + k))) + (σ.2.1 4 (220 * r + k))) (σ.2.1 6 (220 * r + k)) (0) (0) (0) (0) σ7)) (r := r) (k := k) (by omega) (R4.now (by omega)) (by omega) (fun n160 σ61 F57 R58 f59 => ?_) _ (0) (fNow ((12 * (σ.2.1 5 (220 * r + k))) + (σ.2.1 4 (220 * r + k))) (σ.2.1 6 (220 * r + k)) (0) (0) (0) (0) σ7) Fr.rfl (R4.now (by omega)) (by omega) (by first | assumption | exact SCA.put (by assumption) (by omega) (by omega)) rfl)
              show Tm _ _ 339 b σ61 [(4, .int (iI n160)), (3, .int (iI (220 * r + k))), (0, .ref b), (1, .int (iI r)), (2, .int (iI k))] [] _
              exact tm_vret rfl dX12_behindItem_339 (⟨rfl, (((Fr.rfl.trans (Fr.sub F3 (by decide) (by decide) (by decide))).trans (Fr.sub fNow_fr (by decide) (by decide) (by decide))).trans (Fr.sub F57 (by decide) (by decide) (by decide))), R58, f59⟩)
            · refine tm_iconst dX12_behindItem_206 ?_
              refine tm_istore (L' := [(4, .int (iI 0)), (3, .int (iI (220 * r + k))), (0, .ref b), (1, .int (iI r)), (2, .int (iI k))]) dX12_behindItem_207 (by decide) rfl ?_
              refine tm_sub [0, 1, 2, 3, 4] rfl (l_behind2 (d + 2) (σ0 := (fNow ((12 * (σ.2.1 5 (220 * r + k))) + (σ.2.1 4 (220 * r + k))) (σ.2.1 6 (220 * r + k)) (0) (0) (0) (0) σ7)) (r := r) (k := k) (by omega) (R4.now (by omega)) (by omega) (by rw [((show Fr [] [54, 55, 56, 57, 58] [] σ (fNow ((12 * (σ.2.1 5 (220 * r + k))) + (σ.2.1 4 (220 * r + k))) (σ.2.1 6 (220 * r + k)) (0) (0) (0) (0) σ7) from ((Fr.rfl.trans (Fr.sub F3 (by decide) (by decide) (by decide))).trans (Fr.sub fNow_fr (by decide) (by decide) (by decide))))).2.1 4 (by decide)]; omega) (fun n167 σ68 F64 R65 f66 => ?_) _ (0) (fNow ((12 * (σ.2.1 5 (220 * r + k))) + (σ.2.1 4 (220 * r + k))) (σ.2.1 6 (220 * r + k)) (0) (0) (0) (0) σ7) Fr.rfl (R4.now (by omega)) (by omega) (by first | assumption | exact SCA.put (by assumption) (by omega) (by omega)) rfl)
              show Tm _ _ 244 b σ68 [(4, .int (iI n167)), (3, .int (iI (220 * r + k))), (0, .ref b), (1, .int (iI r)), (2, .int (iI k))] [] _
              refine tm_iconst dX12_behindItem_244 ?_
              refine tm_istore (L' := [(4, .int (iI 0)), (3, .int (iI (220 * r + k))), (0, .ref b), (1, .int (iI r)), (2, .int (iI k))]) dX12_behindItem_245 (by decide) rfl ?_
              refine tm_sub [0, 1, 2, 3, 4] rfl (l_behind3 (d + 2) (σ0 := σ68) (r := r) (k := k) (by omega) R65 (by omega) (fun n174 σ75 F71 R72 f73 => ?_) _ (0) σ68 Fr.rfl R65 (by omega) (by first | assumption | exact SCA.put (by assumption) (by omega) (by omega)) rfl)
              show Tm _ _ 339 b σ75 [(4, .int (iI n174)), (3, .int (iI (220 * r + k))), (0, .ref b), (1, .int (iI r)), (2, .int (iI k))] [] _
              exact tm_vret rfl dX12_behindItem_339 (⟨rfl, ((((Fr.rfl.trans (Fr.sub F3 (by decide) (by decide) (by decide))).trans (Fr.sub fNow_fr (by decide) (by decide) (by decide))).trans (Fr.sub F64 (by decide) (by decide) (by decide))).trans (Fr.sub F71 (by decide) (by decide) (by decide))), R72, f73⟩)
          · exact absurd h48 (by omega)
        · refine tm_aload_n dX12_behindItem_158 rfl 2 rfl ?_
          refine tm_get (k := 7) (v := .ref (b + 1 + 5)) lay_12 dX12_behindItem_159 (by decide) fl12_26 rfl ?_
          refine tm_iconst dX12_behindItem_162 ?_
          refine tm_iload_n dX12_behindItem_163 rfl 1 rfl ?_
          refine tm_imul dX12_behindItem_164 ?_
          refine tm_iconst dX12_behindItem_165 ?_
          refine tm_iadd dX12_behindItem_166 ?_
          refine tm_iald (z := (4 * (220 * r + k)) + 1) (v := σ.2.1 7 ((4 * (220 * r + k)) + 1)) dX12_behindItem_167 (show mT[5]? = some (7, 0, 11440) from rfl) (by omega) (by omega) (by decide) (ra_F F3 (by decide) (rfl)) ?_
          have g76 := RG.a hR 7 ((4 * (220 * r + k)) + 1)
          refine tm_goto (tgt := 172) dX12_behindItem_168 (by decide) ?_
          refine tm_iload dX12_behindItem_172 0 rfl ?_
          refine tm_iconst dX12_behindItem_174 ?_
          refine tm_icmp_le (tgt := 191) dX12_behindItem_175 (by decide) ⟨by omega, by omega⟩ ⟨by decide, by decide⟩ (fun h77 => ?_) (fun h77 => ?_)
          · exact absurd h77 (by omega)
          · refine tm_aload_n dX12_behindItem_178 rfl 2 rfl ?_
            refine tm_get (k := 8) (v := .ref (b + 1 + 6)) lay_12 dX12_behindItem_179 (by decide) fl12_29 rfl ?_
            refine tm_iconst dX12_behindItem_182 ?_
            refine tm_iload_n dX12_behindItem_183 rfl 1 rfl ?_
            refine tm_imul dX12_behindItem_184 ?_
            refine tm_iconst dX12_behindItem_185 ?_
            refine tm_iadd dX12_behindItem_186 ?_
            refine tm_iald (z := (4 * (220 * r + k)) + 1) (v := σ.2.1 8 ((4 * (220 * r + k)) + 1)) dX12_behindItem_187 (show mT[6]? = some (8, 0, 11440) from rfl) (by omega) (by omega) (by decide) (ra_F F3 (by decide) (rfl)) ?_
            have g78 := RG.a hR 8 ((4 * (220 * r + k)) + 1)
            refine tm_goto (tgt := 192) dX12_behindItem_188 (by decide) ?_
            refine tm_callV (M := m_X12_behindItem) (pc := 192) (ix := 416) (M' := m_X12_setNow) (As := [.int (iI ((12 * (σ.2.1 5 (220 * r + k))) + (σ.2.1 4 (220 * r + k)))), .int (iI (σ.2.1 6 (220 * r + k))), .int (iI 0), .int (iI 0), .int (iI (σ.2.1 7 ((4 * (220 * r + k)) + 1))), .int (iI (σ.2.1 8 ((4 * (220 * r + k)) + 1)))]) (rest := []) dX12_behindItem_192 ok_X12_setNow im_X12_setNow se_X12_setNow ml12_416 np_X12_setNow rfl rfl (Nat.le_of_ble_eq_true rfl) (Nat.le_of_ble_eq_true rfl) rfl (c_X12_setNow (d + 2) (σ := σ7) (n := (12 * (σ.2.1 5 (220 * r + k))) + (σ.2.1 4 (220 * r + k))) (w := σ.2.1 6 (220 * r + k)) (ka := 0) (a := 0) (kb := σ.2.1 7 ((4 * (220 * r + k)) + 1)) (c := σ.2.1 8 ((4 * (220 * r + k)) + 1)) (by omega)) (fun r79 σ80 hp => ?_)
            obtain ⟨rfl, f82⟩ := hp
            subst f82
            show Tm _ _ 195 b (fNow ((12 * (σ.2.1 5 (220 * r + k))) + (σ.2.1 4 (220 * r + k))) (σ.2.1 6 (220 * r + k)) (0) (0) (σ.2.1 7 ((4 * (220 * r + k)) + 1)) (σ.2.1 8 ((4 * (220 * r + k)) + 1)) σ7) [(4, .int (iI v39)), (3, .int (iI (220 * r + k))), (0, .ref b), (1, .int (iI r)), (2, .int (iI k))] [] _
            refine tm_aload_n dX12_behindItem_195 rfl 2 rfl ?_
            refine tm_get (k := 3) (v := .ref (b + 1 + 1)) lay_12 dX12_behindItem_196 (by decide) fl12_13 rfl ?_
            refine tm_iload_n dX12_behindItem_199 rfl 1 rfl ?_
            refine tm_iald (z := 220 * r + k) (v := σ.2.1 3 (220 * r + k)) dX12_behindItem_200 (show mT[1]? = some (3, 0, 2860) from rfl) (by omega) (by omega) (by decide) (ra_F fNow_fr (by decide) (ra_F F3 (by decide) (rfl))) ?_
            have g83 := RG.a hR 3 (220 * r + k)
            refine tm_bipush dX12_behindItem_201 (by decide) ?_
            refine tm_icmp_ne (tgt := 244) dX12_behindItem_203 (by decide) ⟨by omega, by omega⟩ ⟨by decide, by decide⟩ (fun h84 => ?_) (fun h84 => ?_)
            · refine tm_iconst dX12_behindItem_244 ?_
              refine tm_istore (L' := [(4, .int (iI 0)), (3, .int (iI (220 * r + k))), (0, .ref b), (1, .int (iI r)), (2, .int (iI k))]) dX12_behindItem_245 (by decide) rfl ?_
              refine tm_sub [0, 1, 2, 3, 4] rfl (l_behind3 (d + 2) (σ0 := (fNow ((12 * (σ.2.1 5 (220 * r + k))) + (σ.2.1 4 (220 * r + k))) (σ.2.1 6 (220 * r + k)) (0) (0) (σ.2.1 7 ((4 * (220 * r + k)) + 1)) (σ.2.1 8 ((4 * (220 * r + k)) + 1)) σ7)) (r := r) (k := k) (by omega) (R4.now (by omega)) (by omega) (fun n190 σ91 F87 R88 f89 => ?_) _ (0) (fNow ((12 * (σ.2.1 5 (220 * r + k))) + (σ.2.1 4 (220 * r + k))) (σ.2.1 6 (220 * r + k)) (0) (0) (σ.2.1 7 ((4 * (220 * r + k)) + 1)) (σ.2.1 8 ((4 * (220 * r + k)) + 1)) σ7) Fr.rfl (R4.now (by omega)) (by omega) (by first | assumption | exact SCA.put (by assumption) (by omega) (by omega)) rfl)
              show Tm _ _ 339 b σ91 [(4, .int (iI n190)), (3, .int (iI (220 * r + k))), (0, .ref b), (1, .int (iI r)), (2, .int (iI k))] [] _
              exact tm_vret rfl dX12_behindItem_339 (⟨rfl, (((Fr.rfl.trans (Fr.sub F3 (by decide) (by decide) (by decide))).trans (Fr.sub fNow_fr (by decide) (by decide) (by decide))).trans (Fr.sub F87 (by decide) (by decide) (by decide))), R88, f89⟩)
            · refine tm_iconst dX12_behindItem_206 ?_
              refine tm_istore (L' := [(4, .int (iI 0)), (3, .int (iI (220 * r + k))), (0, .ref b), (1, .int (iI r)), (2, .int (iI k))]) dX12_behindItem_207 (by decide) rfl ?_
              refine tm_sub [0, 1, 2, 3, 4] rfl (l_behind2 (d + 2) (σ0 := (fNow ((12 * (σ.2.1 5 (220 * r + k))) + (σ.2.1 4 (220 * r + k))) (σ.2.1 6 (220 * r + k)) (0) (0) (σ.2.1 7 ((4 * (220 * r + k)) + 1)) (σ.2.1 8 ((4 * (220 * r + k)) + 1)) σ7)) (r := r) (k := k) (by omega) (R4.now (by omega)) (by omega) (by rw [((show Fr [] [54, 55, 56, 57, 58] [] σ (fNow ((12 * (σ.2.1 5 (220 * r + k))) + (σ.2.1 4 (220 * r + k))) (σ.2.1 6 (220 * r + k)) (0) (0) (σ.2.1 7 ((4 * (220 * r + k)) + 1)) (σ.2.1 8 ((4 * (220 * r + k)) + 1)) σ7) from ((Fr.rfl.trans (Fr.sub F3 (by decide) (by decide) (by decide))).trans (Fr.sub fNow_fr (by decide) (by decide) (by decide))))).2.1 4 (by decide)]; omega) (fun n197 σ98 F94 R95 f96 => ?_) _ (0) (fNow ((12 * (σ.2.1 5 (220 * r + k))) + (σ.2.1 4 (220 * r + k))) (σ.2.1 6 (220 * r + k)) (0) (0) (σ.2.1 7 ((4 * (220 * r + k)) + 1)) (σ.2.1 8 ((4 * (220 * r + k)) + 1)) σ7) Fr.rfl (R4.now (by omega)) (by omega) (by first | assumption | exact SCA.put (by assumption) (by omega) (by omega)) rfl)
              show Tm _ _ 244 b σ98 [(4, .int (iI n197)), (3, .int (iI (220 * r + k))), (0, .ref b), (1, .int (iI r)), (2, .int (iI k))] [] _
              refine tm_iconst dX12_behindItem_244 ?_
              refine tm_istore (L' := [(4, .int (iI 0)), (3, .int (iI (220 * r + k))), (0, .ref b), (1, .int (iI r)), (2, .int (iI k))]) dX12_behindItem_245 (by decide) rfl ?_
              refine tm_sub [0, 1, 2, 3, 4] rfl (l_behind3 (d + 2) (σ0 := σ98) (r := r) (k := k) (by omega) R95 (by omega) (fun n1104 σ105 F101 R102 f103 => ?_) _ (0) σ98 Fr.rfl R95 (by omega) (by first | assumption | exact SCA.put (by assumption) (by omega) (by omega)) rfl)
              show Tm _ _ 339 b σ105 [(4, .int (iI n1104)), (3, .int (iI (220 * r + k))), (0, .ref b), (1, .int (iI r)), (2, .int (iI k))] [] _
              exact tm_vret rfl dX12_behindItem_339 (⟨rfl, ((((Fr.rfl.trans (Fr.sub F3 (by decide) (by decide) (by decide))).trans (Fr.sub fNow_fr (by decide) (by decide) (by decide))).trans (Fr.sub F94 (by decide) (by decide) (by decide))).trans (Fr.sub F101 (by decide) (by decide) (by decide))), R102, f103⟩)
      · exact absurd h46 (by omega)
    · refine tm_aload_n dX12_behindItem_123 rfl 2 rfl ?_
      refine tm_get (k := 7) (v := .ref (b + 1 + 5)) lay_12 dX12_behindItem_124 (by decide) fl12_26 rfl ?_
      refine tm_iconst dX12_behindItem_127 ?_
      refine tm_iload_n dX12_behindItem_128 rfl 1 rfl ?_
      refine tm_imul dX12_behindItem_129 ?_
      refine tm_iald (z := 4 * (220 * r + k)) (v := σ.2.1 7 (4 * (220 * r + k))) dX12_behindItem_130 (show mT[5]? = some (7, 0, 11440) from rfl) (by omega) (by omega) (by decide) (ra_F F3 (by decide) (rfl)) ?_
      have g106 := RG.a hR 7 (4 * (220 * r + k))
      refine tm_goto (tgt := 135) dX12_behindItem_131 (by decide) ?_
      refine tm_iload dX12_behindItem_135 0 rfl ?_
      refine tm_if_le (tgt := 151) dX12_behindItem_137 (by decide) ⟨by omega, by omega⟩ (fun h107 => ?_) (fun h107 => ?_)
      · exact absurd h107 (by omega)
      · refine tm_aload_n dX12_behindItem_140 rfl 2 rfl ?_
        refine tm_get (k := 8) (v := .ref (b + 1 + 6)) lay_12 dX12_behindItem_141 (by decide) fl12_29 rfl ?_
        refine tm_iconst dX12_behindItem_144 ?_
        refine tm_iload_n dX12_behindItem_145 rfl 1 rfl ?_
        refine tm_imul dX12_behindItem_146 ?_
        refine tm_iald (z := 4 * (220 * r + k)) (v := σ.2.1 8 (4 * (220 * r + k))) dX12_behindItem_147 (show mT[6]? = some (8, 0, 11440) from rfl) (by omega) (by omega) (by decide) (ra_F F3 (by decide) (rfl)) ?_
        have g108 := RG.a hR 8 (4 * (220 * r + k))
        refine tm_goto (tgt := 152) dX12_behindItem_148 (by decide) ?_
        refine tm_iload dX12_behindItem_152 0 rfl ?_
        refine tm_iconst dX12_behindItem_154 ?_
        refine tm_icmp_le (tgt := 171) dX12_behindItem_155 (by decide) ⟨by omega, by omega⟩ ⟨by decide, by decide⟩ (fun h109 => ?_) (fun h109 => ?_)
        · refine tm_iconst dX12_behindItem_171 ?_
          refine tm_iload dX12_behindItem_172 0 rfl ?_
          refine tm_iconst dX12_behindItem_174 ?_
          refine tm_icmp_le (tgt := 191) dX12_behindItem_175 (by decide) ⟨by omega, by omega⟩ ⟨by decide, by decide⟩ (fun h110 => ?_) (fun h110 => ?_)
          · refine tm_iconst dX12_behindItem_191 ?_
            refine tm_callV (M := m_X12_behindItem) (pc := 192) (ix := 416) (M' := m_X12_setNow) (As := [.int (iI ((12 * (σ.2.1 5 (220 * r + k))) + (σ.2.1 4 (220 * r + k)))), .int (iI (σ.2.1 6 (220 * r + k))), .int (iI (σ.2.1 7 (4 * (220 * r + k)))), .int (iI (σ.2.1 8 (4 * (220 * r + k)))), .int (iI 0), .int (iI 0)]) (rest := []) dX12_behindItem_192 ok_X12_setNow im_X12_setNow se_X12_setNow ml12_416 np_X12_setNow rfl rfl (Nat.le_of_ble_eq_true rfl) (Nat.le_of_ble_eq_true rfl) rfl (c_X12_setNow (d + 2) (σ := σ7) (n := (12 * (σ.2.1 5 (220 * r + k))) + (σ.2.1 4 (220 * r + k))) (w := σ.2.1 6 (220 * r + k)) (ka := σ.2.1 7 (4 * (220 * r + k))) (a := σ.2.1 8 (4 * (220 * r + k))) (kb := 0) (c := 0) (by omega)) (fun r111 σ112 hp => ?_)
            obtain ⟨rfl, f114⟩ := hp
            subst f114
            show Tm _ _ 195 b (fNow ((12 * (σ.2.1 5 (220 * r + k))) + (σ.2.1 4 (220 * r + k))) (σ.2.1 6 (220 * r + k)) (σ.2.1 7 (4 * (220 * r + k))) (σ.2.1 8 (4 * (220 * r + k))) (0) (0) σ7) [(4, .int (iI v39)), (3, .int (iI (220 * r + k))), (0, .ref b), (1, .int (iI r)), (2, .int (iI k))] [] _
            refine tm_aload_n dX12_behindItem_195 rfl 2 rfl ?_
            refine tm_get (k := 3) (v := .ref (b + 1 + 1)) lay_12 dX12_behindItem_196 (by decide) fl12_13 rfl ?_
            refine tm_iload_n dX12_behindItem_199 rfl 1 rfl ?_
            refine tm_iald (z := 220 * r + k) (v := σ.2.1 3 (220 * r + k)) dX12_behindItem_200 (show mT[1]? = some (3, 0, 2860) from rfl) (by omega) (by omega) (by decide) (ra_F fNow_fr (by decide) (ra_F F3 (by decide) (rfl))) ?_
            have g115 := RG.a hR 3 (220 * r + k)
            refine tm_bipush dX12_behindItem_201 (by decide) ?_
            refine tm_icmp_ne (tgt := 244) dX12_behindItem_203 (by decide) ⟨by omega, by omega⟩ ⟨by decide, by decide⟩ (fun h116 => ?_) (fun h116 => ?_)
            · refine tm_iconst dX12_behindItem_244 ?_
              refine tm_istore (L' := [(4, .int (iI 0)), (3, .int (iI (220 * r + k))), (0, .ref b), (1, .int (iI r)), (2, .int (iI k))]) dX12_behindItem_245 (by decide) rfl ?_
              refine tm_sub [0, 1, 2, 3, 4] rfl (l_behind3 (d + 2) (σ0 := (fNow ((12 * (σ.2.1 5 (220 * r + k))) + (σ.2.1 4 (220 * r + k))) (σ.2.1 6 (220 * r + k)) (σ.2.1 7 (4 * (220 * r + k))) (σ.2.1 8 (4 * (220 * r + k))) (0) (0) σ7)) (r := r) (k := k) (by omega) (R4.now (by omega)) (by omega) (fun n1122 σ123 F119 R120 f121 => ?_) _ (0) (fNow ((12 * (σ.2.1 5 (220 * r + k))) + (σ.2.1 4 (220 * r + k))) (σ.2.1 6 (220 * r + k)) (σ.2.1 7 (4 * (220 * r + k))) (σ.2.1 8 (4 * (220 * r + k))) (0) (0) σ7) Fr.rfl (R4.now (by omega)) (by omega) (by first | assumption | exact SCA.put (by assumption) (by omega) (by omega)) rfl)
              show Tm _ _ 339 b σ123 [(4, .int (iI n1122)), (3, .int (iI (220 * r + k))), (0, .ref b), (1, .int (iI r)), (2, .int (iI k))] [] _
              exact tm_vret rfl dX12_behindItem_339 (⟨rfl, (((Fr.rfl.trans (Fr.sub F3 (by decide) (by decide) (by decide))).trans (Fr.sub fNow_fr (by decide) (by decide) (by decide))).trans (Fr.sub F119 (by decide) (by decide) (by decide))), R120, f121⟩)
            · refine tm_iconst dX12_behindItem_206 ?_
              refine tm_istore (L' := [(4, .int (iI 0)), (3, .int (iI (220 * r + k))), (0, .ref b), (1, .int (iI r)), (2, .int (iI k))]) dX12_behindItem_207 (by decide) rfl ?_
              refine tm_sub [0, 1, 2, 3, 4] rfl (l_behind2 (d + 2) (σ0 := (fNow ((12 * (σ.2.1 5 (220 * r + k))) + (σ.2.1 4 (220 * r + k))) (σ.2.1 6 (220 * r + k)) (σ.2.1 7 (4 * (220 * r + k))) (σ.2.1 8 (4 * (220 * r + k))) (0) (0) σ7)) (r := r) (k := k) (by omega) (R4.now (by omega)) (by omega) (by rw [((show Fr [] [54, 55, 56, 57, 58] [] σ (fNow ((12 * (σ.2.1 5 (220 * r + k))) + (σ.2.1 4 (220 * r + k))) (σ.2.1 6 (220 * r + k)) (σ.2.1 7 (4 * (220 * r + k))) (σ.2.1 8 (4 * (220 * r + k))) (0) (0) σ7) from ((Fr.rfl.trans (Fr.sub F3 (by decide) (by decide) (by decide))).trans (Fr.sub fNow_fr (by decide) (by decide) (by decide))))).2.1 4 (by decide)]; omega) (fun n1129 σ130 F126 R127 f128 => ?_) _ (0) (fNow ((12 * (σ.2.1 5 (220 * r + k))) + (σ.2.1 4 (220 * r + k))) (σ.2.1 6 (220 * r + k)) (σ.2.1 7 (4 * (220 * r + k))) (σ.2.1 8 (4 * (220 * r + k))) (0) (0) σ7) Fr.rfl (R4.now (by omega)) (by omega) (by first | assumption | exact SCA.put (by assumption) (by omega) (by omega)) rfl)
              show Tm _ _ 244 b σ130 [(4, .int (iI n1129)), (3, .int (iI (220 * r + k))), (0, .ref b), (1, .int (iI r)), (2, .int (iI k))] [] _
              refine tm_iconst dX12_behindItem_244 ?_
              refine tm_istore (L' := [(4, .int (iI 0)), (3, .int (iI (220 * r + k))), (0, .ref b), (1, .int (iI r)), (2, .int (iI k))]) dX12_behindItem_245 (by decide) rfl ?_
              refine tm_sub [0, 1, 2, 3, 4] rfl (l_behind3 (d + 2) (σ0 := σ130) (r := r) (k := k) (by omega) R127 (by omega) (fun n1136 σ137 F133 R134 f135 => ?_) _ (0) σ130 Fr.rfl R127 (by omega) (by first | assumption | exact SCA.put (by assumption) (by omega) (by omega)) rfl)
              show Tm _ _ 339 b σ137 [(4, .int (iI n1136)), (3, .int (iI (220 * r + k))), (0, .ref b), (1, .int (iI r)), (2, .int (iI k))] [] _
              exact tm_vret rfl dX12_behindItem_339 (⟨rfl, ((((Fr.rfl.trans (Fr.sub F3 (by decide) (by decide) (by decide))).trans (Fr.sub fNow_fr (by decide) (by decide) (by decide))).trans (Fr.sub F126 (by decide) (by decide) (by decide))).trans (Fr.sub F133 (by decide) (by decide) (by decide))), R134, f135⟩)
          · exact absurd h110 (by omega)
        · refine tm_aload_n dX12_behindItem_158 rfl 2 rfl ?_
          refine tm_get (k := 7) (v := .ref (b + 1 + 5)) lay_12 dX12_behindItem_159 (by decide) fl12_26 rfl ?_
          refine tm_iconst dX12_behindItem_162 ?_
          refine tm_iload_n dX12_behindItem_163 rfl 1 rfl ?_
          refine tm_imul dX12_behindItem_164 ?_
          refine tm_iconst dX12_behindItem_165 ?_
          refine tm_iadd dX12_behindItem_166 ?_
          refine tm_iald (z := (4 * (220 * r + k)) + 1) (v := σ.2.1 7 ((4 * (220 * r + k)) + 1)) dX12_behindItem_167 (show mT[5]? = some (7, 0, 11440) from rfl) (by omega) (by omega) (by decide) (ra_F F3 (by decide) (rfl)) ?_
          have g138 := RG.a hR 7 ((4 * (220 * r + k)) + 1)
          refine tm_goto (tgt := 172) dX12_behindItem_168 (by decide) ?_
          refine tm_iload dX12_behindItem_172 0 rfl ?_
          refine tm_iconst dX12_behindItem_174 ?_
          refine tm_icmp_le (tgt := 191) dX12_behindItem_175 (by decide) ⟨by omega, by omega⟩ ⟨by decide, by decide⟩ (fun h139 => ?_) (fun h139 => ?_)
          · exact absurd h139 (by omega)
          · refine tm_aload_n dX12_behindItem_178 rfl 2 rfl ?_
            refine tm_get (k := 8) (v := .ref (b + 1 + 6)) lay_12 dX12_behindItem_179 (by decide) fl12_29 rfl ?_
            refine tm_iconst dX12_behindItem_182 ?_
            refine tm_iload_n dX12_behindItem_183 rfl 1 rfl ?_
            refine tm_imul dX12_behindItem_184 ?_
            refine tm_iconst dX12_behindItem_185 ?_
            refine tm_iadd dX12_behindItem_186 ?_
            refine tm_iald (z := (4 * (220 * r + k)) + 1) (v := σ.2.1 8 ((4 * (220 * r + k)) + 1)) dX12_behindItem_187 (show mT[6]? = some (8, 0, 11440) from rfl) (by omega) (by omega) (by decide) (ra_F F3 (by decide) (rfl)) ?_
            have g140 := RG.a hR 8 ((4 * (220 * r + k)) + 1)
            refine tm_goto (tgt := 192) dX12_behindItem_188 (by decide) ?_
            refine tm_callV (M := m_X12_behindItem) (pc := 192) (ix := 416) (M' := m_X12_setNow) (As := [.int (iI ((12 * (σ.2.1 5 (220 * r + k))) + (σ.2.1 4 (220 * r + k)))), .int (iI (σ.2.1 6 (220 * r + k))), .int (iI (σ.2.1 7 (4 * (220 * r + k)))), .int (iI (σ.2.1 8 (4 * (220 * r + k)))), .int (iI (σ.2.1 7 ((4 * (220 * r + k)) + 1))), .int (iI (σ.2.1 8 ((4 * (220 * r + k)) + 1)))]) (rest := []) dX12_behindItem_192 ok_X12_setNow im_X12_setNow se_X12_setNow ml12_416 np_X12_setNow rfl rfl (Nat.le_of_ble_eq_true rfl) (Nat.le_of_ble_eq_true rfl) rfl (c_X12_setNow (d + 2) (σ := σ7) (n := (12 * (σ.2.1 5 (220 * r + k))) + (σ.2.1 4 (220 * r + k))) (w := σ.2.1 6 (220 * r + k)) (ka := σ.2.1 7 (4 * (220 * r + k))) (a := σ.2.1 8 (4 * (220 * r + k))) (kb := σ.2.1 7 ((4 * (220 * r + k)) + 1)) (c := σ.2.1 8 ((4 * (220 * r + k)) + 1)) (by omega)) (fun r141 σ142 hp => ?_)
            obtain ⟨rfl, f144⟩ := hp
            subst f144
            show Tm _ _ 195 b (fNow ((12 * (σ.2.1 5 (220 * r + k))) + (σ.2.1 4 (220 * r + k))) (σ.2.1 6 (220 * r + k)) (σ.2.1 7 (4 * (220 * r + k))) (σ.2.1 8 (4 * (220 * r + k))) (σ.2.1 7 ((4 * (220 * r + k)) + 1)) (σ.2.1 8 ((4 * (220 * r + k)) + 1)) σ7) [(4, .int (iI v39)), (3, .int (iI (220 * r + k))), (0, .ref b), (1, .int (iI r)), (2, .int (iI k))] [] _
            refine tm_aload_n dX12_behindItem_195 rfl 2 rfl ?_
            refine tm_get (k := 3) (v := .ref (b + 1 + 1)) lay_12 dX12_behindItem_196 (by decide) fl12_13 rfl ?_
            refine tm_iload_n dX12_behindItem_199 rfl 1 rfl ?_
            refine tm_iald (z := 220 * r + k) (v := σ.2.1 3 (220 * r + k)) dX12_behindItem_200 (show mT[1]? = some (3, 0, 2860) from rfl) (by omega) (by omega) (by decide) (ra_F fNow_fr (by decide) (ra_F F3 (by decide) (rfl))) ?_
            have g145 := RG.a hR 3 (220 * r + k)
            refine tm_bipush dX12_behindItem_201 (by decide) ?_
            refine tm_icmp_ne (tgt := 244) dX12_behindItem_203 (by decide) ⟨by omega, by omega⟩ ⟨by decide, by decide⟩ (fun h146 => ?_) (fun h146 => ?_)
            · refine tm_iconst dX12_behindItem_244 ?_
              refine tm_istore (L' := [(4, .int (iI 0)), (3, .int (iI (220 * r + k))), (0, .ref b), (1, .int (iI r)), (2, .int (iI k))]) dX12_behindItem_245 (by decide) rfl ?_
              refine tm_sub [0, 1, 2, 3, 4] rfl (l_behind3 (d + 2) (σ0 := (fNow ((12 * (σ.2.1 5 (220 * r + k))) + (σ.2.1 4 (220 * r + k))) (σ.2.1 6 (220 * r + k)) (σ.2.1 7 (4 * (220 * r + k))) (σ.2.1 8 (4 * (220 * r + k))) (σ.2.1 7 ((4 * (220 * r + k)) + 1)) (σ.2.1 8 ((4 * (220 * r + k)) + 1)) σ7)) (r := r) (k := k) (by omega) (R4.now (by omega)) (by omega) (fun n1152 σ153 F149 R150 f151 => ?_) _ (0) (fNow ((12 * (σ.2.1 5 (220 * r + k))) + (σ.2.1 4 (220 * r + k))) (σ.2.1 6 (220 * r + k)) (σ.2.1 7 (4 * (220 * r + k))) (σ.2.1 8 (4 * (220 * r + k))) (σ.2.1 7 ((4 * (220 * r + k)) + 1)) (σ.2.1 8 ((4 * (220 * r + k)) + 1)) σ7) Fr.rfl (R4.now (by omega)) (by omega) (by first | assumption | exact SCA.put (by assumption) (by omega) (by omega)) rfl)
              show Tm _ _ 339 b σ153 [(4, .int (iI n1152)), (3, .int (iI (220 * r + k))), (0, .ref b), (1, .int (iI r)), (2, .int (iI k))] [] _
              exact tm_vret rfl dX12_behindItem_339 (⟨rfl, (((Fr.rfl.trans (Fr.sub F3 (by decide) (by decide) (by decide))).trans (Fr.sub fNow_fr (by decide) (by decide) (by decide))).trans (Fr.sub F149 (by decide) (by decide) (by decide))), R150, f151⟩)
            · refine tm_iconst dX12_behindItem_206 ?_
              refine tm_istore (L' := [(4, .int (iI 0)), (3, .int (iI (220 * r + k))), (0, .ref b), (1, .int (iI r)), (2, .int (iI k))]) dX12_behindItem_207 (by decide) rfl ?_
              refine tm_sub [0, 1, 2, 3, 4] rfl (l_behind2 (d + 2) (σ0 := (fNow ((12 * (σ.2.1 5 (220 * r + k))) + (σ.2.1 4 (220 * r + k))) (σ.2.1 6 (220 * r + k)) (σ.2.1 7 (4 * (220 * r + k))) (σ.2.1 8 (4 * (220 * r + k))) (σ.2.1 7 ((4 * (220 * r + k)) + 1)) (σ.2.1 8 ((4 * (220 * r + k)) + 1)) σ7)) (r := r) (k := k) (by omega) (R4.now (by omega)) (by omega) (by rw [((show Fr [] [54, 55, 56, 57, 58] [] σ (fNow ((12 * (σ.2.1 5 (220 * r + k))) + (σ.2.1 4 (220 * r + k))) (σ.2.1 6 (220 * r + k)) (σ.2.1 7 (4 * (220 * r + k))) (σ.2.1 8 (4 * (220 * r + k))) (σ.2.1 7 ((4 * (220 * r + k)) + 1)) (σ.2.1 8 ((4 * (220 * r + k)) + 1)) σ7) from ((Fr.rfl.trans (Fr.sub F3 (by decide) (by decide) (by decide))).trans (Fr.sub fNow_fr (by decide) (by decide) (by decide))))).2.1 4 (by decide)]; omega) (fun n1159 σ160 F156 R157 f158 => ?_) _ (0) (fNow ((12 * (σ.2.1 5 (220 * r + k))) + (σ.2.1 4 (220 * r + k))) (σ.2.1 6 (220 * r + k)) (σ.2.1 7 (4 * (220 * r + k))) (σ.2.1 8 (4 * (220 * r + k))) (σ.2.1 7 ((4 * (220 * r + k)) + 1)) (σ.2.1 8 ((4 * (220 * r + k)) + 1)) σ7) Fr.rfl (R4.now (by omega)) (by omega) (by first | assumption | exact SCA.put (by assumption) (by omega) (by omega)) rfl)
              show Tm _ _ 244 b σ160 [(4, .int (iI n1159)), (3, .int (iI (220 * r + k))), (0, .ref b), (1, .int (iI r)), (2, .int (iI k))] [] _
              refine tm_iconst dX12_behindItem_244 ?_
              refine tm_istore (L' := [(4, .int (iI 0)), (3, .int (iI (220 * r + k))), (0, .ref b), (1, .int (iI r)), (2, .int (iI k))]) dX12_behindItem_245 (by decide) rfl ?_
              refine tm_sub [0, 1, 2, 3, 4] rfl (l_behind3 (d + 2) (σ0 := σ160) (r := r) (k := k) (by omega) R157 (by omega) (fun n1166 σ167 F163 R164 f165 => ?_) _ (0) σ160 Fr.rfl R157 (by omega) (by first | assumption | exact SCA.put (by assumption) (by omega) (by omega)) rfl)
              show Tm _ _ 339 b σ167 [(4, .int (iI n1166)), (3, .int (iI (220 * r + k))), (0, .ref b), (1, .int (iI r)), (2, .int (iI k))] [] _
              exact tm_vret rfl dX12_behindItem_339 (⟨rfl, ((((Fr.rfl.trans (Fr.sub F3 (by decide) (by decide) (by decide))).trans (Fr.sub fNow_fr (by decide) (by decide) (by decide))).trans (Fr.sub F156 (by decide) (by decide) (by decide))).trans (Fr.sub F163 (by decide) (by decide) (by decide))), R164, f165⟩)
end
section
theorem fSt_fr {n w ka a kb c : Int} {σ : MS} : Fr [] [49, 50, 51, 52, 53] [] σ (fSt n w ka a kb c σ) := ((((Fr.rfl.A (by decide)).A (by decide)).A (by decide)).A (by decide)).A (by decide)
theorem fSt_w {n w ka a kb c : Int} {σ : MS} : (fSt n w ka a kb c σ).2.1 49 = fun q => if q = n then w else σ.2.1 49 q := by
  funext q
  simp only [fSt, sA, if_true, show ¬ (49 = 53) by decide, show ¬ (49 = 52) by decide, show ¬ (49 = 51) by decide, show ¬ (49 = 50) by decide, if_false]
/-- what 'comes' puts at one place -/
def CST (σ τ : MS) (R y n : Int) : Prop := (R ≠ 0 → τ = fSt y 14 0 0 0 0 σ) ∧ (R = 0 → τ = fSt y (σ.2.1 54 n) (σ.2.1 55 n) (σ.2.1 56 n) (σ.2.1 57 n) (σ.2.1 58 n) σ)
theorem CST.ssa {σ τ : MS} {R y n : Int} (h : CST σ τ R y n) (hs : SSA σ) (hc : SCA σ) : SSA τ := by
  by_cases e : R = 0
  · rw [h.2 e]; exact hs.put (hc n).1 (hc n).2
  · rw [h.1 e]; exact hs.put (fun q => absurd q (by decide)) (fun q => absurd q (by decide))
theorem CST.at {σ τ : MS} {R y n z : Int} (h : CST σ τ R y n) (hz : z ≠ y) : τ.2.1 49 z = σ.2.1 49 z := by
  by_cases e : R = 0
  · rw [h.2 e, fSt_w]; exact if_neg hz
  · rw [h.1 e, fSt_w]; exact if_neg hz
theorem CST.cw {σ τ : MS} {R y n lo : Int} {N : Nat} (h : CST σ τ R y n) (h0 : lo ≤ y) (h1 : y < lo + N) (hf : σ.2.1 49 y ≠ 14) : (R ≠ 0 → cw (τ.2.1 49) lo N + 1 = cw (σ.2.1 49) lo N) ∧ (R = 0 → cw (τ.2.1 49) lo N ≤ cw (σ.2.1 49) lo N) := by
  refine ⟨fun e => ?_, fun e => ?_⟩
  · rw [h.1 e, fSt_w]
    have := cw_upd (f := σ.2.1 49) (lo := lo) (z := y) (v := 14) (n := N) h0 h1 hf
    rw [if_pos rfl] at this
    exact this
  · rw [h.2 e, fSt_w]
    have := cw_upd (f := σ.2.1 49) (lo := lo) (z := y) (v := σ.2.1 54 n) (n := N) h0 h1 hf
    omega
def UNR (σ : MS) (r m : Int) : Prop := ∀ k, 0 ≤ k → k ≤ m → σ.2.1 47 k = 0 → ∀ n, 0 ≤ n → n < 144 → σ.2.1 49 (31824 * r + 144 * k + n) = 11
def LEX (σ : MS) (r : Int) : Prop := ∀ k, 0 ≤ k → k < σ.2.1 9 r → (σ.2.1 3 (220 * r + k) = 8 ∨ σ.2.1 3 (220 * r + k) = 9) → ∃ j, 0 ≤ j ∧ j < σ.2.1 9 r ∧ σ.2.1 3 (220 * r + j) = 13 ∧ σ.2.1 4 (220 * r + j) = σ.2.1 4 (220 * r + k)
theorem LEX.to {σ τ : MS} {r : Int} (h : LEX σ r) (f : LFN σ τ r (σ.2.1 9 r)) {k : Int} (a : 0 ≤ k) (b : k < σ.2.1 9 r) (c : σ.2.1 3 (220 * r + k) = 8 ∨ σ.2.1 3 (220 * r + k) = 9) : 0 ≤ τ.2.1 46 (σ.2.1 4 (220 * r + k)) ∧ τ.2.1 46 (σ.2.1 4 (220 * r + k)) < σ.2.1 9 r ∧ σ.2.1 3 (220 * r + τ.2.1 46 (σ.2.1 4 (220 * r + k))) = 13 := by
  obtain ⟨j, h1, h2, h3, h4⟩ := h k a b c
  have := f j h1 h2 h3
  rw [h4] at this
  exact ⟨this.1, this.2.1, this.2.2.1⟩

theorem fl12_91 : Cond.fieldLink RX12 91 (TX12 47).1 (TX12 47).2.1 (TX12 47).2.2.1 ∈ pWW := pw7 (List.mem_of_getElem? (i := 54) rfl) rfl
theorem dX12_comes_172 : decode cX12_comes 172 = .ok (.iconst 1, 1) := by decide +kernel
theorem dX12_comes_173 : decode cX12_comes 173 = .ok (.istore_n 3, 1) := by decide +kernel
theorem dX12_comes_174 : decode cX12_comes 174 = .ok (.aload_n 0, 1) := by decide +kernel
theorem dX12_comes_175 : decode cX12_comes 175 = .ok (.getfield 91, 3) := by decide +kernel
theorem dX12_comes_178 : decode cX12_comes 178 = .ok (.iload_n 2, 1) := by decide +kernel
theorem dX12_comes_179 : decode cX12_comes 179 = .ok (.baload, 1) := by decide +kernel
theorem dX12_comes_180 : decode cX12_comes 180 = .ok (.istore 7, 2) := by decide +kernel
theorem dX12_comes_182 : decode cX12_comes 182 = .ok (.aload_n 0, 1) := by decide +kernel
theorem dX12_comes_183 : decode cX12_comes 183 = .ok (.getfield 99, 3) := by decide +kernel
theorem dX12_comes_186 : decode cX12_comes 186 = .ok (.iload 5, 2) := by decide +kernel
theorem dX12_comes_188 : decode cX12_comes 188 = .ok (.iload 7, 2) := by decide +kernel
theorem dX12_comes_190 : decode cX12_comes 190 = .ok (.ifCond .eq 8, 3) := by decide +kernel
theorem dX12_comes_198 : decode cX12_comes 198 = .ok (.aload_n 0, 1) := by decide +kernel
theorem dX12_comes_199 : decode cX12_comes 199 = .ok (.getfield 114, 3) := by decide +kernel
theorem dX12_comes_202 : decode cX12_comes 202 = .ok (.iload 4, 2) := by decide +kernel
theorem dX12_comes_204 : decode cX12_comes 204 = .ok (.iaload, 1) := by decide +kernel
theorem dX12_comes_205 : decode cX12_comes 205 = .ok (.iastore, 1) := by decide +kernel
theorem dX12_comes_206 : decode cX12_comes 206 = .ok (.aload_n 0, 1) := by decide +kernel
theorem dX12_comes_207 : decode cX12_comes 207 = .ok (.getfield 102, 3) := by decide +kernel
theorem dX12_comes_210 : decode cX12_comes 210 = .ok (.iload 5, 2) := by decide +kernel
theorem dX12_comes_212 : decode cX12_comes 212 = .ok (.iload 7, 2) := by decide +kernel
theorem dX12_comes_214 : decode cX12_comes 214 = .ok (.ifCond .eq 7, 3) := by decide +kernel
theorem dX12_comes_221 : decode cX12_comes 221 = .ok (.aload_n 0, 1) := by decide +kernel
theorem dX12_comes_222 : decode cX12_comes 222 = .ok (.getfield 117, 3) := by decide +kernel
theorem dX12_comes_225 : decode cX12_comes 225 = .ok (.iload 4, 2) := by decide +kernel
theorem dX12_comes_227 : decode cX12_comes 227 = .ok (.iaload, 1) := by decide +kernel
theorem dX12_comes_228 : decode cX12_comes 228 = .ok (.iastore, 1) := by decide +kernel
theorem dX12_comes_229 : decode cX12_comes 229 = .ok (.aload_n 0, 1) := by decide +kernel
theorem dX12_comes_230 : decode cX12_comes 230 = .ok (.getfield 105, 3) := by decide +kernel
theorem dX12_comes_233 : decode cX12_comes 233 = .ok (.iload 5, 2) := by decide +kernel
theorem dX12_comes_235 : decode cX12_comes 235 = .ok (.iload 7, 2) := by decide +kernel
theorem dX12_comes_237 : decode cX12_comes 237 = .ok (.ifCond .eq 7, 3) := by decide +kernel
theorem dX12_comes_244 : decode cX12_comes 244 = .ok (.aload_n 0, 1) := by decide +kernel
theorem dX12_comes_245 : decode cX12_comes 245 = .ok (.getfield 120, 3) := by decide +kernel
theorem dX12_comes_248 : decode cX12_comes 248 = .ok (.iload 4, 2) := by decide +kernel
theorem dX12_comes_250 : decode cX12_comes 250 = .ok (.iaload, 1) := by decide +kernel
theorem dX12_comes_251 : decode cX12_comes 251 = .ok (.iastore, 1) := by decide +kernel
theorem dX12_comes_252 : decode cX12_comes 252 = .ok (.aload_n 0, 1) := by decide +kernel
theorem dX12_comes_253 : decode cX12_comes 253 = .ok (.getfield 108, 3) := by decide +kernel
theorem dX12_comes_256 : decode cX12_comes 256 = .ok (.iload 5, 2) := by decide +kernel
theorem dX12_comes_258 : decode cX12_comes 258 = .ok (.iload 7, 2) := by decide +kernel
theorem dX12_comes_260 : decode cX12_comes 260 = .ok (.ifCond .eq 7, 3) := by decide +kernel
theorem dX12_comes_267 : decode cX12_comes 267 = .ok (.aload_n 0, 1) := by decide +kernel
theorem dX12_comes_268 : decode cX12_comes 268 = .ok (.getfield 123, 3) := by decide +kernel
theorem dX12_comes_271 : decode cX12_comes 271 = .ok (.iload 4, 2) := by decide +kernel
theorem dX12_comes_273 : decode cX12_comes 273 = .ok (.iaload, 1) := by decide +kernel
theorem dX12_comes_274 : decode cX12_comes 274 = .ok (.iastore, 1) := by decide +kernel
theorem dX12_comes_275 : decode cX12_comes 275 = .ok (.aload_n 0, 1) := by decide +kernel
theorem dX12_comes_276 : decode cX12_comes 276 = .ok (.getfield 111, 3) := by decide +kernel
theorem dX12_comes_279 : decode cX12_comes 279 = .ok (.iload 5, 2) := by decide +kernel
theorem dX12_comes_281 : decode cX12_comes 281 = .ok (.iload 7, 2) := by decide +kernel
theorem dX12_comes_283 : decode cX12_comes 283 = .ok (.ifCond .eq 7, 3) := by decide +kernel
theorem dX12_comes_290 : decode cX12_comes 290 = .ok (.aload_n 0, 1) := by decide +kernel
theorem dX12_comes_291 : decode cX12_comes 291 = .ok (.getfield 126, 3) := by decide +kernel
theorem dX12_comes_294 : decode cX12_comes 294 = .ok (.iload 4, 2) := by decide +kernel
theorem dX12_comes_296 : decode cX12_comes 296 = .ok (.iaload, 1) := by decide +kernel
theorem dX12_comes_297 : decode cX12_comes 297 = .ok (.iastore, 1) := by decide +kernel
theorem dX12_comes_193 : decode cX12_comes 193 = .ok (.bipush 14, 2) := by decide +kernel
theorem dX12_comes_195 : decode cX12_comes 195 = .ok (.goto 10, 3) := by decide +kernel
theorem dX12_comes_217 : decode cX12_comes 217 = .ok (.iconst 0, 1) := by decide +kernel
theorem dX12_comes_218 : decode cX12_comes 218 = .ok (.goto 10, 3) := by decide +kernel
theorem dX12_comes_240 : decode cX12_comes 240 = .ok (.iconst 0, 1) := by decide +kernel
theorem dX12_comes_241 : decode cX12_comes 241 = .ok (.goto 10, 3) := by decide +kernel
theorem dX12_comes_263 : decode cX12_comes 263 = .ok (.iconst 0, 1) := by decide +kernel
theorem dX12_comes_264 : decode cX12_comes 264 = .ok (.goto 10, 3) := by decide +kernel
theorem dX12_comes_286 : decode cX12_comes 286 = .ok (.iconst 0, 1) := by decide +kernel
theorem dX12_comes_287 : decode cX12_comes 287 = .ok (.goto 10, 3) := by decide +kernel
set_option maxHeartbeats 40000000 in
set_option maxRecDepth 20000 in
theorem b_comes (d : Nat) {b : Nat} {σ0 : MS} {r : Int} {to : Int} {n1 : Int} {post : Option Value → MS → Prop} (hr : 0 ≤ r ∧ r < 6) (hR0 : RG σ0) (hto : 0 ≤ to ∧ to ≤ 220 ∧ 0 ≤ n1 ∧ n1 < 144) (hx_298 : ∀ (w : Int) (σ : MS) , (Fr [] [49, 50, 51, 52, 53] [] σ0 σ) → (RG σ) → (w = 1) → (CST σ0 σ (σ0.2.1 47 to) (31824 * r + 144 * to + n1) n1) → Tm (d + 1) m_X12_comes 298 b σ [(5, .int (iI (31824 * r + 144 * to + n1))), (4, .int (iI n1)), (3, .int (iI w)), (0, .ref b), (1, .int (iI r)), (2, .int (iI to))] [] post) : ∀ (n : Nat) (w : Int) (σ : MS) , (Fr [] [49, 50, 51, 52, 53] [] σ0 σ) → (RG σ) → (σ = σ0) → ((0 : Int)).toNat = n → Tm (d + 1) m_X12_comes 172 b σ [(5, .int (iI (31824 * r + 144 * to + n1))), (4, .int (iI n1)), (3, .int (iI w)), (0, .ref b), (1, .int (iI r)), (2, .int (iI to))] [] post := by
  intro n
  induction n using Nat.strongRecOn with
  | _ n ih =>
    intro w σ hF hR hs hm
    refine tm_iconst dX12_comes_172 ?_
    refine tm_istore_n (L' := [(3, .int (iI 1)), (5, .int (iI (31824 * r + 144 * to + n1))), (4, .int (iI n1)), (0, .ref b), (1, .int (iI r)), (2, .int (iI to))]) dX12_comes_173 rfl (by decide) rfl ?_
    refine tm_aload_n dX12_comes_174 rfl 3 rfl ?_
    refine tm_get (k := 47) (v := .ref (b + 1 + 25)) lay_12 dX12_comes_175 (by decide) fl12_91 rfl ?_
    refine tm_iload_n dX12_comes_178 rfl 5 rfl ?_
    refine tm_zald (z := to) (v := σ0.2.1 47 to) dX12_comes_179 (show mT[25]? = some (47, 2, 221) from rfl) (by omega) (by omega) (by decide) (ra_F hF (by decide) (rfl)) ?_
    have g1 := RG.a hR0 47 (to)
    refine tm_istore (L' := [(7, .int (iI (σ0.2.1 47 to))), (3, .int (iI 1)), (5, .int (iI (31824 * r + 144 * to + n1))), (4, .int (iI n1)), (0, .ref b), (1, .int (iI r)), (2, .int (iI to))]) dX12_comes_180 (by decide) rfl ?_
    refine tm_aload_n dX12_comes_182 rfl 4 rfl ?_
    refine tm_get (k := 49) (v := .ref (b + 1 + 27)) lay_12 dX12_comes_183 (by decide) fl12_99 rfl ?_
    refine tm_iload dX12_comes_186 2 rfl ?_
    refine tm_iload dX12_comes_188 0 rfl ?_
    refine tm_if_eq (tgt := 198) dX12_comes_190 (by decide) ⟨by omega, by omega⟩ (fun h2 => ?_) (fun h2 => ?_)
    · refine tm_aload_n dX12_comes_198 rfl 4 rfl ?_
      refine tm_get (k := 54) (v := .ref (b + 1 + 32)) lay_12 dX12_comes_199 (by decide) fl12_114 rfl ?_
      refine tm_iload dX12_comes_202 3 rfl ?_
      refine tm_iald (z := n1) (v := σ0.2.1 54 n1) dX12_comes_204 (show mT[32]? = some (54, 0, 144) from rfl) (by omega) (by omega) (by decide) (ra_F hF (by decide) (rfl)) ?_
      have g3 := RG.a hR0 54 (n1)
      refine tm_iast (z := 31824 * r + 144 * to + n1) (v := σ0.2.1 54 n1) dX12_comes_205 (show mT[27]? = some (49, 0, 190944) from rfl) (by omega) (by omega) (by decide) ?_
      refine tm_aload_n dX12_comes_206 rfl 4 rfl ?_
      refine tm_get (k := 50) (v := .ref (b + 1 + 28)) lay_12 dX12_comes_207 (by decide) fl12_102 rfl ?_
      refine tm_iload dX12_comes_210 2 rfl ?_
      refine tm_iload dX12_comes_212 0 rfl ?_
      refine tm_if_eq (tgt := 221) dX12_comes_214 (by decide) ⟨by omega, by omega⟩ (fun h4 => ?_) (fun h4 => ?_)
      · refine tm_aload_n dX12_comes_221 rfl 4 rfl ?_
        refine tm_get (k := 55) (v := .ref (b + 1 + 33)) lay_12 dX12_comes_222 (by decide) fl12_117 rfl ?_
        refine tm_iload dX12_comes_225 3 rfl ?_
        refine tm_iald (z := n1) (v := σ0.2.1 55 n1) dX12_comes_227 (show mT[33]? = some (55, 0, 144) from rfl) (by omega) (by omega) (by decide) (ra_o (by decide) (ra_F hF (by decide) (rfl))) ?_
        have g5 := RG.a hR0 55 (n1)
        refine tm_iast (z := 31824 * r + 144 * to + n1) (v := σ0.2.1 55 n1) dX12_comes_228 (show mT[28]? = some (50, 0, 190944) from rfl) (by omega) (by omega) (by decide) ?_
        refine tm_aload_n dX12_comes_229 rfl 4 rfl ?_
        refine tm_get (k := 51) (v := .ref (b + 1 + 29)) lay_12 dX12_comes_230 (by decide) fl12_105 rfl ?_
        refine tm_iload dX12_comes_233 2 rfl ?_
        refine tm_iload dX12_comes_235 0 rfl ?_
        refine tm_if_eq (tgt := 244) dX12_comes_237 (by decide) ⟨by omega, by omega⟩ (fun h6 => ?_) (fun h6 => ?_)
        · refine tm_aload_n dX12_comes_244 rfl 4 rfl ?_
          refine tm_get (k := 56) (v := .ref (b + 1 + 34)) lay_12 dX12_comes_245 (by decide) fl12_120 rfl ?_
          refine tm_iload dX12_comes_248 3 rfl ?_
          refine tm_iald (z := n1) (v := σ0.2.1 56 n1) dX12_comes_250 (show mT[34]? = some (56, 0, 144) from rfl) (by omega) (by omega) (by decide) (ra_o (by decide) (ra_o (by decide) (ra_F hF (by decide) (rfl)))) ?_
          have g7 := RG.a hR0 56 (n1)
          refine tm_iast (z := 31824 * r + 144 * to + n1) (v := σ0.2.1 56 n1) dX12_comes_251 (show mT[29]? = some (51, 0, 190944) from rfl) (by omega) (by omega) (by decide) ?_
          refine tm_aload_n dX12_comes_252 rfl 4 rfl ?_
          refine tm_get (k := 52) (v := .ref (b + 1 + 30)) lay_12 dX12_comes_253 (by decide) fl12_108 rfl ?_
          refine tm_iload dX12_comes_256 2 rfl ?_
          refine tm_iload dX12_comes_258 0 rfl ?_
          refine tm_if_eq (tgt := 267) dX12_comes_260 (by decide) ⟨by omega, by omega⟩ (fun h8 => ?_) (fun h8 => ?_)
          · refine tm_aload_n dX12_comes_267 rfl 4 rfl ?_
            refine tm_get (k := 57) (v := .ref (b + 1 + 35)) lay_12 dX12_comes_268 (by decide) fl12_123 rfl ?_
            refine tm_iload dX12_comes_271 3 rfl ?_
            refine tm_iald (z := n1) (v := σ0.2.1 57 n1) dX12_comes_273 (show mT[35]? = some (57, 0, 144) from rfl) (by omega) (by omega) (by decide) (ra_o (by decide) (ra_o (by decide) (ra_o (by decide) (ra_F hF (by decide) (rfl))))) ?_
            have g9 := RG.a hR0 57 (n1)
            refine tm_iast (z := 31824 * r + 144 * to + n1) (v := σ0.2.1 57 n1) dX12_comes_274 (show mT[30]? = some (52, 0, 190944) from rfl) (by omega) (by omega) (by decide) ?_
            refine tm_aload_n dX12_comes_275 rfl 4 rfl ?_
            refine tm_get (k := 53) (v := .ref (b + 1 + 31)) lay_12 dX12_comes_276 (by decide) fl12_111 rfl ?_
            refine tm_iload dX12_comes_279 2 rfl ?_
            refine tm_iload dX12_comes_281 0 rfl ?_
            refine tm_if_eq (tgt := 290) dX12_comes_283 (by decide) ⟨by omega, by omega⟩ (fun h10 => ?_) (fun h10 => ?_)
            · refine tm_aload_n dX12_comes_290 rfl 4 rfl ?_
              refine tm_get (k := 58) (v := .ref (b + 1 + 36)) lay_12 dX12_comes_291 (by decide) fl12_126 rfl ?_
              refine tm_iload dX12_comes_294 3 rfl ?_
              refine tm_iald (z := n1) (v := σ0.2.1 58 n1) dX12_comes_296 (show mT[36]? = some (58, 0, 144) from rfl) (by omega) (by omega) (by decide) (ra_o (by decide) (ra_o (by decide) (ra_o (by decide) (ra_o (by decide) (ra_F hF (by decide) (rfl)))))) ?_
              have g11 := RG.a hR0 58 (n1)
              refine tm_iast (z := 31824 * r + 144 * to + n1) (v := σ0.2.1 58 n1) dX12_comes_297 (show mT[31]? = some (53, 0, 190944) from rfl) (by omega) (by omega) (by decide) ?_
              exact tm_sub [2, 3, 1, 4, 5, 6] rfl (hx_298 (1) (sA 53 (31824 * r + 144 * to + n1) (σ0.2.1 58 n1) (sA 52 (31824 * r + 144 * to + n1) (σ0.2.1 57 n1) (sA 51 (31824 * r + 144 * to + n1) (σ0.2.1 56 n1) (sA 50 (31824 * r + 144 * to + n1) (σ0.2.1 55 n1) (sA 49 (31824 * r + 144 * to + n1) (σ0.2.1 54 n1) σ))))) ((((((Fr.rfl.trans (Fr.sub hF (by decide) (by decide) (by decide))).A (by decide)).A (by decide)).A (by decide)).A (by decide)).A (by decide)) (((((hR.A (by omega)).A (by omega)).A (by omega)).A (by omega)).A (by omega)) (by omega) (by subst hs; refine ⟨fun e => ?_, fun e => ?_⟩ <;> first | rfl | exact absurd e (by omega)))
            · exact absurd h10 (by omega)
          · exact absurd h8 (by omega)
        · exact absurd h6 (by omega)
      · exact absurd h4 (by omega)
    · refine tm_bipush dX12_comes_193 (by decide) ?_
      refine tm_goto (tgt := 205) dX12_comes_195 (by decide) ?_
      refine tm_iast (z := 31824 * r + 144 * to + n1) (v := 14) dX12_comes_205 (show mT[27]? = some (49, 0, 190944) from rfl) (by omega) (by omega) (by decide) ?_
      refine tm_aload_n dX12_comes_206 rfl 4 rfl ?_
      refine tm_get (k := 50) (v := .ref (b + 1 + 28)) lay_12 dX12_comes_207 (by decide) fl12_102 rfl ?_
      refine tm_iload dX12_comes_210 2 rfl ?_
      refine tm_iload dX12_comes_212 0 rfl ?_
      refine tm_if_eq (tgt := 221) dX12_comes_214 (by decide) ⟨by omega, by omega⟩ (fun h12 => ?_) (fun h12 => ?_)
      · exact absurd h12 (by omega)
      · refine tm_iconst dX12_comes_217 ?_
        refine tm_goto (tgt := 228) dX12_comes_218 (by decide) ?_
        refine tm_iast (z := 31824 * r + 144 * to + n1) (v := 0) dX12_comes_228 (show mT[28]? = some (50, 0, 190944) from rfl) (by omega) (by omega) (by decide) ?_
        refine tm_aload_n dX12_comes_229 rfl 4 rfl ?_
        refine tm_get (k := 51) (v := .ref (b + 1 + 29)) lay_12 dX12_comes_230 (by decide) fl12_105 rfl ?_
        refine tm_iload dX12_comes_233 2 rfl ?_
        refine tm_iload dX12_comes_235 0 rfl ?_
        refine tm_if_eq (tgt := 244) dX12_comes_237 (by decide) ⟨by omega, by omega⟩ (fun h13 => ?_) (fun h13 => ?_)
        · exact absurd h13 (by omega)
        · refine tm_iconst dX12_comes_240 ?_
          refine tm_goto (tgt := 251) dX12_comes_241 (by decide) ?_
          refine tm_iast (z := 31824 * r + 144 * to + n1) (v := 0) dX12_comes_251 (show mT[29]? = some (51, 0, 190944) from rfl) (by omega) (by omega) (by decide) ?_
          refine tm_aload_n dX12_comes_252 rfl 4 rfl ?_
          refine tm_get (k := 52) (v := .ref (b + 1 + 30)) lay_12 dX12_comes_253 (by decide) fl12_108 rfl ?_
          refine tm_iload dX12_comes_256 2 rfl ?_
          refine tm_iload dX12_comes_258 0 rfl ?_
          refine tm_if_eq (tgt := 267) dX12_comes_260 (by decide) ⟨by omega, by omega⟩ (fun h14 => ?_) (fun h14 => ?_)
          · exact absurd h14 (by omega)
          · refine tm_iconst dX12_comes_263 ?_
            refine tm_goto (tgt := 274) dX12_comes_264 (by decide) ?_
            refine tm_iast (z := 31824 * r + 144 * to + n1) (v := 0) dX12_comes_274 (show mT[30]? = some (52, 0, 190944) from rfl) (by omega) (by omega) (by decide) ?_
            refine tm_aload_n dX12_comes_275 rfl 4 rfl ?_
            refine tm_get (k := 53) (v := .ref (b + 1 + 31)) lay_12 dX12_comes_276 (by decide) fl12_111 rfl ?_
            refine tm_iload dX12_comes_279 2 rfl ?_
            refine tm_iload dX12_comes_281 0 rfl ?_
            refine tm_if_eq (tgt := 290) dX12_comes_283 (by decide) ⟨by omega, by omega⟩ (fun h15 => ?_) (fun h15 => ?_)
            · exact absurd h15 (by omega)
            · refine tm_iconst dX12_comes_286 ?_
              refine tm_goto (tgt := 297) dX12_comes_287 (by decide) ?_
              refine tm_iast (z := 31824 * r + 144 * to + n1) (v := 0) dX12_comes_297 (show mT[31]? = some (53, 0, 190944) from rfl) (by omega) (by omega) (by decide) ?_
              exact tm_sub [2, 3, 1, 4, 5, 6] rfl (hx_298 (1) (sA 53 (31824 * r + 144 * to + n1) (0) (sA 52 (31824 * r + 144 * to + n1) (0) (sA 51 (31824 * r + 144 * to + n1) (0) (sA 50 (31824 * r + 144 * to + n1) (0) (sA 49 (31824 * r + 144 * to + n1) (14) σ))))) ((((((Fr.rfl.trans (Fr.sub hF (by decide) (by decide) (by decide))).A (by decide)).A (by decide)).A (by decide)).A (by decide)).A (by decide)) (((((hR.A (by omega)).A (by omega)).A (by omega)).A (by omega)).A (by omega)) (by omega) (by subst hs; refine ⟨fun e => ?_, fun e => ?_⟩ <;> first | rfl | exact absurd e (by omega)))
theorem dX12_comes_18 : decode cX12_comes 18 = .ok (.iload 4, 2) := by decide +kernel
theorem dX12_comes_20 : decode cX12_comes 20 = .ok (.sipush 144, 3) := by decide +kernel
theorem dX12_comes_23 : decode cX12_comes 23 = .ok (.if_icmp .ge 281, 3) := by decide +kernel
theorem dX12_comes_26 : decode cX12_comes 26 = .ok (.sipush 31824, 3) := by decide +kernel
theorem dX12_comes_29 : decode cX12_comes 29 = .ok (.iload_n 1, 1) := by decide +kernel
theorem dX12_comes_30 : decode cX12_comes 30 = .ok (.imul, 1) := by decide +kernel
theorem dX12_comes_31 : decode cX12_comes 31 = .ok (.sipush 144, 3) := by decide +kernel
theorem dX12_comes_34 : decode cX12_comes 34 = .ok (.iload_n 2, 1) := by decide +kernel
theorem dX12_comes_35 : decode cX12_comes 35 = .ok (.imul, 1) := by decide +kernel
theorem dX12_comes_36 : decode cX12_comes 36 = .ok (.iadd, 1) := by decide +kernel
theorem dX12_comes_37 : decode cX12_comes 37 = .ok (.iload 4, 2) := by decide +kernel
theorem dX12_comes_39 : decode cX12_comes 39 = .ok (.iadd, 1) := by decide +kernel
theorem dX12_comes_40 : decode cX12_comes 40 = .ok (.istore 5, 2) := by decide +kernel
theorem dX12_comes_42 : decode cX12_comes 42 = .ok (.aload_n 0, 1) := by decide +kernel
theorem dX12_comes_43 : decode cX12_comes 43 = .ok (.getfield 91, 3) := by decide +kernel
theorem dX12_comes_46 : decode cX12_comes 46 = .ok (.iload_n 2, 1) := by decide +kernel
theorem dX12_comes_47 : decode cX12_comes 47 = .ok (.baload, 1) := by decide +kernel
theorem dX12_comes_48 : decode cX12_comes 48 = .ok (.ifCond .eq 92, 3) := by decide +kernel
theorem dX12_comes_140 : decode cX12_comes 140 = .ok (.iconst 0, 1) := by decide +kernel
theorem dX12_comes_141 : decode cX12_comes 141 = .ok (.istore 6, 2) := by decide +kernel
theorem dX12_comes_143 : decode cX12_comes 143 = .ok (.iload 6, 2) := by decide +kernel
theorem dX12_comes_145 : decode cX12_comes 145 = .ok (.ifCond .ne 153, 3) := by decide +kernel
theorem dX12_comes_148 : decode cX12_comes 148 = .ok (.aload_n 0, 1) := by decide +kernel
theorem dX12_comes_149 : decode cX12_comes 149 = .ok (.getfield 91, 3) := by decide +kernel
theorem dX12_comes_152 : decode cX12_comes 152 = .ok (.iload_n 2, 1) := by decide +kernel
theorem dX12_comes_153 : decode cX12_comes 153 = .ok (.baload, 1) := by decide +kernel
theorem dX12_comes_154 : decode cX12_comes 154 = .ok (.ifCond .eq 18, 3) := by decide +kernel
theorem dX12_comes_298 : decode cX12_comes 298 = .ok (.iinc 4 1, 3) := by decide +kernel
theorem dX12_comes_301 : decode cX12_comes 301 = .ok (.goto (-283), 3) := by decide +kernel
theorem dX12_comes_51 : decode cX12_comes 51 = .ok (.aload_n 0, 1) := by decide +kernel
theorem dX12_comes_52 : decode cX12_comes 52 = .ok (.getfield 99, 3) := by decide +kernel
theorem dX12_comes_55 : decode cX12_comes 55 = .ok (.iload 5, 2) := by decide +kernel
theorem dX12_comes_57 : decode cX12_comes 57 = .ok (.iaload, 1) := by decide +kernel
theorem dX12_comes_58 : decode cX12_comes 58 = .ok (.aload_n 0, 1) := by decide +kernel
theorem dX12_comes_59 : decode cX12_comes 59 = .ok (.getfield 114, 3) := by decide +kernel
theorem dX12_comes_62 : decode cX12_comes 62 = .ok (.iload 4, 2) := by decide +kernel
theorem dX12_comes_64 : decode cX12_comes 64 = .ok (.iaload, 1) := by decide +kernel
theorem dX12_comes_65 : decode cX12_comes 65 = .ok (.if_icmp .ne 75, 3) := by decide +kernel
theorem dX12_comes_157 : decode cX12_comes 157 = .ok (.aload_n 0, 1) := by decide +kernel
theorem dX12_comes_158 : decode cX12_comes 158 = .ok (.getfield 99, 3) := by decide +kernel
theorem dX12_comes_161 : decode cX12_comes 161 = .ok (.iload 5, 2) := by decide +kernel
theorem dX12_comes_163 : decode cX12_comes 163 = .ok (.iaload, 1) := by decide +kernel
theorem dX12_comes_164 : decode cX12_comes 164 = .ok (.bipush 14, 2) := by decide +kernel
theorem dX12_comes_166 : decode cX12_comes 166 = .ok (.if_icmp .ne 6, 3) := by decide +kernel
theorem dX12_comes_169 : decode cX12_comes 169 = .ok (.goto 129, 3) := by decide +kernel
theorem dX12_comes_68 : decode cX12_comes 68 = .ok (.aload_n 0, 1) := by decide +kernel
theorem dX12_comes_69 : decode cX12_comes 69 = .ok (.getfield 102, 3) := by decide +kernel
theorem dX12_comes_72 : decode cX12_comes 72 = .ok (.iload 5, 2) := by decide +kernel
theorem dX12_comes_74 : decode cX12_comes 74 = .ok (.iaload, 1) := by decide +kernel
theorem dX12_comes_75 : decode cX12_comes 75 = .ok (.aload_n 0, 1) := by decide +kernel
theorem dX12_comes_76 : decode cX12_comes 76 = .ok (.getfield 117, 3) := by decide +kernel
theorem dX12_comes_79 : decode cX12_comes 79 = .ok (.iload 4, 2) := by decide +kernel
theorem dX12_comes_81 : decode cX12_comes 81 = .ok (.iaload, 1) := by decide +kernel
theorem dX12_comes_82 : decode cX12_comes 82 = .ok (.if_icmp .ne 58, 3) := by decide +kernel
theorem dX12_comes_85 : decode cX12_comes 85 = .ok (.aload_n 0, 1) := by decide +kernel
theorem dX12_comes_86 : decode cX12_comes 86 = .ok (.getfield 105, 3) := by decide +kernel
theorem dX12_comes_89 : decode cX12_comes 89 = .ok (.iload 5, 2) := by decide +kernel
theorem dX12_comes_91 : decode cX12_comes 91 = .ok (.iaload, 1) := by decide +kernel
theorem dX12_comes_92 : decode cX12_comes 92 = .ok (.aload_n 0, 1) := by decide +kernel
theorem dX12_comes_93 : decode cX12_comes 93 = .ok (.getfield 120, 3) := by decide +kernel
theorem dX12_comes_96 : decode cX12_comes 96 = .ok (.iload 4, 2) := by decide +kernel
theorem dX12_comes_98 : decode cX12_comes 98 = .ok (.iaload, 1) := by decide +kernel
theorem dX12_comes_99 : decode cX12_comes 99 = .ok (.if_icmp .ne 41, 3) := by decide +kernel
theorem dX12_comes_102 : decode cX12_comes 102 = .ok (.aload_n 0, 1) := by decide +kernel
theorem dX12_comes_103 : decode cX12_comes 103 = .ok (.getfield 108, 3) := by decide +kernel
theorem dX12_comes_106 : decode cX12_comes 106 = .ok (.iload 5, 2) := by decide +kernel
theorem dX12_comes_108 : decode cX12_comes 108 = .ok (.iaload, 1) := by decide +kernel
theorem dX12_comes_109 : decode cX12_comes 109 = .ok (.aload_n 0, 1) := by decide +kernel
theorem dX12_comes_110 : decode cX12_comes 110 = .ok (.getfield 123, 3) := by decide +kernel
theorem dX12_comes_113 : decode cX12_comes 113 = .ok (.iload 4, 2) := by decide +kernel
theorem dX12_comes_115 : decode cX12_comes 115 = .ok (.iaload, 1) := by decide +kernel
theorem dX12_comes_116 : decode cX12_comes 116 = .ok (.if_icmp .ne 24, 3) := by decide +kernel
theorem dX12_comes_119 : decode cX12_comes 119 = .ok (.aload_n 0, 1) := by decide +kernel
theorem dX12_comes_120 : decode cX12_comes 120 = .ok (.getfield 111, 3) := by decide +kernel
theorem dX12_comes_123 : decode cX12_comes 123 = .ok (.iload 5, 2) := by decide +kernel
theorem dX12_comes_125 : decode cX12_comes 125 = .ok (.iaload, 1) := by decide +kernel
theorem dX12_comes_126 : decode cX12_comes 126 = .ok (.aload_n 0, 1) := by decide +kernel
theorem dX12_comes_127 : decode cX12_comes 127 = .ok (.getfield 126, 3) := by decide +kernel
theorem dX12_comes_130 : decode cX12_comes 130 = .ok (.iload 4, 2) := by decide +kernel
theorem dX12_comes_132 : decode cX12_comes 132 = .ok (.iaload, 1) := by decide +kernel
theorem dX12_comes_133 : decode cX12_comes 133 = .ok (.if_icmp .ne 7, 3) := by decide +kernel
theorem dX12_comes_136 : decode cX12_comes 136 = .ok (.iconst 1, 1) := by decide +kernel
theorem dX12_comes_137 : decode cX12_comes 137 = .ok (.goto 4, 3) := by decide +kernel
set_option maxHeartbeats 40000000 in
set_option maxRecDepth 20000 in
theorem l_comes (d : Nat) {b : Nat} {σ0 : MS} {r : Int} {to : Int} {C0 : Int} {post : Option Value → MS → Prop} (hr : 0 ≤ r ∧ r < 6) (hR0 : RG σ0) (hto : 0 ≤ to ∧ to ≤ 220) (hbo : BO 47 σ0) (hsc : SCA σ0) (hx_304 : ∀ (w : Int) (n1 : Int) (σ : MS) , (Fr [] [49, 50, 51, 52, 53] [] σ0 σ) → (RG σ) → ((w = 0 ∨ w = 1) ∧ (σ0.2.1 47 to = 0 → w = 1)) → (SSA σ) → ((σ0.2.1 47 to = 1 → (cw (σ.2.1 49) (31824 * r) 31824 : Int) + w ≤ C0) ∧ (σ0.2.1 47 to = 0 → (cw (σ.2.1 49) (31824 * r) 31824 : Int) ≤ C0)) → (∀ y, (y < 31824 * r + 144 * to ∨ 31824 * r + 144 * to + 144 ≤ y) → σ.2.1 49 y = σ0.2.1 49 y) → Tm (d + 1) m_X12_comes 304 b σ [(4, .int (iI n1)), (3, .int (iI w)), (0, .ref b), (1, .int (iI r)), (2, .int (iI to))] [] post) : ∀ (n : Nat) (w : Int) (n1 : Int) (σ : MS) , (Fr [] [49, 50, 51, 52, 53] [] σ0 σ) → (RG σ) → (0 ≤ n1 ∧ n1 ≤ 144 ∧ (w = 0 ∨ w = 1) ∧ (σ0.2.1 47 to = 0 → w = 1)) → (SSA σ) → ((σ0.2.1 47 to = 1 → (cw (σ.2.1 49) (31824 * r) 31824 : Int) + w ≤ C0) ∧ (σ0.2.1 47 to = 0 → (cw (σ.2.1 49) (31824 * r) 31824 : Int) ≤ C0)) → (σ0.2.1 47 to = 0 → ∀ n, n1 ≤ n → n < 144 → σ.2.1 49 (31824 * r + 144 * to + n) = 11) → (∀ y, (y < 31824 * r + 144 * to ∨ 31824 * r + 144 * to + 144 ≤ y) → σ.2.1 49 y = σ0.2.1 49 y) → (144 - n1).toNat = n → Tm (d + 1) m_X12_comes 18 b σ [(4, .int (iI n1)), (3, .int (iI w)), (0, .ref b), (1, .int (iI r)), (2, .int (iI to))] [] post := by
  intro n
  induction n using Nat.strongRecOn with
  | _ n ih =>
    intro w n1 σ hF hR h0 hss hcw hun hre hm
    refine tm_iload dX12_comes_18 0 rfl ?_
    refine tm_sipush dX12_comes_20 (by decide) ?_
    refine tm_icmp_ge (tgt := 304) dX12_comes_23 (by decide) ⟨by omega, by omega⟩ ⟨by decide, by decide⟩ (fun h1 => ?_) (fun h1 => ?_)
    · exact tm_sub [0, 1, 2, 3, 4] rfl (hx_304 (w) (n1) σ (Fr.rfl.trans (Fr.sub hF (by decide) (by decide) (by decide))) hR (by omega) hss hcw hre)
    · have hu0 : σ0.2.1 47 to = 0 → σ.2.1 49 (31824 * r + 144 * to + n1) = 11 := fun e => hun e n1 (by omega) (by omega)
      have e47 : σ.2.1 47 to = σ0.2.1 47 to := by rw [hF.2.1 47 (by decide)]
      refine tm_sipush dX12_comes_26 (by decide) ?_
      refine tm_iload_n dX12_comes_29 rfl 3 rfl ?_
      refine tm_imul dX12_comes_30 ?_
      refine tm_sipush dX12_comes_31 (by decide) ?_
      refine tm_iload_n dX12_comes_34 rfl 4 rfl ?_
      refine tm_imul dX12_comes_35 ?_
      refine tm_iadd dX12_comes_36 ?_
      refine tm_iload dX12_comes_37 0 rfl ?_
      refine tm_iadd dX12_comes_39 ?_
      refine tm_istore (L' := [(5, .int (iI (((31824 * r) + (144 * to)) + n1))), (4, .int (iI n1)), (3, .int (iI w)), (0, .ref b), (1, .int (iI r)), (2, .int (iI to))]) dX12_comes_40 (by decide) rfl ?_
      refine tm_aload_n dX12_comes_42 rfl 3 rfl ?_
      refine tm_get (k := 47) (v := .ref (b + 1 + 25)) lay_12 dX12_comes_43 (by decide) fl12_91 rfl ?_
      refine tm_iload_n dX12_comes_46 rfl 5 rfl ?_
      refine tm_zald (z := to) (v := σ0.2.1 47 to) dX12_comes_47 (show mT[25]? = some (47, 2, 221) from rfl) (by omega) (by omega) (by decide) (ra_F hF (by decide) (rfl)) ?_
      have g2 := RG.a hR0 47 (to)
      have := hbo (to)
      refine tm_if_eq (tgt := 140) dX12_comes_48 (by decide) ⟨by omega, by omega⟩ (fun h3 => ?_) (fun h3 => ?_)
      · refine tm_iconst dX12_comes_140 ?_
        refine tm_istore (L' := [(6, .int (iI 0)), (5, .int (iI (((31824 * r) + (144 * to)) + n1))), (4, .int (iI n1)), (3, .int (iI w)), (0, .ref b), (1, .int (iI r)), (2, .int (iI to))]) dX12_comes_141 (by decide) rfl ?_
        refine tm_iload dX12_comes_143 0 rfl ?_
        refine tm_if_ne (tgt := 298) dX12_comes_145 (by decide) ⟨by decide, by decide⟩ (fun h => absurd h (by decide)) (fun _ => ?_)
        refine tm_aload_n dX12_comes_148 rfl 4 rfl ?_
        refine tm_get (k := 47) (v := .ref (b + 1 + 25)) lay_12 dX12_comes_149 (by decide) fl12_91 rfl ?_
        refine tm_iload_n dX12_comes_152 rfl 6 rfl ?_
        refine tm_zald (z := to) (v := σ0.2.1 47 to) dX12_comes_153 (show mT[25]? = some (47, 2, 221) from rfl) (by omega) (by omega) (by decide) (ra_F hF (by decide) (rfl)) ?_
        have g5 := RG.a hR0 47 (to)
        have := hbo (to)
        refine tm_if_eq (tgt := 172) dX12_comes_154 (by decide) ⟨by omega, by omega⟩ (fun h6 => ?_) (fun h6 => ?_)
        · refine tm_sub [1, 2, 3, 4, 5, 6] rfl (b_comes (d) (σ0 := σ) (r := r) (to := to) (n1 := n1) (by omega) hR (by omega) (fun w13 σ14 F9 R10 f11 f12 => ?_) _ (w) σ Fr.rfl hR rfl rfl)
          show Tm _ _ 298 b σ14 [(5, .int (iI (31824 * r + 144 * to + n1))), (4, .int (iI n1)), (3, .int (iI w13)), (0, .ref b), (1, .int (iI r)), (2, .int (iI to))] [] _
          have hcs := f12
          rw [e47] at hcs
          have hcw2 := hcs.cw (lo := 31824 * r) (N := 31824) (by omega) (by omega) (by omega)
          refine tm_iinc (q0 := 1) (L' := [(4, .int (iI (n1 + 1))), (5, .int (iI (31824 * r + 144 * to + n1))), (3, .int (iI w13)), (0, .ref b), (1, .int (iI r)), (2, .int (iI to))]) dX12_comes_298 rfl (by decide) rfl ?_
          refine tm_goto (tgt := 18) dX12_comes_301 (by decide) ?_
          exact tm_sub [0, 2, 3, 4, 5] rfl (ih _ (by omega) (w13) (n1 + 1) σ14 ((Fr.rfl.trans (Fr.sub hF (by decide) (by decide) (by decide))).trans (Fr.sub F9 (by decide) (by decide) (by decide))) R10 (by omega) (by first | exact hss | exact hcs.ssa hss (hsc.fr hF (by decide))) (by omega) (fun e n a c => by first | exact hun e n (by omega) c | (rw [hcs.at (by omega)]; exact hun e n (by omega) c)) (fun y c => by first | exact hre y c | (rw [hcs.at (by omega)]; exact hre y c)) rfl)
        · exact absurd h6 (by omega)
      · refine tm_aload_n dX12_comes_51 rfl 3 rfl ?_
        refine tm_get (k := 49) (v := .ref (b + 1 + 27)) lay_12 dX12_comes_52 (by decide) fl12_99 rfl ?_
        refine tm_iload dX12_comes_55 0 rfl ?_
        refine tm_iald (z := ((31824 * r) + (144 * to)) + n1) (v := σ.2.1 49 (((31824 * r) + (144 * to)) + n1)) dX12_comes_57 (show mT[27]? = some (49, 0, 190944) from rfl) (by omega) (by omega) (by decide) (rfl) ?_
        have g15 := RG.a hR 49 (((31824 * r) + (144 * to)) + n1)
        refine tm_aload_n dX12_comes_58 rfl 3 rfl ?_
        refine tm_get (k := 54) (v := .ref (b + 1 + 32)) lay_12 dX12_comes_59 (by decide) fl12_114 rfl ?_
        refine tm_iload dX12_comes_62 1 rfl ?_
        refine tm_iald (z := n1) (v := σ0.2.1 54 n1) dX12_comes_64 (show mT[32]? = some (54, 0, 144) from rfl) (by omega) (by omega) (by decide) (ra_F hF (by decide) (rfl)) ?_
        have g16 := RG.a hR0 54 (n1)
        refine tm_icmp_ne (tgt := 140) dX12_comes_65 (by decide) ⟨by omega, by omega⟩ ⟨by omega, by omega⟩ (fun h17 => ?_) (fun h17 => ?_)
        · refine tm_iconst dX12_comes_140 ?_
          refine tm_istore (L' := [(6, .int (iI 0)), (5, .int (iI (((31824 * r) + (144 * to)) + n1))), (4, .int (iI n1)), (3, .int (iI w)), (0, .ref b), (1, .int (iI r)), (2, .int (iI to))]) dX12_comes_141 (by decide) rfl ?_
          refine tm_iload dX12_comes_143 0 rfl ?_
          refine tm_if_ne (tgt := 298) dX12_comes_145 (by decide) ⟨by decide, by decide⟩ (fun h => absurd h (by decide)) (fun _ => ?_)
          refine tm_aload_n dX12_comes_148 rfl 4 rfl ?_
          refine tm_get (k := 47) (v := .ref (b + 1 + 25)) lay_12 dX12_comes_149 (by decide) fl12_91 rfl ?_
          refine tm_iload_n dX12_comes_152 rfl 6 rfl ?_
          refine tm_zald (z := to) (v := σ0.2.1 47 to) dX12_comes_153 (show mT[25]? = some (47, 2, 221) from rfl) (by omega) (by omega) (by decide) (ra_F hF (by decide) (rfl)) ?_
          have g19 := RG.a hR0 47 (to)
          have := hbo (to)
          refine tm_if_eq (tgt := 172) dX12_comes_154 (by decide) ⟨by omega, by omega⟩ (fun h20 => ?_) (fun h20 => ?_)
          · exact absurd h20 (by omega)
          · refine tm_aload_n dX12_comes_157 rfl 4 rfl ?_
            refine tm_get (k := 49) (v := .ref (b + 1 + 27)) lay_12 dX12_comes_158 (by decide) fl12_99 rfl ?_
            refine tm_iload dX12_comes_161 1 rfl ?_
            refine tm_iald (z := ((31824 * r) + (144 * to)) + n1) (v := σ.2.1 49 (((31824 * r) + (144 * to)) + n1)) dX12_comes_163 (show mT[27]? = some (49, 0, 190944) from rfl) (by omega) (by omega) (by decide) (rfl) ?_
            have g21 := RG.a hR 49 (((31824 * r) + (144 * to)) + n1)
            refine tm_bipush dX12_comes_164 (by decide) ?_
            refine tm_icmp_ne (tgt := 172) dX12_comes_166 (by decide) ⟨by omega, by omega⟩ ⟨by decide, by decide⟩ (fun h22 => ?_) (fun h22 => ?_)
            · refine tm_sub [1, 2, 3, 4, 5, 6] rfl (b_comes (d) (σ0 := σ) (r := r) (to := to) (n1 := n1) (by omega) hR (by omega) (fun w29 σ30 F25 R26 f27 f28 => ?_) _ (w) σ Fr.rfl hR rfl rfl)
              show Tm _ _ 298 b σ30 [(5, .int (iI (31824 * r + 144 * to + n1))), (4, .int (iI n1)), (3, .int (iI w29)), (0, .ref b), (1, .int (iI r)), (2, .int (iI to))] [] _
              have hcs := f28
              rw [e47] at hcs
              have hcw2 := hcs.cw (lo := 31824 * r) (N := 31824) (by omega) (by omega) (by omega)
              refine tm_iinc (q0 := 1) (L' := [(4, .int (iI (n1 + 1))), (5, .int (iI (31824 * r + 144 * to + n1))), (3, .int (iI w29)), (0, .ref b), (1, .int (iI r)), (2, .int (iI to))]) dX12_comes_298 rfl (by decide) rfl ?_
              refine tm_goto (tgt := 18) dX12_comes_301 (by decide) ?_
              exact tm_sub [0, 2, 3, 4, 5] rfl (ih _ (by omega) (w29) (n1 + 1) σ30 ((Fr.rfl.trans (Fr.sub hF (by decide) (by decide) (by decide))).trans (Fr.sub F25 (by decide) (by decide) (by decide))) R26 (by omega) (by first | exact hss | exact hcs.ssa hss (hsc.fr hF (by decide))) (by omega) (fun e n a c => by first | exact hun e n (by omega) c | (rw [hcs.at (by omega)]; exact hun e n (by omega) c)) (fun y c => by first | exact hre y c | (rw [hcs.at (by omega)]; exact hre y c)) rfl)
            · refine tm_goto (tgt := 298) dX12_comes_169 (by decide) ?_
              refine tm_iinc (q0 := 2) (L' := [(4, .int (iI (n1 + 1))), (6, .int (iI 0)), (5, .int (iI (((31824 * r) + (144 * to)) + n1))), (3, .int (iI w)), (0, .ref b), (1, .int (iI r)), (2, .int (iI to))]) dX12_comes_298 rfl (by decide) rfl ?_
              refine tm_goto (tgt := 18) dX12_comes_301 (by decide) ?_
              exact tm_sub [0, 3, 4, 5, 6] rfl (ih _ (by omega) (w) (n1 + 1) σ (Fr.rfl.trans (Fr.sub hF (by decide) (by decide) (by decide))) hR (by omega) (by first | exact hss | exact hcs.ssa hss (hsc.fr hF (by decide))) (by omega) (fun e n a c => by first | exact hun e n (by omega) c | (rw [hcs.at (by omega)]; exact hun e n (by omega) c)) (fun y c => by first | exact hre y c | (rw [hcs.at (by omega)]; exact hre y c)) rfl)
        · refine tm_aload_n dX12_comes_68 rfl 3 rfl ?_
          refine tm_get (k := 50) (v := .ref (b + 1 + 28)) lay_12 dX12_comes_69 (by decide) fl12_102 rfl ?_
          refine tm_iload dX12_comes_72 0 rfl ?_
          refine tm_iald (z := ((31824 * r) + (144 * to)) + n1) (v := σ.2.1 50 (((31824 * r) + (144 * to)) + n1)) dX12_comes_74 (show mT[28]? = some (50, 0, 190944) from rfl) (by omega) (by omega) (by decide) (rfl) ?_
          have g31 := RG.a hR 50 (((31824 * r) + (144 * to)) + n1)
          refine tm_aload_n dX12_comes_75 rfl 3 rfl ?_
          refine tm_get (k := 55) (v := .ref (b + 1 + 33)) lay_12 dX12_comes_76 (by decide) fl12_117 rfl ?_
          refine tm_iload dX12_comes_79 1 rfl ?_
          refine tm_iald (z := n1) (v := σ0.2.1 55 n1) dX12_comes_81 (show mT[33]? = some (55, 0, 144) from rfl) (by omega) (by omega) (by decide) (ra_F hF (by decide) (rfl)) ?_
          have g32 := RG.a hR0 55 (n1)
          refine tm_icmp_ne (tgt := 140) dX12_comes_82 (by decide) ⟨by omega, by omega⟩ ⟨by omega, by omega⟩ (fun h33 => ?_) (fun h33 => ?_)
          · refine tm_iconst dX12_comes_140 ?_
            refine tm_istore (L' := [(6, .int (iI 0)), (5, .int (iI (((31824 * r) + (144 * to)) + n1))), (4, .int (iI n1)), (3, .int (iI w)), (0, .ref b), (1, .int (iI r)), (2, .int (iI to))]) dX12_comes_141 (by decide) rfl ?_
            refine tm_iload dX12_comes_143 0 rfl ?_
            refine tm_if_ne (tgt := 298) dX12_comes_145 (by decide) ⟨by decide, by decide⟩ (fun h => absurd h (by decide)) (fun _ => ?_)
            refine tm_aload_n dX12_comes_148 rfl 4 rfl ?_
            refine tm_get (k := 47) (v := .ref (b + 1 + 25)) lay_12 dX12_comes_149 (by decide) fl12_91 rfl ?_
            refine tm_iload_n dX12_comes_152 rfl 6 rfl ?_
            refine tm_zald (z := to) (v := σ0.2.1 47 to) dX12_comes_153 (show mT[25]? = some (47, 2, 221) from rfl) (by omega) (by omega) (by decide) (ra_F hF (by decide) (rfl)) ?_
            have g35 := RG.a hR0 47 (to)
            have := hbo (to)
            refine tm_if_eq (tgt := 172) dX12_comes_154 (by decide) ⟨by omega, by omega⟩ (fun h36 => ?_) (fun h36 => ?_)
            · exact absurd h36 (by omega)
            · refine tm_aload_n dX12_comes_157 rfl 4 rfl ?_
              refine tm_get (k := 49) (v := .ref (b + 1 + 27)) lay_12 dX12_comes_158 (by decide) fl12_99 rfl ?_
              refine tm_iload dX12_comes_161 1 rfl ?_
              refine tm_iald (z := ((31824 * r) + (144 * to)) + n1) (v := σ.2.1 49 (((31824 * r) + (144 * to)) + n1)) dX12_comes_163 (show mT[27]? = some (49, 0, 190944) from rfl) (by omega) (by omega) (by decide) (rfl) ?_
              have g37 := RG.a hR 49 (((31824 * r) + (144 * to)) + n1)
              refine tm_bipush dX12_comes_164 (by decide) ?_
              refine tm_icmp_ne (tgt := 172) dX12_comes_166 (by decide) ⟨by omega, by omega⟩ ⟨by decide, by decide⟩ (fun h38 => ?_) (fun h38 => ?_)
              · refine tm_sub [1, 2, 3, 4, 5, 6] rfl (b_comes (d) (σ0 := σ) (r := r) (to := to) (n1 := n1) (by omega) hR (by omega) (fun w45 σ46 F41 R42 f43 f44 => ?_) _ (w) σ Fr.rfl hR rfl rfl)
                show Tm _ _ 298 b σ46 [(5, .int (iI (31824 * r + 144 * to + n1))), (4, .int (iI n1)), (3, .int (iI w45)), (0, .ref b), (1, .int (iI r)), (2, .int (iI to))] [] _
                have hcs := f44
                rw [e47] at hcs
                have hcw2 := hcs.cw (lo := 31824 * r) (N := 31824) (by omega) (by omega) (by omega)
                refine tm_iinc (q0 := 1) (L' := [(4, .int (iI (n1 + 1))), (5, .int (iI (31824 * r + 144 * to + n1))), (3, .int (iI w45)), (0, .ref b), (1, .int (iI r)), (2, .int (iI to))]) dX12_comes_298 rfl (by decide) rfl ?_
                refine tm_goto (tgt := 18) dX12_comes_301 (by decide) ?_
                exact tm_sub [0, 2, 3, 4, 5] rfl (ih _ (by omega) (w45) (n1 + 1) σ46 ((Fr.rfl.trans (Fr.sub hF (by decide) (by decide) (by decide))).trans (Fr.sub F41 (by decide) (by decide) (by decide))) R42 (by omega) (by first | exact hss | exact hcs.ssa hss (hsc.fr hF (by decide))) (by omega) (fun e n a c => by first | exact hun e n (by omega) c | (rw [hcs.at (by omega)]; exact hun e n (by omega) c)) (fun y c => by first | exact hre y c | (rw [hcs.at (by omega)]; exact hre y c)) rfl)
              · refine tm_goto (tgt := 298) dX12_comes_169 (by decide) ?_
                refine tm_iinc (q0 := 2) (L' := [(4, .int (iI (n1 + 1))), (6, .int (iI 0)), (5, .int (iI (((31824 * r) + (144 * to)) + n1))), (3, .int (iI w)), (0, .ref b), (1, .int (iI r)), (2, .int (iI to))]) dX12_comes_298 rfl (by decide) rfl ?_
                refine tm_goto (tgt := 18) dX12_comes_301 (by decide) ?_
                exact tm_sub [0, 3, 4, 5, 6] rfl (ih _ (by omega) (w) (n1 + 1) σ (Fr.rfl.trans (Fr.sub hF (by decide) (by decide) (by decide))) hR (by omega) (by first | exact hss | exact hcs.ssa hss (hsc.fr hF (by decide))) (by omega) (fun e n a c => by first | exact hun e n (by omega) c | (rw [hcs.at (by omega)]; exact hun e n (by omega) c)) (fun y c => by first | exact hre y c | (rw [hcs.at (by omega)]; exact hre y c)) rfl)
          · refine tm_aload_n dX12_comes_85 rfl 3 rfl ?_
            refine tm_get (k := 51) (v := .ref (b + 1 + 29)) lay_12 dX12_comes_86 (by decide) fl12_105 rfl ?_
            refine tm_iload dX12_comes_89 0 rfl ?_
            refine tm_iald (z := ((31824 * r) + (144 * to)) + n1) (v := σ.2.1 51 (((31824 * r) + (144 * to)) + n1)) dX12_comes_91 (show mT[29]? = some (51, 0, 190944) from rfl) (by omega) (by omega) (by decide) (rfl) ?_
            have g47 := RG.a hR 51 (((31824 * r) + (144 * to)) + n1)
            refine tm_aload_n dX12_comes_92 rfl 3 rfl ?_
            refine tm_get (k := 56) (v := .ref (b + 1 + 34)) lay_12 dX12_comes_93 (by decide) fl12_120 rfl ?_
            refine tm_iload dX12_comes_96 1 rfl ?_
            refine tm_iald (z := n1) (v := σ0.2.1 56 n1) dX12_comes_98 (show mT[34]? = some (56, 0, 144) from rfl) (by omega) (by omega) (by decide) (ra_F hF (by decide) (rfl)) ?_
            have g48 := RG.a hR0 56 (n1)
            refine tm_icmp_ne (tgt := 140) dX12_comes_99 (by decide) ⟨by omega, by omega⟩ ⟨by omega, by omega⟩ (fun h49 => ?_) (fun h49 => ?_)
            · refine tm_iconst dX12_comes_140 ?_
              refine tm_istore (L' := [(6, .int (iI 0)), (5, .int (iI (((31824 * r) + (144 * to)) + n1))), (4, .int (iI n1)), (3, .int (iI w)), (0, .ref b), (1, .int (iI r)), (2, .int (iI to))]) dX12_comes_141 (by decide) rfl ?_
              refine tm_iload dX12_comes_143 0 rfl ?_
              refine tm_if_ne (tgt := 298) dX12_comes_145 (by decide) ⟨by decide, by decide⟩ (fun h => absurd h (by decide)) (fun _ => ?_)
              refine tm_aload_n dX12_comes_148 rfl 4 rfl ?_
              refine tm_get (k := 47) (v := .ref (b + 1 + 25)) lay_12 dX12_comes_149 (by decide) fl12_91 rfl ?_
              refine tm_iload_n dX12_comes_152 rfl 6 rfl ?_
              refine tm_zald (z := to) (v := σ0.2.1 47 to) dX12_comes_153 (show mT[25]? = some (47, 2, 221) from rfl) (by omega) (by omega) (by decide) (ra_F hF (by decide) (rfl)) ?_
              have g51 := RG.a hR0 47 (to)
              have := hbo (to)
              refine tm_if_eq (tgt := 172) dX12_comes_154 (by decide) ⟨by omega, by omega⟩ (fun h52 => ?_) (fun h52 => ?_)
              · exact absurd h52 (by omega)
              · refine tm_aload_n dX12_comes_157 rfl 4 rfl ?_
                refine tm_get (k := 49) (v := .ref (b + 1 + 27)) lay_12 dX12_comes_158 (by decide) fl12_99 rfl ?_
                refine tm_iload dX12_comes_161 1 rfl ?_
                refine tm_iald (z := ((31824 * r) + (144 * to)) + n1) (v := σ.2.1 49 (((31824 * r) + (144 * to)) + n1)) dX12_comes_163 (show mT[27]? = some (49, 0, 190944) from rfl) (by omega) (by omega) (by decide) (rfl) ?_
                have g53 := RG.a hR 49 (((31824 * r) + (144 * to)) + n1)
                refine tm_bipush dX12_comes_164 (by decide) ?_
                refine tm_icmp_ne (tgt := 172) dX12_comes_166 (by decide) ⟨by omega, by omega⟩ ⟨by decide, by decide⟩ (fun h54 => ?_) (fun h54 => ?_)
                · refine tm_sub [1, 2, 3, 4, 5, 6] rfl (b_comes (d) (σ0 := σ) (r := r) (to := to) (n1 := n1) (by omega) hR (by omega) (fun w61 σ62 F57 R58 f59 f60 => ?_) _ (w) σ Fr.rfl hR rfl rfl)
                  show Tm _ _ 298 b σ62 [(5, .int (iI (31824 * r + 144 * to + n1))), (4, .int (iI n1)), (3, .int (iI w61)), (0, .ref b), (1, .int (iI r)), (2, .int (iI to))] [] _
                  have hcs := f60
                  rw [e47] at hcs
                  have hcw2 := hcs.cw (lo := 31824 * r) (N := 31824) (by omega) (by omega) (by omega)
                  refine tm_iinc (q0 := 1) (L' := [(4, .int (iI (n1 + 1))), (5, .int (iI (31824 * r + 144 * to + n1))), (3, .int (iI w61)), (0, .ref b), (1, .int (iI r)), (2, .int (iI to))]) dX12_comes_298 rfl (by decide) rfl ?_
                  refine tm_goto (tgt := 18) dX12_comes_301 (by decide) ?_
                  exact tm_sub [0, 2, 3, 4, 5] rfl (ih _ (by omega) (w61) (n1 + 1) σ62 ((Fr.rfl.trans (Fr.sub hF (by decide) (by decide) (by decide))).trans (Fr.sub F57 (by decide) (by decide) (by decide))) R58 (by omega) (by first | exact hss | exact hcs.ssa hss (hsc.fr hF (by decide))) (by omega) (fun e n a c => by first | exact hun e n (by omega) c | (rw [hcs.at (by omega)]; exact hun e n (by omega) c)) (fun y c => by first | exact hre y c | (rw [hcs.at (by omega)]; exact hre y c)) rfl)
                · refine tm_goto (tgt := 298) dX12_comes_169 (by decide) ?_
                  refine tm_iinc (q0 := 2) (L' := [(4, .int (iI (n1 + 1))), (6, .int (iI 0)), (5, .int (iI (((31824 * r) + (144 * to)) + n1))), (3, .int (iI w)), (0, .ref b), (1, .int (iI r)), (2, .int (iI to))]) dX12_comes_298 rfl (by decide) rfl ?_
                  refine tm_goto (tgt := 18) dX12_comes_301 (by decide) ?_
                  exact tm_sub [0, 3, 4, 5, 6] rfl (ih _ (by omega) (w) (n1 + 1) σ (Fr.rfl.trans (Fr.sub hF (by decide) (by decide) (by decide))) hR (by omega) (by first | exact hss | exact hcs.ssa hss (hsc.fr hF (by decide))) (by omega) (fun e n a c => by first | exact hun e n (by omega) c | (rw [hcs.at (by omega)]; exact hun e n (by omega) c)) (fun y c => by first | exact hre y c | (rw [hcs.at (by omega)]; exact hre y c)) rfl)
            · refine tm_aload_n dX12_comes_102 rfl 3 rfl ?_
              refine tm_get (k := 52) (v := .ref (b + 1 + 30)) lay_12 dX12_comes_103 (by decide) fl12_108 rfl ?_
              refine tm_iload dX12_comes_106 0 rfl ?_
              refine tm_iald (z := ((31824 * r) + (144 * to)) + n1) (v := σ.2.1 52 (((31824 * r) + (144 * to)) + n1)) dX12_comes_108 (show mT[30]? = some (52, 0, 190944) from rfl) (by omega) (by omega) (by decide) (rfl) ?_
              have g63 := RG.a hR 52 (((31824 * r) + (144 * to)) + n1)
              refine tm_aload_n dX12_comes_109 rfl 3 rfl ?_
              refine tm_get (k := 57) (v := .ref (b + 1 + 35)) lay_12 dX12_comes_110 (by decide) fl12_123 rfl ?_
              refine tm_iload dX12_comes_113 1 rfl ?_
              refine tm_iald (z := n1) (v := σ0.2.1 57 n1) dX12_comes_115 (show mT[35]? = some (57, 0, 144) from rfl) (by omega) (by omega) (by decide) (ra_F hF (by decide) (rfl)) ?_
              have g64 := RG.a hR0 57 (n1)
              refine tm_icmp_ne (tgt := 140) dX12_comes_116 (by decide) ⟨by omega, by omega⟩ ⟨by omega, by omega⟩ (fun h65 => ?_) (fun h65 => ?_)
              · refine tm_iconst dX12_comes_140 ?_
                refine tm_istore (L' := [(6, .int (iI 0)), (5, .int (iI (((31824 * r) + (144 * to)) + n1))), (4, .int (iI n1)), (3, .int (iI w)), (0, .ref b), (1, .int (iI r)), (2, .int (iI to))]) dX12_comes_141 (by decide) rfl ?_
                refine tm_iload dX12_comes_143 0 rfl ?_
                refine tm_if_ne (tgt := 298) dX12_comes_145 (by decide) ⟨by decide, by decide⟩ (fun h => absurd h (by decide)) (fun _ => ?_)
                refine tm_aload_n dX12_comes_148 rfl 4 rfl ?_
                refine tm_get (k := 47) (v := .ref (b + 1 + 25)) lay_12 dX12_comes_149 (by decide) fl12_91 rfl ?_
                refine tm_iload_n dX12_comes_152 rfl 6 rfl ?_
                refine tm_zald (z := to) (v := σ0.2.1 47 to) dX12_comes_153 (show mT[25]? = some (47, 2, 221) from rfl) (by omega) (by omega) (by decide) (ra_F hF (by decide) (rfl)) ?_
                have g67 := RG.a hR0 47 (to)
                have := hbo (to)
                refine tm_if_eq (tgt := 172) dX12_comes_154 (by decide) ⟨by omega, by omega⟩ (fun h68 => ?_) (fun h68 => ?_)
                · exact absurd h68 (by omega)
                · refine tm_aload_n dX12_comes_157 rfl 4 rfl ?_
                  refine tm_get (k := 49) (v := .ref (b + 1 + 27)) lay_12 dX12_comes_158 (by decide) fl12_99 rfl ?_
                  refine tm_iload dX12_comes_161 1 rfl ?_
                  refine tm_iald (z := ((31824 * r) + (144 * to)) + n1) (v := σ.2.1 49 (((31824 * r) + (144 * to)) + n1)) dX12_comes_163 (show mT[27]? = some (49, 0, 190944) from rfl) (by omega) (by omega) (by decide) (rfl) ?_
                  have g69 := RG.a hR 49 (((31824 * r) + (144 * to)) + n1)
                  refine tm_bipush dX12_comes_164 (by decide) ?_
                  refine tm_icmp_ne (tgt := 172) dX12_comes_166 (by decide) ⟨by omega, by omega⟩ ⟨by decide, by decide⟩ (fun h70 => ?_) (fun h70 => ?_)
                  · refine tm_sub [1, 2, 3, 4, 5, 6] rfl (b_comes (d) (σ0 := σ) (r := r) (to := to) (n1 := n1) (by omega) hR (by omega) (fun w77 σ78 F73 R74 f75 f76 => ?_) _ (w) σ Fr.rfl hR rfl rfl)
                    show Tm _ _ 298 b σ78 [(5, .int (iI (31824 * r + 144 * to + n1))), (4, .int (iI n1)), (3, .int (iI w77)), (0, .ref b), (1, .int (iI r)), (2, .int (iI to))] [] _
                    have hcs := f76
                    rw [e47] at hcs
                    have hcw2 := hcs.cw (lo := 31824 * r) (N := 31824) (by omega) (by omega) (by omega)
                    refine tm_iinc (q0 := 1) (L' := [(4, .int (iI (n1 + 1))), (5, .int (iI (31824 * r + 144 * to + n1))), (3, .int (iI w77)), (0, .ref b), (1, .int (iI r)), (2, .int (iI to))]) dX12_comes_298 rfl (by decide) rfl ?_
                    refine tm_goto (tgt := 18) dX12_comes_301 (by decide) ?_
                    exact tm_sub [0, 2, 3, 4, 5] rfl (ih _ (by omega) (w77) (n1 + 1) σ78 ((Fr.rfl.trans (Fr.sub hF (by decide) (by decide) (by decide))).trans (Fr.sub F73 (by decide) (by decide) (by decide))) R74 (by omega) (by first | exact hss | exact hcs.ssa hss (hsc.fr hF (by decide))) (by omega) (fun e n a c => by first | exact hun e n (by omega) c | (rw [hcs.at (by omega)]; exact hun e n (by omega) c)) (fun y c => by first | exact hre y c | (rw [hcs.at (by omega)]; exact hre y c)) rfl)
                  · refine tm_goto (tgt := 298) dX12_comes_169 (by decide) ?_
                    refine tm_iinc (q0 := 2) (L' := [(4, .int (iI (n1 + 1))), (6, .int (iI 0)), (5, .int (iI (((31824 * r) + (144 * to)) + n1))), (3, .int (iI w)), (0, .ref b), (1, .int (iI r)), (2, .int (iI to))]) dX12_comes_298 rfl (by decide) rfl ?_
                    refine tm_goto (tgt := 18) dX12_comes_301 (by decide) ?_
                    exact tm_sub [0, 3, 4, 5, 6] rfl (ih _ (by omega) (w) (n1 + 1) σ (Fr.rfl.trans (Fr.sub hF (by decide) (by decide) (by decide))) hR (by omega) (by first | exact hss | exact hcs.ssa hss (hsc.fr hF (by decide))) (by omega) (fun e n a c => by first | exact hun e n (by omega) c | (rw [hcs.at (by omega)]; exact hun e n (by omega) c)) (fun y c => by first | exact hre y c | (rw [hcs.at (by omega)]; exact hre y c)) rfl)
              · refine tm_aload_n dX12_comes_119 rfl 3 rfl ?_
                refine tm_get (k := 53) (v := .ref (b + 1 + 31)) lay_12 dX12_comes_120 (by decide) fl12_111 rfl ?_
                refine tm_iload dX12_comes_123 0 rfl ?_
                refine tm_iald (z := ((31824 * r) + (144 * to)) + n1) (v := σ.2.1 53 (((31824 * r) + (144 * to)) + n1)) dX12_comes_125 (show mT[31]? = some (53, 0, 190944) from rfl) (by omega) (by omega) (by decide) (rfl) ?_
                have g79 := RG.a hR 53 (((31824 * r) + (144 * to)) + n1)
                refine tm_aload_n dX12_comes_126 rfl 3 rfl ?_
                refine tm_get (k := 58) (v := .ref (b + 1 + 36)) lay_12 dX12_comes_127 (by decide) fl12_126 rfl ?_
                refine tm_iload dX12_comes_130 1 rfl ?_
                refine tm_iald (z := n1) (v := σ0.2.1 58 n1) dX12_comes_132 (show mT[36]? = some (58, 0, 144) from rfl) (by omega) (by omega) (by decide) (ra_F hF (by decide) (rfl)) ?_
                have g80 := RG.a hR0 58 (n1)
                refine tm_icmp_ne (tgt := 140) dX12_comes_133 (by decide) ⟨by omega, by omega⟩ ⟨by omega, by omega⟩ (fun h81 => ?_) (fun h81 => ?_)
                · refine tm_iconst dX12_comes_140 ?_
                  refine tm_istore (L' := [(6, .int (iI 0)), (5, .int (iI (((31824 * r) + (144 * to)) + n1))), (4, .int (iI n1)), (3, .int (iI w)), (0, .ref b), (1, .int (iI r)), (2, .int (iI to))]) dX12_comes_141 (by decide) rfl ?_
                  refine tm_iload dX12_comes_143 0 rfl ?_
                  refine tm_if_ne (tgt := 298) dX12_comes_145 (by decide) ⟨by decide, by decide⟩ (fun h => absurd h (by decide)) (fun _ => ?_)
                  refine tm_aload_n dX12_comes_148 rfl 4 rfl ?_
                  refine tm_get (k := 47) (v := .ref (b + 1 + 25)) lay_12 dX12_comes_149 (by decide) fl12_91 rfl ?_
                  refine tm_iload_n dX12_comes_152 rfl 6 rfl ?_
                  refine tm_zald (z := to) (v := σ0.2.1 47 to) dX12_comes_153 (show mT[25]? = some (47, 2, 221) from rfl) (by omega) (by omega) (by decide) (ra_F hF (by decide) (rfl)) ?_
                  have g83 := RG.a hR0 47 (to)
                  have := hbo (to)
                  refine tm_if_eq (tgt := 172) dX12_comes_154 (by decide) ⟨by omega, by omega⟩ (fun h84 => ?_) (fun h84 => ?_)
                  · exact absurd h84 (by omega)
                  · refine tm_aload_n dX12_comes_157 rfl 4 rfl ?_
                    refine tm_get (k := 49) (v := .ref (b + 1 + 27)) lay_12 dX12_comes_158 (by decide) fl12_99 rfl ?_
                    refine tm_iload dX12_comes_161 1 rfl ?_
                    refine tm_iald (z := ((31824 * r) + (144 * to)) + n1) (v := σ.2.1 49 (((31824 * r) + (144 * to)) + n1)) dX12_comes_163 (show mT[27]? = some (49, 0, 190944) from rfl) (by omega) (by omega) (by decide) (rfl) ?_
                    have g85 := RG.a hR 49 (((31824 * r) + (144 * to)) + n1)
                    refine tm_bipush dX12_comes_164 (by decide) ?_
                    refine tm_icmp_ne (tgt := 172) dX12_comes_166 (by decide) ⟨by omega, by omega⟩ ⟨by decide, by decide⟩ (fun h86 => ?_) (fun h86 => ?_)
                    · refine tm_sub [1, 2, 3, 4, 5, 6] rfl (b_comes (d) (σ0 := σ) (r := r) (to := to) (n1 := n1) (by omega) hR (by omega) (fun w93 σ94 F89 R90 f91 f92 => ?_) _ (w) σ Fr.rfl hR rfl rfl)
                      show Tm _ _ 298 b σ94 [(5, .int (iI (31824 * r + 144 * to + n1))), (4, .int (iI n1)), (3, .int (iI w93)), (0, .ref b), (1, .int (iI r)), (2, .int (iI to))] [] _
                      have hcs := f92
                      rw [e47] at hcs
                      have hcw2 := hcs.cw (lo := 31824 * r) (N := 31824) (by omega) (by omega) (by omega)
                      refine tm_iinc (q0 := 1) (L' := [(4, .int (iI (n1 + 1))), (5, .int (iI (31824 * r + 144 * to + n1))), (3, .int (iI w93)), (0, .ref b), (1, .int (iI r)), (2, .int (iI to))]) dX12_comes_298 rfl (by decide) rfl ?_
                      refine tm_goto (tgt := 18) dX12_comes_301 (by decide) ?_
                      exact tm_sub [0, 2, 3, 4, 5] rfl (ih _ (by omega) (w93) (n1 + 1) σ94 ((Fr.rfl.trans (Fr.sub hF (by decide) (by decide) (by decide))).trans (Fr.sub F89 (by decide) (by decide) (by decide))) R90 (by omega) (by first | exact hss | exact hcs.ssa hss (hsc.fr hF (by decide))) (by omega) (fun e n a c => by first | exact hun e n (by omega) c | (rw [hcs.at (by omega)]; exact hun e n (by omega) c)) (fun y c => by first | exact hre y c | (rw [hcs.at (by omega)]; exact hre y c)) rfl)
                    · refine tm_goto (tgt := 298) dX12_comes_169 (by decide) ?_
                      refine tm_iinc (q0 := 2) (L' := [(4, .int (iI (n1 + 1))), (6, .int (iI 0)), (5, .int (iI (((31824 * r) + (144 * to)) + n1))), (3, .int (iI w)), (0, .ref b), (1, .int (iI r)), (2, .int (iI to))]) dX12_comes_298 rfl (by decide) rfl ?_
                      refine tm_goto (tgt := 18) dX12_comes_301 (by decide) ?_
                      exact tm_sub [0, 3, 4, 5, 6] rfl (ih _ (by omega) (w) (n1 + 1) σ (Fr.rfl.trans (Fr.sub hF (by decide) (by decide) (by decide))) hR (by omega) (by first | exact hss | exact hcs.ssa hss (hsc.fr hF (by decide))) (by omega) (fun e n a c => by first | exact hun e n (by omega) c | (rw [hcs.at (by omega)]; exact hun e n (by omega) c)) (fun y c => by first | exact hre y c | (rw [hcs.at (by omega)]; exact hre y c)) rfl)
                · refine tm_iconst dX12_comes_136 ?_
                  refine tm_goto (tgt := 141) dX12_comes_137 (by decide) ?_
                  refine tm_istore (L' := [(6, .int (iI 1)), (5, .int (iI (((31824 * r) + (144 * to)) + n1))), (4, .int (iI n1)), (3, .int (iI w)), (0, .ref b), (1, .int (iI r)), (2, .int (iI to))]) dX12_comes_141 (by decide) rfl ?_
                  refine tm_iload dX12_comes_143 0 rfl ?_
                  refine tm_if_ne (tgt := 298) dX12_comes_145 (by decide) ⟨by decide, by decide⟩ (fun _ => ?_) (fun h => absurd h (by decide))
                  refine tm_iinc (q0 := 2) (L' := [(4, .int (iI (n1 + 1))), (6, .int (iI 1)), (5, .int (iI (((31824 * r) + (144 * to)) + n1))), (3, .int (iI w)), (0, .ref b), (1, .int (iI r)), (2, .int (iI to))]) dX12_comes_298 rfl (by decide) rfl ?_
                  refine tm_goto (tgt := 18) dX12_comes_301 (by decide) ?_
                  exact tm_sub [0, 3, 4, 5, 6] rfl (ih _ (by omega) (w) (n1 + 1) σ (Fr.rfl.trans (Fr.sub hF (by decide) (by decide) (by decide))) hR (by omega) (by first | exact hss | exact hcs.ssa hss (hsc.fr hF (by decide))) (by omega) (fun e n a c => by first | exact hun e n (by omega) c | (rw [hcs.at (by omega)]; exact hun e n (by omega) c)) (fun y c => by first | exact hre y c | (rw [hcs.at (by omega)]; exact hre y c)) rfl)
theorem dX12_comes_0 : decode cX12_comes 0 = .ok (.aload_n 0, 1) := by decide +kernel
theorem dX12_comes_1 : decode cX12_comes 1 = .ok (.getfield 91, 3) := by decide +kernel
theorem dX12_comes_4 : decode cX12_comes 4 = .ok (.iload_n 2, 1) := by decide +kernel
theorem dX12_comes_5 : decode cX12_comes 5 = .ok (.baload, 1) := by decide +kernel
theorem dX12_comes_6 : decode cX12_comes 6 = .ok (.ifCond .ne 7, 3) := by decide +kernel
theorem dX12_comes_13 : decode cX12_comes 13 = .ok (.iconst 0, 1) := by decide +kernel
theorem dX12_comes_14 : decode cX12_comes 14 = .ok (.istore_n 3, 1) := by decide +kernel
theorem dX12_comes_15 : decode cX12_comes 15 = .ok (.iconst 0, 1) := by decide +kernel
theorem dX12_comes_16 : decode cX12_comes 16 = .ok (.istore 4, 2) := by decide +kernel
theorem dX12_comes_304 : decode cX12_comes 304 = .ok (.aload_n 0, 1) := by decide +kernel
theorem dX12_comes_305 : decode cX12_comes 305 = .ok (.getfield 91, 3) := by decide +kernel
theorem dX12_comes_308 : decode cX12_comes 308 = .ok (.iload_n 2, 1) := by decide +kernel
theorem dX12_comes_309 : decode cX12_comes 309 = .ok (.iconst 1, 1) := by decide +kernel
theorem dX12_comes_310 : decode cX12_comes 310 = .ok (.bastore, 1) := by decide +kernel
theorem dX12_comes_311 : decode cX12_comes 311 = .ok (.iload_n 3, 1) := by decide +kernel
theorem dX12_comes_312 : decode cX12_comes 312 = .ok (.ireturn, 1) := by decide +kernel
theorem dX12_comes_9 : decode cX12_comes 9 = .ok (.iconst 1, 1) := by decide +kernel
theorem dX12_comes_10 : decode cX12_comes 10 = .ok (.goto 4, 3) := by decide +kernel
set_option maxHeartbeats 40000000 in
set_option maxRecDepth 20000 in
theorem c_X12_comes (d : Nat) {b : Nat} {σ : MS} {r : Int} {to : Int} {m : Int} (hr : 0 ≤ r ∧ r < 6) (hR : RG σ) (hbo : BO 47 σ) (hsc : SCA σ) (hss : SSA σ) (hto : 0 ≤ to ∧ to ≤ m ∧ m ≤ 220) (hun : UNR σ r m) : Tm (d + 1) m_X12_comes 0 b σ [(0, .ref b), (1, .int (iI r)), (2, .int (iI to))] [] (fun ro σ2 => ∃ v : Int, ro = some (.int (iI v)) ∧ ((v = 0 ∨ v = 1)) ∧ (Fr [] [47, 49, 50, 51, 52, 53] [] σ σ2) ∧ (RG σ2) ∧ (BO 47 σ2) ∧ (SSA σ2) ∧ (UNR σ2 r m) ∧ ((cz (σ2.2.1 47) 221 : Int) + (cw (σ2.2.1 49) (31824 * r) 31824 : Int) + v ≤ (cz (σ.2.1 47) 221 : Int) + (cw (σ.2.1 49) (31824 * r) 31824 : Int)) ∧ (σ2.2.1 47 to = 1) ∧ (∀ k, σ.2.1 47 k = 1 → σ2.2.1 47 k = 1)) := by
  refine tm_aload_n dX12_comes_0 rfl 0 rfl ?_
  refine tm_get (k := 47) (v := .ref (b + 1 + 25)) lay_12 dX12_comes_1 (by decide) fl12_91 rfl ?_
  refine tm_iload_n dX12_comes_4 rfl 2 rfl ?_
  refine tm_zald (z := to) (v := σ.2.1 47 to) dX12_comes_5 (show mT[25]? = some (47, 2, 221) from rfl) (by omega) (by omega) (by decide) (rfl) ?_
  have g1 := RG.a hR 47 (to)
  have := hbo (to)
  refine tm_if_ne (tgt := 13) dX12_comes_6 (by decide) ⟨by omega, by omega⟩ (fun h2 => ?_) (fun h2 => ?_)
  · refine tm_iconst dX12_comes_13 ?_
    refine tm_istore_n (L' := [(3, .int (iI 0)), (0, .ref b), (1, .int (iI r)), (2, .int (iI to))]) dX12_comes_14 rfl (by decide) rfl ?_
    refine tm_iconst dX12_comes_15 ?_
    refine tm_istore (L' := [(4, .int (iI 0)), (3, .int (iI 0)), (0, .ref b), (1, .int (iI r)), (2, .int (iI to))]) dX12_comes_16 (by decide) rfl ?_
    refine tm_sub [0, 1, 2, 3, 4] rfl (l_comes (d) (σ0 := σ) (r := r) (to := to) (C0 := (cw (σ.2.1 49) (31824 * r) 31824 : Int)) (by omega) hR (by omega) hbo hsc (fun w12 n113 σ14 F6 R7 f8 f9 f10 f11 => ?_) _ (0) (0) σ Fr.rfl hR (by omega) hss (by omega) (fun e n a c => hun to (by omega) (by omega) e n a c) (fun y _ => rfl) rfl)
    show Tm _ _ 304 b σ14 [(4, .int (iI n113)), (3, .int (iI w12)), (0, .ref b), (1, .int (iI r)), (2, .int (iI to))] [] _
    refine tm_aload_n dX12_comes_304 rfl 2 rfl ?_
    refine tm_get (k := 47) (v := .ref (b + 1 + 25)) lay_12 dX12_comes_305 (by decide) fl12_91 rfl ?_
    refine tm_iload_n dX12_comes_308 rfl 4 rfl ?_
    refine tm_iconst dX12_comes_309 ?_
    refine tm_zast (z := to) (v := 1) dX12_comes_310 (show mT[25]? = some (47, 2, 221) from rfl) (by omega) (by omega) (by decide) (by omega) ?_
    refine tm_iload_n dX12_comes_311 rfl 1 rfl ?_
    exact tm_zret (v := w12) rfl (by omega) dX12_comes_312 (⟨_, rfl, by omega, ((Fr.rfl.trans (Fr.sub F6 (by decide) (by decide) (by decide))).A (by decide)), (R7.A (by omega)), BO.A (hbo.fr F6 (by decide)) (by omega), SSA.fr f9 ((Fr.rfl (ss := []) (ks := [47]) (js := [])).A (by decide)) (by decide), fun k a c e n g i => by
      by_cases q : k = to
      · subst q; exact absurd (e.symm.trans ra_eq) (by decide)
      · have e2 : σ.2.1 47 k = 0 := by rw [← F6.2.1 47 (by decide)]; exact (ra_ne q rfl).symm.trans e
        exact ra_o (by decide) ((f11 _ (by omega)).trans (hun k a c e2 n g i)), by
      have e9 : cw ((sA 47 to 1 σ14).2.1 49) (31824 * r) 31824 = cw (σ14.2.1 49) (31824 * r) 31824 := rfl
      have e8 := cz_fr (n := 221) F6 (k := 47) (by decide)
      have e7 : σ14.2.1 47 to = σ.2.1 47 to := by rw [F6.2.1 47 (by decide)]
      rcases hbo to with e | e
      · have := cz_sA (σ := σ14) (k := 47) (n := 221) (z := to) (v := 1) (by omega) (by omega) (by omega) (by decide)
        omega
      · have e6 : cz ((sA 47 to 1 σ14).2.1 47) 221 = cz (σ14.2.1 47) 221 := cz_ext _ (fun j a c => by
          by_cases q : j = to
          · subst q; rw [e7, e]; exact ra_eq
          · exact ra_ne q rfl)
        omega, ra_eq, fun k e => by
      by_cases q : k = to
      · subst q; exact ra_eq
      · exact ra_ne q (by rw [F6.2.1 47 (by decide)]; exact e)⟩)
  · refine tm_iconst dX12_comes_9 ?_
    refine tm_goto (tgt := 14) dX12_comes_10 (by decide) ?_
    refine tm_istore_n (L' := [(3, .int (iI 1)), (0, .ref b), (1, .int (iI r)), (2, .int (iI to))]) dX12_comes_14 rfl (by decide) rfl ?_
    refine tm_iconst dX12_comes_15 ?_
    refine tm_istore (L' := [(4, .int (iI 0)), (3, .int (iI 1)), (0, .ref b), (1, .int (iI r)), (2, .int (iI to))]) dX12_comes_16 (by decide) rfl ?_
    refine tm_sub [0, 1, 2, 3, 4] rfl (l_comes (d) (σ0 := σ) (r := r) (to := to) (C0 := (cw (σ.2.1 49) (31824 * r) 31824 : Int)) (by omega) hR (by omega) hbo hsc (fun w24 n125 σ26 F18 R19 f20 f21 f22 f23 => ?_) _ (1) (0) σ Fr.rfl hR (by omega) hss (by omega) (fun e n a c => hun to (by omega) (by omega) e n a c) (fun y _ => rfl) rfl)
    show Tm _ _ 304 b σ26 [(4, .int (iI n125)), (3, .int (iI w24)), (0, .ref b), (1, .int (iI r)), (2, .int (iI to))] [] _
    refine tm_aload_n dX12_comes_304 rfl 2 rfl ?_
    refine tm_get (k := 47) (v := .ref (b + 1 + 25)) lay_12 dX12_comes_305 (by decide) fl12_91 rfl ?_
    refine tm_iload_n dX12_comes_308 rfl 4 rfl ?_
    refine tm_iconst dX12_comes_309 ?_
    refine tm_zast (z := to) (v := 1) dX12_comes_310 (show mT[25]? = some (47, 2, 221) from rfl) (by omega) (by omega) (by decide) (by omega) ?_
    refine tm_iload_n dX12_comes_311 rfl 1 rfl ?_
    exact tm_zret (v := w24) rfl (by omega) dX12_comes_312 (⟨_, rfl, by omega, ((Fr.rfl.trans (Fr.sub F18 (by decide) (by decide) (by decide))).A (by decide)), (R19.A (by omega)), BO.A (hbo.fr F18 (by decide)) (by omega), SSA.fr f21 ((Fr.rfl (ss := []) (ks := [47]) (js := [])).A (by decide)) (by decide), fun k a c e n g i => by
      by_cases q : k = to
      · subst q; exact absurd (e.symm.trans ra_eq) (by decide)
      · have e2 : σ.2.1 47 k = 0 := by rw [← F18.2.1 47 (by decide)]; exact (ra_ne q rfl).symm.trans e
        exact ra_o (by decide) ((f23 _ (by omega)).trans (hun k a c e2 n g i)), by
      have e9 : cw ((sA 47 to 1 σ26).2.1 49) (31824 * r) 31824 = cw (σ26.2.1 49) (31824 * r) 31824 := rfl
      have e8 := cz_fr (n := 221) F18 (k := 47) (by decide)
      have e7 : σ26.2.1 47 to = σ.2.1 47 to := by rw [F18.2.1 47 (by decide)]
      rcases hbo to with e | e
      · have := cz_sA (σ := σ26) (k := 47) (n := 221) (z := to) (v := 1) (by omega) (by omega) (by omega) (by decide)
        omega
      · have e6 : cz ((sA 47 to 1 σ26).2.1 47) 221 = cz (σ26.2.1 47) 221 := cz_ext _ (fun j a c => by
          by_cases q : j = to
          · subst q; rw [e7, e]; exact ra_eq
          · exact ra_ne q rfl)
        omega, ra_eq, fun k e => by
      by_cases q : k = to
      · subst q; exact ra_eq
      · exact ra_ne q (by rw [F18.2.1 47 (by decide)]; exact e)⟩)
end
section
def TGT (σ : MS) (r : Int) : Prop := ∀ k, 0 ≤ k → k < σ.2.1 9 r → (σ.2.1 3 (220 * r + k) = 8 ∨ σ.2.1 3 (220 * r + k) = 9) → 0 ≤ σ.2.1 46 (σ.2.1 4 (220 * r + k)) ∧ σ.2.1 46 (σ.2.1 4 (220 * r + k)) < σ.2.1 9 r ∧ σ.2.1 3 (220 * r + σ.2.1 46 (σ.2.1 4 (220 * r + k))) = 13
theorem TGT.fr {ss ks js : List Nat} {σ τ : MS} {r : Int} (h : TGT σ r) (f : Fr ss ks js σ τ) (hk : ∀ k ∈ [3, 4, 9, 46], k ∉ ks) : TGT τ r := by
  unfold TGT
  rw [f.q hk (k := 3) (by decide), f.q hk (k := 4) (by decide), f.q hk (k := 9) (by decide), f.q hk (k := 46) (by decide)]
  exact h
theorem LEX.tgt {σ τ : MS} {r : Int} (h : LEX σ r) (f : LFN σ τ r (σ.2.1 9 r)) (g : Fr [] [46] [] σ τ) : TGT τ r := fun k a b c => by
  rw [g.2.1 9 (by decide)] at b ⊢
  rw [g.2.1 3 (by decide)] at c ⊢
  rw [g.2.1 4 (by decide)]
  exact h.to f a b c
def FR0 (σ : MS) (r : Int) : Prop := σ.2.1 15 (12 * r + 0) = r

theorem dX12_findStates_43 : decode cX12_findStates 43 = .ok (.iload_n 3, 1) := by decide +kernel
theorem dX12_findStates_44 : decode cX12_findStates 44 = .ok (.sipush 144, 3) := by decide +kernel
theorem dX12_findStates_47 : decode cX12_findStates 47 = .ok (.if_icmp .ge 65, 3) := by decide +kernel
theorem dX12_findStates_50 : decode cX12_findStates 50 = .ok (.sipush 31824, 3) := by decide +kernel
theorem dX12_findStates_53 : decode cX12_findStates 53 = .ok (.iload_n 1, 1) := by decide +kernel
theorem dX12_findStates_54 : decode cX12_findStates 54 = .ok (.imul, 1) := by decide +kernel
theorem dX12_findStates_55 : decode cX12_findStates 55 = .ok (.sipush 144, 3) := by decide +kernel
theorem dX12_findStates_58 : decode cX12_findStates 58 = .ok (.iload_n 2, 1) := by decide +kernel
theorem dX12_findStates_59 : decode cX12_findStates 59 = .ok (.imul, 1) := by decide +kernel
theorem dX12_findStates_60 : decode cX12_findStates 60 = .ok (.iadd, 1) := by decide +kernel
theorem dX12_findStates_61 : decode cX12_findStates 61 = .ok (.iload_n 3, 1) := by decide +kernel
theorem dX12_findStates_62 : decode cX12_findStates 62 = .ok (.iadd, 1) := by decide +kernel
theorem dX12_findStates_63 : decode cX12_findStates 63 = .ok (.istore 4, 2) := by decide +kernel
theorem dX12_findStates_65 : decode cX12_findStates 65 = .ok (.aload_n 0, 1) := by decide +kernel
theorem dX12_findStates_66 : decode cX12_findStates 66 = .ok (.getfield 99, 3) := by decide +kernel
theorem dX12_findStates_69 : decode cX12_findStates 69 = .ok (.iload 4, 2) := by decide +kernel
theorem dX12_findStates_71 : decode cX12_findStates 71 = .ok (.bipush 11, 2) := by decide +kernel
theorem dX12_findStates_73 : decode cX12_findStates 73 = .ok (.iastore, 1) := by decide +kernel
theorem dX12_findStates_74 : decode cX12_findStates 74 = .ok (.aload_n 0, 1) := by decide +kernel
theorem dX12_findStates_75 : decode cX12_findStates 75 = .ok (.getfield 102, 3) := by decide +kernel
theorem dX12_findStates_78 : decode cX12_findStates 78 = .ok (.iload 4, 2) := by decide +kernel
theorem dX12_findStates_80 : decode cX12_findStates 80 = .ok (.iconst 0, 1) := by decide +kernel
theorem dX12_findStates_81 : decode cX12_findStates 81 = .ok (.iastore, 1) := by decide +kernel
theorem dX12_findStates_82 : decode cX12_findStates 82 = .ok (.aload_n 0, 1) := by decide +kernel
theorem dX12_findStates_83 : decode cX12_findStates 83 = .ok (.getfield 105, 3) := by decide +kernel
theorem dX12_findStates_86 : decode cX12_findStates 86 = .ok (.iload 4, 2) := by decide +kernel
theorem dX12_findStates_88 : decode cX12_findStates 88 = .ok (.iconst 0, 1) := by decide +kernel
theorem dX12_findStates_89 : decode cX12_findStates 89 = .ok (.iastore, 1) := by decide +kernel
theorem dX12_findStates_90 : decode cX12_findStates 90 = .ok (.aload_n 0, 1) := by decide +kernel
theorem dX12_findStates_91 : decode cX12_findStates 91 = .ok (.getfield 108, 3) := by decide +kernel
theorem dX12_findStates_94 : decode cX12_findStates 94 = .ok (.iload 4, 2) := by decide +kernel
theorem dX12_findStates_96 : decode cX12_findStates 96 = .ok (.iconst 0, 1) := by decide +kernel
theorem dX12_findStates_97 : decode cX12_findStates 97 = .ok (.iastore, 1) := by decide +kernel
theorem dX12_findStates_98 : decode cX12_findStates 98 = .ok (.aload_n 0, 1) := by decide +kernel
theorem dX12_findStates_99 : decode cX12_findStates 99 = .ok (.getfield 111, 3) := by decide +kernel
theorem dX12_findStates_102 : decode cX12_findStates 102 = .ok (.iload 4, 2) := by decide +kernel
theorem dX12_findStates_104 : decode cX12_findStates 104 = .ok (.iconst 0, 1) := by decide +kernel
theorem dX12_findStates_105 : decode cX12_findStates 105 = .ok (.iastore, 1) := by decide +kernel
theorem dX12_findStates_106 : decode cX12_findStates 106 = .ok (.iinc 3 1, 3) := by decide +kernel
theorem dX12_findStates_109 : decode cX12_findStates 109 = .ok (.goto (-66), 3) := by decide +kernel
set_option maxHeartbeats 2000000 in
set_option maxRecDepth 20000 in
theorem l_states2 (d : Nat) {b : Nat} {σ0 : MS} {r : Int} {k : Int} {post : Option Value → MS → Prop} (hr : 0 ≤ r ∧ r < 6) (hk : 0 ≤ k ∧ k ≤ 220) (hx_112 : ∀ (n1 : Int) (σ : MS) , (Fr [] [49, 50, 51, 52, 53] [] σ0 σ) → (RG σ) → (SSA σ) → (∀ n, 0 ≤ n → n < 144 → σ.2.1 49 (31824 * r + 144 * k + n) = 11) → (∀ y, y < 31824 * r + 144 * k → σ.2.1 49 y = σ0.2.1 49 y) → Tm (d + 1) m_X12_findStates 112 b σ [(3, .int (iI n1)), (2, .int (iI k)), (0, .ref b), (1, .int (iI r))] [] post) : ∀ (n : Nat) (n1 : Int) (σ : MS) , (Fr [] [49, 50, 51, 52, 53] [] σ0 σ) → (RG σ) → (0 ≤ n1 ∧ n1 ≤ 144) → (SSA σ) → (∀ n, 0 ≤ n → n < n1 → σ.2.1 49 (31824 * r + 144 * k + n) = 11) → (∀ y, y < 31824 * r + 144 * k → σ.2.1 49 y = σ0.2.1 49 y) → (144 - n1).toNat = n → Tm (d + 1) m_X12_findStates 43 b σ [(3, .int (iI n1)), (2, .int (iI k)), (0, .ref b), (1, .int (iI r))] [] post := by
  intro n
  induction n using Nat.strongRecOn with
  | _ n ih =>
    intro n1 σ hF hR h0 hss hun hre hm
    refine tm_iload_n dX12_findStates_43 rfl 0 rfl ?_
    refine tm_sipush dX12_findStates_44 (by decide) ?_
    refine tm_icmp_ge (tgt := 112) dX12_findStates_47 (by decide) ⟨by omega, by omega⟩ ⟨by decide, by decide⟩ (fun h1 => ?_) (fun h1 => ?_)
    · exact tm_sub [0, 1, 2, 3] rfl (hx_112 (n1) σ (Fr.rfl.trans (Fr.sub hF (by decide) (by decide) (by decide))) hR hss (fun n a c => hun n a (by omega)) hre)
    · refine tm_sipush dX12_findStates_50 (by decide) ?_
      refine tm_iload_n dX12_findStates_53 rfl 3 rfl ?_
      refine tm_imul dX12_findStates_54 ?_
      refine tm_sipush dX12_findStates_55 (by decide) ?_
      refine tm_iload_n dX12_findStates_58 rfl 1 rfl ?_
      refine tm_imul dX12_findStates_59 ?_
      refine tm_iadd dX12_findStates_60 ?_
      refine tm_iload_n dX12_findStates_61 rfl 0 rfl ?_
      refine tm_iadd dX12_findStates_62 ?_
      refine tm_istore (L' := [(4, .int (iI (((31824 * r) + (144 * k)) + n1))), (3, .int (iI n1)), (2, .int (iI k)), (0, .ref b), (1, .int (iI r))]) dX12_findStates_63 (by decide) rfl ?_
      refine tm_aload_n dX12_findStates_65 rfl 3 rfl ?_
      refine tm_get (k := 49) (v := .ref (b + 1 + 27)) lay_12 dX12_findStates_66 (by decide) fl12_99 rfl ?_
      refine tm_iload dX12_findStates_69 0 rfl ?_
      refine tm_bipush dX12_findStates_71 (by decide) ?_
      refine tm_iast (z := ((31824 * r) + (144 * k)) + n1) (v := 11) dX12_findStates_73 (show mT[27]? = some (49, 0, 190944) from rfl) (by omega) (by omega) (by decide) ?_
      refine tm_aload_n dX12_findStates_74 rfl 3 rfl ?_
      refine tm_get (k := 50) (v := .ref (b + 1 + 28)) lay_12 dX12_findStates_75 (by decide) fl12_102 rfl ?_
      refine tm_iload dX12_findStates_78 0 rfl ?_
      refine tm_iconst dX12_findStates_80 ?_
      refine tm_iast (z := ((31824 * r) + (144 * k)) + n1) (v := 0) dX12_findStates_81 (show mT[28]? = some (50, 0, 190944) from rfl) (by omega) (by omega) (by decide) ?_
      refine tm_aload_n dX12_findStates_82 rfl 3 rfl ?_
      refine tm_get (k := 51) (v := .ref (b + 1 + 29)) lay_12 dX12_findStates_83 (by decide) fl12_105 rfl ?_
      refine tm_iload dX12_findStates_86 0 rfl ?_
      refine tm_iconst dX12_findStates_88 ?_
      refine tm_iast (z := ((31824 * r) + (144 * k)) + n1) (v := 0) dX12_findStates_89 (show mT[29]? = some (51, 0, 190944) from rfl) (by omega) (by omega) (by decide) ?_
      refine tm_aload_n dX12_findStates_90 rfl 3 rfl ?_
      refine tm_get (k := 52) (v := .ref (b + 1 + 30)) lay_12 dX12_findStates_91 (by decide) fl12_108 rfl ?_
      refine tm_iload dX12_findStates_94 0 rfl ?_
      refine tm_iconst dX12_findStates_96 ?_
      refine tm_iast (z := ((31824 * r) + (144 * k)) + n1) (v := 0) dX12_findStates_97 (show mT[30]? = some (52, 0, 190944) from rfl) (by omega) (by omega) (by decide) ?_
      refine tm_aload_n dX12_findStates_98 rfl 3 rfl ?_
      refine tm_get (k := 53) (v := .ref (b + 1 + 31)) lay_12 dX12_findStates_99 (by decide) fl12_111 rfl ?_
      refine tm_iload dX12_findStates_102 0 rfl ?_
      refine tm_iconst dX12_findStates_104 ?_
      refine tm_iast (z := ((31824 * r) + (144 * k)) + n1) (v := 0) dX12_findStates_105 (show mT[31]? = some (53, 0, 190944) from rfl) (by omega) (by omega) (by decide) ?_
      refine tm_iinc (q0 := 1) (L' := [(3, .int (iI (n1 + 1))), (4, .int (iI (((31824 * r) + (144 * k)) + n1))), (2, .int (iI k)), (0, .ref b), (1, .int (iI r))]) dX12_findStates_106 rfl (by decide) rfl ?_
      refine tm_goto (tgt := 43) dX12_findStates_109 (by decide) ?_
      exact tm_sub [0, 2, 3, 4] rfl (ih _ (by omega) (n1 + 1) (sA 53 (((31824 * r) + (144 * k)) + n1) (0) (sA 52 (((31824 * r) + (144 * k)) + n1) (0) (sA 51 (((31824 * r) + (144 * k)) + n1) (0) (sA 50 (((31824 * r) + (144 * k)) + n1) (0) (sA 49 (((31824 * r) + (144 * k)) + n1) (11) σ))))) ((((((Fr.rfl.trans (Fr.sub hF (by decide) (by decide) (by decide))).A (by decide)).A (by decide)).A (by decide)).A (by decide)).A (by decide)) (((((hR.A (by omega)).A (by omega)).A (by omega)).A (by omega)).A (by omega)) (by omega) (hss.put (n := 31824 * r + 144 * k + n1) (w := 11) (ka := 0) (a := 0) (kb := 0) (c := 0) (by omega) (by omega)) (fun n a c => (congrFun (fSt_w (n := 31824 * r + 144 * k + n1) (w := 11) (ka := 0) (a := 0) (kb := 0) (c := 0) (σ := σ)) _).trans (by
          by_cases q : n = n1
          · exact if_pos (by omega)
          · exact (if_neg (by omega)).trans (hun n a (by omega)))) (fun y c => (congrFun (fSt_w (n := 31824 * r + 144 * k + n1) (w := 11) (ka := 0) (a := 0) (kb := 0) (c := 0) (σ := σ)) _).trans ((if_neg (by omega)).trans (hre y c))) rfl)
theorem dX12_findStates_24 : decode cX12_findStates 24 = .ok (.iload_n 2, 1) := by decide +kernel
theorem dX12_findStates_25 : decode cX12_findStates 25 = .ok (.aload_n 0, 1) := by decide +kernel
theorem dX12_findStates_26 : decode cX12_findStates 26 = .ok (.getfield 32, 3) := by decide +kernel
theorem dX12_findStates_29 : decode cX12_findStates 29 = .ok (.iload_n 1, 1) := by decide +kernel
theorem dX12_findStates_30 : decode cX12_findStates 30 = .ok (.iaload, 1) := by decide +kernel
theorem dX12_findStates_31 : decode cX12_findStates 31 = .ok (.if_icmp .gt 87, 3) := by decide +kernel
theorem dX12_findStates_34 : decode cX12_findStates 34 = .ok (.aload_n 0, 1) := by decide +kernel
theorem dX12_findStates_35 : decode cX12_findStates 35 = .ok (.getfield 91, 3) := by decide +kernel
theorem dX12_findStates_38 : decode cX12_findStates 38 = .ok (.iload_n 2, 1) := by decide +kernel
theorem dX12_findStates_39 : decode cX12_findStates 39 = .ok (.iconst 0, 1) := by decide +kernel
theorem dX12_findStates_40 : decode cX12_findStates 40 = .ok (.bastore, 1) := by decide +kernel
theorem dX12_findStates_41 : decode cX12_findStates 41 = .ok (.iconst 0, 1) := by decide +kernel
theorem dX12_findStates_42 : decode cX12_findStates 42 = .ok (.istore_n 3, 1) := by decide +kernel
theorem dX12_findStates_112 : decode cX12_findStates 112 = .ok (.iinc 2 1, 3) := by decide +kernel
theorem dX12_findStates_115 : decode cX12_findStates 115 = .ok (.goto (-91), 3) := by decide +kernel
set_option maxHeartbeats 2000000 in
set_option maxRecDepth 20000 in
theorem l_states1 (d : Nat) {b : Nat} {σ0 : MS} {r : Int} {post : Option Value → MS → Prop} (hr : 0 ≤ r ∧ r < 6) (hR0 : RG σ0) (hit : 0 ≤ σ0.2.1 9 r ∧ σ0.2.1 9 r ≤ 220) (hx_118 : ∀ (k : Int) (σ : MS) , (Fr [] [47, 49, 50, 51, 52, 53] [] σ0 σ) → (RG σ) → (BO 47 σ) → (SSA σ) → (UNR σ r (σ0.2.1 9 r)) → Tm (d + 1) m_X12_findStates 118 b σ [(2, .int (iI k)), (0, .ref b), (1, .int (iI r))] [] post) : ∀ (n : Nat) (k : Int) (σ : MS) , (Fr [] [47, 49, 50, 51, 52, 53] [] σ0 σ) → (RG σ) → (0 ≤ k ∧ k ≤ 221) → (BO 47 σ) → (SSA σ) → (∀ j, 0 ≤ j → j < k → ∀ n, 0 ≤ n → n < 144 → σ.2.1 49 (31824 * r + 144 * j + n) = 11) → (221 - k).toNat = n → Tm (d + 1) m_X12_findStates 24 b σ [(2, .int (iI k)), (0, .ref b), (1, .int (iI r))] [] post := by
  intro n
  induction n using Nat.strongRecOn with
  | _ n ih =>
    intro k σ hF hR h0 hbo hss hun hm
    refine tm_iload_n dX12_findStates_24 rfl 0 rfl ?_
    refine tm_aload_n dX12_findStates_25 rfl 1 rfl ?_
    refine tm_get (k := 9) (v := .ref (b + 1 + 7)) lay_12 dX12_findStates_26 (by decide) fl12_32 rfl ?_
    refine tm_iload_n dX12_findStates_29 rfl 2 rfl ?_
    refine tm_iald (z := r) (v := σ0.2.1 9 r) dX12_findStates_30 (show mT[7]? = some (9, 0, 13) from rfl) (by omega) (by omega) (by decide) (ra_F hF (by decide) (rfl)) ?_
    have g1 := RG.a hR0 9 (r)
    refine tm_icmp_gt (tgt := 118) dX12_findStates_31 (by decide) ⟨by omega, by omega⟩ ⟨by omega, by omega⟩ (fun h2 => ?_) (fun h2 => ?_)
    · exact tm_sub [0, 1, 2] rfl (hx_118 (k) σ (Fr.rfl.trans (Fr.sub hF (by decide) (by decide) (by decide))) hR hbo hss (fun j a c e n g i => hun j a (by omega) n g i))
    · refine tm_aload_n dX12_findStates_34 rfl 1 rfl ?_
      refine tm_get (k := 47) (v := .ref (b + 1 + 25)) lay_12 dX12_findStates_35 (by decide) fl12_91 rfl ?_
      refine tm_iload_n dX12_findStates_38 rfl 0 rfl ?_
      refine tm_iconst dX12_findStates_39 ?_
      refine tm_zast (z := k) (v := 0) dX12_findStates_40 (show mT[25]? = some (47, 2, 221) from rfl) (by omega) (by omega) (by decide) (by omega) ?_
      refine tm_iconst dX12_findStates_41 ?_
      refine tm_istore_n (L' := [(3, .int (iI 0)), (2, .int (iI k)), (0, .ref b), (1, .int (iI r))]) dX12_findStates_42 rfl (by decide) rfl ?_
      refine tm_sub [0, 1, 2, 3] rfl (l_states2 (d) (σ0 := (sA 47 (k) (0) σ)) (r := r) (k := k) (by omega) (by omega) (fun n110 σ11 F5 R6 f7 f8 f9 => ?_) _ (0) (sA 47 (k) (0) σ) Fr.rfl (hR.A (by omega)) (by omega) hss (fun n a c => by omega) (fun y _ => rfl) rfl)
      show Tm _ _ 112 b σ11 [(3, .int (iI n110)), (2, .int (iI k)), (0, .ref b), (1, .int (iI r))] [] _
      refine tm_iinc (q0 := 1) (L' := [(2, .int (iI (k + 1))), (3, .int (iI n110)), (0, .ref b), (1, .int (iI r))]) dX12_findStates_112 rfl (by decide) rfl ?_
      refine tm_goto (tgt := 24) dX12_findStates_115 (by decide) ?_
      exact tm_sub [0, 2, 3] rfl (ih _ (by omega) (k + 1) σ11 (((Fr.rfl.trans (Fr.sub hF (by decide) (by decide) (by decide))).A (by decide)).trans (Fr.sub F5 (by decide) (by decide) (by decide))) R6 (by omega) ((hbo.A (by omega)).fr F5 (by decide)) f7 (fun j a c n g i => by
          by_cases q : j = k
          · subst q; exact f8 n g i
          · exact (f9 _ (by omega)).trans (hun j a (by omega) n g i)) rfl)
theorem dX12_findStates_120 : decode cX12_findStates 120 = .ok (.iload_n 2, 1) := by decide +kernel
theorem dX12_findStates_121 : decode cX12_findStates 121 = .ok (.sipush 144, 3) := by decide +kernel
theorem dX12_findStates_124 : decode cX12_findStates 124 = .ok (.if_icmp .ge 93, 3) := by decide +kernel
theorem dX12_findStates_127 : decode cX12_findStates 127 = .ok (.aload_n 0, 1) := by decide +kernel
theorem dX12_findStates_128 : decode cX12_findStates 128 = .ok (.iload_n 2, 1) := by decide +kernel
theorem dX12_findStates_129 : decode cX12_findStates 129 = .ok (.bipush 11, 2) := by decide +kernel
theorem dX12_findStates_131 : decode cX12_findStates 131 = .ok (.iconst 0, 1) := by decide +kernel
theorem dX12_findStates_132 : decode cX12_findStates 132 = .ok (.iconst 0, 1) := by decide +kernel
theorem dX12_findStates_133 : decode cX12_findStates 133 = .ok (.iconst 0, 1) := by decide +kernel
theorem dX12_findStates_134 : decode cX12_findStates 134 = .ok (.iconst 0, 1) := by decide +kernel
theorem dX12_findStates_135 : decode cX12_findStates 135 = .ok (.invokevirtual 416, 3) := by decide +kernel
theorem dX12_findStates_138 : decode cX12_findStates 138 = .ok (.iload_n 2, 1) := by decide +kernel
theorem dX12_findStates_139 : decode cX12_findStates 139 = .ok (.aload_n 0, 1) := by decide +kernel
theorem dX12_findStates_140 : decode cX12_findStates 140 = .ok (.getfield 38, 3) := by decide +kernel
theorem dX12_findStates_143 : decode cX12_findStates 143 = .ok (.iload_n 1, 1) := by decide +kernel
theorem dX12_findStates_144 : decode cX12_findStates 144 = .ok (.iaload, 1) := by decide +kernel
theorem dX12_findStates_145 : decode cX12_findStates 145 = .ok (.if_icmp .ge 66, 3) := by decide +kernel
theorem dX12_findStates_211 : decode cX12_findStates 211 = .ok (.iinc 2 1, 3) := by decide +kernel
theorem dX12_findStates_214 : decode cX12_findStates 214 = .ok (.goto (-94), 3) := by decide +kernel
theorem dX12_findStates_148 : decode cX12_findStates 148 = .ok (.aload_n 0, 1) := by decide +kernel
theorem dX12_findStates_149 : decode cX12_findStates 149 = .ok (.iload_n 2, 1) := by decide +kernel
theorem dX12_findStates_150 : decode cX12_findStates 150 = .ok (.iload_n 2, 1) := by decide +kernel
theorem dX12_findStates_151 : decode cX12_findStates 151 = .ok (.aload_n 0, 1) := by decide +kernel
theorem dX12_findStates_152 : decode cX12_findStates 152 = .ok (.getfield 35, 3) := by decide +kernel
theorem dX12_findStates_155 : decode cX12_findStates 155 = .ok (.iload_n 1, 1) := by decide +kernel
theorem dX12_findStates_156 : decode cX12_findStates 156 = .ok (.iaload, 1) := by decide +kernel
theorem dX12_findStates_157 : decode cX12_findStates 157 = .ok (.if_icmp .ge 7, 3) := by decide +kernel
theorem dX12_findStates_164 : decode cX12_findStates 164 = .ok (.iconst 1, 1) := by decide +kernel
theorem dX12_findStates_165 : decode cX12_findStates 165 = .ok (.iload_n 2, 1) := by decide +kernel
theorem dX12_findStates_166 : decode cX12_findStates 166 = .ok (.aload_n 0, 1) := by decide +kernel
theorem dX12_findStates_167 : decode cX12_findStates 167 = .ok (.getfield 35, 3) := by decide +kernel
theorem dX12_findStates_170 : decode cX12_findStates 170 = .ok (.iload_n 1, 1) := by decide +kernel
theorem dX12_findStates_171 : decode cX12_findStates 171 = .ok (.iaload, 1) := by decide +kernel
theorem dX12_findStates_172 : decode cX12_findStates 172 = .ok (.if_icmp .ge 7, 3) := by decide +kernel
theorem dX12_findStates_179 : decode cX12_findStates 179 = .ok (.iconst 1, 1) := by decide +kernel
theorem dX12_findStates_180 : decode cX12_findStates 180 = .ok (.iload_n 2, 1) := by decide +kernel
theorem dX12_findStates_181 : decode cX12_findStates 181 = .ok (.aload_n 0, 1) := by decide +kernel
theorem dX12_findStates_182 : decode cX12_findStates 182 = .ok (.getfield 35, 3) := by decide +kernel
theorem dX12_findStates_185 : decode cX12_findStates 185 = .ok (.iload_n 1, 1) := by decide +kernel
theorem dX12_findStates_186 : decode cX12_findStates 186 = .ok (.iaload, 1) := by decide +kernel
theorem dX12_findStates_187 : decode cX12_findStates 187 = .ok (.if_icmp .ge 18, 3) := by decide +kernel
theorem dX12_findStates_205 : decode cX12_findStates 205 = .ok (.iconst 0, 1) := by decide +kernel
theorem dX12_findStates_206 : decode cX12_findStates 206 = .ok (.iconst 0, 1) := by decide +kernel
theorem dX12_findStates_207 : decode cX12_findStates 207 = .ok (.iconst 0, 1) := by decide +kernel
theorem dX12_findStates_208 : decode cX12_findStates 208 = .ok (.invokevirtual 416, 3) := by decide +kernel
theorem dX12_findStates_160 : decode cX12_findStates 160 = .ok (.iconst 2, 1) := by decide +kernel
theorem dX12_findStates_161 : decode cX12_findStates 161 = .ok (.goto 4, 3) := by decide +kernel
theorem dX12_findStates_175 : decode cX12_findStates 175 = .ok (.iconst 2, 1) := by decide +kernel
theorem dX12_findStates_176 : decode cX12_findStates 176 = .ok (.goto 4, 3) := by decide +kernel
theorem dX12_findStates_190 : decode cX12_findStates 190 = .ok (.aload_n 0, 1) := by decide +kernel
theorem dX12_findStates_191 : decode cX12_findStates 191 = .ok (.getfield 56, 3) := by decide +kernel
theorem dX12_findStates_194 : decode cX12_findStates 194 = .ok (.sipush 144, 3) := by decide +kernel
theorem dX12_findStates_197 : decode cX12_findStates 197 = .ok (.iload_n 1, 1) := by decide +kernel
theorem dX12_findStates_198 : decode cX12_findStates 198 = .ok (.imul, 1) := by decide +kernel
theorem dX12_findStates_199 : decode cX12_findStates 199 = .ok (.iload_n 2, 1) := by decide +kernel
theorem dX12_findStates_200 : decode cX12_findStates 200 = .ok (.iadd, 1) := by decide +kernel
theorem dX12_findStates_201 : decode cX12_findStates 201 = .ok (.iaload, 1) := by decide +kernel
theorem dX12_findStates_202 : decode cX12_findStates 202 = .ok (.goto 4, 3) := by decide +kernel
set_option maxHeartbeats 2000000 in
set_option maxRecDepth 20000 in
theorem l_states3 (d : Nat) {b : Nat} {σ0 : MS} {r : Int} {post : Option Value → MS → Prop} (hr : 0 ≤ r ∧ r < 6) (hR0 : RG σ0) (hpm : 0 ≤ σ0.2.1 12 r ∧ σ0.2.1 12 r ≤ 12 ∧ 0 ≤ σ0.2.1 11 r ∧ σ0.2.1 11 r ≤ 4) (hnm : ∀ n, 0 ≤ n → n < σ0.2.1 12 r → 0 ≤ σ0.2.1 18 (144 * r + n) ∧ σ0.2.1 18 (144 * r + n) < 192) (hx_217 : ∀ (n1 : Int) (σ : MS) , (Fr [] [54, 55, 56, 57, 58] [] σ0 σ) → (RG σ) → (SCA σ) → Tm (d + 2) m_X12_findStates 217 b σ [(2, .int (iI n1)), (0, .ref b), (1, .int (iI r))] [] post) : ∀ (n : Nat) (n1 : Int) (σ : MS) , (Fr [] [54, 55, 56, 57, 58] [] σ0 σ) → (RG σ) → (0 ≤ n1 ∧ n1 ≤ 144) → (SCA σ) → (144 - n1).toNat = n → Tm (d + 2) m_X12_findStates 120 b σ [(2, .int (iI n1)), (0, .ref b), (1, .int (iI r))] [] post := by
  intro n
  induction n using Nat.strongRecOn with
  | _ n ih =>
    intro n1 σ hF hR h0 hsc hm
    refine tm_iload_n dX12_findStates_120 rfl 0 rfl ?_
    refine tm_sipush dX12_findStates_121 (by decide) ?_
    refine tm_icmp_ge (tgt := 217) dX12_findStates_124 (by decide) ⟨by omega, by omega⟩ ⟨by decide, by decide⟩ (fun h1 => ?_) (fun h1 => ?_)
    · exact tm_sub [0, 1, 2] rfl (hx_217 (n1) σ (Fr.rfl.trans (Fr.sub hF (by decide) (by decide) (by decide))) hR hsc)
    · refine tm_aload_n dX12_findStates_127 rfl 1 rfl ?_
      refine tm_iload_n dX12_findStates_128 rfl 0 rfl ?_
      refine tm_bipush dX12_findStates_129 (by decide) ?_
      refine tm_iconst dX12_findStates_131 ?_
      refine tm_iconst dX12_findStates_132 ?_
      refine tm_iconst dX12_findStates_133 ?_
      refine tm_iconst dX12_findStates_134 ?_
      refine tm_callV (M := m_X12_findStates) (pc := 135) (ix := 416) (M' := m_X12_setNow) (As := [.int (iI n1), .int (iI 11), .int (iI 0), .int (iI 0), .int (iI 0), .int (iI 0)]) (rest := []) dX12_findStates_135 ok_X12_setNow im_X12_setNow se_X12_setNow ml12_416 np_X12_setNow rfl rfl (Nat.le_of_ble_eq_true rfl) (Nat.le_of_ble_eq_true rfl) rfl (c_X12_setNow (d) (σ := σ) (n := n1) (w := 11) (ka := 0) (a := 0) (kb := 0) (c := 0) (by omega)) (fun r2 σ3 hp => ?_)
      obtain ⟨rfl, f5⟩ := hp
      subst f5
      show Tm _ _ 138 b (fNow (n1) (11) (0) (0) (0) (0) σ) [(2, .int (iI n1)), (0, .ref b), (1, .int (iI r))] [] _
      refine tm_iload_n dX12_findStates_138 rfl 0 rfl ?_
      refine tm_aload_n dX12_findStates_139 rfl 1 rfl ?_
      refine tm_get (k := 12) (v := .ref (b + 1 + 9)) lay_12 dX12_findStates_140 (by decide) fl12_38 rfl ?_
      refine tm_iload_n dX12_findStates_143 rfl 2 rfl ?_
      refine tm_iald (z := r) (v := σ0.2.1 12 r) dX12_findStates_144 (show mT[9]? = some (12, 0, 6) from rfl) (by omega) (by omega) (by decide) (ra_F fNow_fr (by decide) (ra_F hF (by decide) (rfl))) ?_
      have g6 := RG.a hR0 12 (r)
      refine tm_icmp_ge (tgt := 211) dX12_findStates_145 (by decide) ⟨by omega, by omega⟩ ⟨by omega, by omega⟩ (fun h7 => ?_) (fun h7 => ?_)
      · refine tm_iinc (q0 := 0) (L' := [(2, .int (iI (n1 + 1))), (0, .ref b), (1, .int (iI r))]) dX12_findStates_211 rfl (by decide) rfl ?_
        refine tm_goto (tgt := 120) dX12_findStates_214 (by decide) ?_
        exact tm_sub [0, 1, 2] rfl (ih _ (by omega) (n1 + 1) (fNow (n1) (11) (0) (0) (0) (0) σ) ((Fr.rfl.trans (Fr.sub hF (by decide) (by decide) (by decide))).trans (Fr.sub fNow_fr (by decide) (by decide) (by decide))) (hR.now (by omega)) (by omega) (hsc.put (by omega) (by omega)) rfl)
      · have hq := hnm n1 (by omega) (by omega)
        refine tm_aload_n dX12_findStates_148 rfl 1 rfl ?_
        refine tm_iload_n dX12_findStates_149 rfl 0 rfl ?_
        refine tm_iload_n dX12_findStates_150 rfl 0 rfl ?_
        refine tm_aload_n dX12_findStates_151 rfl 1 rfl ?_
        refine tm_get (k := 11) (v := .ref (b + 1 + 8)) lay_12 dX12_findStates_152 (by decide) fl12_35 rfl ?_
        refine tm_iload_n dX12_findStates_155 rfl 2 rfl ?_
        refine tm_iald (z := r) (v := σ0.2.1 11 r) dX12_findStates_156 (show mT[8]? = some (11, 0, 6) from rfl) (by omega) (by omega) (by decide) (ra_F fNow_fr (by decide) (ra_F hF (by decide) (rfl))) ?_
        have g8 := RG.a hR0 11 (r)
        refine tm_icmp_ge (tgt := 164) dX12_findStates_157 (by decide) ⟨by omega, by omega⟩ ⟨by omega, by omega⟩ (fun h9 => ?_) (fun h9 => ?_)
        · refine tm_iconst dX12_findStates_164 ?_
          refine tm_iload_n dX12_findStates_165 rfl 0 rfl ?_
          refine tm_aload_n dX12_findStates_166 rfl 1 rfl ?_
          refine tm_get (k := 11) (v := .ref (b + 1 + 8)) lay_12 dX12_findStates_167 (by decide) fl12_35 rfl ?_
          refine tm_iload_n dX12_findStates_170 rfl 2 rfl ?_
          refine tm_iald (z := r) (v := σ0.2.1 11 r) dX12_findStates_171 (show mT[8]? = some (11, 0, 6) from rfl) (by omega) (by omega) (by decide) (ra_F fNow_fr (by decide) (ra_F hF (by decide) (rfl))) ?_
          have g10 := RG.a hR0 11 (r)
          refine tm_icmp_ge (tgt := 179) dX12_findStates_172 (by decide) ⟨by omega, by omega⟩ ⟨by omega, by omega⟩ (fun h11 => ?_) (fun h11 => ?_)
          · refine tm_iconst dX12_findStates_179 ?_
            refine tm_iload_n dX12_findStates_180 rfl 0 rfl ?_
            refine tm_aload_n dX12_findStates_181 rfl 1 rfl ?_
            refine tm_get (k := 11) (v := .ref (b + 1 + 8)) lay_12 dX12_findStates_182 (by decide) fl12_35 rfl ?_
            refine tm_iload_n dX12_findStates_185 rfl 2 rfl ?_
            refine tm_iald (z := r) (v := σ0.2.1 11 r) dX12_findStates_186 (show mT[8]? = some (11, 0, 6) from rfl) (by omega) (by omega) (by decide) (ra_F fNow_fr (by decide) (ra_F hF (by decide) (rfl))) ?_
            have g12 := RG.a hR0 11 (r)
            refine tm_icmp_ge (tgt := 205) dX12_findStates_187 (by decide) ⟨by omega, by omega⟩ ⟨by omega, by omega⟩ (fun h13 => ?_) (fun h13 => ?_)
            · refine tm_iconst dX12_findStates_205 ?_
              refine tm_iconst dX12_findStates_206 ?_
              refine tm_iconst dX12_findStates_207 ?_
              refine tm_callV (M := m_X12_findStates) (pc := 208) (ix := 416) (M' := m_X12_setNow) (As := [.int (iI n1), .int (iI 1), .int (iI 1), .int (iI 0), .int (iI 0), .int (iI 0)]) (rest := []) dX12_findStates_208 ok_X12_setNow im_X12_setNow se_X12_setNow ml12_416 np_X12_setNow rfl rfl (Nat.le_of_ble_eq_true rfl) (Nat.le_of_ble_eq_true rfl) rfl (c_X12_setNow (d) (σ := (fNow (n1) (11) (0) (0) (0) (0) σ)) (n := n1) (w := 1) (ka := 1) (a := 0) (kb := 0) (c := 0) (by omega)) (fun r14 σ15 hp => ?_)
              obtain ⟨rfl, f17⟩ := hp
              subst f17
              show Tm _ _ 211 b (fNow (n1) (1) (1) (0) (0) (0) (fNow (n1) (11) (0) (0) (0) (0) σ)) [(2, .int (iI n1)), (0, .ref b), (1, .int (iI r))] [] _
              refine tm_iinc (q0 := 0) (L' := [(2, .int (iI (n1 + 1))), (0, .ref b), (1, .int (iI r))]) dX12_findStates_211 rfl (by decide) rfl ?_
              refine tm_goto (tgt := 120) dX12_findStates_214 (by decide) ?_
              exact tm_sub [0, 1, 2] rfl (ih _ (by omega) (n1 + 1) (fNow (n1) (1) (1) (0) (0) (0) (fNow (n1) (11) (0) (0) (0) (0) σ)) (((Fr.rfl.trans (Fr.sub hF (by decide) (by decide) (by decide))).trans (Fr.sub fNow_fr (by decide) (by decide) (by decide))).trans (Fr.sub fNow_fr (by decide) (by decide) (by decide))) ((hR.now (by omega)).now (by omega)) (by omega) (SCA.put (hsc.put (by omega) (by omega)) (by omega) (by omega)) rfl)
            · exact absurd h13 (by omega)
          · exact absurd h11 (by omega)
        · refine tm_iconst dX12_findStates_160 ?_
          refine tm_goto (tgt := 165) dX12_findStates_161 (by decide) ?_
          refine tm_iload_n dX12_findStates_165 rfl 0 rfl ?_
          refine tm_aload_n dX12_findStates_166 rfl 1 rfl ?_
          refine tm_get (k := 11) (v := .ref (b + 1 + 8)) lay_12 dX12_findStates_167 (by decide) fl12_35 rfl ?_
          refine tm_iload_n dX12_findStates_170 rfl 2 rfl ?_
          refine tm_iald (z := r) (v := σ0.2.1 11 r) dX12_findStates_171 (show mT[8]? = some (11, 0, 6) from rfl) (by omega) (by omega) (by decide) (ra_F fNow_fr (by decide) (ra_F hF (by decide) (rfl))) ?_
          have g18 := RG.a hR0 11 (r)
          refine tm_icmp_ge (tgt := 179) dX12_findStates_172 (by decide) ⟨by omega, by omega⟩ ⟨by omega, by omega⟩ (fun h19 => ?_) (fun h19 => ?_)
          · exact absurd h19 (by omega)
          · refine tm_iconst dX12_findStates_175 ?_
            refine tm_goto (tgt := 180) dX12_findStates_176 (by decide) ?_
            refine tm_iload_n dX12_findStates_180 rfl 0 rfl ?_
            refine tm_aload_n dX12_findStates_181 rfl 1 rfl ?_
            refine tm_get (k := 11) (v := .ref (b + 1 + 8)) lay_12 dX12_findStates_182 (by decide) fl12_35 rfl ?_
            refine tm_iload_n dX12_findStates_185 rfl 2 rfl ?_
            refine tm_iald (z := r) (v := σ0.2.1 11 r) dX12_findStates_186 (show mT[8]? = some (11, 0, 6) from rfl) (by omega) (by omega) (by decide) (ra_F fNow_fr (by decide) (ra_F hF (by decide) (rfl))) ?_
            have g20 := RG.a hR0 11 (r)
            refine tm_icmp_ge (tgt := 205) dX12_findStates_187 (by decide) ⟨by omega, by omega⟩ ⟨by omega, by omega⟩ (fun h21 => ?_) (fun h21 => ?_)
            · exact absurd h21 (by omega)
            · refine tm_aload_n dX12_findStates_190 rfl 1 rfl ?_
              refine tm_get (k := 18) (v := .ref (b + 1 + 15)) lay_12 dX12_findStates_191 (by decide) fl12_56 rfl ?_
              refine tm_sipush dX12_findStates_194 (by decide) ?_
              refine tm_iload_n dX12_findStates_197 rfl 2 rfl ?_
              refine tm_imul dX12_findStates_198 ?_
              refine tm_iload_n dX12_findStates_199 rfl 0 rfl ?_
              refine tm_iadd dX12_findStates_200 ?_
              refine tm_iald (z := (144 * r) + n1) (v := σ0.2.1 18 ((144 * r) + n1)) dX12_findStates_201 (show mT[15]? = some (18, 0, 864) from rfl) (by omega) (by omega) (by decide) (ra_F fNow_fr (by decide) (ra_F hF (by decide) (rfl))) ?_
              have g22 := RG.a hR0 18 ((144 * r) + n1)
              refine tm_goto (tgt := 206) dX12_findStates_202 (by decide) ?_
              refine tm_iconst dX12_findStates_206 ?_
              refine tm_iconst dX12_findStates_207 ?_
              refine tm_callV (M := m_X12_findStates) (pc := 208) (ix := 416) (M' := m_X12_setNow) (As := [.int (iI n1), .int (iI 2), .int (iI 2), .int (iI (σ0.2.1 18 ((144 * r) + n1))), .int (iI 0), .int (iI 0)]) (rest := []) dX12_findStates_208 ok_X12_setNow im_X12_setNow se_X12_setNow ml12_416 np_X12_setNow rfl rfl (Nat.le_of_ble_eq_true rfl) (Nat.le_of_ble_eq_true rfl) rfl (c_X12_setNow (d) (σ := (fNow (n1) (11) (0) (0) (0) (0) σ)) (n := n1) (w := 2) (ka := 2) (a := σ0.2.1 18 ((144 * r) + n1)) (kb := 0) (c := 0) (by omega)) (fun r23 σ24 hp => ?_)
              obtain ⟨rfl, f26⟩ := hp
              subst f26
              show Tm _ _ 211 b (fNow (n1) (2) (2) (σ0.2.1 18 ((144 * r) + n1)) (0) (0) (fNow (n1) (11) (0) (0) (0) (0) σ)) [(2, .int (iI n1)), (0, .ref b), (1, .int (iI r))] [] _
              refine tm_iinc (q0 := 0) (L' := [(2, .int (iI (n1 + 1))), (0, .ref b), (1, .int (iI r))]) dX12_findStates_211 rfl (by decide) rfl ?_
              refine tm_goto (tgt := 120) dX12_findStates_214 (by decide) ?_
              exact tm_sub [0, 1, 2] rfl (ih _ (by omega) (n1 + 1) (fNow (n1) (2) (2) (σ0.2.1 18 ((144 * r) + n1)) (0) (0) (fNow (n1) (11) (0) (0) (0) (0) σ)) (((Fr.rfl.trans (Fr.sub hF (by decide) (by decide) (by decide))).trans (Fr.sub fNow_fr (by decide) (by decide) (by decide))).trans (Fr.sub fNow_fr (by decide) (by decide) (by decide))) ((hR.now (by omega)).now (by omega)) (by omega) (SCA.put (hsc.put (by omega) (by omega)) (by omega) (by omega)) rfl)
theorem ml12_423 : Cond.methodLink RX12 423 yX12_comes ∈ pWW := pw9 (List.mem_of_getElem? (i := 86) rfl) rfl
theorem dX12_findStates_263 : decode cX12_findStates 263 = .ok (.iload 4, 2) := by decide +kernel
theorem dX12_findStates_265 : decode cX12_findStates 265 = .ok (.iconst 2, 1) := by decide +kernel
theorem dX12_findStates_266 : decode cX12_findStates 266 = .ok (.if_icmp .ge 43, 3) := by decide +kernel
theorem dX12_findStates_269 : decode cX12_findStates 269 = .ok (.aload_n 0, 1) := by decide +kernel
theorem dX12_findStates_270 : decode cX12_findStates 270 = .ok (.iload_n 1, 1) := by decide +kernel
theorem dX12_findStates_271 : decode cX12_findStates 271 = .ok (.iload_n 3, 1) := by decide +kernel
theorem dX12_findStates_272 : decode cX12_findStates 272 = .ok (.iload 4, 2) := by decide +kernel
theorem dX12_findStates_274 : decode cX12_findStates 274 = .ok (.invokevirtual 413, 3) := by decide +kernel
theorem dX12_findStates_277 : decode cX12_findStates 277 = .ok (.istore 5, 2) := by decide +kernel
theorem dX12_findStates_279 : decode cX12_findStates 279 = .ok (.iload_n 2, 1) := by decide +kernel
theorem dX12_findStates_280 : decode cX12_findStates 280 = .ok (.iload 5, 2) := by decide +kernel
theorem dX12_findStates_282 : decode cX12_findStates 282 = .ok (.iconst (-1), 1) := by decide +kernel
theorem dX12_findStates_283 : decode cX12_findStates 283 = .ok (.if_icmp .eq 17, 3) := by decide +kernel
theorem dX12_findStates_300 : decode cX12_findStates 300 = .ok (.iconst 0, 1) := by decide +kernel
theorem dX12_findStates_301 : decode cX12_findStates 301 = .ok (.ior, 1) := by decide +kernel
theorem dX12_findStates_302 : decode cX12_findStates 302 = .ok (.istore_n 2, 1) := by decide +kernel
theorem dX12_findStates_303 : decode cX12_findStates 303 = .ok (.iinc 4 1, 3) := by decide +kernel
theorem dX12_findStates_306 : decode cX12_findStates 306 = .ok (.goto (-43), 3) := by decide +kernel
theorem dX12_findStates_286 : decode cX12_findStates 286 = .ok (.aload_n 0, 1) := by decide +kernel
theorem dX12_findStates_287 : decode cX12_findStates 287 = .ok (.iload_n 1, 1) := by decide +kernel
theorem dX12_findStates_288 : decode cX12_findStates 288 = .ok (.iload 5, 2) := by decide +kernel
theorem dX12_findStates_290 : decode cX12_findStates 290 = .ok (.invokevirtual 423, 3) := by decide +kernel
theorem dX12_findStates_293 : decode cX12_findStates 293 = .ok (.ifCond .eq 7, 3) := by decide +kernel
theorem dX12_findStates_296 : decode cX12_findStates 296 = .ok (.iconst 1, 1) := by decide +kernel
theorem dX12_findStates_297 : decode cX12_findStates 297 = .ok (.goto 4, 3) := by decide +kernel
set_option maxHeartbeats 2000000 in
set_option maxRecDepth 20000 in
theorem l_states6 (d : Nat) {b : Nat} {σ0 : MS} {r : Int} {F : Int} {m : Int} {k : Int} {C0 : Int} {post : Option Value → MS → Prop} (hr : 0 ≤ r ∧ r < 6) (hR0 : RG σ0) (hit : ITM σ0) (hpar : PAR σ0) (hok : OKS σ0 F r) (hF12 : 1 ≤ F ∧ F ≤ 12) (htg : TGT σ0 r) (hm : m = σ0.2.1 9 r) (hk : 0 ≤ k ∧ k < m) (hx_309 : ∀ (w : Int) (i : Int) (σ : MS) , (Fr [] [47, 49, 50, 51, 52, 53] [] σ0 σ) → (RG σ) → (w = 0 ∨ w = 1) → (BO 47 σ) → (SSA σ) → (SCA σ) → (UNR σ r m) → ((cz (σ.2.1 47) 221 : Int) + (cw (σ.2.1 49) (31824 * r) 31824 : Int) + w ≤ C0) → Tm (d + 4) m_X12_findStates 309 b σ [(4, .int (iI i)), (3, .int (iI k)), (2, .int (iI w)), (0, .ref b), (1, .int (iI r))] [] post) : ∀ (n : Nat) (w : Int) (i : Int) (σ : MS) , (Fr [] [47, 49, 50, 51, 52, 53] [] σ0 σ) → (RG σ) → ((w = 0 ∨ w = 1) ∧ 0 ≤ i ∧ i ≤ 2) → (BO 47 σ) → (SSA σ) → (SCA σ) → (UNR σ r m) → ((cz (σ.2.1 47) 221 : Int) + (cw (σ.2.1 49) (31824 * r) 31824 : Int) + w ≤ C0) → (2 - i).toNat = n → Tm (d + 4) m_X12_findStates 263 b σ [(4, .int (iI i)), (3, .int (iI k)), (2, .int (iI w)), (0, .ref b), (1, .int (iI r))] [] post := by
  intro n
  induction n using Nat.strongRecOn with
  | _ n ih =>
    intro w i σ hF hR h0 hbo hss hsc hun hcn hm
    have hit1 := hit.fr hF (by decide)
    have hpar1 := hpar.fr hF (by decide)
    have hok1 := hok.fr hF (by decide)
    have htg1 := htg.fr hF (by decide)
    have q1 := hit r (by omega) (by omega)
    have q9 : σ.2.1 9 r = σ0.2.1 9 r := by rw [hF.2.1 9 (by decide)]
    have q5 := htg1 k (by omega) (by omega)
    refine tm_iload dX12_findStates_263 0 rfl ?_
    refine tm_iconst dX12_findStates_265 ?_
    refine tm_icmp_ge (tgt := 309) dX12_findStates_266 (by decide) ⟨by omega, by omega⟩ ⟨by decide, by decide⟩ (fun h1 => ?_) (fun h1 => ?_)
    · exact tm_sub [0, 1, 2, 3, 4] rfl (hx_309 (w) (i) σ (Fr.rfl.trans (Fr.sub hF (by decide) (by decide) (by decide))) hR (by omega) hbo hss hsc hun hcn)
    · refine tm_aload_n dX12_findStates_269 rfl 3 rfl ?_
      refine tm_iload_n dX12_findStates_270 rfl 4 rfl ?_
      refine tm_iload_n dX12_findStates_271 rfl 1 rfl ?_
      refine tm_iload dX12_findStates_272 0 rfl ?_
      refine tm_callV (M := m_X12_findStates) (pc := 274) (ix := 413) (M' := m_X12_goesOn) (As := [.int (iI r), .int (iI k), .int (iI i)]) (rest := []) dX12_findStates_274 ok_X12_goesOn im_X12_goesOn se_X12_goesOn ml12_413 np_X12_goesOn rfl rfl (Nat.le_of_ble_eq_true rfl) (Nat.le_of_ble_eq_true rfl) rfl (c_X12_goesOn (d + 1) (σ := σ) (r := r) (k := k) (how := i) (by omega) hR (by omega) (fun q => hok1.jmp _ (by omega) (by omega) (by omega)) (by omega)) (fun r2 σ3 hp => ?_)
      obtain ⟨v4, rfl, rfl, f5, f6, f7, f8⟩ := hp
      show Tm _ _ 277 b σ [(4, .int (iI i)), (3, .int (iI k)), (2, .int (iI w)), (0, .ref b), (1, .int (iI r))] [.int (iI v4)] _
      refine tm_istore (L' := [(5, .int (iI v4)), (4, .int (iI i)), (3, .int (iI k)), (2, .int (iI w)), (0, .ref b), (1, .int (iI r))]) dX12_findStates_277 (by decide) rfl ?_
      refine tm_iload_n dX12_findStates_279 rfl 3 rfl ?_
      refine tm_iload dX12_findStates_280 0 rfl ?_
      refine tm_iconst dX12_findStates_282 ?_
      refine tm_icmp_eq (tgt := 300) dX12_findStates_283 (by decide) ⟨by omega, by omega⟩ ⟨by decide, by decide⟩ (fun h9 => ?_) (fun h9 => ?_)
      · refine tm_iconst dX12_findStates_300 ?_
        refine tm_iorZ (x := w) (y := 0) dX12_findStates_301 (by omega) (by omega) (fun c10 g11 => ?_)
        refine tm_istore_n (L' := [(2, .int (iI c10)), (5, .int (iI v4)), (4, .int (iI i)), (3, .int (iI k)), (0, .ref b), (1, .int (iI r))]) dX12_findStates_302 rfl (by decide) rfl ?_
        refine tm_iinc (q0 := 2) (L' := [(4, .int (iI (i + 1))), (2, .int (iI c10)), (5, .int (iI v4)), (3, .int (iI k)), (0, .ref b), (1, .int (iI r))]) dX12_findStates_303 rfl (by decide) rfl ?_
        refine tm_goto (tgt := 263) dX12_findStates_306 (by decide) ?_
        exact tm_sub [0, 3, 1, 4, 5] rfl (ih _ (by omega) (c10) (i + 1) σ (Fr.rfl.trans (Fr.sub hF (by decide) (by decide) (by decide))) hR (by omega) (by assumption) (by assumption) (by first | exact hsc | exact hsc.fr (by assumption) (by decide)) (by assumption) (by omega) rfl)
      · refine tm_aload_n dX12_findStates_286 rfl 4 rfl ?_
        refine tm_iload_n dX12_findStates_287 rfl 5 rfl ?_
        refine tm_iload dX12_findStates_288 0 rfl ?_
        refine tm_callV (M := m_X12_findStates) (pc := 290) (ix := 423) (M' := m_X12_comes) (As := [.int (iI r), .int (iI v4)]) (rest := [.int (iI w)]) dX12_findStates_290 ok_X12_comes im_X12_comes se_X12_comes ml12_423 np_X12_comes rfl rfl (Nat.le_of_ble_eq_true rfl) (Nat.le_of_ble_eq_true rfl) rfl (c_X12_comes (d + 2) (σ := σ) (r := r) (to := v4) (m := m) (by omega) hR hbo hsc hss (by omega) hun) (fun r12 σ13 hp => ?_)
        obtain ⟨v14, rfl, f15, f16, f17, f18, f19, f20, f21, f22, f23⟩ := hp
        show Tm _ _ 293 b σ13 [(5, .int (iI v4)), (4, .int (iI i)), (3, .int (iI k)), (2, .int (iI w)), (0, .ref b), (1, .int (iI r))] [.int (iI v14), .int (iI w)] _
        refine tm_if_eq (tgt := 300) dX12_findStates_293 (by decide) ⟨by omega, by omega⟩ (fun h24 => ?_) (fun h24 => ?_)
        · refine tm_iconst dX12_findStates_300 ?_
          refine tm_iorZ (x := w) (y := 0) dX12_findStates_301 (by omega) (by omega) (fun c25 g26 => ?_)
          refine tm_istore_n (L' := [(2, .int (iI c25)), (5, .int (iI v4)), (4, .int (iI i)), (3, .int (iI k)), (0, .ref b), (1, .int (iI r))]) dX12_findStates_302 rfl (by decide) rfl ?_
          refine tm_iinc (q0 := 2) (L' := [(4, .int (iI (i + 1))), (2, .int (iI c25)), (5, .int (iI v4)), (3, .int (iI k)), (0, .ref b), (1, .int (iI r))]) dX12_findStates_303 rfl (by decide) rfl ?_
          refine tm_goto (tgt := 263) dX12_findStates_306 (by decide) ?_
          exact tm_sub [0, 3, 1, 4, 5] rfl (ih _ (by omega) (c25) (i + 1) σ13 ((Fr.rfl.trans (Fr.sub hF (by decide) (by decide) (by decide))).trans (Fr.sub f16 (by decide) (by decide) (by decide))) f17 (by omega) (by assumption) (by assumption) (by first | exact hsc | exact hsc.fr (by assumption) (by decide)) (by assumption) (by omega) rfl)
        · refine tm_iconst dX12_findStates_296 ?_
          refine tm_goto (tgt := 301) dX12_findStates_297 (by decide) ?_
          refine tm_iorZ (x := w) (y := 1) dX12_findStates_301 (by omega) (by omega) (fun c27 g28 => ?_)
          refine tm_istore_n (L' := [(2, .int (iI c27)), (5, .int (iI v4)), (4, .int (iI i)), (3, .int (iI k)), (0, .ref b), (1, .int (iI r))]) dX12_findStates_302 rfl (by decide) rfl ?_
          refine tm_iinc (q0 := 2) (L' := [(4, .int (iI (i + 1))), (2, .int (iI c27)), (5, .int (iI v4)), (3, .int (iI k)), (0, .ref b), (1, .int (iI r))]) dX12_findStates_303 rfl (by decide) rfl ?_
          refine tm_goto (tgt := 263) dX12_findStates_306 (by decide) ?_
          exact tm_sub [0, 3, 1, 4, 5] rfl (ih _ (by omega) (c27) (i + 1) σ13 ((Fr.rfl.trans (Fr.sub hF (by decide) (by decide) (by decide))).trans (Fr.sub f16 (by decide) (by decide) (by decide))) f17 (by omega) (by assumption) (by assumption) (by first | exact hsc | exact hsc.fr (by assumption) (by decide)) (by assumption) (by omega) rfl)
theorem ml12_427 : Cond.methodLink RX12 427 yX12_behindItem ∈ pWW := pw9 (List.mem_of_getElem? (i := 90) rfl) rfl
theorem dX12_findStates_232 : decode cX12_findStates 232 = .ok (.iload_n 3, 1) := by decide +kernel
theorem dX12_findStates_233 : decode cX12_findStates 233 = .ok (.aload_n 0, 1) := by decide +kernel
theorem dX12_findStates_234 : decode cX12_findStates 234 = .ok (.getfield 32, 3) := by decide +kernel
theorem dX12_findStates_237 : decode cX12_findStates 237 = .ok (.iload_n 1, 1) := by decide +kernel
theorem dX12_findStates_238 : decode cX12_findStates 238 = .ok (.iaload, 1) := by decide +kernel
theorem dX12_findStates_239 : decode cX12_findStates 239 = .ok (.if_icmp .ge 76, 3) := by decide +kernel
theorem dX12_findStates_242 : decode cX12_findStates 242 = .ok (.aload_n 0, 1) := by decide +kernel
theorem dX12_findStates_243 : decode cX12_findStates 243 = .ok (.getfield 91, 3) := by decide +kernel
theorem dX12_findStates_246 : decode cX12_findStates 246 = .ok (.iload_n 3, 1) := by decide +kernel
theorem dX12_findStates_247 : decode cX12_findStates 247 = .ok (.baload, 1) := by decide +kernel
theorem dX12_findStates_248 : decode cX12_findStates 248 = .ok (.ifCond .ne 6, 3) := by decide +kernel
theorem dX12_findStates_254 : decode cX12_findStates 254 = .ok (.aload_n 0, 1) := by decide +kernel
theorem dX12_findStates_255 : decode cX12_findStates 255 = .ok (.iload_n 1, 1) := by decide +kernel
theorem dX12_findStates_256 : decode cX12_findStates 256 = .ok (.iload_n 3, 1) := by decide +kernel
theorem dX12_findStates_257 : decode cX12_findStates 257 = .ok (.invokevirtual 427, 3) := by decide +kernel
theorem dX12_findStates_260 : decode cX12_findStates 260 = .ok (.iconst 0, 1) := by decide +kernel
theorem dX12_findStates_261 : decode cX12_findStates 261 = .ok (.istore 4, 2) := by decide +kernel
theorem dX12_findStates_309 : decode cX12_findStates 309 = .ok (.iinc 3 1, 3) := by decide +kernel
theorem dX12_findStates_312 : decode cX12_findStates 312 = .ok (.goto (-80), 3) := by decide +kernel
theorem dX12_findStates_251 : decode cX12_findStates 251 = .ok (.goto 58, 3) := by decide +kernel
set_option maxHeartbeats 2000000 in
set_option maxRecDepth 20000 in
theorem l_states5 (d : Nat) {b : Nat} {σ0 : MS} {r : Int} {F : Int} {m : Int} {C0 : Int} {post : Option Value → MS → Prop} (hr : 0 ≤ r ∧ r < 6) (hR0 : RG σ0) (hit : ITM σ0) (hpar : PAR σ0) (hok : OKS σ0 F r) (hF12 : 1 ≤ F ∧ F ≤ 12) (htg : TGT σ0 r) (hm : m = σ0.2.1 9 r) (hx_315 : ∀ (w : Int) (k : Int) (σ : MS) , (Fr [] [47, 49, 50, 51, 52, 53, 54, 55, 56, 57, 58] [] σ0 σ) → (RG σ) → (w = 0 ∨ w = 1) → (BO 47 σ) → (SSA σ) → (SCA σ) → (UNR σ r m) → ((cz (σ.2.1 47) 221 : Int) + (cw (σ.2.1 49) (31824 * r) 31824 : Int) + w ≤ C0) → Tm (d + 5) m_X12_findStates 315 b σ [(3, .int (iI k)), (2, .int (iI w)), (0, .ref b), (1, .int (iI r))] [] post) : ∀ (n : Nat) (w : Int) (k : Int) (σ : MS) , (Fr [] [47, 49, 50, 51, 52, 53, 54, 55, 56, 57, 58] [] σ0 σ) → (RG σ) → ((w = 0 ∨ w = 1) ∧ 0 ≤ k ∧ k ≤ m) → (BO 47 σ) → (SSA σ) → (SCA σ) → (UNR σ r m) → ((cz (σ.2.1 47) 221 : Int) + (cw (σ.2.1 49) (31824 * r) 31824 : Int) + w ≤ C0) → (m - k).toNat = n → Tm (d + 5) m_X12_findStates 232 b σ [(3, .int (iI k)), (2, .int (iI w)), (0, .ref b), (1, .int (iI r))] [] post := by
  intro n
  induction n using Nat.strongRecOn with
  | _ n ih =>
    intro w k σ hF hR h0 hbo hss hsc hun hcn hm
    have hit1 := hit.fr hF (by decide)
    have hpar1 := hpar.fr hF (by decide)
    have hok1 := hok.fr hF (by decide)
    have htg1 := htg.fr hF (by decide)
    have q1 := hit r (by omega) (by omega)
    have q9 : σ.2.1 9 r = σ0.2.1 9 r := by rw [hF.2.1 9 (by decide)]
    refine tm_iload_n dX12_findStates_232 rfl 0 rfl ?_
    refine tm_aload_n dX12_findStates_233 rfl 2 rfl ?_
    refine tm_get (k := 9) (v := .ref (b + 1 + 7)) lay_12 dX12_findStates_234 (by decide) fl12_32 rfl ?_
    refine tm_iload_n dX12_findStates_237 rfl 3 rfl ?_
    refine tm_iald (z := r) (v := σ0.2.1 9 r) dX12_findStates_238 (show mT[7]? = some (9, 0, 13) from rfl) (by omega) (by omega) (by decide) (ra_F hF (by decide) (rfl)) ?_
    have g1 := RG.a hR0 9 (r)
    refine tm_icmp_ge (tgt := 315) dX12_findStates_239 (by decide) ⟨by omega, by omega⟩ ⟨by omega, by omega⟩ (fun h2 => ?_) (fun h2 => ?_)
    · exact tm_sub [0, 1, 2, 3] rfl (hx_315 (w) (k) σ (Fr.rfl.trans (Fr.sub hF (by decide) (by decide) (by decide))) hR (by omega) hbo hss hsc hun hcn)
    · refine tm_aload_n dX12_findStates_242 rfl 2 rfl ?_
      refine tm_get (k := 47) (v := .ref (b + 1 + 25)) lay_12 dX12_findStates_243 (by decide) fl12_91 rfl ?_
      refine tm_iload_n dX12_findStates_246 rfl 0 rfl ?_
      refine tm_zald (z := k) (v := σ.2.1 47 k) dX12_findStates_247 (show mT[25]? = some (47, 2, 221) from rfl) (by omega) (by omega) (by decide) (rfl) ?_
      have g3 := RG.a hR 47 (k)
      have := hbo (k)
      refine tm_if_ne (tgt := 254) dX12_findStates_248 (by decide) ⟨by omega, by omega⟩ (fun h4 => ?_) (fun h4 => ?_)
      · refine tm_aload_n dX12_findStates_254 rfl 2 rfl ?_
        refine tm_iload_n dX12_findStates_255 rfl 3 rfl ?_
        refine tm_iload_n dX12_findStates_256 rfl 0 rfl ?_
        refine tm_callV (M := m_X12_findStates) (pc := 257) (ix := 427) (M' := m_X12_behindItem) (As := [.int (iI r), .int (iI k)]) (rest := []) dX12_findStates_257 ok_X12_behindItem im_X12_behindItem se_X12_behindItem ml12_427 np_X12_behindItem rfl rfl (Nat.le_of_ble_eq_true rfl) (Nat.le_of_ble_eq_true rfl) rfl (c_X12_behindItem (d) (σ := σ) (r := r) (k := k) (F := F) (by omega) hR hit1 hpar1 hok1 hF12 hss hsc (by omega)) (fun r5 σ6 hp => ?_)
        obtain ⟨rfl, f8, f9, f10⟩ := hp
        show Tm _ _ 260 b σ6 [(3, .int (iI k)), (2, .int (iI w)), (0, .ref b), (1, .int (iI r))] [] _
        refine tm_iconst dX12_findStates_260 ?_
        refine tm_istore (L' := [(4, .int (iI 0)), (3, .int (iI k)), (2, .int (iI w)), (0, .ref b), (1, .int (iI r))]) dX12_findStates_261 (by decide) rfl ?_
        refine tm_sub [0, 1, 2, 3, 4] rfl (l_states6 (d + 1) (σ0 := σ6) (r := r) (k := k) (F := F) (m := m) (C0 := C0) hr f9 (hit1.fr f8 (by decide)) (hpar1.fr f8 (by decide)) (hok1.fr f8 (by decide)) hF12 (htg1.fr f8 (by decide)) (by rw [(f8).2.1 9 (by decide)]; omega) (by omega) (fun w22 i23 σ24 F14 R15 f16 f17 f18 f19 f20 f21 => ?_) _ (w) (0) σ6 Fr.rfl f9 (by omega) (hbo.fr f8 (by decide)) (hss.fr f8 (by decide)) (by assumption) (by unfold UNR; rw [(f8).2.1 47 (by decide), (f8).2.1 49 (by decide)]; exact hun) (by rw [(f8).2.1 47 (by decide), (f8).2.1 49 (by decide)]; omega) rfl)
        show Tm _ _ 309 b σ24 [(4, .int (iI i23)), (3, .int (iI k)), (2, .int (iI w22)), (0, .ref b), (1, .int (iI r))] [] _
        refine tm_iinc (q0 := 1) (L' := [(3, .int (iI (k + 1))), (4, .int (iI i23)), (2, .int (iI w22)), (0, .ref b), (1, .int (iI r))]) dX12_findStates_309 rfl (by decide) rfl ?_
        refine tm_goto (tgt := 232) dX12_findStates_312 (by decide) ?_
        exact tm_sub [0, 2, 3, 4] rfl (ih _ (by omega) (w22) (k + 1) σ24 (((Fr.rfl.trans (Fr.sub hF (by decide) (by decide) (by decide))).trans (Fr.sub f8 (by decide) (by decide) (by decide))).trans (Fr.sub F14 (by decide) (by decide) (by decide))) R15 (by omega) (by assumption) (by assumption) (by assumption) (by assumption) (by omega) rfl)
      · refine tm_goto (tgt := 309) dX12_findStates_251 (by decide) ?_
        refine tm_iinc (q0 := 0) (L' := [(3, .int (iI (k + 1))), (2, .int (iI w)), (0, .ref b), (1, .int (iI r))]) dX12_findStates_309 rfl (by decide) rfl ?_
        refine tm_goto (tgt := 232) dX12_findStates_312 (by decide) ?_
        exact tm_sub [0, 1, 2, 3] rfl (ih _ (by omega) (w) (k + 1) σ (Fr.rfl.trans (Fr.sub hF (by decide) (by decide) (by decide))) hR (by omega) (by assumption) (by assumption) (by assumption) (by assumption) (by omega) rfl)
theorem dX12_findStates_224 : decode cX12_findStates 224 = .ok (.iload_n 2, 1) := by decide +kernel
theorem dX12_findStates_225 : decode cX12_findStates 225 = .ok (.ifCond .eq 93, 3) := by decide +kernel
theorem dX12_findStates_228 : decode cX12_findStates 228 = .ok (.iconst 0, 1) := by decide +kernel
theorem dX12_findStates_229 : decode cX12_findStates 229 = .ok (.istore_n 2, 1) := by decide +kernel
theorem dX12_findStates_230 : decode cX12_findStates 230 = .ok (.iconst 0, 1) := by decide +kernel
theorem dX12_findStates_231 : decode cX12_findStates 231 = .ok (.istore_n 3, 1) := by decide +kernel
theorem dX12_findStates_315 : decode cX12_findStates 315 = .ok (.goto (-91), 3) := by decide +kernel
set_option maxHeartbeats 2000000 in
set_option maxRecDepth 20000 in
theorem l_states4 (d : Nat) {b : Nat} {σ0 : MS} {r : Int} {F : Int} {m : Int} {post : Option Value → MS → Prop} (hr : 0 ≤ r ∧ r < 6) (hR0 : RG σ0) (hit : ITM σ0) (hpar : PAR σ0) (hok : OKS σ0 F r) (hF12 : 1 ≤ F ∧ F ≤ 12) (htg : TGT σ0 r) (hm : m = σ0.2.1 9 r) (hx_318 : ∀ (w : Int) (σ : MS) , (Fr [] [47, 49, 50, 51, 52, 53, 54, 55, 56, 57, 58] [] σ0 σ) → (RG σ) → (BO 47 σ) → (SSA σ) → (SCA σ) → Tm (d + 5) m_X12_findStates 318 b σ [(2, .int (iI w)), (0, .ref b), (1, .int (iI r))] [] post) : ∀ (n : Nat) (w : Int) (σ : MS) , (Fr [] [47, 49, 50, 51, 52, 53, 54, 55, 56, 57, 58] [] σ0 σ) → (RG σ) → (w = 0 ∨ w = 1) → (BO 47 σ) → (SSA σ) → (SCA σ) → (UNR σ r m) → ((cz (σ.2.1 47) 221 : Int) + (cw (σ.2.1 49) (31824 * r) 31824 : Int) + w).toNat = n → Tm (d + 5) m_X12_findStates 224 b σ [(2, .int (iI w)), (0, .ref b), (1, .int (iI r))] [] post := by
  intro n
  induction n using Nat.strongRecOn with
  | _ n ih =>
    intro w σ hF hR h0 hbo hss hsc hun hm
    have hit1 := hit.fr hF (by decide)
    have hpar1 := hpar.fr hF (by decide)
    have hok1 := hok.fr hF (by decide)
    have htg1 := htg.fr hF (by decide)
    have q1 := hit r (by omega) (by omega)
    have q9 : σ.2.1 9 r = σ0.2.1 9 r := by rw [hF.2.1 9 (by decide)]
    refine tm_iload_n dX12_findStates_224 rfl 0 rfl ?_
    refine tm_if_eq (tgt := 318) dX12_findStates_225 (by decide) ⟨by omega, by omega⟩ (fun h1 => ?_) (fun h1 => ?_)
    · exact tm_sub [0, 1, 2] rfl (hx_318 (w) σ (Fr.rfl.trans (Fr.sub hF (by decide) (by decide) (by decide))) hR hbo hss hsc)
    · refine tm_iconst dX12_findStates_228 ?_
      refine tm_istore_n (L' := [(2, .int (iI 0)), (0, .ref b), (1, .int (iI r))]) dX12_findStates_229 rfl (by decide) rfl ?_
      refine tm_iconst dX12_findStates_230 ?_
      refine tm_istore_n (L' := [(3, .int (iI 0)), (2, .int (iI 0)), (0, .ref b), (1, .int (iI r))]) dX12_findStates_231 rfl (by decide) rfl ?_
      refine tm_sub [0, 1, 2, 3] rfl (l_states5 (d) (σ0 := σ) (r := r) (F := F) (m := m) (C0 := ((cz (σ.2.1 47) 221 : Int) + (cw (σ.2.1 49) (31824 * r) 31824 : Int))) hr hR hit1 hpar1 hok1 hF12 htg1 (by omega) (fun w13 k14 σ15 F5 R6 f7 f8 f9 f10 f11 f12 => ?_) _ (0) (0) σ Fr.rfl hR (by omega) hbo hss hsc hun (by omega) rfl)
      show Tm _ _ 315 b σ15 [(3, .int (iI k14)), (2, .int (iI w13)), (0, .ref b), (1, .int (iI r))] [] _
      refine tm_goto (tgt := 224) dX12_findStates_315 (by decide) ?_
      exact tm_sub [1, 2, 3] rfl (ih _ (by omega) (w13) σ15 ((Fr.rfl.trans (Fr.sub hF (by decide) (by decide) (by decide))).trans (Fr.sub F5 (by decide) (by decide) (by decide))) R6 (by omega) (by assumption) (by assumption) (by assumption) (by assumption) rfl)
end
section
theorem LEX.fr {ss ks js : List Nat} {σ τ : MS} {r : Int} (h : LEX σ r) (f : Fr ss ks js σ τ) (hk : ∀ k ∈ [3, 4, 9], k ∉ ks) : LEX τ r := by
  unfold LEX
  rw [f.q hk (k := 3) (by decide), f.q hk (k := 4) (by decide), f.q hk (k := 9) (by decide)]
  exact h

theorem fl12_95 : Cond.fieldLink RX12 95 (TX12 48).1 (TX12 48).2.1 (TX12 48).2.2.1 ∈ pWW := pw7 (List.mem_of_getElem? (i := 55) rfl) rfl
theorem dX12_findStates_0 : decode cX12_findStates 0 = .ok (.aload_n 0, 1) := by decide +kernel
theorem dX12_findStates_1 : decode cX12_findStates 1 = .ok (.getfield 95, 3) := by decide +kernel
theorem dX12_findStates_4 : decode cX12_findStates 4 = .ok (.iload_n 1, 1) := by decide +kernel
theorem dX12_findStates_5 : decode cX12_findStates 5 = .ok (.baload, 1) := by decide +kernel
theorem dX12_findStates_6 : decode cX12_findStates 6 = .ok (.ifCond .eq 4, 3) := by decide +kernel
theorem dX12_findStates_10 : decode cX12_findStates 10 = .ok (.aload_n 0, 1) := by decide +kernel
theorem dX12_findStates_11 : decode cX12_findStates 11 = .ok (.getfield 95, 3) := by decide +kernel
theorem dX12_findStates_14 : decode cX12_findStates 14 = .ok (.iload_n 1, 1) := by decide +kernel
theorem dX12_findStates_15 : decode cX12_findStates 15 = .ok (.iconst 1, 1) := by decide +kernel
theorem dX12_findStates_16 : decode cX12_findStates 16 = .ok (.bastore, 1) := by decide +kernel
theorem dX12_findStates_17 : decode cX12_findStates 17 = .ok (.aload_n 0, 1) := by decide +kernel
theorem dX12_findStates_18 : decode cX12_findStates 18 = .ok (.iload_n 1, 1) := by decide +kernel
theorem dX12_findStates_19 : decode cX12_findStates 19 = .ok (.invokevirtual 420, 3) := by decide +kernel
theorem dX12_findStates_22 : decode cX12_findStates 22 = .ok (.iconst 0, 1) := by decide +kernel
theorem dX12_findStates_23 : decode cX12_findStates 23 = .ok (.istore_n 2, 1) := by decide +kernel
theorem dX12_findStates_118 : decode cX12_findStates 118 = .ok (.iconst 0, 1) := by decide +kernel
theorem dX12_findStates_119 : decode cX12_findStates 119 = .ok (.istore_n 2, 1) := by decide +kernel
theorem dX12_findStates_217 : decode cX12_findStates 217 = .ok (.aload_n 0, 1) := by decide +kernel
theorem dX12_findStates_218 : decode cX12_findStates 218 = .ok (.iload_n 1, 1) := by decide +kernel
theorem dX12_findStates_219 : decode cX12_findStates 219 = .ok (.iconst 0, 1) := by decide +kernel
theorem dX12_findStates_220 : decode cX12_findStates 220 = .ok (.invokevirtual 423, 3) := by decide +kernel
theorem dX12_findStates_223 : decode cX12_findStates 223 = .ok (.istore_n 2, 1) := by decide +kernel
theorem dX12_findStates_318 : decode cX12_findStates 318 = .ok (.return_, 1) := by decide +kernel
theorem dX12_findStates_9 : decode cX12_findStates 9 = .ok (.return_, 1) := by decide +kernel
set_option maxHeartbeats 2000000 in
set_option maxRecDepth 20000 in
theorem c_X12_findStates (d : Nat) {b : Nat} {σ : MS} {r : Int} {F : Int} (hr : 0 ≤ r ∧ r < 6) (hR : RG σ) (hit : ITM σ) (hpar : PAR σ) (hnam : NAM σ) (hok : OKS σ F r) (hF12 : 1 ≤ F ∧ F ≤ 12) (hof : OKF σ r) (hf0 : FR0 σ r) (hl : LAB σ) (hbo : BO 47 σ) (hbh : BO 48 σ) (hss : SSA σ) (hsc : SCA σ) (hlex : LEX σ r) : Tm (d + 5) m_X12_findStates 0 b σ [(0, .ref b), (1, .int (iI r))] [] (fun ro σ2 => ro = none ∧ (Fr [] [46, 47, 48, 49, 50, 51, 52, 53, 54, 55, 56, 57, 58] [] σ σ2) ∧ (RG σ2) ∧ (LAB σ2) ∧ (BO 47 σ2) ∧ (BO 48 σ2) ∧ (SSA σ2) ∧ (SCA σ2)) := by
  have q1 := hit r (by omega) (by omega)
  have q2 := hpar r (by omega) (by omega)
  have q3 := hnam r (by omega) (by omega)
  have q4 := hof.1
  have q5 := (hof.2 0 (by omega) (by omega)).2
  unfold FR0 at hf0
  rw [hf0] at q5
  simp only [Int.mul_zero, Int.add_zero] at q5
  refine tm_aload_n dX12_findStates_0 rfl 0 rfl ?_
  refine tm_get (k := 48) (v := .ref (b + 1 + 26)) lay_12 dX12_findStates_1 (by decide) fl12_95 rfl ?_
  refine tm_iload_n dX12_findStates_4 rfl 1 rfl ?_
  refine tm_zald (z := r) (v := σ.2.1 48 r) dX12_findStates_5 (show mT[26]? = some (48, 2, 6) from rfl) (by omega) (by omega) (by decide) (rfl) ?_
  have g1 := RG.a hR 48 (r)
  have := hbh (r)
  refine tm_if_eq (tgt := 10) dX12_findStates_6 (by decide) ⟨by omega, by omega⟩ (fun h2 => ?_) (fun h2 => ?_)
  · refine tm_aload_n dX12_findStates_10 rfl 0 rfl ?_
    refine tm_get (k := 48) (v := .ref (b + 1 + 26)) lay_12 dX12_findStates_11 (by decide) fl12_95 rfl ?_
    refine tm_iload_n dX12_findStates_14 rfl 1 rfl ?_
    refine tm_iconst dX12_findStates_15 ?_
    refine tm_zast (z := r) (v := 1) dX12_findStates_16 (show mT[26]? = some (48, 2, 6) from rfl) (by omega) (by omega) (by decide) (by omega) ?_
    refine tm_aload_n dX12_findStates_17 rfl 0 rfl ?_
    refine tm_iload_n dX12_findStates_18 rfl 1 rfl ?_
    refine tm_callV (M := m_X12_findStates) (pc := 19) (ix := 420) (M' := m_X12_findLabels) (As := [.int (iI r)]) (rest := []) dX12_findStates_19 ok_X12_findLabels im_X12_findLabels se_X12_findLabels ml12_420 np_X12_findLabels rfl rfl (Nat.le_of_ble_eq_true rfl) (Nat.le_of_ble_eq_true rfl) rfl (c_X12_findLabels (d + 2) (σ := (sA 48 (r) (1) σ)) (r := r) (by omega) (hR.A (by omega)) (hit.fr (show Fr [] [48] [] σ (sA 48 (r) (1) σ) from (Fr.rfl.A (by decide))) (by decide)) (LBR.fr hok.jmp.lbr (show Fr [] [48] [] σ (sA 48 (r) (1) σ) from (Fr.rfl.A (by decide))) (by decide)) (hl.fr (show Fr [] [48] [] σ (sA 48 (r) (1) σ) from (Fr.rfl.A (by decide))) (by decide))) (fun r3 σ4 hp => ?_)
    obtain ⟨rfl, f6, f7, f8, f9⟩ := hp
    show Tm _ _ 22 b σ4 [(0, .ref b), (1, .int (iI r))] [] _
    have htg1 := LEX.tgt (hlex.fr (show Fr [] [48] [] σ (sA 48 (r) (1) σ) from (Fr.rfl.A (by decide))) (by decide)) f9 f6
    have hlab1 := f8
    refine tm_iconst dX12_findStates_22 ?_
    refine tm_istore_n (L' := [(2, .int (iI 0)), (0, .ref b), (1, .int (iI r))]) dX12_findStates_23 rfl (by decide) rfl ?_
    refine tm_sub [0, 1, 2] rfl (l_states1 (d + 4) (σ0 := σ4) (r := r) (by omega) f7 (by rw [((show Fr [] [46, 48] [] σ σ4 from ((Fr.rfl.A (by decide)).trans (Fr.sub f6 (by decide) (by decide) (by decide))))).2.1 9 (by decide)]; exact q1) (fun k17 σ18 F12 R13 f14 f15 f16 => ?_) _ (0) σ4 Fr.rfl f7 (by omega) (hbo.fr (show Fr [] [46, 48] [] σ σ4 from ((Fr.rfl.A (by decide)).trans (Fr.sub f6 (by decide) (by decide) (by decide)))) (by decide)) (hss.fr (show Fr [] [46, 48] [] σ σ4 from ((Fr.rfl.A (by decide)).trans (Fr.sub f6 (by decide) (by decide) (by decide)))) (by decide)) (fun j a c => by omega) rfl)
    show Tm _ _ 118 b σ18 [(2, .int (iI k17)), (0, .ref b), (1, .int (iI r))] [] _
    have hun1 : UNR σ18 r (σ.2.1 9 r) := by have h := f16; rw [((show Fr [] [46, 48] [] σ σ4 from ((Fr.rfl.A (by decide)).trans (Fr.sub f6 (by decide) (by decide) (by decide))))).2.1 9 (by decide)] at h; exact h
    have hbo1 := f14
    have hss1 := f15
    refine tm_iconst dX12_findStates_118 ?_
    refine tm_istore_n (L' := [(2, .int (iI 0)), (0, .ref b), (1, .int (iI r))]) dX12_findStates_119 rfl (by decide) rfl ?_
    refine tm_sub [0, 1, 2] rfl (l_states3 (d + 3) (σ0 := σ18) (r := r) (by omega) R13 (by rw [((show Fr [] [46, 47, 48, 49, 50, 51, 52, 53] [] σ σ18 from (((Fr.rfl.A (by decide)).trans (Fr.sub f6 (by decide) (by decide) (by decide))).trans (Fr.sub F12 (by decide) (by decide) (by decide))))).2.1 12 (by decide), ((show Fr [] [46, 47, 48, 49, 50, 51, 52, 53] [] σ σ18 from (((Fr.rfl.A (by decide)).trans (Fr.sub f6 (by decide) (by decide) (by decide))).trans (Fr.sub F12 (by decide) (by decide) (by decide))))).2.1 11 (by decide)]; omega) (by rw [((show Fr [] [46, 47, 48, 49, 50, 51, 52, 53] [] σ σ18 from (((Fr.rfl.A (by decide)).trans (Fr.sub f6 (by decide) (by decide) (by decide))).trans (Fr.sub F12 (by decide) (by decide) (by decide))))).2.1 12 (by decide), ((show Fr [] [46, 47, 48, 49, 50, 51, 52, 53] [] σ σ18 from (((Fr.rfl.A (by decide)).trans (Fr.sub f6 (by decide) (by decide) (by decide))).trans (Fr.sub F12 (by decide) (by decide) (by decide))))).2.1 18 (by decide)]; exact q5) (fun n124 σ25 F21 R22 f23 => ?_) _ (0) σ18 Fr.rfl R13 (by omega) (hsc.fr (show Fr [] [46, 47, 48, 49, 50, 51, 52, 53] [] σ σ18 from (((Fr.rfl.A (by decide)).trans (Fr.sub f6 (by decide) (by decide) (by decide))).trans (Fr.sub F12 (by decide) (by decide) (by decide)))) (by decide)) rfl)
    show Tm _ _ 217 b σ25 [(2, .int (iI n124)), (0, .ref b), (1, .int (iI r))] [] _
    have hun2 : UNR σ25 r (σ.2.1 9 r) := by unfold UNR; rw [F21.2.1 47 (by decide), F21.2.1 49 (by decide)]; exact hun1
    have hbo2 := hbo1.fr F21 (by decide)
    have hss2 := hss1.fr F21 (by decide)
    have hsc2 := f23
    refine tm_aload_n dX12_findStates_217 rfl 1 rfl ?_
    refine tm_iload_n dX12_findStates_218 rfl 2 rfl ?_
    refine tm_iconst dX12_findStates_219 ?_
    refine tm_callV (M := m_X12_findStates) (pc := 220) (ix := 423) (M' := m_X12_comes) (As := [.int (iI r), .int (iI 0)]) (rest := []) dX12_findStates_220 ok_X12_comes im_X12_comes se_X12_comes ml12_423 np_X12_comes rfl rfl (Nat.le_of_ble_eq_true rfl) (Nat.le_of_ble_eq_true rfl) rfl (c_X12_comes (d + 3) (σ := σ25) (r := r) (to := 0) (m := σ.2.1 9 r) (by omega) R22 hbo2 hsc2 hss2 (by omega) hun2) (fun r26 σ27 hp => ?_)
    obtain ⟨v28, rfl, f29, f30, f31, f32, f33, f34, f35, f36, f37⟩ := hp
    show Tm _ _ 223 b σ27 [(2, .int (iI n124)), (0, .ref b), (1, .int (iI r))] [.int (iI v28)] _
    have htg4 := ((htg1.fr F12 (by decide)).fr F21 (by decide)).fr f30 (by decide)
    have hsc4 := hsc2.fr f30 (by decide)
    have hk3_4 := f32
    have hk4_4 := f33
    have hk5_4 := f34
    refine tm_istore_n (L' := [(2, .int (iI v28)), (0, .ref b), (1, .int (iI r))]) dX12_findStates_223 rfl (by decide) rfl ?_
    refine tm_sub [0, 1, 2] rfl (l_states4 (d) (σ0 := σ27) (r := r) (F := F) (m := σ.2.1 9 r) hr f31 (hit.fr (show Fr [] [46, 47, 48, 49, 50, 51, 52, 53, 54, 55, 56, 57, 58] [] σ σ27 from (((((Fr.rfl.A (by decide)).trans (Fr.sub f6 (by decide) (by decide) (by decide))).trans (Fr.sub F12 (by decide) (by decide) (by decide))).trans (Fr.sub F21 (by decide) (by decide) (by decide))).trans (Fr.sub f30 (by decide) (by decide) (by decide)))) (by decide)) (hpar.fr (show Fr [] [46, 47, 48, 49, 50, 51, 52, 53, 54, 55, 56, 57, 58] [] σ σ27 from (((((Fr.rfl.A (by decide)).trans (Fr.sub f6 (by decide) (by decide) (by decide))).trans (Fr.sub F12 (by decide) (by decide) (by decide))).trans (Fr.sub F21 (by decide) (by decide) (by decide))).trans (Fr.sub f30 (by decide) (by decide) (by decide)))) (by decide)) (hok.fr (show Fr [] [46, 47, 48, 49, 50, 51, 52, 53, 54, 55, 56, 57, 58] [] σ σ27 from (((((Fr.rfl.A (by decide)).trans (Fr.sub f6 (by decide) (by decide) (by decide))).trans (Fr.sub F12 (by decide) (by decide) (by decide))).trans (Fr.sub F21 (by decide) (by decide) (by decide))).trans (Fr.sub f30 (by decide) (by decide) (by decide)))) (by decide)) hF12 htg4 (by rw [((show Fr [] [46, 47, 48, 49, 50, 51, 52, 53, 54, 55, 56, 57, 58] [] σ σ27 from (((((Fr.rfl.A (by decide)).trans (Fr.sub f6 (by decide) (by decide) (by decide))).trans (Fr.sub F12 (by decide) (by decide) (by decide))).trans (Fr.sub F21 (by decide) (by decide) (by decide))).trans (Fr.sub f30 (by decide) (by decide) (by decide))))).2.1 9 (by decide)]) (fun w45 σ46 F40 R41 f42 f43 f44 => ?_) _ (v28) σ27 Fr.rfl f31 (by omega) hk3_4 hk4_4 hsc4 hk5_4 rfl)
    show Tm _ _ 318 b σ46 [(2, .int (iI w45)), (0, .ref b), (1, .int (iI r))] [] _
    exact tm_vret rfl dX12_findStates_318 (⟨rfl, ((((((Fr.rfl.A (by decide)).trans (Fr.sub f6 (by decide) (by decide) (by decide))).trans (Fr.sub F12 (by decide) (by decide) (by decide))).trans (Fr.sub F21 (by decide) (by decide) (by decide))).trans (Fr.sub f30 (by decide) (by decide) (by decide))).trans (Fr.sub F40 (by decide) (by decide) (by decide))), R41, ((((LAB.fr hlab1 F12 (by decide)).fr F21 (by decide)).fr f30 (by decide)).fr F40 (by decide)), f42, (((((BO.A hbh (by omega)).fr f6 (by decide)).fr F12 (by decide)).fr F21 (by decide)).fr f30 (by decide)).fr F40 (by decide), f43, f44⟩)
  · exact tm_vret rfl dX12_findStates_9 (⟨rfl, Fr.rfl, hR, hl, hbo, hbh, hss, hsc⟩)
end
