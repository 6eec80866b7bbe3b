section
set_option maxHeartbeats 1000000 in
set_option maxRecDepth 20000 in
theorem l_X1_greatestLabel_x_4 (d : Nat) {T : CT} {σ : MS} {a : Nat} {x : Nat} {n : Int} {W : Int → It} {post : Option Value → CT → MS → Prop} (h_a : OB T a 1) (hw : WT T σ) (hn0 : 0 ≤ n) (hx : σ.2.1 5 a = (x : Int)) (hn : σ.2.1 6 a = n) (hW : cW σ x n = W) (hN : n ≤ 200) (hlb : ∀ k, 0 ≤ k → k < n → (W k 0 = 8 ∨ W k 0 = 9 ∨ W k 0 = 13) → 0 ≤ W k 1 ∧ W k 1 ≤ 5000) (hx_54 : ∀ (i1 : Int) (i2 : Int) , (-1 ≤ i1 ∧ i1 ≤ 5000) → (0 ≤ i2 ∧ i2 ≤ 200) → (True) → (i2 ≤ n ∧ -1 ≤ i1 ∧ i1 ≤ 5000) → (mxV (lbV (vW W) n) (i1 + 1)) → Tn (d + 2) m_X1_greatestLabel 54 T σ [(0, .ref a), (1, .int (iI i1)), (2, .int (iI i2))] [] post) : ∀ (nq9 : Nat) (i1 : Int) (i2 : Int) , (-1 ≤ i1 ∧ i1 ≤ 5000) → (0 ≤ i2 ∧ i2 ≤ 200) → (UBQ (LBS W i2) i1) → (i2 ≤ n ∧ -1 ≤ i1 ∧ i1 ≤ 5000) → (2147483700 - i2).toNat = nq9 → Tn (d + 2) m_X1_greatestLabel 4 T σ [(0, .ref a), (1, .int (iI i1)), (2, .int (iI i2))] [] post := by
  intro nq9
  induction nq9 using Nat.strongRecOn with
  | _ nq9 ih =>
    intro i1 i2 r_i1 r_i2 hG h2 hm
    refine tn_iload_n dX1_greatestLabel_4 rfl 2 rfl ?_
    refine tn_aload_n dX1_greatestLabel_5 rfl 0 rfl ?_
    refine tn_getI (ci := 1) (i := 1) (n := 6) (t := σ.2.1 6 a) dX1_greatestLabel_6 rfl lay_1 (by decide) fl1_33 h_a rfl rfl (rfl) ?_
    have g1 : ((0 : Int) ≤ σ.2.1 6 a ∧ σ.2.1 6 a ≤ 5000) ∧ ((T a).1 = 50 → σ.2.1 6 a ≤ 200) := wf_6 hw h_a
    have g1x := g1.2
    replace g1 := g1.1
    clear g1x
    refine tn_icmp_ge (tgt := 54) dX1_greatestLabel_9 (by decide) ⟨by omega, by omega⟩ ⟨by omega, by omega⟩ (fun h2 => ?_) (fun h2 => ?_)
    · exact tn_sub [0, 1, 2] rfl (hx_54 (i1) (i2) (by omega) (by omega) True.intro (by omega) (LBS.fin hG (by omega)))
    · refine tn_aload_n dX1_greatestLabel_12 rfl 0 rfl ?_
      refine tn_iload_n dX1_greatestLabel_13 rfl 2 rfl ?_
      refine tn_iconst dX1_greatestLabel_14 ?_
      obtain ⟨hl6, hk5a, hk5b⟩ := cel_of (wf_5 hw h_a) hx
      have hk5i : IA T x := by unfold IA; omega
      have hk5c : CELL T a x := ⟨hk5a, hk5b⟩
      clear hk5a hk5b
      refine tn_callV (M := m_X1_greatestLabel) (pc := 15) (ix := 86) (ci := 1) (M' := m_X1_get) (As := [.int (iI i2), .int (iI 0)]) (rest := []) dX1_greatestLabel_15 ok_X1_get im_X1_get se_X1_get ml1_86 np_X1_get rfl rfl h_a rfl (Nat.le_of_ble_eq_true rfl) (Nat.le_of_ble_eq_true rfl) rfl (k_X1_get_x (d) (T := T) (σ := σ) (a := a) (k := i2) (c := 0) (x := x) (n := n) (W := W) h_a (by omega) (by decide) hw (hx) (hn) hW (by omega) (by omega)) (fun r7 T9 σ8 gt10 hp => ?_)
      obtain ⟨v13, rfl, rfl, rfl, f11, f12⟩ := hp
      clear gt10
      show Tn _ _ 18 T σ [(0, .ref a), (1, .int (iI i1)), (2, .int (iI i2))] [.int (iI v13)] _
      refine tn_istore_n (L' := [(3, .int (iI v13)), (0, .ref a), (1, .int (iI i1)), (2, .int (iI i2))]) dX1_greatestLabel_18 rfl (by decide) rfl ?_
      refine tn_iload_n dX1_greatestLabel_19 rfl 0 rfl ?_
      refine tn_bipush dX1_greatestLabel_20 (by decide) ?_
      refine tn_icmp_eq (tgt := 37) dX1_greatestLabel_22 (by decide) ⟨by omega, by omega⟩ ⟨by decide, by decide⟩ (fun h14 => ?_) (fun h14 => ?_)
      · refine tn_iload_n dX1_greatestLabel_37 rfl 2 rfl ?_
        refine tn_aload_n dX1_greatestLabel_38 rfl 1 rfl ?_
        refine tn_iload_n dX1_greatestLabel_39 rfl 3 rfl ?_
        refine tn_iconst dX1_greatestLabel_40 ?_
        refine tn_callV (M := m_X1_greatestLabel) (pc := 41) (ix := 86) (ci := 1) (M' := m_X1_get) (As := [.int (iI i2), .int (iI 1)]) (rest := [.int (iI i1)]) dX1_greatestLabel_41 ok_X1_get im_X1_get se_X1_get ml1_86 np_X1_get rfl rfl h_a rfl (Nat.le_of_ble_eq_true rfl) (Nat.le_of_ble_eq_true rfl) rfl (k_X1_get_x (d) (T := T) (σ := σ) (a := a) (k := i2) (c := 1) (x := x) (n := n) (W := W) h_a (by omega) (by decide) hw (hx) (hn) hW (by omega) (by omega)) (fun r15 T17 σ16 gt18 hp => ?_)
        obtain ⟨v21, rfl, rfl, rfl, f19, f20⟩ := hp
        clear gt18
        show Tn _ _ 44 T σ [(3, .int (iI v13)), (0, .ref a), (1, .int (iI i1)), (2, .int (iI i2))] [.int (iI v21), .int (iI i1)] _
        have hl9 := hlb i2 (by omega) (by omega) (by omega)
        refine tn_mmax (x := i1) (y := v21) dX1_greatestLabel_44 mlm1_63 stM_max iniM cdM_max (by omega) (Nat.le_of_ble_eq_true rfl) ⟨by omega, by omega⟩ ⟨by omega, by omega⟩ (fun z22 g23 => ?_)
        refine tn_istore_n (L' := [(1, .int (iI z22)), (3, .int (iI v13)), (0, .ref a), (2, .int (iI i2))]) dX1_greatestLabel_47 rfl (by decide) rfl ?_
        refine tn_iinc (q0 := 3) (L' := [(2, .int (iI (i2 + 1))), (1, .int (iI z22)), (3, .int (iI v13)), (0, .ref a)]) dX1_greatestLabel_48 rfl (by decide) rfl ?_
        refine tn_goto (tgt := 4) dX1_greatestLabel_51 (by decide) ?_
        exact tn_sub [3, 1, 0] rfl (ih _ (by omega) (z22) (i2 + 1) (by omega) (by omega) (LBS.yes hG (by omega) (by omega) f20 (by have z := hlb i2 (by omega) (by omega) (by omega); omega) (by omega)) (by have z := hlb i2 (by omega) (by omega) (by omega); omega) rfl)
      · refine tn_iload_n dX1_greatestLabel_25 rfl 0 rfl ?_
        refine tn_bipush dX1_greatestLabel_26 (by decide) ?_
        refine tn_icmp_eq (tgt := 37) dX1_greatestLabel_28 (by decide) ⟨by omega, by omega⟩ ⟨by decide, by decide⟩ (fun h24 => ?_) (fun h24 => ?_)
        · refine tn_iload_n dX1_greatestLabel_37 rfl 2 rfl ?_
          refine tn_aload_n dX1_greatestLabel_38 rfl 1 rfl ?_
          refine tn_iload_n dX1_greatestLabel_39 rfl 3 rfl ?_
          refine tn_iconst dX1_greatestLabel_40 ?_
          refine tn_callV (M := m_X1_greatestLabel) (pc := 41) (ix := 86) (ci := 1) (M' := m_X1_get) (As := [.int (iI i2), .int (iI 1)]) (rest := [.int (iI i1)]) dX1_greatestLabel_41 ok_X1_get im_X1_get se_X1_get ml1_86 np_X1_get rfl rfl h_a rfl (Nat.le_of_ble_eq_true rfl) (Nat.le_of_ble_eq_true rfl) rfl (k_X1_get_x (d) (T := T) (σ := σ) (a := a) (k := i2) (c := 1) (x := x) (n := n) (W := W) h_a (by omega) (by decide) hw (hx) (hn) hW (by omega) (by omega)) (fun r25 T27 σ26 gt28 hp => ?_)
          obtain ⟨v31, rfl, rfl, rfl, f29, f30⟩ := hp
          clear gt28
          show Tn _ _ 44 T σ [(3, .int (iI v13)), (0, .ref a), (1, .int (iI i1)), (2, .int (iI i2))] [.int (iI v31), .int (iI i1)] _
          have hl9 := hlb i2 (by omega) (by omega) (by omega)
          refine tn_mmax (x := i1) (y := v31) dX1_greatestLabel_44 mlm1_63 stM_max iniM cdM_max (by omega) (Nat.le_of_ble_eq_true rfl) ⟨by omega, by omega⟩ ⟨by omega, by omega⟩ (fun z32 g33 => ?_)
          refine tn_istore_n (L' := [(1, .int (iI z32)), (3, .int (iI v13)), (0, .ref a), (2, .int (iI i2))]) dX1_greatestLabel_47 rfl (by decide) rfl ?_
          refine tn_iinc (q0 := 3) (L' := [(2, .int (iI (i2 + 1))), (1, .int (iI z32)), (3, .int (iI v13)), (0, .ref a)]) dX1_greatestLabel_48 rfl (by decide) rfl ?_
          refine tn_goto (tgt := 4) dX1_greatestLabel_51 (by decide) ?_
          exact tn_sub [3, 1, 0] rfl (ih _ (by omega) (z32) (i2 + 1) (by omega) (by omega) (LBS.yes hG (by omega) (by omega) f30 (by have z := hlb i2 (by omega) (by omega) (by omega); omega) (by omega)) (by have z := hlb i2 (by omega) (by omega) (by omega); omega) rfl)
        · refine tn_iload_n dX1_greatestLabel_31 rfl 0 rfl ?_
          refine tn_bipush dX1_greatestLabel_32 (by decide) ?_
          refine tn_icmp_ne (tgt := 48) dX1_greatestLabel_34 (by decide) ⟨by omega, by omega⟩ ⟨by decide, by decide⟩ (fun h34 => ?_) (fun h34 => ?_)
          · refine tn_iinc (q0 := 3) (L' := [(2, .int (iI (i2 + 1))), (3, .int (iI v13)), (0, .ref a), (1, .int (iI i1))]) dX1_greatestLabel_48 rfl (by decide) rfl ?_
            refine tn_goto (tgt := 4) dX1_greatestLabel_51 (by decide) ?_
            exact tn_sub [2, 3, 0] rfl (ih _ (by omega) (i1) (i2 + 1) (by omega) (by omega) (LBS.no hG (by omega)) (by omega) rfl)
          · refine tn_iload_n dX1_greatestLabel_37 rfl 2 rfl ?_
            refine tn_aload_n dX1_greatestLabel_38 rfl 1 rfl ?_
            refine tn_iload_n dX1_greatestLabel_39 rfl 3 rfl ?_
            refine tn_iconst dX1_greatestLabel_40 ?_
            refine tn_callV (M := m_X1_greatestLabel) (pc := 41) (ix := 86) (ci := 1) (M' := m_X1_get) (As := [.int (iI i2), .int (iI 1)]) (rest := [.int (iI i1)]) dX1_greatestLabel_41 ok_X1_get im_X1_get se_X1_get ml1_86 np_X1_get rfl rfl h_a rfl (Nat.le_of_ble_eq_true rfl) (Nat.le_of_ble_eq_true rfl) rfl (k_X1_get_x (d) (T := T) (σ := σ) (a := a) (k := i2) (c := 1) (x := x) (n := n) (W := W) h_a (by omega) (by decide) hw (hx) (hn) hW (by omega) (by omega)) (fun r35 T37 σ36 gt38 hp => ?_)
            obtain ⟨v41, rfl, rfl, rfl, f39, f40⟩ := hp
            clear gt38
            show Tn _ _ 44 T σ [(3, .int (iI v13)), (0, .ref a), (1, .int (iI i1)), (2, .int (iI i2))] [.int (iI v41), .int (iI i1)] _
            have hl9 := hlb i2 (by omega) (by omega) (by omega)
            refine tn_mmax (x := i1) (y := v41) dX1_greatestLabel_44 mlm1_63 stM_max iniM cdM_max (by omega) (Nat.le_of_ble_eq_true rfl) ⟨by omega, by omega⟩ ⟨by omega, by omega⟩ (fun z42 g43 => ?_)
            refine tn_istore_n (L' := [(1, .int (iI z42)), (3, .int (iI v13)), (0, .ref a), (2, .int (iI i2))]) dX1_greatestLabel_47 rfl (by decide) rfl ?_
            refine tn_iinc (q0 := 3) (L' := [(2, .int (iI (i2 + 1))), (1, .int (iI z42)), (3, .int (iI v13)), (0, .ref a)]) dX1_greatestLabel_48 rfl (by decide) rfl ?_
            refine tn_goto (tgt := 4) dX1_greatestLabel_51 (by decide) ?_
            exact tn_sub [3, 1, 0] rfl (ih _ (by omega) (z42) (i2 + 1) (by omega) (by omega) (LBS.yes hG (by omega) (by omega) f40 (by have z := hlb i2 (by omega) (by omega) (by omega); omega) (by omega)) (by have z := hlb i2 (by omega) (by omega) (by omega); omega) rfl)
set_option maxHeartbeats 1000000 in
set_option maxRecDepth 20000 in
theorem k_X1_greatestLabel_x (d : Nat) {T : CT} {σ : MS} {a : Nat} {x : Nat} {n : Int} {W : Int → It} (ha : OB T a 1) (hw : WT T σ) (hx : σ.2.1 5 a = (x : Int)) (hn : σ.2.1 6 a = n) (hW : cW σ x n = W) (hN : n ≤ 200) (hlb : ∀ k, 0 ≤ k → k < n → (W k 0 = 8 ∨ W k 0 = 9 ∨ W k 0 = 13) → 0 ≤ W k 1 ∧ W k 1 ≤ 5000) : Tn (d + 2) m_X1_greatestLabel 0 T σ [(0, .ref a)] [] (fun ro T2 σ2 => ∃ v : Int, ro = some (.int (iI v)) ∧ T = T2 ∧ σ = σ2 ∧ (-1 ≤ v ∧ v ≤ 5000) ∧ (mxV (lbV (vW W) n) (v + 1))) := by
  have h6 := wf_6 hw ha
  refine tn_iconst dX1_greatestLabel_0 ?_
  refine tn_istore_n (L' := [(1, .int (iI (-1))), (0, .ref a)]) dX1_greatestLabel_1 rfl (by decide) rfl ?_
  refine tn_iconst dX1_greatestLabel_2 ?_
  refine tn_istore_n (L' := [(2, .int (iI 0)), (1, .int (iI (-1))), (0, .ref a)]) dX1_greatestLabel_3 rfl (by decide) rfl ?_
  refine tn_sub [2, 1, 0] rfl (l_X1_greatestLabel_x_4 (d) (T := T) (σ := σ) (a := a) (x := x) (n := n) (W := (W)) ha hw (by omega) (hx) (hn) hW hN hlb (fun i11 i22 r8 r9 f10 f11 f12 => ?_) _ (-1) (0) (by omega) (by omega) (UBQ.nil (fun g ⟨i, a, b, _⟩ => by omega)) (by omega) rfl)
  show Tn _ _ 54 T σ [(0, .ref a), (1, .int (iI i11)), (2, .int (iI i22))] [] _
  refine tn_iload_n dX1_greatestLabel_54 rfl 1 rfl ?_
  exact tn_iret rfl dX1_greatestLabel_55 ⟨_, rfl, rfl, rfl, by omega, f12⟩
end
section
set_option maxHeartbeats 1000000 in
set_option maxRecDepth 20000 in
theorem l_X4_isSmall_x_2 (d : Nat) {T : CT} {σ : MS} {a : Nat} {g : Nat} {y : Nat} {ng : Int} {Wg : Int → It} {post : Option Value → CT → MS → Prop} (h_a : OB T a 4) (hw : WT T σ) (hg : σ.2.1 26 a = (g : Int)) (hy : σ.2.1 5 g = (y : Int)) (hng : σ.2.1 6 g = ng) (hWg : cW σ y ng = Wg) (hN : ng ≤ 200) (hwok : WOK Wg ng) (hx_27 : ∀ (i1 : Int) , (0 ≤ i1 ∧ i1 ≤ 200) → (True) → (∃ j, 0 ≤ j ∧ j < ng ∧ Wg j 0 = 10) → Tn (d + 3) m_X4_isSmall 27 T σ [(0, .ref a), (1, .int (iI i1))] [] post) (hx_35 : ∀ (i1 : Int) , (0 ≤ i1 ∧ i1 ≤ 200) → (True) → (∀ j, 0 ≤ j → j < ng → Wg j 0 ≠ 10) → Tn (d + 3) m_X4_isSmall 35 T σ [(0, .ref a), (1, .int (iI i1))] [] post) : ∀ (nq9 : Nat) (i1 : Int) , (0 ≤ i1 ∧ i1 ≤ 200) → (∀ j, 0 ≤ j → j < i1 → Wg j 0 ≠ 10) → (2147483700 - i1).toNat = nq9 → Tn (d + 3) m_X4_isSmall 2 T σ [(0, .ref a), (1, .int (iI i1))] [] post := by
  intro nq9
  induction nq9 using Nat.strongRecOn with
  | _ nq9 ih =>
    intro i1 r_i1 hS hm
    refine tn_iload_n dX4_isSmall_2 rfl 1 rfl ?_
    refine tn_aload_n dX4_isSmall_3 rfl 0 rfl ?_
    have hk3 : (T g).1 = 50 := ob_of ((wf_26 hw h_a).resolve_left (by omega)) hg
    have hk3o : OB T g 1 := ⟨by omega, by rw [hk3]; rfl, by omega⟩
    refine tn_getR (ci := 4) (i := 3) (n := 26) (x := g) dX4_isSmall_4 rfl lay_4 (by decide) fl4_33 h_a rfl rfl (hg) ?_
    refine tn_getI (ci := 1) (i := 1) (n := 6) (t := σ.2.1 6 g) dX4_isSmall_7 rfl lay_1 (by decide) fl4_23 hk3o rfl rfl (rfl) ?_
    have g5 : ((0 : Int) ≤ σ.2.1 6 g ∧ σ.2.1 6 g ≤ 5000) ∧ ((T g).1 = 50 → σ.2.1 6 g ≤ 200) := wf_6 hw hk3o
    have g5x := g5.2
    replace g5 := g5.1
    have g5x := g5x hk3
    refine tn_icmp_ge (tgt := 35) dX4_isSmall_10 (by decide) ⟨by omega, by omega⟩ ⟨by omega, by omega⟩ (fun h6 => ?_) (fun h6 => ?_)
    · exact tn_sub [0, 1] rfl (hx_35 (i1) (by omega) True.intro (fun j a b => hS j a (by omega)))
    · refine tn_aload_n dX4_isSmall_13 rfl 0 rfl ?_
      refine tn_getR (ci := 4) (i := 3) (n := 26) (x := g) dX4_isSmall_14 rfl lay_4 (by decide) fl4_33 h_a rfl rfl (hg) ?_
      refine tn_iload_n dX4_isSmall_17 rfl 1 rfl ?_
      refine tn_iconst dX4_isSmall_18 ?_
      obtain ⟨hl10, hk9a, hk9b⟩ := cel_of (wf_5 hw hk3o) hy
      have hk9 : (T y).1 = 1 := hk9a (by omega)
      clear hk9a hk9b
      have hk9i : IA T y := by unfold IA; omega
      refine tn_callV (M := m_X4_isSmall) (pc := 19) (ix := 29) (ci := 1) (M' := m_X1_get) (As := [.int (iI i1), .int (iI 0)]) (rest := []) dX4_isSmall_19 ok_X1_get im_X1_get se_X1_get ml4_29 np_X1_get rfl rfl hk3o rfl (Nat.le_of_ble_eq_true rfl) (Nat.le_of_ble_eq_true rfl) rfl (k_X1_get_x (d + 1) (T := T) (σ := σ) (a := g) (k := i1) (c := 0) (x := y) (n := ng) (W := Wg) hk3o (by omega) (by decide) hw (hy) (hng) hWg (by omega) (by omega)) (fun r11 T13 σ12 gt14 hp => ?_)
      obtain ⟨v17, rfl, rfl, rfl, f15, f16⟩ := hp
      clear gt14
      show Tn _ _ 22 T σ [(0, .ref a), (1, .int (iI i1))] [.int (iI v17)] _
      refine tn_bipush dX4_isSmall_22 (by decide) ?_
      refine tn_icmp_ne (tgt := 29) dX4_isSmall_24 (by decide) ⟨by omega, by omega⟩ ⟨by decide, by decide⟩ (fun h18 => ?_) (fun h18 => ?_)
      · refine tn_iinc (q0 := 1) (L' := [(1, .int (iI (i1 + 1))), (0, .ref a)]) dX4_isSmall_29 rfl (by decide) rfl ?_
        refine tn_goto (tgt := 2) dX4_isSmall_32 (by decide) ?_
        exact tn_sub [1, 0] rfl (ih _ (by omega) (i1 + 1) (by omega) (fun j a b => (Classical.em (j = i1)).elim (fun e => by rw [e]; omega) (fun e => hS j a (by omega))) rfl)
      · exact tn_sub [0, 1] rfl (hx_27 (i1) (by omega) True.intro ⟨i1, by omega, by omega, by omega⟩)
set_option maxHeartbeats 1000000 in
set_option maxRecDepth 20000 in
theorem k_X4_isSmall_x (d : Nat) {T : CT} {σ : MS} {a : Nat} {g : Nat} {y : Nat} {ng : Int} {Wg : Int → It} (ha : OB T a 4) (hw : WT T σ) (hg : σ.2.1 26 a = (g : Int)) (hy : σ.2.1 5 g = (y : Int)) (hng : σ.2.1 6 g = ng) (hWg : cW σ y ng = Wg) (hN : ng ≤ 200) (hwok : WOK Wg ng) : Tn (d + 3) m_X4_isSmall 0 T σ [(0, .ref a)] [] (fun ro T2 σ2 => ∃ v : Int, ro = some (.int (iI v)) ∧ T = T2 ∧ σ = σ2 ∧ (v = 0 ∨ v = 1) ∧ ((v = 1 ∧ (∀ j, 0 ≤ j → j < ng → Wg j 0 ≠ 10) ∧ cN (fun j => Wg j 0 ≤ 10) 0 ng.toNat ≤ 20) ∨ (v = 0 ∧ ¬ ((∀ j, 0 ≤ j → j < ng → Wg j 0 ≠ 10) ∧ cN (fun j => Wg j 0 ≤ 10) 0 ng.toNat ≤ 20)))) := by
  refine tn_iconst dX4_isSmall_0 ?_
  refine tn_istore_n (L' := [(1, .int (iI 0)), (0, .ref a)]) dX4_isSmall_1 rfl (by decide) rfl ?_
  refine tn_sub [1, 0] rfl (l_X4_isSmall_x_2 (d) (T := T) (σ := σ) (a := a) (g := g) (y := y) (ng := ng) (Wg := (Wg)) ha hw (hg) (hy) (hng) hWg hN hwok (fun i11 r7 f8 f9 => ?_) (fun i110 r16 f17 f18 => ?_) _ (0) (by omega) (fun j a b => by omega) rfl)
  · show Tn _ _ 27 T σ [(0, .ref a), (1, .int (iI i11))] [] _
    refine tn_iconst dX4_isSmall_27 ?_
    exact tn_zret (v := 0) rfl (by decide) dX4_isSmall_28 ⟨_, rfl, rfl, rfl, by omega, (Or.inr ⟨rfl, fun z => f9.elim (fun j e => z.1 j e.1 e.2.1 e.2.2)⟩)⟩
  · show Tn _ _ 35 T σ [(0, .ref a), (1, .int (iI i110))] [] _
    refine tn_aload_n dX4_isSmall_35 rfl 0 rfl ?_
    have hk21 : (T g).1 = 50 := ob_of ((wf_26 hw ha).resolve_left (by omega)) hg
    have hk21o : OB T g 1 := ⟨by omega, by rw [hk21]; rfl, by omega⟩
    refine tn_getR (ci := 4) (i := 3) (n := 26) (x := g) dX4_isSmall_36 rfl lay_4 (by decide) fl4_33 ha rfl rfl (hg) ?_
    obtain ⟨hl26, hk25a, hk25b⟩ := cel_of (wf_5 hw hk21o) hy
    have hk25 : (T y).1 = 1 := hk25a (by omega)
    clear hk25a hk25b
    have hk25i : IA T y := by unfold IA; omega
    refine tn_callV (M := m_X4_isSmall) (pc := 39) (ix := 44) (ci := 1) (M' := m_X1_acts) (As := []) (rest := []) dX4_isSmall_39 ok_X1_acts im_X1_acts se_X1_acts ml4_44 np_X1_acts rfl rfl hk21o rfl (Nat.le_of_ble_eq_true rfl) (Nat.le_of_ble_eq_true rfl) rfl (k_X1_acts_x (d) (T := T) (σ := σ) (a := g) (x := y) (n := ng) (W := Wg) hk21o hw (hy) (hng) hWg (by omega) (by omega)) (fun r27 T29 σ28 gt30 hp => ?_)
    obtain ⟨v33, rfl, rfl, rfl, f31, f32⟩ := hp
    clear gt30
    show Tn _ _ 42 T σ [(0, .ref a), (1, .int (iI i110))] [.int (iI v33)] _
    refine tn_bipush dX4_isSmall_42 (by decide) ?_
    refine tn_icmp_gt (tgt := 51) dX4_isSmall_44 (by decide) ⟨by omega, by omega⟩ ⟨by decide, by decide⟩ (fun h34 => ?_) (fun h34 => ?_)
    · refine tn_iconst dX4_isSmall_51 ?_
      exact tn_zret (v := 0) rfl (by decide) dX4_isSmall_52 ⟨_, rfl, rfl, rfl, by omega, (Or.inr ⟨rfl, fun z => by have z2 := z.2; rw [← f32] at z2; omega⟩)⟩
    · refine tn_iconst dX4_isSmall_47 ?_
      refine tn_goto (tgt := 52) dX4_isSmall_48 (by decide) ?_
      exact tn_zret (v := 1) rfl (by decide) dX4_isSmall_52 ⟨_, rfl, rfl, rfl, by omega, (Or.inl ⟨rfl, f18, by rw [← f32]; omega⟩)⟩
end
section
set_option maxHeartbeats 1000000 in
set_option maxRecDepth 20000 in
theorem l_X4_needsNought_x_19 (d : Nat) {T : CT} {σ : MS} {a : Nat} {c1 : Int} {g : Nat} {fl : Nat} {xa : Nat} {La : Int → Int64} {P : Int} {yh : Nat} {Rg : Int → Int} {post : Option Value → CT → MS → Prop} (h_a : OB T a 4) (r_c1 : 0 ≤ c1 ∧ c1 ≤ 191) (hw : WT T σ) (hg : σ.2.1 26 a = (g : Int)) (hfl : σ.2.1 23 a = (fl : Int)) (hxa : σ.2.1 18 fl = (xa : Int)) (hLa : σ.2.2 xa = La) (hP : σ.2.1 8 g = P) (hyh : σ.2.1 15 g = (yh : Int)) (hRg : σ.2.1 (1000 + yh) = Rg) (hx_43 : ∀ (i2 : Int) , (0 ≤ i2 ∧ i2 ≤ 4) → (True) → (pmC Rg P c1) → Tn (d + 3) m_X4_needsNought 43 T σ [(0, .ref a), (1, .int (iI c1)), (2, .int (iI i2))] [] post) (hx_51 : ∀ (i2 : Int) , (0 ≤ i2 ∧ i2 ≤ 4) → (True) → (¬ pmC Rg P c1) → Tn (d + 3) m_X4_needsNought 51 T σ [(0, .ref a), (1, .int (iI c1)), (2, .int (iI i2))] [] post) : ∀ (nq9 : Nat) (i2 : Int) , (0 ≤ i2 ∧ i2 ≤ 4) → (∀ j, 0 ≤ j → j < i2 → Rg j ≠ c1) → (2147483700 - i2).toNat = nq9 → Tn (d + 3) m_X4_needsNought 19 T σ [(0, .ref a), (1, .int (iI c1)), (2, .int (iI i2))] [] post := by
  intro nq9
  induction nq9 using Nat.strongRecOn with
  | _ nq9 ih =>
    intro i2 r_i2 hS hm
    refine tn_iload_n dX4_needsNought_19 rfl 2 rfl ?_
    refine tn_aload_n dX4_needsNought_20 rfl 0 rfl ?_
    have hk3 : (T g).1 = 50 := ob_of ((wf_26 hw h_a).resolve_left (by omega)) hg
    have hk3o : OB T g 1 := ⟨by omega, by rw [hk3]; rfl, by omega⟩
    refine tn_getR (ci := 4) (i := 3) (n := 26) (x := g) dX4_needsNought_21 rfl lay_4 (by decide) fl4_33 h_a rfl rfl (hg) ?_
    refine tn_getI (ci := 1) (i := 3) (n := 8) (t := σ.2.1 8 g) dX4_needsNought_24 rfl lay_1 (by decide) fl4_108 hk3o rfl rfl (rfl) ?_
    have g5 : ((0 : Int) ≤ σ.2.1 8 g ∧ σ.2.1 8 g ≤ 4) := wf_8 hw hk3o
    refine tn_icmp_ge (tgt := 51) dX4_needsNought_27 (by decide) ⟨by omega, by omega⟩ ⟨by omega, by omega⟩ (fun h6 => ?_) (fun h6 => ?_)
    · exact tn_sub [0, 1, 2] rfl (hx_51 (i2) (by omega) True.intro (fun ⟨j, a, b, e⟩ => hS j a (by omega) e))
    · refine tn_aload_n dX4_needsNought_30 rfl 0 rfl ?_
      refine tn_getR (ci := 4) (i := 3) (n := 26) (x := g) dX4_needsNought_31 rfl lay_4 (by decide) fl4_33 h_a rfl rfl (hg) ?_
      refine tn_iconst dX4_needsNought_34 ?_
      refine tn_iload_n dX4_needsNought_35 rfl 2 rfl ?_
      obtain ⟨hk9, hl10⟩ : AR T yh 1 144 144 := ar_of (wf_15 hw hk3o) hyh
      have hk9i : IA T yh := by unfold IA; omega
      refine tn_callV (M := m_X4_needsNought) (pc := 36) (ix := 122) (ci := 1) (M' := m_X1_homeOf) (As := [.int (iI 0), .int (iI i2)]) (rest := []) dX4_needsNought_36 ok_X1_homeOf im_X1_homeOf se_X1_homeOf ml4_122 np_X1_homeOf rfl rfl hk3o rfl (Nat.le_of_ble_eq_true rfl) (Nat.le_of_ble_eq_true rfl) rfl (k_X1_homeOf_x (d) (T := T) (σ := σ) (a := g) (f := 0) (m := i2) (xh := yh) (Rh := Rg) hk3o (by decide) (by omega) hw (hyh) hRg (by omega)) (fun r11 T13 σ12 gt14 hp => ?_)
      obtain ⟨v17, rfl, rfl, rfl, f15, f16⟩ := hp
      clear gt14
      show Tn _ _ 39 T σ [(0, .ref a), (1, .int (iI c1)), (2, .int (iI i2))] [.int (iI v17)] _
      refine tn_iload_n dX4_needsNought_39 rfl 1 rfl ?_
      refine tn_icmp_ne (tgt := 45) dX4_needsNought_40 (by decide) ⟨by omega, by omega⟩ ⟨by omega, by omega⟩ (fun h18 => ?_) (fun h18 => ?_)
      · refine tn_iinc (q0 := 2) (L' := [(2, .int (iI (i2 + 1))), (0, .ref a), (1, .int (iI c1))]) dX4_needsNought_45 rfl (by decide) rfl ?_
        refine tn_goto (tgt := 19) dX4_needsNought_48 (by decide) ?_
        exact tn_sub [1, 2, 0] rfl (ih _ (by omega) (i2 + 1) (by omega) (fun j a b => (Classical.em (j = i2)).elim (fun e => by rw [e]; have z := f16; unfold ATQ at z; rw [show 12 * 0 + i2 = i2 by omega] at z; omega) (fun e => hS j a (by omega))) rfl)
      · exact tn_sub [0, 1, 2] rfl (hx_43 (i2) (by omega) True.intro ⟨i2, by omega, by omega, by have z := f16; unfold ATQ at z; rw [show 12 * 0 + i2 = i2 by omega] at z; omega⟩)
set_option maxHeartbeats 1000000 in
set_option maxRecDepth 20000 in
theorem k_X4_needsNought_x (d : Nat) {T : CT} {σ : MS} {a : Nat} {r : Int} {g : Nat} {fl : Nat} {xa : Nat} {La : Int → Int64} {P : Int} {yh : Nat} {Rg : Int → Int} (ha : OB T a 4) (h_r : -2147483648 ≤ r ∧ r ≤ 2147483647) (hw : WT T σ) (hg : σ.2.1 26 a = (g : Int)) (hfl : σ.2.1 23 a = (fl : Int)) (hxa : σ.2.1 18 fl = (xa : Int)) (hLa : σ.2.2 xa = La) (hP : σ.2.1 8 g = P) (hyh : σ.2.1 15 g = (yh : Int)) (hRg : σ.2.1 (1000 + yh) = Rg) (hr : 0 ≤ r ∧ r < 192) : Tn (d + 3) m_X4_needsNought 0 T σ [(0, .ref a), (1, .int (iI r))] [] (fun ro T2 σ2 => ∃ v : Int, ro = some (.int (iI v)) ∧ T = T2 ∧ σ = σ2 ∧ (v = 0 ∨ v = 1) ∧ ((v = 1 ∧ nnC La Rg P r) ∨ (v = 0 ∧ ¬ nnC La Rg P r))) := by
  refine tn_aload_n dX4_needsNought_0 rfl 0 rfl ?_
  have hk3 : (T fl).1 = 33 := ob_of (wf_23 hw ha) hfl
  have hk3o : OB T fl 3 := ⟨by omega, by rw [hk3]; rfl, by omega⟩
  refine tn_getR (ci := 4) (i := 0) (n := 23) (x := fl) dX4_needsNought_1 rfl lay_4 (by decide) fl4_15 ha rfl rfl (hfl) ?_
  obtain ⟨hk7, hl8⟩ : AR T xa 3 603 603 := ar_of (wf_18 hw hk3o) hxa
  refine tn_getR (ci := 3) (i := 0) (n := 18) (x := xa) dX4_needsNought_4 rfl lay_3 (by decide) fl4_114 hk3o rfl rfl (hxa) ?_
  refine tn_iconst dX4_needsNought_7 ?_
  refine tn_iload_n dX4_needsNought_8 rfl 1 rfl ?_
  refine tn_callSN (M := m_X4_needsNought) (pc := 9) (ix := 118) (M' := m_X11_has) (As := [.ref xa, .int (iI 0), .int (iI r)]) (rest := []) dX4_needsNought_9 ok_X11_has stt_X11_has nl4_118 np_X11_has rfl (Nat.le_of_ble_eq_true rfl) (Nat.le_of_ble_eq_true rfl) rfl (k_X11_has_x (d) (T := T) (σ := σ) (x := xa) (k := 0) (r := r) (L := La) hk7 (by omega) (by decide) (by omega) hw hLa ⟨by omega, by omega⟩) (fun r9 T11 σ10 gt12 hp => ?_)
  obtain ⟨v15, rfl, rfl, rfl, f13, f14⟩ := hp
  clear gt12
  show Tn _ _ 12 T σ [(0, .ref a), (1, .int (iI r))] [.int (iI v15)] _
  refine tn_if_ne (tgt := 17) dX4_needsNought_12 (by decide) ⟨by omega, by omega⟩ (fun h16 => ?_) (fun h16 => ?_)
  · refine tn_iconst dX4_needsNought_17 ?_
    refine tn_istore_n (L' := [(2, .int (iI 0)), (0, .ref a), (1, .int (iI r))]) dX4_needsNought_18 rfl (by decide) rfl ?_
    refine tn_sub [1, 2, 0] rfl (l_X4_needsNought_x_19 (d) (T := T) (σ := σ) (a := a) (c1 := r) (g := g) (fl := fl) (xa := xa) (La := (La)) (P := P) (yh := yh) (Rg := (Rg)) ha (by omega) hw (hg) (hfl) (hxa) hLa (hP) (hyh) hRg (fun i217 r23 f24 f25 => ?_) (fun i226 r32 f33 f34 => ?_) _ (0) (by omega) (fun j a b => by omega) rfl)
    · show Tn _ _ 43 T σ [(0, .ref a), (1, .int (iI r)), (2, .int (iI i217))] [] _
      refine tn_iconst dX4_needsNought_43 ?_
      exact tn_zret (v := 0) rfl (by decide) dX4_needsNought_44 ⟨_, rfl, rfl, rfl, by omega, (Or.inr ⟨rfl, fun z => z.2 f25⟩)⟩
    · show Tn _ _ 51 T σ [(0, .ref a), (1, .int (iI r)), (2, .int (iI i226))] [] _
      refine tn_iconst dX4_needsNought_51 ?_
      exact tn_zret (v := 1) rfl (by decide) dX4_needsNought_52 ⟨_, rfl, rfl, rfl, by omega, (Or.inl ⟨rfl, f14.mp (by omega), f34⟩)⟩
  · refine tn_iconst dX4_needsNought_15 ?_
    exact tn_zret (v := 0) rfl (by decide) dX4_needsNought_16 ⟨_, rfl, rfl, rfl, by omega, (Or.inr ⟨rfl, fun z => absurd (f14.mpr z.1) (by omega)⟩)⟩
end
section
set_option maxHeartbeats 1000000 in
set_option maxRecDepth 20000 in
theorem l_X4_rowsNeeded_x_28 (d : Nat) {T : CT} {σ : MS} {a : Nat} {g : Nat} {y : Nat} {ng : Int} {Wg : Int → It} {Ng : Int} {fl : Nat} {xa : Nat} {La : Int → Int64} {P : Int} {yh : Nat} {Rg : Int → Int} {post : Option Value → CT → MS → Prop} (h_a : OB T a 4) (hw : WT T σ) (hn0 : 0 ≤ ng) (hg : σ.2.1 26 a = (g : Int)) (hy : σ.2.1 5 g = (y : Int)) (hng : σ.2.1 6 g = ng) (hWg : cW σ y ng = Wg) (hNg : σ.2.1 7 g = Ng) (hfl : σ.2.1 23 a = (fl : Int)) (hxa : σ.2.1 18 fl = (xa : Int)) (hLa : σ.2.2 xa = La) (hP : σ.2.1 8 g = P) (hyh : σ.2.1 15 g = (yh : Int)) (hRg : σ.2.1 (1000 + yh) = Rg) (hN : ng ≤ 200) (hx_67 : ∀ (i1 : Int) (i2 : Int) , (0 ≤ i1 ∧ i1 ≤ 419) → (0 ≤ i2 ∧ i2 ≤ 200) → (True) → (0 ≤ Ng ∧ Ng ≤ 12 ∧ 0 ≤ P ∧ P ≤ 4) → (i1 = 3 + ng + Ng + P + cN (fun j => Wg j 0 = 7) 0 (ng : Int).toNat + cN (nnC La Rg P) 0 (0 : Int).toNat) → Tn (d + 4) m_X4_rowsNeeded 67 T σ [(0, .ref a), (1, .int (iI i1)), (2, .int (iI i2))] [] post) : ∀ (nq9 : Nat) (i1 : Int) (i2 : Int) , (0 ≤ i1 ∧ i1 ≤ 419) → (0 ≤ i2 ∧ i2 ≤ 200) → (i1 = 3 + ng + Ng + P + cN (fun j => Wg j 0 = 7) 0 (i2 : Int).toNat + cN (nnC La Rg P) 0 (0 : Int).toNat) → (i1 ≤ 219 + i2 ∧ i2 ≤ ng ∧ 0 ≤ Ng ∧ Ng ≤ 12 ∧ 0 ≤ P ∧ P ≤ 4) → (2147483700 - i2).toNat = nq9 → Tn (d + 4) m_X4_rowsNeeded 28 T σ [(0, .ref a), (1, .int (iI i1)), (2, .int (iI i2))] [] post := by
  intro nq9
  induction nq9 using Nat.strongRecOn with
  | _ nq9 ih =>
    intro i1 i2 r_i1 r_i2 hR_ h2 hm
    refine tn_iload_n dX4_rowsNeeded_28 rfl 2 rfl ?_
    refine tn_aload_n dX4_rowsNeeded_29 rfl 0 rfl ?_
    have hk3 : (T g).1 = 50 := ob_of ((wf_26 hw h_a).resolve_left (by omega)) hg
    have hk3o : OB T g 1 := ⟨by omega, by rw [hk3]; rfl, by omega⟩
    refine tn_getR (ci := 4) (i := 3) (n := 26) (x := g) dX4_rowsNeeded_30 rfl lay_4 (by decide) fl4_33 h_a rfl rfl (hg) ?_
    refine tn_getI (ci := 1) (i := 1) (n := 6) (t := σ.2.1 6 g) dX4_rowsNeeded_33 rfl lay_1 (by decide) fl4_23 hk3o rfl rfl (rfl) ?_
    have g5 : ((0 : Int) ≤ σ.2.1 6 g ∧ σ.2.1 6 g ≤ 5000) ∧ ((T g).1 = 50 → σ.2.1 6 g ≤ 200) := wf_6 hw hk3o
    have g5x := g5.2
    replace g5 := g5.1
    have g5x := g5x hk3
    refine tn_icmp_ge (tgt := 67) dX4_rowsNeeded_36 (by decide) ⟨by omega, by omega⟩ ⟨by omega, by omega⟩ (fun h6 => ?_) (fun h6 => ?_)
    · exact tn_sub [0, 1, 2] rfl (hx_67 (i1) (i2) (by omega) (by omega) True.intro (by omega) (by have z := hR_; rw [show i2 = ng by omega] at z; exact z))
    · refine tn_iload_n dX4_rowsNeeded_39 rfl 1 rfl ?_
      refine tn_aload_n dX4_rowsNeeded_40 rfl 0 rfl ?_
      refine tn_getR (ci := 4) (i := 3) (n := 26) (x := g) dX4_rowsNeeded_41 rfl lay_4 (by decide) fl4_33 h_a rfl rfl (hg) ?_
      refine tn_iload_n dX4_rowsNeeded_44 rfl 2 rfl ?_
      refine tn_iconst dX4_rowsNeeded_45 ?_
      obtain ⟨hl10, hk9a, hk9b⟩ := cel_of (wf_5 hw hk3o) hy
      have hk9 : (T y).1 = 1 := hk9a (by omega)
      clear hk9a hk9b
      have hk9i : IA T y := by unfold IA; omega
      refine tn_callV (M := m_X4_rowsNeeded) (pc := 46) (ix := 29) (ci := 1) (M' := m_X1_get) (As := [.int (iI i2), .int (iI 0)]) (rest := [.int (iI i1)]) dX4_rowsNeeded_46 ok_X1_get im_X1_get se_X1_get ml4_29 np_X1_get rfl rfl hk3o rfl (Nat.le_of_ble_eq_true rfl) (Nat.le_of_ble_eq_true rfl) rfl (k_X1_get_x (d + 2) (T := T) (σ := σ) (a := g) (k := i2) (c := 0) (x := y) (n := ng) (W := Wg) hk3o (by omega) (by decide) hw (hy) (hng) hWg (by omega) (by omega)) (fun r11 T13 σ12 gt14 hp => ?_)
      obtain ⟨v17, rfl, rfl, rfl, f15, f16⟩ := hp
      clear gt14
      show Tn _ _ 49 T σ [(0, .ref a), (1, .int (iI i1)), (2, .int (iI i2))] [.int (iI v17), .int (iI i1)] _
      refine tn_bipush dX4_rowsNeeded_49 (by decide) ?_
      refine tn_icmp_ne (tgt := 58) dX4_rowsNeeded_51 (by decide) ⟨by omega, by omega⟩ ⟨by decide, by decide⟩ (fun h18 => ?_) (fun h18 => ?_)
      · refine tn_iconst dX4_rowsNeeded_58 ?_
        refine tn_iadd dX4_rowsNeeded_59 ?_
        refine tn_istore_n (L' := [(1, .int (iI (i1 + 0))), (0, .ref a), (2, .int (iI i2))]) dX4_rowsNeeded_60 rfl (by decide) rfl ?_
        refine tn_iinc (q0 := 2) (L' := [(2, .int (iI (i2 + 1))), (1, .int (iI (i1 + 0))), (0, .ref a)]) dX4_rowsNeeded_61 rfl (by decide) rfl ?_
        refine tn_goto (tgt := 28) dX4_rowsNeeded_64 (by decide) ?_
        exact tn_sub [2, 1, 0] rfl (ih _ (by omega) (i1 + 0) (i2 + 1) (by omega) (by omega) (by rw [cN_n (P := fun j => Wg j 0 = 7) (k := i2) (by omega) (by omega)]; omega) (by omega) rfl)
      · refine tn_iconst dX4_rowsNeeded_54 ?_
        refine tn_goto (tgt := 59) dX4_rowsNeeded_55 (by decide) ?_
        refine tn_iadd dX4_rowsNeeded_59 ?_
        refine tn_istore_n (L' := [(1, .int (iI (i1 + 1))), (0, .ref a), (2, .int (iI i2))]) dX4_rowsNeeded_60 rfl (by decide) rfl ?_
        refine tn_iinc (q0 := 2) (L' := [(2, .int (iI (i2 + 1))), (1, .int (iI (i1 + 1))), (0, .ref a)]) dX4_rowsNeeded_61 rfl (by decide) rfl ?_
        refine tn_goto (tgt := 28) dX4_rowsNeeded_64 (by decide) ?_
        exact tn_sub [2, 1, 0] rfl (ih _ (by omega) (i1 + 1) (i2 + 1) (by omega) (by omega) (by rw [cN_y (P := fun j => Wg j 0 = 7) (k := i2) (by omega) (by omega)]; omega) (by omega) rfl)
set_option maxHeartbeats 1000000 in
set_option maxRecDepth 20000 in
theorem l_X4_rowsNeeded_x_69 (d : Nat) {T : CT} {σ : MS} {a : Nat} {g : Nat} {y : Nat} {ng : Int} {Wg : Int → It} {Ng : Int} {fl : Nat} {xa : Nat} {La : Int → Int64} {P : Int} {yh : Nat} {Rg : Int → Int} {post : Option Value → CT → MS → Prop} (h_a : OB T a 4) (hw : WT T σ) (hg : σ.2.1 26 a = (g : Int)) (hy : σ.2.1 5 g = (y : Int)) (hng : σ.2.1 6 g = ng) (hWg : cW σ y ng = Wg) (hNg : σ.2.1 7 g = Ng) (hfl : σ.2.1 23 a = (fl : Int)) (hxa : σ.2.1 18 fl = (xa : Int)) (hLa : σ.2.2 xa = La) (hP : σ.2.1 8 g = P) (hyh : σ.2.1 15 g = (yh : Int)) (hRg : σ.2.1 (1000 + yh) = Rg) (hN : ng ≤ 200) (hx_98 : ∀ (i1 : Int) (i2 : Int) , (0 ≤ i1 ∧ i1 ≤ 611) → (0 ≤ i2 ∧ i2 ≤ 192) → (True) → (True) → (i1 = 3 + ng + Ng + P + cN (fun j => Wg j 0 = 7) 0 (ng : Int).toNat + cN (nnC La Rg P) 0 (192 : Int).toNat) → Tn (d + 4) m_X4_rowsNeeded 98 T σ [(0, .ref a), (1, .int (iI i1)), (2, .int (iI i2))] [] post) : ∀ (nq9 : Nat) (i1 : Int) (i2 : Int) , (0 ≤ i1 ∧ i1 ≤ 611) → (0 ≤ i2 ∧ i2 ≤ 192) → (i1 = 3 + ng + Ng + P + cN (fun j => Wg j 0 = 7) 0 (ng : Int).toNat + cN (nnC La Rg P) 0 (i2 : Int).toNat) → (i1 ≤ 419 + i2 ∧ 0 ≤ Ng ∧ Ng ≤ 12 ∧ 0 ≤ P ∧ P ≤ 4) → (2147483700 - i2).toNat = nq9 → Tn (d + 4) m_X4_rowsNeeded 69 T σ [(0, .ref a), (1, .int (iI i1)), (2, .int (iI i2))] [] post := by
  intro nq9
  induction nq9 using Nat.strongRecOn with
  | _ nq9 ih =>
    intro i1 i2 r_i1 r_i2 hR_ h2 hm
    refine tn_iload_n dX4_rowsNeeded_69 rfl 2 rfl ?_
    refine tn_sipush dX4_rowsNeeded_70 (by decide) ?_
    refine tn_icmp_ge (tgt := 98) dX4_rowsNeeded_73 (by decide) ⟨by omega, by omega⟩ ⟨by decide, by decide⟩ (fun h1 => ?_) (fun h1 => ?_)
    · exact tn_sub [0, 1, 2] rfl (hx_98 (i1) (i2) (by omega) (by omega) True.intro True.intro (by have z := hR_; rw [show i2 = 192 by omega] at z; exact z))
    · refine tn_iload_n dX4_rowsNeeded_76 rfl 1 rfl ?_
      refine tn_aload_n dX4_rowsNeeded_77 rfl 0 rfl ?_
      refine tn_iload_n dX4_rowsNeeded_78 rfl 2 rfl ?_
      have hk4 : (T g).1 = 50 := ob_of ((wf_26 hw h_a).resolve_left (by omega)) hg
      have hk4o : OB T g 1 := ⟨by omega, by rw [hk4]; rfl, by omega⟩
      have hk8 : (T fl).1 = 33 := ob_of (wf_23 hw h_a) hfl
      have hk8o : OB T fl 3 := ⟨by omega, by rw [hk8]; rfl, by omega⟩
      obtain ⟨hk12, hl13⟩ : AR T xa 3 603 603 := ar_of (wf_18 hw hk8o) hxa
      obtain ⟨hk16, hl17⟩ : AR T yh 1 144 144 := ar_of (wf_15 hw hk4o) hyh
      have hk16i : IA T yh := by unfold IA; omega
      refine tn_callV (M := m_X4_rowsNeeded) (pc := 79) (ix := 111) (ci := 4) (M' := m_X4_needsNought) (As := [.int (iI i2)]) (rest := [.int (iI i1)]) dX4_rowsNeeded_79 ok_X4_needsNought im_X4_needsNought se_X4_needsNought ml4_111 np_X4_needsNought rfl rfl h_a rfl (Nat.le_of_ble_eq_true rfl) (Nat.le_of_ble_eq_true rfl) rfl (k_X4_needsNought_x (d) (T := T) (σ := σ) (a := a) (r := i2) (g := g) (fl := fl) (xa := xa) (La := La) (P := P) (yh := yh) (Rg := Rg) h_a (by omega) hw (hg) (hfl) (hxa) hLa (hP) (hyh) hRg ⟨by omega, by omega⟩) (fun r18 T20 σ19 gt21 hp => ?_)
      obtain ⟨v24, rfl, rfl, rfl, f22, f23⟩ := hp
      clear gt21
      show Tn _ _ 82 T σ [(0, .ref a), (1, .int (iI i1)), (2, .int (iI i2))] [.int (iI v24), .int (iI i1)] _
      refine tn_if_eq (tgt := 89) dX4_rowsNeeded_82 (by decide) ⟨by omega, by omega⟩ (fun h25 => ?_) (fun h25 => ?_)
      · refine tn_iconst dX4_rowsNeeded_89 ?_
        refine tn_iadd dX4_rowsNeeded_90 ?_
        refine tn_istore_n (L' := [(1, .int (iI (i1 + 0))), (0, .ref a), (2, .int (iI i2))]) dX4_rowsNeeded_91 rfl (by decide) rfl ?_
        refine tn_iinc (q0 := 2) (L' := [(2, .int (iI (i2 + 1))), (1, .int (iI (i1 + 0))), (0, .ref a)]) dX4_rowsNeeded_92 rfl (by decide) rfl ?_
        refine tn_goto (tgt := 69) dX4_rowsNeeded_95 (by decide) ?_
        exact tn_sub [2, 1, 0] rfl (ih _ (by omega) (i1 + 0) (i2 + 1) (by omega) (by omega) (by rw [cN_n (P := nnC La Rg P) (k := i2) (by omega) (f23.resolve_left (fun q => absurd q.1 (by omega))).2]; omega) (by omega) rfl)
      · refine tn_iconst dX4_rowsNeeded_85 ?_
        refine tn_goto (tgt := 90) dX4_rowsNeeded_86 (by decide) ?_
        refine tn_iadd dX4_rowsNeeded_90 ?_
        refine tn_istore_n (L' := [(1, .int (iI (i1 + 1))), (0, .ref a), (2, .int (iI i2))]) dX4_rowsNeeded_91 rfl (by decide) rfl ?_
        refine tn_iinc (q0 := 2) (L' := [(2, .int (iI (i2 + 1))), (1, .int (iI (i1 + 1))), (0, .ref a)]) dX4_rowsNeeded_92 rfl (by decide) rfl ?_
        refine tn_goto (tgt := 69) dX4_rowsNeeded_95 (by decide) ?_
        exact tn_sub [2, 1, 0] rfl (ih _ (by omega) (i1 + 1) (i2 + 1) (by omega) (by omega) (by rw [cN_y (P := nnC La Rg P) (k := i2) (by omega) (f23.resolve_right (fun q => absurd q.1 (by omega))).2]; omega) (by omega) rfl)
set_option maxHeartbeats 1000000 in
set_option maxRecDepth 20000 in
theorem k_X4_rowsNeeded_x (d : Nat) {T : CT} {σ : MS} {a : Nat} {g : Nat} {y : Nat} {ng : Int} {Wg : Int → It} {Ng : Int} {fl : Nat} {xa : Nat} {La : Int → Int64} {P : Int} {yh : Nat} {Rg : Int → Int} (ha : OB T a 4) (hw : WT T σ) (hg : σ.2.1 26 a = (g : Int)) (hy : σ.2.1 5 g = (y : Int)) (hng : σ.2.1 6 g = ng) (hWg : cW σ y ng = Wg) (hNg : σ.2.1 7 g = Ng) (hfl : σ.2.1 23 a = (fl : Int)) (hxa : σ.2.1 18 fl = (xa : Int)) (hLa : σ.2.2 xa = La) (hP : σ.2.1 8 g = P) (hyh : σ.2.1 15 g = (yh : Int)) (hRg : σ.2.1 (1000 + yh) = Rg) (hN : ng ≤ 200) : Tn (d + 4) m_X4_rowsNeeded 0 T σ [(0, .ref a)] [] (fun ro T2 σ2 => ∃ v : Int, ro = some (.int (iI v)) ∧ T = T2 ∧ σ = σ2 ∧ (0 ≤ v ∧ v ≤ 1000) ∧ (v = 3 + ng + Ng + P + cN (fun j => Wg j 0 = 7) 0 (ng : Int).toNat + cN (nnC La Rg P) 0 (192 : Int).toNat)) := by
  refine tn_iconst dX4_rowsNeeded_0 ?_
  refine tn_aload_n dX4_rowsNeeded_1 rfl 0 rfl ?_
  have hk3 : (T g).1 = 50 := ob_of ((wf_26 hw ha).resolve_left (by omega)) hg
  have hk3o : OB T g 1 := ⟨by omega, by rw [hk3]; rfl, by omega⟩
  refine tn_getR (ci := 4) (i := 3) (n := 26) (x := g) dX4_rowsNeeded_2 rfl lay_4 (by decide) fl4_33 ha rfl rfl (hg) ?_
  refine tn_getI (ci := 1) (i := 1) (n := 6) (t := σ.2.1 6 g) dX4_rowsNeeded_5 rfl lay_1 (by decide) fl4_23 hk3o rfl rfl (rfl) ?_
  have g5 : ((0 : Int) ≤ σ.2.1 6 g ∧ σ.2.1 6 g ≤ 5000) ∧ ((T g).1 = 50 → σ.2.1 6 g ≤ 200) := wf_6 hw hk3o
  have g5x := g5.2
  replace g5 := g5.1
  have g5x := g5x hk3
  refine tn_iadd dX4_rowsNeeded_8 ?_
  refine tn_aload_n dX4_rowsNeeded_9 rfl 0 rfl ?_
  refine tn_getR (ci := 4) (i := 3) (n := 26) (x := g) dX4_rowsNeeded_10 rfl lay_4 (by decide) fl4_33 ha rfl rfl (hg) ?_
  refine tn_getI (ci := 1) (i := 2) (n := 7) (t := σ.2.1 7 g) dX4_rowsNeeded_13 rfl lay_1 (by decide) fl4_105 hk3o rfl rfl (rfl) ?_
  have g6 : ((0 : Int) ≤ σ.2.1 7 g ∧ σ.2.1 7 g ≤ 12) := wf_7 hw hk3o
  refine tn_iadd dX4_rowsNeeded_16 ?_
  refine tn_aload_n dX4_rowsNeeded_17 rfl 0 rfl ?_
  refine tn_getR (ci := 4) (i := 3) (n := 26) (x := g) dX4_rowsNeeded_18 rfl lay_4 (by decide) fl4_33 ha rfl rfl (hg) ?_
  refine tn_getI (ci := 1) (i := 3) (n := 8) (t := σ.2.1 8 g) dX4_rowsNeeded_21 rfl lay_1 (by decide) fl4_108 hk3o rfl rfl (rfl) ?_
  have g7 : ((0 : Int) ≤ σ.2.1 8 g ∧ σ.2.1 8 g ≤ 4) := wf_8 hw hk3o
  refine tn_iadd dX4_rowsNeeded_24 ?_
  refine tn_istore_n (L' := [(1, .int (iI (((3 + (σ.2.1 6 g)) + (σ.2.1 7 g)) + (σ.2.1 8 g)))), (0, .ref a)]) dX4_rowsNeeded_25 rfl (by decide) rfl ?_
  refine tn_iconst dX4_rowsNeeded_26 ?_
  refine tn_istore_n (L' := [(2, .int (iI 0)), (1, .int (iI (((3 + (σ.2.1 6 g)) + (σ.2.1 7 g)) + (σ.2.1 8 g)))), (0, .ref a)]) dX4_rowsNeeded_27 rfl (by decide) rfl ?_
  refine tn_sub [2, 1, 0] rfl (l_X4_rowsNeeded_x_28 (d) (T := T) (σ := σ) (a := a) (g := g) (y := y) (ng := ng) (Wg := (Wg)) (Ng := Ng) (fl := fl) (xa := xa) (La := (La)) (P := P) (yh := yh) (Rg := (Rg)) ha hw (by omega) (hg) (hy) (hng) hWg (hNg) (hfl) (hxa) hLa (hP) (hyh) hRg hN (fun i18 i29 r15 r16 f17 f18 f19 => ?_) _ (((3 + (σ.2.1 6 g)) + (σ.2.1 7 g)) + (σ.2.1 8 g)) (0) (by omega) (by omega) (by rw [cN_z, cN_z]; omega) (by omega) rfl)
  show Tn _ _ 67 T σ [(0, .ref a), (1, .int (iI i18)), (2, .int (iI i29))] [] _
  refine tn_iconst dX4_rowsNeeded_67 ?_
  refine tn_istore_n (L' := [(2, .int (iI 0)), (0, .ref a), (1, .int (iI i18))]) dX4_rowsNeeded_68 rfl (by decide) rfl ?_
  refine tn_sub [1, 2, 0] rfl (l_X4_rowsNeeded_x_69 (d) (T := T) (σ := σ) (a := a) (g := g) (y := y) (ng := ng) (Wg := (Wg)) (Ng := Ng) (fl := fl) (xa := xa) (La := (La)) (P := P) (yh := yh) (Rg := (Rg)) ha hw (hg) (hy) (hng) hWg (hNg) (hfl) (hxa) hLa (hP) (hyh) hRg hN (fun i120 i221 r27 r28 f29 f30 f31 => ?_) _ (i18) (0) (by omega) (by omega) f19 (by omega) rfl)
  show Tn _ _ 98 T σ [(0, .ref a), (1, .int (iI i120)), (2, .int (iI i221))] [] _
  refine tn_iload_n dX4_rowsNeeded_98 rfl 1 rfl ?_
  exact tn_iret rfl dX4_rowsNeeded_99 ⟨_, rfl, rfl, rfl, by omega, f31⟩
end
section
set_option maxHeartbeats 1000000 in
set_option maxRecDepth 20000 in
theorem k_X4_shiftOf_x (d : Nat) {T : CT} {σ : MS} {a : Nat} {k : Int} {base : Int} {lb : Int} {fb : Int} (ha : OB T a 4) (h_k : -2147483648 ≤ k ∧ k ≤ 2147483647) (hw : WT T σ) (hbase : σ.2.1 27 a = base) (hlb : σ.2.1 28 a = lb) (hfb : σ.2.1 29 a = fb) (hk : 0 ≤ k) : Tn (d + 2) m_X4_shiftOf 0 T σ [(0, .ref a), (1, .int (iI k))] [] (fun ro T2 σ2 => ∃ v : Int, ro = some (.int (iI v)) ∧ T = T2 ∧ σ = σ2 ∧ (-2147483648 ≤ v ∧ v ≤ 2147483647) ∧ (v = shF fb base lb k)) := by
  refine tn_iload_n dX4_shiftOf_0 rfl 1 rfl ?_
  refine tn_callSN (M := m_X4_shiftOf) (pc := 1) (ix := 164) (M' := m_X11_isPure) (As := [.int (iI k)]) (rest := []) dX4_shiftOf_1 ok_X11_isPure stt_X11_isPure nl4_164 np_X11_isPure rfl (Nat.le_of_ble_eq_true rfl) (Nat.le_of_ble_eq_true rfl) rfl (k_X11_isPure_x (d) (T := T) (σ := σ) (k := k) (by omega) hw ) (fun r1 T3 σ2 gt4 hp => ?_)
  obtain ⟨v7, rfl, rfl, rfl, f5, f6⟩ := hp
  clear gt4
  show Tn _ _ 4 T σ [(0, .ref a), (1, .int (iI k))] [.int (iI v7)] _
  refine tn_if_eq (tgt := 12) dX4_shiftOf_4 (by decide) ⟨by omega, by omega⟩ (fun h8 => ?_) (fun h8 => ?_)
  · refine tn_iload_n dX4_shiftOf_12 rfl 1 rfl ?_
    refine tn_bipush dX4_shiftOf_13 (by decide) ?_
    refine tn_icmp_eq (tgt := 30) dX4_shiftOf_15 (by decide) ⟨by omega, by omega⟩ ⟨by decide, by decide⟩ (fun h9 => ?_) (fun h9 => ?_)
    · refine tn_aload_n dX4_shiftOf_30 rfl 0 rfl ?_
      refine tn_getI (ci := 4) (i := 5) (n := 28) (t := σ.2.1 28 a) dX4_shiftOf_31 rfl lay_4 (by decide) fl4_63 ha rfl rfl (rfl) ?_
      have g10 : ((-2147483648 : Int) ≤ σ.2.1 28 a ∧ σ.2.1 28 a ≤ 2147483647) := wf_28 hw ha
      exact tn_iret rfl dX4_shiftOf_34 ⟨_, rfl, rfl, rfl, by omega, by unfold shF; (repeat' split) <;> omega⟩
    · refine tn_iload_n dX4_shiftOf_18 rfl 1 rfl ?_
      refine tn_bipush dX4_shiftOf_19 (by decide) ?_
      refine tn_icmp_eq (tgt := 30) dX4_shiftOf_21 (by decide) ⟨by omega, by omega⟩ ⟨by decide, by decide⟩ (fun h11 => ?_) (fun h11 => ?_)
      · refine tn_aload_n dX4_shiftOf_30 rfl 0 rfl ?_
        refine tn_getI (ci := 4) (i := 5) (n := 28) (t := σ.2.1 28 a) dX4_shiftOf_31 rfl lay_4 (by decide) fl4_63 ha rfl rfl (rfl) ?_
        have g12 : ((-2147483648 : Int) ≤ σ.2.1 28 a ∧ σ.2.1 28 a ≤ 2147483647) := wf_28 hw ha
        exact tn_iret rfl dX4_shiftOf_34 ⟨_, rfl, rfl, rfl, by omega, by unfold shF; (repeat' split) <;> omega⟩
      · refine tn_iload_n dX4_shiftOf_24 rfl 1 rfl ?_
        refine tn_bipush dX4_shiftOf_25 (by decide) ?_
        refine tn_icmp_ne (tgt := 35) dX4_shiftOf_27 (by decide) ⟨by omega, by omega⟩ ⟨by decide, by decide⟩ (fun h13 => ?_) (fun h13 => ?_)
        · refine tn_iload_n dX4_shiftOf_35 rfl 1 rfl ?_
          refine tn_bipush dX4_shiftOf_36 (by decide) ?_
          refine tn_icmp_eq (tgt := 47) dX4_shiftOf_38 (by decide) ⟨by omega, by omega⟩ ⟨by decide, by decide⟩ (fun h14 => ?_) (fun h14 => ?_)
          · refine tn_aload_n dX4_shiftOf_47 rfl 0 rfl ?_
            refine tn_getI (ci := 4) (i := 6) (n := 29) (t := σ.2.1 29 a) dX4_shiftOf_48 rfl lay_4 (by decide) fl4_69 ha rfl rfl (rfl) ?_
            have g15 : ((-2147483648 : Int) ≤ σ.2.1 29 a ∧ σ.2.1 29 a ≤ 2147483647) := wf_29 hw ha
            refine tn_goto (tgt := 55) dX4_shiftOf_51 (by decide) ?_
            exact tn_iret rfl dX4_shiftOf_55 ⟨_, rfl, rfl, rfl, by omega, by unfold shF; (repeat' split) <;> omega⟩
          · refine tn_iload_n dX4_shiftOf_41 rfl 1 rfl ?_
            refine tn_bipush dX4_shiftOf_42 (by decide) ?_
            refine tn_icmp_ne (tgt := 54) dX4_shiftOf_44 (by decide) ⟨by omega, by omega⟩ ⟨by decide, by decide⟩ (fun h16 => ?_) (fun h16 => ?_)
            · refine tn_iconst dX4_shiftOf_54 ?_
              exact tn_iret rfl dX4_shiftOf_55 ⟨_, rfl, rfl, rfl, by omega, by unfold shF; (repeat' split) <;> omega⟩
            · refine tn_aload_n dX4_shiftOf_47 rfl 0 rfl ?_
              refine tn_getI (ci := 4) (i := 6) (n := 29) (t := σ.2.1 29 a) dX4_shiftOf_48 rfl lay_4 (by decide) fl4_69 ha rfl rfl (rfl) ?_
              have g17 : ((-2147483648 : Int) ≤ σ.2.1 29 a ∧ σ.2.1 29 a ≤ 2147483647) := wf_29 hw ha
              refine tn_goto (tgt := 55) dX4_shiftOf_51 (by decide) ?_
              exact tn_iret rfl dX4_shiftOf_55 ⟨_, rfl, rfl, rfl, by omega, by unfold shF; (repeat' split) <;> omega⟩
        · refine tn_aload_n dX4_shiftOf_30 rfl 0 rfl ?_
          refine tn_getI (ci := 4) (i := 5) (n := 28) (t := σ.2.1 28 a) dX4_shiftOf_31 rfl lay_4 (by decide) fl4_63 ha rfl rfl (rfl) ?_
          have g18 : ((-2147483648 : Int) ≤ σ.2.1 28 a ∧ σ.2.1 28 a ≤ 2147483647) := wf_28 hw ha
          exact tn_iret rfl dX4_shiftOf_34 ⟨_, rfl, rfl, rfl, by omega, by unfold shF; (repeat' split) <;> omega⟩
  · refine tn_aload_n dX4_shiftOf_7 rfl 0 rfl ?_
    refine tn_getI (ci := 4) (i := 4) (n := 27) (t := σ.2.1 27 a) dX4_shiftOf_8 rfl lay_4 (by decide) fl4_57 ha rfl rfl (rfl) ?_
    have g19 : ((-2147483648 : Int) ≤ σ.2.1 27 a ∧ σ.2.1 27 a ≤ 2147483647) := wf_27 hw ha
    exact tn_iret rfl dX4_shiftOf_11 ⟨_, rfl, rfl, rfl, by omega, by unfold shF; (repeat' split) <;> omega⟩
end
section
set_option maxHeartbeats 1000000 in
set_option maxRecDepth 20000 in
theorem k_X4_addRow_x (d : Nat) {T : CT} {σ : MS} {a : Nat} {p1 : Int} {p2 : Int} {p3 : Int} {h : Nat} {x : Nat} {n : Int} {W : Int → It} {rz : Int} (ha : OB T a 4) (h_p1 : -2147483648 ≤ p1 ∧ p1 ≤ 2147483647) (h_p2 : -2147483648 ≤ p2 ∧ p2 ≤ 2147483647) (h_p3 : -2147483648 ≤ p3 ∧ p3 ≤ 2147483647) (hw : WT T σ) (hh : σ.2.1 25 a = (h : Int)) (hx : σ.2.1 5 h = (x : Int)) (hn : σ.2.1 6 h = n) (hW : cW σ x n = W) (hrz : σ.2.1 32 a = rz) (hN : n ≤ 200) (hro : 0 ≤ rz ∧ rz < n) : Tn (d + 2) m_X4_addRow 0 T σ [(0, .ref a), (1, .int (iI p1)), (2, .int (iI p2)), (3, .int (iI p3))] [] (fun ro T2 σ2 => ro = none ∧ T = T2 ∧ WT T2 σ2 ∧ FrC T [32] σ σ2 ∧ (CHX [(32, a)] [x] [] σ σ2) ∧ (cW σ2 x n = uZ W rz (uZ (uZ (uZ (W rz) 0 p1) 1 p2) 2 p3)) ∧ (σ2.2.1 32 a = rz + 1)) := by
  refine tn_aload_n dX4_addRow_0 rfl 0 rfl ?_
  have hk3 : (T h).1 = 50 := ob_of ((wf_25 hw ha).resolve_left (by omega)) hh
  have hk3o : OB T h 1 := ⟨by omega, by rw [hk3]; rfl, by omega⟩
  refine tn_getR (ci := 4) (i := 2) (n := 25) (x := h) dX4_addRow_1 rfl lay_4 (by decide) fl4_19 ha rfl rfl (hh) ?_
  refine tn_aload_n dX4_addRow_4 rfl 0 rfl ?_
  refine tn_getI (ci := 4) (i := 9) (n := 32) (t := σ.2.1 32 a) dX4_addRow_5 rfl lay_4 (by decide) fl4_96 ha rfl rfl (rfl) ?_
  have g5 : ((-2147483648 : Int) ≤ σ.2.1 32 a ∧ σ.2.1 32 a ≤ 2147483647) := wf_32 hw ha
  refine tn_iconst dX4_addRow_8 ?_
  refine tn_iload_n dX4_addRow_9 rfl 1 rfl ?_
  obtain ⟨hl9, hk8a, hk8b⟩ := cel_of (wf_5 hw hk3o) hx
  have hk8 : (T x).1 = 1 := hk8a (by omega)
  clear hk8a hk8b
  have hk8i : IA T x := by unfold IA; omega
  refine tn_callV (M := m_X4_addRow) (pc := 10) (ix := 144) (ci := 1) (M' := m_X1_set) (As := [.int (iI (σ.2.1 32 a)), .int (iI 0), .int (iI p1)]) (rest := []) dX4_addRow_10 ok_X1_set im_X1_set se_X1_set ml4_144 np_X1_set rfl rfl hk3o rfl (Nat.le_of_ble_eq_true rfl) (Nat.le_of_ble_eq_true rfl) rfl (k_X1_set_x (d) (T := T) (σ := σ) (a := h) (k := σ.2.1 32 a) (c := 0) (y := p1) (x := x) (n := n) (W := W) hk3o (by omega) (by decide) (by omega) hw (hx) (hn) hW (by omega) (by omega) (by omega) (by omega)) (fun r10 T12 σ11 gt13 hp => ?_)
  obtain ⟨rfl, rfl, w17, F18, f14, f15⟩ := hp
  clear gt13
  show Tn _ _ 13 T σ11 [(0, .ref a), (1, .int (iI p1)), (2, .int (iI p2)), (3, .int (iI p3))] [] _
  refine tn_aload_n dX4_addRow_13 rfl 0 rfl ?_
  refine tn_getR (ci := 4) (i := 2) (n := 25) (x := h) dX4_addRow_14 rfl lay_4 (by decide) fl4_19 ha rfl rfl (rc_F F18 (Or.inl (by decide)) (by decide) (hh)) ?_
  refine tn_aload_n dX4_addRow_17 rfl 0 rfl ?_
  refine tn_getI (ci := 4) (i := 9) (n := 32) (t := σ.2.1 32 a) dX4_addRow_18 rfl lay_4 (by decide) fl4_96 ha rfl rfl (rc_F F18 (Or.inl (by decide)) (by decide) (rfl)) ?_
  refine tn_iconst dX4_addRow_21 ?_
  refine tn_iload_n dX4_addRow_22 rfl 2 rfl ?_
  refine tn_callV (M := m_X4_addRow) (pc := 23) (ix := 144) (ci := 1) (M' := m_X1_set) (As := [.int (iI (σ.2.1 32 a)), .int (iI 1), .int (iI p2)]) (rest := []) dX4_addRow_23 ok_X1_set im_X1_set se_X1_set ml4_144 np_X1_set rfl rfl hk3o rfl (Nat.le_of_ble_eq_true rfl) (Nat.le_of_ble_eq_true rfl) rfl (k_X1_set_x (d) (T := T) (σ := σ11) (a := h) (k := σ.2.1 32 a) (c := 1) (y := p2) (x := x) (n := n) (W := cW σ11 x n) hk3o (by omega) (by decide) (by omega) w17 (rc_F F18 (Or.inl (by decide)) (by decide) (hx)) (rc_F F18 (Or.inl (by decide)) (by decide) (hn)) rfl (by omega) (by omega) (by omega) (by omega)) (fun r19 T21 σ20 gt22 hp => ?_)
  obtain ⟨rfl, rfl, w26, F27, f23, f24⟩ := hp
  clear gt22
  show Tn _ _ 26 T σ20 [(0, .ref a), (1, .int (iI p1)), (2, .int (iI p2)), (3, .int (iI p3))] [] _
  refine tn_aload_n dX4_addRow_26 rfl 0 rfl ?_
  refine tn_getR (ci := 4) (i := 2) (n := 25) (x := h) dX4_addRow_27 rfl lay_4 (by decide) fl4_19 ha rfl rfl (rc_F F27 (Or.inl (by decide)) (by decide) (rc_F F18 (Or.inl (by decide)) (by decide) (hh))) ?_
  refine tn_aload_n dX4_addRow_30 rfl 0 rfl ?_
  refine tn_getI (ci := 4) (i := 9) (n := 32) (t := σ.2.1 32 a) dX4_addRow_31 rfl lay_4 (by decide) fl4_96 ha rfl rfl (rc_F F27 (Or.inl (by decide)) (by decide) (rc_F F18 (Or.inl (by decide)) (by decide) (rfl))) ?_
  refine tn_iconst dX4_addRow_34 ?_
  refine tn_iload_n dX4_addRow_35 rfl 3 rfl ?_
  refine tn_callV (M := m_X4_addRow) (pc := 36) (ix := 144) (ci := 1) (M' := m_X1_set) (As := [.int (iI (σ.2.1 32 a)), .int (iI 2), .int (iI p3)]) (rest := []) dX4_addRow_36 ok_X1_set im_X1_set se_X1_set ml4_144 np_X1_set rfl rfl hk3o rfl (Nat.le_of_ble_eq_true rfl) (Nat.le_of_ble_eq_true rfl) rfl (k_X1_set_x (d) (T := T) (σ := σ20) (a := h) (k := σ.2.1 32 a) (c := 2) (y := p3) (x := x) (n := n) (W := cW σ20 x n) hk3o (by omega) (by decide) (by omega) w26 (rc_F F27 (Or.inl (by decide)) (by decide) (rc_F F18 (Or.inl (by decide)) (by decide) (hx))) (rc_F F27 (Or.inl (by decide)) (by decide) (rc_F F18 (Or.inl (by decide)) (by decide) (hn))) rfl (by omega) (by omega) (by omega) (by omega)) (fun r28 T30 σ29 gt31 hp => ?_)
  obtain ⟨rfl, rfl, w35, F36, f32, f33⟩ := hp
  clear gt31
  show Tn _ _ 39 T σ29 [(0, .ref a), (1, .int (iI p1)), (2, .int (iI p2)), (3, .int (iI p3))] [] _
  refine tn_aload_n dX4_addRow_39 rfl 0 rfl ?_
  refine tn_dup dX4_addRow_40 rfl ?_
  refine tn_getI (ci := 4) (i := 9) (n := 32) (t := σ.2.1 32 a) dX4_addRow_41 rfl lay_4 (by decide) fl4_96 ha rfl rfl (rc_F F36 (Or.inl (by decide)) (by decide) (rc_F F27 (Or.inl (by decide)) (by decide) (rc_F F18 (Or.inl (by decide)) (by decide) (rfl)))) ?_
  refine tn_iconst dX4_addRow_44 ?_
  refine tn_iadd dX4_addRow_45 ?_
  refine tn_putV (ci := 4) (i := 9) (n := 32) (r := false) (v := (σ.2.1 32 a) + 1) tyX4 tyX4_ok nmX4 dX4_addRow_46 rfl lay_4 (by decide) fl4_96 rfl (tyX4_ok 9 (by decide)) rfl rfl rfl ha rfl rfl ?_
  have cv37 : cW (sA 32 a ((σ.2.1 32 a) + 1) σ29) x n = cW σ29 x n := (cW_fld (by decide)).trans (rfl)
  exact tn_vret rfl dX4_addRow_49 ⟨rfl, rfl, (w35.put (by decide) (by decide) (fo_32 (by omega))), ((((FrC.rfl.trans (FrC.sub F18 (by decide))).trans (FrC.sub F27 (by decide))).trans (FrC.sub F36 (by decide))).put (by decide) (by decide)), ((((CHX.rfl.trans (CHX.sub f14 (by simp) (by simp) (by simp))).trans (CHX.sub f23 (by simp) (by simp) (by simp))).trans (CHX.sub f32 (by simp) (by simp) (by simp))).fld (by simp) (by decide)), (by rw [cv37]; rw [← hrz]; exact it_s (it_s f15 f24) f33), ((show (sA 32 a ((σ.2.1 32 a) + 1) σ29).2.1 32 a = (σ.2.1 32 a) + 1 from ra_eq).trans (by omega))⟩
end
section
set_option maxHeartbeats 1000000 in
set_option maxRecDepth 20000 in
theorem k_X4_addCopy_x (d : Nat) {T : CT} {σ : MS} {a : Nat} {p1 : Int} {p2 : Int} {p3 : Int} {h : Nat} {x : Nat} {n : Int} {W : Int → It} {rz : Int} (ha : OB T a 4) (h_p1 : -2147483648 ≤ p1 ∧ p1 ≤ 2147483647) (h_p2 : -2147483648 ≤ p2 ∧ p2 ≤ 2147483647) (h_p3 : -2147483648 ≤ p3 ∧ p3 ≤ 2147483647) (hw : WT T σ) (hh : σ.2.1 25 a = (h : Int)) (hx : σ.2.1 5 h = (x : Int)) (hn : σ.2.1 6 h = n) (hW : cW σ x n = W) (hrz : σ.2.1 32 a = rz) (hN : n ≤ 200) (hro : 0 ≤ rz ∧ rz < n) : Tn (d + 3) m_X4_addCopy 0 T σ [(0, .ref a), (1, .int (iI p1)), (2, .int (iI p2)), (3, .int (iI p3))] [] (fun ro T2 σ2 => ro = none ∧ T = T2 ∧ WT T2 σ2 ∧ FrC T [32] σ σ2 ∧ (CHX [(32, a)] [x] [] σ σ2) ∧ (cW σ2 x n = uZ W rz (uZ (uZ (uZ (uZ (uZ (W rz) 3 p2) 4 p3) 0 0) 1 p1) 2 0)) ∧ (σ2.2.1 32 a = rz + 1)) := by
  refine tn_aload_n dX4_addCopy_0 rfl 0 rfl ?_
  have hk3 : (T h).1 = 50 := ob_of ((wf_25 hw ha).resolve_left (by omega)) hh
  have hk3o : OB T h 1 := ⟨by omega, by rw [hk3]; rfl, by omega⟩
  refine tn_getR (ci := 4) (i := 2) (n := 25) (x := h) dX4_addCopy_1 rfl lay_4 (by decide) fl4_19 ha rfl rfl (hh) ?_
  refine tn_aload_n dX4_addCopy_4 rfl 0 rfl ?_
  refine tn_getI (ci := 4) (i := 9) (n := 32) (t := σ.2.1 32 a) dX4_addCopy_5 rfl lay_4 (by decide) fl4_96 ha rfl rfl (rfl) ?_
  have g5 : ((-2147483648 : Int) ≤ σ.2.1 32 a ∧ σ.2.1 32 a ≤ 2147483647) := wf_32 hw ha
  refine tn_iconst dX4_addCopy_8 ?_
  refine tn_iload_n dX4_addCopy_9 rfl 2 rfl ?_
  obtain ⟨hl9, hk8a, hk8b⟩ := cel_of (wf_5 hw hk3o) hx
  have hk8 : (T x).1 = 1 := hk8a (by omega)
  clear hk8a hk8b
  have hk8i : IA T x := by unfold IA; omega
  refine tn_callV (M := m_X4_addCopy) (pc := 10) (ix := 144) (ci := 1) (M' := m_X1_set) (As := [.int (iI (σ.2.1 32 a)), .int (iI 3), .int (iI p2)]) (rest := []) dX4_addCopy_10 ok_X1_set im_X1_set se_X1_set ml4_144 np_X1_set rfl rfl hk3o rfl (Nat.le_of_ble_eq_true rfl) (Nat.le_of_ble_eq_true rfl) rfl (k_X1_set_x (d + 1) (T := T) (σ := σ) (a := h) (k := σ.2.1 32 a) (c := 3) (y := p2) (x := x) (n := n) (W := W) hk3o (by omega) (by decide) (by omega) hw (hx) (hn) hW (by omega) (by omega) (by omega) (by omega)) (fun r10 T12 σ11 gt13 hp => ?_)
  obtain ⟨rfl, rfl, w17, F18, f14, f15⟩ := hp
  clear gt13
  show Tn _ _ 13 T σ11 [(0, .ref a), (1, .int (iI p1)), (2, .int (iI p2)), (3, .int (iI p3))] [] _
  refine tn_aload_n dX4_addCopy_13 rfl 0 rfl ?_
  refine tn_getR (ci := 4) (i := 2) (n := 25) (x := h) dX4_addCopy_14 rfl lay_4 (by decide) fl4_19 ha rfl rfl (rc_F F18 (Or.inl (by decide)) (by decide) (hh)) ?_
  refine tn_aload_n dX4_addCopy_17 rfl 0 rfl ?_
  refine tn_getI (ci := 4) (i := 9) (n := 32) (t := σ.2.1 32 a) dX4_addCopy_18 rfl lay_4 (by decide) fl4_96 ha rfl rfl (rc_F F18 (Or.inl (by decide)) (by decide) (rfl)) ?_
  refine tn_iconst dX4_addCopy_21 ?_
  refine tn_iload_n dX4_addCopy_22 rfl 3 rfl ?_
  refine tn_callV (M := m_X4_addCopy) (pc := 23) (ix := 144) (ci := 1) (M' := m_X1_set) (As := [.int (iI (σ.2.1 32 a)), .int (iI 4), .int (iI p3)]) (rest := []) dX4_addCopy_23 ok_X1_set im_X1_set se_X1_set ml4_144 np_X1_set rfl rfl hk3o rfl (Nat.le_of_ble_eq_true rfl) (Nat.le_of_ble_eq_true rfl) rfl (k_X1_set_x (d + 1) (T := T) (σ := σ11) (a := h) (k := σ.2.1 32 a) (c := 4) (y := p3) (x := x) (n := n) (W := cW σ11 x n) hk3o (by omega) (by decide) (by omega) w17 (rc_F F18 (Or.inl (by decide)) (by decide) (hx)) (rc_F F18 (Or.inl (by decide)) (by decide) (hn)) rfl (by omega) (by omega) (by omega) (by omega)) (fun r19 T21 σ20 gt22 hp => ?_)
  obtain ⟨rfl, rfl, w26, F27, f23, f24⟩ := hp
  clear gt22
  show Tn _ _ 26 T σ20 [(0, .ref a), (1, .int (iI p1)), (2, .int (iI p2)), (3, .int (iI p3))] [] _
  refine tn_aload_n dX4_addCopy_26 rfl 0 rfl ?_
  refine tn_iconst dX4_addCopy_27 ?_
  refine tn_iload_n dX4_addCopy_28 rfl 1 rfl ?_
  refine tn_iconst dX4_addCopy_29 ?_
  refine tn_callV (M := m_X4_addCopy) (pc := 30) (ix := 148) (ci := 4) (M' := m_X4_addRow) (As := [.int (iI 0), .int (iI p1), .int (iI 0)]) (rest := []) dX4_addCopy_30 ok_X4_addRow im_X4_addRow se_X4_addRow ml4_148 np_X4_addRow rfl rfl ha rfl (Nat.le_of_ble_eq_true rfl) (Nat.le_of_ble_eq_true rfl) rfl (k_X4_addRow_x (d) (T := T) (σ := σ20) (a := a) (p1 := 0) (p2 := p1) (p3 := 0) (h := h) (x := x) (n := n) (W := cW σ20 x n) (rz := rz) ha (by decide) (by omega) (by decide) w26 (rc_F F27 (Or.inl (by decide)) (by decide) (rc_F F18 (Or.inl (by decide)) (by decide) (hh))) (rc_F F27 (Or.inl (by decide)) (by decide) (rc_F F18 (Or.inl (by decide)) (by decide) (hx))) (rc_F F27 (Or.inl (by decide)) (by decide) (rc_F F18 (Or.inl (by decide)) (by decide) (hn))) rfl (rc_F F27 (Or.inl (by decide)) (by decide) (rc_F F18 (Or.inl (by decide)) (by decide) (hrz))) (by omega) (by omega)) (fun r28 T30 σ29 gt31 hp => ?_)
  obtain ⟨rfl, rfl, w36, F37, f32, f33, f34⟩ := hp
  clear gt31
  show Tn _ _ 33 T σ29 [(0, .ref a), (1, .int (iI p1)), (2, .int (iI p2)), (3, .int (iI p3))] [] _
  exact tn_vret rfl dX4_addCopy_33 ⟨rfl, rfl, w36, (((FrC.rfl.trans (FrC.sub F18 (by decide))).trans (FrC.sub F27 (by decide))).trans (FrC.sub F37 (by decide))), (((CHX.rfl.trans (CHX.sub f14 (by simp) (by simp) (by simp))).trans (CHX.sub f23 (by simp) (by simp) (by simp))).trans (CHX.sub f32 (by simp) (by simp) (by simp))), (by have z1 := f15; (first | rw [hrz] at z1 | skip); have z2 := f24; (first | rw [hrz] at z2 | skip); have z3 := f33; (first | rw [hrz] at z3 | skip); exact it_3 (it_s z1 z2) z3), (f34.trans (by omega))⟩
end
section
set_option maxHeartbeats 1000000 in
set_option maxRecDepth 20000 in
theorem l_X4_addItem_x_24 (d : Nat) {T : CT} {σ0 : MS} {a : Nat} {c1 : Int} {c2 : Int} {c3 : Int} {W1 : Int → It} {h : Nat} {x : Nat} {n : Int} {W : Int → It} {g : Nat} {y : Nat} {ng : Int} {Wg : Int → It} {rz : Int} {base : Int} {lb : Int} {fb : Int} {post : Option Value → CT → MS → Prop} (h_a : OB T a 4) (r_c1 : 0 ≤ c1 ∧ c1 ≤ 200) (r_c2 : -2147483648 ≤ c2 ∧ c2 ≤ 2147483647) (r_c3 : -2147483648 ≤ c3 ∧ c3 ≤ 2147483647) (hw0 : WT T σ0) (hk : 0 ≤ c1 ∧ c1 < ng) (hkw : c2 = Wg c1 0 ∧ c3 = Wg c1 11) (hro : 0 ≤ rz ∧ rz < n) (hh : σ0.2.1 25 a = (h : Int)) (hx : σ0.2.1 5 h = (x : Int)) (hn : σ0.2.1 6 h = n) (hg : σ0.2.1 26 a = (g : Int)) (hy : σ0.2.1 5 g = (y : Int)) (hng : σ0.2.1 6 g = ng) (hWg : cW σ0 y ng = Wg) (hrz : σ0.2.1 32 a = rz) (hbase : σ0.2.1 27 a = base) (hlb : σ0.2.1 28 a = lb) (hfb : σ0.2.1 29 a = fb) (hN : n ≤ 200) (hgk : GOK Wg ng) (har : (0 ≤ base ∧ base ≤ 1000) ∧ (0 ≤ lb ∧ lb ≤ 10100) ∧ 0 ≤ fb ∧ fb ≤ 12) (hne : x ≠ y) (hN2 : ng ≤ 200) (hx_139 : ∀ (i4 : Int) (σ : MS) , (WT T σ) → (FrC T [] σ0 σ) → (3 ≤ i4 ∧ i4 ≤ 11) → (CHX [] [x] [] σ0 σ) → (AIP W1 (cW σ x n) base (Wg c1) rz i4) → (3 ≤ i4 ∧ i4 ≤ 11) → (11 ≤ i4) → Tn (d + 3) m_X4_addItem 139 T σ [(0, .ref a), (1, .int (iI c1)), (2, .int (iI c2)), (3, .int (iI c3)), (4, .int (iI i4))] [] post) : ∀ (nq9 : Nat) (i4 : Int) (σ : MS) , (WT T σ) → (FrC T [] σ0 σ) → (3 ≤ i4 ∧ i4 ≤ 11) → (CHX [] [x] [] σ0 σ) → (AIP W1 (cW σ x n) base (Wg c1) rz i4) → (3 ≤ i4 ∧ i4 ≤ 11) → (2147483700 - i4).toNat = nq9 → Tn (d + 3) m_X4_addItem 24 T σ [(0, .ref a), (1, .int (iI c1)), (2, .int (iI c2)), (3, .int (iI c3)), (4, .int (iI i4))] [] post := by
  intro nq9
  induction nq9 using Nat.strongRecOn with
  | _ nq9 ih =>
    intro i4 σ hw hF r_i4 hC hA h4 hm
    have hAn := hA.num
    refine tn_iload dX4_addItem_24 4 rfl ?_
    refine tn_bipush dX4_addItem_26 (by decide) ?_
    refine tn_icmp_ge (tgt := 139) dX4_addItem_28 (by decide) ⟨by omega, by omega⟩ ⟨by decide, by decide⟩ (fun h1 => ?_) (fun h1 => ?_)
    · exact tn_sub [0, 1, 2, 3, 4] rfl (hx_139 (i4) σ hw (FrC.rfl.trans (FrC.sub hF (by decide))) (by omega) hC hA (by omega) (by omega))
    · refine tn_aload_n dX4_addItem_31 rfl 0 rfl ?_
      have hk4 : (T g).1 = 50 := ob_of ((wf_26 hw0 h_a).resolve_left (by omega)) hg
      have hk4o : OB T g 1 := ⟨by omega, by rw [hk4]; rfl, by omega⟩
      refine tn_getR (ci := 4) (i := 3) (n := 26) (x := g) dX4_addItem_32 rfl lay_4 (by decide) fl4_33 h_a rfl rfl (rc_F hF (Or.inl (by decide)) (by decide) (hg)) ?_
      refine tn_iload_n dX4_addItem_35 rfl 1 rfl ?_
      refine tn_iload dX4_addItem_36 4 rfl ?_
      obtain ⟨hl9, hk8a, hk8b⟩ := cel_of (wf_5 hw0 hk4o) hy
      have hk8 : (T y).1 = 1 := hk8a (by omega)
      clear hk8a hk8b
      have hk8i : IA T y := by unfold IA; omega
      have cv10 : cW σ y ng = Wg := (cW_row (CHX.r hC (by first | (simp; done) | (simp only [List.mem_cons, List.not_mem_nil, or_false, not_or]; first | omega | ((repeat' apply And.intro) <;> first | assumption | (apply Ne.symm; assumption)))))).trans (hWg)
      refine tn_callV (M := m_X4_addItem) (pc := 38) (ix := 29) (ci := 1) (M' := m_X1_get) (As := [.int (iI c1), .int (iI i4)]) (rest := []) dX4_addItem_38 ok_X1_get im_X1_get se_X1_get ml4_29 np_X1_get rfl rfl hk4o rfl (Nat.le_of_ble_eq_true rfl) (Nat.le_of_ble_eq_true rfl) rfl (k_X1_get_x (d + 1) (T := T) (σ := σ) (a := g) (k := c1) (c := i4) (x := y) (n := ng) (W := Wg) hk4o (by omega) (by omega) hw (rc_F hF (Or.inl (by decide)) (by decide) (hy)) (rc_F hF (Or.inl (by decide)) (by decide) (hng)) cv10 (by omega) (by omega)) (fun r11 T13 σ12 gt14 hp => ?_)
      obtain ⟨v17, rfl, rfl, rfl, f15, f16⟩ := hp
      clear gt14
      show Tn _ _ 41 T σ [(0, .ref a), (1, .int (iI c1)), (2, .int (iI c2)), (3, .int (iI c3)), (4, .int (iI i4))] [.int (iI v17)] _
      refine tn_iconst dX4_addItem_41 ?_
      refine tn_icmp_eq (tgt := 62) dX4_addItem_42 (by decide) ⟨by omega, by omega⟩ ⟨by decide, by decide⟩ (fun h18 => ?_) (fun h18 => ?_)
      · refine tn_iconst dX4_addItem_62 ?_
        refine tn_goto (tgt := 67) dX4_addItem_63 (by decide) ?_
        refine tn_istore (L' := [(5, .int (iI 1)), (0, .ref a), (1, .int (iI c1)), (2, .int (iI c2)), (3, .int (iI c3)), (4, .int (iI i4))]) dX4_addItem_67 (by decide) rfl ?_
        refine tn_aload_n dX4_addItem_69 rfl 1 rfl ?_
        have hk21 : (T h).1 = 50 := ob_of ((wf_25 hw0 h_a).resolve_left (by omega)) hh
        have hk21o : OB T h 1 := ⟨by omega, by rw [hk21]; rfl, by omega⟩
        refine tn_getR (ci := 4) (i := 2) (n := 25) (x := h) dX4_addItem_70 rfl lay_4 (by decide) fl4_19 h_a rfl rfl (rc_F hF (Or.inl (by decide)) (by decide) (hh)) ?_
        refine tn_aload_n dX4_addItem_73 rfl 1 rfl ?_
        refine tn_getI (ci := 4) (i := 9) (n := 32) (t := σ0.2.1 32 a) dX4_addItem_74 rfl lay_4 (by decide) fl4_96 h_a rfl rfl (rc_F hF (Or.inl (by decide)) (by decide) (rfl)) ?_
        have g23 : ((-2147483648 : Int) ≤ σ0.2.1 32 a ∧ σ0.2.1 32 a ≤ 2147483647) := wf_32 hw0 h_a
        refine tn_iload dX4_addItem_77 5 rfl ?_
        refine tn_aload_n dX4_addItem_79 rfl 1 rfl ?_
        refine tn_getR (ci := 4) (i := 3) (n := 26) (x := g) dX4_addItem_80 rfl lay_4 (by decide) fl4_33 h_a rfl rfl (rc_F hF (Or.inl (by decide)) (by decide) (hg)) ?_
        refine tn_iload_n dX4_addItem_83 rfl 2 rfl ?_
        refine tn_iload dX4_addItem_84 5 rfl ?_
        refine tn_callV (M := m_X4_addItem) (pc := 86) (ix := 29) (ci := 1) (M' := m_X1_get) (As := [.int (iI c1), .int (iI i4)]) (rest := [.int (iI i4), .int (iI (σ0.2.1 32 a)), .ref h]) dX4_addItem_86 ok_X1_get im_X1_get se_X1_get ml4_29 np_X1_get rfl rfl hk4o rfl (Nat.le_of_ble_eq_true rfl) (Nat.le_of_ble_eq_true rfl) rfl (k_X1_get_x (d + 1) (T := T) (σ := σ) (a := g) (k := c1) (c := i4) (x := y) (n := ng) (W := Wg) hk4o (by omega) (by omega) hw (rc_F hF (Or.inl (by decide)) (by decide) (hy)) (rc_F hF (Or.inl (by decide)) (by decide) (hng)) cv10 (by omega) (by omega)) (fun r24 T26 σ25 gt27 hp => ?_)
        obtain ⟨v30, rfl, rfl, rfl, f28, f29⟩ := hp
        clear gt27
        show Tn _ _ 89 T σ [(5, .int (iI 1)), (0, .ref a), (1, .int (iI c1)), (2, .int (iI c2)), (3, .int (iI c3)), (4, .int (iI i4))] [.int (iI v30), .int (iI i4), .int (iI (σ0.2.1 32 a)), .ref h] _
        obtain ⟨hl34, hk33a, hk33b⟩ := cel_of (wf_5 hw0 hk21o) hx
        have hk33 : (T x).1 = 1 := hk33a (by omega)
        clear hk33a hk33b
        have hk33i : IA T x := by unfold IA; omega
        refine tn_callV (M := m_X4_addItem) (pc := 89) (ix := 144) (ci := 1) (M' := m_X1_set) (As := [.int (iI (σ0.2.1 32 a)), .int (iI i4), .int (iI v30)]) (rest := []) dX4_addItem_89 ok_X1_set im_X1_set se_X1_set ml4_144 np_X1_set rfl rfl hk21o rfl (Nat.le_of_ble_eq_true rfl) (Nat.le_of_ble_eq_true rfl) rfl (k_X1_set_x (d + 1) (T := T) (σ := σ) (a := h) (k := σ0.2.1 32 a) (c := i4) (y := v30) (x := x) (n := n) (W := cW σ x n) hk21o (by omega) (by omega) (by omega) hw (rc_F hF (Or.inl (by decide)) (by decide) (hx)) (rc_F hF (Or.inl (by decide)) (by decide) (hn)) rfl (by omega) (by omega) (by omega) (by omega)) (fun r35 T37 σ36 gt38 hp => ?_)
        obtain ⟨rfl, rfl, w42, F43, f39, f40⟩ := hp
        clear gt38
        show Tn _ _ 92 T σ36 [(5, .int (iI 1)), (0, .ref a), (1, .int (iI c1)), (2, .int (iI c2)), (3, .int (iI c3)), (4, .int (iI i4))] [] _
        refine tn_aload_n dX4_addItem_92 rfl 1 rfl ?_
        refine tn_getR (ci := 4) (i := 2) (n := 25) (x := h) dX4_addItem_93 rfl lay_4 (by decide) fl4_19 h_a rfl rfl (rc_F F43 (Or.inl (by decide)) (by decide) (rc_F hF (Or.inl (by decide)) (by decide) (hh))) ?_
        refine tn_aload_n dX4_addItem_96 rfl 1 rfl ?_
        refine tn_getI (ci := 4) (i := 9) (n := 32) (t := σ0.2.1 32 a) dX4_addItem_97 rfl lay_4 (by decide) fl4_96 h_a rfl rfl (rc_F F43 (Or.inl (by decide)) (by decide) (rc_F hF (Or.inl (by decide)) (by decide) (rfl))) ?_
        refine tn_iload dX4_addItem_100 5 rfl ?_
        refine tn_iconst dX4_addItem_102 ?_
        refine tn_iadd dX4_addItem_103 ?_
        refine tn_aload_n dX4_addItem_104 rfl 1 rfl ?_
        refine tn_getR (ci := 4) (i := 3) (n := 26) (x := g) dX4_addItem_105 rfl lay_4 (by decide) fl4_33 h_a rfl rfl (rc_F F43 (Or.inl (by decide)) (by decide) (rc_F hF (Or.inl (by decide)) (by decide) (hg))) ?_
        refine tn_iload_n dX4_addItem_108 rfl 2 rfl ?_
        refine tn_iload dX4_addItem_109 5 rfl ?_
        refine tn_iconst dX4_addItem_111 ?_
        refine tn_iadd dX4_addItem_112 ?_
        have cv44 : cW σ36 y ng = Wg := (cW_row (CHX.r f39 (by first | (simp; done) | (simp only [List.mem_cons, List.not_mem_nil, or_false, not_or]; first | omega | ((repeat' apply And.intro) <;> first | assumption | (apply Ne.symm; assumption)))))).trans (cv10)
        refine tn_callV (M := m_X4_addItem) (pc := 113) (ix := 29) (ci := 1) (M' := m_X1_get) (As := [.int (iI c1), .int (iI (i4 + 1))]) (rest := [.int (iI (i4 + 1)), .int (iI (σ0.2.1 32 a)), .ref h]) dX4_addItem_113 ok_X1_get im_X1_get se_X1_get ml4_29 np_X1_get rfl rfl hk4o rfl (Nat.le_of_ble_eq_true rfl) (Nat.le_of_ble_eq_true rfl) rfl (k_X1_get_x (d + 1) (T := T) (σ := σ36) (a := g) (k := c1) (c := i4 + 1) (x := y) (n := ng) (W := Wg) hk4o (by omega) (by omega) w42 (rc_F F43 (Or.inl (by decide)) (by decide) (rc_F hF (Or.inl (by decide)) (by decide) (hy))) (rc_F F43 (Or.inl (by decide)) (by decide) (rc_F hF (Or.inl (by decide)) (by decide) (hng))) cv44 (by omega) (by omega)) (fun r45 T47 σ46 gt48 hp => ?_)
        obtain ⟨v51, rfl, rfl, rfl, f49, f50⟩ := hp
        clear gt48
        show Tn _ _ 116 T σ36 [(5, .int (iI 1)), (0, .ref a), (1, .int (iI c1)), (2, .int (iI c2)), (3, .int (iI c3)), (4, .int (iI i4))] [.int (iI v51), .int (iI (i4 + 1)), .int (iI (σ0.2.1 32 a)), .ref h] _
        refine tn_iload dX4_addItem_116 0 rfl ?_
        refine tn_if_eq (tgt := 128) dX4_addItem_118 (by decide) ⟨by decide, by decide⟩ (fun h => absurd h (by decide)) (fun _ => ?_)
        refine tn_aload_n dX4_addItem_121 rfl 1 rfl ?_
        refine tn_getI (ci := 4) (i := 4) (n := 27) (t := σ0.2.1 27 a) dX4_addItem_122 rfl lay_4 (by decide) fl4_57 h_a rfl rfl (rc_F F43 (Or.inl (by decide)) (by decide) (rc_F hF (Or.inl (by decide)) (by decide) (rfl))) ?_
        have g53 : ((-2147483648 : Int) ≤ σ0.2.1 27 a ∧ σ0.2.1 27 a ≤ 2147483647) := wf_27 hw0 h_a
        refine tn_goto (tgt := 129) dX4_addItem_125 (by decide) ?_
        have hq9 : 0 ≤ Wg c1 (i4 + 1) ∧ Wg c1 (i4 + 1) < 192 := ((hgk c1 hk.1 hk.2).1.op (c := i4) (by omega) (by omega))
        refine tn_iadd dX4_addItem_129 ?_
        refine tn_callV (M := m_X4_addItem) (pc := 130) (ix := 144) (ci := 1) (M' := m_X1_set) (As := [.int (iI (σ0.2.1 32 a)), .int (iI (i4 + 1)), .int (iI (v51 + (σ0.2.1 27 a)))]) (rest := []) dX4_addItem_130 ok_X1_set im_X1_set se_X1_set ml4_144 np_X1_set rfl rfl hk21o rfl (Nat.le_of_ble_eq_true rfl) (Nat.le_of_ble_eq_true rfl) rfl (k_X1_set_x (d + 1) (T := T) (σ := σ36) (a := h) (k := σ0.2.1 32 a) (c := i4 + 1) (y := v51 + (σ0.2.1 27 a)) (x := x) (n := n) (W := cW σ36 x n) hk21o (by omega) (by omega) (by omega) w42 (rc_F F43 (Or.inl (by decide)) (by decide) (rc_F hF (Or.inl (by decide)) (by decide) (hx))) (rc_F F43 (Or.inl (by decide)) (by decide) (rc_F hF (Or.inl (by decide)) (by decide) (hn))) rfl (by omega) (by omega) (by omega) (by omega)) (fun r54 T56 σ55 gt57 hp => ?_)
        obtain ⟨rfl, rfl, w61, F62, f58, f59⟩ := hp
        clear gt57
        show Tn _ _ 133 T σ55 [(5, .int (iI 1)), (0, .ref a), (1, .int (iI c1)), (2, .int (iI c2)), (3, .int (iI c3)), (4, .int (iI i4))] [] _
        refine tn_iinc (q0 := 5) (L' := [(4, .int (iI (i4 + 2))), (5, .int (iI 1)), (0, .ref a), (1, .int (iI c1)), (2, .int (iI c2)), (3, .int (iI c3))]) dX4_addItem_133 rfl (by decide) rfl ?_
        refine tn_goto (tgt := 24) dX4_addItem_136 (by decide) ?_
        exact tn_sub [2, 3, 4, 5, 0] rfl (ih _ (by omega) (i4 + 2) σ55 w61 (((FrC.rfl.trans (FrC.sub hF (by decide))).trans (FrC.sub F43 (by decide))).trans (FrC.sub F62 (by decide))) (by omega) ((hC.trans (CHX.sub f39 (by simp) (by simp) (by simp))).trans (CHX.sub f58 (by simp) (by simp) (by simp))) (by have z1 := f40; (first | rw [hrz] at z1 | skip); have z2 := f59; (first | rw [hrz] at z2 | skip); exact hA.step (by omega) z1 z2 (by omega) (by rw [dI_y (show rgB (Wg c1) i4 from (Or.inl (by omega)))]; omega)) (by omega) rfl)
      · refine tn_iload dX4_addItem_45 4 rfl ?_
        refine tn_iconst dX4_addItem_47 ?_
        refine tn_icmp_ne (tgt := 66) dX4_addItem_48 (by decide) ⟨by omega, by omega⟩ ⟨by decide, by decide⟩ (fun h63 => ?_) (fun h63 => ?_)
        · refine tn_iconst dX4_addItem_66 ?_
          refine tn_istore (L' := [(5, .int (iI 0)), (0, .ref a), (1, .int (iI c1)), (2, .int (iI c2)), (3, .int (iI c3)), (4, .int (iI i4))]) dX4_addItem_67 (by decide) rfl ?_
          refine tn_aload_n dX4_addItem_69 rfl 1 rfl ?_
          have hk66 : (T h).1 = 50 := ob_of ((wf_25 hw0 h_a).resolve_left (by omega)) hh
          have hk66o : OB T h 1 := ⟨by omega, by rw [hk66]; rfl, by omega⟩
          refine tn_getR (ci := 4) (i := 2) (n := 25) (x := h) dX4_addItem_70 rfl lay_4 (by decide) fl4_19 h_a rfl rfl (rc_F hF (Or.inl (by decide)) (by decide) (hh)) ?_
          refine tn_aload_n dX4_addItem_73 rfl 1 rfl ?_
          refine tn_getI (ci := 4) (i := 9) (n := 32) (t := σ0.2.1 32 a) dX4_addItem_74 rfl lay_4 (by decide) fl4_96 h_a rfl rfl (rc_F hF (Or.inl (by decide)) (by decide) (rfl)) ?_
          have g68 : ((-2147483648 : Int) ≤ σ0.2.1 32 a ∧ σ0.2.1 32 a ≤ 2147483647) := wf_32 hw0 h_a
          refine tn_iload dX4_addItem_77 5 rfl ?_
          refine tn_aload_n dX4_addItem_79 rfl 1 rfl ?_
          refine tn_getR (ci := 4) (i := 3) (n := 26) (x := g) dX4_addItem_80 rfl lay_4 (by decide) fl4_33 h_a rfl rfl (rc_F hF (Or.inl (by decide)) (by decide) (hg)) ?_
          refine tn_iload_n dX4_addItem_83 rfl 2 rfl ?_
          refine tn_iload dX4_addItem_84 5 rfl ?_
          refine tn_callV (M := m_X4_addItem) (pc := 86) (ix := 29) (ci := 1) (M' := m_X1_get) (As := [.int (iI c1), .int (iI i4)]) (rest := [.int (iI i4), .int (iI (σ0.2.1 32 a)), .ref h]) dX4_addItem_86 ok_X1_get im_X1_get se_X1_get ml4_29 np_X1_get rfl rfl hk4o rfl (Nat.le_of_ble_eq_true rfl) (Nat.le_of_ble_eq_true rfl) rfl (k_X1_get_x (d + 1) (T := T) (σ := σ) (a := g) (k := c1) (c := i4) (x := y) (n := ng) (W := Wg) hk4o (by omega) (by omega) hw (rc_F hF (Or.inl (by decide)) (by decide) (hy)) (rc_F hF (Or.inl (by decide)) (by decide) (hng)) cv10 (by omega) (by omega)) (fun r69 T71 σ70 gt72 hp => ?_)
          obtain ⟨v75, rfl, rfl, rfl, f73, f74⟩ := hp
          clear gt72
          show Tn _ _ 89 T σ [(5, .int (iI 0)), (0, .ref a), (1, .int (iI c1)), (2, .int (iI c2)), (3, .int (iI c3)), (4, .int (iI i4))] [.int (iI v75), .int (iI i4), .int (iI (σ0.2.1 32 a)), .ref h] _
          obtain ⟨hl79, hk78a, hk78b⟩ := cel_of (wf_5 hw0 hk66o) hx
          have hk78 : (T x).1 = 1 := hk78a (by omega)
          clear hk78a hk78b
          have hk78i : IA T x := by unfold IA; omega
          refine tn_callV (M := m_X4_addItem) (pc := 89) (ix := 144) (ci := 1) (M' := m_X1_set) (As := [.int (iI (σ0.2.1 32 a)), .int (iI i4), .int (iI v75)]) (rest := []) dX4_addItem_89 ok_X1_set im_X1_set se_X1_set ml4_144 np_X1_set rfl rfl hk66o rfl (Nat.le_of_ble_eq_true rfl) (Nat.le_of_ble_eq_true rfl) rfl (k_X1_set_x (d + 1) (T := T) (σ := σ) (a := h) (k := σ0.2.1 32 a) (c := i4) (y := v75) (x := x) (n := n) (W := cW σ x n) hk66o (by omega) (by omega) (by omega) hw (rc_F hF (Or.inl (by decide)) (by decide) (hx)) (rc_F hF (Or.inl (by decide)) (by decide) (hn)) rfl (by omega) (by omega) (by omega) (by omega)) (fun r80 T82 σ81 gt83 hp => ?_)
          obtain ⟨rfl, rfl, w87, F88, f84, f85⟩ := hp
          clear gt83
          show Tn _ _ 92 T σ81 [(5, .int (iI 0)), (0, .ref a), (1, .int (iI c1)), (2, .int (iI c2)), (3, .int (iI c3)), (4, .int (iI i4))] [] _
          refine tn_aload_n dX4_addItem_92 rfl 1 rfl ?_
          refine tn_getR (ci := 4) (i := 2) (n := 25) (x := h) dX4_addItem_93 rfl lay_4 (by decide) fl4_19 h_a rfl rfl (rc_F F88 (Or.inl (by decide)) (by decide) (rc_F hF (Or.inl (by decide)) (by decide) (hh))) ?_
          refine tn_aload_n dX4_addItem_96 rfl 1 rfl ?_
          refine tn_getI (ci := 4) (i := 9) (n := 32) (t := σ0.2.1 32 a) dX4_addItem_97 rfl lay_4 (by decide) fl4_96 h_a rfl rfl (rc_F F88 (Or.inl (by decide)) (by decide) (rc_F hF (Or.inl (by decide)) (by decide) (rfl))) ?_
          refine tn_iload dX4_addItem_100 5 rfl ?_
          refine tn_iconst dX4_addItem_102 ?_
          refine tn_iadd dX4_addItem_103 ?_
          refine tn_aload_n dX4_addItem_104 rfl 1 rfl ?_
          refine tn_getR (ci := 4) (i := 3) (n := 26) (x := g) dX4_addItem_105 rfl lay_4 (by decide) fl4_33 h_a rfl rfl (rc_F F88 (Or.inl (by decide)) (by decide) (rc_F hF (Or.inl (by decide)) (by decide) (hg))) ?_
          refine tn_iload_n dX4_addItem_108 rfl 2 rfl ?_
          refine tn_iload dX4_addItem_109 5 rfl ?_
          refine tn_iconst dX4_addItem_111 ?_
          refine tn_iadd dX4_addItem_112 ?_
          have cv89 : cW σ81 y ng = Wg := (cW_row (CHX.r f84 (by first | (simp; done) | (simp only [List.mem_cons, List.not_mem_nil, or_false, not_or]; first | omega | ((repeat' apply And.intro) <;> first | assumption | (apply Ne.symm; assumption)))))).trans (cv10)
          refine tn_callV (M := m_X4_addItem) (pc := 113) (ix := 29) (ci := 1) (M' := m_X1_get) (As := [.int (iI c1), .int (iI (i4 + 1))]) (rest := [.int (iI (i4 + 1)), .int (iI (σ0.2.1 32 a)), .ref h]) dX4_addItem_113 ok_X1_get im_X1_get se_X1_get ml4_29 np_X1_get rfl rfl hk4o rfl (Nat.le_of_ble_eq_true rfl) (Nat.le_of_ble_eq_true rfl) rfl (k_X1_get_x (d + 1) (T := T) (σ := σ81) (a := g) (k := c1) (c := i4 + 1) (x := y) (n := ng) (W := Wg) hk4o (by omega) (by omega) w87 (rc_F F88 (Or.inl (by decide)) (by decide) (rc_F hF (Or.inl (by decide)) (by decide) (hy))) (rc_F F88 (Or.inl (by decide)) (by decide) (rc_F hF (Or.inl (by decide)) (by decide) (hng))) cv89 (by omega) (by omega)) (fun r90 T92 σ91 gt93 hp => ?_)
          obtain ⟨v96, rfl, rfl, rfl, f94, f95⟩ := hp
          clear gt93
          show Tn _ _ 116 T σ81 [(5, .int (iI 0)), (0, .ref a), (1, .int (iI c1)), (2, .int (iI c2)), (3, .int (iI c3)), (4, .int (iI i4))] [.int (iI v96), .int (iI (i4 + 1)), .int (iI (σ0.2.1 32 a)), .ref h] _
          refine tn_iload dX4_addItem_116 0 rfl ?_
          refine tn_if_eq (tgt := 128) dX4_addItem_118 (by decide) ⟨by decide, by decide⟩ (fun _ => ?_) (fun h => absurd h (by decide))
          refine tn_iconst dX4_addItem_128 ?_
          refine tn_iadd dX4_addItem_129 ?_
          refine tn_callV (M := m_X4_addItem) (pc := 130) (ix := 144) (ci := 1) (M' := m_X1_set) (As := [.int (iI (σ0.2.1 32 a)), .int (iI (i4 + 1)), .int (iI (v96 + 0))]) (rest := []) dX4_addItem_130 ok_X1_set im_X1_set se_X1_set ml4_144 np_X1_set rfl rfl hk66o rfl (Nat.le_of_ble_eq_true rfl) (Nat.le_of_ble_eq_true rfl) rfl (k_X1_set_x (d + 1) (T := T) (σ := σ81) (a := h) (k := σ0.2.1 32 a) (c := i4 + 1) (y := v96 + 0) (x := x) (n := n) (W := cW σ81 x n) hk66o (by omega) (by omega) (by omega) w87 (rc_F F88 (Or.inl (by decide)) (by decide) (rc_F hF (Or.inl (by decide)) (by decide) (hx))) (rc_F F88 (Or.inl (by decide)) (by decide) (rc_F hF (Or.inl (by decide)) (by decide) (hn))) rfl (by omega) (by omega) (by omega) (by omega)) (fun r98 T100 σ99 gt101 hp => ?_)
          obtain ⟨rfl, rfl, w105, F106, f102, f103⟩ := hp
          clear gt101
          show Tn _ _ 133 T σ99 [(5, .int (iI 0)), (0, .ref a), (1, .int (iI c1)), (2, .int (iI c2)), (3, .int (iI c3)), (4, .int (iI i4))] [] _
          refine tn_iinc (q0 := 5) (L' := [(4, .int (iI (i4 + 2))), (5, .int (iI 0)), (0, .ref a), (1, .int (iI c1)), (2, .int (iI c2)), (3, .int (iI c3))]) dX4_addItem_133 rfl (by decide) rfl ?_
          refine tn_goto (tgt := 24) dX4_addItem_136 (by decide) ?_
          exact tn_sub [2, 3, 4, 5, 0] rfl (ih _ (by omega) (i4 + 2) σ99 w105 (((FrC.rfl.trans (FrC.sub hF (by decide))).trans (FrC.sub F88 (by decide))).trans (FrC.sub F106 (by decide))) (by omega) ((hC.trans (CHX.sub f84 (by simp) (by simp) (by simp))).trans (CHX.sub f102 (by simp) (by simp) (by simp))) (by have z1 := f85; (first | rw [hrz] at z1 | skip); have z2 := f103; (first | rw [hrz] at z2 | skip); exact hA.step (by omega) z1 z2 (by omega) (by rw [dI_n (fun q => by unfold rgB at q; omega)]; omega)) (by omega) rfl)
        · refine tn_iload_n dX4_addItem_51 rfl 2 rfl ?_
          refine tn_bipush dX4_addItem_52 (by decide) ?_
          refine tn_icmp_ne (tgt := 66) dX4_addItem_54 (by decide) ⟨by omega, by omega⟩ ⟨by decide, by decide⟩ (fun h107 => ?_) (fun h107 => ?_)
          · refine tn_iconst dX4_addItem_66 ?_
            refine tn_istore (L' := [(5, .int (iI 0)), (0, .ref a), (1, .int (iI c1)), (2, .int (iI c2)), (3, .int (iI c3)), (4, .int (iI i4))]) dX4_addItem_67 (by decide) rfl ?_
            refine tn_aload_n dX4_addItem_69 rfl 1 rfl ?_
            have hk110 : (T h).1 = 50 := ob_of ((wf_25 hw0 h_a).resolve_left (by omega)) hh
            have hk110o : OB T h 1 := ⟨by omega, by rw [hk110]; rfl, by omega⟩
            refine tn_getR (ci := 4) (i := 2) (n := 25) (x := h) dX4_addItem_70 rfl lay_4 (by decide) fl4_19 h_a rfl rfl (rc_F hF (Or.inl (by decide)) (by decide) (hh)) ?_
            refine tn_aload_n dX4_addItem_73 rfl 1 rfl ?_
            refine tn_getI (ci := 4) (i := 9) (n := 32) (t := σ0.2.1 32 a) dX4_addItem_74 rfl lay_4 (by decide) fl4_96 h_a rfl rfl (rc_F hF (Or.inl (by decide)) (by decide) (rfl)) ?_
            have g112 : ((-2147483648 : Int) ≤ σ0.2.1 32 a ∧ σ0.2.1 32 a ≤ 2147483647) := wf_32 hw0 h_a
            refine tn_iload dX4_addItem_77 5 rfl ?_
            refine tn_aload_n dX4_addItem_79 rfl 1 rfl ?_
            refine tn_getR (ci := 4) (i := 3) (n := 26) (x := g) dX4_addItem_80 rfl lay_4 (by decide) fl4_33 h_a rfl rfl (rc_F hF (Or.inl (by decide)) (by decide) (hg)) ?_
            refine tn_iload_n dX4_addItem_83 rfl 2 rfl ?_
            refine tn_iload dX4_addItem_84 5 rfl ?_
            refine tn_callV (M := m_X4_addItem) (pc := 86) (ix := 29) (ci := 1) (M' := m_X1_get) (As := [.int (iI c1), .int (iI i4)]) (rest := [.int (iI i4), .int (iI (σ0.2.1 32 a)), .ref h]) dX4_addItem_86 ok_X1_get im_X1_get se_X1_get ml4_29 np_X1_get rfl rfl hk4o rfl (Nat.le_of_ble_eq_true rfl) (Nat.le_of_ble_eq_true rfl) rfl (k_X1_get_x (d + 1) (T := T) (σ := σ) (a := g) (k := c1) (c := i4) (x := y) (n := ng) (W := Wg) hk4o (by omega) (by omega) hw (rc_F hF (Or.inl (by decide)) (by decide) (hy)) (rc_F hF (Or.inl (by decide)) (by decide) (hng)) cv10 (by omega) (by omega)) (fun r113 T115 σ114 gt116 hp => ?_)
            obtain ⟨v119, rfl, rfl, rfl, f117, f118⟩ := hp
            clear gt116
            show Tn _ _ 89 T σ [(5, .int (iI 0)), (0, .ref a), (1, .int (iI c1)), (2, .int (iI c2)), (3, .int (iI c3)), (4, .int (iI i4))] [.int (iI v119), .int (iI i4), .int (iI (σ0.2.1 32 a)), .ref h] _
            obtain ⟨hl123, hk122a, hk122b⟩ := cel_of (wf_5 hw0 hk110o) hx
            have hk122 : (T x).1 = 1 := hk122a (by omega)
            clear hk122a hk122b
            have hk122i : IA T x := by unfold IA; omega
            refine tn_callV (M := m_X4_addItem) (pc := 89) (ix := 144) (ci := 1) (M' := m_X1_set) (As := [.int (iI (σ0.2.1 32 a)), .int (iI i4), .int (iI v119)]) (rest := []) dX4_addItem_89 ok_X1_set im_X1_set se_X1_set ml4_144 np_X1_set rfl rfl hk110o rfl (Nat.le_of_ble_eq_true rfl) (Nat.le_of_ble_eq_true rfl) rfl (k_X1_set_x (d + 1) (T := T) (σ := σ) (a := h) (k := σ0.2.1 32 a) (c := i4) (y := v119) (x := x) (n := n) (W := cW σ x n) hk110o (by omega) (by omega) (by omega) hw (rc_F hF (Or.inl (by decide)) (by decide) (hx)) (rc_F hF (Or.inl (by decide)) (by decide) (hn)) rfl (by omega) (by omega) (by omega) (by omega)) (fun r124 T126 σ125 gt127 hp => ?_)
            obtain ⟨rfl, rfl, w131, F132, f128, f129⟩ := hp
            clear gt127
            show Tn _ _ 92 T σ125 [(5, .int (iI 0)), (0, .ref a), (1, .int (iI c1)), (2, .int (iI c2)), (3, .int (iI c3)), (4, .int (iI i4))] [] _
            refine tn_aload_n dX4_addItem_92 rfl 1 rfl ?_
            refine tn_getR (ci := 4) (i := 2) (n := 25) (x := h) dX4_addItem_93 rfl lay_4 (by decide) fl4_19 h_a rfl rfl (rc_F F132 (Or.inl (by decide)) (by decide) (rc_F hF (Or.inl (by decide)) (by decide) (hh))) ?_
            refine tn_aload_n dX4_addItem_96 rfl 1 rfl ?_
            refine tn_getI (ci := 4) (i := 9) (n := 32) (t := σ0.2.1 32 a) dX4_addItem_97 rfl lay_4 (by decide) fl4_96 h_a rfl rfl (rc_F F132 (Or.inl (by decide)) (by decide) (rc_F hF (Or.inl (by decide)) (by decide) (rfl))) ?_
            refine tn_iload dX4_addItem_100 5 rfl ?_
            refine tn_iconst dX4_addItem_102 ?_
            refine tn_iadd dX4_addItem_103 ?_
            refine tn_aload_n dX4_addItem_104 rfl 1 rfl ?_
            refine tn_getR (ci := 4) (i := 3) (n := 26) (x := g) dX4_addItem_105 rfl lay_4 (by decide) fl4_33 h_a rfl rfl (rc_F F132 (Or.inl (by decide)) (by decide) (rc_F hF (Or.inl (by decide)) (by decide) (hg))) ?_
            refine tn_iload_n dX4_addItem_108 rfl 2 rfl ?_
            refine tn_iload dX4_addItem_109 5 rfl ?_
            refine tn_iconst dX4_addItem_111 ?_
            refine tn_iadd dX4_addItem_112 ?_
            have cv133 : cW σ125 y ng = Wg := (cW_row (CHX.r f128 (by first | (simp; done) | (simp only [List.mem_cons, List.not_mem_nil, or_false, not_or]; first | omega | ((repeat' apply And.intro) <;> first | assumption | (apply Ne.symm; assumption)))))).trans (cv10)
            refine tn_callV (M := m_X4_addItem) (pc := 113) (ix := 29) (ci := 1) (M' := m_X1_get) (As := [.int (iI c1), .int (iI (i4 + 1))]) (rest := [.int (iI (i4 + 1)), .int (iI (σ0.2.1 32 a)), .ref h]) dX4_addItem_113 ok_X1_get im_X1_get se_X1_get ml4_29 np_X1_get rfl rfl hk4o rfl (Nat.le_of_ble_eq_true rfl) (Nat.le_of_ble_eq_true rfl) rfl (k_X1_get_x (d + 1) (T := T) (σ := σ125) (a := g) (k := c1) (c := i4 + 1) (x := y) (n := ng) (W := Wg) hk4o (by omega) (by omega) w131 (rc_F F132 (Or.inl (by decide)) (by decide) (rc_F hF (Or.inl (by decide)) (by decide) (hy))) (rc_F F132 (Or.inl (by decide)) (by decide) (rc_F hF (Or.inl (by decide)) (by decide) (hng))) cv133 (by omega) (by omega)) (fun r134 T136 σ135 gt137 hp => ?_)
            obtain ⟨v140, rfl, rfl, rfl, f138, f139⟩ := hp
            clear gt137
            show Tn _ _ 116 T σ125 [(5, .int (iI 0)), (0, .ref a), (1, .int (iI c1)), (2, .int (iI c2)), (3, .int (iI c3)), (4, .int (iI i4))] [.int (iI v140), .int (iI (i4 + 1)), .int (iI (σ0.2.1 32 a)), .ref h] _
            refine tn_iload dX4_addItem_116 0 rfl ?_
            refine tn_if_eq (tgt := 128) dX4_addItem_118 (by decide) ⟨by decide, by decide⟩ (fun _ => ?_) (fun h => absurd h (by decide))
            refine tn_iconst dX4_addItem_128 ?_
            refine tn_iadd dX4_addItem_129 ?_
            refine tn_callV (M := m_X4_addItem) (pc := 130) (ix := 144) (ci := 1) (M' := m_X1_set) (As := [.int (iI (σ0.2.1 32 a)), .int (iI (i4 + 1)), .int (iI (v140 + 0))]) (rest := []) dX4_addItem_130 ok_X1_set im_X1_set se_X1_set ml4_144 np_X1_set rfl rfl hk110o rfl (Nat.le_of_ble_eq_true rfl) (Nat.le_of_ble_eq_true rfl) rfl (k_X1_set_x (d + 1) (T := T) (σ := σ125) (a := h) (k := σ0.2.1 32 a) (c := i4 + 1) (y := v140 + 0) (x := x) (n := n) (W := cW σ125 x n) hk110o (by omega) (by omega) (by omega) w131 (rc_F F132 (Or.inl (by decide)) (by decide) (rc_F hF (Or.inl (by decide)) (by decide) (hx))) (rc_F F132 (Or.inl (by decide)) (by decide) (rc_F hF (Or.inl (by decide)) (by decide) (hn))) rfl (by omega) (by omega) (by omega) (by omega)) (fun r142 T144 σ143 gt145 hp => ?_)
            obtain ⟨rfl, rfl, w149, F150, f146, f147⟩ := hp
            clear gt145
            show Tn _ _ 133 T σ143 [(5, .int (iI 0)), (0, .ref a), (1, .int (iI c1)), (2, .int (iI c2)), (3, .int (iI c3)), (4, .int (iI i4))] [] _
            refine tn_iinc (q0 := 5) (L' := [(4, .int (iI (i4 + 2))), (5, .int (iI 0)), (0, .ref a), (1, .int (iI c1)), (2, .int (iI c2)), (3, .int (iI c3))]) dX4_addItem_133 rfl (by decide) rfl ?_
            refine tn_goto (tgt := 24) dX4_addItem_136 (by decide) ?_
            exact tn_sub [2, 3, 4, 5, 0] rfl (ih _ (by omega) (i4 + 2) σ143 w149 (((FrC.rfl.trans (FrC.sub hF (by decide))).trans (FrC.sub F132 (by decide))).trans (FrC.sub F150 (by decide))) (by omega) ((hC.trans (CHX.sub f128 (by simp) (by simp) (by simp))).trans (CHX.sub f146 (by simp) (by simp) (by simp))) (by have z1 := f129; (first | rw [hrz] at z1 | skip); have z2 := f147; (first | rw [hrz] at z2 | skip); exact hA.step (by omega) z1 z2 (by omega) (by rw [dI_n (fun q => by unfold rgB at q; omega)]; omega)) (by omega) rfl)
          · refine tn_iload_n dX4_addItem_57 rfl 3 rfl ?_
            refine tn_iconst dX4_addItem_58 ?_
            refine tn_icmp_ne (tgt := 66) dX4_addItem_59 (by decide) ⟨by omega, by omega⟩ ⟨by decide, by decide⟩ (fun h151 => ?_) (fun h151 => ?_)
            · refine tn_iconst dX4_addItem_66 ?_
              refine tn_istore (L' := [(5, .int (iI 0)), (0, .ref a), (1, .int (iI c1)), (2, .int (iI c2)), (3, .int (iI c3)), (4, .int (iI i4))]) dX4_addItem_67 (by decide) rfl ?_
              refine tn_aload_n dX4_addItem_69 rfl 1 rfl ?_
              have hk154 : (T h).1 = 50 := ob_of ((wf_25 hw0 h_a).resolve_left (by omega)) hh
              have hk154o : OB T h 1 := ⟨by omega, by rw [hk154]; rfl, by omega⟩
              refine tn_getR (ci := 4) (i := 2) (n := 25) (x := h) dX4_addItem_70 rfl lay_4 (by decide) fl4_19 h_a rfl rfl (rc_F hF (Or.inl (by decide)) (by decide) (hh)) ?_
              refine tn_aload_n dX4_addItem_73 rfl 1 rfl ?_
              refine tn_getI (ci := 4) (i := 9) (n := 32) (t := σ0.2.1 32 a) dX4_addItem_74 rfl lay_4 (by decide) fl4_96 h_a rfl rfl (rc_F hF (Or.inl (by decide)) (by decide) (rfl)) ?_
              have g156 : ((-2147483648 : Int) ≤ σ0.2.1 32 a ∧ σ0.2.1 32 a ≤ 2147483647) := wf_32 hw0 h_a
              refine tn_iload dX4_addItem_77 5 rfl ?_
              refine tn_aload_n dX4_addItem_79 rfl 1 rfl ?_
              refine tn_getR (ci := 4) (i := 3) (n := 26) (x := g) dX4_addItem_80 rfl lay_4 (by decide) fl4_33 h_a rfl rfl (rc_F hF (Or.inl (by decide)) (by decide) (hg)) ?_
              refine tn_iload_n dX4_addItem_83 rfl 2 rfl ?_
              refine tn_iload dX4_addItem_84 5 rfl ?_
              refine tn_callV (M := m_X4_addItem) (pc := 86) (ix := 29) (ci := 1) (M' := m_X1_get) (As := [.int (iI c1), .int (iI i4)]) (rest := [.int (iI i4), .int (iI (σ0.2.1 32 a)), .ref h]) dX4_addItem_86 ok_X1_get im_X1_get se_X1_get ml4_29 np_X1_get rfl rfl hk4o rfl (Nat.le_of_ble_eq_true rfl) (Nat.le_of_ble_eq_true rfl) rfl (k_X1_get_x (d + 1) (T := T) (σ := σ) (a := g) (k := c1) (c := i4) (x := y) (n := ng) (W := Wg) hk4o (by omega) (by omega) hw (rc_F hF (Or.inl (by decide)) (by decide) (hy)) (rc_F hF (Or.inl (by decide)) (by decide) (hng)) cv10 (by omega) (by omega)) (fun r157 T159 σ158 gt160 hp => ?_)
              obtain ⟨v163, rfl, rfl, rfl, f161, f162⟩ := hp
              clear gt160
              show Tn _ _ 89 T σ [(5, .int (iI 0)), (0, .ref a), (1, .int (iI c1)), (2, .int (iI c2)), (3, .int (iI c3)), (4, .int (iI i4))] [.int (iI v163), .int (iI i4), .int (iI (σ0.2.1 32 a)), .ref h] _
              obtain ⟨hl167, hk166a, hk166b⟩ := cel_of (wf_5 hw0 hk154o) hx
              have hk166 : (T x).1 = 1 := hk166a (by omega)
              clear hk166a hk166b
              have hk166i : IA T x := by unfold IA; omega
              refine tn_callV (M := m_X4_addItem) (pc := 89) (ix := 144) (ci := 1) (M' := m_X1_set) (As := [.int (iI (σ0.2.1 32 a)), .int (iI i4), .int (iI v163)]) (rest := []) dX4_addItem_89 ok_X1_set im_X1_set se_X1_set ml4_144 np_X1_set rfl rfl hk154o rfl (Nat.le_of_ble_eq_true rfl) (Nat.le_of_ble_eq_true rfl) rfl (k_X1_set_x (d + 1) (T := T) (σ := σ) (a := h) (k := σ0.2.1 32 a) (c := i4) (y := v163) (x := x) (n := n) (W := cW σ x n) hk154o (by omega) (by omega) (by omega) hw (rc_F hF (Or.inl (by decide)) (by decide) (hx)) (rc_F hF (Or.inl (by decide)) (by decide) (hn)) rfl (by omega) (by omega) (by omega) (by omega)) (fun r168 T170 σ169 gt171 hp => ?_)
              obtain ⟨rfl, rfl, w175, F176, f172, f173⟩ := hp
              clear gt171
              show Tn _ _ 92 T σ169 [(5, .int (iI 0)), (0, .ref a), (1, .int (iI c1)), (2, .int (iI c2)), (3, .int (iI c3)), (4, .int (iI i4))] [] _
              refine tn_aload_n dX4_addItem_92 rfl 1 rfl ?_
              refine tn_getR (ci := 4) (i := 2) (n := 25) (x := h) dX4_addItem_93 rfl lay_4 (by decide) fl4_19 h_a rfl rfl (rc_F F176 (Or.inl (by decide)) (by decide) (rc_F hF (Or.inl (by decide)) (by decide) (hh))) ?_
              refine tn_aload_n dX4_addItem_96 rfl 1 rfl ?_
              refine tn_getI (ci := 4) (i := 9) (n := 32) (t := σ0.2.1 32 a) dX4_addItem_97 rfl lay_4 (by decide) fl4_96 h_a rfl rfl (rc_F F176 (Or.inl (by decide)) (by decide) (rc_F hF (Or.inl (by decide)) (by decide) (rfl))) ?_
              refine tn_iload dX4_addItem_100 5 rfl ?_
              refine tn_iconst dX4_addItem_102 ?_
              refine tn_iadd dX4_addItem_103 ?_
              refine tn_aload_n dX4_addItem_104 rfl 1 rfl ?_
              refine tn_getR (ci := 4) (i := 3) (n := 26) (x := g) dX4_addItem_105 rfl lay_4 (by decide) fl4_33 h_a rfl rfl (rc_F F176 (Or.inl (by decide)) (by decide) (rc_F hF (Or.inl (by decide)) (by decide) (hg))) ?_
              refine tn_iload_n dX4_addItem_108 rfl 2 rfl ?_
              refine tn_iload dX4_addItem_109 5 rfl ?_
              refine tn_iconst dX4_addItem_111 ?_
              refine tn_iadd dX4_addItem_112 ?_
              have cv177 : cW σ169 y ng = Wg := (cW_row (CHX.r f172 (by first | (simp; done) | (simp only [List.mem_cons, List.not_mem_nil, or_false, not_or]; first | omega | ((repeat' apply And.intro) <;> first | assumption | (apply Ne.symm; assumption)))))).trans (cv10)
              refine tn_callV (M := m_X4_addItem) (pc := 113) (ix := 29) (ci := 1) (M' := m_X1_get) (As := [.int (iI c1), .int (iI (i4 + 1))]) (rest := [.int (iI (i4 + 1)), .int (iI (σ0.2.1 32 a)), .ref h]) dX4_addItem_113 ok_X1_get im_X1_get se_X1_get ml4_29 np_X1_get rfl rfl hk4o rfl (Nat.le_of_ble_eq_true rfl) (Nat.le_of_ble_eq_true rfl) rfl (k_X1_get_x (d + 1) (T := T) (σ := σ169) (a := g) (k := c1) (c := i4 + 1) (x := y) (n := ng) (W := Wg) hk4o (by omega) (by omega) w175 (rc_F F176 (Or.inl (by decide)) (by decide) (rc_F hF (Or.inl (by decide)) (by decide) (hy))) (rc_F F176 (Or.inl (by decide)) (by decide) (rc_F hF (Or.inl (by decide)) (by decide) (hng))) cv177 (by omega) (by omega)) (fun r178 T180 σ179 gt181 hp => ?_)
              obtain ⟨v184, rfl, rfl, rfl, f182, f183⟩ := hp
              clear gt181
              show Tn _ _ 116 T σ169 [(5, .int (iI 0)), (0, .ref a), (1, .int (iI c1)), (2, .int (iI c2)), (3, .int (iI c3)), (4, .int (iI i4))] [.int (iI v184), .int (iI (i4 + 1)), .int (iI (σ0.2.1 32 a)), .ref h] _
              refine tn_iload dX4_addItem_116 0 rfl ?_
              refine tn_if_eq (tgt := 128) dX4_addItem_118 (by decide) ⟨by decide, by decide⟩ (fun _ => ?_) (fun h => absurd h (by decide))
              refine tn_iconst dX4_addItem_128 ?_
              refine tn_iadd dX4_addItem_129 ?_
              refine tn_callV (M := m_X4_addItem) (pc := 130) (ix := 144) (ci := 1) (M' := m_X1_set) (As := [.int (iI (σ0.2.1 32 a)), .int (iI (i4 + 1)), .int (iI (v184 + 0))]) (rest := []) dX4_addItem_130 ok_X1_set im_X1_set se_X1_set ml4_144 np_X1_set rfl rfl hk154o rfl (Nat.le_of_ble_eq_true rfl) (Nat.le_of_ble_eq_true rfl) rfl (k_X1_set_x (d + 1) (T := T) (σ := σ169) (a := h) (k := σ0.2.1 32 a) (c := i4 + 1) (y := v184 + 0) (x := x) (n := n) (W := cW σ169 x n) hk154o (by omega) (by omega) (by omega) w175 (rc_F F176 (Or.inl (by decide)) (by decide) (rc_F hF (Or.inl (by decide)) (by decide) (hx))) (rc_F F176 (Or.inl (by decide)) (by decide) (rc_F hF (Or.inl (by decide)) (by decide) (hn))) rfl (by omega) (by omega) (by omega) (by omega)) (fun r186 T188 σ187 gt189 hp => ?_)
              obtain ⟨rfl, rfl, w193, F194, f190, f191⟩ := hp
              clear gt189
              show Tn _ _ 133 T σ187 [(5, .int (iI 0)), (0, .ref a), (1, .int (iI c1)), (2, .int (iI c2)), (3, .int (iI c3)), (4, .int (iI i4))] [] _
              refine tn_iinc (q0 := 5) (L' := [(4, .int (iI (i4 + 2))), (5, .int (iI 0)), (0, .ref a), (1, .int (iI c1)), (2, .int (iI c2)), (3, .int (iI c3))]) dX4_addItem_133 rfl (by decide) rfl ?_
              refine tn_goto (tgt := 24) dX4_addItem_136 (by decide) ?_
              exact tn_sub [2, 3, 4, 5, 0] rfl (ih _ (by omega) (i4 + 2) σ187 w193 (((FrC.rfl.trans (FrC.sub hF (by decide))).trans (FrC.sub F176 (by decide))).trans (FrC.sub F194 (by decide))) (by omega) ((hC.trans (CHX.sub f172 (by simp) (by simp) (by simp))).trans (CHX.sub f190 (by simp) (by simp) (by simp))) (by have z1 := f173; (first | rw [hrz] at z1 | skip); have z2 := f191; (first | rw [hrz] at z2 | skip); exact hA.step (by omega) z1 z2 (by omega) (by rw [dI_n (fun q => by unfold rgB at q; omega)]; omega)) (by omega) rfl)
            · refine tn_iconst dX4_addItem_62 ?_
              refine tn_goto (tgt := 67) dX4_addItem_63 (by decide) ?_
              refine tn_istore (L' := [(5, .int (iI 1)), (0, .ref a), (1, .int (iI c1)), (2, .int (iI c2)), (3, .int (iI c3)), (4, .int (iI i4))]) dX4_addItem_67 (by decide) rfl ?_
              refine tn_aload_n dX4_addItem_69 rfl 1 rfl ?_
              have hk197 : (T h).1 = 50 := ob_of ((wf_25 hw0 h_a).resolve_left (by omega)) hh
              have hk197o : OB T h 1 := ⟨by omega, by rw [hk197]; rfl, by omega⟩
              refine tn_getR (ci := 4) (i := 2) (n := 25) (x := h) dX4_addItem_70 rfl lay_4 (by decide) fl4_19 h_a rfl rfl (rc_F hF (Or.inl (by decide)) (by decide) (hh)) ?_
              refine tn_aload_n dX4_addItem_73 rfl 1 rfl ?_
              refine tn_getI (ci := 4) (i := 9) (n := 32) (t := σ0.2.1 32 a) dX4_addItem_74 rfl lay_4 (by decide) fl4_96 h_a rfl rfl (rc_F hF (Or.inl (by decide)) (by decide) (rfl)) ?_
              have g199 : ((-2147483648 : Int) ≤ σ0.2.1 32 a ∧ σ0.2.1 32 a ≤ 2147483647) := wf_32 hw0 h_a
              refine tn_iload dX4_addItem_77 5 rfl ?_
              refine tn_aload_n dX4_addItem_79 rfl 1 rfl ?_
              refine tn_getR (ci := 4) (i := 3) (n := 26) (x := g) dX4_addItem_80 rfl lay_4 (by decide) fl4_33 h_a rfl rfl (rc_F hF (Or.inl (by decide)) (by decide) (hg)) ?_
              refine tn_iload_n dX4_addItem_83 rfl 2 rfl ?_
              refine tn_iload dX4_addItem_84 5 rfl ?_
              refine tn_callV (M := m_X4_addItem) (pc := 86) (ix := 29) (ci := 1) (M' := m_X1_get) (As := [.int (iI c1), .int (iI i4)]) (rest := [.int (iI i4), .int (iI (σ0.2.1 32 a)), .ref h]) dX4_addItem_86 ok_X1_get im_X1_get se_X1_get ml4_29 np_X1_get rfl rfl hk4o rfl (Nat.le_of_ble_eq_true rfl) (Nat.le_of_ble_eq_true rfl) rfl (k_X1_get_x (d + 1) (T := T) (σ := σ) (a := g) (k := c1) (c := i4) (x := y) (n := ng) (W := Wg) hk4o (by omega) (by omega) hw (rc_F hF (Or.inl (by decide)) (by decide) (hy)) (rc_F hF (Or.inl (by decide)) (by decide) (hng)) cv10 (by omega) (by omega)) (fun r200 T202 σ201 gt203 hp => ?_)
              obtain ⟨v206, rfl, rfl, rfl, f204, f205⟩ := hp
              clear gt203
              show Tn _ _ 89 T σ [(5, .int (iI 1)), (0, .ref a), (1, .int (iI c1)), (2, .int (iI c2)), (3, .int (iI c3)), (4, .int (iI i4))] [.int (iI v206), .int (iI i4), .int (iI (σ0.2.1 32 a)), .ref h] _
              obtain ⟨hl210, hk209a, hk209b⟩ := cel_of (wf_5 hw0 hk197o) hx
              have hk209 : (T x).1 = 1 := hk209a (by omega)
              clear hk209a hk209b
              have hk209i : IA T x := by unfold IA; omega
              refine tn_callV (M := m_X4_addItem) (pc := 89) (ix := 144) (ci := 1) (M' := m_X1_set) (As := [.int (iI (σ0.2.1 32 a)), .int (iI i4), .int (iI v206)]) (rest := []) dX4_addItem_89 ok_X1_set im_X1_set se_X1_set ml4_144 np_X1_set rfl rfl hk197o rfl (Nat.le_of_ble_eq_true rfl) (Nat.le_of_ble_eq_true rfl) rfl (k_X1_set_x (d + 1) (T := T) (σ := σ) (a := h) (k := σ0.2.1 32 a) (c := i4) (y := v206) (x := x) (n := n) (W := cW σ x n) hk197o (by omega) (by omega) (by omega) hw (rc_F hF (Or.inl (by decide)) (by decide) (hx)) (rc_F hF (Or.inl (by decide)) (by decide) (hn)) rfl (by omega) (by omega) (by omega) (by omega)) (fun r211 T213 σ212 gt214 hp => ?_)
              obtain ⟨rfl, rfl, w218, F219, f215, f216⟩ := hp
              clear gt214
              show Tn _ _ 92 T σ212 [(5, .int (iI 1)), (0, .ref a), (1, .int (iI c1)), (2, .int (iI c2)), (3, .int (iI c3)), (4, .int (iI i4))] [] _
              refine tn_aload_n dX4_addItem_92 rfl 1 rfl ?_
              refine tn_getR (ci := 4) (i := 2) (n := 25) (x := h) dX4_addItem_93 rfl lay_4 (by decide) fl4_19 h_a rfl rfl (rc_F F219 (Or.inl (by decide)) (by decide) (rc_F hF (Or.inl (by decide)) (by decide) (hh))) ?_
              refine tn_aload_n dX4_addItem_96 rfl 1 rfl ?_
              refine tn_getI (ci := 4) (i := 9) (n := 32) (t := σ0.2.1 32 a) dX4_addItem_97 rfl lay_4 (by decide) fl4_96 h_a rfl rfl (rc_F F219 (Or.inl (by decide)) (by decide) (rc_F hF (Or.inl (by decide)) (by decide) (rfl))) ?_
              refine tn_iload dX4_addItem_100 5 rfl ?_
              refine tn_iconst dX4_addItem_102 ?_
              refine tn_iadd dX4_addItem_103 ?_
              refine tn_aload_n dX4_addItem_104 rfl 1 rfl ?_
              refine tn_getR (ci := 4) (i := 3) (n := 26) (x := g) dX4_addItem_105 rfl lay_4 (by decide) fl4_33 h_a rfl rfl (rc_F F219 (Or.inl (by decide)) (by decide) (rc_F hF (Or.inl (by decide)) (by decide) (hg))) ?_
              refine tn_iload_n dX4_addItem_108 rfl 2 rfl ?_
              refine tn_iload dX4_addItem_109 5 rfl ?_
              refine tn_iconst dX4_addItem_111 ?_
              refine tn_iadd dX4_addItem_112 ?_
              have cv220 : cW σ212 y ng = Wg := (cW_row (CHX.r f215 (by first | (simp; done) | (simp only [List.mem_cons, List.not_mem_nil, or_false, not_or]; first | omega | ((repeat' apply And.intro) <;> first | assumption | (apply Ne.symm; assumption)))))).trans (cv10)
              refine tn_callV (M := m_X4_addItem) (pc := 113) (ix := 29) (ci := 1) (M' := m_X1_get) (As := [.int (iI c1), .int (iI (i4 + 1))]) (rest := [.int (iI (i4 + 1)), .int (iI (σ0.2.1 32 a)), .ref h]) dX4_addItem_113 ok_X1_get im_X1_get se_X1_get ml4_29 np_X1_get rfl rfl hk4o rfl (Nat.le_of_ble_eq_true rfl) (Nat.le_of_ble_eq_true rfl) rfl (k_X1_get_x (d + 1) (T := T) (σ := σ212) (a := g) (k := c1) (c := i4 + 1) (x := y) (n := ng) (W := Wg) hk4o (by omega) (by omega) w218 (rc_F F219 (Or.inl (by decide)) (by decide) (rc_F hF (Or.inl (by decide)) (by decide) (hy))) (rc_F F219 (Or.inl (by decide)) (by decide) (rc_F hF (Or.inl (by decide)) (by decide) (hng))) cv220 (by omega) (by omega)) (fun r221 T223 σ222 gt224 hp => ?_)
              obtain ⟨v227, rfl, rfl, rfl, f225, f226⟩ := hp
              clear gt224
              show Tn _ _ 116 T σ212 [(5, .int (iI 1)), (0, .ref a), (1, .int (iI c1)), (2, .int (iI c2)), (3, .int (iI c3)), (4, .int (iI i4))] [.int (iI v227), .int (iI (i4 + 1)), .int (iI (σ0.2.1 32 a)), .ref h] _
              refine tn_iload dX4_addItem_116 0 rfl ?_
              refine tn_if_eq (tgt := 128) dX4_addItem_118 (by decide) ⟨by decide, by decide⟩ (fun h => absurd h (by decide)) (fun _ => ?_)
              refine tn_aload_n dX4_addItem_121 rfl 1 rfl ?_
              refine tn_getI (ci := 4) (i := 4) (n := 27) (t := σ0.2.1 27 a) dX4_addItem_122 rfl lay_4 (by decide) fl4_57 h_a rfl rfl (rc_F F219 (Or.inl (by decide)) (by decide) (rc_F hF (Or.inl (by decide)) (by decide) (rfl))) ?_
              have g229 : ((-2147483648 : Int) ≤ σ0.2.1 27 a ∧ σ0.2.1 27 a ≤ 2147483647) := wf_27 hw0 h_a
              refine tn_goto (tgt := 129) dX4_addItem_125 (by decide) ?_
              have hq9 : 0 ≤ Wg c1 (i4 + 1) ∧ Wg c1 (i4 + 1) < 192 := (by have z := (hgk c1 hk.1 hk.2).1.2.2.2.2 (by omega) (Or.inr (by omega)); have z2 := z.2.2.2 (by omega); rw [show i4 + 1 = 4 by omega]; exact z2)
              refine tn_iadd dX4_addItem_129 ?_
              refine tn_callV (M := m_X4_addItem) (pc := 130) (ix := 144) (ci := 1) (M' := m_X1_set) (As := [.int (iI (σ0.2.1 32 a)), .int (iI (i4 + 1)), .int (iI (v227 + (σ0.2.1 27 a)))]) (rest := []) dX4_addItem_130 ok_X1_set im_X1_set se_X1_set ml4_144 np_X1_set rfl rfl hk197o rfl (Nat.le_of_ble_eq_true rfl) (Nat.le_of_ble_eq_true rfl) rfl (k_X1_set_x (d + 1) (T := T) (σ := σ212) (a := h) (k := σ0.2.1 32 a) (c := i4 + 1) (y := v227 + (σ0.2.1 27 a)) (x := x) (n := n) (W := cW σ212 x n) hk197o (by omega) (by omega) (by omega) w218 (rc_F F219 (Or.inl (by decide)) (by decide) (rc_F hF (Or.inl (by decide)) (by decide) (hx))) (rc_F F219 (Or.inl (by decide)) (by decide) (rc_F hF (Or.inl (by decide)) (by decide) (hn))) rfl (by omega) (by omega) (by omega) (by omega)) (fun r230 T232 σ231 gt233 hp => ?_)
              obtain ⟨rfl, rfl, w237, F238, f234, f235⟩ := hp
              clear gt233
              show Tn _ _ 133 T σ231 [(5, .int (iI 1)), (0, .ref a), (1, .int (iI c1)), (2, .int (iI c2)), (3, .int (iI c3)), (4, .int (iI i4))] [] _
              refine tn_iinc (q0 := 5) (L' := [(4, .int (iI (i4 + 2))), (5, .int (iI 1)), (0, .ref a), (1, .int (iI c1)), (2, .int (iI c2)), (3, .int (iI c3))]) dX4_addItem_133 rfl (by decide) rfl ?_
              refine tn_goto (tgt := 24) dX4_addItem_136 (by decide) ?_
              exact tn_sub [2, 3, 4, 5, 0] rfl (ih _ (by omega) (i4 + 2) σ231 w237 (((FrC.rfl.trans (FrC.sub hF (by decide))).trans (FrC.sub F219 (by decide))).trans (FrC.sub F238 (by decide))) (by omega) ((hC.trans (CHX.sub f215 (by simp) (by simp) (by simp))).trans (CHX.sub f234 (by simp) (by simp) (by simp))) (by have z1 := f216; (first | rw [hrz] at z1 | skip); have z2 := f235; (first | rw [hrz] at z2 | skip); exact hA.step (by omega) z1 z2 (by omega) (by rw [dI_y (show rgB (Wg c1) i4 from (Or.inr ⟨by omega, by omega, by omega⟩))]; omega)) (by omega) rfl)
set_option maxHeartbeats 1000000 in
set_option maxRecDepth 20000 in
theorem k_X4_addItem_x (d : Nat) {T : CT} {σ : MS} {a : Nat} {k : Int} {h : Nat} {x : Nat} {n : Int} {W : Int → It} {g : Nat} {y : Nat} {ng : Int} {Wg : Int → It} {rz : Int} {base : Int} {lb : Int} {fb : Int} (ha : OB T a 4) (h_k : -2147483648 ≤ k ∧ k ≤ 2147483647) (hw : WT T σ) (hh : σ.2.1 25 a = (h : Int)) (hx : σ.2.1 5 h = (x : Int)) (hn : σ.2.1 6 h = n) (hW : cW σ x n = W) (hg : σ.2.1 26 a = (g : Int)) (hy : σ.2.1 5 g = (y : Int)) (hng : σ.2.1 6 g = ng) (hWg : cW σ y ng = Wg) (hrz : σ.2.1 32 a = rz) (hbase : σ.2.1 27 a = base) (hlb : σ.2.1 28 a = lb) (hfb : σ.2.1 29 a = fb) (hN : n ≤ 200) (hgk : GOK Wg ng) (har : (0 ≤ base ∧ base ≤ 1000) ∧ (0 ≤ lb ∧ lb ≤ 10100) ∧ 0 ≤ fb ∧ fb ≤ 12) (hne : x ≠ y) (hN2 : ng ≤ 200) (hro : 0 ≤ rz ∧ rz < n) (hk : 0 ≤ k ∧ k < ng) : Tn (d + 3) m_X4_addItem 0 T σ [(0, .ref a), (1, .int (iI k))] [] (fun ro T2 σ2 => ro = none ∧ T = T2 ∧ WT T2 σ2 ∧ FrC T [32] σ σ2 ∧ (CHX [(32, a)] [x] [] σ σ2) ∧ (cW σ2 x n = uZ W rz (amI fb base lb (Wg k) (W rz))) ∧ (σ2.2.1 32 a = rz + 1)) := by
  refine tn_aload_n dX4_addItem_0 rfl 0 rfl ?_
  have hk3 : (T g).1 = 50 := ob_of ((wf_26 hw ha).resolve_left (by omega)) hg
  have hk3o : OB T g 1 := ⟨by omega, by rw [hk3]; rfl, by omega⟩
  refine tn_getR (ci := 4) (i := 3) (n := 26) (x := g) dX4_addItem_1 rfl lay_4 (by decide) fl4_33 ha rfl rfl (hg) ?_
  refine tn_iload_n dX4_addItem_4 rfl 1 rfl ?_
  refine tn_iconst dX4_addItem_5 ?_
  obtain ⟨hl8, hk7a, hk7b⟩ := cel_of (wf_5 hw hk3o) hy
  have hk7 : (T y).1 = 1 := hk7a (by omega)
  clear hk7a hk7b
  have hk7i : IA T y := by unfold IA; omega
  refine tn_callV (M := m_X4_addItem) (pc := 6) (ix := 29) (ci := 1) (M' := m_X1_get) (As := [.int (iI k), .int (iI 0)]) (rest := []) dX4_addItem_6 ok_X1_get im_X1_get se_X1_get ml4_29 np_X1_get rfl rfl hk3o rfl (Nat.le_of_ble_eq_true rfl) (Nat.le_of_ble_eq_true rfl) rfl (k_X1_get_x (d + 1) (T := T) (σ := σ) (a := g) (k := k) (c := 0) (x := y) (n := ng) (W := Wg) hk3o (by omega) (by decide) hw (hy) (hng) hWg (by omega) (by omega)) (fun r9 T11 σ10 gt12 hp => ?_)
  obtain ⟨v15, rfl, rfl, rfl, f13, f14⟩ := hp
  clear gt12
  show Tn _ _ 9 T σ [(0, .ref a), (1, .int (iI k))] [.int (iI v15)] _
  refine tn_istore_n (L' := [(2, .int (iI v15)), (0, .ref a), (1, .int (iI k))]) dX4_addItem_9 rfl (by decide) rfl ?_
  refine tn_aload_n dX4_addItem_10 rfl 1 rfl ?_
  refine tn_getR (ci := 4) (i := 3) (n := 26) (x := g) dX4_addItem_11 rfl lay_4 (by decide) fl4_33 ha rfl rfl (hg) ?_
  refine tn_iload_n dX4_addItem_14 rfl 2 rfl ?_
  refine tn_bipush dX4_addItem_15 (by decide) ?_
  refine tn_callV (M := m_X4_addItem) (pc := 17) (ix := 29) (ci := 1) (M' := m_X1_get) (As := [.int (iI k), .int (iI 11)]) (rest := []) dX4_addItem_17 ok_X1_get im_X1_get se_X1_get ml4_29 np_X1_get rfl rfl hk3o rfl (Nat.le_of_ble_eq_true rfl) (Nat.le_of_ble_eq_true rfl) rfl (k_X1_get_x (d + 1) (T := T) (σ := σ) (a := g) (k := k) (c := 11) (x := y) (n := ng) (W := Wg) hk3o (by omega) (by decide) hw (hy) (hng) hWg (by omega) (by omega)) (fun r16 T18 σ17 gt19 hp => ?_)
  obtain ⟨v22, rfl, rfl, rfl, f20, f21⟩ := hp
  clear gt19
  show Tn _ _ 20 T σ [(2, .int (iI v15)), (0, .ref a), (1, .int (iI k))] [.int (iI v22)] _
  refine tn_istore_n (L' := [(3, .int (iI v22)), (2, .int (iI v15)), (0, .ref a), (1, .int (iI k))]) dX4_addItem_20 rfl (by decide) rfl ?_
  refine tn_iconst dX4_addItem_21 ?_
  refine tn_istore (L' := [(4, .int (iI 3)), (3, .int (iI v22)), (2, .int (iI v15)), (0, .ref a), (1, .int (iI k))]) dX4_addItem_22 (by decide) rfl ?_
  refine tn_sub [3, 4, 2, 1, 0] rfl (l_X4_addItem_x_24 (d) (T := T) (σ0 := σ) (a := a) (c1 := k) (c2 := v15) (c3 := v22) (h := h) (x := x) (n := n) (W := W) (g := g) (y := y) (ng := ng) (Wg := (Wg)) (rz := rz) (base := base) (lb := lb) (fb := fb) (W1 := W) ha (by omega) (by omega) (by omega) hw (by omega) (by omega) (by omega) (hh) (hx) (hn) (hg) (hy) (hng) hWg (hrz) (hbase) (hlb) (hfb) hN hgk har hne hN2 (fun i423 σ24 w27 F28 r29 f30 f31 f32 f33 => ?_) _ (3) σ hw FrC.rfl (by omega) CHX.rfl (by rw [hW]; exact AIP.nil) (by omega) rfl)
  show Tn _ _ 139 T σ24 [(0, .ref a), (1, .int (iI k)), (2, .int (iI v15)), (3, .int (iI v22)), (4, .int (iI i423))] [] _
  refine tn_aload_n dX4_addItem_139 rfl 0 rfl ?_
  have hk36 : (T h).1 = 50 := ob_of ((wf_25 hw ha).resolve_left (by omega)) hh
  have hk36o : OB T h 1 := ⟨by omega, by rw [hk36]; rfl, by omega⟩
  refine tn_getR (ci := 4) (i := 2) (n := 25) (x := h) dX4_addItem_140 rfl lay_4 (by decide) fl4_19 ha rfl rfl (rc_F F28 (Or.inl (by decide)) (by decide) (hh)) ?_
  refine tn_aload_n dX4_addItem_143 rfl 0 rfl ?_
  refine tn_getI (ci := 4) (i := 9) (n := 32) (t := σ.2.1 32 a) dX4_addItem_144 rfl lay_4 (by decide) fl4_96 ha rfl rfl (rc_F F28 (Or.inl (by decide)) (by decide) (rfl)) ?_
  have g38 : ((-2147483648 : Int) ≤ σ.2.1 32 a ∧ σ.2.1 32 a ≤ 2147483647) := wf_32 hw ha
  refine tn_bipush dX4_addItem_147 (by decide) ?_
  refine tn_iload_n dX4_addItem_149 rfl 3 rfl ?_
  obtain ⟨hl42, hk41a, hk41b⟩ := cel_of (wf_5 hw hk36o) hx
  have hk41 : (T x).1 = 1 := hk41a (by omega)
  clear hk41a hk41b
  have hk41i : IA T x := by unfold IA; omega
  refine tn_callV (M := m_X4_addItem) (pc := 150) (ix := 144) (ci := 1) (M' := m_X1_set) (As := [.int (iI (σ.2.1 32 a)), .int (iI 11), .int (iI v22)]) (rest := []) dX4_addItem_150 ok_X1_set im_X1_set se_X1_set ml4_144 np_X1_set rfl rfl hk36o rfl (Nat.le_of_ble_eq_true rfl) (Nat.le_of_ble_eq_true rfl) rfl (k_X1_set_x (d + 1) (T := T) (σ := σ24) (a := h) (k := σ.2.1 32 a) (c := 11) (y := v22) (x := x) (n := n) (W := cW σ24 x n) hk36o (by omega) (by decide) (by omega) w27 (rc_F F28 (Or.inl (by decide)) (by decide) (hx)) (rc_F F28 (Or.inl (by decide)) (by decide) (hn)) rfl (by omega) (by omega) (by omega) (by omega)) (fun r43 T45 σ44 gt46 hp => ?_)
  obtain ⟨rfl, rfl, w50, F51, f47, f48⟩ := hp
  clear gt46
  show Tn _ _ 153 T σ44 [(0, .ref a), (1, .int (iI k)), (2, .int (iI v15)), (3, .int (iI v22)), (4, .int (iI i423))] [] _
  refine tn_iload_n dX4_addItem_153 rfl 2 rfl ?_
  refine tn_bipush dX4_addItem_154 (by decide) ?_
  refine tn_icmp_eq (tgt := 165) dX4_addItem_156 (by decide) ⟨by omega, by omega⟩ ⟨by decide, by decide⟩ (fun h52 => ?_) (fun h52 => ?_)
  · refine tn_iconst dX4_addItem_165 ?_
    refine tn_goto (tgt := 170) dX4_addItem_166 (by decide) ?_
    refine tn_istore (L' := [(4, .int (iI 1)), (0, .ref a), (1, .int (iI k)), (2, .int (iI v15)), (3, .int (iI v22))]) dX4_addItem_170 (by decide) rfl ?_
    refine tn_aload_n dX4_addItem_172 rfl 1 rfl ?_
    refine tn_iload_n dX4_addItem_173 rfl 3 rfl ?_
    refine tn_aload_n dX4_addItem_174 rfl 1 rfl ?_
    refine tn_getR (ci := 4) (i := 3) (n := 26) (x := g) dX4_addItem_175 rfl lay_4 (by decide) fl4_33 ha rfl rfl (rc_F F51 (Or.inl (by decide)) (by decide) (rc_F F28 (Or.inl (by decide)) (by decide) (hg))) ?_
    refine tn_iload_n dX4_addItem_178 rfl 2 rfl ?_
    refine tn_iconst dX4_addItem_179 ?_
    have cv53 : cW σ44 y ng = Wg := (cW_row (CHX.r f47 (by first | (simp; done) | (simp only [List.mem_cons, List.not_mem_nil, or_false, not_or]; first | omega | ((repeat' apply And.intro) <;> first | assumption | (apply Ne.symm; assumption)))))).trans ((cW_row (CHX.r f30 (by first | (simp; done) | (simp only [List.mem_cons, List.not_mem_nil, or_false, not_or]; first | omega | ((repeat' apply And.intro) <;> first | assumption | (apply Ne.symm; assumption)))))).trans (hWg))
    refine tn_callV (M := m_X4_addItem) (pc := 180) (ix := 29) (ci := 1) (M' := m_X1_get) (As := [.int (iI k), .int (iI 1)]) (rest := [.int (iI v15), .ref a]) dX4_addItem_180 ok_X1_get im_X1_get se_X1_get ml4_29 np_X1_get rfl rfl hk3o rfl (Nat.le_of_ble_eq_true rfl) (Nat.le_of_ble_eq_true rfl) rfl (k_X1_get_x (d + 1) (T := T) (σ := σ44) (a := g) (k := k) (c := 1) (x := y) (n := ng) (W := Wg) hk3o (by omega) (by decide) w50 (rc_F F51 (Or.inl (by decide)) (by decide) (rc_F F28 (Or.inl (by decide)) (by decide) (hy))) (rc_F F51 (Or.inl (by decide)) (by decide) (rc_F F28 (Or.inl (by decide)) (by decide) (hng))) cv53 (by omega) (by omega)) (fun r54 T56 σ55 gt57 hp => ?_)
    obtain ⟨v60, rfl, rfl, rfl, f58, f59⟩ := hp
    clear gt57
    show Tn _ _ 183 T σ44 [(4, .int (iI 1)), (0, .ref a), (1, .int (iI k)), (2, .int (iI v15)), (3, .int (iI v22))] [.int (iI v60), .int (iI v15), .ref a] _
    refine tn_aload_n dX4_addItem_183 rfl 1 rfl ?_
    refine tn_iload_n dX4_addItem_184 rfl 3 rfl ?_
    have hg9 := hgk k (by omega) (by omega)
    have hg8 := hg9.1.1
    have hg7 := hg9.1.2.1
    refine tn_callV (M := m_X4_addItem) (pc := 185) (ix := 160) (ci := 4) (M' := m_X4_shiftOf) (As := [.int (iI v15)]) (rest := [.int (iI v60), .int (iI v15), .ref a]) dX4_addItem_185 ok_X4_shiftOf im_X4_shiftOf se_X4_shiftOf ml4_160 np_X4_shiftOf rfl rfl ha rfl (Nat.le_of_ble_eq_true rfl) (Nat.le_of_ble_eq_true rfl) rfl (k_X4_shiftOf_x (d) (T := T) (σ := σ44) (a := a) (k := v15) (base := base) (lb := lb) (fb := fb) ha (by omega) w50 (rc_F F51 (Or.inl (by decide)) (by decide) (rc_F F28 (Or.inl (by decide)) (by decide) (hbase))) (rc_F F51 (Or.inl (by decide)) (by decide) (rc_F F28 (Or.inl (by decide)) (by decide) (hlb))) (rc_F F51 (Or.inl (by decide)) (by decide) (rc_F F28 (Or.inl (by decide)) (by decide) (hfb))) (by omega)) (fun r61 T63 σ62 gt64 hp => ?_)
    obtain ⟨v67, rfl, rfl, rfl, f65, f66⟩ := hp
    clear gt64
    show Tn _ _ 188 T σ44 [(4, .int (iI 1)), (0, .ref a), (1, .int (iI k)), (2, .int (iI v15)), (3, .int (iI v22))] [.int (iI v67), .int (iI v60), .int (iI v15), .ref a] _
    have hs9 : v67 = shF fb base lb (Wg k 0) := by rw [f66]; congr 1 <;> omega
    have hs8 : -2147483648 ≤ Wg k 1 + v67 ∧ Wg k 1 + v67 ≤ 2147483647 := by rw [hs9]; have z1 := hg9.2.1; have z2 := hg9.2.2.2; unfold shF; (repeat' split) <;> omega
    refine tn_iadd dX4_addItem_188 ?_
    refine tn_aload_n dX4_addItem_189 rfl 1 rfl ?_
    refine tn_getR (ci := 4) (i := 3) (n := 26) (x := g) dX4_addItem_190 rfl lay_4 (by decide) fl4_33 ha rfl rfl (rc_F F51 (Or.inl (by decide)) (by decide) (rc_F F28 (Or.inl (by decide)) (by decide) (hg))) ?_
    refine tn_iload_n dX4_addItem_193 rfl 2 rfl ?_
    refine tn_iconst dX4_addItem_194 ?_
    refine tn_callV (M := m_X4_addItem) (pc := 195) (ix := 29) (ci := 1) (M' := m_X1_get) (As := [.int (iI k), .int (iI 2)]) (rest := [.int (iI (v60 + v67)), .int (iI v15), .ref a]) dX4_addItem_195 ok_X1_get im_X1_get se_X1_get ml4_29 np_X1_get rfl rfl hk3o rfl (Nat.le_of_ble_eq_true rfl) (Nat.le_of_ble_eq_true rfl) rfl (k_X1_get_x (d + 1) (T := T) (σ := σ44) (a := g) (k := k) (c := 2) (x := y) (n := ng) (W := Wg) hk3o (by omega) (by decide) w50 (rc_F F51 (Or.inl (by decide)) (by decide) (rc_F F28 (Or.inl (by decide)) (by decide) (hy))) (rc_F F51 (Or.inl (by decide)) (by decide) (rc_F F28 (Or.inl (by decide)) (by decide) (hng))) cv53 (by omega) (by omega)) (fun r68 T70 σ69 gt71 hp => ?_)
    obtain ⟨v74, rfl, rfl, rfl, f72, f73⟩ := hp
    clear gt71
    show Tn _ _ 198 T σ44 [(4, .int (iI 1)), (0, .ref a), (1, .int (iI k)), (2, .int (iI v15)), (3, .int (iI v22))] [.int (iI v74), .int (iI (v60 + v67)), .int (iI v15), .ref a] _
    refine tn_iload dX4_addItem_198 0 rfl ?_
    refine tn_if_eq (tgt := 210) dX4_addItem_200 (by decide) ⟨by decide, by decide⟩ (fun h => absurd h (by decide)) (fun _ => ?_)
    refine tn_aload_n dX4_addItem_203 rfl 1 rfl ?_
    refine tn_getI (ci := 4) (i := 6) (n := 29) (t := σ.2.1 29 a) dX4_addItem_204 rfl lay_4 (by decide) fl4_69 ha rfl rfl (rc_F F51 (Or.inl (by decide)) (by decide) (rc_F F28 (Or.inl (by decide)) (by decide) (rfl))) ?_
    have g76 : ((-2147483648 : Int) ≤ σ.2.1 29 a ∧ σ.2.1 29 a ≤ 2147483647) := wf_29 hw ha
    refine tn_goto (tgt := 211) dX4_addItem_207 (by decide) ?_
    have hg6 := hg9.2.2.1
    refine tn_iadd dX4_addItem_211 ?_
    refine tn_callV (M := m_X4_addItem) (pc := 212) (ix := 148) (ci := 4) (M' := m_X4_addRow) (As := [.int (iI v15), .int (iI (v60 + v67)), .int (iI (v74 + (σ.2.1 29 a)))]) (rest := []) dX4_addItem_212 ok_X4_addRow im_X4_addRow se_X4_addRow ml4_148 np_X4_addRow rfl rfl ha rfl (Nat.le_of_ble_eq_true rfl) (Nat.le_of_ble_eq_true rfl) rfl (k_X4_addRow_x (d) (T := T) (σ := σ44) (a := a) (p1 := v15) (p2 := v60 + v67) (p3 := v74 + (σ.2.1 29 a)) (h := h) (x := x) (n := n) (W := cW σ44 x n) (rz := rz) ha (by omega) (by omega) (by omega) w50 (rc_F F51 (Or.inl (by decide)) (by decide) (rc_F F28 (Or.inl (by decide)) (by decide) (hh))) (rc_F F51 (Or.inl (by decide)) (by decide) (rc_F F28 (Or.inl (by decide)) (by decide) (hx))) (rc_F F51 (Or.inl (by decide)) (by decide) (rc_F F28 (Or.inl (by decide)) (by decide) (hn))) rfl (rc_F F51 (Or.inl (by decide)) (by decide) (rc_F F28 (Or.inl (by decide)) (by decide) (hrz))) (by omega) (by omega)) (fun r77 T79 σ78 gt80 hp => ?_)
    obtain ⟨rfl, rfl, w85, F86, f81, f82, f83⟩ := hp
    clear gt80
    show Tn _ _ 215 T σ78 [(4, .int (iI 1)), (0, .ref a), (1, .int (iI k)), (2, .int (iI v15)), (3, .int (iI v22))] [] _
    exact tn_vret rfl dX4_addItem_215 ⟨rfl, rfl, w85, (((FrC.rfl.trans (FrC.sub F28 (by decide))).trans (FrC.sub F51 (by decide))).trans (FrC.sub F86 (by decide))), (((CHX.rfl.trans (CHX.sub f30 (by simp) (by simp) (by simp))).trans (CHX.sub f47 (by simp) (by simp) (by simp))).trans (CHX.sub f81 (by simp) (by simp) (by simp))), (by have z1 := f48; (first | rw [hrz] at z1 | skip); have z2 := f82; (first | rw [hrz] at z2 | skip); exact am_mk f31 (by omega) z1 z2 (by omega) (by omega) (by rw [← hs9]; omega) (by split <;> omega)), (f83.trans (by omega))⟩
  · refine tn_iload_n dX4_addItem_159 rfl 2 rfl ?_
    refine tn_bipush dX4_addItem_160 (by decide) ?_
    refine tn_icmp_ne (tgt := 169) dX4_addItem_162 (by decide) ⟨by omega, by omega⟩ ⟨by decide, by decide⟩ (fun h87 => ?_) (fun h87 => ?_)
    · refine tn_iconst dX4_addItem_169 ?_
      refine tn_istore (L' := [(4, .int (iI 0)), (0, .ref a), (1, .int (iI k)), (2, .int (iI v15)), (3, .int (iI v22))]) dX4_addItem_170 (by decide) rfl ?_
      refine tn_aload_n dX4_addItem_172 rfl 1 rfl ?_
      refine tn_iload_n dX4_addItem_173 rfl 3 rfl ?_
      refine tn_aload_n dX4_addItem_174 rfl 1 rfl ?_
      refine tn_getR (ci := 4) (i := 3) (n := 26) (x := g) dX4_addItem_175 rfl lay_4 (by decide) fl4_33 ha rfl rfl (rc_F F51 (Or.inl (by decide)) (by decide) (rc_F F28 (Or.inl (by decide)) (by decide) (hg))) ?_
      refine tn_iload_n dX4_addItem_178 rfl 2 rfl ?_
      refine tn_iconst dX4_addItem_179 ?_
      have cv88 : cW σ44 y ng = Wg := (cW_row (CHX.r f47 (by first | (simp; done) | (simp only [List.mem_cons, List.not_mem_nil, or_false, not_or]; first | omega | ((repeat' apply And.intro) <;> first | assumption | (apply Ne.symm; assumption)))))).trans ((cW_row (CHX.r f30 (by first | (simp; done) | (simp only [List.mem_cons, List.not_mem_nil, or_false, not_or]; first | omega | ((repeat' apply And.intro) <;> first | assumption | (apply Ne.symm; assumption)))))).trans (hWg))
      refine tn_callV (M := m_X4_addItem) (pc := 180) (ix := 29) (ci := 1) (M' := m_X1_get) (As := [.int (iI k), .int (iI 1)]) (rest := [.int (iI v15), .ref a]) dX4_addItem_180 ok_X1_get im_X1_get se_X1_get ml4_29 np_X1_get rfl rfl hk3o rfl (Nat.le_of_ble_eq_true rfl) (Nat.le_of_ble_eq_true rfl) rfl (k_X1_get_x (d + 1) (T := T) (σ := σ44) (a := g) (k := k) (c := 1) (x := y) (n := ng) (W := Wg) hk3o (by omega) (by decide) w50 (rc_F F51 (Or.inl (by decide)) (by decide) (rc_F F28 (Or.inl (by decide)) (by decide) (hy))) (rc_F F51 (Or.inl (by decide)) (by decide) (rc_F F28 (Or.inl (by decide)) (by decide) (hng))) cv88 (by omega) (by omega)) (fun r89 T91 σ90 gt92 hp => ?_)
      obtain ⟨v95, rfl, rfl, rfl, f93, f94⟩ := hp
      clear gt92
      show Tn _ _ 183 T σ44 [(4, .int (iI 0)), (0, .ref a), (1, .int (iI k)), (2, .int (iI v15)), (3, .int (iI v22))] [.int (iI v95), .int (iI v15), .ref a] _
      refine tn_aload_n dX4_addItem_183 rfl 1 rfl ?_
      refine tn_iload_n dX4_addItem_184 rfl 3 rfl ?_
      have hg9 := hgk k (by omega) (by omega)
      have hg8 := hg9.1.1
      have hg7 := hg9.1.2.1
      refine tn_callV (M := m_X4_addItem) (pc := 185) (ix := 160) (ci := 4) (M' := m_X4_shiftOf) (As := [.int (iI v15)]) (rest := [.int (iI v95), .int (iI v15), .ref a]) dX4_addItem_185 ok_X4_shiftOf im_X4_shiftOf se_X4_shiftOf ml4_160 np_X4_shiftOf rfl rfl ha rfl (Nat.le_of_ble_eq_true rfl) (Nat.le_of_ble_eq_true rfl) rfl (k_X4_shiftOf_x (d) (T := T) (σ := σ44) (a := a) (k := v15) (base := base) (lb := lb) (fb := fb) ha (by omega) w50 (rc_F F51 (Or.inl (by decide)) (by decide) (rc_F F28 (Or.inl (by decide)) (by decide) (hbase))) (rc_F F51 (Or.inl (by decide)) (by decide) (rc_F F28 (Or.inl (by decide)) (by decide) (hlb))) (rc_F F51 (Or.inl (by decide)) (by decide) (rc_F F28 (Or.inl (by decide)) (by decide) (hfb))) (by omega)) (fun r96 T98 σ97 gt99 hp => ?_)
      obtain ⟨v102, rfl, rfl, rfl, f100, f101⟩ := hp
      clear gt99
      show Tn _ _ 188 T σ44 [(4, .int (iI 0)), (0, .ref a), (1, .int (iI k)), (2, .int (iI v15)), (3, .int (iI v22))] [.int (iI v102), .int (iI v95), .int (iI v15), .ref a] _
      have hs9 : v102 = shF fb base lb (Wg k 0) := by rw [f101]; congr 1 <;> omega
      have hs8 : -2147483648 ≤ Wg k 1 + v102 ∧ Wg k 1 + v102 ≤ 2147483647 := by rw [hs9]; have z1 := hg9.2.1; have z2 := hg9.2.2.2; unfold shF; (repeat' split) <;> omega
      refine tn_iadd dX4_addItem_188 ?_
      refine tn_aload_n dX4_addItem_189 rfl 1 rfl ?_
      refine tn_getR (ci := 4) (i := 3) (n := 26) (x := g) dX4_addItem_190 rfl lay_4 (by decide) fl4_33 ha rfl rfl (rc_F F51 (Or.inl (by decide)) (by decide) (rc_F F28 (Or.inl (by decide)) (by decide) (hg))) ?_
      refine tn_iload_n dX4_addItem_193 rfl 2 rfl ?_
      refine tn_iconst dX4_addItem_194 ?_
      refine tn_callV (M := m_X4_addItem) (pc := 195) (ix := 29) (ci := 1) (M' := m_X1_get) (As := [.int (iI k), .int (iI 2)]) (rest := [.int (iI (v95 + v102)), .int (iI v15), .ref a]) dX4_addItem_195 ok_X1_get im_X1_get se_X1_get ml4_29 np_X1_get rfl rfl hk3o rfl (Nat.le_of_ble_eq_true rfl) (Nat.le_of_ble_eq_true rfl) rfl (k_X1_get_x (d + 1) (T := T) (σ := σ44) (a := g) (k := k) (c := 2) (x := y) (n := ng) (W := Wg) hk3o (by omega) (by decide) w50 (rc_F F51 (Or.inl (by decide)) (by decide) (rc_F F28 (Or.inl (by decide)) (by decide) (hy))) (rc_F F51 (Or.inl (by decide)) (by decide) (rc_F F28 (Or.inl (by decide)) (by decide) (hng))) cv88 (by omega) (by omega)) (fun r103 T105 σ104 gt106 hp => ?_)
      obtain ⟨v109, rfl, rfl, rfl, f107, f108⟩ := hp
      clear gt106
      show Tn _ _ 198 T σ44 [(4, .int (iI 0)), (0, .ref a), (1, .int (iI k)), (2, .int (iI v15)), (3, .int (iI v22))] [.int (iI v109), .int (iI (v95 + v102)), .int (iI v15), .ref a] _
      refine tn_iload dX4_addItem_198 0 rfl ?_
      refine tn_if_eq (tgt := 210) dX4_addItem_200 (by decide) ⟨by decide, by decide⟩ (fun _ => ?_) (fun h => absurd h (by decide))
      refine tn_iconst dX4_addItem_210 ?_
      have hg6 := hg9.2.2.1
      refine tn_iadd dX4_addItem_211 ?_
      refine tn_callV (M := m_X4_addItem) (pc := 212) (ix := 148) (ci := 4) (M' := m_X4_addRow) (As := [.int (iI v15), .int (iI (v95 + v102)), .int (iI (v109 + 0))]) (rest := []) dX4_addItem_212 ok_X4_addRow im_X4_addRow se_X4_addRow ml4_148 np_X4_addRow rfl rfl ha rfl (Nat.le_of_ble_eq_true rfl) (Nat.le_of_ble_eq_true rfl) rfl (k_X4_addRow_x (d) (T := T) (σ := σ44) (a := a) (p1 := v15) (p2 := v95 + v102) (p3 := v109 + 0) (h := h) (x := x) (n := n) (W := cW σ44 x n) (rz := rz) ha (by omega) (by omega) (by omega) w50 (rc_F F51 (Or.inl (by decide)) (by decide) (rc_F F28 (Or.inl (by decide)) (by decide) (hh))) (rc_F F51 (Or.inl (by decide)) (by decide) (rc_F F28 (Or.inl (by decide)) (by decide) (hx))) (rc_F F51 (Or.inl (by decide)) (by decide) (rc_F F28 (Or.inl (by decide)) (by decide) (hn))) rfl (rc_F F51 (Or.inl (by decide)) (by decide) (rc_F F28 (Or.inl (by decide)) (by decide) (hrz))) (by omega) (by omega)) (fun r111 T113 σ112 gt114 hp => ?_)
      obtain ⟨rfl, rfl, w119, F120, f115, f116, f117⟩ := hp
      clear gt114
      show Tn _ _ 215 T σ112 [(4, .int (iI 0)), (0, .ref a), (1, .int (iI k)), (2, .int (iI v15)), (3, .int (iI v22))] [] _
      exact tn_vret rfl dX4_addItem_215 ⟨rfl, rfl, w119, (((FrC.rfl.trans (FrC.sub F28 (by decide))).trans (FrC.sub F51 (by decide))).trans (FrC.sub F120 (by decide))), (((CHX.rfl.trans (CHX.sub f30 (by simp) (by simp) (by simp))).trans (CHX.sub f47 (by simp) (by simp) (by simp))).trans (CHX.sub f115 (by simp) (by simp) (by simp))), (by have z1 := f48; (first | rw [hrz] at z1 | skip); have z2 := f116; (first | rw [hrz] at z2 | skip); exact am_mk f31 (by omega) z1 z2 (by omega) (by omega) (by rw [← hs9]; omega) (by split <;> omega)), (f117.trans (by omega))⟩
    · refine tn_iconst dX4_addItem_165 ?_
      refine tn_goto (tgt := 170) dX4_addItem_166 (by decide) ?_
      refine tn_istore (L' := [(4, .int (iI 1)), (0, .ref a), (1, .int (iI k)), (2, .int (iI v15)), (3, .int (iI v22))]) dX4_addItem_170 (by decide) rfl ?_
      refine tn_aload_n dX4_addItem_172 rfl 1 rfl ?_
      refine tn_iload_n dX4_addItem_173 rfl 3 rfl ?_
      refine tn_aload_n dX4_addItem_174 rfl 1 rfl ?_
      refine tn_getR (ci := 4) (i := 3) (n := 26) (x := g) dX4_addItem_175 rfl lay_4 (by decide) fl4_33 ha rfl rfl (rc_F F51 (Or.inl (by decide)) (by decide) (rc_F F28 (Or.inl (by decide)) (by decide) (hg))) ?_
      refine tn_iload_n dX4_addItem_178 rfl 2 rfl ?_
      refine tn_iconst dX4_addItem_179 ?_
      have cv121 : cW σ44 y ng = Wg := (cW_row (CHX.r f47 (by first | (simp; done) | (simp only [List.mem_cons, List.not_mem_nil, or_false, not_or]; first | omega | ((repeat' apply And.intro) <;> first | assumption | (apply Ne.symm; assumption)))))).trans ((cW_row (CHX.r f30 (by first | (simp; done) | (simp only [List.mem_cons, List.not_mem_nil, or_false, not_or]; first | omega | ((repeat' apply And.intro) <;> first | assumption | (apply Ne.symm; assumption)))))).trans (hWg))
      refine tn_callV (M := m_X4_addItem) (pc := 180) (ix := 29) (ci := 1) (M' := m_X1_get) (As := [.int (iI k), .int (iI 1)]) (rest := [.int (iI v15), .ref a]) dX4_addItem_180 ok_X1_get im_X1_get se_X1_get ml4_29 np_X1_get rfl rfl hk3o rfl (Nat.le_of_ble_eq_true rfl) (Nat.le_of_ble_eq_true rfl) rfl (k_X1_get_x (d + 1) (T := T) (σ := σ44) (a := g) (k := k) (c := 1) (x := y) (n := ng) (W := Wg) hk3o (by omega) (by decide) w50 (rc_F F51 (Or.inl (by decide)) (by decide) (rc_F F28 (Or.inl (by decide)) (by decide) (hy))) (rc_F F51 (Or.inl (by decide)) (by decide) (rc_F F28 (Or.inl (by decide)) (by decide) (hng))) cv121 (by omega) (by omega)) (fun r122 T124 σ123 gt125 hp => ?_)
      obtain ⟨v128, rfl, rfl, rfl, f126, f127⟩ := hp
      clear gt125
      show Tn _ _ 183 T σ44 [(4, .int (iI 1)), (0, .ref a), (1, .int (iI k)), (2, .int (iI v15)), (3, .int (iI v22))] [.int (iI v128), .int (iI v15), .ref a] _
      refine tn_aload_n dX4_addItem_183 rfl 1 rfl ?_
      refine tn_iload_n dX4_addItem_184 rfl 3 rfl ?_
      have hg9 := hgk k (by omega) (by omega)
      have hg8 := hg9.1.1
      have hg7 := hg9.1.2.1
      refine tn_callV (M := m_X4_addItem) (pc := 185) (ix := 160) (ci := 4) (M' := m_X4_shiftOf) (As := [.int (iI v15)]) (rest := [.int (iI v128), .int (iI v15), .ref a]) dX4_addItem_185 ok_X4_shiftOf im_X4_shiftOf se_X4_shiftOf ml4_160 np_X4_shiftOf rfl rfl ha rfl (Nat.le_of_ble_eq_true rfl) (Nat.le_of_ble_eq_true rfl) rfl (k_X4_shiftOf_x (d) (T := T) (σ := σ44) (a := a) (k := v15) (base := base) (lb := lb) (fb := fb) ha (by omega) w50 (rc_F F51 (Or.inl (by decide)) (by decide) (rc_F F28 (Or.inl (by decide)) (by decide) (hbase))) (rc_F F51 (Or.inl (by decide)) (by decide) (rc_F F28 (Or.inl (by decide)) (by decide) (hlb))) (rc_F F51 (Or.inl (by decide)) (by decide) (rc_F F28 (Or.inl (by decide)) (by decide) (hfb))) (by omega)) (fun r129 T131 σ130 gt132 hp => ?_)
      obtain ⟨v135, rfl, rfl, rfl, f133, f134⟩ := hp
      clear gt132
      show Tn _ _ 188 T σ44 [(4, .int (iI 1)), (0, .ref a), (1, .int (iI k)), (2, .int (iI v15)), (3, .int (iI v22))] [.int (iI v135), .int (iI v128), .int (iI v15), .ref a] _
      have hs9 : v135 = shF fb base lb (Wg k 0) := by rw [f134]; congr 1 <;> omega
      have hs8 : -2147483648 ≤ Wg k 1 + v135 ∧ Wg k 1 + v135 ≤ 2147483647 := by rw [hs9]; have z1 := hg9.2.1; have z2 := hg9.2.2.2; unfold shF; (repeat' split) <;> omega
      refine tn_iadd dX4_addItem_188 ?_
      refine tn_aload_n dX4_addItem_189 rfl 1 rfl ?_
      refine tn_getR (ci := 4) (i := 3) (n := 26) (x := g) dX4_addItem_190 rfl lay_4 (by decide) fl4_33 ha rfl rfl (rc_F F51 (Or.inl (by decide)) (by decide) (rc_F F28 (Or.inl (by decide)) (by decide) (hg))) ?_
      refine tn_iload_n dX4_addItem_193 rfl 2 rfl ?_
      refine tn_iconst dX4_addItem_194 ?_
      refine tn_callV (M := m_X4_addItem) (pc := 195) (ix := 29) (ci := 1) (M' := m_X1_get) (As := [.int (iI k), .int (iI 2)]) (rest := [.int (iI (v128 + v135)), .int (iI v15), .ref a]) dX4_addItem_195 ok_X1_get im_X1_get se_X1_get ml4_29 np_X1_get rfl rfl hk3o rfl (Nat.le_of_ble_eq_true rfl) (Nat.le_of_ble_eq_true rfl) rfl (k_X1_get_x (d + 1) (T := T) (σ := σ44) (a := g) (k := k) (c := 2) (x := y) (n := ng) (W := Wg) hk3o (by omega) (by decide) w50 (rc_F F51 (Or.inl (by decide)) (by decide) (rc_F F28 (Or.inl (by decide)) (by decide) (hy))) (rc_F F51 (Or.inl (by decide)) (by decide) (rc_F F28 (Or.inl (by decide)) (by decide) (hng))) cv121 (by omega) (by omega)) (fun r136 T138 σ137 gt139 hp => ?_)
      obtain ⟨v142, rfl, rfl, rfl, f140, f141⟩ := hp
      clear gt139
      show Tn _ _ 198 T σ44 [(4, .int (iI 1)), (0, .ref a), (1, .int (iI k)), (2, .int (iI v15)), (3, .int (iI v22))] [.int (iI v142), .int (iI (v128 + v135)), .int (iI v15), .ref a] _
      refine tn_iload dX4_addItem_198 0 rfl ?_
      refine tn_if_eq (tgt := 210) dX4_addItem_200 (by decide) ⟨by decide, by decide⟩ (fun h => absurd h (by decide)) (fun _ => ?_)
      refine tn_aload_n dX4_addItem_203 rfl 1 rfl ?_
      refine tn_getI (ci := 4) (i := 6) (n := 29) (t := σ.2.1 29 a) dX4_addItem_204 rfl lay_4 (by decide) fl4_69 ha rfl rfl (rc_F F51 (Or.inl (by decide)) (by decide) (rc_F F28 (Or.inl (by decide)) (by decide) (rfl))) ?_
      have g144 : ((-2147483648 : Int) ≤ σ.2.1 29 a ∧ σ.2.1 29 a ≤ 2147483647) := wf_29 hw ha
      refine tn_goto (tgt := 211) dX4_addItem_207 (by decide) ?_
      have hg6 := hg9.2.2.1
      refine tn_iadd dX4_addItem_211 ?_
      refine tn_callV (M := m_X4_addItem) (pc := 212) (ix := 148) (ci := 4) (M' := m_X4_addRow) (As := [.int (iI v15), .int (iI (v128 + v135)), .int (iI (v142 + (σ.2.1 29 a)))]) (rest := []) dX4_addItem_212 ok_X4_addRow im_X4_addRow se_X4_addRow ml4_148 np_X4_addRow rfl rfl ha rfl (Nat.le_of_ble_eq_true rfl) (Nat.le_of_ble_eq_true rfl) rfl (k_X4_addRow_x (d) (T := T) (σ := σ44) (a := a) (p1 := v15) (p2 := v128 + v135) (p3 := v142 + (σ.2.1 29 a)) (h := h) (x := x) (n := n) (W := cW σ44 x n) (rz := rz) ha (by omega) (by omega) (by omega) w50 (rc_F F51 (Or.inl (by decide)) (by decide) (rc_F F28 (Or.inl (by decide)) (by decide) (hh))) (rc_F F51 (Or.inl (by decide)) (by decide) (rc_F F28 (Or.inl (by decide)) (by decide) (hx))) (rc_F F51 (Or.inl (by decide)) (by decide) (rc_F F28 (Or.inl (by decide)) (by decide) (hn))) rfl (rc_F F51 (Or.inl (by decide)) (by decide) (rc_F F28 (Or.inl (by decide)) (by decide) (hrz))) (by omega) (by omega)) (fun r145 T147 σ146 gt148 hp => ?_)
      obtain ⟨rfl, rfl, w153, F154, f149, f150, f151⟩ := hp
      clear gt148
      show Tn _ _ 215 T σ146 [(4, .int (iI 1)), (0, .ref a), (1, .int (iI k)), (2, .int (iI v15)), (3, .int (iI v22))] [] _
      exact tn_vret rfl dX4_addItem_215 ⟨rfl, rfl, w153, (((FrC.rfl.trans (FrC.sub F28 (by decide))).trans (FrC.sub F51 (by decide))).trans (FrC.sub F154 (by decide))), (((CHX.rfl.trans (CHX.sub f30 (by simp) (by simp) (by simp))).trans (CHX.sub f47 (by simp) (by simp) (by simp))).trans (CHX.sub f149 (by simp) (by simp) (by simp))), (by have z1 := f48; (first | rw [hrz] at z1 | skip); have z2 := f150; (first | rw [hrz] at z2 | skip); exact am_mk f31 (by omega) z1 z2 (by omega) (by omega) (by rw [← hs9]; omega) (by split <;> omega)), (f151.trans (by omega))⟩
end
section
def qOK (F : Int) (i : It) : Prop := iOK i ∧ (i 0 = 8 ∨ i 0 = 9 ∨ i 0 = 13 → 0 ≤ i 1 ∧ i 1 + 2 ≤ 122 * F) ∧ (i 0 = 11 ∨ i 0 = 12 → 0 ≤ i 2 ∧ i 2 < F) ∧ (i 0 = 14 ∨ i 0 = 15 → 0 ≤ i 1 ∧ i 1 < F) ∧ ∀ c, ¬ (0 ≤ c ∧ c ≤ 12) → i c = 0
def QOK (F : Int) (W : Int → It) (n : Int) : Prop := ∀ k, 0 ≤ k → k < n → qOK F (W k)
theorem QOK.g {F n : Int} {W : Int → It} (h : QOK F W n) (hF : F ≤ 12) : GOK W n := fun k a b => by
  obtain ⟨h1, h2, h3, h4, -⟩ := h k a b
  exact ⟨h1, fun q => by have := h2 q; omega, fun q => by have := h3 q; omega, fun q => by have := h4 q; omega⟩
theorem QOK.w {F n : Int} {W : Int → It} (h : QOK F W n) : WOK W n := fun k a b => (h k a b).1
def BLD (F : Int) (W0 W : Int → It) (k a row : Int) (s : BB) : Prop := row = k + s.1 ∧ (0 ≤ s.1 ∧ s.1 ≤ a) ∧ (∀ j, 0 ≤ j → j < s.1 → nrm (W (k + j)) = s.2 j ∧ qOK F (W (k + j)) ∧ W (k + j) 0 ≠ 10) ∧ (∀ j, s.1 ≤ j → j < a → W (k + j) = zI) ∧ ∀ i, (i < k ∨ k + a ≤ i) → W i = W0 i
section BLDS
variable {F k a row row2 : Int} {W0 W W1 W2 : Int → It} {s : BB} {i t : It}
theorem BLD.z (h : BLD F W0 W k a row s) (ha : s.1 < a) : W row = zI := by
  rw [h.1]; exact h.2.2.2.1 s.1 (Int.le_refl _) ha
theorem BLD.put (h : BLD F W0 W k a row s) (ha : s.1 < a) (e : W2 = uZ W row i) (er : row2 = row + 1) (hn : nrm i = t) (hq : qOK F i) (h10 : i 0 ≠ 10) : BLD F W0 W2 k a row2 (bA s t) := by
  obtain ⟨h1, h2, h3, h4, h5⟩ := h
  subst h1
  refine ⟨by show row2 = k + (s.1 + 1); omega, ⟨by show 0 ≤ s.1 + 1; omega, by show s.1 + 1 ≤ a; omega⟩, fun j p q => ?_, fun j p q => ?_, fun j p => ?_⟩
  · have q' : j < s.1 + 1 := q
    rw [e]
    show nrm (uZ W (k + s.1) i (k + j)) = uZ s.2 s.1 t j ∧ _
    by_cases z : j = s.1
    · rw [z, uZ_eq, uZ_eq]; exact ⟨hn, hq, h10⟩
    · rw [uZ_ne z, uZ_ne (by omega)]; exact h3 j p (by omega)
  · have p' : s.1 + 1 ≤ j := p
    rw [e, uZ_ne (by omega)]; exact h4 j (by omega) q
  · rw [e, uZ_ne (by omega)]; exact h5 j p
theorem BLD.start (h0 : 0 ≤ a) (hz : ∀ j, 0 ≤ j → j < a → W (k + j) = zI) : BLD F W W k a k (0, fun _ => zI) := ⟨by show k = k + 0; omega, ⟨Int.le_refl 0, h0⟩, fun j p q => by have q' : j < 0 := q; omega, fun j p q => hz j p q, fun _ _ => rfl⟩
def r3 (kd d o : Int) : It := uZ (uZ (uZ zI 0 kd) 1 d) 2 o
def rC (r kd num : Int) : It := uZ (uZ (uZ (uZ (uZ zI 3 kd) 4 num) 0 0) 1 r) 2 0
def rB (m f w z : Int) : It := uZ (uZ (uZ (swI zI w z) 0 12) 1 m) 2 f
theorem r3_nrm {kd d o : Int} (h : kd ≠ 12) : nrm (r3 kd d o) = mkI kd d o 0 0 0 := by
  funext c
  unfold nrm r3 mkI uZ zI
  grind
theorem rC_nrm {r kd num : Int} : nrm (rC r kd num) = mkI 0 r 0 kd num 0 := by
  funext c
  unfold nrm rC mkI uZ zI
  grind
theorem rB_nrm {m f w z : Int} (h : w = 1 ∨ w = 2) : nrm (rB m f w z) = mkI 12 m f w z w := by
  funext c
  unfold nrm rB mkI swI uZ zI
  grind
theorem iOK_z {i : It} (h0 : 0 ≤ i 0 ∧ i 0 ≤ 15) (h1 : (i 0 ≤ 5 ∨ i 0 = 10) → 0 ≤ i 1 ∧ i 1 < 192) (h3 : (0 ≤ i 3 ∧ i 3 ≤ 2) ∧ (i 3 = 2 → 0 ≤ i 4 ∧ i 4 < 192)) (h5 : i 5 = 0 ∧ i 6 = 0 ∧ i 7 = 0 ∧ i 9 = 0) (hb : i 0 = 12 → (i 11 = 1 ∨ i 11 = 2) → i 3 = 0 ∧ (i 11 = 2 → 0 ≤ i 4 ∧ i 4 < 192)) : iOK i := ⟨h0, h1, iOK.ops h3 ⟨by omega, fun e => by omega⟩ ⟨by omega, fun e => by omega⟩ ⟨by omega, fun e => by omega⟩, fun _ => ⟨by omega, by omega⟩, fun a b => ⟨(hb a b).1, h5.1, h5.2.1, (hb a b).2⟩⟩
theorem r3_out {kd d o c : Int} (h : ¬ (0 ≤ c ∧ c ≤ 12)) : r3 kd d o c = 0 := by
  unfold r3
  rw [uZ_ne (by omega), uZ_ne (by omega), uZ_ne (by omega)]; rfl
theorem rC_out {r kd num c : Int} (h : ¬ (0 ≤ c ∧ c ≤ 12)) : rC r kd num c = 0 := by
  unfold rC
  rw [uZ_ne (by omega), uZ_ne (by omega), uZ_ne (by omega), uZ_ne (by omega), uZ_ne (by omega)]; rfl
theorem rB_out {m f w z c : Int} (h : ¬ (0 ≤ c ∧ c ≤ 12)) : rB m f w z c = 0 := by
  unfold rB swI
  rw [uZ_ne (by omega), uZ_ne (by omega), uZ_ne (by omega), uZ_ne (by omega), uZ_ne (by omega), uZ_ne (by omega), uZ_ne (by omega), uZ_ne (by omega)]; rfl
theorem r3_q {kd d o : Int} (h : (kd = 8 ∨ kd = 13) ∧ 0 ≤ d ∧ d + 2 ≤ 122 * F ∨ (kd = 14 ∨ kd = 15) ∧ 0 ≤ d ∧ d < F) : qOK F (r3 kd d o) := by
  have e0 : r3 kd d o 0 = kd := rfl
  have e1 : r3 kd d o 1 = d := rfl
  have e3 : r3 kd d o 3 = 0 := rfl
  refine ⟨iOK_z (by rw [e0]; omega) (fun q => by rw [e0] at q; omega) ⟨⟨by omega, by omega⟩, fun e => by omega⟩ ⟨rfl, rfl, rfl, rfl⟩ (fun q => by rw [e0] at q; omega), fun q => by rw [e0] at q; rw [e1]; omega, fun q => by rw [e0] at q; omega, fun q => by rw [e0] at q; rw [e1]; omega, fun c q => r3_out q⟩
theorem rC_q {r kd num : Int} (hr : 0 ≤ r ∧ r < 192) (hk : 0 ≤ kd ∧ kd ≤ 2) (hn : kd = 2 → 0 ≤ num ∧ num < 192) : qOK F (rC r kd num) := by
  have e0 : rC r kd num 0 = 0 := rfl
  have e1 : rC r kd num 1 = r := rfl
  have e3 : rC r kd num 3 = kd := rfl
  have e4 : rC r kd num 4 = num := rfl
  refine ⟨iOK_z (by rw [e0]; omega) (fun _ => by rw [e1]; exact hr) (by rw [e3, e4]; exact ⟨hk, hn⟩) ⟨rfl, rfl, rfl, rfl⟩ (fun q => by rw [e0] at q; omega), fun q => by rw [e0] at q; omega, fun q => by rw [e0] at q; omega, fun q => by rw [e0] at q; omega, fun c q => rC_out q⟩
theorem rB_q {m f w z : Int} (hw : w = 1 ∨ (w = 2 ∧ 0 ≤ z ∧ z < 192)) (hf : 0 ≤ f ∧ f < F) : qOK F (rB m f w z) := by
  have e0 : rB m f w z 0 = 12 := rfl
  have e2 : rB m f w z 2 = f := rfl
  have e3 : rB m f w z 3 = 0 := rfl
  have e4 : rB m f w z 4 = z := rfl
  have e11 : rB m f w z 11 = w := rfl
  refine ⟨iOK_z (by rw [e0]; omega) (fun q => by rw [e0] at q; omega) ⟨⟨by omega, by omega⟩, fun e => by omega⟩ ⟨rfl, rfl, rfl, rfl⟩ (fun _ _ => ⟨rfl, fun e => by rw [e11] at e; rw [e4]; omega⟩), fun q => by rw [e0] at q; omega, fun q => by rw [e2]; exact hf, fun q => by rw [e0] at q; omega, fun c q => rB_out q⟩
theorem BLD.rw3 {kd d o : Int} (h : BLD F W0 W k a row s) (ha : s.1 < a) (e : W2 = uZ W row (uZ (uZ (uZ (W row) 0 kd) 1 d) 2 o)) (er : row2 = row + 1) (hq : (kd = 8 ∨ kd = 13) ∧ 0 ≤ d ∧ d + 2 ≤ 122 * F ∨ (kd = 14 ∨ kd = 15) ∧ 0 ≤ d ∧ d < F) : BLD F W0 W2 k a row2 (bA s (mkI kd d o 0 0 0)) := by
  rw [h.z ha] at e
  exact h.put ha e er (r3_nrm (by omega)) (r3_q hq) (by show r3 kd d o 0 ≠ 10; rw [show r3 kd d o 0 = kd from rfl]; omega)
theorem BLD.copy {r kd num : Int} (h : BLD F W0 W k a row s) (ha : s.1 < a) (e : W2 = uZ W row (uZ (uZ (uZ (uZ (uZ (W row) 3 kd) 4 num) 0 0) 1 r) 2 0)) (er : row2 = row + 1) (hr : 0 ≤ r ∧ r < 192) (hk : 0 ≤ kd ∧ kd ≤ 2) (hn : kd = 2 → 0 ≤ num ∧ num < 192) : BLD F W0 W2 k a row2 (bA s (mkI 0 r 0 kd num 0)) := by
  rw [h.z ha] at e
  exact h.put ha e er rC_nrm (rC_q hr hk hn) (show rC r kd num 0 ≠ 10 by rw [show rC r kd num 0 = 0 from rfl]; decide)
theorem BLD.bind {m f w z : Int} (h : BLD F W0 W k a row s) (ha : s.1 < a) (e1 : W1 = uZ W row (swI (W row) w z)) (e : W2 = uZ W1 row (uZ (uZ (uZ (W1 row) 0 12) 1 m) 2 f)) (er : row2 = row + 1) (hw : w = 1 ∨ (w = 2 ∧ 0 ≤ z ∧ z < 192)) (hf : 0 ≤ f ∧ f < F) : BLD F W0 W2 k a row2 (bA s (mkI 12 m f w z w)) := by
  rw [h.z ha] at e1
  exact h.put ha (it_3 e1 e) er (rB_nrm (by omega)) (rB_q hw hf) (show rB m f w z 0 ≠ 10 by rw [show rB m f w z 0 = 12 from rfl]; decide)
theorem am_q {fb base lb Fg : Int} (h : qOK Fg i) (h7 : i 0 ≠ 7 ∧ i 0 ≠ 10) (hF : F = fb + Fg) (h0 : 0 ≤ fb ∧ 0 ≤ lb ∧ lb ≤ 122 * fb ∧ 0 ≤ base) (hr : ∀ g, wrT i g ∨ rdI (nrm i) g → g + base < 192) : qOK F (amI fb base lb i zI) := by
  obtain ⟨q1, q2, q3, q4, q5⟩ := h
  have a0 : amI fb base lb i zI 0 = i 0 := by unfold amI; rw [uZ_ne (by decide), uZ_ne (by decide), uZ_eq]
  have a11 : amI fb base lb i zI 11 = i 11 := by unfold amI; rw [uZ_ne (by decide), uZ_ne (by decide), uZ_ne (by decide), uZ_eq]
  have a1 : amI fb base lb i zI 1 = i 1 + shF fb base lb (i 0) := by unfold amI; rw [uZ_ne (by decide), uZ_eq]
  have a2 : amI fb base lb i zI 2 = i 2 + (if i 0 = 11 ∨ i 0 = 12 then fb else 0) := by unfold amI; rw [uZ_eq]
  have ac : ∀ c, 3 ≤ c → c < 11 → amI fb base lb i zI c = aiO base i c := fun c x y => by
    unfold amI
    rw [uZ_ne (by omega), uZ_ne (by omega), uZ_ne (by omega), uZ_ne (by omega)]
    unfold aiP
    rw [if_pos (by omega)]
  have ak : ∀ c, c = 3 ∨ c = 5 ∨ c = 7 ∨ c = 9 → amI fb base lb i zI c = i c := fun c x => by
    rw [ac c (by omega) (by omega)]
    unfold aiO
    rw [if_pos x]
  have an : ∀ c, c = 4 ∨ c = 6 ∨ c = 8 ∨ c = 10 → amI fb base lb i zI c = dI (rgB i (c - 1)) (i c + base) (i c) := fun c x => by
    rw [ac c (by omega) (by omega)]
    unfold aiO
    rw [if_neg (by omega)]
  have nn : ∀ c, c = 3 ∨ c = 5 ∨ c = 7 ∨ c = 9 → i c = 2 → 0 ≤ i (c + 1) ∧ i (c + 1) + base < 192 := fun c x y => by
    refine ⟨(q1.op x y).1, hr _ (Or.inr (rdI_iff.mpr ?_))⟩
    rcases x with rfl | rfl | rfl | rfl
    · have e3 : nrm i 3 = 2 := by
        by_cases b : i 0 = 12 ∧ (i 11 = 1 ∨ i 11 = 2)
        · have z := q1.2.2.2.2 b.1 b.2; omega
        · unfold nrm; rw [if_neg (fun q => b q.2), if_neg (by decide)]; exact y
      exact Or.inl ⟨e3, nrm_ne (by decide) (by decide)⟩
    · exact Or.inr (Or.inl ⟨by rw [nrm_ne (by decide) (by decide)]; exact y, nrm_ne (by decide) (by decide)⟩)
    · exact Or.inr (Or.inr (Or.inl ⟨by rw [nrm_ne (by decide) (by decide)]; exact y, nrm_ne (by decide) (by decide)⟩))
    · exact Or.inr (Or.inr (Or.inr ⟨by rw [nrm_ne (by decide) (by decide)]; exact y, nrm_ne (by decide) (by decide)⟩))
  have oc : ∀ c, c = 3 ∨ c = 5 ∨ c = 7 ∨ c = 9 → (0 ≤ amI fb base lb i zI c ∧ amI fb base lb i zI c ≤ 2) ∧ (amI fb base lb i zI c = 2 → 0 ≤ amI fb base lb i zI (c + 1) ∧ amI fb base lb i zI (c + 1) < 192) := fun c x => by
    rw [ak c x]
    refine ⟨q1.kd x, fun e => ?_⟩
    rw [an (c + 1) (by omega), dI_y (show rgB i (c + 1 - 1) from Or.inl (by rw [show c + 1 - 1 = c by omega]; exact e))]
    have z := nn c x e
    omega
  have sh : ∀ z, shF fb base lb z = if z ≤ 5 then base else if z = 8 ∨ z = 9 ∨ z = 13 then lb else if z = 14 ∨ z = 15 then fb else 0 := fun z => rfl
  refine ⟨⟨by rw [a0]; exact q1.1, fun q => ?_, iOK.ops (oc 3 (by omega)) (oc 5 (by omega)) (oc 7 (by omega)) (oc 9 (by omega)), fun q => ?_, fun x y => ?_⟩, fun q => ?_, fun q => ?_, fun q => ?_, fun c q => ?_⟩
  · rw [a0] at q
    rw [a1, sh, if_pos (by omega)]
    have z := q1.2.1 q
    have w := hr (i 1) (Or.inl ⟨q, rfl⟩)
    omega
  · rw [ak 7 (by omega), ak 9 (by omega)]
    rw [a0] at q
    exact q1.2.2.2.1 q
  · rw [a0] at x
    rw [a11] at y
    have z := q1.2.2.2.2 x y
    rw [ak 3 (by omega), ak 5 (by omega), an 6 (by omega), an 4 (by omega), a11]
    refine ⟨z.1, z.2.1, ?_, fun e => ?_⟩
    · rw [dI_n (fun q => by unfold rgB at q; rw [show (6 : Int) - 1 = 5 by decide] at q; omega)]; exact z.2.2.1
    · rw [dI_y (show rgB i (4 - 1) from Or.inr ⟨by decide, x, e⟩)]
      have w := z.2.2.2 e
      have u := hr (i 4) (Or.inr (rdI_iff.mpr (Or.inl ⟨by rw [nrm_b x (Or.inr e)]; exact e, nrm_ne (by decide) (by decide)⟩)))
      omega
  · rw [a0] at q
    rw [a1, sh, if_neg (by omega), if_pos q]
    have z := q2 q
    omega
  · rw [a0] at q
    rw [a2, if_pos q]
    have z := q3 q
    omega
  · rw [a0] at q
    rw [a1, sh, if_neg (by omega), if_neg (by omega), if_pos q]
    have z := q4 q
    omega
  · unfold amI
    rw [uZ_ne (by omega), uZ_ne (by omega), uZ_ne (by omega), uZ_ne (by omega)]
    unfold aiP
    rw [if_neg (by omega)]; rfl
theorem BLD.item {fb base lb Fg : Int} (h : BLD F W0 W k a row s) (ha : s.1 < a) (e : W2 = uZ W row (amI fb base lb i (W row))) (er : row2 = row + 1) (hi : qOK Fg i) (h7 : i 0 ≠ 7 ∧ i 0 ≠ 10) (hF : F = fb + Fg) (h0 : 0 ≤ fb ∧ 0 ≤ lb ∧ lb ≤ 122 * fb ∧ 0 ≤ base) (hr : ∀ g, wrT i g ∨ rdI (nrm i) g → g + base < 192) : BLD F W0 W2 k a row2 (bA s (mlI fb base lb (nrm i))) := by
  rw [h.z ha] at e
  refine h.put ha e er (am_nrm hi.1 hi.2.2.2.2 h7) (am_q hi h7 hF h0 hr) ?_
  rw [show amI fb base lb i zI 0 = i 0 by unfold amI; rw [uZ_ne (by decide), uZ_ne (by decide), uZ_eq]]
  exact h7.2
def rZ7 (i : It) : Prop := i 0 = 7 → i 2 = 0 ∧ i 5 = 0 ∧ i 6 = 0 ∧ i 7 = 0 ∧ i 8 = 0 ∧ i 9 = 0 ∧ i 10 = 0 ∧ i 11 = 0
theorem BLD.ret {base to num kd : Int} (h : BLD F W0 W k a row s) (ha : s.1 < a) (e : W2 = uZ W row (uZ (uZ (uZ (uZ (uZ (W row) 3 kd) 4 num) 0 0) 1 to) 2 0)) (er : row2 = row + 1) (hkd : kd = i 3) (hi : iOK i) (hc : ∀ c, ¬ (0 ≤ c ∧ c ≤ 12) → i c = 0) (h7 : i 0 = 7) (hz : rZ7 i) (hn : num = i 4 + (if i 3 = 2 then base else 0)) (hto : 0 ≤ to ∧ to < 192) (hr : ∀ g, rdI (nrm i) g → 0 ≤ g + base ∧ g + base < 192) : BLD F W0 W2 k a row2 (bA s (uZ (uZ (shO base (nrm i)) 0 0) 1 to)) := by
  subst hkd
  have n3 : nrm i 3 = i 3 := nrm_3 (by omega)
  have k3 := hi.kd (c := 3) (by omega)
  have b := h.copy ha e er hto k3 (fun q => by
    rw [hn, if_pos q]
    exact hr _ (rdI_iff.mpr (Or.inl ⟨by rw [n3]; exact q, nrm_ne (by decide) (by decide)⟩)))
  have eq : mkI 0 to 0 (i 3) num 0 = uZ (uZ (shO base (nrm i)) 0 0) 1 to := by
    have z := hz h7
    funext c
    unfold mkI
    by_cases c0 : c = 0
    · rw [if_pos c0, c0, uZ_ne (by decide), uZ_eq]
    by_cases c1 : c = 1
    · rw [if_neg c0, if_pos c1, c1, uZ_eq]
    rw [if_neg c0, if_neg c1, uZ_ne c1, uZ_ne c0]
    unfold shO
    by_cases c2 : c = 2
    · rw [if_pos c2, if_neg (by omega), c2, nrm_ne (by decide) (by decide)]; exact z.1.symm
    rw [if_neg c2]
    by_cases c3 : c = 3
    · rw [if_pos c3, if_neg (by omega), c3, n3]
    rw [if_neg c3]
    by_cases c4 : c = 4
    · rw [if_pos c4, c4, show (4 : Int) - 1 = 3 by decide, n3, nrm_ne (c := 4) (by decide) (by decide), hn]
      by_cases q : i 3 = 2
      · rw [if_pos q, if_pos ⟨by omega, q⟩]
      · rw [if_neg q, if_neg (fun y => q y.2)]; omega
    rw [if_neg c4]
    have rest : (if c = 11 then (0 : Int) else 0) = 0 := by split <;> rfl
    rw [rest]
    by_cases c12 : c = 12
    · rw [c12, if_neg (by omega), nrm_12]
    have ic : i c = 0 := by
      by_cases q : 0 ≤ c ∧ c ≤ 12
      · have : c = 5 ∨ c = 6 ∨ c = 7 ∨ c = 8 ∨ c = 9 ∨ c = 10 ∨ c = 11 := by omega
        rcases this with y | y | y | y | y | y | y
        · rw [y]; exact z.2.1
        · rw [y]; exact z.2.2.1
        · rw [y]; exact z.2.2.2.1
        · rw [y]; exact z.2.2.2.2.1
        · rw [y]; exact z.2.2.2.2.2.1
        · rw [y]; exact z.2.2.2.2.2.2.1
        · rw [y]; exact z.2.2.2.2.2.2.2
      · exact hc c q
    by_cases q : (c = 4 ∨ c = 6 ∨ c = 8 ∨ c = 10) ∧ nrm i (c - 1) = 2
    · have w := q.2
      rw [nrm_ne (c := c - 1) (by omega) (by omega)] at w
      have : c - 1 = 5 ∨ c - 1 = 7 ∨ c - 1 = 9 := by omega
      rcases this with y | y | y
      · rw [y, z.2.1] at w; omega
      · rw [y, z.2.2.2.1] at w; omega
      · rw [y, z.2.2.2.2.2.1] at w; omega
    · rw [if_neg q, nrm_ne c3 c12, ic]
  rw [← eq]; exact b
end BLDS
theorem mb1_n {f base P : Int} {na : Int → Int} {x : It} {s : BB} (m : Nat) (hP : 0 ≤ P) : (mb1 f base P na x s m).1 = s.1 + m + (if (m : Int) ≤ P then (m : Int) else P) := by
  induction m with
  | zero => show s.1 = _; rw [if_pos (by omega)]; omega
  | succ m ih =>
    show (nmS f base P na x m (mb1 f base P na x s m)).1 = _
    unfold nmS
    by_cases c : (m : Int) < P
    · rw [if_pos c, if_pos (by omega)]
      show (mb1 f base P na x s m).1 + 1 + 1 = _
      rw [ih, if_pos (by omega)]; omega
    · rw [if_neg c, if_neg (by omega)]
      show (mb1 f base P na x s m).1 + 1 = _
      rw [ih]
      by_cases d : (m : Int) ≤ P
      · rw [if_pos d]; omega
      · rw [if_neg d]; omega
theorem mb2_n {base : Int} {lv : Int → Prop} {s : BB} (g : Nat) : (mb2 base lv s g).1 = s.1 + cN lv 0 g := by
  induction g with
  | zero => show s.1 = s.1 + 0; omega
  | succ g ih =>
    show (dI (lv g) (bA (mb2 base lv s g) (mkI 0 (base + g) 0 1 0 0)) (mb2 base lv s g)).1 = s.1 + (cN lv 0 g + dI (lv (0 + g)) 1 0)
    rw [show (0 : Int) + g = g by omega]
    by_cases c : lv g
    · rw [dI_y c, dI_y c]
      show (mb2 base lv s g).1 + 1 = _
      rw [ih]; omega
    · rw [dI_n c, dI_n c, ih]; omega
theorem mb3_n {f base lb to out : Int} {V : Int → It} {s : BB} (k : Nat) : (mb3 f base lb to out V s k).1 = s.1 + k + cN (fun j => V j 0 = 7) 0 k := by
  induction k with
  | zero => show s.1 = s.1 + 0 + 0; omega
  | succ k ih =>
    show (if V k 0 = 7 then bA (bA (mb3 f base lb to out V s k) (uZ (uZ (shO base (V k)) 0 0) 1 to)) (mkI 8 out 0 0 0 0) else bA (mb3 f base lb to out V s k) (mlI f base lb (V k))).1 = s.1 + ((k + 1 : Nat) : Int) + (cN (fun j => V j 0 = 7) 0 k + dI (V (0 + k) 0 = 7) 1 0)
    rw [show (0 : Int) + k = k by omega]
    by_cases c : V k 0 = 7
    · rw [if_pos c, dI_y c]
      show (mb3 f base lb to out V s k).1 + 1 + 1 = _
      rw [ih]; omega
    · rw [if_neg c, dI_n c]
      show (mb3 f base lb to out V s k).1 + 1 = _
      rw [ih]; omega
theorem mkB_n {f base lb out to P N nq : Int} {na : Int → Int} {x : It} {lv : Int → Prop} {Vq : Int → It} (hP : 0 ≤ P) (hPN : P ≤ N) (hn : 0 ≤ nq) : (mkB f base lb out to P N nq na x lv Vq).1 = 3 + nq + N + P + cN (fun j => Vq j 0 = 7) 0 nq.toNat + cN lv 0 192 := by
  unfold mkB
  show (mb3 f base lb to out Vq (mb2 base lv (mb1 f base P na x (bA (0, fun _ => zI) (mkI 14 f 0 0 0 0)) N.toNat) 192) nq.toNat).1 + 1 + 1 = _
  rw [mb3_n, mb2_n, mb1_n _ hP]
  show (0 : Int) + 1 + (N.toNat : Int) + (if (N.toNat : Int) ≤ P then (N.toNat : Int) else P) + cN lv 0 192 + (nq.toNat : Int) + cN (fun j => Vq j 0 = 7) 0 nq.toNat + 1 + 1 = _
  by_cases c : (N.toNat : Int) ≤ P
  · rw [if_pos c]; omega
  · rw [if_neg c]; omega
end
section
set_option maxHeartbeats 1000000 in
set_option maxRecDepth 20000 in
theorem l_X4_addBody_x_2 (d : Nat) {T : CT} {σ0 : MS} {a : Nat} {h : Nat} {x : Nat} {n : Int} {W : Int → It} {g : Nat} {y : Nat} {ng : Int} {Wg : Int → It} {rz : Int} {base : Int} {lb : Int} {fb : Int} {ll : Int} {rs : Int} {Fg : Int} {W0 : Int → It} {k0 : Int} {a0 : Int} {s0 : BB} {post : Option Value → CT → MS → Prop} (h_a : OB T a 4) (hw0 : WT T σ0) (hn0 : 0 ≤ ng) (hh : σ0.2.1 25 a = (h : Int)) (hx : σ0.2.1 5 h = (x : Int)) (hn : σ0.2.1 6 h = n) (hg : σ0.2.1 26 a = (g : Int)) (hy : σ0.2.1 5 g = (y : Int)) (hng : σ0.2.1 6 g = ng) (hWg : cW σ0 y ng = Wg) (hbase : σ0.2.1 27 a = base) (hlb : σ0.2.1 28 a = lb) (hfb : σ0.2.1 29 a = fb) (hll : σ0.2.1 30 a = ll) (hrs : σ0.2.1 31 a = rs) (hN : n ≤ 200) (hqk : QOK Fg Wg ng) (hz7 : ∀ j, 0 ≤ j → j < ng → rZ7 (Wg j)) (hnc : ∀ j, 0 ≤ j → j < ng → Wg j 0 ≠ 10) (hrg : ∀ j g, 0 ≤ j → j < ng → (wrT (Wg j) g ∨ rdI (nrm (Wg j)) g) → 0 ≤ g ∧ g + base < 192) (har : (0 ≤ base ∧ base ≤ 192) ∧ (0 ≤ lb ∧ lb ≤ 122 * fb) ∧ (0 ≤ fb ∧ fb + Fg ≤ 12 ∧ 1 ≤ Fg) ∧ (0 ≤ ll ∧ ll + 2 ≤ 122 * (fb + Fg)) ∧ 0 ≤ rs ∧ rs < 192) (hne : x ≠ y) (hN2 : ng ≤ 200) (hka : 0 ≤ k0 ∧ k0 + a0 ≤ n) (hs0 : s0.1 + ng + cN (fun j => vW Wg j 0 = 7) 0 (ng).toNat + 2 ≤ a0) (hx_94 : ∀ (i1 : Int) (σ : MS) , (WT T σ) → (FrC T [32] σ0 σ) → (0 ≤ i1 ∧ i1 ≤ 200) → (CHX [(32, a)] [x] [] σ0 σ) → (True) → (True) → (BLD (fb + Fg) W0 (cW σ x n) k0 a0 (σ.2.1 32 a) (mb3 fb base lb rs ll (vW Wg) s0 (ng).toNat)) → Tn (d + 4) m_X4_addBody 94 T σ [(0, .ref a), (1, .int (iI i1))] [] post) : ∀ (nq9 : Nat) (i1 : Int) (σ : MS) , (WT T σ) → (FrC T [32] σ0 σ) → (0 ≤ i1 ∧ i1 ≤ 200) → (CHX [(32, a)] [x] [] σ0 σ) → (BLD (fb + Fg) W0 (cW σ x n) k0 a0 (σ.2.1 32 a) (mb3 fb base lb rs ll (vW Wg) s0 (i1).toNat)) → (i1 ≤ ng) → (2147483700 - i1).toNat = nq9 → Tn (d + 4) m_X4_addBody 2 T σ [(0, .ref a), (1, .int (iI i1))] [] post := by
  intro nq9
  induction nq9 using Nat.strongRecOn with
  | _ nq9 ih =>
    intro i1 σ hw hF r_i1 hC hB h1 hm
    refine tn_iload_n dX4_addBody_2 rfl 1 rfl ?_
    refine tn_aload_n dX4_addBody_3 rfl 0 rfl ?_
    have hk3 : (T g).1 = 50 := ob_of ((wf_26 hw0 h_a).resolve_left (by omega)) hg
    have hk3o : OB T g 1 := ⟨by omega, by rw [hk3]; rfl, by omega⟩
    refine tn_getR (ci := 4) (i := 3) (n := 26) (x := g) dX4_addBody_4 rfl lay_4 (by decide) fl4_33 h_a rfl rfl (rc_F hF (Or.inl (by decide)) (by decide) (hg)) ?_
    refine tn_getI (ci := 1) (i := 1) (n := 6) (t := σ0.2.1 6 g) dX4_addBody_7 rfl lay_1 (by decide) fl4_23 hk3o rfl rfl (rc_F hF (Or.inl (by decide)) (by decide) (rfl)) ?_
    have g5 : ((0 : Int) ≤ σ0.2.1 6 g ∧ σ0.2.1 6 g ≤ 5000) ∧ ((T g).1 = 50 → σ0.2.1 6 g ≤ 200) := wf_6 hw0 hk3o
    have g5x := g5.2
    replace g5 := g5.1
    have g5x := g5x hk3
    refine tn_icmp_ge (tgt := 94) dX4_addBody_10 (by decide) ⟨by omega, by omega⟩ ⟨by omega, by omega⟩ (fun h6 => ?_) (fun h6 => ?_)
    · exact tn_sub [0, 1] rfl (hx_94 (i1) σ hw (FrC.rfl.trans (FrC.sub hF (by decide))) (by omega) hC True.intro True.intro (by have z := hB; rw [show i1 = ng by omega] at z; exact z))
    · have m9 : (mb3 fb base lb rs ll (vW Wg) s0 (i1).toNat).1 = s0.1 + i1 + cN (fun j => vW Wg j 0 = 7) 0 (i1).toNat := by rw [mb3_n]; omega
      have r9 := hB.1
      have r7 := hB.2.1
      have c8 := cN_up (P := fun j => vW Wg j 0 = 7) (i := i1 + 1) (j := ng) (by omega) (by omega)
      have c6 := cN_up (P := fun j => vW Wg j 0 = 7) (i := i1) (j := i1 + 1) (by omega) (by omega)
      have c9 := cN_b (P := fun j => vW Wg j 0 = 7) (k := i1) (by omega)
      have q9 := hqk i1 (by omega) (by omega)
      refine tn_aload_n dX4_addBody_13 rfl 0 rfl ?_
      refine tn_getR (ci := 4) (i := 3) (n := 26) (x := g) dX4_addBody_14 rfl lay_4 (by decide) fl4_33 h_a rfl rfl (rc_F hF (Or.inl (by decide)) (by decide) (hg)) ?_
      refine tn_iload_n dX4_addBody_17 rfl 1 rfl ?_
      refine tn_iconst dX4_addBody_18 ?_
      obtain ⟨hl10, hk9a, hk9b⟩ := cel_of (wf_5 hw0 hk3o) hy
      have hk9 : (T y).1 = 1 := hk9a (by omega)
      clear hk9a hk9b
      have hk9i : IA T y := by unfold IA; omega
      have cv11 : cW σ y ng = Wg := (cW_row (CHX.r hC (by first | (simp; done) | (simp only [List.mem_cons, List.not_mem_nil, or_false, not_or]; first | omega | ((repeat' apply And.intro) <;> first | assumption | (apply Ne.symm; assumption)))))).trans (hWg)
      refine tn_callV (M := m_X4_addBody) (pc := 19) (ix := 29) (ci := 1) (M' := m_X1_get) (As := [.int (iI i1), .int (iI 0)]) (rest := []) dX4_addBody_19 ok_X1_get im_X1_get se_X1_get ml4_29 np_X1_get rfl rfl hk3o rfl (Nat.le_of_ble_eq_true rfl) (Nat.le_of_ble_eq_true rfl) rfl (k_X1_get_x (d + 2) (T := T) (σ := σ) (a := g) (k := i1) (c := 0) (x := y) (n := ng) (W := Wg) hk3o (by omega) (by decide) hw (rc_F hF (Or.inl (by decide)) (by decide) (hy)) (rc_F hF (Or.inl (by decide)) (by decide) (hng)) cv11 (by omega) (by omega)) (fun r12 T14 σ13 gt15 hp => ?_)
      obtain ⟨v18, rfl, rfl, rfl, f16, f17⟩ := hp
      clear gt15
      show Tn _ _ 22 T σ [(0, .ref a), (1, .int (iI i1))] [.int (iI v18)] _
      refine tn_bipush dX4_addBody_22 (by decide) ?_
      refine tn_icmp_ne (tgt := 83) dX4_addBody_24 (by decide) ⟨by omega, by omega⟩ ⟨by decide, by decide⟩ (fun h19 => ?_) (fun h19 => ?_)
      · refine tn_aload_n dX4_addBody_83 rfl 0 rfl ?_
        refine tn_iload_n dX4_addBody_84 rfl 1 rfl ?_
        have hk22 : (T h).1 = 50 := ob_of ((wf_25 hw0 h_a).resolve_left (by omega)) hh
        have hk22o : OB T h 1 := ⟨by omega, by rw [hk22]; rfl, by omega⟩
        obtain ⟨hl27, hk26a, hk26b⟩ := cel_of (wf_5 hw0 hk22o) hx
        have hk26 : (T x).1 = 1 := hk26a (by omega)
        clear hk26a hk26b
        have hk26i : IA T x := by unfold IA; omega
        refine tn_callV (M := m_X4_addBody) (pc := 85) (ix := 157) (ci := 4) (M' := m_X4_addItem) (As := [.int (iI i1)]) (rest := []) dX4_addBody_85 ok_X4_addItem im_X4_addItem se_X4_addItem ml4_157 np_X4_addItem rfl rfl h_a rfl (Nat.le_of_ble_eq_true rfl) (Nat.le_of_ble_eq_true rfl) rfl (k_X4_addItem_x (d) (T := T) (σ := σ) (a := a) (k := i1) (h := h) (x := x) (n := n) (W := cW σ x n) (g := g) (y := y) (ng := ng) (Wg := Wg) (rz := σ.2.1 32 a) (base := base) (lb := lb) (fb := fb) h_a (by omega) hw (rc_F hF (Or.inl (by decide)) (by decide) (hh)) (rc_F hF (Or.inl (by decide)) (by decide) (hx)) (rc_F hF (Or.inl (by decide)) (by decide) (hn)) rfl (rc_F hF (Or.inl (by decide)) (by decide) (hg)) (rc_F hF (Or.inl (by decide)) (by decide) (hy)) (rc_F hF (Or.inl (by decide)) (by decide) (hng)) cv11 (rfl) (rc_F hF (Or.inl (by decide)) (by decide) (hbase)) (rc_F hF (Or.inl (by decide)) (by decide) (hlb)) (rc_F hF (Or.inl (by decide)) (by decide) (hfb)) (by omega) (hqk.g (by omega)) (by omega) (by omega) (by omega) (by omega) ⟨by omega, by omega⟩) (fun r28 T30 σ29 gt31 hp => ?_)
        obtain ⟨rfl, rfl, w36, F37, f32, f33, f34⟩ := hp
        clear gt31
        first | rw [hrs] at f33 | skip
        first | rw [hll] at f33 | skip
        first | rw [hfb] at f33 | skip
        show Tn _ _ 88 T σ29 [(0, .ref a), (1, .int (iI i1))] [] _
        refine tn_iinc (q0 := 1) (L' := [(1, .int (iI (i1 + 1))), (0, .ref a)]) dX4_addBody_88 rfl (by decide) rfl ?_
        refine tn_goto (tgt := 2) dX4_addBody_91 (by decide) ?_
        exact tn_sub [1, 0] rfl (ih _ (by omega) (i1 + 1) σ29 w36 ((FrC.rfl.trans (FrC.sub hF (by decide))).trans (FrC.sub F37 (by decide))) (by omega) (hC.trans (CHX.sub f32 (by simp) (by simp) (by simp))) (by have b1 := hB.item (i := Wg i1) (Fg := Fg) (by show (mb3 fb base lb rs ll (vW Wg) s0 (i1).toNat).1 < a0; omega) f33 f34 q9 (by have := hnc i1 (by omega) (by omega); omega) rfl (by omega) (fun g q => by have z := hrg i1 g (by omega) (by omega) q; omega); rw [mb3_s (by omega), if_neg (by rw [vW_0]; omega)]; exact b1) (by omega) rfl)
      · refine tn_aload_n dX4_addBody_27 rfl 0 rfl ?_
        refine tn_getR (ci := 4) (i := 3) (n := 26) (x := g) dX4_addBody_28 rfl lay_4 (by decide) fl4_33 h_a rfl rfl (rc_F hF (Or.inl (by decide)) (by decide) (hg)) ?_
        refine tn_iload_n dX4_addBody_31 rfl 1 rfl ?_
        refine tn_iconst dX4_addBody_32 ?_
        refine tn_callV (M := m_X4_addBody) (pc := 33) (ix := 29) (ci := 1) (M' := m_X1_get) (As := [.int (iI i1), .int (iI 3)]) (rest := []) dX4_addBody_33 ok_X1_get im_X1_get se_X1_get ml4_29 np_X1_get rfl rfl hk3o rfl (Nat.le_of_ble_eq_true rfl) (Nat.le_of_ble_eq_true rfl) rfl (k_X1_get_x (d + 2) (T := T) (σ := σ) (a := g) (k := i1) (c := 3) (x := y) (n := ng) (W := Wg) hk3o (by omega) (by decide) hw (rc_F hF (Or.inl (by decide)) (by decide) (hy)) (rc_F hF (Or.inl (by decide)) (by decide) (hng)) cv11 (by omega) (by omega)) (fun r38 T40 σ39 gt41 hp => ?_)
        obtain ⟨v44, rfl, rfl, rfl, f42, f43⟩ := hp
        clear gt41
        show Tn _ _ 36 T σ [(0, .ref a), (1, .int (iI i1))] [.int (iI v44)] _
        refine tn_istore_n (L' := [(2, .int (iI v44)), (0, .ref a), (1, .int (iI i1))]) dX4_addBody_36 rfl (by decide) rfl ?_
        refine tn_aload_n dX4_addBody_37 rfl 1 rfl ?_
        refine tn_aload_n dX4_addBody_38 rfl 1 rfl ?_
        refine tn_getI (ci := 4) (i := 8) (n := 31) (t := σ0.2.1 31 a) dX4_addBody_39 rfl lay_4 (by decide) fl4_78 h_a rfl rfl (rc_F hF (Or.inl (by decide)) (by decide) (rfl)) ?_
        have g45 : ((-2147483648 : Int) ≤ σ0.2.1 31 a ∧ σ0.2.1 31 a ≤ 2147483647) := wf_31 hw0 h_a
        refine tn_iload_n dX4_addBody_42 rfl 0 rfl ?_
        refine tn_aload_n dX4_addBody_43 rfl 1 rfl ?_
        refine tn_getR (ci := 4) (i := 3) (n := 26) (x := g) dX4_addBody_44 rfl lay_4 (by decide) fl4_33 h_a rfl rfl (rc_F hF (Or.inl (by decide)) (by decide) (hg)) ?_
        refine tn_iload_n dX4_addBody_47 rfl 2 rfl ?_
        refine tn_iconst dX4_addBody_48 ?_
        refine tn_callV (M := m_X4_addBody) (pc := 49) (ix := 29) (ci := 1) (M' := m_X1_get) (As := [.int (iI i1), .int (iI 4)]) (rest := [.int (iI v44), .int (iI (σ0.2.1 31 a)), .ref a]) dX4_addBody_49 ok_X1_get im_X1_get se_X1_get ml4_29 np_X1_get rfl rfl hk3o rfl (Nat.le_of_ble_eq_true rfl) (Nat.le_of_ble_eq_true rfl) rfl (k_X1_get_x (d + 2) (T := T) (σ := σ) (a := g) (k := i1) (c := 4) (x := y) (n := ng) (W := Wg) hk3o (by omega) (by decide) hw (rc_F hF (Or.inl (by decide)) (by decide) (hy)) (rc_F hF (Or.inl (by decide)) (by decide) (hng)) cv11 (by omega) (by omega)) (fun r46 T48 σ47 gt49 hp => ?_)
        obtain ⟨v52, rfl, rfl, rfl, f50, f51⟩ := hp
        clear gt49
        show Tn _ _ 52 T σ [(2, .int (iI v44)), (0, .ref a), (1, .int (iI i1))] [.int (iI v52), .int (iI v44), .int (iI (σ0.2.1 31 a)), .ref a] _
        refine tn_iload_n dX4_addBody_52 rfl 0 rfl ?_
        refine tn_iconst dX4_addBody_53 ?_
        refine tn_icmp_ne (tgt := 64) dX4_addBody_54 (by decide) ⟨by omega, by omega⟩ ⟨by decide, by decide⟩ (fun h53 => ?_) (fun h53 => ?_)
        · refine tn_iconst dX4_addBody_64 ?_
          refine tn_iadd dX4_addBody_65 ?_
          have hk56 : (T h).1 = 50 := ob_of ((wf_25 hw0 h_a).resolve_left (by omega)) hh
          have hk56o : OB T h 1 := ⟨by omega, by rw [hk56]; rfl, by omega⟩
          obtain ⟨hl61, hk60a, hk60b⟩ := cel_of (wf_5 hw0 hk56o) hx
          have hk60 : (T x).1 = 1 := hk60a (by omega)
          clear hk60a hk60b
          have hk60i : IA T x := by unfold IA; omega
          refine tn_callV (M := m_X4_addBody) (pc := 66) (ix := 151) (ci := 4) (M' := m_X4_addCopy) (As := [.int (iI (σ0.2.1 31 a)), .int (iI v44), .int (iI (v52 + 0))]) (rest := []) dX4_addBody_66 ok_X4_addCopy im_X4_addCopy se_X4_addCopy ml4_151 np_X4_addCopy rfl rfl h_a rfl (Nat.le_of_ble_eq_true rfl) (Nat.le_of_ble_eq_true rfl) rfl (k_X4_addCopy_x (d) (T := T) (σ := σ) (a := a) (p1 := σ0.2.1 31 a) (p2 := v44) (p3 := v52 + 0) (h := h) (x := x) (n := n) (W := cW σ x n) (rz := σ.2.1 32 a) h_a (by omega) (by omega) (by omega) hw (rc_F hF (Or.inl (by decide)) (by decide) (hh)) (rc_F hF (Or.inl (by decide)) (by decide) (hx)) (rc_F hF (Or.inl (by decide)) (by decide) (hn)) rfl (rfl) (by omega) (by omega)) (fun r62 T64 σ63 gt65 hp => ?_)
          obtain ⟨rfl, rfl, w70, F71, f66, f67, f68⟩ := hp
          clear gt65
          first | rw [hrs] at f67 | skip
          first | rw [hll] at f67 | skip
          first | rw [hfb] at f67 | skip
          show Tn _ _ 69 T σ63 [(2, .int (iI v44)), (0, .ref a), (1, .int (iI i1))] [] _
          have r8 := f68
          refine tn_aload_n dX4_addBody_69 rfl 1 rfl ?_
          refine tn_bipush dX4_addBody_70 (by decide) ?_
          refine tn_aload_n dX4_addBody_72 rfl 1 rfl ?_
          refine tn_getI (ci := 4) (i := 7) (n := 30) (t := σ0.2.1 30 a) dX4_addBody_73 rfl lay_4 (by decide) fl4_72 h_a rfl rfl (rc_F F71 (Or.inl (by decide)) (by decide) (rc_F hF (Or.inl (by decide)) (by decide) (rfl))) ?_
          have g72 : ((-2147483648 : Int) ≤ σ0.2.1 30 a ∧ σ0.2.1 30 a ≤ 2147483647) := wf_30 hw0 h_a
          refine tn_iconst dX4_addBody_76 ?_
          refine tn_callV (M := m_X4_addBody) (pc := 77) (ix := 148) (ci := 4) (M' := m_X4_addRow) (As := [.int (iI 8), .int (iI (σ0.2.1 30 a)), .int (iI 0)]) (rest := []) dX4_addBody_77 ok_X4_addRow im_X4_addRow se_X4_addRow ml4_148 np_X4_addRow rfl rfl h_a rfl (Nat.le_of_ble_eq_true rfl) (Nat.le_of_ble_eq_true rfl) rfl (k_X4_addRow_x (d + 1) (T := T) (σ := σ63) (a := a) (p1 := 8) (p2 := σ0.2.1 30 a) (p3 := 0) (h := h) (x := x) (n := n) (W := cW σ63 x n) (rz := σ63.2.1 32 a) h_a (by decide) (by omega) (by decide) w70 (rc_F F71 (Or.inl (by decide)) (by decide) (rc_F hF (Or.inl (by decide)) (by decide) (hh))) (rc_F F71 (Or.inl (by decide)) (by decide) (rc_F hF (Or.inl (by decide)) (by decide) (hx))) (rc_F F71 (Or.inl (by decide)) (by decide) (rc_F hF (Or.inl (by decide)) (by decide) (hn))) rfl (rfl) (by omega) (by omega)) (fun r73 T75 σ74 gt76 hp => ?_)
          obtain ⟨rfl, rfl, w81, F82, f77, f78, f79⟩ := hp
          clear gt76
          first | rw [hrs] at f78 | skip
          first | rw [hll] at f78 | skip
          first | rw [hfb] at f78 | skip
          show Tn _ _ 80 T σ74 [(2, .int (iI v44)), (0, .ref a), (1, .int (iI i1))] [] _
          refine tn_goto (tgt := 88) dX4_addBody_80 (by decide) ?_
          refine tn_iinc (q0 := 2) (L' := [(1, .int (iI (i1 + 1))), (2, .int (iI v44)), (0, .ref a)]) dX4_addBody_88 rfl (by decide) rfl ?_
          refine tn_goto (tgt := 2) dX4_addBody_91 (by decide) ?_
          exact tn_sub [2, 0] rfl (ih _ (by omega) (i1 + 1) σ74 w81 (((FrC.rfl.trans (FrC.sub hF (by decide))).trans (FrC.sub F71 (by decide))).trans (FrC.sub F82 (by decide))) (by omega) ((hC.trans (CHX.sub f66 (by simp) (by simp) (by simp))).trans (CHX.sub f77 (by simp) (by simp) (by simp))) (by have c7 := cN_y (P := fun j => vW Wg j 0 = 7) (k := i1) (by omega) (by rw [vW_0]; omega); have b1 := hB.ret (i := Wg i1) (base := base) (to := rs) (by show (mb3 fb base lb rs ll (vW Wg) s0 (i1).toNat).1 < a0; omega) f67 f68 (by omega) q9.1 q9.2.2.2.2 (by omega) (hz7 i1 (by omega) (by omega)) (by split <;> omega) (by omega) (fun g q => by have z := hrg i1 g (by omega) (by omega) (Or.inr q); omega); have b2 := b1.rw3 (by show (mb3 fb base lb rs ll (vW Wg) s0 (i1).toNat).1 + 1 < a0; omega) f78 f79 (by omega); rw [mb3_s (by omega), if_pos (by rw [vW_0]; omega)]; exact b2) (by omega) rfl)
        · refine tn_aload_n dX4_addBody_57 rfl 1 rfl ?_
          refine tn_getI (ci := 4) (i := 4) (n := 27) (t := σ0.2.1 27 a) dX4_addBody_58 rfl lay_4 (by decide) fl4_57 h_a rfl rfl (rc_F hF (Or.inl (by decide)) (by decide) (rfl)) ?_
          have g83 : ((-2147483648 : Int) ≤ σ0.2.1 27 a ∧ σ0.2.1 27 a ≤ 2147483647) := wf_27 hw0 h_a
          refine tn_goto (tgt := 65) dX4_addBody_61 (by decide) ?_
          have hq8 : 0 ≤ Wg i1 4 ∧ Wg i1 4 < 192 := q9.1.op (c := 3) (by omega) (by omega)
          refine tn_iadd dX4_addBody_65 ?_
          have hk86 : (T h).1 = 50 := ob_of ((wf_25 hw0 h_a).resolve_left (by omega)) hh
          have hk86o : OB T h 1 := ⟨by omega, by rw [hk86]; rfl, by omega⟩
          obtain ⟨hl91, hk90a, hk90b⟩ := cel_of (wf_5 hw0 hk86o) hx
          have hk90 : (T x).1 = 1 := hk90a (by omega)
          clear hk90a hk90b
          have hk90i : IA T x := by unfold IA; omega
          refine tn_callV (M := m_X4_addBody) (pc := 66) (ix := 151) (ci := 4) (M' := m_X4_addCopy) (As := [.int (iI (σ0.2.1 31 a)), .int (iI v44), .int (iI (v52 + (σ0.2.1 27 a)))]) (rest := []) dX4_addBody_66 ok_X4_addCopy im_X4_addCopy se_X4_addCopy ml4_151 np_X4_addCopy rfl rfl h_a rfl (Nat.le_of_ble_eq_true rfl) (Nat.le_of_ble_eq_true rfl) rfl (k_X4_addCopy_x (d) (T := T) (σ := σ) (a := a) (p1 := σ0.2.1 31 a) (p2 := v44) (p3 := v52 + (σ0.2.1 27 a)) (h := h) (x := x) (n := n) (W := cW σ x n) (rz := σ.2.1 32 a) h_a (by omega) (by omega) (by omega) hw (rc_F hF (Or.inl (by decide)) (by decide) (hh)) (rc_F hF (Or.inl (by decide)) (by decide) (hx)) (rc_F hF (Or.inl (by decide)) (by decide) (hn)) rfl (rfl) (by omega) (by omega)) (fun r92 T94 σ93 gt95 hp => ?_)
          obtain ⟨rfl, rfl, w100, F101, f96, f97, f98⟩ := hp
          clear gt95
          first | rw [hrs] at f97 | skip
          first | rw [hll] at f97 | skip
          first | rw [hfb] at f97 | skip
          show Tn _ _ 69 T σ93 [(2, .int (iI v44)), (0, .ref a), (1, .int (iI i1))] [] _
          have r8 := f98
          refine tn_aload_n dX4_addBody_69 rfl 1 rfl ?_
          refine tn_bipush dX4_addBody_70 (by decide) ?_
          refine tn_aload_n dX4_addBody_72 rfl 1 rfl ?_
          refine tn_getI (ci := 4) (i := 7) (n := 30) (t := σ0.2.1 30 a) dX4_addBody_73 rfl lay_4 (by decide) fl4_72 h_a rfl rfl (rc_F F101 (Or.inl (by decide)) (by decide) (rc_F hF (Or.inl (by decide)) (by decide) (rfl))) ?_
          have g102 : ((-2147483648 : Int) ≤ σ0.2.1 30 a ∧ σ0.2.1 30 a ≤ 2147483647) := wf_30 hw0 h_a
          refine tn_iconst dX4_addBody_76 ?_
          refine tn_callV (M := m_X4_addBody) (pc := 77) (ix := 148) (ci := 4) (M' := m_X4_addRow) (As := [.int (iI 8), .int (iI (σ0.2.1 30 a)), .int (iI 0)]) (rest := []) dX4_addBody_77 ok_X4_addRow im_X4_addRow se_X4_addRow ml4_148 np_X4_addRow rfl rfl h_a rfl (Nat.le_of_ble_eq_true rfl) (Nat.le_of_ble_eq_true rfl) rfl (k_X4_addRow_x (d + 1) (T := T) (σ := σ93) (a := a) (p1 := 8) (p2 := σ0.2.1 30 a) (p3 := 0) (h := h) (x := x) (n := n) (W := cW σ93 x n) (rz := σ93.2.1 32 a) h_a (by decide) (by omega) (by decide) w100 (rc_F F101 (Or.inl (by decide)) (by decide) (rc_F hF (Or.inl (by decide)) (by decide) (hh))) (rc_F F101 (Or.inl (by decide)) (by decide) (rc_F hF (Or.inl (by decide)) (by decide) (hx))) (rc_F F101 (Or.inl (by decide)) (by decide) (rc_F hF (Or.inl (by decide)) (by decide) (hn))) rfl (rfl) (by omega) (by omega)) (fun r103 T105 σ104 gt106 hp => ?_)
          obtain ⟨rfl, rfl, w111, F112, f107, f108, f109⟩ := hp
          clear gt106
          first | rw [hrs] at f108 | skip
          first | rw [hll] at f108 | skip
          first | rw [hfb] at f108 | skip
          show Tn _ _ 80 T σ104 [(2, .int (iI v44)), (0, .ref a), (1, .int (iI i1))] [] _
          refine tn_goto (tgt := 88) dX4_addBody_80 (by decide) ?_
          refine tn_iinc (q0 := 2) (L' := [(1, .int (iI (i1 + 1))), (2, .int (iI v44)), (0, .ref a)]) dX4_addBody_88 rfl (by decide) rfl ?_
          refine tn_goto (tgt := 2) dX4_addBody_91 (by decide) ?_
          exact tn_sub [2, 0] rfl (ih _ (by omega) (i1 + 1) σ104 w111 (((FrC.rfl.trans (FrC.sub hF (by decide))).trans (FrC.sub F101 (by decide))).trans (FrC.sub F112 (by decide))) (by omega) ((hC.trans (CHX.sub f96 (by simp) (by simp) (by simp))).trans (CHX.sub f107 (by simp) (by simp) (by simp))) (by have c7 := cN_y (P := fun j => vW Wg j 0 = 7) (k := i1) (by omega) (by rw [vW_0]; omega); have b1 := hB.ret (i := Wg i1) (base := base) (to := rs) (by show (mb3 fb base lb rs ll (vW Wg) s0 (i1).toNat).1 < a0; omega) f97 f98 (by omega) q9.1 q9.2.2.2.2 (by omega) (hz7 i1 (by omega) (by omega)) (by split <;> omega) (by omega) (fun g q => by have z := hrg i1 g (by omega) (by omega) (Or.inr q); omega); have b2 := b1.rw3 (by show (mb3 fb base lb rs ll (vW Wg) s0 (i1).toNat).1 + 1 < a0; omega) f108 f109 (by omega); rw [mb3_s (by omega), if_pos (by rw [vW_0]; omega)]; exact b2) (by omega) rfl)
set_option maxHeartbeats 1000000 in
set_option maxRecDepth 20000 in
theorem k_X4_addBody_x (d : Nat) {T : CT} {σ : MS} {a : Nat} {h : Nat} {x : Nat} {n : Int} {W : Int → It} {g : Nat} {y : Nat} {ng : Int} {Wg : Int → It} {rz : Int} {base : Int} {lb : Int} {fb : Int} {ll : Int} {rs : Int} {Fg : Int} {W0 : Int → It} {k0 : Int} {a0 : Int} {s0 : BB} (ha : OB T a 4) (hw : WT T σ) (hh : σ.2.1 25 a = (h : Int)) (hx : σ.2.1 5 h = (x : Int)) (hn : σ.2.1 6 h = n) (hW : cW σ x n = W) (hg : σ.2.1 26 a = (g : Int)) (hy : σ.2.1 5 g = (y : Int)) (hng : σ.2.1 6 g = ng) (hWg : cW σ y ng = Wg) (hrz : σ.2.1 32 a = rz) (hbase : σ.2.1 27 a = base) (hlb : σ.2.1 28 a = lb) (hfb : σ.2.1 29 a = fb) (hll : σ.2.1 30 a = ll) (hrs : σ.2.1 31 a = rs) (hN : n ≤ 200) (hqk : QOK Fg Wg ng) (hz7 : ∀ j, 0 ≤ j → j < ng → rZ7 (Wg j)) (hnc : ∀ j, 0 ≤ j → j < ng → Wg j 0 ≠ 10) (hrg : ∀ j g, 0 ≤ j → j < ng → (wrT (Wg j) g ∨ rdI (nrm (Wg j)) g) → 0 ≤ g ∧ g + base < 192) (har : (0 ≤ base ∧ base ≤ 192) ∧ (0 ≤ lb ∧ lb ≤ 122 * fb) ∧ (0 ≤ fb ∧ fb + Fg ≤ 12 ∧ 1 ≤ Fg) ∧ (0 ≤ ll ∧ ll + 2 ≤ 122 * (fb + Fg)) ∧ 0 ≤ rs ∧ rs < 192) (hne : x ≠ y) (hN2 : ng ≤ 200) (hka : 0 ≤ k0 ∧ k0 + a0 ≤ n) (hs0 : s0.1 + ng + cN (fun j => vW Wg j 0 = 7) 0 (ng).toNat + 2 ≤ a0) (hB0 : BLD (fb + Fg) W0 W k0 a0 rz s0) : Tn (d + 4) m_X4_addBody 0 T σ [(0, .ref a)] [] (fun ro T2 σ2 => ro = none ∧ T = T2 ∧ WT T2 σ2 ∧ FrC T [32] σ σ2 ∧ (CHX [(32, a)] [x] [] σ σ2) ∧ (BLD (fb + Fg) W0 (cW σ2 x n) k0 a0 (σ2.2.1 32 a) (bA (bA (mb3 fb base lb rs ll (vW Wg) s0 (ng).toNat) (mkI 13 ll 0 0 0 0)) (mkI 15 fb 0 0 0 0)))) := by
  have hg9 : (T g).1 = 50 := ob_of ((wf_26 hw ha).resolve_left (by omega)) hg
  have hg8 : OB T g 1 := ⟨by omega, by rw [hg9]; rfl, by omega⟩
  have hng9 := wf_6 hw hg8
  refine tn_iconst dX4_addBody_0 ?_
  refine tn_istore_n (L' := [(1, .int (iI 0)), (0, .ref a)]) dX4_addBody_1 rfl (by decide) rfl ?_
  refine tn_sub [1, 0] rfl (l_X4_addBody_x_2 (d) (T := T) (σ0 := σ) (a := a) (h := h) (x := x) (n := n) (W := W) (g := g) (y := y) (ng := ng) (Wg := (Wg)) (rz := rz) (base := base) (lb := lb) (fb := fb) (ll := ll) (rs := rs) (Fg := Fg) (W0 := W0) (k0 := k0) (a0 := a0) (s0 := s0) ha hw (by omega) (hh) (hx) (hn) (hg) (hy) (hng) hWg (hbase) (hlb) (hfb) (hll) (hrs) hN hqk hz7 hnc hrg har hne hN2 hka hs0 (fun i11 σ2 w5 F6 r7 f8 f9 f10 f11 => ?_) _ (0) σ hw FrC.rfl (by omega) CHX.rfl (by rw [hW, hrz]; exact hB0) (by omega) rfl)
  show Tn _ _ 94 T σ2 [(0, .ref a), (1, .int (iI i11))] [] _
  have m9 : (mb3 fb base lb rs ll (vW Wg) s0 (ng).toNat).1 = s0.1 + ng + cN (fun j => vW Wg j 0 = 7) 0 (ng).toNat := by rw [mb3_n]; omega
  have r9 := f11.1
  have r7 := f11.2.1
  refine tn_aload_n dX4_addBody_94 rfl 0 rfl ?_
  refine tn_bipush dX4_addBody_95 (by decide) ?_
  refine tn_aload_n dX4_addBody_97 rfl 0 rfl ?_
  refine tn_getI (ci := 4) (i := 7) (n := 30) (t := σ.2.1 30 a) dX4_addBody_98 rfl lay_4 (by decide) fl4_72 ha rfl rfl (rc_F F6 (Or.inl (by decide)) (by decide) (rfl)) ?_
  have g12 : ((-2147483648 : Int) ≤ σ.2.1 30 a ∧ σ.2.1 30 a ≤ 2147483647) := wf_30 hw ha
  refine tn_iconst dX4_addBody_101 ?_
  have hk15 : (T h).1 = 50 := ob_of ((wf_25 hw ha).resolve_left (by omega)) hh
  have hk15o : OB T h 1 := ⟨by omega, by rw [hk15]; rfl, by omega⟩
  obtain ⟨hl20, hk19a, hk19b⟩ := cel_of (wf_5 hw hk15o) hx
  have hk19 : (T x).1 = 1 := hk19a (by omega)
  clear hk19a hk19b
  have hk19i : IA T x := by unfold IA; omega
  refine tn_callV (M := m_X4_addBody) (pc := 102) (ix := 148) (ci := 4) (M' := m_X4_addRow) (As := [.int (iI 13), .int (iI (σ.2.1 30 a)), .int (iI 0)]) (rest := []) dX4_addBody_102 ok_X4_addRow im_X4_addRow se_X4_addRow ml4_148 np_X4_addRow rfl rfl ha rfl (Nat.le_of_ble_eq_true rfl) (Nat.le_of_ble_eq_true rfl) rfl (k_X4_addRow_x (d + 1) (T := T) (σ := σ2) (a := a) (p1 := 13) (p2 := σ.2.1 30 a) (p3 := 0) (h := h) (x := x) (n := n) (W := cW σ2 x n) (rz := σ2.2.1 32 a) ha (by decide) (by omega) (by decide) w5 (rc_F F6 (Or.inl (by decide)) (by decide) (hh)) (rc_F F6 (Or.inl (by decide)) (by decide) (hx)) (rc_F F6 (Or.inl (by decide)) (by decide) (hn)) rfl (rfl) (by omega) (by omega)) (fun r21 T23 σ22 gt24 hp => ?_)
  obtain ⟨rfl, rfl, w29, F30, f25, f26, f27⟩ := hp
  clear gt24
  first | rw [hrs] at f26 | skip
  first | rw [hll] at f26 | skip
  first | rw [hfb] at f26 | skip
  show Tn _ _ 105 T σ22 [(0, .ref a), (1, .int (iI i11))] [] _
  have r8 := f27
  refine tn_aload_n dX4_addBody_105 rfl 0 rfl ?_
  refine tn_bipush dX4_addBody_106 (by decide) ?_
  refine tn_aload_n dX4_addBody_108 rfl 0 rfl ?_
  refine tn_getI (ci := 4) (i := 6) (n := 29) (t := σ.2.1 29 a) dX4_addBody_109 rfl lay_4 (by decide) fl4_69 ha rfl rfl (rc_F F30 (Or.inl (by decide)) (by decide) (rc_F F6 (Or.inl (by decide)) (by decide) (rfl))) ?_
  have g31 : ((-2147483648 : Int) ≤ σ.2.1 29 a ∧ σ.2.1 29 a ≤ 2147483647) := wf_29 hw ha
  refine tn_iconst dX4_addBody_112 ?_
  refine tn_callV (M := m_X4_addBody) (pc := 113) (ix := 148) (ci := 4) (M' := m_X4_addRow) (As := [.int (iI 15), .int (iI (σ.2.1 29 a)), .int (iI 0)]) (rest := []) dX4_addBody_113 ok_X4_addRow im_X4_addRow se_X4_addRow ml4_148 np_X4_addRow rfl rfl ha rfl (Nat.le_of_ble_eq_true rfl) (Nat.le_of_ble_eq_true rfl) rfl (k_X4_addRow_x (d + 1) (T := T) (σ := σ22) (a := a) (p1 := 15) (p2 := σ.2.1 29 a) (p3 := 0) (h := h) (x := x) (n := n) (W := cW σ22 x n) (rz := σ22.2.1 32 a) ha (by decide) (by omega) (by decide) w29 (rc_F F30 (Or.inl (by decide)) (by decide) (rc_F F6 (Or.inl (by decide)) (by decide) (hh))) (rc_F F30 (Or.inl (by decide)) (by decide) (rc_F F6 (Or.inl (by decide)) (by decide) (hx))) (rc_F F30 (Or.inl (by decide)) (by decide) (rc_F F6 (Or.inl (by decide)) (by decide) (hn))) rfl (rfl) (by omega) (by omega)) (fun r32 T34 σ33 gt35 hp => ?_)
  obtain ⟨rfl, rfl, w40, F41, f36, f37, f38⟩ := hp
  clear gt35
  first | rw [hrs] at f37 | skip
  first | rw [hll] at f37 | skip
  first | rw [hfb] at f37 | skip
  show Tn _ _ 116 T σ33 [(0, .ref a), (1, .int (iI i11))] [] _
  exact tn_vret rfl dX4_addBody_116 ⟨rfl, rfl, w40, (((FrC.rfl.trans (FrC.sub F6 (by decide))).trans (FrC.sub F30 (by decide))).trans (FrC.sub F41 (by decide))), (((CHX.rfl.trans (CHX.sub f8 (by simp) (by simp) (by simp))).trans (CHX.sub f25 (by simp) (by simp) (by simp))).trans (CHX.sub f36 (by simp) (by simp) (by simp))), ((f11.rw3 (by omega) f26 f27 (by omega)).rw3 (by show (mb3 fb base lb rs ll (vW Wg) s0 (ng).toNat).1 + 1 < a0; omega) f37 f38 (by omega))⟩
end
