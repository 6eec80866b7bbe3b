section
theorem fl12_509 : Cond.fieldLink RX12 509 (TX12 62).1 (TX12 62).2.1 (TX12 62).2.2.1 ∈ pWW := pw7 (List.mem_of_getElem? (i := 69) rfl) rfl
theorem ml12_281 : Cond.methodLink RX12 281 yX12_setItem ∈ pWW := pw8 (List.mem_of_getElem? (i := 213) rfl) rfl
theorem dX12_add_0 : decode cX12_add 0 = .ok (.aload_n 0, 1) := by decide +kernel
theorem dX12_add_1 : decode cX12_add 1 = .ok (.sipush 2640, 3) := by decide +kernel
theorem dX12_add_4 : decode cX12_add 4 = .ok (.aload_n 0, 1) := by decide +kernel
theorem dX12_add_5 : decode cX12_add 5 = .ok (.getfield 509, 3) := by decide +kernel
theorem dX12_add_8 : decode cX12_add 8 = .ok (.iadd, 1) := by decide +kernel
theorem dX12_add_9 : decode cX12_add 9 = .ok (.iload_n 1, 1) := by decide +kernel
theorem dX12_add_10 : decode cX12_add 10 = .ok (.iload_n 2, 1) := by decide +kernel
theorem dX12_add_11 : decode cX12_add 11 = .ok (.iload_n 3, 1) := by decide +kernel
theorem dX12_add_12 : decode cX12_add 12 = .ok (.invokevirtual 281, 3) := by decide +kernel
theorem dX12_add_15 : decode cX12_add 15 = .ok (.aload_n 0, 1) := by decide +kernel
theorem dX12_add_16 : decode cX12_add 16 = .ok (.sipush 2640, 3) := by decide +kernel
theorem dX12_add_19 : decode cX12_add 19 = .ok (.aload_n 0, 1) := by decide +kernel
theorem dX12_add_20 : decode cX12_add 20 = .ok (.getfield 509, 3) := by decide +kernel
theorem dX12_add_23 : decode cX12_add 23 = .ok (.iadd, 1) := by decide +kernel
theorem dX12_add_24 : decode cX12_add 24 = .ok (.iconst 0, 1) := by decide +kernel
theorem dX12_add_25 : decode cX12_add 25 = .ok (.iload 4, 2) := by decide +kernel
theorem dX12_add_27 : decode cX12_add 27 = .ok (.iload 5, 2) := by decide +kernel
theorem dX12_add_29 : decode cX12_add 29 = .ok (.invokevirtual 298, 3) := by decide +kernel
theorem dX12_add_32 : decode cX12_add 32 = .ok (.aload_n 0, 1) := by decide +kernel
theorem dX12_add_33 : decode cX12_add 33 = .ok (.dup, 1) := by decide +kernel
theorem dX12_add_34 : decode cX12_add 34 = .ok (.getfield 509, 3) := by decide +kernel
theorem dX12_add_37 : decode cX12_add 37 = .ok (.iconst 1, 1) := by decide +kernel
theorem dX12_add_38 : decode cX12_add 38 = .ok (.iadd, 1) := by decide +kernel
theorem dX12_add_39 : decode cX12_add 39 = .ok (.putfield 509, 3) := by decide +kernel
theorem dX12_add_42 : decode cX12_add 42 = .ok (.return_, 1) := by decide +kernel
set_option maxHeartbeats 1000000 in
set_option maxRecDepth 20000 in
theorem c_X12_add (d : Nat) {b : Nat} {σ : MS} {k : Int} {e : Int} {o : Int} {ak : Int} {a : Int} (hR : RG σ) (hn : 0 ≤ σ.1 62 ∧ σ.1 62 ≤ 219) : Tm (d + 2) m_X12_add 0 b σ [(0, .ref b), (1, .int (iI k)), (2, .int (iI e)), (3, .int (iI o)), (4, .int (iI ak)), (5, .int (iI a))] [] (fun ro σ2 => ro = none ∧ (σ2 = fAdd k e o ak a σ)) := by
  refine tm_aload_n dX12_add_0 rfl 0 rfl ?_
  refine tm_sipush dX12_add_1 (by decide) ?_
  refine tm_aload_n dX12_add_4 rfl 0 rfl ?_
  refine tm_getS (k := 62) (t := σ.1 62) dX12_add_5 (by decide) fl12_509 rfl (rfl) ?_
  have g1 := RG.s hR 62
  refine tm_iadd dX12_add_8 ?_
  refine tm_iload_n dX12_add_9 rfl 1 rfl ?_
  refine tm_iload_n dX12_add_10 rfl 2 rfl ?_
  refine tm_iload_n dX12_add_11 rfl 3 rfl ?_
  refine tm_callV (M := m_X12_add) (pc := 12) (ix := 281) (M' := m_X12_setItem) (As := [.int (iI (2640 + (σ.1 62))), .int (iI k), .int (iI e), .int (iI o)]) (rest := []) dX12_add_12 ok_X12_setItem im_X12_setItem se_X12_setItem ml12_281 np_X12_setItem rfl rfl (Nat.le_of_ble_eq_true rfl) (Nat.le_of_ble_eq_true rfl) rfl (c_X12_setItem (d) (σ := σ) (x := 2640 + (σ.1 62)) (k := k) (e := e) (o := o) (by omega)) (fun r2 σ3 hp => ?_)
  obtain ⟨rfl, f5⟩ := hp
  subst f5
  show Tm _ _ 15 b (fItem (2640 + (σ.1 62)) (k) (e) (o) σ) [(0, .ref b), (1, .int (iI k)), (2, .int (iI e)), (3, .int (iI o)), (4, .int (iI ak)), (5, .int (iI a))] [] _
  refine tm_aload_n dX12_add_15 rfl 0 rfl ?_
  refine tm_sipush dX12_add_16 (by decide) ?_
  refine tm_aload_n dX12_add_19 rfl 0 rfl ?_
  refine tm_getS (k := 62) (t := σ.1 62) dX12_add_20 (by decide) fl12_509 rfl (rs_F fItem_fr (by decide) (rfl)) ?_
  have g6 := RG.s hR 62
  refine tm_iadd dX12_add_23 ?_
  refine tm_iconst dX12_add_24 ?_
  refine tm_iload dX12_add_25 4 rfl ?_
  refine tm_iload dX12_add_27 5 rfl ?_
  refine tm_callV (M := m_X12_add) (pc := 29) (ix := 298) (M' := m_X12_setArg) (As := [.int (iI (2640 + (σ.1 62))), .int (iI 0), .int (iI ak), .int (iI a)]) (rest := []) dX12_add_29 ok_X12_setArg im_X12_setArg se_X12_setArg ml12_298 np_X12_setArg rfl rfl (Nat.le_of_ble_eq_true rfl) (Nat.le_of_ble_eq_true rfl) rfl (c_X12_setArg (d) (σ := (fItem (2640 + (σ.1 62)) (k) (e) (o) σ)) (x := 2640 + (σ.1 62)) (i := 0) (k := ak) (w := a) (by omega)) (fun r7 σ8 hp => ?_)
  obtain ⟨rfl, f10⟩ := hp
  subst f10
  show Tm _ _ 32 b (fArg (2640 + (σ.1 62)) (0) (ak) (a) (fItem (2640 + (σ.1 62)) (k) (e) (o) σ)) [(0, .ref b), (1, .int (iI k)), (2, .int (iI e)), (3, .int (iI o)), (4, .int (iI ak)), (5, .int (iI a))] [] _
  refine tm_aload_n dX12_add_32 rfl 0 rfl ?_
  refine tm_dup dX12_add_33 rfl ?_
  refine tm_getS (k := 62) (t := σ.1 62) dX12_add_34 (by decide) fl12_509 rfl (rs_F fArg_fr (by decide) (rs_F fItem_fr (by decide) (rfl))) ?_
  have g11 := RG.s hR 62
  refine tm_iconst dX12_add_37 ?_
  refine tm_iadd dX12_add_38 ?_
  refine tm_putS (k := 62) (v := (σ.1 62) + 1) lay_12 dX12_add_39 (by decide) fl12_509 rfl (tyX12_ok 62 (by decide)) rfl rfl rfl ?_
  exact tm_vret rfl dX12_add_42 (⟨rfl, rfl⟩)
set_option maxHeartbeats 1000000 in
set_option maxRecDepth 20000 in
theorem l2_labels (d : Nat) {b : Nat} {σ : MS} {r : Int} {post : Option Value → MS → Prop} (hr : 0 ≤ r ∧ r < 12) (hR : RG σ) (hit : ITM σ) (hjm : JMP σ r) (hlm : LBM σ r) (hF1 : 1 ≤ σ.2.1 14 r) (hx_101 : ∀ (m : Int) (k : Int) , (0 ≤ m ∧ m ≤ 4096 ∧ m + 1 ≤ 121 * σ.2.1 14 r) → (∀ j, 0 ≤ j → j < σ.2.1 9 r → (σ.2.1 3 (220 * r + j) = 8 ∨ σ.2.1 3 (220 * r + j) = 9 ∨ σ.2.1 3 (220 * r + j) = 13) → σ.2.1 4 (220 * r + j) < m) → Tm (d + 2) m_X12_labels 101 b σ [(3, .int (iI k)), (2, .int (iI m)), (0, .ref b), (1, .int (iI r))] [] post) : ∀ (n : Nat) (m : Int) (k : Int) , (0 ≤ m ∧ m ≤ 4096 ∧ m + 1 ≤ 121 * σ.2.1 14 r ∧ 0 ≤ k ∧ k ≤ σ.2.1 9 r) → (∀ j, 0 ≤ j → j < k → (σ.2.1 3 (220 * r + j) = 8 ∨ σ.2.1 3 (220 * r + j) = 9 ∨ σ.2.1 3 (220 * r + j) = 13) → σ.2.1 4 (220 * r + j) < m) → (220 - k).toNat = n → Tm (d + 2) m_X12_labels 4 b σ [(3, .int (iI k)), (2, .int (iI m)), (0, .ref b), (1, .int (iI r))] [] post := by
  intro n
  induction n using Nat.strongRecOn with
  | _ n ih =>
    intro m k h0 hg hm
    have q1 := hit r (by omega) (by omega)
    refine tm_iload_n dX12_labels_4 rfl 0 rfl ?_
    refine tm_aload_n dX12_labels_5 rfl 2 rfl ?_
    refine tm_get (k := 9) (v := .ref (b + 1 + 7)) lay_12 dX12_labels_6 (by decide) fl12_32 rfl ?_
    refine tm_iload_n dX12_labels_9 rfl 3 rfl ?_
    refine tm_iald (z := r) (v := σ.2.1 9 r) dX12_labels_10 (show mT[7]? = some (9, 0, 13) from rfl) (by omega) (by omega) (by decide) (rfl) ?_
    have g1 := RG.a hR 9 (r)
    refine tm_icmp_ge (tgt := 101) dX12_labels_11 (by decide) ⟨by omega, by omega⟩ ⟨by omega, by omega⟩ (fun h2 => ?_) (fun h2 => ?_)
    · exact tm_sub [0, 1, 2, 3] rfl (hx_101 (m) (k) (by omega) (fun j a c e => hg j a (by omega) e))
    · refine tm_aload_n dX12_labels_14 rfl 2 rfl ?_
      refine tm_iload_n dX12_labels_15 rfl 3 rfl ?_
      refine tm_iload_n dX12_labels_16 rfl 0 rfl ?_
      refine tm_callV (M := m_X12_labels) (pc := 17) (ix := 203) (M' := m_X12_at) (As := [.int (iI r), .int (iI k)]) (rest := []) dX12_labels_17 ok_X12_at im_X12_at se_X12_at ml12_203 np_X12_at rfl rfl (Nat.le_of_ble_eq_true rfl) (Nat.le_of_ble_eq_true rfl) rfl (c_X12_at (d) (σ := σ) (x := r) (k := k) ) (fun r3 σ4 hp => ?_)
      obtain ⟨v5, rfl, rfl, f6⟩ := hp
      subst f6
      show Tm _ _ 20 b σ [(3, .int (iI k)), (2, .int (iI m)), (0, .ref b), (1, .int (iI r))] [.int (iI (220 * r + k))] _
      refine tm_istore (L' := [(4, .int (iI (220 * r + k))), (3, .int (iI k)), (2, .int (iI m)), (0, .ref b), (1, .int (iI r))]) dX12_labels_20 (by decide) rfl ?_
      have q2 := hjm k (by omega) (by omega)
      have q3 := hlm k (by omega) (by omega)
      refine tm_aload_n dX12_labels_22 rfl 3 rfl ?_
      refine tm_get (k := 3) (v := .ref (b + 1 + 1)) lay_12 dX12_labels_23 (by decide) fl12_13 rfl ?_
      refine tm_iload dX12_labels_26 0 rfl ?_
      refine tm_iald (z := 220 * r + k) (v := σ.2.1 3 (220 * r + k)) dX12_labels_28 (show mT[1]? = some (3, 0, 2860) from rfl) (by omega) (by omega) (by decide) (rfl) ?_
      have g7 := RG.a hR 3 (220 * r + k)
      refine tm_bipush dX12_labels_29 (by decide) ?_
      refine tm_icmp_eq (tgt := 58) dX12_labels_31 (by decide) ⟨by omega, by omega⟩ ⟨by decide, by decide⟩ (fun h8 => ?_) (fun h8 => ?_)
      · refine tm_iconst dX12_labels_58 ?_
        refine tm_goto (tgt := 63) dX12_labels_59 (by decide) ?_
        refine tm_istore (L' := [(5, .int (iI 1)), (4, .int (iI (220 * r + k))), (3, .int (iI k)), (2, .int (iI m)), (0, .ref b), (1, .int (iI r))]) dX12_labels_63 (by decide) rfl ?_
        refine tm_iload dX12_labels_65 0 rfl ?_
        refine tm_if_eq (tgt := 93) dX12_labels_67 (by decide) ⟨by decide, by decide⟩ (fun h => absurd h (by decide)) (fun _ => ?_)
        refine tm_aload_n dX12_labels_70 rfl 4 rfl ?_
        refine tm_get (k := 4) (v := .ref (b + 1 + 2)) lay_12 dX12_labels_71 (by decide) fl12_17 rfl ?_
        refine tm_iload dX12_labels_74 1 rfl ?_
        refine tm_iald (z := 220 * r + k) (v := σ.2.1 4 (220 * r + k)) dX12_labels_76 (show mT[2]? = some (4, 0, 2860) from rfl) (by omega) (by omega) (by decide) (rfl) ?_
        have g10 := RG.a hR 4 (220 * r + k)
        refine tm_iload_n dX12_labels_77 rfl 3 rfl ?_
        refine tm_icmp_lt (tgt := 93) dX12_labels_78 (by decide) ⟨by omega, by omega⟩ ⟨by omega, by omega⟩ (fun h11 => ?_) (fun h11 => ?_)
        · refine tm_iload_n dX12_labels_93 rfl 3 rfl ?_
          refine tm_istore_n (L' := [(2, .int (iI m)), (5, .int (iI 1)), (4, .int (iI (220 * r + k))), (3, .int (iI k)), (0, .ref b), (1, .int (iI r))]) dX12_labels_94 rfl (by decide) rfl ?_
          refine tm_iinc (q0 := 3) (L' := [(3, .int (iI (k + 1))), (2, .int (iI m)), (5, .int (iI 1)), (4, .int (iI (220 * r + k))), (0, .ref b), (1, .int (iI r))]) dX12_labels_95 rfl (by decide) rfl ?_
          refine tm_goto (tgt := 4) dX12_labels_98 (by decide) ?_
          exact tm_sub [0, 1, 4, 5] rfl (ih _ (by omega) (m) (k + 1) (by omega) (fun j a c e => by
          by_cases q : j = k
          · subst q; omega
          · have := hg j a (by omega) e; omega) rfl)
        · refine tm_aload_n dX12_labels_81 rfl 4 rfl ?_
          refine tm_get (k := 4) (v := .ref (b + 1 + 2)) lay_12 dX12_labels_82 (by decide) fl12_17 rfl ?_
          refine tm_iload dX12_labels_85 1 rfl ?_
          refine tm_iald (z := 220 * r + k) (v := σ.2.1 4 (220 * r + k)) dX12_labels_87 (show mT[2]? = some (4, 0, 2860) from rfl) (by omega) (by omega) (by decide) (rfl) ?_
          have g12 := RG.a hR 4 (220 * r + k)
          refine tm_iconst dX12_labels_88 ?_
          refine tm_iadd dX12_labels_89 ?_
          refine tm_goto (tgt := 94) dX12_labels_90 (by decide) ?_
          refine tm_istore_n (L' := [(2, .int (iI ((σ.2.1 4 (220 * r + k)) + 1))), (5, .int (iI 1)), (4, .int (iI (220 * r + k))), (3, .int (iI k)), (0, .ref b), (1, .int (iI r))]) dX12_labels_94 rfl (by decide) rfl ?_
          refine tm_iinc (q0 := 3) (L' := [(3, .int (iI (k + 1))), (2, .int (iI ((σ.2.1 4 (220 * r + k)) + 1))), (5, .int (iI 1)), (4, .int (iI (220 * r + k))), (0, .ref b), (1, .int (iI r))]) dX12_labels_95 rfl (by decide) rfl ?_
          refine tm_goto (tgt := 4) dX12_labels_98 (by decide) ?_
          exact tm_sub [0, 1, 4, 5] rfl (ih _ (by omega) ((σ.2.1 4 (220 * r + k)) + 1) (k + 1) (by omega) (fun j a c e => by
          by_cases q : j = k
          · subst q; omega
          · have := hg j a (by omega) e; omega) rfl)
      · refine tm_aload_n dX12_labels_34 rfl 3 rfl ?_
        refine tm_get (k := 3) (v := .ref (b + 1 + 1)) lay_12 dX12_labels_35 (by decide) fl12_13 rfl ?_
        refine tm_iload dX12_labels_38 0 rfl ?_
        refine tm_iald (z := 220 * r + k) (v := σ.2.1 3 (220 * r + k)) dX12_labels_40 (show mT[1]? = some (3, 0, 2860) from rfl) (by omega) (by omega) (by decide) (rfl) ?_
        have g13 := RG.a hR 3 (220 * r + k)
        refine tm_bipush dX12_labels_41 (by decide) ?_
        refine tm_icmp_eq (tgt := 58) dX12_labels_43 (by decide) ⟨by omega, by omega⟩ ⟨by decide, by decide⟩ (fun h14 => ?_) (fun h14 => ?_)
        · refine tm_iconst dX12_labels_58 ?_
          refine tm_goto (tgt := 63) dX12_labels_59 (by decide) ?_
          refine tm_istore (L' := [(5, .int (iI 1)), (4, .int (iI (220 * r + k))), (3, .int (iI k)), (2, .int (iI m)), (0, .ref b), (1, .int (iI r))]) dX12_labels_63 (by decide) rfl ?_
          refine tm_iload dX12_labels_65 0 rfl ?_
          refine tm_if_eq (tgt := 93) dX12_labels_67 (by decide) ⟨by decide, by decide⟩ (fun h => absurd h (by decide)) (fun _ => ?_)
          refine tm_aload_n dX12_labels_70 rfl 4 rfl ?_
          refine tm_get (k := 4) (v := .ref (b + 1 + 2)) lay_12 dX12_labels_71 (by decide) fl12_17 rfl ?_
          refine tm_iload dX12_labels_74 1 rfl ?_
          refine tm_iald (z := 220 * r + k) (v := σ.2.1 4 (220 * r + k)) dX12_labels_76 (show mT[2]? = some (4, 0, 2860) from rfl) (by omega) (by omega) (by decide) (rfl) ?_
          have g16 := RG.a hR 4 (220 * r + k)
          refine tm_iload_n dX12_labels_77 rfl 3 rfl ?_
          refine tm_icmp_lt (tgt := 93) dX12_labels_78 (by decide) ⟨by omega, by omega⟩ ⟨by omega, by omega⟩ (fun h17 => ?_) (fun h17 => ?_)
          · refine tm_iload_n dX12_labels_93 rfl 3 rfl ?_
            refine tm_istore_n (L' := [(2, .int (iI m)), (5, .int (iI 1)), (4, .int (iI (220 * r + k))), (3, .int (iI k)), (0, .ref b), (1, .int (iI r))]) dX12_labels_94 rfl (by decide) rfl ?_
            refine tm_iinc (q0 := 3) (L' := [(3, .int (iI (k + 1))), (2, .int (iI m)), (5, .int (iI 1)), (4, .int (iI (220 * r + k))), (0, .ref b), (1, .int (iI r))]) dX12_labels_95 rfl (by decide) rfl ?_
            refine tm_goto (tgt := 4) dX12_labels_98 (by decide) ?_
            exact tm_sub [0, 1, 4, 5] rfl (ih _ (by omega) (m) (k + 1) (by omega) (fun j a c e => by
          by_cases q : j = k
          · subst q; omega
          · have := hg j a (by omega) e; omega) rfl)
          · refine tm_aload_n dX12_labels_81 rfl 4 rfl ?_
            refine tm_get (k := 4) (v := .ref (b + 1 + 2)) lay_12 dX12_labels_82 (by decide) fl12_17 rfl ?_
            refine tm_iload dX12_labels_85 1 rfl ?_
            refine tm_iald (z := 220 * r + k) (v := σ.2.1 4 (220 * r + k)) dX12_labels_87 (show mT[2]? = some (4, 0, 2860) from rfl) (by omega) (by omega) (by decide) (rfl) ?_
            have g18 := RG.a hR 4 (220 * r + k)
            refine tm_iconst dX12_labels_88 ?_
            refine tm_iadd dX12_labels_89 ?_
            refine tm_goto (tgt := 94) dX12_labels_90 (by decide) ?_
            refine tm_istore_n (L' := [(2, .int (iI ((σ.2.1 4 (220 * r + k)) + 1))), (5, .int (iI 1)), (4, .int (iI (220 * r + k))), (3, .int (iI k)), (0, .ref b), (1, .int (iI r))]) dX12_labels_94 rfl (by decide) rfl ?_
            refine tm_iinc (q0 := 3) (L' := [(3, .int (iI (k + 1))), (2, .int (iI ((σ.2.1 4 (220 * r + k)) + 1))), (5, .int (iI 1)), (4, .int (iI (220 * r + k))), (0, .ref b), (1, .int (iI r))]) dX12_labels_95 rfl (by decide) rfl ?_
            refine tm_goto (tgt := 4) dX12_labels_98 (by decide) ?_
            exact tm_sub [0, 1, 4, 5] rfl (ih _ (by omega) ((σ.2.1 4 (220 * r + k)) + 1) (k + 1) (by omega) (fun j a c e => by
          by_cases q : j = k
          · subst q; omega
          · have := hg j a (by omega) e; omega) rfl)
        · refine tm_aload_n dX12_labels_46 rfl 3 rfl ?_
          refine tm_get (k := 3) (v := .ref (b + 1 + 1)) lay_12 dX12_labels_47 (by decide) fl12_13 rfl ?_
          refine tm_iload dX12_labels_50 0 rfl ?_
          refine tm_iald (z := 220 * r + k) (v := σ.2.1 3 (220 * r + k)) dX12_labels_52 (show mT[1]? = some (3, 0, 2860) from rfl) (by omega) (by omega) (by decide) (rfl) ?_
          have g19 := RG.a hR 3 (220 * r + k)
          refine tm_bipush dX12_labels_53 (by decide) ?_
          refine tm_icmp_ne (tgt := 62) dX12_labels_55 (by decide) ⟨by omega, by omega⟩ ⟨by decide, by decide⟩ (fun h20 => ?_) (fun h20 => ?_)
          · refine tm_iconst dX12_labels_62 ?_
            refine tm_istore (L' := [(5, .int (iI 0)), (4, .int (iI (220 * r + k))), (3, .int (iI k)), (2, .int (iI m)), (0, .ref b), (1, .int (iI r))]) dX12_labels_63 (by decide) rfl ?_
            refine tm_iload dX12_labels_65 0 rfl ?_
            refine tm_if_eq (tgt := 93) dX12_labels_67 (by decide) ⟨by decide, by decide⟩ (fun _ => ?_) (fun h => absurd h (by decide))
            refine tm_iload_n dX12_labels_93 rfl 3 rfl ?_
            refine tm_istore_n (L' := [(2, .int (iI m)), (5, .int (iI 0)), (4, .int (iI (220 * r + k))), (3, .int (iI k)), (0, .ref b), (1, .int (iI r))]) dX12_labels_94 rfl (by decide) rfl ?_
            refine tm_iinc (q0 := 3) (L' := [(3, .int (iI (k + 1))), (2, .int (iI m)), (5, .int (iI 0)), (4, .int (iI (220 * r + k))), (0, .ref b), (1, .int (iI r))]) dX12_labels_95 rfl (by decide) rfl ?_
            refine tm_goto (tgt := 4) dX12_labels_98 (by decide) ?_
            exact tm_sub [0, 1, 4, 5] rfl (ih _ (by omega) (m) (k + 1) (by omega) (fun j a c e => by
          by_cases q : j = k
          · subst q; omega
          · have := hg j a (by omega) e; omega) rfl)
          · refine tm_iconst dX12_labels_58 ?_
            refine tm_goto (tgt := 63) dX12_labels_59 (by decide) ?_
            refine tm_istore (L' := [(5, .int (iI 1)), (4, .int (iI (220 * r + k))), (3, .int (iI k)), (2, .int (iI m)), (0, .ref b), (1, .int (iI r))]) dX12_labels_63 (by decide) rfl ?_
            refine tm_iload dX12_labels_65 0 rfl ?_
            refine tm_if_eq (tgt := 93) dX12_labels_67 (by decide) ⟨by decide, by decide⟩ (fun h => absurd h (by decide)) (fun _ => ?_)
            refine tm_aload_n dX12_labels_70 rfl 4 rfl ?_
            refine tm_get (k := 4) (v := .ref (b + 1 + 2)) lay_12 dX12_labels_71 (by decide) fl12_17 rfl ?_
            refine tm_iload dX12_labels_74 1 rfl ?_
            refine tm_iald (z := 220 * r + k) (v := σ.2.1 4 (220 * r + k)) dX12_labels_76 (show mT[2]? = some (4, 0, 2860) from rfl) (by omega) (by omega) (by decide) (rfl) ?_
            have g23 := RG.a hR 4 (220 * r + k)
            refine tm_iload_n dX12_labels_77 rfl 3 rfl ?_
            refine tm_icmp_lt (tgt := 93) dX12_labels_78 (by decide) ⟨by omega, by omega⟩ ⟨by omega, by omega⟩ (fun h24 => ?_) (fun h24 => ?_)
            · refine tm_iload_n dX12_labels_93 rfl 3 rfl ?_
              refine tm_istore_n (L' := [(2, .int (iI m)), (5, .int (iI 1)), (4, .int (iI (220 * r + k))), (3, .int (iI k)), (0, .ref b), (1, .int (iI r))]) dX12_labels_94 rfl (by decide) rfl ?_
              refine tm_iinc (q0 := 3) (L' := [(3, .int (iI (k + 1))), (2, .int (iI m)), (5, .int (iI 1)), (4, .int (iI (220 * r + k))), (0, .ref b), (1, .int (iI r))]) dX12_labels_95 rfl (by decide) rfl ?_
              refine tm_goto (tgt := 4) dX12_labels_98 (by decide) ?_
              exact tm_sub [0, 1, 4, 5] rfl (ih _ (by omega) (m) (k + 1) (by omega) (fun j a c e => by
          by_cases q : j = k
          · subst q; omega
          · have := hg j a (by omega) e; omega) rfl)
            · refine tm_aload_n dX12_labels_81 rfl 4 rfl ?_
              refine tm_get (k := 4) (v := .ref (b + 1 + 2)) lay_12 dX12_labels_82 (by decide) fl12_17 rfl ?_
              refine tm_iload dX12_labels_85 1 rfl ?_
              refine tm_iald (z := 220 * r + k) (v := σ.2.1 4 (220 * r + k)) dX12_labels_87 (show mT[2]? = some (4, 0, 2860) from rfl) (by omega) (by omega) (by decide) (rfl) ?_
              have g25 := RG.a hR 4 (220 * r + k)
              refine tm_iconst dX12_labels_88 ?_
              refine tm_iadd dX12_labels_89 ?_
              refine tm_goto (tgt := 94) dX12_labels_90 (by decide) ?_
              refine tm_istore_n (L' := [(2, .int (iI ((σ.2.1 4 (220 * r + k)) + 1))), (5, .int (iI 1)), (4, .int (iI (220 * r + k))), (3, .int (iI k)), (0, .ref b), (1, .int (iI r))]) dX12_labels_94 rfl (by decide) rfl ?_
              refine tm_iinc (q0 := 3) (L' := [(3, .int (iI (k + 1))), (2, .int (iI ((σ.2.1 4 (220 * r + k)) + 1))), (5, .int (iI 1)), (4, .int (iI (220 * r + k))), (0, .ref b), (1, .int (iI r))]) dX12_labels_95 rfl (by decide) rfl ?_
              refine tm_goto (tgt := 4) dX12_labels_98 (by decide) ?_
              exact tm_sub [0, 1, 4, 5] rfl (ih _ (by omega) ((σ.2.1 4 (220 * r + k)) + 1) (k + 1) (by omega) (fun j a c e => by
          by_cases q : j = k
          · subst q; omega
          · have := hg j a (by omega) e; omega) rfl)
set_option maxHeartbeats 1000000 in
set_option maxRecDepth 20000 in
theorem c2_X12_labels (d : Nat) {b : Nat} {σ : MS} {r : Int} (hr : 0 ≤ r ∧ r < 12) (hR : RG σ) (hit : ITM σ) (hjm : JMP σ r) (hlm : LBM σ r) (hF1 : 1 ≤ σ.2.1 14 r) : Tm (d + 2) m_X12_labels 0 b σ [(0, .ref b), (1, .int (iI r))] [] (fun ro σ2 => ∃ v : Int, ro = some (.int (iI v)) ∧ σ = σ2 ∧ (0 ≤ v ∧ v ≤ 4096 ∧ v + 1 ≤ 121 * σ.2.1 14 r) ∧ (∀ j, 0 ≤ j → j < σ.2.1 9 r → (σ.2.1 3 (220 * r + j) = 8 ∨ σ.2.1 3 (220 * r + j) = 9 ∨ σ.2.1 3 (220 * r + j) = 13) → σ.2.1 4 (220 * r + j) < v)) := by
  refine tm_iconst dX12_labels_0 ?_
  refine tm_istore_n (L' := [(2, .int (iI 0)), (0, .ref b), (1, .int (iI r))]) dX12_labels_1 rfl (by decide) rfl ?_
  refine tm_iconst dX12_labels_2 ?_
  refine tm_istore_n (L' := [(3, .int (iI 0)), (2, .int (iI 0)), (0, .ref b), (1, .int (iI r))]) dX12_labels_3 rfl (by decide) rfl ?_
  refine tm_sub [0, 1, 2, 3] rfl (l2_labels (d) (σ := σ) (r := r) hr hR hit hjm hlm (by omega) (fun m7 k8 f5 f6 => ?_) _ (0) (0) (by have := hit r (by omega) (by omega); omega) (fun j a c => by omega) rfl)
  show Tm _ _ 101 b σ [(3, .int (iI k8)), (2, .int (iI m7)), (0, .ref b), (1, .int (iI r))] [] _
  refine tm_iload_n dX12_labels_101 rfl 1 rfl ?_
  exact tm_iret rfl dX12_labels_102 (⟨_, rfl, rfl, by omega, by assumption⟩)
theorem dX12_meltItem_30 : decode cX12_meltItem 30 = .ok (.iload 8, 2) := by decide +kernel
theorem dX12_meltItem_32 : decode cX12_meltItem 32 = .ok (.iconst 4, 1) := by decide +kernel
theorem dX12_meltItem_33 : decode cX12_meltItem 33 = .ok (.if_icmp .ge 45, 3) := by decide +kernel
theorem dX12_meltItem_36 : decode cX12_meltItem 36 = .ok (.aload_n 0, 1) := by decide +kernel
theorem dX12_meltItem_37 : decode cX12_meltItem 37 = .ok (.getfield 29, 3) := by decide +kernel
theorem dX12_meltItem_40 : decode cX12_meltItem 40 = .ok (.iconst 4, 1) := by decide +kernel
theorem dX12_meltItem_41 : decode cX12_meltItem 41 = .ok (.iload 7, 2) := by decide +kernel
theorem dX12_meltItem_43 : decode cX12_meltItem 43 = .ok (.imul, 1) := by decide +kernel
theorem dX12_meltItem_44 : decode cX12_meltItem 44 = .ok (.iload 8, 2) := by decide +kernel
theorem dX12_meltItem_46 : decode cX12_meltItem 46 = .ok (.iadd, 1) := by decide +kernel
theorem dX12_meltItem_47 : decode cX12_meltItem 47 = .ok (.dup2, 1) := by decide +kernel
theorem dX12_meltItem_48 : decode cX12_meltItem 48 = .ok (.iaload, 1) := by decide +kernel
theorem dX12_meltItem_49 : decode cX12_meltItem 49 = .ok (.aload_n 0, 1) := by decide +kernel
theorem dX12_meltItem_50 : decode cX12_meltItem 50 = .ok (.getfield 26, 3) := by decide +kernel
theorem dX12_meltItem_53 : decode cX12_meltItem 53 = .ok (.iconst 4, 1) := by decide +kernel
theorem dX12_meltItem_54 : decode cX12_meltItem 54 = .ok (.iload 7, 2) := by decide +kernel
theorem dX12_meltItem_56 : decode cX12_meltItem 56 = .ok (.imul, 1) := by decide +kernel
theorem dX12_meltItem_57 : decode cX12_meltItem 57 = .ok (.iload 8, 2) := by decide +kernel
theorem dX12_meltItem_59 : decode cX12_meltItem 59 = .ok (.iadd, 1) := by decide +kernel
theorem dX12_meltItem_60 : decode cX12_meltItem 60 = .ok (.iaload, 1) := by decide +kernel
theorem dX12_meltItem_61 : decode cX12_meltItem 61 = .ok (.iconst 2, 1) := by decide +kernel
theorem dX12_meltItem_62 : decode cX12_meltItem 62 = .ok (.if_icmp .ne 7, 3) := by decide +kernel
theorem dX12_meltItem_69 : decode cX12_meltItem 69 = .ok (.iconst 0, 1) := by decide +kernel
theorem dX12_meltItem_70 : decode cX12_meltItem 70 = .ok (.iadd, 1) := by decide +kernel
theorem dX12_meltItem_71 : decode cX12_meltItem 71 = .ok (.iastore, 1) := by decide +kernel
theorem dX12_meltItem_72 : decode cX12_meltItem 72 = .ok (.iinc 8 1, 3) := by decide +kernel
theorem dX12_meltItem_75 : decode cX12_meltItem 75 = .ok (.goto (-45), 3) := by decide +kernel
theorem dX12_meltItem_65 : decode cX12_meltItem 65 = .ok (.iload_n 3, 1) := by decide +kernel
theorem dX12_meltItem_66 : decode cX12_meltItem 66 = .ok (.goto 4, 3) := by decide +kernel
set_option maxHeartbeats 1000000 in
set_option maxRecDepth 20000 in
theorem l_mi (d : Nat) {b : Nat} {σ0 : MS} {y : Int} {x : Int} {f : Int} {base : Int} {lb : Int} {to : Int} {out : Int} {post : Option Value → MS → Prop} (hR0 : RG σ0) (hy : 0 ≤ y ∧ y < 2860) (hrg : ∀ u, 0 ≤ u → u < 4 → σ0.2.1 7 (4 * y + u) = 2 → 0 ≤ σ0.2.1 8 (4 * y + u) ∧ σ0.2.1 8 (4 * y + u) < 192) (hb : 0 ≤ base ∧ base ≤ 192) (hx_78 : ∀ (j : Int) (σ : MS) , (Fr [] [8] [] σ0 σ) → (RG σ) → (OFF y σ0 σ) → (∀ u, 0 ≤ u → u < 4 → σ.2.1 8 (4 * y + u) = σ0.2.1 8 (4 * y + u) + (if σ0.2.1 7 (4 * y + u) = 2 then base else 0)) → Tm (d + 1) m_X12_meltItem 78 b σ [(7, .int (iI y)), (0, .ref b), (1, .int (iI x)), (2, .int (iI f)), (3, .int (iI base)), (4, .int (iI lb)), (5, .int (iI to)), (6, .int (iI out))] [] post) : ∀ (n : Nat) (j : Int) (σ : MS) , (Fr [] [8] [] σ0 σ) → (RG σ) → (0 ≤ j ∧ j ≤ 4) → (OFF y σ0 σ) → (∀ u, 0 ≤ u → u < 4 → (u < j → σ.2.1 8 (4 * y + u) = σ0.2.1 8 (4 * y + u) + (if σ0.2.1 7 (4 * y + u) = 2 then base else 0)) ∧ (j ≤ u → σ.2.1 8 (4 * y + u) = σ0.2.1 8 (4 * y + u))) → (4 - j).toNat = n → Tm (d + 1) m_X12_meltItem 30 b σ [(8, .int (iI j)), (7, .int (iI y)), (0, .ref b), (1, .int (iI x)), (2, .int (iI f)), (3, .int (iI base)), (4, .int (iI lb)), (5, .int (iI to)), (6, .int (iI out))] [] post := by
  intro n
  induction n using Nat.strongRecOn with
  | _ n ih =>
    intro j σ hF hR h0 hof hsh hm
    have q7 : σ.2.1 7 = σ0.2.1 7 := hF.2.1 7 (by decide)
    refine tm_iload dX12_meltItem_30 0 rfl ?_
    refine tm_iconst dX12_meltItem_32 ?_
    refine tm_icmp_ge (tgt := 78) dX12_meltItem_33 (by decide) ⟨by omega, by omega⟩ ⟨by decide, by decide⟩ (fun h1 => ?_) (fun h1 => ?_)
    · exact tm_sub [1, 2, 3, 4, 5, 6, 7, 8] rfl (hx_78 (0) σ (Fr.rfl.trans (Fr.sub hF (by decide) (by decide) (by decide))) hR hof (fun u a c => (hsh u a c).1 (by omega)))
    · have hj := hsh j (by omega) (by omega)
      have hj2 := hj.2 (by omega)
      have hrj := hrg j (by omega) (by omega)
      refine tm_aload_n dX12_meltItem_36 rfl 2 rfl ?_
      refine tm_get (k := 8) (v := .ref (b + 1 + 6)) lay_12 dX12_meltItem_37 (by decide) fl12_29 rfl ?_
      refine tm_iconst dX12_meltItem_40 ?_
      refine tm_iload dX12_meltItem_41 1 rfl ?_
      refine tm_imul dX12_meltItem_43 ?_
      refine tm_iload dX12_meltItem_44 0 rfl ?_
      refine tm_iadd dX12_meltItem_46 ?_
      refine tm_dup2 dX12_meltItem_47 rfl rfl ?_
      refine tm_iald (z := (4 * y) + j) (v := σ.2.1 8 ((4 * y) + j)) dX12_meltItem_48 (show mT[6]? = some (8, 0, 11440) from rfl) (by omega) (by omega) (by decide) (rfl) ?_
      have g2 := RG.a hR 8 ((4 * y) + j)
      refine tm_aload_n dX12_meltItem_49 rfl 2 rfl ?_
      refine tm_get (k := 7) (v := .ref (b + 1 + 5)) lay_12 dX12_meltItem_50 (by decide) fl12_26 rfl ?_
      refine tm_iconst dX12_meltItem_53 ?_
      refine tm_iload dX12_meltItem_54 1 rfl ?_
      refine tm_imul dX12_meltItem_56 ?_
      refine tm_iload dX12_meltItem_57 0 rfl ?_
      refine tm_iadd dX12_meltItem_59 ?_
      refine tm_iald (z := (4 * y) + j) (v := σ0.2.1 7 ((4 * y) + j)) dX12_meltItem_60 (show mT[5]? = some (7, 0, 11440) from rfl) (by omega) (by omega) (by decide) (ra_F hF (by decide) (rfl)) ?_
      have g3 := RG.a hR0 7 ((4 * y) + j)
      refine tm_iconst dX12_meltItem_61 ?_
      refine tm_icmp_ne (tgt := 69) dX12_meltItem_62 (by decide) ⟨by omega, by omega⟩ ⟨by decide, by decide⟩ (fun h4 => ?_) (fun h4 => ?_)
      · refine tm_iconst dX12_meltItem_69 ?_
        refine tm_iadd dX12_meltItem_70 ?_
        refine tm_iast (z := (4 * y) + j) (v := (σ.2.1 8 ((4 * y) + j)) + 0) dX12_meltItem_71 (show mT[6]? = some (8, 0, 11440) from rfl) (by omega) (by omega) (by decide) ?_
        refine tm_iinc (q0 := 0) (L' := [(8, .int (iI (j + 1))), (7, .int (iI y)), (0, .ref b), (1, .int (iI x)), (2, .int (iI f)), (3, .int (iI base)), (4, .int (iI lb)), (5, .int (iI to)), (6, .int (iI out))]) dX12_meltItem_72 rfl (by decide) rfl ?_
        refine tm_goto (tgt := 30) dX12_meltItem_75 (by decide) ?_
        exact tm_sub [0, 1, 2, 3, 4, 5, 6, 7, 8] rfl (ih _ (by omega) (j + 1) (sA 8 ((4 * y) + j) ((σ.2.1 8 ((4 * y) + j)) + 0) σ) ((Fr.rfl.trans (Fr.sub hF (by decide) (by decide) (by decide))).A (by decide)) (hR.A (by omega)) (by omega) (hof.trans (OFF.a8 (by omega) (by omega))) (fun u a c => by
          by_cases q : u = j
          · subst q
            refine ⟨fun _ => ?_, fun w => absurd w (by omega)⟩
            first
            | (rw [if_pos (by omega)]; exact ra_eq.trans (by omega))
            | (rw [if_neg (by omega)]; exact ra_eq.trans (by omega))
          · exact ⟨fun w => ra_ne (by omega) ((hsh u a c).1 (by omega)), fun w => ra_ne (by omega) ((hsh u a c).2 (by omega))⟩) rfl)
      · refine tm_iload_n dX12_meltItem_65 rfl 5 rfl ?_
        refine tm_goto (tgt := 70) dX12_meltItem_66 (by decide) ?_
        refine tm_iadd dX12_meltItem_70 ?_
        refine tm_iast (z := (4 * y) + j) (v := (σ.2.1 8 ((4 * y) + j)) + base) dX12_meltItem_71 (show mT[6]? = some (8, 0, 11440) from rfl) (by omega) (by omega) (by decide) ?_
        refine tm_iinc (q0 := 0) (L' := [(8, .int (iI (j + 1))), (7, .int (iI y)), (0, .ref b), (1, .int (iI x)), (2, .int (iI f)), (3, .int (iI base)), (4, .int (iI lb)), (5, .int (iI to)), (6, .int (iI out))]) dX12_meltItem_72 rfl (by decide) rfl ?_
        refine tm_goto (tgt := 30) dX12_meltItem_75 (by decide) ?_
        exact tm_sub [0, 1, 2, 3, 4, 5, 6, 7, 8] rfl (ih _ (by omega) (j + 1) (sA 8 ((4 * y) + j) ((σ.2.1 8 ((4 * y) + j)) + base) σ) ((Fr.rfl.trans (Fr.sub hF (by decide) (by decide) (by decide))).A (by decide)) (hR.A (by omega)) (by omega) (hof.trans (OFF.a8 (by omega) (by omega))) (fun u a c => by
          by_cases q : u = j
          · subst q
            refine ⟨fun _ => ?_, fun w => absurd w (by omega)⟩
            first
            | (rw [if_pos (by omega)]; exact ra_eq.trans (by omega))
            | (rw [if_neg (by omega)]; exact ra_eq.trans (by omega))
          · exact ⟨fun w => ra_ne (by omega) ((hsh u a c).1 (by omega)), fun w => ra_ne (by omega) ((hsh u a c).2 (by omega))⟩) rfl)
end
section
theorem ml12_515 : Cond.methodLink RX12 515 yX12_add ∈ pWW := pw9 (List.mem_of_getElem? (i := 201) rfl) rfl
theorem dX12_meltItem_0 : decode cX12_meltItem 0 = .ok (.sipush 2640, 3) := by decide +kernel
theorem dX12_meltItem_3 : decode cX12_meltItem 3 = .ok (.aload_n 0, 1) := by decide +kernel
theorem dX12_meltItem_4 : decode cX12_meltItem 4 = .ok (.getfield 509, 3) := by decide +kernel
theorem dX12_meltItem_7 : decode cX12_meltItem 7 = .ok (.iadd, 1) := by decide +kernel
theorem dX12_meltItem_8 : decode cX12_meltItem 8 = .ok (.istore 7, 2) := by decide +kernel
theorem dX12_meltItem_10 : decode cX12_meltItem 10 = .ok (.aload_n 0, 1) := by decide +kernel
theorem dX12_meltItem_11 : decode cX12_meltItem 11 = .ok (.iload_n 1, 1) := by decide +kernel
theorem dX12_meltItem_12 : decode cX12_meltItem 12 = .ok (.iload 7, 2) := by decide +kernel
theorem dX12_meltItem_14 : decode cX12_meltItem 14 = .ok (.invokevirtual 394, 3) := by decide +kernel
theorem dX12_meltItem_17 : decode cX12_meltItem 17 = .ok (.aload_n 0, 1) := by decide +kernel
theorem dX12_meltItem_18 : decode cX12_meltItem 18 = .ok (.dup, 1) := by decide +kernel
theorem dX12_meltItem_19 : decode cX12_meltItem 19 = .ok (.getfield 509, 3) := by decide +kernel
theorem dX12_meltItem_22 : decode cX12_meltItem 22 = .ok (.iconst 1, 1) := by decide +kernel
theorem dX12_meltItem_23 : decode cX12_meltItem 23 = .ok (.iadd, 1) := by decide +kernel
theorem dX12_meltItem_24 : decode cX12_meltItem 24 = .ok (.putfield 509, 3) := by decide +kernel
theorem dX12_meltItem_27 : decode cX12_meltItem 27 = .ok (.iconst 0, 1) := by decide +kernel
theorem dX12_meltItem_28 : decode cX12_meltItem 28 = .ok (.istore 8, 2) := by decide +kernel
theorem dX12_meltItem_78 : decode cX12_meltItem 78 = .ok (.aload_n 0, 1) := by decide +kernel
theorem dX12_meltItem_79 : decode cX12_meltItem 79 = .ok (.getfield 13, 3) := by decide +kernel
theorem dX12_meltItem_82 : decode cX12_meltItem 82 = .ok (.iload_n 1, 1) := by decide +kernel
theorem dX12_meltItem_83 : decode cX12_meltItem 83 = .ok (.iaload, 1) := by decide +kernel
theorem dX12_meltItem_84 : decode cX12_meltItem 84 = .ok (.tableswitch 133 6 15 #[130, 56, 87, 87, 133, 102, 102, 87, 116, 116], 56) := by decide +kernel
theorem dX12_meltItem_217 : decode cX12_meltItem 217 = .ok (.aload_n 0, 1) := by decide +kernel
theorem dX12_meltItem_218 : decode cX12_meltItem 218 = .ok (.getfield 17, 3) := by decide +kernel
theorem dX12_meltItem_221 : decode cX12_meltItem 221 = .ok (.iload 7, 2) := by decide +kernel
theorem dX12_meltItem_223 : decode cX12_meltItem 223 = .ok (.dup2, 1) := by decide +kernel
theorem dX12_meltItem_224 : decode cX12_meltItem 224 = .ok (.iaload, 1) := by decide +kernel
theorem dX12_meltItem_225 : decode cX12_meltItem 225 = .ok (.iload_n 3, 1) := by decide +kernel
theorem dX12_meltItem_226 : decode cX12_meltItem 226 = .ok (.iadd, 1) := by decide +kernel
theorem dX12_meltItem_227 : decode cX12_meltItem 227 = .ok (.iastore, 1) := by decide +kernel
theorem dX12_meltItem_228 : decode cX12_meltItem 228 = .ok (.return_, 1) := by decide +kernel
theorem dX12_meltItem_214 : decode cX12_meltItem 214 = .ok (.goto 14, 3) := by decide +kernel
theorem dX12_meltItem_140 : decode cX12_meltItem 140 = .ok (.aload_n 0, 1) := by decide +kernel
theorem dX12_meltItem_141 : decode cX12_meltItem 141 = .ok (.getfield 13, 3) := by decide +kernel
theorem dX12_meltItem_144 : decode cX12_meltItem 144 = .ok (.iload 7, 2) := by decide +kernel
theorem dX12_meltItem_146 : decode cX12_meltItem 146 = .ok (.iconst 0, 1) := by decide +kernel
theorem dX12_meltItem_147 : decode cX12_meltItem 147 = .ok (.iastore, 1) := by decide +kernel
theorem dX12_meltItem_148 : decode cX12_meltItem 148 = .ok (.aload_n 0, 1) := by decide +kernel
theorem dX12_meltItem_149 : decode cX12_meltItem 149 = .ok (.getfield 17, 3) := by decide +kernel
theorem dX12_meltItem_152 : decode cX12_meltItem 152 = .ok (.iload 7, 2) := by decide +kernel
theorem dX12_meltItem_154 : decode cX12_meltItem 154 = .ok (.iload 5, 2) := by decide +kernel
theorem dX12_meltItem_156 : decode cX12_meltItem 156 = .ok (.iastore, 1) := by decide +kernel
theorem dX12_meltItem_157 : decode cX12_meltItem 157 = .ok (.aload_n 0, 1) := by decide +kernel
theorem dX12_meltItem_158 : decode cX12_meltItem 158 = .ok (.bipush 8, 2) := by decide +kernel
theorem dX12_meltItem_160 : decode cX12_meltItem 160 = .ok (.iload 6, 2) := by decide +kernel
theorem dX12_meltItem_162 : decode cX12_meltItem 162 = .ok (.iconst 0, 1) := by decide +kernel
theorem dX12_meltItem_163 : decode cX12_meltItem 163 = .ok (.iconst 0, 1) := by decide +kernel
theorem dX12_meltItem_164 : decode cX12_meltItem 164 = .ok (.iconst 0, 1) := by decide +kernel
theorem dX12_meltItem_165 : decode cX12_meltItem 165 = .ok (.invokevirtual 515, 3) := by decide +kernel
theorem dX12_meltItem_168 : decode cX12_meltItem 168 = .ok (.goto 60, 3) := by decide +kernel
theorem dX12_meltItem_171 : decode cX12_meltItem 171 = .ok (.aload_n 0, 1) := by decide +kernel
theorem dX12_meltItem_172 : decode cX12_meltItem 172 = .ok (.getfield 17, 3) := by decide +kernel
theorem dX12_meltItem_175 : decode cX12_meltItem 175 = .ok (.iload 7, 2) := by decide +kernel
theorem dX12_meltItem_177 : decode cX12_meltItem 177 = .ok (.dup2, 1) := by decide +kernel
theorem dX12_meltItem_178 : decode cX12_meltItem 178 = .ok (.iaload, 1) := by decide +kernel
theorem dX12_meltItem_179 : decode cX12_meltItem 179 = .ok (.iload 4, 2) := by decide +kernel
theorem dX12_meltItem_181 : decode cX12_meltItem 181 = .ok (.iadd, 1) := by decide +kernel
theorem dX12_meltItem_182 : decode cX12_meltItem 182 = .ok (.iastore, 1) := by decide +kernel
theorem dX12_meltItem_183 : decode cX12_meltItem 183 = .ok (.goto 45, 3) := by decide +kernel
theorem dX12_meltItem_186 : decode cX12_meltItem 186 = .ok (.aload_n 0, 1) := by decide +kernel
theorem dX12_meltItem_187 : decode cX12_meltItem 187 = .ok (.getfield 20, 3) := by decide +kernel
theorem dX12_meltItem_190 : decode cX12_meltItem 190 = .ok (.iload 7, 2) := by decide +kernel
theorem dX12_meltItem_192 : decode cX12_meltItem 192 = .ok (.dup2, 1) := by decide +kernel
theorem dX12_meltItem_193 : decode cX12_meltItem 193 = .ok (.iaload, 1) := by decide +kernel
theorem dX12_meltItem_194 : decode cX12_meltItem 194 = .ok (.iload_n 2, 1) := by decide +kernel
theorem dX12_meltItem_195 : decode cX12_meltItem 195 = .ok (.iadd, 1) := by decide +kernel
theorem dX12_meltItem_196 : decode cX12_meltItem 196 = .ok (.iastore, 1) := by decide +kernel
theorem dX12_meltItem_197 : decode cX12_meltItem 197 = .ok (.goto 31, 3) := by decide +kernel
theorem dX12_meltItem_200 : decode cX12_meltItem 200 = .ok (.aload_n 0, 1) := by decide +kernel
theorem dX12_meltItem_201 : decode cX12_meltItem 201 = .ok (.getfield 17, 3) := by decide +kernel
theorem dX12_meltItem_204 : decode cX12_meltItem 204 = .ok (.iload 7, 2) := by decide +kernel
theorem dX12_meltItem_206 : decode cX12_meltItem 206 = .ok (.dup2, 1) := by decide +kernel
theorem dX12_meltItem_207 : decode cX12_meltItem 207 = .ok (.iaload, 1) := by decide +kernel
theorem dX12_meltItem_208 : decode cX12_meltItem 208 = .ok (.iload_n 2, 1) := by decide +kernel
theorem dX12_meltItem_209 : decode cX12_meltItem 209 = .ok (.iadd, 1) := by decide +kernel
theorem dX12_meltItem_210 : decode cX12_meltItem 210 = .ok (.iastore, 1) := by decide +kernel
theorem dX12_meltItem_211 : decode cX12_meltItem 211 = .ok (.goto 17, 3) := by decide +kernel
set_option maxHeartbeats 1000000 in
set_option maxRecDepth 20000 in
theorem c_X12_meltItem (d : Nat) {b : Nat} {σ : MS} {x : Int} {f : Int} {base : Int} {lb : Int} {to : Int} {out : Int} {ρ : MS} {FI : Int → Int} {lf : Int → Int} {frq : Int → Int} {lfq : Int → Int} {q : Int} {i : Int} {g0 : Int} {m : Int} (hR : RG σ) (hx : x = 220 * q + i) (hq : 0 ≤ q ∧ q < 6 ∧ i < 220) (hn : σ.1 62 ≤ 217) (hmi : MIH ρ σ q f base lb to out g0 (σ.1 62) i m FI lf frq lfq) (hf2 : f + ρ.2.1 14 q ≤ 12 ∧ 0 ≤ ρ.2.1 14 q ∧ 0 ≤ m) : Tm (d + 3) m_X12_meltItem 0 b σ [(0, .ref b), (1, .int (iI x)), (2, .int (iI f)), (3, .int (iI base)), (4, .int (iI lb)), (5, .int (iI to)), (6, .int (iI out))] [] (fun ro σ2 => ro = none ∧ (Fr [62] [3, 4, 5, 6, 7, 8] [] σ σ2) ∧ (RG σ2) ∧ (σ2.1 62 = σ.1 62 + (if ρ.2.1 3 (220 * q + i) = 7 then 2 else 1)) ∧ (MSG ρ σ2 FI lf q (f + ρ.2.1 14 q) lb out g0 (σ2.1 62) (i + 1) (Gq ρ q f frq (i + 1)))) := by
  have hix : IEQ ρ x σ x := by rw [hx]; exact hmi.ms.2.2.2.2.2.1 _ (by omega)
  have hokx : OKI ρ (ρ.2.1 14 q) x := by rw [hx]; exact hmi.ok
  have ha := hmi.ha
  have hi := hmi.hi
  have hb := hmi.hb
  have ht := hmi.ht
  have hl := hmi.hl
  have hf := hmi.hf
  refine tm_sipush dX12_meltItem_0 (by decide) ?_
  refine tm_aload_n dX12_meltItem_3 rfl 0 rfl ?_
  refine tm_getS (k := 62) (t := σ.1 62) dX12_meltItem_4 (by decide) fl12_509 rfl (rfl) ?_
  have g1 := RG.s hR 62
  refine tm_iadd dX12_meltItem_7 ?_
  refine tm_istore (L' := [(7, .int (iI (2640 + (σ.1 62)))), (0, .ref b), (1, .int (iI x)), (2, .int (iI f)), (3, .int (iI base)), (4, .int (iI lb)), (5, .int (iI to)), (6, .int (iI out))]) dX12_meltItem_8 (by decide) rfl ?_
  refine tm_aload_n dX12_meltItem_10 rfl 1 rfl ?_
  refine tm_iload_n dX12_meltItem_11 rfl 2 rfl ?_
  refine tm_iload dX12_meltItem_12 0 rfl ?_
  refine tm_callV (M := m_X12_meltItem) (pc := 14) (ix := 394) (M' := m_X12_copyItem) (As := [.int (iI x), .int (iI (2640 + (σ.1 62)))]) (rest := []) dX12_meltItem_14 ok_X12_copyItem im_X12_copyItem se_X12_copyItem ml12_394 np_X12_copyItem rfl rfl (Nat.le_of_ble_eq_true rfl) (Nat.le_of_ble_eq_true rfl) rfl (c_X12_copyItem (d + 1) (σ := σ) (f := x) (t := 2640 + (σ.1 62)) (by omega) (by omega)) (fun r2 σ3 hp => ?_)
  obtain ⟨rfl, f5⟩ := hp
  subst f5
  show Tm _ _ 17 b (fCopy (x) (2640 + (σ.1 62)) σ) [(7, .int (iI (2640 + (σ.1 62)))), (0, .ref b), (1, .int (iI x)), (2, .int (iI f)), (3, .int (iI base)), (4, .int (iI lb)), (5, .int (iI to)), (6, .int (iI out))] [] _
  refine tm_aload_n dX12_meltItem_17 rfl 1 rfl ?_
  refine tm_dup dX12_meltItem_18 rfl ?_
  refine tm_getS (k := 62) (t := σ.1 62) dX12_meltItem_19 (by decide) fl12_509 rfl (rs_F fCopy_fr (by decide) (rfl)) ?_
  have g6 := RG.s hR 62
  refine tm_iconst dX12_meltItem_22 ?_
  refine tm_iadd dX12_meltItem_23 ?_
  refine tm_putS (k := 62) (v := (σ.1 62) + 1) lay_12 dX12_meltItem_24 (by decide) fl12_509 rfl (tyX12_ok 62 (by decide)) rfl rfl rfl ?_
  refine tm_iconst dX12_meltItem_27 ?_
  refine tm_istore (L' := [(8, .int (iI 0)), (7, .int (iI (2640 + (σ.1 62)))), (0, .ref b), (1, .int (iI x)), (2, .int (iI f)), (3, .int (iI base)), (4, .int (iI lb)), (5, .int (iI to)), (6, .int (iI out))]) dX12_meltItem_28 (by decide) rfl ?_
  refine tm_sub [0, 1, 2, 3, 4, 5, 6, 7, 8] rfl (l_mi (d + 2) (σ0 := (sS 62 ((σ.1 62) + 1) (fCopy (x) (2640 + (σ.1 62)) σ))) (y := 2640 + (σ.1 62)) (x := x) (f := f) (base := base) (lb := lb) (to := to) (out := out) ((hR.copy).S (by omega)) (by omega) (fun u a c e => by
   have i1 := fCopy_ieq (f := x) (t := 2640 + σ.1 62) (σ := σ)
   have i2 := hix.trans i1
   have o8 := hokx.2.2.2.2.2.2.2.1 u a c
   rw [← (i2.2.2.2.2 u a c).1, ← (i2.2.2.2.2 u a c).2] at o8
   exact (o8.2 e).1) (by omega) (fun j13 σ14 F9 R10 f11 f12 => ?_) _ (0) (sS 62 ((σ.1 62) + 1) (fCopy (x) (2640 + (σ.1 62)) σ)) Fr.rfl ((hR.copy).S (by omega)) (by omega) OFF.rfl (fun u a c => ⟨fun w => absurd w (by omega), fun _ => rfl⟩) rfl)
  show Tm _ _ 78 b σ14 [(7, .int (iI (2640 + (σ.1 62)))), (0, .ref b), (1, .int (iI x)), (2, .int (iI f)), (3, .int (iI base)), (4, .int (iI lb)), (5, .int (iI to)), (6, .int (iI out))] [] _
  have n62 : σ14.1 62 = σ.1 62 + 1 := by rw [F9.1 62 (by decide)]; exact rs_eq
  have hmc0 : MIC ρ σ σ14 x (σ.1 62) base := MIC.mk (by omega) hix hmi.ms.2.2.2.2.2.2 f11 F9 f12
  have hmc : MIC ρ σ σ14 (220 * q + i) (σ.1 62) base := by rw [← hx]; exact hmc0
  have e3x : (fCopy (x) (2640 + (σ.1 62)) σ).2.1 3 x = ρ.2.1 3 (220 * q + i) := by rw [← hx]; exact (hix.trans (fCopy_off.ieq (by omega))).1
  have k0 := hmi.ok.1
  have k10 := hmi.h10
  have c3 := hmc.2.1
  have c4 := hmc.2.2.1
  have c5 := hmc.2.2.2.1
  have c4f : (fCopy (x) (2640 + (σ.1 62)) σ).2.1 4 (2640 + σ.1 62) = ρ.2.1 4 (220 * q + i) := by rw [← hx]; exact (hix.trans fCopy_ieq).2.1
  have c5f : (fCopy (x) (2640 + (σ.1 62)) σ).2.1 5 (2640 + σ.1 62) = ρ.2.1 5 (220 * q + i) := by rw [← hx]; exact (hix.trans fCopy_ieq).2.2.1
  have ok4 := hmi.ok.2.2.1
  have ok5 := hmi.ok.2.2.2.1
  have ok6 := hmi.ok.2.1
  have ok7 := hmi.ok.2.2.2.2.2.1
  refine tm_aload_n dX12_meltItem_78 rfl 1 rfl ?_
  refine tm_get (k := 3) (v := .ref (b + 1 + 1)) lay_12 dX12_meltItem_79 (by decide) fl12_13 rfl ?_
  refine tm_iload_n dX12_meltItem_82 rfl 2 rfl ?_
  refine tm_iald (z := x) (v := (fCopy (x) (2640 + (σ.1 62)) σ).2.1 3 x) dX12_meltItem_83 (show mT[1]? = some (3, 0, 2860) from rfl) (by omega) (by omega) (by decide) (ra_F F9 (by decide) (ra_S (rfl))) ?_
  by_cases h15 : (fCopy (x) (2640 + (σ.1 62)) σ).2.1 3 x < 6 ∨ 15 < (fCopy (x) (2640 + (σ.1 62)) σ).2.1 3 x
  · refine tm_tableOut (tgt := 217) dX12_meltItem_84 ⟨by omega, by omega⟩ h15 (by decide) ?_
    refine tm_aload_n dX12_meltItem_217 rfl 1 rfl ?_
    refine tm_get (k := 4) (v := .ref (b + 1 + 2)) lay_12 dX12_meltItem_218 (by decide) fl12_17 rfl ?_
    refine tm_iload dX12_meltItem_221 0 rfl ?_
    refine tm_dup2 dX12_meltItem_223 rfl rfl ?_
    refine tm_iald (z := 2640 + (σ.1 62)) (v := (fCopy (x) (2640 + (σ.1 62)) σ).2.1 4 (2640 + (σ.1 62))) dX12_meltItem_224 (show mT[2]? = some (4, 0, 2860) from rfl) (by omega) (by omega) (by decide) (ra_F F9 (by decide) (ra_S (rfl))) ?_
    refine tm_iload_n dX12_meltItem_225 rfl 4 rfl ?_
    refine tm_iadd dX12_meltItem_226 ?_
    refine tm_iast (z := 2640 + (σ.1 62)) (v := ((fCopy (x) (2640 + (σ.1 62)) σ).2.1 4 (2640 + (σ.1 62))) + base) dX12_meltItem_227 (show mT[2]? = some (4, 0, 2860) from rfl) (by omega) (by omega) (by decide) ?_
    exact tm_vret rfl dX12_meltItem_228 (⟨rfl, ((((Fr.rfl.trans (Fr.sub fCopy_fr (by decide) (by decide) (by decide))).S (by decide)).trans (Fr.sub F9 (by decide) (by decide) (by decide))).A (by decide)), (R10.A (by omega)), by rw [show (sA 4 (2640 + (σ.1 62)) (((fCopy (x) (2640 + (σ.1 62)) σ).2.1 4 (2640 + (σ.1 62))) + base) σ14).1 62 = σ.1 62 + 1 from n62, if_neg (by omega)], by rw [show (sA 4 (2640 + (σ.1 62)) (((fCopy (x) (2640 + (σ.1 62)) σ).2.1 4 (2640 + (σ.1 62))) + base) σ14).1 62 = σ.1 62 + 1 from n62]; exact mi_reg hmi hmc (by omega) (by omega)⟩)
  · have h15c : (fCopy (x) (2640 + (σ.1 62)) σ).2.1 3 x = 6 ∨ (fCopy (x) (2640 + (σ.1 62)) σ).2.1 3 x = 7 ∨ (fCopy (x) (2640 + (σ.1 62)) σ).2.1 3 x = 8 ∨ (fCopy (x) (2640 + (σ.1 62)) σ).2.1 3 x = 9 ∨ (fCopy (x) (2640 + (σ.1 62)) σ).2.1 3 x = 10 ∨ (fCopy (x) (2640 + (σ.1 62)) σ).2.1 3 x = 11 ∨ (fCopy (x) (2640 + (σ.1 62)) σ).2.1 3 x = 12 ∨ (fCopy (x) (2640 + (σ.1 62)) σ).2.1 3 x = 13 ∨ (fCopy (x) (2640 + (σ.1 62)) σ).2.1 3 x = 14 ∨ (fCopy (x) (2640 + (σ.1 62)) σ).2.1 3 x = 15 := by omega
    rcases h15c with h15v | h15v | h15v | h15v | h15v | h15v | h15v | h15v | h15v | h15v
    · refine tm_tableIn (tgt := 214) dX12_meltItem_84 ⟨by omega, by omega⟩ (by omega) (by omega) (show _ = some (130) by rw [h15v]; rfl) (by decide) ?_
      refine tm_goto (tgt := 228) dX12_meltItem_214 (by decide) ?_
      exact tm_vret rfl dX12_meltItem_228 (⟨rfl, (((Fr.rfl.trans (Fr.sub fCopy_fr (by decide) (by decide) (by decide))).S (by decide)).trans (Fr.sub F9 (by decide) (by decide) (by decide))), R10, by rw [show σ14.1 62 = σ.1 62 + 1 from n62, if_neg (by omega)], by rw [show σ14.1 62 = σ.1 62 + 1 from n62]; exact mi_out hmi hmc (by omega)⟩)
    · refine tm_tableIn (tgt := 140) dX12_meltItem_84 ⟨by omega, by omega⟩ (by omega) (by omega) (show _ = some (56) by rw [h15v]; rfl) (by decide) ?_
      refine tm_aload_n dX12_meltItem_140 rfl 1 rfl ?_
      refine tm_get (k := 3) (v := .ref (b + 1 + 1)) lay_12 dX12_meltItem_141 (by decide) fl12_13 rfl ?_
      refine tm_iload dX12_meltItem_144 0 rfl ?_
      refine tm_iconst dX12_meltItem_146 ?_
      refine tm_iast (z := 2640 + (σ.1 62)) (v := 0) dX12_meltItem_147 (show mT[1]? = some (3, 0, 2860) from rfl) (by omega) (by omega) (by decide) ?_
      refine tm_aload_n dX12_meltItem_148 rfl 1 rfl ?_
      refine tm_get (k := 4) (v := .ref (b + 1 + 2)) lay_12 dX12_meltItem_149 (by decide) fl12_17 rfl ?_
      refine tm_iload dX12_meltItem_152 0 rfl ?_
      refine tm_iload dX12_meltItem_154 6 rfl ?_
      refine tm_iast (z := 2640 + (σ.1 62)) (v := to) dX12_meltItem_156 (show mT[2]? = some (4, 0, 2860) from rfl) (by omega) (by omega) (by decide) ?_
      refine tm_aload_n dX12_meltItem_157 rfl 1 rfl ?_
      refine tm_bipush dX12_meltItem_158 (by decide) ?_
      refine tm_iload dX12_meltItem_160 7 rfl ?_
      refine tm_iconst dX12_meltItem_162 ?_
      refine tm_iconst dX12_meltItem_163 ?_
      refine tm_iconst dX12_meltItem_164 ?_
      have n62' : (sA 4 (2640 + (σ.1 62)) (to) (sA 3 (2640 + (σ.1 62)) (0) σ14)).1 62 = σ.1 62 + 1 := n62
      refine tm_callV (M := m_X12_meltItem) (pc := 165) (ix := 515) (M' := m_X12_add) (As := [.int (iI 8), .int (iI out), .int (iI 0), .int (iI 0), .int (iI 0)]) (rest := []) dX12_meltItem_165 ok_X12_add im_X12_add se_X12_add ml12_515 np_X12_add rfl rfl (Nat.le_of_ble_eq_true rfl) (Nat.le_of_ble_eq_true rfl) rfl (c_X12_add (d) (σ := (sA 4 (2640 + (σ.1 62)) (to) (sA 3 (2640 + (σ.1 62)) (0) σ14))) (k := 8) (e := out) (o := 0) (ak := 0) (a := 0) ((R10.A (by omega)).A (by omega)) (by rw [n62']; omega)) (fun r16 σ17 hp => ?_)
      obtain ⟨rfl, f19⟩ := hp
      subst f19
      show Tm _ _ 168 b (fAdd (8) (out) (0) (0) (0) (sA 4 (2640 + (σ.1 62)) (to) (sA 3 (2640 + (σ.1 62)) (0) σ14))) [(7, .int (iI (2640 + (σ.1 62)))), (0, .ref b), (1, .int (iI x)), (2, .int (iI f)), (3, .int (iI base)), (4, .int (iI lb)), (5, .int (iI to)), (6, .int (iI out))] [] _
      refine tm_goto (tgt := 228) dX12_meltItem_168 (by decide) ?_
      exact tm_vret rfl dX12_meltItem_228 (⟨rfl, ((((((Fr.rfl.trans (Fr.sub fCopy_fr (by decide) (by decide) (by decide))).S (by decide)).trans (Fr.sub F9 (by decide) (by decide) (by decide))).A (by decide)).A (by decide)).trans (Fr.sub fAdd_fr (by decide) (by decide) (by decide))), (((R10.A (by omega)).A (by omega)).add (by rw [n62']; omega) (by decide) (by omega) (by decide) (by decide) (by decide)), by rw [show (fAdd (8) (out) (0) (0) (0) (sA 4 (2640 + (σ.1 62)) (to) (sA 3 (2640 + (σ.1 62)) (0) σ14))).1 62 = σ14.1 62 + 1 from fAdd_n, n62, if_pos (by omega)]; omega, by rw [show (fAdd (8) (out) (0) (0) (0) (sA 4 (2640 + (σ.1 62)) (to) (sA 3 (2640 + (σ.1 62)) (0) σ14))).1 62 = σ14.1 62 + 1 from fAdd_n, n62]; exact mi_ret hmi hmc (by omega) n62⟩)
    · refine tm_tableIn (tgt := 171) dX12_meltItem_84 ⟨by omega, by omega⟩ (by omega) (by omega) (show _ = some (87) by rw [h15v]; rfl) (by decide) ?_
      refine tm_aload_n dX12_meltItem_171 rfl 1 rfl ?_
      refine tm_get (k := 4) (v := .ref (b + 1 + 2)) lay_12 dX12_meltItem_172 (by decide) fl12_17 rfl ?_
      refine tm_iload dX12_meltItem_175 0 rfl ?_
      refine tm_dup2 dX12_meltItem_177 rfl rfl ?_
      refine tm_iald (z := 2640 + (σ.1 62)) (v := (fCopy (x) (2640 + (σ.1 62)) σ).2.1 4 (2640 + (σ.1 62))) dX12_meltItem_178 (show mT[2]? = some (4, 0, 2860) from rfl) (by omega) (by omega) (by decide) (ra_F F9 (by decide) (ra_S (rfl))) ?_
      refine tm_iload dX12_meltItem_179 5 rfl ?_
      refine tm_iadd dX12_meltItem_181 ?_
      refine tm_iast (z := 2640 + (σ.1 62)) (v := ((fCopy (x) (2640 + (σ.1 62)) σ).2.1 4 (2640 + (σ.1 62))) + lb) dX12_meltItem_182 (show mT[2]? = some (4, 0, 2860) from rfl) (by omega) (by omega) (by decide) ?_
      refine tm_goto (tgt := 228) dX12_meltItem_183 (by decide) ?_
      exact tm_vret rfl dX12_meltItem_228 (⟨rfl, ((((Fr.rfl.trans (Fr.sub fCopy_fr (by decide) (by decide) (by decide))).S (by decide)).trans (Fr.sub F9 (by decide) (by decide) (by decide))).A (by decide)), (R10.A (by omega)), by rw [show (sA 4 (2640 + (σ.1 62)) (((fCopy (x) (2640 + (σ.1 62)) σ).2.1 4 (2640 + (σ.1 62))) + lb) σ14).1 62 = σ.1 62 + 1 from n62, if_neg (by omega)], by rw [show (sA 4 (2640 + (σ.1 62)) (((fCopy (x) (2640 + (σ.1 62)) σ).2.1 4 (2640 + (σ.1 62))) + lb) σ14).1 62 = σ.1 62 + 1 from n62]; exact mi_lab hmi hmc (by omega) (by omega)⟩)
    · refine tm_tableIn (tgt := 171) dX12_meltItem_84 ⟨by omega, by omega⟩ (by omega) (by omega) (show _ = some (87) by rw [h15v]; rfl) (by decide) ?_
      refine tm_aload_n dX12_meltItem_171 rfl 1 rfl ?_
      refine tm_get (k := 4) (v := .ref (b + 1 + 2)) lay_12 dX12_meltItem_172 (by decide) fl12_17 rfl ?_
      refine tm_iload dX12_meltItem_175 0 rfl ?_
      refine tm_dup2 dX12_meltItem_177 rfl rfl ?_
      refine tm_iald (z := 2640 + (σ.1 62)) (v := (fCopy (x) (2640 + (σ.1 62)) σ).2.1 4 (2640 + (σ.1 62))) dX12_meltItem_178 (show mT[2]? = some (4, 0, 2860) from rfl) (by omega) (by omega) (by decide) (ra_F F9 (by decide) (ra_S (rfl))) ?_
      refine tm_iload dX12_meltItem_179 5 rfl ?_
      refine tm_iadd dX12_meltItem_181 ?_
      refine tm_iast (z := 2640 + (σ.1 62)) (v := ((fCopy (x) (2640 + (σ.1 62)) σ).2.1 4 (2640 + (σ.1 62))) + lb) dX12_meltItem_182 (show mT[2]? = some (4, 0, 2860) from rfl) (by omega) (by omega) (by decide) ?_
      refine tm_goto (tgt := 228) dX12_meltItem_183 (by decide) ?_
      exact tm_vret rfl dX12_meltItem_228 (⟨rfl, ((((Fr.rfl.trans (Fr.sub fCopy_fr (by decide) (by decide) (by decide))).S (by decide)).trans (Fr.sub F9 (by decide) (by decide) (by decide))).A (by decide)), (R10.A (by omega)), by rw [show (sA 4 (2640 + (σ.1 62)) (((fCopy (x) (2640 + (σ.1 62)) σ).2.1 4 (2640 + (σ.1 62))) + lb) σ14).1 62 = σ.1 62 + 1 from n62, if_neg (by omega)], by rw [show (sA 4 (2640 + (σ.1 62)) (((fCopy (x) (2640 + (σ.1 62)) σ).2.1 4 (2640 + (σ.1 62))) + lb) σ14).1 62 = σ.1 62 + 1 from n62]; exact mi_lab hmi hmc (by omega) (by omega)⟩)
    · refine tm_tableIn (tgt := 217) dX12_meltItem_84 ⟨by omega, by omega⟩ (by omega) (by omega) (show _ = some (133) by rw [h15v]; rfl) (by decide) ?_
      refine tm_aload_n dX12_meltItem_217 rfl 1 rfl ?_
      refine tm_get (k := 4) (v := .ref (b + 1 + 2)) lay_12 dX12_meltItem_218 (by decide) fl12_17 rfl ?_
      refine tm_iload dX12_meltItem_221 0 rfl ?_
      refine tm_dup2 dX12_meltItem_223 rfl rfl ?_
      refine tm_iald (z := 2640 + (σ.1 62)) (v := (fCopy (x) (2640 + (σ.1 62)) σ).2.1 4 (2640 + (σ.1 62))) dX12_meltItem_224 (show mT[2]? = some (4, 0, 2860) from rfl) (by omega) (by omega) (by decide) (ra_F F9 (by decide) (ra_S (rfl))) ?_
      refine tm_iload_n dX12_meltItem_225 rfl 4 rfl ?_
      refine tm_iadd dX12_meltItem_226 ?_
      refine tm_iast (z := 2640 + (σ.1 62)) (v := ((fCopy (x) (2640 + (σ.1 62)) σ).2.1 4 (2640 + (σ.1 62))) + base) dX12_meltItem_227 (show mT[2]? = some (4, 0, 2860) from rfl) (by omega) (by omega) (by decide) ?_
      exact tm_vret rfl dX12_meltItem_228 (⟨rfl, ((((Fr.rfl.trans (Fr.sub fCopy_fr (by decide) (by decide) (by decide))).S (by decide)).trans (Fr.sub F9 (by decide) (by decide) (by decide))).A (by decide)), (R10.A (by omega)), by rw [show (sA 4 (2640 + (σ.1 62)) (((fCopy (x) (2640 + (σ.1 62)) σ).2.1 4 (2640 + (σ.1 62))) + base) σ14).1 62 = σ.1 62 + 1 from n62, if_neg (by omega)], by rw [show (sA 4 (2640 + (σ.1 62)) (((fCopy (x) (2640 + (σ.1 62)) σ).2.1 4 (2640 + (σ.1 62))) + base) σ14).1 62 = σ.1 62 + 1 from n62]; exact mi_reg hmi hmc (by omega) (by omega)⟩)
    · refine tm_tableIn (tgt := 186) dX12_meltItem_84 ⟨by omega, by omega⟩ (by omega) (by omega) (show _ = some (102) by rw [h15v]; rfl) (by decide) ?_
      refine tm_aload_n dX12_meltItem_186 rfl 1 rfl ?_
      refine tm_get (k := 5) (v := .ref (b + 1 + 3)) lay_12 dX12_meltItem_187 (by decide) fl12_20 rfl ?_
      refine tm_iload dX12_meltItem_190 0 rfl ?_
      refine tm_dup2 dX12_meltItem_192 rfl rfl ?_
      refine tm_iald (z := 2640 + (σ.1 62)) (v := (fCopy (x) (2640 + (σ.1 62)) σ).2.1 5 (2640 + (σ.1 62))) dX12_meltItem_193 (show mT[3]? = some (5, 0, 2860) from rfl) (by omega) (by omega) (by decide) (ra_F F9 (by decide) (ra_S (rfl))) ?_
      refine tm_iload_n dX12_meltItem_194 rfl 3 rfl ?_
      refine tm_iadd dX12_meltItem_195 ?_
      refine tm_iast (z := 2640 + (σ.1 62)) (v := ((fCopy (x) (2640 + (σ.1 62)) σ).2.1 5 (2640 + (σ.1 62))) + f) dX12_meltItem_196 (show mT[3]? = some (5, 0, 2860) from rfl) (by omega) (by omega) (by decide) ?_
      refine tm_goto (tgt := 228) dX12_meltItem_197 (by decide) ?_
      exact tm_vret rfl dX12_meltItem_228 (⟨rfl, ((((Fr.rfl.trans (Fr.sub fCopy_fr (by decide) (by decide) (by decide))).S (by decide)).trans (Fr.sub F9 (by decide) (by decide) (by decide))).A (by decide)), (R10.A (by omega)), by rw [show (sA 5 (2640 + (σ.1 62)) (((fCopy (x) (2640 + (σ.1 62)) σ).2.1 5 (2640 + (σ.1 62))) + f) σ14).1 62 = σ.1 62 + 1 from n62, if_neg (by omega)], by rw [show (sA 5 (2640 + (σ.1 62)) (((fCopy (x) (2640 + (σ.1 62)) σ).2.1 5 (2640 + (σ.1 62))) + f) σ14).1 62 = σ.1 62 + 1 from n62]; exact mi_of hmi hmc (by omega) (by omega)⟩)
    · refine tm_tableIn (tgt := 186) dX12_meltItem_84 ⟨by omega, by omega⟩ (by omega) (by omega) (show _ = some (102) by rw [h15v]; rfl) (by decide) ?_
      refine tm_aload_n dX12_meltItem_186 rfl 1 rfl ?_
      refine tm_get (k := 5) (v := .ref (b + 1 + 3)) lay_12 dX12_meltItem_187 (by decide) fl12_20 rfl ?_
      refine tm_iload dX12_meltItem_190 0 rfl ?_
      refine tm_dup2 dX12_meltItem_192 rfl rfl ?_
      refine tm_iald (z := 2640 + (σ.1 62)) (v := (fCopy (x) (2640 + (σ.1 62)) σ).2.1 5 (2640 + (σ.1 62))) dX12_meltItem_193 (show mT[3]? = some (5, 0, 2860) from rfl) (by omega) (by omega) (by decide) (ra_F F9 (by decide) (ra_S (rfl))) ?_
      refine tm_iload_n dX12_meltItem_194 rfl 3 rfl ?_
      refine tm_iadd dX12_meltItem_195 ?_
      refine tm_iast (z := 2640 + (σ.1 62)) (v := ((fCopy (x) (2640 + (σ.1 62)) σ).2.1 5 (2640 + (σ.1 62))) + f) dX12_meltItem_196 (show mT[3]? = some (5, 0, 2860) from rfl) (by omega) (by omega) (by decide) ?_
      refine tm_goto (tgt := 228) dX12_meltItem_197 (by decide) ?_
      exact tm_vret rfl dX12_meltItem_228 (⟨rfl, ((((Fr.rfl.trans (Fr.sub fCopy_fr (by decide) (by decide) (by decide))).S (by decide)).trans (Fr.sub F9 (by decide) (by decide) (by decide))).A (by decide)), (R10.A (by omega)), by rw [show (sA 5 (2640 + (σ.1 62)) (((fCopy (x) (2640 + (σ.1 62)) σ).2.1 5 (2640 + (σ.1 62))) + f) σ14).1 62 = σ.1 62 + 1 from n62, if_neg (by omega)], by rw [show (sA 5 (2640 + (σ.1 62)) (((fCopy (x) (2640 + (σ.1 62)) σ).2.1 5 (2640 + (σ.1 62))) + f) σ14).1 62 = σ.1 62 + 1 from n62]; exact mi_of hmi hmc (by omega) (by omega)⟩)
    · refine tm_tableIn (tgt := 171) dX12_meltItem_84 ⟨by omega, by omega⟩ (by omega) (by omega) (show _ = some (87) by rw [h15v]; rfl) (by decide) ?_
      refine tm_aload_n dX12_meltItem_171 rfl 1 rfl ?_
      refine tm_get (k := 4) (v := .ref (b + 1 + 2)) lay_12 dX12_meltItem_172 (by decide) fl12_17 rfl ?_
      refine tm_iload dX12_meltItem_175 0 rfl ?_
      refine tm_dup2 dX12_meltItem_177 rfl rfl ?_
      refine tm_iald (z := 2640 + (σ.1 62)) (v := (fCopy (x) (2640 + (σ.1 62)) σ).2.1 4 (2640 + (σ.1 62))) dX12_meltItem_178 (show mT[2]? = some (4, 0, 2860) from rfl) (by omega) (by omega) (by decide) (ra_F F9 (by decide) (ra_S (rfl))) ?_
      refine tm_iload dX12_meltItem_179 5 rfl ?_
      refine tm_iadd dX12_meltItem_181 ?_
      refine tm_iast (z := 2640 + (σ.1 62)) (v := ((fCopy (x) (2640 + (σ.1 62)) σ).2.1 4 (2640 + (σ.1 62))) + lb) dX12_meltItem_182 (show mT[2]? = some (4, 0, 2860) from rfl) (by omega) (by omega) (by decide) ?_
      refine tm_goto (tgt := 228) dX12_meltItem_183 (by decide) ?_
      exact tm_vret rfl dX12_meltItem_228 (⟨rfl, ((((Fr.rfl.trans (Fr.sub fCopy_fr (by decide) (by decide) (by decide))).S (by decide)).trans (Fr.sub F9 (by decide) (by decide) (by decide))).A (by decide)), (R10.A (by omega)), by rw [show (sA 4 (2640 + (σ.1 62)) (((fCopy (x) (2640 + (σ.1 62)) σ).2.1 4 (2640 + (σ.1 62))) + lb) σ14).1 62 = σ.1 62 + 1 from n62, if_neg (by omega)], by rw [show (sA 4 (2640 + (σ.1 62)) (((fCopy (x) (2640 + (σ.1 62)) σ).2.1 4 (2640 + (σ.1 62))) + lb) σ14).1 62 = σ.1 62 + 1 from n62]; exact mi_lab hmi hmc (by omega) (by omega)⟩)
    · refine tm_tableIn (tgt := 200) dX12_meltItem_84 ⟨by omega, by omega⟩ (by omega) (by omega) (show _ = some (116) by rw [h15v]; rfl) (by decide) ?_
      refine tm_aload_n dX12_meltItem_200 rfl 1 rfl ?_
      refine tm_get (k := 4) (v := .ref (b + 1 + 2)) lay_12 dX12_meltItem_201 (by decide) fl12_17 rfl ?_
      refine tm_iload dX12_meltItem_204 0 rfl ?_
      refine tm_dup2 dX12_meltItem_206 rfl rfl ?_
      refine tm_iald (z := 2640 + (σ.1 62)) (v := (fCopy (x) (2640 + (σ.1 62)) σ).2.1 4 (2640 + (σ.1 62))) dX12_meltItem_207 (show mT[2]? = some (4, 0, 2860) from rfl) (by omega) (by omega) (by decide) (ra_F F9 (by decide) (ra_S (rfl))) ?_
      refine tm_iload_n dX12_meltItem_208 rfl 3 rfl ?_
      refine tm_iadd dX12_meltItem_209 ?_
      refine tm_iast (z := 2640 + (σ.1 62)) (v := ((fCopy (x) (2640 + (σ.1 62)) σ).2.1 4 (2640 + (σ.1 62))) + f) dX12_meltItem_210 (show mT[2]? = some (4, 0, 2860) from rfl) (by omega) (by omega) (by decide) ?_
      refine tm_goto (tgt := 228) dX12_meltItem_211 (by decide) ?_
      exact tm_vret rfl dX12_meltItem_228 (⟨rfl, ((((Fr.rfl.trans (Fr.sub fCopy_fr (by decide) (by decide) (by decide))).S (by decide)).trans (Fr.sub F9 (by decide) (by decide) (by decide))).A (by decide)), (R10.A (by omega)), by rw [show (sA 4 (2640 + (σ.1 62)) (((fCopy (x) (2640 + (σ.1 62)) σ).2.1 4 (2640 + (σ.1 62))) + f) σ14).1 62 = σ.1 62 + 1 from n62, if_neg (by omega)], by rw [show (sA 4 (2640 + (σ.1 62)) (((fCopy (x) (2640 + (σ.1 62)) σ).2.1 4 (2640 + (σ.1 62))) + f) σ14).1 62 = σ.1 62 + 1 from n62]; exact mi_frm hmi hmc (by omega) (by omega)⟩)
    · refine tm_tableIn (tgt := 200) dX12_meltItem_84 ⟨by omega, by omega⟩ (by omega) (by omega) (show _ = some (116) by rw [h15v]; rfl) (by decide) ?_
      refine tm_aload_n dX12_meltItem_200 rfl 1 rfl ?_
      refine tm_get (k := 4) (v := .ref (b + 1 + 2)) lay_12 dX12_meltItem_201 (by decide) fl12_17 rfl ?_
      refine tm_iload dX12_meltItem_204 0 rfl ?_
      refine tm_dup2 dX12_meltItem_206 rfl rfl ?_
      refine tm_iald (z := 2640 + (σ.1 62)) (v := (fCopy (x) (2640 + (σ.1 62)) σ).2.1 4 (2640 + (σ.1 62))) dX12_meltItem_207 (show mT[2]? = some (4, 0, 2860) from rfl) (by omega) (by omega) (by decide) (ra_F F9 (by decide) (ra_S (rfl))) ?_
      refine tm_iload_n dX12_meltItem_208 rfl 3 rfl ?_
      refine tm_iadd dX12_meltItem_209 ?_
      refine tm_iast (z := 2640 + (σ.1 62)) (v := ((fCopy (x) (2640 + (σ.1 62)) σ).2.1 4 (2640 + (σ.1 62))) + f) dX12_meltItem_210 (show mT[2]? = some (4, 0, 2860) from rfl) (by omega) (by omega) (by decide) ?_
      refine tm_goto (tgt := 228) dX12_meltItem_211 (by decide) ?_
      exact tm_vret rfl dX12_meltItem_228 (⟨rfl, ((((Fr.rfl.trans (Fr.sub fCopy_fr (by decide) (by decide) (by decide))).S (by decide)).trans (Fr.sub F9 (by decide) (by decide) (by decide))).A (by decide)), (R10.A (by omega)), by rw [show (sA 4 (2640 + (σ.1 62)) (((fCopy (x) (2640 + (σ.1 62)) σ).2.1 4 (2640 + (σ.1 62))) + f) σ14).1 62 = σ.1 62 + 1 from n62, if_neg (by omega)], by rw [show (sA 4 (2640 + (σ.1 62)) (((fCopy (x) (2640 + (σ.1 62)) σ).2.1 4 (2640 + (σ.1 62))) + f) σ14).1 62 = σ.1 62 + 1 from n62]; exact mi_frm hmi hmc (by omega) (by omega)⟩)
end
section
theorem msg_copy {ρ σ : MS} {FI lf : Int → Int} {q F LB out g0 i g d ak a : Int} (h : MSG ρ σ FI lf q F LB out g0 (σ.1 62) i g) (h0 : 0 ≤ σ.1 62) (hg : 0 ≤ g ∧ g < F) (hd : 0 ≤ d ∧ d < 192) (ha : ak = 0 ∨ ak = 1 ∨ (ak = 2 ∧ 0 ≤ a ∧ a < 192)) : MSG ρ (fAdd 0 d 0 ak a σ) FI lf q F LB out g0 ((fAdd 0 d 0 ak a σ).1 62) i g := by
  rw [fAdd_n]
  exact h.neu h0 hg fAdd_off (fAdd_oki (by decide) (fun _ => hd) (fun w => by omega) (fun w => by omega) (fun w => by omega) (by omega)) (by rw [fAdd_at.1]; decide)
theorem msg_bind {ρ σ : MS} {FI lf : Int → Int} {q F LB out g0 i g n f w a z : Int} (h : MSG ρ σ FI lf q F LB out g0 (σ.1 62) i g) (h0 : 0 ≤ σ.1 62) (hg : 0 ≤ g ∧ g < F) (hn : 0 ≤ n ∧ n < 12) (hf : 0 ≤ f ∧ f < F) (hw : w = 1 ∨ (w = 2 ∧ 0 ≤ a ∧ a < 192)) (hz : z = 2640 + σ.1 62) : MSG ρ (sA 6 z w (fAdd 12 n f w a σ)) FI lf q F LB out g0 ((sA 6 z w (fAdd 12 n f w a σ)).1 62) i g := by
  subst hz
  rw [show (sA 6 (2640 + σ.1 62) w (fAdd 12 n f w a σ)).1 62 = σ.1 62 + 1 from fAdd_n (k := 12) (d := n) (o := f) (ak := w) (a := a) (σ := σ)]
  exact h.neu h0 hg fAddB_off (fAddB_oki hn hf hw) (Or.inr (Or.inr (ra_o (by decide) fAdd_at.1)))
theorem msg_start {ρ σ : MS} {FI lf frq lfq : Int → Int} {q F LB out g0 : Int} (m : MQQ ρ q F LB out g0 FI lf frq lfq) (hg : 0 ≤ g0 ∧ g0 < F) (hi : ∀ y, IEQ ρ y σ y) (h11 : σ.2.1 11 = ρ.2.1 11) (h0 : σ.1 62 = 0) : MSG ρ (fAdd 14 F 0 0 0 σ) FI lf q (F + ρ.2.1 14 q) LB out g0 ((fAdd 14 F 0 0 0 σ).1 62) 0 F := by
  obtain ⟨c, lx, m1, m2, m3, m4, m5, m6, m7, m8⟩ := m
  have e : MSG ρ σ FI lf q (F + ρ.2.1 14 q) LB out g0 0 0 g0 := ⟨⟨fun _ => g0, rfl, rfl, fun j a b => by omega, fun j a b => by omega, fun j a b => by omega⟩, fun j a b => by omega, fun j a b => by omega, fun j a b => by omega, fun j a b => by omega, fun y _ => hi y, h11⟩
  have at_ := fAdd_at (k := 14) (d := F) (o := 0) (ak := 0) (a := 0) (σ := σ)
  have off := fAdd_off (k := 14) (d := F) (o := 0) (ak := 0) (a := 0) (σ := σ)
  have ok := fAdd_oki (k := 14) (d := F) (o := 0) (ak := 0) (a := 0) (F := F + ρ.2.1 14 q) (σ := σ) (by decide) (fun w => by omega) (fun w => by omega) (fun w => by omega) (fun w => by omega) (by omega)
  rw [h0] at at_ off ok
  rw [fAdd_n, h0]
  exact e.put (g' := F) (by omega) (by omega) off ok (by omega) (fun w => by omega) (fun w => by omega) (fun _ => ⟨fun _ => ⟨by rw [at_.2.1]; exact m3, at_.2.1.symm, by omega⟩, fun w => by omega, fun w _ => absurd at_.1 w⟩)
theorem msg_end {ρ σ : MS} {q F LB out g0 a : Int} {FI lf frq lfq : Int → Int} (m : MQQ ρ q F LB out g0 FI lf frq lfq) (h : MSG ρ σ FI lf q (F + ρ.2.1 14 q) LB out g0 (σ.1 62) (ρ.2.1 9 q) (Gq ρ q F frq (ρ.2.1 9 q))) (ha : 0 ≤ σ.1 62) (hl : 0 ≤ LB ∧ LB ≤ out ∧ out < 4096) (hg0 : 0 ≤ g0 ∧ g0 < F) :
    MSG ρ (fAdd 15 F 0 0 0 (fAdd 13 out 0 0 0 σ)) FI lf q (F + ρ.2.1 14 q) LB out g0 (σ.1 62 + 1 + 1) (ρ.2.1 9 q) g0 ∧ LX (σ.1 62 + 1 + 1) (fun j => (fAdd 15 F 0 0 0 (fAdd 13 out 0 0 0 σ)).2.1 3 (2640 + j)) (fun j => (fAdd 15 F 0 0 0 (fAdd 13 out 0 0 0 σ)).2.1 4 (2640 + j)) := by
  have at1 := fAdd_at (k := 13) (d := out) (o := 0) (ak := 0) (a := 0) (σ := σ)
  have at2 := fAdd_at (k := 15) (d := F) (o := 0) (ak := 0) (a := 0) (σ := fAdd 13 out 0 0 0 σ)
  have off2 := fAdd_off (k := 15) (d := F) (o := 0) (ak := 0) (a := 0) (σ := fAdd 13 out 0 0 0 σ)
  have m8 := m.2.2.2.2.2.2.2.2.2
  have ok2 := fAdd_oki (k := 15) (d := F) (o := 0) (ak := 0) (a := 0) (F := F + ρ.2.1 14 q) (σ := fAdd 13 out 0 0 0 σ) (by decide) (fun w => by omega) (fun w => by omega) (fun w => by omega) (fun w => by omega) (by omega)
  rw [fAdd_n] at at2 off2 ok2
  exact melt_end m h ha hl.2.1 hg0 fAdd_off (fAdd_oki (by decide) (fun w => by omega) (fun w => by omega) (fun w => by omega) (fun w => by omega) (by omega)) at1.1 at1.2.1 off2 ok2 at2.1 at2.2.1
def cnt (f : Int → Int) : Nat → Int
  | 0 => 0
  | n + 1 => cnt f n + f n
theorem cnt_up {f : Int → Int} (hf : ∀ i, 0 ≤ f i) {n m : Nat} (h : n ≤ m) : cnt f n ≤ cnt f m := by
  induction m with
  | zero => rw [show n = 0 by omega]; exact Int.le_refl _
  | succ m ih =>
    by_cases e : n = m + 1
    · rw [e]; exact Int.le_refl _
    · have := ih (by omega)
      have := hf m
      show _ ≤ cnt f m + f m
      omega
theorem cnt_s {f : Int → Int} {k : Int} (h : 0 ≤ k) : cnt f (k + 1).toNat = cnt f k.toNat + f k := by
  rw [show (k + 1).toNat = k.toNat + 1 by omega]
  show cnt f k.toNat + f (k.toNat : Int) = _
  rw [show (k.toNat : Int) = k by omega]
def PMQ (ρ : MS) (q g : Int) : Prop := ∃ j, 0 ≤ j ∧ j < ρ.2.1 11 q ∧ ρ.2.1 18 (144 * q + j) = g
def lcf (ρ : MS) (q g : Int) : Int := if ρ.2.1 59 g = 1 ∧ ¬ ((0 < ρ.2.1 11 q ∧ ρ.2.1 18 (144 * q + 0) = g) ∨ (1 < ρ.2.1 11 q ∧ ρ.2.1 18 (144 * q + 1) = g) ∨ (2 < ρ.2.1 11 q ∧ ρ.2.1 18 (144 * q + 2) = g) ∨ (3 < ρ.2.1 11 q ∧ ρ.2.1 18 (144 * q + 3) = g)) then 1 else 0
theorem lcf_0 (ρ : MS) (q g : Int) : 0 ≤ lcf ρ q g := by unfold lcf; split <;> decide
theorem lcf_y {ρ : MS} {q g : Int} (h : ρ.2.1 59 g = 1) (h2 : ¬ ∃ j, 0 ≤ j ∧ j < ρ.2.1 11 q ∧ ρ.2.1 18 (144 * q + j) = g) : lcf ρ q g = 1 := if_pos ⟨h, fun w => by
  rcases w with w | w | w | w
  · exact h2 ⟨0, by decide, w⟩
  · exact h2 ⟨1, by decide, w⟩
  · exact h2 ⟨2, by decide, w⟩
  · exact h2 ⟨3, by decide, w⟩⟩
theorem lcf_n {ρ : MS} {q g : Int} (h : ρ.2.1 59 g ≠ 1) : lcf ρ q g = 0 := if_neg (fun w => h w.1)
theorem lcf_p {ρ : MS} {q g : Int} (hp : ρ.2.1 11 q ≤ 4) (h : ∃ j, 0 ≤ j ∧ j < ρ.2.1 11 q ∧ ρ.2.1 18 (144 * q + j) = g) : lcf ρ q g = 0 := if_neg (fun w => by
  obtain ⟨j, j0, j1, j2⟩ := h
  have c : j = 0 ∨ j = 1 ∨ j = 2 ∨ j = 3 := by omega
  apply w.2
  rcases c with e | e | e | e
  · subst e; exact Or.inl ⟨j1, j2⟩
  · subst e; exact Or.inr (Or.inl ⟨j1, j2⟩)
  · subst e; exact Or.inr (Or.inr (Or.inl ⟨j1, j2⟩))
  · subst e; exact Or.inr (Or.inr (Or.inr ⟨j1, j2⟩)))
def rcf (ρ : MS) (q i : Int) : Int := if ρ.2.1 3 (220 * q + i) = 7 then 1 else 0
theorem rcf_0 (ρ : MS) (q g : Int) : 0 ≤ rcf ρ q g := by unfold rcf; split <;> decide
def wr (z : Int) : Int := (iI z).toInt
theorem wr_eq (z : Int) : iI (wr z) = iI z := iI_self _
theorem wr_rng (z : Int) : -2147483648 ≤ wr z ∧ wr z ≤ 2147483647 := inR_toInt _
theorem wr_id {z : Int} (h : inR z) : wr z = z := iI_toInt h
def FRM (ρ σ : MS) (r q F g0 base j : Int) : Prop :=
  (∀ u, 0 ≤ u → u < j → σ.2.1 15 (12 * r + F + u) = ρ.2.1 15 (12 * q + u) ∧ (u = 0 → σ.2.1 16 (12 * r + F + u) = g0) ∧ (u ≠ 0 → σ.2.1 16 (12 * r + F + u) = ρ.2.1 16 (12 * q + u) + F) ∧ ∀ n, 0 ≤ n → n < 12 → σ.2.1 18 (144 * r + 12 * (F + u) + n) = wr (ρ.2.1 18 (144 * q + 12 * u + n) + base)) ∧
  (∀ y, (y < 12 * r + F ∨ 12 * r + 12 ≤ y) → σ.2.1 15 y = ρ.2.1 15 y ∧ σ.2.1 16 y = ρ.2.1 16 y ∧ σ.2.1 17 y = ρ.2.1 17 y) ∧ (∀ z, (z < 144 * r + 12 * F ∨ 144 * r + 144 ≤ z) → σ.2.1 18 z = ρ.2.1 18 z)
theorem FRM.start {ρ σ : MS} {r q F g0 base : Int} (h15 : σ.2.1 15 = ρ.2.1 15) (h16 : σ.2.1 16 = ρ.2.1 16) (h17 : σ.2.1 17 = ρ.2.1 17) (h18 : σ.2.1 18 = ρ.2.1 18) : FRM ρ σ r q F g0 base 0 := ⟨fun u a b => by omega, fun y _ => by rw [h15, h16, h17]; exact ⟨rfl, rfl, rfl⟩, fun z _ => by rw [h18]⟩
theorem FRM.go {ρ σ τ : MS} {r q F g0 base j y a b c : Int} (h : FRM ρ σ r q F g0 base j) (hj : 0 ≤ j ∧ 0 ≤ F ∧ F + j < 12) (hy : y = 12 * r + F + j) (f : Fr [] [18] [] (sA 17 y c (sA 16 y b (sA 15 y a σ))) τ) (ha : a = ρ.2.1 15 (12 * q + j)) (hb0 : j = 0 → b = g0) (hb1 : j ≠ 0 → b = ρ.2.1 16 (12 * q + j) + F)
    (hn : ∀ n, 0 ≤ n → n < 12 → τ.2.1 18 (144 * r + 12 * (F + j) + n) = wr (ρ.2.1 18 (144 * q + 12 * j + n) + base)) (ho : ∀ z, (z < 144 * r + 12 * (F + j) ∨ 144 * r + 12 * (F + j) + 12 ≤ z) → τ.2.1 18 z = σ.2.1 18 z) : FRM ρ τ r q F g0 base (j + 1) := by
  subst hy
  obtain ⟨h1, h2, h3⟩ := h
  have e15 : τ.2.1 15 = (sA 15 (12 * r + F + j) a σ).2.1 15 := by rw [f.2.1 15 (by decide)]; rfl
  have e16 : τ.2.1 16 = (sA 16 (12 * r + F + j) b (sA 15 (12 * r + F + j) a σ)).2.1 16 := by rw [f.2.1 16 (by decide)]; rfl
  have e17 : τ.2.1 17 = (sA 17 (12 * r + F + j) c (sA 16 (12 * r + F + j) b (sA 15 (12 * r + F + j) a σ))).2.1 17 := by rw [f.2.1 17 (by decide)]
  refine ⟨fun u x w => ?_, fun y hy => ?_, fun z hz => ?_⟩
  · rw [e15, e16]
    by_cases z : u = j
    · subst z
      exact ⟨ra_eq.trans ha, fun e => ra_eq.trans (hb0 e), fun e => ra_eq.trans (hb1 e), hn⟩
    · obtain ⟨g1, g2, g3, g4⟩ := h1 u x (by omega)
      exact ⟨ra_ne (by omega) g1, fun e => ra_ne (by omega) (ra_o (by decide) (g2 e)), fun e => ra_ne (by omega) (ra_o (by decide) (g3 e)), fun n n0 n1 => (ho _ (by omega)).trans (g4 n n0 n1)⟩
  · rw [e15, e16, e17]
    obtain ⟨g1, g2, g3⟩ := h2 y hy
    exact ⟨ra_ne (by omega) g1, ra_ne (by omega) (ra_o (by decide) g2), ra_ne (by omega) (ra_o (by decide) (ra_o (by decide) g3))⟩
  · exact (ho z (by omega)).trans (h3 z hz)
theorem FRM.okf {ρ τ : MS} {r q F g0 base m : Int} (h : FRM ρ τ r q F g0 base (ρ.2.1 14 q)) (hr : OKF ρ r) (hq : OKF ρ q) (hF : F = ρ.2.1 14 r) (h12 : F + ρ.2.1 14 q ≤ 12) (hm : RGN ρ q m (ρ.2.1 14 q)) (hb : 0 ≤ base ∧ base + m ≤ 192) (t14 : τ.2.1 14 r = F + ρ.2.1 14 q) (t12 : τ.2.1 12 = ρ.2.1 12) (hnm : NAM ρ) : OKF τ r := by
  subst hF
  obtain ⟨h1, h2, h3⟩ := h
  have q1 := hr.1
  have q2 := hq.1
  unfold OKF
  rw [t14, t12]
  refine ⟨by omega, fun f x y => ?_⟩
  by_cases z : f < ρ.2.1 14 r
  · have g := h2 (12 * r + f) (by omega)
    rw [g.1]
    have o := hr.2 f x z
    refine ⟨o.1, fun n n0 n1 => ?_⟩
    have b12 := o.2 n n0 n1
    have := hnm _ o.1.1 o.1.2
    rw [h3 _ (by omega)]; exact b12
  · have g := h1 (f - ρ.2.1 14 r) (by omega) (by omega)
    rw [show 12 * r + ρ.2.1 14 r + (f - ρ.2.1 14 r) = 12 * r + f by omega, show 144 * r + 12 * (ρ.2.1 14 r + (f - ρ.2.1 14 r)) = 144 * r + 12 * f by omega] at g
    rw [g.1]
    have o := hq.2 (f - ρ.2.1 14 r) (by omega) (by omega)
    refine ⟨o.1, fun n n0 n1 => ?_⟩
    have b := o.2 n n0 n1
    have bm := hm (f - ρ.2.1 14 r) (by omega) (by omega) n n0 n1
    have := hnm _ o.1.1 o.1.2
    have w := g.2.2.2 n n0 (by omega)
    rw [w, wr_id ⟨by omega, by omega⟩]
    omega
theorem FRM.fri {ρ τ : MS} {r q F g0 base : Int} (h : FRM ρ τ r q F g0 base (ρ.2.1 14 q)) (hr : FRI ρ r) (hq : FRI ρ q) (hF : F = ρ.2.1 14 r) (h1F : 1 ≤ F ∧ F ≤ 12) (hg : 0 ≤ g0 ∧ g0 < F) (t14 : τ.2.1 14 r = F + ρ.2.1 14 q) : FRI τ r := by
  subst hF
  obtain ⟨h1, h2, h3⟩ := h
  refine ⟨by rw [(h2 (12 * r + 0) (by omega)).2.1]; exact hr.1, fun f x y => ?_⟩
  rw [t14] at y
  by_cases z : f < ρ.2.1 14 r
  · rw [(h2 (12 * r + f) (by omega)).2.1]; exact hr.2 f x z
  · have g := h1 (f - ρ.2.1 14 r) (by omega) (by omega)
    rw [show 12 * r + ρ.2.1 14 r + (f - ρ.2.1 14 r) = 12 * r + f by omega] at g
    by_cases w : f - ρ.2.1 14 r = 0
    · rw [g.2.1 w]; omega
    · rw [g.2.2.1 w]
      have := hq.2 (f - ρ.2.1 14 r) (by omega) (by omega)
      omega
def MOH (ρ : MS) (r k q f base lb out to g0 m : Int) (FI lf frq lfq : Int → Int) : Prop :=
  (((0 ≤ r ∧ r < 6) ∧ (0 ≤ q ∧ q < 6) ∧ q ≠ r) ∧ (0 ≤ k ∧ k < ρ.2.1 9 r ∧ ρ.2.1 9 r ≤ 200) ∧ (0 ≤ base ∧ 0 ≤ m ∧ base + m ≤ 100) ∧ (0 ≤ to ∧ to < 192) ∧ (0 ≤ lb ∧ lb ≤ out ∧ out < 4096) ∧ f + ρ.2.1 14 q ≤ 12 ∧ ρ.2.1 9 q ≤ 200 ∧ (0 ≤ g0 ∧ g0 < f) ∧ f = ρ.2.1 14 r ∧ 1 ≤ f ∧ 1 ≤ ρ.2.1 14 q ∧ 1 ≤ ρ.2.1 9 q) ∧
  MQQ ρ q f lb out g0 FI lf frq lfq ∧ OKS ρ (ρ.2.1 14 q) q ∧ (∀ j, 0 ≤ j → j < ρ.2.1 9 q → ¬ ρ.2.1 3 (220 * q + j) = 10) ∧ RGI ρ q m (ρ.2.1 9 q) ∧ RGN ρ q m (ρ.2.1 14 q) ∧ OKI ρ f (220 * r + k) ∧ FR0 ρ q ∧ OKF ρ q ∧ PAR ρ ∧ NAM ρ
theorem MOH.n {ρ : MS} {r k q f base lb out to g0 m : Int} {FI lf frq lfq : Int → Int} (h : MOH ρ r k q f base lb out to g0 m FI lf frq lfq) : ((0 ≤ r ∧ r < 6) ∧ (0 ≤ q ∧ q < 6) ∧ q ≠ r) ∧ (0 ≤ k ∧ k < ρ.2.1 9 r ∧ ρ.2.1 9 r ≤ 200) ∧ (0 ≤ base ∧ 0 ≤ m ∧ base + m ≤ 100) ∧ (0 ≤ to ∧ to < 192) ∧ (0 ≤ lb ∧ lb ≤ out ∧ out < 4096) ∧ f + ρ.2.1 14 q ≤ 12 ∧ ρ.2.1 9 q ≤ 200 ∧ (0 ≤ g0 ∧ g0 < f) ∧ f = ρ.2.1 14 r ∧ 1 ≤ f ∧ 1 ≤ ρ.2.1 14 q ∧ 1 ≤ ρ.2.1 9 q := h.1
theorem MOH.mih {ρ σ : MS} {r k q f base lb out to g0 m i : Int} {FI lf frq lfq : Int → Int} (h : MOH ρ r k q f base lb out to g0 m FI lf frq lfq) (ms : MSG ρ σ FI lf q (f + ρ.2.1 14 q) lb out g0 (σ.1 62) i (Gq ρ q f frq i)) (ha : 0 ≤ σ.1 62) (hi : 0 ≤ i ∧ i < ρ.2.1 9 q) : MIH ρ σ q f base lb to out g0 (σ.1 62) i m FI lf frq lfq := by
  have n := h.n
  obtain ⟨_, mq, ok, nc, ri, rn, _⟩ := h
  exact ⟨mq, ms, ha, hi, ok i hi.1 hi.2, nc i hi.1 hi.2, (ri i hi.1 hi.2).2, fun w => (ri i hi.1 hi.2).1 (Or.inl w), ⟨n.2.2.1.1, by omega⟩, n.2.2.2.1, n.2.2.2.2.1, by omega⟩
theorem MOH.nm {ρ : MS} {r k q f base lb out to g0 m n : Int} {FI lf frq lfq : Int → Int} (h : MOH ρ r k q f base lb out to g0 m FI lf frq lfq) (h0 : 0 ≤ n) (h1 : n < ρ.2.1 12 q) : n < 12 ∧ 0 ≤ ρ.2.1 18 (144 * q + n) ∧ ρ.2.1 18 (144 * q + n) < m := by
  have nn := h.n
  obtain ⟨_, mq, ok, nc, ri, rn, ox, f0, of_, pa, na⟩ := h
  unfold FR0 at f0
  have a := (of_.2 0 (by omega) (by omega)).2 n h0 (by rw [f0]; exact h1)
  have b := rn 0 (by omega) (by omega) n h0 (by rw [f0]; exact h1)
  rw [Int.mul_zero, Int.add_zero] at a b
  have c := na q nn.1.2.1.1 nn.1.2.1.2
  exact ⟨by omega, a.1, b⟩
theorem MOH.ar {ρ σ : MS} {r k q f base lb out to g0 m n : Int} {FI lf frq lfq : Int → Int} (h : MOH ρ r k q f base lb out to g0 m FI lf frq lfq) (hi : IEQ ρ (220 * r + k) σ (220 * r + k)) (h0 : 0 ≤ n) (h1 : n < 4) : (0 ≤ σ.2.1 7 (4 * (220 * r + k) + n) ∧ σ.2.1 7 (4 * (220 * r + k) + n) ≤ 2) ∧ (σ.2.1 7 (4 * (220 * r + k) + n) = 2 → 0 ≤ σ.2.1 8 (4 * (220 * r + k) + n) ∧ σ.2.1 8 (4 * (220 * r + k) + n) < 192) := by
  have o := h.2.2.2.2.2.2.1.2.2.2.2.2.2.2.1 n h0 h1
  rw [(hi.2.2.2.2 n h0 h1).1, (hi.2.2.2.2 n h0 h1).2]
  exact ⟨o.1, fun w => (o.2 w).1⟩
def XF (r F : Int) (ρ τ : MS) : Prop := (∀ y, (y < 12 * r + F ∨ 12 * r + 12 ≤ y) → τ.2.1 15 y = ρ.2.1 15 y ∧ τ.2.1 16 y = ρ.2.1 16 y ∧ τ.2.1 17 y = ρ.2.1 17 y) ∧ (∀ z, (z < 144 * r + 12 * F ∨ 144 * r + 144 ≤ z) → τ.2.1 18 z = ρ.2.1 18 z) ∧ (∀ j, j ≠ r → τ.2.1 14 j = ρ.2.1 14 j ∧ τ.2.1 9 j = ρ.2.1 9 j)
theorem FRM.fr {ss ks js : List Nat} {ρ σ τ : MS} {r q F g0 base j : Int} (h : FRM ρ σ r q F g0 base j) (f : Fr ss ks js σ τ) (hk : ∀ k ∈ [15, 16, 17, 18], k ∉ ks) : FRM ρ τ r q F g0 base j := by
  unfold FRM
  rw [f.q hk (k := 15) (by decide), f.q hk (k := 16) (by decide), f.q hk (k := 17) (by decide), f.q hk (k := 18) (by decide)]
  exact h
theorem melt_all {ρ σ1 σ2 σ3 σ4 τ : MS} {r q k a F LB out g0 base m to : Int} {FI lf frr lfr frq lfq : Int → Int} (mo : MOH ρ r k q F base LB out to g0 m FI lf frq lfq) (h10 : ρ.2.1 3 (220 * r + k) = 10) (ha : 1 ≤ a) (hn : ρ.2.1 9 r + (a - 1) ≤ 200)
    (cw : CW (ρ.2.1 9 r) (ρ.2.1 14 r) (ρ.1 10) (iK ρ r) (iD ρ r) (iO ρ r) (iF ρ r) frr lfr) (lx : LEX ρ r) (lm : LBM ρ r) (ok : OKS ρ (ρ.2.1 14 r) r) (okf : OKF ρ r) (fri : FRI ρ r) (friq : FRI ρ q) (hg : g0 = frr k)
    (m1 : MSG ρ σ1 FI lf q (F + ρ.2.1 14 q) LB out g0 a (ρ.2.1 9 q) g0) (mx : LX a (fun j => σ1.2.1 3 (2640 + j)) (fun j => σ1.2.1 4 (2640 + j)))
    (hlb : ∀ j, 0 ≤ j → j < ρ.2.1 9 r → (ρ.2.1 3 (220 * r + j) = 8 ∨ ρ.2.1 3 (220 * r + j) = 9 ∨ ρ.2.1 3 (220 * r + j) = 13) → ρ.2.1 4 (220 * r + j) < LB) (hout : out + 2 ≤ 121 * (F + ρ.2.1 14 q)) (hFI : ∀ f, 1 ≤ f → f < F → FI f = ρ.2.1 16 (12 * r + f))
    (f12 : Fr [] [14, 15, 16, 17, 18] [] σ1 σ2) (su : SHU σ2 σ3 r (ρ.2.1 9 r) a k) (cp : CPI σ3 σ4 r k a a) (f23 : Fr [] [3, 4, 5, 6, 7, 8] [] σ2 σ3) (f34 : Fr [] [3, 4, 5, 6, 7, 8] [] σ3 σ4) (hτ : τ = sA 9 r (ρ.2.1 9 r + (a - 1)) σ4)
    (f01 : Fr [62] [3, 4, 5, 6, 7, 8] [] ρ σ1) (fm : FRM ρ σ2 r q F g0 base (ρ.2.1 14 q)) (t14 : σ2.2.1 14 = (sA 14 r (F + ρ.2.1 14 q) ρ).2.1 14) :
    (CODE τ r ∧ LEX τ r ∧ LBM τ r ∧ OKS τ (τ.2.1 14 r) r ∧ XR r ρ τ) ∧ OKF τ r ∧ FRI τ r ∧ XF r (ρ.2.1 14 r) ρ τ ∧ τ.2.1 14 r = ρ.2.1 14 r + ρ.2.1 14 q ∧ τ.2.1 9 r = ρ.2.1 9 r + (a - 1) := by
  have n := mo.n
  obtain ⟨_, mq, okq, nc, ri, rn, ox, f0, okq2, pa, na⟩ := mo
  have hF := n.2.2.2.2.2.2.2.2.1
  have g : ∀ k, k ∉ [3, 4, 5, 6, 7, 8, 9] → τ.2.1 k = σ2.2.1 k := fun k hk => by
    have h9 : k ≠ 9 := fun e => hk (by rw [e]; decide)
    have h3 : k ∉ [3, 4, 5, 6, 7, 8] := fun e => hk ((by decide : ∀ k ∈ [3, 4, 5, 6, 7, 8], k ∈ [3, 4, 5, 6, 7, 8, 9]) k e)
    rw [hτ, show (sA 9 r (ρ.2.1 9 r + (a - 1)) σ4).2.1 k = σ4.2.1 k from by simp only [sA, if_neg h9], f34.2.1 k h3, f23.2.1 k h3]
  have t9 : τ.2.1 9 r = ρ.2.1 9 r + (a - 1) := by rw [hτ]; exact ra_eq
  have e14 : τ.2.1 14 = (sA 14 r (F + ρ.2.1 14 q) ρ).2.1 14 := (g 14 (by decide)).trans t14
  have t14r : τ.2.1 14 r = F + ρ.2.1 14 q := by rw [e14]; exact ra_eq
  have fm2 : FRM ρ τ r q F g0 base (ρ.2.1 14 q) := by
    unfold FRM
    rw [g 15 (by decide), g 16 (by decide), g 17 (by decide), g 18 (by decide)]
    exact fm
  have s10 : τ.1 10 = ρ.1 10 := by
    rw [hτ, show (sA 9 r (ρ.2.1 9 r + (a - 1)) σ4).1 10 = σ4.1 10 from rfl, f34.1 10 (by decide), f23.1 10 (by decide), f12.1 10 (by decide), f01.1 10 (by decide)]
  have s11 : τ.2.1 11 = ρ.2.1 11 := by rw [g 11 (by decide), f12.2.1 11 (by decide), f01.2.1 11 (by decide)]
  have s12 : τ.2.1 12 = ρ.2.1 12 := by rw [g 12 (by decide), f12.2.1 12 (by decide), f01.2.1 12 (by decide)]
  have hq14 : 1 ≤ ρ.2.1 14 q := n.2.2.2.2.2.2.2.2.2.2.1
  have fin := melt_fin (τ := τ) n.1.1 ⟨n.2.1.1, n.2.1.2.1⟩ h10 ha hn cw lx lm ok hF hg (by omega) m1 mx hlb hout hFI (fun y => IEQ.fr f12 (by decide)) su cp (fun y => by rw [hτ]; exact IEQ.fr ((Fr.rfl (ss := []) (ks := [9]) (js := [])).A (by decide)) (by decide)) t9 t14r s10 s11 (fun f x y => by
    by_cases z : f < F
    · rw [(fm2.2.1 (12 * r + f) (by omega)).2.1]; exact (hFI f x z).symm
    · have w := fm2.1 (f - F) (by omega) (by omega)
      rw [show 12 * r + F + (f - F) = 12 * r + f by omega] at w
      by_cases v : f - F = 0
      · rw [w.2.1 v, show f = F by omega]; exact mq.2.2.2.2.1.symm
      · rw [w.2.2.1 v]
        have := mq.2.2.2.2.2.1 (f - F) (by omega)
        rw [show f - F + F = f by omega] at this
        exact this.symm)
  refine ⟨⟨fin.1, fin.2.1, fin.2.2.1, by rw [t14r]; exact fin.2.2.2.1, fin.2.2.2.2⟩, fm2.okf okf okq2 hF n.2.2.2.2.2.1 rn ⟨n.2.2.1.1, by omega⟩ t14r s12 na, fm2.fri fri friq hF ⟨by omega, by omega⟩ n.2.2.2.2.2.2.2.1 t14r, ⟨fun y hy => fm2.2.1 y (by omega), fun z hz => fm2.2.2 z (by omega), fun j hj => ⟨by rw [e14]; exact ra_ne hj rfl, ?_⟩⟩, by omega, t9⟩
  rw [hτ, show (sA 9 r (ρ.2.1 9 r + (a - 1)) σ4).2.1 9 j = σ4.2.1 9 j from ra_ne hj rfl, f34.2.1 9 (by decide), f23.2.1 9 (by decide), f12.2.1 9 (by decide), f01.2.1 9 (by decide)]
def FIx (ρ : MS) (r q F g0 : Int) : Int → Int := fun g => if g < F then ρ.2.1 16 (12 * r + g) else if g = F then g0 else ρ.2.1 16 (12 * q + (g - F)) + F
def lfx (F lb out : Int) (lfq : Int → Int) : Int → Int := fun l => if l = out then F else F + lfq (l - lb)
theorem mo_mk {ρ : MS} {r k q F base lb out to g0 m v2 : Int} {frq lfq : Int → Int} (h1 : ((0 ≤ r ∧ r < 6) ∧ (0 ≤ q ∧ q < 6) ∧ q ≠ r) ∧ (0 ≤ k ∧ k < ρ.2.1 9 r ∧ ρ.2.1 9 r ≤ 200) ∧ (0 ≤ base ∧ 0 ≤ m ∧ base + m ≤ 100) ∧ (0 ≤ to ∧ to < 192) ∧ (0 ≤ lb ∧ lb ≤ out ∧ out < 4096) ∧ F + ρ.2.1 14 q ≤ 12 ∧ ρ.2.1 9 q ≤ 200 ∧ (0 ≤ g0 ∧ g0 < F) ∧ F = ρ.2.1 14 r ∧ 1 ≤ F ∧ 1 ≤ ρ.2.1 14 q ∧ 1 ≤ ρ.2.1 9 q)
    (cq : CW (ρ.2.1 9 q) (ρ.2.1 14 q) (ρ.1 10) (iK ρ q) (iD ρ q) (iO ρ q) (iF ρ q) frq lfq) (lx : LEX ρ q) (ok : OKS ρ (ρ.2.1 14 q) q) (ho : out = lb + v2) (hl : ∀ j, 0 ≤ j → j < ρ.2.1 9 q → (ρ.2.1 3 (220 * q + j) = 8 ∨ ρ.2.1 3 (220 * q + j) = 9 ∨ ρ.2.1 3 (220 * q + j) = 13) → ρ.2.1 4 (220 * q + j) < v2)
    (nc : ∀ j, 0 ≤ j → j < ρ.2.1 9 q → ¬ ρ.2.1 3 (220 * q + j) = 10) (ri : RGI ρ q m (ρ.2.1 9 q)) (rn : RGN ρ q m (ρ.2.1 14 q)) (ox : OKI ρ F (220 * r + k)) (f0 : FR0 ρ q) (okf : OKF ρ q) (pa : PAR ρ) (na : NAM ρ) : MOH ρ r k q F base lb out to g0 m (FIx ρ r q F g0) (lfx F lb out lfq) frq lfq := by
  refine ⟨h1, ⟨cq, lx, fun l hl => if_neg hl, if_pos rfl, ?_, fun j hj => ?_, fun j a b c => ?_, h1.2.2.2.2.2.2.2.2.2.1, h1.2.2.2.2.2.2.2.2.2.2.2, h1.2.2.2.2.2.2.2.2.2.2.1⟩, ok, nc, ri, rn, ox, f0, okf, pa, na⟩
  · unfold FIx; rw [if_neg (by omega), if_pos rfl]
  · unfold FIx; rw [if_neg (by omega), if_neg (by omega), show j + F - F = j by omega]
  · have := hl j a b c
    have := (ok j a b).2.2.1 c
    omega
theorem FIx_lt {ρ : MS} {r q F g0 f : Int} (h : f < F) : FIx ρ r q F g0 f = ρ.2.1 16 (12 * r + f) := if_pos h

set_option maxHeartbeats 1000000 in
set_option maxRecDepth 20000 in
theorem l3_regs2 (d : Nat) {b : Nat} {σ : MS} {r : Int} {F : Int} {B : Int} {f : Int} {post : Option Value → MS → Prop} (hr : 0 ≤ r ∧ r < 6) (hR : RG σ) (hof : OKF σ r) (hnam : NAM σ) (hit : ITM σ) (hpar : PAR σ) (hok : OKS σ F r) (hRN : RGN σ r B (σ.2.1 14 r)) (hRI : RGI σ r B (σ.2.1 9 r)) (hB : 0 ≤ B ∧ B ≤ 192) (hf : 0 ≤ f ∧ f < σ.2.1 14 r) (hx_79 : ∀ (m : Int) (n1 : Int) , (0 ≤ m ∧ m ≤ B) → Tm (d + 1) m_X12_registers 79 b σ [(4, .int (iI n1)), (3, .int (iI f)), (2, .int (iI m)), (0, .ref b), (1, .int (iI r))] [] post) : ∀ (n : Nat) (m : Int) (n1 : Int) , (0 ≤ m ∧ m ≤ B ∧ 0 ≤ n1 ∧ n1 ≤ 12) → (12 - n1).toNat = n → Tm (d + 1) m_X12_registers 17 b σ [(4, .int (iI n1)), (3, .int (iI f)), (2, .int (iI m)), (0, .ref b), (1, .int (iI r))] [] post := by
  intro n
  induction n using Nat.strongRecOn with
  | _ n ih =>
    intro m n1 h0 hm
    have q1 := hof.1
    have q2 := (hof.2 f (by omega) (by omega)).1
    have q3 := hnam _ q2.1 q2.2
    refine tm_iload dX12_registers_17 0 rfl ?_
    refine tm_aload_n dX12_registers_19 rfl 3 rfl ?_
    refine tm_get (k := 12) (v := .ref (b + 1 + 9)) lay_12 dX12_registers_20 (by decide) fl12_38 rfl ?_
    refine tm_aload_n dX12_registers_23 rfl 3 rfl ?_
    refine tm_get (k := 15) (v := .ref (b + 1 + 12)) lay_12 dX12_registers_24 (by decide) fl12_47 rfl ?_
    refine tm_bipush dX12_registers_27 (by decide) ?_
    refine tm_iload_n dX12_registers_29 rfl 4 rfl ?_
    refine tm_imul dX12_registers_30 ?_
    refine tm_iload_n dX12_registers_31 rfl 1 rfl ?_
    refine tm_iadd dX12_registers_32 ?_
    refine tm_iald (z := (12 * r) + f) (v := σ.2.1 15 ((12 * r) + f)) dX12_registers_33 (show mT[12]? = some (15, 0, 72) from rfl) (by omega) (by omega) (by decide) (rfl) ?_
    have g1 := RG.a hR 15 ((12 * r) + f)
    refine tm_iald (z := σ.2.1 15 ((12 * r) + f)) (v := σ.2.1 12 (σ.2.1 15 ((12 * r) + f))) dX12_registers_34 (show mT[9]? = some (12, 0, 6) from rfl) (by omega) (by omega) (by decide) (rfl) ?_
    have g2 := RG.a hR 12 (σ.2.1 15 ((12 * r) + f))
    refine tm_icmp_ge (tgt := 79) dX12_registers_35 (by decide) ⟨by omega, by omega⟩ ⟨by omega, by omega⟩ (fun h3 => ?_) (fun h3 => ?_)
    · exact tm_sub [0, 1, 2, 3, 4] rfl (hx_79 (m) (n1) (by omega))
    · have q4 := (hof.2 f (by omega) (by omega)).2 n1 (by omega) (by omega)
      have q5 := hRN f (by omega) (by omega) n1 (by omega) (by omega)
      refine tm_aload_n dX12_registers_38 rfl 3 rfl ?_
      refine tm_get (k := 18) (v := .ref (b + 1 + 15)) lay_12 dX12_registers_39 (by decide) fl12_56 rfl ?_
      refine tm_sipush dX12_registers_42 (by decide) ?_
      refine tm_iload_n dX12_registers_45 rfl 4 rfl ?_
      refine tm_imul dX12_registers_46 ?_
      refine tm_bipush dX12_registers_47 (by decide) ?_
      refine tm_iload_n dX12_registers_49 rfl 1 rfl ?_
      refine tm_imul dX12_registers_50 ?_
      refine tm_iadd dX12_registers_51 ?_
      refine tm_iload dX12_registers_52 0 rfl ?_
      refine tm_iadd dX12_registers_54 ?_
      refine tm_iald (z := ((144 * r) + (12 * f)) + n1) (v := σ.2.1 18 (((144 * r) + (12 * f)) + n1)) dX12_registers_55 (show mT[15]? = some (18, 0, 864) from rfl) (by omega) (by omega) (by decide) (rfl) ?_
      have g4 := RG.a hR 18 (((144 * r) + (12 * f)) + n1)
      refine tm_istore (L' := [(5, .int (iI (σ.2.1 18 (((144 * r) + (12 * f)) + n1)))), (4, .int (iI n1)), (3, .int (iI f)), (2, .int (iI m)), (0, .ref b), (1, .int (iI r))]) dX12_registers_56 (by decide) rfl ?_
      refine tm_iload dX12_registers_58 0 rfl ?_
      refine tm_iload_n dX12_registers_60 rfl 3 rfl ?_
      refine tm_icmp_lt (tgt := 71) dX12_registers_61 (by decide) ⟨by omega, by omega⟩ ⟨by omega, by omega⟩ (fun h5 => ?_) (fun h5 => ?_)
      · refine tm_iload_n dX12_registers_71 rfl 3 rfl ?_
        refine tm_istore_n (L' := [(2, .int (iI m)), (5, .int (iI (σ.2.1 18 (((144 * r) + (12 * f)) + n1)))), (4, .int (iI n1)), (3, .int (iI f)), (0, .ref b), (1, .int (iI r))]) dX12_registers_72 rfl (by decide) rfl ?_
        refine tm_iinc (q0 := 2) (L' := [(4, .int (iI (n1 + 1))), (2, .int (iI m)), (5, .int (iI (σ.2.1 18 (((144 * r) + (12 * f)) + n1)))), (3, .int (iI f)), (0, .ref b), (1, .int (iI r))]) dX12_registers_73 rfl (by decide) rfl ?_
        refine tm_goto (tgt := 17) dX12_registers_76 (by decide) ?_
        exact tm_sub [0, 3, 1, 4, 5] rfl (ih _ (by omega) (m) (n1 + 1) (by omega) rfl)
      · refine tm_iload dX12_registers_64 0 rfl ?_
        refine tm_iconst dX12_registers_66 ?_
        refine tm_iadd dX12_registers_67 ?_
        refine tm_goto (tgt := 72) dX12_registers_68 (by decide) ?_
        refine tm_istore_n (L' := [(2, .int (iI ((σ.2.1 18 (((144 * r) + (12 * f)) + n1)) + 1))), (5, .int (iI (σ.2.1 18 (((144 * r) + (12 * f)) + n1)))), (4, .int (iI n1)), (3, .int (iI f)), (0, .ref b), (1, .int (iI r))]) dX12_registers_72 rfl (by decide) rfl ?_
        refine tm_iinc (q0 := 2) (L' := [(4, .int (iI (n1 + 1))), (2, .int (iI ((σ.2.1 18 (((144 * r) + (12 * f)) + n1)) + 1))), (5, .int (iI (σ.2.1 18 (((144 * r) + (12 * f)) + n1)))), (3, .int (iI f)), (0, .ref b), (1, .int (iI r))]) dX12_registers_73 rfl (by decide) rfl ?_
        refine tm_goto (tgt := 17) dX12_registers_76 (by decide) ?_
        exact tm_sub [0, 3, 1, 4, 5] rfl (ih _ (by omega) ((σ.2.1 18 (((144 * r) + (12 * f)) + n1)) + 1) (n1 + 1) (by omega) rfl)
set_option maxHeartbeats 1000000 in
set_option maxRecDepth 20000 in
theorem l3_regs1 (d : Nat) {b : Nat} {σ : MS} {r : Int} {F : Int} {B : Int} {post : Option Value → MS → Prop} (hr : 0 ≤ r ∧ r < 6) (hR : RG σ) (hof : OKF σ r) (hnam : NAM σ) (hit : ITM σ) (hpar : PAR σ) (hok : OKS σ F r) (hRN : RGN σ r B (σ.2.1 14 r)) (hRI : RGI σ r B (σ.2.1 9 r)) (hB : 0 ≤ B ∧ B ≤ 192) (hx_85 : ∀ (m : Int) (f : Int) , (0 ≤ m ∧ m ≤ B) → Tm (d + 1) m_X12_registers 85 b σ [(3, .int (iI f)), (2, .int (iI m)), (0, .ref b), (1, .int (iI r))] [] post) : ∀ (n : Nat) (m : Int) (f : Int) , (0 ≤ m ∧ m ≤ B ∧ 0 ≤ f ∧ f ≤ σ.2.1 14 r) → (12 - f).toNat = n → Tm (d + 1) m_X12_registers 4 b σ [(3, .int (iI f)), (2, .int (iI m)), (0, .ref b), (1, .int (iI r))] [] post := by
  intro n
  induction n using Nat.strongRecOn with
  | _ n ih =>
    intro m f h0 hm
    have q1 := hof.1
    refine tm_iload_n dX12_registers_4 rfl 0 rfl ?_
    refine tm_aload_n dX12_registers_5 rfl 2 rfl ?_
    refine tm_get (k := 14) (v := .ref (b + 1 + 11)) lay_12 dX12_registers_6 (by decide) fl12_44 rfl ?_
    refine tm_iload_n dX12_registers_9 rfl 3 rfl ?_
    refine tm_iald (z := r) (v := σ.2.1 14 r) dX12_registers_10 (show mT[11]? = some (14, 0, 6) from rfl) (by omega) (by omega) (by decide) (rfl) ?_
    have g1 := RG.a hR 14 (r)
    refine tm_icmp_ge (tgt := 85) dX12_registers_11 (by decide) ⟨by omega, by omega⟩ ⟨by omega, by omega⟩ (fun h2 => ?_) (fun h2 => ?_)
    · exact tm_sub [0, 1, 2, 3] rfl (hx_85 (m) (f) (by omega))
    · refine tm_iconst dX12_registers_14 ?_
      refine tm_istore (L' := [(4, .int (iI 0)), (3, .int (iI f)), (2, .int (iI m)), (0, .ref b), (1, .int (iI r))]) dX12_registers_15 (by decide) rfl ?_
      refine tm_sub [0, 1, 2, 3, 4] rfl (l3_regs2 (d) (σ := σ) (r := r) (f := f) (F := F) (B := B) hr hR hof hnam hit hpar hok hRN hRI hB (by omega) (fun m8 n19 f7 => ?_) _ (m) (0) (by omega) rfl)
      show Tm _ _ 79 b σ [(4, .int (iI n19)), (3, .int (iI f)), (2, .int (iI m8)), (0, .ref b), (1, .int (iI r))] [] _
      refine tm_iinc (q0 := 1) (L' := [(3, .int (iI (f + 1))), (4, .int (iI n19)), (2, .int (iI m8)), (0, .ref b), (1, .int (iI r))]) dX12_registers_79 rfl (by decide) rfl ?_
      refine tm_goto (tgt := 4) dX12_registers_82 (by decide) ?_
      exact tm_sub [0, 2, 3, 4] rfl (ih _ (by omega) (m8) (f + 1) (by omega) rfl)
set_option maxHeartbeats 1000000 in
set_option maxRecDepth 20000 in
theorem l3_regs4 (d : Nat) {b : Nat} {σ : MS} {r : Int} {F : Int} {B : Int} {k : Int} {post : Option Value → MS → Prop} (hr : 0 ≤ r ∧ r < 6) (hR : RG σ) (hof : OKF σ r) (hnam : NAM σ) (hit : ITM σ) (hpar : PAR σ) (hok : OKS σ F r) (hRN : RGN σ r B (σ.2.1 14 r)) (hRI : RGI σ r B (σ.2.1 9 r)) (hB : 0 ≤ B ∧ B ≤ 192) (hk : 0 ≤ k ∧ k < σ.2.1 9 r) (hx_214 : ∀ (m : Int) (i : Int) , (0 ≤ m ∧ m ≤ B) → Tm (d + 4) m_X12_registers 214 b σ [(5, .int (iI i)), (4, .int (iI (220 * r + k))), (3, .int (iI k)), (2, .int (iI m)), (0, .ref b), (1, .int (iI r))] [] post) : ∀ (n : Nat) (m : Int) (i : Int) , (0 ≤ m ∧ m ≤ B ∧ 0 ≤ i ∧ i ≤ 4) → (4 - i).toNat = n → Tm (d + 4) m_X12_registers 146 b σ [(5, .int (iI i)), (4, .int (iI (220 * r + k))), (3, .int (iI k)), (2, .int (iI m)), (0, .ref b), (1, .int (iI r))] [] post := by
  intro n
  induction n using Nat.strongRecOn with
  | _ n ih =>
    intro m i h0 hm
    have q1 := hit r (by omega) (by omega)
    refine tm_iload dX12_registers_146 0 rfl ?_
    refine tm_aload_n dX12_registers_148 rfl 4 rfl ?_
    refine tm_iload dX12_registers_149 1 rfl ?_
    refine tm_callV (M := m_X12_registers) (pc := 151) (ix := 199) (M' := m_X12_args) (As := [.int (iI (220 * r + k))]) (rest := [.int (iI i)]) dX12_registers_151 ok_X12_args im_X12_args se_X12_args ml12_199 np_X12_args rfl rfl (Nat.le_of_ble_eq_true rfl) (Nat.le_of_ble_eq_true rfl) rfl (c_X12_args (d) (σ := σ) (x := 220 * r + k) (by omega) hR (hok.of (by omega) (by omega)) hpar) (fun r1 σ2 hp => ?_)
    obtain ⟨v3, rfl, rfl, f4, f5⟩ := hp
    show Tm _ _ 154 b σ [(5, .int (iI i)), (4, .int (iI (220 * r + k))), (3, .int (iI k)), (2, .int (iI m)), (0, .ref b), (1, .int (iI r))] [.int (iI v3), .int (iI i)] _
    refine tm_icmp_ge (tgt := 214) dX12_registers_154 (by decide) ⟨by omega, by omega⟩ ⟨by omega, by omega⟩ (fun h6 => ?_) (fun h6 => ?_)
    · exact tm_sub [0, 1, 2, 3, 4, 5] rfl (hx_214 (m) (i) (by omega))
    · have q2 := hok.arg (k := k) (by omega) (by omega) (i := i) (by omega) (by omega)
      have q5 := (hRI k (by omega) (by omega)).2 i (by omega) (by omega)
      refine tm_aload_n dX12_registers_157 rfl 4 rfl ?_
      refine tm_get (k := 7) (v := .ref (b + 1 + 5)) lay_12 dX12_registers_158 (by decide) fl12_26 rfl ?_
      refine tm_iconst dX12_registers_161 ?_
      refine tm_iload dX12_registers_162 1 rfl ?_
      refine tm_imul dX12_registers_164 ?_
      refine tm_iload dX12_registers_165 0 rfl ?_
      refine tm_iadd dX12_registers_167 ?_
      refine tm_iald (z := (4 * (220 * r + k)) + i) (v := σ.2.1 7 ((4 * (220 * r + k)) + i)) dX12_registers_168 (show mT[5]? = some (7, 0, 11440) from rfl) (by omega) (by omega) (by decide) (rfl) ?_
      have g7 := RG.a hR 7 ((4 * (220 * r + k)) + i)
      refine tm_iconst dX12_registers_169 ?_
      refine tm_icmp_ne (tgt := 206) dX12_registers_170 (by decide) ⟨by omega, by omega⟩ ⟨by decide, by decide⟩ (fun h8 => ?_) (fun h8 => ?_)
      · refine tm_iload_n dX12_registers_206 rfl 3 rfl ?_
        refine tm_istore_n (L' := [(2, .int (iI m)), (5, .int (iI i)), (4, .int (iI (220 * r + k))), (3, .int (iI k)), (0, .ref b), (1, .int (iI r))]) dX12_registers_207 rfl (by decide) rfl ?_
        refine tm_iinc (q0 := 1) (L' := [(5, .int (iI (i + 1))), (2, .int (iI m)), (4, .int (iI (220 * r + k))), (3, .int (iI k)), (0, .ref b), (1, .int (iI r))]) dX12_registers_208 rfl (by decide) rfl ?_
        refine tm_goto (tgt := 146) dX12_registers_211 (by decide) ?_
        exact tm_sub [0, 2, 3, 1, 4, 5] rfl (ih _ (by omega) (m) (i + 1) (by omega) rfl)
      · refine tm_aload_n dX12_registers_173 rfl 4 rfl ?_
        refine tm_get (k := 8) (v := .ref (b + 1 + 6)) lay_12 dX12_registers_174 (by decide) fl12_29 rfl ?_
        refine tm_iconst dX12_registers_177 ?_
        refine tm_iload dX12_registers_178 1 rfl ?_
        refine tm_imul dX12_registers_180 ?_
        refine tm_iload dX12_registers_181 0 rfl ?_
        refine tm_iadd dX12_registers_183 ?_
        refine tm_iald (z := (4 * (220 * r + k)) + i) (v := σ.2.1 8 ((4 * (220 * r + k)) + i)) dX12_registers_184 (show mT[6]? = some (8, 0, 11440) from rfl) (by omega) (by omega) (by decide) (rfl) ?_
        have g9 := RG.a hR 8 ((4 * (220 * r + k)) + i)
        refine tm_iload_n dX12_registers_185 rfl 3 rfl ?_
        refine tm_icmp_lt (tgt := 206) dX12_registers_186 (by decide) ⟨by omega, by omega⟩ ⟨by omega, by omega⟩ (fun h10 => ?_) (fun h10 => ?_)
        · refine tm_iload_n dX12_registers_206 rfl 3 rfl ?_
          refine tm_istore_n (L' := [(2, .int (iI m)), (5, .int (iI i)), (4, .int (iI (220 * r + k))), (3, .int (iI k)), (0, .ref b), (1, .int (iI r))]) dX12_registers_207 rfl (by decide) rfl ?_
          refine tm_iinc (q0 := 1) (L' := [(5, .int (iI (i + 1))), (2, .int (iI m)), (4, .int (iI (220 * r + k))), (3, .int (iI k)), (0, .ref b), (1, .int (iI r))]) dX12_registers_208 rfl (by decide) rfl ?_
          refine tm_goto (tgt := 146) dX12_registers_211 (by decide) ?_
          exact tm_sub [0, 2, 3, 1, 4, 5] rfl (ih _ (by omega) (m) (i + 1) (by omega) rfl)
        · refine tm_aload_n dX12_registers_189 rfl 4 rfl ?_
          refine tm_get (k := 8) (v := .ref (b + 1 + 6)) lay_12 dX12_registers_190 (by decide) fl12_29 rfl ?_
          refine tm_iconst dX12_registers_193 ?_
          refine tm_iload dX12_registers_194 1 rfl ?_
          refine tm_imul dX12_registers_196 ?_
          refine tm_iload dX12_registers_197 0 rfl ?_
          refine tm_iadd dX12_registers_199 ?_
          refine tm_iald (z := (4 * (220 * r + k)) + i) (v := σ.2.1 8 ((4 * (220 * r + k)) + i)) dX12_registers_200 (show mT[6]? = some (8, 0, 11440) from rfl) (by omega) (by omega) (by decide) (rfl) ?_
          have g11 := RG.a hR 8 ((4 * (220 * r + k)) + i)
          refine tm_iconst dX12_registers_201 ?_
          refine tm_iadd dX12_registers_202 ?_
          refine tm_goto (tgt := 207) dX12_registers_203 (by decide) ?_
          refine tm_istore_n (L' := [(2, .int (iI ((σ.2.1 8 ((4 * (220 * r + k)) + i)) + 1))), (5, .int (iI i)), (4, .int (iI (220 * r + k))), (3, .int (iI k)), (0, .ref b), (1, .int (iI r))]) dX12_registers_207 rfl (by decide) rfl ?_
          refine tm_iinc (q0 := 1) (L' := [(5, .int (iI (i + 1))), (2, .int (iI ((σ.2.1 8 ((4 * (220 * r + k)) + i)) + 1))), (4, .int (iI (220 * r + k))), (3, .int (iI k)), (0, .ref b), (1, .int (iI r))]) dX12_registers_208 rfl (by decide) rfl ?_
          refine tm_goto (tgt := 146) dX12_registers_211 (by decide) ?_
          exact tm_sub [0, 2, 3, 1, 4, 5] rfl (ih _ (by omega) ((σ.2.1 8 ((4 * (220 * r + k)) + i)) + 1) (i + 1) (by omega) rfl)
set_option maxHeartbeats 1000000 in
set_option maxRecDepth 20000 in
theorem l3_regs3 (d : Nat) {b : Nat} {σ : MS} {r : Int} {F : Int} {B : Int} {post : Option Value → MS → Prop} (hr : 0 ≤ r ∧ r < 6) (hR : RG σ) (hof : OKF σ r) (hnam : NAM σ) (hit : ITM σ) (hpar : PAR σ) (hok : OKS σ F r) (hRN : RGN σ r B (σ.2.1 14 r)) (hRI : RGI σ r B (σ.2.1 9 r)) (hB : 0 ≤ B ∧ B ≤ 192) (hx_220 : ∀ (m : Int) (k : Int) , (0 ≤ m ∧ m ≤ B) → Tm (d + 4) m_X12_registers 220 b σ [(3, .int (iI k)), (2, .int (iI m)), (0, .ref b), (1, .int (iI r))] [] post) : ∀ (n : Nat) (m : Int) (k : Int) , (0 ≤ m ∧ m ≤ B ∧ 0 ≤ k ∧ k ≤ σ.2.1 9 r) → (220 - k).toNat = n → Tm (d + 4) m_X12_registers 87 b σ [(3, .int (iI k)), (2, .int (iI m)), (0, .ref b), (1, .int (iI r))] [] post := by
  intro n
  induction n using Nat.strongRecOn with
  | _ n ih =>
    intro m k h0 hm
    have q1 := hit r (by omega) (by omega)
    refine tm_iload_n dX12_registers_87 rfl 0 rfl ?_
    refine tm_aload_n dX12_registers_88 rfl 2 rfl ?_
    refine tm_get (k := 9) (v := .ref (b + 1 + 7)) lay_12 dX12_registers_89 (by decide) fl12_32 rfl ?_
    refine tm_iload_n dX12_registers_92 rfl 3 rfl ?_
    refine tm_iald (z := r) (v := σ.2.1 9 r) dX12_registers_93 (show mT[7]? = some (9, 0, 13) from rfl) (by omega) (by omega) (by decide) (rfl) ?_
    have g1 := RG.a hR 9 (r)
    refine tm_icmp_ge (tgt := 220) dX12_registers_94 (by decide) ⟨by omega, by omega⟩ ⟨by omega, by omega⟩ (fun h2 => ?_) (fun h2 => ?_)
    · exact tm_sub [0, 1, 2, 3] rfl (hx_220 (m) (k) (by omega))
    · refine tm_aload_n dX12_registers_97 rfl 2 rfl ?_
      refine tm_iload_n dX12_registers_98 rfl 3 rfl ?_
      refine tm_iload_n dX12_registers_99 rfl 0 rfl ?_
      refine tm_callV (M := m_X12_registers) (pc := 100) (ix := 203) (M' := m_X12_at) (As := [.int (iI r), .int (iI k)]) (rest := []) dX12_registers_100 ok_X12_at im_X12_at se_X12_at ml12_203 np_X12_at rfl rfl (Nat.le_of_ble_eq_true rfl) (Nat.le_of_ble_eq_true rfl) rfl (c_X12_at (d + 2) (σ := σ) (x := r) (k := k) ) (fun r3 σ4 hp => ?_)
      obtain ⟨v5, rfl, rfl, f6⟩ := hp
      subst f6
      show Tm _ _ 103 b σ [(3, .int (iI k)), (2, .int (iI m)), (0, .ref b), (1, .int (iI r))] [.int (iI (220 * r + k))] _
      refine tm_istore (L' := [(4, .int (iI (220 * r + k))), (3, .int (iI k)), (2, .int (iI m)), (0, .ref b), (1, .int (iI r))]) dX12_registers_103 (by decide) rfl ?_
      have q2 := hok.dest (k := k) (by omega) (by omega)
      have q5 := (hRI k (by omega) (by omega)).1
      refine tm_aload_n dX12_registers_105 rfl 3 rfl ?_
      refine tm_get (k := 3) (v := .ref (b + 1 + 1)) lay_12 dX12_registers_106 (by decide) fl12_13 rfl ?_
      refine tm_iload dX12_registers_109 0 rfl ?_
      refine tm_iald (z := 220 * r + k) (v := σ.2.1 3 (220 * r + k)) dX12_registers_111 (show mT[1]? = some (3, 0, 2860) from rfl) (by omega) (by omega) (by decide) (rfl) ?_
      have g7 := RG.a hR 3 (220 * r + k)
      refine tm_callS (M := m_X12_registers) (pc := 112) (ix := 192) (M' := m_X12_writes) (As := [.int (iI (σ.2.1 3 (220 * r + k)))]) (rest := []) dX12_registers_112 ok_X12_writes stt_X12_writes ml12_192 np_X12_writes rfl (Nat.le_of_ble_eq_true rfl) (Nat.le_of_ble_eq_true rfl) rfl (c_X12_writes (d + 2) (σ := σ) (x := σ.2.1 3 (220 * r + k)) (by omega)) (fun r8 σ9 hp => ?_)
      obtain ⟨v10, rfl, rfl, f11, f12⟩ := hp
      show Tm _ _ 115 b σ [(4, .int (iI (220 * r + k))), (3, .int (iI k)), (2, .int (iI m)), (0, .ref b), (1, .int (iI r))] [.int (iI v10)] _
      refine tm_if_eq (tgt := 141) dX12_registers_115 (by decide) ⟨by omega, by omega⟩ (fun h13 => ?_) (fun h13 => ?_)
      · refine tm_iload_n dX12_registers_141 rfl 2 rfl ?_
        refine tm_istore_n (L' := [(2, .int (iI m)), (4, .int (iI (220 * r + k))), (3, .int (iI k)), (0, .ref b), (1, .int (iI r))]) dX12_registers_142 rfl (by decide) rfl ?_
        refine tm_iconst dX12_registers_143 ?_
        refine tm_istore (L' := [(5, .int (iI 0)), (2, .int (iI m)), (4, .int (iI (220 * r + k))), (3, .int (iI k)), (0, .ref b), (1, .int (iI r))]) dX12_registers_144 (by decide) rfl ?_
        refine tm_sub [0, 2, 3, 1, 4, 5] rfl (l3_regs4 (d) (σ := σ) (r := r) (k := k) (F := F) (B := B) hr hR hof hnam hit hpar hok hRN hRI hB (by omega) (fun m19 i20 f18 => ?_) _ (m) (0) (by omega) rfl)
        show Tm _ _ 214 b σ [(5, .int (iI i20)), (4, .int (iI (220 * r + k))), (3, .int (iI k)), (2, .int (iI m19)), (0, .ref b), (1, .int (iI r))] [] _
        refine tm_iinc (q0 := 2) (L' := [(3, .int (iI (k + 1))), (5, .int (iI i20)), (4, .int (iI (220 * r + k))), (2, .int (iI m19)), (0, .ref b), (1, .int (iI r))]) dX12_registers_214 rfl (by decide) rfl ?_
        refine tm_goto (tgt := 87) dX12_registers_217 (by decide) ?_
        exact tm_sub [0, 3, 4, 5] rfl (ih _ (by omega) (m19) (k + 1) (by omega) rfl)
      · refine tm_aload_n dX12_registers_118 rfl 3 rfl ?_
        refine tm_get (k := 4) (v := .ref (b + 1 + 2)) lay_12 dX12_registers_119 (by decide) fl12_17 rfl ?_
        refine tm_iload dX12_registers_122 0 rfl ?_
        refine tm_iald (z := 220 * r + k) (v := σ.2.1 4 (220 * r + k)) dX12_registers_124 (show mT[2]? = some (4, 0, 2860) from rfl) (by omega) (by omega) (by decide) (rfl) ?_
        have g21 := RG.a hR 4 (220 * r + k)
        refine tm_iload_n dX12_registers_125 rfl 2 rfl ?_
        refine tm_icmp_lt (tgt := 141) dX12_registers_126 (by decide) ⟨by omega, by omega⟩ ⟨by omega, by omega⟩ (fun h22 => ?_) (fun h22 => ?_)
        · refine tm_iload_n dX12_registers_141 rfl 2 rfl ?_
          refine tm_istore_n (L' := [(2, .int (iI m)), (4, .int (iI (220 * r + k))), (3, .int (iI k)), (0, .ref b), (1, .int (iI r))]) dX12_registers_142 rfl (by decide) rfl ?_
          refine tm_iconst dX12_registers_143 ?_
          refine tm_istore (L' := [(5, .int (iI 0)), (2, .int (iI m)), (4, .int (iI (220 * r + k))), (3, .int (iI k)), (0, .ref b), (1, .int (iI r))]) dX12_registers_144 (by decide) rfl ?_
          refine tm_sub [0, 2, 3, 1, 4, 5] rfl (l3_regs4 (d) (σ := σ) (r := r) (k := k) (F := F) (B := B) hr hR hof hnam hit hpar hok hRN hRI hB (by omega) (fun m28 i29 f27 => ?_) _ (m) (0) (by omega) rfl)
          show Tm _ _ 214 b σ [(5, .int (iI i29)), (4, .int (iI (220 * r + k))), (3, .int (iI k)), (2, .int (iI m28)), (0, .ref b), (1, .int (iI r))] [] _
          refine tm_iinc (q0 := 2) (L' := [(3, .int (iI (k + 1))), (5, .int (iI i29)), (4, .int (iI (220 * r + k))), (2, .int (iI m28)), (0, .ref b), (1, .int (iI r))]) dX12_registers_214 rfl (by decide) rfl ?_
          refine tm_goto (tgt := 87) dX12_registers_217 (by decide) ?_
          exact tm_sub [0, 3, 4, 5] rfl (ih _ (by omega) (m28) (k + 1) (by omega) rfl)
        · refine tm_aload_n dX12_registers_129 rfl 3 rfl ?_
          refine tm_get (k := 4) (v := .ref (b + 1 + 2)) lay_12 dX12_registers_130 (by decide) fl12_17 rfl ?_
          refine tm_iload dX12_registers_133 0 rfl ?_
          refine tm_iald (z := 220 * r + k) (v := σ.2.1 4 (220 * r + k)) dX12_registers_135 (show mT[2]? = some (4, 0, 2860) from rfl) (by omega) (by omega) (by decide) (rfl) ?_
          have g30 := RG.a hR 4 (220 * r + k)
          refine tm_iconst dX12_registers_136 ?_
          refine tm_iadd dX12_registers_137 ?_
          refine tm_goto (tgt := 142) dX12_registers_138 (by decide) ?_
          refine tm_istore_n (L' := [(2, .int (iI ((σ.2.1 4 (220 * r + k)) + 1))), (4, .int (iI (220 * r + k))), (3, .int (iI k)), (0, .ref b), (1, .int (iI r))]) dX12_registers_142 rfl (by decide) rfl ?_
          refine tm_iconst dX12_registers_143 ?_
          refine tm_istore (L' := [(5, .int (iI 0)), (2, .int (iI ((σ.2.1 4 (220 * r + k)) + 1))), (4, .int (iI (220 * r + k))), (3, .int (iI k)), (0, .ref b), (1, .int (iI r))]) dX12_registers_144 (by decide) rfl ?_
          refine tm_sub [0, 2, 3, 1, 4, 5] rfl (l3_regs4 (d) (σ := σ) (r := r) (k := k) (F := F) (B := B) hr hR hof hnam hit hpar hok hRN hRI hB (by omega) (fun m36 i37 f35 => ?_) _ ((σ.2.1 4 (220 * r + k)) + 1) (0) (by omega) rfl)
          show Tm _ _ 214 b σ [(5, .int (iI i37)), (4, .int (iI (220 * r + k))), (3, .int (iI k)), (2, .int (iI m36)), (0, .ref b), (1, .int (iI r))] [] _
          refine tm_iinc (q0 := 2) (L' := [(3, .int (iI (k + 1))), (5, .int (iI i37)), (4, .int (iI (220 * r + k))), (2, .int (iI m36)), (0, .ref b), (1, .int (iI r))]) dX12_registers_214 rfl (by decide) rfl ?_
          refine tm_goto (tgt := 87) dX12_registers_217 (by decide) ?_
          exact tm_sub [0, 3, 4, 5] rfl (ih _ (by omega) (m36) (k + 1) (by omega) rfl)
set_option maxHeartbeats 1000000 in
set_option maxRecDepth 20000 in
theorem c2_X12_registers (d : Nat) {b : Nat} {σ : MS} {r : Int} {F : Int} {B : Int} (hr : 0 ≤ r ∧ r < 6) (hR : RG σ) (hof : OKF σ r) (hnam : NAM σ) (hit : ITM σ) (hpar : PAR σ) (hok : OKS σ F r) (hRN : RGN σ r B (σ.2.1 14 r)) (hRI : RGI σ r B (σ.2.1 9 r)) (hB : 0 ≤ B ∧ B ≤ 192) : Tm (d + 4) m_X12_registers 0 b σ [(0, .ref b), (1, .int (iI r))] [] (fun ro σ2 => ∃ v : Int, ro = some (.int (iI v)) ∧ σ = σ2 ∧ (0 ≤ v ∧ v ≤ B)) := by
  have q1 := hit r (by omega) (by omega)
  have q9 := hof.1
  refine tm_iconst dX12_registers_0 ?_
  refine tm_istore_n (L' := [(2, .int (iI 0)), (0, .ref b), (1, .int (iI r))]) dX12_registers_1 rfl (by decide) rfl ?_
  refine tm_iconst dX12_registers_2 ?_
  refine tm_istore_n (L' := [(3, .int (iI 0)), (2, .int (iI 0)), (0, .ref b), (1, .int (iI r))]) dX12_registers_3 rfl (by decide) rfl ?_
  refine tm_sub [0, 1, 2, 3] rfl (l3_regs1 (d + 3) (σ := σ) (r := r) (F := F) (B := B) hr hR hof hnam hit hpar hok hRN hRI hB (fun m6 f7 f5 => ?_) _ (0) (0) (by omega) rfl)
  show Tm _ _ 85 b σ [(3, .int (iI f7)), (2, .int (iI m6)), (0, .ref b), (1, .int (iI r))] [] _
  refine tm_iconst dX12_registers_85 ?_
  refine tm_istore_n (L' := [(3, .int (iI 0)), (2, .int (iI m6)), (0, .ref b), (1, .int (iI r))]) dX12_registers_86 rfl (by decide) rfl ?_
  refine tm_sub [0, 1, 2, 3] rfl (l3_regs3 (d) (σ := σ) (r := r) (F := F) (B := B) hr hR hof hnam hit hpar hok hRN hRI hB (fun m13 k14 f12 => ?_) _ (m6) (0) (by omega) rfl)
  show Tm _ _ 220 b σ [(3, .int (iI k14)), (2, .int (iI m13)), (0, .ref b), (1, .int (iI r))] [] _
  refine tm_iload_n dX12_registers_220 rfl 1 rfl ?_
  exact tm_iret rfl dX12_registers_221 (⟨_, rfl, rfl, by omega⟩)
end
section
theorem dX12_meltOne_52 : decode cX12_meltOne 52 = .ok (.iload 10, 2) := by decide +kernel
theorem dX12_meltOne_54 : decode cX12_meltOne 54 = .ok (.ifCond .le 26, 3) := by decide +kernel
theorem dX12_meltOne_57 : decode cX12_meltOne 57 = .ok (.aload_n 0, 1) := by decide +kernel
theorem dX12_meltOne_58 : decode cX12_meltOne 58 = .ok (.getfield 13, 3) := by decide +kernel
theorem dX12_meltOne_61 : decode cX12_meltOne 61 = .ok (.aload_n 0, 1) := by decide +kernel
theorem dX12_meltOne_62 : decode cX12_meltOne 62 = .ok (.iload_n 1, 1) := by decide +kernel
theorem dX12_meltOne_63 : decode cX12_meltOne 63 = .ok (.iload 10, 2) := by decide +kernel
theorem dX12_meltOne_65 : decode cX12_meltOne 65 = .ok (.invokevirtual 203, 3) := by decide +kernel
theorem dX12_meltOne_68 : decode cX12_meltOne 68 = .ok (.iaload, 1) := by decide +kernel
theorem dX12_meltOne_69 : decode cX12_meltOne 69 = .ok (.bipush 11, 2) := by decide +kernel
theorem dX12_meltOne_71 : decode cX12_meltOne 71 = .ok (.if_icmp .eq 9, 3) := by decide +kernel
theorem dX12_meltOne_74 : decode cX12_meltOne 74 = .ok (.iinc 10 (-1), 3) := by decide +kernel
theorem dX12_meltOne_77 : decode cX12_meltOne 77 = .ok (.goto (-25), 3) := by decide +kernel
set_option maxHeartbeats 2000000 in
set_option maxRecDepth 20000 in
theorem l_mo1 (d : Nat) {b : Nat} {σ : MS} {r : Int} {k : Int} {q : Int} {f : Int} {base : Int} {lb : Int} {out : Int} {to : Int} {j0 : Int} {post : Option Value → MS → Prop} (hr : 0 ≤ r ∧ r < 6) (hR : RG σ) (hk : 0 ≤ k ∧ k < 220) (hj : 0 ≤ j0 ∧ j0 < k ∧ σ.2.1 3 (220 * r + j0) = 11) (h10 : σ.2.1 3 (220 * r + k) = 10) (hb5 : ∀ i, j0 < i → i < k → σ.2.1 3 (220 * r + i) ≤ 5) (hx_80 : ∀ (mk : Int) , (mk = j0) → Tm (d + 2) m_X12_meltOne 80 b σ [(10, .int (iI mk)), (9, .int (iI to)), (8, .int (iI out)), (7, .int (iI lb)), (6, .int (iI base)), (5, .int (iI f)), (4, .int (iI (220 * r + k))), (0, .ref b), (1, .int (iI r)), (2, .int (iI k)), (3, .int (iI q))] [] post) : ∀ (n : Nat) (mk : Int) , (j0 ≤ mk ∧ mk ≤ k) → (mk).toNat = n → Tm (d + 2) m_X12_meltOne 52 b σ [(10, .int (iI mk)), (9, .int (iI to)), (8, .int (iI out)), (7, .int (iI lb)), (6, .int (iI base)), (5, .int (iI f)), (4, .int (iI (220 * r + k))), (0, .ref b), (1, .int (iI r)), (2, .int (iI k)), (3, .int (iI q))] [] post := by
  intro n
  induction n using Nat.strongRecOn with
  | _ n ih =>
    intro mk h0 hm
    refine tm_iload dX12_meltOne_52 0 rfl ?_
    refine tm_if_le (tgt := 80) dX12_meltOne_54 (by decide) ⟨by omega, by omega⟩ (fun h1 => ?_) (fun h1 => ?_)
    · exact tm_sub [0, 1, 2, 3, 4, 5, 6, 7, 8, 9, 10] rfl (hx_80 (mk) (by
        by_cases e : mk = j0
        · exact e
        · exfalso
          by_cases e2 : mk = k
          · subst e2; omega
          · have := hb5 mk (by omega) (by omega); omega))
    · refine tm_aload_n dX12_meltOne_57 rfl 7 rfl ?_
      refine tm_get (k := 3) (v := .ref (b + 1 + 1)) lay_12 dX12_meltOne_58 (by decide) fl12_13 rfl ?_
      refine tm_aload_n dX12_meltOne_61 rfl 7 rfl ?_
      refine tm_iload_n dX12_meltOne_62 rfl 8 rfl ?_
      refine tm_iload dX12_meltOne_63 0 rfl ?_
      refine tm_callV (M := m_X12_meltOne) (pc := 65) (ix := 203) (M' := m_X12_at) (As := [.int (iI r), .int (iI mk)]) (rest := [.ref (b + 1 + 1)]) dX12_meltOne_65 ok_X12_at im_X12_at se_X12_at ml12_203 np_X12_at rfl rfl (Nat.le_of_ble_eq_true rfl) (Nat.le_of_ble_eq_true rfl) rfl (c_X12_at (d) (σ := σ) (x := r) (k := mk) ) (fun r2 σ3 hp => ?_)
      obtain ⟨v4, rfl, rfl, f5⟩ := hp
      subst f5
      show Tm _ _ 68 b σ [(10, .int (iI mk)), (9, .int (iI to)), (8, .int (iI out)), (7, .int (iI lb)), (6, .int (iI base)), (5, .int (iI f)), (4, .int (iI (220 * r + k))), (0, .ref b), (1, .int (iI r)), (2, .int (iI k)), (3, .int (iI q))] [.int (iI (220 * r + mk)), .ref (b + 1 + 1)] _
      refine tm_iald (z := 220 * r + mk) (v := σ.2.1 3 (220 * r + mk)) dX12_meltOne_68 (show mT[1]? = some (3, 0, 2860) from rfl) (by omega) (by omega) (by decide) (rfl) ?_
      have g6 := RG.a hR 3 (220 * r + mk)
      refine tm_bipush dX12_meltOne_69 (by decide) ?_
      refine tm_icmp_eq (tgt := 80) dX12_meltOne_71 (by decide) ⟨by omega, by omega⟩ ⟨by decide, by decide⟩ (fun h7 => ?_) (fun h7 => ?_)
      · exact tm_sub [0, 1, 2, 3, 4, 5, 6, 7, 8, 9, 10] rfl (hx_80 (mk) (by
        by_cases e : mk = j0
        · exact e
        · exfalso
          by_cases e2 : mk = k
          · subst e2; omega
          · have := hb5 mk (by omega) (by omega); omega))
      · refine tm_iinc (q0 := 0) (L' := [(10, .int (iI (mk + (-1)))), (9, .int (iI to)), (8, .int (iI out)), (7, .int (iI lb)), (6, .int (iI base)), (5, .int (iI f)), (4, .int (iI (220 * r + k))), (0, .ref b), (1, .int (iI r)), (2, .int (iI k)), (3, .int (iI q))]) dX12_meltOne_74 rfl (by decide) rfl ?_
        refine tm_goto (tgt := 52) dX12_meltOne_77 (by decide) ?_
        exact tm_sub [0, 1, 2, 3, 4, 5, 6, 7, 8, 9, 10] rfl (ih _ (by omega) (mk + (-1)) (by
          refine ⟨?_, by omega⟩
          by_cases e : mk = j0
          · subst e; omega
          · omega) rfl)
theorem dX12_meltOne_99 : decode cX12_meltOne 99 = .ok (.iload 11, 2) := by decide +kernel
theorem dX12_meltOne_101 : decode cX12_meltOne 101 = .ok (.aload_n 0, 1) := by decide +kernel
theorem dX12_meltOne_102 : decode cX12_meltOne 102 = .ok (.getfield 38, 3) := by decide +kernel
theorem dX12_meltOne_105 : decode cX12_meltOne 105 = .ok (.iload_n 3, 1) := by decide +kernel
theorem dX12_meltOne_106 : decode cX12_meltOne 106 = .ok (.iaload, 1) := by decide +kernel
theorem dX12_meltOne_107 : decode cX12_meltOne 107 = .ok (.if_icmp .ge 144, 3) := by decide +kernel
theorem dX12_meltOne_110 : decode cX12_meltOne 110 = .ok (.iload 6, 2) := by decide +kernel
theorem dX12_meltOne_112 : decode cX12_meltOne 112 = .ok (.aload_n 0, 1) := by decide +kernel
theorem dX12_meltOne_113 : decode cX12_meltOne 113 = .ok (.getfield 56, 3) := by decide +kernel
theorem dX12_meltOne_116 : decode cX12_meltOne 116 = .ok (.sipush 144, 3) := by decide +kernel
theorem dX12_meltOne_119 : decode cX12_meltOne 119 = .ok (.iload_n 3, 1) := by decide +kernel
theorem dX12_meltOne_120 : decode cX12_meltOne 120 = .ok (.imul, 1) := by decide +kernel
theorem dX12_meltOne_121 : decode cX12_meltOne 121 = .ok (.iload 11, 2) := by decide +kernel
theorem dX12_meltOne_123 : decode cX12_meltOne 123 = .ok (.iadd, 1) := by decide +kernel
theorem dX12_meltOne_124 : decode cX12_meltOne 124 = .ok (.iaload, 1) := by decide +kernel
theorem dX12_meltOne_125 : decode cX12_meltOne 125 = .ok (.iadd, 1) := by decide +kernel
theorem dX12_meltOne_126 : decode cX12_meltOne 126 = .ok (.istore 12, 2) := by decide +kernel
theorem dX12_meltOne_128 : decode cX12_meltOne 128 = .ok (.iload 11, 2) := by decide +kernel
theorem dX12_meltOne_130 : decode cX12_meltOne 130 = .ok (.aload_n 0, 1) := by decide +kernel
theorem dX12_meltOne_131 : decode cX12_meltOne 131 = .ok (.getfield 35, 3) := by decide +kernel
theorem dX12_meltOne_134 : decode cX12_meltOne 134 = .ok (.iload_n 3, 1) := by decide +kernel
theorem dX12_meltOne_135 : decode cX12_meltOne 135 = .ok (.iaload, 1) := by decide +kernel
theorem dX12_meltOne_136 : decode cX12_meltOne 136 = .ok (.if_icmp .ge 35, 3) := by decide +kernel
theorem dX12_meltOne_171 : decode cX12_meltOne 171 = .ok (.aload_n 0, 1) := by decide +kernel
theorem dX12_meltOne_172 : decode cX12_meltOne 172 = .ok (.bipush 12, 2) := by decide +kernel
theorem dX12_meltOne_174 : decode cX12_meltOne 174 = .ok (.iload 11, 2) := by decide +kernel
theorem dX12_meltOne_176 : decode cX12_meltOne 176 = .ok (.iload 5, 2) := by decide +kernel
theorem dX12_meltOne_178 : decode cX12_meltOne 178 = .ok (.iload 11, 2) := by decide +kernel
theorem dX12_meltOne_180 : decode cX12_meltOne 180 = .ok (.aload_n 0, 1) := by decide +kernel
theorem dX12_meltOne_181 : decode cX12_meltOne 181 = .ok (.getfield 35, 3) := by decide +kernel
theorem dX12_meltOne_184 : decode cX12_meltOne 184 = .ok (.iload_n 3, 1) := by decide +kernel
theorem dX12_meltOne_185 : decode cX12_meltOne 185 = .ok (.iaload, 1) := by decide +kernel
theorem dX12_meltOne_186 : decode cX12_meltOne 186 = .ok (.if_icmp .ge 7, 3) := by decide +kernel
theorem dX12_meltOne_193 : decode cX12_meltOne 193 = .ok (.iconst 1, 1) := by decide +kernel
theorem dX12_meltOne_194 : decode cX12_meltOne 194 = .ok (.iload 11, 2) := by decide +kernel
theorem dX12_meltOne_196 : decode cX12_meltOne 196 = .ok (.aload_n 0, 1) := by decide +kernel
theorem dX12_meltOne_197 : decode cX12_meltOne 197 = .ok (.getfield 35, 3) := by decide +kernel
theorem dX12_meltOne_200 : decode cX12_meltOne 200 = .ok (.iload_n 3, 1) := by decide +kernel
theorem dX12_meltOne_201 : decode cX12_meltOne 201 = .ok (.iaload, 1) := by decide +kernel
theorem dX12_meltOne_202 : decode cX12_meltOne 202 = .ok (.if_icmp .ge 8, 3) := by decide +kernel
theorem dX12_meltOne_210 : decode cX12_meltOne 210 = .ok (.iconst 0, 1) := by decide +kernel
theorem dX12_meltOne_211 : decode cX12_meltOne 211 = .ok (.invokevirtual 515, 3) := by decide +kernel
theorem dX12_meltOne_214 : decode cX12_meltOne 214 = .ok (.aload_n 0, 1) := by decide +kernel
theorem dX12_meltOne_215 : decode cX12_meltOne 215 = .ok (.getfield 23, 3) := by decide +kernel
theorem dX12_meltOne_218 : decode cX12_meltOne 218 = .ok (.sipush 2640, 3) := by decide +kernel
theorem dX12_meltOne_221 : decode cX12_meltOne 221 = .ok (.aload_n 0, 1) := by decide +kernel
theorem dX12_meltOne_222 : decode cX12_meltOne 222 = .ok (.getfield 509, 3) := by decide +kernel
theorem dX12_meltOne_225 : decode cX12_meltOne 225 = .ok (.iadd, 1) := by decide +kernel
theorem dX12_meltOne_226 : decode cX12_meltOne 226 = .ok (.iconst 1, 1) := by decide +kernel
theorem dX12_meltOne_227 : decode cX12_meltOne 227 = .ok (.isub, 1) := by decide +kernel
theorem dX12_meltOne_228 : decode cX12_meltOne 228 = .ok (.iload 11, 2) := by decide +kernel
theorem dX12_meltOne_230 : decode cX12_meltOne 230 = .ok (.aload_n 0, 1) := by decide +kernel
theorem dX12_meltOne_231 : decode cX12_meltOne 231 = .ok (.getfield 35, 3) := by decide +kernel
theorem dX12_meltOne_234 : decode cX12_meltOne 234 = .ok (.iload_n 3, 1) := by decide +kernel
theorem dX12_meltOne_235 : decode cX12_meltOne 235 = .ok (.iaload, 1) := by decide +kernel
theorem dX12_meltOne_236 : decode cX12_meltOne 236 = .ok (.if_icmp .ge 7, 3) := by decide +kernel
theorem dX12_meltOne_243 : decode cX12_meltOne 243 = .ok (.iconst 1, 1) := by decide +kernel
theorem dX12_meltOne_244 : decode cX12_meltOne 244 = .ok (.iastore, 1) := by decide +kernel
theorem dX12_meltOne_245 : decode cX12_meltOne 245 = .ok (.iinc 11 1, 3) := by decide +kernel
theorem dX12_meltOne_248 : decode cX12_meltOne 248 = .ok (.goto (-149), 3) := by decide +kernel
theorem dX12_meltOne_139 : decode cX12_meltOne 139 = .ok (.aload_n 0, 1) := by decide +kernel
theorem dX12_meltOne_140 : decode cX12_meltOne 140 = .ok (.iconst 0, 1) := by decide +kernel
theorem dX12_meltOne_141 : decode cX12_meltOne 141 = .ok (.iload 12, 2) := by decide +kernel
theorem dX12_meltOne_143 : decode cX12_meltOne 143 = .ok (.iconst 0, 1) := by decide +kernel
theorem dX12_meltOne_144 : decode cX12_meltOne 144 = .ok (.aload_n 0, 1) := by decide +kernel
theorem dX12_meltOne_145 : decode cX12_meltOne 145 = .ok (.getfield 26, 3) := by decide +kernel
theorem dX12_meltOne_148 : decode cX12_meltOne 148 = .ok (.iconst 4, 1) := by decide +kernel
theorem dX12_meltOne_149 : decode cX12_meltOne 149 = .ok (.iload 4, 2) := by decide +kernel
theorem dX12_meltOne_151 : decode cX12_meltOne 151 = .ok (.imul, 1) := by decide +kernel
theorem dX12_meltOne_152 : decode cX12_meltOne 152 = .ok (.iload 11, 2) := by decide +kernel
theorem dX12_meltOne_154 : decode cX12_meltOne 154 = .ok (.iadd, 1) := by decide +kernel
theorem dX12_meltOne_155 : decode cX12_meltOne 155 = .ok (.iaload, 1) := by decide +kernel
theorem dX12_meltOne_156 : decode cX12_meltOne 156 = .ok (.aload_n 0, 1) := by decide +kernel
theorem dX12_meltOne_157 : decode cX12_meltOne 157 = .ok (.getfield 29, 3) := by decide +kernel
theorem dX12_meltOne_160 : decode cX12_meltOne 160 = .ok (.iconst 4, 1) := by decide +kernel
theorem dX12_meltOne_161 : decode cX12_meltOne 161 = .ok (.iload 4, 2) := by decide +kernel
theorem dX12_meltOne_163 : decode cX12_meltOne 163 = .ok (.imul, 1) := by decide +kernel
theorem dX12_meltOne_164 : decode cX12_meltOne 164 = .ok (.iload 11, 2) := by decide +kernel
theorem dX12_meltOne_166 : decode cX12_meltOne 166 = .ok (.iadd, 1) := by decide +kernel
theorem dX12_meltOne_167 : decode cX12_meltOne 167 = .ok (.iaload, 1) := by decide +kernel
theorem dX12_meltOne_168 : decode cX12_meltOne 168 = .ok (.invokevirtual 515, 3) := by decide +kernel
theorem dX12_meltOne_189 : decode cX12_meltOne 189 = .ok (.iconst 2, 1) := by decide +kernel
theorem dX12_meltOne_190 : decode cX12_meltOne 190 = .ok (.goto 4, 3) := by decide +kernel
theorem dX12_meltOne_205 : decode cX12_meltOne 205 = .ok (.iload 12, 2) := by decide +kernel
theorem dX12_meltOne_207 : decode cX12_meltOne 207 = .ok (.goto 4, 3) := by decide +kernel
theorem dX12_meltOne_239 : decode cX12_meltOne 239 = .ok (.iconst 2, 1) := by decide +kernel
theorem dX12_meltOne_240 : decode cX12_meltOne 240 = .ok (.goto 4, 3) := by decide +kernel
set_option maxHeartbeats 2000000 in
set_option maxRecDepth 20000 in
theorem l_mo2 (d : Nat) {b : Nat} {σ0 : MS} {r : Int} {k : Int} {q : Int} {f : Int} {base : Int} {lb : Int} {out : Int} {to : Int} {ρ : MS} {FI : Int → Int} {lf : Int → Int} {frq : Int → Int} {lfq : Int → Int} {g0 : Int} {m : Int} {mk : Int} {post : Option Value → MS → Prop} (hmo : MOH ρ r k q f base lb out to g0 m FI lf frq lfq) (hR0 : RG σ0) (hρ : Fr [62] [3, 4, 5, 6, 7, 8] [] ρ σ0) (hx_251 : ∀ (n1 : Int) (σ : MS) , (Fr [62] [3, 4, 5, 6, 7, 8] [] σ0 σ) → (RG σ) → (1 ≤ σ.1 62 ∧ σ.1 62 ≤ 1 + ρ.2.1 12 q + ρ.2.1 11 q) → (MSG ρ σ FI lf q (f + ρ.2.1 14 q) lb out g0 (σ.1 62) 0 (f)) → Tm (d + 3) m_X12_meltOne 251 b σ [(10, .int (iI mk)), (9, .int (iI to)), (8, .int (iI out)), (7, .int (iI lb)), (6, .int (iI base)), (5, .int (iI f)), (4, .int (iI (220 * r + k))), (0, .ref b), (1, .int (iI r)), (2, .int (iI k)), (3, .int (iI q))] [] post) : ∀ (n : Nat) (n1 : Int) (σ : MS) , (Fr [62] [3, 4, 5, 6, 7, 8] [] σ0 σ) → (RG σ) → (0 ≤ n1 ∧ n1 ≤ σ0.2.1 12 q) → ((n1 ≤ σ0.2.1 11 q → σ.1 62 = 1 + 2 * n1) ∧ (σ0.2.1 11 q < n1 → σ.1 62 = 1 + n1 + σ0.2.1 11 q)) → (MSG ρ σ FI lf q (f + ρ.2.1 14 q) lb out g0 (σ.1 62) 0 (f)) → (12 - n1).toNat = n → Tm (d + 3) m_X12_meltOne 99 b σ [(11, .int (iI n1)), (10, .int (iI mk)), (9, .int (iI to)), (8, .int (iI out)), (7, .int (iI lb)), (6, .int (iI base)), (5, .int (iI f)), (4, .int (iI (220 * r + k))), (0, .ref b), (1, .int (iI r)), (2, .int (iI k)), (3, .int (iI q))] [] post := by
  intro n
  induction n using Nat.strongRecOn with
  | _ n ih =>
    intro n1 σ hF hR h0 hc hms hm
    have mn := hmo.n
    have mpa := hmo.2.2.2.2.2.2.2.2.2.1 q (by omega) (by omega)
    have e11 : σ0.2.1 11 q = ρ.2.1 11 q := by rw [hρ.2.1 11 (by decide)]
    have e12 : σ0.2.1 12 q = ρ.2.1 12 q := by rw [hρ.2.1 12 (by decide)]
    have e18 : σ0.2.1 18 (144 * q + n1) = ρ.2.1 18 (144 * q + n1) := by rw [hρ.2.1 18 (by decide)]
    have mna := hmo.2.2.2.2.2.2.2.2.2.2 q (by omega) (by omega)
    refine tm_iload dX12_meltOne_99 0 rfl ?_
    refine tm_aload_n dX12_meltOne_101 rfl 8 rfl ?_
    refine tm_get (k := 12) (v := .ref (b + 1 + 9)) lay_12 dX12_meltOne_102 (by decide) fl12_38 rfl ?_
    refine tm_iload_n dX12_meltOne_105 rfl 11 rfl ?_
    refine tm_iald (z := q) (v := σ0.2.1 12 q) dX12_meltOne_106 (show mT[9]? = some (12, 0, 6) from rfl) (by omega) (by omega) (by decide) (ra_F hF (by decide) (rfl)) ?_
    have g1 := RG.a hR0 12 (q)
    refine tm_icmp_ge (tgt := 251) dX12_meltOne_107 (by decide) ⟨by omega, by omega⟩ ⟨by omega, by omega⟩ (fun h2 => ?_) (fun h2 => ?_)
    · exact tm_sub [1, 2, 3, 4, 5, 6, 7, 8, 9, 10, 11] rfl (hx_251 (0) σ (Fr.rfl.trans (Fr.sub hF (by decide) (by decide) (by decide))) hR (by omega) hms)
    · have hnm := hmo.nm (n := n1) (by omega) (by omega)
      refine tm_iload dX12_meltOne_110 5 rfl ?_
      refine tm_aload_n dX12_meltOne_112 rfl 8 rfl ?_
      refine tm_get (k := 18) (v := .ref (b + 1 + 15)) lay_12 dX12_meltOne_113 (by decide) fl12_56 rfl ?_
      refine tm_sipush dX12_meltOne_116 (by decide) ?_
      refine tm_iload_n dX12_meltOne_119 rfl 11 rfl ?_
      refine tm_imul dX12_meltOne_120 ?_
      refine tm_iload dX12_meltOne_121 0 rfl ?_
      refine tm_iadd dX12_meltOne_123 ?_
      refine tm_iald (z := (144 * q) + n1) (v := σ0.2.1 18 ((144 * q) + n1)) dX12_meltOne_124 (show mT[15]? = some (18, 0, 864) from rfl) (by omega) (by omega) (by decide) (ra_F hF (by decide) (rfl)) ?_
      have g3 := RG.a hR0 18 ((144 * q) + n1)
      refine tm_iadd dX12_meltOne_125 ?_
      refine tm_istore (L' := [(12, .int (iI (base + (σ0.2.1 18 ((144 * q) + n1))))), (11, .int (iI n1)), (10, .int (iI mk)), (9, .int (iI to)), (8, .int (iI out)), (7, .int (iI lb)), (6, .int (iI base)), (5, .int (iI f)), (4, .int (iI (220 * r + k))), (0, .ref b), (1, .int (iI r)), (2, .int (iI k)), (3, .int (iI q))]) dX12_meltOne_126 (by decide) rfl ?_
      refine tm_iload dX12_meltOne_128 1 rfl ?_
      refine tm_aload_n dX12_meltOne_130 rfl 9 rfl ?_
      refine tm_get (k := 11) (v := .ref (b + 1 + 8)) lay_12 dX12_meltOne_131 (by decide) fl12_35 rfl ?_
      refine tm_iload_n dX12_meltOne_134 rfl 12 rfl ?_
      refine tm_iald (z := q) (v := σ0.2.1 11 q) dX12_meltOne_135 (show mT[8]? = some (11, 0, 6) from rfl) (by omega) (by omega) (by decide) (ra_F hF (by decide) (rfl)) ?_
      have g4 := RG.a hR0 11 (q)
      refine tm_icmp_ge (tgt := 171) dX12_meltOne_136 (by decide) ⟨by omega, by omega⟩ ⟨by omega, by omega⟩ (fun h5 => ?_) (fun h5 => ?_)
      · refine tm_aload_n dX12_meltOne_171 rfl 9 rfl ?_
        refine tm_bipush dX12_meltOne_172 (by decide) ?_
        refine tm_iload dX12_meltOne_174 1 rfl ?_
        refine tm_iload dX12_meltOne_176 7 rfl ?_
        refine tm_iload dX12_meltOne_178 1 rfl ?_
        refine tm_aload_n dX12_meltOne_180 rfl 9 rfl ?_
        refine tm_get (k := 11) (v := .ref (b + 1 + 8)) lay_12 dX12_meltOne_181 (by decide) fl12_35 rfl ?_
        refine tm_iload_n dX12_meltOne_184 rfl 12 rfl ?_
        refine tm_iald (z := q) (v := σ0.2.1 11 q) dX12_meltOne_185 (show mT[8]? = some (11, 0, 6) from rfl) (by omega) (by omega) (by decide) (ra_F hF (by decide) (rfl)) ?_
        have g6 := RG.a hR0 11 (q)
        refine tm_icmp_ge (tgt := 193) dX12_meltOne_186 (by decide) ⟨by omega, by omega⟩ ⟨by omega, by omega⟩ (fun h7 => ?_) (fun h7 => ?_)
        · refine tm_iconst dX12_meltOne_193 ?_
          refine tm_iload dX12_meltOne_194 1 rfl ?_
          refine tm_aload_n dX12_meltOne_196 rfl 9 rfl ?_
          refine tm_get (k := 11) (v := .ref (b + 1 + 8)) lay_12 dX12_meltOne_197 (by decide) fl12_35 rfl ?_
          refine tm_iload_n dX12_meltOne_200 rfl 12 rfl ?_
          refine tm_iald (z := q) (v := σ0.2.1 11 q) dX12_meltOne_201 (show mT[8]? = some (11, 0, 6) from rfl) (by omega) (by omega) (by decide) (ra_F hF (by decide) (rfl)) ?_
          have g8 := RG.a hR0 11 (q)
          refine tm_icmp_ge (tgt := 210) dX12_meltOne_202 (by decide) ⟨by omega, by omega⟩ ⟨by omega, by omega⟩ (fun h9 => ?_) (fun h9 => ?_)
          · refine tm_iconst dX12_meltOne_210 ?_
            refine tm_callV (M := m_X12_meltOne) (pc := 211) (ix := 515) (M' := m_X12_add) (As := [.int (iI 12), .int (iI n1), .int (iI f), .int (iI 1), .int (iI 0)]) (rest := []) dX12_meltOne_211 ok_X12_add im_X12_add se_X12_add ml12_515 np_X12_add rfl rfl (Nat.le_of_ble_eq_true rfl) (Nat.le_of_ble_eq_true rfl) rfl (c_X12_add (d) (σ := σ) (k := 12) (e := n1) (o := f) (ak := 1) (a := 0) hR (by omega)) (fun r10 σ11 hp => ?_)
            obtain ⟨rfl, f13⟩ := hp
            subst f13
            show Tm _ _ 214 b (fAdd (12) (n1) (f) (1) (0) σ) [(12, .int (iI (base + (σ0.2.1 18 ((144 * q) + n1))))), (11, .int (iI n1)), (10, .int (iI mk)), (9, .int (iI to)), (8, .int (iI out)), (7, .int (iI lb)), (6, .int (iI base)), (5, .int (iI f)), (4, .int (iI (220 * r + k))), (0, .ref b), (1, .int (iI r)), (2, .int (iI k)), (3, .int (iI q))] [] _
            have n62b : (fAdd (12) (n1) (f) (1) (0) σ).1 62 = σ.1 62 + 1 := fAdd_n
            refine tm_aload_n dX12_meltOne_214 rfl 9 rfl ?_
            refine tm_get (k := 6) (v := .ref (b + 1 + 4)) lay_12 dX12_meltOne_215 (by decide) fl12_23 rfl ?_
            refine tm_sipush dX12_meltOne_218 (by decide) ?_
            refine tm_aload_n dX12_meltOne_221 rfl 9 rfl ?_
            refine tm_getS (k := 62) (t := (fAdd (12) (n1) (f) (1) (0) σ).1 62) dX12_meltOne_222 (by decide) fl12_509 rfl (rfl) ?_
            refine tm_iadd dX12_meltOne_225 ?_
            refine tm_iconst dX12_meltOne_226 ?_
            refine tm_isub dX12_meltOne_227 ?_
            refine tm_iload dX12_meltOne_228 1 rfl ?_
            refine tm_aload_n dX12_meltOne_230 rfl 9 rfl ?_
            refine tm_get (k := 11) (v := .ref (b + 1 + 8)) lay_12 dX12_meltOne_231 (by decide) fl12_35 rfl ?_
            refine tm_iload_n dX12_meltOne_234 rfl 12 rfl ?_
            refine tm_iald (z := q) (v := σ0.2.1 11 q) dX12_meltOne_235 (show mT[8]? = some (11, 0, 6) from rfl) (by omega) (by omega) (by decide) (ra_F fAdd_fr (by decide) (ra_F hF (by decide) (rfl))) ?_
            have g14 := RG.a hR0 11 (q)
            refine tm_icmp_ge (tgt := 243) dX12_meltOne_236 (by decide) ⟨by omega, by omega⟩ ⟨by omega, by omega⟩ (fun h15 => ?_) (fun h15 => ?_)
            · refine tm_iconst dX12_meltOne_243 ?_
              refine tm_iast (z := (2640 + ((fAdd (12) (n1) (f) (1) (0) σ).1 62)) - 1) (v := 1) dX12_meltOne_244 (show mT[4]? = some (6, 0, 2860) from rfl) (by omega) (by omega) (by decide) ?_
              refine tm_iinc (q0 := 1) (L' := [(11, .int (iI (n1 + 1))), (12, .int (iI (base + (σ0.2.1 18 ((144 * q) + n1))))), (10, .int (iI mk)), (9, .int (iI to)), (8, .int (iI out)), (7, .int (iI lb)), (6, .int (iI base)), (5, .int (iI f)), (4, .int (iI (220 * r + k))), (0, .ref b), (1, .int (iI r)), (2, .int (iI k)), (3, .int (iI q))]) dX12_meltOne_245 rfl (by decide) rfl ?_
              refine tm_goto (tgt := 99) dX12_meltOne_248 (by decide) ?_
              exact tm_sub [0, 2, 3, 4, 5, 6, 7, 8, 9, 10, 11, 12] rfl (ih _ (by omega) (n1 + 1) (sA 6 ((2640 + ((fAdd (12) (n1) (f) (1) (0) σ).1 62)) - 1) (1) (fAdd (12) (n1) (f) (1) (0) σ)) (((Fr.rfl.trans (Fr.sub hF (by decide) (by decide) (by decide))).trans (Fr.sub fAdd_fr (by decide) (by decide) (by decide))).A (by decide)) ((hR.add (by omega) (by omega) (by omega) (by omega) (by omega) (by omega)).A (by omega)) (by omega) (by have e : (sA 6 ((2640 + ((fAdd (12) (n1) (f) (1) (0) σ).1 62)) - 1) (1) (fAdd (12) (n1) (f) (1) (0) σ)).1 62 = (fAdd (12) (n1) (f) (1) (0) σ).1 62 := rfl; omega) (msg_bind hms (by omega) (by omega) (by omega) (by omega) (by omega) (by omega)) rfl)
            · exact absurd h15 (by omega)
          · exact absurd h9 (by omega)
        · exact absurd h7 (by omega)
      · have har := hmo.ar (n := n1) (hms.2.2.2.2.2.1 (220 * r + k) (by omega)) (by omega) (by omega)
        refine tm_aload_n dX12_meltOne_139 rfl 9 rfl ?_
        refine tm_iconst dX12_meltOne_140 ?_
        refine tm_iload dX12_meltOne_141 0 rfl ?_
        refine tm_iconst dX12_meltOne_143 ?_
        refine tm_aload_n dX12_meltOne_144 rfl 9 rfl ?_
        refine tm_get (k := 7) (v := .ref (b + 1 + 5)) lay_12 dX12_meltOne_145 (by decide) fl12_26 rfl ?_
        refine tm_iconst dX12_meltOne_148 ?_
        refine tm_iload dX12_meltOne_149 8 rfl ?_
        refine tm_imul dX12_meltOne_151 ?_
        refine tm_iload dX12_meltOne_152 1 rfl ?_
        refine tm_iadd dX12_meltOne_154 ?_
        refine tm_iald (z := (4 * (220 * r + k)) + n1) (v := σ.2.1 7 ((4 * (220 * r + k)) + n1)) dX12_meltOne_155 (show mT[5]? = some (7, 0, 11440) from rfl) (by omega) (by omega) (by decide) (rfl) ?_
        have g16 := RG.a hR 7 ((4 * (220 * r + k)) + n1)
        refine tm_aload_n dX12_meltOne_156 rfl 9 rfl ?_
        refine tm_get (k := 8) (v := .ref (b + 1 + 6)) lay_12 dX12_meltOne_157 (by decide) fl12_29 rfl ?_
        refine tm_iconst dX12_meltOne_160 ?_
        refine tm_iload dX12_meltOne_161 8 rfl ?_
        refine tm_imul dX12_meltOne_163 ?_
        refine tm_iload dX12_meltOne_164 1 rfl ?_
        refine tm_iadd dX12_meltOne_166 ?_
        refine tm_iald (z := (4 * (220 * r + k)) + n1) (v := σ.2.1 8 ((4 * (220 * r + k)) + n1)) dX12_meltOne_167 (show mT[6]? = some (8, 0, 11440) from rfl) (by omega) (by omega) (by decide) (rfl) ?_
        have g17 := RG.a hR 8 ((4 * (220 * r + k)) + n1)
        refine tm_callV (M := m_X12_meltOne) (pc := 168) (ix := 515) (M' := m_X12_add) (As := [.int (iI 0), .int (iI (base + (σ0.2.1 18 ((144 * q) + n1)))), .int (iI 0), .int (iI (σ.2.1 7 ((4 * (220 * r + k)) + n1))), .int (iI (σ.2.1 8 ((4 * (220 * r + k)) + n1)))]) (rest := []) dX12_meltOne_168 ok_X12_add im_X12_add se_X12_add ml12_515 np_X12_add rfl rfl (Nat.le_of_ble_eq_true rfl) (Nat.le_of_ble_eq_true rfl) rfl (c_X12_add (d) (σ := σ) (k := 0) (e := base + (σ0.2.1 18 ((144 * q) + n1))) (o := 0) (ak := σ.2.1 7 ((4 * (220 * r + k)) + n1)) (a := σ.2.1 8 ((4 * (220 * r + k)) + n1)) hR (by omega)) (fun r18 σ19 hp => ?_)
        obtain ⟨rfl, f21⟩ := hp
        subst f21
        show Tm _ _ 171 b (fAdd (0) (base + (σ0.2.1 18 ((144 * q) + n1))) (0) (σ.2.1 7 ((4 * (220 * r + k)) + n1)) (σ.2.1 8 ((4 * (220 * r + k)) + n1)) σ) [(12, .int (iI (base + (σ0.2.1 18 ((144 * q) + n1))))), (11, .int (iI n1)), (10, .int (iI mk)), (9, .int (iI to)), (8, .int (iI out)), (7, .int (iI lb)), (6, .int (iI base)), (5, .int (iI f)), (4, .int (iI (220 * r + k))), (0, .ref b), (1, .int (iI r)), (2, .int (iI k)), (3, .int (iI q))] [] _
        have n62a : (fAdd (0) (base + (σ0.2.1 18 ((144 * q) + n1))) (0) (σ.2.1 7 ((4 * (220 * r + k)) + n1)) (σ.2.1 8 ((4 * (220 * r + k)) + n1)) σ).1 62 = σ.1 62 + 1 := fAdd_n
        refine tm_aload_n dX12_meltOne_171 rfl 9 rfl ?_
        refine tm_bipush dX12_meltOne_172 (by decide) ?_
        refine tm_iload dX12_meltOne_174 1 rfl ?_
        refine tm_iload dX12_meltOne_176 7 rfl ?_
        refine tm_iload dX12_meltOne_178 1 rfl ?_
        refine tm_aload_n dX12_meltOne_180 rfl 9 rfl ?_
        refine tm_get (k := 11) (v := .ref (b + 1 + 8)) lay_12 dX12_meltOne_181 (by decide) fl12_35 rfl ?_
        refine tm_iload_n dX12_meltOne_184 rfl 12 rfl ?_
        refine tm_iald (z := q) (v := σ0.2.1 11 q) dX12_meltOne_185 (show mT[8]? = some (11, 0, 6) from rfl) (by omega) (by omega) (by decide) (ra_F fAdd_fr (by decide) (ra_F hF (by decide) (rfl))) ?_
        have g22 := RG.a hR0 11 (q)
        refine tm_icmp_ge (tgt := 193) dX12_meltOne_186 (by decide) ⟨by omega, by omega⟩ ⟨by omega, by omega⟩ (fun h23 => ?_) (fun h23 => ?_)
        · exact absurd h23 (by omega)
        · refine tm_iconst dX12_meltOne_189 ?_
          refine tm_goto (tgt := 194) dX12_meltOne_190 (by decide) ?_
          refine tm_iload dX12_meltOne_194 1 rfl ?_
          refine tm_aload_n dX12_meltOne_196 rfl 9 rfl ?_
          refine tm_get (k := 11) (v := .ref (b + 1 + 8)) lay_12 dX12_meltOne_197 (by decide) fl12_35 rfl ?_
          refine tm_iload_n dX12_meltOne_200 rfl 12 rfl ?_
          refine tm_iald (z := q) (v := σ0.2.1 11 q) dX12_meltOne_201 (show mT[8]? = some (11, 0, 6) from rfl) (by omega) (by omega) (by decide) (ra_F fAdd_fr (by decide) (ra_F hF (by decide) (rfl))) ?_
          have g24 := RG.a hR0 11 (q)
          refine tm_icmp_ge (tgt := 210) dX12_meltOne_202 (by decide) ⟨by omega, by omega⟩ ⟨by omega, by omega⟩ (fun h25 => ?_) (fun h25 => ?_)
          · exact absurd h25 (by omega)
          · refine tm_iload dX12_meltOne_205 0 rfl ?_
            refine tm_goto (tgt := 211) dX12_meltOne_207 (by decide) ?_
            refine tm_callV (M := m_X12_meltOne) (pc := 211) (ix := 515) (M' := m_X12_add) (As := [.int (iI 12), .int (iI n1), .int (iI f), .int (iI 2), .int (iI (base + (σ0.2.1 18 ((144 * q) + n1))))]) (rest := []) dX12_meltOne_211 ok_X12_add im_X12_add se_X12_add ml12_515 np_X12_add rfl rfl (Nat.le_of_ble_eq_true rfl) (Nat.le_of_ble_eq_true rfl) rfl (c_X12_add (d) (σ := (fAdd (0) (base + (σ0.2.1 18 ((144 * q) + n1))) (0) (σ.2.1 7 ((4 * (220 * r + k)) + n1)) (σ.2.1 8 ((4 * (220 * r + k)) + n1)) σ)) (k := 12) (e := n1) (o := f) (ak := 2) (a := base + (σ0.2.1 18 ((144 * q) + n1))) (hR.add (by omega) (by omega) (by omega) (by omega) (by omega) (by omega)) (by omega)) (fun r26 σ27 hp => ?_)
            obtain ⟨rfl, f29⟩ := hp
            subst f29
            show Tm _ _ 214 b (fAdd (12) (n1) (f) (2) (base + (σ0.2.1 18 ((144 * q) + n1))) (fAdd (0) (base + (σ0.2.1 18 ((144 * q) + n1))) (0) (σ.2.1 7 ((4 * (220 * r + k)) + n1)) (σ.2.1 8 ((4 * (220 * r + k)) + n1)) σ)) [(12, .int (iI (base + (σ0.2.1 18 ((144 * q) + n1))))), (11, .int (iI n1)), (10, .int (iI mk)), (9, .int (iI to)), (8, .int (iI out)), (7, .int (iI lb)), (6, .int (iI base)), (5, .int (iI f)), (4, .int (iI (220 * r + k))), (0, .ref b), (1, .int (iI r)), (2, .int (iI k)), (3, .int (iI q))] [] _
            have n62b : (fAdd (12) (n1) (f) (2) (base + (σ0.2.1 18 ((144 * q) + n1))) (fAdd (0) (base + (σ0.2.1 18 ((144 * q) + n1))) (0) (σ.2.1 7 ((4 * (220 * r + k)) + n1)) (σ.2.1 8 ((4 * (220 * r + k)) + n1)) σ)).1 62 = (fAdd (0) (base + (σ0.2.1 18 ((144 * q) + n1))) (0) (σ.2.1 7 ((4 * (220 * r + k)) + n1)) (σ.2.1 8 ((4 * (220 * r + k)) + n1)) σ).1 62 + 1 := fAdd_n
            refine tm_aload_n dX12_meltOne_214 rfl 9 rfl ?_
            refine tm_get (k := 6) (v := .ref (b + 1 + 4)) lay_12 dX12_meltOne_215 (by decide) fl12_23 rfl ?_
            refine tm_sipush dX12_meltOne_218 (by decide) ?_
            refine tm_aload_n dX12_meltOne_221 rfl 9 rfl ?_
            refine tm_getS (k := 62) (t := (fAdd (12) (n1) (f) (2) (base + (σ0.2.1 18 ((144 * q) + n1))) (fAdd (0) (base + (σ0.2.1 18 ((144 * q) + n1))) (0) (σ.2.1 7 ((4 * (220 * r + k)) + n1)) (σ.2.1 8 ((4 * (220 * r + k)) + n1)) σ)).1 62) dX12_meltOne_222 (by decide) fl12_509 rfl (rfl) ?_
            refine tm_iadd dX12_meltOne_225 ?_
            refine tm_iconst dX12_meltOne_226 ?_
            refine tm_isub dX12_meltOne_227 ?_
            refine tm_iload dX12_meltOne_228 1 rfl ?_
            refine tm_aload_n dX12_meltOne_230 rfl 9 rfl ?_
            refine tm_get (k := 11) (v := .ref (b + 1 + 8)) lay_12 dX12_meltOne_231 (by decide) fl12_35 rfl ?_
            refine tm_iload_n dX12_meltOne_234 rfl 12 rfl ?_
            refine tm_iald (z := q) (v := σ0.2.1 11 q) dX12_meltOne_235 (show mT[8]? = some (11, 0, 6) from rfl) (by omega) (by omega) (by decide) (ra_F fAdd_fr (by decide) (ra_F fAdd_fr (by decide) (ra_F hF (by decide) (rfl)))) ?_
            have g30 := RG.a hR0 11 (q)
            refine tm_icmp_ge (tgt := 243) dX12_meltOne_236 (by decide) ⟨by omega, by omega⟩ ⟨by omega, by omega⟩ (fun h31 => ?_) (fun h31 => ?_)
            · exact absurd h31 (by omega)
            · refine tm_iconst dX12_meltOne_239 ?_
              refine tm_goto (tgt := 244) dX12_meltOne_240 (by decide) ?_
              refine tm_iast (z := (2640 + ((fAdd (12) (n1) (f) (2) (base + (σ0.2.1 18 ((144 * q) + n1))) (fAdd (0) (base + (σ0.2.1 18 ((144 * q) + n1))) (0) (σ.2.1 7 ((4 * (220 * r + k)) + n1)) (σ.2.1 8 ((4 * (220 * r + k)) + n1)) σ)).1 62)) - 1) (v := 2) dX12_meltOne_244 (show mT[4]? = some (6, 0, 2860) from rfl) (by omega) (by omega) (by decide) ?_
              refine tm_iinc (q0 := 1) (L' := [(11, .int (iI (n1 + 1))), (12, .int (iI (base + (σ0.2.1 18 ((144 * q) + n1))))), (10, .int (iI mk)), (9, .int (iI to)), (8, .int (iI out)), (7, .int (iI lb)), (6, .int (iI base)), (5, .int (iI f)), (4, .int (iI (220 * r + k))), (0, .ref b), (1, .int (iI r)), (2, .int (iI k)), (3, .int (iI q))]) dX12_meltOne_245 rfl (by decide) rfl ?_
              refine tm_goto (tgt := 99) dX12_meltOne_248 (by decide) ?_
              exact tm_sub [0, 2, 3, 4, 5, 6, 7, 8, 9, 10, 11, 12] rfl (ih _ (by omega) (n1 + 1) (sA 6 ((2640 + ((fAdd (12) (n1) (f) (2) (base + (σ0.2.1 18 ((144 * q) + n1))) (fAdd (0) (base + (σ0.2.1 18 ((144 * q) + n1))) (0) (σ.2.1 7 ((4 * (220 * r + k)) + n1)) (σ.2.1 8 ((4 * (220 * r + k)) + n1)) σ)).1 62)) - 1) (2) (fAdd (12) (n1) (f) (2) (base + (σ0.2.1 18 ((144 * q) + n1))) (fAdd (0) (base + (σ0.2.1 18 ((144 * q) + n1))) (0) (σ.2.1 7 ((4 * (220 * r + k)) + n1)) (σ.2.1 8 ((4 * (220 * r + k)) + n1)) σ))) ((((Fr.rfl.trans (Fr.sub hF (by decide) (by decide) (by decide))).trans (Fr.sub fAdd_fr (by decide) (by decide) (by decide))).trans (Fr.sub fAdd_fr (by decide) (by decide) (by decide))).A (by decide)) (((hR.add (by omega) (by omega) (by omega) (by omega) (by omega) (by omega)).add (by omega) (by omega) (by omega) (by omega) (by omega) (by omega)).A (by omega)) (by omega) (by have e : (sA 6 ((2640 + ((fAdd (12) (n1) (f) (2) (base + (σ0.2.1 18 ((144 * q) + n1))) (fAdd (0) (base + (σ0.2.1 18 ((144 * q) + n1))) (0) (σ.2.1 7 ((4 * (220 * r + k)) + n1)) (σ.2.1 8 ((4 * (220 * r + k)) + n1)) σ)).1 62)) - 1) (2) (fAdd (12) (n1) (f) (2) (base + (σ0.2.1 18 ((144 * q) + n1))) (fAdd (0) (base + (σ0.2.1 18 ((144 * q) + n1))) (0) (σ.2.1 7 ((4 * (220 * r + k)) + n1)) (σ.2.1 8 ((4 * (220 * r + k)) + n1)) σ))).1 62 = (fAdd (12) (n1) (f) (2) (base + (σ0.2.1 18 ((144 * q) + n1))) (fAdd (0) (base + (σ0.2.1 18 ((144 * q) + n1))) (0) (σ.2.1 7 ((4 * (220 * r + k)) + n1)) (σ.2.1 8 ((4 * (220 * r + k)) + n1)) σ)).1 62 := rfl; omega) (msg_bind (msg_copy hms (by omega) (by omega) (by omega) (by omega)) (by omega) (by omega) (by omega) (by omega) (by omega) (by omega)) rfl)
theorem dX12_meltOne_254 : decode cX12_meltOne 254 = .ok (.iload 11, 2) := by decide +kernel
theorem dX12_meltOne_256 : decode cX12_meltOne 256 = .ok (.sipush 192, 3) := by decide +kernel
theorem dX12_meltOne_259 : decode cX12_meltOne 259 = .ok (.if_icmp .ge 42, 3) := by decide +kernel
theorem dX12_meltOne_262 : decode cX12_meltOne 262 = .ok (.aload_n 0, 1) := by decide +kernel
theorem dX12_meltOne_263 : decode cX12_meltOne 263 = .ok (.getfield 130, 3) := by decide +kernel
theorem dX12_meltOne_266 : decode cX12_meltOne 266 = .ok (.iload 11, 2) := by decide +kernel
theorem dX12_meltOne_268 : decode cX12_meltOne 268 = .ok (.baload, 1) := by decide +kernel
theorem dX12_meltOne_269 : decode cX12_meltOne 269 = .ok (.ifCond .eq 26, 3) := by decide +kernel
theorem dX12_meltOne_295 : decode cX12_meltOne 295 = .ok (.iinc 11 1, 3) := by decide +kernel
theorem dX12_meltOne_298 : decode cX12_meltOne 298 = .ok (.goto (-44), 3) := by decide +kernel
theorem dX12_meltOne_272 : decode cX12_meltOne 272 = .ok (.aload_n 0, 1) := by decide +kernel
theorem dX12_meltOne_273 : decode cX12_meltOne 273 = .ok (.iload_n 3, 1) := by decide +kernel
theorem dX12_meltOne_274 : decode cX12_meltOne 274 = .ok (.iload 11, 2) := by decide +kernel
theorem dX12_meltOne_276 : decode cX12_meltOne 276 = .ok (.invokevirtual 503, 3) := by decide +kernel
theorem dX12_meltOne_279 : decode cX12_meltOne 279 = .ok (.ifCond .ne 16, 3) := by decide +kernel
theorem dX12_meltOne_282 : decode cX12_meltOne 282 = .ok (.aload_n 0, 1) := by decide +kernel
theorem dX12_meltOne_283 : decode cX12_meltOne 283 = .ok (.iconst 0, 1) := by decide +kernel
theorem dX12_meltOne_284 : decode cX12_meltOne 284 = .ok (.iload 6, 2) := by decide +kernel
theorem dX12_meltOne_286 : decode cX12_meltOne 286 = .ok (.iload 11, 2) := by decide +kernel
theorem dX12_meltOne_288 : decode cX12_meltOne 288 = .ok (.iadd, 1) := by decide +kernel
theorem dX12_meltOne_289 : decode cX12_meltOne 289 = .ok (.iconst 0, 1) := by decide +kernel
theorem dX12_meltOne_290 : decode cX12_meltOne 290 = .ok (.iconst 1, 1) := by decide +kernel
theorem dX12_meltOne_291 : decode cX12_meltOne 291 = .ok (.iconst 0, 1) := by decide +kernel
theorem dX12_meltOne_292 : decode cX12_meltOne 292 = .ok (.invokevirtual 515, 3) := by decide +kernel
set_option maxHeartbeats 2000000 in
set_option maxRecDepth 20000 in
theorem l_mo3 (d : Nat) {b : Nat} {σ0 : MS} {r : Int} {k : Int} {q : Int} {f : Int} {base : Int} {lb : Int} {out : Int} {to : Int} {ρ : MS} {FI : Int → Int} {lf : Int → Int} {frq : Int → Int} {lfq : Int → Int} {g0 : Int} {m : Int} {mk : Int} {A1 : Int} {post : Option Value → MS → Prop} (hmo : MOH ρ r k q f base lb out to g0 m FI lf frq lfq) (hR0 : RG σ0) (hρ : Fr [62] [3, 4, 5, 6, 7, 8] [] ρ σ0) (hbl : BO 59 ρ) (hlv : ∀ g, 0 ≤ g → g < 192 → ρ.2.1 59 g = 1 → g < m) (hA : 1 ≤ A1 ∧ A1 + cnt (lcf ρ q) 192 ≤ 217) (hx_301 : ∀ (g : Int) (σ : MS) , (Fr [62] [3, 4, 5, 6, 7, 8] [] σ0 σ) → (RG σ) → (σ.1 62 = A1 + cnt (lcf ρ q) 192) → (MSG ρ σ FI lf q (f + ρ.2.1 14 q) lb out g0 (σ.1 62) 0 (f)) → Tm (d + 3) m_X12_meltOne 301 b σ [(10, .int (iI mk)), (9, .int (iI to)), (8, .int (iI out)), (7, .int (iI lb)), (6, .int (iI base)), (5, .int (iI f)), (4, .int (iI (220 * r + k))), (0, .ref b), (1, .int (iI r)), (2, .int (iI k)), (3, .int (iI q))] [] post) : ∀ (n : Nat) (g : Int) (σ : MS) , (Fr [62] [3, 4, 5, 6, 7, 8] [] σ0 σ) → (RG σ) → (0 ≤ g ∧ g ≤ 192) → (σ.1 62 = A1 + cnt (lcf ρ q) g.toNat) → (MSG ρ σ FI lf q (f + ρ.2.1 14 q) lb out g0 (σ.1 62) 0 (f)) → (192 - g).toNat = n → Tm (d + 3) m_X12_meltOne 254 b σ [(11, .int (iI g)), (10, .int (iI mk)), (9, .int (iI to)), (8, .int (iI out)), (7, .int (iI lb)), (6, .int (iI base)), (5, .int (iI f)), (4, .int (iI (220 * r + k))), (0, .ref b), (1, .int (iI r)), (2, .int (iI k)), (3, .int (iI q))] [] post := by
  intro n
  induction n using Nat.strongRecOn with
  | _ n ih =>
    intro g σ hF hR h0 hc hms hm
    have mn := hmo.n
    have mpa := hmo.2.2.2.2.2.2.2.2.2.1 q (by omega) (by omega)
    have e59 : σ0.2.1 59 g = ρ.2.1 59 g := by rw [hρ.2.1 59 (by decide)]
    have hb59 := hbl g
    have hup := cnt_up (lcf_0 ρ q) (show g.toNat ≤ 192 by omega)
    have hc0 := cnt_up (lcf_0 ρ q) (show 0 ≤ g.toNat by omega)
    have hcz : cnt (lcf ρ q) 0 = 0 := rfl
    have hr1 : Fr [62] [3, 4, 5, 6, 7, 8] [] ρ σ := hρ.trans hF
    refine tm_iload dX12_meltOne_254 0 rfl ?_
    refine tm_sipush dX12_meltOne_256 (by decide) ?_
    refine tm_icmp_ge (tgt := 301) dX12_meltOne_259 (by decide) ⟨by omega, by omega⟩ ⟨by decide, by decide⟩ (fun h1 => ?_) (fun h1 => ?_)
    · exact tm_sub [1, 2, 3, 4, 5, 6, 7, 8, 9, 10, 11] rfl (hx_301 (0) σ (Fr.rfl.trans (Fr.sub hF (by decide) (by decide) (by decide))) hR (by rw [show g.toNat = 192 by omega] at hc; exact hc) hms)
    · refine tm_aload_n dX12_meltOne_262 rfl 8 rfl ?_
      refine tm_get (k := 59) (v := .ref (b + 1 + 37)) lay_12 dX12_meltOne_263 (by decide) fl12_130 rfl ?_
      refine tm_iload dX12_meltOne_266 0 rfl ?_
      refine tm_zald (z := g) (v := σ0.2.1 59 g) dX12_meltOne_268 (show mT[37]? = some (59, 2, 42432) from rfl) (by omega) (by omega) (by decide) (ra_F hF (by decide) (rfl)) ?_
      have g2 := RG.a hR0 59 (g)
      refine tm_if_eq (tgt := 295) dX12_meltOne_269 (by decide) ⟨by omega, by omega⟩ (fun h3 => ?_) (fun h3 => ?_)
      · refine tm_iinc (q0 := 0) (L' := [(11, .int (iI (g + 1))), (10, .int (iI mk)), (9, .int (iI to)), (8, .int (iI out)), (7, .int (iI lb)), (6, .int (iI base)), (5, .int (iI f)), (4, .int (iI (220 * r + k))), (0, .ref b), (1, .int (iI r)), (2, .int (iI k)), (3, .int (iI q))]) dX12_meltOne_295 rfl (by decide) rfl ?_
        refine tm_goto (tgt := 254) dX12_meltOne_298 (by decide) ?_
        exact tm_sub [0, 1, 2, 3, 4, 5, 6, 7, 8, 9, 10, 11] rfl (ih _ (by omega) (g + 1) σ (Fr.rfl.trans (Fr.sub hF (by decide) (by decide) (by decide))) hR (by omega) (by rw [cnt_s (by omega), show lcf ρ q g = 0 from by first | exact lcf_n (by omega) | exact lcf_p (by omega) (hP.mp (by omega))]; omega) hms rfl)
      · refine tm_aload_n dX12_meltOne_272 rfl 8 rfl ?_
        refine tm_iload_n dX12_meltOne_273 rfl 11 rfl ?_
        refine tm_iload dX12_meltOne_274 0 rfl ?_
        refine tm_callV (M := m_X12_meltOne) (pc := 276) (ix := 503) (M' := m_X12_isParam) (As := [.int (iI q), .int (iI g)]) (rest := []) dX12_meltOne_276 ok_X12_isParam im_X12_isParam se_X12_isParam ml12_503 np_X12_isParam rfl rfl (Nat.le_of_ble_eq_true rfl) (Nat.le_of_ble_eq_true rfl) rfl (c_X12_isParam (d + 1) (σ := σ) (r := q) (g := g) (by omega) hR (PAR.fr hmo.2.2.2.2.2.2.2.2.2.1 hr1 (by decide)) (by omega)) (fun r4 σ5 hp => ?_)
        obtain ⟨v6, rfl, rfl, f7, f8⟩ := hp
        show Tm _ _ 279 b σ [(11, .int (iI g)), (10, .int (iI mk)), (9, .int (iI to)), (8, .int (iI out)), (7, .int (iI lb)), (6, .int (iI base)), (5, .int (iI f)), (4, .int (iI (220 * r + k))), (0, .ref b), (1, .int (iI r)), (2, .int (iI k)), (3, .int (iI q))] [.int (iI v6)] _
        have hP : v6 = 1 ↔ PMQ ρ q g := by
          have h := f8
          rw [hr1.2.1 11 (by decide), hr1.2.1 18 (by decide)] at h
          exact h
        clear f8
        refine tm_if_ne (tgt := 295) dX12_meltOne_279 (by decide) ⟨by omega, by omega⟩ (fun h9 => ?_) (fun h9 => ?_)
        · refine tm_iinc (q0 := 0) (L' := [(11, .int (iI (g + 1))), (10, .int (iI mk)), (9, .int (iI to)), (8, .int (iI out)), (7, .int (iI lb)), (6, .int (iI base)), (5, .int (iI f)), (4, .int (iI (220 * r + k))), (0, .ref b), (1, .int (iI r)), (2, .int (iI k)), (3, .int (iI q))]) dX12_meltOne_295 rfl (by decide) rfl ?_
          refine tm_goto (tgt := 254) dX12_meltOne_298 (by decide) ?_
          exact tm_sub [0, 1, 2, 3, 4, 5, 6, 7, 8, 9, 10, 11] rfl (ih _ (by omega) (g + 1) σ (Fr.rfl.trans (Fr.sub hF (by decide) (by decide) (by decide))) hR (by omega) (by rw [cnt_s (by omega), show lcf ρ q g = 0 from by first | exact lcf_n (by omega) | exact lcf_p (by omega) (hP.mp (by omega))]; omega) hms rfl)
        · have hgm := hlv g (by omega) (by omega) (by omega)
          refine tm_aload_n dX12_meltOne_282 rfl 8 rfl ?_
          refine tm_iconst dX12_meltOne_283 ?_
          refine tm_iload dX12_meltOne_284 5 rfl ?_
          refine tm_iload dX12_meltOne_286 0 rfl ?_
          refine tm_iadd dX12_meltOne_288 ?_
          refine tm_iconst dX12_meltOne_289 ?_
          refine tm_iconst dX12_meltOne_290 ?_
          refine tm_iconst dX12_meltOne_291 ?_
          refine tm_callV (M := m_X12_meltOne) (pc := 292) (ix := 515) (M' := m_X12_add) (As := [.int (iI 0), .int (iI (base + g)), .int (iI 0), .int (iI 1), .int (iI 0)]) (rest := []) dX12_meltOne_292 ok_X12_add im_X12_add se_X12_add ml12_515 np_X12_add rfl rfl (Nat.le_of_ble_eq_true rfl) (Nat.le_of_ble_eq_true rfl) rfl (c_X12_add (d) (σ := σ) (k := 0) (e := base + g) (o := 0) (ak := 1) (a := 0) hR (by omega)) (fun r10 σ11 hp => ?_)
          obtain ⟨rfl, f13⟩ := hp
          subst f13
          show Tm _ _ 295 b (fAdd (0) (base + g) (0) (1) (0) σ) [(11, .int (iI g)), (10, .int (iI mk)), (9, .int (iI to)), (8, .int (iI out)), (7, .int (iI lb)), (6, .int (iI base)), (5, .int (iI f)), (4, .int (iI (220 * r + k))), (0, .ref b), (1, .int (iI r)), (2, .int (iI k)), (3, .int (iI q))] [] _
          have n62a : (fAdd (0) (base + g) (0) (1) (0) σ).1 62 = σ.1 62 + 1 := fAdd_n
          refine tm_iinc (q0 := 0) (L' := [(11, .int (iI (g + 1))), (10, .int (iI mk)), (9, .int (iI to)), (8, .int (iI out)), (7, .int (iI lb)), (6, .int (iI base)), (5, .int (iI f)), (4, .int (iI (220 * r + k))), (0, .ref b), (1, .int (iI r)), (2, .int (iI k)), (3, .int (iI q))]) dX12_meltOne_295 rfl (by decide) rfl ?_
          refine tm_goto (tgt := 254) dX12_meltOne_298 (by decide) ?_
          exact tm_sub [0, 1, 2, 3, 4, 5, 6, 7, 8, 9, 10, 11] rfl (ih _ (by omega) (g + 1) (fAdd (0) (base + g) (0) (1) (0) σ) ((Fr.rfl.trans (Fr.sub hF (by decide) (by decide) (by decide))).trans (Fr.sub fAdd_fr (by decide) (by decide) (by decide))) (hR.add (by omega) (by omega) (by omega) (by omega) (by omega) (by omega)) (by omega) (by rw [cnt_s (by omega), lcf_y (by omega) (fun w => absurd (hP.mpr w) (by omega))]; omega) (msg_copy hms (by omega) (by omega) (by omega) (by omega)) rfl)
theorem ml12_518 : Cond.methodLink RX12 518 yX12_meltItem ∈ pWW := pw9 (List.mem_of_getElem? (i := 205) rfl) rfl
theorem dX12_meltOne_304 : decode cX12_meltOne 304 = .ok (.iload 11, 2) := by decide +kernel
theorem dX12_meltOne_306 : decode cX12_meltOne 306 = .ok (.aload_n 0, 1) := by decide +kernel
theorem dX12_meltOne_307 : decode cX12_meltOne 307 = .ok (.getfield 32, 3) := by decide +kernel
theorem dX12_meltOne_310 : decode cX12_meltOne 310 = .ok (.iload_n 3, 1) := by decide +kernel
theorem dX12_meltOne_311 : decode cX12_meltOne 311 = .ok (.iaload, 1) := by decide +kernel
theorem dX12_meltOne_312 : decode cX12_meltOne 312 = .ok (.if_icmp .ge 30, 3) := by decide +kernel
theorem dX12_meltOne_315 : decode cX12_meltOne 315 = .ok (.aload_n 0, 1) := by decide +kernel
theorem dX12_meltOne_316 : decode cX12_meltOne 316 = .ok (.aload_n 0, 1) := by decide +kernel
theorem dX12_meltOne_317 : decode cX12_meltOne 317 = .ok (.iload_n 3, 1) := by decide +kernel
theorem dX12_meltOne_318 : decode cX12_meltOne 318 = .ok (.iload 11, 2) := by decide +kernel
theorem dX12_meltOne_320 : decode cX12_meltOne 320 = .ok (.invokevirtual 203, 3) := by decide +kernel
theorem dX12_meltOne_323 : decode cX12_meltOne 323 = .ok (.iload 5, 2) := by decide +kernel
theorem dX12_meltOne_325 : decode cX12_meltOne 325 = .ok (.iload 6, 2) := by decide +kernel
theorem dX12_meltOne_327 : decode cX12_meltOne 327 = .ok (.iload 7, 2) := by decide +kernel
theorem dX12_meltOne_329 : decode cX12_meltOne 329 = .ok (.iload 9, 2) := by decide +kernel
theorem dX12_meltOne_331 : decode cX12_meltOne 331 = .ok (.iload 8, 2) := by decide +kernel
theorem dX12_meltOne_333 : decode cX12_meltOne 333 = .ok (.invokevirtual 518, 3) := by decide +kernel
theorem dX12_meltOne_336 : decode cX12_meltOne 336 = .ok (.iinc 11 1, 3) := by decide +kernel
theorem dX12_meltOne_339 : decode cX12_meltOne 339 = .ok (.goto (-35), 3) := by decide +kernel
set_option maxHeartbeats 2000000 in
set_option maxRecDepth 20000 in
theorem l_mo4 (d : Nat) {b : Nat} {σ0 : MS} {r : Int} {k : Int} {q : Int} {f : Int} {base : Int} {lb : Int} {out : Int} {to : Int} {ρ : MS} {FI : Int → Int} {lf : Int → Int} {frq : Int → Int} {lfq : Int → Int} {g0 : Int} {m : Int} {mk : Int} {A2 : Int} {post : Option Value → MS → Prop} (hmo : MOH ρ r k q f base lb out to g0 m FI lf frq lfq) (hR0 : RG σ0) (hρ : Fr [62] [3, 4, 5, 6, 7, 8] [] ρ σ0) (hA : 1 ≤ A2 ∧ A2 + ρ.2.1 9 q + cnt (rcf ρ q) (ρ.2.1 9 q).toNat ≤ 217) (hx_342 : ∀ (i : Int) (σ : MS) , (Fr [62] [3, 4, 5, 6, 7, 8] [] σ0 σ) → (RG σ) → (σ.1 62 = A2 + ρ.2.1 9 q + cnt (rcf ρ q) (ρ.2.1 9 q).toNat) → (MSG ρ σ FI lf q (f + ρ.2.1 14 q) lb out g0 (σ.1 62) (ρ.2.1 9 q) (Gq ρ q f frq (ρ.2.1 9 q))) → Tm (d + 4) m_X12_meltOne 342 b σ [(10, .int (iI mk)), (9, .int (iI to)), (8, .int (iI out)), (7, .int (iI lb)), (6, .int (iI base)), (5, .int (iI f)), (4, .int (iI (220 * r + k))), (0, .ref b), (1, .int (iI r)), (2, .int (iI k)), (3, .int (iI q))] [] post) : ∀ (n : Nat) (i : Int) (σ : MS) , (Fr [62] [3, 4, 5, 6, 7, 8] [] σ0 σ) → (RG σ) → (0 ≤ i ∧ i ≤ ρ.2.1 9 q) → (σ.1 62 = A2 + i + cnt (rcf ρ q) i.toNat) → (MSG ρ σ FI lf q (f + ρ.2.1 14 q) lb out g0 (σ.1 62) i (Gq ρ q f frq i)) → (220 - i).toNat = n → Tm (d + 4) m_X12_meltOne 304 b σ [(11, .int (iI i)), (10, .int (iI mk)), (9, .int (iI to)), (8, .int (iI out)), (7, .int (iI lb)), (6, .int (iI base)), (5, .int (iI f)), (4, .int (iI (220 * r + k))), (0, .ref b), (1, .int (iI r)), (2, .int (iI k)), (3, .int (iI q))] [] post := by
  intro n
  induction n using Nat.strongRecOn with
  | _ n ih =>
    intro i σ hF hR h0 hc hms hm
    have mn := hmo.n
    have e9 : σ0.2.1 9 q = ρ.2.1 9 q := by rw [hρ.2.1 9 (by decide)]
    have hup := cnt_up (rcf_0 ρ q) (show i.toNat ≤ (ρ.2.1 9 q).toNat by omega)
    have hc0 := cnt_up (rcf_0 ρ q) (show 0 ≤ i.toNat by omega)
    have hcz : cnt (rcf ρ q) 0 = 0 := rfl
    refine tm_iload dX12_meltOne_304 0 rfl ?_
    refine tm_aload_n dX12_meltOne_306 rfl 8 rfl ?_
    refine tm_get (k := 9) (v := .ref (b + 1 + 7)) lay_12 dX12_meltOne_307 (by decide) fl12_32 rfl ?_
    refine tm_iload_n dX12_meltOne_310 rfl 11 rfl ?_
    refine tm_iald (z := q) (v := σ0.2.1 9 q) dX12_meltOne_311 (show mT[7]? = some (9, 0, 13) from rfl) (by omega) (by omega) (by decide) (ra_F hF (by decide) (rfl)) ?_
    have g1 := RG.a hR0 9 (q)
    refine tm_icmp_ge (tgt := 342) dX12_meltOne_312 (by decide) ⟨by omega, by omega⟩ ⟨by omega, by omega⟩ (fun h2 => ?_) (fun h2 => ?_)
    · exact tm_sub [1, 2, 3, 4, 5, 6, 7, 8, 9, 10, 11] rfl (hx_342 (0) σ (Fr.rfl.trans (Fr.sub hF (by decide) (by decide) (by decide))) hR (by rw [show i = ρ.2.1 9 q by omega] at hc; exact hc) (by rw [show i = ρ.2.1 9 q by omega] at hms; exact hms))
    · refine tm_aload_n dX12_meltOne_315 rfl 8 rfl ?_
      refine tm_aload_n dX12_meltOne_316 rfl 8 rfl ?_
      refine tm_iload_n dX12_meltOne_317 rfl 11 rfl ?_
      refine tm_iload dX12_meltOne_318 0 rfl ?_
      refine tm_callV (M := m_X12_meltOne) (pc := 320) (ix := 203) (M' := m_X12_at) (As := [.int (iI q), .int (iI i)]) (rest := [.ref b]) dX12_meltOne_320 ok_X12_at im_X12_at se_X12_at ml12_203 np_X12_at rfl rfl (Nat.le_of_ble_eq_true rfl) (Nat.le_of_ble_eq_true rfl) rfl (c_X12_at (d + 2) (σ := σ) (x := q) (k := i) ) (fun r3 σ4 hp => ?_)
      obtain ⟨v5, rfl, rfl, f6⟩ := hp
      subst f6
      show Tm _ _ 323 b σ [(11, .int (iI i)), (10, .int (iI mk)), (9, .int (iI to)), (8, .int (iI out)), (7, .int (iI lb)), (6, .int (iI base)), (5, .int (iI f)), (4, .int (iI (220 * r + k))), (0, .ref b), (1, .int (iI r)), (2, .int (iI k)), (3, .int (iI q))] [.int (iI (220 * q + i)), .ref b] _
      refine tm_iload dX12_meltOne_323 6 rfl ?_
      refine tm_iload dX12_meltOne_325 5 rfl ?_
      refine tm_iload dX12_meltOne_327 4 rfl ?_
      refine tm_iload dX12_meltOne_329 2 rfl ?_
      refine tm_iload dX12_meltOne_331 3 rfl ?_
      refine tm_callV (M := m_X12_meltOne) (pc := 333) (ix := 518) (M' := m_X12_meltItem) (As := [.int (iI (220 * q + i)), .int (iI f), .int (iI base), .int (iI lb), .int (iI to), .int (iI out)]) (rest := []) dX12_meltOne_333 ok_X12_meltItem im_X12_meltItem se_X12_meltItem ml12_518 np_X12_meltItem rfl rfl (Nat.le_of_ble_eq_true rfl) (Nat.le_of_ble_eq_true rfl) rfl (c_X12_meltItem (d) (σ := σ) (x := 220 * q + i) (f := f) (base := base) (lb := lb) (to := to) (out := out) (ρ := ρ) (FI := FI) (lf := lf) (frq := frq) (lfq := lfq) (q := q) (i := i) (g0 := g0) (m := m) hR rfl (by omega) (by omega) (hmo.mih hms (by omega) (by omega)) (by omega)) (fun r7 σ8 hp => ?_)
      obtain ⟨rfl, f10, f11, f12, f13⟩ := hp
      show Tm _ _ 336 b σ8 [(11, .int (iI i)), (10, .int (iI mk)), (9, .int (iI to)), (8, .int (iI out)), (7, .int (iI lb)), (6, .int (iI base)), (5, .int (iI f)), (4, .int (iI (220 * r + k))), (0, .ref b), (1, .int (iI r)), (2, .int (iI k)), (3, .int (iI q))] [] _
      refine tm_iinc (q0 := 0) (L' := [(11, .int (iI (i + 1))), (10, .int (iI mk)), (9, .int (iI to)), (8, .int (iI out)), (7, .int (iI lb)), (6, .int (iI base)), (5, .int (iI f)), (4, .int (iI (220 * r + k))), (0, .ref b), (1, .int (iI r)), (2, .int (iI k)), (3, .int (iI q))]) dX12_meltOne_336 rfl (by decide) rfl ?_
      refine tm_goto (tgt := 304) dX12_meltOne_339 (by decide) ?_
      exact tm_sub [0, 1, 2, 3, 4, 5, 6, 7, 8, 9, 10, 11] rfl (ih _ (by omega) (i + 1) σ8 ((Fr.rfl.trans (Fr.sub hF (by decide) (by decide) (by decide))).trans (Fr.sub f10 (by decide) (by decide) (by decide))) f11 (by omega) (by rw [cnt_s (by omega), show rcf ρ q i = (if ρ.2.1 3 (220 * q + i) = 7 then 1 else 0) from rfl]; have e := f12; split at e <;> split <;> omega) f13 rfl)
end
