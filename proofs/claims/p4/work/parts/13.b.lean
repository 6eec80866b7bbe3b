theorem fl12_509 : Cond.fieldLink RX12 509 (TX12 62).1 (TX12 62).2.1 (TX12 62).2.2.1 ∈ pWW := pw7 (List.mem_of_getElem? (i := 69) rfl) rfl
theorem ml12_281 : Cond.methodLink RX12 281 yX12_setItem ∈ pWW := pw8 (List.mem_of_getElem? (i := 213) rfl) rfl
theorem dX12_add_0 : decode cX12_add 0 = .ok (.aload_n 0, 1) := by decide +kernel
theorem dX12_add_1 : decode cX12_add 1 = .ok (.sipush 2640, 3) := by decide +kernel
theorem dX12_add_4 : decode cX12_add 4 = .ok (.aload_n 0, 1) := by decide +kernel
theorem dX12_add_5 : decode cX12_add 5 = .ok (.getfield 509, 3) := by decide +kernel
theorem dX12_add_8 : decode cX12_add 8 = .ok (.iadd, 1) := by decide +kernel
theorem dX12_add_9 : decode cX12_add 9 = .ok (.iload_n 1, 1) := by decide +kernel
theorem dX12_add_10 : decode cX12_add 10 = .ok (.iload_n 2, 1) := by decide +kernel
theorem dX12_add_11 : decode cX12_add 11 = .ok (.iload_n 3, 1) := by decide +kernel
theorem dX12_add_12 : decode cX12_add 12 = .ok (.invokevirtual 281, 3) := by decide +kernel
theorem dX12_add_15 : decode cX12_add 15 = .ok (.aload_n 0, 1) := by decide +kernel
theorem dX12_add_16 : decode cX12_add 16 = .ok (.sipush 2640, 3) := by decide +kernel
theorem dX12_add_19 : decode cX12_add 19 = .ok (.aload_n 0, 1) := by decide +kernel
theorem dX12_add_20 : decode cX12_add 20 = .ok (.getfield 509, 3) := by decide +kernel
theorem dX12_add_23 : decode cX12_add 23 = .ok (.iadd, 1) := by decide +kernel
theorem dX12_add_24 : decode cX12_add 24 = .ok (.iconst 0, 1) := by decide +kernel
theorem dX12_add_25 : decode cX12_add 25 = .ok (.iload 4, 2) := by decide +kernel
theorem dX12_add_27 : decode cX12_add 27 = .ok (.iload 5, 2) := by decide +kernel
theorem dX12_add_29 : decode cX12_add 29 = .ok (.invokevirtual 298, 3) := by decide +kernel
theorem dX12_add_32 : decode cX12_add 32 = .ok (.aload_n 0, 1) := by decide +kernel
theorem dX12_add_33 : decode cX12_add 33 = .ok (.dup, 1) := by decide +kernel
theorem dX12_add_34 : decode cX12_add 34 = .ok (.getfield 509, 3) := by decide +kernel
theorem dX12_add_37 : decode cX12_add 37 = .ok (.iconst 1, 1) := by decide +kernel
theorem dX12_add_38 : decode cX12_add 38 = .ok (.iadd, 1) := by decide +kernel
theorem dX12_add_39 : decode cX12_add 39 = .ok (.putfield 509, 3) := by decide +kernel
theorem dX12_add_42 : decode cX12_add 42 = .ok (.return_, 1) := by decide +kernel
set_option maxHeartbeats 1000000 in
set_option maxRecDepth 20000 in
theorem c_X12_add (d : Nat) {b : Nat} {σ : MS} {k : Int} {e : Int} {o : Int} {ak : Int} {a : Int} (hR : RG σ) (hn : 0 ≤ σ.1 62 ∧ σ.1 62 ≤ 219) : Tm (d + 2) m_X12_add 0 b σ [(0, .ref b), (1, .int (iI k)), (2, .int (iI e)), (3, .int (iI o)), (4, .int (iI ak)), (5, .int (iI a))] [] (fun ro σ2 => ro = none ∧ (σ2 = fAdd k e o ak a σ)) := by
  refine tm_aload_n dX12_add_0 rfl 0 rfl ?_
  refine tm_sipush dX12_add_1 (by decide) ?_
  refine tm_aload_n dX12_add_4 rfl 0 rfl ?_
  refine tm_getS (k := 62) (t := σ.1 62) dX12_add_5 (by decide) fl12_509 rfl (rfl) ?_
  have g1 := RG.s hR 62
  refine tm_iadd dX12_add_8 ?_
  refine tm_iload_n dX12_add_9 rfl 1 rfl ?_
  refine tm_iload_n dX12_add_10 rfl 2 rfl ?_
  refine tm_iload_n dX12_add_11 rfl 3 rfl ?_
  refine tm_callV (M := m_X12_add) (pc := 12) (ix := 281) (M' := m_X12_setItem) (As := [.int (iI (2640 + (σ.1 62))), .int (iI k), .int (iI e), .int (iI o)]) (rest := []) dX12_add_12 ok_X12_setItem im_X12_setItem se_X12_setItem ml12_281 np_X12_setItem rfl rfl (Nat.le_of_ble_eq_true rfl) (Nat.le_of_ble_eq_true rfl) rfl (c_X12_setItem (d) (σ := σ) (x := 2640 + (σ.1 62)) (k := k) (e := e) (o := o) (by omega)) (fun r2 σ3 hp => ?_)
  obtain ⟨rfl, f5⟩ := hp
  subst f5
  show Tm _ _ 15 b (fItem (2640 + (σ.1 62)) (k) (e) (o) σ) [(0, .ref b), (1, .int (iI k)), (2, .int (iI e)), (3, .int (iI o)), (4, .int (iI ak)), (5, .int (iI a))] [] _
  refine tm_aload_n dX12_add_15 rfl 0 rfl ?_
  refine tm_sipush dX12_add_16 (by decide) ?_
  refine tm_aload_n dX12_add_19 rfl 0 rfl ?_
  refine tm_getS (k := 62) (t := σ.1 62) dX12_add_20 (by decide) fl12_509 rfl (rs_F fItem_fr (by decide) (rfl)) ?_
  have g6 := RG.s hR 62
  refine tm_iadd dX12_add_23 ?_
  refine tm_iconst dX12_add_24 ?_
  refine tm_iload dX12_add_25 4 rfl ?_
  refine tm_iload dX12_add_27 5 rfl ?_
  refine tm_callV (M := m_X12_add) (pc := 29) (ix := 298) (M' := m_X12_setArg) (As := [.int (iI (2640 + (σ.1 62))), .int (iI 0), .int (iI ak), .int (iI a)]) (rest := []) dX12_add_29 ok_X12_setArg im_X12_setArg se_X12_setArg ml12_298 np_X12_setArg rfl rfl (Nat.le_of_ble_eq_true rfl) (Nat.le_of_ble_eq_true rfl) rfl (c_X12_setArg (d) (σ := (fItem (2640 + (σ.1 62)) (k) (e) (o) σ)) (x := 2640 + (σ.1 62)) (i := 0) (k := ak) (w := a) (by omega)) (fun r7 σ8 hp => ?_)
  obtain ⟨rfl, f10⟩ := hp
  subst f10
  show Tm _ _ 32 b (fArg (2640 + (σ.1 62)) (0) (ak) (a) (fItem (2640 + (σ.1 62)) (k) (e) (o) σ)) [(0, .ref b), (1, .int (iI k)), (2, .int (iI e)), (3, .int (iI o)), (4, .int (iI ak)), (5, .int (iI a))] [] _
  refine tm_aload_n dX12_add_32 rfl 0 rfl ?_
  refine tm_dup dX12_add_33 rfl ?_
  refine tm_getS (k := 62) (t := σ.1 62) dX12_add_34 (by decide) fl12_509 rfl (rs_F fArg_fr (by decide) (rs_F fItem_fr (by decide) (rfl))) ?_
  have g11 := RG.s hR 62
  refine tm_iconst dX12_add_37 ?_
  refine tm_iadd dX12_add_38 ?_
  refine tm_putS (k := 62) (v := (σ.1 62) + 1) lay_12 dX12_add_39 (by decide) fl12_509 rfl (tyX12_ok 62 (by decide)) rfl rfl rfl ?_
  exact tm_vret rfl dX12_add_42 (⟨rfl, rfl⟩)
set_option maxHeartbeats 1000000 in
set_option maxRecDepth 20000 in
theorem l2_labels (d : Nat) {b : Nat} {σ : MS} {r : Int} {post : Option Value → MS → Prop} (hr : 0 ≤ r ∧ r < 12) (hR : RG σ) (hit : ITM σ) (hjm : JMP σ r) (hlm : LBM σ r) (hF1 : 1 ≤ σ.2.1 14 r) (hx_101 : ∀ (m : Int) (k : Int) , (0 ≤ m ∧ m ≤ 4096 ∧ m + 1 ≤ 121 * σ.2.1 14 r) → (∀ j, 0 ≤ j → j < σ.2.1 9 r → (σ.2.1 3 (220 * r + j) = 8 ∨ σ.2.1 3 (220 * r + j) = 9 ∨ σ.2.1 3 (220 * r + j) = 13) → σ.2.1 4 (220 * r + j) < m) → Tm (d + 2) m_X12_labels 101 b σ [(3, .int (iI k)), (2, .int (iI m)), (0, .ref b), (1, .int (iI r))] [] post) : ∀ (n : Nat) (m : Int) (k : Int) , (0 ≤ m ∧ m ≤ 4096 ∧ m + 1 ≤ 121 * σ.2.1 14 r ∧ 0 ≤ k ∧ k ≤ σ.2.1 9 r) → (∀ j, 0 ≤ j → j < k → (σ.2.1 3 (220 * r + j) = 8 ∨ σ.2.1 3 (220 * r + j) = 9 ∨ σ.2.1 3 (220 * r + j) = 13) → σ.2.1 4 (220 * r + j) < m) → (220 - k).toNat = n → Tm (d + 2) m_X12_labels 4 b σ [(3, .int (iI k)), (2, .int (iI m)), (0, .ref b), (1, .int (iI r))] [] post := by
  intro n
  induction n using Nat.strongRecOn with
  | _ n ih =>
    intro m k h0 hg hm
    have q1 := hit r (by omega) (by omega)
    refine tm_iload_n dX12_labels_4 rfl 0 rfl ?_
    refine tm_aload_n dX12_labels_5 rfl 2 rfl ?_
    refine tm_get (k := 9) (v := .ref (b + 1 + 7)) lay_12 dX12_labels_6 (by decide) fl12_32 rfl ?_
    refine tm_iload_n dX12_labels_9 rfl 3 rfl ?_
    refine tm_iald (z := r) (v := σ.2.1 9 r) dX12_labels_10 (show mT[7]? = some (9, 0, 13) from rfl) (by omega) (by omega) (by decide) (rfl) ?_
    have g1 := RG.a hR 9 (r)
    refine tm_icmp_ge (tgt := 101) dX12_labels_11 (by decide) ⟨by omega, by omega⟩ ⟨by omega, by omega⟩ (fun h2 => ?_) (fun h2 => ?_)
    · exact tm_sub [0, 1, 2, 3] rfl (hx_101 (m) (k) (by omega) (fun j a c e => hg j a (by omega) e))
    · refine tm_aload_n dX12_labels_14 rfl 2 rfl ?_
      refine tm_iload_n dX12_labels_15 rfl 3 rfl ?_
      refine tm_iload_n dX12_labels_16 rfl 0 rfl ?_
      refine tm_callV (M := m_X12_labels) (pc := 17) (ix := 203) (M' := m_X12_at) (As := [.int (iI r), .int (iI k)]) (rest := []) dX12_labels_17 ok_X12_at im_X12_at se_X12_at ml12_203 np_X12_at rfl rfl (Nat.le_of_ble_eq_true rfl) (Nat.le_of_ble_eq_true rfl) rfl (c_X12_at (d) (σ := σ) (x := r) (k := k) ) (fun r3 σ4 hp => ?_)
      obtain ⟨v5, rfl, rfl, f6⟩ := hp
      subst f6
      show Tm _ _ 20 b σ [(3, .int (iI k)), (2, .int (iI m)), (0, .ref b), (1, .int (iI r))] [.int (iI (220 * r + k))] _
      refine tm_istore (L' := [(4, .int (iI (220 * r + k))), (3, .int (iI k)), (2, .int (iI m)), (0, .ref b), (1, .int (iI r))]) dX12_labels_20 (by decide) rfl ?_
      have q2 := hjm k (by omega) (by omega)
      have q3 := hlm k (by omega) (by omega)
      refine tm_aload_n dX12_labels_22 rfl 3 rfl ?_
      refine tm_get (k := 3) (v := .ref (b + 1 + 1)) lay_12 dX12_labels_23 (by decide) fl12_13 rfl ?_
      refine tm_iload dX12_labels_26 0 rfl ?_
      refine tm_iald (z := 220 * r + k) (v := σ.2.1 3 (220 * r + k)) dX12_labels_28 (show mT[1]? = some (3, 0, 2860) from rfl) (by omega) (by omega) (by decide) (rfl) ?_
      have g7 := RG.a hR 3 (220 * r + k)
      refine tm_bipush dX12_labels_29 (by decide) ?_
      refine tm_icmp_eq (tgt := 58) dX12_labels_31 (by decide) ⟨by omega, by omega⟩ ⟨by decide, by decide⟩ (fun h8 => ?_) (fun h8 => ?_)
      · refine tm_iconst dX12_labels_58 ?_
        refine tm_goto (tgt := 63) dX12_labels_59 (by decide) ?_
        refine tm_istore (L' := [(5, .int (iI 1)), (4, .int (iI (220 * r + k))), (3, .int (iI k)), (2, .int (iI m)), (0, .ref b), (1, .int (iI r))]) dX12_labels_63 (by decide) rfl ?_
        refine tm_iload dX12_labels_65 0 rfl ?_
        refine tm_if_eq (tgt := 93) dX12_labels_67 (by decide) ⟨by decide, by decide⟩ (fun h => absurd h (by decide)) (fun _ => ?_)
        refine tm_aload_n dX12_labels_70 rfl 4 rfl ?_
        refine tm_get (k := 4) (v := .ref (b + 1 + 2)) lay_12 dX12_labels_71 (by decide) fl12_17 rfl ?_
        refine tm_iload dX12_labels_74 1 rfl ?_
        refine tm_iald (z := 220 * r + k) (v := σ.2.1 4 (220 * r + k)) dX12_labels_76 (show mT[2]? = some (4, 0, 2860) from rfl) (by omega) (by omega) (by decide) (rfl) ?_
        have g10 := RG.a hR 4 (220 * r + k)
        refine tm_iload_n dX12_labels_77 rfl 3 rfl ?_
        refine tm_icmp_lt (tgt := 93) dX12_labels_78 (by decide) ⟨by omega, by omega⟩ ⟨by omega, by omega⟩ (fun h11 => ?_) (fun h11 => ?_)
        · refine tm_iload_n dX12_labels_93 rfl 3 rfl ?_
          refine tm_istore_n (L' := [(2, .int (iI m)), (5, .int (iI 1)), (4, .int (iI (220 * r + k))), (3, .int (iI k)), (0, .ref b), (1, .int (iI r))]) dX12_labels_94 rfl (by decide) rfl ?_
          refine tm_iinc (q0 := 3) (L' := [(3, .int (iI (k + 1))), (2, .int (iI m)), (5, .int (iI 1)), (4, .int (iI (220 * r + k))), (0, .ref b), (1, .int (iI r))]) dX12_labels_95 rfl (by decide) rfl ?_
          refine tm_goto (tgt := 4) dX12_labels_98 (by decide) ?_
          exact tm_sub [0, 1, 4, 5] rfl (ih _ (by omega) (m) (k + 1) (by omega) (fun j a c e => by
          by_cases q : j = k
          · subst q; omega
          · have := hg j a (by omega) e; omega) rfl)
        · refine tm_aload_n dX12_labels_81 rfl 4 rfl ?_
          refine tm_get (k := 4) (v := .ref (b + 1 + 2)) lay_12 dX12_labels_82 (by decide) fl12_17 rfl ?_
          refine tm_iload dX12_labels_85 1 rfl ?_
          refine tm_iald (z := 220 * r + k) (v := σ.2.1 4 (220 * r + k)) dX12_labels_87 (show mT[2]? = some (4, 0, 2860) from rfl) (by omega) (by omega) (by decide) (rfl) ?_
          have g12 := RG.a hR 4 (220 * r + k)
          refine tm_iconst dX12_labels_88 ?_
          refine tm_iadd dX12_labels_89 ?_
          refine tm_goto (tgt := 94) dX12_labels_90 (by decide) ?_
          refine tm_istore_n (L' := [(2, .int (iI ((σ.2.1 4 (220 * r + k)) + 1))), (5, .int (iI 1)), (4, .int (iI (220 * r + k))), (3, .int (iI k)), (0, .ref b), (1, .int (iI r))]) dX12_labels_94 rfl (by decide) rfl ?_
          refine tm_iinc (q0 := 3) (L' := [(3, .int (iI (k + 1))), (2, .int (iI ((σ.2.1 4 (220 * r + k)) + 1))), (5, .int (iI 1)), (4, .int (iI (220 * r + k))), (0, .ref b), (1, .int (iI r))]) dX12_labels_95 rfl (by decide) rfl ?_
          refine tm_goto (tgt := 4) dX12_labels_98 (by decide) ?_
          exact tm_sub [0, 1, 4, 5] rfl (ih _ (by omega) ((σ.2.1 4 (220 * r + k)) + 1) (k + 1) (by omega) (fun j a c e => by
          by_cases q : j = k
          · subst q; omega
          · have := hg j a (by omega) e; omega) rfl)
      · refine tm_aload_n dX12_labels_34 rfl 3 rfl ?_
        refine tm_get (k := 3) (v := .ref (b + 1 + 1)) lay_12 dX12_labels_35 (by decide) fl12_13 rfl ?_
        refine tm_iload dX12_labels_38 0 rfl ?_
        refine tm_iald (z := 220 * r + k) (v := σ.2.1 3 (220 * r + k)) dX12_labels_40 (show mT[1]? = some (3, 0, 2860) from rfl) (by omega) (by omega) (by decide) (rfl) ?_
        have g13 := RG.a hR 3 (220 * r + k)
        refine tm_bipush dX12_labels_41 (by decide) ?_
        refine tm_icmp_eq (tgt := 58) dX12_labels_43 (by decide) ⟨by omega, by omega⟩ ⟨by decide, by decide⟩ (fun h14 => ?_) (fun h14 => ?_)
        · refine tm_iconst dX12_labels_58 ?_
          refine tm_goto (tgt := 63) dX12_labels_59 (by decide) ?_
          refine tm_istore (L' := [(5, .int (iI 1)), (4, .int (iI (220 * r + k))), (3, .int (iI k)), (2, .int (iI m)), (0, .ref b), (1, .int (iI r))]) dX12_labels_63 (by decide) rfl ?_
          refine tm_iload dX12_labels_65 0 rfl ?_
          refine tm_if_eq (tgt := 93) dX12_labels_67 (by decide) ⟨by decide, by decide⟩ (fun h => absurd h (by decide)) (fun _ => ?_)
          refine tm_aload_n dX12_labels_70 rfl 4 rfl ?_
          refine tm_get (k := 4) (v := .ref (b + 1 + 2)) lay_12 dX12_labels_71 (by decide) fl12_17 rfl ?_
          refine tm_iload dX12_labels_74 1 rfl ?_
          refine tm_iald (z := 220 * r + k) (v := σ.2.1 4 (220 * r + k)) dX12_labels_76 (show mT[2]? = some (4, 0, 2860) from rfl) (by omega) (by omega) (by decide) (rfl) ?_
          have g16 := RG.a hR 4 (220 * r + k)
          refine tm_iload_n dX12_labels_77 rfl 3 rfl ?_
          refine tm_icmp_lt (tgt := 93) dX12_labels_78 (by decide) ⟨by omega, by omega⟩ ⟨by omega, by omega⟩ (fun h17 => ?_) (fun h17 => ?_)
          · refine tm_iload_n dX12_labels_93 rfl 3 rfl ?_
            refine tm_istore_n (L' := [(2, .int (iI m)), (5, .int (iI 1)), (4, .int (iI (220 * r + k))), (3, .int (iI k)), (0, .ref b), (1, .int (iI r))]) dX12_labels_94 rfl (by decide) rfl ?_
            refine tm_iinc (q0 := 3) (L' := [(3, .int (iI (k + 1))), (2, .int (iI m)), (5, .int (iI 1)), (4, .int (iI (220 * r + k))), (0, .ref b), (1, .int (iI r))]) dX12_labels_95 rfl (by decide) rfl ?_
            refine tm_goto (tgt := 4) dX12_labels_98 (by decide) ?_
            exact tm_sub [0, 1, 4, 5] rfl (ih _ (by omega) (m) (k + 1) (by omega) (fun j a c e => by
          by_cases q : j = k
          · subst q; omega
          · have := hg j a (by omega) e; omega) rfl)
          · refine tm_aload_n dX12_labels_81 rfl 4 rfl ?_
            refine tm_get (k := 4) (v := .ref (b + 1 + 2)) lay_12 dX12_labels_82 (by decide) fl12_17 rfl ?_
            refine tm_iload dX12_labels_85 1 rfl ?_
            refine tm_iald (z := 220 * r + k) (v := σ.2.1 4 (220 * r + k)) dX12_labels_87 (show mT[2]? = some (4, 0, 2860) from rfl) (by omega) (by omega) (by decide) (rfl) ?_
            have g18 := RG.a hR 4 (220 * r + k)
            refine tm_iconst dX12_labels_88 ?_
            refine tm_iadd dX12_labels_89 ?_
            refine tm_goto (tgt := 94) dX12_labels_90 (by decide) ?_
            refine tm_istore_n (L' := [(2, .int (iI ((σ.2.1 4 (220 * r + k)) + 1))), (5, .int (iI 1)), (4, .int (iI (220 * r + k))), (3, .int (iI k)), (0, .ref b), (1, .int (iI r))]) dX12_labels_94 rfl (by decide) rfl ?_
            refine tm_iinc (q0 := 3) (L' := [(3, .int (iI (k + 1))), (2, .int (iI ((σ.2.1 4 (220 * r + k)) + 1))), (5, .int (iI 1)), (4, .int (iI (220 * r + k))), (0, .ref b), (1, .int (iI r))]) dX12_labels_95 rfl (by decide) rfl ?_
            refine tm_goto (tgt := 4) dX12_labels_98 (by decide) ?_
            exact tm_sub [0, 1, 4, 5] rfl (ih _ (by omega) ((σ.2.1 4 (220 * r + k)) + 1) (k + 1) (by omega) (fun j a c e => by
          by_cases q : j = k
          · subst q; omega
          · have := hg j a (by omega) e; omega) rfl)
        · refine tm_aload_n dX12_labels_46 rfl 3 rfl ?_
          refine tm_get (k := 3) (v := .ref (b + 1 + 1)) lay_12 dX12_labels_47 (by decide) fl12_13 rfl ?_
          refine tm_iload dX12_labels_50 0 rfl ?_
          refine tm_iald (z := 220 * r + k) (v := σ.2.1 3 (220 * r + k)) dX12_labels_52 (show mT[1]? = some (3, 0, 2860) from rfl) (by omega) (by omega) (by decide) (rfl) ?_
          have g19 := RG.a hR 3 (220 * r + k)
          refine tm_bipush dX12_labels_53 (by decide) ?_
          refine tm_icmp_ne (tgt := 62) dX12_labels_55 (by decide) ⟨by omega, by omega⟩ ⟨by decide, by decide⟩ (fun h20 => ?_) (fun h20 => ?_)
          · refine tm_iconst dX12_labels_62 ?_
            refine tm_istore (L' := [(5, .int (iI 0)), (4, .int (iI (220 * r + k))), (3, .int (iI k)), (2, .int (iI m)), (0, .ref b), (1, .int (iI r))]) dX12_labels_63 (by decide) rfl ?_
            refine tm_iload dX12_labels_65 0 rfl ?_
            refine tm_if_eq (tgt := 93) dX12_labels_67 (by decide) ⟨by decide, by decide⟩ (fun _ => ?_) (fun h => absurd h (by decide))
            refine tm_iload_n dX12_labels_93 rfl 3 rfl ?_
            refine tm_istore_n (L' := [(2, .int (iI m)), (5, .int (iI 0)), (4, .int (iI (220 * r + k))), (3, .int (iI k)), (0, .ref b), (1, .int (iI r))]) dX12_labels_94 rfl (by decide) rfl ?_
            refine tm_iinc (q0 := 3) (L' := [(3, .int (iI (k + 1))), (2, .int (iI m)), (5, .int (iI 0)), (4, .int (iI (220 * r + k))), (0, .ref b), (1, .int (iI r))]) dX12_labels_95 rfl (by decide) rfl ?_
            refine tm_goto (tgt := 4) dX12_labels_98 (by decide) ?_
            exact tm_sub [0, 1, 4, 5] rfl (ih _ (by omega) (m) (k + 1) (by omega) (fun j a c e => by
          by_cases q : j = k
          · subst q; omega
          · have := hg j a (by omega) e; omega) rfl)
          · refine tm_iconst dX12_labels_58 ?_
            refine tm_goto (tgt := 63) dX12_labels_59 (by decide) ?_
            refine tm_istore (L' := [(5, .int (iI 1)), (4, .int (iI (220 * r + k))), (3, .int (iI k)), (2, .int (iI m)), (0, .ref b), (1, .int (iI r))]) dX12_labels_63 (by decide) rfl ?_
            refine tm_iload dX12_labels_65 0 rfl ?_
            refine tm_if_eq (tgt := 93) dX12_labels_67 (by decide) ⟨by decide, by decide⟩ (fun h => absurd h (by decide)) (fun _ => ?_)
            refine tm_aload_n dX12_labels_70 rfl 4 rfl ?_
            refine tm_get (k := 4) (v := .ref (b + 1 + 2)) lay_12 dX12_labels_71 (by decide) fl12_17 rfl ?_
            refine tm_iload dX12_labels_74 1 rfl ?_
            refine tm_iald (z := 220 * r + k) (v := σ.2.1 4 (220 * r + k)) dX12_labels_76 (show mT[2]? = some (4, 0, 2860) from rfl) (by omega) (by omega) (by decide) (rfl) ?_
            have g23 := RG.a hR 4 (220 * r + k)
            refine tm_iload_n dX12_labels_77 rfl 3 rfl ?_
            refine tm_icmp_lt (tgt := 93) dX12_labels_78 (by decide) ⟨by omega, by omega⟩ ⟨by omega, by omega⟩ (fun h24 => ?_) (fun h24 => ?_)
            · refine tm_iload_n dX12_labels_93 rfl 3 rfl ?_
              refine tm_istore_n (L' := [(2, .int (iI m)), (5, .int (iI 1)), (4, .int (iI (220 * r + k))), (3, .int (iI k)), (0, .ref b), (1, .int (iI r))]) dX12_labels_94 rfl (by decide) rfl ?_
              refine tm_iinc (q0 := 3) (L' := [(3, .int (iI (k + 1))), (2, .int (iI m)), (5, .int (iI 1)), (4, .int (iI (220 * r + k))), (0, .ref b), (1, .int (iI r))]) dX12_labels_95 rfl (by decide) rfl ?_
              refine tm_goto (tgt := 4) dX12_labels_98 (by decide) ?_
              exact tm_sub [0, 1, 4, 5] rfl (ih _ (by omega) (m) (k + 1) (by omega) (fun j a c e => by
          by_cases q : j = k
          · subst q; omega
          · have := hg j a (by omega) e; omega) rfl)
            · refine tm_aload_n dX12_labels_81 rfl 4 rfl ?_
              refine tm_get (k := 4) (v := .ref (b + 1 + 2)) lay_12 dX12_labels_82 (by decide) fl12_17 rfl ?_
              refine tm_iload dX12_labels_85 1 rfl ?_
              refine tm_iald (z := 220 * r + k) (v := σ.2.1 4 (220 * r + k)) dX12_labels_87 (show mT[2]? = some (4, 0, 2860) from rfl) (by omega) (by omega) (by decide) (rfl) ?_
              have g25 := RG.a hR 4 (220 * r + k)
              refine tm_iconst dX12_labels_88 ?_
              refine tm_iadd dX12_labels_89 ?_
              refine tm_goto (tgt := 94) dX12_labels_90 (by decide) ?_
              refine tm_istore_n (L' := [(2, .int (iI ((σ.2.1 4 (220 * r + k)) + 1))), (5, .int (iI 1)), (4, .int (iI (220 * r + k))), (3, .int (iI k)), (0, .ref b), (1, .int (iI r))]) dX12_labels_94 rfl (by decide) rfl ?_
              refine tm_iinc (q0 := 3) (L' := [(3, .int (iI (k + 1))), (2, .int (iI ((σ.2.1 4 (220 * r + k)) + 1))), (5, .int (iI 1)), (4, .int (iI (220 * r + k))), (0, .ref b), (1, .int (iI r))]) dX12_labels_95 rfl (by decide) rfl ?_
              refine tm_goto (tgt := 4) dX12_labels_98 (by decide) ?_
              exact tm_sub [0, 1, 4, 5] rfl (ih _ (by omega) ((σ.2.1 4 (220 * r + k)) + 1) (k + 1) (by omega) (fun j a c e => by
          by_cases q : j = k
          · subst q; omega
          · have := hg j a (by omega) e; omega) rfl)
set_option maxHeartbeats 1000000 in
set_option maxRecDepth 20000 in
theorem c2_X12_labels (d : Nat) {b : Nat} {σ : MS} {r : Int} (hr : 0 ≤ r ∧ r < 12) (hR : RG σ) (hit : ITM σ) (hjm : JMP σ r) (hlm : LBM σ r) (hF1 : 1 ≤ σ.2.1 14 r) : Tm (d + 2) m_X12_labels 0 b σ [(0, .ref b), (1, .int (iI r))] [] (fun ro σ2 => ∃ v : Int, ro = some (.int (iI v)) ∧ σ = σ2 ∧ (0 ≤ v ∧ v ≤ 4096 ∧ v + 1 ≤ 121 * σ.2.1 14 r) ∧ (∀ j, 0 ≤ j → j < σ.2.1 9 r → (σ.2.1 3 (220 * r + j) = 8 ∨ σ.2.1 3 (220 * r + j) = 9 ∨ σ.2.1 3 (220 * r + j) = 13) → σ.2.1 4 (220 * r + j) < v)) := by
  refine tm_iconst dX12_labels_0 ?_
  refine tm_istore_n (L' := [(2, .int (iI 0)), (0, .ref b), (1, .int (iI r))]) dX12_labels_1 rfl (by decide) rfl ?_
  refine tm_iconst dX12_labels_2 ?_
  refine tm_istore_n (L' := [(3, .int (iI 0)), (2, .int (iI 0)), (0, .ref b), (1, .int (iI r))]) dX12_labels_3 rfl (by decide) rfl ?_
  refine tm_sub [0, 1, 2, 3] rfl (l2_labels (d) (σ := σ) (r := r) hr hR hit hjm hlm (by omega) (fun m7 k8 f5 f6 => ?_) _ (0) (0) (by have := hit r (by omega) (by omega); omega) (fun j a c => by omega) rfl)
  show Tm _ _ 101 b σ [(3, .int (iI k8)), (2, .int (iI m7)), (0, .ref b), (1, .int (iI r))] [] _
  refine tm_iload_n dX12_labels_101 rfl 1 rfl ?_
  exact tm_iret rfl dX12_labels_102 (⟨_, rfl, rfl, by omega, by assumption⟩)
theorem dX12_meltItem_30 : decode cX12_meltItem 30 = .ok (.iload 8, 2) := by decide +kernel
theorem dX12_meltItem_32 : decode cX12_meltItem 32 = .ok (.iconst 4, 1) := by decide +kernel
theorem dX12_meltItem_33 : decode cX12_meltItem 33 = .ok (.if_icmp .ge 45, 3) := by decide +kernel
theorem dX12_meltItem_36 : decode cX12_meltItem 36 = .ok (.aload_n 0, 1) := by decide +kernel
theorem dX12_meltItem_37 : decode cX12_meltItem 37 = .ok (.getfield 29, 3) := by decide +kernel
theorem dX12_meltItem_40 : decode cX12_meltItem 40 = .ok (.iconst 4, 1) := by decide +kernel
theorem dX12_meltItem_41 : decode cX12_meltItem 41 = .ok (.iload 7, 2) := by decide +kernel
theorem dX12_meltItem_43 : decode cX12_meltItem 43 = .ok (.imul, 1) := by decide +kernel
theorem dX12_meltItem_44 : decode cX12_meltItem 44 = .ok (.iload 8, 2) := by decide +kernel
theorem dX12_meltItem_46 : decode cX12_meltItem 46 = .ok (.iadd, 1) := by decide +kernel
theorem dX12_meltItem_47 : decode cX12_meltItem 47 = .ok (.dup2, 1) := by decide +kernel
theorem dX12_meltItem_48 : decode cX12_meltItem 48 = .ok (.iaload, 1) := by decide +kernel
theorem dX12_meltItem_49 : decode cX12_meltItem 49 = .ok (.aload_n 0, 1) := by decide +kernel
theorem dX12_meltItem_50 : decode cX12_meltItem 50 = .ok (.getfield 26, 3) := by decide +kernel
theorem dX12_meltItem_53 : decode cX12_meltItem 53 = .ok (.iconst 4, 1) := by decide +kernel
theorem dX12_meltItem_54 : decode cX12_meltItem 54 = .ok (.iload 7, 2) := by decide +kernel
theorem dX12_meltItem_56 : decode cX12_meltItem 56 = .ok (.imul, 1) := by decide +kernel
theorem dX12_meltItem_57 : decode cX12_meltItem 57 = .ok (.iload 8, 2) := by decide +kernel
theorem dX12_meltItem_59 : decode cX12_meltItem 59 = .ok (.iadd, 1) := by decide +kernel
theorem dX12_meltItem_60 : decode cX12_meltItem 60 = .ok (.iaload, 1) := by decide +kernel
theorem dX12_meltItem_61 : decode cX12_meltItem 61 = .ok (.iconst 2, 1) := by decide +kernel
theorem dX12_meltItem_62 : decode cX12_meltItem 62 = .ok (.if_icmp .ne 7, 3) := by decide +kernel
theorem dX12_meltItem_69 : decode cX12_meltItem 69 = .ok (.iconst 0, 1) := by decide +kernel
theorem dX12_meltItem_70 : decode cX12_meltItem 70 = .ok (.iadd, 1) := by decide +kernel
theorem dX12_meltItem_71 : decode cX12_meltItem 71 = .ok (.iastore, 1) := by decide +kernel
theorem dX12_meltItem_72 : decode cX12_meltItem 72 = .ok (.iinc 8 1, 3) := by decide +kernel
theorem dX12_meltItem_75 : decode cX12_meltItem 75 = .ok (.goto (-45), 3) := by decide +kernel
theorem dX12_meltItem_65 : decode cX12_meltItem 65 = .ok (.iload_n 3, 1) := by decide +kernel
theorem dX12_meltItem_66 : decode cX12_meltItem 66 = .ok (.goto 4, 3) := by decide +kernel
set_option maxHeartbeats 1000000 in
set_option maxRecDepth 20000 in
theorem l_mi (d : Nat) {b : Nat} {σ0 : MS} {y : Int} {x : Int} {f : Int} {base : Int} {lb : Int} {to : Int} {out : Int} {post : Option Value → MS → Prop} (hR0 : RG σ0) (hy : 0 ≤ y ∧ y < 2860) (hrg : ∀ u, 0 ≤ u → u < 4 → σ0.2.1 7 (4 * y + u) = 2 → 0 ≤ σ0.2.1 8 (4 * y + u) ∧ σ0.2.1 8 (4 * y + u) < 192) (hb : 0 ≤ base ∧ base ≤ 192) (hx_78 : ∀ (j : Int) (σ : MS) , (Fr [] [8] [] σ0 σ) → (RG σ) → (OFF y σ0 σ) → (∀ u, 0 ≤ u → u < 4 → σ.2.1 8 (4 * y + u) = σ0.2.1 8 (4 * y + u) + (if σ0.2.1 7 (4 * y + u) = 2 then base else 0)) → Tm (d + 1) m_X12_meltItem 78 b σ [(7, .int (iI y)), (0, .ref b), (1, .int (iI x)), (2, .int (iI f)), (3, .int (iI base)), (4, .int (iI lb)), (5, .int (iI to)), (6, .int (iI out))] [] post) : ∀ (n : Nat) (j : Int) (σ : MS) , (Fr [] [8] [] σ0 σ) → (RG σ) → (0 ≤ j ∧ j ≤ 4) → (OFF y σ0 σ) → (∀ u, 0 ≤ u → u < 4 → (u < j → σ.2.1 8 (4 * y + u) = σ0.2.1 8 (4 * y + u) + (if σ0.2.1 7 (4 * y + u) = 2 then base else 0)) ∧ (j ≤ u → σ.2.1 8 (4 * y + u) = σ0.2.1 8 (4 * y + u))) → (4 - j).toNat = n → Tm (d + 1) m_X12_meltItem 30 b σ [(8, .int (iI j)), (7, .int (iI y)), (0, .ref b), (1, .int (iI x)), (2, .int (iI f)), (3, .int (iI base)), (4, .int (iI lb)), (5, .int (iI to)), (6, .int (iI out))] [] post := by
  intro n
  induction n using Nat.strongRecOn with
  | _ n ih =>
    intro j σ hF hR h0 hof hsh hm
    have q7 : σ.2.1 7 = σ0.2.1 7 := hF.2.1 7 (by decide)
    refine tm_iload dX12_meltItem_30 0 rfl ?_
    refine tm_iconst dX12_meltItem_32 ?_
    refine tm_icmp_ge (tgt := 78) dX12_meltItem_33 (by decide) ⟨by omega, by omega⟩ ⟨by decide, by decide⟩ (fun h1 => ?_) (fun h1 => ?_)
    · exact tm_sub [1, 2, 3, 4, 5, 6, 7, 8] rfl (hx_78 (0) σ (Fr.rfl.trans (Fr.sub hF (by decide) (by decide) (by decide))) hR hof (fun u a c => (hsh u a c).1 (by omega)))
    · have hj := hsh j (by omega) (by omega)
      have hj2 := hj.2 (by omega)
      have hrj := hrg j (by omega) (by omega)
      refine tm_aload_n dX12_meltItem_36 rfl 2 rfl ?_
      refine tm_get (k := 8) (v := .ref (b + 1 + 6)) lay_12 dX12_meltItem_37 (by decide) fl12_29 rfl ?_
      refine tm_iconst dX12_meltItem_40 ?_
      refine tm_iload dX12_meltItem_41 1 rfl ?_
      refine tm_imul dX12_meltItem_43 ?_
      refine tm_iload dX12_meltItem_44 0 rfl ?_
      refine tm_iadd dX12_meltItem_46 ?_
      refine tm_dup2 dX12_meltItem_47 rfl rfl ?_
      refine tm_iald (z := (4 * y) + j) (v := σ.2.1 8 ((4 * y) + j)) dX12_meltItem_48 (show mT[6]? = some (8, 0, 11440) from rfl) (by omega) (by omega) (by decide) (rfl) ?_
      have g2 := RG.a hR 8 ((4 * y) + j)
      refine tm_aload_n dX12_meltItem_49 rfl 2 rfl ?_
      refine tm_get (k := 7) (v := .ref (b + 1 + 5)) lay_12 dX12_meltItem_50 (by decide) fl12_26 rfl ?_
      refine tm_iconst dX12_meltItem_53 ?_
      refine tm_iload dX12_meltItem_54 1 rfl ?_
      refine tm_imul dX12_meltItem_56 ?_
      refine tm_iload dX12_meltItem_57 0 rfl ?_
      refine tm_iadd dX12_meltItem_59 ?_
      refine tm_iald (z := (4 * y) + j) (v := σ0.2.1 7 ((4 * y) + j)) dX12_meltItem_60 (show mT[5]? = some (7, 0, 11440) from rfl) (by omega) (by omega) (by decide) (ra_F hF (by decide) (rfl)) ?_
      have g3 := RG.a hR0 7 ((4 * y) + j)
      refine tm_iconst dX12_meltItem_61 ?_
      refine tm_icmp_ne (tgt := 69) dX12_meltItem_62 (by decide) ⟨by omega, by omega⟩ ⟨by decide, by decide⟩ (fun h4 => ?_) (fun h4 => ?_)
      · refine tm_iconst dX12_meltItem_69 ?_
        refine tm_iadd dX12_meltItem_70 ?_
        refine tm_iast (z := (4 * y) + j) (v := (σ.2.1 8 ((4 * y) + j)) + 0) dX12_meltItem_71 (show mT[6]? = some (8, 0, 11440) from rfl) (by omega) (by omega) (by decide) ?_
        refine tm_iinc (q0 := 0) (L' := [(8, .int (iI (j + 1))), (7, .int (iI y)), (0, .ref b), (1, .int (iI x)), (2, .int (iI f)), (3, .int (iI base)), (4, .int (iI lb)), (5, .int (iI to)), (6, .int (iI out))]) dX12_meltItem_72 rfl (by decide) rfl ?_
        refine tm_goto (tgt := 30) dX12_meltItem_75 (by decide) ?_
        exact tm_sub [0, 1, 2, 3, 4, 5, 6, 7, 8] rfl (ih _ (by omega) (j + 1) (sA 8 ((4 * y) + j) ((σ.2.1 8 ((4 * y) + j)) + 0) σ) ((Fr.rfl.trans (Fr.sub hF (by decide) (by decide) (by decide))).A (by decide)) (hR.A (by omega)) (by omega) (hof.trans (OFF.a8 (by omega) (by omega))) (fun u a c => by
          by_cases q : u = j
          · subst q
            refine ⟨fun _ => ?_, fun w => absurd w (by omega)⟩
            first
            | (rw [if_pos (by omega)]; exact ra_eq.trans (by omega))
            | (rw [if_neg (by omega)]; exact ra_eq.trans (by omega))
          · exact ⟨fun w => ra_ne (by omega) ((hsh u a c).1 (by omega)), fun w => ra_ne (by omega) ((hsh u a c).2 (by omega))⟩) rfl)
      · refine tm_iload_n dX12_meltItem_65 rfl 5 rfl ?_
        refine tm_goto (tgt := 70) dX12_meltItem_66 (by decide) ?_
        refine tm_iadd dX12_meltItem_70 ?_
        refine tm_iast (z := (4 * y) + j) (v := (σ.2.1 8 ((4 * y) + j)) + base) dX12_meltItem_71 (show mT[6]? = some (8, 0, 11440) from rfl) (by omega) (by omega) (by decide) ?_
        refine tm_iinc (q0 := 0) (L' := [(8, .int (iI (j + 1))), (7, .int (iI y)), (0, .ref b), (1, .int (iI x)), (2, .int (iI f)), (3, .int (iI base)), (4, .int (iI lb)), (5, .int (iI to)), (6, .int (iI out))]) dX12_meltItem_72 rfl (by decide) rfl ?_
        refine tm_goto (tgt := 30) dX12_meltItem_75 (by decide) ?_
        exact tm_sub [0, 1, 2, 3, 4, 5, 6, 7, 8] rfl (ih _ (by omega) (j + 1) (sA 8 ((4 * y) + j) ((σ.2.1 8 ((4 * y) + j)) + base) σ) ((Fr.rfl.trans (Fr.sub hF (by decide) (by decide) (by decide))).A (by decide)) (hR.A (by omega)) (by omega) (hof.trans (OFF.a8 (by omega) (by omega))) (fun u a c => by
          by_cases q : u = j
          · subst q
            refine ⟨fun _ => ?_, fun w => absurd w (by omega)⟩
            first
            | (rw [if_pos (by omega)]; exact ra_eq.trans (by omega))
            | (rw [if_neg (by omega)]; exact ra_eq.trans (by omega))
          · exact ⟨fun w => ra_ne (by omega) ((hsh u a c).1 (by omega)), fun w => ra_ne (by omega) ((hsh u a c).2 (by omega))⟩) rfl)
