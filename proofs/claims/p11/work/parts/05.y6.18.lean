section
theorem cd_X1_becomeCopy : Cond.code yX1_becomeCopy cX1_becomeCopy 4 none ∈ pWW := pw4 (List.mem_of_getElem? (i := 215) rfl) rfl
abbrev m_X1_becomeCopy : MT := (yX1_becomeCopy, cX1_becomeCopy, 4, none)
theorem ok_X1_becomeCopy : pOk m_X1_becomeCopy := ⟨⟨cd_X1_becomeCopy, ini_1⟩, by decide +kernel, ⟨by decide +kernel, by decide +kernel⟩, Nat.le_of_ble_eq_true rfl⟩
theorem np_X1_becomeCopy : (parseMethodDescriptor yX1_becomeCopy.desc).map (fun d => d.parameters.length) = some 3 := by decide +kernel
theorem im_X1_becomeCopy : Cond.instanceMethod yX1_becomeCopy ∈ pWW := pw4 (List.mem_of_getElem? (i := 213) rfl) rfl
theorem se_X1_becomeCopy : Cond.selects RX1 yX1_becomeCopy yX1_becomeCopy ∈ pWW := pw4 (List.mem_of_getElem? (i := 214) rfl) rfl
theorem dX1_becomeCopy_0 : decode cX1_becomeCopy 0 = .ok (.aload_n 0, 1) := by decide +kernel
theorem dX1_becomeCopy_1 : decode cX1_becomeCopy 1 = .ok (.iload_n 1, 1) := by decide +kernel
theorem dX1_becomeCopy_2 : decode cX1_becomeCopy 2 = .ok (.iconst 0, 1) := by decide +kernel
theorem dX1_becomeCopy_3 : decode cX1_becomeCopy 3 = .ok (.iconst 0, 1) := by decide +kernel
theorem dX1_becomeCopy_4 : decode cX1_becomeCopy 4 = .ok (.invokevirtual 93, 3) := by decide +kernel
theorem dX1_becomeCopy_7 : decode cX1_becomeCopy 7 = .ok (.aload_n 0, 1) := by decide +kernel
theorem dX1_becomeCopy_8 : decode cX1_becomeCopy 8 = .ok (.iload_n 1, 1) := by decide +kernel
theorem dX1_becomeCopy_9 : decode cX1_becomeCopy 9 = .ok (.iconst 3, 1) := by decide +kernel
theorem dX1_becomeCopy_10 : decode cX1_becomeCopy 10 = .ok (.iload_n 2, 1) := by decide +kernel
theorem dX1_becomeCopy_11 : decode cX1_becomeCopy 11 = .ok (.invokevirtual 93, 3) := by decide +kernel
theorem dX1_becomeCopy_14 : decode cX1_becomeCopy 14 = .ok (.aload_n 0, 1) := by decide +kernel
theorem dX1_becomeCopy_15 : decode cX1_becomeCopy 15 = .ok (.iload_n 1, 1) := by decide +kernel
theorem dX1_becomeCopy_16 : decode cX1_becomeCopy 16 = .ok (.iconst 4, 1) := by decide +kernel
theorem dX1_becomeCopy_17 : decode cX1_becomeCopy 17 = .ok (.iload_n 3, 1) := by decide +kernel
theorem dX1_becomeCopy_18 : decode cX1_becomeCopy 18 = .ok (.invokevirtual 93, 3) := by decide +kernel
theorem dX1_becomeCopy_21 : decode cX1_becomeCopy 21 = .ok (.aload_n 0, 1) := by decide +kernel
theorem dX1_becomeCopy_22 : decode cX1_becomeCopy 22 = .ok (.iload_n 1, 1) := by decide +kernel
theorem dX1_becomeCopy_23 : decode cX1_becomeCopy 23 = .ok (.iconst 5, 1) := by decide +kernel
theorem dX1_becomeCopy_24 : decode cX1_becomeCopy 24 = .ok (.iconst 0, 1) := by decide +kernel
theorem dX1_becomeCopy_25 : decode cX1_becomeCopy 25 = .ok (.invokevirtual 93, 3) := by decide +kernel
theorem dX1_becomeCopy_28 : decode cX1_becomeCopy 28 = .ok (.aload_n 0, 1) := by decide +kernel
theorem dX1_becomeCopy_29 : decode cX1_becomeCopy 29 = .ok (.iload_n 1, 1) := by decide +kernel
theorem dX1_becomeCopy_30 : decode cX1_becomeCopy 30 = .ok (.bipush 6, 2) := by decide +kernel
theorem dX1_becomeCopy_32 : decode cX1_becomeCopy 32 = .ok (.iconst 0, 1) := by decide +kernel
theorem dX1_becomeCopy_33 : decode cX1_becomeCopy 33 = .ok (.invokevirtual 93, 3) := by decide +kernel
theorem dX1_becomeCopy_36 : decode cX1_becomeCopy 36 = .ok (.return_, 1) := by decide +kernel
set_option maxRecDepth 20000 in
theorem k_X1_becomeCopy (d : Nat) {T : CT} {σ : MS} {a : Nat} {k : Int} {y : Int} {z : Int} (ha : OB T a 1) (hta : (T a).1 = 50) (h_k : -2147483648 ≤ k ∧ k ≤ 2147483647) (h_y : -2147483648 ≤ y ∧ y ≤ 2147483647) (h_z : -2147483648 ≤ z ∧ z ≤ 2147483647) (hw : WT T σ) : Tn (d + 2) m_X1_becomeCopy 0 T σ [(0, .ref a), (1, .int (iI k)), (2, .int (iI y)), (3, .int (iI z))] [] (fun ro T2 σ2 => ro = none ∧ T = T2 ∧ WT T2 σ2 ∧ FrC T [] σ σ2) := by
  refine tn_aload_n dX1_becomeCopy_0 rfl 0 rfl ?_
  refine tn_iload_n dX1_becomeCopy_1 rfl 1 rfl ?_
  refine tn_iconst dX1_becomeCopy_2 ?_
  refine tn_iconst dX1_becomeCopy_3 ?_
  refine tn_callV (M := m_X1_becomeCopy) (pc := 4) (ix := 93) (ci := 1) (M' := m_X1_set) (As := [.int (iI k), .int (iI 0), .int (iI 0)]) (rest := []) dX1_becomeCopy_4 ok_X1_set im_X1_set se_X1_set ml1_93 np_X1_set rfl rfl ha rfl (Nat.le_of_ble_eq_true rfl) (Nat.le_of_ble_eq_true rfl) rfl (k_X1_set (d) (T := T) (σ := σ) (a := a) (k := k) (c := 0) (y := 0) ha (by omega) (by decide) (by decide) hw (by omega) (by omega)) (fun r1 T3 σ2 gt4 hp => ?_)
  obtain ⟨rfl, rfl, w6, F7⟩ := hp
  clear gt4
  show Tn _ _ 7 T σ2 [(0, .ref a), (1, .int (iI k)), (2, .int (iI y)), (3, .int (iI z))] [] _
  refine tn_aload_n dX1_becomeCopy_7 rfl 0 rfl ?_
  refine tn_iload_n dX1_becomeCopy_8 rfl 1 rfl ?_
  refine tn_iconst dX1_becomeCopy_9 ?_
  refine tn_iload_n dX1_becomeCopy_10 rfl 2 rfl ?_
  refine tn_callV (M := m_X1_becomeCopy) (pc := 11) (ix := 93) (ci := 1) (M' := m_X1_set) (As := [.int (iI k), .int (iI 3), .int (iI y)]) (rest := []) dX1_becomeCopy_11 ok_X1_set im_X1_set se_X1_set ml1_93 np_X1_set rfl rfl ha rfl (Nat.le_of_ble_eq_true rfl) (Nat.le_of_ble_eq_true rfl) rfl (k_X1_set (d) (T := T) (σ := σ2) (a := a) (k := k) (c := 3) (y := y) ha (by omega) (by decide) (by omega) w6 (by omega) (by omega)) (fun r8 T10 σ9 gt11 hp => ?_)
  obtain ⟨rfl, rfl, w13, F14⟩ := hp
  clear gt11
  show Tn _ _ 14 T σ9 [(0, .ref a), (1, .int (iI k)), (2, .int (iI y)), (3, .int (iI z))] [] _
  refine tn_aload_n dX1_becomeCopy_14 rfl 0 rfl ?_
  refine tn_iload_n dX1_becomeCopy_15 rfl 1 rfl ?_
  refine tn_iconst dX1_becomeCopy_16 ?_
  refine tn_iload_n dX1_becomeCopy_17 rfl 3 rfl ?_
  refine tn_callV (M := m_X1_becomeCopy) (pc := 18) (ix := 93) (ci := 1) (M' := m_X1_set) (As := [.int (iI k), .int (iI 4), .int (iI z)]) (rest := []) dX1_becomeCopy_18 ok_X1_set im_X1_set se_X1_set ml1_93 np_X1_set rfl rfl ha rfl (Nat.le_of_ble_eq_true rfl) (Nat.le_of_ble_eq_true rfl) rfl (k_X1_set (d) (T := T) (σ := σ9) (a := a) (k := k) (c := 4) (y := z) ha (by omega) (by decide) (by omega) w13 (by omega) (by omega)) (fun r15 T17 σ16 gt18 hp => ?_)
  obtain ⟨rfl, rfl, w20, F21⟩ := hp
  clear gt18
  show Tn _ _ 21 T σ16 [(0, .ref a), (1, .int (iI k)), (2, .int (iI y)), (3, .int (iI z))] [] _
  refine tn_aload_n dX1_becomeCopy_21 rfl 0 rfl ?_
  refine tn_iload_n dX1_becomeCopy_22 rfl 1 rfl ?_
  refine tn_iconst dX1_becomeCopy_23 ?_
  refine tn_iconst dX1_becomeCopy_24 ?_
  refine tn_callV (M := m_X1_becomeCopy) (pc := 25) (ix := 93) (ci := 1) (M' := m_X1_set) (As := [.int (iI k), .int (iI 5), .int (iI 0)]) (rest := []) dX1_becomeCopy_25 ok_X1_set im_X1_set se_X1_set ml1_93 np_X1_set rfl rfl ha rfl (Nat.le_of_ble_eq_true rfl) (Nat.le_of_ble_eq_true rfl) rfl (k_X1_set (d) (T := T) (σ := σ16) (a := a) (k := k) (c := 5) (y := 0) ha (by omega) (by decide) (by decide) w20 (by omega) (by omega)) (fun r22 T24 σ23 gt25 hp => ?_)
  obtain ⟨rfl, rfl, w27, F28⟩ := hp
  clear gt25
  show Tn _ _ 28 T σ23 [(0, .ref a), (1, .int (iI k)), (2, .int (iI y)), (3, .int (iI z))] [] _
  refine tn_aload_n dX1_becomeCopy_28 rfl 0 rfl ?_
  refine tn_iload_n dX1_becomeCopy_29 rfl 1 rfl ?_
  refine tn_bipush dX1_becomeCopy_30 (by decide) ?_
  refine tn_iconst dX1_becomeCopy_32 ?_
  refine tn_callV (M := m_X1_becomeCopy) (pc := 33) (ix := 93) (ci := 1) (M' := m_X1_set) (As := [.int (iI k), .int (iI 6), .int (iI 0)]) (rest := []) dX1_becomeCopy_33 ok_X1_set im_X1_set se_X1_set ml1_93 np_X1_set rfl rfl ha rfl (Nat.le_of_ble_eq_true rfl) (Nat.le_of_ble_eq_true rfl) rfl (k_X1_set (d) (T := T) (σ := σ23) (a := a) (k := k) (c := 6) (y := 0) ha (by omega) (by decide) (by decide) w27 (by omega) (by omega)) (fun r29 T31 σ30 gt32 hp => ?_)
  obtain ⟨rfl, rfl, w34, F35⟩ := hp
  clear gt32
  show Tn _ _ 36 T σ30 [(0, .ref a), (1, .int (iI k)), (2, .int (iI y)), (3, .int (iI z))] [] _
  exact tn_vret rfl dX1_becomeCopy_36 ⟨rfl, rfl, w34, (((((FrC.rfl.trans (FrC.sub F7 (by decide))).trans (FrC.sub F14 (by decide))).trans (FrC.sub F21 (by decide))).trans (FrC.sub F28 (by decide))).trans (FrC.sub F35 (by decide)))⟩
end
section
theorem cd_X1_acts : Cond.code yX1_acts cX1_acts 3 (some .int) ∈ pWW := pw4 (List.mem_of_getElem? (i := 66) rfl) rfl
abbrev m_X1_acts : MT := (yX1_acts, cX1_acts, 3, (some .int))
theorem ok_X1_acts : pOk m_X1_acts := ⟨⟨cd_X1_acts, ini_1⟩, by decide +kernel, ⟨by decide +kernel, by decide +kernel⟩, Nat.le_of_ble_eq_true rfl⟩
theorem np_X1_acts : (parseMethodDescriptor yX1_acts.desc).map (fun d => d.parameters.length) = some 0 := by decide +kernel
theorem im_X1_acts : Cond.instanceMethod yX1_acts ∈ pWW := pw4 (List.mem_of_getElem? (i := 64) rfl) rfl
theorem se_X1_acts : Cond.selects RX1 yX1_acts yX1_acts ∈ pWW := pw4 (List.mem_of_getElem? (i := 65) rfl) rfl
theorem nl1_107 : (RX1, 107, yX11_isAct, "LineKeeper") ∈ nst_M := List.mem_of_getElem? (i := 13) rfl
theorem dX1_acts_0 : decode cX1_acts 0 = .ok (.iconst 0, 1) := by decide +kernel
theorem dX1_acts_1 : decode cX1_acts 1 = .ok (.istore_n 1, 1) := by decide +kernel
theorem dX1_acts_2 : decode cX1_acts 2 = .ok (.iconst 0, 1) := by decide +kernel
theorem dX1_acts_3 : decode cX1_acts 3 = .ok (.istore_n 2, 1) := by decide +kernel
theorem dX1_acts_4 : decode cX1_acts 4 = .ok (.iload_n 2, 1) := by decide +kernel
theorem dX1_acts_5 : decode cX1_acts 5 = .ok (.aload_n 0, 1) := by decide +kernel
theorem dX1_acts_6 : decode cX1_acts 6 = .ok (.getfield 33, 3) := by decide +kernel
theorem dX1_acts_9 : decode cX1_acts 9 = .ok (.if_icmp .ge 24, 3) := by decide +kernel
theorem dX1_acts_12 : decode cX1_acts 12 = .ok (.aload_n 0, 1) := by decide +kernel
theorem dX1_acts_13 : decode cX1_acts 13 = .ok (.iload_n 2, 1) := by decide +kernel
theorem dX1_acts_14 : decode cX1_acts 14 = .ok (.iconst 0, 1) := by decide +kernel
theorem dX1_acts_15 : decode cX1_acts 15 = .ok (.invokevirtual 86, 3) := by decide +kernel
theorem dX1_acts_18 : decode cX1_acts 18 = .ok (.invokestatic 107, 3) := by decide +kernel
theorem dX1_acts_21 : decode cX1_acts 21 = .ok (.ifCond .eq 6, 3) := by decide +kernel
theorem dX1_acts_27 : decode cX1_acts 27 = .ok (.iinc 2 1, 3) := by decide +kernel
theorem dX1_acts_30 : decode cX1_acts 30 = .ok (.goto (-26), 3) := by decide +kernel
theorem dX1_acts_24 : decode cX1_acts 24 = .ok (.iinc 1 1, 3) := by decide +kernel
set_option maxRecDepth 20000 in
theorem l_X1_acts_4 (d : Nat) {T : CT} {σ : MS} {a : Nat} {post : Option Value → CT → MS → Prop} (h_a : OB T a 1) (hw : WT T σ) (hx_33 : ∀ (i1 : Int) (i2 : Int) , (-2147483648 ≤ i1 ∧ i1 ≤ 2147483647) → (0 ≤ i2 ∧ i2 ≤ 2147483647) → Tn (d + 2) m_X1_acts 33 T σ [(0, .ref a), (1, .int (iI i1)), (2, .int (iI i2))] [] post) : ∀ (n : Nat) (i1 : Int) (i2 : Int) , (-2147483648 ≤ i1 ∧ i1 ≤ 2147483647) → (0 ≤ i2 ∧ i2 ≤ 2147483647) → (2147483700 - i2).toNat = n → Tn (d + 2) m_X1_acts 4 T σ [(0, .ref a), (1, .int (iI i1)), (2, .int (iI i2))] [] post := by
  intro n
  induction n using Nat.strongRecOn with
  | _ n ih =>
    intro i1 i2 r_i1 r_i2 hm
    refine tn_iload_n dX1_acts_4 rfl 2 rfl ?_
    refine tn_aload_n dX1_acts_5 rfl 0 rfl ?_
    refine tn_getI (ci := 1) (i := 1) (n := 6) (t := σ.2.1 6 a) dX1_acts_6 rfl lay_1 (by decide) fl1_33 h_a rfl rfl (rfl) ?_
    have g1 : ((0 : Int) ≤ σ.2.1 6 a ∧ σ.2.1 6 a ≤ 5000) ∧ ((T a).1 = 50 → σ.2.1 6 a ≤ 200) := wf_6 hw h_a
    have g1x := g1.2
    replace g1 := g1.1
    clear g1x
    refine tn_icmp_ge (tgt := 33) dX1_acts_9 (by decide) ⟨by omega, by omega⟩ ⟨by omega, by omega⟩ (fun h2 => ?_) (fun h2 => ?_)
    · exact tn_sub [0, 1, 2] rfl (hx_33 (i1) (i2) (by omega) (by omega))
    · refine tn_aload_n dX1_acts_12 rfl 0 rfl ?_
      refine tn_iload_n dX1_acts_13 rfl 2 rfl ?_
      refine tn_iconst dX1_acts_14 ?_
      refine tn_callV (M := m_X1_acts) (pc := 15) (ix := 86) (ci := 1) (M' := m_X1_get) (As := [.int (iI i2), .int (iI 0)]) (rest := []) dX1_acts_15 ok_X1_get im_X1_get se_X1_get ml1_86 np_X1_get rfl rfl h_a rfl (Nat.le_of_ble_eq_true rfl) (Nat.le_of_ble_eq_true rfl) rfl (k_X1_get (d) (T := T) (σ := σ) (a := a) (k := i2) (c := 0) h_a (by omega) (by decide) hw (by omega)) (fun r3 T5 σ4 gt6 hp => ?_)
      obtain ⟨v8, rfl, rfl, rfl, f7⟩ := hp
      clear gt6
      show Tn _ _ 18 T σ [(0, .ref a), (1, .int (iI i1)), (2, .int (iI i2))] [.int (iI v8)] _
      refine tn_callSN (M := m_X1_acts) (pc := 18) (ix := 107) (M' := m_X11_isAct) (As := [.int (iI v8)]) (rest := []) dX1_acts_18 ok_X11_isAct stt_X11_isAct nl1_107 np_X11_isAct rfl (Nat.le_of_ble_eq_true rfl) (Nat.le_of_ble_eq_true rfl) rfl (k_X11_isAct (d) (T := T) (σ := σ) (k := v8) (by omega) hw ) (fun r9 T11 σ10 gt12 hp => ?_)
      obtain ⟨v14, rfl, rfl, rfl, f13⟩ := hp
      clear gt12
      show Tn _ _ 21 T σ [(0, .ref a), (1, .int (iI i1)), (2, .int (iI i2))] [.int (iI v14)] _
      refine tn_if_eq (tgt := 27) dX1_acts_21 (by decide) ⟨by omega, by omega⟩ (fun h15 => ?_) (fun h15 => ?_)
      · refine tn_iinc (q0 := 2) (L' := [(2, .int (iI (i2 + 1))), (0, .ref a), (1, .int (iI i1))]) dX1_acts_27 rfl (by decide) rfl ?_
        refine tn_goto (tgt := 4) dX1_acts_30 (by decide) ?_
        exact tn_sub [1, 2, 0] rfl (ih _ (by omega) (i1) (i2 + 1) (by omega) (by omega) rfl)
      · refine tn_iinc (q0 := 1) (L' := [(1, .int (iI (i1 + 1))), (0, .ref a), (2, .int (iI i2))]) dX1_acts_24 rfl (by decide) rfl ?_
        obtain ⟨z16, g17, g17e⟩ := wr_ex (i1 + 1)
        rw [g17e]
        have g17r : -2147483648 ≤ z16 ∧ z16 ≤ 2147483647 := g17
        refine tn_iinc (q0 := 2) (L' := [(2, .int (iI (i2 + 1))), (1, .int (iI z16)), (0, .ref a)]) dX1_acts_27 rfl (by decide) rfl ?_
        refine tn_goto (tgt := 4) dX1_acts_30 (by decide) ?_
        exact tn_sub [2, 1, 0] rfl (ih _ (by omega) (z16) (i2 + 1) (by omega) (by omega) rfl)
theorem dX1_acts_33 : decode cX1_acts 33 = .ok (.iload_n 1, 1) := by decide +kernel
theorem dX1_acts_34 : decode cX1_acts 34 = .ok (.ireturn, 1) := by decide +kernel
set_option maxRecDepth 20000 in
theorem k_X1_acts (d : Nat) {T : CT} {σ : MS} {a : Nat} (ha : OB T a 1) (hw : WT T σ) : Tn (d + 2) m_X1_acts 0 T σ [(0, .ref a)] [] (fun ro T2 σ2 => ∃ v : Int, ro = some (.int (iI v)) ∧ T = T2 ∧ σ = σ2 ∧ (-2147483648 ≤ v ∧ v ≤ 2147483647)) := by
  refine tn_iconst dX1_acts_0 ?_
  refine tn_istore_n (L' := [(1, .int (iI 0)), (0, .ref a)]) dX1_acts_1 rfl (by decide) rfl ?_
  refine tn_iconst dX1_acts_2 ?_
  refine tn_istore_n (L' := [(2, .int (iI 0)), (1, .int (iI 0)), (0, .ref a)]) dX1_acts_3 rfl (by decide) rfl ?_
  refine tn_sub [2, 1, 0] rfl (l_X1_acts_4 (d) (T := T) (σ := σ) (a := a) ha hw (fun i11 i22 r8 r9 => ?_) _ (0) (0) (by omega) (by omega) rfl)
  show Tn _ _ 33 T σ [(0, .ref a), (1, .int (iI i11)), (2, .int (iI i22))] [] _
  refine tn_iload_n dX1_acts_33 rfl 1 rfl ?_
  exact tn_iret rfl dX1_acts_34 ⟨_, rfl, rfl, rfl, by omega⟩
end
section
theorem cd_X1_greatestIn : Cond.code yX1_greatestIn cX1_greatestIn 4 (some .int) ∈ pWW := pw4 (List.mem_of_getElem? (i := 82) rfl) rfl
abbrev m_X1_greatestIn : MT := (yX1_greatestIn, cX1_greatestIn, 4, (some .int))
theorem ok_X1_greatestIn : pOk m_X1_greatestIn := ⟨⟨cd_X1_greatestIn, ini_1⟩, by decide +kernel, ⟨by decide +kernel, by decide +kernel⟩, Nat.le_of_ble_eq_true rfl⟩
theorem np_X1_greatestIn : (parseMethodDescriptor yX1_greatestIn.desc).map (fun d => d.parameters.length) = some 1 := by decide +kernel
theorem im_X1_greatestIn : Cond.instanceMethod yX1_greatestIn ∈ pWW := pw4 (List.mem_of_getElem? (i := 81) rfl) rfl
theorem se_X1_greatestIn : Cond.selects RX1 yX1_greatestIn yX1_greatestIn ∈ pWW := pws (List.mem_map.mpr ⟨_, lw_pin 38 rfl, rfl⟩) rfl
theorem ml1_116 : Cond.methodLink RX1 116 yX1_writtenBy ∈ pWW := pw4 (List.mem_of_getElem? (i := 83) rfl) rfl
theorem mlm1_63 : Cond.methodLink RX1 63 Lib.Math.max.name ∈ pWW := pw4 (List.mem_of_getElem? (i := 40) rfl) rfl
theorem dX1_greatestIn_0 : decode cX1_greatestIn 0 = .ok (.aload_n 0, 1) := by decide +kernel
theorem dX1_greatestIn_1 : decode cX1_greatestIn 1 = .ok (.iload_n 1, 1) := by decide +kernel
theorem dX1_greatestIn_2 : decode cX1_greatestIn 2 = .ok (.invokevirtual 116, 3) := by decide +kernel
theorem dX1_greatestIn_5 : decode cX1_greatestIn 5 = .ok (.istore_n 2, 1) := by decide +kernel
theorem dX1_greatestIn_6 : decode cX1_greatestIn 6 = .ok (.aload_n 0, 1) := by decide +kernel
theorem dX1_greatestIn_7 : decode cX1_greatestIn 7 = .ok (.iload_n 1, 1) := by decide +kernel
theorem dX1_greatestIn_8 : decode cX1_greatestIn 8 = .ok (.iconst 0, 1) := by decide +kernel
theorem dX1_greatestIn_9 : decode cX1_greatestIn 9 = .ok (.invokevirtual 86, 3) := by decide +kernel
theorem dX1_greatestIn_12 : decode cX1_greatestIn 12 = .ok (.bipush 12, 2) := by decide +kernel
theorem dX1_greatestIn_14 : decode cX1_greatestIn 14 = .ok (.if_icmp .ne 21, 3) := by decide +kernel
theorem dX1_greatestIn_35 : decode cX1_greatestIn 35 = .ok (.iconst 3, 1) := by decide +kernel
theorem dX1_greatestIn_36 : decode cX1_greatestIn 36 = .ok (.istore_n 3, 1) := by decide +kernel
theorem dX1_greatestIn_37 : decode cX1_greatestIn 37 = .ok (.iload_n 3, 1) := by decide +kernel
theorem dX1_greatestIn_38 : decode cX1_greatestIn 38 = .ok (.bipush 11, 2) := by decide +kernel
theorem dX1_greatestIn_40 : decode cX1_greatestIn 40 = .ok (.if_icmp .ge 32, 3) := by decide +kernel
theorem dX1_greatestIn_43 : decode cX1_greatestIn 43 = .ok (.aload_n 0, 1) := by decide +kernel
theorem dX1_greatestIn_44 : decode cX1_greatestIn 44 = .ok (.iload_n 1, 1) := by decide +kernel
theorem dX1_greatestIn_45 : decode cX1_greatestIn 45 = .ok (.iload_n 3, 1) := by decide +kernel
theorem dX1_greatestIn_46 : decode cX1_greatestIn 46 = .ok (.invokevirtual 86, 3) := by decide +kernel
theorem dX1_greatestIn_49 : decode cX1_greatestIn 49 = .ok (.iconst 2, 1) := by decide +kernel
theorem dX1_greatestIn_50 : decode cX1_greatestIn 50 = .ok (.if_icmp .ne 16, 3) := by decide +kernel
theorem dX1_greatestIn_66 : decode cX1_greatestIn 66 = .ok (.iinc 3 2, 3) := by decide +kernel
theorem dX1_greatestIn_69 : decode cX1_greatestIn 69 = .ok (.goto (-32), 3) := by decide +kernel
theorem dX1_greatestIn_53 : decode cX1_greatestIn 53 = .ok (.iload_n 2, 1) := by decide +kernel
theorem dX1_greatestIn_54 : decode cX1_greatestIn 54 = .ok (.aload_n 0, 1) := by decide +kernel
theorem dX1_greatestIn_55 : decode cX1_greatestIn 55 = .ok (.iload_n 1, 1) := by decide +kernel
theorem dX1_greatestIn_56 : decode cX1_greatestIn 56 = .ok (.iload_n 3, 1) := by decide +kernel
theorem dX1_greatestIn_57 : decode cX1_greatestIn 57 = .ok (.iconst 1, 1) := by decide +kernel
theorem dX1_greatestIn_58 : decode cX1_greatestIn 58 = .ok (.iadd, 1) := by decide +kernel
theorem dX1_greatestIn_59 : decode cX1_greatestIn 59 = .ok (.invokevirtual 86, 3) := by decide +kernel
theorem dX1_greatestIn_62 : decode cX1_greatestIn 62 = .ok (.invokestatic 63, 3) := by decide +kernel
theorem dX1_greatestIn_65 : decode cX1_greatestIn 65 = .ok (.istore_n 2, 1) := by decide +kernel
set_option maxRecDepth 20000 in
theorem l_X1_greatestIn_37 (d : Nat) {T : CT} {σ : MS} {a : Nat} {c1 : Int} {post : Option Value → CT → MS → Prop} (h_a : OB T a 1) (r_c1 : -2147483648 ≤ c1 ∧ c1 ≤ 2147483647) (hw : WT T σ) (hx_72 : ∀ (i2 : Int) (i3 : Int) , (-2147483648 ≤ i2 ∧ i2 ≤ 2147483647) → (3 ≤ i3 ∧ i3 ≤ 2147483647) → Tn (d + 3) m_X1_greatestIn 72 T σ [(0, .ref a), (1, .int (iI c1)), (2, .int (iI i2)), (3, .int (iI i3))] [] post) : ∀ (n : Nat) (i2 : Int) (i3 : Int) , (-2147483648 ≤ i2 ∧ i2 ≤ 2147483647) → (3 ≤ i3 ∧ i3 ≤ 2147483647) → (2147483700 - i3).toNat = n → Tn (d + 3) m_X1_greatestIn 37 T σ [(0, .ref a), (1, .int (iI c1)), (2, .int (iI i2)), (3, .int (iI i3))] [] post := by
  intro n
  induction n using Nat.strongRecOn with
  | _ n ih =>
    intro i2 i3 r_i2 r_i3 hm
    refine tn_iload_n dX1_greatestIn_37 rfl 3 rfl ?_
    refine tn_bipush dX1_greatestIn_38 (by decide) ?_
    refine tn_icmp_ge (tgt := 72) dX1_greatestIn_40 (by decide) ⟨by omega, by omega⟩ ⟨by decide, by decide⟩ (fun h1 => ?_) (fun h1 => ?_)
    · exact tn_sub [0, 1, 2, 3] rfl (hx_72 (i2) (i3) (by omega) (by omega))
    · refine tn_aload_n dX1_greatestIn_43 rfl 0 rfl ?_
      refine tn_iload_n dX1_greatestIn_44 rfl 1 rfl ?_
      refine tn_iload_n dX1_greatestIn_45 rfl 3 rfl ?_
      refine tn_callV (M := m_X1_greatestIn) (pc := 46) (ix := 86) (ci := 1) (M' := m_X1_get) (As := [.int (iI c1), .int (iI i3)]) (rest := []) dX1_greatestIn_46 ok_X1_get im_X1_get se_X1_get ml1_86 np_X1_get rfl rfl h_a rfl (Nat.le_of_ble_eq_true rfl) (Nat.le_of_ble_eq_true rfl) rfl (k_X1_get (d + 1) (T := T) (σ := σ) (a := a) (k := c1) (c := i3) h_a (by omega) (by omega) hw (by omega)) (fun r2 T4 σ3 gt5 hp => ?_)
      obtain ⟨v7, rfl, rfl, rfl, f6⟩ := hp
      clear gt5
      show Tn _ _ 49 T σ [(0, .ref a), (1, .int (iI c1)), (2, .int (iI i2)), (3, .int (iI i3))] [.int (iI v7)] _
      refine tn_iconst dX1_greatestIn_49 ?_
      refine tn_icmp_ne (tgt := 66) dX1_greatestIn_50 (by decide) ⟨by omega, by omega⟩ ⟨by decide, by decide⟩ (fun h8 => ?_) (fun h8 => ?_)
      · refine tn_iinc (q0 := 3) (L' := [(3, .int (iI (i3 + 2))), (0, .ref a), (1, .int (iI c1)), (2, .int (iI i2))]) dX1_greatestIn_66 rfl (by decide) rfl ?_
        refine tn_goto (tgt := 37) dX1_greatestIn_69 (by decide) ?_
        exact tn_sub [1, 2, 3, 0] rfl (ih _ (by omega) (i2) (i3 + 2) (by omega) (by omega) rfl)
      · refine tn_iload_n dX1_greatestIn_53 rfl 2 rfl ?_
        refine tn_aload_n dX1_greatestIn_54 rfl 0 rfl ?_
        refine tn_iload_n dX1_greatestIn_55 rfl 1 rfl ?_
        refine tn_iload_n dX1_greatestIn_56 rfl 3 rfl ?_
        refine tn_iconst dX1_greatestIn_57 ?_
        refine tn_iadd dX1_greatestIn_58 ?_
        refine tn_callV (M := m_X1_greatestIn) (pc := 59) (ix := 86) (ci := 1) (M' := m_X1_get) (As := [.int (iI c1), .int (iI (i3 + 1))]) (rest := [.int (iI i2)]) dX1_greatestIn_59 ok_X1_get im_X1_get se_X1_get ml1_86 np_X1_get rfl rfl h_a rfl (Nat.le_of_ble_eq_true rfl) (Nat.le_of_ble_eq_true rfl) rfl (k_X1_get (d + 1) (T := T) (σ := σ) (a := a) (k := c1) (c := i3 + 1) h_a (by omega) (by omega) hw (by omega)) (fun r9 T11 σ10 gt12 hp => ?_)
        obtain ⟨v14, rfl, rfl, rfl, f13⟩ := hp
        clear gt12
        show Tn _ _ 62 T σ [(0, .ref a), (1, .int (iI c1)), (2, .int (iI i2)), (3, .int (iI i3))] [.int (iI v14), .int (iI i2)] _
        refine tn_mmax (x := i2) (y := v14) dX1_greatestIn_62 mlm1_63 stM_max iniM cdM_max (by omega) (Nat.le_of_ble_eq_true rfl) ⟨by omega, by omega⟩ ⟨by omega, by omega⟩ (fun z15 g16 => ?_)
        refine tn_istore_n (L' := [(2, .int (iI z15)), (0, .ref a), (1, .int (iI c1)), (3, .int (iI i3))]) dX1_greatestIn_65 rfl (by decide) rfl ?_
        refine tn_iinc (q0 := 3) (L' := [(3, .int (iI (i3 + 2))), (2, .int (iI z15)), (0, .ref a), (1, .int (iI c1))]) dX1_greatestIn_66 rfl (by decide) rfl ?_
        refine tn_goto (tgt := 37) dX1_greatestIn_69 (by decide) ?_
        exact tn_sub [2, 3, 1, 0] rfl (ih _ (by omega) (z15) (i3 + 2) (by omega) (by omega) rfl)
theorem dX1_greatestIn_72 : decode cX1_greatestIn 72 = .ok (.iload_n 2, 1) := by decide +kernel
theorem dX1_greatestIn_73 : decode cX1_greatestIn 73 = .ok (.ireturn, 1) := by decide +kernel
theorem dX1_greatestIn_17 : decode cX1_greatestIn 17 = .ok (.aload_n 0, 1) := by decide +kernel
theorem dX1_greatestIn_18 : decode cX1_greatestIn 18 = .ok (.iload_n 1, 1) := by decide +kernel
theorem dX1_greatestIn_19 : decode cX1_greatestIn 19 = .ok (.bipush 11, 2) := by decide +kernel
theorem dX1_greatestIn_21 : decode cX1_greatestIn 21 = .ok (.invokevirtual 86, 3) := by decide +kernel
theorem dX1_greatestIn_24 : decode cX1_greatestIn 24 = .ok (.iconst 2, 1) := by decide +kernel
theorem dX1_greatestIn_25 : decode cX1_greatestIn 25 = .ok (.if_icmp .ne 10, 3) := by decide +kernel
theorem dX1_greatestIn_28 : decode cX1_greatestIn 28 = .ok (.aload_n 0, 1) := by decide +kernel
theorem dX1_greatestIn_29 : decode cX1_greatestIn 29 = .ok (.iload_n 1, 1) := by decide +kernel
theorem dX1_greatestIn_30 : decode cX1_greatestIn 30 = .ok (.iconst 4, 1) := by decide +kernel
theorem dX1_greatestIn_31 : decode cX1_greatestIn 31 = .ok (.invokevirtual 86, 3) := by decide +kernel
theorem dX1_greatestIn_34 : decode cX1_greatestIn 34 = .ok (.ireturn, 1) := by decide +kernel
set_option maxRecDepth 20000 in
theorem k_X1_greatestIn (d : Nat) {T : CT} {σ : MS} {a : Nat} {k : Int} (ha : OB T a 1) (h_k : -2147483648 ≤ k ∧ k ≤ 2147483647) (hw : WT T σ) : Tn (d + 3) m_X1_greatestIn 0 T σ [(0, .ref a), (1, .int (iI k))] [] (fun ro T2 σ2 => ∃ v : Int, ro = some (.int (iI v)) ∧ T = T2 ∧ σ = σ2 ∧ (-2147483648 ≤ v ∧ v ≤ 2147483647)) := by
  refine tn_aload_n dX1_greatestIn_0 rfl 0 rfl ?_
  refine tn_iload_n dX1_greatestIn_1 rfl 1 rfl ?_
  refine tn_callV (M := m_X1_greatestIn) (pc := 2) (ix := 116) (ci := 1) (M' := m_X1_writtenBy) (As := [.int (iI k)]) (rest := []) dX1_greatestIn_2 ok_X1_writtenBy im_X1_writtenBy se_X1_writtenBy ml1_116 np_X1_writtenBy rfl rfl ha rfl (Nat.le_of_ble_eq_true rfl) (Nat.le_of_ble_eq_true rfl) rfl (k_X1_writtenBy (d) (T := T) (σ := σ) (a := a) (k := k) ha (by omega) hw ) (fun r1 T3 σ2 gt4 hp => ?_)
  obtain ⟨v6, rfl, rfl, rfl, f5⟩ := hp
  clear gt4
  show Tn _ _ 5 T σ [(0, .ref a), (1, .int (iI k))] [.int (iI v6)] _
  refine tn_istore_n (L' := [(2, .int (iI v6)), (0, .ref a), (1, .int (iI k))]) dX1_greatestIn_5 rfl (by decide) rfl ?_
  refine tn_aload_n dX1_greatestIn_6 rfl 1 rfl ?_
  refine tn_iload_n dX1_greatestIn_7 rfl 2 rfl ?_
  refine tn_iconst dX1_greatestIn_8 ?_
  refine tn_callV (M := m_X1_greatestIn) (pc := 9) (ix := 86) (ci := 1) (M' := m_X1_get) (As := [.int (iI k), .int (iI 0)]) (rest := []) dX1_greatestIn_9 ok_X1_get im_X1_get se_X1_get ml1_86 np_X1_get rfl rfl ha rfl (Nat.le_of_ble_eq_true rfl) (Nat.le_of_ble_eq_true rfl) rfl (k_X1_get (d + 1) (T := T) (σ := σ) (a := a) (k := k) (c := 0) ha (by omega) (by decide) hw (by omega)) (fun r7 T9 σ8 gt10 hp => ?_)
  obtain ⟨v12, rfl, rfl, rfl, f11⟩ := hp
  clear gt10
  show Tn _ _ 12 T σ [(2, .int (iI v6)), (0, .ref a), (1, .int (iI k))] [.int (iI v12)] _
  refine tn_bipush dX1_greatestIn_12 (by decide) ?_
  refine tn_icmp_ne (tgt := 35) dX1_greatestIn_14 (by decide) ⟨by omega, by omega⟩ ⟨by decide, by decide⟩ (fun h13 => ?_) (fun h13 => ?_)
  · refine tn_iconst dX1_greatestIn_35 ?_
    refine tn_istore_n (L' := [(3, .int (iI 3)), (2, .int (iI v6)), (0, .ref a), (1, .int (iI k))]) dX1_greatestIn_36 rfl (by decide) rfl ?_
    refine tn_sub [2, 3, 1, 0] rfl (l_X1_greatestIn_37 (d) (T := T) (σ := σ) (a := a) (c1 := k) ha (by omega) hw (fun i214 i315 r21 r22 => ?_) _ (v6) (3) (by omega) (by omega) rfl)
    show Tn _ _ 72 T σ [(0, .ref a), (1, .int (iI k)), (2, .int (iI i214)), (3, .int (iI i315))] [] _
    refine tn_iload_n dX1_greatestIn_72 rfl 2 rfl ?_
    exact tn_iret rfl dX1_greatestIn_73 ⟨_, rfl, rfl, rfl, by omega⟩
  · refine tn_aload_n dX1_greatestIn_17 rfl 1 rfl ?_
    refine tn_iload_n dX1_greatestIn_18 rfl 2 rfl ?_
    refine tn_bipush dX1_greatestIn_19 (by decide) ?_
    refine tn_callV (M := m_X1_greatestIn) (pc := 21) (ix := 86) (ci := 1) (M' := m_X1_get) (As := [.int (iI k), .int (iI 11)]) (rest := []) dX1_greatestIn_21 ok_X1_get im_X1_get se_X1_get ml1_86 np_X1_get rfl rfl ha rfl (Nat.le_of_ble_eq_true rfl) (Nat.le_of_ble_eq_true rfl) rfl (k_X1_get (d + 1) (T := T) (σ := σ) (a := a) (k := k) (c := 11) ha (by omega) (by decide) hw (by omega)) (fun r23 T25 σ24 gt26 hp => ?_)
    obtain ⟨v28, rfl, rfl, rfl, f27⟩ := hp
    clear gt26
    show Tn _ _ 24 T σ [(2, .int (iI v6)), (0, .ref a), (1, .int (iI k))] [.int (iI v28)] _
    refine tn_iconst dX1_greatestIn_24 ?_
    refine tn_icmp_ne (tgt := 35) dX1_greatestIn_25 (by decide) ⟨by omega, by omega⟩ ⟨by decide, by decide⟩ (fun h29 => ?_) (fun h29 => ?_)
    · refine tn_iconst dX1_greatestIn_35 ?_
      refine tn_istore_n (L' := [(3, .int (iI 3)), (2, .int (iI v6)), (0, .ref a), (1, .int (iI k))]) dX1_greatestIn_36 rfl (by decide) rfl ?_
      refine tn_sub [2, 3, 1, 0] rfl (l_X1_greatestIn_37 (d) (T := T) (σ := σ) (a := a) (c1 := k) ha (by omega) hw (fun i230 i331 r37 r38 => ?_) _ (v6) (3) (by omega) (by omega) rfl)
      show Tn _ _ 72 T σ [(0, .ref a), (1, .int (iI k)), (2, .int (iI i230)), (3, .int (iI i331))] [] _
      refine tn_iload_n dX1_greatestIn_72 rfl 2 rfl ?_
      exact tn_iret rfl dX1_greatestIn_73 ⟨_, rfl, rfl, rfl, by omega⟩
    · refine tn_aload_n dX1_greatestIn_28 rfl 1 rfl ?_
      refine tn_iload_n dX1_greatestIn_29 rfl 2 rfl ?_
      refine tn_iconst dX1_greatestIn_30 ?_
      refine tn_callV (M := m_X1_greatestIn) (pc := 31) (ix := 86) (ci := 1) (M' := m_X1_get) (As := [.int (iI k), .int (iI 4)]) (rest := []) dX1_greatestIn_31 ok_X1_get im_X1_get se_X1_get ml1_86 np_X1_get rfl rfl ha rfl (Nat.le_of_ble_eq_true rfl) (Nat.le_of_ble_eq_true rfl) rfl (k_X1_get (d + 1) (T := T) (σ := σ) (a := a) (k := k) (c := 4) ha (by omega) (by decide) hw (by omega)) (fun r39 T41 σ40 gt42 hp => ?_)
      obtain ⟨v44, rfl, rfl, rfl, f43⟩ := hp
      clear gt42
      show Tn _ _ 34 T σ [(2, .int (iI v6)), (0, .ref a), (1, .int (iI k))] [.int (iI v44)] _
      exact tn_iret rfl dX1_greatestIn_34 ⟨_, rfl, rfl, rfl, by omega⟩
end
section
theorem cd_X1_registers : Cond.code yX1_registers cX1_registers 4 (some .int) ∈ pWW := pw4 (List.mem_of_getElem? (i := 73) rfl) rfl
abbrev m_X1_registers : MT := (yX1_registers, cX1_registers, 4, (some .int))
theorem ok_X1_registers : pOk m_X1_registers := ⟨⟨cd_X1_registers, ini_1⟩, by decide +kernel, ⟨by decide +kernel, by decide +kernel⟩, Nat.le_of_ble_eq_true rfl⟩
theorem np_X1_registers : (parseMethodDescriptor yX1_registers.desc).map (fun d => d.parameters.length) = some 0 := by decide +kernel
theorem im_X1_registers : Cond.instanceMethod yX1_registers ∈ pWW := pw4 (List.mem_of_getElem? (i := 71) rfl) rfl
theorem se_X1_registers : Cond.selects RX1 yX1_registers yX1_registers ∈ pWW := pw4 (List.mem_of_getElem? (i := 72) rfl) rfl
theorem ml1_110 : Cond.methodLink RX1 110 yX1_homeOf ∈ pWW := pw4 (List.mem_of_getElem? (i := 75) rfl) rfl
theorem dX1_registers_0 : decode cX1_registers 0 = .ok (.iconst (-1), 1) := by decide +kernel
theorem dX1_registers_1 : decode cX1_registers 1 = .ok (.istore_n 1, 1) := by decide +kernel
theorem dX1_registers_2 : decode cX1_registers 2 = .ok (.iconst 0, 1) := by decide +kernel
theorem dX1_registers_3 : decode cX1_registers 3 = .ok (.istore_n 2, 1) := by decide +kernel
theorem dX1_registers_4 : decode cX1_registers 4 = .ok (.iload_n 2, 1) := by decide +kernel
theorem dX1_registers_5 : decode cX1_registers 5 = .ok (.aload_n 0, 1) := by decide +kernel
theorem dX1_registers_6 : decode cX1_registers 6 = .ok (.getfield 46, 3) := by decide +kernel
theorem dX1_registers_9 : decode cX1_registers 9 = .ok (.if_icmp .ge 40, 3) := by decide +kernel
theorem dX1_registers_12 : decode cX1_registers 12 = .ok (.iconst 0, 1) := by decide +kernel
theorem dX1_registers_13 : decode cX1_registers 13 = .ok (.istore_n 3, 1) := by decide +kernel
theorem dX1_registers_14 : decode cX1_registers 14 = .ok (.iload_n 3, 1) := by decide +kernel
theorem dX1_registers_15 : decode cX1_registers 15 = .ok (.aload_n 0, 1) := by decide +kernel
theorem dX1_registers_16 : decode cX1_registers 16 = .ok (.getfield 24, 3) := by decide +kernel
theorem dX1_registers_19 : decode cX1_registers 19 = .ok (.iload_n 2, 1) := by decide +kernel
theorem dX1_registers_20 : decode cX1_registers 20 = .ok (.invokestatic 53, 3) := by decide +kernel
theorem dX1_registers_23 : decode cX1_registers 23 = .ok (.if_icmp .ge 20, 3) := by decide +kernel
theorem dX1_registers_26 : decode cX1_registers 26 = .ok (.iload_n 1, 1) := by decide +kernel
theorem dX1_registers_27 : decode cX1_registers 27 = .ok (.aload_n 0, 1) := by decide +kernel
theorem dX1_registers_28 : decode cX1_registers 28 = .ok (.iload_n 2, 1) := by decide +kernel
theorem dX1_registers_29 : decode cX1_registers 29 = .ok (.iload_n 3, 1) := by decide +kernel
theorem dX1_registers_30 : decode cX1_registers 30 = .ok (.invokevirtual 110, 3) := by decide +kernel
theorem dX1_registers_33 : decode cX1_registers 33 = .ok (.invokestatic 63, 3) := by decide +kernel
theorem dX1_registers_36 : decode cX1_registers 36 = .ok (.istore_n 1, 1) := by decide +kernel
theorem dX1_registers_37 : decode cX1_registers 37 = .ok (.iinc 3 1, 3) := by decide +kernel
theorem dX1_registers_40 : decode cX1_registers 40 = .ok (.goto (-26), 3) := by decide +kernel
set_option maxRecDepth 20000 in
theorem l_X1_registers_14 (d : Nat) {T : CT} {σ : MS} {a : Nat} {c2 : Int} {post : Option Value → CT → MS → Prop} (h_a : OB T a 1) (r_c2 : 0 ≤ c2 ∧ c2 ≤ 11) (hw : WT T σ) (hx_43 : ∀ (i1 : Int) (i3 : Int) , (-2147483648 ≤ i1 ∧ i1 ≤ 2147483647) → (0 ≤ i3 ∧ i3 ≤ 2147483647) → Tn (d + 4) m_X1_registers 43 T σ [(0, .ref a), (1, .int (iI i1)), (2, .int (iI c2)), (3, .int (iI i3))] [] post) : ∀ (n : Nat) (i1 : Int) (i3 : Int) , (-2147483648 ≤ i1 ∧ i1 ≤ 2147483647) → (0 ≤ i3 ∧ i3 ≤ 2147483647) → (2147483700 - i3).toNat = n → Tn (d + 4) m_X1_registers 14 T σ [(0, .ref a), (1, .int (iI i1)), (2, .int (iI c2)), (3, .int (iI i3))] [] post := by
  intro n
  induction n using Nat.strongRecOn with
  | _ n ih =>
    intro i1 i3 r_i1 r_i3 hm
    refine tn_iload_n dX1_registers_14 rfl 3 rfl ?_
    refine tn_aload_n dX1_registers_15 rfl 0 rfl ?_
    obtain ⟨x1, hx2, hk3, hl4⟩ : ∃ x : Nat, σ.2.1 14 a = (x : Int) ∧ AR T x 11 12 12 := wf_14 hw h_a
    have hk3i : IA T x1 := by unfold IA; omega
    refine tn_getR (ci := 1) (i := 9) (n := 14) (x := x1) dX1_registers_16 rfl lay_1 (by decide) fl1_24 h_a rfl rfl (hx2) ?_
    refine tn_iload_n dX1_registers_19 rfl 2 rfl ?_
    refine tn_callSN (M := m_X1_registers) (pc := 20) (ix := 53) (M' := m_X11_at) (As := [.ref x1, .int (iI c2)]) (rest := [.int (iI i3)]) dX1_registers_20 ok_X11_at stt_X11_at nl1_53 np_X11_at rfl (Nat.le_of_ble_eq_true rfl) (Nat.le_of_ble_eq_true rfl) rfl (k_X11_at (d + 2) (T := T) (σ := σ) (x := x1) (i := c2) hk3i (by omega) (by omega) hw ) (fun r5 T7 σ6 gt8 hp => ?_)
    obtain ⟨v12, rfl, rfl, rfl, f9, f10, f11⟩ := hp
    clear gt8
    have f10n := f10.2.1 hk3
    clear f10 f11
    show Tn _ _ 23 T σ [(0, .ref a), (1, .int (iI i1)), (2, .int (iI c2)), (3, .int (iI i3))] [.int (iI v12), .int (iI i3)] _
    refine tn_icmp_ge (tgt := 43) dX1_registers_23 (by decide) ⟨by omega, by omega⟩ ⟨by omega, by omega⟩ (fun h13 => ?_) (fun h13 => ?_)
    · exact tn_sub [0, 1, 2, 3] rfl (hx_43 (i1) (i3) (by omega) (by omega))
    · refine tn_iload_n dX1_registers_26 rfl 1 rfl ?_
      refine tn_aload_n dX1_registers_27 rfl 0 rfl ?_
      refine tn_iload_n dX1_registers_28 rfl 2 rfl ?_
      refine tn_iload_n dX1_registers_29 rfl 3 rfl ?_
      refine tn_callV (M := m_X1_registers) (pc := 30) (ix := 110) (ci := 1) (M' := m_X1_homeOf) (As := [.int (iI c2), .int (iI i3)]) (rest := [.int (iI i1)]) dX1_registers_30 ok_X1_homeOf im_X1_homeOf se_X1_homeOf ml1_110 np_X1_homeOf rfl rfl h_a rfl (Nat.le_of_ble_eq_true rfl) (Nat.le_of_ble_eq_true rfl) rfl (k_X1_homeOf (d + 1) (T := T) (σ := σ) (a := a) (f := c2) (m := i3) h_a (by omega) (by omega) hw ) (fun r14 T16 σ15 gt17 hp => ?_)
      obtain ⟨v19, rfl, rfl, rfl, f18⟩ := hp
      clear gt17
      show Tn _ _ 33 T σ [(0, .ref a), (1, .int (iI i1)), (2, .int (iI c2)), (3, .int (iI i3))] [.int (iI v19), .int (iI i1)] _
      refine tn_mmax (x := i1) (y := v19) dX1_registers_33 mlm1_63 stM_max iniM cdM_max (by omega) (Nat.le_of_ble_eq_true rfl) ⟨by omega, by omega⟩ ⟨by omega, by omega⟩ (fun z20 g21 => ?_)
      refine tn_istore_n (L' := [(1, .int (iI z20)), (0, .ref a), (2, .int (iI c2)), (3, .int (iI i3))]) dX1_registers_36 rfl (by decide) rfl ?_
      refine tn_iinc (q0 := 3) (L' := [(3, .int (iI (i3 + 1))), (1, .int (iI z20)), (0, .ref a), (2, .int (iI c2))]) dX1_registers_37 rfl (by decide) rfl ?_
      refine tn_goto (tgt := 14) dX1_registers_40 (by decide) ?_
      exact tn_sub [2, 1, 3, 0] rfl (ih _ (by omega) (z20) (i3 + 1) (by omega) (by omega) rfl)
theorem dX1_registers_43 : decode cX1_registers 43 = .ok (.iinc 2 1, 3) := by decide +kernel
theorem dX1_registers_46 : decode cX1_registers 46 = .ok (.goto (-42), 3) := by decide +kernel
set_option maxRecDepth 20000 in
theorem l_X1_registers_4 (d : Nat) {T : CT} {σ : MS} {a : Nat} {post : Option Value → CT → MS → Prop} (h_a : OB T a 1) (hw : WT T σ) (hx_49 : ∀ (i1 : Int) (i2 : Int) , (-2147483648 ≤ i1 ∧ i1 ≤ 2147483647) → (0 ≤ i2 ∧ i2 ≤ 2147483647) → Tn (d + 4) m_X1_registers 49 T σ [(0, .ref a), (1, .int (iI i1)), (2, .int (iI i2))] [] post) : ∀ (n : Nat) (i1 : Int) (i2 : Int) , (-2147483648 ≤ i1 ∧ i1 ≤ 2147483647) → (0 ≤ i2 ∧ i2 ≤ 2147483647) → (2147483700 - i2).toNat = n → Tn (d + 4) m_X1_registers 4 T σ [(0, .ref a), (1, .int (iI i1)), (2, .int (iI i2))] [] post := by
  intro n
  induction n using Nat.strongRecOn with
  | _ n ih =>
    intro i1 i2 r_i1 r_i2 hm
    refine tn_iload_n dX1_registers_4 rfl 2 rfl ?_
    refine tn_aload_n dX1_registers_5 rfl 0 rfl ?_
    refine tn_getI (ci := 1) (i := 5) (n := 10) (t := σ.2.1 10 a) dX1_registers_6 rfl lay_1 (by decide) fl1_46 h_a rfl rfl (rfl) ?_
    have g1 : ((0 : Int) ≤ σ.2.1 10 a ∧ σ.2.1 10 a ≤ 12) := wf_10 hw h_a
    refine tn_icmp_ge (tgt := 49) dX1_registers_9 (by decide) ⟨by omega, by omega⟩ ⟨by omega, by omega⟩ (fun h2 => ?_) (fun h2 => ?_)
    · exact tn_sub [0, 1, 2] rfl (hx_49 (i1) (i2) (by omega) (by omega))
    · refine tn_iconst dX1_registers_12 ?_
      refine tn_istore_n (L' := [(3, .int (iI 0)), (0, .ref a), (1, .int (iI i1)), (2, .int (iI i2))]) dX1_registers_13 rfl (by decide) rfl ?_
      refine tn_sub [1, 2, 3, 0] rfl (l_X1_registers_14 (d) (T := T) (σ := σ) (a := a) (c2 := i2) h_a (by omega) hw (fun i13 i34 r10 r11 => ?_) _ (i1) (0) (by omega) (by omega) rfl)
      show Tn _ _ 43 T σ [(0, .ref a), (1, .int (iI i13)), (2, .int (iI i2)), (3, .int (iI i34))] [] _
      refine tn_iinc (q0 := 2) (L' := [(2, .int (iI (i2 + 1))), (0, .ref a), (1, .int (iI i13)), (3, .int (iI i34))]) dX1_registers_43 rfl (by decide) rfl ?_
      refine tn_goto (tgt := 4) dX1_registers_46 (by decide) ?_
      exact tn_sub [1, 2, 0] rfl (ih _ (by omega) (i13) (i2 + 1) (by omega) (by omega) rfl)
theorem ml1_113 : Cond.methodLink RX1 113 yX1_greatestIn ∈ pWW := pw4 (List.mem_of_getElem? (i := 79) rfl) rfl
theorem dX1_registers_49 : decode cX1_registers 49 = .ok (.iconst 0, 1) := by decide +kernel
theorem dX1_registers_50 : decode cX1_registers 50 = .ok (.istore_n 2, 1) := by decide +kernel
theorem dX1_registers_51 : decode cX1_registers 51 = .ok (.iload_n 2, 1) := by decide +kernel
theorem dX1_registers_52 : decode cX1_registers 52 = .ok (.aload_n 0, 1) := by decide +kernel
theorem dX1_registers_53 : decode cX1_registers 53 = .ok (.getfield 33, 3) := by decide +kernel
theorem dX1_registers_56 : decode cX1_registers 56 = .ok (.if_icmp .ge 19, 3) := by decide +kernel
theorem dX1_registers_59 : decode cX1_registers 59 = .ok (.iload_n 1, 1) := by decide +kernel
theorem dX1_registers_60 : decode cX1_registers 60 = .ok (.aload_n 0, 1) := by decide +kernel
theorem dX1_registers_61 : decode cX1_registers 61 = .ok (.iload_n 2, 1) := by decide +kernel
theorem dX1_registers_62 : decode cX1_registers 62 = .ok (.invokevirtual 113, 3) := by decide +kernel
theorem dX1_registers_65 : decode cX1_registers 65 = .ok (.invokestatic 63, 3) := by decide +kernel
theorem dX1_registers_68 : decode cX1_registers 68 = .ok (.istore_n 1, 1) := by decide +kernel
theorem dX1_registers_69 : decode cX1_registers 69 = .ok (.iinc 2 1, 3) := by decide +kernel
theorem dX1_registers_72 : decode cX1_registers 72 = .ok (.goto (-21), 3) := by decide +kernel
set_option maxRecDepth 20000 in
theorem l_X1_registers_51 (d : Nat) {T : CT} {σ : MS} {a : Nat} {post : Option Value → CT → MS → Prop} (h_a : OB T a 1) (hw : WT T σ) (hx_75 : ∀ (i1 : Int) (i2 : Int) , (-2147483648 ≤ i1 ∧ i1 ≤ 2147483647) → (0 ≤ i2 ∧ i2 ≤ 2147483647) → Tn (d + 4) m_X1_registers 75 T σ [(0, .ref a), (1, .int (iI i1)), (2, .int (iI i2))] [] post) : ∀ (n : Nat) (i1 : Int) (i2 : Int) , (-2147483648 ≤ i1 ∧ i1 ≤ 2147483647) → (0 ≤ i2 ∧ i2 ≤ 2147483647) → (2147483700 - i2).toNat = n → Tn (d + 4) m_X1_registers 51 T σ [(0, .ref a), (1, .int (iI i1)), (2, .int (iI i2))] [] post := by
  intro n
  induction n using Nat.strongRecOn with
  | _ n ih =>
    intro i1 i2 r_i1 r_i2 hm
    refine tn_iload_n dX1_registers_51 rfl 2 rfl ?_
    refine tn_aload_n dX1_registers_52 rfl 0 rfl ?_
    refine tn_getI (ci := 1) (i := 1) (n := 6) (t := σ.2.1 6 a) dX1_registers_53 rfl lay_1 (by decide) fl1_33 h_a rfl rfl (rfl) ?_
    have g1 : ((0 : Int) ≤ σ.2.1 6 a ∧ σ.2.1 6 a ≤ 5000) ∧ ((T a).1 = 50 → σ.2.1 6 a ≤ 200) := wf_6 hw h_a
    have g1x := g1.2
    replace g1 := g1.1
    clear g1x
    refine tn_icmp_ge (tgt := 75) dX1_registers_56 (by decide) ⟨by omega, by omega⟩ ⟨by omega, by omega⟩ (fun h2 => ?_) (fun h2 => ?_)
    · exact tn_sub [0, 1, 2] rfl (hx_75 (i1) (i2) (by omega) (by omega))
    · refine tn_iload_n dX1_registers_59 rfl 1 rfl ?_
      refine tn_aload_n dX1_registers_60 rfl 0 rfl ?_
      refine tn_iload_n dX1_registers_61 rfl 2 rfl ?_
      refine tn_callV (M := m_X1_registers) (pc := 62) (ix := 113) (ci := 1) (M' := m_X1_greatestIn) (As := [.int (iI i2)]) (rest := [.int (iI i1)]) dX1_registers_62 ok_X1_greatestIn im_X1_greatestIn se_X1_greatestIn ml1_113 np_X1_greatestIn rfl rfl h_a rfl (Nat.le_of_ble_eq_true rfl) (Nat.le_of_ble_eq_true rfl) rfl (k_X1_greatestIn (d) (T := T) (σ := σ) (a := a) (k := i2) h_a (by omega) hw ) (fun r3 T5 σ4 gt6 hp => ?_)
      obtain ⟨v8, rfl, rfl, rfl, f7⟩ := hp
      clear gt6
      show Tn _ _ 65 T σ [(0, .ref a), (1, .int (iI i1)), (2, .int (iI i2))] [.int (iI v8), .int (iI i1)] _
      refine tn_mmax (x := i1) (y := v8) dX1_registers_65 mlm1_63 stM_max iniM cdM_max (by omega) (Nat.le_of_ble_eq_true rfl) ⟨by omega, by omega⟩ ⟨by omega, by omega⟩ (fun z9 g10 => ?_)
      refine tn_istore_n (L' := [(1, .int (iI z9)), (0, .ref a), (2, .int (iI i2))]) dX1_registers_68 rfl (by decide) rfl ?_
      refine tn_iinc (q0 := 2) (L' := [(2, .int (iI (i2 + 1))), (1, .int (iI z9)), (0, .ref a)]) dX1_registers_69 rfl (by decide) rfl ?_
      refine tn_goto (tgt := 51) dX1_registers_72 (by decide) ?_
      exact tn_sub [2, 1, 0] rfl (ih _ (by omega) (z9) (i2 + 1) (by omega) (by omega) rfl)
theorem dX1_registers_75 : decode cX1_registers 75 = .ok (.iload_n 1, 1) := by decide +kernel
theorem dX1_registers_76 : decode cX1_registers 76 = .ok (.iconst 1, 1) := by decide +kernel
theorem dX1_registers_77 : decode cX1_registers 77 = .ok (.iadd, 1) := by decide +kernel
theorem dX1_registers_78 : decode cX1_registers 78 = .ok (.ireturn, 1) := by decide +kernel
set_option maxRecDepth 20000 in
theorem k_X1_registers (d : Nat) {T : CT} {σ : MS} {a : Nat} (ha : OB T a 1) (hw : WT T σ) : Tn (d + 4) m_X1_registers 0 T σ [(0, .ref a)] [] (fun ro T2 σ2 => ∃ v : Int, ro = some (.int (iI v)) ∧ T = T2 ∧ σ = σ2 ∧ (-2147483648 ≤ v ∧ v ≤ 2147483647)) := by
  refine tn_iconst dX1_registers_0 ?_
  refine tn_istore_n (L' := [(1, .int (iI (-1))), (0, .ref a)]) dX1_registers_1 rfl (by decide) rfl ?_
  refine tn_iconst dX1_registers_2 ?_
  refine tn_istore_n (L' := [(2, .int (iI 0)), (1, .int (iI (-1))), (0, .ref a)]) dX1_registers_3 rfl (by decide) rfl ?_
  refine tn_sub [2, 1, 0] rfl (l_X1_registers_4 (d) (T := T) (σ := σ) (a := a) ha hw (fun i11 i22 r8 r9 => ?_) _ (-1) (0) (by omega) (by omega) rfl)
  show Tn _ _ 49 T σ [(0, .ref a), (1, .int (iI i11)), (2, .int (iI i22))] [] _
  refine tn_iconst dX1_registers_49 ?_
  refine tn_istore_n (L' := [(2, .int (iI 0)), (0, .ref a), (1, .int (iI i11))]) dX1_registers_50 rfl (by decide) rfl ?_
  refine tn_sub [1, 2, 0] rfl (l_X1_registers_51 (d) (T := T) (σ := σ) (a := a) ha hw (fun i110 i211 r17 r18 => ?_) _ (i11) (0) (by omega) (by omega) rfl)
  show Tn _ _ 75 T σ [(0, .ref a), (1, .int (iI i110)), (2, .int (iI i211))] [] _
  refine tn_iload_n dX1_registers_75 rfl 1 rfl ?_
  refine tn_iconst dX1_registers_76 ?_
  refine tn_iadd dX1_registers_77 ?_
  refine tn_any (fun z19 g20 => ?_)
  have g20r : -2147483648 ≤ z19 ∧ z19 ≤ 2147483647 := g20
  exact tn_iret rfl dX1_registers_78 ⟨_, rfl, rfl, rfl, by omega⟩
end
section
theorem cd_X1_greatestLabel : Cond.code yX1_greatestLabel cX1_greatestLabel 4 (some .int) ∈ pWW := pw5 (List.mem_of_getElem? (i := 150) rfl) rfl
abbrev m_X1_greatestLabel : MT := (yX1_greatestLabel, cX1_greatestLabel, 4, (some .int))
theorem ok_X1_greatestLabel : pOk m_X1_greatestLabel := ⟨⟨cd_X1_greatestLabel, ini_1⟩, by decide +kernel, ⟨by decide +kernel, by decide +kernel⟩, Nat.le_of_ble_eq_true rfl⟩
theorem np_X1_greatestLabel : (parseMethodDescriptor yX1_greatestLabel.desc).map (fun d => d.parameters.length) = some 0 := by decide +kernel
theorem im_X1_greatestLabel : Cond.instanceMethod yX1_greatestLabel ∈ pWW := pw5 (List.mem_of_getElem? (i := 148) rfl) rfl
theorem se_X1_greatestLabel : Cond.selects RX1 yX1_greatestLabel yX1_greatestLabel ∈ pWW := pw5 (List.mem_of_getElem? (i := 149) rfl) rfl
theorem dX1_greatestLabel_0 : decode cX1_greatestLabel 0 = .ok (.iconst (-1), 1) := by decide +kernel
theorem dX1_greatestLabel_1 : decode cX1_greatestLabel 1 = .ok (.istore_n 1, 1) := by decide +kernel
theorem dX1_greatestLabel_2 : decode cX1_greatestLabel 2 = .ok (.iconst 0, 1) := by decide +kernel
theorem dX1_greatestLabel_3 : decode cX1_greatestLabel 3 = .ok (.istore_n 2, 1) := by decide +kernel
theorem dX1_greatestLabel_4 : decode cX1_greatestLabel 4 = .ok (.iload_n 2, 1) := by decide +kernel
theorem dX1_greatestLabel_5 : decode cX1_greatestLabel 5 = .ok (.aload_n 0, 1) := by decide +kernel
theorem dX1_greatestLabel_6 : decode cX1_greatestLabel 6 = .ok (.getfield 33, 3) := by decide +kernel
theorem dX1_greatestLabel_9 : decode cX1_greatestLabel 9 = .ok (.if_icmp .ge 45, 3) := by decide +kernel
theorem dX1_greatestLabel_12 : decode cX1_greatestLabel 12 = .ok (.aload_n 0, 1) := by decide +kernel
theorem dX1_greatestLabel_13 : decode cX1_greatestLabel 13 = .ok (.iload_n 2, 1) := by decide +kernel
theorem dX1_greatestLabel_14 : decode cX1_greatestLabel 14 = .ok (.iconst 0, 1) := by decide +kernel
theorem dX1_greatestLabel_15 : decode cX1_greatestLabel 15 = .ok (.invokevirtual 86, 3) := by decide +kernel
theorem dX1_greatestLabel_18 : decode cX1_greatestLabel 18 = .ok (.istore_n 3, 1) := by decide +kernel
theorem dX1_greatestLabel_19 : decode cX1_greatestLabel 19 = .ok (.iload_n 3, 1) := by decide +kernel
theorem dX1_greatestLabel_20 : decode cX1_greatestLabel 20 = .ok (.bipush 8, 2) := by decide +kernel
theorem dX1_greatestLabel_22 : decode cX1_greatestLabel 22 = .ok (.if_icmp .eq 15, 3) := by decide +kernel
theorem dX1_greatestLabel_37 : decode cX1_greatestLabel 37 = .ok (.iload_n 1, 1) := by decide +kernel
theorem dX1_greatestLabel_38 : decode cX1_greatestLabel 38 = .ok (.aload_n 0, 1) := by decide +kernel
theorem dX1_greatestLabel_39 : decode cX1_greatestLabel 39 = .ok (.iload_n 2, 1) := by decide +kernel
theorem dX1_greatestLabel_40 : decode cX1_greatestLabel 40 = .ok (.iconst 1, 1) := by decide +kernel
theorem dX1_greatestLabel_41 : decode cX1_greatestLabel 41 = .ok (.invokevirtual 86, 3) := by decide +kernel
theorem dX1_greatestLabel_44 : decode cX1_greatestLabel 44 = .ok (.invokestatic 63, 3) := by decide +kernel
theorem dX1_greatestLabel_47 : decode cX1_greatestLabel 47 = .ok (.istore_n 1, 1) := by decide +kernel
theorem dX1_greatestLabel_48 : decode cX1_greatestLabel 48 = .ok (.iinc 2 1, 3) := by decide +kernel
theorem dX1_greatestLabel_51 : decode cX1_greatestLabel 51 = .ok (.goto (-47), 3) := by decide +kernel
theorem dX1_greatestLabel_25 : decode cX1_greatestLabel 25 = .ok (.iload_n 3, 1) := by decide +kernel
theorem dX1_greatestLabel_26 : decode cX1_greatestLabel 26 = .ok (.bipush 9, 2) := by decide +kernel
theorem dX1_greatestLabel_28 : decode cX1_greatestLabel 28 = .ok (.if_icmp .eq 9, 3) := by decide +kernel
theorem dX1_greatestLabel_31 : decode cX1_greatestLabel 31 = .ok (.iload_n 3, 1) := by decide +kernel
theorem dX1_greatestLabel_32 : decode cX1_greatestLabel 32 = .ok (.bipush 13, 2) := by decide +kernel
theorem dX1_greatestLabel_34 : decode cX1_greatestLabel 34 = .ok (.if_icmp .ne 14, 3) := by decide +kernel
set_option maxRecDepth 20000 in
theorem l_X1_greatestLabel_4 (d : Nat) {T : CT} {σ : MS} {a : Nat} {post : Option Value → CT → MS → Prop} (h_a : OB T a 1) (hw : WT T σ) (hx_54 : ∀ (i1 : Int) (i2 : Int) , (-2147483648 ≤ i1 ∧ i1 ≤ 2147483647) → (0 ≤ i2 ∧ i2 ≤ 2147483647) → Tn (d + 2) m_X1_greatestLabel 54 T σ [(0, .ref a), (1, .int (iI i1)), (2, .int (iI i2))] [] post) : ∀ (n : Nat) (i1 : Int) (i2 : Int) , (-2147483648 ≤ i1 ∧ i1 ≤ 2147483647) → (0 ≤ i2 ∧ i2 ≤ 2147483647) → (2147483700 - i2).toNat = n → Tn (d + 2) m_X1_greatestLabel 4 T σ [(0, .ref a), (1, .int (iI i1)), (2, .int (iI i2))] [] post := by
  intro n
  induction n using Nat.strongRecOn with
  | _ n ih =>
    intro i1 i2 r_i1 r_i2 hm
    refine tn_iload_n dX1_greatestLabel_4 rfl 2 rfl ?_
    refine tn_aload_n dX1_greatestLabel_5 rfl 0 rfl ?_
    refine tn_getI (ci := 1) (i := 1) (n := 6) (t := σ.2.1 6 a) dX1_greatestLabel_6 rfl lay_1 (by decide) fl1_33 h_a rfl rfl (rfl) ?_
    have g1 : ((0 : Int) ≤ σ.2.1 6 a ∧ σ.2.1 6 a ≤ 5000) ∧ ((T a).1 = 50 → σ.2.1 6 a ≤ 200) := wf_6 hw h_a
    have g1x := g1.2
    replace g1 := g1.1
    clear g1x
    refine tn_icmp_ge (tgt := 54) dX1_greatestLabel_9 (by decide) ⟨by omega, by omega⟩ ⟨by omega, by omega⟩ (fun h2 => ?_) (fun h2 => ?_)
    · exact tn_sub [0, 1, 2] rfl (hx_54 (i1) (i2) (by omega) (by omega))
    · refine tn_aload_n dX1_greatestLabel_12 rfl 0 rfl ?_
      refine tn_iload_n dX1_greatestLabel_13 rfl 2 rfl ?_
      refine tn_iconst dX1_greatestLabel_14 ?_
      refine tn_callV (M := m_X1_greatestLabel) (pc := 15) (ix := 86) (ci := 1) (M' := m_X1_get) (As := [.int (iI i2), .int (iI 0)]) (rest := []) dX1_greatestLabel_15 ok_X1_get im_X1_get se_X1_get ml1_86 np_X1_get rfl rfl h_a rfl (Nat.le_of_ble_eq_true rfl) (Nat.le_of_ble_eq_true rfl) rfl (k_X1_get (d) (T := T) (σ := σ) (a := a) (k := i2) (c := 0) h_a (by omega) (by decide) hw (by omega)) (fun r3 T5 σ4 gt6 hp => ?_)
      obtain ⟨v8, rfl, rfl, rfl, f7⟩ := hp
      clear gt6
      show Tn _ _ 18 T σ [(0, .ref a), (1, .int (iI i1)), (2, .int (iI i2))] [.int (iI v8)] _
      refine tn_istore_n (L' := [(3, .int (iI v8)), (0, .ref a), (1, .int (iI i1)), (2, .int (iI i2))]) dX1_greatestLabel_18 rfl (by decide) rfl ?_
      refine tn_iload_n dX1_greatestLabel_19 rfl 0 rfl ?_
      refine tn_bipush dX1_greatestLabel_20 (by decide) ?_
      refine tn_icmp_eq (tgt := 37) dX1_greatestLabel_22 (by decide) ⟨by omega, by omega⟩ ⟨by decide, by decide⟩ (fun h9 => ?_) (fun h9 => ?_)
      · refine tn_iload_n dX1_greatestLabel_37 rfl 2 rfl ?_
        refine tn_aload_n dX1_greatestLabel_38 rfl 1 rfl ?_
        refine tn_iload_n dX1_greatestLabel_39 rfl 3 rfl ?_
        refine tn_iconst dX1_greatestLabel_40 ?_
        refine tn_callV (M := m_X1_greatestLabel) (pc := 41) (ix := 86) (ci := 1) (M' := m_X1_get) (As := [.int (iI i2), .int (iI 1)]) (rest := [.int (iI i1)]) dX1_greatestLabel_41 ok_X1_get im_X1_get se_X1_get ml1_86 np_X1_get rfl rfl h_a rfl (Nat.le_of_ble_eq_true rfl) (Nat.le_of_ble_eq_true rfl) rfl (k_X1_get (d) (T := T) (σ := σ) (a := a) (k := i2) (c := 1) h_a (by omega) (by decide) hw (by omega)) (fun r10 T12 σ11 gt13 hp => ?_)
        obtain ⟨v15, rfl, rfl, rfl, f14⟩ := hp
        clear gt13
        show Tn _ _ 44 T σ [(3, .int (iI v8)), (0, .ref a), (1, .int (iI i1)), (2, .int (iI i2))] [.int (iI v15), .int (iI i1)] _
        refine tn_mmax (x := i1) (y := v15) dX1_greatestLabel_44 mlm1_63 stM_max iniM cdM_max (by omega) (Nat.le_of_ble_eq_true rfl) ⟨by omega, by omega⟩ ⟨by omega, by omega⟩ (fun z16 g17 => ?_)
        refine tn_istore_n (L' := [(1, .int (iI z16)), (3, .int (iI v8)), (0, .ref a), (2, .int (iI i2))]) dX1_greatestLabel_47 rfl (by decide) rfl ?_
        refine tn_iinc (q0 := 3) (L' := [(2, .int (iI (i2 + 1))), (1, .int (iI z16)), (3, .int (iI v8)), (0, .ref a)]) dX1_greatestLabel_48 rfl (by decide) rfl ?_
        refine tn_goto (tgt := 4) dX1_greatestLabel_51 (by decide) ?_
        exact tn_sub [3, 1, 0] rfl (ih _ (by omega) (z16) (i2 + 1) (by omega) (by omega) rfl)
      · refine tn_iload_n dX1_greatestLabel_25 rfl 0 rfl ?_
        refine tn_bipush dX1_greatestLabel_26 (by decide) ?_
        refine tn_icmp_eq (tgt := 37) dX1_greatestLabel_28 (by decide) ⟨by omega, by omega⟩ ⟨by decide, by decide⟩ (fun h18 => ?_) (fun h18 => ?_)
        · refine tn_iload_n dX1_greatestLabel_37 rfl 2 rfl ?_
          refine tn_aload_n dX1_greatestLabel_38 rfl 1 rfl ?_
          refine tn_iload_n dX1_greatestLabel_39 rfl 3 rfl ?_
          refine tn_iconst dX1_greatestLabel_40 ?_
          refine tn_callV (M := m_X1_greatestLabel) (pc := 41) (ix := 86) (ci := 1) (M' := m_X1_get) (As := [.int (iI i2), .int (iI 1)]) (rest := [.int (iI i1)]) dX1_greatestLabel_41 ok_X1_get im_X1_get se_X1_get ml1_86 np_X1_get rfl rfl h_a rfl (Nat.le_of_ble_eq_true rfl) (Nat.le_of_ble_eq_true rfl) rfl (k_X1_get (d) (T := T) (σ := σ) (a := a) (k := i2) (c := 1) h_a (by omega) (by decide) hw (by omega)) (fun r19 T21 σ20 gt22 hp => ?_)
          obtain ⟨v24, rfl, rfl, rfl, f23⟩ := hp
          clear gt22
          show Tn _ _ 44 T σ [(3, .int (iI v8)), (0, .ref a), (1, .int (iI i1)), (2, .int (iI i2))] [.int (iI v24), .int (iI i1)] _
          refine tn_mmax (x := i1) (y := v24) dX1_greatestLabel_44 mlm1_63 stM_max iniM cdM_max (by omega) (Nat.le_of_ble_eq_true rfl) ⟨by omega, by omega⟩ ⟨by omega, by omega⟩ (fun z25 g26 => ?_)
          refine tn_istore_n (L' := [(1, .int (iI z25)), (3, .int (iI v8)), (0, .ref a), (2, .int (iI i2))]) dX1_greatestLabel_47 rfl (by decide) rfl ?_
          refine tn_iinc (q0 := 3) (L' := [(2, .int (iI (i2 + 1))), (1, .int (iI z25)), (3, .int (iI v8)), (0, .ref a)]) dX1_greatestLabel_48 rfl (by decide) rfl ?_
          refine tn_goto (tgt := 4) dX1_greatestLabel_51 (by decide) ?_
          exact tn_sub [3, 1, 0] rfl (ih _ (by omega) (z25) (i2 + 1) (by omega) (by omega) rfl)
        · refine tn_iload_n dX1_greatestLabel_31 rfl 0 rfl ?_
          refine tn_bipush dX1_greatestLabel_32 (by decide) ?_
          refine tn_icmp_ne (tgt := 48) dX1_greatestLabel_34 (by decide) ⟨by omega, by omega⟩ ⟨by decide, by decide⟩ (fun h27 => ?_) (fun h27 => ?_)
          · refine tn_iinc (q0 := 3) (L' := [(2, .int (iI (i2 + 1))), (3, .int (iI v8)), (0, .ref a), (1, .int (iI i1))]) dX1_greatestLabel_48 rfl (by decide) rfl ?_
            refine tn_goto (tgt := 4) dX1_greatestLabel_51 (by decide) ?_
            exact tn_sub [2, 3, 0] rfl (ih _ (by omega) (i1) (i2 + 1) (by omega) (by omega) rfl)
          · refine tn_iload_n dX1_greatestLabel_37 rfl 2 rfl ?_
            refine tn_aload_n dX1_greatestLabel_38 rfl 1 rfl ?_
            refine tn_iload_n dX1_greatestLabel_39 rfl 3 rfl ?_
            refine tn_iconst dX1_greatestLabel_40 ?_
            refine tn_callV (M := m_X1_greatestLabel) (pc := 41) (ix := 86) (ci := 1) (M' := m_X1_get) (As := [.int (iI i2), .int (iI 1)]) (rest := [.int (iI i1)]) dX1_greatestLabel_41 ok_X1_get im_X1_get se_X1_get ml1_86 np_X1_get rfl rfl h_a rfl (Nat.le_of_ble_eq_true rfl) (Nat.le_of_ble_eq_true rfl) rfl (k_X1_get (d) (T := T) (σ := σ) (a := a) (k := i2) (c := 1) h_a (by omega) (by decide) hw (by omega)) (fun r28 T30 σ29 gt31 hp => ?_)
            obtain ⟨v33, rfl, rfl, rfl, f32⟩ := hp
            clear gt31
            show Tn _ _ 44 T σ [(3, .int (iI v8)), (0, .ref a), (1, .int (iI i1)), (2, .int (iI i2))] [.int (iI v33), .int (iI i1)] _
            refine tn_mmax (x := i1) (y := v33) dX1_greatestLabel_44 mlm1_63 stM_max iniM cdM_max (by omega) (Nat.le_of_ble_eq_true rfl) ⟨by omega, by omega⟩ ⟨by omega, by omega⟩ (fun z34 g35 => ?_)
            refine tn_istore_n (L' := [(1, .int (iI z34)), (3, .int (iI v8)), (0, .ref a), (2, .int (iI i2))]) dX1_greatestLabel_47 rfl (by decide) rfl ?_
            refine tn_iinc (q0 := 3) (L' := [(2, .int (iI (i2 + 1))), (1, .int (iI z34)), (3, .int (iI v8)), (0, .ref a)]) dX1_greatestLabel_48 rfl (by decide) rfl ?_
            refine tn_goto (tgt := 4) dX1_greatestLabel_51 (by decide) ?_
            exact tn_sub [3, 1, 0] rfl (ih _ (by omega) (z34) (i2 + 1) (by omega) (by omega) rfl)
theorem dX1_greatestLabel_54 : decode cX1_greatestLabel 54 = .ok (.iload_n 1, 1) := by decide +kernel
theorem dX1_greatestLabel_55 : decode cX1_greatestLabel 55 = .ok (.ireturn, 1) := by decide +kernel
set_option maxRecDepth 20000 in
theorem k_X1_greatestLabel (d : Nat) {T : CT} {σ : MS} {a : Nat} (ha : OB T a 1) (hw : WT T σ) : Tn (d + 2) m_X1_greatestLabel 0 T σ [(0, .ref a)] [] (fun ro T2 σ2 => ∃ v : Int, ro = some (.int (iI v)) ∧ T = T2 ∧ σ = σ2 ∧ (-2147483648 ≤ v ∧ v ≤ 2147483647)) := by
  refine tn_iconst dX1_greatestLabel_0 ?_
  refine tn_istore_n (L' := [(1, .int (iI (-1))), (0, .ref a)]) dX1_greatestLabel_1 rfl (by decide) rfl ?_
  refine tn_iconst dX1_greatestLabel_2 ?_
  refine tn_istore_n (L' := [(2, .int (iI 0)), (1, .int (iI (-1))), (0, .ref a)]) dX1_greatestLabel_3 rfl (by decide) rfl ?_
  refine tn_sub [2, 1, 0] rfl (l_X1_greatestLabel_4 (d) (T := T) (σ := σ) (a := a) ha hw (fun i11 i22 r8 r9 => ?_) _ (-1) (0) (by omega) (by omega) rfl)
  show Tn _ _ 54 T σ [(0, .ref a), (1, .int (iI i11)), (2, .int (iI i22))] [] _
  refine tn_iload_n dX1_greatestLabel_54 rfl 1 rfl ?_
  exact tn_iret rfl dX1_greatestLabel_55 ⟨_, rfl, rfl, rfl, by omega⟩
end
section
theorem cd_X1_isHome : Cond.code yX1_isHome cX1_isHome 4 (some .boolean) ∈ pWW := pw5 (List.mem_of_getElem? (i := 113) rfl) rfl
abbrev m_X1_isHome : MT := (yX1_isHome, cX1_isHome, 4, (some .boolean))
theorem ok_X1_isHome : pOk m_X1_isHome := ⟨⟨cd_X1_isHome, ini_1⟩, by decide +kernel, ⟨by decide +kernel, by decide +kernel⟩, Nat.le_of_ble_eq_true rfl⟩
theorem np_X1_isHome : (parseMethodDescriptor yX1_isHome.desc).map (fun d => d.parameters.length) = some 1 := by decide +kernel
theorem im_X1_isHome : Cond.instanceMethod yX1_isHome ∈ pWW := pw5 (List.mem_of_getElem? (i := 111) rfl) rfl
theorem se_X1_isHome : Cond.selects RX1 yX1_isHome yX1_isHome ∈ pWW := pw5 (List.mem_of_getElem? (i := 112) rfl) rfl
theorem dX1_isHome_0 : decode cX1_isHome 0 = .ok (.iconst 0, 1) := by decide +kernel
theorem dX1_isHome_1 : decode cX1_isHome 1 = .ok (.istore_n 2, 1) := by decide +kernel
theorem dX1_isHome_2 : decode cX1_isHome 2 = .ok (.iload_n 2, 1) := by decide +kernel
theorem dX1_isHome_3 : decode cX1_isHome 3 = .ok (.aload_n 0, 1) := by decide +kernel
theorem dX1_isHome_4 : decode cX1_isHome 4 = .ok (.getfield 46, 3) := by decide +kernel
theorem dX1_isHome_7 : decode cX1_isHome 7 = .ok (.if_icmp .ge 41, 3) := by decide +kernel
theorem dX1_isHome_10 : decode cX1_isHome 10 = .ok (.iconst 0, 1) := by decide +kernel
theorem dX1_isHome_11 : decode cX1_isHome 11 = .ok (.istore_n 3, 1) := by decide +kernel
theorem dX1_isHome_12 : decode cX1_isHome 12 = .ok (.iload_n 3, 1) := by decide +kernel
theorem dX1_isHome_13 : decode cX1_isHome 13 = .ok (.aload_n 0, 1) := by decide +kernel
theorem dX1_isHome_14 : decode cX1_isHome 14 = .ok (.getfield 24, 3) := by decide +kernel
theorem dX1_isHome_17 : decode cX1_isHome 17 = .ok (.iload_n 2, 1) := by decide +kernel
theorem dX1_isHome_18 : decode cX1_isHome 18 = .ok (.invokestatic 53, 3) := by decide +kernel
theorem dX1_isHome_21 : decode cX1_isHome 21 = .ok (.if_icmp .ge 21, 3) := by decide +kernel
theorem dX1_isHome_24 : decode cX1_isHome 24 = .ok (.aload_n 0, 1) := by decide +kernel
theorem dX1_isHome_25 : decode cX1_isHome 25 = .ok (.iload_n 2, 1) := by decide +kernel
theorem dX1_isHome_26 : decode cX1_isHome 26 = .ok (.iload_n 3, 1) := by decide +kernel
theorem dX1_isHome_27 : decode cX1_isHome 27 = .ok (.invokevirtual 110, 3) := by decide +kernel
theorem dX1_isHome_30 : decode cX1_isHome 30 = .ok (.iload_n 1, 1) := by decide +kernel
theorem dX1_isHome_31 : decode cX1_isHome 31 = .ok (.if_icmp .ne 5, 3) := by decide +kernel
theorem dX1_isHome_36 : decode cX1_isHome 36 = .ok (.iinc 3 1, 3) := by decide +kernel
theorem dX1_isHome_39 : decode cX1_isHome 39 = .ok (.goto (-27), 3) := by decide +kernel
set_option maxRecDepth 20000 in
theorem l_X1_isHome_12 (d : Nat) {T : CT} {σ : MS} {a : Nat} {c1 : Int} {c2 : Int} {post : Option Value → CT → MS → Prop} (h_a : OB T a 1) (r_c1 : -2147483648 ≤ c1 ∧ c1 ≤ 2147483647) (r_c2 : 0 ≤ c2 ∧ c2 ≤ 11) (hw : WT T σ) (hx_34 : ∀ (i3 : Int) , (0 ≤ i3 ∧ i3 ≤ 2147483647) → Tn (d + 3) m_X1_isHome 34 T σ [(0, .ref a), (1, .int (iI c1)), (2, .int (iI c2)), (3, .int (iI i3))] [] post) (hx_42 : ∀ (i3 : Int) , (0 ≤ i3 ∧ i3 ≤ 2147483647) → Tn (d + 3) m_X1_isHome 42 T σ [(0, .ref a), (1, .int (iI c1)), (2, .int (iI c2)), (3, .int (iI i3))] [] post) : ∀ (n : Nat) (i3 : Int) , (0 ≤ i3 ∧ i3 ≤ 2147483647) → (2147483700 - i3).toNat = n → Tn (d + 3) m_X1_isHome 12 T σ [(0, .ref a), (1, .int (iI c1)), (2, .int (iI c2)), (3, .int (iI i3))] [] post := by
  intro n
  induction n using Nat.strongRecOn with
  | _ n ih =>
    intro i3 r_i3 hm
    refine tn_iload_n dX1_isHome_12 rfl 3 rfl ?_
    refine tn_aload_n dX1_isHome_13 rfl 0 rfl ?_
    obtain ⟨x1, hx2, hk3, hl4⟩ : ∃ x : Nat, σ.2.1 14 a = (x : Int) ∧ AR T x 11 12 12 := wf_14 hw h_a
    have hk3i : IA T x1 := by unfold IA; omega
    refine tn_getR (ci := 1) (i := 9) (n := 14) (x := x1) dX1_isHome_14 rfl lay_1 (by decide) fl1_24 h_a rfl rfl (hx2) ?_
    refine tn_iload_n dX1_isHome_17 rfl 2 rfl ?_
    refine tn_callSN (M := m_X1_isHome) (pc := 18) (ix := 53) (M' := m_X11_at) (As := [.ref x1, .int (iI c2)]) (rest := [.int (iI i3)]) dX1_isHome_18 ok_X11_at stt_X11_at nl1_53 np_X11_at rfl (Nat.le_of_ble_eq_true rfl) (Nat.le_of_ble_eq_true rfl) rfl (k_X11_at (d + 1) (T := T) (σ := σ) (x := x1) (i := c2) hk3i (by omega) (by omega) hw ) (fun r5 T7 σ6 gt8 hp => ?_)
    obtain ⟨v12, rfl, rfl, rfl, f9, f10, f11⟩ := hp
    clear gt8
    have f10n := f10.2.1 hk3
    clear f10 f11
    show Tn _ _ 21 T σ [(0, .ref a), (1, .int (iI c1)), (2, .int (iI c2)), (3, .int (iI i3))] [.int (iI v12), .int (iI i3)] _
    refine tn_icmp_ge (tgt := 42) dX1_isHome_21 (by decide) ⟨by omega, by omega⟩ ⟨by omega, by omega⟩ (fun h13 => ?_) (fun h13 => ?_)
    · exact tn_sub [0, 1, 2, 3] rfl (hx_42 (i3) (by omega))
    · refine tn_aload_n dX1_isHome_24 rfl 0 rfl ?_
      refine tn_iload_n dX1_isHome_25 rfl 2 rfl ?_
      refine tn_iload_n dX1_isHome_26 rfl 3 rfl ?_
      refine tn_callV (M := m_X1_isHome) (pc := 27) (ix := 110) (ci := 1) (M' := m_X1_homeOf) (As := [.int (iI c2), .int (iI i3)]) (rest := []) dX1_isHome_27 ok_X1_homeOf im_X1_homeOf se_X1_homeOf ml1_110 np_X1_homeOf rfl rfl h_a rfl (Nat.le_of_ble_eq_true rfl) (Nat.le_of_ble_eq_true rfl) rfl (k_X1_homeOf (d) (T := T) (σ := σ) (a := a) (f := c2) (m := i3) h_a (by omega) (by omega) hw ) (fun r14 T16 σ15 gt17 hp => ?_)
      obtain ⟨v19, rfl, rfl, rfl, f18⟩ := hp
      clear gt17
      show Tn _ _ 30 T σ [(0, .ref a), (1, .int (iI c1)), (2, .int (iI c2)), (3, .int (iI i3))] [.int (iI v19)] _
      refine tn_iload_n dX1_isHome_30 rfl 1 rfl ?_
      refine tn_icmp_ne (tgt := 36) dX1_isHome_31 (by decide) ⟨by omega, by omega⟩ ⟨by omega, by omega⟩ (fun h20 => ?_) (fun h20 => ?_)
      · refine tn_iinc (q0 := 3) (L' := [(3, .int (iI (i3 + 1))), (0, .ref a), (1, .int (iI c1)), (2, .int (iI c2))]) dX1_isHome_36 rfl (by decide) rfl ?_
        refine tn_goto (tgt := 12) dX1_isHome_39 (by decide) ?_
        exact tn_sub [1, 2, 3, 0] rfl (ih _ (by omega) (i3 + 1) (by omega) rfl)
      · exact tn_sub [0, 1, 2, 3] rfl (hx_34 (i3) (by omega))
theorem dX1_isHome_42 : decode cX1_isHome 42 = .ok (.iinc 2 1, 3) := by decide +kernel
theorem dX1_isHome_45 : decode cX1_isHome 45 = .ok (.goto (-43), 3) := by decide +kernel
set_option maxRecDepth 20000 in
theorem l_X1_isHome_2 (d : Nat) {T : CT} {σ : MS} {a : Nat} {c1 : Int} {post : Option Value → CT → MS → Prop} (h_a : OB T a 1) (r_c1 : -2147483648 ≤ c1 ∧ c1 ≤ 2147483647) (hw : WT T σ) (hx_34 : ∀ (i2 : Int) , (0 ≤ i2 ∧ i2 ≤ 2147483647) → Tn (d + 3) m_X1_isHome 34 T σ [(0, .ref a), (1, .int (iI c1)), (2, .int (iI i2))] [] post) (hx_48 : ∀ (i2 : Int) , (0 ≤ i2 ∧ i2 ≤ 2147483647) → Tn (d + 3) m_X1_isHome 48 T σ [(0, .ref a), (1, .int (iI c1)), (2, .int (iI i2))] [] post) : ∀ (n : Nat) (i2 : Int) , (0 ≤ i2 ∧ i2 ≤ 2147483647) → (2147483700 - i2).toNat = n → Tn (d + 3) m_X1_isHome 2 T σ [(0, .ref a), (1, .int (iI c1)), (2, .int (iI i2))] [] post := by
  intro n
  induction n using Nat.strongRecOn with
  | _ n ih =>
    intro i2 r_i2 hm
    refine tn_iload_n dX1_isHome_2 rfl 2 rfl ?_
    refine tn_aload_n dX1_isHome_3 rfl 0 rfl ?_
    refine tn_getI (ci := 1) (i := 5) (n := 10) (t := σ.2.1 10 a) dX1_isHome_4 rfl lay_1 (by decide) fl1_46 h_a rfl rfl (rfl) ?_
    have g1 : ((0 : Int) ≤ σ.2.1 10 a ∧ σ.2.1 10 a ≤ 12) := wf_10 hw h_a
    refine tn_icmp_ge (tgt := 48) dX1_isHome_7 (by decide) ⟨by omega, by omega⟩ ⟨by omega, by omega⟩ (fun h2 => ?_) (fun h2 => ?_)
    · exact tn_sub [0, 1, 2] rfl (hx_48 (i2) (by omega))
    · refine tn_iconst dX1_isHome_10 ?_
      refine tn_istore_n (L' := [(3, .int (iI 0)), (0, .ref a), (1, .int (iI c1)), (2, .int (iI i2))]) dX1_isHome_11 rfl (by decide) rfl ?_
      refine tn_sub [1, 2, 3, 0] rfl (l_X1_isHome_12 (d) (T := T) (σ := σ) (a := a) (c1 := c1) (c2 := i2) h_a (by omega) (by omega) hw (fun i33 r9 => ?_) (fun i310 r16 => ?_) _ (0) (by omega) rfl)
      · show Tn _ _ 34 T σ [(0, .ref a), (1, .int (iI c1)), (2, .int (iI i2)), (3, .int (iI i33))] [] _
        exact tn_sub [0, 1, 2] rfl (hx_34 (i2) (by omega))
      · show Tn _ _ 42 T σ [(0, .ref a), (1, .int (iI c1)), (2, .int (iI i2)), (3, .int (iI i310))] [] _
        refine tn_iinc (q0 := 2) (L' := [(2, .int (iI (i2 + 1))), (0, .ref a), (1, .int (iI c1)), (3, .int (iI i310))]) dX1_isHome_42 rfl (by decide) rfl ?_
        refine tn_goto (tgt := 2) dX1_isHome_45 (by decide) ?_
        exact tn_sub [1, 2, 0] rfl (ih _ (by omega) (i2 + 1) (by omega) rfl)
theorem dX1_isHome_34 : decode cX1_isHome 34 = .ok (.iconst 1, 1) := by decide +kernel
theorem dX1_isHome_35 : decode cX1_isHome 35 = .ok (.ireturn, 1) := by decide +kernel
theorem dX1_isHome_48 : decode cX1_isHome 48 = .ok (.iconst 0, 1) := by decide +kernel
theorem dX1_isHome_49 : decode cX1_isHome 49 = .ok (.ireturn, 1) := by decide +kernel
set_option maxRecDepth 20000 in
theorem k_X1_isHome (d : Nat) {T : CT} {σ : MS} {a : Nat} {r : Int} (ha : OB T a 1) (h_r : -2147483648 ≤ r ∧ r ≤ 2147483647) (hw : WT T σ) : Tn (d + 3) m_X1_isHome 0 T σ [(0, .ref a), (1, .int (iI r))] [] (fun ro T2 σ2 => ∃ v : Int, ro = some (.int (iI v)) ∧ T = T2 ∧ σ = σ2 ∧ (v = 0 ∨ v = 1)) := by
  refine tn_iconst dX1_isHome_0 ?_
  refine tn_istore_n (L' := [(2, .int (iI 0)), (0, .ref a), (1, .int (iI r))]) dX1_isHome_1 rfl (by decide) rfl ?_
  refine tn_sub [1, 2, 0] rfl (l_X1_isHome_2 (d) (T := T) (σ := σ) (a := a) (c1 := r) ha (by omega) hw (fun i21 r7 => ?_) (fun i28 r14 => ?_) _ (0) (by omega) rfl)
  · show Tn _ _ 34 T σ [(0, .ref a), (1, .int (iI r)), (2, .int (iI i21))] [] _
    refine tn_iconst dX1_isHome_34 ?_
    exact tn_zret (v := 1) rfl (by decide) dX1_isHome_35 ⟨_, rfl, rfl, rfl, by omega⟩
  · show Tn _ _ 48 T σ [(0, .ref a), (1, .int (iI r)), (2, .int (iI i28))] [] _
    refine tn_iconst dX1_isHome_48 ?_
    exact tn_zret (v := 0) rfl (by decide) dX1_isHome_49 ⟨_, rfl, rfl, rfl, by omega⟩
end
section
theorem cd_X1_removeRow : Cond.code yX1_removeRow cX1_removeRow 2 none ∈ pWW := pw4 (List.mem_of_getElem? (i := 229) rfl) rfl
abbrev m_X1_removeRow : MT := (yX1_removeRow, cX1_removeRow, 2, none)
theorem ok_X1_removeRow : pOk m_X1_removeRow := ⟨⟨cd_X1_removeRow, ini_1⟩, by decide +kernel, ⟨by decide +kernel, by decide +kernel⟩, Nat.le_of_ble_eq_true rfl⟩
theorem np_X1_removeRow : (parseMethodDescriptor yX1_removeRow.desc).map (fun d => d.parameters.length) = some 1 := by decide +kernel
theorem im_X1_removeRow : Cond.instanceMethod yX1_removeRow ∈ pWW := pw4 (List.mem_of_getElem? (i := 227) rfl) rfl
theorem se_X1_removeRow : Cond.selects RX1 yX1_removeRow yX1_removeRow ∈ pWW := pw4 (List.mem_of_getElem? (i := 228) rfl) rfl
theorem mla1_80 : Cond.methodLink RX1 80 arraycopyName ∈ pWW := pw4 (List.mem_of_getElem? (i := 41) rfl) rfl
theorem dX1_removeRow_0 : decode cX1_removeRow 0 = .ok (.iload_n 1, 1) := by decide +kernel
theorem dX1_removeRow_1 : decode cX1_removeRow 1 = .ok (.ifCond .lt 68, 3) := by decide +kernel
theorem dX1_removeRow_69 : decode cX1_removeRow 69 = .ok (.return_, 1) := by decide +kernel
theorem dX1_removeRow_4 : decode cX1_removeRow 4 = .ok (.iload_n 1, 1) := by decide +kernel
theorem dX1_removeRow_5 : decode cX1_removeRow 5 = .ok (.aload_n 0, 1) := by decide +kernel
theorem dX1_removeRow_6 : decode cX1_removeRow 6 = .ok (.getfield 33, 3) := by decide +kernel
theorem dX1_removeRow_9 : decode cX1_removeRow 9 = .ok (.if_icmp .ge 60, 3) := by decide +kernel
theorem dX1_removeRow_12 : decode cX1_removeRow 12 = .ok (.aload_n 0, 1) := by decide +kernel
theorem dX1_removeRow_13 : decode cX1_removeRow 13 = .ok (.getfield 33, 3) := by decide +kernel
theorem dX1_removeRow_16 : decode cX1_removeRow 16 = .ok (.bipush 13, 2) := by decide +kernel
theorem dX1_removeRow_18 : decode cX1_removeRow 18 = .ok (.imul, 1) := by decide +kernel
theorem dX1_removeRow_19 : decode cX1_removeRow 19 = .ok (.aload_n 0, 1) := by decide +kernel
theorem dX1_removeRow_20 : decode cX1_removeRow 20 = .ok (.getfield 9, 3) := by decide +kernel
theorem dX1_removeRow_23 : decode cX1_removeRow 23 = .ok (.arraylength, 1) := by decide +kernel
theorem dX1_removeRow_24 : decode cX1_removeRow 24 = .ok (.if_icmp .gt 45, 3) := by decide +kernel
theorem dX1_removeRow_27 : decode cX1_removeRow 27 = .ok (.aload_n 0, 1) := by decide +kernel
theorem dX1_removeRow_28 : decode cX1_removeRow 28 = .ok (.getfield 9, 3) := by decide +kernel
theorem dX1_removeRow_31 : decode cX1_removeRow 31 = .ok (.iload_n 1, 1) := by decide +kernel
theorem dX1_removeRow_32 : decode cX1_removeRow 32 = .ok (.iconst 1, 1) := by decide +kernel
theorem dX1_removeRow_33 : decode cX1_removeRow 33 = .ok (.iadd, 1) := by decide +kernel
theorem dX1_removeRow_34 : decode cX1_removeRow 34 = .ok (.bipush 13, 2) := by decide +kernel
theorem dX1_removeRow_36 : decode cX1_removeRow 36 = .ok (.imul, 1) := by decide +kernel
theorem dX1_removeRow_37 : decode cX1_removeRow 37 = .ok (.aload_n 0, 1) := by decide +kernel
theorem dX1_removeRow_38 : decode cX1_removeRow 38 = .ok (.getfield 9, 3) := by decide +kernel
theorem dX1_removeRow_41 : decode cX1_removeRow 41 = .ok (.iload_n 1, 1) := by decide +kernel
theorem dX1_removeRow_42 : decode cX1_removeRow 42 = .ok (.bipush 13, 2) := by decide +kernel
theorem dX1_removeRow_44 : decode cX1_removeRow 44 = .ok (.imul, 1) := by decide +kernel
theorem dX1_removeRow_45 : decode cX1_removeRow 45 = .ok (.aload_n 0, 1) := by decide +kernel
theorem dX1_removeRow_46 : decode cX1_removeRow 46 = .ok (.getfield 33, 3) := by decide +kernel
theorem dX1_removeRow_49 : decode cX1_removeRow 49 = .ok (.iload_n 1, 1) := by decide +kernel
theorem dX1_removeRow_50 : decode cX1_removeRow 50 = .ok (.isub, 1) := by decide +kernel
theorem dX1_removeRow_51 : decode cX1_removeRow 51 = .ok (.iconst 1, 1) := by decide +kernel
theorem dX1_removeRow_52 : decode cX1_removeRow 52 = .ok (.isub, 1) := by decide +kernel
theorem dX1_removeRow_53 : decode cX1_removeRow 53 = .ok (.bipush 13, 2) := by decide +kernel
theorem dX1_removeRow_55 : decode cX1_removeRow 55 = .ok (.imul, 1) := by decide +kernel
theorem dX1_removeRow_56 : decode cX1_removeRow 56 = .ok (.invokestatic 80, 3) := by decide +kernel
theorem dX1_removeRow_59 : decode cX1_removeRow 59 = .ok (.aload_n 0, 1) := by decide +kernel
theorem dX1_removeRow_60 : decode cX1_removeRow 60 = .ok (.dup, 1) := by decide +kernel
theorem dX1_removeRow_61 : decode cX1_removeRow 61 = .ok (.getfield 33, 3) := by decide +kernel
theorem dX1_removeRow_64 : decode cX1_removeRow 64 = .ok (.iconst 1, 1) := by decide +kernel
theorem dX1_removeRow_65 : decode cX1_removeRow 65 = .ok (.isub, 1) := by decide +kernel
theorem dX1_removeRow_66 : decode cX1_removeRow 66 = .ok (.putfield 33, 3) := by decide +kernel
set_option maxRecDepth 20000 in
theorem k_X1_removeRow (d : Nat) {T : CT} {σ : MS} {a : Nat} {k : Int} (ha : OB T a 1) (hta : (T a).1 = 50) (h_k : -2147483648 ≤ k ∧ k ≤ 2147483647) (hw : WT T σ) : Tn (d + 1) m_X1_removeRow 0 T σ [(0, .ref a), (1, .int (iI k))] [] (fun ro T2 σ2 => ro = none ∧ T = T2 ∧ WT T2 σ2 ∧ FrC T [6] σ σ2) := by
  refine tn_iload_n dX1_removeRow_0 rfl 1 rfl ?_
  refine tn_if_lt (tgt := 69) dX1_removeRow_1 (by decide) ⟨by omega, by omega⟩ (fun h1 => ?_) (fun h1 => ?_)
  · exact tn_vret rfl dX1_removeRow_69 ⟨rfl, rfl, hw, FrC.rfl⟩
  · refine tn_iload_n dX1_removeRow_4 rfl 1 rfl ?_
    refine tn_aload_n dX1_removeRow_5 rfl 0 rfl ?_
    refine tn_getI (ci := 1) (i := 1) (n := 6) (t := σ.2.1 6 a) dX1_removeRow_6 rfl lay_1 (by decide) fl1_33 ha rfl rfl (rfl) ?_
    have g2 : ((0 : Int) ≤ σ.2.1 6 a ∧ σ.2.1 6 a ≤ 5000) ∧ ((T a).1 = 50 → σ.2.1 6 a ≤ 200) := wf_6 hw ha
    have g2x := g2.2
    replace g2 := g2.1
    have g2x := g2x hta
    refine tn_icmp_ge (tgt := 69) dX1_removeRow_9 (by decide) ⟨by omega, by omega⟩ ⟨by omega, by omega⟩ (fun h3 => ?_) (fun h3 => ?_)
    · exact tn_vret rfl dX1_removeRow_69 ⟨rfl, rfl, hw, FrC.rfl⟩
    · refine tn_aload_n dX1_removeRow_12 rfl 0 rfl ?_
      refine tn_getI (ci := 1) (i := 1) (n := 6) (t := σ.2.1 6 a) dX1_removeRow_13 rfl lay_1 (by decide) fl1_33 ha rfl rfl (rfl) ?_
      refine tn_bipush dX1_removeRow_16 (by decide) ?_
      refine tn_imul dX1_removeRow_18 ?_
      refine tn_aload_n dX1_removeRow_19 rfl 0 rfl ?_
      obtain ⟨x4, hx5, hl7, hk6a, hk6b⟩ := wf_5 hw ha
      have hk6 : (T x4).1 = 1 := hk6a (by omega)
      clear hk6a hk6b
      have hk6i : IA T x4 := by unfold IA; omega
      refine tn_getR (ci := 1) (i := 0) (n := 5) (x := x4) dX1_removeRow_20 rfl lay_1 (by decide) fl1_9 ha rfl rfl (hx5) ?_
      refine tn_alenX dX1_removeRow_23 (Or.inl hk6i) ?_
      refine tn_icmp_gt (tgt := 69) dX1_removeRow_24 (by decide) ⟨by omega, by omega⟩ ⟨by omega, by omega⟩ (fun h8 => ?_) (fun h8 => ?_)
      · exact tn_vret rfl dX1_removeRow_69 ⟨rfl, rfl, hw, FrC.rfl⟩
      · refine tn_aload_n dX1_removeRow_27 rfl 0 rfl ?_
        refine tn_getR (ci := 1) (i := 0) (n := 5) (x := x4) dX1_removeRow_28 rfl lay_1 (by decide) fl1_9 ha rfl rfl (hx5) ?_
        refine tn_iload_n dX1_removeRow_31 rfl 1 rfl ?_
        refine tn_iconst dX1_removeRow_32 ?_
        refine tn_iadd dX1_removeRow_33 ?_
        refine tn_bipush dX1_removeRow_34 (by decide) ?_
        refine tn_imul dX1_removeRow_36 ?_
        refine tn_aload_n dX1_removeRow_37 rfl 0 rfl ?_
        refine tn_getR (ci := 1) (i := 0) (n := 5) (x := x4) dX1_removeRow_38 rfl lay_1 (by decide) fl1_9 ha rfl rfl (hx5) ?_
        refine tn_iload_n dX1_removeRow_41 rfl 1 rfl ?_
        refine tn_bipush dX1_removeRow_42 (by decide) ?_
        refine tn_imul dX1_removeRow_44 ?_
        refine tn_aload_n dX1_removeRow_45 rfl 0 rfl ?_
        refine tn_getI (ci := 1) (i := 1) (n := 6) (t := σ.2.1 6 a) dX1_removeRow_46 rfl lay_1 (by decide) fl1_33 ha rfl rfl (rfl) ?_
        refine tn_iload_n dX1_removeRow_49 rfl 1 rfl ?_
        refine tn_isub dX1_removeRow_50 ?_
        refine tn_iconst dX1_removeRow_51 ?_
        refine tn_isub dX1_removeRow_52 ?_
        refine tn_bipush dX1_removeRow_53 (by decide) ?_
        refine tn_imul dX1_removeRow_55 ?_
        refine tn_acopyI (a := x4) (b := x4) (sp := (k + 1) * 13) (dp := k * 13) (n := (((σ.2.1 6 a) - k) - 1) * 13) dX1_removeRow_56 mla1_80 acNat acSt acIni hk6i hk6i ⟨by omega, by omega⟩ (by omega) (by omega) (by omega) (by omega) (by omega) (by omega) (Nat.le_of_ble_eq_true rfl) ?_
        refine tn_aload_n dX1_removeRow_59 rfl 0 rfl ?_
        refine tn_dup dX1_removeRow_60 rfl ?_
        refine tn_getI (ci := 1) (i := 1) (n := 6) (t := σ.2.1 6 a) dX1_removeRow_61 rfl lay_1 (by decide) fl1_33 ha rfl rfl (rc_r (Or.inl (by decide)) (rfl)) ?_
        refine tn_iconst dX1_removeRow_64 ?_
        refine tn_isub dX1_removeRow_65 ?_
        refine tn_putV (ci := 1) (i := 1) (n := 6) (r := false) (v := (σ.2.1 6 a) - 1) tyX1 tyX1_ok nmX1 dX1_removeRow_66 rfl lay_1 (by decide) fl1_33 rfl (tyX1_ok 1 (by decide)) rfl rfl rfl ha rfl rfl ?_
        exact tn_vret rfl dX1_removeRow_69 ⟨rfl, rfl, ((hw.row (Or.inl hk6i) (vok_cp1 hw hk6i hk6i (by have q9 := hk6; omega))).put6 (rc_r (Or.inl (by decide)) (hx5)) (fo_6 ⟨by omega, by omega⟩) (Or.inl (by omega))), ((FrC.rfl.row (hk_no (nh_k hk6 (by unfold HT; omega)))).put (by decide) (by decide))⟩
end
section
theorem cd_X1_liftRow : Cond.code yX1_liftRow cX1_liftRow 3 none ∈ pWW := pw5 (List.mem_of_getElem? (i := 121) rfl) rfl
abbrev m_X1_liftRow : MT := (yX1_liftRow, cX1_liftRow, 3, none)
theorem ok_X1_liftRow : pOk m_X1_liftRow := ⟨⟨cd_X1_liftRow, ini_1⟩, by decide +kernel, ⟨by decide +kernel, by decide +kernel⟩, Nat.le_of_ble_eq_true rfl⟩
theorem np_X1_liftRow : (parseMethodDescriptor yX1_liftRow.desc).map (fun d => d.parameters.length) = some 2 := by decide +kernel
theorem im_X1_liftRow : Cond.instanceMethod yX1_liftRow ∈ pWW := pw5 (List.mem_of_getElem? (i := 119) rfl) rfl
theorem se_X1_liftRow : Cond.selects RX1 yX1_liftRow yX1_liftRow ∈ pWW := pw5 (List.mem_of_getElem? (i := 120) rfl) rfl
theorem fl1_30 : Cond.fieldLink RX1 30 (TX1 11).1 (TX1 11).2.1 (TX1 11).2.2.1 ∈ pWW := pw1 (List.mem_of_getElem? (i := 127) rfl) rfl
theorem dX1_liftRow_0 : decode cX1_liftRow 0 = .ok (.iload_n 2, 1) := by decide +kernel
theorem dX1_liftRow_1 : decode cX1_liftRow 1 = .ok (.ifCond .lt 31, 3) := by decide +kernel
theorem dX1_liftRow_32 : decode cX1_liftRow 32 = .ok (.return_, 1) := by decide +kernel
theorem dX1_liftRow_4 : decode cX1_liftRow 4 = .ok (.iload_n 2, 1) := by decide +kernel
theorem dX1_liftRow_5 : decode cX1_liftRow 5 = .ok (.iload_n 1, 1) := by decide +kernel
theorem dX1_liftRow_6 : decode cX1_liftRow 6 = .ok (.if_icmp .gt 26, 3) := by decide +kernel
theorem dX1_liftRow_9 : decode cX1_liftRow 9 = .ok (.iload_n 1, 1) := by decide +kernel
theorem dX1_liftRow_10 : decode cX1_liftRow 10 = .ok (.aload_n 0, 1) := by decide +kernel
theorem dX1_liftRow_11 : decode cX1_liftRow 11 = .ok (.getfield 33, 3) := by decide +kernel
theorem dX1_liftRow_14 : decode cX1_liftRow 14 = .ok (.if_icmp .ge 18, 3) := by decide +kernel
theorem dX1_liftRow_17 : decode cX1_liftRow 17 = .ok (.aload_n 0, 1) := by decide +kernel
theorem dX1_liftRow_18 : decode cX1_liftRow 18 = .ok (.getfield 33, 3) := by decide +kernel
theorem dX1_liftRow_21 : decode cX1_liftRow 21 = .ok (.bipush 13, 2) := by decide +kernel
theorem dX1_liftRow_23 : decode cX1_liftRow 23 = .ok (.imul, 1) := by decide +kernel
theorem dX1_liftRow_24 : decode cX1_liftRow 24 = .ok (.aload_n 0, 1) := by decide +kernel
theorem dX1_liftRow_25 : decode cX1_liftRow 25 = .ok (.getfield 9, 3) := by decide +kernel
theorem dX1_liftRow_28 : decode cX1_liftRow 28 = .ok (.arraylength, 1) := by decide +kernel
theorem dX1_liftRow_29 : decode cX1_liftRow 29 = .ok (.if_icmp .le 4, 3) := by decide +kernel
theorem dX1_liftRow_33 : decode cX1_liftRow 33 = .ok (.aload_n 0, 1) := by decide +kernel
theorem dX1_liftRow_34 : decode cX1_liftRow 34 = .ok (.getfield 9, 3) := by decide +kernel
theorem dX1_liftRow_37 : decode cX1_liftRow 37 = .ok (.iload_n 1, 1) := by decide +kernel
theorem dX1_liftRow_38 : decode cX1_liftRow 38 = .ok (.bipush 13, 2) := by decide +kernel
theorem dX1_liftRow_40 : decode cX1_liftRow 40 = .ok (.imul, 1) := by decide +kernel
theorem dX1_liftRow_41 : decode cX1_liftRow 41 = .ok (.aload_n 0, 1) := by decide +kernel
theorem dX1_liftRow_42 : decode cX1_liftRow 42 = .ok (.getfield 30, 3) := by decide +kernel
theorem dX1_liftRow_45 : decode cX1_liftRow 45 = .ok (.iconst 0, 1) := by decide +kernel
theorem dX1_liftRow_46 : decode cX1_liftRow 46 = .ok (.bipush 13, 2) := by decide +kernel
theorem dX1_liftRow_48 : decode cX1_liftRow 48 = .ok (.invokestatic 80, 3) := by decide +kernel
theorem dX1_liftRow_51 : decode cX1_liftRow 51 = .ok (.aload_n 0, 1) := by decide +kernel
theorem dX1_liftRow_52 : decode cX1_liftRow 52 = .ok (.getfield 9, 3) := by decide +kernel
theorem dX1_liftRow_55 : decode cX1_liftRow 55 = .ok (.iload_n 2, 1) := by decide +kernel
theorem dX1_liftRow_56 : decode cX1_liftRow 56 = .ok (.bipush 13, 2) := by decide +kernel
theorem dX1_liftRow_58 : decode cX1_liftRow 58 = .ok (.imul, 1) := by decide +kernel
theorem dX1_liftRow_59 : decode cX1_liftRow 59 = .ok (.aload_n 0, 1) := by decide +kernel
theorem dX1_liftRow_60 : decode cX1_liftRow 60 = .ok (.getfield 9, 3) := by decide +kernel
theorem dX1_liftRow_63 : decode cX1_liftRow 63 = .ok (.iload_n 2, 1) := by decide +kernel
theorem dX1_liftRow_64 : decode cX1_liftRow 64 = .ok (.iconst 1, 1) := by decide +kernel
theorem dX1_liftRow_65 : decode cX1_liftRow 65 = .ok (.iadd, 1) := by decide +kernel
theorem dX1_liftRow_66 : decode cX1_liftRow 66 = .ok (.bipush 13, 2) := by decide +kernel
theorem dX1_liftRow_68 : decode cX1_liftRow 68 = .ok (.imul, 1) := by decide +kernel
theorem dX1_liftRow_69 : decode cX1_liftRow 69 = .ok (.iload_n 1, 1) := by decide +kernel
theorem dX1_liftRow_70 : decode cX1_liftRow 70 = .ok (.iload_n 2, 1) := by decide +kernel
theorem dX1_liftRow_71 : decode cX1_liftRow 71 = .ok (.isub, 1) := by decide +kernel
theorem dX1_liftRow_72 : decode cX1_liftRow 72 = .ok (.bipush 13, 2) := by decide +kernel
theorem dX1_liftRow_74 : decode cX1_liftRow 74 = .ok (.imul, 1) := by decide +kernel
theorem dX1_liftRow_75 : decode cX1_liftRow 75 = .ok (.invokestatic 80, 3) := by decide +kernel
theorem dX1_liftRow_78 : decode cX1_liftRow 78 = .ok (.aload_n 0, 1) := by decide +kernel
theorem dX1_liftRow_79 : decode cX1_liftRow 79 = .ok (.getfield 30, 3) := by decide +kernel
theorem dX1_liftRow_82 : decode cX1_liftRow 82 = .ok (.iconst 0, 1) := by decide +kernel
theorem dX1_liftRow_83 : decode cX1_liftRow 83 = .ok (.aload_n 0, 1) := by decide +kernel
theorem dX1_liftRow_84 : decode cX1_liftRow 84 = .ok (.getfield 9, 3) := by decide +kernel
theorem dX1_liftRow_87 : decode cX1_liftRow 87 = .ok (.iload_n 2, 1) := by decide +kernel
theorem dX1_liftRow_88 : decode cX1_liftRow 88 = .ok (.bipush 13, 2) := by decide +kernel
theorem dX1_liftRow_90 : decode cX1_liftRow 90 = .ok (.imul, 1) := by decide +kernel
theorem dX1_liftRow_91 : decode cX1_liftRow 91 = .ok (.bipush 13, 2) := by decide +kernel
theorem dX1_liftRow_93 : decode cX1_liftRow 93 = .ok (.invokestatic 80, 3) := by decide +kernel
theorem dX1_liftRow_96 : decode cX1_liftRow 96 = .ok (.return_, 1) := by decide +kernel
set_option maxRecDepth 20000 in
theorem k_X1_liftRow (d : Nat) {T : CT} {σ : MS} {a : Nat} {f : Int} {t : Int} (ha : OB T a 1) (hta : (T a).1 = 50) (h_f : -2147483648 ≤ f ∧ f ≤ 2147483647) (h_t : -2147483648 ≤ t ∧ t ≤ 2147483647) (hw : WT T σ) : Tn (d + 1) m_X1_liftRow 0 T σ [(0, .ref a), (1, .int (iI f)), (2, .int (iI t))] [] (fun ro T2 σ2 => ro = none ∧ T = T2 ∧ WT T2 σ2 ∧ FrC T [] σ σ2) := by
  refine tn_iload_n dX1_liftRow_0 rfl 2 rfl ?_
  refine tn_if_lt (tgt := 32) dX1_liftRow_1 (by decide) ⟨by omega, by omega⟩ (fun h1 => ?_) (fun h1 => ?_)
  · exact tn_vret rfl dX1_liftRow_32 ⟨rfl, rfl, hw, FrC.rfl⟩
  · refine tn_iload_n dX1_liftRow_4 rfl 2 rfl ?_
    refine tn_iload_n dX1_liftRow_5 rfl 1 rfl ?_
    refine tn_icmp_gt (tgt := 32) dX1_liftRow_6 (by decide) ⟨by omega, by omega⟩ ⟨by omega, by omega⟩ (fun h2 => ?_) (fun h2 => ?_)
    · exact tn_vret rfl dX1_liftRow_32 ⟨rfl, rfl, hw, FrC.rfl⟩
    · refine tn_iload_n dX1_liftRow_9 rfl 1 rfl ?_
      refine tn_aload_n dX1_liftRow_10 rfl 0 rfl ?_
      refine tn_getI (ci := 1) (i := 1) (n := 6) (t := σ.2.1 6 a) dX1_liftRow_11 rfl lay_1 (by decide) fl1_33 ha rfl rfl (rfl) ?_
      have g3 : ((0 : Int) ≤ σ.2.1 6 a ∧ σ.2.1 6 a ≤ 5000) ∧ ((T a).1 = 50 → σ.2.1 6 a ≤ 200) := wf_6 hw ha
      have g3x := g3.2
      replace g3 := g3.1
      have g3x := g3x hta
      refine tn_icmp_ge (tgt := 32) dX1_liftRow_14 (by decide) ⟨by omega, by omega⟩ ⟨by omega, by omega⟩ (fun h4 => ?_) (fun h4 => ?_)
      · exact tn_vret rfl dX1_liftRow_32 ⟨rfl, rfl, hw, FrC.rfl⟩
      · refine tn_aload_n dX1_liftRow_17 rfl 0 rfl ?_
        refine tn_getI (ci := 1) (i := 1) (n := 6) (t := σ.2.1 6 a) dX1_liftRow_18 rfl lay_1 (by decide) fl1_33 ha rfl rfl (rfl) ?_
        refine tn_bipush dX1_liftRow_21 (by decide) ?_
        refine tn_imul dX1_liftRow_23 ?_
        refine tn_aload_n dX1_liftRow_24 rfl 0 rfl ?_
        obtain ⟨x5, hx6, hl8, hk7a, hk7b⟩ := wf_5 hw ha
        have hk7 : (T x5).1 = 1 := hk7a (by omega)
        clear hk7a hk7b
        have hk7i : IA T x5 := by unfold IA; omega
        refine tn_getR (ci := 1) (i := 0) (n := 5) (x := x5) dX1_liftRow_25 rfl lay_1 (by decide) fl1_9 ha rfl rfl (hx6) ?_
        refine tn_alenX dX1_liftRow_28 (Or.inl hk7i) ?_
        refine tn_icmp_le (tgt := 33) dX1_liftRow_29 (by decide) ⟨by omega, by omega⟩ ⟨by omega, by omega⟩ (fun h9 => ?_) (fun h9 => ?_)
        · refine tn_aload_n dX1_liftRow_33 rfl 0 rfl ?_
          refine tn_getR (ci := 1) (i := 0) (n := 5) (x := x5) dX1_liftRow_34 rfl lay_1 (by decide) fl1_9 ha rfl rfl (hx6) ?_
          refine tn_iload_n dX1_liftRow_37 rfl 1 rfl ?_
          refine tn_bipush dX1_liftRow_38 (by decide) ?_
          refine tn_imul dX1_liftRow_40 ?_
          refine tn_aload_n dX1_liftRow_41 rfl 0 rfl ?_
          obtain ⟨x10, hx11, hk12, hl13⟩ : ∃ x : Nat, σ.2.1 16 a = (x : Int) ∧ AR T x 1 13 13 := wf_16 hw ha
          have hk12i : IA T x10 := by unfold IA; omega
          refine tn_getR (ci := 1) (i := 11) (n := 16) (x := x10) dX1_liftRow_42 rfl lay_1 (by decide) fl1_30 ha rfl rfl (hx11) ?_
          refine tn_iconst dX1_liftRow_45 ?_
          refine tn_bipush dX1_liftRow_46 (by decide) ?_
          refine tn_acopyI (a := x5) (b := x10) (sp := f * 13) (dp := 0) (n := 13) dX1_liftRow_48 mla1_80 acNat acSt acIni hk7i hk12i ⟨by omega, by omega⟩ (by omega) (by omega) (by omega) (by omega) (by omega) (by omega) (Nat.le_of_ble_eq_true rfl) ?_
          refine tn_aload_n dX1_liftRow_51 rfl 0 rfl ?_
          refine tn_getR (ci := 1) (i := 0) (n := 5) (x := x5) dX1_liftRow_52 rfl lay_1 (by decide) fl1_9 ha rfl rfl (rc_r (Or.inl (by decide)) (hx6)) ?_
          refine tn_iload_n dX1_liftRow_55 rfl 2 rfl ?_
          refine tn_bipush dX1_liftRow_56 (by decide) ?_
          refine tn_imul dX1_liftRow_58 ?_
          refine tn_aload_n dX1_liftRow_59 rfl 0 rfl ?_
          refine tn_getR (ci := 1) (i := 0) (n := 5) (x := x5) dX1_liftRow_60 rfl lay_1 (by decide) fl1_9 ha rfl rfl (rc_r (Or.inl (by decide)) (hx6)) ?_
          refine tn_iload_n dX1_liftRow_63 rfl 2 rfl ?_
          refine tn_iconst dX1_liftRow_64 ?_
          refine tn_iadd dX1_liftRow_65 ?_
          refine tn_bipush dX1_liftRow_66 (by decide) ?_
          refine tn_imul dX1_liftRow_68 ?_
          refine tn_iload_n dX1_liftRow_69 rfl 1 rfl ?_
          refine tn_iload_n dX1_liftRow_70 rfl 2 rfl ?_
          refine tn_isub dX1_liftRow_71 ?_
          refine tn_bipush dX1_liftRow_72 (by decide) ?_
          refine tn_imul dX1_liftRow_74 ?_
          refine tn_acopyI (a := x5) (b := x5) (sp := t * 13) (dp := (t + 1) * 13) (n := (f - t) * 13) dX1_liftRow_75 mla1_80 acNat acSt acIni hk7i hk7i ⟨by omega, by omega⟩ (by omega) (by omega) (by omega) (by omega) (by omega) (by omega) (Nat.le_of_ble_eq_true rfl) ?_
          refine tn_aload_n dX1_liftRow_78 rfl 0 rfl ?_
          refine tn_getR (ci := 1) (i := 11) (n := 16) (x := x10) dX1_liftRow_79 rfl lay_1 (by decide) fl1_30 ha rfl rfl (rc_r (Or.inl (by decide)) (rc_r (Or.inl (by decide)) (hx11))) ?_
          refine tn_iconst dX1_liftRow_82 ?_
          refine tn_aload_n dX1_liftRow_83 rfl 0 rfl ?_
          refine tn_getR (ci := 1) (i := 0) (n := 5) (x := x5) dX1_liftRow_84 rfl lay_1 (by decide) fl1_9 ha rfl rfl (rc_r (Or.inl (by decide)) (rc_r (Or.inl (by decide)) (hx6))) ?_
          refine tn_iload_n dX1_liftRow_87 rfl 2 rfl ?_
          refine tn_bipush dX1_liftRow_88 (by decide) ?_
          refine tn_imul dX1_liftRow_90 ?_
          refine tn_bipush dX1_liftRow_91 (by decide) ?_
          refine tn_acopyI (a := x10) (b := x5) (sp := 0) (dp := t * 13) (n := 13) dX1_liftRow_93 mla1_80 acNat acSt acIni hk12i hk7i ⟨by omega, by omega⟩ (by omega) (by omega) (by omega) (by omega) (by omega) (by omega) (Nat.le_of_ble_eq_true rfl) ?_
          exact tn_vret rfl dX1_liftRow_96 ⟨rfl, rfl, (((hw.row (Or.inl hk12i) (vok_cp1 hw hk7i hk12i (by have q9 := hk12; omega))).row (Or.inl hk7i) (vok_cp1 (hw.row (Or.inl hk12i) (vok_cp1 hw hk7i hk12i (by have q9 := hk12; omega))) hk7i hk7i (by have q9 := hk7; omega))).row (Or.inl hk7i) (vok_cp1 ((hw.row (Or.inl hk12i) (vok_cp1 hw hk7i hk12i (by have q9 := hk12; omega))).row (Or.inl hk7i) (vok_cp1 (hw.row (Or.inl hk12i) (vok_cp1 hw hk7i hk12i (by have q9 := hk12; omega))) hk7i hk7i (by have q9 := hk7; omega))) hk12i hk7i (by have q9 := hk7; omega))), (((FrC.rfl.row (hk_no (nh_k hk12 (by unfold HT; omega)))).row (hk_no (nh_k hk7 (by unfold HT; omega)))).row (hk_no (nh_k hk7 (by unfold HT; omega))))⟩
        · exact tn_vret rfl dX1_liftRow_32 ⟨rfl, rfl, hw, FrC.rfl⟩
end
section
theorem cd_X3_lives : Cond.code yX3_lives cX3_lives 3 (some .boolean) ∈ pWW := pw5 (List.mem_of_getElem? (i := 67) rfl) rfl
theorem ini_3 : Cond.initialized RX3 ∈ pWW := pw1 (List.mem_of_getElem? (i := 5) rfl) rfl
abbrev m_X3_lives : MT := (yX3_lives, cX3_lives, 3, (some .boolean))
theorem ok_X3_lives : pOk m_X3_lives := ⟨⟨cd_X3_lives, ini_3⟩, by decide +kernel, ⟨by decide +kernel, by decide +kernel⟩, Nat.le_of_ble_eq_true rfl⟩
theorem np_X3_lives : (parseMethodDescriptor yX3_lives.desc).map (fun d => d.parameters.length) = some 2 := by decide +kernel
theorem im_X3_lives : Cond.instanceMethod yX3_lives ∈ pWW := pw5 (List.mem_of_getElem? (i := 65) rfl) rfl
theorem se_X3_lives : Cond.selects RX3 yX3_lives yX3_lives ∈ pWW := pw5 (List.mem_of_getElem? (i := 66) rfl) rfl
theorem fl3_9 : Cond.fieldLink RX3 9 (TX3 0).1 (TX3 0).2.1 (TX3 0).2.2.1 ∈ pWW := pw1 (List.mem_of_getElem? (i := 220) rfl) rfl
theorem nl3_25 : (RX3, 25, yX11_has, "LineKeeper") ∈ nst_M := List.mem_of_getElem? (i := 31) rfl
theorem dX3_lives_0 : decode cX3_lives 0 = .ok (.aload_n 0, 1) := by decide +kernel
theorem dX3_lives_1 : decode cX3_lives 1 = .ok (.getfield 9, 3) := by decide +kernel
theorem dX3_lives_4 : decode cX3_lives 4 = .ok (.iload_n 1, 1) := by decide +kernel
theorem dX3_lives_5 : decode cX3_lives 5 = .ok (.iload_n 2, 1) := by decide +kernel
theorem dX3_lives_6 : decode cX3_lives 6 = .ok (.invokestatic 25, 3) := by decide +kernel
theorem dX3_lives_9 : decode cX3_lives 9 = .ok (.ireturn, 1) := by decide +kernel
set_option maxRecDepth 20000 in
theorem k_X3_lives (d : Nat) {T : CT} {σ : MS} {a : Nat} {p1 : Int} {p2 : Int} (ha : OB T a 3) (h_p1 : -2147483648 ≤ p1 ∧ p1 ≤ 2147483647) (h_p2 : -2147483648 ≤ p2 ∧ p2 ≤ 2147483647) (hw : WT T σ) : Tn (d + 3) m_X3_lives 0 T σ [(0, .ref a), (1, .int (iI p1)), (2, .int (iI p2))] [] (fun ro T2 σ2 => ∃ v : Int, ro = some (.int (iI v)) ∧ T = T2 ∧ σ = σ2 ∧ (v = 0 ∨ v = 1)) := by
  refine tn_aload_n dX3_lives_0 rfl 0 rfl ?_
  obtain ⟨x1, hx2, hk3, hl4⟩ : ∃ x : Nat, σ.2.1 18 a = (x : Int) ∧ AR T x 3 603 603 := wf_18 hw ha
  refine tn_getR (ci := 3) (i := 0) (n := 18) (x := x1) dX3_lives_1 rfl lay_3 (by decide) fl3_9 ha rfl rfl (hx2) ?_
  refine tn_iload_n dX3_lives_4 rfl 1 rfl ?_
  refine tn_iload_n dX3_lives_5 rfl 2 rfl ?_
  refine tn_callSN (M := m_X3_lives) (pc := 6) (ix := 25) (M' := m_X11_has) (As := [.ref x1, .int (iI p1), .int (iI p2)]) (rest := []) dX3_lives_6 ok_X11_has stt_X11_has nl3_25 np_X11_has rfl (Nat.le_of_ble_eq_true rfl) (Nat.le_of_ble_eq_true rfl) rfl (k_X11_has (d) (T := T) (σ := σ) (x := x1) (k := p1) (r := p2) hk3 (by omega) (by omega) (by omega) hw ) (fun r5 T7 σ6 gt8 hp => ?_)
  obtain ⟨v10, rfl, rfl, rfl, f9⟩ := hp
  clear gt8
  show Tn _ _ 9 T σ [(0, .ref a), (1, .int (iI p1)), (2, .int (iI p2))] [.int (iI v10)] _
  exact tn_zret (v := v10) rfl (by omega) dX3_lives_9 ⟨_, rfl, rfl, rfl, by omega⟩
end
section
theorem cd_X3_gatherBehind : Cond.code yX3_gatherBehind cX3_gatherBehind 8 none ∈ pWW := pw5 (List.mem_of_getElem? (i := 36) rfl) rfl
abbrev m_X3_gatherBehind : MT := (yX3_gatherBehind, cX3_gatherBehind, 8, none)
theorem ok_X3_gatherBehind : pOk m_X3_gatherBehind := ⟨⟨cd_X3_gatherBehind, ini_3⟩, by decide +kernel, ⟨by decide +kernel, by decide +kernel⟩, Nat.le_of_ble_eq_true rfl⟩
theorem np_X3_gatherBehind : (parseMethodDescriptor yX3_gatherBehind.desc).map (fun d => d.parameters.length) = some 2 := by decide +kernel
theorem im_X3_gatherBehind : Cond.instanceMethod yX3_gatherBehind ∈ pWW := pw5 (List.mem_of_getElem? (i := 35) rfl) rfl
theorem se_X3_gatherBehind : Cond.selects RX3 yX3_gatherBehind yX3_gatherBehind ∈ pWW := pws (List.mem_map.mpr ⟨_, lw_pin 52 rfl, rfl⟩) rfl
theorem ml3_48 : Cond.methodLink RX3 48 yX1_fallsOn ∈ pWW := pw5 (List.mem_of_getElem? (i := 15) rfl) rfl
theorem ml3_52 : Cond.methodLink RX3 52 yX1_targetOf ∈ pWW := pw5 (List.mem_of_getElem? (i := 16) rfl) rfl
theorem fl3_15 : Cond.fieldLink RX3 15 (TX3 1).1 (TX3 1).2.1 (TX3 1).2.2.1 ∈ pWW := pw1 (List.mem_of_getElem? (i := 223) rfl) rfl
theorem nl3_60 : (RX3, 60, yX11_putBits, "LineKeeper") ∈ nst_M := List.mem_of_getElem? (i := 26) rfl
theorem nl3_56 : (RX3, 56, yX11_bitsAt, "LineKeeper") ∈ nst_M := List.mem_of_getElem? (i := 25) rfl
theorem dX3_gatherBehind_0 : decode cX3_gatherBehind 0 = .ok (.aload_n 1, 1) := by decide +kernel
theorem dX3_gatherBehind_1 : decode cX3_gatherBehind 1 = .ok (.iload_n 2, 1) := by decide +kernel
theorem dX3_gatherBehind_2 : decode cX3_gatherBehind 2 = .ok (.invokevirtual 48, 3) := by decide +kernel
theorem dX3_gatherBehind_5 : decode cX3_gatherBehind 5 = .ok (.istore_n 3, 1) := by decide +kernel
theorem dX3_gatherBehind_6 : decode cX3_gatherBehind 6 = .ok (.aload_n 1, 1) := by decide +kernel
theorem dX3_gatherBehind_7 : decode cX3_gatherBehind 7 = .ok (.iload_n 2, 1) := by decide +kernel
theorem dX3_gatherBehind_8 : decode cX3_gatherBehind 8 = .ok (.invokevirtual 52, 3) := by decide +kernel
theorem dX3_gatherBehind_11 : decode cX3_gatherBehind 11 = .ok (.istore 4, 2) := by decide +kernel
theorem dX3_gatherBehind_13 : decode cX3_gatherBehind 13 = .ok (.iconst 0, 1) := by decide +kernel
theorem dX3_gatherBehind_14 : decode cX3_gatherBehind 14 = .ok (.istore 5, 2) := by decide +kernel
theorem dX3_gatherBehind_16 : decode cX3_gatherBehind 16 = .ok (.iload 5, 2) := by decide +kernel
theorem dX3_gatherBehind_18 : decode cX3_gatherBehind 18 = .ok (.iconst 3, 1) := by decide +kernel
theorem dX3_gatherBehind_19 : decode cX3_gatherBehind 19 = .ok (.if_icmp .ge 69, 3) := by decide +kernel
theorem dX3_gatherBehind_22 : decode cX3_gatherBehind 22 = .ok (.iload_n 3, 1) := by decide +kernel
theorem dX3_gatherBehind_23 : decode cX3_gatherBehind 23 = .ok (.ifCond .eq 21, 3) := by decide +kernel
theorem dX3_gatherBehind_44 : decode cX3_gatherBehind 44 = .ok (.lconst 0, 1) := by decide +kernel
theorem dX3_gatherBehind_45 : decode cX3_gatherBehind 45 = .ok (.lstore 6, 2) := by decide +kernel
theorem dX3_gatherBehind_47 : decode cX3_gatherBehind 47 = .ok (.iload 4, 2) := by decide +kernel
theorem dX3_gatherBehind_49 : decode cX3_gatherBehind 49 = .ok (.ifCond .lt 22, 3) := by decide +kernel
theorem dX3_gatherBehind_71 : decode cX3_gatherBehind 71 = .ok (.aload_n 0, 1) := by decide +kernel
theorem dX3_gatherBehind_72 : decode cX3_gatherBehind 72 = .ok (.getfield 15, 3) := by decide +kernel
theorem dX3_gatherBehind_75 : decode cX3_gatherBehind 75 = .ok (.iload 5, 2) := by decide +kernel
theorem dX3_gatherBehind_77 : decode cX3_gatherBehind 77 = .ok (.lload 6, 2) := by decide +kernel
theorem dX3_gatherBehind_79 : decode cX3_gatherBehind 79 = .ok (.invokestatic 60, 3) := by decide +kernel
theorem dX3_gatherBehind_82 : decode cX3_gatherBehind 82 = .ok (.iinc 5 1, 3) := by decide +kernel
theorem dX3_gatherBehind_85 : decode cX3_gatherBehind 85 = .ok (.goto (-69), 3) := by decide +kernel
theorem dX3_gatherBehind_52 : decode cX3_gatherBehind 52 = .ok (.lload 6, 2) := by decide +kernel
theorem dX3_gatherBehind_54 : decode cX3_gatherBehind 54 = .ok (.aload_n 0, 1) := by decide +kernel
theorem dX3_gatherBehind_55 : decode cX3_gatherBehind 55 = .ok (.getfield 9, 3) := by decide +kernel
theorem dX3_gatherBehind_58 : decode cX3_gatherBehind 58 = .ok (.iload 4, 2) := by decide +kernel
theorem dX3_gatherBehind_60 : decode cX3_gatherBehind 60 = .ok (.iconst 3, 1) := by decide +kernel
theorem dX3_gatherBehind_61 : decode cX3_gatherBehind 61 = .ok (.imul, 1) := by decide +kernel
theorem dX3_gatherBehind_62 : decode cX3_gatherBehind 62 = .ok (.iload 5, 2) := by decide +kernel
theorem dX3_gatherBehind_64 : decode cX3_gatherBehind 64 = .ok (.iadd, 1) := by decide +kernel
theorem dX3_gatherBehind_65 : decode cX3_gatherBehind 65 = .ok (.invokestatic 56, 3) := by decide +kernel
theorem dX3_gatherBehind_68 : decode cX3_gatherBehind 68 = .ok (.lor, 1) := by decide +kernel
theorem dX3_gatherBehind_69 : decode cX3_gatherBehind 69 = .ok (.lstore 6, 2) := by decide +kernel
theorem dX3_gatherBehind_26 : decode cX3_gatherBehind 26 = .ok (.aload_n 0, 1) := by decide +kernel
theorem dX3_gatherBehind_27 : decode cX3_gatherBehind 27 = .ok (.getfield 9, 3) := by decide +kernel
theorem dX3_gatherBehind_30 : decode cX3_gatherBehind 30 = .ok (.iload_n 2, 1) := by decide +kernel
theorem dX3_gatherBehind_31 : decode cX3_gatherBehind 31 = .ok (.iconst 1, 1) := by decide +kernel
theorem dX3_gatherBehind_32 : decode cX3_gatherBehind 32 = .ok (.iadd, 1) := by decide +kernel
theorem dX3_gatherBehind_33 : decode cX3_gatherBehind 33 = .ok (.iconst 3, 1) := by decide +kernel
theorem dX3_gatherBehind_34 : decode cX3_gatherBehind 34 = .ok (.imul, 1) := by decide +kernel
theorem dX3_gatherBehind_35 : decode cX3_gatherBehind 35 = .ok (.iload 5, 2) := by decide +kernel
theorem dX3_gatherBehind_37 : decode cX3_gatherBehind 37 = .ok (.iadd, 1) := by decide +kernel
theorem dX3_gatherBehind_38 : decode cX3_gatherBehind 38 = .ok (.invokestatic 56, 3) := by decide +kernel
theorem dX3_gatherBehind_41 : decode cX3_gatherBehind 41 = .ok (.goto 4, 3) := by decide +kernel
set_option maxRecDepth 20000 in
theorem l_X3_gatherBehind_16 (d : Nat) {T : CT} {σ0 : MS} {a : Nat} {c2 : Int} {c3 : Int} {c4 : Int} {post : Option Value → CT → MS → Prop} (h_a : OB T a 3) (r_c2 : -2147483648 ≤ c2 ∧ c2 ≤ 2147483647) (r_c3 : 0 ≤ c3 ∧ c3 ≤ 1) (r_c4 : -2147483648 ≤ c4 ∧ c4 ≤ 2147483647) (hw0 : WT T σ0) (hx_88 : ∀ (i5 : Int) (σ : MS) , (WT T σ) → (FrC T [] σ0 σ) → (0 ≤ i5 ∧ i5 ≤ 2147483647) → Tn (d + 3) m_X3_gatherBehind 88 T σ [(0, .ref a), (2, .int (iI c2)), (3, .int (iI c3)), (4, .int (iI c4)), (5, .int (iI i5))] [] post) : ∀ (n : Nat) (i5 : Int) (σ : MS) , (WT T σ) → (FrC T [] σ0 σ) → (0 ≤ i5 ∧ i5 ≤ 2147483647) → (2147483700 - i5).toNat = n → Tn (d + 3) m_X3_gatherBehind 16 T σ [(0, .ref a), (2, .int (iI c2)), (3, .int (iI c3)), (4, .int (iI c4)), (5, .int (iI i5))] [] post := by
  intro n
  induction n using Nat.strongRecOn with
  | _ n ih =>
    intro i5 σ hw hF r_i5 hm
    refine tn_iload dX3_gatherBehind_16 4 rfl ?_
    refine tn_iconst dX3_gatherBehind_18 ?_
    refine tn_icmp_ge (tgt := 88) dX3_gatherBehind_19 (by decide) ⟨by omega, by omega⟩ ⟨by decide, by decide⟩ (fun h1 => ?_) (fun h1 => ?_)
    · exact tn_sub [0, 1, 2, 3, 4] rfl (hx_88 (i5) σ hw (FrC.rfl.trans (FrC.sub hF (by decide))) (by omega))
    · refine tn_iload_n dX3_gatherBehind_22 rfl 2 rfl ?_
      refine tn_if_eq (tgt := 44) dX3_gatherBehind_23 (by decide) ⟨by omega, by omega⟩ (fun h2 => ?_) (fun h2 => ?_)
      · refine tn_lconst (v := 0) dX3_gatherBehind_44 rfl ?_
        refine tn_lstore (L' := [(6, .long (0)), (0, .ref a), (2, .int (iI c2)), (3, .int (iI c3)), (4, .int (iI c4)), (5, .int (iI i5))]) dX3_gatherBehind_45 (by decide) rfl ?_
        refine tn_iload dX3_gatherBehind_47 4 rfl ?_
        refine tn_if_lt (tgt := 71) dX3_gatherBehind_49 (by decide) ⟨by omega, by omega⟩ (fun h3 => ?_) (fun h3 => ?_)
        · refine tn_aload_n dX3_gatherBehind_71 rfl 1 rfl ?_
          obtain ⟨x4, hx5, hk6, hl7⟩ : ∃ x : Nat, σ0.2.1 19 a = (x : Int) ∧ AR T x 3 3 3 := wf_19 hw0 h_a
          refine tn_getR (ci := 3) (i := 1) (n := 19) (x := x4) dX3_gatherBehind_72 rfl lay_3 (by decide) fl3_15 h_a rfl rfl (rc_F hF (Or.inl (by decide)) (by decide) (hx5)) ?_
          refine tn_iload dX3_gatherBehind_75 5 rfl ?_
          refine tn_lload dX3_gatherBehind_77 0 rfl ?_
          refine tn_callSN (M := m_X3_gatherBehind) (pc := 79) (ix := 60) (M' := m_X11_putBits) (As := [.ref x4, .int (iI i5), .long (0)]) (rest := []) dX3_gatherBehind_79 ok_X11_putBits stt_X11_putBits nl3_60 np_X11_putBits rfl (Nat.le_of_ble_eq_true rfl) (Nat.le_of_ble_eq_true rfl) rfl (k_X11_putBits (d + 1) (T := T) (σ := σ) (x := x4) (i := i5) (w := 0) hk6 (by omega) (by omega) hw ) (fun r8 T10 σ9 gt11 hp => ?_)
          obtain ⟨rfl, rfl, w13, F14⟩ := hp
          clear gt11
          show Tn _ _ 82 T σ9 [(6, .long (0)), (0, .ref a), (2, .int (iI c2)), (3, .int (iI c3)), (4, .int (iI c4)), (5, .int (iI i5))] [] _
          refine tn_iinc (q0 := 5) (L' := [(5, .int (iI (i5 + 1))), (6, .long (0)), (0, .ref a), (2, .int (iI c2)), (3, .int (iI c3)), (4, .int (iI c4))]) dX3_gatherBehind_82 rfl (by decide) rfl ?_
          refine tn_goto (tgt := 16) dX3_gatherBehind_85 (by decide) ?_
          exact tn_sub [2, 3, 4, 5, 0] rfl (ih _ (by omega) (i5 + 1) σ9 w13 ((FrC.rfl.trans (FrC.sub hF (by decide))).trans (FrC.sub F14 (by decide))) (by omega) rfl)
        · refine tn_lload dX3_gatherBehind_52 0 rfl ?_
          refine tn_aload_n dX3_gatherBehind_54 rfl 1 rfl ?_
          obtain ⟨x15, hx16, hk17, hl18⟩ : ∃ x : Nat, σ0.2.1 18 a = (x : Int) ∧ AR T x 3 603 603 := wf_18 hw0 h_a
          refine tn_getR (ci := 3) (i := 0) (n := 18) (x := x15) dX3_gatherBehind_55 rfl lay_3 (by decide) fl3_9 h_a rfl rfl (rc_F hF (Or.inl (by decide)) (by decide) (hx16)) ?_
          refine tn_iload dX3_gatherBehind_58 4 rfl ?_
          refine tn_iconst dX3_gatherBehind_60 ?_
          refine tn_imul dX3_gatherBehind_61 ?_
          refine tn_any (fun z19 g20 => ?_)
          have g20r : -2147483648 ≤ z19 ∧ z19 ≤ 2147483647 := g20
          refine tn_iload dX3_gatherBehind_62 5 rfl ?_
          refine tn_iadd dX3_gatherBehind_64 ?_
          refine tn_any (fun z21 g22 => ?_)
          have g22r : -2147483648 ≤ z21 ∧ z21 ≤ 2147483647 := g22
          refine tn_callSN (M := m_X3_gatherBehind) (pc := 65) (ix := 56) (M' := m_X11_bitsAt) (As := [.ref x15, .int (iI z21)]) (rest := [.long (0)]) dX3_gatherBehind_65 ok_X11_bitsAt stt_X11_bitsAt nl3_56 np_X11_bitsAt rfl (Nat.le_of_ble_eq_true rfl) (Nat.le_of_ble_eq_true rfl) rfl (k_X11_bitsAt (d + 1) (T := T) (σ := σ) (x := x15) (i := z21) hk17 (by omega) (by omega) hw ) (fun r23 T25 σ24 gt26 hp => ?_)
          obtain ⟨v27, rfl, rfl, rfl⟩ := hp
          clear gt26
          show Tn _ _ 68 T σ [(6, .long (0)), (0, .ref a), (2, .int (iI c2)), (3, .int (iI c3)), (4, .int (iI c4)), (5, .int (iI i5))] [.long (v27), .long (0)] _
          refine tn_lor dX3_gatherBehind_68 ?_
          refine tn_longX (fun w28 => ?_)
          refine tn_lstore (L' := [(6, .long (w28)), (0, .ref a), (2, .int (iI c2)), (3, .int (iI c3)), (4, .int (iI c4)), (5, .int (iI i5))]) dX3_gatherBehind_69 (by decide) rfl ?_
          refine tn_aload_n dX3_gatherBehind_71 rfl 1 rfl ?_
          obtain ⟨x29, hx30, hk31, hl32⟩ : ∃ x : Nat, σ0.2.1 19 a = (x : Int) ∧ AR T x 3 3 3 := wf_19 hw0 h_a
          refine tn_getR (ci := 3) (i := 1) (n := 19) (x := x29) dX3_gatherBehind_72 rfl lay_3 (by decide) fl3_15 h_a rfl rfl (rc_F hF (Or.inl (by decide)) (by decide) (hx30)) ?_
          refine tn_iload dX3_gatherBehind_75 5 rfl ?_
          refine tn_lload dX3_gatherBehind_77 0 rfl ?_
          refine tn_callSN (M := m_X3_gatherBehind) (pc := 79) (ix := 60) (M' := m_X11_putBits) (As := [.ref x29, .int (iI i5), .long (w28)]) (rest := []) dX3_gatherBehind_79 ok_X11_putBits stt_X11_putBits nl3_60 np_X11_putBits rfl (Nat.le_of_ble_eq_true rfl) (Nat.le_of_ble_eq_true rfl) rfl (k_X11_putBits (d + 1) (T := T) (σ := σ) (x := x29) (i := i5) (w := w28) hk31 (by omega) (by omega) hw ) (fun r33 T35 σ34 gt36 hp => ?_)
          obtain ⟨rfl, rfl, w38, F39⟩ := hp
          clear gt36
          show Tn _ _ 82 T σ34 [(6, .long (w28)), (0, .ref a), (2, .int (iI c2)), (3, .int (iI c3)), (4, .int (iI c4)), (5, .int (iI i5))] [] _
          refine tn_iinc (q0 := 5) (L' := [(5, .int (iI (i5 + 1))), (6, .long (w28)), (0, .ref a), (2, .int (iI c2)), (3, .int (iI c3)), (4, .int (iI c4))]) dX3_gatherBehind_82 rfl (by decide) rfl ?_
          refine tn_goto (tgt := 16) dX3_gatherBehind_85 (by decide) ?_
          exact tn_sub [2, 3, 4, 5, 0] rfl (ih _ (by omega) (i5 + 1) σ34 w38 ((FrC.rfl.trans (FrC.sub hF (by decide))).trans (FrC.sub F39 (by decide))) (by omega) rfl)
      · refine tn_aload_n dX3_gatherBehind_26 rfl 0 rfl ?_
        obtain ⟨x40, hx41, hk42, hl43⟩ : ∃ x : Nat, σ0.2.1 18 a = (x : Int) ∧ AR T x 3 603 603 := wf_18 hw0 h_a
        refine tn_getR (ci := 3) (i := 0) (n := 18) (x := x40) dX3_gatherBehind_27 rfl lay_3 (by decide) fl3_9 h_a rfl rfl (rc_F hF (Or.inl (by decide)) (by decide) (hx41)) ?_
        refine tn_iload_n dX3_gatherBehind_30 rfl 1 rfl ?_
        refine tn_iconst dX3_gatherBehind_31 ?_
        refine tn_iadd dX3_gatherBehind_32 ?_
        refine tn_any (fun z44 g45 => ?_)
        have g45r : -2147483648 ≤ z44 ∧ z44 ≤ 2147483647 := g45
        refine tn_iconst dX3_gatherBehind_33 ?_
        refine tn_imul dX3_gatherBehind_34 ?_
        refine tn_any (fun z46 g47 => ?_)
        have g47r : -2147483648 ≤ z46 ∧ z46 ≤ 2147483647 := g47
        refine tn_iload dX3_gatherBehind_35 4 rfl ?_
        refine tn_iadd dX3_gatherBehind_37 ?_
        refine tn_any (fun z48 g49 => ?_)
        have g49r : -2147483648 ≤ z48 ∧ z48 ≤ 2147483647 := g49
        refine tn_callSN (M := m_X3_gatherBehind) (pc := 38) (ix := 56) (M' := m_X11_bitsAt) (As := [.ref x40, .int (iI z48)]) (rest := []) dX3_gatherBehind_38 ok_X11_bitsAt stt_X11_bitsAt nl3_56 np_X11_bitsAt rfl (Nat.le_of_ble_eq_true rfl) (Nat.le_of_ble_eq_true rfl) rfl (k_X11_bitsAt (d + 1) (T := T) (σ := σ) (x := x40) (i := z48) hk42 (by omega) (by omega) hw ) (fun r50 T52 σ51 gt53 hp => ?_)
        obtain ⟨v54, rfl, rfl, rfl⟩ := hp
        clear gt53
        show Tn _ _ 41 T σ [(0, .ref a), (2, .int (iI c2)), (3, .int (iI c3)), (4, .int (iI c4)), (5, .int (iI i5))] [.long (v54)] _
        refine tn_goto (tgt := 45) dX3_gatherBehind_41 (by decide) ?_
        refine tn_lstore (L' := [(6, .long (v54)), (0, .ref a), (2, .int (iI c2)), (3, .int (iI c3)), (4, .int (iI c4)), (5, .int (iI i5))]) dX3_gatherBehind_45 (by decide) rfl ?_
        refine tn_iload dX3_gatherBehind_47 4 rfl ?_
        refine tn_if_lt (tgt := 71) dX3_gatherBehind_49 (by decide) ⟨by omega, by omega⟩ (fun h55 => ?_) (fun h55 => ?_)
        · refine tn_aload_n dX3_gatherBehind_71 rfl 1 rfl ?_
          obtain ⟨x56, hx57, hk58, hl59⟩ : ∃ x : Nat, σ0.2.1 19 a = (x : Int) ∧ AR T x 3 3 3 := wf_19 hw0 h_a
          refine tn_getR (ci := 3) (i := 1) (n := 19) (x := x56) dX3_gatherBehind_72 rfl lay_3 (by decide) fl3_15 h_a rfl rfl (rc_F hF (Or.inl (by decide)) (by decide) (hx57)) ?_
          refine tn_iload dX3_gatherBehind_75 5 rfl ?_
          refine tn_lload dX3_gatherBehind_77 0 rfl ?_
          refine tn_callSN (M := m_X3_gatherBehind) (pc := 79) (ix := 60) (M' := m_X11_putBits) (As := [.ref x56, .int (iI i5), .long (v54)]) (rest := []) dX3_gatherBehind_79 ok_X11_putBits stt_X11_putBits nl3_60 np_X11_putBits rfl (Nat.le_of_ble_eq_true rfl) (Nat.le_of_ble_eq_true rfl) rfl (k_X11_putBits (d + 1) (T := T) (σ := σ) (x := x56) (i := i5) (w := v54) hk58 (by omega) (by omega) hw ) (fun r60 T62 σ61 gt63 hp => ?_)
          obtain ⟨rfl, rfl, w65, F66⟩ := hp
          clear gt63
          show Tn _ _ 82 T σ61 [(6, .long (v54)), (0, .ref a), (2, .int (iI c2)), (3, .int (iI c3)), (4, .int (iI c4)), (5, .int (iI i5))] [] _
          refine tn_iinc (q0 := 5) (L' := [(5, .int (iI (i5 + 1))), (6, .long (v54)), (0, .ref a), (2, .int (iI c2)), (3, .int (iI c3)), (4, .int (iI c4))]) dX3_gatherBehind_82 rfl (by decide) rfl ?_
          refine tn_goto (tgt := 16) dX3_gatherBehind_85 (by decide) ?_
          exact tn_sub [2, 3, 4, 5, 0] rfl (ih _ (by omega) (i5 + 1) σ61 w65 ((FrC.rfl.trans (FrC.sub hF (by decide))).trans (FrC.sub F66 (by decide))) (by omega) rfl)
        · refine tn_lload dX3_gatherBehind_52 0 rfl ?_
          refine tn_aload_n dX3_gatherBehind_54 rfl 1 rfl ?_
          refine tn_getR (ci := 3) (i := 0) (n := 18) (x := x40) dX3_gatherBehind_55 rfl lay_3 (by decide) fl3_9 h_a rfl rfl (rc_F hF (Or.inl (by decide)) (by decide) (hx41)) ?_
          refine tn_iload dX3_gatherBehind_58 4 rfl ?_
          refine tn_iconst dX3_gatherBehind_60 ?_
          refine tn_imul dX3_gatherBehind_61 ?_
          refine tn_any (fun z67 g68 => ?_)
          have g68r : -2147483648 ≤ z67 ∧ z67 ≤ 2147483647 := g68
          refine tn_iload dX3_gatherBehind_62 5 rfl ?_
          refine tn_iadd dX3_gatherBehind_64 ?_
          refine tn_any (fun z69 g70 => ?_)
          have g70r : -2147483648 ≤ z69 ∧ z69 ≤ 2147483647 := g70
          refine tn_callSN (M := m_X3_gatherBehind) (pc := 65) (ix := 56) (M' := m_X11_bitsAt) (As := [.ref x40, .int (iI z69)]) (rest := [.long (v54)]) dX3_gatherBehind_65 ok_X11_bitsAt stt_X11_bitsAt nl3_56 np_X11_bitsAt rfl (Nat.le_of_ble_eq_true rfl) (Nat.le_of_ble_eq_true rfl) rfl (k_X11_bitsAt (d + 1) (T := T) (σ := σ) (x := x40) (i := z69) hk42 (by omega) (by omega) hw ) (fun r71 T73 σ72 gt74 hp => ?_)
          obtain ⟨v75, rfl, rfl, rfl⟩ := hp
          clear gt74
          show Tn _ _ 68 T σ [(6, .long (v54)), (0, .ref a), (2, .int (iI c2)), (3, .int (iI c3)), (4, .int (iI c4)), (5, .int (iI i5))] [.long (v75), .long (v54)] _
          refine tn_lor dX3_gatherBehind_68 ?_
          refine tn_longX (fun w76 => ?_)
          refine tn_lstore (L' := [(6, .long (w76)), (0, .ref a), (2, .int (iI c2)), (3, .int (iI c3)), (4, .int (iI c4)), (5, .int (iI i5))]) dX3_gatherBehind_69 (by decide) rfl ?_
          refine tn_aload_n dX3_gatherBehind_71 rfl 1 rfl ?_
          obtain ⟨x77, hx78, hk79, hl80⟩ : ∃ x : Nat, σ0.2.1 19 a = (x : Int) ∧ AR T x 3 3 3 := wf_19 hw0 h_a
          refine tn_getR (ci := 3) (i := 1) (n := 19) (x := x77) dX3_gatherBehind_72 rfl lay_3 (by decide) fl3_15 h_a rfl rfl (rc_F hF (Or.inl (by decide)) (by decide) (hx78)) ?_
          refine tn_iload dX3_gatherBehind_75 5 rfl ?_
          refine tn_lload dX3_gatherBehind_77 0 rfl ?_
          refine tn_callSN (M := m_X3_gatherBehind) (pc := 79) (ix := 60) (M' := m_X11_putBits) (As := [.ref x77, .int (iI i5), .long (w76)]) (rest := []) dX3_gatherBehind_79 ok_X11_putBits stt_X11_putBits nl3_60 np_X11_putBits rfl (Nat.le_of_ble_eq_true rfl) (Nat.le_of_ble_eq_true rfl) rfl (k_X11_putBits (d + 1) (T := T) (σ := σ) (x := x77) (i := i5) (w := w76) hk79 (by omega) (by omega) hw ) (fun r81 T83 σ82 gt84 hp => ?_)
          obtain ⟨rfl, rfl, w86, F87⟩ := hp
          clear gt84
          show Tn _ _ 82 T σ82 [(6, .long (w76)), (0, .ref a), (2, .int (iI c2)), (3, .int (iI c3)), (4, .int (iI c4)), (5, .int (iI i5))] [] _
          refine tn_iinc (q0 := 5) (L' := [(5, .int (iI (i5 + 1))), (6, .long (w76)), (0, .ref a), (2, .int (iI c2)), (3, .int (iI c3)), (4, .int (iI c4))]) dX3_gatherBehind_82 rfl (by decide) rfl ?_
          refine tn_goto (tgt := 16) dX3_gatherBehind_85 (by decide) ?_
          exact tn_sub [2, 3, 4, 5, 0] rfl (ih _ (by omega) (i5 + 1) σ82 w86 ((FrC.rfl.trans (FrC.sub hF (by decide))).trans (FrC.sub F87 (by decide))) (by omega) rfl)
theorem dX3_gatherBehind_88 : decode cX3_gatherBehind 88 = .ok (.return_, 1) := by decide +kernel
set_option maxRecDepth 20000 in
theorem k_X3_gatherBehind (d : Nat) {T : CT} {σ : MS} {a : Nat} {p1 : Nat} {p2 : Int} (ha : OB T a 3) (h_p1 : OB T p1 1) (h_p2 : -2147483648 ≤ p2 ∧ p2 ≤ 2147483647) (hw : WT T σ) : Tn (d + 3) m_X3_gatherBehind 0 T σ [(0, .ref a), (1, .ref p1), (2, .int (iI p2))] [] (fun ro T2 σ2 => ro = none ∧ T = T2 ∧ WT T2 σ2 ∧ FrC T [] σ σ2) := by
  refine tn_aload_n dX3_gatherBehind_0 rfl 1 rfl ?_
  refine tn_iload_n dX3_gatherBehind_1 rfl 2 rfl ?_
  refine tn_callV (M := m_X3_gatherBehind) (pc := 2) (ix := 48) (ci := 1) (M' := m_X1_fallsOn) (As := [.int (iI p2)]) (rest := []) dX3_gatherBehind_2 ok_X1_fallsOn im_X1_fallsOn se_X1_fallsOn ml3_48 np_X1_fallsOn rfl rfl h_p1 rfl (Nat.le_of_ble_eq_true rfl) (Nat.le_of_ble_eq_true rfl) rfl (k_X1_fallsOn (d) (T := T) (σ := σ) (a := p1) (k := p2) h_p1 (by omega) hw ) (fun r1 T3 σ2 gt4 hp => ?_)
  obtain ⟨v6, rfl, rfl, rfl, f5⟩ := hp
  clear gt4
  show Tn _ _ 5 T σ [(0, .ref a), (1, .ref p1), (2, .int (iI p2))] [.int (iI v6)] _
  refine tn_istore_n (L' := [(3, .int (iI v6)), (0, .ref a), (1, .ref p1), (2, .int (iI p2))]) dX3_gatherBehind_5 rfl (by decide) rfl ?_
  refine tn_aload_n dX3_gatherBehind_6 rfl 2 rfl ?_
  refine tn_iload_n dX3_gatherBehind_7 rfl 3 rfl ?_
  refine tn_callV (M := m_X3_gatherBehind) (pc := 8) (ix := 52) (ci := 1) (M' := m_X1_targetOf) (As := [.int (iI p2)]) (rest := []) dX3_gatherBehind_8 ok_X1_targetOf im_X1_targetOf se_X1_targetOf ml3_52 np_X1_targetOf rfl rfl h_p1 rfl (Nat.le_of_ble_eq_true rfl) (Nat.le_of_ble_eq_true rfl) rfl (k_X1_targetOf (d) (T := T) (σ := σ) (a := p1) (k := p2) h_p1 (by omega) hw ) (fun r7 T9 σ8 gt10 hp => ?_)
  obtain ⟨v12, rfl, rfl, rfl, f11⟩ := hp
  clear gt10
  show Tn _ _ 11 T σ [(3, .int (iI v6)), (0, .ref a), (1, .ref p1), (2, .int (iI p2))] [.int (iI v12)] _
  refine tn_istore (L' := [(4, .int (iI v12)), (3, .int (iI v6)), (0, .ref a), (1, .ref p1), (2, .int (iI p2))]) dX3_gatherBehind_11 (by decide) rfl ?_
  refine tn_iconst dX3_gatherBehind_13 ?_
  refine tn_istore (L' := [(5, .int (iI 0)), (4, .int (iI v12)), (3, .int (iI v6)), (0, .ref a), (1, .ref p1), (2, .int (iI p2))]) dX3_gatherBehind_14 (by decide) rfl ?_
  refine tn_sub [3, 5, 2, 1, 0] rfl (l_X3_gatherBehind_16 (d) (T := T) (σ0 := σ) (a := a) (c2 := p2) (c3 := v6) (c4 := v12) ha (by omega) (by omega) (by omega) hw (fun i513 σ14 w17 F18 r19 => ?_) _ (0) σ hw FrC.rfl (by omega) rfl)
  show Tn _ _ 88 T σ14 [(0, .ref a), (2, .int (iI p2)), (3, .int (iI v6)), (4, .int (iI v12)), (5, .int (iI i513))] [] _
  exact tn_vret rfl dX3_gatherBehind_88 ⟨rfl, rfl, w17, (FrC.rfl.trans (FrC.sub F18 (by decide)))⟩
end
section
theorem cd_X3_settleAhead : Cond.code yX3_settleAhead cX3_settleAhead 7 (some .boolean) ∈ pWW := pw5 (List.mem_of_getElem? (i := 46) rfl) rfl
abbrev m_X3_settleAhead : MT := (yX3_settleAhead, cX3_settleAhead, 7, (some .boolean))
theorem ok_X3_settleAhead : pOk m_X3_settleAhead := ⟨⟨cd_X3_settleAhead, ini_3⟩, by decide +kernel, ⟨by decide +kernel, by decide +kernel⟩, Nat.le_of_ble_eq_true rfl⟩
theorem np_X3_settleAhead : (parseMethodDescriptor yX3_settleAhead.desc).map (fun d => d.parameters.length) = some 2 := by decide +kernel
theorem im_X3_settleAhead : Cond.instanceMethod yX3_settleAhead ∈ pWW := pw5 (List.mem_of_getElem? (i := 45) rfl) rfl
theorem se_X3_settleAhead : Cond.selects RX3 yX3_settleAhead yX3_settleAhead ∈ pWW := pws (List.mem_map.mpr ⟨_, lw_pin 53 rfl, rfl⟩) rfl
theorem ml3_64 : Cond.methodLink RX3 64 yX1_writtenBy ∈ pWW := pw5 (List.mem_of_getElem? (i := 14) rfl) rfl
theorem nl3_67 : (RX3, 67, yX11_exclude, "LineKeeper") ∈ nst_M := List.mem_of_getElem? (i := 27) rfl
theorem ml3_71 : Cond.methodLink RX3 71 yX1_kindAt ∈ pWW := pw5 (List.mem_of_getElem? (i := 53) rfl) rfl
theorem nl3_74 : (RX3, 74, yX11_isAct, "LineKeeper") ∈ nst_M := List.mem_of_getElem? (i := 28) rfl
theorem dX3_settleAhead_0 : decode cX3_settleAhead 0 = .ok (.aload_n 0, 1) := by decide +kernel
theorem dX3_settleAhead_1 : decode cX3_settleAhead 1 = .ok (.getfield 15, 3) := by decide +kernel
theorem dX3_settleAhead_4 : decode cX3_settleAhead 4 = .ok (.iconst 0, 1) := by decide +kernel
theorem dX3_settleAhead_5 : decode cX3_settleAhead 5 = .ok (.aload_n 1, 1) := by decide +kernel
theorem dX3_settleAhead_6 : decode cX3_settleAhead 6 = .ok (.iload_n 2, 1) := by decide +kernel
theorem dX3_settleAhead_7 : decode cX3_settleAhead 7 = .ok (.invokevirtual 64, 3) := by decide +kernel
theorem dX3_settleAhead_10 : decode cX3_settleAhead 10 = .ok (.invokestatic 67, 3) := by decide +kernel
theorem dX3_settleAhead_13 : decode cX3_settleAhead 13 = .ok (.aload_n 1, 1) := by decide +kernel
theorem dX3_settleAhead_14 : decode cX3_settleAhead 14 = .ok (.iload_n 2, 1) := by decide +kernel
theorem dX3_settleAhead_15 : decode cX3_settleAhead 15 = .ok (.invokevirtual 71, 3) := by decide +kernel
theorem dX3_settleAhead_18 : decode cX3_settleAhead 18 = .ok (.invokestatic 74, 3) := by decide +kernel
theorem dX3_settleAhead_21 : decode cX3_settleAhead 21 = .ok (.ifCond .eq 43, 3) := by decide +kernel
theorem dX3_settleAhead_64 : decode cX3_settleAhead 64 = .ok (.iconst 0, 1) := by decide +kernel
theorem dX3_settleAhead_65 : decode cX3_settleAhead 65 = .ok (.istore_n 3, 1) := by decide +kernel
theorem dX3_settleAhead_66 : decode cX3_settleAhead 66 = .ok (.iconst 0, 1) := by decide +kernel
theorem dX3_settleAhead_67 : decode cX3_settleAhead 67 = .ok (.istore 4, 2) := by decide +kernel
theorem dX3_settleAhead_69 : decode cX3_settleAhead 69 = .ok (.iload 4, 2) := by decide +kernel
theorem dX3_settleAhead_71 : decode cX3_settleAhead 71 = .ok (.iconst 3, 1) := by decide +kernel
theorem dX3_settleAhead_72 : decode cX3_settleAhead 72 = .ok (.if_icmp .ge 56, 3) := by decide +kernel
theorem dX3_settleAhead_75 : decode cX3_settleAhead 75 = .ok (.aload_n 0, 1) := by decide +kernel
theorem dX3_settleAhead_76 : decode cX3_settleAhead 76 = .ok (.getfield 15, 3) := by decide +kernel
theorem dX3_settleAhead_79 : decode cX3_settleAhead 79 = .ok (.iload 4, 2) := by decide +kernel
theorem dX3_settleAhead_81 : decode cX3_settleAhead 81 = .ok (.invokestatic 56, 3) := by decide +kernel
theorem dX3_settleAhead_84 : decode cX3_settleAhead 84 = .ok (.lstore 5, 2) := by decide +kernel
theorem dX3_settleAhead_86 : decode cX3_settleAhead 86 = .ok (.lload 5, 2) := by decide +kernel
theorem dX3_settleAhead_88 : decode cX3_settleAhead 88 = .ok (.aload_n 0, 1) := by decide +kernel
theorem dX3_settleAhead_89 : decode cX3_settleAhead 89 = .ok (.getfield 9, 3) := by decide +kernel
theorem dX3_settleAhead_92 : decode cX3_settleAhead 92 = .ok (.iload_n 2, 1) := by decide +kernel
theorem dX3_settleAhead_93 : decode cX3_settleAhead 93 = .ok (.iconst 3, 1) := by decide +kernel
theorem dX3_settleAhead_94 : decode cX3_settleAhead 94 = .ok (.imul, 1) := by decide +kernel
theorem dX3_settleAhead_95 : decode cX3_settleAhead 95 = .ok (.iload 4, 2) := by decide +kernel
theorem dX3_settleAhead_97 : decode cX3_settleAhead 97 = .ok (.iadd, 1) := by decide +kernel
theorem dX3_settleAhead_98 : decode cX3_settleAhead 98 = .ok (.invokestatic 56, 3) := by decide +kernel
theorem dX3_settleAhead_101 : decode cX3_settleAhead 101 = .ok (.lcmp, 1) := by decide +kernel
theorem dX3_settleAhead_102 : decode cX3_settleAhead 102 = .ok (.ifCond .eq 20, 3) := by decide +kernel
theorem dX3_settleAhead_122 : decode cX3_settleAhead 122 = .ok (.iinc 4 1, 3) := by decide +kernel
theorem dX3_settleAhead_125 : decode cX3_settleAhead 125 = .ok (.goto (-56), 3) := by decide +kernel
theorem dX3_settleAhead_105 : decode cX3_settleAhead 105 = .ok (.aload_n 0, 1) := by decide +kernel
theorem dX3_settleAhead_106 : decode cX3_settleAhead 106 = .ok (.getfield 9, 3) := by decide +kernel
theorem dX3_settleAhead_109 : decode cX3_settleAhead 109 = .ok (.iload_n 2, 1) := by decide +kernel
theorem dX3_settleAhead_110 : decode cX3_settleAhead 110 = .ok (.iconst 3, 1) := by decide +kernel
theorem dX3_settleAhead_111 : decode cX3_settleAhead 111 = .ok (.imul, 1) := by decide +kernel
theorem dX3_settleAhead_112 : decode cX3_settleAhead 112 = .ok (.iload 4, 2) := by decide +kernel
theorem dX3_settleAhead_114 : decode cX3_settleAhead 114 = .ok (.iadd, 1) := by decide +kernel
theorem dX3_settleAhead_115 : decode cX3_settleAhead 115 = .ok (.lload 5, 2) := by decide +kernel
theorem dX3_settleAhead_117 : decode cX3_settleAhead 117 = .ok (.invokestatic 60, 3) := by decide +kernel
theorem dX3_settleAhead_120 : decode cX3_settleAhead 120 = .ok (.iconst 1, 1) := by decide +kernel
theorem dX3_settleAhead_121 : decode cX3_settleAhead 121 = .ok (.istore_n 3, 1) := by decide +kernel
set_option maxRecDepth 20000 in
theorem l_X3_settleAhead_69 (d : Nat) {T : CT} {σ0 : MS} {a : Nat} {c2 : Int} {post : Option Value → CT → MS → Prop} (h_a : OB T a 3) (r_c2 : -2147483648 ≤ c2 ∧ c2 ≤ 2147483647) (hw0 : WT T σ0) (hx_128 : ∀ (i3 : Int) (i4 : Int) (σ : MS) , (WT T σ) → (FrC T [] σ0 σ) → (0 ≤ i3 ∧ i3 ≤ 1) → (0 ≤ i4 ∧ i4 ≤ 2147483647) → Tn (d + 3) m_X3_settleAhead 128 T σ [(0, .ref a), (2, .int (iI c2)), (3, .int (iI i3)), (4, .int (iI i4))] [] post) : ∀ (n : Nat) (i3 : Int) (i4 : Int) (σ : MS) , (WT T σ) → (FrC T [] σ0 σ) → (0 ≤ i3 ∧ i3 ≤ 1) → (0 ≤ i4 ∧ i4 ≤ 2147483647) → (2147483700 - i4).toNat = n → Tn (d + 3) m_X3_settleAhead 69 T σ [(0, .ref a), (2, .int (iI c2)), (3, .int (iI i3)), (4, .int (iI i4))] [] post := by
  intro n
  induction n using Nat.strongRecOn with
  | _ n ih =>
    intro i3 i4 σ hw hF r_i3 r_i4 hm
    refine tn_iload dX3_settleAhead_69 3 rfl ?_
    refine tn_iconst dX3_settleAhead_71 ?_
    refine tn_icmp_ge (tgt := 128) dX3_settleAhead_72 (by decide) ⟨by omega, by omega⟩ ⟨by decide, by decide⟩ (fun h1 => ?_) (fun h1 => ?_)
    · exact tn_sub [0, 1, 2, 3] rfl (hx_128 (i3) (i4) σ hw (FrC.rfl.trans (FrC.sub hF (by decide))) (by omega) (by omega))
    · refine tn_aload_n dX3_settleAhead_75 rfl 0 rfl ?_
      obtain ⟨x2, hx3, hk4, hl5⟩ : ∃ x : Nat, σ0.2.1 19 a = (x : Int) ∧ AR T x 3 3 3 := wf_19 hw0 h_a
      refine tn_getR (ci := 3) (i := 1) (n := 19) (x := x2) dX3_settleAhead_76 rfl lay_3 (by decide) fl3_15 h_a rfl rfl (rc_F hF (Or.inl (by decide)) (by decide) (hx3)) ?_
      refine tn_iload dX3_settleAhead_79 3 rfl ?_
      refine tn_callSN (M := m_X3_settleAhead) (pc := 81) (ix := 56) (M' := m_X11_bitsAt) (As := [.ref x2, .int (iI i4)]) (rest := []) dX3_settleAhead_81 ok_X11_bitsAt stt_X11_bitsAt nl3_56 np_X11_bitsAt rfl (Nat.le_of_ble_eq_true rfl) (Nat.le_of_ble_eq_true rfl) rfl (k_X11_bitsAt (d + 1) (T := T) (σ := σ) (x := x2) (i := i4) hk4 (by omega) (by omega) hw ) (fun r6 T8 σ7 gt9 hp => ?_)
      obtain ⟨v10, rfl, rfl, rfl⟩ := hp
      clear gt9
      show Tn _ _ 84 T σ [(0, .ref a), (2, .int (iI c2)), (3, .int (iI i3)), (4, .int (iI i4))] [.long (v10)] _
      refine tn_lstore (L' := [(5, .long (v10)), (0, .ref a), (2, .int (iI c2)), (3, .int (iI i3)), (4, .int (iI i4))]) dX3_settleAhead_84 (by decide) rfl ?_
      refine tn_lload dX3_settleAhead_86 0 rfl ?_
      refine tn_aload_n dX3_settleAhead_88 rfl 1 rfl ?_
      obtain ⟨x11, hx12, hk13, hl14⟩ : ∃ x : Nat, σ0.2.1 18 a = (x : Int) ∧ AR T x 3 603 603 := wf_18 hw0 h_a
      refine tn_getR (ci := 3) (i := 0) (n := 18) (x := x11) dX3_settleAhead_89 rfl lay_3 (by decide) fl3_9 h_a rfl rfl (rc_F hF (Or.inl (by decide)) (by decide) (hx12)) ?_
      refine tn_iload_n dX3_settleAhead_92 rfl 2 rfl ?_
      refine tn_iconst dX3_settleAhead_93 ?_
      refine tn_imul dX3_settleAhead_94 ?_
      refine tn_any (fun z15 g16 => ?_)
      have g16r : -2147483648 ≤ z15 ∧ z15 ≤ 2147483647 := g16
      refine tn_iload dX3_settleAhead_95 4 rfl ?_
      refine tn_iadd dX3_settleAhead_97 ?_
      refine tn_any (fun z17 g18 => ?_)
      have g18r : -2147483648 ≤ z17 ∧ z17 ≤ 2147483647 := g18
      refine tn_callSN (M := m_X3_settleAhead) (pc := 98) (ix := 56) (M' := m_X11_bitsAt) (As := [.ref x11, .int (iI z17)]) (rest := [.long (v10)]) dX3_settleAhead_98 ok_X11_bitsAt stt_X11_bitsAt nl3_56 np_X11_bitsAt rfl (Nat.le_of_ble_eq_true rfl) (Nat.le_of_ble_eq_true rfl) rfl (k_X11_bitsAt (d + 1) (T := T) (σ := σ) (x := x11) (i := z17) hk13 (by omega) (by omega) hw ) (fun r19 T21 σ20 gt22 hp => ?_)
      obtain ⟨v23, rfl, rfl, rfl⟩ := hp
      clear gt22
      show Tn _ _ 101 T σ [(5, .long (v10)), (0, .ref a), (2, .int (iI c2)), (3, .int (iI i3)), (4, .int (iI i4))] [.long (v23), .long (v10)] _
      refine tn_lcmpX dX3_settleAhead_101 ?_
      refine tn_anyI (fun z24 g25 => ?_)
      have g25r : -2147483648 ≤ z24 ∧ z24 ≤ 2147483647 := g25
      refine tn_if_eq (tgt := 122) dX3_settleAhead_102 (by decide) ⟨by omega, by omega⟩ (fun h26 => ?_) (fun h26 => ?_)
      · refine tn_iinc (q0 := 4) (L' := [(4, .int (iI (i4 + 1))), (5, .long (v10)), (0, .ref a), (2, .int (iI c2)), (3, .int (iI i3))]) dX3_settleAhead_122 rfl (by decide) rfl ?_
        refine tn_goto (tgt := 69) dX3_settleAhead_125 (by decide) ?_
        exact tn_sub [2, 3, 4, 0] rfl (ih _ (by omega) (i3) (i4 + 1) σ hw (FrC.rfl.trans (FrC.sub hF (by decide))) (by omega) (by omega) rfl)
      · refine tn_aload_n dX3_settleAhead_105 rfl 1 rfl ?_
        refine tn_getR (ci := 3) (i := 0) (n := 18) (x := x11) dX3_settleAhead_106 rfl lay_3 (by decide) fl3_9 h_a rfl rfl (rc_F hF (Or.inl (by decide)) (by decide) (hx12)) ?_
        refine tn_iload_n dX3_settleAhead_109 rfl 2 rfl ?_
        refine tn_iconst dX3_settleAhead_110 ?_
        refine tn_imul dX3_settleAhead_111 ?_
        refine tn_any (fun z27 g28 => ?_)
        have g28r : -2147483648 ≤ z27 ∧ z27 ≤ 2147483647 := g28
        refine tn_iload dX3_settleAhead_112 4 rfl ?_
        refine tn_iadd dX3_settleAhead_114 ?_
        refine tn_any (fun z29 g30 => ?_)
        have g30r : -2147483648 ≤ z29 ∧ z29 ≤ 2147483647 := g30
        refine tn_lload dX3_settleAhead_115 0 rfl ?_
        refine tn_callSN (M := m_X3_settleAhead) (pc := 117) (ix := 60) (M' := m_X11_putBits) (As := [.ref x11, .int (iI z29), .long (v10)]) (rest := []) dX3_settleAhead_117 ok_X11_putBits stt_X11_putBits nl3_60 np_X11_putBits rfl (Nat.le_of_ble_eq_true rfl) (Nat.le_of_ble_eq_true rfl) rfl (k_X11_putBits (d + 1) (T := T) (σ := σ) (x := x11) (i := z29) (w := v10) hk13 (by omega) (by omega) hw ) (fun r31 T33 σ32 gt34 hp => ?_)
        obtain ⟨rfl, rfl, w36, F37⟩ := hp
        clear gt34
        show Tn _ _ 120 T σ32 [(5, .long (v10)), (0, .ref a), (2, .int (iI c2)), (3, .int (iI i3)), (4, .int (iI i4))] [] _
        refine tn_iconst dX3_settleAhead_120 ?_
        refine tn_istore_n (L' := [(3, .int (iI 1)), (5, .long (v10)), (0, .ref a), (2, .int (iI c2)), (4, .int (iI i4))]) dX3_settleAhead_121 rfl (by decide) rfl ?_
        refine tn_iinc (q0 := 4) (L' := [(4, .int (iI (i4 + 1))), (3, .int (iI 1)), (5, .long (v10)), (0, .ref a), (2, .int (iI c2))]) dX3_settleAhead_122 rfl (by decide) rfl ?_
        refine tn_goto (tgt := 69) dX3_settleAhead_125 (by decide) ?_
        exact tn_sub [3, 4, 1, 0] rfl (ih _ (by omega) (1) (i4 + 1) σ32 w36 ((FrC.rfl.trans (FrC.sub hF (by decide))).trans (FrC.sub F37 (by decide))) (by decide) (by omega) rfl)
theorem ml3_77 : Cond.methodLink RX3 77 yX1_get ∈ pWW := pw5 (List.mem_of_getElem? (i := 55) rfl) rfl
theorem nl3_81 : (RX3, 81, yX11_include, "LineKeeper") ∈ nst_M := List.mem_of_getElem? (i := 29) rfl
theorem dX3_settleAhead_128 : decode cX3_settleAhead 128 = .ok (.iload_n 3, 1) := by decide +kernel
theorem dX3_settleAhead_129 : decode cX3_settleAhead 129 = .ok (.ireturn, 1) := by decide +kernel
theorem dX3_settleAhead_24 : decode cX3_settleAhead 24 = .ok (.iconst 3, 1) := by decide +kernel
theorem dX3_settleAhead_25 : decode cX3_settleAhead 25 = .ok (.istore_n 3, 1) := by decide +kernel
theorem dX3_settleAhead_26 : decode cX3_settleAhead 26 = .ok (.iload_n 3, 1) := by decide +kernel
theorem dX3_settleAhead_27 : decode cX3_settleAhead 27 = .ok (.bipush 11, 2) := by decide +kernel
theorem dX3_settleAhead_29 : decode cX3_settleAhead 29 = .ok (.if_icmp .ge 35, 3) := by decide +kernel
theorem dX3_settleAhead_32 : decode cX3_settleAhead 32 = .ok (.aload_n 1, 1) := by decide +kernel
theorem dX3_settleAhead_33 : decode cX3_settleAhead 33 = .ok (.iload_n 2, 1) := by decide +kernel
theorem dX3_settleAhead_34 : decode cX3_settleAhead 34 = .ok (.iload_n 3, 1) := by decide +kernel
theorem dX3_settleAhead_35 : decode cX3_settleAhead 35 = .ok (.invokevirtual 77, 3) := by decide +kernel
theorem dX3_settleAhead_38 : decode cX3_settleAhead 38 = .ok (.iconst 2, 1) := by decide +kernel
theorem dX3_settleAhead_39 : decode cX3_settleAhead 39 = .ok (.if_icmp .ne 19, 3) := by decide +kernel
theorem dX3_settleAhead_58 : decode cX3_settleAhead 58 = .ok (.iinc 3 2, 3) := by decide +kernel
theorem dX3_settleAhead_61 : decode cX3_settleAhead 61 = .ok (.goto (-35), 3) := by decide +kernel
theorem dX3_settleAhead_42 : decode cX3_settleAhead 42 = .ok (.aload_n 0, 1) := by decide +kernel
theorem dX3_settleAhead_43 : decode cX3_settleAhead 43 = .ok (.getfield 15, 3) := by decide +kernel
theorem dX3_settleAhead_46 : decode cX3_settleAhead 46 = .ok (.iconst 0, 1) := by decide +kernel
theorem dX3_settleAhead_47 : decode cX3_settleAhead 47 = .ok (.aload_n 1, 1) := by decide +kernel
theorem dX3_settleAhead_48 : decode cX3_settleAhead 48 = .ok (.iload_n 2, 1) := by decide +kernel
theorem dX3_settleAhead_49 : decode cX3_settleAhead 49 = .ok (.iload_n 3, 1) := by decide +kernel
theorem dX3_settleAhead_50 : decode cX3_settleAhead 50 = .ok (.iconst 1, 1) := by decide +kernel
theorem dX3_settleAhead_51 : decode cX3_settleAhead 51 = .ok (.iadd, 1) := by decide +kernel
theorem dX3_settleAhead_52 : decode cX3_settleAhead 52 = .ok (.invokevirtual 77, 3) := by decide +kernel
theorem dX3_settleAhead_55 : decode cX3_settleAhead 55 = .ok (.invokestatic 81, 3) := by decide +kernel
set_option maxRecDepth 20000 in
theorem l_X3_settleAhead_26 (d : Nat) {T : CT} {σ0 : MS} {a : Nat} {rx1 : Nat} {c2 : Int} {post : Option Value → CT → MS → Prop} (h_a : OB T a 3) (h_rx1 : OB T rx1 1) (r_c2 : -2147483648 ≤ c2 ∧ c2 ≤ 2147483647) (hw0 : WT T σ0) (hx_64 : ∀ (i3 : Int) (σ : MS) , (WT T σ) → (FrC T [] σ0 σ) → (3 ≤ i3 ∧ i3 ≤ 2147483647) → Tn (d + 3) m_X3_settleAhead 64 T σ [(0, .ref a), (1, .ref rx1), (2, .int (iI c2)), (3, .int (iI i3))] [] post) : ∀ (n : Nat) (i3 : Int) (σ : MS) , (WT T σ) → (FrC T [] σ0 σ) → (3 ≤ i3 ∧ i3 ≤ 2147483647) → (2147483700 - i3).toNat = n → Tn (d + 3) m_X3_settleAhead 26 T σ [(0, .ref a), (1, .ref rx1), (2, .int (iI c2)), (3, .int (iI i3))] [] post := by
  intro n
  induction n using Nat.strongRecOn with
  | _ n ih =>
    intro i3 σ hw hF r_i3 hm
    refine tn_iload_n dX3_settleAhead_26 rfl 3 rfl ?_
    refine tn_bipush dX3_settleAhead_27 (by decide) ?_
    refine tn_icmp_ge (tgt := 64) dX3_settleAhead_29 (by decide) ⟨by omega, by omega⟩ ⟨by decide, by decide⟩ (fun h1 => ?_) (fun h1 => ?_)
    · exact tn_sub [0, 1, 2, 3] rfl (hx_64 (i3) σ hw (FrC.rfl.trans (FrC.sub hF (by decide))) (by omega))
    · refine tn_aload_n dX3_settleAhead_32 rfl 1 rfl ?_
      refine tn_iload_n dX3_settleAhead_33 rfl 2 rfl ?_
      refine tn_iload_n dX3_settleAhead_34 rfl 3 rfl ?_
      refine tn_callV (M := m_X3_settleAhead) (pc := 35) (ix := 77) (ci := 1) (M' := m_X1_get) (As := [.int (iI c2), .int (iI i3)]) (rest := []) dX3_settleAhead_35 ok_X1_get im_X1_get se_X1_get ml3_77 np_X1_get rfl rfl h_rx1 rfl (Nat.le_of_ble_eq_true rfl) (Nat.le_of_ble_eq_true rfl) rfl (k_X1_get (d + 1) (T := T) (σ := σ) (a := rx1) (k := c2) (c := i3) h_rx1 (by omega) (by omega) hw (by omega)) (fun r2 T4 σ3 gt5 hp => ?_)
      obtain ⟨v7, rfl, rfl, rfl, f6⟩ := hp
      clear gt5
      show Tn _ _ 38 T σ [(0, .ref a), (1, .ref rx1), (2, .int (iI c2)), (3, .int (iI i3))] [.int (iI v7)] _
      refine tn_iconst dX3_settleAhead_38 ?_
      refine tn_icmp_ne (tgt := 58) dX3_settleAhead_39 (by decide) ⟨by omega, by omega⟩ ⟨by decide, by decide⟩ (fun h8 => ?_) (fun h8 => ?_)
      · refine tn_iinc (q0 := 3) (L' := [(3, .int (iI (i3 + 2))), (0, .ref a), (1, .ref rx1), (2, .int (iI c2))]) dX3_settleAhead_58 rfl (by decide) rfl ?_
        refine tn_goto (tgt := 26) dX3_settleAhead_61 (by decide) ?_
        exact tn_sub [1, 2, 3, 0] rfl (ih _ (by omega) (i3 + 2) σ hw (FrC.rfl.trans (FrC.sub hF (by decide))) (by omega) rfl)
      · refine tn_aload_n dX3_settleAhead_42 rfl 0 rfl ?_
        obtain ⟨x9, hx10, hk11, hl12⟩ : ∃ x : Nat, σ0.2.1 19 a = (x : Int) ∧ AR T x 3 3 3 := wf_19 hw0 h_a
        refine tn_getR (ci := 3) (i := 1) (n := 19) (x := x9) dX3_settleAhead_43 rfl lay_3 (by decide) fl3_15 h_a rfl rfl (rc_F hF (Or.inl (by decide)) (by decide) (hx10)) ?_
        refine tn_iconst dX3_settleAhead_46 ?_
        refine tn_aload_n dX3_settleAhead_47 rfl 1 rfl ?_
        refine tn_iload_n dX3_settleAhead_48 rfl 2 rfl ?_
        refine tn_iload_n dX3_settleAhead_49 rfl 3 rfl ?_
        refine tn_iconst dX3_settleAhead_50 ?_
        refine tn_iadd dX3_settleAhead_51 ?_
        refine tn_callV (M := m_X3_settleAhead) (pc := 52) (ix := 77) (ci := 1) (M' := m_X1_get) (As := [.int (iI c2), .int (iI (i3 + 1))]) (rest := [.int (iI 0), .ref x9]) dX3_settleAhead_52 ok_X1_get im_X1_get se_X1_get ml3_77 np_X1_get rfl rfl h_rx1 rfl (Nat.le_of_ble_eq_true rfl) (Nat.le_of_ble_eq_true rfl) rfl (k_X1_get (d + 1) (T := T) (σ := σ) (a := rx1) (k := c2) (c := i3 + 1) h_rx1 (by omega) (by omega) hw (by omega)) (fun r13 T15 σ14 gt16 hp => ?_)
        obtain ⟨v18, rfl, rfl, rfl, f17⟩ := hp
        clear gt16
        show Tn _ _ 55 T σ [(0, .ref a), (1, .ref rx1), (2, .int (iI c2)), (3, .int (iI i3))] [.int (iI v18), .int (iI 0), .ref x9] _
        refine tn_callSN (M := m_X3_settleAhead) (pc := 55) (ix := 81) (M' := m_X11_include) (As := [.ref x9, .int (iI 0), .int (iI v18)]) (rest := []) dX3_settleAhead_55 ok_X11_include stt_X11_include nl3_81 np_X11_include rfl (Nat.le_of_ble_eq_true rfl) (Nat.le_of_ble_eq_true rfl) rfl (k_X11_include (d) (T := T) (σ := σ) (x := x9) (k := 0) (r := v18) hk11 (by omega) (by decide) (by omega) hw ) (fun r19 T21 σ20 gt22 hp => ?_)
        obtain ⟨rfl, rfl, w24, F25⟩ := hp
        clear gt22
        show Tn _ _ 58 T σ20 [(0, .ref a), (1, .ref rx1), (2, .int (iI c2)), (3, .int (iI i3))] [] _
        refine tn_iinc (q0 := 3) (L' := [(3, .int (iI (i3 + 2))), (0, .ref a), (1, .ref rx1), (2, .int (iI c2))]) dX3_settleAhead_58 rfl (by decide) rfl ?_
        refine tn_goto (tgt := 26) dX3_settleAhead_61 (by decide) ?_
        exact tn_sub [1, 2, 3, 0] rfl (ih _ (by omega) (i3 + 2) σ20 w24 ((FrC.rfl.trans (FrC.sub hF (by decide))).trans (FrC.sub F25 (by decide))) (by omega) rfl)
set_option maxRecDepth 20000 in
theorem k_X3_settleAhead (d : Nat) {T : CT} {σ : MS} {a : Nat} {p1 : Nat} {p2 : Int} (ha : OB T a 3) (h_p1 : OB T p1 1) (h_p2 : -2147483648 ≤ p2 ∧ p2 ≤ 2147483647) (hw : WT T σ) : Tn (d + 3) m_X3_settleAhead 0 T σ [(0, .ref a), (1, .ref p1), (2, .int (iI p2))] [] (fun ro T2 σ2 => ∃ v : Int, ro = some (.int (iI v)) ∧ T = T2 ∧ WT T2 σ2 ∧ FrC T [] σ σ2 ∧ (v = 0 ∨ v = 1)) := by
  refine tn_aload_n dX3_settleAhead_0 rfl 0 rfl ?_
  obtain ⟨x1, hx2, hk3, hl4⟩ : ∃ x : Nat, σ.2.1 19 a = (x : Int) ∧ AR T x 3 3 3 := wf_19 hw ha
  refine tn_getR (ci := 3) (i := 1) (n := 19) (x := x1) dX3_settleAhead_1 rfl lay_3 (by decide) fl3_15 ha rfl rfl (hx2) ?_
  refine tn_iconst dX3_settleAhead_4 ?_
  refine tn_aload_n dX3_settleAhead_5 rfl 1 rfl ?_
  refine tn_iload_n dX3_settleAhead_6 rfl 2 rfl ?_
  refine tn_callV (M := m_X3_settleAhead) (pc := 7) (ix := 64) (ci := 1) (M' := m_X1_writtenBy) (As := [.int (iI p2)]) (rest := [.int (iI 0), .ref x1]) dX3_settleAhead_7 ok_X1_writtenBy im_X1_writtenBy se_X1_writtenBy ml3_64 np_X1_writtenBy rfl rfl h_p1 rfl (Nat.le_of_ble_eq_true rfl) (Nat.le_of_ble_eq_true rfl) rfl (k_X1_writtenBy (d) (T := T) (σ := σ) (a := p1) (k := p2) h_p1 (by omega) hw ) (fun r5 T7 σ6 gt8 hp => ?_)
  obtain ⟨v10, rfl, rfl, rfl, f9⟩ := hp
  clear gt8
  show Tn _ _ 10 T σ [(0, .ref a), (1, .ref p1), (2, .int (iI p2))] [.int (iI v10), .int (iI 0), .ref x1] _
  refine tn_callSN (M := m_X3_settleAhead) (pc := 10) (ix := 67) (M' := m_X11_exclude) (As := [.ref x1, .int (iI 0), .int (iI v10)]) (rest := []) dX3_settleAhead_10 ok_X11_exclude stt_X11_exclude nl3_67 np_X11_exclude rfl (Nat.le_of_ble_eq_true rfl) (Nat.le_of_ble_eq_true rfl) rfl (k_X11_exclude (d) (T := T) (σ := σ) (x := x1) (k := 0) (r := v10) hk3 (by omega) (by decide) (by omega) hw ) (fun r11 T13 σ12 gt14 hp => ?_)
  obtain ⟨rfl, rfl, w16, F17⟩ := hp
  clear gt14
  show Tn _ _ 13 T σ12 [(0, .ref a), (1, .ref p1), (2, .int (iI p2))] [] _
  refine tn_aload_n dX3_settleAhead_13 rfl 1 rfl ?_
  refine tn_iload_n dX3_settleAhead_14 rfl 2 rfl ?_
  refine tn_callV (M := m_X3_settleAhead) (pc := 15) (ix := 71) (ci := 1) (M' := m_X1_kindAt) (As := [.int (iI p2)]) (rest := []) dX3_settleAhead_15 ok_X1_kindAt im_X1_kindAt se_X1_kindAt ml3_71 np_X1_kindAt rfl rfl h_p1 rfl (Nat.le_of_ble_eq_true rfl) (Nat.le_of_ble_eq_true rfl) rfl (k_X1_kindAt (d + 1) (T := T) (σ := σ12) (a := p1) (k := p2) h_p1 (by omega) w16 ) (fun r18 T20 σ19 gt21 hp => ?_)
  obtain ⟨v24, rfl, rfl, rfl, f22, f23⟩ := hp
  clear gt21
  clear f23
  show Tn _ _ 18 T σ12 [(0, .ref a), (1, .ref p1), (2, .int (iI p2))] [.int (iI v24)] _
  refine tn_callSN (M := m_X3_settleAhead) (pc := 18) (ix := 74) (M' := m_X11_isAct) (As := [.int (iI v24)]) (rest := []) dX3_settleAhead_18 ok_X11_isAct stt_X11_isAct nl3_74 np_X11_isAct rfl (Nat.le_of_ble_eq_true rfl) (Nat.le_of_ble_eq_true rfl) rfl (k_X11_isAct (d + 1) (T := T) (σ := σ12) (k := v24) (by omega) w16 ) (fun r25 T27 σ26 gt28 hp => ?_)
  obtain ⟨v30, rfl, rfl, rfl, f29⟩ := hp
  clear gt28
  show Tn _ _ 21 T σ12 [(0, .ref a), (1, .ref p1), (2, .int (iI p2))] [.int (iI v30)] _
  refine tn_if_eq (tgt := 64) dX3_settleAhead_21 (by decide) ⟨by omega, by omega⟩ (fun h31 => ?_) (fun h31 => ?_)
  · refine tn_iconst dX3_settleAhead_64 ?_
    refine tn_istore_n (L' := [(3, .int (iI 0)), (0, .ref a), (1, .ref p1), (2, .int (iI p2))]) dX3_settleAhead_65 rfl (by decide) rfl ?_
    refine tn_iconst dX3_settleAhead_66 ?_
    refine tn_istore (L' := [(4, .int (iI 0)), (3, .int (iI 0)), (0, .ref a), (1, .ref p1), (2, .int (iI p2))]) dX3_settleAhead_67 (by decide) rfl ?_
    refine tn_sub [2, 4, 1, 0] rfl (l_X3_settleAhead_69 (d) (T := T) (σ0 := σ12) (a := a) (c2 := p2) ha (by omega) w16 (fun i332 i433 σ34 w37 F38 r39 r40 => ?_) _ (0) (0) σ12 w16 FrC.rfl (by omega) (by omega) rfl)
    show Tn _ _ 128 T σ34 [(0, .ref a), (2, .int (iI p2)), (3, .int (iI i332)), (4, .int (iI i433))] [] _
    refine tn_iload_n dX3_settleAhead_128 rfl 2 rfl ?_
    exact tn_zret (v := i332) rfl (by omega) dX3_settleAhead_129 ⟨_, rfl, rfl, w37, ((FrC.rfl.trans (FrC.sub F17 (by decide))).trans (FrC.sub F38 (by decide))), by omega⟩
  · refine tn_iconst dX3_settleAhead_24 ?_
    refine tn_istore_n (L' := [(3, .int (iI 3)), (0, .ref a), (1, .ref p1), (2, .int (iI p2))]) dX3_settleAhead_25 rfl (by decide) rfl ?_
    refine tn_sub [1, 2, 3, 0] rfl (l_X3_settleAhead_26 (d) (T := T) (σ0 := σ12) (a := a) (rx1 := p1) (c2 := p2) ha h_p1 (by omega) w16 (fun i341 σ42 w45 F46 r47 => ?_) _ (3) σ12 w16 FrC.rfl (by omega) rfl)
    show Tn _ _ 64 T σ42 [(0, .ref a), (1, .ref p1), (2, .int (iI p2)), (3, .int (iI i341))] [] _
    refine tn_iconst dX3_settleAhead_64 ?_
    refine tn_istore_n (L' := [(3, .int (iI 0)), (0, .ref a), (1, .ref p1), (2, .int (iI p2))]) dX3_settleAhead_65 rfl (by decide) rfl ?_
    refine tn_iconst dX3_settleAhead_66 ?_
    refine tn_istore (L' := [(4, .int (iI 0)), (3, .int (iI 0)), (0, .ref a), (1, .ref p1), (2, .int (iI p2))]) dX3_settleAhead_67 (by decide) rfl ?_
    refine tn_sub [2, 4, 1, 0] rfl (l_X3_settleAhead_69 (d) (T := T) (σ0 := σ42) (a := a) (c2 := p2) ha (by omega) w45 (fun i348 i449 σ50 w53 F54 r55 r56 => ?_) _ (0) (0) σ42 w45 FrC.rfl (by omega) (by omega) rfl)
    show Tn _ _ 128 T σ50 [(0, .ref a), (2, .int (iI p2)), (3, .int (iI i348)), (4, .int (iI i449))] [] _
    refine tn_iload_n dX3_settleAhead_128 rfl 2 rfl ?_
    exact tn_zret (v := i348) rfl (by omega) dX3_settleAhead_129 ⟨_, rfl, rfl, w53, (((FrC.rfl.trans (FrC.sub F17 (by decide))).trans (FrC.sub F46 (by decide))).trans (FrC.sub F54 (by decide))), by omega⟩
end
section
theorem cd_X3_findLiving : Cond.code yX3_findLiving cX3_findLiving 5 none ∈ pWW := pw5 (List.mem_of_getElem? (i := 25) rfl) rfl
abbrev m_X3_findLiving : MT := (yX3_findLiving, cX3_findLiving, 5, none)
theorem ok_X3_findLiving : pOk m_X3_findLiving := ⟨⟨cd_X3_findLiving, ini_3⟩, by decide +kernel, ⟨by decide +kernel, by decide +kernel⟩, Nat.le_of_ble_eq_true rfl⟩
theorem np_X3_findLiving : (parseMethodDescriptor yX3_findLiving.desc).map (fun d => d.parameters.length) = some 1 := by decide +kernel
theorem im_X3_findLiving : Cond.instanceMethod yX3_findLiving ∈ pWW := pw5 (List.mem_of_getElem? (i := 23) rfl) rfl
theorem se_X3_findLiving : Cond.selects RX3 yX3_findLiving yX3_findLiving ∈ pWW := pw5 (List.mem_of_getElem? (i := 24) rfl) rfl
theorem fl3_29 : Cond.fieldLink RX3 29 (TX1 1).1 (TX1 1).2.1 (TX1 1).2.2.1 ∈ pWW := pw1 (List.mem_of_getElem? (i := 82) rfl) rfl
theorem nl3_35 : (RX3, 35, yX11_clear, "LineKeeper") ∈ nst_M := List.mem_of_getElem? (i := 24) rfl
theorem cst3_39 : Cond.constant RX3 39 (1000000) ∈ pWW := pw5 (List.mem_of_getElem? (i := 13) rfl) rfl
theorem ml3_40 : Cond.methodLink RX3 40 yX3_gatherBehind ∈ pWW := pw5 (List.mem_of_getElem? (i := 33) rfl) rfl
theorem ml3_44 : Cond.methodLink RX3 44 yX3_settleAhead ∈ pWW := pw5 (List.mem_of_getElem? (i := 43) rfl) rfl
theorem dX3_findLiving_0 : decode cX3_findLiving 0 = .ok (.aload_n 0, 1) := by decide +kernel
theorem dX3_findLiving_1 : decode cX3_findLiving 1 = .ok (.getfield 9, 3) := by decide +kernel
theorem dX3_findLiving_4 : decode cX3_findLiving 4 = .ok (.aload_n 1, 1) := by decide +kernel
theorem dX3_findLiving_5 : decode cX3_findLiving 5 = .ok (.getfield 29, 3) := by decide +kernel
theorem dX3_findLiving_8 : decode cX3_findLiving 8 = .ok (.iconst 1, 1) := by decide +kernel
theorem dX3_findLiving_9 : decode cX3_findLiving 9 = .ok (.iadd, 1) := by decide +kernel
theorem dX3_findLiving_10 : decode cX3_findLiving 10 = .ok (.iconst 3, 1) := by decide +kernel
theorem dX3_findLiving_11 : decode cX3_findLiving 11 = .ok (.imul, 1) := by decide +kernel
theorem dX3_findLiving_12 : decode cX3_findLiving 12 = .ok (.invokestatic 35, 3) := by decide +kernel
theorem dX3_findLiving_15 : decode cX3_findLiving 15 = .ok (.iconst 1, 1) := by decide +kernel
theorem dX3_findLiving_16 : decode cX3_findLiving 16 = .ok (.istore_n 2, 1) := by decide +kernel
theorem dX3_findLiving_17 : decode cX3_findLiving 17 = .ok (.iconst 0, 1) := by decide +kernel
theorem dX3_findLiving_18 : decode cX3_findLiving 18 = .ok (.istore_n 3, 1) := by decide +kernel
theorem dX3_findLiving_19 : decode cX3_findLiving 19 = .ok (.iload_n 2, 1) := by decide +kernel
theorem dX3_findLiving_20 : decode cX3_findLiving 20 = .ok (.ifCond .eq 53, 3) := by decide +kernel
theorem dX3_findLiving_23 : decode cX3_findLiving 23 = .ok (.iload_n 3, 1) := by decide +kernel
theorem dX3_findLiving_24 : decode cX3_findLiving 24 = .ok (.ldc 39, 2) := by decide +kernel
theorem dX3_findLiving_26 : decode cX3_findLiving 26 = .ok (.if_icmp .ge 47, 3) := by decide +kernel
theorem dX3_findLiving_29 : decode cX3_findLiving 29 = .ok (.iconst 0, 1) := by decide +kernel
theorem dX3_findLiving_30 : decode cX3_findLiving 30 = .ok (.istore_n 2, 1) := by decide +kernel
theorem dX3_findLiving_31 : decode cX3_findLiving 31 = .ok (.aload_n 1, 1) := by decide +kernel
theorem dX3_findLiving_32 : decode cX3_findLiving 32 = .ok (.getfield 29, 3) := by decide +kernel
theorem dX3_findLiving_35 : decode cX3_findLiving 35 = .ok (.iconst 1, 1) := by decide +kernel
theorem dX3_findLiving_36 : decode cX3_findLiving 36 = .ok (.isub, 1) := by decide +kernel
theorem dX3_findLiving_37 : decode cX3_findLiving 37 = .ok (.istore 4, 2) := by decide +kernel
theorem dX3_findLiving_39 : decode cX3_findLiving 39 = .ok (.iload 4, 2) := by decide +kernel
theorem dX3_findLiving_41 : decode cX3_findLiving 41 = .ok (.ifCond .lt 26, 3) := by decide +kernel
theorem dX3_findLiving_44 : decode cX3_findLiving 44 = .ok (.aload_n 0, 1) := by decide +kernel
theorem dX3_findLiving_45 : decode cX3_findLiving 45 = .ok (.aload_n 1, 1) := by decide +kernel
theorem dX3_findLiving_46 : decode cX3_findLiving 46 = .ok (.iload 4, 2) := by decide +kernel
theorem dX3_findLiving_48 : decode cX3_findLiving 48 = .ok (.invokevirtual 40, 3) := by decide +kernel
theorem dX3_findLiving_51 : decode cX3_findLiving 51 = .ok (.iload_n 2, 1) := by decide +kernel
theorem dX3_findLiving_52 : decode cX3_findLiving 52 = .ok (.aload_n 0, 1) := by decide +kernel
theorem dX3_findLiving_53 : decode cX3_findLiving 53 = .ok (.aload_n 1, 1) := by decide +kernel
theorem dX3_findLiving_54 : decode cX3_findLiving 54 = .ok (.iload 4, 2) := by decide +kernel
theorem dX3_findLiving_56 : decode cX3_findLiving 56 = .ok (.invokevirtual 44, 3) := by decide +kernel
theorem dX3_findLiving_59 : decode cX3_findLiving 59 = .ok (.ior, 1) := by decide +kernel
theorem dX3_findLiving_60 : decode cX3_findLiving 60 = .ok (.istore_n 2, 1) := by decide +kernel
theorem dX3_findLiving_61 : decode cX3_findLiving 61 = .ok (.iinc 4 (-1), 3) := by decide +kernel
theorem dX3_findLiving_64 : decode cX3_findLiving 64 = .ok (.goto (-25), 3) := by decide +kernel
set_option maxRecDepth 20000 in
theorem l_X3_findLiving_39 (d : Nat) {T : CT} {σ0 : MS} {a : Nat} {rx1 : Nat} {c3 : Int} {post : Option Value → CT → MS → Prop} (h_a : OB T a 3) (h_rx1 : OB T rx1 1) (r_c3 : 0 ≤ c3 ∧ c3 ≤ 999999) (hw0 : WT T σ0) (hx_67 : ∀ (i2 : Int) (i4 : Int) (σ : MS) , (WT T σ) → (FrC T [] σ0 σ) → (0 ≤ i2 ∧ i2 ≤ 1) → (-1 ≤ i4 ∧ i4 ≤ 4999) → Tn (d + 4) m_X3_findLiving 67 T σ [(0, .ref a), (1, .ref rx1), (2, .int (iI i2)), (3, .int (iI c3)), (4, .int (iI i4))] [] post) : ∀ (n : Nat) (i2 : Int) (i4 : Int) (σ : MS) , (WT T σ) → (FrC T [] σ0 σ) → (0 ≤ i2 ∧ i2 ≤ 1) → (-1 ≤ i4 ∧ i4 ≤ 4999) → (i4 + 20).toNat = n → Tn (d + 4) m_X3_findLiving 39 T σ [(0, .ref a), (1, .ref rx1), (2, .int (iI i2)), (3, .int (iI c3)), (4, .int (iI i4))] [] post := by
  intro n
  induction n using Nat.strongRecOn with
  | _ n ih =>
    intro i2 i4 σ hw hF r_i2 r_i4 hm
    refine tn_iload dX3_findLiving_39 4 rfl ?_
    refine tn_if_lt (tgt := 67) dX3_findLiving_41 (by decide) ⟨by omega, by omega⟩ (fun h1 => ?_) (fun h1 => ?_)
    · exact tn_sub [0, 1, 2, 3, 4] rfl (hx_67 (i2) (i4) σ hw (FrC.rfl.trans (FrC.sub hF (by decide))) (by omega) (by omega))
    · refine tn_aload_n dX3_findLiving_44 rfl 0 rfl ?_
      refine tn_aload_n dX3_findLiving_45 rfl 1 rfl ?_
      refine tn_iload dX3_findLiving_46 4 rfl ?_
      refine tn_callV (M := m_X3_findLiving) (pc := 48) (ix := 40) (ci := 3) (M' := m_X3_gatherBehind) (As := [.ref rx1, .int (iI i4)]) (rest := []) dX3_findLiving_48 ok_X3_gatherBehind im_X3_gatherBehind se_X3_gatherBehind ml3_40 np_X3_gatherBehind rfl rfl h_a rfl (Nat.le_of_ble_eq_true rfl) (Nat.le_of_ble_eq_true rfl) rfl (k_X3_gatherBehind (d) (T := T) (σ := σ) (a := a) (p1 := rx1) (p2 := i4) h_a h_rx1 (by omega) hw ) (fun r2 T4 σ3 gt5 hp => ?_)
      obtain ⟨rfl, rfl, w7, F8⟩ := hp
      clear gt5
      show Tn _ _ 51 T σ3 [(0, .ref a), (1, .ref rx1), (2, .int (iI i2)), (3, .int (iI c3)), (4, .int (iI i4))] [] _
      refine tn_iload_n dX3_findLiving_51 rfl 2 rfl ?_
      refine tn_aload_n dX3_findLiving_52 rfl 0 rfl ?_
      refine tn_aload_n dX3_findLiving_53 rfl 1 rfl ?_
      refine tn_iload dX3_findLiving_54 4 rfl ?_
      refine tn_callV (M := m_X3_findLiving) (pc := 56) (ix := 44) (ci := 3) (M' := m_X3_settleAhead) (As := [.ref rx1, .int (iI i4)]) (rest := [.int (iI i2)]) dX3_findLiving_56 ok_X3_settleAhead im_X3_settleAhead se_X3_settleAhead ml3_44 np_X3_settleAhead rfl rfl h_a rfl (Nat.le_of_ble_eq_true rfl) (Nat.le_of_ble_eq_true rfl) rfl (k_X3_settleAhead (d) (T := T) (σ := σ3) (a := a) (p1 := rx1) (p2 := i4) h_a h_rx1 (by omega) w7 ) (fun r9 T11 σ10 gt12 hp => ?_)
      obtain ⟨v14, rfl, rfl, w15, F16, f13⟩ := hp
      clear gt12
      show Tn _ _ 59 T σ10 [(0, .ref a), (1, .ref rx1), (2, .int (iI i2)), (3, .int (iI c3)), (4, .int (iI i4))] [.int (iI v14), .int (iI i2)] _
      refine tn_ior dX3_findLiving_59 ?_
      refine tn_bor (x := i2) (y := v14) (by omega) (by omega) (fun z19 g20 => ?_)
      refine tn_istore_n (L' := [(2, .int (iI z19)), (0, .ref a), (1, .ref rx1), (3, .int (iI c3)), (4, .int (iI i4))]) dX3_findLiving_60 rfl (by decide) rfl ?_
      refine tn_iinc (q0 := 4) (L' := [(4, .int (iI (i4 + (-1)))), (2, .int (iI z19)), (0, .ref a), (1, .ref rx1), (3, .int (iI c3))]) dX3_findLiving_61 rfl (by decide) rfl ?_
      refine tn_goto (tgt := 39) dX3_findLiving_64 (by decide) ?_
      exact tn_sub [2, 3, 1, 4, 0] rfl (ih _ (by omega) (z19) (i4 + (-1)) σ10 w15 (((FrC.rfl.trans (FrC.sub hF (by decide))).trans (FrC.sub F8 (by decide))).trans (FrC.sub F16 (by decide))) (by omega) (by omega) rfl)
theorem dX3_findLiving_67 : decode cX3_findLiving 67 = .ok (.iinc 3 1, 3) := by decide +kernel
theorem dX3_findLiving_70 : decode cX3_findLiving 70 = .ok (.goto (-51), 3) := by decide +kernel
set_option maxRecDepth 20000 in
theorem l_X3_findLiving_19 (d : Nat) {T : CT} {σ0 : MS} {a : Nat} {rx1 : Nat} {post : Option Value → CT → MS → Prop} (h_a : OB T a 3) (h_rx1 : OB T rx1 1) (hw0 : WT T σ0) (hx_73 : ∀ (i2 : Int) (i3 : Int) (σ : MS) , (WT T σ) → (FrC T [] σ0 σ) → (0 ≤ i2 ∧ i2 ≤ 1) → (0 ≤ i3 ∧ i3 ≤ 2147483647) → Tn (d + 4) m_X3_findLiving 73 T σ [(0, .ref a), (1, .ref rx1), (2, .int (iI i2)), (3, .int (iI i3))] [] post) : ∀ (n : Nat) (i2 : Int) (i3 : Int) (σ : MS) , (WT T σ) → (FrC T [] σ0 σ) → (0 ≤ i2 ∧ i2 ≤ 1) → (0 ≤ i3 ∧ i3 ≤ 2147483647) → (2147483700 - i3).toNat = n → Tn (d + 4) m_X3_findLiving 19 T σ [(0, .ref a), (1, .ref rx1), (2, .int (iI i2)), (3, .int (iI i3))] [] post := by
  intro n
  induction n using Nat.strongRecOn with
  | _ n ih =>
    intro i2 i3 σ hw hF r_i2 r_i3 hm
    refine tn_iload_n dX3_findLiving_19 rfl 2 rfl ?_
    refine tn_if_eq (tgt := 73) dX3_findLiving_20 (by decide) ⟨by omega, by omega⟩ (fun h1 => ?_) (fun h1 => ?_)
    · exact tn_sub [0, 1, 2, 3] rfl (hx_73 (i2) (i3) σ hw (FrC.rfl.trans (FrC.sub hF (by decide))) (by omega) (by omega))
    · refine tn_iload_n dX3_findLiving_23 rfl 3 rfl ?_
      refine tn_ldc (n := 1000000) dX3_findLiving_24 cst3_39 rfl ?_
      refine tn_icmp_ge (tgt := 73) dX3_findLiving_26 (by decide) ⟨by omega, by omega⟩ ⟨by decide, by decide⟩ (fun h2 => ?_) (fun h2 => ?_)
      · exact tn_sub [0, 1, 2, 3] rfl (hx_73 (i2) (i3) σ hw (FrC.rfl.trans (FrC.sub hF (by decide))) (by omega) (by omega))
      · refine tn_iconst dX3_findLiving_29 ?_
        refine tn_istore_n (L' := [(2, .int (iI 0)), (0, .ref a), (1, .ref rx1), (3, .int (iI i3))]) dX3_findLiving_30 rfl (by decide) rfl ?_
        refine tn_aload_n dX3_findLiving_31 rfl 2 rfl ?_
        refine tn_getI (ci := 1) (i := 1) (n := 6) (t := σ0.2.1 6 rx1) dX3_findLiving_32 rfl lay_1 (by decide) fl3_29 h_rx1 rfl rfl (rc_F hF (Or.inl (by decide)) (by decide) (rfl)) ?_
        have g3 : ((0 : Int) ≤ σ0.2.1 6 rx1 ∧ σ0.2.1 6 rx1 ≤ 5000) ∧ ((T rx1).1 = 50 → σ0.2.1 6 rx1 ≤ 200) := wf_6 hw0 h_rx1
        have g3x := g3.2
        replace g3 := g3.1
        clear g3x
        refine tn_iconst dX3_findLiving_35 ?_
        refine tn_isub dX3_findLiving_36 ?_
        refine tn_istore (L' := [(4, .int (iI ((σ0.2.1 6 rx1) - 1))), (2, .int (iI 0)), (0, .ref a), (1, .ref rx1), (3, .int (iI i3))]) dX3_findLiving_37 (by decide) rfl ?_
        refine tn_sub [2, 3, 1, 4, 0] rfl (l_X3_findLiving_39 (d) (T := T) (σ0 := σ) (a := a) (rx1 := rx1) (c3 := i3) h_a h_rx1 (by omega) hw (fun i24 i45 σ6 w9 F10 r11 r12 => ?_) _ (0) ((σ0.2.1 6 rx1) - 1) σ hw FrC.rfl (by omega) (by omega) rfl)
        show Tn _ _ 67 T σ6 [(0, .ref a), (1, .ref rx1), (2, .int (iI i24)), (3, .int (iI i3)), (4, .int (iI i45))] [] _
        refine tn_iinc (q0 := 3) (L' := [(3, .int (iI (i3 + 1))), (0, .ref a), (1, .ref rx1), (2, .int (iI i24)), (4, .int (iI i45))]) dX3_findLiving_67 rfl (by decide) rfl ?_
        refine tn_goto (tgt := 19) dX3_findLiving_70 (by decide) ?_
        exact tn_sub [1, 2, 3, 0] rfl (ih _ (by omega) (i24) (i3 + 1) σ6 w9 ((FrC.rfl.trans (FrC.sub hF (by decide))).trans (FrC.sub F10 (by decide))) (by omega) (by omega) rfl)
theorem dX3_findLiving_73 : decode cX3_findLiving 73 = .ok (.return_, 1) := by decide +kernel
set_option maxRecDepth 20000 in
theorem k_X3_findLiving (d : Nat) {T : CT} {σ : MS} {a : Nat} {p1 : Nat} (ha : OB T a 3) (h_p1 : OB T p1 1) (hw : WT T σ) : Tn (d + 4) m_X3_findLiving 0 T σ [(0, .ref a), (1, .ref p1)] [] (fun ro T2 σ2 => ro = none ∧ T = T2 ∧ WT T2 σ2 ∧ FrC T [] σ σ2) := by
  refine tn_aload_n dX3_findLiving_0 rfl 0 rfl ?_
  obtain ⟨x1, hx2, hk3, hl4⟩ : ∃ x : Nat, σ.2.1 18 a = (x : Int) ∧ AR T x 3 603 603 := wf_18 hw ha
  refine tn_getR (ci := 3) (i := 0) (n := 18) (x := x1) dX3_findLiving_1 rfl lay_3 (by decide) fl3_9 ha rfl rfl (hx2) ?_
  refine tn_aload_n dX3_findLiving_4 rfl 1 rfl ?_
  refine tn_getI (ci := 1) (i := 1) (n := 6) (t := σ.2.1 6 p1) dX3_findLiving_5 rfl lay_1 (by decide) fl3_29 h_p1 rfl rfl (rfl) ?_
  have g5 : ((0 : Int) ≤ σ.2.1 6 p1 ∧ σ.2.1 6 p1 ≤ 5000) ∧ ((T p1).1 = 50 → σ.2.1 6 p1 ≤ 200) := wf_6 hw h_p1
  have g5x := g5.2
  replace g5 := g5.1
  clear g5x
  refine tn_iconst dX3_findLiving_8 ?_
  refine tn_iadd dX3_findLiving_9 ?_
  refine tn_iconst dX3_findLiving_10 ?_
  refine tn_imul dX3_findLiving_11 ?_
  refine tn_callSN (M := m_X3_findLiving) (pc := 12) (ix := 35) (M' := m_X11_clear) (As := [.ref x1, .int (iI (((σ.2.1 6 p1) + 1) * 3))]) (rest := []) dX3_findLiving_12 ok_X11_clear stt_X11_clear nl3_35 np_X11_clear rfl (Nat.le_of_ble_eq_true rfl) (Nat.le_of_ble_eq_true rfl) rfl (k_X11_clear (d) (T := T) (σ := σ) (x := x1) (n := ((σ.2.1 6 p1) + 1) * 3) hk3 (by omega) (by omega) hw ) (fun r6 T8 σ7 gt9 hp => ?_)
  obtain ⟨rfl, rfl, w11, F12⟩ := hp
  clear gt9
  show Tn _ _ 15 T σ7 [(0, .ref a), (1, .ref p1)] [] _
  refine tn_iconst dX3_findLiving_15 ?_
  refine tn_istore_n (L' := [(2, .int (iI 1)), (0, .ref a), (1, .ref p1)]) dX3_findLiving_16 rfl (by decide) rfl ?_
  refine tn_iconst dX3_findLiving_17 ?_
  refine tn_istore_n (L' := [(3, .int (iI 0)), (2, .int (iI 1)), (0, .ref a), (1, .ref p1)]) dX3_findLiving_18 rfl (by decide) rfl ?_
  refine tn_sub [2, 3, 1, 0] rfl (l_X3_findLiving_19 (d) (T := T) (σ0 := σ7) (a := a) (rx1 := p1) ha h_p1 w11 (fun i213 i314 σ15 w18 F19 r20 r21 => ?_) _ (1) (0) σ7 w11 FrC.rfl (by omega) (by omega) rfl)
  show Tn _ _ 73 T σ15 [(0, .ref a), (1, .ref p1), (2, .int (iI i213)), (3, .int (iI i314))] [] _
  exact tn_vret rfl dX3_findLiving_73 ⟨rfl, rfl, w18, ((FrC.rfl.trans (FrC.sub F12 (by decide))).trans (FrC.sub F19 (by decide)))⟩
end
section
theorem cd_X3_isSeen : Cond.code yX3_isSeen cX3_isSeen 2 (some .boolean) ∈ pWW := pw5 (List.mem_of_getElem? (i := 10) rfl) rfl
abbrev m_X3_isSeen : MT := (yX3_isSeen, cX3_isSeen, 2, (some .boolean))
theorem ok_X3_isSeen : pOk m_X3_isSeen := ⟨⟨cd_X3_isSeen, ini_3⟩, by decide +kernel, ⟨by decide +kernel, by decide +kernel⟩, Nat.le_of_ble_eq_true rfl⟩
theorem np_X3_isSeen : (parseMethodDescriptor yX3_isSeen.desc).map (fun d => d.parameters.length) = some 1 := by decide +kernel
theorem im_X3_isSeen : Cond.instanceMethod yX3_isSeen ∈ pWW := pw5 (List.mem_of_getElem? (i := 8) rfl) rfl
theorem se_X3_isSeen : Cond.selects RX3 yX3_isSeen yX3_isSeen ∈ pWW := pw5 (List.mem_of_getElem? (i := 9) rfl) rfl
theorem fl3_18 : Cond.fieldLink RX3 18 (TX3 2).1 (TX3 2).2.1 (TX3 2).2.2.1 ∈ pWW := pw1 (List.mem_of_getElem? (i := 224) rfl) rfl
theorem nl3_84 : (RX3, 84, yX11_at, "LineKeeper") ∈ nst_M := List.mem_of_getElem? (i := 21) rfl
theorem dX3_isSeen_0 : decode cX3_isSeen 0 = .ok (.aload_n 0, 1) := by decide +kernel
theorem dX3_isSeen_1 : decode cX3_isSeen 1 = .ok (.getfield 18, 3) := by decide +kernel
theorem dX3_isSeen_4 : decode cX3_isSeen 4 = .ok (.iload_n 1, 1) := by decide +kernel
theorem dX3_isSeen_5 : decode cX3_isSeen 5 = .ok (.invokestatic 84, 3) := by decide +kernel
theorem dX3_isSeen_8 : decode cX3_isSeen 8 = .ok (.ifCond .eq 7, 3) := by decide +kernel
theorem dX3_isSeen_15 : decode cX3_isSeen 15 = .ok (.iconst 0, 1) := by decide +kernel
theorem dX3_isSeen_16 : decode cX3_isSeen 16 = .ok (.ireturn, 1) := by decide +kernel
theorem dX3_isSeen_11 : decode cX3_isSeen 11 = .ok (.iconst 1, 1) := by decide +kernel
theorem dX3_isSeen_12 : decode cX3_isSeen 12 = .ok (.goto 4, 3) := by decide +kernel
set_option maxRecDepth 20000 in
theorem k_X3_isSeen (d : Nat) {T : CT} {σ : MS} {a : Nat} {p1 : Int} (ha : OB T a 3) (h_p1 : -2147483648 ≤ p1 ∧ p1 ≤ 2147483647) (hw : WT T σ) : Tn (d + 2) m_X3_isSeen 0 T σ [(0, .ref a), (1, .int (iI p1))] [] (fun ro T2 σ2 => ∃ v : Int, ro = some (.int (iI v)) ∧ T = T2 ∧ σ = σ2 ∧ (v = 0 ∨ v = 1)) := by
  refine tn_aload_n dX3_isSeen_0 rfl 0 rfl ?_
  obtain ⟨x1, hx2, hk3, hl4⟩ : ∃ x : Nat, σ.2.1 20 a = (x : Int) ∧ AR T x 1 201 201 := wf_20 hw ha
  have hk3i : IA T x1 := by unfold IA; omega
  refine tn_getR (ci := 3) (i := 2) (n := 20) (x := x1) dX3_isSeen_1 rfl lay_3 (by decide) fl3_18 ha rfl rfl (hx2) ?_
  refine tn_iload_n dX3_isSeen_4 rfl 1 rfl ?_
  refine tn_callSN (M := m_X3_isSeen) (pc := 5) (ix := 84) (M' := m_X11_at) (As := [.ref x1, .int (iI p1)]) (rest := []) dX3_isSeen_5 ok_X11_at stt_X11_at nl3_84 np_X11_at rfl (Nat.le_of_ble_eq_true rfl) (Nat.le_of_ble_eq_true rfl) rfl (k_X11_at (d) (T := T) (σ := σ) (x := x1) (i := p1) hk3i (by omega) (by omega) hw ) (fun r5 T7 σ6 gt8 hp => ?_)
  obtain ⟨v12, rfl, rfl, rfl, f9, f10, f11⟩ := hp
  clear gt8
  clear f10 f11
  show Tn _ _ 8 T σ [(0, .ref a), (1, .int (iI p1))] [.int (iI v12)] _
  refine tn_if_eq (tgt := 15) dX3_isSeen_8 (by decide) ⟨by omega, by omega⟩ (fun h13 => ?_) (fun h13 => ?_)
  · refine tn_iconst dX3_isSeen_15 ?_
    exact tn_zret (v := 0) rfl (by decide) dX3_isSeen_16 ⟨_, rfl, rfl, rfl, by omega⟩
  · refine tn_iconst dX3_isSeen_11 ?_
    refine tn_goto (tgt := 16) dX3_isSeen_12 (by decide) ?_
    exact tn_zret (v := 1) rfl (by decide) dX3_isSeen_16 ⟨_, rfl, rfl, rfl, by omega⟩
end
section
theorem cd_X3_see : Cond.code yX3_see cX3_see 3 none ∈ pWW := pw5 (List.mem_of_getElem? (i := 6) rfl) rfl
abbrev m_X3_see : MT := (yX3_see, cX3_see, 3, none)
theorem ok_X3_see : pOk m_X3_see := ⟨⟨cd_X3_see, ini_3⟩, by decide +kernel, ⟨by decide +kernel, by decide +kernel⟩, Nat.le_of_ble_eq_true rfl⟩
theorem np_X3_see : (parseMethodDescriptor yX3_see.desc).map (fun d => d.parameters.length) = some 2 := by decide +kernel
theorem im_X3_see : Cond.instanceMethod yX3_see ∈ pWW := pw5 (List.mem_of_getElem? (i := 5) rfl) rfl
theorem se_X3_see : Cond.selects RX3 yX3_see yX3_see ∈ pWW := pws (List.mem_map.mpr ⟨_, lw_pin 51 rfl, rfl⟩) rfl
theorem ml3_100 : Cond.methodLink RX3 100 yX3_isSeen ∈ pWW := pw5 (List.mem_of_getElem? (i := 7) rfl) rfl
theorem nl3_103 : (RX3, 103, yX11_put, "LineKeeper") ∈ nst_M := List.mem_of_getElem? (i := 22) rfl
theorem fl3_22 : Cond.fieldLink RX3 22 (TX3 3).1 (TX3 3).2.1 (TX3 3).2.2.1 ∈ pWW := pw1 (List.mem_of_getElem? (i := 225) rfl) rfl
theorem fl3_94 : Cond.fieldLink RX3 94 (TX3 4).1 (TX3 4).2.1 (TX3 4).2.2.1 ∈ pWW := pw1 (List.mem_of_getElem? (i := 226) rfl) rfl
theorem dX3_see_0 : decode cX3_see 0 = .ok (.iload_n 2, 1) := by decide +kernel
theorem dX3_see_1 : decode cX3_see 1 = .ok (.ifCond .lt 50, 3) := by decide +kernel
theorem dX3_see_51 : decode cX3_see 51 = .ok (.return_, 1) := by decide +kernel
theorem dX3_see_4 : decode cX3_see 4 = .ok (.iload_n 2, 1) := by decide +kernel
theorem dX3_see_5 : decode cX3_see 5 = .ok (.aload_n 1, 1) := by decide +kernel
theorem dX3_see_6 : decode cX3_see 6 = .ok (.getfield 29, 3) := by decide +kernel
theorem dX3_see_9 : decode cX3_see 9 = .ok (.if_icmp .ge 42, 3) := by decide +kernel
theorem dX3_see_12 : decode cX3_see 12 = .ok (.aload_n 0, 1) := by decide +kernel
theorem dX3_see_13 : decode cX3_see 13 = .ok (.iload_n 2, 1) := by decide +kernel
theorem dX3_see_14 : decode cX3_see 14 = .ok (.invokevirtual 100, 3) := by decide +kernel
theorem dX3_see_17 : decode cX3_see 17 = .ok (.ifCond .ne 34, 3) := by decide +kernel
theorem dX3_see_20 : decode cX3_see 20 = .ok (.aload_n 0, 1) := by decide +kernel
theorem dX3_see_21 : decode cX3_see 21 = .ok (.getfield 18, 3) := by decide +kernel
theorem dX3_see_24 : decode cX3_see 24 = .ok (.iload_n 2, 1) := by decide +kernel
theorem dX3_see_25 : decode cX3_see 25 = .ok (.iconst 1, 1) := by decide +kernel
theorem dX3_see_26 : decode cX3_see 26 = .ok (.invokestatic 103, 3) := by decide +kernel
theorem dX3_see_29 : decode cX3_see 29 = .ok (.aload_n 0, 1) := by decide +kernel
theorem dX3_see_30 : decode cX3_see 30 = .ok (.getfield 22, 3) := by decide +kernel
theorem dX3_see_33 : decode cX3_see 33 = .ok (.aload_n 0, 1) := by decide +kernel
theorem dX3_see_34 : decode cX3_see 34 = .ok (.getfield 94, 3) := by decide +kernel
theorem dX3_see_37 : decode cX3_see 37 = .ok (.iload_n 2, 1) := by decide +kernel
theorem dX3_see_38 : decode cX3_see 38 = .ok (.invokestatic 103, 3) := by decide +kernel
theorem dX3_see_41 : decode cX3_see 41 = .ok (.aload_n 0, 1) := by decide +kernel
theorem dX3_see_42 : decode cX3_see 42 = .ok (.dup, 1) := by decide +kernel
theorem dX3_see_43 : decode cX3_see 43 = .ok (.getfield 94, 3) := by decide +kernel
theorem dX3_see_46 : decode cX3_see 46 = .ok (.iconst 1, 1) := by decide +kernel
theorem dX3_see_47 : decode cX3_see 47 = .ok (.iadd, 1) := by decide +kernel
theorem dX3_see_48 : decode cX3_see 48 = .ok (.putfield 94, 3) := by decide +kernel
set_option maxRecDepth 20000 in
theorem k_X3_see (d : Nat) {T : CT} {σ : MS} {a : Nat} {p1 : Nat} {p2 : Int} (ha : OB T a 3) (h_p1 : OB T p1 1) (h_p2 : -2147483648 ≤ p2 ∧ p2 ≤ 2147483647) (hw : WT T σ) : Tn (d + 3) m_X3_see 0 T σ [(0, .ref a), (1, .ref p1), (2, .int (iI p2))] [] (fun ro T2 σ2 => ro = none ∧ T = T2 ∧ WT T2 σ2 ∧ FrC T [22] σ σ2) := by
  refine tn_iload_n dX3_see_0 rfl 2 rfl ?_
  refine tn_if_lt (tgt := 51) dX3_see_1 (by decide) ⟨by omega, by omega⟩ (fun h1 => ?_) (fun h1 => ?_)
  · exact tn_vret rfl dX3_see_51 ⟨rfl, rfl, hw, FrC.rfl⟩
  · refine tn_iload_n dX3_see_4 rfl 2 rfl ?_
    refine tn_aload_n dX3_see_5 rfl 1 rfl ?_
    refine tn_getI (ci := 1) (i := 1) (n := 6) (t := σ.2.1 6 p1) dX3_see_6 rfl lay_1 (by decide) fl3_29 h_p1 rfl rfl (rfl) ?_
    have g2 : ((0 : Int) ≤ σ.2.1 6 p1 ∧ σ.2.1 6 p1 ≤ 5000) ∧ ((T p1).1 = 50 → σ.2.1 6 p1 ≤ 200) := wf_6 hw h_p1
    have g2x := g2.2
    replace g2 := g2.1
    clear g2x
    refine tn_icmp_ge (tgt := 51) dX3_see_9 (by decide) ⟨by omega, by omega⟩ ⟨by omega, by omega⟩ (fun h3 => ?_) (fun h3 => ?_)
    · exact tn_vret rfl dX3_see_51 ⟨rfl, rfl, hw, FrC.rfl⟩
    · refine tn_aload_n dX3_see_12 rfl 0 rfl ?_
      refine tn_iload_n dX3_see_13 rfl 2 rfl ?_
      refine tn_callV (M := m_X3_see) (pc := 14) (ix := 100) (ci := 3) (M' := m_X3_isSeen) (As := [.int (iI p2)]) (rest := []) dX3_see_14 ok_X3_isSeen im_X3_isSeen se_X3_isSeen ml3_100 np_X3_isSeen rfl rfl ha rfl (Nat.le_of_ble_eq_true rfl) (Nat.le_of_ble_eq_true rfl) rfl (k_X3_isSeen (d) (T := T) (σ := σ) (a := a) (p1 := p2) ha (by omega) hw ) (fun r4 T6 σ5 gt7 hp => ?_)
      obtain ⟨v9, rfl, rfl, rfl, f8⟩ := hp
      clear gt7
      show Tn _ _ 17 T σ [(0, .ref a), (1, .ref p1), (2, .int (iI p2))] [.int (iI v9)] _
      refine tn_if_ne (tgt := 51) dX3_see_17 (by decide) ⟨by omega, by omega⟩ (fun h10 => ?_) (fun h10 => ?_)
      · exact tn_vret rfl dX3_see_51 ⟨rfl, rfl, hw, FrC.rfl⟩
      · refine tn_aload_n dX3_see_20 rfl 0 rfl ?_
        obtain ⟨x11, hx12, hk13, hl14⟩ : ∃ x : Nat, σ.2.1 20 a = (x : Int) ∧ AR T x 1 201 201 := wf_20 hw ha
        have hk13i : IA T x11 := by unfold IA; omega
        refine tn_getR (ci := 3) (i := 2) (n := 20) (x := x11) dX3_see_21 rfl lay_3 (by decide) fl3_18 ha rfl rfl (hx12) ?_
        refine tn_iload_n dX3_see_24 rfl 2 rfl ?_
        refine tn_iconst dX3_see_25 ?_
        refine tn_callSN (M := m_X3_see) (pc := 26) (ix := 103) (M' := m_X11_put) (As := [.ref x11, .int (iI p2), .int (iI 1)]) (rest := []) dX3_see_26 ok_X11_put stt_X11_put nl3_103 np_X11_put rfl (Nat.le_of_ble_eq_true rfl) (Nat.le_of_ble_eq_true rfl) rfl (k_X11_put (d + 1) (T := T) (σ := σ) (x := x11) (i := p2) (y := 1) hk13i (by omega) (by omega) (by decide) hw (nh_k hk13 (by unfold HT; omega)) (vok_1 (by have q9 := hk13; omega) (by omega))) (fun r15 T17 σ16 gt18 hp => ?_)
        obtain ⟨rfl, rfl, w20, F21⟩ := hp
        clear gt18
        show Tn _ _ 29 T σ16 [(0, .ref a), (1, .ref p1), (2, .int (iI p2))] [] _
        refine tn_aload_n dX3_see_29 rfl 0 rfl ?_
        obtain ⟨x22, hx23, hk24, hl25⟩ : ∃ x : Nat, σ.2.1 21 a = (x : Int) ∧ AR T x 1 201 201 := wf_21 hw ha
        have hk24i : IA T x22 := by unfold IA; omega
        refine tn_getR (ci := 3) (i := 3) (n := 21) (x := x22) dX3_see_30 rfl lay_3 (by decide) fl3_22 ha rfl rfl (rc_F F21 (Or.inl (by decide)) (by decide) (hx23)) ?_
        refine tn_aload_n dX3_see_33 rfl 0 rfl ?_
        refine tn_getI (ci := 3) (i := 4) (n := 22) (t := σ.2.1 22 a) dX3_see_34 rfl lay_3 (by decide) fl3_94 ha rfl rfl (rc_F F21 (Or.inl (by decide)) (by decide) (rfl)) ?_
        have g26 : ((-2147483648 : Int) ≤ σ.2.1 22 a ∧ σ.2.1 22 a ≤ 2147483647) := wf_22 hw ha
        refine tn_iload_n dX3_see_37 rfl 2 rfl ?_
        refine tn_callSN (M := m_X3_see) (pc := 38) (ix := 103) (M' := m_X11_put) (As := [.ref x22, .int (iI (σ.2.1 22 a)), .int (iI p2)]) (rest := []) dX3_see_38 ok_X11_put stt_X11_put nl3_103 np_X11_put rfl (Nat.le_of_ble_eq_true rfl) (Nat.le_of_ble_eq_true rfl) rfl (k_X11_put (d + 1) (T := T) (σ := σ16) (x := x22) (i := σ.2.1 22 a) (y := p2) hk24i (by omega) (by omega) (by omega) w20 (nh_k hk24 (by unfold HT; omega)) (vok_1 (by have q9 := hk24; omega) (by omega))) (fun r27 T29 σ28 gt30 hp => ?_)
        obtain ⟨rfl, rfl, w32, F33⟩ := hp
        clear gt30
        show Tn _ _ 41 T σ28 [(0, .ref a), (1, .ref p1), (2, .int (iI p2))] [] _
        refine tn_aload_n dX3_see_41 rfl 0 rfl ?_
        refine tn_dup dX3_see_42 rfl ?_
        refine tn_getI (ci := 3) (i := 4) (n := 22) (t := σ.2.1 22 a) dX3_see_43 rfl lay_3 (by decide) fl3_94 ha rfl rfl (rc_F F33 (Or.inl (by decide)) (by decide) (rc_F F21 (Or.inl (by decide)) (by decide) (rfl))) ?_
        refine tn_iconst dX3_see_46 ?_
        refine tn_iadd dX3_see_47 ?_
        refine tn_any (fun z34 g35 => ?_)
        have g35r : -2147483648 ≤ z34 ∧ z34 ≤ 2147483647 := g35
        refine tn_putV (ci := 3) (i := 4) (n := 22) (r := false) (v := z34) tyX3 tyX3_ok nmX3 dX3_see_48 rfl lay_3 (by decide) fl3_94 rfl (tyX3_ok 4 (by decide)) rfl rfl rfl ha rfl rfl ?_
        exact tn_vret rfl dX3_see_51 ⟨rfl, rfl, (w32.put (by decide) (by decide) (fo_22 (by omega))), (((FrC.rfl.trans (FrC.sub F21 (by decide))).trans (FrC.sub F33 (by decide))).put (by decide) (by decide))⟩
end
section
theorem cd_X3_seeFrom : Cond.code yX3_seeFrom cX3_seeFrom 6 none ∈ pWW := pw5 (List.mem_of_getElem? (i := 1) rfl) rfl
abbrev m_X3_seeFrom : MT := (yX3_seeFrom, cX3_seeFrom, 6, none)
theorem ok_X3_seeFrom : pOk m_X3_seeFrom := ⟨⟨cd_X3_seeFrom, ini_3⟩, by decide +kernel, ⟨by decide +kernel, by decide +kernel⟩, Nat.le_of_ble_eq_true rfl⟩
theorem np_X3_seeFrom : (parseMethodDescriptor yX3_seeFrom.desc).map (fun d => d.parameters.length) = some 3 := by decide +kernel
theorem im_X3_seeFrom : Cond.instanceMethod yX3_seeFrom ∈ pWW := pw4 (List.mem_of_getElem? (i := 239) rfl) rfl
theorem se_X3_seeFrom : Cond.selects RX3 yX3_seeFrom yX3_seeFrom ∈ pWW := pw5 (List.mem_of_getElem? (i := 0) rfl) rfl
theorem ml3_88 : Cond.methodLink RX3 88 yJ7_fill_53178 ∈ pWW := pw5 (List.mem_of_getElem? (i := 2) rfl) rfl
theorem ml3_97 : Cond.methodLink RX3 97 yX3_see ∈ pWW := pw5 (List.mem_of_getElem? (i := 3) rfl) rfl
theorem dX3_seeFrom_0 : decode cX3_seeFrom 0 = .ok (.aload_n 0, 1) := by decide +kernel
theorem dX3_seeFrom_1 : decode cX3_seeFrom 1 = .ok (.getfield 18, 3) := by decide +kernel
theorem dX3_seeFrom_4 : decode cX3_seeFrom 4 = .ok (.iconst 0, 1) := by decide +kernel
theorem dX3_seeFrom_5 : decode cX3_seeFrom 5 = .ok (.invokestatic 88, 3) := by decide +kernel
theorem dX3_seeFrom_8 : decode cX3_seeFrom 8 = .ok (.aload_n 0, 1) := by decide +kernel
theorem dX3_seeFrom_9 : decode cX3_seeFrom 9 = .ok (.iconst 0, 1) := by decide +kernel
theorem dX3_seeFrom_10 : decode cX3_seeFrom 10 = .ok (.putfield 94, 3) := by decide +kernel
theorem dX3_seeFrom_13 : decode cX3_seeFrom 13 = .ok (.aload_n 0, 1) := by decide +kernel
theorem dX3_seeFrom_14 : decode cX3_seeFrom 14 = .ok (.aload_n 1, 1) := by decide +kernel
theorem dX3_seeFrom_15 : decode cX3_seeFrom 15 = .ok (.iload_n 2, 1) := by decide +kernel
theorem dX3_seeFrom_16 : decode cX3_seeFrom 16 = .ok (.invokevirtual 97, 3) := by decide +kernel
theorem dX3_seeFrom_19 : decode cX3_seeFrom 19 = .ok (.iconst 0, 1) := by decide +kernel
theorem dX3_seeFrom_20 : decode cX3_seeFrom 20 = .ok (.istore 4, 2) := by decide +kernel
theorem dX3_seeFrom_22 : decode cX3_seeFrom 22 = .ok (.aload_n 0, 1) := by decide +kernel
theorem dX3_seeFrom_23 : decode cX3_seeFrom 23 = .ok (.getfield 94, 3) := by decide +kernel
theorem dX3_seeFrom_26 : decode cX3_seeFrom 26 = .ok (.ifCond .le 86, 3) := by decide +kernel
theorem dX3_seeFrom_29 : decode cX3_seeFrom 29 = .ok (.iload 4, 2) := by decide +kernel
theorem dX3_seeFrom_31 : decode cX3_seeFrom 31 = .ok (.ldc 39, 2) := by decide +kernel
theorem dX3_seeFrom_33 : decode cX3_seeFrom 33 = .ok (.if_icmp .ge 79, 3) := by decide +kernel
theorem dX3_seeFrom_36 : decode cX3_seeFrom 36 = .ok (.aload_n 0, 1) := by decide +kernel
theorem dX3_seeFrom_37 : decode cX3_seeFrom 37 = .ok (.dup, 1) := by decide +kernel
theorem dX3_seeFrom_38 : decode cX3_seeFrom 38 = .ok (.getfield 94, 3) := by decide +kernel
theorem dX3_seeFrom_41 : decode cX3_seeFrom 41 = .ok (.iconst 1, 1) := by decide +kernel
theorem dX3_seeFrom_42 : decode cX3_seeFrom 42 = .ok (.isub, 1) := by decide +kernel
theorem dX3_seeFrom_43 : decode cX3_seeFrom 43 = .ok (.putfield 94, 3) := by decide +kernel
theorem dX3_seeFrom_46 : decode cX3_seeFrom 46 = .ok (.aload_n 0, 1) := by decide +kernel
theorem dX3_seeFrom_47 : decode cX3_seeFrom 47 = .ok (.getfield 22, 3) := by decide +kernel
theorem dX3_seeFrom_50 : decode cX3_seeFrom 50 = .ok (.aload_n 0, 1) := by decide +kernel
theorem dX3_seeFrom_51 : decode cX3_seeFrom 51 = .ok (.getfield 94, 3) := by decide +kernel
theorem dX3_seeFrom_54 : decode cX3_seeFrom 54 = .ok (.invokestatic 84, 3) := by decide +kernel
theorem dX3_seeFrom_57 : decode cX3_seeFrom 57 = .ok (.istore 5, 2) := by decide +kernel
theorem dX3_seeFrom_59 : decode cX3_seeFrom 59 = .ok (.iload_n 3, 1) := by decide +kernel
theorem dX3_seeFrom_60 : decode cX3_seeFrom 60 = .ok (.iconst (-1), 1) := by decide +kernel
theorem dX3_seeFrom_61 : decode cX3_seeFrom 61 = .ok (.if_icmp .eq 16, 3) := by decide +kernel
theorem dX3_seeFrom_77 : decode cX3_seeFrom 77 = .ok (.aload_n 1, 1) := by decide +kernel
theorem dX3_seeFrom_78 : decode cX3_seeFrom 78 = .ok (.iload 5, 2) := by decide +kernel
theorem dX3_seeFrom_80 : decode cX3_seeFrom 80 = .ok (.invokevirtual 48, 3) := by decide +kernel
theorem dX3_seeFrom_83 : decode cX3_seeFrom 83 = .ok (.ifCond .eq 12, 3) := by decide +kernel
theorem dX3_seeFrom_95 : decode cX3_seeFrom 95 = .ok (.aload_n 0, 1) := by decide +kernel
theorem dX3_seeFrom_96 : decode cX3_seeFrom 96 = .ok (.aload_n 1, 1) := by decide +kernel
theorem dX3_seeFrom_97 : decode cX3_seeFrom 97 = .ok (.aload_n 1, 1) := by decide +kernel
theorem dX3_seeFrom_98 : decode cX3_seeFrom 98 = .ok (.iload 5, 2) := by decide +kernel
theorem dX3_seeFrom_100 : decode cX3_seeFrom 100 = .ok (.invokevirtual 52, 3) := by decide +kernel
theorem dX3_seeFrom_103 : decode cX3_seeFrom 103 = .ok (.invokevirtual 97, 3) := by decide +kernel
theorem dX3_seeFrom_106 : decode cX3_seeFrom 106 = .ok (.iinc 4 1, 3) := by decide +kernel
theorem dX3_seeFrom_109 : decode cX3_seeFrom 109 = .ok (.goto (-87), 3) := by decide +kernel
theorem dX3_seeFrom_86 : decode cX3_seeFrom 86 = .ok (.aload_n 0, 1) := by decide +kernel
theorem dX3_seeFrom_87 : decode cX3_seeFrom 87 = .ok (.aload_n 1, 1) := by decide +kernel
theorem dX3_seeFrom_88 : decode cX3_seeFrom 88 = .ok (.iload 5, 2) := by decide +kernel
theorem dX3_seeFrom_90 : decode cX3_seeFrom 90 = .ok (.iconst 1, 1) := by decide +kernel
theorem dX3_seeFrom_91 : decode cX3_seeFrom 91 = .ok (.iadd, 1) := by decide +kernel
theorem dX3_seeFrom_92 : decode cX3_seeFrom 92 = .ok (.invokevirtual 97, 3) := by decide +kernel
theorem dX3_seeFrom_64 : decode cX3_seeFrom 64 = .ok (.aload_n 1, 1) := by decide +kernel
theorem dX3_seeFrom_65 : decode cX3_seeFrom 65 = .ok (.iload 5, 2) := by decide +kernel
theorem dX3_seeFrom_67 : decode cX3_seeFrom 67 = .ok (.invokevirtual 64, 3) := by decide +kernel
theorem dX3_seeFrom_70 : decode cX3_seeFrom 70 = .ok (.iload_n 3, 1) := by decide +kernel
theorem dX3_seeFrom_71 : decode cX3_seeFrom 71 = .ok (.if_icmp .ne 6, 3) := by decide +kernel
theorem dX3_seeFrom_74 : decode cX3_seeFrom 74 = .ok (.goto 32, 3) := by decide +kernel
set_option maxRecDepth 20000 in
theorem l_X3_seeFrom_22 (d : Nat) {T : CT} {σ0 : MS} {a : Nat} {rx1 : Nat} {c3 : Int} {post : Option Value → CT → MS → Prop} (h_a : OB T a 3) (h_rx1 : OB T rx1 1) (r_c3 : -2147483648 ≤ c3 ∧ c3 ≤ 2147483647) (hw0 : WT T σ0) (hx_112 : ∀ (i4 : Int) (σ : MS) , (WT T σ) → (FrC T [22] σ0 σ) → (0 ≤ i4 ∧ i4 ≤ 2147483647) → Tn (d + 4) m_X3_seeFrom 112 T σ [(0, .ref a), (1, .ref rx1), (3, .int (iI c3)), (4, .int (iI i4))] [] post) : ∀ (n : Nat) (i4 : Int) (σ : MS) , (WT T σ) → (FrC T [22] σ0 σ) → (0 ≤ i4 ∧ i4 ≤ 2147483647) → (2147483700 - i4).toNat = n → Tn (d + 4) m_X3_seeFrom 22 T σ [(0, .ref a), (1, .ref rx1), (3, .int (iI c3)), (4, .int (iI i4))] [] post := by
  intro n
  induction n using Nat.strongRecOn with
  | _ n ih =>
    intro i4 σ hw hF r_i4 hm
    refine tn_aload_n dX3_seeFrom_22 rfl 0 rfl ?_
    refine tn_getI (ci := 3) (i := 4) (n := 22) (t := σ.2.1 22 a) dX3_seeFrom_23 rfl lay_3 (by decide) fl3_94 h_a rfl rfl (rfl) ?_
    have g1 : ((-2147483648 : Int) ≤ σ.2.1 22 a ∧ σ.2.1 22 a ≤ 2147483647) := wf_22 hw h_a
    refine tn_if_le (tgt := 112) dX3_seeFrom_26 (by decide) ⟨by omega, by omega⟩ (fun h2 => ?_) (fun h2 => ?_)
    · exact tn_sub [0, 1, 2, 3] rfl (hx_112 (i4) σ hw (FrC.rfl.trans (FrC.sub hF (by decide))) (by omega))
    · refine tn_iload dX3_seeFrom_29 3 rfl ?_
      refine tn_ldc (n := 1000000) dX3_seeFrom_31 cst3_39 rfl ?_
      refine tn_icmp_ge (tgt := 112) dX3_seeFrom_33 (by decide) ⟨by omega, by omega⟩ ⟨by decide, by decide⟩ (fun h3 => ?_) (fun h3 => ?_)
      · exact tn_sub [0, 1, 2, 3] rfl (hx_112 (i4) σ hw (FrC.rfl.trans (FrC.sub hF (by decide))) (by omega))
      · refine tn_aload_n dX3_seeFrom_36 rfl 0 rfl ?_
        refine tn_dup dX3_seeFrom_37 rfl ?_
        refine tn_getI (ci := 3) (i := 4) (n := 22) (t := σ.2.1 22 a) dX3_seeFrom_38 rfl lay_3 (by decide) fl3_94 h_a rfl rfl (rfl) ?_
        refine tn_iconst dX3_seeFrom_41 ?_
        refine tn_isub dX3_seeFrom_42 ?_
        refine tn_putV (ci := 3) (i := 4) (n := 22) (r := false) (v := (σ.2.1 22 a) - 1) tyX3 tyX3_ok nmX3 dX3_seeFrom_43 rfl lay_3 (by decide) fl3_94 rfl (tyX3_ok 4 (by decide)) rfl rfl rfl h_a rfl rfl ?_
        refine tn_aload_n dX3_seeFrom_46 rfl 0 rfl ?_
        obtain ⟨x4, hx5, hk6, hl7⟩ : ∃ x : Nat, σ0.2.1 21 a = (x : Int) ∧ AR T x 1 201 201 := wf_21 hw0 h_a
        have hk6i : IA T x4 := by unfold IA; omega
        refine tn_getR (ci := 3) (i := 3) (n := 21) (x := x4) dX3_seeFrom_47 rfl lay_3 (by decide) fl3_22 h_a rfl rfl (rc_o (by decide) (rc_F hF (Or.inl (by decide)) (by decide) (hx5))) ?_
        refine tn_aload_n dX3_seeFrom_50 rfl 0 rfl ?_
        refine tn_getI (ci := 3) (i := 4) (n := 22) (t := (σ.2.1 22 a) - 1) dX3_seeFrom_51 rfl lay_3 (by decide) fl3_94 h_a rfl rfl (ra_eq) ?_
        refine tn_callSN (M := m_X3_seeFrom) (pc := 54) (ix := 84) (M' := m_X11_at) (As := [.ref x4, .int (iI ((σ.2.1 22 a) - 1))]) (rest := []) dX3_seeFrom_54 ok_X11_at stt_X11_at nl3_84 np_X11_at rfl (Nat.le_of_ble_eq_true rfl) (Nat.le_of_ble_eq_true rfl) rfl (k_X11_at (d + 2) (T := T) (σ := (sA 22 a ((σ.2.1 22 a) - 1) σ)) (x := x4) (i := (σ.2.1 22 a) - 1) hk6i (by omega) (by omega) (hw.put (by decide) (by decide) (fo_22 (by omega))) ) (fun r8 T10 σ9 gt11 hp => ?_)
        obtain ⟨v15, rfl, rfl, rfl, f12, f13, f14⟩ := hp
        clear gt11
        clear f13 f14
        show Tn _ _ 57 T (sA 22 a ((σ.2.1 22 a) - 1) σ) [(0, .ref a), (1, .ref rx1), (3, .int (iI c3)), (4, .int (iI i4))] [.int (iI v15)] _
        refine tn_istore (L' := [(5, .int (iI v15)), (0, .ref a), (1, .ref rx1), (3, .int (iI c3)), (4, .int (iI i4))]) dX3_seeFrom_57 (by decide) rfl ?_
        refine tn_iload_n dX3_seeFrom_59 rfl 3 rfl ?_
        refine tn_iconst dX3_seeFrom_60 ?_
        refine tn_icmp_eq (tgt := 77) dX3_seeFrom_61 (by decide) ⟨by omega, by omega⟩ ⟨by decide, by decide⟩ (fun h16 => ?_) (fun h16 => ?_)
        · refine tn_aload_n dX3_seeFrom_77 rfl 2 rfl ?_
          refine tn_iload dX3_seeFrom_78 0 rfl ?_
          refine tn_callV (M := m_X3_seeFrom) (pc := 80) (ix := 48) (ci := 1) (M' := m_X1_fallsOn) (As := [.int (iI v15)]) (rest := []) dX3_seeFrom_80 ok_X1_fallsOn im_X1_fallsOn se_X1_fallsOn ml3_48 np_X1_fallsOn rfl rfl h_rx1 rfl (Nat.le_of_ble_eq_true rfl) (Nat.le_of_ble_eq_true rfl) rfl (k_X1_fallsOn (d + 1) (T := T) (σ := (sA 22 a ((σ.2.1 22 a) - 1) σ)) (a := rx1) (k := v15) h_rx1 (by omega) (hw.put (by decide) (by decide) (fo_22 (by omega))) ) (fun r17 T19 σ18 gt20 hp => ?_)
          obtain ⟨v22, rfl, rfl, rfl, f21⟩ := hp
          clear gt20
          show Tn _ _ 83 T (sA 22 a ((σ.2.1 22 a) - 1) σ) [(5, .int (iI v15)), (0, .ref a), (1, .ref rx1), (3, .int (iI c3)), (4, .int (iI i4))] [.int (iI v22)] _
          refine tn_if_eq (tgt := 95) dX3_seeFrom_83 (by decide) ⟨by omega, by omega⟩ (fun h23 => ?_) (fun h23 => ?_)
          · refine tn_aload_n dX3_seeFrom_95 rfl 1 rfl ?_
            refine tn_aload_n dX3_seeFrom_96 rfl 2 rfl ?_
            refine tn_aload_n dX3_seeFrom_97 rfl 2 rfl ?_
            refine tn_iload dX3_seeFrom_98 0 rfl ?_
            refine tn_callV (M := m_X3_seeFrom) (pc := 100) (ix := 52) (ci := 1) (M' := m_X1_targetOf) (As := [.int (iI v15)]) (rest := [.ref rx1, .ref a]) dX3_seeFrom_100 ok_X1_targetOf im_X1_targetOf se_X1_targetOf ml3_52 np_X1_targetOf rfl rfl h_rx1 rfl (Nat.le_of_ble_eq_true rfl) (Nat.le_of_ble_eq_true rfl) rfl (k_X1_targetOf (d + 1) (T := T) (σ := (sA 22 a ((σ.2.1 22 a) - 1) σ)) (a := rx1) (k := v15) h_rx1 (by omega) (hw.put (by decide) (by decide) (fo_22 (by omega))) ) (fun r24 T26 σ25 gt27 hp => ?_)
            obtain ⟨v29, rfl, rfl, rfl, f28⟩ := hp
            clear gt27
            show Tn _ _ 103 T (sA 22 a ((σ.2.1 22 a) - 1) σ) [(5, .int (iI v15)), (0, .ref a), (1, .ref rx1), (3, .int (iI c3)), (4, .int (iI i4))] [.int (iI v29), .ref rx1, .ref a] _
            refine tn_callV (M := m_X3_seeFrom) (pc := 103) (ix := 97) (ci := 3) (M' := m_X3_see) (As := [.ref rx1, .int (iI v29)]) (rest := []) dX3_seeFrom_103 ok_X3_see im_X3_see se_X3_see ml3_97 np_X3_see rfl rfl h_a rfl (Nat.le_of_ble_eq_true rfl) (Nat.le_of_ble_eq_true rfl) rfl (k_X3_see (d) (T := T) (σ := (sA 22 a ((σ.2.1 22 a) - 1) σ)) (a := a) (p1 := rx1) (p2 := v29) h_a h_rx1 (by omega) (hw.put (by decide) (by decide) (fo_22 (by omega))) ) (fun r30 T32 σ31 gt33 hp => ?_)
            obtain ⟨rfl, rfl, w35, F36⟩ := hp
            clear gt33
            show Tn _ _ 106 T σ31 [(5, .int (iI v15)), (0, .ref a), (1, .ref rx1), (3, .int (iI c3)), (4, .int (iI i4))] [] _
            refine tn_iinc (q0 := 4) (L' := [(4, .int (iI (i4 + 1))), (5, .int (iI v15)), (0, .ref a), (1, .ref rx1), (3, .int (iI c3))]) dX3_seeFrom_106 rfl (by decide) rfl ?_
            refine tn_goto (tgt := 22) dX3_seeFrom_109 (by decide) ?_
            exact tn_sub [2, 3, 4, 0] rfl (ih _ (by omega) (i4 + 1) σ31 w35 (((FrC.rfl.trans (FrC.sub hF (by decide))).put (by decide) (by decide)).trans (FrC.sub F36 (by decide))) (by omega) rfl)
          · refine tn_aload_n dX3_seeFrom_86 rfl 1 rfl ?_
            refine tn_aload_n dX3_seeFrom_87 rfl 2 rfl ?_
            refine tn_iload dX3_seeFrom_88 0 rfl ?_
            refine tn_iconst dX3_seeFrom_90 ?_
            refine tn_iadd dX3_seeFrom_91 ?_
            refine tn_any (fun z37 g38 => ?_)
            have g38r : -2147483648 ≤ z37 ∧ z37 ≤ 2147483647 := g38
            refine tn_callV (M := m_X3_seeFrom) (pc := 92) (ix := 97) (ci := 3) (M' := m_X3_see) (As := [.ref rx1, .int (iI z37)]) (rest := []) dX3_seeFrom_92 ok_X3_see im_X3_see se_X3_see ml3_97 np_X3_see rfl rfl h_a rfl (Nat.le_of_ble_eq_true rfl) (Nat.le_of_ble_eq_true rfl) rfl (k_X3_see (d) (T := T) (σ := (sA 22 a ((σ.2.1 22 a) - 1) σ)) (a := a) (p1 := rx1) (p2 := z37) h_a h_rx1 (by omega) (hw.put (by decide) (by decide) (fo_22 (by omega))) ) (fun r39 T41 σ40 gt42 hp => ?_)
            obtain ⟨rfl, rfl, w44, F45⟩ := hp
            clear gt42
            show Tn _ _ 95 T σ40 [(5, .int (iI v15)), (0, .ref a), (1, .ref rx1), (3, .int (iI c3)), (4, .int (iI i4))] [] _
            refine tn_aload_n dX3_seeFrom_95 rfl 1 rfl ?_
            refine tn_aload_n dX3_seeFrom_96 rfl 2 rfl ?_
            refine tn_aload_n dX3_seeFrom_97 rfl 2 rfl ?_
            refine tn_iload dX3_seeFrom_98 0 rfl ?_
            refine tn_callV (M := m_X3_seeFrom) (pc := 100) (ix := 52) (ci := 1) (M' := m_X1_targetOf) (As := [.int (iI v15)]) (rest := [.ref rx1, .ref a]) dX3_seeFrom_100 ok_X1_targetOf im_X1_targetOf se_X1_targetOf ml3_52 np_X1_targetOf rfl rfl h_rx1 rfl (Nat.le_of_ble_eq_true rfl) (Nat.le_of_ble_eq_true rfl) rfl (k_X1_targetOf (d + 1) (T := T) (σ := σ40) (a := rx1) (k := v15) h_rx1 (by omega) w44 ) (fun r46 T48 σ47 gt49 hp => ?_)
            obtain ⟨v51, rfl, rfl, rfl, f50⟩ := hp
            clear gt49
            show Tn _ _ 103 T σ40 [(5, .int (iI v15)), (0, .ref a), (1, .ref rx1), (3, .int (iI c3)), (4, .int (iI i4))] [.int (iI v51), .ref rx1, .ref a] _
            refine tn_callV (M := m_X3_seeFrom) (pc := 103) (ix := 97) (ci := 3) (M' := m_X3_see) (As := [.ref rx1, .int (iI v51)]) (rest := []) dX3_seeFrom_103 ok_X3_see im_X3_see se_X3_see ml3_97 np_X3_see rfl rfl h_a rfl (Nat.le_of_ble_eq_true rfl) (Nat.le_of_ble_eq_true rfl) rfl (k_X3_see (d) (T := T) (σ := σ40) (a := a) (p1 := rx1) (p2 := v51) h_a h_rx1 (by omega) w44 ) (fun r52 T54 σ53 gt55 hp => ?_)
            obtain ⟨rfl, rfl, w57, F58⟩ := hp
            clear gt55
            show Tn _ _ 106 T σ53 [(5, .int (iI v15)), (0, .ref a), (1, .ref rx1), (3, .int (iI c3)), (4, .int (iI i4))] [] _
            refine tn_iinc (q0 := 4) (L' := [(4, .int (iI (i4 + 1))), (5, .int (iI v15)), (0, .ref a), (1, .ref rx1), (3, .int (iI c3))]) dX3_seeFrom_106 rfl (by decide) rfl ?_
            refine tn_goto (tgt := 22) dX3_seeFrom_109 (by decide) ?_
            exact tn_sub [2, 3, 4, 0] rfl (ih _ (by omega) (i4 + 1) σ53 w57 ((((FrC.rfl.trans (FrC.sub hF (by decide))).put (by decide) (by decide)).trans (FrC.sub F45 (by decide))).trans (FrC.sub F58 (by decide))) (by omega) rfl)
        · refine tn_aload_n dX3_seeFrom_64 rfl 2 rfl ?_
          refine tn_iload dX3_seeFrom_65 0 rfl ?_
          refine tn_callV (M := m_X3_seeFrom) (pc := 67) (ix := 64) (ci := 1) (M' := m_X1_writtenBy) (As := [.int (iI v15)]) (rest := []) dX3_seeFrom_67 ok_X1_writtenBy im_X1_writtenBy se_X1_writtenBy ml3_64 np_X1_writtenBy rfl rfl h_rx1 rfl (Nat.le_of_ble_eq_true rfl) (Nat.le_of_ble_eq_true rfl) rfl (k_X1_writtenBy (d + 1) (T := T) (σ := (sA 22 a ((σ.2.1 22 a) - 1) σ)) (a := rx1) (k := v15) h_rx1 (by omega) (hw.put (by decide) (by decide) (fo_22 (by omega))) ) (fun r59 T61 σ60 gt62 hp => ?_)
          obtain ⟨v64, rfl, rfl, rfl, f63⟩ := hp
          clear gt62
          show Tn _ _ 70 T (sA 22 a ((σ.2.1 22 a) - 1) σ) [(5, .int (iI v15)), (0, .ref a), (1, .ref rx1), (3, .int (iI c3)), (4, .int (iI i4))] [.int (iI v64)] _
          refine tn_iload_n dX3_seeFrom_70 rfl 3 rfl ?_
          refine tn_icmp_ne (tgt := 77) dX3_seeFrom_71 (by decide) ⟨by omega, by omega⟩ ⟨by omega, by omega⟩ (fun h65 => ?_) (fun h65 => ?_)
          · refine tn_aload_n dX3_seeFrom_77 rfl 2 rfl ?_
            refine tn_iload dX3_seeFrom_78 0 rfl ?_
            refine tn_callV (M := m_X3_seeFrom) (pc := 80) (ix := 48) (ci := 1) (M' := m_X1_fallsOn) (As := [.int (iI v15)]) (rest := []) dX3_seeFrom_80 ok_X1_fallsOn im_X1_fallsOn se_X1_fallsOn ml3_48 np_X1_fallsOn rfl rfl h_rx1 rfl (Nat.le_of_ble_eq_true rfl) (Nat.le_of_ble_eq_true rfl) rfl (k_X1_fallsOn (d + 1) (T := T) (σ := (sA 22 a ((σ.2.1 22 a) - 1) σ)) (a := rx1) (k := v15) h_rx1 (by omega) (hw.put (by decide) (by decide) (fo_22 (by omega))) ) (fun r66 T68 σ67 gt69 hp => ?_)
            obtain ⟨v71, rfl, rfl, rfl, f70⟩ := hp
            clear gt69
            show Tn _ _ 83 T (sA 22 a ((σ.2.1 22 a) - 1) σ) [(5, .int (iI v15)), (0, .ref a), (1, .ref rx1), (3, .int (iI c3)), (4, .int (iI i4))] [.int (iI v71)] _
            refine tn_if_eq (tgt := 95) dX3_seeFrom_83 (by decide) ⟨by omega, by omega⟩ (fun h72 => ?_) (fun h72 => ?_)
            · refine tn_aload_n dX3_seeFrom_95 rfl 1 rfl ?_
              refine tn_aload_n dX3_seeFrom_96 rfl 2 rfl ?_
              refine tn_aload_n dX3_seeFrom_97 rfl 2 rfl ?_
              refine tn_iload dX3_seeFrom_98 0 rfl ?_
              refine tn_callV (M := m_X3_seeFrom) (pc := 100) (ix := 52) (ci := 1) (M' := m_X1_targetOf) (As := [.int (iI v15)]) (rest := [.ref rx1, .ref a]) dX3_seeFrom_100 ok_X1_targetOf im_X1_targetOf se_X1_targetOf ml3_52 np_X1_targetOf rfl rfl h_rx1 rfl (Nat.le_of_ble_eq_true rfl) (Nat.le_of_ble_eq_true rfl) rfl (k_X1_targetOf (d + 1) (T := T) (σ := (sA 22 a ((σ.2.1 22 a) - 1) σ)) (a := rx1) (k := v15) h_rx1 (by omega) (hw.put (by decide) (by decide) (fo_22 (by omega))) ) (fun r73 T75 σ74 gt76 hp => ?_)
              obtain ⟨v78, rfl, rfl, rfl, f77⟩ := hp
              clear gt76
              show Tn _ _ 103 T (sA 22 a ((σ.2.1 22 a) - 1) σ) [(5, .int (iI v15)), (0, .ref a), (1, .ref rx1), (3, .int (iI c3)), (4, .int (iI i4))] [.int (iI v78), .ref rx1, .ref a] _
              refine tn_callV (M := m_X3_seeFrom) (pc := 103) (ix := 97) (ci := 3) (M' := m_X3_see) (As := [.ref rx1, .int (iI v78)]) (rest := []) dX3_seeFrom_103 ok_X3_see im_X3_see se_X3_see ml3_97 np_X3_see rfl rfl h_a rfl (Nat.le_of_ble_eq_true rfl) (Nat.le_of_ble_eq_true rfl) rfl (k_X3_see (d) (T := T) (σ := (sA 22 a ((σ.2.1 22 a) - 1) σ)) (a := a) (p1 := rx1) (p2 := v78) h_a h_rx1 (by omega) (hw.put (by decide) (by decide) (fo_22 (by omega))) ) (fun r79 T81 σ80 gt82 hp => ?_)
              obtain ⟨rfl, rfl, w84, F85⟩ := hp
              clear gt82
              show Tn _ _ 106 T σ80 [(5, .int (iI v15)), (0, .ref a), (1, .ref rx1), (3, .int (iI c3)), (4, .int (iI i4))] [] _
              refine tn_iinc (q0 := 4) (L' := [(4, .int (iI (i4 + 1))), (5, .int (iI v15)), (0, .ref a), (1, .ref rx1), (3, .int (iI c3))]) dX3_seeFrom_106 rfl (by decide) rfl ?_
              refine tn_goto (tgt := 22) dX3_seeFrom_109 (by decide) ?_
              exact tn_sub [2, 3, 4, 0] rfl (ih _ (by omega) (i4 + 1) σ80 w84 (((FrC.rfl.trans (FrC.sub hF (by decide))).put (by decide) (by decide)).trans (FrC.sub F85 (by decide))) (by omega) rfl)
            · refine tn_aload_n dX3_seeFrom_86 rfl 1 rfl ?_
              refine tn_aload_n dX3_seeFrom_87 rfl 2 rfl ?_
              refine tn_iload dX3_seeFrom_88 0 rfl ?_
              refine tn_iconst dX3_seeFrom_90 ?_
              refine tn_iadd dX3_seeFrom_91 ?_
              refine tn_any (fun z86 g87 => ?_)
              have g87r : -2147483648 ≤ z86 ∧ z86 ≤ 2147483647 := g87
              refine tn_callV (M := m_X3_seeFrom) (pc := 92) (ix := 97) (ci := 3) (M' := m_X3_see) (As := [.ref rx1, .int (iI z86)]) (rest := []) dX3_seeFrom_92 ok_X3_see im_X3_see se_X3_see ml3_97 np_X3_see rfl rfl h_a rfl (Nat.le_of_ble_eq_true rfl) (Nat.le_of_ble_eq_true rfl) rfl (k_X3_see (d) (T := T) (σ := (sA 22 a ((σ.2.1 22 a) - 1) σ)) (a := a) (p1 := rx1) (p2 := z86) h_a h_rx1 (by omega) (hw.put (by decide) (by decide) (fo_22 (by omega))) ) (fun r88 T90 σ89 gt91 hp => ?_)
              obtain ⟨rfl, rfl, w93, F94⟩ := hp
              clear gt91
              show Tn _ _ 95 T σ89 [(5, .int (iI v15)), (0, .ref a), (1, .ref rx1), (3, .int (iI c3)), (4, .int (iI i4))] [] _
              refine tn_aload_n dX3_seeFrom_95 rfl 1 rfl ?_
              refine tn_aload_n dX3_seeFrom_96 rfl 2 rfl ?_
              refine tn_aload_n dX3_seeFrom_97 rfl 2 rfl ?_
              refine tn_iload dX3_seeFrom_98 0 rfl ?_
              refine tn_callV (M := m_X3_seeFrom) (pc := 100) (ix := 52) (ci := 1) (M' := m_X1_targetOf) (As := [.int (iI v15)]) (rest := [.ref rx1, .ref a]) dX3_seeFrom_100 ok_X1_targetOf im_X1_targetOf se_X1_targetOf ml3_52 np_X1_targetOf rfl rfl h_rx1 rfl (Nat.le_of_ble_eq_true rfl) (Nat.le_of_ble_eq_true rfl) rfl (k_X1_targetOf (d + 1) (T := T) (σ := σ89) (a := rx1) (k := v15) h_rx1 (by omega) w93 ) (fun r95 T97 σ96 gt98 hp => ?_)
              obtain ⟨v100, rfl, rfl, rfl, f99⟩ := hp
              clear gt98
              show Tn _ _ 103 T σ89 [(5, .int (iI v15)), (0, .ref a), (1, .ref rx1), (3, .int (iI c3)), (4, .int (iI i4))] [.int (iI v100), .ref rx1, .ref a] _
              refine tn_callV (M := m_X3_seeFrom) (pc := 103) (ix := 97) (ci := 3) (M' := m_X3_see) (As := [.ref rx1, .int (iI v100)]) (rest := []) dX3_seeFrom_103 ok_X3_see im_X3_see se_X3_see ml3_97 np_X3_see rfl rfl h_a rfl (Nat.le_of_ble_eq_true rfl) (Nat.le_of_ble_eq_true rfl) rfl (k_X3_see (d) (T := T) (σ := σ89) (a := a) (p1 := rx1) (p2 := v100) h_a h_rx1 (by omega) w93 ) (fun r101 T103 σ102 gt104 hp => ?_)
              obtain ⟨rfl, rfl, w106, F107⟩ := hp
              clear gt104
              show Tn _ _ 106 T σ102 [(5, .int (iI v15)), (0, .ref a), (1, .ref rx1), (3, .int (iI c3)), (4, .int (iI i4))] [] _
              refine tn_iinc (q0 := 4) (L' := [(4, .int (iI (i4 + 1))), (5, .int (iI v15)), (0, .ref a), (1, .ref rx1), (3, .int (iI c3))]) dX3_seeFrom_106 rfl (by decide) rfl ?_
              refine tn_goto (tgt := 22) dX3_seeFrom_109 (by decide) ?_
              exact tn_sub [2, 3, 4, 0] rfl (ih _ (by omega) (i4 + 1) σ102 w106 ((((FrC.rfl.trans (FrC.sub hF (by decide))).put (by decide) (by decide)).trans (FrC.sub F94 (by decide))).trans (FrC.sub F107 (by decide))) (by omega) rfl)
          · refine tn_goto (tgt := 106) dX3_seeFrom_74 (by decide) ?_
            refine tn_iinc (q0 := 4) (L' := [(4, .int (iI (i4 + 1))), (5, .int (iI v15)), (0, .ref a), (1, .ref rx1), (3, .int (iI c3))]) dX3_seeFrom_106 rfl (by decide) rfl ?_
            refine tn_goto (tgt := 22) dX3_seeFrom_109 (by decide) ?_
            exact tn_sub [2, 3, 4, 0] rfl (ih _ (by omega) (i4 + 1) (sA 22 a ((σ.2.1 22 a) - 1) σ) (hw.put (by decide) (by decide) (fo_22 (by omega))) ((FrC.rfl.trans (FrC.sub hF (by decide))).put (by decide) (by decide)) (by omega) rfl)
theorem dX3_seeFrom_112 : decode cX3_seeFrom 112 = .ok (.return_, 1) := by decide +kernel
set_option maxRecDepth 20000 in
theorem k_X3_seeFrom (d : Nat) {T : CT} {σ : MS} {a : Nat} {p1 : Nat} {p2 : Int} {p3 : Int} (ha : OB T a 3) (h_p1 : OB T p1 1) (h_p2 : -2147483648 ≤ p2 ∧ p2 ≤ 2147483647) (h_p3 : -2147483648 ≤ p3 ∧ p3 ≤ 2147483647) (hw : WT T σ) : Tn (d + 4) m_X3_seeFrom 0 T σ [(0, .ref a), (1, .ref p1), (2, .int (iI p2)), (3, .int (iI p3))] [] (fun ro T2 σ2 => ro = none ∧ T = T2 ∧ WT T2 σ2 ∧ FrC T [22] σ σ2) := by
  refine tn_aload_n dX3_seeFrom_0 rfl 0 rfl ?_
  obtain ⟨x1, hx2, hk3, hl4⟩ : ∃ x : Nat, σ.2.1 20 a = (x : Int) ∧ AR T x 1 201 201 := wf_20 hw ha
  have hk3i : IA T x1 := by unfold IA; omega
  refine tn_getR (ci := 3) (i := 2) (n := 20) (x := x1) dX3_seeFrom_1 rfl lay_3 (by decide) fl3_18 ha rfl rfl (hx2) ?_
  refine tn_iconst dX3_seeFrom_4 ?_
  refine tn_callS (M := m_X3_seeFrom) (pc := 5) (ix := 88) (M' := m_J7_fill_53178) (As := [.ref x1, .int (iI 0)]) (rest := []) dX3_seeFrom_5 ok_J7_fill_53178 stt_J7_fill_53178 ml3_88 np_J7_fill_53178 rfl (Nat.le_of_ble_eq_true rfl) (Nat.le_of_ble_eq_true rfl) rfl (k_J7_fill_53178 (d + 2) (T := T) (σ := σ) (x := x1) (y := 0) hk3i (by omega) (by decide) hw (nh_k hk3 (by unfold HT; omega)) (by omega)) (fun r5 T7 σ6 gt8 hp => ?_)
  obtain ⟨rfl, rfl, w10, F11⟩ := hp
  clear gt8
  show Tn _ _ 8 T σ6 [(0, .ref a), (1, .ref p1), (2, .int (iI p2)), (3, .int (iI p3))] [] _
  refine tn_aload_n dX3_seeFrom_8 rfl 0 rfl ?_
  refine tn_iconst dX3_seeFrom_9 ?_
  refine tn_putV (ci := 3) (i := 4) (n := 22) (r := false) (v := 0) tyX3 tyX3_ok nmX3 dX3_seeFrom_10 rfl lay_3 (by decide) fl3_94 rfl (tyX3_ok 4 (by decide)) rfl rfl rfl ha rfl rfl ?_
  refine tn_aload_n dX3_seeFrom_13 rfl 0 rfl ?_
  refine tn_aload_n dX3_seeFrom_14 rfl 1 rfl ?_
  refine tn_iload_n dX3_seeFrom_15 rfl 2 rfl ?_
  refine tn_callV (M := m_X3_seeFrom) (pc := 16) (ix := 97) (ci := 3) (M' := m_X3_see) (As := [.ref p1, .int (iI p2)]) (rest := []) dX3_seeFrom_16 ok_X3_see im_X3_see se_X3_see ml3_97 np_X3_see rfl rfl ha rfl (Nat.le_of_ble_eq_true rfl) (Nat.le_of_ble_eq_true rfl) rfl (k_X3_see (d) (T := T) (σ := (sA 22 a (0) σ6)) (a := a) (p1 := p1) (p2 := p2) ha h_p1 (by omega) (w10.put (by decide) (by decide) (fo_22 (by omega))) ) (fun r12 T14 σ13 gt15 hp => ?_)
  obtain ⟨rfl, rfl, w17, F18⟩ := hp
  clear gt15
  show Tn _ _ 19 T σ13 [(0, .ref a), (1, .ref p1), (2, .int (iI p2)), (3, .int (iI p3))] [] _
  refine tn_iconst dX3_seeFrom_19 ?_
  refine tn_istore (L' := [(4, .int (iI 0)), (0, .ref a), (1, .ref p1), (2, .int (iI p2)), (3, .int (iI p3))]) dX3_seeFrom_20 (by decide) rfl ?_
  refine tn_sub [1, 2, 4, 0] rfl (l_X3_seeFrom_22 (d) (T := T) (σ0 := σ13) (a := a) (rx1 := p1) (c3 := p3) ha h_p1 (by omega) w17 (fun i419 σ20 w23 F24 r25 => ?_) _ (0) σ13 w17 FrC.rfl (by omega) rfl)
  show Tn _ _ 112 T σ20 [(0, .ref a), (1, .ref p1), (3, .int (iI p3)), (4, .int (iI i419))] [] _
  exact tn_vret rfl dX3_seeFrom_112 ⟨rfl, rfl, w23, ((((FrC.rfl.trans (FrC.sub F11 (by decide))).put (by decide) (by decide)).trans (FrC.sub F18 (by decide))).trans (FrC.sub F24 (by decide)))⟩
end
section
theorem cd_X2_takeOver : Cond.code yX2_takeOver cX2_takeOver 6 none ∈ pWW := pw5 (List.mem_of_getElem? (i := 79) rfl) rfl
theorem ini_2 : Cond.initialized RX2 ∈ pWW := pw1 (List.mem_of_getElem? (i := 8) rfl) rfl
abbrev m_X2_takeOver : MT := (yX2_takeOver, cX2_takeOver, 6, none)
theorem ok_X2_takeOver : pOk m_X2_takeOver := ⟨⟨cd_X2_takeOver, ini_2⟩, by decide +kernel, ⟨by decide +kernel, by decide +kernel⟩, Nat.le_of_ble_eq_true rfl⟩
theorem np_X2_takeOver : (parseMethodDescriptor yX2_takeOver.desc).map (fun d => d.parameters.length) = some 3 := by decide +kernel
theorem im_X2_takeOver : Cond.instanceMethod yX2_takeOver ∈ pWW := pw5 (List.mem_of_getElem? (i := 78) rfl) rfl
theorem se_X2_takeOver : Cond.selects RX2 yX2_takeOver yX2_takeOver ∈ pWW := pws (List.mem_map.mpr ⟨_, lw_pin 56 rfl, rfl⟩) rfl
theorem ml2_53 : Cond.methodLink RX2 53 yX1_get ∈ pWW := pw5 (List.mem_of_getElem? (i := 18) rfl) rfl
theorem ml2_77 : Cond.methodLink RX2 77 yX1_set ∈ pWW := pw5 (List.mem_of_getElem? (i := 81) rfl) rfl
theorem dX2_takeOver_0 : decode cX2_takeOver 0 = .ok (.aload_n 1, 1) := by decide +kernel
theorem dX2_takeOver_1 : decode cX2_takeOver 1 = .ok (.iload_n 2, 1) := by decide +kernel
theorem dX2_takeOver_2 : decode cX2_takeOver 2 = .ok (.iconst 0, 1) := by decide +kernel
theorem dX2_takeOver_3 : decode cX2_takeOver 3 = .ok (.invokevirtual 53, 3) := by decide +kernel
theorem dX2_takeOver_6 : decode cX2_takeOver 6 = .ok (.istore 4, 2) := by decide +kernel
theorem dX2_takeOver_8 : decode cX2_takeOver 8 = .ok (.iload 4, 2) := by decide +kernel
theorem dX2_takeOver_10 : decode cX2_takeOver 10 = .ok (.ifCond .ne 21, 3) := by decide +kernel
theorem dX2_takeOver_31 : decode cX2_takeOver 31 = .ok (.aload_n 1, 1) := by decide +kernel
theorem dX2_takeOver_32 : decode cX2_takeOver 32 = .ok (.iload_n 3, 1) := by decide +kernel
theorem dX2_takeOver_33 : decode cX2_takeOver 33 = .ok (.bipush 11, 2) := by decide +kernel
theorem dX2_takeOver_35 : decode cX2_takeOver 35 = .ok (.iconst 2, 1) := by decide +kernel
theorem dX2_takeOver_36 : decode cX2_takeOver 36 = .ok (.iload 4, 2) := by decide +kernel
theorem dX2_takeOver_38 : decode cX2_takeOver 38 = .ok (.iadd, 1) := by decide +kernel
theorem dX2_takeOver_39 : decode cX2_takeOver 39 = .ok (.invokevirtual 77, 3) := by decide +kernel
theorem dX2_takeOver_42 : decode cX2_takeOver 42 = .ok (.iconst 3, 1) := by decide +kernel
theorem dX2_takeOver_43 : decode cX2_takeOver 43 = .ok (.istore 5, 2) := by decide +kernel
theorem dX2_takeOver_45 : decode cX2_takeOver 45 = .ok (.iload 5, 2) := by decide +kernel
theorem dX2_takeOver_47 : decode cX2_takeOver 47 = .ok (.bipush 6, 2) := by decide +kernel
theorem dX2_takeOver_49 : decode cX2_takeOver 49 = .ok (.if_icmp .gt 23, 3) := by decide +kernel
theorem dX2_takeOver_52 : decode cX2_takeOver 52 = .ok (.aload_n 1, 1) := by decide +kernel
theorem dX2_takeOver_53 : decode cX2_takeOver 53 = .ok (.iload_n 3, 1) := by decide +kernel
theorem dX2_takeOver_54 : decode cX2_takeOver 54 = .ok (.iload 5, 2) := by decide +kernel
theorem dX2_takeOver_56 : decode cX2_takeOver 56 = .ok (.aload_n 1, 1) := by decide +kernel
theorem dX2_takeOver_57 : decode cX2_takeOver 57 = .ok (.iload_n 2, 1) := by decide +kernel
theorem dX2_takeOver_58 : decode cX2_takeOver 58 = .ok (.iload 5, 2) := by decide +kernel
theorem dX2_takeOver_60 : decode cX2_takeOver 60 = .ok (.invokevirtual 53, 3) := by decide +kernel
theorem dX2_takeOver_63 : decode cX2_takeOver 63 = .ok (.invokevirtual 77, 3) := by decide +kernel
theorem dX2_takeOver_66 : decode cX2_takeOver 66 = .ok (.iinc 5 1, 3) := by decide +kernel
theorem dX2_takeOver_69 : decode cX2_takeOver 69 = .ok (.goto (-24), 3) := by decide +kernel
set_option maxRecDepth 20000 in
theorem l_X2_takeOver_45 (d : Nat) {T : CT} {σ0 : MS} {rx1 : Nat} {c2 : Int} {c3 : Int} {post : Option Value → CT → MS → Prop} (h_rx1 : OB T rx1 1) (t_rx1 : (T rx1).1 = 50) (r_c2 : -2147483648 ≤ c2 ∧ c2 ≤ 2147483647) (r_c3 : -2147483648 ≤ c3 ∧ c3 ≤ 2147483647) (hw0 : WT T σ0) (hx_72 : ∀ (i5 : Int) (σ : MS) , (WT T σ) → (FrC T [] σ0 σ) → (3 ≤ i5 ∧ i5 ≤ 2147483647) → Tn (d + 3) m_X2_takeOver 72 T σ [(1, .ref rx1), (2, .int (iI c2)), (3, .int (iI c3)), (5, .int (iI i5))] [] post) : ∀ (n : Nat) (i5 : Int) (σ : MS) , (WT T σ) → (FrC T [] σ0 σ) → (3 ≤ i5 ∧ i5 ≤ 2147483647) → (2147483700 - i5).toNat = n → Tn (d + 3) m_X2_takeOver 45 T σ [(1, .ref rx1), (2, .int (iI c2)), (3, .int (iI c3)), (5, .int (iI i5))] [] post := by
  intro n
  induction n using Nat.strongRecOn with
  | _ n ih =>
    intro i5 σ hw hF r_i5 hm
    refine tn_iload dX2_takeOver_45 3 rfl ?_
    refine tn_bipush dX2_takeOver_47 (by decide) ?_
    refine tn_icmp_gt (tgt := 72) dX2_takeOver_49 (by decide) ⟨by omega, by omega⟩ ⟨by decide, by decide⟩ (fun h1 => ?_) (fun h1 => ?_)
    · exact tn_sub [0, 1, 2, 3] rfl (hx_72 (i5) σ hw (FrC.rfl.trans (FrC.sub hF (by decide))) (by omega))
    · refine tn_aload_n dX2_takeOver_52 rfl 0 rfl ?_
      refine tn_iload_n dX2_takeOver_53 rfl 2 rfl ?_
      refine tn_iload dX2_takeOver_54 3 rfl ?_
      refine tn_aload_n dX2_takeOver_56 rfl 0 rfl ?_
      refine tn_iload_n dX2_takeOver_57 rfl 1 rfl ?_
      refine tn_iload dX2_takeOver_58 3 rfl ?_
      refine tn_callV (M := m_X2_takeOver) (pc := 60) (ix := 53) (ci := 1) (M' := m_X1_get) (As := [.int (iI c2), .int (iI i5)]) (rest := [.int (iI i5), .int (iI c3), .ref rx1]) dX2_takeOver_60 ok_X1_get im_X1_get se_X1_get ml2_53 np_X1_get rfl rfl h_rx1 rfl (Nat.le_of_ble_eq_true rfl) (Nat.le_of_ble_eq_true rfl) rfl (k_X1_get (d + 1) (T := T) (σ := σ) (a := rx1) (k := c2) (c := i5) h_rx1 (by omega) (by omega) hw (by omega)) (fun r2 T4 σ3 gt5 hp => ?_)
      obtain ⟨v7, rfl, rfl, rfl, f6⟩ := hp
      clear gt5
      show Tn _ _ 63 T σ [(1, .ref rx1), (2, .int (iI c2)), (3, .int (iI c3)), (5, .int (iI i5))] [.int (iI v7), .int (iI i5), .int (iI c3), .ref rx1] _
      refine tn_callV (M := m_X2_takeOver) (pc := 63) (ix := 77) (ci := 1) (M' := m_X1_set) (As := [.int (iI c3), .int (iI i5), .int (iI v7)]) (rest := []) dX2_takeOver_63 ok_X1_set im_X1_set se_X1_set ml2_77 np_X1_set rfl rfl h_rx1 rfl (Nat.le_of_ble_eq_true rfl) (Nat.le_of_ble_eq_true rfl) rfl (k_X1_set (d + 1) (T := T) (σ := σ) (a := rx1) (k := c3) (c := i5) (y := v7) h_rx1 (by omega) (by omega) (by omega) hw (by omega) (by omega)) (fun r8 T10 σ9 gt11 hp => ?_)
      obtain ⟨rfl, rfl, w13, F14⟩ := hp
      clear gt11
      show Tn _ _ 66 T σ9 [(1, .ref rx1), (2, .int (iI c2)), (3, .int (iI c3)), (5, .int (iI i5))] [] _
      refine tn_iinc (q0 := 3) (L' := [(5, .int (iI (i5 + 1))), (1, .ref rx1), (2, .int (iI c2)), (3, .int (iI c3))]) dX2_takeOver_66 rfl (by decide) rfl ?_
      refine tn_goto (tgt := 45) dX2_takeOver_69 (by decide) ?_
      exact tn_sub [1, 2, 3, 0] rfl (ih _ (by omega) (i5 + 1) σ9 w13 ((FrC.rfl.trans (FrC.sub hF (by decide))).trans (FrC.sub F14 (by decide))) (by omega) rfl)
theorem ml2_73 : Cond.methodLink RX2 73 yX1_setWhere ∈ pWW := pw5 (List.mem_of_getElem? (i := 80) rfl) rfl
theorem dX2_takeOver_72 : decode cX2_takeOver 72 = .ok (.return_, 1) := by decide +kernel
theorem dX2_takeOver_13 : decode cX2_takeOver 13 = .ok (.aload_n 1, 1) := by decide +kernel
theorem dX2_takeOver_14 : decode cX2_takeOver 14 = .ok (.iload_n 3, 1) := by decide +kernel
theorem dX2_takeOver_15 : decode cX2_takeOver 15 = .ok (.aload_n 1, 1) := by decide +kernel
theorem dX2_takeOver_16 : decode cX2_takeOver 16 = .ok (.iload_n 2, 1) := by decide +kernel
theorem dX2_takeOver_17 : decode cX2_takeOver 17 = .ok (.iconst 3, 1) := by decide +kernel
theorem dX2_takeOver_18 : decode cX2_takeOver 18 = .ok (.invokevirtual 53, 3) := by decide +kernel
theorem dX2_takeOver_21 : decode cX2_takeOver 21 = .ok (.aload_n 1, 1) := by decide +kernel
theorem dX2_takeOver_22 : decode cX2_takeOver 22 = .ok (.iload_n 2, 1) := by decide +kernel
theorem dX2_takeOver_23 : decode cX2_takeOver 23 = .ok (.iconst 4, 1) := by decide +kernel
theorem dX2_takeOver_24 : decode cX2_takeOver 24 = .ok (.invokevirtual 53, 3) := by decide +kernel
theorem dX2_takeOver_27 : decode cX2_takeOver 27 = .ok (.invokevirtual 73, 3) := by decide +kernel
theorem dX2_takeOver_30 : decode cX2_takeOver 30 = .ok (.return_, 1) := by decide +kernel
set_option maxRecDepth 20000 in
theorem k_X2_takeOver (d : Nat) {T : CT} {σ : MS} {a : Nat} {p1 : Nat} {p2 : Int} {p3 : Int} (ha : OB T a 2) (h_p1 : OB T p1 1) (t_p1 : (T p1).1 = 50) (h_p2 : -2147483648 ≤ p2 ∧ p2 ≤ 2147483647) (h_p3 : -2147483648 ≤ p3 ∧ p3 ≤ 2147483647) (hw : WT T σ) : Tn (d + 3) m_X2_takeOver 0 T σ [(0, .ref a), (1, .ref p1), (2, .int (iI p2)), (3, .int (iI p3))] [] (fun ro T2 σ2 => ro = none ∧ T = T2 ∧ WT T2 σ2 ∧ FrC T [] σ σ2) := by
  refine tn_aload_n dX2_takeOver_0 rfl 1 rfl ?_
  refine tn_iload_n dX2_takeOver_1 rfl 2 rfl ?_
  refine tn_iconst dX2_takeOver_2 ?_
  refine tn_callV (M := m_X2_takeOver) (pc := 3) (ix := 53) (ci := 1) (M' := m_X1_get) (As := [.int (iI p2), .int (iI 0)]) (rest := []) dX2_takeOver_3 ok_X1_get im_X1_get se_X1_get ml2_53 np_X1_get rfl rfl h_p1 rfl (Nat.le_of_ble_eq_true rfl) (Nat.le_of_ble_eq_true rfl) rfl (k_X1_get (d + 1) (T := T) (σ := σ) (a := p1) (k := p2) (c := 0) h_p1 (by omega) (by decide) hw (by omega)) (fun r1 T3 σ2 gt4 hp => ?_)
  obtain ⟨v6, rfl, rfl, rfl, f5⟩ := hp
  clear gt4
  show Tn _ _ 6 T σ [(0, .ref a), (1, .ref p1), (2, .int (iI p2)), (3, .int (iI p3))] [.int (iI v6)] _
  refine tn_istore (L' := [(4, .int (iI v6)), (0, .ref a), (1, .ref p1), (2, .int (iI p2)), (3, .int (iI p3))]) dX2_takeOver_6 (by decide) rfl ?_
  refine tn_iload dX2_takeOver_8 0 rfl ?_
  refine tn_if_ne (tgt := 31) dX2_takeOver_10 (by decide) ⟨by omega, by omega⟩ (fun h7 => ?_) (fun h7 => ?_)
  · refine tn_aload_n dX2_takeOver_31 rfl 2 rfl ?_
    refine tn_iload_n dX2_takeOver_32 rfl 4 rfl ?_
    refine tn_bipush dX2_takeOver_33 (by decide) ?_
    refine tn_iconst dX2_takeOver_35 ?_
    refine tn_iload dX2_takeOver_36 0 rfl ?_
    refine tn_iadd dX2_takeOver_38 ?_
    refine tn_any (fun z8 g9 => ?_)
    have g9r : -2147483648 ≤ z8 ∧ z8 ≤ 2147483647 := g9
    refine tn_callV (M := m_X2_takeOver) (pc := 39) (ix := 77) (ci := 1) (M' := m_X1_set) (As := [.int (iI p3), .int (iI 11), .int (iI z8)]) (rest := []) dX2_takeOver_39 ok_X1_set im_X1_set se_X1_set ml2_77 np_X1_set rfl rfl h_p1 rfl (Nat.le_of_ble_eq_true rfl) (Nat.le_of_ble_eq_true rfl) rfl (k_X1_set (d + 1) (T := T) (σ := σ) (a := p1) (k := p3) (c := 11) (y := z8) h_p1 (by omega) (by decide) (by omega) hw (by omega) (by omega)) (fun r10 T12 σ11 gt13 hp => ?_)
    obtain ⟨rfl, rfl, w15, F16⟩ := hp
    clear gt13
    show Tn _ _ 42 T σ11 [(4, .int (iI v6)), (0, .ref a), (1, .ref p1), (2, .int (iI p2)), (3, .int (iI p3))] [] _
    refine tn_iconst dX2_takeOver_42 ?_
    refine tn_istore (L' := [(5, .int (iI 3)), (4, .int (iI v6)), (0, .ref a), (1, .ref p1), (2, .int (iI p2)), (3, .int (iI p3))]) dX2_takeOver_43 (by decide) rfl ?_
    refine tn_sub [3, 4, 5, 0] rfl (l_X2_takeOver_45 (d) (T := T) (σ0 := σ11) (rx1 := p1) (c2 := p2) (c3 := p3) h_p1 t_p1 (by omega) (by omega) w15 (fun i517 σ18 w21 F22 r23 => ?_) _ (3) σ11 w15 FrC.rfl (by omega) rfl)
    show Tn _ _ 72 T σ18 [(1, .ref p1), (2, .int (iI p2)), (3, .int (iI p3)), (5, .int (iI i517))] [] _
    exact tn_vret rfl dX2_takeOver_72 ⟨rfl, rfl, w21, ((FrC.rfl.trans (FrC.sub F16 (by decide))).trans (FrC.sub F22 (by decide)))⟩
  · refine tn_aload_n dX2_takeOver_13 rfl 2 rfl ?_
    refine tn_iload_n dX2_takeOver_14 rfl 4 rfl ?_
    refine tn_aload_n dX2_takeOver_15 rfl 2 rfl ?_
    refine tn_iload_n dX2_takeOver_16 rfl 3 rfl ?_
    refine tn_iconst dX2_takeOver_17 ?_
    refine tn_callV (M := m_X2_takeOver) (pc := 18) (ix := 53) (ci := 1) (M' := m_X1_get) (As := [.int (iI p2), .int (iI 3)]) (rest := [.int (iI p3), .ref p1]) dX2_takeOver_18 ok_X1_get im_X1_get se_X1_get ml2_53 np_X1_get rfl rfl h_p1 rfl (Nat.le_of_ble_eq_true rfl) (Nat.le_of_ble_eq_true rfl) rfl (k_X1_get (d + 1) (T := T) (σ := σ) (a := p1) (k := p2) (c := 3) h_p1 (by omega) (by decide) hw (by omega)) (fun r24 T26 σ25 gt27 hp => ?_)
    obtain ⟨v29, rfl, rfl, rfl, f28⟩ := hp
    clear gt27
    show Tn _ _ 21 T σ [(4, .int (iI v6)), (0, .ref a), (1, .ref p1), (2, .int (iI p2)), (3, .int (iI p3))] [.int (iI v29), .int (iI p3), .ref p1] _
    refine tn_aload_n dX2_takeOver_21 rfl 2 rfl ?_
    refine tn_iload_n dX2_takeOver_22 rfl 3 rfl ?_
    refine tn_iconst dX2_takeOver_23 ?_
    refine tn_callV (M := m_X2_takeOver) (pc := 24) (ix := 53) (ci := 1) (M' := m_X1_get) (As := [.int (iI p2), .int (iI 4)]) (rest := [.int (iI v29), .int (iI p3), .ref p1]) dX2_takeOver_24 ok_X1_get im_X1_get se_X1_get ml2_53 np_X1_get rfl rfl h_p1 rfl (Nat.le_of_ble_eq_true rfl) (Nat.le_of_ble_eq_true rfl) rfl (k_X1_get (d + 1) (T := T) (σ := σ) (a := p1) (k := p2) (c := 4) h_p1 (by omega) (by decide) hw (by omega)) (fun r30 T32 σ31 gt33 hp => ?_)
    obtain ⟨v35, rfl, rfl, rfl, f34⟩ := hp
    clear gt33
    show Tn _ _ 27 T σ [(4, .int (iI v6)), (0, .ref a), (1, .ref p1), (2, .int (iI p2)), (3, .int (iI p3))] [.int (iI v35), .int (iI v29), .int (iI p3), .ref p1] _
    refine tn_callV (M := m_X2_takeOver) (pc := 27) (ix := 73) (ci := 1) (M' := m_X1_setWhere) (As := [.int (iI p3), .int (iI v29), .int (iI v35)]) (rest := []) dX2_takeOver_27 ok_X1_setWhere im_X1_setWhere se_X1_setWhere ml2_73 np_X1_setWhere rfl rfl h_p1 rfl (Nat.le_of_ble_eq_true rfl) (Nat.le_of_ble_eq_true rfl) rfl (k_X1_setWhere (d) (T := T) (σ := σ) (a := p1) (k := p3) (y := v29) (z := v35) h_p1 (by omega) (by omega) (by omega) hw ) (fun r36 T38 σ37 gt39 hp => ?_)
    obtain ⟨rfl, rfl, w41, F42⟩ := hp
    clear gt39
    show Tn _ _ 30 T σ37 [(4, .int (iI v6)), (0, .ref a), (1, .ref p1), (2, .int (iI p2)), (3, .int (iI p3))] [] _
    exact tn_vret rfl dX2_takeOver_30 ⟨rfl, rfl, w41, (FrC.rfl.trans (FrC.sub F42 (by decide)))⟩
end
section
theorem cd_X2_loosenBinds : Cond.code yX2_loosenBinds cX2_loosenBinds 6 none ∈ pWW := pw5 (List.mem_of_getElem? (i := 74) rfl) rfl
abbrev m_X2_loosenBinds : MT := (yX2_loosenBinds, cX2_loosenBinds, 6, none)
theorem ok_X2_loosenBinds : pOk m_X2_loosenBinds := ⟨⟨cd_X2_loosenBinds, ini_2⟩, by decide +kernel, ⟨by decide +kernel, by decide +kernel⟩, Nat.le_of_ble_eq_true rfl⟩
theorem np_X2_loosenBinds : (parseMethodDescriptor yX2_loosenBinds.desc).map (fun d => d.parameters.length) = some 2 := by decide +kernel
theorem im_X2_loosenBinds : Cond.instanceMethod yX2_loosenBinds ∈ pWW := pw5 (List.mem_of_getElem? (i := 73) rfl) rfl
theorem se_X2_loosenBinds : Cond.selects RX2 yX2_loosenBinds yX2_loosenBinds ∈ pWW := pws (List.mem_map.mpr ⟨_, lw_pin 55 rfl, rfl⟩) rfl
theorem fl2_45 : Cond.fieldLink RX2 45 (TX1 1).1 (TX1 1).2.1 (TX1 1).2.2.1 ∈ pWW := pw1 (List.mem_of_getElem? (i := 83) rfl) rfl
theorem dX2_loosenBinds_0 : decode cX2_loosenBinds 0 = .ok (.aload_n 1, 1) := by decide +kernel
theorem dX2_loosenBinds_1 : decode cX2_loosenBinds 1 = .ok (.iload_n 2, 1) := by decide +kernel
theorem dX2_loosenBinds_2 : decode cX2_loosenBinds 2 = .ok (.iconst 1, 1) := by decide +kernel
theorem dX2_loosenBinds_3 : decode cX2_loosenBinds 3 = .ok (.invokevirtual 53, 3) := by decide +kernel
theorem dX2_loosenBinds_6 : decode cX2_loosenBinds 6 = .ok (.istore_n 3, 1) := by decide +kernel
theorem dX2_loosenBinds_7 : decode cX2_loosenBinds 7 = .ok (.iload_n 2, 1) := by decide +kernel
theorem dX2_loosenBinds_8 : decode cX2_loosenBinds 8 = .ok (.iconst 1, 1) := by decide +kernel
theorem dX2_loosenBinds_9 : decode cX2_loosenBinds 9 = .ok (.iadd, 1) := by decide +kernel
theorem dX2_loosenBinds_10 : decode cX2_loosenBinds 10 = .ok (.istore 4, 2) := by decide +kernel
theorem dX2_loosenBinds_12 : decode cX2_loosenBinds 12 = .ok (.iload 4, 2) := by decide +kernel
theorem dX2_loosenBinds_14 : decode cX2_loosenBinds 14 = .ok (.aload_n 1, 1) := by decide +kernel
theorem dX2_loosenBinds_15 : decode cX2_loosenBinds 15 = .ok (.getfield 45, 3) := by decide +kernel
theorem dX2_loosenBinds_18 : decode cX2_loosenBinds 18 = .ok (.if_icmp .ge 33, 3) := by decide +kernel
theorem dX2_loosenBinds_21 : decode cX2_loosenBinds 21 = .ok (.aload_n 1, 1) := by decide +kernel
theorem dX2_loosenBinds_22 : decode cX2_loosenBinds 22 = .ok (.iload 4, 2) := by decide +kernel
theorem dX2_loosenBinds_24 : decode cX2_loosenBinds 24 = .ok (.iconst 0, 1) := by decide +kernel
theorem dX2_loosenBinds_25 : decode cX2_loosenBinds 25 = .ok (.invokevirtual 53, 3) := by decide +kernel
theorem dX2_loosenBinds_28 : decode cX2_loosenBinds 28 = .ok (.bipush 11, 2) := by decide +kernel
theorem dX2_loosenBinds_30 : decode cX2_loosenBinds 30 = .ok (.if_icmp .eq 15, 3) := by decide +kernel
theorem dX2_loosenBinds_45 : decode cX2_loosenBinds 45 = .ok (.iinc 4 1, 3) := by decide +kernel
theorem dX2_loosenBinds_48 : decode cX2_loosenBinds 48 = .ok (.goto (-36), 3) := by decide +kernel
theorem dX2_loosenBinds_33 : decode cX2_loosenBinds 33 = .ok (.aload_n 1, 1) := by decide +kernel
theorem dX2_loosenBinds_34 : decode cX2_loosenBinds 34 = .ok (.iload 4, 2) := by decide +kernel
theorem dX2_loosenBinds_36 : decode cX2_loosenBinds 36 = .ok (.iconst 0, 1) := by decide +kernel
theorem dX2_loosenBinds_37 : decode cX2_loosenBinds 37 = .ok (.invokevirtual 53, 3) := by decide +kernel
theorem dX2_loosenBinds_40 : decode cX2_loosenBinds 40 = .ok (.bipush 12, 2) := by decide +kernel
theorem dX2_loosenBinds_42 : decode cX2_loosenBinds 42 = .ok (.if_icmp .ne 9, 3) := by decide +kernel
set_option maxRecDepth 20000 in
theorem l_X2_loosenBinds_12 (d : Nat) {T : CT} {σ : MS} {a : Nat} {rx1 : Nat} {c2 : Int} {c3 : Int} {post : Option Value → CT → MS → Prop} (h_a : OB T a 2) (h_rx1 : OB T rx1 1) (t_rx1 : (T rx1).1 = 50) (r_c2 : -2147483648 ≤ c2 ∧ c2 ≤ 2147483647) (r_c3 : -2147483648 ≤ c3 ∧ c3 ≤ 2147483647) (hw : WT T σ) (hx_51 : ∀ (i4 : Int) , (-2147483648 ≤ i4 ∧ i4 ≤ 2147483647) → Tn (d + 5) m_X2_loosenBinds 51 T σ [(0, .ref a), (1, .ref rx1), (2, .int (iI c2)), (3, .int (iI c3)), (4, .int (iI i4))] [] post) : ∀ (n : Nat) (i4 : Int) , (-2147483648 ≤ i4 ∧ i4 ≤ 2147483647) → (2147483700 - i4).toNat = n → Tn (d + 5) m_X2_loosenBinds 12 T σ [(0, .ref a), (1, .ref rx1), (2, .int (iI c2)), (3, .int (iI c3)), (4, .int (iI i4))] [] post := by
  intro n
  induction n using Nat.strongRecOn with
  | _ n ih =>
    intro i4 r_i4 hm
    refine tn_iload dX2_loosenBinds_12 4 rfl ?_
    refine tn_aload_n dX2_loosenBinds_14 rfl 1 rfl ?_
    refine tn_getI (ci := 1) (i := 1) (n := 6) (t := σ.2.1 6 rx1) dX2_loosenBinds_15 rfl lay_1 (by decide) fl2_45 h_rx1 rfl rfl (rfl) ?_
    have g1 : ((0 : Int) ≤ σ.2.1 6 rx1 ∧ σ.2.1 6 rx1 ≤ 5000) ∧ ((T rx1).1 = 50 → σ.2.1 6 rx1 ≤ 200) := wf_6 hw h_rx1
    have g1x := g1.2
    replace g1 := g1.1
    have g1x := g1x t_rx1
    refine tn_icmp_ge (tgt := 51) dX2_loosenBinds_18 (by decide) ⟨by omega, by omega⟩ ⟨by omega, by omega⟩ (fun h2 => ?_) (fun h2 => ?_)
    · exact tn_sub [0, 1, 2, 3, 4] rfl (hx_51 (i4) (by omega))
    · refine tn_aload_n dX2_loosenBinds_21 rfl 1 rfl ?_
      refine tn_iload dX2_loosenBinds_22 4 rfl ?_
      refine tn_iconst dX2_loosenBinds_24 ?_
      refine tn_callV (M := m_X2_loosenBinds) (pc := 25) (ix := 53) (ci := 1) (M' := m_X1_get) (As := [.int (iI i4), .int (iI 0)]) (rest := []) dX2_loosenBinds_25 ok_X1_get im_X1_get se_X1_get ml2_53 np_X1_get rfl rfl h_rx1 rfl (Nat.le_of_ble_eq_true rfl) (Nat.le_of_ble_eq_true rfl) rfl (k_X1_get (d + 3) (T := T) (σ := σ) (a := rx1) (k := i4) (c := 0) h_rx1 (by omega) (by decide) hw (by omega)) (fun r3 T5 σ4 gt6 hp => ?_)
      obtain ⟨v8, rfl, rfl, rfl, f7⟩ := hp
      clear gt6
      show Tn _ _ 28 T σ [(0, .ref a), (1, .ref rx1), (2, .int (iI c2)), (3, .int (iI c3)), (4, .int (iI i4))] [.int (iI v8)] _
      refine tn_bipush dX2_loosenBinds_28 (by decide) ?_
      refine tn_icmp_eq (tgt := 45) dX2_loosenBinds_30 (by decide) ⟨by omega, by omega⟩ ⟨by decide, by decide⟩ (fun h9 => ?_) (fun h9 => ?_)
      · refine tn_iinc (q0 := 4) (L' := [(4, .int (iI (i4 + 1))), (0, .ref a), (1, .ref rx1), (2, .int (iI c2)), (3, .int (iI c3))]) dX2_loosenBinds_45 rfl (by decide) rfl ?_
        refine tn_goto (tgt := 12) dX2_loosenBinds_48 (by decide) ?_
        exact tn_sub [1, 2, 3, 4, 0] rfl (ih _ (by omega) (i4 + 1) (by omega) rfl)
      · refine tn_aload_n dX2_loosenBinds_33 rfl 1 rfl ?_
        refine tn_iload dX2_loosenBinds_34 4 rfl ?_
        refine tn_iconst dX2_loosenBinds_36 ?_
        refine tn_callV (M := m_X2_loosenBinds) (pc := 37) (ix := 53) (ci := 1) (M' := m_X1_get) (As := [.int (iI i4), .int (iI 0)]) (rest := []) dX2_loosenBinds_37 ok_X1_get im_X1_get se_X1_get ml2_53 np_X1_get rfl rfl h_rx1 rfl (Nat.le_of_ble_eq_true rfl) (Nat.le_of_ble_eq_true rfl) rfl (k_X1_get (d + 3) (T := T) (σ := σ) (a := rx1) (k := i4) (c := 0) h_rx1 (by omega) (by decide) hw (by omega)) (fun r10 T12 σ11 gt13 hp => ?_)
        obtain ⟨v15, rfl, rfl, rfl, f14⟩ := hp
        clear gt13
        show Tn _ _ 40 T σ [(0, .ref a), (1, .ref rx1), (2, .int (iI c2)), (3, .int (iI c3)), (4, .int (iI i4))] [.int (iI v15)] _
        refine tn_bipush dX2_loosenBinds_40 (by decide) ?_
        refine tn_icmp_ne (tgt := 51) dX2_loosenBinds_42 (by decide) ⟨by omega, by omega⟩ ⟨by decide, by decide⟩ (fun h16 => ?_) (fun h16 => ?_)
        · exact tn_sub [0, 1, 2, 3, 4] rfl (hx_51 (i4) (by omega))
        · refine tn_iinc (q0 := 4) (L' := [(4, .int (iI (i4 + 1))), (0, .ref a), (1, .ref rx1), (2, .int (iI c2)), (3, .int (iI c3))]) dX2_loosenBinds_45 rfl (by decide) rfl ?_
          refine tn_goto (tgt := 12) dX2_loosenBinds_48 (by decide) ?_
          exact tn_sub [1, 2, 3, 4, 0] rfl (ih _ (by omega) (i4 + 1) (by omega) rfl)
theorem fl2_9 : Cond.fieldLink RX2 9 (TX2 0).1 (TX2 0).2.1 (TX2 0).2.2.1 ∈ pWW := pw2 (List.mem_of_getElem? (i := 51) rfl) rfl
theorem ml2_41 : Cond.methodLink RX2 41 yX3_seeFrom ∈ pWW := pw4 (List.mem_of_getElem? (i := 238) rfl) rfl
theorem ml2_49 : Cond.methodLink RX2 49 yX3_isSeen ∈ pWW := pw5 (List.mem_of_getElem? (i := 17) rfl) rfl
theorem ml2_67 : Cond.methodLink RX2 67 yX1_leansOn ∈ pWW := pw5 (List.mem_of_getElem? (i := 75) rfl) rfl
theorem ml2_70 : Cond.methodLink RX2 70 yX2_takeOver ∈ pWW := pw5 (List.mem_of_getElem? (i := 76) rfl) rfl
theorem dX2_loosenBinds_51 : decode cX2_loosenBinds 51 = .ok (.aload_n 0, 1) := by decide +kernel
theorem dX2_loosenBinds_52 : decode cX2_loosenBinds 52 = .ok (.getfield 9, 3) := by decide +kernel
theorem dX2_loosenBinds_55 : decode cX2_loosenBinds 55 = .ok (.aload_n 1, 1) := by decide +kernel
theorem dX2_loosenBinds_56 : decode cX2_loosenBinds 56 = .ok (.iload_n 2, 1) := by decide +kernel
theorem dX2_loosenBinds_57 : decode cX2_loosenBinds 57 = .ok (.iconst 1, 1) := by decide +kernel
theorem dX2_loosenBinds_58 : decode cX2_loosenBinds 58 = .ok (.iadd, 1) := by decide +kernel
theorem dX2_loosenBinds_59 : decode cX2_loosenBinds 59 = .ok (.iload_n 3, 1) := by decide +kernel
theorem dX2_loosenBinds_60 : decode cX2_loosenBinds 60 = .ok (.invokevirtual 41, 3) := by decide +kernel
theorem dX2_loosenBinds_63 : decode cX2_loosenBinds 63 = .ok (.iconst 0, 1) := by decide +kernel
theorem dX2_loosenBinds_64 : decode cX2_loosenBinds 64 = .ok (.istore 5, 2) := by decide +kernel
theorem dX2_loosenBinds_66 : decode cX2_loosenBinds 66 = .ok (.iload 5, 2) := by decide +kernel
theorem dX2_loosenBinds_68 : decode cX2_loosenBinds 68 = .ok (.aload_n 1, 1) := by decide +kernel
theorem dX2_loosenBinds_69 : decode cX2_loosenBinds 69 = .ok (.getfield 45, 3) := by decide +kernel
theorem dX2_loosenBinds_72 : decode cX2_loosenBinds 72 = .ok (.if_icmp .ge 76, 3) := by decide +kernel
theorem dX2_loosenBinds_75 : decode cX2_loosenBinds 75 = .ok (.aload_n 0, 1) := by decide +kernel
theorem dX2_loosenBinds_76 : decode cX2_loosenBinds 76 = .ok (.getfield 9, 3) := by decide +kernel
theorem dX2_loosenBinds_79 : decode cX2_loosenBinds 79 = .ok (.iload 5, 2) := by decide +kernel
theorem dX2_loosenBinds_81 : decode cX2_loosenBinds 81 = .ok (.invokevirtual 49, 3) := by decide +kernel
theorem dX2_loosenBinds_84 : decode cX2_loosenBinds 84 = .ok (.ifCond .eq 58, 3) := by decide +kernel
theorem dX2_loosenBinds_142 : decode cX2_loosenBinds 142 = .ok (.iinc 5 1, 3) := by decide +kernel
theorem dX2_loosenBinds_145 : decode cX2_loosenBinds 145 = .ok (.goto (-79), 3) := by decide +kernel
theorem dX2_loosenBinds_87 : decode cX2_loosenBinds 87 = .ok (.aload_n 1, 1) := by decide +kernel
theorem dX2_loosenBinds_88 : decode cX2_loosenBinds 88 = .ok (.iload 5, 2) := by decide +kernel
theorem dX2_loosenBinds_90 : decode cX2_loosenBinds 90 = .ok (.iload_n 3, 1) := by decide +kernel
theorem dX2_loosenBinds_91 : decode cX2_loosenBinds 91 = .ok (.invokevirtual 67, 3) := by decide +kernel
theorem dX2_loosenBinds_94 : decode cX2_loosenBinds 94 = .ok (.ifCond .eq 48, 3) := by decide +kernel
theorem dX2_loosenBinds_97 : decode cX2_loosenBinds 97 = .ok (.iload 5, 2) := by decide +kernel
theorem dX2_loosenBinds_99 : decode cX2_loosenBinds 99 = .ok (.iload_n 2, 1) := by decide +kernel
theorem dX2_loosenBinds_100 : decode cX2_loosenBinds 100 = .ok (.if_icmp .le 33, 3) := by decide +kernel
theorem dX2_loosenBinds_133 : decode cX2_loosenBinds 133 = .ok (.aload_n 1, 1) := by decide +kernel
theorem dX2_loosenBinds_134 : decode cX2_loosenBinds 134 = .ok (.iload 5, 2) := by decide +kernel
theorem dX2_loosenBinds_136 : decode cX2_loosenBinds 136 = .ok (.bipush 12, 2) := by decide +kernel
theorem dX2_loosenBinds_138 : decode cX2_loosenBinds 138 = .ok (.iconst 0, 1) := by decide +kernel
theorem dX2_loosenBinds_139 : decode cX2_loosenBinds 139 = .ok (.invokevirtual 73, 3) := by decide +kernel
theorem dX2_loosenBinds_103 : decode cX2_loosenBinds 103 = .ok (.iload 5, 2) := by decide +kernel
theorem dX2_loosenBinds_105 : decode cX2_loosenBinds 105 = .ok (.iload 4, 2) := by decide +kernel
theorem dX2_loosenBinds_107 : decode cX2_loosenBinds 107 = .ok (.if_icmp .ge 26, 3) := by decide +kernel
theorem dX2_loosenBinds_110 : decode cX2_loosenBinds 110 = .ok (.aload_n 1, 1) := by decide +kernel
theorem dX2_loosenBinds_111 : decode cX2_loosenBinds 111 = .ok (.iload 5, 2) := by decide +kernel
theorem dX2_loosenBinds_113 : decode cX2_loosenBinds 113 = .ok (.bipush 11, 2) := by decide +kernel
theorem dX2_loosenBinds_115 : decode cX2_loosenBinds 115 = .ok (.invokevirtual 53, 3) := by decide +kernel
theorem dX2_loosenBinds_118 : decode cX2_loosenBinds 118 = .ok (.iconst 2, 1) := by decide +kernel
theorem dX2_loosenBinds_119 : decode cX2_loosenBinds 119 = .ok (.if_icmp .ne 14, 3) := by decide +kernel
theorem dX2_loosenBinds_122 : decode cX2_loosenBinds 122 = .ok (.aload_n 0, 1) := by decide +kernel
theorem dX2_loosenBinds_123 : decode cX2_loosenBinds 123 = .ok (.aload_n 1, 1) := by decide +kernel
theorem dX2_loosenBinds_124 : decode cX2_loosenBinds 124 = .ok (.iload_n 2, 1) := by decide +kernel
theorem dX2_loosenBinds_125 : decode cX2_loosenBinds 125 = .ok (.iload 5, 2) := by decide +kernel
theorem dX2_loosenBinds_127 : decode cX2_loosenBinds 127 = .ok (.invokevirtual 70, 3) := by decide +kernel
theorem dX2_loosenBinds_130 : decode cX2_loosenBinds 130 = .ok (.goto 12, 3) := by decide +kernel
set_option maxRecDepth 20000 in
theorem l_X2_loosenBinds_66 (d : Nat) {T : CT} {σ0 : MS} {a : Nat} {rx1 : Nat} {c2 : Int} {c3 : Int} {c4 : Int} {post : Option Value → CT → MS → Prop} (h_a : OB T a 2) (h_rx1 : OB T rx1 1) (t_rx1 : (T rx1).1 = 50) (r_c2 : -2147483648 ≤ c2 ∧ c2 ≤ 2147483647) (r_c3 : -2147483648 ≤ c3 ∧ c3 ≤ 2147483647) (r_c4 : -2147483648 ≤ c4 ∧ c4 ≤ 2147483647) (hw0 : WT T σ0) (hx_148 : ∀ (i5 : Int) (σ : MS) , (WT T σ) → (FrC T [] σ0 σ) → (0 ≤ i5 ∧ i5 ≤ 2147483647) → Tn (d + 5) m_X2_loosenBinds 148 T σ [(0, .ref a), (1, .ref rx1), (2, .int (iI c2)), (3, .int (iI c3)), (4, .int (iI c4)), (5, .int (iI i5))] [] post) : ∀ (n : Nat) (i5 : Int) (σ : MS) , (WT T σ) → (FrC T [] σ0 σ) → (0 ≤ i5 ∧ i5 ≤ 2147483647) → (2147483700 - i5).toNat = n → Tn (d + 5) m_X2_loosenBinds 66 T σ [(0, .ref a), (1, .ref rx1), (2, .int (iI c2)), (3, .int (iI c3)), (4, .int (iI c4)), (5, .int (iI i5))] [] post := by
  intro n
  induction n using Nat.strongRecOn with
  | _ n ih =>
    intro i5 σ hw hF r_i5 hm
    refine tn_iload dX2_loosenBinds_66 5 rfl ?_
    refine tn_aload_n dX2_loosenBinds_68 rfl 1 rfl ?_
    refine tn_getI (ci := 1) (i := 1) (n := 6) (t := σ0.2.1 6 rx1) dX2_loosenBinds_69 rfl lay_1 (by decide) fl2_45 h_rx1 rfl rfl (rc_F hF (Or.inl (by decide)) (by decide) (rfl)) ?_
    have g1 : ((0 : Int) ≤ σ0.2.1 6 rx1 ∧ σ0.2.1 6 rx1 ≤ 5000) ∧ ((T rx1).1 = 50 → σ0.2.1 6 rx1 ≤ 200) := wf_6 hw0 h_rx1
    have g1x := g1.2
    replace g1 := g1.1
    have g1x := g1x t_rx1
    refine tn_icmp_ge (tgt := 148) dX2_loosenBinds_72 (by decide) ⟨by omega, by omega⟩ ⟨by omega, by omega⟩ (fun h2 => ?_) (fun h2 => ?_)
    · exact tn_sub [0, 1, 2, 3, 4, 5] rfl (hx_148 (i5) σ hw (FrC.rfl.trans (FrC.sub hF (by decide))) (by omega))
    · refine tn_aload_n dX2_loosenBinds_75 rfl 0 rfl ?_
      obtain ⟨x3, hx4, hk5⟩ : ∃ x : Nat, σ0.2.1 17 a = (x : Int) ∧ (T x).1 = 33 := wf_17 hw0 h_a
      have hk5o : OB T x3 3 := ⟨by omega, by rw [hk5]; rfl, by omega⟩
      refine tn_getR (ci := 2) (i := 0) (n := 17) (x := x3) dX2_loosenBinds_76 rfl lay_2 (by decide) fl2_9 h_a rfl rfl (rc_F hF (Or.inl (by decide)) (by decide) (hx4)) ?_
      refine tn_iload dX2_loosenBinds_79 5 rfl ?_
      refine tn_callV (M := m_X2_loosenBinds) (pc := 81) (ix := 49) (ci := 3) (M' := m_X3_isSeen) (As := [.int (iI i5)]) (rest := []) dX2_loosenBinds_81 ok_X3_isSeen im_X3_isSeen se_X3_isSeen ml2_49 np_X3_isSeen rfl rfl hk5o rfl (Nat.le_of_ble_eq_true rfl) (Nat.le_of_ble_eq_true rfl) rfl (k_X3_isSeen (d + 2) (T := T) (σ := σ) (a := x3) (p1 := i5) hk5o (by omega) hw ) (fun r7 T9 σ8 gt10 hp => ?_)
      obtain ⟨v12, rfl, rfl, rfl, f11⟩ := hp
      clear gt10
      show Tn _ _ 84 T σ [(0, .ref a), (1, .ref rx1), (2, .int (iI c2)), (3, .int (iI c3)), (4, .int (iI c4)), (5, .int (iI i5))] [.int (iI v12)] _
      refine tn_if_eq (tgt := 142) dX2_loosenBinds_84 (by decide) ⟨by omega, by omega⟩ (fun h13 => ?_) (fun h13 => ?_)
      · refine tn_iinc (q0 := 5) (L' := [(5, .int (iI (i5 + 1))), (0, .ref a), (1, .ref rx1), (2, .int (iI c2)), (3, .int (iI c3)), (4, .int (iI c4))]) dX2_loosenBinds_142 rfl (by decide) rfl ?_
        refine tn_goto (tgt := 66) dX2_loosenBinds_145 (by decide) ?_
        exact tn_sub [1, 2, 3, 4, 5, 0] rfl (ih _ (by omega) (i5 + 1) σ hw (FrC.rfl.trans (FrC.sub hF (by decide))) (by omega) rfl)
      · refine tn_aload_n dX2_loosenBinds_87 rfl 1 rfl ?_
        refine tn_iload dX2_loosenBinds_88 5 rfl ?_
        refine tn_iload_n dX2_loosenBinds_90 rfl 3 rfl ?_
        refine tn_callV (M := m_X2_loosenBinds) (pc := 91) (ix := 67) (ci := 1) (M' := m_X1_leansOn) (As := [.int (iI i5), .int (iI c3)]) (rest := []) dX2_loosenBinds_91 ok_X1_leansOn im_X1_leansOn se_X1_leansOn ml2_67 np_X1_leansOn rfl rfl h_rx1 rfl (Nat.le_of_ble_eq_true rfl) (Nat.le_of_ble_eq_true rfl) rfl (k_X1_leansOn (d + 2) (T := T) (σ := σ) (a := rx1) (k := i5) (r := c3) h_rx1 (by omega) (by omega) hw ) (fun r14 T16 σ15 gt17 hp => ?_)
        obtain ⟨v19, rfl, rfl, rfl, f18⟩ := hp
        clear gt17
        show Tn _ _ 94 T σ [(0, .ref a), (1, .ref rx1), (2, .int (iI c2)), (3, .int (iI c3)), (4, .int (iI c4)), (5, .int (iI i5))] [.int (iI v19)] _
        refine tn_if_eq (tgt := 142) dX2_loosenBinds_94 (by decide) ⟨by omega, by omega⟩ (fun h20 => ?_) (fun h20 => ?_)
        · refine tn_iinc (q0 := 5) (L' := [(5, .int (iI (i5 + 1))), (0, .ref a), (1, .ref rx1), (2, .int (iI c2)), (3, .int (iI c3)), (4, .int (iI c4))]) dX2_loosenBinds_142 rfl (by decide) rfl ?_
          refine tn_goto (tgt := 66) dX2_loosenBinds_145 (by decide) ?_
          exact tn_sub [1, 2, 3, 4, 5, 0] rfl (ih _ (by omega) (i5 + 1) σ hw (FrC.rfl.trans (FrC.sub hF (by decide))) (by omega) rfl)
        · refine tn_iload dX2_loosenBinds_97 5 rfl ?_
          refine tn_iload_n dX2_loosenBinds_99 rfl 2 rfl ?_
          refine tn_icmp_le (tgt := 133) dX2_loosenBinds_100 (by decide) ⟨by omega, by omega⟩ ⟨by omega, by omega⟩ (fun h21 => ?_) (fun h21 => ?_)
          · refine tn_aload_n dX2_loosenBinds_133 rfl 1 rfl ?_
            refine tn_iload dX2_loosenBinds_134 5 rfl ?_
            refine tn_bipush dX2_loosenBinds_136 (by decide) ?_
            refine tn_iconst dX2_loosenBinds_138 ?_
            refine tn_callV (M := m_X2_loosenBinds) (pc := 139) (ix := 73) (ci := 1) (M' := m_X1_setWhere) (As := [.int (iI i5), .int (iI 12), .int (iI 0)]) (rest := []) dX2_loosenBinds_139 ok_X1_setWhere im_X1_setWhere se_X1_setWhere ml2_73 np_X1_setWhere rfl rfl h_rx1 rfl (Nat.le_of_ble_eq_true rfl) (Nat.le_of_ble_eq_true rfl) rfl (k_X1_setWhere (d + 2) (T := T) (σ := σ) (a := rx1) (k := i5) (y := 12) (z := 0) h_rx1 (by omega) (by decide) (by decide) hw ) (fun r22 T24 σ23 gt25 hp => ?_)
            obtain ⟨rfl, rfl, w27, F28⟩ := hp
            clear gt25
            show Tn _ _ 142 T σ23 [(0, .ref a), (1, .ref rx1), (2, .int (iI c2)), (3, .int (iI c3)), (4, .int (iI c4)), (5, .int (iI i5))] [] _
            refine tn_iinc (q0 := 5) (L' := [(5, .int (iI (i5 + 1))), (0, .ref a), (1, .ref rx1), (2, .int (iI c2)), (3, .int (iI c3)), (4, .int (iI c4))]) dX2_loosenBinds_142 rfl (by decide) rfl ?_
            refine tn_goto (tgt := 66) dX2_loosenBinds_145 (by decide) ?_
            exact tn_sub [1, 2, 3, 4, 5, 0] rfl (ih _ (by omega) (i5 + 1) σ23 w27 ((FrC.rfl.trans (FrC.sub hF (by decide))).trans (FrC.sub F28 (by decide))) (by omega) rfl)
          · refine tn_iload dX2_loosenBinds_103 5 rfl ?_
            refine tn_iload dX2_loosenBinds_105 4 rfl ?_
            refine tn_icmp_ge (tgt := 133) dX2_loosenBinds_107 (by decide) ⟨by omega, by omega⟩ ⟨by omega, by omega⟩ (fun h29 => ?_) (fun h29 => ?_)
            · refine tn_aload_n dX2_loosenBinds_133 rfl 1 rfl ?_
              refine tn_iload dX2_loosenBinds_134 5 rfl ?_
              refine tn_bipush dX2_loosenBinds_136 (by decide) ?_
              refine tn_iconst dX2_loosenBinds_138 ?_
              refine tn_callV (M := m_X2_loosenBinds) (pc := 139) (ix := 73) (ci := 1) (M' := m_X1_setWhere) (As := [.int (iI i5), .int (iI 12), .int (iI 0)]) (rest := []) dX2_loosenBinds_139 ok_X1_setWhere im_X1_setWhere se_X1_setWhere ml2_73 np_X1_setWhere rfl rfl h_rx1 rfl (Nat.le_of_ble_eq_true rfl) (Nat.le_of_ble_eq_true rfl) rfl (k_X1_setWhere (d + 2) (T := T) (σ := σ) (a := rx1) (k := i5) (y := 12) (z := 0) h_rx1 (by omega) (by decide) (by decide) hw ) (fun r30 T32 σ31 gt33 hp => ?_)
              obtain ⟨rfl, rfl, w35, F36⟩ := hp
              clear gt33
              show Tn _ _ 142 T σ31 [(0, .ref a), (1, .ref rx1), (2, .int (iI c2)), (3, .int (iI c3)), (4, .int (iI c4)), (5, .int (iI i5))] [] _
              refine tn_iinc (q0 := 5) (L' := [(5, .int (iI (i5 + 1))), (0, .ref a), (1, .ref rx1), (2, .int (iI c2)), (3, .int (iI c3)), (4, .int (iI c4))]) dX2_loosenBinds_142 rfl (by decide) rfl ?_
              refine tn_goto (tgt := 66) dX2_loosenBinds_145 (by decide) ?_
              exact tn_sub [1, 2, 3, 4, 5, 0] rfl (ih _ (by omega) (i5 + 1) σ31 w35 ((FrC.rfl.trans (FrC.sub hF (by decide))).trans (FrC.sub F36 (by decide))) (by omega) rfl)
            · refine tn_aload_n dX2_loosenBinds_110 rfl 1 rfl ?_
              refine tn_iload dX2_loosenBinds_111 5 rfl ?_
              refine tn_bipush dX2_loosenBinds_113 (by decide) ?_
              refine tn_callV (M := m_X2_loosenBinds) (pc := 115) (ix := 53) (ci := 1) (M' := m_X1_get) (As := [.int (iI i5), .int (iI 11)]) (rest := []) dX2_loosenBinds_115 ok_X1_get im_X1_get se_X1_get ml2_53 np_X1_get rfl rfl h_rx1 rfl (Nat.le_of_ble_eq_true rfl) (Nat.le_of_ble_eq_true rfl) rfl (k_X1_get (d + 3) (T := T) (σ := σ) (a := rx1) (k := i5) (c := 11) h_rx1 (by omega) (by decide) hw (by omega)) (fun r37 T39 σ38 gt40 hp => ?_)
              obtain ⟨v42, rfl, rfl, rfl, f41⟩ := hp
              clear gt40
              show Tn _ _ 118 T σ [(0, .ref a), (1, .ref rx1), (2, .int (iI c2)), (3, .int (iI c3)), (4, .int (iI c4)), (5, .int (iI i5))] [.int (iI v42)] _
              refine tn_iconst dX2_loosenBinds_118 ?_
              refine tn_icmp_ne (tgt := 133) dX2_loosenBinds_119 (by decide) ⟨by omega, by omega⟩ ⟨by decide, by decide⟩ (fun h43 => ?_) (fun h43 => ?_)
              · refine tn_aload_n dX2_loosenBinds_133 rfl 1 rfl ?_
                refine tn_iload dX2_loosenBinds_134 5 rfl ?_
                refine tn_bipush dX2_loosenBinds_136 (by decide) ?_
                refine tn_iconst dX2_loosenBinds_138 ?_
                refine tn_callV (M := m_X2_loosenBinds) (pc := 139) (ix := 73) (ci := 1) (M' := m_X1_setWhere) (As := [.int (iI i5), .int (iI 12), .int (iI 0)]) (rest := []) dX2_loosenBinds_139 ok_X1_setWhere im_X1_setWhere se_X1_setWhere ml2_73 np_X1_setWhere rfl rfl h_rx1 rfl (Nat.le_of_ble_eq_true rfl) (Nat.le_of_ble_eq_true rfl) rfl (k_X1_setWhere (d + 2) (T := T) (σ := σ) (a := rx1) (k := i5) (y := 12) (z := 0) h_rx1 (by omega) (by decide) (by decide) hw ) (fun r44 T46 σ45 gt47 hp => ?_)
                obtain ⟨rfl, rfl, w49, F50⟩ := hp
                clear gt47
                show Tn _ _ 142 T σ45 [(0, .ref a), (1, .ref rx1), (2, .int (iI c2)), (3, .int (iI c3)), (4, .int (iI c4)), (5, .int (iI i5))] [] _
                refine tn_iinc (q0 := 5) (L' := [(5, .int (iI (i5 + 1))), (0, .ref a), (1, .ref rx1), (2, .int (iI c2)), (3, .int (iI c3)), (4, .int (iI c4))]) dX2_loosenBinds_142 rfl (by decide) rfl ?_
                refine tn_goto (tgt := 66) dX2_loosenBinds_145 (by decide) ?_
                exact tn_sub [1, 2, 3, 4, 5, 0] rfl (ih _ (by omega) (i5 + 1) σ45 w49 ((FrC.rfl.trans (FrC.sub hF (by decide))).trans (FrC.sub F50 (by decide))) (by omega) rfl)
              · refine tn_aload_n dX2_loosenBinds_122 rfl 0 rfl ?_
                refine tn_aload_n dX2_loosenBinds_123 rfl 1 rfl ?_
                refine tn_iload_n dX2_loosenBinds_124 rfl 2 rfl ?_
                refine tn_iload dX2_loosenBinds_125 5 rfl ?_
                refine tn_callV (M := m_X2_loosenBinds) (pc := 127) (ix := 70) (ci := 2) (M' := m_X2_takeOver) (As := [.ref rx1, .int (iI c2), .int (iI i5)]) (rest := []) dX2_loosenBinds_127 ok_X2_takeOver im_X2_takeOver se_X2_takeOver ml2_70 np_X2_takeOver rfl rfl h_a rfl (Nat.le_of_ble_eq_true rfl) (Nat.le_of_ble_eq_true rfl) rfl (k_X2_takeOver (d + 1) (T := T) (σ := σ) (a := a) (p1 := rx1) (p2 := c2) (p3 := i5) h_a h_rx1 t_rx1 (by omega) (by omega) hw ) (fun r51 T53 σ52 gt54 hp => ?_)
                obtain ⟨rfl, rfl, w56, F57⟩ := hp
                clear gt54
                show Tn _ _ 130 T σ52 [(0, .ref a), (1, .ref rx1), (2, .int (iI c2)), (3, .int (iI c3)), (4, .int (iI c4)), (5, .int (iI i5))] [] _
                refine tn_goto (tgt := 142) dX2_loosenBinds_130 (by decide) ?_
                refine tn_iinc (q0 := 5) (L' := [(5, .int (iI (i5 + 1))), (0, .ref a), (1, .ref rx1), (2, .int (iI c2)), (3, .int (iI c3)), (4, .int (iI c4))]) dX2_loosenBinds_142 rfl (by decide) rfl ?_
                refine tn_goto (tgt := 66) dX2_loosenBinds_145 (by decide) ?_
                exact tn_sub [1, 2, 3, 4, 5, 0] rfl (ih _ (by omega) (i5 + 1) σ52 w56 ((FrC.rfl.trans (FrC.sub hF (by decide))).trans (FrC.sub F57 (by decide))) (by omega) rfl)
theorem dX2_loosenBinds_148 : decode cX2_loosenBinds 148 = .ok (.return_, 1) := by decide +kernel
set_option maxRecDepth 20000 in
theorem k_X2_loosenBinds (d : Nat) {T : CT} {σ : MS} {a : Nat} {p1 : Nat} {p2 : Int} (ha : OB T a 2) (h_p1 : OB T p1 1) (t_p1 : (T p1).1 = 50) (h_p2 : -2147483648 ≤ p2 ∧ p2 ≤ 2147483647) (hw : WT T σ) : Tn (d + 5) m_X2_loosenBinds 0 T σ [(0, .ref a), (1, .ref p1), (2, .int (iI p2))] [] (fun ro T2 σ2 => ro = none ∧ T = T2 ∧ WT T2 σ2 ∧ FrC T [22] σ σ2) := by
  refine tn_aload_n dX2_loosenBinds_0 rfl 1 rfl ?_
  refine tn_iload_n dX2_loosenBinds_1 rfl 2 rfl ?_
  refine tn_iconst dX2_loosenBinds_2 ?_
  refine tn_callV (M := m_X2_loosenBinds) (pc := 3) (ix := 53) (ci := 1) (M' := m_X1_get) (As := [.int (iI p2), .int (iI 1)]) (rest := []) dX2_loosenBinds_3 ok_X1_get im_X1_get se_X1_get ml2_53 np_X1_get rfl rfl h_p1 rfl (Nat.le_of_ble_eq_true rfl) (Nat.le_of_ble_eq_true rfl) rfl (k_X1_get (d + 3) (T := T) (σ := σ) (a := p1) (k := p2) (c := 1) h_p1 (by omega) (by decide) hw (by omega)) (fun r1 T3 σ2 gt4 hp => ?_)
  obtain ⟨v6, rfl, rfl, rfl, f5⟩ := hp
  clear gt4
  show Tn _ _ 6 T σ [(0, .ref a), (1, .ref p1), (2, .int (iI p2))] [.int (iI v6)] _
  refine tn_istore_n (L' := [(3, .int (iI v6)), (0, .ref a), (1, .ref p1), (2, .int (iI p2))]) dX2_loosenBinds_6 rfl (by decide) rfl ?_
  refine tn_iload_n dX2_loosenBinds_7 rfl 3 rfl ?_
  refine tn_iconst dX2_loosenBinds_8 ?_
  refine tn_iadd dX2_loosenBinds_9 ?_
  refine tn_any (fun z7 g8 => ?_)
  have g8r : -2147483648 ≤ z7 ∧ z7 ≤ 2147483647 := g8
  refine tn_istore (L' := [(4, .int (iI z7)), (3, .int (iI v6)), (0, .ref a), (1, .ref p1), (2, .int (iI p2))]) dX2_loosenBinds_10 (by decide) rfl ?_
  refine tn_sub [2, 3, 4, 1, 0] rfl (l_X2_loosenBinds_12 (d) (T := T) (σ := σ) (a := a) (rx1 := p1) (c2 := p2) (c3 := v6) ha h_p1 t_p1 (by omega) (by omega) hw (fun i49 r15 => ?_) _ (z7) (by omega) rfl)
  show Tn _ _ 51 T σ [(0, .ref a), (1, .ref p1), (2, .int (iI p2)), (3, .int (iI v6)), (4, .int (iI i49))] [] _
  refine tn_aload_n dX2_loosenBinds_51 rfl 0 rfl ?_
  obtain ⟨x16, hx17, hk18⟩ : ∃ x : Nat, σ.2.1 17 a = (x : Int) ∧ (T x).1 = 33 := wf_17 hw ha
  have hk18o : OB T x16 3 := ⟨by omega, by rw [hk18]; rfl, by omega⟩
  refine tn_getR (ci := 2) (i := 0) (n := 17) (x := x16) dX2_loosenBinds_52 rfl lay_2 (by decide) fl2_9 ha rfl rfl (hx17) ?_
  refine tn_aload_n dX2_loosenBinds_55 rfl 1 rfl ?_
  refine tn_iload_n dX2_loosenBinds_56 rfl 2 rfl ?_
  refine tn_iconst dX2_loosenBinds_57 ?_
  refine tn_iadd dX2_loosenBinds_58 ?_
  refine tn_any (fun z20 g21 => ?_)
  have g21r : -2147483648 ≤ z20 ∧ z20 ≤ 2147483647 := g21
  refine tn_iload_n dX2_loosenBinds_59 rfl 3 rfl ?_
  refine tn_callV (M := m_X2_loosenBinds) (pc := 60) (ix := 41) (ci := 3) (M' := m_X3_seeFrom) (As := [.ref p1, .int (iI z20), .int (iI v6)]) (rest := []) dX2_loosenBinds_60 ok_X3_seeFrom im_X3_seeFrom se_X3_seeFrom ml2_41 np_X3_seeFrom rfl rfl hk18o rfl (Nat.le_of_ble_eq_true rfl) (Nat.le_of_ble_eq_true rfl) rfl (k_X3_seeFrom (d) (T := T) (σ := σ) (a := x16) (p1 := p1) (p2 := z20) (p3 := v6) hk18o h_p1 (by omega) (by omega) hw ) (fun r22 T24 σ23 gt25 hp => ?_)
  obtain ⟨rfl, rfl, w27, F28⟩ := hp
  clear gt25
  show Tn _ _ 63 T σ23 [(0, .ref a), (1, .ref p1), (2, .int (iI p2)), (3, .int (iI v6)), (4, .int (iI i49))] [] _
  refine tn_iconst dX2_loosenBinds_63 ?_
  refine tn_istore (L' := [(5, .int (iI 0)), (0, .ref a), (1, .ref p1), (2, .int (iI p2)), (3, .int (iI v6)), (4, .int (iI i49))]) dX2_loosenBinds_64 (by decide) rfl ?_
  refine tn_sub [1, 2, 3, 4, 5, 0] rfl (l_X2_loosenBinds_66 (d) (T := T) (σ0 := σ23) (a := a) (rx1 := p1) (c2 := p2) (c3 := v6) (c4 := i49) ha h_p1 t_p1 (by omega) (by omega) (by omega) w27 (fun i529 σ30 w33 F34 r35 => ?_) _ (0) σ23 w27 FrC.rfl (by omega) rfl)
  show Tn _ _ 148 T σ30 [(0, .ref a), (1, .ref p1), (2, .int (iI p2)), (3, .int (iI v6)), (4, .int (iI i49)), (5, .int (iI i529))] [] _
  exact tn_vret rfl dX2_loosenBinds_148 ⟨rfl, rfl, w33, ((FrC.rfl.trans (FrC.sub F28 (by decide))).trans (FrC.sub F34 (by decide)))⟩
end
section
theorem cd_X2_lastUnread : Cond.code yX2_lastUnread cX2_lastUnread 3 (some .int) ∈ pWW := pw5 (List.mem_of_getElem? (i := 62) rfl) rfl
abbrev m_X2_lastUnread : MT := (yX2_lastUnread, cX2_lastUnread, 3, (some .int))
theorem ok_X2_lastUnread : pOk m_X2_lastUnread := ⟨⟨cd_X2_lastUnread, ini_2⟩, by decide +kernel, ⟨by decide +kernel, by decide +kernel⟩, Nat.le_of_ble_eq_true rfl⟩
theorem np_X2_lastUnread : (parseMethodDescriptor yX2_lastUnread.desc).map (fun d => d.parameters.length) = some 1 := by decide +kernel
theorem im_X2_lastUnread : Cond.instanceMethod yX2_lastUnread ∈ pWW := pw5 (List.mem_of_getElem? (i := 61) rfl) rfl
theorem se_X2_lastUnread : Cond.selects RX2 yX2_lastUnread yX2_lastUnread ∈ pWW := pws (List.mem_map.mpr ⟨_, lw_pin 54 rfl, rfl⟩) rfl
theorem nl2_60 : (RX2, 60, yX11_isPure, "LineKeeper") ∈ nst_M := List.mem_of_getElem? (i := 30) rfl
theorem ml2_63 : Cond.methodLink RX2 63 yX3_lives ∈ pWW := pw5 (List.mem_of_getElem? (i := 64) rfl) rfl
theorem dX2_lastUnread_0 : decode cX2_lastUnread 0 = .ok (.aload_n 1, 1) := by decide +kernel
theorem dX2_lastUnread_1 : decode cX2_lastUnread 1 = .ok (.getfield 45, 3) := by decide +kernel
theorem dX2_lastUnread_4 : decode cX2_lastUnread 4 = .ok (.iconst 1, 1) := by decide +kernel
theorem dX2_lastUnread_5 : decode cX2_lastUnread 5 = .ok (.isub, 1) := by decide +kernel
theorem dX2_lastUnread_6 : decode cX2_lastUnread 6 = .ok (.istore_n 2, 1) := by decide +kernel
theorem dX2_lastUnread_7 : decode cX2_lastUnread 7 = .ok (.iload_n 2, 1) := by decide +kernel
theorem dX2_lastUnread_8 : decode cX2_lastUnread 8 = .ok (.ifCond .lt 42, 3) := by decide +kernel
theorem dX2_lastUnread_11 : decode cX2_lastUnread 11 = .ok (.aload_n 1, 1) := by decide +kernel
theorem dX2_lastUnread_12 : decode cX2_lastUnread 12 = .ok (.iload_n 2, 1) := by decide +kernel
theorem dX2_lastUnread_13 : decode cX2_lastUnread 13 = .ok (.iconst 0, 1) := by decide +kernel
theorem dX2_lastUnread_14 : decode cX2_lastUnread 14 = .ok (.invokevirtual 53, 3) := by decide +kernel
theorem dX2_lastUnread_17 : decode cX2_lastUnread 17 = .ok (.invokestatic 60, 3) := by decide +kernel
theorem dX2_lastUnread_20 : decode cX2_lastUnread 20 = .ok (.ifCond .eq 24, 3) := by decide +kernel
theorem dX2_lastUnread_44 : decode cX2_lastUnread 44 = .ok (.iinc 2 (-1), 3) := by decide +kernel
theorem dX2_lastUnread_47 : decode cX2_lastUnread 47 = .ok (.goto (-40), 3) := by decide +kernel
theorem dX2_lastUnread_23 : decode cX2_lastUnread 23 = .ok (.aload_n 0, 1) := by decide +kernel
theorem dX2_lastUnread_24 : decode cX2_lastUnread 24 = .ok (.getfield 9, 3) := by decide +kernel
theorem dX2_lastUnread_27 : decode cX2_lastUnread 27 = .ok (.iload_n 2, 1) := by decide +kernel
theorem dX2_lastUnread_28 : decode cX2_lastUnread 28 = .ok (.iconst 1, 1) := by decide +kernel
theorem dX2_lastUnread_29 : decode cX2_lastUnread 29 = .ok (.iadd, 1) := by decide +kernel
theorem dX2_lastUnread_30 : decode cX2_lastUnread 30 = .ok (.aload_n 1, 1) := by decide +kernel
theorem dX2_lastUnread_31 : decode cX2_lastUnread 31 = .ok (.iload_n 2, 1) := by decide +kernel
theorem dX2_lastUnread_32 : decode cX2_lastUnread 32 = .ok (.iconst 1, 1) := by decide +kernel
theorem dX2_lastUnread_33 : decode cX2_lastUnread 33 = .ok (.invokevirtual 53, 3) := by decide +kernel
theorem dX2_lastUnread_36 : decode cX2_lastUnread 36 = .ok (.invokevirtual 63, 3) := by decide +kernel
theorem dX2_lastUnread_39 : decode cX2_lastUnread 39 = .ok (.ifCond .ne 5, 3) := by decide +kernel
set_option maxRecDepth 20000 in
theorem l_X2_lastUnread_7 (d : Nat) {T : CT} {σ : MS} {a : Nat} {rx1 : Nat} {post : Option Value → CT → MS → Prop} (h_a : OB T a 2) (h_rx1 : OB T rx1 1) (t_rx1 : (T rx1).1 = 50) (hw : WT T σ) (hx_42 : ∀ (i2 : Int) , (-1 ≤ i2 ∧ i2 ≤ 199) → Tn (d + 4) m_X2_lastUnread 42 T σ [(0, .ref a), (1, .ref rx1), (2, .int (iI i2))] [] post) (hx_50 : ∀ (i2 : Int) , (-1 ≤ i2 ∧ i2 ≤ 199) → Tn (d + 4) m_X2_lastUnread 50 T σ [(0, .ref a), (1, .ref rx1), (2, .int (iI i2))] [] post) : ∀ (n : Nat) (i2 : Int) , (-1 ≤ i2 ∧ i2 ≤ 199) → (i2 + 20).toNat = n → Tn (d + 4) m_X2_lastUnread 7 T σ [(0, .ref a), (1, .ref rx1), (2, .int (iI i2))] [] post := by
  intro n
  induction n using Nat.strongRecOn with
  | _ n ih =>
    intro i2 r_i2 hm
    refine tn_iload_n dX2_lastUnread_7 rfl 2 rfl ?_
    refine tn_if_lt (tgt := 50) dX2_lastUnread_8 (by decide) ⟨by omega, by omega⟩ (fun h1 => ?_) (fun h1 => ?_)
    · exact tn_sub [0, 1, 2] rfl (hx_50 (i2) (by omega))
    · refine tn_aload_n dX2_lastUnread_11 rfl 1 rfl ?_
      refine tn_iload_n dX2_lastUnread_12 rfl 2 rfl ?_
      refine tn_iconst dX2_lastUnread_13 ?_
      refine tn_callV (M := m_X2_lastUnread) (pc := 14) (ix := 53) (ci := 1) (M' := m_X1_get) (As := [.int (iI i2), .int (iI 0)]) (rest := []) dX2_lastUnread_14 ok_X1_get im_X1_get se_X1_get ml2_53 np_X1_get rfl rfl h_rx1 rfl (Nat.le_of_ble_eq_true rfl) (Nat.le_of_ble_eq_true rfl) rfl (k_X1_get (d + 2) (T := T) (σ := σ) (a := rx1) (k := i2) (c := 0) h_rx1 (by omega) (by decide) hw (by omega)) (fun r2 T4 σ3 gt5 hp => ?_)
      obtain ⟨v7, rfl, rfl, rfl, f6⟩ := hp
      clear gt5
      show Tn _ _ 17 T σ [(0, .ref a), (1, .ref rx1), (2, .int (iI i2))] [.int (iI v7)] _
      refine tn_callSN (M := m_X2_lastUnread) (pc := 17) (ix := 60) (M' := m_X11_isPure) (As := [.int (iI v7)]) (rest := []) dX2_lastUnread_17 ok_X11_isPure stt_X11_isPure nl2_60 np_X11_isPure rfl (Nat.le_of_ble_eq_true rfl) (Nat.le_of_ble_eq_true rfl) rfl (k_X11_isPure (d + 2) (T := T) (σ := σ) (k := v7) (by omega) hw ) (fun r8 T10 σ9 gt11 hp => ?_)
      obtain ⟨v13, rfl, rfl, rfl, f12⟩ := hp
      clear gt11
      show Tn _ _ 20 T σ [(0, .ref a), (1, .ref rx1), (2, .int (iI i2))] [.int (iI v13)] _
      refine tn_if_eq (tgt := 44) dX2_lastUnread_20 (by decide) ⟨by omega, by omega⟩ (fun h14 => ?_) (fun h14 => ?_)
      · refine tn_iinc (q0 := 2) (L' := [(2, .int (iI (i2 + (-1)))), (0, .ref a), (1, .ref rx1)]) dX2_lastUnread_44 rfl (by decide) rfl ?_
        refine tn_goto (tgt := 7) dX2_lastUnread_47 (by decide) ?_
        exact tn_sub [1, 2, 0] rfl (ih _ (by omega) (i2 + (-1)) (by omega) rfl)
      · refine tn_aload_n dX2_lastUnread_23 rfl 0 rfl ?_
        obtain ⟨x15, hx16, hk17⟩ : ∃ x : Nat, σ.2.1 17 a = (x : Int) ∧ (T x).1 = 33 := wf_17 hw h_a
        have hk17o : OB T x15 3 := ⟨by omega, by rw [hk17]; rfl, by omega⟩
        refine tn_getR (ci := 2) (i := 0) (n := 17) (x := x15) dX2_lastUnread_24 rfl lay_2 (by decide) fl2_9 h_a rfl rfl (hx16) ?_
        refine tn_iload_n dX2_lastUnread_27 rfl 2 rfl ?_
        refine tn_iconst dX2_lastUnread_28 ?_
        refine tn_iadd dX2_lastUnread_29 ?_
        refine tn_aload_n dX2_lastUnread_30 rfl 1 rfl ?_
        refine tn_iload_n dX2_lastUnread_31 rfl 2 rfl ?_
        refine tn_iconst dX2_lastUnread_32 ?_
        refine tn_callV (M := m_X2_lastUnread) (pc := 33) (ix := 53) (ci := 1) (M' := m_X1_get) (As := [.int (iI i2), .int (iI 1)]) (rest := [.int (iI (i2 + 1)), .ref x15]) dX2_lastUnread_33 ok_X1_get im_X1_get se_X1_get ml2_53 np_X1_get rfl rfl h_rx1 rfl (Nat.le_of_ble_eq_true rfl) (Nat.le_of_ble_eq_true rfl) rfl (k_X1_get (d + 2) (T := T) (σ := σ) (a := rx1) (k := i2) (c := 1) h_rx1 (by omega) (by decide) hw (by omega)) (fun r19 T21 σ20 gt22 hp => ?_)
        obtain ⟨v24, rfl, rfl, rfl, f23⟩ := hp
        clear gt22
        show Tn _ _ 36 T σ [(0, .ref a), (1, .ref rx1), (2, .int (iI i2))] [.int (iI v24), .int (iI (i2 + 1)), .ref x15] _
        refine tn_callV (M := m_X2_lastUnread) (pc := 36) (ix := 63) (ci := 3) (M' := m_X3_lives) (As := [.int (iI (i2 + 1)), .int (iI v24)]) (rest := []) dX2_lastUnread_36 ok_X3_lives im_X3_lives se_X3_lives ml2_63 np_X3_lives rfl rfl hk17o rfl (Nat.le_of_ble_eq_true rfl) (Nat.le_of_ble_eq_true rfl) rfl (k_X3_lives (d) (T := T) (σ := σ) (a := x15) (p1 := i2 + 1) (p2 := v24) hk17o (by omega) (by omega) hw ) (fun r25 T27 σ26 gt28 hp => ?_)
        obtain ⟨v30, rfl, rfl, rfl, f29⟩ := hp
        clear gt28
        show Tn _ _ 39 T σ [(0, .ref a), (1, .ref rx1), (2, .int (iI i2))] [.int (iI v30)] _
        refine tn_if_ne (tgt := 44) dX2_lastUnread_39 (by decide) ⟨by omega, by omega⟩ (fun h31 => ?_) (fun h31 => ?_)
        · refine tn_iinc (q0 := 2) (L' := [(2, .int (iI (i2 + (-1)))), (0, .ref a), (1, .ref rx1)]) dX2_lastUnread_44 rfl (by decide) rfl ?_
          refine tn_goto (tgt := 7) dX2_lastUnread_47 (by decide) ?_
          exact tn_sub [1, 2, 0] rfl (ih _ (by omega) (i2 + (-1)) (by omega) rfl)
        · exact tn_sub [0, 1, 2] rfl (hx_42 (i2) (by omega))
theorem dX2_lastUnread_42 : decode cX2_lastUnread 42 = .ok (.iload_n 2, 1) := by decide +kernel
theorem dX2_lastUnread_43 : decode cX2_lastUnread 43 = .ok (.ireturn, 1) := by decide +kernel
theorem dX2_lastUnread_50 : decode cX2_lastUnread 50 = .ok (.iconst (-1), 1) := by decide +kernel
theorem dX2_lastUnread_51 : decode cX2_lastUnread 51 = .ok (.ireturn, 1) := by decide +kernel
set_option maxRecDepth 20000 in
theorem k_X2_lastUnread (d : Nat) {T : CT} {σ : MS} {a : Nat} {p1 : Nat} (ha : OB T a 2) (h_p1 : OB T p1 1) (t_p1 : (T p1).1 = 50) (hw : WT T σ) : Tn (d + 4) m_X2_lastUnread 0 T σ [(0, .ref a), (1, .ref p1)] [] (fun ro T2 σ2 => ∃ v : Int, ro = some (.int (iI v)) ∧ T = T2 ∧ σ = σ2 ∧ (-2147483648 ≤ v ∧ v ≤ 2147483647)) := by
  refine tn_aload_n dX2_lastUnread_0 rfl 1 rfl ?_
  refine tn_getI (ci := 1) (i := 1) (n := 6) (t := σ.2.1 6 p1) dX2_lastUnread_1 rfl lay_1 (by decide) fl2_45 h_p1 rfl rfl (rfl) ?_
  have g1 : ((0 : Int) ≤ σ.2.1 6 p1 ∧ σ.2.1 6 p1 ≤ 5000) ∧ ((T p1).1 = 50 → σ.2.1 6 p1 ≤ 200) := wf_6 hw h_p1
  have g1x := g1.2
  replace g1 := g1.1
  have g1x := g1x t_p1
  refine tn_iconst dX2_lastUnread_4 ?_
  refine tn_isub dX2_lastUnread_5 ?_
  refine tn_istore_n (L' := [(2, .int (iI ((σ.2.1 6 p1) - 1))), (0, .ref a), (1, .ref p1)]) dX2_lastUnread_6 rfl (by decide) rfl ?_
  refine tn_sub [1, 2, 0] rfl (l_X2_lastUnread_7 (d) (T := T) (σ := σ) (a := a) (rx1 := p1) ha h_p1 t_p1 hw (fun i22 r8 => ?_) (fun i29 r15 => ?_) _ ((σ.2.1 6 p1) - 1) (by omega) rfl)
  · show Tn _ _ 42 T σ [(0, .ref a), (1, .ref p1), (2, .int (iI i22))] [] _
    refine tn_iload_n dX2_lastUnread_42 rfl 2 rfl ?_
    exact tn_iret rfl dX2_lastUnread_43 ⟨_, rfl, rfl, rfl, by omega⟩
  · show Tn _ _ 50 T σ [(0, .ref a), (1, .ref p1), (2, .int (iI i29))] [] _
    refine tn_iconst dX2_lastUnread_50 ?_
    exact tn_iret rfl dX2_lastUnread_51 ⟨_, rfl, rfl, rfl, by omega⟩
end
