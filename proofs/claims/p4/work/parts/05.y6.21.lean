theorem cd_X1_registers : Cond.code yX1_registers cX1_registers 4 (some .int) ∈ pWW := pw4 (List.mem_of_getElem? (i := 73) rfl) rfl
abbrev m_X1_registers : MT := (yX1_registers, cX1_registers, 4, (some .int))
theorem ok_X1_registers : pOk m_X1_registers := ⟨⟨cd_X1_registers, ini_1⟩, by decide +kernel, ⟨by decide +kernel, by decide +kernel⟩, Nat.le_of_ble_eq_true rfl⟩
theorem np_X1_registers : (parseMethodDescriptor yX1_registers.desc).map (fun d => d.parameters.length) = some 0 := by decide +kernel
theorem im_X1_registers : Cond.instanceMethod yX1_registers ∈ pWW := pw4 (List.mem_of_getElem? (i := 71) rfl) rfl
theorem se_X1_registers : Cond.selects RX1 yX1_registers yX1_registers ∈ pWW := pw4 (List.mem_of_getElem? (i := 72) rfl) rfl
theorem ml1_110 : Cond.methodLink RX1 110 yX1_homeOf ∈ pWW := pw4 (List.mem_of_getElem? (i := 75) rfl) rfl
theorem dX1_registers_0 : decode cX1_registers 0 = .ok (.iconst (-1), 1) := by decide +kernel
theorem dX1_registers_1 : decode cX1_registers 1 = .ok (.istore_n 1, 1) := by decide +kernel
theorem dX1_registers_2 : decode cX1_registers 2 = .ok (.iconst 0, 1) := by decide +kernel
theorem dX1_registers_3 : decode cX1_registers 3 = .ok (.istore_n 2, 1) := by decide +kernel
theorem dX1_registers_4 : decode cX1_registers 4 = .ok (.iload_n 2, 1) := by decide +kernel
theorem dX1_registers_5 : decode cX1_registers 5 = .ok (.aload_n 0, 1) := by decide +kernel
theorem dX1_registers_6 : decode cX1_registers 6 = .ok (.getfield 46, 3) := by decide +kernel
theorem dX1_registers_9 : decode cX1_registers 9 = .ok (.if_icmp .ge 40, 3) := by decide +kernel
theorem dX1_registers_12 : decode cX1_registers 12 = .ok (.iconst 0, 1) := by decide +kernel
theorem dX1_registers_13 : decode cX1_registers 13 = .ok (.istore_n 3, 1) := by decide +kernel
theorem dX1_registers_14 : decode cX1_registers 14 = .ok (.iload_n 3, 1) := by decide +kernel
theorem dX1_registers_15 : decode cX1_registers 15 = .ok (.aload_n 0, 1) := by decide +kernel
theorem dX1_registers_16 : decode cX1_registers 16 = .ok (.getfield 24, 3) := by decide +kernel
theorem dX1_registers_19 : decode cX1_registers 19 = .ok (.iload_n 2, 1) := by decide +kernel
theorem dX1_registers_20 : decode cX1_registers 20 = .ok (.invokestatic 53, 3) := by decide +kernel
theorem dX1_registers_23 : decode cX1_registers 23 = .ok (.if_icmp .ge 20, 3) := by decide +kernel
theorem dX1_registers_26 : decode cX1_registers 26 = .ok (.iload_n 1, 1) := by decide +kernel
theorem dX1_registers_27 : decode cX1_registers 27 = .ok (.aload_n 0, 1) := by decide +kernel
theorem dX1_registers_28 : decode cX1_registers 28 = .ok (.iload_n 2, 1) := by decide +kernel
theorem dX1_registers_29 : decode cX1_registers 29 = .ok (.iload_n 3, 1) := by decide +kernel
theorem dX1_registers_30 : decode cX1_registers 30 = .ok (.invokevirtual 110, 3) := by decide +kernel
theorem dX1_registers_33 : decode cX1_registers 33 = .ok (.invokestatic 63, 3) := by decide +kernel
theorem dX1_registers_36 : decode cX1_registers 36 = .ok (.istore_n 1, 1) := by decide +kernel
theorem dX1_registers_37 : decode cX1_registers 37 = .ok (.iinc 3 1, 3) := by decide +kernel
theorem dX1_registers_40 : decode cX1_registers 40 = .ok (.goto (-26), 3) := by decide +kernel
set_option maxRecDepth 20000 in
theorem l_X1_registers_14 (d : Nat) {T : CT} {σ : MS} {a : Nat} {c2 : Int} {post : Option Value → CT → MS → Prop} (h_a : OB T a 1) (r_c2 : 0 ≤ c2 ∧ c2 ≤ 11) (hw : WT T σ) (hx_43 : ∀ (i1 : Int) (i3 : Int) , (-2147483648 ≤ i1 ∧ i1 ≤ 2147483647) → (0 ≤ i3 ∧ i3 ≤ 2147483647) → Tn (d + 4) m_X1_registers 43 T σ [(0, .ref a), (1, .int (iI i1)), (2, .int (iI c2)), (3, .int (iI i3))] [] post) : ∀ (n : Nat) (i1 : Int) (i3 : Int) , (-2147483648 ≤ i1 ∧ i1 ≤ 2147483647) → (0 ≤ i3 ∧ i3 ≤ 2147483647) → (2147483700 - i3).toNat = n → Tn (d + 4) m_X1_registers 14 T σ [(0, .ref a), (1, .int (iI i1)), (2, .int (iI c2)), (3, .int (iI i3))] [] post := by
  intro n
  induction n using Nat.strongRecOn with
  | _ n ih =>
    intro i1 i3 r_i1 r_i3 hm
    refine tn_iload_n dX1_registers_14 rfl 3 rfl ?_
    refine tn_aload_n dX1_registers_15 rfl 0 rfl ?_
    obtain ⟨x1, hx2, hk3, hl4⟩ : ∃ x : Nat, σ.2.1 14 a = (x : Int) ∧ AR T x 11 12 12 := wf_14 hw h_a
    have hk3i : IA T x1 := by unfold IA; omega
    refine tn_getR (ci := 1) (i := 9) (n := 14) (x := x1) dX1_registers_16 rfl lay_1 (by decide) fl1_24 h_a rfl rfl (hx2) ?_
    refine tn_iload_n dX1_registers_19 rfl 2 rfl ?_
    refine tn_callSN (M := m_X1_registers) (pc := 20) (ix := 53) (M' := m_X11_at) (As := [.ref x1, .int (iI c2)]) (rest := [.int (iI i3)]) dX1_registers_20 ok_X11_at stt_X11_at nl1_53 np_X11_at rfl (Nat.le_of_ble_eq_true rfl) (Nat.le_of_ble_eq_true rfl) rfl (k_X11_at (d + 2) (T := T) (σ := σ) (x := x1) (i := c2) hk3i (by omega) (by omega) hw ) (fun r5 T7 σ6 gt8 hp => ?_)
    obtain ⟨v12, rfl, rfl, rfl, f9, f10, f11⟩ := hp
    clear gt8
    have f10n := f10.2.1 hk3
    clear f10 f11
    show Tn _ _ 23 T σ [(0, .ref a), (1, .int (iI i1)), (2, .int (iI c2)), (3, .int (iI i3))] [.int (iI v12), .int (iI i3)] _
    refine tn_icmp_ge (tgt := 43) dX1_registers_23 (by decide) ⟨by omega, by omega⟩ ⟨by omega, by omega⟩ (fun h13 => ?_) (fun h13 => ?_)
    · exact tn_sub [0, 1, 2, 3] rfl (hx_43 (i1) (i3) (by omega) (by omega))
    · refine tn_iload_n dX1_registers_26 rfl 1 rfl ?_
      refine tn_aload_n dX1_registers_27 rfl 0 rfl ?_
      refine tn_iload_n dX1_registers_28 rfl 2 rfl ?_
      refine tn_iload_n dX1_registers_29 rfl 3 rfl ?_
      refine tn_callV (M := m_X1_registers) (pc := 30) (ix := 110) (ci := 1) (M' := m_X1_homeOf) (As := [.int (iI c2), .int (iI i3)]) (rest := [.int (iI i1)]) dX1_registers_30 ok_X1_homeOf im_X1_homeOf se_X1_homeOf ml1_110 np_X1_homeOf rfl rfl h_a rfl (Nat.le_of_ble_eq_true rfl) (Nat.le_of_ble_eq_true rfl) rfl (k_X1_homeOf (d + 1) (T := T) (σ := σ) (a := a) (f := c2) (m := i3) h_a (by omega) (by omega) hw ) (fun r14 T16 σ15 gt17 hp => ?_)
      obtain ⟨v19, rfl, rfl, rfl, f18⟩ := hp
      clear gt17
      show Tn _ _ 33 T σ [(0, .ref a), (1, .int (iI i1)), (2, .int (iI c2)), (3, .int (iI i3))] [.int (iI v19), .int (iI i1)] _
      refine tn_mmax (x := i1) (y := v19) dX1_registers_33 mlm1_63 stM_max iniM cdM_max (by omega) (Nat.le_of_ble_eq_true rfl) ⟨by omega, by omega⟩ ⟨by omega, by omega⟩ (fun z20 g21 => ?_)
      refine tn_istore_n (L' := [(1, .int (iI z20)), (0, .ref a), (2, .int (iI c2)), (3, .int (iI i3))]) dX1_registers_36 rfl (by decide) rfl ?_
      refine tn_iinc (q0 := 3) (L' := [(3, .int (iI (i3 + 1))), (1, .int (iI z20)), (0, .ref a), (2, .int (iI c2))]) dX1_registers_37 rfl (by decide) rfl ?_
      refine tn_goto (tgt := 14) dX1_registers_40 (by decide) ?_
      exact tn_sub [2, 1, 3, 0] rfl (ih _ (by omega) (z20) (i3 + 1) (by omega) (by omega) rfl)
theorem dX1_registers_43 : decode cX1_registers 43 = .ok (.iinc 2 1, 3) := by decide +kernel
theorem dX1_registers_46 : decode cX1_registers 46 = .ok (.goto (-42), 3) := by decide +kernel
set_option maxRecDepth 20000 in
theorem l_X1_registers_4 (d : Nat) {T : CT} {σ : MS} {a : Nat} {post : Option Value → CT → MS → Prop} (h_a : OB T a 1) (hw : WT T σ) (hx_49 : ∀ (i1 : Int) (i2 : Int) , (-2147483648 ≤ i1 ∧ i1 ≤ 2147483647) → (0 ≤ i2 ∧ i2 ≤ 2147483647) → Tn (d + 4) m_X1_registers 49 T σ [(0, .ref a), (1, .int (iI i1)), (2, .int (iI i2))] [] post) : ∀ (n : Nat) (i1 : Int) (i2 : Int) , (-2147483648 ≤ i1 ∧ i1 ≤ 2147483647) → (0 ≤ i2 ∧ i2 ≤ 2147483647) → (2147483700 - i2).toNat = n → Tn (d + 4) m_X1_registers 4 T σ [(0, .ref a), (1, .int (iI i1)), (2, .int (iI i2))] [] post := by
  intro n
  induction n using Nat.strongRecOn with
  | _ n ih =>
    intro i1 i2 r_i1 r_i2 hm
    refine tn_iload_n dX1_registers_4 rfl 2 rfl ?_
    refine tn_aload_n dX1_registers_5 rfl 0 rfl ?_
    refine tn_getI (ci := 1) (i := 5) (n := 10) (t := σ.2.1 10 a) dX1_registers_6 rfl lay_1 (by decide) fl1_46 h_a rfl rfl (rfl) ?_
    have g1 : ((0 : Int) ≤ σ.2.1 10 a ∧ σ.2.1 10 a ≤ 12) := wf_10 hw h_a
    refine tn_icmp_ge (tgt := 49) dX1_registers_9 (by decide) ⟨by omega, by omega⟩ ⟨by omega, by omega⟩ (fun h2 => ?_) (fun h2 => ?_)
    · exact tn_sub [0, 1, 2] rfl (hx_49 (i1) (i2) (by omega) (by omega))
    · refine tn_iconst dX1_registers_12 ?_
      refine tn_istore_n (L' := [(3, .int (iI 0)), (0, .ref a), (1, .int (iI i1)), (2, .int (iI i2))]) dX1_registers_13 rfl (by decide) rfl ?_
      refine tn_sub [1, 2, 3, 0] rfl (l_X1_registers_14 (d) (T := T) (σ := σ) (a := a) (c2 := i2) h_a (by omega) hw (fun i13 i34 r10 r11 => ?_) _ (i1) (0) (by omega) (by omega) rfl)
      show Tn _ _ 43 T σ [(0, .ref a), (1, .int (iI i13)), (2, .int (iI i2)), (3, .int (iI i34))] [] _
      refine tn_iinc (q0 := 2) (L' := [(2, .int (iI (i2 + 1))), (0, .ref a), (1, .int (iI i13)), (3, .int (iI i34))]) dX1_registers_43 rfl (by decide) rfl ?_
      refine tn_goto (tgt := 4) dX1_registers_46 (by decide) ?_
      exact tn_sub [1, 2, 0] rfl (ih _ (by omega) (i13) (i2 + 1) (by omega) (by omega) rfl)
theorem ml1_113 : Cond.methodLink RX1 113 yX1_greatestIn ∈ pWW := pw4 (List.mem_of_getElem? (i := 79) rfl) rfl
theorem dX1_registers_49 : decode cX1_registers 49 = .ok (.iconst 0, 1) := by decide +kernel
theorem dX1_registers_50 : decode cX1_registers 50 = .ok (.istore_n 2, 1) := by decide +kernel
theorem dX1_registers_51 : decode cX1_registers 51 = .ok (.iload_n 2, 1) := by decide +kernel
theorem dX1_registers_52 : decode cX1_registers 52 = .ok (.aload_n 0, 1) := by decide +kernel
theorem dX1_registers_53 : decode cX1_registers 53 = .ok (.getfield 33, 3) := by decide +kernel
theorem dX1_registers_56 : decode cX1_registers 56 = .ok (.if_icmp .ge 19, 3) := by decide +kernel
theorem dX1_registers_59 : decode cX1_registers 59 = .ok (.iload_n 1, 1) := by decide +kernel
theorem dX1_registers_60 : decode cX1_registers 60 = .ok (.aload_n 0, 1) := by decide +kernel
theorem dX1_registers_61 : decode cX1_registers 61 = .ok (.iload_n 2, 1) := by decide +kernel
theorem dX1_registers_62 : decode cX1_registers 62 = .ok (.invokevirtual 113, 3) := by decide +kernel
theorem dX1_registers_65 : decode cX1_registers 65 = .ok (.invokestatic 63, 3) := by decide +kernel
theorem dX1_registers_68 : decode cX1_registers 68 = .ok (.istore_n 1, 1) := by decide +kernel
theorem dX1_registers_69 : decode cX1_registers 69 = .ok (.iinc 2 1, 3) := by decide +kernel
theorem dX1_registers_72 : decode cX1_registers 72 = .ok (.goto (-21), 3) := by decide +kernel
set_option maxRecDepth 20000 in
theorem l_X1_registers_51 (d : Nat) {T : CT} {σ : MS} {a : Nat} {post : Option Value → CT → MS → Prop} (h_a : OB T a 1) (hw : WT T σ) (hx_75 : ∀ (i1 : Int) (i2 : Int) , (-2147483648 ≤ i1 ∧ i1 ≤ 2147483647) → (0 ≤ i2 ∧ i2 ≤ 2147483647) → Tn (d + 4) m_X1_registers 75 T σ [(0, .ref a), (1, .int (iI i1)), (2, .int (iI i2))] [] post) : ∀ (n : Nat) (i1 : Int) (i2 : Int) , (-2147483648 ≤ i1 ∧ i1 ≤ 2147483647) → (0 ≤ i2 ∧ i2 ≤ 2147483647) → (2147483700 - i2).toNat = n → Tn (d + 4) m_X1_registers 51 T σ [(0, .ref a), (1, .int (iI i1)), (2, .int (iI i2))] [] post := by
  intro n
  induction n using Nat.strongRecOn with
  | _ n ih =>
    intro i1 i2 r_i1 r_i2 hm
    refine tn_iload_n dX1_registers_51 rfl 2 rfl ?_
    refine tn_aload_n dX1_registers_52 rfl 0 rfl ?_
    refine tn_getI (ci := 1) (i := 1) (n := 6) (t := σ.2.1 6 a) dX1_registers_53 rfl lay_1 (by decide) fl1_33 h_a rfl rfl (rfl) ?_
    have g1 : ((0 : Int) ≤ σ.2.1 6 a ∧ σ.2.1 6 a ≤ 5000) ∧ ((T a).1 = 50 → σ.2.1 6 a ≤ 200) := wf_6 hw h_a
    have g1x := g1.2
    replace g1 := g1.1
    clear g1x
    refine tn_icmp_ge (tgt := 75) dX1_registers_56 (by decide) ⟨by omega, by omega⟩ ⟨by omega, by omega⟩ (fun h2 => ?_) (fun h2 => ?_)
    · exact tn_sub [0, 1, 2] rfl (hx_75 (i1) (i2) (by omega) (by omega))
    · refine tn_iload_n dX1_registers_59 rfl 1 rfl ?_
      refine tn_aload_n dX1_registers_60 rfl 0 rfl ?_
      refine tn_iload_n dX1_registers_61 rfl 2 rfl ?_
      refine tn_callV (M := m_X1_registers) (pc := 62) (ix := 113) (ci := 1) (M' := m_X1_greatestIn) (As := [.int (iI i2)]) (rest := [.int (iI i1)]) dX1_registers_62 ok_X1_greatestIn im_X1_greatestIn se_X1_greatestIn ml1_113 np_X1_greatestIn rfl rfl h_a rfl (Nat.le_of_ble_eq_true rfl) (Nat.le_of_ble_eq_true rfl) rfl (k_X1_greatestIn (d) (T := T) (σ := σ) (a := a) (k := i2) h_a (by omega) hw ) (fun r3 T5 σ4 gt6 hp => ?_)
      obtain ⟨v8, rfl, rfl, rfl, f7⟩ := hp
      clear gt6
      show Tn _ _ 65 T σ [(0, .ref a), (1, .int (iI i1)), (2, .int (iI i2))] [.int (iI v8), .int (iI i1)] _
      refine tn_mmax (x := i1) (y := v8) dX1_registers_65 mlm1_63 stM_max iniM cdM_max (by omega) (Nat.le_of_ble_eq_true rfl) ⟨by omega, by omega⟩ ⟨by omega, by omega⟩ (fun z9 g10 => ?_)
      refine tn_istore_n (L' := [(1, .int (iI z9)), (0, .ref a), (2, .int (iI i2))]) dX1_registers_68 rfl (by decide) rfl ?_
      refine tn_iinc (q0 := 2) (L' := [(2, .int (iI (i2 + 1))), (1, .int (iI z9)), (0, .ref a)]) dX1_registers_69 rfl (by decide) rfl ?_
      refine tn_goto (tgt := 51) dX1_registers_72 (by decide) ?_
      exact tn_sub [2, 1, 0] rfl (ih _ (by omega) (z9) (i2 + 1) (by omega) (by omega) rfl)
theorem dX1_registers_75 : decode cX1_registers 75 = .ok (.iload_n 1, 1) := by decide +kernel
theorem dX1_registers_76 : decode cX1_registers 76 = .ok (.iconst 1, 1) := by decide +kernel
theorem dX1_registers_77 : decode cX1_registers 77 = .ok (.iadd, 1) := by decide +kernel
theorem dX1_registers_78 : decode cX1_registers 78 = .ok (.ireturn, 1) := by decide +kernel
set_option maxRecDepth 20000 in
theorem k_X1_registers (d : Nat) {T : CT} {σ : MS} {a : Nat} (ha : OB T a 1) (hw : WT T σ) : Tn (d + 4) m_X1_registers 0 T σ [(0, .ref a)] [] (fun ro T2 σ2 => ∃ v : Int, ro = some (.int (iI v)) ∧ T = T2 ∧ σ = σ2 ∧ (-2147483648 ≤ v ∧ v ≤ 2147483647)) := by
  refine tn_iconst dX1_registers_0 ?_
  refine tn_istore_n (L' := [(1, .int (iI (-1))), (0, .ref a)]) dX1_registers_1 rfl (by decide) rfl ?_
  refine tn_iconst dX1_registers_2 ?_
  refine tn_istore_n (L' := [(2, .int (iI 0)), (1, .int (iI (-1))), (0, .ref a)]) dX1_registers_3 rfl (by decide) rfl ?_
  refine tn_sub [2, 1, 0] rfl (l_X1_registers_4 (d) (T := T) (σ := σ) (a := a) ha hw (fun i11 i22 r8 r9 => ?_) _ (-1) (0) (by omega) (by omega) rfl)
  show Tn _ _ 49 T σ [(0, .ref a), (1, .int (iI i11)), (2, .int (iI i22))] [] _
  refine tn_iconst dX1_registers_49 ?_
  refine tn_istore_n (L' := [(2, .int (iI 0)), (0, .ref a), (1, .int (iI i11))]) dX1_registers_50 rfl (by decide) rfl ?_
  refine tn_sub [1, 2, 0] rfl (l_X1_registers_51 (d) (T := T) (σ := σ) (a := a) ha hw (fun i110 i211 r17 r18 => ?_) _ (i11) (0) (by omega) (by omega) rfl)
  show Tn _ _ 75 T σ [(0, .ref a), (1, .int (iI i110)), (2, .int (iI i211))] [] _
  refine tn_iload_n dX1_registers_75 rfl 1 rfl ?_
  refine tn_iconst dX1_registers_76 ?_
  refine tn_iadd dX1_registers_77 ?_
  refine tn_any (fun z19 g20 => ?_)
  have g20r : -2147483648 ≤ z19 ∧ z19 ≤ 2147483647 := g20
  exact tn_iret rfl dX1_registers_78 ⟨_, rfl, rfl, rfl, by omega⟩
