theorem cd_X1_greatestIn : Cond.code yX1_greatestIn cX1_greatestIn 4 (some .int) ∈ pWW := pw4 (List.mem_of_getElem? (i := 82) rfl) rfl
abbrev m_X1_greatestIn : MT := (yX1_greatestIn, cX1_greatestIn, 4, (some .int))
theorem ok_X1_greatestIn : pOk m_X1_greatestIn := ⟨⟨cd_X1_greatestIn, ini_1⟩, by decide +kernel, ⟨by decide +kernel, by decide +kernel⟩, Nat.le_of_ble_eq_true rfl⟩
theorem np_X1_greatestIn : (parseMethodDescriptor yX1_greatestIn.desc).map (fun d => d.parameters.length) = some 1 := by decide +kernel
theorem im_X1_greatestIn : Cond.instanceMethod yX1_greatestIn ∈ pWW := pw4 (List.mem_of_getElem? (i := 81) rfl) rfl
theorem se_X1_greatestIn : Cond.selects RX1 yX1_greatestIn yX1_greatestIn ∈ pWW := pws (List.mem_map.mpr ⟨_, lw_pin 38 rfl, rfl⟩) rfl
theorem ml1_116 : Cond.methodLink RX1 116 yX1_writtenBy ∈ pWW := pw4 (List.mem_of_getElem? (i := 83) rfl) rfl
theorem mlm1_63 : Cond.methodLink RX1 63 Lib.Math.max.name ∈ pWW := pw4 (List.mem_of_getElem? (i := 40) rfl) rfl
theorem dX1_greatestIn_0 : decode cX1_greatestIn 0 = .ok (.aload_n 0, 1) := by decide +kernel
theorem dX1_greatestIn_1 : decode cX1_greatestIn 1 = .ok (.iload_n 1, 1) := by decide +kernel
theorem dX1_greatestIn_2 : decode cX1_greatestIn 2 = .ok (.invokevirtual 116, 3) := by decide +kernel
theorem dX1_greatestIn_5 : decode cX1_greatestIn 5 = .ok (.istore_n 2, 1) := by decide +kernel
theorem dX1_greatestIn_6 : decode cX1_greatestIn 6 = .ok (.aload_n 0, 1) := by decide +kernel
theorem dX1_greatestIn_7 : decode cX1_greatestIn 7 = .ok (.iload_n 1, 1) := by decide +kernel
theorem dX1_greatestIn_8 : decode cX1_greatestIn 8 = .ok (.iconst 0, 1) := by decide +kernel
theorem dX1_greatestIn_9 : decode cX1_greatestIn 9 = .ok (.invokevirtual 86, 3) := by decide +kernel
theorem dX1_greatestIn_12 : decode cX1_greatestIn 12 = .ok (.bipush 12, 2) := by decide +kernel
theorem dX1_greatestIn_14 : decode cX1_greatestIn 14 = .ok (.if_icmp .ne 21, 3) := by decide +kernel
theorem dX1_greatestIn_35 : decode cX1_greatestIn 35 = .ok (.iconst 3, 1) := by decide +kernel
theorem dX1_greatestIn_36 : decode cX1_greatestIn 36 = .ok (.istore_n 3, 1) := by decide +kernel
theorem dX1_greatestIn_37 : decode cX1_greatestIn 37 = .ok (.iload_n 3, 1) := by decide +kernel
theorem dX1_greatestIn_38 : decode cX1_greatestIn 38 = .ok (.bipush 11, 2) := by decide +kernel
theorem dX1_greatestIn_40 : decode cX1_greatestIn 40 = .ok (.if_icmp .ge 32, 3) := by decide +kernel
theorem dX1_greatestIn_43 : decode cX1_greatestIn 43 = .ok (.aload_n 0, 1) := by decide +kernel
theorem dX1_greatestIn_44 : decode cX1_greatestIn 44 = .ok (.iload_n 1, 1) := by decide +kernel
theorem dX1_greatestIn_45 : decode cX1_greatestIn 45 = .ok (.iload_n 3, 1) := by decide +kernel
theorem dX1_greatestIn_46 : decode cX1_greatestIn 46 = .ok (.invokevirtual 86, 3) := by decide +kernel
theorem dX1_greatestIn_49 : decode cX1_greatestIn 49 = .ok (.iconst 2, 1) := by decide +kernel
theorem dX1_greatestIn_50 : decode cX1_greatestIn 50 = .ok (.if_icmp .ne 16, 3) := by decide +kernel
theorem dX1_greatestIn_66 : decode cX1_greatestIn 66 = .ok (.iinc 3 2, 3) := by decide +kernel
theorem dX1_greatestIn_69 : decode cX1_greatestIn 69 = .ok (.goto (-32), 3) := by decide +kernel
theorem dX1_greatestIn_53 : decode cX1_greatestIn 53 = .ok (.iload_n 2, 1) := by decide +kernel
theorem dX1_greatestIn_54 : decode cX1_greatestIn 54 = .ok (.aload_n 0, 1) := by decide +kernel
theorem dX1_greatestIn_55 : decode cX1_greatestIn 55 = .ok (.iload_n 1, 1) := by decide +kernel
theorem dX1_greatestIn_56 : decode cX1_greatestIn 56 = .ok (.iload_n 3, 1) := by decide +kernel
theorem dX1_greatestIn_57 : decode cX1_greatestIn 57 = .ok (.iconst 1, 1) := by decide +kernel
theorem dX1_greatestIn_58 : decode cX1_greatestIn 58 = .ok (.iadd, 1) := by decide +kernel
theorem dX1_greatestIn_59 : decode cX1_greatestIn 59 = .ok (.invokevirtual 86, 3) := by decide +kernel
theorem dX1_greatestIn_62 : decode cX1_greatestIn 62 = .ok (.invokestatic 63, 3) := by decide +kernel
theorem dX1_greatestIn_65 : decode cX1_greatestIn 65 = .ok (.istore_n 2, 1) := by decide +kernel
set_option maxRecDepth 20000 in
theorem l_X1_greatestIn_37 (d : Nat) {T : CT} {σ : MS} {a : Nat} {c1 : Int} {post : Option Value → CT → MS → Prop} (h_a : OB T a 1) (r_c1 : -2147483648 ≤ c1 ∧ c1 ≤ 2147483647) (hw : WT T σ) (hx_72 : ∀ (i2 : Int) (i3 : Int) , (-2147483648 ≤ i2 ∧ i2 ≤ 2147483647) → (3 ≤ i3 ∧ i3 ≤ 2147483647) → Tn (d + 3) m_X1_greatestIn 72 T σ [(0, .ref a), (1, .int (iI c1)), (2, .int (iI i2)), (3, .int (iI i3))] [] post) : ∀ (n : Nat) (i2 : Int) (i3 : Int) , (-2147483648 ≤ i2 ∧ i2 ≤ 2147483647) → (3 ≤ i3 ∧ i3 ≤ 2147483647) → (2147483700 - i3).toNat = n → Tn (d + 3) m_X1_greatestIn 37 T σ [(0, .ref a), (1, .int (iI c1)), (2, .int (iI i2)), (3, .int (iI i3))] [] post := by
  intro n
  induction n using Nat.strongRecOn with
  | _ n ih =>
    intro i2 i3 r_i2 r_i3 hm
    refine tn_iload_n dX1_greatestIn_37 rfl 3 rfl ?_
    refine tn_bipush dX1_greatestIn_38 (by decide) ?_
    refine tn_icmp_ge (tgt := 72) dX1_greatestIn_40 (by decide) ⟨by omega, by omega⟩ ⟨by decide, by decide⟩ (fun h1 => ?_) (fun h1 => ?_)
    · exact tn_sub [0, 1, 2, 3] rfl (hx_72 (i2) (i3) (by omega) (by omega))
    · refine tn_aload_n dX1_greatestIn_43 rfl 0 rfl ?_
      refine tn_iload_n dX1_greatestIn_44 rfl 1 rfl ?_
      refine tn_iload_n dX1_greatestIn_45 rfl 3 rfl ?_
      refine tn_callV (M := m_X1_greatestIn) (pc := 46) (ix := 86) (ci := 1) (M' := m_X1_get) (As := [.int (iI c1), .int (iI i3)]) (rest := []) dX1_greatestIn_46 ok_X1_get im_X1_get se_X1_get ml1_86 np_X1_get rfl rfl h_a rfl (Nat.le_of_ble_eq_true rfl) (Nat.le_of_ble_eq_true rfl) rfl (k_X1_get (d + 1) (T := T) (σ := σ) (a := a) (k := c1) (c := i3) h_a (by omega) (by omega) hw (by omega)) (fun r2 T4 σ3 gt5 hp => ?_)
      obtain ⟨v7, rfl, rfl, rfl, f6⟩ := hp
      clear gt5
      show Tn _ _ 49 T σ [(0, .ref a), (1, .int (iI c1)), (2, .int (iI i2)), (3, .int (iI i3))] [.int (iI v7)] _
      refine tn_iconst dX1_greatestIn_49 ?_
      refine tn_icmp_ne (tgt := 66) dX1_greatestIn_50 (by decide) ⟨by omega, by omega⟩ ⟨by decide, by decide⟩ (fun h8 => ?_) (fun h8 => ?_)
      · refine tn_iinc (q0 := 3) (L' := [(3, .int (iI (i3 + 2))), (0, .ref a), (1, .int (iI c1)), (2, .int (iI i2))]) dX1_greatestIn_66 rfl (by decide) rfl ?_
        refine tn_goto (tgt := 37) dX1_greatestIn_69 (by decide) ?_
        exact tn_sub [1, 2, 3, 0] rfl (ih _ (by omega) (i2) (i3 + 2) (by omega) (by omega) rfl)
      · refine tn_iload_n dX1_greatestIn_53 rfl 2 rfl ?_
        refine tn_aload_n dX1_greatestIn_54 rfl 0 rfl ?_
        refine tn_iload_n dX1_greatestIn_55 rfl 1 rfl ?_
        refine tn_iload_n dX1_greatestIn_56 rfl 3 rfl ?_
        refine tn_iconst dX1_greatestIn_57 ?_
        refine tn_iadd dX1_greatestIn_58 ?_
        refine tn_callV (M := m_X1_greatestIn) (pc := 59) (ix := 86) (ci := 1) (M' := m_X1_get) (As := [.int (iI c1), .int (iI (i3 + 1))]) (rest := [.int (iI i2)]) dX1_greatestIn_59 ok_X1_get im_X1_get se_X1_get ml1_86 np_X1_get rfl rfl h_a rfl (Nat.le_of_ble_eq_true rfl) (Nat.le_of_ble_eq_true rfl) rfl (k_X1_get (d + 1) (T := T) (σ := σ) (a := a) (k := c1) (c := i3 + 1) h_a (by omega) (by omega) hw (by omega)) (fun r9 T11 σ10 gt12 hp => ?_)
        obtain ⟨v14, rfl, rfl, rfl, f13⟩ := hp
        clear gt12
        show Tn _ _ 62 T σ [(0, .ref a), (1, .int (iI c1)), (2, .int (iI i2)), (3, .int (iI i3))] [.int (iI v14), .int (iI i2)] _
        refine tn_mmax (x := i2) (y := v14) dX1_greatestIn_62 mlm1_63 stM_max iniM cdM_max (by omega) (Nat.le_of_ble_eq_true rfl) ⟨by omega, by omega⟩ ⟨by omega, by omega⟩ (fun z15 g16 => ?_)
        refine tn_istore_n (L' := [(2, .int (iI z15)), (0, .ref a), (1, .int (iI c1)), (3, .int (iI i3))]) dX1_greatestIn_65 rfl (by decide) rfl ?_
        refine tn_iinc (q0 := 3) (L' := [(3, .int (iI (i3 + 2))), (2, .int (iI z15)), (0, .ref a), (1, .int (iI c1))]) dX1_greatestIn_66 rfl (by decide) rfl ?_
        refine tn_goto (tgt := 37) dX1_greatestIn_69 (by decide) ?_
        exact tn_sub [2, 3, 1, 0] rfl (ih _ (by omega) (z15) (i3 + 2) (by omega) (by omega) rfl)
theorem dX1_greatestIn_72 : decode cX1_greatestIn 72 = .ok (.iload_n 2, 1) := by decide +kernel
theorem dX1_greatestIn_73 : decode cX1_greatestIn 73 = .ok (.ireturn, 1) := by decide +kernel
theorem dX1_greatestIn_17 : decode cX1_greatestIn 17 = .ok (.aload_n 0, 1) := by decide +kernel
theorem dX1_greatestIn_18 : decode cX1_greatestIn 18 = .ok (.iload_n 1, 1) := by decide +kernel
theorem dX1_greatestIn_19 : decode cX1_greatestIn 19 = .ok (.bipush 11, 2) := by decide +kernel
theorem dX1_greatestIn_21 : decode cX1_greatestIn 21 = .ok (.invokevirtual 86, 3) := by decide +kernel
theorem dX1_greatestIn_24 : decode cX1_greatestIn 24 = .ok (.iconst 2, 1) := by decide +kernel
theorem dX1_greatestIn_25 : decode cX1_greatestIn 25 = .ok (.if_icmp .ne 10, 3) := by decide +kernel
theorem dX1_greatestIn_28 : decode cX1_greatestIn 28 = .ok (.aload_n 0, 1) := by decide +kernel
theorem dX1_greatestIn_29 : decode cX1_greatestIn 29 = .ok (.iload_n 1, 1) := by decide +kernel
theorem dX1_greatestIn_30 : decode cX1_greatestIn 30 = .ok (.iconst 4, 1) := by decide +kernel
theorem dX1_greatestIn_31 : decode cX1_greatestIn 31 = .ok (.invokevirtual 86, 3) := by decide +kernel
theorem dX1_greatestIn_34 : decode cX1_greatestIn 34 = .ok (.ireturn, 1) := by decide +kernel
set_option maxRecDepth 20000 in
theorem k_X1_greatestIn (d : Nat) {T : CT} {σ : MS} {a : Nat} {k : Int} (ha : OB T a 1) (h_k : -2147483648 ≤ k ∧ k ≤ 2147483647) (hw : WT T σ) : Tn (d + 3) m_X1_greatestIn 0 T σ [(0, .ref a), (1, .int (iI k))] [] (fun ro T2 σ2 => ∃ v : Int, ro = some (.int (iI v)) ∧ T = T2 ∧ σ = σ2 ∧ (-2147483648 ≤ v ∧ v ≤ 2147483647)) := by
  refine tn_aload_n dX1_greatestIn_0 rfl 0 rfl ?_
  refine tn_iload_n dX1_greatestIn_1 rfl 1 rfl ?_
  refine tn_callV (M := m_X1_greatestIn) (pc := 2) (ix := 116) (ci := 1) (M' := m_X1_writtenBy) (As := [.int (iI k)]) (rest := []) dX1_greatestIn_2 ok_X1_writtenBy im_X1_writtenBy se_X1_writtenBy ml1_116 np_X1_writtenBy rfl rfl ha rfl (Nat.le_of_ble_eq_true rfl) (Nat.le_of_ble_eq_true rfl) rfl (k_X1_writtenBy (d) (T := T) (σ := σ) (a := a) (k := k) ha (by omega) hw ) (fun r1 T3 σ2 gt4 hp => ?_)
  obtain ⟨v6, rfl, rfl, rfl, f5⟩ := hp
  clear gt4
  show Tn _ _ 5 T σ [(0, .ref a), (1, .int (iI k))] [.int (iI v6)] _
  refine tn_istore_n (L' := [(2, .int (iI v6)), (0, .ref a), (1, .int (iI k))]) dX1_greatestIn_5 rfl (by decide) rfl ?_
  refine tn_aload_n dX1_greatestIn_6 rfl 1 rfl ?_
  refine tn_iload_n dX1_greatestIn_7 rfl 2 rfl ?_
  refine tn_iconst dX1_greatestIn_8 ?_
  refine tn_callV (M := m_X1_greatestIn) (pc := 9) (ix := 86) (ci := 1) (M' := m_X1_get) (As := [.int (iI k), .int (iI 0)]) (rest := []) dX1_greatestIn_9 ok_X1_get im_X1_get se_X1_get ml1_86 np_X1_get rfl rfl ha rfl (Nat.le_of_ble_eq_true rfl) (Nat.le_of_ble_eq_true rfl) rfl (k_X1_get (d + 1) (T := T) (σ := σ) (a := a) (k := k) (c := 0) ha (by omega) (by decide) hw (by omega)) (fun r7 T9 σ8 gt10 hp => ?_)
  obtain ⟨v12, rfl, rfl, rfl, f11⟩ := hp
  clear gt10
  show Tn _ _ 12 T σ [(2, .int (iI v6)), (0, .ref a), (1, .int (iI k))] [.int (iI v12)] _
  refine tn_bipush dX1_greatestIn_12 (by decide) ?_
  refine tn_icmp_ne (tgt := 35) dX1_greatestIn_14 (by decide) ⟨by omega, by omega⟩ ⟨by decide, by decide⟩ (fun h13 => ?_) (fun h13 => ?_)
  · refine tn_iconst dX1_greatestIn_35 ?_
    refine tn_istore_n (L' := [(3, .int (iI 3)), (2, .int (iI v6)), (0, .ref a), (1, .int (iI k))]) dX1_greatestIn_36 rfl (by decide) rfl ?_
    refine tn_sub [2, 3, 1, 0] rfl (l_X1_greatestIn_37 (d) (T := T) (σ := σ) (a := a) (c1 := k) ha (by omega) hw (fun i214 i315 r21 r22 => ?_) _ (v6) (3) (by omega) (by omega) rfl)
    show Tn _ _ 72 T σ [(0, .ref a), (1, .int (iI k)), (2, .int (iI i214)), (3, .int (iI i315))] [] _
    refine tn_iload_n dX1_greatestIn_72 rfl 2 rfl ?_
    exact tn_iret rfl dX1_greatestIn_73 ⟨_, rfl, rfl, rfl, by omega⟩
  · refine tn_aload_n dX1_greatestIn_17 rfl 1 rfl ?_
    refine tn_iload_n dX1_greatestIn_18 rfl 2 rfl ?_
    refine tn_bipush dX1_greatestIn_19 (by decide) ?_
    refine tn_callV (M := m_X1_greatestIn) (pc := 21) (ix := 86) (ci := 1) (M' := m_X1_get) (As := [.int (iI k), .int (iI 11)]) (rest := []) dX1_greatestIn_21 ok_X1_get im_X1_get se_X1_get ml1_86 np_X1_get rfl rfl ha rfl (Nat.le_of_ble_eq_true rfl) (Nat.le_of_ble_eq_true rfl) rfl (k_X1_get (d + 1) (T := T) (σ := σ) (a := a) (k := k) (c := 11) ha (by omega) (by decide) hw (by omega)) (fun r23 T25 σ24 gt26 hp => ?_)
    obtain ⟨v28, rfl, rfl, rfl, f27⟩ := hp
    clear gt26
    show Tn _ _ 24 T σ [(2, .int (iI v6)), (0, .ref a), (1, .int (iI k))] [.int (iI v28)] _
    refine tn_iconst dX1_greatestIn_24 ?_
    refine tn_icmp_ne (tgt := 35) dX1_greatestIn_25 (by decide) ⟨by omega, by omega⟩ ⟨by decide, by decide⟩ (fun h29 => ?_) (fun h29 => ?_)
    · refine tn_iconst dX1_greatestIn_35 ?_
      refine tn_istore_n (L' := [(3, .int (iI 3)), (2, .int (iI v6)), (0, .ref a), (1, .int (iI k))]) dX1_greatestIn_36 rfl (by decide) rfl ?_
      refine tn_sub [2, 3, 1, 0] rfl (l_X1_greatestIn_37 (d) (T := T) (σ := σ) (a := a) (c1 := k) ha (by omega) hw (fun i230 i331 r37 r38 => ?_) _ (v6) (3) (by omega) (by omega) rfl)
      show Tn _ _ 72 T σ [(0, .ref a), (1, .int (iI k)), (2, .int (iI i230)), (3, .int (iI i331))] [] _
      refine tn_iload_n dX1_greatestIn_72 rfl 2 rfl ?_
      exact tn_iret rfl dX1_greatestIn_73 ⟨_, rfl, rfl, rfl, by omega⟩
    · refine tn_aload_n dX1_greatestIn_28 rfl 1 rfl ?_
      refine tn_iload_n dX1_greatestIn_29 rfl 2 rfl ?_
      refine tn_iconst dX1_greatestIn_30 ?_
      refine tn_callV (M := m_X1_greatestIn) (pc := 31) (ix := 86) (ci := 1) (M' := m_X1_get) (As := [.int (iI k), .int (iI 4)]) (rest := []) dX1_greatestIn_31 ok_X1_get im_X1_get se_X1_get ml1_86 np_X1_get rfl rfl ha rfl (Nat.le_of_ble_eq_true rfl) (Nat.le_of_ble_eq_true rfl) rfl (k_X1_get (d + 1) (T := T) (σ := σ) (a := a) (k := k) (c := 4) ha (by omega) (by decide) hw (by omega)) (fun r39 T41 σ40 gt42 hp => ?_)
      obtain ⟨v44, rfl, rfl, rfl, f43⟩ := hp
      clear gt42
      show Tn _ _ 34 T σ [(2, .int (iI v6)), (0, .ref a), (1, .int (iI k))] [.int (iI v44)] _
      exact tn_iret rfl dX1_greatestIn_34 ⟨_, rfl, rfl, rfl, by omega⟩
