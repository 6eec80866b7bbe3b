theorem cd_X5_numberNew : Cond.code yX5_numberNew cX5_numberNew 3 none ∈ pWW := pw3 (List.mem_of_getElem? (i := 233) rfl) rfl
abbrev m_X5_numberNew : MT := (yX5_numberNew, cX5_numberNew, 3, none)
theorem ok_X5_numberNew : pOk m_X5_numberNew := ⟨⟨cd_X5_numberNew, ini_5⟩, by decide +kernel, ⟨by decide +kernel, by decide +kernel⟩, Nat.le_of_ble_eq_true rfl⟩
theorem np_X5_numberNew : (parseMethodDescriptor yX5_numberNew.desc).map (fun d => d.parameters.length) = some 1 := by decide +kernel
theorem im_X5_numberNew : Cond.instanceMethod yX5_numberNew ∈ pWW := pw3 (List.mem_of_getElem? (i := 232) rfl) rfl
theorem se_X5_numberNew : Cond.selects RX5 yX5_numberNew yX5_numberNew ∈ pWW := pws (List.mem_map.mpr ⟨_, lw_pin 32 rfl, rfl⟩) rfl
theorem ml5_161 : Cond.methodLink RX5 161 yX1_writtenBy ∈ pWW := pw3 (List.mem_of_getElem? (i := 234) rfl) rfl
theorem ml5_164 : Cond.methodLink RX5 164 yX1_get ∈ pWW := pw4 (List.mem_of_getElem? (i := 9) rfl) rfl
theorem ml5_167 : Cond.methodLink RX5 167 yX1_set ∈ pWW := pw4 (List.mem_of_getElem? (i := 10) rfl) rfl
theorem dX5_numberNew_0 : decode cX5_numberNew 0 = .ok (.aload_n 0, 1) := by decide +kernel
theorem dX5_numberNew_1 : decode cX5_numberNew 1 = .ok (.getfield 47, 3) := by decide +kernel
theorem dX5_numberNew_4 : decode cX5_numberNew 4 = .ok (.iload_n 1, 1) := by decide +kernel
theorem dX5_numberNew_5 : decode cX5_numberNew 5 = .ok (.invokevirtual 161, 3) := by decide +kernel
theorem dX5_numberNew_8 : decode cX5_numberNew 8 = .ok (.sipush 1000, 3) := by decide +kernel
theorem dX5_numberNew_11 : decode cX5_numberNew 11 = .ok (.if_icmp .lt 33, 3) := by decide +kernel
theorem dX5_numberNew_44 : decode cX5_numberNew 44 = .ok (.iconst 3, 1) := by decide +kernel
theorem dX5_numberNew_45 : decode cX5_numberNew 45 = .ok (.istore_n 2, 1) := by decide +kernel
theorem dX5_numberNew_46 : decode cX5_numberNew 46 = .ok (.iload_n 2, 1) := by decide +kernel
theorem dX5_numberNew_47 : decode cX5_numberNew 47 = .ok (.bipush 11, 2) := by decide +kernel
theorem dX5_numberNew_49 : decode cX5_numberNew 49 = .ok (.if_icmp .ge 73, 3) := by decide +kernel
theorem dX5_numberNew_52 : decode cX5_numberNew 52 = .ok (.aload_n 0, 1) := by decide +kernel
theorem dX5_numberNew_53 : decode cX5_numberNew 53 = .ok (.getfield 47, 3) := by decide +kernel
theorem dX5_numberNew_56 : decode cX5_numberNew 56 = .ok (.iload_n 1, 1) := by decide +kernel
theorem dX5_numberNew_57 : decode cX5_numberNew 57 = .ok (.iload_n 2, 1) := by decide +kernel
theorem dX5_numberNew_58 : decode cX5_numberNew 58 = .ok (.invokevirtual 164, 3) := by decide +kernel
theorem dX5_numberNew_61 : decode cX5_numberNew 61 = .ok (.iconst 2, 1) := by decide +kernel
theorem dX5_numberNew_62 : decode cX5_numberNew 62 = .ok (.if_icmp .ne 54, 3) := by decide +kernel
theorem dX5_numberNew_116 : decode cX5_numberNew 116 = .ok (.iinc 2 2, 3) := by decide +kernel
theorem dX5_numberNew_119 : decode cX5_numberNew 119 = .ok (.goto (-73), 3) := by decide +kernel
theorem dX5_numberNew_65 : decode cX5_numberNew 65 = .ok (.aload_n 0, 1) := by decide +kernel
theorem dX5_numberNew_66 : decode cX5_numberNew 66 = .ok (.getfield 47, 3) := by decide +kernel
theorem dX5_numberNew_69 : decode cX5_numberNew 69 = .ok (.iload_n 1, 1) := by decide +kernel
theorem dX5_numberNew_70 : decode cX5_numberNew 70 = .ok (.iload_n 2, 1) := by decide +kernel
theorem dX5_numberNew_71 : decode cX5_numberNew 71 = .ok (.iconst 1, 1) := by decide +kernel
theorem dX5_numberNew_72 : decode cX5_numberNew 72 = .ok (.iadd, 1) := by decide +kernel
theorem dX5_numberNew_73 : decode cX5_numberNew 73 = .ok (.invokevirtual 164, 3) := by decide +kernel
theorem dX5_numberNew_76 : decode cX5_numberNew 76 = .ok (.sipush 1000, 3) := by decide +kernel
theorem dX5_numberNew_79 : decode cX5_numberNew 79 = .ok (.if_icmp .lt 37, 3) := by decide +kernel
theorem dX5_numberNew_82 : decode cX5_numberNew 82 = .ok (.aload_n 0, 1) := by decide +kernel
theorem dX5_numberNew_83 : decode cX5_numberNew 83 = .ok (.getfield 47, 3) := by decide +kernel
theorem dX5_numberNew_86 : decode cX5_numberNew 86 = .ok (.iload_n 1, 1) := by decide +kernel
theorem dX5_numberNew_87 : decode cX5_numberNew 87 = .ok (.iload_n 2, 1) := by decide +kernel
theorem dX5_numberNew_88 : decode cX5_numberNew 88 = .ok (.iconst 1, 1) := by decide +kernel
theorem dX5_numberNew_89 : decode cX5_numberNew 89 = .ok (.iadd, 1) := by decide +kernel
theorem dX5_numberNew_90 : decode cX5_numberNew 90 = .ok (.aload_n 0, 1) := by decide +kernel
theorem dX5_numberNew_91 : decode cX5_numberNew 91 = .ok (.getfield 47, 3) := by decide +kernel
theorem dX5_numberNew_94 : decode cX5_numberNew 94 = .ok (.iload_n 1, 1) := by decide +kernel
theorem dX5_numberNew_95 : decode cX5_numberNew 95 = .ok (.iload_n 2, 1) := by decide +kernel
theorem dX5_numberNew_96 : decode cX5_numberNew 96 = .ok (.iconst 1, 1) := by decide +kernel
theorem dX5_numberNew_97 : decode cX5_numberNew 97 = .ok (.iadd, 1) := by decide +kernel
theorem dX5_numberNew_98 : decode cX5_numberNew 98 = .ok (.invokevirtual 164, 3) := by decide +kernel
theorem dX5_numberNew_101 : decode cX5_numberNew 101 = .ok (.sipush 1000, 3) := by decide +kernel
theorem dX5_numberNew_104 : decode cX5_numberNew 104 = .ok (.isub, 1) := by decide +kernel
theorem dX5_numberNew_105 : decode cX5_numberNew 105 = .ok (.aload_n 0, 1) := by decide +kernel
theorem dX5_numberNew_106 : decode cX5_numberNew 106 = .ok (.getfield 47, 3) := by decide +kernel
theorem dX5_numberNew_109 : decode cX5_numberNew 109 = .ok (.getfield 152, 3) := by decide +kernel
theorem dX5_numberNew_112 : decode cX5_numberNew 112 = .ok (.iadd, 1) := by decide +kernel
theorem dX5_numberNew_113 : decode cX5_numberNew 113 = .ok (.invokevirtual 167, 3) := by decide +kernel
set_option maxRecDepth 20000 in
theorem l_X5_numberNew_46 (d : Nat) {T : CT} {σ0 : MS} {a : Nat} {c1 : Int} {post : Option Value → CT → MS → Prop} (h_a : OB T a 5) (r_c1 : -2147483648 ≤ c1 ∧ c1 ≤ 2147483647) (hw0 : WT T σ0) (hx_122 : ∀ (i2 : Int) (σ : MS) , (WT T σ) → (FrC T [] σ0 σ) → (3 ≤ i2 ∧ i2 ≤ 2147483647) → Tn (d + 3) m_X5_numberNew 122 T σ [(0, .ref a), (1, .int (iI c1)), (2, .int (iI i2))] [] post) : ∀ (n : Nat) (i2 : Int) (σ : MS) , (WT T σ) → (FrC T [] σ0 σ) → (3 ≤ i2 ∧ i2 ≤ 2147483647) → (2147483700 - i2).toNat = n → Tn (d + 3) m_X5_numberNew 46 T σ [(0, .ref a), (1, .int (iI c1)), (2, .int (iI i2))] [] post := by
  intro n
  induction n using Nat.strongRecOn with
  | _ n ih =>
    intro i2 σ hw hF r_i2 hm
    refine tn_iload_n dX5_numberNew_46 rfl 2 rfl ?_
    refine tn_bipush dX5_numberNew_47 (by decide) ?_
    refine tn_icmp_ge (tgt := 122) dX5_numberNew_49 (by decide) ⟨by omega, by omega⟩ ⟨by decide, by decide⟩ (fun h1 => ?_) (fun h1 => ?_)
    · exact tn_sub [0, 1, 2] rfl (hx_122 (i2) σ hw (FrC.rfl.trans (FrC.sub hF (by decide))) (by omega))
    · refine tn_aload_n dX5_numberNew_52 rfl 0 rfl ?_
      obtain ⟨x2, hx3, hk4⟩ : ∃ x : Nat, σ0.2.1 35 a = (x : Int) ∧ (T x).1 = 31 := wf_35 hw0 h_a
      have hk4o : OB T x2 1 := ⟨by omega, by rw [hk4]; rfl, by omega⟩
      refine tn_getR (ci := 5) (i := 2) (n := 35) (x := x2) dX5_numberNew_53 rfl lay_5 (by decide) fl5_47 h_a rfl rfl (rc_F hF (Or.inl (by decide)) (by decide) (hx3)) ?_
      refine tn_iload_n dX5_numberNew_56 rfl 1 rfl ?_
      refine tn_iload_n dX5_numberNew_57 rfl 2 rfl ?_
      refine tn_callV (M := m_X5_numberNew) (pc := 58) (ix := 164) (ci := 1) (M' := m_X1_get) (As := [.int (iI c1), .int (iI i2)]) (rest := []) dX5_numberNew_58 ok_X1_get im_X1_get se_X1_get ml5_164 np_X1_get rfl rfl hk4o rfl (Nat.le_of_ble_eq_true rfl) (Nat.le_of_ble_eq_true rfl) rfl (k_X1_get (d + 1) (T := T) (σ := σ) (a := x2) (k := c1) (c := i2) hk4o (by omega) (by omega) hw (by omega)) (fun r6 T8 σ7 gt9 hp => ?_)
      obtain ⟨v11, rfl, rfl, rfl, f10⟩ := hp
      clear gt9
      show Tn _ _ 61 T σ [(0, .ref a), (1, .int (iI c1)), (2, .int (iI i2))] [.int (iI v11)] _
      refine tn_iconst dX5_numberNew_61 ?_
      refine tn_icmp_ne (tgt := 116) dX5_numberNew_62 (by decide) ⟨by omega, by omega⟩ ⟨by decide, by decide⟩ (fun h12 => ?_) (fun h12 => ?_)
      · refine tn_iinc (q0 := 2) (L' := [(2, .int (iI (i2 + 2))), (0, .ref a), (1, .int (iI c1))]) dX5_numberNew_116 rfl (by decide) rfl ?_
        refine tn_goto (tgt := 46) dX5_numberNew_119 (by decide) ?_
        exact tn_sub [1, 2, 0] rfl (ih _ (by omega) (i2 + 2) σ hw (FrC.rfl.trans (FrC.sub hF (by decide))) (by omega) rfl)
      · refine tn_aload_n dX5_numberNew_65 rfl 0 rfl ?_
        refine tn_getR (ci := 5) (i := 2) (n := 35) (x := x2) dX5_numberNew_66 rfl lay_5 (by decide) fl5_47 h_a rfl rfl (rc_F hF (Or.inl (by decide)) (by decide) (hx3)) ?_
        refine tn_iload_n dX5_numberNew_69 rfl 1 rfl ?_
        refine tn_iload_n dX5_numberNew_70 rfl 2 rfl ?_
        refine tn_iconst dX5_numberNew_71 ?_
        refine tn_iadd dX5_numberNew_72 ?_
        refine tn_callV (M := m_X5_numberNew) (pc := 73) (ix := 164) (ci := 1) (M' := m_X1_get) (As := [.int (iI c1), .int (iI (i2 + 1))]) (rest := []) dX5_numberNew_73 ok_X1_get im_X1_get se_X1_get ml5_164 np_X1_get rfl rfl hk4o rfl (Nat.le_of_ble_eq_true rfl) (Nat.le_of_ble_eq_true rfl) rfl (k_X1_get (d + 1) (T := T) (σ := σ) (a := x2) (k := c1) (c := i2 + 1) hk4o (by omega) (by omega) hw (by omega)) (fun r13 T15 σ14 gt16 hp => ?_)
        obtain ⟨v18, rfl, rfl, rfl, f17⟩ := hp
        clear gt16
        show Tn _ _ 76 T σ [(0, .ref a), (1, .int (iI c1)), (2, .int (iI i2))] [.int (iI v18)] _
        refine tn_sipush dX5_numberNew_76 (by decide) ?_
        refine tn_icmp_lt (tgt := 116) dX5_numberNew_79 (by decide) ⟨by omega, by omega⟩ ⟨by decide, by decide⟩ (fun h19 => ?_) (fun h19 => ?_)
        · refine tn_iinc (q0 := 2) (L' := [(2, .int (iI (i2 + 2))), (0, .ref a), (1, .int (iI c1))]) dX5_numberNew_116 rfl (by decide) rfl ?_
          refine tn_goto (tgt := 46) dX5_numberNew_119 (by decide) ?_
          exact tn_sub [1, 2, 0] rfl (ih _ (by omega) (i2 + 2) σ hw (FrC.rfl.trans (FrC.sub hF (by decide))) (by omega) rfl)
        · refine tn_aload_n dX5_numberNew_82 rfl 0 rfl ?_
          refine tn_getR (ci := 5) (i := 2) (n := 35) (x := x2) dX5_numberNew_83 rfl lay_5 (by decide) fl5_47 h_a rfl rfl (rc_F hF (Or.inl (by decide)) (by decide) (hx3)) ?_
          refine tn_iload_n dX5_numberNew_86 rfl 1 rfl ?_
          refine tn_iload_n dX5_numberNew_87 rfl 2 rfl ?_
          refine tn_iconst dX5_numberNew_88 ?_
          refine tn_iadd dX5_numberNew_89 ?_
          refine tn_aload_n dX5_numberNew_90 rfl 0 rfl ?_
          refine tn_getR (ci := 5) (i := 2) (n := 35) (x := x2) dX5_numberNew_91 rfl lay_5 (by decide) fl5_47 h_a rfl rfl (rc_F hF (Or.inl (by decide)) (by decide) (hx3)) ?_
          refine tn_iload_n dX5_numberNew_94 rfl 1 rfl ?_
          refine tn_iload_n dX5_numberNew_95 rfl 2 rfl ?_
          refine tn_iconst dX5_numberNew_96 ?_
          refine tn_iadd dX5_numberNew_97 ?_
          refine tn_callV (M := m_X5_numberNew) (pc := 98) (ix := 164) (ci := 1) (M' := m_X1_get) (As := [.int (iI c1), .int (iI (i2 + 1))]) (rest := [.int (iI (i2 + 1)), .int (iI c1), .ref x2]) dX5_numberNew_98 ok_X1_get im_X1_get se_X1_get ml5_164 np_X1_get rfl rfl hk4o rfl (Nat.le_of_ble_eq_true rfl) (Nat.le_of_ble_eq_true rfl) rfl (k_X1_get (d + 1) (T := T) (σ := σ) (a := x2) (k := c1) (c := i2 + 1) hk4o (by omega) (by omega) hw (by omega)) (fun r20 T22 σ21 gt23 hp => ?_)
          obtain ⟨v25, rfl, rfl, rfl, f24⟩ := hp
          clear gt23
          show Tn _ _ 101 T σ [(0, .ref a), (1, .int (iI c1)), (2, .int (iI i2))] [.int (iI v25), .int (iI (i2 + 1)), .int (iI c1), .ref x2] _
          refine tn_sipush dX5_numberNew_101 (by decide) ?_
          refine tn_isub dX5_numberNew_104 ?_
          refine tn_any (fun z26 g27 => ?_)
          have g27r : -2147483648 ≤ z26 ∧ z26 ≤ 2147483647 := g27
          refine tn_aload_n dX5_numberNew_105 rfl 0 rfl ?_
          refine tn_getR (ci := 5) (i := 2) (n := 35) (x := x2) dX5_numberNew_106 rfl lay_5 (by decide) fl5_47 h_a rfl rfl (rc_F hF (Or.inl (by decide)) (by decide) (hx3)) ?_
          refine tn_getI (ci := 1) (i := 2) (n := 7) (t := σ0.2.1 7 x2) dX5_numberNew_109 rfl lay_1 (by decide) fl5_152 hk4o rfl rfl (rc_F hF (Or.inl (by decide)) (by decide) (rfl)) ?_
          have g28 : ((0 : Int) ≤ σ0.2.1 7 x2 ∧ σ0.2.1 7 x2 ≤ 12) := wf_7 hw0 hk4o
          refine tn_iadd dX5_numberNew_112 ?_
          refine tn_any (fun z29 g30 => ?_)
          have g30r : -2147483648 ≤ z29 ∧ z29 ≤ 2147483647 := g30
          refine tn_callV (M := m_X5_numberNew) (pc := 113) (ix := 167) (ci := 1) (M' := m_X1_set) (As := [.int (iI c1), .int (iI (i2 + 1)), .int (iI z29)]) (rest := []) dX5_numberNew_113 ok_X1_set im_X1_set se_X1_set ml5_167 np_X1_set rfl rfl hk4o rfl (Nat.le_of_ble_eq_true rfl) (Nat.le_of_ble_eq_true rfl) rfl (k_X1_set (d + 1) (T := T) (σ := σ) (a := x2) (k := c1) (c := i2 + 1) (y := z29) hk4o (by omega) (by omega) (by omega) hw (by omega) (by omega)) (fun r31 T33 σ32 gt34 hp => ?_)
          obtain ⟨rfl, rfl, w36, F37⟩ := hp
          clear gt34
          show Tn _ _ 116 T σ32 [(0, .ref a), (1, .int (iI c1)), (2, .int (iI i2))] [] _
          refine tn_iinc (q0 := 2) (L' := [(2, .int (iI (i2 + 2))), (0, .ref a), (1, .int (iI c1))]) dX5_numberNew_116 rfl (by decide) rfl ?_
          refine tn_goto (tgt := 46) dX5_numberNew_119 (by decide) ?_
          exact tn_sub [1, 2, 0] rfl (ih _ (by omega) (i2 + 2) σ32 w36 ((FrC.rfl.trans (FrC.sub hF (by decide))).trans (FrC.sub F37 (by decide))) (by omega) rfl)
theorem dX5_numberNew_122 : decode cX5_numberNew 122 = .ok (.return_, 1) := by decide +kernel
theorem dX5_numberNew_14 : decode cX5_numberNew 14 = .ok (.aload_n 0, 1) := by decide +kernel
theorem dX5_numberNew_15 : decode cX5_numberNew 15 = .ok (.getfield 47, 3) := by decide +kernel
theorem dX5_numberNew_18 : decode cX5_numberNew 18 = .ok (.iload_n 1, 1) := by decide +kernel
theorem dX5_numberNew_19 : decode cX5_numberNew 19 = .ok (.iconst 1, 1) := by decide +kernel
theorem dX5_numberNew_20 : decode cX5_numberNew 20 = .ok (.aload_n 0, 1) := by decide +kernel
theorem dX5_numberNew_21 : decode cX5_numberNew 21 = .ok (.getfield 47, 3) := by decide +kernel
theorem dX5_numberNew_24 : decode cX5_numberNew 24 = .ok (.iload_n 1, 1) := by decide +kernel
theorem dX5_numberNew_25 : decode cX5_numberNew 25 = .ok (.iconst 1, 1) := by decide +kernel
theorem dX5_numberNew_26 : decode cX5_numberNew 26 = .ok (.invokevirtual 164, 3) := by decide +kernel
theorem dX5_numberNew_29 : decode cX5_numberNew 29 = .ok (.sipush 1000, 3) := by decide +kernel
theorem dX5_numberNew_32 : decode cX5_numberNew 32 = .ok (.isub, 1) := by decide +kernel
theorem dX5_numberNew_33 : decode cX5_numberNew 33 = .ok (.aload_n 0, 1) := by decide +kernel
theorem dX5_numberNew_34 : decode cX5_numberNew 34 = .ok (.getfield 47, 3) := by decide +kernel
theorem dX5_numberNew_37 : decode cX5_numberNew 37 = .ok (.getfield 152, 3) := by decide +kernel
theorem dX5_numberNew_40 : decode cX5_numberNew 40 = .ok (.iadd, 1) := by decide +kernel
theorem dX5_numberNew_41 : decode cX5_numberNew 41 = .ok (.invokevirtual 167, 3) := by decide +kernel
set_option maxRecDepth 20000 in
theorem k_X5_numberNew (d : Nat) {T : CT} {σ : MS} {a : Nat} {k : Int} (ha : OB T a 5) (h_k : -2147483648 ≤ k ∧ k ≤ 2147483647) (hw : WT T σ) : Tn (d + 3) m_X5_numberNew 0 T σ [(0, .ref a), (1, .int (iI k))] [] (fun ro T2 σ2 => ro = none ∧ T = T2 ∧ WT T2 σ2 ∧ FrC T [] σ σ2) := by
  refine tn_aload_n dX5_numberNew_0 rfl 0 rfl ?_
  obtain ⟨x1, hx2, hk3⟩ : ∃ x : Nat, σ.2.1 35 a = (x : Int) ∧ (T x).1 = 31 := wf_35 hw ha
  have hk3o : OB T x1 1 := ⟨by omega, by rw [hk3]; rfl, by omega⟩
  refine tn_getR (ci := 5) (i := 2) (n := 35) (x := x1) dX5_numberNew_1 rfl lay_5 (by decide) fl5_47 ha rfl rfl (hx2) ?_
  refine tn_iload_n dX5_numberNew_4 rfl 1 rfl ?_
  refine tn_callV (M := m_X5_numberNew) (pc := 5) (ix := 161) (ci := 1) (M' := m_X1_writtenBy) (As := [.int (iI k)]) (rest := []) dX5_numberNew_5 ok_X1_writtenBy im_X1_writtenBy se_X1_writtenBy ml5_161 np_X1_writtenBy rfl rfl hk3o rfl (Nat.le_of_ble_eq_true rfl) (Nat.le_of_ble_eq_true rfl) rfl (k_X1_writtenBy (d) (T := T) (σ := σ) (a := x1) (k := k) hk3o (by omega) hw ) (fun r5 T7 σ6 gt8 hp => ?_)
  obtain ⟨v10, rfl, rfl, rfl, f9⟩ := hp
  clear gt8
  show Tn _ _ 8 T σ [(0, .ref a), (1, .int (iI k))] [.int (iI v10)] _
  refine tn_sipush dX5_numberNew_8 (by decide) ?_
  refine tn_icmp_lt (tgt := 44) dX5_numberNew_11 (by decide) ⟨by omega, by omega⟩ ⟨by decide, by decide⟩ (fun h11 => ?_) (fun h11 => ?_)
  · refine tn_iconst dX5_numberNew_44 ?_
    refine tn_istore_n (L' := [(2, .int (iI 3)), (0, .ref a), (1, .int (iI k))]) dX5_numberNew_45 rfl (by decide) rfl ?_
    refine tn_sub [1, 2, 0] rfl (l_X5_numberNew_46 (d) (T := T) (σ0 := σ) (a := a) (c1 := k) ha (by omega) hw (fun i212 σ13 w16 F17 r18 => ?_) _ (3) σ hw FrC.rfl (by omega) rfl)
    show Tn _ _ 122 T σ13 [(0, .ref a), (1, .int (iI k)), (2, .int (iI i212))] [] _
    exact tn_vret rfl dX5_numberNew_122 ⟨rfl, rfl, w16, (FrC.rfl.trans (FrC.sub F17 (by decide)))⟩
  · refine tn_aload_n dX5_numberNew_14 rfl 0 rfl ?_
    refine tn_getR (ci := 5) (i := 2) (n := 35) (x := x1) dX5_numberNew_15 rfl lay_5 (by decide) fl5_47 ha rfl rfl (hx2) ?_
    refine tn_iload_n dX5_numberNew_18 rfl 1 rfl ?_
    refine tn_iconst dX5_numberNew_19 ?_
    refine tn_aload_n dX5_numberNew_20 rfl 0 rfl ?_
    refine tn_getR (ci := 5) (i := 2) (n := 35) (x := x1) dX5_numberNew_21 rfl lay_5 (by decide) fl5_47 ha rfl rfl (hx2) ?_
    refine tn_iload_n dX5_numberNew_24 rfl 1 rfl ?_
    refine tn_iconst dX5_numberNew_25 ?_
    refine tn_callV (M := m_X5_numberNew) (pc := 26) (ix := 164) (ci := 1) (M' := m_X1_get) (As := [.int (iI k), .int (iI 1)]) (rest := [.int (iI 1), .int (iI k), .ref x1]) dX5_numberNew_26 ok_X1_get im_X1_get se_X1_get ml5_164 np_X1_get rfl rfl hk3o rfl (Nat.le_of_ble_eq_true rfl) (Nat.le_of_ble_eq_true rfl) rfl (k_X1_get (d + 1) (T := T) (σ := σ) (a := x1) (k := k) (c := 1) hk3o (by omega) (by decide) hw (by omega)) (fun r19 T21 σ20 gt22 hp => ?_)
    obtain ⟨v24, rfl, rfl, rfl, f23⟩ := hp
    clear gt22
    show Tn _ _ 29 T σ [(0, .ref a), (1, .int (iI k))] [.int (iI v24), .int (iI 1), .int (iI k), .ref x1] _
    refine tn_sipush dX5_numberNew_29 (by decide) ?_
    refine tn_isub dX5_numberNew_32 ?_
    refine tn_any (fun z25 g26 => ?_)
    have g26r : -2147483648 ≤ z25 ∧ z25 ≤ 2147483647 := g26
    refine tn_aload_n dX5_numberNew_33 rfl 0 rfl ?_
    refine tn_getR (ci := 5) (i := 2) (n := 35) (x := x1) dX5_numberNew_34 rfl lay_5 (by decide) fl5_47 ha rfl rfl (hx2) ?_
    refine tn_getI (ci := 1) (i := 2) (n := 7) (t := σ.2.1 7 x1) dX5_numberNew_37 rfl lay_1 (by decide) fl5_152 hk3o rfl rfl (rfl) ?_
    have g27 : ((0 : Int) ≤ σ.2.1 7 x1 ∧ σ.2.1 7 x1 ≤ 12) := wf_7 hw hk3o
    refine tn_iadd dX5_numberNew_40 ?_
    refine tn_any (fun z28 g29 => ?_)
    have g29r : -2147483648 ≤ z28 ∧ z28 ≤ 2147483647 := g29
    refine tn_callV (M := m_X5_numberNew) (pc := 41) (ix := 167) (ci := 1) (M' := m_X1_set) (As := [.int (iI k), .int (iI 1), .int (iI z28)]) (rest := []) dX5_numberNew_41 ok_X1_set im_X1_set se_X1_set ml5_167 np_X1_set rfl rfl hk3o rfl (Nat.le_of_ble_eq_true rfl) (Nat.le_of_ble_eq_true rfl) rfl (k_X1_set (d + 1) (T := T) (σ := σ) (a := x1) (k := k) (c := 1) (y := z28) hk3o (by omega) (by decide) (by omega) hw (by omega) (by omega)) (fun r30 T32 σ31 gt33 hp => ?_)
    obtain ⟨rfl, rfl, w35, F36⟩ := hp
    clear gt33
    show Tn _ _ 44 T σ31 [(0, .ref a), (1, .int (iI k))] [] _
    refine tn_iconst dX5_numberNew_44 ?_
    refine tn_istore_n (L' := [(2, .int (iI 3)), (0, .ref a), (1, .int (iI k))]) dX5_numberNew_45 rfl (by decide) rfl ?_
    refine tn_sub [1, 2, 0] rfl (l_X5_numberNew_46 (d) (T := T) (σ0 := σ31) (a := a) (c1 := k) ha (by omega) w35 (fun i237 σ38 w41 F42 r43 => ?_) _ (3) σ31 w35 FrC.rfl (by omega) rfl)
    show Tn _ _ 122 T σ38 [(0, .ref a), (1, .int (iI k)), (2, .int (iI i237))] [] _
    exact tn_vret rfl dX5_numberNew_122 ⟨rfl, rfl, w41, ((FrC.rfl.trans (FrC.sub F36 (by decide))).trans (FrC.sub F42 (by decide)))⟩
