theorem cd_X10_nameBind : Cond.code yX10_nameBind cX10_nameBind 5 none ∈ pWW := pw4 (List.mem_of_getElem? (i := 118) rfl) rfl
abbrev m_X10_nameBind : MT := (yX10_nameBind, cX10_nameBind, 5, none)
theorem ok_X10_nameBind : pOk m_X10_nameBind := ⟨⟨cd_X10_nameBind, ini_10⟩, by decide +kernel, ⟨by decide +kernel, by decide +kernel⟩, Nat.le_of_ble_eq_true rfl⟩
theorem np_X10_nameBind : (parseMethodDescriptor yX10_nameBind.desc).map (fun d => d.parameters.length) = some 2 := by decide +kernel
theorem im_X10_nameBind : Cond.instanceMethod yX10_nameBind ∈ pWW := pw4 (List.mem_of_getElem? (i := 117) rfl) rfl
theorem se_X10_nameBind : Cond.selects RX10 yX10_nameBind yX10_nameBind ∈ pWW := pws (List.mem_map.mpr ⟨_, lw_pin 39 rfl, rfl⟩) rfl
theorem fl10_86 : Cond.fieldLink RX10 86 (TX1 3).1 (TX1 3).2.1 (TX1 3).2.2.1 ∈ pWW := pw1 (List.mem_of_getElem? (i := 97) rfl) rfl
theorem dX10_nameBind_0 : decode cX10_nameBind 0 = .ok (.aload_n 1, 1) := by decide +kernel
theorem dX10_nameBind_1 : decode cX10_nameBind 1 = .ok (.iload_n 2, 1) := by decide +kernel
theorem dX10_nameBind_2 : decode cX10_nameBind 2 = .ok (.iconst 0, 1) := by decide +kernel
theorem dX10_nameBind_3 : decode cX10_nameBind 3 = .ok (.invokevirtual 44, 3) := by decide +kernel
theorem dX10_nameBind_6 : decode cX10_nameBind 6 = .ok (.bipush 12, 2) := by decide +kernel
theorem dX10_nameBind_8 : decode cX10_nameBind 8 = .ok (.if_icmp .eq 4, 3) := by decide +kernel
theorem dX10_nameBind_12 : decode cX10_nameBind 12 = .ok (.aload_n 1, 1) := by decide +kernel
theorem dX10_nameBind_13 : decode cX10_nameBind 13 = .ok (.iload_n 2, 1) := by decide +kernel
theorem dX10_nameBind_14 : decode cX10_nameBind 14 = .ok (.bipush 11, 2) := by decide +kernel
theorem dX10_nameBind_16 : decode cX10_nameBind 16 = .ok (.invokevirtual 44, 3) := by decide +kernel
theorem dX10_nameBind_19 : decode cX10_nameBind 19 = .ok (.istore_n 3, 1) := by decide +kernel
theorem dX10_nameBind_20 : decode cX10_nameBind 20 = .ok (.iload_n 3, 1) := by decide +kernel
theorem dX10_nameBind_21 : decode cX10_nameBind 21 = .ok (.bipush 10, 2) := by decide +kernel
theorem dX10_nameBind_23 : decode cX10_nameBind 23 = .ok (.if_icmp .lt 16, 3) := by decide +kernel
theorem dX10_nameBind_39 : decode cX10_nameBind 39 = .ok (.iload_n 3, 1) := by decide +kernel
theorem dX10_nameBind_40 : decode cX10_nameBind 40 = .ok (.iconst 1, 1) := by decide +kernel
theorem dX10_nameBind_41 : decode cX10_nameBind 41 = .ok (.if_icmp .ne 22, 3) := by decide +kernel
theorem dX10_nameBind_63 : decode cX10_nameBind 63 = .ok (.iconst 0, 1) := by decide +kernel
theorem dX10_nameBind_64 : decode cX10_nameBind 64 = .ok (.istore 4, 2) := by decide +kernel
theorem dX10_nameBind_66 : decode cX10_nameBind 66 = .ok (.iload_n 3, 1) := by decide +kernel
theorem dX10_nameBind_67 : decode cX10_nameBind 67 = .ok (.iconst 2, 1) := by decide +kernel
theorem dX10_nameBind_68 : decode cX10_nameBind 68 = .ok (.if_icmp .ne 48, 3) := by decide +kernel
theorem dX10_nameBind_71 : decode cX10_nameBind 71 = .ok (.iload 4, 2) := by decide +kernel
theorem dX10_nameBind_73 : decode cX10_nameBind 73 = .ok (.aload_n 1, 1) := by decide +kernel
theorem dX10_nameBind_74 : decode cX10_nameBind 74 = .ok (.getfield 86, 3) := by decide +kernel
theorem dX10_nameBind_77 : decode cX10_nameBind 77 = .ok (.if_icmp .ge 39, 3) := by decide +kernel
theorem dX10_nameBind_80 : decode cX10_nameBind 80 = .ok (.aload_n 1, 1) := by decide +kernel
theorem dX10_nameBind_81 : decode cX10_nameBind 81 = .ok (.iconst 0, 1) := by decide +kernel
theorem dX10_nameBind_82 : decode cX10_nameBind 82 = .ok (.iload 4, 2) := by decide +kernel
theorem dX10_nameBind_84 : decode cX10_nameBind 84 = .ok (.invokevirtual 47, 3) := by decide +kernel
theorem dX10_nameBind_87 : decode cX10_nameBind 87 = .ok (.aload_n 1, 1) := by decide +kernel
theorem dX10_nameBind_88 : decode cX10_nameBind 88 = .ok (.iload_n 2, 1) := by decide +kernel
theorem dX10_nameBind_89 : decode cX10_nameBind 89 = .ok (.iconst 4, 1) := by decide +kernel
theorem dX10_nameBind_90 : decode cX10_nameBind 90 = .ok (.invokevirtual 44, 3) := by decide +kernel
theorem dX10_nameBind_93 : decode cX10_nameBind 93 = .ok (.if_icmp .ne 17, 3) := by decide +kernel
theorem dX10_nameBind_110 : decode cX10_nameBind 110 = .ok (.iinc 4 1, 3) := by decide +kernel
theorem dX10_nameBind_113 : decode cX10_nameBind 113 = .ok (.goto (-47), 3) := by decide +kernel
set_option maxRecDepth 20000 in
theorem l_X10_nameBind_66 (d : Nat) {T : CT} {σ : MS} {a : Nat} {rx1 : Nat} {c2 : Int} {c3 : Int} {post : Option Value → CT → MS → Prop} (h_a : OB T a 10) (h_rx1 : OB T rx1 1) (t_rx1 : (T rx1).1 = 50) (r_c2 : -2147483648 ≤ c2 ∧ c2 ≤ 2147483647) (r_c3 : -2147483648 ≤ c3 ∧ c3 ≤ 9) (hw : WT T σ) (hx_96 : ∀ (i4 : Int) , (0 ≤ i4 ∧ i4 ≤ 2147483647) → Tn (d + 4) m_X10_nameBind 96 T σ [(0, .ref a), (1, .ref rx1), (2, .int (iI c2)), (3, .int (iI c3)), (4, .int (iI i4))] [] post) (hx_116 : ∀ (i4 : Int) , (0 ≤ i4 ∧ i4 ≤ 2147483647) → Tn (d + 4) m_X10_nameBind 116 T σ [(0, .ref a), (1, .ref rx1), (2, .int (iI c2)), (3, .int (iI c3)), (4, .int (iI i4))] [] post) : ∀ (n : Nat) (i4 : Int) , (0 ≤ i4 ∧ i4 ≤ 2147483647) → (2147483700 - i4).toNat = n → Tn (d + 4) m_X10_nameBind 66 T σ [(0, .ref a), (1, .ref rx1), (2, .int (iI c2)), (3, .int (iI c3)), (4, .int (iI i4))] [] post := by
  intro n
  induction n using Nat.strongRecOn with
  | _ n ih =>
    intro i4 r_i4 hm
    refine tn_iload_n dX10_nameBind_66 rfl 3 rfl ?_
    refine tn_iconst dX10_nameBind_67 ?_
    refine tn_icmp_ne (tgt := 116) dX10_nameBind_68 (by decide) ⟨by omega, by omega⟩ ⟨by decide, by decide⟩ (fun h1 => ?_) (fun h1 => ?_)
    · exact tn_sub [0, 1, 2, 3, 4] rfl (hx_116 (i4) (by omega))
    · refine tn_iload dX10_nameBind_71 4 rfl ?_
      refine tn_aload_n dX10_nameBind_73 rfl 1 rfl ?_
      refine tn_getI (ci := 1) (i := 3) (n := 8) (t := σ.2.1 8 rx1) dX10_nameBind_74 rfl lay_1 (by decide) fl10_86 h_rx1 rfl rfl (rfl) ?_
      have g2 : ((0 : Int) ≤ σ.2.1 8 rx1 ∧ σ.2.1 8 rx1 ≤ 4) := wf_8 hw h_rx1
      refine tn_icmp_ge (tgt := 116) dX10_nameBind_77 (by decide) ⟨by omega, by omega⟩ ⟨by omega, by omega⟩ (fun h3 => ?_) (fun h3 => ?_)
      · exact tn_sub [0, 1, 2, 3, 4] rfl (hx_116 (i4) (by omega))
      · refine tn_aload_n dX10_nameBind_80 rfl 1 rfl ?_
        refine tn_iconst dX10_nameBind_81 ?_
        refine tn_iload dX10_nameBind_82 4 rfl ?_
        refine tn_callV (M := m_X10_nameBind) (pc := 84) (ix := 47) (ci := 1) (M' := m_X1_homeOf) (As := [.int (iI 0), .int (iI i4)]) (rest := []) dX10_nameBind_84 ok_X1_homeOf im_X1_homeOf se_X1_homeOf ml10_47 np_X1_homeOf rfl rfl h_rx1 rfl (Nat.le_of_ble_eq_true rfl) (Nat.le_of_ble_eq_true rfl) rfl (k_X1_homeOf (d + 1) (T := T) (σ := σ) (a := rx1) (f := 0) (m := i4) h_rx1 (by decide) (by omega) hw ) (fun r4 T6 σ5 gt7 hp => ?_)
        obtain ⟨v9, rfl, rfl, rfl, f8⟩ := hp
        clear gt7
        show Tn _ _ 87 T σ [(0, .ref a), (1, .ref rx1), (2, .int (iI c2)), (3, .int (iI c3)), (4, .int (iI i4))] [.int (iI v9)] _
        refine tn_aload_n dX10_nameBind_87 rfl 1 rfl ?_
        refine tn_iload_n dX10_nameBind_88 rfl 2 rfl ?_
        refine tn_iconst dX10_nameBind_89 ?_
        refine tn_callV (M := m_X10_nameBind) (pc := 90) (ix := 44) (ci := 1) (M' := m_X1_get) (As := [.int (iI c2), .int (iI 4)]) (rest := [.int (iI v9)]) dX10_nameBind_90 ok_X1_get im_X1_get se_X1_get ml10_44 np_X1_get rfl rfl h_rx1 rfl (Nat.le_of_ble_eq_true rfl) (Nat.le_of_ble_eq_true rfl) rfl (k_X1_get (d + 2) (T := T) (σ := σ) (a := rx1) (k := c2) (c := 4) h_rx1 (by omega) (by decide) hw (by omega)) (fun r10 T12 σ11 gt13 hp => ?_)
        obtain ⟨v15, rfl, rfl, rfl, f14⟩ := hp
        clear gt13
        show Tn _ _ 93 T σ [(0, .ref a), (1, .ref rx1), (2, .int (iI c2)), (3, .int (iI c3)), (4, .int (iI i4))] [.int (iI v15), .int (iI v9)] _
        refine tn_icmp_ne (tgt := 110) dX10_nameBind_93 (by decide) ⟨by omega, by omega⟩ ⟨by omega, by omega⟩ (fun h16 => ?_) (fun h16 => ?_)
        · refine tn_iinc (q0 := 4) (L' := [(4, .int (iI (i4 + 1))), (0, .ref a), (1, .ref rx1), (2, .int (iI c2)), (3, .int (iI c3))]) dX10_nameBind_110 rfl (by decide) rfl ?_
          refine tn_goto (tgt := 66) dX10_nameBind_113 (by decide) ?_
          exact tn_sub [1, 2, 3, 4, 0] rfl (ih _ (by omega) (i4 + 1) (by omega) rfl)
        · exact tn_sub [0, 1, 2, 3, 4] rfl (hx_96 (i4) (by omega))
theorem fl10_20 : Cond.fieldLink RX10 20 (TX10 2).1 (TX10 2).2.1 (TX10 2).2.2.1 ∈ pWW := pw2 (List.mem_of_getElem? (i := 9) rfl) rfl
theorem ml10_89 : Cond.methodLink RX10 89 yX1_sameWhere ∈ pWW := pw4 (List.mem_of_getElem? (i := 121) rfl) rfl
theorem dX10_nameBind_96 : decode cX10_nameBind 96 = .ok (.aload_n 0, 1) := by decide +kernel
theorem dX10_nameBind_97 : decode cX10_nameBind 97 = .ok (.getfield 20, 3) := by decide +kernel
theorem dX10_nameBind_100 : decode cX10_nameBind 100 = .ok (.iload_n 2, 1) := by decide +kernel
theorem dX10_nameBind_101 : decode cX10_nameBind 101 = .ok (.bipush 6, 2) := by decide +kernel
theorem dX10_nameBind_103 : decode cX10_nameBind 103 = .ok (.iload 4, 2) := by decide +kernel
theorem dX10_nameBind_105 : decode cX10_nameBind 105 = .ok (.iadd, 1) := by decide +kernel
theorem dX10_nameBind_106 : decode cX10_nameBind 106 = .ok (.invokestatic 26, 3) := by decide +kernel
theorem dX10_nameBind_109 : decode cX10_nameBind 109 = .ok (.return_, 1) := by decide +kernel
theorem dX10_nameBind_116 : decode cX10_nameBind 116 = .ok (.iconst 0, 1) := by decide +kernel
theorem dX10_nameBind_117 : decode cX10_nameBind 117 = .ok (.istore 4, 2) := by decide +kernel
theorem dX10_nameBind_119 : decode cX10_nameBind 119 = .ok (.iload 4, 2) := by decide +kernel
theorem dX10_nameBind_121 : decode cX10_nameBind 121 = .ok (.iload_n 2, 1) := by decide +kernel
theorem dX10_nameBind_122 : decode cX10_nameBind 122 = .ok (.if_icmp .ge 31, 3) := by decide +kernel
theorem dX10_nameBind_125 : decode cX10_nameBind 125 = .ok (.aload_n 1, 1) := by decide +kernel
theorem dX10_nameBind_126 : decode cX10_nameBind 126 = .ok (.iload 4, 2) := by decide +kernel
theorem dX10_nameBind_128 : decode cX10_nameBind 128 = .ok (.iconst 0, 1) := by decide +kernel
theorem dX10_nameBind_129 : decode cX10_nameBind 129 = .ok (.invokevirtual 44, 3) := by decide +kernel
theorem dX10_nameBind_132 : decode cX10_nameBind 132 = .ok (.bipush 12, 2) := by decide +kernel
theorem dX10_nameBind_134 : decode cX10_nameBind 134 = .ok (.if_icmp .ne 13, 3) := by decide +kernel
theorem dX10_nameBind_147 : decode cX10_nameBind 147 = .ok (.iinc 4 1, 3) := by decide +kernel
theorem dX10_nameBind_150 : decode cX10_nameBind 150 = .ok (.goto (-31), 3) := by decide +kernel
theorem dX10_nameBind_137 : decode cX10_nameBind 137 = .ok (.aload_n 1, 1) := by decide +kernel
theorem dX10_nameBind_138 : decode cX10_nameBind 138 = .ok (.iload 4, 2) := by decide +kernel
theorem dX10_nameBind_140 : decode cX10_nameBind 140 = .ok (.iload_n 2, 1) := by decide +kernel
theorem dX10_nameBind_141 : decode cX10_nameBind 141 = .ok (.invokevirtual 89, 3) := by decide +kernel
theorem dX10_nameBind_144 : decode cX10_nameBind 144 = .ok (.ifCond .ne 9, 3) := by decide +kernel
set_option maxRecDepth 20000 in
theorem l_X10_nameBind_119 (d : Nat) {T : CT} {σ : MS} {a : Nat} {rx1 : Nat} {c2 : Int} {post : Option Value → CT → MS → Prop} (h_a : OB T a 10) (h_rx1 : OB T rx1 1) (t_rx1 : (T rx1).1 = 50) (r_c2 : -2147483648 ≤ c2 ∧ c2 ≤ 2147483647) (hw : WT T σ) (hx_153 : ∀ (i4 : Int) , (0 ≤ i4 ∧ i4 ≤ 2147483647) → Tn (d + 4) m_X10_nameBind 153 T σ [(0, .ref a), (1, .ref rx1), (2, .int (iI c2)), (4, .int (iI i4))] [] post) : ∀ (n : Nat) (i4 : Int) , (0 ≤ i4 ∧ i4 ≤ 2147483647) → (2147483700 - i4).toNat = n → Tn (d + 4) m_X10_nameBind 119 T σ [(0, .ref a), (1, .ref rx1), (2, .int (iI c2)), (4, .int (iI i4))] [] post := by
  intro n
  induction n using Nat.strongRecOn with
  | _ n ih =>
    intro i4 r_i4 hm
    refine tn_iload dX10_nameBind_119 3 rfl ?_
    refine tn_iload_n dX10_nameBind_121 rfl 2 rfl ?_
    refine tn_icmp_ge (tgt := 153) dX10_nameBind_122 (by decide) ⟨by omega, by omega⟩ ⟨by omega, by omega⟩ (fun h1 => ?_) (fun h1 => ?_)
    · exact tn_sub [0, 1, 2, 3] rfl (hx_153 (i4) (by omega))
    · refine tn_aload_n dX10_nameBind_125 rfl 1 rfl ?_
      refine tn_iload dX10_nameBind_126 3 rfl ?_
      refine tn_iconst dX10_nameBind_128 ?_
      refine tn_callV (M := m_X10_nameBind) (pc := 129) (ix := 44) (ci := 1) (M' := m_X1_get) (As := [.int (iI i4), .int (iI 0)]) (rest := []) dX10_nameBind_129 ok_X1_get im_X1_get se_X1_get ml10_44 np_X1_get rfl rfl h_rx1 rfl (Nat.le_of_ble_eq_true rfl) (Nat.le_of_ble_eq_true rfl) rfl (k_X1_get (d + 2) (T := T) (σ := σ) (a := rx1) (k := i4) (c := 0) h_rx1 (by omega) (by decide) hw (by omega)) (fun r2 T4 σ3 gt5 hp => ?_)
      obtain ⟨v7, rfl, rfl, rfl, f6⟩ := hp
      clear gt5
      show Tn _ _ 132 T σ [(0, .ref a), (1, .ref rx1), (2, .int (iI c2)), (4, .int (iI i4))] [.int (iI v7)] _
      refine tn_bipush dX10_nameBind_132 (by decide) ?_
      refine tn_icmp_ne (tgt := 147) dX10_nameBind_134 (by decide) ⟨by omega, by omega⟩ ⟨by decide, by decide⟩ (fun h8 => ?_) (fun h8 => ?_)
      · refine tn_iinc (q0 := 3) (L' := [(4, .int (iI (i4 + 1))), (0, .ref a), (1, .ref rx1), (2, .int (iI c2))]) dX10_nameBind_147 rfl (by decide) rfl ?_
        refine tn_goto (tgt := 119) dX10_nameBind_150 (by decide) ?_
        exact tn_sub [1, 2, 3, 0] rfl (ih _ (by omega) (i4 + 1) (by omega) rfl)
      · refine tn_aload_n dX10_nameBind_137 rfl 1 rfl ?_
        refine tn_iload dX10_nameBind_138 3 rfl ?_
        refine tn_iload_n dX10_nameBind_140 rfl 2 rfl ?_
        refine tn_callV (M := m_X10_nameBind) (pc := 141) (ix := 89) (ci := 1) (M' := m_X1_sameWhere) (As := [.int (iI i4), .int (iI c2)]) (rest := []) dX10_nameBind_141 ok_X1_sameWhere im_X1_sameWhere se_X1_sameWhere ml10_89 np_X1_sameWhere rfl rfl h_rx1 rfl (Nat.le_of_ble_eq_true rfl) (Nat.le_of_ble_eq_true rfl) rfl (k_X1_sameWhere (d) (T := T) (σ := σ) (a := rx1) (k := i4) (j := c2) h_rx1 (by omega) (by omega) hw ) (fun r9 T11 σ10 gt12 hp => ?_)
        obtain ⟨v14, rfl, rfl, rfl, f13⟩ := hp
        clear gt12
        show Tn _ _ 144 T σ [(0, .ref a), (1, .ref rx1), (2, .int (iI c2)), (4, .int (iI i4))] [.int (iI v14)] _
        refine tn_if_ne (tgt := 153) dX10_nameBind_144 (by decide) ⟨by omega, by omega⟩ (fun h15 => ?_) (fun h15 => ?_)
        · exact tn_sub [0, 1, 2, 3] rfl (hx_153 (i4) (by omega))
        · refine tn_iinc (q0 := 3) (L' := [(4, .int (iI (i4 + 1))), (0, .ref a), (1, .ref rx1), (2, .int (iI c2))]) dX10_nameBind_147 rfl (by decide) rfl ?_
          refine tn_goto (tgt := 119) dX10_nameBind_150 (by decide) ?_
          exact tn_sub [1, 2, 3, 0] rfl (ih _ (by omega) (i4 + 1) (by omega) rfl)
theorem dX10_nameBind_153 : decode cX10_nameBind 153 = .ok (.aload_n 0, 1) := by decide +kernel
theorem dX10_nameBind_154 : decode cX10_nameBind 154 = .ok (.getfield 20, 3) := by decide +kernel
theorem dX10_nameBind_157 : decode cX10_nameBind 157 = .ok (.iload_n 2, 1) := by decide +kernel
theorem dX10_nameBind_158 : decode cX10_nameBind 158 = .ok (.bipush 10, 2) := by decide +kernel
theorem dX10_nameBind_160 : decode cX10_nameBind 160 = .ok (.iload 4, 2) := by decide +kernel
theorem dX10_nameBind_162 : decode cX10_nameBind 162 = .ok (.iadd, 1) := by decide +kernel
theorem dX10_nameBind_163 : decode cX10_nameBind 163 = .ok (.invokestatic 26, 3) := by decide +kernel
theorem dX10_nameBind_166 : decode cX10_nameBind 166 = .ok (.return_, 1) := by decide +kernel
theorem dX10_nameBind_44 : decode cX10_nameBind 44 = .ok (.aload_n 1, 1) := by decide +kernel
theorem dX10_nameBind_45 : decode cX10_nameBind 45 = .ok (.iload_n 2, 1) := by decide +kernel
theorem dX10_nameBind_46 : decode cX10_nameBind 46 = .ok (.iconst 4, 1) := by decide +kernel
theorem dX10_nameBind_47 : decode cX10_nameBind 47 = .ok (.invokevirtual 44, 3) := by decide +kernel
theorem dX10_nameBind_50 : decode cX10_nameBind 50 = .ok (.ifCond .ne 13, 3) := by decide +kernel
theorem dX10_nameBind_53 : decode cX10_nameBind 53 = .ok (.aload_n 0, 1) := by decide +kernel
theorem dX10_nameBind_54 : decode cX10_nameBind 54 = .ok (.getfield 20, 3) := by decide +kernel
theorem dX10_nameBind_57 : decode cX10_nameBind 57 = .ok (.iload_n 2, 1) := by decide +kernel
theorem dX10_nameBind_58 : decode cX10_nameBind 58 = .ok (.iconst 5, 1) := by decide +kernel
theorem dX10_nameBind_59 : decode cX10_nameBind 59 = .ok (.invokestatic 26, 3) := by decide +kernel
theorem dX10_nameBind_62 : decode cX10_nameBind 62 = .ok (.return_, 1) := by decide +kernel
theorem dX10_nameBind_26 : decode cX10_nameBind 26 = .ok (.aload_n 0, 1) := by decide +kernel
theorem dX10_nameBind_27 : decode cX10_nameBind 27 = .ok (.getfield 20, 3) := by decide +kernel
theorem dX10_nameBind_30 : decode cX10_nameBind 30 = .ok (.iload_n 2, 1) := by decide +kernel
theorem dX10_nameBind_31 : decode cX10_nameBind 31 = .ok (.iload_n 3, 1) := by decide +kernel
theorem dX10_nameBind_32 : decode cX10_nameBind 32 = .ok (.bipush 10, 2) := by decide +kernel
theorem dX10_nameBind_34 : decode cX10_nameBind 34 = .ok (.isub, 1) := by decide +kernel
theorem dX10_nameBind_35 : decode cX10_nameBind 35 = .ok (.invokestatic 26, 3) := by decide +kernel
theorem dX10_nameBind_38 : decode cX10_nameBind 38 = .ok (.return_, 1) := by decide +kernel
theorem dX10_nameBind_11 : decode cX10_nameBind 11 = .ok (.return_, 1) := by decide +kernel
set_option maxRecDepth 20000 in
theorem k_X10_nameBind (d : Nat) {T : CT} {σ : MS} {a : Nat} {p1 : Nat} {p2 : Int} (ha : OB T a 10) (h_p1 : OB T p1 1) (t_p1 : (T p1).1 = 50) (h_p2 : -2147483648 ≤ p2 ∧ p2 ≤ 2147483647) (hw : WT T σ) : Tn (d + 4) m_X10_nameBind 0 T σ [(0, .ref a), (1, .ref p1), (2, .int (iI p2))] [] (fun ro T2 σ2 => ro = none ∧ T = T2 ∧ WT T2 σ2 ∧ FrC T [] σ σ2) := by
  refine tn_aload_n dX10_nameBind_0 rfl 1 rfl ?_
  refine tn_iload_n dX10_nameBind_1 rfl 2 rfl ?_
  refine tn_iconst dX10_nameBind_2 ?_
  refine tn_callV (M := m_X10_nameBind) (pc := 3) (ix := 44) (ci := 1) (M' := m_X1_get) (As := [.int (iI p2), .int (iI 0)]) (rest := []) dX10_nameBind_3 ok_X1_get im_X1_get se_X1_get ml10_44 np_X1_get rfl rfl h_p1 rfl (Nat.le_of_ble_eq_true rfl) (Nat.le_of_ble_eq_true rfl) rfl (k_X1_get (d + 2) (T := T) (σ := σ) (a := p1) (k := p2) (c := 0) h_p1 (by omega) (by decide) hw (by omega)) (fun r1 T3 σ2 gt4 hp => ?_)
  obtain ⟨v6, rfl, rfl, rfl, f5⟩ := hp
  clear gt4
  show Tn _ _ 6 T σ [(0, .ref a), (1, .ref p1), (2, .int (iI p2))] [.int (iI v6)] _
  refine tn_bipush dX10_nameBind_6 (by decide) ?_
  refine tn_icmp_eq (tgt := 12) dX10_nameBind_8 (by decide) ⟨by omega, by omega⟩ ⟨by decide, by decide⟩ (fun h7 => ?_) (fun h7 => ?_)
  · refine tn_aload_n dX10_nameBind_12 rfl 1 rfl ?_
    refine tn_iload_n dX10_nameBind_13 rfl 2 rfl ?_
    refine tn_bipush dX10_nameBind_14 (by decide) ?_
    refine tn_callV (M := m_X10_nameBind) (pc := 16) (ix := 44) (ci := 1) (M' := m_X1_get) (As := [.int (iI p2), .int (iI 11)]) (rest := []) dX10_nameBind_16 ok_X1_get im_X1_get se_X1_get ml10_44 np_X1_get rfl rfl h_p1 rfl (Nat.le_of_ble_eq_true rfl) (Nat.le_of_ble_eq_true rfl) rfl (k_X1_get (d + 2) (T := T) (σ := σ) (a := p1) (k := p2) (c := 11) h_p1 (by omega) (by decide) hw (by omega)) (fun r8 T10 σ9 gt11 hp => ?_)
    obtain ⟨v13, rfl, rfl, rfl, f12⟩ := hp
    clear gt11
    show Tn _ _ 19 T σ [(0, .ref a), (1, .ref p1), (2, .int (iI p2))] [.int (iI v13)] _
    refine tn_istore_n (L' := [(3, .int (iI v13)), (0, .ref a), (1, .ref p1), (2, .int (iI p2))]) dX10_nameBind_19 rfl (by decide) rfl ?_
    refine tn_iload_n dX10_nameBind_20 rfl 0 rfl ?_
    refine tn_bipush dX10_nameBind_21 (by decide) ?_
    refine tn_icmp_lt (tgt := 39) dX10_nameBind_23 (by decide) ⟨by omega, by omega⟩ ⟨by decide, by decide⟩ (fun h14 => ?_) (fun h14 => ?_)
    · refine tn_iload_n dX10_nameBind_39 rfl 0 rfl ?_
      refine tn_iconst dX10_nameBind_40 ?_
      refine tn_icmp_ne (tgt := 63) dX10_nameBind_41 (by decide) ⟨by omega, by omega⟩ ⟨by decide, by decide⟩ (fun h15 => ?_) (fun h15 => ?_)
      · refine tn_iconst dX10_nameBind_63 ?_
        refine tn_istore (L' := [(4, .int (iI 0)), (3, .int (iI v13)), (0, .ref a), (1, .ref p1), (2, .int (iI p2))]) dX10_nameBind_64 (by decide) rfl ?_
        refine tn_sub [2, 3, 4, 1, 0] rfl (l_X10_nameBind_66 (d) (T := T) (σ := σ) (a := a) (rx1 := p1) (c2 := p2) (c3 := v13) ha h_p1 t_p1 (by omega) (by omega) hw (fun i416 r22 => ?_) (fun i423 r29 => ?_) _ (0) (by omega) rfl)
        · show Tn _ _ 96 T σ [(0, .ref a), (1, .ref p1), (2, .int (iI p2)), (3, .int (iI v13)), (4, .int (iI i416))] [] _
          refine tn_aload_n dX10_nameBind_96 rfl 0 rfl ?_
          obtain ⟨x30, hx31, hk32, hl33⟩ : ∃ x : Nat, σ.2.1 90 a = (x : Int) ∧ AR T x 1 200 200 := wf_90 hw ha
          have hk32i : IA T x30 := by unfold IA; omega
          refine tn_getR (ci := 10) (i := 2) (n := 90) (x := x30) dX10_nameBind_97 rfl lay_10 (by decide) fl10_20 ha rfl rfl (hx31) ?_
          refine tn_iload_n dX10_nameBind_100 rfl 2 rfl ?_
          refine tn_bipush dX10_nameBind_101 (by decide) ?_
          refine tn_iload dX10_nameBind_103 4 rfl ?_
          refine tn_iadd dX10_nameBind_105 ?_
          refine tn_any (fun z34 g35 => ?_)
          have g35r : -2147483648 ≤ z34 ∧ z34 ≤ 2147483647 := g35
          refine tn_callSN (M := m_X10_nameBind) (pc := 106) (ix := 26) (M' := m_X11_put) (As := [.ref x30, .int (iI p2), .int (iI z34)]) (rest := []) dX10_nameBind_106 ok_X11_put stt_X11_put nl10_26 np_X11_put rfl (Nat.le_of_ble_eq_true rfl) (Nat.le_of_ble_eq_true rfl) rfl (k_X11_put (d + 2) (T := T) (σ := σ) (x := x30) (i := p2) (y := z34) hk32i (by omega) (by omega) (by omega) hw (nh_k hk32 (by unfold HT; omega)) (vok_1 (by have q9 := hk32; omega) (by omega))) (fun r36 T38 σ37 gt39 hp => ?_)
          obtain ⟨rfl, rfl, w41, F42⟩ := hp
          clear gt39
          show Tn _ _ 109 T σ37 [(0, .ref a), (1, .ref p1), (2, .int (iI p2)), (3, .int (iI v13)), (4, .int (iI i416))] [] _
          exact tn_vret rfl dX10_nameBind_109 ⟨rfl, rfl, w41, (FrC.rfl.trans (FrC.sub F42 (by decide)))⟩
        · show Tn _ _ 116 T σ [(0, .ref a), (1, .ref p1), (2, .int (iI p2)), (3, .int (iI v13)), (4, .int (iI i423))] [] _
          refine tn_iconst dX10_nameBind_116 ?_
          refine tn_istore (L' := [(4, .int (iI 0)), (0, .ref a), (1, .ref p1), (2, .int (iI p2)), (3, .int (iI v13))]) dX10_nameBind_117 (by decide) rfl ?_
          refine tn_sub [1, 2, 3, 0] rfl (l_X10_nameBind_119 (d) (T := T) (σ := σ) (a := a) (rx1 := p1) (c2 := p2) ha h_p1 t_p1 (by omega) hw (fun i443 r49 => ?_) _ (0) (by omega) rfl)
          show Tn _ _ 153 T σ [(0, .ref a), (1, .ref p1), (2, .int (iI p2)), (4, .int (iI i443))] [] _
          refine tn_aload_n dX10_nameBind_153 rfl 0 rfl ?_
          obtain ⟨x50, hx51, hk52, hl53⟩ : ∃ x : Nat, σ.2.1 90 a = (x : Int) ∧ AR T x 1 200 200 := wf_90 hw ha
          have hk52i : IA T x50 := by unfold IA; omega
          refine tn_getR (ci := 10) (i := 2) (n := 90) (x := x50) dX10_nameBind_154 rfl lay_10 (by decide) fl10_20 ha rfl rfl (hx51) ?_
          refine tn_iload_n dX10_nameBind_157 rfl 2 rfl ?_
          refine tn_bipush dX10_nameBind_158 (by decide) ?_
          refine tn_iload dX10_nameBind_160 3 rfl ?_
          refine tn_iadd dX10_nameBind_162 ?_
          refine tn_any (fun z54 g55 => ?_)
          have g55r : -2147483648 ≤ z54 ∧ z54 ≤ 2147483647 := g55
          refine tn_callSN (M := m_X10_nameBind) (pc := 163) (ix := 26) (M' := m_X11_put) (As := [.ref x50, .int (iI p2), .int (iI z54)]) (rest := []) dX10_nameBind_163 ok_X11_put stt_X11_put nl10_26 np_X11_put rfl (Nat.le_of_ble_eq_true rfl) (Nat.le_of_ble_eq_true rfl) rfl (k_X11_put (d + 2) (T := T) (σ := σ) (x := x50) (i := p2) (y := z54) hk52i (by omega) (by omega) (by omega) hw (nh_k hk52 (by unfold HT; omega)) (vok_1 (by have q9 := hk52; omega) (by omega))) (fun r56 T58 σ57 gt59 hp => ?_)
          obtain ⟨rfl, rfl, w61, F62⟩ := hp
          clear gt59
          show Tn _ _ 166 T σ57 [(0, .ref a), (1, .ref p1), (2, .int (iI p2)), (4, .int (iI i443))] [] _
          exact tn_vret rfl dX10_nameBind_166 ⟨rfl, rfl, w61, (FrC.rfl.trans (FrC.sub F62 (by decide)))⟩
      · refine tn_aload_n dX10_nameBind_44 rfl 2 rfl ?_
        refine tn_iload_n dX10_nameBind_45 rfl 3 rfl ?_
        refine tn_iconst dX10_nameBind_46 ?_
        refine tn_callV (M := m_X10_nameBind) (pc := 47) (ix := 44) (ci := 1) (M' := m_X1_get) (As := [.int (iI p2), .int (iI 4)]) (rest := []) dX10_nameBind_47 ok_X1_get im_X1_get se_X1_get ml10_44 np_X1_get rfl rfl h_p1 rfl (Nat.le_of_ble_eq_true rfl) (Nat.le_of_ble_eq_true rfl) rfl (k_X1_get (d + 2) (T := T) (σ := σ) (a := p1) (k := p2) (c := 4) h_p1 (by omega) (by decide) hw (by omega)) (fun r63 T65 σ64 gt66 hp => ?_)
        obtain ⟨v68, rfl, rfl, rfl, f67⟩ := hp
        clear gt66
        show Tn _ _ 50 T σ [(3, .int (iI v13)), (0, .ref a), (1, .ref p1), (2, .int (iI p2))] [.int (iI v68)] _
        refine tn_if_ne (tgt := 63) dX10_nameBind_50 (by decide) ⟨by omega, by omega⟩ (fun h69 => ?_) (fun h69 => ?_)
        · refine tn_iconst dX10_nameBind_63 ?_
          refine tn_istore (L' := [(4, .int (iI 0)), (3, .int (iI v13)), (0, .ref a), (1, .ref p1), (2, .int (iI p2))]) dX10_nameBind_64 (by decide) rfl ?_
          refine tn_sub [2, 3, 4, 1, 0] rfl (l_X10_nameBind_66 (d) (T := T) (σ := σ) (a := a) (rx1 := p1) (c2 := p2) (c3 := v13) ha h_p1 t_p1 (by omega) (by omega) hw (fun i470 r76 => ?_) (fun i477 r83 => ?_) _ (0) (by omega) rfl)
          · show Tn _ _ 96 T σ [(0, .ref a), (1, .ref p1), (2, .int (iI p2)), (3, .int (iI v13)), (4, .int (iI i470))] [] _
            refine tn_aload_n dX10_nameBind_96 rfl 0 rfl ?_
            obtain ⟨x84, hx85, hk86, hl87⟩ : ∃ x : Nat, σ.2.1 90 a = (x : Int) ∧ AR T x 1 200 200 := wf_90 hw ha
            have hk86i : IA T x84 := by unfold IA; omega
            refine tn_getR (ci := 10) (i := 2) (n := 90) (x := x84) dX10_nameBind_97 rfl lay_10 (by decide) fl10_20 ha rfl rfl (hx85) ?_
            refine tn_iload_n dX10_nameBind_100 rfl 2 rfl ?_
            refine tn_bipush dX10_nameBind_101 (by decide) ?_
            refine tn_iload dX10_nameBind_103 4 rfl ?_
            refine tn_iadd dX10_nameBind_105 ?_
            refine tn_any (fun z88 g89 => ?_)
            have g89r : -2147483648 ≤ z88 ∧ z88 ≤ 2147483647 := g89
            refine tn_callSN (M := m_X10_nameBind) (pc := 106) (ix := 26) (M' := m_X11_put) (As := [.ref x84, .int (iI p2), .int (iI z88)]) (rest := []) dX10_nameBind_106 ok_X11_put stt_X11_put nl10_26 np_X11_put rfl (Nat.le_of_ble_eq_true rfl) (Nat.le_of_ble_eq_true rfl) rfl (k_X11_put (d + 2) (T := T) (σ := σ) (x := x84) (i := p2) (y := z88) hk86i (by omega) (by omega) (by omega) hw (nh_k hk86 (by unfold HT; omega)) (vok_1 (by have q9 := hk86; omega) (by omega))) (fun r90 T92 σ91 gt93 hp => ?_)
            obtain ⟨rfl, rfl, w95, F96⟩ := hp
            clear gt93
            show Tn _ _ 109 T σ91 [(0, .ref a), (1, .ref p1), (2, .int (iI p2)), (3, .int (iI v13)), (4, .int (iI i470))] [] _
            exact tn_vret rfl dX10_nameBind_109 ⟨rfl, rfl, w95, (FrC.rfl.trans (FrC.sub F96 (by decide)))⟩
          · show Tn _ _ 116 T σ [(0, .ref a), (1, .ref p1), (2, .int (iI p2)), (3, .int (iI v13)), (4, .int (iI i477))] [] _
            refine tn_iconst dX10_nameBind_116 ?_
            refine tn_istore (L' := [(4, .int (iI 0)), (0, .ref a), (1, .ref p1), (2, .int (iI p2)), (3, .int (iI v13))]) dX10_nameBind_117 (by decide) rfl ?_
            refine tn_sub [1, 2, 3, 0] rfl (l_X10_nameBind_119 (d) (T := T) (σ := σ) (a := a) (rx1 := p1) (c2 := p2) ha h_p1 t_p1 (by omega) hw (fun i497 r103 => ?_) _ (0) (by omega) rfl)
            show Tn _ _ 153 T σ [(0, .ref a), (1, .ref p1), (2, .int (iI p2)), (4, .int (iI i497))] [] _
            refine tn_aload_n dX10_nameBind_153 rfl 0 rfl ?_
            obtain ⟨x104, hx105, hk106, hl107⟩ : ∃ x : Nat, σ.2.1 90 a = (x : Int) ∧ AR T x 1 200 200 := wf_90 hw ha
            have hk106i : IA T x104 := by unfold IA; omega
            refine tn_getR (ci := 10) (i := 2) (n := 90) (x := x104) dX10_nameBind_154 rfl lay_10 (by decide) fl10_20 ha rfl rfl (hx105) ?_
            refine tn_iload_n dX10_nameBind_157 rfl 2 rfl ?_
            refine tn_bipush dX10_nameBind_158 (by decide) ?_
            refine tn_iload dX10_nameBind_160 3 rfl ?_
            refine tn_iadd dX10_nameBind_162 ?_
            refine tn_any (fun z108 g109 => ?_)
            have g109r : -2147483648 ≤ z108 ∧ z108 ≤ 2147483647 := g109
            refine tn_callSN (M := m_X10_nameBind) (pc := 163) (ix := 26) (M' := m_X11_put) (As := [.ref x104, .int (iI p2), .int (iI z108)]) (rest := []) dX10_nameBind_163 ok_X11_put stt_X11_put nl10_26 np_X11_put rfl (Nat.le_of_ble_eq_true rfl) (Nat.le_of_ble_eq_true rfl) rfl (k_X11_put (d + 2) (T := T) (σ := σ) (x := x104) (i := p2) (y := z108) hk106i (by omega) (by omega) (by omega) hw (nh_k hk106 (by unfold HT; omega)) (vok_1 (by have q9 := hk106; omega) (by omega))) (fun r110 T112 σ111 gt113 hp => ?_)
            obtain ⟨rfl, rfl, w115, F116⟩ := hp
            clear gt113
            show Tn _ _ 166 T σ111 [(0, .ref a), (1, .ref p1), (2, .int (iI p2)), (4, .int (iI i497))] [] _
            exact tn_vret rfl dX10_nameBind_166 ⟨rfl, rfl, w115, (FrC.rfl.trans (FrC.sub F116 (by decide)))⟩
        · refine tn_aload_n dX10_nameBind_53 rfl 1 rfl ?_
          obtain ⟨x117, hx118, hk119, hl120⟩ : ∃ x : Nat, σ.2.1 90 a = (x : Int) ∧ AR T x 1 200 200 := wf_90 hw ha
          have hk119i : IA T x117 := by unfold IA; omega
          refine tn_getR (ci := 10) (i := 2) (n := 90) (x := x117) dX10_nameBind_54 rfl lay_10 (by decide) fl10_20 ha rfl rfl (hx118) ?_
          refine tn_iload_n dX10_nameBind_57 rfl 3 rfl ?_
          refine tn_iconst dX10_nameBind_58 ?_
          refine tn_callSN (M := m_X10_nameBind) (pc := 59) (ix := 26) (M' := m_X11_put) (As := [.ref x117, .int (iI p2), .int (iI 5)]) (rest := []) dX10_nameBind_59 ok_X11_put stt_X11_put nl10_26 np_X11_put rfl (Nat.le_of_ble_eq_true rfl) (Nat.le_of_ble_eq_true rfl) rfl (k_X11_put (d + 2) (T := T) (σ := σ) (x := x117) (i := p2) (y := 5) hk119i (by omega) (by omega) (by decide) hw (nh_k hk119 (by unfold HT; omega)) (vok_1 (by have q9 := hk119; omega) (by omega))) (fun r121 T123 σ122 gt124 hp => ?_)
          obtain ⟨rfl, rfl, w126, F127⟩ := hp
          clear gt124
          show Tn _ _ 62 T σ122 [(3, .int (iI v13)), (0, .ref a), (1, .ref p1), (2, .int (iI p2))] [] _
          exact tn_vret rfl dX10_nameBind_62 ⟨rfl, rfl, w126, (FrC.rfl.trans (FrC.sub F127 (by decide)))⟩
    · refine tn_aload_n dX10_nameBind_26 rfl 1 rfl ?_
      obtain ⟨x128, hx129, hk130, hl131⟩ : ∃ x : Nat, σ.2.1 90 a = (x : Int) ∧ AR T x 1 200 200 := wf_90 hw ha
      have hk130i : IA T x128 := by unfold IA; omega
      refine tn_getR (ci := 10) (i := 2) (n := 90) (x := x128) dX10_nameBind_27 rfl lay_10 (by decide) fl10_20 ha rfl rfl (hx129) ?_
      refine tn_iload_n dX10_nameBind_30 rfl 3 rfl ?_
      refine tn_iload_n dX10_nameBind_31 rfl 0 rfl ?_
      refine tn_bipush dX10_nameBind_32 (by decide) ?_
      refine tn_isub dX10_nameBind_34 ?_
      refine tn_callSN (M := m_X10_nameBind) (pc := 35) (ix := 26) (M' := m_X11_put) (As := [.ref x128, .int (iI p2), .int (iI (v13 - 10))]) (rest := []) dX10_nameBind_35 ok_X11_put stt_X11_put nl10_26 np_X11_put rfl (Nat.le_of_ble_eq_true rfl) (Nat.le_of_ble_eq_true rfl) rfl (k_X11_put (d + 2) (T := T) (σ := σ) (x := x128) (i := p2) (y := v13 - 10) hk130i (by omega) (by omega) (by omega) hw (nh_k hk130 (by unfold HT; omega)) (vok_1 (by have q9 := hk130; omega) (by omega))) (fun r132 T134 σ133 gt135 hp => ?_)
      obtain ⟨rfl, rfl, w137, F138⟩ := hp
      clear gt135
      show Tn _ _ 38 T σ133 [(3, .int (iI v13)), (0, .ref a), (1, .ref p1), (2, .int (iI p2))] [] _
      exact tn_vret rfl dX10_nameBind_38 ⟨rfl, rfl, w137, (FrC.rfl.trans (FrC.sub F138 (by decide)))⟩
  · exact tn_vret rfl dX10_nameBind_11 ⟨rfl, rfl, hw, FrC.rfl⟩
