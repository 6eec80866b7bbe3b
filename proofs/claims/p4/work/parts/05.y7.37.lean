theorem cd_X8_renumber : Cond.code yX8_renumber cX8_renumber 5 none ∈ pWW := pw6 (List.mem_of_getElem? (i := 23) rfl) rfl
abbrev m_X8_renumber : MT := (yX8_renumber, cX8_renumber, 5, none)
theorem ok_X8_renumber : pOk m_X8_renumber := ⟨⟨cd_X8_renumber, ini_8⟩, by decide +kernel, ⟨by decide +kernel, by decide +kernel⟩, Nat.le_of_ble_eq_true rfl⟩
theorem np_X8_renumber : (parseMethodDescriptor yX8_renumber.desc).map (fun d => d.parameters.length) = some 1 := by decide +kernel
theorem im_X8_renumber : Cond.instanceMethod yX8_renumber ∈ pWW := pw6 (List.mem_of_getElem? (i := 22) rfl) rfl
theorem se_X8_renumber : Cond.selects RX8 yX8_renumber yX8_renumber ∈ pWW := pws (List.mem_map.mpr ⟨_, lw_pin 84 rfl, rfl⟩) rfl
theorem fl8_172 : Cond.fieldLink RX8 172 (TX1 5).1 (TX1 5).2.1 (TX1 5).2.2.1 ∈ pWW := pw1 (List.mem_of_getElem? (i := 106) rfl) rfl
theorem fl8_175 : Cond.fieldLink RX8 175 (TX1 10).1 (TX1 10).2.1 (TX1 10).2.2.1 ∈ pWW := pw1 (List.mem_of_getElem? (i := 126) rfl) rfl
theorem dX8_renumber_0 : decode cX8_renumber 0 = .ok (.iconst 0, 1) := by decide +kernel
theorem dX8_renumber_1 : decode cX8_renumber 1 = .ok (.istore_n 2, 1) := by decide +kernel
theorem dX8_renumber_2 : decode cX8_renumber 2 = .ok (.iload_n 2, 1) := by decide +kernel
theorem dX8_renumber_3 : decode cX8_renumber 3 = .ok (.aload_n 1, 1) := by decide +kernel
theorem dX8_renumber_4 : decode cX8_renumber 4 = .ok (.getfield 172, 3) := by decide +kernel
theorem dX8_renumber_7 : decode cX8_renumber 7 = .ok (.bipush 12, 2) := by decide +kernel
theorem dX8_renumber_9 : decode cX8_renumber 9 = .ok (.imul, 1) := by decide +kernel
theorem dX8_renumber_10 : decode cX8_renumber 10 = .ok (.if_icmp .ge 32, 3) := by decide +kernel
theorem dX8_renumber_13 : decode cX8_renumber 13 = .ok (.aload_n 1, 1) := by decide +kernel
theorem dX8_renumber_14 : decode cX8_renumber 14 = .ok (.getfield 175, 3) := by decide +kernel
theorem dX8_renumber_17 : decode cX8_renumber 17 = .ok (.iload_n 2, 1) := by decide +kernel
theorem dX8_renumber_18 : decode cX8_renumber 18 = .ok (.aload_n 0, 1) := by decide +kernel
theorem dX8_renumber_19 : decode cX8_renumber 19 = .ok (.getfield 18, 3) := by decide +kernel
theorem dX8_renumber_22 : decode cX8_renumber 22 = .ok (.aload_n 1, 1) := by decide +kernel
theorem dX8_renumber_23 : decode cX8_renumber 23 = .ok (.getfield 175, 3) := by decide +kernel
theorem dX8_renumber_26 : decode cX8_renumber 26 = .ok (.iload_n 2, 1) := by decide +kernel
theorem dX8_renumber_27 : decode cX8_renumber 27 = .ok (.invokestatic 74, 3) := by decide +kernel
theorem dX8_renumber_30 : decode cX8_renumber 30 = .ok (.invokestatic 74, 3) := by decide +kernel
theorem dX8_renumber_33 : decode cX8_renumber 33 = .ok (.invokestatic 128, 3) := by decide +kernel
theorem dX8_renumber_36 : decode cX8_renumber 36 = .ok (.iinc 2 1, 3) := by decide +kernel
theorem dX8_renumber_39 : decode cX8_renumber 39 = .ok (.goto (-37), 3) := by decide +kernel
set_option maxRecDepth 20000 in
theorem l_X8_renumber_2 (d : Nat) {T : CT} {σ0 : MS} {a : Nat} {rx1 : Nat} {post : Option Value → CT → MS → Prop} (h_a : OB T a 8) (h_rx1 : OB T rx1 1) (t_rx1 : (T rx1).1 = 50) (hw0 : WT T σ0) (hx_42 : ∀ (i2 : Int) (σ : MS) , (WT T σ) → (FrC T [] σ0 σ) → (0 ≤ i2 ∧ i2 ≤ 2147483647) → Tn (d + 3) m_X8_renumber 42 T σ [(0, .ref a), (1, .ref rx1), (2, .int (iI i2))] [] post) : ∀ (n : Nat) (i2 : Int) (σ : MS) , (WT T σ) → (FrC T [] σ0 σ) → (0 ≤ i2 ∧ i2 ≤ 2147483647) → (2147483700 - i2).toNat = n → Tn (d + 3) m_X8_renumber 2 T σ [(0, .ref a), (1, .ref rx1), (2, .int (iI i2))] [] post := by
  intro n
  induction n using Nat.strongRecOn with
  | _ n ih =>
    intro i2 σ hw hF r_i2 hm
    refine tn_iload_n dX8_renumber_2 rfl 2 rfl ?_
    refine tn_aload_n dX8_renumber_3 rfl 1 rfl ?_
    refine tn_getI (ci := 1) (i := 5) (n := 10) (t := σ0.2.1 10 rx1) dX8_renumber_4 rfl lay_1 (by decide) fl8_172 h_rx1 rfl rfl (rc_F hF (Or.inl (by decide)) (by decide) (rfl)) ?_
    have g1 : ((0 : Int) ≤ σ0.2.1 10 rx1 ∧ σ0.2.1 10 rx1 ≤ 12) := wf_10 hw0 h_rx1
    refine tn_bipush dX8_renumber_7 (by decide) ?_
    refine tn_imul dX8_renumber_9 ?_
    refine tn_icmp_ge (tgt := 42) dX8_renumber_10 (by decide) ⟨by omega, by omega⟩ ⟨by omega, by omega⟩ (fun h2 => ?_) (fun h2 => ?_)
    · exact tn_sub [0, 1, 2] rfl (hx_42 (i2) σ hw (FrC.rfl.trans (FrC.sub hF (by decide))) (by omega))
    · refine tn_aload_n dX8_renumber_13 rfl 1 rfl ?_
      obtain ⟨x3, hx4, hk5, hl6⟩ : ∃ x : Nat, σ0.2.1 15 rx1 = (x : Int) ∧ AR T x 1 144 144 := wf_15 hw0 h_rx1
      have hk5i : IA T x3 := by unfold IA; omega
      refine tn_getR (ci := 1) (i := 10) (n := 15) (x := x3) dX8_renumber_14 rfl lay_1 (by decide) fl8_175 h_rx1 rfl rfl (rc_F hF (Or.inl (by decide)) (by decide) (hx4)) ?_
      refine tn_iload_n dX8_renumber_17 rfl 2 rfl ?_
      refine tn_aload_n dX8_renumber_18 rfl 0 rfl ?_
      obtain ⟨x7, hx8, hk9, hl10⟩ : ∃ x : Nat, σ0.2.1 75 a = (x : Int) ∧ AR T x 1 192 192 := wf_75 hw0 h_a
      have hk9i : IA T x7 := by unfold IA; omega
      refine tn_getR (ci := 8) (i := 3) (n := 75) (x := x7) dX8_renumber_19 rfl lay_8 (by decide) fl8_18 h_a rfl rfl (rc_F hF (Or.inl (by decide)) (by decide) (hx8)) ?_
      refine tn_aload_n dX8_renumber_22 rfl 1 rfl ?_
      refine tn_getR (ci := 1) (i := 10) (n := 15) (x := x3) dX8_renumber_23 rfl lay_1 (by decide) fl8_175 h_rx1 rfl rfl (rc_F hF (Or.inl (by decide)) (by decide) (hx4)) ?_
      refine tn_iload_n dX8_renumber_26 rfl 2 rfl ?_
      refine tn_callSN (M := m_X8_renumber) (pc := 27) (ix := 74) (M' := m_X11_at) (As := [.ref x3, .int (iI i2)]) (rest := [.ref x7, .int (iI i2), .ref x3]) dX8_renumber_27 ok_X11_at stt_X11_at nl8_74 np_X11_at rfl (Nat.le_of_ble_eq_true rfl) (Nat.le_of_ble_eq_true rfl) rfl (k_X11_at (d + 1) (T := T) (σ := σ) (x := x3) (i := i2) hk5i (by omega) (by omega) hw ) (fun r11 T13 σ12 gt14 hp => ?_)
      obtain ⟨v18, rfl, rfl, rfl, f15, f16, f17⟩ := hp
      clear gt14
      clear f16 f17
      show Tn _ _ 30 T σ [(0, .ref a), (1, .ref rx1), (2, .int (iI i2))] [.int (iI v18), .ref x7, .int (iI i2), .ref x3] _
      refine tn_callSN (M := m_X8_renumber) (pc := 30) (ix := 74) (M' := m_X11_at) (As := [.ref x7, .int (iI v18)]) (rest := [.int (iI i2), .ref x3]) dX8_renumber_30 ok_X11_at stt_X11_at nl8_74 np_X11_at rfl (Nat.le_of_ble_eq_true rfl) (Nat.le_of_ble_eq_true rfl) rfl (k_X11_at (d + 1) (T := T) (σ := σ) (x := x7) (i := v18) hk9i (by omega) (by omega) hw ) (fun r19 T21 σ20 gt22 hp => ?_)
      obtain ⟨v26, rfl, rfl, rfl, f23, f24, f25⟩ := hp
      clear gt22
      clear f24 f25
      show Tn _ _ 33 T σ [(0, .ref a), (1, .ref rx1), (2, .int (iI i2))] [.int (iI v26), .int (iI i2), .ref x3] _
      refine tn_callSN (M := m_X8_renumber) (pc := 33) (ix := 128) (M' := m_X11_put) (As := [.ref x3, .int (iI i2), .int (iI v26)]) (rest := []) dX8_renumber_33 ok_X11_put stt_X11_put nl8_128 np_X11_put rfl (Nat.le_of_ble_eq_true rfl) (Nat.le_of_ble_eq_true rfl) rfl (k_X11_put (d + 1) (T := T) (σ := σ) (x := x3) (i := i2) (y := v26) hk5i (by omega) (by omega) (by omega) hw (nh_k hk5 (by unfold HT; omega)) (vok_1 (by have q9 := hk5; omega) (by omega))) (fun r27 T29 σ28 gt30 hp => ?_)
      obtain ⟨rfl, rfl, w32, F33⟩ := hp
      clear gt30
      show Tn _ _ 36 T σ28 [(0, .ref a), (1, .ref rx1), (2, .int (iI i2))] [] _
      refine tn_iinc (q0 := 2) (L' := [(2, .int (iI (i2 + 1))), (0, .ref a), (1, .ref rx1)]) dX8_renumber_36 rfl (by decide) rfl ?_
      refine tn_goto (tgt := 2) dX8_renumber_39 (by decide) ?_
      exact tn_sub [1, 2, 0] rfl (ih _ (by omega) (i2 + 1) σ28 w32 ((FrC.rfl.trans (FrC.sub hF (by decide))).trans (FrC.sub F33 (by decide))) (by omega) rfl)
theorem ml8_178 : Cond.methodLink RX8 178 yX1_set ∈ pWW := pw6 (List.mem_of_getElem? (i := 24) rfl) rfl
theorem dX8_renumber_42 : decode cX8_renumber 42 = .ok (.iconst 0, 1) := by decide +kernel
theorem dX8_renumber_43 : decode cX8_renumber 43 = .ok (.istore_n 2, 1) := by decide +kernel
theorem dX8_renumber_44 : decode cX8_renumber 44 = .ok (.iload_n 2, 1) := by decide +kernel
theorem dX8_renumber_45 : decode cX8_renumber 45 = .ok (.aload_n 1, 1) := by decide +kernel
theorem dX8_renumber_46 : decode cX8_renumber 46 = .ok (.getfield 70, 3) := by decide +kernel
theorem dX8_renumber_49 : decode cX8_renumber 49 = .ok (.if_icmp .ge 127, 3) := by decide +kernel
theorem dX8_renumber_52 : decode cX8_renumber 52 = .ok (.aload_n 1, 1) := by decide +kernel
theorem dX8_renumber_53 : decode cX8_renumber 53 = .ok (.iload_n 2, 1) := by decide +kernel
theorem dX8_renumber_54 : decode cX8_renumber 54 = .ok (.invokevirtual 120, 3) := by decide +kernel
theorem dX8_renumber_57 : decode cX8_renumber 57 = .ok (.istore_n 3, 1) := by decide +kernel
theorem dX8_renumber_58 : decode cX8_renumber 58 = .ok (.iload_n 3, 1) := by decide +kernel
theorem dX8_renumber_59 : decode cX8_renumber 59 = .ok (.iconst (-1), 1) := by decide +kernel
theorem dX8_renumber_60 : decode cX8_renumber 60 = .ok (.if_icmp .eq 17, 3) := by decide +kernel
theorem dX8_renumber_77 : decode cX8_renumber 77 = .ok (.aload_n 1, 1) := by decide +kernel
theorem dX8_renumber_78 : decode cX8_renumber 78 = .ok (.iload_n 2, 1) := by decide +kernel
theorem dX8_renumber_79 : decode cX8_renumber 79 = .ok (.iconst 0, 1) := by decide +kernel
theorem dX8_renumber_80 : decode cX8_renumber 80 = .ok (.invokevirtual 166, 3) := by decide +kernel
theorem dX8_renumber_83 : decode cX8_renumber 83 = .ok (.bipush 12, 2) := by decide +kernel
theorem dX8_renumber_85 : decode cX8_renumber 85 = .ok (.if_icmp .ne 33, 3) := by decide +kernel
theorem dX8_renumber_118 : decode cX8_renumber 118 = .ok (.iconst 3, 1) := by decide +kernel
theorem dX8_renumber_119 : decode cX8_renumber 119 = .ok (.istore 4, 2) := by decide +kernel
theorem dX8_renumber_121 : decode cX8_renumber 121 = .ok (.iload 4, 2) := by decide +kernel
theorem dX8_renumber_123 : decode cX8_renumber 123 = .ok (.bipush 11, 2) := by decide +kernel
theorem dX8_renumber_125 : decode cX8_renumber 125 = .ok (.if_icmp .ge 45, 3) := by decide +kernel
theorem dX8_renumber_128 : decode cX8_renumber 128 = .ok (.aload_n 1, 1) := by decide +kernel
theorem dX8_renumber_129 : decode cX8_renumber 129 = .ok (.iload_n 2, 1) := by decide +kernel
theorem dX8_renumber_130 : decode cX8_renumber 130 = .ok (.iload 4, 2) := by decide +kernel
theorem dX8_renumber_132 : decode cX8_renumber 132 = .ok (.invokevirtual 166, 3) := by decide +kernel
theorem dX8_renumber_135 : decode cX8_renumber 135 = .ok (.iconst 2, 1) := by decide +kernel
theorem dX8_renumber_136 : decode cX8_renumber 136 = .ok (.if_icmp .ne 28, 3) := by decide +kernel
theorem dX8_renumber_164 : decode cX8_renumber 164 = .ok (.iinc 4 2, 3) := by decide +kernel
theorem dX8_renumber_167 : decode cX8_renumber 167 = .ok (.goto (-46), 3) := by decide +kernel
theorem dX8_renumber_139 : decode cX8_renumber 139 = .ok (.aload_n 1, 1) := by decide +kernel
theorem dX8_renumber_140 : decode cX8_renumber 140 = .ok (.iload_n 2, 1) := by decide +kernel
theorem dX8_renumber_141 : decode cX8_renumber 141 = .ok (.iload 4, 2) := by decide +kernel
theorem dX8_renumber_143 : decode cX8_renumber 143 = .ok (.iconst 1, 1) := by decide +kernel
theorem dX8_renumber_144 : decode cX8_renumber 144 = .ok (.iadd, 1) := by decide +kernel
theorem dX8_renumber_145 : decode cX8_renumber 145 = .ok (.aload_n 0, 1) := by decide +kernel
theorem dX8_renumber_146 : decode cX8_renumber 146 = .ok (.getfield 18, 3) := by decide +kernel
theorem dX8_renumber_149 : decode cX8_renumber 149 = .ok (.aload_n 1, 1) := by decide +kernel
theorem dX8_renumber_150 : decode cX8_renumber 150 = .ok (.iload_n 2, 1) := by decide +kernel
theorem dX8_renumber_151 : decode cX8_renumber 151 = .ok (.iload 4, 2) := by decide +kernel
theorem dX8_renumber_153 : decode cX8_renumber 153 = .ok (.iconst 1, 1) := by decide +kernel
theorem dX8_renumber_154 : decode cX8_renumber 154 = .ok (.iadd, 1) := by decide +kernel
theorem dX8_renumber_155 : decode cX8_renumber 155 = .ok (.invokevirtual 166, 3) := by decide +kernel
theorem dX8_renumber_158 : decode cX8_renumber 158 = .ok (.invokestatic 74, 3) := by decide +kernel
theorem dX8_renumber_161 : decode cX8_renumber 161 = .ok (.invokevirtual 178, 3) := by decide +kernel
set_option maxRecDepth 20000 in
theorem l_X8_renumber_121 (d : Nat) {T : CT} {σ0 : MS} {a : Nat} {rx1 : Nat} {c2 : Int} {post : Option Value → CT → MS → Prop} (h_a : OB T a 8) (h_rx1 : OB T rx1 1) (t_rx1 : (T rx1).1 = 50) (r_c2 : 0 ≤ c2 ∧ c2 ≤ 199) (hw0 : WT T σ0) (hx_170 : ∀ (i4 : Int) (σ : MS) , (WT T σ) → (FrC T [] σ0 σ) → (3 ≤ i4 ∧ i4 ≤ 2147483647) → Tn (d + 3) m_X8_renumber 170 T σ [(0, .ref a), (1, .ref rx1), (2, .int (iI c2)), (4, .int (iI i4))] [] post) : ∀ (n : Nat) (i4 : Int) (σ : MS) , (WT T σ) → (FrC T [] σ0 σ) → (3 ≤ i4 ∧ i4 ≤ 2147483647) → (2147483700 - i4).toNat = n → Tn (d + 3) m_X8_renumber 121 T σ [(0, .ref a), (1, .ref rx1), (2, .int (iI c2)), (4, .int (iI i4))] [] post := by
  intro n
  induction n using Nat.strongRecOn with
  | _ n ih =>
    intro i4 σ hw hF r_i4 hm
    refine tn_iload dX8_renumber_121 3 rfl ?_
    refine tn_bipush dX8_renumber_123 (by decide) ?_
    refine tn_icmp_ge (tgt := 170) dX8_renumber_125 (by decide) ⟨by omega, by omega⟩ ⟨by decide, by decide⟩ (fun h1 => ?_) (fun h1 => ?_)
    · exact tn_sub [0, 1, 2, 3] rfl (hx_170 (i4) σ hw (FrC.rfl.trans (FrC.sub hF (by decide))) (by omega))
    · refine tn_aload_n dX8_renumber_128 rfl 1 rfl ?_
      refine tn_iload_n dX8_renumber_129 rfl 2 rfl ?_
      refine tn_iload dX8_renumber_130 3 rfl ?_
      refine tn_callV (M := m_X8_renumber) (pc := 132) (ix := 166) (ci := 1) (M' := m_X1_get) (As := [.int (iI c2), .int (iI i4)]) (rest := []) dX8_renumber_132 ok_X1_get im_X1_get se_X1_get ml8_166 np_X1_get rfl rfl h_rx1 rfl (Nat.le_of_ble_eq_true rfl) (Nat.le_of_ble_eq_true rfl) rfl (k_X1_get (d + 1) (T := T) (σ := σ) (a := rx1) (k := c2) (c := i4) h_rx1 (by omega) (by omega) hw (by omega)) (fun r2 T4 σ3 gt5 hp => ?_)
      obtain ⟨v7, rfl, rfl, rfl, f6⟩ := hp
      clear gt5
      show Tn _ _ 135 T σ [(0, .ref a), (1, .ref rx1), (2, .int (iI c2)), (4, .int (iI i4))] [.int (iI v7)] _
      refine tn_iconst dX8_renumber_135 ?_
      refine tn_icmp_ne (tgt := 164) dX8_renumber_136 (by decide) ⟨by omega, by omega⟩ ⟨by decide, by decide⟩ (fun h8 => ?_) (fun h8 => ?_)
      · refine tn_iinc (q0 := 3) (L' := [(4, .int (iI (i4 + 2))), (0, .ref a), (1, .ref rx1), (2, .int (iI c2))]) dX8_renumber_164 rfl (by decide) rfl ?_
        refine tn_goto (tgt := 121) dX8_renumber_167 (by decide) ?_
        exact tn_sub [1, 2, 3, 0] rfl (ih _ (by omega) (i4 + 2) σ hw (FrC.rfl.trans (FrC.sub hF (by decide))) (by omega) rfl)
      · refine tn_aload_n dX8_renumber_139 rfl 1 rfl ?_
        refine tn_iload_n dX8_renumber_140 rfl 2 rfl ?_
        refine tn_iload dX8_renumber_141 3 rfl ?_
        refine tn_iconst dX8_renumber_143 ?_
        refine tn_iadd dX8_renumber_144 ?_
        refine tn_aload_n dX8_renumber_145 rfl 0 rfl ?_
        obtain ⟨x9, hx10, hk11, hl12⟩ : ∃ x : Nat, σ0.2.1 75 a = (x : Int) ∧ AR T x 1 192 192 := wf_75 hw0 h_a
        have hk11i : IA T x9 := by unfold IA; omega
        refine tn_getR (ci := 8) (i := 3) (n := 75) (x := x9) dX8_renumber_146 rfl lay_8 (by decide) fl8_18 h_a rfl rfl (rc_F hF (Or.inl (by decide)) (by decide) (hx10)) ?_
        refine tn_aload_n dX8_renumber_149 rfl 1 rfl ?_
        refine tn_iload_n dX8_renumber_150 rfl 2 rfl ?_
        refine tn_iload dX8_renumber_151 3 rfl ?_
        refine tn_iconst dX8_renumber_153 ?_
        refine tn_iadd dX8_renumber_154 ?_
        refine tn_callV (M := m_X8_renumber) (pc := 155) (ix := 166) (ci := 1) (M' := m_X1_get) (As := [.int (iI c2), .int (iI (i4 + 1))]) (rest := [.ref x9, .int (iI (i4 + 1)), .int (iI c2), .ref rx1]) dX8_renumber_155 ok_X1_get im_X1_get se_X1_get ml8_166 np_X1_get rfl rfl h_rx1 rfl (Nat.le_of_ble_eq_true rfl) (Nat.le_of_ble_eq_true rfl) rfl (k_X1_get (d + 1) (T := T) (σ := σ) (a := rx1) (k := c2) (c := i4 + 1) h_rx1 (by omega) (by omega) hw (by omega)) (fun r13 T15 σ14 gt16 hp => ?_)
        obtain ⟨v18, rfl, rfl, rfl, f17⟩ := hp
        clear gt16
        show Tn _ _ 158 T σ [(0, .ref a), (1, .ref rx1), (2, .int (iI c2)), (4, .int (iI i4))] [.int (iI v18), .ref x9, .int (iI (i4 + 1)), .int (iI c2), .ref rx1] _
        refine tn_callSN (M := m_X8_renumber) (pc := 158) (ix := 74) (M' := m_X11_at) (As := [.ref x9, .int (iI v18)]) (rest := [.int (iI (i4 + 1)), .int (iI c2), .ref rx1]) dX8_renumber_158 ok_X11_at stt_X11_at nl8_74 np_X11_at rfl (Nat.le_of_ble_eq_true rfl) (Nat.le_of_ble_eq_true rfl) rfl (k_X11_at (d + 1) (T := T) (σ := σ) (x := x9) (i := v18) hk11i (by omega) (by omega) hw ) (fun r19 T21 σ20 gt22 hp => ?_)
        obtain ⟨v26, rfl, rfl, rfl, f23, f24, f25⟩ := hp
        clear gt22
        clear f24 f25
        show Tn _ _ 161 T σ [(0, .ref a), (1, .ref rx1), (2, .int (iI c2)), (4, .int (iI i4))] [.int (iI v26), .int (iI (i4 + 1)), .int (iI c2), .ref rx1] _
        refine tn_callV (M := m_X8_renumber) (pc := 161) (ix := 178) (ci := 1) (M' := m_X1_set) (As := [.int (iI c2), .int (iI (i4 + 1)), .int (iI v26)]) (rest := []) dX8_renumber_161 ok_X1_set im_X1_set se_X1_set ml8_178 np_X1_set rfl rfl h_rx1 rfl (Nat.le_of_ble_eq_true rfl) (Nat.le_of_ble_eq_true rfl) rfl (k_X1_set (d + 1) (T := T) (σ := σ) (a := rx1) (k := c2) (c := i4 + 1) (y := v26) h_rx1 (by omega) (by omega) (by omega) hw (by omega) (by omega)) (fun r27 T29 σ28 gt30 hp => ?_)
        obtain ⟨rfl, rfl, w32, F33⟩ := hp
        clear gt30
        show Tn _ _ 164 T σ28 [(0, .ref a), (1, .ref rx1), (2, .int (iI c2)), (4, .int (iI i4))] [] _
        refine tn_iinc (q0 := 3) (L' := [(4, .int (iI (i4 + 2))), (0, .ref a), (1, .ref rx1), (2, .int (iI c2))]) dX8_renumber_164 rfl (by decide) rfl ?_
        refine tn_goto (tgt := 121) dX8_renumber_167 (by decide) ?_
        exact tn_sub [1, 2, 3, 0] rfl (ih _ (by omega) (i4 + 2) σ28 w32 ((FrC.rfl.trans (FrC.sub hF (by decide))).trans (FrC.sub F33 (by decide))) (by omega) rfl)
theorem dX8_renumber_170 : decode cX8_renumber 170 = .ok (.iinc 2 1, 3) := by decide +kernel
theorem dX8_renumber_173 : decode cX8_renumber 173 = .ok (.goto (-129), 3) := by decide +kernel
theorem dX8_renumber_88 : decode cX8_renumber 88 = .ok (.aload_n 1, 1) := by decide +kernel
theorem dX8_renumber_89 : decode cX8_renumber 89 = .ok (.iload_n 2, 1) := by decide +kernel
theorem dX8_renumber_90 : decode cX8_renumber 90 = .ok (.bipush 11, 2) := by decide +kernel
theorem dX8_renumber_92 : decode cX8_renumber 92 = .ok (.invokevirtual 166, 3) := by decide +kernel
theorem dX8_renumber_95 : decode cX8_renumber 95 = .ok (.iconst 2, 1) := by decide +kernel
theorem dX8_renumber_96 : decode cX8_renumber 96 = .ok (.if_icmp .ne 22, 3) := by decide +kernel
theorem dX8_renumber_99 : decode cX8_renumber 99 = .ok (.aload_n 1, 1) := by decide +kernel
theorem dX8_renumber_100 : decode cX8_renumber 100 = .ok (.iload_n 2, 1) := by decide +kernel
theorem dX8_renumber_101 : decode cX8_renumber 101 = .ok (.iconst 4, 1) := by decide +kernel
theorem dX8_renumber_102 : decode cX8_renumber 102 = .ok (.aload_n 0, 1) := by decide +kernel
theorem dX8_renumber_103 : decode cX8_renumber 103 = .ok (.getfield 18, 3) := by decide +kernel
theorem dX8_renumber_106 : decode cX8_renumber 106 = .ok (.aload_n 1, 1) := by decide +kernel
theorem dX8_renumber_107 : decode cX8_renumber 107 = .ok (.iload_n 2, 1) := by decide +kernel
theorem dX8_renumber_108 : decode cX8_renumber 108 = .ok (.iconst 4, 1) := by decide +kernel
theorem dX8_renumber_109 : decode cX8_renumber 109 = .ok (.invokevirtual 166, 3) := by decide +kernel
theorem dX8_renumber_112 : decode cX8_renumber 112 = .ok (.invokestatic 74, 3) := by decide +kernel
theorem dX8_renumber_115 : decode cX8_renumber 115 = .ok (.invokevirtual 178, 3) := by decide +kernel
theorem dX8_renumber_63 : decode cX8_renumber 63 = .ok (.aload_n 1, 1) := by decide +kernel
theorem dX8_renumber_64 : decode cX8_renumber 64 = .ok (.iload_n 2, 1) := by decide +kernel
theorem dX8_renumber_65 : decode cX8_renumber 65 = .ok (.iconst 1, 1) := by decide +kernel
theorem dX8_renumber_66 : decode cX8_renumber 66 = .ok (.aload_n 0, 1) := by decide +kernel
theorem dX8_renumber_67 : decode cX8_renumber 67 = .ok (.getfield 18, 3) := by decide +kernel
theorem dX8_renumber_70 : decode cX8_renumber 70 = .ok (.iload_n 3, 1) := by decide +kernel
theorem dX8_renumber_71 : decode cX8_renumber 71 = .ok (.invokestatic 74, 3) := by decide +kernel
theorem dX8_renumber_74 : decode cX8_renumber 74 = .ok (.invokevirtual 178, 3) := by decide +kernel
set_option maxRecDepth 20000 in
theorem l_X8_renumber_44 (d : Nat) {T : CT} {σ0 : MS} {a : Nat} {rx1 : Nat} {post : Option Value → CT → MS → Prop} (h_a : OB T a 8) (h_rx1 : OB T rx1 1) (t_rx1 : (T rx1).1 = 50) (hw0 : WT T σ0) (hx_176 : ∀ (i2 : Int) (σ : MS) , (WT T σ) → (FrC T [] σ0 σ) → (0 ≤ i2 ∧ i2 ≤ 2147483647) → Tn (d + 3) m_X8_renumber 176 T σ [(0, .ref a), (1, .ref rx1), (2, .int (iI i2))] [] post) : ∀ (n : Nat) (i2 : Int) (σ : MS) , (WT T σ) → (FrC T [] σ0 σ) → (0 ≤ i2 ∧ i2 ≤ 2147483647) → (2147483700 - i2).toNat = n → Tn (d + 3) m_X8_renumber 44 T σ [(0, .ref a), (1, .ref rx1), (2, .int (iI i2))] [] post := by
  intro n
  induction n using Nat.strongRecOn with
  | _ n ih =>
    intro i2 σ hw hF r_i2 hm
    refine tn_iload_n dX8_renumber_44 rfl 2 rfl ?_
    refine tn_aload_n dX8_renumber_45 rfl 1 rfl ?_
    refine tn_getI (ci := 1) (i := 1) (n := 6) (t := σ0.2.1 6 rx1) dX8_renumber_46 rfl lay_1 (by decide) fl8_70 h_rx1 rfl rfl (rc_F hF (Or.inl (by decide)) (by decide) (rfl)) ?_
    have g1 : ((0 : Int) ≤ σ0.2.1 6 rx1 ∧ σ0.2.1 6 rx1 ≤ 5000) ∧ ((T rx1).1 = 50 → σ0.2.1 6 rx1 ≤ 200) := wf_6 hw0 h_rx1
    have g1x := g1.2
    replace g1 := g1.1
    have g1x := g1x t_rx1
    refine tn_icmp_ge (tgt := 176) dX8_renumber_49 (by decide) ⟨by omega, by omega⟩ ⟨by omega, by omega⟩ (fun h2 => ?_) (fun h2 => ?_)
    · exact tn_sub [0, 1, 2] rfl (hx_176 (i2) σ hw (FrC.rfl.trans (FrC.sub hF (by decide))) (by omega))
    · refine tn_aload_n dX8_renumber_52 rfl 1 rfl ?_
      refine tn_iload_n dX8_renumber_53 rfl 2 rfl ?_
      refine tn_callV (M := m_X8_renumber) (pc := 54) (ix := 120) (ci := 1) (M' := m_X1_writtenBy) (As := [.int (iI i2)]) (rest := []) dX8_renumber_54 ok_X1_writtenBy im_X1_writtenBy se_X1_writtenBy ml8_120 np_X1_writtenBy rfl rfl h_rx1 rfl (Nat.le_of_ble_eq_true rfl) (Nat.le_of_ble_eq_true rfl) rfl (k_X1_writtenBy (d) (T := T) (σ := σ) (a := rx1) (k := i2) h_rx1 (by omega) hw ) (fun r3 T5 σ4 gt6 hp => ?_)
      obtain ⟨v8, rfl, rfl, rfl, f7⟩ := hp
      clear gt6
      show Tn _ _ 57 T σ [(0, .ref a), (1, .ref rx1), (2, .int (iI i2))] [.int (iI v8)] _
      refine tn_istore_n (L' := [(3, .int (iI v8)), (0, .ref a), (1, .ref rx1), (2, .int (iI i2))]) dX8_renumber_57 rfl (by decide) rfl ?_
      refine tn_iload_n dX8_renumber_58 rfl 0 rfl ?_
      refine tn_iconst dX8_renumber_59 ?_
      refine tn_icmp_eq (tgt := 77) dX8_renumber_60 (by decide) ⟨by omega, by omega⟩ ⟨by decide, by decide⟩ (fun h9 => ?_) (fun h9 => ?_)
      · refine tn_aload_n dX8_renumber_77 rfl 2 rfl ?_
        refine tn_iload_n dX8_renumber_78 rfl 3 rfl ?_
        refine tn_iconst dX8_renumber_79 ?_
        refine tn_callV (M := m_X8_renumber) (pc := 80) (ix := 166) (ci := 1) (M' := m_X1_get) (As := [.int (iI i2), .int (iI 0)]) (rest := []) dX8_renumber_80 ok_X1_get im_X1_get se_X1_get ml8_166 np_X1_get rfl rfl h_rx1 rfl (Nat.le_of_ble_eq_true rfl) (Nat.le_of_ble_eq_true rfl) rfl (k_X1_get (d + 1) (T := T) (σ := σ) (a := rx1) (k := i2) (c := 0) h_rx1 (by omega) (by decide) hw (by omega)) (fun r10 T12 σ11 gt13 hp => ?_)
        obtain ⟨v15, rfl, rfl, rfl, f14⟩ := hp
        clear gt13
        show Tn _ _ 83 T σ [(3, .int (iI v8)), (0, .ref a), (1, .ref rx1), (2, .int (iI i2))] [.int (iI v15)] _
        refine tn_bipush dX8_renumber_83 (by decide) ?_
        refine tn_icmp_ne (tgt := 118) dX8_renumber_85 (by decide) ⟨by omega, by omega⟩ ⟨by decide, by decide⟩ (fun h16 => ?_) (fun h16 => ?_)
        · refine tn_iconst dX8_renumber_118 ?_
          refine tn_istore (L' := [(4, .int (iI 3)), (3, .int (iI v8)), (0, .ref a), (1, .ref rx1), (2, .int (iI i2))]) dX8_renumber_119 (by decide) rfl ?_
          refine tn_sub [2, 3, 4, 0] rfl (l_X8_renumber_121 (d) (T := T) (σ0 := σ) (a := a) (rx1 := rx1) (c2 := i2) h_a h_rx1 t_rx1 (by omega) hw (fun i417 σ18 w21 F22 r23 => ?_) _ (3) σ hw FrC.rfl (by omega) rfl)
          show Tn _ _ 170 T σ18 [(0, .ref a), (1, .ref rx1), (2, .int (iI i2)), (4, .int (iI i417))] [] _
          refine tn_iinc (q0 := 2) (L' := [(2, .int (iI (i2 + 1))), (0, .ref a), (1, .ref rx1), (4, .int (iI i417))]) dX8_renumber_170 rfl (by decide) rfl ?_
          refine tn_goto (tgt := 44) dX8_renumber_173 (by decide) ?_
          exact tn_sub [1, 2, 0] rfl (ih _ (by omega) (i2 + 1) σ18 w21 ((FrC.rfl.trans (FrC.sub hF (by decide))).trans (FrC.sub F22 (by decide))) (by omega) rfl)
        · refine tn_aload_n dX8_renumber_88 rfl 2 rfl ?_
          refine tn_iload_n dX8_renumber_89 rfl 3 rfl ?_
          refine tn_bipush dX8_renumber_90 (by decide) ?_
          refine tn_callV (M := m_X8_renumber) (pc := 92) (ix := 166) (ci := 1) (M' := m_X1_get) (As := [.int (iI i2), .int (iI 11)]) (rest := []) dX8_renumber_92 ok_X1_get im_X1_get se_X1_get ml8_166 np_X1_get rfl rfl h_rx1 rfl (Nat.le_of_ble_eq_true rfl) (Nat.le_of_ble_eq_true rfl) rfl (k_X1_get (d + 1) (T := T) (σ := σ) (a := rx1) (k := i2) (c := 11) h_rx1 (by omega) (by decide) hw (by omega)) (fun r24 T26 σ25 gt27 hp => ?_)
          obtain ⟨v29, rfl, rfl, rfl, f28⟩ := hp
          clear gt27
          show Tn _ _ 95 T σ [(3, .int (iI v8)), (0, .ref a), (1, .ref rx1), (2, .int (iI i2))] [.int (iI v29)] _
          refine tn_iconst dX8_renumber_95 ?_
          refine tn_icmp_ne (tgt := 118) dX8_renumber_96 (by decide) ⟨by omega, by omega⟩ ⟨by decide, by decide⟩ (fun h30 => ?_) (fun h30 => ?_)
          · refine tn_iconst dX8_renumber_118 ?_
            refine tn_istore (L' := [(4, .int (iI 3)), (3, .int (iI v8)), (0, .ref a), (1, .ref rx1), (2, .int (iI i2))]) dX8_renumber_119 (by decide) rfl ?_
            refine tn_sub [2, 3, 4, 0] rfl (l_X8_renumber_121 (d) (T := T) (σ0 := σ) (a := a) (rx1 := rx1) (c2 := i2) h_a h_rx1 t_rx1 (by omega) hw (fun i431 σ32 w35 F36 r37 => ?_) _ (3) σ hw FrC.rfl (by omega) rfl)
            show Tn _ _ 170 T σ32 [(0, .ref a), (1, .ref rx1), (2, .int (iI i2)), (4, .int (iI i431))] [] _
            refine tn_iinc (q0 := 2) (L' := [(2, .int (iI (i2 + 1))), (0, .ref a), (1, .ref rx1), (4, .int (iI i431))]) dX8_renumber_170 rfl (by decide) rfl ?_
            refine tn_goto (tgt := 44) dX8_renumber_173 (by decide) ?_
            exact tn_sub [1, 2, 0] rfl (ih _ (by omega) (i2 + 1) σ32 w35 ((FrC.rfl.trans (FrC.sub hF (by decide))).trans (FrC.sub F36 (by decide))) (by omega) rfl)
          · refine tn_aload_n dX8_renumber_99 rfl 2 rfl ?_
            refine tn_iload_n dX8_renumber_100 rfl 3 rfl ?_
            refine tn_iconst dX8_renumber_101 ?_
            refine tn_aload_n dX8_renumber_102 rfl 1 rfl ?_
            obtain ⟨x38, hx39, hk40, hl41⟩ : ∃ x : Nat, σ0.2.1 75 a = (x : Int) ∧ AR T x 1 192 192 := wf_75 hw0 h_a
            have hk40i : IA T x38 := by unfold IA; omega
            refine tn_getR (ci := 8) (i := 3) (n := 75) (x := x38) dX8_renumber_103 rfl lay_8 (by decide) fl8_18 h_a rfl rfl (rc_F hF (Or.inl (by decide)) (by decide) (hx39)) ?_
            refine tn_aload_n dX8_renumber_106 rfl 2 rfl ?_
            refine tn_iload_n dX8_renumber_107 rfl 3 rfl ?_
            refine tn_iconst dX8_renumber_108 ?_
            refine tn_callV (M := m_X8_renumber) (pc := 109) (ix := 166) (ci := 1) (M' := m_X1_get) (As := [.int (iI i2), .int (iI 4)]) (rest := [.ref x38, .int (iI 4), .int (iI i2), .ref rx1]) dX8_renumber_109 ok_X1_get im_X1_get se_X1_get ml8_166 np_X1_get rfl rfl h_rx1 rfl (Nat.le_of_ble_eq_true rfl) (Nat.le_of_ble_eq_true rfl) rfl (k_X1_get (d + 1) (T := T) (σ := σ) (a := rx1) (k := i2) (c := 4) h_rx1 (by omega) (by decide) hw (by omega)) (fun r42 T44 σ43 gt45 hp => ?_)
            obtain ⟨v47, rfl, rfl, rfl, f46⟩ := hp
            clear gt45
            show Tn _ _ 112 T σ [(3, .int (iI v8)), (0, .ref a), (1, .ref rx1), (2, .int (iI i2))] [.int (iI v47), .ref x38, .int (iI 4), .int (iI i2), .ref rx1] _
            refine tn_callSN (M := m_X8_renumber) (pc := 112) (ix := 74) (M' := m_X11_at) (As := [.ref x38, .int (iI v47)]) (rest := [.int (iI 4), .int (iI i2), .ref rx1]) dX8_renumber_112 ok_X11_at stt_X11_at nl8_74 np_X11_at rfl (Nat.le_of_ble_eq_true rfl) (Nat.le_of_ble_eq_true rfl) rfl (k_X11_at (d + 1) (T := T) (σ := σ) (x := x38) (i := v47) hk40i (by omega) (by omega) hw ) (fun r48 T50 σ49 gt51 hp => ?_)
            obtain ⟨v55, rfl, rfl, rfl, f52, f53, f54⟩ := hp
            clear gt51
            clear f53 f54
            show Tn _ _ 115 T σ [(3, .int (iI v8)), (0, .ref a), (1, .ref rx1), (2, .int (iI i2))] [.int (iI v55), .int (iI 4), .int (iI i2), .ref rx1] _
            refine tn_callV (M := m_X8_renumber) (pc := 115) (ix := 178) (ci := 1) (M' := m_X1_set) (As := [.int (iI i2), .int (iI 4), .int (iI v55)]) (rest := []) dX8_renumber_115 ok_X1_set im_X1_set se_X1_set ml8_178 np_X1_set rfl rfl h_rx1 rfl (Nat.le_of_ble_eq_true rfl) (Nat.le_of_ble_eq_true rfl) rfl (k_X1_set (d + 1) (T := T) (σ := σ) (a := rx1) (k := i2) (c := 4) (y := v55) h_rx1 (by omega) (by decide) (by omega) hw (by omega) (by omega)) (fun r56 T58 σ57 gt59 hp => ?_)
            obtain ⟨rfl, rfl, w61, F62⟩ := hp
            clear gt59
            show Tn _ _ 118 T σ57 [(3, .int (iI v8)), (0, .ref a), (1, .ref rx1), (2, .int (iI i2))] [] _
            refine tn_iconst dX8_renumber_118 ?_
            refine tn_istore (L' := [(4, .int (iI 3)), (3, .int (iI v8)), (0, .ref a), (1, .ref rx1), (2, .int (iI i2))]) dX8_renumber_119 (by decide) rfl ?_
            refine tn_sub [2, 3, 4, 0] rfl (l_X8_renumber_121 (d) (T := T) (σ0 := σ57) (a := a) (rx1 := rx1) (c2 := i2) h_a h_rx1 t_rx1 (by omega) w61 (fun i463 σ64 w67 F68 r69 => ?_) _ (3) σ57 w61 FrC.rfl (by omega) rfl)
            show Tn _ _ 170 T σ64 [(0, .ref a), (1, .ref rx1), (2, .int (iI i2)), (4, .int (iI i463))] [] _
            refine tn_iinc (q0 := 2) (L' := [(2, .int (iI (i2 + 1))), (0, .ref a), (1, .ref rx1), (4, .int (iI i463))]) dX8_renumber_170 rfl (by decide) rfl ?_
            refine tn_goto (tgt := 44) dX8_renumber_173 (by decide) ?_
            exact tn_sub [1, 2, 0] rfl (ih _ (by omega) (i2 + 1) σ64 w67 (((FrC.rfl.trans (FrC.sub hF (by decide))).trans (FrC.sub F62 (by decide))).trans (FrC.sub F68 (by decide))) (by omega) rfl)
      · refine tn_aload_n dX8_renumber_63 rfl 2 rfl ?_
        refine tn_iload_n dX8_renumber_64 rfl 3 rfl ?_
        refine tn_iconst dX8_renumber_65 ?_
        refine tn_aload_n dX8_renumber_66 rfl 1 rfl ?_
        obtain ⟨x70, hx71, hk72, hl73⟩ : ∃ x : Nat, σ0.2.1 75 a = (x : Int) ∧ AR T x 1 192 192 := wf_75 hw0 h_a
        have hk72i : IA T x70 := by unfold IA; omega
        refine tn_getR (ci := 8) (i := 3) (n := 75) (x := x70) dX8_renumber_67 rfl lay_8 (by decide) fl8_18 h_a rfl rfl (rc_F hF (Or.inl (by decide)) (by decide) (hx71)) ?_
        refine tn_iload_n dX8_renumber_70 rfl 0 rfl ?_
        refine tn_callSN (M := m_X8_renumber) (pc := 71) (ix := 74) (M' := m_X11_at) (As := [.ref x70, .int (iI v8)]) (rest := [.int (iI 1), .int (iI i2), .ref rx1]) dX8_renumber_71 ok_X11_at stt_X11_at nl8_74 np_X11_at rfl (Nat.le_of_ble_eq_true rfl) (Nat.le_of_ble_eq_true rfl) rfl (k_X11_at (d + 1) (T := T) (σ := σ) (x := x70) (i := v8) hk72i (by omega) (by omega) hw ) (fun r74 T76 σ75 gt77 hp => ?_)
        obtain ⟨v81, rfl, rfl, rfl, f78, f79, f80⟩ := hp
        clear gt77
        clear f79 f80
        show Tn _ _ 74 T σ [(3, .int (iI v8)), (0, .ref a), (1, .ref rx1), (2, .int (iI i2))] [.int (iI v81), .int (iI 1), .int (iI i2), .ref rx1] _
        refine tn_callV (M := m_X8_renumber) (pc := 74) (ix := 178) (ci := 1) (M' := m_X1_set) (As := [.int (iI i2), .int (iI 1), .int (iI v81)]) (rest := []) dX8_renumber_74 ok_X1_set im_X1_set se_X1_set ml8_178 np_X1_set rfl rfl h_rx1 rfl (Nat.le_of_ble_eq_true rfl) (Nat.le_of_ble_eq_true rfl) rfl (k_X1_set (d + 1) (T := T) (σ := σ) (a := rx1) (k := i2) (c := 1) (y := v81) h_rx1 (by omega) (by decide) (by omega) hw (by omega) (by omega)) (fun r82 T84 σ83 gt85 hp => ?_)
        obtain ⟨rfl, rfl, w87, F88⟩ := hp
        clear gt85
        show Tn _ _ 77 T σ83 [(3, .int (iI v8)), (0, .ref a), (1, .ref rx1), (2, .int (iI i2))] [] _
        refine tn_aload_n dX8_renumber_77 rfl 2 rfl ?_
        refine tn_iload_n dX8_renumber_78 rfl 3 rfl ?_
        refine tn_iconst dX8_renumber_79 ?_
        refine tn_callV (M := m_X8_renumber) (pc := 80) (ix := 166) (ci := 1) (M' := m_X1_get) (As := [.int (iI i2), .int (iI 0)]) (rest := []) dX8_renumber_80 ok_X1_get im_X1_get se_X1_get ml8_166 np_X1_get rfl rfl h_rx1 rfl (Nat.le_of_ble_eq_true rfl) (Nat.le_of_ble_eq_true rfl) rfl (k_X1_get (d + 1) (T := T) (σ := σ83) (a := rx1) (k := i2) (c := 0) h_rx1 (by omega) (by decide) w87 (by omega)) (fun r89 T91 σ90 gt92 hp => ?_)
        obtain ⟨v94, rfl, rfl, rfl, f93⟩ := hp
        clear gt92
        show Tn _ _ 83 T σ83 [(3, .int (iI v8)), (0, .ref a), (1, .ref rx1), (2, .int (iI i2))] [.int (iI v94)] _
        refine tn_bipush dX8_renumber_83 (by decide) ?_
        refine tn_icmp_ne (tgt := 118) dX8_renumber_85 (by decide) ⟨by omega, by omega⟩ ⟨by decide, by decide⟩ (fun h95 => ?_) (fun h95 => ?_)
        · refine tn_iconst dX8_renumber_118 ?_
          refine tn_istore (L' := [(4, .int (iI 3)), (3, .int (iI v8)), (0, .ref a), (1, .ref rx1), (2, .int (iI i2))]) dX8_renumber_119 (by decide) rfl ?_
          refine tn_sub [2, 3, 4, 0] rfl (l_X8_renumber_121 (d) (T := T) (σ0 := σ83) (a := a) (rx1 := rx1) (c2 := i2) h_a h_rx1 t_rx1 (by omega) w87 (fun i496 σ97 w100 F101 r102 => ?_) _ (3) σ83 w87 FrC.rfl (by omega) rfl)
          show Tn _ _ 170 T σ97 [(0, .ref a), (1, .ref rx1), (2, .int (iI i2)), (4, .int (iI i496))] [] _
          refine tn_iinc (q0 := 2) (L' := [(2, .int (iI (i2 + 1))), (0, .ref a), (1, .ref rx1), (4, .int (iI i496))]) dX8_renumber_170 rfl (by decide) rfl ?_
          refine tn_goto (tgt := 44) dX8_renumber_173 (by decide) ?_
          exact tn_sub [1, 2, 0] rfl (ih _ (by omega) (i2 + 1) σ97 w100 (((FrC.rfl.trans (FrC.sub hF (by decide))).trans (FrC.sub F88 (by decide))).trans (FrC.sub F101 (by decide))) (by omega) rfl)
        · refine tn_aload_n dX8_renumber_88 rfl 2 rfl ?_
          refine tn_iload_n dX8_renumber_89 rfl 3 rfl ?_
          refine tn_bipush dX8_renumber_90 (by decide) ?_
          refine tn_callV (M := m_X8_renumber) (pc := 92) (ix := 166) (ci := 1) (M' := m_X1_get) (As := [.int (iI i2), .int (iI 11)]) (rest := []) dX8_renumber_92 ok_X1_get im_X1_get se_X1_get ml8_166 np_X1_get rfl rfl h_rx1 rfl (Nat.le_of_ble_eq_true rfl) (Nat.le_of_ble_eq_true rfl) rfl (k_X1_get (d + 1) (T := T) (σ := σ83) (a := rx1) (k := i2) (c := 11) h_rx1 (by omega) (by decide) w87 (by omega)) (fun r103 T105 σ104 gt106 hp => ?_)
          obtain ⟨v108, rfl, rfl, rfl, f107⟩ := hp
          clear gt106
          show Tn _ _ 95 T σ83 [(3, .int (iI v8)), (0, .ref a), (1, .ref rx1), (2, .int (iI i2))] [.int (iI v108)] _
          refine tn_iconst dX8_renumber_95 ?_
          refine tn_icmp_ne (tgt := 118) dX8_renumber_96 (by decide) ⟨by omega, by omega⟩ ⟨by decide, by decide⟩ (fun h109 => ?_) (fun h109 => ?_)
          · refine tn_iconst dX8_renumber_118 ?_
            refine tn_istore (L' := [(4, .int (iI 3)), (3, .int (iI v8)), (0, .ref a), (1, .ref rx1), (2, .int (iI i2))]) dX8_renumber_119 (by decide) rfl ?_
            refine tn_sub [2, 3, 4, 0] rfl (l_X8_renumber_121 (d) (T := T) (σ0 := σ83) (a := a) (rx1 := rx1) (c2 := i2) h_a h_rx1 t_rx1 (by omega) w87 (fun i4110 σ111 w114 F115 r116 => ?_) _ (3) σ83 w87 FrC.rfl (by omega) rfl)
            show Tn _ _ 170 T σ111 [(0, .ref a), (1, .ref rx1), (2, .int (iI i2)), (4, .int (iI i4110))] [] _
            refine tn_iinc (q0 := 2) (L' := [(2, .int (iI (i2 + 1))), (0, .ref a), (1, .ref rx1), (4, .int (iI i4110))]) dX8_renumber_170 rfl (by decide) rfl ?_
            refine tn_goto (tgt := 44) dX8_renumber_173 (by decide) ?_
            exact tn_sub [1, 2, 0] rfl (ih _ (by omega) (i2 + 1) σ111 w114 (((FrC.rfl.trans (FrC.sub hF (by decide))).trans (FrC.sub F88 (by decide))).trans (FrC.sub F115 (by decide))) (by omega) rfl)
          · refine tn_aload_n dX8_renumber_99 rfl 2 rfl ?_
            refine tn_iload_n dX8_renumber_100 rfl 3 rfl ?_
            refine tn_iconst dX8_renumber_101 ?_
            refine tn_aload_n dX8_renumber_102 rfl 1 rfl ?_
            refine tn_getR (ci := 8) (i := 3) (n := 75) (x := x70) dX8_renumber_103 rfl lay_8 (by decide) fl8_18 h_a rfl rfl (rc_F F88 (Or.inl (by decide)) (by decide) (rc_F hF (Or.inl (by decide)) (by decide) (hx71))) ?_
            refine tn_aload_n dX8_renumber_106 rfl 2 rfl ?_
            refine tn_iload_n dX8_renumber_107 rfl 3 rfl ?_
            refine tn_iconst dX8_renumber_108 ?_
            refine tn_callV (M := m_X8_renumber) (pc := 109) (ix := 166) (ci := 1) (M' := m_X1_get) (As := [.int (iI i2), .int (iI 4)]) (rest := [.ref x70, .int (iI 4), .int (iI i2), .ref rx1]) dX8_renumber_109 ok_X1_get im_X1_get se_X1_get ml8_166 np_X1_get rfl rfl h_rx1 rfl (Nat.le_of_ble_eq_true rfl) (Nat.le_of_ble_eq_true rfl) rfl (k_X1_get (d + 1) (T := T) (σ := σ83) (a := rx1) (k := i2) (c := 4) h_rx1 (by omega) (by decide) w87 (by omega)) (fun r117 T119 σ118 gt120 hp => ?_)
            obtain ⟨v122, rfl, rfl, rfl, f121⟩ := hp
            clear gt120
            show Tn _ _ 112 T σ83 [(3, .int (iI v8)), (0, .ref a), (1, .ref rx1), (2, .int (iI i2))] [.int (iI v122), .ref x70, .int (iI 4), .int (iI i2), .ref rx1] _
            refine tn_callSN (M := m_X8_renumber) (pc := 112) (ix := 74) (M' := m_X11_at) (As := [.ref x70, .int (iI v122)]) (rest := [.int (iI 4), .int (iI i2), .ref rx1]) dX8_renumber_112 ok_X11_at stt_X11_at nl8_74 np_X11_at rfl (Nat.le_of_ble_eq_true rfl) (Nat.le_of_ble_eq_true rfl) rfl (k_X11_at (d + 1) (T := T) (σ := σ83) (x := x70) (i := v122) hk72i (by omega) (by omega) w87 ) (fun r123 T125 σ124 gt126 hp => ?_)
            obtain ⟨v130, rfl, rfl, rfl, f127, f128, f129⟩ := hp
            clear gt126
            clear f128 f129
            show Tn _ _ 115 T σ83 [(3, .int (iI v8)), (0, .ref a), (1, .ref rx1), (2, .int (iI i2))] [.int (iI v130), .int (iI 4), .int (iI i2), .ref rx1] _
            refine tn_callV (M := m_X8_renumber) (pc := 115) (ix := 178) (ci := 1) (M' := m_X1_set) (As := [.int (iI i2), .int (iI 4), .int (iI v130)]) (rest := []) dX8_renumber_115 ok_X1_set im_X1_set se_X1_set ml8_178 np_X1_set rfl rfl h_rx1 rfl (Nat.le_of_ble_eq_true rfl) (Nat.le_of_ble_eq_true rfl) rfl (k_X1_set (d + 1) (T := T) (σ := σ83) (a := rx1) (k := i2) (c := 4) (y := v130) h_rx1 (by omega) (by decide) (by omega) w87 (by omega) (by omega)) (fun r131 T133 σ132 gt134 hp => ?_)
            obtain ⟨rfl, rfl, w136, F137⟩ := hp
            clear gt134
            show Tn _ _ 118 T σ132 [(3, .int (iI v8)), (0, .ref a), (1, .ref rx1), (2, .int (iI i2))] [] _
            refine tn_iconst dX8_renumber_118 ?_
            refine tn_istore (L' := [(4, .int (iI 3)), (3, .int (iI v8)), (0, .ref a), (1, .ref rx1), (2, .int (iI i2))]) dX8_renumber_119 (by decide) rfl ?_
            refine tn_sub [2, 3, 4, 0] rfl (l_X8_renumber_121 (d) (T := T) (σ0 := σ132) (a := a) (rx1 := rx1) (c2 := i2) h_a h_rx1 t_rx1 (by omega) w136 (fun i4138 σ139 w142 F143 r144 => ?_) _ (3) σ132 w136 FrC.rfl (by omega) rfl)
            show Tn _ _ 170 T σ139 [(0, .ref a), (1, .ref rx1), (2, .int (iI i2)), (4, .int (iI i4138))] [] _
            refine tn_iinc (q0 := 2) (L' := [(2, .int (iI (i2 + 1))), (0, .ref a), (1, .ref rx1), (4, .int (iI i4138))]) dX8_renumber_170 rfl (by decide) rfl ?_
            refine tn_goto (tgt := 44) dX8_renumber_173 (by decide) ?_
            exact tn_sub [1, 2, 0] rfl (ih _ (by omega) (i2 + 1) σ139 w142 ((((FrC.rfl.trans (FrC.sub hF (by decide))).trans (FrC.sub F88 (by decide))).trans (FrC.sub F137 (by decide))).trans (FrC.sub F143 (by decide))) (by omega) rfl)
theorem dX8_renumber_176 : decode cX8_renumber 176 = .ok (.return_, 1) := by decide +kernel
set_option maxRecDepth 20000 in
theorem k_X8_renumber (d : Nat) {T : CT} {σ : MS} {a : Nat} {p1 : Nat} (ha : OB T a 8) (h_p1 : OB T p1 1) (t_p1 : (T p1).1 = 50) (hw : WT T σ) : Tn (d + 3) m_X8_renumber 0 T σ [(0, .ref a), (1, .ref p1)] [] (fun ro T2 σ2 => ro = none ∧ T = T2 ∧ WT T2 σ2 ∧ FrC T [] σ σ2) := by
  refine tn_iconst dX8_renumber_0 ?_
  refine tn_istore_n (L' := [(2, .int (iI 0)), (0, .ref a), (1, .ref p1)]) dX8_renumber_1 rfl (by decide) rfl ?_
  refine tn_sub [1, 2, 0] rfl (l_X8_renumber_2 (d) (T := T) (σ0 := σ) (a := a) (rx1 := p1) ha h_p1 t_p1 hw (fun i21 σ2 w5 F6 r7 => ?_) _ (0) σ hw FrC.rfl (by omega) rfl)
  show Tn _ _ 42 T σ2 [(0, .ref a), (1, .ref p1), (2, .int (iI i21))] [] _
  refine tn_iconst dX8_renumber_42 ?_
  refine tn_istore_n (L' := [(2, .int (iI 0)), (0, .ref a), (1, .ref p1)]) dX8_renumber_43 rfl (by decide) rfl ?_
  refine tn_sub [1, 2, 0] rfl (l_X8_renumber_44 (d) (T := T) (σ0 := σ2) (a := a) (rx1 := p1) ha h_p1 t_p1 w5 (fun i28 σ9 w12 F13 r14 => ?_) _ (0) σ2 w5 FrC.rfl (by omega) rfl)
  show Tn _ _ 176 T σ9 [(0, .ref a), (1, .ref p1), (2, .int (iI i28))] [] _
  exact tn_vret rfl dX8_renumber_176 ⟨rfl, rfl, w12, ((FrC.rfl.trans (FrC.sub F6 (by decide))).trans (FrC.sub F13 (by decide)))⟩
