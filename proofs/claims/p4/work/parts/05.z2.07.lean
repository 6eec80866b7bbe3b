theorem cd_X4_addItem : Cond.code yX4_addItem cX4_addItem 6 none ∈ pWW := pw5 (List.mem_of_getElem? (i := 193) rfl) rfl
abbrev m_X4_addItem : MT := (yX4_addItem, cX4_addItem, 6, none)
theorem ok_X4_addItem : pOk m_X4_addItem := ⟨⟨cd_X4_addItem, ini_4⟩, by decide +kernel, ⟨by decide +kernel, by decide +kernel⟩, Nat.le_of_ble_eq_true rfl⟩
theorem np_X4_addItem : (parseMethodDescriptor yX4_addItem.desc).map (fun d => d.parameters.length) = some 1 := by decide +kernel
theorem im_X4_addItem : Cond.instanceMethod yX4_addItem ∈ pWW := pw5 (List.mem_of_getElem? (i := 192) rfl) rfl
theorem se_X4_addItem : Cond.selects RX4 yX4_addItem yX4_addItem ∈ pWW := pws (List.mem_map.mpr ⟨_, lw_pin 73 rfl, rfl⟩) rfl
theorem dX4_addItem_0 : decode cX4_addItem 0 = .ok (.aload_n 0, 1) := by decide +kernel
theorem dX4_addItem_1 : decode cX4_addItem 1 = .ok (.getfield 33, 3) := by decide +kernel
theorem dX4_addItem_4 : decode cX4_addItem 4 = .ok (.iload_n 1, 1) := by decide +kernel
theorem dX4_addItem_5 : decode cX4_addItem 5 = .ok (.iconst 0, 1) := by decide +kernel
theorem dX4_addItem_6 : decode cX4_addItem 6 = .ok (.invokevirtual 29, 3) := by decide +kernel
theorem dX4_addItem_9 : decode cX4_addItem 9 = .ok (.istore_n 2, 1) := by decide +kernel
theorem dX4_addItem_10 : decode cX4_addItem 10 = .ok (.aload_n 0, 1) := by decide +kernel
theorem dX4_addItem_11 : decode cX4_addItem 11 = .ok (.getfield 33, 3) := by decide +kernel
theorem dX4_addItem_14 : decode cX4_addItem 14 = .ok (.iload_n 1, 1) := by decide +kernel
theorem dX4_addItem_15 : decode cX4_addItem 15 = .ok (.bipush 11, 2) := by decide +kernel
theorem dX4_addItem_17 : decode cX4_addItem 17 = .ok (.invokevirtual 29, 3) := by decide +kernel
theorem dX4_addItem_20 : decode cX4_addItem 20 = .ok (.istore_n 3, 1) := by decide +kernel
theorem dX4_addItem_21 : decode cX4_addItem 21 = .ok (.iconst 3, 1) := by decide +kernel
theorem dX4_addItem_22 : decode cX4_addItem 22 = .ok (.istore 4, 2) := by decide +kernel
theorem dX4_addItem_24 : decode cX4_addItem 24 = .ok (.iload 4, 2) := by decide +kernel
theorem dX4_addItem_26 : decode cX4_addItem 26 = .ok (.bipush 11, 2) := by decide +kernel
theorem dX4_addItem_28 : decode cX4_addItem 28 = .ok (.if_icmp .ge 111, 3) := by decide +kernel
theorem dX4_addItem_31 : decode cX4_addItem 31 = .ok (.aload_n 0, 1) := by decide +kernel
theorem dX4_addItem_32 : decode cX4_addItem 32 = .ok (.getfield 33, 3) := by decide +kernel
theorem dX4_addItem_35 : decode cX4_addItem 35 = .ok (.iload_n 1, 1) := by decide +kernel
theorem dX4_addItem_36 : decode cX4_addItem 36 = .ok (.iload 4, 2) := by decide +kernel
theorem dX4_addItem_38 : decode cX4_addItem 38 = .ok (.invokevirtual 29, 3) := by decide +kernel
theorem dX4_addItem_41 : decode cX4_addItem 41 = .ok (.iconst 2, 1) := by decide +kernel
theorem dX4_addItem_42 : decode cX4_addItem 42 = .ok (.if_icmp .eq 20, 3) := by decide +kernel
theorem dX4_addItem_62 : decode cX4_addItem 62 = .ok (.iconst 1, 1) := by decide +kernel
theorem dX4_addItem_63 : decode cX4_addItem 63 = .ok (.goto 4, 3) := by decide +kernel
theorem dX4_addItem_67 : decode cX4_addItem 67 = .ok (.istore 5, 2) := by decide +kernel
theorem dX4_addItem_69 : decode cX4_addItem 69 = .ok (.aload_n 0, 1) := by decide +kernel
theorem dX4_addItem_70 : decode cX4_addItem 70 = .ok (.getfield 19, 3) := by decide +kernel
theorem dX4_addItem_73 : decode cX4_addItem 73 = .ok (.aload_n 0, 1) := by decide +kernel
theorem dX4_addItem_74 : decode cX4_addItem 74 = .ok (.getfield 96, 3) := by decide +kernel
theorem dX4_addItem_77 : decode cX4_addItem 77 = .ok (.iload 4, 2) := by decide +kernel
theorem dX4_addItem_79 : decode cX4_addItem 79 = .ok (.aload_n 0, 1) := by decide +kernel
theorem dX4_addItem_80 : decode cX4_addItem 80 = .ok (.getfield 33, 3) := by decide +kernel
theorem dX4_addItem_83 : decode cX4_addItem 83 = .ok (.iload_n 1, 1) := by decide +kernel
theorem dX4_addItem_84 : decode cX4_addItem 84 = .ok (.iload 4, 2) := by decide +kernel
theorem dX4_addItem_86 : decode cX4_addItem 86 = .ok (.invokevirtual 29, 3) := by decide +kernel
theorem dX4_addItem_89 : decode cX4_addItem 89 = .ok (.invokevirtual 144, 3) := by decide +kernel
theorem dX4_addItem_92 : decode cX4_addItem 92 = .ok (.aload_n 0, 1) := by decide +kernel
theorem dX4_addItem_93 : decode cX4_addItem 93 = .ok (.getfield 19, 3) := by decide +kernel
theorem dX4_addItem_96 : decode cX4_addItem 96 = .ok (.aload_n 0, 1) := by decide +kernel
theorem dX4_addItem_97 : decode cX4_addItem 97 = .ok (.getfield 96, 3) := by decide +kernel
theorem dX4_addItem_100 : decode cX4_addItem 100 = .ok (.iload 4, 2) := by decide +kernel
theorem dX4_addItem_102 : decode cX4_addItem 102 = .ok (.iconst 1, 1) := by decide +kernel
theorem dX4_addItem_103 : decode cX4_addItem 103 = .ok (.iadd, 1) := by decide +kernel
theorem dX4_addItem_104 : decode cX4_addItem 104 = .ok (.aload_n 0, 1) := by decide +kernel
theorem dX4_addItem_105 : decode cX4_addItem 105 = .ok (.getfield 33, 3) := by decide +kernel
theorem dX4_addItem_108 : decode cX4_addItem 108 = .ok (.iload_n 1, 1) := by decide +kernel
theorem dX4_addItem_109 : decode cX4_addItem 109 = .ok (.iload 4, 2) := by decide +kernel
theorem dX4_addItem_111 : decode cX4_addItem 111 = .ok (.iconst 1, 1) := by decide +kernel
theorem dX4_addItem_112 : decode cX4_addItem 112 = .ok (.iadd, 1) := by decide +kernel
theorem dX4_addItem_113 : decode cX4_addItem 113 = .ok (.invokevirtual 29, 3) := by decide +kernel
theorem dX4_addItem_116 : decode cX4_addItem 116 = .ok (.iload 5, 2) := by decide +kernel
theorem dX4_addItem_118 : decode cX4_addItem 118 = .ok (.ifCond .eq 10, 3) := by decide +kernel
theorem dX4_addItem_121 : decode cX4_addItem 121 = .ok (.aload_n 0, 1) := by decide +kernel
theorem dX4_addItem_122 : decode cX4_addItem 122 = .ok (.getfield 57, 3) := by decide +kernel
theorem dX4_addItem_125 : decode cX4_addItem 125 = .ok (.goto 4, 3) := by decide +kernel
theorem dX4_addItem_129 : decode cX4_addItem 129 = .ok (.iadd, 1) := by decide +kernel
theorem dX4_addItem_130 : decode cX4_addItem 130 = .ok (.invokevirtual 144, 3) := by decide +kernel
theorem dX4_addItem_133 : decode cX4_addItem 133 = .ok (.iinc 4 2, 3) := by decide +kernel
theorem dX4_addItem_136 : decode cX4_addItem 136 = .ok (.goto (-112), 3) := by decide +kernel
theorem dX4_addItem_45 : decode cX4_addItem 45 = .ok (.iload 4, 2) := by decide +kernel
theorem dX4_addItem_47 : decode cX4_addItem 47 = .ok (.iconst 3, 1) := by decide +kernel
theorem dX4_addItem_48 : decode cX4_addItem 48 = .ok (.if_icmp .ne 18, 3) := by decide +kernel
theorem dX4_addItem_66 : decode cX4_addItem 66 = .ok (.iconst 0, 1) := by decide +kernel
theorem dX4_addItem_128 : decode cX4_addItem 128 = .ok (.iconst 0, 1) := by decide +kernel
theorem dX4_addItem_51 : decode cX4_addItem 51 = .ok (.iload_n 2, 1) := by decide +kernel
theorem dX4_addItem_52 : decode cX4_addItem 52 = .ok (.bipush 12, 2) := by decide +kernel
theorem dX4_addItem_54 : decode cX4_addItem 54 = .ok (.if_icmp .ne 12, 3) := by decide +kernel
theorem dX4_addItem_57 : decode cX4_addItem 57 = .ok (.iload_n 3, 1) := by decide +kernel
theorem dX4_addItem_58 : decode cX4_addItem 58 = .ok (.iconst 2, 1) := by decide +kernel
theorem dX4_addItem_59 : decode cX4_addItem 59 = .ok (.if_icmp .ne 7, 3) := by decide +kernel
set_option maxRecDepth 20000 in
theorem l_X4_addItem_24 (d : Nat) {T : CT} {σ0 : MS} {a : Nat} {c1 : Int} {c2 : Int} {c3 : Int} {post : Option Value → CT → MS → Prop} (h_a : OB T a 4) (r_c1 : -2147483648 ≤ c1 ∧ c1 ≤ 2147483647) (r_c2 : -2147483648 ≤ c2 ∧ c2 ≤ 2147483647) (r_c3 : -2147483648 ≤ c3 ∧ c3 ≤ 2147483647) (hw0 : WT T σ0) (hh : 0 ≤ σ0.2.1 25 a) (hg : 0 ≤ σ0.2.1 26 a) (hx_139 : ∀ (i4 : Int) (σ : MS) , (WT T σ) → (FrC T [] σ0 σ) → (3 ≤ i4 ∧ i4 ≤ 2147483647) → Tn (d + 3) m_X4_addItem 139 T σ [(0, .ref a), (1, .int (iI c1)), (2, .int (iI c2)), (3, .int (iI c3)), (4, .int (iI i4))] [] post) : ∀ (n : Nat) (i4 : Int) (σ : MS) , (WT T σ) → (FrC T [] σ0 σ) → (3 ≤ i4 ∧ i4 ≤ 2147483647) → (2147483700 - i4).toNat = n → Tn (d + 3) m_X4_addItem 24 T σ [(0, .ref a), (1, .int (iI c1)), (2, .int (iI c2)), (3, .int (iI c3)), (4, .int (iI i4))] [] post := by
  intro n
  induction n using Nat.strongRecOn with
  | _ n ih =>
    intro i4 σ hw hF r_i4 hm
    refine tn_iload dX4_addItem_24 4 rfl ?_
    refine tn_bipush dX4_addItem_26 (by decide) ?_
    refine tn_icmp_ge (tgt := 139) dX4_addItem_28 (by decide) ⟨by omega, by omega⟩ ⟨by decide, by decide⟩ (fun h1 => ?_) (fun h1 => ?_)
    · exact tn_sub [0, 1, 2, 3, 4] rfl (hx_139 (i4) σ hw (FrC.rfl.trans (FrC.sub hF (by decide))) (by omega))
    · refine tn_aload_n dX4_addItem_31 rfl 0 rfl ?_
      have nn9 : 0 ≤ σ0.2.1 26 a := (by omega)
      obtain ⟨x6, hx7, hk8⟩ := (wf_26 hw0 h_a).resolve_left (by omega)
      have hk8o : OB T x6 1 := ⟨by omega, by rw [hk8]; rfl, by omega⟩
      refine tn_getR (ci := 4) (i := 3) (n := 26) (x := x6) dX4_addItem_32 rfl lay_4 (by decide) fl4_33 h_a rfl rfl (rc_F hF (Or.inl (by decide)) (by decide) (hx7)) ?_
      refine tn_iload_n dX4_addItem_35 rfl 1 rfl ?_
      refine tn_iload dX4_addItem_36 4 rfl ?_
      refine tn_callV (M := m_X4_addItem) (pc := 38) (ix := 29) (ci := 1) (M' := m_X1_get) (As := [.int (iI c1), .int (iI i4)]) (rest := []) dX4_addItem_38 ok_X1_get im_X1_get se_X1_get ml4_29 np_X1_get rfl rfl hk8o rfl (Nat.le_of_ble_eq_true rfl) (Nat.le_of_ble_eq_true rfl) rfl (k_X1_get (d + 1) (T := T) (σ := σ) (a := x6) (k := c1) (c := i4) hk8o (by omega) (by omega) hw (by omega)) (fun r10 T12 σ11 gt13 hp => ?_)
      obtain ⟨v15, rfl, rfl, rfl, f14⟩ := hp
      clear gt13
      show Tn _ _ 41 T σ [(0, .ref a), (1, .int (iI c1)), (2, .int (iI c2)), (3, .int (iI c3)), (4, .int (iI i4))] [.int (iI v15)] _
      refine tn_iconst dX4_addItem_41 ?_
      refine tn_icmp_eq (tgt := 62) dX4_addItem_42 (by decide) ⟨by omega, by omega⟩ ⟨by decide, by decide⟩ (fun h16 => ?_) (fun h16 => ?_)
      · refine tn_iconst dX4_addItem_62 ?_
        refine tn_goto (tgt := 67) dX4_addItem_63 (by decide) ?_
        refine tn_istore (L' := [(5, .int (iI 1)), (0, .ref a), (1, .int (iI c1)), (2, .int (iI c2)), (3, .int (iI c3)), (4, .int (iI i4))]) dX4_addItem_67 (by decide) rfl ?_
        refine tn_aload_n dX4_addItem_69 rfl 1 rfl ?_
        have nn24 : 0 ≤ σ0.2.1 25 a := (by omega)
        obtain ⟨x21, hx22, hk23⟩ := (wf_25 hw0 h_a).resolve_left (by omega)
        have hk23o : OB T x21 1 := ⟨by omega, by rw [hk23]; rfl, by omega⟩
        refine tn_getR (ci := 4) (i := 2) (n := 25) (x := x21) dX4_addItem_70 rfl lay_4 (by decide) fl4_19 h_a rfl rfl (rc_F hF (Or.inl (by decide)) (by decide) (hx22)) ?_
        refine tn_aload_n dX4_addItem_73 rfl 1 rfl ?_
        refine tn_getI (ci := 4) (i := 9) (n := 32) (t := σ0.2.1 32 a) dX4_addItem_74 rfl lay_4 (by decide) fl4_96 h_a rfl rfl (rc_F hF (Or.inl (by decide)) (by decide) (rfl)) ?_
        have g25 : ((-2147483648 : Int) ≤ σ0.2.1 32 a ∧ σ0.2.1 32 a ≤ 2147483647) := wf_32 hw0 h_a
        refine tn_iload dX4_addItem_77 5 rfl ?_
        refine tn_aload_n dX4_addItem_79 rfl 1 rfl ?_
        refine tn_getR (ci := 4) (i := 3) (n := 26) (x := x6) dX4_addItem_80 rfl lay_4 (by decide) fl4_33 h_a rfl rfl (rc_F hF (Or.inl (by decide)) (by decide) (hx7)) ?_
        refine tn_iload_n dX4_addItem_83 rfl 2 rfl ?_
        refine tn_iload dX4_addItem_84 5 rfl ?_
        refine tn_callV (M := m_X4_addItem) (pc := 86) (ix := 29) (ci := 1) (M' := m_X1_get) (As := [.int (iI c1), .int (iI i4)]) (rest := [.int (iI i4), .int (iI (σ0.2.1 32 a)), .ref x21]) dX4_addItem_86 ok_X1_get im_X1_get se_X1_get ml4_29 np_X1_get rfl rfl hk8o rfl (Nat.le_of_ble_eq_true rfl) (Nat.le_of_ble_eq_true rfl) rfl (k_X1_get (d + 1) (T := T) (σ := σ) (a := x6) (k := c1) (c := i4) hk8o (by omega) (by omega) hw (by omega)) (fun r26 T28 σ27 gt29 hp => ?_)
        obtain ⟨v31, rfl, rfl, rfl, f30⟩ := hp
        clear gt29
        show Tn _ _ 89 T σ [(5, .int (iI 1)), (0, .ref a), (1, .int (iI c1)), (2, .int (iI c2)), (3, .int (iI c3)), (4, .int (iI i4))] [.int (iI v31), .int (iI i4), .int (iI (σ0.2.1 32 a)), .ref x21] _
        refine tn_callV (M := m_X4_addItem) (pc := 89) (ix := 144) (ci := 1) (M' := m_X1_set) (As := [.int (iI (σ0.2.1 32 a)), .int (iI i4), .int (iI v31)]) (rest := []) dX4_addItem_89 ok_X1_set im_X1_set se_X1_set ml4_144 np_X1_set rfl rfl hk23o rfl (Nat.le_of_ble_eq_true rfl) (Nat.le_of_ble_eq_true rfl) rfl (k_X1_set (d + 1) (T := T) (σ := σ) (a := x21) (k := σ0.2.1 32 a) (c := i4) (y := v31) hk23o (by omega) (by omega) (by omega) hw (by omega) (by omega)) (fun r32 T34 σ33 gt35 hp => ?_)
        obtain ⟨rfl, rfl, w37, F38⟩ := hp
        clear gt35
        show Tn _ _ 92 T σ33 [(5, .int (iI 1)), (0, .ref a), (1, .int (iI c1)), (2, .int (iI c2)), (3, .int (iI c3)), (4, .int (iI i4))] [] _
        refine tn_aload_n dX4_addItem_92 rfl 1 rfl ?_
        refine tn_getR (ci := 4) (i := 2) (n := 25) (x := x21) dX4_addItem_93 rfl lay_4 (by decide) fl4_19 h_a rfl rfl (rc_F F38 (Or.inl (by decide)) (by decide) (rc_F hF (Or.inl (by decide)) (by decide) (hx22))) ?_
        refine tn_aload_n dX4_addItem_96 rfl 1 rfl ?_
        refine tn_getI (ci := 4) (i := 9) (n := 32) (t := σ0.2.1 32 a) dX4_addItem_97 rfl lay_4 (by decide) fl4_96 h_a rfl rfl (rc_F F38 (Or.inl (by decide)) (by decide) (rc_F hF (Or.inl (by decide)) (by decide) (rfl))) ?_
        refine tn_iload dX4_addItem_100 5 rfl ?_
        refine tn_iconst dX4_addItem_102 ?_
        refine tn_iadd dX4_addItem_103 ?_
        refine tn_aload_n dX4_addItem_104 rfl 1 rfl ?_
        refine tn_getR (ci := 4) (i := 3) (n := 26) (x := x6) dX4_addItem_105 rfl lay_4 (by decide) fl4_33 h_a rfl rfl (rc_F F38 (Or.inl (by decide)) (by decide) (rc_F hF (Or.inl (by decide)) (by decide) (hx7))) ?_
        refine tn_iload_n dX4_addItem_108 rfl 2 rfl ?_
        refine tn_iload dX4_addItem_109 5 rfl ?_
        refine tn_iconst dX4_addItem_111 ?_
        refine tn_iadd dX4_addItem_112 ?_
        refine tn_callV (M := m_X4_addItem) (pc := 113) (ix := 29) (ci := 1) (M' := m_X1_get) (As := [.int (iI c1), .int (iI (i4 + 1))]) (rest := [.int (iI (i4 + 1)), .int (iI (σ0.2.1 32 a)), .ref x21]) dX4_addItem_113 ok_X1_get im_X1_get se_X1_get ml4_29 np_X1_get rfl rfl hk8o rfl (Nat.le_of_ble_eq_true rfl) (Nat.le_of_ble_eq_true rfl) rfl (k_X1_get (d + 1) (T := T) (σ := σ33) (a := x6) (k := c1) (c := i4 + 1) hk8o (by omega) (by omega) w37 (by omega)) (fun r39 T41 σ40 gt42 hp => ?_)
        obtain ⟨v44, rfl, rfl, rfl, f43⟩ := hp
        clear gt42
        show Tn _ _ 116 T σ33 [(5, .int (iI 1)), (0, .ref a), (1, .int (iI c1)), (2, .int (iI c2)), (3, .int (iI c3)), (4, .int (iI i4))] [.int (iI v44), .int (iI (i4 + 1)), .int (iI (σ0.2.1 32 a)), .ref x21] _
        refine tn_iload dX4_addItem_116 0 rfl ?_
        refine tn_if_eq (tgt := 128) dX4_addItem_118 (by decide) ⟨by decide, by decide⟩ (fun h => absurd h (by decide)) (fun _ => ?_)
        refine tn_aload_n dX4_addItem_121 rfl 1 rfl ?_
        refine tn_getI (ci := 4) (i := 4) (n := 27) (t := σ0.2.1 27 a) dX4_addItem_122 rfl lay_4 (by decide) fl4_57 h_a rfl rfl (rc_F F38 (Or.inl (by decide)) (by decide) (rc_F hF (Or.inl (by decide)) (by decide) (rfl))) ?_
        have g46 : ((-2147483648 : Int) ≤ σ0.2.1 27 a ∧ σ0.2.1 27 a ≤ 2147483647) := wf_27 hw0 h_a
        refine tn_goto (tgt := 129) dX4_addItem_125 (by decide) ?_
        refine tn_iadd dX4_addItem_129 ?_
        refine tn_any (fun z47 g48 => ?_)
        have g48r : -2147483648 ≤ z47 ∧ z47 ≤ 2147483647 := g48
        refine tn_callV (M := m_X4_addItem) (pc := 130) (ix := 144) (ci := 1) (M' := m_X1_set) (As := [.int (iI (σ0.2.1 32 a)), .int (iI (i4 + 1)), .int (iI z47)]) (rest := []) dX4_addItem_130 ok_X1_set im_X1_set se_X1_set ml4_144 np_X1_set rfl rfl hk23o rfl (Nat.le_of_ble_eq_true rfl) (Nat.le_of_ble_eq_true rfl) rfl (k_X1_set (d + 1) (T := T) (σ := σ33) (a := x21) (k := σ0.2.1 32 a) (c := i4 + 1) (y := z47) hk23o (by omega) (by omega) (by omega) w37 (by omega) (by omega)) (fun r49 T51 σ50 gt52 hp => ?_)
        obtain ⟨rfl, rfl, w54, F55⟩ := hp
        clear gt52
        show Tn _ _ 133 T σ50 [(5, .int (iI 1)), (0, .ref a), (1, .int (iI c1)), (2, .int (iI c2)), (3, .int (iI c3)), (4, .int (iI i4))] [] _
        refine tn_iinc (q0 := 5) (L' := [(4, .int (iI (i4 + 2))), (5, .int (iI 1)), (0, .ref a), (1, .int (iI c1)), (2, .int (iI c2)), (3, .int (iI c3))]) dX4_addItem_133 rfl (by decide) rfl ?_
        refine tn_goto (tgt := 24) dX4_addItem_136 (by decide) ?_
        exact tn_sub [2, 3, 4, 5, 0] rfl (ih _ (by omega) (i4 + 2) σ50 w54 (((FrC.rfl.trans (FrC.sub hF (by decide))).trans (FrC.sub F38 (by decide))).trans (FrC.sub F55 (by decide))) (by omega) rfl)
      · refine tn_iload dX4_addItem_45 4 rfl ?_
        refine tn_iconst dX4_addItem_47 ?_
        refine tn_icmp_ne (tgt := 66) dX4_addItem_48 (by decide) ⟨by omega, by omega⟩ ⟨by decide, by decide⟩ (fun h56 => ?_) (fun h56 => ?_)
        · refine tn_iconst dX4_addItem_66 ?_
          refine tn_istore (L' := [(5, .int (iI 0)), (0, .ref a), (1, .int (iI c1)), (2, .int (iI c2)), (3, .int (iI c3)), (4, .int (iI i4))]) dX4_addItem_67 (by decide) rfl ?_
          refine tn_aload_n dX4_addItem_69 rfl 1 rfl ?_
          have nn64 : 0 ≤ σ0.2.1 25 a := (by omega)
          obtain ⟨x61, hx62, hk63⟩ := (wf_25 hw0 h_a).resolve_left (by omega)
          have hk63o : OB T x61 1 := ⟨by omega, by rw [hk63]; rfl, by omega⟩
          refine tn_getR (ci := 4) (i := 2) (n := 25) (x := x61) dX4_addItem_70 rfl lay_4 (by decide) fl4_19 h_a rfl rfl (rc_F hF (Or.inl (by decide)) (by decide) (hx62)) ?_
          refine tn_aload_n dX4_addItem_73 rfl 1 rfl ?_
          refine tn_getI (ci := 4) (i := 9) (n := 32) (t := σ0.2.1 32 a) dX4_addItem_74 rfl lay_4 (by decide) fl4_96 h_a rfl rfl (rc_F hF (Or.inl (by decide)) (by decide) (rfl)) ?_
          have g65 : ((-2147483648 : Int) ≤ σ0.2.1 32 a ∧ σ0.2.1 32 a ≤ 2147483647) := wf_32 hw0 h_a
          refine tn_iload dX4_addItem_77 5 rfl ?_
          refine tn_aload_n dX4_addItem_79 rfl 1 rfl ?_
          refine tn_getR (ci := 4) (i := 3) (n := 26) (x := x6) dX4_addItem_80 rfl lay_4 (by decide) fl4_33 h_a rfl rfl (rc_F hF (Or.inl (by decide)) (by decide) (hx7)) ?_
          refine tn_iload_n dX4_addItem_83 rfl 2 rfl ?_
          refine tn_iload dX4_addItem_84 5 rfl ?_
          refine tn_callV (M := m_X4_addItem) (pc := 86) (ix := 29) (ci := 1) (M' := m_X1_get) (As := [.int (iI c1), .int (iI i4)]) (rest := [.int (iI i4), .int (iI (σ0.2.1 32 a)), .ref x61]) dX4_addItem_86 ok_X1_get im_X1_get se_X1_get ml4_29 np_X1_get rfl rfl hk8o rfl (Nat.le_of_ble_eq_true rfl) (Nat.le_of_ble_eq_true rfl) rfl (k_X1_get (d + 1) (T := T) (σ := σ) (a := x6) (k := c1) (c := i4) hk8o (by omega) (by omega) hw (by omega)) (fun r66 T68 σ67 gt69 hp => ?_)
          obtain ⟨v71, rfl, rfl, rfl, f70⟩ := hp
          clear gt69
          show Tn _ _ 89 T σ [(5, .int (iI 0)), (0, .ref a), (1, .int (iI c1)), (2, .int (iI c2)), (3, .int (iI c3)), (4, .int (iI i4))] [.int (iI v71), .int (iI i4), .int (iI (σ0.2.1 32 a)), .ref x61] _
          refine tn_callV (M := m_X4_addItem) (pc := 89) (ix := 144) (ci := 1) (M' := m_X1_set) (As := [.int (iI (σ0.2.1 32 a)), .int (iI i4), .int (iI v71)]) (rest := []) dX4_addItem_89 ok_X1_set im_X1_set se_X1_set ml4_144 np_X1_set rfl rfl hk63o rfl (Nat.le_of_ble_eq_true rfl) (Nat.le_of_ble_eq_true rfl) rfl (k_X1_set (d + 1) (T := T) (σ := σ) (a := x61) (k := σ0.2.1 32 a) (c := i4) (y := v71) hk63o (by omega) (by omega) (by omega) hw (by omega) (by omega)) (fun r72 T74 σ73 gt75 hp => ?_)
          obtain ⟨rfl, rfl, w77, F78⟩ := hp
          clear gt75
          show Tn _ _ 92 T σ73 [(5, .int (iI 0)), (0, .ref a), (1, .int (iI c1)), (2, .int (iI c2)), (3, .int (iI c3)), (4, .int (iI i4))] [] _
          refine tn_aload_n dX4_addItem_92 rfl 1 rfl ?_
          refine tn_getR (ci := 4) (i := 2) (n := 25) (x := x61) dX4_addItem_93 rfl lay_4 (by decide) fl4_19 h_a rfl rfl (rc_F F78 (Or.inl (by decide)) (by decide) (rc_F hF (Or.inl (by decide)) (by decide) (hx62))) ?_
          refine tn_aload_n dX4_addItem_96 rfl 1 rfl ?_
          refine tn_getI (ci := 4) (i := 9) (n := 32) (t := σ0.2.1 32 a) dX4_addItem_97 rfl lay_4 (by decide) fl4_96 h_a rfl rfl (rc_F F78 (Or.inl (by decide)) (by decide) (rc_F hF (Or.inl (by decide)) (by decide) (rfl))) ?_
          refine tn_iload dX4_addItem_100 5 rfl ?_
          refine tn_iconst dX4_addItem_102 ?_
          refine tn_iadd dX4_addItem_103 ?_
          refine tn_aload_n dX4_addItem_104 rfl 1 rfl ?_
          refine tn_getR (ci := 4) (i := 3) (n := 26) (x := x6) dX4_addItem_105 rfl lay_4 (by decide) fl4_33 h_a rfl rfl (rc_F F78 (Or.inl (by decide)) (by decide) (rc_F hF (Or.inl (by decide)) (by decide) (hx7))) ?_
          refine tn_iload_n dX4_addItem_108 rfl 2 rfl ?_
          refine tn_iload dX4_addItem_109 5 rfl ?_
          refine tn_iconst dX4_addItem_111 ?_
          refine tn_iadd dX4_addItem_112 ?_
          refine tn_callV (M := m_X4_addItem) (pc := 113) (ix := 29) (ci := 1) (M' := m_X1_get) (As := [.int (iI c1), .int (iI (i4 + 1))]) (rest := [.int (iI (i4 + 1)), .int (iI (σ0.2.1 32 a)), .ref x61]) dX4_addItem_113 ok_X1_get im_X1_get se_X1_get ml4_29 np_X1_get rfl rfl hk8o rfl (Nat.le_of_ble_eq_true rfl) (Nat.le_of_ble_eq_true rfl) rfl (k_X1_get (d + 1) (T := T) (σ := σ73) (a := x6) (k := c1) (c := i4 + 1) hk8o (by omega) (by omega) w77 (by omega)) (fun r79 T81 σ80 gt82 hp => ?_)
          obtain ⟨v84, rfl, rfl, rfl, f83⟩ := hp
          clear gt82
          show Tn _ _ 116 T σ73 [(5, .int (iI 0)), (0, .ref a), (1, .int (iI c1)), (2, .int (iI c2)), (3, .int (iI c3)), (4, .int (iI i4))] [.int (iI v84), .int (iI (i4 + 1)), .int (iI (σ0.2.1 32 a)), .ref x61] _
          refine tn_iload dX4_addItem_116 0 rfl ?_
          refine tn_if_eq (tgt := 128) dX4_addItem_118 (by decide) ⟨by decide, by decide⟩ (fun _ => ?_) (fun h => absurd h (by decide))
          refine tn_iconst dX4_addItem_128 ?_
          refine tn_iadd dX4_addItem_129 ?_
          refine tn_callV (M := m_X4_addItem) (pc := 130) (ix := 144) (ci := 1) (M' := m_X1_set) (As := [.int (iI (σ0.2.1 32 a)), .int (iI (i4 + 1)), .int (iI (v84 + 0))]) (rest := []) dX4_addItem_130 ok_X1_set im_X1_set se_X1_set ml4_144 np_X1_set rfl rfl hk63o rfl (Nat.le_of_ble_eq_true rfl) (Nat.le_of_ble_eq_true rfl) rfl (k_X1_set (d + 1) (T := T) (σ := σ73) (a := x61) (k := σ0.2.1 32 a) (c := i4 + 1) (y := v84 + 0) hk63o (by omega) (by omega) (by omega) w77 (by omega) (by omega)) (fun r86 T88 σ87 gt89 hp => ?_)
          obtain ⟨rfl, rfl, w91, F92⟩ := hp
          clear gt89
          show Tn _ _ 133 T σ87 [(5, .int (iI 0)), (0, .ref a), (1, .int (iI c1)), (2, .int (iI c2)), (3, .int (iI c3)), (4, .int (iI i4))] [] _
          refine tn_iinc (q0 := 5) (L' := [(4, .int (iI (i4 + 2))), (5, .int (iI 0)), (0, .ref a), (1, .int (iI c1)), (2, .int (iI c2)), (3, .int (iI c3))]) dX4_addItem_133 rfl (by decide) rfl ?_
          refine tn_goto (tgt := 24) dX4_addItem_136 (by decide) ?_
          exact tn_sub [2, 3, 4, 5, 0] rfl (ih _ (by omega) (i4 + 2) σ87 w91 (((FrC.rfl.trans (FrC.sub hF (by decide))).trans (FrC.sub F78 (by decide))).trans (FrC.sub F92 (by decide))) (by omega) rfl)
        · refine tn_iload_n dX4_addItem_51 rfl 2 rfl ?_
          refine tn_bipush dX4_addItem_52 (by decide) ?_
          refine tn_icmp_ne (tgt := 66) dX4_addItem_54 (by decide) ⟨by omega, by omega⟩ ⟨by decide, by decide⟩ (fun h93 => ?_) (fun h93 => ?_)
          · refine tn_iconst dX4_addItem_66 ?_
            refine tn_istore (L' := [(5, .int (iI 0)), (0, .ref a), (1, .int (iI c1)), (2, .int (iI c2)), (3, .int (iI c3)), (4, .int (iI i4))]) dX4_addItem_67 (by decide) rfl ?_
            refine tn_aload_n dX4_addItem_69 rfl 1 rfl ?_
            have nn101 : 0 ≤ σ0.2.1 25 a := (by omega)
            obtain ⟨x98, hx99, hk100⟩ := (wf_25 hw0 h_a).resolve_left (by omega)
            have hk100o : OB T x98 1 := ⟨by omega, by rw [hk100]; rfl, by omega⟩
            refine tn_getR (ci := 4) (i := 2) (n := 25) (x := x98) dX4_addItem_70 rfl lay_4 (by decide) fl4_19 h_a rfl rfl (rc_F hF (Or.inl (by decide)) (by decide) (hx99)) ?_
            refine tn_aload_n dX4_addItem_73 rfl 1 rfl ?_
            refine tn_getI (ci := 4) (i := 9) (n := 32) (t := σ0.2.1 32 a) dX4_addItem_74 rfl lay_4 (by decide) fl4_96 h_a rfl rfl (rc_F hF (Or.inl (by decide)) (by decide) (rfl)) ?_
            have g102 : ((-2147483648 : Int) ≤ σ0.2.1 32 a ∧ σ0.2.1 32 a ≤ 2147483647) := wf_32 hw0 h_a
            refine tn_iload dX4_addItem_77 5 rfl ?_
            refine tn_aload_n dX4_addItem_79 rfl 1 rfl ?_
            refine tn_getR (ci := 4) (i := 3) (n := 26) (x := x6) dX4_addItem_80 rfl lay_4 (by decide) fl4_33 h_a rfl rfl (rc_F hF (Or.inl (by decide)) (by decide) (hx7)) ?_
            refine tn_iload_n dX4_addItem_83 rfl 2 rfl ?_
            refine tn_iload dX4_addItem_84 5 rfl ?_
            refine tn_callV (M := m_X4_addItem) (pc := 86) (ix := 29) (ci := 1) (M' := m_X1_get) (As := [.int (iI c1), .int (iI i4)]) (rest := [.int (iI i4), .int (iI (σ0.2.1 32 a)), .ref x98]) dX4_addItem_86 ok_X1_get im_X1_get se_X1_get ml4_29 np_X1_get rfl rfl hk8o rfl (Nat.le_of_ble_eq_true rfl) (Nat.le_of_ble_eq_true rfl) rfl (k_X1_get (d + 1) (T := T) (σ := σ) (a := x6) (k := c1) (c := i4) hk8o (by omega) (by omega) hw (by omega)) (fun r103 T105 σ104 gt106 hp => ?_)
            obtain ⟨v108, rfl, rfl, rfl, f107⟩ := hp
            clear gt106
            show Tn _ _ 89 T σ [(5, .int (iI 0)), (0, .ref a), (1, .int (iI c1)), (2, .int (iI c2)), (3, .int (iI c3)), (4, .int (iI i4))] [.int (iI v108), .int (iI i4), .int (iI (σ0.2.1 32 a)), .ref x98] _
            refine tn_callV (M := m_X4_addItem) (pc := 89) (ix := 144) (ci := 1) (M' := m_X1_set) (As := [.int (iI (σ0.2.1 32 a)), .int (iI i4), .int (iI v108)]) (rest := []) dX4_addItem_89 ok_X1_set im_X1_set se_X1_set ml4_144 np_X1_set rfl rfl hk100o rfl (Nat.le_of_ble_eq_true rfl) (Nat.le_of_ble_eq_true rfl) rfl (k_X1_set (d + 1) (T := T) (σ := σ) (a := x98) (k := σ0.2.1 32 a) (c := i4) (y := v108) hk100o (by omega) (by omega) (by omega) hw (by omega) (by omega)) (fun r109 T111 σ110 gt112 hp => ?_)
            obtain ⟨rfl, rfl, w114, F115⟩ := hp
            clear gt112
            show Tn _ _ 92 T σ110 [(5, .int (iI 0)), (0, .ref a), (1, .int (iI c1)), (2, .int (iI c2)), (3, .int (iI c3)), (4, .int (iI i4))] [] _
            refine tn_aload_n dX4_addItem_92 rfl 1 rfl ?_
            refine tn_getR (ci := 4) (i := 2) (n := 25) (x := x98) dX4_addItem_93 rfl lay_4 (by decide) fl4_19 h_a rfl rfl (rc_F F115 (Or.inl (by decide)) (by decide) (rc_F hF (Or.inl (by decide)) (by decide) (hx99))) ?_
            refine tn_aload_n dX4_addItem_96 rfl 1 rfl ?_
            refine tn_getI (ci := 4) (i := 9) (n := 32) (t := σ0.2.1 32 a) dX4_addItem_97 rfl lay_4 (by decide) fl4_96 h_a rfl rfl (rc_F F115 (Or.inl (by decide)) (by decide) (rc_F hF (Or.inl (by decide)) (by decide) (rfl))) ?_
            refine tn_iload dX4_addItem_100 5 rfl ?_
            refine tn_iconst dX4_addItem_102 ?_
            refine tn_iadd dX4_addItem_103 ?_
            refine tn_aload_n dX4_addItem_104 rfl 1 rfl ?_
            refine tn_getR (ci := 4) (i := 3) (n := 26) (x := x6) dX4_addItem_105 rfl lay_4 (by decide) fl4_33 h_a rfl rfl (rc_F F115 (Or.inl (by decide)) (by decide) (rc_F hF (Or.inl (by decide)) (by decide) (hx7))) ?_
            refine tn_iload_n dX4_addItem_108 rfl 2 rfl ?_
            refine tn_iload dX4_addItem_109 5 rfl ?_
            refine tn_iconst dX4_addItem_111 ?_
            refine tn_iadd dX4_addItem_112 ?_
            refine tn_callV (M := m_X4_addItem) (pc := 113) (ix := 29) (ci := 1) (M' := m_X1_get) (As := [.int (iI c1), .int (iI (i4 + 1))]) (rest := [.int (iI (i4 + 1)), .int (iI (σ0.2.1 32 a)), .ref x98]) dX4_addItem_113 ok_X1_get im_X1_get se_X1_get ml4_29 np_X1_get rfl rfl hk8o rfl (Nat.le_of_ble_eq_true rfl) (Nat.le_of_ble_eq_true rfl) rfl (k_X1_get (d + 1) (T := T) (σ := σ110) (a := x6) (k := c1) (c := i4 + 1) hk8o (by omega) (by omega) w114 (by omega)) (fun r116 T118 σ117 gt119 hp => ?_)
            obtain ⟨v121, rfl, rfl, rfl, f120⟩ := hp
            clear gt119
            show Tn _ _ 116 T σ110 [(5, .int (iI 0)), (0, .ref a), (1, .int (iI c1)), (2, .int (iI c2)), (3, .int (iI c3)), (4, .int (iI i4))] [.int (iI v121), .int (iI (i4 + 1)), .int (iI (σ0.2.1 32 a)), .ref x98] _
            refine tn_iload dX4_addItem_116 0 rfl ?_
            refine tn_if_eq (tgt := 128) dX4_addItem_118 (by decide) ⟨by decide, by decide⟩ (fun _ => ?_) (fun h => absurd h (by decide))
            refine tn_iconst dX4_addItem_128 ?_
            refine tn_iadd dX4_addItem_129 ?_
            refine tn_callV (M := m_X4_addItem) (pc := 130) (ix := 144) (ci := 1) (M' := m_X1_set) (As := [.int (iI (σ0.2.1 32 a)), .int (iI (i4 + 1)), .int (iI (v121 + 0))]) (rest := []) dX4_addItem_130 ok_X1_set im_X1_set se_X1_set ml4_144 np_X1_set rfl rfl hk100o rfl (Nat.le_of_ble_eq_true rfl) (Nat.le_of_ble_eq_true rfl) rfl (k_X1_set (d + 1) (T := T) (σ := σ110) (a := x98) (k := σ0.2.1 32 a) (c := i4 + 1) (y := v121 + 0) hk100o (by omega) (by omega) (by omega) w114 (by omega) (by omega)) (fun r123 T125 σ124 gt126 hp => ?_)
            obtain ⟨rfl, rfl, w128, F129⟩ := hp
            clear gt126
            show Tn _ _ 133 T σ124 [(5, .int (iI 0)), (0, .ref a), (1, .int (iI c1)), (2, .int (iI c2)), (3, .int (iI c3)), (4, .int (iI i4))] [] _
            refine tn_iinc (q0 := 5) (L' := [(4, .int (iI (i4 + 2))), (5, .int (iI 0)), (0, .ref a), (1, .int (iI c1)), (2, .int (iI c2)), (3, .int (iI c3))]) dX4_addItem_133 rfl (by decide) rfl ?_
            refine tn_goto (tgt := 24) dX4_addItem_136 (by decide) ?_
            exact tn_sub [2, 3, 4, 5, 0] rfl (ih _ (by omega) (i4 + 2) σ124 w128 (((FrC.rfl.trans (FrC.sub hF (by decide))).trans (FrC.sub F115 (by decide))).trans (FrC.sub F129 (by decide))) (by omega) rfl)
          · refine tn_iload_n dX4_addItem_57 rfl 3 rfl ?_
            refine tn_iconst dX4_addItem_58 ?_
            refine tn_icmp_ne (tgt := 66) dX4_addItem_59 (by decide) ⟨by omega, by omega⟩ ⟨by decide, by decide⟩ (fun h130 => ?_) (fun h130 => ?_)
            · refine tn_iconst dX4_addItem_66 ?_
              refine tn_istore (L' := [(5, .int (iI 0)), (0, .ref a), (1, .int (iI c1)), (2, .int (iI c2)), (3, .int (iI c3)), (4, .int (iI i4))]) dX4_addItem_67 (by decide) rfl ?_
              refine tn_aload_n dX4_addItem_69 rfl 1 rfl ?_
              have nn138 : 0 ≤ σ0.2.1 25 a := (by omega)
              obtain ⟨x135, hx136, hk137⟩ := (wf_25 hw0 h_a).resolve_left (by omega)
              have hk137o : OB T x135 1 := ⟨by omega, by rw [hk137]; rfl, by omega⟩
              refine tn_getR (ci := 4) (i := 2) (n := 25) (x := x135) dX4_addItem_70 rfl lay_4 (by decide) fl4_19 h_a rfl rfl (rc_F hF (Or.inl (by decide)) (by decide) (hx136)) ?_
              refine tn_aload_n dX4_addItem_73 rfl 1 rfl ?_
              refine tn_getI (ci := 4) (i := 9) (n := 32) (t := σ0.2.1 32 a) dX4_addItem_74 rfl lay_4 (by decide) fl4_96 h_a rfl rfl (rc_F hF (Or.inl (by decide)) (by decide) (rfl)) ?_
              have g139 : ((-2147483648 : Int) ≤ σ0.2.1 32 a ∧ σ0.2.1 32 a ≤ 2147483647) := wf_32 hw0 h_a
              refine tn_iload dX4_addItem_77 5 rfl ?_
              refine tn_aload_n dX4_addItem_79 rfl 1 rfl ?_
              refine tn_getR (ci := 4) (i := 3) (n := 26) (x := x6) dX4_addItem_80 rfl lay_4 (by decide) fl4_33 h_a rfl rfl (rc_F hF (Or.inl (by decide)) (by decide) (hx7)) ?_
              refine tn_iload_n dX4_addItem_83 rfl 2 rfl ?_
              refine tn_iload dX4_addItem_84 5 rfl ?_
              refine tn_callV (M := m_X4_addItem) (pc := 86) (ix := 29) (ci := 1) (M' := m_X1_get) (As := [.int (iI c1), .int (iI i4)]) (rest := [.int (iI i4), .int (iI (σ0.2.1 32 a)), .ref x135]) dX4_addItem_86 ok_X1_get im_X1_get se_X1_get ml4_29 np_X1_get rfl rfl hk8o rfl (Nat.le_of_ble_eq_true rfl) (Nat.le_of_ble_eq_true rfl) rfl (k_X1_get (d + 1) (T := T) (σ := σ) (a := x6) (k := c1) (c := i4) hk8o (by omega) (by omega) hw (by omega)) (fun r140 T142 σ141 gt143 hp => ?_)
              obtain ⟨v145, rfl, rfl, rfl, f144⟩ := hp
              clear gt143
              show Tn _ _ 89 T σ [(5, .int (iI 0)), (0, .ref a), (1, .int (iI c1)), (2, .int (iI c2)), (3, .int (iI c3)), (4, .int (iI i4))] [.int (iI v145), .int (iI i4), .int (iI (σ0.2.1 32 a)), .ref x135] _
              refine tn_callV (M := m_X4_addItem) (pc := 89) (ix := 144) (ci := 1) (M' := m_X1_set) (As := [.int (iI (σ0.2.1 32 a)), .int (iI i4), .int (iI v145)]) (rest := []) dX4_addItem_89 ok_X1_set im_X1_set se_X1_set ml4_144 np_X1_set rfl rfl hk137o rfl (Nat.le_of_ble_eq_true rfl) (Nat.le_of_ble_eq_true rfl) rfl (k_X1_set (d + 1) (T := T) (σ := σ) (a := x135) (k := σ0.2.1 32 a) (c := i4) (y := v145) hk137o (by omega) (by omega) (by omega) hw (by omega) (by omega)) (fun r146 T148 σ147 gt149 hp => ?_)
              obtain ⟨rfl, rfl, w151, F152⟩ := hp
              clear gt149
              show Tn _ _ 92 T σ147 [(5, .int (iI 0)), (0, .ref a), (1, .int (iI c1)), (2, .int (iI c2)), (3, .int (iI c3)), (4, .int (iI i4))] [] _
              refine tn_aload_n dX4_addItem_92 rfl 1 rfl ?_
              refine tn_getR (ci := 4) (i := 2) (n := 25) (x := x135) dX4_addItem_93 rfl lay_4 (by decide) fl4_19 h_a rfl rfl (rc_F F152 (Or.inl (by decide)) (by decide) (rc_F hF (Or.inl (by decide)) (by decide) (hx136))) ?_
              refine tn_aload_n dX4_addItem_96 rfl 1 rfl ?_
              refine tn_getI (ci := 4) (i := 9) (n := 32) (t := σ0.2.1 32 a) dX4_addItem_97 rfl lay_4 (by decide) fl4_96 h_a rfl rfl (rc_F F152 (Or.inl (by decide)) (by decide) (rc_F hF (Or.inl (by decide)) (by decide) (rfl))) ?_
              refine tn_iload dX4_addItem_100 5 rfl ?_
              refine tn_iconst dX4_addItem_102 ?_
              refine tn_iadd dX4_addItem_103 ?_
              refine tn_aload_n dX4_addItem_104 rfl 1 rfl ?_
              refine tn_getR (ci := 4) (i := 3) (n := 26) (x := x6) dX4_addItem_105 rfl lay_4 (by decide) fl4_33 h_a rfl rfl (rc_F F152 (Or.inl (by decide)) (by decide) (rc_F hF (Or.inl (by decide)) (by decide) (hx7))) ?_
              refine tn_iload_n dX4_addItem_108 rfl 2 rfl ?_
              refine tn_iload dX4_addItem_109 5 rfl ?_
              refine tn_iconst dX4_addItem_111 ?_
              refine tn_iadd dX4_addItem_112 ?_
              refine tn_callV (M := m_X4_addItem) (pc := 113) (ix := 29) (ci := 1) (M' := m_X1_get) (As := [.int (iI c1), .int (iI (i4 + 1))]) (rest := [.int (iI (i4 + 1)), .int (iI (σ0.2.1 32 a)), .ref x135]) dX4_addItem_113 ok_X1_get im_X1_get se_X1_get ml4_29 np_X1_get rfl rfl hk8o rfl (Nat.le_of_ble_eq_true rfl) (Nat.le_of_ble_eq_true rfl) rfl (k_X1_get (d + 1) (T := T) (σ := σ147) (a := x6) (k := c1) (c := i4 + 1) hk8o (by omega) (by omega) w151 (by omega)) (fun r153 T155 σ154 gt156 hp => ?_)
              obtain ⟨v158, rfl, rfl, rfl, f157⟩ := hp
              clear gt156
              show Tn _ _ 116 T σ147 [(5, .int (iI 0)), (0, .ref a), (1, .int (iI c1)), (2, .int (iI c2)), (3, .int (iI c3)), (4, .int (iI i4))] [.int (iI v158), .int (iI (i4 + 1)), .int (iI (σ0.2.1 32 a)), .ref x135] _
              refine tn_iload dX4_addItem_116 0 rfl ?_
              refine tn_if_eq (tgt := 128) dX4_addItem_118 (by decide) ⟨by decide, by decide⟩ (fun _ => ?_) (fun h => absurd h (by decide))
              refine tn_iconst dX4_addItem_128 ?_
              refine tn_iadd dX4_addItem_129 ?_
              refine tn_callV (M := m_X4_addItem) (pc := 130) (ix := 144) (ci := 1) (M' := m_X1_set) (As := [.int (iI (σ0.2.1 32 a)), .int (iI (i4 + 1)), .int (iI (v158 + 0))]) (rest := []) dX4_addItem_130 ok_X1_set im_X1_set se_X1_set ml4_144 np_X1_set rfl rfl hk137o rfl (Nat.le_of_ble_eq_true rfl) (Nat.le_of_ble_eq_true rfl) rfl (k_X1_set (d + 1) (T := T) (σ := σ147) (a := x135) (k := σ0.2.1 32 a) (c := i4 + 1) (y := v158 + 0) hk137o (by omega) (by omega) (by omega) w151 (by omega) (by omega)) (fun r160 T162 σ161 gt163 hp => ?_)
              obtain ⟨rfl, rfl, w165, F166⟩ := hp
              clear gt163
              show Tn _ _ 133 T σ161 [(5, .int (iI 0)), (0, .ref a), (1, .int (iI c1)), (2, .int (iI c2)), (3, .int (iI c3)), (4, .int (iI i4))] [] _
              refine tn_iinc (q0 := 5) (L' := [(4, .int (iI (i4 + 2))), (5, .int (iI 0)), (0, .ref a), (1, .int (iI c1)), (2, .int (iI c2)), (3, .int (iI c3))]) dX4_addItem_133 rfl (by decide) rfl ?_
              refine tn_goto (tgt := 24) dX4_addItem_136 (by decide) ?_
              exact tn_sub [2, 3, 4, 5, 0] rfl (ih _ (by omega) (i4 + 2) σ161 w165 (((FrC.rfl.trans (FrC.sub hF (by decide))).trans (FrC.sub F152 (by decide))).trans (FrC.sub F166 (by decide))) (by omega) rfl)
            · refine tn_iconst dX4_addItem_62 ?_
              refine tn_goto (tgt := 67) dX4_addItem_63 (by decide) ?_
              refine tn_istore (L' := [(5, .int (iI 1)), (0, .ref a), (1, .int (iI c1)), (2, .int (iI c2)), (3, .int (iI c3)), (4, .int (iI i4))]) dX4_addItem_67 (by decide) rfl ?_
              refine tn_aload_n dX4_addItem_69 rfl 1 rfl ?_
              have nn174 : 0 ≤ σ0.2.1 25 a := (by omega)
              obtain ⟨x171, hx172, hk173⟩ := (wf_25 hw0 h_a).resolve_left (by omega)
              have hk173o : OB T x171 1 := ⟨by omega, by rw [hk173]; rfl, by omega⟩
              refine tn_getR (ci := 4) (i := 2) (n := 25) (x := x171) dX4_addItem_70 rfl lay_4 (by decide) fl4_19 h_a rfl rfl (rc_F hF (Or.inl (by decide)) (by decide) (hx172)) ?_
              refine tn_aload_n dX4_addItem_73 rfl 1 rfl ?_
              refine tn_getI (ci := 4) (i := 9) (n := 32) (t := σ0.2.1 32 a) dX4_addItem_74 rfl lay_4 (by decide) fl4_96 h_a rfl rfl (rc_F hF (Or.inl (by decide)) (by decide) (rfl)) ?_
              have g175 : ((-2147483648 : Int) ≤ σ0.2.1 32 a ∧ σ0.2.1 32 a ≤ 2147483647) := wf_32 hw0 h_a
              refine tn_iload dX4_addItem_77 5 rfl ?_
              refine tn_aload_n dX4_addItem_79 rfl 1 rfl ?_
              refine tn_getR (ci := 4) (i := 3) (n := 26) (x := x6) dX4_addItem_80 rfl lay_4 (by decide) fl4_33 h_a rfl rfl (rc_F hF (Or.inl (by decide)) (by decide) (hx7)) ?_
              refine tn_iload_n dX4_addItem_83 rfl 2 rfl ?_
              refine tn_iload dX4_addItem_84 5 rfl ?_
              refine tn_callV (M := m_X4_addItem) (pc := 86) (ix := 29) (ci := 1) (M' := m_X1_get) (As := [.int (iI c1), .int (iI i4)]) (rest := [.int (iI i4), .int (iI (σ0.2.1 32 a)), .ref x171]) dX4_addItem_86 ok_X1_get im_X1_get se_X1_get ml4_29 np_X1_get rfl rfl hk8o rfl (Nat.le_of_ble_eq_true rfl) (Nat.le_of_ble_eq_true rfl) rfl (k_X1_get (d + 1) (T := T) (σ := σ) (a := x6) (k := c1) (c := i4) hk8o (by omega) (by omega) hw (by omega)) (fun r176 T178 σ177 gt179 hp => ?_)
              obtain ⟨v181, rfl, rfl, rfl, f180⟩ := hp
              clear gt179
              show Tn _ _ 89 T σ [(5, .int (iI 1)), (0, .ref a), (1, .int (iI c1)), (2, .int (iI c2)), (3, .int (iI c3)), (4, .int (iI i4))] [.int (iI v181), .int (iI i4), .int (iI (σ0.2.1 32 a)), .ref x171] _
              refine tn_callV (M := m_X4_addItem) (pc := 89) (ix := 144) (ci := 1) (M' := m_X1_set) (As := [.int (iI (σ0.2.1 32 a)), .int (iI i4), .int (iI v181)]) (rest := []) dX4_addItem_89 ok_X1_set im_X1_set se_X1_set ml4_144 np_X1_set rfl rfl hk173o rfl (Nat.le_of_ble_eq_true rfl) (Nat.le_of_ble_eq_true rfl) rfl (k_X1_set (d + 1) (T := T) (σ := σ) (a := x171) (k := σ0.2.1 32 a) (c := i4) (y := v181) hk173o (by omega) (by omega) (by omega) hw (by omega) (by omega)) (fun r182 T184 σ183 gt185 hp => ?_)
              obtain ⟨rfl, rfl, w187, F188⟩ := hp
              clear gt185
              show Tn _ _ 92 T σ183 [(5, .int (iI 1)), (0, .ref a), (1, .int (iI c1)), (2, .int (iI c2)), (3, .int (iI c3)), (4, .int (iI i4))] [] _
              refine tn_aload_n dX4_addItem_92 rfl 1 rfl ?_
              refine tn_getR (ci := 4) (i := 2) (n := 25) (x := x171) dX4_addItem_93 rfl lay_4 (by decide) fl4_19 h_a rfl rfl (rc_F F188 (Or.inl (by decide)) (by decide) (rc_F hF (Or.inl (by decide)) (by decide) (hx172))) ?_
              refine tn_aload_n dX4_addItem_96 rfl 1 rfl ?_
              refine tn_getI (ci := 4) (i := 9) (n := 32) (t := σ0.2.1 32 a) dX4_addItem_97 rfl lay_4 (by decide) fl4_96 h_a rfl rfl (rc_F F188 (Or.inl (by decide)) (by decide) (rc_F hF (Or.inl (by decide)) (by decide) (rfl))) ?_
              refine tn_iload dX4_addItem_100 5 rfl ?_
              refine tn_iconst dX4_addItem_102 ?_
              refine tn_iadd dX4_addItem_103 ?_
              refine tn_aload_n dX4_addItem_104 rfl 1 rfl ?_
              refine tn_getR (ci := 4) (i := 3) (n := 26) (x := x6) dX4_addItem_105 rfl lay_4 (by decide) fl4_33 h_a rfl rfl (rc_F F188 (Or.inl (by decide)) (by decide) (rc_F hF (Or.inl (by decide)) (by decide) (hx7))) ?_
              refine tn_iload_n dX4_addItem_108 rfl 2 rfl ?_
              refine tn_iload dX4_addItem_109 5 rfl ?_
              refine tn_iconst dX4_addItem_111 ?_
              refine tn_iadd dX4_addItem_112 ?_
              refine tn_callV (M := m_X4_addItem) (pc := 113) (ix := 29) (ci := 1) (M' := m_X1_get) (As := [.int (iI c1), .int (iI (i4 + 1))]) (rest := [.int (iI (i4 + 1)), .int (iI (σ0.2.1 32 a)), .ref x171]) dX4_addItem_113 ok_X1_get im_X1_get se_X1_get ml4_29 np_X1_get rfl rfl hk8o rfl (Nat.le_of_ble_eq_true rfl) (Nat.le_of_ble_eq_true rfl) rfl (k_X1_get (d + 1) (T := T) (σ := σ183) (a := x6) (k := c1) (c := i4 + 1) hk8o (by omega) (by omega) w187 (by omega)) (fun r189 T191 σ190 gt192 hp => ?_)
              obtain ⟨v194, rfl, rfl, rfl, f193⟩ := hp
              clear gt192
              show Tn _ _ 116 T σ183 [(5, .int (iI 1)), (0, .ref a), (1, .int (iI c1)), (2, .int (iI c2)), (3, .int (iI c3)), (4, .int (iI i4))] [.int (iI v194), .int (iI (i4 + 1)), .int (iI (σ0.2.1 32 a)), .ref x171] _
              refine tn_iload dX4_addItem_116 0 rfl ?_
              refine tn_if_eq (tgt := 128) dX4_addItem_118 (by decide) ⟨by decide, by decide⟩ (fun h => absurd h (by decide)) (fun _ => ?_)
              refine tn_aload_n dX4_addItem_121 rfl 1 rfl ?_
              refine tn_getI (ci := 4) (i := 4) (n := 27) (t := σ0.2.1 27 a) dX4_addItem_122 rfl lay_4 (by decide) fl4_57 h_a rfl rfl (rc_F F188 (Or.inl (by decide)) (by decide) (rc_F hF (Or.inl (by decide)) (by decide) (rfl))) ?_
              have g196 : ((-2147483648 : Int) ≤ σ0.2.1 27 a ∧ σ0.2.1 27 a ≤ 2147483647) := wf_27 hw0 h_a
              refine tn_goto (tgt := 129) dX4_addItem_125 (by decide) ?_
              refine tn_iadd dX4_addItem_129 ?_
              refine tn_any (fun z197 g198 => ?_)
              have g198r : -2147483648 ≤ z197 ∧ z197 ≤ 2147483647 := g198
              refine tn_callV (M := m_X4_addItem) (pc := 130) (ix := 144) (ci := 1) (M' := m_X1_set) (As := [.int (iI (σ0.2.1 32 a)), .int (iI (i4 + 1)), .int (iI z197)]) (rest := []) dX4_addItem_130 ok_X1_set im_X1_set se_X1_set ml4_144 np_X1_set rfl rfl hk173o rfl (Nat.le_of_ble_eq_true rfl) (Nat.le_of_ble_eq_true rfl) rfl (k_X1_set (d + 1) (T := T) (σ := σ183) (a := x171) (k := σ0.2.1 32 a) (c := i4 + 1) (y := z197) hk173o (by omega) (by omega) (by omega) w187 (by omega) (by omega)) (fun r199 T201 σ200 gt202 hp => ?_)
              obtain ⟨rfl, rfl, w204, F205⟩ := hp
              clear gt202
              show Tn _ _ 133 T σ200 [(5, .int (iI 1)), (0, .ref a), (1, .int (iI c1)), (2, .int (iI c2)), (3, .int (iI c3)), (4, .int (iI i4))] [] _
              refine tn_iinc (q0 := 5) (L' := [(4, .int (iI (i4 + 2))), (5, .int (iI 1)), (0, .ref a), (1, .int (iI c1)), (2, .int (iI c2)), (3, .int (iI c3))]) dX4_addItem_133 rfl (by decide) rfl ?_
              refine tn_goto (tgt := 24) dX4_addItem_136 (by decide) ?_
              exact tn_sub [2, 3, 4, 5, 0] rfl (ih _ (by omega) (i4 + 2) σ200 w204 (((FrC.rfl.trans (FrC.sub hF (by decide))).trans (FrC.sub F188 (by decide))).trans (FrC.sub F205 (by decide))) (by omega) rfl)
theorem ml4_160 : Cond.methodLink RX4 160 yX4_shiftOf ∈ pWW := pw5 (List.mem_of_getElem? (i := 194) rfl) rfl
theorem dX4_addItem_139 : decode cX4_addItem 139 = .ok (.aload_n 0, 1) := by decide +kernel
theorem dX4_addItem_140 : decode cX4_addItem 140 = .ok (.getfield 19, 3) := by decide +kernel
theorem dX4_addItem_143 : decode cX4_addItem 143 = .ok (.aload_n 0, 1) := by decide +kernel
theorem dX4_addItem_144 : decode cX4_addItem 144 = .ok (.getfield 96, 3) := by decide +kernel
theorem dX4_addItem_147 : decode cX4_addItem 147 = .ok (.bipush 11, 2) := by decide +kernel
theorem dX4_addItem_149 : decode cX4_addItem 149 = .ok (.iload_n 3, 1) := by decide +kernel
theorem dX4_addItem_150 : decode cX4_addItem 150 = .ok (.invokevirtual 144, 3) := by decide +kernel
theorem dX4_addItem_153 : decode cX4_addItem 153 = .ok (.iload_n 2, 1) := by decide +kernel
theorem dX4_addItem_154 : decode cX4_addItem 154 = .ok (.bipush 11, 2) := by decide +kernel
theorem dX4_addItem_156 : decode cX4_addItem 156 = .ok (.if_icmp .eq 9, 3) := by decide +kernel
theorem dX4_addItem_165 : decode cX4_addItem 165 = .ok (.iconst 1, 1) := by decide +kernel
theorem dX4_addItem_166 : decode cX4_addItem 166 = .ok (.goto 4, 3) := by decide +kernel
theorem dX4_addItem_170 : decode cX4_addItem 170 = .ok (.istore 4, 2) := by decide +kernel
theorem dX4_addItem_172 : decode cX4_addItem 172 = .ok (.aload_n 0, 1) := by decide +kernel
theorem dX4_addItem_173 : decode cX4_addItem 173 = .ok (.iload_n 2, 1) := by decide +kernel
theorem dX4_addItem_174 : decode cX4_addItem 174 = .ok (.aload_n 0, 1) := by decide +kernel
theorem dX4_addItem_175 : decode cX4_addItem 175 = .ok (.getfield 33, 3) := by decide +kernel
theorem dX4_addItem_178 : decode cX4_addItem 178 = .ok (.iload_n 1, 1) := by decide +kernel
theorem dX4_addItem_179 : decode cX4_addItem 179 = .ok (.iconst 1, 1) := by decide +kernel
theorem dX4_addItem_180 : decode cX4_addItem 180 = .ok (.invokevirtual 29, 3) := by decide +kernel
theorem dX4_addItem_183 : decode cX4_addItem 183 = .ok (.aload_n 0, 1) := by decide +kernel
theorem dX4_addItem_184 : decode cX4_addItem 184 = .ok (.iload_n 2, 1) := by decide +kernel
theorem dX4_addItem_185 : decode cX4_addItem 185 = .ok (.invokevirtual 160, 3) := by decide +kernel
theorem dX4_addItem_188 : decode cX4_addItem 188 = .ok (.iadd, 1) := by decide +kernel
theorem dX4_addItem_189 : decode cX4_addItem 189 = .ok (.aload_n 0, 1) := by decide +kernel
theorem dX4_addItem_190 : decode cX4_addItem 190 = .ok (.getfield 33, 3) := by decide +kernel
theorem dX4_addItem_193 : decode cX4_addItem 193 = .ok (.iload_n 1, 1) := by decide +kernel
theorem dX4_addItem_194 : decode cX4_addItem 194 = .ok (.iconst 2, 1) := by decide +kernel
theorem dX4_addItem_195 : decode cX4_addItem 195 = .ok (.invokevirtual 29, 3) := by decide +kernel
theorem dX4_addItem_198 : decode cX4_addItem 198 = .ok (.iload 4, 2) := by decide +kernel
theorem dX4_addItem_200 : decode cX4_addItem 200 = .ok (.ifCond .eq 10, 3) := by decide +kernel
theorem dX4_addItem_203 : decode cX4_addItem 203 = .ok (.aload_n 0, 1) := by decide +kernel
theorem dX4_addItem_204 : decode cX4_addItem 204 = .ok (.getfield 69, 3) := by decide +kernel
theorem dX4_addItem_207 : decode cX4_addItem 207 = .ok (.goto 4, 3) := by decide +kernel
theorem dX4_addItem_211 : decode cX4_addItem 211 = .ok (.iadd, 1) := by decide +kernel
theorem dX4_addItem_212 : decode cX4_addItem 212 = .ok (.invokevirtual 148, 3) := by decide +kernel
theorem dX4_addItem_215 : decode cX4_addItem 215 = .ok (.return_, 1) := by decide +kernel
theorem dX4_addItem_159 : decode cX4_addItem 159 = .ok (.iload_n 2, 1) := by decide +kernel
theorem dX4_addItem_160 : decode cX4_addItem 160 = .ok (.bipush 12, 2) := by decide +kernel
theorem dX4_addItem_162 : decode cX4_addItem 162 = .ok (.if_icmp .ne 7, 3) := by decide +kernel
theorem dX4_addItem_169 : decode cX4_addItem 169 = .ok (.iconst 0, 1) := by decide +kernel
theorem dX4_addItem_210 : decode cX4_addItem 210 = .ok (.iconst 0, 1) := by decide +kernel
set_option maxRecDepth 20000 in
theorem k_X4_addItem (d : Nat) {T : CT} {σ : MS} {a : Nat} {p1 : Int} (ha : OB T a 4) (h_p1 : -2147483648 ≤ p1 ∧ p1 ≤ 2147483647) (hw : WT T σ) (hh : 0 ≤ σ.2.1 25 a) (hg : 0 ≤ σ.2.1 26 a) : Tn (d + 3) m_X4_addItem 0 T σ [(0, .ref a), (1, .int (iI p1))] [] (fun ro T2 σ2 => ro = none ∧ T = T2 ∧ WT T2 σ2 ∧ FrC T [32] σ σ2) := by
  refine tn_aload_n dX4_addItem_0 rfl 0 rfl ?_
  have nn8 : 0 ≤ σ.2.1 26 a := (by omega)
  obtain ⟨x5, hx6, hk7⟩ := (wf_26 hw ha).resolve_left (by omega)
  have hk7o : OB T x5 1 := ⟨by omega, by rw [hk7]; rfl, by omega⟩
  refine tn_getR (ci := 4) (i := 3) (n := 26) (x := x5) dX4_addItem_1 rfl lay_4 (by decide) fl4_33 ha rfl rfl (hx6) ?_
  refine tn_iload_n dX4_addItem_4 rfl 1 rfl ?_
  refine tn_iconst dX4_addItem_5 ?_
  refine tn_callV (M := m_X4_addItem) (pc := 6) (ix := 29) (ci := 1) (M' := m_X1_get) (As := [.int (iI p1), .int (iI 0)]) (rest := []) dX4_addItem_6 ok_X1_get im_X1_get se_X1_get ml4_29 np_X1_get rfl rfl hk7o rfl (Nat.le_of_ble_eq_true rfl) (Nat.le_of_ble_eq_true rfl) rfl (k_X1_get (d + 1) (T := T) (σ := σ) (a := x5) (k := p1) (c := 0) hk7o (by omega) (by decide) hw (by omega)) (fun r9 T11 σ10 gt12 hp => ?_)
  obtain ⟨v14, rfl, rfl, rfl, f13⟩ := hp
  clear gt12
  show Tn _ _ 9 T σ [(0, .ref a), (1, .int (iI p1))] [.int (iI v14)] _
  refine tn_istore_n (L' := [(2, .int (iI v14)), (0, .ref a), (1, .int (iI p1))]) dX4_addItem_9 rfl (by decide) rfl ?_
  refine tn_aload_n dX4_addItem_10 rfl 1 rfl ?_
  refine tn_getR (ci := 4) (i := 3) (n := 26) (x := x5) dX4_addItem_11 rfl lay_4 (by decide) fl4_33 ha rfl rfl (hx6) ?_
  refine tn_iload_n dX4_addItem_14 rfl 2 rfl ?_
  refine tn_bipush dX4_addItem_15 (by decide) ?_
  refine tn_callV (M := m_X4_addItem) (pc := 17) (ix := 29) (ci := 1) (M' := m_X1_get) (As := [.int (iI p1), .int (iI 11)]) (rest := []) dX4_addItem_17 ok_X1_get im_X1_get se_X1_get ml4_29 np_X1_get rfl rfl hk7o rfl (Nat.le_of_ble_eq_true rfl) (Nat.le_of_ble_eq_true rfl) rfl (k_X1_get (d + 1) (T := T) (σ := σ) (a := x5) (k := p1) (c := 11) hk7o (by omega) (by decide) hw (by omega)) (fun r15 T17 σ16 gt18 hp => ?_)
  obtain ⟨v20, rfl, rfl, rfl, f19⟩ := hp
  clear gt18
  show Tn _ _ 20 T σ [(2, .int (iI v14)), (0, .ref a), (1, .int (iI p1))] [.int (iI v20)] _
  refine tn_istore_n (L' := [(3, .int (iI v20)), (2, .int (iI v14)), (0, .ref a), (1, .int (iI p1))]) dX4_addItem_20 rfl (by decide) rfl ?_
  refine tn_iconst dX4_addItem_21 ?_
  refine tn_istore (L' := [(4, .int (iI 3)), (3, .int (iI v20)), (2, .int (iI v14)), (0, .ref a), (1, .int (iI p1))]) dX4_addItem_22 (by decide) rfl ?_
  refine tn_sub [3, 4, 2, 1, 0] rfl (l_X4_addItem_24 (d) (T := T) (σ0 := σ) (a := a) (c1 := p1) (c2 := v14) (c3 := v20) ha (by omega) (by omega) (by omega) hw (by omega) (by omega) (fun i421 σ22 w25 F26 r27 => ?_) _ (3) σ hw FrC.rfl (by omega) rfl)
  show Tn _ _ 139 T σ22 [(0, .ref a), (1, .int (iI p1)), (2, .int (iI v14)), (3, .int (iI v20)), (4, .int (iI i421))] [] _
  refine tn_aload_n dX4_addItem_139 rfl 0 rfl ?_
  have nn35 : 0 ≤ σ.2.1 25 a := (by omega)
  obtain ⟨x32, hx33, hk34⟩ := (wf_25 hw ha).resolve_left (by omega)
  have hk34o : OB T x32 1 := ⟨by omega, by rw [hk34]; rfl, by omega⟩
  refine tn_getR (ci := 4) (i := 2) (n := 25) (x := x32) dX4_addItem_140 rfl lay_4 (by decide) fl4_19 ha rfl rfl (rc_F F26 (Or.inl (by decide)) (by decide) (hx33)) ?_
  refine tn_aload_n dX4_addItem_143 rfl 0 rfl ?_
  refine tn_getI (ci := 4) (i := 9) (n := 32) (t := σ.2.1 32 a) dX4_addItem_144 rfl lay_4 (by decide) fl4_96 ha rfl rfl (rc_F F26 (Or.inl (by decide)) (by decide) (rfl)) ?_
  have g36 : ((-2147483648 : Int) ≤ σ.2.1 32 a ∧ σ.2.1 32 a ≤ 2147483647) := wf_32 hw ha
  refine tn_bipush dX4_addItem_147 (by decide) ?_
  refine tn_iload_n dX4_addItem_149 rfl 3 rfl ?_
  refine tn_callV (M := m_X4_addItem) (pc := 150) (ix := 144) (ci := 1) (M' := m_X1_set) (As := [.int (iI (σ.2.1 32 a)), .int (iI 11), .int (iI v20)]) (rest := []) dX4_addItem_150 ok_X1_set im_X1_set se_X1_set ml4_144 np_X1_set rfl rfl hk34o rfl (Nat.le_of_ble_eq_true rfl) (Nat.le_of_ble_eq_true rfl) rfl (k_X1_set (d + 1) (T := T) (σ := σ22) (a := x32) (k := σ.2.1 32 a) (c := 11) (y := v20) hk34o (by omega) (by decide) (by omega) w25 (by omega) (by omega)) (fun r37 T39 σ38 gt40 hp => ?_)
  obtain ⟨rfl, rfl, w42, F43⟩ := hp
  clear gt40
  show Tn _ _ 153 T σ38 [(0, .ref a), (1, .int (iI p1)), (2, .int (iI v14)), (3, .int (iI v20)), (4, .int (iI i421))] [] _
  refine tn_iload_n dX4_addItem_153 rfl 2 rfl ?_
  refine tn_bipush dX4_addItem_154 (by decide) ?_
  refine tn_icmp_eq (tgt := 165) dX4_addItem_156 (by decide) ⟨by omega, by omega⟩ ⟨by decide, by decide⟩ (fun h44 => ?_) (fun h44 => ?_)
  · refine tn_iconst dX4_addItem_165 ?_
    refine tn_goto (tgt := 170) dX4_addItem_166 (by decide) ?_
    refine tn_istore (L' := [(4, .int (iI 1)), (0, .ref a), (1, .int (iI p1)), (2, .int (iI v14)), (3, .int (iI v20))]) dX4_addItem_170 (by decide) rfl ?_
    refine tn_aload_n dX4_addItem_172 rfl 1 rfl ?_
    refine tn_iload_n dX4_addItem_173 rfl 3 rfl ?_
    refine tn_aload_n dX4_addItem_174 rfl 1 rfl ?_
    refine tn_getR (ci := 4) (i := 3) (n := 26) (x := x5) dX4_addItem_175 rfl lay_4 (by decide) fl4_33 ha rfl rfl (rc_F F43 (Or.inl (by decide)) (by decide) (rc_F F26 (Or.inl (by decide)) (by decide) (hx6))) ?_
    refine tn_iload_n dX4_addItem_178 rfl 2 rfl ?_
    refine tn_iconst dX4_addItem_179 ?_
    refine tn_callV (M := m_X4_addItem) (pc := 180) (ix := 29) (ci := 1) (M' := m_X1_get) (As := [.int (iI p1), .int (iI 1)]) (rest := [.int (iI v14), .ref a]) dX4_addItem_180 ok_X1_get im_X1_get se_X1_get ml4_29 np_X1_get rfl rfl hk7o rfl (Nat.le_of_ble_eq_true rfl) (Nat.le_of_ble_eq_true rfl) rfl (k_X1_get (d + 1) (T := T) (σ := σ38) (a := x5) (k := p1) (c := 1) hk7o (by omega) (by decide) w42 (by omega)) (fun r45 T47 σ46 gt48 hp => ?_)
    obtain ⟨v50, rfl, rfl, rfl, f49⟩ := hp
    clear gt48
    show Tn _ _ 183 T σ38 [(4, .int (iI 1)), (0, .ref a), (1, .int (iI p1)), (2, .int (iI v14)), (3, .int (iI v20))] [.int (iI v50), .int (iI v14), .ref a] _
    refine tn_aload_n dX4_addItem_183 rfl 1 rfl ?_
    refine tn_iload_n dX4_addItem_184 rfl 3 rfl ?_
    refine tn_callV (M := m_X4_addItem) (pc := 185) (ix := 160) (ci := 4) (M' := m_X4_shiftOf) (As := [.int (iI v14)]) (rest := [.int (iI v50), .int (iI v14), .ref a]) dX4_addItem_185 ok_X4_shiftOf im_X4_shiftOf se_X4_shiftOf ml4_160 np_X4_shiftOf rfl rfl ha rfl (Nat.le_of_ble_eq_true rfl) (Nat.le_of_ble_eq_true rfl) rfl (k_X4_shiftOf (d) (T := T) (σ := σ38) (a := a) (p1 := v14) ha (by omega) w42 ) (fun r51 T53 σ52 gt54 hp => ?_)
    obtain ⟨v56, rfl, rfl, rfl, f55⟩ := hp
    clear gt54
    show Tn _ _ 188 T σ38 [(4, .int (iI 1)), (0, .ref a), (1, .int (iI p1)), (2, .int (iI v14)), (3, .int (iI v20))] [.int (iI v56), .int (iI v50), .int (iI v14), .ref a] _
    refine tn_iadd dX4_addItem_188 ?_
    refine tn_any (fun z57 g58 => ?_)
    have g58r : -2147483648 ≤ z57 ∧ z57 ≤ 2147483647 := g58
    refine tn_aload_n dX4_addItem_189 rfl 1 rfl ?_
    refine tn_getR (ci := 4) (i := 3) (n := 26) (x := x5) dX4_addItem_190 rfl lay_4 (by decide) fl4_33 ha rfl rfl (rc_F F43 (Or.inl (by decide)) (by decide) (rc_F F26 (Or.inl (by decide)) (by decide) (hx6))) ?_
    refine tn_iload_n dX4_addItem_193 rfl 2 rfl ?_
    refine tn_iconst dX4_addItem_194 ?_
    refine tn_callV (M := m_X4_addItem) (pc := 195) (ix := 29) (ci := 1) (M' := m_X1_get) (As := [.int (iI p1), .int (iI 2)]) (rest := [.int (iI z57), .int (iI v14), .ref a]) dX4_addItem_195 ok_X1_get im_X1_get se_X1_get ml4_29 np_X1_get rfl rfl hk7o rfl (Nat.le_of_ble_eq_true rfl) (Nat.le_of_ble_eq_true rfl) rfl (k_X1_get (d + 1) (T := T) (σ := σ38) (a := x5) (k := p1) (c := 2) hk7o (by omega) (by decide) w42 (by omega)) (fun r59 T61 σ60 gt62 hp => ?_)
    obtain ⟨v64, rfl, rfl, rfl, f63⟩ := hp
    clear gt62
    show Tn _ _ 198 T σ38 [(4, .int (iI 1)), (0, .ref a), (1, .int (iI p1)), (2, .int (iI v14)), (3, .int (iI v20))] [.int (iI v64), .int (iI z57), .int (iI v14), .ref a] _
    refine tn_iload dX4_addItem_198 0 rfl ?_
    refine tn_if_eq (tgt := 210) dX4_addItem_200 (by decide) ⟨by decide, by decide⟩ (fun h => absurd h (by decide)) (fun _ => ?_)
    refine tn_aload_n dX4_addItem_203 rfl 1 rfl ?_
    refine tn_getI (ci := 4) (i := 6) (n := 29) (t := σ.2.1 29 a) dX4_addItem_204 rfl lay_4 (by decide) fl4_69 ha rfl rfl (rc_F F43 (Or.inl (by decide)) (by decide) (rc_F F26 (Or.inl (by decide)) (by decide) (rfl))) ?_
    have g66 : ((-2147483648 : Int) ≤ σ.2.1 29 a ∧ σ.2.1 29 a ≤ 2147483647) := wf_29 hw ha
    refine tn_goto (tgt := 211) dX4_addItem_207 (by decide) ?_
    refine tn_iadd dX4_addItem_211 ?_
    refine tn_any (fun z67 g68 => ?_)
    have g68r : -2147483648 ≤ z67 ∧ z67 ≤ 2147483647 := g68
    refine tn_callV (M := m_X4_addItem) (pc := 212) (ix := 148) (ci := 4) (M' := m_X4_addRow) (As := [.int (iI v14), .int (iI z57), .int (iI z67)]) (rest := []) dX4_addItem_212 ok_X4_addRow im_X4_addRow se_X4_addRow ml4_148 np_X4_addRow rfl rfl ha rfl (Nat.le_of_ble_eq_true rfl) (Nat.le_of_ble_eq_true rfl) rfl (k_X4_addRow (d) (T := T) (σ := σ38) (a := a) (p1 := v14) (p2 := z57) (p3 := z67) ha (by omega) (by omega) (by omega) w42 (by rw [show σ38.2.1 25 a = σ.2.1 25 a from rc_F F43 (Or.inl (by decide)) (by decide) (rc_F F26 (Or.inl (by decide)) (by decide) (rfl))]; omega)) (fun r69 T71 σ70 gt72 hp => ?_)
    obtain ⟨rfl, rfl, w74, F75⟩ := hp
    clear gt72
    show Tn _ _ 215 T σ70 [(4, .int (iI 1)), (0, .ref a), (1, .int (iI p1)), (2, .int (iI v14)), (3, .int (iI v20))] [] _
    exact tn_vret rfl dX4_addItem_215 ⟨rfl, rfl, w74, (((FrC.rfl.trans (FrC.sub F26 (by decide))).trans (FrC.sub F43 (by decide))).trans (FrC.sub F75 (by decide)))⟩
  · refine tn_iload_n dX4_addItem_159 rfl 2 rfl ?_
    refine tn_bipush dX4_addItem_160 (by decide) ?_
    refine tn_icmp_ne (tgt := 169) dX4_addItem_162 (by decide) ⟨by omega, by omega⟩ ⟨by decide, by decide⟩ (fun h76 => ?_) (fun h76 => ?_)
    · refine tn_iconst dX4_addItem_169 ?_
      refine tn_istore (L' := [(4, .int (iI 0)), (0, .ref a), (1, .int (iI p1)), (2, .int (iI v14)), (3, .int (iI v20))]) dX4_addItem_170 (by decide) rfl ?_
      refine tn_aload_n dX4_addItem_172 rfl 1 rfl ?_
      refine tn_iload_n dX4_addItem_173 rfl 3 rfl ?_
      refine tn_aload_n dX4_addItem_174 rfl 1 rfl ?_
      refine tn_getR (ci := 4) (i := 3) (n := 26) (x := x5) dX4_addItem_175 rfl lay_4 (by decide) fl4_33 ha rfl rfl (rc_F F43 (Or.inl (by decide)) (by decide) (rc_F F26 (Or.inl (by decide)) (by decide) (hx6))) ?_
      refine tn_iload_n dX4_addItem_178 rfl 2 rfl ?_
      refine tn_iconst dX4_addItem_179 ?_
      refine tn_callV (M := m_X4_addItem) (pc := 180) (ix := 29) (ci := 1) (M' := m_X1_get) (As := [.int (iI p1), .int (iI 1)]) (rest := [.int (iI v14), .ref a]) dX4_addItem_180 ok_X1_get im_X1_get se_X1_get ml4_29 np_X1_get rfl rfl hk7o rfl (Nat.le_of_ble_eq_true rfl) (Nat.le_of_ble_eq_true rfl) rfl (k_X1_get (d + 1) (T := T) (σ := σ38) (a := x5) (k := p1) (c := 1) hk7o (by omega) (by decide) w42 (by omega)) (fun r77 T79 σ78 gt80 hp => ?_)
      obtain ⟨v82, rfl, rfl, rfl, f81⟩ := hp
      clear gt80
      show Tn _ _ 183 T σ38 [(4, .int (iI 0)), (0, .ref a), (1, .int (iI p1)), (2, .int (iI v14)), (3, .int (iI v20))] [.int (iI v82), .int (iI v14), .ref a] _
      refine tn_aload_n dX4_addItem_183 rfl 1 rfl ?_
      refine tn_iload_n dX4_addItem_184 rfl 3 rfl ?_
      refine tn_callV (M := m_X4_addItem) (pc := 185) (ix := 160) (ci := 4) (M' := m_X4_shiftOf) (As := [.int (iI v14)]) (rest := [.int (iI v82), .int (iI v14), .ref a]) dX4_addItem_185 ok_X4_shiftOf im_X4_shiftOf se_X4_shiftOf ml4_160 np_X4_shiftOf rfl rfl ha rfl (Nat.le_of_ble_eq_true rfl) (Nat.le_of_ble_eq_true rfl) rfl (k_X4_shiftOf (d) (T := T) (σ := σ38) (a := a) (p1 := v14) ha (by omega) w42 ) (fun r83 T85 σ84 gt86 hp => ?_)
      obtain ⟨v88, rfl, rfl, rfl, f87⟩ := hp
      clear gt86
      show Tn _ _ 188 T σ38 [(4, .int (iI 0)), (0, .ref a), (1, .int (iI p1)), (2, .int (iI v14)), (3, .int (iI v20))] [.int (iI v88), .int (iI v82), .int (iI v14), .ref a] _
      refine tn_iadd dX4_addItem_188 ?_
      refine tn_any (fun z89 g90 => ?_)
      have g90r : -2147483648 ≤ z89 ∧ z89 ≤ 2147483647 := g90
      refine tn_aload_n dX4_addItem_189 rfl 1 rfl ?_
      refine tn_getR (ci := 4) (i := 3) (n := 26) (x := x5) dX4_addItem_190 rfl lay_4 (by decide) fl4_33 ha rfl rfl (rc_F F43 (Or.inl (by decide)) (by decide) (rc_F F26 (Or.inl (by decide)) (by decide) (hx6))) ?_
      refine tn_iload_n dX4_addItem_193 rfl 2 rfl ?_
      refine tn_iconst dX4_addItem_194 ?_
      refine tn_callV (M := m_X4_addItem) (pc := 195) (ix := 29) (ci := 1) (M' := m_X1_get) (As := [.int (iI p1), .int (iI 2)]) (rest := [.int (iI z89), .int (iI v14), .ref a]) dX4_addItem_195 ok_X1_get im_X1_get se_X1_get ml4_29 np_X1_get rfl rfl hk7o rfl (Nat.le_of_ble_eq_true rfl) (Nat.le_of_ble_eq_true rfl) rfl (k_X1_get (d + 1) (T := T) (σ := σ38) (a := x5) (k := p1) (c := 2) hk7o (by omega) (by decide) w42 (by omega)) (fun r91 T93 σ92 gt94 hp => ?_)
      obtain ⟨v96, rfl, rfl, rfl, f95⟩ := hp
      clear gt94
      show Tn _ _ 198 T σ38 [(4, .int (iI 0)), (0, .ref a), (1, .int (iI p1)), (2, .int (iI v14)), (3, .int (iI v20))] [.int (iI v96), .int (iI z89), .int (iI v14), .ref a] _
      refine tn_iload dX4_addItem_198 0 rfl ?_
      refine tn_if_eq (tgt := 210) dX4_addItem_200 (by decide) ⟨by decide, by decide⟩ (fun _ => ?_) (fun h => absurd h (by decide))
      refine tn_iconst dX4_addItem_210 ?_
      refine tn_iadd dX4_addItem_211 ?_
      refine tn_callV (M := m_X4_addItem) (pc := 212) (ix := 148) (ci := 4) (M' := m_X4_addRow) (As := [.int (iI v14), .int (iI z89), .int (iI (v96 + 0))]) (rest := []) dX4_addItem_212 ok_X4_addRow im_X4_addRow se_X4_addRow ml4_148 np_X4_addRow rfl rfl ha rfl (Nat.le_of_ble_eq_true rfl) (Nat.le_of_ble_eq_true rfl) rfl (k_X4_addRow (d) (T := T) (σ := σ38) (a := a) (p1 := v14) (p2 := z89) (p3 := v96 + 0) ha (by omega) (by omega) (by omega) w42 (by rw [show σ38.2.1 25 a = σ.2.1 25 a from rc_F F43 (Or.inl (by decide)) (by decide) (rc_F F26 (Or.inl (by decide)) (by decide) (rfl))]; omega)) (fun r98 T100 σ99 gt101 hp => ?_)
      obtain ⟨rfl, rfl, w103, F104⟩ := hp
      clear gt101
      show Tn _ _ 215 T σ99 [(4, .int (iI 0)), (0, .ref a), (1, .int (iI p1)), (2, .int (iI v14)), (3, .int (iI v20))] [] _
      exact tn_vret rfl dX4_addItem_215 ⟨rfl, rfl, w103, (((FrC.rfl.trans (FrC.sub F26 (by decide))).trans (FrC.sub F43 (by decide))).trans (FrC.sub F104 (by decide)))⟩
    · refine tn_iconst dX4_addItem_165 ?_
      refine tn_goto (tgt := 170) dX4_addItem_166 (by decide) ?_
      refine tn_istore (L' := [(4, .int (iI 1)), (0, .ref a), (1, .int (iI p1)), (2, .int (iI v14)), (3, .int (iI v20))]) dX4_addItem_170 (by decide) rfl ?_
      refine tn_aload_n dX4_addItem_172 rfl 1 rfl ?_
      refine tn_iload_n dX4_addItem_173 rfl 3 rfl ?_
      refine tn_aload_n dX4_addItem_174 rfl 1 rfl ?_
      refine tn_getR (ci := 4) (i := 3) (n := 26) (x := x5) dX4_addItem_175 rfl lay_4 (by decide) fl4_33 ha rfl rfl (rc_F F43 (Or.inl (by decide)) (by decide) (rc_F F26 (Or.inl (by decide)) (by decide) (hx6))) ?_
      refine tn_iload_n dX4_addItem_178 rfl 2 rfl ?_
      refine tn_iconst dX4_addItem_179 ?_
      refine tn_callV (M := m_X4_addItem) (pc := 180) (ix := 29) (ci := 1) (M' := m_X1_get) (As := [.int (iI p1), .int (iI 1)]) (rest := [.int (iI v14), .ref a]) dX4_addItem_180 ok_X1_get im_X1_get se_X1_get ml4_29 np_X1_get rfl rfl hk7o rfl (Nat.le_of_ble_eq_true rfl) (Nat.le_of_ble_eq_true rfl) rfl (k_X1_get (d + 1) (T := T) (σ := σ38) (a := x5) (k := p1) (c := 1) hk7o (by omega) (by decide) w42 (by omega)) (fun r105 T107 σ106 gt108 hp => ?_)
      obtain ⟨v110, rfl, rfl, rfl, f109⟩ := hp
      clear gt108
      show Tn _ _ 183 T σ38 [(4, .int (iI 1)), (0, .ref a), (1, .int (iI p1)), (2, .int (iI v14)), (3, .int (iI v20))] [.int (iI v110), .int (iI v14), .ref a] _
      refine tn_aload_n dX4_addItem_183 rfl 1 rfl ?_
      refine tn_iload_n dX4_addItem_184 rfl 3 rfl ?_
      refine tn_callV (M := m_X4_addItem) (pc := 185) (ix := 160) (ci := 4) (M' := m_X4_shiftOf) (As := [.int (iI v14)]) (rest := [.int (iI v110), .int (iI v14), .ref a]) dX4_addItem_185 ok_X4_shiftOf im_X4_shiftOf se_X4_shiftOf ml4_160 np_X4_shiftOf rfl rfl ha rfl (Nat.le_of_ble_eq_true rfl) (Nat.le_of_ble_eq_true rfl) rfl (k_X4_shiftOf (d) (T := T) (σ := σ38) (a := a) (p1 := v14) ha (by omega) w42 ) (fun r111 T113 σ112 gt114 hp => ?_)
      obtain ⟨v116, rfl, rfl, rfl, f115⟩ := hp
      clear gt114
      show Tn _ _ 188 T σ38 [(4, .int (iI 1)), (0, .ref a), (1, .int (iI p1)), (2, .int (iI v14)), (3, .int (iI v20))] [.int (iI v116), .int (iI v110), .int (iI v14), .ref a] _
      refine tn_iadd dX4_addItem_188 ?_
      refine tn_any (fun z117 g118 => ?_)
      have g118r : -2147483648 ≤ z117 ∧ z117 ≤ 2147483647 := g118
      refine tn_aload_n dX4_addItem_189 rfl 1 rfl ?_
      refine tn_getR (ci := 4) (i := 3) (n := 26) (x := x5) dX4_addItem_190 rfl lay_4 (by decide) fl4_33 ha rfl rfl (rc_F F43 (Or.inl (by decide)) (by decide) (rc_F F26 (Or.inl (by decide)) (by decide) (hx6))) ?_
      refine tn_iload_n dX4_addItem_193 rfl 2 rfl ?_
      refine tn_iconst dX4_addItem_194 ?_
      refine tn_callV (M := m_X4_addItem) (pc := 195) (ix := 29) (ci := 1) (M' := m_X1_get) (As := [.int (iI p1), .int (iI 2)]) (rest := [.int (iI z117), .int (iI v14), .ref a]) dX4_addItem_195 ok_X1_get im_X1_get se_X1_get ml4_29 np_X1_get rfl rfl hk7o rfl (Nat.le_of_ble_eq_true rfl) (Nat.le_of_ble_eq_true rfl) rfl (k_X1_get (d + 1) (T := T) (σ := σ38) (a := x5) (k := p1) (c := 2) hk7o (by omega) (by decide) w42 (by omega)) (fun r119 T121 σ120 gt122 hp => ?_)
      obtain ⟨v124, rfl, rfl, rfl, f123⟩ := hp
      clear gt122
      show Tn _ _ 198 T σ38 [(4, .int (iI 1)), (0, .ref a), (1, .int (iI p1)), (2, .int (iI v14)), (3, .int (iI v20))] [.int (iI v124), .int (iI z117), .int (iI v14), .ref a] _
      refine tn_iload dX4_addItem_198 0 rfl ?_
      refine tn_if_eq (tgt := 210) dX4_addItem_200 (by decide) ⟨by decide, by decide⟩ (fun h => absurd h (by decide)) (fun _ => ?_)
      refine tn_aload_n dX4_addItem_203 rfl 1 rfl ?_
      refine tn_getI (ci := 4) (i := 6) (n := 29) (t := σ.2.1 29 a) dX4_addItem_204 rfl lay_4 (by decide) fl4_69 ha rfl rfl (rc_F F43 (Or.inl (by decide)) (by decide) (rc_F F26 (Or.inl (by decide)) (by decide) (rfl))) ?_
      have g126 : ((-2147483648 : Int) ≤ σ.2.1 29 a ∧ σ.2.1 29 a ≤ 2147483647) := wf_29 hw ha
      refine tn_goto (tgt := 211) dX4_addItem_207 (by decide) ?_
      refine tn_iadd dX4_addItem_211 ?_
      refine tn_any (fun z127 g128 => ?_)
      have g128r : -2147483648 ≤ z127 ∧ z127 ≤ 2147483647 := g128
      refine tn_callV (M := m_X4_addItem) (pc := 212) (ix := 148) (ci := 4) (M' := m_X4_addRow) (As := [.int (iI v14), .int (iI z117), .int (iI z127)]) (rest := []) dX4_addItem_212 ok_X4_addRow im_X4_addRow se_X4_addRow ml4_148 np_X4_addRow rfl rfl ha rfl (Nat.le_of_ble_eq_true rfl) (Nat.le_of_ble_eq_true rfl) rfl (k_X4_addRow (d) (T := T) (σ := σ38) (a := a) (p1 := v14) (p2 := z117) (p3 := z127) ha (by omega) (by omega) (by omega) w42 (by rw [show σ38.2.1 25 a = σ.2.1 25 a from rc_F F43 (Or.inl (by decide)) (by decide) (rc_F F26 (Or.inl (by decide)) (by decide) (rfl))]; omega)) (fun r129 T131 σ130 gt132 hp => ?_)
      obtain ⟨rfl, rfl, w134, F135⟩ := hp
      clear gt132
      show Tn _ _ 215 T σ130 [(4, .int (iI 1)), (0, .ref a), (1, .int (iI p1)), (2, .int (iI v14)), (3, .int (iI v20))] [] _
      exact tn_vret rfl dX4_addItem_215 ⟨rfl, rfl, w134, (((FrC.rfl.trans (FrC.sub F26 (by decide))).trans (FrC.sub F43 (by decide))).trans (FrC.sub F135 (by decide)))⟩
