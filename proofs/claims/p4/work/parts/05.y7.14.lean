theorem cd_X6_foldOperands : Cond.code yX6_foldOperands cX6_foldOperands 6 (some .boolean) ∈ pWW := pw4 (List.mem_of_getElem? (i := 200) rfl) rfl
abbrev m_X6_foldOperands : MT := (yX6_foldOperands, cX6_foldOperands, 6, (some .boolean))
theorem ok_X6_foldOperands : pOk m_X6_foldOperands := ⟨⟨cd_X6_foldOperands, ini_6⟩, by decide +kernel, ⟨by decide +kernel, by decide +kernel⟩, Nat.le_of_ble_eq_true rfl⟩
theorem np_X6_foldOperands : (parseMethodDescriptor yX6_foldOperands.desc).map (fun d => d.parameters.length) = some 2 := by decide +kernel
theorem im_X6_foldOperands : Cond.instanceMethod yX6_foldOperands ∈ pWW := pw4 (List.mem_of_getElem? (i := 199) rfl) rfl
theorem se_X6_foldOperands : Cond.selects RX6 yX6_foldOperands yX6_foldOperands ∈ pWW := pws (List.mem_map.mpr ⟨_, lw_pin 46 rfl, rfl⟩) rfl
theorem ml6_71 : Cond.methodLink RX6 71 yX1_set ∈ pWW := pw4 (List.mem_of_getElem? (i := 201) rfl) rfl
theorem dX6_foldOperands_0 : decode cX6_foldOperands 0 = .ok (.iconst 0, 1) := by decide +kernel
theorem dX6_foldOperands_1 : decode cX6_foldOperands 1 = .ok (.istore_n 3, 1) := by decide +kernel
theorem dX6_foldOperands_2 : decode cX6_foldOperands 2 = .ok (.iconst 3, 1) := by decide +kernel
theorem dX6_foldOperands_3 : decode cX6_foldOperands 3 = .ok (.istore 4, 2) := by decide +kernel
theorem dX6_foldOperands_5 : decode cX6_foldOperands 5 = .ok (.iload 4, 2) := by decide +kernel
theorem dX6_foldOperands_7 : decode cX6_foldOperands 7 = .ok (.bipush 11, 2) := by decide +kernel
theorem dX6_foldOperands_9 : decode cX6_foldOperands 9 = .ok (.if_icmp .ge 79, 3) := by decide +kernel
theorem dX6_foldOperands_12 : decode cX6_foldOperands 12 = .ok (.aload_n 1, 1) := by decide +kernel
theorem dX6_foldOperands_13 : decode cX6_foldOperands 13 = .ok (.iload_n 2, 1) := by decide +kernel
theorem dX6_foldOperands_14 : decode cX6_foldOperands 14 = .ok (.iload 4, 2) := by decide +kernel
theorem dX6_foldOperands_16 : decode cX6_foldOperands 16 = .ok (.iconst 1, 1) := by decide +kernel
theorem dX6_foldOperands_17 : decode cX6_foldOperands 17 = .ok (.iadd, 1) := by decide +kernel
theorem dX6_foldOperands_18 : decode cX6_foldOperands 18 = .ok (.invokevirtual 34, 3) := by decide +kernel
theorem dX6_foldOperands_21 : decode cX6_foldOperands 21 = .ok (.istore 5, 2) := by decide +kernel
theorem dX6_foldOperands_23 : decode cX6_foldOperands 23 = .ok (.aload_n 1, 1) := by decide +kernel
theorem dX6_foldOperands_24 : decode cX6_foldOperands 24 = .ok (.iload_n 2, 1) := by decide +kernel
theorem dX6_foldOperands_25 : decode cX6_foldOperands 25 = .ok (.iload 4, 2) := by decide +kernel
theorem dX6_foldOperands_27 : decode cX6_foldOperands 27 = .ok (.invokevirtual 34, 3) := by decide +kernel
theorem dX6_foldOperands_30 : decode cX6_foldOperands 30 = .ok (.iconst 2, 1) := by decide +kernel
theorem dX6_foldOperands_31 : decode cX6_foldOperands 31 = .ok (.if_icmp .ne 51, 3) := by decide +kernel
theorem dX6_foldOperands_82 : decode cX6_foldOperands 82 = .ok (.iinc 4 2, 3) := by decide +kernel
theorem dX6_foldOperands_85 : decode cX6_foldOperands 85 = .ok (.goto (-80), 3) := by decide +kernel
theorem dX6_foldOperands_34 : decode cX6_foldOperands 34 = .ok (.aload_n 0, 1) := by decide +kernel
theorem dX6_foldOperands_35 : decode cX6_foldOperands 35 = .ok (.getfield 9, 3) := by decide +kernel
theorem dX6_foldOperands_38 : decode cX6_foldOperands 38 = .ok (.iload 5, 2) := by decide +kernel
theorem dX6_foldOperands_40 : decode cX6_foldOperands 40 = .ok (.invokestatic 63, 3) := by decide +kernel
theorem dX6_foldOperands_43 : decode cX6_foldOperands 43 = .ok (.ifCond .eq 39, 3) := by decide +kernel
theorem dX6_foldOperands_46 : decode cX6_foldOperands 46 = .ok (.aload_n 1, 1) := by decide +kernel
theorem dX6_foldOperands_47 : decode cX6_foldOperands 47 = .ok (.iload_n 2, 1) := by decide +kernel
theorem dX6_foldOperands_48 : decode cX6_foldOperands 48 = .ok (.iload 4, 2) := by decide +kernel
theorem dX6_foldOperands_50 : decode cX6_foldOperands 50 = .ok (.aload_n 0, 1) := by decide +kernel
theorem dX6_foldOperands_51 : decode cX6_foldOperands 51 = .ok (.getfield 9, 3) := by decide +kernel
theorem dX6_foldOperands_54 : decode cX6_foldOperands 54 = .ok (.iload 5, 2) := by decide +kernel
theorem dX6_foldOperands_56 : decode cX6_foldOperands 56 = .ok (.invokestatic 63, 3) := by decide +kernel
theorem dX6_foldOperands_59 : decode cX6_foldOperands 59 = .ok (.invokevirtual 71, 3) := by decide +kernel
theorem dX6_foldOperands_62 : decode cX6_foldOperands 62 = .ok (.aload_n 1, 1) := by decide +kernel
theorem dX6_foldOperands_63 : decode cX6_foldOperands 63 = .ok (.iload_n 2, 1) := by decide +kernel
theorem dX6_foldOperands_64 : decode cX6_foldOperands 64 = .ok (.iload 4, 2) := by decide +kernel
theorem dX6_foldOperands_66 : decode cX6_foldOperands 66 = .ok (.iconst 1, 1) := by decide +kernel
theorem dX6_foldOperands_67 : decode cX6_foldOperands 67 = .ok (.iadd, 1) := by decide +kernel
theorem dX6_foldOperands_68 : decode cX6_foldOperands 68 = .ok (.aload_n 0, 1) := by decide +kernel
theorem dX6_foldOperands_69 : decode cX6_foldOperands 69 = .ok (.getfield 15, 3) := by decide +kernel
theorem dX6_foldOperands_72 : decode cX6_foldOperands 72 = .ok (.iload 5, 2) := by decide +kernel
theorem dX6_foldOperands_74 : decode cX6_foldOperands 74 = .ok (.invokestatic 63, 3) := by decide +kernel
theorem dX6_foldOperands_77 : decode cX6_foldOperands 77 = .ok (.invokevirtual 71, 3) := by decide +kernel
theorem dX6_foldOperands_80 : decode cX6_foldOperands 80 = .ok (.iconst 1, 1) := by decide +kernel
theorem dX6_foldOperands_81 : decode cX6_foldOperands 81 = .ok (.istore_n 3, 1) := by decide +kernel
set_option maxRecDepth 20000 in
theorem l_X6_foldOperands_5 (d : Nat) {T : CT} {σ0 : MS} {a : Nat} {rx1 : Nat} {c2 : Int} {post : Option Value → CT → MS → Prop} (h_a : OB T a 6) (h_rx1 : OB T rx1 1) (t_rx1 : (T rx1).1 = 50) (r_c2 : -2147483648 ≤ c2 ∧ c2 ≤ 2147483647) (hw0 : WT T σ0) (hx_88 : ∀ (i3 : Int) (i4 : Int) (σ : MS) , (WT T σ) → (FrC T [] σ0 σ) → (0 ≤ i3 ∧ i3 ≤ 1) → (3 ≤ i4 ∧ i4 ≤ 2147483647) → Tn (d + 2) m_X6_foldOperands 88 T σ [(0, .ref a), (1, .ref rx1), (2, .int (iI c2)), (3, .int (iI i3)), (4, .int (iI i4))] [] post) : ∀ (n : Nat) (i3 : Int) (i4 : Int) (σ : MS) , (WT T σ) → (FrC T [] σ0 σ) → (0 ≤ i3 ∧ i3 ≤ 1) → (3 ≤ i4 ∧ i4 ≤ 2147483647) → (2147483700 - i4).toNat = n → Tn (d + 2) m_X6_foldOperands 5 T σ [(0, .ref a), (1, .ref rx1), (2, .int (iI c2)), (3, .int (iI i3)), (4, .int (iI i4))] [] post := by
  intro n
  induction n using Nat.strongRecOn with
  | _ n ih =>
    intro i3 i4 σ hw hF r_i3 r_i4 hm
    refine tn_iload dX6_foldOperands_5 4 rfl ?_
    refine tn_bipush dX6_foldOperands_7 (by decide) ?_
    refine tn_icmp_ge (tgt := 88) dX6_foldOperands_9 (by decide) ⟨by omega, by omega⟩ ⟨by decide, by decide⟩ (fun h1 => ?_) (fun h1 => ?_)
    · exact tn_sub [0, 1, 2, 3, 4] rfl (hx_88 (i3) (i4) σ hw (FrC.rfl.trans (FrC.sub hF (by decide))) (by omega) (by omega))
    · refine tn_aload_n dX6_foldOperands_12 rfl 1 rfl ?_
      refine tn_iload_n dX6_foldOperands_13 rfl 2 rfl ?_
      refine tn_iload dX6_foldOperands_14 4 rfl ?_
      refine tn_iconst dX6_foldOperands_16 ?_
      refine tn_iadd dX6_foldOperands_17 ?_
      refine tn_callV (M := m_X6_foldOperands) (pc := 18) (ix := 34) (ci := 1) (M' := m_X1_get) (As := [.int (iI c2), .int (iI (i4 + 1))]) (rest := []) dX6_foldOperands_18 ok_X1_get im_X1_get se_X1_get ml6_34 np_X1_get rfl rfl h_rx1 rfl (Nat.le_of_ble_eq_true rfl) (Nat.le_of_ble_eq_true rfl) rfl (k_X1_get (d) (T := T) (σ := σ) (a := rx1) (k := c2) (c := i4 + 1) h_rx1 (by omega) (by omega) hw (by omega)) (fun r2 T4 σ3 gt5 hp => ?_)
      obtain ⟨v7, rfl, rfl, rfl, f6⟩ := hp
      clear gt5
      show Tn _ _ 21 T σ [(0, .ref a), (1, .ref rx1), (2, .int (iI c2)), (3, .int (iI i3)), (4, .int (iI i4))] [.int (iI v7)] _
      refine tn_istore (L' := [(5, .int (iI v7)), (0, .ref a), (1, .ref rx1), (2, .int (iI c2)), (3, .int (iI i3)), (4, .int (iI i4))]) dX6_foldOperands_21 (by decide) rfl ?_
      refine tn_aload_n dX6_foldOperands_23 rfl 2 rfl ?_
      refine tn_iload_n dX6_foldOperands_24 rfl 3 rfl ?_
      refine tn_iload dX6_foldOperands_25 5 rfl ?_
      refine tn_callV (M := m_X6_foldOperands) (pc := 27) (ix := 34) (ci := 1) (M' := m_X1_get) (As := [.int (iI c2), .int (iI i4)]) (rest := []) dX6_foldOperands_27 ok_X1_get im_X1_get se_X1_get ml6_34 np_X1_get rfl rfl h_rx1 rfl (Nat.le_of_ble_eq_true rfl) (Nat.le_of_ble_eq_true rfl) rfl (k_X1_get (d) (T := T) (σ := σ) (a := rx1) (k := c2) (c := i4) h_rx1 (by omega) (by omega) hw (by omega)) (fun r8 T10 σ9 gt11 hp => ?_)
      obtain ⟨v13, rfl, rfl, rfl, f12⟩ := hp
      clear gt11
      show Tn _ _ 30 T σ [(5, .int (iI v7)), (0, .ref a), (1, .ref rx1), (2, .int (iI c2)), (3, .int (iI i3)), (4, .int (iI i4))] [.int (iI v13)] _
      refine tn_iconst dX6_foldOperands_30 ?_
      refine tn_icmp_ne (tgt := 82) dX6_foldOperands_31 (by decide) ⟨by omega, by omega⟩ ⟨by decide, by decide⟩ (fun h14 => ?_) (fun h14 => ?_)
      · refine tn_iinc (q0 := 5) (L' := [(4, .int (iI (i4 + 2))), (5, .int (iI v7)), (0, .ref a), (1, .ref rx1), (2, .int (iI c2)), (3, .int (iI i3))]) dX6_foldOperands_82 rfl (by decide) rfl ?_
        refine tn_goto (tgt := 5) dX6_foldOperands_85 (by decide) ?_
        exact tn_sub [2, 3, 4, 5, 0] rfl (ih _ (by omega) (i3) (i4 + 2) σ hw (FrC.rfl.trans (FrC.sub hF (by decide))) (by omega) (by omega) rfl)
      · refine tn_aload_n dX6_foldOperands_34 rfl 1 rfl ?_
        obtain ⟨x15, hx16, hk17, hl18⟩ : ∃ x : Nat, σ0.2.1 52 a = (x : Int) ∧ AR T x 1 192 192 := wf_52 hw0 h_a
        have hk17i : IA T x15 := by unfold IA; omega
        refine tn_getR (ci := 6) (i := 0) (n := 52) (x := x15) dX6_foldOperands_35 rfl lay_6 (by decide) fl6_9 h_a rfl rfl (rc_F hF (Or.inl (by decide)) (by decide) (hx16)) ?_
        refine tn_iload dX6_foldOperands_38 0 rfl ?_
        refine tn_callSN (M := m_X6_foldOperands) (pc := 40) (ix := 63) (M' := m_X11_at) (As := [.ref x15, .int (iI v7)]) (rest := []) dX6_foldOperands_40 ok_X11_at stt_X11_at nl6_63 np_X11_at rfl (Nat.le_of_ble_eq_true rfl) (Nat.le_of_ble_eq_true rfl) rfl (k_X11_at (d) (T := T) (σ := σ) (x := x15) (i := v7) hk17i (by omega) (by omega) hw ) (fun r19 T21 σ20 gt22 hp => ?_)
        obtain ⟨v26, rfl, rfl, rfl, f23, f24, f25⟩ := hp
        clear gt22
        clear f24 f25
        show Tn _ _ 43 T σ [(5, .int (iI v7)), (0, .ref a), (1, .ref rx1), (2, .int (iI c2)), (3, .int (iI i3)), (4, .int (iI i4))] [.int (iI v26)] _
        refine tn_if_eq (tgt := 82) dX6_foldOperands_43 (by decide) ⟨by omega, by omega⟩ (fun h27 => ?_) (fun h27 => ?_)
        · refine tn_iinc (q0 := 5) (L' := [(4, .int (iI (i4 + 2))), (5, .int (iI v7)), (0, .ref a), (1, .ref rx1), (2, .int (iI c2)), (3, .int (iI i3))]) dX6_foldOperands_82 rfl (by decide) rfl ?_
          refine tn_goto (tgt := 5) dX6_foldOperands_85 (by decide) ?_
          exact tn_sub [2, 3, 4, 5, 0] rfl (ih _ (by omega) (i3) (i4 + 2) σ hw (FrC.rfl.trans (FrC.sub hF (by decide))) (by omega) (by omega) rfl)
        · refine tn_aload_n dX6_foldOperands_46 rfl 2 rfl ?_
          refine tn_iload_n dX6_foldOperands_47 rfl 3 rfl ?_
          refine tn_iload dX6_foldOperands_48 5 rfl ?_
          refine tn_aload_n dX6_foldOperands_50 rfl 1 rfl ?_
          refine tn_getR (ci := 6) (i := 0) (n := 52) (x := x15) dX6_foldOperands_51 rfl lay_6 (by decide) fl6_9 h_a rfl rfl (rc_F hF (Or.inl (by decide)) (by decide) (hx16)) ?_
          refine tn_iload dX6_foldOperands_54 0 rfl ?_
          refine tn_callSN (M := m_X6_foldOperands) (pc := 56) (ix := 63) (M' := m_X11_at) (As := [.ref x15, .int (iI v7)]) (rest := [.int (iI i4), .int (iI c2), .ref rx1]) dX6_foldOperands_56 ok_X11_at stt_X11_at nl6_63 np_X11_at rfl (Nat.le_of_ble_eq_true rfl) (Nat.le_of_ble_eq_true rfl) rfl (k_X11_at (d) (T := T) (σ := σ) (x := x15) (i := v7) hk17i (by omega) (by omega) hw ) (fun r28 T30 σ29 gt31 hp => ?_)
          obtain ⟨v35, rfl, rfl, rfl, f32, f33, f34⟩ := hp
          clear gt31
          clear f33 f34
          show Tn _ _ 59 T σ [(5, .int (iI v7)), (0, .ref a), (1, .ref rx1), (2, .int (iI c2)), (3, .int (iI i3)), (4, .int (iI i4))] [.int (iI v35), .int (iI i4), .int (iI c2), .ref rx1] _
          refine tn_callV (M := m_X6_foldOperands) (pc := 59) (ix := 71) (ci := 1) (M' := m_X1_set) (As := [.int (iI c2), .int (iI i4), .int (iI v35)]) (rest := []) dX6_foldOperands_59 ok_X1_set im_X1_set se_X1_set ml6_71 np_X1_set rfl rfl h_rx1 rfl (Nat.le_of_ble_eq_true rfl) (Nat.le_of_ble_eq_true rfl) rfl (k_X1_set (d) (T := T) (σ := σ) (a := rx1) (k := c2) (c := i4) (y := v35) h_rx1 (by omega) (by omega) (by omega) hw (by omega) (by omega)) (fun r36 T38 σ37 gt39 hp => ?_)
          obtain ⟨rfl, rfl, w41, F42⟩ := hp
          clear gt39
          show Tn _ _ 62 T σ37 [(5, .int (iI v7)), (0, .ref a), (1, .ref rx1), (2, .int (iI c2)), (3, .int (iI i3)), (4, .int (iI i4))] [] _
          refine tn_aload_n dX6_foldOperands_62 rfl 2 rfl ?_
          refine tn_iload_n dX6_foldOperands_63 rfl 3 rfl ?_
          refine tn_iload dX6_foldOperands_64 5 rfl ?_
          refine tn_iconst dX6_foldOperands_66 ?_
          refine tn_iadd dX6_foldOperands_67 ?_
          refine tn_aload_n dX6_foldOperands_68 rfl 1 rfl ?_
          obtain ⟨x43, hx44, hk45, hl46⟩ : ∃ x : Nat, σ0.2.1 53 a = (x : Int) ∧ AR T x 1 192 192 := wf_53 hw0 h_a
          have hk45i : IA T x43 := by unfold IA; omega
          refine tn_getR (ci := 6) (i := 1) (n := 53) (x := x43) dX6_foldOperands_69 rfl lay_6 (by decide) fl6_15 h_a rfl rfl (rc_F F42 (Or.inl (by decide)) (by decide) (rc_F hF (Or.inl (by decide)) (by decide) (hx44))) ?_
          refine tn_iload dX6_foldOperands_72 0 rfl ?_
          refine tn_callSN (M := m_X6_foldOperands) (pc := 74) (ix := 63) (M' := m_X11_at) (As := [.ref x43, .int (iI v7)]) (rest := [.int (iI (i4 + 1)), .int (iI c2), .ref rx1]) dX6_foldOperands_74 ok_X11_at stt_X11_at nl6_63 np_X11_at rfl (Nat.le_of_ble_eq_true rfl) (Nat.le_of_ble_eq_true rfl) rfl (k_X11_at (d) (T := T) (σ := σ37) (x := x43) (i := v7) hk45i (by omega) (by omega) w41 ) (fun r47 T49 σ48 gt50 hp => ?_)
          obtain ⟨v54, rfl, rfl, rfl, f51, f52, f53⟩ := hp
          clear gt50
          clear f52 f53
          show Tn _ _ 77 T σ37 [(5, .int (iI v7)), (0, .ref a), (1, .ref rx1), (2, .int (iI c2)), (3, .int (iI i3)), (4, .int (iI i4))] [.int (iI v54), .int (iI (i4 + 1)), .int (iI c2), .ref rx1] _
          refine tn_callV (M := m_X6_foldOperands) (pc := 77) (ix := 71) (ci := 1) (M' := m_X1_set) (As := [.int (iI c2), .int (iI (i4 + 1)), .int (iI v54)]) (rest := []) dX6_foldOperands_77 ok_X1_set im_X1_set se_X1_set ml6_71 np_X1_set rfl rfl h_rx1 rfl (Nat.le_of_ble_eq_true rfl) (Nat.le_of_ble_eq_true rfl) rfl (k_X1_set (d) (T := T) (σ := σ37) (a := rx1) (k := c2) (c := i4 + 1) (y := v54) h_rx1 (by omega) (by omega) (by omega) w41 (by omega) (by omega)) (fun r55 T57 σ56 gt58 hp => ?_)
          obtain ⟨rfl, rfl, w60, F61⟩ := hp
          clear gt58
          show Tn _ _ 80 T σ56 [(5, .int (iI v7)), (0, .ref a), (1, .ref rx1), (2, .int (iI c2)), (3, .int (iI i3)), (4, .int (iI i4))] [] _
          refine tn_iconst dX6_foldOperands_80 ?_
          refine tn_istore_n (L' := [(3, .int (iI 1)), (5, .int (iI v7)), (0, .ref a), (1, .ref rx1), (2, .int (iI c2)), (4, .int (iI i4))]) dX6_foldOperands_81 rfl (by decide) rfl ?_
          refine tn_iinc (q0 := 5) (L' := [(4, .int (iI (i4 + 2))), (3, .int (iI 1)), (5, .int (iI v7)), (0, .ref a), (1, .ref rx1), (2, .int (iI c2))]) dX6_foldOperands_82 rfl (by decide) rfl ?_
          refine tn_goto (tgt := 5) dX6_foldOperands_85 (by decide) ?_
          exact tn_sub [3, 4, 5, 1, 0] rfl (ih _ (by omega) (1) (i4 + 2) σ56 w60 (((FrC.rfl.trans (FrC.sub hF (by decide))).trans (FrC.sub F42 (by decide))).trans (FrC.sub F61 (by decide))) (by decide) (by omega) rfl)
theorem dX6_foldOperands_88 : decode cX6_foldOperands 88 = .ok (.iload_n 3, 1) := by decide +kernel
theorem dX6_foldOperands_89 : decode cX6_foldOperands 89 = .ok (.ireturn, 1) := by decide +kernel
set_option maxRecDepth 20000 in
theorem k_X6_foldOperands (d : Nat) {T : CT} {σ : MS} {a : Nat} {p1 : Nat} {p2 : Int} (ha : OB T a 6) (h_p1 : OB T p1 1) (t_p1 : (T p1).1 = 50) (h_p2 : -2147483648 ≤ p2 ∧ p2 ≤ 2147483647) (hw : WT T σ) : Tn (d + 2) m_X6_foldOperands 0 T σ [(0, .ref a), (1, .ref p1), (2, .int (iI p2))] [] (fun ro T2 σ2 => ∃ v : Int, ro = some (.int (iI v)) ∧ T = T2 ∧ WT T2 σ2 ∧ FrC T [] σ σ2 ∧ (v = 0 ∨ v = 1)) := by
  refine tn_iconst dX6_foldOperands_0 ?_
  refine tn_istore_n (L' := [(3, .int (iI 0)), (0, .ref a), (1, .ref p1), (2, .int (iI p2))]) dX6_foldOperands_1 rfl (by decide) rfl ?_
  refine tn_iconst dX6_foldOperands_2 ?_
  refine tn_istore (L' := [(4, .int (iI 3)), (3, .int (iI 0)), (0, .ref a), (1, .ref p1), (2, .int (iI p2))]) dX6_foldOperands_3 (by decide) rfl ?_
  refine tn_sub [2, 3, 4, 1, 0] rfl (l_X6_foldOperands_5 (d) (T := T) (σ0 := σ) (a := a) (rx1 := p1) (c2 := p2) ha h_p1 t_p1 (by omega) hw (fun i31 i42 σ3 w6 F7 r8 r9 => ?_) _ (0) (3) σ hw FrC.rfl (by omega) (by omega) rfl)
  show Tn _ _ 88 T σ3 [(0, .ref a), (1, .ref p1), (2, .int (iI p2)), (3, .int (iI i31)), (4, .int (iI i42))] [] _
  refine tn_iload_n dX6_foldOperands_88 rfl 3 rfl ?_
  exact tn_zret (v := i31) rfl (by omega) dX6_foldOperands_89 ⟨_, rfl, rfl, w6, (FrC.rfl.trans (FrC.sub F7 (by decide))), by omega⟩
