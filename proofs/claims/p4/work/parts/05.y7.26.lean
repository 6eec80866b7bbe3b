theorem cd_X6_latestTwin : Cond.code yX6_latestTwin cX6_latestTwin 6 (some .int) ∈ pWW := pw5 (List.mem_of_getElem? (i := 129) rfl) rfl
abbrev m_X6_latestTwin : MT := (yX6_latestTwin, cX6_latestTwin, 6, (some .int))
theorem ok_X6_latestTwin : pOk m_X6_latestTwin := ⟨⟨cd_X6_latestTwin, ini_6⟩, by decide +kernel, ⟨by decide +kernel, by decide +kernel⟩, Nat.le_of_ble_eq_true rfl⟩
theorem np_X6_latestTwin : (parseMethodDescriptor yX6_latestTwin.desc).map (fun d => d.parameters.length) = some 2 := by decide +kernel
theorem im_X6_latestTwin : Cond.instanceMethod yX6_latestTwin ∈ pWW := pw5 (List.mem_of_getElem? (i := 128) rfl) rfl
theorem se_X6_latestTwin : Cond.selects RX6 yX6_latestTwin yX6_latestTwin ∈ pWW := pws (List.mem_map.mpr ⟨_, lw_pin 63 rfl, rfl⟩) rfl
theorem ml6_138 : Cond.methodLink RX6 138 yX1_sameOperands ∈ pWW := pw5 (List.mem_of_getElem? (i := 130) rfl) rfl
theorem dX6_latestTwin_0 : decode cX6_latestTwin 0 = .ok (.aload_n 0, 1) := by decide +kernel
theorem dX6_latestTwin_1 : decode cX6_latestTwin 1 = .ok (.getfield 18, 3) := by decide +kernel
theorem dX6_latestTwin_4 : decode cX6_latestTwin 4 = .ok (.iconst 3, 1) := by decide +kernel
theorem dX6_latestTwin_5 : decode cX6_latestTwin 5 = .ok (.invokestatic 123, 3) := by decide +kernel
theorem dX6_latestTwin_8 : decode cX6_latestTwin 8 = .ok (.iload_n 2, 1) := by decide +kernel
theorem dX6_latestTwin_9 : decode cX6_latestTwin 9 = .ok (.iconst 1, 1) := by decide +kernel
theorem dX6_latestTwin_10 : decode cX6_latestTwin 10 = .ok (.isub, 1) := by decide +kernel
theorem dX6_latestTwin_11 : decode cX6_latestTwin 11 = .ok (.istore_n 3, 1) := by decide +kernel
theorem dX6_latestTwin_12 : decode cX6_latestTwin 12 = .ok (.iload_n 3, 1) := by decide +kernel
theorem dX6_latestTwin_13 : decode cX6_latestTwin 13 = .ok (.ifCond .lt 97, 3) := by decide +kernel
theorem dX6_latestTwin_16 : decode cX6_latestTwin 16 = .ok (.aload_n 1, 1) := by decide +kernel
theorem dX6_latestTwin_17 : decode cX6_latestTwin 17 = .ok (.iload_n 3, 1) := by decide +kernel
theorem dX6_latestTwin_18 : decode cX6_latestTwin 18 = .ok (.iconst 0, 1) := by decide +kernel
theorem dX6_latestTwin_19 : decode cX6_latestTwin 19 = .ok (.invokevirtual 34, 3) := by decide +kernel
theorem dX6_latestTwin_22 : decode cX6_latestTwin 22 = .ok (.bipush 13, 2) := by decide +kernel
theorem dX6_latestTwin_24 : decode cX6_latestTwin 24 = .ok (.if_icmp .eq 86, 3) := by decide +kernel
theorem dX6_latestTwin_27 : decode cX6_latestTwin 27 = .ok (.aload_n 1, 1) := by decide +kernel
theorem dX6_latestTwin_28 : decode cX6_latestTwin 28 = .ok (.iload_n 3, 1) := by decide +kernel
theorem dX6_latestTwin_29 : decode cX6_latestTwin 29 = .ok (.invokevirtual 84, 3) := by decide +kernel
theorem dX6_latestTwin_32 : decode cX6_latestTwin 32 = .ok (.istore 4, 2) := by decide +kernel
theorem dX6_latestTwin_34 : decode cX6_latestTwin 34 = .ok (.aload_n 0, 1) := by decide +kernel
theorem dX6_latestTwin_35 : decode cX6_latestTwin 35 = .ok (.getfield 18, 3) := by decide +kernel
theorem dX6_latestTwin_38 : decode cX6_latestTwin 38 = .ok (.iconst 0, 1) := by decide +kernel
theorem dX6_latestTwin_39 : decode cX6_latestTwin 39 = .ok (.iload 4, 2) := by decide +kernel
theorem dX6_latestTwin_41 : decode cX6_latestTwin 41 = .ok (.invokestatic 131, 3) := by decide +kernel
theorem dX6_latestTwin_44 : decode cX6_latestTwin 44 = .ok (.ifCond .ne 7, 3) := by decide +kernel
theorem dX6_latestTwin_51 : decode cX6_latestTwin 51 = .ok (.iconst 0, 1) := by decide +kernel
theorem dX6_latestTwin_52 : decode cX6_latestTwin 52 = .ok (.istore 5, 2) := by decide +kernel
theorem dX6_latestTwin_54 : decode cX6_latestTwin 54 = .ok (.aload_n 0, 1) := by decide +kernel
theorem dX6_latestTwin_55 : decode cX6_latestTwin 55 = .ok (.getfield 18, 3) := by decide +kernel
theorem dX6_latestTwin_58 : decode cX6_latestTwin 58 = .ok (.iconst 0, 1) := by decide +kernel
theorem dX6_latestTwin_59 : decode cX6_latestTwin 59 = .ok (.iload 4, 2) := by decide +kernel
theorem dX6_latestTwin_61 : decode cX6_latestTwin 61 = .ok (.invokestatic 127, 3) := by decide +kernel
theorem dX6_latestTwin_64 : decode cX6_latestTwin 64 = .ok (.iload 5, 2) := by decide +kernel
theorem dX6_latestTwin_66 : decode cX6_latestTwin 66 = .ok (.ifCond .eq 38, 3) := by decide +kernel
theorem dX6_latestTwin_104 : decode cX6_latestTwin 104 = .ok (.iinc 3 (-1), 3) := by decide +kernel
theorem dX6_latestTwin_107 : decode cX6_latestTwin 107 = .ok (.goto (-95), 3) := by decide +kernel
theorem dX6_latestTwin_47 : decode cX6_latestTwin 47 = .ok (.iconst 1, 1) := by decide +kernel
theorem dX6_latestTwin_48 : decode cX6_latestTwin 48 = .ok (.goto 4, 3) := by decide +kernel
theorem dX6_latestTwin_69 : decode cX6_latestTwin 69 = .ok (.aload_n 1, 1) := by decide +kernel
theorem dX6_latestTwin_70 : decode cX6_latestTwin 70 = .ok (.iload_n 3, 1) := by decide +kernel
theorem dX6_latestTwin_71 : decode cX6_latestTwin 71 = .ok (.iconst 0, 1) := by decide +kernel
theorem dX6_latestTwin_72 : decode cX6_latestTwin 72 = .ok (.invokevirtual 34, 3) := by decide +kernel
theorem dX6_latestTwin_75 : decode cX6_latestTwin 75 = .ok (.aload_n 1, 1) := by decide +kernel
theorem dX6_latestTwin_76 : decode cX6_latestTwin 76 = .ok (.iload_n 2, 1) := by decide +kernel
theorem dX6_latestTwin_77 : decode cX6_latestTwin 77 = .ok (.iconst 0, 1) := by decide +kernel
theorem dX6_latestTwin_78 : decode cX6_latestTwin 78 = .ok (.invokevirtual 34, 3) := by decide +kernel
theorem dX6_latestTwin_81 : decode cX6_latestTwin 81 = .ok (.if_icmp .ne 23, 3) := by decide +kernel
theorem dX6_latestTwin_84 : decode cX6_latestTwin 84 = .ok (.aload_n 1, 1) := by decide +kernel
theorem dX6_latestTwin_85 : decode cX6_latestTwin 85 = .ok (.iload_n 3, 1) := by decide +kernel
theorem dX6_latestTwin_86 : decode cX6_latestTwin 86 = .ok (.iload_n 2, 1) := by decide +kernel
theorem dX6_latestTwin_87 : decode cX6_latestTwin 87 = .ok (.invokevirtual 138, 3) := by decide +kernel
theorem dX6_latestTwin_90 : decode cX6_latestTwin 90 = .ok (.ifCond .eq 14, 3) := by decide +kernel
theorem dX6_latestTwin_93 : decode cX6_latestTwin 93 = .ok (.aload_n 0, 1) := by decide +kernel
theorem dX6_latestTwin_94 : decode cX6_latestTwin 94 = .ok (.aload_n 1, 1) := by decide +kernel
theorem dX6_latestTwin_95 : decode cX6_latestTwin 95 = .ok (.iload_n 3, 1) := by decide +kernel
theorem dX6_latestTwin_96 : decode cX6_latestTwin 96 = .ok (.invokevirtual 114, 3) := by decide +kernel
theorem dX6_latestTwin_99 : decode cX6_latestTwin 99 = .ok (.ifCond .eq 5, 3) := by decide +kernel
set_option maxRecDepth 20000 in
theorem l_X6_latestTwin_12 (d : Nat) {T : CT} {σ0 : MS} {a : Nat} {rx1 : Nat} {c2 : Int} {post : Option Value → CT → MS → Prop} (h_a : OB T a 6) (h_rx1 : OB T rx1 1) (t_rx1 : (T rx1).1 = 50) (r_c2 : -2147483648 ≤ c2 ∧ c2 ≤ 2147483647) (hw0 : WT T σ0) (hx_102 : ∀ (i3 : Int) (σ : MS) , (WT T σ) → (FrC T [] σ0 σ) → (-2147483648 ≤ i3 ∧ i3 ≤ 2147483647) → Tn (d + 4) m_X6_latestTwin 102 T σ [(0, .ref a), (1, .ref rx1), (2, .int (iI c2)), (3, .int (iI i3))] [] post) (hx_110 : ∀ (i3 : Int) (σ : MS) , (WT T σ) → (FrC T [] σ0 σ) → (-2147483648 ≤ i3 ∧ i3 ≤ 2147483647) → Tn (d + 4) m_X6_latestTwin 110 T σ [(0, .ref a), (1, .ref rx1), (2, .int (iI c2)), (3, .int (iI i3))] [] post) : ∀ (n : Nat) (i3 : Int) (σ : MS) , (WT T σ) → (FrC T [] σ0 σ) → (-2147483648 ≤ i3 ∧ i3 ≤ 2147483647) → (i3 + 20).toNat = n → Tn (d + 4) m_X6_latestTwin 12 T σ [(0, .ref a), (1, .ref rx1), (2, .int (iI c2)), (3, .int (iI i3))] [] post := by
  intro n
  induction n using Nat.strongRecOn with
  | _ n ih =>
    intro i3 σ hw hF r_i3 hm
    refine tn_iload_n dX6_latestTwin_12 rfl 3 rfl ?_
    refine tn_if_lt (tgt := 110) dX6_latestTwin_13 (by decide) ⟨by omega, by omega⟩ (fun h1 => ?_) (fun h1 => ?_)
    · exact tn_sub [0, 1, 2, 3] rfl (hx_110 (i3) σ hw (FrC.rfl.trans (FrC.sub hF (by decide))) (by omega))
    · refine tn_aload_n dX6_latestTwin_16 rfl 1 rfl ?_
      refine tn_iload_n dX6_latestTwin_17 rfl 3 rfl ?_
      refine tn_iconst dX6_latestTwin_18 ?_
      refine tn_callV (M := m_X6_latestTwin) (pc := 19) (ix := 34) (ci := 1) (M' := m_X1_get) (As := [.int (iI i3), .int (iI 0)]) (rest := []) dX6_latestTwin_19 ok_X1_get im_X1_get se_X1_get ml6_34 np_X1_get rfl rfl h_rx1 rfl (Nat.le_of_ble_eq_true rfl) (Nat.le_of_ble_eq_true rfl) rfl (k_X1_get (d + 2) (T := T) (σ := σ) (a := rx1) (k := i3) (c := 0) h_rx1 (by omega) (by decide) hw (by omega)) (fun r2 T4 σ3 gt5 hp => ?_)
      obtain ⟨v7, rfl, rfl, rfl, f6⟩ := hp
      clear gt5
      show Tn _ _ 22 T σ [(0, .ref a), (1, .ref rx1), (2, .int (iI c2)), (3, .int (iI i3))] [.int (iI v7)] _
      refine tn_bipush dX6_latestTwin_22 (by decide) ?_
      refine tn_icmp_eq (tgt := 110) dX6_latestTwin_24 (by decide) ⟨by omega, by omega⟩ ⟨by decide, by decide⟩ (fun h8 => ?_) (fun h8 => ?_)
      · exact tn_sub [0, 1, 2, 3] rfl (hx_110 (i3) σ hw (FrC.rfl.trans (FrC.sub hF (by decide))) (by omega))
      · refine tn_aload_n dX6_latestTwin_27 rfl 1 rfl ?_
        refine tn_iload_n dX6_latestTwin_28 rfl 3 rfl ?_
        refine tn_callV (M := m_X6_latestTwin) (pc := 29) (ix := 84) (ci := 1) (M' := m_X1_writtenBy) (As := [.int (iI i3)]) (rest := []) dX6_latestTwin_29 ok_X1_writtenBy im_X1_writtenBy se_X1_writtenBy ml6_84 np_X1_writtenBy rfl rfl h_rx1 rfl (Nat.le_of_ble_eq_true rfl) (Nat.le_of_ble_eq_true rfl) rfl (k_X1_writtenBy (d + 1) (T := T) (σ := σ) (a := rx1) (k := i3) h_rx1 (by omega) hw ) (fun r9 T11 σ10 gt12 hp => ?_)
        obtain ⟨v14, rfl, rfl, rfl, f13⟩ := hp
        clear gt12
        show Tn _ _ 32 T σ [(0, .ref a), (1, .ref rx1), (2, .int (iI c2)), (3, .int (iI i3))] [.int (iI v14)] _
        refine tn_istore (L' := [(4, .int (iI v14)), (0, .ref a), (1, .ref rx1), (2, .int (iI c2)), (3, .int (iI i3))]) dX6_latestTwin_32 (by decide) rfl ?_
        refine tn_aload_n dX6_latestTwin_34 rfl 1 rfl ?_
        obtain ⟨x15, hx16, hk17, hl18⟩ : ∃ x : Nat, σ0.2.1 54 a = (x : Int) ∧ AR T x 3 3 3 := wf_54 hw0 h_a
        refine tn_getR (ci := 6) (i := 2) (n := 54) (x := x15) dX6_latestTwin_35 rfl lay_6 (by decide) fl6_18 h_a rfl rfl (rc_F hF (Or.inl (by decide)) (by decide) (hx16)) ?_
        refine tn_iconst dX6_latestTwin_38 ?_
        refine tn_iload dX6_latestTwin_39 0 rfl ?_
        refine tn_callSN (M := m_X6_latestTwin) (pc := 41) (ix := 131) (M' := m_X11_has) (As := [.ref x15, .int (iI 0), .int (iI v14)]) (rest := []) dX6_latestTwin_41 ok_X11_has stt_X11_has nl6_131 np_X11_has rfl (Nat.le_of_ble_eq_true rfl) (Nat.le_of_ble_eq_true rfl) rfl (k_X11_has (d + 1) (T := T) (σ := σ) (x := x15) (k := 0) (r := v14) hk17 (by omega) (by decide) (by omega) hw ) (fun r19 T21 σ20 gt22 hp => ?_)
        obtain ⟨v24, rfl, rfl, rfl, f23⟩ := hp
        clear gt22
        show Tn _ _ 44 T σ [(4, .int (iI v14)), (0, .ref a), (1, .ref rx1), (2, .int (iI c2)), (3, .int (iI i3))] [.int (iI v24)] _
        refine tn_if_ne (tgt := 51) dX6_latestTwin_44 (by decide) ⟨by omega, by omega⟩ (fun h25 => ?_) (fun h25 => ?_)
        · refine tn_iconst dX6_latestTwin_51 ?_
          refine tn_istore (L' := [(5, .int (iI 0)), (4, .int (iI v14)), (0, .ref a), (1, .ref rx1), (2, .int (iI c2)), (3, .int (iI i3))]) dX6_latestTwin_52 (by decide) rfl ?_
          refine tn_aload_n dX6_latestTwin_54 rfl 2 rfl ?_
          refine tn_getR (ci := 6) (i := 2) (n := 54) (x := x15) dX6_latestTwin_55 rfl lay_6 (by decide) fl6_18 h_a rfl rfl (rc_F hF (Or.inl (by decide)) (by decide) (hx16)) ?_
          refine tn_iconst dX6_latestTwin_58 ?_
          refine tn_iload dX6_latestTwin_59 1 rfl ?_
          refine tn_callSN (M := m_X6_latestTwin) (pc := 61) (ix := 127) (M' := m_X11_include) (As := [.ref x15, .int (iI 0), .int (iI v14)]) (rest := []) dX6_latestTwin_61 ok_X11_include stt_X11_include nl6_127 np_X11_include rfl (Nat.le_of_ble_eq_true rfl) (Nat.le_of_ble_eq_true rfl) rfl (k_X11_include (d + 1) (T := T) (σ := σ) (x := x15) (k := 0) (r := v14) hk17 (by omega) (by decide) (by omega) hw ) (fun r26 T28 σ27 gt29 hp => ?_)
          obtain ⟨rfl, rfl, w31, F32⟩ := hp
          clear gt29
          show Tn _ _ 64 T σ27 [(5, .int (iI 0)), (4, .int (iI v14)), (0, .ref a), (1, .ref rx1), (2, .int (iI c2)), (3, .int (iI i3))] [] _
          refine tn_iload dX6_latestTwin_64 0 rfl ?_
          refine tn_if_eq (tgt := 104) dX6_latestTwin_66 (by decide) ⟨by decide, by decide⟩ (fun _ => ?_) (fun h => absurd h (by decide))
          refine tn_iinc (q0 := 5) (L' := [(3, .int (iI (i3 + (-1)))), (5, .int (iI 0)), (4, .int (iI v14)), (0, .ref a), (1, .ref rx1), (2, .int (iI c2))]) dX6_latestTwin_104 rfl (by decide) rfl ?_
          refine tn_goto (tgt := 12) dX6_latestTwin_107 (by decide) ?_
          exact tn_sub [3, 4, 5, 0] rfl (ih _ (by omega) (i3 + (-1)) σ27 w31 ((FrC.rfl.trans (FrC.sub hF (by decide))).trans (FrC.sub F32 (by decide))) (by omega) rfl)
        · refine tn_iconst dX6_latestTwin_47 ?_
          refine tn_goto (tgt := 52) dX6_latestTwin_48 (by decide) ?_
          refine tn_istore (L' := [(5, .int (iI 1)), (4, .int (iI v14)), (0, .ref a), (1, .ref rx1), (2, .int (iI c2)), (3, .int (iI i3))]) dX6_latestTwin_52 (by decide) rfl ?_
          refine tn_aload_n dX6_latestTwin_54 rfl 2 rfl ?_
          refine tn_getR (ci := 6) (i := 2) (n := 54) (x := x15) dX6_latestTwin_55 rfl lay_6 (by decide) fl6_18 h_a rfl rfl (rc_F hF (Or.inl (by decide)) (by decide) (hx16)) ?_
          refine tn_iconst dX6_latestTwin_58 ?_
          refine tn_iload dX6_latestTwin_59 1 rfl ?_
          refine tn_callSN (M := m_X6_latestTwin) (pc := 61) (ix := 127) (M' := m_X11_include) (As := [.ref x15, .int (iI 0), .int (iI v14)]) (rest := []) dX6_latestTwin_61 ok_X11_include stt_X11_include nl6_127 np_X11_include rfl (Nat.le_of_ble_eq_true rfl) (Nat.le_of_ble_eq_true rfl) rfl (k_X11_include (d + 1) (T := T) (σ := σ) (x := x15) (k := 0) (r := v14) hk17 (by omega) (by decide) (by omega) hw ) (fun r34 T36 σ35 gt37 hp => ?_)
          obtain ⟨rfl, rfl, w39, F40⟩ := hp
          clear gt37
          show Tn _ _ 64 T σ35 [(5, .int (iI 1)), (4, .int (iI v14)), (0, .ref a), (1, .ref rx1), (2, .int (iI c2)), (3, .int (iI i3))] [] _
          refine tn_iload dX6_latestTwin_64 0 rfl ?_
          refine tn_if_eq (tgt := 104) dX6_latestTwin_66 (by decide) ⟨by decide, by decide⟩ (fun h => absurd h (by decide)) (fun _ => ?_)
          refine tn_aload_n dX6_latestTwin_69 rfl 3 rfl ?_
          refine tn_iload_n dX6_latestTwin_70 rfl 5 rfl ?_
          refine tn_iconst dX6_latestTwin_71 ?_
          refine tn_callV (M := m_X6_latestTwin) (pc := 72) (ix := 34) (ci := 1) (M' := m_X1_get) (As := [.int (iI i3), .int (iI 0)]) (rest := []) dX6_latestTwin_72 ok_X1_get im_X1_get se_X1_get ml6_34 np_X1_get rfl rfl h_rx1 rfl (Nat.le_of_ble_eq_true rfl) (Nat.le_of_ble_eq_true rfl) rfl (k_X1_get (d + 2) (T := T) (σ := σ35) (a := rx1) (k := i3) (c := 0) h_rx1 (by omega) (by decide) w39 (by omega)) (fun r42 T44 σ43 gt45 hp => ?_)
          obtain ⟨v47, rfl, rfl, rfl, f46⟩ := hp
          clear gt45
          show Tn _ _ 75 T σ35 [(5, .int (iI 1)), (4, .int (iI v14)), (0, .ref a), (1, .ref rx1), (2, .int (iI c2)), (3, .int (iI i3))] [.int (iI v47)] _
          refine tn_aload_n dX6_latestTwin_75 rfl 3 rfl ?_
          refine tn_iload_n dX6_latestTwin_76 rfl 4 rfl ?_
          refine tn_iconst dX6_latestTwin_77 ?_
          refine tn_callV (M := m_X6_latestTwin) (pc := 78) (ix := 34) (ci := 1) (M' := m_X1_get) (As := [.int (iI c2), .int (iI 0)]) (rest := [.int (iI v47)]) dX6_latestTwin_78 ok_X1_get im_X1_get se_X1_get ml6_34 np_X1_get rfl rfl h_rx1 rfl (Nat.le_of_ble_eq_true rfl) (Nat.le_of_ble_eq_true rfl) rfl (k_X1_get (d + 2) (T := T) (σ := σ35) (a := rx1) (k := c2) (c := 0) h_rx1 (by omega) (by decide) w39 (by omega)) (fun r48 T50 σ49 gt51 hp => ?_)
          obtain ⟨v53, rfl, rfl, rfl, f52⟩ := hp
          clear gt51
          show Tn _ _ 81 T σ35 [(5, .int (iI 1)), (4, .int (iI v14)), (0, .ref a), (1, .ref rx1), (2, .int (iI c2)), (3, .int (iI i3))] [.int (iI v53), .int (iI v47)] _
          refine tn_icmp_ne (tgt := 104) dX6_latestTwin_81 (by decide) ⟨by omega, by omega⟩ ⟨by omega, by omega⟩ (fun h54 => ?_) (fun h54 => ?_)
          · refine tn_iinc (q0 := 5) (L' := [(3, .int (iI (i3 + (-1)))), (5, .int (iI 1)), (4, .int (iI v14)), (0, .ref a), (1, .ref rx1), (2, .int (iI c2))]) dX6_latestTwin_104 rfl (by decide) rfl ?_
            refine tn_goto (tgt := 12) dX6_latestTwin_107 (by decide) ?_
            exact tn_sub [3, 4, 5, 0] rfl (ih _ (by omega) (i3 + (-1)) σ35 w39 ((FrC.rfl.trans (FrC.sub hF (by decide))).trans (FrC.sub F40 (by decide))) (by omega) rfl)
          · refine tn_aload_n dX6_latestTwin_84 rfl 3 rfl ?_
            refine tn_iload_n dX6_latestTwin_85 rfl 5 rfl ?_
            refine tn_iload_n dX6_latestTwin_86 rfl 4 rfl ?_
            refine tn_callV (M := m_X6_latestTwin) (pc := 87) (ix := 138) (ci := 1) (M' := m_X1_sameOperands) (As := [.int (iI i3), .int (iI c2)]) (rest := []) dX6_latestTwin_87 ok_X1_sameOperands im_X1_sameOperands se_X1_sameOperands ml6_138 np_X1_sameOperands rfl rfl h_rx1 rfl (Nat.le_of_ble_eq_true rfl) (Nat.le_of_ble_eq_true rfl) rfl (k_X1_sameOperands (d + 1) (T := T) (σ := σ35) (a := rx1) (k := i3) (j := c2) h_rx1 (by omega) (by omega) w39 ) (fun r55 T57 σ56 gt58 hp => ?_)
            obtain ⟨v60, rfl, rfl, rfl, f59⟩ := hp
            clear gt58
            show Tn _ _ 90 T σ35 [(5, .int (iI 1)), (4, .int (iI v14)), (0, .ref a), (1, .ref rx1), (2, .int (iI c2)), (3, .int (iI i3))] [.int (iI v60)] _
            refine tn_if_eq (tgt := 104) dX6_latestTwin_90 (by decide) ⟨by omega, by omega⟩ (fun h61 => ?_) (fun h61 => ?_)
            · refine tn_iinc (q0 := 5) (L' := [(3, .int (iI (i3 + (-1)))), (5, .int (iI 1)), (4, .int (iI v14)), (0, .ref a), (1, .ref rx1), (2, .int (iI c2))]) dX6_latestTwin_104 rfl (by decide) rfl ?_
              refine tn_goto (tgt := 12) dX6_latestTwin_107 (by decide) ?_
              exact tn_sub [3, 4, 5, 0] rfl (ih _ (by omega) (i3 + (-1)) σ35 w39 ((FrC.rfl.trans (FrC.sub hF (by decide))).trans (FrC.sub F40 (by decide))) (by omega) rfl)
            · refine tn_aload_n dX6_latestTwin_93 rfl 2 rfl ?_
              refine tn_aload_n dX6_latestTwin_94 rfl 3 rfl ?_
              refine tn_iload_n dX6_latestTwin_95 rfl 5 rfl ?_
              refine tn_callV (M := m_X6_latestTwin) (pc := 96) (ix := 114) (ci := 6) (M' := m_X6_standsStill) (As := [.ref rx1, .int (iI i3)]) (rest := []) dX6_latestTwin_96 ok_X6_standsStill im_X6_standsStill se_X6_standsStill ml6_114 np_X6_standsStill rfl rfl h_a rfl (Nat.le_of_ble_eq_true rfl) (Nat.le_of_ble_eq_true rfl) rfl (k_X6_standsStill (d) (T := T) (σ := σ35) (a := a) (p1 := rx1) (p2 := i3) h_a h_rx1 t_rx1 (by omega) w39 ) (fun r62 T64 σ63 gt65 hp => ?_)
              obtain ⟨v67, rfl, rfl, rfl, f66⟩ := hp
              clear gt65
              show Tn _ _ 99 T σ35 [(5, .int (iI 1)), (4, .int (iI v14)), (0, .ref a), (1, .ref rx1), (2, .int (iI c2)), (3, .int (iI i3))] [.int (iI v67)] _
              refine tn_if_eq (tgt := 104) dX6_latestTwin_99 (by decide) ⟨by omega, by omega⟩ (fun h68 => ?_) (fun h68 => ?_)
              · refine tn_iinc (q0 := 5) (L' := [(3, .int (iI (i3 + (-1)))), (5, .int (iI 1)), (4, .int (iI v14)), (0, .ref a), (1, .ref rx1), (2, .int (iI c2))]) dX6_latestTwin_104 rfl (by decide) rfl ?_
                refine tn_goto (tgt := 12) dX6_latestTwin_107 (by decide) ?_
                exact tn_sub [3, 4, 5, 0] rfl (ih _ (by omega) (i3 + (-1)) σ35 w39 ((FrC.rfl.trans (FrC.sub hF (by decide))).trans (FrC.sub F40 (by decide))) (by omega) rfl)
              · exact tn_sub [2, 3, 4, 5] rfl (hx_102 (i3) σ35 w39 ((FrC.rfl.trans (FrC.sub hF (by decide))).trans (FrC.sub F40 (by decide))) (by omega))
theorem dX6_latestTwin_102 : decode cX6_latestTwin 102 = .ok (.iload_n 3, 1) := by decide +kernel
theorem dX6_latestTwin_103 : decode cX6_latestTwin 103 = .ok (.ireturn, 1) := by decide +kernel
theorem dX6_latestTwin_110 : decode cX6_latestTwin 110 = .ok (.iconst (-1), 1) := by decide +kernel
theorem dX6_latestTwin_111 : decode cX6_latestTwin 111 = .ok (.ireturn, 1) := by decide +kernel
set_option maxRecDepth 20000 in
theorem k_X6_latestTwin (d : Nat) {T : CT} {σ : MS} {a : Nat} {p1 : Nat} {p2 : Int} (ha : OB T a 6) (h_p1 : OB T p1 1) (t_p1 : (T p1).1 = 50) (h_p2 : -2147483648 ≤ p2 ∧ p2 ≤ 2147483647) (hw : WT T σ) : Tn (d + 4) m_X6_latestTwin 0 T σ [(0, .ref a), (1, .ref p1), (2, .int (iI p2))] [] (fun ro T2 σ2 => ∃ v : Int, ro = some (.int (iI v)) ∧ T = T2 ∧ WT T2 σ2 ∧ FrC T [] σ σ2 ∧ (-2147483648 ≤ v ∧ v ≤ 2147483647)) := by
  refine tn_aload_n dX6_latestTwin_0 rfl 0 rfl ?_
  obtain ⟨x1, hx2, hk3, hl4⟩ : ∃ x : Nat, σ.2.1 54 a = (x : Int) ∧ AR T x 3 3 3 := wf_54 hw ha
  refine tn_getR (ci := 6) (i := 2) (n := 54) (x := x1) dX6_latestTwin_1 rfl lay_6 (by decide) fl6_18 ha rfl rfl (hx2) ?_
  refine tn_iconst dX6_latestTwin_4 ?_
  refine tn_callSN (M := m_X6_latestTwin) (pc := 5) (ix := 123) (M' := m_X11_clear) (As := [.ref x1, .int (iI 3)]) (rest := []) dX6_latestTwin_5 ok_X11_clear stt_X11_clear nl6_123 np_X11_clear rfl (Nat.le_of_ble_eq_true rfl) (Nat.le_of_ble_eq_true rfl) rfl (k_X11_clear (d) (T := T) (σ := σ) (x := x1) (n := 3) hk3 (by omega) (by decide) hw ) (fun r5 T7 σ6 gt8 hp => ?_)
  obtain ⟨rfl, rfl, w10, F11⟩ := hp
  clear gt8
  show Tn _ _ 8 T σ6 [(0, .ref a), (1, .ref p1), (2, .int (iI p2))] [] _
  refine tn_iload_n dX6_latestTwin_8 rfl 2 rfl ?_
  refine tn_iconst dX6_latestTwin_9 ?_
  refine tn_isub dX6_latestTwin_10 ?_
  refine tn_any (fun z12 g13 => ?_)
  have g13r : -2147483648 ≤ z12 ∧ z12 ≤ 2147483647 := g13
  refine tn_istore_n (L' := [(3, .int (iI z12)), (0, .ref a), (1, .ref p1), (2, .int (iI p2))]) dX6_latestTwin_11 rfl (by decide) rfl ?_
  refine tn_sub [1, 2, 3, 0] rfl (l_X6_latestTwin_12 (d) (T := T) (σ0 := σ6) (a := a) (rx1 := p1) (c2 := p2) ha h_p1 t_p1 (by omega) w10 (fun i314 σ15 w18 F19 r20 => ?_) (fun i321 σ22 w25 F26 r27 => ?_) _ (z12) σ6 w10 FrC.rfl (by omega) rfl)
  · show Tn _ _ 102 T σ15 [(0, .ref a), (1, .ref p1), (2, .int (iI p2)), (3, .int (iI i314))] [] _
    refine tn_iload_n dX6_latestTwin_102 rfl 3 rfl ?_
    exact tn_iret rfl dX6_latestTwin_103 ⟨_, rfl, rfl, w18, ((FrC.rfl.trans (FrC.sub F11 (by decide))).trans (FrC.sub F19 (by decide))), by omega⟩
  · show Tn _ _ 110 T σ22 [(0, .ref a), (1, .ref p1), (2, .int (iI p2)), (3, .int (iI i321))] [] _
    refine tn_iconst dX6_latestTwin_110 ?_
    exact tn_iret rfl dX6_latestTwin_111 ⟨_, rfl, rfl, w25, ((FrC.rfl.trans (FrC.sub F11 (by decide))).trans (FrC.sub F26 (by decide))), by omega⟩
