theorem cd_X8_share : Cond.code yX8_share cX8_share 4 (some .int) ∈ pWW := pw5 (List.mem_of_getElem? (i := 202) rfl) rfl
abbrev m_X8_share : MT := (yX8_share, cX8_share, 4, (some .int))
theorem ok_X8_share : pOk m_X8_share := ⟨⟨cd_X8_share, ini_8⟩, by decide +kernel, ⟨by decide +kernel, by decide +kernel⟩, Nat.le_of_ble_eq_true rfl⟩
theorem np_X8_share : (parseMethodDescriptor yX8_share.desc).map (fun d => d.parameters.length) = some 1 := by decide +kernel
theorem im_X8_share : Cond.instanceMethod yX8_share ∈ pWW := pw5 (List.mem_of_getElem? (i := 200) rfl) rfl
theorem se_X8_share : Cond.selects RX8 yX8_share yX8_share ∈ pWW := pw5 (List.mem_of_getElem? (i := 201) rfl) rfl
theorem ml8_38 : Cond.methodLink RX8 38 yX3_findLiving ∈ pWW := pw5 (List.mem_of_getElem? (i := 203) rfl) rfl
theorem ml8_44 : Cond.methodLink RX8 44 yX1_registers ∈ pWW := pw5 (List.mem_of_getElem? (i := 204) rfl) rfl
theorem mlm8_50 : Cond.methodLink RX8 50 Lib.Math.min.name ∈ pWW := pw5 (List.mem_of_getElem? (i := 205) rfl) rfl
theorem ml8_56 : Cond.methodLink RX8 56 yX8_findFirst ∈ pWW := pw5 (List.mem_of_getElem? (i := 206) rfl) rfl
theorem ml8_59 : Cond.methodLink RX8 59 yX8_findOdds ∈ pWW := pw5 (List.mem_of_getElem? (i := 213) rfl) rfl
theorem ml8_63 : Cond.methodLink RX8 63 yX8_numberAnew ∈ pWW := pw5 (List.mem_of_getElem? (i := 224) rfl) rfl
theorem ml8_67 : Cond.methodLink RX8 67 yX8_findLatest ∈ pWW := pw5 (List.mem_of_getElem? (i := 234) rfl) rfl
theorem ml8_78 : Cond.methodLink RX8 78 yX8_leansOnLost ∈ pWW := pw6 (List.mem_of_getElem? (i := 13) rfl) rfl
theorem ml8_82 : Cond.methodLink RX8 82 yX1_setWhere ∈ pWW := pw6 (List.mem_of_getElem? (i := 19) rfl) rfl
theorem dX8_share_0 : decode cX8_share 0 = .ok (.aload_n 0, 1) := by decide +kernel
theorem dX8_share_1 : decode cX8_share 1 = .ok (.getfield 34, 3) := by decide +kernel
theorem dX8_share_4 : decode cX8_share 4 = .ok (.aload_n 1, 1) := by decide +kernel
theorem dX8_share_5 : decode cX8_share 5 = .ok (.invokevirtual 38, 3) := by decide +kernel
theorem dX8_share_8 : decode cX8_share 8 = .ok (.aload_n 1, 1) := by decide +kernel
theorem dX8_share_9 : decode cX8_share 9 = .ok (.invokevirtual 44, 3) := by decide +kernel
theorem dX8_share_12 : decode cX8_share 12 = .ok (.sipush 192, 3) := by decide +kernel
theorem dX8_share_15 : decode cX8_share 15 = .ok (.invokestatic 50, 3) := by decide +kernel
theorem dX8_share_18 : decode cX8_share 18 = .ok (.istore_n 2, 1) := by decide +kernel
theorem dX8_share_19 : decode cX8_share 19 = .ok (.aload_n 0, 1) := by decide +kernel
theorem dX8_share_20 : decode cX8_share 20 = .ok (.aload_n 1, 1) := by decide +kernel
theorem dX8_share_21 : decode cX8_share 21 = .ok (.invokevirtual 56, 3) := by decide +kernel
theorem dX8_share_24 : decode cX8_share 24 = .ok (.aload_n 0, 1) := by decide +kernel
theorem dX8_share_25 : decode cX8_share 25 = .ok (.aload_n 1, 1) := by decide +kernel
theorem dX8_share_26 : decode cX8_share 26 = .ok (.iload_n 2, 1) := by decide +kernel
theorem dX8_share_27 : decode cX8_share 27 = .ok (.invokevirtual 59, 3) := by decide +kernel
theorem dX8_share_30 : decode cX8_share 30 = .ok (.aload_n 0, 1) := by decide +kernel
theorem dX8_share_31 : decode cX8_share 31 = .ok (.iload_n 2, 1) := by decide +kernel
theorem dX8_share_32 : decode cX8_share 32 = .ok (.invokevirtual 63, 3) := by decide +kernel
theorem dX8_share_35 : decode cX8_share 35 = .ok (.aload_n 0, 1) := by decide +kernel
theorem dX8_share_36 : decode cX8_share 36 = .ok (.aload_n 1, 1) := by decide +kernel
theorem dX8_share_37 : decode cX8_share 37 = .ok (.invokevirtual 67, 3) := by decide +kernel
theorem dX8_share_40 : decode cX8_share 40 = .ok (.iconst 0, 1) := by decide +kernel
theorem dX8_share_41 : decode cX8_share 41 = .ok (.istore_n 3, 1) := by decide +kernel
theorem dX8_share_42 : decode cX8_share 42 = .ok (.iload_n 3, 1) := by decide +kernel
theorem dX8_share_43 : decode cX8_share 43 = .ok (.aload_n 1, 1) := by decide +kernel
theorem dX8_share_44 : decode cX8_share 44 = .ok (.getfield 70, 3) := by decide +kernel
theorem dX8_share_47 : decode cX8_share 47 = .ok (.if_icmp .ge 38, 3) := by decide +kernel
theorem dX8_share_50 : decode cX8_share 50 = .ok (.aload_n 0, 1) := by decide +kernel
theorem dX8_share_51 : decode cX8_share 51 = .ok (.getfield 28, 3) := by decide +kernel
theorem dX8_share_54 : decode cX8_share 54 = .ok (.iload_n 3, 1) := by decide +kernel
theorem dX8_share_55 : decode cX8_share 55 = .ok (.invokestatic 74, 3) := by decide +kernel
theorem dX8_share_58 : decode cX8_share 58 = .ok (.ifCond .eq 21, 3) := by decide +kernel
theorem dX8_share_79 : decode cX8_share 79 = .ok (.iinc 3 1, 3) := by decide +kernel
theorem dX8_share_82 : decode cX8_share 82 = .ok (.goto (-40), 3) := by decide +kernel
theorem dX8_share_61 : decode cX8_share 61 = .ok (.aload_n 0, 1) := by decide +kernel
theorem dX8_share_62 : decode cX8_share 62 = .ok (.aload_n 1, 1) := by decide +kernel
theorem dX8_share_63 : decode cX8_share 63 = .ok (.iload_n 3, 1) := by decide +kernel
theorem dX8_share_64 : decode cX8_share 64 = .ok (.iload_n 2, 1) := by decide +kernel
theorem dX8_share_65 : decode cX8_share 65 = .ok (.invokevirtual 78, 3) := by decide +kernel
theorem dX8_share_68 : decode cX8_share 68 = .ok (.ifCond .eq 11, 3) := by decide +kernel
theorem dX8_share_71 : decode cX8_share 71 = .ok (.aload_n 1, 1) := by decide +kernel
theorem dX8_share_72 : decode cX8_share 72 = .ok (.iload_n 3, 1) := by decide +kernel
theorem dX8_share_73 : decode cX8_share 73 = .ok (.bipush 13, 2) := by decide +kernel
theorem dX8_share_75 : decode cX8_share 75 = .ok (.iconst 0, 1) := by decide +kernel
theorem dX8_share_76 : decode cX8_share 76 = .ok (.invokevirtual 82, 3) := by decide +kernel
set_option maxRecDepth 20000 in
theorem l_X8_share_42 (d : Nat) {T : CT} {σ0 : MS} {a : Nat} {rx1 : Nat} {c2 : Int} {post : Option Value → CT → MS → Prop} (h_a : OB T a 8) (h_rx1 : OB T rx1 1) (t_rx1 : (T rx1).1 = 50) (r_c2 : -2147483648 ≤ c2 ∧ c2 ≤ 192) (hw0 : WT T σ0) (hx_85 : ∀ (i3 : Int) (σ : MS) , (WT T σ) → (FrC T [] σ0 σ) → (0 ≤ i3 ∧ i3 ≤ 2147483647) → Tn (d + 5) m_X8_share 85 T σ [(0, .ref a), (1, .ref rx1), (2, .int (iI c2)), (3, .int (iI i3))] [] post) : ∀ (n : Nat) (i3 : Int) (σ : MS) , (WT T σ) → (FrC T [] σ0 σ) → (0 ≤ i3 ∧ i3 ≤ 2147483647) → (2147483700 - i3).toNat = n → Tn (d + 5) m_X8_share 42 T σ [(0, .ref a), (1, .ref rx1), (2, .int (iI c2)), (3, .int (iI i3))] [] post := by
  intro n
  induction n using Nat.strongRecOn with
  | _ n ih =>
    intro i3 σ hw hF r_i3 hm
    refine tn_iload_n dX8_share_42 rfl 3 rfl ?_
    refine tn_aload_n dX8_share_43 rfl 1 rfl ?_
    refine tn_getI (ci := 1) (i := 1) (n := 6) (t := σ0.2.1 6 rx1) dX8_share_44 rfl lay_1 (by decide) fl8_70 h_rx1 rfl rfl (rc_F hF (Or.inl (by decide)) (by decide) (rfl)) ?_
    have g1 : ((0 : Int) ≤ σ0.2.1 6 rx1 ∧ σ0.2.1 6 rx1 ≤ 5000) ∧ ((T rx1).1 = 50 → σ0.2.1 6 rx1 ≤ 200) := wf_6 hw0 h_rx1
    have g1x := g1.2
    replace g1 := g1.1
    have g1x := g1x t_rx1
    refine tn_icmp_ge (tgt := 85) dX8_share_47 (by decide) ⟨by omega, by omega⟩ ⟨by omega, by omega⟩ (fun h2 => ?_) (fun h2 => ?_)
    · exact tn_sub [0, 1, 2, 3] rfl (hx_85 (i3) σ hw (FrC.rfl.trans (FrC.sub hF (by decide))) (by omega))
    · refine tn_aload_n dX8_share_50 rfl 0 rfl ?_
      obtain ⟨x3, hx4, hk5, hl6⟩ : ∃ x : Nat, σ0.2.1 78 a = (x : Int) ∧ AR T x 1 201 201 := wf_78 hw0 h_a
      have hk5i : IA T x3 := by unfold IA; omega
      refine tn_getR (ci := 8) (i := 6) (n := 78) (x := x3) dX8_share_51 rfl lay_8 (by decide) fl8_28 h_a rfl rfl (rc_F hF (Or.inl (by decide)) (by decide) (hx4)) ?_
      refine tn_iload_n dX8_share_54 rfl 3 rfl ?_
      refine tn_callSN (M := m_X8_share) (pc := 55) (ix := 74) (M' := m_X11_at) (As := [.ref x3, .int (iI i3)]) (rest := []) dX8_share_55 ok_X11_at stt_X11_at nl8_74 np_X11_at rfl (Nat.le_of_ble_eq_true rfl) (Nat.le_of_ble_eq_true rfl) rfl (k_X11_at (d + 3) (T := T) (σ := σ) (x := x3) (i := i3) hk5i (by omega) (by omega) hw ) (fun r7 T9 σ8 gt10 hp => ?_)
      obtain ⟨v14, rfl, rfl, rfl, f11, f12, f13⟩ := hp
      clear gt10
      clear f12 f13
      show Tn _ _ 58 T σ [(0, .ref a), (1, .ref rx1), (2, .int (iI c2)), (3, .int (iI i3))] [.int (iI v14)] _
      refine tn_if_eq (tgt := 79) dX8_share_58 (by decide) ⟨by omega, by omega⟩ (fun h15 => ?_) (fun h15 => ?_)
      · refine tn_iinc (q0 := 3) (L' := [(3, .int (iI (i3 + 1))), (0, .ref a), (1, .ref rx1), (2, .int (iI c2))]) dX8_share_79 rfl (by decide) rfl ?_
        refine tn_goto (tgt := 42) dX8_share_82 (by decide) ?_
        exact tn_sub [1, 2, 3, 0] rfl (ih _ (by omega) (i3 + 1) σ hw (FrC.rfl.trans (FrC.sub hF (by decide))) (by omega) rfl)
      · refine tn_aload_n dX8_share_61 rfl 0 rfl ?_
        refine tn_aload_n dX8_share_62 rfl 1 rfl ?_
        refine tn_iload_n dX8_share_63 rfl 3 rfl ?_
        refine tn_iload_n dX8_share_64 rfl 2 rfl ?_
        refine tn_callV (M := m_X8_share) (pc := 65) (ix := 78) (ci := 8) (M' := m_X8_leansOnLost) (As := [.ref rx1, .int (iI i3), .int (iI c2)]) (rest := []) dX8_share_65 ok_X8_leansOnLost im_X8_leansOnLost se_X8_leansOnLost ml8_78 np_X8_leansOnLost rfl rfl h_a rfl (Nat.le_of_ble_eq_true rfl) (Nat.le_of_ble_eq_true rfl) rfl (k_X8_leansOnLost (d + 1) (T := T) (σ := σ) (a := a) (p1 := rx1) (p2 := i3) (p3 := c2) h_a h_rx1 t_rx1 (by omega) (by omega) hw ) (fun r16 T18 σ17 gt19 hp => ?_)
        obtain ⟨v21, rfl, rfl, rfl, f20⟩ := hp
        clear gt19
        show Tn _ _ 68 T σ [(0, .ref a), (1, .ref rx1), (2, .int (iI c2)), (3, .int (iI i3))] [.int (iI v21)] _
        refine tn_if_eq (tgt := 79) dX8_share_68 (by decide) ⟨by omega, by omega⟩ (fun h22 => ?_) (fun h22 => ?_)
        · refine tn_iinc (q0 := 3) (L' := [(3, .int (iI (i3 + 1))), (0, .ref a), (1, .ref rx1), (2, .int (iI c2))]) dX8_share_79 rfl (by decide) rfl ?_
          refine tn_goto (tgt := 42) dX8_share_82 (by decide) ?_
          exact tn_sub [1, 2, 3, 0] rfl (ih _ (by omega) (i3 + 1) σ hw (FrC.rfl.trans (FrC.sub hF (by decide))) (by omega) rfl)
        · refine tn_aload_n dX8_share_71 rfl 1 rfl ?_
          refine tn_iload_n dX8_share_72 rfl 3 rfl ?_
          refine tn_bipush dX8_share_73 (by decide) ?_
          refine tn_iconst dX8_share_75 ?_
          refine tn_callV (M := m_X8_share) (pc := 76) (ix := 82) (ci := 1) (M' := m_X1_setWhere) (As := [.int (iI i3), .int (iI 13), .int (iI 0)]) (rest := []) dX8_share_76 ok_X1_setWhere im_X1_setWhere se_X1_setWhere ml8_82 np_X1_setWhere rfl rfl h_rx1 rfl (Nat.le_of_ble_eq_true rfl) (Nat.le_of_ble_eq_true rfl) rfl (k_X1_setWhere (d + 2) (T := T) (σ := σ) (a := rx1) (k := i3) (y := 13) (z := 0) h_rx1 (by omega) (by decide) (by decide) hw ) (fun r23 T25 σ24 gt26 hp => ?_)
          obtain ⟨rfl, rfl, w28, F29⟩ := hp
          clear gt26
          show Tn _ _ 79 T σ24 [(0, .ref a), (1, .ref rx1), (2, .int (iI c2)), (3, .int (iI i3))] [] _
          refine tn_iinc (q0 := 3) (L' := [(3, .int (iI (i3 + 1))), (0, .ref a), (1, .ref rx1), (2, .int (iI c2))]) dX8_share_79 rfl (by decide) rfl ?_
          refine tn_goto (tgt := 42) dX8_share_82 (by decide) ?_
          exact tn_sub [1, 2, 3, 0] rfl (ih _ (by omega) (i3 + 1) σ24 w28 ((FrC.rfl.trans (FrC.sub hF (by decide))).trans (FrC.sub F29 (by decide))) (by omega) rfl)
theorem ml8_86 : Cond.methodLink RX8 86 yX8_renumber ∈ pWW := pw6 (List.mem_of_getElem? (i := 20) rfl) rfl
theorem dX8_share_85 : decode cX8_share 85 = .ok (.aload_n 0, 1) := by decide +kernel
theorem dX8_share_86 : decode cX8_share 86 = .ok (.aload_n 1, 1) := by decide +kernel
theorem dX8_share_87 : decode cX8_share 87 = .ok (.invokevirtual 86, 3) := by decide +kernel
theorem dX8_share_90 : decode cX8_share 90 = .ok (.aload_n 1, 1) := by decide +kernel
theorem dX8_share_91 : decode cX8_share 91 = .ok (.invokevirtual 44, 3) := by decide +kernel
theorem dX8_share_94 : decode cX8_share 94 = .ok (.ireturn, 1) := by decide +kernel
set_option maxRecDepth 20000 in
theorem k_X8_share (d : Nat) {T : CT} {σ : MS} {a : Nat} {p1 : Nat} (ha : OB T a 8) (h_p1 : OB T p1 1) (t_p1 : (T p1).1 = 50) (hw : WT T σ) : Tn (d + 5) m_X8_share 0 T σ [(0, .ref a), (1, .ref p1)] [] (fun ro T2 σ2 => ∃ v : Int, ro = some (.int (iI v)) ∧ T = T2 ∧ WT T2 σ2 ∧ FrC T [80] σ σ2 ∧ (-2147483648 ≤ v ∧ v ≤ 2147483647)) := by
  refine tn_aload_n dX8_share_0 rfl 0 rfl ?_
  obtain ⟨x1, hx2, hk3⟩ : ∃ x : Nat, σ.2.1 72 a = (x : Int) ∧ (T x).1 = 33 := wf_72 hw ha
  have hk3o : OB T x1 3 := ⟨by omega, by rw [hk3]; rfl, by omega⟩
  refine tn_getR (ci := 8) (i := 0) (n := 72) (x := x1) dX8_share_1 rfl lay_8 (by decide) fl8_34 ha rfl rfl (hx2) ?_
  refine tn_aload_n dX8_share_4 rfl 1 rfl ?_
  refine tn_callV (M := m_X8_share) (pc := 5) (ix := 38) (ci := 3) (M' := m_X3_findLiving) (As := [.ref p1]) (rest := []) dX8_share_5 ok_X3_findLiving im_X3_findLiving se_X3_findLiving ml8_38 np_X3_findLiving rfl rfl hk3o rfl (Nat.le_of_ble_eq_true rfl) (Nat.le_of_ble_eq_true rfl) rfl (k_X3_findLiving (d) (T := T) (σ := σ) (a := x1) (p1 := p1) hk3o h_p1 hw ) (fun r5 T7 σ6 gt8 hp => ?_)
  obtain ⟨rfl, rfl, w10, F11⟩ := hp
  clear gt8
  show Tn _ _ 8 T σ6 [(0, .ref a), (1, .ref p1)] [] _
  refine tn_aload_n dX8_share_8 rfl 1 rfl ?_
  refine tn_callV (M := m_X8_share) (pc := 9) (ix := 44) (ci := 1) (M' := m_X1_registers) (As := []) (rest := []) dX8_share_9 ok_X1_registers im_X1_registers se_X1_registers ml8_44 np_X1_registers rfl rfl h_p1 rfl (Nat.le_of_ble_eq_true rfl) (Nat.le_of_ble_eq_true rfl) rfl (k_X1_registers (d) (T := T) (σ := σ6) (a := p1) h_p1 w10 ) (fun r12 T14 σ13 gt15 hp => ?_)
  obtain ⟨v17, rfl, rfl, rfl, f16⟩ := hp
  clear gt15
  show Tn _ _ 12 T σ6 [(0, .ref a), (1, .ref p1)] [.int (iI v17)] _
  refine tn_sipush dX8_share_12 (by decide) ?_
  refine tn_mmin (x := v17) (y := 192) dX8_share_15 mlm8_50 stM_min iniM cdM_min (by omega) (Nat.le_of_ble_eq_true rfl) ⟨by omega, by omega⟩ ⟨by omega, by omega⟩ (fun z18 g19 => ?_)
  refine tn_istore_n (L' := [(2, .int (iI z18)), (0, .ref a), (1, .ref p1)]) dX8_share_18 rfl (by decide) rfl ?_
  refine tn_aload_n dX8_share_19 rfl 1 rfl ?_
  refine tn_aload_n dX8_share_20 rfl 2 rfl ?_
  refine tn_callV (M := m_X8_share) (pc := 21) (ix := 56) (ci := 8) (M' := m_X8_findFirst) (As := [.ref p1]) (rest := []) dX8_share_21 ok_X8_findFirst im_X8_findFirst se_X8_findFirst ml8_56 np_X8_findFirst rfl rfl ha rfl (Nat.le_of_ble_eq_true rfl) (Nat.le_of_ble_eq_true rfl) rfl (k_X8_findFirst (d + 1) (T := T) (σ := σ6) (a := a) (p1 := p1) ha h_p1 t_p1 w10 ) (fun r20 T22 σ21 gt23 hp => ?_)
  obtain ⟨rfl, rfl, w25, F26⟩ := hp
  clear gt23
  show Tn _ _ 24 T σ21 [(2, .int (iI z18)), (0, .ref a), (1, .ref p1)] [] _
  refine tn_aload_n dX8_share_24 rfl 1 rfl ?_
  refine tn_aload_n dX8_share_25 rfl 2 rfl ?_
  refine tn_iload_n dX8_share_26 rfl 0 rfl ?_
  refine tn_callV (M := m_X8_share) (pc := 27) (ix := 59) (ci := 8) (M' := m_X8_findOdds) (As := [.ref p1, .int (iI z18)]) (rest := []) dX8_share_27 ok_X8_findOdds im_X8_findOdds se_X8_findOdds ml8_59 np_X8_findOdds rfl rfl ha rfl (Nat.le_of_ble_eq_true rfl) (Nat.le_of_ble_eq_true rfl) rfl (k_X8_findOdds (d) (T := T) (σ := σ21) (a := a) (p1 := p1) (p2 := z18) ha h_p1 t_p1 (by omega) w25 ) (fun r27 T29 σ28 gt30 hp => ?_)
  obtain ⟨rfl, rfl, w32, F33⟩ := hp
  clear gt30
  show Tn _ _ 30 T σ28 [(2, .int (iI z18)), (0, .ref a), (1, .ref p1)] [] _
  refine tn_aload_n dX8_share_30 rfl 1 rfl ?_
  refine tn_iload_n dX8_share_31 rfl 0 rfl ?_
  refine tn_callV (M := m_X8_share) (pc := 32) (ix := 63) (ci := 8) (M' := m_X8_numberAnew) (As := [.int (iI z18)]) (rest := []) dX8_share_32 ok_X8_numberAnew im_X8_numberAnew se_X8_numberAnew ml8_63 np_X8_numberAnew rfl rfl ha rfl (Nat.le_of_ble_eq_true rfl) (Nat.le_of_ble_eq_true rfl) rfl (k_X8_numberAnew (d) (T := T) (σ := σ28) (a := a) (p1 := z18) ha (by omega) w32 ) (fun r34 T36 σ35 gt37 hp => ?_)
  obtain ⟨rfl, rfl, w39, F40⟩ := hp
  clear gt37
  show Tn _ _ 35 T σ35 [(2, .int (iI z18)), (0, .ref a), (1, .ref p1)] [] _
  refine tn_aload_n dX8_share_35 rfl 1 rfl ?_
  refine tn_aload_n dX8_share_36 rfl 2 rfl ?_
  refine tn_callV (M := m_X8_share) (pc := 37) (ix := 67) (ci := 8) (M' := m_X8_findLatest) (As := [.ref p1]) (rest := []) dX8_share_37 ok_X8_findLatest im_X8_findLatest se_X8_findLatest ml8_67 np_X8_findLatest rfl rfl ha rfl (Nat.le_of_ble_eq_true rfl) (Nat.le_of_ble_eq_true rfl) rfl (k_X8_findLatest (d) (T := T) (σ := σ35) (a := a) (p1 := p1) ha h_p1 t_p1 w39 ) (fun r41 T43 σ42 gt44 hp => ?_)
  obtain ⟨rfl, rfl, w46, F47⟩ := hp
  clear gt44
  show Tn _ _ 40 T σ42 [(2, .int (iI z18)), (0, .ref a), (1, .ref p1)] [] _
  refine tn_iconst dX8_share_40 ?_
  refine tn_istore_n (L' := [(3, .int (iI 0)), (2, .int (iI z18)), (0, .ref a), (1, .ref p1)]) dX8_share_41 rfl (by decide) rfl ?_
  refine tn_sub [2, 3, 1, 0] rfl (l_X8_share_42 (d) (T := T) (σ0 := σ42) (a := a) (rx1 := p1) (c2 := z18) ha h_p1 t_p1 (by omega) w46 (fun i348 σ49 w52 F53 r54 => ?_) _ (0) σ42 w46 FrC.rfl (by omega) rfl)
  show Tn _ _ 85 T σ49 [(0, .ref a), (1, .ref p1), (2, .int (iI z18)), (3, .int (iI i348))] [] _
  refine tn_aload_n dX8_share_85 rfl 0 rfl ?_
  refine tn_aload_n dX8_share_86 rfl 1 rfl ?_
  refine tn_callV (M := m_X8_share) (pc := 87) (ix := 86) (ci := 8) (M' := m_X8_renumber) (As := [.ref p1]) (rest := []) dX8_share_87 ok_X8_renumber im_X8_renumber se_X8_renumber ml8_86 np_X8_renumber rfl rfl ha rfl (Nat.le_of_ble_eq_true rfl) (Nat.le_of_ble_eq_true rfl) rfl (k_X8_renumber (d + 1) (T := T) (σ := σ49) (a := a) (p1 := p1) ha h_p1 t_p1 w52 ) (fun r55 T57 σ56 gt58 hp => ?_)
  obtain ⟨rfl, rfl, w60, F61⟩ := hp
  clear gt58
  show Tn _ _ 90 T σ56 [(0, .ref a), (1, .ref p1), (2, .int (iI z18)), (3, .int (iI i348))] [] _
  refine tn_aload_n dX8_share_90 rfl 1 rfl ?_
  refine tn_callV (M := m_X8_share) (pc := 91) (ix := 44) (ci := 1) (M' := m_X1_registers) (As := []) (rest := []) dX8_share_91 ok_X1_registers im_X1_registers se_X1_registers ml8_44 np_X1_registers rfl rfl h_p1 rfl (Nat.le_of_ble_eq_true rfl) (Nat.le_of_ble_eq_true rfl) rfl (k_X1_registers (d) (T := T) (σ := σ56) (a := p1) h_p1 w60 ) (fun r62 T64 σ63 gt65 hp => ?_)
  obtain ⟨v67, rfl, rfl, rfl, f66⟩ := hp
  clear gt65
  show Tn _ _ 94 T σ56 [(0, .ref a), (1, .ref p1), (2, .int (iI z18)), (3, .int (iI i348))] [.int (iI v67)] _
  exact tn_iret rfl dX8_share_94 ⟨_, rfl, rfl, w60, (((((((FrC.rfl.trans (FrC.sub F11 (by decide))).trans (FrC.sub F26 (by decide))).trans (FrC.sub F33 (by decide))).trans (FrC.sub F40 (by decide))).trans (FrC.sub F47 (by decide))).trans (FrC.sub F53 (by decide))).trans (FrC.sub F61 (by decide))), by omega⟩
