theorem cd_X2_drop : Cond.code yX2_drop cX2_drop 5 (some .int) ∈ pWW := pw4 (List.mem_of_getElem? (i := 233) rfl) rfl
abbrev m_X2_drop : MT := (yX2_drop, cX2_drop, 5, (some .int))
theorem ok_X2_drop : pOk m_X2_drop := ⟨⟨cd_X2_drop, ini_2⟩, by decide +kernel, ⟨by decide +kernel, by decide +kernel⟩, Nat.le_of_ble_eq_true rfl⟩
theorem np_X2_drop : (parseMethodDescriptor yX2_drop.desc).map (fun d => d.parameters.length) = some 1 := by decide +kernel
theorem im_X2_drop : Cond.instanceMethod yX2_drop ∈ pWW := pw4 (List.mem_of_getElem? (i := 231) rfl) rfl
theorem se_X2_drop : Cond.selects RX2 yX2_drop yX2_drop ∈ pWW := pw4 (List.mem_of_getElem? (i := 232) rfl) rfl
theorem ml2_15 : Cond.methodLink RX2 15 yX2_dropUnreached ∈ pWW := pw4 (List.mem_of_getElem? (i := 234) rfl) rfl
theorem ml2_19 : Cond.methodLink RX2 19 yX1_link ∈ pWW := pw5 (List.mem_of_getElem? (i := 21) rfl) rfl
theorem ml2_24 : Cond.methodLink RX2 24 yX3_findLiving ∈ pWW := pw5 (List.mem_of_getElem? (i := 22) rfl) rfl
theorem ml2_30 : Cond.methodLink RX2 30 yX2_lastUnread ∈ pWW := pw5 (List.mem_of_getElem? (i := 59) rfl) rfl
theorem ml2_33 : Cond.methodLink RX2 33 yX2_loosenBinds ∈ pWW := pw5 (List.mem_of_getElem? (i := 71) rfl) rfl
theorem dX2_drop_0 : decode cX2_drop 0 = .ok (.aload_n 0, 1) := by decide +kernel
theorem dX2_drop_1 : decode cX2_drop 1 = .ok (.aload_n 1, 1) := by decide +kernel
theorem dX2_drop_2 : decode cX2_drop 2 = .ok (.invokevirtual 15, 3) := by decide +kernel
theorem dX2_drop_5 : decode cX2_drop 5 = .ok (.istore_n 2, 1) := by decide +kernel
theorem dX2_drop_6 : decode cX2_drop 6 = .ok (.aload_n 1, 1) := by decide +kernel
theorem dX2_drop_7 : decode cX2_drop 7 = .ok (.invokevirtual 19, 3) := by decide +kernel
theorem dX2_drop_10 : decode cX2_drop 10 = .ok (.iconst 0, 1) := by decide +kernel
theorem dX2_drop_11 : decode cX2_drop 11 = .ok (.istore_n 3, 1) := by decide +kernel
theorem dX2_drop_12 : decode cX2_drop 12 = .ok (.iload_n 3, 1) := by decide +kernel
theorem dX2_drop_13 : decode cX2_drop 13 = .ok (.sipush 200, 3) := by decide +kernel
theorem dX2_drop_16 : decode cX2_drop 16 = .ok (.if_icmp .ge 53, 3) := by decide +kernel
theorem dX2_drop_19 : decode cX2_drop 19 = .ok (.aload_n 0, 1) := by decide +kernel
theorem dX2_drop_20 : decode cX2_drop 20 = .ok (.getfield 9, 3) := by decide +kernel
theorem dX2_drop_23 : decode cX2_drop 23 = .ok (.aload_n 1, 1) := by decide +kernel
theorem dX2_drop_24 : decode cX2_drop 24 = .ok (.invokevirtual 24, 3) := by decide +kernel
theorem dX2_drop_27 : decode cX2_drop 27 = .ok (.aload_n 0, 1) := by decide +kernel
theorem dX2_drop_28 : decode cX2_drop 28 = .ok (.aload_n 1, 1) := by decide +kernel
theorem dX2_drop_29 : decode cX2_drop 29 = .ok (.invokevirtual 30, 3) := by decide +kernel
theorem dX2_drop_32 : decode cX2_drop 32 = .ok (.istore 4, 2) := by decide +kernel
theorem dX2_drop_34 : decode cX2_drop 34 = .ok (.iload 4, 2) := by decide +kernel
theorem dX2_drop_36 : decode cX2_drop 36 = .ok (.iconst (-1), 1) := by decide +kernel
theorem dX2_drop_37 : decode cX2_drop 37 = .ok (.if_icmp .ne 6, 3) := by decide +kernel
theorem dX2_drop_43 : decode cX2_drop 43 = .ok (.aload_n 0, 1) := by decide +kernel
theorem dX2_drop_44 : decode cX2_drop 44 = .ok (.aload_n 1, 1) := by decide +kernel
theorem dX2_drop_45 : decode cX2_drop 45 = .ok (.iload 4, 2) := by decide +kernel
theorem dX2_drop_47 : decode cX2_drop 47 = .ok (.invokevirtual 33, 3) := by decide +kernel
theorem dX2_drop_50 : decode cX2_drop 50 = .ok (.aload_n 1, 1) := by decide +kernel
theorem dX2_drop_51 : decode cX2_drop 51 = .ok (.iload 4, 2) := by decide +kernel
theorem dX2_drop_53 : decode cX2_drop 53 = .ok (.invokevirtual 37, 3) := by decide +kernel
theorem dX2_drop_56 : decode cX2_drop 56 = .ok (.aload_n 1, 1) := by decide +kernel
theorem dX2_drop_57 : decode cX2_drop 57 = .ok (.invokevirtual 19, 3) := by decide +kernel
theorem dX2_drop_60 : decode cX2_drop 60 = .ok (.iinc 2 1, 3) := by decide +kernel
theorem dX2_drop_63 : decode cX2_drop 63 = .ok (.iinc 3 1, 3) := by decide +kernel
theorem dX2_drop_66 : decode cX2_drop 66 = .ok (.goto (-54), 3) := by decide +kernel
set_option maxRecDepth 20000 in
theorem l_X2_drop_12 (d : Nat) {T : CT} {σ0 : MS} {a : Nat} {rx1 : Nat} {post : Option Value → CT → MS → Prop} (h_a : OB T a 2) (h_rx1 : OB T rx1 1) (t_rx1 : (T rx1).1 = 50) (hw0 : WT T σ0) (hx_40 : ∀ (i2 : Int) (i3 : Int) (σ : MS) , (WT T σ) → (FrC T [6, 22] σ0 σ) → (-2147483648 ≤ i2 ∧ i2 ≤ 2147483647) → (0 ≤ i3 ∧ i3 ≤ 2147483647) → Tn (d + 6) m_X2_drop 40 T σ [(0, .ref a), (1, .ref rx1), (2, .int (iI i2)), (3, .int (iI i3))] [] post) (hx_69 : ∀ (i2 : Int) (i3 : Int) (σ : MS) , (WT T σ) → (FrC T [6, 22] σ0 σ) → (-2147483648 ≤ i2 ∧ i2 ≤ 2147483647) → (0 ≤ i3 ∧ i3 ≤ 2147483647) → Tn (d + 6) m_X2_drop 69 T σ [(0, .ref a), (1, .ref rx1), (2, .int (iI i2)), (3, .int (iI i3))] [] post) : ∀ (n : Nat) (i2 : Int) (i3 : Int) (σ : MS) , (WT T σ) → (FrC T [6, 22] σ0 σ) → (-2147483648 ≤ i2 ∧ i2 ≤ 2147483647) → (0 ≤ i3 ∧ i3 ≤ 2147483647) → (2147483700 - i3).toNat = n → Tn (d + 6) m_X2_drop 12 T σ [(0, .ref a), (1, .ref rx1), (2, .int (iI i2)), (3, .int (iI i3))] [] post := by
  intro n
  induction n using Nat.strongRecOn with
  | _ n ih =>
    intro i2 i3 σ hw hF r_i2 r_i3 hm
    refine tn_iload_n dX2_drop_12 rfl 3 rfl ?_
    refine tn_sipush dX2_drop_13 (by decide) ?_
    refine tn_icmp_ge (tgt := 69) dX2_drop_16 (by decide) ⟨by omega, by omega⟩ ⟨by decide, by decide⟩ (fun h1 => ?_) (fun h1 => ?_)
    · exact tn_sub [0, 1, 2, 3] rfl (hx_69 (i2) (i3) σ hw (FrC.rfl.trans (FrC.sub hF (by decide))) (by omega) (by omega))
    · refine tn_aload_n dX2_drop_19 rfl 0 rfl ?_
      obtain ⟨x2, hx3, hk4⟩ : ∃ x : Nat, σ0.2.1 17 a = (x : Int) ∧ (T x).1 = 33 := wf_17 hw0 h_a
      have hk4o : OB T x2 3 := ⟨by omega, by rw [hk4]; rfl, by omega⟩
      refine tn_getR (ci := 2) (i := 0) (n := 17) (x := x2) dX2_drop_20 rfl lay_2 (by decide) fl2_9 h_a rfl rfl (rc_F hF (Or.inl (by decide)) (by decide) (hx3)) ?_
      refine tn_aload_n dX2_drop_23 rfl 1 rfl ?_
      refine tn_callV (M := m_X2_drop) (pc := 24) (ix := 24) (ci := 3) (M' := m_X3_findLiving) (As := [.ref rx1]) (rest := []) dX2_drop_24 ok_X3_findLiving im_X3_findLiving se_X3_findLiving ml2_24 np_X3_findLiving rfl rfl hk4o rfl (Nat.le_of_ble_eq_true rfl) (Nat.le_of_ble_eq_true rfl) rfl (k_X3_findLiving (d + 1) (T := T) (σ := σ) (a := x2) (p1 := rx1) hk4o h_rx1 hw ) (fun r6 T8 σ7 gt9 hp => ?_)
      obtain ⟨rfl, rfl, w11, F12⟩ := hp
      clear gt9
      show Tn _ _ 27 T σ7 [(0, .ref a), (1, .ref rx1), (2, .int (iI i2)), (3, .int (iI i3))] [] _
      refine tn_aload_n dX2_drop_27 rfl 0 rfl ?_
      refine tn_aload_n dX2_drop_28 rfl 1 rfl ?_
      refine tn_callV (M := m_X2_drop) (pc := 29) (ix := 30) (ci := 2) (M' := m_X2_lastUnread) (As := [.ref rx1]) (rest := []) dX2_drop_29 ok_X2_lastUnread im_X2_lastUnread se_X2_lastUnread ml2_30 np_X2_lastUnread rfl rfl h_a rfl (Nat.le_of_ble_eq_true rfl) (Nat.le_of_ble_eq_true rfl) rfl (k_X2_lastUnread (d + 1) (T := T) (σ := σ7) (a := a) (p1 := rx1) h_a h_rx1 t_rx1 w11 ) (fun r13 T15 σ14 gt16 hp => ?_)
      obtain ⟨v18, rfl, rfl, rfl, f17⟩ := hp
      clear gt16
      show Tn _ _ 32 T σ7 [(0, .ref a), (1, .ref rx1), (2, .int (iI i2)), (3, .int (iI i3))] [.int (iI v18)] _
      refine tn_istore (L' := [(4, .int (iI v18)), (0, .ref a), (1, .ref rx1), (2, .int (iI i2)), (3, .int (iI i3))]) dX2_drop_32 (by decide) rfl ?_
      refine tn_iload dX2_drop_34 0 rfl ?_
      refine tn_iconst dX2_drop_36 ?_
      refine tn_icmp_ne (tgt := 43) dX2_drop_37 (by decide) ⟨by omega, by omega⟩ ⟨by decide, by decide⟩ (fun h19 => ?_) (fun h19 => ?_)
      · refine tn_aload_n dX2_drop_43 rfl 1 rfl ?_
        refine tn_aload_n dX2_drop_44 rfl 2 rfl ?_
        refine tn_iload dX2_drop_45 0 rfl ?_
        refine tn_callV (M := m_X2_drop) (pc := 47) (ix := 33) (ci := 2) (M' := m_X2_loosenBinds) (As := [.ref rx1, .int (iI v18)]) (rest := []) dX2_drop_47 ok_X2_loosenBinds im_X2_loosenBinds se_X2_loosenBinds ml2_33 np_X2_loosenBinds rfl rfl h_a rfl (Nat.le_of_ble_eq_true rfl) (Nat.le_of_ble_eq_true rfl) rfl (k_X2_loosenBinds (d) (T := T) (σ := σ7) (a := a) (p1 := rx1) (p2 := v18) h_a h_rx1 t_rx1 (by omega) w11 ) (fun r20 T22 σ21 gt23 hp => ?_)
        obtain ⟨rfl, rfl, w25, F26⟩ := hp
        clear gt23
        show Tn _ _ 50 T σ21 [(4, .int (iI v18)), (0, .ref a), (1, .ref rx1), (2, .int (iI i2)), (3, .int (iI i3))] [] _
        refine tn_aload_n dX2_drop_50 rfl 2 rfl ?_
        refine tn_iload dX2_drop_51 0 rfl ?_
        refine tn_callV (M := m_X2_drop) (pc := 53) (ix := 37) (ci := 1) (M' := m_X1_removeRow) (As := [.int (iI v18)]) (rest := []) dX2_drop_53 ok_X1_removeRow im_X1_removeRow se_X1_removeRow ml2_37 np_X1_removeRow rfl rfl h_rx1 rfl (Nat.le_of_ble_eq_true rfl) (Nat.le_of_ble_eq_true rfl) rfl (k_X1_removeRow (d + 4) (T := T) (σ := σ21) (a := rx1) (k := v18) h_rx1 t_rx1 (by omega) w25 ) (fun r27 T29 σ28 gt30 hp => ?_)
        obtain ⟨rfl, rfl, w32, F33⟩ := hp
        clear gt30
        show Tn _ _ 56 T σ28 [(4, .int (iI v18)), (0, .ref a), (1, .ref rx1), (2, .int (iI i2)), (3, .int (iI i3))] [] _
        refine tn_aload_n dX2_drop_56 rfl 2 rfl ?_
        refine tn_callV (M := m_X2_drop) (pc := 57) (ix := 19) (ci := 1) (M' := m_X1_link) (As := []) (rest := []) dX2_drop_57 ok_X1_link im_X1_link se_X1_link ml2_19 np_X1_link rfl rfl h_rx1 rfl (Nat.le_of_ble_eq_true rfl) (Nat.le_of_ble_eq_true rfl) rfl (k_X1_link (d + 2) (T := T) (σ := σ28) (a := rx1) h_rx1 w32 ) (fun r34 T36 σ35 gt37 hp => ?_)
        obtain ⟨rfl, rfl, w39, F40⟩ := hp
        clear gt37
        show Tn _ _ 60 T σ35 [(4, .int (iI v18)), (0, .ref a), (1, .ref rx1), (2, .int (iI i2)), (3, .int (iI i3))] [] _
        refine tn_iinc (q0 := 3) (L' := [(2, .int (iI (i2 + 1))), (4, .int (iI v18)), (0, .ref a), (1, .ref rx1), (3, .int (iI i3))]) dX2_drop_60 rfl (by decide) rfl ?_
        obtain ⟨z41, g42, g42e⟩ := wr_ex (i2 + 1)
        rw [g42e]
        have g42r : -2147483648 ≤ z41 ∧ z41 ≤ 2147483647 := g42
        refine tn_iinc (q0 := 4) (L' := [(3, .int (iI (i3 + 1))), (2, .int (iI z41)), (4, .int (iI v18)), (0, .ref a), (1, .ref rx1)]) dX2_drop_63 rfl (by decide) rfl ?_
        refine tn_goto (tgt := 12) dX2_drop_66 (by decide) ?_
        exact tn_sub [3, 4, 1, 0] rfl (ih _ (by omega) (z41) (i3 + 1) σ35 w39 (((((FrC.rfl.trans (FrC.sub hF (by decide))).trans (FrC.sub F12 (by decide))).trans (FrC.sub F26 (by decide))).trans (FrC.sub F33 (by decide))).trans (FrC.sub F40 (by decide))) (by omega) (by omega) rfl)
      · exact tn_sub [1, 2, 3, 4] rfl (hx_40 (i2) (i3) σ7 w11 ((FrC.rfl.trans (FrC.sub hF (by decide))).trans (FrC.sub F12 (by decide))) (by omega) (by omega))
theorem dX2_drop_40 : decode cX2_drop 40 = .ok (.goto 29, 3) := by decide +kernel
theorem dX2_drop_69 : decode cX2_drop 69 = .ok (.iload_n 2, 1) := by decide +kernel
theorem dX2_drop_70 : decode cX2_drop 70 = .ok (.ireturn, 1) := by decide +kernel
set_option maxRecDepth 20000 in
theorem k_X2_drop (d : Nat) {T : CT} {σ : MS} {a : Nat} {p1 : Nat} (ha : OB T a 2) (h_p1 : OB T p1 1) (t_p1 : (T p1).1 = 50) (hw : WT T σ) : Tn (d + 6) m_X2_drop 0 T σ [(0, .ref a), (1, .ref p1)] [] (fun ro T2 σ2 => ∃ v : Int, ro = some (.int (iI v)) ∧ T = T2 ∧ WT T2 σ2 ∧ FrC T [6, 22] σ σ2 ∧ (-2147483648 ≤ v ∧ v ≤ 2147483647)) := by
  refine tn_aload_n dX2_drop_0 rfl 0 rfl ?_
  refine tn_aload_n dX2_drop_1 rfl 1 rfl ?_
  refine tn_callV (M := m_X2_drop) (pc := 2) (ix := 15) (ci := 2) (M' := m_X2_dropUnreached) (As := [.ref p1]) (rest := []) dX2_drop_2 ok_X2_dropUnreached im_X2_dropUnreached se_X2_dropUnreached ml2_15 np_X2_dropUnreached rfl rfl ha rfl (Nat.le_of_ble_eq_true rfl) (Nat.le_of_ble_eq_true rfl) rfl (k_X2_dropUnreached (d) (T := T) (σ := σ) (a := a) (p1 := p1) ha h_p1 t_p1 hw ) (fun r1 T3 σ2 gt4 hp => ?_)
  obtain ⟨v6, rfl, rfl, w7, F8, f5⟩ := hp
  clear gt4
  show Tn _ _ 5 T σ2 [(0, .ref a), (1, .ref p1)] [.int (iI v6)] _
  refine tn_istore_n (L' := [(2, .int (iI v6)), (0, .ref a), (1, .ref p1)]) dX2_drop_5 rfl (by decide) rfl ?_
  refine tn_aload_n dX2_drop_6 rfl 2 rfl ?_
  refine tn_callV (M := m_X2_drop) (pc := 7) (ix := 19) (ci := 1) (M' := m_X1_link) (As := []) (rest := []) dX2_drop_7 ok_X1_link im_X1_link se_X1_link ml2_19 np_X1_link rfl rfl h_p1 rfl (Nat.le_of_ble_eq_true rfl) (Nat.le_of_ble_eq_true rfl) rfl (k_X1_link (d + 2) (T := T) (σ := σ2) (a := p1) h_p1 w7 ) (fun r9 T11 σ10 gt12 hp => ?_)
  obtain ⟨rfl, rfl, w14, F15⟩ := hp
  clear gt12
  show Tn _ _ 10 T σ10 [(2, .int (iI v6)), (0, .ref a), (1, .ref p1)] [] _
  refine tn_iconst dX2_drop_10 ?_
  refine tn_istore_n (L' := [(3, .int (iI 0)), (2, .int (iI v6)), (0, .ref a), (1, .ref p1)]) dX2_drop_11 rfl (by decide) rfl ?_
  refine tn_sub [2, 3, 1, 0] rfl (l_X2_drop_12 (d) (T := T) (σ0 := σ10) (a := a) (rx1 := p1) ha h_p1 t_p1 w14 (fun i216 i317 σ18 w21 F22 r23 r24 => ?_) (fun i225 i326 σ27 w30 F31 r32 r33 => ?_) _ (v6) (0) σ10 w14 FrC.rfl (by omega) (by omega) rfl)
  · show Tn _ _ 40 T σ18 [(0, .ref a), (1, .ref p1), (2, .int (iI i216)), (3, .int (iI i317))] [] _
    refine tn_goto (tgt := 69) dX2_drop_40 (by decide) ?_
    refine tn_iload_n dX2_drop_69 rfl 2 rfl ?_
    exact tn_iret rfl dX2_drop_70 ⟨_, rfl, rfl, w21, (((FrC.rfl.trans (FrC.sub F8 (by decide))).trans (FrC.sub F15 (by decide))).trans (FrC.sub F22 (by decide))), by omega⟩
  · show Tn _ _ 69 T σ27 [(0, .ref a), (1, .ref p1), (2, .int (iI i225)), (3, .int (iI i326))] [] _
    refine tn_iload_n dX2_drop_69 rfl 2 rfl ?_
    exact tn_iret rfl dX2_drop_70 ⟨_, rfl, rfl, w30, (((FrC.rfl.trans (FrC.sub F8 (by decide))).trans (FrC.sub F15 (by decide))).trans (FrC.sub F31 (by decide))), by omega⟩
