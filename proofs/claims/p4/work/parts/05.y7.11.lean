theorem cd_X2_dropUnreached : Cond.code yX2_dropUnreached cX2_dropUnreached 4 (some .int) ∈ pWW := pw4 (List.mem_of_getElem? (i := 237) rfl) rfl
abbrev m_X2_dropUnreached : MT := (yX2_dropUnreached, cX2_dropUnreached, 4, (some .int))
theorem ok_X2_dropUnreached : pOk m_X2_dropUnreached := ⟨⟨cd_X2_dropUnreached, ini_2⟩, by decide +kernel, ⟨by decide +kernel, by decide +kernel⟩, Nat.le_of_ble_eq_true rfl⟩
theorem np_X2_dropUnreached : (parseMethodDescriptor yX2_dropUnreached.desc).map (fun d => d.parameters.length) = some 1 := by decide +kernel
theorem im_X2_dropUnreached : Cond.instanceMethod yX2_dropUnreached ∈ pWW := pw4 (List.mem_of_getElem? (i := 236) rfl) rfl
theorem se_X2_dropUnreached : Cond.selects RX2 yX2_dropUnreached yX2_dropUnreached ∈ pWW := pws (List.mem_map.mpr ⟨_, lw_pin 50 rfl, rfl⟩) rfl
theorem nl2_57 : (RX2, 57, yX11_isAct, "LineKeeper") ∈ nst_M := List.mem_of_getElem? (i := 23) rfl
theorem ml2_37 : Cond.methodLink RX2 37 yX1_removeRow ∈ pWW := pw5 (List.mem_of_getElem? (i := 20) rfl) rfl
theorem dX2_dropUnreached_0 : decode cX2_dropUnreached 0 = .ok (.aload_n 0, 1) := by decide +kernel
theorem dX2_dropUnreached_1 : decode cX2_dropUnreached 1 = .ok (.getfield 9, 3) := by decide +kernel
theorem dX2_dropUnreached_4 : decode cX2_dropUnreached 4 = .ok (.aload_n 1, 1) := by decide +kernel
theorem dX2_dropUnreached_5 : decode cX2_dropUnreached 5 = .ok (.iconst 0, 1) := by decide +kernel
theorem dX2_dropUnreached_6 : decode cX2_dropUnreached 6 = .ok (.iconst (-1), 1) := by decide +kernel
theorem dX2_dropUnreached_7 : decode cX2_dropUnreached 7 = .ok (.invokevirtual 41, 3) := by decide +kernel
theorem dX2_dropUnreached_10 : decode cX2_dropUnreached 10 = .ok (.iconst 0, 1) := by decide +kernel
theorem dX2_dropUnreached_11 : decode cX2_dropUnreached 11 = .ok (.istore_n 2, 1) := by decide +kernel
theorem dX2_dropUnreached_12 : decode cX2_dropUnreached 12 = .ok (.aload_n 1, 1) := by decide +kernel
theorem dX2_dropUnreached_13 : decode cX2_dropUnreached 13 = .ok (.getfield 45, 3) := by decide +kernel
theorem dX2_dropUnreached_16 : decode cX2_dropUnreached 16 = .ok (.iconst 1, 1) := by decide +kernel
theorem dX2_dropUnreached_17 : decode cX2_dropUnreached 17 = .ok (.isub, 1) := by decide +kernel
theorem dX2_dropUnreached_18 : decode cX2_dropUnreached 18 = .ok (.istore_n 3, 1) := by decide +kernel
theorem dX2_dropUnreached_19 : decode cX2_dropUnreached 19 = .ok (.iload_n 3, 1) := by decide +kernel
theorem dX2_dropUnreached_20 : decode cX2_dropUnreached 20 = .ok (.ifCond .lt 45, 3) := by decide +kernel
theorem dX2_dropUnreached_23 : decode cX2_dropUnreached 23 = .ok (.aload_n 0, 1) := by decide +kernel
theorem dX2_dropUnreached_24 : decode cX2_dropUnreached 24 = .ok (.getfield 9, 3) := by decide +kernel
theorem dX2_dropUnreached_27 : decode cX2_dropUnreached 27 = .ok (.iload_n 3, 1) := by decide +kernel
theorem dX2_dropUnreached_28 : decode cX2_dropUnreached 28 = .ok (.invokevirtual 49, 3) := by decide +kernel
theorem dX2_dropUnreached_31 : decode cX2_dropUnreached 31 = .ok (.ifCond .ne 28, 3) := by decide +kernel
theorem dX2_dropUnreached_59 : decode cX2_dropUnreached 59 = .ok (.iinc 3 (-1), 3) := by decide +kernel
theorem dX2_dropUnreached_62 : decode cX2_dropUnreached 62 = .ok (.goto (-43), 3) := by decide +kernel
theorem dX2_dropUnreached_34 : decode cX2_dropUnreached 34 = .ok (.iload_n 2, 1) := by decide +kernel
theorem dX2_dropUnreached_35 : decode cX2_dropUnreached 35 = .ok (.aload_n 1, 1) := by decide +kernel
theorem dX2_dropUnreached_36 : decode cX2_dropUnreached 36 = .ok (.iload_n 3, 1) := by decide +kernel
theorem dX2_dropUnreached_37 : decode cX2_dropUnreached 37 = .ok (.iconst 0, 1) := by decide +kernel
theorem dX2_dropUnreached_38 : decode cX2_dropUnreached 38 = .ok (.invokevirtual 53, 3) := by decide +kernel
theorem dX2_dropUnreached_41 : decode cX2_dropUnreached 41 = .ok (.invokestatic 57, 3) := by decide +kernel
theorem dX2_dropUnreached_44 : decode cX2_dropUnreached 44 = .ok (.ifCond .eq 7, 3) := by decide +kernel
theorem dX2_dropUnreached_51 : decode cX2_dropUnreached 51 = .ok (.iconst 0, 1) := by decide +kernel
theorem dX2_dropUnreached_52 : decode cX2_dropUnreached 52 = .ok (.iadd, 1) := by decide +kernel
theorem dX2_dropUnreached_53 : decode cX2_dropUnreached 53 = .ok (.istore_n 2, 1) := by decide +kernel
theorem dX2_dropUnreached_54 : decode cX2_dropUnreached 54 = .ok (.aload_n 1, 1) := by decide +kernel
theorem dX2_dropUnreached_55 : decode cX2_dropUnreached 55 = .ok (.iload_n 3, 1) := by decide +kernel
theorem dX2_dropUnreached_56 : decode cX2_dropUnreached 56 = .ok (.invokevirtual 37, 3) := by decide +kernel
theorem dX2_dropUnreached_47 : decode cX2_dropUnreached 47 = .ok (.iconst 1, 1) := by decide +kernel
theorem dX2_dropUnreached_48 : decode cX2_dropUnreached 48 = .ok (.goto 4, 3) := by decide +kernel
set_option maxRecDepth 20000 in
theorem l_X2_dropUnreached_19 (d : Nat) {T : CT} {σ0 : MS} {a : Nat} {rx1 : Nat} {post : Option Value → CT → MS → Prop} (h_a : OB T a 2) (h_rx1 : OB T rx1 1) (t_rx1 : (T rx1).1 = 50) (hw0 : WT T σ0) (hx_65 : ∀ (i2 : Int) (i3 : Int) (σ : MS) , (WT T σ) → (FrC T [6] σ0 σ) → (-2147483648 ≤ i2 ∧ i2 ≤ 2147483647) → (-1 ≤ i3 ∧ i3 ≤ 199) → Tn (d + 5) m_X2_dropUnreached 65 T σ [(0, .ref a), (1, .ref rx1), (2, .int (iI i2)), (3, .int (iI i3))] [] post) : ∀ (n : Nat) (i2 : Int) (i3 : Int) (σ : MS) , (WT T σ) → (FrC T [6] σ0 σ) → (-2147483648 ≤ i2 ∧ i2 ≤ 2147483647) → (-1 ≤ i3 ∧ i3 ≤ 199) → (i3 + 20).toNat = n → Tn (d + 5) m_X2_dropUnreached 19 T σ [(0, .ref a), (1, .ref rx1), (2, .int (iI i2)), (3, .int (iI i3))] [] post := by
  intro n
  induction n using Nat.strongRecOn with
  | _ n ih =>
    intro i2 i3 σ hw hF r_i2 r_i3 hm
    refine tn_iload_n dX2_dropUnreached_19 rfl 3 rfl ?_
    refine tn_if_lt (tgt := 65) dX2_dropUnreached_20 (by decide) ⟨by omega, by omega⟩ (fun h1 => ?_) (fun h1 => ?_)
    · exact tn_sub [0, 1, 2, 3] rfl (hx_65 (i2) (i3) σ hw (FrC.rfl.trans (FrC.sub hF (by decide))) (by omega) (by omega))
    · refine tn_aload_n dX2_dropUnreached_23 rfl 0 rfl ?_
      obtain ⟨x2, hx3, hk4⟩ : ∃ x : Nat, σ0.2.1 17 a = (x : Int) ∧ (T x).1 = 33 := wf_17 hw0 h_a
      have hk4o : OB T x2 3 := ⟨by omega, by rw [hk4]; rfl, by omega⟩
      refine tn_getR (ci := 2) (i := 0) (n := 17) (x := x2) dX2_dropUnreached_24 rfl lay_2 (by decide) fl2_9 h_a rfl rfl (rc_F hF (Or.inl (by decide)) (by decide) (hx3)) ?_
      refine tn_iload_n dX2_dropUnreached_27 rfl 3 rfl ?_
      refine tn_callV (M := m_X2_dropUnreached) (pc := 28) (ix := 49) (ci := 3) (M' := m_X3_isSeen) (As := [.int (iI i3)]) (rest := []) dX2_dropUnreached_28 ok_X3_isSeen im_X3_isSeen se_X3_isSeen ml2_49 np_X3_isSeen rfl rfl hk4o rfl (Nat.le_of_ble_eq_true rfl) (Nat.le_of_ble_eq_true rfl) rfl (k_X3_isSeen (d + 2) (T := T) (σ := σ) (a := x2) (p1 := i3) hk4o (by omega) hw ) (fun r6 T8 σ7 gt9 hp => ?_)
      obtain ⟨v11, rfl, rfl, rfl, f10⟩ := hp
      clear gt9
      show Tn _ _ 31 T σ [(0, .ref a), (1, .ref rx1), (2, .int (iI i2)), (3, .int (iI i3))] [.int (iI v11)] _
      refine tn_if_ne (tgt := 59) dX2_dropUnreached_31 (by decide) ⟨by omega, by omega⟩ (fun h12 => ?_) (fun h12 => ?_)
      · refine tn_iinc (q0 := 3) (L' := [(3, .int (iI (i3 + (-1)))), (0, .ref a), (1, .ref rx1), (2, .int (iI i2))]) dX2_dropUnreached_59 rfl (by decide) rfl ?_
        refine tn_goto (tgt := 19) dX2_dropUnreached_62 (by decide) ?_
        exact tn_sub [1, 2, 3, 0] rfl (ih _ (by omega) (i2) (i3 + (-1)) σ hw (FrC.rfl.trans (FrC.sub hF (by decide))) (by omega) (by omega) rfl)
      · refine tn_iload_n dX2_dropUnreached_34 rfl 2 rfl ?_
        refine tn_aload_n dX2_dropUnreached_35 rfl 1 rfl ?_
        refine tn_iload_n dX2_dropUnreached_36 rfl 3 rfl ?_
        refine tn_iconst dX2_dropUnreached_37 ?_
        refine tn_callV (M := m_X2_dropUnreached) (pc := 38) (ix := 53) (ci := 1) (M' := m_X1_get) (As := [.int (iI i3), .int (iI 0)]) (rest := [.int (iI i2)]) dX2_dropUnreached_38 ok_X1_get im_X1_get se_X1_get ml2_53 np_X1_get rfl rfl h_rx1 rfl (Nat.le_of_ble_eq_true rfl) (Nat.le_of_ble_eq_true rfl) rfl (k_X1_get (d + 3) (T := T) (σ := σ) (a := rx1) (k := i3) (c := 0) h_rx1 (by omega) (by decide) hw (by omega)) (fun r13 T15 σ14 gt16 hp => ?_)
        obtain ⟨v18, rfl, rfl, rfl, f17⟩ := hp
        clear gt16
        show Tn _ _ 41 T σ [(0, .ref a), (1, .ref rx1), (2, .int (iI i2)), (3, .int (iI i3))] [.int (iI v18), .int (iI i2)] _
        refine tn_callSN (M := m_X2_dropUnreached) (pc := 41) (ix := 57) (M' := m_X11_isAct) (As := [.int (iI v18)]) (rest := [.int (iI i2)]) dX2_dropUnreached_41 ok_X11_isAct stt_X11_isAct nl2_57 np_X11_isAct rfl (Nat.le_of_ble_eq_true rfl) (Nat.le_of_ble_eq_true rfl) rfl (k_X11_isAct (d + 3) (T := T) (σ := σ) (k := v18) (by omega) hw ) (fun r19 T21 σ20 gt22 hp => ?_)
        obtain ⟨v24, rfl, rfl, rfl, f23⟩ := hp
        clear gt22
        show Tn _ _ 44 T σ [(0, .ref a), (1, .ref rx1), (2, .int (iI i2)), (3, .int (iI i3))] [.int (iI v24), .int (iI i2)] _
        refine tn_if_eq (tgt := 51) dX2_dropUnreached_44 (by decide) ⟨by omega, by omega⟩ (fun h25 => ?_) (fun h25 => ?_)
        · refine tn_iconst dX2_dropUnreached_51 ?_
          refine tn_iadd dX2_dropUnreached_52 ?_
          refine tn_istore_n (L' := [(2, .int (iI (i2 + 0))), (0, .ref a), (1, .ref rx1), (3, .int (iI i3))]) dX2_dropUnreached_53 rfl (by decide) rfl ?_
          refine tn_aload_n dX2_dropUnreached_54 rfl 2 rfl ?_
          refine tn_iload_n dX2_dropUnreached_55 rfl 3 rfl ?_
          refine tn_callV (M := m_X2_dropUnreached) (pc := 56) (ix := 37) (ci := 1) (M' := m_X1_removeRow) (As := [.int (iI i3)]) (rest := []) dX2_dropUnreached_56 ok_X1_removeRow im_X1_removeRow se_X1_removeRow ml2_37 np_X1_removeRow rfl rfl h_rx1 rfl (Nat.le_of_ble_eq_true rfl) (Nat.le_of_ble_eq_true rfl) rfl (k_X1_removeRow (d + 3) (T := T) (σ := σ) (a := rx1) (k := i3) h_rx1 t_rx1 (by omega) hw ) (fun r26 T28 σ27 gt29 hp => ?_)
          obtain ⟨rfl, rfl, w31, F32⟩ := hp
          clear gt29
          show Tn _ _ 59 T σ27 [(2, .int (iI (i2 + 0))), (0, .ref a), (1, .ref rx1), (3, .int (iI i3))] [] _
          refine tn_iinc (q0 := 3) (L' := [(3, .int (iI (i3 + (-1)))), (2, .int (iI (i2 + 0))), (0, .ref a), (1, .ref rx1)]) dX2_dropUnreached_59 rfl (by decide) rfl ?_
          refine tn_goto (tgt := 19) dX2_dropUnreached_62 (by decide) ?_
          exact tn_sub [2, 3, 1, 0] rfl (ih _ (by omega) (i2 + 0) (i3 + (-1)) σ27 w31 ((FrC.rfl.trans (FrC.sub hF (by decide))).trans (FrC.sub F32 (by decide))) (by omega) (by omega) rfl)
        · refine tn_iconst dX2_dropUnreached_47 ?_
          refine tn_goto (tgt := 52) dX2_dropUnreached_48 (by decide) ?_
          refine tn_iadd dX2_dropUnreached_52 ?_
          refine tn_any (fun z33 g34 => ?_)
          have g34r : -2147483648 ≤ z33 ∧ z33 ≤ 2147483647 := g34
          refine tn_istore_n (L' := [(2, .int (iI z33)), (0, .ref a), (1, .ref rx1), (3, .int (iI i3))]) dX2_dropUnreached_53 rfl (by decide) rfl ?_
          refine tn_aload_n dX2_dropUnreached_54 rfl 2 rfl ?_
          refine tn_iload_n dX2_dropUnreached_55 rfl 3 rfl ?_
          refine tn_callV (M := m_X2_dropUnreached) (pc := 56) (ix := 37) (ci := 1) (M' := m_X1_removeRow) (As := [.int (iI i3)]) (rest := []) dX2_dropUnreached_56 ok_X1_removeRow im_X1_removeRow se_X1_removeRow ml2_37 np_X1_removeRow rfl rfl h_rx1 rfl (Nat.le_of_ble_eq_true rfl) (Nat.le_of_ble_eq_true rfl) rfl (k_X1_removeRow (d + 3) (T := T) (σ := σ) (a := rx1) (k := i3) h_rx1 t_rx1 (by omega) hw ) (fun r35 T37 σ36 gt38 hp => ?_)
          obtain ⟨rfl, rfl, w40, F41⟩ := hp
          clear gt38
          show Tn _ _ 59 T σ36 [(2, .int (iI z33)), (0, .ref a), (1, .ref rx1), (3, .int (iI i3))] [] _
          refine tn_iinc (q0 := 3) (L' := [(3, .int (iI (i3 + (-1)))), (2, .int (iI z33)), (0, .ref a), (1, .ref rx1)]) dX2_dropUnreached_59 rfl (by decide) rfl ?_
          refine tn_goto (tgt := 19) dX2_dropUnreached_62 (by decide) ?_
          exact tn_sub [2, 3, 1, 0] rfl (ih _ (by omega) (z33) (i3 + (-1)) σ36 w40 ((FrC.rfl.trans (FrC.sub hF (by decide))).trans (FrC.sub F41 (by decide))) (by omega) (by omega) rfl)
theorem dX2_dropUnreached_65 : decode cX2_dropUnreached 65 = .ok (.iload_n 2, 1) := by decide +kernel
theorem dX2_dropUnreached_66 : decode cX2_dropUnreached 66 = .ok (.ireturn, 1) := by decide +kernel
set_option maxRecDepth 20000 in
theorem k_X2_dropUnreached (d : Nat) {T : CT} {σ : MS} {a : Nat} {p1 : Nat} (ha : OB T a 2) (h_p1 : OB T p1 1) (t_p1 : (T p1).1 = 50) (hw : WT T σ) : Tn (d + 5) m_X2_dropUnreached 0 T σ [(0, .ref a), (1, .ref p1)] [] (fun ro T2 σ2 => ∃ v : Int, ro = some (.int (iI v)) ∧ T = T2 ∧ WT T2 σ2 ∧ FrC T [6, 22] σ σ2 ∧ (-2147483648 ≤ v ∧ v ≤ 2147483647)) := by
  refine tn_aload_n dX2_dropUnreached_0 rfl 0 rfl ?_
  obtain ⟨x1, hx2, hk3⟩ : ∃ x : Nat, σ.2.1 17 a = (x : Int) ∧ (T x).1 = 33 := wf_17 hw ha
  have hk3o : OB T x1 3 := ⟨by omega, by rw [hk3]; rfl, by omega⟩
  refine tn_getR (ci := 2) (i := 0) (n := 17) (x := x1) dX2_dropUnreached_1 rfl lay_2 (by decide) fl2_9 ha rfl rfl (hx2) ?_
  refine tn_aload_n dX2_dropUnreached_4 rfl 1 rfl ?_
  refine tn_iconst dX2_dropUnreached_5 ?_
  refine tn_iconst dX2_dropUnreached_6 ?_
  refine tn_callV (M := m_X2_dropUnreached) (pc := 7) (ix := 41) (ci := 3) (M' := m_X3_seeFrom) (As := [.ref p1, .int (iI 0), .int (iI (-1))]) (rest := []) dX2_dropUnreached_7 ok_X3_seeFrom im_X3_seeFrom se_X3_seeFrom ml2_41 np_X3_seeFrom rfl rfl hk3o rfl (Nat.le_of_ble_eq_true rfl) (Nat.le_of_ble_eq_true rfl) rfl (k_X3_seeFrom (d) (T := T) (σ := σ) (a := x1) (p1 := p1) (p2 := 0) (p3 := -1) hk3o h_p1 (by decide) (by decide) hw ) (fun r5 T7 σ6 gt8 hp => ?_)
  obtain ⟨rfl, rfl, w10, F11⟩ := hp
  clear gt8
  show Tn _ _ 10 T σ6 [(0, .ref a), (1, .ref p1)] [] _
  refine tn_iconst dX2_dropUnreached_10 ?_
  refine tn_istore_n (L' := [(2, .int (iI 0)), (0, .ref a), (1, .ref p1)]) dX2_dropUnreached_11 rfl (by decide) rfl ?_
  refine tn_aload_n dX2_dropUnreached_12 rfl 2 rfl ?_
  refine tn_getI (ci := 1) (i := 1) (n := 6) (t := σ.2.1 6 p1) dX2_dropUnreached_13 rfl lay_1 (by decide) fl2_45 h_p1 rfl rfl (rc_F F11 (Or.inl (by decide)) (by decide) (rfl)) ?_
  have g12 : ((0 : Int) ≤ σ.2.1 6 p1 ∧ σ.2.1 6 p1 ≤ 5000) ∧ ((T p1).1 = 50 → σ.2.1 6 p1 ≤ 200) := wf_6 hw h_p1
  have g12x := g12.2
  replace g12 := g12.1
  have g12x := g12x t_p1
  refine tn_iconst dX2_dropUnreached_16 ?_
  refine tn_isub dX2_dropUnreached_17 ?_
  refine tn_istore_n (L' := [(3, .int (iI ((σ.2.1 6 p1) - 1))), (2, .int (iI 0)), (0, .ref a), (1, .ref p1)]) dX2_dropUnreached_18 rfl (by decide) rfl ?_
  refine tn_sub [2, 3, 1, 0] rfl (l_X2_dropUnreached_19 (d) (T := T) (σ0 := σ6) (a := a) (rx1 := p1) ha h_p1 t_p1 w10 (fun i213 i314 σ15 w18 F19 r20 r21 => ?_) _ (0) ((σ.2.1 6 p1) - 1) σ6 w10 FrC.rfl (by omega) (by omega) rfl)
  show Tn _ _ 65 T σ15 [(0, .ref a), (1, .ref p1), (2, .int (iI i213)), (3, .int (iI i314))] [] _
  refine tn_iload_n dX2_dropUnreached_65 rfl 2 rfl ?_
  exact tn_iret rfl dX2_dropUnreached_66 ⟨_, rfl, rfl, w18, ((FrC.rfl.trans (FrC.sub F11 (by decide))).trans (FrC.sub F19 (by decide))), by omega⟩
